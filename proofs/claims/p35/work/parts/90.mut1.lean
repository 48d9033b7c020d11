/-! ===== calls that change rows ===== -/
def NW (C : Nat → Prop) (ω σ : AH) : Prop := (∀ j, j = 0 ∨ j = 6 ∨ j = 16 ∨ j = 23 ∨ j = 36 ∨ j = 43 → ¬ C j → zI ω 33 j = zI σ 33 j) ∧ (¬ C 47 → zI ω 47 = zI σ 47 ∧ zI ω 49 = zI σ 49) ∧ zI ω 73 = zI σ 73 ∧ zI ω 74 = zI σ 74
abbrev N0 : Nat → Prop := fun _ => False
theorem NW_of {C : Nat → Prop} {ω τ σ : AH} (hw : GW ω τ) (hO : RO τ σ) (h1 : ∀ j, j = 0 ∨ j = 6 ∨ j = 16 ∨ j = 23 ∨ j = 36 ∨ j = 43 → ¬ C j → zI ω 33 j = zI τ 33 j) (h2 : ¬ C 47 → zI ω 47 = zI τ 47 ∧ zI ω 49 = zI τ 49) : NW C ω σ :=
  ⟨fun j hj hc => (h1 j hj hc).trans (RO_3 hO j (by omega)), fun hc => ⟨(h2 hc).1.trans (RO_f hO 47 (by decide) (by decide)), (h2 hc).2.trans (RO_f hO 49 (by decide) (by decide))⟩, funext fun j => ((hw.2.2.2.2 73 (by omega) j).1).trans (hO.1 73 j (by omega) (by omega) (by omega) (by omega)), funext fun j => ((hw.2.2.2.2 74 (by omega) j).1).trans (hO.1 74 j (by omega) (by omega) (by omega) (by omega))⟩
theorem NW_RO {ω σ : AH} (hO : RO ω σ) : NW N0 ω σ := ⟨fun j hj _ => RO_3 hO j (by omega), fun _ => ⟨RO_f hO 47 (by decide) (by decide), RO_f hO 49 (by decide) (by decide)⟩, funext fun j => hO.1 73 j (by omega) (by omega) (by omega) (by omega), funext fun j => hO.1 74 j (by omega) (by omega) (by omega) (by omega)⟩
theorem GE_NW {s : Nat} {ω σ : AH} (h : NW N0 ω σ) (hG : GE s σ) : GE s ω := by
  obtain ⟨h1, h2, h3, h4⟩ := h
  obtain ⟨h5, h6⟩ := h2 id
  unfold GE at hG ⊢
  rw [h1 0 (by omega) id, h1 6 (by omega) id, h1 16 (by omega) id, h1 23 (by omega) id, h1 36 (by omega) id, h1 43 (by omega) id, h3, h4, h5, h6]
  exact hG
/-- the rows that Cr reads -/
def CI (a : Nat) : Prop := a = 37 ∨ a = 38 ∨ a = 41 ∨ (50 ≤ a ∧ a ≤ 52) ∨ (54 ≤ a ∧ a ≤ 58) ∨ (61 ≤ a ∧ a ≤ 67)
theorem Cr_cg {s : Nat} {ω τ : AH} (h1 : ∀ a j, CI a → zI ω a j = zI τ a j) (h2 : ∀ j, j = 0 ∨ j = 6 ∨ j = 14 ∨ j = 23 ∨ j = 36 ∨ j = 43 → zI ω 33 j = zI τ 33 j) (h3 : ∀ a j, a = 70 ∨ a = 71 ∨ a = 33 → zJ ω a j = zJ τ a j) (h : Cr s τ) : Cr s ω := by
  have e : ∀ a, CI a → zI ω a = zI τ a := fun a ha => funext fun j => h1 a j ha
  have j : ∀ a, a = 70 ∨ a = 71 ∨ a = 33 → zJ ω a = zJ τ a := fun a ha => funext fun j => h3 a j ha
  unfold Cr TB TK CP BL MN NM at h ⊢
  rw [h2 6 (by decide), h2 14 (by decide), h2 23 (by decide), h2 36 (by decide), h2 43 (by decide), h2 0 (by decide), e 41 (by unfold CI; omega), e 37 (by unfold CI; omega), e 38 (by unfold CI; omega), e 50 (by unfold CI; omega), e 51 (by unfold CI; omega), e 52 (by unfold CI; omega), e 54 (by unfold CI; omega), e 55 (by unfold CI; omega), e 56 (by unfold CI; omega), e 57 (by unfold CI; omega), e 58 (by unfold CI; omega), e 61 (by unfold CI; omega), e 62 (by unfold CI; omega), e 63 (by unfold CI; omega), e 64 (by unfold CI; omega), e 65 (by unfold CI; omega), e 66 (by unfold CI; omega), e 67 (by unfold CI; omega), j 70 (by decide), j 71 (by decide), j 33 (by decide)]
  exact h
/-- the same, the tariff apart -/
def CJ (a : Nat) : Prop := (50 ≤ a ∧ a ≤ 52) ∨ (54 ≤ a ∧ a ≤ 58) ∨ (61 ≤ a ∧ a ≤ 67)
theorem Cr_cgT {s : Nat} {ω τ : AH} (hT : TB ω) (h1 : ∀ a j, CJ a → zI ω a j = zI τ a j) (h2 : ∀ j, j = 0 ∨ j = 23 ∨ j = 36 ∨ j = 43 → zI ω 33 j = zI τ 33 j) (h3 : ∀ a j, a = 70 ∨ a = 71 ∨ a = 33 → zJ ω a j = zJ τ a j) (h : Cr s τ) : Cr s ω := by
  have e : ∀ a, CJ a → zI ω a = zI τ a := fun a ha => funext fun j => h1 a j ha
  have j : ∀ a, a = 70 ∨ a = 71 ∨ a = 33 → zJ ω a = zJ τ a := fun a ha => funext fun j => h3 a j ha
  refine ⟨hT, ?_⟩
  have h := h.2
  unfold TK CP BL MN NM at h ⊢
  rw [h2 23 (by decide), h2 36 (by decide), h2 43 (by decide), h2 0 (by decide), e 50 (by unfold CJ; omega), e 51 (by unfold CJ; omega), e 52 (by unfold CJ; omega), e 54 (by unfold CJ; omega), e 55 (by unfold CJ; omega), e 56 (by unfold CJ; omega), e 57 (by unfold CJ; omega), e 58 (by unfold CJ; omega), e 61 (by unfold CJ; omega), e 62 (by unfold CJ; omega), e 63 (by unfold CJ; omega), e 64 (by unfold CJ; omega), e 65 (by unfold CJ; omega), e 66 (by unfold CJ; omega), e 67 (by unfold CJ; omega), j 70 (by decide), j 71 (by decide), j 33 (by decide)]
  exact h
section MU
variable {g : GP} {μ : MI} {as : List Value} {σ : AH} {S : AH → AH → Option Value → Prop} {Q' : AH → Int32 → Prop}
theorem mu_int {es : List Int32} (hg : gG g = none) (h : Rel 200 σ) (hA : GA4 σ) (hR : ∀ g' : GP, CtH g' μ as σ (RQ es (fun k τ => Gh S τ (RE 200 k)))) (hgw : ∀ τ ω rv, S τ ω rv → GW ω τ ∧ zJ ω 72 0 = zJ τ 72 0)
    (h0 : ∀ τ ω b, RO τ σ → S τ ω (some (.int b)) → zI ω 33 49 = 0 → GW ω τ → Rel 201 ω → GA4 ω → Q' ω b) (hx : ∀ τ ω rv (j : Nat) c, RO τ σ → es[j]? = some c → S τ ω rv → zI ω 33 49 = nI (j + 1) → GW ω τ → Rel 201 ω → GA4 ω → Q' ω c) : CtH g μ as σ (fun ω rv => ∃ y, rv = some (.int y) ∧ Q' ω y) := by
  refine CtH_gs hg (GA_GK h.2.1 hA) hR (fun τ rv hq hF => ?_)
  obtain ⟨hSτ, hq⟩ := hq
  have hO := RO_F hF
  have hAτ := GA_F hA hF
  rcases hq with ⟨y, rfl, ω, rv', hS, h49, hRel, b, rfl, hb⟩ | ⟨j, c, hc, rfl, ω, rv', hS, h49, hRel, -⟩
  · obtain ⟨w, w72⟩ := hgw _ ω _ hS
    have ey : y = b := l_inj ((w72.trans out_I).symm.trans (hb rfl))
    have w2 := GW_tr w GW_72
    exact ⟨ω, GW_GSh hSτ w2, y, rfl, by rw [ey]; exact h0 _ ω b (RO_72 hO) hS h49 w hRel (GA_W hAτ w2)⟩
  · obtain ⟨w, -⟩ := hgw _ ω _ hS
    exact ⟨ω, GW_GSh hSτ w, c, rfl, hx _ ω rv' j c hO hc hS h49 w hRel (GA_W hAτ w)⟩
theorem mu_v {es : List Int32} (hg : gG g = none) (h : Rel 200 σ) (hA : GA4 σ) (hR : ∀ g' : GP, CtH g' μ as σ (RQv es (fun k τ => Gh S τ (REv 200 k)))) (hgw : ∀ τ ω rv, S τ ω rv → GW ω τ ∧ zJ ω 72 0 = zJ τ 72 0)
    (h0 : ∀ τ ω rv, RO τ σ → S τ ω rv → zI ω 33 49 = 0 → GW ω τ → Rel 201 ω → GA4 ω → Q' ω 0) (hx : ∀ τ ω rv (j : Nat) c, RO τ σ → es[j]? = some c → S τ ω rv → zI ω 33 49 = nI (j + 1) → GW ω τ → Rel 201 ω → GA4 ω → Q' ω c) : CtH g μ as σ (fun ω rv => ∃ y, rv = some (.int y) ∧ Q' ω y) := by
  refine CtH_gs hg (GA_GK h.2.1 hA) hR (fun τ rv hq hF => ?_)
  obtain ⟨hSτ, hq⟩ := hq
  have hO := RO_F hF
  have hAτ := GA_F hA hF
  rcases hq with ⟨rfl, ω, rv', hS, h49, hRel, -⟩ | ⟨j, c, hc, rfl, ω, rv', hS, h49, hRel, -⟩
  · obtain ⟨w, -⟩ := hgw _ ω _ hS
    exact ⟨ω, GW_GSh hSτ w, 0, rfl, h0 _ ω rv' hO hS h49 w hRel (GA_W hAτ w)⟩
  · obtain ⟨w, -⟩ := hgw _ ω _ hS
    exact ⟨ω, GW_GSh hSτ w, c, rfl, hx _ ω rv' j c hO hc hS h49 w hRel (GA_W hAτ w)⟩
end MU
/-- a refusal that leaves all as it was -/
theorem Kp_no {ω τ σ : AH} (h : Rel 200 σ) (hO : RO τ σ) (hw : RW ω τ) (hr : Rel 201 ω) (hA : GA4 ω) : Kp ω σ := by
  have o := RO_tr (RW_RO hw) hO
  exact ⟨Rel_sm h hr (RO_3 o 43 (by decide)), hA, o⟩
theorem Co_of {s t : Nat} {ω τ σ : AH} (h : Co s σ) (hO : RO τ σ) (ht : t ≤ 100) (e : zI ω 33 43 = zI τ 33 43) (hr : Rel 201 ω) (hA : GA4 ω) (hc : Cr s τ → Cr t ω) : Co t ω := ⟨ht, Rel_sm h.2.1 hr (e.trans (RO_3 hO 43 (by decide))), hA, hc (Cr_RO hO h.2.2.2)⟩
section TELL
variable {g : GP} {σ : AH} {s : Nat}
theorem P_miles {v1 v2 v3 : Int32} (hg : gG g = none) (h : Co s σ) (h1 : isPl v1) (h2 : isPl v2) (h3 : ¬ v1 = v2) (h4 : isWi v3 1 9999) : CtH g mL_miles [.ref 2, .int v1, .int v2, .int v3] σ (fun ω rv => ∃ y, rv = some (.int y) ∧ y = zI σ 34 (p2 v1 v2) ∧ Co s ω ∧ NW N0 ω σ ∧ zI ω 34 (p2 v2 v1) = v3) := by
  refine mu_int hg h.2.1 h.2.2.1 (fun g' => R_miles (by decide) h.2.1) (fun τ ω rv hS => ?_) (fun τ ω b hO hS h49 hw hr hA => ?_) (fun τ ω rv j c hO hc hS h49 hw hr hA => ?_)
  · obtain ⟨-, -, q⟩ := hS
    obtain ⟨rfl, -⟩ := q ⟨h1, h2⟩ ⟨h3, h4⟩
    exact ⟨GW_uI (by decide) (GW_uI (by decide) (GW_uI (by decide) (GW_refl τ))), rfl⟩
  · obtain ⟨-, -, q⟩ := hS
    obtain ⟨rfl, e⟩ := q ⟨h1, h2⟩ ⟨h3, h4⟩
    cases e
    have r : ∀ a j, a ≠ 34 → ¬ (a = 33 ∧ j = 49) → zI (uI (uI (uI τ 33 49 0) 34 (p2 v1 v2) v3) 34 (p2 v2 v1) v3) a j = zI τ a j := fun a j q1 q2 => by
      rw [zI_uI, if_neg (by omega), zI_uI, if_neg (by omega), zI_uI, if_neg q2]
    exact ⟨RO_f hO 34 (by decide) (by decide) ▸ rfl, Co_of h hO h.1 (r 33 43 (by decide) (by decide)) hr hA (Cr_cg (fun a j ha => r a j (by unfold CI at ha; omega) (by unfold CI at ha; omega)) (fun j hj => r 33 j (by decide) (by omega)) (fun _ _ _ => rfl)), NW_of hw hO (fun j hj _ => r 33 j (by decide) (by omega)) (fun _ => ⟨funext fun j => r 47 j (by decide) (by omega), funext fun j => r 49 j (by decide) (by omega)⟩), by rw [zI_uI, if_pos ⟨rfl, rfl⟩]⟩
  · obtain ⟨-, -, q⟩ := hS
    obtain ⟨rfl, -⟩ := q ⟨h1, h2⟩ ⟨h3, h4⟩
    rw [zI_uI, if_neg (by omega), zI_uI, if_neg (by omega), i49] at h49
    exact absurd h49 (no49 (by decide) hc)
theorem Rel_nf (h : Rel 200 σ) : ∃ nf, nf ≤ 40 ∧ zI σ 33 6 = nI nf := by
  obtain ⟨nf, h1, h2, -⟩ := h.2.2.1
  exact ⟨nf, h1, h2⟩
theorem P_fare {v1 v2 v3 v4 v5 v6 : Int32} (hg : gG g = none) (h : Co s σ) (h1 : isPl v1) (h2 : isPl v2) (h3 : ¬ v1 = v2) (h4 : isWi v3 1 50000) (h5 : isWi v4 0 999) (h6 : isWi v5 v4 999) (h7 : isWi v6 0 7) : CtH g mL_fare [.ref 2, .int v1, .int v2, .int v3, .int v4, .int v5, .int v6] σ (fun ω rv => ∃ y, rv = some (.int y) ∧ ((y = -1000003 ∧ zI σ 33 6 = 40 ∧ Kp ω σ) ∨ (y = zI σ 33 6 ∧ Co s ω ∧ NW (fun j => j = 6) ω σ ∧ ∃ nf, nf < 40 ∧ zI σ 33 6 = nI nf ∧ zI ω 33 6 = nI (nf + 1)))) := by
  obtain ⟨nf, n1, n2⟩ := Rel_nf h.2.1
  have hv : isWi v3 1 1000000 := ⟨h4.1, fun q => h4.2 (by
    rw [Int32.lt_iff_toInt_lt] at q ⊢
    exact Int.lt_trans (by decide) q)⟩
  have hb := bt_wi h4
  refine mu_int hg h.2.1 h.2.2.1 (fun g' => R_fare (by decide) h.2.1) (fun τ ω rv hS => ?_) (fun τ ω b hO hS h49 hw hr hA => ?_) (fun τ ω rv j c hO hc hS h49 hw hr hA => ?_)
  · obtain ⟨-, -, q3, q⟩ := hS
    by_cases c : ¬ 40 ≤ zI τ 33 6
    · obtain ⟨rfl, -⟩ := q ⟨h1, h2⟩ ⟨h3, hv, h5, h6, h7⟩ c
      exact ⟨GW_uI (by decide) (GW_uI (by decide) (GW_uI (by decide) (GW_uI (by decide) (GW_uI (by decide) (GW_uI (by decide) (GW_uI (by decide) (GW_uI (by decide) (GW_refl τ)))))))), rfl⟩
    · obtain ⟨rfl, -⟩ := q3 ⟨h1, h2⟩ ⟨h3, hv, h5, h6, h7⟩ c
      exact ⟨GW_uI (by decide) (GW_refl τ), rfl⟩
  · obtain ⟨-, -, q3, q⟩ := hS
    have e6 : zI τ 33 6 = nI nf := (RO_3 hO 6 (by decide)).trans n2
    by_cases c : ¬ 40 ≤ zI τ 33 6
    · obtain ⟨rfl, e⟩ := q ⟨h1, h2⟩ ⟨h3, hv, h5, h6, h7⟩ c
      cases e
      have c' : nf < 40 := by
        rw [e6, Int32.le_iff_toInt_le, nI_toInt (by omega)] at c
        change ¬ (40 : Int) ≤ _ at c
        omega
      have fN : faN τ = nf := by rw [faN, e6]; exact cl0 (by omega)
      rw [fN] at hw hr hA ⊢
      have r : ∀ a j, a < 39 ∨ 44 < a → ¬ (a = 33 ∧ (j = 49 ∨ j = 6)) → zI (uI (uI (uI (uI (uI (uI (uI (uI τ 33 49 0) 39 nf v1) 40 nf v2) 41 nf v3) 42 nf v4) 43 nf v5) 44 nf v6) 33 6 (zI τ 33 6 + 1)) a j = zI τ a j := fun a j q1 q2 => by
        rw [zI_uI, if_neg (by omega), zI_uI, if_neg (by omega), zI_uI, if_neg (by omega), zI_uI, if_neg (by omega), zI_uI, if_neg (by omega), zI_uI, if_neg (by omega), zI_uI, if_neg (by omega), zI_uI, if_neg (by omega)]
      have r6 : zI (uI (uI (uI (uI (uI (uI (uI (uI τ 33 49 0) 39 nf v1) 40 nf v2) 41 nf v3) 42 nf v4) 43 nf v5) 44 nf v6) 33 6 (zI τ 33 6 + 1)) 33 6 = nI (nf + 1) := by rw [zI_uI, if_pos ⟨rfl, rfl⟩, e6, nI_1]
      have r41 : ∀ j, zI (uI (uI (uI (uI (uI (uI (uI (uI τ 33 49 0) 39 nf v1) 40 nf v2) 41 nf v3) 42 nf v4) 43 nf v5) 44 nf v6) 33 6 (zI τ 33 6 + 1)) 41 j = if j = nf then v3 else zI τ 41 j := fun j => by
        rw [zI_uI, if_neg (by omega), zI_uI, if_neg (by omega), zI_uI, if_neg (by omega), zI_uI, if_neg (by omega), zI_uI]
        by_cases z : j = nf
        · rw [if_pos ⟨rfl, z⟩, if_pos z]
        · rw [if_neg (fun w => z w.2), if_neg z, zI_uI, if_neg (by omega), zI_uI, if_neg (by omega), zI_uI, if_neg (by omega)]
      refine Or.inr ⟨(i11 _).trans (RO_3 hO 6 (by decide)), Co_of h hO h.1 (r 33 43 (by decide) (by decide)) hr hA (fun hc => Cr_cgT ⟨fun k hk => ?_, ?_, fun k hk => ?_⟩ (fun a j ha => r a j (by unfold CJ at ha; omega) (by unfold CJ at ha; omega)) (fun j hj => r 33 j (by decide) (by omega)) (fun _ _ _ => rfl) hc), NW_of hw hO (fun j hj hj6 => r 33 j (by decide) (by omega)) (fun _ => ⟨funext fun j => r 47 j (by decide) (by omega), funext fun j => r 49 j (by decide) (by omega)⟩), nf, c', n2, r6⟩
      · rw [r6, ix, cl0 (by omega)] at hk
        rw [r41]
        by_cases z : k = nf
        · rw [if_pos z]; exact hb
        · rw [if_neg z]
          exact hc.1.1 k (by rw [e6, ix, cl0 (by omega)]; omega)
      · rw [r 33 14 (by decide) (by decide)]; exact hc.1.2.1
      · rw [r 37 k (by decide) (by omega), r 38 k (by decide) (by omega)]; exact hc.1.2.2 k hk
    · obtain ⟨rfl, e⟩ := q3 ⟨h1, h2⟩ ⟨h3, hv, h5, h6, h7⟩ c
      rw [i49] at h49
      exact absurd h49 (by decide)
  · obtain ⟨-, -, q3, q⟩ := hS
    have e6 : zI τ 33 6 = nI nf := (RO_3 hO 6 (by decide)).trans n2
    by_cases c3 : ¬ 40 ≤ zI τ 33 6
    · obtain ⟨rfl, -⟩ := q ⟨h1, h2⟩ ⟨h3, hv, h5, h6, h7⟩ c3
      rw [zI_uI, if_neg (by omega), zI_uI, if_neg (by omega), zI_uI, if_neg (by omega), zI_uI, if_neg (by omega), zI_uI, if_neg (by omega), zI_uI, if_neg (by omega), zI_uI, if_neg (by omega), i49] at h49
      exact absurd h49 (no49 (by decide) hc)
    · obtain ⟨rfl, -⟩ := q3 ⟨h1, h2⟩ ⟨h3, hv, h5, h6, h7⟩ c3
      rw [i49] at h49
      have e40 : zI σ 33 6 = 40 := by
        rw [e6, Int32.le_iff_toInt_le, nI_toInt (by omega)] at c3
        change ¬ ¬ (40 : Int) ≤ _ at c3
        rw [n2, show nf = 40 by omega]; rfl
      exact Or.inl ⟨(Option.some.inj (is49 (by decide) hc 2 (by decide) h49)).symm, e40, Kp_no h.2.1 hO RW_49 hr hA⟩
theorem P_unit {v1 : Int32} (hg : gG g = none) (h : Co s σ) (h1 : isWi v1 1 50) : CtH g mL_unit [.ref 2, .int v1] σ (fun ω rv => ∃ y, rv = some (.int y) ∧ bt y 1 1000 ∧ Co s ω ∧ NW N0 ω σ) := by
  have hv : isWi v1 1 1000 := ⟨h1.1, fun q => h1.2 (by
    rw [Int32.lt_iff_toInt_lt] at q ⊢
    exact Int.lt_trans (by decide) q)⟩
  have hb := bt_wi h1
  have hb2 : bt (zI σ 33 14) 1 1000 := by
    obtain ⟨nf, t1, t2, t3, t4, t5, -⟩ := h.2.1.2.2.1
    exact t5
  refine mu_int hg h.2.1 h.2.2.1 (fun g' => R_unit (by decide) h.2.1) (fun τ ω rv hS => ?_) (fun τ ω b hO hS h49 hw hr hA => ?_) (fun τ ω rv j c hO hc hS h49 hw hr hA => ?_)
  · obtain ⟨-, q⟩ := hS
    obtain ⟨rfl, -⟩ := q hv
    exact ⟨GW_uI (by decide) (GW_uI (by decide) (GW_refl τ)), rfl⟩
  · obtain ⟨-, q⟩ := hS
    obtain ⟨rfl, e⟩ := q hv
    cases e
    have r : ∀ a j, ¬ (a = 33 ∧ (j = 49 ∨ j = 14)) → zI (uI (uI τ 33 49 0) 33 14 v1) a j = zI τ a j := fun a j q2 => by
      rw [zI_uI, if_neg (by omega), zI_uI, if_neg (by omega)]
    refine ⟨by rw [RO_3 hO 14 (by decide)]; exact hb2, Co_of h hO h.1 (r 33 43 (by decide)) hr hA (fun hc => Cr_cgT ⟨fun k hk => ?_, ?_, fun k hk => ?_⟩ (fun a j ha => r a j (by unfold CJ at ha; omega)) (fun j hj => r 33 j (by omega)) (fun _ _ _ => rfl) hc), NW_of hw hO (fun j hj _ => r 33 j (by omega)) (fun _ => ⟨funext fun j => r 47 j (by omega), funext fun j => r 49 j (by omega)⟩)⟩
    · rw [r 33 6 (by decide)] at hk
      rw [r 41 k (by omega)]; exact hc.1.1 k hk
    · rw [zI_uI, if_pos ⟨rfl, rfl⟩]; exact hb
    · rw [r 37 k (by omega), r 38 k (by omega)]; exact hc.1.2.2 k hk
  · obtain ⟨-, q⟩ := hS
    obtain ⟨rfl, -⟩ := q hv
    rw [zI_uI, if_neg (by omega), i49] at h49
    exact absurd h49 (no49 (by decide) hc)
theorem P_tax {c : Nat} {v2 v3 : Int32} (hg : gG g = none) (h : Co s σ) (hc10 : c < 10) (h2 : isWi v2 0 1000) (h3 : isWi v3 0 1000) : CtH g mL_tax [.ref 2, .int (nI c), .int v2, .int v3] σ (fun ω rv => ∃ y, rv = some (.int y) ∧ y = 0 ∧ Co s ω ∧ NW N0 ω σ) := by
  have up : ∀ {x : Int32}, isWi x 0 1000 → isWi x 0 10000 := fun {x} w => ⟨w.1, fun q => w.2 (by
    rw [Int32.lt_iff_toInt_lt] at q ⊢
    exact Int.lt_trans (by decide) q)⟩
  have b2 := bt_wi h2
  have b3 := bt_wi h3
  have hp := pl_lt hc10
  have ec : ix (nI c) = c := cl0 (by omega)
  refine mu_v hg h.2.1 h.2.2.1 (fun g' => R_tax (by decide) h.2.1) (fun τ ω rv hS => ?_) (fun τ ω rv hO hS h49 hw hr hA => ?_) (fun τ ω rv j z hO hz hS h49 hw hr hA => ?_)
  · obtain ⟨-, -, q⟩ := hS
    obtain ⟨rfl, -⟩ := q hp ⟨up h2, up h3⟩
    exact ⟨GW_uI (by decide) (GW_uI (by decide) (GW_uI (by decide) (GW_refl τ))), rfl⟩
  · obtain ⟨-, -, q⟩ := hS
    obtain ⟨rfl, -⟩ := q hp ⟨up h2, up h3⟩
    rw [ec] at hw hr hA ⊢
    have r : ∀ a j, a ≠ 37 → a ≠ 38 → ¬ (a = 33 ∧ j = 49) → zI (uI (uI (uI τ 33 49 0) 37 c v2) 38 c v3) a j = zI τ a j := fun a j q1 q2 q3 => by
      rw [zI_uI, if_neg (by omega), zI_uI, if_neg (by omega), zI_uI, if_neg q3]
    refine ⟨rfl, Co_of h hO h.1 (r 33 43 (by decide) (by decide) (by decide)) hr hA (fun hc => Cr_cgT ⟨fun k hk => ?_, ?_, fun k hk => ?_⟩ (fun a j ha => r a j (by unfold CJ at ha; omega) (by unfold CJ at ha; omega) (by unfold CJ at ha; omega)) (fun j hj => r 33 j (by decide) (by decide) (by omega)) (fun _ _ _ => rfl) hc), NW_of hw hO (fun j hj _ => r 33 j (by decide) (by decide) (by omega)) (fun _ => ⟨funext fun j => r 47 j (by decide) (by decide) (by omega), funext fun j => r 49 j (by decide) (by decide) (by omega)⟩)⟩
    · rw [r 33 6 (by decide) (by decide) (by decide)] at hk
      rw [r 41 k (by decide) (by decide) (by omega)]; exact hc.1.1 k hk
    · rw [r 33 14 (by decide) (by decide) (by decide)]; exact hc.1.2.1
    · by_cases z : k = c
      · subst z
        rw [zI_uI, if_neg (by omega), zI_uI, if_pos ⟨rfl, rfl⟩, zI_uI, if_pos ⟨rfl, rfl⟩]
        exact ⟨b2, b3⟩
      · rw [zI_uI, if_neg (by omega), zI_uI, if_neg (by omega), zI_uI, if_neg (by omega), zI_uI, if_neg (by omega), zI_uI, if_neg (by omega), zI_uI, if_neg (by omega)]
        exact hc.1.2.2 k hk
  · obtain ⟨-, -, q⟩ := hS
    obtain ⟨rfl, -⟩ := q hp ⟨up h2, up h3⟩
    rw [zI_uI, if_neg (by omega), zI_uI, if_neg (by omega), i49] at h49
    exact absurd h49 (no49 (by decide) hz)
theorem P_weight {v1 v2 v3 : Int32} (hg : gG g = none) (h : Co s σ) (h1 : isPl v1) (h2 : isPl v2) (h3 : ¬ v1 = v2) (h4 : isWi v3 0 9999) : CtH g mL_weight [.ref 2, .int v1, .int v2, .int v3] σ (fun ω rv => ∃ y, rv = some (.int y) ∧ y = zI σ 35 (p2 v1 v2) ∧ Co s ω ∧ NW N0 ω σ ∧ zI ω 35 (p2 v2 v1) = v3) := by
  refine mu_int hg h.2.1 h.2.2.1 (fun g' => R_weight (by decide) h.2.1) (fun τ ω rv hS => ?_) (fun τ ω b hO hS h49 hw hr hA => ?_) (fun τ ω rv j c hO hc hS h49 hw hr hA => ?_)
  · obtain ⟨-, -, q⟩ := hS
    obtain ⟨rfl, -⟩ := q ⟨h1, h2⟩ ⟨h3, h4⟩
    exact ⟨GW_uI (by decide) (GW_uI (by decide) (GW_uI (by decide) (GW_refl τ))), rfl⟩
  · obtain ⟨-, -, q⟩ := hS
    obtain ⟨rfl, e⟩ := q ⟨h1, h2⟩ ⟨h3, h4⟩
    cases e
    have r : ∀ a j, a ≠ 35 → ¬ (a = 33 ∧ j = 49) → zI (uI (uI (uI τ 33 49 0) 35 (p2 v1 v2) v3) 35 (p2 v2 v1) v3) a j = zI τ a j := fun a j q1 q2 => by
      rw [zI_uI, if_neg (by omega), zI_uI, if_neg (by omega), zI_uI, if_neg q2]
    exact ⟨by rw [RO_f hO 35 (by decide) (by decide)], Co_of h hO h.1 (r 33 43 (by decide) (by decide)) hr hA (Cr_cg (fun a j ha => r a j (by unfold CI at ha; omega) (by unfold CI at ha; omega)) (fun j hj => r 33 j (by decide) (by omega)) (fun _ _ _ => rfl)), NW_of hw hO (fun j hj _ => r 33 j (by decide) (by omega)) (fun _ => ⟨funext fun j => r 47 j (by decide) (by omega), funext fun j => r 49 j (by decide) (by omega)⟩), by rw [zI_uI, if_pos ⟨rfl, rfl⟩]⟩
  · obtain ⟨-, -, q⟩ := hS
    obtain ⟨rfl, -⟩ := q ⟨h1, h2⟩ ⟨h3, h4⟩
    rw [zI_uI, if_neg (by omega), zI_uI, if_neg (by omega), i49] at h49
    exact absurd h49 (no49 (by decide) hc)
theorem P_proviso {v1 v2 v3 v4 : Int32} (hg : gG g = none) (h : Co s σ) (h1 : isCa v1) (h2 : isPl v2) (h3 : isPl v3) (h4 : ¬ v2 = v3) (h5 : isWi v4 (-1) 1000000) : CtH g mL_proviso [.ref 2, .int v1, .int v2, .int v3, .int v4] σ (fun ω rv => ∃ y, rv = some (.int y) ∧ y = zI σ 36 (p3 v1 v2 v3) - 1 ∧ Co s ω ∧ NW N0 ω σ ∧ zI ω 36 (p3 v1 v2 v3) = v4 + 1) := by
  refine mu_int hg h.2.1 h.2.2.1 (fun g' => R_proviso (by decide) h.2.1) (fun τ ω rv hS => ?_) (fun τ ω b hO hS h49 hw hr hA => ?_) (fun τ ω rv j c hO hc hS h49 hw hr hA => ?_)
  · obtain ⟨-, -, q⟩ := hS
    obtain ⟨rfl, -⟩ := q ⟨h1, h2, h3⟩ ⟨h4, h5⟩
    exact ⟨GW_uI (by decide) (GW_uI (by decide) (GW_refl τ)), rfl⟩
  · obtain ⟨-, -, q⟩ := hS
    obtain ⟨rfl, e⟩ := q ⟨h1, h2, h3⟩ ⟨h4, h5⟩
    cases e
    have r : ∀ a j, a ≠ 36 → ¬ (a = 33 ∧ j = 49) → zI (uI (uI τ 33 49 0) 36 (p3 v1 v2 v3) (v4 + 1)) a j = zI τ a j := fun a j q1 q2 => by
      rw [zI_uI, if_neg (by omega), zI_uI, if_neg q2]
    exact ⟨by rw [RO_f hO 36 (by decide) (by decide)], Co_of h hO h.1 (r 33 43 (by decide) (by decide)) hr hA (Cr_cg (fun a j ha => r a j (by unfold CI at ha; omega) (by unfold CI at ha; omega)) (fun j hj => r 33 j (by decide) (by omega)) (fun _ _ _ => rfl)), NW_of hw hO (fun j hj _ => r 33 j (by decide) (by omega)) (fun _ => ⟨funext fun j => r 47 j (by decide) (by omega), funext fun j => r 49 j (by decide) (by omega)⟩), by rw [zI_uI, if_pos ⟨rfl, rfl⟩]⟩
  · obtain ⟨-, -, q⟩ := hS
    obtain ⟨rfl, -⟩ := q ⟨h1, h2, h3⟩ ⟨h4, h5⟩
    rw [zI_uI, if_neg (by omega), i49] at h49
    exact absurd h49 (no49 (by decide) hc)
theorem P_penalty {v1 : Int32} (hg : gG g = none) (h : Co s σ) (h1 : isWi v1 0 100) : CtH g mL_penalty [.ref 2, .int v1] σ (fun ω rv => ∃ y, rv = some (.int y) ∧ bt y 0 100 ∧ Co s ω ∧ NW N0 ω σ) := by
  have hb2 : bt (zI σ 33 15) 0 100 := h.2.1.2.2.2.2.2.2.2.2.2.2.2.1
  refine mu_int hg h.2.1 h.2.2.1 (fun g' => R_penalty (by decide) h.2.1) (fun τ ω rv hS => ?_) (fun τ ω b hO hS h49 hw hr hA => ?_) (fun τ ω rv j c hO hc hS h49 hw hr hA => ?_)
  · obtain ⟨-, q⟩ := hS
    obtain ⟨rfl, -⟩ := q h1
    exact ⟨GW_uI (by decide) (GW_uI (by decide) (GW_refl τ)), rfl⟩
  · obtain ⟨-, q⟩ := hS
    obtain ⟨rfl, e⟩ := q h1
    cases e
    have r : ∀ a j, ¬ (a = 33 ∧ (j = 49 ∨ j = 15)) → zI (uI (uI τ 33 49 0) 33 15 v1) a j = zI τ a j := fun a j q2 => by
      rw [zI_uI, if_neg (by omega), zI_uI, if_neg (by omega)]
    exact ⟨by rw [RO_3 hO 15 (by decide)]; exact hb2, Co_of h hO h.1 (r 33 43 (by decide)) hr hA (Cr_cg (fun a j ha => r a j (by unfold CI at ha; omega)) (fun j hj => r 33 j (by omega)) (fun _ _ _ => rfl)), NW_of hw hO (fun j hj _ => r 33 j (by omega)) (fun _ => ⟨funext fun j => r 47 j (by omega), funext fun j => r 49 j (by omega)⟩)⟩
  · obtain ⟨-, q⟩ := hS
    obtain ⟨rfl, -⟩ := q h1
    rw [zI_uI, if_neg (by omega), i49] at h49
    exact absurd h49 (no49 (by decide) hc)
end TELL
