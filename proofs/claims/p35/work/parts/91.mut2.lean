/-! ===== a leg, days, an endorsement, a rejection, a new billing ===== -/
section MU2
variable {g : GP} {σ : AH} {s : Nat}
theorem Rel_L (h : Rel 200 σ) : ∃ L, L ≤ 8 ∧ zI σ 33 16 = nI L := by
  obtain ⟨L, h1, h2, -⟩ := RJ_L h.2.2.2.1
  exact ⟨L, h1, h2⟩
theorem P_leg {v1 v2 v3 v4 : Int32} (hg : gG g = none) (h : Co s σ) (h1 : isPl v1) (h2 : isPl v2) (h3 : isCa v3) (h4 : ¬ v1 = v2) (h5 : isWi v4 (zI σ 33 0) 999) : CtH g mL_leg [.ref 2, .int v1, .int v2, .int v3, .int v4] σ (fun ω rv => ∃ y, rv = some (.int y) ∧ ((y = -1000003 ∧ Kp ω σ) ∨ (∃ L, L < 8 ∧ zI σ 33 16 = nI L ∧ y = nI (L + 1) ∧ Co s ω ∧ NW (fun j => j = 16 ∨ j = 47) ω σ ∧ zI ω 33 16 = nI (L + 1) ∧ zI ω 47 L = v2 ∧ zI ω 49 L = v4 ∧ (L = 0 ∨ (zI σ 47 (L - 1) = v1 ∧ ¬ v4 < zI σ 49 (L - 1)))))) := by
  obtain ⟨L, l1, l2⟩ := Rel_L h.2.1
  refine mu_int hg h.2.1 h.2.2.1 (fun g' => R_leg (by decide) h.2.1) (fun τ ω rv hS => ?_) (fun τ ω b hO hS h49 hw hr hA => ?_) (fun τ ω rv j c hO hc hS h49 hw hr hA => ?_)
  · obtain ⟨-, q2, q3, q⟩ := hS
    by_cases c2 : ¬ v1 = v2 ∧ isWi v4 (zI τ 33 0) 999
    · by_cases c : ((zI τ 33 16 = 0 ∨ (¬ 8 ≤ zI τ 33 16 ∧ zI τ 47 (ix (zI τ 33 16 - 1)) = v1 ∧ ¬ v4 < zI τ 49 (ix (zI τ 33 16 - 1)))) ∧ ¬ zI τ 34 (p2 v1 v2) ≤ 0)
      · obtain ⟨rfl, -⟩ := q ⟨h1, h2, h3⟩ c2 c
        exact ⟨GW_uI (by decide) (GW_uI (by decide) (GW_uI (by decide) (GW_uI (by decide) (GW_uI (by decide) (GW_uI (by decide) (GW_refl τ)))))), rfl⟩
      · obtain ⟨rfl, -⟩ := q3 ⟨h1, h2, h3⟩ c2 c
        exact ⟨GW_uI (by decide) (GW_refl τ), rfl⟩
    · obtain ⟨rfl, -⟩ := q2 ⟨h1, h2, h3⟩ c2
      exact ⟨GW_uI (by decide) (GW_refl τ), rfl⟩
  · obtain ⟨-, q2, q3, q⟩ := hS
    have e16 : zI τ 33 16 = nI L := (RO_3 hO 16 (by decide)).trans l2
    have c2 : ¬ v1 = v2 ∧ isWi v4 (zI τ 33 0) 999 := ⟨h4, by rw [RO_3 hO 0 (by decide)]; exact h5⟩
    by_cases c : ((zI τ 33 16 = 0 ∨ (¬ 8 ≤ zI τ 33 16 ∧ zI τ 47 (ix (zI τ 33 16 - 1)) = v1 ∧ ¬ v4 < zI τ 49 (ix (zI τ 33 16 - 1)))) ∧ ¬ zI τ 34 (p2 v1 v2) ≤ 0)
    · obtain ⟨rfl, e⟩ := q ⟨h1, h2, h3⟩ c2 c
      cases e
      have hL : L < 8 := by
        rcases c.1 with c | c
        · rw [e16] at c
          have := (nI_eq (b := 0) (by omega) (by decide)).mp c
          omega
        · have c := c.1
          rw [e16, Int32.le_iff_toInt_le, nI_toInt (by omega)] at c
          change ¬ (8 : Int) ≤ _ at c
          omega
      have fN : leN τ = L := by rw [leN, e16]; exact cl0 (by omega)
      rw [fN] at hw hr hA ⊢
      have r : ∀ a j, a < 46 ∨ 49 < a → ¬ (a = 33 ∧ (j = 49 ∨ j = 16)) → zI (uI (uI (uI (uI (uI (uI τ 33 49 0) 46 L v1) 47 L v2) 48 L v3) 49 L v4) 33 16 (zI τ 33 16 + 1)) a j = zI τ a j := fun a j q1 q2 => by
        rw [zI_uI, if_neg (by omega), zI_uI, if_neg (by omega), zI_uI, if_neg (by omega), zI_uI, if_neg (by omega), zI_uI, if_neg (by omega), zI_uI, if_neg (by omega)]
      have e1 : zI τ 33 16 + 1 = nI (L + 1) := by rw [e16, nI_1]
      refine Or.inr ⟨L, hL, l2, e1, Co_of h hO h.1 (r 33 43 (by decide) (by decide)) hr hA (Cr_cg (fun a j ha => r a j (by unfold CI at ha; omega) (by unfold CI at ha; omega)) (fun j hj => r 33 j (by decide) (by omega)) (fun _ _ _ => rfl)), NW_of hw hO (fun j hj hc => r 33 j (by decide) (by omega)) (fun hc => absurd (Or.inr rfl) hc), by rw [zI_uI, if_pos ⟨rfl, rfl⟩, e1], by rw [zI_uI, if_neg (by omega), zI_uI, if_neg (by omega), zI_uI, if_neg (by omega), zI_uI, if_pos ⟨rfl, rfl⟩], by rw [zI_uI, if_neg (by omega), zI_uI, if_pos ⟨rfl, rfl⟩], ?_⟩
      rcases c.1 with c | c
      · rw [e16] at c
        exact Or.inl ((nI_eq (b := 0) (by omega) (by decide)).mp c)
      · by_cases z : L = 0
        · exact Or.inl z
        · have c := c.2
          have ei : ix (nI L - 1) = L - 1 := by
            obtain ⟨k, rfl⟩ : ∃ k, L = k + 1 := ⟨L - 1, by omega⟩
            rw [nI_pred]; exact cl0 (by omega)
          rw [e16, ei, RO_f hO 47 (by decide) (by decide), RO_f hO 49 (by decide) (by decide)] at c
          exact Or.inr c
    · obtain ⟨rfl, e⟩ := q3 ⟨h1, h2, h3⟩ c2 c
      rw [i49] at h49
      exact absurd h49 (by decide)
  · obtain ⟨-, q2, q3, q⟩ := hS
    have c2 : ¬ v1 = v2 ∧ isWi v4 (zI τ 33 0) 999 := ⟨h4, by rw [RO_3 hO 0 (by decide)]; exact h5⟩
    by_cases c3 : ((zI τ 33 16 = 0 ∨ (¬ 8 ≤ zI τ 33 16 ∧ zI τ 47 (ix (zI τ 33 16 - 1)) = v1 ∧ ¬ v4 < zI τ 49 (ix (zI τ 33 16 - 1)))) ∧ ¬ zI τ 34 (p2 v1 v2) ≤ 0)
    · obtain ⟨rfl, e⟩ := q ⟨h1, h2, h3⟩ c2 c3
      rw [zI_uI, if_neg (by omega), zI_uI, if_neg (by omega), zI_uI, if_neg (by omega), zI_uI, if_neg (by omega), zI_uI, if_neg (by omega), i49] at h49
      exact absurd h49 (no49 (by decide) hc)
    · obtain ⟨rfl, e⟩ := q3 ⟨h1, h2, h3⟩ c2 c3
      rw [i49] at h49
      exact Or.inl ⟨(Option.some.inj (is49 (by decide) hc 2 (by decide) h49)).symm, Kp_no h.2.1 hO RW_49 hr hA⟩
/-- the same, the day apart -/
def CK (a : Nat) : Prop := a = 37 ∨ a = 38 ∨ a = 41 ∨ (50 ≤ a ∧ a ≤ 52) ∨ (54 ≤ a ∧ a ≤ 58) ∨ (61 ≤ a ∧ a ≤ 67)
theorem Cr_cgD {s t : Nat} {ω τ : AH} (hN : NM t ω) (hM : MN t ω) (h1 : ∀ a j, CI a → zI ω a j = zI τ a j) (h2 : ∀ j, j = 6 ∨ j = 14 ∨ j = 23 ∨ j = 36 ∨ j = 43 → zI ω 33 j = zI τ 33 j) (h : Cr s τ) : Cr t ω := by
  have e : ∀ a, CI a → zI ω a = zI τ a := fun a ha => funext fun j => h1 a j ha
  obtain ⟨hT, hK, hB, -, -⟩ := h
  refine ⟨?_, ?_, ?_, hM, hN⟩
  · unfold TB at hT ⊢
    rw [h2 6 (by decide), h2 14 (by decide), e 41 (by unfold CI; omega), e 37 (by unfold CI; omega), e 38 (by unfold CI; omega)]
    exact hT
  · unfold TK CP at hK ⊢
    rw [h2 23 (by decide), h2 36 (by decide), e 50 (by unfold CI; omega), e 51 (by unfold CI; omega), e 52 (by unfold CI; omega), e 54 (by unfold CI; omega), e 55 (by unfold CI; omega), e 56 (by unfold CI; omega), e 57 (by unfold CI; omega), e 58 (by unfold CI; omega), e 61 (by unfold CI; omega), e 63 (by unfold CI; omega), e 64 (by unfold CI; omega), e 65 (by unfold CI; omega)]
    exact hK
  · unfold BL at hB ⊢
    rw [h2 36 (by decide), h2 43 (by decide), e 62 (by unfold CI; omega), e 64 (by unfold CI; omega), e 65 (by unfold CI; omega), e 66 (by unfold CI; omega), e 67 (by unfold CI; omega)]
    exact hB
theorem P_pass {d : Nat} (hg : gG g = none) (h : Co s σ) (hs : s < 100) (h1 : 1 ≤ d) (h2 : d ≤ 2) : CtH g mL_pass [.ref 2, .int (nI d)] σ (fun ω rv => ∃ y, rv = some (.int y) ∧ y = zI σ 33 0 + nI d ∧ Co (s + 1) ω ∧ NW (fun j => j = 0) ω σ ∧ zI ω 33 0 = zI σ 33 0 + nI d) := by
  have ed : (nI d).toInt = (d : Int) := nI_toInt (by omega)
  have hd := h.2.2.2.2.2.2.2.2.2
  have ea : (zI σ 33 0 + nI d).toInt = (zI σ 33 0).toInt + d := by
    have e := i_add (x := zI σ 33 0) (y := nI d) (by rw [ed]; have := hd.1; omega) (by rw [ed]; have := hd.2; omega)
    rw [ed] at e; exact e
  have w1 : isWi (nI d) 1 100 := by
    rw [isWi_iff, ed]
    exact ⟨by show (1 : Int) ≤ _; omega, by show _ ≤ (100 : Int); omega⟩
  have w2 : ¬ 999 < zI σ 33 0 + nI d := by
    rw [Int32.lt_iff_toInt_lt, ea]
    have := hd.2
    show ¬ (999 : Int) < _
    have := h.1
    omega
  refine mu_int hg h.2.1 h.2.2.1 (fun g' => R_pass (by decide) h.2.1) (fun τ ω rv hS => ?_) (fun τ ω b hO hS h49 hw hr hA => ?_) (fun τ ω rv j c hO hc hS h49 hw hr hA => ?_)
  · obtain ⟨-, q2, q⟩ := hS
    by_cases c : ¬ 999 < zI τ 33 0 + nI d
    · obtain ⟨rfl, -⟩ := q w1 c
      exact ⟨GW_uI (by decide) (GW_uI (by decide) (GW_refl τ)), rfl⟩
    · obtain ⟨rfl, -⟩ := q2 w1 c
      exact ⟨GW_uI (by decide) (GW_refl τ), rfl⟩
  · obtain ⟨-, q2, q⟩ := hS
    have e0 := RO_3 hO 0 (by decide)
    obtain ⟨rfl, e⟩ := q w1 (by rw [e0]; exact w2)
    cases e
    have r : ∀ a j, ¬ (a = 33 ∧ (j = 49 ∨ j = 0)) → zI (uI (uI τ 33 49 0) 33 0 (zI τ 33 0 + nI d)) a j = zI τ a j := fun a j q2 => by
      rw [zI_uI, if_neg (by omega), zI_uI, if_neg (by omega)]
    have r0 : zI (uI (uI τ 33 49 0) 33 0 (zI τ 33 0 + nI d)) 33 0 = zI σ 33 0 + nI d := by rw [zI_uI, if_pos ⟨rfl, rfl⟩, e0]
    refine ⟨by rw [e0], Co_of h hO (by omega) (r 33 43 (by decide)) hr hA (fun hc => Cr_cgD ?_ (MN_s (Nat.le_succ s) hc.2.2.2.1) (fun a j ha => r a j (by unfold CI at ha; omega)) (fun j hj => r 33 j (by omega)) hc), NW_of hw hO (fun j hj hc => r 33 j (by omega)) (fun _ => ⟨funext fun j => r 47 j (by omega), funext fun j => r 49 j (by omega)⟩), r0⟩
    obtain ⟨⟨q, q1, q2⟩, ⟨b, b1, b2⟩, -⟩ := hc.2.2.2.2
    refine ⟨⟨q, by omega, (r 33 43 (by decide)).trans q2⟩, ⟨b, by omega, (r 33 36 (by decide)).trans b2⟩, ?_⟩
    unfold bt
    rw [r0, ea]
    have := hd.1; have := hd.2
    omega
  · obtain ⟨-, q2, q⟩ := hS
    obtain ⟨rfl, e⟩ := q w1 (by rw [RO_3 hO 0 (by decide)]; exact w2)
    rw [zI_uI, if_neg (by omega), i49] at h49
    exact absurd h49 (no49 (by decide) hc)
end MU2
