/-! ===== calls that only ask: rows as they were ===== -/
/-- the ghost rows that tell something, and the law's arrays, are the same -/
def RO (ω σ : AH) : Prop := (∀ a j, 33 ≤ a → a ≤ 74 → a ≠ 72 → ¬ (a = 33 ∧ (j = 21 ∨ j = 22 ∨ j = 49)) → zI ω a j = zI σ a j) ∧ ∀ a j, 33 ≤ a → a ≤ 71 → zJ ω a j = zJ σ a j
theorem RO_refl (σ : AH) : RO σ σ := ⟨fun _ _ _ _ _ _ => rfl, fun _ _ _ _ => rfl⟩
theorem RO_tr {ρ τ σ : AH} (h : RO ρ τ) (h' : RO τ σ) : RO ρ σ := ⟨fun a j h1 h2 h3 h4 => (h.1 a j h1 h2 h3 h4).trans (h'.1 a j h1 h2 h3 h4), fun a j h1 h2 => (h.2 a j h1 h2).trans (h'.2 a j h1 h2)⟩
theorem RO_sy {τ σ : AH} (h : RO τ σ) : RO σ τ := ⟨fun a j h1 h2 h3 h4 => (h.1 a j h1 h2 h3 h4).symm, fun a j h1 h2 => (h.2 a j h1 h2).symm⟩
theorem RO_F {τ σ : AH} (h : GF τ σ) : RO τ σ := ⟨fun a j h1 h2 _ _ => ((h.2 a h1 h2).2.2 j).1, fun a j h1 h2 => ((h.2 a h1 (by omega)).2.2 j).2⟩
theorem RO_72 {τ σ : AH} {x : Int64} (h : RO τ σ) : RO (uJ τ 72 0 x) σ := ⟨h.1, fun a j h1 h2 => by rw [zJ_uJ, if_neg (by omega)]; exact h.2 a j h1 h2⟩
def RW (ω τ : AH) : Prop := zN ω = zN τ ∧ zK ω = zK τ ∧ zL ω = zL τ ∧ zR ω = zR τ ∧ (∀ a j, ¬ (a = 33 ∧ (j = 21 ∨ j = 22 ∨ j = 49)) → zI ω a j = zI τ a j) ∧ ∀ a j, zJ ω a j = zJ τ a j
theorem RW_RO {ω τ : AH} (h : RW ω τ) : RO ω τ := ⟨fun a j _ _ _ h4 => h.2.2.2.2.1 a j h4, fun a j _ _ => h.2.2.2.2.2 a j⟩
theorem RW_GW {ω τ : AH} (h : RW ω τ) : GW ω τ := ⟨h.1, h.2.1, h.2.2.1, h.2.2.2.1, fun a ha j => ⟨h.2.2.2.2.1 a j (by omega), h.2.2.2.2.2 a j⟩⟩
theorem RW_49 {τ : AH} {x : Int32} : RW (uI τ 33 49 x) τ := ⟨rfl, rfl, rfl, rfl, fun a j h => by rw [zI_uI, if_neg (by omega)], fun _ _ => rfl⟩
theorem RW_hW {τ : AH} {x : Int32} {w : Int32 × Int32} : RW (hW (uI τ 33 49 x) w) τ := ⟨rfl, rfl, rfl, rfl, fun a j h => by rw [hW, zI_uI, if_neg (by omega), zI_uI, if_neg (by omega), zI_uI, if_neg (by omega)], fun _ _ => rfl⟩
theorem GW_72 {τ : AH} {k : Nat} {x : Int64} : GW (uJ τ 72 k x) τ := GW_uJ (by decide) (GW_refl τ)
theorem i49 {τ : AH} {x : Int32} : zI (uI τ 33 49 x) 33 49 = x := by rw [zI_uI, if_pos ⟨rfl, rfl⟩]
theorem Rel_i {i j q : Nat} {ω : AH} (h : Rel j ω) (hq : zI ω 33 43 = nI q) (h1 : q ≤ i) (hi : i ≤ 512) : Rel i ω := by
  obtain ⟨h0, hS, hT, hJ, hP, hK, ⟨n, b1, b2, b3, b4, ⟨q', b5, b6, b7⟩, b8⟩, hC⟩ := h
  have e : q' = q := (nI_eq (by omega) (by omega)).mp (b7.symm.trans hq)
  exact ⟨hi, hS, hT, hJ, hP, hK, ⟨n, b1, b2, b3, b4, ⟨q', by omega, b6, b7⟩, b8⟩, hC⟩
theorem Rel_nm {i : Nat} {σ : AH} (h : Rel i σ) : ∃ q, q ≤ i ∧ zI σ 33 43 = nI q := by
  obtain ⟨h0, hS, hT, hJ, hP, hK, ⟨n, b1, b2, b3, b4, ⟨q', b5, b6, b7⟩, b8⟩, hC⟩ := h
  exact ⟨q', b5, b7⟩
theorem Rel_sm {i j : Nat} {σ ω : AH} (h : Rel i σ) (h' : Rel j ω) (e : zI ω 33 43 = zI σ 33 43) : Rel i ω := by
  obtain ⟨q, q1, q2⟩ := Rel_nm h
  exact Rel_i h' (e.trans q2) q1 h.1
/-- between the law's calls: rows of σ0 -/
def Kp (σ σ0 : AH) : Prop := Rel 200 σ ∧ GA4 σ ∧ RO σ σ0
theorem Kp_RW {σ σ0 τ ω : AH} (hK : Kp σ σ0) (hF : GF τ σ) (hw : GW ω τ) (hO : RO ω τ) (hr : Rel 201 ω) : Kp ω σ0 :=
  ⟨Rel_sm hK.1 hr ((hO.1 33 43 (by decide) (by decide) (by decide) (by decide)).trans ((RO_F hF).1 33 43 (by decide) (by decide) (by decide) (by decide))), GA_W (GA_F hK.2.1 hF) hw, RO_tr hO (RO_tr (RO_F hF) hK.2.2)⟩
theorem l_inj {x y : Int32} (h : Int32.toInt64 x = Int32.toInt64 y) : x = y := by
  have h1 := congrArg Int64.toInt32 h
  rwa [Int32.toInt32_toInt64, Int32.toInt32_toInt64] at h1
section RO
variable {g : GP} {μ : MI} {as : List Value} {σ σ0 : AH} {S : AH → AH → Option Value → Prop}
theorem ro_int {es : List Int32} {v : Int32} (hg : gG g = none) (hK : Kp σ σ0) (hR : ∀ g' : GP, CtH g' μ as σ (RQ es (fun k τ => Gh S τ (RE 200 k)))) (h0 : ∀ τ ω b, RO τ σ0 → S τ ω (some (.int b)) → zI ω 33 49 = 0 → RW ω τ ∧ b = v) (hx : ∀ τ ω rv (j : Nat) c, RO τ σ0 → es[j]? = some c → S τ ω rv → zI ω 33 49 = nI (j + 1) → RW ω τ ∧ c = v) : CtH g μ as σ (fun ω rv => rv = some (.int v) ∧ Kp ω σ0) := by
  refine CtH_gs hg (GA_GK hK.1.2.1 hK.2.1) hR (fun τ rv hq hF => ?_)
  obtain ⟨hSτ, hq⟩ := hq
  have hO := RO_tr (RO_F hF) hK.2.2
  rcases hq with ⟨y, rfl, ω, rv', hS, h49, hRel, b, rfl, hb⟩ | ⟨j, c, hc, rfl, ω, rv', hS, h49, hRel, -⟩
  · obtain ⟨w, e⟩ := h0 _ ω b (RO_72 hO) hS h49
    have ey : y = b := l_inj (((w.2.2.2.2.2 72 0).trans out_I).symm.trans (hb rfl))
    have w2 := GW_tr (RW_GW w) GW_72
    exact ⟨ω, GW_GSh hSτ w2, by rw [ey, e], Kp_RW hK hF w2 (RO_tr (RW_RO w) (RO_72 (RO_refl τ))) hRel⟩
  · obtain ⟨w, e⟩ := hx _ ω rv' j c hO hc hS h49
    exact ⟨ω, GW_GSh hSτ (RW_GW w), by rw [e], Kp_RW hK hF (RW_GW w) (RW_RO w) hRel⟩
theorem ro_long {es : List Int64} {v : Int64} (hg : gG g = none) (hK : Kp σ σ0) (hR : ∀ g' : GP, CtH g' μ as σ (RQl es (fun k τ => Gh S τ (REl 200 k)))) (h0 : ∀ τ ω b, RO τ σ0 → S τ ω (some (.long b)) → zI ω 33 49 = 0 → RW ω τ ∧ b = v) (hx : ∀ τ ω rv (j : Nat) c, RO τ σ0 → es[j]? = some c → S τ ω rv → zI ω 33 49 = nI (j + 1) → RW ω τ ∧ c = v) : CtH g μ as σ (fun ω rv => rv = some (.long v) ∧ Kp ω σ0) := by
  refine CtH_gs hg (GA_GK hK.1.2.1 hK.2.1) hR (fun τ rv hq hF => ?_)
  obtain ⟨hSτ, hq⟩ := hq
  have hO := RO_tr (RO_F hF) hK.2.2
  rcases hq with ⟨y, rfl, ω, rv', hS, h49, hRel, b, rfl, hb⟩ | ⟨j, c, hc, rfl, ω, rv', hS, h49, hRel, -⟩
  · obtain ⟨w, e⟩ := h0 _ ω b (RO_72 hO) hS h49
    have ey : y = b := ((w.2.2.2.2.2 72 0).trans out_I).symm.trans (hb rfl)
    have w2 := GW_tr (RW_GW w) GW_72
    exact ⟨ω, GW_GSh hSτ w2, by rw [ey, e], Kp_RW hK hF w2 (RO_tr (RW_RO w) (RO_72 (RO_refl τ))) hRel⟩
  · obtain ⟨w, e⟩ := hx _ ω rv' j c hO hc hS h49
    exact ⟨ω, GW_GSh hSτ (RW_GW w), by rw [e], Kp_RW hK hF (RW_GW w) (RW_RO w) hRel⟩
theorem ro_n {v : Int32} (hg : gG g = none) (hK : Kp σ σ0) (hR : ∀ g' : GP, Ct g' μ as σ (QN (fun b τ => Gh S τ (RI 200 b)))) (h0 : ∀ τ ω b, RO τ σ0 → S τ ω (some (.int b)) → RW ω τ ∧ b = v) : Ct g μ as σ (fun ω rv => rv = some (.int v) ∧ Kp ω σ0) := by
  refine Ct_gs hg (GA_GK hK.1.2.1 hK.2.1) hR (fun τ rv hq hF => ?_)
  obtain ⟨b, rfl, hSτ, ω, rv', hS, rfl, hRel⟩ := hq
  obtain ⟨w, e⟩ := h0 τ ω b (RO_tr (RO_F hF) hK.2.2) hS
  exact ⟨ω, GW_GSh hSτ (RW_GW w), by rw [e], Kp_RW hK hF (RW_GW w) (RW_RO w) hRel⟩
theorem ro_nl {v : Int64} (hg : gG g = none) (hK : Kp σ σ0) (hR : ∀ g' : GP, Ct g' μ as σ (QNl (fun b τ => Gh S τ (RIl 200 b)))) (h0 : ∀ τ ω b, RO τ σ0 → S τ ω (some (.long b)) → RW ω τ ∧ b = v) : Ct g μ as σ (fun ω rv => rv = some (.long v) ∧ Kp ω σ0) := by
  refine Ct_gs hg (GA_GK hK.1.2.1 hK.2.1) hR (fun τ rv hq hF => ?_)
  obtain ⟨b, rfl, hSτ, ω, rv', hS, rfl, hRel⟩ := hq
  obtain ⟨w, e⟩ := h0 τ ω b (RO_tr (RO_F hF) hK.2.2) hS
  exact ⟨ω, GW_GSh hSτ (RW_GW w), by rw [e], Kp_RW hK hF (RW_GW w) (RW_RO w) hRel⟩
end RO
