/-! ===== the reference: flying ===== -/
abbrev cpI (x y : Int32) : Nat := 8 * ix x + ix y
def flT (σ : AH) (x y : Int32) : AH := uI (trH (uI σ 33 49 0) (8 * ix x) 2 (ix y)) 55 (cpI x y) 1
def flJ (σ : AH) (x y : Int32) : AH := uJ (flT σ x y) 70 (ix (zI σ 51 (ix x))) (zJ σ 70 (ix (zI σ 51 (ix x))) - Int32.toInt64 (zI σ 57 (cpI x y)))
/-- a coupon is flown, without its bill -/
def flH (σ : AH) (x y : Int32) : AH := uJ (flJ σ x y) 71 (ix (zI σ 60 (cpI x y))) (zJ σ 71 (ix (zI σ 60 (cpI x y))) + Int32.toInt64 (zI σ 57 (cpI x y)))
theorem flH_I {σ : AH} {x y : Int32} {a k : Nat} (h : a ≠ 55) (h2 : ¬ (a = 33 ∧ k = 49)) : zI (flH σ x y) a k = zI σ a k := by
  rw [flH, zI_uJ, flJ, zI_uJ, flT, zI_uI, if_neg (fun q => h q.1), trH_I, if_neg (fun q => h q.1), zI_uI, if_neg h2]
/-- the bill -/
def blH (τ : AH) (c n : Nat) (sh pr pe bn : Int32) : AH := uI (uI (uI (uI (uI (uI τ 62 n 0) 63 n sh) 64 n pr) 65 n pe) 61 c bn) 33 36 (bn + 1)
abbrev isCp (σ : AH) (x y : Int32) : Prop := isWi x 0 (zI σ 33 23 - 1) ∧ isWi y 0 (zI σ 52 (ix x) - 1)
theorem isCp_n {σ : AH} {x y : Int32} (hN : vp_in (zI σ 33 23) 31) (hM : isWi x 0 (zI σ 33 23 - 1) → vp_in (zI σ 52 (ix x)) 9) (h : isCp σ x y) : ∃ t k, x = nI t ∧ y = nI k ∧ t < 30 ∧ k < 8 ∧ nI t < zI σ 33 23 ∧ nI k < zI σ 52 t := by
  obtain ⟨t, ht, rfl⟩ := vp_in_of (isWi_vp hN (by decide) h.1) (by decide)
  have h9 := hM h.1
  obtain ⟨k, hk, rfl⟩ := vp_in_of (isWi_vp h9 (by decide) h.2) (by decide)
  refine ⟨t, k, rfl, rfl, ht, hk, ?_, ?_⟩
  · obtain ⟨n, hn, en⟩ := vp_in_of hN (by decide)
    have hv := isWi_vp (m := n) (n := zI σ 33 23) (by rw [en]; exact vp_in_nI (by omega) (by omega)) (by omega) h.1
    rw [vp_in_iff, nI_toInt (by omega)] at hv
    rw [en]; exact nI_lt (by omega) (by omega)
  · rw [ix, cl0 (by omega)] at h9
    obtain ⟨n, hn, en⟩ := vp_in_of h9 (by decide)
    have h2 := h.2
    rw [ix, cl0 (by omega)] at h2
    have hv := isWi_vp (m := n) (n := zI σ 52 t) (by rw [en]; exact vp_in_nI (by omega) (by omega)) (by omega) h2
    rw [vp_in_iff, nI_toInt (by omega)] at hv
    rw [en]; exact nI_lt (by omega) (by omega)
theorem cp_idx {t k : Nat} (ht : t < 30) (hk : k < 8) : (8 : Int32) * nI t + nI k = nI (8 * t + k) ∧ vp_in (nI (8 * t + k)) 240 ∧ (nI (8 * t + k)).toNatClampNeg = 8 * t + k := by
  refine ⟨?_, vp_in_nI (by omega) (by decide), cl0 (by omega)⟩
  rw [show (8 : Int32) = nI 8 from rfl, pk_mul, nI_add]
/-- fly -/
def S12_fly (x y : Int32) (σ ω : AH) (rv : Option Value) : Prop := (¬ isCp σ x y → ω = uI σ 33 49 (1 : Int32) ∧ rv = some (.int 0)) ∧ (isCp σ x y → ¬ (zI σ 55 (cpI x y) = 0 ∧ ¬ zI σ 33 0 < zI σ 59 (cpI x y)) → ω = uI σ 33 49 (2 : Int32) ∧ rv = some (.int 0)) ∧ (isCp σ x y → (zI σ 55 (cpI x y) = 0 ∧ ¬ zI σ 33 0 < zI σ 59 (cpI x y)) → zI σ 58 (cpI x y) = zI σ 51 (ix x) → ω = flH σ x y ∧ rv = some (.int (-1))) ∧ (isCp σ x y → (zI σ 55 (cpI x y) = 0 ∧ ¬ zI σ 33 0 < zI σ 59 (cpI x y)) → ¬ zI σ 58 (cpI x y) = zI σ 51 (ix x) → ω = blH (flH σ x y) (cpI x y) (ix (zI σ 33 36)) (zI σ 56 (cpI x y)) (zI σ 51 (ix x)) (zI σ 58 (cpI x y)) (zI σ 33 36) ∧ rv = some (.int (zI σ 33 36 + 1 - 1)))
theorem s_X12_fly {Q : AH → Option Value → Prop} {σ : AH} {x y : Int32} (hS : Sh σ) (hN : vp_in (zI σ 33 23) 31) (hM : isWi x 0 (zI σ 33 23 - 1) → vp_in (zI σ 52 (ix x)) 9)
    (hV : isCp σ x y → vp_in (zI σ 51 (ix x)) 5 ∧ vp_in (zI σ 60 (cpI x y)) 10)
    (hB : isCp σ x y → zI σ 55 (cpI x y) = 0 → ¬ zI σ 58 (cpI x y) = zI σ 51 (ix x) → vp_in (zI σ 33 36) 240)
    (q1 : ¬ isCp σ x y → Q (uI σ 33 49 (1 : Int32)) (some (.int 0)))
    (q2 : isCp σ x y → ¬ (zI σ 55 (cpI x y) = 0 ∧ ¬ zI σ 33 0 < zI σ 59 (cpI x y)) → Q (uI σ 33 49 (2 : Int32)) (some (.int 0)))
    (q3 : isCp σ x y → zI σ 55 (cpI x y) = 0 → ¬ zI σ 33 0 < zI σ 59 (cpI x y) → zI σ 58 (cpI x y) = zI σ 51 (ix x) → Q (flH σ x y) (some (.int (-1))))
    (q0 : isCp σ x y → zI σ 55 (cpI x y) = 0 → ¬ zI σ 33 0 < zI σ 59 (cpI x y) → ¬ zI σ 58 (cpI x y) = zI σ 51 (ix x) →
      Q (blH (flH σ x y) (cpI x y) (ix (zI σ 33 36)) (zI σ 56 (cpI x y)) (zI σ 51 (ix x)) (zI σ 58 (cpI x y)) (zI σ 33 36)) (some (.int (zI σ 33 36 + 1 - 1)))) :
    Gh (S12_fly x y) σ Q := by
  by_cases a1 : isCp σ x y
  · by_cases a2 : zI σ 55 (cpI x y) = 0 ∧ ¬ zI σ 33 0 < zI σ 59 (cpI x y)
    · by_cases a3 : zI σ 58 (cpI x y) = zI σ 51 (ix x)
      · exact ⟨_, _, ⟨fun h => absurd a1 h, fun _ h => absurd a2 h, fun _ _ _ => ⟨rfl, rfl⟩, fun _ _ h => absurd a3 h⟩, q3 a1 a2.1 a2.2 a3⟩
      · exact ⟨_, _, ⟨fun h => absurd a1 h, fun _ h => absurd a2 h, fun _ _ h => absurd h a3, fun _ _ _ => ⟨rfl, rfl⟩⟩, q0 a1 a2.1 a2.2 a3⟩
    · exact ⟨_, _, ⟨fun h => absurd a1 h, fun _ _ => ⟨rfl, rfl⟩, fun _ h => absurd h a2, fun _ h => absurd h a2⟩, q2 a1 a2⟩
  · exact ⟨_, _, ⟨fun _ => ⟨rfl, rfl⟩, fun h => absurd h a1, fun h => absurd h a1, fun h => absurd h a1⟩, q1 a1⟩