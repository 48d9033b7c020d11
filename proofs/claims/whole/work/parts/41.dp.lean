/-! ===== point by point is as good as all sets ===== -/
/-- parts have no price, or a price that adds up -/
def PB (P : Nat → Nat → Int32) (M : Nat) : Prop := ∀ i j, P i j < 0 ∨ bt (P i j) 0 M
theorem add_toInt {a b : Int32} {m n : Int} (ha : bt a 0 m) (hb : bt b 0 n) (h : m + n < 2 ^ 31) : (a + b).toInt = a.toInt + b.toInt := by
  obtain ⟨x, rfl, -, hx⟩ := bt_nI ha (by decide) (by have := hb.1; have := hb.2; omega)
  obtain ⟨y, rfl, -, hy⟩ := bt_nI hb (by decide) (by have := ha.1; have := ha.2; omega)
  rw [nI_add, nI_toInt (by omega), nI_toInt (by omega), nI_toInt (by omega)]
  omega
theorem sumSt_bt {P : Nat → Nat → Int32} {M : Nat} (hP : PB P M) {set L : Nat} (hM : 9 * M < 2 ^ 30) : ∀ k, k ≤ 9 → (sumSt P set L k).1 = -1 ∨ bt (sumSt P set L k).1 0 (k * M : Nat)
  | 0, _ => Or.inr ⟨(by decide : (0 : Int) ≤ (0 : Int32).toInt), by show (0 : Int) ≤ _; omega⟩
  | k + 1, hk => by
    have ih := sumSt_bt hP hM (set := set) (L := L) k (by omega)
    have hkM : k * M ≤ 9 * M := Nat.mul_le_mul_right M (by omega)
    have hs : (k + 1) * M = k * M + M := Nat.succ_mul k M
    rw [sumSt]
    split
    · exact Or.inl (by assumption)
    · rename_i hn
      rcases ih with ih | ih
      · exact absurd ih hn
      · split
        · dsimp only
          split
          · rename_i h0
            rcases hP (sumSt P set L k).2 (k + 1) with h | h
            · exact absurd h0 (Int32.not_le.mpr h)
            · refine Or.inr ?_
              have e := add_toInt ih h (by omega)
              have := ih.1; have := ih.2; have := h.1; have := h.2
              refine ⟨by rw [e]; omega, by rw [e, hs]; omega⟩
          · exact Or.inl rfl
        · exact Or.inr ⟨ih.1, by have := ih.2; rw [hs]; omega⟩
/-- a set whose highest cut is i, below i and behind it -/
theorem sumSt_lo {P : Nat → Nat → Int32} {i s t : Nat} (hs : s < 2 ^ i) (hit : i < t) : ∀ k, k ≤ i → sumSt P (2 ^ i + s) t k = sumSt P s i k
  | 0, _ => rfl
  | k + 1, hk => by
    have ih := sumSt_lo (P := P) hs hit k (by omega)
    rw [sumSt, sumSt, ih]
    have hb : (k + 1 = t ∨ (2 ^ i + s).testBit (k + 1) = true) ↔ (k + 1 = i ∨ s.testBit (k + 1) = true) := by
      rcases Nat.lt_or_ge (k + 1) i with h | h
      · rw [Nat.testBit_two_pow_add_gt h]
        constructor
        · rintro (q | q)
          · omega
          · exact Or.inr q
        · rintro (q | q)
          · omega
          · exact Or.inr q
      · have e : k + 1 = i := by omega
        rw [e, Nat.testBit_two_pow_add_eq, Nat.testBit_lt_two_pow hs]
        simp
    by_cases h1 : (sumSt P s i k).1 = -1
    · rw [if_pos h1, if_pos h1]
    · rw [if_neg h1, if_neg h1]
      by_cases h2 : k + 1 = i ∨ s.testBit (k + 1) = true
      · rw [if_pos h2, if_pos (hb.mpr h2)]
      · rw [if_neg h2, if_neg (fun q => h2 (hb.mp q))]
