/-! ===== the law's tariff; ways ===== -/
/-- what the law tells is small -/
def TB (σ : AH) : Prop := (∀ k, k < ix (zI σ 33 6) → bt (zI σ 41 k) 1 50000) ∧ bt (zI σ 33 14) 1 50 ∧ ∀ k, k < 10 → bt (zI σ 37 k) 0 1000 ∧ bt (zI σ 38 k) 0 1000
theorem lowF_b2 {σ : AH} (hT : TB σ) (a b s : Int32) (n : Nat) (hn : n ≤ ix (zI σ 33 6)) : lowF σ a b s n = -1 ∨ bt (lowF σ a b s n) 1 50000 := by
  induction n with
  | zero => exact Or.inl rfl
  | succ n ih =>
    rw [lowF, lowS]
    split
    · exact Or.inr (hT.1 n (by omega))
    · exact ih (by omega)
theorem lowA_b2 {σ : AH} (hT : TB σ) (a b s : Int32) : lowA σ a b s = -1 ∨ bt (lowA σ a b s) 1 50000 := lowF_b2 hT a b s _ (Nat.le_refl _)
theorem hiN_b2 {σ : AH} (hT : TB σ) (a : Int32) (i : Nat) {b : Int32} (hb : bt b 1 50000) : ∀ d, bt (hiN σ a i b d) 1 50000
  | 0 => hb
  | d + 1 => by
    have ih := hiN_b2 hT a i hb d
    rw [hiN]
    split
    · exact ih
    · rename_i h
      rcases lowA_b2 hT a (plF σ (i + 1 + d)) 0 with h2 | h2
      · rw [h2, Int32.le_iff_toInt_le] at h
        refine absurd ?_ h
        have := ih.1
        change (-1 : Int) ≤ _
        omega
      · exact h2
theorem upF_b2 {σ : AH} (hT : TB σ) {c m : Int32} (hc : bt c 1 50000) (hm : bt m 0 25) : bt (upF σ c m) 1 63000 := by
  obtain ⟨-, h5, -⟩ := hT
  obtain ⟨U, hU, hU1, hU2⟩ := bt_nI h5 (by decide) (by decide)
  obtain ⟨C, rfl, hC1, hC⟩ := bt_nI hc (by decide) (by decide)
  obtain ⟨M, rfl, -, hM⟩ := bt_nI hm (by decide) (by decide)
  have hCM : C * (100 + M) ≤ 50000 * 125 := Nat.mul_le_mul (by omega) (by omega)
  have hCM1 : 1 * 100 ≤ C * (100 + M) := Nat.mul_le_mul (by omega) (by omega)
  have hdv : ∀ a, a / (100 * U) * U ≤ a / 100 := fun a => by
    rw [Nat.le_div_iff_mul_le (by decide), Nat.mul_assoc, Nat.mul_comm U 100]
    exact Nat.div_mul_le_self a (100 * U)
  have h1 : 1 ≤ (C * (100 + M) + 100 * U - 1) / (100 * U) := by
    rw [Nat.le_div_iff_mul_le (by omega)]
    omega
  have h2 : 1 * 1 ≤ (C * (100 + M) + 100 * U - 1) / (100 * U) * U := Nat.mul_le_mul h1 (by omega)
  rw [upF, hU, show (100 : Int32) = nI 100 from rfl, nI_add, pk_mul, pk_mul, nI_add, show (1 : Int32) = nI 1 from rfl, pk_sub (by omega), pk_div (by omega) (by omega) (by omega), pk_mul]
  have h6 := hdv (C * (100 + M) + 100 * U - 1)
  have h7 : (C * (100 + M) + 100 * U - 1) / 100 ≤ 63000 := by omega
  refine ⟨by rw [nI_toInt (by omega)]; omega, by rw [nI_toInt (by omega)]; omega⟩
/-- parts: no price, below 0; or one above -/
def PQ (P : Nat → Nat → Int32) : Prop := ∀ i j, bt (P i j) (-3) (-1) ∨ bt (P i j) 1 63000
theorem partF_PQ {σ : AH} (hT : TB σ) : PQ (partF σ) := fun i j => by
  rw [partF]
  split
  · exact Or.inl (by decide)
  · split
    · exact Or.inl (by decide)
    · rename_i h2
      split
      · exact Or.inl (by decide)
      · exact Or.inr (upF_b2 hT (hiN_b2 hT _ _ ((lowA_b2 hT _ _ _).resolve_left h2) _) (moreF_bt _ _))
theorem PQ_PB {P : Nat → Nat → Int32} (h : PQ P) : PB P 63000 := fun i j => (h i j).elim (fun q => Or.inl (by rw [Int32.lt_iff_toInt_lt, zero_toInt]; have := q.2; omega)) (fun q => Or.inr ⟨by have := q.1; omega, q.2⟩)
theorem PQ_pos {P : Nat → Nat → Int32} (h : PQ P) {i j : Nat} (h0 : 0 ≤ P i j) : bt (P i j) 1 63000 := (h i j).elim (fun q => by rw [Int32.le_iff_toInt_le, zero_toInt] at h0; have := q.2; omega) id
theorem sumSt_ok {P : Nat → Nat → Int32} {set L k d : Nat} (h : ¬ (sumSt P set L (k + d)).1 = -1) : ¬ (sumSt P set L k).1 = -1 := fun q => h (sumSt_stuck q d)
/-- the whole sum is above 0 -/
theorem sumSt_pos {P : Nat → Nat → Int32} (hP : PQ P) {set L : Nat} (hL : 1 ≤ L) (hL8 : L ≤ 8) (h : ¬ (sumSt P set L L).1 = -1) : bt (sumSt P set L L).1 1 504000 := by
  obtain ⟨k, rfl⟩ : ∃ k, L = k + 1 := ⟨L - 1, by omega⟩
  have hk := sumSt_ok (d := 1) h
  have hb := (sumSt_bt (PQ_PB hP) (by decide) (set := set) (L := k + 1) k (by omega)).resolve_left hk
  rw [sumSt, if_neg hk, if_pos (Or.inl rfl)] at h ⊢
  dsimp only at h ⊢
  by_cases h0 : 0 ≤ P (sumSt P set (k + 1) k).2 (k + 1)
  · rw [if_pos h0]
    have hp := PQ_pos hP h0
    have hp0 : bt (P (sumSt P set (k + 1) k).2 (k + 1)) 0 63000 := ⟨by have := hp.1; omega, hp.2⟩
    have e := add_toInt hb hp0 (by omega)
    have := hb.1; have := hb.2; have := hp.1; have := hp.2
    refine ⟨by rw [e]; omega, by rw [e]; omega⟩
  · rw [if_neg h0] at h; exact absurd rfl h
/-- the way behind so many sets: the least sum, of a set -/
theorem wayS_spec {P : Nat → Nat → Int32} {L : Nat} : ∀ n, (wayS P L n = (-1, -1) ∧ ∀ m, m < n → (sumSt P (2 * m) L L).1 = -1) ∨ (∃ m, m < n ∧ ¬ (sumSt P (2 * m) L L).1 = -1 ∧ wayS P L n = ((sumSt P (2 * m) L L).1, nI (2 * m)) ∧ ∀ m', m' < n → (sumSt P (2 * m') L L).1 = -1 ∨ (sumSt P (2 * m) L L).1 ≤ (sumSt P (2 * m') L L).1)
  | 0 => Or.inl ⟨rfl, fun m h => absurd h (Nat.not_lt_zero m)⟩
  | n + 1 => by
    have ih := wayS_spec (P := P) (L := L) n
    rw [wayS]
    by_cases h1 : (sumSt P (2 * n) L L).1 = -1
    · rw [if_pos h1]
      rcases ih with ⟨i1, i2⟩ | ⟨m, i1, i2, i3, i4⟩
      · exact Or.inl ⟨i1, fun m hm => by
          by_cases q : m = n
          · rw [q]; exact h1
          · exact i2 m (by omega)⟩
      · exact Or.inr ⟨m, by omega, i2, i3, fun m' hm => by
          by_cases q : m' = n
          · rw [q]; exact Or.inl h1
          · exact i4 m' (by omega)⟩
    · rw [if_neg h1]
      rcases ih with ⟨i1, i2⟩ | ⟨m, i1, i2, i3, i4⟩
      · rw [i1, if_pos (Or.inl rfl)]
        exact Or.inr ⟨n, by omega, h1, rfl, fun m' hm => by
          by_cases q : m' = n
          · rw [q]; exact Or.inr (Int32.le_refl _)
          · exact Or.inl (i2 m' (by omega))⟩
      · rw [i3]
        dsimp only
        by_cases h2 : (sumSt P (2 * m) L L).1 ≤ (sumSt P (2 * n) L L).1
        · rw [if_neg (fun q => q.elim i2 (fun q => q h2))]
          exact Or.inr ⟨m, by omega, i2, rfl, fun m' hm => by
            by_cases q : m' = n
            · rw [q]; exact Or.inr h2
            · exact i4 m' (by omega)⟩
        · rw [if_pos (Or.inr h2)]
          exact Or.inr ⟨n, by omega, h1, rfl, fun m' hm => by
            by_cases q : m' = n
            · rw [q]; exact Or.inr (Int32.le_refl _)
            · refine (i4 m' (by omega)).imp_right (fun q => ?_)
              rw [Int32.not_le] at h2
              rw [Int32.le_iff_toInt_le] at q ⊢
              rw [Int32.lt_iff_toInt_lt] at h2
              omega⟩
/-- the best way: none, and the whole as one part has no price; or the sum of a set, no more than the whole as one part -/
theorem way_spec {σ : AH} {L : Nat} (hT : TB σ) (hl : lgN σ = L) (hL : 1 ≤ L) (hL8 : L ≤ 8) : (wayF σ = (-1, -1) ∧ bt (partF σ 0 L) (-3) (-1)) ∨ (∃ m, m < 2 ^ (L - 1) ∧ ¬ (sumSt (partF σ) (2 * m) L L).1 = -1 ∧ wayF σ = ((sumSt (partF σ) (2 * m) L L).1, nI (2 * m)) ∧ bt (wayF σ).1 1 504000 ∧ (bt (partF σ 0 L) (-3) (-1) ∨ (bt (partF σ 0 L) 1 63000 ∧ (wayF σ).1 ≤ partF σ 0 L))) := by
  have hP := partF_PQ hT
  have hw : wayN L = 2 ^ (L - 1) := by rw [wayN, if_neg (by omega)]
  have h1 : 1 ≤ 2 ^ (L - 1) := Nat.one_le_two_pow
  have e0 := sumSt_one (P := partF σ) (t := L) (by omega)
  rw [wayF, hl, hw]
  rcases wayS_spec (P := partF σ) (L := L) (2 ^ (L - 1)) with ⟨i1, i2⟩ | ⟨m, i1, i2, i3, i4⟩
  · refine Or.inl ⟨i1, ?_⟩
    have q := i2 0 (by omega)
    rw [Nat.mul_zero, e0] at q
    rcases hP 0 L with h | h
    · exact h
    · rw [if_neg (by rw [Int32.lt_iff_toInt_lt, zero_toInt]; have := h.1; omega)] at q
      rw [q] at h
      exact absurd h.1 (by decide)
  · refine Or.inr ⟨m, i1, i2, i3, by rw [i3]; exact sumSt_pos hP hL hL8 i2, ?_⟩
    rcases hP 0 L with h | h
    · exact Or.inl h
    · refine Or.inr ⟨h, ?_⟩
      have q := i4 0 (by omega)
      rw [Nat.mul_zero, e0, if_neg (by rw [Int32.lt_iff_toInt_lt, zero_toInt]; have := h.1; omega)] at q
      rw [i3]
      rcases q with q | q
      · rw [q] at h
        exact absurd h.1 (by decide)
      · exact q
