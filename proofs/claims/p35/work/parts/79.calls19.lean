/-! ===== calls: shares depend on the legs of the part alone; how large they are ===== -/
section SGC
variable {pv pv' wt wt' : Nat → Int32}
theorem lfS_c {i : Nat} {c : Int32} : ∀ d, (∀ k, k < d → pv (i + k) = pv' (i + k)) → lfS pv i c d = lfS pv' i c d
  | 0, _ => rfl
  | d + 1, h => by rw [lfS, lfS, lfS_c d (fun k hk => h k (by omega)), h d (by omega)]
theorem alS_c {i : Nat} : ∀ d, (∀ k, k < d → pv (i + k) = pv' (i + k) ∧ wt (i + k) = wt' (i + k)) → alS pv wt i d = alS pv' wt' i d
  | 0, _ => rfl
  | d + 1, h => by rw [alS, alS, alS_c d (fun k hk => h k (by omega)), (h d (by omega)).1, (h d (by omega)).2]
theorem otS_c {i : Nat} : ∀ d, (∀ k, k < d → pv (i + k) = pv' (i + k)) → otS pv i d = otS pv' i d
  | 0, _ => rfl
  | d + 1, h => by rw [otS, otS, otS_c d (fun k hk => h k (by omega)), h d (by omega)]
theorem rsS_c {i : Nat} {lf al : Int32} : ∀ d, (∀ k, k < d → pv (i + k) = pv' (i + k) ∧ wt (i + k) = wt' (i + k)) → rsS pv wt i lf al d = rsS pv' wt' i lf al d
  | 0, _ => rfl
  | d + 1, h => by rw [rsS, rsS, rsS_c d (fun k hk => h k (by omega)), qtS, qtS, (h d (by omega)).1, (h d (by omega)).2]
theorem unS_c {i n : Nat} {c : Int32} (h : ∀ k, k < n → pv (i + k) = pv' (i + k)) : unS pv i n c = unS pv' i n c := by
  rw [unS, unS, otS_c n h, lfS_c n h]
theorem shS_c {i n d : Nat} {c : Int32} (hd : d < n) (h : ∀ k, k < n → pv (i + k) = pv' (i + k) ∧ wt (i + k) = wt' (i + k)) : shS pv wt i n c d = shS pv' wt' i n c d := by
  have h1 : ∀ k, k < n → pv (i + k) = pv' (i + k) := fun k hk => (h k hk).1
  rw [shS, shS, otS_c n h1, lfS_c n h1, alS_c n h, rsS_c n h, qtS, qtS, muS, muS, lfS_c d (fun k hk => h1 k (by omega)), h1 d hd, (h d hd).2]
theorem sgS_c {P : Nat → Nat → Int32} {c : Int32} {L : Nat} (h : ∀ k, k < L → pv k = pv' k ∧ wt k = wt' k) : ∀ p, p ≤ L → (sgS P pv wt c L p).1 = (sgS P pv' wt' c L p).1 ∧ (sgS P pv wt c L p).2.1 = (sgS P pv' wt' c L p).2.1 ∧ ∀ k, k < (sgS P pv wt c L p).1 → (sgS P pv wt c L p).2.2 k = (sgS P pv' wt' c L p).2.2 k
  | 0, _ => ⟨rfl, rfl, fun _ _ => rfl⟩
  | p + 1, hp => by
    have ih := sgS_c (P := P) (c := c) h p (by omega)
    have hle := sgS_le (P := P) (pv := pv) (wt := wt) (c := c) (L := L) p
    by_cases hc : p + 1 = L ∨ cutB c (p + 1)
    · rw [sgS_y hc, sgS_y hc]
      generalize sgS P pv wt c L p = w at *
      generalize sgS P pv' wt' c L p = w' at *
      obtain ⟨i, u, f⟩ := w
      obtain ⟨i', u', f'⟩ := w'
      dsimp only at *
      obtain ⟨h1, h2, h3⟩ := ih
      subst h1
      subst h2
      refine ⟨rfl, by rw [unS_c (fun k hk => (h _ (by omega)).1)], fun k hk => ?_⟩
      by_cases q : i ≤ k
      · rw [if_pos q, if_pos q]; exact shS_c (by omega) (fun d hd => h _ (by omega))
      · rw [if_neg q, if_neg q]; exact h3 k (by omega)
    · rw [sgS_n hc, sgS_n hc]; exact ih
theorem sgS_L {P : Nat → Nat → Int32} {c : Int32} {L : Nat} (h : 1 ≤ L) : (sgS P pv wt c L L).1 = L := by
  obtain ⟨l, rfl⟩ : ∃ l, L = l + 1 := ⟨L - 1, by omega⟩
  rw [sgS_y (Or.inl rfl)]
end SGC
theorem i_sub {x y : Int32} (h1 : -1073741824 ≤ x.toInt - y.toInt) (h2 : x.toInt - y.toInt ≤ 1073741824) : (x - y).toInt = x.toInt - y.toInt := by
  rw [Int32.toInt_sub, Int.bmod_def]
  split <;> omega
theorem i_add {x y : Int32} (h1 : -1073741824 ≤ x.toInt + y.toInt) (h2 : x.toInt + y.toInt ≤ 1073741824) : (x + y).toInt = x.toInt + y.toInt := by
  rw [Int32.toInt_add, Int.bmod_def]
  split <;> omega
theorem zero_toInt : (0 : Int32).toInt = 0 := by decide
theorem one_neg_toInt : (-1 : Int32).toInt = -1 := by decide
theorem ne_m1 {x : Int32} (hb : bt x (-1) 1000000) (h : ¬ x = -1) : bt x 0 1000000 := by
  refine ⟨?_, hb.2⟩
  have : x.toInt ≠ -1 := fun q => h (Int32.toInt_inj.mp (q.trans one_neg_toInt.symm))
  have := hb.1
  omega
/-- what a proviso takes, and what is left -/
theorem mu_b {x p : Int32} (hx : bt x (-1300000) 1300000) (hp : bt p (-1) 1000000) : bt (if p = -1 then 0 else if x ≤ p then x else p) (-1300000) 1300000 ∧ bt (x - (if p = -1 then 0 else if x ≤ p then x else p)) (-1300000) 1300000 := by
  obtain ⟨x1, x2⟩ := hx
  by_cases h : p = -1
  · rw [if_pos h]
    have e := i_sub (x := x) (y := 0) (by rw [zero_toInt]; omega) (by rw [zero_toInt]; omega)
    rw [zero_toInt] at e
    exact ⟨⟨by rw [zero_toInt]; omega, by rw [zero_toInt]; omega⟩, ⟨by rw [e]; omega, by rw [e]; omega⟩⟩
  · rw [if_neg h]
    have hp' := ne_m1 hp h
    obtain ⟨p1, p2⟩ := hp'
    by_cases h2 : x ≤ p
    · rw [if_pos h2]
      have e := i_sub (x := x) (y := x) (by omega) (by omega)
      exact ⟨⟨x1, x2⟩, ⟨by rw [e]; omega, by rw [e]; omega⟩⟩
    · rw [if_neg h2]
      rw [Int32.le_iff_toInt_le] at h2
      have e := i_sub (x := x) (y := p) (by omega) (by omega)
      exact ⟨⟨by omega, by omega⟩, ⟨by rw [e]; omega, by rw [e]; omega⟩⟩
theorem lfS_b {pv : Nat → Int32} {i : Nat} {c : Int32} (hc : bt c (-1300000) 1300000) : ∀ d, (∀ k, k < d → bt (pv (i + k)) (-1) 1000000) → bt (lfS pv i c d) (-1300000) 1300000
  | 0, _ => hc
  | d + 1, h => by
    rw [lfS]
    exact (mu_b (lfS_b hc d (fun k hk => h k (by omega))) (h d (by omega))).2
theorem muS_b {pv : Nat → Int32} {i d : Nat} {c : Int32} (hc : bt c (-1300000) 1300000) (h : ∀ k, k < d + 1 → bt (pv (i + k)) (-1) 1000000) : bt (muS pv i c d) (-1300000) 1300000 := by
  rw [muS]
  exact (mu_b (lfS_b hc d (fun k hk => h k (by omega))) (h d (by omega))).1
theorem alS_b {pv wt : Nat → Int32} {i : Nat} : ∀ n, n ≤ 8 → (∀ k, k < n → bt (wt (i + k)) 1 9999) → bt (alS pv wt i n) 0 (9999 * (n : Int)) ∧ ∀ d, d < n → pv (i + d) = -1 → (wt (i + d)).toInt ≤ (alS pv wt i n).toInt
  | 0, _, _ => ⟨⟨by rw [alS, zero_toInt]; omega, by rw [alS, zero_toInt]; omega⟩, fun d hd => absurd hd (Nat.not_lt_zero d)⟩
  | n + 1, hn, h => by
    obtain ⟨⟨a1, a2⟩, a3⟩ := alS_b (pv := pv) n (by omega) (fun k hk => h k (by omega))
    obtain ⟨w1, w2⟩ := h n (by omega)
    rw [alS]
    by_cases c : pv (i + n) = -1
    · rw [if_pos c]
      have e := i_add (x := alS pv wt i n) (y := wt (i + n)) (by omega) (by omega)
      refine ⟨⟨by rw [e]; omega, by rw [e]; omega⟩, fun d hd hp => ?_⟩
      rw [e]
      by_cases q : d = n
      · subst q; omega
      · have := a3 d (by omega) hp
        omega
    · rw [if_neg c]
      have e := i_add (x := alS pv wt i n) (y := 0) (by rw [zero_toInt]; omega) (by rw [zero_toInt]; omega)
      rw [zero_toInt] at e
      refine ⟨⟨by rw [e]; omega, by rw [e]; omega⟩, fun d hd hp => ?_⟩
      rw [e]
      by_cases q : d = n
      · subst q; exact absurd hp c
      · have := a3 d (by omega) hp
        omega
theorem qt_b {wt : Nat → Int32} {lf al : Int32} {k : Nat} (hl : bt lf (-1300000) 1300000) (hw : bt (wt k) 1 9999) (ha : (wt k).toInt ≤ al.toInt) : bt (qtS wt lf al k) (-1300000) 1300000 := by
  obtain ⟨l1, l2⟩ := hl
  obtain ⟨w1, w2⟩ := hw
  have hN : lf.toInt.natAbs ≤ 1300000 := by omega
  have hW : (wt k).toInt.natAbs ≤ 9999 := by omega
  have hm : (lf.toInt * (wt k).toInt).natAbs ≤ 1300000 * 9999 := by rw [Int.natAbs_mul]; exact Nat.mul_le_mul hN hW
  have hq : ((lf.toInt * (wt k).toInt).tdiv al.toInt).natAbs ≤ 1300000 := by
    rw [Int.natAbs_tdiv, Int.natAbs_mul]
    refine Nat.div_le_of_le_mul ?_
    have h2 : (wt k).toInt.natAbs ≤ al.toInt.natAbs := by omega
    have h3 := Nat.mul_le_mul hN h2
    rw [Nat.mul_comm al.toInt.natAbs]
    exact h3
  have e : (qtS wt lf al k).toInt = (lf.toInt * (wt k).toInt).tdiv al.toInt := by
    rw [qtS, Int64.toInt_toInt32, Int64.toInt_div, Int64.toInt_mul, Int32.toInt_toInt64, Int32.toInt_toInt64, Int32.toInt_toInt64]
    generalize lf.toInt * (wt k).toInt = x at *
    have e1 : x.bmod (2 ^ 64) = x := by
      rw [Int.bmod_def]; split <;> omega
    rw [e1]
    generalize x.tdiv al.toInt = y at *
    have e2 : y.bmod (2 ^ 64) = y := by
      rw [Int.bmod_def]; split <;> omega
    rw [e2, Int.bmod_def]
    split <;> omega
  unfold bt
  rw [e]
  omega
theorem rsS_b {pv wt : Nat → Int32} {i : Nat} {lf al : Int32} (hl : bt lf (-1300000) 1300000) : ∀ d, d ≤ 8 → (∀ k, k < d → pv (i + k) = -1 → bt (qtS wt lf al (i + k)) (-1300000) 1300000) → bt (rsS pv wt i lf al d) (-1300000 * ((d : Int) + 1)) (1300000 * ((d : Int) + 1))
  | 0, _, _ => ⟨by rw [rsS]; have := hl.1; omega, by rw [rsS]; have := hl.2; omega⟩
  | d + 1, hd, h => by
    obtain ⟨a1, a2⟩ := rsS_b hl d (by omega) (fun k hk => h k (by omega))
    rw [rsS]
    by_cases c : pv (i + d) = -1
    · rw [if_pos c]
      obtain ⟨q1, q2⟩ := h d (by omega) c
      have e := i_sub (x := rsS pv wt i lf al d) (y := qtS wt lf al (i + d)) (by omega) (by omega)
      unfold bt
      rw [e]
      omega
    · rw [if_neg c]
      have e := i_sub (x := rsS pv wt i lf al d) (y := 0) (by rw [zero_toInt]; omega) (by rw [zero_toInt]; omega)
      rw [zero_toInt] at e
      unfold bt
      rw [e]
      omega
theorem shS_b {pv wt : Nat → Int32} {i n d : Nat} {c : Int32} (hn : n ≤ 8) (hd : d < n) (hc : bt c (-1300000) 1300000) (hp : ∀ k, k < n → bt (pv (i + k)) (-1) 1000000) (hw : ∀ k, k < n → bt (wt (i + k)) 1 9999) : bt (shS pv wt i n c d) (-1073741824) 1073741824 := by
  have hl := lfS_b (i := i) hc n hp
  have ha := alS_b (pv := pv) (i := i) n hn hw
  have hq : ∀ k, k < n → pv (i + k) = -1 → bt (qtS wt (lfS pv i c n) (alS pv wt i n) (i + k)) (-1300000) 1300000 := fun k hk hpk => qt_b hl (hw k hk) (ha.2 k hk hpk)
  have hr := rsS_b hl n hn hq
  rw [shS]
  by_cases c1 : pv (i + d) = -1
  · rw [if_pos c1]
    obtain ⟨q1, q2⟩ := hq d hd c1
    split
    · obtain ⟨r1, r2⟩ := hr
      have e := i_add (x := qtS wt (lfS pv i c n) (alS pv wt i n) (i + d)) (y := rsS pv wt i (lfS pv i c n) (alS pv wt i n) n) (by omega) (by omega)
      unfold bt
      rw [e]
      omega
    · exact ⟨by omega, by omega⟩
  · rw [if_neg c1]
    obtain ⟨m1, m2⟩ := muS_b (i := i) (d := d) hc (fun k hk => hp k (by omega))
    exact ⟨by omega, by omega⟩
theorem sgS_b {P : Nat → Nat → Int32} {pv wt : Nat → Int32} {c : Int32} {L : Nat} (hL : L ≤ 8) (hP : ∀ i j, bt (P i j) (-1300000) 1300000) (hp : ∀ k, k < L → bt (pv k) (-1) 1000000) (hw : ∀ k, k < L → bt (wt k) 1 9999) : ∀ p, p ≤ L → ∀ k, k < (sgS P pv wt c L p).1 → bt ((sgS P pv wt c L p).2.2 k) (-1073741824) 1073741824
  | 0, _ => fun k hk => absurd hk (Nat.not_lt_zero k)
  | p + 1, hpL => by
    have ih := sgS_b (P := P) (c := c) hL hP hp hw p (by omega)
    have hle := sgS_le (P := P) (pv := pv) (wt := wt) (c := c) (L := L) p
    by_cases hc : p + 1 = L ∨ cutB c (p + 1)
    · rw [sgS_y hc]
      generalize sgS P pv wt c L p = w at *
      obtain ⟨i, u, f⟩ := w
      dsimp only at *
      intro k hk
      by_cases q : i ≤ k
      · rw [if_pos q]
        exact shS_b (by omega) (by omega) (hP _ _) (fun d hd => hp _ (by omega)) (fun d hd => hw _ (by omega))
      · rw [if_neg q]; exact ih k (by omega)
    · rw [sgS_n hc]; exact ih
theorem bt_w {x : Int32} (h : bt x 0 1300000) : bt x (-1300000) 1300000 := ⟨Int.le_trans (by decide) h.1, h.2⟩
theorem partF_b {σ : AH} (hT : RT σ) (i j : Nat) : bt (partF σ i j) (-1300000) 1300000 := by
  rw [partF]
  split
  · exact ⟨by decide, by decide⟩
  · split
    · exact ⟨by decide, by decide⟩
    · rename_i h2
      split
      · exact ⟨by decide, by decide⟩
      · exact bt_w (upF_bt hT (hiN_bt hT _ _ ((lowA_bt hT _ _ _).resolve_left h2) _) (moreF_bt _ _))
theorem pvF_b {σ : AH} (hJ : RJ σ) (hP : RP σ) {k : Nat} (hk : k < 8) : bt (pvF σ k) (-1) 1000000 := by
  obtain ⟨L, h1, h2, h3, h4, h5, h6⟩ := hJ
  have m := vp_mul3 (h4 k hk).2.2.2.2.2.2 (h4 k hk).2.2.2.2.1 (h4 k hk).2.2.2.2.2.1
  obtain ⟨j, hj, e⟩ := vp_in_of m.1 (by decide)
  have hj2 : p3 (zI σ 48 k) (zI σ 46 k) (zI σ 47 k) = j := by rw [p3, ix, e, cl0 (by omega)]
  have hb := (hP.2 j hj).2
  rw [pvF, hj2]
  obtain ⟨b1, b2⟩ := hb
  have e1 : (1 : Int32).toInt = 1 := by decide
  have ee := i_sub (x := zI σ 36 j) (y := 1) (by rw [e1]; omega) (by rw [e1]; omega)
  rw [e1] at ee
  unfold bt
  rw [ee]
  omega
theorem sgF_b {σ : AH} (hT : RT σ) (hJ : RJ σ) (hP : RP σ) {k : Nat} (hk : k < (sgF σ (lgN σ)).1) : bt ((sgF σ (lgN σ)).2.2 k) (-1073741824) 1073741824 := by
  obtain ⟨L, h1, h2, h3⟩ := RJ_L hJ
  have hl : lgN σ = L := by rw [lgN, h2, cl0 (by omega)]
  exact sgS_b (by omega) (partF_b hT) (fun k hk => pvF_b hJ hP (by omega)) (fun k hk => (R_wt hT hJ hP hk).2) (lgN σ) (Nat.le_refl _) k hk
