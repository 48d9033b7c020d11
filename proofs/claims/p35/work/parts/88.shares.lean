/-! ===== shares: what they are together ===== -/
theorem smI_add {f h : Nat → Int32} : ∀ n, smI (fun k => f k + h k) n = smI f n + smI h n
  | 0 => by
    rw [smI, smI, smI]
    grind
  | n + 1 => by
    rw [smI, smI, smI, smI_add n]
    grind
theorem smI_at {f : Nat → Int32} {d0 : Nat} {x : Int32} (h0 : f d0 = x) : ∀ n, (∀ d, d < n → d ≠ d0 → f d = 0) → smI f n = if d0 < n then x else 0
  | 0, _ => by rw [if_neg (Nat.not_lt_zero _)]; rfl
  | n + 1, h => by
    rw [smI, smI_at h0 n (fun d hd => h d (by omega))]
    by_cases q : n = d0
    · subst q
      rw [h0, if_neg (Nat.lt_irrefl _), if_pos (Nat.lt_succ_self _)]
      grind
    · rw [h n (by omega) q]
      by_cases q2 : d0 < n
      · rw [if_pos q2, if_pos (by omega)]; grind
      · rw [if_neg q2, if_neg (by omega)]; grind
section SH
variable {pv wt : Nat → Int32} {i : Nat} {c : Int32}
theorem mu_sum : ∀ n, smI (fun d => muS pv i c d) n = c - lfS pv i c n
  | 0 => by rw [smI, lfS]; grind
  | n + 1 => by
    rw [smI, mu_sum n, lfS, muS]
    grind
theorem q_sum {lf al : Int32} : ∀ n, smI (fun d => if pv (i + d) = -1 then qtS wt lf al (i + d) else 0) n = lf - rsS pv wt i lf al n
  | 0 => by rw [smI, rsS]; grind
  | n + 1 => by
    rw [smI, q_sum n, rsS]
    grind
theorem last_sum {n : Nat} {x : Int32} (hn : i + n ≤ 8) : smI (fun d => if pv (i + d) = -1 ∧ nI (i + d) = otS pv i n then x else 0) n = if otS pv i n = -1 then 0 else x := by
  by_cases h : otS pv i n = -1
  · rw [if_pos h]
    exact smI_0 (fun k hk => by rw [if_neg (fun q => (otS_no n (by omega)).mp h k hk q.1)])
  · rw [if_neg h]
    obtain ⟨k, hk, e1, e2, -⟩ := ot_ix hn h
    rw [smI_at (d0 := k) (x := x) (by rw [if_pos ⟨e2, e1.symm⟩]) n (fun d hd hne => by
      rw [if_neg]
      intro q
      rw [e1] at q
      have := (nI_eq (by omega) (by omega)).mp q.2
      omega), if_pos hk]
/-- shares and what is no share are the part's price -/
theorem shS_sum {n : Nat} (hn : i + n ≤ 8) : smI (fun d => shS pv wt i n c d) n + unS pv i n c = c := by
  have e : smI (fun d => shS pv wt i n c d) n = smI (fun d => (muS pv i c d + (if pv (i + d) = -1 then qtS wt (lfS pv i c n) (alS pv wt i n) (i + d) else 0)) + (if pv (i + d) = -1 ∧ nI (i + d) = otS pv i n then rsS pv wt i (lfS pv i c n) (alS pv wt i n) n else 0)) n := by
    refine smI_c (fun d hd => ?_)
    rw [shS]
    by_cases c1 : pv (i + d) = -1
    · rw [if_pos c1, if_pos c1, muS, if_pos c1]
      by_cases c2 : nI (i + d) = otS pv i n
      · rw [if_pos c2, if_pos ⟨c1, c2⟩]; grind
      · rw [if_neg c2, if_neg (fun q => c2 q.2)]; grind
    · rw [if_neg c1, if_neg c1, if_neg (fun q => c1 q.1)]; grind
  rw [e, smI_add, smI_add, mu_sum, last_sum hn, unS]
  by_cases h : otS pv i n = -1
  · rw [if_pos h, if_pos h, smI_0 (fun k hk => by rw [if_neg ((otS_no n (by omega)).mp h k hk)])]
    grind
  · rw [if_neg h, if_neg h, q_sum]
    grind
/-! bounds -/
theorem mn_b {x p : Int32} {m : Int} (hm : m ≤ 1000000) (hx : bt x 0 m) (hp : bt p (-1) 1000000) : bt (if p = -1 then 0 else if x ≤ p then x else p) 0 x.toInt ∧ bt (x - (if p = -1 then 0 else if x ≤ p then x else p)) 0 x.toInt := by
  obtain ⟨x1, x2⟩ := hx
  by_cases h : p = -1
  · rw [if_pos h]
    have e := i_sub (x := x) (y := 0) (by rw [zero_toInt]; omega) (by rw [zero_toInt]; omega)
    rw [zero_toInt] at e
    refine ⟨⟨by rw [zero_toInt]; omega, by rw [zero_toInt]; omega⟩, by rw [e]; omega, by rw [e]; omega⟩
  · rw [if_neg h]
    have hp2 := ne_m1 hp h
    by_cases q : x ≤ p
    · rw [if_pos q]
      have e := i_sub (x := x) (y := x) (by omega) (by omega)
      exact ⟨⟨x1, Int.le_refl _⟩, by rw [e]; omega, by rw [e]; omega⟩
    · rw [if_neg q]
      rw [Int32.not_le, Int32.lt_iff_toInt_lt] at q
      have := hp2.1
      have e := i_sub (x := x) (y := p) (by omega) (by omega)
      exact ⟨⟨hp2.1, by omega⟩, by rw [e]; omega, by rw [e]; omega⟩
theorem lfS_p (hc : bt c 0 63000) : ∀ d, (∀ k, k < d → bt (pv (i + k)) (-1) 1000000) → bt (lfS pv i c d) 0 63000
  | 0, _ => hc
  | d + 1, h => by
    have ih := lfS_p hc d (fun k hk => h k (by omega))
    have := (mn_b (by decide) ih (h d (by omega))).2
    rw [lfS]
    exact ⟨this.1, by have := this.2; have := ih.2; omega⟩
theorem muS_p {d : Nat} (hc : bt c 0 63000) (h : ∀ k, k < d + 1 → bt (pv (i + k)) (-1) 1000000) : bt (muS pv i c d) 0 63000 := by
  have ih := lfS_p (i := i) hc d (fun k hk => h k (by omega))
  have := (mn_b (by decide) ih (h d (by omega))).1
  rw [muS]
  exact ⟨this.1, by have := this.2; have := ih.2; omega⟩
theorem qt_p {lf al : Int32} {k : Nat} (hl : bt lf 0 63000) (hw : bt (wt k) 1 9999) (ha : (wt k).toInt ≤ al.toInt) : (qtS wt lf al k).toInt = (lf.toInt * (wt k).toInt) / al.toInt ∧ bt (qtS wt lf al k) 0 63000 := by
  obtain ⟨l1, l2⟩ := hl
  obtain ⟨w1, w2⟩ := hw
  have hm0 : 0 ≤ lf.toInt * (wt k).toInt := Int.mul_nonneg l1 (by omega)
  have hm1 : lf.toInt * (wt k).toInt ≤ 63000 * 9999 := Int.mul_le_mul l2 w2 (by omega) (by decide)
  have hd : lf.toInt * (wt k).toInt / al.toInt ≤ lf.toInt := by
    refine Int.ediv_le_of_le_mul (by omega) ?_
    exact Int.mul_le_mul_of_nonneg_left ha l1
  have hd0 : 0 ≤ lf.toInt * (wt k).toInt / al.toInt := Int.ediv_nonneg hm0 (by omega)
  have e : (qtS wt lf al k).toInt = (lf.toInt * (wt k).toInt) / al.toInt := by
    rw [qtS, Int64.toInt_toInt32, Int64.toInt_div, Int64.toInt_mul, Int32.toInt_toInt64, Int32.toInt_toInt64, Int32.toInt_toInt64]
    generalize lf.toInt * (wt k).toInt = x at *
    have e1 : x.bmod (2 ^ 64) = x := by
      rw [Int.bmod_def]; split <;> omega
    rw [e1, Int.tdiv_eq_ediv_of_nonneg hm0]
    generalize x / al.toInt = y at *
    have e2 : y.bmod (2 ^ 64) = y := by
      rw [Int.bmod_def]; split <;> omega
    rw [e2, Int.bmod_def]
    split <;> omega
  exact ⟨e, by unfold bt; rw [e]; omega⟩
theorem mul_up {F A AL W Q R : Int} (h : F * (A - AL) ≤ R * A) (hq : Q * A ≤ F * W) : F * (A - (AL + W)) ≤ (R - Q) * A := by
  have e1 : F * (A - (AL + W)) = F * (A - AL) - F * W := by rw [← Int.sub_sub, Int.mul_sub]
  have e2 : (R - Q) * A = R * A - Q * A := Int.sub_mul R Q A
  rw [e1, e2]
  omega
/-- what is left behind so many shares by weights: no less than the weights to come take -/
theorem rsS_p {lf al : Int32} {n : Nat} (hl : bt lf 0 63000) (hn : n ≤ 8) (hw : ∀ k, k < n → bt (wt (i + k)) 1 9999) (ha : ∀ d, d < n → pv (i + d) = -1 → (wt (i + d)).toInt ≤ al.toInt) : ∀ d, d ≤ n → bt (rsS pv wt i lf al d) (-63000 * (d : Int)) 63000 ∧ lf.toInt * (al.toInt - (alS pv wt i d).toInt) ≤ (rsS pv wt i lf al d).toInt * al.toInt
  | 0, _ => by
    rw [rsS, alS, zero_toInt]
    exact ⟨⟨by have := hl.1; omega, hl.2⟩, by rw [Int.sub_zero]; exact Int.le_refl _⟩
  | d + 1, hd => by
    obtain ⟨⟨r1, r2⟩, r3⟩ := rsS_p hl hn hw ha d (by omega)
    obtain ⟨⟨a1, a2⟩, -⟩ := alS_b (pv := pv) (wt := wt) (i := i) d (by omega) (fun k hk => hw k (by omega))
    rw [rsS, alS]
    by_cases c : pv (i + d) = -1
    · rw [if_pos c, if_pos c]
      obtain ⟨q0, q1, q2⟩ := qt_p hl (hw d (by omega)) (ha d (by omega) c)
      obtain ⟨w1, w2⟩ := hw d (by omega)
      have e := i_sub (x := rsS pv wt i lf al d) (y := qtS wt lf al (i + d)) (by omega) (by omega)
      have e2 := i_add (x := alS pv wt i d) (y := wt (i + d)) (by omega) (by omega)
      refine ⟨⟨by rw [e]; omega, by rw [e]; omega⟩, ?_⟩
      rw [e, e2]
      refine mul_up r3 ?_
      rw [q0]
      have := ha d (by omega) c
      exact Int.ediv_mul_le _ (by omega)
    · rw [if_neg c, if_neg c]
      have e := i_sub (x := rsS pv wt i lf al d) (y := 0) (by rw [zero_toInt]; omega) (by rw [zero_toInt]; omega)
      have e2 := i_add (x := alS pv wt i d) (y := 0) (by rw [zero_toInt]; omega) (by rw [zero_toInt]; omega)
      rw [zero_toInt] at e e2
      refine ⟨⟨by rw [e]; omega, by rw [e]; omega⟩, ?_⟩
      rw [e, e2, Int.sub_zero, Int.add_zero]
      exact r3
theorem rs_0 {n : Nat} (hc : bt c 0 63000) (hn : n ≤ 8) (hp : ∀ k, k < n → bt (pv (i + k)) (-1) 1000000) (hw : ∀ k, k < n → bt (wt (i + k)) 1 9999) (h : ∃ d, d < n ∧ pv (i + d) = -1) : bt (rsS pv wt i (lfS pv i c n) (alS pv wt i n) n) 0 63000 := by
  have hl := lfS_p (i := i) hc n hp
  obtain ⟨⟨a1, a2⟩, a3⟩ := alS_b (pv := pv) (i := i) n hn hw
  obtain ⟨⟨r1, r2⟩, r3⟩ := rsS_p hl hn hw a3 n (Nat.le_refl n)
  obtain ⟨d, hd, hpd⟩ := h
  have h1 := a3 d hd hpd
  have h2 := (hw d hd).1
  rw [Int.sub_self, Int.mul_zero] at r3
  refine ⟨?_, r2⟩
  by_cases q : 0 ≤ (rsS pv wt i (lfS pv i c n) (alS pv wt i n) n).toInt
  · exact q
  · have := Int.mul_le_mul_of_nonneg_right (show (rsS pv wt i (lfS pv i c n) (alS pv wt i n) n).toInt ≤ -1 by omega) a1
    omega
theorem shS_p {n d : Nat} (hc : bt c 0 63000) (hn : n ≤ 8) (hd : d < n) (hp : ∀ k, k < n → bt (pv (i + k)) (-1) 1000000) (hw : ∀ k, k < n → bt (wt (i + k)) 1 9999) : bt (shS pv wt i n c d) 0 126000 := by
  have hl := lfS_p (i := i) hc n hp
  have ha := alS_b (pv := pv) (i := i) n hn hw
  rw [shS]
  by_cases c1 : pv (i + d) = -1
  · rw [if_pos c1]
    obtain ⟨-, q1, q2⟩ := qt_p hl (hw d hd) (ha.2 d hd c1)
    split
    · obtain ⟨r1, r2⟩ := rs_0 hc hn hp hw ⟨d, hd, c1⟩
      have e := i_add (x := qtS wt (lfS pv i c n) (alS pv wt i n) (i + d)) (y := rsS pv wt i (lfS pv i c n) (alS pv wt i n) n) (by omega) (by omega)
      unfold bt
      rw [e]
      omega
    · exact ⟨by omega, by omega⟩
  · rw [if_neg c1]
    obtain ⟨m1, m2⟩ := muS_p (i := i) (d := d) hc (fun k hk => hp k (by omega))
    exact ⟨by omega, by omega⟩
theorem unS_p {n : Nat} (hc : bt c 0 63000) (hp : ∀ k, k < n → bt (pv (i + k)) (-1) 1000000) : bt (unS pv i n c) 0 63000 := by
  rw [unS]
  split
  · exact lfS_p hc n hp
  · exact ⟨by rw [zero_toInt]; omega, by rw [zero_toInt]; omega⟩
end SH
/-! all parts of a way -/
theorem smI_cat {f : Nat → Int32} (a : Nat) : ∀ b, smI f (a + b) = smI f a + smI (fun d => f (a + d)) b
  | 0 => by rw [smI]; show smI f a = _; grind
  | b + 1 => by
    rw [show a + (b + 1) = (a + b) + 1 from rfl, smI, smI, smI_cat a b]
    grind
/-- shares and what is no share, behind so many points: the sum of the parts; all of them small -/
theorem sgS_sum {P : Nat → Nat → Int32} {pv wt : Nat → Int32} {c : Int32} {set L : Nat} (hP : PQ P) (hL8 : L ≤ 8) (hc : ∀ p, p ≤ L → (cutB c p ↔ set.testBit p = true)) (hp : ∀ k, k < L → bt (pv k) (-1) 1000000) (hw : ∀ k, k < L → bt (wt k) 1 9999) : ∀ p, p ≤ L → ¬ (sumSt P set L p).1 = -1 → (sgS P pv wt c L p).1 = (sumSt P set L p).2 ∧ smI (sgS P pv wt c L p).2.2 (sgS P pv wt c L p).1 + (sgS P pv wt c L p).2.1 = (sumSt P set L p).1 ∧ bt (sgS P pv wt c L p).2.1 0 (63000 * (p : Int)) ∧ ∀ k, k < (sgS P pv wt c L p).1 → bt ((sgS P pv wt c L p).2.2 k) 0 126000
  | 0, _, _ => ⟨rfl, by show (0 : Int32) + 0 = 0; decide, ⟨by show (0 : Int) ≤ (0 : Int32).toInt; decide, by show (0 : Int32).toInt ≤ 63000 * 0; decide⟩, fun k hk => absurd hk (Nat.not_lt_zero k)⟩
  | p + 1, hpL, h => by
    have h0 := sumSt_ok (d := 1) h
    obtain ⟨e1, e2, e3, e4⟩ := sgS_sum hP hL8 hc hp hw p (by omega) h0
    have hle := sgS_le (P := P) (pv := pv) (wt := wt) (c := c) (L := L) p
    by_cases q : p + 1 = L ∨ cutB c (p + 1)
    · have q' : p + 1 = L ∨ set.testBit (p + 1) = true := q.imp_right (hc (p + 1) hpL).mp
      rw [sumSt, if_neg h0, if_pos q'] at h ⊢
      dsimp only at h ⊢
      rw [sgS_y q]
      generalize hs : (sgS P pv wt c L p).1 = s at *
      rw [← e1] at h ⊢
      by_cases hpos : 0 ≤ P s (p + 1)
      · rw [if_pos hpos] at h ⊢
        have hb := PQ_pos hP hpos
        have hb0 : bt (P s (p + 1)) 0 63000 := ⟨by have := hb.1; omega, hb.2⟩
        obtain ⟨n, hn⟩ : ∃ n, p + 1 = s + n := ⟨p + 1 - s, by omega⟩
        have en : p + 1 - s = n := by omega
        have hp' : ∀ k, k < n → bt (pv (s + k)) (-1) 1000000 := fun k hk => hp _ (by omega)
        have hw' : ∀ k, k < n → bt (wt (s + k)) 1 9999 := fun k hk => hw _ (by omega)
        have hu := unS_p (i := s) hb0 hp'
        refine ⟨rfl, ?_, ?_, fun k hk => ?_⟩
        · dsimp only
          rw [en]
          have es := shS_sum (pv := pv) (wt := wt) (i := s) (c := P s (p + 1)) (n := n) (by omega)
          rw [hn, smI_cat s n]
          have g1 : smI (fun k => if s ≤ k then shS pv wt s n (P s (p + 1)) (k - s) else (sgS P pv wt c L p).2.2 k) s = smI (sgS P pv wt c L p).2.2 s := smI_c (fun k hk => by rw [if_neg (by omega)])
          have g2 : smI (fun d => (fun k => if s ≤ k then shS pv wt s n (P s (p + 1)) (k - s) else (sgS P pv wt c L p).2.2 k) (s + d)) n = smI (fun d => shS pv wt s n (P s (p + 1)) d) n := smI_c (fun k hk => by
            dsimp only
            rw [if_pos (by omega), show s + k - s = k by omega])
          rw [← hn, g1, g2]
          grind
        · dsimp only
          rw [en]
          have := e3.1; have := e3.2; have := hu.1; have := hu.2
          have e := i_add (x := (sgS P pv wt c L p).2.1) (y := unS pv s n (P s (p + 1))) (by omega) (by omega)
          unfold bt
          rw [e]
          omega
        · dsimp only at hk ⊢
          rw [en]
          by_cases g : s ≤ k
          · rw [if_pos g]
            exact shS_p hb0 (by omega) (by omega) hp' hw'
          · rw [if_neg g]
            exact e4 k (by omega)
      · rw [if_neg hpos] at h
        exact absurd rfl h
    · have q' : ¬ (p + 1 = L ∨ set.testBit (p + 1) = true) := fun z => q (z.imp_right (hc (p + 1) hpL).mpr)
      rw [sumSt, if_neg h0, if_neg q', sgS_n q]
      exact ⟨e1, e2, ⟨e3.1, by have := e3.2; omega⟩, e4⟩
