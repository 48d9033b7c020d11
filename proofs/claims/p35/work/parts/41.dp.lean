/-! ===== point by point is as good as all sets ===== -/
/-- parts have no price, or a price that adds up -/
def PB (P : Nat → Nat → Int32) (M : Nat) : Prop := ∀ i j, P i j < 0 ∨ bt (P i j) 0 M
theorem add_toInt {a b : Int32} {m n : Int} (ha : bt a 0 m) (hb : bt b 0 n) (h : m + n < 2 ^ 31) : (a + b).toInt = a.toInt + b.toInt := by
  obtain ⟨x, rfl, -, hx⟩ := bt_nI ha (by decide) (by have := hb.1; have := hb.2; omega)
  obtain ⟨y, rfl, -, hy⟩ := bt_nI hb (by decide) (by have := ha.1; have := ha.2; omega)
  rw [nI_add, nI_toInt (by omega), nI_toInt (by omega), nI_toInt (by omega)]
  omega
theorem sumSt_bt {P : Nat → Nat → Int32} {M : Nat} (hP : PB P M) {set L : Nat} (hM : 9 * M < 2 ^ 30) : ∀ k, k ≤ 9 → (sumSt P set L k).1 = -1 ∨ bt (sumSt P set L k).1 0 (k * M : Nat)
  | 0, _ => Or.inr ⟨(by decide : (0 : Int) ≤ (0 : Int32).toInt), by show (0 : Int) ≤ _; omega⟩
  | k + 1, hk => by
    have ih := sumSt_bt hP hM (set := set) (L := L) k (by omega)
    have hkM : k * M ≤ 9 * M := Nat.mul_le_mul_right M (by omega)
    have hs : (k + 1) * M = k * M + M := Nat.succ_mul k M
    rw [sumSt]
    split
    · exact Or.inl (by assumption)
    · rename_i hn
      rcases ih with ih | ih
      · exact absurd ih hn
      · split
        · dsimp only
          split
          · rename_i h0
            rcases hP (sumSt P set L k).2 (k + 1) with h | h
            · exact absurd h0 (Int32.not_le.mpr h)
            · refine Or.inr ?_
              have e := add_toInt ih h (by omega)
              have := ih.1; have := ih.2; have := h.1; have := h.2
              refine ⟨by rw [e]; omega, by rw [e, hs]; omega⟩
          · exact Or.inl rfl
        · exact Or.inr ⟨ih.1, by have := ih.2; rw [hs]; omega⟩
/-- a set whose highest cut is i, below i and behind it -/
theorem sumSt_lo {P : Nat → Nat → Int32} {i s t : Nat} (hs : s < 2 ^ i) (hit : i < t) : ∀ k, k ≤ i → sumSt P (2 ^ i + s) t k = sumSt P s i k
  | 0, _ => rfl
  | k + 1, hk => by
    have ih := sumSt_lo (P := P) hs hit k (by omega)
    rw [sumSt, sumSt, ih]
    have hb : (k + 1 = t ∨ (2 ^ i + s).testBit (k + 1) = true) ↔ (k + 1 = i ∨ s.testBit (k + 1) = true) := by
      rcases Nat.lt_or_ge (k + 1) i with h | h
      · rw [Nat.testBit_two_pow_add_gt h]
        constructor
        · rintro (q | q)
          · omega
          · exact Or.inr q
        · rintro (q | q)
          · omega
          · exact Or.inr q
      · have e : k + 1 = i := by omega
        rw [e, Nat.testBit_two_pow_add_eq, Nat.testBit_lt_two_pow hs]
        simp
    by_cases h1 : (sumSt P s i k).1 = -1
    · rw [if_pos h1, if_pos h1]
    · rw [if_neg h1, if_neg h1]
      by_cases h2 : k + 1 = i ∨ s.testBit (k + 1) = true
      · rw [if_pos h2, if_pos (hb.mpr h2)]
      · rw [if_neg h2, if_neg (fun q => h2 (hb.mp q))]
theorem tb_hi {i s k : Nat} (hs : s < 2 ^ i) (hk : i < k) : (2 ^ i + s).testBit k = false := by
  apply Nat.testBit_lt_two_pow
  have h1 : 2 ^ (i + 1) ≤ 2 ^ k := Nat.pow_le_pow_right (by decide) hk
  have h2 : 2 ^ (i + 1) = 2 ^ i + 2 ^ i := by rw [Nat.pow_succ]; omega
  omega
theorem sumSt_mid {P : Nat → Nat → Int32} {i s t : Nat} (hs : s < 2 ^ i) (hit : i < t) : ∀ d, i + d < t → sumSt P (2 ^ i + s) t (i + d) = sumSt P s i i
  | 0, _ => sumSt_lo hs hit i (Nat.le_refl _)
  | d + 1, h => by
    have ih := sumSt_mid (P := P) hs hit d (by omega)
    rw [show i + (d + 1) = (i + d) + 1 from rfl, sumSt, ih]
    split
    · rfl
    · rw [if_neg]
      rintro (q | q)
      · omega
      · rw [tb_hi hs (by omega)] at q; exact absurd q (by decide)
theorem sumSt_b {P : Nat → Nat → Int32} {i s : Nat} (hi : 0 < i) (h : (sumSt P s i i).1 ≠ -1) : (sumSt P s i i).2 = i := by
  obtain ⟨k, rfl⟩ : ∃ k, i = k + 1 := ⟨i - 1, by omega⟩
  rw [sumSt] at h ⊢
  split
  · rename_i h1; rw [if_pos h1] at h; exact absurd h1 h
  · rw [if_pos (Or.inl rfl)]
/-- the price of a way whose last cut is i -/
theorem sumSt_cut {P : Nat → Nat → Int32} {i s t : Nat} (hi : 0 < i) (hs : s < 2 ^ i) (hit : i < t) :
    (sumSt P (2 ^ i + s) t t).1 = if (sumSt P s i i).1 = -1 ∨ P i t < 0 then -1 else (sumSt P s i i).1 + P i t := by
  obtain ⟨d, rfl⟩ : ∃ d, t = (i + d) + 1 := ⟨t - 1 - i, by omega⟩
  have hm := sumSt_mid (P := P) hs hit d (by omega)
  rw [sumSt, hm]
  by_cases h1 : (sumSt P s i i).1 = -1
  · rw [if_pos h1, if_pos (Or.inl h1), h1]
  · rw [if_neg h1, if_pos (Or.inl rfl), sumSt_b hi h1]
    dsimp only
    by_cases h2 : P i (i + d + 1) < 0
    · rw [if_neg (Int32.not_le.mpr h2), if_pos (Or.inr h2)]
    · rw [if_pos (Int32.not_lt.mp h2), if_neg (fun q => q.elim h1 h2)]
theorem sumSt_0 {P : Nat → Nat → Int32} {t : Nat} : ∀ k, k < t → sumSt P 0 t k = (0, 0)
  | 0, _ => rfl
  | k + 1, h => by
    rw [sumSt, sumSt_0 k (by omega), if_neg (by decide), if_neg]
    rintro (q | q)
    · omega
    · rw [Nat.zero_testBit] at q; exact absurd q (by decide)
theorem sumSt_one {P : Nat → Nat → Int32} {t : Nat} (ht : 0 < t) : (sumSt P 0 t t).1 = if P 0 t < 0 then -1 else P 0 t := by
  obtain ⟨k, rfl⟩ : ∃ k, t = k + 1 := ⟨t - 1, by omega⟩
  rw [sumSt, sumSt_0 k (by omega), if_neg (by decide), if_pos (Or.inl rfl)]
  dsimp only
  by_cases h2 : P 0 (k + 1) < 0
  · rw [if_neg (Int32.not_le.mpr h2), if_pos h2]
  · rw [if_pos (Int32.not_lt.mp h2), if_neg h2]; simp
/-- dpR's step for the last cut i, from the best way to i -/
def cmb (P : Nat → Nat → Int32) (t i : Nat) (cur w : Int32 × Int32) : Int32 × Int32 :=
  if P i t < 0 ∨ w.1 = -1 then cur
  else if cur.1 = -1 ∨ ¬ cur.1 ≤ w.1 + P i t then (w.1 + P i t, if i = 0 then 0 else w.2 ||| ((1 : Int32) <<< (nI i &&& 31))) else cur
theorem dpR_cmb {T : Nat → Int32 × Int32} {P : Nat → Nat → Int32} {t i : Nat} : dpR T P t (i + 1) = cmb P t i (dpR T P t i) (T i) := rfl
theorem or_cut : ∀ i m, i < 8 → m < 128 → 2 * m < 2 ^ i → nI (2 * m) ||| ((1 : Int32) <<< (nI i &&& 31)) = nI (2 ^ i + 2 * m) := by
  have : ∀ i, i < 8 → ∀ m, m < 128 → 2 * m < 2 ^ i → nI (2 * m) ||| ((1 : Int32) <<< (nI i &&& 31)) = nI (2 ^ i + 2 * m) := by decide +kernel
  exact fun i m h h2 h3 => this i h m h2 h3
theorem wayS_bt {P : Nat → Nat → Int32} {M : Nat} (hP : PB P M) (hM : 9 * M < 2 ^ 30) {t : Nat} (ht : t ≤ 9) : ∀ n, (wayS P t n).1 = -1 ∨ bt (wayS P t n).1 0 (t * M : Nat)
  | 0 => Or.inl rfl
  | n + 1 => by
    rw [wayS]
    split
    · exact wayS_bt hP hM ht n
    · split
      · exact sumSt_bt hP hM t ht
      · exact wayS_bt hP hM ht n
theorem nn_m1 {x : Int32} {h : Int} (hx : bt x 0 h) : ¬ x = -1 := fun e => by
  have := hx.1
  rw [e] at this
  exact absurd this (by decide)
theorem wayS_cut {P : Nat → Nat → Int32} {M : Nat} (hP : PB P M) (hM : 9 * M < 2 ^ 30) {t i : Nat} (hi : 0 < i) (hit : i < t) (ht : t ≤ 8) (cur : Int32 × Int32) (hcur : wayS P t (2 ^ (i - 1)) = cur) :
    ∀ m, m ≤ 2 ^ (i - 1) → wayS P t (2 ^ (i - 1) + m) = cmb P t i cur (wayS P i m)
  | 0, _ => by rw [Nat.add_zero, hcur, wayS, cmb, if_pos (Or.inr rfl)]
  | m + 1, hm => by
    have ih := wayS_cut hP hM hi hit ht cur hcur m (by omega)
    have hp : 2 * 2 ^ (i - 1) = 2 ^ i := by rw [← Nat.pow_succ']; congr 1; omega
    have hpi : 2 ^ (i - 1) ≤ 2 ^ 7 := Nat.pow_le_pow_right (by decide) (by omega)
    have hs : 2 * m < 2 ^ i := by omega
    have e2 : 2 * (2 ^ (i - 1) + m) = 2 ^ i + 2 * m := by omega
    rw [show 2 ^ (i - 1) + (m + 1) = (2 ^ (i - 1) + m) + 1 from rfl, wayS, e2, sumSt_cut hi hs hit, ih, wayS]
    have i0 : ¬ i = 0 := by omega
    generalize hw : wayS P i m = w
    generalize hx : (sumSt P (2 * m) i i).1 = x
    have hxb : x = -1 ∨ bt x 0 (i * M : Nat) := by rw [← hx]; exact sumSt_bt hP hM i (by omega)
    have hwb : w.1 = -1 ∨ bt w.1 0 (i * M : Nat) := by rw [← hw]; exact wayS_bt hP hM (by omega) m
    have hcb : cur.1 = -1 ∨ bt cur.1 0 (t * M : Nat) := by rw [← hcur]; exact wayS_bt hP hM (by omega) _
    have hiM : i * M ≤ 8 * M := Nat.mul_le_mul_right M (by omega)
    have hcut := or_cut i m (by omega) (by omega) hs
    by_cases hx1 : x = -1
    · rw [if_pos (show (if x = -1 ∨ P i t < 0 then (-1 : Int32) else x + P i t) = -1 by rw [if_pos (Or.inl hx1)]), if_pos hx1]
    · have hxb := hxb.resolve_left hx1
      by_cases hp0 : P i t < 0
      · rw [if_pos (show (if x = -1 ∨ P i t < 0 then (-1 : Int32) else x + P i t) = -1 by rw [if_pos (Or.inr hp0)])]
        rw [cmb, if_pos (Or.inl hp0), cmb, if_pos (Or.inl hp0)]
      · have hPb := (hP i t).resolve_left hp0
        have exp := add_toInt hxb hPb (by omega)
        have nx : ¬ x + P i t = -1 := fun q => by
          have := congrArg Int32.toInt q
          rw [exp] at this
          have h1 := hxb.1; have h2 := hPb.1
          change x.toInt + (P i t).toInt = -1 at this
          omega
        rw [if_neg (show ¬ (x = -1 ∨ P i t < 0) from fun q => q.elim hx1 hp0), if_neg nx, if_neg hx1]
        by_cases hw1 : w.1 = -1
        · rw [if_pos (Or.inl hw1)]
          rw [show cmb P t i cur w = cur by rw [cmb, if_pos (Or.inr hw1)], cmb]
          dsimp only
          rw [if_neg (show ¬ (P i t < 0 ∨ x = -1) from fun q => q.elim hp0 hx1), if_neg i0, hcut]
        · have hwb := hwb.resolve_left hw1
          have ewp := add_toInt hwb hPb (by omega)
          have nw : ¬ (P i t < 0 ∨ w.1 = -1) := fun q => q.elim hp0 hw1
          have key : ∀ a b : Int32, a.toInt ≤ b.toInt ↔ a ≤ b := fun a b => Int32.le_iff_toInt_le.symm
          have nwp : ¬ w.1 + P i t = -1 := fun q => by
            have := congrArg Int32.toInt q
            rw [ewp] at this
            have h1 := hwb.1; have h2 := hPb.1
            change w.1.toInt + (P i t).toInt = -1 at this
            omega
          by_cases hle : w.1 ≤ x
          · rw [if_neg (show ¬ (w.1 = -1 ∨ ¬ w.1 ≤ x) from fun q => q.elim hw1 (fun q => q hle)), if_neg]
            rw [← key] at hle
            rw [cmb, if_neg nw]
            split
            · dsimp only
              rintro (q | q)
              · exact nwp q
              · exact q ((key _ _).mp (by rw [ewp, exp]; omega))
            · rename_i hcc
              rintro (q | q)
              · exact hcc (Or.inl q)
              · refine hcc (Or.inr (fun z => q ?_))
                rw [← key, ewp] at z
                rw [← key, exp]
                omega
          · rw [if_pos (Or.inr hle)]
            rw [← key] at hle
            have eR : cmb P t i cur (x, nI (2 * m)) = if cur.1 = -1 ∨ ¬ cur.1 ≤ x + P i t then (x + P i t, nI (2 ^ i + 2 * m)) else cur := by
              rw [cmb]
              dsimp only
              rw [if_neg (show ¬ (P i t < 0 ∨ x = -1) from fun q => q.elim hp0 hx1), if_neg i0, hcut]
            rw [eR, cmb, if_neg nw, if_neg i0]
            by_cases hc1 : cur.1 = -1
            · rw [if_pos (Or.inl hc1), if_pos (Or.inl hc1)]
              dsimp only
              rw [if_pos (Or.inr (fun z => by rw [← key, ewp, exp] at z; omega))]
            · by_cases hc2 : cur.1 ≤ w.1 + P i t
              · rw [if_neg (show ¬ (cur.1 = -1 ∨ ¬ cur.1 ≤ w.1 + P i t) from fun q => q.elim hc1 (fun q => q hc2))]
              · rw [if_pos (show cur.1 = -1 ∨ ¬ cur.1 ≤ w.1 + P i t from Or.inr hc2)]
                dsimp only
                have hc3 : ¬ cur.1 ≤ x + P i t := fun z => hc2 (by
                  rw [← key, exp] at z
                  rw [← key, ewp]
                  omega)
                rw [if_pos (show w.1 + P i t = -1 ∨ ¬ w.1 + P i t ≤ x + P i t from Or.inr (fun z => by rw [← key, ewp, exp] at z; omega)), if_pos (show cur.1 = -1 ∨ ¬ cur.1 ≤ x + P i t from Or.inr hc3)]
theorem wayS_one {P : Nat → Nat → Int32} {M : Nat} (hP : PB P M) {t : Nat} (ht : 0 < t) : wayS P t 1 = cmb P t 0 (-1, -1) (0, 0) := by
  rw [wayS, wayS, sumSt_one ht, cmb]
  by_cases h : P 0 t < 0
  · rw [if_pos h, if_pos rfl, if_pos (Or.inl h)]
  · have hb := (hP 0 t).resolve_left h
    rw [if_neg h, if_neg (nn_m1 hb), if_pos (Or.inl rfl), if_neg (fun q => q.elim h (fun q => absurd q (by decide))), if_pos (Or.inl rfl), if_pos rfl]
    simp
    rfl
theorem dpR_way {P : Nat → Nat → Int32} {M : Nat} (hP : PB P M) (hM : 9 * M < 2 ^ 30) {T : Nat → Int32 × Int32} {t : Nat} (ht : t ≤ 8) (h0 : T 0 = (0, 0)) (hT : ∀ i, 0 < i → i < t → T i = wayS P i (2 ^ (i - 1))) : ∀ i, i < t → dpR T P t (i + 1) = wayS P t (2 ^ i)
  | 0, h => by
    rw [dpR_cmb, h0, Nat.pow_zero, wayS_one hP h]; rfl
  | i + 1, h => by
    have ih := dpR_way hP hM ht h0 hT i (by omega)
    rw [dpR_cmb, ih, hT (i + 1) (by omega) h, Nat.add_sub_cancel]
    have hc := wayS_cut hP hM (t := t) (i := i + 1) (by omega) h ht (wayS P t (2 ^ i)) rfl (2 ^ i) (Nat.le_refl _)
    rw [Nat.add_sub_cancel] at hc
    rw [← hc, Nat.pow_succ, Nat.mul_two]
theorem dpT_way {P : Nat → Nat → Int32} {M : Nat} (hP : PB P M) (hM : 9 * M < 2 ^ 30) : ∀ p, p ≤ 8 → dpT P p 0 = (0, 0) ∧ ∀ q, 0 < q → q ≤ p → dpT P p q = wayS P q (2 ^ (q - 1))
  | 0, _ => ⟨rfl, fun q h1 h2 => by omega⟩
  | p + 1, h => by
    have ih := dpT_way hP hM p (by omega)
    refine ⟨by rw [dpT, if_neg (by omega)]; exact ih.1, fun q h1 h2 => ?_⟩
    rw [dpT]
    by_cases e : q = p + 1
    · rw [if_pos e, dpR_way hP hM (by omega) ih.1 (fun i a b => ih.2 i a (by omega)) p (by omega), e, Nat.add_sub_cancel]
    · rw [if_neg e]; exact ih.2 q h1 (by omega)
