/-! ===== a refund ===== -/
theorem smI_b {f : Nat → Int32} {M : Int} (hM : M ≤ 10000000) : ∀ n, n ≤ 8 → (∀ k, k < n → bt (f k) 0 M) → bt (smI f n) 0 (M * (n : Int))
  | 0, _, _ => by rw [smI]; exact ⟨by decide, by rw [zero_toInt]; omega⟩
  | n + 1, hn, h => by
    obtain ⟨a1, a2⟩ := smI_b hM n (by omega) (fun k hk => h k (by omega))
    obtain ⟨b1, b2⟩ := h n (by omega)
    have m1 : M * ((n + 1 : Nat) : Int) = M * (n : Int) + M := by rw [Int.natCast_succ, Int.mul_add, Int.mul_one]
    have m2 : M * (n : Int) ≤ 10000000 * 8 := Int.mul_le_mul hM (by omega) (by omega) (by decide)
    have e := i_add (x := smI f n) (y := f n) (by omega) (by omega)
    unfold bt
    rw [smI, e, m1]
    omega
theorem smI_le {f h : Nat → Int32} {M : Int} (hM : M ≤ 10000000) : ∀ n, n ≤ 8 → (∀ k, k < n → bt (f k) 0 M ∧ bt (h k) 0 M ∧ (f k).toInt ≤ (h k).toInt) → (smI f n).toInt ≤ (smI h n).toInt
  | 0, _, _ => Int.le_refl _
  | n + 1, hn, q => by
    have ih := smI_le hM n (by omega) (fun k hk => q k (by omega))
    obtain ⟨a1, a2⟩ := smI_b hM n (by omega) (fun k hk => (q k (by omega)).1)
    obtain ⟨c1, c2⟩ := smI_b hM n (by omega) (fun k hk => (q k (by omega)).2.1)
    obtain ⟨⟨b1, b2⟩, ⟨d1, d2⟩, d3⟩ := q n (by omega)
    have m2 : M * (n : Int) ≤ 10000000 * 8 := Int.mul_le_mul hM (by omega) (by omega) (by decide)
    have e := i_add (x := smI f n) (y := f n) (by omega) (by omega)
    have e' := i_add (x := smI h n) (y := h n) (by omega) (by omega)
    rw [smI, smI, e, e']
    omega
theorem kept_b {A P : Int32} (hA : bt A 0 1008000) (hP : bt P 0 100) : bt (Int64.toInt32 ((Int32.toInt64 A * Int32.toInt64 P + 99) / 100)) 0 A.toInt := by
  obtain ⟨a1, a2⟩ := hA
  obtain ⟨p1, p2⟩ := hP
  have hm0 : 0 ≤ A.toInt * P.toInt := Int.mul_nonneg a1 p1
  have hm1 : A.toInt * P.toInt ≤ A.toInt * 100 := Int.mul_le_mul_of_nonneg_left p2 a1
  have e : (Int64.toInt32 ((Int32.toInt64 A * Int32.toInt64 P + 99) / 100)).toInt = (A.toInt * P.toInt + 99) / 100 := by
    rw [Int64.toInt_toInt32, Int64.toInt_div, Int64.toInt_add, Int64.toInt_mul, Int32.toInt_toInt64, Int32.toInt_toInt64]
    have e99 : (99 : Int64).toInt = 99 := by decide
    have e100 : (100 : Int64).toInt = 100 := by decide
    rw [e99, e100]
    generalize A.toInt * P.toInt = x at *
    have e1 : x.bmod (2 ^ 64) = x := by
      rw [Int.bmod_def]; split <;> omega
    have e2 : (x + 99).bmod (2 ^ 64) = x + 99 := by
      rw [Int.bmod_def]; split <;> omega
    rw [e1, e2, Int.tdiv_eq_ediv_of_nonneg (by omega)]
    have e3 : ((x + 99) / 100).bmod (2 ^ 64) = (x + 99) / 100 := by
      rw [Int.bmod_def]; split <;> omega
    rw [e3, Int.bmod_def]
    split <;> omega
  unfold bt
  rw [e]
  omega
/-- open coupons are made something else -/
theorem TK_turn {ω τ : AH} {w : Int32} (hw : bt w 2 4) (h55 : ∀ q, zI ω 55 q = zI τ 55 q ∨ (zI τ 55 q = 0 ∧ zI ω 55 q = w)) (h1 : ∀ a, CJ a → a ≠ 55 → zI ω a = zI τ a) (h36 : zI ω 33 36 = zI τ 33 36) {t : Nat} (h : TK τ t) : TK ω t := by
  obtain ⟨k1, k2, k3, k4⟩ := h
  unfold TK
  rw [h1 56 (by unfold CJ; omega) (by decide), h1 52 (by unfold CJ; omega) (by decide), h1 54 (by unfold CJ; omega) (by decide), h1 50 (by unfold CJ; omega) (by decide)]
  refine ⟨k1, k2, k3, fun k hk => ?_⟩
  obtain ⟨p1, p2, p3, p4, p5⟩ := k4 k hk
  have w1 : ¬ w = 1 := fun e => by rw [e] at hw; exact absurd hw (by decide)
  have w0 : ¬ w = 0 := fun e => by rw [e] at hw; exact absurd hw (by decide)
  have hone : zI ω 55 (8 * t + k) = 1 ↔ zI τ 55 (8 * t + k) = 1 := by
    rcases h55 (8 * t + k) with e | ⟨e1, e2⟩
    · rw [e]
    · rw [e1, e2]; exact ⟨fun q => absurd q w1, fun q => absurd q (by decide)⟩
  unfold CP
  rw [h1 56 (by unfold CJ; omega) (by decide), h1 57 (by unfold CJ; omega) (by decide), h1 61 (by unfold CJ; omega) (by decide), h1 63 (by unfold CJ; omega) (by decide), h1 64 (by unfold CJ; omega) (by decide), h1 65 (by unfold CJ; omega) (by decide), h1 51 (by unfold CJ; omega) (by decide), h1 58 (by unfold CJ; omega) (by decide), h36, hone]
  refine ⟨?_, p2, p3, fun z j hj => ?_, p5⟩
  · rcases h55 (8 * t + k) with e | ⟨e1, e2⟩
    · rw [e]; exact p1
    · rw [e2]; exact ⟨by have := hw.1; omega, hw.2⟩
  · rcases h55 (8 * t + j) with e | ⟨e1, e2⟩
    · rw [e]; exact p4 z j hj
    · rw [e2]; exact w0
theorem byH_GW {μ τ : AH} {x y : Int32} (h : GW μ τ) : GW (byH μ x y) τ := GW_uJ (by decide) (GW_uJ (by decide) h)
theorem trH_GW {τ : AH} {b : Nat} {w : Int32} (d : Nat) : GW (trH (uI τ 33 49 0) b w d) τ := by
  obtain ⟨e1, e2, e3, e4, e5⟩ := trH_N (σ := uI τ 33 49 0) (b := b) (w := w) d
  exact GW_of e1 e2 e3 e5 (fun a j ha => by rw [trH_I, if_neg (by omega), zI_uI, if_neg (by omega)]) (fun a j ha => by rw [e4]; rfl)
/-- money from buyers: rows 70 and 33 48 -/
theorem MN_by {s t : Nat} {ω τ : AH} {c : Nat} {x : Int64} (hst : s ≤ t) (hc : c < 5) (h70 : ∀ k, k < 5 → zJ ω 70 k = if k = c then zJ τ 70 k + x else zJ τ 70 k) (h71 : ∀ k, k < 10 → zJ ω 71 k = zJ τ 71 k) (h48 : zJ ω 33 48 = zJ τ 33 48 + x) (h : MN s τ) : MN t ω := by
  obtain ⟨h1, h2⟩ := h
  refine ⟨?_, fun p hp => by rw [h71 p hp]; exact ⟨(h2 p hp).1, by have := (h2 p hp).2; omega⟩⟩
  rw [scT_one hc h70, scT_c 10 h71, h48, ← h1]
  grind
section MU4
variable {g : GP} {σ : AH} {s : Nat}
theorem TK_at {t : Nat} (h : Co s σ) (ht : t < ix (zI σ 33 23)) : TK σ t := h.2.2.2.2.1 t ht
/-- what is open of a ticket: between 0 and its price, its taxes -/
theorem open_b {t n m : Nat} {τ : AH} (h : Cr s τ) (hn : zI τ 33 23 = nI n) (n30 : n ≤ 30) (ht : t < n) (hm : zI τ 52 t = nI m) (m8 : m ≤ 8) : bt (rfA τ (nI t)) 0 504000 ∧ bt (rfB τ (nI t)) 0 8000 := by
  have et : ix (nI t) = t := cl0 (by omega)
  have em : ix (zI τ 52 t) = m := by rw [hm]; exact cl0 (by omega)
  obtain ⟨k1, k2, k3, k4⟩ := h.2.1 t (by rw [hn, ix, cl0 (by omega)]; exact ht)
  rw [em] at k1 k4
  have hA : ∀ k, k < m → bt (ooF τ (8 * t) 0 k) 0 126000 ∧ bt (zI τ 56 (8 * t + k)) 0 126000 ∧ (ooF τ (8 * t) 0 k).toInt ≤ (zI τ 56 (8 * t + k)).toInt := fun k hk => by
    obtain ⟨-, p2, -⟩ := k4 k hk
    rw [ooF]
    split
    · rw [if_pos rfl]; exact ⟨p2, p2, Int.le_refl _⟩
    · rw [zero_toInt]; exact ⟨⟨by rw [zero_toInt]; omega, by rw [zero_toInt]; omega⟩, p2, p2.1⟩
  have hB : ∀ k, k < m → bt (ooF τ (8 * t) 1 k) 0 1000 := fun k hk => by
    obtain ⟨-, -, p3, -⟩ := k4 k hk
    rw [ooF]
    split
    · rw [if_neg (by decide)]; exact p3
    · exact ⟨by rw [zero_toInt]; omega, by rw [zero_toInt]; omega⟩
  have b1 := smI_b (by decide) m m8 (fun k hk => (hA k hk).1)
  have b2 := smI_b (by decide) m m8 (fun k hk => (hA k hk).2.1)
  have b3 := smI_b (by decide) m m8 hB
  have l1 := smI_le (by decide) m m8 hA
  have e := i_add (x := smI (fun k => zI τ 56 (8 * t + k)) m) (y := zI τ 54 t) (by have := b2.1; have := k3.1; omega) (by have := b2.2; have := k3.2; omega)
  rw [k1] at e
  rw [rfA, rfB, et, em]
  have := k2.2; have := k3.1; have := b1.1; have := b3.1; have := b3.2
  refine ⟨⟨by omega, by omega⟩, by omega, by omega⟩
theorem P_refund {t n m : Nat} (hg : gG g = none) (h : Co s σ) (hn : zI σ 33 23 = nI n) (n30 : n ≤ 30) (ht : t < n) (hm : zI σ 52 t = nI m) (m8 : m ≤ 8) : CtH g mL_refund [.ref 2, .int (nI t)] σ (fun ω rv => ∃ y, rv = some (.int y) ∧ ((¬ opF σ (8 * t) m ∧ y = -1000003 ∧ Kp ω σ) ∨ (opF σ (8 * t) m ∧ 0 ≤ y.toInt ∧ Co s ω ∧ NW N0 ω σ ∧ zJ ω 33 48 = zJ σ 33 48 - Int32.toInt64 y ∧ ¬ opF ω (8 * t) m ∧ zI ω 52 = zI σ 52))) := by
  have et : ix (nI t) = t := cl0 (by omega)
  have hi : isWi (nI t) 0 (zI σ 33 23 - 1) := by rw [hn]; exact wi_lt ht (by omega)
  have hpen : bt (zI σ 33 15) 0 100 := h.2.1.2.2.2.2.2.2.2.2.2.2.2.1
  have his : vp_in (zI σ 51 t) 5 := by
    obtain ⟨n', r1, r2, r3⟩ := Rel_tk h.2.1
    have en : n' = n := (nI_eq (by omega) (by omega)).mp (r2.symm.trans hn)
    subst en
    obtain ⟨m', s1, s2, s3, s4, s5⟩ := r3 t ht
    exact s4
  have em : ix (zI σ 52 t) = m := by rw [hm]; exact cl0 (by omega)
  refine mu_int hg h.2.1 h.2.2.1 (fun g' => R_refund (by decide) h.2.1) (fun τ ω rv hS => ?_) (fun τ ω b hO hS h49 hw hr hA => ?_) (fun τ ω rv j c hO hc hS h49 hw hr hA => ?_)
  · obtain ⟨q1, q2, q⟩ := hS
    by_cases c1 : isWi (nI t) 0 (zI τ 33 23 - 1)
    · by_cases c : opF τ (8 * ix (nI t)) (ix (zI τ 52 (ix (nI t))))
      · obtain ⟨rfl, -⟩ := q c1 c
        refine ⟨byH_GW (trH_GW _), ?_⟩
        rw [by_J, if_neg (by omega), if_neg (by omega), rfH, (trH_N _).2.2.2.1]; rfl
      · obtain ⟨rfl, -⟩ := q2 c1 c
        exact ⟨GW_uI (by decide) (GW_refl τ), rfl⟩
    · obtain ⟨rfl, -⟩ := q1 c1
      exact ⟨GW_uI (by decide) (GW_refl τ), rfl⟩
  · obtain ⟨q1, q2, q⟩ := hS
    have c1 : isWi (nI t) 0 (zI τ 33 23 - 1) := by rw [RO_3 hO 23 (by decide)]; exact hi
    have o52 := RO_f hO 52 (by decide) (by decide)
    have emτ : ix (zI τ 52 t) = m := by rw [o52]; exact em
    rw [et, emτ] at q q2
    by_cases c : opF τ (8 * t) m
    · obtain ⟨rfl, e⟩ := q c1 c
      cases e
      have o51 := RO_f hO 51 (by decide) (by decide)
      obtain ⟨cs, hcs, e51⟩ := vp_in_of (n := 5) his (by decide)
      have e51τ : zI τ 51 t = nI cs := by rw [o51]; exact e51
      have hτ : zI τ 33 23 = nI n := (RO_3 hO 23 (by decide)).trans hn
      obtain ⟨oA, oB⟩ := open_b (Cr_RO hO h.2.2.2) hτ n30 ht ((congrFun o52 t).trans hm) m8
      have kb := kept_b (A := rfA τ (nI t)) (P := zI τ 33 15) ⟨oA.1, by have := oA.2; omega⟩ (by rw [RO_3 hO 15 (by decide)]; exact hpen)
      have hG : bt (rfG τ (nI t)) 0 1000000 := by
        rw [rfG]
        generalize Int64.toInt32 ((Int32.toInt64 (rfA τ (nI t)) * Int32.toInt64 (zI τ 33 15) + 99) / 100) = K at kb ⊢
        have := oA.1; have := oA.2; have := oB.1; have := oB.2; have := kb.1; have := kb.2
        have e1 := i_sub (x := rfA τ (nI t)) (y := K) (by omega) (by omega)
        have e2 := i_add (x := rfA τ (nI t) - K) (y := rfB τ (nI t)) (by omega) (by omega)
        unfold bt
        rw [e2, e1]
        omega
      have r : ∀ a j, a ≠ 55 → ¬ (a = 33 ∧ j = 49) → zI (byH (rfH τ (nI t)) (zI τ 51 t) (-(rfG τ (nI t)))) a j = zI τ a j := fun a j z1 z2 => by
        rw [by_I, rfH, trH_I, if_neg (fun z => z1 z.1), zI_uI, if_neg z2]
      have r55 : ∀ j, zI (byH (rfH τ (nI t)) (zI τ 51 t) (-(rfG τ (nI t)))) 55 j = if 8 * t ≤ j ∧ j < 8 * t + m ∧ zI τ 55 j = 0 then 3 else zI τ 55 j := fun j => by
        rw [by_I, rfH, trH_I, et, emτ]
        have e9 : zI (uI τ 33 49 0) 55 j = zI τ 55 j := by rw [zI_uI, if_neg (by omega)]
        rw [e9]
        by_cases z : 8 * t ≤ j ∧ j < 8 * t + m ∧ zI τ 55 j = 0
        · rw [if_pos ⟨rfl, z⟩, if_pos z]
        · rw [if_neg (fun w => z w.2), if_neg z]
      have rf : ∀ a, a ≠ 55 → a ≠ 33 → zI (byH (rfH τ (nI t)) (zI τ 51 t) (-(rfG τ (nI t)))) a = zI τ a := fun a z1 z2 => funext fun j => r a j z1 (by omega)
      have hJ0 : ∀ a j, zJ (rfH τ (nI t)) a j = zJ τ a j := fun a j => by rw [rfH, (trH_N _).2.2.2.1]; rfl
      have rJ : ∀ a j, zJ (byH (rfH τ (nI t)) (zI τ 51 t) (-(rfG τ (nI t)))) a j = if a = 33 ∧ j = 48 then zJ τ 33 48 + Int32.toInt64 (-(rfG τ (nI t))) else if a = 70 ∧ j = cs then zJ τ 70 j + Int32.toInt64 (-(rfG τ (nI t))) else zJ τ a j := fun a j => by
        rw [by_J, hJ0, hJ0, hJ0, e51τ, ix, cl0 (by omega)]
      refine Or.inr ⟨by obtain ⟨j, hj, q⟩ := c; exact ⟨j, hj, by rw [← RO_f hO 55 (by decide) (by decide)]; exact q⟩, hG.1, Co_of h hO h.1 (r 33 43 (by decide) (by decide)) hr hA (fun hc => ?_), NW_of hw hO (fun j hj _ => r 33 j (by decide) (by omega)) (fun _ => ⟨rf 47 (by decide) (by decide), rf 49 (by decide) (by decide)⟩), ?_, ?_, (rf 52 (by decide) (by decide)).trans o52⟩
      · obtain ⟨hT, hK, hB, hM, hN⟩ := hc
        refine ⟨?_, fun u hu => TK_turn (w := 3) (by decide) (fun q => ?_) (fun a ha h5 => rf a h5 (by unfold CJ at ha; omega)) (r 33 36 (by decide) (by decide)) (hK u (by rw [r 33 23 (by decide) (by decide)] at hu; exact hu)), ?_, MN_by (c := cs) (x := -(Int32.toInt64 (rfG τ (nI t)))) (Nat.le_refl s) hcs (fun k hk => ?_) (fun k hk => ?_) ?_ hM, ?_⟩
        · unfold TB at hT ⊢
          rw [r 33 6 (by decide) (by decide), r 33 14 (by decide) (by decide), rf 41 (by decide) (by decide), rf 37 (by decide) (by decide), rf 38 (by decide) (by decide)]
          exact hT
        · rw [r55]
          by_cases z : 8 * t ≤ q ∧ q < 8 * t + m ∧ zI τ 55 q = 0
          · rw [if_pos z]; exact Or.inr ⟨z.2.2, rfl⟩
          · rw [if_neg z]; exact Or.inl rfl
        · unfold BL at hB ⊢
          rw [r 33 36 (by decide) (by decide), r 33 43 (by decide) (by decide), rf 62 (by decide) (by decide), rf 64 (by decide) (by decide), rf 65 (by decide) (by decide), rf 66 (by decide) (by decide), rf 67 (by decide) (by decide)]
          exact hB
        · rw [rJ, if_neg (by omega), neg64 ⟨by have := hG.1; omega, by have := hG.2; omega⟩]
          by_cases z : k = cs
          · rw [if_pos ⟨rfl, z⟩, if_pos z]
          · rw [if_neg (fun w => z w.2), if_neg z]
        · rw [rJ, if_neg (by omega), if_neg (by omega)]
        · rw [rJ, if_pos ⟨rfl, rfl⟩, neg64 ⟨by have := hG.1; omega, by have := hG.2; omega⟩]
        · unfold NM at hN ⊢
          rw [r 33 36 (by decide) (by decide), r 33 43 (by decide) (by decide), r 33 0 (by decide) (by decide)]
          exact hN
      · rw [rJ, if_pos ⟨rfl, rfl⟩, neg64 ⟨by have := hG.1; omega, by have := hG.2; omega⟩, RO_j hO 33 (by decide) (by decide)]
        grind
      · rintro ⟨j, hj, q⟩
        rw [r55] at q
        by_cases z : 8 * t ≤ 8 * t + j ∧ 8 * t + j < 8 * t + m ∧ zI τ 55 (8 * t + j) = 0
        · rw [if_pos z] at q; exact absurd q (by decide)
        · rw [if_neg z] at q
          exact z ⟨by omega, by omega, q⟩
    · obtain ⟨rfl, e⟩ := q2 c1 c
      rw [i49] at h49
      exact absurd h49 (by decide)
  · obtain ⟨q1, q2, q⟩ := hS
    have c1 : isWi (nI t) 0 (zI τ 33 23 - 1) := by rw [RO_3 hO 23 (by decide)]; exact hi
    have o52 := RO_f hO 52 (by decide) (by decide)
    have emτ : ix (zI τ 52 t) = m := by rw [o52]; exact em
    rw [et, emτ] at q q2
    by_cases cc : opF τ (8 * t) m
    · obtain ⟨rfl, e⟩ := q c1 cc
      rw [by_I, rfH, trH_I, if_neg (by omega), i49] at h49
      exact absurd h49 (no49 (by decide) hc)
    · obtain ⟨rfl, e⟩ := q2 c1 cc
      rw [i49] at h49
      refine Or.inl ⟨fun z => cc ?_, (Option.some.inj (is49 (by decide) hc 1 (by decide) h49)).symm, Kp_no h.2.1 hO RW_49 hr hA⟩
      obtain ⟨j, hj, q⟩ := z
      exact ⟨j, hj, by rw [RO_f hO 55 (by decide) (by decide)]; exact q⟩
end MU4
