/-! ===== the class: the lowest fare, the surcharge ===== -/
theorem s_X8_lowestFare {g : GP} {σ : AH} {x y s : Int32} (hS : Sh σ) (hT : RT σ) : Ct g mX8_lowestFare [.ref 3, .int x, .int y, .int s] σ (FQ σ (some (.int (lowA σ x y s)))) := by
  obtain ⟨nf, h1, h2, h3, h4, h5, h6, h7, h8, h9, h10, h11, h12⟩ := hT
  have hl : lowA σ x y s = lowF σ x y s nf := by rw [lowA, h2, cl0 (by omega)]
  rw [hl]
  refine Ct_of (by decide +kernel) rfl rfl (b_X8_lowestFare_0 ?_)
  refine up_loop (P := fun k => V g mX8_lowestFare (Em g mX8_lowestFare (FQ σ (some (.int (lowF σ x y s nf)))) NX) CT 0 0 6 [(0, .ref 3), (1, .int x), (2, .int y), (3, .int s), (4, .int (lowF σ x y s k)), (5, .int (nI k))] [] σ) nf ?_ ?_ 0 (Nat.zero_le _)
  · have hle : zI σ 3 4 ≤ nI nf := by rw [h3]; exact Int32.le_refl _
    exact b_X8_lowestFare_6 hS (fun _ => fq) (fun c => absurd hle c) (fun c => absurd hle c) (fun c => absurd hle c) (fun c => absurd hle c) (fun c => absurd hle c) (fun c => absurd hle c) (fun c => absurd hle c) (fun c => absurd hle c)
  · intro k hk ih
    have hlt : ¬ zI σ 3 4 ≤ nI k := by rw [h3]; exact nI_ge hk (by omega)
    have hc : (nI k).toNatClampNeg = k := cl0 (by omega)
    have hat : atR (zI σ 3 4) 40 (nI k) (zR σ 6 (ix (nI k))) = zR σ 6 k := by rw [h3, ix, hc]; exact atR_in (m := 40) hk (by omega) (by omega) (by decide)
    obtain ⟨⟨f1, f2, f3⟩, g0, g1, g2, g3, g4, g5, g6, -⟩ := h10 k hk
    have f0 : ¬ zR σ 6 k = 0 := by omega
    rw [← nI_1] at ih
    have key : ∀ v, v = lowF σ x y s (k + 1) → V g mX8_lowestFare (Em g mX8_lowestFare (FQ σ (some (.int (lowF σ x y s nf)))) NX) CT 0 0 6 [(0, .ref 3), (1, .int x), (2, .int y), (3, .int s), (4, .int v), (5, .int (nI k + 1))] [] σ := fun v hv => by rw [hv]; exact ih
    refine b_X8_lowestFare_6 hS (fun c => absurd c hlt) (fun _ c => absurd (hat.symm.trans c) f0) (fun _ _ => by rw [hat]; exact f0) (fun _ _ => by rw [hat]; exact f3) (fun _ _ c => ?_) (fun _ _ c c2 => ?_) (fun _ _ c c2 c3 => ?_) (fun _ _ c c2 c3 c4 => ?_) (fun _ _ c c2 c3 c4 => ?_)
    all_goals
      simp only [hat, isF, g0, g1, g2, g3, g4, g5, g6, h6] at *
      refine key _ ?_
      rw [lowF, lowS]
    · rw [if_neg (fun q => c ⟨q.1, q.2.1, q.2.2.2.1, q.2.2.1.1, q.2.2.1.2⟩)]
    · rw [if_neg (fun q => q.2.2.2.2.1 c2)]
    · rw [if_pos ⟨c.1, c.2.1, ⟨c.2.2.2.1, c.2.2.2.2⟩, c.2.2.1, c2, Or.inl c3⟩]
    · rw [if_neg (fun q => q.2.2.2.2.2.elim c3 (fun q => q c4))]
    · rw [if_pos ⟨c.1, c.2.1, ⟨c.2.2.2.1, c.2.2.2.2⟩, c.2.2.1, c2, Or.inr c4⟩]
theorem bt_nI {x : Int32} {l h : Int} (hx : bt x l h) (hl : 0 ≤ l) (hh : h < 2 ^ 31) : ∃ n : Nat, x = nI n ∧ l ≤ n ∧ (n : Int) ≤ h := by
  refine ⟨x.toInt.toNat, ?_, by have := hx.1; omega, by have := hx.2; have := hx.1; omega⟩
  apply Int32.toInt_inj.mp
  have h1 := hx.1
  have h2 := hx.2
  rw [nI_toInt (by omega)]
  omega
theorem su_val {A k : Nat} (hA : A ≤ 12000) (hk : k ≤ 25) : nI A * (100 + nI k) / 100 = nI (A * (100 + k) / 100) := by
  rw [show (100 : Int32) = nI 100 from rfl, nI_add, pk_mul]
  have : A * (100 + k) ≤ 12000 * 125 := Nat.mul_le_mul hA (by omega)
  exact pk_div (by omega) (by decide) (by decide)
theorem su_mono {A k : Nat} {m : Int32} (hA : A ≤ 12000) (hk : k ≤ 25) (h : m ≤ nI A * (100 + nI k) / 100) : m ≤ nI A * 125 / 100 := by
  refine Int32.le_trans h ?_
  rw [su_val hA hk, show (125 : Int32) = 100 + nI 25 from by decide, su_val hA (by decide)]
  have h1 : A * (100 + k) / 100 ≤ A * (100 + 25) / 100 := Nat.div_le_div_right (Nat.mul_le_mul_left _ (by omega))
  have h2 : A * (100 + 25) ≤ 12000 * 125 := Nat.mul_le_mul hA (by omega)
  have h3 : A * (100 + 25) / 100 ≤ 12000 * 125 := Nat.le_trans (Nat.div_le_self _ _) h2
  exact nI_le h1 (by omega)
theorem R_mi {σ : AH} (hT : RT σ) (x y : Int32) (hx : isPl x) (hy : isPl y) : prG σ 4 x y = mi σ x y ∧ bt (mi σ x y) 0 9999 := by
  obtain ⟨nf, h1, h2, h3, h4, h5, h6, h7, h8, -⟩ := hT
  obtain ⟨m1, m2, m3⟩ := vp_mul (isPl_vp hx) (isPl_vp hy)
  obtain ⟨j, hj, e⟩ := vp_in_of m1 (by decide)
  have hlt : x.toNatClampNeg * 10 + y.toNatClampNeg < 100 := by rw [← m2, e, cl0 (by omega)]; exact hj
  rw [prG, if_pos ⟨hx, hy⟩, m3, ix, m2, mi]
  exact h8 _ hlt
theorem R_prG {σ : AH} (hT : RT σ) (x y : Int32) : bt (prG σ 4 x y) 0 9999 := by
  by_cases h : isPl x ∧ isPl y
  · rw [(R_mi hT x y h.1 h.2).1]; exact (R_mi hT x y h.1 h.2).2
  · rw [prG, if_neg h]; exact ⟨by decide, by decide⟩
/-- the surcharge, or none -/
def suF (d all : Int32) : Int32 :=
  if d = 0 then -1 else if ¬ all ≤ d * 120 / 100 * 125 / 100 then -1 else moreF (d * 120 / 100) all
theorem s_X8_surcharge {g : GP} {σ : AH} {x y m : Int32} (hS : Sh σ) (hT : RT σ) : Ct g mX8_surcharge [.ref 3, .int x, .int y, .int m] σ (FQ σ (some (.int (suF (prG σ 4 x y) m)))) := by
  refine Ct_of (by decide +kernel) rfl rfl (b_X8_surcharge_0 hS (by decide) (fun c => ?_) (fun c => fq_i (by rw [suF, if_pos c])))
  have hb := R_prG hT x y
  generalize prG σ 4 x y = d at c hb ⊢
  obtain ⟨D, rfl, -, hD⟩ := bt_nI hb (by decide) (by decide)
  have hal : nI D * 120 / 100 = nI (D * 120 / 100) := by
    rw [show (120 : Int32) = nI 120 from rfl, show (100 : Int32) = nI 100 from rfl, pk_mul]
    exact pk_div (by omega) (by decide) (by decide)
  have hA : D * 120 / 100 ≤ 12000 := by omega
  rw [hal]
  generalize nI D = d at c hal ⊢
  generalize D * 120 / 100 = A at hA hal ⊢
  have hsu : suF d m = if ¬ m ≤ nI A * 125 / 100 then -1 else moreF (nI A) m := by rw [suF, if_neg c, hal]
  rw [hsu]
  refine b_X8_surcharge_31 (fun q => absurd q (by decide)) (fun _ c0 => ?_) (fun _ c0 => ?_)
  · rw [show (0 : Int32) + 5 = 5 by decide]
    have n0 := Int32.not_le.mpr c0
    refine b_X8_surcharge_31 (fun q => absurd q (by decide)) (fun _ c1 => ?_) (fun _ c1 => ?_)
    · rw [show (5 : Int32) + 5 = 10 by decide]
      have n1 := Int32.not_le.mpr c1
      refine b_X8_surcharge_31 (fun q => absurd q (by decide)) (fun _ c2 => ?_) (fun _ c2 => ?_)
      · rw [show (10 : Int32) + 5 = 15 by decide]
        have n2 := Int32.not_le.mpr c2
        refine b_X8_surcharge_31 (fun q => absurd q (by decide)) (fun _ c3 => ?_) (fun _ c3 => ?_)
        · rw [show (15 : Int32) + 5 = 20 by decide]
          have n3 := Int32.not_le.mpr c3
          refine b_X8_surcharge_31 (fun q => absurd q (by decide)) (fun _ c4 => ?_) (fun _ c4 => ?_)
          · rw [show (20 : Int32) + 5 = 25 by decide]
            have n4 := Int32.not_le.mpr c4
            refine b_X8_surcharge_31 (fun q => absurd q (by decide)) (fun _ c5 => ?_) (fun _ c5 => ?_)
            · rw [show (25 : Int32) + 5 = 30 by decide]
              refine b_X8_surcharge_31 (fun _ => fq_i ?_) (fun q => absurd (by decide) q) (fun q => absurd (by decide) q)
              rw [show (100 : Int32) + 25 = 125 by decide] at c5
              rw [if_pos (Int32.not_le.mpr c5)]
            · refine fq_i ?_
              rw [show (100 : Int32) + 25 = 125 by decide] at c5
              rw [if_neg (fun q => q (Int32.not_lt.mp c5)), moreF, if_neg n0, if_neg n1, if_neg n2, if_neg n3, if_neg n4]
          · refine fq_i ?_
            have c' := Int32.not_lt.mp c4
            rw [if_neg (fun q => q (su_mono (k := 20) hA (by decide) c')), moreF, if_neg n0, if_neg n1, if_neg n2, if_neg n3, if_pos c']
        · refine fq_i ?_
          have c' := Int32.not_lt.mp c3
          rw [if_neg (fun q => q (su_mono (k := 15) hA (by decide) c')), moreF, if_neg n0, if_neg n1, if_neg n2, if_pos c']
      · refine fq_i ?_
        have c' := Int32.not_lt.mp c2
        rw [if_neg (fun q => q (su_mono (k := 10) hA (by decide) c')), moreF, if_neg n0, if_neg n1, if_pos c']
    · refine fq_i ?_
      have c' := Int32.not_lt.mp c1
      rw [if_neg (fun q => q (su_mono (k := 5) hA (by decide) c')), moreF, if_neg n0, if_pos c']
  · refine fq_i ?_
    have c' := Int32.not_lt.mp c0
    rw [if_neg (fun q => q (su_mono (k := 0) hA (by decide) c')), moreF, if_pos c']
