/-! ===== calls: clearing, class against reference ===== -/
theorem seB_I {σ : AH} {a j : Nat} : zI (seB σ) a j = if a = 27 ∧ j = 3 then zI σ 27 3 + 1 else zI σ a j := by
  rw [seB, zI_uI, fnH, zI_s2]
theorem seB_A {σ : AH} {b : Nat} : bA (seB σ) b = bA σ b := rfl
theorem dlS_cg {C C' : Nat → Prop} {f f' : Nat → Nat → Int64} {c : Nat} : ∀ d, (∀ b, b < d → (C b ↔ C' b) ∧ (C b → f b c = f' b c)) → dlS C f d c = dlS C' f' d c
  | 0, _ => by rw [dlS, dlS]
  | d + 1, h => by
    obtain ⟨h1, h2⟩ := h d (by omega)
    by_cases hC : C d
    · rw [dlS_y hC, dlS_y (h1.mp hC), dlS_cg d (fun b hb => h b (by omega)), h2 hC]
    · rw [dlS_n hC, dlS_n (fun q => hC (h1.mpr q)), dlS_cg d (fun b hb => h b (by omega))]
theorem neg64 {x : Int32} (h : bt x (-1073741824) 1073741824) : Int32.toInt64 (-x) = -Int32.toInt64 x := by
  obtain ⟨h1, h2⟩ := h
  apply Int64.toInt_inj.mp
  rw [Int32.toInt_toInt64, Int64.toInt_neg, Int32.toInt_neg, Int32.toInt_toInt64, Int.bmod_def, Int.bmod_def]
  split <;> split <;> omega
theorem half_b2 {x : Int32} (h : bt x (-1073741824) 1073741824) : bt (x / 2) (-536870912) 536870912 := by
  obtain ⟨h1, h2⟩ := h
  have e : (x / 2).toInt = (x.toInt.tdiv 2).bmod (2 ^ 32) := by
    rw [Int32.toInt_div]; rfl
  have hn : (x.toInt.tdiv 2).natAbs = x.toInt.natAbs / 2 := Int.natAbs_tdiv _ _
  generalize x.toInt.tdiv 2 = y at *
  have e2 : y.bmod (2 ^ 32) = y := by
    rw [Int.bmod_def]
    split <;> omega
  unfold bt
  rw [e, e2]
  omega
theorem half_bt {x : Int32} (h : bt x (-1073741824) 1073741824) : bt (x / 2) (-1073741824) 1073741824 := by
  have h' := half_b2 h
  exact ⟨by have := h'.1; omega, by have := h'.2; omega⟩
theorem half_64 {x : Int32} (h : bt x (-1073741824) 1073741824) : Int32.toInt64 (x - x / 2) = Int32.toInt64 x - Int32.toInt64 (x / 2) := by
  have h' := half_b2 h
  obtain ⟨h1, h2⟩ := h
  obtain ⟨h3, h4⟩ := h'
  apply Int64.toInt_inj.mp
  rw [Int32.toInt_toInt64, Int64.toInt_sub, Int32.toInt_sub, Int32.toInt_toInt64, Int32.toInt_toInt64, Int.bmod_def, Int.bmod_def]
  split <;> split <;> omega
/-- a bill's row, as both sides look at it -/
theorem BR_ab {σ : AH} {b : Nat} (h : BR σ b) : abF σ (bA σ b) = bkF σ b ∧ bt (bkF σ b) (-1073741824) 1073741824 := by
  obtain ⟨r1, r2, r3, r4, r5, r6, r7, s, r, z, s1, s2, s3, s4⟩ := h
  have hr : r ≤ 3 := by unfold SS at s4; omega
  have i3 : zI σ 66 b < 3 ↔ ¬ zI σ 66 b = 3 := by
    rw [s2]
    have q : r = 0 ∨ r = 1 ∨ r = 2 ∨ r = 3 := by omega
    rcases q with q | q | q | q <;> subst q <;> decide
  rw [abF, bkF, r6, r4.1]
  by_cases c : zI σ 66 b = 3
  · rw [if_neg (fun q => (i3.mp q) c), if_pos c]; exact ⟨rfl, half_bt r4.2⟩
  · rw [if_pos (i3.mpr c), if_neg c]; exact ⟨rfl, r4.2⟩
theorem BR_st {σ : AH} {b : Nat} (h : BR σ b) : seS σ (bA σ b) = stS σ b := by
  obtain ⟨r1, r2, r3, r4, r5, r6, r7, s, r, z, s1, s2, s3, s4⟩ := h
  have hr : r ≤ 3 := by unfold SS at s4; omega
  have i3 : zI σ 66 b < 3 ↔ ¬ zI σ 66 b = 3 := by
    rw [s2]
    have q : r = 0 ∨ r = 1 ∨ r = 2 ∨ r = 3 := by omega
    rcases q with q | q | q | q <;> subst q <;> decide
  rw [seS, stS, r5, r6]
  by_cases c0 : zI σ 62 b = 0
  · rw [if_pos c0, if_pos c0]
  · rw [if_neg c0, if_neg c0]
    by_cases c : zI σ 66 b = 3
    · rw [if_neg (fun q => (i3.mp q) c), if_pos c]
    · rw [if_pos (i3.mpr c), if_neg c]
theorem BR_mv {σ : AH} {b c : Nat} (h : BR σ b) : mvV σ (fun b => seV σ (bA σ b)) b c = sdG σ b c := by
  have ab := BR_ab h
  obtain ⟨r1, r2, r3, r4, r5, r6, r7, -⟩ := h
  rw [mvV, sdG, r2, r3]
  show (if c = ix (zI σ 65 b) then Int32.toInt64 (seV σ (bA σ b)) else 0) - (if c = ix (zI σ 64 b) then Int32.toInt64 (seV σ (bA σ b)) else 0) = _
  rw [seV, r5, r4.1, ab.1]
  by_cases c0 : zI σ 62 b = 0
  · rw [if_pos c0, if_pos c0]
  · rw [if_neg c0, if_neg c0, neg64 ab.2]
    generalize Int32.toInt64 (bkF σ b) = x
    split <;> split <;> grind
theorem seB_C {σ : AH} {b : Nat} (h : BR σ b) (h4 : zI σ 27 4 = dfS σ 5) (hb : ∀ c, c < 5 → zI σ 68 c = 0 ∨ zI σ 68 c = 1) (v4 : vp_in (zI σ 64 b) 5) (v5 : vp_in (zI σ 65 b) 5) : seC σ b ↔ clC σ b := by
  obtain ⟨r1, r2, r3, r4, r5, r6, r7, -⟩ := h
  rw [seC, clC, r2, r3, r5, idF_iff h4 hb v4, idF_iff h4 hb v5, Classical.not_not, Classical.not_not]

