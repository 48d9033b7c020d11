/-! ===== the class: findLeast ===== -/
theorem RT_tb {σ : AH} {T : Nat → Int32 × Int32} {p : Nat} {w : Int32 × Int32} (hS : Sh σ) (h : RT σ) : RT (sI σ (tbF σ T p w)) :=
  RT_ag (τ := sI σ (tbF σ T p w)) (σ := σ) (Gr_refl σ) (fun a k ha hf => by
    rw [zI_sI, tbF]
    have : a ≠ 23 ∧ a ≠ 24 ∧ a ≠ 25 := by
      unfold FT at hf; omega
    rw [if_neg (by omega), if_neg (by omega), if_neg (by omega), if_neg (by omega), if_neg (by omega)]) (fun _ => rfl) hS.1 h
theorem RJ_tb {σ : AH} {T : Nat → Int32 × Int32} {p : Nat} {w : Int32 × Int32} (h : RJ σ) : RJ (sI σ (tbF σ T p w)) := by
  have e : ∀ a k, a ≠ 23 → a ≠ 24 → a ≠ 25 → zI (sI σ (tbF σ T p w)) a k = zI σ a k := fun a k h1 h2 h3 => by
    rw [zI_sI, tbF, if_neg (by omega), if_neg (by omega), if_neg (by omega), if_neg (by omega), if_neg (by omega)]
  exact RJ_ag (e _ _ (by decide) (by decide) (by decide)) (e _ _ (by decide) (by decide) (by decide)) (fun a k h1 h2 => e _ _ (by omega) (by omega) (by omega)) (fun a k h1 h2 => e _ _ (by omega) (by omega) (by omega)) (fun k h1 => by rw [e _ _ (by decide) (by decide) (by decide)]; exact h1) h
/-- the heap when the least way is found -/
def flW (σ : AH) : AH :=
  if zI σ 33 16 = 0 then uI (uI σ 23 3 (-1)) 23 4 (-1)
  else uI (uI (sI σ (tbF σ (dpT (partF σ) (lgN σ)) (lgN σ) (zI σ 24 (lgN σ + 1), zI σ 25 (lgN σ + 1)))) 23 3 (dpT (partF σ) (lgN σ) (lgN σ)).1) 23 4 (dpT (partF σ) (lgN σ) (lgN σ)).2
theorem tb_first {σ : AH} {P : Nat → Nat → Int32} : uI (uI (uI (uI σ 23 3 (-1)) 23 4 (-1)) 24 0 0) 25 0 0 = sI σ (tbF σ (dpT P 0) 0 (zI σ 24 1, zI σ 25 1)) := by
  rw [← sI_self σ]
  simp only [uI_sI]
  rw [sI_self]
  refine sI_cg (fun a k => ?_)
  unfold tbF
  by_cases h4 : a = 24
  · subst h4
    by_cases h : k = 0
    · subst h; simp [dpT]
    · by_cases h2 : k = 1
      · subst h2; simp
      · simp [h, h2]
  · by_cases h5 : a = 25
    · subst h5
      by_cases h : k = 0
      · subst h; simp [dpT]
      · by_cases h2 : k = 1
        · subst h2; simp
        · simp [h, h2]
    · by_cases h6 : a = 23
      · subst h6
        by_cases h : k = 3
        · subst h; simp
        · by_cases h2 : k = 4
          · subst h2; simp
          · simp [h, h2]
      · simp [h4, h5, h6]
theorem s_X10_findLeast {g : GP} {σ : AH} (hS : Sh σ) (hT : RT σ) (hJ : RJ σ) : Ct g mX10_findLeast [.ref 23, .ref 13, .ref 3] σ (FQ (flW σ) none) := by
  obtain ⟨L, h1, h2, h3⟩ := RJ_L hJ
  have hl : lgN σ = L := by rw [lgN, h2, cl0 (by omega)]
  by_cases h0 : L = 0
  · subst h0
    have e0 : zI σ 33 16 = 0 := h2
    have lt : zI σ 13 1 < (1 : Int32) := by rw [h3]; decide
    refine Ct_of (by decide +kernel) rfl rfl (b_X10_findLeast_0 hS (fun _ => ⟨by rw [flW, if_pos e0], rfl⟩) (fun c => absurd lt c) (fun c => absurd lt c))
  · have n0 : ¬ zI σ 33 16 = 0 := by rw [h2]; exact nI_ne0 (by omega) (by omega)
    have nlt : ¬ zI σ 13 1 < (1 : Int32) := by rw [h3]; exact nI_nlt (a := L) (b := 1) (by omega) (by omega)
    have lt9 : zI σ 13 1 < (9 : Int32) := by rw [h3]; exact nI_lt (b := 9) (by omega) (by decide)
    have e13 : ∀ T p w, zI (sI σ (tbF σ T p w)) 13 1 = nI L := fun T p w => by
      rw [zI_sI, tbF, if_neg (by omega), if_neg (by omega), if_neg (by omega), if_neg (by omega), if_neg (by omega)]; exact h3
    have e16 : ∀ T p w, zI (sI σ (tbF σ T p w)) 33 16 = nI L := fun T p w => (EqP_tbF.2.2.2.1).trans h2
    refine Ct_of (by decide +kernel) rfl rfl (b_X10_findLeast_0 hS (fun c => absurd c nlt) (fun _ _ => ?_) (fun _ c => absurd lt9 c))
    refine V_cast rfl rfl tb_first (up_loop (P := fun p => p ≤ L → V g mX10_findLeast (Em g mX10_findLeast (FQ (flW σ) none) NX) CT 0 0 44 [(0, .ref 23), (1, .ref 13), (2, .ref 3), (3, .int (nI (p + 1)))] [] (sI σ (tbF σ (dpT (partF σ) p) p (zI σ 24 (p + 1), zI σ 25 (p + 1))))) L ?_ ?_ 0 (Nat.zero_le _) (Nat.zero_le _))
    · intro _
      have hlt : zI (sI σ (tbF σ (dpT (partF σ) L) L (zI σ 24 (L + 1), zI σ 25 (L + 1)))) 13 1 < nI (L + 1) := by rw [e13]; exact nI_lt (by omega) (by omega)
      refine b_X10_findLeast_44 (σ := sI σ (tbF σ (dpT (partF σ) L) L (zI σ 24 (L + 1), zI σ 25 (L + 1)))) hS (fun _ => by rw [e13]; exact vp_in_nI (by omega) (by decide)) (fun _ => ⟨?_, rfl⟩) (fun c => absurd hlt c) (fun c => absurd hlt c)
      rw [e13, cl0 (by omega), flW, if_neg n0, hl]
      have r1 : zI (sI σ (tbF σ (dpT (partF σ) L) L (zI σ 24 (L + 1), zI σ 25 (L + 1)))) 24 L = (dpT (partF σ) L L).1 := by rw [zI_sI, tbF, if_pos ⟨rfl, Nat.le_refl _⟩]
      have r2 : zI (sI σ (tbF σ (dpT (partF σ) L) L (zI σ 24 (L + 1), zI σ 25 (L + 1)))) 25 L = (dpT (partF σ) L L).2 := by rw [zI_sI, tbF, if_neg (by omega), if_pos ⟨rfl, Nat.le_refl _⟩]
      rw [r1, r2]
    · intro p hp ih _
      have hlt : ¬ zI (sI σ (tbF σ (dpT (partF σ) p) p (zI σ 24 (p + 1), zI σ 25 (p + 1)))) 13 1 < nI (p + 1) := by rw [e13]; exact nI_nlt (by omega) (by omega)
      have v9 : vp_in (nI (p + 1)) 9 := vp_in_nI (by omega) (by decide)
      have cp : (nI (p + 1)).toNatClampNeg = p + 1 := cl0 (by omega)
      refine b_X10_findLeast_44 (σ := sI σ (tbF σ (dpT (partF σ) p) p (zI σ 24 (p + 1), zI σ 25 (p + 1)))) hS (fun c => absurd c hlt) (fun c => absurd c hlt) (fun _ => v9) (fun _ => ?_)
      rw [cp]
      refine V_cast rfl rfl tb_next (up_loop (P := fun i => V g mX10_findLeast (Em g mX10_findLeast (FQ (flW σ) none) NX) CT 0 0 69 [(0, .ref 23), (1, .ref 13), (2, .ref 3), (3, .int (nI (p + 1))), (4, .int (nI i))] [] (sI σ (tbF σ (dpT (partF σ) p) p (dpR (dpT (partF σ) p) (partF σ) (p + 1) i)))) (p + 1) ?_ ?_ 0 (Nat.zero_le _))
      · have hle : nI (p + 1) ≤ nI (p + 1) := Int32.le_refl _
        refine b_X10_findLeast_69 (σ := sI σ (tbF σ (dpT (partF σ) p) p (dpR (dpT (partF σ) p) (partF σ) (p + 1) (p + 1)))) hS (fun _ => ?_) (fun c => absurd hle c) (fun c => absurd hle c) (fun c => absurd hle c) (fun c => absurd hle c) (fun c => absurd hle c) (fun c => absurd hle c) (fun c => absurd hle c)
        rw [nI_1]
        exact V_cast rfl rfl tb_done (ih (by omega))
      · intro i hi ihi
        have hle : ¬ nI (p + 1) ≤ nI i := nI_ge hi (by omega)
        have ci : (nI i).toNatClampNeg = i := cl0 (by omega)
        refine b_X10_findLeast_69 (σ := sI σ (tbF σ (dpT (partF σ) p) p (dpR (dpT (partF σ) p) (partF σ) (p + 1) i))) hS (fun c => absurd c hle) (fun _ => RT_tb hS hT) (fun _ => RJ_tb hJ) (fun _ => ⟨i, L, rfl, e16 _ _ _, by omega, by omega, h1⟩) (fun _ => ⟨p + 1, L, rfl, e16 _ _ _, by omega, by omega, h1⟩) (fun _ => vp_in_nI (by omega) (by decide)) (fun _ => v9) (fun _ => ?_)
        rw [nI_1]
        simp only [ix, ci, cp, partF_eq EqP_tbF]
        exact V_cast rfl rfl (goH_tb (by omega)) ihi
