/-! ===== the reference: a ticket ===== -/
def txF (σ : AH) (k : Nat) : Int32 := if k = 0 ∨ ¬ zI σ 49 k ≤ zI σ 49 (k - 1) then zI σ 37 (ix (zI σ 46 k)) else zI σ 38 (ix (zI σ 46 k))
def cutB (c : Int32) (p : Nat) : Prop := (c >>> (nI p &&& 31)) &&& 1 = 1
/-- the parts of a way behind so many points: where the next begins, what is no share, the shares -/
noncomputable def sgS (P : Nat → Nat → Int32) (pv wt : Nat → Int32) (c : Int32) (L : Nat) : Nat → Nat × Int32 × (Nat → Int32)
  | 0 => (0, 0, fun _ => 0)
  | p + 1 => @ite _ (p + 1 = L ∨ cutB c (p + 1)) (Classical.propDecidable _)
      (p + 1, (sgS P pv wt c L p).2.1 + unS pv (sgS P pv wt c L p).1 (p + 1 - (sgS P pv wt c L p).1) (P (sgS P pv wt c L p).1 (p + 1)),
        fun k => if (sgS P pv wt c L p).1 ≤ k then shS pv wt (sgS P pv wt c L p).1 (p + 1 - (sgS P pv wt c L p).1) (P (sgS P pv wt c L p).1 (p + 1)) (k - (sgS P pv wt c L p).1) else (sgS P pv wt c L p).2.2 k)
      (sgS P pv wt c L p)
theorem sgS_le {P : Nat → Nat → Int32} {pv wt : Nat → Int32} {c : Int32} {L : Nat} : ∀ p, (sgS P pv wt c L p).1 ≤ p
  | 0 => Nat.le_refl _
  | p + 1 => by
    have ih := sgS_le (P := P) (pv := pv) (wt := wt) (c := c) (L := L) p
    rw [sgS]
    split
    · exact Nat.le_refl _
    · omega
theorem sgS_y {P : Nat → Nat → Int32} {pv wt : Nat → Int32} {c : Int32} {L p : Nat} (h : p + 1 = L ∨ cutB c (p + 1)) : sgS P pv wt c L (p + 1) = (p + 1, (sgS P pv wt c L p).2.1 + unS pv (sgS P pv wt c L p).1 (p + 1 - (sgS P pv wt c L p).1) (P (sgS P pv wt c L p).1 (p + 1)),
        fun k => if (sgS P pv wt c L p).1 ≤ k then shS pv wt (sgS P pv wt c L p).1 (p + 1 - (sgS P pv wt c L p).1) (P (sgS P pv wt c L p).1 (p + 1)) (k - (sgS P pv wt c L p).1) else (sgS P pv wt c L p).2.2 k) := by
  rw [sgS, if_pos h]
theorem sgS_n {P : Nat → Nat → Int32} {pv wt : Nat → Int32} {c : Int32} {L p : Nat} (h : ¬ (p + 1 = L ∨ cutB c (p + 1))) : sgS P pv wt c L (p + 1) = sgS P pv wt c L p := by
  rw [sgS, if_neg h]
/-- the parts of the best way -/
noncomputable def sgF (σ : AH) : Nat → Nat × Int32 × (Nat → Int32) := sgS (partF σ) (pvF σ) (wtF σ) (wayF σ).2 (lgN σ)
/-- a new ticket's numbers, a new coupon's -/
noncomputable def rwT (σ : AH) (its : Int32) (k a : Nat) : Int32 := if a = 50 then (wayF σ).1 else if a = 51 then its else if a = 52 then zI σ 33 16 else if a = 53 then (wayF σ).2 else (sgF σ k).2.1
def rwC (σ : AH) (a k : Nat) : Int32 := if a = 55 then 0 else if a = 57 then txF σ k else if a = 58 then zI σ 48 k else if a = 59 then zI σ 49 k else if a = 60 then zI σ 46 k else -1
/-- the ints while a ticket is made: d coupons stand wholly, e of the arrays behind in the next -/
noncomputable def mkF (σ : AH) (t : Nat) (its : Int32) (d : Nat) (a j : Nat) : Int32 :=
  if a = 33 then (if j = 21 then (wayF σ).1 else if j = 22 then (wayF σ).2 else zI σ 33 j)
  else if 50 ≤ a ∧ a ≤ 54 then (if j = t then rwT σ its d a else zI σ a j)
  else if 55 ≤ a ∧ a ≤ 61 ∧ 8 * t ≤ j then
    (if a = 56 then (if j < 8 * t + (sgF σ d).1 then (sgF σ d).2.2 (j - 8 * t) else zI σ a j) else (if j < 8 * t + d then rwC σ a (j - 8 * t) else zI σ a j))
  else zI σ a j
theorem EqP_mkF {σ : AH} {t : Nat} {its : Int32} {d : Nat} : EqP (sI σ (mkF σ t its d)) σ := EqP_sI (fun a k h1 h2 => by
  unfold mkF
  by_cases h : a = 33
  · rw [if_pos h, if_neg (by omega), if_neg (by omega), h]
  · rw [if_neg h, if_neg (by omega), if_neg (by omega)])
/-- the same when the next coupon stands but for its share -/
noncomputable def mkG (σ : AH) (t : Nat) (its : Int32) (d : Nat) (a j : Nat) : Int32 := if (55 ≤ a ∧ a ≤ 61 ∧ a ≠ 56) ∧ j = 8 * t + d then rwC σ a d else mkF σ t its d a j
theorem EqP_mkG {σ : AH} {t : Nat} {its : Int32} {d : Nat} : EqP (sI σ (mkG σ t its d)) σ := EqP_sI (fun a k h1 h2 => by
  unfold mkG mkF
  rw [if_neg (by omega)]
  by_cases h : a = 33
  · rw [if_pos h, if_neg (by omega), if_neg (by omega), h]
  · rw [if_neg h, if_neg (by omega), if_neg (by omega)])
theorem mk0_eq {σ : AH} {t : Nat} {y : Int32} : uI (uI (uI (uI (uI (hW σ (wayF σ)) 50 t (wayF σ).1) 51 t y) 52 t (zI σ 33 16)) 53 t (wayF σ).2) 54 t 0 = sI σ (mkF σ t y 0) := by
  rw [← sI_self σ]
  simp only [hW, uI_sI]
  rw [sI_self]
  refine sI_cg (fun a j => ?_)
  unfold mkF
  by_cases h33 : a = 33
  · subst h33
    simp only [show ¬ (33 : Nat) = 54 by decide, show ¬ (33 : Nat) = 53 by decide, show ¬ (33 : Nat) = 52 by decide, show ¬ (33 : Nat) = 51 by decide, show ¬ (33 : Nat) = 50 by decide, false_and, if_false, true_and, if_true]
    by_cases h : j = 22
    · subst h; rfl
    · rw [if_neg h, if_neg h]
  · rw [if_neg h33]
    by_cases hr : 50 ≤ a ∧ a ≤ 54
    · rw [if_pos hr]
      by_cases hj : j = t
      · rw [if_pos hj]
        have : a = 50 ∨ a = 51 ∨ a = 52 ∨ a = 53 ∨ a = 54 := by omega
        rcases this with rfl | rfl | rfl | rfl | rfl <;> simp [hj, rwT, sgF, sgS]
      · rw [if_neg hj]; simp [hj, h33]
    · rw [if_neg hr, if_neg (by omega), if_neg (by omega), if_neg (by omega), if_neg (by omega), if_neg (by omega), if_neg (by omega), if_neg (by omega)]
      by_cases h5 : 55 ≤ a ∧ a ≤ 61 ∧ 8 * t ≤ j
      · rw [if_pos h5, show (sgF σ 0).1 = 0 from rfl, if_neg (show ¬ j < 8 * t + 0 by omega)]
        rw [if_neg (show ¬ j < 8 * t + 0 by omega)]
        split <;> rfl
      · rw [if_neg h5]
theorem mk1_eq {σ : AH} {t : Nat} {y : Int32} {d : Nat} : uI (uI (uI (uI (uI (uI (sI σ (mkF σ t y d)) 55 (8 * t + d) 0) 57 (8 * t + d) (txF σ d)) 58 (8 * t + d) (zI σ 48 d)) 59 (8 * t + d) (zI σ 49 d)) 60 (8 * t + d) (zI σ 46 d)) 61 (8 * t + d) (-1) = sI σ (mkG σ t y d) := by
  simp only [uI_sI]
  refine sI_cg (fun a j => ?_)
  unfold mkG
  by_cases hj : j = 8 * t + d
  · by_cases hr : 55 ≤ a ∧ a ≤ 61 ∧ a ≠ 56
    · rw [if_pos (show (55 ≤ a ∧ a ≤ 61 ∧ a ≠ 56) ∧ j = 8 * t + d from ⟨hr, hj⟩)]
      have : a = 55 ∨ a = 57 ∨ a = 58 ∨ a = 59 ∨ a = 60 ∨ a = 61 := by omega
      rcases this with rfl | rfl | rfl | rfl | rfl | rfl <;> simp [hj, rwC]
    · rw [if_neg (show ¬ ((55 ≤ a ∧ a ≤ 61 ∧ a ≠ 56) ∧ j = 8 * t + d) from fun q => hr q.1), if_neg (by omega), if_neg (by omega), if_neg (by omega), if_neg (by omega), if_neg (by omega), if_neg (by omega)]
  · rw [if_neg (fun q => hj q.2), if_neg (fun q => hj q.2), if_neg (fun q => hj q.2), if_neg (fun q => hj q.2), if_neg (fun q => hj q.2), if_neg (fun q => hj q.2), if_neg (fun q => hj q.2)]
theorem mk2_eq {σ : AH} {t : Nat} {y : Int32} {d : Nat} (h : sgF σ (d + 1) = sgF σ d) : sI σ (mkG σ t y d) = sI σ (mkF σ t y (d + 1)) := by
  refine sI_cg (fun a j => ?_)
  unfold mkG mkF rwT
  rw [h]
  by_cases hj : (55 ≤ a ∧ a ≤ 61 ∧ a ≠ 56) ∧ j = 8 * t + d
  · rw [if_pos hj, if_neg (by omega), if_neg (by omega), if_pos (by omega), if_neg (by omega), if_pos (by omega), hj.2]
    congr 1; omega
  · rw [if_neg hj]
    by_cases h5 : 55 ≤ a ∧ a ≤ 61 ∧ 8 * t ≤ j
    · rw [if_pos h5, if_pos h5]
      by_cases h6 : a = 56
      · rw [if_pos h6, if_pos h6]
      · rw [if_neg h6, if_neg h6]
        by_cases h7 : j < 8 * t + d
        · rw [if_pos h7, if_pos (show j < 8 * t + (d + 1) by omega)]
        · rw [if_neg h7, if_neg (show ¬ j < 8 * t + (d + 1) by omega)]
    · rw [if_neg h5, if_neg h5]
theorem mk3_eq {σ : AH} {t : Nat} {y : Int32} {d : Nat} {f : Nat → Int32} {u : Int32} (h : sgF σ (d + 1) = (d + 1, (sgF σ d).2.1 + u, fun k => if (sgF σ d).1 ≤ k then f (k - (sgF σ d).1) else (sgF σ d).2.2 k)) (hb : (sgF σ d).1 ≤ d) :
    uI (shR1 (sI σ (mkG σ t y d)) (8 * t + (sgF σ d).1) (d + 1 - (sgF σ d).1) f) 54 t ((sgF σ d).2.1 + u) = sI σ (mkF σ t y (d + 1)) := by
  rw [shR1, uI_sI]
  refine sI_cg (fun a j => ?_)
  rw [zI_sI]
  unfold mkG mkF
  rw [h]
  dsimp only
  by_cases h54 : a = 54 ∧ j = t
  · rw [if_pos h54, if_neg (by omega), if_pos (by omega), if_pos h54.2, rwT, h, if_neg (by omega), if_neg (by omega), if_neg (by omega), if_neg (by omega)]
  · rw [if_neg h54]
    by_cases h56 : a = 56 ∧ 8 * t ≤ j
    · obtain ⟨rfl, h1⟩ := h56
      rw [if_neg (show ¬ (56 : Nat) = 33 by decide), if_neg (show ¬ (50 ≤ 56 ∧ 56 ≤ 54) by decide), if_pos (show 55 ≤ 56 ∧ 56 ≤ 61 ∧ 8 * t ≤ j from ⟨by decide, by decide, h1⟩), if_pos rfl]
      by_cases h2 : 8 * t + (sgF σ d).1 ≤ j ∧ j < 8 * t + (sgF σ d).1 + (d + 1 - (sgF σ d).1)
      · rw [if_pos ⟨rfl, h2⟩, if_pos (show j < 8 * t + (d + 1) by omega), if_pos (show (sgF σ d).1 ≤ j - 8 * t by omega), show j - 8 * t - (sgF σ d).1 = j - (8 * t + (sgF σ d).1) by omega, if_neg (show ¬ (56 : Nat) = 33 by decide), if_neg (show ¬ (50 ≤ 56 ∧ 56 ≤ 54) by decide), if_pos (show 55 ≤ 56 ∧ 56 ≤ 61 ∧ 8 * t ≤ j from ⟨by decide, by decide, h1⟩), if_pos rfl]
      · rw [if_neg (fun q => h2 q.2), if_neg (by omega), if_neg (show ¬ (56 : Nat) = 33 by decide), if_neg (show ¬ (50 ≤ 56 ∧ 56 ≤ 54) by decide), if_pos (show 55 ≤ 56 ∧ 56 ≤ 61 ∧ 8 * t ≤ j from ⟨by decide, by decide, h1⟩), if_pos rfl]
        by_cases h3 : j < 8 * t + (sgF σ d).1
        · rw [if_pos h3, if_pos (show j < 8 * t + (d + 1) by omega), if_neg (show ¬ (sgF σ d).1 ≤ j - 8 * t by omega)]
        · rw [if_neg h3, if_neg (show ¬ j < 8 * t + (d + 1) by omega)]
    · rw [if_neg (by omega)]
      by_cases hj : (55 ≤ a ∧ a ≤ 61 ∧ a ≠ 56) ∧ j = 8 * t + d
      · rw [if_pos hj, if_neg (by omega), if_neg (by omega), if_pos (by omega), if_neg (by omega), if_pos (by omega), hj.2]
        congr 1; omega
      · rw [if_neg hj]
        by_cases h5 : 55 ≤ a ∧ a ≤ 61 ∧ 8 * t ≤ j
        · rw [if_pos h5, if_pos h5, if_neg (show ¬ a = 56 by omega), if_neg (show ¬ a = 56 by omega), if_neg (show ¬ a = 33 by omega), if_neg (show ¬ a = 33 by omega), if_neg (show ¬ (50 ≤ a ∧ a ≤ 54) by omega), if_neg (show ¬ (50 ≤ a ∧ a ≤ 54) by omega)]
          by_cases h7 : j < 8 * t + d
          · rw [if_pos h7, if_pos (show j < 8 * t + (d + 1) by omega)]
          · rw [if_neg h7, if_neg (show ¬ j < 8 * t + (d + 1) by omega)]
        · rw [if_neg h5, if_neg h5]
          by_cases h6 : 50 ≤ a ∧ a ≤ 54
          · rw [if_pos h6, if_pos h6]
            by_cases h7 : j = t
            · rw [if_pos h7, if_pos h7]
              unfold rwT
              by_cases h8 : a = 50
              · rw [if_pos h8, if_pos h8]
              · by_cases h9 : a = 51
                · rw [if_neg h8, if_neg h8, if_pos h9, if_pos h9]
                · by_cases h10 : a = 52
                  · rw [if_neg h8, if_neg h8, if_neg h9, if_neg h9, if_pos h10, if_pos h10]
                  · rw [if_neg h8, if_neg h8, if_neg h9, if_neg h9, if_neg h10, if_neg h10, if_pos (show a = 53 by omega), if_pos (show a = 53 by omega)]
            · rw [if_neg h7, if_neg h7]
          · rw [if_neg h6, if_neg h6]
/-- what makes leaves -/
noncomputable def mkH (σ : AH) (t : Nat) (its : Int32) : AH := uI (sI σ (mkF σ t its (lgN σ))) 33 16 0
theorem Sh_mkH {σ : AH} {t : Nat} {y : Int32} (h : Sh σ) : Sh (mkH σ t y) := h