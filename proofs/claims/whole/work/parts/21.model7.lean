/-! ===== the reference: a ticket ===== -/
def txF (σ : AH) (k : Nat) : Int32 := if k = 0 ∨ ¬ zI σ 49 k ≤ zI σ 49 (k - 1) then zI σ 37 (ix (zI σ 46 k)) else zI σ 38 (ix (zI σ 46 k))
def cutB (c : Int32) (p : Nat) : Prop := (c >>> (nI p &&& 31)) &&& 1 = 1
/-- the parts of a way behind so many points: where the next begins, what is no share, the shares -/
noncomputable def sgS (P : Nat → Nat → Int32) (pv wt : Nat → Int32) (c : Int32) (L : Nat) : Nat → Nat × Int32 × (Nat → Int32)
  | 0 => (0, 0, fun _ => 0)
  | p + 1 => @ite _ (p + 1 = L ∨ cutB c (p + 1)) (Classical.propDecidable _)
      (p + 1, (sgS P pv wt c L p).2.1 + unS pv (sgS P pv wt c L p).1 (p + 1 - (sgS P pv wt c L p).1) (P (sgS P pv wt c L p).1 (p + 1)),
        fun k => if (sgS P pv wt c L p).1 ≤ k then shS pv wt (sgS P pv wt c L p).1 (p + 1 - (sgS P pv wt c L p).1) (P (sgS P pv wt c L p).1 (p + 1)) (k - (sgS P pv wt c L p).1) else (sgS P pv wt c L p).2.2 k)
      (sgS P pv wt c L p)
theorem sgS_le {P : Nat → Nat → Int32} {pv wt : Nat → Int32} {c : Int32} {L : Nat} : ∀ p, (sgS P pv wt c L p).1 ≤ p
  | 0 => Nat.le_refl _
  | p + 1 => by
    have ih := sgS_le (P := P) (pv := pv) (wt := wt) (c := c) (L := L) p
    rw [sgS]
    split
    · exact Nat.le_refl _
    · omega
theorem sgS_y {P : Nat → Nat → Int32} {pv wt : Nat → Int32} {c : Int32} {L p : Nat} (h : p + 1 = L ∨ cutB c (p + 1)) : sgS P pv wt c L (p + 1) = (p + 1, (sgS P pv wt c L p).2.1 + unS pv (sgS P pv wt c L p).1 (p + 1 - (sgS P pv wt c L p).1) (P (sgS P pv wt c L p).1 (p + 1)),
        fun k => if (sgS P pv wt c L p).1 ≤ k then shS pv wt (sgS P pv wt c L p).1 (p + 1 - (sgS P pv wt c L p).1) (P (sgS P pv wt c L p).1 (p + 1)) (k - (sgS P pv wt c L p).1) else (sgS P pv wt c L p).2.2 k) := by
  rw [sgS, if_pos h]
theorem sgS_n {P : Nat → Nat → Int32} {pv wt : Nat → Int32} {c : Int32} {L p : Nat} (h : ¬ (p + 1 = L ∨ cutB c (p + 1))) : sgS P pv wt c L (p + 1) = sgS P pv wt c L p := by
  rw [sgS, if_neg h]
/-- the parts of the best way -/
noncomputable def sgF (σ : AH) : Nat → Nat × Int32 × (Nat → Int32) := sgS (partF σ) (pvF σ) (wtF σ) (wayF σ).2 (lgN σ)
/-- a new ticket's numbers, a new coupon's -/
noncomputable def rwT (σ : AH) (its : Int32) (k a : Nat) : Int32 := if a = 50 then (wayF σ).1 else if a = 51 then its else if a = 52 then zI σ 33 16 else if a = 53 then (wayF σ).2 else (sgF σ k).2.1
def rwC (σ : AH) (a k : Nat) : Int32 := if a = 55 then 0 else if a = 57 then txF σ k else if a = 58 then zI σ 48 k else if a = 59 then zI σ 49 k else if a = 60 then zI σ 46 k else -1
/-- the ints while a ticket is made: d coupons stand wholly, e of the arrays behind in the next -/
noncomputable def mkF (σ : AH) (t : Nat) (its : Int32) (d : Nat) (a j : Nat) : Int32 :=
  if a = 33 then (if j = 21 then (wayF σ).1 else if j = 22 then (wayF σ).2 else zI σ 33 j)
  else if 50 ≤ a ∧ a ≤ 54 then (if j = t then rwT σ its d a else zI σ a j)
  else if 55 ≤ a ∧ a ≤ 61 ∧ 8 * t ≤ j then
    (if a = 56 then (if j < 8 * t + (sgF σ d).1 then (sgF σ d).2.2 (j - 8 * t) else zI σ a j) else (if j < 8 * t + d then rwC σ a (j - 8 * t) else zI σ a j))
  else zI σ a j
theorem EqP_mkF {σ : AH} {t : Nat} {its : Int32} {d : Nat} : EqP (sI σ (mkF σ t its d)) σ := EqP_sI (fun a k h1 h2 => by
  unfold mkF
  by_cases h : a = 33
  · rw [if_pos h, if_neg (by omega), if_neg (by omega), h]
  · rw [if_neg h, if_neg (by omega), if_neg (by omega)])
/-- the same when the next coupon stands but for its share -/
noncomputable def mkG (σ : AH) (t : Nat) (its : Int32) (d : Nat) (a j : Nat) : Int32 := if (55 ≤ a ∧ a ≤ 61 ∧ a ≠ 56) ∧ j = 8 * t + d then rwC σ a d else mkF σ t its d a j
theorem EqP_mkG {σ : AH} {t : Nat} {its : Int32} {d : Nat} : EqP (sI σ (mkG σ t its d)) σ := EqP_sI (fun a k h1 h2 => by
  unfold mkG mkF
  rw [if_neg (by omega)]
  by_cases h : a = 33
  · rw [if_pos h, if_neg (by omega), if_neg (by omega), h]
  · rw [if_neg h, if_neg (by omega), if_neg (by omega)])
theorem mk0_eq {σ : AH} {t : Nat} {y : Int32} : uI (uI (uI (uI (uI (hW σ (wayF σ)) 50 t (wayF σ).1) 51 t y) 52 t (zI σ 33 16)) 53 t (wayF σ).2) 54 t 0 = sI σ (mkF σ t y 0) := by
  rw [← sI_self σ]
  simp only [hW, uI_sI]
  rw [sI_self]
  refine sI_cg (fun a j => ?_)
  unfold mkF
  by_cases h33 : a = 33
  · subst h33
    simp only [show ¬ (33 : Nat) = 54 by decide, show ¬ (33 : Nat) = 53 by decide, show ¬ (33 : Nat) = 52 by decide, show ¬ (33 : Nat) = 51 by decide, show ¬ (33 : Nat) = 50 by decide, false_and, if_false, true_and, if_true]
    by_cases h : j = 22
    · subst h; rfl
    · rw [if_neg h, if_neg h]
  · rw [if_neg h33]
    by_cases hr : 50 ≤ a ∧ a ≤ 54
    · rw [if_pos hr]
      by_cases hj : j = t
      · rw [if_pos hj]
        have : a = 50 ∨ a = 51 ∨ a = 52 ∨ a = 53 ∨ a = 54 := by omega
        rcases this with rfl | rfl | rfl | rfl | rfl <;> simp [hj, rwT, sgF, sgS]
      · rw [if_neg hj]; simp [hj, h33]
    · rw [if_neg hr, if_neg (by omega), if_neg (by omega), if_neg (by omega), if_neg (by omega), if_neg (by omega), if_neg (by omega), if_neg (by omega)]
      by_cases h5 : 55 ≤ a ∧ a ≤ 61 ∧ 8 * t ≤ j
      · rw [if_pos h5, show (sgF σ 0).1 = 0 from rfl, if_neg (show ¬ j < 8 * t + 0 by omega)]
        rw [if_neg (show ¬ j < 8 * t + 0 by omega)]
        split <;> rfl
      · rw [if_neg h5]
theorem mk1_eq {σ : AH} {t : Nat} {y : Int32} {d : Nat} : uI (uI (uI (uI (uI (uI (sI σ (mkF σ t y d)) 55 (8 * t + d) 0) 57 (8 * t + d) (txF σ d)) 58 (8 * t + d) (zI σ 48 d)) 59 (8 * t + d) (zI σ 49 d)) 60 (8 * t + d) (zI σ 46 d)) 61 (8 * t + d) (-1) = sI σ (mkG σ t y d) := by
  simp only [uI_sI]
  refine sI_cg (fun a j => ?_)
  unfold mkG
  by_cases hj : j = 8 * t + d
  · by_cases hr : 55 ≤ a ∧ a ≤ 61 ∧ a ≠ 56
    · rw [if_pos (show (55 ≤ a ∧ a ≤ 61 ∧ a ≠ 56) ∧ j = 8 * t + d from ⟨hr, hj⟩)]
      have : a = 55 ∨ a = 57 ∨ a = 58 ∨ a = 59 ∨ a = 60 ∨ a = 61 := by omega
      rcases this with rfl | rfl | rfl | rfl | rfl | rfl <;> simp [hj, rwC]
    · rw [if_neg (show ¬ ((55 ≤ a ∧ a ≤ 61 ∧ a ≠ 56) ∧ j = 8 * t + d) from fun q => hr q.1), if_neg (by omega), if_neg (by omega), if_neg (by omega), if_neg (by omega), if_neg (by omega), if_neg (by omega)]
  · rw [if_neg (fun q => hj q.2), if_neg (fun q => hj q.2), if_neg (fun q => hj q.2), if_neg (fun q => hj q.2), if_neg (fun q => hj q.2), if_neg (fun q => hj q.2), if_neg (fun q => hj q.2)]
theorem mk2_eq {σ : AH} {t : Nat} {y : Int32} {d : Nat} (h : sgF σ (d + 1) = sgF σ d) : sI σ (mkG σ t y d) = sI σ (mkF σ t y (d + 1)) := by
  refine sI_cg (fun a j => ?_)
  unfold mkG mkF rwT
  rw [h]
  by_cases hj : (55 ≤ a ∧ a ≤ 61 ∧ a ≠ 56) ∧ j = 8 * t + d
  · rw [if_pos hj, if_neg (by omega), if_neg (by omega), if_pos (by omega), if_neg (by omega), if_pos (by omega), hj.2]
    congr 1; omega
  · rw [if_neg hj]
    by_cases h5 : 55 ≤ a ∧ a ≤ 61 ∧ 8 * t ≤ j
    · rw [if_pos h5, if_pos h5]
      by_cases h6 : a = 56
      · rw [if_pos h6, if_pos h6]
      · rw [if_neg h6, if_neg h6]
        by_cases h7 : j < 8 * t + d
        · rw [if_pos h7, if_pos (show j < 8 * t + (d + 1) by omega)]
        · rw [if_neg h7, if_neg (show ¬ j < 8 * t + (d + 1) by omega)]
    · rw [if_neg h5, if_neg h5]
theorem mk3_eq {σ : AH} {t : Nat} {y : Int32} {d : Nat} {f : Nat → Int32} {u : Int32} (h : sgF σ (d + 1) = (d + 1, (sgF σ d).2.1 + u, fun k => if (sgF σ d).1 ≤ k then f (k - (sgF σ d).1) else (sgF σ d).2.2 k)) (hb : (sgF σ d).1 ≤ d) :
    uI (shR1 (sI σ (mkG σ t y d)) (8 * t + (sgF σ d).1) (d + 1 - (sgF σ d).1) f) 54 t ((sgF σ d).2.1 + u) = sI σ (mkF σ t y (d + 1)) := by
  rw [shR1, uI_sI]
  refine sI_cg (fun a j => ?_)
  rw [zI_sI]
  unfold mkG mkF
  rw [h]
  dsimp only
  by_cases h54 : a = 54 ∧ j = t
  · rw [if_pos h54, if_neg (by omega), if_pos (by omega), if_pos h54.2, rwT, h, if_neg (by omega), if_neg (by omega), if_neg (by omega), if_neg (by omega)]
  · rw [if_neg h54]
    by_cases h56 : a = 56 ∧ 8 * t ≤ j
    · obtain ⟨rfl, h1⟩ := h56
      rw [if_neg (show ¬ (56 : Nat) = 33 by decide), if_neg (show ¬ (50 ≤ 56 ∧ 56 ≤ 54) by decide), if_pos (show 55 ≤ 56 ∧ 56 ≤ 61 ∧ 8 * t ≤ j from ⟨by decide, by decide, h1⟩), if_pos rfl]
      by_cases h2 : 8 * t + (sgF σ d).1 ≤ j ∧ j < 8 * t + (sgF σ d).1 + (d + 1 - (sgF σ d).1)
      · rw [if_pos ⟨rfl, h2⟩, if_pos (show j < 8 * t + (d + 1) by omega), if_pos (show (sgF σ d).1 ≤ j - 8 * t by omega), show j - 8 * t - (sgF σ d).1 = j - (8 * t + (sgF σ d).1) by omega, if_neg (show ¬ (56 : Nat) = 33 by decide), if_neg (show ¬ (50 ≤ 56 ∧ 56 ≤ 54) by decide), if_pos (show 55 ≤ 56 ∧ 56 ≤ 61 ∧ 8 * t ≤ j from ⟨by decide, by decide, h1⟩), if_pos rfl]
      · rw [if_neg (fun q => h2 q.2), if_neg (by omega), if_neg (show ¬ (56 : Nat) = 33 by decide), if_neg (show ¬ (50 ≤ 56 ∧ 56 ≤ 54) by decide), if_pos (show 55 ≤ 56 ∧ 56 ≤ 61 ∧ 8 * t ≤ j from ⟨by decide, by decide, h1⟩), if_pos rfl]
        by_cases h3 : j < 8 * t + (sgF σ d).1
        · rw [if_pos h3, if_pos (show j < 8 * t + (d + 1) by omega), if_neg (show ¬ (sgF σ d).1 ≤ j - 8 * t by omega)]
        · rw [if_neg h3, if_neg (show ¬ j < 8 * t + (d + 1) by omega)]
    · rw [if_neg (by omega)]
      by_cases hj : (55 ≤ a ∧ a ≤ 61 ∧ a ≠ 56) ∧ j = 8 * t + d
      · rw [if_pos hj, if_neg (by omega), if_neg (by omega), if_pos (by omega), if_neg (by omega), if_pos (by omega), hj.2]
        congr 1; omega
      · rw [if_neg hj]
        by_cases h5 : 55 ≤ a ∧ a ≤ 61 ∧ 8 * t ≤ j
        · rw [if_pos h5, if_pos h5, if_neg (show ¬ a = 56 by omega), if_neg (show ¬ a = 56 by omega), if_neg (show ¬ a = 33 by omega), if_neg (show ¬ a = 33 by omega), if_neg (show ¬ (50 ≤ a ∧ a ≤ 54) by omega), if_neg (show ¬ (50 ≤ a ∧ a ≤ 54) by omega)]
          by_cases h7 : j < 8 * t + d
          · rw [if_pos h7, if_pos (show j < 8 * t + (d + 1) by omega)]
          · rw [if_neg h7, if_neg (show ¬ j < 8 * t + (d + 1) by omega)]
        · rw [if_neg h5, if_neg h5]
          by_cases h6 : 50 ≤ a ∧ a ≤ 54
          · rw [if_pos h6, if_pos h6]
            by_cases h7 : j = t
            · rw [if_pos h7, if_pos h7]
              unfold rwT
              by_cases h8 : a = 50
              · rw [if_pos h8, if_pos h8]
              · by_cases h9 : a = 51
                · rw [if_neg h8, if_neg h8, if_pos h9, if_pos h9]
                · by_cases h10 : a = 52
                  · rw [if_neg h8, if_neg h8, if_neg h9, if_neg h9, if_pos h10, if_pos h10]
                  · rw [if_neg h8, if_neg h8, if_neg h9, if_neg h9, if_neg h10, if_neg h10, if_pos (show a = 53 by omega), if_pos (show a = 53 by omega)]
            · rw [if_neg h7, if_neg h7]
          · rw [if_neg h6, if_neg h6]
set_option maxRecDepth 100000 in
set_option maxHeartbeats 4000000 in
theorem b_X12_makes_0 {g : GP} {CX : State → Array Value → Prop} {E : ET} {v1 : Int32} {v2 : Int32} {σ : AH}
    (hS : Sh σ)
    (o1 : PO σ)
    (o2 : vp_in (zI σ 33 16) 9)
    (o3 : vp_in v1 30)
    (k1 : V g mX12_makes E CX 0 0 37 [(0, .ref 33), (1, .int v1), (2, .int v2)] [] (uI (uI (uI (uI (hW σ (wayF σ)) 50 (Int32.toNatClampNeg v1) ((wayF σ).1)) 51 (Int32.toNatClampNeg v1) v2) 52 (Int32.toNatClampNeg v1) (zI (hW σ (wayF σ)) 33 16)) 53 (Int32.toNatClampNeg v1) (zI (hW σ (wayF σ)) 33 22))) :
    V g mX12_makes E CX 0 0 0 [(0, .ref 33), (1, .int v1), (2, .int v2)] [] σ := by
  refine V_aload_n dX12_makes_0 rfl ?_
  refine V_getf (fk := 24) (Value.ref 50) ko_X12 rfl w_1079 dX12_makes_1 (by decide) (shk hS 33 rfl) (congrArg Value.ref (shr hS 33 24 50 (by decide))) ?_
  refine V_iload_n dX12_makes_4 rfl ?_
  refine V_aload_n dX12_makes_5 rfl ?_
  refine V_callV1 (as := []) (k' := 0) (n' := 0) (s_X12_finds hS o1 o2) mw_X12_finds ko_X12 rfl w_1299 w_27 w_1297 ar_X12_finds rfl ⟨rfl, rfl, rfl, rfl, rfl⟩ dX12_makes_6 (by decide) (shk hS 33 rfl) ?_
  refine V_iast dX12_makes_9 (by decide) (shk (Sh_uI (Sh_uI hS)) 50 rfl) (vp_l (n := 30) (shl (Sh_uI (Sh_uI hS)) 50 rfl) o3) ?_
  refine V_aload_n dX12_makes_10 rfl ?_
  refine V_getf (fk := 25) (Value.ref 51) ko_X12 rfl w_1080 dX12_makes_11 (by decide) (shk (Sh_uI (Sh_uI (Sh_uI hS))) 33 rfl) (congrArg Value.ref (shr (Sh_uI (Sh_uI (Sh_uI hS))) 33 25 51 (by decide))) ?_
  refine V_iload_n dX12_makes_14 rfl ?_
  refine V_iload_n dX12_makes_15 rfl ?_
  refine V_iast dX12_makes_16 (by decide) (shk (Sh_uI (Sh_uI (Sh_uI hS))) 51 rfl) (vp_l (n := 30) (shl (Sh_uI (Sh_uI (Sh_uI hS))) 51 rfl) o3) ?_
  refine V_aload_n dX12_makes_17 rfl ?_
  refine V_getf (fk := 26) (Value.ref 52) ko_X12 rfl w_1081 dX12_makes_18 (by decide) (shk (Sh_uI (Sh_uI (Sh_uI (Sh_uI hS)))) 33 rfl) (congrArg Value.ref (shr (Sh_uI (Sh_uI (Sh_uI (Sh_uI hS)))) 33 26 52 (by decide))) ?_
  refine V_iload_n dX12_makes_21 rfl ?_
  refine V_aload_n dX12_makes_22 rfl ?_
  refine V_getf (fk := 16) (Value.int (zI (hW σ (wayF σ)) 33 16)) ko_X12 rfl w_1071 dX12_makes_23 (by decide) (shk (Sh_uI (Sh_uI (Sh_uI (Sh_uI hS)))) 33 rfl) (congrArg Value.int ((zI_oa _ _ _ _ _ _ (by decide)).trans (zI_oa _ _ _ _ _ _ (by decide)))) ?_
  refine V_iast dX12_makes_26 (by decide) (shk (Sh_uI (Sh_uI (Sh_uI (Sh_uI hS)))) 52 rfl) (vp_l (n := 30) (shl (Sh_uI (Sh_uI (Sh_uI (Sh_uI hS)))) 52 rfl) o3) ?_
  refine V_aload_n dX12_makes_27 rfl ?_
  refine V_getf (fk := 27) (Value.ref 53) ko_X12 rfl w_1082 dX12_makes_28 (by decide) (shk (Sh_uI (Sh_uI (Sh_uI (Sh_uI (Sh_uI hS))))) 33 rfl) (congrArg Value.ref (shr (Sh_uI (Sh_uI (Sh_uI (Sh_uI (Sh_uI hS))))) 33 27 53 (by decide))) ?_
  refine V_iload_n dX12_makes_31 rfl ?_
  refine V_aload_n dX12_makes_32 rfl ?_
  refine V_getf (fk := 22) (Value.int (zI (hW σ (wayF σ)) 33 22)) ko_X12 rfl w_1077 dX12_makes_33 (by decide) (shk (Sh_uI (Sh_uI (Sh_uI (Sh_uI (Sh_uI hS))))) 33 rfl) (congrArg Value.int (((zI_oa _ _ _ _ _ _ (by decide)).trans (zI_oa _ _ _ _ _ _ (by decide))).trans (zI_oa _ _ _ _ _ _ (by decide)))) ?_
  refine V_iast dX12_makes_36 (by decide) (shk (Sh_uI (Sh_uI (Sh_uI (Sh_uI (Sh_uI hS))))) 53 rfl) (vp_l (n := 30) (shl (Sh_uI (Sh_uI (Sh_uI (Sh_uI (Sh_uI hS))))) 53 rfl) o3) ?_
  exact k1
set_option maxRecDepth 100000 in
set_option maxHeartbeats 4000000 in
theorem b_X12_makes_37 {g : GP} {CX : State → Array Value → Prop} {E : ET} {v1 : Int32} {v2 : Int32} {σ : AH}
    (hS : Sh σ)
    (o1 : vp_in v1 30)
    (k1 : V g mX12_makes E CX 0 0 49 [(0, .ref 33), (1, .int v1), (2, .int v2), (3, .int (0 : Int32)), (4, .int (0 : Int32))] [] (uI σ 54 (Int32.toNatClampNeg v1) (0 : Int32))) :
    V g mX12_makes E CX 0 0 37 [(0, .ref 33), (1, .int v1), (2, .int v2)] [] σ := by
  refine V_aload_n dX12_makes_37 rfl ?_
  refine V_getf (fk := 28) (Value.ref 54) ko_X12 rfl w_1083 dX12_makes_38 (by decide) (shk hS 33 rfl) (congrArg Value.ref (shr hS 33 28 54 (by decide))) ?_
  refine V_iload_n dX12_makes_41 rfl ?_
  refine V_iconst (0 : Int32) dX12_makes_42 (by decide) ?_
  refine V_iast dX12_makes_43 (by decide) (shk hS 54 rfl) (vp_l (n := 30) (shl hS 54 rfl) o1) ?_
  refine V_iconst (0 : Int32) dX12_makes_44 (by decide) ?_
  refine V_istore_n [(0, .ref 33), (1, .int v1), (2, .int v2), (3, .int (0 : Int32))] dX12_makes_45 rfl rfl ?_
  refine V_iconst (0 : Int32) dX12_makes_46 (by decide) ?_
  refine V_istore [(0, .ref 33), (1, .int v1), (2, .int v2), (3, .int (0 : Int32)), (4, .int (0 : Int32))] dX12_makes_47 rfl rfl ?_
  exact k1
set_option maxRecDepth 100000 in
set_option maxHeartbeats 4000000 in
theorem b_X12_makes_49 {g : GP} {CX : State → Array Value → Prop} {Q : AH → Option Value → Prop} {X : AH → String → Prop} {v1 : Int32} {v2 : Int32} {v3 : Int32} {v4 : Int32} {σ : AH}
    (hS : Sh σ)
    (k1 : ((zI σ 33 16) ≤ v4) → Q (uI σ 33 16 (0 : Int32)) none)
    (o1 : (¬ (zI σ 33 16) ≤ v4) → vp_in (((8 : Int32) * v1) + v4) 240)
    (k2 : (¬ (zI σ 33 16) ≤ v4) → V g mX12_makes (Em g mX12_makes Q X) CX 0 0 75 [(0, .ref 33), (1, .int v1), (2, .int v2), (3, .int v3), (4, .int v4), (5, .int (((8 : Int32) * v1) + v4))] [] (uI σ 55 (Int32.toNatClampNeg (((8 : Int32) * v1) + v4)) (0 : Int32))) :
    V g mX12_makes (Em g mX12_makes Q X) CX 0 0 49 [(0, .ref 33), (1, .int v1), (2, .int v2), (3, .int v3), (4, .int v4)] [] σ := by
  refine V_iload dX12_makes_49 rfl ?_
  refine V_aload_n dX12_makes_51 rfl ?_
  refine V_getf (fk := 16) (Value.int (zI σ 33 16)) ko_X12 rfl w_1071 dX12_makes_52 (by decide) (shk hS 33 rfl) rfl ?_
  refine V_icmp_ge 229 dX12_makes_55 rfl (fun c1 => ?_) (fun c1 => ?_)
  · refine V_aload_n dX12_makes_229 rfl ?_
    refine V_iconst (0 : Int32) dX12_makes_230 (by decide) ?_
    refine V_puti (fk := 16) ko_X12 rfl w_1071 (Or.inl rfl) dX12_makes_231 rfl (by decide) (shk hS 33 rfl) ?_
    exact V_vret rfl dX12_makes_234 (k1 c1)
  · refine V_bipush (8 : Int32) dX12_makes_58 (by decide) ?_
    refine V_iload_n dX12_makes_60 rfl ?_
    refine V_imul dX12_makes_61 ?_
    refine V_iload dX12_makes_62 rfl ?_
    refine V_iadd dX12_makes_64 ?_
    refine V_istore [(0, .ref 33), (1, .int v1), (2, .int v2), (3, .int v3), (4, .int v4), (5, .int (((8 : Int32) * v1) + v4))] dX12_makes_65 rfl rfl ?_
    refine V_aload_n dX12_makes_67 rfl ?_
    refine V_getf (fk := 29) (Value.ref 55) ko_X12 rfl w_1084 dX12_makes_68 (by decide) (shk hS 33 rfl) (congrArg Value.ref (shr hS 33 29 55 (by decide))) ?_
    refine V_iload dX12_makes_71 rfl ?_
    refine V_iconst (0 : Int32) dX12_makes_73 (by decide) ?_
    refine V_iast dX12_makes_74 (by decide) (shk hS 55 rfl) (vp_l (n := 240) (shl hS 55 rfl) (o1 c1)) ?_
    exact (k2 c1)
set_option maxRecDepth 100000 in
set_option maxHeartbeats 4000000 in
theorem b_X12_makes_75 {g : GP} {CX : State → Array Value → Prop} {E : ET} {v1 : Int32} {v2 : Int32} {v3 : Int32} {v4 : Int32} {v5 : Int32} {σ : AH}
    (hS : Sh σ)
    (o1 : (v4 = 0) → vp_in v4 8)
    (o2 : (v4 = 0) → vp_in (zI σ 46 (Int32.toNatClampNeg v4)) 10)
    (o3 : (v4 = 0) → vp_in v5 240)
    (k1 : (v4 = 0) → V g mX12_makes E CX 0 0 123 [(0, .ref 33), (1, .int v1), (2, .int v2), (3, .int v3), (4, .int v4), (5, .int v5)] [] (uI σ 57 (Int32.toNatClampNeg v5) (zI σ 37 (Int32.toNatClampNeg (zI σ 46 (Int32.toNatClampNeg v4))))))
    (o4 : (¬ v4 = 0) → vp_in v4 8)
    (o5 : (¬ v4 = 0) → ¬ v4 = 0)
    (o6 : (¬ v4 = 0) → (¬ (¬ zI σ 49 (Int32.toNatClampNeg v4) ≤ zI σ 49 (Int32.toNatClampNeg v4 - 1))) → vp_in (zI σ 46 (Int32.toNatClampNeg v4)) 10)
    (o7 : (¬ v4 = 0) → (¬ (¬ zI σ 49 (Int32.toNatClampNeg v4) ≤ zI σ 49 (Int32.toNatClampNeg v4 - 1))) → vp_in v5 240)
    (k2 : (¬ v4 = 0) → (¬ (¬ zI σ 49 (Int32.toNatClampNeg v4) ≤ zI σ 49 (Int32.toNatClampNeg v4 - 1))) → V g mX12_makes E CX 0 0 123 [(0, .ref 33), (1, .int v1), (2, .int v2), (3, .int v3), (4, .int v4), (5, .int v5)] [] (uI σ 57 (Int32.toNatClampNeg v5) (zI σ 38 (Int32.toNatClampNeg (zI σ 46 (Int32.toNatClampNeg v4))))))
    (o8 : (¬ v4 = 0) → (¬ zI σ 49 (Int32.toNatClampNeg v4) ≤ zI σ 49 (Int32.toNatClampNeg v4 - 1)) → vp_in (zI σ 46 (Int32.toNatClampNeg v4)) 10)
    (o9 : (¬ v4 = 0) → (¬ zI σ 49 (Int32.toNatClampNeg v4) ≤ zI σ 49 (Int32.toNatClampNeg v4 - 1)) → vp_in v5 240)
    (k3 : (¬ v4 = 0) → (¬ zI σ 49 (Int32.toNatClampNeg v4) ≤ zI σ 49 (Int32.toNatClampNeg v4 - 1)) → V g mX12_makes E CX 0 0 123 [(0, .ref 33), (1, .int v1), (2, .int v2), (3, .int v3), (4, .int v4), (5, .int v5)] [] (uI σ 57 (Int32.toNatClampNeg v5) (zI σ 37 (Int32.toNatClampNeg (zI σ 46 (Int32.toNatClampNeg v4)))))) :
    V g mX12_makes E CX 0 0 75 [(0, .ref 33), (1, .int v1), (2, .int v2), (3, .int v3), (4, .int v4), (5, .int v5)] [] σ := by
  refine V_aload_n dX12_makes_75 rfl ?_
  refine V_getf (fk := 31) (Value.ref 57) ko_X12 rfl w_1086 dX12_makes_76 (by decide) (shk hS 33 rfl) (congrArg Value.ref (shr hS 33 31 57 (by decide))) ?_
  refine V_iload dX12_makes_79 rfl ?_
  refine V_iload dX12_makes_81 rfl ?_
  refine V_if_eq 95 dX12_makes_83 rfl (fun c1 => ?_) (fun c1 => ?_)
  · refine V_aload_n dX12_makes_95 rfl ?_
    refine V_getf (fk := 4) (Value.ref 37) ko_X12 rfl w_1059 dX12_makes_96 (by decide) (shk hS 33 rfl) (congrArg Value.ref (shr hS 33 4 37 (by decide))) ?_
    refine V_aload_n dX12_makes_99 rfl ?_
    refine V_getf (fk := 17) (Value.ref 46) ko_X12 rfl w_1072 dX12_makes_100 (by decide) (shk hS 33 rfl) (congrArg Value.ref (shr hS 33 17 46 (by decide))) ?_
    refine V_iload dX12_makes_103 rfl ?_
    refine V_iald dX12_makes_105 (by decide) (shk hS 46 rfl) (vp_l (n := 8) (shl hS 46 rfl) (o1 c1)) ?_
    refine V_iald dX12_makes_106 (by decide) (shk hS 37 rfl) (vp_l (n := 10) (shl hS 37 rfl) (o2 c1)) ?_
    refine V_goto 122 dX12_makes_107 rfl ?_
    refine V_iast dX12_makes_122 (by decide) (shk hS 57 rfl) (vp_l (n := 240) (shl hS 57 rfl) (o3 c1)) ?_
    exact (k1 c1)
  · refine V_aload_n dX12_makes_86 rfl ?_
    refine V_iload dX12_makes_87 rfl ?_
    refine V_callV1 (as := [.int v4]) (k' := 0) (n' := 0) (s_X12_isStop hS (o4 c1) (o5 c1)) mw_X12_isStop ko_X12 rfl w_1287 w_25 w_1285 ar_X12_isStop rfl ⟨rfl, rfl, rfl, rfl, rfl⟩ dX12_makes_89 (by decide) (shk hS 33 rfl) ?_
    refine V_if_eq 110 dX12_makes_92 rfl (fun c2 => ?_) (fun c2 => ?_)
    · replace c2 := jb_0.mp c2
      refine V_aload_n dX12_makes_110 rfl ?_
      refine V_getf (fk := 5) (Value.ref 38) ko_X12 rfl w_1060 dX12_makes_111 (by decide) (shk hS 33 rfl) (congrArg Value.ref (shr hS 33 5 38 (by decide))) ?_
      refine V_aload_n dX12_makes_114 rfl ?_
      refine V_getf (fk := 17) (Value.ref 46) ko_X12 rfl w_1072 dX12_makes_115 (by decide) (shk hS 33 rfl) (congrArg Value.ref (shr hS 33 17 46 (by decide))) ?_
      refine V_iload dX12_makes_118 rfl ?_
      refine V_iald dX12_makes_120 (by decide) (shk hS 46 rfl) (vp_l (n := 8) (shl hS 46 rfl) (o4 c1)) ?_
      refine V_iald dX12_makes_121 (by decide) (shk hS 38 rfl) (vp_l (n := 10) (shl hS 38 rfl) (o6 c1 c2)) ?_
      refine V_iast dX12_makes_122 (by decide) (shk hS 57 rfl) (vp_l (n := 240) (shl hS 57 rfl) (o7 c1 c2)) ?_
      exact (k2 c1 c2)
    · replace c2 := jb_n.mp c2
      refine V_aload_n dX12_makes_95 rfl ?_
      refine V_getf (fk := 4) (Value.ref 37) ko_X12 rfl w_1059 dX12_makes_96 (by decide) (shk hS 33 rfl) (congrArg Value.ref (shr hS 33 4 37 (by decide))) ?_
      refine V_aload_n dX12_makes_99 rfl ?_
      refine V_getf (fk := 17) (Value.ref 46) ko_X12 rfl w_1072 dX12_makes_100 (by decide) (shk hS 33 rfl) (congrArg Value.ref (shr hS 33 17 46 (by decide))) ?_
      refine V_iload dX12_makes_103 rfl ?_
      refine V_iald dX12_makes_105 (by decide) (shk hS 46 rfl) (vp_l (n := 8) (shl hS 46 rfl) (o4 c1)) ?_
      refine V_iald dX12_makes_106 (by decide) (shk hS 37 rfl) (vp_l (n := 10) (shl hS 37 rfl) (o8 c1 c2)) ?_
      refine V_goto 122 dX12_makes_107 rfl ?_
      refine V_iast dX12_makes_122 (by decide) (shk hS 57 rfl) (vp_l (n := 240) (shl hS 57 rfl) (o9 c1 c2)) ?_
      exact (k3 c1 c2)
set_option maxRecDepth 100000 in
set_option maxHeartbeats 4000000 in
theorem b_X12_makes_123 {g : GP} {CX : State → Array Value → Prop} {E : ET} {v1 : Int32} {v2 : Int32} {v3 : Int32} {v4 : Int32} {v5 : Int32} {σ : AH}
    (hS : Sh σ)
    (o1 : vp_in v4 8)
    (o2 : vp_in v5 240)
    (k1 : V g mX12_makes E CX 0 0 173 [(0, .ref 33), (1, .int v1), (2, .int v2), (3, .int v3), (4, .int v4), (5, .int v5)] [] (uI (uI (uI (uI σ 58 (Int32.toNatClampNeg v5) (zI σ 48 (Int32.toNatClampNeg v4))) 59 (Int32.toNatClampNeg v5) (zI σ 49 (Int32.toNatClampNeg v4))) 60 (Int32.toNatClampNeg v5) (zI σ 46 (Int32.toNatClampNeg v4))) 61 (Int32.toNatClampNeg v5) (-1 : Int32))) :
    V g mX12_makes E CX 0 0 123 [(0, .ref 33), (1, .int v1), (2, .int v2), (3, .int v3), (4, .int v4), (5, .int v5)] [] σ := by
  refine V_aload_n dX12_makes_123 rfl ?_
  refine V_getf (fk := 32) (Value.ref 58) ko_X12 rfl w_1087 dX12_makes_124 (by decide) (shk hS 33 rfl) (congrArg Value.ref (shr hS 33 32 58 (by decide))) ?_
  refine V_iload dX12_makes_127 rfl ?_
  refine V_aload_n dX12_makes_129 rfl ?_
  refine V_getf (fk := 19) (Value.ref 48) ko_X12 rfl w_1074 dX12_makes_130 (by decide) (shk hS 33 rfl) (congrArg Value.ref (shr hS 33 19 48 (by decide))) ?_
  refine V_iload dX12_makes_133 rfl ?_
  refine V_iald dX12_makes_135 (by decide) (shk hS 48 rfl) (vp_l (n := 8) (shl hS 48 rfl) o1) ?_
  refine V_iast dX12_makes_136 (by decide) (shk hS 58 rfl) (vp_l (n := 240) (shl hS 58 rfl) o2) ?_
  refine V_aload_n dX12_makes_137 rfl ?_
  refine V_getf (fk := 33) (Value.ref 59) ko_X12 rfl w_1088 dX12_makes_138 (by decide) (shk (Sh_uI hS) 33 rfl) (congrArg Value.ref (shr (Sh_uI hS) 33 33 59 (by decide))) ?_
  refine V_iload dX12_makes_141 rfl ?_
  refine V_aload_n dX12_makes_143 rfl ?_
  refine V_getf (fk := 20) (Value.ref 49) ko_X12 rfl w_1075 dX12_makes_144 (by decide) (shk (Sh_uI hS) 33 rfl) (congrArg Value.ref (shr (Sh_uI hS) 33 20 49 (by decide))) ?_
  refine V_iload dX12_makes_147 rfl ?_
  refine V_iald dX12_makes_149 (by decide) (shk (Sh_uI hS) 49 rfl) (vp_l (n := 8) (shl (Sh_uI hS) 49 rfl) o1) ?_
  refine V_cast (st' := Value.int (zI σ 49 (Int32.toNatClampNeg v4)) :: [.int v5, .ref 59]) rfl (congrArg (fun q_ => Value.int q_ :: [.int v5, .ref 59]) (zI_oa _ _ _ _ _ _ (by decide))) rfl ?_
  refine V_iast dX12_makes_150 (by decide) (shk (Sh_uI hS) 59 rfl) (vp_l (n := 240) (shl (Sh_uI hS) 59 rfl) o2) ?_
  refine V_aload_n dX12_makes_151 rfl ?_
  refine V_getf (fk := 34) (Value.ref 60) ko_X12 rfl w_1089 dX12_makes_152 (by decide) (shk (Sh_uI (Sh_uI hS)) 33 rfl) (congrArg Value.ref (shr (Sh_uI (Sh_uI hS)) 33 34 60 (by decide))) ?_
  refine V_iload dX12_makes_155 rfl ?_
  refine V_aload_n dX12_makes_157 rfl ?_
  refine V_getf (fk := 17) (Value.ref 46) ko_X12 rfl w_1072 dX12_makes_158 (by decide) (shk (Sh_uI (Sh_uI hS)) 33 rfl) (congrArg Value.ref (shr (Sh_uI (Sh_uI hS)) 33 17 46 (by decide))) ?_
  refine V_iload dX12_makes_161 rfl ?_
  refine V_iald dX12_makes_163 (by decide) (shk (Sh_uI (Sh_uI hS)) 46 rfl) (vp_l (n := 8) (shl (Sh_uI (Sh_uI hS)) 46 rfl) o1) ?_
  refine V_cast (st' := Value.int (zI σ 46 (Int32.toNatClampNeg v4)) :: [.int v5, .ref 60]) rfl (congrArg (fun q_ => Value.int q_ :: [.int v5, .ref 60]) ((zI_oa _ _ _ _ _ _ (by decide)).trans (zI_oa _ _ _ _ _ _ (by decide)))) rfl ?_
  refine V_iast dX12_makes_164 (by decide) (shk (Sh_uI (Sh_uI hS)) 60 rfl) (vp_l (n := 240) (shl (Sh_uI (Sh_uI hS)) 60 rfl) o2) ?_
  refine V_aload_n dX12_makes_165 rfl ?_
  refine V_getf (fk := 35) (Value.ref 61) ko_X12 rfl w_1090 dX12_makes_166 (by decide) (shk (Sh_uI (Sh_uI (Sh_uI hS))) 33 rfl) (congrArg Value.ref (shr (Sh_uI (Sh_uI (Sh_uI hS))) 33 35 61 (by decide))) ?_
  refine V_iload dX12_makes_169 rfl ?_
  refine V_iconst (-1 : Int32) dX12_makes_171 (by decide) ?_
  refine V_iast dX12_makes_172 (by decide) (shk (Sh_uI (Sh_uI (Sh_uI hS))) 61 rfl) (vp_l (n := 240) (shl (Sh_uI (Sh_uI (Sh_uI hS))) 61 rfl) o2) ?_
  exact k1
set_option maxRecDepth 100000 in
set_option maxHeartbeats 4000000 in
theorem b_X12_makes_173 {g : GP} {CX : State → Array Value → Prop} {E : ET} {v1 : Int32} {v2 : Int32} {v3 : Int32} {v4 : Int32} {v5 : Int32} {σ : AH}
    (hS : Sh σ)
    (o1 : (v4 = ((zI σ 33 16) - (1 : Int32))) → vp_in v1 30)
    (o2 : (v4 = ((zI σ 33 16) - (1 : Int32))) → PO σ)
    (o3 : (v4 = ((zI σ 33 16) - (1 : Int32))) → CA σ)
    (o4 : (v4 = ((zI σ 33 16) - (1 : Int32))) → vp_in v3 9)
    (o5 : (v4 = ((zI σ 33 16) - (1 : Int32))) → vp_in (v4 + (1 : Int32)) 9)
    (o6 : (v4 = ((zI σ 33 16) - (1 : Int32))) → ∀ d, d < ix (v4 + (1 : Int32)) - ix v3 → pvF σ (ix v3 + d) = -1 → ¬ Int32.toInt64 (alS (pvF σ) (wtF σ) (ix v3) (ix (v4 + (1 : Int32)) - ix v3)) = 0)
    (k1 : (v4 = ((zI σ 33 16) - (1 : Int32))) → V g mX12_makes E CX 0 0 223 [(0, .ref 33), (1, .int v1), (2, .int v2), (3, .int (v4 + (1 : Int32))), (4, .int v4), (5, .int v5)] [] (uI (shR1 σ (8 * ix v1 + ix v3) (ix (v4 + (1 : Int32)) - ix v3) (shS (pvF σ) (wtF σ) (ix v3) (ix (v4 + (1 : Int32)) - ix v3) (partF σ (ix v3) (ix (v4 + (1 : Int32)))))) 54 (Int32.toNatClampNeg v1) ((zI σ 54 (Int32.toNatClampNeg v1)) + (unS (pvF σ) (ix v3) (ix (v4 + (1 : Int32)) - ix v3) (partF σ (ix v3) (ix (v4 + (1 : Int32))))))))
    (k2 : (¬ v4 = ((zI σ 33 16) - (1 : Int32))) → (¬ (((zI σ 33 22) >>> ((v4 + (1 : Int32)) &&& 31)) &&& (1 : Int32)) = (1 : Int32)) → V g mX12_makes E CX 0 0 223 [(0, .ref 33), (1, .int v1), (2, .int v2), (3, .int v3), (4, .int v4), (5, .int v5)] [] σ)
    (o7 : (¬ v4 = ((zI σ 33 16) - (1 : Int32))) → ((((zI σ 33 22) >>> ((v4 + (1 : Int32)) &&& 31)) &&& (1 : Int32)) = (1 : Int32)) → vp_in v1 30)
    (o8 : (¬ v4 = ((zI σ 33 16) - (1 : Int32))) → ((((zI σ 33 22) >>> ((v4 + (1 : Int32)) &&& 31)) &&& (1 : Int32)) = (1 : Int32)) → PO σ)
    (o9 : (¬ v4 = ((zI σ 33 16) - (1 : Int32))) → ((((zI σ 33 22) >>> ((v4 + (1 : Int32)) &&& 31)) &&& (1 : Int32)) = (1 : Int32)) → CA σ)
    (o10 : (¬ v4 = ((zI σ 33 16) - (1 : Int32))) → ((((zI σ 33 22) >>> ((v4 + (1 : Int32)) &&& 31)) &&& (1 : Int32)) = (1 : Int32)) → vp_in v3 9)
    (o11 : (¬ v4 = ((zI σ 33 16) - (1 : Int32))) → ((((zI σ 33 22) >>> ((v4 + (1 : Int32)) &&& 31)) &&& (1 : Int32)) = (1 : Int32)) → vp_in (v4 + (1 : Int32)) 9)
    (o12 : (¬ v4 = ((zI σ 33 16) - (1 : Int32))) → ((((zI σ 33 22) >>> ((v4 + (1 : Int32)) &&& 31)) &&& (1 : Int32)) = (1 : Int32)) → ∀ d, d < ix (v4 + (1 : Int32)) - ix v3 → pvF σ (ix v3 + d) = -1 → ¬ Int32.toInt64 (alS (pvF σ) (wtF σ) (ix v3) (ix (v4 + (1 : Int32)) - ix v3)) = 0)
    (k3 : (¬ v4 = ((zI σ 33 16) - (1 : Int32))) → ((((zI σ 33 22) >>> ((v4 + (1 : Int32)) &&& 31)) &&& (1 : Int32)) = (1 : Int32)) → V g mX12_makes E CX 0 0 223 [(0, .ref 33), (1, .int v1), (2, .int v2), (3, .int (v4 + (1 : Int32))), (4, .int v4), (5, .int v5)] [] (uI (shR1 σ (8 * ix v1 + ix v3) (ix (v4 + (1 : Int32)) - ix v3) (shS (pvF σ) (wtF σ) (ix v3) (ix (v4 + (1 : Int32)) - ix v3) (partF σ (ix v3) (ix (v4 + (1 : Int32)))))) 54 (Int32.toNatClampNeg v1) ((zI σ 54 (Int32.toNatClampNeg v1)) + (unS (pvF σ) (ix v3) (ix (v4 + (1 : Int32)) - ix v3) (partF σ (ix v3) (ix (v4 + (1 : Int32)))))))) :
    V g mX12_makes E CX 0 0 173 [(0, .ref 33), (1, .int v1), (2, .int v2), (3, .int v3), (4, .int v4), (5, .int v5)] [] σ := by
  refine V_iload dX12_makes_173 rfl ?_
  refine V_aload_n dX12_makes_175 rfl ?_
  refine V_getf (fk := 16) (Value.int (zI σ 33 16)) ko_X12 rfl w_1071 dX12_makes_176 (by decide) (shk hS 33 rfl) rfl ?_
  refine V_iconst (1 : Int32) dX12_makes_179 (by decide) ?_
  refine V_isub dX12_makes_180 ?_
  refine V_icmp_eq 199 dX12_makes_181 rfl (fun c1 => ?_) (fun c1 => ?_)
  · refine V_aload_n dX12_makes_199 rfl ?_
    refine V_getf (fk := 28) (Value.ref 54) ko_X12 rfl w_1083 dX12_makes_200 (by decide) (shk hS 33 rfl) (congrArg Value.ref (shr hS 33 28 54 (by decide))) ?_
    refine V_iload_n dX12_makes_203 rfl ?_
    refine V_dup2 dX12_makes_204 rfl rfl ?_
    refine V_iald dX12_makes_205 (by decide) (shk hS 54 rfl) (vp_l (n := 30) (shl hS 54 rfl) (o1 c1)) ?_
    refine V_aload_n dX12_makes_206 rfl ?_
    refine V_iload_n dX12_makes_207 rfl ?_
    refine V_iload_n dX12_makes_208 rfl ?_
    refine V_iload dX12_makes_209 rfl ?_
    refine V_iconst (1 : Int32) dX12_makes_211 (by decide) ?_
    refine V_iadd dX12_makes_212 ?_
    refine V_callV1 (as := [.int v1, .int v3, .int (v4 + (1 : Int32))]) (k' := 0) (n' := 0) (s_X12_shares hS (o2 c1) (o3 c1) (o1 c1) (o4 c1) (o5 c1) (o6 c1)) mw_X12_shares ko_X12 rfl w_1328 w_31 w_1326 ar_X12_shares rfl ⟨rfl, rfl, rfl, rfl, rfl⟩ dX12_makes_213 (by decide) (shk hS 33 rfl) ?_
    refine V_iadd dX12_makes_216 ?_
    refine V_iast dX12_makes_217 (by decide) (shk (Sh_sI hS) 54 rfl) (vp_l (n := 30) (shl (Sh_sI hS) 54 rfl) (o1 c1)) ?_
    refine V_iload dX12_makes_218 rfl ?_
    refine V_iconst (1 : Int32) dX12_makes_220 (by decide) ?_
    refine V_iadd dX12_makes_221 ?_
    refine V_istore_n [(0, .ref 33), (1, .int v1), (2, .int v2), (3, .int (v4 + (1 : Int32))), (4, .int v4), (5, .int v5)] dX12_makes_222 rfl rfl ?_
    exact (k1 c1)
  · refine V_aload_n dX12_makes_184 rfl ?_
    refine V_getf (fk := 22) (Value.int (zI σ 33 22)) ko_X12 rfl w_1077 dX12_makes_185 (by decide) (shk hS 33 rfl) rfl ?_
    refine V_iload dX12_makes_188 rfl ?_
    refine V_iconst (1 : Int32) dX12_makes_190 (by decide) ?_
    refine V_iadd dX12_makes_191 ?_
    refine V_ishr dX12_makes_192 ?_
    refine V_iconst (1 : Int32) dX12_makes_193 (by decide) ?_
    refine V_iand dX12_makes_194 ?_
    refine V_iconst (1 : Int32) dX12_makes_195 (by decide) ?_
    refine V_icmp_ne 223 dX12_makes_196 rfl (fun c2 => ?_) (fun c2 => ?_)
    · exact (k2 c1 c2)
    · refine V_aload_n dX12_makes_199 rfl ?_
      refine V_getf (fk := 28) (Value.ref 54) ko_X12 rfl w_1083 dX12_makes_200 (by decide) (shk hS 33 rfl) (congrArg Value.ref (shr hS 33 28 54 (by decide))) ?_
      refine V_iload_n dX12_makes_203 rfl ?_
      refine V_dup2 dX12_makes_204 rfl rfl ?_
      refine V_iald dX12_makes_205 (by decide) (shk hS 54 rfl) (vp_l (n := 30) (shl hS 54 rfl) (o7 c1 c2)) ?_
      refine V_aload_n dX12_makes_206 rfl ?_
      refine V_iload_n dX12_makes_207 rfl ?_
      refine V_iload_n dX12_makes_208 rfl ?_
      refine V_iload dX12_makes_209 rfl ?_
      refine V_iconst (1 : Int32) dX12_makes_211 (by decide) ?_
      refine V_iadd dX12_makes_212 ?_
      refine V_callV1 (as := [.int v1, .int v3, .int (v4 + (1 : Int32))]) (k' := 0) (n' := 0) (s_X12_shares hS (o8 c1 c2) (o9 c1 c2) (o7 c1 c2) (o10 c1 c2) (o11 c1 c2) (o12 c1 c2)) mw_X12_shares ko_X12 rfl w_1328 w_31 w_1326 ar_X12_shares rfl ⟨rfl, rfl, rfl, rfl, rfl⟩ dX12_makes_213 (by decide) (shk hS 33 rfl) ?_
      refine V_iadd dX12_makes_216 ?_
      refine V_iast dX12_makes_217 (by decide) (shk (Sh_sI hS) 54 rfl) (vp_l (n := 30) (shl (Sh_sI hS) 54 rfl) (o7 c1 c2)) ?_
      refine V_iload dX12_makes_218 rfl ?_
      refine V_iconst (1 : Int32) dX12_makes_220 (by decide) ?_
      refine V_iadd dX12_makes_221 ?_
      refine V_istore_n [(0, .ref 33), (1, .int v1), (2, .int v2), (3, .int (v4 + (1 : Int32))), (4, .int v4), (5, .int v5)] dX12_makes_222 rfl rfl ?_
      exact (k3 c1 c2)
set_option maxRecDepth 100000 in
set_option maxHeartbeats 4000000 in
theorem b_X12_makes_223 {g : GP} {CX : State → Array Value → Prop} {E : ET} {v1 : Int32} {v2 : Int32} {v3 : Int32} {v4 : Int32} {v5 : Int32} {σ : AH}
    (k1 : V g mX12_makes E CX 0 0 49 [(0, .ref 33), (1, .int v1), (2, .int v2), (3, .int v3), (4, .int (v4 + (1 : Int32)))] [] σ) :
    V g mX12_makes E CX 0 0 223 [(0, .ref 33), (1, .int v1), (2, .int v2), (3, .int v3), (4, .int v4), (5, .int v5)] [] σ := by
  refine V_iinc (v4 + (1 : Int32)) [(0, .ref 33), (1, .int v1), (2, .int v2), (3, .int v3), (4, .int (v4 + (1 : Int32))), (5, .int v5)] dX12_makes_223 rfl rfl rfl rfl ?_
  refine V_goto 49 dX12_makes_226 rfl ?_
  exact V_less (mm_keep (mm_keep (mm_keep (mm_keep (mm_keep (mm_drop mm_nil)))))) (by decide) (by decide) k1

/-- what makes leaves -/
noncomputable def mkH (σ : AH) (t : Nat) (its : Int32) : AH := uI (sI σ (mkF σ t its (lgN σ))) 33 16 0
theorem s_X12_makes {g : GP} {σ : AH} {x y : Int32} (hS : Sh σ) (hP : PO σ) (hC : CA σ) (hL : vp_in (zI σ 33 16) 9) (hx : vp_in x 30)
    (hA : ∀ b n d, b + n ≤ lgN σ → d < n → pvF σ (b + d) = -1 → ¬ Int32.toInt64 (alS (pvF σ) (wtF σ) b n) = 0) :
    Ct g mX12_makes [.ref 33, .int x, .int y] σ (FQ (mkH σ (ix x) y) none) := by
  obtain ⟨L, hL8, e⟩ := vp_in_of hL (by decide)
  have hl : lgN σ = L := by rw [lgN, e, cl0 (by omega)]
  obtain ⟨t, ht, rfl⟩ := vp_in_of hx (by decide)
  have ct : (nI t).toNatClampNeg = t := cl0 (by omega)
  have h8 : (8 : Int32) * nI t = nI (8 * t) := by rw [show (8 : Int32) = nI 8 from rfl, pk_mul]
  rw [ix, ct, mkH, hl]
  rw [hl] at hA
  have hE : ∀ d, EqP (sI σ (mkF σ t y d)) σ := fun d => EqP_mkF
  have m16 : ∀ d, zI (sI σ (mkF σ t y d)) 33 16 = nI L := fun d => (hE d).2.2.2.1.trans e
  refine Ct_of (by decide +kernel) rfl rfl (b_X12_makes_0 hS hP hL hx (b_X12_makes_37 hS hx ?_))
  simp only [ct]
  refine V_cast rfl rfl mk0_eq (up_loop (P := fun d => V g mX12_makes (Em g mX12_makes (FQ (uI (sI σ (mkF σ t y L)) 33 16 0) none) NX) CT 0 0 49 [(0, .ref 33), (1, .int (nI t)), (2, .int y), (3, .int (nI (sgF σ d).1)), (4, .int (nI d))] [] (sI σ (mkF σ t y d))) L ?_ ?_ 0 (Nat.zero_le _))
  · have hle : zI (sI σ (mkF σ t y L)) 33 16 ≤ nI L := by rw [m16]; exact Int32.le_refl _
    exact b_X12_makes_49 hS (fun _ => fq) (fun c => absurd hle c) (fun c => absurd hle c)
  · intro d hd ih
    have hlt : ¬ zI (sI σ (mkF σ t y d)) 33 16 ≤ nI d := by rw [m16]; exact nI_ge hd (by omega)
    have hb : (8 : Int32) * nI t + nI d = nI (8 * t + d) := by rw [h8, nI_add]
    have hbc : (nI (8 * t + d)).toNatClampNeg = 8 * t + d := cl0 (by omega)
    have cd : (nI d).toNatClampNeg = d := cl0 (by omega)
    have v8 : vp_in (nI d) 8 := vp_in_nI (by omega) (by decide)
    have v240 : vp_in (nI (8 * t + d)) 240 := vp_in_nI (by omega) (by decide)
    have hsl : (sgF σ d).1 ≤ d := sgS_le d
    refine b_X12_makes_49 hS (fun c => absurd c hlt) (fun _ => by rw [hb]; exact v240) (fun _ => ?_)
    rw [hb, hbc]
    have hE5 : EqP (uI (sI σ (mkF σ t y d)) 55 (8 * t + d) 0) σ := EqP_uI (hE d) (by decide)
    have q5 : ∀ a k, 34 ≤ a → a ≤ 49 → zI (uI (sI σ (mkF σ t y d)) 55 (8 * t + d) 0) a k = zI σ a k := hE5.2.2.2.2
    have hpl : vp_in (zI (uI (sI σ (mkF σ t y d)) 55 (8 * t + d) 0) 46 d) 10 := by
      rw [q5 46 _ (by decide) (by decide)]; exact (hP.2.1 d (by omega)).1
    have n1 : nI d + 1 = nI (d + 1) := nI_1 _
    have cd1 : (nI (d + 1)).toNatClampNeg = d + 1 := cl0 (by omega)
    have csg : (nI (sgF σ d).1).toNatClampNeg = (sgF σ d).1 := cl0 (by omega)
    have hEG : EqP (sI σ (mkG σ t y d)) σ := EqP_mkG
    have g54 : zI (sI σ (mkG σ t y d)) 54 t = (sgF σ d).2.1 := by
      rw [zI_sI, mkG, if_neg (by omega), mkF, if_neg (by decide), if_pos (by decide), if_pos rfl, rwT, if_neg (by decide), if_neg (by decide), if_neg (by decide), if_neg (by decide)]
    have g22 : zI (sI σ (mkG σ t y d)) 33 22 = (wayF σ).2 := by
      rw [zI_sI, mkG, if_neg (by omega), mkF, if_pos rfl, if_neg (by decide), if_pos rfl]
    have g16 : nI d = zI (sI σ (mkG σ t y d)) 33 16 - 1 ↔ d + 1 = L := by
      rw [hEG.2.2.2.1, e]
      obtain ⟨l, rfl⟩ : ∃ l, L = l + 1 := ⟨L - 1, by omega⟩
      rw [nI_pred]
      exact (nI_eq (by omega) (by omega)).trans (by omega)
    have go3 : V g mX12_makes (Em g mX12_makes (FQ (uI (sI σ (mkF σ t y L)) 33 16 0) none) NX) CT 0 0 173 [(0, .ref 33), (1, .int (nI t)), (2, .int y), (3, .int (nI (sgF σ d).1)), (4, .int (nI d)), (5, .int (nI (8 * t + d)))] [] (sI σ (mkG σ t y d)) := by
      have hcut : d + 1 = L ∨ cutB (wayF σ).2 (d + 1) → V g mX12_makes (Em g mX12_makes (FQ (uI (sI σ (mkF σ t y L)) 33 16 0) none) NX) CT 0 0 223 [(0, .ref 33), (1, .int (nI t)), (2, .int y), (3, .int (nI d + 1)), (4, .int (nI d)), (5, .int (nI (8 * t + d)))] [] (uI (shR1 (sI σ (mkG σ t y d)) (8 * ix (nI t) + ix (nI (sgF σ d).1)) (ix (nI d + 1) - ix (nI (sgF σ d).1)) (shS (pvF (sI σ (mkG σ t y d))) (wtF (sI σ (mkG σ t y d))) (ix (nI (sgF σ d).1)) (ix (nI d + 1) - ix (nI (sgF σ d).1)) (partF (sI σ (mkG σ t y d)) (ix (nI (sgF σ d).1)) (ix (nI d + 1))))) 54 (Int32.toNatClampNeg (nI t)) ((zI (sI σ (mkG σ t y d)) 54 (Int32.toNatClampNeg (nI t))) + (unS (pvF (sI σ (mkG σ t y d))) (ix (nI (sgF σ d).1)) (ix (nI d + 1) - ix (nI (sgF σ d).1)) (partF (sI σ (mkG σ t y d)) (ix (nI (sgF σ d).1)) (ix (nI d + 1)))))) := fun hc => by
        have hpv : pvF (sI σ (mkG σ t y d)) = pvF σ := funext (pvF_eq hEG)
        have hwt : wtF (sI σ (mkG σ t y d)) = wtF σ := funext (wtF_eq hEG)
        have hsg := sgS_y (P := partF σ) (pv := pvF σ) (wt := wtF σ) (c := (wayF σ).2) (L := L) (p := d) hc
        rw [← hl] at hsg
        change sgF σ (d + 1) = (d + 1, (sgF σ d).2.1 + unS (pvF σ) (sgF σ d).1 (d + 1 - (sgF σ d).1) (partF σ (sgF σ d).1 (d + 1)), fun k => if (sgF σ d).1 ≤ k then shS (pvF σ) (wtF σ) (sgF σ d).1 (d + 1 - (sgF σ d).1) (partF σ (sgF σ d).1 (d + 1)) (k - (sgF σ d).1) else (sgF σ d).2.2 k) at hsg
        have hm := mk3_eq (t := t) (y := y) hsg hsl
        refine b_X12_makes_223 (V_cast ?_ rfl ?_ ih)
        · rw [n1, hsg]
        · simp only [ix, n1, cd1, csg, ct, hpv, hwt, partF_eq hEG, g54]
          exact hm
      have hnz : ∀ e, e < ix (nI d + 1) - ix (nI (sgF σ d).1) → pvF (sI σ (mkG σ t y d)) (ix (nI (sgF σ d).1) + e) = -1 → ¬ Int32.toInt64 (alS (pvF (sI σ (mkG σ t y d))) (wtF (sI σ (mkG σ t y d))) (ix (nI (sgF σ d).1)) (ix (nI d + 1) - ix (nI (sgF σ d).1))) = 0 := by
        rw [show pvF (sI σ (mkG σ t y d)) = pvF σ from funext (pvF_eq hEG), show wtF (sI σ (mkG σ t y d)) = wtF σ from funext (wtF_eq hEG)]
        simp only [ix, n1, cd1, csg]
        exact fun e he h => hA _ _ e (by omega) he h
      have vsg : vp_in (nI (sgF σ d).1) 9 := vp_in_nI (by omega) (by decide)
      have vd1 : vp_in (nI d + 1) 9 := by rw [n1]; exact vp_in_nI (by omega) (by decide)
      refine b_X12_makes_173 hS (fun _ => hx) (fun _ => PO_eq hEG hP) (fun _ => CA_eq hEG hC) (fun _ => vsg) (fun _ => vd1) (fun _ => hnz) (fun c => hcut (Or.inl (g16.mp c))) (fun c c2 => ?_) (fun _ _ => hx) (fun _ _ => PO_eq hEG hP) (fun _ _ => CA_eq hEG hC) (fun _ _ => vsg) (fun _ _ => vd1) (fun _ _ => hnz) (fun c c2 => hcut (Or.inr ?_))
      · rw [g22, n1] at c2
        have hsg : sgF σ (d + 1) = sgF σ d := sgS_n (fun q => q.elim (fun q => c (g16.mpr (q.trans hl))) c2)
        exact b_X12_makes_223 (V_cast (by rw [n1, hsg]) rfl (mk2_eq hsg) ih)
      · rw [g22, n1] at c2; exact c2
    have st2 : V g mX12_makes (Em g mX12_makes (FQ (uI (sI σ (mkF σ t y L)) 33 16 0) none) NX) CT 0 0 123 [(0, .ref 33), (1, .int (nI t)), (2, .int y), (3, .int (nI (sgF σ d).1)), (4, .int (nI d)), (5, .int (nI (8 * t + d)))] [] (uI (uI (sI σ (mkF σ t y d)) 55 (8 * t + d) 0) 57 (8 * t + d) (txF σ d)) := by
      refine b_X12_makes_123 hS v8 v240 (V_cast rfl rfl ?_ go3)
      have hE6 : EqP (uI (uI (sI σ (mkF σ t y d)) 55 (8 * t + d) 0) 57 (8 * t + d) (txF σ d)) σ := EqP_uI hE5 (by decide)
      rw [cd, hbc, hE6.2.2.2.2 46 _ (by decide) (by decide), hE6.2.2.2.2 48 _ (by decide) (by decide), hE6.2.2.2.2 49 _ (by decide) (by decide)]
      exact mk1_eq
    have d0 : nI d = 0 ↔ d = 0 := nI_eq (a := d) (b := 0) (by omega) (by decide)
    refine b_X12_makes_75 hS (fun _ => v8) (fun _ => by rw [cd]; exact hpl) (fun _ => v240) (fun c => ?_) (fun _ => v8) (fun c => c) (fun _ _ => by rw [cd]; exact hpl) (fun _ _ => v240) (fun c c2 => ?_) (fun _ _ => by rw [cd]; exact hpl) (fun _ _ => v240) (fun c c2 => ?_)
    · refine V_cast rfl rfl ?_ st2
      rw [cd, hbc, q5 46 _ (by decide) (by decide), q5 37 _ (by decide) (by decide), txF, if_pos (Or.inl (d0.mp c))]
    · refine V_cast rfl rfl ?_ st2
      rw [cd, q5 49 _ (by decide) (by decide), q5 49 _ (by decide) (by decide)] at c2
      rw [cd, hbc, q5 46 _ (by decide) (by decide), q5 38 _ (by decide) (by decide), txF, if_neg (fun q => q.elim (fun q => c (d0.mpr q)) c2)]
    · refine V_cast rfl rfl ?_ st2
      rw [cd, q5 49 _ (by decide) (by decide), q5 49 _ (by decide) (by decide)] at c2
      rw [cd, hbc, q5 46 _ (by decide) (by decide), q5 37 _ (by decide) (by decide), txF, if_pos (Or.inr c2)]
theorem Sh_mkH {σ : AH} {t : Nat} {y : Int32} (h : Sh σ) : Sh (mkH σ t y) := h
