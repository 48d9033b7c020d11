/-! ===== the class: the least way ===== -/
set_option maxRecDepth 100000 in
set_option maxHeartbeats 4000000 in
theorem b_X10_findLeast_0 {g : GP} {CX : State → Array Value → Prop} {Q : AH → Option Value → Prop} {X : AH → String → Prop}  {σ : AH}
    (hS : Sh σ)
    (k1 : ((zI σ 13 1) < (1 : Int32)) → Q (uI (uI σ 23 3 (-1 : Int32)) 23 4 (-1 : Int32)) none)
    (k2 : (¬ (zI σ 13 1) < (1 : Int32)) → ((zI σ 13 1) < (9 : Int32)) → V g mX10_findLeast (Em g mX10_findLeast Q X) CX 0 0 44 [(0, .ref 23), (1, .ref 13), (2, .ref 3), (3, .int (1 : Int32))] [] (uI (uI (uI (uI σ 23 3 (-1 : Int32)) 23 4 (-1 : Int32)) 24 (Int32.toNatClampNeg (0 : Int32)) (0 : Int32)) 25 (Int32.toNatClampNeg (0 : Int32)) (0 : Int32)))
    (k3 : (¬ (zI σ 13 1) < (1 : Int32)) → (¬ (zI σ 13 1) < (9 : Int32)) → Q (uI (uI σ 23 3 (-1 : Int32)) 23 4 (-1 : Int32)) none) :
    V g mX10_findLeast (Em g mX10_findLeast Q X) CX 0 0 0 [(0, .ref 23), (1, .ref 13), (2, .ref 3)] [] σ := by
  refine V_aload_n dX10_findLeast_0 rfl ?_
  refine V_iconst (-1 : Int32) dX10_findLeast_1 (by decide) ?_
  refine V_puti (fk := 3) ko_X10 rfl w_159 (Or.inl rfl) dX10_findLeast_2 rfl (by decide) (shk hS 23 rfl) ?_
  refine V_aload_n dX10_findLeast_5 rfl ?_
  refine V_iconst (-1 : Int32) dX10_findLeast_6 (by decide) ?_
  refine V_puti (fk := 4) ko_X10 rfl w_161 (Or.inl rfl) dX10_findLeast_7 rfl (by decide) (shk (Sh_uI hS) 23 rfl) ?_
  refine V_aload_n dX10_findLeast_10 rfl ?_
  refine V_getf (fk := 1) (Value.int (zI σ 13 1)) ko_X4 rfl w_143 dX10_findLeast_11 (by decide) (shk (Sh_uI (Sh_uI hS)) 13 rfl) (congrArg Value.int ((zI_oa _ _ _ _ _ _ (by decide)).trans (zI_oa _ _ _ _ _ _ (by decide)))) ?_
  refine V_iconst (1 : Int32) dX10_findLeast_14 (by decide) ?_
  refine V_icmp_lt 27 dX10_findLeast_15 rfl (fun c1 => ?_) (fun c1 => ?_)
  · exact V_vret rfl dX10_findLeast_27 (k1 c1)
  · refine V_aload_n dX10_findLeast_18 rfl ?_
    refine V_getf (fk := 1) (Value.int (zI σ 13 1)) ko_X4 rfl w_143 dX10_findLeast_19 (by decide) (shk (Sh_uI (Sh_uI hS)) 13 rfl) (congrArg Value.int ((zI_oa _ _ _ _ _ _ (by decide)).trans (zI_oa _ _ _ _ _ _ (by decide)))) ?_
    refine V_bipush (9 : Int32) dX10_findLeast_22 (by decide) ?_
    refine V_icmp_lt 28 dX10_findLeast_24 rfl (fun c2 => ?_) (fun c2 => ?_)
    · refine V_aload_n dX10_findLeast_28 rfl ?_
      refine V_getf (fk := 0) (Value.ref 24) ko_X10 rfl w_156 dX10_findLeast_29 (by decide) (shk (Sh_uI (Sh_uI hS)) 23 rfl) (congrArg Value.ref (shr (Sh_uI (Sh_uI hS)) 23 0 24 (by decide))) ?_
      refine V_iconst (0 : Int32) dX10_findLeast_32 (by decide) ?_
      refine V_iconst (0 : Int32) dX10_findLeast_33 (by decide) ?_
      refine V_iast dX10_findLeast_34 (by decide) (shk (Sh_uI (Sh_uI hS)) 24 rfl) (vp_l (n := 9) (shl (Sh_uI (Sh_uI hS)) 24 rfl) (vp_in_nI (n := 0) (by decide) (by decide))) ?_
      refine V_aload_n dX10_findLeast_35 rfl ?_
      refine V_getf (fk := 1) (Value.ref 25) ko_X10 rfl w_157 dX10_findLeast_36 (by decide) (shk (Sh_uI (Sh_uI (Sh_uI hS))) 23 rfl) (congrArg Value.ref (shr (Sh_uI (Sh_uI (Sh_uI hS))) 23 1 25 (by decide))) ?_
      refine V_iconst (0 : Int32) dX10_findLeast_39 (by decide) ?_
      refine V_iconst (0 : Int32) dX10_findLeast_40 (by decide) ?_
      refine V_iast dX10_findLeast_41 (by decide) (shk (Sh_uI (Sh_uI (Sh_uI hS))) 25 rfl) (vp_l (n := 9) (shl (Sh_uI (Sh_uI (Sh_uI hS))) 25 rfl) (vp_in_nI (n := 0) (by decide) (by decide))) ?_
      refine V_iconst (1 : Int32) dX10_findLeast_42 (by decide) ?_
      refine V_istore_n [(0, .ref 23), (1, .ref 13), (2, .ref 3), (3, .int (1 : Int32))] dX10_findLeast_43 rfl rfl ?_
      exact (k2 c1 c2)
    · exact V_vret rfl dX10_findLeast_27 (k3 c1 c2)
set_option maxRecDepth 100000 in
set_option maxHeartbeats 4000000 in
theorem b_X10_findLeast_44 {g : GP} {CX : State → Array Value → Prop} {Q : AH → Option Value → Prop} {X : AH → String → Prop} {v3 : Int32} {σ : AH}
    (hS : Sh σ)
    (o1 : ((zI σ 13 1) < v3) → vp_in (zI σ 13 1) 9)
    (k1 : ((zI σ 13 1) < v3) → Q (uI (uI σ 23 3 (zI σ 24 (Int32.toNatClampNeg (zI σ 13 1)))) 23 4 (zI σ 25 (Int32.toNatClampNeg (zI σ 13 1)))) none)
    (o2 : (¬ (zI σ 13 1) < v3) → vp_in v3 9)
    (k2 : (¬ (zI σ 13 1) < v3) → V g mX10_findLeast (Em g mX10_findLeast Q X) CX 0 0 69 [(0, .ref 23), (1, .ref 13), (2, .ref 3), (3, .int v3), (4, .int (0 : Int32))] [] (uI (uI σ 24 (Int32.toNatClampNeg v3) (-1 : Int32)) 25 (Int32.toNatClampNeg v3) (-1 : Int32))) :
    V g mX10_findLeast (Em g mX10_findLeast Q X) CX 0 0 44 [(0, .ref 23), (1, .ref 13), (2, .ref 3), (3, .int v3)] [] σ := by
  refine V_iload_n dX10_findLeast_44 rfl ?_
  refine V_aload_n dX10_findLeast_45 rfl ?_
  refine V_getf (fk := 1) (Value.int (zI σ 13 1)) ko_X4 rfl w_143 dX10_findLeast_46 (by decide) (shk hS 13 rfl) rfl ?_
  refine V_icmp_gt 102 dX10_findLeast_49 rfl (fun c1 => ?_) (fun c1 => ?_)
  · refine V_aload_n dX10_findLeast_102 rfl ?_
    refine V_aload_n dX10_findLeast_103 rfl ?_
    refine V_getf (fk := 0) (Value.ref 24) ko_X10 rfl w_156 dX10_findLeast_104 (by decide) (shk hS 23 rfl) (congrArg Value.ref (shr hS 23 0 24 (by decide))) ?_
    refine V_aload_n dX10_findLeast_107 rfl ?_
    refine V_getf (fk := 1) (Value.int (zI σ 13 1)) ko_X4 rfl w_143 dX10_findLeast_108 (by decide) (shk hS 13 rfl) rfl ?_
    refine V_iald dX10_findLeast_111 (by decide) (shk hS 24 rfl) (vp_l (n := 9) (shl hS 24 rfl) (o1 c1)) ?_
    refine V_puti (fk := 3) ko_X10 rfl w_159 (Or.inl rfl) dX10_findLeast_112 rfl (by decide) (shk hS 23 rfl) ?_
    refine V_aload_n dX10_findLeast_115 rfl ?_
    refine V_aload_n dX10_findLeast_116 rfl ?_
    refine V_getf (fk := 1) (Value.ref 25) ko_X10 rfl w_157 dX10_findLeast_117 (by decide) (shk (Sh_uI hS) 23 rfl) (congrArg Value.ref (shr (Sh_uI hS) 23 1 25 (by decide))) ?_
    refine V_aload_n dX10_findLeast_120 rfl ?_
    refine V_getf (fk := 1) (Value.int (zI σ 13 1)) ko_X4 rfl w_143 dX10_findLeast_121 (by decide) (shk (Sh_uI hS) 13 rfl) (congrArg Value.int (zI_oa _ _ _ _ _ _ (by decide))) ?_
    refine V_iald dX10_findLeast_124 (by decide) (shk (Sh_uI hS) 25 rfl) (vp_l (n := 9) (shl (Sh_uI hS) 25 rfl) (o1 c1)) ?_
    refine V_cast (st' := Value.int (zI σ 25 (Int32.toNatClampNeg (zI σ 13 1))) :: [.ref 23]) rfl (congrArg (fun q_ => Value.int q_ :: [.ref 23]) (zI_oa _ _ _ _ _ _ (by decide))) rfl ?_
    refine V_puti (fk := 4) ko_X10 rfl w_161 (Or.inl rfl) dX10_findLeast_125 rfl (by decide) (shk (Sh_uI hS) 23 rfl) ?_
    exact V_vret rfl dX10_findLeast_128 (k1 c1)
  · refine V_aload_n dX10_findLeast_52 rfl ?_
    refine V_getf (fk := 0) (Value.ref 24) ko_X10 rfl w_156 dX10_findLeast_53 (by decide) (shk hS 23 rfl) (congrArg Value.ref (shr hS 23 0 24 (by decide))) ?_
    refine V_iload_n dX10_findLeast_56 rfl ?_
    refine V_iconst (-1 : Int32) dX10_findLeast_57 (by decide) ?_
    refine V_iast dX10_findLeast_58 (by decide) (shk hS 24 rfl) (vp_l (n := 9) (shl hS 24 rfl) (o2 c1)) ?_
    refine V_aload_n dX10_findLeast_59 rfl ?_
    refine V_getf (fk := 1) (Value.ref 25) ko_X10 rfl w_157 dX10_findLeast_60 (by decide) (shk (Sh_uI hS) 23 rfl) (congrArg Value.ref (shr (Sh_uI hS) 23 1 25 (by decide))) ?_
    refine V_iload_n dX10_findLeast_63 rfl ?_
    refine V_iconst (-1 : Int32) dX10_findLeast_64 (by decide) ?_
    refine V_iast dX10_findLeast_65 (by decide) (shk (Sh_uI hS) 25 rfl) (vp_l (n := 9) (shl (Sh_uI hS) 25 rfl) (o2 c1)) ?_
    refine V_iconst (0 : Int32) dX10_findLeast_66 (by decide) ?_
    refine V_istore [(0, .ref 23), (1, .ref 13), (2, .ref 3), (3, .int v3), (4, .int (0 : Int32))] dX10_findLeast_67 rfl rfl ?_
    exact (k2 c1)
set_option maxRecDepth 100000 in
set_option maxHeartbeats 4000000 in
theorem b_X10_findLeast_69 {g : GP} {CX : State → Array Value → Prop} {E : ET} {v3 : Int32} {v4 : Int32} {σ : AH}
    (hS : Sh σ)
    (k1 : (v3 ≤ v4) → V g mX10_findLeast E CX 0 0 44 [(0, .ref 23), (1, .ref 13), (2, .ref 3), (3, .int (v3 + (1 : Int32)))] [] σ)
    (o1 : (¬ v3 ≤ v4) → RT σ)
    (o2 : (¬ v3 ≤ v4) → RJ σ)
    (o3 : (¬ v3 ≤ v4) → inJ σ v4)
    (o4 : (¬ v3 ≤ v4) → inJ σ v3)
    (o5 : (¬ v3 ≤ v4) → vp_in v4 9)
    (o6 : (¬ v3 ≤ v4) → vp_in v3 9)
    (k2 : (¬ v3 ≤ v4) → V g mX10_findLeast E CX 0 0 69 [(0, .ref 23), (1, .ref 13), (2, .ref 3), (3, .int v3), (4, .int (v4 + (1 : Int32)))] [] (goH σ (ix v4) (ix v3) (partF σ (ix v4) (ix v3)))) :
    V g mX10_findLeast E CX 0 0 69 [(0, .ref 23), (1, .ref 13), (2, .ref 3), (3, .int v3), (4, .int v4)] [] σ := by
  refine V_iload dX10_findLeast_69 rfl ?_
  refine V_iload_n dX10_findLeast_71 rfl ?_
  refine V_icmp_ge 96 dX10_findLeast_72 rfl (fun c1 => ?_) (fun c1 => ?_)
  · refine V_iinc (v3 + (1 : Int32)) [(0, .ref 23), (1, .ref 13), (2, .ref 3), (3, .int (v3 + (1 : Int32))), (4, .int v4)] dX10_findLeast_96 rfl rfl rfl rfl ?_
    refine V_goto 44 dX10_findLeast_99 rfl ?_
    exact V_less (mm_keep (mm_keep (mm_keep (mm_keep (mm_drop mm_nil))))) (by decide) (by decide) (k1 c1)
  · refine V_aload_n dX10_findLeast_75 rfl ?_
    refine V_iload dX10_findLeast_76 rfl ?_
    refine V_iload_n dX10_findLeast_78 rfl ?_
    refine V_aload_n dX10_findLeast_79 rfl ?_
    refine V_aload_n dX10_findLeast_80 rfl ?_
    refine V_iload dX10_findLeast_81 rfl ?_
    refine V_iload_n dX10_findLeast_83 rfl ?_
    refine V_callV1 (as := [.ref 3, .int v4, .int v3]) (k' := 0) (n' := 0) (s_X4_priceOfPart hS (o1 c1) (o2 c1) (o3 c1) (o4 c1)) mw_X4_priceOfPart ko_X4 rfl w_616 w_617 w_615 ar_X4_priceOfPart rfl ⟨rfl, rfl, rfl, rfl, rfl⟩ dX10_findLeast_84 (by decide) (shk hS 13 rfl) ?_
    refine V_callV0 (as := [.int v4, .int v3, .int (partF σ (ix v4) (ix v3))]) (k' := 0) (n' := 0) (s_X10_goOn hS (o5 c1) (o6 c1)) mw_X10_goOn ko_X10 rfl w_667 w_6 w_665 ar_X10_goOn rfl ⟨rfl, rfl, rfl, rfl, rfl⟩ dX10_findLeast_87 (by decide) (shk hS 23 rfl) ?_
    refine V_iinc (v4 + (1 : Int32)) [(0, .ref 23), (1, .ref 13), (2, .ref 3), (3, .int v3), (4, .int (v4 + (1 : Int32)))] dX10_findLeast_90 rfl rfl rfl rfl ?_
    refine V_goto 69 dX10_findLeast_93 rfl ?_
    exact (k2 c1)

/-- the best way to a point behind the first points ahead of it -/
def dpR (T : Nat → Int32 × Int32) (P : Nat → Nat → Int32) (t : Nat) : Nat → Int32 × Int32
  | 0 => (-1, -1)
  | i + 1 =>
    if P i t < 0 ∨ (T i).1 = -1 then dpR T P t i
    else if (dpR T P t i).1 = -1 ∨ ¬ (dpR T P t i).1 ≤ (T i).1 + P i t then ((T i).1 + P i t, if i = 0 then 0 else (T i).2 ||| ((1 : Int32) <<< (nI i &&& 31)))
    else dpR T P t i
def dpT (P : Nat → Nat → Int32) : Nat → Nat → Int32 × Int32
  | 0, _ => (0, 0)
  | p + 1, q => if q = p + 1 then dpR (dpT P p) P (p + 1) (p + 1) else dpT P p q
/-- the class's rows up to a point p, and of the next behind i points -/
def tbF (σ : AH) (T : Nat → Int32 × Int32) (p : Nat) (w : Int32 × Int32) (a k : Nat) : Int32 :=
  if a = 24 ∧ k ≤ p then (T k).1 else if a = 25 ∧ k ≤ p then (T k).2
  else if a = 24 ∧ k = p + 1 then w.1 else if a = 25 ∧ k = p + 1 then w.2
  else if a = 23 ∧ (k = 3 ∨ k = 4) then -1 else zI σ a k
theorem EqP_sI' {σ : AH} {F : Nat → Nat → Int32} (h : ∀ a k, 33 ≤ a → F a k = zI σ a k) : EqP (sI σ F) σ :=
  ⟨h 33 0 (by decide), h 33 6 (by decide), h 33 14 (by decide), h 33 16 (by decide), fun a k h1 h2 => h a k (by omega)⟩
theorem EqP_tbF {σ : AH} {T : Nat → Int32 × Int32} {p : Nat} {w : Int32 × Int32} : EqP (sI σ (tbF σ T p w)) σ := EqP_sI' (fun a k h => by
  rw [tbF, if_neg (by omega), if_neg (by omega), if_neg (by omega), if_neg (by omega), if_neg (by omega)])
theorem goH_tb {σ : AH} {T : Nat → Int32 × Int32} {P : Nat → Nat → Int32} {p i : Nat} (hi : i ≤ p) : goH (sI σ (tbF σ T p (dpR T P (p + 1) i))) i (p + 1) (P i (p + 1)) = sI σ (tbF σ T p (dpR T P (p + 1) (i + 1))) := by
  have r1 : ∀ w, zI (sI σ (tbF σ T p w)) 24 i = (T i).1 := fun w => by rw [zI_sI, tbF, if_pos ⟨rfl, hi⟩]
  have r2 : ∀ w, zI (sI σ (tbF σ T p w)) 25 i = (T i).2 := fun w => by rw [zI_sI, tbF, if_neg (by omega), if_pos ⟨rfl, hi⟩]
  have r3 : ∀ w, zI (sI σ (tbF σ T p w)) 24 (p + 1) = w.1 := fun w => by rw [zI_sI, tbF, if_neg (by omega), if_neg (by omega), if_pos ⟨rfl, rfl⟩]
  rw [goH, r1, r2, r3, dpR]
  split
  · rfl
  · split
    · rw [uI_sI, uI_sI]
      refine sI_cg (fun a k => ?_)
      unfold tbF
      have hp : ¬ p + 1 ≤ p := by omega
      by_cases h : k = p + 1
      · subst h
        by_cases h2 : a = 25
        · subst h2; simp [hp]
        · by_cases h3 : a = 24
          · subst h3; simp [hp]
          · simp [h2, h3]
      · simp [h]
    · rfl
theorem tb_next {σ : AH} {P : Nat → Nat → Int32} {p : Nat} {w : Int32 × Int32} : uI (uI (sI σ (tbF σ (dpT P p) p w)) 24 (p + 1) (-1)) 25 (p + 1) (-1) = sI σ (tbF σ (dpT P p) p (dpR (dpT P p) P (p + 1) 0)) := by
  rw [uI_sI, uI_sI]
  refine sI_cg (fun a k => ?_)
  unfold tbF
  have hp : ¬ p + 1 ≤ p := by omega
  by_cases h : k = p + 1
  · subst h
    by_cases h2 : a = 25
    · subst h2; simp [hp, dpR]
    · by_cases h3 : a = 24
      · subst h3; simp [hp, dpR]
      · simp [h2, h3]
  · simp [h]
theorem tb_done {σ : AH} {P : Nat → Nat → Int32} {p : Nat} : sI σ (tbF σ (dpT P p) p (dpR (dpT P p) P (p + 1) (p + 1))) = sI σ (tbF σ (dpT P (p + 1)) (p + 1) (zI σ 24 (p + 2), zI σ 25 (p + 2))) := by
  refine sI_cg (fun a k => ?_)
  unfold tbF
  have e : ∀ k, k ≤ p → dpT P (p + 1) k = dpT P p k := fun k hk => by rw [dpT, if_neg (by omega)]
  have e1 : dpT P (p + 1) (p + 1) = dpR (dpT P p) P (p + 1) (p + 1) := by rw [dpT, if_pos rfl]
  have hp : ¬ p + 1 ≤ p := by omega
  have hp2 : ¬ p + 2 ≤ p := by omega
  have hp3 : ¬ p + 2 ≤ p + 1 := by omega
  by_cases h4 : a = 24
  · subst h4
    by_cases h : k ≤ p
    · simp [h, show k ≤ p + 1 by omega, e k h]
    · by_cases h2 : k = p + 1
      · subst h2; simp [e1, hp]
      · by_cases h3 : k = p + 2
        · subst h3; simp [hp2, hp3]
        · simp [h, h2, h3, show ¬ k ≤ p + 1 by omega]
  · by_cases h5 : a = 25
    · subst h5
      by_cases h : k ≤ p
      · simp [h, show k ≤ p + 1 by omega, e k h]
      · by_cases h2 : k = p + 1
        · subst h2; simp [e1, hp]
        · by_cases h3 : k = p + 2
          · subst h3; simp [hp2, hp3]
          · simp [h, h2, h3, show ¬ k ≤ p + 1 by omega]
    · simp [h4, h5]
