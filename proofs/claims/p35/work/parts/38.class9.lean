/-! ===== the class: ways ===== -/
set_option maxRecDepth 100000 in
set_option maxHeartbeats 4000000 in
theorem b_X10_goOn_0 {g : GP} {CX : State → Array Value → Prop} {Q : AH → Option Value → Prop} {X : AH → String → Prop} {v1 : Int32} {v2 : Int32} {v3 : Int32} {σ : AH}
    (hS : Sh σ)
    (k1 : (¬ (isWi v1 (0 : Int32) (8 : Int32))) → Q σ none)
    (k2 : (isWi v1 (0 : Int32) (8 : Int32)) → (isWi v2 (0 : Int32) (8 : Int32)) → (v3 < 0) → Q σ none)
    (o1 : (isWi v1 (0 : Int32) (8 : Int32)) → (isWi v2 (0 : Int32) (8 : Int32)) → (¬ v3 < 0) → vp_in v1 9)
    (o2 : (isWi v1 (0 : Int32) (8 : Int32)) → (isWi v2 (0 : Int32) (8 : Int32)) → (¬ v3 < 0) → (¬ (zI σ 24 (Int32.toNatClampNeg v1)) = (-1 : Int32)) → vp_in v2 9)
    (k3 : (isWi v1 (0 : Int32) (8 : Int32)) → (isWi v2 (0 : Int32) (8 : Int32)) → (¬ v3 < 0) → (¬ (zI σ 24 (Int32.toNatClampNeg v1)) = (-1 : Int32)) → ((zI σ 24 (Int32.toNatClampNeg v2)) = (-1 : Int32)) → (¬ v1 = 0) → Q (uI (uI σ 24 (Int32.toNatClampNeg v2) ((zI σ 24 (Int32.toNatClampNeg v1)) + v3)) 25 (Int32.toNatClampNeg v2) ((zI σ 25 (Int32.toNatClampNeg v1)) ||| ((1 : Int32) <<< (v1 &&& 31)))) none)
    (k4 : (isWi v1 (0 : Int32) (8 : Int32)) → (isWi v2 (0 : Int32) (8 : Int32)) → (¬ v3 < 0) → (¬ (zI σ 24 (Int32.toNatClampNeg v1)) = (-1 : Int32)) → ((zI σ 24 (Int32.toNatClampNeg v2)) = (-1 : Int32)) → (v1 = 0) → Q (uI (uI σ 24 (Int32.toNatClampNeg v2) ((zI σ 24 (Int32.toNatClampNeg v1)) + v3)) 25 (Int32.toNatClampNeg v2) (0 : Int32)) none)
    (k5 : (isWi v1 (0 : Int32) (8 : Int32)) → (isWi v2 (0 : Int32) (8 : Int32)) → (¬ v3 < 0) → (¬ (zI σ 24 (Int32.toNatClampNeg v1)) = (-1 : Int32)) → (¬ (zI σ 24 (Int32.toNatClampNeg v2)) = (-1 : Int32)) → ((zI σ 24 (Int32.toNatClampNeg v2)) ≤ ((zI σ 24 (Int32.toNatClampNeg v1)) + v3)) → Q σ none)
    (k6 : (isWi v1 (0 : Int32) (8 : Int32)) → (isWi v2 (0 : Int32) (8 : Int32)) → (¬ v3 < 0) → (¬ (zI σ 24 (Int32.toNatClampNeg v1)) = (-1 : Int32)) → (¬ (zI σ 24 (Int32.toNatClampNeg v2)) = (-1 : Int32)) → (¬ (zI σ 24 (Int32.toNatClampNeg v2)) ≤ ((zI σ 24 (Int32.toNatClampNeg v1)) + v3)) → (¬ v1 = 0) → Q (uI (uI σ 24 (Int32.toNatClampNeg v2) ((zI σ 24 (Int32.toNatClampNeg v1)) + v3)) 25 (Int32.toNatClampNeg v2) ((zI σ 25 (Int32.toNatClampNeg v1)) ||| ((1 : Int32) <<< (v1 &&& 31)))) none)
    (k7 : (isWi v1 (0 : Int32) (8 : Int32)) → (isWi v2 (0 : Int32) (8 : Int32)) → (¬ v3 < 0) → (¬ (zI σ 24 (Int32.toNatClampNeg v1)) = (-1 : Int32)) → (¬ (zI σ 24 (Int32.toNatClampNeg v2)) = (-1 : Int32)) → (¬ (zI σ 24 (Int32.toNatClampNeg v2)) ≤ ((zI σ 24 (Int32.toNatClampNeg v1)) + v3)) → (v1 = 0) → Q (uI (uI σ 24 (Int32.toNatClampNeg v2) ((zI σ 24 (Int32.toNatClampNeg v1)) + v3)) 25 (Int32.toNatClampNeg v2) (0 : Int32)) none)
    (k8 : (isWi v1 (0 : Int32) (8 : Int32)) → (isWi v2 (0 : Int32) (8 : Int32)) → (¬ v3 < 0) → ((zI σ 24 (Int32.toNatClampNeg v1)) = (-1 : Int32)) → Q σ none)
    (k9 : (isWi v1 (0 : Int32) (8 : Int32)) → (¬ (isWi v2 (0 : Int32) (8 : Int32))) → Q σ none) :
    V g mX10_goOn (Em g mX10_goOn Q X) CX 0 0 0 [(0, .ref 23), (1, .int v1), (2, .int v2), (3, .int v3)] [] σ := by
  refine V_iload_n dX10_goOn_0 rfl ?_
  refine V_iconst (0 : Int32) dX10_goOn_1 (by decide) ?_
  refine V_bipush (8 : Int32) dX10_goOn_2 (by decide) ?_
  refine V_callSN1 (as := [.int v1, .int (0 : Int32), .int (8 : Int32)]) (k' := 0) (n' := 0) (s_X11_isWithin) mw_X11_isWithin w_324 wn_669 ar_X11_isWithin rfl ⟨rfl, rfl, rfl, rfl, rfl⟩ dX10_goOn_4 ?_
  refine V_if_eq 20 dX10_goOn_7 rfl (fun c1 => ?_) (fun c1 => ?_)
  · replace c1 := jb_0.mp c1
    exact V_vret rfl dX10_goOn_20 (k1 c1)
  · replace c1 := jb_n.mp c1
    refine V_iload_n dX10_goOn_10 rfl ?_
    refine V_iconst (0 : Int32) dX10_goOn_11 (by decide) ?_
    refine V_bipush (8 : Int32) dX10_goOn_12 (by decide) ?_
    refine V_callSN1 (as := [.int v2, .int (0 : Int32), .int (8 : Int32)]) (k' := 0) (n' := 0) (s_X11_isWithin) mw_X11_isWithin w_324 wn_669 ar_X11_isWithin rfl ⟨rfl, rfl, rfl, rfl, rfl⟩ dX10_goOn_14 ?_
    refine V_if_ne 21 dX10_goOn_17 rfl (fun c2 => ?_) (fun c2 => ?_)
    · replace c2 := jb_n.mp c2
      refine V_iload_n dX10_goOn_21 rfl ?_
      refine V_if_lt 35 dX10_goOn_22 rfl (fun c3 => ?_) (fun c3 => ?_)
      · exact V_vret rfl dX10_goOn_35 (k2 c1 c2 c3)
      · refine V_aload_n dX10_goOn_25 rfl ?_
        refine V_getf (fk := 0) (Value.ref 24) ko_X10 rfl w_156 dX10_goOn_26 (by decide) (shk hS 23 rfl) (congrArg Value.ref (shr hS 23 0 24 (by decide))) ?_
        refine V_iload_n dX10_goOn_29 rfl ?_
        refine V_iald dX10_goOn_30 (by decide) (shk hS 24 rfl) (vp_l (n := 9) (shl hS 24 rfl) (o1 c1 c2 c3)) ?_
        refine V_iconst (-1 : Int32) dX10_goOn_31 (by decide) ?_
        refine V_icmp_ne 36 dX10_goOn_32 rfl (fun c4 => ?_) (fun c4 => ?_)
        · refine V_aload_n dX10_goOn_36 rfl ?_
          refine V_getf (fk := 0) (Value.ref 24) ko_X10 rfl w_156 dX10_goOn_37 (by decide) (shk hS 23 rfl) (congrArg Value.ref (shr hS 23 0 24 (by decide))) ?_
          refine V_iload_n dX10_goOn_40 rfl ?_
          refine V_iald dX10_goOn_41 (by decide) (shk hS 24 rfl) (vp_l (n := 9) (shl hS 24 rfl) (o1 c1 c2 c3)) ?_
          refine V_iload_n dX10_goOn_42 rfl ?_
          refine V_iadd dX10_goOn_43 ?_
          refine V_istore [(0, .ref 23), (1, .int v1), (2, .int v2), (3, .int v3), (4, .int ((zI σ 24 (Int32.toNatClampNeg v1)) + v3))] dX10_goOn_44 rfl rfl ?_
          refine V_aload_n dX10_goOn_46 rfl ?_
          refine V_getf (fk := 0) (Value.ref 24) ko_X10 rfl w_156 dX10_goOn_47 (by decide) (shk hS 23 rfl) (congrArg Value.ref (shr hS 23 0 24 (by decide))) ?_
          refine V_iload_n dX10_goOn_50 rfl ?_
          refine V_iald dX10_goOn_51 (by decide) (shk hS 24 rfl) (vp_l (n := 9) (shl hS 24 rfl) (o2 c1 c2 c3 c4)) ?_
          refine V_iconst (-1 : Int32) dX10_goOn_52 (by decide) ?_
          refine V_icmp_eq 67 dX10_goOn_53 rfl (fun c5 => ?_) (fun c5 => ?_)
          · refine V_aload_n dX10_goOn_67 rfl ?_
            refine V_getf (fk := 0) (Value.ref 24) ko_X10 rfl w_156 dX10_goOn_68 (by decide) (shk hS 23 rfl) (congrArg Value.ref (shr hS 23 0 24 (by decide))) ?_
            refine V_iload_n dX10_goOn_71 rfl ?_
            refine V_iload dX10_goOn_72 rfl ?_
            refine V_iast dX10_goOn_74 (by decide) (shk hS 24 rfl) (vp_l (n := 9) (shl hS 24 rfl) (o2 c1 c2 c3 c4)) ?_
            refine V_aload_n dX10_goOn_75 rfl ?_
            refine V_getf (fk := 1) (Value.ref 25) ko_X10 rfl w_157 dX10_goOn_76 (by decide) (shk (Sh_uI hS) 23 rfl) (congrArg Value.ref (shr (Sh_uI hS) 23 1 25 (by decide))) ?_
            refine V_iload_n dX10_goOn_79 rfl ?_
            refine V_iload_n dX10_goOn_80 rfl ?_
            refine V_if_ne 88 dX10_goOn_81 rfl (fun c6 => ?_) (fun c6 => ?_)
            · refine V_aload_n dX10_goOn_88 rfl ?_
              refine V_getf (fk := 1) (Value.ref 25) ko_X10 rfl w_157 dX10_goOn_89 (by decide) (shk (Sh_uI hS) 23 rfl) (congrArg Value.ref (shr (Sh_uI hS) 23 1 25 (by decide))) ?_
              refine V_iload_n dX10_goOn_92 rfl ?_
              refine V_iald dX10_goOn_93 (by decide) (shk (Sh_uI hS) 25 rfl) (vp_l (n := 9) (shl (Sh_uI hS) 25 rfl) (o1 c1 c2 c3)) ?_
              refine V_cast (st' := Value.int (zI σ 25 (Int32.toNatClampNeg v1)) :: [.int v2, .ref 25]) rfl (congrArg (fun q_ => Value.int q_ :: [.int v2, .ref 25]) (zI_oa _ _ _ _ _ _ (by decide))) rfl ?_
              refine V_iconst (1 : Int32) dX10_goOn_94 (by decide) ?_
              refine V_iload_n dX10_goOn_95 rfl ?_
              refine V_ishl dX10_goOn_96 ?_
              refine V_ior dX10_goOn_97 ?_
              refine V_iast dX10_goOn_98 (by decide) (shk (Sh_uI hS) 25 rfl) (vp_l (n := 9) (shl (Sh_uI hS) 25 rfl) (o2 c1 c2 c3 c4)) ?_
              exact V_vret rfl dX10_goOn_99 (k3 c1 c2 c3 c4 c5 c6)
            · refine V_iconst (0 : Int32) dX10_goOn_84 (by decide) ?_
              refine V_goto 98 dX10_goOn_85 rfl ?_
              refine V_iast dX10_goOn_98 (by decide) (shk (Sh_uI hS) 25 rfl) (vp_l (n := 9) (shl (Sh_uI hS) 25 rfl) (o2 c1 c2 c3 c4)) ?_
              exact V_vret rfl dX10_goOn_99 (k4 c1 c2 c3 c4 c5 c6)
          · refine V_iload dX10_goOn_56 rfl ?_
            refine V_aload_n dX10_goOn_58 rfl ?_
            refine V_getf (fk := 0) (Value.ref 24) ko_X10 rfl w_156 dX10_goOn_59 (by decide) (shk hS 23 rfl) (congrArg Value.ref (shr hS 23 0 24 (by decide))) ?_
            refine V_iload_n dX10_goOn_62 rfl ?_
            refine V_iald dX10_goOn_63 (by decide) (shk hS 24 rfl) (vp_l (n := 9) (shl hS 24 rfl) (o2 c1 c2 c3 c4)) ?_
            refine V_icmp_ge 99 dX10_goOn_64 rfl (fun c7 => ?_) (fun c7 => ?_)
            · exact V_vret rfl dX10_goOn_99 (k5 c1 c2 c3 c4 c5 c7)
            · refine V_aload_n dX10_goOn_67 rfl ?_
              refine V_getf (fk := 0) (Value.ref 24) ko_X10 rfl w_156 dX10_goOn_68 (by decide) (shk hS 23 rfl) (congrArg Value.ref (shr hS 23 0 24 (by decide))) ?_
              refine V_iload_n dX10_goOn_71 rfl ?_
              refine V_iload dX10_goOn_72 rfl ?_
              refine V_iast dX10_goOn_74 (by decide) (shk hS 24 rfl) (vp_l (n := 9) (shl hS 24 rfl) (o2 c1 c2 c3 c4)) ?_
              refine V_aload_n dX10_goOn_75 rfl ?_
              refine V_getf (fk := 1) (Value.ref 25) ko_X10 rfl w_157 dX10_goOn_76 (by decide) (shk (Sh_uI hS) 23 rfl) (congrArg Value.ref (shr (Sh_uI hS) 23 1 25 (by decide))) ?_
              refine V_iload_n dX10_goOn_79 rfl ?_
              refine V_iload_n dX10_goOn_80 rfl ?_
              refine V_if_ne 88 dX10_goOn_81 rfl (fun c8 => ?_) (fun c8 => ?_)
              · refine V_aload_n dX10_goOn_88 rfl ?_
                refine V_getf (fk := 1) (Value.ref 25) ko_X10 rfl w_157 dX10_goOn_89 (by decide) (shk (Sh_uI hS) 23 rfl) (congrArg Value.ref (shr (Sh_uI hS) 23 1 25 (by decide))) ?_
                refine V_iload_n dX10_goOn_92 rfl ?_
                refine V_iald dX10_goOn_93 (by decide) (shk (Sh_uI hS) 25 rfl) (vp_l (n := 9) (shl (Sh_uI hS) 25 rfl) (o1 c1 c2 c3)) ?_
                refine V_cast (st' := Value.int (zI σ 25 (Int32.toNatClampNeg v1)) :: [.int v2, .ref 25]) rfl (congrArg (fun q_ => Value.int q_ :: [.int v2, .ref 25]) (zI_oa _ _ _ _ _ _ (by decide))) rfl ?_
                refine V_iconst (1 : Int32) dX10_goOn_94 (by decide) ?_
                refine V_iload_n dX10_goOn_95 rfl ?_
                refine V_ishl dX10_goOn_96 ?_
                refine V_ior dX10_goOn_97 ?_
                refine V_iast dX10_goOn_98 (by decide) (shk (Sh_uI hS) 25 rfl) (vp_l (n := 9) (shl (Sh_uI hS) 25 rfl) (o2 c1 c2 c3 c4)) ?_
                exact V_vret rfl dX10_goOn_99 (k6 c1 c2 c3 c4 c5 c7 c8)
              · refine V_iconst (0 : Int32) dX10_goOn_84 (by decide) ?_
                refine V_goto 98 dX10_goOn_85 rfl ?_
                refine V_iast dX10_goOn_98 (by decide) (shk (Sh_uI hS) 25 rfl) (vp_l (n := 9) (shl (Sh_uI hS) 25 rfl) (o2 c1 c2 c3 c4)) ?_
                exact V_vret rfl dX10_goOn_99 (k7 c1 c2 c3 c4 c5 c7 c8)
        · exact V_vret rfl dX10_goOn_35 (k8 c1 c2 c3 c4)
    · replace c2 := jb_0.mp c2
      exact V_vret rfl dX10_goOn_20 (k9 c1 c2)

/-- a way goes on from the point i to the point t -/
def goH (σ : AH) (i t : Nat) (c : Int32) : AH :=
  if c < 0 ∨ zI σ 24 i = -1 then σ
  else if zI σ 24 t = -1 ∨ ¬ zI σ 24 t ≤ zI σ 24 i + c then uI (uI σ 24 t (zI σ 24 i + c)) 25 t (if i = 0 then 0 else zI σ 25 i ||| ((1 : Int32) <<< (nI i &&& 31)))
  else σ
theorem s_X10_goOn {g : GP} {σ : AH} {x y c : Int32} (hS : Sh σ) (hx : vp_in x 9) (hy : vp_in y 9) : Ct g mX10_goOn [.ref 23, .int x, .int y, .int c] σ (FQ (goH σ (ix x) (ix y) c) none) := by
  obtain ⟨i, hi, rfl⟩ := vp_in_of hx (by decide)
  obtain ⟨t, ht, rfl⟩ := vp_in_of hy (by decide)
  have ci : (nI i).toNatClampNeg = i := cl0 (by omega)
  have ct : (nI t).toNatClampNeg = t := cl0 (by omega)
  have wi : ∀ k, k < 9 → isWi (nI k) 0 8 := fun k hk => ⟨nI_nneg (by omega), fun q => absurd ((nI_ltI (a := 8) (by decide) (by omega)).mp q) (by omega)⟩
  have z0 : nI i = 0 ↔ i = 0 := nI_eq (a := i) (b := 0) (by omega) (by decide)
  refine Ct_of (by decide +kernel) rfl rfl (b_X10_goOn_0 hS (fun q => absurd (wi i hi) q) (fun _ _ c1 => ?_) (fun _ _ _ => hx) (fun _ _ _ _ => hy) (fun _ _ c1 c2 c3 c4 => ?_) (fun _ _ c1 c2 c3 c4 => ?_) (fun _ _ c1 c2 c3 c4 => ?_) (fun _ _ c1 c2 c3 c4 c5 => ?_) (fun _ _ c1 c2 c3 c4 c5 => ?_) (fun _ _ c1 c2 => ?_) (fun _ q => absurd (wi t ht) q))
  all_goals
    simp only [ix, ci, ct] at *
    refine ⟨?_, rfl⟩
    rw [goH]
  · rw [if_pos (Or.inl c1)]
  · rw [if_neg (fun q => q.elim c1 c2), if_pos (Or.inl c3), if_neg (fun q => c4 (z0.mpr q))]
  · rw [if_neg (fun q => q.elim c1 c2), if_pos (Or.inl c3), if_pos (z0.mp c4)]
  · rw [if_neg (fun q => q.elim c1 c2), if_neg (fun q => q.elim c3 (fun q => q c4))]
  · rw [if_neg (fun q => q.elim c1 c2), if_pos (Or.inr c4), if_neg (fun q => c5 (z0.mpr q))]
  · rw [if_neg (fun q => q.elim c1 c2), if_pos (Or.inr c4), if_pos (z0.mp c5)]
  · rw [if_pos (Or.inr c2)]
theorem Sh_goH {σ : AH} {i t : Nat} {c : Int32} (h : Sh σ) : Sh (goH σ i t c) := by
  unfold goH
  split
  · exact h
  · split
    · exact Sh_uI (Sh_uI h)
    · exact h
