/-! ===== the reference: clear, fails ===== -/
set_option maxRecDepth 100000 in
set_option maxHeartbeats 4000000 in
theorem b_X12_clear_0 {g : GP} {CX : State → Array Value → Prop} {E : ET}  {σ : AH}
    (hS : Sh σ)
    (k1 : V g mX12_clear E CX 0 0 17 [(0, .ref 33), (1, .int (0 : Int32))] [] (uI (uI σ 33 49 (0 : Int32)) 33 43 ((zI σ 33 43) + (1 : Int32)))) :
    V g mX12_clear E CX 0 0 0 [(0, .ref 33)] [] σ := by
  refine V_aload_n dX12_clear_0 rfl ?_
  refine V_iconst (0 : Int32) dX12_clear_1 (by decide) ?_
  refine V_puti (fk := 49) ko_X12 rfl w_1104 (Or.inl rfl) dX12_clear_2 rfl (by decide) (shk hS 33 rfl) ?_
  refine V_aload_n dX12_clear_5 rfl ?_
  refine V_dup dX12_clear_6 rfl ?_
  refine V_getf (fk := 43) (Value.int (zI σ 33 43)) ko_X12 rfl w_1098 dX12_clear_7 (by decide) (shk (Sh_uI hS) 33 rfl) (congrArg Value.int (zI_oth _ _ _ _ _ _ (by decide))) ?_
  refine V_iconst (1 : Int32) dX12_clear_10 (by decide) ?_
  refine V_iadd dX12_clear_11 ?_
  refine V_puti (fk := 43) ko_X12 rfl w_1098 (Or.inl rfl) dX12_clear_12 rfl (by decide) (shk (Sh_uI hS) 33 rfl) ?_
  refine V_iconst (0 : Int32) dX12_clear_15 (by decide) ?_
  refine V_istore_n [(0, .ref 33), (1, .int (0 : Int32))] dX12_clear_16 rfl rfl ?_
  exact k1
set_option maxRecDepth 100000 in
set_option maxHeartbeats 4000000 in
theorem b_X12_clear_17 {g : GP} {CX : State → Array Value → Prop} {E : ET} {v1 : Int32} {σ : AH}
    (hS : Sh σ)
    (k1 : ((5 : Int32) ≤ v1) → V g mX12_clear E CX 0 0 37 [(0, .ref 33), (1, .int (0 : Int32))] [] σ)
    (o1 : (¬ (5 : Int32) ≤ v1) → vp_in v1 5)
    (k2 : (¬ (5 : Int32) ≤ v1) → V g mX12_clear E CX 0 0 17 [(0, .ref 33), (1, .int (v1 + (1 : Int32)))] [] (uJ σ 69 (Int32.toNatClampNeg v1) (0 : Int64))) :
    V g mX12_clear E CX 0 0 17 [(0, .ref 33), (1, .int v1)] [] σ := by
  refine V_iload_n dX12_clear_17 rfl ?_
  refine V_iconst (5 : Int32) dX12_clear_18 (by decide) ?_
  refine V_icmp_ge 35 dX12_clear_19 rfl (fun c1 => ?_) (fun c1 => ?_)
  · refine V_iconst (0 : Int32) dX12_clear_35 (by decide) ?_
    refine V_istore_n [(0, .ref 33), (1, .int (0 : Int32))] dX12_clear_36 rfl rfl ?_
    exact (k1 c1)
  · refine V_aload_n dX12_clear_22 rfl ?_
    refine V_getf (fk := 45) (Value.ref 69) ko_X12 rfl w_1100 dX12_clear_23 (by decide) (shk hS 33 rfl) (congrArg Value.ref (shr hS 33 45 69 (by decide))) ?_
    refine V_iload_n dX12_clear_26 rfl ?_
    refine V_lconst (0 : Int64) dX12_clear_27 (by decide) ?_
    refine V_last dX12_clear_28 (by decide) (shk hS 69 rfl) (vp_l (n := 5) (shl hS 69 rfl) (o1 c1)) ?_
    refine V_iinc (v1 + (1 : Int32)) [(0, .ref 33), (1, .int (v1 + (1 : Int32)))] dX12_clear_29 rfl rfl rfl rfl ?_
    refine V_goto 17 dX12_clear_32 rfl ?_
    exact (k2 c1)
set_option maxRecDepth 100000 in
set_option maxHeartbeats 4000000 in
theorem b_X12_clear_37 {g : GP} {CX : State → Array Value → Prop} {E : ET} {v1 : Int32} {σ : AH}
    (hS : Sh σ)
    (k1 : ((zI σ 33 36) ≤ v1) → V g mX12_clear E CX 0 0 107 [(0, .ref 33), (1, .long (0 : Int64)), (3, .int (0 : Int32))] [] σ)
    (o1 : (¬ (zI σ 33 36) ≤ v1) → vp_in v1 240)
    (o2 : (¬ (zI σ 33 36) ≤ v1) → ((zI σ 62 (Int32.toNatClampNeg v1)) = 0) → vp_in (zI σ 64 (Int32.toNatClampNeg v1)) 5)
    (k2 : (¬ (zI σ 33 36) ≤ v1) → ((zI σ 62 (Int32.toNatClampNeg v1)) = 0) → (¬ (zI σ 68 (Int32.toNatClampNeg (zI σ 64 (Int32.toNatClampNeg v1)))) = 0) → V g mX12_clear E CX 0 0 97 [(0, .ref 33), (1, .int v1)] [] σ)
    (o3 : (¬ (zI σ 33 36) ≤ v1) → ((zI σ 62 (Int32.toNatClampNeg v1)) = 0) → ((zI σ 68 (Int32.toNatClampNeg (zI σ 64 (Int32.toNatClampNeg v1)))) = 0) → vp_in (zI σ 65 (Int32.toNatClampNeg v1)) 5)
    (k3 : (¬ (zI σ 33 36) ≤ v1) → ((zI σ 62 (Int32.toNatClampNeg v1)) = 0) → ((zI σ 68 (Int32.toNatClampNeg (zI σ 64 (Int32.toNatClampNeg v1)))) = 0) → (¬ (zI σ 68 (Int32.toNatClampNeg (zI σ 65 (Int32.toNatClampNeg v1)))) = 0) → V g mX12_clear E CX 0 0 97 [(0, .ref 33), (1, .int v1)] [] σ)
    (o4 : (¬ (zI σ 33 36) ≤ v1) → ((zI σ 62 (Int32.toNatClampNeg v1)) = 0) → ((zI σ 68 (Int32.toNatClampNeg (zI σ 64 (Int32.toNatClampNeg v1)))) = 0) → ((zI σ 68 (Int32.toNatClampNeg (zI σ 65 (Int32.toNatClampNeg v1)))) = 0) → vp_in (zI σ 64 (ix v1)) 5)
    (o5 : (¬ (zI σ 33 36) ≤ v1) → ((zI σ 62 (Int32.toNatClampNeg v1)) = 0) → ((zI σ 68 (Int32.toNatClampNeg (zI σ 64 (Int32.toNatClampNeg v1)))) = 0) → ((zI σ 68 (Int32.toNatClampNeg (zI σ 65 (Int32.toNatClampNeg v1)))) = 0) → vp_in (zI σ 65 (ix v1)) 5)
    (k4 : (¬ (zI σ 33 36) ≤ v1) → ((zI σ 62 (Int32.toNatClampNeg v1)) = 0) → ((zI σ 68 (Int32.toNatClampNeg (zI σ 64 (Int32.toNatClampNeg v1)))) = 0) → ((zI σ 68 (Int32.toNatClampNeg (zI σ 65 (Int32.toNatClampNeg v1)))) = 0) → V g mX12_clear E CX 0 0 97 [(0, .ref 33), (1, .int v1)] [] (stH σ (ix v1)))
    (k5 : (¬ (zI σ 33 36) ≤ v1) → (¬ (zI σ 62 (Int32.toNatClampNeg v1)) = 0) → (¬ (zI σ 62 (Int32.toNatClampNeg v1)) = (2 : Int32)) → V g mX12_clear E CX 0 0 97 [(0, .ref 33), (1, .int v1)] [] σ)
    (o6 : (¬ (zI σ 33 36) ≤ v1) → (¬ (zI σ 62 (Int32.toNatClampNeg v1)) = 0) → ((zI σ 62 (Int32.toNatClampNeg v1)) = (2 : Int32)) → vp_in (zI σ 64 (Int32.toNatClampNeg v1)) 5)
    (k6 : (¬ (zI σ 33 36) ≤ v1) → (¬ (zI σ 62 (Int32.toNatClampNeg v1)) = 0) → ((zI σ 62 (Int32.toNatClampNeg v1)) = (2 : Int32)) → (¬ (zI σ 68 (Int32.toNatClampNeg (zI σ 64 (Int32.toNatClampNeg v1)))) = 0) → V g mX12_clear E CX 0 0 97 [(0, .ref 33), (1, .int v1)] [] σ)
    (o7 : (¬ (zI σ 33 36) ≤ v1) → (¬ (zI σ 62 (Int32.toNatClampNeg v1)) = 0) → ((zI σ 62 (Int32.toNatClampNeg v1)) = (2 : Int32)) → ((zI σ 68 (Int32.toNatClampNeg (zI σ 64 (Int32.toNatClampNeg v1)))) = 0) → vp_in (zI σ 65 (Int32.toNatClampNeg v1)) 5)
    (k7 : (¬ (zI σ 33 36) ≤ v1) → (¬ (zI σ 62 (Int32.toNatClampNeg v1)) = 0) → ((zI σ 62 (Int32.toNatClampNeg v1)) = (2 : Int32)) → ((zI σ 68 (Int32.toNatClampNeg (zI σ 64 (Int32.toNatClampNeg v1)))) = 0) → (¬ (zI σ 68 (Int32.toNatClampNeg (zI σ 65 (Int32.toNatClampNeg v1)))) = 0) → V g mX12_clear E CX 0 0 97 [(0, .ref 33), (1, .int v1)] [] σ)
    (o8 : (¬ (zI σ 33 36) ≤ v1) → (¬ (zI σ 62 (Int32.toNatClampNeg v1)) = 0) → ((zI σ 62 (Int32.toNatClampNeg v1)) = (2 : Int32)) → ((zI σ 68 (Int32.toNatClampNeg (zI σ 64 (Int32.toNatClampNeg v1)))) = 0) → ((zI σ 68 (Int32.toNatClampNeg (zI σ 65 (Int32.toNatClampNeg v1)))) = 0) → vp_in (zI σ 64 (ix v1)) 5)
    (o9 : (¬ (zI σ 33 36) ≤ v1) → (¬ (zI σ 62 (Int32.toNatClampNeg v1)) = 0) → ((zI σ 62 (Int32.toNatClampNeg v1)) = (2 : Int32)) → ((zI σ 68 (Int32.toNatClampNeg (zI σ 64 (Int32.toNatClampNeg v1)))) = 0) → ((zI σ 68 (Int32.toNatClampNeg (zI σ 65 (Int32.toNatClampNeg v1)))) = 0) → vp_in (zI σ 65 (ix v1)) 5)
    (k8 : (¬ (zI σ 33 36) ≤ v1) → (¬ (zI σ 62 (Int32.toNatClampNeg v1)) = 0) → ((zI σ 62 (Int32.toNatClampNeg v1)) = (2 : Int32)) → ((zI σ 68 (Int32.toNatClampNeg (zI σ 64 (Int32.toNatClampNeg v1)))) = 0) → ((zI σ 68 (Int32.toNatClampNeg (zI σ 65 (Int32.toNatClampNeg v1)))) = 0) → V g mX12_clear E CX 0 0 97 [(0, .ref 33), (1, .int v1)] [] (stH σ (ix v1))) :
    V g mX12_clear E CX 0 0 37 [(0, .ref 33), (1, .int v1)] [] σ := by
  refine V_iload_n dX12_clear_37 rfl ?_
  refine V_aload_n dX12_clear_38 rfl ?_
  refine V_getf (fk := 36) (Value.int (zI σ 33 36)) ko_X12 rfl w_1091 dX12_clear_39 (by decide) (shk hS 33 rfl) rfl ?_
  refine V_icmp_ge 103 dX12_clear_42 rfl (fun c1 => ?_) (fun c1 => ?_)
  · refine V_lconst (0 : Int64) dX12_clear_103 (by decide) ?_
    refine V_lstore_n [(0, .ref 33), (1, .long (0 : Int64))] dX12_clear_104 rfl rfl ?_
    refine V_iconst (0 : Int32) dX12_clear_105 (by decide) ?_
    refine V_istore_n [(0, .ref 33), (1, .long (0 : Int64)), (3, .int (0 : Int32))] dX12_clear_106 rfl rfl ?_
    exact (k1 c1)
  · refine V_aload_n dX12_clear_45 rfl ?_
    refine V_getf (fk := 37) (Value.ref 62) ko_X12 rfl w_1092 dX12_clear_46 (by decide) (shk hS 33 rfl) (congrArg Value.ref (shr hS 33 37 62 (by decide))) ?_
    refine V_iload_n dX12_clear_49 rfl ?_
    refine V_iald dX12_clear_50 (by decide) (shk hS 62 rfl) (vp_l (n := 240) (shl hS 62 rfl) (o1 c1)) ?_
    refine V_if_eq 64 dX12_clear_51 rfl (fun c2 => ?_) (fun c2 => ?_)
    · refine V_aload_n dX12_clear_64 rfl ?_
      refine V_getf (fk := 44) (Value.ref 68) ko_X12 rfl w_1099 dX12_clear_65 (by decide) (shk hS 33 rfl) (congrArg Value.ref (shr hS 33 44 68 (by decide))) ?_
      refine V_aload_n dX12_clear_68 rfl ?_
      refine V_getf (fk := 39) (Value.ref 64) ko_X12 rfl w_1094 dX12_clear_69 (by decide) (shk hS 33 rfl) (congrArg Value.ref (shr hS 33 39 64 (by decide))) ?_
      refine V_iload_n dX12_clear_72 rfl ?_
      refine V_iald dX12_clear_73 (by decide) (shk hS 64 rfl) (vp_l (n := 240) (shl hS 64 rfl) (o1 c1)) ?_
      refine V_zald dX12_clear_74 (by decide) (shk hS 68 rfl) (vp_l (n := 5) (shl hS 68 rfl) (o2 c1 c2)) ?_
      refine V_if_ne 97 dX12_clear_75 rfl (fun c3 => ?_) (fun c3 => ?_)
      · exact (k2 c1 c2 c3)
      · refine V_aload_n dX12_clear_78 rfl ?_
        refine V_getf (fk := 44) (Value.ref 68) ko_X12 rfl w_1099 dX12_clear_79 (by decide) (shk hS 33 rfl) (congrArg Value.ref (shr hS 33 44 68 (by decide))) ?_
        refine V_aload_n dX12_clear_82 rfl ?_
        refine V_getf (fk := 40) (Value.ref 65) ko_X12 rfl w_1095 dX12_clear_83 (by decide) (shk hS 33 rfl) (congrArg Value.ref (shr hS 33 40 65 (by decide))) ?_
        refine V_iload_n dX12_clear_86 rfl ?_
        refine V_iald dX12_clear_87 (by decide) (shk hS 65 rfl) (vp_l (n := 240) (shl hS 65 rfl) (o1 c1)) ?_
        refine V_zald dX12_clear_88 (by decide) (shk hS 68 rfl) (vp_l (n := 5) (shl hS 68 rfl) (o3 c1 c2 c3)) ?_
        refine V_if_ne 97 dX12_clear_89 rfl (fun c4 => ?_) (fun c4 => ?_)
        · exact (k3 c1 c2 c3 c4)
        · refine V_aload_n dX12_clear_92 rfl ?_
          refine V_iload_n dX12_clear_93 rfl ?_
          refine V_callV0 (as := [.int v1]) (k' := 0) (n' := 0) (s_X12_settles hS (o1 c1) (o4 c1 c2 c3 c4) (o5 c1 c2 c3 c4)) mw_X12_settles ko_X12 rfl w_1394 w_41 w_1392 ar_X12_settles rfl ⟨rfl, rfl, rfl, rfl, rfl⟩ dX12_clear_94 (by decide) (shk hS 33 rfl) ?_
          exact (k4 c1 c2 c3 c4)
    · refine V_aload_n dX12_clear_54 rfl ?_
      refine V_getf (fk := 37) (Value.ref 62) ko_X12 rfl w_1092 dX12_clear_55 (by decide) (shk hS 33 rfl) (congrArg Value.ref (shr hS 33 37 62 (by decide))) ?_
      refine V_iload_n dX12_clear_58 rfl ?_
      refine V_iald dX12_clear_59 (by decide) (shk hS 62 rfl) (vp_l (n := 240) (shl hS 62 rfl) (o1 c1)) ?_
      refine V_iconst (2 : Int32) dX12_clear_60 (by decide) ?_
      refine V_icmp_ne 97 dX12_clear_61 rfl (fun c5 => ?_) (fun c5 => ?_)
      · exact (k5 c1 c2 c5)
      · refine V_aload_n dX12_clear_64 rfl ?_
        refine V_getf (fk := 44) (Value.ref 68) ko_X12 rfl w_1099 dX12_clear_65 (by decide) (shk hS 33 rfl) (congrArg Value.ref (shr hS 33 44 68 (by decide))) ?_
        refine V_aload_n dX12_clear_68 rfl ?_
        refine V_getf (fk := 39) (Value.ref 64) ko_X12 rfl w_1094 dX12_clear_69 (by decide) (shk hS 33 rfl) (congrArg Value.ref (shr hS 33 39 64 (by decide))) ?_
        refine V_iload_n dX12_clear_72 rfl ?_
        refine V_iald dX12_clear_73 (by decide) (shk hS 64 rfl) (vp_l (n := 240) (shl hS 64 rfl) (o1 c1)) ?_
        refine V_zald dX12_clear_74 (by decide) (shk hS 68 rfl) (vp_l (n := 5) (shl hS 68 rfl) (o6 c1 c2 c5)) ?_
        refine V_if_ne 97 dX12_clear_75 rfl (fun c6 => ?_) (fun c6 => ?_)
        · exact (k6 c1 c2 c5 c6)
        · refine V_aload_n dX12_clear_78 rfl ?_
          refine V_getf (fk := 44) (Value.ref 68) ko_X12 rfl w_1099 dX12_clear_79 (by decide) (shk hS 33 rfl) (congrArg Value.ref (shr hS 33 44 68 (by decide))) ?_
          refine V_aload_n dX12_clear_82 rfl ?_
          refine V_getf (fk := 40) (Value.ref 65) ko_X12 rfl w_1095 dX12_clear_83 (by decide) (shk hS 33 rfl) (congrArg Value.ref (shr hS 33 40 65 (by decide))) ?_
          refine V_iload_n dX12_clear_86 rfl ?_
          refine V_iald dX12_clear_87 (by decide) (shk hS 65 rfl) (vp_l (n := 240) (shl hS 65 rfl) (o1 c1)) ?_
          refine V_zald dX12_clear_88 (by decide) (shk hS 68 rfl) (vp_l (n := 5) (shl hS 68 rfl) (o7 c1 c2 c5 c6)) ?_
          refine V_if_ne 97 dX12_clear_89 rfl (fun c7 => ?_) (fun c7 => ?_)
          · exact (k7 c1 c2 c5 c6 c7)
          · refine V_aload_n dX12_clear_92 rfl ?_
            refine V_iload_n dX12_clear_93 rfl ?_
            refine V_callV0 (as := [.int v1]) (k' := 0) (n' := 0) (s_X12_settles hS (o1 c1) (o8 c1 c2 c5 c6 c7) (o9 c1 c2 c5 c6 c7)) mw_X12_settles ko_X12 rfl w_1394 w_41 w_1392 ar_X12_settles rfl ⟨rfl, rfl, rfl, rfl, rfl⟩ dX12_clear_94 (by decide) (shk hS 33 rfl) ?_
            exact (k8 c1 c2 c5 c6 c7)
set_option maxRecDepth 100000 in
set_option maxHeartbeats 4000000 in
theorem b_X12_clear_97 {g : GP} {CX : State → Array Value → Prop} {E : ET} {v1 : Int32} {σ : AH}
    (k1 : V g mX12_clear E CX 0 0 37 [(0, .ref 33), (1, .int (v1 + (1 : Int32)))] [] σ) :
    V g mX12_clear E CX 0 0 97 [(0, .ref 33), (1, .int v1)] [] σ := by
  refine V_iinc (v1 + (1 : Int32)) [(0, .ref 33), (1, .int (v1 + (1 : Int32)))] dX12_clear_97 rfl rfl rfl rfl ?_
  refine V_goto 37 dX12_clear_100 rfl ?_
  exact k1
set_option maxRecDepth 100000 in
set_option maxHeartbeats 4000000 in
theorem b_X12_clear_107 {g : GP} {CX : State → Array Value → Prop} {Q : AH → Option Value → Prop} {X : AH → String → Prop} {v1 : Int64} {v3 : Int32} {σ : AH}
    (hS : Sh σ)
    (k1 : ((5 : Int32) ≤ v3) → Q σ (some (.long v1)))
    (o1 : (¬ (5 : Int32) ≤ v3) → vp_in v3 5)
    (k2 : (¬ (5 : Int32) ≤ v3) → ((lg_cmp (zJ σ 69 (Int32.toNatClampNeg v3)) (0 : Int64)) ≤ 0) → V g mX12_clear (Em g mX12_clear Q X) CX 0 0 107 [(0, .ref 33), (1, .long (v1 + (0 : Int64))), (3, .int (v3 + (1 : Int32)))] [] σ)
    (k3 : (¬ (5 : Int32) ≤ v3) → (¬ (lg_cmp (zJ σ 69 (Int32.toNatClampNeg v3)) (0 : Int64)) ≤ 0) → V g mX12_clear (Em g mX12_clear Q X) CX 0 0 107 [(0, .ref 33), (1, .long (v1 + (zJ σ 69 (Int32.toNatClampNeg v3)))), (3, .int (v3 + (1 : Int32)))] [] σ) :
    V g mX12_clear (Em g mX12_clear Q X) CX 0 0 107 [(0, .ref 33), (1, .long v1), (3, .int v3)] [] σ := by
  refine V_iload_n dX12_clear_107 rfl ?_
  refine V_iconst (5 : Int32) dX12_clear_108 (by decide) ?_
  refine V_icmp_ge 142 dX12_clear_109 rfl (fun c1 => ?_) (fun c1 => ?_)
  · refine V_lload_n dX12_clear_142 rfl ?_
    exact V_lret rfl dX12_clear_143 (k1 c1)
  · refine V_lload_n dX12_clear_112 rfl ?_
    refine V_aload_n dX12_clear_113 rfl ?_
    refine V_getf (fk := 45) (Value.ref 69) ko_X12 rfl w_1100 dX12_clear_114 (by decide) (shk hS 33 rfl) (congrArg Value.ref (shr hS 33 45 69 (by decide))) ?_
    refine V_iload_n dX12_clear_117 rfl ?_
    refine V_lald dX12_clear_118 (by decide) (shk hS 69 rfl) (vp_l (n := 5) (shl hS 69 rfl) (o1 c1)) ?_
    refine V_lconst (0 : Int64) dX12_clear_119 (by decide) ?_
    refine V_lcmp dX12_clear_120 ?_
    refine V_if_le 133 dX12_clear_121 rfl (fun c2 => ?_) (fun c2 => ?_)
    · refine V_lconst (0 : Int64) dX12_clear_133 (by decide) ?_
      refine V_ladd dX12_clear_134 ?_
      refine V_lstore_n [(0, .ref 33), (1, .long (v1 + (0 : Int64))), (3, .int v3)] dX12_clear_135 rfl rfl ?_
      refine V_iinc (v3 + (1 : Int32)) [(0, .ref 33), (1, .long (v1 + (0 : Int64))), (3, .int (v3 + (1 : Int32)))] dX12_clear_136 rfl rfl rfl rfl ?_
      refine V_goto 107 dX12_clear_139 rfl ?_
      exact (k2 c1 c2)
    · refine V_aload_n dX12_clear_124 rfl ?_
      refine V_getf (fk := 45) (Value.ref 69) ko_X12 rfl w_1100 dX12_clear_125 (by decide) (shk hS 33 rfl) (congrArg Value.ref (shr hS 33 45 69 (by decide))) ?_
      refine V_iload_n dX12_clear_128 rfl ?_
      refine V_lald dX12_clear_129 (by decide) (shk hS 69 rfl) (vp_l (n := 5) (shl hS 69 rfl) (o1 c1)) ?_
      refine V_goto 134 dX12_clear_130 rfl ?_
      refine V_ladd dX12_clear_134 ?_
      refine V_lstore_n [(0, .ref 33), (1, .long (v1 + (zJ σ 69 (Int32.toNatClampNeg v3)))), (3, .int v3)] dX12_clear_135 rfl rfl ?_
      refine V_iinc (v3 + (1 : Int32)) [(0, .ref 33), (1, .long (v1 + (zJ σ 69 (Int32.toNatClampNeg v3)))), (3, .int (v3 + (1 : Int32)))] dX12_clear_136 rfl rfl rfl rfl ?_
      refine V_goto 107 dX12_clear_139 rfl ?_
      exact (k3 c1 c2)

def znH (σ : AH) (d : Nat) : AH := s2 σ (zI σ) (fun a c => if a = 69 ∧ c < d then 0 else zJ σ a c)
/-- which bills are settled -/
def clC (σ : AH) (b : Nat) : Prop := (zI σ 62 b = 0 ∨ zI σ 62 b = 2) ∧ zI σ 68 (ix (zI σ 64 b)) = 0 ∧ zI σ 68 (ix (zI σ 65 b)) = 0
noncomputable def dlS (C : Nat → Prop) (f : Nat → Nat → Int64) : Nat → Nat → Int64
  | 0, _ => 0
  | d + 1, c => dlS C f d c + @ite _ (C d) (Classical.propDecidable _) (f d c) 0
theorem dlS_y {C : Nat → Prop} {f : Nat → Nat → Int64} {d c : Nat} (h : C d) : dlS C f (d + 1) c = dlS C f d c + f d c := by rw [dlS, if_pos h]
theorem dlS_n {C : Nat → Prop} {f : Nat → Nat → Int64} {d c : Nat} (h : ¬ C d) : dlS C f (d + 1) c = dlS C f d c := by rw [dlS, if_neg h]; simp
/-- so many bills are done: those of C stand anew, by the settled number v, and money moved -/
noncomputable def blS (σ : AH) (C : Nat → Prop) (st : Nat → Int32) (v : Int32) (f : Nat → Nat → Int64) (d : Nat) : AH :=
  s2 σ (fun a j => @ite _ (a = 67 ∧ j < d ∧ C j) (Classical.propDecidable _) v (@ite _ (a = 62 ∧ j < d ∧ C j) (Classical.propDecidable _) (st j) (zI σ a j))) (fun a c => if a = 69 ∨ a = 70 then zJ σ a c + dlS C f d c else zJ σ a c)
theorem blS_I {σ : AH} {C : Nat → Prop} {st : Nat → Int32} {v : Int32} {f : Nat → Nat → Int64} {d a j : Nat} (h : ¬ ((a = 62 ∨ a = 67) ∧ j < d)) : zI (blS σ C st v f d) a j = zI σ a j := by
  rw [blS, zI_s2, if_neg (fun q => h ⟨Or.inr q.1, q.2.1⟩), if_neg (fun q => h ⟨Or.inl q.1, q.2.1⟩)]
theorem blS_0 {σ : AH} {C : Nat → Prop} {st : Nat → Int32} {v : Int32} {f : Nat → Nat → Int64} : blS σ C st v f 0 = σ := by
  refine Eq.trans ?_ (s2_self σ)
  refine s2_cg (fun a j => ?_) (fun a c => ?_)
  · rw [if_neg (by omega), if_neg (by omega)]
  · rw [dlS]; split <;> simp
theorem blS_n {σ : AH} {C : Nat → Prop} {st : Nat → Int32} {v : Int32} {f : Nat → Nat → Int64} {d : Nat} (h : ¬ C d) : blS σ C st v f (d + 1) = blS σ C st v f d := by
  refine s2_cg (fun a j => ?_) (fun a c => ?_)
  · have e : ∀ x, (a = x ∧ j < d + 1 ∧ C j) ↔ (a = x ∧ j < d ∧ C j) := fun x => ⟨fun q => ⟨q.1, by
      rcases Nat.lt_or_ge j d with h6 | h6
      · exact h6
      · exact absurd q.2.2 (by rw [show j = d by omega]; exact h), q.2.2⟩, fun q => ⟨q.1, by omega, q.2.2⟩⟩
    by_cases h1 : a = 67 ∧ j < d ∧ C j
    · rw [if_pos h1, if_pos ((e 67).mpr h1)]
    · rw [if_neg h1, if_neg (fun q => h1 ((e 67).mp q))]
      by_cases h2 : a = 62 ∧ j < d ∧ C j
      · rw [if_pos h2, if_pos ((e 62).mpr h2)]
      · rw [if_neg h2, if_neg (fun q => h2 ((e 62).mp q))]
  · rw [dlS_n h]
theorem blS_y {σ : AH} {C : Nat → Prop} {st : Nat → Int32} {v : Int32} {f : Nat → Nat → Int64} {d : Nat} (h : C d) :
    s2 (blS σ C st v f d) (fun a j => if a = 67 ∧ j = d then v else if a = 62 ∧ j = d then st d else zI (blS σ C st v f d) a j) (fun a c => if a = 69 ∨ a = 70 then zJ (blS σ C st v f d) a c + f d c else zJ (blS σ C st v f d) a c) = blS σ C st v f (d + 1) := by
  refine s2_cg (σ := σ) (fun a j => ?_) (fun a c => ?_)
  · by_cases h1 : a = 67 ∧ j = d
    · rw [if_pos h1, if_pos ⟨h1.1, by omega, by rw [h1.2]; exact h⟩]
    · rw [if_neg h1]
      by_cases h2 : a = 62 ∧ j = d
      · rw [if_pos h2, if_neg (by omega), if_pos ⟨h2.1, by omega, by rw [h2.2]; exact h⟩, h2.2]
      · rw [if_neg h2, blS, zI_s2]
        by_cases h3 : a = 67 ∧ j < d ∧ C j
        · rw [if_pos h3, if_pos ⟨h3.1, by omega, h3.2.2⟩]
        · rw [if_neg h3, if_neg (show ¬ (a = 67 ∧ j < d + 1 ∧ C j) from fun q => h3 ⟨q.1, by omega, q.2.2⟩)]
          by_cases h4 : a = 62 ∧ j < d ∧ C j
          · rw [if_pos h4, if_pos ⟨h4.1, by omega, h4.2.2⟩]
          · rw [if_neg h4, if_neg (fun q => h4 ⟨q.1, by omega, q.2.2⟩)]
  · rw [dlS_y h, blS, zJ_s2]
    split
    · grind
    · rfl
theorem Sh_blS {σ : AH} {C : Nat → Prop} {st : Nat → Int32} {v : Int32} {f : Nat → Nat → Int64} {d : Nat} (h : Sh σ) : Sh (blS σ C st v f d) := h
/-- what clears above zero, together -/
def scS (f : Nat → Int64) : Nat → Int64
  | 0 => 0
  | d + 1 => scS f d + (if lg_cmp (f d) 0 ≤ 0 then 0 else f d)
def clA (σ : AH) : AH := znH (uI (uI σ 33 49 0) 33 43 (zI σ 33 43 + 1)) 5
noncomputable def clE (σ : AH) : AH := blS (clA σ) (clC σ) (stS σ) (zI σ 33 43 + 1) (sdG σ) (ix (zI σ 33 36))
theorem clA_I {σ : AH} {a j : Nat} (h : ¬ (a = 33 ∧ (j = 43 ∨ j = 49))) : zI (clA σ) a j = zI σ a j := by
  rw [clA, znH, zI_s2, zI_uI, if_neg (by omega), zI_uI, if_neg (by omega)]
theorem s_X12_clear {g : GP} {σ : AH} (hS : Sh σ) (hB : vp_in (zI σ 33 36) 241) (hR : ∀ b, b < ix (zI σ 33 36) → vp_in (zI σ 64 b) 5 ∧ vp_in (zI σ 65 b) 5) : Ct g mX12_clear [.ref 33] σ (FQ (clE σ) (some (.long (scS (fun c => zJ (clE σ) 69 c) 5)))) := by
  obtain ⟨n, hn, e⟩ := vp_in_of hB (by decide)
  have en : ix (zI σ 33 36) = n := by rw [ix, e, cl0 (by omega)]
  rw [en] at hR
  refine Ct_of (by decide +kernel) rfl rfl (b_X12_clear_0 hS ?_)
  have i1 : uI (uI σ 33 49 0) 33 43 (zI σ 33 43 + 1) = znH (uI (uI σ 33 49 0) 33 43 (zI σ 33 43 + 1)) 0 :=
    (s2_self _).symm.trans (s2_cg (fun _ _ => rfl) (fun a c => by rw [if_neg (by omega)]))
  refine V_cast rfl rfl i1 (up_loop (P := fun d => V g mX12_clear (Em g mX12_clear (FQ (clE σ) (some (.long (scS (fun c => zJ (clE σ) 69 c) 5)))) NX) CT 0 0 17 [(0, .ref 33), (1, .int (nI d))] [] (znH (uI (uI σ 33 49 0) 33 43 (zI σ 33 43 + 1)) d)) 5 ?_ ?_ 0 (by decide))
  · have hle : (5 : Int32) ≤ nI 5 := Int32.le_refl _
    refine b_X12_clear_17 (σ := clA σ) hS (fun _ => ?_) (fun c => absurd hle c) (fun c => absurd hle c)
    have hE : clE σ = blS (clA σ) (clC σ) (stS σ) (zI σ 33 43 + 1) (sdG σ) n := by rw [clE, en]
    have e36 : ∀ d, zI (blS (clA σ) (clC σ) (stS σ) (zI σ 33 43 + 1) (sdG σ) d) 33 36 = nI n := fun d => by
      rw [blS_I (by omega), clA_I (by omega)]; exact e
    refine V_cast rfl rfl blS_0.symm (up_loop (P := fun d => V g mX12_clear (Em g mX12_clear (FQ (clE σ) (some (.long (scS (fun c => zJ (clE σ) 69 c) 5)))) NX) CT 0 0 37 [(0, .ref 33), (1, .int (nI d))] [] (blS (clA σ) (clC σ) (stS σ) (zI σ 33 43 + 1) (sdG σ) d)) n ?_ ?_ 0 (Nat.zero_le _))
    · have hle : zI (blS (clA σ) (clC σ) (stS σ) (zI σ 33 43 + 1) (sdG σ) n) 33 36 ≤ nI n := by rw [e36]; exact Int32.le_refl _
      refine b_X12_clear_37 (σ := blS (clA σ) (clC σ) (stS σ) (zI σ 33 43 + 1) (sdG σ) n) hS (fun _ => ?_) (fun c => absurd hle c) (fun c => absurd hle c) (fun c => absurd hle c) (fun c => absurd hle c) (fun c => absurd hle c) (fun c => absurd hle c) (fun c => absurd hle c) (fun c => absurd hle c) (fun c => absurd hle c) (fun c => absurd hle c) (fun c => absurd hle c) (fun c => absurd hle c) (fun c => absurd hle c) (fun c => absurd hle c) (fun c => absurd hle c) (fun c => absurd hle c)
      rw [← hE]
      refine up_loop (P := fun d => V g mX12_clear (Em g mX12_clear (FQ (clE σ) (some (.long (scS (fun c => zJ (clE σ) 69 c) 5)))) NX) CT 0 0 107 [(0, .ref 33), (1, .long (scS (fun c => zJ (clE σ) 69 c) d)), (3, .int (nI d))] [] (clE σ)) 5 ?_ ?_ 0 (by decide)
      · have hle : (5 : Int32) ≤ nI 5 := Int32.le_refl _
        exact b_X12_clear_107 hS (fun _ => fq) (fun c => absurd hle c) (fun c => absurd hle c) (fun c => absurd hle c)
      · intro d hd ih
        have hlt : ¬ (5 : Int32) ≤ nI d := nI_ge (a := d) (b := 5) hd (by decide)
        have hc : (nI d).toNatClampNeg = d := cl0 (by omega)
        rw [← nI_1] at ih
        refine b_X12_clear_107 hS (fun c => absurd c hlt) (fun _ => vp_in_nI (by omega) (by decide)) (fun _ c => ?_) (fun _ c => ?_)
        all_goals
          rw [hc] at c
          try rw [hc]
          refine V_cast ?_ rfl rfl ih
          simp [scS, c]
    · intro d hd ih
      generalize hτ : blS (clA σ) (clC σ) (stS σ) (zI σ 33 43 + 1) (sdG σ) d = τ
      have r : ∀ a, a ≠ 33 → zI τ a d = zI σ a d := fun a h => by rw [← hτ, blS_I (by omega), clA_I (by omega)]
      have r68 : ∀ k, zI τ 68 k = zI σ 68 k := fun k => by rw [← hτ, blS_I (by omega), clA_I (by omega)]
      have r43 : zI τ 33 43 = zI σ 33 43 + 1 := by
        rw [← hτ, blS_I (by omega), clA, znH, zI_s2, zI_uI, if_pos ⟨rfl, rfl⟩]
      have hSt : Sh τ := by rw [← hτ]; exact hS
      have hlt : ¬ zI τ 33 36 ≤ nI d := by rw [← hτ, e36]; exact nI_ge hd (by omega)
      have hc : (nI d).toNatClampNeg = d := cl0 (by omega)
      have hv : vp_in (nI d) 240 := vp_in_nI (by omega) (by decide)
      obtain ⟨hp, hq⟩ := hR d hd
      have hy : clC σ d → V g mX12_clear (Em g mX12_clear (FQ (clE σ) (some (.long (scS (fun c => zJ (clE σ) 69 c) 5)))) NX) CT 0 0 97 [(0, .ref 33), (1, .int (nI d))] [] (stH τ d) := fun hC => by
        refine b_X12_clear_97 ?_
        rw [nI_1]
        refine V_cast rfl rfl ?_ ih
        rw [← blS_y hC, hτ, stH, r43]
        have hs : stS τ d = stS σ d := by rw [stS, stS, r 62 (by decide), r 66 (by decide)]
        have hg : sdG τ d = sdG σ d := by
          funext c; unfold sdG bkF; rw [r 62 (by decide), r 63 (by decide), r 64 (by decide), r 65 (by decide), r 66 (by decide)]
        rw [hs, hg]
      have hn' : ¬ clC σ d → V g mX12_clear (Em g mX12_clear (FQ (clE σ) (some (.long (scS (fun c => zJ (clE σ) 69 c) 5)))) NX) CT 0 0 97 [(0, .ref 33), (1, .int (nI d))] [] τ := fun hC => by
        refine b_X12_clear_97 ?_
        rw [nI_1]
        refine V_cast rfl rfl ?_ ih
        rw [blS_n hC, hτ]
      refine b_X12_clear_37 hSt (fun c => absurd c hlt) (fun _ => hv) (fun _ _ => ?_) (fun _ c c2 => ?_) (fun _ _ _ => ?_) (fun _ c c2 c3 => ?_) (fun _ _ _ _ => ?_) (fun _ _ _ _ => ?_) (fun _ c c2 c3 => ?_) (fun _ c c2 => ?_) (fun _ _ _ => ?_) (fun _ c c2 c3 => ?_) (fun _ _ _ _ => ?_) (fun _ c c2 c3 c4 => ?_) (fun _ _ _ _ _ => ?_) (fun _ _ _ _ _ => ?_) (fun _ c c2 c3 c4 => ?_)
      all_goals
        simp only [ix, hc, r 62 (by decide), r 64 (by decide), r 65 (by decide), r68] at *
      · exact hp
      · exact hn' (fun q => c2 q.2.1)
      · exact hq
      · exact hn' (fun q => c3 q.2.2)
      · exact hp
      · exact hq
      · exact hy ⟨Or.inl c, c2, c3⟩
      · exact hn' (fun q => q.1.elim c c2)
      · exact hp
      · exact hn' (fun q => c3 q.2.1)
      · exact hq
      · exact hn' (fun q => c4 q.2.2)
      · exact hp
      · exact hq
      · exact hy ⟨Or.inr c2, c3, c4⟩
  · intro d hd ih
    have hlt : ¬ (5 : Int32) ≤ nI d := nI_ge (a := d) (b := 5) hd (by decide)
    have hc : (nI d).toNatClampNeg = d := cl0 (by omega)
    refine b_X12_clear_17 (σ := znH (uI (uI σ 33 49 0) 33 43 (zI σ 33 43 + 1)) d) hS (fun c => absurd c hlt) (fun _ => vp_in_nI (by omega) (by decide)) (fun _ => ?_)
    rw [nI_1, hc]
    refine V_cast rfl rfl ?_ ih
    rw [znH, uJ_s2, znH]
    refine s2_cg (fun _ _ => rfl) (fun a c => ?_)
    by_cases h : a = 69 ∧ c = d
    · rw [if_pos h, if_pos ⟨h.1, by omega⟩]
    · rw [if_neg h]
      by_cases h2 : a = 69 ∧ c < d
      · rw [if_pos h2, if_pos ⟨h2.1, by omega⟩]
      · rw [if_neg h2, if_neg (by omega)]
