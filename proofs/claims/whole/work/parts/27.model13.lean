/-! ===== the reference: a carrier fails ===== -/
set_option maxRecDepth 100000 in
set_option maxHeartbeats 4000000 in
theorem b_X12_fails_0 {g : GP} {CX : State → Array Value → Prop} {Q : AH → Option Value → Prop} {X : AH → String → Prop} {v1 : Int32} {v2 : Int32} {σ : AH}
    (hS : Sh σ)
    (k1 : (isCa v1) → V g mX12_fails (Em g mX12_fails Q X) CX 0 0 20 [(0, .ref 33), (1, .int v1), (2, .int v2), (3, .int (0 : Int32)), (4, .int (0 : Int32))] [] (uI σ 33 49 (0 : Int32)))
    (k2 : (¬ (isCa v1)) → Q (uI σ 33 49 (1 : Int32)) (some (.int (0 : Int32)))) :
    V g mX12_fails (Em g mX12_fails Q X) CX 0 0 0 [(0, .ref 33), (1, .int v1), (2, .int v2)] [] σ := by
  refine V_aload_n dX12_fails_0 rfl ?_
  refine V_iload_n dX12_fails_1 rfl ?_
  refine V_callS1 (as := [.int v1]) (k' := 0) (n' := 0) (s_X12_isCarrier) mw_X12_isCarrier w_1251 w_1250 ar_X12_isCarrier rfl ⟨rfl, rfl, rfl, rfl, rfl⟩ dX12_fails_2 ?_
  refine V_iconst (1 : Int32) dX12_fails_5 (by decide) ?_
  refine V_iconst (1 : Int32) dX12_fails_6 (by decide) ?_
  by_cases c1 : isCa v1
  · refine V_cast (st' := [.int (1 : Int32), .int (1 : Int32), .int (1 : Int32), .ref 33]) rfl (by rw [jb_t c1]) rfl ?_
    refine V_callV1 (as := [.int (1 : Int32), .int (1 : Int32), .int (1 : Int32)]) (k' := 0) (n' := 0) (s_goes0 hS) mw_X12_goes ko_X12 rfl w_1223 w_20 w_1221 ar_X12_goes rfl ⟨rfl, rfl, rfl, rfl, rfl⟩ dX12_fails_7 (by decide) (shk hS 33 rfl) ?_
    refine V_if_ne 15 dX12_fails_10 rfl (fun _ => ?_) (fun z_ => (by first | exact absurd (by decide) z_ | exact absurd z_ (by decide)))
    refine V_iconst (0 : Int32) dX12_fails_15 (by decide) ?_
    refine V_istore_n [(0, .ref 33), (1, .int v1), (2, .int v2), (3, .int (0 : Int32))] dX12_fails_16 rfl rfl ?_
    refine V_iconst (0 : Int32) dX12_fails_17 (by decide) ?_
    refine V_istore [(0, .ref 33), (1, .int v1), (2, .int v2), (3, .int (0 : Int32)), (4, .int (0 : Int32))] dX12_fails_18 rfl rfl ?_
    exact (k1 c1)
  · refine V_cast (st' := [.int (1 : Int32), .int (1 : Int32), .int (0 : Int32), .ref 33]) rfl (by rw [jb_f c1]) rfl ?_
    refine V_callV1 (as := [.int (0 : Int32), .int (1 : Int32), .int (1 : Int32)]) (k' := 0) (n' := 0) (s_goes1 hS) mw_X12_goes ko_X12 rfl w_1223 w_20 w_1221 ar_X12_goes rfl ⟨rfl, rfl, rfl, rfl, rfl⟩ dX12_fails_7 (by decide) (shk hS 33 rfl) ?_
    refine V_if_ne 15 dX12_fails_10 rfl (fun z_ => (by first | exact absurd (by decide) z_ | exact absurd z_ (by decide))) (fun _ => ?_)
    refine V_iconst (0 : Int32) dX12_fails_13 (by decide) ?_
    exact V_iret rfl dX12_fails_14 (k2 c1)
set_option maxRecDepth 100000 in
set_option maxHeartbeats 4000000 in
theorem b_X12_fails_20 {g : GP} {CX : State → Array Value → Prop} {Q : AH → Option Value → Prop} {X : AH → String → Prop} {v1 : Int32} {v2 : Int32} {v3 : Int32} {v4 : Int32} {σ : AH}
    (hS : Sh σ)
    (o1 : ((zI σ 33 36) ≤ v4) → vp_in v1 5)
    (o2 : ((zI σ 33 36) ≤ v4) → vp_nar .boolean v2 = v2)
    (k1 : ((zI σ 33 36) ≤ v4) → Q (uI σ 68 (Int32.toNatClampNeg v1) v2) (some (.int v3)))
    (o3 : (¬ (zI σ 33 36) ≤ v4) → (v2 = 0) → vp_in v1 5)
    (o4 : (¬ (zI σ 33 36) ≤ v4) → (v2 = 0) → vp_nar .boolean v2 = v2)
    (k2 : (¬ (zI σ 33 36) ≤ v4) → (v2 = 0) → Q (uI σ 68 (Int32.toNatClampNeg v1) v2) (some (.int v3)))
    (o5 : (¬ (zI σ 33 36) ≤ v4) → (¬ v2 = 0) → vp_in v1 5)
    (o6 : (¬ (zI σ 33 36) ≤ v4) → (¬ v2 = 0) → (¬ (zI σ 68 (Int32.toNatClampNeg v1)) = 0) → vp_nar .boolean v2 = v2)
    (k3 : (¬ (zI σ 33 36) ≤ v4) → (¬ v2 = 0) → (¬ (zI σ 68 (Int32.toNatClampNeg v1)) = 0) → Q (uI σ 68 (Int32.toNatClampNeg v1) v2) (some (.int v3)))
    (o7 : (¬ (zI σ 33 36) ≤ v4) → (¬ v2 = 0) → ((zI σ 68 (Int32.toNatClampNeg v1)) = 0) → vp_in v4 240)
    (k4 : (¬ (zI σ 33 36) ≤ v4) → (¬ v2 = 0) → ((zI σ 68 (Int32.toNatClampNeg v1)) = 0) → ((zI σ 64 (Int32.toNatClampNeg v4)) = v1) → V g mX12_fails (Em g mX12_fails Q X) CX 0 0 71 [(0, .ref 33), (1, .int v1), (2, .int v2), (3, .int v3), (4, .int v4), (5, .int (1 : Int32))] [] σ)
    (k5 : (¬ (zI σ 33 36) ≤ v4) → (¬ v2 = 0) → ((zI σ 68 (Int32.toNatClampNeg v1)) = 0) → (¬ (zI σ 64 (Int32.toNatClampNeg v4)) = v1) → (¬ (zI σ 65 (Int32.toNatClampNeg v4)) = v1) → V g mX12_fails (Em g mX12_fails Q X) CX 0 0 71 [(0, .ref 33), (1, .int v1), (2, .int v2), (3, .int v3), (4, .int v4), (5, .int (0 : Int32))] [] σ)
    (k6 : (¬ (zI σ 33 36) ≤ v4) → (¬ v2 = 0) → ((zI σ 68 (Int32.toNatClampNeg v1)) = 0) → (¬ (zI σ 64 (Int32.toNatClampNeg v4)) = v1) → ((zI σ 65 (Int32.toNatClampNeg v4)) = v1) → V g mX12_fails (Em g mX12_fails Q X) CX 0 0 71 [(0, .ref 33), (1, .int v1), (2, .int v2), (3, .int v3), (4, .int v4), (5, .int (1 : Int32))] [] σ) :
    V g mX12_fails (Em g mX12_fails Q X) CX 0 0 20 [(0, .ref 33), (1, .int v1), (2, .int v2), (3, .int v3), (4, .int v4)] [] σ := by
  refine V_iload dX12_fails_20 rfl ?_
  refine V_aload_n dX12_fails_22 rfl ?_
  refine V_getf (fk := 36) (Value.int (zI σ 33 36)) ko_X12 rfl w_1091 dX12_fails_23 (by decide) (shk hS 33 rfl) rfl ?_
  refine V_icmp_ge 133 dX12_fails_26 rfl (fun c1 => ?_) (fun c1 => ?_)
  · refine V_aload_n dX12_fails_133 rfl ?_
    refine V_getf (fk := 44) (Value.ref 68) ko_X12 rfl w_1099 dX12_fails_134 (by decide) (shk hS 33 rfl) (congrArg Value.ref (shr hS 33 44 68 (by decide))) ?_
    refine V_iload_n dX12_fails_137 rfl ?_
    refine V_iload_n dX12_fails_138 rfl ?_
    refine V_zast dX12_fails_139 (by decide) (shk hS 68 rfl) (vp_l (n := 5) (shl hS 68 rfl) (o1 c1)) (o2 c1) ?_
    refine V_iload_n dX12_fails_140 rfl ?_
    exact V_iret rfl dX12_fails_141 (k1 c1)
  · refine V_iload_n dX12_fails_29 rfl ?_
    refine V_if_eq 133 dX12_fails_30 rfl (fun c2 => ?_) (fun c2 => ?_)
    · refine V_aload_n dX12_fails_133 rfl ?_
      refine V_getf (fk := 44) (Value.ref 68) ko_X12 rfl w_1099 dX12_fails_134 (by decide) (shk hS 33 rfl) (congrArg Value.ref (shr hS 33 44 68 (by decide))) ?_
      refine V_iload_n dX12_fails_137 rfl ?_
      refine V_iload_n dX12_fails_138 rfl ?_
      refine V_zast dX12_fails_139 (by decide) (shk hS 68 rfl) (vp_l (n := 5) (shl hS 68 rfl) (o3 c1 c2)) (o4 c1 c2) ?_
      refine V_iload_n dX12_fails_140 rfl ?_
      exact V_iret rfl dX12_fails_141 (k2 c1 c2)
    · refine V_aload_n dX12_fails_33 rfl ?_
      refine V_getf (fk := 44) (Value.ref 68) ko_X12 rfl w_1099 dX12_fails_34 (by decide) (shk hS 33 rfl) (congrArg Value.ref (shr hS 33 44 68 (by decide))) ?_
      refine V_iload_n dX12_fails_37 rfl ?_
      refine V_zald dX12_fails_38 (by decide) (shk hS 68 rfl) (vp_l (n := 5) (shl hS 68 rfl) (o5 c1 c2)) ?_
      refine V_if_ne 133 dX12_fails_39 rfl (fun c3 => ?_) (fun c3 => ?_)
      · refine V_aload_n dX12_fails_133 rfl ?_
        refine V_getf (fk := 44) (Value.ref 68) ko_X12 rfl w_1099 dX12_fails_134 (by decide) (shk hS 33 rfl) (congrArg Value.ref (shr hS 33 44 68 (by decide))) ?_
        refine V_iload_n dX12_fails_137 rfl ?_
        refine V_iload_n dX12_fails_138 rfl ?_
        refine V_zast dX12_fails_139 (by decide) (shk hS 68 rfl) (vp_l (n := 5) (shl hS 68 rfl) (o5 c1 c2)) (o6 c1 c2 c3) ?_
        refine V_iload_n dX12_fails_140 rfl ?_
        exact V_iret rfl dX12_fails_141 (k3 c1 c2 c3)
      · refine V_aload_n dX12_fails_42 rfl ?_
        refine V_getf (fk := 39) (Value.ref 64) ko_X12 rfl w_1094 dX12_fails_43 (by decide) (shk hS 33 rfl) (congrArg Value.ref (shr hS 33 39 64 (by decide))) ?_
        refine V_iload dX12_fails_46 rfl ?_
        refine V_iald dX12_fails_48 (by decide) (shk hS 64 rfl) (vp_l (n := 240) (shl hS 64 rfl) (o7 c1 c2 c3)) ?_
        refine V_iload_n dX12_fails_49 rfl ?_
        refine V_icmp_eq 64 dX12_fails_50 rfl (fun c4 => ?_) (fun c4 => ?_)
        · refine V_iconst (1 : Int32) dX12_fails_64 (by decide) ?_
          refine V_goto 69 dX12_fails_65 rfl ?_
          refine V_istore [(0, .ref 33), (1, .int v1), (2, .int v2), (3, .int v3), (4, .int v4), (5, .int (1 : Int32))] dX12_fails_69 rfl rfl ?_
          exact (k4 c1 c2 c3 c4)
        · refine V_aload_n dX12_fails_53 rfl ?_
          refine V_getf (fk := 40) (Value.ref 65) ko_X12 rfl w_1095 dX12_fails_54 (by decide) (shk hS 33 rfl) (congrArg Value.ref (shr hS 33 40 65 (by decide))) ?_
          refine V_iload dX12_fails_57 rfl ?_
          refine V_iald dX12_fails_59 (by decide) (shk hS 65 rfl) (vp_l (n := 240) (shl hS 65 rfl) (o7 c1 c2 c3)) ?_
          refine V_iload_n dX12_fails_60 rfl ?_
          refine V_icmp_ne 68 dX12_fails_61 rfl (fun c5 => ?_) (fun c5 => ?_)
          · refine V_iconst (0 : Int32) dX12_fails_68 (by decide) ?_
            refine V_istore [(0, .ref 33), (1, .int v1), (2, .int v2), (3, .int v3), (4, .int v4), (5, .int (0 : Int32))] dX12_fails_69 rfl rfl ?_
            exact (k5 c1 c2 c3 c4 c5)
          · refine V_iconst (1 : Int32) dX12_fails_64 (by decide) ?_
            refine V_goto 69 dX12_fails_65 rfl ?_
            refine V_istore [(0, .ref 33), (1, .int v1), (2, .int v2), (3, .int v3), (4, .int v4), (5, .int (1 : Int32))] dX12_fails_69 rfl rfl ?_
            exact (k6 c1 c2 c3 c4 c5)
set_option maxRecDepth 100000 in
set_option maxHeartbeats 4000000 in
theorem b_X12_fails_71 {g : GP} {CX : State → Array Value → Prop} {E : ET} {v1 : Int32} {v2 : Int32} {v3 : Int32} {v4 : Int32} {v5 : Int32} {σ : AH}
    (hS : Sh σ)
    (k1 : (v5 = 0) → V g mX12_fails E CX 0 0 127 [(0, .ref 33), (1, .int v1), (2, .int v2), (3, .int v3), (4, .int v4), (5, .int v5)] [] σ)
    (o1 : (¬ v5 = 0) → vp_in v4 240)
    (k2 : (¬ v5 = 0) → (¬ (zI σ 67 (Int32.toNatClampNeg v4)) = (zI σ 33 43)) → V g mX12_fails E CX 0 0 127 [(0, .ref 33), (1, .int v1), (2, .int v2), (3, .int v3), (4, .int v4), (5, .int v5)] [] σ)
    (k3 : (¬ v5 = 0) → ((zI σ 67 (Int32.toNatClampNeg v4)) = (zI σ 33 43)) → ((zI σ 33 43) ≤ 0) → V g mX12_fails E CX 0 0 127 [(0, .ref 33), (1, .int v1), (2, .int v2), (3, .int v3), (4, .int v4), (5, .int v5)] [] σ)
    (k4 : (¬ v5 = 0) → ((zI σ 67 (Int32.toNatClampNeg v4)) = (zI σ 33 43)) → (¬ (zI σ 33 43) ≤ 0) → ((zI σ 62 (Int32.toNatClampNeg v4)) = 0) → V g mX12_fails E CX 0 0 127 [(0, .ref 33), (1, .int v1), (2, .int v2), (3, .int v3), (4, .int v4), (5, .int v5)] [] σ)
    (k5 : (¬ v5 = 0) → ((zI σ 67 (Int32.toNatClampNeg v4)) = (zI σ 33 43)) → (¬ (zI σ 33 43) ≤ 0) → (¬ (zI σ 62 (Int32.toNatClampNeg v4)) = 0) → ((zI σ 62 (Int32.toNatClampNeg v4)) = (2 : Int32)) → V g mX12_fails E CX 0 0 127 [(0, .ref 33), (1, .int v1), (2, .int v2), (3, .int v3), (4, .int v4), (5, .int v5)] [] σ)
    (o2 : (¬ v5 = 0) → ((zI σ 67 (Int32.toNatClampNeg v4)) = (zI σ 33 43)) → (¬ (zI σ 33 43) ≤ 0) → (¬ (zI σ 62 (Int32.toNatClampNeg v4)) = 0) → (¬ (zI σ 62 (Int32.toNatClampNeg v4)) = (2 : Int32)) → vp_in (zI σ 64 (ix v4)) 5)
    (o3 : (¬ v5 = 0) → ((zI σ 67 (Int32.toNatClampNeg v4)) = (zI σ 33 43)) → (¬ (zI σ 33 43) ≤ 0) → (¬ (zI σ 62 (Int32.toNatClampNeg v4)) = 0) → (¬ (zI σ 62 (Int32.toNatClampNeg v4)) = (2 : Int32)) → vp_in (zI σ 65 (ix v4)) 5)
    (k6 : (¬ v5 = 0) → ((zI σ 67 (Int32.toNatClampNeg v4)) = (zI σ 33 43)) → (¬ (zI σ 33 43) ≤ 0) → (¬ (zI σ 62 (Int32.toNatClampNeg v4)) = 0) → (¬ (zI σ 62 (Int32.toNatClampNeg v4)) = (2 : Int32)) → V g mX12_fails E CX 0 0 127 [(0, .ref 33), (1, .int v1), (2, .int v2), (3, .int (v3 + (1 : Int32))), (4, .int v4), (5, .int v5)] [] (udH σ (ix v4))) :
    V g mX12_fails E CX 0 0 71 [(0, .ref 33), (1, .int v1), (2, .int v2), (3, .int v3), (4, .int v4), (5, .int v5)] [] σ := by
  refine V_iload dX12_fails_71 rfl ?_
  refine V_if_eq 127 dX12_fails_73 rfl (fun c1 => ?_) (fun c1 => ?_)
  · exact (k1 c1)
  · refine V_aload_n dX12_fails_76 rfl ?_
    refine V_getf (fk := 42) (Value.ref 67) ko_X12 rfl w_1097 dX12_fails_77 (by decide) (shk hS 33 rfl) (congrArg Value.ref (shr hS 33 42 67 (by decide))) ?_
    refine V_iload dX12_fails_80 rfl ?_
    refine V_iald dX12_fails_82 (by decide) (shk hS 67 rfl) (vp_l (n := 240) (shl hS 67 rfl) (o1 c1)) ?_
    refine V_aload_n dX12_fails_83 rfl ?_
    refine V_getf (fk := 43) (Value.int (zI σ 33 43)) ko_X12 rfl w_1098 dX12_fails_84 (by decide) (shk hS 33 rfl) rfl ?_
    refine V_icmp_ne 127 dX12_fails_87 rfl (fun c2 => ?_) (fun c2 => ?_)
    · exact (k2 c1 c2)
    · refine V_aload_n dX12_fails_90 rfl ?_
      refine V_getf (fk := 43) (Value.int (zI σ 33 43)) ko_X12 rfl w_1098 dX12_fails_91 (by decide) (shk hS 33 rfl) rfl ?_
      refine V_if_le 127 dX12_fails_94 rfl (fun c3 => ?_) (fun c3 => ?_)
      · exact (k3 c1 c2 c3)
      · refine V_aload_n dX12_fails_97 rfl ?_
        refine V_getf (fk := 37) (Value.ref 62) ko_X12 rfl w_1092 dX12_fails_98 (by decide) (shk hS 33 rfl) (congrArg Value.ref (shr hS 33 37 62 (by decide))) ?_
        refine V_iload dX12_fails_101 rfl ?_
        refine V_iald dX12_fails_103 (by decide) (shk hS 62 rfl) (vp_l (n := 240) (shl hS 62 rfl) (o1 c1)) ?_
        refine V_if_eq 127 dX12_fails_104 rfl (fun c4 => ?_) (fun c4 => ?_)
        · exact (k4 c1 c2 c3 c4)
        · refine V_aload_n dX12_fails_107 rfl ?_
          refine V_getf (fk := 37) (Value.ref 62) ko_X12 rfl w_1092 dX12_fails_108 (by decide) (shk hS 33 rfl) (congrArg Value.ref (shr hS 33 37 62 (by decide))) ?_
          refine V_iload dX12_fails_111 rfl ?_
          refine V_iald dX12_fails_113 (by decide) (shk hS 62 rfl) (vp_l (n := 240) (shl hS 62 rfl) (o1 c1)) ?_
          refine V_iconst (2 : Int32) dX12_fails_114 (by decide) ?_
          refine V_icmp_eq 127 dX12_fails_115 rfl (fun c5 => ?_) (fun c5 => ?_)
          · exact (k5 c1 c2 c3 c4 c5)
          · refine V_aload_n dX12_fails_118 rfl ?_
            refine V_iload dX12_fails_119 rfl ?_
            refine V_callV0 (as := [.int v4]) (k' := 0) (n' := 0) (s_X12_undoes hS (o1 c1) (o2 c1 c2 c3 c4 c5) (o3 c1 c2 c3 c4 c5)) mw_X12_undoes ko_X12 rfl w_1422 w_45 w_1420 ar_X12_undoes rfl ⟨rfl, rfl, rfl, rfl, rfl⟩ dX12_fails_121 (by decide) (shk hS 33 rfl) ?_
            refine V_iinc (v3 + (1 : Int32)) [(0, .ref 33), (1, .int v1), (2, .int v2), (3, .int (v3 + (1 : Int32))), (4, .int v4), (5, .int v5)] dX12_fails_124 rfl rfl rfl rfl ?_
            exact (k6 c1 c2 c3 c4 c5)
set_option maxRecDepth 100000 in
set_option maxHeartbeats 4000000 in
theorem b_X12_fails_127 {g : GP} {CX : State → Array Value → Prop} {E : ET} {v1 : Int32} {v2 : Int32} {v3 : Int32} {v4 : Int32} {v5 : Int32} {σ : AH}
    (k1 : V g mX12_fails E CX 0 0 20 [(0, .ref 33), (1, .int v1), (2, .int v2), (3, .int v3), (4, .int (v4 + (1 : Int32)))] [] σ) :
    V g mX12_fails E CX 0 0 127 [(0, .ref 33), (1, .int v1), (2, .int v2), (3, .int v3), (4, .int v4), (5, .int v5)] [] σ := by
  refine V_iinc (v4 + (1 : Int32)) [(0, .ref 33), (1, .int v1), (2, .int v2), (3, .int v3), (4, .int (v4 + (1 : Int32))), (5, .int v5)] dX12_fails_127 rfl rfl rfl rfl ?_
  refine V_goto 20 dX12_fails_130 rfl ?_
  exact V_less (mm_keep (mm_keep (mm_keep (mm_keep (mm_keep (mm_drop mm_nil)))))) (by decide) (by decide) k1

/-- which bills are undone -/
def ufC (σ : AH) (x : Int32) (b : Nat) : Prop := (zI σ 64 b = x ∨ zI σ 65 b = x) ∧ zI σ 67 b = zI σ 33 43 ∧ ¬ zI σ 33 43 ≤ 0 ∧ ¬ zI σ 62 b = 0 ∧ ¬ zI σ 62 b = 2
noncomputable def ctS (C : Nat → Prop) : Nat → Int32
  | 0 => 0
  | d + 1 => ctS C d + @ite _ (C d) (Classical.propDecidable _) 1 0
theorem ctS_y {C : Nat → Prop} {d : Nat} (h : C d) : ctS C (d + 1) = ctS C d + 1 := by rw [ctS, if_pos h]
theorem ctS_n {C : Nat → Prop} {d : Nat} (h : ¬ C d) : ctS C (d + 1) = ctS C d := by rw [ctS, if_neg h]; simp
noncomputable def faH (σ : AH) (x : Int32) : AH := blS (uI σ 33 49 0) (ufC σ x) (udS σ) 0 (udG σ) (ix (zI σ 33 36))
theorem s_X12_fails {g : GP} {Q : AH → Option Value → Prop} {σ : AH} {x b : Int32} (hS : Sh σ) (hb : b = 0 ∨ b = 1) (hB : vp_in (zI σ 33 36) 241) (hR : ∀ k, k < ix (zI σ 33 36) → vp_in (zI σ 64 k) 5 ∧ vp_in (zI σ 65 k) 5)
    (q1 : ¬ isCa x → Q (uI σ 33 49 (1 : Int32)) (some (.int 0)))
    (q2 : isCa x → (b = 0 ∨ ¬ zI σ 68 (ix x) = 0) → Q (uI (uI σ 33 49 0) 68 (ix x) b) (some (.int 0)))
    (q0 : isCa x → ¬ b = 0 → zI σ 68 (ix x) = 0 → Q (uI (faH σ x) 68 (ix x) b) (some (.int (ctS (ufC σ x) (ix (zI σ 33 36)))))) :
    Ct g mX12_fails [.ref 33, .int x, .int b] σ Q := by
  obtain ⟨n, hn, e⟩ := vp_in_of hB (by decide)
  have en : ix (zI σ 33 36) = n := by rw [ix, e, cl0 (by omega)]
  rw [en] at hR q0
  have nb : vp_nar .boolean b = b := by rcases hb with rfl | rfl <;> decide
  refine Ct_of (by decide +kernel) rfl rfl (b_X12_fails_0 hS (fun hc => ?_) q1)
  have v5 := isCa_vp hc
  by_cases h2 : b = 0 ∨ ¬ zI σ 68 (ix x) = 0
  · have q := q2 hc h2
    refine b_X12_fails_20 (σ := uI σ 33 49 0) hS (fun _ => v5) (fun _ => nb) (fun _ => q) (fun _ _ => v5) (fun _ _ => nb) (fun _ _ => q) (fun _ _ => v5) (fun _ _ _ => nb) (fun _ _ _ => q) ?_ ?_ ?_ ?_
    · exact fun _ c c2 => absurd h2 (fun q => q.elim c (fun q => q c2))
    · exact fun _ c c2 => absurd h2 (fun q => q.elim c (fun q => q c2))
    · exact fun _ c c2 => absurd h2 (fun q => q.elim c (fun q => q c2))
    · exact fun _ c c2 => absurd h2 (fun q => q.elim c (fun q => q c2))
  · have b0 : ¬ b = 0 := fun q => h2 (Or.inl q)
    have i0 : zI σ 68 (ix x) = 0 := by
      by_cases h : zI σ 68 (ix x) = 0
      · exact h
      · exact absurd (Or.inr h) h2
    have q := q0 hc b0 i0
    have e36 : ∀ d, zI (blS (uI σ 33 49 0) (ufC σ x) (udS σ) 0 (udG σ) d) 33 36 = nI n := fun d => by
      rw [blS_I (by omega)]; exact e
    have e68 : ∀ d k, zI (blS (uI σ 33 49 0) (ufC σ x) (udS σ) 0 (udG σ) d) 68 k = zI σ 68 k := fun d k => by
      rw [blS_I (by omega)]; rfl
    refine V_cast rfl rfl blS_0.symm (up_loop (P := fun d => V g mX12_fails (Em g mX12_fails Q NX) CT 0 0 20 [(0, .ref 33), (1, .int x), (2, .int b), (3, .int (ctS (ufC σ x) d)), (4, .int (nI d))] [] (blS (uI σ 33 49 0) (ufC σ x) (udS σ) 0 (udG σ) d)) n ?_ ?_ 0 (Nat.zero_le _))
    · have hle : zI (blS (uI σ 33 49 0) (ufC σ x) (udS σ) 0 (udG σ) n) 33 36 ≤ nI n := by rw [e36]; exact Int32.le_refl _
      refine b_X12_fails_20 (σ := blS (uI σ 33 49 0) (ufC σ x) (udS σ) 0 (udG σ) n) hS (fun _ => v5) (fun _ => nb) (fun _ => ?_) (fun c => absurd hle c) (fun c => absurd hle c) (fun c => absurd hle c) (fun c => absurd hle c) (fun c => absurd hle c) (fun c => absurd hle c) (fun c => absurd hle c) (fun c => absurd hle c) (fun c => absurd hle c) (fun c => absurd hle c)
      rw [faH, en] at q
      exact q
    · intro d hd ih
      generalize hτ : blS (uI σ 33 49 0) (ufC σ x) (udS σ) 0 (udG σ) d = τ
      have r : ∀ a, a ≠ 33 → zI τ a d = zI σ a d := fun a h => by rw [← hτ, blS_I (by omega), zI_uI, if_neg (fun q => h q.1)]
      have r68 : ∀ k, zI τ 68 k = zI σ 68 k := fun k => by rw [← hτ, e68]
      have r43 : zI τ 33 43 = zI σ 33 43 := by rw [← hτ, blS_I (by omega)]; rfl
      have hSt : Sh τ := by rw [← hτ]; exact hS
      have hlt : ¬ zI τ 33 36 ≤ nI d := by rw [← hτ, e36]; exact nI_ge hd (by omega)
      have hc' : (nI d).toNatClampNeg = d := cl0 (by omega)
      have hv : vp_in (nI d) 240 := vp_in_nI (by omega) (by decide)
      obtain ⟨hp, hq⟩ := hR d hd
      have hy : ∀ z, ufC σ x d → V g mX12_fails (Em g mX12_fails Q NX) CT 0 0 127 [(0, .ref 33), (1, .int x), (2, .int b), (3, .int (ctS (ufC σ x) d + 1)), (4, .int (nI d)), (5, .int z)] [] (udH τ d) := fun z hC => by
        refine b_X12_fails_127 ?_
        rw [nI_1, ← ctS_y hC]
        refine V_cast rfl rfl ?_ ih
        rw [← blS_y hC, hτ, udH]
        have hs : udS τ d = udS σ d := by rw [udS, udS, r 62 (by decide)]
        have hg : udG τ d = udG σ d := by
          funext c; unfold udG bkF; rw [r 62 (by decide), r 63 (by decide), r 64 (by decide), r 65 (by decide), r 66 (by decide)]
        rw [hs, hg]
      have hn' : ∀ z, ¬ ufC σ x d → V g mX12_fails (Em g mX12_fails Q NX) CT 0 0 127 [(0, .ref 33), (1, .int x), (2, .int b), (3, .int (ctS (ufC σ x) d)), (4, .int (nI d)), (5, .int z)] [] τ := fun z hC => by
        refine b_X12_fails_127 ?_
        rw [nI_1, ← ctS_n hC]
        refine V_cast rfl rfl ?_ ih
        rw [blS_n hC, hτ]
      have own : (zI σ 64 d = x ∨ zI σ 65 d = x) → ∀ z, ¬ z = 0 → V g mX12_fails (Em g mX12_fails Q NX) CT 0 0 71 [(0, .ref 33), (1, .int x), (2, .int b), (3, .int (ctS (ufC σ x) d)), (4, .int (nI d)), (5, .int z)] [] τ := fun ho z hz => by
        refine b_X12_fails_71 hSt (fun c => absurd c hz) (fun _ => hv) (fun _ c => ?_) (fun _ c c2 => ?_) (fun _ c c2 c3 => ?_) (fun _ c c2 c3 c4 => ?_) (fun _ _ _ _ _ => ?_) (fun _ _ _ _ _ => ?_) (fun _ c c2 c3 c4 => ?_)
        all_goals
          simp only [ix, hc', r 62 (by decide), r 64 (by decide), r 65 (by decide), r 67 (by decide), r43] at *
        · exact hn' _ (fun q => c q.2.1)
        · exact hn' _ (fun q => q.2.2.1 c2)
        · exact hn' _ (fun q => q.2.2.2.1 c3)
        · exact hn' _ (fun q => q.2.2.2.2 c4)
        · exact hp
        · exact hq
        · exact hy _ ⟨ho, c, c2, c3, c4⟩
      have i0' : zI τ 68 (Int32.toNatClampNeg x) = 0 := (r68 _).trans i0
      refine b_X12_fails_20 hSt (fun c => absurd c hlt) (fun c => absurd c hlt) (fun c => absurd c hlt) (fun _ c => absurd c b0) (fun _ c => absurd c b0) (fun _ c => absurd c b0) (fun _ _ => v5) (fun _ _ c => absurd i0' c) (fun _ _ c => absurd i0' c) (fun _ _ _ => hv) (fun _ _ _ c => ?_) (fun _ _ _ c c2 => ?_) (fun _ _ _ _ c => ?_)
      · rw [hc', r 64 (by decide)] at c; exact own (Or.inl c) 1 (by decide)
      · rw [hc', r 64 (by decide)] at c; rw [hc', r 65 (by decide)] at c2
        exact b_X12_fails_71 hSt (fun _ => hn' 0 (fun q => q.1.elim c c2)) (fun c => absurd rfl c) (fun c => absurd rfl c) (fun c => absurd rfl c) (fun c => absurd rfl c) (fun c => absurd rfl c) (fun c => absurd rfl c) (fun c => absurd rfl c) (fun c => absurd rfl c)
      · rw [hc', r 65 (by decide)] at c; exact own (Or.inr c) 1 (by decide)
