/-! ===== the reference: flying ===== -/
set_option maxRecDepth 100000 in
set_option maxHeartbeats 4000000 in
theorem b_X12_fly_0 {g : GP} {CX : State → Array Value → Prop} {Q : AH → Option Value → Prop} {X : AH → String → Prop} {v1 : Int32} {v2 : Int32} {σ : AH}
    (hS : Sh σ)
    (o1 : vp_in (zI σ 33 23) 31)
    (k1 : (¬ ((isWi v1 0 ((zI σ 33 23) - 1)) ∧ (isWi v2 0 ((zI σ 52 (ix v1)) - 1)))) → ((isWi v1 0 ((zI σ 33 23) - 1)) ∧ (isWi v2 0 ((zI σ 52 (ix v1)) - 1))) → Q (uI σ 33 49 (2 : Int32)) (some (.int (0 : Int32))))
    (k2 : (¬ ((isWi v1 0 ((zI σ 33 23) - 1)) ∧ (isWi v2 0 ((zI σ 52 (ix v1)) - 1)))) → (¬ ((isWi v1 0 ((zI σ 33 23) - 1)) ∧ (isWi v2 0 ((zI σ 52 (ix v1)) - 1)))) → Q (uI σ 33 49 (1 : Int32)) (some (.int (0 : Int32))))
    (o2 : ((isWi v1 0 ((zI σ 33 23) - 1)) ∧ (isWi v2 0 ((zI σ 52 (ix v1)) - 1))) → vp_in (((8 : Int32) * v1) + v2) 240)
    (k3 : ((isWi v1 0 ((zI σ 33 23) - 1)) ∧ (isWi v2 0 ((zI σ 52 (ix v1)) - 1))) → (¬ (zI σ 55 (Int32.toNatClampNeg (((8 : Int32) * v1) + v2))) = 0) → ((isWi v1 0 ((zI σ 33 23) - 1)) ∧ (isWi v2 0 ((zI σ 52 (ix v1)) - 1))) → Q (uI σ 33 49 (2 : Int32)) (some (.int (0 : Int32))))
    (k4 : ((isWi v1 0 ((zI σ 33 23) - 1)) ∧ (isWi v2 0 ((zI σ 52 (ix v1)) - 1))) → (¬ (zI σ 55 (Int32.toNatClampNeg (((8 : Int32) * v1) + v2))) = 0) → (¬ ((isWi v1 0 ((zI σ 33 23) - 1)) ∧ (isWi v2 0 ((zI σ 52 (ix v1)) - 1)))) → Q (uI σ 33 49 (1 : Int32)) (some (.int (0 : Int32))))
    (k5 : ((isWi v1 0 ((zI σ 33 23) - 1)) ∧ (isWi v2 0 ((zI σ 52 (ix v1)) - 1))) → ((zI σ 55 (Int32.toNatClampNeg (((8 : Int32) * v1) + v2))) = 0) → ((zI σ 33 0) < (zI σ 59 (Int32.toNatClampNeg (((8 : Int32) * v1) + v2)))) → ((isWi v1 0 ((zI σ 33 23) - 1)) ∧ (isWi v2 0 ((zI σ 52 (ix v1)) - 1))) → Q (uI σ 33 49 (2 : Int32)) (some (.int (0 : Int32))))
    (k6 : ((isWi v1 0 ((zI σ 33 23) - 1)) ∧ (isWi v2 0 ((zI σ 52 (ix v1)) - 1))) → ((zI σ 55 (Int32.toNatClampNeg (((8 : Int32) * v1) + v2))) = 0) → ((zI σ 33 0) < (zI σ 59 (Int32.toNatClampNeg (((8 : Int32) * v1) + v2)))) → (¬ ((isWi v1 0 ((zI σ 33 23) - 1)) ∧ (isWi v2 0 ((zI σ 52 (ix v1)) - 1)))) → Q (uI σ 33 49 (1 : Int32)) (some (.int (0 : Int32))))
    (k7 : ((isWi v1 0 ((zI σ 33 23) - 1)) ∧ (isWi v2 0 ((zI σ 52 (ix v1)) - 1))) → ((zI σ 55 (Int32.toNatClampNeg (((8 : Int32) * v1) + v2))) = 0) → (¬ (zI σ 33 0) < (zI σ 59 (Int32.toNatClampNeg (((8 : Int32) * v1) + v2)))) → ((isWi v1 0 ((zI σ 33 23) - 1)) ∧ (isWi v2 0 ((zI σ 52 (ix v1)) - 1))) → V g mX12_fly (Em g mX12_fly Q X) CX 0 0 73 [(0, .ref 33), (1, .int v1), (2, .int v2), (3, .int (jb ((isWi v1 0 ((zI σ 33 23) - 1)) ∧ (isWi v2 0 ((zI σ 52 (ix v1)) - 1))))), (4, .int (((8 : Int32) * v1) + v2)), (5, .int ((8 : Int32) * v1))] [] (uI σ 33 49 (0 : Int32)))
    (k8 : ((isWi v1 0 ((zI σ 33 23) - 1)) ∧ (isWi v2 0 ((zI σ 52 (ix v1)) - 1))) → ((zI σ 55 (Int32.toNatClampNeg (((8 : Int32) * v1) + v2))) = 0) → (¬ (zI σ 33 0) < (zI σ 59 (Int32.toNatClampNeg (((8 : Int32) * v1) + v2)))) → (¬ ((isWi v1 0 ((zI σ 33 23) - 1)) ∧ (isWi v2 0 ((zI σ 52 (ix v1)) - 1)))) → Q (uI σ 33 49 (1 : Int32)) (some (.int (0 : Int32)))) :
    V g mX12_fly (Em g mX12_fly Q X) CX 0 0 0 [(0, .ref 33), (1, .int v1), (2, .int v2)] [] σ := by
  refine V_aload_n dX12_fly_0 rfl ?_
  refine V_iload_n dX12_fly_1 rfl ?_
  refine V_iload_n dX12_fly_2 rfl ?_
  refine V_callV1 (as := [.int v1, .int v2]) (k' := 0) (n' := 0) (s_X12_isCoupon hS o1) mw_X12_isCoupon ko_X12 rfl w_1352 w_36 w_1350 ar_X12_isCoupon rfl ⟨rfl, rfl, rfl, rfl, rfl⟩ dX12_fly_3 (by decide) (shk hS 33 rfl) ?_
  refine V_istore_n [(0, .ref 33), (1, .int v1), (2, .int v2), (3, .int (jb ((isWi v1 0 ((zI σ 33 23) - 1)) ∧ (isWi v2 0 ((zI σ 52 (ix v1)) - 1)))))] dX12_fly_6 rfl rfl ?_
  refine V_iload_n dX12_fly_7 rfl ?_
  refine V_if_eq 20 dX12_fly_8 rfl (fun c1 => ?_) (fun c1 => ?_)
  · replace c1 := jb_0.mp c1
    refine V_iconst (0 : Int32) dX12_fly_20 (by decide) ?_
    refine V_istore [(0, .ref 33), (1, .int v1), (2, .int v2), (3, .int (jb ((isWi v1 0 ((zI σ 33 23) - 1)) ∧ (isWi v2 0 ((zI σ 52 (ix v1)) - 1))))), (4, .int (0 : Int32))] dX12_fly_21 rfl rfl ?_
    refine V_aload_n dX12_fly_23 rfl ?_
    refine V_iload_n dX12_fly_24 rfl ?_
    refine V_iload_n dX12_fly_25 rfl ?_
    refine V_if_eq 57 dX12_fly_26 rfl (fun _ => ?_) (fun z_ => (by have y_ := jb_n.mp z_; first | exact absurd (c1) y_ | exact absurd y_ (c1)))
    refine V_iconst (0 : Int32) dX12_fly_57 (by decide) ?_
    refine V_iconst (1 : Int32) dX12_fly_58 (by decide) ?_
    by_cases c3 : (isWi v1 0 ((zI σ 33 23) - 1)) ∧ (isWi v2 0 ((zI σ 52 (ix v1)) - 1))
    · refine V_cast (st' := [.int (1 : Int32), .int (0 : Int32), .int (1 : Int32), .ref 33]) rfl (by rw [jb_t c3]) rfl ?_
      refine V_callV1 (as := [.int (1 : Int32), .int (0 : Int32), .int (1 : Int32)]) (k' := 0) (n' := 0) (s_goes2 hS) mw_X12_goes ko_X12 rfl w_1223 w_20 w_1221 ar_X12_goes rfl ⟨rfl, rfl, rfl, rfl, rfl⟩ dX12_fly_59 (by decide) (shk hS 33 rfl) ?_
      refine V_if_ne 67 dX12_fly_62 rfl (fun z_ => (by first | exact absurd (by decide) z_ | exact absurd z_ (by decide))) (fun _ => ?_)
      refine V_iconst (0 : Int32) dX12_fly_65 (by decide) ?_
      exact V_iret rfl dX12_fly_66 (k1 c1 c3)
    · refine V_cast (st' := [.int (1 : Int32), .int (0 : Int32), .int (0 : Int32), .ref 33]) rfl (by rw [jb_f c3]) rfl ?_
      refine V_callV1 (as := [.int (0 : Int32), .int (0 : Int32), .int (1 : Int32)]) (k' := 0) (n' := 0) (s_goes1 hS) mw_X12_goes ko_X12 rfl w_1223 w_20 w_1221 ar_X12_goes rfl ⟨rfl, rfl, rfl, rfl, rfl⟩ dX12_fly_59 (by decide) (shk hS 33 rfl) ?_
      refine V_if_ne 67 dX12_fly_62 rfl (fun z_ => (by first | exact absurd (by decide) z_ | exact absurd z_ (by decide))) (fun _ => ?_)
      refine V_iconst (0 : Int32) dX12_fly_65 (by decide) ?_
      exact V_iret rfl dX12_fly_66 (k2 c1 c3)
  · replace c1 := jb_n.mp c1
    refine V_bipush (8 : Int32) dX12_fly_11 (by decide) ?_
    refine V_iload_n dX12_fly_13 rfl ?_
    refine V_imul dX12_fly_14 ?_
    refine V_iload_n dX12_fly_15 rfl ?_
    refine V_iadd dX12_fly_16 ?_
    refine V_goto 21 dX12_fly_17 rfl ?_
    refine V_istore [(0, .ref 33), (1, .int v1), (2, .int v2), (3, .int (jb ((isWi v1 0 ((zI σ 33 23) - 1)) ∧ (isWi v2 0 ((zI σ 52 (ix v1)) - 1))))), (4, .int (((8 : Int32) * v1) + v2))] dX12_fly_21 rfl rfl ?_
    refine V_aload_n dX12_fly_23 rfl ?_
    refine V_iload_n dX12_fly_24 rfl ?_
    refine V_iload_n dX12_fly_25 rfl ?_
    refine V_if_eq 57 dX12_fly_26 rfl (fun z_ => (by have y_ := jb_0.mp z_; first | exact absurd (c1) y_ | exact absurd y_ (c1))) (fun _ => ?_)
    refine V_aload_n dX12_fly_29 rfl ?_
    refine V_getf (fk := 29) (Value.ref 55) ko_X12 rfl w_1084 dX12_fly_30 (by decide) (shk hS 33 rfl) (congrArg Value.ref (shr hS 33 29 55 (by decide))) ?_
    refine V_iload dX12_fly_33 rfl ?_
    refine V_iald dX12_fly_35 (by decide) (shk hS 55 rfl) (vp_l (n := 240) (shl hS 55 rfl) (o2 c1)) ?_
    refine V_if_ne 57 dX12_fly_36 rfl (fun c5 => ?_) (fun c5 => ?_)
    · refine V_iconst (0 : Int32) dX12_fly_57 (by decide) ?_
      refine V_iconst (1 : Int32) dX12_fly_58 (by decide) ?_
      by_cases c6 : (isWi v1 0 ((zI σ 33 23) - 1)) ∧ (isWi v2 0 ((zI σ 52 (ix v1)) - 1))
      · refine V_cast (st' := [.int (1 : Int32), .int (0 : Int32), .int (1 : Int32), .ref 33]) rfl (by rw [jb_t c6]) rfl ?_
        refine V_callV1 (as := [.int (1 : Int32), .int (0 : Int32), .int (1 : Int32)]) (k' := 0) (n' := 0) (s_goes2 hS) mw_X12_goes ko_X12 rfl w_1223 w_20 w_1221 ar_X12_goes rfl ⟨rfl, rfl, rfl, rfl, rfl⟩ dX12_fly_59 (by decide) (shk hS 33 rfl) ?_
        refine V_if_ne 67 dX12_fly_62 rfl (fun z_ => (by first | exact absurd (by decide) z_ | exact absurd z_ (by decide))) (fun _ => ?_)
        refine V_iconst (0 : Int32) dX12_fly_65 (by decide) ?_
        exact V_iret rfl dX12_fly_66 (k3 c1 c5 c6)
      · refine V_cast (st' := [.int (1 : Int32), .int (0 : Int32), .int (0 : Int32), .ref 33]) rfl (by rw [jb_f c6]) rfl ?_
        refine V_callV1 (as := [.int (0 : Int32), .int (0 : Int32), .int (1 : Int32)]) (k' := 0) (n' := 0) (s_goes1 hS) mw_X12_goes ko_X12 rfl w_1223 w_20 w_1221 ar_X12_goes rfl ⟨rfl, rfl, rfl, rfl, rfl⟩ dX12_fly_59 (by decide) (shk hS 33 rfl) ?_
        refine V_if_ne 67 dX12_fly_62 rfl (fun z_ => (by first | exact absurd (by decide) z_ | exact absurd z_ (by decide))) (fun _ => ?_)
        refine V_iconst (0 : Int32) dX12_fly_65 (by decide) ?_
        exact V_iret rfl dX12_fly_66 (k4 c1 c5 c6)
    · refine V_aload_n dX12_fly_39 rfl ?_
      refine V_getf (fk := 33) (Value.ref 59) ko_X12 rfl w_1088 dX12_fly_40 (by decide) (shk hS 33 rfl) (congrArg Value.ref (shr hS 33 33 59 (by decide))) ?_
      refine V_iload dX12_fly_43 rfl ?_
      refine V_iald dX12_fly_45 (by decide) (shk hS 59 rfl) (vp_l (n := 240) (shl hS 59 rfl) (o2 c1)) ?_
      refine V_aload_n dX12_fly_46 rfl ?_
      refine V_getf (fk := 0) (Value.int (zI σ 33 0)) ko_X12 rfl w_1055 dX12_fly_47 (by decide) (shk hS 33 rfl) rfl ?_
      refine V_icmp_gt 57 dX12_fly_50 rfl (fun c7 => ?_) (fun c7 => ?_)
      · refine V_iconst (0 : Int32) dX12_fly_57 (by decide) ?_
        refine V_iconst (1 : Int32) dX12_fly_58 (by decide) ?_
        by_cases c8 : (isWi v1 0 ((zI σ 33 23) - 1)) ∧ (isWi v2 0 ((zI σ 52 (ix v1)) - 1))
        · refine V_cast (st' := [.int (1 : Int32), .int (0 : Int32), .int (1 : Int32), .ref 33]) rfl (by rw [jb_t c8]) rfl ?_
          refine V_callV1 (as := [.int (1 : Int32), .int (0 : Int32), .int (1 : Int32)]) (k' := 0) (n' := 0) (s_goes2 hS) mw_X12_goes ko_X12 rfl w_1223 w_20 w_1221 ar_X12_goes rfl ⟨rfl, rfl, rfl, rfl, rfl⟩ dX12_fly_59 (by decide) (shk hS 33 rfl) ?_
          refine V_if_ne 67 dX12_fly_62 rfl (fun z_ => (by first | exact absurd (by decide) z_ | exact absurd z_ (by decide))) (fun _ => ?_)
          refine V_iconst (0 : Int32) dX12_fly_65 (by decide) ?_
          exact V_iret rfl dX12_fly_66 (k5 c1 c5 c7 c8)
        · refine V_cast (st' := [.int (1 : Int32), .int (0 : Int32), .int (0 : Int32), .ref 33]) rfl (by rw [jb_f c8]) rfl ?_
          refine V_callV1 (as := [.int (0 : Int32), .int (0 : Int32), .int (1 : Int32)]) (k' := 0) (n' := 0) (s_goes1 hS) mw_X12_goes ko_X12 rfl w_1223 w_20 w_1221 ar_X12_goes rfl ⟨rfl, rfl, rfl, rfl, rfl⟩ dX12_fly_59 (by decide) (shk hS 33 rfl) ?_
          refine V_if_ne 67 dX12_fly_62 rfl (fun z_ => (by first | exact absurd (by decide) z_ | exact absurd z_ (by decide))) (fun _ => ?_)
          refine V_iconst (0 : Int32) dX12_fly_65 (by decide) ?_
          exact V_iret rfl dX12_fly_66 (k6 c1 c5 c7 c8)
      · refine V_iconst (1 : Int32) dX12_fly_53 (by decide) ?_
        refine V_goto 58 dX12_fly_54 rfl ?_
        refine V_iconst (1 : Int32) dX12_fly_58 (by decide) ?_
        by_cases c9 : (isWi v1 0 ((zI σ 33 23) - 1)) ∧ (isWi v2 0 ((zI σ 52 (ix v1)) - 1))
        · refine V_cast (st' := [.int (1 : Int32), .int (1 : Int32), .int (1 : Int32), .ref 33]) rfl (by rw [jb_t c9]) rfl ?_
          refine V_callV1 (as := [.int (1 : Int32), .int (1 : Int32), .int (1 : Int32)]) (k' := 0) (n' := 0) (s_goes0 hS) mw_X12_goes ko_X12 rfl w_1223 w_20 w_1221 ar_X12_goes rfl ⟨rfl, rfl, rfl, rfl, rfl⟩ dX12_fly_59 (by decide) (shk hS 33 rfl) ?_
          refine V_if_ne 67 dX12_fly_62 rfl (fun _ => ?_) (fun z_ => (by first | exact absurd (by decide) z_ | exact absurd z_ (by decide)))
          refine V_bipush (8 : Int32) dX12_fly_67 (by decide) ?_
          refine V_iload_n dX12_fly_69 rfl ?_
          refine V_imul dX12_fly_70 ?_
          refine V_istore [(0, .ref 33), (1, .int v1), (2, .int v2), (3, .int (jb ((isWi v1 0 ((zI σ 33 23) - 1)) ∧ (isWi v2 0 ((zI σ 52 (ix v1)) - 1))))), (4, .int (((8 : Int32) * v1) + v2)), (5, .int ((8 : Int32) * v1))] dX12_fly_71 rfl rfl ?_
          exact (k7 c1 c5 c7 c9)
        · refine V_cast (st' := [.int (1 : Int32), .int (1 : Int32), .int (0 : Int32), .ref 33]) rfl (by rw [jb_f c9]) rfl ?_
          refine V_callV1 (as := [.int (0 : Int32), .int (1 : Int32), .int (1 : Int32)]) (k' := 0) (n' := 0) (s_goes1 hS) mw_X12_goes ko_X12 rfl w_1223 w_20 w_1221 ar_X12_goes rfl ⟨rfl, rfl, rfl, rfl, rfl⟩ dX12_fly_59 (by decide) (shk hS 33 rfl) ?_
          refine V_if_ne 67 dX12_fly_62 rfl (fun z_ => (by first | exact absurd (by decide) z_ | exact absurd z_ (by decide))) (fun _ => ?_)
          refine V_iconst (0 : Int32) dX12_fly_65 (by decide) ?_
          exact V_iret rfl dX12_fly_66 (k8 c1 c5 c7 c9)
set_option maxRecDepth 100000 in
set_option maxHeartbeats 4000000 in
theorem b_X12_fly_73 {g : GP} {CX : State → Array Value → Prop} {E : ET} {v1 : Int32} {v2 : Int32} {v3 : Int32} {v4 : Int32} {v5 : Int32} {σ : AH}
    (hS : Sh σ)
    (k1 : (v4 ≤ v5) → V g mX12_fly E CX 0 0 114 [(0, .ref 33), (1, .int v1), (2, .int v2), (3, .int v3), (4, .int v4), (5, .int v5)] [] σ)
    (o1 : (¬ v4 ≤ v5) → vp_in v5 240)
    (k2 : (¬ v4 ≤ v5) → (¬ (zI σ 55 (Int32.toNatClampNeg v5)) = 0) → V g mX12_fly E CX 0 0 73 [(0, .ref 33), (1, .int v1), (2, .int v2), (3, .int v3), (4, .int v4), (5, .int (v5 + (1 : Int32)))] [] (uI σ 55 (Int32.toNatClampNeg v5) (zI σ 55 (Int32.toNatClampNeg v5))))
    (k3 : (¬ v4 ≤ v5) → ((zI σ 55 (Int32.toNatClampNeg v5)) = 0) → V g mX12_fly E CX 0 0 73 [(0, .ref 33), (1, .int v1), (2, .int v2), (3, .int v3), (4, .int v4), (5, .int (v5 + (1 : Int32)))] [] (uI σ 55 (Int32.toNatClampNeg v5) (2 : Int32))) :
    V g mX12_fly E CX 0 0 73 [(0, .ref 33), (1, .int v1), (2, .int v2), (3, .int v3), (4, .int v4), (5, .int v5)] [] σ := by
  refine V_iload dX12_fly_73 rfl ?_
  refine V_iload dX12_fly_75 rfl ?_
  refine V_icmp_ge 114 dX12_fly_77 rfl (fun c1 => ?_) (fun c1 => ?_)
  · exact (k1 c1)
  · refine V_aload_n dX12_fly_80 rfl ?_
    refine V_getf (fk := 29) (Value.ref 55) ko_X12 rfl w_1084 dX12_fly_81 (by decide) (shk hS 33 rfl) (congrArg Value.ref (shr hS 33 29 55 (by decide))) ?_
    refine V_iload dX12_fly_84 rfl ?_
    refine V_aload_n dX12_fly_86 rfl ?_
    refine V_getf (fk := 29) (Value.ref 55) ko_X12 rfl w_1084 dX12_fly_87 (by decide) (shk hS 33 rfl) (congrArg Value.ref (shr hS 33 29 55 (by decide))) ?_
    refine V_iload dX12_fly_90 rfl ?_
    refine V_iald dX12_fly_92 (by decide) (shk hS 55 rfl) (vp_l (n := 240) (shl hS 55 rfl) (o1 c1)) ?_
    refine V_if_ne 100 dX12_fly_93 rfl (fun c2 => ?_) (fun c2 => ?_)
    · refine V_aload_n dX12_fly_100 rfl ?_
      refine V_getf (fk := 29) (Value.ref 55) ko_X12 rfl w_1084 dX12_fly_101 (by decide) (shk hS 33 rfl) (congrArg Value.ref (shr hS 33 29 55 (by decide))) ?_
      refine V_iload dX12_fly_104 rfl ?_
      refine V_iald dX12_fly_106 (by decide) (shk hS 55 rfl) (vp_l (n := 240) (shl hS 55 rfl) (o1 c1)) ?_
      refine V_iast dX12_fly_107 (by decide) (shk hS 55 rfl) (vp_l (n := 240) (shl hS 55 rfl) (o1 c1)) ?_
      refine V_iinc (v5 + (1 : Int32)) [(0, .ref 33), (1, .int v1), (2, .int v2), (3, .int v3), (4, .int v4), (5, .int (v5 + (1 : Int32)))] dX12_fly_108 rfl rfl rfl rfl ?_
      refine V_goto 73 dX12_fly_111 rfl ?_
      exact (k2 c1 c2)
    · refine V_iconst (2 : Int32) dX12_fly_96 (by decide) ?_
      refine V_goto 107 dX12_fly_97 rfl ?_
      refine V_iast dX12_fly_107 (by decide) (shk hS 55 rfl) (vp_l (n := 240) (shl hS 55 rfl) (o1 c1)) ?_
      refine V_iinc (v5 + (1 : Int32)) [(0, .ref 33), (1, .int v1), (2, .int v2), (3, .int v3), (4, .int v4), (5, .int (v5 + (1 : Int32)))] dX12_fly_108 rfl rfl rfl rfl ?_
      refine V_goto 73 dX12_fly_111 rfl ?_
      exact (k3 c1 c2)
set_option maxRecDepth 100000 in
set_option maxHeartbeats 4000000 in
theorem b_X12_fly_114 {g : GP} {CX : State → Array Value → Prop} {E : ET} {v1 : Int32} {v2 : Int32} {v3 : Int32} {v4 : Int32} {v5 : Int32} {σ : AH}
    (hS : Sh σ)
    (o1 : vp_in v4 240)
    (k1 : V g mX12_fly E CX 0 0 122 [(0, .ref 33), (1, .int v1), (2, .int v2), (3, .int v3), (4, .int v4), (5, .int v5)] [] (uI σ 55 (Int32.toNatClampNeg v4) (1 : Int32))) :
    V g mX12_fly E CX 0 0 114 [(0, .ref 33), (1, .int v1), (2, .int v2), (3, .int v3), (4, .int v4), (5, .int v5)] [] σ := by
  refine V_aload_n dX12_fly_114 rfl ?_
  refine V_getf (fk := 29) (Value.ref 55) ko_X12 rfl w_1084 dX12_fly_115 (by decide) (shk hS 33 rfl) (congrArg Value.ref (shr hS 33 29 55 (by decide))) ?_
  refine V_iload dX12_fly_118 rfl ?_
  refine V_iconst (1 : Int32) dX12_fly_120 (by decide) ?_
  refine V_iast dX12_fly_121 (by decide) (shk hS 55 rfl) (vp_l (n := 240) (shl hS 55 rfl) o1) ?_
  exact k1
set_option maxRecDepth 100000 in
set_option maxHeartbeats 4000000 in
theorem b_X12_fly_122 {g : GP} {CX : State → Array Value → Prop} {E : ET} {v1 : Int32} {v2 : Int32} {v3 : Int32} {v4 : Int32} {v5 : Int32} {σ : AH}
    (hS : Sh σ)
    (o1 : vp_in v1 30)
    (o2 : vp_in (zI σ 51 (Int32.toNatClampNeg v1)) 5)
    (o3 : vp_in v4 240)
    (k1 : V g mX12_fly E CX 0 0 144 [(0, .ref 33), (1, .int v1), (2, .int v2), (3, .int v3), (4, .int v4), (5, .int v5)] [] (uJ σ 70 (Int32.toNatClampNeg (zI σ 51 (Int32.toNatClampNeg v1))) ((zJ σ 70 (Int32.toNatClampNeg (zI σ 51 (Int32.toNatClampNeg v1)))) - (Int32.toInt64 (zI σ 57 (Int32.toNatClampNeg v4)))))) :
    V g mX12_fly E CX 0 0 122 [(0, .ref 33), (1, .int v1), (2, .int v2), (3, .int v3), (4, .int v4), (5, .int v5)] [] σ := by
  refine V_aload_n dX12_fly_122 rfl ?_
  refine V_getf (fk := 46) (Value.ref 70) ko_X12 rfl w_1101 dX12_fly_123 (by decide) (shk hS 33 rfl) (congrArg Value.ref (shr hS 33 46 70 (by decide))) ?_
  refine V_aload_n dX12_fly_126 rfl ?_
  refine V_getf (fk := 25) (Value.ref 51) ko_X12 rfl w_1080 dX12_fly_127 (by decide) (shk hS 33 rfl) (congrArg Value.ref (shr hS 33 25 51 (by decide))) ?_
  refine V_iload_n dX12_fly_130 rfl ?_
  refine V_iald dX12_fly_131 (by decide) (shk hS 51 rfl) (vp_l (n := 30) (shl hS 51 rfl) o1) ?_
  refine V_dup2 dX12_fly_132 rfl rfl ?_
  refine V_lald dX12_fly_133 (by decide) (shk hS 70 rfl) (vp_l (n := 5) (shl hS 70 rfl) o2) ?_
  refine V_aload_n dX12_fly_134 rfl ?_
  refine V_getf (fk := 31) (Value.ref 57) ko_X12 rfl w_1086 dX12_fly_135 (by decide) (shk hS 33 rfl) (congrArg Value.ref (shr hS 33 31 57 (by decide))) ?_
  refine V_iload dX12_fly_138 rfl ?_
  refine V_iald dX12_fly_140 (by decide) (shk hS 57 rfl) (vp_l (n := 240) (shl hS 57 rfl) o3) ?_
  refine V_i2l dX12_fly_141 ?_
  refine V_lsub dX12_fly_142 ?_
  refine V_last dX12_fly_143 (by decide) (shk hS 70 rfl) (vp_l (n := 5) (shl hS 70 rfl) o2) ?_
  exact k1
set_option maxRecDepth 100000 in
set_option maxHeartbeats 4000000 in
theorem b_X12_fly_144 {g : GP} {CX : State → Array Value → Prop} {E : ET} {v1 : Int32} {v2 : Int32} {v3 : Int32} {v4 : Int32} {v5 : Int32} {σ : AH}
    (hS : Sh σ)
    (o1 : vp_in v4 240)
    (o2 : vp_in (zI σ 60 (Int32.toNatClampNeg v4)) 10)
    (k1 : V g mX12_fly E CX 0 0 167 [(0, .ref 33), (1, .int v1), (2, .int v2), (3, .int v3), (4, .int v4), (5, .int v5)] [] (uJ σ 71 (Int32.toNatClampNeg (zI σ 60 (Int32.toNatClampNeg v4))) ((zJ σ 71 (Int32.toNatClampNeg (zI σ 60 (Int32.toNatClampNeg v4)))) + (Int32.toInt64 (zI σ 57 (Int32.toNatClampNeg v4)))))) :
    V g mX12_fly E CX 0 0 144 [(0, .ref 33), (1, .int v1), (2, .int v2), (3, .int v3), (4, .int v4), (5, .int v5)] [] σ := by
  refine V_aload_n dX12_fly_144 rfl ?_
  refine V_getf (fk := 47) (Value.ref 71) ko_X12 rfl w_1102 dX12_fly_145 (by decide) (shk hS 33 rfl) (congrArg Value.ref (shr hS 33 47 71 (by decide))) ?_
  refine V_aload_n dX12_fly_148 rfl ?_
  refine V_getf (fk := 34) (Value.ref 60) ko_X12 rfl w_1089 dX12_fly_149 (by decide) (shk hS 33 rfl) (congrArg Value.ref (shr hS 33 34 60 (by decide))) ?_
  refine V_iload dX12_fly_152 rfl ?_
  refine V_iald dX12_fly_154 (by decide) (shk hS 60 rfl) (vp_l (n := 240) (shl hS 60 rfl) o1) ?_
  refine V_dup2 dX12_fly_155 rfl rfl ?_
  refine V_lald dX12_fly_156 (by decide) (shk hS 71 rfl) (vp_l (n := 10) (shl hS 71 rfl) o2) ?_
  refine V_aload_n dX12_fly_157 rfl ?_
  refine V_getf (fk := 31) (Value.ref 57) ko_X12 rfl w_1086 dX12_fly_158 (by decide) (shk hS 33 rfl) (congrArg Value.ref (shr hS 33 31 57 (by decide))) ?_
  refine V_iload dX12_fly_161 rfl ?_
  refine V_iald dX12_fly_163 (by decide) (shk hS 57 rfl) (vp_l (n := 240) (shl hS 57 rfl) o1) ?_
  refine V_i2l dX12_fly_164 ?_
  refine V_ladd dX12_fly_165 ?_
  refine V_last dX12_fly_166 (by decide) (shk hS 71 rfl) (vp_l (n := 10) (shl hS 71 rfl) o2) ?_
  exact k1
set_option maxRecDepth 100000 in
set_option maxHeartbeats 4000000 in
theorem b_X12_fly_167 {g : GP} {CX : State → Array Value → Prop} {Q : AH → Option Value → Prop} {X : AH → String → Prop} {v1 : Int32} {v2 : Int32} {v3 : Int32} {v4 : Int32} {v5 : Int32} {σ : AH}
    (hS : Sh σ)
    (o1 : vp_in v4 240)
    (o2 : vp_in v1 30)
    (k1 : (¬ (zI σ 58 (Int32.toNatClampNeg v4)) = (zI σ 51 (Int32.toNatClampNeg v1))) → V g mX12_fly (Em g mX12_fly Q X) CX 0 0 185 [(0, .ref 33), (1, .int v1), (2, .int v2), (3, .int v3), (4, .int v4), (5, .int v5)] [] σ)
    (k2 : ((zI σ 58 (Int32.toNatClampNeg v4)) = (zI σ 51 (Int32.toNatClampNeg v1))) → Q σ (some (.int (-1 : Int32)))) :
    V g mX12_fly (Em g mX12_fly Q X) CX 0 0 167 [(0, .ref 33), (1, .int v1), (2, .int v2), (3, .int v3), (4, .int v4), (5, .int v5)] [] σ := by
  refine V_aload_n dX12_fly_167 rfl ?_
  refine V_getf (fk := 32) (Value.ref 58) ko_X12 rfl w_1087 dX12_fly_168 (by decide) (shk hS 33 rfl) (congrArg Value.ref (shr hS 33 32 58 (by decide))) ?_
  refine V_iload dX12_fly_171 rfl ?_
  refine V_iald dX12_fly_173 (by decide) (shk hS 58 rfl) (vp_l (n := 240) (shl hS 58 rfl) o1) ?_
  refine V_aload_n dX12_fly_174 rfl ?_
  refine V_getf (fk := 25) (Value.ref 51) ko_X12 rfl w_1080 dX12_fly_175 (by decide) (shk hS 33 rfl) (congrArg Value.ref (shr hS 33 25 51 (by decide))) ?_
  refine V_iload_n dX12_fly_178 rfl ?_
  refine V_iald dX12_fly_179 (by decide) (shk hS 51 rfl) (vp_l (n := 30) (shl hS 51 rfl) o2) ?_
  refine V_icmp_ne 185 dX12_fly_180 rfl (fun c1 => ?_) (fun c1 => ?_)
  · exact (k1 c1)
  · refine V_iconst (-1 : Int32) dX12_fly_183 (by decide) ?_
    exact V_iret rfl dX12_fly_184 (k2 c1)
set_option maxRecDepth 100000 in
set_option maxHeartbeats 4000000 in
theorem b_X12_fly_185 {g : GP} {CX : State → Array Value → Prop} {Q : AH → Option Value → Prop} {X : AH → String → Prop} {v1 : Int32} {v2 : Int32} {v3 : Int32} {v4 : Int32} {v5 : Int32} {σ : AH}
    (hS : Sh σ)
    (o1 : vp_in (zI σ 33 36) 240)
    (o2 : vp_in v4 240)
    (o3 : vp_in v1 30)
    (k1 : Q (uI (uI (uI (uI (uI (uI σ 62 (Int32.toNatClampNeg (zI σ 33 36)) (0 : Int32)) 63 (Int32.toNatClampNeg (zI σ 33 36)) (zI σ 56 (Int32.toNatClampNeg v4))) 64 (Int32.toNatClampNeg (zI σ 33 36)) (zI σ 51 (Int32.toNatClampNeg v1))) 65 (Int32.toNatClampNeg (zI σ 33 36)) (zI σ 58 (Int32.toNatClampNeg v4))) 61 (Int32.toNatClampNeg v4) (zI σ 33 36)) 33 36 ((zI σ 33 36) + (1 : Int32))) (some (.int (((zI σ 33 36) + (1 : Int32)) - (1 : Int32))))) :
    V g mX12_fly (Em g mX12_fly Q X) CX 0 0 185 [(0, .ref 33), (1, .int v1), (2, .int v2), (3, .int v3), (4, .int v4), (5, .int v5)] [] σ := by
  refine V_aload_n dX12_fly_185 rfl ?_
  refine V_getf (fk := 37) (Value.ref 62) ko_X12 rfl w_1092 dX12_fly_186 (by decide) (shk hS 33 rfl) (congrArg Value.ref (shr hS 33 37 62 (by decide))) ?_
  refine V_aload_n dX12_fly_189 rfl ?_
  refine V_getf (fk := 36) (Value.int (zI σ 33 36)) ko_X12 rfl w_1091 dX12_fly_190 (by decide) (shk hS 33 rfl) rfl ?_
  refine V_iconst (0 : Int32) dX12_fly_193 (by decide) ?_
  refine V_iast dX12_fly_194 (by decide) (shk hS 62 rfl) (vp_l (n := 240) (shl hS 62 rfl) o1) ?_
  refine V_aload_n dX12_fly_195 rfl ?_
  refine V_getf (fk := 38) (Value.ref 63) ko_X12 rfl w_1093 dX12_fly_196 (by decide) (shk (Sh_uI hS) 33 rfl) (congrArg Value.ref (shr (Sh_uI hS) 33 38 63 (by decide))) ?_
  refine V_aload_n dX12_fly_199 rfl ?_
  refine V_getf (fk := 36) (Value.int (zI σ 33 36)) ko_X12 rfl w_1091 dX12_fly_200 (by decide) (shk (Sh_uI hS) 33 rfl) (congrArg Value.int (zI_oa _ _ _ _ _ _ (by decide))) ?_
  refine V_aload_n dX12_fly_203 rfl ?_
  refine V_getf (fk := 30) (Value.ref 56) ko_X12 rfl w_1085 dX12_fly_204 (by decide) (shk (Sh_uI hS) 33 rfl) (congrArg Value.ref (shr (Sh_uI hS) 33 30 56 (by decide))) ?_
  refine V_iload dX12_fly_207 rfl ?_
  refine V_iald dX12_fly_209 (by decide) (shk (Sh_uI hS) 56 rfl) (vp_l (n := 240) (shl (Sh_uI hS) 56 rfl) o2) ?_
  refine V_cast (st' := Value.int (zI σ 56 (Int32.toNatClampNeg v4)) :: [.int (zI σ 33 36), .ref 63]) rfl (congrArg (fun q_ => Value.int q_ :: [.int (zI σ 33 36), .ref 63]) (zI_oa _ _ _ _ _ _ (by decide))) rfl ?_
  refine V_iast dX12_fly_210 (by decide) (shk (Sh_uI hS) 63 rfl) (vp_l (n := 240) (shl (Sh_uI hS) 63 rfl) o1) ?_
  refine V_aload_n dX12_fly_211 rfl ?_
  refine V_getf (fk := 39) (Value.ref 64) ko_X12 rfl w_1094 dX12_fly_212 (by decide) (shk (Sh_uI (Sh_uI hS)) 33 rfl) (congrArg Value.ref (shr (Sh_uI (Sh_uI hS)) 33 39 64 (by decide))) ?_
  refine V_aload_n dX12_fly_215 rfl ?_
  refine V_getf (fk := 36) (Value.int (zI σ 33 36)) ko_X12 rfl w_1091 dX12_fly_216 (by decide) (shk (Sh_uI (Sh_uI hS)) 33 rfl) (congrArg Value.int ((zI_oa _ _ _ _ _ _ (by decide)).trans (zI_oa _ _ _ _ _ _ (by decide)))) ?_
  refine V_aload_n dX12_fly_219 rfl ?_
  refine V_getf (fk := 25) (Value.ref 51) ko_X12 rfl w_1080 dX12_fly_220 (by decide) (shk (Sh_uI (Sh_uI hS)) 33 rfl) (congrArg Value.ref (shr (Sh_uI (Sh_uI hS)) 33 25 51 (by decide))) ?_
  refine V_iload_n dX12_fly_223 rfl ?_
  refine V_iald dX12_fly_224 (by decide) (shk (Sh_uI (Sh_uI hS)) 51 rfl) (vp_l (n := 30) (shl (Sh_uI (Sh_uI hS)) 51 rfl) o3) ?_
  refine V_cast (st' := Value.int (zI σ 51 (Int32.toNatClampNeg v1)) :: [.int (zI σ 33 36), .ref 64]) rfl (congrArg (fun q_ => Value.int q_ :: [.int (zI σ 33 36), .ref 64]) ((zI_oa _ _ _ _ _ _ (by decide)).trans (zI_oa _ _ _ _ _ _ (by decide)))) rfl ?_
  refine V_iast dX12_fly_225 (by decide) (shk (Sh_uI (Sh_uI hS)) 64 rfl) (vp_l (n := 240) (shl (Sh_uI (Sh_uI hS)) 64 rfl) o1) ?_
  refine V_aload_n dX12_fly_226 rfl ?_
  refine V_getf (fk := 40) (Value.ref 65) ko_X12 rfl w_1095 dX12_fly_227 (by decide) (shk (Sh_uI (Sh_uI (Sh_uI hS))) 33 rfl) (congrArg Value.ref (shr (Sh_uI (Sh_uI (Sh_uI hS))) 33 40 65 (by decide))) ?_
  refine V_aload_n dX12_fly_230 rfl ?_
  refine V_getf (fk := 36) (Value.int (zI σ 33 36)) ko_X12 rfl w_1091 dX12_fly_231 (by decide) (shk (Sh_uI (Sh_uI (Sh_uI hS))) 33 rfl) (congrArg Value.int (((zI_oa _ _ _ _ _ _ (by decide)).trans (zI_oa _ _ _ _ _ _ (by decide))).trans (zI_oa _ _ _ _ _ _ (by decide)))) ?_
  refine V_aload_n dX12_fly_234 rfl ?_
  refine V_getf (fk := 32) (Value.ref 58) ko_X12 rfl w_1087 dX12_fly_235 (by decide) (shk (Sh_uI (Sh_uI (Sh_uI hS))) 33 rfl) (congrArg Value.ref (shr (Sh_uI (Sh_uI (Sh_uI hS))) 33 32 58 (by decide))) ?_
  refine V_iload dX12_fly_238 rfl ?_
  refine V_iald dX12_fly_240 (by decide) (shk (Sh_uI (Sh_uI (Sh_uI hS))) 58 rfl) (vp_l (n := 240) (shl (Sh_uI (Sh_uI (Sh_uI hS))) 58 rfl) o2) ?_
  refine V_cast (st' := Value.int (zI σ 58 (Int32.toNatClampNeg v4)) :: [.int (zI σ 33 36), .ref 65]) rfl (congrArg (fun q_ => Value.int q_ :: [.int (zI σ 33 36), .ref 65]) (((zI_oa _ _ _ _ _ _ (by decide)).trans (zI_oa _ _ _ _ _ _ (by decide))).trans (zI_oa _ _ _ _ _ _ (by decide)))) rfl ?_
  refine V_iast dX12_fly_241 (by decide) (shk (Sh_uI (Sh_uI (Sh_uI hS))) 65 rfl) (vp_l (n := 240) (shl (Sh_uI (Sh_uI (Sh_uI hS))) 65 rfl) o1) ?_
  refine V_aload_n dX12_fly_242 rfl ?_
  refine V_getf (fk := 35) (Value.ref 61) ko_X12 rfl w_1090 dX12_fly_243 (by decide) (shk (Sh_uI (Sh_uI (Sh_uI (Sh_uI hS)))) 33 rfl) (congrArg Value.ref (shr (Sh_uI (Sh_uI (Sh_uI (Sh_uI hS)))) 33 35 61 (by decide))) ?_
  refine V_iload dX12_fly_246 rfl ?_
  refine V_aload_n dX12_fly_248 rfl ?_
  refine V_getf (fk := 36) (Value.int (zI σ 33 36)) ko_X12 rfl w_1091 dX12_fly_249 (by decide) (shk (Sh_uI (Sh_uI (Sh_uI (Sh_uI hS)))) 33 rfl) (congrArg Value.int ((((zI_oa _ _ _ _ _ _ (by decide)).trans (zI_oa _ _ _ _ _ _ (by decide))).trans (zI_oa _ _ _ _ _ _ (by decide))).trans (zI_oa _ _ _ _ _ _ (by decide)))) ?_
  refine V_iast dX12_fly_252 (by decide) (shk (Sh_uI (Sh_uI (Sh_uI (Sh_uI hS)))) 61 rfl) (vp_l (n := 240) (shl (Sh_uI (Sh_uI (Sh_uI (Sh_uI hS)))) 61 rfl) o2) ?_
  refine V_aload_n dX12_fly_253 rfl ?_
  refine V_dup dX12_fly_254 rfl ?_
  refine V_getf (fk := 36) (Value.int (zI σ 33 36)) ko_X12 rfl w_1091 dX12_fly_255 (by decide) (shk (Sh_uI (Sh_uI (Sh_uI (Sh_uI (Sh_uI hS))))) 33 rfl) (congrArg Value.int (((((zI_oa _ _ _ _ _ _ (by decide)).trans (zI_oa _ _ _ _ _ _ (by decide))).trans (zI_oa _ _ _ _ _ _ (by decide))).trans (zI_oa _ _ _ _ _ _ (by decide))).trans (zI_oa _ _ _ _ _ _ (by decide)))) ?_
  refine V_iconst (1 : Int32) dX12_fly_258 (by decide) ?_
  refine V_iadd dX12_fly_259 ?_
  refine V_puti (fk := 36) ko_X12 rfl w_1091 (Or.inl rfl) dX12_fly_260 rfl (by decide) (shk (Sh_uI (Sh_uI (Sh_uI (Sh_uI (Sh_uI hS))))) 33 rfl) ?_
  refine V_aload_n dX12_fly_263 rfl ?_
  refine V_getf (fk := 36) (Value.int ((zI σ 33 36) + (1 : Int32))) ko_X12 rfl w_1091 dX12_fly_264 (by decide) (shk (Sh_uI (Sh_uI (Sh_uI (Sh_uI (Sh_uI (Sh_uI hS)))))) 33 rfl) (congrArg Value.int (zI_self _ _ _ _)) ?_
  refine V_iconst (1 : Int32) dX12_fly_267 (by decide) ?_
  refine V_isub dX12_fly_268 ?_
  exact V_iret rfl dX12_fly_269 k1

abbrev cpI (x y : Int32) : Nat := 8 * ix x + ix y
def flT (σ : AH) (x y : Int32) : AH := uI (trH (uI σ 33 49 0) (8 * ix x) 2 (ix y)) 55 (cpI x y) 1
def flJ (σ : AH) (x y : Int32) : AH := uJ (flT σ x y) 70 (ix (zI σ 51 (ix x))) (zJ σ 70 (ix (zI σ 51 (ix x))) - Int32.toInt64 (zI σ 57 (cpI x y)))
/-- a coupon is flown, without its bill -/
def flH (σ : AH) (x y : Int32) : AH := uJ (flJ σ x y) 71 (ix (zI σ 60 (cpI x y))) (zJ σ 71 (ix (zI σ 60 (cpI x y))) + Int32.toInt64 (zI σ 57 (cpI x y)))
theorem flH_I {σ : AH} {x y : Int32} {a k : Nat} (h : a ≠ 55) (h2 : ¬ (a = 33 ∧ k = 49)) : zI (flH σ x y) a k = zI σ a k := by
  rw [flH, zI_uJ, flJ, zI_uJ, flT, zI_uI, if_neg (fun q => h q.1), trH_I, if_neg (fun q => h q.1), zI_uI, if_neg h2]
/-- the bill -/
def blH (τ : AH) (c n : Nat) (sh pr pe bn : Int32) : AH := uI (uI (uI (uI (uI (uI τ 62 n 0) 63 n sh) 64 n pr) 65 n pe) 61 c bn) 33 36 (bn + 1)
abbrev isCp (σ : AH) (x y : Int32) : Prop := isWi x 0 (zI σ 33 23 - 1) ∧ isWi y 0 (zI σ 52 (ix x) - 1)
theorem isCp_n {σ : AH} {x y : Int32} (hN : vp_in (zI σ 33 23) 31) (hM : isWi x 0 (zI σ 33 23 - 1) → vp_in (zI σ 52 (ix x)) 9) (h : isCp σ x y) : ∃ t k, x = nI t ∧ y = nI k ∧ t < 30 ∧ k < 8 ∧ nI t < zI σ 33 23 ∧ nI k < zI σ 52 t := by
  obtain ⟨t, ht, rfl⟩ := vp_in_of (isWi_vp hN (by decide) h.1) (by decide)
  have h9 := hM h.1
  obtain ⟨k, hk, rfl⟩ := vp_in_of (isWi_vp h9 (by decide) h.2) (by decide)
  refine ⟨t, k, rfl, rfl, ht, hk, ?_, ?_⟩
  · obtain ⟨n, hn, en⟩ := vp_in_of hN (by decide)
    have hv := isWi_vp (m := n) (n := zI σ 33 23) (by rw [en]; exact vp_in_nI (by omega) (by omega)) (by omega) h.1
    rw [vp_in_iff, nI_toInt (by omega)] at hv
    rw [en]; exact nI_lt (by omega) (by omega)
  · rw [ix, cl0 (by omega)] at h9
    obtain ⟨n, hn, en⟩ := vp_in_of h9 (by decide)
    have h2 := h.2
    rw [ix, cl0 (by omega)] at h2
    have hv := isWi_vp (m := n) (n := zI σ 52 t) (by rw [en]; exact vp_in_nI (by omega) (by omega)) (by omega) h2
    rw [vp_in_iff, nI_toInt (by omega)] at hv
    rw [en]; exact nI_lt (by omega) (by omega)
theorem cp_idx {t k : Nat} (ht : t < 30) (hk : k < 8) : (8 : Int32) * nI t + nI k = nI (8 * t + k) ∧ vp_in (nI (8 * t + k)) 240 ∧ (nI (8 * t + k)).toNatClampNeg = 8 * t + k := by
  refine ⟨?_, vp_in_nI (by omega) (by decide), cl0 (by omega)⟩
  rw [show (8 : Int32) = nI 8 from rfl, pk_mul, nI_add]
theorem s_X12_fly {g : GP} {Q : AH → Option Value → Prop} {σ : AH} {x y : Int32} (hS : Sh σ) (hN : vp_in (zI σ 33 23) 31) (hM : isWi x 0 (zI σ 33 23 - 1) → vp_in (zI σ 52 (ix x)) 9)
    (hV : isCp σ x y → vp_in (zI σ 51 (ix x)) 5 ∧ vp_in (zI σ 60 (cpI x y)) 10)
    (hB : isCp σ x y → zI σ 55 (cpI x y) = 0 → ¬ zI σ 58 (cpI x y) = zI σ 51 (ix x) → vp_in (zI σ 33 36) 240)
    (q1 : ¬ isCp σ x y → Q (uI σ 33 49 (1 : Int32)) (some (.int 0)))
    (q2 : isCp σ x y → ¬ (zI σ 55 (cpI x y) = 0 ∧ ¬ zI σ 33 0 < zI σ 59 (cpI x y)) → Q (uI σ 33 49 (2 : Int32)) (some (.int 0)))
    (q3 : isCp σ x y → zI σ 55 (cpI x y) = 0 → ¬ zI σ 33 0 < zI σ 59 (cpI x y) → zI σ 58 (cpI x y) = zI σ 51 (ix x) → Q (flH σ x y) (some (.int (-1))))
    (q0 : isCp σ x y → zI σ 55 (cpI x y) = 0 → ¬ zI σ 33 0 < zI σ 59 (cpI x y) → ¬ zI σ 58 (cpI x y) = zI σ 51 (ix x) →
      Q (blH (flH σ x y) (cpI x y) (ix (zI σ 33 36)) (zI σ 56 (cpI x y)) (zI σ 51 (ix x)) (zI σ 58 (cpI x y)) (zI σ 33 36)) (some (.int (zI σ 33 36 + 1 - 1)))) :
    Ct g mX12_fly [.ref 33, .int x, .int y] σ Q := by
  have main : isCp σ x y → V g mX12_fly (Em g mX12_fly Q NX) CT 0 0 0 [(0, .ref 33), (1, .int x), (2, .int y)] [] σ := fun hc => by
    obtain ⟨t, k, rfl, rfl, ht, hk, -, -⟩ := isCp_n hN hM hc
    obtain ⟨i1, i2, i3⟩ := cp_idx ht hk
    have ct : (nI t).toNatClampNeg = t := cl0 (by omega)
    have ck : (nI k).toNatClampNeg = k := cl0 (by omega)
    have vt : vp_in (nI t) 30 := vp_in_nI ht (by decide)
    simp only [cpI, ix, ct, ck] at q2 q3 q0 hV hB
    obtain ⟨v51, v60⟩ := hV hc
    have hT : ∀ d, Sh (trH (uI σ 33 49 0) (8 * t) 2 d) := fun d => Sh_trH (σ := uI σ 33 49 0) hS d
    refine b_X12_fly_0 hS hN (fun c => absurd hc c) (fun c => absurd hc c) (fun _ => by rw [i1]; exact i2) (fun _ c _ => q2 hc (fun q => c (by rw [i1, i3]; exact q.1))) (fun c _ c2 => absurd c c2) (fun _ _ c _ => q2 hc (fun q => q.2 (by rw [i1, i3] at c; exact c))) (fun c _ _ c2 => absurd c c2) (fun _ c c2 _ => ?_) (fun c _ _ c2 => absurd c c2)
    rw [i1, i3] at c c2
    rw [i1, show (8 : Int32) * nI t = nI (8 * t) by rw [show (8 : Int32) = nI 8 from rfl, pk_mul]]
    generalize jb (isWi (nI t) 0 (zI σ 33 23 - 1) ∧ isWi (nI k) 0 (zI σ 52 (ix (nI t)) - 1)) = b3
    refine up_loop (P := fun d => V g mX12_fly (Em g mX12_fly Q NX) CT 0 0 73 [(0, .ref 33), (1, .int (nI t)), (2, .int (nI k)), (3, .int b3), (4, .int (nI (8 * t + k))), (5, .int (nI (8 * t + d)))] [] (trH (uI σ 33 49 0) (8 * t) 2 d)) k ?_ ?_ 0 (Nat.zero_le _)
    · have hle : nI (8 * t + k) ≤ nI (8 * t + k) := Int32.le_refl _
      refine b_X12_fly_73 (hT k) (fun _ => ?_) (fun c => absurd hle c) (fun c => absurd hle c) (fun c => absurd hle c)
      have r0 : ∀ a j, a ≠ 55 → ¬ (a = 33 ∧ j = 49) → zI (uI (trH (uI σ 33 49 0) (8 * t) 2 k) 55 (8 * t + k) 1) a j = zI σ a j := fun a j h h2 => by
        rw [zI_uI, if_neg (fun q => h q.1), trH_I, if_neg (fun q => h q.1), zI_uI, if_neg h2]
      have rJ : zJ (uI (trH (uI σ 33 49 0) (8 * t) 2 k) 55 (8 * t + k) 1) = zJ σ := (trH_N k).2.2.2.1
      refine b_X12_fly_114 (hT k) i2 ?_
      rw [i3]
      refine b_X12_fly_122 (Sh_uI (hT k)) vt ?_ i2 ?_
      · rw [ct, r0 51 _ (by decide) (by omega)]; exact v51
      rw [ct, i3, r0 51 _ (by decide) (by omega), r0 57 _ (by decide) (by omega), rJ]
      refine b_X12_fly_144 (Sh_uJ (Sh_uI (hT k))) i2 ?_ ?_
      · rw [i3, zI_uJ, r0 60 _ (by decide) (by omega)]; exact v60
      rw [i3, zI_uJ, zI_uJ, r0 60 _ (by decide) (by omega), r0 57 _ (by decide) (by omega)]
      have e71 : ∀ p, zJ (uJ (uI (trH (uI σ 33 49 0) (8 * t) 2 k) 55 (8 * t + k) 1) 70 (zI σ 51 t).toNatClampNeg (zJ σ 70 (zI σ 51 t).toNatClampNeg - (zI σ 57 (8 * t + k)).toInt64)) 71 p = zJ σ 71 p := fun p => by
        rw [zJ_uJ, if_neg (fun q => absurd q.1 (by decide)), rJ]
      rw [e71]
      have hH : uJ (uJ (uI (trH (uI σ 33 49 0) (8 * t) 2 k) 55 (8 * t + k) 1) 70 (zI σ 51 t).toNatClampNeg (zJ σ 70 (zI σ 51 t).toNatClampNeg - (zI σ 57 (8 * t + k)).toInt64)) 71 (zI σ 60 (8 * t + k)).toNatClampNeg (zJ σ 71 (zI σ 60 (8 * t + k)).toNatClampNeg + (zI σ 57 (8 * t + k)).toInt64) = flH σ (nI t) (nI k) := by
        simp only [flH, flJ, flT, cpI, ix, ct, ck]
      rw [hH]
      have hSf : Sh (flH σ (nI t) (nI k)) := by rw [← hH]; exact Sh_uJ (Sh_uJ (Sh_uI (hT k)))
      refine b_X12_fly_167 hSf i2 vt (fun c3 => ?_) (fun c3 => ?_)
      · rw [i3, ct, flH_I (by decide) (by omega), flH_I (by decide) (by omega)] at c3
        refine b_X12_fly_185 hSf (by rw [flH_I (by decide) (by decide)]; exact hB hc c c3) i2 vt ?_
        have q := q0 hc c c2 c3
        rw [i3, ct, flH_I (by decide) (by omega), flH_I (by decide) (by omega), flH_I (by decide) (by omega), flH_I (by decide) (by omega)]
        exact q
      · rw [i3, ct, flH_I (by decide) (by omega), flH_I (by decide) (by omega)] at c3
        exact q3 hc c c2 c3
    · intro d hd ih
      have hlt : ¬ nI (8 * t + k) ≤ nI (8 * t + d) := nI_ge (by omega) (by omega)
      have hc5 : (nI (8 * t + d)).toNatClampNeg = 8 * t + d := cl0 (by omega)
      have hn : nI (8 * t + d) + 1 = nI (8 * t + (d + 1)) := nI_1 _
      refine b_X12_fly_73 (hT d) (fun c => absurd c hlt) (fun _ => vp_in_nI (by omega) (by decide)) (fun _ h => ?_) (fun _ h => ?_)
      · rw [hc5] at h; rw [hn, hc5]
        refine V_cast rfl rfl ?_ ih
        rw [trH, if_neg h]
      · rw [hc5] at h; rw [hn, hc5]
        refine V_cast rfl rfl ?_ ih
        rw [trH, if_pos h]
  refine Ct_of (by decide +kernel) rfl rfl ?_
  by_cases hc : isCp σ x y
  · exact main hc
  · exact b_X12_fly_0 hS hN (fun _ c => absurd c hc) (fun _ c => q1 c) (fun c => absurd c hc) (fun c => absurd c hc) (fun c => absurd c hc) (fun c => absurd c hc) (fun c => absurd c hc) (fun c => absurd c hc) (fun c => absurd c hc)
