/-! ===== the reference: what is asked ===== -/
set_option maxRecDepth 100000 in
set_option maxHeartbeats 4000000 in
theorem b_X12_pass_0 {g : GP} {CX : State → Array Value → Prop} {Q : AH → Option Value → Prop} {X : AH → String → Prop} {v1 : Int32} {σ : AH}
    (hS : Sh σ)
    (k1 : ((999 : Int32) < ((zI σ 33 0) + v1)) → (isWi v1 (1 : Int32) (100 : Int32)) → Q (uI σ 33 49 (2 : Int32)) (some (.int (0 : Int32))))
    (k2 : ((999 : Int32) < ((zI σ 33 0) + v1)) → (¬ (isWi v1 (1 : Int32) (100 : Int32))) → Q (uI σ 33 49 (1 : Int32)) (some (.int (0 : Int32))))
    (k3 : (¬ (999 : Int32) < ((zI σ 33 0) + v1)) → (isWi v1 (1 : Int32) (100 : Int32)) → Q (uI (uI σ 33 49 (0 : Int32)) 33 0 ((zI σ 33 0) + v1)) (some (.int ((zI σ 33 0) + v1))))
    (k4 : (¬ (999 : Int32) < ((zI σ 33 0) + v1)) → (¬ (isWi v1 (1 : Int32) (100 : Int32))) → Q (uI σ 33 49 (1 : Int32)) (some (.int (0 : Int32)))) :
    V g mX12_pass (Em g mX12_pass Q X) CX 0 0 0 [(0, .ref 33), (1, .int v1)] [] σ := by
  refine V_aload_n dX12_pass_0 rfl ?_
  refine V_iload_n dX12_pass_1 rfl ?_
  refine V_iconst (1 : Int32) dX12_pass_2 (by decide) ?_
  refine V_bipush (100 : Int32) dX12_pass_3 (by decide) ?_
  refine V_callS1 (as := [.int v1, .int (1 : Int32), .int (100 : Int32)]) (k' := 0) (n' := 0) (s_X12_in) mw_X12_in w_1219 w_1218 ar_X12_in rfl ⟨rfl, rfl, rfl, rfl, rfl⟩ dX12_pass_5 ?_
  refine V_aload_n dX12_pass_8 rfl ?_
  refine V_getf (fk := 0) (Value.int (zI σ 33 0)) ko_X12 rfl w_1055 dX12_pass_9 (by decide) (shk hS 33 rfl) rfl ?_
  refine V_iload_n dX12_pass_12 rfl ?_
  refine V_iadd dX12_pass_13 ?_
  refine V_sipush (999 : Int32) dX12_pass_14 (by decide) ?_
  refine V_icmp_gt 24 dX12_pass_17 rfl (fun c1 => ?_) (fun c1 => ?_)
  · refine V_iconst (0 : Int32) dX12_pass_24 (by decide) ?_
    refine V_iconst (1 : Int32) dX12_pass_25 (by decide) ?_
    by_cases c2 : isWi v1 (1 : Int32) (100 : Int32)
    · refine V_cast (st' := [.int (1 : Int32), .int (0 : Int32), .int (1 : Int32), .ref 33]) rfl (by rw [jb_t c2]) rfl ?_
      refine V_callV1 (as := [.int (1 : Int32), .int (0 : Int32), .int (1 : Int32)]) (k' := 0) (n' := 0) (s_goes2 hS) mw_X12_goes ko_X12 rfl w_1223 w_20 w_1221 ar_X12_goes rfl ⟨rfl, rfl, rfl, rfl, rfl⟩ dX12_pass_26 (by decide) (shk hS 33 rfl) ?_
      refine V_if_ne 34 dX12_pass_29 rfl (fun z_ => (by first | exact absurd (by decide) z_ | exact absurd z_ (by decide))) (fun _ => ?_)
      refine V_iconst (0 : Int32) dX12_pass_32 (by decide) ?_
      exact V_iret rfl dX12_pass_33 (k1 c1 c2)
    · refine V_cast (st' := [.int (1 : Int32), .int (0 : Int32), .int (0 : Int32), .ref 33]) rfl (by rw [jb_f c2]) rfl ?_
      refine V_callV1 (as := [.int (0 : Int32), .int (0 : Int32), .int (1 : Int32)]) (k' := 0) (n' := 0) (s_goes1 hS) mw_X12_goes ko_X12 rfl w_1223 w_20 w_1221 ar_X12_goes rfl ⟨rfl, rfl, rfl, rfl, rfl⟩ dX12_pass_26 (by decide) (shk hS 33 rfl) ?_
      refine V_if_ne 34 dX12_pass_29 rfl (fun z_ => (by first | exact absurd (by decide) z_ | exact absurd z_ (by decide))) (fun _ => ?_)
      refine V_iconst (0 : Int32) dX12_pass_32 (by decide) ?_
      exact V_iret rfl dX12_pass_33 (k2 c1 c2)
  · refine V_iconst (1 : Int32) dX12_pass_20 (by decide) ?_
    refine V_goto 25 dX12_pass_21 rfl ?_
    refine V_iconst (1 : Int32) dX12_pass_25 (by decide) ?_
    by_cases c3 : isWi v1 (1 : Int32) (100 : Int32)
    · refine V_cast (st' := [.int (1 : Int32), .int (1 : Int32), .int (1 : Int32), .ref 33]) rfl (by rw [jb_t c3]) rfl ?_
      refine V_callV1 (as := [.int (1 : Int32), .int (1 : Int32), .int (1 : Int32)]) (k' := 0) (n' := 0) (s_goes0 hS) mw_X12_goes ko_X12 rfl w_1223 w_20 w_1221 ar_X12_goes rfl ⟨rfl, rfl, rfl, rfl, rfl⟩ dX12_pass_26 (by decide) (shk hS 33 rfl) ?_
      refine V_if_ne 34 dX12_pass_29 rfl (fun _ => ?_) (fun z_ => (by first | exact absurd (by decide) z_ | exact absurd z_ (by decide)))
      refine V_aload_n dX12_pass_34 rfl ?_
      refine V_dup dX12_pass_35 rfl ?_
      refine V_getf (fk := 0) (Value.int (zI σ 33 0)) ko_X12 rfl w_1055 dX12_pass_36 (by decide) (shk (Sh_uI hS) 33 rfl) (congrArg Value.int (zI_oth _ _ _ _ _ _ (by decide))) ?_
      refine V_iload_n dX12_pass_39 rfl ?_
      refine V_iadd dX12_pass_40 ?_
      refine V_puti (fk := 0) ko_X12 rfl w_1055 (Or.inl rfl) dX12_pass_41 rfl (by decide) (shk (Sh_uI hS) 33 rfl) ?_
      refine V_aload_n dX12_pass_44 rfl ?_
      refine V_getf (fk := 0) (Value.int ((zI σ 33 0) + v1)) ko_X12 rfl w_1055 dX12_pass_45 (by decide) (shk (Sh_uI (Sh_uI hS)) 33 rfl) (congrArg Value.int (zI_self _ _ _ _)) ?_
      exact V_iret rfl dX12_pass_48 (k3 c1 c3)
    · refine V_cast (st' := [.int (1 : Int32), .int (1 : Int32), .int (0 : Int32), .ref 33]) rfl (by rw [jb_f c3]) rfl ?_
      refine V_callV1 (as := [.int (0 : Int32), .int (1 : Int32), .int (1 : Int32)]) (k' := 0) (n' := 0) (s_goes1 hS) mw_X12_goes ko_X12 rfl w_1223 w_20 w_1221 ar_X12_goes rfl ⟨rfl, rfl, rfl, rfl, rfl⟩ dX12_pass_26 (by decide) (shk hS 33 rfl) ?_
      refine V_if_ne 34 dX12_pass_29 rfl (fun z_ => (by first | exact absurd (by decide) z_ | exact absurd z_ (by decide))) (fun _ => ?_)
      refine V_iconst (0 : Int32) dX12_pass_32 (by decide) ?_
      exact V_iret rfl dX12_pass_33 (k4 c1 c3)

set_option maxRecDepth 100000 in
set_option maxHeartbeats 4000000 in
theorem b_X12_isBill_0 {g : GP} {CX : State → Array Value → Prop} {Q : AH → Option Value → Prop} {X : AH → String → Prop} {v1 : Int32} {σ : AH}
    (hS : Sh σ)
    (k1 : Q σ (some (.int (jb (isWi v1 (0 : Int32) ((zI σ 33 36) - (1 : Int32))))))) :
    V g mX12_isBill (Em g mX12_isBill Q X) CX 0 0 0 [(0, .ref 33), (1, .int v1)] [] σ := by
  refine V_iload_n dX12_isBill_0 rfl ?_
  refine V_iconst (0 : Int32) dX12_isBill_1 (by decide) ?_
  refine V_aload_n dX12_isBill_2 rfl ?_
  refine V_getf (fk := 36) (Value.int (zI σ 33 36)) ko_X12 rfl w_1091 dX12_isBill_3 (by decide) (shk hS 33 rfl) rfl ?_
  refine V_iconst (1 : Int32) dX12_isBill_6 (by decide) ?_
  refine V_isub dX12_isBill_7 ?_
  refine V_callS1 (as := [.int v1, .int (0 : Int32), .int ((zI σ 33 36) - (1 : Int32))]) (k' := 0) (n' := 0) (s_X12_in) mw_X12_in w_1219 w_1218 ar_X12_in rfl ⟨rfl, rfl, rfl, rfl, rfl⟩ dX12_isBill_8 ?_
  exact V_zret rfl dX12_isBill_11 (jb_nar _) k1

theorem s_X12_isBill {g : GP} {σ : AH} {x : Int32} (hS : Sh σ) : Ct g mX12_isBill [.ref 33, .int x] σ (FQ σ (some (.int (jb (isWi x 0 (zI σ 33 36 - 1)))))) :=
  Ct_of (by decide +kernel) rfl rfl (b_X12_isBill_0 hS fq)
set_option maxRecDepth 100000 in
set_option maxHeartbeats 4000000 in
theorem b_X12_reject_0 {g : GP} {CX : State → Array Value → Prop} {Q : AH → Option Value → Prop} {X : AH → String → Prop} {v1 : Int32} {σ : AH}
    (hS : Sh σ)
    (k1 : (¬ (isWi v1 0 ((zI σ 33 36) - 1))) → (isWi v1 0 ((zI σ 33 36) - 1)) → Q (uI σ 33 49 (2 : Int32)) (some (.int (0 : Int32))))
    (k2 : (¬ (isWi v1 0 ((zI σ 33 36) - 1))) → (¬ (isWi v1 0 ((zI σ 33 36) - 1))) → Q (uI σ 33 49 (1 : Int32)) (some (.int (0 : Int32))))
    (o1 : (isWi v1 0 ((zI σ 33 36) - 1)) → vp_in v1 240)
    (k3 : (isWi v1 0 ((zI σ 33 36) - 1)) → (¬ (zI σ 62 (Int32.toNatClampNeg v1)) = (1 : Int32)) → (isWi v1 0 ((zI σ 33 36) - 1)) → Q (uI σ 33 49 (2 : Int32)) (some (.int (0 : Int32))))
    (k4 : (isWi v1 0 ((zI σ 33 36) - 1)) → (¬ (zI σ 62 (Int32.toNatClampNeg v1)) = (1 : Int32)) → (¬ (isWi v1 0 ((zI σ 33 36) - 1))) → Q (uI σ 33 49 (1 : Int32)) (some (.int (0 : Int32))))
    (k5 : (isWi v1 0 ((zI σ 33 36) - 1)) → ((zI σ 62 (Int32.toNatClampNeg v1)) = (1 : Int32)) → ((zI σ 67 (Int32.toNatClampNeg v1)) < ((zI σ 33 43) - (1 : Int32))) → (isWi v1 0 ((zI σ 33 36) - 1)) → Q (uI σ 33 49 (2 : Int32)) (some (.int (0 : Int32))))
    (k6 : (isWi v1 0 ((zI σ 33 36) - 1)) → ((zI σ 62 (Int32.toNatClampNeg v1)) = (1 : Int32)) → ((zI σ 67 (Int32.toNatClampNeg v1)) < ((zI σ 33 43) - (1 : Int32))) → (¬ (isWi v1 0 ((zI σ 33 36) - 1))) → Q (uI σ 33 49 (1 : Int32)) (some (.int (0 : Int32))))
    (k7 : (isWi v1 0 ((zI σ 33 36) - 1)) → ((zI σ 62 (Int32.toNatClampNeg v1)) = (1 : Int32)) → (¬ (zI σ 67 (Int32.toNatClampNeg v1)) < ((zI σ 33 43) - (1 : Int32))) → (isWi v1 0 ((zI σ 33 36) - 1)) → Q (uI (uI (uI σ 33 49 (0 : Int32)) 62 (Int32.toNatClampNeg v1) (2 : Int32)) 66 (Int32.toNatClampNeg v1) ((zI σ 66 (Int32.toNatClampNeg v1)) + (1 : Int32))) (some (.int (zI (uI (uI (uI σ 33 49 (0 : Int32)) 62 (Int32.toNatClampNeg v1) (2 : Int32)) 66 (Int32.toNatClampNeg v1) ((zI σ 66 (Int32.toNatClampNeg v1)) + (1 : Int32))) 66 (Int32.toNatClampNeg v1)))))
    (k8 : (isWi v1 0 ((zI σ 33 36) - 1)) → ((zI σ 62 (Int32.toNatClampNeg v1)) = (1 : Int32)) → (¬ (zI σ 67 (Int32.toNatClampNeg v1)) < ((zI σ 33 43) - (1 : Int32))) → (¬ (isWi v1 0 ((zI σ 33 36) - 1))) → Q (uI σ 33 49 (1 : Int32)) (some (.int (0 : Int32)))) :
    V g mX12_reject (Em g mX12_reject Q X) CX 0 0 0 [(0, .ref 33), (1, .int v1)] [] σ := by
  refine V_aload_n dX12_reject_0 rfl ?_
  refine V_iload_n dX12_reject_1 rfl ?_
  refine V_callV1 (as := [.int v1]) (k' := 0) (n' := 0) (s_X12_isBill hS) mw_X12_isBill ko_X12 rfl w_1410 w_44 w_1408 ar_X12_isBill rfl ⟨rfl, rfl, rfl, rfl, rfl⟩ dX12_reject_2 (by decide) (shk hS 33 rfl) ?_
  refine V_istore_n [(0, .ref 33), (1, .int v1), (2, .int (jb (isWi v1 0 ((zI σ 33 36) - 1))))] dX12_reject_5 rfl rfl ?_
  refine V_aload_n dX12_reject_6 rfl ?_
  refine V_iload_n dX12_reject_7 rfl ?_
  refine V_iload_n dX12_reject_8 rfl ?_
  refine V_if_eq 57 dX12_reject_9 rfl (fun c1 => ?_) (fun c1 => ?_)
  · replace c1 := jb_0.mp c1
    refine V_iconst (0 : Int32) dX12_reject_57 (by decide) ?_
    refine V_iconst (1 : Int32) dX12_reject_58 (by decide) ?_
    by_cases c2 : isWi v1 0 ((zI σ 33 36) - 1)
    · refine V_cast (st' := [.int (1 : Int32), .int (0 : Int32), .int (1 : Int32), .ref 33]) rfl (by rw [jb_t c2]) rfl ?_
      refine V_callV1 (as := [.int (1 : Int32), .int (0 : Int32), .int (1 : Int32)]) (k' := 0) (n' := 0) (s_goes2 hS) mw_X12_goes ko_X12 rfl w_1223 w_20 w_1221 ar_X12_goes rfl ⟨rfl, rfl, rfl, rfl, rfl⟩ dX12_reject_59 (by decide) (shk hS 33 rfl) ?_
      refine V_if_ne 67 dX12_reject_62 rfl (fun z_ => (by first | exact absurd (by decide) z_ | exact absurd z_ (by decide))) (fun _ => ?_)
      refine V_iconst (0 : Int32) dX12_reject_65 (by decide) ?_
      exact V_iret rfl dX12_reject_66 (k1 c1 c2)
    · refine V_cast (st' := [.int (1 : Int32), .int (0 : Int32), .int (0 : Int32), .ref 33]) rfl (by rw [jb_f c2]) rfl ?_
      refine V_callV1 (as := [.int (0 : Int32), .int (0 : Int32), .int (1 : Int32)]) (k' := 0) (n' := 0) (s_goes1 hS) mw_X12_goes ko_X12 rfl w_1223 w_20 w_1221 ar_X12_goes rfl ⟨rfl, rfl, rfl, rfl, rfl⟩ dX12_reject_59 (by decide) (shk hS 33 rfl) ?_
      refine V_if_ne 67 dX12_reject_62 rfl (fun z_ => (by first | exact absurd (by decide) z_ | exact absurd z_ (by decide))) (fun _ => ?_)
      refine V_iconst (0 : Int32) dX12_reject_65 (by decide) ?_
      exact V_iret rfl dX12_reject_66 (k2 c1 c2)
  · replace c1 := jb_n.mp c1
    refine V_aload_n dX12_reject_12 rfl ?_
    refine V_getf (fk := 37) (Value.ref 62) ko_X12 rfl w_1092 dX12_reject_13 (by decide) (shk hS 33 rfl) (congrArg Value.ref (shr hS 33 37 62 (by decide))) ?_
    refine V_iload_n dX12_reject_16 rfl ?_
    refine V_if_eq 24 dX12_reject_17 rfl (fun z_ => (by have y_ := jb_0.mp z_; first | exact absurd (c1) y_ | exact absurd y_ (c1))) (fun _ => ?_)
    refine V_iload_n dX12_reject_20 rfl ?_
    refine V_goto 25 dX12_reject_21 rfl ?_
    refine V_iald dX12_reject_25 (by decide) (shk hS 62 rfl) (vp_l (n := 240) (shl hS 62 rfl) (o1 c1)) ?_
    refine V_iconst (1 : Int32) dX12_reject_26 (by decide) ?_
    refine V_icmp_ne 57 dX12_reject_27 rfl (fun c4 => ?_) (fun c4 => ?_)
    · refine V_iconst (0 : Int32) dX12_reject_57 (by decide) ?_
      refine V_iconst (1 : Int32) dX12_reject_58 (by decide) ?_
      by_cases c5 : isWi v1 0 ((zI σ 33 36) - 1)
      · refine V_cast (st' := [.int (1 : Int32), .int (0 : Int32), .int (1 : Int32), .ref 33]) rfl (by rw [jb_t c5]) rfl ?_
        refine V_callV1 (as := [.int (1 : Int32), .int (0 : Int32), .int (1 : Int32)]) (k' := 0) (n' := 0) (s_goes2 hS) mw_X12_goes ko_X12 rfl w_1223 w_20 w_1221 ar_X12_goes rfl ⟨rfl, rfl, rfl, rfl, rfl⟩ dX12_reject_59 (by decide) (shk hS 33 rfl) ?_
        refine V_if_ne 67 dX12_reject_62 rfl (fun z_ => (by first | exact absurd (by decide) z_ | exact absurd z_ (by decide))) (fun _ => ?_)
        refine V_iconst (0 : Int32) dX12_reject_65 (by decide) ?_
        exact V_iret rfl dX12_reject_66 (k3 c1 c4 c5)
      · refine V_cast (st' := [.int (1 : Int32), .int (0 : Int32), .int (0 : Int32), .ref 33]) rfl (by rw [jb_f c5]) rfl ?_
        refine V_callV1 (as := [.int (0 : Int32), .int (0 : Int32), .int (1 : Int32)]) (k' := 0) (n' := 0) (s_goes1 hS) mw_X12_goes ko_X12 rfl w_1223 w_20 w_1221 ar_X12_goes rfl ⟨rfl, rfl, rfl, rfl, rfl⟩ dX12_reject_59 (by decide) (shk hS 33 rfl) ?_
        refine V_if_ne 67 dX12_reject_62 rfl (fun z_ => (by first | exact absurd (by decide) z_ | exact absurd z_ (by decide))) (fun _ => ?_)
        refine V_iconst (0 : Int32) dX12_reject_65 (by decide) ?_
        exact V_iret rfl dX12_reject_66 (k4 c1 c4 c5)
    · refine V_aload_n dX12_reject_30 rfl ?_
      refine V_getf (fk := 42) (Value.ref 67) ko_X12 rfl w_1097 dX12_reject_31 (by decide) (shk hS 33 rfl) (congrArg Value.ref (shr hS 33 42 67 (by decide))) ?_
      refine V_iload_n dX12_reject_34 rfl ?_
      refine V_if_eq 42 dX12_reject_35 rfl (fun z_ => (by have y_ := jb_0.mp z_; first | exact absurd (c1) y_ | exact absurd y_ (c1))) (fun _ => ?_)
      refine V_iload_n dX12_reject_38 rfl ?_
      refine V_goto 43 dX12_reject_39 rfl ?_
      refine V_iald dX12_reject_43 (by decide) (shk hS 67 rfl) (vp_l (n := 240) (shl hS 67 rfl) (o1 c1)) ?_
      refine V_aload_n dX12_reject_44 rfl ?_
      refine V_getf (fk := 43) (Value.int (zI σ 33 43)) ko_X12 rfl w_1098 dX12_reject_45 (by decide) (shk hS 33 rfl) rfl ?_
      refine V_iconst (1 : Int32) dX12_reject_48 (by decide) ?_
      refine V_isub dX12_reject_49 ?_
      refine V_icmp_lt 57 dX12_reject_50 rfl (fun c7 => ?_) (fun c7 => ?_)
      · refine V_iconst (0 : Int32) dX12_reject_57 (by decide) ?_
        refine V_iconst (1 : Int32) dX12_reject_58 (by decide) ?_
        by_cases c8 : isWi v1 0 ((zI σ 33 36) - 1)
        · refine V_cast (st' := [.int (1 : Int32), .int (0 : Int32), .int (1 : Int32), .ref 33]) rfl (by rw [jb_t c8]) rfl ?_
          refine V_callV1 (as := [.int (1 : Int32), .int (0 : Int32), .int (1 : Int32)]) (k' := 0) (n' := 0) (s_goes2 hS) mw_X12_goes ko_X12 rfl w_1223 w_20 w_1221 ar_X12_goes rfl ⟨rfl, rfl, rfl, rfl, rfl⟩ dX12_reject_59 (by decide) (shk hS 33 rfl) ?_
          refine V_if_ne 67 dX12_reject_62 rfl (fun z_ => (by first | exact absurd (by decide) z_ | exact absurd z_ (by decide))) (fun _ => ?_)
          refine V_iconst (0 : Int32) dX12_reject_65 (by decide) ?_
          exact V_iret rfl dX12_reject_66 (k5 c1 c4 c7 c8)
        · refine V_cast (st' := [.int (1 : Int32), .int (0 : Int32), .int (0 : Int32), .ref 33]) rfl (by rw [jb_f c8]) rfl ?_
          refine V_callV1 (as := [.int (0 : Int32), .int (0 : Int32), .int (1 : Int32)]) (k' := 0) (n' := 0) (s_goes1 hS) mw_X12_goes ko_X12 rfl w_1223 w_20 w_1221 ar_X12_goes rfl ⟨rfl, rfl, rfl, rfl, rfl⟩ dX12_reject_59 (by decide) (shk hS 33 rfl) ?_
          refine V_if_ne 67 dX12_reject_62 rfl (fun z_ => (by first | exact absurd (by decide) z_ | exact absurd z_ (by decide))) (fun _ => ?_)
          refine V_iconst (0 : Int32) dX12_reject_65 (by decide) ?_
          exact V_iret rfl dX12_reject_66 (k6 c1 c4 c7 c8)
      · refine V_iconst (1 : Int32) dX12_reject_53 (by decide) ?_
        refine V_goto 58 dX12_reject_54 rfl ?_
        refine V_iconst (1 : Int32) dX12_reject_58 (by decide) ?_
        by_cases c9 : isWi v1 0 ((zI σ 33 36) - 1)
        · refine V_cast (st' := [.int (1 : Int32), .int (1 : Int32), .int (1 : Int32), .ref 33]) rfl (by rw [jb_t c9]) rfl ?_
          refine V_callV1 (as := [.int (1 : Int32), .int (1 : Int32), .int (1 : Int32)]) (k' := 0) (n' := 0) (s_goes0 hS) mw_X12_goes ko_X12 rfl w_1223 w_20 w_1221 ar_X12_goes rfl ⟨rfl, rfl, rfl, rfl, rfl⟩ dX12_reject_59 (by decide) (shk hS 33 rfl) ?_
          refine V_if_ne 67 dX12_reject_62 rfl (fun _ => ?_) (fun z_ => (by first | exact absurd (by decide) z_ | exact absurd z_ (by decide)))
          refine V_aload_n dX12_reject_67 rfl ?_
          refine V_getf (fk := 37) (Value.ref 62) ko_X12 rfl w_1092 dX12_reject_68 (by decide) (shk (Sh_uI hS) 33 rfl) (congrArg Value.ref (shr (Sh_uI hS) 33 37 62 (by decide))) ?_
          refine V_iload_n dX12_reject_71 rfl ?_
          refine V_iconst (2 : Int32) dX12_reject_72 (by decide) ?_
          refine V_iast dX12_reject_73 (by decide) (shk (Sh_uI hS) 62 rfl) (vp_l (n := 240) (shl (Sh_uI hS) 62 rfl) (o1 c1)) ?_
          refine V_aload_n dX12_reject_74 rfl ?_
          refine V_getf (fk := 41) (Value.ref 66) ko_X12 rfl w_1096 dX12_reject_75 (by decide) (shk (Sh_uI (Sh_uI hS)) 33 rfl) (congrArg Value.ref (shr (Sh_uI (Sh_uI hS)) 33 41 66 (by decide))) ?_
          refine V_iload_n dX12_reject_78 rfl ?_
          refine V_dup2 dX12_reject_79 rfl rfl ?_
          refine V_iald dX12_reject_80 (by decide) (shk (Sh_uI (Sh_uI hS)) 66 rfl) (vp_l (n := 240) (shl (Sh_uI (Sh_uI hS)) 66 rfl) (o1 c1)) ?_
          refine V_cast (st' := Value.int (zI σ 66 (Int32.toNatClampNeg v1)) :: [.int v1, .ref 66]) rfl (congrArg (fun q_ => Value.int q_ :: [.int v1, .ref 66]) ((zI_oa _ _ _ _ _ _ (by decide)).trans (zI_oa _ _ _ _ _ _ (by decide)))) rfl ?_
          refine V_iconst (1 : Int32) dX12_reject_81 (by decide) ?_
          refine V_iadd dX12_reject_82 ?_
          refine V_iast dX12_reject_83 (by decide) (shk (Sh_uI (Sh_uI hS)) 66 rfl) (vp_l (n := 240) (shl (Sh_uI (Sh_uI hS)) 66 rfl) (o1 c1)) ?_
          refine V_aload_n dX12_reject_84 rfl ?_
          refine V_getf (fk := 41) (Value.ref 66) ko_X12 rfl w_1096 dX12_reject_85 (by decide) (shk (Sh_uI (Sh_uI (Sh_uI hS))) 33 rfl) (congrArg Value.ref (shr (Sh_uI (Sh_uI (Sh_uI hS))) 33 41 66 (by decide))) ?_
          refine V_iload_n dX12_reject_88 rfl ?_
          refine V_iald dX12_reject_89 (by decide) (shk (Sh_uI (Sh_uI (Sh_uI hS))) 66 rfl) (vp_l (n := 240) (shl (Sh_uI (Sh_uI (Sh_uI hS))) 66 rfl) (o1 c1)) ?_
          exact V_iret rfl dX12_reject_90 (k7 c1 c4 c7 c9)
        · refine V_cast (st' := [.int (1 : Int32), .int (1 : Int32), .int (0 : Int32), .ref 33]) rfl (by rw [jb_f c9]) rfl ?_
          refine V_callV1 (as := [.int (0 : Int32), .int (1 : Int32), .int (1 : Int32)]) (k' := 0) (n' := 0) (s_goes1 hS) mw_X12_goes ko_X12 rfl w_1223 w_20 w_1221 ar_X12_goes rfl ⟨rfl, rfl, rfl, rfl, rfl⟩ dX12_reject_59 (by decide) (shk hS 33 rfl) ?_
          refine V_if_ne 67 dX12_reject_62 rfl (fun z_ => (by first | exact absurd (by decide) z_ | exact absurd z_ (by decide))) (fun _ => ?_)
          refine V_iconst (0 : Int32) dX12_reject_65 (by decide) ?_
          exact V_iret rfl dX12_reject_66 (k8 c1 c4 c7 c9)

set_option maxRecDepth 100000 in
set_option maxHeartbeats 4000000 in
theorem b_X12_rebill_0 {g : GP} {CX : State → Array Value → Prop} {Q : AH → Option Value → Prop} {X : AH → String → Prop} {v1 : Int32} {σ : AH}
    (hS : Sh σ)
    (k1 : (¬ (isWi v1 0 ((zI σ 33 36) - 1))) → (isWi v1 0 ((zI σ 33 36) - 1)) → Q (uI σ 33 49 (2 : Int32)) none)
    (k2 : (¬ (isWi v1 0 ((zI σ 33 36) - 1))) → (¬ (isWi v1 0 ((zI σ 33 36) - 1))) → Q (uI σ 33 49 (1 : Int32)) none)
    (o1 : (isWi v1 0 ((zI σ 33 36) - 1)) → vp_in v1 240)
    (k3 : (isWi v1 0 ((zI σ 33 36) - 1)) → (¬ (zI σ 62 (Int32.toNatClampNeg v1)) = (3 : Int32)) → (isWi v1 0 ((zI σ 33 36) - 1)) → Q (uI σ 33 49 (2 : Int32)) none)
    (k4 : (isWi v1 0 ((zI σ 33 36) - 1)) → (¬ (zI σ 62 (Int32.toNatClampNeg v1)) = (3 : Int32)) → (¬ (isWi v1 0 ((zI σ 33 36) - 1))) → Q (uI σ 33 49 (1 : Int32)) none)
    (k5 : (isWi v1 0 ((zI σ 33 36) - 1)) → ((zI σ 62 (Int32.toNatClampNeg v1)) = (3 : Int32)) → (isWi v1 0 ((zI σ 33 36) - 1)) → Q (uI (uI σ 33 49 (0 : Int32)) 62 (Int32.toNatClampNeg v1) (0 : Int32)) none)
    (k6 : (isWi v1 0 ((zI σ 33 36) - 1)) → ((zI σ 62 (Int32.toNatClampNeg v1)) = (3 : Int32)) → (¬ (isWi v1 0 ((zI σ 33 36) - 1))) → Q (uI σ 33 49 (1 : Int32)) none) :
    V g mX12_rebill (Em g mX12_rebill Q X) CX 0 0 0 [(0, .ref 33), (1, .int v1)] [] σ := by
  refine V_aload_n dX12_rebill_0 rfl ?_
  refine V_iload_n dX12_rebill_1 rfl ?_
  refine V_callV1 (as := [.int v1]) (k' := 0) (n' := 0) (s_X12_isBill hS) mw_X12_isBill ko_X12 rfl w_1410 w_44 w_1408 ar_X12_isBill rfl ⟨rfl, rfl, rfl, rfl, rfl⟩ dX12_rebill_2 (by decide) (shk hS 33 rfl) ?_
  refine V_istore_n [(0, .ref 33), (1, .int v1), (2, .int (jb (isWi v1 0 ((zI σ 33 36) - 1))))] dX12_rebill_5 rfl rfl ?_
  refine V_aload_n dX12_rebill_6 rfl ?_
  refine V_iload_n dX12_rebill_7 rfl ?_
  refine V_iload_n dX12_rebill_8 rfl ?_
  refine V_if_eq 34 dX12_rebill_9 rfl (fun c1 => ?_) (fun c1 => ?_)
  · replace c1 := jb_0.mp c1
    refine V_iconst (0 : Int32) dX12_rebill_34 (by decide) ?_
    refine V_iconst (1 : Int32) dX12_rebill_35 (by decide) ?_
    by_cases c2 : isWi v1 0 ((zI σ 33 36) - 1)
    · refine V_cast (st' := [.int (1 : Int32), .int (0 : Int32), .int (1 : Int32), .ref 33]) rfl (by rw [jb_t c2]) rfl ?_
      refine V_callV1 (as := [.int (1 : Int32), .int (0 : Int32), .int (1 : Int32)]) (k' := 0) (n' := 0) (s_goes2 hS) mw_X12_goes ko_X12 rfl w_1223 w_20 w_1221 ar_X12_goes rfl ⟨rfl, rfl, rfl, rfl, rfl⟩ dX12_rebill_36 (by decide) (shk hS 33 rfl) ?_
      refine V_if_eq 49 dX12_rebill_39 rfl (fun _ => ?_) (fun z_ => (by first | exact absurd (by decide) z_ | exact absurd z_ (by decide)))
      exact V_vret rfl dX12_rebill_49 (k1 c1 c2)
    · refine V_cast (st' := [.int (1 : Int32), .int (0 : Int32), .int (0 : Int32), .ref 33]) rfl (by rw [jb_f c2]) rfl ?_
      refine V_callV1 (as := [.int (0 : Int32), .int (0 : Int32), .int (1 : Int32)]) (k' := 0) (n' := 0) (s_goes1 hS) mw_X12_goes ko_X12 rfl w_1223 w_20 w_1221 ar_X12_goes rfl ⟨rfl, rfl, rfl, rfl, rfl⟩ dX12_rebill_36 (by decide) (shk hS 33 rfl) ?_
      refine V_if_eq 49 dX12_rebill_39 rfl (fun _ => ?_) (fun z_ => (by first | exact absurd (by decide) z_ | exact absurd z_ (by decide)))
      exact V_vret rfl dX12_rebill_49 (k2 c1 c2)
  · replace c1 := jb_n.mp c1
    refine V_aload_n dX12_rebill_12 rfl ?_
    refine V_getf (fk := 37) (Value.ref 62) ko_X12 rfl w_1092 dX12_rebill_13 (by decide) (shk hS 33 rfl) (congrArg Value.ref (shr hS 33 37 62 (by decide))) ?_
    refine V_iload_n dX12_rebill_16 rfl ?_
    refine V_if_eq 24 dX12_rebill_17 rfl (fun z_ => (by have y_ := jb_0.mp z_; first | exact absurd (c1) y_ | exact absurd y_ (c1))) (fun _ => ?_)
    refine V_iload_n dX12_rebill_20 rfl ?_
    refine V_goto 25 dX12_rebill_21 rfl ?_
    refine V_iald dX12_rebill_25 (by decide) (shk hS 62 rfl) (vp_l (n := 240) (shl hS 62 rfl) (o1 c1)) ?_
    refine V_iconst (3 : Int32) dX12_rebill_26 (by decide) ?_
    refine V_icmp_ne 34 dX12_rebill_27 rfl (fun c4 => ?_) (fun c4 => ?_)
    · refine V_iconst (0 : Int32) dX12_rebill_34 (by decide) ?_
      refine V_iconst (1 : Int32) dX12_rebill_35 (by decide) ?_
      by_cases c5 : isWi v1 0 ((zI σ 33 36) - 1)
      · refine V_cast (st' := [.int (1 : Int32), .int (0 : Int32), .int (1 : Int32), .ref 33]) rfl (by rw [jb_t c5]) rfl ?_
        refine V_callV1 (as := [.int (1 : Int32), .int (0 : Int32), .int (1 : Int32)]) (k' := 0) (n' := 0) (s_goes2 hS) mw_X12_goes ko_X12 rfl w_1223 w_20 w_1221 ar_X12_goes rfl ⟨rfl, rfl, rfl, rfl, rfl⟩ dX12_rebill_36 (by decide) (shk hS 33 rfl) ?_
        refine V_if_eq 49 dX12_rebill_39 rfl (fun _ => ?_) (fun z_ => (by first | exact absurd (by decide) z_ | exact absurd z_ (by decide)))
        exact V_vret rfl dX12_rebill_49 (k3 c1 c4 c5)
      · refine V_cast (st' := [.int (1 : Int32), .int (0 : Int32), .int (0 : Int32), .ref 33]) rfl (by rw [jb_f c5]) rfl ?_
        refine V_callV1 (as := [.int (0 : Int32), .int (0 : Int32), .int (1 : Int32)]) (k' := 0) (n' := 0) (s_goes1 hS) mw_X12_goes ko_X12 rfl w_1223 w_20 w_1221 ar_X12_goes rfl ⟨rfl, rfl, rfl, rfl, rfl⟩ dX12_rebill_36 (by decide) (shk hS 33 rfl) ?_
        refine V_if_eq 49 dX12_rebill_39 rfl (fun _ => ?_) (fun z_ => (by first | exact absurd (by decide) z_ | exact absurd z_ (by decide)))
        exact V_vret rfl dX12_rebill_49 (k4 c1 c4 c5)
    · refine V_iconst (1 : Int32) dX12_rebill_30 (by decide) ?_
      refine V_goto 35 dX12_rebill_31 rfl ?_
      refine V_iconst (1 : Int32) dX12_rebill_35 (by decide) ?_
      by_cases c6 : isWi v1 0 ((zI σ 33 36) - 1)
      · refine V_cast (st' := [.int (1 : Int32), .int (1 : Int32), .int (1 : Int32), .ref 33]) rfl (by rw [jb_t c6]) rfl ?_
        refine V_callV1 (as := [.int (1 : Int32), .int (1 : Int32), .int (1 : Int32)]) (k' := 0) (n' := 0) (s_goes0 hS) mw_X12_goes ko_X12 rfl w_1223 w_20 w_1221 ar_X12_goes rfl ⟨rfl, rfl, rfl, rfl, rfl⟩ dX12_rebill_36 (by decide) (shk hS 33 rfl) ?_
        refine V_if_eq 49 dX12_rebill_39 rfl (fun z_ => (by first | exact absurd (by decide) z_ | exact absurd z_ (by decide))) (fun _ => ?_)
        refine V_aload_n dX12_rebill_42 rfl ?_
        refine V_getf (fk := 37) (Value.ref 62) ko_X12 rfl w_1092 dX12_rebill_43 (by decide) (shk (Sh_uI hS) 33 rfl) (congrArg Value.ref (shr (Sh_uI hS) 33 37 62 (by decide))) ?_
        refine V_iload_n dX12_rebill_46 rfl ?_
        refine V_iconst (0 : Int32) dX12_rebill_47 (by decide) ?_
        refine V_iast dX12_rebill_48 (by decide) (shk (Sh_uI hS) 62 rfl) (vp_l (n := 240) (shl (Sh_uI hS) 62 rfl) (o1 c1)) ?_
        exact V_vret rfl dX12_rebill_49 (k5 c1 c4 c6)
      · refine V_cast (st' := [.int (1 : Int32), .int (1 : Int32), .int (0 : Int32), .ref 33]) rfl (by rw [jb_f c6]) rfl ?_
        refine V_callV1 (as := [.int (0 : Int32), .int (1 : Int32), .int (1 : Int32)]) (k' := 0) (n' := 0) (s_goes1 hS) mw_X12_goes ko_X12 rfl w_1223 w_20 w_1221 ar_X12_goes rfl ⟨rfl, rfl, rfl, rfl, rfl⟩ dX12_rebill_36 (by decide) (shk hS 33 rfl) ?_
        refine V_if_eq 49 dX12_rebill_39 rfl (fun _ => ?_) (fun z_ => (by first | exact absurd (by decide) z_ | exact absurd z_ (by decide)))
        exact V_vret rfl dX12_rebill_49 (k6 c1 c4 c6)

set_option maxRecDepth 100000 in
set_option maxHeartbeats 4000000 in
theorem b_X12_ofTicket_0 {g : GP} {CX : State → Array Value → Prop} {Q : AH → Option Value → Prop} {X : AH → String → Prop} {v1 : Int32} {v2 : Int32} {σ : AH}
    (hS : Sh σ)
    (o1 : (isWi v1 0 ((zI σ 33 23) - 1)) → (isWi v2 (0 : Int32) (5 : Int32)) → (¬ v2 = 0) → (¬ v2 = (1 : Int32)) → (¬ v2 = (2 : Int32)) → (¬ v2 = (3 : Int32)) → (¬ v2 = (4 : Int32)) → vp_in v1 30)
    (k1 : (isWi v1 0 ((zI σ 33 23) - 1)) → (isWi v2 (0 : Int32) (5 : Int32)) → (¬ v2 = 0) → (¬ v2 = (1 : Int32)) → (¬ v2 = (2 : Int32)) → (¬ v2 = (3 : Int32)) → (¬ v2 = (4 : Int32)) → Q (uI σ 33 49 (0 : Int32)) (some (.int (zI σ 54 (Int32.toNatClampNeg v1)))))
    (o2 : (isWi v1 0 ((zI σ 33 23) - 1)) → (isWi v2 (0 : Int32) (5 : Int32)) → (¬ v2 = 0) → (¬ v2 = (1 : Int32)) → (¬ v2 = (2 : Int32)) → (¬ v2 = (3 : Int32)) → (v2 = (4 : Int32)) → vp_in v1 30)
    (k2 : (isWi v1 0 ((zI σ 33 23) - 1)) → (isWi v2 (0 : Int32) (5 : Int32)) → (¬ v2 = 0) → (¬ v2 = (1 : Int32)) → (¬ v2 = (2 : Int32)) → (¬ v2 = (3 : Int32)) → (v2 = (4 : Int32)) → Q (uI σ 33 49 (0 : Int32)) (some (.int (zI σ 53 (Int32.toNatClampNeg v1)))))
    (o3 : (isWi v1 0 ((zI σ 33 23) - 1)) → (isWi v2 (0 : Int32) (5 : Int32)) → (¬ v2 = 0) → (¬ v2 = (1 : Int32)) → (¬ v2 = (2 : Int32)) → (v2 = (3 : Int32)) → vp_in v1 30)
    (k3 : (isWi v1 0 ((zI σ 33 23) - 1)) → (isWi v2 (0 : Int32) (5 : Int32)) → (¬ v2 = 0) → (¬ v2 = (1 : Int32)) → (¬ v2 = (2 : Int32)) → (v2 = (3 : Int32)) → Q (uI σ 33 49 (0 : Int32)) (some (.int (zI σ 52 (Int32.toNatClampNeg v1)))))
    (o4 : (isWi v1 0 ((zI σ 33 23) - 1)) → (isWi v2 (0 : Int32) (5 : Int32)) → (¬ v2 = 0) → (¬ v2 = (1 : Int32)) → (v2 = (2 : Int32)) → vp_in v1 30)
    (k4 : (isWi v1 0 ((zI σ 33 23) - 1)) → (isWi v2 (0 : Int32) (5 : Int32)) → (¬ v2 = 0) → (¬ v2 = (1 : Int32)) → (v2 = (2 : Int32)) → Q (uI σ 33 49 (0 : Int32)) (some (.int (zI σ 51 (Int32.toNatClampNeg v1)))))
    (o5 : (isWi v1 0 ((zI σ 33 23) - 1)) → (isWi v2 (0 : Int32) (5 : Int32)) → (¬ v2 = 0) → (v2 = (1 : Int32)) → vp_in v1 30)
    (o6 : (isWi v1 0 ((zI σ 33 23) - 1)) → (isWi v2 (0 : Int32) (5 : Int32)) → (¬ v2 = 0) → (v2 = (1 : Int32)) → vp_in (zI (uI σ 33 49 (0 : Int32)) 52 (ix v1)) 9)
    (k5 : (isWi v1 0 ((zI σ 33 23) - 1)) → (isWi v2 (0 : Int32) (5 : Int32)) → (¬ v2 = 0) → (v2 = (1 : Int32)) → Q (uI σ 33 49 (0 : Int32)) (some (.int (smI (fun k => zI (uI σ 33 49 (0 : Int32)) 57 (8 * ix v1 + k)) (ix (zI (uI σ 33 49 (0 : Int32)) 52 (ix v1)))))))
    (o7 : (isWi v1 0 ((zI σ 33 23) - 1)) → (isWi v2 (0 : Int32) (5 : Int32)) → (v2 = 0) → vp_in v1 30)
    (k6 : (isWi v1 0 ((zI σ 33 23) - 1)) → (isWi v2 (0 : Int32) (5 : Int32)) → (v2 = 0) → Q (uI σ 33 49 (0 : Int32)) (some (.int (zI σ 50 (Int32.toNatClampNeg v1)))))
    (k7 : (isWi v1 0 ((zI σ 33 23) - 1)) → (¬ (isWi v2 (0 : Int32) (5 : Int32))) → Q (uI σ 33 49 (2 : Int32)) (some (.int (0 : Int32))))
    (k8 : (¬ (isWi v1 0 ((zI σ 33 23) - 1))) → Q (uI σ 33 49 (1 : Int32)) (some (.int (0 : Int32)))) :
    V g mX12_ofTicket (Em g mX12_ofTicket Q X) CX 0 0 0 [(0, .ref 33), (1, .int v1), (2, .int v2)] [] σ := by
  refine V_aload_n dX12_ofTicket_0 rfl ?_
  refine V_aload_n dX12_ofTicket_1 rfl ?_
  refine V_iload_n dX12_ofTicket_2 rfl ?_
  refine V_callV1 (as := [.int v1]) (k' := 0) (n' := 0) (s_X12_isTicket hS) mw_X12_isTicket ko_X12 rfl w_1356 w_37 w_1354 ar_X12_isTicket rfl ⟨rfl, rfl, rfl, rfl, rfl⟩ dX12_ofTicket_3 (by decide) (shk hS 33 rfl) ?_
  refine V_iload_n dX12_ofTicket_6 rfl ?_
  refine V_iconst (0 : Int32) dX12_ofTicket_7 (by decide) ?_
  refine V_iconst (5 : Int32) dX12_ofTicket_8 (by decide) ?_
  refine V_callS1 (as := [.int v2, .int (0 : Int32), .int (5 : Int32)]) (k' := 0) (n' := 0) (s_X12_in) mw_X12_in w_1219 w_1218 ar_X12_in rfl ⟨rfl, rfl, rfl, rfl, rfl⟩ dX12_ofTicket_9 ?_
  refine V_iconst (1 : Int32) dX12_ofTicket_12 (by decide) ?_
  by_cases c1 : isWi v1 0 ((zI σ 33 23) - 1)
  · refine V_cast (st' := [.int (1 : Int32), .int (jb (isWi v2 (0 : Int32) (5 : Int32))), .int (1 : Int32), .ref 33]) rfl (by rw [jb_t c1]) rfl ?_
    by_cases c2 : isWi v2 (0 : Int32) (5 : Int32)
    · refine V_cast (st' := [.int (1 : Int32), .int (1 : Int32), .int (1 : Int32), .ref 33]) rfl (by rw [jb_t c2]) rfl ?_
      refine V_callV1 (as := [.int (1 : Int32), .int (1 : Int32), .int (1 : Int32)]) (k' := 0) (n' := 0) (s_goes0 hS) mw_X12_goes ko_X12 rfl w_1223 w_20 w_1221 ar_X12_goes rfl ⟨rfl, rfl, rfl, rfl, rfl⟩ dX12_ofTicket_13 (by decide) (shk hS 33 rfl) ?_
      refine V_if_ne 21 dX12_ofTicket_16 rfl (fun _ => ?_) (fun z_ => (by first | exact absurd (by decide) z_ | exact absurd z_ (by decide)))
      refine V_iload_n dX12_ofTicket_21 rfl ?_
      refine V_if_ne 34 dX12_ofTicket_22 rfl (fun c3 => ?_) (fun c3 => ?_)
      · refine V_iload_n dX12_ofTicket_34 rfl ?_
        refine V_iconst (1 : Int32) dX12_ofTicket_35 (by decide) ?_
        refine V_icmp_ne 47 dX12_ofTicket_36 rfl (fun c4 => ?_) (fun c4 => ?_)
        · refine V_iload_n dX12_ofTicket_47 rfl ?_
          refine V_iconst (2 : Int32) dX12_ofTicket_48 (by decide) ?_
          refine V_icmp_ne 61 dX12_ofTicket_49 rfl (fun c5 => ?_) (fun c5 => ?_)
          · refine V_iload_n dX12_ofTicket_61 rfl ?_
            refine V_iconst (3 : Int32) dX12_ofTicket_62 (by decide) ?_
            refine V_icmp_ne 75 dX12_ofTicket_63 rfl (fun c6 => ?_) (fun c6 => ?_)
            · refine V_iload_n dX12_ofTicket_75 rfl ?_
              refine V_iconst (4 : Int32) dX12_ofTicket_76 (by decide) ?_
              refine V_icmp_ne 89 dX12_ofTicket_77 rfl (fun c7 => ?_) (fun c7 => ?_)
              · refine V_aload_n dX12_ofTicket_89 rfl ?_
                refine V_getf (fk := 28) (Value.ref 54) ko_X12 rfl w_1083 dX12_ofTicket_90 (by decide) (shk (Sh_uI hS) 33 rfl) (congrArg Value.ref (shr (Sh_uI hS) 33 28 54 (by decide))) ?_
                refine V_iload_n dX12_ofTicket_93 rfl ?_
                refine V_iald dX12_ofTicket_94 (by decide) (shk (Sh_uI hS) 54 rfl) (vp_l (n := 30) (shl (Sh_uI hS) 54 rfl) (o1 c1 c2 c3 c4 c5 c6 c7)) ?_
                refine V_cast (st' := Value.int (zI σ 54 (Int32.toNatClampNeg v1)) :: []) rfl (congrArg (fun q_ => Value.int q_ :: []) (zI_oa _ _ _ _ _ _ (by decide))) rfl ?_
                exact V_iret rfl dX12_ofTicket_95 (k1 c1 c2 c3 c4 c5 c6 c7)
              · refine V_aload_n dX12_ofTicket_80 rfl ?_
                refine V_getf (fk := 27) (Value.ref 53) ko_X12 rfl w_1082 dX12_ofTicket_81 (by decide) (shk (Sh_uI hS) 33 rfl) (congrArg Value.ref (shr (Sh_uI hS) 33 27 53 (by decide))) ?_
                refine V_iload_n dX12_ofTicket_84 rfl ?_
                refine V_iald dX12_ofTicket_85 (by decide) (shk (Sh_uI hS) 53 rfl) (vp_l (n := 30) (shl (Sh_uI hS) 53 rfl) (o2 c1 c2 c3 c4 c5 c6 c7)) ?_
                refine V_cast (st' := Value.int (zI σ 53 (Int32.toNatClampNeg v1)) :: []) rfl (congrArg (fun q_ => Value.int q_ :: []) (zI_oa _ _ _ _ _ _ (by decide))) rfl ?_
                refine V_goto 95 dX12_ofTicket_86 rfl ?_
                exact V_iret rfl dX12_ofTicket_95 (k2 c1 c2 c3 c4 c5 c6 c7)
            · refine V_aload_n dX12_ofTicket_66 rfl ?_
              refine V_getf (fk := 26) (Value.ref 52) ko_X12 rfl w_1081 dX12_ofTicket_67 (by decide) (shk (Sh_uI hS) 33 rfl) (congrArg Value.ref (shr (Sh_uI hS) 33 26 52 (by decide))) ?_
              refine V_iload_n dX12_ofTicket_70 rfl ?_
              refine V_iald dX12_ofTicket_71 (by decide) (shk (Sh_uI hS) 52 rfl) (vp_l (n := 30) (shl (Sh_uI hS) 52 rfl) (o3 c1 c2 c3 c4 c5 c6)) ?_
              refine V_cast (st' := Value.int (zI σ 52 (Int32.toNatClampNeg v1)) :: []) rfl (congrArg (fun q_ => Value.int q_ :: []) (zI_oa _ _ _ _ _ _ (by decide))) rfl ?_
              refine V_goto 95 dX12_ofTicket_72 rfl ?_
              exact V_iret rfl dX12_ofTicket_95 (k3 c1 c2 c3 c4 c5 c6)
          · refine V_aload_n dX12_ofTicket_52 rfl ?_
            refine V_getf (fk := 25) (Value.ref 51) ko_X12 rfl w_1080 dX12_ofTicket_53 (by decide) (shk (Sh_uI hS) 33 rfl) (congrArg Value.ref (shr (Sh_uI hS) 33 25 51 (by decide))) ?_
            refine V_iload_n dX12_ofTicket_56 rfl ?_
            refine V_iald dX12_ofTicket_57 (by decide) (shk (Sh_uI hS) 51 rfl) (vp_l (n := 30) (shl (Sh_uI hS) 51 rfl) (o4 c1 c2 c3 c4 c5)) ?_
            refine V_cast (st' := Value.int (zI σ 51 (Int32.toNatClampNeg v1)) :: []) rfl (congrArg (fun q_ => Value.int q_ :: []) (zI_oa _ _ _ _ _ _ (by decide))) rfl ?_
            refine V_goto 95 dX12_ofTicket_58 rfl ?_
            exact V_iret rfl dX12_ofTicket_95 (k4 c1 c2 c3 c4 c5)
        · refine V_aload_n dX12_ofTicket_39 rfl ?_
          refine V_iload_n dX12_ofTicket_40 rfl ?_
          refine V_callV1 (as := [.int v1]) (k' := 0) (n' := 0) (s_X12_taxes (Sh_uI hS) (o5 c1 c2 c3 c4) (o6 c1 c2 c3 c4)) mw_X12_taxes ko_X12 rfl w_1340 w_34 w_1338 ar_X12_taxes rfl ⟨rfl, rfl, rfl, rfl, rfl⟩ dX12_ofTicket_41 (by decide) (shk (Sh_uI hS) 33 rfl) ?_
          refine V_goto 95 dX12_ofTicket_44 rfl ?_
          exact V_iret rfl dX12_ofTicket_95 (k5 c1 c2 c3 c4)
      · refine V_aload_n dX12_ofTicket_25 rfl ?_
        refine V_getf (fk := 24) (Value.ref 50) ko_X12 rfl w_1079 dX12_ofTicket_26 (by decide) (shk (Sh_uI hS) 33 rfl) (congrArg Value.ref (shr (Sh_uI hS) 33 24 50 (by decide))) ?_
        refine V_iload_n dX12_ofTicket_29 rfl ?_
        refine V_iald dX12_ofTicket_30 (by decide) (shk (Sh_uI hS) 50 rfl) (vp_l (n := 30) (shl (Sh_uI hS) 50 rfl) (o7 c1 c2 c3)) ?_
        refine V_cast (st' := Value.int (zI σ 50 (Int32.toNatClampNeg v1)) :: []) rfl (congrArg (fun q_ => Value.int q_ :: []) (zI_oa _ _ _ _ _ _ (by decide))) rfl ?_
        refine V_goto 95 dX12_ofTicket_31 rfl ?_
        exact V_iret rfl dX12_ofTicket_95 (k6 c1 c2 c3)
    · refine V_cast (st' := [.int (1 : Int32), .int (0 : Int32), .int (1 : Int32), .ref 33]) rfl (by rw [jb_f c2]) rfl ?_
      refine V_callV1 (as := [.int (1 : Int32), .int (0 : Int32), .int (1 : Int32)]) (k' := 0) (n' := 0) (s_goes2 hS) mw_X12_goes ko_X12 rfl w_1223 w_20 w_1221 ar_X12_goes rfl ⟨rfl, rfl, rfl, rfl, rfl⟩ dX12_ofTicket_13 (by decide) (shk hS 33 rfl) ?_
      refine V_if_ne 21 dX12_ofTicket_16 rfl (fun z_ => (by first | exact absurd (by decide) z_ | exact absurd z_ (by decide))) (fun _ => ?_)
      refine V_iconst (0 : Int32) dX12_ofTicket_19 (by decide) ?_
      exact V_iret rfl dX12_ofTicket_20 (k7 c1 c2)
  · refine V_cast (st' := [.int (1 : Int32), .int (jb (isWi v2 (0 : Int32) (5 : Int32))), .int (0 : Int32), .ref 33]) rfl (by rw [jb_f c1]) rfl ?_
    refine V_callV1 (as := [.int (0 : Int32), .int (jb (isWi v2 (0 : Int32) (5 : Int32))), .int (1 : Int32)]) (k' := 0) (n' := 0) (s_goes1 hS) mw_X12_goes ko_X12 rfl w_1223 w_20 w_1221 ar_X12_goes rfl ⟨rfl, rfl, rfl, rfl, rfl⟩ dX12_ofTicket_13 (by decide) (shk hS 33 rfl) ?_
    refine V_if_ne 21 dX12_ofTicket_16 rfl (fun z_ => (by first | exact absurd (by decide) z_ | exact absurd z_ (by decide))) (fun _ => ?_)
    refine V_iconst (0 : Int32) dX12_ofTicket_19 (by decide) ?_
    exact V_iret rfl dX12_ofTicket_20 (k8 c1)

set_option maxRecDepth 100000 in
set_option maxHeartbeats 4000000 in
theorem b_X12_ofCoupon_0 {g : GP} {CX : State → Array Value → Prop} {Q : AH → Option Value → Prop} {X : AH → String → Prop} {v1 : Int32} {v2 : Int32} {v3 : Int32} {σ : AH}
    (hS : Sh σ)
    (o1 : vp_in (zI σ 33 23) 31)
    (o2 : ((isWi v1 0 ((zI σ 33 23) - 1)) ∧ (isWi v2 0 ((zI σ 52 (ix v1)) - 1))) → (isWi v3 (0 : Int32) (5 : Int32)) → (¬ v3 = 0) → (¬ v3 = (1 : Int32)) → (¬ v3 = (2 : Int32)) → (¬ v3 = (3 : Int32)) → (¬ v3 = (4 : Int32)) → vp_in (((8 : Int32) * v1) + v2) 240)
    (k1 : ((isWi v1 0 ((zI σ 33 23) - 1)) ∧ (isWi v2 0 ((zI σ 52 (ix v1)) - 1))) → (isWi v3 (0 : Int32) (5 : Int32)) → (¬ v3 = 0) → (¬ v3 = (1 : Int32)) → (¬ v3 = (2 : Int32)) → (¬ v3 = (3 : Int32)) → (¬ v3 = (4 : Int32)) → Q (uI σ 33 49 (0 : Int32)) (some (.int (zI σ 61 (Int32.toNatClampNeg (((8 : Int32) * v1) + v2))))))
    (o3 : ((isWi v1 0 ((zI σ 33 23) - 1)) ∧ (isWi v2 0 ((zI σ 52 (ix v1)) - 1))) → (isWi v3 (0 : Int32) (5 : Int32)) → (¬ v3 = 0) → (¬ v3 = (1 : Int32)) → (¬ v3 = (2 : Int32)) → (¬ v3 = (3 : Int32)) → (v3 = (4 : Int32)) → vp_in (((8 : Int32) * v1) + v2) 240)
    (k2 : ((isWi v1 0 ((zI σ 33 23) - 1)) ∧ (isWi v2 0 ((zI σ 52 (ix v1)) - 1))) → (isWi v3 (0 : Int32) (5 : Int32)) → (¬ v3 = 0) → (¬ v3 = (1 : Int32)) → (¬ v3 = (2 : Int32)) → (¬ v3 = (3 : Int32)) → (v3 = (4 : Int32)) → Q (uI σ 33 49 (0 : Int32)) (some (.int (zI σ 59 (Int32.toNatClampNeg (((8 : Int32) * v1) + v2))))))
    (o4 : ((isWi v1 0 ((zI σ 33 23) - 1)) ∧ (isWi v2 0 ((zI σ 52 (ix v1)) - 1))) → (isWi v3 (0 : Int32) (5 : Int32)) → (¬ v3 = 0) → (¬ v3 = (1 : Int32)) → (¬ v3 = (2 : Int32)) → (v3 = (3 : Int32)) → vp_in (((8 : Int32) * v1) + v2) 240)
    (k3 : ((isWi v1 0 ((zI σ 33 23) - 1)) ∧ (isWi v2 0 ((zI σ 52 (ix v1)) - 1))) → (isWi v3 (0 : Int32) (5 : Int32)) → (¬ v3 = 0) → (¬ v3 = (1 : Int32)) → (¬ v3 = (2 : Int32)) → (v3 = (3 : Int32)) → Q (uI σ 33 49 (0 : Int32)) (some (.int (zI σ 58 (Int32.toNatClampNeg (((8 : Int32) * v1) + v2))))))
    (o5 : ((isWi v1 0 ((zI σ 33 23) - 1)) ∧ (isWi v2 0 ((zI σ 52 (ix v1)) - 1))) → (isWi v3 (0 : Int32) (5 : Int32)) → (¬ v3 = 0) → (¬ v3 = (1 : Int32)) → (v3 = (2 : Int32)) → vp_in (((8 : Int32) * v1) + v2) 240)
    (k4 : ((isWi v1 0 ((zI σ 33 23) - 1)) ∧ (isWi v2 0 ((zI σ 52 (ix v1)) - 1))) → (isWi v3 (0 : Int32) (5 : Int32)) → (¬ v3 = 0) → (¬ v3 = (1 : Int32)) → (v3 = (2 : Int32)) → Q (uI σ 33 49 (0 : Int32)) (some (.int (zI σ 57 (Int32.toNatClampNeg (((8 : Int32) * v1) + v2))))))
    (o6 : ((isWi v1 0 ((zI σ 33 23) - 1)) ∧ (isWi v2 0 ((zI σ 52 (ix v1)) - 1))) → (isWi v3 (0 : Int32) (5 : Int32)) → (¬ v3 = 0) → (v3 = (1 : Int32)) → vp_in (((8 : Int32) * v1) + v2) 240)
    (k5 : ((isWi v1 0 ((zI σ 33 23) - 1)) ∧ (isWi v2 0 ((zI σ 52 (ix v1)) - 1))) → (isWi v3 (0 : Int32) (5 : Int32)) → (¬ v3 = 0) → (v3 = (1 : Int32)) → Q (uI σ 33 49 (0 : Int32)) (some (.int (zI σ 56 (Int32.toNatClampNeg (((8 : Int32) * v1) + v2))))))
    (o7 : ((isWi v1 0 ((zI σ 33 23) - 1)) ∧ (isWi v2 0 ((zI σ 52 (ix v1)) - 1))) → (isWi v3 (0 : Int32) (5 : Int32)) → (v3 = 0) → vp_in (((8 : Int32) * v1) + v2) 240)
    (k6 : ((isWi v1 0 ((zI σ 33 23) - 1)) ∧ (isWi v2 0 ((zI σ 52 (ix v1)) - 1))) → (isWi v3 (0 : Int32) (5 : Int32)) → (v3 = 0) → Q (uI σ 33 49 (0 : Int32)) (some (.int (zI σ 55 (Int32.toNatClampNeg (((8 : Int32) * v1) + v2))))))
    (k7 : ((isWi v1 0 ((zI σ 33 23) - 1)) ∧ (isWi v2 0 ((zI σ 52 (ix v1)) - 1))) → (¬ (isWi v3 (0 : Int32) (5 : Int32))) → Q (uI σ 33 49 (2 : Int32)) (some (.int (0 : Int32))))
    (k8 : (¬ ((isWi v1 0 ((zI σ 33 23) - 1)) ∧ (isWi v2 0 ((zI σ 52 (ix v1)) - 1)))) → Q (uI σ 33 49 (1 : Int32)) (some (.int (0 : Int32)))) :
    V g mX12_ofCoupon (Em g mX12_ofCoupon Q X) CX 0 0 0 [(0, .ref 33), (1, .int v1), (2, .int v2), (3, .int v3)] [] σ := by
  refine V_aload_n dX12_ofCoupon_0 rfl ?_
  refine V_aload_n dX12_ofCoupon_1 rfl ?_
  refine V_iload_n dX12_ofCoupon_2 rfl ?_
  refine V_iload_n dX12_ofCoupon_3 rfl ?_
  refine V_callV1 (as := [.int v1, .int v2]) (k' := 0) (n' := 0) (s_X12_isCoupon hS o1) mw_X12_isCoupon ko_X12 rfl w_1352 w_36 w_1350 ar_X12_isCoupon rfl ⟨rfl, rfl, rfl, rfl, rfl⟩ dX12_ofCoupon_4 (by decide) (shk hS 33 rfl) ?_
  refine V_iload_n dX12_ofCoupon_7 rfl ?_
  refine V_iconst (0 : Int32) dX12_ofCoupon_8 (by decide) ?_
  refine V_iconst (5 : Int32) dX12_ofCoupon_9 (by decide) ?_
  refine V_callS1 (as := [.int v3, .int (0 : Int32), .int (5 : Int32)]) (k' := 0) (n' := 0) (s_X12_in) mw_X12_in w_1219 w_1218 ar_X12_in rfl ⟨rfl, rfl, rfl, rfl, rfl⟩ dX12_ofCoupon_10 ?_
  refine V_iconst (1 : Int32) dX12_ofCoupon_13 (by decide) ?_
  by_cases c1 : (isWi v1 0 ((zI σ 33 23) - 1)) ∧ (isWi v2 0 ((zI σ 52 (ix v1)) - 1))
  · refine V_cast (st' := [.int (1 : Int32), .int (jb (isWi v3 (0 : Int32) (5 : Int32))), .int (1 : Int32), .ref 33]) rfl (by rw [jb_t c1]) rfl ?_
    by_cases c2 : isWi v3 (0 : Int32) (5 : Int32)
    · refine V_cast (st' := [.int (1 : Int32), .int (1 : Int32), .int (1 : Int32), .ref 33]) rfl (by rw [jb_t c2]) rfl ?_
      refine V_callV1 (as := [.int (1 : Int32), .int (1 : Int32), .int (1 : Int32)]) (k' := 0) (n' := 0) (s_goes0 hS) mw_X12_goes ko_X12 rfl w_1223 w_20 w_1221 ar_X12_goes rfl ⟨rfl, rfl, rfl, rfl, rfl⟩ dX12_ofCoupon_14 (by decide) (shk hS 33 rfl) ?_
      refine V_if_ne 22 dX12_ofCoupon_17 rfl (fun _ => ?_) (fun z_ => (by first | exact absurd (by decide) z_ | exact absurd z_ (by decide)))
      refine V_bipush (8 : Int32) dX12_ofCoupon_22 (by decide) ?_
      refine V_iload_n dX12_ofCoupon_24 rfl ?_
      refine V_imul dX12_ofCoupon_25 ?_
      refine V_iload_n dX12_ofCoupon_26 rfl ?_
      refine V_iadd dX12_ofCoupon_27 ?_
      refine V_istore [(0, .ref 33), (1, .int v1), (2, .int v2), (3, .int v3), (4, .int (((8 : Int32) * v1) + v2))] dX12_ofCoupon_28 rfl rfl ?_
      refine V_iload_n dX12_ofCoupon_30 rfl ?_
      refine V_if_ne 44 dX12_ofCoupon_31 rfl (fun c3 => ?_) (fun c3 => ?_)
      · refine V_iload_n dX12_ofCoupon_44 rfl ?_
        refine V_iconst (1 : Int32) dX12_ofCoupon_45 (by decide) ?_
        refine V_icmp_ne 59 dX12_ofCoupon_46 rfl (fun c4 => ?_) (fun c4 => ?_)
        · refine V_iload_n dX12_ofCoupon_59 rfl ?_
          refine V_iconst (2 : Int32) dX12_ofCoupon_60 (by decide) ?_
          refine V_icmp_ne 74 dX12_ofCoupon_61 rfl (fun c5 => ?_) (fun c5 => ?_)
          · refine V_iload_n dX12_ofCoupon_74 rfl ?_
            refine V_iconst (3 : Int32) dX12_ofCoupon_75 (by decide) ?_
            refine V_icmp_ne 89 dX12_ofCoupon_76 rfl (fun c6 => ?_) (fun c6 => ?_)
            · refine V_iload_n dX12_ofCoupon_89 rfl ?_
              refine V_iconst (4 : Int32) dX12_ofCoupon_90 (by decide) ?_
              refine V_icmp_ne 104 dX12_ofCoupon_91 rfl (fun c7 => ?_) (fun c7 => ?_)
              · refine V_aload_n dX12_ofCoupon_104 rfl ?_
                refine V_getf (fk := 35) (Value.ref 61) ko_X12 rfl w_1090 dX12_ofCoupon_105 (by decide) (shk (Sh_uI hS) 33 rfl) (congrArg Value.ref (shr (Sh_uI hS) 33 35 61 (by decide))) ?_
                refine V_iload dX12_ofCoupon_108 rfl ?_
                refine V_iald dX12_ofCoupon_110 (by decide) (shk (Sh_uI hS) 61 rfl) (vp_l (n := 240) (shl (Sh_uI hS) 61 rfl) (o2 c1 c2 c3 c4 c5 c6 c7)) ?_
                refine V_cast (st' := Value.int (zI σ 61 (Int32.toNatClampNeg (((8 : Int32) * v1) + v2))) :: []) rfl (congrArg (fun q_ => Value.int q_ :: []) (zI_oa _ _ _ _ _ _ (by decide))) rfl ?_
                exact V_iret rfl dX12_ofCoupon_111 (k1 c1 c2 c3 c4 c5 c6 c7)
              · refine V_aload_n dX12_ofCoupon_94 rfl ?_
                refine V_getf (fk := 33) (Value.ref 59) ko_X12 rfl w_1088 dX12_ofCoupon_95 (by decide) (shk (Sh_uI hS) 33 rfl) (congrArg Value.ref (shr (Sh_uI hS) 33 33 59 (by decide))) ?_
                refine V_iload dX12_ofCoupon_98 rfl ?_
                refine V_iald dX12_ofCoupon_100 (by decide) (shk (Sh_uI hS) 59 rfl) (vp_l (n := 240) (shl (Sh_uI hS) 59 rfl) (o3 c1 c2 c3 c4 c5 c6 c7)) ?_
                refine V_cast (st' := Value.int (zI σ 59 (Int32.toNatClampNeg (((8 : Int32) * v1) + v2))) :: []) rfl (congrArg (fun q_ => Value.int q_ :: []) (zI_oa _ _ _ _ _ _ (by decide))) rfl ?_
                refine V_goto 111 dX12_ofCoupon_101 rfl ?_
                exact V_iret rfl dX12_ofCoupon_111 (k2 c1 c2 c3 c4 c5 c6 c7)
            · refine V_aload_n dX12_ofCoupon_79 rfl ?_
              refine V_getf (fk := 32) (Value.ref 58) ko_X12 rfl w_1087 dX12_ofCoupon_80 (by decide) (shk (Sh_uI hS) 33 rfl) (congrArg Value.ref (shr (Sh_uI hS) 33 32 58 (by decide))) ?_
              refine V_iload dX12_ofCoupon_83 rfl ?_
              refine V_iald dX12_ofCoupon_85 (by decide) (shk (Sh_uI hS) 58 rfl) (vp_l (n := 240) (shl (Sh_uI hS) 58 rfl) (o4 c1 c2 c3 c4 c5 c6)) ?_
              refine V_cast (st' := Value.int (zI σ 58 (Int32.toNatClampNeg (((8 : Int32) * v1) + v2))) :: []) rfl (congrArg (fun q_ => Value.int q_ :: []) (zI_oa _ _ _ _ _ _ (by decide))) rfl ?_
              refine V_goto 111 dX12_ofCoupon_86 rfl ?_
              exact V_iret rfl dX12_ofCoupon_111 (k3 c1 c2 c3 c4 c5 c6)
          · refine V_aload_n dX12_ofCoupon_64 rfl ?_
            refine V_getf (fk := 31) (Value.ref 57) ko_X12 rfl w_1086 dX12_ofCoupon_65 (by decide) (shk (Sh_uI hS) 33 rfl) (congrArg Value.ref (shr (Sh_uI hS) 33 31 57 (by decide))) ?_
            refine V_iload dX12_ofCoupon_68 rfl ?_
            refine V_iald dX12_ofCoupon_70 (by decide) (shk (Sh_uI hS) 57 rfl) (vp_l (n := 240) (shl (Sh_uI hS) 57 rfl) (o5 c1 c2 c3 c4 c5)) ?_
            refine V_cast (st' := Value.int (zI σ 57 (Int32.toNatClampNeg (((8 : Int32) * v1) + v2))) :: []) rfl (congrArg (fun q_ => Value.int q_ :: []) (zI_oa _ _ _ _ _ _ (by decide))) rfl ?_
            refine V_goto 111 dX12_ofCoupon_71 rfl ?_
            exact V_iret rfl dX12_ofCoupon_111 (k4 c1 c2 c3 c4 c5)
        · refine V_aload_n dX12_ofCoupon_49 rfl ?_
          refine V_getf (fk := 30) (Value.ref 56) ko_X12 rfl w_1085 dX12_ofCoupon_50 (by decide) (shk (Sh_uI hS) 33 rfl) (congrArg Value.ref (shr (Sh_uI hS) 33 30 56 (by decide))) ?_
          refine V_iload dX12_ofCoupon_53 rfl ?_
          refine V_iald dX12_ofCoupon_55 (by decide) (shk (Sh_uI hS) 56 rfl) (vp_l (n := 240) (shl (Sh_uI hS) 56 rfl) (o6 c1 c2 c3 c4)) ?_
          refine V_cast (st' := Value.int (zI σ 56 (Int32.toNatClampNeg (((8 : Int32) * v1) + v2))) :: []) rfl (congrArg (fun q_ => Value.int q_ :: []) (zI_oa _ _ _ _ _ _ (by decide))) rfl ?_
          refine V_goto 111 dX12_ofCoupon_56 rfl ?_
          exact V_iret rfl dX12_ofCoupon_111 (k5 c1 c2 c3 c4)
      · refine V_aload_n dX12_ofCoupon_34 rfl ?_
        refine V_getf (fk := 29) (Value.ref 55) ko_X12 rfl w_1084 dX12_ofCoupon_35 (by decide) (shk (Sh_uI hS) 33 rfl) (congrArg Value.ref (shr (Sh_uI hS) 33 29 55 (by decide))) ?_
        refine V_iload dX12_ofCoupon_38 rfl ?_
        refine V_iald dX12_ofCoupon_40 (by decide) (shk (Sh_uI hS) 55 rfl) (vp_l (n := 240) (shl (Sh_uI hS) 55 rfl) (o7 c1 c2 c3)) ?_
        refine V_cast (st' := Value.int (zI σ 55 (Int32.toNatClampNeg (((8 : Int32) * v1) + v2))) :: []) rfl (congrArg (fun q_ => Value.int q_ :: []) (zI_oa _ _ _ _ _ _ (by decide))) rfl ?_
        refine V_goto 111 dX12_ofCoupon_41 rfl ?_
        exact V_iret rfl dX12_ofCoupon_111 (k6 c1 c2 c3)
    · refine V_cast (st' := [.int (1 : Int32), .int (0 : Int32), .int (1 : Int32), .ref 33]) rfl (by rw [jb_f c2]) rfl ?_
      refine V_callV1 (as := [.int (1 : Int32), .int (0 : Int32), .int (1 : Int32)]) (k' := 0) (n' := 0) (s_goes2 hS) mw_X12_goes ko_X12 rfl w_1223 w_20 w_1221 ar_X12_goes rfl ⟨rfl, rfl, rfl, rfl, rfl⟩ dX12_ofCoupon_14 (by decide) (shk hS 33 rfl) ?_
      refine V_if_ne 22 dX12_ofCoupon_17 rfl (fun z_ => (by first | exact absurd (by decide) z_ | exact absurd z_ (by decide))) (fun _ => ?_)
      refine V_iconst (0 : Int32) dX12_ofCoupon_20 (by decide) ?_
      exact V_iret rfl dX12_ofCoupon_21 (k7 c1 c2)
  · refine V_cast (st' := [.int (1 : Int32), .int (jb (isWi v3 (0 : Int32) (5 : Int32))), .int (0 : Int32), .ref 33]) rfl (by rw [jb_f c1]) rfl ?_
    refine V_callV1 (as := [.int (0 : Int32), .int (jb (isWi v3 (0 : Int32) (5 : Int32))), .int (1 : Int32)]) (k' := 0) (n' := 0) (s_goes1 hS) mw_X12_goes ko_X12 rfl w_1223 w_20 w_1221 ar_X12_goes rfl ⟨rfl, rfl, rfl, rfl, rfl⟩ dX12_ofCoupon_14 (by decide) (shk hS 33 rfl) ?_
    refine V_if_ne 22 dX12_ofCoupon_17 rfl (fun z_ => (by first | exact absurd (by decide) z_ | exact absurd z_ (by decide))) (fun _ => ?_)
    refine V_iconst (0 : Int32) dX12_ofCoupon_20 (by decide) ?_
    exact V_iret rfl dX12_ofCoupon_21 (k8 c1)

set_option maxRecDepth 100000 in
set_option maxHeartbeats 4000000 in
theorem b_X12_ofBill_0 {g : GP} {CX : State → Array Value → Prop} {Q : AH → Option Value → Prop} {X : AH → String → Prop} {v1 : Int32} {v2 : Int32} {σ : AH}
    (hS : Sh σ)
    (o1 : (isWi v1 0 ((zI σ 33 36) - 1)) → (isWi v2 (0 : Int32) (5 : Int32)) → (¬ v2 = 0) → (¬ v2 = (1 : Int32)) → (¬ v2 = (2 : Int32)) → (¬ v2 = (3 : Int32)) → (¬ v2 = (4 : Int32)) → vp_in v1 240)
    (k1 : (isWi v1 0 ((zI σ 33 36) - 1)) → (isWi v2 (0 : Int32) (5 : Int32)) → (¬ v2 = 0) → (¬ v2 = (1 : Int32)) → (¬ v2 = (2 : Int32)) → (¬ v2 = (3 : Int32)) → (¬ v2 = (4 : Int32)) → Q (uI σ 33 49 (0 : Int32)) (some (.int (zI σ 67 (Int32.toNatClampNeg v1)))))
    (o2 : (isWi v1 0 ((zI σ 33 36) - 1)) → (isWi v2 (0 : Int32) (5 : Int32)) → (¬ v2 = 0) → (¬ v2 = (1 : Int32)) → (¬ v2 = (2 : Int32)) → (¬ v2 = (3 : Int32)) → (v2 = (4 : Int32)) → vp_in v1 240)
    (k2 : (isWi v1 0 ((zI σ 33 36) - 1)) → (isWi v2 (0 : Int32) (5 : Int32)) → (¬ v2 = 0) → (¬ v2 = (1 : Int32)) → (¬ v2 = (2 : Int32)) → (¬ v2 = (3 : Int32)) → (v2 = (4 : Int32)) → Q (uI σ 33 49 (0 : Int32)) (some (.int (zI σ 66 (Int32.toNatClampNeg v1)))))
    (o3 : (isWi v1 0 ((zI σ 33 36) - 1)) → (isWi v2 (0 : Int32) (5 : Int32)) → (¬ v2 = 0) → (¬ v2 = (1 : Int32)) → (¬ v2 = (2 : Int32)) → (v2 = (3 : Int32)) → vp_in v1 240)
    (k3 : (isWi v1 0 ((zI σ 33 36) - 1)) → (isWi v2 (0 : Int32) (5 : Int32)) → (¬ v2 = 0) → (¬ v2 = (1 : Int32)) → (¬ v2 = (2 : Int32)) → (v2 = (3 : Int32)) → Q (uI σ 33 49 (0 : Int32)) (some (.int (zI σ 65 (Int32.toNatClampNeg v1)))))
    (o4 : (isWi v1 0 ((zI σ 33 36) - 1)) → (isWi v2 (0 : Int32) (5 : Int32)) → (¬ v2 = 0) → (¬ v2 = (1 : Int32)) → (v2 = (2 : Int32)) → vp_in v1 240)
    (k4 : (isWi v1 0 ((zI σ 33 36) - 1)) → (isWi v2 (0 : Int32) (5 : Int32)) → (¬ v2 = 0) → (¬ v2 = (1 : Int32)) → (v2 = (2 : Int32)) → Q (uI σ 33 49 (0 : Int32)) (some (.int (zI σ 64 (Int32.toNatClampNeg v1)))))
    (o5 : (isWi v1 0 ((zI σ 33 36) - 1)) → (isWi v2 (0 : Int32) (5 : Int32)) → (¬ v2 = 0) → (v2 = (1 : Int32)) → vp_in v1 240)
    (k5 : (isWi v1 0 ((zI σ 33 36) - 1)) → (isWi v2 (0 : Int32) (5 : Int32)) → (¬ v2 = 0) → (v2 = (1 : Int32)) → Q (uI σ 33 49 (0 : Int32)) (some (.int (zI σ 63 (Int32.toNatClampNeg v1)))))
    (o6 : (isWi v1 0 ((zI σ 33 36) - 1)) → (isWi v2 (0 : Int32) (5 : Int32)) → (v2 = 0) → vp_in v1 240)
    (k6 : (isWi v1 0 ((zI σ 33 36) - 1)) → (isWi v2 (0 : Int32) (5 : Int32)) → (v2 = 0) → Q (uI σ 33 49 (0 : Int32)) (some (.int (zI σ 62 (Int32.toNatClampNeg v1)))))
    (k7 : (isWi v1 0 ((zI σ 33 36) - 1)) → (¬ (isWi v2 (0 : Int32) (5 : Int32))) → Q (uI σ 33 49 (2 : Int32)) (some (.int (0 : Int32))))
    (k8 : (¬ (isWi v1 0 ((zI σ 33 36) - 1))) → Q (uI σ 33 49 (1 : Int32)) (some (.int (0 : Int32)))) :
    V g mX12_ofBill (Em g mX12_ofBill Q X) CX 0 0 0 [(0, .ref 33), (1, .int v1), (2, .int v2)] [] σ := by
  refine V_aload_n dX12_ofBill_0 rfl ?_
  refine V_aload_n dX12_ofBill_1 rfl ?_
  refine V_iload_n dX12_ofBill_2 rfl ?_
  refine V_callV1 (as := [.int v1]) (k' := 0) (n' := 0) (s_X12_isBill hS) mw_X12_isBill ko_X12 rfl w_1410 w_44 w_1408 ar_X12_isBill rfl ⟨rfl, rfl, rfl, rfl, rfl⟩ dX12_ofBill_3 (by decide) (shk hS 33 rfl) ?_
  refine V_iload_n dX12_ofBill_6 rfl ?_
  refine V_iconst (0 : Int32) dX12_ofBill_7 (by decide) ?_
  refine V_iconst (5 : Int32) dX12_ofBill_8 (by decide) ?_
  refine V_callS1 (as := [.int v2, .int (0 : Int32), .int (5 : Int32)]) (k' := 0) (n' := 0) (s_X12_in) mw_X12_in w_1219 w_1218 ar_X12_in rfl ⟨rfl, rfl, rfl, rfl, rfl⟩ dX12_ofBill_9 ?_
  refine V_iconst (1 : Int32) dX12_ofBill_12 (by decide) ?_
  by_cases c1 : isWi v1 0 ((zI σ 33 36) - 1)
  · refine V_cast (st' := [.int (1 : Int32), .int (jb (isWi v2 (0 : Int32) (5 : Int32))), .int (1 : Int32), .ref 33]) rfl (by rw [jb_t c1]) rfl ?_
    by_cases c2 : isWi v2 (0 : Int32) (5 : Int32)
    · refine V_cast (st' := [.int (1 : Int32), .int (1 : Int32), .int (1 : Int32), .ref 33]) rfl (by rw [jb_t c2]) rfl ?_
      refine V_callV1 (as := [.int (1 : Int32), .int (1 : Int32), .int (1 : Int32)]) (k' := 0) (n' := 0) (s_goes0 hS) mw_X12_goes ko_X12 rfl w_1223 w_20 w_1221 ar_X12_goes rfl ⟨rfl, rfl, rfl, rfl, rfl⟩ dX12_ofBill_13 (by decide) (shk hS 33 rfl) ?_
      refine V_if_ne 21 dX12_ofBill_16 rfl (fun _ => ?_) (fun z_ => (by first | exact absurd (by decide) z_ | exact absurd z_ (by decide)))
      refine V_iload_n dX12_ofBill_21 rfl ?_
      refine V_if_ne 34 dX12_ofBill_22 rfl (fun c3 => ?_) (fun c3 => ?_)
      · refine V_iload_n dX12_ofBill_34 rfl ?_
        refine V_iconst (1 : Int32) dX12_ofBill_35 (by decide) ?_
        refine V_icmp_ne 48 dX12_ofBill_36 rfl (fun c4 => ?_) (fun c4 => ?_)
        · refine V_iload_n dX12_ofBill_48 rfl ?_
          refine V_iconst (2 : Int32) dX12_ofBill_49 (by decide) ?_
          refine V_icmp_ne 62 dX12_ofBill_50 rfl (fun c5 => ?_) (fun c5 => ?_)
          · refine V_iload_n dX12_ofBill_62 rfl ?_
            refine V_iconst (3 : Int32) dX12_ofBill_63 (by decide) ?_
            refine V_icmp_ne 76 dX12_ofBill_64 rfl (fun c6 => ?_) (fun c6 => ?_)
            · refine V_iload_n dX12_ofBill_76 rfl ?_
              refine V_iconst (4 : Int32) dX12_ofBill_77 (by decide) ?_
              refine V_icmp_ne 90 dX12_ofBill_78 rfl (fun c7 => ?_) (fun c7 => ?_)
              · refine V_aload_n dX12_ofBill_90 rfl ?_
                refine V_getf (fk := 42) (Value.ref 67) ko_X12 rfl w_1097 dX12_ofBill_91 (by decide) (shk (Sh_uI hS) 33 rfl) (congrArg Value.ref (shr (Sh_uI hS) 33 42 67 (by decide))) ?_
                refine V_iload_n dX12_ofBill_94 rfl ?_
                refine V_iald dX12_ofBill_95 (by decide) (shk (Sh_uI hS) 67 rfl) (vp_l (n := 240) (shl (Sh_uI hS) 67 rfl) (o1 c1 c2 c3 c4 c5 c6 c7)) ?_
                refine V_cast (st' := Value.int (zI σ 67 (Int32.toNatClampNeg v1)) :: []) rfl (congrArg (fun q_ => Value.int q_ :: []) (zI_oa _ _ _ _ _ _ (by decide))) rfl ?_
                exact V_iret rfl dX12_ofBill_96 (k1 c1 c2 c3 c4 c5 c6 c7)
              · refine V_aload_n dX12_ofBill_81 rfl ?_
                refine V_getf (fk := 41) (Value.ref 66) ko_X12 rfl w_1096 dX12_ofBill_82 (by decide) (shk (Sh_uI hS) 33 rfl) (congrArg Value.ref (shr (Sh_uI hS) 33 41 66 (by decide))) ?_
                refine V_iload_n dX12_ofBill_85 rfl ?_
                refine V_iald dX12_ofBill_86 (by decide) (shk (Sh_uI hS) 66 rfl) (vp_l (n := 240) (shl (Sh_uI hS) 66 rfl) (o2 c1 c2 c3 c4 c5 c6 c7)) ?_
                refine V_cast (st' := Value.int (zI σ 66 (Int32.toNatClampNeg v1)) :: []) rfl (congrArg (fun q_ => Value.int q_ :: []) (zI_oa _ _ _ _ _ _ (by decide))) rfl ?_
                refine V_goto 96 dX12_ofBill_87 rfl ?_
                exact V_iret rfl dX12_ofBill_96 (k2 c1 c2 c3 c4 c5 c6 c7)
            · refine V_aload_n dX12_ofBill_67 rfl ?_
              refine V_getf (fk := 40) (Value.ref 65) ko_X12 rfl w_1095 dX12_ofBill_68 (by decide) (shk (Sh_uI hS) 33 rfl) (congrArg Value.ref (shr (Sh_uI hS) 33 40 65 (by decide))) ?_
              refine V_iload_n dX12_ofBill_71 rfl ?_
              refine V_iald dX12_ofBill_72 (by decide) (shk (Sh_uI hS) 65 rfl) (vp_l (n := 240) (shl (Sh_uI hS) 65 rfl) (o3 c1 c2 c3 c4 c5 c6)) ?_
              refine V_cast (st' := Value.int (zI σ 65 (Int32.toNatClampNeg v1)) :: []) rfl (congrArg (fun q_ => Value.int q_ :: []) (zI_oa _ _ _ _ _ _ (by decide))) rfl ?_
              refine V_goto 96 dX12_ofBill_73 rfl ?_
              exact V_iret rfl dX12_ofBill_96 (k3 c1 c2 c3 c4 c5 c6)
          · refine V_aload_n dX12_ofBill_53 rfl ?_
            refine V_getf (fk := 39) (Value.ref 64) ko_X12 rfl w_1094 dX12_ofBill_54 (by decide) (shk (Sh_uI hS) 33 rfl) (congrArg Value.ref (shr (Sh_uI hS) 33 39 64 (by decide))) ?_
            refine V_iload_n dX12_ofBill_57 rfl ?_
            refine V_iald dX12_ofBill_58 (by decide) (shk (Sh_uI hS) 64 rfl) (vp_l (n := 240) (shl (Sh_uI hS) 64 rfl) (o4 c1 c2 c3 c4 c5)) ?_
            refine V_cast (st' := Value.int (zI σ 64 (Int32.toNatClampNeg v1)) :: []) rfl (congrArg (fun q_ => Value.int q_ :: []) (zI_oa _ _ _ _ _ _ (by decide))) rfl ?_
            refine V_goto 96 dX12_ofBill_59 rfl ?_
            exact V_iret rfl dX12_ofBill_96 (k4 c1 c2 c3 c4 c5)
        · refine V_aload_n dX12_ofBill_39 rfl ?_
          refine V_getf (fk := 38) (Value.ref 63) ko_X12 rfl w_1093 dX12_ofBill_40 (by decide) (shk (Sh_uI hS) 33 rfl) (congrArg Value.ref (shr (Sh_uI hS) 33 38 63 (by decide))) ?_
          refine V_iload_n dX12_ofBill_43 rfl ?_
          refine V_iald dX12_ofBill_44 (by decide) (shk (Sh_uI hS) 63 rfl) (vp_l (n := 240) (shl (Sh_uI hS) 63 rfl) (o5 c1 c2 c3 c4)) ?_
          refine V_cast (st' := Value.int (zI σ 63 (Int32.toNatClampNeg v1)) :: []) rfl (congrArg (fun q_ => Value.int q_ :: []) (zI_oa _ _ _ _ _ _ (by decide))) rfl ?_
          refine V_goto 96 dX12_ofBill_45 rfl ?_
          exact V_iret rfl dX12_ofBill_96 (k5 c1 c2 c3 c4)
      · refine V_aload_n dX12_ofBill_25 rfl ?_
        refine V_getf (fk := 37) (Value.ref 62) ko_X12 rfl w_1092 dX12_ofBill_26 (by decide) (shk (Sh_uI hS) 33 rfl) (congrArg Value.ref (shr (Sh_uI hS) 33 37 62 (by decide))) ?_
        refine V_iload_n dX12_ofBill_29 rfl ?_
        refine V_iald dX12_ofBill_30 (by decide) (shk (Sh_uI hS) 62 rfl) (vp_l (n := 240) (shl (Sh_uI hS) 62 rfl) (o6 c1 c2 c3)) ?_
        refine V_cast (st' := Value.int (zI σ 62 (Int32.toNatClampNeg v1)) :: []) rfl (congrArg (fun q_ => Value.int q_ :: []) (zI_oa _ _ _ _ _ _ (by decide))) rfl ?_
        refine V_goto 96 dX12_ofBill_31 rfl ?_
        exact V_iret rfl dX12_ofBill_96 (k6 c1 c2 c3)
    · refine V_cast (st' := [.int (1 : Int32), .int (0 : Int32), .int (1 : Int32), .ref 33]) rfl (by rw [jb_f c2]) rfl ?_
      refine V_callV1 (as := [.int (1 : Int32), .int (0 : Int32), .int (1 : Int32)]) (k' := 0) (n' := 0) (s_goes2 hS) mw_X12_goes ko_X12 rfl w_1223 w_20 w_1221 ar_X12_goes rfl ⟨rfl, rfl, rfl, rfl, rfl⟩ dX12_ofBill_13 (by decide) (shk hS 33 rfl) ?_
      refine V_if_ne 21 dX12_ofBill_16 rfl (fun z_ => (by first | exact absurd (by decide) z_ | exact absurd z_ (by decide))) (fun _ => ?_)
      refine V_iconst (0 : Int32) dX12_ofBill_19 (by decide) ?_
      exact V_iret rfl dX12_ofBill_20 (k7 c1 c2)
  · refine V_cast (st' := [.int (1 : Int32), .int (jb (isWi v2 (0 : Int32) (5 : Int32))), .int (0 : Int32), .ref 33]) rfl (by rw [jb_f c1]) rfl ?_
    refine V_callV1 (as := [.int (0 : Int32), .int (jb (isWi v2 (0 : Int32) (5 : Int32))), .int (1 : Int32)]) (k' := 0) (n' := 0) (s_goes1 hS) mw_X12_goes ko_X12 rfl w_1223 w_20 w_1221 ar_X12_goes rfl ⟨rfl, rfl, rfl, rfl, rfl⟩ dX12_ofBill_13 (by decide) (shk hS 33 rfl) ?_
    refine V_if_ne 21 dX12_ofBill_16 rfl (fun z_ => (by first | exact absurd (by decide) z_ | exact absurd z_ (by decide))) (fun _ => ?_)
    refine V_iconst (0 : Int32) dX12_ofBill_19 (by decide) ?_
    exact V_iret rfl dX12_ofBill_20 (k8 c1)

set_option maxRecDepth 100000 in
set_option maxHeartbeats 4000000 in
theorem b_X12_cash_0 {g : GP} {CX : State → Array Value → Prop} {Q : AH → Option Value → Prop} {X : AH → String → Prop} {v1 : Int32} {σ : AH}
    (hS : Sh σ)
    (o1 : (isCa v1) → vp_in v1 5)
    (k1 : (isCa v1) → Q (uI σ 33 49 (0 : Int32)) (some (.long (zJ σ 70 (Int32.toNatClampNeg v1)))))
    (k2 : (¬ (isCa v1)) → Q (uI σ 33 49 (1 : Int32)) (some (.long (0 : Int64)))) :
    V g mX12_cash (Em g mX12_cash Q X) CX 0 0 0 [(0, .ref 33), (1, .int v1)] [] σ := by
  refine V_aload_n dX12_cash_0 rfl ?_
  refine V_iload_n dX12_cash_1 rfl ?_
  refine V_callS1 (as := [.int v1]) (k' := 0) (n' := 0) (s_X12_isCarrier) mw_X12_isCarrier w_1251 w_1250 ar_X12_isCarrier rfl ⟨rfl, rfl, rfl, rfl, rfl⟩ dX12_cash_2 ?_
  refine V_iconst (1 : Int32) dX12_cash_5 (by decide) ?_
  refine V_iconst (1 : Int32) dX12_cash_6 (by decide) ?_
  by_cases c1 : isCa v1
  · refine V_cast (st' := [.int (1 : Int32), .int (1 : Int32), .int (1 : Int32), .ref 33]) rfl (by rw [jb_t c1]) rfl ?_
    refine V_callV1 (as := [.int (1 : Int32), .int (1 : Int32), .int (1 : Int32)]) (k' := 0) (n' := 0) (s_goes0 hS) mw_X12_goes ko_X12 rfl w_1223 w_20 w_1221 ar_X12_goes rfl ⟨rfl, rfl, rfl, rfl, rfl⟩ dX12_cash_7 (by decide) (shk hS 33 rfl) ?_
    refine V_if_eq 22 dX12_cash_10 rfl (fun z_ => (by first | exact absurd (by decide) z_ | exact absurd z_ (by decide))) (fun _ => ?_)
    refine V_aload_n dX12_cash_13 rfl ?_
    refine V_getf (fk := 46) (Value.ref 70) ko_X12 rfl w_1101 dX12_cash_14 (by decide) (shk (Sh_uI hS) 33 rfl) (congrArg Value.ref (shr (Sh_uI hS) 33 46 70 (by decide))) ?_
    refine V_iload_n dX12_cash_17 rfl ?_
    refine V_lald dX12_cash_18 (by decide) (shk (Sh_uI hS) 70 rfl) (vp_l (n := 5) (shl (Sh_uI hS) 70 rfl) (o1 c1)) ?_
    refine V_cast (st' := Value.long (zJ σ 70 (Int32.toNatClampNeg v1)) :: []) rfl (rfl) rfl ?_
    refine V_goto 23 dX12_cash_19 rfl ?_
    exact V_lret rfl dX12_cash_23 (k1 c1)
  · refine V_cast (st' := [.int (1 : Int32), .int (1 : Int32), .int (0 : Int32), .ref 33]) rfl (by rw [jb_f c1]) rfl ?_
    refine V_callV1 (as := [.int (0 : Int32), .int (1 : Int32), .int (1 : Int32)]) (k' := 0) (n' := 0) (s_goes1 hS) mw_X12_goes ko_X12 rfl w_1223 w_20 w_1221 ar_X12_goes rfl ⟨rfl, rfl, rfl, rfl, rfl⟩ dX12_cash_7 (by decide) (shk hS 33 rfl) ?_
    refine V_if_eq 22 dX12_cash_10 rfl (fun _ => ?_) (fun z_ => (by first | exact absurd (by decide) z_ | exact absurd z_ (by decide)))
    refine V_lconst (0 : Int64) dX12_cash_22 (by decide) ?_
    exact V_lret rfl dX12_cash_23 (k2 c1)

set_option maxRecDepth 100000 in
set_option maxHeartbeats 4000000 in
theorem b_X12_state_0 {g : GP} {CX : State → Array Value → Prop} {Q : AH → Option Value → Prop} {X : AH → String → Prop} {v1 : Int32} {σ : AH}
    (hS : Sh σ)
    (o1 : (isPl v1) → vp_in v1 10)
    (k1 : (isPl v1) → Q (uI σ 33 49 (0 : Int32)) (some (.long (zJ σ 71 (Int32.toNatClampNeg v1)))))
    (k2 : (¬ (isPl v1)) → Q (uI σ 33 49 (1 : Int32)) (some (.long (0 : Int64)))) :
    V g mX12_state (Em g mX12_state Q X) CX 0 0 0 [(0, .ref 33), (1, .int v1)] [] σ := by
  refine V_aload_n dX12_state_0 rfl ?_
  refine V_iload_n dX12_state_1 rfl ?_
  refine V_callS1 (as := [.int v1]) (k' := 0) (n' := 0) (s_X12_isPlace) mw_X12_isPlace w_1216 w_1215 ar_X12_isPlace rfl ⟨rfl, rfl, rfl, rfl, rfl⟩ dX12_state_2 ?_
  refine V_iconst (1 : Int32) dX12_state_5 (by decide) ?_
  refine V_iconst (1 : Int32) dX12_state_6 (by decide) ?_
  by_cases c1 : isPl v1
  · refine V_cast (st' := [.int (1 : Int32), .int (1 : Int32), .int (1 : Int32), .ref 33]) rfl (by rw [jb_t c1]) rfl ?_
    refine V_callV1 (as := [.int (1 : Int32), .int (1 : Int32), .int (1 : Int32)]) (k' := 0) (n' := 0) (s_goes0 hS) mw_X12_goes ko_X12 rfl w_1223 w_20 w_1221 ar_X12_goes rfl ⟨rfl, rfl, rfl, rfl, rfl⟩ dX12_state_7 (by decide) (shk hS 33 rfl) ?_
    refine V_if_eq 22 dX12_state_10 rfl (fun z_ => (by first | exact absurd (by decide) z_ | exact absurd z_ (by decide))) (fun _ => ?_)
    refine V_aload_n dX12_state_13 rfl ?_
    refine V_getf (fk := 47) (Value.ref 71) ko_X12 rfl w_1102 dX12_state_14 (by decide) (shk (Sh_uI hS) 33 rfl) (congrArg Value.ref (shr (Sh_uI hS) 33 47 71 (by decide))) ?_
    refine V_iload_n dX12_state_17 rfl ?_
    refine V_lald dX12_state_18 (by decide) (shk (Sh_uI hS) 71 rfl) (vp_l (n := 10) (shl (Sh_uI hS) 71 rfl) (o1 c1)) ?_
    refine V_cast (st' := Value.long (zJ σ 71 (Int32.toNatClampNeg v1)) :: []) rfl (rfl) rfl ?_
    refine V_goto 23 dX12_state_19 rfl ?_
    exact V_lret rfl dX12_state_23 (k1 c1)
  · refine V_cast (st' := [.int (1 : Int32), .int (1 : Int32), .int (0 : Int32), .ref 33]) rfl (by rw [jb_f c1]) rfl ?_
    refine V_callV1 (as := [.int (0 : Int32), .int (1 : Int32), .int (1 : Int32)]) (k' := 0) (n' := 0) (s_goes1 hS) mw_X12_goes ko_X12 rfl w_1223 w_20 w_1221 ar_X12_goes rfl ⟨rfl, rfl, rfl, rfl, rfl⟩ dX12_state_7 (by decide) (shk hS 33 rfl) ?_
    refine V_if_eq 22 dX12_state_10 rfl (fun _ => ?_) (fun z_ => (by first | exact absurd (by decide) z_ | exact absurd z_ (by decide)))
    refine V_lconst (0 : Int64) dX12_state_22 (by decide) ?_
    exact V_lret rfl dX12_state_23 (k2 c1)

set_option maxRecDepth 100000 in
set_option maxHeartbeats 4000000 in
theorem b_X12_paid_0 {g : GP} {CX : State → Array Value → Prop} {Q : AH → Option Value → Prop} {X : AH → String → Prop}  {σ : AH}
    (hS : Sh σ)
    (k1 : Q (uI σ 33 49 (0 : Int32)) (some (.long (zJ σ 33 48)))) :
    V g mX12_paid (Em g mX12_paid Q X) CX 0 0 0 [(0, .ref 33)] [] σ := by
  refine V_aload_n dX12_paid_0 rfl ?_
  refine V_iconst (0 : Int32) dX12_paid_1 (by decide) ?_
  refine V_puti (fk := 49) ko_X12 rfl w_1104 (Or.inl rfl) dX12_paid_2 rfl (by decide) (shk hS 33 rfl) ?_
  refine V_aload_n dX12_paid_5 rfl ?_
  refine V_getf (fk := 48) (Value.long (zJ σ 33 48)) ko_X12 rfl w_1103 dX12_paid_6 (by decide) (shk (Sh_uI hS) 33 rfl) rfl ?_
  exact V_lret rfl dX12_paid_9 k1

set_option maxRecDepth 100000 in
set_option maxHeartbeats 4000000 in
theorem b_X12_defaults_0 {g : GP} {CX : State → Array Value → Prop} {E : ET}  {σ : AH}
    (k1 : V g mX12_defaults E CX 0 0 4 [(0, .ref 33), (1, .int (0 : Int32)), (2, .int (0 : Int32))] [] σ) :
    V g mX12_defaults E CX 0 0 0 [(0, .ref 33)] [] σ := by
  refine V_iconst (0 : Int32) dX12_defaults_0 (by decide) ?_
  refine V_istore_n [(0, .ref 33), (1, .int (0 : Int32))] dX12_defaults_1 rfl rfl ?_
  refine V_iconst (0 : Int32) dX12_defaults_2 (by decide) ?_
  refine V_istore_n [(0, .ref 33), (1, .int (0 : Int32)), (2, .int (0 : Int32))] dX12_defaults_3 rfl rfl ?_
  exact k1
set_option maxRecDepth 100000 in
set_option maxHeartbeats 4000000 in
theorem b_X12_defaults_4 {g : GP} {CX : State → Array Value → Prop} {Q : AH → Option Value → Prop} {X : AH → String → Prop} {v1 : Int32} {v2 : Int32} {σ : AH}
    (hS : Sh σ)
    (k1 : ((5 : Int32) ≤ v2) → Q σ (some (.int v1)))
    (o1 : (¬ (5 : Int32) ≤ v2) → vp_in v2 5)
    (k2 : (¬ (5 : Int32) ≤ v2) → ((zI σ 68 (Int32.toNatClampNeg v2)) = 0) → V g mX12_defaults (Em g mX12_defaults Q X) CX 0 0 4 [(0, .ref 33), (1, .int (v1 ||| (0 : Int32))), (2, .int (v2 + (1 : Int32)))] [] σ)
    (k3 : (¬ (5 : Int32) ≤ v2) → (¬ (zI σ 68 (Int32.toNatClampNeg v2)) = 0) → V g mX12_defaults (Em g mX12_defaults Q X) CX 0 0 4 [(0, .ref 33), (1, .int (v1 ||| ((1 : Int32) <<< (v2 &&& 31)))), (2, .int (v2 + (1 : Int32)))] [] σ) :
    V g mX12_defaults (Em g mX12_defaults Q X) CX 0 0 4 [(0, .ref 33), (1, .int v1), (2, .int v2)] [] σ := by
  refine V_iload_n dX12_defaults_4 rfl ?_
  refine V_iconst (5 : Int32) dX12_defaults_5 (by decide) ?_
  refine V_icmp_ge 34 dX12_defaults_6 rfl (fun c1 => ?_) (fun c1 => ?_)
  · refine V_iload_n dX12_defaults_34 rfl ?_
    exact V_iret rfl dX12_defaults_35 (k1 c1)
  · refine V_iload_n dX12_defaults_9 rfl ?_
    refine V_aload_n dX12_defaults_10 rfl ?_
    refine V_getf (fk := 44) (Value.ref 68) ko_X12 rfl w_1099 dX12_defaults_11 (by decide) (shk hS 33 rfl) (congrArg Value.ref (shr hS 33 44 68 (by decide))) ?_
    refine V_iload_n dX12_defaults_14 rfl ?_
    refine V_zald dX12_defaults_15 (by decide) (shk hS 68 rfl) (vp_l (n := 5) (shl hS 68 rfl) (o1 c1)) ?_
    refine V_if_eq 25 dX12_defaults_16 rfl (fun c2 => ?_) (fun c2 => ?_)
    · refine V_iconst (0 : Int32) dX12_defaults_25 (by decide) ?_
      refine V_ior dX12_defaults_26 ?_
      refine V_istore_n [(0, .ref 33), (1, .int (v1 ||| (0 : Int32))), (2, .int v2)] dX12_defaults_27 rfl rfl ?_
      refine V_iinc (v2 + (1 : Int32)) [(0, .ref 33), (1, .int (v1 ||| (0 : Int32))), (2, .int (v2 + (1 : Int32)))] dX12_defaults_28 rfl rfl rfl rfl ?_
      refine V_goto 4 dX12_defaults_31 rfl ?_
      exact (k2 c1 c2)
    · refine V_iconst (1 : Int32) dX12_defaults_19 (by decide) ?_
      refine V_iload_n dX12_defaults_20 rfl ?_
      refine V_ishl dX12_defaults_21 ?_
      refine V_goto 26 dX12_defaults_22 rfl ?_
      refine V_ior dX12_defaults_26 ?_
      refine V_istore_n [(0, .ref 33), (1, .int (v1 ||| ((1 : Int32) <<< (v2 &&& 31)))), (2, .int v2)] dX12_defaults_27 rfl rfl ?_
      refine V_iinc (v2 + (1 : Int32)) [(0, .ref 33), (1, .int (v1 ||| ((1 : Int32) <<< (v2 &&& 31)))), (2, .int (v2 + (1 : Int32)))] dX12_defaults_28 rfl rfl rfl rfl ?_
      refine V_goto 4 dX12_defaults_31 rfl ?_
      exact (k3 c1 c2)

theorem vp_w240 {σ : AH} {x : Int32} (h : vp_in (zI σ 33 36) 241) (c : isWi x 0 (zI σ 33 36 - 1)) : vp_in x 240 := isWi_vp h (by decide) c
theorem vp_w30 {σ : AH} {x : Int32} (h : vp_in (zI σ 33 23) 31) (c : isWi x 0 (zI σ 33 23 - 1)) : vp_in x 30 := isWi_vp h (by decide) c
set_option maxRecDepth 100000 in
set_option maxHeartbeats 4000000 in
theorem s_X12_pass {g : GP} {Q : AH → Option Value → Prop} {v1 : Int32} {σ : AH} (hS : Sh σ) 
    (q1 : ¬ (isWi v1 1 100) → Q (uI σ 33 49 (1 : Int32)) (some (.int 0)))
    (q2 : (isWi v1 1 100) → ¬ (¬ 999 < zI σ 33 0 + v1) → Q (uI σ 33 49 (2 : Int32)) (some (.int 0)))
    (q0 : (isWi v1 1 100) → (¬ 999 < zI σ 33 0 + v1) → Q (uI (uI σ 33 49 0) 33 0 (zI σ 33 0 + v1)) (some (.int (zI σ 33 0 + v1)))) :
    Ct g mX12_pass [.ref 33, .int v1] σ Q := by
  refine Ct_of (by decide +kernel) rfl rfl ?_
  by_cases a1 : isWi v1 1 100
  · by_cases a2 : ¬ 999 < zI σ 33 0 + v1
    · have q := q0 a1 a2
      clear q0 q1 q2
      all_goals refine b_X12_pass_0 hS ?_ ?_ ?_ ?_
      all_goals first | (intros; contradiction) | (intros; exact q)
    · have q := q2 a1 a2
      clear q0 q1 q2
      all_goals refine b_X12_pass_0 hS ?_ ?_ ?_ ?_
      all_goals first | (intros; with_reducible exact q) | (intros; contradiction) | (intros; with_reducible exact absurd (by assumption) a2) | (intros; exact q) | (intros; exfalso; simp_all; done)
  · have q := q1 a1
    clear q0 q1 q2
    all_goals refine b_X12_pass_0 hS ?_ ?_ ?_ ?_
    all_goals first | (intros; with_reducible exact q) | (intros; contradiction) | (intros; with_reducible exact absurd (by assumption) a1) | (intros; exact q) | (intros; exfalso; simp_all; done)
set_option maxRecDepth 100000 in
set_option maxHeartbeats 4000000 in
theorem s_X12_reject {g : GP} {Q : AH → Option Value → Prop} {v1 : Int32} {σ : AH} (hS : Sh σ) (hB : vp_in (zI σ 33 36) 241)
    (q1 : ¬ (isWi v1 0 (zI σ 33 36 - 1)) → Q (uI σ 33 49 (1 : Int32)) (some (.int 0)))
    (q2 : (isWi v1 0 (zI σ 33 36 - 1)) → ¬ (zI σ 62 (ix v1) = 1 ∧ ¬ zI σ 67 (ix v1) < zI σ 33 43 - 1) → Q (uI σ 33 49 (2 : Int32)) (some (.int 0)))
    (q0 : (isWi v1 0 (zI σ 33 36 - 1)) → (zI σ 62 (ix v1) = 1 ∧ ¬ zI σ 67 (ix v1) < zI σ 33 43 - 1) → Q (uI (uI (uI σ 33 49 0) 62 (ix v1) 2) 66 (ix v1) (zI σ 66 (ix v1) + 1)) (some (.int (zI (uI (uI (uI σ 33 49 0) 62 (ix v1) 2) 66 (ix v1) (zI σ 66 (ix v1) + 1)) 66 (ix v1))))) :
    Ct g mX12_reject [.ref 33, .int v1] σ Q := by
  refine Ct_of (by decide +kernel) rfl rfl ?_
  by_cases a1 : isWi v1 0 (zI σ 33 36 - 1)
  · by_cases a2 : zI σ 62 (ix v1) = 1 ∧ ¬ zI σ 67 (ix v1) < zI σ 33 43 - 1
    · have q := q0 a1 a2
      clear q0 q1 q2
      obtain ⟨x2_0, x2_1⟩ := id a2
      all_goals refine b_X12_reject_0 hS ?_ ?_ ?_ ?_ ?_ ?_ ?_ ?_ ?_
      all_goals first | (intros; contradiction) | (intros; with_reducible exact vp_w240 hB (by assumption)) | (intros; exact q)
    · have q := q2 a1 a2
      clear q0 q1 q2
      all_goals refine b_X12_reject_0 hS ?_ ?_ ?_ ?_ ?_ ?_ ?_ ?_ ?_
      all_goals first | (intros; with_reducible exact q) | (intros; contradiction) | (intros; with_reducible exact vp_w240 hB (by assumption)) | (intros; with_reducible exact absurd ⟨(by assumption), (by assumption)⟩ a2) | (intros; exact q) | (intros; exfalso; simp_all; done)
  · have q := q1 a1
    clear q0 q1 q2
    all_goals refine b_X12_reject_0 hS ?_ ?_ ?_ ?_ ?_ ?_ ?_ ?_ ?_
    all_goals first | (intros; with_reducible exact q) | (intros; contradiction) | (intros; with_reducible exact vp_w240 hB (by assumption)) | (intros; with_reducible exact absurd (by assumption) a1) | (intros; exact q) | (intros; exfalso; simp_all; done)
set_option maxRecDepth 100000 in
set_option maxHeartbeats 4000000 in
theorem s_X12_rebill {g : GP} {Q : AH → Option Value → Prop} {v1 : Int32} {σ : AH} (hS : Sh σ) (hB : vp_in (zI σ 33 36) 241)
    (q1 : ¬ (isWi v1 0 (zI σ 33 36 - 1)) → Q (uI σ 33 49 (1 : Int32)) none)
    (q2 : (isWi v1 0 (zI σ 33 36 - 1)) → ¬ (zI σ 62 (ix v1) = 3) → Q (uI σ 33 49 (2 : Int32)) none)
    (q0 : (isWi v1 0 (zI σ 33 36 - 1)) → (zI σ 62 (ix v1) = 3) → Q (uI (uI σ 33 49 0) 62 (ix v1) 0) none) :
    Ct g mX12_rebill [.ref 33, .int v1] σ Q := by
  refine Ct_of (by decide +kernel) rfl rfl ?_
  by_cases a1 : isWi v1 0 (zI σ 33 36 - 1)
  · by_cases a2 : zI σ 62 (ix v1) = 3
    · have q := q0 a1 a2
      clear q0 q1 q2
      all_goals refine b_X12_rebill_0 hS ?_ ?_ ?_ ?_ ?_ ?_ ?_
      all_goals first | (intros; contradiction) | (intros; with_reducible exact vp_w240 hB (by assumption)) | (intros; exact q)
    · have q := q2 a1 a2
      clear q0 q1 q2
      all_goals refine b_X12_rebill_0 hS ?_ ?_ ?_ ?_ ?_ ?_ ?_
      all_goals first | (intros; with_reducible exact q) | (intros; contradiction) | (intros; with_reducible exact vp_w240 hB (by assumption)) | (intros; with_reducible exact absurd (by assumption) a2) | (intros; exact q) | (intros; exfalso; simp_all; done)
  · have q := q1 a1
    clear q0 q1 q2
    all_goals refine b_X12_rebill_0 hS ?_ ?_ ?_ ?_ ?_ ?_ ?_
    all_goals first | (intros; with_reducible exact q) | (intros; contradiction) | (intros; with_reducible exact vp_w240 hB (by assumption)) | (intros; with_reducible exact absurd (by assumption) a1) | (intros; exact q) | (intros; exfalso; simp_all; done)
set_option maxRecDepth 100000 in
set_option maxHeartbeats 4000000 in
theorem s_X12_cash {g : GP} {Q : AH → Option Value → Prop} {v1 : Int32} {σ : AH} (hS : Sh σ) 
    (q1 : ¬ (isCa v1) → Q (uI σ 33 49 (1 : Int32)) (some (.long 0)))
    (q0 : (isCa v1) → Q (uI σ 33 49 0) (some (.long (zJ σ 70 (ix v1))))) :
    Ct g mX12_cash [.ref 33, .int v1] σ Q := by
  refine Ct_of (by decide +kernel) rfl rfl ?_
  by_cases a1 : isCa v1
  · have q := q0 a1
    clear q0 q1
    all_goals refine b_X12_cash_0 hS ?_ ?_ ?_
    all_goals first | (intros; contradiction) | (intros; with_reducible exact isCa_vp (by assumption)) | (intros; exact q)
  · have q := q1 a1
    clear q0 q1
    all_goals refine b_X12_cash_0 hS ?_ ?_ ?_
    all_goals first | (intros; with_reducible exact q) | (intros; contradiction) | (intros; with_reducible exact isCa_vp (by assumption)) | (intros; with_reducible exact absurd (by assumption) a1) | (intros; exact q) | (intros; exfalso; simp_all; done)
set_option maxRecDepth 100000 in
set_option maxHeartbeats 4000000 in
theorem s_X12_state {g : GP} {Q : AH → Option Value → Prop} {v1 : Int32} {σ : AH} (hS : Sh σ) 
    (q1 : ¬ (isPl v1) → Q (uI σ 33 49 (1 : Int32)) (some (.long 0)))
    (q0 : (isPl v1) → Q (uI σ 33 49 0) (some (.long (zJ σ 71 (ix v1))))) :
    Ct g mX12_state [.ref 33, .int v1] σ Q := by
  refine Ct_of (by decide +kernel) rfl rfl ?_
  by_cases a1 : isPl v1
  · have q := q0 a1
    clear q0 q1
    all_goals refine b_X12_state_0 hS ?_ ?_ ?_
    all_goals first | (intros; contradiction) | (intros; with_reducible exact isPl_vp (by assumption)) | (intros; exact q)
  · have q := q1 a1
    clear q0 q1
    all_goals refine b_X12_state_0 hS ?_ ?_ ?_
    all_goals first | (intros; with_reducible exact q) | (intros; contradiction) | (intros; with_reducible exact isPl_vp (by assumption)) | (intros; with_reducible exact absurd (by assumption) a1) | (intros; exact q) | (intros; exfalso; simp_all; done)
set_option maxRecDepth 100000 in
set_option maxHeartbeats 4000000 in
theorem s_X12_ofBill {g : GP} {Q : AH → Option Value → Prop} {v1 : Int32} {v2 : Int32} {σ : AH} (hS : Sh σ) (hB : vp_in (zI σ 33 36) 241)
    (q1 : ¬ (isWi v1 0 (zI σ 33 36 - 1)) → Q (uI σ 33 49 (1 : Int32)) (some (.int 0)))
    (q2 : (isWi v1 0 (zI σ 33 36 - 1)) → ¬ (isWi v2 0 5) → Q (uI σ 33 49 (2 : Int32)) (some (.int 0)))
    (q0 : (isWi v1 0 (zI σ 33 36 - 1)) → (isWi v2 0 5) → Q (uI σ 33 49 0) (some (.int (if v2 = 0 then zI σ 62 (ix v1) else if v2 = 1 then zI σ 63 (ix v1) else if v2 = 2 then zI σ 64 (ix v1) else if v2 = 3 then zI σ 65 (ix v1) else if v2 = 4 then zI σ 66 (ix v1) else zI σ 67 (ix v1))))) :
    Ct g mX12_ofBill [.ref 33, .int v1, .int v2] σ Q := by
  refine Ct_of (by decide +kernel) rfl rfl ?_
  by_cases a1 : isWi v1 0 (zI σ 33 36 - 1)
  · by_cases a2 : isWi v2 0 5
    · have q := q0 a1 a2
      clear q0 q1 q2
      all_goals refine b_X12_ofBill_0 hS ?_ ?_ ?_ ?_ ?_ ?_ ?_ ?_ ?_ ?_ ?_ ?_ ?_ ?_
      all_goals first | (intros; contradiction) | (intros; with_reducible exact vp_w240 hB (by assumption)) | (intros; exact q) | (intros; simp_all; done)
    · have q := q2 a1 a2
      clear q0 q1 q2
      all_goals refine b_X12_ofBill_0 hS ?_ ?_ ?_ ?_ ?_ ?_ ?_ ?_ ?_ ?_ ?_ ?_ ?_ ?_
      all_goals first | (intros; with_reducible exact q) | (intros; contradiction) | (intros; with_reducible exact vp_w240 hB (by assumption)) | (intros; with_reducible exact absurd (by assumption) a2) | (intros; exact q) | (intros; exfalso; simp_all; done)
  · have q := q1 a1
    clear q0 q1 q2
    all_goals refine b_X12_ofBill_0 hS ?_ ?_ ?_ ?_ ?_ ?_ ?_ ?_ ?_ ?_ ?_ ?_ ?_ ?_
    all_goals first | (intros; with_reducible exact q) | (intros; contradiction) | (intros; with_reducible exact vp_w240 hB (by assumption)) | (intros; with_reducible exact absurd (by assumption) a1) | (intros; exact q) | (intros; exfalso; simp_all; done)
set_option maxRecDepth 100000 in
set_option maxHeartbeats 4000000 in
theorem s_X12_ofCoupon {g : GP} {Q : AH → Option Value → Prop} {v1 : Int32} {v2 : Int32} {v3 : Int32} {σ : AH} (hS : Sh σ) (hN : vp_in (zI σ 33 23) 31) (hv : isWi v1 0 (zI σ 33 23 - 1) ∧ isWi v2 0 (zI σ 52 (ix v1) - 1) → vp_in (8 * v1 + v2) 240)
    (q1 : ¬ ((isWi v1 0 (zI σ 33 23 - 1) ∧ isWi v2 0 (zI σ 52 (ix v1) - 1))) → Q (uI σ 33 49 (1 : Int32)) (some (.int 0)))
    (q2 : ((isWi v1 0 (zI σ 33 23 - 1) ∧ isWi v2 0 (zI σ 52 (ix v1) - 1))) → ¬ (isWi v3 0 5) → Q (uI σ 33 49 (2 : Int32)) (some (.int 0)))
    (q0 : ((isWi v1 0 (zI σ 33 23 - 1) ∧ isWi v2 0 (zI σ 52 (ix v1) - 1))) → (isWi v3 0 5) → Q (uI σ 33 49 0) (some (.int (if v3 = 0 then zI σ 55 (ix (8 * v1 + v2)) else if v3 = 1 then zI σ 56 (ix (8 * v1 + v2)) else if v3 = 2 then zI σ 57 (ix (8 * v1 + v2)) else if v3 = 3 then zI σ 58 (ix (8 * v1 + v2)) else if v3 = 4 then zI σ 59 (ix (8 * v1 + v2)) else zI σ 61 (ix (8 * v1 + v2)))))) :
    Ct g mX12_ofCoupon [.ref 33, .int v1, .int v2, .int v3] σ Q := by
  refine Ct_of (by decide +kernel) rfl rfl ?_
  by_cases a1 : (isWi v1 0 (zI σ 33 23 - 1) ∧ isWi v2 0 (zI σ 52 (ix v1) - 1))
  · by_cases a2 : isWi v3 0 5
    · have q := q0 a1 a2
      clear q0 q1 q2
      all_goals refine b_X12_ofCoupon_0 hS ?_ ?_ ?_ ?_ ?_ ?_ ?_ ?_ ?_ ?_ ?_ ?_ ?_ ?_ ?_
      all_goals first | (intros; contradiction) | (intros; with_reducible exact hN) | (intros; with_reducible exact hv (by assumption)) | (intros; exact q) | (intros; simp_all; done)
    · have q := q2 a1 a2
      clear q0 q1 q2
      all_goals refine b_X12_ofCoupon_0 hS ?_ ?_ ?_ ?_ ?_ ?_ ?_ ?_ ?_ ?_ ?_ ?_ ?_ ?_ ?_
      all_goals first | (intros; with_reducible exact q) | (intros; contradiction) | (intros; with_reducible exact hN) | (intros; with_reducible exact hv (by assumption)) | (intros; with_reducible exact absurd (by assumption) a2) | (intros; exact q) | (intros; exfalso; simp_all; done)
  · have q := q1 a1
    clear q0 q1 q2
    all_goals refine b_X12_ofCoupon_0 hS ?_ ?_ ?_ ?_ ?_ ?_ ?_ ?_ ?_ ?_ ?_ ?_ ?_ ?_ ?_
    all_goals first | (intros; with_reducible exact q) | (intros; contradiction) | (intros; with_reducible exact hN) | (intros; with_reducible exact hv (by assumption)) | (intros; with_reducible exact absurd ⟨(by assumption), (by assumption)⟩ a1) | (intros; exact q) | (intros; exfalso; simp_all; done)
set_option maxRecDepth 100000 in
set_option maxHeartbeats 4000000 in
theorem s_X12_ofTicket {g : GP} {Q : AH → Option Value → Prop} {v1 : Int32} {v2 : Int32} {σ : AH} (hS : Sh σ) (hN : vp_in (zI σ 33 23) 31) (hM : isWi v1 0 (zI σ 33 23 - 1) → vp_in (zI (uI σ 33 49 0) 52 (ix v1)) 9)
    (q1 : ¬ (isWi v1 0 (zI σ 33 23 - 1)) → Q (uI σ 33 49 (1 : Int32)) (some (.int 0)))
    (q2 : (isWi v1 0 (zI σ 33 23 - 1)) → ¬ (isWi v2 0 5) → Q (uI σ 33 49 (2 : Int32)) (some (.int 0)))
    (q0 : (isWi v1 0 (zI σ 33 23 - 1)) → (isWi v2 0 5) → Q (uI σ 33 49 0) (some (.int (if v2 = 0 then zI σ 50 (ix v1) else if v2 = 1 then smI (fun k => zI (uI σ 33 49 0) 57 (8 * ix v1 + k)) (ix (zI (uI σ 33 49 0) 52 (ix v1))) else if v2 = 2 then zI σ 51 (ix v1) else if v2 = 3 then zI σ 52 (ix v1) else if v2 = 4 then zI σ 53 (ix v1) else zI σ 54 (ix v1))))) :
    Ct g mX12_ofTicket [.ref 33, .int v1, .int v2] σ Q := by
  refine Ct_of (by decide +kernel) rfl rfl ?_
  by_cases a1 : isWi v1 0 (zI σ 33 23 - 1)
  · by_cases a2 : isWi v2 0 5
    · have q := q0 a1 a2
      clear q0 q1 q2
      all_goals refine b_X12_ofTicket_0 hS ?_ ?_ ?_ ?_ ?_ ?_ ?_ ?_ ?_ ?_ ?_ ?_ ?_ ?_ ?_
      all_goals first | (intros; contradiction) | (intros; with_reducible exact vp_w30 hN (by assumption)) | (intros; with_reducible exact hM (by assumption)) | (intros; exact q) | (intros; simp_all; done)
    · have q := q2 a1 a2
      clear q0 q1 q2
      all_goals refine b_X12_ofTicket_0 hS ?_ ?_ ?_ ?_ ?_ ?_ ?_ ?_ ?_ ?_ ?_ ?_ ?_ ?_ ?_
      all_goals first | (intros; with_reducible exact q) | (intros; contradiction) | (intros; with_reducible exact vp_w30 hN (by assumption)) | (intros; with_reducible exact hM (by assumption)) | (intros; with_reducible exact absurd (by assumption) a2) | (intros; exact q) | (intros; exfalso; simp_all; done)
  · have q := q1 a1
    clear q0 q1 q2
    all_goals refine b_X12_ofTicket_0 hS ?_ ?_ ?_ ?_ ?_ ?_ ?_ ?_ ?_ ?_ ?_ ?_ ?_ ?_ ?_
    all_goals first | (intros; with_reducible exact q) | (intros; contradiction) | (intros; with_reducible exact vp_w30 hN (by assumption)) | (intros; with_reducible exact hM (by assumption)) | (intros; with_reducible exact absurd (by assumption) a1) | (intros; exact q) | (intros; exfalso; simp_all; done)
theorem s_X12_paid {g : GP} {σ : AH} (hS : Sh σ) : Ct g mX12_paid [.ref 33] σ (FQ (uI σ 33 49 0) (some (.long (zJ σ 33 48)))) :=
  Ct_of (by decide +kernel) rfl rfl (b_X12_paid_0 hS fq)
def dfS (σ : AH) : Nat → Int32
  | 0 => 0
  | d + 1 => dfS σ d ||| (if zI σ 68 d = 0 then 0 else (1 : Int32) <<< (nI d &&& 31))
theorem s_X12_defaults {g : GP} {σ : AH} (hS : Sh σ) : Ct g mX12_defaults [.ref 33] σ (FQ σ (some (.int (dfS σ 5)))) := by
  refine Ct_of (by decide +kernel) rfl rfl (b_X12_defaults_0 ?_)
  refine up_loop (P := fun d => V g mX12_defaults (Em g mX12_defaults (FQ σ (some (.int (dfS σ 5)))) NX) CT 0 0 4 [(0, .ref 33), (1, .int (dfS σ d)), (2, .int (nI d))] [] σ) 5 ?_ ?_ 0 (by decide)
  · have hle : (5 : Int32) ≤ nI 5 := Int32.le_refl _
    exact b_X12_defaults_4 hS (fun _ => fq) (fun c => absurd hle c) (fun c => absurd hle c) (fun c => absurd hle c)
  · intro d hd ih
    have hlt : ¬ (5 : Int32) ≤ nI d := nI_ge (a := d) (b := 5) hd (by decide)
    have hc : (nI d).toNatClampNeg = d := cl0 (by omega)
    rw [← nI_1] at ih
    refine b_X12_defaults_4 hS (fun c => absurd c hlt) (fun _ => vp_in_nI (by omega) (by decide)) (fun _ c => ?_) (fun _ c => ?_)
    · rw [hc] at c; rw [show dfS σ (d + 1) = dfS σ d ||| 0 by rw [dfS, if_pos c]] at ih; exact ih
    · rw [hc] at c; rw [show dfS σ (d + 1) = dfS σ d ||| ((1 : Int32) <<< (nI d &&& 31)) by rw [dfS, if_neg c]] at ih; exact ih
set_option maxRecDepth 100000 in
set_option maxHeartbeats 4000000 in
theorem b_X12_of_0 {g : GP} {CX : State → Array Value → Prop} {Q : AH → Option Value → Prop} {X : AH → String → Prop} {v1 : Int32} {σ : AH}
    (hS : Sh σ)
    (k1 : (isWi v1 (0 : Int32) (5 : Int32)) → (¬ v1 = 0) → (¬ v1 = (1 : Int32)) → (¬ v1 = (2 : Int32)) → (¬ v1 = (3 : Int32)) → (¬ v1 = (4 : Int32)) → Q (uI σ 33 49 (0 : Int32)) (some (.int (dfS (uI σ 33 49 (0 : Int32)) 5))))
    (k2 : (isWi v1 (0 : Int32) (5 : Int32)) → (¬ v1 = 0) → (¬ v1 = (1 : Int32)) → (¬ v1 = (2 : Int32)) → (¬ v1 = (3 : Int32)) → (v1 = (4 : Int32)) → Q (uI σ 33 49 (0 : Int32)) (some (.int (zI σ 33 43))))
    (k3 : (isWi v1 (0 : Int32) (5 : Int32)) → (¬ v1 = 0) → (¬ v1 = (1 : Int32)) → (¬ v1 = (2 : Int32)) → (v1 = (3 : Int32)) → Q (uI σ 33 49 (0 : Int32)) (some (.int (zI σ 33 36))))
    (k4 : (isWi v1 (0 : Int32) (5 : Int32)) → (¬ v1 = 0) → (¬ v1 = (1 : Int32)) → (v1 = (2 : Int32)) → Q (uI σ 33 49 (0 : Int32)) (some (.int (zI σ 33 23))))
    (k5 : (isWi v1 (0 : Int32) (5 : Int32)) → (¬ v1 = 0) → (v1 = (1 : Int32)) → Q (uI σ 33 49 (0 : Int32)) (some (.int (zI σ 33 16))))
    (k6 : (isWi v1 (0 : Int32) (5 : Int32)) → (v1 = 0) → Q (uI σ 33 49 (0 : Int32)) (some (.int (zI σ 33 0))))
    (k7 : (¬ (isWi v1 (0 : Int32) (5 : Int32))) → Q (uI σ 33 49 (1 : Int32)) (some (.int (0 : Int32)))) :
    V g mX12_of (Em g mX12_of Q X) CX 0 0 0 [(0, .ref 33), (1, .int v1)] [] σ := by
  refine V_aload_n dX12_of_0 rfl ?_
  refine V_iload_n dX12_of_1 rfl ?_
  refine V_iconst (0 : Int32) dX12_of_2 (by decide) ?_
  refine V_iconst (5 : Int32) dX12_of_3 (by decide) ?_
  refine V_callS1 (as := [.int v1, .int (0 : Int32), .int (5 : Int32)]) (k' := 0) (n' := 0) (s_X12_in) mw_X12_in w_1219 w_1218 ar_X12_in rfl ⟨rfl, rfl, rfl, rfl, rfl⟩ dX12_of_4 ?_
  refine V_iconst (1 : Int32) dX12_of_7 (by decide) ?_
  refine V_iconst (1 : Int32) dX12_of_8 (by decide) ?_
  by_cases c1 : isWi v1 (0 : Int32) (5 : Int32)
  · refine V_cast (st' := [.int (1 : Int32), .int (1 : Int32), .int (1 : Int32), .ref 33]) rfl (by rw [jb_t c1]) rfl ?_
    refine V_callV1 (as := [.int (1 : Int32), .int (1 : Int32), .int (1 : Int32)]) (k' := 0) (n' := 0) (s_goes0 hS) mw_X12_goes ko_X12 rfl w_1223 w_20 w_1221 ar_X12_goes rfl ⟨rfl, rfl, rfl, rfl, rfl⟩ dX12_of_9 (by decide) (shk hS 33 rfl) ?_
    refine V_if_ne 17 dX12_of_12 rfl (fun _ => ?_) (fun z_ => (by first | exact absurd (by decide) z_ | exact absurd z_ (by decide)))
    refine V_iload_n dX12_of_17 rfl ?_
    refine V_if_ne 28 dX12_of_18 rfl (fun c2 => ?_) (fun c2 => ?_)
    · refine V_iload_n dX12_of_28 rfl ?_
      refine V_iconst (1 : Int32) dX12_of_29 (by decide) ?_
      refine V_icmp_ne 40 dX12_of_30 rfl (fun c3 => ?_) (fun c3 => ?_)
      · refine V_iload_n dX12_of_40 rfl ?_
        refine V_iconst (2 : Int32) dX12_of_41 (by decide) ?_
        refine V_icmp_ne 52 dX12_of_42 rfl (fun c4 => ?_) (fun c4 => ?_)
        · refine V_iload_n dX12_of_52 rfl ?_
          refine V_iconst (3 : Int32) dX12_of_53 (by decide) ?_
          refine V_icmp_ne 64 dX12_of_54 rfl (fun c5 => ?_) (fun c5 => ?_)
          · refine V_iload_n dX12_of_64 rfl ?_
            refine V_iconst (4 : Int32) dX12_of_65 (by decide) ?_
            refine V_icmp_ne 76 dX12_of_66 rfl (fun c6 => ?_) (fun c6 => ?_)
            · refine V_aload_n dX12_of_76 rfl ?_
              refine V_callV1 (as := []) (k' := 0) (n' := 0) (s_X12_defaults (Sh_uI hS)) mw_X12_defaults ko_X12 rfl w_1459 w_46 w_1457 ar_X12_defaults rfl ⟨rfl, rfl, rfl, rfl, rfl⟩ dX12_of_77 (by decide) (shk (Sh_uI hS) 33 rfl) ?_
              exact V_iret rfl dX12_of_80 (k1 c1 c2 c3 c4 c5 c6)
            · refine V_aload_n dX12_of_69 rfl ?_
              refine V_getf (fk := 43) (Value.int (zI σ 33 43)) ko_X12 rfl w_1098 dX12_of_70 (by decide) (shk (Sh_uI hS) 33 rfl) (congrArg Value.int (zI_oth _ _ _ _ _ _ (by decide))) ?_
              refine V_goto 80 dX12_of_73 rfl ?_
              exact V_iret rfl dX12_of_80 (k2 c1 c2 c3 c4 c5 c6)
          · refine V_aload_n dX12_of_57 rfl ?_
            refine V_getf (fk := 36) (Value.int (zI σ 33 36)) ko_X12 rfl w_1091 dX12_of_58 (by decide) (shk (Sh_uI hS) 33 rfl) (congrArg Value.int (zI_oth _ _ _ _ _ _ (by decide))) ?_
            refine V_goto 80 dX12_of_61 rfl ?_
            exact V_iret rfl dX12_of_80 (k3 c1 c2 c3 c4 c5)
        · refine V_aload_n dX12_of_45 rfl ?_
          refine V_getf (fk := 23) (Value.int (zI σ 33 23)) ko_X12 rfl w_1078 dX12_of_46 (by decide) (shk (Sh_uI hS) 33 rfl) (congrArg Value.int (zI_oth _ _ _ _ _ _ (by decide))) ?_
          refine V_goto 80 dX12_of_49 rfl ?_
          exact V_iret rfl dX12_of_80 (k4 c1 c2 c3 c4)
      · refine V_aload_n dX12_of_33 rfl ?_
        refine V_getf (fk := 16) (Value.int (zI σ 33 16)) ko_X12 rfl w_1071 dX12_of_34 (by decide) (shk (Sh_uI hS) 33 rfl) (congrArg Value.int (zI_oth _ _ _ _ _ _ (by decide))) ?_
        refine V_goto 80 dX12_of_37 rfl ?_
        exact V_iret rfl dX12_of_80 (k5 c1 c2 c3)
    · refine V_aload_n dX12_of_21 rfl ?_
      refine V_getf (fk := 0) (Value.int (zI σ 33 0)) ko_X12 rfl w_1055 dX12_of_22 (by decide) (shk (Sh_uI hS) 33 rfl) (congrArg Value.int (zI_oth _ _ _ _ _ _ (by decide))) ?_
      refine V_goto 80 dX12_of_25 rfl ?_
      exact V_iret rfl dX12_of_80 (k6 c1 c2)
  · refine V_cast (st' := [.int (1 : Int32), .int (1 : Int32), .int (0 : Int32), .ref 33]) rfl (by rw [jb_f c1]) rfl ?_
    refine V_callV1 (as := [.int (0 : Int32), .int (1 : Int32), .int (1 : Int32)]) (k' := 0) (n' := 0) (s_goes1 hS) mw_X12_goes ko_X12 rfl w_1223 w_20 w_1221 ar_X12_goes rfl ⟨rfl, rfl, rfl, rfl, rfl⟩ dX12_of_9 (by decide) (shk hS 33 rfl) ?_
    refine V_if_ne 17 dX12_of_12 rfl (fun z_ => (by first | exact absurd (by decide) z_ | exact absurd z_ (by decide))) (fun _ => ?_)
    refine V_iconst (0 : Int32) dX12_of_15 (by decide) ?_
    exact V_iret rfl dX12_of_16 (k7 c1)

set_option maxRecDepth 100000 in
set_option maxHeartbeats 4000000 in
theorem s_X12_of {g : GP} {Q : AH → Option Value → Prop} {v1 : Int32} {σ : AH} (hS : Sh σ) 
    (q1 : ¬ (isWi v1 0 5) → Q (uI σ 33 49 (1 : Int32)) (some (.int 0)))
    (q0 : (isWi v1 0 5) → Q (uI σ 33 49 0) (some (.int (if v1 = 0 then zI σ 33 0 else if v1 = 1 then zI σ 33 16 else if v1 = 2 then zI σ 33 23 else if v1 = 3 then zI σ 33 36 else if v1 = 4 then zI σ 33 43 else dfS (uI σ 33 49 0) 5)))) :
    Ct g mX12_of [.ref 33, .int v1] σ Q := by
  refine Ct_of (by decide +kernel) rfl rfl ?_
  by_cases a1 : isWi v1 0 5
  · have q := q0 a1
    clear q0 q1
    all_goals refine b_X12_of_0 hS ?_ ?_ ?_ ?_ ?_ ?_ ?_
    all_goals first | (intros; contradiction) | (intros; exact q) | (intros; simp_all; done)
  · have q := q1 a1
    clear q0 q1
    all_goals refine b_X12_of_0 hS ?_ ?_ ?_ ?_ ?_ ?_ ?_
    all_goals first | (intros; with_reducible exact q) | (intros; contradiction) | (intros; with_reducible exact absurd (by assumption) a1) | (intros; exact q) | (intros; exfalso; simp_all; done)
