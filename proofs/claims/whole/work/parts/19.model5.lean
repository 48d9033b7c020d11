/-! ===== the reference: coupons ===== -/
set_option maxRecDepth 100000 in
set_option maxHeartbeats 4000000 in
theorem b_X12_taxes_0 {g : GP} {CX : State → Array Value → Prop} {E : ET} {v1 : Int32} {σ : AH}
    (k1 : V g mX12_taxes E CX 0 0 7 [(0, .ref 33), (1, .int v1), (2, .int (0 : Int32)), (3, .int ((8 : Int32) * v1))] [] σ) :
    V g mX12_taxes E CX 0 0 0 [(0, .ref 33), (1, .int v1)] [] σ := by
  refine V_iconst (0 : Int32) dX12_taxes_0 (by decide) ?_
  refine V_istore_n [(0, .ref 33), (1, .int v1), (2, .int (0 : Int32))] dX12_taxes_1 rfl rfl ?_
  refine V_bipush (8 : Int32) dX12_taxes_2 (by decide) ?_
  refine V_iload_n dX12_taxes_4 rfl ?_
  refine V_imul dX12_taxes_5 ?_
  refine V_istore_n [(0, .ref 33), (1, .int v1), (2, .int (0 : Int32)), (3, .int ((8 : Int32) * v1))] dX12_taxes_6 rfl rfl ?_
  exact k1
set_option maxRecDepth 100000 in
set_option maxHeartbeats 4000000 in
theorem b_X12_taxes_7 {g : GP} {CX : State → Array Value → Prop} {Q : AH → Option Value → Prop} {X : AH → String → Prop} {v1 : Int32} {v2 : Int32} {v3 : Int32} {σ : AH}
    (hS : Sh σ)
    (o1 : vp_in v1 30)
    (k1 : ((((8 : Int32) * v1) + (zI σ 52 (Int32.toNatClampNeg v1))) ≤ v3) → Q σ (some (.int v2)))
    (o2 : (¬ (((8 : Int32) * v1) + (zI σ 52 (Int32.toNatClampNeg v1))) ≤ v3) → vp_in v3 240)
    (k2 : (¬ (((8 : Int32) * v1) + (zI σ 52 (Int32.toNatClampNeg v1))) ≤ v3) → V g mX12_taxes (Em g mX12_taxes Q X) CX 0 0 7 [(0, .ref 33), (1, .int v1), (2, .int (v2 + (zI σ 57 (Int32.toNatClampNeg v3)))), (3, .int (v3 + (1 : Int32)))] [] σ) :
    V g mX12_taxes (Em g mX12_taxes Q X) CX 0 0 7 [(0, .ref 33), (1, .int v1), (2, .int v2), (3, .int v3)] [] σ := by
  refine V_iload_n dX12_taxes_7 rfl ?_
  refine V_bipush (8 : Int32) dX12_taxes_8 (by decide) ?_
  refine V_iload_n dX12_taxes_10 rfl ?_
  refine V_imul dX12_taxes_11 ?_
  refine V_aload_n dX12_taxes_12 rfl ?_
  refine V_getf (fk := 26) (Value.ref 52) ko_X12 rfl w_1081 dX12_taxes_13 (by decide) (shk hS 33 rfl) (congrArg Value.ref (shr hS 33 26 52 (by decide))) ?_
  refine V_iload_n dX12_taxes_16 rfl ?_
  refine V_iald dX12_taxes_17 (by decide) (shk hS 52 rfl) (vp_l (n := 30) (shl hS 52 rfl) o1) ?_
  refine V_iadd dX12_taxes_18 ?_
  refine V_icmp_ge 37 dX12_taxes_19 rfl (fun c1 => ?_) (fun c1 => ?_)
  · refine V_iload_n dX12_taxes_37 rfl ?_
    exact V_iret rfl dX12_taxes_38 (k1 c1)
  · refine V_iload_n dX12_taxes_22 rfl ?_
    refine V_aload_n dX12_taxes_23 rfl ?_
    refine V_getf (fk := 31) (Value.ref 57) ko_X12 rfl w_1086 dX12_taxes_24 (by decide) (shk hS 33 rfl) (congrArg Value.ref (shr hS 33 31 57 (by decide))) ?_
    refine V_iload_n dX12_taxes_27 rfl ?_
    refine V_iald dX12_taxes_28 (by decide) (shk hS 57 rfl) (vp_l (n := 240) (shl hS 57 rfl) (o2 c1)) ?_
    refine V_iadd dX12_taxes_29 ?_
    refine V_istore_n [(0, .ref 33), (1, .int v1), (2, .int (v2 + (zI σ 57 (Int32.toNatClampNeg v3)))), (3, .int v3)] dX12_taxes_30 rfl rfl ?_
    refine V_iinc (v3 + (1 : Int32)) [(0, .ref 33), (1, .int v1), (2, .int (v2 + (zI σ 57 (Int32.toNatClampNeg v3)))), (3, .int (v3 + (1 : Int32)))] dX12_taxes_31 rfl rfl rfl rfl ?_
    refine V_goto 7 dX12_taxes_34 rfl ?_
    exact (k2 c1)

set_option maxRecDepth 100000 in
set_option maxHeartbeats 4000000 in
theorem b_X12_buys_0 {g : GP} {CX : State → Array Value → Prop} {Q : AH → Option Value → Prop} {X : AH → String → Prop} {v1 : Int32} {v2 : Int32} {σ : AH}
    (hS : Sh σ)
    (o1 : vp_in v1 5)
    (k1 : Q (uJ (uJ σ 70 (Int32.toNatClampNeg v1) ((zJ σ 70 (Int32.toNatClampNeg v1)) + (Int32.toInt64 v2))) 33 48 ((zJ σ 33 48) + (Int32.toInt64 v2))) none) :
    V g mX12_buys (Em g mX12_buys Q X) CX 0 0 0 [(0, .ref 33), (1, .int v1), (2, .int v2)] [] σ := by
  refine V_aload_n dX12_buys_0 rfl ?_
  refine V_getf (fk := 46) (Value.ref 70) ko_X12 rfl w_1101 dX12_buys_1 (by decide) (shk hS 33 rfl) (congrArg Value.ref (shr hS 33 46 70 (by decide))) ?_
  refine V_iload_n dX12_buys_4 rfl ?_
  refine V_dup2 dX12_buys_5 rfl rfl ?_
  refine V_lald dX12_buys_6 (by decide) (shk hS 70 rfl) (vp_l (n := 5) (shl hS 70 rfl) o1) ?_
  refine V_iload_n dX12_buys_7 rfl ?_
  refine V_i2l dX12_buys_8 ?_
  refine V_ladd dX12_buys_9 ?_
  refine V_last dX12_buys_10 (by decide) (shk hS 70 rfl) (vp_l (n := 5) (shl hS 70 rfl) o1) ?_
  refine V_aload_n dX12_buys_11 rfl ?_
  refine V_dup dX12_buys_12 rfl ?_
  refine V_getf (fk := 48) (Value.long (zJ σ 33 48)) ko_X12 rfl w_1103 dX12_buys_13 (by decide) (shk (Sh_uJ hS) 33 rfl) (congrArg Value.long (zJ_oa _ _ _ _ _ _ (by decide))) ?_
  refine V_iload_n dX12_buys_16 rfl ?_
  refine V_i2l dX12_buys_17 ?_
  refine V_ladd dX12_buys_18 ?_
  refine V_putl (fk := 48) ko_X12 rfl w_1103 (Or.inl rfl) dX12_buys_19 rfl (by decide) (shk (Sh_uJ hS) 33 rfl) ?_
  exact V_vret rfl dX12_buys_22 k1

set_option maxRecDepth 100000 in
set_option maxHeartbeats 4000000 in
theorem b_X12_isTicket_0 {g : GP} {CX : State → Array Value → Prop} {Q : AH → Option Value → Prop} {X : AH → String → Prop} {v1 : Int32} {σ : AH}
    (hS : Sh σ)
    (k1 : Q σ (some (.int (jb (isWi v1 (0 : Int32) ((zI σ 33 23) - (1 : Int32))))))) :
    V g mX12_isTicket (Em g mX12_isTicket Q X) CX 0 0 0 [(0, .ref 33), (1, .int v1)] [] σ := by
  refine V_iload_n dX12_isTicket_0 rfl ?_
  refine V_iconst (0 : Int32) dX12_isTicket_1 (by decide) ?_
  refine V_aload_n dX12_isTicket_2 rfl ?_
  refine V_getf (fk := 23) (Value.int (zI σ 33 23)) ko_X12 rfl w_1078 dX12_isTicket_3 (by decide) (shk hS 33 rfl) rfl ?_
  refine V_iconst (1 : Int32) dX12_isTicket_6 (by decide) ?_
  refine V_isub dX12_isTicket_7 ?_
  refine V_callS1 (as := [.int v1, .int (0 : Int32), .int ((zI σ 33 23) - (1 : Int32))]) (k' := 0) (n' := 0) (s_X12_in) mw_X12_in w_1219 w_1218 ar_X12_in rfl ⟨rfl, rfl, rfl, rfl, rfl⟩ dX12_isTicket_8 ?_
  exact V_zret rfl dX12_isTicket_11 (jb_nar _) k1

set_option maxRecDepth 100000 in
set_option maxHeartbeats 4000000 in
theorem b_X12_hasOpen_0 {g : GP} {CX : State → Array Value → Prop} {E : ET} {v1 : Int32} {σ : AH}
    (k1 : V g mX12_hasOpen E CX 0 0 7 [(0, .ref 33), (1, .int v1), (2, .int (0 : Int32)), (3, .int ((8 : Int32) * v1))] [] σ) :
    V g mX12_hasOpen E CX 0 0 0 [(0, .ref 33), (1, .int v1)] [] σ := by
  refine V_iconst (0 : Int32) dX12_hasOpen_0 (by decide) ?_
  refine V_istore_n [(0, .ref 33), (1, .int v1), (2, .int (0 : Int32))] dX12_hasOpen_1 rfl rfl ?_
  refine V_bipush (8 : Int32) dX12_hasOpen_2 (by decide) ?_
  refine V_iload_n dX12_hasOpen_4 rfl ?_
  refine V_imul dX12_hasOpen_5 ?_
  refine V_istore_n [(0, .ref 33), (1, .int v1), (2, .int (0 : Int32)), (3, .int ((8 : Int32) * v1))] dX12_hasOpen_6 rfl rfl ?_
  exact k1
set_option maxRecDepth 100000 in
set_option maxHeartbeats 4000000 in
theorem b_X12_hasOpen_7 {g : GP} {CX : State → Array Value → Prop} {Q : AH → Option Value → Prop} {X : AH → String → Prop} {v1 : Int32} {v2 : Int32} {v3 : Int32} {σ : AH}
    (hS : Sh σ)
    (o1 : vp_in v1 30)
    (o2 : ((((8 : Int32) * v1) + (zI σ 52 (Int32.toNatClampNeg v1))) ≤ v3) → narrow .boolean (.int v2) = .int v2)
    (k1 : ((((8 : Int32) * v1) + (zI σ 52 (Int32.toNatClampNeg v1))) ≤ v3) → Q σ (some (.int v2)))
    (k2 : (¬ (((8 : Int32) * v1) + (zI σ 52 (Int32.toNatClampNeg v1))) ≤ v3) → (¬ v2 = 0) → V g mX12_hasOpen (Em g mX12_hasOpen Q X) CX 0 0 7 [(0, .ref 33), (1, .int v1), (2, .int (1 : Int32)), (3, .int (v3 + (1 : Int32)))] [] σ)
    (o3 : (¬ (((8 : Int32) * v1) + (zI σ 52 (Int32.toNatClampNeg v1))) ≤ v3) → (v2 = 0) → vp_in v3 240)
    (k3 : (¬ (((8 : Int32) * v1) + (zI σ 52 (Int32.toNatClampNeg v1))) ≤ v3) → (v2 = 0) → (¬ (zI σ 55 (Int32.toNatClampNeg v3)) = 0) → V g mX12_hasOpen (Em g mX12_hasOpen Q X) CX 0 0 7 [(0, .ref 33), (1, .int v1), (2, .int (0 : Int32)), (3, .int (v3 + (1 : Int32)))] [] σ)
    (k4 : (¬ (((8 : Int32) * v1) + (zI σ 52 (Int32.toNatClampNeg v1))) ≤ v3) → (v2 = 0) → ((zI σ 55 (Int32.toNatClampNeg v3)) = 0) → V g mX12_hasOpen (Em g mX12_hasOpen Q X) CX 0 0 7 [(0, .ref 33), (1, .int v1), (2, .int (1 : Int32)), (3, .int (v3 + (1 : Int32)))] [] σ) :
    V g mX12_hasOpen (Em g mX12_hasOpen Q X) CX 0 0 7 [(0, .ref 33), (1, .int v1), (2, .int v2), (3, .int v3)] [] σ := by
  refine V_iload_n dX12_hasOpen_7 rfl ?_
  refine V_bipush (8 : Int32) dX12_hasOpen_8 (by decide) ?_
  refine V_iload_n dX12_hasOpen_10 rfl ?_
  refine V_imul dX12_hasOpen_11 ?_
  refine V_aload_n dX12_hasOpen_12 rfl ?_
  refine V_getf (fk := 26) (Value.ref 52) ko_X12 rfl w_1081 dX12_hasOpen_13 (by decide) (shk hS 33 rfl) (congrArg Value.ref (shr hS 33 26 52 (by decide))) ?_
  refine V_iload_n dX12_hasOpen_16 rfl ?_
  refine V_iald dX12_hasOpen_17 (by decide) (shk hS 52 rfl) (vp_l (n := 30) (shl hS 52 rfl) o1) ?_
  refine V_iadd dX12_hasOpen_18 ?_
  refine V_icmp_ge 47 dX12_hasOpen_19 rfl (fun c1 => ?_) (fun c1 => ?_)
  · refine V_iload_n dX12_hasOpen_47 rfl ?_
    exact V_zret rfl dX12_hasOpen_48 (o2 c1) (k1 c1)
  · refine V_iload_n dX12_hasOpen_22 rfl ?_
    refine V_if_ne 35 dX12_hasOpen_23 rfl (fun c2 => ?_) (fun c2 => ?_)
    · refine V_iconst (1 : Int32) dX12_hasOpen_35 (by decide) ?_
      refine V_goto 40 dX12_hasOpen_36 rfl ?_
      refine V_istore_n [(0, .ref 33), (1, .int v1), (2, .int (1 : Int32)), (3, .int v3)] dX12_hasOpen_40 rfl rfl ?_
      refine V_iinc (v3 + (1 : Int32)) [(0, .ref 33), (1, .int v1), (2, .int (1 : Int32)), (3, .int (v3 + (1 : Int32)))] dX12_hasOpen_41 rfl rfl rfl rfl ?_
      refine V_goto 7 dX12_hasOpen_44 rfl ?_
      exact (k2 c1 c2)
    · refine V_aload_n dX12_hasOpen_26 rfl ?_
      refine V_getf (fk := 29) (Value.ref 55) ko_X12 rfl w_1084 dX12_hasOpen_27 (by decide) (shk hS 33 rfl) (congrArg Value.ref (shr hS 33 29 55 (by decide))) ?_
      refine V_iload_n dX12_hasOpen_30 rfl ?_
      refine V_iald dX12_hasOpen_31 (by decide) (shk hS 55 rfl) (vp_l (n := 240) (shl hS 55 rfl) (o3 c1 c2)) ?_
      refine V_if_ne 39 dX12_hasOpen_32 rfl (fun c3 => ?_) (fun c3 => ?_)
      · refine V_iconst (0 : Int32) dX12_hasOpen_39 (by decide) ?_
        refine V_istore_n [(0, .ref 33), (1, .int v1), (2, .int (0 : Int32)), (3, .int v3)] dX12_hasOpen_40 rfl rfl ?_
        refine V_iinc (v3 + (1 : Int32)) [(0, .ref 33), (1, .int v1), (2, .int (0 : Int32)), (3, .int (v3 + (1 : Int32)))] dX12_hasOpen_41 rfl rfl rfl rfl ?_
        refine V_goto 7 dX12_hasOpen_44 rfl ?_
        exact (k3 c1 c2 c3)
      · refine V_iconst (1 : Int32) dX12_hasOpen_35 (by decide) ?_
        refine V_goto 40 dX12_hasOpen_36 rfl ?_
        refine V_istore_n [(0, .ref 33), (1, .int v1), (2, .int (1 : Int32)), (3, .int v3)] dX12_hasOpen_40 rfl rfl ?_
        refine V_iinc (v3 + (1 : Int32)) [(0, .ref 33), (1, .int v1), (2, .int (1 : Int32)), (3, .int (v3 + (1 : Int32)))] dX12_hasOpen_41 rfl rfl rfl rfl ?_
        refine V_goto 7 dX12_hasOpen_44 rfl ?_
        exact (k4 c1 c2 c3)

set_option maxRecDepth 100000 in
set_option maxHeartbeats 4000000 in
theorem b_X12_openOnes_0 {g : GP} {CX : State → Array Value → Prop} {E : ET} {v1 : Int32} {v2 : Int32} {σ : AH}
    (k1 : V g mX12_openOnes E CX 0 0 8 [(0, .ref 33), (1, .int v1), (2, .int v2), (3, .int (0 : Int32)), (4, .int ((8 : Int32) * v1))] [] σ) :
    V g mX12_openOnes E CX 0 0 0 [(0, .ref 33), (1, .int v1), (2, .int v2)] [] σ := by
  refine V_iconst (0 : Int32) dX12_openOnes_0 (by decide) ?_
  refine V_istore_n [(0, .ref 33), (1, .int v1), (2, .int v2), (3, .int (0 : Int32))] dX12_openOnes_1 rfl rfl ?_
  refine V_bipush (8 : Int32) dX12_openOnes_2 (by decide) ?_
  refine V_iload_n dX12_openOnes_4 rfl ?_
  refine V_imul dX12_openOnes_5 ?_
  refine V_istore [(0, .ref 33), (1, .int v1), (2, .int v2), (3, .int (0 : Int32)), (4, .int ((8 : Int32) * v1))] dX12_openOnes_6 rfl rfl ?_
  exact k1
set_option maxRecDepth 100000 in
set_option maxHeartbeats 4000000 in
theorem b_X12_openOnes_8 {g : GP} {CX : State → Array Value → Prop} {Q : AH → Option Value → Prop} {X : AH → String → Prop} {v1 : Int32} {v2 : Int32} {v3 : Int32} {v4 : Int32} {σ : AH}
    (hS : Sh σ)
    (o1 : vp_in v1 30)
    (k1 : ((((8 : Int32) * v1) + (zI σ 52 (Int32.toNatClampNeg v1))) ≤ v4) → Q σ (some (.int v3)))
    (o2 : (¬ (((8 : Int32) * v1) + (zI σ 52 (Int32.toNatClampNeg v1))) ≤ v4) → vp_in v4 240)
    (k2 : (¬ (((8 : Int32) * v1) + (zI σ 52 (Int32.toNatClampNeg v1))) ≤ v4) → (¬ (zI σ 55 (Int32.toNatClampNeg v4)) = 0) → V g mX12_openOnes (Em g mX12_openOnes Q X) CX 0 0 8 [(0, .ref 33), (1, .int v1), (2, .int v2), (3, .int (v3 + (0 : Int32))), (4, .int (v4 + (1 : Int32)))] [] σ)
    (k3 : (¬ (((8 : Int32) * v1) + (zI σ 52 (Int32.toNatClampNeg v1))) ≤ v4) → ((zI σ 55 (Int32.toNatClampNeg v4)) = 0) → (v2 = 0) → V g mX12_openOnes (Em g mX12_openOnes Q X) CX 0 0 8 [(0, .ref 33), (1, .int v1), (2, .int v2), (3, .int (v3 + (zI σ 56 (Int32.toNatClampNeg v4)))), (4, .int (v4 + (1 : Int32)))] [] σ)
    (k4 : (¬ (((8 : Int32) * v1) + (zI σ 52 (Int32.toNatClampNeg v1))) ≤ v4) → ((zI σ 55 (Int32.toNatClampNeg v4)) = 0) → (¬ v2 = 0) → V g mX12_openOnes (Em g mX12_openOnes Q X) CX 0 0 8 [(0, .ref 33), (1, .int v1), (2, .int v2), (3, .int (v3 + (zI σ 57 (Int32.toNatClampNeg v4)))), (4, .int (v4 + (1 : Int32)))] [] σ) :
    V g mX12_openOnes (Em g mX12_openOnes Q X) CX 0 0 8 [(0, .ref 33), (1, .int v1), (2, .int v2), (3, .int v3), (4, .int v4)] [] σ := by
  refine V_iload dX12_openOnes_8 rfl ?_
  refine V_bipush (8 : Int32) dX12_openOnes_10 (by decide) ?_
  refine V_iload_n dX12_openOnes_12 rfl ?_
  refine V_imul dX12_openOnes_13 ?_
  refine V_aload_n dX12_openOnes_14 rfl ?_
  refine V_getf (fk := 26) (Value.ref 52) ko_X12 rfl w_1081 dX12_openOnes_15 (by decide) (shk hS 33 rfl) (congrArg Value.ref (shr hS 33 26 52 (by decide))) ?_
  refine V_iload_n dX12_openOnes_18 rfl ?_
  refine V_iald dX12_openOnes_19 (by decide) (shk hS 52 rfl) (vp_l (n := 30) (shl hS 52 rfl) o1) ?_
  refine V_iadd dX12_openOnes_20 ?_
  refine V_icmp_ge 68 dX12_openOnes_21 rfl (fun c1 => ?_) (fun c1 => ?_)
  · refine V_iload_n dX12_openOnes_68 rfl ?_
    exact V_iret rfl dX12_openOnes_69 (k1 c1)
  · refine V_iload_n dX12_openOnes_24 rfl ?_
    refine V_aload_n dX12_openOnes_25 rfl ?_
    refine V_getf (fk := 29) (Value.ref 55) ko_X12 rfl w_1084 dX12_openOnes_26 (by decide) (shk hS 33 rfl) (congrArg Value.ref (shr hS 33 29 55 (by decide))) ?_
    refine V_iload dX12_openOnes_29 rfl ?_
    refine V_iald dX12_openOnes_31 (by decide) (shk hS 55 rfl) (vp_l (n := 240) (shl hS 55 rfl) (o2 c1)) ?_
    refine V_if_ne 59 dX12_openOnes_32 rfl (fun c2 => ?_) (fun c2 => ?_)
    · refine V_iconst (0 : Int32) dX12_openOnes_59 (by decide) ?_
      refine V_iadd dX12_openOnes_60 ?_
      refine V_istore_n [(0, .ref 33), (1, .int v1), (2, .int v2), (3, .int (v3 + (0 : Int32))), (4, .int v4)] dX12_openOnes_61 rfl rfl ?_
      refine V_iinc (v4 + (1 : Int32)) [(0, .ref 33), (1, .int v1), (2, .int v2), (3, .int (v3 + (0 : Int32))), (4, .int (v4 + (1 : Int32)))] dX12_openOnes_62 rfl rfl rfl rfl ?_
      refine V_goto 8 dX12_openOnes_65 rfl ?_
      exact (k2 c1 c2)
    · refine V_iload_n dX12_openOnes_35 rfl ?_
      refine V_if_eq 49 dX12_openOnes_36 rfl (fun c3 => ?_) (fun c3 => ?_)
      · refine V_aload_n dX12_openOnes_49 rfl ?_
        refine V_getf (fk := 30) (Value.ref 56) ko_X12 rfl w_1085 dX12_openOnes_50 (by decide) (shk hS 33 rfl) (congrArg Value.ref (shr hS 33 30 56 (by decide))) ?_
        refine V_iload dX12_openOnes_53 rfl ?_
        refine V_iald dX12_openOnes_55 (by decide) (shk hS 56 rfl) (vp_l (n := 240) (shl hS 56 rfl) (o2 c1)) ?_
        refine V_goto 60 dX12_openOnes_56 rfl ?_
        refine V_iadd dX12_openOnes_60 ?_
        refine V_istore_n [(0, .ref 33), (1, .int v1), (2, .int v2), (3, .int (v3 + (zI σ 56 (Int32.toNatClampNeg v4)))), (4, .int v4)] dX12_openOnes_61 rfl rfl ?_
        refine V_iinc (v4 + (1 : Int32)) [(0, .ref 33), (1, .int v1), (2, .int v2), (3, .int (v3 + (zI σ 56 (Int32.toNatClampNeg v4)))), (4, .int (v4 + (1 : Int32)))] dX12_openOnes_62 rfl rfl rfl rfl ?_
        refine V_goto 8 dX12_openOnes_65 rfl ?_
        exact (k3 c1 c2 c3)
      · refine V_aload_n dX12_openOnes_39 rfl ?_
        refine V_getf (fk := 31) (Value.ref 57) ko_X12 rfl w_1086 dX12_openOnes_40 (by decide) (shk hS 33 rfl) (congrArg Value.ref (shr hS 33 31 57 (by decide))) ?_
        refine V_iload dX12_openOnes_43 rfl ?_
        refine V_iald dX12_openOnes_45 (by decide) (shk hS 57 rfl) (vp_l (n := 240) (shl hS 57 rfl) (o2 c1)) ?_
        refine V_goto 60 dX12_openOnes_46 rfl ?_
        refine V_iadd dX12_openOnes_60 ?_
        refine V_istore_n [(0, .ref 33), (1, .int v1), (2, .int v2), (3, .int (v3 + (zI σ 57 (Int32.toNatClampNeg v4)))), (4, .int v4)] dX12_openOnes_61 rfl rfl ?_
        refine V_iinc (v4 + (1 : Int32)) [(0, .ref 33), (1, .int v1), (2, .int v2), (3, .int (v3 + (zI σ 57 (Int32.toNatClampNeg v4)))), (4, .int (v4 + (1 : Int32)))] dX12_openOnes_62 rfl rfl rfl rfl ?_
        refine V_goto 8 dX12_openOnes_65 rfl ?_
        exact (k4 c1 c2 c3)

set_option maxRecDepth 100000 in
set_option maxHeartbeats 4000000 in
theorem b_X12_turns_0 {g : GP} {CX : State → Array Value → Prop} {E : ET} {v1 : Int32} {v2 : Int32} {σ : AH}
    (k1 : V g mX12_turns E CX 0 0 5 [(0, .ref 33), (1, .int v1), (2, .int v2), (3, .int ((8 : Int32) * v1))] [] σ) :
    V g mX12_turns E CX 0 0 0 [(0, .ref 33), (1, .int v1), (2, .int v2)] [] σ := by
  refine V_bipush (8 : Int32) dX12_turns_0 (by decide) ?_
  refine V_iload_n dX12_turns_2 rfl ?_
  refine V_imul dX12_turns_3 ?_
  refine V_istore_n [(0, .ref 33), (1, .int v1), (2, .int v2), (3, .int ((8 : Int32) * v1))] dX12_turns_4 rfl rfl ?_
  exact k1
set_option maxRecDepth 100000 in
set_option maxHeartbeats 4000000 in
theorem b_X12_turns_5 {g : GP} {CX : State → Array Value → Prop} {Q : AH → Option Value → Prop} {X : AH → String → Prop} {v1 : Int32} {v2 : Int32} {v3 : Int32} {σ : AH}
    (hS : Sh σ)
    (o1 : vp_in v1 30)
    (k1 : ((((8 : Int32) * v1) + (zI σ 52 (Int32.toNatClampNeg v1))) ≤ v3) → Q σ none)
    (o2 : (¬ (((8 : Int32) * v1) + (zI σ 52 (Int32.toNatClampNeg v1))) ≤ v3) → vp_in v3 240)
    (k2 : (¬ (((8 : Int32) * v1) + (zI σ 52 (Int32.toNatClampNeg v1))) ≤ v3) → (¬ (zI σ 55 (Int32.toNatClampNeg v3)) = 0) → V g mX12_turns (Em g mX12_turns Q X) CX 0 0 5 [(0, .ref 33), (1, .int v1), (2, .int v2), (3, .int (v3 + (1 : Int32)))] [] (uI σ 55 (Int32.toNatClampNeg v3) (zI σ 55 (Int32.toNatClampNeg v3))))
    (k3 : (¬ (((8 : Int32) * v1) + (zI σ 52 (Int32.toNatClampNeg v1))) ≤ v3) → ((zI σ 55 (Int32.toNatClampNeg v3)) = 0) → V g mX12_turns (Em g mX12_turns Q X) CX 0 0 5 [(0, .ref 33), (1, .int v1), (2, .int v2), (3, .int (v3 + (1 : Int32)))] [] (uI σ 55 (Int32.toNatClampNeg v3) v2)) :
    V g mX12_turns (Em g mX12_turns Q X) CX 0 0 5 [(0, .ref 33), (1, .int v1), (2, .int v2), (3, .int v3)] [] σ := by
  refine V_iload_n dX12_turns_5 rfl ?_
  refine V_bipush (8 : Int32) dX12_turns_6 (by decide) ?_
  refine V_iload_n dX12_turns_8 rfl ?_
  refine V_imul dX12_turns_9 ?_
  refine V_aload_n dX12_turns_10 rfl ?_
  refine V_getf (fk := 26) (Value.ref 52) ko_X12 rfl w_1081 dX12_turns_11 (by decide) (shk hS 33 rfl) (congrArg Value.ref (shr hS 33 26 52 (by decide))) ?_
  refine V_iload_n dX12_turns_14 rfl ?_
  refine V_iald dX12_turns_15 (by decide) (shk hS 52 rfl) (vp_l (n := 30) (shl hS 52 rfl) o1) ?_
  refine V_iadd dX12_turns_16 ?_
  refine V_icmp_ge 51 dX12_turns_17 rfl (fun c1 => ?_) (fun c1 => ?_)
  · exact V_vret rfl dX12_turns_51 (k1 c1)
  · refine V_aload_n dX12_turns_20 rfl ?_
    refine V_getf (fk := 29) (Value.ref 55) ko_X12 rfl w_1084 dX12_turns_21 (by decide) (shk hS 33 rfl) (congrArg Value.ref (shr hS 33 29 55 (by decide))) ?_
    refine V_iload_n dX12_turns_24 rfl ?_
    refine V_aload_n dX12_turns_25 rfl ?_
    refine V_getf (fk := 29) (Value.ref 55) ko_X12 rfl w_1084 dX12_turns_26 (by decide) (shk hS 33 rfl) (congrArg Value.ref (shr hS 33 29 55 (by decide))) ?_
    refine V_iload_n dX12_turns_29 rfl ?_
    refine V_iald dX12_turns_30 (by decide) (shk hS 55 rfl) (vp_l (n := 240) (shl hS 55 rfl) (o2 c1)) ?_
    refine V_if_ne 38 dX12_turns_31 rfl (fun c2 => ?_) (fun c2 => ?_)
    · refine V_aload_n dX12_turns_38 rfl ?_
      refine V_getf (fk := 29) (Value.ref 55) ko_X12 rfl w_1084 dX12_turns_39 (by decide) (shk hS 33 rfl) (congrArg Value.ref (shr hS 33 29 55 (by decide))) ?_
      refine V_iload_n dX12_turns_42 rfl ?_
      refine V_iald dX12_turns_43 (by decide) (shk hS 55 rfl) (vp_l (n := 240) (shl hS 55 rfl) (o2 c1)) ?_
      refine V_iast dX12_turns_44 (by decide) (shk hS 55 rfl) (vp_l (n := 240) (shl hS 55 rfl) (o2 c1)) ?_
      refine V_iinc (v3 + (1 : Int32)) [(0, .ref 33), (1, .int v1), (2, .int v2), (3, .int (v3 + (1 : Int32)))] dX12_turns_45 rfl rfl rfl rfl ?_
      refine V_goto 5 dX12_turns_48 rfl ?_
      exact (k2 c1 c2)
    · refine V_iload_n dX12_turns_34 rfl ?_
      refine V_goto 44 dX12_turns_35 rfl ?_
      refine V_iast dX12_turns_44 (by decide) (shk hS 55 rfl) (vp_l (n := 240) (shl hS 55 rfl) (o2 c1)) ?_
      refine V_iinc (v3 + (1 : Int32)) [(0, .ref 33), (1, .int v1), (2, .int v2), (3, .int (v3 + (1 : Int32)))] dX12_turns_45 rfl rfl rfl rfl ?_
      refine V_goto 5 dX12_turns_48 rfl ?_
      exact (k3 c1 c2)

def smI (f : Nat → Int32) : Nat → Int32
  | 0 => 0
  | n + 1 => smI f n + f n
theorem smI_c {f f' : Nat → Int32} : ∀ {n : Nat}, (∀ k, k < n → f k = f' k) → smI f n = smI f' n
  | 0, _ => rfl
  | n + 1, h => by rw [smI, smI, smI_c (fun k hk => h k (by omega)), h n (by omega)]
/-- where a ticket's coupons end -/
theorem tk_end {σ : AH} {t m : Nat} (ht : t < 30) (hm : m < 9) (e : zI σ 52 t = nI m) : (8 : Int32) * nI t + zI σ 52 (nI t).toNatClampNeg = nI (8 * t + m) := by
  rw [cl0 (by omega), e, show (8 : Int32) = nI 8 from rfl, pk_mul, nI_add]
theorem s_X12_taxes {g : GP} {σ : AH} {x : Int32} (hS : Sh σ) (hx : vp_in x 30) (hm : vp_in (zI σ 52 (ix x)) 9) : Ct g mX12_taxes [.ref 33, .int x] σ (FQ σ (some (.int (smI (fun k => zI σ 57 (8 * ix x + k)) (ix (zI σ 52 (ix x))))))) := by
  obtain ⟨t, ht, rfl⟩ := vp_in_of hx (by decide)
  obtain ⟨m, hm8, e⟩ := vp_in_of hm (by decide)
  have ct : (nI t).toNatClampNeg = t := cl0 (by omega)
  have cm : (nI m).toNatClampNeg = m := cl0 (by omega)
  rw [e, ix, ct, ix, cm]
  rw [ix, ct] at e hm
  have he := tk_end ht hm8 e
  refine Ct_of (by decide +kernel) rfl rfl (b_X12_taxes_0 ?_)
  rw [show (8 : Int32) * nI t = nI (8 * t) by rw [show (8 : Int32) = nI 8 from rfl, pk_mul]]
  refine up_loop (P := fun d => V g mX12_taxes (Em g mX12_taxes (FQ σ (some (.int (smI (fun k => zI σ 57 (8 * t + k)) m)))) NX) CT 0 0 7 [(0, .ref 33), (1, .int (nI t)), (2, .int (smI (fun k => zI σ 57 (8 * t + k)) d)), (3, .int (nI (8 * t + d)))] [] σ) m ?_ ?_ 0 (Nat.zero_le _)
  · refine b_X12_taxes_7 hS hx (fun _ => fq) (fun c => absurd ?_ c) (fun c => absurd ?_ c) <;> (rw [he]; exact Int32.le_refl _)
  · intro d hd ih
    have hc : (nI (8 * t + d)).toNatClampNeg = 8 * t + d := cl0 (by omega)
    refine b_X12_taxes_7 hS hx (fun c => absurd c ?_) (fun _ => vp_in_nI (by omega) (by decide)) (fun _ => ?_)
    · rw [he]; exact nI_ge (by omega) (by omega)
    · rw [hc, nI_1]; exact ih
theorem s_X12_buys {g : GP} {σ : AH} {x y : Int32} (hS : Sh σ) (hx : vp_in x 5) : Ct g mX12_buys [.ref 33, .int x, .int y] σ (FQ (uJ (uJ σ 70 (ix x) (zJ σ 70 (ix x) + Int32.toInt64 y)) 33 48 (zJ σ 33 48 + Int32.toInt64 y)) none) :=
  Ct_of (by decide +kernel) rfl rfl (b_X12_buys_0 hS hx fq)
theorem s_X12_isTicket {g : GP} {σ : AH} {x : Int32} (hS : Sh σ) : Ct g mX12_isTicket [.ref 33, .int x] σ (FQ σ (some (.int (jb (isWi x 0 (zI σ 33 23 - 1)))))) :=
  Ct_of (by decide +kernel) rfl rfl (b_X12_isTicket_0 hS fq)
/-- open coupons among the first ones -/
def opF (σ : AH) (b d : Nat) : Prop := ∃ j, j < d ∧ zI σ 55 (b + j) = 0
noncomputable def opC (σ : AH) (b d : Nat) : Int32 := @jb (opF σ b d) (Classical.propDecidable _)
theorem opC_t {σ : AH} {b d : Nat} (h : opF σ b d) : opC σ b d = 1 := @jb_t _ (Classical.propDecidable _) h
theorem opC_f {σ : AH} {b d : Nat} (h : ¬ opF σ b d) : opC σ b d = 0 := @jb_f _ (Classical.propDecidable _) h
theorem opC_0 {σ : AH} {b d : Nat} : opC σ b d = 0 ↔ ¬ opF σ b d := @jb_0 _ (Classical.propDecidable _)
theorem opC_n {σ : AH} {b d : Nat} : ¬ opC σ b d = 0 ↔ opF σ b d := @jb_n _ (Classical.propDecidable _)
theorem opC_nar {σ : AH} {b d : Nat} : narrow .boolean (.int (opC σ b d)) = .int (opC σ b d) := @jb_nar _ (Classical.propDecidable _)
theorem s_X12_hasOpen {g : GP} {σ : AH} {x : Int32} (hS : Sh σ) (hx : vp_in x 30) (hm : vp_in (zI σ 52 (ix x)) 9) : Ct g mX12_hasOpen [.ref 33, .int x] σ (FQ σ (some (.int (opC σ (8 * ix x) (ix (zI σ 52 (ix x))))))) := by
  obtain ⟨t, ht, rfl⟩ := vp_in_of hx (by decide)
  obtain ⟨m, hm8, e⟩ := vp_in_of hm (by decide)
  have ct : (nI t).toNatClampNeg = t := cl0 (by omega)
  have cm : (nI m).toNatClampNeg = m := cl0 (by omega)
  rw [e, ix, ct, ix, cm]
  rw [ix, ct] at e hm
  have he := tk_end ht hm8 e
  refine Ct_of (by decide +kernel) rfl rfl (b_X12_hasOpen_0 ?_)
  rw [show (8 : Int32) * nI t = nI (8 * t) by rw [show (8 : Int32) = nI 8 from rfl, pk_mul], show (0 : Int32) = opC σ (8 * t) 0 from (opC_f (fun ⟨j, h, _⟩ => absurd h (Nat.not_lt_zero j))).symm]
  refine up_loop (P := fun d => V g mX12_hasOpen (Em g mX12_hasOpen (FQ σ (some (.int (opC σ (8 * t) m)))) NX) CT 0 0 7 [(0, .ref 33), (1, .int (nI t)), (2, .int (opC σ (8 * t) d)), (3, .int (nI (8 * t + d)))] [] σ) m ?_ ?_ 0 (Nat.zero_le _)
  · have hle : (8 : Int32) * nI t + zI σ 52 (nI t).toNatClampNeg ≤ nI (8 * t + m) := by rw [he]; exact Int32.le_refl _
    exact b_X12_hasOpen_7 hS hx (fun _ => opC_nar) (fun _ => fq) (fun c => absurd hle c) (fun c => absurd hle c) (fun c => absurd hle c) (fun c => absurd hle c)
  · intro d hd ih
    have hc : (nI (8 * t + d)).toNatClampNeg = 8 * t + d := cl0 (by omega)
    have hlt : ¬ (8 : Int32) * nI t + zI σ 52 (nI t).toNatClampNeg ≤ nI (8 * t + d) := by rw [he]; exact nI_ge (by omega) (by omega)
    have hn : nI (8 * t + d) + 1 = nI (8 * t + (d + 1)) := nI_1 _
    refine b_X12_hasOpen_7 hS hx (fun c => absurd c hlt) (fun c => absurd c hlt) (fun _ h => ?_) (fun _ _ => vp_in_nI (by omega) (by decide)) (fun _ h h2 => ?_) (fun _ h h2 => ?_)
    · obtain ⟨j, h1, h2⟩ := opC_n.mp h
      rw [hn, ← opC_t (show opF σ (8 * t) (d + 1) from ⟨j, by omega, h2⟩)]; exact ih
    · rw [hc] at h2
      have h3 : ¬ opF σ (8 * t) (d + 1) := fun ⟨j, h4, h5⟩ => by
        rcases Nat.lt_or_ge j d with h6 | h6
        · exact opC_0.mp h ⟨j, h6, h5⟩
        · rw [show j = d by omega] at h5; exact h2 h5
      rw [hn, ← opC_f h3]; exact ih
    · rw [hc] at h2
      rw [hn, ← opC_t (show opF σ (8 * t) (d + 1) from ⟨d, by omega, h2⟩)]; exact ih
/-- an open coupon's share, or its tax -/
def ooF (σ : AH) (b : Nat) (z : Int32) (k : Nat) : Int32 := if zI σ 55 (b + k) = 0 then (if z = 0 then zI σ 56 (b + k) else zI σ 57 (b + k)) else 0
theorem s_X12_openOnes {g : GP} {σ : AH} {x z : Int32} (hS : Sh σ) (hx : vp_in x 30) (hm : vp_in (zI σ 52 (ix x)) 9) : Ct g mX12_openOnes [.ref 33, .int x, .int z] σ (FQ σ (some (.int (smI (ooF σ (8 * ix x) z) (ix (zI σ 52 (ix x))))))) := by
  obtain ⟨t, ht, rfl⟩ := vp_in_of hx (by decide)
  obtain ⟨m, hm8, e⟩ := vp_in_of hm (by decide)
  have ct : (nI t).toNatClampNeg = t := cl0 (by omega)
  have cm : (nI m).toNatClampNeg = m := cl0 (by omega)
  rw [e, ix, ct, ix, cm]
  rw [ix, ct] at e hm
  have he := tk_end ht hm8 e
  refine Ct_of (by decide +kernel) rfl rfl (b_X12_openOnes_0 ?_)
  rw [show (8 : Int32) * nI t = nI (8 * t) by rw [show (8 : Int32) = nI 8 from rfl, pk_mul]]
  refine up_loop (P := fun d => V g mX12_openOnes (Em g mX12_openOnes (FQ σ (some (.int (smI (ooF σ (8 * t) z) m)))) NX) CT 0 0 8 [(0, .ref 33), (1, .int (nI t)), (2, .int z), (3, .int (smI (ooF σ (8 * t) z) d)), (4, .int (nI (8 * t + d)))] [] σ) m ?_ ?_ 0 (Nat.zero_le _)
  · have hle : (8 : Int32) * nI t + zI σ 52 (nI t).toNatClampNeg ≤ nI (8 * t + m) := by rw [he]; exact Int32.le_refl _
    exact b_X12_openOnes_8 hS hx (fun _ => fq) (fun c => absurd hle c) (fun c => absurd hle c) (fun c => absurd hle c) (fun c => absurd hle c)
  · intro d hd ih
    have hc : (nI (8 * t + d)).toNatClampNeg = 8 * t + d := cl0 (by omega)
    have hlt : ¬ (8 : Int32) * nI t + zI σ 52 (nI t).toNatClampNeg ≤ nI (8 * t + d) := by rw [he]; exact nI_ge (by omega) (by omega)
    have hn : nI (8 * t + d) + 1 = nI (8 * t + (d + 1)) := nI_1 _
    refine b_X12_openOnes_8 hS hx (fun c => absurd c hlt) (fun _ => vp_in_nI (by omega) (by decide)) (fun _ h => ?_) (fun _ h h2 => ?_) (fun _ h h2 => ?_)
    all_goals
      rw [hc] at h
      rw [hn]
      refine V_cast ?_ rfl rfl ih
      simp [smI, ooF, hc, h, *]
/-- all open ones among the first are made something -/
def trH (σ : AH) (b : Nat) (w : Int32) : Nat → AH
  | 0 => σ
  | d + 1 => uI (trH σ b w d) 55 (b + d) (if zI (trH σ b w d) 55 (b + d) = 0 then w else zI (trH σ b w d) 55 (b + d))
theorem trH_I {σ : AH} {b : Nat} {w : Int32} : ∀ (d a k : Nat), zI (trH σ b w d) a k = if a = 55 ∧ b ≤ k ∧ k < b + d ∧ zI σ 55 k = 0 then w else zI σ a k
  | 0, a, k => by rw [trH, if_neg (by omega)]
  | d + 1, a, k => by
    rw [trH, zI_uI]
    by_cases h : a = 55 ∧ k = b + d
    · obtain ⟨rfl, rfl⟩ := h
      have hh : ¬ (55 = 55 ∧ b ≤ b + d ∧ b + d < b + d ∧ zI σ 55 (b + d) = 0) := fun q => Nat.lt_irrefl _ q.2.2.1
      rw [if_pos ⟨rfl, rfl⟩, trH_I d, if_neg hh]
      by_cases h2 : zI σ 55 (b + d) = 0
      · rw [if_pos h2, if_pos ⟨rfl, by omega, by omega, h2⟩]
      · rw [if_neg h2, if_neg (fun q => h2 q.2.2.2)]
    · rw [if_neg h, trH_I d]
      by_cases h2 : a = 55 ∧ b ≤ k ∧ k < b + d ∧ zI σ 55 k = 0
      · rw [if_pos h2, if_pos ⟨h2.1, h2.2.1, by omega, h2.2.2.2⟩]
      · rw [if_neg h2, if_neg (fun q => h2 ⟨q.1, q.2.1, by omega, q.2.2.2⟩)]
theorem trH_N {σ : AH} {b : Nat} {w : Int32} : ∀ d, zN (trH σ b w d) = zN σ ∧ zK (trH σ b w d) = zK σ ∧ zL (trH σ b w d) = zL σ ∧ zJ (trH σ b w d) = zJ σ ∧ zR (trH σ b w d) = zR σ
  | 0 => ⟨rfl, rfl, rfl, rfl, rfl⟩
  | d + 1 => trH_N d
theorem Sh_trH {σ : AH} {b : Nat} {w : Int32} (h : Sh σ) : ∀ d, Sh (trH σ b w d)
  | 0 => h
  | d + 1 => Sh_uI (Sh_trH h d)
theorem EqP_trH {σ : AH} {b : Nat} {w : Int32} : ∀ d, EqP (trH σ b w d) σ
  | 0 => EqP_refl _
  | d + 1 => EqP_uI (EqP_trH d) (by decide)
theorem s_X12_turns {g : GP} {σ : AH} {x w : Int32} (hS : Sh σ) (hx : vp_in x 30) (hm : vp_in (zI σ 52 (ix x)) 9) : Ct g mX12_turns [.ref 33, .int x, .int w] σ (FQ (trH σ (8 * ix x) w (ix (zI σ 52 (ix x)))) none) := by
  obtain ⟨t, ht, rfl⟩ := vp_in_of hx (by decide)
  obtain ⟨m, hm8, e⟩ := vp_in_of hm (by decide)
  have ct : (nI t).toNatClampNeg = t := cl0 (by omega)
  have cm : (nI m).toNatClampNeg = m := cl0 (by omega)
  rw [e, ix, ct, ix, cm]
  rw [ix, ct] at e hm
  have he : ∀ d, (8 : Int32) * nI t + zI (trH σ (8 * t) w d) 52 (nI t).toNatClampNeg = nI (8 * t + m) := fun d => by
    rw [trH_I, if_neg (fun q => absurd q.1 (by decide))]; exact tk_end ht hm8 e
  refine Ct_of (by decide +kernel) rfl rfl (b_X12_turns_0 ?_)
  rw [show (8 : Int32) * nI t = nI (8 * t) by rw [show (8 : Int32) = nI 8 from rfl, pk_mul]]
  refine up_loop (P := fun d => V g mX12_turns (Em g mX12_turns (FQ (trH σ (8 * t) w m) none) NX) CT 0 0 5 [(0, .ref 33), (1, .int (nI t)), (2, .int w), (3, .int (nI (8 * t + d)))] [] (trH σ (8 * t) w d)) m ?_ ?_ 0 (Nat.zero_le _)
  · refine b_X12_turns_5 (Sh_trH hS m) hx (fun _ => fq) (fun c => absurd ?_ c) (fun c => absurd ?_ c) (fun c => absurd ?_ c) <;> (rw [he]; exact Int32.le_refl _)
  · intro d hd ih
    have hc : (nI (8 * t + d)).toNatClampNeg = 8 * t + d := cl0 (by omega)
    have hn : nI (8 * t + d) + 1 = nI (8 * t + (d + 1)) := nI_1 _
    refine b_X12_turns_5 (Sh_trH hS d) hx (fun c => absurd c ?_) (fun _ => vp_in_nI (by omega) (by decide)) (fun _ h => ?_) (fun _ h => ?_)
    · rw [he]; exact nI_ge (by omega) (by omega)
    · rw [hc] at h; rw [hn, hc]
      refine V_cast rfl rfl ?_ ih
      rw [trH, if_neg h]
    · rw [hc] at h; rw [hn, hc]
      refine V_cast rfl rfl ?_ ih
      rw [trH, if_pos h]
set_option maxRecDepth 100000 in
set_option maxHeartbeats 4000000 in
theorem b_X12_isCoupon_0 {g : GP} {CX : State → Array Value → Prop} {Q : AH → Option Value → Prop} {X : AH → String → Prop} {v1 : Int32} {v2 : Int32} {σ : AH}
    (hS : Sh σ)
    (k1 : (¬ (isWi v1 0 ((zI σ 33 23) - 1))) → Q σ (some (.int (0 : Int32))))
    (o1 : (isWi v1 0 ((zI σ 33 23) - 1)) → vp_in v1 30)
    (k2 : (isWi v1 0 ((zI σ 33 23) - 1)) → (¬ (isWi v2 (0 : Int32) ((zI σ 52 (Int32.toNatClampNeg v1)) - (1 : Int32)))) → Q σ (some (.int (0 : Int32))))
    (k3 : (isWi v1 0 ((zI σ 33 23) - 1)) → (isWi v2 (0 : Int32) ((zI σ 52 (Int32.toNatClampNeg v1)) - (1 : Int32))) → Q σ (some (.int (1 : Int32)))) :
    V g mX12_isCoupon (Em g mX12_isCoupon Q X) CX 0 0 0 [(0, .ref 33), (1, .int v1), (2, .int v2)] [] σ := by
  refine V_aload_n dX12_isCoupon_0 rfl ?_
  refine V_iload_n dX12_isCoupon_1 rfl ?_
  refine V_callV1 (as := [.int v1]) (k' := 0) (n' := 0) (s_X12_isTicket hS) mw_X12_isTicket ko_X12 rfl w_1356 w_37 w_1354 ar_X12_isTicket rfl ⟨rfl, rfl, rfl, rfl, rfl⟩ dX12_isCoupon_2 (by decide) (shk hS 33 rfl) ?_
  refine V_if_eq 40 dX12_isCoupon_5 rfl (fun c1 => ?_) (fun c1 => ?_)
  · replace c1 := jb_0.mp c1
    refine V_iconst (0 : Int32) dX12_isCoupon_40 (by decide) ?_
    exact V_zret rfl dX12_isCoupon_41 (by decide) (k1 c1)
  · replace c1 := jb_n.mp c1
    refine V_iload_n dX12_isCoupon_8 rfl ?_
    refine V_iconst (0 : Int32) dX12_isCoupon_9 (by decide) ?_
    refine V_aload_n dX12_isCoupon_10 rfl ?_
    refine V_getf (fk := 26) (Value.ref 52) ko_X12 rfl w_1081 dX12_isCoupon_11 (by decide) (shk hS 33 rfl) (congrArg Value.ref (shr hS 33 26 52 (by decide))) ?_
    refine V_aload_n dX12_isCoupon_14 rfl ?_
    refine V_iload_n dX12_isCoupon_15 rfl ?_
    refine V_callV1 (as := [.int v1]) (k' := 0) (n' := 0) (s_X12_isTicket hS) mw_X12_isTicket ko_X12 rfl w_1356 w_37 w_1354 ar_X12_isTicket rfl ⟨rfl, rfl, rfl, rfl, rfl⟩ dX12_isCoupon_16 (by decide) (shk hS 33 rfl) ?_
    refine V_if_eq 26 dX12_isCoupon_19 rfl (fun z_ => (by have y_ := jb_0.mp z_; first | exact absurd (c1) y_ | exact absurd y_ (c1))) (fun _ => ?_)
    refine V_iload_n dX12_isCoupon_22 rfl ?_
    refine V_goto 27 dX12_isCoupon_23 rfl ?_
    refine V_iald dX12_isCoupon_27 (by decide) (shk hS 52 rfl) (vp_l (n := 30) (shl hS 52 rfl) (o1 c1)) ?_
    refine V_iconst (1 : Int32) dX12_isCoupon_28 (by decide) ?_
    refine V_isub dX12_isCoupon_29 ?_
    refine V_callS1 (as := [.int v2, .int (0 : Int32), .int ((zI σ 52 (Int32.toNatClampNeg v1)) - (1 : Int32))]) (k' := 0) (n' := 0) (s_X12_in) mw_X12_in w_1219 w_1218 ar_X12_in rfl ⟨rfl, rfl, rfl, rfl, rfl⟩ dX12_isCoupon_30 ?_
    refine V_if_eq 40 dX12_isCoupon_33 rfl (fun c3 => ?_) (fun c3 => ?_)
    · replace c3 := jb_0.mp c3
      refine V_iconst (0 : Int32) dX12_isCoupon_40 (by decide) ?_
      exact V_zret rfl dX12_isCoupon_41 (by decide) (k2 c1 c3)
    · replace c3 := jb_n.mp c3
      refine V_iconst (1 : Int32) dX12_isCoupon_36 (by decide) ?_
      refine V_goto 41 dX12_isCoupon_37 rfl ?_
      exact V_zret rfl dX12_isCoupon_41 (by decide) (k3 c1 c3)

theorem s_X12_isCoupon {g : GP} {σ : AH} {x y : Int32} (hS : Sh σ) (hn : vp_in (zI σ 33 23) 31) : Ct g mX12_isCoupon [.ref 33, .int x, .int y] σ (FQ σ (some (.int (jb (isWi x 0 (zI σ 33 23 - 1) ∧ isWi y 0 (zI σ 52 (ix x) - 1)))))) :=
  Ct_of (by decide +kernel) rfl rfl (b_X12_isCoupon_0 hS (fun c => fq_i (jb_f (fun q => c q.1)).symm) (fun c => isWi_vp hn (by decide) c) (fun _ c => fq_i (jb_f (fun q => c q.2)).symm) (fun c c2 => fq_i (jb_t ⟨c, c2⟩).symm))
set_option maxRecDepth 100000 in
set_option maxHeartbeats 4000000 in
theorem b_X12_canIssue_0 {g : GP} {CX : State → Array Value → Prop} {E : ET}  {σ : AH}
    (hS : Sh σ)
    (k1 : ((30 : Int32) ≤ (zI σ 33 23)) → V g mX12_canIssue E CX 0 0 25 [(0, .ref 33), (1, .int (0 : Int32)), (2, .int (0 : Int32))] [] σ)
    (o1 : (¬ (30 : Int32) ≤ (zI σ 33 23)) → PO σ)
    (o2 : (¬ (30 : Int32) ≤ (zI σ 33 23)) → vp_in (zI σ 33 16) 9)
    (k2 : (¬ (30 : Int32) ≤ (zI σ 33 23)) → (((wayF σ).1) = (-1 : Int32)) → V g mX12_canIssue E CX 0 0 25 [(0, .ref 33), (1, .int (0 : Int32)), (2, .int (0 : Int32))] [] (hW σ (wayF σ)))
    (k3 : (¬ (30 : Int32) ≤ (zI σ 33 23)) → (¬ ((wayF σ).1) = (-1 : Int32)) → V g mX12_canIssue E CX 0 0 25 [(0, .ref 33), (1, .int (1 : Int32)), (2, .int (0 : Int32))] [] (hW σ (wayF σ))) :
    V g mX12_canIssue E CX 0 0 0 [(0, .ref 33)] [] σ := by
  refine V_aload_n dX12_canIssue_0 rfl ?_
  refine V_getf (fk := 23) (Value.int (zI σ 33 23)) ko_X12 rfl w_1078 dX12_canIssue_1 (by decide) (shk hS 33 rfl) rfl ?_
  refine V_bipush (30 : Int32) dX12_canIssue_4 (by decide) ?_
  refine V_icmp_ge 21 dX12_canIssue_6 rfl (fun c1 => ?_) (fun c1 => ?_)
  · refine V_iconst (0 : Int32) dX12_canIssue_21 (by decide) ?_
    refine V_istore_n [(0, .ref 33), (1, .int (0 : Int32))] dX12_canIssue_22 rfl rfl ?_
    refine V_iconst (0 : Int32) dX12_canIssue_23 (by decide) ?_
    refine V_istore_n [(0, .ref 33), (1, .int (0 : Int32)), (2, .int (0 : Int32))] dX12_canIssue_24 rfl rfl ?_
    exact (k1 c1)
  · refine V_aload_n dX12_canIssue_9 rfl ?_
    refine V_callV1 (as := []) (k' := 0) (n' := 0) (s_X12_finds hS (o1 c1) (o2 c1)) mw_X12_finds ko_X12 rfl w_1299 w_27 w_1297 ar_X12_finds rfl ⟨rfl, rfl, rfl, rfl, rfl⟩ dX12_canIssue_10 (by decide) (shk hS 33 rfl) ?_
    refine V_iconst (-1 : Int32) dX12_canIssue_13 (by decide) ?_
    refine V_icmp_eq 21 dX12_canIssue_14 rfl (fun c2 => ?_) (fun c2 => ?_)
    · refine V_iconst (0 : Int32) dX12_canIssue_21 (by decide) ?_
      refine V_istore_n [(0, .ref 33), (1, .int (0 : Int32))] dX12_canIssue_22 rfl rfl ?_
      refine V_iconst (0 : Int32) dX12_canIssue_23 (by decide) ?_
      refine V_istore_n [(0, .ref 33), (1, .int (0 : Int32)), (2, .int (0 : Int32))] dX12_canIssue_24 rfl rfl ?_
      exact (k2 c1 c2)
    · refine V_iconst (1 : Int32) dX12_canIssue_17 (by decide) ?_
      refine V_goto 22 dX12_canIssue_18 rfl ?_
      refine V_istore_n [(0, .ref 33), (1, .int (1 : Int32))] dX12_canIssue_22 rfl rfl ?_
      refine V_iconst (0 : Int32) dX12_canIssue_23 (by decide) ?_
      refine V_istore_n [(0, .ref 33), (1, .int (1 : Int32)), (2, .int (0 : Int32))] dX12_canIssue_24 rfl rfl ?_
      exact (k3 c1 c2)
set_option maxRecDepth 100000 in
set_option maxHeartbeats 4000000 in
theorem b_X12_canIssue_25 {g : GP} {CX : State → Array Value → Prop} {Q : AH → Option Value → Prop} {X : AH → String → Prop} {v1 : Int32} {v2 : Int32} {σ : AH}
    (hS : Sh σ)
    (o1 : ((zI σ 33 16) ≤ v2) → narrow .boolean (.int v1) = .int v1)
    (k1 : ((zI σ 33 16) ≤ v2) → Q σ (some (.int v1)))
    (k2 : (¬ (zI σ 33 16) ≤ v2) → (v1 = 0) → V g mX12_canIssue (Em g mX12_canIssue Q X) CX 0 0 25 [(0, .ref 33), (1, .int (0 : Int32)), (2, .int (v2 + (1 : Int32)))] [] σ)
    (o2 : (¬ (zI σ 33 16) ≤ v2) → (¬ v1 = 0) → vp_in v2 8)
    (k3 : (¬ (zI σ 33 16) ≤ v2) → (¬ v1 = 0) → ((zI σ 49 (Int32.toNatClampNeg v2)) < (zI σ 33 0)) → V g mX12_canIssue (Em g mX12_canIssue Q X) CX 0 0 25 [(0, .ref 33), (1, .int (0 : Int32)), (2, .int (v2 + (1 : Int32)))] [] σ)
    (k4 : (¬ (zI σ 33 16) ≤ v2) → (¬ v1 = 0) → (¬ (zI σ 49 (Int32.toNatClampNeg v2)) < (zI σ 33 0)) → V g mX12_canIssue (Em g mX12_canIssue Q X) CX 0 0 25 [(0, .ref 33), (1, .int (1 : Int32)), (2, .int (v2 + (1 : Int32)))] [] σ) :
    V g mX12_canIssue (Em g mX12_canIssue Q X) CX 0 0 25 [(0, .ref 33), (1, .int v1), (2, .int v2)] [] σ := by
  refine V_iload_n dX12_canIssue_25 rfl ?_
  refine V_aload_n dX12_canIssue_26 rfl ?_
  refine V_getf (fk := 16) (Value.int (zI σ 33 16)) ko_X12 rfl w_1071 dX12_canIssue_27 (by decide) (shk hS 33 rfl) rfl ?_
  refine V_icmp_ge 62 dX12_canIssue_30 rfl (fun c1 => ?_) (fun c1 => ?_)
  · refine V_iload_n dX12_canIssue_62 rfl ?_
    exact V_zret rfl dX12_canIssue_63 (o1 c1) (k1 c1)
  · refine V_iload_n dX12_canIssue_33 rfl ?_
    refine V_if_eq 54 dX12_canIssue_34 rfl (fun c2 => ?_) (fun c2 => ?_)
    · refine V_iconst (0 : Int32) dX12_canIssue_54 (by decide) ?_
      refine V_istore_n [(0, .ref 33), (1, .int (0 : Int32)), (2, .int v2)] dX12_canIssue_55 rfl rfl ?_
      refine V_iinc (v2 + (1 : Int32)) [(0, .ref 33), (1, .int (0 : Int32)), (2, .int (v2 + (1 : Int32)))] dX12_canIssue_56 rfl rfl rfl rfl ?_
      refine V_goto 25 dX12_canIssue_59 rfl ?_
      exact (k2 c1 c2)
    · refine V_aload_n dX12_canIssue_37 rfl ?_
      refine V_getf (fk := 20) (Value.ref 49) ko_X12 rfl w_1075 dX12_canIssue_38 (by decide) (shk hS 33 rfl) (congrArg Value.ref (shr hS 33 20 49 (by decide))) ?_
      refine V_iload_n dX12_canIssue_41 rfl ?_
      refine V_iald dX12_canIssue_42 (by decide) (shk hS 49 rfl) (vp_l (n := 8) (shl hS 49 rfl) (o2 c1 c2)) ?_
      refine V_aload_n dX12_canIssue_43 rfl ?_
      refine V_getf (fk := 0) (Value.int (zI σ 33 0)) ko_X12 rfl w_1055 dX12_canIssue_44 (by decide) (shk hS 33 rfl) rfl ?_
      refine V_icmp_lt 54 dX12_canIssue_47 rfl (fun c3 => ?_) (fun c3 => ?_)
      · refine V_iconst (0 : Int32) dX12_canIssue_54 (by decide) ?_
        refine V_istore_n [(0, .ref 33), (1, .int (0 : Int32)), (2, .int v2)] dX12_canIssue_55 rfl rfl ?_
        refine V_iinc (v2 + (1 : Int32)) [(0, .ref 33), (1, .int (0 : Int32)), (2, .int (v2 + (1 : Int32)))] dX12_canIssue_56 rfl rfl rfl rfl ?_
        refine V_goto 25 dX12_canIssue_59 rfl ?_
        exact (k3 c1 c2 c3)
      · refine V_iconst (1 : Int32) dX12_canIssue_50 (by decide) ?_
        refine V_goto 55 dX12_canIssue_51 rfl ?_
        refine V_istore_n [(0, .ref 33), (1, .int (1 : Int32)), (2, .int v2)] dX12_canIssue_55 rfl rfl ?_
        refine V_iinc (v2 + (1 : Int32)) [(0, .ref 33), (1, .int (1 : Int32)), (2, .int (v2 + (1 : Int32)))] dX12_canIssue_56 rfl rfl rfl rfl ?_
        refine V_goto 25 dX12_canIssue_59 rfl ?_
        exact (k4 c1 c2 c3)

/-- what canIssue leaves -/
def ciH (σ : AH) : AH := if 30 ≤ zI σ 33 23 then σ else hW σ (wayF σ)
theorem Sh_ciH {σ : AH} (h : Sh σ) : Sh (ciH σ) := by unfold ciH; split; exact h; exact Sh_uI (Sh_uI h)
theorem EqP_ciH {σ : AH} : EqP (ciH σ) σ := by unfold ciH; split; exact EqP_refl _; exact EqP_hW
theorem ciH_I {σ : AH} {a k : Nat} (h : ¬ (a = 33 ∧ (k = 21 ∨ k = 22))) : zI (ciH σ) a k = zI σ a k := by
  unfold ciH
  split
  · rfl
  · rw [hW, zI_uI, if_neg (fun q => h ⟨q.1, Or.inr q.2⟩), zI_uI, if_neg (fun q => h ⟨q.1, Or.inl q.2⟩)]
theorem ciH_J {σ : AH} {a k : Nat} : zJ (ciH σ) a k = zJ σ a k := by unfold ciH; split <;> rfl
theorem ciH_N {σ : AH} : zN (ciH σ) = zN σ ∧ zK (ciH σ) = zK σ ∧ zL (ciH σ) = zL σ ∧ zJ (ciH σ) = zJ σ ∧ zR (ciH σ) = zR σ := by unfold ciH; split <;> exact ⟨rfl, rfl, rfl, rfl, rfl⟩
/-- can a ticket be issued, by the days of so many legs -/
def cnD (σ : AH) (d : Nat) : Prop := (¬ 30 ≤ zI σ 33 23 ∧ ¬ (wayF σ).1 = -1) ∧ ∀ k, k < d → ¬ zI σ 49 k < zI σ 33 0
def cnF (σ : AH) : Prop := cnD σ (lgN σ)
noncomputable def pj (c : Prop) : Int32 := @jb c (Classical.propDecidable _)
theorem pj_t {c : Prop} (h : c) : pj c = 1 := @jb_t _ (Classical.propDecidable _) h
theorem pj_f {c : Prop} (h : ¬ c) : pj c = 0 := @jb_f _ (Classical.propDecidable _) h
theorem pj_0 {c : Prop} : pj c = 0 ↔ ¬ c := @jb_0 _ (Classical.propDecidable _)
theorem pj_n {c : Prop} : ¬ pj c = 0 ↔ c := @jb_n _ (Classical.propDecidable _)
theorem pj_nar {c : Prop} : narrow .boolean (.int (pj c)) = .int (pj c) := @jb_nar _ (Classical.propDecidable _)
theorem s_X12_canIssue {g : GP} {σ : AH} (hS : Sh σ) (hP : PO σ) (hL : vp_in (zI σ 33 16) 9) : Ct g mX12_canIssue [.ref 33] σ (FQ (ciH σ) (some (.int (pj (cnF σ))))) := by
  obtain ⟨L, hL8, e⟩ := vp_in_of hL (by decide)
  have hl : lgN σ = L := by rw [lgN, e, cl0 (by omega)]
  have loop : V g mX12_canIssue (Em g mX12_canIssue (FQ (ciH σ) (some (.int (pj (cnF σ))))) NX) CT 0 0 25 [(0, .ref 33), (1, .int (pj (cnD σ 0))), (2, .int (nI 0))] [] (ciH σ) := by
    rw [cnF, hl]
    have e16 : zI (ciH σ) 33 16 = nI L := by rw [ciH_I (by decide)]; exact e
    refine up_loop (P := fun d => V g mX12_canIssue (Em g mX12_canIssue (FQ (ciH σ) (some (.int (pj (cnD σ L))))) NX) CT 0 0 25 [(0, .ref 33), (1, .int (pj (cnD σ d))), (2, .int (nI d))] [] (ciH σ)) L ?_ ?_ 0 (Nat.zero_le _)
    · have hle : zI (ciH σ) 33 16 ≤ nI L := by rw [e16]; exact Int32.le_refl _
      exact b_X12_canIssue_25 (Sh_ciH hS) (fun _ => pj_nar) (fun _ => fq) (fun c => absurd hle c) (fun c => absurd hle c) (fun c => absurd hle c) (fun c => absurd hle c)
    · intro d hd ih
      have hlt : ¬ zI (ciH σ) 33 16 ≤ nI d := by rw [e16]; exact nI_ge hd (by omega)
      have hc : (nI d).toNatClampNeg = d := cl0 (by omega)
      rw [← nI_1] at ih
      refine b_X12_canIssue_25 (Sh_ciH hS) (fun c => absurd c hlt) (fun c => absurd c hlt) (fun _ h => ?_) (fun _ _ => vp_in_nI (by omega) (by decide)) (fun _ h h2 => ?_) (fun _ h h2 => ?_)
      · have h3 : ¬ cnD σ (d + 1) := fun q => pj_0.mp h ⟨q.1, fun k hk => q.2 k (by omega)⟩
        rw [pj_f h3] at ih; exact ih
      · rw [hc, ciH_I (fun q => absurd q.1 (by decide)), ciH_I (by decide)] at h2
        have h3 : ¬ cnD σ (d + 1) := fun q => q.2 d (by omega) h2
        rw [pj_f h3] at ih; exact ih
      · rw [hc, ciH_I (fun q => absurd q.1 (by decide)), ciH_I (by decide)] at h2
        have h3 : cnD σ (d + 1) := ⟨(pj_n.mp h).1, fun k hk => by
          rcases Nat.lt_or_ge k d with h6 | h6
          · exact (pj_n.mp h).2 k h6
          · rw [show k = d by omega]; exact h2⟩
        rw [pj_t h3] at ih; exact ih
  refine Ct_of (by decide +kernel) rfl rfl (b_X12_canIssue_0 hS (fun c => ?_) (fun _ => hP) (fun _ => hL) (fun c c2 => ?_) (fun c c2 => ?_))
  · exact V_cast (by rw [pj_f (c := cnD σ 0) (fun q => q.1.1 c)]; rfl) rfl (by rw [ciH, if_pos c]) loop
  · exact V_cast (by rw [pj_f (c := cnD σ 0) (fun q => q.1.2 c2)]; rfl) rfl (by rw [ciH, if_neg c]) loop
  · exact V_cast (by rw [pj_t (c := cnD σ 0) ⟨⟨c, c2⟩, fun k hk => absurd hk (Nat.not_lt_zero k)⟩]; rfl) rfl (by rw [ciH, if_neg c]) loop
