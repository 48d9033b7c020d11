/-! ===== calls: what is told ===== -/
set_option maxRecDepth 100000 in
set_option maxHeartbeats 4000000 in
theorem b_X11_unit_0 {g : GP} {CX : State → Array Value → Prop} {Q : AH → Option Value → Prop} {X : AH → String → Prop} {v1 : Int32} {σ : AH}
    (hS : Sh σ)
    (k1 : (isWi v1 (1 : Int32) (1000 : Int32)) → Q (uI σ 3 5 v1) (some (.int (zI σ 3 5))))
    (k2 : (¬ (isWi v1 (1 : Int32) (1000 : Int32))) → X σ "java/lang/IllegalArgumentException") :
    V g mX11_unit (Em g mX11_unit Q X) CX 1 6 0 [(0, .ref 2), (1, .int v1)] [] σ := by
  refine V_iload_n dX11_unit_0 rfl ?_
  refine V_iconst (1 : Int32) dX11_unit_1 (by decide) ?_
  refine V_sipush (1000 : Int32) dX11_unit_2 (by decide) ?_
  refine V_callS1 (as := [.int v1, .int (1 : Int32), .int (1000 : Int32)]) (k' := 1) (n' := 6) (s_X11_isWithin) mw_X11_isWithin w_324 w_323 ar_X11_isWithin rfl ⟨rfl, rfl, rfl, rfl, rfl⟩ dX11_unit_5 ?_
  refine V_if_ne 21 dX11_unit_8 rfl (fun c1 => ?_) (fun c1 => ?_)
  · replace c1 := jb_n.mp c1
    refine V_aload_n dX11_unit_21 rfl ?_
    refine V_getf (fk := 0) (Value.ref 3) ko_X11 rfl w_204 dX11_unit_22 (by decide) (shk hS 2 rfl) (congrArg Value.ref (shr hS 2 0 3 (by decide))) ?_
    refine V_getf (fk := 5) (Value.int (zI σ 3 5)) ko_X8 rfl w_76 dX11_unit_25 (by decide) (shk hS 3 rfl) rfl ?_
    refine V_istore_n [(0, .ref 2), (1, .int v1), (2, .int (zI σ 3 5))] dX11_unit_28 rfl rfl ?_
    refine V_aload_n dX11_unit_29 rfl ?_
    refine V_getf (fk := 0) (Value.ref 3) ko_X11 rfl w_204 dX11_unit_30 (by decide) (shk hS 2 rfl) (congrArg Value.ref (shr hS 2 0 3 (by decide))) ?_
    refine V_iload_n dX11_unit_33 rfl ?_
    refine V_puti (fk := 5) ko_X8 rfl w_76 (Or.inl rfl) dX11_unit_34 rfl (by decide) (shk hS 3 rfl) ?_
    refine V_iload_n dX11_unit_37 rfl ?_
    exact V_iret rfl dX11_unit_38 (k1 c1)
  · replace c1 := jb_0.mp c1
    exact V_throw (k := 1) (n := 6) tw_X11_72 ws_566 dX11_unit_11 dX11_unit_14 dX11_unit_15 dX11_unit_17 dX11_unit_20 rfl rfl rfl rfl rfl (k2 c1)

set_option maxRecDepth 100000 in
set_option maxHeartbeats 4000000 in
theorem b_X11_penalty_0 {g : GP} {CX : State → Array Value → Prop} {Q : AH → Option Value → Prop} {X : AH → String → Prop} {v1 : Int32} {σ : AH}
    (hS : Sh σ)
    (k1 : (isWi v1 (0 : Int32) (100 : Int32)) → Q (uI σ 2 9 v1) (some (.int (zI σ 2 9))))
    (k2 : (¬ (isWi v1 (0 : Int32) (100 : Int32))) → X σ "java/lang/IllegalArgumentException") :
    V g mX11_penalty (Em g mX11_penalty Q X) CX 1 6 0 [(0, .ref 2), (1, .int v1)] [] σ := by
  refine V_iload_n dX11_penalty_0 rfl ?_
  refine V_iconst (0 : Int32) dX11_penalty_1 (by decide) ?_
  refine V_bipush (100 : Int32) dX11_penalty_2 (by decide) ?_
  refine V_callS1 (as := [.int v1, .int (0 : Int32), .int (100 : Int32)]) (k' := 1) (n' := 6) (s_X11_isWithin) mw_X11_isWithin w_324 w_323 ar_X11_isWithin rfl ⟨rfl, rfl, rfl, rfl, rfl⟩ dX11_penalty_4 ?_
  refine V_if_ne 20 dX11_penalty_7 rfl (fun c1 => ?_) (fun c1 => ?_)
  · replace c1 := jb_n.mp c1
    refine V_aload_n dX11_penalty_20 rfl ?_
    refine V_getf (fk := 9) (Value.int (zI σ 2 9)) ko_X11 rfl w_213 dX11_penalty_21 (by decide) (shk hS 2 rfl) rfl ?_
    refine V_istore_n [(0, .ref 2), (1, .int v1), (2, .int (zI σ 2 9))] dX11_penalty_24 rfl rfl ?_
    refine V_aload_n dX11_penalty_25 rfl ?_
    refine V_iload_n dX11_penalty_26 rfl ?_
    refine V_puti (fk := 9) ko_X11 rfl w_213 (Or.inl rfl) dX11_penalty_27 rfl (by decide) (shk hS 2 rfl) ?_
    refine V_iload_n dX11_penalty_30 rfl ?_
    exact V_iret rfl dX11_penalty_31 (k1 c1)
  · replace c1 := jb_0.mp c1
    exact V_throw (k := 1) (n := 6) tw_X11_72 ws_574 dX11_penalty_10 dX11_penalty_13 dX11_penalty_14 dX11_penalty_16 dX11_penalty_19 rfl rfl rfl rfl rfl (k2 c1)

set_option maxRecDepth 100000 in
set_option maxHeartbeats 4000000 in
theorem b_X11_pass_0 {g : GP} {CX : State → Array Value → Prop} {Q : AH → Option Value → Prop} {X : AH → String → Prop} {v1 : Int32} {σ : AH}
    (hS : Sh σ)
    (k1 : (isWi v1 (1 : Int32) (100 : Int32)) → (((zI σ 3 6) + v1) ≤ (999 : Int32)) → Q (uI σ 3 6 ((zI σ 3 6) + v1)) (some (.int ((zI σ 3 6) + v1))))
    (k2 : (isWi v1 (1 : Int32) (100 : Int32)) → (¬ ((zI σ 3 6) + v1) ≤ (999 : Int32)) → X σ "java/lang/IllegalStateException")
    (k3 : (¬ (isWi v1 (1 : Int32) (100 : Int32))) → X σ "java/lang/IllegalArgumentException") :
    V g mX11_pass (Em g mX11_pass Q X) CX 1 6 0 [(0, .ref 2), (1, .int v1)] [] σ := by
  refine V_iload_n dX11_pass_0 rfl ?_
  refine V_iconst (1 : Int32) dX11_pass_1 (by decide) ?_
  refine V_bipush (100 : Int32) dX11_pass_2 (by decide) ?_
  refine V_callS1 (as := [.int v1, .int (1 : Int32), .int (100 : Int32)]) (k' := 1) (n' := 6) (s_X11_isWithin) mw_X11_isWithin w_324 w_323 ar_X11_isWithin rfl ⟨rfl, rfl, rfl, rfl, rfl⟩ dX11_pass_4 ?_
  refine V_if_ne 21 dX11_pass_7 rfl (fun c1 => ?_) (fun c1 => ?_)
  · replace c1 := jb_n.mp c1
    refine V_aload_n dX11_pass_21 rfl ?_
    refine V_getf (fk := 0) (Value.ref 3) ko_X11 rfl w_204 dX11_pass_22 (by decide) (shk hS 2 rfl) (congrArg Value.ref (shr hS 2 0 3 (by decide))) ?_
    refine V_getf (fk := 6) (Value.int (zI σ 3 6)) ko_X8 rfl w_78 dX11_pass_25 (by decide) (shk hS 3 rfl) rfl ?_
    refine V_iload_n dX11_pass_28 rfl ?_
    refine V_iadd dX11_pass_29 ?_
    refine V_sipush (999 : Int32) dX11_pass_30 (by decide) ?_
    refine V_icmp_le 47 dX11_pass_33 rfl (fun c2 => ?_) (fun c2 => ?_)
    · refine V_aload_n dX11_pass_47 rfl ?_
      refine V_getf (fk := 0) (Value.ref 3) ko_X11 rfl w_204 dX11_pass_48 (by decide) (shk hS 2 rfl) (congrArg Value.ref (shr hS 2 0 3 (by decide))) ?_
      refine V_dup dX11_pass_51 rfl ?_
      refine V_getf (fk := 6) (Value.int (zI σ 3 6)) ko_X8 rfl w_78 dX11_pass_52 (by decide) (shk hS 3 rfl) rfl ?_
      refine V_iload_n dX11_pass_55 rfl ?_
      refine V_iadd dX11_pass_56 ?_
      refine V_puti (fk := 6) ko_X8 rfl w_78 (Or.inl rfl) dX11_pass_57 rfl (by decide) (shk hS 3 rfl) ?_
      refine V_aload_n dX11_pass_60 rfl ?_
      refine V_getf (fk := 0) (Value.ref 3) ko_X11 rfl w_204 dX11_pass_61 (by decide) (shk (Sh_uI hS) 2 rfl) (congrArg Value.ref (shr (Sh_uI hS) 2 0 3 (by decide))) ?_
      refine V_getf (fk := 6) (Value.int ((zI σ 3 6) + v1)) ko_X8 rfl w_78 dX11_pass_64 (by decide) (shk (Sh_uI hS) 3 rfl) (congrArg Value.int (zI_self _ _ _ _)) ?_
      exact V_iret rfl dX11_pass_67 (k1 c1 c2)
    · exact V_throwW (k := 1) (n := 6) tw_X11_94 ws_1049 dX11_pass_36 dX11_pass_39 dX11_pass_40 dX11_pass_43 dX11_pass_46 rfl rfl rfl rfl rfl (k2 c1 c2)
  · replace c1 := jb_0.mp c1
    exact V_throwW (k := 1) (n := 6) tw_X11_72 ws_1048 dX11_pass_10 dX11_pass_13 dX11_pass_14 dX11_pass_17 dX11_pass_20 rfl rfl rfl rfl rfl (k3 c1)

set_option maxRecDepth 100000 in
set_option maxHeartbeats 4000000 in
theorem b_X11_miles_0 {g : GP} {CX : State → Array Value → Prop} {Q : AH → Option Value → Prop} {X : AH → String → Prop} {v1 : Int32} {v2 : Int32} {v3 : Int32} {σ : AH}
    (hS : Sh σ)
    (k1 : (¬ (isPl v1)) → X σ "java/lang/IndexOutOfBoundsException")
    (k2 : (isPl v1) → (isPl v2) → (v1 = v2) → X σ "java/lang/IllegalArgumentException")
    (o1 : (isPl v1) → (isPl v2) → (¬ v1 = v2) → (isWi v3 (1 : Int32) (9999 : Int32)) → 4 = 4 ∨ 4 = 10)
    (o2 : (isPl v1) → (isPl v2) → (¬ v1 = v2) → (isWi v3 (1 : Int32) (9999 : Int32)) → isPl v1)
    (o3 : (isPl v1) → (isPl v2) → (¬ v1 = v2) → (isWi v3 (1 : Int32) (9999 : Int32)) → isPl v2)
    (k3 : (isPl v1) → (isPl v2) → (¬ v1 = v2) → (isWi v3 (1 : Int32) (9999 : Int32)) → Q (puH σ (4 + 1) v1 v2 v3) (some (.int (zI σ (4 + 1) (p2 v1 v2)))))
    (k4 : (isPl v1) → (isPl v2) → (¬ v1 = v2) → (¬ (isWi v3 (1 : Int32) (9999 : Int32))) → X σ "java/lang/IllegalArgumentException")
    (k5 : (isPl v1) → (¬ (isPl v2)) → X σ "java/lang/IndexOutOfBoundsException") :
    V g mX11_miles (Em g mX11_miles Q X) CX 1 6 0 [(0, .ref 2), (1, .int v1), (2, .int v2), (3, .int v3)] [] σ := by
  refine V_iload_n dX11_miles_0 rfl ?_
  refine V_callS1 (as := [.int v1]) (k' := 1) (n' := 6) (s_X11_isPlace) mw_X11_isPlace w_253 w_252 ar_X11_isPlace rfl ⟨rfl, rfl, rfl, rfl, rfl⟩ dX11_miles_1 ?_
  refine V_if_eq 14 dX11_miles_4 rfl (fun c1 => ?_) (fun c1 => ?_)
  · replace c1 := jb_0.mp c1
    exact V_throw (k := 1) (n := 6) tw_X11_61 ws_296 dX11_miles_14 dX11_miles_17 dX11_miles_18 dX11_miles_20 dX11_miles_23 rfl rfl rfl rfl rfl (k1 c1)
  · replace c1 := jb_n.mp c1
    refine V_iload_n dX11_miles_7 rfl ?_
    refine V_callS1 (as := [.int v2]) (k' := 1) (n' := 6) (s_X11_isPlace) mw_X11_isPlace w_253 w_252 ar_X11_isPlace rfl ⟨rfl, rfl, rfl, rfl, rfl⟩ dX11_miles_8 ?_
    refine V_if_ne 24 dX11_miles_11 rfl (fun c2 => ?_) (fun c2 => ?_)
    · replace c2 := jb_n.mp c2
      refine V_iload_n dX11_miles_24 rfl ?_
      refine V_iload_n dX11_miles_25 rfl ?_
      refine V_icmp_eq 40 dX11_miles_26 rfl (fun c3 => ?_) (fun c3 => ?_)
      · exact V_throw (k := 1) (n := 6) tw_X11_72 ws_335 dX11_miles_40 dX11_miles_43 dX11_miles_44 dX11_miles_46 dX11_miles_49 rfl rfl rfl rfl rfl (k2 c1 c2 c3)
      · refine V_iload_n dX11_miles_29 rfl ?_
        refine V_iconst (1 : Int32) dX11_miles_30 (by decide) ?_
        refine V_sipush (9999 : Int32) dX11_miles_31 (by decide) ?_
        refine V_callS1 (as := [.int v3, .int (1 : Int32), .int (9999 : Int32)]) (k' := 1) (n' := 6) (s_X11_isWithin) mw_X11_isWithin w_324 w_323 ar_X11_isWithin rfl ⟨rfl, rfl, rfl, rfl, rfl⟩ dX11_miles_34 ?_
        refine V_if_ne 50 dX11_miles_37 rfl (fun c4 => ?_) (fun c4 => ?_)
        · replace c4 := jb_n.mp c4
          refine V_aload_n dX11_miles_50 rfl ?_
          refine V_getf (fk := 0) (Value.ref 3) ko_X11 rfl w_204 dX11_miles_51 (by decide) (shk hS 2 rfl) (congrArg Value.ref (shr hS 2 0 3 (by decide))) ?_
          refine V_getf (fk := 0) (Value.ref 4) ko_X8 rfl w_68 dX11_miles_54 (by decide) (shk hS 3 rfl) (congrArg Value.ref (shr hS 3 0 4 (by decide))) ?_
          refine V_iload_n dX11_miles_57 rfl ?_
          refine V_iload_n dX11_miles_58 rfl ?_
          refine V_iload_n dX11_miles_59 rfl ?_
          refine V_callV1 (as := [.int v1, .int v2, .int v3]) (k' := 1) (n' := 6) (s_X6_put hS (o1 c1 c2 c3 c4) (o2 c1 c2 c3 c4) (o3 c1 c2 c3 c4)) mw_X6_put ko_X6 rfl w_343 w_344 w_342 ar_X6_put rfl ⟨rfl, rfl, rfl, rfl, rfl⟩ dX11_miles_60 (by decide) (shk hS 4 rfl) ?_
          exact V_iret rfl dX11_miles_63 (k3 c1 c2 c3 c4)
        · replace c4 := jb_0.mp c4
          exact V_throw (k := 1) (n := 6) tw_X11_72 ws_335 dX11_miles_40 dX11_miles_43 dX11_miles_44 dX11_miles_46 dX11_miles_49 rfl rfl rfl rfl rfl (k4 c1 c2 c3 c4)
    · replace c2 := jb_0.mp c2
      exact V_throw (k := 1) (n := 6) tw_X11_61 ws_296 dX11_miles_14 dX11_miles_17 dX11_miles_18 dX11_miles_20 dX11_miles_23 rfl rfl rfl rfl rfl (k5 c1 c2)

set_option maxRecDepth 100000 in
set_option maxHeartbeats 4000000 in
theorem b_X11_weight_0 {g : GP} {CX : State → Array Value → Prop} {Q : AH → Option Value → Prop} {X : AH → String → Prop} {v1 : Int32} {v2 : Int32} {v3 : Int32} {σ : AH}
    (hS : Sh σ)
    (k1 : (¬ (isPl v1)) → X σ "java/lang/IndexOutOfBoundsException")
    (k2 : (isPl v1) → (isPl v2) → (v1 = v2) → X σ "java/lang/IllegalArgumentException")
    (o1 : (isPl v1) → (isPl v2) → (¬ v1 = v2) → (isWi v3 (0 : Int32) (9999 : Int32)) → 10 = 4 ∨ 10 = 10)
    (o2 : (isPl v1) → (isPl v2) → (¬ v1 = v2) → (isWi v3 (0 : Int32) (9999 : Int32)) → isPl v1)
    (o3 : (isPl v1) → (isPl v2) → (¬ v1 = v2) → (isWi v3 (0 : Int32) (9999 : Int32)) → isPl v2)
    (k3 : (isPl v1) → (isPl v2) → (¬ v1 = v2) → (isWi v3 (0 : Int32) (9999 : Int32)) → Q (puH σ (10 + 1) v1 v2 v3) (some (.int (zI σ (10 + 1) (p2 v1 v2)))))
    (k4 : (isPl v1) → (isPl v2) → (¬ v1 = v2) → (¬ (isWi v3 (0 : Int32) (9999 : Int32))) → X σ "java/lang/IllegalArgumentException")
    (k5 : (isPl v1) → (¬ (isPl v2)) → X σ "java/lang/IndexOutOfBoundsException") :
    V g mX11_weight (Em g mX11_weight Q X) CX 1 6 0 [(0, .ref 2), (1, .int v1), (2, .int v2), (3, .int v3)] [] σ := by
  refine V_iload_n dX11_weight_0 rfl ?_
  refine V_callS1 (as := [.int v1]) (k' := 1) (n' := 6) (s_X11_isPlace) mw_X11_isPlace w_253 w_252 ar_X11_isPlace rfl ⟨rfl, rfl, rfl, rfl, rfl⟩ dX11_weight_1 ?_
  refine V_if_eq 14 dX11_weight_4 rfl (fun c1 => ?_) (fun c1 => ?_)
  · replace c1 := jb_0.mp c1
    exact V_throw (k := 1) (n := 6) tw_X11_61 ws_296 dX11_weight_14 dX11_weight_17 dX11_weight_18 dX11_weight_20 dX11_weight_23 rfl rfl rfl rfl rfl (k1 c1)
  · replace c1 := jb_n.mp c1
    refine V_iload_n dX11_weight_7 rfl ?_
    refine V_callS1 (as := [.int v2]) (k' := 1) (n' := 6) (s_X11_isPlace) mw_X11_isPlace w_253 w_252 ar_X11_isPlace rfl ⟨rfl, rfl, rfl, rfl, rfl⟩ dX11_weight_8 ?_
    refine V_if_ne 24 dX11_weight_11 rfl (fun c2 => ?_) (fun c2 => ?_)
    · replace c2 := jb_n.mp c2
      refine V_iload_n dX11_weight_24 rfl ?_
      refine V_iload_n dX11_weight_25 rfl ?_
      refine V_icmp_eq 40 dX11_weight_26 rfl (fun c3 => ?_) (fun c3 => ?_)
      · exact V_throw (k := 1) (n := 6) tw_X11_72 ws_539 dX11_weight_40 dX11_weight_43 dX11_weight_44 dX11_weight_46 dX11_weight_49 rfl rfl rfl rfl rfl (k2 c1 c2 c3)
      · refine V_iload_n dX11_weight_29 rfl ?_
        refine V_iconst (0 : Int32) dX11_weight_30 (by decide) ?_
        refine V_sipush (9999 : Int32) dX11_weight_31 (by decide) ?_
        refine V_callS1 (as := [.int v3, .int (0 : Int32), .int (9999 : Int32)]) (k' := 1) (n' := 6) (s_X11_isWithin) mw_X11_isWithin w_324 w_323 ar_X11_isWithin rfl ⟨rfl, rfl, rfl, rfl, rfl⟩ dX11_weight_34 ?_
        refine V_if_ne 50 dX11_weight_37 rfl (fun c4 => ?_) (fun c4 => ?_)
        · replace c4 := jb_n.mp c4
          refine V_aload_n dX11_weight_50 rfl ?_
          refine V_getf (fk := 1) (Value.ref 9) ko_X11 rfl w_205 dX11_weight_51 (by decide) (shk hS 2 rfl) (congrArg Value.ref (shr hS 2 1 9 (by decide))) ?_
          refine V_getf (fk := 0) (Value.ref 10) ko_X7 rfl w_103 dX11_weight_54 (by decide) (shk hS 9 rfl) (congrArg Value.ref (shr hS 9 0 10 (by decide))) ?_
          refine V_iload_n dX11_weight_57 rfl ?_
          refine V_iload_n dX11_weight_58 rfl ?_
          refine V_iload_n dX11_weight_59 rfl ?_
          refine V_callV1 (as := [.int v1, .int v2, .int v3]) (k' := 1) (n' := 6) (s_X6_put hS (o1 c1 c2 c3 c4) (o2 c1 c2 c3 c4) (o3 c1 c2 c3 c4)) mw_X6_put ko_X6 rfl w_343 w_344 w_342 ar_X6_put rfl ⟨rfl, rfl, rfl, rfl, rfl⟩ dX11_weight_60 (by decide) (shk hS 10 rfl) ?_
          exact V_iret rfl dX11_weight_63 (k3 c1 c2 c3 c4)
        · replace c4 := jb_0.mp c4
          exact V_throw (k := 1) (n := 6) tw_X11_72 ws_539 dX11_weight_40 dX11_weight_43 dX11_weight_44 dX11_weight_46 dX11_weight_49 rfl rfl rfl rfl rfl (k4 c1 c2 c3 c4)
    · replace c2 := jb_0.mp c2
      exact V_throw (k := 1) (n := 6) tw_X11_61 ws_296 dX11_weight_14 dX11_weight_17 dX11_weight_18 dX11_weight_20 dX11_weight_23 rfl rfl rfl rfl rfl (k5 c1 c2)

set_option maxRecDepth 100000 in
set_option maxHeartbeats 4000000 in
theorem b_X11_tax_0 {g : GP} {CX : State → Array Value → Prop} {Q : AH → Option Value → Prop} {X : AH → String → Prop} {v1 : Int32} {v2 : Int32} {v3 : Int32} {σ : AH}
    (hS : Sh σ)
    (k1 : (isPl v1) → (¬ (isWi v2 (0 : Int32) (10000 : Int32))) → X σ "java/lang/IllegalArgumentException")
    (o1 : (isPl v1) → (isWi v2 (0 : Int32) (10000 : Int32)) → (isWi v3 (0 : Int32) (10000 : Int32)) → isPl v1)
    (k2 : (isPl v1) → (isWi v2 (0 : Int32) (10000 : Int32)) → (isWi v3 (0 : Int32) (10000 : Int32)) → Q (uI (uI σ 7 (ix v1) v2) 8 (ix v1) v3) none)
    (k3 : (isPl v1) → (isWi v2 (0 : Int32) (10000 : Int32)) → (¬ (isWi v3 (0 : Int32) (10000 : Int32))) → X σ "java/lang/IllegalArgumentException")
    (k4 : (¬ (isPl v1)) → X σ "java/lang/IndexOutOfBoundsException") :
    V g mX11_tax (Em g mX11_tax Q X) CX 1 6 0 [(0, .ref 2), (1, .int v1), (2, .int v2), (3, .int v3)] [] σ := by
  refine V_iload_n dX11_tax_0 rfl ?_
  refine V_callS1 (as := [.int v1]) (k' := 1) (n' := 6) (s_X11_isPlace) mw_X11_isPlace w_253 w_252 ar_X11_isPlace rfl ⟨rfl, rfl, rfl, rfl, rfl⟩ dX11_tax_1 ?_
  refine V_if_ne 17 dX11_tax_4 rfl (fun c1 => ?_) (fun c1 => ?_)
  · replace c1 := jb_n.mp c1
    refine V_iload_n dX11_tax_17 rfl ?_
    refine V_iconst (0 : Int32) dX11_tax_18 (by decide) ?_
    refine V_sipush (10000 : Int32) dX11_tax_19 (by decide) ?_
    refine V_callS1 (as := [.int v2, .int (0 : Int32), .int (10000 : Int32)]) (k' := 1) (n' := 6) (s_X11_isWithin) mw_X11_isWithin w_324 w_323 ar_X11_isWithin rfl ⟨rfl, rfl, rfl, rfl, rfl⟩ dX11_tax_22 ?_
    refine V_if_eq 39 dX11_tax_25 rfl (fun c2 => ?_) (fun c2 => ?_)
    · replace c2 := jb_0.mp c2
      exact V_throw (k := 1) (n := 6) tw_X11_72 ws_526 dX11_tax_39 dX11_tax_42 dX11_tax_43 dX11_tax_45 dX11_tax_48 rfl rfl rfl rfl rfl (k1 c1 c2)
    · replace c2 := jb_n.mp c2
      refine V_iload_n dX11_tax_28 rfl ?_
      refine V_iconst (0 : Int32) dX11_tax_29 (by decide) ?_
      refine V_sipush (10000 : Int32) dX11_tax_30 (by decide) ?_
      refine V_callS1 (as := [.int v3, .int (0 : Int32), .int (10000 : Int32)]) (k' := 1) (n' := 6) (s_X11_isWithin) mw_X11_isWithin w_324 w_323 ar_X11_isWithin rfl ⟨rfl, rfl, rfl, rfl, rfl⟩ dX11_tax_33 ?_
      refine V_if_ne 49 dX11_tax_36 rfl (fun c3 => ?_) (fun c3 => ?_)
      · replace c3 := jb_n.mp c3
        refine V_aload_n dX11_tax_49 rfl ?_
        refine V_getf (fk := 0) (Value.ref 3) ko_X11 rfl w_204 dX11_tax_50 (by decide) (shk hS 2 rfl) (congrArg Value.ref (shr hS 2 0 3 (by decide))) ?_
        refine V_iload_n dX11_tax_53 rfl ?_
        refine V_iload_n dX11_tax_54 rfl ?_
        refine V_iload_n dX11_tax_55 rfl ?_
        refine V_callV0 (as := [.int v1, .int v2, .int v3]) (k' := 1) (n' := 6) (s_X8_putTaxes hS (o1 c1 c2 c3)) mw_X8_putTaxes ko_X8 rfl w_528 w_529 w_527 ar_X8_putTaxes rfl ⟨rfl, rfl, rfl, rfl, rfl⟩ dX11_tax_56 (by decide) (shk hS 3 rfl) ?_
        exact V_vret rfl dX11_tax_59 (k2 c1 c2 c3)
      · replace c3 := jb_0.mp c3
        exact V_throw (k := 1) (n := 6) tw_X11_72 ws_526 dX11_tax_39 dX11_tax_42 dX11_tax_43 dX11_tax_45 dX11_tax_48 rfl rfl rfl rfl rfl (k3 c1 c2 c3)
  · replace c1 := jb_0.mp c1
    exact V_throw (k := 1) (n := 6) tw_X11_61 ws_296 dX11_tax_7 dX11_tax_10 dX11_tax_11 dX11_tax_13 dX11_tax_16 rfl rfl rfl rfl rfl (k4 c1)

set_option maxRecDepth 100000 in
set_option maxHeartbeats 4000000 in
theorem b_X11_proviso_0 {g : GP} {CX : State → Array Value → Prop} {Q : AH → Option Value → Prop} {X : AH → String → Prop} {v1 : Int32} {v2 : Int32} {v3 : Int32} {v4 : Int32} {σ : AH}
    (hS : Sh σ)
    (k1 : (¬ (isCa v1)) → X σ "java/lang/IndexOutOfBoundsException")
    (k2 : (isCa v1) → (¬ (isPl v2)) → X σ "java/lang/IndexOutOfBoundsException")
    (k3 : (isCa v1) → (isPl v2) → (isPl v3) → (v2 = v3) → X σ "java/lang/IllegalArgumentException")
    (o1 : (isCa v1) → (isPl v2) → (isPl v3) → (¬ v2 = v3) → (v4 = (-1 : Int32)) → isCa v1)
    (o2 : (isCa v1) → (isPl v2) → (isPl v3) → (¬ v2 = v3) → (v4 = (-1 : Int32)) → isPl v2)
    (o3 : (isCa v1) → (isPl v2) → (isPl v3) → (¬ v2 = v3) → (v4 = (-1 : Int32)) → isPl v3)
    (k4 : (isCa v1) → (isPl v2) → (isPl v3) → (¬ v2 = v3) → (v4 = (-1 : Int32)) → Q (uI σ 12 (p3 v1 v2 v3) v4) (some (.int (zI σ 12 (p3 v1 v2 v3)))))
    (o4 : (isCa v1) → (isPl v2) → (isPl v3) → (¬ v2 = v3) → (¬ v4 = (-1 : Int32)) → (isWi v4 (0 : Int32) (1000000 : Int32)) → isCa v1)
    (o5 : (isCa v1) → (isPl v2) → (isPl v3) → (¬ v2 = v3) → (¬ v4 = (-1 : Int32)) → (isWi v4 (0 : Int32) (1000000 : Int32)) → isPl v2)
    (o6 : (isCa v1) → (isPl v2) → (isPl v3) → (¬ v2 = v3) → (¬ v4 = (-1 : Int32)) → (isWi v4 (0 : Int32) (1000000 : Int32)) → isPl v3)
    (k5 : (isCa v1) → (isPl v2) → (isPl v3) → (¬ v2 = v3) → (¬ v4 = (-1 : Int32)) → (isWi v4 (0 : Int32) (1000000 : Int32)) → Q (uI σ 12 (p3 v1 v2 v3) v4) (some (.int (zI σ 12 (p3 v1 v2 v3)))))
    (k6 : (isCa v1) → (isPl v2) → (isPl v3) → (¬ v2 = v3) → (¬ v4 = (-1 : Int32)) → (¬ (isWi v4 (0 : Int32) (1000000 : Int32))) → X σ "java/lang/IllegalArgumentException")
    (k7 : (isCa v1) → (isPl v2) → (¬ (isPl v3)) → X σ "java/lang/IndexOutOfBoundsException") :
    V g mX11_proviso (Em g mX11_proviso Q X) CX 1 6 0 [(0, .ref 2), (1, .int v1), (2, .int v2), (3, .int v3), (4, .int v4)] [] σ := by
  refine V_iload_n dX11_proviso_0 rfl ?_
  refine V_callS1 (as := [.int v1]) (k' := 1) (n' := 6) (s_X11_isCarrier) mw_X11_isCarrier w_364 w_363 ar_X11_isCarrier rfl ⟨rfl, rfl, rfl, rfl, rfl⟩ dX11_proviso_1 ?_
  refine V_if_eq 21 dX11_proviso_4 rfl (fun c1 => ?_) (fun c1 => ?_)
  · replace c1 := jb_0.mp c1
    exact V_throw (k := 1) (n := 6) tw_X11_61 ws_547 dX11_proviso_21 dX11_proviso_24 dX11_proviso_25 dX11_proviso_27 dX11_proviso_30 rfl rfl rfl rfl rfl (k1 c1)
  · replace c1 := jb_n.mp c1
    refine V_iload_n dX11_proviso_7 rfl ?_
    refine V_callS1 (as := [.int v2]) (k' := 1) (n' := 6) (s_X11_isPlace) mw_X11_isPlace w_253 w_252 ar_X11_isPlace rfl ⟨rfl, rfl, rfl, rfl, rfl⟩ dX11_proviso_8 ?_
    refine V_if_eq 21 dX11_proviso_11 rfl (fun c2 => ?_) (fun c2 => ?_)
    · replace c2 := jb_0.mp c2
      exact V_throw (k := 1) (n := 6) tw_X11_61 ws_547 dX11_proviso_21 dX11_proviso_24 dX11_proviso_25 dX11_proviso_27 dX11_proviso_30 rfl rfl rfl rfl rfl (k2 c1 c2)
    · replace c2 := jb_n.mp c2
      refine V_iload_n dX11_proviso_14 rfl ?_
      refine V_callS1 (as := [.int v3]) (k' := 1) (n' := 6) (s_X11_isPlace) mw_X11_isPlace w_253 w_252 ar_X11_isPlace rfl ⟨rfl, rfl, rfl, rfl, rfl⟩ dX11_proviso_15 ?_
      refine V_if_ne 31 dX11_proviso_18 rfl (fun c3 => ?_) (fun c3 => ?_)
      · replace c3 := jb_n.mp c3
        refine V_iload_n dX11_proviso_31 rfl ?_
        refine V_iload_n dX11_proviso_32 rfl ?_
        refine V_icmp_eq 53 dX11_proviso_33 rfl (fun c4 => ?_) (fun c4 => ?_)
        · exact V_throw (k := 1) (n := 6) tw_X11_72 ws_548 dX11_proviso_53 dX11_proviso_56 dX11_proviso_57 dX11_proviso_59 dX11_proviso_62 rfl rfl rfl rfl rfl (k3 c1 c2 c3 c4)
        · refine V_iload dX11_proviso_36 rfl ?_
          refine V_iconst (-1 : Int32) dX11_proviso_38 (by decide) ?_
          refine V_icmp_eq 63 dX11_proviso_39 rfl (fun c5 => ?_) (fun c5 => ?_)
          · refine V_aload_n dX11_proviso_63 rfl ?_
            refine V_getf (fk := 1) (Value.ref 9) ko_X11 rfl w_205 dX11_proviso_64 (by decide) (shk hS 2 rfl) (congrArg Value.ref (shr hS 2 1 9 (by decide))) ?_
            refine V_iload_n dX11_proviso_67 rfl ?_
            refine V_iload_n dX11_proviso_68 rfl ?_
            refine V_iload_n dX11_proviso_69 rfl ?_
            refine V_iload dX11_proviso_70 rfl ?_
            refine V_callV1 (as := [.int v1, .int v2, .int v3, .int v4]) (k' := 1) (n' := 6) (s_X7_putProviso hS (o1 c1 c2 c3 c4 c5) (o2 c1 c2 c3 c4 c5) (o3 c1 c2 c3 c4 c5)) mw_X7_putProviso ko_X7 rfl w_550 w_551 w_549 ar_X7_putProviso rfl ⟨rfl, rfl, rfl, rfl, rfl⟩ dX11_proviso_72 (by decide) (shk hS 9 rfl) ?_
            exact V_iret rfl dX11_proviso_75 (k4 c1 c2 c3 c4 c5)
          · refine V_iload dX11_proviso_42 rfl ?_
            refine V_iconst (0 : Int32) dX11_proviso_44 (by decide) ?_
            refine V_ldc (v := (1000000 : Int32)) w_466 dX11_proviso_45 ?_
            refine V_callS1 (as := [.int v4, .int (0 : Int32), .int (1000000 : Int32)]) (k' := 1) (n' := 6) (s_X11_isWithin) mw_X11_isWithin w_324 w_323 ar_X11_isWithin rfl ⟨rfl, rfl, rfl, rfl, rfl⟩ dX11_proviso_47 ?_
            refine V_if_ne 63 dX11_proviso_50 rfl (fun c6 => ?_) (fun c6 => ?_)
            · replace c6 := jb_n.mp c6
              refine V_aload_n dX11_proviso_63 rfl ?_
              refine V_getf (fk := 1) (Value.ref 9) ko_X11 rfl w_205 dX11_proviso_64 (by decide) (shk hS 2 rfl) (congrArg Value.ref (shr hS 2 1 9 (by decide))) ?_
              refine V_iload_n dX11_proviso_67 rfl ?_
              refine V_iload_n dX11_proviso_68 rfl ?_
              refine V_iload_n dX11_proviso_69 rfl ?_
              refine V_iload dX11_proviso_70 rfl ?_
              refine V_callV1 (as := [.int v1, .int v2, .int v3, .int v4]) (k' := 1) (n' := 6) (s_X7_putProviso hS (o4 c1 c2 c3 c4 c5 c6) (o5 c1 c2 c3 c4 c5 c6) (o6 c1 c2 c3 c4 c5 c6)) mw_X7_putProviso ko_X7 rfl w_550 w_551 w_549 ar_X7_putProviso rfl ⟨rfl, rfl, rfl, rfl, rfl⟩ dX11_proviso_72 (by decide) (shk hS 9 rfl) ?_
              exact V_iret rfl dX11_proviso_75 (k5 c1 c2 c3 c4 c5 c6)
            · replace c6 := jb_0.mp c6
              exact V_throw (k := 1) (n := 6) tw_X11_72 ws_548 dX11_proviso_53 dX11_proviso_56 dX11_proviso_57 dX11_proviso_59 dX11_proviso_62 rfl rfl rfl rfl rfl (k6 c1 c2 c3 c4 c5 c6)
      · replace c3 := jb_0.mp c3
        exact V_throw (k := 1) (n := 6) tw_X11_61 ws_547 dX11_proviso_21 dX11_proviso_24 dX11_proviso_25 dX11_proviso_27 dX11_proviso_30 rfl rfl rfl rfl rfl (k7 c1 c2 c3)

/-- scalars of the tariff -/
theorem RT_sc {E : Nat → Nat → Prop} {τ σ : AH} (h : QX E τ σ) (hE : ∀ a k, E a k → (a = 33 ∧ (k = 0 ∨ k = 14)) ∨ (a = 3 ∧ (k = 5 ∨ k = 6))) (h5 : zI τ 3 5 = zI τ 33 14) (hb : bt (zI τ 33 14) 1 1000) (h6 : zI τ 3 6 = zI τ 33 0) (hb0 : bt (zI τ 33 0) 0 999) (hT : RT σ) : RT τ := by
  obtain ⟨nf, t1, t2, t3, t4, t5, t6, t7, t8, t9, t10, t11, t12⟩ := hT
  have e : ∀ a k, ¬ QU a k → ¬ ((a = 33 ∧ (k = 0 ∨ k = 14)) ∨ (a = 3 ∧ (k = 5 ∨ k = 6))) → zI τ a k = zI σ a k := fun a k q1 q2 => h.2.2.2.2.1 a k q1 (fun q => q2 (hE a k q))
  have eR := h.2.2.2.1
  refine ⟨nf, t1, by rw [e 33 6 (by unfold QU; omega) (by omega)]; exact t2, by rw [e 3 4 (by unfold QU; omega) (by omega)]; exact t3, h5, hb, h6, hb0, fun k hk => by rw [e 5 k (by unfold QU; omega) (by omega), e 34 k (by unfold QU; omega) (by omega)]; exact t8 k hk, fun k hk => by rw [e 7 k (by unfold QU; omega) (by omega), e 8 k (by unfold QU; omega) (by omega), e 37 k (by unfold QU; omega) (by omega), e 38 k (by unfold QU; omega) (by omega)]; exact t9 k hk, fun k hk => ?_, fun k hk => by rw [e 45 k (by unfold QU; omega) (by omega)]; exact t11 k hk, fun j k hj hk q => t12 j k hj hk (by rw [eR] at q; exact q)⟩
  have hf := t10 k hk
  unfold FO at hf ⊢
  have h72 := hf.1.1
  rw [eR, h.1, h.2.1]
  have ea : ∀ j, zI τ (zR σ 6 k) j = zI σ (zR σ 6 k) j := fun j => e _ _ (by unfold QU; omega) (by omega)
  have em : ∀ a, 39 ≤ a → a ≤ 45 → zI τ a k = zI σ a k := fun a x y => e _ _ (by unfold QU; omega) (by omega)
  rw [ea, ea, ea, ea, ea, ea, ea, em 39 (by decide) (by decide), em 40 (by decide) (by decide), em 41 (by decide) (by decide), em 42 (by decide) (by decide), em 43 (by decide) (by decide), em 44 (by decide) (by decide), em 45 (by decide) (by decide)]
  exact hf
theorem RC_pn {E : Nat → Nat → Prop} {τ σ : AH} (h : QX E τ σ) (hE : ∀ a k, E a k → (a = 33 ∧ k = 15) ∨ (a = 2 ∧ k = 9)) (h1 : zI τ 2 9 = zI τ 33 15) (h2 : bt (zI τ 33 15) 0 100) (hK : RK σ) (hC : RC σ) : RC τ := by
  obtain ⟨c1, c2, c3, c4, c5, c6⟩ := hC
  have e : ∀ a k, ¬ QU a k → ¬ ((a = 33 ∧ k = 15) ∨ (a = 2 ∧ k = 9)) → zI τ a k = zI σ a k := fun a k q1 q2 => h.2.2.2.2.1 a k q1 (fun q => q2 (hE a k q))
  have j := h.2.2.2.2.2
  refine ⟨fun c hc => by rw [j 31 c (by decide) (by decide) (by decide), j 70 c (by decide) (by decide) (by decide)]; exact c1 c hc, fun c hc => by rw [j 32 c (by decide) (by decide) (by decide), j 71 c (by decide) (by decide) (by decide)]; exact c2 c hc, by rw [j 2 10 (by decide) (by decide) (by decide), j 33 48 (by decide) (by decide) (by decide)]; exact c3, h1, h2, fun c hc => ?_⟩
  rw [j 70 c (by decide) (by decide) (by decide), e 33 36 (by unfold QU; omega) (by omega), e 33 23 (by unfold QU; omega) (by omega), gbM_ag (fun a k x y => e a k (by unfold QU; omega) (by omega)), tkM_ag _ (fun t ht => ⟨e 51 t (by unfold QU; omega) (by omega), e 52 t (by unfold QU; omega) (by omega), ?_, fun k _ => by rw [ftM, ftM, e 55 _ (by unfold QU; omega) (by omega), e 57 _ (by unfold QU; omega) (by omega)]⟩)]
  · exact c6 c hc
  · have h72 := TR_72 (RK_t hK ht)
    rw [tA, h.2.2.2.1]
    unfold tA at h72
    exact j _ _ (by omega) (by omega) (by omega)
theorem bt_wi {x : Int32} {l m : Int32} (h : isWi x l m) : bt x l.toInt m.toInt := by
  refine ⟨?_, ?_⟩
  · exact Int32.le_iff_toInt_le.mp (Int32.not_lt.mp h.1)
  · exact Int32.le_iff_toInt_le.mp (Int32.not_lt.mp h.2)

theorem R_unit {g : GP} {i : Nat} {σ : AH} {v1 : Int32} (hi : i < 512) (h : Rel i σ) : CtH g mL_unit [.ref 2, .int v1] σ (RQ [-1000002] (fun k τ => Gh (S12_unit v1) τ (RE i k))) := by
  have hr := h
  obtain ⟨h0, hS, hT, hJ, hP, hK, hB, hC⟩ := h
  have m1 : ¬ (isWi v1 1 1000) → Gh (S12_unit v1) σ (RE i 1) := fun c1 => s_X12_unit hS  (fun _ => RE_no hi hr (Q4_refl σ) (by decide)) (fun q => absurd q c1)
  refine w_L_unit (Q := QI (fun k τ => Gh (S12_unit v1) τ (RE i k))) (X := X1 IAE (fun k τ => Gh (S12_unit v1) τ (RE i k))) hS (CtX_of (by decide +kernel) rfl rfl (b_X11_unit_0 hS (fun c => ?_) (fun c => ⟨rfl, hS, m1 c⟩))) QI_q X1_q
  have hq : QX (fun a k => (a = 33 ∧ k = 14) ∨ (a = 3 ∧ k = 5)) (uI (uI (uJ (uI σ 3 5 v1) 72 0 (Int32.toInt64 (zI σ 3 5))) 33 49 0) 33 14 v1) σ := QX_uI (QX_49 (QX_72 (QX_uI QX_refl (by right; simp)))) (by right; simp)
  have hb := bt_wi c
  refine ⟨_, rfl, hS, s_X12_unit hS (fun q => absurd c q) (fun _ => ⟨by rw [zI_uI, if_neg (by decide), zI_uI, if_pos ⟨rfl, rfl⟩], ⟨hi, QX_Sh hq hS, RT_sc hq (fun a k he => by (try dsimp only at he); omega) ?_ ?_ ?_ ?_ hT, QX_RJ hq (fun a k hf he => by (try dsimp only at he); (try unfold FT at hf); (try unfold FK at hf); (try unfold FB at hf); omega) hJ, QX_RP hq (fun a k hf he => by (try dsimp only at he); (try unfold FT at hf); (try unfold FK at hf); (try unfold FB at hf); omega) hP, QX_RK hq (fun a k hf he => by (try dsimp only at he); (try unfold FT at hf); (try unfold FK at hf); (try unfold FB at hf); omega) hS hK, QX_RB hq (fun a k hf he => by (try dsimp only at he); (try unfold FT at hf); (try unfold FK at hf); (try unfold FB at hf); omega) hS hB, QX_RC hq (fun a k hf he => by (try dsimp only at he); (try unfold FT at hf); (try unfold FK at hf); (try unfold FB at hf); omega) hK hC⟩, _, rfl, fun _ => ?_⟩)⟩
  · rw [zI_uI, if_neg (by decide), zI_uI, if_neg (by decide), zI_uJ, zI_uI, if_pos ⟨rfl, rfl⟩, zI_uI, if_pos ⟨rfl, rfl⟩]
  · rw [zI_uI, if_pos ⟨rfl, rfl⟩]; exact hb
  · rw [hq.2.2.2.2.1 3 6 (by unfold QU; omega) (by simp), hq.2.2.2.2.1 33 0 (by unfold QU; omega) (by simp)]
    obtain ⟨nf, t1, t2, t3, t4, t5, t6, t7, -⟩ := hT
    exact t6
  · rw [hq.2.2.2.2.1 33 0 (by unfold QU; omega) (by simp)]
    obtain ⟨nf, t1, t2, t3, t4, t5, t6, t7, -⟩ := hT
    exact t7
  · obtain ⟨nf, t1, t2, t3, t4, -⟩ := hT
    show zJ (uJ (uI σ 3 5 v1) 72 0 (Int32.toInt64 (zI σ 3 5))) 72 0 = Int32.toInt64 (zI (uI σ 3 5 v1) 33 14)
    rw [zJ_uJ, if_pos ⟨rfl, rfl⟩, zI_uI, if_neg (by decide), t4]
theorem R_penalty {g : GP} {i : Nat} {σ : AH} {v1 : Int32} (hi : i < 512) (h : Rel i σ) : CtH g mL_penalty [.ref 2, .int v1] σ (RQ [-1000002] (fun k τ => Gh (S12_penalty v1) τ (RE i k))) := by
  have hr := h
  obtain ⟨h0, hS, hT, hJ, hP, hK, hB, hC⟩ := h
  have m1 : ¬ (isWi v1 0 100) → Gh (S12_penalty v1) σ (RE i 1) := fun c1 => s_X12_penalty hS  (fun _ => RE_no hi hr (Q4_refl σ) (by decide)) (fun q => absurd q c1)
  refine w_L_penalty (Q := QI (fun k τ => Gh (S12_penalty v1) τ (RE i k))) (X := X1 IAE (fun k τ => Gh (S12_penalty v1) τ (RE i k))) hS (CtX_of (by decide +kernel) rfl rfl (b_X11_penalty_0 hS (fun c => ?_) (fun c => ⟨rfl, hS, m1 c⟩))) QI_q X1_q
  have hq : QX (fun a k => (a = 33 ∧ k = 15) ∨ (a = 2 ∧ k = 9)) (uI (uI (uJ (uI σ 2 9 v1) 72 0 (Int32.toInt64 (zI σ 2 9))) 33 49 0) 33 15 v1) σ := QX_uI (QX_49 (QX_72 (QX_uI QX_refl (by right; simp)))) (by right; simp)
  have hb := bt_wi c
  have c4 := hC.2.2.2.1
  refine ⟨_, rfl, hS, s_X12_penalty hS (fun q => absurd c q) (fun _ => ⟨by rw [zI_uI, if_neg (by decide), zI_uI, if_pos ⟨rfl, rfl⟩], ⟨hi, QX_Sh hq hS, QX_RT hq (fun a k hf he => by (try dsimp only at he); (try unfold FT at hf); (try unfold FK at hf); (try unfold FB at hf); omega) hS hT, QX_RJ hq (fun a k hf he => by (try dsimp only at he); (try unfold FT at hf); (try unfold FK at hf); (try unfold FB at hf); omega) hJ, QX_RP hq (fun a k hf he => by (try dsimp only at he); (try unfold FT at hf); (try unfold FK at hf); (try unfold FB at hf); omega) hP, QX_RK hq (fun a k hf he => by (try dsimp only at he); (try unfold FT at hf); (try unfold FK at hf); (try unfold FB at hf); omega) hS hK, QX_RB hq (fun a k hf he => by (try dsimp only at he); (try unfold FT at hf); (try unfold FK at hf); (try unfold FB at hf); omega) hS hB, RC_pn hq (fun a k he => by (try dsimp only at he); omega) ?_ ?_ hK hC⟩, _, rfl, fun _ => ?_⟩)⟩
  · rw [zI_uI, if_neg (by decide), zI_uI, if_neg (by decide), zI_uJ, zI_uI, if_pos ⟨rfl, rfl⟩, zI_uI, if_pos ⟨rfl, rfl⟩]
  · rw [zI_uI, if_pos ⟨rfl, rfl⟩]; exact hb
  · show zJ (uJ (uI σ 2 9 v1) 72 0 (Int32.toInt64 (zI σ 2 9))) 72 0 = Int32.toInt64 (zI (uI σ 2 9 v1) 33 15)
    rw [zJ_uJ, if_pos ⟨rfl, rfl⟩, zI_uI, if_neg (by decide), c4]
theorem bt_wn {x : Int32} {l m : Nat} (hl : l < 2 ^ 31) (hm : m < 2 ^ 31) (h : isWi x (nI l) (nI m)) : bt x (l : Nat) (m : Nat) := by
  have := bt_wi h
  rw [nI_toInt hl, nI_toInt hm] at this
  exact this
theorem bt_p1 {x : Int32} (h : isWi x 0 1000000) : bt (x + 1) 0 1000001 := by
  have hb : bt x 0 1000000 := bt_wn (l := 0) (m := 1000000) (by decide) (by decide) h
  have e := add_toInt (a := x) (b := 1) (m := 1000000) (n := 1) hb ⟨by decide, by decide⟩ (by decide)
  have e1 : (1 : Int32).toInt = 1 := by decide
  rw [e1] at e
  have := hb.1; have := hb.2
  exact ⟨by rw [e]; omega, by rw [e]; omega⟩
theorem wi_0m {x : Int32} (h : isWi x 0 1000000) : isWi x (-1) 1000000 := by
  refine ⟨fun q => h.1 ?_, h.2⟩
  rw [Int32.lt_iff_toInt_lt] at q ⊢
  have e1 : (-1 : Int32).toInt = -1 := by decide
  have e0 : (0 : Int32).toInt = 0 := by decide
  omega
theorem wi_m1 {x : Int32} (h : ¬ x = -1) (h2 : isWi x (-1) 1000000) : isWi x 0 1000000 := by
  refine ⟨fun q => h ?_, h2.2⟩
  have h1 := h2.1
  rw [Int32.lt_iff_toInt_lt] at q h1
  have e1 : (-1 : Int32).toInt = -1 := by decide
  have e0 : (0 : Int32).toInt = 0 := by decide
  exact Int32.toInt_inj.mp (by omega)
theorem isWi_iff {x l m : Int32} : isWi x l m ↔ l.toInt ≤ x.toInt ∧ x.toInt ≤ m.toInt := by
  unfold isWi
  rw [Int32.not_lt, Int32.not_lt, Int32.le_iff_toInt_le, Int32.le_iff_toInt_le]
theorem p2_lt {x y : Int32} (hx : isPl x) (hy : isPl y) : p2 x y < 100 := by
  obtain ⟨j, hj, e⟩ := vp_in_of (vp_mul (isPl_vp hx) (isPl_vp hy)).1 (by decide)
  rw [p2, ix, e, cl0 (by omega)]; exact hj
theorem p3_lt {c x y : Int32} (hc : isCa c) (hx : isPl x) (hy : isPl y) : p3 c x y < 500 := by
  obtain ⟨j, hj, e⟩ := vp_in_of (vp_mul3 (isCa_vp hc) (isPl_vp hx) (isPl_vp hy)).1 (by decide)
  rw [p3, ix, e, cl0 (by omega)]; exact hj
/-- miles and taxes -/
theorem RT_ar {E : Nat → Nat → Prop} {τ σ : AH} (h : QX E τ σ) (hE : ∀ a k, E a k → a = 5 ∨ a = 34 ∨ a = 7 ∨ a = 8 ∨ a = 37 ∨ a = 38) (h8 : ∀ k, k < 100 → zI τ 5 k = zI τ 34 k ∧ bt (zI τ 34 k) 0 9999) (h9 : ∀ k, k < 10 → zI τ 7 k = zI τ 37 k ∧ zI τ 8 k = zI τ 38 k ∧ bt (zI τ 37 k) 0 10000 ∧ bt (zI τ 38 k) 0 10000) (hT : RT σ) : RT τ := by
  obtain ⟨nf, t1, t2, t3, t4, t5, t6, t7, t8, t9, t10, t11, t12⟩ := hT
  have e : ∀ a k, ¬ QU a k → ¬ (a = 5 ∨ a = 34 ∨ a = 7 ∨ a = 8 ∨ a = 37 ∨ a = 38) → zI τ a k = zI σ a k := fun a k q1 q2 => h.2.2.2.2.1 a k q1 (fun q => q2 (hE a k q))
  have eR := h.2.2.2.1
  have e33 : ∀ k, k = 0 ∨ k = 6 ∨ k = 14 → zI τ 33 k = zI σ 33 k := fun k hk => e 33 k (by unfold QU; omega) (by omega)
  have e3 : ∀ k, zI τ 3 k = zI σ 3 k := fun k => e 3 k (by unfold QU; omega) (by omega)
  refine ⟨nf, t1, by rw [e33 6 (by decide)]; exact t2, by rw [e3]; exact t3, by rw [e3, e33 14 (by decide)]; exact t4, by rw [e33 14 (by decide)]; exact t5, by rw [e3, e33 0 (by decide)]; exact t6, by rw [e33 0 (by decide)]; exact t7, h8, h9, fun k hk => ?_, fun k hk => by rw [e 45 k (by unfold QU; omega) (by omega)]; exact t11 k hk, fun j k hj hk q => t12 j k hj hk (by rw [eR] at q; exact q)⟩
  have hf := t10 k hk
  unfold FO at hf ⊢
  have h72 := hf.1.1
  rw [eR, h.1, h.2.1]
  have ea : ∀ j, zI τ (zR σ 6 k) j = zI σ (zR σ 6 k) j := fun j => e _ _ (by unfold QU; omega) (by omega)
  have em : ∀ a, 39 ≤ a → a ≤ 45 → zI τ a k = zI σ a k := fun a x y => e _ _ (by unfold QU; omega) (by omega)
  rw [ea, ea, ea, ea, ea, ea, ea, em 39 (by decide) (by decide), em 40 (by decide) (by decide), em 41 (by decide) (by decide), em 42 (by decide) (by decide), em 43 (by decide) (by decide), em 44 (by decide) (by decide), em 45 (by decide) (by decide)]
  exact hf

theorem R_pass {g : GP} {i : Nat} {σ : AH} {v1 : Int32} (hi : i < 512) (h : Rel i σ) : CtH g mL_pass [.ref 2, .int v1] σ (RQ [-1000002, -1000003] (fun k τ => Gh (S12_pass v1) τ (RE i k))) := by
  have hr := h
  obtain ⟨h0, hS, hT, hJ, hP, hK, hB, hC⟩ := h
  obtain ⟨nf, t1, t2, t3, t4, t5, e6, t7, -⟩ := id hT
  have m1 : ¬ (isWi v1 1 100) → Gh (S12_pass v1) σ (RE i 1) := fun c1 => s_X12_pass hS  (fun _ => RE_no hi hr (Q4_refl σ) (by decide)) (fun q _ => absurd q c1) (fun q _ => absurd q c1)
  have m2 : (isWi v1 1 100) → ¬ (¬ 999 < zI σ 33 0 + v1) → Gh (S12_pass v1) σ (RE i 2) := fun c1 c2 => s_X12_pass hS  (fun q => absurd c1 q) (fun _ _ => RE_no hi hr (Q4_refl σ) (by decide)) (fun _ q => absurd q c2)
  refine w_L_pass (Q := QI (fun k τ => Gh (S12_pass v1) τ (RE i k))) (X := X2 IAE ISE (fun k τ => Gh (S12_pass v1) τ (RE i k))) hS (CtX_of (by decide +kernel) rfl rfl (b_X11_pass_0 hS (fun c c2 => ?_) (fun c c2 => Or.inr ⟨rfl, hS, m2 c (fun q => c2 (by rw [e6]; exact Int32.not_lt.mp q))⟩) (fun c => Or.inl ⟨rfl, hS, m1 c⟩))) QI_q X2_q
  rw [e6] at c2 ⊢
  have hq : QX (fun a k => (a = 33 ∧ k = 0) ∨ (a = 3 ∧ k = 6)) (uI (uI (uJ (uI σ 3 6 (zI σ 33 0 + v1)) 72 0 (Int32.toInt64 (zI σ 33 0 + v1))) 33 49 0) 33 0 (zI σ 33 0 + v1)) σ := QX_uI (QX_49 (QX_72 (QX_uI QX_refl (by right; simp)))) (by right; simp)
  have hb := bt_wi c
  have hs := add_toInt (m := 999) (n := 100) t7 ⟨by have := hb.1; change (1 : Int) ≤ _ at this; omega, hb.2⟩ (by decide)
  have c2' := Int32.le_iff_toInt_le.mp c2
  change _ ≤ (999 : Int) at c2'
  have ed : ∀ t : Int32, zI (uI (uI (uJ (uI σ 3 6 t) 72 0 (Int32.toInt64 t)) 33 49 0) 33 0 t) 3 6 = t := fun t => by rw [zI_uI, if_neg (by decide), zI_uI, if_neg (by decide), zI_uJ, zI_uI, if_pos ⟨rfl, rfl⟩]
  have ed2 : ∀ t : Int32, zI (uI (uI (uJ (uI σ 3 6 t) 72 0 (Int32.toInt64 t)) 33 49 0) 33 0 t) 33 0 = t := fun t => by rw [zI_uI, if_pos ⟨rfl, rfl⟩]
  have e0 : zI (uJ (uI σ 3 6 (zI σ 33 0 + v1)) 72 0 (Int32.toInt64 (zI σ 33 0 + v1))) 33 0 = zI σ 33 0 := by rw [zI_uJ, zI_uI, if_neg (by decide)]
  refine ⟨_, rfl, hS, s_X12_pass (σ := uJ (uI σ 3 6 (zI σ 33 0 + v1)) 72 0 (Int32.toInt64 (zI σ 33 0 + v1))) hS (fun q => absurd c q) (fun _ q => absurd (by rw [e0]; exact Int32.not_lt.mpr c2) q) (fun _ _ => ?_)⟩
  rw [e0]
  refine ⟨by rw [zI_uI, if_neg (by decide), zI_uI, if_pos ⟨rfl, rfl⟩], ⟨hi, QX_Sh hq hS, RT_sc hq (fun a k he => by (try dsimp only at he); omega) ?_ ?_ ?_ ?_ hT, QX_RJ hq (fun a k hf he => by (try dsimp only at he); (try unfold FT at hf); (try unfold FK at hf); (try unfold FB at hf); omega) hJ, QX_RP hq (fun a k hf he => by (try dsimp only at he); (try unfold FT at hf); (try unfold FK at hf); (try unfold FB at hf); omega) hP, QX_RK hq (fun a k hf he => by (try dsimp only at he); (try unfold FT at hf); (try unfold FK at hf); (try unfold FB at hf); omega) hS hK, QX_RB hq (fun a k hf he => by (try dsimp only at he); (try unfold FT at hf); (try unfold FK at hf); (try unfold FB at hf); omega) hS hB, QX_RC hq (fun a k hf he => by (try dsimp only at he); (try unfold FT at hf); (try unfold FK at hf); (try unfold FB at hf); omega) hK hC⟩, _, rfl, fun _ => ?_⟩
  · rw [hq.2.2.2.2.1 3 5 (by unfold QU; omega) (by simp), hq.2.2.2.2.1 33 14 (by unfold QU; omega) (by simp)]; exact t4
  · rw [hq.2.2.2.2.1 33 14 (by unfold QU; omega) (by simp)]; exact t5
  · rw [ed, ed2]
  · rw [ed2]
    have h1 := t7.1; have h2 := hb.1
    change (1 : Int) ≤ _ at h2
    exact ⟨by rw [hs]; omega, c2'⟩
  · show zJ (uJ (uI σ 3 6 (zI σ 33 0 + v1)) 72 0 (Int32.toInt64 (zI σ 33 0 + v1))) 72 0 = _
    rw [zJ_uJ, if_pos ⟨rfl, rfl⟩]
theorem Rel_miles {i : Nat} {σ : AH} {a b : Nat} {x : Int32} {y : Int64} (hi : i < 512) (h : Rel i σ) (hb : bt x 1 9999) :
    zI (uI (uI (uI (uJ (uI (uI σ 5 a x) 5 b x) 72 0 y) 33 49 0) 34 a x) 34 b x) 33 49 = 0 ∧ Rel (i + 1) (uI (uI (uI (uJ (uI (uI σ 5 a x) 5 b x) 72 0 y) 33 49 0) 34 a x) 34 b x) ∧ zJ (uI (uI (uI (uJ (uI (uI σ 5 a x) 5 b x) 72 0 y) 33 49 0) 34 a x) 34 b x) 72 0 = y ∧ zI (uJ (uI (uI σ 5 a x) 5 b x) 72 0 y) 34 a = zI σ 34 a := by
  obtain ⟨h0, hS, hT, hJ, hP, hK, hB, hC⟩ := h
  have hq : QX (fun a k => a = 5 ∨ a = 34) (uI (uI (uI (uJ (uI (uI σ 5 a x) 5 b x) 72 0 y) 33 49 0) 34 a x) 34 b x) σ := QX_uI (QX_uI (QX_49 (QX_72 (QX_uI (QX_uI QX_refl (by right; simp)) (by right; simp)))) (by right; simp)) (by right; simp)
  have b1 := hb.1
  have h34 : ∀ k, zI (uI (uI (uI (uJ (uI (uI σ 5 a x) 5 b x) 72 0 y) 33 49 0) 34 a x) 34 b x) 34 k = if k = b then x else if k = a then x else zI σ 34 k := fun k => by
    rw [zI_uI]
    by_cases h1 : k = b
    · rw [if_pos ⟨rfl, h1⟩, if_pos h1]
    · rw [if_neg (fun q => h1 q.2), if_neg h1, zI_uI]
      by_cases h2 : k = a
      · rw [if_pos ⟨rfl, h2⟩, if_pos h2]
      · rw [if_neg (fun q => h2 q.2), if_neg h2, zI_uI, if_neg (by omega), zI_uJ, zI_uI, if_neg (by omega), zI_uI, if_neg (by omega)]
  have h5 : ∀ k, zI (uI (uI (uI (uJ (uI (uI σ 5 a x) 5 b x) 72 0 y) 33 49 0) 34 a x) 34 b x) 5 k = if k = b then x else if k = a then x else zI σ 5 k := fun k => by
    rw [zI_uI, if_neg (by omega), zI_uI, if_neg (by omega), zI_uI, if_neg (by omega), zI_uJ, zI_uI]
    by_cases h1 : k = b
    · rw [if_pos ⟨rfl, h1⟩, if_pos h1]
    · rw [if_neg (fun q => h1 q.2), if_neg h1, zI_uI]
      by_cases h2 : k = a
      · rw [if_pos ⟨rfl, h2⟩, if_pos h2]
      · rw [if_neg (fun q => h2 q.2), if_neg h2]
  obtain ⟨nf, t1, t2, t3, t4, t5, e6, t7, t8, t9, -⟩ := id hT
  refine ⟨by rw [zI_uI, if_neg (by omega), zI_uI, if_neg (by omega), zI_uI, if_pos ⟨rfl, rfl⟩], ⟨hi, QX_Sh hq hS, RT_ar hq (fun a k he => by (try dsimp only at he); omega) ?_ ?_ hT, RJ_ag ?_ ?_ ?_ ?_ ?_ hJ, QX_RP hq (fun a k hf he => by (try dsimp only at he); (try unfold FT at hf); (try unfold FK at hf); (try unfold FB at hf); omega) hP, QX_RK hq (fun a k hf he => by (try dsimp only at he); (try unfold FT at hf); (try unfold FK at hf); (try unfold FB at hf); omega) hS hK, QX_RB hq (fun a k hf he => by (try dsimp only at he); (try unfold FT at hf); (try unfold FK at hf); (try unfold FB at hf); omega) hS hB, QX_RC hq (fun a k hf he => by (try dsimp only at he); (try unfold FT at hf); (try unfold FK at hf); (try unfold FB at hf); omega) hK hC⟩, ?_, ?_⟩
  · intro k hk
    rw [h34, h5]
    split
    · exact ⟨rfl, by omega, hb.2⟩
    · split
      · exact ⟨rfl, by omega, hb.2⟩
      · exact t8 k hk
  · intro k hk
    rw [hq.2.2.2.2.1 7 k (by unfold QU; omega) (by simp), hq.2.2.2.2.1 8 k (by unfold QU; omega) (by simp), hq.2.2.2.2.1 37 k (by unfold QU; omega) (by simp), hq.2.2.2.2.1 38 k (by unfold QU; omega) (by simp)]
    exact t9 k hk
  · exact hq.2.2.2.2.1 33 16 (by unfold QU; omega) (by simp)
  · exact hq.2.2.2.2.1 13 1 (by unfold QU; omega) (by simp)
  · exact fun a k x y => hq.2.2.2.2.1 a k (by unfold QU; omega) (by (try dsimp only); omega)
  · exact fun a k x y => hq.2.2.2.2.1 a k (by unfold QU; omega) (by (try dsimp only); omega)
  · intro k hk
    rw [h34]
    split
    · exact b1
    · split
      · exact b1
      · exact hk
  · rw [zJ_uI, zJ_uI, zJ_uI, zJ_uJ, if_pos ⟨rfl, rfl⟩]
  · rw [zI_uJ, zI_uI, if_neg (by omega), zI_uI, if_neg (by omega)]
theorem Rel_weight {i : Nat} {σ : AH} {a b : Nat} {x : Int32} {y : Int64} (hi : i < 512) (h : Rel i σ) (hb : bt x 0 9999) :
    zI (uI (uI (uI (uJ (uI (uI σ 11 a x) 11 b x) 72 0 y) 33 49 0) 35 a x) 35 b x) 33 49 = 0 ∧ Rel (i + 1) (uI (uI (uI (uJ (uI (uI σ 11 a x) 11 b x) 72 0 y) 33 49 0) 35 a x) 35 b x) ∧ zJ (uI (uI (uI (uJ (uI (uI σ 11 a x) 11 b x) 72 0 y) 33 49 0) 35 a x) 35 b x) 72 0 = y ∧ zI (uJ (uI (uI σ 11 a x) 11 b x) 72 0 y) 35 a = zI σ 35 a := by
  obtain ⟨h0, hS, hT, hJ, hP, hK, hB, hC⟩ := h
  have hq : QX (fun a k => a = 11 ∨ a = 35) (uI (uI (uI (uJ (uI (uI σ 11 a x) 11 b x) 72 0 y) 33 49 0) 35 a x) 35 b x) σ := QX_uI (QX_uI (QX_49 (QX_72 (QX_uI (QX_uI QX_refl (by right; simp)) (by right; simp)))) (by right; simp)) (by right; simp)
  have h35 : ∀ k, zI (uI (uI (uI (uJ (uI (uI σ 11 a x) 11 b x) 72 0 y) 33 49 0) 35 a x) 35 b x) 35 k = if k = b then x else if k = a then x else zI σ 35 k := fun k => by
    rw [zI_uI]
    by_cases h1 : k = b
    · rw [if_pos ⟨rfl, h1⟩, if_pos h1]
    · rw [if_neg (fun q => h1 q.2), if_neg h1, zI_uI]
      by_cases h2 : k = a
      · rw [if_pos ⟨rfl, h2⟩, if_pos h2]
      · rw [if_neg (fun q => h2 q.2), if_neg h2, zI_uI, if_neg (by omega), zI_uJ, zI_uI, if_neg (by omega), zI_uI, if_neg (by omega)]
  have h11 : ∀ k, zI (uI (uI (uI (uJ (uI (uI σ 11 a x) 11 b x) 72 0 y) 33 49 0) 35 a x) 35 b x) 11 k = if k = b then x else if k = a then x else zI σ 11 k := fun k => by
    rw [zI_uI, if_neg (by omega), zI_uI, if_neg (by omega), zI_uI, if_neg (by omega), zI_uJ, zI_uI]
    by_cases h1 : k = b
    · rw [if_pos ⟨rfl, h1⟩, if_pos h1]
    · rw [if_neg (fun q => h1 q.2), if_neg h1, zI_uI]
      by_cases h2 : k = a
      · rw [if_pos ⟨rfl, h2⟩, if_pos h2]
      · rw [if_neg (fun q => h2 q.2), if_neg h2]
  refine ⟨by rw [zI_uI, if_neg (by omega), zI_uI, if_neg (by omega), zI_uI, if_pos ⟨rfl, rfl⟩], ⟨hi, QX_Sh hq hS, QX_RT hq (fun a k hf he => by (try dsimp only at he); (try unfold FT at hf); (try unfold FK at hf); (try unfold FB at hf); omega) hS hT, QX_RJ hq (fun a k hf he => by (try dsimp only at he); (try unfold FT at hf); (try unfold FK at hf); (try unfold FB at hf); omega) hJ, ⟨?_, ?_⟩, QX_RK hq (fun a k hf he => by (try dsimp only at he); (try unfold FT at hf); (try unfold FK at hf); (try unfold FB at hf); omega) hS hK, QX_RB hq (fun a k hf he => by (try dsimp only at he); (try unfold FT at hf); (try unfold FK at hf); (try unfold FB at hf); omega) hS hB, QX_RC hq (fun a k hf he => by (try dsimp only at he); (try unfold FT at hf); (try unfold FK at hf); (try unfold FB at hf); omega) hK hC⟩, ?_, ?_⟩
  · intro k hk
    rw [h35, h11]
    split
    · exact ⟨rfl, hb⟩
    · split
      · exact ⟨rfl, hb⟩
      · exact hP.1 k hk
  · intro k hk
    rw [hq.2.2.2.2.1 12 k (by unfold QU; omega) (by simp), hq.2.2.2.2.1 36 k (by unfold QU; omega) (by simp)]
    exact hP.2 k hk
  · rw [zJ_uI, zJ_uI, zJ_uI, zJ_uJ, if_pos ⟨rfl, rfl⟩]
  · rw [zI_uJ, zI_uI, if_neg (by omega), zI_uI, if_neg (by omega)]
theorem Rel_tax {i : Nat} {σ : AH} {a : Nat} {x y : Int32} (hi : i < 512) (h : Rel i σ) (hx : bt x 0 10000) (hy : bt y 0 10000) :
    zI (uI (uI (uI (uI (uI σ 7 a x) 8 a y) 33 49 0) 37 a x) 38 a y) 33 49 = 0 ∧ Rel (i + 1) (uI (uI (uI (uI (uI σ 7 a x) 8 a y) 33 49 0) 37 a x) 38 a y) := by
  obtain ⟨h0, hS, hT, hJ, hP, hK, hB, hC⟩ := h
  have hq : QX (fun a k => a = 7 ∨ a = 8 ∨ a = 37 ∨ a = 38) (uI (uI (uI (uI (uI σ 7 a x) 8 a y) 33 49 0) 37 a x) 38 a y) σ := QX_uI (QX_uI (QX_49 (QX_uI (QX_uI QX_refl (by right; simp)) (by right; simp))) (by right; simp)) (by right; simp)
  have r7 : ∀ k, zI (uI (uI (uI (uI (uI σ 7 a x) 8 a y) 33 49 0) 37 a x) 38 a y) 7 k = if k = a then x else zI σ 7 k := fun k => by
    rw [zI_uI, if_neg (by omega), zI_uI, if_neg (by omega), zI_uI, if_neg (by omega), zI_uI, if_neg (by omega), zI_uI]
    by_cases h1 : k = a
    · rw [if_pos ⟨rfl, h1⟩, if_pos h1]
    · rw [if_neg (fun q => h1 q.2), if_neg h1]
  have r8 : ∀ k, zI (uI (uI (uI (uI (uI σ 7 a x) 8 a y) 33 49 0) 37 a x) 38 a y) 8 k = if k = a then y else zI σ 8 k := fun k => by
    rw [zI_uI, if_neg (by omega), zI_uI, if_neg (by omega), zI_uI, if_neg (by omega), zI_uI]
    by_cases h1 : k = a
    · rw [if_pos ⟨rfl, h1⟩, if_pos h1]
    · rw [if_neg (fun q => h1 q.2), if_neg h1, zI_uI, if_neg (by omega)]
  have r37 : ∀ k, zI (uI (uI (uI (uI (uI σ 7 a x) 8 a y) 33 49 0) 37 a x) 38 a y) 37 k = if k = a then x else zI σ 37 k := fun k => by
    rw [zI_uI, if_neg (by omega), zI_uI]
    by_cases h1 : k = a
    · rw [if_pos ⟨rfl, h1⟩, if_pos h1]
    · rw [if_neg (fun q => h1 q.2), if_neg h1, zI_uI, if_neg (by omega), zI_uI, if_neg (by omega), zI_uI, if_neg (by omega)]
  have r38 : ∀ k, zI (uI (uI (uI (uI (uI σ 7 a x) 8 a y) 33 49 0) 37 a x) 38 a y) 38 k = if k = a then y else zI σ 38 k := fun k => by
    rw [zI_uI]
    by_cases h1 : k = a
    · rw [if_pos ⟨rfl, h1⟩, if_pos h1]
    · rw [if_neg (fun q => h1 q.2), if_neg h1, zI_uI, if_neg (by omega), zI_uI, if_neg (by omega), zI_uI, if_neg (by omega), zI_uI, if_neg (by omega)]
  obtain ⟨nf, t1, t2, t3, t4, t5, e6, t7, t8, t9, -⟩ := id hT
  refine ⟨by rw [zI_uI, if_neg (by omega), zI_uI, if_neg (by omega), zI_uI, if_pos ⟨rfl, rfl⟩], ⟨hi, QX_Sh hq hS, RT_ar hq (fun a k he => by (try dsimp only at he); omega) ?_ ?_ hT, QX_RJ hq (fun a k hf he => by (try dsimp only at he); (try unfold FT at hf); (try unfold FK at hf); (try unfold FB at hf); omega) hJ, QX_RP hq (fun a k hf he => by (try dsimp only at he); (try unfold FT at hf); (try unfold FK at hf); (try unfold FB at hf); omega) hP, QX_RK hq (fun a k hf he => by (try dsimp only at he); (try unfold FT at hf); (try unfold FK at hf); (try unfold FB at hf); omega) hS hK, QX_RB hq (fun a k hf he => by (try dsimp only at he); (try unfold FT at hf); (try unfold FK at hf); (try unfold FB at hf); omega) hS hB, QX_RC hq (fun a k hf he => by (try dsimp only at he); (try unfold FT at hf); (try unfold FK at hf); (try unfold FB at hf); omega) hK hC⟩⟩
  · intro k hk
    rw [hq.2.2.2.2.1 5 k (by unfold QU; omega) (by simp), hq.2.2.2.2.1 34 k (by unfold QU; omega) (by simp)]
    exact t8 k hk
  · intro k hk
    rw [r7, r8, r37, r38]
    split
    · exact ⟨rfl, rfl, hx, hy⟩
    · exact t9 k hk
theorem Rel_proviso {i : Nat} {σ : AH} {a : Nat} {x : Int32} {y : Int64} (hi : i < 512) (h : Rel i σ) (hx : bt (x + 1) 0 1000001) :
    zI (uI (uI (uJ (uI σ 12 a x) 72 0 y) 33 49 0) 36 a (x + 1)) 33 49 = 0 ∧ Rel (i + 1) (uI (uI (uJ (uI σ 12 a x) 72 0 y) 33 49 0) 36 a (x + 1)) ∧ zJ (uI (uI (uJ (uI σ 12 a x) 72 0 y) 33 49 0) 36 a (x + 1)) 72 0 = y ∧ zI (uJ (uI σ 12 a x) 72 0 y) 36 a = zI σ 36 a := by
  obtain ⟨h0, hS, hT, hJ, hP, hK, hB, hC⟩ := h
  have hq : QX (fun a k => a = 12 ∨ a = 36) (uI (uI (uJ (uI σ 12 a x) 72 0 y) 33 49 0) 36 a (x + 1)) σ := QX_uI (QX_49 (QX_72 (QX_uI QX_refl (by right; simp)))) (by right; simp)
  have r12 : ∀ k, zI (uI (uI (uJ (uI σ 12 a x) 72 0 y) 33 49 0) 36 a (x + 1)) 12 k = if k = a then x else zI σ 12 k := fun k => by
    rw [zI_uI, if_neg (by omega), zI_uI, if_neg (by omega), zI_uJ, zI_uI]
    by_cases h1 : k = a
    · rw [if_pos ⟨rfl, h1⟩, if_pos h1]
    · rw [if_neg (fun q => h1 q.2), if_neg h1]
  have r36 : ∀ k, zI (uI (uI (uJ (uI σ 12 a x) 72 0 y) 33 49 0) 36 a (x + 1)) 36 k = if k = a then x + 1 else zI σ 36 k := fun k => by
    rw [zI_uI]
    by_cases h1 : k = a
    · rw [if_pos ⟨rfl, h1⟩, if_pos h1]
    · rw [if_neg (fun q => h1 q.2), if_neg h1, zI_uI, if_neg (by omega), zI_uJ, zI_uI, if_neg (by omega)]
  refine ⟨by rw [zI_uI, if_neg (by omega), zI_uI, if_pos ⟨rfl, rfl⟩], ⟨hi, QX_Sh hq hS, QX_RT hq (fun a k hf he => by (try dsimp only at he); (try unfold FT at hf); (try unfold FK at hf); (try unfold FB at hf); omega) hS hT, QX_RJ hq (fun a k hf he => by (try dsimp only at he); (try unfold FT at hf); (try unfold FK at hf); (try unfold FB at hf); omega) hJ, ⟨?_, ?_⟩, QX_RK hq (fun a k hf he => by (try dsimp only at he); (try unfold FT at hf); (try unfold FK at hf); (try unfold FB at hf); omega) hS hK, QX_RB hq (fun a k hf he => by (try dsimp only at he); (try unfold FT at hf); (try unfold FK at hf); (try unfold FB at hf); omega) hS hB, QX_RC hq (fun a k hf he => by (try dsimp only at he); (try unfold FT at hf); (try unfold FK at hf); (try unfold FB at hf); omega) hK hC⟩, ?_, ?_⟩
  · intro k hk
    rw [hq.2.2.2.2.1 11 k (by unfold QU; omega) (by simp), hq.2.2.2.2.1 35 k (by unfold QU; omega) (by simp)]
    exact hP.1 k hk
  · intro k hk
    rw [r12, r36]
    split
    · exact ⟨by simp, hx⟩
    · exact hP.2 k hk
  · rw [zJ_uI, zJ_uI, zJ_uJ, if_pos ⟨rfl, rfl⟩]
  · rw [zI_uJ, zI_uI, if_neg (by omega)]

theorem R_miles {g : GP} {i : Nat} {σ : AH} {v1 v2 v3 : Int32} (hi : i < 512) (h : Rel i σ) : CtH g mL_miles [.ref 2, .int v1, .int v2, .int v3] σ (RQ [-1000001, -1000002] (fun k τ => Gh (S12_miles v1 v2 v3) τ (RE i k))) := by
  have hr := h
  obtain ⟨h0, hS, hT, hJ, hP, hK, hB, hC⟩ := h
  obtain ⟨nf, t1, t2, t3, t4, t5, e6, t7, t8, t9, -⟩ := id hT
  have m1 : ¬ (isPl v1 ∧ isPl v2) → Gh (S12_miles v1 v2 v3) σ (RE i 1) := fun c1 => s_X12_miles hS  (fun _ => RE_no hi hr (Q4_refl σ) (by decide)) (fun q _ => absurd q c1) (fun q _ => absurd q c1)
  have m2 : (isPl v1 ∧ isPl v2) → ¬ (¬ v1 = v2 ∧ isWi v3 1 9999) → Gh (S12_miles v1 v2 v3) σ (RE i 2) := fun c1 c2 => s_X12_miles hS  (fun q => absurd c1 q) (fun _ _ => RE_no hi hr (Q4_refl σ) (by decide)) (fun _ q => absurd q c2)
  refine w_L_miles (Q := QI (fun k τ => Gh (S12_miles v1 v2 v3) τ (RE i k))) (X := X2 IOO IAE (fun k τ => Gh (S12_miles v1 v2 v3) τ (RE i k))) hS (CtX_of (by decide +kernel) rfl rfl (b_X11_miles_0 hS (fun c => Or.inl ⟨rfl, hS, m1 (fun q => c q.1)⟩) (fun c1 c2 c3 => Or.inr ⟨rfl, hS, m2 ⟨c1, c2⟩ (fun q => q.1 c3)⟩) (fun _ _ _ _ => Or.inl rfl) (fun c _ _ _ => c) (fun _ c _ _ => c) (fun c1 c2 c3 c4 => ?_) (fun c1 c2 c3 c4 => Or.inr ⟨rfl, hS, m2 ⟨c1, c2⟩ (fun q => c4 q.2)⟩) (fun _ c => Or.inl ⟨rfl, hS, m1 (fun q => c q.2)⟩))) QI_q X2_q
  have hlt := (t8 _ (p2_lt c1 c2)).1
  have L := Rel_miles (a := p2 v1 v2) (b := p2 v2 v1) (x := v3) (y := Int32.toInt64 (zI σ 5 (p2 v1 v2))) hi hr (bt_wn (l := 1) (m := 9999) (by decide) (by decide) c4)
  rw [show (4 : Nat) + 1 = 5 from rfl]
  exact ⟨_, rfl, Sh_uI (Sh_uI hS), s_X12_miles (Sh_uJ (Sh_uI (Sh_uI hS))) (fun q => absurd ⟨c1, c2⟩ q) (fun _ q => absurd ⟨c3, c4⟩ q) (fun _ _ => ⟨L.1, L.2.1, _, rfl, fun _ => L.2.2.1.trans (by rw [L.2.2.2, hlt])⟩)⟩
theorem R_weight {g : GP} {i : Nat} {σ : AH} {v1 v2 v3 : Int32} (hi : i < 512) (h : Rel i σ) : CtH g mL_weight [.ref 2, .int v1, .int v2, .int v3] σ (RQ [-1000001, -1000002] (fun k τ => Gh (S12_weight v1 v2 v3) τ (RE i k))) := by
  have hr := h
  obtain ⟨h0, hS, hT, hJ, hP, hK, hB, hC⟩ := h
  have m1 : ¬ (isPl v1 ∧ isPl v2) → Gh (S12_weight v1 v2 v3) σ (RE i 1) := fun c1 => s_X12_weight hS  (fun _ => RE_no hi hr (Q4_refl σ) (by decide)) (fun q _ => absurd q c1) (fun q _ => absurd q c1)
  have m2 : (isPl v1 ∧ isPl v2) → ¬ (¬ v1 = v2 ∧ isWi v3 0 9999) → Gh (S12_weight v1 v2 v3) σ (RE i 2) := fun c1 c2 => s_X12_weight hS  (fun q => absurd c1 q) (fun _ _ => RE_no hi hr (Q4_refl σ) (by decide)) (fun _ q => absurd q c2)
  refine w_L_weight (Q := QI (fun k τ => Gh (S12_weight v1 v2 v3) τ (RE i k))) (X := X2 IOO IAE (fun k τ => Gh (S12_weight v1 v2 v3) τ (RE i k))) hS (CtX_of (by decide +kernel) rfl rfl (b_X11_weight_0 hS (fun c => Or.inl ⟨rfl, hS, m1 (fun q => c q.1)⟩) (fun c1 c2 c3 => Or.inr ⟨rfl, hS, m2 ⟨c1, c2⟩ (fun q => q.1 c3)⟩) (fun _ _ _ _ => Or.inr rfl) (fun c _ _ _ => c) (fun _ c _ _ => c) (fun c1 c2 c3 c4 => ?_) (fun c1 c2 c3 c4 => Or.inr ⟨rfl, hS, m2 ⟨c1, c2⟩ (fun q => c4 q.2)⟩) (fun _ c => Or.inl ⟨rfl, hS, m1 (fun q => c q.2)⟩))) QI_q X2_q
  have hlt := (hP.1 _ (p2_lt c1 c2)).1
  have L := Rel_weight (a := p2 v1 v2) (b := p2 v2 v1) (x := v3) (y := Int32.toInt64 (zI σ 11 (p2 v1 v2))) hi hr (bt_wn (l := 0) (m := 9999) (by decide) (by decide) c4)
  rw [show (10 : Nat) + 1 = 11 from rfl]
  exact ⟨_, rfl, Sh_uI (Sh_uI hS), s_X12_weight (Sh_uJ (Sh_uI (Sh_uI hS))) (fun q => absurd ⟨c1, c2⟩ q) (fun _ q => absurd ⟨c3, c4⟩ q) (fun _ _ => ⟨L.1, L.2.1, _, rfl, fun _ => L.2.2.1.trans (by rw [L.2.2.2, hlt])⟩)⟩
theorem R_tax {g : GP} {i : Nat} {σ : AH} {v1 v2 v3 : Int32} (hi : i < 512) (h : Rel i σ) : CtH g mL_tax [.ref 2, .int v1, .int v2, .int v3] σ (RQv [-1000001, -1000002] (fun k τ => Gh (S12_tax v1 v2 v3) τ (REv i k))) := by
  have hr := h
  obtain ⟨h0, hS, hT, hJ, hP, hK, hB, hC⟩ := h
  have m1 : ¬ (isPl v1) → Gh (S12_tax v1 v2 v3) σ (REv i 1) := fun c1 => s_X12_tax hS  (fun _ => REv_no hi hr (Q4_refl σ)) (fun q _ => absurd q c1) (fun q _ => absurd q c1)
  have m2 : (isPl v1) → ¬ (isWi v2 0 10000 ∧ isWi v3 0 10000) → Gh (S12_tax v1 v2 v3) σ (REv i 2) := fun c1 c2 => s_X12_tax hS  (fun q => absurd c1 q) (fun _ _ => REv_no hi hr (Q4_refl σ)) (fun _ q => absurd q c2)
  refine w_L_tax (Q := QV (fun k τ => Gh (S12_tax v1 v2 v3) τ (REv i k))) (X := X2 IOO IAE (fun k τ => Gh (S12_tax v1 v2 v3) τ (REv i k))) hS (CtX_of (by decide +kernel) rfl rfl (b_X11_tax_0 hS (fun c1 c2 => Or.inr ⟨rfl, hS, m2 c1 (fun q => c2 q.1)⟩) (fun c _ _ => c) (fun c1 c2 c3 => ?_) (fun c1 _ c3 => Or.inr ⟨rfl, hS, m2 c1 (fun q => c3 q.2)⟩) (fun c => Or.inl ⟨rfl, hS, m1 c⟩))) QV_q X2_qv
  have L := Rel_tax (a := ix v1) (x := v2) (y := v3) hi hr (bt_wn (l := 0) (m := 10000) (by decide) (by decide) c2) (bt_wn (l := 0) (m := 10000) (by decide) (by decide) c3)
  exact ⟨Sh_uI (Sh_uI hS), s_X12_tax (Sh_uI (Sh_uI hS)) (fun q => absurd c1 q) (fun _ q => absurd ⟨c2, c3⟩ q) (fun _ _ => ⟨L.1, L.2, rfl⟩), rfl⟩
theorem R_proviso {g : GP} {i : Nat} {σ : AH} {v1 v2 v3 v4 : Int32} (hi : i < 512) (h : Rel i σ) : CtH g mL_proviso [.ref 2, .int v1, .int v2, .int v3, .int v4] σ (RQ [-1000001, -1000002] (fun k τ => Gh (S12_proviso v1 v2 v3 v4) τ (RE i k))) := by
  have hr := h
  obtain ⟨h0, hS, hT, hJ, hP, hK, hB, hC⟩ := h
  have m1 : ¬ (isCa v1 ∧ isPl v2 ∧ isPl v3) → Gh (S12_proviso v1 v2 v3 v4) σ (RE i 1) := fun c1 => s_X12_proviso hS  (fun _ => RE_no hi hr (Q4_refl σ) (by decide)) (fun q _ => absurd q c1) (fun q _ => absurd q c1)
  have m2 : (isCa v1 ∧ isPl v2 ∧ isPl v3) → ¬ (¬ v2 = v3 ∧ isWi v4 (-1) 1000000) → Gh (S12_proviso v1 v2 v3 v4) σ (RE i 2) := fun c1 c2 => s_X12_proviso hS  (fun q => absurd c1 q) (fun _ _ => RE_no hi hr (Q4_refl σ) (by decide)) (fun _ q => absurd q c2)
  refine w_L_proviso (Q := QI (fun k τ => Gh (S12_proviso v1 v2 v3 v4) τ (RE i k))) (X := X2 IOO IAE (fun k τ => Gh (S12_proviso v1 v2 v3 v4) τ (RE i k))) hS (CtX_of (by decide +kernel) rfl rfl (b_X11_proviso_0 hS (fun c => Or.inl ⟨rfl, hS, m1 (fun q => c q.1)⟩) (fun _ c => Or.inl ⟨rfl, hS, m1 (fun q => c q.2.1)⟩) (fun c1 c2 c3 c4 => Or.inr ⟨rfl, hS, m2 ⟨c1, c2, c3⟩ (fun q => q.1 c4)⟩) (fun c _ _ _ _ => c) (fun _ c _ _ _ => c) (fun _ _ c _ _ => c) (fun c1 c2 c3 c4 c5 => ?_) (fun c _ _ _ _ _ => c) (fun _ c _ _ _ _ => c) (fun _ _ c _ _ _ => c) (fun c1 c2 c3 c4 c5 c6 => ?_) (fun c1 c2 c3 c4 c5 c6 => Or.inr ⟨rfl, hS, m2 ⟨c1, c2, c3⟩ (fun q => c6 (wi_m1 c5 q.2))⟩) (fun _ _ c => Or.inl ⟨rfl, hS, m1 (fun q => c q.2.2)⟩))) QI_q X2_q
  · have hlt := (hP.2 _ (p3_lt c1 c2 c3)).1
    have L := Rel_proviso (a := p3 v1 v2 v3) (x := v4) (y := Int32.toInt64 (zI σ 12 (p3 v1 v2 v3))) hi hr (by rw [c5]; exact ⟨by decide, by decide⟩)
    exact ⟨_, rfl, Sh_uI hS, s_X12_proviso (Sh_uJ (Sh_uI hS)) (fun q => absurd ⟨c1, c2, c3⟩ q) (fun _ q => absurd ⟨c4, (by rw [c5]; exact ⟨by decide, by decide⟩)⟩ q) (fun _ _ => ⟨L.1, L.2.1, _, rfl, fun _ => L.2.2.1.trans (by rw [L.2.2.2, hlt])⟩)⟩
  · have hlt := (hP.2 _ (p3_lt c1 c2 c3)).1
    have L := Rel_proviso (a := p3 v1 v2 v3) (x := v4) (y := Int32.toInt64 (zI σ 12 (p3 v1 v2 v3))) hi hr (bt_p1 c6)
    exact ⟨_, rfl, Sh_uI hS, s_X12_proviso (Sh_uJ (Sh_uI hS)) (fun q => absurd ⟨c1, c2, c3⟩ q) (fun _ q => absurd ⟨c4, (wi_0m c6)⟩ q) (fun _ _ => ⟨L.1, L.2.1, _, rfl, fun _ => L.2.2.1.trans (by rw [L.2.2.2, hlt])⟩)⟩
