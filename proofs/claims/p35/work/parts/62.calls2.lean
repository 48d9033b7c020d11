/-! ===== calls: what is asked ===== -/
set_option maxRecDepth 100000 in
set_option maxHeartbeats 4000000 in
theorem b_X11_part_0 {g : GP} {CX : State → Array Value → Prop} {Q : AH → Option Value → Prop} {X : AH → String → Prop} {v1 : Int32} {v2 : Int32} {σ : AH}
    (hS : Sh σ)
    (k1 : (¬ (¬ (zI σ 13 1) ≤ 0 ∧ isWi v1 0 (zI σ 13 1))) → X σ "java/lang/IndexOutOfBoundsException")
    (o1 : (¬ (zI σ 13 1) ≤ 0 ∧ isWi v1 0 (zI σ 13 1)) → (¬ (zI σ 13 1) ≤ 0 ∧ isWi v2 0 (zI σ 13 1)) → (v1 < v2) → RT σ)
    (o2 : (¬ (zI σ 13 1) ≤ 0 ∧ isWi v1 0 (zI σ 13 1)) → (¬ (zI σ 13 1) ≤ 0 ∧ isWi v2 0 (zI σ 13 1)) → (v1 < v2) → RJ σ)
    (o3 : (¬ (zI σ 13 1) ≤ 0 ∧ isWi v1 0 (zI σ 13 1)) → (¬ (zI σ 13 1) ≤ 0 ∧ isWi v2 0 (zI σ 13 1)) → (v1 < v2) → inJ σ v1)
    (o4 : (¬ (zI σ 13 1) ≤ 0 ∧ isWi v1 0 (zI σ 13 1)) → (¬ (zI σ 13 1) ≤ 0 ∧ isWi v2 0 (zI σ 13 1)) → (v1 < v2) → inJ σ v2)
    (k2 : (¬ (zI σ 13 1) ≤ 0 ∧ isWi v1 0 (zI σ 13 1)) → (¬ (zI σ 13 1) ≤ 0 ∧ isWi v2 0 (zI σ 13 1)) → (v1 < v2) → Q σ (some (.int (partF σ (ix v1) (ix v2)))))
    (k3 : (¬ (zI σ 13 1) ≤ 0 ∧ isWi v1 0 (zI σ 13 1)) → (¬ (zI σ 13 1) ≤ 0 ∧ isWi v2 0 (zI σ 13 1)) → (¬ v1 < v2) → X σ "java/lang/IllegalArgumentException")
    (k4 : (¬ (zI σ 13 1) ≤ 0 ∧ isWi v1 0 (zI σ 13 1)) → (¬ (¬ (zI σ 13 1) ≤ 0 ∧ isWi v2 0 (zI σ 13 1))) → X σ "java/lang/IndexOutOfBoundsException") :
    V g mX11_part (Em g mX11_part Q X) CX 1 6 0 [(0, .ref 2), (1, .int v1), (2, .int v2)] [] σ := by
  refine V_aload_n dX11_part_0 rfl ?_
  refine V_getf (fk := 2) (Value.ref 13) ko_X11 rfl w_206 dX11_part_1 (by decide) (shk hS 2 rfl) (congrArg Value.ref (shr hS 2 2 13 (by decide))) ?_
  refine V_iload_n dX11_part_4 rfl ?_
  refine V_callV1 (as := [.int v1]) (k' := 1) (n' := 6) (s_X4_isPoint hS) mw_X4_isPoint ko_X4 rfl w_694 w_695 w_693 ar_X4_isPoint rfl ⟨rfl, rfl, rfl, rfl, rfl⟩ dX11_part_5 (by decide) (shk hS 13 rfl) ?_
  refine V_if_eq 22 dX11_part_8 rfl (fun c1 => ?_) (fun c1 => ?_)
  · replace c1 := jb_0.mp c1
    exact V_throw (k := 1) (n := 6) tw_X11_61 ws_698 dX11_part_22 dX11_part_25 dX11_part_26 dX11_part_28 dX11_part_31 rfl rfl rfl rfl rfl (k1 c1)
  · replace c1 := jb_n.mp c1
    refine V_aload_n dX11_part_11 rfl ?_
    refine V_getf (fk := 2) (Value.ref 13) ko_X11 rfl w_206 dX11_part_12 (by decide) (shk hS 2 rfl) (congrArg Value.ref (shr hS 2 2 13 (by decide))) ?_
    refine V_iload_n dX11_part_15 rfl ?_
    refine V_callV1 (as := [.int v2]) (k' := 1) (n' := 6) (s_X4_isPoint hS) mw_X4_isPoint ko_X4 rfl w_694 w_695 w_693 ar_X4_isPoint rfl ⟨rfl, rfl, rfl, rfl, rfl⟩ dX11_part_16 (by decide) (shk hS 13 rfl) ?_
    refine V_if_ne 32 dX11_part_19 rfl (fun c2 => ?_) (fun c2 => ?_)
    · replace c2 := jb_n.mp c2
      refine V_iload_n dX11_part_32 rfl ?_
      refine V_iload_n dX11_part_33 rfl ?_
      refine V_icmp_gt 47 dX11_part_34 rfl (fun c3 => ?_) (fun c3 => ?_)
      · refine V_aload_n dX11_part_47 rfl ?_
        refine V_getf (fk := 2) (Value.ref 13) ko_X11 rfl w_206 dX11_part_48 (by decide) (shk hS 2 rfl) (congrArg Value.ref (shr hS 2 2 13 (by decide))) ?_
        refine V_aload_n dX11_part_51 rfl ?_
        refine V_getf (fk := 0) (Value.ref 3) ko_X11 rfl w_204 dX11_part_52 (by decide) (shk hS 2 rfl) (congrArg Value.ref (shr hS 2 0 3 (by decide))) ?_
        refine V_iload_n dX11_part_55 rfl ?_
        refine V_iload_n dX11_part_56 rfl ?_
        refine V_callV1 (as := [.ref 3, .int v1, .int v2]) (k' := 1) (n' := 6) (s_X4_priceOfPart hS (o1 c1 c2 c3) (o2 c1 c2 c3) (o3 c1 c2 c3) (o4 c1 c2 c3)) mw_X4_priceOfPart ko_X4 rfl w_616 w_617 w_700 ar_X4_priceOfPart rfl ⟨rfl, rfl, rfl, rfl, rfl⟩ dX11_part_57 (by decide) (shk hS 13 rfl) ?_
        exact V_iret rfl dX11_part_60 (k2 c1 c2 c3)
      · exact V_throw (k := 1) (n := 6) tw_X11_72 ws_699 dX11_part_37 dX11_part_40 dX11_part_41 dX11_part_43 dX11_part_46 rfl rfl rfl rfl rfl (k3 c1 c2 c3)
    · replace c2 := jb_0.mp c2
      exact V_throw (k := 1) (n := 6) tw_X11_61 ws_698 dX11_part_22 dX11_part_25 dX11_part_26 dX11_part_28 dX11_part_31 rfl rfl rfl rfl rfl (k4 c1 c2)

set_option maxRecDepth 100000 in
set_option maxHeartbeats 4000000 in
theorem b_X11_price_0 {g : GP} {CX : State → Array Value → Prop} {Q : AH → Option Value → Prop} {X : AH → String → Prop}  {σ : AH}
    (hS : Sh σ)
    (o1 : RT σ)
    (o2 : RJ σ)
    (k1 : Q (flW σ) (some (.int (zI (flW σ) 23 3)))) :
    V g mX11_price (Em g mX11_price Q X) CX 0 0 0 [(0, .ref 2)] [] σ := by
  refine V_aload_n dX11_price_0 rfl ?_
  refine V_getf (fk := 3) (Value.ref 23) ko_X11 rfl w_207 dX11_price_1 (by decide) (shk hS 2 rfl) (congrArg Value.ref (shr hS 2 3 23 (by decide))) ?_
  refine V_aload_n dX11_price_4 rfl ?_
  refine V_getf (fk := 2) (Value.ref 13) ko_X11 rfl w_206 dX11_price_5 (by decide) (shk hS 2 rfl) (congrArg Value.ref (shr hS 2 2 13 (by decide))) ?_
  refine V_aload_n dX11_price_8 rfl ?_
  refine V_getf (fk := 0) (Value.ref 3) ko_X11 rfl w_204 dX11_price_9 (by decide) (shk hS 2 rfl) (congrArg Value.ref (shr hS 2 0 3 (by decide))) ?_
  refine V_callV0 (as := [.ref 13, .ref 3]) (k' := 0) (n' := 0) (s_X10_findLeast hS o1 o2) mw_X10_findLeast ko_X10 rfl w_612 w_613 w_611 ar_X10_findLeast rfl ⟨rfl, rfl, rfl, rfl, rfl⟩ dX11_price_12 (by decide) (shk hS 23 rfl) ?_
  refine V_aload_n dX11_price_15 rfl ?_
  refine V_getf (fk := 3) (Value.ref 23) ko_X11 rfl w_207 dX11_price_16 (by decide) (shk (Sh_flW hS) 2 rfl) (congrArg Value.ref (shr (Sh_flW hS) 2 3 23 (by decide))) ?_
  refine V_getf (fk := 3) (Value.int (zI (flW σ) 23 3)) ko_X10 rfl w_160 dX11_price_19 (by decide) (shk (Sh_flW hS) 23 rfl) rfl ?_
  exact V_iret rfl dX11_price_22 k1

set_option maxRecDepth 100000 in
set_option maxHeartbeats 4000000 in
theorem b_X11_priceAnew_0 {g : GP} {CX : State → Array Value → Prop} {Q : AH → Option Value → Prop} {X : AH → String → Prop}  {σ : AH}
    (hS : Sh σ)
    (o1 : RT σ)
    (o2 : RJ σ)
    (k1 : Q (alH σ) (some (.int ((wayF σ).1)))) :
    V g mX11_priceAnew (Em g mX11_priceAnew Q X) CX 0 0 0 [(0, .ref 2)] [] σ := by
  refine V_aload_n dX11_priceAnew_0 rfl ?_
  refine V_getf (fk := 3) (Value.ref 23) ko_X11 rfl w_207 dX11_priceAnew_1 (by decide) (shk hS 2 rfl) (congrArg Value.ref (shr hS 2 3 23 (by decide))) ?_
  refine V_aload_n dX11_priceAnew_4 rfl ?_
  refine V_getf (fk := 2) (Value.ref 13) ko_X11 rfl w_206 dX11_priceAnew_5 (by decide) (shk hS 2 rfl) (congrArg Value.ref (shr hS 2 2 13 (by decide))) ?_
  refine V_aload_n dX11_priceAnew_8 rfl ?_
  refine V_getf (fk := 0) (Value.ref 3) ko_X11 rfl w_204 dX11_priceAnew_9 (by decide) (shk hS 2 rfl) (congrArg Value.ref (shr hS 2 0 3 (by decide))) ?_
  refine V_callV1 (as := [.ref 13, .ref 3]) (k' := 0) (n' := 0) (s_X10_leastOfAllSets hS o1 o2) mw_X10_leastOfAllSets ko_X10 rfl w_679 w_680 w_678 ar_X10_leastOfAllSets rfl ⟨rfl, rfl, rfl, rfl, rfl⟩ dX11_priceAnew_12 (by decide) (shk hS 23 rfl) ?_
  exact V_iret rfl dX11_priceAnew_15 k1

set_option maxRecDepth 100000 in
set_option maxHeartbeats 4000000 in
theorem b_X11_cuts_0 {g : GP} {CX : State → Array Value → Prop} {Q : AH → Option Value → Prop} {X : AH → String → Prop}  {σ : AH}
    (hS : Sh σ)
    (o1 : RT σ)
    (o2 : RJ σ)
    (k1 : Q (flW σ) (some (.int (zI (flW σ) 23 4)))) :
    V g mX11_cuts (Em g mX11_cuts Q X) CX 0 0 0 [(0, .ref 2)] [] σ := by
  refine V_aload_n dX11_cuts_0 rfl ?_
  refine V_getf (fk := 3) (Value.ref 23) ko_X11 rfl w_207 dX11_cuts_1 (by decide) (shk hS 2 rfl) (congrArg Value.ref (shr hS 2 3 23 (by decide))) ?_
  refine V_aload_n dX11_cuts_4 rfl ?_
  refine V_getf (fk := 2) (Value.ref 13) ko_X11 rfl w_206 dX11_cuts_5 (by decide) (shk hS 2 rfl) (congrArg Value.ref (shr hS 2 2 13 (by decide))) ?_
  refine V_aload_n dX11_cuts_8 rfl ?_
  refine V_getf (fk := 0) (Value.ref 3) ko_X11 rfl w_204 dX11_cuts_9 (by decide) (shk hS 2 rfl) (congrArg Value.ref (shr hS 2 0 3 (by decide))) ?_
  refine V_callV0 (as := [.ref 13, .ref 3]) (k' := 0) (n' := 0) (s_X10_findLeast hS o1 o2) mw_X10_findLeast ko_X10 rfl w_612 w_613 w_611 ar_X10_findLeast rfl ⟨rfl, rfl, rfl, rfl, rfl⟩ dX11_cuts_12 (by decide) (shk hS 23 rfl) ?_
  refine V_aload_n dX11_cuts_15 rfl ?_
  refine V_getf (fk := 3) (Value.ref 23) ko_X11 rfl w_207 dX11_cuts_16 (by decide) (shk (Sh_flW hS) 2 rfl) (congrArg Value.ref (shr (Sh_flW hS) 2 3 23 (by decide))) ?_
  refine V_getf (fk := 4) (Value.int (zI (flW σ) 23 4)) ko_X10 rfl w_162 dX11_cuts_19 (by decide) (shk (Sh_flW hS) 23 rfl) rfl ?_
  exact V_iret rfl dX11_cuts_22 k1

set_option maxRecDepth 100000 in
set_option maxHeartbeats 4000000 in
theorem b_X11_cash_0 {g : GP} {CX : State → Array Value → Prop} {Q : AH → Option Value → Prop} {X : AH → String → Prop} {v1 : Int32} {σ : AH}
    (hS : Sh σ)
    (o1 : (isCa v1) → vp_in v1 5)
    (k1 : (isCa v1) → Q σ (some (.long (zJ σ 31 (Int32.toNatClampNeg v1)))))
    (k2 : (¬ (isCa v1)) → X σ "java/lang/IndexOutOfBoundsException") :
    V g mX11_cash (Em g mX11_cash Q X) CX 1 6 0 [(0, .ref 2), (1, .int v1)] [] σ := by
  refine V_iload_n dX11_cash_0 rfl ?_
  refine V_callS1 (as := [.int v1]) (k' := 1) (n' := 6) (s_X11_isCarrier) mw_X11_isCarrier w_364 w_363 ar_X11_isCarrier rfl ⟨rfl, rfl, rfl, rfl, rfl⟩ dX11_cash_1 ?_
  refine V_if_ne 17 dX11_cash_4 rfl (fun c1 => ?_) (fun c1 => ?_)
  · replace c1 := jb_n.mp c1
    refine V_aload_n dX11_cash_17 rfl ?_
    refine V_getf (fk := 6) (Value.ref 31) ko_X11 rfl w_210 dX11_cash_18 (by decide) (shk hS 2 rfl) (congrArg Value.ref (shr hS 2 6 31 (by decide))) ?_
    refine V_iload_n dX11_cash_21 rfl ?_
    refine V_lald dX11_cash_22 (by decide) (shk hS 31 rfl) (vp_l (n := 5) (shl hS 31 rfl) (o1 c1)) ?_
    exact V_lret rfl dX11_cash_23 (k1 c1)
  · replace c1 := jb_0.mp c1
    exact V_throw (k := 1) (n := 6) tw_X11_61 ws_366 dX11_cash_7 dX11_cash_10 dX11_cash_11 dX11_cash_13 dX11_cash_16 rfl rfl rfl rfl rfl (k2 c1)

set_option maxRecDepth 100000 in
set_option maxHeartbeats 4000000 in
theorem b_X11_state_0 {g : GP} {CX : State → Array Value → Prop} {Q : AH → Option Value → Prop} {X : AH → String → Prop} {v1 : Int32} {σ : AH}
    (hS : Sh σ)
    (o1 : (isPl v1) → vp_in v1 10)
    (k1 : (isPl v1) → Q σ (some (.long (zJ σ 32 (Int32.toNatClampNeg v1)))))
    (k2 : (¬ (isPl v1)) → X σ "java/lang/IndexOutOfBoundsException") :
    V g mX11_state (Em g mX11_state Q X) CX 1 6 0 [(0, .ref 2), (1, .int v1)] [] σ := by
  refine V_iload_n dX11_state_0 rfl ?_
  refine V_callS1 (as := [.int v1]) (k' := 1) (n' := 6) (s_X11_isPlace) mw_X11_isPlace w_253 w_252 ar_X11_isPlace rfl ⟨rfl, rfl, rfl, rfl, rfl⟩ dX11_state_1 ?_
  refine V_if_ne 17 dX11_state_4 rfl (fun c1 => ?_) (fun c1 => ?_)
  · replace c1 := jb_n.mp c1
    refine V_aload_n dX11_state_17 rfl ?_
    refine V_getf (fk := 7) (Value.ref 32) ko_X11 rfl w_211 dX11_state_18 (by decide) (shk hS 2 rfl) (congrArg Value.ref (shr hS 2 7 32 (by decide))) ?_
    refine V_iload_n dX11_state_21 rfl ?_
    refine V_lald dX11_state_22 (by decide) (shk hS 32 rfl) (vp_l (n := 10) (shl hS 32 rfl) (o1 c1)) ?_
    exact V_lret rfl dX11_state_23 (k1 c1)
  · replace c1 := jb_0.mp c1
    exact V_throw (k := 1) (n := 6) tw_X11_61 ws_296 dX11_state_7 dX11_state_10 dX11_state_11 dX11_state_13 dX11_state_16 rfl rfl rfl rfl rfl (k2 c1)

set_option maxRecDepth 100000 in
set_option maxHeartbeats 4000000 in
theorem b_X11_paid_0 {g : GP} {CX : State → Array Value → Prop} {Q : AH → Option Value → Prop} {X : AH → String → Prop}  {σ : AH}
    (hS : Sh σ)
    (k1 : Q σ (some (.long (zJ σ 2 10)))) :
    V g mX11_paid (Em g mX11_paid Q X) CX 0 0 0 [(0, .ref 2)] [] σ := by
  refine V_aload_n dX11_paid_0 rfl ?_
  refine V_getf (fk := 10) (Value.long (zJ σ 2 10)) ko_X11 rfl w_214 dX11_paid_1 (by decide) (shk hS 2 rfl) rfl ?_
  exact V_lret rfl dX11_paid_4 k1

set_option maxRecDepth 100000 in
set_option maxHeartbeats 4000000 in
theorem b_X11_of_0 {g : GP} {CX : State → Array Value → Prop} {Q : AH → Option Value → Prop} {X : AH → String → Prop} {v1 : Int32} {σ : AH}
    (hS : Sh σ)
    (k1 : (v1 = (0 : Int32)) → Q σ (some (.int (zI σ 3 6))))
    (k2 : (¬ v1 = (0 : Int32)) → (v1 = (1 : Int32)) → Q σ (some (.int (zI σ 13 1))))
    (k3 : (¬ v1 = (0 : Int32)) → (¬ v1 = (1 : Int32)) → (v1 = (2 : Int32)) → Q σ (some (.int (zI σ 2 8))))
    (k4 : (¬ v1 = (0 : Int32)) → (¬ v1 = (1 : Int32)) → (¬ v1 = (2 : Int32)) → (v1 = (3 : Int32)) → Q σ (some (.int (zI σ 27 2))))
    (k5 : (¬ v1 = (0 : Int32)) → (¬ v1 = (1 : Int32)) → (¬ v1 = (2 : Int32)) → (¬ v1 = (3 : Int32)) → (v1 = (4 : Int32)) → Q σ (some (.int (zI σ 27 3))))
    (k6 : (¬ v1 = (0 : Int32)) → (¬ v1 = (1 : Int32)) → (¬ v1 = (2 : Int32)) → (¬ v1 = (3 : Int32)) → (¬ v1 = (4 : Int32)) → (v1 = (5 : Int32)) → Q σ (some (.int (zI σ 27 4))))
    (k7 : (¬ v1 = (0 : Int32)) → (¬ v1 = (1 : Int32)) → (¬ v1 = (2 : Int32)) → (¬ v1 = (3 : Int32)) → (¬ v1 = (4 : Int32)) → (¬ v1 = (5 : Int32)) → X σ "java/lang/IllegalArgumentException") :
    V g mX11_of (Em g mX11_of Q X) CX 1 6 0 [(0, .ref 2), (1, .int v1)] [] σ := by
  refine V_iload_n dX11_of_0 rfl ?_
  by_cases c1 : v1 = (0 : Int32)
  · refine V_tableIn (off := 39) 40 dX11_of_1 (by rw [c1]; decide) (by rw [c1]; decide) (by rw [c1]; rfl) rfl ?_
    refine V_aload_n dX11_of_40 rfl ?_
    refine V_getf (fk := 0) (Value.ref 3) ko_X11 rfl w_204 dX11_of_41 (by decide) (shk hS 2 rfl) (congrArg Value.ref (shr hS 2 0 3 (by decide))) ?_
    refine V_getf (fk := 6) (Value.int (zI σ 3 6)) ko_X8 rfl w_78 dX11_of_44 (by decide) (shk hS 3 rfl) rfl ?_
    exact V_iret rfl dX11_of_47 (k1 c1)
  by_cases c2 : v1 = (1 : Int32)
  · refine V_tableIn (off := 47) 48 dX11_of_1 (by rw [c2]; decide) (by rw [c2]; decide) (by rw [c2]; rfl) rfl ?_
    refine V_aload_n dX11_of_48 rfl ?_
    refine V_getf (fk := 2) (Value.ref 13) ko_X11 rfl w_206 dX11_of_49 (by decide) (shk hS 2 rfl) (congrArg Value.ref (shr hS 2 2 13 (by decide))) ?_
    refine V_getf (fk := 1) (Value.int (zI σ 13 1)) ko_X4 rfl w_144 dX11_of_52 (by decide) (shk hS 13 rfl) rfl ?_
    exact V_iret rfl dX11_of_55 (k2 c1 c2)
  by_cases c3 : v1 = (2 : Int32)
  · refine V_tableIn (off := 55) 56 dX11_of_1 (by rw [c3]; decide) (by rw [c3]; decide) (by rw [c3]; rfl) rfl ?_
    refine V_aload_n dX11_of_56 rfl ?_
    refine V_getf (fk := 8) (Value.int (zI σ 2 8)) ko_X11 rfl w_212 dX11_of_57 (by decide) (shk hS 2 rfl) rfl ?_
    exact V_iret rfl dX11_of_60 (k3 c1 c2 c3)
  by_cases c4 : v1 = (3 : Int32)
  · refine V_tableIn (off := 60) 61 dX11_of_1 (by rw [c4]; decide) (by rw [c4]; decide) (by rw [c4]; rfl) rfl ?_
    refine V_aload_n dX11_of_61 rfl ?_
    refine V_getf (fk := 4) (Value.ref 27) ko_X11 rfl w_208 dX11_of_62 (by decide) (shk hS 2 rfl) (congrArg Value.ref (shr hS 2 4 27 (by decide))) ?_
    refine V_getf (fk := 2) (Value.int (zI σ 27 2)) ko_X1 rfl w_185 dX11_of_65 (by decide) (shk hS 27 rfl) rfl ?_
    exact V_iret rfl dX11_of_68 (k4 c1 c2 c3 c4)
  by_cases c5 : v1 = (4 : Int32)
  · refine V_tableIn (off := 68) 69 dX11_of_1 (by rw [c5]; decide) (by rw [c5]; decide) (by rw [c5]; rfl) rfl ?_
    refine V_aload_n dX11_of_69 rfl ?_
    refine V_getf (fk := 4) (Value.ref 27) ko_X11 rfl w_208 dX11_of_70 (by decide) (shk hS 2 rfl) (congrArg Value.ref (shr hS 2 4 27 (by decide))) ?_
    refine V_getf (fk := 3) (Value.int (zI σ 27 3)) ko_X1 rfl w_187 dX11_of_73 (by decide) (shk hS 27 rfl) rfl ?_
    exact V_iret rfl dX11_of_76 (k5 c1 c2 c3 c4 c5)
  by_cases c6 : v1 = (5 : Int32)
  · refine V_tableIn (off := 76) 77 dX11_of_1 (by rw [c6]; decide) (by rw [c6]; decide) (by rw [c6]; rfl) rfl ?_
    refine V_aload_n dX11_of_77 rfl ?_
    refine V_getf (fk := 4) (Value.ref 27) ko_X11 rfl w_208 dX11_of_78 (by decide) (shk hS 2 rfl) (congrArg Value.ref (shr hS 2 4 27 (by decide))) ?_
    refine V_getf (fk := 4) (Value.int (zI σ 27 4)) ko_X1 rfl w_189 dX11_of_81 (by decide) (shk hS 27 rfl) rfl ?_
    exact V_iret rfl dX11_of_84 (k6 c1 c2 c3 c4 c5 c6)
  refine V_tableOut 85 dX11_of_1 (ts_0_5 c1 c2 c3 c4 c5 c6) rfl ?_
  exact V_throwW (k := 1) (n := 6) tw_X11_72 ws_382 dX11_of_85 dX11_of_88 dX11_of_89 dX11_of_92 dX11_of_95 rfl rfl rfl rfl rfl (k7 c1 c2 c3 c4 c5 c6)

set_option maxRecDepth 100000 in
set_option maxHeartbeats 4000000 in
theorem b_X11_ofBill_0 {g : GP} {CX : State → Array Value → Prop} {Q : AH → Option Value → Prop} {X : AH → String → Prop} {v1 : Int32} {v2 : Int32} {σ : AH}
    (hS : Sh σ)
    (o1 : (¬ atR (zI σ 27 2) 240 v1 (zR σ 28 (ix v1)) = 0) → (v2 = (0 : Int32)) → zK σ (atR (zI σ 27 2) 240 v1 (zR σ 28 (ix v1))) = 0)
    (k1 : (¬ atR (zI σ 27 2) 240 v1 (zR σ 28 (ix v1)) = 0) → (v2 = (0 : Int32)) → Q σ (some (.int (zI σ (atR (zI σ 27 2) 240 v1 (zR σ 28 (ix v1))) 3))))
    (o2 : (¬ atR (zI σ 27 2) 240 v1 (zR σ 28 (ix v1)) = 0) → (¬ v2 = (0 : Int32)) → (v2 = (1 : Int32)) → zK σ (atR (zI σ 27 2) 240 v1 (zR σ 28 (ix v1))) = 0)
    (k2 : (¬ atR (zI σ 27 2) 240 v1 (zR σ 28 (ix v1)) = 0) → (¬ v2 = (0 : Int32)) → (v2 = (1 : Int32)) → Q σ (some (.int (zI σ (atR (zI σ 27 2) 240 v1 (zR σ 28 (ix v1))) 2))))
    (o3 : (¬ atR (zI σ 27 2) 240 v1 (zR σ 28 (ix v1)) = 0) → (¬ v2 = (0 : Int32)) → (¬ v2 = (1 : Int32)) → (v2 = (2 : Int32)) → zK σ (atR (zI σ 27 2) 240 v1 (zR σ 28 (ix v1))) = 0)
    (k3 : (¬ atR (zI σ 27 2) 240 v1 (zR σ 28 (ix v1)) = 0) → (¬ v2 = (0 : Int32)) → (¬ v2 = (1 : Int32)) → (v2 = (2 : Int32)) → Q σ (some (.int (zI σ (atR (zI σ 27 2) 240 v1 (zR σ 28 (ix v1))) 0))))
    (o4 : (¬ atR (zI σ 27 2) 240 v1 (zR σ 28 (ix v1)) = 0) → (¬ v2 = (0 : Int32)) → (¬ v2 = (1 : Int32)) → (¬ v2 = (2 : Int32)) → (v2 = (3 : Int32)) → zK σ (atR (zI σ 27 2) 240 v1 (zR σ 28 (ix v1))) = 0)
    (k4 : (¬ atR (zI σ 27 2) 240 v1 (zR σ 28 (ix v1)) = 0) → (¬ v2 = (0 : Int32)) → (¬ v2 = (1 : Int32)) → (¬ v2 = (2 : Int32)) → (v2 = (3 : Int32)) → Q σ (some (.int (zI σ (atR (zI σ 27 2) 240 v1 (zR σ 28 (ix v1))) 1))))
    (o5 : (¬ atR (zI σ 27 2) 240 v1 (zR σ 28 (ix v1)) = 0) → (¬ v2 = (0 : Int32)) → (¬ v2 = (1 : Int32)) → (¬ v2 = (2 : Int32)) → (¬ v2 = (3 : Int32)) → (v2 = (4 : Int32)) → zK σ (atR (zI σ 27 2) 240 v1 (zR σ 28 (ix v1))) = 0)
    (k5 : (¬ atR (zI σ 27 2) 240 v1 (zR σ 28 (ix v1)) = 0) → (¬ v2 = (0 : Int32)) → (¬ v2 = (1 : Int32)) → (¬ v2 = (2 : Int32)) → (¬ v2 = (3 : Int32)) → (v2 = (4 : Int32)) → Q σ (some (.int (zI σ (atR (zI σ 27 2) 240 v1 (zR σ 28 (ix v1))) 4))))
    (o6 : (¬ atR (zI σ 27 2) 240 v1 (zR σ 28 (ix v1)) = 0) → (¬ v2 = (0 : Int32)) → (¬ v2 = (1 : Int32)) → (¬ v2 = (2 : Int32)) → (¬ v2 = (3 : Int32)) → (¬ v2 = (4 : Int32)) → (v2 = (5 : Int32)) → zK σ (atR (zI σ 27 2) 240 v1 (zR σ 28 (ix v1))) = 0)
    (k6 : (¬ atR (zI σ 27 2) 240 v1 (zR σ 28 (ix v1)) = 0) → (¬ v2 = (0 : Int32)) → (¬ v2 = (1 : Int32)) → (¬ v2 = (2 : Int32)) → (¬ v2 = (3 : Int32)) → (¬ v2 = (4 : Int32)) → (v2 = (5 : Int32)) → Q σ (some (.int (zI σ (atR (zI σ 27 2) 240 v1 (zR σ 28 (ix v1))) 5))))
    (k7 : (¬ atR (zI σ 27 2) 240 v1 (zR σ 28 (ix v1)) = 0) → (¬ v2 = (0 : Int32)) → (¬ v2 = (1 : Int32)) → (¬ v2 = (2 : Int32)) → (¬ v2 = (3 : Int32)) → (¬ v2 = (4 : Int32)) → (¬ v2 = (5 : Int32)) → X σ "java/lang/IllegalArgumentException")
    (k8 : (atR (zI σ 27 2) 240 v1 (zR σ 28 (ix v1)) = 0) → X σ "java/lang/IndexOutOfBoundsException") :
    V g mX11_ofBill (Em g mX11_ofBill Q X) CX 1 6 0 [(0, .ref 2), (1, .int v1), (2, .int v2)] [] σ := by
  refine V_aload_n dX11_ofBill_0 rfl ?_
  refine V_getf (fk := 4) (Value.ref 27) ko_X11 rfl w_208 dX11_ofBill_1 (by decide) (shk hS 2 rfl) (congrArg Value.ref (shr hS 2 4 27 (by decide))) ?_
  refine V_iload_n dX11_ofBill_4 rfl ?_
  refine V_callV1 (as := [.int v1]) (k' := 1) (n' := 6) (s_X1_billAt hS) mw_X1_billAt ko_X1 rfl w_395 w_396 w_445 ar_X1_billAt rfl ⟨rfl, rfl, rfl, rfl, rfl⟩ dX11_ofBill_5 (by decide) (shk hS 27 rfl) ?_
  refine V_astore_n [(0, .ref 2), (1, .int v1), (2, .int v2), (3, .ref (atR (zI σ 27 2) 240 v1 (zR σ 28 (ix v1))))] dX11_ofBill_8 rfl rfl ?_
  refine V_aload_n dX11_ofBill_9 rfl ?_
  refine V_ifnonnull 24 dX11_ofBill_10 rfl (fun c1 => ?_) (fun c1 => ?_)
  · refine V_iload_n dX11_ofBill_24 rfl ?_
    by_cases c2 : v2 = (0 : Int32)
    · refine V_tableIn (off := 39) 64 dX11_ofBill_25 (by rw [c2]; decide) (by rw [c2]; decide) (by rw [c2]; rfl) rfl ?_
      refine V_aload_n dX11_ofBill_64 rfl ?_
      refine V_getf (fk := 3) (Value.int (zI σ (atR (zI σ 27 2) 240 v1 (zR σ 28 (ix v1))) 3)) ko_X0 rfl w_926 dX11_ofBill_65 c1 (o1 c1 c2) rfl ?_
      exact V_iret rfl dX11_ofBill_68 (k1 c1 c2)
    by_cases c3 : v2 = (1 : Int32)
    · refine V_tableIn (off := 44) 69 dX11_ofBill_25 (by rw [c3]; decide) (by rw [c3]; decide) (by rw [c3]; rfl) rfl ?_
      refine V_aload_n dX11_ofBill_69 rfl ?_
      refine V_getf (fk := 2) (Value.int (zI σ (atR (zI σ 27 2) 240 v1 (zR σ 28 (ix v1))) 2)) ko_X0 rfl w_924 dX11_ofBill_70 c1 (o2 c1 c2 c3) rfl ?_
      exact V_iret rfl dX11_ofBill_73 (k2 c1 c2 c3)
    by_cases c4 : v2 = (2 : Int32)
    · refine V_tableIn (off := 49) 74 dX11_ofBill_25 (by rw [c4]; decide) (by rw [c4]; decide) (by rw [c4]; rfl) rfl ?_
      refine V_aload_n dX11_ofBill_74 rfl ?_
      refine V_getf (fk := 0) (Value.int (zI σ (atR (zI σ 27 2) 240 v1 (zR σ 28 (ix v1))) 0)) ko_X0 rfl w_919 dX11_ofBill_75 c1 (o3 c1 c2 c3 c4) rfl ?_
      exact V_iret rfl dX11_ofBill_78 (k3 c1 c2 c3 c4)
    by_cases c5 : v2 = (3 : Int32)
    · refine V_tableIn (off := 54) 79 dX11_ofBill_25 (by rw [c5]; decide) (by rw [c5]; decide) (by rw [c5]; rfl) rfl ?_
      refine V_aload_n dX11_ofBill_79 rfl ?_
      refine V_getf (fk := 1) (Value.int (zI σ (atR (zI σ 27 2) 240 v1 (zR σ 28 (ix v1))) 1)) ko_X0 rfl w_922 dX11_ofBill_80 c1 (o4 c1 c2 c3 c4 c5) rfl ?_
      exact V_iret rfl dX11_ofBill_83 (k4 c1 c2 c3 c4 c5)
    by_cases c6 : v2 = (4 : Int32)
    · refine V_tableIn (off := 59) 84 dX11_ofBill_25 (by rw [c6]; decide) (by rw [c6]; decide) (by rw [c6]; rfl) rfl ?_
      refine V_aload_n dX11_ofBill_84 rfl ?_
      refine V_getf (fk := 4) (Value.int (zI σ (atR (zI σ 27 2) 240 v1 (zR σ 28 (ix v1))) 4)) ko_X0 rfl w_928 dX11_ofBill_85 c1 (o5 c1 c2 c3 c4 c5 c6) rfl ?_
      exact V_iret rfl dX11_ofBill_88 (k5 c1 c2 c3 c4 c5 c6)
    by_cases c7 : v2 = (5 : Int32)
    · refine V_tableIn (off := 64) 89 dX11_ofBill_25 (by rw [c7]; decide) (by rw [c7]; decide) (by rw [c7]; rfl) rfl ?_
      refine V_aload_n dX11_ofBill_89 rfl ?_
      refine V_getf (fk := 5) (Value.int (zI σ (atR (zI σ 27 2) 240 v1 (zR σ 28 (ix v1))) 5)) ko_X0 rfl w_930 dX11_ofBill_90 c1 (o6 c1 c2 c3 c4 c5 c6 c7) rfl ?_
      exact V_iret rfl dX11_ofBill_93 (k6 c1 c2 c3 c4 c5 c6 c7)
    refine V_tableOut 94 dX11_ofBill_25 (ts_0_5 c2 c3 c4 c5 c6 c7) rfl ?_
    exact V_throwW (k := 1) (n := 6) tw_X11_72 ws_382 dX11_ofBill_94 dX11_ofBill_97 dX11_ofBill_98 dX11_ofBill_101 dX11_ofBill_104 rfl rfl rfl rfl rfl (k7 c1 c2 c3 c4 c5 c6 c7)
  · exact V_throwW (k := 1) (n := 6) tw_X11_61 ws_446 dX11_ofBill_13 dX11_ofBill_16 dX11_ofBill_17 dX11_ofBill_20 dX11_ofBill_23 rfl rfl rfl rfl rfl (k8 c1)

theorem Ct_mono {g : GP} {μ : MI} {as : List Value} {σ : AH} {Q Q' : AH → Option Value → Prop} (h : Ct g μ as σ Q) (hq : ∀ τ rv, Q τ rv → Q' τ rv) : Ct g μ as σ Q' := by
  intro ρ p e h1 h2 h3 s m args below hf hs hp hk
  obtain ⟨n, o, a, b, c, ⟨ρ', τ, rv, e1, q, e2⟩, d⟩ := h ρ p e h1 h2 h3 s m args below hf hs hp hk
  exact ⟨n, o, a, b, c, ⟨ρ', τ, rv, e1, hq τ rv q, e2⟩, d⟩
/-- a call that never throws -/
def RI (i : Nat) (b : Int32) (ω : AH) (rv : Option Value) : Prop := rv = some (.int b) ∧ Rel (i + 1) ω
def RIl (i : Nat) (b : Int64) (ω : AH) (rv : Option Value) : Prop := rv = some (.long b) ∧ Rel (i + 1) ω
def QN (φ : Int32 → AH → Prop) (τ : AH) (rv : Option Value) : Prop := ∃ b : Int32, rv = some (.int b) ∧ Sh τ ∧ φ b τ
def QNl (φ : Int64 → AH → Prop) (τ : AH) (rv : Option Value) : Prop := ∃ b : Int64, rv = some (.long b) ∧ Sh τ ∧ φ b τ
theorem RE_ok {i : Nat} {σ τ : AH} {b : Int32} (hi : i < 512) (h : Rel i σ) (hq : Q4 τ σ) (hz : zJ τ 72 0 = Int32.toInt64 b) : RE i 0 (uI τ 33 49 0) (some (.int b)) := ⟨by rw [zI_uI, if_pos ⟨rfl, rfl⟩], Rel_q (Nat.le_succ i) hi (Q4_49 hq) h, b, rfl, fun _ => (zJ_uI _ _ _ _ _ _).trans hz⟩
theorem REl_ok {i : Nat} {σ τ : AH} {b : Int64} (hi : i < 512) (h : Rel i σ) (hq : Q4 τ σ) (hz : zJ τ 72 0 = b) : REl i 0 (uI τ 33 49 0) (some (.long b)) := ⟨by rw [zI_uI, if_pos ⟨rfl, rfl⟩], Rel_q (Nat.le_succ i) hi (Q4_49 hq) h, b, rfl, fun _ => (zJ_uI _ _ _ _ _ _).trans hz⟩
theorem out_I {σ : AH} {y : Int64} : zJ (uJ σ 72 0 y) 72 0 = y := by rw [zJ_uJ, if_pos ⟨rfl, rfl⟩]
theorem pred_toInt {n : Nat} (h : n < 2 ^ 30) : (nI n - 1).toInt = (n : Int) - 1 := by
  cases n with
  | zero => decide
  | succ k => rw [nI_pred, nI_toInt (by omega)]; omega
/-- a number asked for: there, or not -/
theorem atR_iff {n m : Nat} (hn : n ≤ m) (hm : m < 2 ^ 30) (x : Int32) (v : Nat) : (isWi x 0 (nI n - 1) ∧ (∃ b, b < n ∧ x = nI b) ∧ atR (nI n) (nI m) x v = v) ∨ (¬ isWi x 0 (nI n - 1) ∧ atR (nI n) (nI m) x v = 0) := by
  have e0 : (0 : Int32).toInt = 0 := by decide
  by_cases h : isWi x 0 (nI n - 1)
  · have h' := isWi_iff.mp h
    rw [pred_toInt (by omega), e0] at h'
    obtain ⟨b, rfl, -, hb⟩ := bt_nI (x := x) (l := 0) (h := (n : Int) - 1) h' (by decide) (by omega)
    exact Or.inl ⟨h, ⟨b, by omega, rfl⟩, atR_in (by omega) (by omega) (by omega) (by omega)⟩
  · refine Or.inr ⟨h, ?_⟩
    rw [atR, if_pos]
    rw [isWi_iff, pred_toInt (by omega), e0] at h
    by_cases h2 : x < 0
    · exact Or.inl h2
    · refine Or.inr (Or.inl ?_)
      rw [Int32.lt_iff_toInt_lt, e0] at h2
      rw [Int32.le_iff_toInt_le, nI_toInt (by omega)]
      omega
theorem RJ_e {σ : AH} (hJ : RJ σ) : zI σ 13 1 = zI σ 33 16 := by
  obtain ⟨L, h1, h2, h3⟩ := RJ_L hJ
  rw [h2, h3]
theorem in_J {σ : AH} {x : Int32} (hJ : RJ σ) (h0 : ¬ zI σ 33 16 ≤ 0) (h : isWi x 0 (zI σ 33 16)) : inJ σ x := by
  obtain ⟨L, h1, h2, h3⟩ := RJ_L hJ
  rw [h2] at h h0
  have e0 : (0 : Int32).toInt = 0 := by decide
  have h' := isWi_iff.mp h
  rw [nI_toInt (by omega), e0] at h'
  obtain ⟨p, rfl, -, hb⟩ := bt_nI (x := x) (l := 0) (h := (L : Int)) h' (by decide) (by omega)
  rw [Int32.le_iff_toInt_le, nI_toInt (by omega), e0] at h0
  exact ⟨p, L, rfl, h2, by omega, by omega, h1⟩
theorem EqP_a {σ : AH} {y : Int64} {x : Int32} : EqP (uI (uJ σ 72 0 y) 33 49 x) σ := EqP_33 (EqP_uJ (EqP_refl _)) (by decide)

theorem R_part {g : GP} {i : Nat} {σ : AH} {v1 v2 : Int32} (hi : i < 512) (h : Rel i σ) : CtH g mL_part [.ref 2, .int v1, .int v2] σ (RQ [-1000001, -1000002] (fun k τ => Gh (S12_part v1 v2) τ (RE i k))) := by
  have hr := h
  obtain ⟨h0, hS, hT, hJ, hP, hK, hB, hC⟩ := h
  have eJ := RJ_e hJ
  have m1 : ¬ (¬ zI σ 33 16 ≤ 0 ∧ isWi v1 0 (zI σ 33 16) ∧ isWi v2 0 (zI σ 33 16)) → Gh (S12_part v1 v2) σ (RE i 1) := fun c1 => s_X12_part hS (R_PO hT hJ) (R_L hJ) (fun _ => RE_no hi hr (Q4_refl σ) (by decide)) (fun q _ => absurd q c1) (fun q _ => absurd q c1)
  have m2 : (¬ zI σ 33 16 ≤ 0 ∧ isWi v1 0 (zI σ 33 16) ∧ isWi v2 0 (zI σ 33 16)) → ¬ (¬ v2 ≤ v1) → Gh (S12_part v1 v2) σ (RE i 2) := fun c1 c2 => s_X12_part hS (R_PO hT hJ) (R_L hJ) (fun q => absurd c1 q) (fun _ _ => RE_no hi hr (Q4_refl σ) (by decide)) (fun _ q => absurd q c2)
  refine w_L_part (Q := QI (fun k τ => Gh (S12_part v1 v2) τ (RE i k))) (X := X2 IOO IAE (fun k τ => Gh (S12_part v1 v2) τ (RE i k))) hS (CtX_of (by decide +kernel) rfl rfl (b_X11_part_0 hS (fun c => Or.inl ⟨rfl, hS, m1 (fun q => c (by rw [eJ]; exact ⟨q.1, q.2.1⟩))⟩) (fun _ _ _ => hT) (fun _ _ _ => hJ) (fun c _ _ => in_J hJ (by rw [← eJ]; exact c.1) (by rw [← eJ]; exact c.2)) (fun _ c _ => in_J hJ (by rw [← eJ]; exact c.1) (by rw [← eJ]; exact c.2)) (fun c1 c2 c3 => ?_) (fun c1 c2 c3 => ?_) (fun _ c => Or.inl ⟨rfl, hS, m1 (fun q => c (by rw [eJ]; exact ⟨q.1, q.2.2⟩))⟩))) QI_q X2_q
  · rw [eJ] at c1 c2
    have hP' := PO_eq (EqP_uJ (EqP_refl σ) (a := 72) (k := 0) (x := Int32.toInt64 (partF σ (ix v1) (ix v2)))) (R_PO hT hJ)
    exact ⟨_, rfl, hS, s_X12_part hS hP' (R_L hJ) (fun q => absurd ⟨c1.1, c1.2, c2.2⟩ q) (fun _ q => absurd (Int32.not_le.mpr c3) q) (fun _ _ => RE_ok hi hr (Q4_72 (Q4_refl σ)) (by rw [out_I, partF_eq EqP_a]))⟩
  · rw [eJ] at c1 c2
    exact Or.inr ⟨rfl, hS, m2 ⟨c1.1, c1.2, c2.2⟩ (fun q => c3 (Int32.not_le.mp q))⟩
theorem R_price {g : GP} {i : Nat} {σ : AH} (hi : i < 512) (h : Rel i σ) : Ct g mX11_price [.ref 2] σ (QN (fun b τ => Gh S12_price τ (RI i b))) := by
  have hr := h
  obtain ⟨h0, hS, hT, hJ, hP, hK, hB, hC⟩ := h
  have h4 := Q4_flW (Q4_refl σ)
  have hEq : EqP (uI (flW σ) 33 49 0) σ := EqP_33 ⟨flW_I (by decide), flW_I (by decide), flW_I (by decide), flW_I (by decide), fun a k x y => flW_I (by omega)⟩ (by decide)
  have hP' : PO (flW σ) := PO_eq ⟨flW_I (by decide), flW_I (by decide), flW_I (by decide), flW_I (by decide), fun a k x y => flW_I (by omega)⟩ (R_PO hT hJ)
  have hL' : vp_in (zI (flW σ) 33 16) 9 := by rw [flW_I (by decide)]; exact R_L hJ
  refine Ct_of (by decide +kernel) rfl rfl (b_X11_price_0 hS hT hJ ⟨_, rfl, Sh_flW hS, Gh_mono (s_X12_price (Sh_flW hS) hP' hL') (fun τ rv q => ?_)⟩)
  obtain ⟨rfl, rfl⟩ := q
  exact ⟨by rw [wayF_eq hEq, (flW_w hT hJ).1], Rel_q (Nat.le_succ i) hi (Q4_hW (Q4_49 h4)) hr⟩
theorem R_cuts {g : GP} {i : Nat} {σ : AH} (hi : i < 512) (h : Rel i σ) : Ct g mX11_cuts [.ref 2] σ (QN (fun b τ => Gh S12_cuts τ (RI i b))) := by
  have hr := h
  obtain ⟨h0, hS, hT, hJ, hP, hK, hB, hC⟩ := h
  have h4 := Q4_flW (Q4_refl σ)
  have hEq : EqP (uI (flW σ) 33 49 0) σ := EqP_33 ⟨flW_I (by decide), flW_I (by decide), flW_I (by decide), flW_I (by decide), fun a k x y => flW_I (by omega)⟩ (by decide)
  have hP' : PO (flW σ) := PO_eq ⟨flW_I (by decide), flW_I (by decide), flW_I (by decide), flW_I (by decide), fun a k x y => flW_I (by omega)⟩ (R_PO hT hJ)
  have hL' : vp_in (zI (flW σ) 33 16) 9 := by rw [flW_I (by decide)]; exact R_L hJ
  refine Ct_of (by decide +kernel) rfl rfl (b_X11_cuts_0 hS hT hJ ⟨_, rfl, Sh_flW hS, Gh_mono (s_X12_cuts (Sh_flW hS) hP' hL') (fun τ rv q => ?_)⟩)
  obtain ⟨rfl, rfl⟩ := q
  exact ⟨by rw [wayF_eq hEq, (flW_w hT hJ).2], Rel_q (Nat.le_succ i) hi (Q4_hW (Q4_49 h4)) hr⟩
theorem R_priceAnew {g : GP} {i : Nat} {σ : AH} (hi : i < 512) (h : Rel i σ) : Ct g mX11_priceAnew [.ref 2] σ (QN (fun b τ => Gh S12_priceAnew τ (RI i b))) := by
  have hr := h
  obtain ⟨h0, hS, hT, hJ, hP, hK, hB, hC⟩ := h
  have h4 := Q4_alH (Q4_refl σ)
  have hEq : EqP (uI (alH σ) 33 49 0) σ := EqP_33 ⟨alH_I (by decide), alH_I (by decide), alH_I (by decide), alH_I (by decide), fun a k x y => alH_I (by omega)⟩ (by decide)
  have hP' : PO (alH σ) := PO_eq ⟨alH_I (by decide), alH_I (by decide), alH_I (by decide), alH_I (by decide), fun a k x y => alH_I (by omega)⟩ (R_PO hT hJ)
  have hL' : vp_in (zI (alH σ) 33 16) 9 := by rw [alH_I (by decide)]; exact R_L hJ
  refine Ct_of (by decide +kernel) rfl rfl (b_X11_priceAnew_0 hS hT hJ ⟨_, rfl, Sh_alH hS, Gh_mono (s_X12_priceAnew (Sh_alH hS) hP' hL') (fun τ rv q => ?_)⟩)
  obtain ⟨rfl, rfl⟩ := q
  exact ⟨by rw [wayF_eq hEq], Rel_q (Nat.le_succ i) hi (Q4_hW (Q4_49 h4)) hr⟩
theorem R_paid {g : GP} {i : Nat} {σ : AH} (hi : i < 512) (h : Rel i σ) : Ct g mX11_paid [.ref 2] σ (QNl (fun b τ => Gh S12_paid τ (RIl i b))) := by
  have hr := h
  obtain ⟨h0, hS, hT, hJ, hP, hK, hB, hC⟩ := h
  refine Ct_of (by decide +kernel) rfl rfl (b_X11_paid_0 hS ⟨_, rfl, hS, Gh_mono (s_X12_paid hS) (fun τ rv q => ?_)⟩)
  obtain ⟨rfl, rfl⟩ := q
  exact ⟨by rw [hC.2.2.1], Rel_q (Nat.le_succ i) hi (Q4_49 (Q4_refl σ)) hr⟩
theorem R_cash {g : GP} {i : Nat} {σ : AH} {v1 : Int32} (hi : i < 512) (h : Rel i σ) : CtH g mL_cash [.ref 2, .int v1] σ (RQl [-1000001] (fun k τ => Gh (S12_cash v1) τ (REl i k))) := by
  have hr := h
  obtain ⟨h0, hS, hT, hJ, hP, hK, hB, hC⟩ := h
  have m1 : ¬ (isCa v1) → Gh (S12_cash v1) σ (REl i 1) := fun c1 => s_X12_cash hS  (fun _ => REl_no hi hr (Q4_refl σ) (by decide)) (fun q => absurd q c1)
  refine w_L_cash (Q := QJ (fun k τ => Gh (S12_cash v1) τ (REl i k))) (X := X1 IOO (fun k τ => Gh (S12_cash v1) τ (REl i k))) hS (CtX_of (by decide +kernel) rfl rfl (b_X11_cash_0 hS (fun c => isCa_vp c) (fun c => ?_) (fun c => ⟨rfl, hS, m1 c⟩))) QJ_q X1_ql
  have hlt : ix v1 < 5 := by
    obtain ⟨n, hn, e⟩ := vp_in_of (isCa_vp c) (by decide)
    rw [e, ix, cl0 (by omega)]; exact hn
  exact ⟨_, rfl, hS, s_X12_cash hS (fun q => absurd c q) (fun _ => REl_ok hi hr (Q4_72 (Q4_refl σ)) (by rw [out_I, zJ_uJ, if_neg (by omega)]; exact hC.1 _ hlt))⟩
theorem R_state {g : GP} {i : Nat} {σ : AH} {v1 : Int32} (hi : i < 512) (h : Rel i σ) : CtH g mL_state [.ref 2, .int v1] σ (RQl [-1000001] (fun k τ => Gh (S12_state v1) τ (REl i k))) := by
  have hr := h
  obtain ⟨h0, hS, hT, hJ, hP, hK, hB, hC⟩ := h
  have m1 : ¬ (isPl v1) → Gh (S12_state v1) σ (REl i 1) := fun c1 => s_X12_state hS  (fun _ => REl_no hi hr (Q4_refl σ) (by decide)) (fun q => absurd q c1)
  refine w_L_state (Q := QJ (fun k τ => Gh (S12_state v1) τ (REl i k))) (X := X1 IOO (fun k τ => Gh (S12_state v1) τ (REl i k))) hS (CtX_of (by decide +kernel) rfl rfl (b_X11_state_0 hS (fun c => isPl_vp c) (fun c => ?_) (fun c => ⟨rfl, hS, m1 c⟩))) QJ_q X1_ql
  have hlt : ix v1 < 10 := by
    obtain ⟨n, hn, e⟩ := vp_in_of (isPl_vp c) (by decide)
    rw [e, ix, cl0 (by omega)]; exact hn
  exact ⟨_, rfl, hS, s_X12_state hS (fun q => absurd c q) (fun _ => REl_ok hi hr (Q4_72 (Q4_refl σ)) (by rw [out_I, zJ_uJ, if_neg (by omega)]; exact hC.2.1 _ hlt))⟩
