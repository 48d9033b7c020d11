theorem i32_ext {x y : Int32} (h : x.toInt = y.toInt) : x = y := Int32.toInt_inj.mp h
theorem ts_0_5 {x : Int32} (h0 : ¬ x = 0) (h1 : ¬ x = 1) (h2 : ¬ x = 2) (h3 : ¬ x = 3) (h4 : ¬ x = 4) (h5 : ¬ x = 5) : x.toInt < 0 ∨ 5 < x.toInt := by
  have e : ∀ k : Int32, ¬ x = k → ¬ x.toInt = k.toInt := fun k h q => h (Int32.toInt_inj.mp q)
  have a0 := e _ h0; have a1 := e _ h1; have a2 := e _ h2; have a3 := e _ h3; have a4 := e _ h4; have a5 := e _ h5
  change ¬ x.toInt = 0 at a0; change ¬ x.toInt = 1 at a1; change ¬ x.toInt = 2 at a2; change ¬ x.toInt = 3 at a3; change ¬ x.toInt = 4 at a4; change ¬ x.toInt = 5 at a5
  omega
theorem ts_1_4 {x : Int32} (h1 : ¬ x = 1) (h2 : ¬ x = 2) (h3 : ¬ x = 3) (h4 : ¬ x = 4) : x.toInt < 1 ∨ 4 < x.toInt := by
  have e : ∀ k : Int32, ¬ x = k → ¬ x.toInt = k.toInt := fun k h q => h (Int32.toInt_inj.mp q)
  have a1 := e _ h1; have a2 := e _ h2; have a3 := e _ h3; have a4 := e _ h4
  change ¬ x.toInt = 1 at a1; change ¬ x.toInt = 2 at a2; change ¬ x.toInt = 3 at a3; change ¬ x.toInt = 4 at a4
  omega
set_option maxRecDepth 100000 in
set_option maxHeartbeats 4000000 in
theorem b_X0_init_0 {g : GP} {CX : State → Array Value → Prop} {Q : AH → Option Value → Prop} {X : AH → String → Prop} {v0 : Nat} {v1 : Int32} {v2 : Int32} {v3 : Int32} {σ : AH}
    (o1 : v0 ≠ 0)
    (o2 : zK σ v0 = 0)
    (k1 : Q (uI (uI (uI (uI σ v0 3 (0 : Int32)) v0 0 v1) v0 1 v2) v0 2 v3) none) :
    V g mX0_init (Em g mX0_init Q X) CX 0 0 0 [(0, .ref v0), (1, .int v1), (2, .int v2), (3, .int v3)] [] σ := by
  refine V_aload_n dX0_init_0 rfl ?_
  refine V_objinit w_864 w_74 w_75 dX0_init_1 o1 rfl rfl ?_
  refine V_aload_n dX0_init_4 rfl ?_
  refine V_iconst (0 : Int32) dX0_init_5 (by decide) ?_
  refine V_puti (fk := 3) ko_X0 rfl w_873 (Or.inl rfl) dX0_init_6 rfl o1 o2 ?_
  refine V_aload_n dX0_init_9 rfl ?_
  refine V_iload_n dX0_init_10 rfl ?_
  refine V_puti (fk := 0) ko_X0 rfl w_865 (Or.inr ⟨rfl, rfl, rfl⟩) dX0_init_11 rfl o1 o2 ?_
  refine V_aload_n dX0_init_14 rfl ?_
  refine V_iload_n dX0_init_15 rfl ?_
  refine V_puti (fk := 1) ko_X0 rfl w_868 (Or.inr ⟨rfl, rfl, rfl⟩) dX0_init_16 rfl o1 o2 ?_
  refine V_aload_n dX0_init_19 rfl ?_
  refine V_iload_n dX0_init_20 rfl ?_
  refine V_puti (fk := 2) ko_X0 rfl w_871 (Or.inr ⟨rfl, rfl, rfl⟩) dX0_init_21 rfl o1 o2 ?_
  exact V_vret rfl dX0_init_24 k1

set_option maxRecDepth 100000 in
set_option maxHeartbeats 4000000 in
theorem b_X0_isOf_0 {g : GP} {CX : State → Array Value → Prop} {Q : AH → Option Value → Prop} {X : AH → String → Prop} {v0 : Nat} {v1 : Int32} {σ : AH}
    (o1 : v0 ≠ 0)
    (o2 : zK σ v0 = 0)
    (k1 : ((zI σ v0 0) = v1) → Q σ (some (.int (1 : Int32))))
    (k2 : (¬ (zI σ v0 0) = v1) → (¬ (zI σ v0 1) = v1) → Q σ (some (.int (0 : Int32))))
    (k3 : (¬ (zI σ v0 0) = v1) → ((zI σ v0 1) = v1) → Q σ (some (.int (1 : Int32)))) :
    V g mX0_isOf (Em g mX0_isOf Q X) CX 0 0 0 [(0, .ref v0), (1, .int v1)] [] σ := by
  refine V_aload_n dX0_isOf_0 rfl ?_
  refine V_getf (fk := 0) (Value.int (zI σ v0 0)) ko_X0 rfl w_865 dX0_isOf_1 o1 o2 rfl ?_
  refine V_iload_n dX0_isOf_4 rfl ?_
  refine V_icmp_eq 16 dX0_isOf_5 rfl (fun c1 => ?_) (fun c1 => ?_)
  · refine V_iconst (1 : Int32) dX0_isOf_16 (by decide) ?_
    refine V_goto 21 dX0_isOf_17 rfl ?_
    exact V_zret rfl dX0_isOf_21 (by decide) (k1 c1)
  · refine V_aload_n dX0_isOf_8 rfl ?_
    refine V_getf (fk := 1) (Value.int (zI σ v0 1)) ko_X0 rfl w_868 dX0_isOf_9 o1 o2 rfl ?_
    refine V_iload_n dX0_isOf_12 rfl ?_
    refine V_icmp_ne 20 dX0_isOf_13 rfl (fun c2 => ?_) (fun c2 => ?_)
    · refine V_iconst (0 : Int32) dX0_isOf_20 (by decide) ?_
      exact V_zret rfl dX0_isOf_21 (by decide) (k2 c1 c2)
    · refine V_iconst (1 : Int32) dX0_isOf_16 (by decide) ?_
      refine V_goto 21 dX0_isOf_17 rfl ?_
      exact V_zret rfl dX0_isOf_21 (by decide) (k3 c1 c2)

set_option maxRecDepth 100000 in
set_option maxHeartbeats 4000000 in
theorem b_X0_isToBeSettled_0 {g : GP} {CX : State → Array Value → Prop} {Q : AH → Option Value → Prop} {X : AH → String → Prop} {v0 : Nat} {σ : AH}
    (o1 : v0 ≠ 0)
    (o2 : zK σ v0 = 0)
    (k1 : ((zI σ v0 3) = 0) → Q σ (some (.int (1 : Int32))))
    (k2 : (¬ (zI σ v0 3) = 0) → (¬ (zI σ v0 3) = (2 : Int32)) → Q σ (some (.int (0 : Int32))))
    (k3 : (¬ (zI σ v0 3) = 0) → ((zI σ v0 3) = (2 : Int32)) → Q σ (some (.int (1 : Int32)))) :
    V g mX0_isToBeSettled (Em g mX0_isToBeSettled Q X) CX 0 0 0 [(0, .ref v0)] [] σ := by
  refine V_aload_n dX0_isToBeSettled_0 rfl ?_
  refine V_getf (fk := 3) (Value.int (zI σ v0 3)) ko_X0 rfl w_873 dX0_isToBeSettled_1 o1 o2 rfl ?_
  refine V_if_eq 15 dX0_isToBeSettled_4 rfl (fun c1 => ?_) (fun c1 => ?_)
  · refine V_iconst (1 : Int32) dX0_isToBeSettled_15 (by decide) ?_
    refine V_goto 20 dX0_isToBeSettled_16 rfl ?_
    exact V_zret rfl dX0_isToBeSettled_20 (by decide) (k1 c1)
  · refine V_aload_n dX0_isToBeSettled_7 rfl ?_
    refine V_getf (fk := 3) (Value.int (zI σ v0 3)) ko_X0 rfl w_873 dX0_isToBeSettled_8 o1 o2 rfl ?_
    refine V_iconst (2 : Int32) dX0_isToBeSettled_11 (by decide) ?_
    refine V_icmp_ne 19 dX0_isToBeSettled_12 rfl (fun c2 => ?_) (fun c2 => ?_)
    · refine V_iconst (0 : Int32) dX0_isToBeSettled_19 (by decide) ?_
      exact V_zret rfl dX0_isToBeSettled_20 (by decide) (k2 c1 c2)
    · refine V_iconst (1 : Int32) dX0_isToBeSettled_15 (by decide) ?_
      refine V_goto 20 dX0_isToBeSettled_16 rfl ?_
      exact V_zret rfl dX0_isToBeSettled_20 (by decide) (k3 c1 c2)

set_option maxRecDepth 100000 in
set_option maxHeartbeats 4000000 in
theorem b_X0_isAsLeftBy_0 {g : GP} {CX : State → Array Value → Prop} {Q : AH → Option Value → Prop} {X : AH → String → Prop} {v0 : Nat} {v1 : Int32} {σ : AH}
    (o1 : v0 ≠ 0)
    (o2 : zK σ v0 = 0)
    (k1 : (¬ (zI σ v0 5) = v1) → Q σ (some (.int (0 : Int32))))
    (k2 : ((zI σ v0 5) = v1) → V g mX0_isAsLeftBy (Em g mX0_isAsLeftBy Q X) CX 0 0 9 [(0, .ref v0), (1, .int v1)] [.ref v0] σ) :
    V g mX0_isAsLeftBy (Em g mX0_isAsLeftBy Q X) CX 0 0 0 [(0, .ref v0), (1, .int v1)] [] σ := by
  refine V_aload_n dX0_isAsLeftBy_0 rfl ?_
  refine V_getf (fk := 5) (Value.int (zI σ v0 5)) ko_X0 rfl w_877 dX0_isAsLeftBy_1 o1 o2 rfl ?_
  refine V_iload_n dX0_isAsLeftBy_4 rfl ?_
  refine V_icmp_ne 19 dX0_isAsLeftBy_5 rfl (fun c1 => ?_) (fun c1 => ?_)
  · refine V_iconst (0 : Int32) dX0_isAsLeftBy_19 (by decide) ?_
    exact V_zret rfl dX0_isAsLeftBy_20 (by decide) (k1 c1)
  · refine V_aload_n dX0_isAsLeftBy_8 rfl ?_
    exact (k2 c1)

set_option maxRecDepth 100000 in
set_option maxHeartbeats 4000000 in
theorem b_X0_amountBack_0 {g : GP} {CX : State → Array Value → Prop} {Q : AH → Option Value → Prop} {X : AH → String → Prop} {v0 : Nat} {σ : AH}
    (o1 : v0 ≠ 0)
    (o2 : zK σ v0 = 0)
    (k1 : ((zI σ v0 4) < (3 : Int32)) → Q σ (some (.int (zI σ v0 2))))
    (k2 : (¬ (zI σ v0 4) < (3 : Int32)) → Q σ (some (.int ((zI σ v0 2) / (2 : Int32))))) :
    V g mX0_amountBack (Em g mX0_amountBack Q X) CX 0 0 0 [(0, .ref v0)] [] σ := by
  refine V_aload_n dX0_amountBack_0 rfl ?_
  refine V_getf (fk := 4) (Value.int (zI σ v0 4)) ko_X0 rfl w_875 dX0_amountBack_1 o1 o2 rfl ?_
  refine V_iconst (3 : Int32) dX0_amountBack_4 (by decide) ?_
  refine V_icmp_lt 17 dX0_amountBack_5 rfl (fun c1 => ?_) (fun c1 => ?_)
  · refine V_aload_n dX0_amountBack_17 rfl ?_
    refine V_getf (fk := 2) (Value.int (zI σ v0 2)) ko_X0 rfl w_871 dX0_amountBack_18 o1 o2 rfl ?_
    exact V_iret rfl dX0_amountBack_21 (k1 c1)
  · refine V_aload_n dX0_amountBack_8 rfl ?_
    refine V_getf (fk := 2) (Value.int (zI σ v0 2)) ko_X0 rfl w_871 dX0_amountBack_9 o1 o2 rfl ?_
    refine V_iconst (2 : Int32) dX0_amountBack_12 (by decide) ?_
    refine V_idiv dX0_amountBack_13 (by decide) ?_
    refine V_goto 21 dX0_amountBack_14 rfl ?_
    exact V_iret rfl dX0_amountBack_21 (k2 c1)

set_option maxRecDepth 100000 in
set_option maxHeartbeats 4000000 in
theorem b_X0_settle_0 {g : GP} {CX : State → Array Value → Prop} {Q : AH → Option Value → Prop} {X : AH → String → Prop} {v0 : Nat} {v1 : Int32} {σ : AH}
    (o1 : v0 ≠ 0)
    (o2 : zK σ v0 = 0)
    (k1 : (¬ (zI σ v0 3) = 0) → ((zI σ v0 4) < (3 : Int32)) → V g mX0_settle (Em g mX0_settle Q X) CX 0 0 40 [(0, .ref v0), (1, .int v1)] [.ref v0] (uI (uI σ v0 5 v1) v0 3 (3 : Int32)))
    (k2 : (¬ (zI σ v0 3) = 0) → (¬ (zI σ v0 4) < (3 : Int32)) → V g mX0_settle (Em g mX0_settle Q X) CX 0 0 40 [(0, .ref v0), (1, .int v1)] [.ref v0] (uI (uI σ v0 5 v1) v0 3 (4 : Int32)))
    (k3 : ((zI σ v0 3) = 0) → Q (uI (uI σ v0 5 v1) v0 3 (1 : Int32)) (some (.int (zI σ v0 2)))) :
    V g mX0_settle (Em g mX0_settle Q X) CX 0 0 0 [(0, .ref v0), (1, .int v1)] [] σ := by
  refine V_aload_n dX0_settle_0 rfl ?_
  refine V_iload_n dX0_settle_1 rfl ?_
  refine V_puti (fk := 5) ko_X0 rfl w_877 (Or.inl rfl) dX0_settle_2 rfl o1 o2 ?_
  refine V_aload_n dX0_settle_5 rfl ?_
  refine V_getf (fk := 3) (Value.int (zI σ v0 3)) ko_X0 rfl w_873 dX0_settle_6 o1 o2 (congrArg Value.int (zI_oth _ _ _ _ _ _ (by decide))) ?_
  refine V_if_ne 22 dX0_settle_9 rfl (fun c1 => ?_) (fun c1 => ?_)
  · refine V_aload_n dX0_settle_22 rfl ?_
    refine V_aload_n dX0_settle_23 rfl ?_
    refine V_getf (fk := 4) (Value.int (zI σ v0 4)) ko_X0 rfl w_875 dX0_settle_24 o1 o2 (congrArg Value.int (zI_oth _ _ _ _ _ _ (by decide))) ?_
    refine V_iconst (3 : Int32) dX0_settle_27 (by decide) ?_
    refine V_icmp_lt 35 dX0_settle_28 rfl (fun c2 => ?_) (fun c2 => ?_)
    · refine V_iconst (3 : Int32) dX0_settle_35 (by decide) ?_
      refine V_puti (fk := 3) ko_X0 rfl w_873 (Or.inl rfl) dX0_settle_36 rfl o1 o2 ?_
      refine V_aload_n dX0_settle_39 rfl ?_
      exact (k1 c1 c2)
    · refine V_iconst (4 : Int32) dX0_settle_31 (by decide) ?_
      refine V_goto 36 dX0_settle_32 rfl ?_
      refine V_puti (fk := 3) ko_X0 rfl w_873 (Or.inl rfl) dX0_settle_36 rfl o1 o2 ?_
      refine V_aload_n dX0_settle_39 rfl ?_
      exact (k2 c1 c2)
  · refine V_aload_n dX0_settle_12 rfl ?_
    refine V_iconst (1 : Int32) dX0_settle_13 (by decide) ?_
    refine V_puti (fk := 3) ko_X0 rfl w_873 (Or.inl rfl) dX0_settle_14 rfl o1 o2 ?_
    refine V_aload_n dX0_settle_17 rfl ?_
    refine V_getf (fk := 2) (Value.int (zI σ v0 2)) ko_X0 rfl w_871 dX0_settle_18 o1 o2 (congrArg Value.int ((zI_oth _ _ _ _ _ _ (by decide)).trans (zI_oth _ _ _ _ _ _ (by decide)))) ?_
    exact V_iret rfl dX0_settle_21 (k3 c1)

set_option maxRecDepth 100000 in
set_option maxHeartbeats 4000000 in
theorem b_X0_undo_0 {g : GP} {CX : State → Array Value → Prop} {Q : AH → Option Value → Prop} {X : AH → String → Prop} {v0 : Nat} {σ : AH}
    (o1 : v0 ≠ 0)
    (o2 : zK σ v0 = 0)
    (k1 : (¬ (zI σ v0 3) = (1 : Int32)) → V g mX0_undo (Em g mX0_undo Q X) CX 0 0 30 [(0, .ref v0)] [.ref v0] (uI (uI σ v0 5 (0 : Int32)) v0 3 (2 : Int32)))
    (k2 : ((zI σ v0 3) = (1 : Int32)) → Q (uI (uI σ v0 5 (0 : Int32)) v0 3 (0 : Int32)) (some (.int (-(zI σ v0 2))))) :
    V g mX0_undo (Em g mX0_undo Q X) CX 0 0 0 [(0, .ref v0)] [] σ := by
  refine V_aload_n dX0_undo_0 rfl ?_
  refine V_iconst (0 : Int32) dX0_undo_1 (by decide) ?_
  refine V_puti (fk := 5) ko_X0 rfl w_877 (Or.inl rfl) dX0_undo_2 rfl o1 o2 ?_
  refine V_aload_n dX0_undo_5 rfl ?_
  refine V_getf (fk := 3) (Value.int (zI σ v0 3)) ko_X0 rfl w_873 dX0_undo_6 o1 o2 (congrArg Value.int (zI_oth _ _ _ _ _ _ (by decide))) ?_
  refine V_iconst (1 : Int32) dX0_undo_9 (by decide) ?_
  refine V_icmp_ne 24 dX0_undo_10 rfl (fun c1 => ?_) (fun c1 => ?_)
  · refine V_aload_n dX0_undo_24 rfl ?_
    refine V_iconst (2 : Int32) dX0_undo_25 (by decide) ?_
    refine V_puti (fk := 3) ko_X0 rfl w_873 (Or.inl rfl) dX0_undo_26 rfl o1 o2 ?_
    refine V_aload_n dX0_undo_29 rfl ?_
    exact (k1 c1)
  · refine V_aload_n dX0_undo_13 rfl ?_
    refine V_iconst (0 : Int32) dX0_undo_14 (by decide) ?_
    refine V_puti (fk := 3) ko_X0 rfl w_873 (Or.inl rfl) dX0_undo_15 rfl o1 o2 ?_
    refine V_aload_n dX0_undo_18 rfl ?_
    refine V_getf (fk := 2) (Value.int (zI σ v0 2)) ko_X0 rfl w_871 dX0_undo_19 o1 o2 (congrArg Value.int ((zI_oth _ _ _ _ _ _ (by decide)).trans (zI_oth _ _ _ _ _ _ (by decide)))) ?_
    refine V_ineg dX0_undo_22 ?_
    exact V_iret rfl dX0_undo_23 (k2 c1)

set_option maxRecDepth 100000 in
set_option maxHeartbeats 4000000 in
theorem b_X0_gotByPayee_0 {g : GP} {CX : State → Array Value → Prop} {Q : AH → Option Value → Prop} {X : AH → String → Prop} {v0 : Nat} {σ : AH}
    (o1 : v0 ≠ 0)
    (o2 : zK σ v0 = 0)
    (k1 : (zI σ v0 3 = (1 : Int32)) → Q σ (some (.int (zI σ v0 2))))
    (k2 : (¬ zI σ v0 3 = (1 : Int32)) → (zI σ v0 3 = (2 : Int32)) → Q σ (some (.int (zI σ v0 2))))
    (k3 : (¬ zI σ v0 3 = (1 : Int32)) → (¬ zI σ v0 3 = (2 : Int32)) → (zI σ v0 3 = (3 : Int32)) → Q σ (some (.int (0 : Int32))))
    (k4 : (¬ zI σ v0 3 = (1 : Int32)) → (¬ zI σ v0 3 = (2 : Int32)) → (¬ zI σ v0 3 = (3 : Int32)) → (zI σ v0 3 = (4 : Int32)) → Q σ (some (.int ((zI σ v0 2) - ((zI σ v0 2) / (2 : Int32))))))
    (k5 : (¬ zI σ v0 3 = (1 : Int32)) → (¬ zI σ v0 3 = (2 : Int32)) → (¬ zI σ v0 3 = (3 : Int32)) → (¬ zI σ v0 3 = (4 : Int32)) → Q σ (some (.int (0 : Int32)))) :
    V g mX0_gotByPayee (Em g mX0_gotByPayee Q X) CX 0 0 0 [(0, .ref v0)] [] σ := by
  refine V_aload_n dX0_gotByPayee_0 rfl ?_
  refine V_getf (fk := 3) (Value.int (zI σ v0 3)) ko_X0 rfl w_873 dX0_gotByPayee_1 o1 o2 rfl ?_
  by_cases c1 : zI σ v0 3 = (1 : Int32)
  · refine V_tableIn (off := 32) 36 dX0_gotByPayee_4 (by rw [c1]; decide) (by rw [c1]; decide) (by rw [c1]; rfl) rfl ?_
    refine V_aload_n dX0_gotByPayee_36 rfl ?_
    refine V_getf (fk := 2) (Value.int (zI σ v0 2)) ko_X0 rfl w_871 dX0_gotByPayee_37 o1 o2 rfl ?_
    exact V_iret rfl dX0_gotByPayee_40 (k1 c1)
  by_cases c2 : zI σ v0 3 = (2 : Int32)
  · refine V_tableIn (off := 32) 36 dX0_gotByPayee_4 (by rw [c2]; decide) (by rw [c2]; decide) (by rw [c2]; rfl) rfl ?_
    refine V_aload_n dX0_gotByPayee_36 rfl ?_
    refine V_getf (fk := 2) (Value.int (zI σ v0 2)) ko_X0 rfl w_871 dX0_gotByPayee_37 o1 o2 rfl ?_
    exact V_iret rfl dX0_gotByPayee_40 (k2 c1 c2)
  by_cases c3 : zI σ v0 3 = (3 : Int32)
  · refine V_tableIn (off := 49) 53 dX0_gotByPayee_4 (by rw [c3]; decide) (by rw [c3]; decide) (by rw [c3]; rfl) rfl ?_
    refine V_iconst (0 : Int32) dX0_gotByPayee_53 (by decide) ?_
    exact V_iret rfl dX0_gotByPayee_54 (k3 c1 c2 c3)
  by_cases c4 : zI σ v0 3 = (4 : Int32)
  · refine V_tableIn (off := 37) 41 dX0_gotByPayee_4 (by rw [c4]; decide) (by rw [c4]; decide) (by rw [c4]; rfl) rfl ?_
    refine V_aload_n dX0_gotByPayee_41 rfl ?_
    refine V_getf (fk := 2) (Value.int (zI σ v0 2)) ko_X0 rfl w_871 dX0_gotByPayee_42 o1 o2 rfl ?_
    refine V_aload_n dX0_gotByPayee_45 rfl ?_
    refine V_getf (fk := 2) (Value.int (zI σ v0 2)) ko_X0 rfl w_871 dX0_gotByPayee_46 o1 o2 rfl ?_
    refine V_iconst (2 : Int32) dX0_gotByPayee_49 (by decide) ?_
    refine V_idiv dX0_gotByPayee_50 (by decide) ?_
    refine V_isub dX0_gotByPayee_51 ?_
    exact V_iret rfl dX0_gotByPayee_52 (k4 c1 c2 c3 c4)
  refine V_tableOut 53 dX0_gotByPayee_4 (ts_1_4 c1 c2 c3 c4) rfl ?_
  refine V_iconst (0 : Int32) dX0_gotByPayee_53 (by decide) ?_
  exact V_iret rfl dX0_gotByPayee_54 (k5 c1 c2 c3 c4)

set_option maxRecDepth 100000 in
set_option maxHeartbeats 4000000 in
theorem b_X1_init_0 {g : GP} {CX : State → Array Value → Prop} {Q : AH → Option Value → Prop} {X : AH → String → Prop} {v0 : Nat} {σ : AH}
    (o1 : v0 ≠ 0)
    (o2 : zK σ v0 = 1)
    (o3 : v0 ≤ zN σ)
    (k1 : Q (uR (nw (uR (nw σ 30 240) v0 0 (zN σ + 1)) 21 5) v0 1 (zN σ + 2)) none) :
    V g mX1_init (Em g mX1_init Q X) CX 2 245 0 [(0, .ref v0)] [] σ := by
  refine V_aload_n dX1_init_0 rfl ?_
  refine V_objinit w_207 w_74 w_75 dX1_init_1 o1 rfl rfl ?_
  refine V_aload_n dX1_init_4 rfl ?_
  refine V_sipush (240 : Int32) dX1_init_5 (by decide) ?_
  refine V_newq (len := 240) (k' := 1) (n' := 5) ao_30 (by decide +kernel) w_208 dX1_init_8 (by decide) (by decide) rfl rfl rfl ?_
  refine V_putr (fk := 0) ko_X1 rfl w_210 (Or.inr ⟨rfl, rfl, rfl⟩) dX1_init_11 rfl o1 (by have q1_ := o2; have q2_ := o3; simp only [zK_nw, zN_nw, zN_uI, zN_uJ, zN_uR, zK_uI, zK_uJ, zK_uR]; repeat rw [if_neg (by omega)]; exact q1_) ?_
  refine V_aload_n dX1_init_14 rfl ?_
  refine V_iconst (5 : Int32) dX1_init_15 (by decide) ?_
  refine V_newl (len := 5) (k' := 0) (n' := 0) w_229 dX1_init_16 (by decide) (by decide) rfl rfl rfl ?_
  refine V_putr (fk := 1) ko_X1 rfl w_211 (Or.inr ⟨rfl, rfl, rfl⟩) dX1_init_18 rfl o1 (by have q1_ := o2; have q2_ := o3; simp only [zK_nw, zN_nw, zN_uI, zN_uJ, zN_uR, zK_uI, zK_uJ, zK_uR]; repeat rw [if_neg (by omega)]; exact q1_) ?_
  exact V_vret rfl dX1_init_21 k1

set_option maxRecDepth 100000 in
set_option maxHeartbeats 4000000 in
theorem b_X1_addBill_0 {g : GP} {CX : State → Array Value → Prop} {Q : AH → Option Value → Prop} {X : AH → String → Prop} {v0 : Nat} {v1 : Int32} {v2 : Int32} {v3 : Int32} {σ : AH}
    (o1 : v0 ≠ 0)
    (o2 : zK σ v0 = 1)
    (k1 : ((zI σ v0 2) < (240 : Int32)) → V g mX1_addBill (Em g mX1_addBill Q X) CX 0 0 27 [(0, .ref v0), (1, .int v1), (2, .int v2), (3, .int v3)] [.int v3, .int v2, .int v1, .ref (zN σ + 1), .ref (zN σ + 1), .int (zI σ v0 2), .ref (zR σ v0 0)] (nw σ 0 6))
    (k2 : (¬ (zI σ v0 2) < (240 : Int32)) → Q σ (some (.int (-1 : Int32)))) :
    V g mX1_addBill (Em g mX1_addBill Q X) CX 1 6 0 [(0, .ref v0), (1, .int v1), (2, .int v2), (3, .int v3)] [] σ := by
  refine V_aload_n dX1_addBill_0 rfl ?_
  refine V_getf (fk := 2) (Value.int (zI σ v0 2)) ko_X1 rfl w_212 dX1_addBill_1 o1 o2 rfl ?_
  refine V_sipush (240 : Int32) dX1_addBill_4 (by decide) ?_
  refine V_icmp_lt 12 dX1_addBill_7 rfl (fun c1 => ?_) (fun c1 => ?_)
  · refine V_aload_n dX1_addBill_12 rfl ?_
    refine V_getf (fk := 0) (Value.ref (zR σ v0 0)) ko_X1 rfl w_210 dX1_addBill_13 o1 o2 rfl ?_
    refine V_aload_n dX1_addBill_16 rfl ?_
    refine V_getf (fk := 2) (Value.int (zI σ v0 2)) ko_X1 rfl w_212 dX1_addBill_17 o1 o2 rfl ?_
    refine V_new (k' := 0) (n' := 0) ko_X0 kd_X0 w_208 w_399 w_67 dX1_addBill_20 rfl rfl ?_
    refine V_dup dX1_addBill_23 rfl ?_
    refine V_iload_n dX1_addBill_24 rfl ?_
    refine V_iload_n dX1_addBill_25 rfl ?_
    refine V_iload_n dX1_addBill_26 rfl ?_
    exact (k1 c1)
  · refine V_iconst (-1 : Int32) dX1_addBill_10 (by decide) ?_
    exact V_iret rfl dX1_addBill_11 (k2 c1)

set_option maxRecDepth 100000 in
set_option maxHeartbeats 4000000 in
theorem b_X1_billAt_0 {g : GP} {CX : State → Array Value → Prop} {Q : AH → Option Value → Prop} {X : AH → String → Prop} {v0 : Nat} {v1 : Int32} {σ : AH}
    (k1 : (v1 < 0) → Q σ (some (.ref 0)))
    (o1 : v0 ≠ 0)
    (o2 : zK σ v0 = 1)
    (k2 : (¬ v1 < 0) → ((zI σ v0 2) ≤ v1) → Q σ (some (.ref 0)))
    (k3 : (¬ v1 < 0) → (¬ (zI σ v0 2) ≤ v1) → ((240 : Int32) ≤ v1) → Q σ (some (.ref 0)))
    (o3 : zR σ v0 0 ≠ 0)
    (o4 : zK σ (zR σ v0 0) = 30)
    (o5 : (¬ v1 < 0) → (¬ (zI σ v0 2) ≤ v1) → (¬ (240 : Int32) ≤ v1) → vp_in v1 (zL σ (zR σ v0 0)))
    (k4 : (¬ v1 < 0) → (¬ (zI σ v0 2) ≤ v1) → (¬ (240 : Int32) ≤ v1) → Q σ (some (.ref (zR σ (zR σ v0 0) (Int32.toNatClampNeg v1))))) :
    V g mX1_billAt (Em g mX1_billAt Q X) CX 0 0 0 [(0, .ref v0), (1, .int v1)] [] σ := by
  refine V_iload_n dX1_billAt_0 rfl ?_
  refine V_if_lt 28 dX1_billAt_1 rfl (fun c1 => ?_) (fun c1 => ?_)
  · refine V_null dX1_billAt_28 ?_
    exact V_aret rfl dX1_billAt_29 (k1 c1)
  · refine V_iload_n dX1_billAt_4 rfl ?_
    refine V_aload_n dX1_billAt_5 rfl ?_
    refine V_getf (fk := 2) (Value.int (zI σ v0 2)) ko_X1 rfl w_212 dX1_billAt_6 o1 o2 rfl ?_
    refine V_icmp_ge 28 dX1_billAt_9 rfl (fun c2 => ?_) (fun c2 => ?_)
    · refine V_null dX1_billAt_28 ?_
      exact V_aret rfl dX1_billAt_29 (k2 c1 c2)
    · refine V_iload_n dX1_billAt_12 rfl ?_
      refine V_sipush (240 : Int32) dX1_billAt_13 (by decide) ?_
      refine V_icmp_ge 28 dX1_billAt_16 rfl (fun c3 => ?_) (fun c3 => ?_)
      · refine V_null dX1_billAt_28 ?_
        exact V_aret rfl dX1_billAt_29 (k3 c1 c2 c3)
      · refine V_aload_n dX1_billAt_19 rfl ?_
        refine V_getf (fk := 0) (Value.ref (zR σ v0 0)) ko_X1 rfl w_210 dX1_billAt_20 o1 o2 rfl ?_
        refine V_iload_n dX1_billAt_23 rfl ?_
        refine V_aald ao_30 dX1_billAt_24 o3 o4 (o5 c1 c2 c3) ?_
        refine V_goto 29 dX1_billAt_25 rfl ?_
        exact V_aret rfl dX1_billAt_29 (k4 c1 c2 c3)

set_option maxRecDepth 100000 in
set_option maxHeartbeats 4000000 in
theorem b_X11_isCarrier_0 {g : GP} {CX : State → Array Value → Prop} {Q : AH → Option Value → Prop} {X : AH → String → Prop} {v0 : Int32} {σ : AH}
    (k1 : (v0 < 0) → Q σ (some (.int (0 : Int32))))
    (k2 : (¬ v0 < 0) → ((5 : Int32) ≤ v0) → Q σ (some (.int (0 : Int32))))
    (k3 : (¬ v0 < 0) → (¬ (5 : Int32) ≤ v0) → Q σ (some (.int (1 : Int32)))) :
    V g mX11_isCarrier (Em g mX11_isCarrier Q X) CX 0 0 0 [(0, .int v0)] [] σ := by
  refine V_iload_n dX11_isCarrier_0 rfl ?_
  refine V_if_lt 13 dX11_isCarrier_1 rfl (fun c1 => ?_) (fun c1 => ?_)
  · refine V_iconst (0 : Int32) dX11_isCarrier_13 (by decide) ?_
    exact V_zret rfl dX11_isCarrier_14 (by decide) (k1 c1)
  · refine V_iload_n dX11_isCarrier_4 rfl ?_
    refine V_iconst (5 : Int32) dX11_isCarrier_5 (by decide) ?_
    refine V_icmp_ge 13 dX11_isCarrier_6 rfl (fun c2 => ?_) (fun c2 => ?_)
    · refine V_iconst (0 : Int32) dX11_isCarrier_13 (by decide) ?_
      exact V_zret rfl dX11_isCarrier_14 (by decide) (k2 c1 c2)
    · refine V_iconst (1 : Int32) dX11_isCarrier_9 (by decide) ?_
      refine V_goto 14 dX11_isCarrier_10 rfl ?_
      exact V_zret rfl dX11_isCarrier_14 (by decide) (k3 c1 c2)

set_option maxRecDepth 100000 in
set_option maxHeartbeats 4000000 in
theorem b_X1_isInDefault_0 {g : GP} {CX : State → Array Value → Prop} {E : ET} {v0 : Nat} {v1 : Int32} {σ : AH}
    (k1 : V g mX1_isInDefault E CX 0 0 1 [(0, .ref v0), (1, .int v1)] [.int v1] σ) :
    V g mX1_isInDefault E CX 0 0 0 [(0, .ref v0), (1, .int v1)] [] σ := by
  refine V_iload_n dX1_isInDefault_0 rfl ?_
  exact k1

set_option maxRecDepth 100000 in
set_option maxHeartbeats 4000000 in
theorem b_X1_putDefault_0 {g : GP} {CX : State → Array Value → Prop} {E : ET} {v0 : Nat} {v1 : Int32} {v2 : Int32} {σ : AH}
    (k1 : V g mX1_putDefault E CX 0 0 1 [(0, .ref v0), (1, .int v1), (2, .int v2)] [.int v1] σ) :
    V g mX1_putDefault E CX 0 0 0 [(0, .ref v0), (1, .int v1), (2, .int v2)] [] σ := by
  refine V_iload_n dX1_putDefault_0 rfl ?_
  exact k1

set_option maxRecDepth 100000 in
set_option maxHeartbeats 4000000 in
theorem b_X1_forgetNets_0 {g : GP} {CX : State → Array Value → Prop} {E : ET} {v0 : Nat} {σ : AH}
    (k1 : V g mX1_forgetNets E CX 0 0 2 [(0, .ref v0), (1, .int (0 : Int32))] [] σ) :
    V g mX1_forgetNets E CX 0 0 0 [(0, .ref v0)] [] σ := by
  refine V_iconst (0 : Int32) dX1_forgetNets_0 (by decide) ?_
  refine V_istore_n [(0, .ref v0), (1, .int (0 : Int32))] dX1_forgetNets_1 rfl rfl ?_
  exact k1
set_option maxRecDepth 100000 in
set_option maxHeartbeats 4000000 in
theorem b_X1_forgetNets_2 {g : GP} {CX : State → Array Value → Prop} {Q : AH → Option Value → Prop} {X : AH → String → Prop} {v0 : Nat} {v1 : Int32} {σ : AH}
    (k1 : ((5 : Int32) ≤ v1) → Q σ none)
    (o1 : v0 ≠ 0)
    (o2 : zK σ v0 = 1)
    (o3 : zR σ v0 1 ≠ 0)
    (o4 : zK σ (zR σ v0 1) = 21)
    (o5 : (¬ (5 : Int32) ≤ v1) → vp_in v1 (zL σ (zR σ v0 1)))
    (k2 : (¬ (5 : Int32) ≤ v1) → V g mX1_forgetNets (Em g mX1_forgetNets Q X) CX 0 0 2 [(0, .ref v0), (1, .int (v1 + (1 : Int32)))] [] (uJ σ (zR σ v0 1) (Int32.toNatClampNeg v1) (0 : Int64))) :
    V g mX1_forgetNets (Em g mX1_forgetNets Q X) CX 0 0 2 [(0, .ref v0), (1, .int v1)] [] σ := by
  refine V_iload_n dX1_forgetNets_2 rfl ?_
  refine V_iconst (5 : Int32) dX1_forgetNets_3 (by decide) ?_
  refine V_icmp_ge 20 dX1_forgetNets_4 rfl (fun c1 => ?_) (fun c1 => ?_)
  · exact V_vret rfl dX1_forgetNets_20 (k1 c1)
  · refine V_aload_n dX1_forgetNets_7 rfl ?_
    refine V_getf (fk := 1) (Value.ref (zR σ v0 1)) ko_X1 rfl w_211 dX1_forgetNets_8 o1 o2 rfl ?_
    refine V_iload_n dX1_forgetNets_11 rfl ?_
    refine V_lconst (0 : Int64) dX1_forgetNets_12 (by decide) ?_
    refine V_last dX1_forgetNets_13 o3 o4 (o5 c1) ?_
    refine V_iinc (v1 + (1 : Int32)) [(0, .ref v0), (1, .int (v1 + (1 : Int32)))] dX1_forgetNets_14 rfl rfl rfl rfl ?_
    refine V_goto 2 dX1_forgetNets_17 rfl ?_
    exact (k2 c1)

set_option maxRecDepth 100000 in
set_option maxHeartbeats 4000000 in
theorem b_X1_addToNets_0 {g : GP} {CX : State → Array Value → Prop} {E : ET} {v0 : Nat} {v1 : Nat} {v2 : Int32} {σ : AH}
    (o1 : v1 ≠ 0)
    (o2 : zK σ v1 = 0)
    (k1 : V g mX1_addToNets E CX 0 0 4 [(0, .ref v0), (1, .ref v1), (2, .int v2)] [.int (zI σ v1 0)] σ) :
    V g mX1_addToNets E CX 0 0 0 [(0, .ref v0), (1, .ref v1), (2, .int v2)] [] σ := by
  refine V_aload_n dX1_addToNets_0 rfl ?_
  refine V_getf (fk := 0) (Value.int (zI σ v1 0)) ko_X0 rfl w_866 dX1_addToNets_1 o1 o2 rfl ?_
  exact k1

set_option maxRecDepth 100000 in
set_option maxHeartbeats 4000000 in
theorem b_X1_settle_0 {g : GP} {CX : State → Array Value → Prop} {E : ET} {v0 : Nat} {σ : AH}
    (k1 : V g mX1_settle E CX 0 0 1 [(0, .ref v0)] [.ref v0] σ) :
    V g mX1_settle E CX 0 0 0 [(0, .ref v0)] [] σ := by
  refine V_aload_n dX1_settle_0 rfl ?_
  exact k1

set_option maxRecDepth 100000 in
set_option maxHeartbeats 4000000 in
theorem b_X1_undo_0 {g : GP} {CX : State → Array Value → Prop} {E : ET} {v0 : Nat} {v1 : Int32} {σ : AH}
    (k1 : V g mX1_undo E CX 0 0 1 [(0, .ref v0), (1, .int v1)] [.ref v0] σ) :
    V g mX1_undo E CX 0 0 0 [(0, .ref v0), (1, .int v1)] [] σ := by
  refine V_aload_n dX1_undo_0 rfl ?_
  exact k1

set_option maxRecDepth 100000 in
set_option maxHeartbeats 4000000 in
theorem b_X1_netOf_0 {g : GP} {CX : State → Array Value → Prop} {E : ET} {v0 : Nat} {v1 : Int32} {σ : AH}
    (k1 : V g mX1_netOf E CX 0 0 1 [(0, .ref v0), (1, .int v1)] [.int v1] σ) :
    V g mX1_netOf E CX 0 0 0 [(0, .ref v0), (1, .int v1)] [] σ := by
  refine V_iload_n dX1_netOf_0 rfl ?_
  exact k1

set_option maxRecDepth 100000 in
set_option maxHeartbeats 4000000 in
theorem b_X1_sumOfNetsAboveZero_0 {g : GP} {CX : State → Array Value → Prop} {E : ET} {v0 : Nat} {σ : AH}
    (k1 : V g mX1_sumOfNetsAboveZero E CX 0 0 4 [(0, .ref v0), (1, .long (0 : Int64)), (3, .int (0 : Int32))] [] σ) :
    V g mX1_sumOfNetsAboveZero E CX 0 0 0 [(0, .ref v0)] [] σ := by
  refine V_lconst (0 : Int64) dX1_sumOfNetsAboveZero_0 (by decide) ?_
  refine V_lstore_n [(0, .ref v0), (1, .long (0 : Int64))] dX1_sumOfNetsAboveZero_1 rfl rfl ?_
  refine V_iconst (0 : Int32) dX1_sumOfNetsAboveZero_2 (by decide) ?_
  refine V_istore_n [(0, .ref v0), (1, .long (0 : Int64)), (3, .int (0 : Int32))] dX1_sumOfNetsAboveZero_3 rfl rfl ?_
  exact k1
set_option maxRecDepth 100000 in
set_option maxHeartbeats 4000000 in
theorem b_X1_sumOfNetsAboveZero_4 {g : GP} {CX : State → Array Value → Prop} {Q : AH → Option Value → Prop} {X : AH → String → Prop} {v0 : Nat} {v1 : Int64} {v3 : Int32} {σ : AH}
    (k1 : ((5 : Int32) ≤ v3) → Q σ (some (.long v1)))
    (k2 : (¬ (5 : Int32) ≤ v3) → V g mX1_sumOfNetsAboveZero (Em g mX1_sumOfNetsAboveZero Q X) CX 0 0 12 [(0, .ref v0), (1, .long v1), (3, .int v3)] [.int v3, .ref v0, .long v1] σ) :
    V g mX1_sumOfNetsAboveZero (Em g mX1_sumOfNetsAboveZero Q X) CX 0 0 4 [(0, .ref v0), (1, .long v1), (3, .int v3)] [] σ := by
  refine V_iload_n dX1_sumOfNetsAboveZero_4 rfl ?_
  refine V_iconst (5 : Int32) dX1_sumOfNetsAboveZero_5 (by decide) ?_
  refine V_icmp_ge 27 dX1_sumOfNetsAboveZero_6 rfl (fun c1 => ?_) (fun c1 => ?_)
  · refine V_lload_n dX1_sumOfNetsAboveZero_27 rfl ?_
    exact V_lret rfl dX1_sumOfNetsAboveZero_28 (k1 c1)
  · refine V_lload_n dX1_sumOfNetsAboveZero_9 rfl ?_
    refine V_aload_n dX1_sumOfNetsAboveZero_10 rfl ?_
    refine V_iload_n dX1_sumOfNetsAboveZero_11 rfl ?_
    exact (k2 c1)

set_option maxRecDepth 100000 in
set_option maxHeartbeats 4000000 in
theorem b_X1_gotBy_0 {g : GP} {CX : State → Array Value → Prop} {E : ET} {v0 : Nat} {v1 : Int32} {σ : AH}
    (k1 : V g mX1_gotBy E CX 0 0 5 [(0, .ref v0), (1, .int v1), (2, .long (0 : Int64)), (4, .int (0 : Int32))] [] σ) :
    V g mX1_gotBy E CX 0 0 0 [(0, .ref v0), (1, .int v1)] [] σ := by
  refine V_lconst (0 : Int64) dX1_gotBy_0 (by decide) ?_
  refine V_lstore_n [(0, .ref v0), (1, .int v1), (2, .long (0 : Int64))] dX1_gotBy_1 rfl rfl ?_
  refine V_iconst (0 : Int32) dX1_gotBy_2 (by decide) ?_
  refine V_istore [(0, .ref v0), (1, .int v1), (2, .long (0 : Int64)), (4, .int (0 : Int32))] dX1_gotBy_3 rfl rfl ?_
  exact k1
set_option maxRecDepth 100000 in
set_option maxHeartbeats 4000000 in
theorem b_X1_gotBy_5 {g : GP} {CX : State → Array Value → Prop} {Q : AH → Option Value → Prop} {X : AH → String → Prop} {v0 : Nat} {v1 : Int32} {v2 : Int64} {v4 : Int32} {σ : AH}
    (o1 : v0 ≠ 0)
    (o2 : zK σ v0 = 1)
    (k1 : ((zI σ v0 2) ≤ v4) → Q σ (some (.long v2)))
    (k2 : (¬ (zI σ v0 2) ≤ v4) → V g mX1_gotBy (Em g mX1_gotBy Q X) CX 0 0 17 [(0, .ref v0), (1, .int v1), (2, .long v2), (4, .int v4)] [.int v4, .ref v0] σ) :
    V g mX1_gotBy (Em g mX1_gotBy Q X) CX 0 0 5 [(0, .ref v0), (1, .int v1), (2, .long v2), (4, .int v4)] [] σ := by
  refine V_iload dX1_gotBy_5 rfl ?_
  refine V_aload_n dX1_gotBy_7 rfl ?_
  refine V_getf (fk := 2) (Value.int (zI σ v0 2)) ko_X1 rfl w_212 dX1_gotBy_8 o1 o2 rfl ?_
  refine V_icmp_ge 74 dX1_gotBy_11 rfl (fun c1 => ?_) (fun c1 => ?_)
  · refine V_lload_n dX1_gotBy_74 rfl ?_
    exact V_lret rfl dX1_gotBy_75 (k1 c1)
  · refine V_aload_n dX1_gotBy_14 rfl ?_
    refine V_iload dX1_gotBy_15 rfl ?_
    exact (k2 c1)

set_option maxRecDepth 100000 in
set_option maxHeartbeats 4000000 in
theorem b_X2_init_0 {g : GP} {CX : State → Array Value → Prop} {Q : AH → Option Value → Prop} {X : AH → String → Prop} {v0 : Nat} {v1 : Nat} {v2 : Int32} {σ : AH}
    (o1 : v0 ≠ 0)
    (o2 : zK σ v0 = 2)
    (o3 : v1 ≠ 0)
    (o4 : zK σ v1 = 5)
    (k1 : Q (uI (uI (uI (uI (uI (uI (uI σ v0 7 (0 : Int32)) v0 8 (-1 : Int32)) v0 0 (zI σ v1 0)) v0 1 (zI σ v1 1)) v0 2 (zI σ v1 3)) v0 4 (zI (uI (uI (uI (uI (uI σ v0 7 (0 : Int32)) v0 8 (-1 : Int32)) v0 0 (zI σ v1 0)) v0 1 (zI σ v1 1)) v0 2 (zI σ v1 3)) v1 2)) v0 3 v2) none) :
    V g mX2_init (Em g mX2_init Q X) CX 0 0 0 [(0, .ref v0), (1, .ref v1), (2, .int v2)] [] σ := by
  refine V_aload_n dX2_init_0 rfl ?_
  refine V_objinit w_760 w_74 w_75 dX2_init_1 o1 rfl rfl ?_
  refine V_aload_n dX2_init_4 rfl ?_
  refine V_iconst (0 : Int32) dX2_init_5 (by decide) ?_
  refine V_puti (fk := 7) ko_X2 rfl w_778 (Or.inl rfl) dX2_init_6 rfl o1 o2 ?_
  refine V_aload_n dX2_init_9 rfl ?_
  refine V_iconst (-1 : Int32) dX2_init_10 (by decide) ?_
  refine V_puti (fk := 8) ko_X2 rfl w_781 (Or.inl rfl) dX2_init_11 rfl o1 o2 ?_
  refine V_aload_n dX2_init_14 rfl ?_
  refine V_aload_n dX2_init_15 rfl ?_
  refine V_getf (fk := 0) (Value.int (zI σ v1 0)) ko_X5 rfl w_151 dX2_init_16 o3 o4 (congrArg Value.int ((zI_oth _ _ _ _ _ _ (by decide)).trans (zI_oth _ _ _ _ _ _ (by decide)))) ?_
  refine V_puti (fk := 0) ko_X2 rfl w_761 (Or.inr ⟨rfl, rfl, rfl⟩) dX2_init_19 rfl o1 o2 ?_
  refine V_aload_n dX2_init_22 rfl ?_
  refine V_aload_n dX2_init_23 rfl ?_
  refine V_getf (fk := 1) (Value.int (zI σ v1 1)) ko_X5 rfl w_154 dX2_init_24 o3 o4 (congrArg Value.int (((zI_oth _ _ _ _ _ _ (by decide)).trans (zI_oth _ _ _ _ _ _ (by decide))).trans (zI_oth _ _ _ _ _ _ (by decide)))) ?_
  refine V_puti (fk := 1) ko_X2 rfl w_764 (Or.inr ⟨rfl, rfl, rfl⟩) dX2_init_27 rfl o1 o2 ?_
  refine V_aload_n dX2_init_30 rfl ?_
  refine V_aload_n dX2_init_31 rfl ?_
  refine V_getf (fk := 3) (Value.int (zI σ v1 3)) ko_X5 rfl w_158 dX2_init_32 o3 o4 (congrArg Value.int ((((zI_oth _ _ _ _ _ _ (by decide)).trans (zI_oth _ _ _ _ _ _ (by decide))).trans (zI_oth _ _ _ _ _ _ (by decide))).trans (zI_oth _ _ _ _ _ _ (by decide)))) ?_
  refine V_puti (fk := 2) ko_X2 rfl w_766 (Or.inr ⟨rfl, rfl, rfl⟩) dX2_init_35 rfl o1 o2 ?_
  refine V_aload_n dX2_init_38 rfl ?_
  refine V_aload_n dX2_init_39 rfl ?_
  refine V_getf (fk := 2) (Value.int (zI (uI (uI (uI (uI (uI σ v0 7 (0 : Int32)) v0 8 (-1 : Int32)) v0 0 (zI σ v1 0)) v0 1 (zI σ v1 1)) v0 2 (zI σ v1 3)) v1 2)) ko_X5 rfl w_156 dX2_init_40 o3 o4 rfl ?_
  refine V_puti (fk := 4) ko_X2 rfl w_771 (Or.inl rfl) dX2_init_43 rfl o1 o2 ?_
  refine V_aload_n dX2_init_46 rfl ?_
  refine V_iload_n dX2_init_47 rfl ?_
  refine V_puti (fk := 3) ko_X2 rfl w_768 (Or.inr ⟨rfl, rfl, rfl⟩) dX2_init_48 rfl o1 o2 ?_
  exact V_vret rfl dX2_init_51 k1

set_option maxRecDepth 100000 in
set_option maxHeartbeats 4000000 in
theorem b_X3_init_0 {g : GP} {CX : State → Array Value → Prop} {Q : AH → Option Value → Prop} {X : AH → String → Prop} {v0 : Nat} {v1 : Int32} {v2 : Int32} {v3 : Int32} {v4 : Int32} {v5 : Int32} {v6 : Int32} {σ : AH}
    (o1 : v0 ≠ 0)
    (o2 : zK σ v0 = 3)
    (k1 : Q (uI (uI (uI (uI (uI (uI σ v0 0 v1) v0 1 v2) v0 2 v3) v0 3 v4) v0 4 v5) v0 5 v6) none) :
    V g mX3_init (Em g mX3_init Q X) CX 0 0 0 [(0, .ref v0), (1, .int v1), (2, .int v2), (3, .int v3), (4, .int v4), (5, .int v5), (6, .int v6)] [] σ := by
  refine V_aload_n dX3_init_0 rfl ?_
  refine V_objinit w_561 w_74 w_75 dX3_init_1 o1 rfl rfl ?_
  refine V_aload_n dX3_init_4 rfl ?_
  refine V_iload_n dX3_init_5 rfl ?_
  refine V_puti (fk := 0) ko_X3 rfl w_562 (Or.inr ⟨rfl, rfl, rfl⟩) dX3_init_6 rfl o1 o2 ?_
  refine V_aload_n dX3_init_9 rfl ?_
  refine V_iload_n dX3_init_10 rfl ?_
  refine V_puti (fk := 1) ko_X3 rfl w_563 (Or.inr ⟨rfl, rfl, rfl⟩) dX3_init_11 rfl o1 o2 ?_
  refine V_aload_n dX3_init_14 rfl ?_
  refine V_iload_n dX3_init_15 rfl ?_
  refine V_puti (fk := 2) ko_X3 rfl w_564 (Or.inr ⟨rfl, rfl, rfl⟩) dX3_init_16 rfl o1 o2 ?_
  refine V_aload_n dX3_init_19 rfl ?_
  refine V_iload dX3_init_20 rfl ?_
  refine V_puti (fk := 3) ko_X3 rfl w_566 (Or.inr ⟨rfl, rfl, rfl⟩) dX3_init_22 rfl o1 o2 ?_
  refine V_aload_n dX3_init_25 rfl ?_
  refine V_iload dX3_init_26 rfl ?_
  refine V_puti (fk := 4) ko_X3 rfl w_567 (Or.inr ⟨rfl, rfl, rfl⟩) dX3_init_28 rfl o1 o2 ?_
  refine V_aload_n dX3_init_31 rfl ?_
  refine V_iload dX3_init_32 rfl ?_
  refine V_puti (fk := 5) ko_X3 rfl w_568 (Or.inr ⟨rfl, rfl, rfl⟩) dX3_init_34 rfl o1 o2 ?_
  exact V_vret rfl dX3_init_37 k1

set_option maxRecDepth 100000 in
set_option maxHeartbeats 4000000 in
theorem b_X3_isFor_0 {g : GP} {CX : State → Array Value → Prop} {Q : AH → Option Value → Prop} {X : AH → String → Prop} {v0 : Nat} {v1 : Int32} {v2 : Int32} {v3 : Int32} {σ : AH}
    (o1 : v0 ≠ 0)
    (o2 : zK σ v0 = 3)
    (k1 : (¬ (zI σ v0 0) = v1) → Q σ (some (.int (0 : Int32))))
    (k2 : ((zI σ v0 0) = v1) → (¬ (zI σ v0 1) = v2) → Q σ (some (.int (0 : Int32))))
    (k3 : ((zI σ v0 0) = v1) → ((zI σ v0 1) = v2) → (¬ (zI σ v0 6) = 0) → Q σ (some (.int (0 : Int32))))
    (k4 : ((zI σ v0 0) = v1) → ((zI σ v0 1) = v2) → ((zI σ v0 6) = 0) → (v3 < (zI σ v0 3)) → Q σ (some (.int (0 : Int32))))
    (k5 : ((zI σ v0 0) = v1) → ((zI σ v0 1) = v2) → ((zI σ v0 6) = 0) → (¬ v3 < (zI σ v0 3)) → ((zI σ v0 4) < v3) → Q σ (some (.int (0 : Int32))))
    (k6 : ((zI σ v0 0) = v1) → ((zI σ v0 1) = v2) → ((zI σ v0 6) = 0) → (¬ v3 < (zI σ v0 3)) → (¬ (zI σ v0 4) < v3) → Q σ (some (.int (1 : Int32)))) :
    V g mX3_isFor (Em g mX3_isFor Q X) CX 0 0 0 [(0, .ref v0), (1, .int v1), (2, .int v2), (3, .int v3)] [] σ := by
  refine V_aload_n dX3_isFor_0 rfl ?_
  refine V_getf (fk := 0) (Value.int (zI σ v0 0)) ko_X3 rfl w_562 dX3_isFor_1 o1 o2 rfl ?_
  refine V_iload_n dX3_isFor_4 rfl ?_
  refine V_icmp_ne 43 dX3_isFor_5 rfl (fun c1 => ?_) (fun c1 => ?_)
  · refine V_iconst (0 : Int32) dX3_isFor_43 (by decide) ?_
    exact V_zret rfl dX3_isFor_44 (by decide) (k1 c1)
  · refine V_aload_n dX3_isFor_8 rfl ?_
    refine V_getf (fk := 1) (Value.int (zI σ v0 1)) ko_X3 rfl w_563 dX3_isFor_9 o1 o2 rfl ?_
    refine V_iload_n dX3_isFor_12 rfl ?_
    refine V_icmp_ne 43 dX3_isFor_13 rfl (fun c2 => ?_) (fun c2 => ?_)
    · refine V_iconst (0 : Int32) dX3_isFor_43 (by decide) ?_
      exact V_zret rfl dX3_isFor_44 (by decide) (k2 c1 c2)
    · refine V_aload_n dX3_isFor_16 rfl ?_
      refine V_getf (fk := 6) (Value.int (zI σ v0 6)) ko_X3 rfl w_570 dX3_isFor_17 o1 o2 rfl ?_
      refine V_if_ne 43 dX3_isFor_20 rfl (fun c3 => ?_) (fun c3 => ?_)
      · refine V_iconst (0 : Int32) dX3_isFor_43 (by decide) ?_
        exact V_zret rfl dX3_isFor_44 (by decide) (k3 c1 c2 c3)
      · refine V_aload_n dX3_isFor_23 rfl ?_
        refine V_getf (fk := 3) (Value.int (zI σ v0 3)) ko_X3 rfl w_566 dX3_isFor_24 o1 o2 rfl ?_
        refine V_iload_n dX3_isFor_27 rfl ?_
        refine V_icmp_gt 43 dX3_isFor_28 rfl (fun c4 => ?_) (fun c4 => ?_)
        · refine V_iconst (0 : Int32) dX3_isFor_43 (by decide) ?_
          exact V_zret rfl dX3_isFor_44 (by decide) (k4 c1 c2 c3 c4)
        · refine V_iload_n dX3_isFor_31 rfl ?_
          refine V_aload_n dX3_isFor_32 rfl ?_
          refine V_getf (fk := 4) (Value.int (zI σ v0 4)) ko_X3 rfl w_567 dX3_isFor_33 o1 o2 rfl ?_
          refine V_icmp_gt 43 dX3_isFor_36 rfl (fun c5 => ?_) (fun c5 => ?_)
          · refine V_iconst (0 : Int32) dX3_isFor_43 (by decide) ?_
            exact V_zret rfl dX3_isFor_44 (by decide) (k5 c1 c2 c3 c4 c5)
          · refine V_iconst (1 : Int32) dX3_isFor_39 (by decide) ?_
            refine V_goto 44 dX3_isFor_40 rfl ?_
            exact V_zret rfl dX3_isFor_44 (by decide) (k6 c1 c2 c3 c4 c5)

set_option maxRecDepth 100000 in
set_option maxHeartbeats 4000000 in
theorem b_X5_init_0 {g : GP} {CX : State → Array Value → Prop} {Q : AH → Option Value → Prop} {X : AH → String → Prop} {v0 : Nat} {σ : AH}
    (o1 : v0 ≠ 0)
    (k1 : Q σ none) :
    V g mX5_init (Em g mX5_init Q X) CX 0 0 0 [(0, .ref v0)] [] σ := by
  refine V_aload_n dX5_init_0 rfl ?_
  refine V_objinit w_150 w_74 w_75 dX5_init_1 o1 rfl rfl ?_
  exact V_vret rfl dX5_init_4 k1

set_option maxRecDepth 100000 in
set_option maxHeartbeats 4000000 in
theorem b_X4_init_0 {g : GP} {CX : State → Array Value → Prop} {E : ET} {v0 : Nat} {σ : AH}
    (o1 : v0 ≠ 0)
    (o2 : zK σ v0 = 4)
    (o3 : v0 ≤ zN σ)
    (k1 : V g mX4_init E CX 8 32 15 [(0, .ref v0), (1, .int (0 : Int32))] [] (uR (nw σ 35 8) v0 0 (zN σ + 1))) :
    V g mX4_init E CX 9 40 0 [(0, .ref v0)] [] σ := by
  refine V_aload_n dX4_init_0 rfl ?_
  refine V_objinit w_143 w_74 w_75 dX4_init_1 o1 rfl rfl ?_
  refine V_aload_n dX4_init_4 rfl ?_
  refine V_bipush (8 : Int32) dX4_init_5 (by decide) ?_
  refine V_newq (len := 8) (k' := 8) (n' := 32) ao_35 (by decide +kernel) w_144 dX4_init_7 (by decide) (by decide) rfl rfl rfl ?_
  refine V_putr (fk := 0) ko_X4 rfl w_169 (Or.inr ⟨rfl, rfl, rfl⟩) dX4_init_10 rfl o1 (by have q1_ := o2; have q2_ := o3; simp only [zK_nw, zN_nw, zN_uI, zN_uJ, zN_uR, zK_uI, zK_uJ, zK_uR]; repeat rw [if_neg (by omega)]; exact q1_) ?_
  refine V_iconst (0 : Int32) dX4_init_13 (by decide) ?_
  refine V_istore_n [(0, .ref v0), (1, .int (0 : Int32))] dX4_init_14 rfl rfl ?_
  exact k1
set_option maxRecDepth 100000 in
set_option maxHeartbeats 4000000 in
theorem b_X4_init_15 {g : GP} {CX : State → Array Value → Prop} {Q : AH → Option Value → Prop} {X : AH → String → Prop} {v0 : Nat} {v1 : Int32} {σ : AH}
    (k1 : ((8 : Int32) ≤ v1) → Q σ none)
    (o1 : v0 ≠ 0)
    (o2 : zK σ v0 = 4)
    (k2 : (¬ (8 : Int32) ≤ v1) → V g mX4_init (Em g mX4_init Q X) CX 7 28 30 [(0, .ref v0), (1, .int v1)] [.ref (zN σ + 1), .ref (zN σ + 1), .int v1, .ref (zR σ v0 0)] (nw σ 5 4)) :
    V g mX4_init (Em g mX4_init Q X) CX 8 32 15 [(0, .ref v0), (1, .int v1)] [] σ := by
  refine V_iload_n dX4_init_15 rfl ?_
  refine V_bipush (8 : Int32) dX4_init_16 (by decide) ?_
  refine V_icmp_ge 40 dX4_init_18 rfl (fun c1 => ?_) (fun c1 => ?_)
  · exact V_vret rfl dX4_init_40 (k1 c1)
  · refine V_aload_n dX4_init_21 rfl ?_
    refine V_getf (fk := 0) (Value.ref (zR σ v0 0)) ko_X4 rfl w_169 dX4_init_22 o1 o2 rfl ?_
    refine V_iload_n dX4_init_25 rfl ?_
    refine V_new (k' := 7) (n' := 28) ko_X5 kd_X5 w_144 w_146 w_53 dX4_init_26 rfl rfl ?_
    refine V_dup dX4_init_29 rfl ?_
    exact (k2 c1)

set_option maxRecDepth 100000 in
set_option maxHeartbeats 4000000 in
theorem b_X4_legAt_0 {g : GP} {CX : State → Array Value → Prop} {Q : AH → Option Value → Prop} {X : AH → String → Prop} {v0 : Nat} {v1 : Int32} {σ : AH}
    (k1 : (v1 < 0) → Q σ (some (.ref 0)))
    (o1 : v0 ≠ 0)
    (o2 : zK σ v0 = 4)
    (k2 : (¬ v1 < 0) → ((zI σ v0 1) ≤ v1) → Q σ (some (.ref 0)))
    (k3 : (¬ v1 < 0) → (¬ (zI σ v0 1) ≤ v1) → ((8 : Int32) ≤ v1) → Q σ (some (.ref 0)))
    (o3 : zR σ v0 0 ≠ 0)
    (o4 : zK σ (zR σ v0 0) = 35)
    (o5 : (¬ v1 < 0) → (¬ (zI σ v0 1) ≤ v1) → (¬ (8 : Int32) ≤ v1) → vp_in v1 (zL σ (zR σ v0 0)))
    (k4 : (¬ v1 < 0) → (¬ (zI σ v0 1) ≤ v1) → (¬ (8 : Int32) ≤ v1) → Q σ (some (.ref (zR σ (zR σ v0 0) (Int32.toNatClampNeg v1))))) :
    V g mX4_legAt (Em g mX4_legAt Q X) CX 0 0 0 [(0, .ref v0), (1, .int v1)] [] σ := by
  refine V_iload_n dX4_legAt_0 rfl ?_
  refine V_if_lt 27 dX4_legAt_1 rfl (fun c1 => ?_) (fun c1 => ?_)
  · refine V_null dX4_legAt_27 ?_
    exact V_aret rfl dX4_legAt_28 (k1 c1)
  · refine V_iload_n dX4_legAt_4 rfl ?_
    refine V_aload_n dX4_legAt_5 rfl ?_
    refine V_getf (fk := 1) (Value.int (zI σ v0 1)) ko_X4 rfl w_170 dX4_legAt_6 o1 o2 rfl ?_
    refine V_icmp_ge 27 dX4_legAt_9 rfl (fun c2 => ?_) (fun c2 => ?_)
    · refine V_null dX4_legAt_27 ?_
      exact V_aret rfl dX4_legAt_28 (k2 c1 c2)
    · refine V_iload_n dX4_legAt_12 rfl ?_
      refine V_bipush (8 : Int32) dX4_legAt_13 (by decide) ?_
      refine V_icmp_ge 27 dX4_legAt_15 rfl (fun c3 => ?_) (fun c3 => ?_)
      · refine V_null dX4_legAt_27 ?_
        exact V_aret rfl dX4_legAt_28 (k3 c1 c2 c3)
      · refine V_aload_n dX4_legAt_18 rfl ?_
        refine V_getf (fk := 0) (Value.ref (zR σ v0 0)) ko_X4 rfl w_169 dX4_legAt_19 o1 o2 rfl ?_
        refine V_iload_n dX4_legAt_22 rfl ?_
        refine V_aald ao_35 dX4_legAt_23 o3 o4 (o5 c1 c2 c3) ?_
        refine V_goto 28 dX4_legAt_24 rfl ?_
        exact V_aret rfl dX4_legAt_28 (k4 c1 c2 c3)

set_option maxRecDepth 100000 in
set_option maxHeartbeats 4000000 in
theorem b_X4_goesOn_0 {g : GP} {CX : State → Array Value → Prop} {E : ET} {v0 : Nat} {v1 : Int32} {v2 : Int32} {σ : AH}
    (o1 : v0 ≠ 0)
    (o2 : zK σ v0 = 4)
    (k1 : V g mX4_goesOn E CX 0 0 7 [(0, .ref v0), (1, .int v1), (2, .int v2)] [.int ((zI σ v0 1) - (1 : Int32)), .ref v0] σ) :
    V g mX4_goesOn E CX 0 0 0 [(0, .ref v0), (1, .int v1), (2, .int v2)] [] σ := by
  refine V_aload_n dX4_goesOn_0 rfl ?_
  refine V_aload_n dX4_goesOn_1 rfl ?_
  refine V_getf (fk := 1) (Value.int (zI σ v0 1)) ko_X4 rfl w_170 dX4_goesOn_2 o1 o2 rfl ?_
  refine V_iconst (1 : Int32) dX4_goesOn_5 (by decide) ?_
  refine V_isub dX4_goesOn_6 ?_
  exact k1

set_option maxRecDepth 100000 in
set_option maxHeartbeats 4000000 in
theorem b_X4_add_0 {g : GP} {CX : State → Array Value → Prop} {Q : AH → Option Value → Prop} {X : AH → String → Prop} {v0 : Nat} {v1 : Int32} {v2 : Int32} {v3 : Int32} {v4 : Int32} {σ : AH}
    (o1 : v0 ≠ 0)
    (o2 : zK σ v0 = 4)
    (k1 : ((8 : Int32) ≤ (zI σ v0 1)) → Q σ (some (.int (zI σ v0 1))))
    (o3 : zR σ v0 0 ≠ 0)
    (o4 : zK σ (zR σ v0 0) = 35)
    (o5 : (¬ (8 : Int32) ≤ (zI σ v0 1)) → vp_in (zI σ v0 1) (zL σ (zR σ v0 0)))
    (k2 : (¬ (8 : Int32) ≤ (zI σ v0 1)) → (zR σ (zR σ v0 0) (Int32.toNatClampNeg (zI σ v0 1)) = 0) → Q σ (some (.int (zI σ v0 1))))
    (o6 : (¬ (8 : Int32) ≤ (zI σ v0 1)) → (¬ zR σ (zR σ v0 0) (Int32.toNatClampNeg (zI σ v0 1)) = 0) → zK σ (zR σ (zR σ v0 0) (Int32.toNatClampNeg (zI σ v0 1))) = 5)
    (k3 : (¬ (8 : Int32) ≤ (zI σ v0 1)) → (¬ zR σ (zR σ v0 0) (Int32.toNatClampNeg (zI σ v0 1)) = 0) → Q (uI (uI (uI (uI (uI σ (zR σ (zR σ v0 0) (Int32.toNatClampNeg (zI σ v0 1))) 0 v1) (zR σ (zR σ v0 0) (Int32.toNatClampNeg (zI σ v0 1))) 1 v2) (zR σ (zR σ v0 0) (Int32.toNatClampNeg (zI σ v0 1))) 2 v3) (zR σ (zR σ v0 0) (Int32.toNatClampNeg (zI σ v0 1))) 3 v4) v0 1 ((zI (uI (uI σ (zR σ (zR σ v0 0) (Int32.toNatClampNeg (zI σ v0 1))) 0 v1) (zR σ (zR σ v0 0) (Int32.toNatClampNeg (zI σ v0 1))) 1 v2) v0 1) + (1 : Int32))) (some (.int ((zI (uI (uI σ (zR σ (zR σ v0 0) (Int32.toNatClampNeg (zI σ v0 1))) 0 v1) (zR σ (zR σ v0 0) (Int32.toNatClampNeg (zI σ v0 1))) 1 v2) v0 1) + (1 : Int32))))) :
    V g mX4_add (Em g mX4_add Q X) CX 0 0 0 [(0, .ref v0), (1, .int v1), (2, .int v2), (3, .int v3), (4, .int v4)] [] σ := by
  refine V_aload_n dX4_add_0 rfl ?_
  refine V_getf (fk := 1) (Value.int (zI σ v0 1)) ko_X4 rfl w_170 dX4_add_1 o1 o2 rfl ?_
  refine V_bipush (8 : Int32) dX4_add_4 (by decide) ?_
  refine V_icmp_ge 21 dX4_add_6 rfl (fun c1 => ?_) (fun c1 => ?_)
  · refine V_null dX4_add_21 ?_
    refine V_astore [(0, .ref v0), (1, .int v1), (2, .int v2), (3, .int v3), (4, .int v4), (5, .ref 0)] dX4_add_22 rfl rfl ?_
    refine V_aload dX4_add_24 rfl ?_
    refine V_ifnull 64 dX4_add_26 rfl (fun _ => ?_) (fun z_ => (by first | exact absurd (by decide) z_ | exact absurd z_ (by decide)))
    refine V_aload_n dX4_add_64 rfl ?_
    refine V_getf (fk := 1) (Value.int (zI σ v0 1)) ko_X4 rfl w_170 dX4_add_65 o1 o2 rfl ?_
    exact V_iret rfl dX4_add_68 (k1 c1)
  · refine V_aload_n dX4_add_9 rfl ?_
    refine V_getf (fk := 0) (Value.ref (zR σ v0 0)) ko_X4 rfl w_169 dX4_add_10 o1 o2 rfl ?_
    refine V_aload_n dX4_add_13 rfl ?_
    refine V_getf (fk := 1) (Value.int (zI σ v0 1)) ko_X4 rfl w_170 dX4_add_14 o1 o2 rfl ?_
    refine V_aald ao_35 dX4_add_17 o3 o4 (o5 c1) ?_
    refine V_goto 22 dX4_add_18 rfl ?_
    refine V_astore [(0, .ref v0), (1, .int v1), (2, .int v2), (3, .int v3), (4, .int v4), (5, .ref (zR σ (zR σ v0 0) (Int32.toNatClampNeg (zI σ v0 1))))] dX4_add_22 rfl rfl ?_
    refine V_aload dX4_add_24 rfl ?_
    refine V_ifnull 64 dX4_add_26 rfl (fun c2 => ?_) (fun c2 => ?_)
    · refine V_aload_n dX4_add_64 rfl ?_
      refine V_getf (fk := 1) (Value.int (zI σ v0 1)) ko_X4 rfl w_170 dX4_add_65 o1 o2 rfl ?_
      exact V_iret rfl dX4_add_68 (k2 c1 c2)
    · refine V_aload dX4_add_29 rfl ?_
      refine V_iload_n dX4_add_31 rfl ?_
      refine V_puti (fk := 0) ko_X5 rfl w_152 (Or.inl rfl) dX4_add_32 rfl c2 (o6 c1 c2) ?_
      refine V_aload dX4_add_35 rfl ?_
      refine V_iload_n dX4_add_37 rfl ?_
      refine V_puti (fk := 1) ko_X5 rfl w_155 (Or.inl rfl) dX4_add_38 rfl c2 (o6 c1 c2) ?_
      refine V_aload dX4_add_41 rfl ?_
      refine V_iload_n dX4_add_43 rfl ?_
      refine V_puti (fk := 2) ko_X5 rfl w_157 (Or.inl rfl) dX4_add_44 rfl c2 (o6 c1 c2) ?_
      refine V_aload dX4_add_47 rfl ?_
      refine V_iload dX4_add_49 rfl ?_
      refine V_puti (fk := 3) ko_X5 rfl w_159 (Or.inl rfl) dX4_add_51 rfl c2 (o6 c1 c2) ?_
      refine V_aload_n dX4_add_54 rfl ?_
      refine V_dup dX4_add_55 rfl ?_
      refine V_getf (fk := 1) (Value.int (zI (uI (uI σ (zR σ (zR σ v0 0) (Int32.toNatClampNeg (zI σ v0 1))) 0 v1) (zR σ (zR σ v0 0) (Int32.toNatClampNeg (zI σ v0 1))) 1 v2) v0 1)) ko_X4 rfl w_170 dX4_add_56 o1 o2 (congrArg Value.int ((zI_oth _ _ _ _ _ _ (by decide)).trans (zI_oth _ _ _ _ _ _ (by decide)))) ?_
      refine V_iconst (1 : Int32) dX4_add_59 (by decide) ?_
      refine V_iadd dX4_add_60 ?_
      refine V_puti (fk := 1) ko_X4 rfl w_170 (Or.inl rfl) dX4_add_61 rfl o1 o2 ?_
      refine V_aload_n dX4_add_64 rfl ?_
      refine V_getf (fk := 1) (Value.int ((zI (uI (uI σ (zR σ (zR σ v0 0) (Int32.toNatClampNeg (zI σ v0 1))) 0 v1) (zR σ (zR σ v0 0) (Int32.toNatClampNeg (zI σ v0 1))) 1 v2) v0 1) + (1 : Int32))) ko_X4 rfl w_170 dX4_add_65 o1 o2 (congrArg Value.int (zI_self _ _ _ _)) ?_
      exact V_iret rfl dX4_add_68 (k3 c1 c2)

set_option maxRecDepth 100000 in
set_option maxHeartbeats 4000000 in
theorem b_X4_beginAnew_0 {g : GP} {CX : State → Array Value → Prop} {Q : AH → Option Value → Prop} {X : AH → String → Prop} {v0 : Nat} {σ : AH}
    (o1 : v0 ≠ 0)
    (o2 : zK σ v0 = 4)
    (k1 : Q (uI σ v0 1 (0 : Int32)) (some (.int (zI σ v0 1)))) :
    V g mX4_beginAnew (Em g mX4_beginAnew Q X) CX 0 0 0 [(0, .ref v0)] [] σ := by
  refine V_aload_n dX4_beginAnew_0 rfl ?_
  refine V_getf (fk := 1) (Value.int (zI σ v0 1)) ko_X4 rfl w_170 dX4_beginAnew_1 o1 o2 rfl ?_
  refine V_istore_n [(0, .ref v0), (1, .int (zI σ v0 1))] dX4_beginAnew_4 rfl rfl ?_
  refine V_aload_n dX4_beginAnew_5 rfl ?_
  refine V_iconst (0 : Int32) dX4_beginAnew_6 (by decide) ?_
  refine V_puti (fk := 1) ko_X4 rfl w_170 (Or.inl rfl) dX4_beginAnew_7 rfl o1 o2 ?_
  refine V_iload_n dX4_beginAnew_10 rfl ?_
  exact V_iret rfl dX4_beginAnew_11 k1

set_option maxRecDepth 100000 in
set_option maxHeartbeats 4000000 in
theorem b_X4_hasLegBefore_0 {g : GP} {CX : State → Array Value → Prop} {E : ET} {v0 : Nat} {v1 : Int32} {σ : AH}
    (k1 : V g mX4_hasLegBefore E CX 0 0 2 [(0, .ref v0), (1, .int v1)] [.int (0 : Int32), .ref v0] σ) :
    V g mX4_hasLegBefore E CX 0 0 0 [(0, .ref v0), (1, .int v1)] [] σ := by
  refine V_aload_n dX4_hasLegBefore_0 rfl ?_
  refine V_iconst (0 : Int32) dX4_hasLegBefore_1 (by decide) ?_
  exact k1

set_option maxRecDepth 100000 in
set_option maxHeartbeats 4000000 in
theorem b_X11_isWithin_0 {g : GP} {CX : State → Array Value → Prop} {Q : AH → Option Value → Prop} {X : AH → String → Prop} {v0 : Int32} {v1 : Int32} {v2 : Int32} {σ : AH}
    (k1 : (v0 < v1) → Q σ (some (.int (0 : Int32))))
    (k2 : (¬ v0 < v1) → (v2 < v0) → Q σ (some (.int (0 : Int32))))
    (k3 : (¬ v0 < v1) → (¬ v2 < v0) → Q σ (some (.int (1 : Int32)))) :
    V g mX11_isWithin (Em g mX11_isWithin Q X) CX 0 0 0 [(0, .int v0), (1, .int v1), (2, .int v2)] [] σ := by
  refine V_iload_n dX11_isWithin_0 rfl ?_
  refine V_iload_n dX11_isWithin_1 rfl ?_
  refine V_icmp_lt 14 dX11_isWithin_2 rfl (fun c1 => ?_) (fun c1 => ?_)
  · refine V_iconst (0 : Int32) dX11_isWithin_14 (by decide) ?_
    exact V_zret rfl dX11_isWithin_15 (by decide) (k1 c1)
  · refine V_iload_n dX11_isWithin_5 rfl ?_
    refine V_iload_n dX11_isWithin_6 rfl ?_
    refine V_icmp_gt 14 dX11_isWithin_7 rfl (fun c2 => ?_) (fun c2 => ?_)
    · refine V_iconst (0 : Int32) dX11_isWithin_14 (by decide) ?_
      exact V_zret rfl dX11_isWithin_15 (by decide) (k2 c1 c2)
    · refine V_iconst (1 : Int32) dX11_isWithin_10 (by decide) ?_
      refine V_goto 15 dX11_isWithin_11 rfl ?_
      exact V_zret rfl dX11_isWithin_15 (by decide) (k3 c1 c2)

set_option maxRecDepth 100000 in
set_option maxHeartbeats 4000000 in
theorem b_X4_isPoint_0 {g : GP} {CX : State → Array Value → Prop} {Q : AH → Option Value → Prop} {X : AH → String → Prop} {v0 : Nat} {v1 : Int32} {σ : AH}
    (o1 : v0 ≠ 0)
    (o2 : zK σ v0 = 4)
    (k1 : ((zI σ v0 1) ≤ 0) → Q σ (some (.int (0 : Int32))))
    (k2 : (¬ (zI σ v0 1) ≤ 0) → V g mX4_isPoint (Em g mX4_isPoint Q X) CX 0 0 13 [(0, .ref v0), (1, .int v1)] [.int (zI σ v0 1), .int (0 : Int32), .int v1] σ) :
    V g mX4_isPoint (Em g mX4_isPoint Q X) CX 0 0 0 [(0, .ref v0), (1, .int v1)] [] σ := by
  refine V_aload_n dX4_isPoint_0 rfl ?_
  refine V_getf (fk := 1) (Value.int (zI σ v0 1)) ko_X4 rfl w_170 dX4_isPoint_1 o1 o2 rfl ?_
  refine V_if_le 23 dX4_isPoint_4 rfl (fun c1 => ?_) (fun c1 => ?_)
  · refine V_iconst (0 : Int32) dX4_isPoint_23 (by decide) ?_
    exact V_zret rfl dX4_isPoint_24 (by decide) (k1 c1)
  · refine V_iload_n dX4_isPoint_7 rfl ?_
    refine V_iconst (0 : Int32) dX4_isPoint_8 (by decide) ?_
    refine V_aload_n dX4_isPoint_9 rfl ?_
    refine V_getf (fk := 1) (Value.int (zI σ v0 1)) ko_X4 rfl w_170 dX4_isPoint_10 o1 o2 rfl ?_
    exact (k2 c1)

set_option maxRecDepth 100000 in
set_option maxHeartbeats 4000000 in
theorem b_X4_placeAt_0 {g : GP} {CX : State → Array Value → Prop} {E : ET} {v0 : Nat} {v1 : Int32} {σ : AH}
    (k1 : (¬ v1 = 0) → V g mX4_placeAt E CX 0 0 12 [(0, .ref v0), (1, .int v1)] [.int (v1 - (1 : Int32)), .ref v0] σ)
    (k2 : (v1 = 0) → V g mX4_placeAt E CX 0 0 12 [(0, .ref v0), (1, .int v1)] [.int (0 : Int32), .ref v0] σ) :
    V g mX4_placeAt E CX 0 0 0 [(0, .ref v0), (1, .int v1)] [] σ := by
  refine V_aload_n dX4_placeAt_0 rfl ?_
  refine V_iload_n dX4_placeAt_1 rfl ?_
  refine V_if_ne 9 dX4_placeAt_2 rfl (fun c1 => ?_) (fun c1 => ?_)
  · refine V_iload_n dX4_placeAt_9 rfl ?_
    refine V_iconst (1 : Int32) dX4_placeAt_10 (by decide) ?_
    refine V_isub dX4_placeAt_11 ?_
    exact (k1 c1)
  · refine V_iconst (0 : Int32) dX4_placeAt_5 (by decide) ?_
    refine V_goto 12 dX4_placeAt_6 rfl ?_
    exact (k2 c1)

set_option maxRecDepth 100000 in
set_option maxHeartbeats 4000000 in
theorem b_X4_isStop_0 {g : GP} {CX : State → Array Value → Prop} {E : ET} {v0 : Nat} {v1 : Int32} {σ : AH}
    (k1 : V g mX4_isStop E CX 0 0 4 [(0, .ref v0), (1, .int v1)] [.int (v1 - (1 : Int32)), .ref v0] σ) :
    V g mX4_isStop E CX 0 0 0 [(0, .ref v0), (1, .int v1)] [] σ := by
  refine V_aload_n dX4_isStop_0 rfl ?_
  refine V_iload_n dX4_isStop_1 rfl ?_
  refine V_iconst (1 : Int32) dX4_isStop_2 (by decide) ?_
  refine V_isub dX4_isStop_3 ?_
  exact k1

set_option maxRecDepth 100000 in
set_option maxHeartbeats 4000000 in
theorem b_X8_fareAt_0 {g : GP} {CX : State → Array Value → Prop} {Q : AH → Option Value → Prop} {X : AH → String → Prop} {v0 : Nat} {v1 : Int32} {σ : AH}
    (k1 : (v1 < 0) → Q σ (some (.ref 0)))
    (o1 : v0 ≠ 0)
    (o2 : zK σ v0 = 8)
    (k2 : (¬ v1 < 0) → ((zI σ v0 4) ≤ v1) → Q σ (some (.ref 0)))
    (k3 : (¬ v1 < 0) → (¬ (zI σ v0 4) ≤ v1) → ((40 : Int32) ≤ v1) → Q σ (some (.ref 0)))
    (o3 : zR σ v0 1 ≠ 0)
    (o4 : zK σ (zR σ v0 1) = 33)
    (o5 : (¬ v1 < 0) → (¬ (zI σ v0 4) ≤ v1) → (¬ (40 : Int32) ≤ v1) → vp_in v1 (zL σ (zR σ v0 1)))
    (k4 : (¬ v1 < 0) → (¬ (zI σ v0 4) ≤ v1) → (¬ (40 : Int32) ≤ v1) → Q σ (some (.ref (zR σ (zR σ v0 1) (Int32.toNatClampNeg v1))))) :
    V g mX8_fareAt (Em g mX8_fareAt Q X) CX 0 0 0 [(0, .ref v0), (1, .int v1)] [] σ := by
  refine V_iload_n dX8_fareAt_0 rfl ?_
  refine V_if_lt 22 dX8_fareAt_1 rfl (fun c1 => ?_) (fun c1 => ?_)
  · refine V_iconst (0 : Int32) dX8_fareAt_22 (by decide) ?_
    refine V_istore_n [(0, .ref v0), (1, .int v1), (2, .int (0 : Int32))] dX8_fareAt_23 rfl rfl ?_
    refine V_iload_n dX8_fareAt_24 rfl ?_
    refine V_if_eq 37 dX8_fareAt_25 rfl (fun _ => ?_) (fun z_ => (by first | exact absurd (by decide) z_ | exact absurd z_ (by decide)))
    refine V_null dX8_fareAt_37 ?_
    exact V_aret rfl dX8_fareAt_38 (k1 c1)
  · refine V_iload_n dX8_fareAt_4 rfl ?_
    refine V_aload_n dX8_fareAt_5 rfl ?_
    refine V_getf (fk := 4) (Value.int (zI σ v0 4)) ko_X8 rfl w_101 dX8_fareAt_6 o1 o2 rfl ?_
    refine V_icmp_ge 22 dX8_fareAt_9 rfl (fun c2 => ?_) (fun c2 => ?_)
    · refine V_iconst (0 : Int32) dX8_fareAt_22 (by decide) ?_
      refine V_istore_n [(0, .ref v0), (1, .int v1), (2, .int (0 : Int32))] dX8_fareAt_23 rfl rfl ?_
      refine V_iload_n dX8_fareAt_24 rfl ?_
      refine V_if_eq 37 dX8_fareAt_25 rfl (fun _ => ?_) (fun z_ => (by first | exact absurd (by decide) z_ | exact absurd z_ (by decide)))
      refine V_null dX8_fareAt_37 ?_
      exact V_aret rfl dX8_fareAt_38 (k2 c1 c2)
    · refine V_iload_n dX8_fareAt_12 rfl ?_
      refine V_bipush (40 : Int32) dX8_fareAt_13 (by decide) ?_
      refine V_icmp_ge 22 dX8_fareAt_15 rfl (fun c3 => ?_) (fun c3 => ?_)
      · refine V_iconst (0 : Int32) dX8_fareAt_22 (by decide) ?_
        refine V_istore_n [(0, .ref v0), (1, .int v1), (2, .int (0 : Int32))] dX8_fareAt_23 rfl rfl ?_
        refine V_iload_n dX8_fareAt_24 rfl ?_
        refine V_if_eq 37 dX8_fareAt_25 rfl (fun _ => ?_) (fun z_ => (by first | exact absurd (by decide) z_ | exact absurd z_ (by decide)))
        refine V_null dX8_fareAt_37 ?_
        exact V_aret rfl dX8_fareAt_38 (k3 c1 c2 c3)
      · refine V_iconst (1 : Int32) dX8_fareAt_18 (by decide) ?_
        refine V_goto 23 dX8_fareAt_19 rfl ?_
        refine V_istore_n [(0, .ref v0), (1, .int v1), (2, .int (1 : Int32))] dX8_fareAt_23 rfl rfl ?_
        refine V_iload_n dX8_fareAt_24 rfl ?_
        refine V_if_eq 37 dX8_fareAt_25 rfl (fun z_ => (by first | exact absurd (by decide) z_ | exact absurd z_ (by decide))) (fun _ => ?_)
        refine V_aload_n dX8_fareAt_28 rfl ?_
        refine V_getf (fk := 1) (Value.ref (zR σ v0 1)) ko_X8 rfl w_98 dX8_fareAt_29 o1 o2 rfl ?_
        refine V_iload_n dX8_fareAt_32 rfl ?_
        refine V_aald ao_33 dX8_fareAt_33 o3 o4 (o5 c1 c2 c3) ?_
        refine V_goto 38 dX8_fareAt_34 rfl ?_
        exact V_aret rfl dX8_fareAt_38 (k4 c1 c2 c3)

set_option maxRecDepth 100000 in
set_option maxHeartbeats 4000000 in
theorem b_X8_lowestFare_0 {g : GP} {CX : State → Array Value → Prop} {E : ET} {v0 : Nat} {v1 : Int32} {v2 : Int32} {v3 : Int32} {σ : AH}
    (k1 : V g mX8_lowestFare E CX 0 0 6 [(0, .ref v0), (1, .int v1), (2, .int v2), (3, .int v3), (4, .int (-1 : Int32)), (5, .int (0 : Int32))] [] σ) :
    V g mX8_lowestFare E CX 0 0 0 [(0, .ref v0), (1, .int v1), (2, .int v2), (3, .int v3)] [] σ := by
  refine V_iconst (-1 : Int32) dX8_lowestFare_0 (by decide) ?_
  refine V_istore [(0, .ref v0), (1, .int v1), (2, .int v2), (3, .int v3), (4, .int (-1 : Int32))] dX8_lowestFare_1 rfl rfl ?_
  refine V_iconst (0 : Int32) dX8_lowestFare_3 (by decide) ?_
  refine V_istore [(0, .ref v0), (1, .int v1), (2, .int v2), (3, .int v3), (4, .int (-1 : Int32)), (5, .int (0 : Int32))] dX8_lowestFare_4 rfl rfl ?_
  exact k1
set_option maxRecDepth 100000 in
set_option maxHeartbeats 4000000 in
theorem b_X8_lowestFare_6 {g : GP} {CX : State → Array Value → Prop} {Q : AH → Option Value → Prop} {X : AH → String → Prop} {v0 : Nat} {v1 : Int32} {v2 : Int32} {v3 : Int32} {v4 : Int32} {v5 : Int32} {σ : AH}
    (o1 : v0 ≠ 0)
    (o2 : zK σ v0 = 8)
    (k1 : ((zI σ v0 4) ≤ v5) → Q σ (some (.int v4)))
    (k2 : (¬ (zI σ v0 4) ≤ v5) → V g mX8_lowestFare (Em g mX8_lowestFare Q X) CX 0 0 18 [(0, .ref v0), (1, .int v1), (2, .int v2), (3, .int v3), (4, .int v4), (5, .int v5)] [.int v5, .ref v0] σ) :
    V g mX8_lowestFare (Em g mX8_lowestFare Q X) CX 0 0 6 [(0, .ref v0), (1, .int v1), (2, .int v2), (3, .int v3), (4, .int v4), (5, .int v5)] [] σ := by
  refine V_iload dX8_lowestFare_6 rfl ?_
  refine V_aload_n dX8_lowestFare_8 rfl ?_
  refine V_getf (fk := 4) (Value.int (zI σ v0 4)) ko_X8 rfl w_101 dX8_lowestFare_9 o1 o2 rfl ?_
  refine V_icmp_ge 80 dX8_lowestFare_12 rfl (fun c1 => ?_) (fun c1 => ?_)
  · refine V_iload dX8_lowestFare_80 rfl ?_
    exact V_iret rfl dX8_lowestFare_82 (k1 c1)
  · refine V_aload_n dX8_lowestFare_15 rfl ?_
    refine V_iload dX8_lowestFare_16 rfl ?_
    exact (k2 c1)

set_option maxRecDepth 100000 in
set_option maxHeartbeats 4000000 in
theorem b_X4_stopsBetween_0 {g : GP} {CX : State → Array Value → Prop} {E : ET} {v0 : Nat} {v1 : Int32} {v2 : Int32} {σ : AH}
    (k1 : V g mX4_stopsBetween E CX 0 0 7 [(0, .ref v0), (1, .int v1), (2, .int v2), (3, .int (0 : Int32)), (4, .int (v1 + (1 : Int32)))] [] σ) :
    V g mX4_stopsBetween E CX 0 0 0 [(0, .ref v0), (1, .int v1), (2, .int v2)] [] σ := by
  refine V_iconst (0 : Int32) dX4_stopsBetween_0 (by decide) ?_
  refine V_istore_n [(0, .ref v0), (1, .int v1), (2, .int v2), (3, .int (0 : Int32))] dX4_stopsBetween_1 rfl rfl ?_
  refine V_iload_n dX4_stopsBetween_2 rfl ?_
  refine V_iconst (1 : Int32) dX4_stopsBetween_3 (by decide) ?_
  refine V_iadd dX4_stopsBetween_4 ?_
  refine V_istore [(0, .ref v0), (1, .int v1), (2, .int v2), (3, .int (0 : Int32)), (4, .int (v1 + (1 : Int32)))] dX4_stopsBetween_5 rfl rfl ?_
  exact k1
set_option maxRecDepth 100000 in
set_option maxHeartbeats 4000000 in
theorem b_X4_stopsBetween_7 {g : GP} {CX : State → Array Value → Prop} {Q : AH → Option Value → Prop} {X : AH → String → Prop} {v0 : Nat} {v1 : Int32} {v2 : Int32} {v3 : Int32} {v4 : Int32} {σ : AH}
    (k1 : (v2 ≤ v4) → Q σ (some (.int v3)))
    (k2 : (¬ v2 ≤ v4) → V g mX4_stopsBetween (Em g mX4_stopsBetween Q X) CX 0 0 16 [(0, .ref v0), (1, .int v1), (2, .int v2), (3, .int v3), (4, .int v4)] [.int v4, .ref v0] σ) :
    V g mX4_stopsBetween (Em g mX4_stopsBetween Q X) CX 0 0 7 [(0, .ref v0), (1, .int v1), (2, .int v2), (3, .int v3), (4, .int v4)] [] σ := by
  refine V_iload dX4_stopsBetween_7 rfl ?_
  refine V_iload_n dX4_stopsBetween_9 rfl ?_
  refine V_icmp_ge 31 dX4_stopsBetween_10 rfl (fun c1 => ?_) (fun c1 => ?_)
  · refine V_iload_n dX4_stopsBetween_31 rfl ?_
    exact V_iret rfl dX4_stopsBetween_32 (k1 c1)
  · refine V_aload_n dX4_stopsBetween_13 rfl ?_
    refine V_iload dX4_stopsBetween_14 rfl ?_
    exact (k2 c1)

set_option maxRecDepth 100000 in
set_option maxHeartbeats 4000000 in
theorem b_X11_isPlace_0 {g : GP} {CX : State → Array Value → Prop} {Q : AH → Option Value → Prop} {X : AH → String → Prop} {v0 : Int32} {σ : AH}
    (k1 : (v0 < 0) → Q σ (some (.int (0 : Int32))))
    (k2 : (¬ v0 < 0) → ((10 : Int32) ≤ v0) → Q σ (some (.int (0 : Int32))))
    (k3 : (¬ v0 < 0) → (¬ (10 : Int32) ≤ v0) → Q σ (some (.int (1 : Int32)))) :
    V g mX11_isPlace (Em g mX11_isPlace Q X) CX 0 0 0 [(0, .int v0)] [] σ := by
  refine V_iload_n dX11_isPlace_0 rfl ?_
  refine V_if_lt 14 dX11_isPlace_1 rfl (fun c1 => ?_) (fun c1 => ?_)
  · refine V_iconst (0 : Int32) dX11_isPlace_14 (by decide) ?_
    exact V_zret rfl dX11_isPlace_15 (by decide) (k1 c1)
  · refine V_iload_n dX11_isPlace_4 rfl ?_
    refine V_bipush (10 : Int32) dX11_isPlace_5 (by decide) ?_
    refine V_icmp_ge 14 dX11_isPlace_7 rfl (fun c2 => ?_) (fun c2 => ?_)
    · refine V_iconst (0 : Int32) dX11_isPlace_14 (by decide) ?_
      exact V_zret rfl dX11_isPlace_15 (by decide) (k2 c1 c2)
    · refine V_iconst (1 : Int32) dX11_isPlace_10 (by decide) ?_
      refine V_goto 15 dX11_isPlace_11 rfl ?_
      exact V_zret rfl dX11_isPlace_15 (by decide) (k3 c1 c2)

set_option maxRecDepth 100000 in
set_option maxHeartbeats 4000000 in
theorem b_X6_get_0 {g : GP} {CX : State → Array Value → Prop} {E : ET} {v0 : Nat} {v1 : Int32} {v2 : Int32} {σ : AH}
    (k1 : V g mX6_get E CX 0 0 1 [(0, .ref v0), (1, .int v1), (2, .int v2)] [.int v1] σ) :
    V g mX6_get E CX 0 0 0 [(0, .ref v0), (1, .int v1), (2, .int v2)] [] σ := by
  refine V_iload_n dX6_get_0 rfl ?_
  exact k1

set_option maxRecDepth 100000 in
set_option maxHeartbeats 4000000 in
theorem b_X4_milesOfLegs_0 {g : GP} {CX : State → Array Value → Prop} {E : ET} {v0 : Nat} {v1 : Nat} {v2 : Int32} {v3 : Int32} {σ : AH}
    (k1 : V g mX4_milesOfLegs E CX 0 0 6 [(0, .ref v0), (1, .ref v1), (2, .int v2), (3, .int v3), (4, .int (0 : Int32)), (5, .int v2)] [] σ) :
    V g mX4_milesOfLegs E CX 0 0 0 [(0, .ref v0), (1, .ref v1), (2, .int v2), (3, .int v3)] [] σ := by
  refine V_iconst (0 : Int32) dX4_milesOfLegs_0 (by decide) ?_
  refine V_istore [(0, .ref v0), (1, .ref v1), (2, .int v2), (3, .int v3), (4, .int (0 : Int32))] dX4_milesOfLegs_1 rfl rfl ?_
  refine V_iload_n dX4_milesOfLegs_3 rfl ?_
  refine V_istore [(0, .ref v0), (1, .ref v1), (2, .int v2), (3, .int v3), (4, .int (0 : Int32)), (5, .int v2)] dX4_milesOfLegs_4 rfl rfl ?_
  exact k1
set_option maxRecDepth 100000 in
set_option maxHeartbeats 4000000 in
theorem b_X4_milesOfLegs_6 {g : GP} {CX : State → Array Value → Prop} {Q : AH → Option Value → Prop} {X : AH → String → Prop} {v0 : Nat} {v1 : Nat} {v2 : Int32} {v3 : Int32} {v4 : Int32} {v5 : Int32} {σ : AH}
    (k1 : (v3 ≤ v5) → Q σ (some (.int v4)))
    (k2 : (¬ v3 ≤ v5) → V g mX4_milesOfLegs (Em g mX4_milesOfLegs Q X) CX 0 0 15 [(0, .ref v0), (1, .ref v1), (2, .int v2), (3, .int v3), (4, .int v4), (5, .int v5)] [.int v5, .ref v0] σ) :
    V g mX4_milesOfLegs (Em g mX4_milesOfLegs Q X) CX 0 0 6 [(0, .ref v0), (1, .ref v1), (2, .int v2), (3, .int v3), (4, .int v4), (5, .int v5)] [] σ := by
  refine V_iload dX4_milesOfLegs_6 rfl ?_
  refine V_iload_n dX4_milesOfLegs_8 rfl ?_
  refine V_icmp_ge 50 dX4_milesOfLegs_9 rfl (fun c1 => ?_) (fun c1 => ?_)
  · refine V_iload dX4_milesOfLegs_50 rfl ?_
    exact V_iret rfl dX4_milesOfLegs_52 (k1 c1)
  · refine V_aload_n dX4_milesOfLegs_12 rfl ?_
    refine V_iload dX4_milesOfLegs_13 rfl ?_
    exact (k2 c1)

set_option maxRecDepth 100000 in
set_option maxHeartbeats 4000000 in
theorem b_X8_surcharge_0 {g : GP} {CX : State → Array Value → Prop} {E : ET} {v0 : Nat} {v1 : Int32} {v2 : Int32} {v3 : Int32} {σ : AH}
    (o1 : v0 ≠ 0)
    (o2 : zK σ v0 = 8)
    (k1 : V g mX8_surcharge E CX 0 0 6 [(0, .ref v0), (1, .int v1), (2, .int v2), (3, .int v3)] [.int v2, .int v1, .ref (zR σ v0 0)] σ) :
    V g mX8_surcharge E CX 0 0 0 [(0, .ref v0), (1, .int v1), (2, .int v2), (3, .int v3)] [] σ := by
  refine V_aload_n dX8_surcharge_0 rfl ?_
  refine V_getf (fk := 0) (Value.ref (zR σ v0 0)) ko_X8 rfl w_95 dX8_surcharge_1 o1 o2 rfl ?_
  refine V_iload_n dX8_surcharge_4 rfl ?_
  refine V_iload_n dX8_surcharge_5 rfl ?_
  exact k1

set_option maxRecDepth 100000 in
set_option maxHeartbeats 4000000 in
theorem b_X4_highestBetween_0 {g : GP} {CX : State → Array Value → Prop} {E : ET} {v0 : Nat} {v1 : Nat} {v2 : Int32} {v3 : Int32} {σ : AH}
    (k1 : V g mX4_highestBetween E CX 0 0 8 [(0, .ref v0), (1, .ref v1), (2, .int v2), (3, .int v3), (4, .int (-1 : Int32)), (5, .int (v2 + (1 : Int32)))] [] σ) :
    V g mX4_highestBetween E CX 0 0 0 [(0, .ref v0), (1, .ref v1), (2, .int v2), (3, .int v3)] [] σ := by
  refine V_iconst (-1 : Int32) dX4_highestBetween_0 (by decide) ?_
  refine V_istore [(0, .ref v0), (1, .ref v1), (2, .int v2), (3, .int v3), (4, .int (-1 : Int32))] dX4_highestBetween_1 rfl rfl ?_
  refine V_iload_n dX4_highestBetween_3 rfl ?_
  refine V_iconst (1 : Int32) dX4_highestBetween_4 (by decide) ?_
  refine V_iadd dX4_highestBetween_5 ?_
  refine V_istore [(0, .ref v0), (1, .ref v1), (2, .int v2), (3, .int v3), (4, .int (-1 : Int32)), (5, .int (v2 + (1 : Int32)))] dX4_highestBetween_6 rfl rfl ?_
  exact k1
set_option maxRecDepth 100000 in
set_option maxHeartbeats 4000000 in
theorem b_X4_highestBetween_8 {g : GP} {CX : State → Array Value → Prop} {Q : AH → Option Value → Prop} {X : AH → String → Prop} {v0 : Nat} {v1 : Nat} {v2 : Int32} {v3 : Int32} {v4 : Int32} {v5 : Int32} {σ : AH}
    (k1 : (v3 ≤ v5) → Q σ (some (.int v4)))
    (k2 : (¬ v3 ≤ v5) → V g mX4_highestBetween (Em g mX4_highestBetween Q X) CX 0 0 19 [(0, .ref v0), (1, .ref v1), (2, .int v2), (3, .int v3), (4, .int v4), (5, .int v5)] [.int v2, .ref v0, .ref v1, .int v4] σ) :
    V g mX4_highestBetween (Em g mX4_highestBetween Q X) CX 0 0 8 [(0, .ref v0), (1, .ref v1), (2, .int v2), (3, .int v3), (4, .int v4), (5, .int v5)] [] σ := by
  refine V_iload dX4_highestBetween_8 rfl ?_
  refine V_iload_n dX4_highestBetween_10 rfl ?_
  refine V_icmp_ge 43 dX4_highestBetween_11 rfl (fun c1 => ?_) (fun c1 => ?_)
  · refine V_iload dX4_highestBetween_43 rfl ?_
    exact V_iret rfl dX4_highestBetween_45 (k1 c1)
  · refine V_iload dX4_highestBetween_14 rfl ?_
    refine V_aload_n dX4_highestBetween_16 rfl ?_
    refine V_aload_n dX4_highestBetween_17 rfl ?_
    refine V_iload_n dX4_highestBetween_18 rfl ?_
    exact (k2 c1)

set_option maxRecDepth 100000 in
set_option maxHeartbeats 4000000 in
theorem b_X8_roundedUp_0 {g : GP} {CX : State → Array Value → Prop} {Q : AH → Option Value → Prop} {X : AH → String → Prop} {v0 : Nat} {v1 : Int32} {v2 : Int32} {σ : AH}
    (o1 : v0 ≠ 0)
    (o2 : zK σ v0 = 8)
    (k1 : ((lg_cmp ((100 : Int64) * (Int32.toInt64 (zI σ v0 5))) (0 : Int64)) ≤ 0) → Q σ (some (.int v1)))
    (o3 : (¬ (lg_cmp ((100 : Int64) * (Int32.toInt64 (zI σ v0 5))) (0 : Int64)) ≤ 0) → ¬ (100 : Int64) * (Int32.toInt64 (zI σ v0 5)) = 0)
    (k2 : (¬ (lg_cmp ((100 : Int64) * (Int32.toInt64 (zI σ v0 5))) (0 : Int64)) ≤ 0) → Q σ (some (.int (Int64.toInt32 ((((((Int32.toInt64 v1) * (Int32.toInt64 ((100 : Int32) + v2))) + ((100 : Int64) * (Int32.toInt64 (zI σ v0 5)))) - (1 : Int64)) / ((100 : Int64) * (Int32.toInt64 (zI σ v0 5)))) * (Int32.toInt64 (zI σ v0 5))))))) :
    V g mX8_roundedUp (Em g mX8_roundedUp Q X) CX 0 0 0 [(0, .ref v0), (1, .int v1), (2, .int v2)] [] σ := by
  refine V_iload_n dX8_roundedUp_0 rfl ?_
  refine V_i2l dX8_roundedUp_1 ?_
  refine V_bipush (100 : Int32) dX8_roundedUp_2 (by decide) ?_
  refine V_iload_n dX8_roundedUp_4 rfl ?_
  refine V_iadd dX8_roundedUp_5 ?_
  refine V_i2l dX8_roundedUp_6 ?_
  refine V_lmul dX8_roundedUp_7 ?_
  refine V_lstore_n [(0, .ref v0), (1, .int v1), (2, .int v2), (3, .long ((Int32.toInt64 v1) * (Int32.toInt64 ((100 : Int32) + v2))))] dX8_roundedUp_8 rfl rfl ?_
  refine V_ldc2 (v := (100 : Int64)) w_341 dX8_roundedUp_9 ?_
  refine V_aload_n dX8_roundedUp_12 rfl ?_
  refine V_getf (fk := 5) (Value.int (zI σ v0 5)) ko_X8 rfl w_103 dX8_roundedUp_13 o1 o2 rfl ?_
  refine V_i2l dX8_roundedUp_16 ?_
  refine V_lmul dX8_roundedUp_17 ?_
  refine V_lstore [(0, .ref v0), (1, .int v1), (2, .int v2), (3, .long ((Int32.toInt64 v1) * (Int32.toInt64 ((100 : Int32) + v2)))), (5, .long ((100 : Int64) * (Int32.toInt64 (zI σ v0 5))))] dX8_roundedUp_18 rfl rfl ?_
  refine V_lload dX8_roundedUp_20 rfl ?_
  refine V_lconst (0 : Int64) dX8_roundedUp_22 (by decide) ?_
  refine V_lcmp dX8_roundedUp_23 ?_
  refine V_if_le 46 dX8_roundedUp_24 rfl (fun c1 => ?_) (fun c1 => ?_)
  · refine V_iload_n dX8_roundedUp_46 rfl ?_
    exact V_iret rfl dX8_roundedUp_47 (k1 c1)
  · refine V_lload_n dX8_roundedUp_27 rfl ?_
    refine V_lload dX8_roundedUp_28 rfl ?_
    refine V_ladd dX8_roundedUp_30 ?_
    refine V_lconst (1 : Int64) dX8_roundedUp_31 (by decide) ?_
    refine V_lsub dX8_roundedUp_32 ?_
    refine V_lload dX8_roundedUp_33 rfl ?_
    refine V_ldiv dX8_roundedUp_35 (o3 c1) ?_
    refine V_aload_n dX8_roundedUp_36 rfl ?_
    refine V_getf (fk := 5) (Value.int (zI σ v0 5)) ko_X8 rfl w_103 dX8_roundedUp_37 o1 o2 rfl ?_
    refine V_i2l dX8_roundedUp_40 ?_
    refine V_lmul dX8_roundedUp_41 ?_
    refine V_l2i dX8_roundedUp_42 ?_
    refine V_goto 47 dX8_roundedUp_43 rfl ?_
    exact V_iret rfl dX8_roundedUp_47 (k2 c1)

set_option maxRecDepth 100000 in
set_option maxHeartbeats 4000000 in
theorem b_X4_priceOfPart_0 {g : GP} {CX : State → Array Value → Prop} {E : ET} {v0 : Nat} {v1 : Nat} {v2 : Int32} {v3 : Int32} {σ : AH}
    (k1 : V g mX4_priceOfPart E CX 0 0 2 [(0, .ref v0), (1, .ref v1), (2, .int v2), (3, .int v3)] [.int v2, .ref v0] σ) :
    V g mX4_priceOfPart E CX 0 0 0 [(0, .ref v0), (1, .ref v1), (2, .int v2), (3, .int v3)] [] σ := by
  refine V_aload_n dX4_priceOfPart_0 rfl ?_
  refine V_iload_n dX4_priceOfPart_1 rfl ?_
  exact k1

set_option maxRecDepth 100000 in
set_option maxHeartbeats 4000000 in
theorem b_X6_init_0 {g : GP} {CX : State → Array Value → Prop} {Q : AH → Option Value → Prop} {X : AH → String → Prop} {v0 : Nat} {σ : AH}
    (o1 : v0 ≠ 0)
    (o2 : zK σ v0 = 6)
    (o3 : v0 ≤ zN σ)
    (k1 : Q (uR (nw σ 20 100) v0 0 (zN σ + 1)) none) :
    V g mX6_init (Em g mX6_init Q X) CX 1 100 0 [(0, .ref v0)] [] σ := by
  refine V_aload_n dX6_init_0 rfl ?_
  refine V_objinit w_87 w_74 w_75 dX6_init_1 o1 rfl rfl ?_
  refine V_aload_n dX6_init_4 rfl ?_
  refine V_bipush (100 : Int32) dX6_init_5 (by decide) ?_
  refine V_newi (len := 100) (k' := 0) (n' := 0) w_92 dX6_init_7 (by decide) (by decide) rfl rfl rfl ?_
  refine V_putr (fk := 0) ko_X6 rfl w_88 (Or.inr ⟨rfl, rfl, rfl⟩) dX6_init_9 rfl o1 (by have q1_ := o2; have q2_ := o3; simp only [zK_nw, zN_nw, zN_uI, zN_uJ, zN_uR, zK_uI, zK_uJ, zK_uR]; repeat rw [if_neg (by omega)]; exact q1_) ?_
  exact V_vret rfl dX6_init_12 k1

set_option maxRecDepth 100000 in
set_option maxHeartbeats 4000000 in
theorem b_X6_put_0 {g : GP} {CX : State → Array Value → Prop} {E : ET} {v0 : Nat} {v1 : Int32} {v2 : Int32} {v3 : Int32} {σ : AH}
    (k1 : V g mX6_put E CX 0 0 3 [(0, .ref v0), (1, .int v1), (2, .int v2), (3, .int v3)] [.int v2, .int v1, .ref v0] σ) :
    V g mX6_put E CX 0 0 0 [(0, .ref v0), (1, .int v1), (2, .int v2), (3, .int v3)] [] σ := by
  refine V_aload_n dX6_put_0 rfl ?_
  refine V_iload_n dX6_put_1 rfl ?_
  refine V_iload_n dX6_put_2 rfl ?_
  exact k1

set_option maxRecDepth 100000 in
set_option maxHeartbeats 4000000 in
theorem b_X7_init_0 {g : GP} {CX : State → Array Value → Prop} {E : ET} {v0 : Nat} {σ : AH}
    (o1 : v0 ≠ 0)
    (k1 : V g mX7_init E CX 2 600 9 [(0, .ref v0)] [.ref (zN σ + 1), .ref (zN σ + 1), .ref v0] (nw σ 6 1)) :
    V g mX7_init E CX 3 601 0 [(0, .ref v0)] [] σ := by
  refine V_aload_n dX7_init_0 rfl ?_
  refine V_objinit w_127 w_74 w_75 dX7_init_1 o1 rfl rfl ?_
  refine V_aload_n dX7_init_4 rfl ?_
  refine V_new (k' := 2) (n' := 600) ko_X6 kd_X6 w_128 w_83 w_50 dX7_init_5 rfl rfl ?_
  refine V_dup dX7_init_8 rfl ?_
  exact k1

set_option maxRecDepth 100000 in
set_option maxHeartbeats 4000000 in
theorem b_X7_provisoOf_0 {g : GP} {CX : State → Array Value → Prop} {E : ET} {v0 : Nat} {v1 : Int32} {v2 : Int32} {v3 : Int32} {σ : AH}
    (k1 : V g mX7_provisoOf E CX 0 0 1 [(0, .ref v0), (1, .int v1), (2, .int v2), (3, .int v3)] [.int v1] σ) :
    V g mX7_provisoOf E CX 0 0 0 [(0, .ref v0), (1, .int v1), (2, .int v2), (3, .int v3)] [] σ := by
  refine V_iload_n dX7_provisoOf_0 rfl ?_
  exact k1

set_option maxRecDepth 100000 in
set_option maxHeartbeats 4000000 in
theorem b_X7_putProviso_0 {g : GP} {CX : State → Array Value → Prop} {E : ET} {v0 : Nat} {v1 : Int32} {v2 : Int32} {v3 : Int32} {v4 : Int32} {σ : AH}
    (k1 : V g mX7_putProviso E CX 0 0 4 [(0, .ref v0), (1, .int v1), (2, .int v2), (3, .int v3), (4, .int v4)] [.int v3, .int v2, .int v1, .ref v0] σ) :
    V g mX7_putProviso E CX 0 0 0 [(0, .ref v0), (1, .int v1), (2, .int v2), (3, .int v3), (4, .int v4)] [] σ := by
  refine V_aload_n dX7_putProviso_0 rfl ?_
  refine V_iload_n dX7_putProviso_1 rfl ?_
  refine V_iload_n dX7_putProviso_2 rfl ?_
  refine V_iload_n dX7_putProviso_3 rfl ?_
  exact k1

set_option maxRecDepth 100000 in
set_option maxHeartbeats 4000000 in
theorem b_X7_weightOf_0 {g : GP} {CX : State → Array Value → Prop} {E : ET} {v0 : Nat} {v1 : Nat} {v2 : Nat} {σ : AH}
    (o1 : v0 ≠ 0)
    (o2 : zK σ v0 = 7)
    (o3 : v1 ≠ 0)
    (o4 : zK σ v1 = 2)
    (k1 : V g mX7_weightOf E CX 0 0 12 [(0, .ref v0), (1, .ref v1), (2, .ref v2)] [.int (zI σ v1 1), .int (zI σ v1 0), .ref (zR σ v0 0)] σ) :
    V g mX7_weightOf E CX 0 0 0 [(0, .ref v0), (1, .ref v1), (2, .ref v2)] [] σ := by
  refine V_aload_n dX7_weightOf_0 rfl ?_
  refine V_getf (fk := 0) (Value.ref (zR σ v0 0)) ko_X7 rfl w_130 dX7_weightOf_1 o1 o2 rfl ?_
  refine V_aload_n dX7_weightOf_4 rfl ?_
  refine V_getf (fk := 0) (Value.int (zI σ v1 0)) ko_X2 rfl w_762 dX7_weightOf_5 o3 o4 rfl ?_
  refine V_aload_n dX7_weightOf_8 rfl ?_
  refine V_getf (fk := 1) (Value.int (zI σ v1 1)) ko_X2 rfl w_765 dX7_weightOf_9 o3 o4 rfl ?_
  exact k1

set_option maxRecDepth 100000 in
set_option maxHeartbeats 4000000 in
theorem b_X9_couponAt_0 {g : GP} {CX : State → Array Value → Prop} {Q : AH → Option Value → Prop} {X : AH → String → Prop} {v0 : Nat} {v1 : Int32} {σ : AH}
    (k1 : (v1 < 0) → Q σ (some (.ref 0)))
    (o1 : v0 ≠ 0)
    (o2 : zK σ v0 = 9)
    (k2 : (¬ v1 < 0) → ((zI σ v0 4) ≤ v1) → Q σ (some (.ref 0)))
    (k3 : (¬ v1 < 0) → (¬ (zI σ v0 4) ≤ v1) → ((8 : Int32) ≤ v1) → Q σ (some (.ref 0)))
    (o3 : zR σ v0 3 ≠ 0)
    (o4 : zK σ (zR σ v0 3) = 32)
    (o5 : (¬ v1 < 0) → (¬ (zI σ v0 4) ≤ v1) → (¬ (8 : Int32) ≤ v1) → vp_in v1 (zL σ (zR σ v0 3)))
    (k4 : (¬ v1 < 0) → (¬ (zI σ v0 4) ≤ v1) → (¬ (8 : Int32) ≤ v1) → Q σ (some (.ref (zR σ (zR σ v0 3) (Int32.toNatClampNeg v1))))) :
    V g mX9_couponAt (Em g mX9_couponAt Q X) CX 0 0 0 [(0, .ref v0), (1, .int v1)] [] σ := by
  refine V_iload_n dX9_couponAt_0 rfl ?_
  refine V_if_lt 27 dX9_couponAt_1 rfl (fun c1 => ?_) (fun c1 => ?_)
  · refine V_null dX9_couponAt_27 ?_
    exact V_aret rfl dX9_couponAt_28 (k1 c1)
  · refine V_iload_n dX9_couponAt_4 rfl ?_
    refine V_aload_n dX9_couponAt_5 rfl ?_
    refine V_getf (fk := 4) (Value.int (zI σ v0 4)) ko_X9 rfl w_726 dX9_couponAt_6 o1 o2 rfl ?_
    refine V_icmp_ge 27 dX9_couponAt_9 rfl (fun c2 => ?_) (fun c2 => ?_)
    · refine V_null dX9_couponAt_27 ?_
      exact V_aret rfl dX9_couponAt_28 (k2 c1 c2)
    · refine V_iload_n dX9_couponAt_12 rfl ?_
      refine V_bipush (8 : Int32) dX9_couponAt_13 (by decide) ?_
      refine V_icmp_ge 27 dX9_couponAt_15 rfl (fun c3 => ?_) (fun c3 => ?_)
      · refine V_null dX9_couponAt_27 ?_
        exact V_aret rfl dX9_couponAt_28 (k3 c1 c2 c3)
      · refine V_aload_n dX9_couponAt_18 rfl ?_
        refine V_getf (fk := 3) (Value.ref (zR σ v0 3)) ko_X9 rfl w_725 dX9_couponAt_19 o1 o2 rfl ?_
        refine V_iload_n dX9_couponAt_22 rfl ?_
        refine V_aald ao_32 dX9_couponAt_23 o3 o4 (o5 c1 c2 c3) ?_
        refine V_goto 28 dX9_couponAt_24 rfl ?_
        exact V_aret rfl dX9_couponAt_28 (k4 c1 c2 c3)

set_option maxRecDepth 100000 in
set_option maxHeartbeats 4000000 in
theorem b_X7_shareByWeights_0 {g : GP} {CX : State → Array Value → Prop} {E : ET} {v0 : Nat} {v1 : Nat} {v2 : Int32} {v3 : Int32} {v4 : Int32} {v5 : Int32} {σ : AH}
    (k1 : V g mX7_shareByWeights E CX 0 0 10 [(0, .ref v0), (1, .ref v1), (2, .int v2), (3, .int v3), (4, .int v4), (5, .int v5), (6, .ref 0), (7, .int v4), (8, .int v2)] [] σ) :
    V g mX7_shareByWeights E CX 0 0 0 [(0, .ref v0), (1, .ref v1), (2, .int v2), (3, .int v3), (4, .int v4), (5, .int v5)] [] σ := by
  refine V_null dX7_shareByWeights_0 ?_
  refine V_astore [(0, .ref v0), (1, .ref v1), (2, .int v2), (3, .int v3), (4, .int v4), (5, .int v5), (6, .ref 0)] dX7_shareByWeights_1 rfl rfl ?_
  refine V_iload dX7_shareByWeights_3 rfl ?_
  refine V_istore [(0, .ref v0), (1, .ref v1), (2, .int v2), (3, .int v3), (4, .int v4), (5, .int v5), (6, .ref 0), (7, .int v4)] dX7_shareByWeights_5 rfl rfl ?_
  refine V_iload_n dX7_shareByWeights_7 rfl ?_
  refine V_istore [(0, .ref v0), (1, .ref v1), (2, .int v2), (3, .int v3), (4, .int v4), (5, .int v5), (6, .ref 0), (7, .int v4), (8, .int v2)] dX7_shareByWeights_8 rfl rfl ?_
  exact k1
set_option maxRecDepth 100000 in
set_option maxHeartbeats 4000000 in
theorem b_X7_shareByWeights_10 {g : GP} {CX : State → Array Value → Prop} {Q : AH → Option Value → Prop} {X : AH → String → Prop} {v0 : Nat} {v1 : Nat} {v2 : Int32} {v3 : Int32} {v4 : Int32} {v5 : Int32} {v6 : Nat} {v7 : Int32} {v8 : Int32} {σ : AH}
    (k1 : (v3 ≤ v8) → (v6 = 0) → Q σ none)
    (o1 : (v3 ≤ v8) → (¬ v6 = 0) → zK σ v6 = 2)
    (k2 : (v3 ≤ v8) → (¬ v6 = 0) → Q (uI σ v6 6 ((zI σ v6 6) + v7)) none)
    (k3 : (¬ v3 ≤ v8) → V g mX7_shareByWeights (Em g mX7_shareByWeights Q X) CX 0 0 19 [(0, .ref v0), (1, .ref v1), (2, .int v2), (3, .int v3), (4, .int v4), (5, .int v5), (6, .ref v6), (7, .int v7), (8, .int v8)] [.int v8, .ref v1] σ) :
    V g mX7_shareByWeights (Em g mX7_shareByWeights Q X) CX 0 0 10 [(0, .ref v0), (1, .ref v1), (2, .int v2), (3, .int v3), (4, .int v4), (5, .int v5), (6, .ref v6), (7, .int v7), (8, .int v8)] [] σ := by
  refine V_iload dX7_shareByWeights_10 rfl ?_
  refine V_iload_n dX7_shareByWeights_12 rfl ?_
  refine V_icmp_ge 82 dX7_shareByWeights_13 rfl (fun c1 => ?_) (fun c1 => ?_)
  · refine V_aload dX7_shareByWeights_82 rfl ?_
    refine V_ifnull 99 dX7_shareByWeights_84 rfl (fun c2 => ?_) (fun c2 => ?_)
    · exact V_vret rfl dX7_shareByWeights_99 (k1 c1 c2)
    · refine V_aload dX7_shareByWeights_87 rfl ?_
      refine V_dup dX7_shareByWeights_89 rfl ?_
      refine V_getf (fk := 6) (Value.int (zI σ v6 6)) ko_X2 rfl w_775 dX7_shareByWeights_90 c2 (o1 c1 c2) rfl ?_
      refine V_iload dX7_shareByWeights_93 rfl ?_
      refine V_iadd dX7_shareByWeights_95 ?_
      refine V_puti (fk := 6) ko_X2 rfl w_775 (Or.inl rfl) dX7_shareByWeights_96 rfl c2 (o1 c1 c2) ?_
      exact V_vret rfl dX7_shareByWeights_99 (k2 c1 c2)
  · refine V_aload_n dX7_shareByWeights_16 rfl ?_
    refine V_iload dX7_shareByWeights_17 rfl ?_
    exact (k3 c1)

set_option maxRecDepth 100000 in
set_option maxHeartbeats 4000000 in
theorem b_X7_share_0 {g : GP} {CX : State → Array Value → Prop} {E : ET} {v0 : Nat} {v1 : Nat} {v2 : Int32} {v3 : Int32} {v4 : Int32} {v5 : Nat} {σ : AH}
    (k1 : V g mX7_share E CX 0 0 10 [(0, .ref v0), (1, .ref v1), (2, .int v2), (3, .int v3), (4, .int v4), (5, .ref v5), (6, .int v4), (7, .int (0 : Int32)), (8, .int v2)] [] σ) :
    V g mX7_share E CX 0 0 0 [(0, .ref v0), (1, .ref v1), (2, .int v2), (3, .int v3), (4, .int v4), (5, .ref v5)] [] σ := by
  refine V_iload dX7_share_0 rfl ?_
  refine V_istore [(0, .ref v0), (1, .ref v1), (2, .int v2), (3, .int v3), (4, .int v4), (5, .ref v5), (6, .int v4)] dX7_share_2 rfl rfl ?_
  refine V_iconst (0 : Int32) dX7_share_4 (by decide) ?_
  refine V_istore [(0, .ref v0), (1, .ref v1), (2, .int v2), (3, .int v3), (4, .int v4), (5, .ref v5), (6, .int v4), (7, .int (0 : Int32))] dX7_share_5 rfl rfl ?_
  refine V_iload_n dX7_share_7 rfl ?_
  refine V_istore [(0, .ref v0), (1, .ref v1), (2, .int v2), (3, .int v3), (4, .int v4), (5, .ref v5), (6, .int v4), (7, .int (0 : Int32)), (8, .int v2)] dX7_share_8 rfl rfl ?_
  exact k1
set_option maxRecDepth 100000 in
set_option maxHeartbeats 4000000 in
theorem b_X7_share_10 {g : GP} {CX : State → Array Value → Prop} {Q : AH → Option Value → Prop} {X : AH → String → Prop} {v0 : Nat} {v1 : Nat} {v2 : Int32} {v3 : Int32} {v4 : Int32} {v5 : Nat} {v6 : Int32} {v7 : Int32} {v8 : Int32} {σ : AH}
    (k1 : (v3 ≤ v8) → (0 < v7) → V g mX7_share (Em g mX7_share Q X) CX 0 0 129 [(0, .ref v0), (1, .ref v1), (2, .int v2), (3, .int v3), (4, .int v4), (5, .ref v5), (6, .int v6), (7, .int v7), (8, .int v8)] [.int v7, .int v6, .int v3, .int v2, .ref v1, .ref v0] σ)
    (k2 : (v3 ≤ v8) → (¬ 0 < v7) → Q σ (some (.int v6)))
    (k3 : (¬ v3 ≤ v8) → V g mX7_share (Em g mX7_share Q X) CX 0 0 19 [(0, .ref v0), (1, .ref v1), (2, .int v2), (3, .int v3), (4, .int v4), (5, .ref v5), (6, .int v6), (7, .int v7), (8, .int v8)] [.int v8, .ref v1] σ) :
    V g mX7_share (Em g mX7_share Q X) CX 0 0 10 [(0, .ref v0), (1, .ref v1), (2, .int v2), (3, .int v3), (4, .int v4), (5, .ref v5), (6, .int v6), (7, .int v7), (8, .int v8)] [] σ := by
  refine V_iload dX7_share_10 rfl ?_
  refine V_iload_n dX7_share_12 rfl ?_
  refine V_icmp_ge 113 dX7_share_13 rfl (fun c1 => ?_) (fun c1 => ?_)
  · refine V_iload dX7_share_113 rfl ?_
    refine V_if_gt 121 dX7_share_115 rfl (fun c2 => ?_) (fun c2 => ?_)
    · refine V_aload_n dX7_share_121 rfl ?_
      refine V_aload_n dX7_share_122 rfl ?_
      refine V_iload_n dX7_share_123 rfl ?_
      refine V_iload_n dX7_share_124 rfl ?_
      refine V_iload dX7_share_125 rfl ?_
      refine V_iload dX7_share_127 rfl ?_
      exact (k1 c1 c2)
    · refine V_iload dX7_share_118 rfl ?_
      exact V_iret rfl dX7_share_120 (k2 c1 c2)
  · refine V_aload_n dX7_share_16 rfl ?_
    refine V_iload dX7_share_17 rfl ?_
    exact (k3 c1)

set_option maxRecDepth 100000 in
set_option maxHeartbeats 4000000 in
theorem b_X8_init_0 {g : GP} {CX : State → Array Value → Prop} {E : ET} {v0 : Nat} {σ : AH}
    (o1 : v0 ≠ 0)
    (k1 : V g mX8_init E CX 4 160 9 [(0, .ref v0)] [.ref (zN σ + 1), .ref (zN σ + 1), .ref v0] (nw σ 6 1)) :
    V g mX8_init E CX 5 161 0 [(0, .ref v0)] [] σ := by
  refine V_aload_n dX8_init_0 rfl ?_
  refine V_objinit w_81 w_74 w_75 dX8_init_1 o1 rfl rfl ?_
  refine V_aload_n dX8_init_4 rfl ?_
  refine V_new (k' := 4) (n' := 160) ko_X6 kd_X6 w_82 w_83 w_50 dX8_init_5 rfl rfl ?_
  refine V_dup dX8_init_8 rfl ?_
  exact k1

set_option maxRecDepth 100000 in
set_option maxHeartbeats 4000000 in
theorem b_X8_file_0 {g : GP} {CX : State → Array Value → Prop} {Q : AH → Option Value → Prop} {X : AH → String → Prop} {v0 : Nat} {v1 : Nat} {σ : AH}
    (o1 : v0 ≠ 0)
    (o2 : zK σ v0 = 8)
    (o3 : zR σ v0 1 ≠ 0)
    (o4 : zK σ (zR σ v0 1) = 33)
    (o5 : ((zI σ v0 4) < (40 : Int32)) → vp_in (zI σ v0 4) (zL σ (zR σ v0 1)))
    (o6 : ((zI σ v0 4) < (40 : Int32)) → v1 ≠ 0)
    (o7 : ((zI σ v0 4) < (40 : Int32)) → zK σ v1 = 3)
    (k1 : ((zI σ v0 4) < (40 : Int32)) → Q (uI (uR σ (zR σ v0 1) (Int32.toNatClampNeg (zI σ v0 4)) v1) v0 4 ((zI σ v0 4) + (1 : Int32))) (some (.int (((zI σ v0 4) + (1 : Int32)) - (1 : Int32)))))
    (k2 : (¬ (zI σ v0 4) < (40 : Int32)) → Q σ (some (.int (-1 : Int32)))) :
    V g mX8_file (Em g mX8_file Q X) CX 0 0 0 [(0, .ref v0), (1, .ref v1)] [] σ := by
  refine V_aload_n dX8_file_0 rfl ?_
  refine V_getf (fk := 4) (Value.int (zI σ v0 4)) ko_X8 rfl w_101 dX8_file_1 o1 o2 rfl ?_
  refine V_bipush (40 : Int32) dX8_file_4 (by decide) ?_
  refine V_icmp_lt 11 dX8_file_6 rfl (fun c1 => ?_) (fun c1 => ?_)
  · refine V_aload_n dX8_file_11 rfl ?_
    refine V_getf (fk := 1) (Value.ref (zR σ v0 1)) ko_X8 rfl w_98 dX8_file_12 o1 o2 rfl ?_
    refine V_aload_n dX8_file_15 rfl ?_
    refine V_getf (fk := 4) (Value.int (zI σ v0 4)) ko_X8 rfl w_101 dX8_file_16 o1 o2 rfl ?_
    refine V_aload_n dX8_file_19 rfl ?_
    refine V_aast ao_33 ko_X3 dX8_file_20 o3 o4 (o5 c1) (o6 c1) (o7 c1) ?_
    refine V_aload_n dX8_file_21 rfl ?_
    refine V_dup dX8_file_22 rfl ?_
    refine V_getf (fk := 4) (Value.int (zI σ v0 4)) ko_X8 rfl w_101 dX8_file_23 o1 o2 rfl ?_
    refine V_iconst (1 : Int32) dX8_file_26 (by decide) ?_
    refine V_iadd dX8_file_27 ?_
    refine V_puti (fk := 4) ko_X8 rfl w_101 (Or.inl rfl) dX8_file_28 rfl o1 o2 ?_
    refine V_aload_n dX8_file_31 rfl ?_
    refine V_getf (fk := 4) (Value.int ((zI σ v0 4) + (1 : Int32))) ko_X8 rfl w_101 dX8_file_32 o1 o2 (congrArg Value.int (zI_self _ _ _ _)) ?_
    refine V_iconst (1 : Int32) dX8_file_35 (by decide) ?_
    refine V_isub dX8_file_36 ?_
    exact V_iret rfl dX8_file_37 (k1 c1)
  · refine V_iconst (-1 : Int32) dX8_file_9 (by decide) ?_
    exact V_iret rfl dX8_file_10 (k2 c1)

set_option maxRecDepth 100000 in
set_option maxHeartbeats 4000000 in
theorem b_X8_putTaxes_0 {g : GP} {CX : State → Array Value → Prop} {E : ET} {v0 : Nat} {v1 : Int32} {v2 : Int32} {v3 : Int32} {σ : AH}
    (k1 : V g mX8_putTaxes E CX 0 0 1 [(0, .ref v0), (1, .int v1), (2, .int v2), (3, .int v3)] [.int v1] σ) :
    V g mX8_putTaxes E CX 0 0 0 [(0, .ref v0), (1, .int v1), (2, .int v2), (3, .int v3)] [] σ := by
  refine V_iload_n dX8_putTaxes_0 rfl ?_
  exact k1

set_option maxRecDepth 100000 in
set_option maxHeartbeats 4000000 in
theorem b_X8_taxAt_0 {g : GP} {CX : State → Array Value → Prop} {E : ET} {v0 : Nat} {v1 : Int32} {v2 : Int32} {σ : AH}
    (k1 : V g mX8_taxAt E CX 0 0 1 [(0, .ref v0), (1, .int v1), (2, .int v2)] [.int v1] σ) :
    V g mX8_taxAt E CX 0 0 0 [(0, .ref v0), (1, .int v1), (2, .int v2)] [] σ := by
  refine V_iload_n dX8_taxAt_0 rfl ?_
  exact k1

set_option maxRecDepth 100000 in
set_option maxHeartbeats 4000000 in
theorem b_X9_init_0 {g : GP} {CX : State → Array Value → Prop} {Q : AH → Option Value → Prop} {X : AH → String → Prop} {v0 : Nat} {v1 : Int32} {v2 : Int32} {v3 : Int32} {σ : AH}
    (o1 : v0 ≠ 0)
    (o2 : zK σ v0 = 9)
    (o3 : v0 ≤ zN σ)
    (k1 : Q (uI (uI (uI (uR (nw σ 32 8) v0 3 (zN σ + 1)) v0 0 v1) v0 1 v2) v0 2 v3) none) :
    V g mX9_init (Em g mX9_init Q X) CX 1 8 0 [(0, .ref v0), (1, .int v1), (2, .int v2), (3, .int v3)] [] σ := by
  refine V_aload_n dX9_init_0 rfl ?_
  refine V_objinit w_716 w_74 w_75 dX9_init_1 o1 rfl rfl ?_
  refine V_aload_n dX9_init_4 rfl ?_
  refine V_bipush (8 : Int32) dX9_init_5 (by decide) ?_
  refine V_newq (len := 8) (k' := 0) (n' := 0) ao_32 (by decide +kernel) w_717 dX9_init_7 (by decide) (by decide) rfl rfl rfl ?_
  refine V_putr (fk := 3) ko_X9 rfl w_725 (Or.inr ⟨rfl, rfl, rfl⟩) dX9_init_10 rfl o1 (by have q1_ := o2; have q2_ := o3; simp only [zK_nw, zN_nw, zN_uI, zN_uJ, zN_uR, zK_uI, zK_uJ, zK_uR]; repeat rw [if_neg (by omega)]; exact q1_) ?_
  refine V_aload_n dX9_init_13 rfl ?_
  refine V_iload_n dX9_init_14 rfl ?_
  refine V_puti (fk := 0) ko_X9 rfl w_719 (Or.inr ⟨rfl, rfl, rfl⟩) dX9_init_15 rfl o1 (by have q1_ := o2; have q2_ := o3; simp only [zK_nw, zN_nw, zN_uI, zN_uJ, zN_uR, zK_uI, zK_uJ, zK_uR]; repeat rw [if_neg (by omega)]; exact q1_) ?_
  refine V_aload_n dX9_init_18 rfl ?_
  refine V_iload_n dX9_init_19 rfl ?_
  refine V_puti (fk := 1) ko_X9 rfl w_721 (Or.inr ⟨rfl, rfl, rfl⟩) dX9_init_20 rfl o1 (by have q1_ := o2; have q2_ := o3; simp only [zK_nw, zN_nw, zN_uI, zN_uJ, zN_uR, zK_uI, zK_uJ, zK_uR]; repeat rw [if_neg (by omega)]; exact q1_) ?_
  refine V_aload_n dX9_init_23 rfl ?_
  refine V_iload_n dX9_init_24 rfl ?_
  refine V_puti (fk := 2) ko_X9 rfl w_723 (Or.inr ⟨rfl, rfl, rfl⟩) dX9_init_25 rfl o1 (by have q1_ := o2; have q2_ := o3; simp only [zK_nw, zN_nw, zN_uI, zN_uJ, zN_uR, zK_uI, zK_uJ, zK_uR]; repeat rw [if_neg (by omega)]; exact q1_) ?_
  exact V_vret rfl dX9_init_28 k1

set_option maxRecDepth 100000 in
set_option maxHeartbeats 4000000 in
theorem b_X9_add_0 {g : GP} {CX : State → Array Value → Prop} {Q : AH → Option Value → Prop} {X : AH → String → Prop} {v0 : Nat} {v1 : Nat} {σ : AH}
    (o1 : v0 ≠ 0)
    (o2 : zK σ v0 = 9)
    (k1 : ((8 : Int32) ≤ (zI σ v0 4)) → Q σ none)
    (o3 : zR σ v0 3 ≠ 0)
    (o4 : zK σ (zR σ v0 3) = 32)
    (o5 : (¬ (8 : Int32) ≤ (zI σ v0 4)) → vp_in (zI σ v0 4) (zL σ (zR σ v0 3)))
    (o6 : (¬ (8 : Int32) ≤ (zI σ v0 4)) → v1 ≠ 0)
    (o7 : (¬ (8 : Int32) ≤ (zI σ v0 4)) → zK σ v1 = 2)
    (k2 : (¬ (8 : Int32) ≤ (zI σ v0 4)) → Q (uI (uI (uR σ (zR σ v0 3) (Int32.toNatClampNeg (zI σ v0 4)) v1) v0 4 ((zI σ v0 4) + (1 : Int32))) v0 5 ((zI σ v0 5) + (zI σ v1 3))) none) :
    V g mX9_add (Em g mX9_add Q X) CX 0 0 0 [(0, .ref v0), (1, .ref v1)] [] σ := by
  refine V_aload_n dX9_add_0 rfl ?_
  refine V_getf (fk := 4) (Value.int (zI σ v0 4)) ko_X9 rfl w_726 dX9_add_1 o1 o2 rfl ?_
  refine V_bipush (8 : Int32) dX9_add_4 (by decide) ?_
  refine V_icmp_ge 42 dX9_add_6 rfl (fun c1 => ?_) (fun c1 => ?_)
  · exact V_vret rfl dX9_add_42 (k1 c1)
  · refine V_aload_n dX9_add_9 rfl ?_
    refine V_getf (fk := 3) (Value.ref (zR σ v0 3)) ko_X9 rfl w_725 dX9_add_10 o1 o2 rfl ?_
    refine V_aload_n dX9_add_13 rfl ?_
    refine V_getf (fk := 4) (Value.int (zI σ v0 4)) ko_X9 rfl w_726 dX9_add_14 o1 o2 rfl ?_
    refine V_aload_n dX9_add_17 rfl ?_
    refine V_aast ao_32 ko_X2 dX9_add_18 o3 o4 (o5 c1) (o6 c1) (o7 c1) ?_
    refine V_aload_n dX9_add_19 rfl ?_
    refine V_dup dX9_add_20 rfl ?_
    refine V_getf (fk := 4) (Value.int (zI σ v0 4)) ko_X9 rfl w_726 dX9_add_21 o1 o2 rfl ?_
    refine V_iconst (1 : Int32) dX9_add_24 (by decide) ?_
    refine V_iadd dX9_add_25 ?_
    refine V_puti (fk := 4) ko_X9 rfl w_726 (Or.inl rfl) dX9_add_26 rfl o1 o2 ?_
    refine V_aload_n dX9_add_29 rfl ?_
    refine V_dup dX9_add_30 rfl ?_
    refine V_getf (fk := 5) (Value.int (zI σ v0 5)) ko_X9 rfl w_728 dX9_add_31 o1 o2 (congrArg Value.int (zI_oth _ _ _ _ _ _ (by decide))) ?_
    refine V_aload_n dX9_add_34 rfl ?_
    refine V_getf (fk := 3) (Value.int (zI σ v1 3)) ko_X2 rfl w_769 dX9_add_35 (o6 c1) (o7 c1) (congrArg Value.int (zI_oth _ _ _ _ _ _ (by decide))) ?_
    refine V_iadd dX9_add_38 ?_
    refine V_puti (fk := 5) ko_X9 rfl w_728 (Or.inl rfl) dX9_add_39 rfl o1 o2 ?_
    exact V_vret rfl dX9_add_42 (k2 c1)

set_option maxRecDepth 100000 in
set_option maxHeartbeats 4000000 in
theorem b_X9_openAt_0 {g : GP} {CX : State → Array Value → Prop} {E : ET} {v0 : Nat} {v1 : Int32} {σ : AH}
    (k1 : V g mX9_openAt E CX 0 0 2 [(0, .ref v0), (1, .int v1)] [.int v1, .ref v0] σ) :
    V g mX9_openAt E CX 0 0 0 [(0, .ref v0), (1, .int v1)] [] σ := by
  refine V_aload_n dX9_openAt_0 rfl ?_
  refine V_iload_n dX9_openAt_1 rfl ?_
  exact k1

set_option maxRecDepth 100000 in
set_option maxHeartbeats 4000000 in
theorem b_X9_hasOpenOnes_0 {g : GP} {CX : State → Array Value → Prop} {E : ET} {v0 : Nat} {σ : AH}
    (k1 : V g mX9_hasOpenOnes E CX 0 0 2 [(0, .ref v0), (1, .int (0 : Int32))] [] σ) :
    V g mX9_hasOpenOnes E CX 0 0 0 [(0, .ref v0)] [] σ := by
  refine V_iconst (0 : Int32) dX9_hasOpenOnes_0 (by decide) ?_
  refine V_istore_n [(0, .ref v0), (1, .int (0 : Int32))] dX9_hasOpenOnes_1 rfl rfl ?_
  exact k1
set_option maxRecDepth 100000 in
set_option maxHeartbeats 4000000 in
theorem b_X9_hasOpenOnes_2 {g : GP} {CX : State → Array Value → Prop} {Q : AH → Option Value → Prop} {X : AH → String → Prop} {v0 : Nat} {v1 : Int32} {σ : AH}
    (o1 : v0 ≠ 0)
    (o2 : zK σ v0 = 9)
    (k1 : ((zI σ v0 4) ≤ v1) → Q σ (some (.int (0 : Int32))))
    (k2 : (¬ (zI σ v0 4) ≤ v1) → V g mX9_hasOpenOnes (Em g mX9_hasOpenOnes Q X) CX 0 0 12 [(0, .ref v0), (1, .int v1)] [.int v1, .ref v0] σ) :
    V g mX9_hasOpenOnes (Em g mX9_hasOpenOnes Q X) CX 0 0 2 [(0, .ref v0), (1, .int v1)] [] σ := by
  refine V_iload_n dX9_hasOpenOnes_2 rfl ?_
  refine V_aload_n dX9_hasOpenOnes_3 rfl ?_
  refine V_getf (fk := 4) (Value.int (zI σ v0 4)) ko_X9 rfl w_726 dX9_hasOpenOnes_4 o1 o2 rfl ?_
  refine V_icmp_ge 26 dX9_hasOpenOnes_7 rfl (fun c1 => ?_) (fun c1 => ?_)
  · refine V_iconst (0 : Int32) dX9_hasOpenOnes_26 (by decide) ?_
    exact V_zret rfl dX9_hasOpenOnes_27 (by decide) (k1 c1)
  · refine V_aload_n dX9_hasOpenOnes_10 rfl ?_
    refine V_iload_n dX9_hasOpenOnes_11 rfl ?_
    exact (k2 c1)

set_option maxRecDepth 100000 in
set_option maxHeartbeats 4000000 in
theorem b_X9_openShares_0 {g : GP} {CX : State → Array Value → Prop} {E : ET} {v0 : Nat} {σ : AH}
    (k1 : V g mX9_openShares E CX 0 0 4 [(0, .ref v0), (1, .int (0 : Int32)), (2, .int (0 : Int32))] [] σ) :
    V g mX9_openShares E CX 0 0 0 [(0, .ref v0)] [] σ := by
  refine V_iconst (0 : Int32) dX9_openShares_0 (by decide) ?_
  refine V_istore_n [(0, .ref v0), (1, .int (0 : Int32))] dX9_openShares_1 rfl rfl ?_
  refine V_iconst (0 : Int32) dX9_openShares_2 (by decide) ?_
  refine V_istore_n [(0, .ref v0), (1, .int (0 : Int32)), (2, .int (0 : Int32))] dX9_openShares_3 rfl rfl ?_
  exact k1
set_option maxRecDepth 100000 in
set_option maxHeartbeats 4000000 in
theorem b_X9_openShares_4 {g : GP} {CX : State → Array Value → Prop} {Q : AH → Option Value → Prop} {X : AH → String → Prop} {v0 : Nat} {v1 : Int32} {v2 : Int32} {σ : AH}
    (o1 : v0 ≠ 0)
    (o2 : zK σ v0 = 9)
    (k1 : ((zI σ v0 4) ≤ v2) → Q σ (some (.int v1)))
    (k2 : (¬ (zI σ v0 4) ≤ v2) → V g mX9_openShares (Em g mX9_openShares Q X) CX 0 0 14 [(0, .ref v0), (1, .int v1), (2, .int v2)] [.int v2, .ref v0] σ) :
    V g mX9_openShares (Em g mX9_openShares Q X) CX 0 0 4 [(0, .ref v0), (1, .int v1), (2, .int v2)] [] σ := by
  refine V_iload_n dX9_openShares_4 rfl ?_
  refine V_aload_n dX9_openShares_5 rfl ?_
  refine V_getf (fk := 4) (Value.int (zI σ v0 4)) ko_X9 rfl w_726 dX9_openShares_6 o1 o2 rfl ?_
  refine V_icmp_ge 39 dX9_openShares_9 rfl (fun c1 => ?_) (fun c1 => ?_)
  · refine V_iload_n dX9_openShares_39 rfl ?_
    exact V_iret rfl dX9_openShares_40 (k1 c1)
  · refine V_aload_n dX9_openShares_12 rfl ?_
    refine V_iload_n dX9_openShares_13 rfl ?_
    exact (k2 c1)

set_option maxRecDepth 100000 in
set_option maxHeartbeats 4000000 in
theorem b_X9_openTaxes_0 {g : GP} {CX : State → Array Value → Prop} {E : ET} {v0 : Nat} {σ : AH}
    (k1 : V g mX9_openTaxes E CX 0 0 4 [(0, .ref v0), (1, .int (0 : Int32)), (2, .int (0 : Int32))] [] σ) :
    V g mX9_openTaxes E CX 0 0 0 [(0, .ref v0)] [] σ := by
  refine V_iconst (0 : Int32) dX9_openTaxes_0 (by decide) ?_
  refine V_istore_n [(0, .ref v0), (1, .int (0 : Int32))] dX9_openTaxes_1 rfl rfl ?_
  refine V_iconst (0 : Int32) dX9_openTaxes_2 (by decide) ?_
  refine V_istore_n [(0, .ref v0), (1, .int (0 : Int32)), (2, .int (0 : Int32))] dX9_openTaxes_3 rfl rfl ?_
  exact k1
set_option maxRecDepth 100000 in
set_option maxHeartbeats 4000000 in
theorem b_X9_openTaxes_4 {g : GP} {CX : State → Array Value → Prop} {Q : AH → Option Value → Prop} {X : AH → String → Prop} {v0 : Nat} {v1 : Int32} {v2 : Int32} {σ : AH}
    (o1 : v0 ≠ 0)
    (o2 : zK σ v0 = 9)
    (k1 : ((zI σ v0 4) ≤ v2) → Q σ (some (.int v1)))
    (k2 : (¬ (zI σ v0 4) ≤ v2) → V g mX9_openTaxes (Em g mX9_openTaxes Q X) CX 0 0 14 [(0, .ref v0), (1, .int v1), (2, .int v2)] [.int v2, .ref v0] σ) :
    V g mX9_openTaxes (Em g mX9_openTaxes Q X) CX 0 0 4 [(0, .ref v0), (1, .int v1), (2, .int v2)] [] σ := by
  refine V_iload_n dX9_openTaxes_4 rfl ?_
  refine V_aload_n dX9_openTaxes_5 rfl ?_
  refine V_getf (fk := 4) (Value.int (zI σ v0 4)) ko_X9 rfl w_726 dX9_openTaxes_6 o1 o2 rfl ?_
  refine V_icmp_ge 39 dX9_openTaxes_9 rfl (fun c1 => ?_) (fun c1 => ?_)
  · refine V_iload_n dX9_openTaxes_39 rfl ?_
    exact V_iret rfl dX9_openTaxes_40 (k1 c1)
  · refine V_aload_n dX9_openTaxes_12 rfl ?_
    refine V_iload_n dX9_openTaxes_13 rfl ?_
    exact (k2 c1)

set_option maxRecDepth 100000 in
set_option maxHeartbeats 4000000 in
theorem b_X9_flownTaxes_0 {g : GP} {CX : State → Array Value → Prop} {E : ET} {v0 : Nat} {σ : AH}
    (k1 : V g mX9_flownTaxes E CX 0 0 4 [(0, .ref v0), (1, .int (0 : Int32)), (2, .int (0 : Int32))] [] σ) :
    V g mX9_flownTaxes E CX 0 0 0 [(0, .ref v0)] [] σ := by
  refine V_iconst (0 : Int32) dX9_flownTaxes_0 (by decide) ?_
  refine V_istore_n [(0, .ref v0), (1, .int (0 : Int32))] dX9_flownTaxes_1 rfl rfl ?_
  refine V_iconst (0 : Int32) dX9_flownTaxes_2 (by decide) ?_
  refine V_istore_n [(0, .ref v0), (1, .int (0 : Int32)), (2, .int (0 : Int32))] dX9_flownTaxes_3 rfl rfl ?_
  exact k1
set_option maxRecDepth 100000 in
set_option maxHeartbeats 4000000 in
theorem b_X9_flownTaxes_4 {g : GP} {CX : State → Array Value → Prop} {Q : AH → Option Value → Prop} {X : AH → String → Prop} {v0 : Nat} {v1 : Int32} {v2 : Int32} {σ : AH}
    (o1 : v0 ≠ 0)
    (o2 : zK σ v0 = 9)
    (k1 : ((zI σ v0 4) ≤ v2) → Q σ (some (.int v1)))
    (k2 : (¬ (zI σ v0 4) ≤ v2) → V g mX9_flownTaxes (Em g mX9_flownTaxes Q X) CX 0 0 14 [(0, .ref v0), (1, .int v1), (2, .int v2)] [.int v2, .ref v0] σ) :
    V g mX9_flownTaxes (Em g mX9_flownTaxes Q X) CX 0 0 4 [(0, .ref v0), (1, .int v1), (2, .int v2)] [] σ := by
  refine V_iload_n dX9_flownTaxes_4 rfl ?_
  refine V_aload_n dX9_flownTaxes_5 rfl ?_
  refine V_getf (fk := 4) (Value.int (zI σ v0 4)) ko_X9 rfl w_726 dX9_flownTaxes_6 o1 o2 rfl ?_
  refine V_icmp_ge 47 dX9_flownTaxes_9 rfl (fun c1 => ?_) (fun c1 => ?_)
  · refine V_iload_n dX9_flownTaxes_47 rfl ?_
    exact V_iret rfl dX9_flownTaxes_48 (k1 c1)
  · refine V_aload_n dX9_flownTaxes_12 rfl ?_
    refine V_iload_n dX9_flownTaxes_13 rfl ?_
    exact (k2 c1)

set_option maxRecDepth 100000 in
set_option maxHeartbeats 4000000 in
theorem b_X9_turnOpenOnes_0 {g : GP} {CX : State → Array Value → Prop} {E : ET} {v0 : Nat} {v1 : Int32} {v2 : Int32} {σ : AH}
    (k1 : V g mX9_turnOpenOnes E CX 0 0 2 [(0, .ref v0), (1, .int v1), (2, .int v2), (3, .int (0 : Int32))] [] σ) :
    V g mX9_turnOpenOnes E CX 0 0 0 [(0, .ref v0), (1, .int v1), (2, .int v2)] [] σ := by
  refine V_iconst (0 : Int32) dX9_turnOpenOnes_0 (by decide) ?_
  refine V_istore_n [(0, .ref v0), (1, .int v1), (2, .int v2), (3, .int (0 : Int32))] dX9_turnOpenOnes_1 rfl rfl ?_
  exact k1
set_option maxRecDepth 100000 in
set_option maxHeartbeats 4000000 in
theorem b_X9_turnOpenOnes_2 {g : GP} {CX : State → Array Value → Prop} {Q : AH → Option Value → Prop} {X : AH → String → Prop} {v0 : Nat} {v1 : Int32} {v2 : Int32} {v3 : Int32} {σ : AH}
    (k1 : (v1 ≤ v3) → Q σ none)
    (k2 : (¬ v1 ≤ v3) → V g mX9_turnOpenOnes (Em g mX9_turnOpenOnes Q X) CX 0 0 9 [(0, .ref v0), (1, .int v1), (2, .int v2), (3, .int v3)] [.int v3, .ref v0] σ) :
    V g mX9_turnOpenOnes (Em g mX9_turnOpenOnes Q X) CX 0 0 2 [(0, .ref v0), (1, .int v1), (2, .int v2), (3, .int v3)] [] σ := by
  refine V_iload_n dX9_turnOpenOnes_2 rfl ?_
  refine V_iload_n dX9_turnOpenOnes_3 rfl ?_
  refine V_icmp_ge 31 dX9_turnOpenOnes_4 rfl (fun c1 => ?_) (fun c1 => ?_)
  · exact V_vret rfl dX9_turnOpenOnes_31 (k1 c1)
  · refine V_aload_n dX9_turnOpenOnes_7 rfl ?_
    refine V_iload_n dX9_turnOpenOnes_8 rfl ?_
    exact (k2 c1)

set_option maxRecDepth 100000 in
set_option maxHeartbeats 4000000 in
theorem b_X10_init_0 {g : GP} {CX : State → Array Value → Prop} {Q : AH → Option Value → Prop} {X : AH → String → Prop} {v0 : Nat} {σ : AH}
    (o1 : v0 ≠ 0)
    (o2 : zK σ v0 = 10)
    (o3 : v0 ≤ zN σ)
    (k1 : Q (uI (uI (uR (nw (uR (nw (uR (nw σ 20 9) v0 0 (zN σ + 1)) 20 9) v0 1 (zN σ + 2)) 20 81) v0 2 (zN σ + 3)) v0 3 (-1 : Int32)) v0 4 (-1 : Int32)) none) :
    V g mX10_init (Em g mX10_init Q X) CX 3 99 0 [(0, .ref v0)] [] σ := by
  refine V_aload_n dX10_init_0 rfl ?_
  refine V_objinit w_183 w_74 w_75 dX10_init_1 o1 rfl rfl ?_
  refine V_aload_n dX10_init_4 rfl ?_
  refine V_bipush (9 : Int32) dX10_init_5 (by decide) ?_
  refine V_newi (len := 9) (k' := 2) (n' := 90) w_92 dX10_init_7 (by decide) (by decide) rfl rfl rfl ?_
  refine V_putr (fk := 0) ko_X10 rfl w_184 (Or.inr ⟨rfl, rfl, rfl⟩) dX10_init_9 rfl o1 (by have q1_ := o2; have q2_ := o3; simp only [zK_nw, zN_nw, zN_uI, zN_uJ, zN_uR, zK_uI, zK_uJ, zK_uR]; repeat rw [if_neg (by omega)]; exact q1_) ?_
  refine V_aload_n dX10_init_12 rfl ?_
  refine V_bipush (9 : Int32) dX10_init_13 (by decide) ?_
  refine V_newi (len := 9) (k' := 1) (n' := 81) w_92 dX10_init_15 (by decide) (by decide) rfl rfl rfl ?_
  refine V_putr (fk := 1) ko_X10 rfl w_185 (Or.inr ⟨rfl, rfl, rfl⟩) dX10_init_17 rfl o1 (by have q1_ := o2; have q2_ := o3; simp only [zK_nw, zN_nw, zN_uI, zN_uJ, zN_uR, zK_uI, zK_uJ, zK_uR]; repeat rw [if_neg (by omega)]; exact q1_) ?_
  refine V_aload_n dX10_init_20 rfl ?_
  refine V_bipush (81 : Int32) dX10_init_21 (by decide) ?_
  refine V_newi (len := 81) (k' := 0) (n' := 0) w_92 dX10_init_23 (by decide) (by decide) rfl rfl rfl ?_
  refine V_putr (fk := 2) ko_X10 rfl w_186 (Or.inr ⟨rfl, rfl, rfl⟩) dX10_init_25 rfl o1 (by have q1_ := o2; have q2_ := o3; simp only [zK_nw, zN_nw, zN_uI, zN_uJ, zN_uR, zK_uI, zK_uJ, zK_uR]; repeat rw [if_neg (by omega)]; exact q1_) ?_
  refine V_aload_n dX10_init_28 rfl ?_
  refine V_iconst (-1 : Int32) dX10_init_29 (by decide) ?_
  refine V_puti (fk := 3) ko_X10 rfl w_187 (Or.inl rfl) dX10_init_30 rfl o1 (by have q1_ := o2; have q2_ := o3; simp only [zK_nw, zN_nw, zN_uI, zN_uJ, zN_uR, zK_uI, zK_uJ, zK_uR]; repeat rw [if_neg (by omega)]; exact q1_) ?_
  refine V_aload_n dX10_init_33 rfl ?_
  refine V_iconst (-1 : Int32) dX10_init_34 (by decide) ?_
  refine V_puti (fk := 4) ko_X10 rfl w_189 (Or.inl rfl) dX10_init_35 rfl o1 (by have q1_ := o2; have q2_ := o3; simp only [zK_nw, zN_nw, zN_uI, zN_uJ, zN_uR, zK_uI, zK_uJ, zK_uR]; repeat rw [if_neg (by omega)]; exact q1_) ?_
  exact V_vret rfl dX10_init_38 k1

set_option maxRecDepth 100000 in
set_option maxHeartbeats 4000000 in
theorem b_X10_goOn_0 {g : GP} {CX : State → Array Value → Prop} {E : ET} {v0 : Nat} {v1 : Int32} {v2 : Int32} {v3 : Int32} {σ : AH}
    (k1 : V g mX10_goOn E CX 0 0 4 [(0, .ref v0), (1, .int v1), (2, .int v2), (3, .int v3)] [.int (8 : Int32), .int (0 : Int32), .int v1] σ) :
    V g mX10_goOn E CX 0 0 0 [(0, .ref v0), (1, .int v1), (2, .int v2), (3, .int v3)] [] σ := by
  refine V_iload_n dX10_goOn_0 rfl ?_
  refine V_iconst (0 : Int32) dX10_goOn_1 (by decide) ?_
  refine V_bipush (8 : Int32) dX10_goOn_2 (by decide) ?_
  exact k1

set_option maxRecDepth 100000 in
set_option maxHeartbeats 4000000 in
theorem b_X10_findLeast_0 {g : GP} {CX : State → Array Value → Prop} {Q : AH → Option Value → Prop} {X : AH → String → Prop} {v0 : Nat} {v1 : Nat} {v2 : Nat} {σ : AH}
    (o1 : v0 ≠ 0)
    (o2 : zK σ v0 = 10)
    (o3 : v1 ≠ 0)
    (o4 : zK σ v1 = 4)
    (k1 : ((zI σ v1 1) < (1 : Int32)) → Q (uI (uI σ v0 3 (-1 : Int32)) v0 4 (-1 : Int32)) none)
    (o5 : zR σ v0 0 ≠ 0)
    (o6 : zK σ (zR σ v0 0) = 20)
    (o7 : (¬ (zI σ v1 1) < (1 : Int32)) → ((zI σ v1 1) < (9 : Int32)) → vp_in (0 : Int32) (zL σ (zR σ v0 0)))
    (o8 : zR σ v0 1 ≠ 0)
    (o9 : zK σ (zR σ v0 1) = 20)
    (o10 : (¬ (zI σ v1 1) < (1 : Int32)) → ((zI σ v1 1) < (9 : Int32)) → vp_in (0 : Int32) (zL σ (zR σ v0 1)))
    (k2 : (¬ (zI σ v1 1) < (1 : Int32)) → ((zI σ v1 1) < (9 : Int32)) → V g mX10_findLeast (Em g mX10_findLeast Q X) CX 0 0 44 [(0, .ref v0), (1, .ref v1), (2, .ref v2), (3, .int (1 : Int32))] [] (uI (uI (uI (uI σ v0 3 (-1 : Int32)) v0 4 (-1 : Int32)) (zR σ v0 0) (Int32.toNatClampNeg (0 : Int32)) (0 : Int32)) (zR σ v0 1) (Int32.toNatClampNeg (0 : Int32)) (0 : Int32)))
    (k3 : (¬ (zI σ v1 1) < (1 : Int32)) → (¬ (zI σ v1 1) < (9 : Int32)) → Q (uI (uI σ v0 3 (-1 : Int32)) v0 4 (-1 : Int32)) none) :
    V g mX10_findLeast (Em g mX10_findLeast Q X) CX 0 0 0 [(0, .ref v0), (1, .ref v1), (2, .ref v2)] [] σ := by
  refine V_aload_n dX10_findLeast_0 rfl ?_
  refine V_iconst (-1 : Int32) dX10_findLeast_1 (by decide) ?_
  refine V_puti (fk := 3) ko_X10 rfl w_187 (Or.inl rfl) dX10_findLeast_2 rfl o1 o2 ?_
  refine V_aload_n dX10_findLeast_5 rfl ?_
  refine V_iconst (-1 : Int32) dX10_findLeast_6 (by decide) ?_
  refine V_puti (fk := 4) ko_X10 rfl w_189 (Or.inl rfl) dX10_findLeast_7 rfl o1 o2 ?_
  refine V_aload_n dX10_findLeast_10 rfl ?_
  refine V_getf (fk := 1) (Value.int (zI σ v1 1)) ko_X4 rfl w_171 dX10_findLeast_11 o3 o4 (congrArg Value.int ((zI_oth _ _ _ _ _ _ (by decide)).trans (zI_oth _ _ _ _ _ _ (by decide)))) ?_
  refine V_iconst (1 : Int32) dX10_findLeast_14 (by decide) ?_
  refine V_icmp_lt 27 dX10_findLeast_15 rfl (fun c1 => ?_) (fun c1 => ?_)
  · exact V_vret rfl dX10_findLeast_27 (k1 c1)
  · refine V_aload_n dX10_findLeast_18 rfl ?_
    refine V_getf (fk := 1) (Value.int (zI σ v1 1)) ko_X4 rfl w_171 dX10_findLeast_19 o3 o4 (congrArg Value.int ((zI_oth _ _ _ _ _ _ (by decide)).trans (zI_oth _ _ _ _ _ _ (by decide)))) ?_
    refine V_bipush (9 : Int32) dX10_findLeast_22 (by decide) ?_
    refine V_icmp_lt 28 dX10_findLeast_24 rfl (fun c2 => ?_) (fun c2 => ?_)
    · refine V_aload_n dX10_findLeast_28 rfl ?_
      refine V_getf (fk := 0) (Value.ref (zR σ v0 0)) ko_X10 rfl w_184 dX10_findLeast_29 o1 o2 rfl ?_
      refine V_iconst (0 : Int32) dX10_findLeast_32 (by decide) ?_
      refine V_iconst (0 : Int32) dX10_findLeast_33 (by decide) ?_
      refine V_iast dX10_findLeast_34 o5 o6 (o7 c1 c2) ?_
      refine V_aload_n dX10_findLeast_35 rfl ?_
      refine V_getf (fk := 1) (Value.ref (zR σ v0 1)) ko_X10 rfl w_185 dX10_findLeast_36 o1 o2 rfl ?_
      refine V_iconst (0 : Int32) dX10_findLeast_39 (by decide) ?_
      refine V_iconst (0 : Int32) dX10_findLeast_40 (by decide) ?_
      refine V_iast dX10_findLeast_41 o8 o9 (o10 c1 c2) ?_
      refine V_iconst (1 : Int32) dX10_findLeast_42 (by decide) ?_
      refine V_istore_n [(0, .ref v0), (1, .ref v1), (2, .ref v2), (3, .int (1 : Int32))] dX10_findLeast_43 rfl rfl ?_
      exact (k2 c1 c2)
    · exact V_vret rfl dX10_findLeast_27 (k3 c1 c2)
set_option maxRecDepth 100000 in
set_option maxHeartbeats 4000000 in
theorem b_X10_findLeast_44 {g : GP} {CX : State → Array Value → Prop} {Q : AH → Option Value → Prop} {X : AH → String → Prop} {v0 : Nat} {v1 : Nat} {v2 : Nat} {v3 : Int32} {σ : AH}
    (o1 : v1 ≠ 0)
    (o2 : zK σ v1 = 4)
    (o3 : v0 ≠ 0)
    (o4 : zK σ v0 = 10)
    (o5 : zR σ v0 0 ≠ 0)
    (o6 : zK σ (zR σ v0 0) = 20)
    (o7 : ((zI σ v1 1) < v3) → vp_in (zI σ v1 1) (zL σ (zR σ v0 0)))
    (o8 : zR σ v0 1 ≠ 0)
    (o9 : zK σ (zR σ v0 1) = 20)
    (o10 : ((zI σ v1 1) < v3) → vp_in (zI σ v1 1) (zL σ (zR σ v0 1)))
    (k1 : ((zI σ v1 1) < v3) → Q (uI (uI σ v0 3 (zI σ (zR σ v0 0) (Int32.toNatClampNeg (zI σ v1 1)))) v0 4 (zI (uI σ v0 3 (zI σ (zR σ v0 0) (Int32.toNatClampNeg (zI σ v1 1)))) (zR σ v0 1) (Int32.toNatClampNeg (zI σ v1 1)))) none)
    (o11 : (¬ (zI σ v1 1) < v3) → vp_in v3 (zL σ (zR σ v0 0)))
    (o12 : (¬ (zI σ v1 1) < v3) → vp_in v3 (zL σ (zR σ v0 1)))
    (k2 : (¬ (zI σ v1 1) < v3) → V g mX10_findLeast (Em g mX10_findLeast Q X) CX 0 0 69 [(0, .ref v0), (1, .ref v1), (2, .ref v2), (3, .int v3), (4, .int (0 : Int32))] [] (uI (uI σ (zR σ v0 0) (Int32.toNatClampNeg v3) (-1 : Int32)) (zR σ v0 1) (Int32.toNatClampNeg v3) (-1 : Int32))) :
    V g mX10_findLeast (Em g mX10_findLeast Q X) CX 0 0 44 [(0, .ref v0), (1, .ref v1), (2, .ref v2), (3, .int v3)] [] σ := by
  refine V_iload_n dX10_findLeast_44 rfl ?_
  refine V_aload_n dX10_findLeast_45 rfl ?_
  refine V_getf (fk := 1) (Value.int (zI σ v1 1)) ko_X4 rfl w_171 dX10_findLeast_46 o1 o2 rfl ?_
  refine V_icmp_gt 102 dX10_findLeast_49 rfl (fun c1 => ?_) (fun c1 => ?_)
  · refine V_aload_n dX10_findLeast_102 rfl ?_
    refine V_aload_n dX10_findLeast_103 rfl ?_
    refine V_getf (fk := 0) (Value.ref (zR σ v0 0)) ko_X10 rfl w_184 dX10_findLeast_104 o3 o4 rfl ?_
    refine V_aload_n dX10_findLeast_107 rfl ?_
    refine V_getf (fk := 1) (Value.int (zI σ v1 1)) ko_X4 rfl w_171 dX10_findLeast_108 o1 o2 rfl ?_
    refine V_iald dX10_findLeast_111 o5 o6 (o7 c1) ?_
    refine V_puti (fk := 3) ko_X10 rfl w_187 (Or.inl rfl) dX10_findLeast_112 rfl o3 o4 ?_
    refine V_aload_n dX10_findLeast_115 rfl ?_
    refine V_aload_n dX10_findLeast_116 rfl ?_
    refine V_getf (fk := 1) (Value.ref (zR σ v0 1)) ko_X10 rfl w_185 dX10_findLeast_117 o3 o4 rfl ?_
    refine V_aload_n dX10_findLeast_120 rfl ?_
    refine V_getf (fk := 1) (Value.int (zI σ v1 1)) ko_X4 rfl w_171 dX10_findLeast_121 o1 o2 (congrArg Value.int (zI_oth _ _ _ _ _ _ (by decide))) ?_
    refine V_iald dX10_findLeast_124 o8 o9 (o10 c1) ?_
    refine V_puti (fk := 4) ko_X10 rfl w_189 (Or.inl rfl) dX10_findLeast_125 rfl o3 o4 ?_
    exact V_vret rfl dX10_findLeast_128 (k1 c1)
  · refine V_aload_n dX10_findLeast_52 rfl ?_
    refine V_getf (fk := 0) (Value.ref (zR σ v0 0)) ko_X10 rfl w_184 dX10_findLeast_53 o3 o4 rfl ?_
    refine V_iload_n dX10_findLeast_56 rfl ?_
    refine V_iconst (-1 : Int32) dX10_findLeast_57 (by decide) ?_
    refine V_iast dX10_findLeast_58 o5 o6 (o11 c1) ?_
    refine V_aload_n dX10_findLeast_59 rfl ?_
    refine V_getf (fk := 1) (Value.ref (zR σ v0 1)) ko_X10 rfl w_185 dX10_findLeast_60 o3 o4 rfl ?_
    refine V_iload_n dX10_findLeast_63 rfl ?_
    refine V_iconst (-1 : Int32) dX10_findLeast_64 (by decide) ?_
    refine V_iast dX10_findLeast_65 o8 o9 (o12 c1) ?_
    refine V_iconst (0 : Int32) dX10_findLeast_66 (by decide) ?_
    refine V_istore [(0, .ref v0), (1, .ref v1), (2, .ref v2), (3, .int v3), (4, .int (0 : Int32))] dX10_findLeast_67 rfl rfl ?_
    exact (k2 c1)
set_option maxRecDepth 100000 in
set_option maxHeartbeats 4000000 in
theorem b_X10_findLeast_69 {g : GP} {CX : State → Array Value → Prop} {E : ET} {v0 : Nat} {v1 : Nat} {v2 : Nat} {v3 : Int32} {v4 : Int32} {σ : AH}
    (k1 : (v3 ≤ v4) → V g mX10_findLeast E CX 0 0 44 [(0, .ref v0), (1, .ref v1), (2, .ref v2), (3, .int (v3 + (1 : Int32)))] [] σ)
    (k2 : (¬ v3 ≤ v4) → V g mX10_findLeast E CX 0 0 84 [(0, .ref v0), (1, .ref v1), (2, .ref v2), (3, .int v3), (4, .int v4)] [.int v3, .int v4, .ref v2, .ref v1, .int v3, .int v4, .ref v0] σ) :
    V g mX10_findLeast E CX 0 0 69 [(0, .ref v0), (1, .ref v1), (2, .ref v2), (3, .int v3), (4, .int v4)] [] σ := by
  refine V_iload dX10_findLeast_69 rfl ?_
  refine V_iload_n dX10_findLeast_71 rfl ?_
  refine V_icmp_ge 96 dX10_findLeast_72 rfl (fun c1 => ?_) (fun c1 => ?_)
  · refine V_iinc (v3 + (1 : Int32)) [(0, .ref v0), (1, .ref v1), (2, .ref v2), (3, .int (v3 + (1 : Int32))), (4, .int v4)] dX10_findLeast_96 rfl rfl rfl rfl ?_
    refine V_goto 44 dX10_findLeast_99 rfl ?_
    exact V_less (mm_keep (mm_keep (mm_keep (mm_keep (mm_drop mm_nil))))) (by decide) (by decide) (k1 c1)
  · refine V_aload_n dX10_findLeast_75 rfl ?_
    refine V_iload dX10_findLeast_76 rfl ?_
    refine V_iload_n dX10_findLeast_78 rfl ?_
    refine V_aload_n dX10_findLeast_79 rfl ?_
    refine V_aload_n dX10_findLeast_80 rfl ?_
    refine V_iload dX10_findLeast_81 rfl ?_
    refine V_iload_n dX10_findLeast_83 rfl ?_
    exact (k2 c1)

set_option maxRecDepth 100000 in
set_option maxHeartbeats 4000000 in
theorem b_X10_sumOfSet_0 {g : GP} {CX : State → Array Value → Prop} {E : ET} {v0 : Nat} {v1 : Int32} {v2 : Int32} {σ : AH}
    (k1 : V g mX10_sumOfSet E CX 0 0 8 [(0, .ref v0), (1, .int v1), (2, .int v2), (3, .int (0 : Int32)), (4, .int (0 : Int32)), (5, .int (1 : Int32))] [] σ) :
    V g mX10_sumOfSet E CX 0 0 0 [(0, .ref v0), (1, .int v1), (2, .int v2)] [] σ := by
  refine V_iconst (0 : Int32) dX10_sumOfSet_0 (by decide) ?_
  refine V_istore_n [(0, .ref v0), (1, .int v1), (2, .int v2), (3, .int (0 : Int32))] dX10_sumOfSet_1 rfl rfl ?_
  refine V_iconst (0 : Int32) dX10_sumOfSet_2 (by decide) ?_
  refine V_istore [(0, .ref v0), (1, .int v1), (2, .int v2), (3, .int (0 : Int32)), (4, .int (0 : Int32))] dX10_sumOfSet_3 rfl rfl ?_
  refine V_iconst (1 : Int32) dX10_sumOfSet_5 (by decide) ?_
  refine V_istore [(0, .ref v0), (1, .int v1), (2, .int v2), (3, .int (0 : Int32)), (4, .int (0 : Int32)), (5, .int (1 : Int32))] dX10_sumOfSet_6 rfl rfl ?_
  exact k1
set_option maxRecDepth 100000 in
set_option maxHeartbeats 4000000 in
theorem b_X10_sumOfSet_8 {g : GP} {CX : State → Array Value → Prop} {Q : AH → Option Value → Prop} {X : AH → String → Prop} {v0 : Nat} {v1 : Int32} {v2 : Int32} {v3 : Int32} {v4 : Int32} {v5 : Int32} {σ : AH}
    (k1 : (v2 < v5) → Q σ (some (.int v3)))
    (o1 : v0 ≠ 0)
    (o2 : zK σ v0 = 10)
    (o3 : zR σ v0 2 ≠ 0)
    (o4 : zK σ (zR σ v0 2) = 20)
    (k2 : (¬ v2 < v5) → (v5 = v2) → ((nI (zL σ (zR σ v0 2))) ≤ ((v4 * (9 : Int32)) + v5)) → Q σ (some (.int (-1 : Int32))))
    (o5 : (¬ v2 < v5) → (v5 = v2) → (¬ (nI (zL σ (zR σ v0 2))) ≤ ((v4 * (9 : Int32)) + v5)) → vp_in ((v4 * (9 : Int32)) + v5) (zL σ (zR σ v0 2)))
    (k3 : (¬ v2 < v5) → (v5 = v2) → (¬ (nI (zL σ (zR σ v0 2))) ≤ ((v4 * (9 : Int32)) + v5)) → (0 ≤ (zI σ (zR σ v0 2) (Int32.toNatClampNeg ((v4 * (9 : Int32)) + v5)))) → V g mX10_sumOfSet (Em g mX10_sumOfSet Q X) CX 0 0 8 [(0, .ref v0), (1, .int v1), (2, .int v2), (3, .int (v3 + (zI σ (zR σ v0 2) (Int32.toNatClampNeg ((v4 * (9 : Int32)) + v5))))), (4, .int v5), (5, .int (v5 + (1 : Int32)))] [] σ)
    (k4 : (¬ v2 < v5) → (v5 = v2) → (¬ (nI (zL σ (zR σ v0 2))) ≤ ((v4 * (9 : Int32)) + v5)) → (¬ 0 ≤ (zI σ (zR σ v0 2) (Int32.toNatClampNeg ((v4 * (9 : Int32)) + v5)))) → Q σ (some (.int (-1 : Int32))))
    (k5 : (¬ v2 < v5) → (¬ v5 = v2) → (¬ ((v1 >>> (v5 &&& 31)) &&& (1 : Int32)) = (1 : Int32)) → V g mX10_sumOfSet (Em g mX10_sumOfSet Q X) CX 0 0 8 [(0, .ref v0), (1, .int v1), (2, .int v2), (3, .int v3), (4, .int v4), (5, .int (v5 + (1 : Int32)))] [] σ)
    (k6 : (¬ v2 < v5) → (¬ v5 = v2) → (((v1 >>> (v5 &&& 31)) &&& (1 : Int32)) = (1 : Int32)) → ((nI (zL σ (zR σ v0 2))) ≤ ((v4 * (9 : Int32)) + v5)) → Q σ (some (.int (-1 : Int32))))
    (o6 : (¬ v2 < v5) → (¬ v5 = v2) → (((v1 >>> (v5 &&& 31)) &&& (1 : Int32)) = (1 : Int32)) → (¬ (nI (zL σ (zR σ v0 2))) ≤ ((v4 * (9 : Int32)) + v5)) → vp_in ((v4 * (9 : Int32)) + v5) (zL σ (zR σ v0 2)))
    (k7 : (¬ v2 < v5) → (¬ v5 = v2) → (((v1 >>> (v5 &&& 31)) &&& (1 : Int32)) = (1 : Int32)) → (¬ (nI (zL σ (zR σ v0 2))) ≤ ((v4 * (9 : Int32)) + v5)) → (0 ≤ (zI σ (zR σ v0 2) (Int32.toNatClampNeg ((v4 * (9 : Int32)) + v5)))) → V g mX10_sumOfSet (Em g mX10_sumOfSet Q X) CX 0 0 8 [(0, .ref v0), (1, .int v1), (2, .int v2), (3, .int (v3 + (zI σ (zR σ v0 2) (Int32.toNatClampNeg ((v4 * (9 : Int32)) + v5))))), (4, .int v5), (5, .int (v5 + (1 : Int32)))] [] σ)
    (k8 : (¬ v2 < v5) → (¬ v5 = v2) → (((v1 >>> (v5 &&& 31)) &&& (1 : Int32)) = (1 : Int32)) → (¬ (nI (zL σ (zR σ v0 2))) ≤ ((v4 * (9 : Int32)) + v5)) → (¬ 0 ≤ (zI σ (zR σ v0 2) (Int32.toNatClampNeg ((v4 * (9 : Int32)) + v5)))) → Q σ (some (.int (-1 : Int32)))) :
    V g mX10_sumOfSet (Em g mX10_sumOfSet Q X) CX 0 0 8 [(0, .ref v0), (1, .int v1), (2, .int v2), (3, .int v3), (4, .int v4), (5, .int v5)] [] σ := by
  refine V_iload dX10_sumOfSet_8 rfl ?_
  refine V_iload_n dX10_sumOfSet_10 rfl ?_
  refine V_icmp_gt 85 dX10_sumOfSet_11 rfl (fun c1 => ?_) (fun c1 => ?_)
  · refine V_iload_n dX10_sumOfSet_85 rfl ?_
    exact V_iret rfl dX10_sumOfSet_86 (k1 c1)
  · refine V_iload dX10_sumOfSet_14 rfl ?_
    refine V_iload_n dX10_sumOfSet_16 rfl ?_
    refine V_icmp_eq 30 dX10_sumOfSet_17 rfl (fun c2 => ?_) (fun c2 => ?_)
    · refine V_iload dX10_sumOfSet_30 rfl ?_
      refine V_bipush (9 : Int32) dX10_sumOfSet_32 (by decide) ?_
      refine V_imul dX10_sumOfSet_34 ?_
      refine V_iload dX10_sumOfSet_35 rfl ?_
      refine V_iadd dX10_sumOfSet_37 ?_
      refine V_istore [(0, .ref v0), (1, .int v1), (2, .int v2), (3, .int v3), (4, .int v4), (5, .int v5), (6, .int ((v4 * (9 : Int32)) + v5))] dX10_sumOfSet_38 rfl rfl ?_
      refine V_iload dX10_sumOfSet_40 rfl ?_
      refine V_aload_n dX10_sumOfSet_42 rfl ?_
      refine V_getf (fk := 2) (Value.ref (zR σ v0 2)) ko_X10 rfl w_186 dX10_sumOfSet_43 o1 o2 rfl ?_
      refine V_alen (κ := 0) dX10_sumOfSet_46 o3 o4 ?_
      refine V_icmp_ge 60 dX10_sumOfSet_47 rfl (fun c3 => ?_) (fun c3 => ?_)
      · refine V_iconst (-1 : Int32) dX10_sumOfSet_60 (by decide) ?_
        refine V_istore [(0, .ref v0), (1, .int v1), (2, .int v2), (3, .int v3), (4, .int v4), (5, .int v5), (6, .int ((v4 * (9 : Int32)) + v5)), (7, .int (-1 : Int32))] dX10_sumOfSet_61 rfl rfl ?_
        refine V_iload dX10_sumOfSet_63 rfl ?_
        refine V_if_ge 70 dX10_sumOfSet_65 rfl (fun z_ => (by first | exact absurd (by decide) z_ | exact absurd z_ (by decide))) (fun _ => ?_)
        refine V_iconst (-1 : Int32) dX10_sumOfSet_68 (by decide) ?_
        exact V_iret rfl dX10_sumOfSet_69 (k2 c1 c2 c3)
      · refine V_aload_n dX10_sumOfSet_50 rfl ?_
        refine V_getf (fk := 2) (Value.ref (zR σ v0 2)) ko_X10 rfl w_186 dX10_sumOfSet_51 o1 o2 rfl ?_
        refine V_iload dX10_sumOfSet_54 rfl ?_
        refine V_iald dX10_sumOfSet_56 o3 o4 (o5 c1 c2 c3) ?_
        refine V_goto 61 dX10_sumOfSet_57 rfl ?_
        refine V_istore [(0, .ref v0), (1, .int v1), (2, .int v2), (3, .int v3), (4, .int v4), (5, .int v5), (6, .int ((v4 * (9 : Int32)) + v5)), (7, .int (zI σ (zR σ v0 2) (Int32.toNatClampNeg ((v4 * (9 : Int32)) + v5))))] dX10_sumOfSet_61 rfl rfl ?_
        refine V_iload dX10_sumOfSet_63 rfl ?_
        refine V_if_ge 70 dX10_sumOfSet_65 rfl (fun c4 => ?_) (fun c4 => ?_)
        · refine V_iload_n dX10_sumOfSet_70 rfl ?_
          refine V_iload dX10_sumOfSet_71 rfl ?_
          refine V_iadd dX10_sumOfSet_73 ?_
          refine V_istore_n [(0, .ref v0), (1, .int v1), (2, .int v2), (3, .int (v3 + (zI σ (zR σ v0 2) (Int32.toNatClampNeg ((v4 * (9 : Int32)) + v5))))), (4, .int v4), (5, .int v5), (6, .int ((v4 * (9 : Int32)) + v5)), (7, .int (zI σ (zR σ v0 2) (Int32.toNatClampNeg ((v4 * (9 : Int32)) + v5))))] dX10_sumOfSet_74 rfl rfl ?_
          refine V_iload dX10_sumOfSet_75 rfl ?_
          refine V_istore [(0, .ref v0), (1, .int v1), (2, .int v2), (3, .int (v3 + (zI σ (zR σ v0 2) (Int32.toNatClampNeg ((v4 * (9 : Int32)) + v5))))), (4, .int v5), (5, .int v5), (6, .int ((v4 * (9 : Int32)) + v5)), (7, .int (zI σ (zR σ v0 2) (Int32.toNatClampNeg ((v4 * (9 : Int32)) + v5))))] dX10_sumOfSet_77 rfl rfl ?_
          refine V_iinc (v5 + (1 : Int32)) [(0, .ref v0), (1, .int v1), (2, .int v2), (3, .int (v3 + (zI σ (zR σ v0 2) (Int32.toNatClampNeg ((v4 * (9 : Int32)) + v5))))), (4, .int v5), (5, .int (v5 + (1 : Int32))), (6, .int ((v4 * (9 : Int32)) + v5)), (7, .int (zI σ (zR σ v0 2) (Int32.toNatClampNeg ((v4 * (9 : Int32)) + v5))))] dX10_sumOfSet_79 rfl rfl rfl rfl ?_
          refine V_goto 8 dX10_sumOfSet_82 rfl ?_
          exact V_less (mm_keep (mm_keep (mm_keep (mm_keep (mm_keep (mm_keep (mm_drop (mm_drop mm_nil)))))))) (by decide) (by decide) (k3 c1 c2 c3 c4)
        · refine V_iconst (-1 : Int32) dX10_sumOfSet_68 (by decide) ?_
          exact V_iret rfl dX10_sumOfSet_69 (k4 c1 c2 c3 c4)
    · refine V_iload_n dX10_sumOfSet_20 rfl ?_
      refine V_iload dX10_sumOfSet_21 rfl ?_
      refine V_ishr dX10_sumOfSet_23 ?_
      refine V_iconst (1 : Int32) dX10_sumOfSet_24 (by decide) ?_
      refine V_iand dX10_sumOfSet_25 ?_
      refine V_iconst (1 : Int32) dX10_sumOfSet_26 (by decide) ?_
      refine V_icmp_ne 79 dX10_sumOfSet_27 rfl (fun c5 => ?_) (fun c5 => ?_)
      · refine V_iinc (v5 + (1 : Int32)) [(0, .ref v0), (1, .int v1), (2, .int v2), (3, .int v3), (4, .int v4), (5, .int (v5 + (1 : Int32)))] dX10_sumOfSet_79 rfl rfl rfl rfl ?_
        refine V_goto 8 dX10_sumOfSet_82 rfl ?_
        exact (k5 c1 c2 c5)
      · refine V_iload dX10_sumOfSet_30 rfl ?_
        refine V_bipush (9 : Int32) dX10_sumOfSet_32 (by decide) ?_
        refine V_imul dX10_sumOfSet_34 ?_
        refine V_iload dX10_sumOfSet_35 rfl ?_
        refine V_iadd dX10_sumOfSet_37 ?_
        refine V_istore [(0, .ref v0), (1, .int v1), (2, .int v2), (3, .int v3), (4, .int v4), (5, .int v5), (6, .int ((v4 * (9 : Int32)) + v5))] dX10_sumOfSet_38 rfl rfl ?_
        refine V_iload dX10_sumOfSet_40 rfl ?_
        refine V_aload_n dX10_sumOfSet_42 rfl ?_
        refine V_getf (fk := 2) (Value.ref (zR σ v0 2)) ko_X10 rfl w_186 dX10_sumOfSet_43 o1 o2 rfl ?_
        refine V_alen (κ := 0) dX10_sumOfSet_46 o3 o4 ?_
        refine V_icmp_ge 60 dX10_sumOfSet_47 rfl (fun c6 => ?_) (fun c6 => ?_)
        · refine V_iconst (-1 : Int32) dX10_sumOfSet_60 (by decide) ?_
          refine V_istore [(0, .ref v0), (1, .int v1), (2, .int v2), (3, .int v3), (4, .int v4), (5, .int v5), (6, .int ((v4 * (9 : Int32)) + v5)), (7, .int (-1 : Int32))] dX10_sumOfSet_61 rfl rfl ?_
          refine V_iload dX10_sumOfSet_63 rfl ?_
          refine V_if_ge 70 dX10_sumOfSet_65 rfl (fun z_ => (by first | exact absurd (by decide) z_ | exact absurd z_ (by decide))) (fun _ => ?_)
          refine V_iconst (-1 : Int32) dX10_sumOfSet_68 (by decide) ?_
          exact V_iret rfl dX10_sumOfSet_69 (k6 c1 c2 c5 c6)
        · refine V_aload_n dX10_sumOfSet_50 rfl ?_
          refine V_getf (fk := 2) (Value.ref (zR σ v0 2)) ko_X10 rfl w_186 dX10_sumOfSet_51 o1 o2 rfl ?_
          refine V_iload dX10_sumOfSet_54 rfl ?_
          refine V_iald dX10_sumOfSet_56 o3 o4 (o6 c1 c2 c5 c6) ?_
          refine V_goto 61 dX10_sumOfSet_57 rfl ?_
          refine V_istore [(0, .ref v0), (1, .int v1), (2, .int v2), (3, .int v3), (4, .int v4), (5, .int v5), (6, .int ((v4 * (9 : Int32)) + v5)), (7, .int (zI σ (zR σ v0 2) (Int32.toNatClampNeg ((v4 * (9 : Int32)) + v5))))] dX10_sumOfSet_61 rfl rfl ?_
          refine V_iload dX10_sumOfSet_63 rfl ?_
          refine V_if_ge 70 dX10_sumOfSet_65 rfl (fun c7 => ?_) (fun c7 => ?_)
          · refine V_iload_n dX10_sumOfSet_70 rfl ?_
            refine V_iload dX10_sumOfSet_71 rfl ?_
            refine V_iadd dX10_sumOfSet_73 ?_
            refine V_istore_n [(0, .ref v0), (1, .int v1), (2, .int v2), (3, .int (v3 + (zI σ (zR σ v0 2) (Int32.toNatClampNeg ((v4 * (9 : Int32)) + v5))))), (4, .int v4), (5, .int v5), (6, .int ((v4 * (9 : Int32)) + v5)), (7, .int (zI σ (zR σ v0 2) (Int32.toNatClampNeg ((v4 * (9 : Int32)) + v5))))] dX10_sumOfSet_74 rfl rfl ?_
            refine V_iload dX10_sumOfSet_75 rfl ?_
            refine V_istore [(0, .ref v0), (1, .int v1), (2, .int v2), (3, .int (v3 + (zI σ (zR σ v0 2) (Int32.toNatClampNeg ((v4 * (9 : Int32)) + v5))))), (4, .int v5), (5, .int v5), (6, .int ((v4 * (9 : Int32)) + v5)), (7, .int (zI σ (zR σ v0 2) (Int32.toNatClampNeg ((v4 * (9 : Int32)) + v5))))] dX10_sumOfSet_77 rfl rfl ?_
            refine V_iinc (v5 + (1 : Int32)) [(0, .ref v0), (1, .int v1), (2, .int v2), (3, .int (v3 + (zI σ (zR σ v0 2) (Int32.toNatClampNeg ((v4 * (9 : Int32)) + v5))))), (4, .int v5), (5, .int (v5 + (1 : Int32))), (6, .int ((v4 * (9 : Int32)) + v5)), (7, .int (zI σ (zR σ v0 2) (Int32.toNatClampNeg ((v4 * (9 : Int32)) + v5))))] dX10_sumOfSet_79 rfl rfl rfl rfl ?_
            refine V_goto 8 dX10_sumOfSet_82 rfl ?_
            exact V_less (mm_keep (mm_keep (mm_keep (mm_keep (mm_keep (mm_keep (mm_drop (mm_drop mm_nil)))))))) (by decide) (by decide) (k7 c1 c2 c5 c6 c7)
          · refine V_iconst (-1 : Int32) dX10_sumOfSet_68 (by decide) ?_
            exact V_iret rfl dX10_sumOfSet_69 (k8 c1 c2 c5 c6 c7)

set_option maxRecDepth 100000 in
set_option maxHeartbeats 4000000 in
theorem b_X10_leastOfAllSets_0 {g : GP} {CX : State → Array Value → Prop} {Q : AH → Option Value → Prop} {X : AH → String → Prop} {v0 : Nat} {v1 : Nat} {v2 : Nat} {σ : AH}
    (o1 : v1 ≠ 0)
    (o2 : zK σ v1 = 4)
    (k1 : ((zI σ v1 1) < (1 : Int32)) → Q σ (some (.int (-1 : Int32))))
    (k2 : (¬ (zI σ v1 1) < (1 : Int32)) → ((zI σ v1 1) < (9 : Int32)) → V g mX10_leastOfAllSets (Em g mX10_leastOfAllSets Q X) CX 0 0 21 [(0, .ref v0), (1, .ref v1), (2, .ref v2), (3, .int (zI σ v1 1)), (4, .int (0 : Int32))] [] σ)
    (k3 : (¬ (zI σ v1 1) < (1 : Int32)) → (¬ (zI σ v1 1) < (9 : Int32)) → Q σ (some (.int (-1 : Int32)))) :
    V g mX10_leastOfAllSets (Em g mX10_leastOfAllSets Q X) CX 0 0 0 [(0, .ref v0), (1, .ref v1), (2, .ref v2)] [] σ := by
  refine V_aload_n dX10_leastOfAllSets_0 rfl ?_
  refine V_getf (fk := 1) (Value.int (zI σ v1 1)) ko_X4 rfl w_171 dX10_leastOfAllSets_1 o1 o2 rfl ?_
  refine V_istore_n [(0, .ref v0), (1, .ref v1), (2, .ref v2), (3, .int (zI σ v1 1))] dX10_leastOfAllSets_4 rfl rfl ?_
  refine V_iload_n dX10_leastOfAllSets_5 rfl ?_
  refine V_iconst (1 : Int32) dX10_leastOfAllSets_6 (by decide) ?_
  refine V_icmp_lt 16 dX10_leastOfAllSets_7 rfl (fun c1 => ?_) (fun c1 => ?_)
  · refine V_iconst (-1 : Int32) dX10_leastOfAllSets_16 (by decide) ?_
    exact V_iret rfl dX10_leastOfAllSets_17 (k1 c1)
  · refine V_iload_n dX10_leastOfAllSets_10 rfl ?_
    refine V_bipush (9 : Int32) dX10_leastOfAllSets_11 (by decide) ?_
    refine V_icmp_lt 18 dX10_leastOfAllSets_13 rfl (fun c2 => ?_) (fun c2 => ?_)
    · refine V_iconst (0 : Int32) dX10_leastOfAllSets_18 (by decide) ?_
      refine V_istore [(0, .ref v0), (1, .ref v1), (2, .ref v2), (3, .int (zI σ v1 1)), (4, .int (0 : Int32))] dX10_leastOfAllSets_19 rfl rfl ?_
      exact (k2 c1 c2)
    · refine V_iconst (-1 : Int32) dX10_leastOfAllSets_16 (by decide) ?_
      exact V_iret rfl dX10_leastOfAllSets_17 (k3 c1 c2)
set_option maxRecDepth 100000 in
set_option maxHeartbeats 4000000 in
theorem b_X10_leastOfAllSets_21 {g : GP} {CX : State → Array Value → Prop} {E : ET} {v0 : Nat} {v1 : Nat} {v2 : Nat} {v3 : Int32} {v4 : Int32} {σ : AH}
    (k1 : (v3 ≤ v4) → V g mX10_leastOfAllSets E CX 0 0 79 [(0, .ref v0), (1, .ref v1), (2, .ref v2), (3, .int v3), (4, .int (-1 : Int32)), (5, .int (0 : Int32))] [] σ)
    (k2 : (¬ v3 ≤ v4) → V g mX10_leastOfAllSets E CX 0 0 33 [(0, .ref v0), (1, .ref v1), (2, .ref v2), (3, .int v3), (4, .int v4), (5, .int (v4 + (1 : Int32)))] [] σ) :
    V g mX10_leastOfAllSets E CX 0 0 21 [(0, .ref v0), (1, .ref v1), (2, .ref v2), (3, .int v3), (4, .int v4)] [] σ := by
  refine V_iload dX10_leastOfAllSets_21 rfl ?_
  refine V_iload_n dX10_leastOfAllSets_23 rfl ?_
  refine V_icmp_ge 73 dX10_leastOfAllSets_24 rfl (fun c1 => ?_) (fun c1 => ?_)
  · refine V_iconst (-1 : Int32) dX10_leastOfAllSets_73 (by decide) ?_
    refine V_istore [(0, .ref v0), (1, .ref v1), (2, .ref v2), (3, .int v3), (4, .int (-1 : Int32))] dX10_leastOfAllSets_74 rfl rfl ?_
    refine V_iconst (0 : Int32) dX10_leastOfAllSets_76 (by decide) ?_
    refine V_istore [(0, .ref v0), (1, .ref v1), (2, .ref v2), (3, .int v3), (4, .int (-1 : Int32)), (5, .int (0 : Int32))] dX10_leastOfAllSets_77 rfl rfl ?_
    exact (k1 c1)
  · refine V_iload dX10_leastOfAllSets_27 rfl ?_
    refine V_iconst (1 : Int32) dX10_leastOfAllSets_29 (by decide) ?_
    refine V_iadd dX10_leastOfAllSets_30 ?_
    refine V_istore [(0, .ref v0), (1, .ref v1), (2, .ref v2), (3, .int v3), (4, .int v4), (5, .int (v4 + (1 : Int32)))] dX10_leastOfAllSets_31 rfl rfl ?_
    exact (k2 c1)
set_option maxRecDepth 100000 in
set_option maxHeartbeats 4000000 in
theorem b_X10_leastOfAllSets_33 {g : GP} {CX : State → Array Value → Prop} {E : ET} {v0 : Nat} {v1 : Nat} {v2 : Nat} {v3 : Int32} {v4 : Int32} {v5 : Int32} {σ : AH}
    (k1 : (v3 < v5) → V g mX10_leastOfAllSets E CX 0 0 21 [(0, .ref v0), (1, .ref v1), (2, .ref v2), (3, .int v3), (4, .int (v4 + (1 : Int32)))] [] σ)
    (o1 : v0 ≠ 0)
    (o2 : zK σ v0 = 10)
    (k2 : (¬ v3 < v5) → V g mX10_leastOfAllSets E CX 0 0 57 [(0, .ref v0), (1, .ref v1), (2, .ref v2), (3, .int v3), (4, .int v4), (5, .int v5)] [.int v5, .int v4, .ref v2, .ref v1, .int ((v4 * (9 : Int32)) + v5), .ref (zR σ v0 2)] σ) :
    V g mX10_leastOfAllSets E CX 0 0 33 [(0, .ref v0), (1, .ref v1), (2, .ref v2), (3, .int v3), (4, .int v4), (5, .int v5)] [] σ := by
  refine V_iload dX10_leastOfAllSets_33 rfl ?_
  refine V_iload_n dX10_leastOfAllSets_35 rfl ?_
  refine V_icmp_gt 67 dX10_leastOfAllSets_36 rfl (fun c1 => ?_) (fun c1 => ?_)
  · refine V_iinc (v4 + (1 : Int32)) [(0, .ref v0), (1, .ref v1), (2, .ref v2), (3, .int v3), (4, .int (v4 + (1 : Int32))), (5, .int v5)] dX10_leastOfAllSets_67 rfl rfl rfl rfl ?_
    refine V_goto 21 dX10_leastOfAllSets_70 rfl ?_
    exact V_less (mm_keep (mm_keep (mm_keep (mm_keep (mm_keep (mm_drop mm_nil)))))) (by decide) (by decide) (k1 c1)
  · refine V_aload_n dX10_leastOfAllSets_39 rfl ?_
    refine V_getf (fk := 2) (Value.ref (zR σ v0 2)) ko_X10 rfl w_186 dX10_leastOfAllSets_40 o1 o2 rfl ?_
    refine V_iload dX10_leastOfAllSets_43 rfl ?_
    refine V_bipush (9 : Int32) dX10_leastOfAllSets_45 (by decide) ?_
    refine V_imul dX10_leastOfAllSets_47 ?_
    refine V_iload dX10_leastOfAllSets_48 rfl ?_
    refine V_iadd dX10_leastOfAllSets_50 ?_
    refine V_aload_n dX10_leastOfAllSets_51 rfl ?_
    refine V_aload_n dX10_leastOfAllSets_52 rfl ?_
    refine V_iload dX10_leastOfAllSets_53 rfl ?_
    refine V_iload dX10_leastOfAllSets_55 rfl ?_
    exact (k2 c1)
set_option maxRecDepth 100000 in
set_option maxHeartbeats 4000000 in
theorem b_X10_leastOfAllSets_79 {g : GP} {CX : State → Array Value → Prop} {Q : AH → Option Value → Prop} {X : AH → String → Prop} {v0 : Nat} {v1 : Nat} {v2 : Nat} {v3 : Int32} {v4 : Int32} {v5 : Int32} {σ : AH}
    (k1 : (((1 : Int32) <<< (v3 &&& 31)) ≤ v5) → Q σ (some (.int v4)))
    (k2 : (¬ ((1 : Int32) <<< (v3 &&& 31)) ≤ v5) → V g mX10_leastOfAllSets (Em g mX10_leastOfAllSets Q X) CX 0 0 91 [(0, .ref v0), (1, .ref v1), (2, .ref v2), (3, .int v3), (4, .int v4), (5, .int v5)] [.int v3, .int v5, .ref v0] σ) :
    V g mX10_leastOfAllSets (Em g mX10_leastOfAllSets Q X) CX 0 0 79 [(0, .ref v0), (1, .ref v1), (2, .ref v2), (3, .int v3), (4, .int v4), (5, .int v5)] [] σ := by
  refine V_iload dX10_leastOfAllSets_79 rfl ?_
  refine V_iconst (1 : Int32) dX10_leastOfAllSets_81 (by decide) ?_
  refine V_iload_n dX10_leastOfAllSets_82 rfl ?_
  refine V_ishl dX10_leastOfAllSets_83 ?_
  refine V_icmp_ge 125 dX10_leastOfAllSets_84 rfl (fun c1 => ?_) (fun c1 => ?_)
  · refine V_iload dX10_leastOfAllSets_125 rfl ?_
    exact V_iret rfl dX10_leastOfAllSets_127 (k1 c1)
  · refine V_aload_n dX10_leastOfAllSets_87 rfl ?_
    refine V_iload dX10_leastOfAllSets_88 rfl ?_
    refine V_iload_n dX10_leastOfAllSets_90 rfl ?_
    exact (k2 c1)

set_option maxRecDepth 100000 in
set_option maxHeartbeats 4000000 in
theorem b_X11_init_0 {g : GP} {CX : State → Array Value → Prop} {E : ET} {v0 : Nat} {σ : AH}
    (o1 : v0 ≠ 0)
    (k1 : V g mX11_init E CX 29 1205 9 [(0, .ref v0)] [.ref (zN σ + 1), .ref (zN σ + 1), .ref v0] (nw σ 8 7)) :
    V g mX11_init E CX 30 1212 0 [(0, .ref v0)] [] σ := by
  refine V_aload_n dX11_init_0 rfl ?_
  refine V_objinit w_73 w_74 w_75 dX11_init_1 o1 rfl rfl ?_
  refine V_aload_n dX11_init_4 rfl ?_
  refine V_new (k' := 29) (n' := 1205) ko_X8 kd_X8 w_76 w_77 w_49 dX11_init_5 rfl rfl ?_
  refine V_dup dX11_init_8 rfl ?_
  exact k1

set_option maxRecDepth 100000 in
set_option maxHeartbeats 4000000 in
theorem b_X11_miles_0 {g : GP} {CX : State → Array Value → Prop} {E : ET} {v0 : Nat} {v1 : Int32} {v2 : Int32} {v3 : Int32} {σ : AH}
    (k1 : V g mX11_miles E CX 1 6 1 [(0, .ref v0), (1, .int v1), (2, .int v2), (3, .int v3)] [.int v1] σ) :
    V g mX11_miles E CX 1 6 0 [(0, .ref v0), (1, .int v1), (2, .int v2), (3, .int v3)] [] σ := by
  refine V_iload_n dX11_miles_0 rfl ?_
  exact k1

set_option maxRecDepth 100000 in
set_option maxHeartbeats 4000000 in
theorem b_X11_fare_0 {g : GP} {CX : State → Array Value → Prop} {E : ET} {v0 : Nat} {v1 : Int32} {v2 : Int32} {v3 : Int32} {v4 : Int32} {v5 : Int32} {v6 : Int32} {σ : AH}
    (k1 : V g mX11_fare E CX 2 13 1 [(0, .ref v0), (1, .int v1), (2, .int v2), (3, .int v3), (4, .int v4), (5, .int v5), (6, .int v6)] [.int v1] σ) :
    V g mX11_fare E CX 2 13 0 [(0, .ref v0), (1, .int v1), (2, .int v2), (3, .int v3), (4, .int v4), (5, .int v5), (6, .int v6)] [] σ := by
  refine V_iload_n dX11_fare_0 rfl ?_
  exact k1

set_option maxRecDepth 100000 in
set_option maxHeartbeats 4000000 in
theorem b_X11_withdraw_0 {g : GP} {CX : State → Array Value → Prop} {E : ET} {v0 : Nat} {v1 : Int32} {σ : AH}
    (o1 : v0 ≠ 0)
    (o2 : zK σ v0 = 11)
    (k1 : V g mX11_withdraw E CX 1 6 5 [(0, .ref v0), (1, .int v1)] [.int v1, .ref (zR σ v0 0)] σ) :
    V g mX11_withdraw E CX 1 6 0 [(0, .ref v0), (1, .int v1)] [] σ := by
  refine V_aload_n dX11_withdraw_0 rfl ?_
  refine V_getf (fk := 0) (Value.ref (zR σ v0 0)) ko_X11 rfl w_232 dX11_withdraw_1 o1 o2 rfl ?_
  refine V_iload_n dX11_withdraw_4 rfl ?_
  exact k1

set_option maxRecDepth 100000 in
set_option maxHeartbeats 4000000 in
theorem b_X11_unit_0 {g : GP} {CX : State → Array Value → Prop} {E : ET} {v0 : Nat} {v1 : Int32} {σ : AH}
    (k1 : V g mX11_unit E CX 1 6 5 [(0, .ref v0), (1, .int v1)] [.int (1000 : Int32), .int (1 : Int32), .int v1] σ) :
    V g mX11_unit E CX 1 6 0 [(0, .ref v0), (1, .int v1)] [] σ := by
  refine V_iload_n dX11_unit_0 rfl ?_
  refine V_iconst (1 : Int32) dX11_unit_1 (by decide) ?_
  refine V_sipush (1000 : Int32) dX11_unit_2 (by decide) ?_
  exact k1

set_option maxRecDepth 100000 in
set_option maxHeartbeats 4000000 in
theorem b_X11_tax_0 {g : GP} {CX : State → Array Value → Prop} {E : ET} {v0 : Nat} {v1 : Int32} {v2 : Int32} {v3 : Int32} {σ : AH}
    (k1 : V g mX11_tax E CX 1 6 1 [(0, .ref v0), (1, .int v1), (2, .int v2), (3, .int v3)] [.int v1] σ) :
    V g mX11_tax E CX 1 6 0 [(0, .ref v0), (1, .int v1), (2, .int v2), (3, .int v3)] [] σ := by
  refine V_iload_n dX11_tax_0 rfl ?_
  exact k1

set_option maxRecDepth 100000 in
set_option maxHeartbeats 4000000 in
theorem b_X11_weight_0 {g : GP} {CX : State → Array Value → Prop} {E : ET} {v0 : Nat} {v1 : Int32} {v2 : Int32} {v3 : Int32} {σ : AH}
    (k1 : V g mX11_weight E CX 1 6 1 [(0, .ref v0), (1, .int v1), (2, .int v2), (3, .int v3)] [.int v1] σ) :
    V g mX11_weight E CX 1 6 0 [(0, .ref v0), (1, .int v1), (2, .int v2), (3, .int v3)] [] σ := by
  refine V_iload_n dX11_weight_0 rfl ?_
  exact k1

set_option maxRecDepth 100000 in
set_option maxHeartbeats 4000000 in
theorem b_X11_proviso_0 {g : GP} {CX : State → Array Value → Prop} {E : ET} {v0 : Nat} {v1 : Int32} {v2 : Int32} {v3 : Int32} {v4 : Int32} {σ : AH}
    (k1 : V g mX11_proviso E CX 1 6 1 [(0, .ref v0), (1, .int v1), (2, .int v2), (3, .int v3), (4, .int v4)] [.int v1] σ) :
    V g mX11_proviso E CX 1 6 0 [(0, .ref v0), (1, .int v1), (2, .int v2), (3, .int v3), (4, .int v4)] [] σ := by
  refine V_iload_n dX11_proviso_0 rfl ?_
  exact k1

set_option maxRecDepth 100000 in
set_option maxHeartbeats 4000000 in
theorem b_X11_penalty_0 {g : GP} {CX : State → Array Value → Prop} {E : ET} {v0 : Nat} {v1 : Int32} {σ : AH}
    (k1 : V g mX11_penalty E CX 1 6 4 [(0, .ref v0), (1, .int v1)] [.int (100 : Int32), .int (0 : Int32), .int v1] σ) :
    V g mX11_penalty E CX 1 6 0 [(0, .ref v0), (1, .int v1)] [] σ := by
  refine V_iload_n dX11_penalty_0 rfl ?_
  refine V_iconst (0 : Int32) dX11_penalty_1 (by decide) ?_
  refine V_bipush (100 : Int32) dX11_penalty_2 (by decide) ?_
  exact k1

set_option maxRecDepth 100000 in
set_option maxHeartbeats 4000000 in
theorem b_X11_leg_0 {g : GP} {CX : State → Array Value → Prop} {E : ET} {v0 : Nat} {v1 : Int32} {v2 : Int32} {v3 : Int32} {v4 : Int32} {σ : AH}
    (k1 : V g mX11_leg E CX 1 6 1 [(0, .ref v0), (1, .int v1), (2, .int v2), (3, .int v3), (4, .int v4)] [.int v1] σ) :
    V g mX11_leg E CX 1 6 0 [(0, .ref v0), (1, .int v1), (2, .int v2), (3, .int v3), (4, .int v4)] [] σ := by
  refine V_iload_n dX11_leg_0 rfl ?_
  exact k1

set_option maxRecDepth 100000 in
set_option maxHeartbeats 4000000 in
theorem b_X11_wipe_0 {g : GP} {CX : State → Array Value → Prop} {E : ET} {v0 : Nat} {σ : AH}
    (o1 : v0 ≠ 0)
    (o2 : zK σ v0 = 11)
    (k1 : V g mX11_wipe E CX 0 0 4 [(0, .ref v0)] [.ref (zR σ v0 2)] σ) :
    V g mX11_wipe E CX 0 0 0 [(0, .ref v0)] [] σ := by
  refine V_aload_n dX11_wipe_0 rfl ?_
  refine V_getf (fk := 2) (Value.ref (zR σ v0 2)) ko_X11 rfl w_234 dX11_wipe_1 o1 o2 rfl ?_
  exact k1

set_option maxRecDepth 100000 in
set_option maxHeartbeats 4000000 in
theorem b_X11_part_0 {g : GP} {CX : State → Array Value → Prop} {E : ET} {v0 : Nat} {v1 : Int32} {v2 : Int32} {σ : AH}
    (o1 : v0 ≠ 0)
    (o2 : zK σ v0 = 11)
    (k1 : V g mX11_part E CX 1 6 5 [(0, .ref v0), (1, .int v1), (2, .int v2)] [.int v1, .ref (zR σ v0 2)] σ) :
    V g mX11_part E CX 1 6 0 [(0, .ref v0), (1, .int v1), (2, .int v2)] [] σ := by
  refine V_aload_n dX11_part_0 rfl ?_
  refine V_getf (fk := 2) (Value.ref (zR σ v0 2)) ko_X11 rfl w_234 dX11_part_1 o1 o2 rfl ?_
  refine V_iload_n dX11_part_4 rfl ?_
  exact k1

set_option maxRecDepth 100000 in
set_option maxHeartbeats 4000000 in
theorem b_X11_price_0 {g : GP} {CX : State → Array Value → Prop} {E : ET} {v0 : Nat} {σ : AH}
    (o1 : v0 ≠ 0)
    (o2 : zK σ v0 = 11)
    (k1 : V g mX11_price E CX 0 0 12 [(0, .ref v0)] [.ref (zR σ v0 0), .ref (zR σ v0 2), .ref (zR σ v0 3)] σ) :
    V g mX11_price E CX 0 0 0 [(0, .ref v0)] [] σ := by
  refine V_aload_n dX11_price_0 rfl ?_
  refine V_getf (fk := 3) (Value.ref (zR σ v0 3)) ko_X11 rfl w_235 dX11_price_1 o1 o2 rfl ?_
  refine V_aload_n dX11_price_4 rfl ?_
  refine V_getf (fk := 2) (Value.ref (zR σ v0 2)) ko_X11 rfl w_234 dX11_price_5 o1 o2 rfl ?_
  refine V_aload_n dX11_price_8 rfl ?_
  refine V_getf (fk := 0) (Value.ref (zR σ v0 0)) ko_X11 rfl w_232 dX11_price_9 o1 o2 rfl ?_
  exact k1

set_option maxRecDepth 100000 in
set_option maxHeartbeats 4000000 in
theorem b_X11_priceAnew_0 {g : GP} {CX : State → Array Value → Prop} {E : ET} {v0 : Nat} {σ : AH}
    (o1 : v0 ≠ 0)
    (o2 : zK σ v0 = 11)
    (k1 : V g mX11_priceAnew E CX 0 0 12 [(0, .ref v0)] [.ref (zR σ v0 0), .ref (zR σ v0 2), .ref (zR σ v0 3)] σ) :
    V g mX11_priceAnew E CX 0 0 0 [(0, .ref v0)] [] σ := by
  refine V_aload_n dX11_priceAnew_0 rfl ?_
  refine V_getf (fk := 3) (Value.ref (zR σ v0 3)) ko_X11 rfl w_235 dX11_priceAnew_1 o1 o2 rfl ?_
  refine V_aload_n dX11_priceAnew_4 rfl ?_
  refine V_getf (fk := 2) (Value.ref (zR σ v0 2)) ko_X11 rfl w_234 dX11_priceAnew_5 o1 o2 rfl ?_
  refine V_aload_n dX11_priceAnew_8 rfl ?_
  refine V_getf (fk := 0) (Value.ref (zR σ v0 0)) ko_X11 rfl w_232 dX11_priceAnew_9 o1 o2 rfl ?_
  exact k1

set_option maxRecDepth 100000 in
set_option maxHeartbeats 4000000 in
theorem b_X11_cuts_0 {g : GP} {CX : State → Array Value → Prop} {E : ET} {v0 : Nat} {σ : AH}
    (o1 : v0 ≠ 0)
    (o2 : zK σ v0 = 11)
    (k1 : V g mX11_cuts E CX 0 0 12 [(0, .ref v0)] [.ref (zR σ v0 0), .ref (zR σ v0 2), .ref (zR σ v0 3)] σ) :
    V g mX11_cuts E CX 0 0 0 [(0, .ref v0)] [] σ := by
  refine V_aload_n dX11_cuts_0 rfl ?_
  refine V_getf (fk := 3) (Value.ref (zR σ v0 3)) ko_X11 rfl w_235 dX11_cuts_1 o1 o2 rfl ?_
  refine V_aload_n dX11_cuts_4 rfl ?_
  refine V_getf (fk := 2) (Value.ref (zR σ v0 2)) ko_X11 rfl w_234 dX11_cuts_5 o1 o2 rfl ?_
  refine V_aload_n dX11_cuts_8 rfl ?_
  refine V_getf (fk := 0) (Value.ref (zR σ v0 0)) ko_X11 rfl w_232 dX11_cuts_9 o1 o2 rfl ?_
  exact k1

set_option maxRecDepth 100000 in
set_option maxHeartbeats 4000000 in
theorem b_X11_canBeIssued_0 {g : GP} {CX : State → Array Value → Prop} {Q : AH → Option Value → Prop} {X : AH → String → Prop} {v0 : Nat} {σ : AH}
    (o1 : v0 ≠ 0)
    (o2 : zK σ v0 = 11)
    (o3 : zR σ v0 3 ≠ 0)
    (o4 : zK σ (zR σ v0 3) = 10)
    (k1 : ((zI σ (zR σ v0 3) 3) = (-1 : Int32)) → Q σ (some (.int (0 : Int32))))
    (o5 : zR σ v0 0 ≠ 0)
    (o6 : zK σ (zR σ v0 0) = 8)
    (k2 : (¬ (zI σ (zR σ v0 3) 3) = (-1 : Int32)) → V g mX11_canBeIssued (Em g mX11_canBeIssued Q X) CX 0 0 22 [(0, .ref v0)] [.int (zI σ (zR σ v0 0) 6), .ref (zR σ v0 2)] σ) :
    V g mX11_canBeIssued (Em g mX11_canBeIssued Q X) CX 0 0 0 [(0, .ref v0)] [] σ := by
  refine V_aload_n dX11_canBeIssued_0 rfl ?_
  refine V_getf (fk := 3) (Value.ref (zR σ v0 3)) ko_X11 rfl w_235 dX11_canBeIssued_1 o1 o2 rfl ?_
  refine V_getf (fk := 3) (Value.int (zI σ (zR σ v0 3) 3)) ko_X10 rfl w_188 dX11_canBeIssued_4 o3 o4 rfl ?_
  refine V_iconst (-1 : Int32) dX11_canBeIssued_7 (by decide) ?_
  refine V_icmp_eq 41 dX11_canBeIssued_8 rfl (fun c1 => ?_) (fun c1 => ?_)
  · refine V_iconst (0 : Int32) dX11_canBeIssued_41 (by decide) ?_
    exact V_zret rfl dX11_canBeIssued_42 (by decide) (k1 c1)
  · refine V_aload_n dX11_canBeIssued_11 rfl ?_
    refine V_getf (fk := 2) (Value.ref (zR σ v0 2)) ko_X11 rfl w_234 dX11_canBeIssued_12 o1 o2 rfl ?_
    refine V_aload_n dX11_canBeIssued_15 rfl ?_
    refine V_getf (fk := 0) (Value.ref (zR σ v0 0)) ko_X11 rfl w_232 dX11_canBeIssued_16 o1 o2 rfl ?_
    refine V_getf (fk := 6) (Value.int (zI σ (zR σ v0 0) 6)) ko_X8 rfl w_106 dX11_canBeIssued_19 o5 o6 rfl ?_
    exact (k2 c1)

set_option maxRecDepth 100000 in
set_option maxHeartbeats 4000000 in
theorem b_X11_shareOut_0 {g : GP} {CX : State → Array Value → Prop} {E : ET} {v0 : Nat} {v1 : Nat} {σ : AH}
    (k1 : V g mX11_shareOut E CX 0 0 4 [(0, .ref v0), (1, .ref v1), (2, .int (0 : Int32)), (3, .int (1 : Int32))] [] σ) :
    V g mX11_shareOut E CX 0 0 0 [(0, .ref v0), (1, .ref v1)] [] σ := by
  refine V_iconst (0 : Int32) dX11_shareOut_0 (by decide) ?_
  refine V_istore_n [(0, .ref v0), (1, .ref v1), (2, .int (0 : Int32))] dX11_shareOut_1 rfl rfl ?_
  refine V_iconst (1 : Int32) dX11_shareOut_2 (by decide) ?_
  refine V_istore_n [(0, .ref v0), (1, .ref v1), (2, .int (0 : Int32)), (3, .int (1 : Int32))] dX11_shareOut_3 rfl rfl ?_
  exact k1
set_option maxRecDepth 100000 in
set_option maxHeartbeats 4000000 in
theorem b_X11_shareOut_4 {g : GP} {CX : State → Array Value → Prop} {Q : AH → Option Value → Prop} {X : AH → String → Prop} {v0 : Nat} {v1 : Nat} {v2 : Int32} {v3 : Int32} {σ : AH}
    (o1 : v1 ≠ 0)
    (o2 : zK σ v1 = 9)
    (k1 : ((zI σ v1 4) < v3) → Q σ none)
    (o3 : v0 ≠ 0)
    (o4 : zK σ v0 = 11)
    (k2 : (¬ (zI σ v1 4) < v3) → (v3 = (zI σ v1 4)) → V g mX11_shareOut (Em g mX11_shareOut Q X) CX 0 0 42 [(0, .ref v0), (1, .ref v1), (2, .int v2), (3, .int v3)] [.int v3, .int v2, .ref (zR σ v0 0), .ref (zR σ v0 2)] σ)
    (k3 : (¬ (zI σ v1 4) < v3) → (¬ v3 = (zI σ v1 4)) → (¬ (((zI σ v1 2) >>> (v3 &&& 31)) &&& (1 : Int32)) = (1 : Int32)) → V g mX11_shareOut (Em g mX11_shareOut Q X) CX 0 0 4 [(0, .ref v0), (1, .ref v1), (2, .int v2), (3, .int (v3 + (1 : Int32)))] [] σ)
    (k4 : (¬ (zI σ v1 4) < v3) → (¬ v3 = (zI σ v1 4)) → ((((zI σ v1 2) >>> (v3 &&& 31)) &&& (1 : Int32)) = (1 : Int32)) → V g mX11_shareOut (Em g mX11_shareOut Q X) CX 0 0 42 [(0, .ref v0), (1, .ref v1), (2, .int v2), (3, .int v3)] [.int v3, .int v2, .ref (zR σ v0 0), .ref (zR σ v0 2)] σ) :
    V g mX11_shareOut (Em g mX11_shareOut Q X) CX 0 0 4 [(0, .ref v0), (1, .ref v1), (2, .int v2), (3, .int v3)] [] σ := by
  refine V_iload_n dX11_shareOut_4 rfl ?_
  refine V_aload_n dX11_shareOut_5 rfl ?_
  refine V_getf (fk := 4) (Value.int (zI σ v1 4)) ko_X9 rfl w_727 dX11_shareOut_6 o1 o2 rfl ?_
  refine V_icmp_gt 83 dX11_shareOut_9 rfl (fun c1 => ?_) (fun c1 => ?_)
  · exact V_vret rfl dX11_shareOut_83 (k1 c1)
  · refine V_iload_n dX11_shareOut_12 rfl ?_
    refine V_aload_n dX11_shareOut_13 rfl ?_
    refine V_getf (fk := 4) (Value.int (zI σ v1 4)) ko_X9 rfl w_727 dX11_shareOut_14 o1 o2 rfl ?_
    refine V_icmp_eq 32 dX11_shareOut_17 rfl (fun c2 => ?_) (fun c2 => ?_)
    · refine V_aload_n dX11_shareOut_32 rfl ?_
      refine V_getf (fk := 2) (Value.ref (zR σ v0 2)) ko_X11 rfl w_234 dX11_shareOut_33 o3 o4 rfl ?_
      refine V_aload_n dX11_shareOut_36 rfl ?_
      refine V_getf (fk := 0) (Value.ref (zR σ v0 0)) ko_X11 rfl w_232 dX11_shareOut_37 o3 o4 rfl ?_
      refine V_iload_n dX11_shareOut_40 rfl ?_
      refine V_iload_n dX11_shareOut_41 rfl ?_
      exact (k2 c1 c2)
    · refine V_aload_n dX11_shareOut_20 rfl ?_
      refine V_getf (fk := 2) (Value.int (zI σ v1 2)) ko_X9 rfl w_724 dX11_shareOut_21 o1 o2 rfl ?_
      refine V_iload_n dX11_shareOut_24 rfl ?_
      refine V_ishr dX11_shareOut_25 ?_
      refine V_iconst (1 : Int32) dX11_shareOut_26 (by decide) ?_
      refine V_iand dX11_shareOut_27 ?_
      refine V_iconst (1 : Int32) dX11_shareOut_28 (by decide) ?_
      refine V_icmp_ne 77 dX11_shareOut_29 rfl (fun c3 => ?_) (fun c3 => ?_)
      · refine V_iinc (v3 + (1 : Int32)) [(0, .ref v0), (1, .ref v1), (2, .int v2), (3, .int (v3 + (1 : Int32)))] dX11_shareOut_77 rfl rfl rfl rfl ?_
        refine V_goto 4 dX11_shareOut_80 rfl ?_
        exact (k3 c1 c2 c3)
      · refine V_aload_n dX11_shareOut_32 rfl ?_
        refine V_getf (fk := 2) (Value.ref (zR σ v0 2)) ko_X11 rfl w_234 dX11_shareOut_33 o3 o4 rfl ?_
        refine V_aload_n dX11_shareOut_36 rfl ?_
        refine V_getf (fk := 0) (Value.ref (zR σ v0 0)) ko_X11 rfl w_232 dX11_shareOut_37 o3 o4 rfl ?_
        refine V_iload_n dX11_shareOut_40 rfl ?_
        refine V_iload_n dX11_shareOut_41 rfl ?_
        exact (k4 c1 c2 c3)

set_option maxRecDepth 100000 in
set_option maxHeartbeats 4000000 in
theorem b_X11_issued_0 {g : GP} {CX : State → Array Value → Prop} {E : ET} {v0 : Nat} {v1 : Int32} {σ : AH}
    (o1 : v0 ≠ 0)
    (o2 : zK σ v0 = 11)
    (o3 : v0 ≤ zN σ)
    (o4 : zR (nw σ 9 8) v0 3 ≠ 0)
    (o5 : zK (nw σ 9 8) (zR (nw σ 9 8) v0 3) = 10)
    (k1 : V g mX11_issued E CX 9 80 19 [(0, .ref v0), (1, .int v1)] [.int (zI (nw σ 9 8) (zR (nw σ 9 8) v0 3) 4), .int (zI (nw σ 9 8) (zR (nw σ 9 8) v0 3) 3), .int v1, .ref (zN σ + 1), .ref (zN σ + 1)] (nw σ 9 8)) :
    V g mX11_issued E CX 10 88 0 [(0, .ref v0), (1, .int v1)] [] σ := by
  refine V_new (k' := 9) (n' := 80) ko_X9 kd_X9 w_230 w_712 w_65 dX11_issued_0 rfl rfl ?_
  refine V_dup dX11_issued_3 rfl ?_
  refine V_iload_n dX11_issued_4 rfl ?_
  refine V_aload_n dX11_issued_5 rfl ?_
  refine V_getf (fk := 3) (Value.ref (zR (nw σ 9 8) v0 3)) ko_X11 rfl w_235 dX11_issued_6 o1 (by have q1_ := o2; have q2_ := o3; simp only [zK_nw, zN_nw, zN_uI, zN_uJ, zN_uR, zK_uI, zK_uJ, zK_uR]; repeat rw [if_neg (by omega)]; exact q1_) rfl ?_
  refine V_getf (fk := 3) (Value.int (zI (nw σ 9 8) (zR (nw σ 9 8) v0 3) 3)) ko_X10 rfl w_188 dX11_issued_9 o4 o5 rfl ?_
  refine V_aload_n dX11_issued_12 rfl ?_
  refine V_getf (fk := 3) (Value.ref (zR (nw σ 9 8) v0 3)) ko_X11 rfl w_235 dX11_issued_13 o1 (by have q1_ := o2; have q2_ := o3; simp only [zK_nw, zN_nw, zN_uI, zN_uJ, zN_uR, zK_uI, zK_uJ, zK_uR]; repeat rw [if_neg (by omega)]; exact q1_) rfl ?_
  refine V_getf (fk := 4) (Value.int (zI (nw σ 9 8) (zR (nw σ 9 8) v0 3) 4)) ko_X10 rfl w_190 dX11_issued_16 o4 o5 rfl ?_
  exact k1

set_option maxRecDepth 100000 in
set_option maxHeartbeats 4000000 in
theorem b_X11_addCash_0 {g : GP} {CX : State → Array Value → Prop} {E : ET} {v0 : Nat} {v1 : Int32} {v2 : Int64} {σ : AH}
    (k1 : V g mX11_addCash E CX 0 0 1 [(0, .ref v0), (1, .int v1), (2, .long v2)] [.int v1] σ) :
    V g mX11_addCash E CX 0 0 0 [(0, .ref v0), (1, .int v1), (2, .long v2)] [] σ := by
  refine V_iload_n dX11_addCash_0 rfl ?_
  exact k1

set_option maxRecDepth 100000 in
set_option maxHeartbeats 4000000 in
theorem b_X11_receive_0 {g : GP} {CX : State → Array Value → Prop} {E : ET} {v0 : Nat} {v1 : Nat} {v2 : Int32} {σ : AH}
    (o1 : v1 ≠ 0)
    (o2 : zK σ v1 = 9)
    (o3 : v0 ≠ 0)
    (o4 : zK σ v0 = 11)
    (k1 : V g mX11_receive E CX 0 0 29 [(0, .ref v0), (1, .ref v1), (2, .int v2)] [.long (Int32.toInt64 v2), .int (zI σ v1 0), .ref v0] (uJ (uJ σ v1 7 ((zJ σ v1 7) + (Int32.toInt64 v2))) v0 10 ((zJ σ v0 10) + (Int32.toInt64 v2)))) :
    V g mX11_receive E CX 0 0 0 [(0, .ref v0), (1, .ref v1), (2, .int v2)] [] σ := by
  refine V_aload_n dX11_receive_0 rfl ?_
  refine V_dup dX11_receive_1 rfl ?_
  refine V_getf (fk := 7) (Value.long (zJ σ v1 7)) ko_X9 rfl w_731 dX11_receive_2 o1 o2 rfl ?_
  refine V_iload_n dX11_receive_5 rfl ?_
  refine V_i2l dX11_receive_6 ?_
  refine V_ladd dX11_receive_7 ?_
  refine V_putl (fk := 7) ko_X9 rfl w_731 (Or.inl rfl) dX11_receive_8 rfl o1 o2 ?_
  refine V_aload_n dX11_receive_11 rfl ?_
  refine V_dup dX11_receive_12 rfl ?_
  refine V_getf (fk := 10) (Value.long (zJ σ v0 10)) ko_X11 rfl w_242 dX11_receive_13 o3 o4 (congrArg Value.long (zJ_oth _ _ _ _ _ _ (by decide))) ?_
  refine V_iload_n dX11_receive_16 rfl ?_
  refine V_i2l dX11_receive_17 ?_
  refine V_ladd dX11_receive_18 ?_
  refine V_putl (fk := 10) ko_X11 rfl w_242 (Or.inl rfl) dX11_receive_19 rfl o3 o4 ?_
  refine V_aload_n dX11_receive_22 rfl ?_
  refine V_aload_n dX11_receive_23 rfl ?_
  refine V_getf (fk := 0) (Value.int (zI σ v1 0)) ko_X9 rfl w_720 dX11_receive_24 o1 o2 rfl ?_
  refine V_iload_n dX11_receive_27 rfl ?_
  refine V_i2l dX11_receive_28 ?_
  exact k1

set_option maxRecDepth 100000 in
set_option maxHeartbeats 4000000 in
theorem b_X11_issue_0 {g : GP} {CX : State → Array Value → Prop} {E : ET} {v0 : Nat} {v1 : Int32} {σ : AH}
    (k1 : V g mX11_issue E CX 11 94 1 [(0, .ref v0), (1, .int v1)] [.int v1] σ) :
    V g mX11_issue E CX 11 94 0 [(0, .ref v0), (1, .int v1)] [] σ := by
  refine V_iload_n dX11_issue_0 rfl ?_
  exact k1

set_option maxRecDepth 100000 in
set_option maxHeartbeats 4000000 in
theorem b_X11_ticketAt_0 {g : GP} {CX : State → Array Value → Prop} {Q : AH → Option Value → Prop} {X : AH → String → Prop} {v0 : Nat} {v1 : Int32} {σ : AH}
    (k1 : (v1 < 0) → Q σ (some (.ref 0)))
    (o1 : v0 ≠ 0)
    (o2 : zK σ v0 = 11)
    (k2 : (¬ v1 < 0) → ((zI σ v0 8) ≤ v1) → Q σ (some (.ref 0)))
    (k3 : (¬ v1 < 0) → (¬ (zI σ v0 8) ≤ v1) → ((30 : Int32) ≤ v1) → Q σ (some (.ref 0)))
    (o3 : zR σ v0 5 ≠ 0)
    (o4 : zK σ (zR σ v0 5) = 39)
    (o5 : (¬ v1 < 0) → (¬ (zI σ v0 8) ≤ v1) → (¬ (30 : Int32) ≤ v1) → vp_in v1 (zL σ (zR σ v0 5)))
    (k4 : (¬ v1 < 0) → (¬ (zI σ v0 8) ≤ v1) → (¬ (30 : Int32) ≤ v1) → Q σ (some (.ref (zR σ (zR σ v0 5) (Int32.toNatClampNeg v1))))) :
    V g mX11_ticketAt (Em g mX11_ticketAt Q X) CX 0 0 0 [(0, .ref v0), (1, .int v1)] [] σ := by
  refine V_iload_n dX11_ticketAt_0 rfl ?_
  refine V_if_lt 22 dX11_ticketAt_1 rfl (fun c1 => ?_) (fun c1 => ?_)
  · refine V_iconst (0 : Int32) dX11_ticketAt_22 (by decide) ?_
    refine V_istore_n [(0, .ref v0), (1, .int v1), (2, .int (0 : Int32))] dX11_ticketAt_23 rfl rfl ?_
    refine V_iload_n dX11_ticketAt_24 rfl ?_
    refine V_if_eq 37 dX11_ticketAt_25 rfl (fun _ => ?_) (fun z_ => (by first | exact absurd (by decide) z_ | exact absurd z_ (by decide)))
    refine V_null dX11_ticketAt_37 ?_
    exact V_aret rfl dX11_ticketAt_38 (k1 c1)
  · refine V_iload_n dX11_ticketAt_4 rfl ?_
    refine V_aload_n dX11_ticketAt_5 rfl ?_
    refine V_getf (fk := 8) (Value.int (zI σ v0 8)) ko_X11 rfl w_240 dX11_ticketAt_6 o1 o2 rfl ?_
    refine V_icmp_ge 22 dX11_ticketAt_9 rfl (fun c2 => ?_) (fun c2 => ?_)
    · refine V_iconst (0 : Int32) dX11_ticketAt_22 (by decide) ?_
      refine V_istore_n [(0, .ref v0), (1, .int v1), (2, .int (0 : Int32))] dX11_ticketAt_23 rfl rfl ?_
      refine V_iload_n dX11_ticketAt_24 rfl ?_
      refine V_if_eq 37 dX11_ticketAt_25 rfl (fun _ => ?_) (fun z_ => (by first | exact absurd (by decide) z_ | exact absurd z_ (by decide)))
      refine V_null dX11_ticketAt_37 ?_
      exact V_aret rfl dX11_ticketAt_38 (k2 c1 c2)
    · refine V_iload_n dX11_ticketAt_12 rfl ?_
      refine V_bipush (30 : Int32) dX11_ticketAt_13 (by decide) ?_
      refine V_icmp_ge 22 dX11_ticketAt_15 rfl (fun c3 => ?_) (fun c3 => ?_)
      · refine V_iconst (0 : Int32) dX11_ticketAt_22 (by decide) ?_
        refine V_istore_n [(0, .ref v0), (1, .int v1), (2, .int (0 : Int32))] dX11_ticketAt_23 rfl rfl ?_
        refine V_iload_n dX11_ticketAt_24 rfl ?_
        refine V_if_eq 37 dX11_ticketAt_25 rfl (fun _ => ?_) (fun z_ => (by first | exact absurd (by decide) z_ | exact absurd z_ (by decide)))
        refine V_null dX11_ticketAt_37 ?_
        exact V_aret rfl dX11_ticketAt_38 (k3 c1 c2 c3)
      · refine V_iconst (1 : Int32) dX11_ticketAt_18 (by decide) ?_
        refine V_goto 23 dX11_ticketAt_19 rfl ?_
        refine V_istore_n [(0, .ref v0), (1, .int v1), (2, .int (1 : Int32))] dX11_ticketAt_23 rfl rfl ?_
        refine V_iload_n dX11_ticketAt_24 rfl ?_
        refine V_if_eq 37 dX11_ticketAt_25 rfl (fun z_ => (by first | exact absurd (by decide) z_ | exact absurd z_ (by decide))) (fun _ => ?_)
        refine V_aload_n dX11_ticketAt_28 rfl ?_
        refine V_getf (fk := 5) (Value.ref (zR σ v0 5)) ko_X11 rfl w_237 dX11_ticketAt_29 o1 o2 rfl ?_
        refine V_iload_n dX11_ticketAt_32 rfl ?_
        refine V_aald ao_39 dX11_ticketAt_33 o3 o4 (o5 c1 c2 c3) ?_
        refine V_goto 38 dX11_ticketAt_34 rfl ?_
        exact V_aret rfl dX11_ticketAt_38 (k4 c1 c2 c3)

set_option maxRecDepth 100000 in
set_option maxHeartbeats 4000000 in
theorem b_X11_fly_0 {g : GP} {CX : State → Array Value → Prop} {E : ET} {v0 : Nat} {v1 : Int32} {v2 : Int32} {σ : AH}
    (k1 : V g mX11_fly E CX 2 12 2 [(0, .ref v0), (1, .int v1), (2, .int v2)] [.int v1, .ref v0] σ) :
    V g mX11_fly E CX 2 12 0 [(0, .ref v0), (1, .int v1), (2, .int v2)] [] σ := by
  refine V_aload_n dX11_fly_0 rfl ?_
  refine V_iload_n dX11_fly_1 rfl ?_
  exact k1

set_option maxRecDepth 100000 in
set_option maxHeartbeats 4000000 in
theorem b_X11_endorse_0 {g : GP} {CX : State → Array Value → Prop} {E : ET} {v0 : Nat} {v1 : Int32} {v2 : Int32} {v3 : Int32} {σ : AH}
    (k1 : V g mX11_endorse E CX 1 6 2 [(0, .ref v0), (1, .int v1), (2, .int v2), (3, .int v3)] [.int v1, .ref v0] σ) :
    V g mX11_endorse E CX 1 6 0 [(0, .ref v0), (1, .int v1), (2, .int v2), (3, .int v3)] [] σ := by
  refine V_aload_n dX11_endorse_0 rfl ?_
  refine V_iload_n dX11_endorse_1 rfl ?_
  exact k1

set_option maxRecDepth 100000 in
set_option maxHeartbeats 4000000 in
theorem b_X11_refund_0 {g : GP} {CX : State → Array Value → Prop} {E : ET} {v0 : Nat} {v1 : Int32} {σ : AH}
    (k1 : V g mX11_refund E CX 1 6 2 [(0, .ref v0), (1, .int v1)] [.int v1, .ref v0] σ) :
    V g mX11_refund E CX 1 6 0 [(0, .ref v0), (1, .int v1)] [] σ := by
  refine V_aload_n dX11_refund_0 rfl ?_
  refine V_iload_n dX11_refund_1 rfl ?_
  exact k1

set_option maxRecDepth 100000 in
set_option maxHeartbeats 4000000 in
theorem b_X11_reissue_0 {g : GP} {CX : State → Array Value → Prop} {E : ET} {v0 : Nat} {v1 : Int32} {σ : AH}
    (k1 : V g mX11_reissue E CX 11 94 2 [(0, .ref v0), (1, .int v1)] [.int v1, .ref v0] σ) :
    V g mX11_reissue E CX 11 94 0 [(0, .ref v0), (1, .int v1)] [] σ := by
  refine V_aload_n dX11_reissue_0 rfl ?_
  refine V_iload_n dX11_reissue_1 rfl ?_
  exact k1

set_option maxRecDepth 100000 in
set_option maxHeartbeats 4000000 in
theorem b_X11_pass_0 {g : GP} {CX : State → Array Value → Prop} {E : ET} {v0 : Nat} {v1 : Int32} {σ : AH}
    (k1 : V g mX11_pass E CX 1 6 4 [(0, .ref v0), (1, .int v1)] [.int (100 : Int32), .int (1 : Int32), .int v1] σ) :
    V g mX11_pass E CX 1 6 0 [(0, .ref v0), (1, .int v1)] [] σ := by
  refine V_iload_n dX11_pass_0 rfl ?_
  refine V_iconst (1 : Int32) dX11_pass_1 (by decide) ?_
  refine V_bipush (100 : Int32) dX11_pass_2 (by decide) ?_
  exact k1

set_option maxRecDepth 100000 in
set_option maxHeartbeats 4000000 in
theorem b_X11_moveNets_0 {g : GP} {CX : State → Array Value → Prop} {E : ET} {v0 : Nat} {σ : AH}
    (k1 : V g mX11_moveNets E CX 0 0 2 [(0, .ref v0), (1, .int (0 : Int32))] [] σ) :
    V g mX11_moveNets E CX 0 0 0 [(0, .ref v0)] [] σ := by
  refine V_iconst (0 : Int32) dX11_moveNets_0 (by decide) ?_
  refine V_istore_n [(0, .ref v0), (1, .int (0 : Int32))] dX11_moveNets_1 rfl rfl ?_
  exact k1
set_option maxRecDepth 100000 in
set_option maxHeartbeats 4000000 in
theorem b_X11_moveNets_2 {g : GP} {CX : State → Array Value → Prop} {Q : AH → Option Value → Prop} {X : AH → String → Prop} {v0 : Nat} {v1 : Int32} {σ : AH}
    (k1 : ((5 : Int32) ≤ v1) → Q σ none)
    (o1 : v0 ≠ 0)
    (o2 : zK σ v0 = 11)
    (k2 : (¬ (5 : Int32) ≤ v1) → V g mX11_moveNets (Em g mX11_moveNets Q X) CX 0 0 14 [(0, .ref v0), (1, .int v1)] [.int v1, .ref (zR σ v0 4), .int v1, .ref v0] σ) :
    V g mX11_moveNets (Em g mX11_moveNets Q X) CX 0 0 2 [(0, .ref v0), (1, .int v1)] [] σ := by
  refine V_iload_n dX11_moveNets_2 rfl ?_
  refine V_iconst (5 : Int32) dX11_moveNets_3 (by decide) ?_
  refine V_icmp_ge 26 dX11_moveNets_4 rfl (fun c1 => ?_) (fun c1 => ?_)
  · exact V_vret rfl dX11_moveNets_26 (k1 c1)
  · refine V_aload_n dX11_moveNets_7 rfl ?_
    refine V_iload_n dX11_moveNets_8 rfl ?_
    refine V_aload_n dX11_moveNets_9 rfl ?_
    refine V_getf (fk := 4) (Value.ref (zR σ v0 4)) ko_X11 rfl w_236 dX11_moveNets_10 o1 o2 rfl ?_
    refine V_iload_n dX11_moveNets_13 rfl ?_
    exact (k2 c1)

set_option maxRecDepth 100000 in
set_option maxHeartbeats 4000000 in
theorem b_X11_clear_0 {g : GP} {CX : State → Array Value → Prop} {E : ET} {v0 : Nat} {σ : AH}
    (o1 : v0 ≠ 0)
    (o2 : zK σ v0 = 11)
    (k1 : V g mX11_clear E CX 0 0 4 [(0, .ref v0)] [.ref (zR σ v0 4)] σ) :
    V g mX11_clear E CX 0 0 0 [(0, .ref v0)] [] σ := by
  refine V_aload_n dX11_clear_0 rfl ?_
  refine V_getf (fk := 4) (Value.ref (zR σ v0 4)) ko_X11 rfl w_236 dX11_clear_1 o1 o2 rfl ?_
  exact k1

set_option maxRecDepth 100000 in
set_option maxHeartbeats 4000000 in
theorem b_X11_reject_0 {g : GP} {CX : State → Array Value → Prop} {E : ET} {v0 : Nat} {v1 : Int32} {σ : AH}
    (o1 : v0 ≠ 0)
    (o2 : zK σ v0 = 11)
    (k1 : V g mX11_reject E CX 1 6 5 [(0, .ref v0), (1, .int v1)] [.int v1, .ref (zR σ v0 4)] σ) :
    V g mX11_reject E CX 1 6 0 [(0, .ref v0), (1, .int v1)] [] σ := by
  refine V_aload_n dX11_reject_0 rfl ?_
  refine V_getf (fk := 4) (Value.ref (zR σ v0 4)) ko_X11 rfl w_236 dX11_reject_1 o1 o2 rfl ?_
  refine V_iload_n dX11_reject_4 rfl ?_
  exact k1

set_option maxRecDepth 100000 in
set_option maxHeartbeats 4000000 in
theorem b_X11_rebill_0 {g : GP} {CX : State → Array Value → Prop} {E : ET} {v0 : Nat} {v1 : Int32} {σ : AH}
    (o1 : v0 ≠ 0)
    (o2 : zK σ v0 = 11)
    (k1 : V g mX11_rebill E CX 1 6 5 [(0, .ref v0), (1, .int v1)] [.int v1, .ref (zR σ v0 4)] σ) :
    V g mX11_rebill E CX 1 6 0 [(0, .ref v0), (1, .int v1)] [] σ := by
  refine V_aload_n dX11_rebill_0 rfl ?_
  refine V_getf (fk := 4) (Value.ref (zR σ v0 4)) ko_X11 rfl w_236 dX11_rebill_1 o1 o2 rfl ?_
  refine V_iload_n dX11_rebill_4 rfl ?_
  exact k1

set_option maxRecDepth 100000 in
set_option maxHeartbeats 4000000 in
theorem b_X11_fails_0 {g : GP} {CX : State → Array Value → Prop} {E : ET} {v0 : Nat} {v1 : Int32} {v2 : Int32} {σ : AH}
    (k1 : V g mX11_fails E CX 1 6 1 [(0, .ref v0), (1, .int v1), (2, .int v2)] [.int v1] σ) :
    V g mX11_fails E CX 1 6 0 [(0, .ref v0), (1, .int v1), (2, .int v2)] [] σ := by
  refine V_iload_n dX11_fails_0 rfl ?_
  exact k1

set_option maxRecDepth 100000 in
set_option maxHeartbeats 4000000 in
theorem b_X11_ofTicket_0 {g : GP} {CX : State → Array Value → Prop} {E : ET} {v0 : Nat} {v1 : Int32} {v2 : Int32} {σ : AH}
    (k1 : V g mX11_ofTicket E CX 1 6 2 [(0, .ref v0), (1, .int v1), (2, .int v2)] [.int v1, .ref v0] σ) :
    V g mX11_ofTicket E CX 1 6 0 [(0, .ref v0), (1, .int v1), (2, .int v2)] [] σ := by
  refine V_aload_n dX11_ofTicket_0 rfl ?_
  refine V_iload_n dX11_ofTicket_1 rfl ?_
  exact k1

set_option maxRecDepth 100000 in
set_option maxHeartbeats 4000000 in
theorem b_X11_ofCoupon_0 {g : GP} {CX : State → Array Value → Prop} {E : ET} {v0 : Nat} {v1 : Int32} {v2 : Int32} {v3 : Int32} {σ : AH}
    (k1 : V g mX11_ofCoupon E CX 1 6 2 [(0, .ref v0), (1, .int v1), (2, .int v2), (3, .int v3)] [.int v1, .ref v0] σ) :
    V g mX11_ofCoupon E CX 1 6 0 [(0, .ref v0), (1, .int v1), (2, .int v2), (3, .int v3)] [] σ := by
  refine V_aload_n dX11_ofCoupon_0 rfl ?_
  refine V_iload_n dX11_ofCoupon_1 rfl ?_
  exact k1

set_option maxRecDepth 100000 in
set_option maxHeartbeats 4000000 in
theorem b_X11_ofBill_0 {g : GP} {CX : State → Array Value → Prop} {E : ET} {v0 : Nat} {v1 : Int32} {v2 : Int32} {σ : AH}
    (o1 : v0 ≠ 0)
    (o2 : zK σ v0 = 11)
    (k1 : V g mX11_ofBill E CX 1 6 5 [(0, .ref v0), (1, .int v1), (2, .int v2)] [.int v1, .ref (zR σ v0 4)] σ) :
    V g mX11_ofBill E CX 1 6 0 [(0, .ref v0), (1, .int v1), (2, .int v2)] [] σ := by
  refine V_aload_n dX11_ofBill_0 rfl ?_
  refine V_getf (fk := 4) (Value.ref (zR σ v0 4)) ko_X11 rfl w_236 dX11_ofBill_1 o1 o2 rfl ?_
  refine V_iload_n dX11_ofBill_4 rfl ?_
  exact k1

set_option maxRecDepth 100000 in
set_option maxHeartbeats 4000000 in
theorem b_X11_cash_0 {g : GP} {CX : State → Array Value → Prop} {E : ET} {v0 : Nat} {v1 : Int32} {σ : AH}
    (k1 : V g mX11_cash E CX 1 6 1 [(0, .ref v0), (1, .int v1)] [.int v1] σ) :
    V g mX11_cash E CX 1 6 0 [(0, .ref v0), (1, .int v1)] [] σ := by
  refine V_iload_n dX11_cash_0 rfl ?_
  exact k1

set_option maxRecDepth 100000 in
set_option maxHeartbeats 4000000 in
theorem b_X11_cashAnew_0 {g : GP} {CX : State → Array Value → Prop} {E : ET} {v0 : Nat} {v1 : Int32} {σ : AH}
    (k1 : V g mX11_cashAnew E CX 1 6 1 [(0, .ref v0), (1, .int v1)] [.int v1] σ) :
    V g mX11_cashAnew E CX 1 6 0 [(0, .ref v0), (1, .int v1)] [] σ := by
  refine V_iload_n dX11_cashAnew_0 rfl ?_
  exact k1

set_option maxRecDepth 100000 in
set_option maxHeartbeats 4000000 in
theorem b_X11_state_0 {g : GP} {CX : State → Array Value → Prop} {E : ET} {v0 : Nat} {v1 : Int32} {σ : AH}
    (k1 : V g mX11_state E CX 1 6 1 [(0, .ref v0), (1, .int v1)] [.int v1] σ) :
    V g mX11_state E CX 1 6 0 [(0, .ref v0), (1, .int v1)] [] σ := by
  refine V_iload_n dX11_state_0 rfl ?_
  exact k1

set_option maxRecDepth 100000 in
set_option maxHeartbeats 4000000 in
theorem b_X11_paid_0 {g : GP} {CX : State → Array Value → Prop} {Q : AH → Option Value → Prop} {X : AH → String → Prop} {v0 : Nat} {σ : AH}
    (o1 : v0 ≠ 0)
    (o2 : zK σ v0 = 11)
    (k1 : Q σ (some (.long (zJ σ v0 10)))) :
    V g mX11_paid (Em g mX11_paid Q X) CX 0 0 0 [(0, .ref v0)] [] σ := by
  refine V_aload_n dX11_paid_0 rfl ?_
  refine V_getf (fk := 10) (Value.long (zJ σ v0 10)) ko_X11 rfl w_242 dX11_paid_1 o1 o2 rfl ?_
  exact V_lret rfl dX11_paid_4 k1

set_option maxRecDepth 100000 in
set_option maxHeartbeats 4000000 in
theorem b_X11_of_0 {g : GP} {CX : State → Array Value → Prop} {Q : AH → Option Value → Prop} {X : AH → String → Prop} {v0 : Nat} {v1 : Int32} {σ : AH}
    (o1 : v0 ≠ 0)
    (o2 : zK σ v0 = 11)
    (o3 : zR σ v0 0 ≠ 0)
    (o4 : zK σ (zR σ v0 0) = 8)
    (k1 : (v1 = (0 : Int32)) → Q σ (some (.int (zI σ (zR σ v0 0) 6))))
    (o5 : zR σ v0 2 ≠ 0)
    (o6 : zK σ (zR σ v0 2) = 4)
    (k2 : (¬ v1 = (0 : Int32)) → (v1 = (1 : Int32)) → Q σ (some (.int (zI σ (zR σ v0 2) 1))))
    (k3 : (¬ v1 = (0 : Int32)) → (¬ v1 = (1 : Int32)) → (v1 = (2 : Int32)) → Q σ (some (.int (zI σ v0 8))))
    (o7 : zR σ v0 4 ≠ 0)
    (o8 : zK σ (zR σ v0 4) = 1)
    (k4 : (¬ v1 = (0 : Int32)) → (¬ v1 = (1 : Int32)) → (¬ v1 = (2 : Int32)) → (v1 = (3 : Int32)) → Q σ (some (.int (zI σ (zR σ v0 4) 2))))
    (k5 : (¬ v1 = (0 : Int32)) → (¬ v1 = (1 : Int32)) → (¬ v1 = (2 : Int32)) → (¬ v1 = (3 : Int32)) → (v1 = (4 : Int32)) → Q σ (some (.int (zI σ (zR σ v0 4) 3))))
    (k6 : (¬ v1 = (0 : Int32)) → (¬ v1 = (1 : Int32)) → (¬ v1 = (2 : Int32)) → (¬ v1 = (3 : Int32)) → (¬ v1 = (4 : Int32)) → (v1 = (5 : Int32)) → Q σ (some (.int (zI σ (zR σ v0 4) 4))))
    (k7 : (¬ v1 = (0 : Int32)) → (¬ v1 = (1 : Int32)) → (¬ v1 = (2 : Int32)) → (¬ v1 = (3 : Int32)) → (¬ v1 = (4 : Int32)) → (¬ v1 = (5 : Int32)) → X σ "java/lang/IllegalArgumentException") :
    V g mX11_of (Em g mX11_of Q X) CX 1 6 0 [(0, .ref v0), (1, .int v1)] [] σ := by
  refine V_iload_n dX11_of_0 rfl ?_
  by_cases c1 : v1 = (0 : Int32)
  · refine V_tableIn (off := 39) 40 dX11_of_1 (by rw [c1]; decide) (by rw [c1]; decide) (by rw [c1]; rfl) rfl ?_
    refine V_aload_n dX11_of_40 rfl ?_
    refine V_getf (fk := 0) (Value.ref (zR σ v0 0)) ko_X11 rfl w_232 dX11_of_41 o1 o2 rfl ?_
    refine V_getf (fk := 6) (Value.int (zI σ (zR σ v0 0) 6)) ko_X8 rfl w_106 dX11_of_44 o3 o4 rfl ?_
    exact V_iret rfl dX11_of_47 (k1 c1)
  by_cases c2 : v1 = (1 : Int32)
  · refine V_tableIn (off := 47) 48 dX11_of_1 (by rw [c2]; decide) (by rw [c2]; decide) (by rw [c2]; rfl) rfl ?_
    refine V_aload_n dX11_of_48 rfl ?_
    refine V_getf (fk := 2) (Value.ref (zR σ v0 2)) ko_X11 rfl w_234 dX11_of_49 o1 o2 rfl ?_
    refine V_getf (fk := 1) (Value.int (zI σ (zR σ v0 2) 1)) ko_X4 rfl w_172 dX11_of_52 o5 o6 rfl ?_
    exact V_iret rfl dX11_of_55 (k2 c1 c2)
  by_cases c3 : v1 = (2 : Int32)
  · refine V_tableIn (off := 55) 56 dX11_of_1 (by rw [c3]; decide) (by rw [c3]; decide) (by rw [c3]; rfl) rfl ?_
    refine V_aload_n dX11_of_56 rfl ?_
    refine V_getf (fk := 8) (Value.int (zI σ v0 8)) ko_X11 rfl w_240 dX11_of_57 o1 o2 rfl ?_
    exact V_iret rfl dX11_of_60 (k3 c1 c2 c3)
  by_cases c4 : v1 = (3 : Int32)
  · refine V_tableIn (off := 60) 61 dX11_of_1 (by rw [c4]; decide) (by rw [c4]; decide) (by rw [c4]; rfl) rfl ?_
    refine V_aload_n dX11_of_61 rfl ?_
    refine V_getf (fk := 4) (Value.ref (zR σ v0 4)) ko_X11 rfl w_236 dX11_of_62 o1 o2 rfl ?_
    refine V_getf (fk := 2) (Value.int (zI σ (zR σ v0 4) 2)) ko_X1 rfl w_213 dX11_of_65 o7 o8 rfl ?_
    exact V_iret rfl dX11_of_68 (k4 c1 c2 c3 c4)
  by_cases c5 : v1 = (4 : Int32)
  · refine V_tableIn (off := 68) 69 dX11_of_1 (by rw [c5]; decide) (by rw [c5]; decide) (by rw [c5]; rfl) rfl ?_
    refine V_aload_n dX11_of_69 rfl ?_
    refine V_getf (fk := 4) (Value.ref (zR σ v0 4)) ko_X11 rfl w_236 dX11_of_70 o1 o2 rfl ?_
    refine V_getf (fk := 3) (Value.int (zI σ (zR σ v0 4) 3)) ko_X1 rfl w_215 dX11_of_73 o7 o8 rfl ?_
    exact V_iret rfl dX11_of_76 (k5 c1 c2 c3 c4 c5)
  by_cases c6 : v1 = (5 : Int32)
  · refine V_tableIn (off := 76) 77 dX11_of_1 (by rw [c6]; decide) (by rw [c6]; decide) (by rw [c6]; rfl) rfl ?_
    refine V_aload_n dX11_of_77 rfl ?_
    refine V_getf (fk := 4) (Value.ref (zR σ v0 4)) ko_X11 rfl w_236 dX11_of_78 o1 o2 rfl ?_
    refine V_getf (fk := 4) (Value.int (zI σ (zR σ v0 4) 4)) ko_X1 rfl w_217 dX11_of_81 o7 o8 rfl ?_
    exact V_iret rfl dX11_of_84 (k6 c1 c2 c3 c4 c5 c6)
  refine V_tableOut 85 dX11_of_1 (ts_0_5 c1 c2 c3 c4 c5 c6) rfl ?_
  exact V_throw (k := 1) (n := 6) tw_X11_72 ws_994 dX11_of_85 dX11_of_88 dX11_of_89 dX11_of_92 dX11_of_95 rfl rfl rfl rfl rfl (k7 c1 c2 c3 c4 c5 c6)

set_option maxRecDepth 100000 in
set_option maxHeartbeats 4000000 in
theorem b_X12_init_0 {g : GP} {CX : State → Array Value → Prop} {Q : AH → Option Value → Prop} {X : AH → String → Prop} {v0 : Nat} {σ : AH}
    (o1 : v0 ≠ 0)
    (o2 : zK σ v0 = 12)
    (o3 : v0 ≤ zN σ)
    (k1 : Q (uI (uR (nw (uR (nw (uR (nw (uR (nw (uR (nw (uR (nw (uR (nw (uR (nw (uR (nw (uR (nw (uR (nw (uR (nw (uR (nw (uR (nw (uR (nw (uR (nw (uR (nw (uR (nw (uR (nw (uR (nw (uR (nw (uR (nw (uR (nw (uR (nw (uR (nw (uR (nw (uR (nw (uR (nw (uR (nw (uR (nw (uR (nw (uR (nw (uR (nw (uR (nw (uR (nw (uR (nw (uR (nw (uR (nw σ 20 100) v0 1 (zN σ + 1)) 20 100) v0 2 (zN σ + 2)) 20 500) v0 3 (zN σ + 3)) 20 10) v0 4 (zN σ + 4)) 20 10) v0 5 (zN σ + 5)) 20 40) v0 7 (zN σ + 6)) 20 40) v0 8 (zN σ + 7)) 20 40) v0 9 (zN σ + 8)) 20 40) v0 10 (zN σ + 9)) 20 40) v0 11 (zN σ + 10)) 20 40) v0 12 (zN σ + 11)) 22 40) v0 13 (zN σ + 12)) 20 8) v0 17 (zN σ + 13)) 20 8) v0 18 (zN σ + 14)) 20 8) v0 19 (zN σ + 15)) 20 8) v0 20 (zN σ + 16)) 20 30) v0 24 (zN σ + 17)) 20 30) v0 25 (zN σ + 18)) 20 30) v0 26 (zN σ + 19)) 20 30) v0 27 (zN σ + 20)) 20 30) v0 28 (zN σ + 21)) 20 240) v0 29 (zN σ + 22)) 20 240) v0 30 (zN σ + 23)) 20 240) v0 31 (zN σ + 24)) 20 240) v0 32 (zN σ + 25)) 20 240) v0 33 (zN σ + 26)) 20 240) v0 34 (zN σ + 27)) 20 240) v0 35 (zN σ + 28)) 20 240) v0 37 (zN σ + 29)) 20 240) v0 38 (zN σ + 30)) 20 240) v0 39 (zN σ + 31)) 20 240) v0 40 (zN σ + 32)) 20 240) v0 41 (zN σ + 33)) 20 240) v0 42 (zN σ + 34)) 22 5) v0 44 (zN σ + 35)) 21 5) v0 45 (zN σ + 36)) 21 5) v0 46 (zN σ + 37)) 21 10) v0 47 (zN σ + 38)) v0 14 (1 : Int32)) none) :
    V g mX12_init (Em g mX12_init Q X) CX 38 4327 0 [(0, .ref v0)] [] σ := by
  refine V_aload_n dX12_init_0 rfl ?_
  refine V_objinit w_1054 w_74 w_75 dX12_init_1 o1 rfl rfl ?_
  refine V_aload_n dX12_init_4 rfl ?_
  refine V_bipush (100 : Int32) dX12_init_5 (by decide) ?_
  refine V_newi (len := 100) (k' := 37) (n' := 4227) w_92 dX12_init_7 (by decide) (by decide) rfl rfl rfl ?_
  refine V_putr (fk := 1) ko_X12 rfl w_1056 (Or.inr ⟨rfl, rfl, rfl⟩) dX12_init_9 rfl o1 (by have q1_ := o2; have q2_ := o3; simp only [zK_nw, zN_nw, zN_uI, zN_uJ, zN_uR, zK_uI, zK_uJ, zK_uR]; repeat rw [if_neg (by omega)]; exact q1_) ?_
  refine V_aload_n dX12_init_12 rfl ?_
  refine V_bipush (100 : Int32) dX12_init_13 (by decide) ?_
  refine V_newi (len := 100) (k' := 36) (n' := 4127) w_92 dX12_init_15 (by decide) (by decide) rfl rfl rfl ?_
  refine V_putr (fk := 2) ko_X12 rfl w_1057 (Or.inr ⟨rfl, rfl, rfl⟩) dX12_init_17 rfl o1 (by have q1_ := o2; have q2_ := o3; simp only [zK_nw, zN_nw, zN_uI, zN_uJ, zN_uR, zK_uI, zK_uJ, zK_uR]; repeat rw [if_neg (by omega)]; exact q1_) ?_
  refine V_aload_n dX12_init_20 rfl ?_
  refine V_sipush (500 : Int32) dX12_init_21 (by decide) ?_
  refine V_newi (len := 500) (k' := 35) (n' := 3627) w_92 dX12_init_24 (by decide) (by decide) rfl rfl rfl ?_
  refine V_putr (fk := 3) ko_X12 rfl w_1058 (Or.inr ⟨rfl, rfl, rfl⟩) dX12_init_26 rfl o1 (by have q1_ := o2; have q2_ := o3; simp only [zK_nw, zN_nw, zN_uI, zN_uJ, zN_uR, zK_uI, zK_uJ, zK_uR]; repeat rw [if_neg (by omega)]; exact q1_) ?_
  refine V_aload_n dX12_init_29 rfl ?_
  refine V_bipush (10 : Int32) dX12_init_30 (by decide) ?_
  refine V_newi (len := 10) (k' := 34) (n' := 3617) w_92 dX12_init_32 (by decide) (by decide) rfl rfl rfl ?_
  refine V_putr (fk := 4) ko_X12 rfl w_1059 (Or.inr ⟨rfl, rfl, rfl⟩) dX12_init_34 rfl o1 (by have q1_ := o2; have q2_ := o3; simp only [zK_nw, zN_nw, zN_uI, zN_uJ, zN_uR, zK_uI, zK_uJ, zK_uR]; repeat rw [if_neg (by omega)]; exact q1_) ?_
  refine V_aload_n dX12_init_37 rfl ?_
  refine V_bipush (10 : Int32) dX12_init_38 (by decide) ?_
  refine V_newi (len := 10) (k' := 33) (n' := 3607) w_92 dX12_init_40 (by decide) (by decide) rfl rfl rfl ?_
  refine V_putr (fk := 5) ko_X12 rfl w_1060 (Or.inr ⟨rfl, rfl, rfl⟩) dX12_init_42 rfl o1 (by have q1_ := o2; have q2_ := o3; simp only [zK_nw, zN_nw, zN_uI, zN_uJ, zN_uR, zK_uI, zK_uJ, zK_uR]; repeat rw [if_neg (by omega)]; exact q1_) ?_
  refine V_aload_n dX12_init_45 rfl ?_
  refine V_bipush (40 : Int32) dX12_init_46 (by decide) ?_
  refine V_newi (len := 40) (k' := 32) (n' := 3567) w_92 dX12_init_48 (by decide) (by decide) rfl rfl rfl ?_
  refine V_putr (fk := 7) ko_X12 rfl w_1062 (Or.inr ⟨rfl, rfl, rfl⟩) dX12_init_50 rfl o1 (by have q1_ := o2; have q2_ := o3; simp only [zK_nw, zN_nw, zN_uI, zN_uJ, zN_uR, zK_uI, zK_uJ, zK_uR]; repeat rw [if_neg (by omega)]; exact q1_) ?_
  refine V_aload_n dX12_init_53 rfl ?_
  refine V_bipush (40 : Int32) dX12_init_54 (by decide) ?_
  refine V_newi (len := 40) (k' := 31) (n' := 3527) w_92 dX12_init_56 (by decide) (by decide) rfl rfl rfl ?_
  refine V_putr (fk := 8) ko_X12 rfl w_1063 (Or.inr ⟨rfl, rfl, rfl⟩) dX12_init_58 rfl o1 (by have q1_ := o2; have q2_ := o3; simp only [zK_nw, zN_nw, zN_uI, zN_uJ, zN_uR, zK_uI, zK_uJ, zK_uR]; repeat rw [if_neg (by omega)]; exact q1_) ?_
  refine V_aload_n dX12_init_61 rfl ?_
  refine V_bipush (40 : Int32) dX12_init_62 (by decide) ?_
  refine V_newi (len := 40) (k' := 30) (n' := 3487) w_92 dX12_init_64 (by decide) (by decide) rfl rfl rfl ?_
  refine V_putr (fk := 9) ko_X12 rfl w_1064 (Or.inr ⟨rfl, rfl, rfl⟩) dX12_init_66 rfl o1 (by have q1_ := o2; have q2_ := o3; simp only [zK_nw, zN_nw, zN_uI, zN_uJ, zN_uR, zK_uI, zK_uJ, zK_uR]; repeat rw [if_neg (by omega)]; exact q1_) ?_
  refine V_aload_n dX12_init_69 rfl ?_
  refine V_bipush (40 : Int32) dX12_init_70 (by decide) ?_
  refine V_newi (len := 40) (k' := 29) (n' := 3447) w_92 dX12_init_72 (by decide) (by decide) rfl rfl rfl ?_
  refine V_putr (fk := 10) ko_X12 rfl w_1065 (Or.inr ⟨rfl, rfl, rfl⟩) dX12_init_74 rfl o1 (by have q1_ := o2; have q2_ := o3; simp only [zK_nw, zN_nw, zN_uI, zN_uJ, zN_uR, zK_uI, zK_uJ, zK_uR]; repeat rw [if_neg (by omega)]; exact q1_) ?_
  refine V_aload_n dX12_init_77 rfl ?_
  refine V_bipush (40 : Int32) dX12_init_78 (by decide) ?_
  refine V_newi (len := 40) (k' := 28) (n' := 3407) w_92 dX12_init_80 (by decide) (by decide) rfl rfl rfl ?_
  refine V_putr (fk := 11) ko_X12 rfl w_1066 (Or.inr ⟨rfl, rfl, rfl⟩) dX12_init_82 rfl o1 (by have q1_ := o2; have q2_ := o3; simp only [zK_nw, zN_nw, zN_uI, zN_uJ, zN_uR, zK_uI, zK_uJ, zK_uR]; repeat rw [if_neg (by omega)]; exact q1_) ?_
  refine V_aload_n dX12_init_85 rfl ?_
  refine V_bipush (40 : Int32) dX12_init_86 (by decide) ?_
  refine V_newi (len := 40) (k' := 27) (n' := 3367) w_92 dX12_init_88 (by decide) (by decide) rfl rfl rfl ?_
  refine V_putr (fk := 12) ko_X12 rfl w_1067 (Or.inr ⟨rfl, rfl, rfl⟩) dX12_init_90 rfl o1 (by have q1_ := o2; have q2_ := o3; simp only [zK_nw, zN_nw, zN_uI, zN_uJ, zN_uR, zK_uI, zK_uJ, zK_uR]; repeat rw [if_neg (by omega)]; exact q1_) ?_
  refine V_aload_n dX12_init_93 rfl ?_
  refine V_bipush (40 : Int32) dX12_init_94 (by decide) ?_
  refine V_newz (len := 40) (k' := 26) (n' := 3327) w_1206 dX12_init_96 (by decide) (by decide) rfl rfl rfl ?_
  refine V_putr (fk := 13) ko_X12 rfl w_1068 (Or.inr ⟨rfl, rfl, rfl⟩) dX12_init_98 rfl o1 (by have q1_ := o2; have q2_ := o3; simp only [zK_nw, zN_nw, zN_uI, zN_uJ, zN_uR, zK_uI, zK_uJ, zK_uR]; repeat rw [if_neg (by omega)]; exact q1_) ?_
  refine V_aload_n dX12_init_101 rfl ?_
  refine V_bipush (8 : Int32) dX12_init_102 (by decide) ?_
  refine V_newi (len := 8) (k' := 25) (n' := 3319) w_92 dX12_init_104 (by decide) (by decide) rfl rfl rfl ?_
  refine V_putr (fk := 17) ko_X12 rfl w_1072 (Or.inr ⟨rfl, rfl, rfl⟩) dX12_init_106 rfl o1 (by have q1_ := o2; have q2_ := o3; simp only [zK_nw, zN_nw, zN_uI, zN_uJ, zN_uR, zK_uI, zK_uJ, zK_uR]; repeat rw [if_neg (by omega)]; exact q1_) ?_
  refine V_aload_n dX12_init_109 rfl ?_
  refine V_bipush (8 : Int32) dX12_init_110 (by decide) ?_
  refine V_newi (len := 8) (k' := 24) (n' := 3311) w_92 dX12_init_112 (by decide) (by decide) rfl rfl rfl ?_
  refine V_putr (fk := 18) ko_X12 rfl w_1073 (Or.inr ⟨rfl, rfl, rfl⟩) dX12_init_114 rfl o1 (by have q1_ := o2; have q2_ := o3; simp only [zK_nw, zN_nw, zN_uI, zN_uJ, zN_uR, zK_uI, zK_uJ, zK_uR]; repeat rw [if_neg (by omega)]; exact q1_) ?_
  refine V_aload_n dX12_init_117 rfl ?_
  refine V_bipush (8 : Int32) dX12_init_118 (by decide) ?_
  refine V_newi (len := 8) (k' := 23) (n' := 3303) w_92 dX12_init_120 (by decide) (by decide) rfl rfl rfl ?_
  refine V_putr (fk := 19) ko_X12 rfl w_1074 (Or.inr ⟨rfl, rfl, rfl⟩) dX12_init_122 rfl o1 (by have q1_ := o2; have q2_ := o3; simp only [zK_nw, zN_nw, zN_uI, zN_uJ, zN_uR, zK_uI, zK_uJ, zK_uR]; repeat rw [if_neg (by omega)]; exact q1_) ?_
  refine V_aload_n dX12_init_125 rfl ?_
  refine V_bipush (8 : Int32) dX12_init_126 (by decide) ?_
  refine V_newi (len := 8) (k' := 22) (n' := 3295) w_92 dX12_init_128 (by decide) (by decide) rfl rfl rfl ?_
  refine V_putr (fk := 20) ko_X12 rfl w_1075 (Or.inr ⟨rfl, rfl, rfl⟩) dX12_init_130 rfl o1 (by have q1_ := o2; have q2_ := o3; simp only [zK_nw, zN_nw, zN_uI, zN_uJ, zN_uR, zK_uI, zK_uJ, zK_uR]; repeat rw [if_neg (by omega)]; exact q1_) ?_
  refine V_aload_n dX12_init_133 rfl ?_
  refine V_bipush (30 : Int32) dX12_init_134 (by decide) ?_
  refine V_newi (len := 30) (k' := 21) (n' := 3265) w_92 dX12_init_136 (by decide) (by decide) rfl rfl rfl ?_
  refine V_putr (fk := 24) ko_X12 rfl w_1079 (Or.inr ⟨rfl, rfl, rfl⟩) dX12_init_138 rfl o1 (by have q1_ := o2; have q2_ := o3; simp only [zK_nw, zN_nw, zN_uI, zN_uJ, zN_uR, zK_uI, zK_uJ, zK_uR]; repeat rw [if_neg (by omega)]; exact q1_) ?_
  refine V_aload_n dX12_init_141 rfl ?_
  refine V_bipush (30 : Int32) dX12_init_142 (by decide) ?_
  refine V_newi (len := 30) (k' := 20) (n' := 3235) w_92 dX12_init_144 (by decide) (by decide) rfl rfl rfl ?_
  refine V_putr (fk := 25) ko_X12 rfl w_1080 (Or.inr ⟨rfl, rfl, rfl⟩) dX12_init_146 rfl o1 (by have q1_ := o2; have q2_ := o3; simp only [zK_nw, zN_nw, zN_uI, zN_uJ, zN_uR, zK_uI, zK_uJ, zK_uR]; repeat rw [if_neg (by omega)]; exact q1_) ?_
  refine V_aload_n dX12_init_149 rfl ?_
  refine V_bipush (30 : Int32) dX12_init_150 (by decide) ?_
  refine V_newi (len := 30) (k' := 19) (n' := 3205) w_92 dX12_init_152 (by decide) (by decide) rfl rfl rfl ?_
  refine V_putr (fk := 26) ko_X12 rfl w_1081 (Or.inr ⟨rfl, rfl, rfl⟩) dX12_init_154 rfl o1 (by have q1_ := o2; have q2_ := o3; simp only [zK_nw, zN_nw, zN_uI, zN_uJ, zN_uR, zK_uI, zK_uJ, zK_uR]; repeat rw [if_neg (by omega)]; exact q1_) ?_
  refine V_aload_n dX12_init_157 rfl ?_
  refine V_bipush (30 : Int32) dX12_init_158 (by decide) ?_
  refine V_newi (len := 30) (k' := 18) (n' := 3175) w_92 dX12_init_160 (by decide) (by decide) rfl rfl rfl ?_
  refine V_putr (fk := 27) ko_X12 rfl w_1082 (Or.inr ⟨rfl, rfl, rfl⟩) dX12_init_162 rfl o1 (by have q1_ := o2; have q2_ := o3; simp only [zK_nw, zN_nw, zN_uI, zN_uJ, zN_uR, zK_uI, zK_uJ, zK_uR]; repeat rw [if_neg (by omega)]; exact q1_) ?_
  refine V_aload_n dX12_init_165 rfl ?_
  refine V_bipush (30 : Int32) dX12_init_166 (by decide) ?_
  refine V_newi (len := 30) (k' := 17) (n' := 3145) w_92 dX12_init_168 (by decide) (by decide) rfl rfl rfl ?_
  refine V_putr (fk := 28) ko_X12 rfl w_1083 (Or.inr ⟨rfl, rfl, rfl⟩) dX12_init_170 rfl o1 (by have q1_ := o2; have q2_ := o3; simp only [zK_nw, zN_nw, zN_uI, zN_uJ, zN_uR, zK_uI, zK_uJ, zK_uR]; repeat rw [if_neg (by omega)]; exact q1_) ?_
  refine V_aload_n dX12_init_173 rfl ?_
  refine V_sipush (240 : Int32) dX12_init_174 (by decide) ?_
  refine V_newi (len := 240) (k' := 16) (n' := 2905) w_92 dX12_init_177 (by decide) (by decide) rfl rfl rfl ?_
  refine V_putr (fk := 29) ko_X12 rfl w_1084 (Or.inr ⟨rfl, rfl, rfl⟩) dX12_init_179 rfl o1 (by have q1_ := o2; have q2_ := o3; simp only [zK_nw, zN_nw, zN_uI, zN_uJ, zN_uR, zK_uI, zK_uJ, zK_uR]; repeat rw [if_neg (by omega)]; exact q1_) ?_
  refine V_aload_n dX12_init_182 rfl ?_
  refine V_sipush (240 : Int32) dX12_init_183 (by decide) ?_
  refine V_newi (len := 240) (k' := 15) (n' := 2665) w_92 dX12_init_186 (by decide) (by decide) rfl rfl rfl ?_
  refine V_putr (fk := 30) ko_X12 rfl w_1085 (Or.inr ⟨rfl, rfl, rfl⟩) dX12_init_188 rfl o1 (by have q1_ := o2; have q2_ := o3; simp only [zK_nw, zN_nw, zN_uI, zN_uJ, zN_uR, zK_uI, zK_uJ, zK_uR]; repeat rw [if_neg (by omega)]; exact q1_) ?_
  refine V_aload_n dX12_init_191 rfl ?_
  refine V_sipush (240 : Int32) dX12_init_192 (by decide) ?_
  refine V_newi (len := 240) (k' := 14) (n' := 2425) w_92 dX12_init_195 (by decide) (by decide) rfl rfl rfl ?_
  refine V_putr (fk := 31) ko_X12 rfl w_1086 (Or.inr ⟨rfl, rfl, rfl⟩) dX12_init_197 rfl o1 (by have q1_ := o2; have q2_ := o3; simp only [zK_nw, zN_nw, zN_uI, zN_uJ, zN_uR, zK_uI, zK_uJ, zK_uR]; repeat rw [if_neg (by omega)]; exact q1_) ?_
  refine V_aload_n dX12_init_200 rfl ?_
  refine V_sipush (240 : Int32) dX12_init_201 (by decide) ?_
  refine V_newi (len := 240) (k' := 13) (n' := 2185) w_92 dX12_init_204 (by decide) (by decide) rfl rfl rfl ?_
  refine V_putr (fk := 32) ko_X12 rfl w_1087 (Or.inr ⟨rfl, rfl, rfl⟩) dX12_init_206 rfl o1 (by have q1_ := o2; have q2_ := o3; simp only [zK_nw, zN_nw, zN_uI, zN_uJ, zN_uR, zK_uI, zK_uJ, zK_uR]; repeat rw [if_neg (by omega)]; exact q1_) ?_
  refine V_aload_n dX12_init_209 rfl ?_
  refine V_sipush (240 : Int32) dX12_init_210 (by decide) ?_
  refine V_newi (len := 240) (k' := 12) (n' := 1945) w_92 dX12_init_213 (by decide) (by decide) rfl rfl rfl ?_
  refine V_putr (fk := 33) ko_X12 rfl w_1088 (Or.inr ⟨rfl, rfl, rfl⟩) dX12_init_215 rfl o1 (by have q1_ := o2; have q2_ := o3; simp only [zK_nw, zN_nw, zN_uI, zN_uJ, zN_uR, zK_uI, zK_uJ, zK_uR]; repeat rw [if_neg (by omega)]; exact q1_) ?_
  refine V_aload_n dX12_init_218 rfl ?_
  refine V_sipush (240 : Int32) dX12_init_219 (by decide) ?_
  refine V_newi (len := 240) (k' := 11) (n' := 1705) w_92 dX12_init_222 (by decide) (by decide) rfl rfl rfl ?_
  refine V_putr (fk := 34) ko_X12 rfl w_1089 (Or.inr ⟨rfl, rfl, rfl⟩) dX12_init_224 rfl o1 (by have q1_ := o2; have q2_ := o3; simp only [zK_nw, zN_nw, zN_uI, zN_uJ, zN_uR, zK_uI, zK_uJ, zK_uR]; repeat rw [if_neg (by omega)]; exact q1_) ?_
  refine V_aload_n dX12_init_227 rfl ?_
  refine V_sipush (240 : Int32) dX12_init_228 (by decide) ?_
  refine V_newi (len := 240) (k' := 10) (n' := 1465) w_92 dX12_init_231 (by decide) (by decide) rfl rfl rfl ?_
  refine V_putr (fk := 35) ko_X12 rfl w_1090 (Or.inr ⟨rfl, rfl, rfl⟩) dX12_init_233 rfl o1 (by have q1_ := o2; have q2_ := o3; simp only [zK_nw, zN_nw, zN_uI, zN_uJ, zN_uR, zK_uI, zK_uJ, zK_uR]; repeat rw [if_neg (by omega)]; exact q1_) ?_
  refine V_aload_n dX12_init_236 rfl ?_
  refine V_sipush (240 : Int32) dX12_init_237 (by decide) ?_
  refine V_newi (len := 240) (k' := 9) (n' := 1225) w_92 dX12_init_240 (by decide) (by decide) rfl rfl rfl ?_
  refine V_putr (fk := 37) ko_X12 rfl w_1092 (Or.inr ⟨rfl, rfl, rfl⟩) dX12_init_242 rfl o1 (by have q1_ := o2; have q2_ := o3; simp only [zK_nw, zN_nw, zN_uI, zN_uJ, zN_uR, zK_uI, zK_uJ, zK_uR]; repeat rw [if_neg (by omega)]; exact q1_) ?_
  refine V_aload_n dX12_init_245 rfl ?_
  refine V_sipush (240 : Int32) dX12_init_246 (by decide) ?_
  refine V_newi (len := 240) (k' := 8) (n' := 985) w_92 dX12_init_249 (by decide) (by decide) rfl rfl rfl ?_
  refine V_putr (fk := 38) ko_X12 rfl w_1093 (Or.inr ⟨rfl, rfl, rfl⟩) dX12_init_251 rfl o1 (by have q1_ := o2; have q2_ := o3; simp only [zK_nw, zN_nw, zN_uI, zN_uJ, zN_uR, zK_uI, zK_uJ, zK_uR]; repeat rw [if_neg (by omega)]; exact q1_) ?_
  refine V_aload_n dX12_init_254 rfl ?_
  refine V_sipush (240 : Int32) dX12_init_255 (by decide) ?_
  refine V_newi (len := 240) (k' := 7) (n' := 745) w_92 dX12_init_258 (by decide) (by decide) rfl rfl rfl ?_
  refine V_putr (fk := 39) ko_X12 rfl w_1094 (Or.inr ⟨rfl, rfl, rfl⟩) dX12_init_260 rfl o1 (by have q1_ := o2; have q2_ := o3; simp only [zK_nw, zN_nw, zN_uI, zN_uJ, zN_uR, zK_uI, zK_uJ, zK_uR]; repeat rw [if_neg (by omega)]; exact q1_) ?_
  refine V_aload_n dX12_init_263 rfl ?_
  refine V_sipush (240 : Int32) dX12_init_264 (by decide) ?_
  refine V_newi (len := 240) (k' := 6) (n' := 505) w_92 dX12_init_267 (by decide) (by decide) rfl rfl rfl ?_
  refine V_putr (fk := 40) ko_X12 rfl w_1095 (Or.inr ⟨rfl, rfl, rfl⟩) dX12_init_269 rfl o1 (by have q1_ := o2; have q2_ := o3; simp only [zK_nw, zN_nw, zN_uI, zN_uJ, zN_uR, zK_uI, zK_uJ, zK_uR]; repeat rw [if_neg (by omega)]; exact q1_) ?_
  refine V_aload_n dX12_init_272 rfl ?_
  refine V_sipush (240 : Int32) dX12_init_273 (by decide) ?_
  refine V_newi (len := 240) (k' := 5) (n' := 265) w_92 dX12_init_276 (by decide) (by decide) rfl rfl rfl ?_
  refine V_putr (fk := 41) ko_X12 rfl w_1096 (Or.inr ⟨rfl, rfl, rfl⟩) dX12_init_278 rfl o1 (by have q1_ := o2; have q2_ := o3; simp only [zK_nw, zN_nw, zN_uI, zN_uJ, zN_uR, zK_uI, zK_uJ, zK_uR]; repeat rw [if_neg (by omega)]; exact q1_) ?_
  refine V_aload_n dX12_init_281 rfl ?_
  refine V_sipush (240 : Int32) dX12_init_282 (by decide) ?_
  refine V_newi (len := 240) (k' := 4) (n' := 25) w_92 dX12_init_285 (by decide) (by decide) rfl rfl rfl ?_
  refine V_putr (fk := 42) ko_X12 rfl w_1097 (Or.inr ⟨rfl, rfl, rfl⟩) dX12_init_287 rfl o1 (by have q1_ := o2; have q2_ := o3; simp only [zK_nw, zN_nw, zN_uI, zN_uJ, zN_uR, zK_uI, zK_uJ, zK_uR]; repeat rw [if_neg (by omega)]; exact q1_) ?_
  refine V_aload_n dX12_init_290 rfl ?_
  refine V_iconst (5 : Int32) dX12_init_291 (by decide) ?_
  refine V_newz (len := 5) (k' := 3) (n' := 20) w_1206 dX12_init_292 (by decide) (by decide) rfl rfl rfl ?_
  refine V_putr (fk := 44) ko_X12 rfl w_1099 (Or.inr ⟨rfl, rfl, rfl⟩) dX12_init_294 rfl o1 (by have q1_ := o2; have q2_ := o3; simp only [zK_nw, zN_nw, zN_uI, zN_uJ, zN_uR, zK_uI, zK_uJ, zK_uR]; repeat rw [if_neg (by omega)]; exact q1_) ?_
  refine V_aload_n dX12_init_297 rfl ?_
  refine V_iconst (5 : Int32) dX12_init_298 (by decide) ?_
  refine V_newl (len := 5) (k' := 2) (n' := 15) w_229 dX12_init_299 (by decide) (by decide) rfl rfl rfl ?_
  refine V_putr (fk := 45) ko_X12 rfl w_1100 (Or.inr ⟨rfl, rfl, rfl⟩) dX12_init_301 rfl o1 (by have q1_ := o2; have q2_ := o3; simp only [zK_nw, zN_nw, zN_uI, zN_uJ, zN_uR, zK_uI, zK_uJ, zK_uR]; repeat rw [if_neg (by omega)]; exact q1_) ?_
  refine V_aload_n dX12_init_304 rfl ?_
  refine V_iconst (5 : Int32) dX12_init_305 (by decide) ?_
  refine V_newl (len := 5) (k' := 1) (n' := 10) w_229 dX12_init_306 (by decide) (by decide) rfl rfl rfl ?_
  refine V_putr (fk := 46) ko_X12 rfl w_1101 (Or.inr ⟨rfl, rfl, rfl⟩) dX12_init_308 rfl o1 (by have q1_ := o2; have q2_ := o3; simp only [zK_nw, zN_nw, zN_uI, zN_uJ, zN_uR, zK_uI, zK_uJ, zK_uR]; repeat rw [if_neg (by omega)]; exact q1_) ?_
  refine V_aload_n dX12_init_311 rfl ?_
  refine V_bipush (10 : Int32) dX12_init_312 (by decide) ?_
  refine V_newl (len := 10) (k' := 0) (n' := 0) w_229 dX12_init_314 (by decide) (by decide) rfl rfl rfl ?_
  refine V_putr (fk := 47) ko_X12 rfl w_1102 (Or.inr ⟨rfl, rfl, rfl⟩) dX12_init_316 rfl o1 (by have q1_ := o2; have q2_ := o3; simp only [zK_nw, zN_nw, zN_uI, zN_uJ, zN_uR, zK_uI, zK_uJ, zK_uR]; repeat rw [if_neg (by omega)]; exact q1_) ?_
  refine V_aload_n dX12_init_319 rfl ?_
  refine V_iconst (1 : Int32) dX12_init_320 (by decide) ?_
  refine V_puti (fk := 14) ko_X12 rfl w_1069 (Or.inl rfl) dX12_init_321 rfl o1 (by have q1_ := o2; have q2_ := o3; simp only [zK_nw, zN_nw, zN_uI, zN_uJ, zN_uR, zK_uI, zK_uJ, zK_uR]; repeat rw [if_neg (by omega)]; exact q1_) ?_
  exact V_vret rfl dX12_init_324 k1

set_option maxRecDepth 100000 in
set_option maxHeartbeats 4000000 in
theorem b_X12_thrown_0 {g : GP} {CX : State → Array Value → Prop} {Q : AH → Option Value → Prop} {X : AH → String → Prop} {v0 : Nat} {σ : AH}
    (o1 : v0 ≠ 0)
    (o2 : zK σ v0 = 12)
    (k1 : Q σ (some (.int (zI σ v0 49)))) :
    V g mX12_thrown (Em g mX12_thrown Q X) CX 0 0 0 [(0, .ref v0)] [] σ := by
  refine V_aload_n dX12_thrown_0 rfl ?_
  refine V_getf (fk := 49) (Value.int (zI σ v0 49)) ko_X12 rfl w_1104 dX12_thrown_1 o1 o2 rfl ?_
  exact V_iret rfl dX12_thrown_4 k1

set_option maxRecDepth 100000 in
set_option maxHeartbeats 4000000 in
theorem b_X12_in_0 {g : GP} {CX : State → Array Value → Prop} {Q : AH → Option Value → Prop} {X : AH → String → Prop} {v0 : Int32} {v1 : Int32} {v2 : Int32} {σ : AH}
    (k1 : (v0 < v1) → Q σ (some (.int (0 : Int32))))
    (k2 : (¬ v0 < v1) → (v2 < v0) → Q σ (some (.int (0 : Int32))))
    (k3 : (¬ v0 < v1) → (¬ v2 < v0) → Q σ (some (.int (1 : Int32)))) :
    V g mX12_in (Em g mX12_in Q X) CX 0 0 0 [(0, .int v0), (1, .int v1), (2, .int v2)] [] σ := by
  refine V_iload_n dX12_in_0 rfl ?_
  refine V_iload_n dX12_in_1 rfl ?_
  refine V_icmp_lt 14 dX12_in_2 rfl (fun c1 => ?_) (fun c1 => ?_)
  · refine V_iconst (0 : Int32) dX12_in_14 (by decide) ?_
    exact V_zret rfl dX12_in_15 (by decide) (k1 c1)
  · refine V_iload_n dX12_in_5 rfl ?_
    refine V_iload_n dX12_in_6 rfl ?_
    refine V_icmp_gt 14 dX12_in_7 rfl (fun c2 => ?_) (fun c2 => ?_)
    · refine V_iconst (0 : Int32) dX12_in_14 (by decide) ?_
      exact V_zret rfl dX12_in_15 (by decide) (k2 c1 c2)
    · refine V_iconst (1 : Int32) dX12_in_10 (by decide) ?_
      refine V_goto 15 dX12_in_11 rfl ?_
      exact V_zret rfl dX12_in_15 (by decide) (k3 c1 c2)

set_option maxRecDepth 100000 in
set_option maxHeartbeats 4000000 in
theorem b_X12_goes_0 {g : GP} {CX : State → Array Value → Prop} {Q : AH → Option Value → Prop} {X : AH → String → Prop} {v0 : Nat} {v1 : Int32} {v2 : Int32} {v3 : Int32} {σ : AH}
    (o1 : v0 ≠ 0)
    (o2 : zK σ v0 = 12)
    (k1 : (¬ v1 = 0) → (¬ v2 = 0) → (¬ v3 = 0) → Q (uI σ v0 49 (0 : Int32)) (some (.int (1 : Int32))))
    (k2 : (¬ v1 = 0) → (¬ v2 = 0) → (v3 = 0) → Q (uI σ v0 49 (3 : Int32)) (some (.int (0 : Int32))))
    (k3 : (¬ v1 = 0) → (v2 = 0) → Q (uI σ v0 49 (2 : Int32)) (some (.int (0 : Int32))))
    (k4 : (v1 = 0) → Q (uI σ v0 49 (1 : Int32)) (some (.int (0 : Int32)))) :
    V g mX12_goes (Em g mX12_goes Q X) CX 0 0 0 [(0, .ref v0), (1, .int v1), (2, .int v2), (3, .int v3)] [] σ := by
  refine V_aload_n dX12_goes_0 rfl ?_
  refine V_iload_n dX12_goes_1 rfl ?_
  refine V_if_ne 9 dX12_goes_2 rfl (fun c1 => ?_) (fun c1 => ?_)
  · refine V_iload_n dX12_goes_9 rfl ?_
    refine V_if_ne 17 dX12_goes_10 rfl (fun c2 => ?_) (fun c2 => ?_)
    · refine V_iload_n dX12_goes_17 rfl ?_
      refine V_if_ne 25 dX12_goes_18 rfl (fun c3 => ?_) (fun c3 => ?_)
      · refine V_iconst (0 : Int32) dX12_goes_25 (by decide) ?_
        refine V_puti (fk := 49) ko_X12 rfl w_1104 (Or.inl rfl) dX12_goes_26 rfl o1 o2 ?_
        refine V_aload_n dX12_goes_29 rfl ?_
        refine V_getf (fk := 49) (Value.int (0 : Int32)) ko_X12 rfl w_1104 dX12_goes_30 o1 o2 (congrArg Value.int (zI_self _ _ _ _)) ?_
        refine V_if_ne 40 dX12_goes_33 rfl (fun z_ => (by first | exact absurd (by decide) z_ | exact absurd z_ (by decide))) (fun _ => ?_)
        refine V_iconst (1 : Int32) dX12_goes_36 (by decide) ?_
        refine V_goto 41 dX12_goes_37 rfl ?_
        exact V_zret rfl dX12_goes_41 (by decide) (k1 c1 c2 c3)
      · refine V_iconst (3 : Int32) dX12_goes_21 (by decide) ?_
        refine V_goto 26 dX12_goes_22 rfl ?_
        refine V_puti (fk := 49) ko_X12 rfl w_1104 (Or.inl rfl) dX12_goes_26 rfl o1 o2 ?_
        refine V_aload_n dX12_goes_29 rfl ?_
        refine V_getf (fk := 49) (Value.int (3 : Int32)) ko_X12 rfl w_1104 dX12_goes_30 o1 o2 (congrArg Value.int (zI_self _ _ _ _)) ?_
        refine V_if_ne 40 dX12_goes_33 rfl (fun _ => ?_) (fun z_ => (by first | exact absurd (by decide) z_ | exact absurd z_ (by decide)))
        refine V_iconst (0 : Int32) dX12_goes_40 (by decide) ?_
        exact V_zret rfl dX12_goes_41 (by decide) (k2 c1 c2 c3)
    · refine V_iconst (2 : Int32) dX12_goes_13 (by decide) ?_
      refine V_goto 26 dX12_goes_14 rfl ?_
      refine V_puti (fk := 49) ko_X12 rfl w_1104 (Or.inl rfl) dX12_goes_26 rfl o1 o2 ?_
      refine V_aload_n dX12_goes_29 rfl ?_
      refine V_getf (fk := 49) (Value.int (2 : Int32)) ko_X12 rfl w_1104 dX12_goes_30 o1 o2 (congrArg Value.int (zI_self _ _ _ _)) ?_
      refine V_if_ne 40 dX12_goes_33 rfl (fun _ => ?_) (fun z_ => (by first | exact absurd (by decide) z_ | exact absurd z_ (by decide)))
      refine V_iconst (0 : Int32) dX12_goes_40 (by decide) ?_
      exact V_zret rfl dX12_goes_41 (by decide) (k3 c1 c2)
  · refine V_iconst (1 : Int32) dX12_goes_5 (by decide) ?_
    refine V_goto 26 dX12_goes_6 rfl ?_
    refine V_puti (fk := 49) ko_X12 rfl w_1104 (Or.inl rfl) dX12_goes_26 rfl o1 o2 ?_
    refine V_aload_n dX12_goes_29 rfl ?_
    refine V_getf (fk := 49) (Value.int (1 : Int32)) ko_X12 rfl w_1104 dX12_goes_30 o1 o2 (congrArg Value.int (zI_self _ _ _ _)) ?_
    refine V_if_ne 40 dX12_goes_33 rfl (fun _ => ?_) (fun z_ => (by first | exact absurd (by decide) z_ | exact absurd z_ (by decide)))
    refine V_iconst (0 : Int32) dX12_goes_40 (by decide) ?_
    exact V_zret rfl dX12_goes_41 (by decide) (k4 c1)

set_option maxRecDepth 100000 in
set_option maxHeartbeats 4000000 in
theorem b_X12_isPlace_0 {g : GP} {CX : State → Array Value → Prop} {E : ET} {v0 : Int32} {σ : AH}
    (k1 : V g mX12_isPlace E CX 0 0 4 [(0, .int v0)] [.int (9 : Int32), .int (0 : Int32), .int v0] σ) :
    V g mX12_isPlace E CX 0 0 0 [(0, .int v0)] [] σ := by
  refine V_iload_n dX12_isPlace_0 rfl ?_
  refine V_iconst (0 : Int32) dX12_isPlace_1 (by decide) ?_
  refine V_bipush (9 : Int32) dX12_isPlace_2 (by decide) ?_
  exact k1

set_option maxRecDepth 100000 in
set_option maxHeartbeats 4000000 in
theorem b_X12_isCarrier_0 {g : GP} {CX : State → Array Value → Prop} {E : ET} {v0 : Int32} {σ : AH}
    (k1 : V g mX12_isCarrier E CX 0 0 3 [(0, .int v0)] [.int (4 : Int32), .int (0 : Int32), .int v0] σ) :
    V g mX12_isCarrier E CX 0 0 0 [(0, .int v0)] [] σ := by
  refine V_iload_n dX12_isCarrier_0 rfl ?_
  refine V_iconst (0 : Int32) dX12_isCarrier_1 (by decide) ?_
  refine V_iconst (4 : Int32) dX12_isCarrier_2 (by decide) ?_
  exact k1

set_option maxRecDepth 100000 in
set_option maxHeartbeats 4000000 in
theorem b_X12_miles_0 {g : GP} {CX : State → Array Value → Prop} {E : ET} {v0 : Nat} {v1 : Int32} {v2 : Int32} {v3 : Int32} {σ : AH}
    (k1 : V g mX12_miles E CX 0 0 2 [(0, .ref v0), (1, .int v1), (2, .int v2), (3, .int v3)] [.int v1, .ref v0] σ) :
    V g mX12_miles E CX 0 0 0 [(0, .ref v0), (1, .int v1), (2, .int v2), (3, .int v3)] [] σ := by
  refine V_aload_n dX12_miles_0 rfl ?_
  refine V_iload_n dX12_miles_1 rfl ?_
  exact k1

set_option maxRecDepth 100000 in
set_option maxHeartbeats 4000000 in
theorem b_X12_fare_0 {g : GP} {CX : State → Array Value → Prop} {E : ET} {v0 : Nat} {v1 : Int32} {v2 : Int32} {v3 : Int32} {v4 : Int32} {v5 : Int32} {v6 : Int32} {σ : AH}
    (k1 : (v1 = v2) → V g mX12_fare E CX 0 0 60 [(0, .ref v0), (1, .int v1), (2, .int v2), (3, .int v3), (4, .int v4), (5, .int v5), (6, .int v6), (7, .int (0 : Int32))] [.int v1, .ref v0] σ)
    (k2 : (¬ v1 = v2) → V g mX12_fare E CX 0 0 9 [(0, .ref v0), (1, .int v1), (2, .int v2), (3, .int v3), (4, .int v4), (5, .int v5), (6, .int v6)] [.int (1000000 : Int32), .int (1 : Int32), .int v3] σ) :
    V g mX12_fare E CX 0 0 0 [(0, .ref v0), (1, .int v1), (2, .int v2), (3, .int v3), (4, .int v4), (5, .int v5), (6, .int v6)] [] σ := by
  refine V_iload_n dX12_fare_0 rfl ?_
  refine V_iload_n dX12_fare_1 rfl ?_
  refine V_icmp_eq 55 dX12_fare_2 rfl (fun c1 => ?_) (fun c1 => ?_)
  · refine V_iconst (0 : Int32) dX12_fare_55 (by decide) ?_
    refine V_istore [(0, .ref v0), (1, .int v1), (2, .int v2), (3, .int v3), (4, .int v4), (5, .int v5), (6, .int v6), (7, .int (0 : Int32))] dX12_fare_56 rfl rfl ?_
    refine V_aload_n dX12_fare_58 rfl ?_
    refine V_iload_n dX12_fare_59 rfl ?_
    exact (k1 c1)
  · refine V_iload_n dX12_fare_5 rfl ?_
    refine V_iconst (1 : Int32) dX12_fare_6 (by decide) ?_
    refine V_ldc (v := (1000000 : Int32)) w_1229 dX12_fare_7 ?_
    exact (k2 c1)

set_option maxRecDepth 100000 in
set_option maxHeartbeats 4000000 in
theorem b_X12_withdraw_0 {g : GP} {CX : State → Array Value → Prop} {E : ET} {v0 : Nat} {v1 : Int32} {σ : AH}
    (o1 : v0 ≠ 0)
    (o2 : zK σ v0 = 12)
    (k1 : V g mX12_withdraw E CX 0 0 8 [(0, .ref v0), (1, .int v1)] [.int ((zI σ v0 6) - (1 : Int32)), .int (0 : Int32), .int v1] σ) :
    V g mX12_withdraw E CX 0 0 0 [(0, .ref v0), (1, .int v1)] [] σ := by
  refine V_iload_n dX12_withdraw_0 rfl ?_
  refine V_iconst (0 : Int32) dX12_withdraw_1 (by decide) ?_
  refine V_aload_n dX12_withdraw_2 rfl ?_
  refine V_getf (fk := 6) (Value.int (zI σ v0 6)) ko_X12 rfl w_1061 dX12_withdraw_3 o1 o2 rfl ?_
  refine V_iconst (1 : Int32) dX12_withdraw_6 (by decide) ?_
  refine V_isub dX12_withdraw_7 ?_
  exact k1

set_option maxRecDepth 100000 in
set_option maxHeartbeats 4000000 in
theorem b_X12_unit_0 {g : GP} {CX : State → Array Value → Prop} {E : ET} {v0 : Nat} {v1 : Int32} {σ : AH}
    (k1 : V g mX12_unit E CX 0 0 6 [(0, .ref v0), (1, .int v1)] [.int (1000 : Int32), .int (1 : Int32), .int v1, .ref v0] σ) :
    V g mX12_unit E CX 0 0 0 [(0, .ref v0), (1, .int v1)] [] σ := by
  refine V_aload_n dX12_unit_0 rfl ?_
  refine V_iload_n dX12_unit_1 rfl ?_
  refine V_iconst (1 : Int32) dX12_unit_2 (by decide) ?_
  refine V_sipush (1000 : Int32) dX12_unit_3 (by decide) ?_
  exact k1

set_option maxRecDepth 100000 in
set_option maxHeartbeats 4000000 in
theorem b_X12_tax_0 {g : GP} {CX : State → Array Value → Prop} {E : ET} {v0 : Nat} {v1 : Int32} {v2 : Int32} {v3 : Int32} {σ : AH}
    (k1 : V g mX12_tax E CX 0 0 2 [(0, .ref v0), (1, .int v1), (2, .int v2), (3, .int v3)] [.int v1, .ref v0] σ) :
    V g mX12_tax E CX 0 0 0 [(0, .ref v0), (1, .int v1), (2, .int v2), (3, .int v3)] [] σ := by
  refine V_aload_n dX12_tax_0 rfl ?_
  refine V_iload_n dX12_tax_1 rfl ?_
  exact k1

set_option maxRecDepth 100000 in
set_option maxHeartbeats 4000000 in
theorem b_X12_weight_0 {g : GP} {CX : State → Array Value → Prop} {E : ET} {v0 : Nat} {v1 : Int32} {v2 : Int32} {v3 : Int32} {σ : AH}
    (k1 : V g mX12_weight E CX 0 0 2 [(0, .ref v0), (1, .int v1), (2, .int v2), (3, .int v3)] [.int v1, .ref v0] σ) :
    V g mX12_weight E CX 0 0 0 [(0, .ref v0), (1, .int v1), (2, .int v2), (3, .int v3)] [] σ := by
  refine V_aload_n dX12_weight_0 rfl ?_
  refine V_iload_n dX12_weight_1 rfl ?_
  exact k1

set_option maxRecDepth 100000 in
set_option maxHeartbeats 4000000 in
theorem b_X12_proviso_0 {g : GP} {CX : State → Array Value → Prop} {E : ET} {v0 : Nat} {v1 : Int32} {v2 : Int32} {v3 : Int32} {v4 : Int32} {σ : AH}
    (k1 : V g mX12_proviso E CX 0 0 2 [(0, .ref v0), (1, .int v1), (2, .int v2), (3, .int v3), (4, .int v4)] [.int v1, .ref v0] σ) :
    V g mX12_proviso E CX 0 0 0 [(0, .ref v0), (1, .int v1), (2, .int v2), (3, .int v3), (4, .int v4)] [] σ := by
  refine V_aload_n dX12_proviso_0 rfl ?_
  refine V_iload_n dX12_proviso_1 rfl ?_
  exact k1

set_option maxRecDepth 100000 in
set_option maxHeartbeats 4000000 in
theorem b_X12_penalty_0 {g : GP} {CX : State → Array Value → Prop} {E : ET} {v0 : Nat} {v1 : Int32} {σ : AH}
    (k1 : V g mX12_penalty E CX 0 0 5 [(0, .ref v0), (1, .int v1)] [.int (100 : Int32), .int (0 : Int32), .int v1, .ref v0] σ) :
    V g mX12_penalty E CX 0 0 0 [(0, .ref v0), (1, .int v1)] [] σ := by
  refine V_aload_n dX12_penalty_0 rfl ?_
  refine V_iload_n dX12_penalty_1 rfl ?_
  refine V_iconst (0 : Int32) dX12_penalty_2 (by decide) ?_
  refine V_bipush (100 : Int32) dX12_penalty_3 (by decide) ?_
  exact k1

set_option maxRecDepth 100000 in
set_option maxHeartbeats 4000000 in
theorem b_X12_leg_0 {g : GP} {CX : State → Array Value → Prop} {E : ET} {v0 : Nat} {v1 : Int32} {v2 : Int32} {v3 : Int32} {v4 : Int32} {σ : AH}
    (k1 : V g mX12_leg E CX 0 0 1 [(0, .ref v0), (1, .int v1), (2, .int v2), (3, .int v3), (4, .int v4)] [.int v1] σ) :
    V g mX12_leg E CX 0 0 0 [(0, .ref v0), (1, .int v1), (2, .int v2), (3, .int v3), (4, .int v4)] [] σ := by
  refine V_iload_n dX12_leg_0 rfl ?_
  exact k1

set_option maxRecDepth 100000 in
set_option maxHeartbeats 4000000 in
theorem b_X12_wipe_0 {g : GP} {CX : State → Array Value → Prop} {Q : AH → Option Value → Prop} {X : AH → String → Prop} {v0 : Nat} {σ : AH}
    (o1 : v0 ≠ 0)
    (o2 : zK σ v0 = 12)
    (k1 : Q (uI (uI σ v0 49 (0 : Int32)) v0 16 (0 : Int32)) (some (.int (zI σ v0 16)))) :
    V g mX12_wipe (Em g mX12_wipe Q X) CX 0 0 0 [(0, .ref v0)] [] σ := by
  refine V_aload_n dX12_wipe_0 rfl ?_
  refine V_iconst (0 : Int32) dX12_wipe_1 (by decide) ?_
  refine V_puti (fk := 49) ko_X12 rfl w_1104 (Or.inl rfl) dX12_wipe_2 rfl o1 o2 ?_
  refine V_aload_n dX12_wipe_5 rfl ?_
  refine V_getf (fk := 16) (Value.int (zI σ v0 16)) ko_X12 rfl w_1071 dX12_wipe_6 o1 o2 (congrArg Value.int (zI_oth _ _ _ _ _ _ (by decide))) ?_
  refine V_istore_n [(0, .ref v0), (1, .int (zI σ v0 16))] dX12_wipe_9 rfl rfl ?_
  refine V_aload_n dX12_wipe_10 rfl ?_
  refine V_iconst (0 : Int32) dX12_wipe_11 (by decide) ?_
  refine V_puti (fk := 16) ko_X12 rfl w_1071 (Or.inl rfl) dX12_wipe_12 rfl o1 o2 ?_
  refine V_iload_n dX12_wipe_15 rfl ?_
  exact V_iret rfl dX12_wipe_16 k1

set_option maxRecDepth 100000 in
set_option maxHeartbeats 4000000 in
theorem b_X12_placeOf_0 {g : GP} {CX : State → Array Value → Prop} {Q : AH → Option Value → Prop} {X : AH → String → Prop} {v0 : Nat} {v1 : Int32} {σ : AH}
    (o1 : v0 ≠ 0)
    (o2 : zK σ v0 = 12)
    (o3 : zR σ v0 18 ≠ 0)
    (o4 : zK σ (zR σ v0 18) = 20)
    (o5 : (¬ v1 = 0) → vp_in (v1 - (1 : Int32)) (zL σ (zR σ v0 18)))
    (k1 : (¬ v1 = 0) → Q σ (some (.int (zI σ (zR σ v0 18) (Int32.toNatClampNeg (v1 - (1 : Int32)))))))
    (o6 : zR σ v0 17 ≠ 0)
    (o7 : zK σ (zR σ v0 17) = 20)
    (o8 : (v1 = 0) → vp_in (0 : Int32) (zL σ (zR σ v0 17)))
    (k2 : (v1 = 0) → Q σ (some (.int (zI σ (zR σ v0 17) (Int32.toNatClampNeg (0 : Int32)))))) :
    V g mX12_placeOf (Em g mX12_placeOf Q X) CX 0 0 0 [(0, .ref v0), (1, .int v1)] [] σ := by
  refine V_iload_n dX12_placeOf_0 rfl ?_
  refine V_if_ne 13 dX12_placeOf_1 rfl (fun c1 => ?_) (fun c1 => ?_)
  · refine V_aload_n dX12_placeOf_13 rfl ?_
    refine V_getf (fk := 18) (Value.ref (zR σ v0 18)) ko_X12 rfl w_1073 dX12_placeOf_14 o1 o2 rfl ?_
    refine V_iload_n dX12_placeOf_17 rfl ?_
    refine V_iconst (1 : Int32) dX12_placeOf_18 (by decide) ?_
    refine V_isub dX12_placeOf_19 ?_
    refine V_iald dX12_placeOf_20 o3 o4 (o5 c1) ?_
    exact V_iret rfl dX12_placeOf_21 (k1 c1)
  · refine V_aload_n dX12_placeOf_4 rfl ?_
    refine V_getf (fk := 17) (Value.ref (zR σ v0 17)) ko_X12 rfl w_1072 dX12_placeOf_5 o1 o2 rfl ?_
    refine V_iconst (0 : Int32) dX12_placeOf_8 (by decide) ?_
    refine V_iald dX12_placeOf_9 o6 o7 (o8 c1) ?_
    refine V_goto 21 dX12_placeOf_10 rfl ?_
    exact V_iret rfl dX12_placeOf_21 (k2 c1)

set_option maxRecDepth 100000 in
set_option maxHeartbeats 4000000 in
theorem b_X12_isStop_0 {g : GP} {CX : State → Array Value → Prop} {Q : AH → Option Value → Prop} {X : AH → String → Prop} {v0 : Nat} {v1 : Int32} {σ : AH}
    (o1 : v0 ≠ 0)
    (o2 : zK σ v0 = 12)
    (o3 : zR σ v0 20 ≠ 0)
    (o4 : zK σ (zR σ v0 20) = 20)
    (o5 : vp_in v1 (zL σ (zR σ v0 20)))
    (o6 : vp_in (v1 - (1 : Int32)) (zL σ (zR σ v0 20)))
    (k1 : ((zI σ (zR σ v0 20) (Int32.toNatClampNeg v1)) ≤ (zI σ (zR σ v0 20) (Int32.toNatClampNeg (v1 - (1 : Int32))))) → Q σ (some (.int (0 : Int32))))
    (k2 : (¬ (zI σ (zR σ v0 20) (Int32.toNatClampNeg v1)) ≤ (zI σ (zR σ v0 20) (Int32.toNatClampNeg (v1 - (1 : Int32))))) → Q σ (some (.int (1 : Int32)))) :
    V g mX12_isStop (Em g mX12_isStop Q X) CX 0 0 0 [(0, .ref v0), (1, .int v1)] [] σ := by
  refine V_aload_n dX12_isStop_0 rfl ?_
  refine V_getf (fk := 20) (Value.ref (zR σ v0 20)) ko_X12 rfl w_1075 dX12_isStop_1 o1 o2 rfl ?_
  refine V_iload_n dX12_isStop_4 rfl ?_
  refine V_iald dX12_isStop_5 o3 o4 o5 ?_
  refine V_aload_n dX12_isStop_6 rfl ?_
  refine V_getf (fk := 20) (Value.ref (zR σ v0 20)) ko_X12 rfl w_1075 dX12_isStop_7 o1 o2 rfl ?_
  refine V_iload_n dX12_isStop_10 rfl ?_
  refine V_iconst (1 : Int32) dX12_isStop_11 (by decide) ?_
  refine V_isub dX12_isStop_12 ?_
  refine V_iald dX12_isStop_13 o3 o4 o6 ?_
  refine V_icmp_le 21 dX12_isStop_14 rfl (fun c1 => ?_) (fun c1 => ?_)
  · refine V_iconst (0 : Int32) dX12_isStop_21 (by decide) ?_
    exact V_zret rfl dX12_isStop_22 (by decide) (k1 c1)
  · refine V_iconst (1 : Int32) dX12_isStop_17 (by decide) ?_
    refine V_goto 22 dX12_isStop_18 rfl ?_
    exact V_zret rfl dX12_isStop_22 (by decide) (k2 c1)

set_option maxRecDepth 100000 in
set_option maxHeartbeats 4000000 in
theorem b_X12_lowest_0 {g : GP} {CX : State → Array Value → Prop} {E : ET} {v0 : Nat} {v1 : Int32} {v2 : Int32} {v3 : Int32} {σ : AH}
    (k1 : V g mX12_lowest E CX 0 0 6 [(0, .ref v0), (1, .int v1), (2, .int v2), (3, .int v3), (4, .int (-1 : Int32)), (5, .int (0 : Int32))] [] σ) :
    V g mX12_lowest E CX 0 0 0 [(0, .ref v0), (1, .int v1), (2, .int v2), (3, .int v3)] [] σ := by
  refine V_iconst (-1 : Int32) dX12_lowest_0 (by decide) ?_
  refine V_istore [(0, .ref v0), (1, .int v1), (2, .int v2), (3, .int v3), (4, .int (-1 : Int32))] dX12_lowest_1 rfl rfl ?_
  refine V_iconst (0 : Int32) dX12_lowest_3 (by decide) ?_
  refine V_istore [(0, .ref v0), (1, .int v1), (2, .int v2), (3, .int v3), (4, .int (-1 : Int32)), (5, .int (0 : Int32))] dX12_lowest_4 rfl rfl ?_
  exact k1
set_option maxRecDepth 100000 in
set_option maxHeartbeats 4000000 in
theorem b_X12_lowest_6 {g : GP} {CX : State → Array Value → Prop} {Q : AH → Option Value → Prop} {X : AH → String → Prop} {v0 : Nat} {v1 : Int32} {v2 : Int32} {v3 : Int32} {v4 : Int32} {v5 : Int32} {σ : AH}
    (o1 : v0 ≠ 0)
    (o2 : zK σ v0 = 12)
    (k1 : ((zI σ v0 6) ≤ v5) → Q σ (some (.int v4)))
    (o3 : zR σ v0 7 ≠ 0)
    (o4 : zK σ (zR σ v0 7) = 20)
    (o5 : (¬ (zI σ v0 6) ≤ v5) → vp_in v5 (zL σ (zR σ v0 7)))
    (k2 : (¬ (zI σ v0 6) ≤ v5) → (¬ (zI σ (zR σ v0 7) (Int32.toNatClampNeg v5)) = v1) → V g mX12_lowest (Em g mX12_lowest Q X) CX 0 0 6 [(0, .ref v0), (1, .int v1), (2, .int v2), (3, .int v3), (4, .int v4), (5, .int (v5 + (1 : Int32)))] [] σ)
    (o6 : zR σ v0 8 ≠ 0)
    (o7 : zK σ (zR σ v0 8) = 20)
    (o8 : (¬ (zI σ v0 6) ≤ v5) → ((zI σ (zR σ v0 7) (Int32.toNatClampNeg v5)) = v1) → vp_in v5 (zL σ (zR σ v0 8)))
    (k3 : (¬ (zI σ v0 6) ≤ v5) → ((zI σ (zR σ v0 7) (Int32.toNatClampNeg v5)) = v1) → (¬ (zI σ (zR σ v0 8) (Int32.toNatClampNeg v5)) = v2) → V g mX12_lowest (Em g mX12_lowest Q X) CX 0 0 6 [(0, .ref v0), (1, .int v1), (2, .int v2), (3, .int v3), (4, .int v4), (5, .int (v5 + (1 : Int32)))] [] σ)
    (o9 : zR σ v0 10 ≠ 0)
    (o10 : zK σ (zR σ v0 10) = 20)
    (o11 : (¬ (zI σ v0 6) ≤ v5) → ((zI σ (zR σ v0 7) (Int32.toNatClampNeg v5)) = v1) → ((zI σ (zR σ v0 8) (Int32.toNatClampNeg v5)) = v2) → vp_in v5 (zL σ (zR σ v0 10)))
    (o12 : zR σ v0 11 ≠ 0)
    (o13 : zK σ (zR σ v0 11) = 20)
    (o14 : (¬ (zI σ v0 6) ≤ v5) → ((zI σ (zR σ v0 7) (Int32.toNatClampNeg v5)) = v1) → ((zI σ (zR σ v0 8) (Int32.toNatClampNeg v5)) = v2) → vp_in v5 (zL σ (zR σ v0 11)))
    (k4 : (¬ (zI σ v0 6) ≤ v5) → ((zI σ (zR σ v0 7) (Int32.toNatClampNeg v5)) = v1) → ((zI σ (zR σ v0 8) (Int32.toNatClampNeg v5)) = v2) → V g mX12_lowest (Em g mX12_lowest Q X) CX 0 0 55 [(0, .ref v0), (1, .int v1), (2, .int v2), (3, .int v3), (4, .int v4), (5, .int v5)] [.int (zI σ (zR σ v0 11) (Int32.toNatClampNeg v5)), .int (zI σ (zR σ v0 10) (Int32.toNatClampNeg v5)), .int (zI σ v0 0)] σ) :
    V g mX12_lowest (Em g mX12_lowest Q X) CX 0 0 6 [(0, .ref v0), (1, .int v1), (2, .int v2), (3, .int v3), (4, .int v4), (5, .int v5)] [] σ := by
  refine V_iload dX12_lowest_6 rfl ?_
  refine V_aload_n dX12_lowest_8 rfl ?_
  refine V_getf (fk := 6) (Value.int (zI σ v0 6)) ko_X12 rfl w_1061 dX12_lowest_9 o1 o2 rfl ?_
  refine V_icmp_ge 132 dX12_lowest_12 rfl (fun c1 => ?_) (fun c1 => ?_)
  · refine V_iload dX12_lowest_132 rfl ?_
    exact V_iret rfl dX12_lowest_134 (k1 c1)
  · refine V_aload_n dX12_lowest_15 rfl ?_
    refine V_getf (fk := 7) (Value.ref (zR σ v0 7)) ko_X12 rfl w_1062 dX12_lowest_16 o1 o2 rfl ?_
    refine V_iload dX12_lowest_19 rfl ?_
    refine V_iald dX12_lowest_21 o3 o4 (o5 c1) ?_
    refine V_iload_n dX12_lowest_22 rfl ?_
    refine V_icmp_ne 86 dX12_lowest_23 rfl (fun c2 => ?_) (fun c2 => ?_)
    · refine V_iconst (0 : Int32) dX12_lowest_86 (by decide) ?_
      refine V_istore [(0, .ref v0), (1, .int v1), (2, .int v2), (3, .int v3), (4, .int v4), (5, .int v5), (6, .int (0 : Int32))] dX12_lowest_87 rfl rfl ?_
      refine V_iload dX12_lowest_89 rfl ?_
      refine V_if_eq 122 dX12_lowest_91 rfl (fun _ => ?_) (fun z_ => (by first | exact absurd (by decide) z_ | exact absurd z_ (by decide)))
      refine V_iload dX12_lowest_122 rfl ?_
      refine V_istore [(0, .ref v0), (1, .int v1), (2, .int v2), (3, .int v3), (4, .int v4), (5, .int v5), (6, .int (0 : Int32))] dX12_lowest_124 rfl rfl ?_
      refine V_iinc (v5 + (1 : Int32)) [(0, .ref v0), (1, .int v1), (2, .int v2), (3, .int v3), (4, .int v4), (5, .int (v5 + (1 : Int32))), (6, .int (0 : Int32))] dX12_lowest_126 rfl rfl rfl rfl ?_
      refine V_goto 6 dX12_lowest_129 rfl ?_
      exact V_less (mm_keep (mm_keep (mm_keep (mm_keep (mm_keep (mm_keep (mm_drop mm_nil))))))) (by decide) (by decide) (k2 c1 c2)
    · refine V_aload_n dX12_lowest_26 rfl ?_
      refine V_getf (fk := 8) (Value.ref (zR σ v0 8)) ko_X12 rfl w_1063 dX12_lowest_27 o1 o2 rfl ?_
      refine V_iload dX12_lowest_30 rfl ?_
      refine V_iald dX12_lowest_32 o6 o7 (o8 c1 c2) ?_
      refine V_iload_n dX12_lowest_33 rfl ?_
      refine V_icmp_ne 86 dX12_lowest_34 rfl (fun c3 => ?_) (fun c3 => ?_)
      · refine V_iconst (0 : Int32) dX12_lowest_86 (by decide) ?_
        refine V_istore [(0, .ref v0), (1, .int v1), (2, .int v2), (3, .int v3), (4, .int v4), (5, .int v5), (6, .int (0 : Int32))] dX12_lowest_87 rfl rfl ?_
        refine V_iload dX12_lowest_89 rfl ?_
        refine V_if_eq 122 dX12_lowest_91 rfl (fun _ => ?_) (fun z_ => (by first | exact absurd (by decide) z_ | exact absurd z_ (by decide)))
        refine V_iload dX12_lowest_122 rfl ?_
        refine V_istore [(0, .ref v0), (1, .int v1), (2, .int v2), (3, .int v3), (4, .int v4), (5, .int v5), (6, .int (0 : Int32))] dX12_lowest_124 rfl rfl ?_
        refine V_iinc (v5 + (1 : Int32)) [(0, .ref v0), (1, .int v1), (2, .int v2), (3, .int v3), (4, .int v4), (5, .int (v5 + (1 : Int32))), (6, .int (0 : Int32))] dX12_lowest_126 rfl rfl rfl rfl ?_
        refine V_goto 6 dX12_lowest_129 rfl ?_
        exact V_less (mm_keep (mm_keep (mm_keep (mm_keep (mm_keep (mm_keep (mm_drop mm_nil))))))) (by decide) (by decide) (k3 c1 c2 c3)
      · refine V_aload_n dX12_lowest_37 rfl ?_
        refine V_getf (fk := 0) (Value.int (zI σ v0 0)) ko_X12 rfl w_1055 dX12_lowest_38 o1 o2 rfl ?_
        refine V_aload_n dX12_lowest_41 rfl ?_
        refine V_getf (fk := 10) (Value.ref (zR σ v0 10)) ko_X12 rfl w_1065 dX12_lowest_42 o1 o2 rfl ?_
        refine V_iload dX12_lowest_45 rfl ?_
        refine V_iald dX12_lowest_47 o9 o10 (o11 c1 c2 c3) ?_
        refine V_aload_n dX12_lowest_48 rfl ?_
        refine V_getf (fk := 11) (Value.ref (zR σ v0 11)) ko_X12 rfl w_1066 dX12_lowest_49 o1 o2 rfl ?_
        refine V_iload dX12_lowest_52 rfl ?_
        refine V_iald dX12_lowest_54 o12 o13 (o14 c1 c2 c3) ?_
        exact (k4 c1 c2 c3)

set_option maxRecDepth 100000 in
set_option maxHeartbeats 4000000 in
theorem b_X12_stopsIn_0 {g : GP} {CX : State → Array Value → Prop} {E : ET} {v0 : Nat} {v1 : Int32} {v2 : Int32} {σ : AH}
    (k1 : V g mX12_stopsIn E CX 0 0 7 [(0, .ref v0), (1, .int v1), (2, .int v2), (3, .int (0 : Int32)), (4, .int (v1 + (1 : Int32)))] [] σ) :
    V g mX12_stopsIn E CX 0 0 0 [(0, .ref v0), (1, .int v1), (2, .int v2)] [] σ := by
  refine V_iconst (0 : Int32) dX12_stopsIn_0 (by decide) ?_
  refine V_istore_n [(0, .ref v0), (1, .int v1), (2, .int v2), (3, .int (0 : Int32))] dX12_stopsIn_1 rfl rfl ?_
  refine V_iload_n dX12_stopsIn_2 rfl ?_
  refine V_iconst (1 : Int32) dX12_stopsIn_3 (by decide) ?_
  refine V_iadd dX12_stopsIn_4 ?_
  refine V_istore [(0, .ref v0), (1, .int v1), (2, .int v2), (3, .int (0 : Int32)), (4, .int (v1 + (1 : Int32)))] dX12_stopsIn_5 rfl rfl ?_
  exact k1
set_option maxRecDepth 100000 in
set_option maxHeartbeats 4000000 in
theorem b_X12_stopsIn_7 {g : GP} {CX : State → Array Value → Prop} {Q : AH → Option Value → Prop} {X : AH → String → Prop} {v0 : Nat} {v1 : Int32} {v2 : Int32} {v3 : Int32} {v4 : Int32} {σ : AH}
    (k1 : (v2 ≤ v4) → Q σ (some (.int v3)))
    (k2 : (¬ v2 ≤ v4) → V g mX12_stopsIn (Em g mX12_stopsIn Q X) CX 0 0 17 [(0, .ref v0), (1, .int v1), (2, .int v2), (3, .int v3), (4, .int v4)] [.int v4, .ref v0, .int v3] σ) :
    V g mX12_stopsIn (Em g mX12_stopsIn Q X) CX 0 0 7 [(0, .ref v0), (1, .int v1), (2, .int v2), (3, .int v3), (4, .int v4)] [] σ := by
  refine V_iload dX12_stopsIn_7 rfl ?_
  refine V_iload_n dX12_stopsIn_9 rfl ?_
  refine V_icmp_ge 36 dX12_stopsIn_10 rfl (fun c1 => ?_) (fun c1 => ?_)
  · refine V_iload_n dX12_stopsIn_36 rfl ?_
    exact V_iret rfl dX12_stopsIn_37 (k1 c1)
  · refine V_iload_n dX12_stopsIn_13 rfl ?_
    refine V_aload_n dX12_stopsIn_14 rfl ?_
    refine V_iload dX12_stopsIn_15 rfl ?_
    exact (k2 c1)

set_option maxRecDepth 100000 in
set_option maxHeartbeats 4000000 in
theorem b_X12_milesOf_0 {g : GP} {CX : State → Array Value → Prop} {Q : AH → Option Value → Prop} {X : AH → String → Prop} {v0 : Nat} {v1 : Int32} {σ : AH}
    (o1 : v0 ≠ 0)
    (o2 : zK σ v0 = 12)
    (o3 : zR σ v0 17 ≠ 0)
    (o4 : zK σ (zR σ v0 17) = 20)
    (o5 : vp_in v1 (zL σ (zR σ v0 17)))
    (o6 : zR σ v0 18 ≠ 0)
    (o7 : zK σ (zR σ v0 18) = 20)
    (o8 : vp_in v1 (zL σ (zR σ v0 18)))
    (o9 : zR σ v0 1 ≠ 0)
    (o10 : zK σ (zR σ v0 1) = 20)
    (o11 : vp_in (((10 : Int32) * (zI σ (zR σ v0 17) (Int32.toNatClampNeg v1))) + (zI σ (zR σ v0 18) (Int32.toNatClampNeg v1))) (zL σ (zR σ v0 1)))
    (k1 : Q σ (some (.int (zI σ (zR σ v0 1) (Int32.toNatClampNeg (((10 : Int32) * (zI σ (zR σ v0 17) (Int32.toNatClampNeg v1))) + (zI σ (zR σ v0 18) (Int32.toNatClampNeg v1)))))))) :
    V g mX12_milesOf (Em g mX12_milesOf Q X) CX 0 0 0 [(0, .ref v0), (1, .int v1)] [] σ := by
  refine V_aload_n dX12_milesOf_0 rfl ?_
  refine V_getf (fk := 1) (Value.ref (zR σ v0 1)) ko_X12 rfl w_1056 dX12_milesOf_1 o1 o2 rfl ?_
  refine V_bipush (10 : Int32) dX12_milesOf_4 (by decide) ?_
  refine V_aload_n dX12_milesOf_6 rfl ?_
  refine V_getf (fk := 17) (Value.ref (zR σ v0 17)) ko_X12 rfl w_1072 dX12_milesOf_7 o1 o2 rfl ?_
  refine V_iload_n dX12_milesOf_10 rfl ?_
  refine V_iald dX12_milesOf_11 o3 o4 o5 ?_
  refine V_imul dX12_milesOf_12 ?_
  refine V_aload_n dX12_milesOf_13 rfl ?_
  refine V_getf (fk := 18) (Value.ref (zR σ v0 18)) ko_X12 rfl w_1073 dX12_milesOf_14 o1 o2 rfl ?_
  refine V_iload_n dX12_milesOf_17 rfl ?_
  refine V_iald dX12_milesOf_18 o6 o7 o8 ?_
  refine V_iadd dX12_milesOf_19 ?_
  refine V_iald dX12_milesOf_20 o9 o10 o11 ?_
  exact V_iret rfl dX12_milesOf_21 k1

set_option maxRecDepth 100000 in
set_option maxHeartbeats 4000000 in
theorem b_X12_partOf_0 {g : GP} {CX : State → Array Value → Prop} {E : ET} {v0 : Nat} {v1 : Int32} {v2 : Int32} {σ : AH}
    (k1 : V g mX12_partOf E CX 0 0 2 [(0, .ref v0), (1, .int v1), (2, .int v2)] [.int v1, .ref v0] σ) :
    V g mX12_partOf E CX 0 0 0 [(0, .ref v0), (1, .int v1), (2, .int v2)] [] σ := by
  refine V_aload_n dX12_partOf_0 rfl ?_
  refine V_iload_n dX12_partOf_1 rfl ?_
  exact k1

set_option maxRecDepth 100000 in
set_option maxHeartbeats 4000000 in
theorem b_X12_part_0 {g : GP} {CX : State → Array Value → Prop} {E : ET} {v0 : Nat} {v1 : Int32} {v2 : Int32} {σ : AH}
    (o1 : v0 ≠ 0)
    (o2 : zK σ v0 = 12)
    (k1 : ((zI σ v0 16) ≤ 0) → (v2 ≤ v1) → V g mX12_part E CX 0 0 50 [(0, .ref v0), (1, .int v1), (2, .int v2), (3, .int (0 : Int32))] [.int (1 : Int32), .int (0 : Int32), .int (0 : Int32), .ref v0] σ)
    (k2 : ((zI σ v0 16) ≤ 0) → (¬ v2 ≤ v1) → V g mX12_part E CX 0 0 50 [(0, .ref v0), (1, .int v1), (2, .int v2), (3, .int (0 : Int32))] [.int (1 : Int32), .int (1 : Int32), .int (0 : Int32), .ref v0] σ)
    (k3 : (¬ (zI σ v0 16) ≤ 0) → V g mX12_part E CX 0 0 13 [(0, .ref v0), (1, .int v1), (2, .int v2)] [.int (zI σ v0 16), .int (0 : Int32), .int v1] σ) :
    V g mX12_part E CX 0 0 0 [(0, .ref v0), (1, .int v1), (2, .int v2)] [] σ := by
  refine V_aload_n dX12_part_0 rfl ?_
  refine V_getf (fk := 16) (Value.int (zI σ v0 16)) ko_X12 rfl w_1071 dX12_part_1 o1 o2 rfl ?_
  refine V_if_le 35 dX12_part_4 rfl (fun c1 => ?_) (fun c1 => ?_)
  · refine V_iconst (0 : Int32) dX12_part_35 (by decide) ?_
    refine V_istore_n [(0, .ref v0), (1, .int v1), (2, .int v2), (3, .int (0 : Int32))] dX12_part_36 rfl rfl ?_
    refine V_aload_n dX12_part_37 rfl ?_
    refine V_iload_n dX12_part_38 rfl ?_
    refine V_iload_n dX12_part_39 rfl ?_
    refine V_iload_n dX12_part_40 rfl ?_
    refine V_icmp_le 48 dX12_part_41 rfl (fun c2 => ?_) (fun c2 => ?_)
    · refine V_iconst (0 : Int32) dX12_part_48 (by decide) ?_
      refine V_iconst (1 : Int32) dX12_part_49 (by decide) ?_
      exact (k1 c1 c2)
    · refine V_iconst (1 : Int32) dX12_part_44 (by decide) ?_
      refine V_goto 49 dX12_part_45 rfl ?_
      refine V_iconst (1 : Int32) dX12_part_49 (by decide) ?_
      exact (k2 c1 c2)
  · refine V_iload_n dX12_part_7 rfl ?_
    refine V_iconst (0 : Int32) dX12_part_8 (by decide) ?_
    refine V_aload_n dX12_part_9 rfl ?_
    refine V_getf (fk := 16) (Value.int (zI σ v0 16)) ko_X12 rfl w_1071 dX12_part_10 o1 o2 rfl ?_
    exact (k3 c1)

set_option maxRecDepth 100000 in
set_option maxHeartbeats 4000000 in
theorem b_X12_sumOf_0 {g : GP} {CX : State → Array Value → Prop} {E : ET} {v0 : Nat} {v1 : Int32} {σ : AH}
    (k1 : V g mX12_sumOf E CX 0 0 7 [(0, .ref v0), (1, .int v1), (2, .int (0 : Int32)), (3, .int (0 : Int32)), (4, .int (1 : Int32))] [] σ) :
    V g mX12_sumOf E CX 0 0 0 [(0, .ref v0), (1, .int v1)] [] σ := by
  refine V_iconst (0 : Int32) dX12_sumOf_0 (by decide) ?_
  refine V_istore_n [(0, .ref v0), (1, .int v1), (2, .int (0 : Int32))] dX12_sumOf_1 rfl rfl ?_
  refine V_iconst (0 : Int32) dX12_sumOf_2 (by decide) ?_
  refine V_istore_n [(0, .ref v0), (1, .int v1), (2, .int (0 : Int32)), (3, .int (0 : Int32))] dX12_sumOf_3 rfl rfl ?_
  refine V_iconst (1 : Int32) dX12_sumOf_4 (by decide) ?_
  refine V_istore [(0, .ref v0), (1, .int v1), (2, .int (0 : Int32)), (3, .int (0 : Int32)), (4, .int (1 : Int32))] dX12_sumOf_5 rfl rfl ?_
  exact k1
set_option maxRecDepth 100000 in
set_option maxHeartbeats 4000000 in
theorem b_X12_sumOf_7 {g : GP} {CX : State → Array Value → Prop} {Q : AH → Option Value → Prop} {X : AH → String → Prop} {v0 : Nat} {v1 : Int32} {v2 : Int32} {v3 : Int32} {v4 : Int32} {σ : AH}
    (o1 : v0 ≠ 0)
    (o2 : zK σ v0 = 12)
    (k1 : ((zI σ v0 16) < v4) → Q σ (some (.int v2)))
    (k2 : (¬ (zI σ v0 16) < v4) → (v2 = (-1 : Int32)) → Q σ (some (.int v2)))
    (k3 : (¬ (zI σ v0 16) < v4) → (¬ v2 = (-1 : Int32)) → (v4 = (zI σ v0 16)) → V g mX12_sumOf (Em g mX12_sumOf Q X) CX 0 0 44 [(0, .ref v0), (1, .int v1), (2, .int v2), (3, .int v3), (4, .int v4)] [.int v4, .int v3, .ref v0] σ)
    (k4 : (¬ (zI σ v0 16) < v4) → (¬ v2 = (-1 : Int32)) → (¬ v4 = (zI σ v0 16)) → (¬ ((v1 >>> (v4 &&& 31)) &&& (1 : Int32)) = (1 : Int32)) → V g mX12_sumOf (Em g mX12_sumOf Q X) CX 0 0 7 [(0, .ref v0), (1, .int v1), (2, .int v2), (3, .int v3), (4, .int (v4 + (1 : Int32)))] [] σ)
    (k5 : (¬ (zI σ v0 16) < v4) → (¬ v2 = (-1 : Int32)) → (¬ v4 = (zI σ v0 16)) → (((v1 >>> (v4 &&& 31)) &&& (1 : Int32)) = (1 : Int32)) → V g mX12_sumOf (Em g mX12_sumOf Q X) CX 0 0 44 [(0, .ref v0), (1, .int v1), (2, .int v2), (3, .int v3), (4, .int v4)] [.int v4, .int v3, .ref v0] σ) :
    V g mX12_sumOf (Em g mX12_sumOf Q X) CX 0 0 7 [(0, .ref v0), (1, .int v1), (2, .int v2), (3, .int v3), (4, .int v4)] [] σ := by
  refine V_iload dX12_sumOf_7 rfl ?_
  refine V_aload_n dX12_sumOf_9 rfl ?_
  refine V_getf (fk := 16) (Value.int (zI σ v0 16)) ko_X12 rfl w_1071 dX12_sumOf_10 o1 o2 rfl ?_
  refine V_icmp_gt 72 dX12_sumOf_13 rfl (fun c1 => ?_) (fun c1 => ?_)
  · refine V_iload_n dX12_sumOf_72 rfl ?_
    exact V_iret rfl dX12_sumOf_73 (k1 c1)
  · refine V_iload_n dX12_sumOf_16 rfl ?_
    refine V_iconst (-1 : Int32) dX12_sumOf_17 (by decide) ?_
    refine V_icmp_eq 72 dX12_sumOf_18 rfl (fun c2 => ?_) (fun c2 => ?_)
    · refine V_iload_n dX12_sumOf_72 rfl ?_
      exact V_iret rfl dX12_sumOf_73 (k2 c1 c2)
    · refine V_iload dX12_sumOf_21 rfl ?_
      refine V_aload_n dX12_sumOf_23 rfl ?_
      refine V_getf (fk := 16) (Value.int (zI σ v0 16)) ko_X12 rfl w_1071 dX12_sumOf_24 o1 o2 rfl ?_
      refine V_icmp_eq 40 dX12_sumOf_27 rfl (fun c3 => ?_) (fun c3 => ?_)
      · refine V_aload_n dX12_sumOf_40 rfl ?_
        refine V_iload_n dX12_sumOf_41 rfl ?_
        refine V_iload dX12_sumOf_42 rfl ?_
        exact (k3 c1 c2 c3)
      · refine V_iload_n dX12_sumOf_30 rfl ?_
        refine V_iload dX12_sumOf_31 rfl ?_
        refine V_ishr dX12_sumOf_33 ?_
        refine V_iconst (1 : Int32) dX12_sumOf_34 (by decide) ?_
        refine V_iand dX12_sumOf_35 ?_
        refine V_iconst (1 : Int32) dX12_sumOf_36 (by decide) ?_
        refine V_icmp_ne 66 dX12_sumOf_37 rfl (fun c4 => ?_) (fun c4 => ?_)
        · refine V_iinc (v4 + (1 : Int32)) [(0, .ref v0), (1, .int v1), (2, .int v2), (3, .int v3), (4, .int (v4 + (1 : Int32)))] dX12_sumOf_66 rfl rfl rfl rfl ?_
          refine V_goto 7 dX12_sumOf_69 rfl ?_
          exact (k4 c1 c2 c3 c4)
        · refine V_aload_n dX12_sumOf_40 rfl ?_
          refine V_iload_n dX12_sumOf_41 rfl ?_
          refine V_iload dX12_sumOf_42 rfl ?_
          exact (k5 c1 c2 c3 c4)

set_option maxRecDepth 100000 in
set_option maxHeartbeats 4000000 in
theorem b_X12_finds_0 {g : GP} {CX : State → Array Value → Prop} {E : ET} {v0 : Nat} {σ : AH}
    (o1 : v0 ≠ 0)
    (o2 : zK σ v0 = 12)
    (k1 : V g mX12_finds E CX 0 0 12 [(0, .ref v0), (1, .int (0 : Int32))] [] (uI (uI σ v0 21 (-1 : Int32)) v0 22 (-1 : Int32))) :
    V g mX12_finds E CX 0 0 0 [(0, .ref v0)] [] σ := by
  refine V_aload_n dX12_finds_0 rfl ?_
  refine V_iconst (-1 : Int32) dX12_finds_1 (by decide) ?_
  refine V_puti (fk := 21) ko_X12 rfl w_1076 (Or.inl rfl) dX12_finds_2 rfl o1 o2 ?_
  refine V_aload_n dX12_finds_5 rfl ?_
  refine V_iconst (-1 : Int32) dX12_finds_6 (by decide) ?_
  refine V_puti (fk := 22) ko_X12 rfl w_1077 (Or.inl rfl) dX12_finds_7 rfl o1 o2 ?_
  refine V_iconst (0 : Int32) dX12_finds_10 (by decide) ?_
  refine V_istore_n [(0, .ref v0), (1, .int (0 : Int32))] dX12_finds_11 rfl rfl ?_
  exact k1
set_option maxRecDepth 100000 in
set_option maxHeartbeats 4000000 in
theorem b_X12_finds_12 {g : GP} {CX : State → Array Value → Prop} {Q : AH → Option Value → Prop} {X : AH → String → Prop} {v0 : Nat} {v1 : Int32} {σ : AH}
    (o1 : v0 ≠ 0)
    (o2 : zK σ v0 = 12)
    (k1 : ((zI σ v0 16) ≤ 0) → Q σ (some (.int (zI σ v0 21))))
    (k2 : (¬ (zI σ v0 16) ≤ 0) → (((1 : Int32) <<< ((zI σ v0 16) &&& 31)) ≤ v1) → Q σ (some (.int (zI σ v0 21))))
    (k3 : (¬ (zI σ v0 16) ≤ 0) → (¬ ((1 : Int32) <<< ((zI σ v0 16) &&& 31)) ≤ v1) → V g mX12_finds (Em g mX12_finds Q X) CX 0 0 31 [(0, .ref v0), (1, .int v1)] [.int v1, .ref v0] σ) :
    V g mX12_finds (Em g mX12_finds Q X) CX 0 0 12 [(0, .ref v0), (1, .int v1)] [] σ := by
  refine V_aload_n dX12_finds_12 rfl ?_
  refine V_getf (fk := 16) (Value.int (zI σ v0 16)) ko_X12 rfl w_1071 dX12_finds_13 o1 o2 rfl ?_
  refine V_if_le 72 dX12_finds_16 rfl (fun c1 => ?_) (fun c1 => ?_)
  · refine V_aload_n dX12_finds_72 rfl ?_
    refine V_getf (fk := 21) (Value.int (zI σ v0 21)) ko_X12 rfl w_1076 dX12_finds_73 o1 o2 rfl ?_
    exact V_iret rfl dX12_finds_76 (k1 c1)
  · refine V_iload_n dX12_finds_19 rfl ?_
    refine V_iconst (1 : Int32) dX12_finds_20 (by decide) ?_
    refine V_aload_n dX12_finds_21 rfl ?_
    refine V_getf (fk := 16) (Value.int (zI σ v0 16)) ko_X12 rfl w_1071 dX12_finds_22 o1 o2 rfl ?_
    refine V_ishl dX12_finds_25 ?_
    refine V_icmp_ge 72 dX12_finds_26 rfl (fun c2 => ?_) (fun c2 => ?_)
    · refine V_aload_n dX12_finds_72 rfl ?_
      refine V_getf (fk := 21) (Value.int (zI σ v0 21)) ko_X12 rfl w_1076 dX12_finds_73 o1 o2 rfl ?_
      exact V_iret rfl dX12_finds_76 (k2 c1 c2)
    · refine V_aload_n dX12_finds_29 rfl ?_
      refine V_iload_n dX12_finds_30 rfl ?_
      exact (k3 c1 c2)

set_option maxRecDepth 100000 in
set_option maxHeartbeats 4000000 in
theorem b_X12_price_0 {g : GP} {CX : State → Array Value → Prop} {E : ET} {v0 : Nat} {σ : AH}
    (o1 : v0 ≠ 0)
    (o2 : zK σ v0 = 12)
    (k1 : V g mX12_price E CX 0 0 6 [(0, .ref v0)] [.ref v0] (uI σ v0 49 (0 : Int32))) :
    V g mX12_price E CX 0 0 0 [(0, .ref v0)] [] σ := by
  refine V_aload_n dX12_price_0 rfl ?_
  refine V_iconst (0 : Int32) dX12_price_1 (by decide) ?_
  refine V_puti (fk := 49) ko_X12 rfl w_1104 (Or.inl rfl) dX12_price_2 rfl o1 o2 ?_
  refine V_aload_n dX12_price_5 rfl ?_
  exact k1

set_option maxRecDepth 100000 in
set_option maxHeartbeats 4000000 in
theorem b_X12_priceAnew_0 {g : GP} {CX : State → Array Value → Prop} {E : ET} {v0 : Nat} {σ : AH}
    (k1 : V g mX12_priceAnew E CX 0 0 1 [(0, .ref v0)] [.ref v0] σ) :
    V g mX12_priceAnew E CX 0 0 0 [(0, .ref v0)] [] σ := by
  refine V_aload_n dX12_priceAnew_0 rfl ?_
  exact k1

set_option maxRecDepth 100000 in
set_option maxHeartbeats 4000000 in
theorem b_X12_cuts_0 {g : GP} {CX : State → Array Value → Prop} {E : ET} {v0 : Nat} {σ : AH}
    (o1 : v0 ≠ 0)
    (o2 : zK σ v0 = 12)
    (k1 : V g mX12_cuts E CX 0 0 6 [(0, .ref v0)] [.ref v0] (uI σ v0 49 (0 : Int32))) :
    V g mX12_cuts E CX 0 0 0 [(0, .ref v0)] [] σ := by
  refine V_aload_n dX12_cuts_0 rfl ?_
  refine V_iconst (0 : Int32) dX12_cuts_1 (by decide) ?_
  refine V_puti (fk := 49) ko_X12 rfl w_1104 (Or.inl rfl) dX12_cuts_2 rfl o1 o2 ?_
  refine V_aload_n dX12_cuts_5 rfl ?_
  exact k1

set_option maxRecDepth 100000 in
set_option maxHeartbeats 4000000 in
theorem b_X12_weightOf_0 {g : GP} {CX : State → Array Value → Prop} {Q : AH → Option Value → Prop} {X : AH → String → Prop} {v0 : Nat} {v1 : Int32} {σ : AH}
    (o1 : v0 ≠ 0)
    (o2 : zK σ v0 = 12)
    (o3 : zR σ v0 17 ≠ 0)
    (o4 : zK σ (zR σ v0 17) = 20)
    (o5 : vp_in v1 (zL σ (zR σ v0 17)))
    (o6 : zR σ v0 18 ≠ 0)
    (o7 : zK σ (zR σ v0 18) = 20)
    (o8 : vp_in v1 (zL σ (zR σ v0 18)))
    (o9 : zR σ v0 2 ≠ 0)
    (o10 : zK σ (zR σ v0 2) = 20)
    (o11 : vp_in (((10 : Int32) * (zI σ (zR σ v0 17) (Int32.toNatClampNeg v1))) + (zI σ (zR σ v0 18) (Int32.toNatClampNeg v1))) (zL σ (zR σ v0 2)))
    (k1 : ((zI σ (zR σ v0 2) (Int32.toNatClampNeg (((10 : Int32) * (zI σ (zR σ v0 17) (Int32.toNatClampNeg v1))) + (zI σ (zR σ v0 18) (Int32.toNatClampNeg v1))))) ≤ 0) → V g mX12_weightOf (Em g mX12_weightOf Q X) CX 0 0 32 [(0, .ref v0), (1, .int v1), (2, .int (zI σ (zR σ v0 2) (Int32.toNatClampNeg (((10 : Int32) * (zI σ (zR σ v0 17) (Int32.toNatClampNeg v1))) + (zI σ (zR σ v0 18) (Int32.toNatClampNeg v1))))))] [.int v1, .ref v0] σ)
    (k2 : (¬ (zI σ (zR σ v0 2) (Int32.toNatClampNeg (((10 : Int32) * (zI σ (zR σ v0 17) (Int32.toNatClampNeg v1))) + (zI σ (zR σ v0 18) (Int32.toNatClampNeg v1))))) ≤ 0) → Q σ (some (.int (zI σ (zR σ v0 2) (Int32.toNatClampNeg (((10 : Int32) * (zI σ (zR σ v0 17) (Int32.toNatClampNeg v1))) + (zI σ (zR σ v0 18) (Int32.toNatClampNeg v1)))))))) :
    V g mX12_weightOf (Em g mX12_weightOf Q X) CX 0 0 0 [(0, .ref v0), (1, .int v1)] [] σ := by
  refine V_aload_n dX12_weightOf_0 rfl ?_
  refine V_getf (fk := 2) (Value.ref (zR σ v0 2)) ko_X12 rfl w_1057 dX12_weightOf_1 o1 o2 rfl ?_
  refine V_bipush (10 : Int32) dX12_weightOf_4 (by decide) ?_
  refine V_aload_n dX12_weightOf_6 rfl ?_
  refine V_getf (fk := 17) (Value.ref (zR σ v0 17)) ko_X12 rfl w_1072 dX12_weightOf_7 o1 o2 rfl ?_
  refine V_iload_n dX12_weightOf_10 rfl ?_
  refine V_iald dX12_weightOf_11 o3 o4 o5 ?_
  refine V_imul dX12_weightOf_12 ?_
  refine V_aload_n dX12_weightOf_13 rfl ?_
  refine V_getf (fk := 18) (Value.ref (zR σ v0 18)) ko_X12 rfl w_1073 dX12_weightOf_14 o1 o2 rfl ?_
  refine V_iload_n dX12_weightOf_17 rfl ?_
  refine V_iald dX12_weightOf_18 o6 o7 o8 ?_
  refine V_iadd dX12_weightOf_19 ?_
  refine V_iald dX12_weightOf_20 o9 o10 o11 ?_
  refine V_istore_n [(0, .ref v0), (1, .int v1), (2, .int (zI σ (zR σ v0 2) (Int32.toNatClampNeg (((10 : Int32) * (zI σ (zR σ v0 17) (Int32.toNatClampNeg v1))) + (zI σ (zR σ v0 18) (Int32.toNatClampNeg v1))))))] dX12_weightOf_21 rfl rfl ?_
  refine V_iload_n dX12_weightOf_22 rfl ?_
  refine V_if_le 30 dX12_weightOf_23 rfl (fun c1 => ?_) (fun c1 => ?_)
  · refine V_aload_n dX12_weightOf_30 rfl ?_
    refine V_iload_n dX12_weightOf_31 rfl ?_
    exact (k1 c1)
  · refine V_iload_n dX12_weightOf_26 rfl ?_
    refine V_goto 35 dX12_weightOf_27 rfl ?_
    exact V_iret rfl dX12_weightOf_35 (k2 c1)

set_option maxRecDepth 100000 in
set_option maxHeartbeats 4000000 in
theorem b_X12_provisoOf_0 {g : GP} {CX : State → Array Value → Prop} {Q : AH → Option Value → Prop} {X : AH → String → Prop} {v0 : Nat} {v1 : Int32} {σ : AH}
    (o1 : v0 ≠ 0)
    (o2 : zK σ v0 = 12)
    (o3 : zR σ v0 19 ≠ 0)
    (o4 : zK σ (zR σ v0 19) = 20)
    (o5 : vp_in v1 (zL σ (zR σ v0 19)))
    (o6 : zR σ v0 17 ≠ 0)
    (o7 : zK σ (zR σ v0 17) = 20)
    (o8 : vp_in v1 (zL σ (zR σ v0 17)))
    (o9 : zR σ v0 18 ≠ 0)
    (o10 : zK σ (zR σ v0 18) = 20)
    (o11 : vp_in v1 (zL σ (zR σ v0 18)))
    (o12 : zR σ v0 3 ≠ 0)
    (o13 : zK σ (zR σ v0 3) = 20)
    (o14 : vp_in ((((100 : Int32) * (zI σ (zR σ v0 19) (Int32.toNatClampNeg v1))) + ((10 : Int32) * (zI σ (zR σ v0 17) (Int32.toNatClampNeg v1)))) + (zI σ (zR σ v0 18) (Int32.toNatClampNeg v1))) (zL σ (zR σ v0 3)))
    (k1 : Q σ (some (.int ((zI σ (zR σ v0 3) (Int32.toNatClampNeg ((((100 : Int32) * (zI σ (zR σ v0 19) (Int32.toNatClampNeg v1))) + ((10 : Int32) * (zI σ (zR σ v0 17) (Int32.toNatClampNeg v1)))) + (zI σ (zR σ v0 18) (Int32.toNatClampNeg v1))))) - (1 : Int32))))) :
    V g mX12_provisoOf (Em g mX12_provisoOf Q X) CX 0 0 0 [(0, .ref v0), (1, .int v1)] [] σ := by
  refine V_aload_n dX12_provisoOf_0 rfl ?_
  refine V_getf (fk := 3) (Value.ref (zR σ v0 3)) ko_X12 rfl w_1058 dX12_provisoOf_1 o1 o2 rfl ?_
  refine V_bipush (100 : Int32) dX12_provisoOf_4 (by decide) ?_
  refine V_aload_n dX12_provisoOf_6 rfl ?_
  refine V_getf (fk := 19) (Value.ref (zR σ v0 19)) ko_X12 rfl w_1074 dX12_provisoOf_7 o1 o2 rfl ?_
  refine V_iload_n dX12_provisoOf_10 rfl ?_
  refine V_iald dX12_provisoOf_11 o3 o4 o5 ?_
  refine V_imul dX12_provisoOf_12 ?_
  refine V_bipush (10 : Int32) dX12_provisoOf_13 (by decide) ?_
  refine V_aload_n dX12_provisoOf_15 rfl ?_
  refine V_getf (fk := 17) (Value.ref (zR σ v0 17)) ko_X12 rfl w_1072 dX12_provisoOf_16 o1 o2 rfl ?_
  refine V_iload_n dX12_provisoOf_19 rfl ?_
  refine V_iald dX12_provisoOf_20 o6 o7 o8 ?_
  refine V_imul dX12_provisoOf_21 ?_
  refine V_iadd dX12_provisoOf_22 ?_
  refine V_aload_n dX12_provisoOf_23 rfl ?_
  refine V_getf (fk := 18) (Value.ref (zR σ v0 18)) ko_X12 rfl w_1073 dX12_provisoOf_24 o1 o2 rfl ?_
  refine V_iload_n dX12_provisoOf_27 rfl ?_
  refine V_iald dX12_provisoOf_28 o9 o10 o11 ?_
  refine V_iadd dX12_provisoOf_29 ?_
  refine V_iald dX12_provisoOf_30 o12 o13 o14 ?_
  refine V_iconst (1 : Int32) dX12_provisoOf_31 (by decide) ?_
  refine V_isub dX12_provisoOf_32 ?_
  exact V_iret rfl dX12_provisoOf_33 k1

set_option maxRecDepth 100000 in
set_option maxHeartbeats 4000000 in
theorem b_X12_shares_0 {g : GP} {CX : State → Array Value → Prop} {E : ET} {v0 : Nat} {v1 : Int32} {v2 : Int32} {v3 : Int32} {σ : AH}
    (k1 : V g mX12_shares E CX 0 0 3 [(0, .ref v0), (1, .int v1), (2, .int v2), (3, .int v3)] [.int v3, .int v2, .ref v0] σ) :
    V g mX12_shares E CX 0 0 0 [(0, .ref v0), (1, .int v1), (2, .int v2), (3, .int v3)] [] σ := by
  refine V_aload_n dX12_shares_0 rfl ?_
  refine V_iload_n dX12_shares_1 rfl ?_
  refine V_iload_n dX12_shares_2 rfl ?_
  exact k1

set_option maxRecDepth 100000 in
set_option maxHeartbeats 4000000 in
theorem b_X12_makes_0 {g : GP} {CX : State → Array Value → Prop} {E : ET} {v0 : Nat} {v1 : Int32} {v2 : Int32} {σ : AH}
    (o1 : v0 ≠ 0)
    (o2 : zK σ v0 = 12)
    (k1 : V g mX12_makes E CX 0 0 6 [(0, .ref v0), (1, .int v1), (2, .int v2)] [.ref v0, .int v1, .ref (zR σ v0 24)] σ) :
    V g mX12_makes E CX 0 0 0 [(0, .ref v0), (1, .int v1), (2, .int v2)] [] σ := by
  refine V_aload_n dX12_makes_0 rfl ?_
  refine V_getf (fk := 24) (Value.ref (zR σ v0 24)) ko_X12 rfl w_1079 dX12_makes_1 o1 o2 rfl ?_
  refine V_iload_n dX12_makes_4 rfl ?_
  refine V_aload_n dX12_makes_5 rfl ?_
  exact k1

set_option maxRecDepth 100000 in
set_option maxHeartbeats 4000000 in
theorem b_X12_taxes_0 {g : GP} {CX : State → Array Value → Prop} {E : ET} {v0 : Nat} {v1 : Int32} {σ : AH}
    (k1 : V g mX12_taxes E CX 0 0 7 [(0, .ref v0), (1, .int v1), (2, .int (0 : Int32)), (3, .int ((8 : Int32) * v1))] [] σ) :
    V g mX12_taxes E CX 0 0 0 [(0, .ref v0), (1, .int v1)] [] σ := by
  refine V_iconst (0 : Int32) dX12_taxes_0 (by decide) ?_
  refine V_istore_n [(0, .ref v0), (1, .int v1), (2, .int (0 : Int32))] dX12_taxes_1 rfl rfl ?_
  refine V_bipush (8 : Int32) dX12_taxes_2 (by decide) ?_
  refine V_iload_n dX12_taxes_4 rfl ?_
  refine V_imul dX12_taxes_5 ?_
  refine V_istore_n [(0, .ref v0), (1, .int v1), (2, .int (0 : Int32)), (3, .int ((8 : Int32) * v1))] dX12_taxes_6 rfl rfl ?_
  exact k1
set_option maxRecDepth 100000 in
set_option maxHeartbeats 4000000 in
theorem b_X12_taxes_7 {g : GP} {CX : State → Array Value → Prop} {Q : AH → Option Value → Prop} {X : AH → String → Prop} {v0 : Nat} {v1 : Int32} {v2 : Int32} {v3 : Int32} {σ : AH}
    (o1 : v0 ≠ 0)
    (o2 : zK σ v0 = 12)
    (o3 : zR σ v0 26 ≠ 0)
    (o4 : zK σ (zR σ v0 26) = 20)
    (o5 : vp_in v1 (zL σ (zR σ v0 26)))
    (k1 : ((((8 : Int32) * v1) + (zI σ (zR σ v0 26) (Int32.toNatClampNeg v1))) ≤ v3) → Q σ (some (.int v2)))
    (o6 : zR σ v0 31 ≠ 0)
    (o7 : zK σ (zR σ v0 31) = 20)
    (o8 : (¬ (((8 : Int32) * v1) + (zI σ (zR σ v0 26) (Int32.toNatClampNeg v1))) ≤ v3) → vp_in v3 (zL σ (zR σ v0 31)))
    (k2 : (¬ (((8 : Int32) * v1) + (zI σ (zR σ v0 26) (Int32.toNatClampNeg v1))) ≤ v3) → V g mX12_taxes (Em g mX12_taxes Q X) CX 0 0 7 [(0, .ref v0), (1, .int v1), (2, .int (v2 + (zI σ (zR σ v0 31) (Int32.toNatClampNeg v3)))), (3, .int (v3 + (1 : Int32)))] [] σ) :
    V g mX12_taxes (Em g mX12_taxes Q X) CX 0 0 7 [(0, .ref v0), (1, .int v1), (2, .int v2), (3, .int v3)] [] σ := by
  refine V_iload_n dX12_taxes_7 rfl ?_
  refine V_bipush (8 : Int32) dX12_taxes_8 (by decide) ?_
  refine V_iload_n dX12_taxes_10 rfl ?_
  refine V_imul dX12_taxes_11 ?_
  refine V_aload_n dX12_taxes_12 rfl ?_
  refine V_getf (fk := 26) (Value.ref (zR σ v0 26)) ko_X12 rfl w_1081 dX12_taxes_13 o1 o2 rfl ?_
  refine V_iload_n dX12_taxes_16 rfl ?_
  refine V_iald dX12_taxes_17 o3 o4 o5 ?_
  refine V_iadd dX12_taxes_18 ?_
  refine V_icmp_ge 37 dX12_taxes_19 rfl (fun c1 => ?_) (fun c1 => ?_)
  · refine V_iload_n dX12_taxes_37 rfl ?_
    exact V_iret rfl dX12_taxes_38 (k1 c1)
  · refine V_iload_n dX12_taxes_22 rfl ?_
    refine V_aload_n dX12_taxes_23 rfl ?_
    refine V_getf (fk := 31) (Value.ref (zR σ v0 31)) ko_X12 rfl w_1086 dX12_taxes_24 o1 o2 rfl ?_
    refine V_iload_n dX12_taxes_27 rfl ?_
    refine V_iald dX12_taxes_28 o6 o7 (o8 c1) ?_
    refine V_iadd dX12_taxes_29 ?_
    refine V_istore_n [(0, .ref v0), (1, .int v1), (2, .int (v2 + (zI σ (zR σ v0 31) (Int32.toNatClampNeg v3)))), (3, .int v3)] dX12_taxes_30 rfl rfl ?_
    refine V_iinc (v3 + (1 : Int32)) [(0, .ref v0), (1, .int v1), (2, .int (v2 + (zI σ (zR σ v0 31) (Int32.toNatClampNeg v3)))), (3, .int (v3 + (1 : Int32)))] dX12_taxes_31 rfl rfl rfl rfl ?_
    refine V_goto 7 dX12_taxes_34 rfl ?_
    exact (k2 c1)

set_option maxRecDepth 100000 in
set_option maxHeartbeats 4000000 in
theorem b_X12_buys_0 {g : GP} {CX : State → Array Value → Prop} {Q : AH → Option Value → Prop} {X : AH → String → Prop} {v0 : Nat} {v1 : Int32} {v2 : Int32} {σ : AH}
    (o1 : v0 ≠ 0)
    (o2 : zK σ v0 = 12)
    (o3 : zR σ v0 46 ≠ 0)
    (o4 : zK σ (zR σ v0 46) = 21)
    (o5 : vp_in v1 (zL σ (zR σ v0 46)))
    (k1 : Q (uJ (uJ σ (zR σ v0 46) (Int32.toNatClampNeg v1) ((zJ σ (zR σ v0 46) (Int32.toNatClampNeg v1)) + (Int32.toInt64 v2))) v0 48 ((zJ (uJ σ (zR σ v0 46) (Int32.toNatClampNeg v1) ((zJ σ (zR σ v0 46) (Int32.toNatClampNeg v1)) + (Int32.toInt64 v2))) v0 48) + (Int32.toInt64 v2))) none) :
    V g mX12_buys (Em g mX12_buys Q X) CX 0 0 0 [(0, .ref v0), (1, .int v1), (2, .int v2)] [] σ := by
  refine V_aload_n dX12_buys_0 rfl ?_
  refine V_getf (fk := 46) (Value.ref (zR σ v0 46)) ko_X12 rfl w_1101 dX12_buys_1 o1 o2 rfl ?_
  refine V_iload_n dX12_buys_4 rfl ?_
  refine V_dup2 dX12_buys_5 rfl rfl ?_
  refine V_lald dX12_buys_6 o3 o4 o5 ?_
  refine V_iload_n dX12_buys_7 rfl ?_
  refine V_i2l dX12_buys_8 ?_
  refine V_ladd dX12_buys_9 ?_
  refine V_last dX12_buys_10 o3 o4 o5 ?_
  refine V_aload_n dX12_buys_11 rfl ?_
  refine V_dup dX12_buys_12 rfl ?_
  refine V_getf (fk := 48) (Value.long (zJ (uJ σ (zR σ v0 46) (Int32.toNatClampNeg v1) ((zJ σ (zR σ v0 46) (Int32.toNatClampNeg v1)) + (Int32.toInt64 v2))) v0 48)) ko_X12 rfl w_1103 dX12_buys_13 o1 o2 rfl ?_
  refine V_iload_n dX12_buys_16 rfl ?_
  refine V_i2l dX12_buys_17 ?_
  refine V_ladd dX12_buys_18 ?_
  refine V_putl (fk := 48) ko_X12 rfl w_1103 (Or.inl rfl) dX12_buys_19 rfl o1 o2 ?_
  exact V_vret rfl dX12_buys_22 k1

set_option maxRecDepth 100000 in
set_option maxHeartbeats 4000000 in
theorem b_X12_canIssue_0 {g : GP} {CX : State → Array Value → Prop} {E : ET} {v0 : Nat} {σ : AH}
    (o1 : v0 ≠ 0)
    (o2 : zK σ v0 = 12)
    (k1 : ((30 : Int32) ≤ (zI σ v0 23)) → V g mX12_canIssue E CX 0 0 25 [(0, .ref v0), (1, .int (0 : Int32)), (2, .int (0 : Int32))] [] σ)
    (k2 : (¬ (30 : Int32) ≤ (zI σ v0 23)) → V g mX12_canIssue E CX 0 0 10 [(0, .ref v0)] [.ref v0] σ) :
    V g mX12_canIssue E CX 0 0 0 [(0, .ref v0)] [] σ := by
  refine V_aload_n dX12_canIssue_0 rfl ?_
  refine V_getf (fk := 23) (Value.int (zI σ v0 23)) ko_X12 rfl w_1078 dX12_canIssue_1 o1 o2 rfl ?_
  refine V_bipush (30 : Int32) dX12_canIssue_4 (by decide) ?_
  refine V_icmp_ge 21 dX12_canIssue_6 rfl (fun c1 => ?_) (fun c1 => ?_)
  · refine V_iconst (0 : Int32) dX12_canIssue_21 (by decide) ?_
    refine V_istore_n [(0, .ref v0), (1, .int (0 : Int32))] dX12_canIssue_22 rfl rfl ?_
    refine V_iconst (0 : Int32) dX12_canIssue_23 (by decide) ?_
    refine V_istore_n [(0, .ref v0), (1, .int (0 : Int32)), (2, .int (0 : Int32))] dX12_canIssue_24 rfl rfl ?_
    exact (k1 c1)
  · refine V_aload_n dX12_canIssue_9 rfl ?_
    exact (k2 c1)
set_option maxRecDepth 100000 in
set_option maxHeartbeats 4000000 in
theorem b_X12_canIssue_25 {g : GP} {CX : State → Array Value → Prop} {Q : AH → Option Value → Prop} {X : AH → String → Prop} {v0 : Nat} {v1 : Int32} {v2 : Int32} {σ : AH}
    (o1 : v0 ≠ 0)
    (o2 : zK σ v0 = 12)
    (o3 : ((zI σ v0 16) ≤ v2) → narrow .boolean (.int v1) = .int v1)
    (k1 : ((zI σ v0 16) ≤ v2) → Q σ (some (.int v1)))
    (k2 : (¬ (zI σ v0 16) ≤ v2) → (v1 = 0) → V g mX12_canIssue (Em g mX12_canIssue Q X) CX 0 0 25 [(0, .ref v0), (1, .int (0 : Int32)), (2, .int (v2 + (1 : Int32)))] [] σ)
    (o4 : zR σ v0 20 ≠ 0)
    (o5 : zK σ (zR σ v0 20) = 20)
    (o6 : (¬ (zI σ v0 16) ≤ v2) → (¬ v1 = 0) → vp_in v2 (zL σ (zR σ v0 20)))
    (k3 : (¬ (zI σ v0 16) ≤ v2) → (¬ v1 = 0) → ((zI σ (zR σ v0 20) (Int32.toNatClampNeg v2)) < (zI σ v0 0)) → V g mX12_canIssue (Em g mX12_canIssue Q X) CX 0 0 25 [(0, .ref v0), (1, .int (0 : Int32)), (2, .int (v2 + (1 : Int32)))] [] σ)
    (k4 : (¬ (zI σ v0 16) ≤ v2) → (¬ v1 = 0) → (¬ (zI σ (zR σ v0 20) (Int32.toNatClampNeg v2)) < (zI σ v0 0)) → V g mX12_canIssue (Em g mX12_canIssue Q X) CX 0 0 25 [(0, .ref v0), (1, .int (1 : Int32)), (2, .int (v2 + (1 : Int32)))] [] σ) :
    V g mX12_canIssue (Em g mX12_canIssue Q X) CX 0 0 25 [(0, .ref v0), (1, .int v1), (2, .int v2)] [] σ := by
  refine V_iload_n dX12_canIssue_25 rfl ?_
  refine V_aload_n dX12_canIssue_26 rfl ?_
  refine V_getf (fk := 16) (Value.int (zI σ v0 16)) ko_X12 rfl w_1071 dX12_canIssue_27 o1 o2 rfl ?_
  refine V_icmp_ge 62 dX12_canIssue_30 rfl (fun c1 => ?_) (fun c1 => ?_)
  · refine V_iload_n dX12_canIssue_62 rfl ?_
    exact V_zret rfl dX12_canIssue_63 (o3 c1) (k1 c1)
  · refine V_iload_n dX12_canIssue_33 rfl ?_
    refine V_if_eq 54 dX12_canIssue_34 rfl (fun c2 => ?_) (fun c2 => ?_)
    · refine V_iconst (0 : Int32) dX12_canIssue_54 (by decide) ?_
      refine V_istore_n [(0, .ref v0), (1, .int (0 : Int32)), (2, .int v2)] dX12_canIssue_55 rfl rfl ?_
      refine V_iinc (v2 + (1 : Int32)) [(0, .ref v0), (1, .int (0 : Int32)), (2, .int (v2 + (1 : Int32)))] dX12_canIssue_56 rfl rfl rfl rfl ?_
      refine V_goto 25 dX12_canIssue_59 rfl ?_
      exact (k2 c1 c2)
    · refine V_aload_n dX12_canIssue_37 rfl ?_
      refine V_getf (fk := 20) (Value.ref (zR σ v0 20)) ko_X12 rfl w_1075 dX12_canIssue_38 o1 o2 rfl ?_
      refine V_iload_n dX12_canIssue_41 rfl ?_
      refine V_iald dX12_canIssue_42 o4 o5 (o6 c1 c2) ?_
      refine V_aload_n dX12_canIssue_43 rfl ?_
      refine V_getf (fk := 0) (Value.int (zI σ v0 0)) ko_X12 rfl w_1055 dX12_canIssue_44 o1 o2 rfl ?_
      refine V_icmp_lt 54 dX12_canIssue_47 rfl (fun c3 => ?_) (fun c3 => ?_)
      · refine V_iconst (0 : Int32) dX12_canIssue_54 (by decide) ?_
        refine V_istore_n [(0, .ref v0), (1, .int (0 : Int32)), (2, .int v2)] dX12_canIssue_55 rfl rfl ?_
        refine V_iinc (v2 + (1 : Int32)) [(0, .ref v0), (1, .int (0 : Int32)), (2, .int (v2 + (1 : Int32)))] dX12_canIssue_56 rfl rfl rfl rfl ?_
        refine V_goto 25 dX12_canIssue_59 rfl ?_
        exact (k3 c1 c2 c3)
      · refine V_iconst (1 : Int32) dX12_canIssue_50 (by decide) ?_
        refine V_goto 55 dX12_canIssue_51 rfl ?_
        refine V_istore_n [(0, .ref v0), (1, .int (1 : Int32)), (2, .int v2)] dX12_canIssue_55 rfl rfl ?_
        refine V_iinc (v2 + (1 : Int32)) [(0, .ref v0), (1, .int (1 : Int32)), (2, .int (v2 + (1 : Int32)))] dX12_canIssue_56 rfl rfl rfl rfl ?_
        refine V_goto 25 dX12_canIssue_59 rfl ?_
        exact (k4 c1 c2 c3)

set_option maxRecDepth 100000 in
set_option maxHeartbeats 4000000 in
theorem b_X12_issue_0 {g : GP} {CX : State → Array Value → Prop} {E : ET} {v0 : Nat} {v1 : Int32} {σ : AH}
    (k1 : V g mX12_issue E CX 0 0 2 [(0, .ref v0), (1, .int v1)] [.int v1, .ref v0] σ) :
    V g mX12_issue E CX 0 0 0 [(0, .ref v0), (1, .int v1)] [] σ := by
  refine V_aload_n dX12_issue_0 rfl ?_
  refine V_iload_n dX12_issue_1 rfl ?_
  exact k1

set_option maxRecDepth 100000 in
set_option maxHeartbeats 4000000 in
theorem b_X12_isTicket_0 {g : GP} {CX : State → Array Value → Prop} {E : ET} {v0 : Nat} {v1 : Int32} {σ : AH}
    (o1 : v0 ≠ 0)
    (o2 : zK σ v0 = 12)
    (k1 : V g mX12_isTicket E CX 0 0 8 [(0, .ref v0), (1, .int v1)] [.int ((zI σ v0 23) - (1 : Int32)), .int (0 : Int32), .int v1] σ) :
    V g mX12_isTicket E CX 0 0 0 [(0, .ref v0), (1, .int v1)] [] σ := by
  refine V_iload_n dX12_isTicket_0 rfl ?_
  refine V_iconst (0 : Int32) dX12_isTicket_1 (by decide) ?_
  refine V_aload_n dX12_isTicket_2 rfl ?_
  refine V_getf (fk := 23) (Value.int (zI σ v0 23)) ko_X12 rfl w_1078 dX12_isTicket_3 o1 o2 rfl ?_
  refine V_iconst (1 : Int32) dX12_isTicket_6 (by decide) ?_
  refine V_isub dX12_isTicket_7 ?_
  exact k1

set_option maxRecDepth 100000 in
set_option maxHeartbeats 4000000 in
theorem b_X12_isCoupon_0 {g : GP} {CX : State → Array Value → Prop} {E : ET} {v0 : Nat} {v1 : Int32} {v2 : Int32} {σ : AH}
    (k1 : V g mX12_isCoupon E CX 0 0 2 [(0, .ref v0), (1, .int v1), (2, .int v2)] [.int v1, .ref v0] σ) :
    V g mX12_isCoupon E CX 0 0 0 [(0, .ref v0), (1, .int v1), (2, .int v2)] [] σ := by
  refine V_aload_n dX12_isCoupon_0 rfl ?_
  refine V_iload_n dX12_isCoupon_1 rfl ?_
  exact k1

set_option maxRecDepth 100000 in
set_option maxHeartbeats 4000000 in
theorem b_X12_fly_0 {g : GP} {CX : State → Array Value → Prop} {E : ET} {v0 : Nat} {v1 : Int32} {v2 : Int32} {σ : AH}
    (k1 : V g mX12_fly E CX 0 0 3 [(0, .ref v0), (1, .int v1), (2, .int v2)] [.int v2, .int v1, .ref v0] σ) :
    V g mX12_fly E CX 0 0 0 [(0, .ref v0), (1, .int v1), (2, .int v2)] [] σ := by
  refine V_aload_n dX12_fly_0 rfl ?_
  refine V_iload_n dX12_fly_1 rfl ?_
  refine V_iload_n dX12_fly_2 rfl ?_
  exact k1

set_option maxRecDepth 100000 in
set_option maxHeartbeats 4000000 in
theorem b_X12_endorse_0 {g : GP} {CX : State → Array Value → Prop} {E : ET} {v0 : Nat} {v1 : Int32} {v2 : Int32} {v3 : Int32} {σ : AH}
    (k1 : V g mX12_endorse E CX 0 0 3 [(0, .ref v0), (1, .int v1), (2, .int v2), (3, .int v3)] [.int v2, .int v1, .ref v0] σ) :
    V g mX12_endorse E CX 0 0 0 [(0, .ref v0), (1, .int v1), (2, .int v2), (3, .int v3)] [] σ := by
  refine V_aload_n dX12_endorse_0 rfl ?_
  refine V_iload_n dX12_endorse_1 rfl ?_
  refine V_iload_n dX12_endorse_2 rfl ?_
  exact k1

set_option maxRecDepth 100000 in
set_option maxHeartbeats 4000000 in
theorem b_X12_hasOpen_0 {g : GP} {CX : State → Array Value → Prop} {E : ET} {v0 : Nat} {v1 : Int32} {σ : AH}
    (k1 : V g mX12_hasOpen E CX 0 0 7 [(0, .ref v0), (1, .int v1), (2, .int (0 : Int32)), (3, .int ((8 : Int32) * v1))] [] σ) :
    V g mX12_hasOpen E CX 0 0 0 [(0, .ref v0), (1, .int v1)] [] σ := by
  refine V_iconst (0 : Int32) dX12_hasOpen_0 (by decide) ?_
  refine V_istore_n [(0, .ref v0), (1, .int v1), (2, .int (0 : Int32))] dX12_hasOpen_1 rfl rfl ?_
  refine V_bipush (8 : Int32) dX12_hasOpen_2 (by decide) ?_
  refine V_iload_n dX12_hasOpen_4 rfl ?_
  refine V_imul dX12_hasOpen_5 ?_
  refine V_istore_n [(0, .ref v0), (1, .int v1), (2, .int (0 : Int32)), (3, .int ((8 : Int32) * v1))] dX12_hasOpen_6 rfl rfl ?_
  exact k1
set_option maxRecDepth 100000 in
set_option maxHeartbeats 4000000 in
theorem b_X12_hasOpen_7 {g : GP} {CX : State → Array Value → Prop} {Q : AH → Option Value → Prop} {X : AH → String → Prop} {v0 : Nat} {v1 : Int32} {v2 : Int32} {v3 : Int32} {σ : AH}
    (o1 : v0 ≠ 0)
    (o2 : zK σ v0 = 12)
    (o3 : zR σ v0 26 ≠ 0)
    (o4 : zK σ (zR σ v0 26) = 20)
    (o5 : vp_in v1 (zL σ (zR σ v0 26)))
    (o6 : ((((8 : Int32) * v1) + (zI σ (zR σ v0 26) (Int32.toNatClampNeg v1))) ≤ v3) → narrow .boolean (.int v2) = .int v2)
    (k1 : ((((8 : Int32) * v1) + (zI σ (zR σ v0 26) (Int32.toNatClampNeg v1))) ≤ v3) → Q σ (some (.int v2)))
    (k2 : (¬ (((8 : Int32) * v1) + (zI σ (zR σ v0 26) (Int32.toNatClampNeg v1))) ≤ v3) → (¬ v2 = 0) → V g mX12_hasOpen (Em g mX12_hasOpen Q X) CX 0 0 7 [(0, .ref v0), (1, .int v1), (2, .int (1 : Int32)), (3, .int (v3 + (1 : Int32)))] [] σ)
    (o7 : zR σ v0 29 ≠ 0)
    (o8 : zK σ (zR σ v0 29) = 20)
    (o9 : (¬ (((8 : Int32) * v1) + (zI σ (zR σ v0 26) (Int32.toNatClampNeg v1))) ≤ v3) → (v2 = 0) → vp_in v3 (zL σ (zR σ v0 29)))
    (k3 : (¬ (((8 : Int32) * v1) + (zI σ (zR σ v0 26) (Int32.toNatClampNeg v1))) ≤ v3) → (v2 = 0) → (¬ (zI σ (zR σ v0 29) (Int32.toNatClampNeg v3)) = 0) → V g mX12_hasOpen (Em g mX12_hasOpen Q X) CX 0 0 7 [(0, .ref v0), (1, .int v1), (2, .int (0 : Int32)), (3, .int (v3 + (1 : Int32)))] [] σ)
    (k4 : (¬ (((8 : Int32) * v1) + (zI σ (zR σ v0 26) (Int32.toNatClampNeg v1))) ≤ v3) → (v2 = 0) → ((zI σ (zR σ v0 29) (Int32.toNatClampNeg v3)) = 0) → V g mX12_hasOpen (Em g mX12_hasOpen Q X) CX 0 0 7 [(0, .ref v0), (1, .int v1), (2, .int (1 : Int32)), (3, .int (v3 + (1 : Int32)))] [] σ) :
    V g mX12_hasOpen (Em g mX12_hasOpen Q X) CX 0 0 7 [(0, .ref v0), (1, .int v1), (2, .int v2), (3, .int v3)] [] σ := by
  refine V_iload_n dX12_hasOpen_7 rfl ?_
  refine V_bipush (8 : Int32) dX12_hasOpen_8 (by decide) ?_
  refine V_iload_n dX12_hasOpen_10 rfl ?_
  refine V_imul dX12_hasOpen_11 ?_
  refine V_aload_n dX12_hasOpen_12 rfl ?_
  refine V_getf (fk := 26) (Value.ref (zR σ v0 26)) ko_X12 rfl w_1081 dX12_hasOpen_13 o1 o2 rfl ?_
  refine V_iload_n dX12_hasOpen_16 rfl ?_
  refine V_iald dX12_hasOpen_17 o3 o4 o5 ?_
  refine V_iadd dX12_hasOpen_18 ?_
  refine V_icmp_ge 47 dX12_hasOpen_19 rfl (fun c1 => ?_) (fun c1 => ?_)
  · refine V_iload_n dX12_hasOpen_47 rfl ?_
    exact V_zret rfl dX12_hasOpen_48 (o6 c1) (k1 c1)
  · refine V_iload_n dX12_hasOpen_22 rfl ?_
    refine V_if_ne 35 dX12_hasOpen_23 rfl (fun c2 => ?_) (fun c2 => ?_)
    · refine V_iconst (1 : Int32) dX12_hasOpen_35 (by decide) ?_
      refine V_goto 40 dX12_hasOpen_36 rfl ?_
      refine V_istore_n [(0, .ref v0), (1, .int v1), (2, .int (1 : Int32)), (3, .int v3)] dX12_hasOpen_40 rfl rfl ?_
      refine V_iinc (v3 + (1 : Int32)) [(0, .ref v0), (1, .int v1), (2, .int (1 : Int32)), (3, .int (v3 + (1 : Int32)))] dX12_hasOpen_41 rfl rfl rfl rfl ?_
      refine V_goto 7 dX12_hasOpen_44 rfl ?_
      exact (k2 c1 c2)
    · refine V_aload_n dX12_hasOpen_26 rfl ?_
      refine V_getf (fk := 29) (Value.ref (zR σ v0 29)) ko_X12 rfl w_1084 dX12_hasOpen_27 o1 o2 rfl ?_
      refine V_iload_n dX12_hasOpen_30 rfl ?_
      refine V_iald dX12_hasOpen_31 o7 o8 (o9 c1 c2) ?_
      refine V_if_ne 39 dX12_hasOpen_32 rfl (fun c3 => ?_) (fun c3 => ?_)
      · refine V_iconst (0 : Int32) dX12_hasOpen_39 (by decide) ?_
        refine V_istore_n [(0, .ref v0), (1, .int v1), (2, .int (0 : Int32)), (3, .int v3)] dX12_hasOpen_40 rfl rfl ?_
        refine V_iinc (v3 + (1 : Int32)) [(0, .ref v0), (1, .int v1), (2, .int (0 : Int32)), (3, .int (v3 + (1 : Int32)))] dX12_hasOpen_41 rfl rfl rfl rfl ?_
        refine V_goto 7 dX12_hasOpen_44 rfl ?_
        exact (k3 c1 c2 c3)
      · refine V_iconst (1 : Int32) dX12_hasOpen_35 (by decide) ?_
        refine V_goto 40 dX12_hasOpen_36 rfl ?_
        refine V_istore_n [(0, .ref v0), (1, .int v1), (2, .int (1 : Int32)), (3, .int v3)] dX12_hasOpen_40 rfl rfl ?_
        refine V_iinc (v3 + (1 : Int32)) [(0, .ref v0), (1, .int v1), (2, .int (1 : Int32)), (3, .int (v3 + (1 : Int32)))] dX12_hasOpen_41 rfl rfl rfl rfl ?_
        refine V_goto 7 dX12_hasOpen_44 rfl ?_
        exact (k4 c1 c2 c3)

set_option maxRecDepth 100000 in
set_option maxHeartbeats 4000000 in
theorem b_X12_openOnes_0 {g : GP} {CX : State → Array Value → Prop} {E : ET} {v0 : Nat} {v1 : Int32} {v2 : Int32} {σ : AH}
    (k1 : V g mX12_openOnes E CX 0 0 8 [(0, .ref v0), (1, .int v1), (2, .int v2), (3, .int (0 : Int32)), (4, .int ((8 : Int32) * v1))] [] σ) :
    V g mX12_openOnes E CX 0 0 0 [(0, .ref v0), (1, .int v1), (2, .int v2)] [] σ := by
  refine V_iconst (0 : Int32) dX12_openOnes_0 (by decide) ?_
  refine V_istore_n [(0, .ref v0), (1, .int v1), (2, .int v2), (3, .int (0 : Int32))] dX12_openOnes_1 rfl rfl ?_
  refine V_bipush (8 : Int32) dX12_openOnes_2 (by decide) ?_
  refine V_iload_n dX12_openOnes_4 rfl ?_
  refine V_imul dX12_openOnes_5 ?_
  refine V_istore [(0, .ref v0), (1, .int v1), (2, .int v2), (3, .int (0 : Int32)), (4, .int ((8 : Int32) * v1))] dX12_openOnes_6 rfl rfl ?_
  exact k1
set_option maxRecDepth 100000 in
set_option maxHeartbeats 4000000 in
theorem b_X12_openOnes_8 {g : GP} {CX : State → Array Value → Prop} {Q : AH → Option Value → Prop} {X : AH → String → Prop} {v0 : Nat} {v1 : Int32} {v2 : Int32} {v3 : Int32} {v4 : Int32} {σ : AH}
    (o1 : v0 ≠ 0)
    (o2 : zK σ v0 = 12)
    (o3 : zR σ v0 26 ≠ 0)
    (o4 : zK σ (zR σ v0 26) = 20)
    (o5 : vp_in v1 (zL σ (zR σ v0 26)))
    (k1 : ((((8 : Int32) * v1) + (zI σ (zR σ v0 26) (Int32.toNatClampNeg v1))) ≤ v4) → Q σ (some (.int v3)))
    (o6 : zR σ v0 29 ≠ 0)
    (o7 : zK σ (zR σ v0 29) = 20)
    (o8 : (¬ (((8 : Int32) * v1) + (zI σ (zR σ v0 26) (Int32.toNatClampNeg v1))) ≤ v4) → vp_in v4 (zL σ (zR σ v0 29)))
    (k2 : (¬ (((8 : Int32) * v1) + (zI σ (zR σ v0 26) (Int32.toNatClampNeg v1))) ≤ v4) → (¬ (zI σ (zR σ v0 29) (Int32.toNatClampNeg v4)) = 0) → V g mX12_openOnes (Em g mX12_openOnes Q X) CX 0 0 8 [(0, .ref v0), (1, .int v1), (2, .int v2), (3, .int (v3 + (0 : Int32))), (4, .int (v4 + (1 : Int32)))] [] σ)
    (o9 : zR σ v0 30 ≠ 0)
    (o10 : zK σ (zR σ v0 30) = 20)
    (o11 : (¬ (((8 : Int32) * v1) + (zI σ (zR σ v0 26) (Int32.toNatClampNeg v1))) ≤ v4) → ((zI σ (zR σ v0 29) (Int32.toNatClampNeg v4)) = 0) → (v2 = 0) → vp_in v4 (zL σ (zR σ v0 30)))
    (k3 : (¬ (((8 : Int32) * v1) + (zI σ (zR σ v0 26) (Int32.toNatClampNeg v1))) ≤ v4) → ((zI σ (zR σ v0 29) (Int32.toNatClampNeg v4)) = 0) → (v2 = 0) → V g mX12_openOnes (Em g mX12_openOnes Q X) CX 0 0 8 [(0, .ref v0), (1, .int v1), (2, .int v2), (3, .int (v3 + (zI σ (zR σ v0 30) (Int32.toNatClampNeg v4)))), (4, .int (v4 + (1 : Int32)))] [] σ)
    (o12 : zR σ v0 31 ≠ 0)
    (o13 : zK σ (zR σ v0 31) = 20)
    (o14 : (¬ (((8 : Int32) * v1) + (zI σ (zR σ v0 26) (Int32.toNatClampNeg v1))) ≤ v4) → ((zI σ (zR σ v0 29) (Int32.toNatClampNeg v4)) = 0) → (¬ v2 = 0) → vp_in v4 (zL σ (zR σ v0 31)))
    (k4 : (¬ (((8 : Int32) * v1) + (zI σ (zR σ v0 26) (Int32.toNatClampNeg v1))) ≤ v4) → ((zI σ (zR σ v0 29) (Int32.toNatClampNeg v4)) = 0) → (¬ v2 = 0) → V g mX12_openOnes (Em g mX12_openOnes Q X) CX 0 0 8 [(0, .ref v0), (1, .int v1), (2, .int v2), (3, .int (v3 + (zI σ (zR σ v0 31) (Int32.toNatClampNeg v4)))), (4, .int (v4 + (1 : Int32)))] [] σ) :
    V g mX12_openOnes (Em g mX12_openOnes Q X) CX 0 0 8 [(0, .ref v0), (1, .int v1), (2, .int v2), (3, .int v3), (4, .int v4)] [] σ := by
  refine V_iload dX12_openOnes_8 rfl ?_
  refine V_bipush (8 : Int32) dX12_openOnes_10 (by decide) ?_
  refine V_iload_n dX12_openOnes_12 rfl ?_
  refine V_imul dX12_openOnes_13 ?_
  refine V_aload_n dX12_openOnes_14 rfl ?_
  refine V_getf (fk := 26) (Value.ref (zR σ v0 26)) ko_X12 rfl w_1081 dX12_openOnes_15 o1 o2 rfl ?_
  refine V_iload_n dX12_openOnes_18 rfl ?_
  refine V_iald dX12_openOnes_19 o3 o4 o5 ?_
  refine V_iadd dX12_openOnes_20 ?_
  refine V_icmp_ge 68 dX12_openOnes_21 rfl (fun c1 => ?_) (fun c1 => ?_)
  · refine V_iload_n dX12_openOnes_68 rfl ?_
    exact V_iret rfl dX12_openOnes_69 (k1 c1)
  · refine V_iload_n dX12_openOnes_24 rfl ?_
    refine V_aload_n dX12_openOnes_25 rfl ?_
    refine V_getf (fk := 29) (Value.ref (zR σ v0 29)) ko_X12 rfl w_1084 dX12_openOnes_26 o1 o2 rfl ?_
    refine V_iload dX12_openOnes_29 rfl ?_
    refine V_iald dX12_openOnes_31 o6 o7 (o8 c1) ?_
    refine V_if_ne 59 dX12_openOnes_32 rfl (fun c2 => ?_) (fun c2 => ?_)
    · refine V_iconst (0 : Int32) dX12_openOnes_59 (by decide) ?_
      refine V_iadd dX12_openOnes_60 ?_
      refine V_istore_n [(0, .ref v0), (1, .int v1), (2, .int v2), (3, .int (v3 + (0 : Int32))), (4, .int v4)] dX12_openOnes_61 rfl rfl ?_
      refine V_iinc (v4 + (1 : Int32)) [(0, .ref v0), (1, .int v1), (2, .int v2), (3, .int (v3 + (0 : Int32))), (4, .int (v4 + (1 : Int32)))] dX12_openOnes_62 rfl rfl rfl rfl ?_
      refine V_goto 8 dX12_openOnes_65 rfl ?_
      exact (k2 c1 c2)
    · refine V_iload_n dX12_openOnes_35 rfl ?_
      refine V_if_eq 49 dX12_openOnes_36 rfl (fun c3 => ?_) (fun c3 => ?_)
      · refine V_aload_n dX12_openOnes_49 rfl ?_
        refine V_getf (fk := 30) (Value.ref (zR σ v0 30)) ko_X12 rfl w_1085 dX12_openOnes_50 o1 o2 rfl ?_
        refine V_iload dX12_openOnes_53 rfl ?_
        refine V_iald dX12_openOnes_55 o9 o10 (o11 c1 c2 c3) ?_
        refine V_goto 60 dX12_openOnes_56 rfl ?_
        refine V_iadd dX12_openOnes_60 ?_
        refine V_istore_n [(0, .ref v0), (1, .int v1), (2, .int v2), (3, .int (v3 + (zI σ (zR σ v0 30) (Int32.toNatClampNeg v4)))), (4, .int v4)] dX12_openOnes_61 rfl rfl ?_
        refine V_iinc (v4 + (1 : Int32)) [(0, .ref v0), (1, .int v1), (2, .int v2), (3, .int (v3 + (zI σ (zR σ v0 30) (Int32.toNatClampNeg v4)))), (4, .int (v4 + (1 : Int32)))] dX12_openOnes_62 rfl rfl rfl rfl ?_
        refine V_goto 8 dX12_openOnes_65 rfl ?_
        exact (k3 c1 c2 c3)
      · refine V_aload_n dX12_openOnes_39 rfl ?_
        refine V_getf (fk := 31) (Value.ref (zR σ v0 31)) ko_X12 rfl w_1086 dX12_openOnes_40 o1 o2 rfl ?_
        refine V_iload dX12_openOnes_43 rfl ?_
        refine V_iald dX12_openOnes_45 o12 o13 (o14 c1 c2 c3) ?_
        refine V_goto 60 dX12_openOnes_46 rfl ?_
        refine V_iadd dX12_openOnes_60 ?_
        refine V_istore_n [(0, .ref v0), (1, .int v1), (2, .int v2), (3, .int (v3 + (zI σ (zR σ v0 31) (Int32.toNatClampNeg v4)))), (4, .int v4)] dX12_openOnes_61 rfl rfl ?_
        refine V_iinc (v4 + (1 : Int32)) [(0, .ref v0), (1, .int v1), (2, .int v2), (3, .int (v3 + (zI σ (zR σ v0 31) (Int32.toNatClampNeg v4)))), (4, .int (v4 + (1 : Int32)))] dX12_openOnes_62 rfl rfl rfl rfl ?_
        refine V_goto 8 dX12_openOnes_65 rfl ?_
        exact (k4 c1 c2 c3)

set_option maxRecDepth 100000 in
set_option maxHeartbeats 4000000 in
theorem b_X12_turns_0 {g : GP} {CX : State → Array Value → Prop} {E : ET} {v0 : Nat} {v1 : Int32} {v2 : Int32} {σ : AH}
    (k1 : V g mX12_turns E CX 0 0 5 [(0, .ref v0), (1, .int v1), (2, .int v2), (3, .int ((8 : Int32) * v1))] [] σ) :
    V g mX12_turns E CX 0 0 0 [(0, .ref v0), (1, .int v1), (2, .int v2)] [] σ := by
  refine V_bipush (8 : Int32) dX12_turns_0 (by decide) ?_
  refine V_iload_n dX12_turns_2 rfl ?_
  refine V_imul dX12_turns_3 ?_
  refine V_istore_n [(0, .ref v0), (1, .int v1), (2, .int v2), (3, .int ((8 : Int32) * v1))] dX12_turns_4 rfl rfl ?_
  exact k1
set_option maxRecDepth 100000 in
set_option maxHeartbeats 4000000 in
theorem b_X12_turns_5 {g : GP} {CX : State → Array Value → Prop} {Q : AH → Option Value → Prop} {X : AH → String → Prop} {v0 : Nat} {v1 : Int32} {v2 : Int32} {v3 : Int32} {σ : AH}
    (o1 : v0 ≠ 0)
    (o2 : zK σ v0 = 12)
    (o3 : zR σ v0 26 ≠ 0)
    (o4 : zK σ (zR σ v0 26) = 20)
    (o5 : vp_in v1 (zL σ (zR σ v0 26)))
    (k1 : ((((8 : Int32) * v1) + (zI σ (zR σ v0 26) (Int32.toNatClampNeg v1))) ≤ v3) → Q σ none)
    (o6 : zR σ v0 29 ≠ 0)
    (o7 : zK σ (zR σ v0 29) = 20)
    (o8 : (¬ (((8 : Int32) * v1) + (zI σ (zR σ v0 26) (Int32.toNatClampNeg v1))) ≤ v3) → vp_in v3 (zL σ (zR σ v0 29)))
    (k2 : (¬ (((8 : Int32) * v1) + (zI σ (zR σ v0 26) (Int32.toNatClampNeg v1))) ≤ v3) → (¬ (zI σ (zR σ v0 29) (Int32.toNatClampNeg v3)) = 0) → V g mX12_turns (Em g mX12_turns Q X) CX 0 0 5 [(0, .ref v0), (1, .int v1), (2, .int v2), (3, .int (v3 + (1 : Int32)))] [] (uI σ (zR σ v0 29) (Int32.toNatClampNeg v3) (zI σ (zR σ v0 29) (Int32.toNatClampNeg v3))))
    (k3 : (¬ (((8 : Int32) * v1) + (zI σ (zR σ v0 26) (Int32.toNatClampNeg v1))) ≤ v3) → ((zI σ (zR σ v0 29) (Int32.toNatClampNeg v3)) = 0) → V g mX12_turns (Em g mX12_turns Q X) CX 0 0 5 [(0, .ref v0), (1, .int v1), (2, .int v2), (3, .int (v3 + (1 : Int32)))] [] (uI σ (zR σ v0 29) (Int32.toNatClampNeg v3) v2)) :
    V g mX12_turns (Em g mX12_turns Q X) CX 0 0 5 [(0, .ref v0), (1, .int v1), (2, .int v2), (3, .int v3)] [] σ := by
  refine V_iload_n dX12_turns_5 rfl ?_
  refine V_bipush (8 : Int32) dX12_turns_6 (by decide) ?_
  refine V_iload_n dX12_turns_8 rfl ?_
  refine V_imul dX12_turns_9 ?_
  refine V_aload_n dX12_turns_10 rfl ?_
  refine V_getf (fk := 26) (Value.ref (zR σ v0 26)) ko_X12 rfl w_1081 dX12_turns_11 o1 o2 rfl ?_
  refine V_iload_n dX12_turns_14 rfl ?_
  refine V_iald dX12_turns_15 o3 o4 o5 ?_
  refine V_iadd dX12_turns_16 ?_
  refine V_icmp_ge 51 dX12_turns_17 rfl (fun c1 => ?_) (fun c1 => ?_)
  · exact V_vret rfl dX12_turns_51 (k1 c1)
  · refine V_aload_n dX12_turns_20 rfl ?_
    refine V_getf (fk := 29) (Value.ref (zR σ v0 29)) ko_X12 rfl w_1084 dX12_turns_21 o1 o2 rfl ?_
    refine V_iload_n dX12_turns_24 rfl ?_
    refine V_aload_n dX12_turns_25 rfl ?_
    refine V_getf (fk := 29) (Value.ref (zR σ v0 29)) ko_X12 rfl w_1084 dX12_turns_26 o1 o2 rfl ?_
    refine V_iload_n dX12_turns_29 rfl ?_
    refine V_iald dX12_turns_30 o6 o7 (o8 c1) ?_
    refine V_if_ne 38 dX12_turns_31 rfl (fun c2 => ?_) (fun c2 => ?_)
    · refine V_aload_n dX12_turns_38 rfl ?_
      refine V_getf (fk := 29) (Value.ref (zR σ v0 29)) ko_X12 rfl w_1084 dX12_turns_39 o1 o2 rfl ?_
      refine V_iload_n dX12_turns_42 rfl ?_
      refine V_iald dX12_turns_43 o6 o7 (o8 c1) ?_
      refine V_iast dX12_turns_44 o6 o7 (o8 c1) ?_
      refine V_iinc (v3 + (1 : Int32)) [(0, .ref v0), (1, .int v1), (2, .int v2), (3, .int (v3 + (1 : Int32)))] dX12_turns_45 rfl rfl rfl rfl ?_
      refine V_goto 5 dX12_turns_48 rfl ?_
      exact (k2 c1 c2)
    · refine V_iload_n dX12_turns_34 rfl ?_
      refine V_goto 44 dX12_turns_35 rfl ?_
      refine V_iast dX12_turns_44 o6 o7 (o8 c1) ?_
      refine V_iinc (v3 + (1 : Int32)) [(0, .ref v0), (1, .int v1), (2, .int v2), (3, .int (v3 + (1 : Int32)))] dX12_turns_45 rfl rfl rfl rfl ?_
      refine V_goto 5 dX12_turns_48 rfl ?_
      exact (k3 c1 c2)

set_option maxRecDepth 100000 in
set_option maxHeartbeats 4000000 in
theorem b_X12_refund_0 {g : GP} {CX : State → Array Value → Prop} {E : ET} {v0 : Nat} {v1 : Int32} {σ : AH}
    (k1 : V g mX12_refund E CX 0 0 2 [(0, .ref v0), (1, .int v1)] [.int v1, .ref v0] σ) :
    V g mX12_refund E CX 0 0 0 [(0, .ref v0), (1, .int v1)] [] σ := by
  refine V_aload_n dX12_refund_0 rfl ?_
  refine V_iload_n dX12_refund_1 rfl ?_
  exact k1

set_option maxRecDepth 100000 in
set_option maxHeartbeats 4000000 in
theorem b_X12_reissue_0 {g : GP} {CX : State → Array Value → Prop} {E : ET} {v0 : Nat} {v1 : Int32} {σ : AH}
    (k1 : V g mX12_reissue E CX 0 0 2 [(0, .ref v0), (1, .int v1)] [.int v1, .ref v0] σ) :
    V g mX12_reissue E CX 0 0 0 [(0, .ref v0), (1, .int v1)] [] σ := by
  refine V_aload_n dX12_reissue_0 rfl ?_
  refine V_iload_n dX12_reissue_1 rfl ?_
  exact k1

set_option maxRecDepth 100000 in
set_option maxHeartbeats 4000000 in
theorem b_X12_pass_0 {g : GP} {CX : State → Array Value → Prop} {E : ET} {v0 : Nat} {v1 : Int32} {σ : AH}
    (k1 : V g mX12_pass E CX 0 0 5 [(0, .ref v0), (1, .int v1)] [.int (100 : Int32), .int (1 : Int32), .int v1, .ref v0] σ) :
    V g mX12_pass E CX 0 0 0 [(0, .ref v0), (1, .int v1)] [] σ := by
  refine V_aload_n dX12_pass_0 rfl ?_
  refine V_iload_n dX12_pass_1 rfl ?_
  refine V_iconst (1 : Int32) dX12_pass_2 (by decide) ?_
  refine V_bipush (100 : Int32) dX12_pass_3 (by decide) ?_
  exact k1

set_option maxRecDepth 100000 in
set_option maxHeartbeats 4000000 in
theorem b_X12_moves_0 {g : GP} {CX : State → Array Value → Prop} {Q : AH → Option Value → Prop} {X : AH → String → Prop} {v0 : Nat} {v1 : Int32} {v2 : Int32} {v3 : Int32} {σ : AH}
    (o1 : v0 ≠ 0)
    (o2 : zK σ v0 = 12)
    (o3 : zR σ v0 45 ≠ 0)
    (o4 : zK σ (zR σ v0 45) = 21)
    (o5 : vp_in v1 (zL σ (zR σ v0 45)))
    (o6 : vp_in v2 (zL σ (zR σ v0 45)))
    (o7 : zR σ v0 46 ≠ 0)
    (o8 : zK σ (zR σ v0 46) = 21)
    (o9 : vp_in v1 (zL σ (zR σ v0 46)))
    (o10 : vp_in v2 (zL σ (zR σ v0 46)))
    (k1 : Q (uJ (uJ (uJ (uJ σ (zR σ v0 45) (Int32.toNatClampNeg v1) ((zJ σ (zR σ v0 45) (Int32.toNatClampNeg v1)) - (Int32.toInt64 v3))) (zR σ v0 45) (Int32.toNatClampNeg v2) ((zJ (uJ σ (zR σ v0 45) (Int32.toNatClampNeg v1) ((zJ σ (zR σ v0 45) (Int32.toNatClampNeg v1)) - (Int32.toInt64 v3))) (zR σ v0 45) (Int32.toNatClampNeg v2)) + (Int32.toInt64 v3))) (zR σ v0 46) (Int32.toNatClampNeg v1) ((zJ (uJ (uJ σ (zR σ v0 45) (Int32.toNatClampNeg v1) ((zJ σ (zR σ v0 45) (Int32.toNatClampNeg v1)) - (Int32.toInt64 v3))) (zR σ v0 45) (Int32.toNatClampNeg v2) ((zJ (uJ σ (zR σ v0 45) (Int32.toNatClampNeg v1) ((zJ σ (zR σ v0 45) (Int32.toNatClampNeg v1)) - (Int32.toInt64 v3))) (zR σ v0 45) (Int32.toNatClampNeg v2)) + (Int32.toInt64 v3))) (zR σ v0 46) (Int32.toNatClampNeg v1)) - (Int32.toInt64 v3))) (zR σ v0 46) (Int32.toNatClampNeg v2) ((zJ (uJ (uJ (uJ σ (zR σ v0 45) (Int32.toNatClampNeg v1) ((zJ σ (zR σ v0 45) (Int32.toNatClampNeg v1)) - (Int32.toInt64 v3))) (zR σ v0 45) (Int32.toNatClampNeg v2) ((zJ (uJ σ (zR σ v0 45) (Int32.toNatClampNeg v1) ((zJ σ (zR σ v0 45) (Int32.toNatClampNeg v1)) - (Int32.toInt64 v3))) (zR σ v0 45) (Int32.toNatClampNeg v2)) + (Int32.toInt64 v3))) (zR σ v0 46) (Int32.toNatClampNeg v1) ((zJ (uJ (uJ σ (zR σ v0 45) (Int32.toNatClampNeg v1) ((zJ σ (zR σ v0 45) (Int32.toNatClampNeg v1)) - (Int32.toInt64 v3))) (zR σ v0 45) (Int32.toNatClampNeg v2) ((zJ (uJ σ (zR σ v0 45) (Int32.toNatClampNeg v1) ((zJ σ (zR σ v0 45) (Int32.toNatClampNeg v1)) - (Int32.toInt64 v3))) (zR σ v0 45) (Int32.toNatClampNeg v2)) + (Int32.toInt64 v3))) (zR σ v0 46) (Int32.toNatClampNeg v1)) - (Int32.toInt64 v3))) (zR σ v0 46) (Int32.toNatClampNeg v2)) + (Int32.toInt64 v3))) none) :
    V g mX12_moves (Em g mX12_moves Q X) CX 0 0 0 [(0, .ref v0), (1, .int v1), (2, .int v2), (3, .int v3)] [] σ := by
  refine V_aload_n dX12_moves_0 rfl ?_
  refine V_getf (fk := 45) (Value.ref (zR σ v0 45)) ko_X12 rfl w_1100 dX12_moves_1 o1 o2 rfl ?_
  refine V_iload_n dX12_moves_4 rfl ?_
  refine V_dup2 dX12_moves_5 rfl rfl ?_
  refine V_lald dX12_moves_6 o3 o4 o5 ?_
  refine V_iload_n dX12_moves_7 rfl ?_
  refine V_i2l dX12_moves_8 ?_
  refine V_lsub dX12_moves_9 ?_
  refine V_last dX12_moves_10 o3 o4 o5 ?_
  refine V_aload_n dX12_moves_11 rfl ?_
  refine V_getf (fk := 45) (Value.ref (zR σ v0 45)) ko_X12 rfl w_1100 dX12_moves_12 o1 o2 rfl ?_
  refine V_iload_n dX12_moves_15 rfl ?_
  refine V_dup2 dX12_moves_16 rfl rfl ?_
  refine V_lald dX12_moves_17 o3 o4 o6 ?_
  refine V_iload_n dX12_moves_18 rfl ?_
  refine V_i2l dX12_moves_19 ?_
  refine V_ladd dX12_moves_20 ?_
  refine V_last dX12_moves_21 o3 o4 o6 ?_
  refine V_aload_n dX12_moves_22 rfl ?_
  refine V_getf (fk := 46) (Value.ref (zR σ v0 46)) ko_X12 rfl w_1101 dX12_moves_23 o1 o2 rfl ?_
  refine V_iload_n dX12_moves_26 rfl ?_
  refine V_dup2 dX12_moves_27 rfl rfl ?_
  refine V_lald dX12_moves_28 o7 o8 o9 ?_
  refine V_iload_n dX12_moves_29 rfl ?_
  refine V_i2l dX12_moves_30 ?_
  refine V_lsub dX12_moves_31 ?_
  refine V_last dX12_moves_32 o7 o8 o9 ?_
  refine V_aload_n dX12_moves_33 rfl ?_
  refine V_getf (fk := 46) (Value.ref (zR σ v0 46)) ko_X12 rfl w_1101 dX12_moves_34 o1 o2 rfl ?_
  refine V_iload_n dX12_moves_37 rfl ?_
  refine V_dup2 dX12_moves_38 rfl rfl ?_
  refine V_lald dX12_moves_39 o7 o8 o10 ?_
  refine V_iload_n dX12_moves_40 rfl ?_
  refine V_i2l dX12_moves_41 ?_
  refine V_ladd dX12_moves_42 ?_
  refine V_last dX12_moves_43 o7 o8 o10 ?_
  exact V_vret rfl dX12_moves_44 k1

set_option maxRecDepth 100000 in
set_option maxHeartbeats 4000000 in
theorem b_X12_backOf_0 {g : GP} {CX : State → Array Value → Prop} {Q : AH → Option Value → Prop} {X : AH → String → Prop} {v0 : Nat} {v1 : Int32} {σ : AH}
    (o1 : v0 ≠ 0)
    (o2 : zK σ v0 = 12)
    (o3 : zR σ v0 41 ≠ 0)
    (o4 : zK σ (zR σ v0 41) = 20)
    (o5 : vp_in v1 (zL σ (zR σ v0 41)))
    (o6 : zR σ v0 38 ≠ 0)
    (o7 : zK σ (zR σ v0 38) = 20)
    (o8 : (¬ (zI σ (zR σ v0 41) (Int32.toNatClampNeg v1)) = (3 : Int32)) → vp_in v1 (zL σ (zR σ v0 38)))
    (k1 : (¬ (zI σ (zR σ v0 41) (Int32.toNatClampNeg v1)) = (3 : Int32)) → Q σ (some (.int (zI σ (zR σ v0 38) (Int32.toNatClampNeg v1)))))
    (o9 : ((zI σ (zR σ v0 41) (Int32.toNatClampNeg v1)) = (3 : Int32)) → vp_in v1 (zL σ (zR σ v0 38)))
    (k2 : ((zI σ (zR σ v0 41) (Int32.toNatClampNeg v1)) = (3 : Int32)) → Q σ (some (.int ((zI σ (zR σ v0 38) (Int32.toNatClampNeg v1)) / (2 : Int32))))) :
    V g mX12_backOf (Em g mX12_backOf Q X) CX 0 0 0 [(0, .ref v0), (1, .int v1)] [] σ := by
  refine V_aload_n dX12_backOf_0 rfl ?_
  refine V_getf (fk := 41) (Value.ref (zR σ v0 41)) ko_X12 rfl w_1096 dX12_backOf_1 o1 o2 rfl ?_
  refine V_iload_n dX12_backOf_4 rfl ?_
  refine V_iald dX12_backOf_5 o3 o4 o5 ?_
  refine V_iconst (3 : Int32) dX12_backOf_6 (by decide) ?_
  refine V_icmp_ne 21 dX12_backOf_7 rfl (fun c1 => ?_) (fun c1 => ?_)
  · refine V_aload_n dX12_backOf_21 rfl ?_
    refine V_getf (fk := 38) (Value.ref (zR σ v0 38)) ko_X12 rfl w_1093 dX12_backOf_22 o1 o2 rfl ?_
    refine V_iload_n dX12_backOf_25 rfl ?_
    refine V_iald dX12_backOf_26 o6 o7 (o8 c1) ?_
    exact V_iret rfl dX12_backOf_27 (k1 c1)
  · refine V_aload_n dX12_backOf_10 rfl ?_
    refine V_getf (fk := 38) (Value.ref (zR σ v0 38)) ko_X12 rfl w_1093 dX12_backOf_11 o1 o2 rfl ?_
    refine V_iload_n dX12_backOf_14 rfl ?_
    refine V_iald dX12_backOf_15 o6 o7 (o9 c1) ?_
    refine V_iconst (2 : Int32) dX12_backOf_16 (by decide) ?_
    refine V_idiv dX12_backOf_17 (by decide) ?_
    refine V_goto 27 dX12_backOf_18 rfl ?_
    exact V_iret rfl dX12_backOf_27 (k2 c1)

set_option maxRecDepth 100000 in
set_option maxHeartbeats 4000000 in
theorem b_X12_settles_0 {g : GP} {CX : State → Array Value → Prop} {E : ET} {v0 : Nat} {v1 : Int32} {σ : AH}
    (o1 : v0 ≠ 0)
    (o2 : zK σ v0 = 12)
    (o3 : zR σ v0 37 ≠ 0)
    (o4 : zK σ (zR σ v0 37) = 20)
    (o5 : vp_in v1 (zL σ (zR σ v0 37)))
    (o6 : zR σ v0 40 ≠ 0)
    (o7 : zK σ (zR σ v0 40) = 20)
    (o8 : (¬ (zI σ (zR σ v0 37) (Int32.toNatClampNeg v1)) = 0) → vp_in v1 (zL σ (zR σ v0 40)))
    (o9 : zR σ v0 39 ≠ 0)
    (o10 : zK σ (zR σ v0 39) = 20)
    (o11 : (¬ (zI σ (zR σ v0 37) (Int32.toNatClampNeg v1)) = 0) → vp_in v1 (zL σ (zR σ v0 39)))
    (k1 : (¬ (zI σ (zR σ v0 37) (Int32.toNatClampNeg v1)) = 0) → V g mX12_settles E CX 0 0 56 [(0, .ref v0), (1, .int v1)] [.int v1, .ref v0, .int (zI σ (zR σ v0 39) (Int32.toNatClampNeg v1)), .int (zI σ (zR σ v0 40) (Int32.toNatClampNeg v1)), .ref v0] σ)
    (o12 : ((zI σ (zR σ v0 37) (Int32.toNatClampNeg v1)) = 0) → vp_in v1 (zL σ (zR σ v0 39)))
    (o13 : ((zI σ (zR σ v0 37) (Int32.toNatClampNeg v1)) = 0) → vp_in v1 (zL σ (zR σ v0 40)))
    (o14 : zR σ v0 38 ≠ 0)
    (o15 : zK σ (zR σ v0 38) = 20)
    (o16 : ((zI σ (zR σ v0 37) (Int32.toNatClampNeg v1)) = 0) → vp_in v1 (zL σ (zR σ v0 38)))
    (k2 : ((zI σ (zR σ v0 37) (Int32.toNatClampNeg v1)) = 0) → V g mX12_settles E CX 0 0 28 [(0, .ref v0), (1, .int v1)] [.int (zI σ (zR σ v0 38) (Int32.toNatClampNeg v1)), .int (zI σ (zR σ v0 40) (Int32.toNatClampNeg v1)), .int (zI σ (zR σ v0 39) (Int32.toNatClampNeg v1)), .ref v0] σ) :
    V g mX12_settles E CX 0 0 0 [(0, .ref v0), (1, .int v1)] [] σ := by
  refine V_aload_n dX12_settles_0 rfl ?_
  refine V_getf (fk := 37) (Value.ref (zR σ v0 37)) ko_X12 rfl w_1092 dX12_settles_1 o1 o2 rfl ?_
  refine V_iload_n dX12_settles_4 rfl ?_
  refine V_iald dX12_settles_5 o3 o4 o5 ?_
  refine V_if_ne 41 dX12_settles_6 rfl (fun c1 => ?_) (fun c1 => ?_)
  · refine V_aload_n dX12_settles_41 rfl ?_
    refine V_aload_n dX12_settles_42 rfl ?_
    refine V_getf (fk := 40) (Value.ref (zR σ v0 40)) ko_X12 rfl w_1095 dX12_settles_43 o1 o2 rfl ?_
    refine V_iload_n dX12_settles_46 rfl ?_
    refine V_iald dX12_settles_47 o6 o7 (o8 c1) ?_
    refine V_aload_n dX12_settles_48 rfl ?_
    refine V_getf (fk := 39) (Value.ref (zR σ v0 39)) ko_X12 rfl w_1094 dX12_settles_49 o1 o2 rfl ?_
    refine V_iload_n dX12_settles_52 rfl ?_
    refine V_iald dX12_settles_53 o9 o10 (o11 c1) ?_
    refine V_aload_n dX12_settles_54 rfl ?_
    refine V_iload_n dX12_settles_55 rfl ?_
    exact (k1 c1)
  · refine V_aload_n dX12_settles_9 rfl ?_
    refine V_aload_n dX12_settles_10 rfl ?_
    refine V_getf (fk := 39) (Value.ref (zR σ v0 39)) ko_X12 rfl w_1094 dX12_settles_11 o1 o2 rfl ?_
    refine V_iload_n dX12_settles_14 rfl ?_
    refine V_iald dX12_settles_15 o9 o10 (o12 c1) ?_
    refine V_aload_n dX12_settles_16 rfl ?_
    refine V_getf (fk := 40) (Value.ref (zR σ v0 40)) ko_X12 rfl w_1095 dX12_settles_17 o1 o2 rfl ?_
    refine V_iload_n dX12_settles_20 rfl ?_
    refine V_iald dX12_settles_21 o6 o7 (o13 c1) ?_
    refine V_aload_n dX12_settles_22 rfl ?_
    refine V_getf (fk := 38) (Value.ref (zR σ v0 38)) ko_X12 rfl w_1093 dX12_settles_23 o1 o2 rfl ?_
    refine V_iload_n dX12_settles_26 rfl ?_
    refine V_iald dX12_settles_27 o14 o15 (o16 c1) ?_
    exact (k2 c1)

set_option maxRecDepth 100000 in
set_option maxHeartbeats 4000000 in
theorem b_X12_clear_0 {g : GP} {CX : State → Array Value → Prop} {E : ET} {v0 : Nat} {σ : AH}
    (o1 : v0 ≠ 0)
    (o2 : zK σ v0 = 12)
    (k1 : V g mX12_clear E CX 0 0 17 [(0, .ref v0), (1, .int (0 : Int32))] [] (uI (uI σ v0 49 (0 : Int32)) v0 43 ((zI σ v0 43) + (1 : Int32)))) :
    V g mX12_clear E CX 0 0 0 [(0, .ref v0)] [] σ := by
  refine V_aload_n dX12_clear_0 rfl ?_
  refine V_iconst (0 : Int32) dX12_clear_1 (by decide) ?_
  refine V_puti (fk := 49) ko_X12 rfl w_1104 (Or.inl rfl) dX12_clear_2 rfl o1 o2 ?_
  refine V_aload_n dX12_clear_5 rfl ?_
  refine V_dup dX12_clear_6 rfl ?_
  refine V_getf (fk := 43) (Value.int (zI σ v0 43)) ko_X12 rfl w_1098 dX12_clear_7 o1 o2 (congrArg Value.int (zI_oth _ _ _ _ _ _ (by decide))) ?_
  refine V_iconst (1 : Int32) dX12_clear_10 (by decide) ?_
  refine V_iadd dX12_clear_11 ?_
  refine V_puti (fk := 43) ko_X12 rfl w_1098 (Or.inl rfl) dX12_clear_12 rfl o1 o2 ?_
  refine V_iconst (0 : Int32) dX12_clear_15 (by decide) ?_
  refine V_istore_n [(0, .ref v0), (1, .int (0 : Int32))] dX12_clear_16 rfl rfl ?_
  exact k1
set_option maxRecDepth 100000 in
set_option maxHeartbeats 4000000 in
theorem b_X12_clear_17 {g : GP} {CX : State → Array Value → Prop} {E : ET} {v0 : Nat} {v1 : Int32} {σ : AH}
    (k1 : ((5 : Int32) ≤ v1) → V g mX12_clear E CX 0 0 37 [(0, .ref v0), (1, .int (0 : Int32))] [] σ)
    (o1 : v0 ≠ 0)
    (o2 : zK σ v0 = 12)
    (o3 : zR σ v0 45 ≠ 0)
    (o4 : zK σ (zR σ v0 45) = 21)
    (o5 : (¬ (5 : Int32) ≤ v1) → vp_in v1 (zL σ (zR σ v0 45)))
    (k2 : (¬ (5 : Int32) ≤ v1) → V g mX12_clear E CX 0 0 17 [(0, .ref v0), (1, .int (v1 + (1 : Int32)))] [] (uJ σ (zR σ v0 45) (Int32.toNatClampNeg v1) (0 : Int64))) :
    V g mX12_clear E CX 0 0 17 [(0, .ref v0), (1, .int v1)] [] σ := by
  refine V_iload_n dX12_clear_17 rfl ?_
  refine V_iconst (5 : Int32) dX12_clear_18 (by decide) ?_
  refine V_icmp_ge 35 dX12_clear_19 rfl (fun c1 => ?_) (fun c1 => ?_)
  · refine V_iconst (0 : Int32) dX12_clear_35 (by decide) ?_
    refine V_istore_n [(0, .ref v0), (1, .int (0 : Int32))] dX12_clear_36 rfl rfl ?_
    exact (k1 c1)
  · refine V_aload_n dX12_clear_22 rfl ?_
    refine V_getf (fk := 45) (Value.ref (zR σ v0 45)) ko_X12 rfl w_1100 dX12_clear_23 o1 o2 rfl ?_
    refine V_iload_n dX12_clear_26 rfl ?_
    refine V_lconst (0 : Int64) dX12_clear_27 (by decide) ?_
    refine V_last dX12_clear_28 o3 o4 (o5 c1) ?_
    refine V_iinc (v1 + (1 : Int32)) [(0, .ref v0), (1, .int (v1 + (1 : Int32)))] dX12_clear_29 rfl rfl rfl rfl ?_
    refine V_goto 17 dX12_clear_32 rfl ?_
    exact (k2 c1)
set_option maxRecDepth 100000 in
set_option maxHeartbeats 4000000 in
theorem b_X12_clear_37 {g : GP} {CX : State → Array Value → Prop} {E : ET} {v0 : Nat} {v1 : Int32} {σ : AH}
    (o1 : v0 ≠ 0)
    (o2 : zK σ v0 = 12)
    (k1 : ((zI σ v0 36) ≤ v1) → V g mX12_clear E CX 0 0 107 [(0, .ref v0), (1, .long (0 : Int64)), (3, .int (0 : Int32))] [] σ)
    (o3 : zR σ v0 37 ≠ 0)
    (o4 : zK σ (zR σ v0 37) = 20)
    (o5 : (¬ (zI σ v0 36) ≤ v1) → vp_in v1 (zL σ (zR σ v0 37)))
    (o6 : zR σ v0 39 ≠ 0)
    (o7 : zK σ (zR σ v0 39) = 20)
    (o8 : (¬ (zI σ v0 36) ≤ v1) → ((zI σ (zR σ v0 37) (Int32.toNatClampNeg v1)) = 0) → vp_in v1 (zL σ (zR σ v0 39)))
    (o9 : zR σ v0 44 ≠ 0)
    (o10 : zK σ (zR σ v0 44) = 22)
    (o11 : (¬ (zI σ v0 36) ≤ v1) → ((zI σ (zR σ v0 37) (Int32.toNatClampNeg v1)) = 0) → vp_in (zI σ (zR σ v0 39) (Int32.toNatClampNeg v1)) (zL σ (zR σ v0 44)))
    (k2 : (¬ (zI σ v0 36) ≤ v1) → ((zI σ (zR σ v0 37) (Int32.toNatClampNeg v1)) = 0) → (¬ (zI σ (zR σ v0 44) (Int32.toNatClampNeg (zI σ (zR σ v0 39) (Int32.toNatClampNeg v1)))) = 0) → V g mX12_clear E CX 0 0 37 [(0, .ref v0), (1, .int (v1 + (1 : Int32)))] [] σ)
    (o12 : zR σ v0 40 ≠ 0)
    (o13 : zK σ (zR σ v0 40) = 20)
    (o14 : (¬ (zI σ v0 36) ≤ v1) → ((zI σ (zR σ v0 37) (Int32.toNatClampNeg v1)) = 0) → ((zI σ (zR σ v0 44) (Int32.toNatClampNeg (zI σ (zR σ v0 39) (Int32.toNatClampNeg v1)))) = 0) → vp_in v1 (zL σ (zR σ v0 40)))
    (o15 : (¬ (zI σ v0 36) ≤ v1) → ((zI σ (zR σ v0 37) (Int32.toNatClampNeg v1)) = 0) → ((zI σ (zR σ v0 44) (Int32.toNatClampNeg (zI σ (zR σ v0 39) (Int32.toNatClampNeg v1)))) = 0) → vp_in (zI σ (zR σ v0 40) (Int32.toNatClampNeg v1)) (zL σ (zR σ v0 44)))
    (k3 : (¬ (zI σ v0 36) ≤ v1) → ((zI σ (zR σ v0 37) (Int32.toNatClampNeg v1)) = 0) → ((zI σ (zR σ v0 44) (Int32.toNatClampNeg (zI σ (zR σ v0 39) (Int32.toNatClampNeg v1)))) = 0) → (¬ (zI σ (zR σ v0 44) (Int32.toNatClampNeg (zI σ (zR σ v0 40) (Int32.toNatClampNeg v1)))) = 0) → V g mX12_clear E CX 0 0 37 [(0, .ref v0), (1, .int (v1 + (1 : Int32)))] [] σ)
    (k4 : (¬ (zI σ v0 36) ≤ v1) → ((zI σ (zR σ v0 37) (Int32.toNatClampNeg v1)) = 0) → ((zI σ (zR σ v0 44) (Int32.toNatClampNeg (zI σ (zR σ v0 39) (Int32.toNatClampNeg v1)))) = 0) → ((zI σ (zR σ v0 44) (Int32.toNatClampNeg (zI σ (zR σ v0 40) (Int32.toNatClampNeg v1)))) = 0) → V g mX12_clear E CX 0 0 94 [(0, .ref v0), (1, .int v1)] [.int v1, .ref v0] σ)
    (k5 : (¬ (zI σ v0 36) ≤ v1) → (¬ (zI σ (zR σ v0 37) (Int32.toNatClampNeg v1)) = 0) → (¬ (zI σ (zR σ v0 37) (Int32.toNatClampNeg v1)) = (2 : Int32)) → V g mX12_clear E CX 0 0 37 [(0, .ref v0), (1, .int (v1 + (1 : Int32)))] [] σ)
    (o16 : (¬ (zI σ v0 36) ≤ v1) → (¬ (zI σ (zR σ v0 37) (Int32.toNatClampNeg v1)) = 0) → ((zI σ (zR σ v0 37) (Int32.toNatClampNeg v1)) = (2 : Int32)) → vp_in v1 (zL σ (zR σ v0 39)))
    (o17 : (¬ (zI σ v0 36) ≤ v1) → (¬ (zI σ (zR σ v0 37) (Int32.toNatClampNeg v1)) = 0) → ((zI σ (zR σ v0 37) (Int32.toNatClampNeg v1)) = (2 : Int32)) → vp_in (zI σ (zR σ v0 39) (Int32.toNatClampNeg v1)) (zL σ (zR σ v0 44)))
    (k6 : (¬ (zI σ v0 36) ≤ v1) → (¬ (zI σ (zR σ v0 37) (Int32.toNatClampNeg v1)) = 0) → ((zI σ (zR σ v0 37) (Int32.toNatClampNeg v1)) = (2 : Int32)) → (¬ (zI σ (zR σ v0 44) (Int32.toNatClampNeg (zI σ (zR σ v0 39) (Int32.toNatClampNeg v1)))) = 0) → V g mX12_clear E CX 0 0 37 [(0, .ref v0), (1, .int (v1 + (1 : Int32)))] [] σ)
    (o18 : (¬ (zI σ v0 36) ≤ v1) → (¬ (zI σ (zR σ v0 37) (Int32.toNatClampNeg v1)) = 0) → ((zI σ (zR σ v0 37) (Int32.toNatClampNeg v1)) = (2 : Int32)) → ((zI σ (zR σ v0 44) (Int32.toNatClampNeg (zI σ (zR σ v0 39) (Int32.toNatClampNeg v1)))) = 0) → vp_in v1 (zL σ (zR σ v0 40)))
    (o19 : (¬ (zI σ v0 36) ≤ v1) → (¬ (zI σ (zR σ v0 37) (Int32.toNatClampNeg v1)) = 0) → ((zI σ (zR σ v0 37) (Int32.toNatClampNeg v1)) = (2 : Int32)) → ((zI σ (zR σ v0 44) (Int32.toNatClampNeg (zI σ (zR σ v0 39) (Int32.toNatClampNeg v1)))) = 0) → vp_in (zI σ (zR σ v0 40) (Int32.toNatClampNeg v1)) (zL σ (zR σ v0 44)))
    (k7 : (¬ (zI σ v0 36) ≤ v1) → (¬ (zI σ (zR σ v0 37) (Int32.toNatClampNeg v1)) = 0) → ((zI σ (zR σ v0 37) (Int32.toNatClampNeg v1)) = (2 : Int32)) → ((zI σ (zR σ v0 44) (Int32.toNatClampNeg (zI σ (zR σ v0 39) (Int32.toNatClampNeg v1)))) = 0) → (¬ (zI σ (zR σ v0 44) (Int32.toNatClampNeg (zI σ (zR σ v0 40) (Int32.toNatClampNeg v1)))) = 0) → V g mX12_clear E CX 0 0 37 [(0, .ref v0), (1, .int (v1 + (1 : Int32)))] [] σ)
    (k8 : (¬ (zI σ v0 36) ≤ v1) → (¬ (zI σ (zR σ v0 37) (Int32.toNatClampNeg v1)) = 0) → ((zI σ (zR σ v0 37) (Int32.toNatClampNeg v1)) = (2 : Int32)) → ((zI σ (zR σ v0 44) (Int32.toNatClampNeg (zI σ (zR σ v0 39) (Int32.toNatClampNeg v1)))) = 0) → ((zI σ (zR σ v0 44) (Int32.toNatClampNeg (zI σ (zR σ v0 40) (Int32.toNatClampNeg v1)))) = 0) → V g mX12_clear E CX 0 0 94 [(0, .ref v0), (1, .int v1)] [.int v1, .ref v0] σ) :
    V g mX12_clear E CX 0 0 37 [(0, .ref v0), (1, .int v1)] [] σ := by
  refine V_iload_n dX12_clear_37 rfl ?_
  refine V_aload_n dX12_clear_38 rfl ?_
  refine V_getf (fk := 36) (Value.int (zI σ v0 36)) ko_X12 rfl w_1091 dX12_clear_39 o1 o2 rfl ?_
  refine V_icmp_ge 103 dX12_clear_42 rfl (fun c1 => ?_) (fun c1 => ?_)
  · refine V_lconst (0 : Int64) dX12_clear_103 (by decide) ?_
    refine V_lstore_n [(0, .ref v0), (1, .long (0 : Int64))] dX12_clear_104 rfl rfl ?_
    refine V_iconst (0 : Int32) dX12_clear_105 (by decide) ?_
    refine V_istore_n [(0, .ref v0), (1, .long (0 : Int64)), (3, .int (0 : Int32))] dX12_clear_106 rfl rfl ?_
    exact (k1 c1)
  · refine V_aload_n dX12_clear_45 rfl ?_
    refine V_getf (fk := 37) (Value.ref (zR σ v0 37)) ko_X12 rfl w_1092 dX12_clear_46 o1 o2 rfl ?_
    refine V_iload_n dX12_clear_49 rfl ?_
    refine V_iald dX12_clear_50 o3 o4 (o5 c1) ?_
    refine V_if_eq 64 dX12_clear_51 rfl (fun c2 => ?_) (fun c2 => ?_)
    · refine V_aload_n dX12_clear_64 rfl ?_
      refine V_getf (fk := 44) (Value.ref (zR σ v0 44)) ko_X12 rfl w_1099 dX12_clear_65 o1 o2 rfl ?_
      refine V_aload_n dX12_clear_68 rfl ?_
      refine V_getf (fk := 39) (Value.ref (zR σ v0 39)) ko_X12 rfl w_1094 dX12_clear_69 o1 o2 rfl ?_
      refine V_iload_n dX12_clear_72 rfl ?_
      refine V_iald dX12_clear_73 o6 o7 (o8 c1 c2) ?_
      refine V_zald dX12_clear_74 o9 o10 (o11 c1 c2) ?_
      refine V_if_ne 97 dX12_clear_75 rfl (fun c3 => ?_) (fun c3 => ?_)
      · refine V_iinc (v1 + (1 : Int32)) [(0, .ref v0), (1, .int (v1 + (1 : Int32)))] dX12_clear_97 rfl rfl rfl rfl ?_
        refine V_goto 37 dX12_clear_100 rfl ?_
        exact (k2 c1 c2 c3)
      · refine V_aload_n dX12_clear_78 rfl ?_
        refine V_getf (fk := 44) (Value.ref (zR σ v0 44)) ko_X12 rfl w_1099 dX12_clear_79 o1 o2 rfl ?_
        refine V_aload_n dX12_clear_82 rfl ?_
        refine V_getf (fk := 40) (Value.ref (zR σ v0 40)) ko_X12 rfl w_1095 dX12_clear_83 o1 o2 rfl ?_
        refine V_iload_n dX12_clear_86 rfl ?_
        refine V_iald dX12_clear_87 o12 o13 (o14 c1 c2 c3) ?_
        refine V_zald dX12_clear_88 o9 o10 (o15 c1 c2 c3) ?_
        refine V_if_ne 97 dX12_clear_89 rfl (fun c4 => ?_) (fun c4 => ?_)
        · refine V_iinc (v1 + (1 : Int32)) [(0, .ref v0), (1, .int (v1 + (1 : Int32)))] dX12_clear_97 rfl rfl rfl rfl ?_
          refine V_goto 37 dX12_clear_100 rfl ?_
          exact (k3 c1 c2 c3 c4)
        · refine V_aload_n dX12_clear_92 rfl ?_
          refine V_iload_n dX12_clear_93 rfl ?_
          exact (k4 c1 c2 c3 c4)
    · refine V_aload_n dX12_clear_54 rfl ?_
      refine V_getf (fk := 37) (Value.ref (zR σ v0 37)) ko_X12 rfl w_1092 dX12_clear_55 o1 o2 rfl ?_
      refine V_iload_n dX12_clear_58 rfl ?_
      refine V_iald dX12_clear_59 o3 o4 (o5 c1) ?_
      refine V_iconst (2 : Int32) dX12_clear_60 (by decide) ?_
      refine V_icmp_ne 97 dX12_clear_61 rfl (fun c5 => ?_) (fun c5 => ?_)
      · refine V_iinc (v1 + (1 : Int32)) [(0, .ref v0), (1, .int (v1 + (1 : Int32)))] dX12_clear_97 rfl rfl rfl rfl ?_
        refine V_goto 37 dX12_clear_100 rfl ?_
        exact (k5 c1 c2 c5)
      · refine V_aload_n dX12_clear_64 rfl ?_
        refine V_getf (fk := 44) (Value.ref (zR σ v0 44)) ko_X12 rfl w_1099 dX12_clear_65 o1 o2 rfl ?_
        refine V_aload_n dX12_clear_68 rfl ?_
        refine V_getf (fk := 39) (Value.ref (zR σ v0 39)) ko_X12 rfl w_1094 dX12_clear_69 o1 o2 rfl ?_
        refine V_iload_n dX12_clear_72 rfl ?_
        refine V_iald dX12_clear_73 o6 o7 (o16 c1 c2 c5) ?_
        refine V_zald dX12_clear_74 o9 o10 (o17 c1 c2 c5) ?_
        refine V_if_ne 97 dX12_clear_75 rfl (fun c6 => ?_) (fun c6 => ?_)
        · refine V_iinc (v1 + (1 : Int32)) [(0, .ref v0), (1, .int (v1 + (1 : Int32)))] dX12_clear_97 rfl rfl rfl rfl ?_
          refine V_goto 37 dX12_clear_100 rfl ?_
          exact (k6 c1 c2 c5 c6)
        · refine V_aload_n dX12_clear_78 rfl ?_
          refine V_getf (fk := 44) (Value.ref (zR σ v0 44)) ko_X12 rfl w_1099 dX12_clear_79 o1 o2 rfl ?_
          refine V_aload_n dX12_clear_82 rfl ?_
          refine V_getf (fk := 40) (Value.ref (zR σ v0 40)) ko_X12 rfl w_1095 dX12_clear_83 o1 o2 rfl ?_
          refine V_iload_n dX12_clear_86 rfl ?_
          refine V_iald dX12_clear_87 o12 o13 (o18 c1 c2 c5 c6) ?_
          refine V_zald dX12_clear_88 o9 o10 (o19 c1 c2 c5 c6) ?_
          refine V_if_ne 97 dX12_clear_89 rfl (fun c7 => ?_) (fun c7 => ?_)
          · refine V_iinc (v1 + (1 : Int32)) [(0, .ref v0), (1, .int (v1 + (1 : Int32)))] dX12_clear_97 rfl rfl rfl rfl ?_
            refine V_goto 37 dX12_clear_100 rfl ?_
            exact (k7 c1 c2 c5 c6 c7)
          · refine V_aload_n dX12_clear_92 rfl ?_
            refine V_iload_n dX12_clear_93 rfl ?_
            exact (k8 c1 c2 c5 c6 c7)
set_option maxRecDepth 100000 in
set_option maxHeartbeats 4000000 in
theorem b_X12_clear_107 {g : GP} {CX : State → Array Value → Prop} {Q : AH → Option Value → Prop} {X : AH → String → Prop} {v0 : Nat} {v1 : Int64} {v3 : Int32} {σ : AH}
    (k1 : ((5 : Int32) ≤ v3) → Q σ (some (.long v1)))
    (o1 : v0 ≠ 0)
    (o2 : zK σ v0 = 12)
    (o3 : zR σ v0 45 ≠ 0)
    (o4 : zK σ (zR σ v0 45) = 21)
    (o5 : (¬ (5 : Int32) ≤ v3) → vp_in v3 (zL σ (zR σ v0 45)))
    (k2 : (¬ (5 : Int32) ≤ v3) → ((lg_cmp (zJ σ (zR σ v0 45) (Int32.toNatClampNeg v3)) (0 : Int64)) ≤ 0) → V g mX12_clear (Em g mX12_clear Q X) CX 0 0 107 [(0, .ref v0), (1, .long (v1 + (0 : Int64))), (3, .int (v3 + (1 : Int32)))] [] σ)
    (k3 : (¬ (5 : Int32) ≤ v3) → (¬ (lg_cmp (zJ σ (zR σ v0 45) (Int32.toNatClampNeg v3)) (0 : Int64)) ≤ 0) → V g mX12_clear (Em g mX12_clear Q X) CX 0 0 107 [(0, .ref v0), (1, .long (v1 + (zJ σ (zR σ v0 45) (Int32.toNatClampNeg v3)))), (3, .int (v3 + (1 : Int32)))] [] σ) :
    V g mX12_clear (Em g mX12_clear Q X) CX 0 0 107 [(0, .ref v0), (1, .long v1), (3, .int v3)] [] σ := by
  refine V_iload_n dX12_clear_107 rfl ?_
  refine V_iconst (5 : Int32) dX12_clear_108 (by decide) ?_
  refine V_icmp_ge 142 dX12_clear_109 rfl (fun c1 => ?_) (fun c1 => ?_)
  · refine V_lload_n dX12_clear_142 rfl ?_
    exact V_lret rfl dX12_clear_143 (k1 c1)
  · refine V_lload_n dX12_clear_112 rfl ?_
    refine V_aload_n dX12_clear_113 rfl ?_
    refine V_getf (fk := 45) (Value.ref (zR σ v0 45)) ko_X12 rfl w_1100 dX12_clear_114 o1 o2 rfl ?_
    refine V_iload_n dX12_clear_117 rfl ?_
    refine V_lald dX12_clear_118 o3 o4 (o5 c1) ?_
    refine V_lconst (0 : Int64) dX12_clear_119 (by decide) ?_
    refine V_lcmp dX12_clear_120 ?_
    refine V_if_le 133 dX12_clear_121 rfl (fun c2 => ?_) (fun c2 => ?_)
    · refine V_lconst (0 : Int64) dX12_clear_133 (by decide) ?_
      refine V_ladd dX12_clear_134 ?_
      refine V_lstore_n [(0, .ref v0), (1, .long (v1 + (0 : Int64))), (3, .int v3)] dX12_clear_135 rfl rfl ?_
      refine V_iinc (v3 + (1 : Int32)) [(0, .ref v0), (1, .long (v1 + (0 : Int64))), (3, .int (v3 + (1 : Int32)))] dX12_clear_136 rfl rfl rfl rfl ?_
      refine V_goto 107 dX12_clear_139 rfl ?_
      exact (k2 c1 c2)
    · refine V_aload_n dX12_clear_124 rfl ?_
      refine V_getf (fk := 45) (Value.ref (zR σ v0 45)) ko_X12 rfl w_1100 dX12_clear_125 o1 o2 rfl ?_
      refine V_iload_n dX12_clear_128 rfl ?_
      refine V_lald dX12_clear_129 o3 o4 (o5 c1) ?_
      refine V_goto 134 dX12_clear_130 rfl ?_
      refine V_ladd dX12_clear_134 ?_
      refine V_lstore_n [(0, .ref v0), (1, .long (v1 + (zJ σ (zR σ v0 45) (Int32.toNatClampNeg v3)))), (3, .int v3)] dX12_clear_135 rfl rfl ?_
      refine V_iinc (v3 + (1 : Int32)) [(0, .ref v0), (1, .long (v1 + (zJ σ (zR σ v0 45) (Int32.toNatClampNeg v3)))), (3, .int (v3 + (1 : Int32)))] dX12_clear_136 rfl rfl rfl rfl ?_
      refine V_goto 107 dX12_clear_139 rfl ?_
      exact (k3 c1 c2)

set_option maxRecDepth 100000 in
set_option maxHeartbeats 4000000 in
theorem b_X12_isBill_0 {g : GP} {CX : State → Array Value → Prop} {E : ET} {v0 : Nat} {v1 : Int32} {σ : AH}
    (o1 : v0 ≠ 0)
    (o2 : zK σ v0 = 12)
    (k1 : V g mX12_isBill E CX 0 0 8 [(0, .ref v0), (1, .int v1)] [.int ((zI σ v0 36) - (1 : Int32)), .int (0 : Int32), .int v1] σ) :
    V g mX12_isBill E CX 0 0 0 [(0, .ref v0), (1, .int v1)] [] σ := by
  refine V_iload_n dX12_isBill_0 rfl ?_
  refine V_iconst (0 : Int32) dX12_isBill_1 (by decide) ?_
  refine V_aload_n dX12_isBill_2 rfl ?_
  refine V_getf (fk := 36) (Value.int (zI σ v0 36)) ko_X12 rfl w_1091 dX12_isBill_3 o1 o2 rfl ?_
  refine V_iconst (1 : Int32) dX12_isBill_6 (by decide) ?_
  refine V_isub dX12_isBill_7 ?_
  exact k1

set_option maxRecDepth 100000 in
set_option maxHeartbeats 4000000 in
theorem b_X12_reject_0 {g : GP} {CX : State → Array Value → Prop} {E : ET} {v0 : Nat} {v1 : Int32} {σ : AH}
    (k1 : V g mX12_reject E CX 0 0 2 [(0, .ref v0), (1, .int v1)] [.int v1, .ref v0] σ) :
    V g mX12_reject E CX 0 0 0 [(0, .ref v0), (1, .int v1)] [] σ := by
  refine V_aload_n dX12_reject_0 rfl ?_
  refine V_iload_n dX12_reject_1 rfl ?_
  exact k1

set_option maxRecDepth 100000 in
set_option maxHeartbeats 4000000 in
theorem b_X12_rebill_0 {g : GP} {CX : State → Array Value → Prop} {E : ET} {v0 : Nat} {v1 : Int32} {σ : AH}
    (k1 : V g mX12_rebill E CX 0 0 2 [(0, .ref v0), (1, .int v1)] [.int v1, .ref v0] σ) :
    V g mX12_rebill E CX 0 0 0 [(0, .ref v0), (1, .int v1)] [] σ := by
  refine V_aload_n dX12_rebill_0 rfl ?_
  refine V_iload_n dX12_rebill_1 rfl ?_
  exact k1

set_option maxRecDepth 100000 in
set_option maxHeartbeats 4000000 in
theorem b_X12_undoes_0 {g : GP} {CX : State → Array Value → Prop} {E : ET} {v0 : Nat} {v1 : Int32} {σ : AH}
    (o1 : v0 ≠ 0)
    (o2 : zK σ v0 = 12)
    (o3 : zR σ v0 37 ≠ 0)
    (o4 : zK σ (zR σ v0 37) = 20)
    (o5 : vp_in v1 (zL σ (zR σ v0 37)))
    (o6 : zR σ v0 39 ≠ 0)
    (o7 : zK σ (zR σ v0 39) = 20)
    (o8 : (¬ (zI σ (zR σ v0 37) (Int32.toNatClampNeg v1)) = (1 : Int32)) → vp_in v1 (zL σ (zR σ v0 39)))
    (o9 : zR σ v0 40 ≠ 0)
    (o10 : zK σ (zR σ v0 40) = 20)
    (o11 : (¬ (zI σ (zR σ v0 37) (Int32.toNatClampNeg v1)) = (1 : Int32)) → vp_in v1 (zL σ (zR σ v0 40)))
    (k1 : (¬ (zI σ (zR σ v0 37) (Int32.toNatClampNeg v1)) = (1 : Int32)) → V g mX12_undoes E CX 0 0 57 [(0, .ref v0), (1, .int v1)] [.int v1, .ref v0, .int (zI σ (zR σ v0 40) (Int32.toNatClampNeg v1)), .int (zI σ (zR σ v0 39) (Int32.toNatClampNeg v1)), .ref v0] σ)
    (o12 : ((zI σ (zR σ v0 37) (Int32.toNatClampNeg v1)) = (1 : Int32)) → vp_in v1 (zL σ (zR σ v0 40)))
    (o13 : ((zI σ (zR σ v0 37) (Int32.toNatClampNeg v1)) = (1 : Int32)) → vp_in v1 (zL σ (zR σ v0 39)))
    (o14 : zR σ v0 38 ≠ 0)
    (o15 : zK σ (zR σ v0 38) = 20)
    (o16 : ((zI σ (zR σ v0 37) (Int32.toNatClampNeg v1)) = (1 : Int32)) → vp_in v1 (zL σ (zR σ v0 38)))
    (k2 : ((zI σ (zR σ v0 37) (Int32.toNatClampNeg v1)) = (1 : Int32)) → V g mX12_undoes E CX 0 0 29 [(0, .ref v0), (1, .int v1)] [.int (zI σ (zR σ v0 38) (Int32.toNatClampNeg v1)), .int (zI σ (zR σ v0 39) (Int32.toNatClampNeg v1)), .int (zI σ (zR σ v0 40) (Int32.toNatClampNeg v1)), .ref v0] σ) :
    V g mX12_undoes E CX 0 0 0 [(0, .ref v0), (1, .int v1)] [] σ := by
  refine V_aload_n dX12_undoes_0 rfl ?_
  refine V_getf (fk := 37) (Value.ref (zR σ v0 37)) ko_X12 rfl w_1092 dX12_undoes_1 o1 o2 rfl ?_
  refine V_iload_n dX12_undoes_4 rfl ?_
  refine V_iald dX12_undoes_5 o3 o4 o5 ?_
  refine V_iconst (1 : Int32) dX12_undoes_6 (by decide) ?_
  refine V_icmp_ne 42 dX12_undoes_7 rfl (fun c1 => ?_) (fun c1 => ?_)
  · refine V_aload_n dX12_undoes_42 rfl ?_
    refine V_aload_n dX12_undoes_43 rfl ?_
    refine V_getf (fk := 39) (Value.ref (zR σ v0 39)) ko_X12 rfl w_1094 dX12_undoes_44 o1 o2 rfl ?_
    refine V_iload_n dX12_undoes_47 rfl ?_
    refine V_iald dX12_undoes_48 o6 o7 (o8 c1) ?_
    refine V_aload_n dX12_undoes_49 rfl ?_
    refine V_getf (fk := 40) (Value.ref (zR σ v0 40)) ko_X12 rfl w_1095 dX12_undoes_50 o1 o2 rfl ?_
    refine V_iload_n dX12_undoes_53 rfl ?_
    refine V_iald dX12_undoes_54 o9 o10 (o11 c1) ?_
    refine V_aload_n dX12_undoes_55 rfl ?_
    refine V_iload_n dX12_undoes_56 rfl ?_
    exact (k1 c1)
  · refine V_aload_n dX12_undoes_10 rfl ?_
    refine V_aload_n dX12_undoes_11 rfl ?_
    refine V_getf (fk := 40) (Value.ref (zR σ v0 40)) ko_X12 rfl w_1095 dX12_undoes_12 o1 o2 rfl ?_
    refine V_iload_n dX12_undoes_15 rfl ?_
    refine V_iald dX12_undoes_16 o9 o10 (o12 c1) ?_
    refine V_aload_n dX12_undoes_17 rfl ?_
    refine V_getf (fk := 39) (Value.ref (zR σ v0 39)) ko_X12 rfl w_1094 dX12_undoes_18 o1 o2 rfl ?_
    refine V_iload_n dX12_undoes_21 rfl ?_
    refine V_iald dX12_undoes_22 o6 o7 (o13 c1) ?_
    refine V_aload_n dX12_undoes_23 rfl ?_
    refine V_getf (fk := 38) (Value.ref (zR σ v0 38)) ko_X12 rfl w_1093 dX12_undoes_24 o1 o2 rfl ?_
    refine V_iload_n dX12_undoes_27 rfl ?_
    refine V_iald dX12_undoes_28 o14 o15 (o16 c1) ?_
    exact (k2 c1)

set_option maxRecDepth 100000 in
set_option maxHeartbeats 4000000 in
theorem b_X12_fails_0 {g : GP} {CX : State → Array Value → Prop} {E : ET} {v0 : Nat} {v1 : Int32} {v2 : Int32} {σ : AH}
    (k1 : V g mX12_fails E CX 0 0 2 [(0, .ref v0), (1, .int v1), (2, .int v2)] [.int v1, .ref v0] σ) :
    V g mX12_fails E CX 0 0 0 [(0, .ref v0), (1, .int v1), (2, .int v2)] [] σ := by
  refine V_aload_n dX12_fails_0 rfl ?_
  refine V_iload_n dX12_fails_1 rfl ?_
  exact k1

set_option maxRecDepth 100000 in
set_option maxHeartbeats 4000000 in
theorem b_X12_ofTicket_0 {g : GP} {CX : State → Array Value → Prop} {E : ET} {v0 : Nat} {v1 : Int32} {v2 : Int32} {σ : AH}
    (k1 : V g mX12_ofTicket E CX 0 0 3 [(0, .ref v0), (1, .int v1), (2, .int v2)] [.int v1, .ref v0, .ref v0] σ) :
    V g mX12_ofTicket E CX 0 0 0 [(0, .ref v0), (1, .int v1), (2, .int v2)] [] σ := by
  refine V_aload_n dX12_ofTicket_0 rfl ?_
  refine V_aload_n dX12_ofTicket_1 rfl ?_
  refine V_iload_n dX12_ofTicket_2 rfl ?_
  exact k1

set_option maxRecDepth 100000 in
set_option maxHeartbeats 4000000 in
theorem b_X12_ofCoupon_0 {g : GP} {CX : State → Array Value → Prop} {E : ET} {v0 : Nat} {v1 : Int32} {v2 : Int32} {v3 : Int32} {σ : AH}
    (k1 : V g mX12_ofCoupon E CX 0 0 4 [(0, .ref v0), (1, .int v1), (2, .int v2), (3, .int v3)] [.int v2, .int v1, .ref v0, .ref v0] σ) :
    V g mX12_ofCoupon E CX 0 0 0 [(0, .ref v0), (1, .int v1), (2, .int v2), (3, .int v3)] [] σ := by
  refine V_aload_n dX12_ofCoupon_0 rfl ?_
  refine V_aload_n dX12_ofCoupon_1 rfl ?_
  refine V_iload_n dX12_ofCoupon_2 rfl ?_
  refine V_iload_n dX12_ofCoupon_3 rfl ?_
  exact k1

set_option maxRecDepth 100000 in
set_option maxHeartbeats 4000000 in
theorem b_X12_ofBill_0 {g : GP} {CX : State → Array Value → Prop} {E : ET} {v0 : Nat} {v1 : Int32} {v2 : Int32} {σ : AH}
    (k1 : V g mX12_ofBill E CX 0 0 3 [(0, .ref v0), (1, .int v1), (2, .int v2)] [.int v1, .ref v0, .ref v0] σ) :
    V g mX12_ofBill E CX 0 0 0 [(0, .ref v0), (1, .int v1), (2, .int v2)] [] σ := by
  refine V_aload_n dX12_ofBill_0 rfl ?_
  refine V_aload_n dX12_ofBill_1 rfl ?_
  refine V_iload_n dX12_ofBill_2 rfl ?_
  exact k1

set_option maxRecDepth 100000 in
set_option maxHeartbeats 4000000 in
theorem b_X12_cash_0 {g : GP} {CX : State → Array Value → Prop} {E : ET} {v0 : Nat} {v1 : Int32} {σ : AH}
    (k1 : V g mX12_cash E CX 0 0 2 [(0, .ref v0), (1, .int v1)] [.int v1, .ref v0] σ) :
    V g mX12_cash E CX 0 0 0 [(0, .ref v0), (1, .int v1)] [] σ := by
  refine V_aload_n dX12_cash_0 rfl ?_
  refine V_iload_n dX12_cash_1 rfl ?_
  exact k1

set_option maxRecDepth 100000 in
set_option maxHeartbeats 4000000 in
theorem b_X12_cashAnew_0 {g : GP} {CX : State → Array Value → Prop} {E : ET} {v0 : Nat} {v1 : Int32} {σ : AH}
    (k1 : V g mX12_cashAnew E CX 0 0 2 [(0, .ref v0), (1, .int v1)] [.int v1, .ref v0] σ) :
    V g mX12_cashAnew E CX 0 0 0 [(0, .ref v0), (1, .int v1)] [] σ := by
  refine V_aload_n dX12_cashAnew_0 rfl ?_
  refine V_iload_n dX12_cashAnew_1 rfl ?_
  exact k1

set_option maxRecDepth 100000 in
set_option maxHeartbeats 4000000 in
theorem b_X12_state_0 {g : GP} {CX : State → Array Value → Prop} {E : ET} {v0 : Nat} {v1 : Int32} {σ : AH}
    (k1 : V g mX12_state E CX 0 0 2 [(0, .ref v0), (1, .int v1)] [.int v1, .ref v0] σ) :
    V g mX12_state E CX 0 0 0 [(0, .ref v0), (1, .int v1)] [] σ := by
  refine V_aload_n dX12_state_0 rfl ?_
  refine V_iload_n dX12_state_1 rfl ?_
  exact k1

set_option maxRecDepth 100000 in
set_option maxHeartbeats 4000000 in
theorem b_X12_paid_0 {g : GP} {CX : State → Array Value → Prop} {Q : AH → Option Value → Prop} {X : AH → String → Prop} {v0 : Nat} {σ : AH}
    (o1 : v0 ≠ 0)
    (o2 : zK σ v0 = 12)
    (k1 : Q (uI σ v0 49 (0 : Int32)) (some (.long (zJ σ v0 48)))) :
    V g mX12_paid (Em g mX12_paid Q X) CX 0 0 0 [(0, .ref v0)] [] σ := by
  refine V_aload_n dX12_paid_0 rfl ?_
  refine V_iconst (0 : Int32) dX12_paid_1 (by decide) ?_
  refine V_puti (fk := 49) ko_X12 rfl w_1104 (Or.inl rfl) dX12_paid_2 rfl o1 o2 ?_
  refine V_aload_n dX12_paid_5 rfl ?_
  refine V_getf (fk := 48) (Value.long (zJ σ v0 48)) ko_X12 rfl w_1103 dX12_paid_6 o1 o2 rfl ?_
  exact V_lret rfl dX12_paid_9 k1

set_option maxRecDepth 100000 in
set_option maxHeartbeats 4000000 in
theorem b_X12_defaults_0 {g : GP} {CX : State → Array Value → Prop} {E : ET} {v0 : Nat} {σ : AH}
    (k1 : V g mX12_defaults E CX 0 0 4 [(0, .ref v0), (1, .int (0 : Int32)), (2, .int (0 : Int32))] [] σ) :
    V g mX12_defaults E CX 0 0 0 [(0, .ref v0)] [] σ := by
  refine V_iconst (0 : Int32) dX12_defaults_0 (by decide) ?_
  refine V_istore_n [(0, .ref v0), (1, .int (0 : Int32))] dX12_defaults_1 rfl rfl ?_
  refine V_iconst (0 : Int32) dX12_defaults_2 (by decide) ?_
  refine V_istore_n [(0, .ref v0), (1, .int (0 : Int32)), (2, .int (0 : Int32))] dX12_defaults_3 rfl rfl ?_
  exact k1
set_option maxRecDepth 100000 in
set_option maxHeartbeats 4000000 in
theorem b_X12_defaults_4 {g : GP} {CX : State → Array Value → Prop} {Q : AH → Option Value → Prop} {X : AH → String → Prop} {v0 : Nat} {v1 : Int32} {v2 : Int32} {σ : AH}
    (k1 : ((5 : Int32) ≤ v2) → Q σ (some (.int v1)))
    (o1 : v0 ≠ 0)
    (o2 : zK σ v0 = 12)
    (o3 : zR σ v0 44 ≠ 0)
    (o4 : zK σ (zR σ v0 44) = 22)
    (o5 : (¬ (5 : Int32) ≤ v2) → vp_in v2 (zL σ (zR σ v0 44)))
    (k2 : (¬ (5 : Int32) ≤ v2) → ((zI σ (zR σ v0 44) (Int32.toNatClampNeg v2)) = 0) → V g mX12_defaults (Em g mX12_defaults Q X) CX 0 0 4 [(0, .ref v0), (1, .int (v1 ||| (0 : Int32))), (2, .int (v2 + (1 : Int32)))] [] σ)
    (k3 : (¬ (5 : Int32) ≤ v2) → (¬ (zI σ (zR σ v0 44) (Int32.toNatClampNeg v2)) = 0) → V g mX12_defaults (Em g mX12_defaults Q X) CX 0 0 4 [(0, .ref v0), (1, .int (v1 ||| ((1 : Int32) <<< (v2 &&& 31)))), (2, .int (v2 + (1 : Int32)))] [] σ) :
    V g mX12_defaults (Em g mX12_defaults Q X) CX 0 0 4 [(0, .ref v0), (1, .int v1), (2, .int v2)] [] σ := by
  refine V_iload_n dX12_defaults_4 rfl ?_
  refine V_iconst (5 : Int32) dX12_defaults_5 (by decide) ?_
  refine V_icmp_ge 34 dX12_defaults_6 rfl (fun c1 => ?_) (fun c1 => ?_)
  · refine V_iload_n dX12_defaults_34 rfl ?_
    exact V_iret rfl dX12_defaults_35 (k1 c1)
  · refine V_iload_n dX12_defaults_9 rfl ?_
    refine V_aload_n dX12_defaults_10 rfl ?_
    refine V_getf (fk := 44) (Value.ref (zR σ v0 44)) ko_X12 rfl w_1099 dX12_defaults_11 o1 o2 rfl ?_
    refine V_iload_n dX12_defaults_14 rfl ?_
    refine V_zald dX12_defaults_15 o3 o4 (o5 c1) ?_
    refine V_if_eq 25 dX12_defaults_16 rfl (fun c2 => ?_) (fun c2 => ?_)
    · refine V_iconst (0 : Int32) dX12_defaults_25 (by decide) ?_
      refine V_ior dX12_defaults_26 ?_
      refine V_istore_n [(0, .ref v0), (1, .int (v1 ||| (0 : Int32))), (2, .int v2)] dX12_defaults_27 rfl rfl ?_
      refine V_iinc (v2 + (1 : Int32)) [(0, .ref v0), (1, .int (v1 ||| (0 : Int32))), (2, .int (v2 + (1 : Int32)))] dX12_defaults_28 rfl rfl rfl rfl ?_
      refine V_goto 4 dX12_defaults_31 rfl ?_
      exact (k2 c1 c2)
    · refine V_iconst (1 : Int32) dX12_defaults_19 (by decide) ?_
      refine V_iload_n dX12_defaults_20 rfl ?_
      refine V_ishl dX12_defaults_21 ?_
      refine V_goto 26 dX12_defaults_22 rfl ?_
      refine V_ior dX12_defaults_26 ?_
      refine V_istore_n [(0, .ref v0), (1, .int (v1 ||| ((1 : Int32) <<< (v2 &&& 31)))), (2, .int v2)] dX12_defaults_27 rfl rfl ?_
      refine V_iinc (v2 + (1 : Int32)) [(0, .ref v0), (1, .int (v1 ||| ((1 : Int32) <<< (v2 &&& 31)))), (2, .int (v2 + (1 : Int32)))] dX12_defaults_28 rfl rfl rfl rfl ?_
      refine V_goto 4 dX12_defaults_31 rfl ?_
      exact (k3 c1 c2)

set_option maxRecDepth 100000 in
set_option maxHeartbeats 4000000 in
theorem b_X12_of_0 {g : GP} {CX : State → Array Value → Prop} {E : ET} {v0 : Nat} {v1 : Int32} {σ : AH}
    (k1 : V g mX12_of E CX 0 0 4 [(0, .ref v0), (1, .int v1)] [.int (5 : Int32), .int (0 : Int32), .int v1, .ref v0] σ) :
    V g mX12_of E CX 0 0 0 [(0, .ref v0), (1, .int v1)] [] σ := by
  refine V_aload_n dX12_of_0 rfl ?_
  refine V_iload_n dX12_of_1 rfl ?_
  refine V_iconst (0 : Int32) dX12_of_2 (by decide) ?_
  refine V_iconst (5 : Int32) dX12_of_3 (by decide) ?_
  exact k1

set_option maxRecDepth 100000 in
set_option maxHeartbeats 4000000 in
theorem b_L_miles_0 {g : GP} {CX : State → Array Value → Prop} {E : ET} {v0 : Nat} {v1 : Int32} {v2 : Int32} {v3 : Int32} {v4 : Nat} {σ : AH}
    (k1 : V g mL_miles E CX 1 6 7 [(0, .ref v0), (1, .int v1), (2, .int v2), (3, .int v3), (4, .ref v4)] [.int v3, .int v2, .int v1, .ref v0, .int (0 : Int32), .ref v4] σ) :
    V g mL_miles E CX 1 6 0 [(0, .ref v0), (1, .int v1), (2, .int v2), (3, .int v3), (4, .ref v4)] [] σ := by
  refine V_aload dL_miles_0 rfl ?_
  refine V_iconst (0 : Int32) dL_miles_2 (by decide) ?_
  refine V_aload_n dL_miles_3 rfl ?_
  refine V_iload_n dL_miles_4 rfl ?_
  refine V_iload_n dL_miles_5 rfl ?_
  refine V_iload_n dL_miles_6 rfl ?_
  exact k1

set_option maxRecDepth 100000 in
set_option maxHeartbeats 4000000 in
theorem b_L_fare_0 {g : GP} {CX : State → Array Value → Prop} {E : ET} {v0 : Nat} {v1 : Int32} {v2 : Int32} {v3 : Int32} {v4 : Int32} {v5 : Int32} {v6 : Int32} {v7 : Nat} {σ : AH}
    (k1 : V g mL_fare E CX 2 13 13 [(0, .ref v0), (1, .int v1), (2, .int v2), (3, .int v3), (4, .int v4), (5, .int v5), (6, .int v6), (7, .ref v7)] [.int v6, .int v5, .int v4, .int v3, .int v2, .int v1, .ref v0, .int (0 : Int32), .ref v7] σ) :
    V g mL_fare E CX 2 13 0 [(0, .ref v0), (1, .int v1), (2, .int v2), (3, .int v3), (4, .int v4), (5, .int v5), (6, .int v6), (7, .ref v7)] [] σ := by
  refine V_aload dL_fare_0 rfl ?_
  refine V_iconst (0 : Int32) dL_fare_2 (by decide) ?_
  refine V_aload_n dL_fare_3 rfl ?_
  refine V_iload_n dL_fare_4 rfl ?_
  refine V_iload_n dL_fare_5 rfl ?_
  refine V_iload_n dL_fare_6 rfl ?_
  refine V_iload dL_fare_7 rfl ?_
  refine V_iload dL_fare_9 rfl ?_
  refine V_iload dL_fare_11 rfl ?_
  exact k1

set_option maxRecDepth 100000 in
set_option maxHeartbeats 4000000 in
theorem b_L_withdraw_0 {g : GP} {CX : State → Array Value → Prop} {E : ET} {v0 : Nat} {v1 : Int32} {σ : AH}
    (k1 : V g mL_withdraw E CX 1 6 2 [(0, .ref v0), (1, .int v1)] [.int v1, .ref v0] σ) :
    V g mL_withdraw E CX 1 6 0 [(0, .ref v0), (1, .int v1)] [] σ := by
  refine V_aload_n dL_withdraw_0 rfl ?_
  refine V_iload_n dL_withdraw_1 rfl ?_
  exact k1

set_option maxRecDepth 100000 in
set_option maxHeartbeats 4000000 in
theorem b_L_unit_0 {g : GP} {CX : State → Array Value → Prop} {E : ET} {v0 : Nat} {v1 : Int32} {v2 : Nat} {σ : AH}
    (k1 : V g mL_unit E CX 1 6 4 [(0, .ref v0), (1, .int v1), (2, .ref v2)] [.int v1, .ref v0, .int (0 : Int32), .ref v2] σ) :
    V g mL_unit E CX 1 6 0 [(0, .ref v0), (1, .int v1), (2, .ref v2)] [] σ := by
  refine V_aload_n dL_unit_0 rfl ?_
  refine V_iconst (0 : Int32) dL_unit_1 (by decide) ?_
  refine V_aload_n dL_unit_2 rfl ?_
  refine V_iload_n dL_unit_3 rfl ?_
  exact k1

set_option maxRecDepth 100000 in
set_option maxHeartbeats 4000000 in
theorem b_L_tax_0 {g : GP} {CX : State → Array Value → Prop} {E : ET} {v0 : Nat} {v1 : Int32} {v2 : Int32} {v3 : Int32} {σ : AH}
    (k1 : V g mL_tax E CX 1 6 4 [(0, .ref v0), (1, .int v1), (2, .int v2), (3, .int v3)] [.int v3, .int v2, .int v1, .ref v0] σ) :
    V g mL_tax E CX 1 6 0 [(0, .ref v0), (1, .int v1), (2, .int v2), (3, .int v3)] [] σ := by
  refine V_aload_n dL_tax_0 rfl ?_
  refine V_iload_n dL_tax_1 rfl ?_
  refine V_iload_n dL_tax_2 rfl ?_
  refine V_iload_n dL_tax_3 rfl ?_
  exact k1

set_option maxRecDepth 100000 in
set_option maxHeartbeats 4000000 in
theorem b_L_weight_0 {g : GP} {CX : State → Array Value → Prop} {E : ET} {v0 : Nat} {v1 : Int32} {v2 : Int32} {v3 : Int32} {v4 : Nat} {σ : AH}
    (k1 : V g mL_weight E CX 1 6 7 [(0, .ref v0), (1, .int v1), (2, .int v2), (3, .int v3), (4, .ref v4)] [.int v3, .int v2, .int v1, .ref v0, .int (0 : Int32), .ref v4] σ) :
    V g mL_weight E CX 1 6 0 [(0, .ref v0), (1, .int v1), (2, .int v2), (3, .int v3), (4, .ref v4)] [] σ := by
  refine V_aload dL_weight_0 rfl ?_
  refine V_iconst (0 : Int32) dL_weight_2 (by decide) ?_
  refine V_aload_n dL_weight_3 rfl ?_
  refine V_iload_n dL_weight_4 rfl ?_
  refine V_iload_n dL_weight_5 rfl ?_
  refine V_iload_n dL_weight_6 rfl ?_
  exact k1

set_option maxRecDepth 100000 in
set_option maxHeartbeats 4000000 in
theorem b_L_proviso_0 {g : GP} {CX : State → Array Value → Prop} {E : ET} {v0 : Nat} {v1 : Int32} {v2 : Int32} {v3 : Int32} {v4 : Int32} {v5 : Nat} {σ : AH}
    (k1 : V g mL_proviso E CX 1 6 9 [(0, .ref v0), (1, .int v1), (2, .int v2), (3, .int v3), (4, .int v4), (5, .ref v5)] [.int v4, .int v3, .int v2, .int v1, .ref v0, .int (0 : Int32), .ref v5] σ) :
    V g mL_proviso E CX 1 6 0 [(0, .ref v0), (1, .int v1), (2, .int v2), (3, .int v3), (4, .int v4), (5, .ref v5)] [] σ := by
  refine V_aload dL_proviso_0 rfl ?_
  refine V_iconst (0 : Int32) dL_proviso_2 (by decide) ?_
  refine V_aload_n dL_proviso_3 rfl ?_
  refine V_iload_n dL_proviso_4 rfl ?_
  refine V_iload_n dL_proviso_5 rfl ?_
  refine V_iload_n dL_proviso_6 rfl ?_
  refine V_iload dL_proviso_7 rfl ?_
  exact k1

set_option maxRecDepth 100000 in
set_option maxHeartbeats 4000000 in
theorem b_L_penalty_0 {g : GP} {CX : State → Array Value → Prop} {E : ET} {v0 : Nat} {v1 : Int32} {v2 : Nat} {σ : AH}
    (k1 : V g mL_penalty E CX 1 6 4 [(0, .ref v0), (1, .int v1), (2, .ref v2)] [.int v1, .ref v0, .int (0 : Int32), .ref v2] σ) :
    V g mL_penalty E CX 1 6 0 [(0, .ref v0), (1, .int v1), (2, .ref v2)] [] σ := by
  refine V_aload_n dL_penalty_0 rfl ?_
  refine V_iconst (0 : Int32) dL_penalty_1 (by decide) ?_
  refine V_aload_n dL_penalty_2 rfl ?_
  refine V_iload_n dL_penalty_3 rfl ?_
  exact k1

set_option maxRecDepth 100000 in
set_option maxHeartbeats 4000000 in
theorem b_L_leg_0 {g : GP} {CX : State → Array Value → Prop} {E : ET} {v0 : Nat} {v1 : Int32} {v2 : Int32} {v3 : Int32} {v4 : Int32} {v5 : Nat} {σ : AH}
    (k1 : V g mL_leg E CX 1 6 9 [(0, .ref v0), (1, .int v1), (2, .int v2), (3, .int v3), (4, .int v4), (5, .ref v5)] [.int v4, .int v3, .int v2, .int v1, .ref v0, .int (0 : Int32), .ref v5] σ) :
    V g mL_leg E CX 1 6 0 [(0, .ref v0), (1, .int v1), (2, .int v2), (3, .int v3), (4, .int v4), (5, .ref v5)] [] σ := by
  refine V_aload dL_leg_0 rfl ?_
  refine V_iconst (0 : Int32) dL_leg_2 (by decide) ?_
  refine V_aload_n dL_leg_3 rfl ?_
  refine V_iload_n dL_leg_4 rfl ?_
  refine V_iload_n dL_leg_5 rfl ?_
  refine V_iload_n dL_leg_6 rfl ?_
  refine V_iload dL_leg_7 rfl ?_
  exact k1

set_option maxRecDepth 100000 in
set_option maxHeartbeats 4000000 in
theorem b_L_part_0 {g : GP} {CX : State → Array Value → Prop} {E : ET} {v0 : Nat} {v1 : Int32} {v2 : Int32} {v3 : Nat} {σ : AH}
    (k1 : V g mL_part E CX 1 6 5 [(0, .ref v0), (1, .int v1), (2, .int v2), (3, .ref v3)] [.int v2, .int v1, .ref v0, .int (0 : Int32), .ref v3] σ) :
    V g mL_part E CX 1 6 0 [(0, .ref v0), (1, .int v1), (2, .int v2), (3, .ref v3)] [] σ := by
  refine V_aload_n dL_part_0 rfl ?_
  refine V_iconst (0 : Int32) dL_part_1 (by decide) ?_
  refine V_aload_n dL_part_2 rfl ?_
  refine V_iload_n dL_part_3 rfl ?_
  refine V_iload_n dL_part_4 rfl ?_
  exact k1

set_option maxRecDepth 100000 in
set_option maxHeartbeats 4000000 in
theorem b_L_issue_0 {g : GP} {CX : State → Array Value → Prop} {E : ET} {v0 : Nat} {v1 : Int32} {v2 : Nat} {σ : AH}
    (k1 : V g mL_issue E CX 11 94 4 [(0, .ref v0), (1, .int v1), (2, .ref v2)] [.int v1, .ref v0, .int (0 : Int32), .ref v2] σ) :
    V g mL_issue E CX 11 94 0 [(0, .ref v0), (1, .int v1), (2, .ref v2)] [] σ := by
  refine V_aload_n dL_issue_0 rfl ?_
  refine V_iconst (0 : Int32) dL_issue_1 (by decide) ?_
  refine V_aload_n dL_issue_2 rfl ?_
  refine V_iload_n dL_issue_3 rfl ?_
  exact k1

set_option maxRecDepth 100000 in
set_option maxHeartbeats 4000000 in
theorem b_L_fly_0 {g : GP} {CX : State → Array Value → Prop} {E : ET} {v0 : Nat} {v1 : Int32} {v2 : Int32} {v3 : Nat} {σ : AH}
    (k1 : V g mL_fly E CX 2 12 5 [(0, .ref v0), (1, .int v1), (2, .int v2), (3, .ref v3)] [.int v2, .int v1, .ref v0, .int (0 : Int32), .ref v3] σ) :
    V g mL_fly E CX 2 12 0 [(0, .ref v0), (1, .int v1), (2, .int v2), (3, .ref v3)] [] σ := by
  refine V_aload_n dL_fly_0 rfl ?_
  refine V_iconst (0 : Int32) dL_fly_1 (by decide) ?_
  refine V_aload_n dL_fly_2 rfl ?_
  refine V_iload_n dL_fly_3 rfl ?_
  refine V_iload_n dL_fly_4 rfl ?_
  exact k1

set_option maxRecDepth 100000 in
set_option maxHeartbeats 4000000 in
theorem b_L_endorse_0 {g : GP} {CX : State → Array Value → Prop} {E : ET} {v0 : Nat} {v1 : Int32} {v2 : Int32} {v3 : Int32} {v4 : Nat} {σ : AH}
    (k1 : V g mL_endorse E CX 1 6 7 [(0, .ref v0), (1, .int v1), (2, .int v2), (3, .int v3), (4, .ref v4)] [.int v3, .int v2, .int v1, .ref v0, .int (0 : Int32), .ref v4] σ) :
    V g mL_endorse E CX 1 6 0 [(0, .ref v0), (1, .int v1), (2, .int v2), (3, .int v3), (4, .ref v4)] [] σ := by
  refine V_aload dL_endorse_0 rfl ?_
  refine V_iconst (0 : Int32) dL_endorse_2 (by decide) ?_
  refine V_aload_n dL_endorse_3 rfl ?_
  refine V_iload_n dL_endorse_4 rfl ?_
  refine V_iload_n dL_endorse_5 rfl ?_
  refine V_iload_n dL_endorse_6 rfl ?_
  exact k1

set_option maxRecDepth 100000 in
set_option maxHeartbeats 4000000 in
theorem b_L_refund_0 {g : GP} {CX : State → Array Value → Prop} {E : ET} {v0 : Nat} {v1 : Int32} {v2 : Nat} {σ : AH}
    (k1 : V g mL_refund E CX 1 6 4 [(0, .ref v0), (1, .int v1), (2, .ref v2)] [.int v1, .ref v0, .int (0 : Int32), .ref v2] σ) :
    V g mL_refund E CX 1 6 0 [(0, .ref v0), (1, .int v1), (2, .ref v2)] [] σ := by
  refine V_aload_n dL_refund_0 rfl ?_
  refine V_iconst (0 : Int32) dL_refund_1 (by decide) ?_
  refine V_aload_n dL_refund_2 rfl ?_
  refine V_iload_n dL_refund_3 rfl ?_
  exact k1

set_option maxRecDepth 100000 in
set_option maxHeartbeats 4000000 in
theorem b_L_reissue_0 {g : GP} {CX : State → Array Value → Prop} {E : ET} {v0 : Nat} {v1 : Int32} {v2 : Nat} {σ : AH}
    (k1 : V g mL_reissue E CX 11 94 4 [(0, .ref v0), (1, .int v1), (2, .ref v2)] [.int v1, .ref v0, .int (0 : Int32), .ref v2] σ) :
    V g mL_reissue E CX 11 94 0 [(0, .ref v0), (1, .int v1), (2, .ref v2)] [] σ := by
  refine V_aload_n dL_reissue_0 rfl ?_
  refine V_iconst (0 : Int32) dL_reissue_1 (by decide) ?_
  refine V_aload_n dL_reissue_2 rfl ?_
  refine V_iload_n dL_reissue_3 rfl ?_
  exact k1

set_option maxRecDepth 100000 in
set_option maxHeartbeats 4000000 in
theorem b_L_pass_0 {g : GP} {CX : State → Array Value → Prop} {E : ET} {v0 : Nat} {v1 : Int32} {v2 : Nat} {σ : AH}
    (k1 : V g mL_pass E CX 1 6 4 [(0, .ref v0), (1, .int v1), (2, .ref v2)] [.int v1, .ref v0, .int (0 : Int32), .ref v2] σ) :
    V g mL_pass E CX 1 6 0 [(0, .ref v0), (1, .int v1), (2, .ref v2)] [] σ := by
  refine V_aload_n dL_pass_0 rfl ?_
  refine V_iconst (0 : Int32) dL_pass_1 (by decide) ?_
  refine V_aload_n dL_pass_2 rfl ?_
  refine V_iload_n dL_pass_3 rfl ?_
  exact k1

set_option maxRecDepth 100000 in
set_option maxHeartbeats 4000000 in
theorem b_L_reject_0 {g : GP} {CX : State → Array Value → Prop} {E : ET} {v0 : Nat} {v1 : Int32} {v2 : Nat} {σ : AH}
    (k1 : V g mL_reject E CX 1 6 4 [(0, .ref v0), (1, .int v1), (2, .ref v2)] [.int v1, .ref v0, .int (0 : Int32), .ref v2] σ) :
    V g mL_reject E CX 1 6 0 [(0, .ref v0), (1, .int v1), (2, .ref v2)] [] σ := by
  refine V_aload_n dL_reject_0 rfl ?_
  refine V_iconst (0 : Int32) dL_reject_1 (by decide) ?_
  refine V_aload_n dL_reject_2 rfl ?_
  refine V_iload_n dL_reject_3 rfl ?_
  exact k1

set_option maxRecDepth 100000 in
set_option maxHeartbeats 4000000 in
theorem b_L_rebill_0 {g : GP} {CX : State → Array Value → Prop} {E : ET} {v0 : Nat} {v1 : Int32} {σ : AH}
    (k1 : V g mL_rebill E CX 1 6 2 [(0, .ref v0), (1, .int v1)] [.int v1, .ref v0] σ) :
    V g mL_rebill E CX 1 6 0 [(0, .ref v0), (1, .int v1)] [] σ := by
  refine V_aload_n dL_rebill_0 rfl ?_
  refine V_iload_n dL_rebill_1 rfl ?_
  exact k1

set_option maxRecDepth 100000 in
set_option maxHeartbeats 4000000 in
theorem b_L_fails_0 {g : GP} {CX : State → Array Value → Prop} {E : ET} {v0 : Nat} {v1 : Int32} {v2 : Int32} {v3 : Nat} {σ : AH}
    (k1 : V g mL_fails E CX 1 6 5 [(0, .ref v0), (1, .int v1), (2, .int v2), (3, .ref v3)] [.int v2, .int v1, .ref v0, .int (0 : Int32), .ref v3] σ) :
    V g mL_fails E CX 1 6 0 [(0, .ref v0), (1, .int v1), (2, .int v2), (3, .ref v3)] [] σ := by
  refine V_aload_n dL_fails_0 rfl ?_
  refine V_iconst (0 : Int32) dL_fails_1 (by decide) ?_
  refine V_aload_n dL_fails_2 rfl ?_
  refine V_iload_n dL_fails_3 rfl ?_
  refine V_iload_n dL_fails_4 rfl ?_
  exact k1

set_option maxRecDepth 100000 in
set_option maxHeartbeats 4000000 in
theorem b_L_ofTicket_0 {g : GP} {CX : State → Array Value → Prop} {E : ET} {v0 : Nat} {v1 : Int32} {v2 : Int32} {v3 : Nat} {σ : AH}
    (k1 : V g mL_ofTicket E CX 1 6 5 [(0, .ref v0), (1, .int v1), (2, .int v2), (3, .ref v3)] [.int v2, .int v1, .ref v0, .int (0 : Int32), .ref v3] σ) :
    V g mL_ofTicket E CX 1 6 0 [(0, .ref v0), (1, .int v1), (2, .int v2), (3, .ref v3)] [] σ := by
  refine V_aload_n dL_ofTicket_0 rfl ?_
  refine V_iconst (0 : Int32) dL_ofTicket_1 (by decide) ?_
  refine V_aload_n dL_ofTicket_2 rfl ?_
  refine V_iload_n dL_ofTicket_3 rfl ?_
  refine V_iload_n dL_ofTicket_4 rfl ?_
  exact k1

set_option maxRecDepth 100000 in
set_option maxHeartbeats 4000000 in
theorem b_L_ofCoupon_0 {g : GP} {CX : State → Array Value → Prop} {E : ET} {v0 : Nat} {v1 : Int32} {v2 : Int32} {v3 : Int32} {v4 : Nat} {σ : AH}
    (k1 : V g mL_ofCoupon E CX 1 6 7 [(0, .ref v0), (1, .int v1), (2, .int v2), (3, .int v3), (4, .ref v4)] [.int v3, .int v2, .int v1, .ref v0, .int (0 : Int32), .ref v4] σ) :
    V g mL_ofCoupon E CX 1 6 0 [(0, .ref v0), (1, .int v1), (2, .int v2), (3, .int v3), (4, .ref v4)] [] σ := by
  refine V_aload dL_ofCoupon_0 rfl ?_
  refine V_iconst (0 : Int32) dL_ofCoupon_2 (by decide) ?_
  refine V_aload_n dL_ofCoupon_3 rfl ?_
  refine V_iload_n dL_ofCoupon_4 rfl ?_
  refine V_iload_n dL_ofCoupon_5 rfl ?_
  refine V_iload_n dL_ofCoupon_6 rfl ?_
  exact k1

set_option maxRecDepth 100000 in
set_option maxHeartbeats 4000000 in
theorem b_L_ofBill_0 {g : GP} {CX : State → Array Value → Prop} {E : ET} {v0 : Nat} {v1 : Int32} {v2 : Int32} {v3 : Nat} {σ : AH}
    (k1 : V g mL_ofBill E CX 1 6 5 [(0, .ref v0), (1, .int v1), (2, .int v2), (3, .ref v3)] [.int v2, .int v1, .ref v0, .int (0 : Int32), .ref v3] σ) :
    V g mL_ofBill E CX 1 6 0 [(0, .ref v0), (1, .int v1), (2, .int v2), (3, .ref v3)] [] σ := by
  refine V_aload_n dL_ofBill_0 rfl ?_
  refine V_iconst (0 : Int32) dL_ofBill_1 (by decide) ?_
  refine V_aload_n dL_ofBill_2 rfl ?_
  refine V_iload_n dL_ofBill_3 rfl ?_
  refine V_iload_n dL_ofBill_4 rfl ?_
  exact k1

set_option maxRecDepth 100000 in
set_option maxHeartbeats 4000000 in
theorem b_L_cash_0 {g : GP} {CX : State → Array Value → Prop} {E : ET} {v0 : Nat} {v1 : Int32} {v2 : Nat} {σ : AH}
    (k1 : V g mL_cash E CX 1 6 4 [(0, .ref v0), (1, .int v1), (2, .ref v2)] [.int v1, .ref v0, .int (0 : Int32), .ref v2] σ) :
    V g mL_cash E CX 1 6 0 [(0, .ref v0), (1, .int v1), (2, .ref v2)] [] σ := by
  refine V_aload_n dL_cash_0 rfl ?_
  refine V_iconst (0 : Int32) dL_cash_1 (by decide) ?_
  refine V_aload_n dL_cash_2 rfl ?_
  refine V_iload_n dL_cash_3 rfl ?_
  exact k1

set_option maxRecDepth 100000 in
set_option maxHeartbeats 4000000 in
theorem b_L_cashAnew_0 {g : GP} {CX : State → Array Value → Prop} {E : ET} {v0 : Nat} {v1 : Int32} {v2 : Nat} {σ : AH}
    (k1 : V g mL_cashAnew E CX 1 6 4 [(0, .ref v0), (1, .int v1), (2, .ref v2)] [.int v1, .ref v0, .int (0 : Int32), .ref v2] σ) :
    V g mL_cashAnew E CX 1 6 0 [(0, .ref v0), (1, .int v1), (2, .ref v2)] [] σ := by
  refine V_aload_n dL_cashAnew_0 rfl ?_
  refine V_iconst (0 : Int32) dL_cashAnew_1 (by decide) ?_
  refine V_aload_n dL_cashAnew_2 rfl ?_
  refine V_iload_n dL_cashAnew_3 rfl ?_
  exact k1

set_option maxRecDepth 100000 in
set_option maxHeartbeats 4000000 in
theorem b_L_state_0 {g : GP} {CX : State → Array Value → Prop} {E : ET} {v0 : Nat} {v1 : Int32} {v2 : Nat} {σ : AH}
    (k1 : V g mL_state E CX 1 6 4 [(0, .ref v0), (1, .int v1), (2, .ref v2)] [.int v1, .ref v0, .int (0 : Int32), .ref v2] σ) :
    V g mL_state E CX 1 6 0 [(0, .ref v0), (1, .int v1), (2, .ref v2)] [] σ := by
  refine V_aload_n dL_state_0 rfl ?_
  refine V_iconst (0 : Int32) dL_state_1 (by decide) ?_
  refine V_aload_n dL_state_2 rfl ?_
  refine V_iload_n dL_state_3 rfl ?_
  exact k1

set_option maxRecDepth 100000 in
set_option maxHeartbeats 4000000 in
theorem b_L_of_0 {g : GP} {CX : State → Array Value → Prop} {E : ET} {v0 : Nat} {v1 : Int32} {v2 : Nat} {σ : AH}
    (k1 : V g mL_of E CX 1 6 4 [(0, .ref v0), (1, .int v1), (2, .ref v2)] [.int v1, .ref v0, .int (0 : Int32), .ref v2] σ) :
    V g mL_of E CX 1 6 0 [(0, .ref v0), (1, .int v1), (2, .ref v2)] [] σ := by
  refine V_aload_n dL_of_0 rfl ?_
  refine V_iconst (0 : Int32) dL_of_1 (by decide) ?_
  refine V_aload_n dL_of_2 rfl ?_
  refine V_iload_n dL_of_3 rfl ?_
  exact k1
