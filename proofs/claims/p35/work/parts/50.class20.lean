/-! ===== the class: bills ===== -/
set_option maxRecDepth 100000 in
set_option maxHeartbeats 4000000 in
theorem b_X0_init_0 {g : GP} {CX : State → Array Value → Prop} {Q : AH → Option Value → Prop} {X : AH → String → Prop} {v0 : Nat} {v1 : Int32} {v2 : Int32} {v3 : Int32} {σ : AH}
    (o1 : v0 ≠ 0)
    (o2 : zK σ v0 = 0)
    (k1 : Q (uI (uI (uI (uI σ v0 3 (0 : Int32)) v0 0 v1) v0 1 v2) v0 2 v3) none) :
    V g mX0_init (Em g mX0_init Q X) CX 0 0 0 [(0, .ref v0), (1, .int v1), (2, .int v2), (3, .int v3)] [] σ := by
  refine V_aload_n dX0_init_0 rfl ?_
  refine V_objinit w_916 w_46 w_47 dX0_init_1 o1 rfl rfl ?_
  refine V_aload_n dX0_init_4 rfl ?_
  refine V_iconst (0 : Int32) dX0_init_5 (by decide) ?_
  refine V_puti (fk := 3) ko_X0 rfl w_925 (Or.inl rfl) dX0_init_6 rfl o1 o2 ?_
  refine V_aload_n dX0_init_9 rfl ?_
  refine V_iload_n dX0_init_10 rfl ?_
  refine V_puti (fk := 0) ko_X0 rfl w_917 (Or.inr ⟨rfl, rfl, rfl⟩) dX0_init_11 rfl o1 o2 ?_
  refine V_aload_n dX0_init_14 rfl ?_
  refine V_iload_n dX0_init_15 rfl ?_
  refine V_puti (fk := 1) ko_X0 rfl w_920 (Or.inr ⟨rfl, rfl, rfl⟩) dX0_init_16 rfl o1 o2 ?_
  refine V_aload_n dX0_init_19 rfl ?_
  refine V_iload_n dX0_init_20 rfl ?_
  refine V_puti (fk := 2) ko_X0 rfl w_923 (Or.inr ⟨rfl, rfl, rfl⟩) dX0_init_21 rfl o1 o2 ?_
  exact V_vret rfl dX0_init_24 k1

set_option maxRecDepth 100000 in
set_option maxHeartbeats 4000000 in
theorem b_X0_amountBack_0 {g : GP} {CX : State → Array Value → Prop} {Q : AH → Option Value → Prop} {X : AH → String → Prop} {v0 : Nat} {σ : AH}
    (o1 : v0 ≠ 0)
    (o2 : zK σ v0 = 0)
    (k1 : ((zI σ v0 4) < (3 : Int32)) → Q σ (some (.int (zI σ v0 2))))
    (k2 : (¬ (zI σ v0 4) < (3 : Int32)) → Q σ (some (.int ((zI σ v0 2) / (2 : Int32))))) :
    V g mX0_amountBack (Em g mX0_amountBack Q X) CX 0 0 0 [(0, .ref v0)] [] σ := by
  refine V_aload_n dX0_amountBack_0 rfl ?_
  refine V_getf (fk := 4) (Value.int (zI σ v0 4)) ko_X0 rfl w_927 dX0_amountBack_1 o1 o2 rfl ?_
  refine V_iconst (3 : Int32) dX0_amountBack_4 (by decide) ?_
  refine V_icmp_lt 17 dX0_amountBack_5 rfl (fun c1 => ?_) (fun c1 => ?_)
  · refine V_aload_n dX0_amountBack_17 rfl ?_
    refine V_getf (fk := 2) (Value.int (zI σ v0 2)) ko_X0 rfl w_923 dX0_amountBack_18 o1 o2 rfl ?_
    exact V_iret rfl dX0_amountBack_21 (k1 c1)
  · refine V_aload_n dX0_amountBack_8 rfl ?_
    refine V_getf (fk := 2) (Value.int (zI σ v0 2)) ko_X0 rfl w_923 dX0_amountBack_9 o1 o2 rfl ?_
    refine V_iconst (2 : Int32) dX0_amountBack_12 (by decide) ?_
    refine V_idiv dX0_amountBack_13 (by decide) ?_
    refine V_goto 21 dX0_amountBack_14 rfl ?_
    exact V_iret rfl dX0_amountBack_21 (k2 c1)

set_option maxRecDepth 100000 in
set_option maxHeartbeats 4000000 in
theorem b_X0_gotByPayee_0 {g : GP} {CX : State → Array Value → Prop} {Q : AH → Option Value → Prop} {X : AH → String → Prop} {v0 : Nat} {σ : AH}
    (o1 : v0 ≠ 0)
    (o2 : zK σ v0 = 0)
    (k1 : (zI σ v0 3 = (1 : Int32)) → Q σ (some (.int (zI σ v0 2))))
    (k2 : (¬ zI σ v0 3 = (1 : Int32)) → (zI σ v0 3 = (2 : Int32)) → Q σ (some (.int (zI σ v0 2))))
    (k3 : (¬ zI σ v0 3 = (1 : Int32)) → (¬ zI σ v0 3 = (2 : Int32)) → (zI σ v0 3 = (3 : Int32)) → Q σ (some (.int (0 : Int32))))
    (k4 : (¬ zI σ v0 3 = (1 : Int32)) → (¬ zI σ v0 3 = (2 : Int32)) → (¬ zI σ v0 3 = (3 : Int32)) → (zI σ v0 3 = (4 : Int32)) → Q σ (some (.int ((zI σ v0 2) - ((zI σ v0 2) / (2 : Int32))))))
    (k5 : (¬ zI σ v0 3 = (1 : Int32)) → (¬ zI σ v0 3 = (2 : Int32)) → (¬ zI σ v0 3 = (3 : Int32)) → (¬ zI σ v0 3 = (4 : Int32)) → Q σ (some (.int (0 : Int32)))) :
    V g mX0_gotByPayee (Em g mX0_gotByPayee Q X) CX 0 0 0 [(0, .ref v0)] [] σ := by
  refine V_aload_n dX0_gotByPayee_0 rfl ?_
  refine V_getf (fk := 3) (Value.int (zI σ v0 3)) ko_X0 rfl w_925 dX0_gotByPayee_1 o1 o2 rfl ?_
  by_cases c1 : zI σ v0 3 = (1 : Int32)
  · refine V_tableIn (off := 32) 36 dX0_gotByPayee_4 (by rw [c1]; decide) (by rw [c1]; decide) (by rw [c1]; rfl) rfl ?_
    refine V_aload_n dX0_gotByPayee_36 rfl ?_
    refine V_getf (fk := 2) (Value.int (zI σ v0 2)) ko_X0 rfl w_923 dX0_gotByPayee_37 o1 o2 rfl ?_
    exact V_iret rfl dX0_gotByPayee_40 (k1 c1)
  by_cases c2 : zI σ v0 3 = (2 : Int32)
  · refine V_tableIn (off := 32) 36 dX0_gotByPayee_4 (by rw [c2]; decide) (by rw [c2]; decide) (by rw [c2]; rfl) rfl ?_
    refine V_aload_n dX0_gotByPayee_36 rfl ?_
    refine V_getf (fk := 2) (Value.int (zI σ v0 2)) ko_X0 rfl w_923 dX0_gotByPayee_37 o1 o2 rfl ?_
    exact V_iret rfl dX0_gotByPayee_40 (k2 c1 c2)
  by_cases c3 : zI σ v0 3 = (3 : Int32)
  · refine V_tableIn (off := 49) 53 dX0_gotByPayee_4 (by rw [c3]; decide) (by rw [c3]; decide) (by rw [c3]; rfl) rfl ?_
    refine V_iconst (0 : Int32) dX0_gotByPayee_53 (by decide) ?_
    exact V_iret rfl dX0_gotByPayee_54 (k3 c1 c2 c3)
  by_cases c4 : zI σ v0 3 = (4 : Int32)
  · refine V_tableIn (off := 37) 41 dX0_gotByPayee_4 (by rw [c4]; decide) (by rw [c4]; decide) (by rw [c4]; rfl) rfl ?_
    refine V_aload_n dX0_gotByPayee_41 rfl ?_
    refine V_getf (fk := 2) (Value.int (zI σ v0 2)) ko_X0 rfl w_923 dX0_gotByPayee_42 o1 o2 rfl ?_
    refine V_aload_n dX0_gotByPayee_45 rfl ?_
    refine V_getf (fk := 2) (Value.int (zI σ v0 2)) ko_X0 rfl w_923 dX0_gotByPayee_46 o1 o2 rfl ?_
    refine V_iconst (2 : Int32) dX0_gotByPayee_49 (by decide) ?_
    refine V_idiv dX0_gotByPayee_50 (by decide) ?_
    refine V_isub dX0_gotByPayee_51 ?_
    exact V_iret rfl dX0_gotByPayee_52 (k4 c1 c2 c3 c4)
  refine V_tableOut 53 dX0_gotByPayee_4 (ts_1_4 c1 c2 c3 c4) rfl ?_
  refine V_iconst (0 : Int32) dX0_gotByPayee_53 (by decide) ?_
  exact V_iret rfl dX0_gotByPayee_54 (k5 c1 c2 c3 c4)

set_option maxRecDepth 100000 in
set_option maxHeartbeats 4000000 in
theorem b_X0_isOf_0 {g : GP} {CX : State → Array Value → Prop} {Q : AH → Option Value → Prop} {X : AH → String → Prop} {v0 : Nat} {v1 : Int32} {σ : AH}
    (o1 : v0 ≠ 0)
    (o2 : zK σ v0 = 0)
    (k1 : ((zI σ v0 0) = v1) → Q σ (some (.int (1 : Int32))))
    (k2 : (¬ (zI σ v0 0) = v1) → (¬ (zI σ v0 1) = v1) → Q σ (some (.int (0 : Int32))))
    (k3 : (¬ (zI σ v0 0) = v1) → ((zI σ v0 1) = v1) → Q σ (some (.int (1 : Int32)))) :
    V g mX0_isOf (Em g mX0_isOf Q X) CX 0 0 0 [(0, .ref v0), (1, .int v1)] [] σ := by
  refine V_aload_n dX0_isOf_0 rfl ?_
  refine V_getf (fk := 0) (Value.int (zI σ v0 0)) ko_X0 rfl w_917 dX0_isOf_1 o1 o2 rfl ?_
  refine V_iload_n dX0_isOf_4 rfl ?_
  refine V_icmp_eq 16 dX0_isOf_5 rfl (fun c1 => ?_) (fun c1 => ?_)
  · refine V_iconst (1 : Int32) dX0_isOf_16 (by decide) ?_
    refine V_goto 21 dX0_isOf_17 rfl ?_
    exact V_zret rfl dX0_isOf_21 (by decide) (k1 c1)
  · refine V_aload_n dX0_isOf_8 rfl ?_
    refine V_getf (fk := 1) (Value.int (zI σ v0 1)) ko_X0 rfl w_920 dX0_isOf_9 o1 o2 rfl ?_
    refine V_iload_n dX0_isOf_12 rfl ?_
    refine V_icmp_ne 20 dX0_isOf_13 rfl (fun c2 => ?_) (fun c2 => ?_)
    · refine V_iconst (0 : Int32) dX0_isOf_20 (by decide) ?_
      exact V_zret rfl dX0_isOf_21 (by decide) (k2 c1 c2)
    · refine V_iconst (1 : Int32) dX0_isOf_16 (by decide) ?_
      refine V_goto 21 dX0_isOf_17 rfl ?_
      exact V_zret rfl dX0_isOf_21 (by decide) (k3 c1 c2)

set_option maxRecDepth 100000 in
set_option maxHeartbeats 4000000 in
theorem b_X0_isToBeSettled_0 {g : GP} {CX : State → Array Value → Prop} {Q : AH → Option Value → Prop} {X : AH → String → Prop} {v0 : Nat} {σ : AH}
    (o1 : v0 ≠ 0)
    (o2 : zK σ v0 = 0)
    (k1 : ((zI σ v0 3) = 0) → Q σ (some (.int (1 : Int32))))
    (k2 : (¬ (zI σ v0 3) = 0) → (¬ (zI σ v0 3) = (2 : Int32)) → Q σ (some (.int (0 : Int32))))
    (k3 : (¬ (zI σ v0 3) = 0) → ((zI σ v0 3) = (2 : Int32)) → Q σ (some (.int (1 : Int32)))) :
    V g mX0_isToBeSettled (Em g mX0_isToBeSettled Q X) CX 0 0 0 [(0, .ref v0)] [] σ := by
  refine V_aload_n dX0_isToBeSettled_0 rfl ?_
  refine V_getf (fk := 3) (Value.int (zI σ v0 3)) ko_X0 rfl w_925 dX0_isToBeSettled_1 o1 o2 rfl ?_
  refine V_if_eq 15 dX0_isToBeSettled_4 rfl (fun c1 => ?_) (fun c1 => ?_)
  · refine V_iconst (1 : Int32) dX0_isToBeSettled_15 (by decide) ?_
    refine V_goto 20 dX0_isToBeSettled_16 rfl ?_
    exact V_zret rfl dX0_isToBeSettled_20 (by decide) (k1 c1)
  · refine V_aload_n dX0_isToBeSettled_7 rfl ?_
    refine V_getf (fk := 3) (Value.int (zI σ v0 3)) ko_X0 rfl w_925 dX0_isToBeSettled_8 o1 o2 rfl ?_
    refine V_iconst (2 : Int32) dX0_isToBeSettled_11 (by decide) ?_
    refine V_icmp_ne 19 dX0_isToBeSettled_12 rfl (fun c2 => ?_) (fun c2 => ?_)
    · refine V_iconst (0 : Int32) dX0_isToBeSettled_19 (by decide) ?_
      exact V_zret rfl dX0_isToBeSettled_20 (by decide) (k2 c1 c2)
    · refine V_iconst (1 : Int32) dX0_isToBeSettled_15 (by decide) ?_
      refine V_goto 20 dX0_isToBeSettled_16 rfl ?_
      exact V_zret rfl dX0_isToBeSettled_20 (by decide) (k3 c1 c2)

/-- a bill's row -/
abbrev BK (σ : AH) (a : Nat) : Prop := a ≠ 0 ∧ zK σ a = 0
def nbH (σ : AH) (a : Nat) (x y z : Int32) : AH := uI (uI (uI (uI σ a 3 0) a 0 x) a 1 y) a 2 z
theorem s_X0_init {g : GP} {σ : AH} {a : Nat} {x y z : Int32} (h : BK σ a) : Ct g mX0_init [.ref a, .int x, .int y, .int z] σ (FQ (nbH σ a x y z) none) :=
  Ct_of (by decide +kernel) rfl rfl (b_X0_init_0 h.1 h.2 fq)
theorem Sh_nbH {σ : AH} {a : Nat} {x y z : Int32} (h : Sh σ) : Sh (nbH σ a x y z) := h
theorem s_X0_init' {g : GP} {σ : AH} {a : Nat} {x y z : Int32} (h : BK σ a) : Ct g mX0_init [.ref a, .int x, .int y, .int z] σ (FQ (uI (uI (uI (uI σ a 3 0) a 0 x) a 1 y) a 2 z) none) := s_X0_init h
def abF (σ : AH) (a : Nat) : Int32 := if zI σ a 4 < 3 then zI σ a 2 else zI σ a 2 / 2
theorem s_X0_amountBack {g : GP} {σ : AH} {a : Nat} (h : BK σ a) : Ct g mX0_amountBack [.ref a] σ (FQ σ (some (.int (abF σ a)))) :=
  Ct_of (by decide +kernel) rfl rfl (b_X0_amountBack_0 h.1 h.2 (fun c => fq_i (by rw [abF, if_pos c])) (fun c => fq_i (by rw [abF, if_neg c])))
def gpF (σ : AH) (a : Nat) : Int32 := if zI σ a 3 = 1 ∨ zI σ a 3 = 2 then zI σ a 2 else if zI σ a 3 = 4 then zI σ a 2 - zI σ a 2 / 2 else 0
theorem s_X0_gotByPayee {g : GP} {σ : AH} {a : Nat} (h : BK σ a) : Ct g mX0_gotByPayee [.ref a] σ (FQ σ (some (.int (gpF σ a)))) :=
  Ct_of (by decide +kernel) rfl rfl (b_X0_gotByPayee_0 h.1 h.2 (fun c => fq_i (by rw [gpF, if_pos (Or.inl c)])) (fun _ c => fq_i (by rw [gpF, if_pos (Or.inr c)])) (fun c1 c2 c3 => fq_i (by rw [gpF, if_neg (fun q => q.elim c1 c2), if_neg (fun q => by rw [c3] at q; exact absurd q (by decide))])) (fun c1 c2 c3 c4 => fq_i (by rw [gpF, if_neg (fun q => q.elim c1 c2), if_pos c4])) (fun c1 c2 c3 c4 => fq_i (by rw [gpF, if_neg (fun q => q.elim c1 c2), if_neg c4])))
theorem s_X0_isOf {g : GP} {σ : AH} {a : Nat} {x : Int32} (h : BK σ a) : Ct g mX0_isOf [.ref a, .int x] σ (FQ σ (some (.int (jb (zI σ a 0 = x ∨ zI σ a 1 = x))))) :=
  Ct_of (by decide +kernel) rfl rfl (b_X0_isOf_0 h.1 h.2 (fun c => fq_i (jb_t (Or.inl c)).symm) (fun c1 c2 => fq_i (jb_f (fun q => q.elim c1 c2)).symm) (fun _ c => fq_i (jb_t (Or.inr c)).symm))
theorem s_X0_isToBeSettled {g : GP} {σ : AH} {a : Nat} (h : BK σ a) : Ct g mX0_isToBeSettled [.ref a] σ (FQ σ (some (.int (jb (zI σ a 3 = 0 ∨ zI σ a 3 = 2))))) :=
  Ct_of (by decide +kernel) rfl rfl (b_X0_isToBeSettled_0 h.1 h.2 (fun c => fq_i (jb_t (Or.inl c)).symm) (fun c1 c2 => fq_i (jb_f (fun q => q.elim c1 c2)).symm) (fun _ c => fq_i (jb_t (Or.inr c)).symm))
set_option maxRecDepth 100000 in
set_option maxHeartbeats 4000000 in
theorem b_X0_isAsLeftBy_0 {g : GP} {CX : State → Array Value → Prop} {Q : AH → Option Value → Prop} {X : AH → String → Prop} {v0 : Nat} {v1 : Int32} {σ : AH}
    (o1 : v0 ≠ 0)
    (o2 : zK σ v0 = 0)
    (k1 : (¬ (zI σ v0 5) = v1) → Q σ (some (.int (0 : Int32))))
    (o3 : ((zI σ v0 5) = v1) → BK σ v0)
    (k2 : ((zI σ v0 5) = v1) → (zI σ v0 3 = 0 ∨ zI σ v0 3 = 2) → Q σ (some (.int (0 : Int32))))
    (k3 : ((zI σ v0 5) = v1) → (¬ (zI σ v0 3 = 0 ∨ zI σ v0 3 = 2)) → Q σ (some (.int (1 : Int32)))) :
    V g mX0_isAsLeftBy (Em g mX0_isAsLeftBy Q X) CX 0 0 0 [(0, .ref v0), (1, .int v1)] [] σ := by
  refine V_aload_n dX0_isAsLeftBy_0 rfl ?_
  refine V_getf (fk := 5) (Value.int (zI σ v0 5)) ko_X0 rfl w_929 dX0_isAsLeftBy_1 o1 o2 rfl ?_
  refine V_iload_n dX0_isAsLeftBy_4 rfl ?_
  refine V_icmp_ne 19 dX0_isAsLeftBy_5 rfl (fun c1 => ?_) (fun c1 => ?_)
  · refine V_iconst (0 : Int32) dX0_isAsLeftBy_19 (by decide) ?_
    exact V_zret rfl dX0_isAsLeftBy_20 (by decide) (k1 c1)
  · refine V_aload_n dX0_isAsLeftBy_8 rfl ?_
    refine V_callV1 (as := []) (k' := 0) (n' := 0) (s_X0_isToBeSettled (o3 c1)) mw_X0_isToBeSettled ko_X0 rfl w_960 w_961 w_1020 ar_X0_isToBeSettled rfl ⟨rfl, rfl, rfl, rfl, rfl⟩ dX0_isAsLeftBy_9 o1 o2 ?_
    refine V_if_ne 19 dX0_isAsLeftBy_12 rfl (fun c2 => ?_) (fun c2 => ?_)
    · replace c2 := jb_n.mp c2
      refine V_iconst (0 : Int32) dX0_isAsLeftBy_19 (by decide) ?_
      exact V_zret rfl dX0_isAsLeftBy_20 (by decide) (k2 c1 c2)
    · replace c2 := jb_0.mp c2
      refine V_iconst (1 : Int32) dX0_isAsLeftBy_15 (by decide) ?_
      refine V_goto 20 dX0_isAsLeftBy_16 rfl ?_
      exact V_zret rfl dX0_isAsLeftBy_20 (by decide) (k3 c1 c2)

set_option maxRecDepth 100000 in
set_option maxHeartbeats 4000000 in
theorem b_X0_settle_0 {g : GP} {CX : State → Array Value → Prop} {Q : AH → Option Value → Prop} {X : AH → String → Prop} {v0 : Nat} {v1 : Int32} {σ : AH}
    (o1 : v0 ≠ 0)
    (o2 : zK σ v0 = 0)
    (o3 : (¬ (zI σ v0 3) = 0) → ((zI σ v0 4) < (3 : Int32)) → BK (uI (uI σ v0 5 v1) v0 3 (3 : Int32)) v0)
    (k1 : (¬ (zI σ v0 3) = 0) → ((zI σ v0 4) < (3 : Int32)) → Q (uI (uI σ v0 5 v1) v0 3 (3 : Int32)) (some (.int (-(abF (uI (uI σ v0 5 v1) v0 3 (3 : Int32)) v0)))))
    (o4 : (¬ (zI σ v0 3) = 0) → (¬ (zI σ v0 4) < (3 : Int32)) → BK (uI (uI σ v0 5 v1) v0 3 (4 : Int32)) v0)
    (k2 : (¬ (zI σ v0 3) = 0) → (¬ (zI σ v0 4) < (3 : Int32)) → Q (uI (uI σ v0 5 v1) v0 3 (4 : Int32)) (some (.int (-(abF (uI (uI σ v0 5 v1) v0 3 (4 : Int32)) v0)))))
    (k3 : ((zI σ v0 3) = 0) → Q (uI (uI σ v0 5 v1) v0 3 (1 : Int32)) (some (.int (zI σ v0 2)))) :
    V g mX0_settle (Em g mX0_settle Q X) CX 0 0 0 [(0, .ref v0), (1, .int v1)] [] σ := by
  refine V_aload_n dX0_settle_0 rfl ?_
  refine V_iload_n dX0_settle_1 rfl ?_
  refine V_puti (fk := 5) ko_X0 rfl w_929 (Or.inl rfl) dX0_settle_2 rfl o1 o2 ?_
  refine V_aload_n dX0_settle_5 rfl ?_
  refine V_getf (fk := 3) (Value.int (zI σ v0 3)) ko_X0 rfl w_925 dX0_settle_6 o1 o2 (congrArg Value.int (zI_oth _ _ _ _ _ _ (by decide))) ?_
  refine V_if_ne 22 dX0_settle_9 rfl (fun c1 => ?_) (fun c1 => ?_)
  · refine V_aload_n dX0_settle_22 rfl ?_
    refine V_aload_n dX0_settle_23 rfl ?_
    refine V_getf (fk := 4) (Value.int (zI σ v0 4)) ko_X0 rfl w_927 dX0_settle_24 o1 o2 (congrArg Value.int (zI_oth _ _ _ _ _ _ (by decide))) ?_
    refine V_iconst (3 : Int32) dX0_settle_27 (by decide) ?_
    refine V_icmp_lt 35 dX0_settle_28 rfl (fun c2 => ?_) (fun c2 => ?_)
    · refine V_iconst (3 : Int32) dX0_settle_35 (by decide) ?_
      refine V_puti (fk := 3) ko_X0 rfl w_925 (Or.inl rfl) dX0_settle_36 rfl o1 o2 ?_
      refine V_aload_n dX0_settle_39 rfl ?_
      refine V_callV1 (as := []) (k' := 0) (n' := 0) (s_X0_amountBack (o3 c1 c2)) mw_X0_amountBack ko_X0 rfl w_974 w_17 w_972 ar_X0_amountBack rfl ⟨rfl, rfl, rfl, rfl, rfl⟩ dX0_settle_40 o1 o2 ?_
      refine V_ineg dX0_settle_43 ?_
      exact V_iret rfl dX0_settle_44 (k1 c1 c2)
    · refine V_iconst (4 : Int32) dX0_settle_31 (by decide) ?_
      refine V_goto 36 dX0_settle_32 rfl ?_
      refine V_puti (fk := 3) ko_X0 rfl w_925 (Or.inl rfl) dX0_settle_36 rfl o1 o2 ?_
      refine V_aload_n dX0_settle_39 rfl ?_
      refine V_callV1 (as := []) (k' := 0) (n' := 0) (s_X0_amountBack (o4 c1 c2)) mw_X0_amountBack ko_X0 rfl w_974 w_17 w_972 ar_X0_amountBack rfl ⟨rfl, rfl, rfl, rfl, rfl⟩ dX0_settle_40 o1 o2 ?_
      refine V_ineg dX0_settle_43 ?_
      exact V_iret rfl dX0_settle_44 (k2 c1 c2)
  · refine V_aload_n dX0_settle_12 rfl ?_
    refine V_iconst (1 : Int32) dX0_settle_13 (by decide) ?_
    refine V_puti (fk := 3) ko_X0 rfl w_925 (Or.inl rfl) dX0_settle_14 rfl o1 o2 ?_
    refine V_aload_n dX0_settle_17 rfl ?_
    refine V_getf (fk := 2) (Value.int (zI σ v0 2)) ko_X0 rfl w_923 dX0_settle_18 o1 o2 (congrArg Value.int ((zI_oth _ _ _ _ _ _ (by decide)).trans (zI_oth _ _ _ _ _ _ (by decide)))) ?_
    exact V_iret rfl dX0_settle_21 (k3 c1)

set_option maxRecDepth 100000 in
set_option maxHeartbeats 4000000 in
theorem b_X0_undo_0 {g : GP} {CX : State → Array Value → Prop} {Q : AH → Option Value → Prop} {X : AH → String → Prop} {v0 : Nat} {σ : AH}
    (o1 : v0 ≠ 0)
    (o2 : zK σ v0 = 0)
    (o3 : (¬ (zI σ v0 3) = (1 : Int32)) → BK (uI (uI σ v0 5 (0 : Int32)) v0 3 (2 : Int32)) v0)
    (k1 : (¬ (zI σ v0 3) = (1 : Int32)) → Q (uI (uI σ v0 5 (0 : Int32)) v0 3 (2 : Int32)) (some (.int (abF (uI (uI σ v0 5 (0 : Int32)) v0 3 (2 : Int32)) v0))))
    (k2 : ((zI σ v0 3) = (1 : Int32)) → Q (uI (uI σ v0 5 (0 : Int32)) v0 3 (0 : Int32)) (some (.int (-(zI σ v0 2))))) :
    V g mX0_undo (Em g mX0_undo Q X) CX 0 0 0 [(0, .ref v0)] [] σ := by
  refine V_aload_n dX0_undo_0 rfl ?_
  refine V_iconst (0 : Int32) dX0_undo_1 (by decide) ?_
  refine V_puti (fk := 5) ko_X0 rfl w_929 (Or.inl rfl) dX0_undo_2 rfl o1 o2 ?_
  refine V_aload_n dX0_undo_5 rfl ?_
  refine V_getf (fk := 3) (Value.int (zI σ v0 3)) ko_X0 rfl w_925 dX0_undo_6 o1 o2 (congrArg Value.int (zI_oth _ _ _ _ _ _ (by decide))) ?_
  refine V_iconst (1 : Int32) dX0_undo_9 (by decide) ?_
  refine V_icmp_ne 24 dX0_undo_10 rfl (fun c1 => ?_) (fun c1 => ?_)
  · refine V_aload_n dX0_undo_24 rfl ?_
    refine V_iconst (2 : Int32) dX0_undo_25 (by decide) ?_
    refine V_puti (fk := 3) ko_X0 rfl w_925 (Or.inl rfl) dX0_undo_26 rfl o1 o2 ?_
    refine V_aload_n dX0_undo_29 rfl ?_
    refine V_callV1 (as := []) (k' := 0) (n' := 0) (s_X0_amountBack (o3 c1)) mw_X0_amountBack ko_X0 rfl w_974 w_17 w_972 ar_X0_amountBack rfl ⟨rfl, rfl, rfl, rfl, rfl⟩ dX0_undo_30 o1 o2 ?_
    exact V_iret rfl dX0_undo_33 (k1 c1)
  · refine V_aload_n dX0_undo_13 rfl ?_
    refine V_iconst (0 : Int32) dX0_undo_14 (by decide) ?_
    refine V_puti (fk := 3) ko_X0 rfl w_925 (Or.inl rfl) dX0_undo_15 rfl o1 o2 ?_
    refine V_aload_n dX0_undo_18 rfl ?_
    refine V_getf (fk := 2) (Value.int (zI σ v0 2)) ko_X0 rfl w_923 dX0_undo_19 o1 o2 (congrArg Value.int ((zI_oth _ _ _ _ _ _ (by decide)).trans (zI_oth _ _ _ _ _ _ (by decide)))) ?_
    refine V_ineg dX0_undo_22 ?_
    exact V_iret rfl dX0_undo_23 (k2 c1)

theorem s_X0_isAsLeftBy {g : GP} {σ : AH} {a : Nat} {x : Int32} (h : BK σ a) : Ct g mX0_isAsLeftBy [.ref a, .int x] σ (FQ σ (some (.int (jb (zI σ a 5 = x ∧ ¬ (zI σ a 3 = 0 ∨ zI σ a 3 = 2)))))) :=
  Ct_of (by decide +kernel) rfl rfl (b_X0_isAsLeftBy_0 h.1 h.2 (fun c => fq_i (jb_f (fun q => c q.1)).symm) (fun _ => h) (fun _ c2 => fq_i (jb_f (fun q => q.2 c2)).symm) (fun c1 c2 => fq_i (jb_t ⟨c1, c2⟩).symm))
theorem ab_u {σ : AH} {a : Nat} {x y : Int32} : abF (uI (uI σ a 5 x) a 3 y) a = abF σ a := by
  have e : ∀ j, j ≠ 3 → j ≠ 5 → zI (uI (uI σ a 5 x) a 3 y) a j = zI σ a j := fun j h3 h5 => by
    rw [zI_uI, if_neg (fun q => h3 q.2), zI_uI, if_neg (fun q => h5 q.2)]
  rw [abF, abF, e 4 (by decide) (by decide), e 2 (by decide) (by decide)]
def seS (σ : AH) (a : Nat) : Int32 := if zI σ a 3 = 0 then 1 else if zI σ a 4 < 3 then 3 else 4
def seV (σ : AH) (a : Nat) : Int32 := if zI σ a 3 = 0 then zI σ a 2 else -(abF σ a)
theorem s_X0_settle {g : GP} {σ : AH} {a : Nat} {x : Int32} (h : BK σ a) : Ct g mX0_settle [.ref a, .int x] σ (FQ (uI (uI σ a 5 x) a 3 (seS σ a)) (some (.int (seV σ a)))) := by
  have e : ∀ y, abF (uI (uI σ a 5 x) a 3 y) a = abF σ a := fun y => ab_u
  refine Ct_of (by decide +kernel) rfl rfl (b_X0_settle_0 h.1 h.2 (fun _ _ => h) (fun c1 c2 => ?_) (fun _ _ => h) (fun c1 c2 => ?_) (fun c => ?_))
  · rw [e, seS, seV, if_neg c1, if_neg c1, if_pos c2]; exact fq
  · rw [e, seS, seV, if_neg c1, if_neg c1, if_neg c2]; exact fq
  · rw [seS, seV, if_pos c, if_pos c]; exact fq
def unV (σ : AH) (a : Nat) : Int32 := if zI σ a 3 = 1 then -(zI σ a 2) else abF σ a
theorem s_X0_undo {g : GP} {σ : AH} {a : Nat} (h : BK σ a) : Ct g mX0_undo [.ref a] σ (FQ (uI (uI σ a 5 0) a 3 (if zI σ a 3 = 1 then 0 else 2)) (some (.int (unV σ a)))) := by
  have e : ∀ y, abF (uI (uI σ a 5 0) a 3 y) a = abF σ a := fun y => ab_u
  refine Ct_of (by decide +kernel) rfl rfl (b_X0_undo_0 h.1 h.2 (fun _ => h) (fun c => ?_) (fun c => ?_))
  · rw [e, unV, if_neg c, if_neg c]; exact fq
  · rw [unV, if_pos c, if_pos c]; exact fq
