/-! ===== constructors ===== -/
theorem KN_nw {σ : AH} {κ n a z : Nat} (h : zK σ a = z ∧ a ≤ zN σ) : zK (nw σ κ n) a = z ∧ a ≤ zN (nw σ κ n) := zK_oldN h
theorem KN_uR {σ : AH} {a z b k x : Nat} (h : zK σ a = z ∧ a ≤ zN σ) : zK (uR σ b k x) a = z ∧ a ≤ zN (uR σ b k x) := h
theorem KN_uI {σ : AH} {a z b k : Nat} {x : Int32} (h : zK σ a = z ∧ a ≤ zN σ) : zK (uI σ b k x) a = z ∧ a ≤ zN (uI σ b k x) := h
theorem KN_uJ {σ : AH} {a z b k : Nat} {x : Int64} (h : zK σ a = z ∧ a ≤ zN σ) : zK (uJ σ b k x) a = z ∧ a ≤ zN (uJ σ b k x) := h
set_option maxRecDepth 100000 in
set_option maxHeartbeats 4000000 in
theorem b_X5_init_0 {g : GP} {CX : State → Array Value → Prop} {Q : AH → Option Value → Prop} {X : AH → String → Prop} {v0 : Nat} {σ : AH}
    (o1 : v0 ≠ 0)
    (k1 : Q σ none) :
    V g mX5_init (Em g mX5_init Q X) CX 0 0 0 [(0, .ref v0)] [] σ := by
  refine V_aload_n dX5_init_0 rfl ?_
  refine V_objinit w_122 w_46 w_47 dX5_init_1 o1 rfl rfl ?_
  exact V_vret rfl dX5_init_4 k1

set_option maxRecDepth 100000 in
set_option maxHeartbeats 4000000 in
theorem b_X6_init_0 {g : GP} {CX : State → Array Value → Prop} {Q : AH → Option Value → Prop} {X : AH → String → Prop} {v0 : Nat} {σ : AH}
    (o1 : v0 ≠ 0)
    (o2 : zK σ v0 = 6)
    (o3 : v0 ≤ zN σ)
    (k1 : Q (uR (nw σ 20 100) v0 0 (zN σ + 1)) none) :
    V g mX6_init (Em g mX6_init Q X) CX 1 100 0 [(0, .ref v0)] [] σ := by
  refine V_aload_n dX6_init_0 rfl ?_
  refine V_objinit w_59 w_46 w_47 dX6_init_1 o1 rfl rfl ?_
  refine V_aload_n dX6_init_4 rfl ?_
  refine V_bipush (100 : Int32) dX6_init_5 (by decide) ?_
  refine V_newi (len := 100) (k' := 0) (n' := 0) w_64 dX6_init_7 (by decide) (by decide) rfl rfl rfl ?_
  refine V_putr (fk := 0) ko_X6 rfl w_60 (Or.inr ⟨rfl, rfl, rfl⟩) dX6_init_9 rfl o1 (KN_nw ⟨o2, o3⟩).1 ?_
  exact V_vret rfl dX6_init_12 k1

set_option maxRecDepth 100000 in
set_option maxHeartbeats 4000000 in
theorem b_X10_init_0 {g : GP} {CX : State → Array Value → Prop} {Q : AH → Option Value → Prop} {X : AH → String → Prop} {v0 : Nat} {σ : AH}
    (o1 : v0 ≠ 0)
    (o2 : zK σ v0 = 10)
    (o3 : v0 ≤ zN σ)
    (k1 : Q (uI (uI (uR (nw (uR (nw (uR (nw σ 20 9) v0 0 (zN σ + 1)) 20 9) v0 1 (zN σ + 2)) 20 81) v0 2 (zN σ + 3)) v0 3 (-1 : Int32)) v0 4 (-1 : Int32)) none) :
    V g mX10_init (Em g mX10_init Q X) CX 3 99 0 [(0, .ref v0)] [] σ := by
  refine V_aload_n dX10_init_0 rfl ?_
  refine V_objinit w_155 w_46 w_47 dX10_init_1 o1 rfl rfl ?_
  refine V_aload_n dX10_init_4 rfl ?_
  refine V_bipush (9 : Int32) dX10_init_5 (by decide) ?_
  refine V_newi (len := 9) (k' := 2) (n' := 90) w_64 dX10_init_7 (by decide) (by decide) rfl rfl rfl ?_
  refine V_putr (fk := 0) ko_X10 rfl w_156 (Or.inr ⟨rfl, rfl, rfl⟩) dX10_init_9 rfl o1 (KN_nw ⟨o2, o3⟩).1 ?_
  refine V_aload_n dX10_init_12 rfl ?_
  refine V_bipush (9 : Int32) dX10_init_13 (by decide) ?_
  refine V_newi (len := 9) (k' := 1) (n' := 81) w_64 dX10_init_15 (by decide) (by decide) rfl rfl rfl ?_
  refine V_putr (fk := 1) ko_X10 rfl w_157 (Or.inr ⟨rfl, rfl, rfl⟩) dX10_init_17 rfl o1 (KN_nw (KN_uR (KN_nw ⟨o2, o3⟩))).1 ?_
  refine V_aload_n dX10_init_20 rfl ?_
  refine V_bipush (81 : Int32) dX10_init_21 (by decide) ?_
  refine V_newi (len := 81) (k' := 0) (n' := 0) w_64 dX10_init_23 (by decide) (by decide) rfl rfl rfl ?_
  refine V_putr (fk := 2) ko_X10 rfl w_158 (Or.inr ⟨rfl, rfl, rfl⟩) dX10_init_25 rfl o1 (KN_nw (KN_uR (KN_nw (KN_uR (KN_nw ⟨o2, o3⟩))))).1 ?_
  refine V_aload_n dX10_init_28 rfl ?_
  refine V_iconst (-1 : Int32) dX10_init_29 (by decide) ?_
  refine V_puti (fk := 3) ko_X10 rfl w_159 (Or.inl rfl) dX10_init_30 rfl o1 (KN_uR (KN_nw (KN_uR (KN_nw (KN_uR (KN_nw ⟨o2, o3⟩)))))).1 ?_
  refine V_aload_n dX10_init_33 rfl ?_
  refine V_iconst (-1 : Int32) dX10_init_34 (by decide) ?_
  refine V_puti (fk := 4) ko_X10 rfl w_161 (Or.inl rfl) dX10_init_35 rfl o1 (KN_uI (KN_uR (KN_nw (KN_uR (KN_nw (KN_uR (KN_nw ⟨o2, o3⟩))))))).1 ?_
  exact V_vret rfl dX10_init_38 k1

set_option maxRecDepth 100000 in
set_option maxHeartbeats 4000000 in
theorem b_X1_init_0 {g : GP} {CX : State → Array Value → Prop} {Q : AH → Option Value → Prop} {X : AH → String → Prop} {v0 : Nat} {σ : AH}
    (o1 : v0 ≠ 0)
    (o2 : zK σ v0 = 1)
    (o3 : v0 ≤ zN σ)
    (k1 : Q (uR (nw (uR (nw σ 30 240) v0 0 (zN σ + 1)) 21 5) v0 1 (zN σ + 2)) none) :
    V g mX1_init (Em g mX1_init Q X) CX 2 245 0 [(0, .ref v0)] [] σ := by
  refine V_aload_n dX1_init_0 rfl ?_
  refine V_objinit w_179 w_46 w_47 dX1_init_1 o1 rfl rfl ?_
  refine V_aload_n dX1_init_4 rfl ?_
  refine V_sipush (240 : Int32) dX1_init_5 (by decide) ?_
  refine V_newq (len := 240) (k' := 1) (n' := 5) ao_30 (by decide +kernel) w_180 dX1_init_8 (by decide) (by decide) rfl rfl rfl ?_
  refine V_putr (fk := 0) ko_X1 rfl w_182 (Or.inr ⟨rfl, rfl, rfl⟩) dX1_init_11 rfl o1 (KN_nw ⟨o2, o3⟩).1 ?_
  refine V_aload_n dX1_init_14 rfl ?_
  refine V_iconst (5 : Int32) dX1_init_15 (by decide) ?_
  refine V_newl (len := 5) (k' := 0) (n' := 0) w_201 dX1_init_16 (by decide) (by decide) rfl rfl rfl ?_
  refine V_putr (fk := 1) ko_X1 rfl w_183 (Or.inr ⟨rfl, rfl, rfl⟩) dX1_init_18 rfl o1 (KN_nw (KN_uR (KN_nw ⟨o2, o3⟩))).1 ?_
  exact V_vret rfl dX1_init_21 k1

theorem s_X5_init {g : GP} {σ : AH} {a : Nat} (h0 : a ≠ 0) : Ct g mX5_init [.ref a] σ (FQ σ none) := Ct_of (by decide +kernel) rfl rfl (b_X5_init_0 h0 fq)
def pairsH (σ : AH) (a : Nat) : AH := uR (nw σ 20 100) a 0 (zN σ + 1)
theorem KN_pairsH {σ : AH} {a z b : Nat} (h : zK σ a = z ∧ a ≤ zN σ) : zK (pairsH σ b) a = z ∧ a ≤ zN (pairsH σ b) := KN_uR (KN_nw h)
theorem s_X6_init {g : GP} {σ : AH} {a : Nat} (h0 : a ≠ 0) (h1 : zK σ a = 6) (h2 : a ≤ zN σ) : Ct g mX6_init [.ref a] σ (FQ (pairsH σ a) none) := Ct_of (by decide +kernel) rfl rfl (b_X6_init_0 h0 h1 h2 fq)
def waysH (σ : AH) (a : Nat) : AH := uI (uI (uR (nw (uR (nw (uR (nw σ 20 9) a 0 (zN σ + 1)) 20 9) a 1 (zN σ + 2)) 20 81) a 2 (zN σ + 3)) a 3 (-1 : Int32)) a 4 (-1 : Int32)
theorem KN_waysH {σ : AH} {a z b : Nat} (h : zK σ a = z ∧ a ≤ zN σ) : zK (waysH σ b) a = z ∧ a ≤ zN (waysH σ b) := KN_uI (KN_uI (KN_uR (KN_nw (KN_uR (KN_nw (KN_uR (KN_nw h)))))))
theorem s_X10_init {g : GP} {σ : AH} {a : Nat} (h0 : a ≠ 0) (h1 : zK σ a = 10) (h2 : a ≤ zN σ) : Ct g mX10_init [.ref a] σ (FQ (waysH σ a) none) := Ct_of (by decide +kernel) rfl rfl (b_X10_init_0 h0 h1 h2 fq)
def clrH (σ : AH) (a : Nat) : AH := uR (nw (uR (nw σ 30 240) a 0 (zN σ + 1)) 21 5) a 1 (zN σ + 2)
theorem KN_clrH {σ : AH} {a z b : Nat} (h : zK σ a = z ∧ a ≤ zN σ) : zK (clrH σ b) a = z ∧ a ≤ zN (clrH σ b) := KN_uR (KN_nw (KN_uR (KN_nw h)))
theorem s_X1_init {g : GP} {σ : AH} {a : Nat} (h0 : a ≠ 0) (h1 : zK σ a = 1) (h2 : a ≤ zN σ) : Ct g mX1_init [.ref a] σ (FQ (clrH σ a) none) := Ct_of (by decide +kernel) rfl rfl (b_X1_init_0 h0 h1 h2 fq)
set_option maxRecDepth 100000 in
set_option maxHeartbeats 4000000 in
theorem b_X8_init_0 {g : GP} {CX : State → Array Value → Prop} {Q : AH → Option Value → Prop} {X : AH → String → Prop} {v0 : Nat} {σ : AH}
    (o1 : v0 ≠ 0)
    (o2 : (zN σ + 1) ≠ 0)
    (o3 : zK (nw σ 6 1) (zN σ + 1) = 6)
    (o4 : (zN σ + 1) ≤ zN (nw σ 6 1))
    (o5 : zK σ v0 = 8)
    (o6 : v0 ≤ zN σ)
    (k1 : Q (uI (uR (nw (uR (nw (uR (nw (uR (pairsH (nw σ 6 1) (zN σ + 1)) v0 0 (zN σ + 1)) 33 40) v0 1 (zN σ + 3)) 20 10) v0 2 (zN σ + 4)) 20 10) v0 3 (zN σ + 5)) v0 5 (1 : Int32)) none) :
    V g mX8_init (Em g mX8_init Q X) CX 5 161 0 [(0, .ref v0)] [] σ := by
  refine V_aload_n dX8_init_0 rfl ?_
  refine V_objinit w_53 w_46 w_47 dX8_init_1 o1 rfl rfl ?_
  refine V_aload_n dX8_init_4 rfl ?_
  refine V_new (k' := 4) (n' := 160) ko_X6 kd_X6 w_54 w_55 w_23 dX8_init_5 rfl rfl ?_
  refine V_dup dX8_init_8 rfl ?_
  refine V_callIN0 (as := []) (k' := 3) (n' := 60) (s_X6_init o2 o3 o4) mw_X6_init rfl rfl w_57 wn_56 ar_X6_init rfl ⟨rfl, rfl, rfl, rfl, rfl⟩ dX8_init_9 (Nat.succ_ne_zero _) ?_
  refine V_putr (fk := 0) ko_X8 rfl w_67 (Or.inr ⟨rfl, rfl, rfl⟩) dX8_init_12 rfl o1 (KN_pairsH (KN_nw ⟨o5, o6⟩)).1 ?_
  refine V_aload_n dX8_init_15 rfl ?_
  refine V_bipush (40 : Int32) dX8_init_16 (by decide) ?_
  refine V_newq (len := 40) (k' := 2) (n' := 20) ao_33 (by decide +kernel) w_65 dX8_init_18 (by decide) (by decide) rfl rfl rfl ?_
  refine V_putr (fk := 1) ko_X8 rfl w_70 (Or.inr ⟨rfl, rfl, rfl⟩) dX8_init_21 rfl o1 (KN_nw (KN_uR (KN_pairsH (KN_nw ⟨o5, o6⟩)))).1 ?_
  refine V_aload_n dX8_init_24 rfl ?_
  refine V_bipush (10 : Int32) dX8_init_25 (by decide) ?_
  refine V_newi (len := 10) (k' := 1) (n' := 10) w_64 dX8_init_27 (by decide) (by decide) rfl rfl rfl ?_
  refine V_putr (fk := 2) ko_X8 rfl w_71 (Or.inr ⟨rfl, rfl, rfl⟩) dX8_init_29 rfl o1 (KN_nw (KN_uR (KN_nw (KN_uR (KN_pairsH (KN_nw ⟨o5, o6⟩)))))).1 ?_
  refine V_aload_n dX8_init_32 rfl ?_
  refine V_bipush (10 : Int32) dX8_init_33 (by decide) ?_
  refine V_newi (len := 10) (k' := 0) (n' := 0) w_64 dX8_init_35 (by decide) (by decide) rfl rfl rfl ?_
  refine V_putr (fk := 3) ko_X8 rfl w_72 (Or.inr ⟨rfl, rfl, rfl⟩) dX8_init_37 rfl o1 (KN_nw (KN_uR (KN_nw (KN_uR (KN_nw (KN_uR (KN_pairsH (KN_nw ⟨o5, o6⟩)))))))).1 ?_
  refine V_aload_n dX8_init_40 rfl ?_
  refine V_iconst (1 : Int32) dX8_init_41 (by decide) ?_
  refine V_puti (fk := 5) ko_X8 rfl w_75 (Or.inl rfl) dX8_init_42 rfl o1 (KN_uR (KN_nw (KN_uR (KN_nw (KN_uR (KN_nw (KN_uR (KN_pairsH (KN_nw ⟨o5, o6⟩))))))))).1 ?_
  exact V_vret rfl dX8_init_45 k1

set_option maxRecDepth 100000 in
set_option maxHeartbeats 4000000 in
theorem b_X7_init_0 {g : GP} {CX : State → Array Value → Prop} {E : ET} {v0 : Nat} {σ : AH}
    (o1 : v0 ≠ 0)
    (o2 : (zN σ + 1) ≠ 0)
    (o3 : zK (nw σ 6 1) (zN σ + 1) = 6)
    (o4 : (zN σ + 1) ≤ zN (nw σ 6 1))
    (o5 : zK σ v0 = 7)
    (o6 : v0 ≤ zN σ)
    (k1 : V g mX7_init E CX 0 0 26 [(0, .ref v0), (1, .int (0 : Int32))] [] (uR (nw (uR (pairsH (nw σ 6 1) (zN σ + 1)) v0 0 (zN σ + 1)) 20 500) v0 1 (zN σ + 3))) :
    V g mX7_init E CX 3 601 0 [(0, .ref v0)] [] σ := by
  refine V_aload_n dX7_init_0 rfl ?_
  refine V_objinit w_99 w_46 w_47 dX7_init_1 o1 rfl rfl ?_
  refine V_aload_n dX7_init_4 rfl ?_
  refine V_new (k' := 2) (n' := 600) ko_X6 kd_X6 w_100 w_55 w_23 dX7_init_5 rfl rfl ?_
  refine V_dup dX7_init_8 rfl ?_
  refine V_callIN0 (as := []) (k' := 1) (n' := 500) (s_X6_init o2 o3 o4) mw_X6_init rfl rfl w_57 wn_101 ar_X6_init rfl ⟨rfl, rfl, rfl, rfl, rfl⟩ dX7_init_9 (Nat.succ_ne_zero _) ?_
  refine V_putr (fk := 0) ko_X7 rfl w_102 (Or.inr ⟨rfl, rfl, rfl⟩) dX7_init_12 rfl o1 (KN_pairsH (KN_nw ⟨o5, o6⟩)).1 ?_
  refine V_aload_n dX7_init_15 rfl ?_
  refine V_sipush (500 : Int32) dX7_init_16 (by decide) ?_
  refine V_newi (len := 500) (k' := 0) (n' := 0) w_64 dX7_init_19 (by decide) (by decide) rfl rfl rfl ?_
  refine V_putr (fk := 1) ko_X7 rfl w_104 (Or.inr ⟨rfl, rfl, rfl⟩) dX7_init_21 rfl o1 (KN_nw (KN_uR (KN_pairsH (KN_nw ⟨o5, o6⟩)))).1 ?_
  refine V_iconst (0 : Int32) dX7_init_24 (by decide) ?_
  refine V_istore_n [(0, .ref v0), (1, .int (0 : Int32))] dX7_init_25 rfl rfl ?_
  exact k1
set_option maxRecDepth 100000 in
set_option maxHeartbeats 4000000 in
theorem b_X7_init_26 {g : GP} {CX : State → Array Value → Prop} {Q : AH → Option Value → Prop} {X : AH → String → Prop} {v0 : Nat} {v1 : Int32} {σ : AH}
    (o1 : v0 ≠ 0)
    (o2 : zK σ v0 = 7)
    (o3 : zR σ v0 1 ≠ 0)
    (o4 : zK σ (zR σ v0 1) = 20)
    (k1 : ((nI (zL σ (zR σ v0 1))) ≤ v1) → Q σ none)
    (o5 : (¬ (nI (zL σ (zR σ v0 1))) ≤ v1) → vp_in v1 (zL σ (zR σ v0 1)))
    (k2 : (¬ (nI (zL σ (zR σ v0 1))) ≤ v1) → V g mX7_init (Em g mX7_init Q X) CX 0 0 26 [(0, .ref v0), (1, .int (v1 + (1 : Int32)))] [] (uI σ (zR σ v0 1) (Int32.toNatClampNeg v1) (-1 : Int32))) :
    V g mX7_init (Em g mX7_init Q X) CX 0 0 26 [(0, .ref v0), (1, .int v1)] [] σ := by
  refine V_iload_n dX7_init_26 rfl ?_
  refine V_aload_n dX7_init_27 rfl ?_
  refine V_getf (fk := 1) (Value.ref (zR σ v0 1)) ko_X7 rfl w_104 dX7_init_28 o1 o2 rfl ?_
  refine V_alen (κ := 0) dX7_init_31 o3 o4 ?_
  refine V_icmp_ge 48 dX7_init_32 rfl (fun c1 => ?_) (fun c1 => ?_)
  · exact V_vret rfl dX7_init_48 (k1 c1)
  · refine V_aload_n dX7_init_35 rfl ?_
    refine V_getf (fk := 1) (Value.ref (zR σ v0 1)) ko_X7 rfl w_104 dX7_init_36 o1 o2 rfl ?_
    refine V_iload_n dX7_init_39 rfl ?_
    refine V_iconst (-1 : Int32) dX7_init_40 (by decide) ?_
    refine V_iast dX7_init_41 o3 o4 (o5 c1) ?_
    refine V_iinc (v1 + (1 : Int32)) [(0, .ref v0), (1, .int (v1 + (1 : Int32)))] dX7_init_42 rfl rfl rfl rfl ?_
    refine V_goto 26 dX7_init_45 rfl ?_
    exact (k2 c1)

set_option maxRecDepth 100000 in
set_option maxHeartbeats 4000000 in
theorem b_X4_init_0 {g : GP} {CX : State → Array Value → Prop} {E : ET} {v0 : Nat} {σ : AH}
    (o1 : v0 ≠ 0)
    (o2 : zK σ v0 = 4)
    (o3 : v0 ≤ zN σ)
    (k1 : V g mX4_init E CX 8 32 15 [(0, .ref v0), (1, .int (0 : Int32))] [] (uR (nw σ 35 8) v0 0 (zN σ + 1))) :
    V g mX4_init E CX 9 40 0 [(0, .ref v0)] [] σ := by
  refine V_aload_n dX4_init_0 rfl ?_
  refine V_objinit w_115 w_46 w_47 dX4_init_1 o1 rfl rfl ?_
  refine V_aload_n dX4_init_4 rfl ?_
  refine V_bipush (8 : Int32) dX4_init_5 (by decide) ?_
  refine V_newq (len := 8) (k' := 8) (n' := 32) ao_35 (by decide +kernel) w_116 dX4_init_7 (by decide) (by decide) rfl rfl rfl ?_
  refine V_putr (fk := 0) ko_X4 rfl w_141 (Or.inr ⟨rfl, rfl, rfl⟩) dX4_init_10 rfl o1 (KN_nw ⟨o2, o3⟩).1 ?_
  refine V_iconst (0 : Int32) dX4_init_13 (by decide) ?_
  refine V_istore_n [(0, .ref v0), (1, .int (0 : Int32))] dX4_init_14 rfl rfl ?_
  exact k1
set_option maxRecDepth 100000 in
set_option maxHeartbeats 4000000 in
theorem b_X4_init_15 {g : GP} {kk nn : Nat} {CX : State → Array Value → Prop} {Q : AH → Option Value → Prop} {X : AH → String → Prop} {v0 : Nat} {v1 : Int32} {σ : AH}
    (k1 : ((8 : Int32) ≤ v1) → Q σ none)
    (o1 : v0 ≠ 0)
    (o2 : zK σ v0 = 4)
    (o3 : (¬ (8 : Int32) ≤ v1) → (zN σ + 1) ≠ 0)
    (o4 : zR σ v0 0 ≠ 0)
    (o5 : (¬ (8 : Int32) ≤ v1) → zK (nw σ 5 4) (zR σ v0 0) = 35)
    (o6 : (¬ (8 : Int32) ≤ v1) → vp_in v1 (zL (nw σ 5 4) (zR σ v0 0)))
    (k2 : (¬ (8 : Int32) ≤ v1) → V g mX4_init (Em g mX4_init Q X) CX kk nn 15 [(0, .ref v0), (1, .int (v1 + (1 : Int32)))] [] (uR (nw σ 5 4) (zR σ v0 0) (Int32.toNatClampNeg v1) (zN σ + 1))) :
    V g mX4_init (Em g mX4_init Q X) CX (kk + 1) (nn + 4) 15 [(0, .ref v0), (1, .int v1)] [] σ := by
  refine V_iload_n dX4_init_15 rfl ?_
  refine V_bipush (8 : Int32) dX4_init_16 (by decide) ?_
  refine V_icmp_ge 40 dX4_init_18 rfl (fun c1 => ?_) (fun c1 => ?_)
  · exact V_vret rfl dX4_init_40 (k1 c1)
  · refine V_aload_n dX4_init_21 rfl ?_
    refine V_getf (fk := 0) (Value.ref (zR σ v0 0)) ko_X4 rfl w_141 dX4_init_22 o1 o2 rfl ?_
    refine V_iload_n dX4_init_25 rfl ?_
    refine V_new (k' := kk) (n' := nn) ko_X5 kd_X5 w_116 w_118 w_26 dX4_init_26 (Nat.ble_self_eq_true _) (Nat.ble_self_eq_true _) ?_
    refine V_dup dX4_init_29 rfl ?_
    refine V_callIN0 (as := []) (k' := kk) (n' := nn) (s_X5_init (o3 c1)) mw_X5_init rfl rfl w_120 wn_119 ar_X5_init rfl ⟨rfl, rfl, ble_z _, ble_z _, rfl⟩ dX4_init_30 (Nat.succ_ne_zero _) ?_
    refine V_aast ao_35 ko_X5 dX4_init_33 o4 (o5 c1) (o6 c1) (Nat.succ_ne_zero _) (by simp [zK_nw, zN_nw, zN_uI, zN_uJ, zN_uR, zK_uI, zK_uJ, zK_uR]) ?_
    refine V_iinc (v1 + (1 : Int32)) [(0, .ref v0), (1, .int (v1 + (1 : Int32)))] dX4_init_34 rfl rfl rfl rfl ?_
    refine V_goto 15 dX4_init_37 rfl ?_
    exact (k2 c1)

def trfH (σ : AH) (a : Nat) : AH := uI (uR (nw (uR (nw (uR (nw (uR (pairsH (nw σ 6 1) (zN σ + 1)) a 0 (zN σ + 1)) 33 40) a 1 (zN σ + 3)) 20 10) a 2 (zN σ + 4)) 20 10) a 3 (zN σ + 5)) a 5 (1 : Int32)
theorem KN_trfH {σ : AH} {a z b : Nat} (h : zK σ a = z ∧ a ≤ zN σ) : zK (trfH σ b) a = z ∧ a ≤ zN (trfH σ b) := KN_uI (KN_uR (KN_nw (KN_uR (KN_nw (KN_uR (KN_nw (KN_uR (KN_pairsH (KN_nw h)))))))))
theorem s_X8_init {g : GP} {σ : AH} {a : Nat} (h0 : a ≠ 0) (h1 : zK σ a = 8) (h2 : a ≤ zN σ) : Ct g mX8_init [.ref a] σ (FQ (trfH σ a) none) := Ct_of (by decide +kernel) rfl rfl (b_X8_init_0 h0 (Nat.succ_ne_zero _) (by rw [zK_nw, if_pos rfl]) (Nat.le_refl _) h1 h2 fq)
/-- provisos: none -/
def prB (σ : AH) (a : Nat) : AH := uR (nw (uR (pairsH (nw σ 6 1) (zN σ + 1)) a 0 (zN σ + 1)) 20 500) a 1 (zN σ + 3)
def prF (σ : AH) (a d : Nat) : AH := sI (prB σ a) (fun b j => if b = zN σ + 3 ∧ j < d then -1 else zI (prB σ a) b j)
theorem KN_prB {σ : AH} {a z b : Nat} (h : zK σ a = z ∧ a ≤ zN σ) : zK (prB σ b) a = z ∧ a ≤ zN (prB σ b) := KN_uR (KN_nw (KN_uR (KN_pairsH (KN_nw h))))
theorem sI_4 {σ : AH} {F : Nat → Nat → Int32} : zN (sI σ F) = zN σ ∧ zK (sI σ F) = zK σ ∧ zL (sI σ F) = zL σ ∧ zR (sI σ F) = zR σ := ⟨rfl, rfl, rfl, rfl⟩
theorem prF_4 {σ : AH} {a d : Nat} : zN (prF σ a d) = zN (prB σ a) ∧ zK (prF σ a d) = zK (prB σ a) ∧ zL (prF σ a d) = zL (prB σ a) ∧ zR (prF σ a d) = zR (prB σ a) := by rw [prF]; exact sI_4
theorem KN_prF {σ : AH} {a z b d : Nat} (h : zK σ a = z ∧ a ≤ zN σ) : zK (prF σ b d) a = z ∧ a ≤ zN (prF σ b d) := by rw [prF_4.1, prF_4.2.1]; exact KN_prB h
theorem s_X7_init {g : GP} {σ : AH} {a : Nat} (h0 : a ≠ 0) (h1 : zK σ a = 7) (h2 : a ≤ zN σ) : Ct g mX7_init [.ref a] σ (FQ (prF σ a 500) none) := by
  refine Ct_of (by decide +kernel) rfl rfl (b_X7_init_0 h0 (Nat.succ_ne_zero _) (by rw [zK_nw, if_pos rfl]) (Nat.le_refl _) h1 h2 ?_)
  have e0 : prB σ a = prF σ a 0 := (sI_self _).symm.trans (sI_cg (fun b j => by rw [if_neg (by omega)]))
  have eK : ∀ d, zK (prF σ a d) a = 7 := fun d => by
    exact (KN_prF ⟨h1, h2⟩).1
  have eR : ∀ d, zR (prF σ a d) a 1 = zN σ + 3 := fun d => by
    rw [prF_4.2.2.2, prB, zR_uR, if_pos ⟨rfl, rfl⟩]
  have eK3 : ∀ d, zK (prF σ a d) (zN σ + 3) = 20 := fun d => by
    rw [prF_4.2.1, prB, zK_uR, zK_nw, zN_uR, pairsH, zN_uR, zN_nw, zN_nw, if_pos rfl]
  have eL3 : ∀ d, zL (prF σ a d) (zN σ + 3) = 500 := fun d => by
    rw [prF_4.2.2.1, prB, zL_uR, zL_nw, zN_uR, pairsH, zN_uR, zN_nw, zN_nw, if_pos rfl]
  refine V_cast rfl rfl e0 (up_loop (P := fun d => V g mX7_init (Em g mX7_init (FQ (prF σ a 500) none) NX) CT 0 0 26 [(0, .ref a), (1, .int (nI d))] [] (prF σ a d)) 500 ?_ ?_ 0 (by decide))
  · have hle : nI (zL (prF σ a 500) (zR (prF σ a 500) a 1)) ≤ nI 500 := by rw [eR, eL3]; exact Int32.le_refl _
    exact b_X7_init_26 h0 (eK _) (by rw [eR]; exact Nat.succ_ne_zero _) (by rw [eR, eK3]) (fun _ => fq) (fun c => absurd hle c) (fun c => absurd hle c)
  · intro d hd ih
    have hlt : ¬ nI (zL (prF σ a d) (zR (prF σ a d) a 1)) ≤ nI d := by rw [eR, eL3]; exact nI_ge hd (by decide)
    have hc : (nI d).toNatClampNeg = d := cl0 (by omega)
    rw [← nI_1] at ih
    refine b_X7_init_26 h0 (eK _) (by rw [eR]; exact Nat.succ_ne_zero _) (by rw [eR, eK3]) (fun c => absurd c hlt) (fun _ => by rw [eR, eL3]; exact vp_in_nI hd (by decide)) (fun _ => ?_)
    rw [eR, hc]
    refine V_cast rfl rfl ?_ ih
    rw [prF, uI_sI]
    refine sI_cg (fun b j => ?_)
    by_cases h : b = zN σ + 3 ∧ j = d
    · rw [if_pos h, if_pos ⟨h.1, by omega⟩]
    · rw [if_neg h]
      by_cases h2 : b = zN σ + 3 ∧ j < d
      · rw [if_pos h2, if_pos ⟨h2.1, by omega⟩]
      · rw [if_neg h2, if_neg (by omega)]
/-- rows for legs -/
def lgH (σ : AH) (a : Nat) : Nat → AH
  | 0 => uR (nw σ 35 8) a 0 (zN σ + 1)
  | d + 1 => uR (nw (lgH σ a d) 5 4) (zN σ + 1) d (zN σ + 2 + d)
theorem lgH_f {σ : AH} {a : Nat} (h1 : zK σ a = 4) (h2 : a ≤ zN σ) : ∀ d, zN (lgH σ a d) = zN σ + 1 + d ∧ zK (lgH σ a d) a = 4 ∧ zR (lgH σ a d) a 0 = zN σ + 1 ∧ zK (lgH σ a d) (zN σ + 1) = 35 ∧ zL (lgH σ a d) (zN σ + 1) = 8
  | 0 => ⟨rfl, by rw [lgH, zK_uR, zK_nw, if_neg (by omega)]; exact h1, by rw [lgH, zR_uR, if_pos ⟨rfl, rfl⟩], by rw [lgH, zK_uR, zK_nw, if_pos rfl], by rw [lgH, zL_uR, zL_nw, if_pos rfl]⟩
  | d + 1 => by
    obtain ⟨e1, e2, e3, e4, e5⟩ := lgH_f h1 h2 d
    rw [lgH]
    generalize lgH σ a d = τ at *
    refine ⟨by rw [zN_uR, zN_nw, e1]; omega, ?_, ?_, ?_, ?_⟩
    · rw [zK_uR, zK_nw, if_neg (by omega)]; exact e2
    · rw [zR_uR, if_neg (by omega), zR_nw, if_neg (by omega)]; exact e3
    · rw [zK_uR, zK_nw, if_neg (by omega)]; exact e4
    · rw [zL_uR, zL_nw, if_neg (by omega)]; exact e5
theorem KN_lgH {σ : AH} {a z b : Nat} (h : zK σ a = z ∧ a ≤ zN σ) : ∀ {d : Nat}, zK (lgH σ b d) a = z ∧ a ≤ zN (lgH σ b d)
  | 0 => KN_uR (KN_nw h)
  | _ + 1 => KN_uR (KN_nw (KN_lgH h))
theorem s_X4_init {g : GP} {σ : AH} {a : Nat} (h0 : a ≠ 0) (h1 : zK σ a = 4) (h2 : a ≤ zN σ) : Ct g mX4_init [.ref a] σ (FQ (lgH σ a 8) none) := by
  refine Ct_of (by decide +kernel) rfl rfl (b_X4_init_0 h0 h1 h2 ?_)
  have ef := fun d => lgH_f h1 h2 (σ := σ) (a := a) d
  show V g mX4_init (Em g mX4_init (FQ (lgH σ a 8) none) NX) CT (8 - 0) (32 - 4 * 0) 15 [(0, .ref a), (1, .int (nI 0))] [] (lgH σ a 0)
  refine up_loop (P := fun d => V g mX4_init (Em g mX4_init (FQ (lgH σ a 8) none) NX) CT (8 - d) (32 - 4 * d) 15 [(0, .ref a), (1, .int (nI d))] [] (lgH σ a d)) 8 ?_ ?_ 0 (by decide)
  · obtain ⟨e1, e2, e3, e4, e5⟩ := ef 8
    have hle : (8 : Int32) ≤ nI 8 := Int32.le_refl _
    refine V_iload_n dX4_init_15 rfl ?_
    refine V_bipush (8 : Int32) dX4_init_16 (by decide) ?_
    refine V_icmp_ge 40 dX4_init_18 rfl (fun _ => ?_) (fun c => absurd hle c)
    exact V_vret rfl dX4_init_40 fq
  · intro d hd ih
    obtain ⟨e1, e2, e3, e4, e5⟩ := ef d
    have hlt : ¬ (8 : Int32) ≤ nI d := nI_ge (a := d) (b := 8) hd (by decide)
    have hc : (nI d).toNatClampNeg = d := cl0 (by omega)
    have eb : 8 - d = (7 - d) + 1 ∧ 32 - 4 * d = (28 - 4 * d) + 4 ∧ 8 - (d + 1) = 7 - d ∧ 32 - 4 * (d + 1) = 28 - 4 * d := by omega
    rw [eb.1, eb.2.1]
    rw [eb.2.2.1, eb.2.2.2, ← nI_1, lgH] at ih
    refine b_X4_init_15 (fun c => absurd c hlt) h0 e2 (fun _ => Nat.succ_ne_zero _) (by rw [e3]; exact Nat.succ_ne_zero _) (fun _ => by rw [e3, zK_nw, if_neg (by omega)]; exact e4) (fun _ => by rw [e3, zL_nw, if_neg (by omega), e5]; exact vp_in_nI hd (by decide)) (fun _ => ?_)
    rw [e3, hc, e1, show zN σ + 1 + d + 1 = zN σ + 2 + d by omega]
    exact ih
