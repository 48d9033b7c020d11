/-! ===== the class: new rows ===== -/
set_option maxRecDepth 100000 in
set_option maxHeartbeats 4000000 in
theorem b_X2_init_0 {g : GP} {CX : State → Array Value → Prop} {Q : AH → Option Value → Prop} {X : AH → String → Prop} {v0 : Nat} {v1 : Nat} {v2 : Int32} {σ : AH}
    (o1 : v0 ≠ 0)
    (o2 : zK σ v0 = 2)
    (o3 : v1 ≠ 0)
    (o4 : zK σ v1 = 5)
    (k1 : Q (uI (uI (uI (uI (uI (uI (uI σ v0 7 (0 : Int32)) v0 8 (-1 : Int32)) v0 0 (zI σ v1 0)) v0 1 (zI σ v1 1)) v0 2 (zI σ v1 3)) v0 4 (zI (uI (uI (uI (uI (uI σ v0 7 (0 : Int32)) v0 8 (-1 : Int32)) v0 0 (zI σ v1 0)) v0 1 (zI σ v1 1)) v0 2 (zI σ v1 3)) v1 2)) v0 3 v2) none) :
    V g mX2_init (Em g mX2_init Q X) CX 0 0 0 [(0, .ref v0), (1, .ref v1), (2, .int v2)] [] σ := by
  refine V_aload_n dX2_init_0 rfl ?_
  refine V_objinit w_769 w_46 w_47 dX2_init_1 o1 rfl rfl ?_
  refine V_aload_n dX2_init_4 rfl ?_
  refine V_iconst (0 : Int32) dX2_init_5 (by decide) ?_
  refine V_puti (fk := 7) ko_X2 rfl w_787 (Or.inl rfl) dX2_init_6 rfl o1 o2 ?_
  refine V_aload_n dX2_init_9 rfl ?_
  refine V_iconst (-1 : Int32) dX2_init_10 (by decide) ?_
  refine V_puti (fk := 8) ko_X2 rfl w_790 (Or.inl rfl) dX2_init_11 rfl o1 o2 ?_
  refine V_aload_n dX2_init_14 rfl ?_
  refine V_aload_n dX2_init_15 rfl ?_
  refine V_getf (fk := 0) (Value.int (zI σ v1 0)) ko_X5 rfl w_123 dX2_init_16 o3 o4 (congrArg Value.int ((zI_oth _ _ _ _ _ _ (by decide)).trans (zI_oth _ _ _ _ _ _ (by decide)))) ?_
  refine V_puti (fk := 0) ko_X2 rfl w_770 (Or.inr ⟨rfl, rfl, rfl⟩) dX2_init_19 rfl o1 o2 ?_
  refine V_aload_n dX2_init_22 rfl ?_
  refine V_aload_n dX2_init_23 rfl ?_
  refine V_getf (fk := 1) (Value.int (zI σ v1 1)) ko_X5 rfl w_126 dX2_init_24 o3 o4 (congrArg Value.int (((zI_oth _ _ _ _ _ _ (by decide)).trans (zI_oth _ _ _ _ _ _ (by decide))).trans (zI_oth _ _ _ _ _ _ (by decide)))) ?_
  refine V_puti (fk := 1) ko_X2 rfl w_773 (Or.inr ⟨rfl, rfl, rfl⟩) dX2_init_27 rfl o1 o2 ?_
  refine V_aload_n dX2_init_30 rfl ?_
  refine V_aload_n dX2_init_31 rfl ?_
  refine V_getf (fk := 3) (Value.int (zI σ v1 3)) ko_X5 rfl w_130 dX2_init_32 o3 o4 (congrArg Value.int ((((zI_oth _ _ _ _ _ _ (by decide)).trans (zI_oth _ _ _ _ _ _ (by decide))).trans (zI_oth _ _ _ _ _ _ (by decide))).trans (zI_oth _ _ _ _ _ _ (by decide)))) ?_
  refine V_puti (fk := 2) ko_X2 rfl w_775 (Or.inr ⟨rfl, rfl, rfl⟩) dX2_init_35 rfl o1 o2 ?_
  refine V_aload_n dX2_init_38 rfl ?_
  refine V_aload_n dX2_init_39 rfl ?_
  refine V_getf (fk := 2) (Value.int (zI (uI (uI (uI (uI (uI σ v0 7 (0 : Int32)) v0 8 (-1 : Int32)) v0 0 (zI σ v1 0)) v0 1 (zI σ v1 1)) v0 2 (zI σ v1 3)) v1 2)) ko_X5 rfl w_128 dX2_init_40 o3 o4 rfl ?_
  refine V_puti (fk := 4) ko_X2 rfl w_780 (Or.inl rfl) dX2_init_43 rfl o1 o2 ?_
  refine V_aload_n dX2_init_46 rfl ?_
  refine V_iload_n dX2_init_47 rfl ?_
  refine V_puti (fk := 3) ko_X2 rfl w_777 (Or.inr ⟨rfl, rfl, rfl⟩) dX2_init_48 rfl o1 o2 ?_
  exact V_vret rfl dX2_init_51 k1

set_option maxRecDepth 100000 in
set_option maxHeartbeats 4000000 in
theorem b_X3_init_0 {g : GP} {CX : State → Array Value → Prop} {Q : AH → Option Value → Prop} {X : AH → String → Prop} {v0 : Nat} {v1 : Int32} {v2 : Int32} {v3 : Int32} {v4 : Int32} {v5 : Int32} {v6 : Int32} {σ : AH}
    (o1 : v0 ≠ 0)
    (o2 : zK σ v0 = 3)
    (k1 : Q (uI (uI (uI (uI (uI (uI σ v0 0 v1) v0 1 v2) v0 2 v3) v0 3 v4) v0 4 v5) v0 5 v6) none) :
    V g mX3_init (Em g mX3_init Q X) CX 0 0 0 [(0, .ref v0), (1, .int v1), (2, .int v2), (3, .int v3), (4, .int v4), (5, .int v5), (6, .int v6)] [] σ := by
  refine V_aload_n dX3_init_0 rfl ?_
  refine V_objinit w_489 w_46 w_47 dX3_init_1 o1 rfl rfl ?_
  refine V_aload_n dX3_init_4 rfl ?_
  refine V_iload_n dX3_init_5 rfl ?_
  refine V_puti (fk := 0) ko_X3 rfl w_490 (Or.inr ⟨rfl, rfl, rfl⟩) dX3_init_6 rfl o1 o2 ?_
  refine V_aload_n dX3_init_9 rfl ?_
  refine V_iload_n dX3_init_10 rfl ?_
  refine V_puti (fk := 1) ko_X3 rfl w_491 (Or.inr ⟨rfl, rfl, rfl⟩) dX3_init_11 rfl o1 o2 ?_
  refine V_aload_n dX3_init_14 rfl ?_
  refine V_iload_n dX3_init_15 rfl ?_
  refine V_puti (fk := 2) ko_X3 rfl w_492 (Or.inr ⟨rfl, rfl, rfl⟩) dX3_init_16 rfl o1 o2 ?_
  refine V_aload_n dX3_init_19 rfl ?_
  refine V_iload dX3_init_20 rfl ?_
  refine V_puti (fk := 3) ko_X3 rfl w_494 (Or.inr ⟨rfl, rfl, rfl⟩) dX3_init_22 rfl o1 o2 ?_
  refine V_aload_n dX3_init_25 rfl ?_
  refine V_iload dX3_init_26 rfl ?_
  refine V_puti (fk := 4) ko_X3 rfl w_495 (Or.inr ⟨rfl, rfl, rfl⟩) dX3_init_28 rfl o1 o2 ?_
  refine V_aload_n dX3_init_31 rfl ?_
  refine V_iload dX3_init_32 rfl ?_
  refine V_puti (fk := 5) ko_X3 rfl w_496 (Or.inr ⟨rfl, rfl, rfl⟩) dX3_init_34 rfl o1 o2 ?_
  exact V_vret rfl dX3_init_37 k1

set_option maxRecDepth 100000 in
set_option maxHeartbeats 4000000 in
theorem b_X8_file_0 {g : GP} {CX : State → Array Value → Prop} {Q : AH → Option Value → Prop} {X : AH → String → Prop} {v1 : Nat} {σ : AH}
    (hS : Sh σ)
    (o1 : ((zI σ 3 4) < (40 : Int32)) → vp_in (zI σ 3 4) 40)
    (o2 : ((zI σ 3 4) < (40 : Int32)) → v1 ≠ 0)
    (o3 : ((zI σ 3 4) < (40 : Int32)) → zK σ v1 = 3)
    (k1 : ((zI σ 3 4) < (40 : Int32)) → Q (uI (uR σ 6 (Int32.toNatClampNeg (zI σ 3 4)) v1) 3 4 ((zI σ 3 4) + (1 : Int32))) (some (.int (((zI σ 3 4) + (1 : Int32)) - (1 : Int32)))))
    (k2 : (¬ (zI σ 3 4) < (40 : Int32)) → Q σ (some (.int (-1 : Int32)))) :
    V g mX8_file (Em g mX8_file Q X) CX 0 0 0 [(0, .ref 3), (1, .ref v1)] [] σ := by
  refine V_aload_n dX8_file_0 rfl ?_
  refine V_getf (fk := 4) (Value.int (zI σ 3 4)) ko_X8 rfl w_73 dX8_file_1 (by decide) (shk hS 3 rfl) rfl ?_
  refine V_bipush (40 : Int32) dX8_file_4 (by decide) ?_
  refine V_icmp_lt 11 dX8_file_6 rfl (fun c1 => ?_) (fun c1 => ?_)
  · refine V_aload_n dX8_file_11 rfl ?_
    refine V_getf (fk := 1) (Value.ref 6) ko_X8 rfl w_70 dX8_file_12 (by decide) (shk hS 3 rfl) (congrArg Value.ref (shr hS 3 1 6 (by decide))) ?_
    refine V_aload_n dX8_file_15 rfl ?_
    refine V_getf (fk := 4) (Value.int (zI σ 3 4)) ko_X8 rfl w_73 dX8_file_16 (by decide) (shk hS 3 rfl) rfl ?_
    refine V_aload_n dX8_file_19 rfl ?_
    refine V_aast ao_33 ko_X3 dX8_file_20 (by decide) (shk hS 6 rfl) (vp_l (n := 40) (shl hS 6 rfl) (o1 c1)) (o2 c1) (o3 c1) ?_
    refine V_aload_n dX8_file_21 rfl ?_
    refine V_dup dX8_file_22 rfl ?_
    refine V_getf (fk := 4) (Value.int (zI σ 3 4)) ko_X8 rfl w_73 dX8_file_23 (by decide) (shk (Sh_uRl (by decide) hS) 3 rfl) rfl ?_
    refine V_iconst (1 : Int32) dX8_file_26 (by decide) ?_
    refine V_iadd dX8_file_27 ?_
    refine V_puti (fk := 4) ko_X8 rfl w_73 (Or.inl rfl) dX8_file_28 rfl (by decide) (shk (Sh_uRl (by decide) hS) 3 rfl) ?_
    refine V_aload_n dX8_file_31 rfl ?_
    refine V_getf (fk := 4) (Value.int ((zI σ 3 4) + (1 : Int32))) ko_X8 rfl w_73 dX8_file_32 (by decide) (shk (Sh_uI (Sh_uRl (by decide) hS)) 3 rfl) (congrArg Value.int (zI_self _ _ _ _)) ?_
    refine V_iconst (1 : Int32) dX8_file_35 (by decide) ?_
    refine V_isub dX8_file_36 ?_
    exact V_iret rfl dX8_file_37 (k1 c1)
  · refine V_iconst (-1 : Int32) dX8_file_9 (by decide) ?_
    exact V_iret rfl dX8_file_10 (k2 c1)

set_option maxRecDepth 100000 in
set_option maxHeartbeats 4000000 in
theorem b_X9_init_0 {g : GP} {CX : State → Array Value → Prop} {Q : AH → Option Value → Prop} {X : AH → String → Prop} {v0 : Nat} {v1 : Int32} {v2 : Int32} {v3 : Int32} {σ : AH}
    (o1 : v0 ≠ 0)
    (o2 : zK σ v0 = 9)
    (o3 : v0 ≤ zN σ)
    (k1 : Q (uI (uI (uI (uR (nw σ 32 8) v0 3 (zN σ + 1)) v0 0 v1) v0 1 v2) v0 2 v3) none) :
    V g mX9_init (Em g mX9_init Q X) CX 1 8 0 [(0, .ref v0), (1, .int v1), (2, .int v2), (3, .int v3)] [] σ := by
  refine V_aload_n dX9_init_0 rfl ?_
  refine V_objinit w_725 w_46 w_47 dX9_init_1 o1 rfl rfl ?_
  refine V_aload_n dX9_init_4 rfl ?_
  refine V_bipush (8 : Int32) dX9_init_5 (by decide) ?_
  refine V_newq (len := 8) (k' := 0) (n' := 0) ao_32 (by decide +kernel) w_726 dX9_init_7 (by decide) (by decide) rfl rfl rfl ?_
  refine V_putr (fk := 3) ko_X9 rfl w_734 (Or.inr ⟨rfl, rfl, rfl⟩) dX9_init_10 rfl o1 (zK_oldN (κ := 32) (n := 8) ⟨o2, o3⟩).1 ?_
  refine V_aload_n dX9_init_13 rfl ?_
  refine V_iload_n dX9_init_14 rfl ?_
  refine V_puti (fk := 0) ko_X9 rfl w_728 (Or.inr ⟨rfl, rfl, rfl⟩) dX9_init_15 rfl o1 (zK_oldN (κ := 32) (n := 8) ⟨o2, o3⟩).1 ?_
  refine V_aload_n dX9_init_18 rfl ?_
  refine V_iload_n dX9_init_19 rfl ?_
  refine V_puti (fk := 1) ko_X9 rfl w_730 (Or.inr ⟨rfl, rfl, rfl⟩) dX9_init_20 rfl o1 (zK_oldN (κ := 32) (n := 8) ⟨o2, o3⟩).1 ?_
  refine V_aload_n dX9_init_23 rfl ?_
  refine V_iload_n dX9_init_24 rfl ?_
  refine V_puti (fk := 2) ko_X9 rfl w_732 (Or.inr ⟨rfl, rfl, rfl⟩) dX9_init_25 rfl o1 (zK_oldN (κ := 32) (n := 8) ⟨o2, o3⟩).1 ?_
  exact V_vret rfl dX9_init_28 k1

set_option maxRecDepth 100000 in
set_option maxHeartbeats 4000000 in
theorem b_X9_add_0 {g : GP} {CX : State → Array Value → Prop} {Q : AH → Option Value → Prop} {X : AH → String → Prop} {v0 : Nat} {v1 : Nat} {σ : AH}
    (o1 : v0 ≠ 0)
    (o2 : zK σ v0 = 9)
    (k1 : ((8 : Int32) ≤ (zI σ v0 4)) → Q σ none)
    (o3 : zR σ v0 3 ≠ 0)
    (o4 : zK σ (zR σ v0 3) = 32)
    (o5 : (¬ (8 : Int32) ≤ (zI σ v0 4)) → vp_in (zI σ v0 4) (zL σ (zR σ v0 3)))
    (o6 : (¬ (8 : Int32) ≤ (zI σ v0 4)) → v1 ≠ 0)
    (o7 : (¬ (8 : Int32) ≤ (zI σ v0 4)) → zK σ v1 = 2)
    (k2 : (¬ (8 : Int32) ≤ (zI σ v0 4)) → Q (uI (uI (uR σ (zR σ v0 3) (Int32.toNatClampNeg (zI σ v0 4)) v1) v0 4 ((zI σ v0 4) + (1 : Int32))) v0 5 ((zI σ v0 5) + (zI σ v1 3))) none) :
    V g mX9_add (Em g mX9_add Q X) CX 0 0 0 [(0, .ref v0), (1, .ref v1)] [] σ := by
  refine V_aload_n dX9_add_0 rfl ?_
  refine V_getf (fk := 4) (Value.int (zI σ v0 4)) ko_X9 rfl w_735 dX9_add_1 o1 o2 rfl ?_
  refine V_bipush (8 : Int32) dX9_add_4 (by decide) ?_
  refine V_icmp_ge 42 dX9_add_6 rfl (fun c1 => ?_) (fun c1 => ?_)
  · exact V_vret rfl dX9_add_42 (k1 c1)
  · refine V_aload_n dX9_add_9 rfl ?_
    refine V_getf (fk := 3) (Value.ref (zR σ v0 3)) ko_X9 rfl w_734 dX9_add_10 o1 o2 rfl ?_
    refine V_aload_n dX9_add_13 rfl ?_
    refine V_getf (fk := 4) (Value.int (zI σ v0 4)) ko_X9 rfl w_735 dX9_add_14 o1 o2 rfl ?_
    refine V_aload_n dX9_add_17 rfl ?_
    refine V_aast ao_32 ko_X2 dX9_add_18 o3 o4 (o5 c1) (o6 c1) (o7 c1) ?_
    refine V_aload_n dX9_add_19 rfl ?_
    refine V_dup dX9_add_20 rfl ?_
    refine V_getf (fk := 4) (Value.int (zI σ v0 4)) ko_X9 rfl w_735 dX9_add_21 o1 o2 rfl ?_
    refine V_iconst (1 : Int32) dX9_add_24 (by decide) ?_
    refine V_iadd dX9_add_25 ?_
    refine V_puti (fk := 4) ko_X9 rfl w_735 (Or.inl rfl) dX9_add_26 rfl o1 o2 ?_
    refine V_aload_n dX9_add_29 rfl ?_
    refine V_dup dX9_add_30 rfl ?_
    refine V_getf (fk := 5) (Value.int (zI σ v0 5)) ko_X9 rfl w_737 dX9_add_31 o1 o2 (congrArg Value.int (zI_oth _ _ _ _ _ _ (by decide))) ?_
    refine V_aload_n dX9_add_34 rfl ?_
    refine V_getf (fk := 3) (Value.int (zI σ v1 3)) ko_X2 rfl w_778 dX9_add_35 (o6 c1) (o7 c1) (congrArg Value.int (zI_oth _ _ _ _ _ _ (by decide))) ?_
    refine V_iadd dX9_add_38 ?_
    refine V_puti (fk := 5) ko_X9 rfl w_737 (Or.inl rfl) dX9_add_39 rfl o1 o2 ?_
    exact V_vret rfl dX9_add_42 (k2 c1)

/-- a coupon made for a leg -/
def cnH (σ : AH) (c l : Nat) (x : Int32) : AH := uI (uI (uI (uI (uI (uI (uI σ c 7 0) c 8 (-1)) c 0 (zI σ l 0)) c 1 (zI σ l 1)) c 2 (zI σ l 3)) c 4 (zI σ l 2)) c 3 x
theorem s_X2_init {g : GP} {σ : AH} {c l : Nat} {x : Int32} (hc : c ≠ 0 ∧ zK σ c = 2) (hl : l ≠ 0 ∧ zK σ l = 5) : Ct g mX2_init [.ref c, .ref l, .int x] σ (FQ (cnH σ c l x) none) := by
  have hne : ¬ l = c := fun q => by rw [q, hc.2] at hl; exact absurd hl.2 (by decide)
  refine Ct_of (by decide +kernel) rfl rfl (b_X2_init_0 hc.1 hc.2 hl.1 hl.2 ⟨?_, rfl⟩)
  rw [cnH]
  simp only [zI_uI, hne, false_and, if_false]
theorem Sh_cnH {σ : AH} {c l : Nat} {x : Int32} (h : Sh σ) : Sh (cnH σ c l x) := h
/-- a fare's row filled -/
def frH (σ : AH) (a : Nat) (x y c f l s : Int32) : AH := uI (uI (uI (uI (uI (uI σ a 0 x) a 1 y) a 2 c) a 3 f) a 4 l) a 5 s
theorem s_X3_init {g : GP} {σ : AH} {a : Nat} {x y c f l s : Int32} (h : a ≠ 0 ∧ zK σ a = 3) : Ct g mX3_init [.ref a, .int x, .int y, .int c, .int f, .int l, .int s] σ (FQ (frH σ a x y c f l s) none) :=
  Ct_of (by decide +kernel) rfl rfl (b_X3_init_0 h.1 h.2 fq)
theorem Sh_frH {σ : AH} {a : Nat} {x y c f l s : Int32} (h : Sh σ) : Sh (frH σ a x y c f l s) := h
theorem s_X8_file {g : GP} {σ : AH} {a : Nat} (hS : Sh σ) (ha : a ≠ 0 ∧ zK σ a = 3) (hf : vp_in (zI σ 3 4) 40) : Ct g mX8_file [.ref 3, .ref a] σ (FQ (uI (uR σ 6 (ix (zI σ 3 4)) a) 3 4 (zI σ 3 4 + 1)) (some (.int (zI σ 3 4 + 1 - 1)))) := by
  obtain ⟨n, hn, e⟩ := vp_in_of hf (by decide)
  have hlt : zI σ 3 4 < (40 : Int32) := by rw [e]; exact nI_lt (b := 40) hn (by decide)
  exact Ct_of (by decide +kernel) rfl rfl (b_X8_file_0 hS (fun _ => hf) (fun _ => ha.1) (fun _ => ha.2) (fun _ => fq) (fun c => absurd hlt c))
theorem s_X9_init {g : GP} {σ : AH} {a : Nat} {x y z : Int32} (ha : a ≠ 0 ∧ zK σ a = 9 ∧ a ≤ zN σ) : Ct g mX9_init [.ref a, .int x, .int y, .int z] σ (FQ (uI (uI (uI (uR (nw σ 32 8) a 3 (zN σ + 1)) a 0 x) a 1 y) a 2 z) none) :=
  Ct_of (by decide +kernel) rfl rfl (b_X9_init_0 ha.1 ha.2.1 ha.2.2 fq)
theorem Sh_tn {σ : AH} {a n : Nat} {x y z : Int32} (ha : 72 < a) (h : Sh σ) : Sh (uI (uI (uI (uR (nw σ 32 8) a 3 n) a 0 x) a 1 y) a 2 z) := Sh_uI (Sh_uI (Sh_uI (Sh_uRg ha (Sh_nw h))))
/-- a coupon more on a ticket -/
def adP (σ : AH) (a c : Nat) : Prop := ∃ n, TS σ a n ∧ n < 8 ∧ c ≠ 0 ∧ zK σ c = 2
def acH (σ : AH) (a c : Nat) : AH := uI (uI (uR σ (zR σ a 3) (ix (zI σ a 4)) c) a 4 (zI σ a 4 + 1)) a 5 (zI σ a 5 + zI σ c 3)
theorem s_X9_add {g : GP} {σ : AH} {a c : Nat} (h : adP σ a c) : Ct g mX9_add [.ref a, .ref c] σ (FQ (acH σ a c) none) := by
  obtain ⟨n, ⟨h1, h2, h3, h4, ⟨h5, h6, h7⟩, h8⟩, h9, h10, h11⟩ := h
  have c8 : ¬ (8 : Int32) ≤ zI σ a 4 := by rw [h3]; exact nI_ge (b := 8) h9 (by decide)
  have hne : ¬ c = a := fun q => by rw [q, h2] at h11; exact absurd h11 (by decide)
  refine Ct_of (by decide +kernel) rfl rfl (b_X9_add_0 h1 h2 (fun q => absurd q c8) h5 h6 (fun _ => by rw [h7, h3]; exact vp_in_nI h9 (by decide)) (fun _ => h10) (fun _ => h11) (fun _ => fq))
theorem ble_z (k : Nat) : Nat.ble (0 + k) k = true := by simp
set_option maxRecDepth 100000 in
set_option maxHeartbeats 4000000 in
theorem b_X11_issued_0 {g : GP} {CX : State → Array Value → Prop} {E : ET} {v1 : Int32} {σ : AH}
    (hS : Sh σ)
    (o1 : (zN σ + 1) ≠ 0 ∧ zK (nw σ 9 8) (zN σ + 1) = 9 ∧ (zN σ + 1) ≤ zN (nw σ 9 8))
    (k1 : V g mX11_issued E CX 8 72 25 [(0, .ref 2), (1, .int v1), (2, .ref (zN σ + 1)), (3, .int (0 : Int32))] [] (uI (uI (uI (uR (nw (nw σ 9 8) 32 8) (zN σ + 1) 3 (zN (nw σ 9 8) + 1)) (zN σ + 1) 0 v1) (zN σ + 1) 1 (zI (nw σ 9 8) 23 3)) (zN σ + 1) 2 (zI (nw σ 9 8) 23 4))) :
    V g mX11_issued E CX 10 88 0 [(0, .ref 2), (1, .int v1)] [] σ := by
  refine V_new (k' := 9) (n' := 80) ko_X9 kd_X9 w_202 w_721 w_37 dX11_issued_0 rfl rfl ?_
  refine V_dup dX11_issued_3 rfl ?_
  refine V_iload_n dX11_issued_4 rfl ?_
  refine V_aload_n dX11_issued_5 rfl ?_
  refine V_getf (fk := 3) (Value.ref 23) ko_X11 rfl w_207 dX11_issued_6 (by decide) (shk (Sh_nw hS) 2 rfl) (congrArg Value.ref (shr (Sh_nw hS) 2 3 23 (by decide))) ?_
  refine V_getf (fk := 3) (Value.int (zI (nw σ 9 8) 23 3)) ko_X10 rfl w_160 dX11_issued_9 (by decide) (shk (Sh_nw hS) 23 rfl) rfl ?_
  refine V_aload_n dX11_issued_12 rfl ?_
  refine V_getf (fk := 3) (Value.ref 23) ko_X11 rfl w_207 dX11_issued_13 (by decide) (shk (Sh_nw hS) 2 rfl) (congrArg Value.ref (shr (Sh_nw hS) 2 3 23 (by decide))) ?_
  refine V_getf (fk := 4) (Value.int (zI (nw σ 9 8) 23 4)) ko_X10 rfl w_162 dX11_issued_16 (by decide) (shk (Sh_nw hS) 23 rfl) rfl ?_
  refine V_callI0 (as := [.int v1, .int (zI (nw σ 9 8) 23 3), .int (zI (nw σ 9 8) 23 4)]) (k' := 8) (n' := 72) (s_X9_init o1) mw_X9_init rfl rfl w_723 w_722 ar_X9_init rfl ⟨rfl, rfl, rfl, rfl, rfl⟩ dX11_issued_19 (Nat.succ_ne_zero _) ?_
  refine V_astore_n [(0, .ref 2), (1, .int v1), (2, .ref (zN σ + 1))] dX11_issued_22 rfl rfl ?_
  refine V_iconst (0 : Int32) dX11_issued_23 (by decide) ?_
  refine V_istore_n [(0, .ref 2), (1, .int v1), (2, .ref (zN σ + 1)), (3, .int (0 : Int32))] dX11_issued_24 rfl rfl ?_
  exact k1
set_option maxRecDepth 100000 in
set_option maxHeartbeats 4000000 in
theorem b_X11_issued_25 {g : GP} {kk nn : Nat} {CX : State → Array Value → Prop} {E : ET} {v1 : Int32} {v2 : Nat} {v3 : Int32} {σ : AH}
    (hS : Sh σ)
    (k1 : ((zI σ 13 1) ≤ v3) → V g mX11_issued E CX 0 0 102 [(0, .ref 2), (1, .int v1), (2, .ref v2), (3, .int v3)] [] σ)
    (k2 : (¬ (zI σ 13 1) ≤ v3) → (atR (zI σ 13 1) 8 v3 (zR σ 14 (ix v3)) = 0) → V g mX11_issued E CX (kk + 1) (nn + 9) 25 [(0, .ref 2), (1, .int v1), (2, .ref v2), (3, .int (v3 + (1 : Int32)))] [] σ)
    (o1 : (¬ (zI σ 13 1) ≤ v3) → (¬ atR (zI σ 13 1) 8 v3 (zR σ 14 (ix v3)) = 0) → zK (nw σ 2 9) (atR (zI σ 13 1) 8 v3 (zR σ 14 (ix v3))) = 5)
    (o2 : (¬ (zI σ 13 1) ≤ v3) → (¬ atR (zI σ 13 1) 8 v3 (zR σ 14 (ix v3)) = 0) → (v3 = 0) → (zN σ + 1) ≠ 0 ∧ zK (nw σ 2 9) (zN σ + 1) = 2)
    (o3 : (¬ (zI σ 13 1) ≤ v3) → (¬ atR (zI σ 13 1) 8 v3 (zR σ 14 (ix v3)) = 0) → (v3 = 0) → (atR (zI σ 13 1) 8 v3 (zR σ 14 (ix v3))) ≠ 0 ∧ zK (nw σ 2 9) (atR (zI σ 13 1) 8 v3 (zR σ 14 (ix v3))) = 5)
    (o4 : (¬ (zI σ 13 1) ≤ v3) → (¬ atR (zI σ 13 1) 8 v3 (zR σ 14 (ix v3)) = 0) → (v3 = 0) → adP (cnH (nw σ 2 9) (zN σ + 1) (atR (zI σ 13 1) 8 v3 (zR σ 14 (ix v3))) (if isPl (zI (nw σ 2 9) (atR (zI σ 13 1) 8 v3 (zR σ 14 (ix v3))) 0) then (if (1 : Int32) = 0 then zI (nw σ 2 9) 8 (ix (zI (nw σ 2 9) (atR (zI σ 13 1) 8 v3 (zR σ 14 (ix v3))) 0)) else zI (nw σ 2 9) 7 (ix (zI (nw σ 2 9) (atR (zI σ 13 1) 8 v3 (zR σ 14 (ix v3))) 0))) else 0)) v2 (zN σ + 1))
    (o5 : (¬ (zI σ 13 1) ≤ v3) → (¬ atR (zI σ 13 1) 8 v3 (zR σ 14 (ix v3)) = 0) → (v3 = 0) → v2 ≠ 0)
    (o6 : (¬ (zI σ 13 1) ≤ v3) → (¬ atR (zI σ 13 1) 8 v3 (zR σ 14 (ix v3)) = 0) → (v3 = 0) → zK (cnH (nw σ 2 9) (zN σ + 1) (atR (zI σ 13 1) 8 v3 (zR σ 14 (ix v3))) (if isPl (zI (nw σ 2 9) (atR (zI σ 13 1) 8 v3 (zR σ 14 (ix v3))) 0) then (if (1 : Int32) = 0 then zI (nw σ 2 9) 8 (ix (zI (nw σ 2 9) (atR (zI σ 13 1) 8 v3 (zR σ 14 (ix v3))) 0)) else zI (nw σ 2 9) 7 (ix (zI (nw σ 2 9) (atR (zI σ 13 1) 8 v3 (zR σ 14 (ix v3))) 0))) else 0)) v2 = 9)
    (k3 : (¬ (zI σ 13 1) ≤ v3) → (¬ atR (zI σ 13 1) 8 v3 (zR σ 14 (ix v3)) = 0) → (v3 = 0) → V g mX11_issued E CX kk nn 25 [(0, .ref 2), (1, .int v1), (2, .ref v2), (3, .int (v3 + (1 : Int32)))] [] (acH (cnH (nw σ 2 9) (zN σ + 1) (atR (zI σ 13 1) 8 v3 (zR σ 14 (ix v3))) (if isPl (zI (nw σ 2 9) (atR (zI σ 13 1) 8 v3 (zR σ 14 (ix v3))) 0) then (if (1 : Int32) = 0 then zI (nw σ 2 9) 8 (ix (zI (nw σ 2 9) (atR (zI σ 13 1) 8 v3 (zR σ 14 (ix v3))) 0)) else zI (nw σ 2 9) 7 (ix (zI (nw σ 2 9) (atR (zI σ 13 1) 8 v3 (zR σ 14 (ix v3))) 0))) else 0)) v2 (zN σ + 1)))
    (o7 : (¬ (zI σ 13 1) ≤ v3) → (¬ atR (zI σ 13 1) 8 v3 (zR σ 14 (ix v3)) = 0) → (¬ v3 = 0) → RJ (nw σ 2 9))
    (o8 : (¬ (zI σ 13 1) ≤ v3) → (¬ atR (zI σ 13 1) 8 v3 (zR σ 14 (ix v3)) = 0) → (¬ v3 = 0) → inS (nw σ 2 9) v3)
    (o9 : (¬ (zI σ 13 1) ≤ v3) → (¬ atR (zI σ 13 1) 8 v3 (zR σ 14 (ix v3)) = 0) → (¬ v3 = 0) → (¬ (¬ zI (nw σ 2 9) 49 (ix v3) ≤ zI (nw σ 2 9) 49 (ix v3 - 1))) → (zN σ + 1) ≠ 0 ∧ zK (nw σ 2 9) (zN σ + 1) = 2)
    (o10 : (¬ (zI σ 13 1) ≤ v3) → (¬ atR (zI σ 13 1) 8 v3 (zR σ 14 (ix v3)) = 0) → (¬ v3 = 0) → (¬ (¬ zI (nw σ 2 9) 49 (ix v3) ≤ zI (nw σ 2 9) 49 (ix v3 - 1))) → (atR (zI σ 13 1) 8 v3 (zR σ 14 (ix v3))) ≠ 0 ∧ zK (nw σ 2 9) (atR (zI σ 13 1) 8 v3 (zR σ 14 (ix v3))) = 5)
    (o11 : (¬ (zI σ 13 1) ≤ v3) → (¬ atR (zI σ 13 1) 8 v3 (zR σ 14 (ix v3)) = 0) → (¬ v3 = 0) → (¬ (¬ zI (nw σ 2 9) 49 (ix v3) ≤ zI (nw σ 2 9) 49 (ix v3 - 1))) → adP (cnH (nw σ 2 9) (zN σ + 1) (atR (zI σ 13 1) 8 v3 (zR σ 14 (ix v3))) (if isPl (zI (nw σ 2 9) (atR (zI σ 13 1) 8 v3 (zR σ 14 (ix v3))) 0) then (if (0 : Int32) = 0 then zI (nw σ 2 9) 8 (ix (zI (nw σ 2 9) (atR (zI σ 13 1) 8 v3 (zR σ 14 (ix v3))) 0)) else zI (nw σ 2 9) 7 (ix (zI (nw σ 2 9) (atR (zI σ 13 1) 8 v3 (zR σ 14 (ix v3))) 0))) else 0)) v2 (zN σ + 1))
    (o12 : (¬ (zI σ 13 1) ≤ v3) → (¬ atR (zI σ 13 1) 8 v3 (zR σ 14 (ix v3)) = 0) → (¬ v3 = 0) → (¬ (¬ zI (nw σ 2 9) 49 (ix v3) ≤ zI (nw σ 2 9) 49 (ix v3 - 1))) → v2 ≠ 0)
    (o13 : (¬ (zI σ 13 1) ≤ v3) → (¬ atR (zI σ 13 1) 8 v3 (zR σ 14 (ix v3)) = 0) → (¬ v3 = 0) → (¬ (¬ zI (nw σ 2 9) 49 (ix v3) ≤ zI (nw σ 2 9) 49 (ix v3 - 1))) → zK (cnH (nw σ 2 9) (zN σ + 1) (atR (zI σ 13 1) 8 v3 (zR σ 14 (ix v3))) (if isPl (zI (nw σ 2 9) (atR (zI σ 13 1) 8 v3 (zR σ 14 (ix v3))) 0) then (if (0 : Int32) = 0 then zI (nw σ 2 9) 8 (ix (zI (nw σ 2 9) (atR (zI σ 13 1) 8 v3 (zR σ 14 (ix v3))) 0)) else zI (nw σ 2 9) 7 (ix (zI (nw σ 2 9) (atR (zI σ 13 1) 8 v3 (zR σ 14 (ix v3))) 0))) else 0)) v2 = 9)
    (k4 : (¬ (zI σ 13 1) ≤ v3) → (¬ atR (zI σ 13 1) 8 v3 (zR σ 14 (ix v3)) = 0) → (¬ v3 = 0) → (¬ (¬ zI (nw σ 2 9) 49 (ix v3) ≤ zI (nw σ 2 9) 49 (ix v3 - 1))) → V g mX11_issued E CX kk nn 25 [(0, .ref 2), (1, .int v1), (2, .ref v2), (3, .int (v3 + (1 : Int32)))] [] (acH (cnH (nw σ 2 9) (zN σ + 1) (atR (zI σ 13 1) 8 v3 (zR σ 14 (ix v3))) (if isPl (zI (nw σ 2 9) (atR (zI σ 13 1) 8 v3 (zR σ 14 (ix v3))) 0) then (if (0 : Int32) = 0 then zI (nw σ 2 9) 8 (ix (zI (nw σ 2 9) (atR (zI σ 13 1) 8 v3 (zR σ 14 (ix v3))) 0)) else zI (nw σ 2 9) 7 (ix (zI (nw σ 2 9) (atR (zI σ 13 1) 8 v3 (zR σ 14 (ix v3))) 0))) else 0)) v2 (zN σ + 1)))
    (o14 : (¬ (zI σ 13 1) ≤ v3) → (¬ atR (zI σ 13 1) 8 v3 (zR σ 14 (ix v3)) = 0) → (¬ v3 = 0) → (¬ zI (nw σ 2 9) 49 (ix v3) ≤ zI (nw σ 2 9) 49 (ix v3 - 1)) → (zN σ + 1) ≠ 0 ∧ zK (nw σ 2 9) (zN σ + 1) = 2)
    (o15 : (¬ (zI σ 13 1) ≤ v3) → (¬ atR (zI σ 13 1) 8 v3 (zR σ 14 (ix v3)) = 0) → (¬ v3 = 0) → (¬ zI (nw σ 2 9) 49 (ix v3) ≤ zI (nw σ 2 9) 49 (ix v3 - 1)) → (atR (zI σ 13 1) 8 v3 (zR σ 14 (ix v3))) ≠ 0 ∧ zK (nw σ 2 9) (atR (zI σ 13 1) 8 v3 (zR σ 14 (ix v3))) = 5)
    (o16 : (¬ (zI σ 13 1) ≤ v3) → (¬ atR (zI σ 13 1) 8 v3 (zR σ 14 (ix v3)) = 0) → (¬ v3 = 0) → (¬ zI (nw σ 2 9) 49 (ix v3) ≤ zI (nw σ 2 9) 49 (ix v3 - 1)) → adP (cnH (nw σ 2 9) (zN σ + 1) (atR (zI σ 13 1) 8 v3 (zR σ 14 (ix v3))) (if isPl (zI (nw σ 2 9) (atR (zI σ 13 1) 8 v3 (zR σ 14 (ix v3))) 0) then (if (1 : Int32) = 0 then zI (nw σ 2 9) 8 (ix (zI (nw σ 2 9) (atR (zI σ 13 1) 8 v3 (zR σ 14 (ix v3))) 0)) else zI (nw σ 2 9) 7 (ix (zI (nw σ 2 9) (atR (zI σ 13 1) 8 v3 (zR σ 14 (ix v3))) 0))) else 0)) v2 (zN σ + 1))
    (o17 : (¬ (zI σ 13 1) ≤ v3) → (¬ atR (zI σ 13 1) 8 v3 (zR σ 14 (ix v3)) = 0) → (¬ v3 = 0) → (¬ zI (nw σ 2 9) 49 (ix v3) ≤ zI (nw σ 2 9) 49 (ix v3 - 1)) → v2 ≠ 0)
    (o18 : (¬ (zI σ 13 1) ≤ v3) → (¬ atR (zI σ 13 1) 8 v3 (zR σ 14 (ix v3)) = 0) → (¬ v3 = 0) → (¬ zI (nw σ 2 9) 49 (ix v3) ≤ zI (nw σ 2 9) 49 (ix v3 - 1)) → zK (cnH (nw σ 2 9) (zN σ + 1) (atR (zI σ 13 1) 8 v3 (zR σ 14 (ix v3))) (if isPl (zI (nw σ 2 9) (atR (zI σ 13 1) 8 v3 (zR σ 14 (ix v3))) 0) then (if (1 : Int32) = 0 then zI (nw σ 2 9) 8 (ix (zI (nw σ 2 9) (atR (zI σ 13 1) 8 v3 (zR σ 14 (ix v3))) 0)) else zI (nw σ 2 9) 7 (ix (zI (nw σ 2 9) (atR (zI σ 13 1) 8 v3 (zR σ 14 (ix v3))) 0))) else 0)) v2 = 9)
    (k5 : (¬ (zI σ 13 1) ≤ v3) → (¬ atR (zI σ 13 1) 8 v3 (zR σ 14 (ix v3)) = 0) → (¬ v3 = 0) → (¬ zI (nw σ 2 9) 49 (ix v3) ≤ zI (nw σ 2 9) 49 (ix v3 - 1)) → V g mX11_issued E CX kk nn 25 [(0, .ref 2), (1, .int v1), (2, .ref v2), (3, .int (v3 + (1 : Int32)))] [] (acH (cnH (nw σ 2 9) (zN σ + 1) (atR (zI σ 13 1) 8 v3 (zR σ 14 (ix v3))) (if isPl (zI (nw σ 2 9) (atR (zI σ 13 1) 8 v3 (zR σ 14 (ix v3))) 0) then (if (1 : Int32) = 0 then zI (nw σ 2 9) 8 (ix (zI (nw σ 2 9) (atR (zI σ 13 1) 8 v3 (zR σ 14 (ix v3))) 0)) else zI (nw σ 2 9) 7 (ix (zI (nw σ 2 9) (atR (zI σ 13 1) 8 v3 (zR σ 14 (ix v3))) 0))) else 0)) v2 (zN σ + 1))) :
    V g mX11_issued E CX (kk + 1) (nn + 9) 25 [(0, .ref 2), (1, .int v1), (2, .ref v2), (3, .int v3)] [] σ := by
  refine V_iload_n dX11_issued_25 rfl ?_
  refine V_aload_n dX11_issued_26 rfl ?_
  refine V_getf (fk := 2) (Value.ref 13) ko_X11 rfl w_206 dX11_issued_27 (by decide) (shk hS 2 rfl) (congrArg Value.ref (shr hS 2 2 13 (by decide))) ?_
  refine V_getf (fk := 1) (Value.int (zI σ 13 1)) ko_X4 rfl w_144 dX11_issued_30 (by decide) (shk hS 13 rfl) rfl ?_
  refine V_icmp_ge 102 dX11_issued_33 rfl (fun c1 => ?_) (fun c1 => ?_)
  · exact V_less (mm_keep (mm_keep (mm_keep (mm_keep mm_nil)))) (by omega) (by omega) (k1 c1)
  · refine V_aload_n dX11_issued_36 rfl ?_
    refine V_getf (fk := 2) (Value.ref 13) ko_X11 rfl w_206 dX11_issued_37 (by decide) (shk hS 2 rfl) (congrArg Value.ref (shr hS 2 2 13 (by decide))) ?_
    refine V_iload_n dX11_issued_40 rfl ?_
    refine V_callV1 (as := [.int v3]) (k' := kk + 1) (n' := nn + 9) (s_X4_legAt hS) mw_X4_legAt ko_X4 rfl w_595 w_596 w_758 ar_X4_legAt rfl ⟨rfl, rfl, ble_z _, ble_z _, rfl⟩ dX11_issued_41 (by decide) (shk hS 13 rfl) ?_
    refine V_astore [(0, .ref 2), (1, .int v1), (2, .ref v2), (3, .int v3), (4, .ref (atR (zI σ 13 1) 8 v3 (zR σ 14 (ix v3))))] dX11_issued_44 rfl rfl ?_
    refine V_aload dX11_issued_46 rfl ?_
    refine V_ifnull 96 dX11_issued_48 rfl (fun c2 => ?_) (fun c2 => ?_)
    · refine V_iinc (v3 + (1 : Int32)) [(0, .ref 2), (1, .int v1), (2, .ref v2), (3, .int (v3 + (1 : Int32))), (4, .ref (atR (zI σ 13 1) 8 v3 (zR σ 14 (ix v3))))] dX11_issued_96 rfl rfl rfl rfl ?_
      refine V_goto 25 dX11_issued_99 rfl ?_
      exact V_less (mm_keep (mm_keep (mm_keep (mm_keep (mm_drop mm_nil))))) (by omega) (by omega) (k2 c1 c2)
    · refine V_aload_n dX11_issued_51 rfl ?_
      refine V_new (k' := kk) (n' := nn) ko_X2 kd_X2 w_759 w_760 w_38 dX11_issued_52 (Nat.ble_self_eq_true _) (Nat.ble_self_eq_true _) ?_
      refine V_dup dX11_issued_55 rfl ?_
      refine V_aload dX11_issued_56 rfl ?_
      refine V_aload_n dX11_issued_58 rfl ?_
      refine V_getf (fk := 0) (Value.ref 3) ko_X11 rfl w_204 dX11_issued_59 (by decide) (shk (Sh_nw hS) 2 rfl) (congrArg Value.ref (shr (Sh_nw hS) 2 0 3 (by decide))) ?_
      refine V_aload dX11_issued_62 rfl ?_
      refine V_getf (fk := 0) (Value.int (zI (nw σ 2 9) (atR (zI σ 13 1) 8 v3 (zR σ 14 (ix v3))) 0)) ko_X5 rfl w_125 dX11_issued_64 c2 (o1 c1 c2) rfl ?_
      refine V_iload_n dX11_issued_67 rfl ?_
      refine V_if_eq 82 dX11_issued_68 rfl (fun c3 => ?_) (fun c3 => ?_)
      · refine V_iconst (1 : Int32) dX11_issued_82 (by decide) ?_
        refine V_goto 87 dX11_issued_83 rfl ?_
        refine V_callV1 (as := [.int (zI (nw σ 2 9) (atR (zI σ 13 1) 8 v3 (zR σ 14 (ix v3))) 0), .int (1 : Int32)]) (k' := kk) (n' := nn) (s_X8_taxAt (Sh_nw hS)) mw_X8_taxAt ko_X8 rfl w_763 w_764 w_762 ar_X8_taxAt rfl ⟨rfl, rfl, ble_z _, ble_z _, rfl⟩ dX11_issued_87 (by decide) (shk (Sh_nw hS) 3 rfl) ?_
        refine V_callI0 (as := [.ref (atR (zI σ 13 1) 8 v3 (zR σ 14 (ix v3))), .int (if isPl (zI (nw σ 2 9) (atR (zI σ 13 1) 8 v3 (zR σ 14 (ix v3))) 0) then (if (1 : Int32) = 0 then zI (nw σ 2 9) 8 (ix (zI (nw σ 2 9) (atR (zI σ 13 1) 8 v3 (zR σ 14 (ix v3))) 0)) else zI (nw σ 2 9) 7 (ix (zI (nw σ 2 9) (atR (zI σ 13 1) 8 v3 (zR σ 14 (ix v3))) 0))) else 0)]) (k' := kk) (n' := nn) (s_X2_init (o2 c1 c2 c3) (o3 c1 c2 c3)) mw_X2_init rfl rfl w_767 w_766 ar_X2_init rfl ⟨rfl, rfl, ble_z _, ble_z _, rfl⟩ dX11_issued_90 (Nat.succ_ne_zero _) ?_
        refine V_callV0 (as := [.ref (zN σ + 1)]) (k' := kk) (n' := nn) (s_X9_add (o4 c1 c2 c3)) mw_X9_add ko_X9 rfl w_812 w_813 w_811 ar_X9_add rfl ⟨rfl, rfl, ble_z _, ble_z _, rfl⟩ dX11_issued_93 (o5 c1 c2 c3) (o6 c1 c2 c3) ?_
        refine V_iinc (v3 + (1 : Int32)) [(0, .ref 2), (1, .int v1), (2, .ref v2), (3, .int (v3 + (1 : Int32))), (4, .ref (atR (zI σ 13 1) 8 v3 (zR σ 14 (ix v3))))] dX11_issued_96 rfl rfl rfl rfl ?_
        refine V_goto 25 dX11_issued_99 rfl ?_
        exact V_less (mm_keep (mm_keep (mm_keep (mm_keep (mm_drop mm_nil))))) (by omega) (by omega) (k3 c1 c2 c3)
      · refine V_aload_n dX11_issued_71 rfl ?_
        refine V_getf (fk := 2) (Value.ref 13) ko_X11 rfl w_206 dX11_issued_72 (by decide) (shk (Sh_nw hS) 2 rfl) (congrArg Value.ref (shr (Sh_nw hS) 2 2 13 (by decide))) ?_
        refine V_iload_n dX11_issued_75 rfl ?_
        refine V_callV1 (as := [.int v3]) (k' := kk) (n' := nn) (s_X4_isStop (Sh_nw hS) (o7 c1 c2 c3) (o8 c1 c2 c3)) mw_X4_isStop ko_X4 rfl w_640 w_641 w_761 ar_X4_isStop rfl ⟨rfl, rfl, ble_z _, ble_z _, rfl⟩ dX11_issued_76 (by decide) (shk (Sh_nw hS) 13 rfl) ?_
        refine V_if_eq 86 dX11_issued_79 rfl (fun c4 => ?_) (fun c4 => ?_)
        · replace c4 := jb_0.mp c4
          refine V_iconst (0 : Int32) dX11_issued_86 (by decide) ?_
          refine V_callV1 (as := [.int (zI (nw σ 2 9) (atR (zI σ 13 1) 8 v3 (zR σ 14 (ix v3))) 0), .int (0 : Int32)]) (k' := kk) (n' := nn) (s_X8_taxAt (Sh_nw hS)) mw_X8_taxAt ko_X8 rfl w_763 w_764 w_762 ar_X8_taxAt rfl ⟨rfl, rfl, ble_z _, ble_z _, rfl⟩ dX11_issued_87 (by decide) (shk (Sh_nw hS) 3 rfl) ?_
          refine V_callI0 (as := [.ref (atR (zI σ 13 1) 8 v3 (zR σ 14 (ix v3))), .int (if isPl (zI (nw σ 2 9) (atR (zI σ 13 1) 8 v3 (zR σ 14 (ix v3))) 0) then (if (0 : Int32) = 0 then zI (nw σ 2 9) 8 (ix (zI (nw σ 2 9) (atR (zI σ 13 1) 8 v3 (zR σ 14 (ix v3))) 0)) else zI (nw σ 2 9) 7 (ix (zI (nw σ 2 9) (atR (zI σ 13 1) 8 v3 (zR σ 14 (ix v3))) 0))) else 0)]) (k' := kk) (n' := nn) (s_X2_init (o9 c1 c2 c3 c4) (o10 c1 c2 c3 c4)) mw_X2_init rfl rfl w_767 w_766 ar_X2_init rfl ⟨rfl, rfl, ble_z _, ble_z _, rfl⟩ dX11_issued_90 (Nat.succ_ne_zero _) ?_
          refine V_callV0 (as := [.ref (zN σ + 1)]) (k' := kk) (n' := nn) (s_X9_add (o11 c1 c2 c3 c4)) mw_X9_add ko_X9 rfl w_812 w_813 w_811 ar_X9_add rfl ⟨rfl, rfl, ble_z _, ble_z _, rfl⟩ dX11_issued_93 (o12 c1 c2 c3 c4) (o13 c1 c2 c3 c4) ?_
          refine V_iinc (v3 + (1 : Int32)) [(0, .ref 2), (1, .int v1), (2, .ref v2), (3, .int (v3 + (1 : Int32))), (4, .ref (atR (zI σ 13 1) 8 v3 (zR σ 14 (ix v3))))] dX11_issued_96 rfl rfl rfl rfl ?_
          refine V_goto 25 dX11_issued_99 rfl ?_
          exact V_less (mm_keep (mm_keep (mm_keep (mm_keep (mm_drop mm_nil))))) (by omega) (by omega) (k4 c1 c2 c3 c4)
        · replace c4 := jb_n.mp c4
          refine V_iconst (1 : Int32) dX11_issued_82 (by decide) ?_
          refine V_goto 87 dX11_issued_83 rfl ?_
          refine V_callV1 (as := [.int (zI (nw σ 2 9) (atR (zI σ 13 1) 8 v3 (zR σ 14 (ix v3))) 0), .int (1 : Int32)]) (k' := kk) (n' := nn) (s_X8_taxAt (Sh_nw hS)) mw_X8_taxAt ko_X8 rfl w_763 w_764 w_762 ar_X8_taxAt rfl ⟨rfl, rfl, ble_z _, ble_z _, rfl⟩ dX11_issued_87 (by decide) (shk (Sh_nw hS) 3 rfl) ?_
          refine V_callI0 (as := [.ref (atR (zI σ 13 1) 8 v3 (zR σ 14 (ix v3))), .int (if isPl (zI (nw σ 2 9) (atR (zI σ 13 1) 8 v3 (zR σ 14 (ix v3))) 0) then (if (1 : Int32) = 0 then zI (nw σ 2 9) 8 (ix (zI (nw σ 2 9) (atR (zI σ 13 1) 8 v3 (zR σ 14 (ix v3))) 0)) else zI (nw σ 2 9) 7 (ix (zI (nw σ 2 9) (atR (zI σ 13 1) 8 v3 (zR σ 14 (ix v3))) 0))) else 0)]) (k' := kk) (n' := nn) (s_X2_init (o14 c1 c2 c3 c4) (o15 c1 c2 c3 c4)) mw_X2_init rfl rfl w_767 w_766 ar_X2_init rfl ⟨rfl, rfl, ble_z _, ble_z _, rfl⟩ dX11_issued_90 (Nat.succ_ne_zero _) ?_
          refine V_callV0 (as := [.ref (zN σ + 1)]) (k' := kk) (n' := nn) (s_X9_add (o16 c1 c2 c3 c4)) mw_X9_add ko_X9 rfl w_812 w_813 w_811 ar_X9_add rfl ⟨rfl, rfl, ble_z _, ble_z _, rfl⟩ dX11_issued_93 (o17 c1 c2 c3 c4) (o18 c1 c2 c3 c4) ?_
          refine V_iinc (v3 + (1 : Int32)) [(0, .ref 2), (1, .int v1), (2, .ref v2), (3, .int (v3 + (1 : Int32))), (4, .ref (atR (zI σ 13 1) 8 v3 (zR σ 14 (ix v3))))] dX11_issued_96 rfl rfl rfl rfl ?_
          refine V_goto 25 dX11_issued_99 rfl ?_
          exact V_less (mm_keep (mm_keep (mm_keep (mm_keep (mm_drop mm_nil))))) (by omega) (by omega) (k5 c1 c2 c3 c4)
set_option maxRecDepth 100000 in
set_option maxHeartbeats 4000000 in
theorem b_X11_issued_102 {g : GP} {CX : State → Array Value → Prop} {Q : AH → Option Value → Prop} {X : AH → String → Prop} {v1 : Int32} {v2 : Nat} {v3 : Int32} {σ : AH}
    (hS : Sh σ)
    (o1 : RT σ)
    (o2 : RJ σ)
    (o3 : soP σ v2)
    (k1 : ((30 : Int32) ≤ (zI (soT σ v2) 2 8)) → Q (uI (soT σ v2) 13 1 0) (some (.ref v2)))
    (o4 : (¬ (30 : Int32) ≤ (zI (soT σ v2) 2 8)) → vp_in (zI (soT σ v2) 2 8) 30)
    (o5 : (¬ (30 : Int32) ≤ (zI (soT σ v2) 2 8)) → v2 ≠ 0)
    (o6 : (¬ (30 : Int32) ≤ (zI (soT σ v2) 2 8)) → zK (soT σ v2) v2 = 9)
    (k2 : (¬ (30 : Int32) ≤ (zI (soT σ v2) 2 8)) → Q (uI (uI (uR (soT σ v2) 30 (Int32.toNatClampNeg (zI (soT σ v2) 2 8)) v2) 2 8 ((zI (soT σ v2) 2 8) + (1 : Int32))) 13 1 0) (some (.ref v2))) :
    V g mX11_issued (Em g mX11_issued Q X) CX 0 0 102 [(0, .ref 2), (1, .int v1), (2, .ref v2), (3, .int v3)] [] σ := by
  refine V_aload_n dX11_issued_102 rfl ?_
  refine V_aload_n dX11_issued_103 rfl ?_
  refine V_callV0 (as := [.ref v2]) (k' := 0) (n' := 0) (s_X11_shareOut hS o1 o2 o3) mw_X11_shareOut ko_X11 rfl w_817 w_10 w_815 ar_X11_shareOut rfl ⟨rfl, rfl, rfl, rfl, rfl⟩ dX11_issued_104 (by decide) (shk hS 2 rfl) ?_
  refine V_aload_n dX11_issued_107 rfl ?_
  refine V_getf (fk := 8) (Value.int (zI (soT σ v2) 2 8)) ko_X11 rfl w_212 dX11_issued_108 (by decide) (shk (Sh_soT hS) 2 rfl) rfl ?_
  refine V_bipush (30 : Int32) dX11_issued_111 (by decide) ?_
  refine V_icmp_ge 136 dX11_issued_113 rfl (fun c1 => ?_) (fun c1 => ?_)
  · refine V_aload_n dX11_issued_136 rfl ?_
    refine V_getf (fk := 2) (Value.ref 13) ko_X11 rfl w_206 dX11_issued_137 (by decide) (shk (Sh_soT hS) 2 rfl) (congrArg Value.ref (shr (Sh_soT hS) 2 2 13 (by decide))) ?_
    refine V_callV1 (as := []) (k' := 0) (n' := 0) (s_X4_beginAnew (Sh_soT hS)) mw_X4_beginAnew ko_X4 rfl w_837 w_838 w_836 ar_X4_beginAnew rfl ⟨rfl, rfl, rfl, rfl, rfl⟩ dX11_issued_140 (by decide) (shk (Sh_soT hS) 13 rfl) ?_
    refine V_pop dX11_issued_143 rfl ?_
    refine V_aload_n dX11_issued_144 rfl ?_
    exact V_aret rfl dX11_issued_145 (k1 c1)
  · refine V_aload_n dX11_issued_116 rfl ?_
    refine V_getf (fk := 5) (Value.ref 30) ko_X11 rfl w_209 dX11_issued_117 (by decide) (shk (Sh_soT hS) 2 rfl) (congrArg Value.ref (shr (Sh_soT hS) 2 5 30 (by decide))) ?_
    refine V_aload_n dX11_issued_120 rfl ?_
    refine V_getf (fk := 8) (Value.int (zI (soT σ v2) 2 8)) ko_X11 rfl w_212 dX11_issued_121 (by decide) (shk (Sh_soT hS) 2 rfl) rfl ?_
    refine V_aload_n dX11_issued_124 rfl ?_
    refine V_aast ao_39 ko_X9 dX11_issued_125 (by decide) (shk (Sh_soT hS) 30 rfl) (vp_l (n := 30) (shl (Sh_soT hS) 30 rfl) (o4 c1)) (o5 c1) (o6 c1) ?_
    refine V_aload_n dX11_issued_126 rfl ?_
    refine V_dup dX11_issued_127 rfl ?_
    refine V_getf (fk := 8) (Value.int (zI (soT σ v2) 2 8)) ko_X11 rfl w_212 dX11_issued_128 (by decide) (shk (Sh_uRl (by decide) (Sh_soT hS)) 2 rfl) rfl ?_
    refine V_iconst (1 : Int32) dX11_issued_131 (by decide) ?_
    refine V_iadd dX11_issued_132 ?_
    refine V_puti (fk := 8) ko_X11 rfl w_212 (Or.inl rfl) dX11_issued_133 rfl (by decide) (shk (Sh_uRl (by decide) (Sh_soT hS)) 2 rfl) ?_
    refine V_aload_n dX11_issued_136 rfl ?_
    refine V_getf (fk := 2) (Value.ref 13) ko_X11 rfl w_206 dX11_issued_137 (by decide) (shk (Sh_uI (Sh_uRl (by decide) (Sh_soT hS))) 2 rfl) (congrArg Value.ref (shr (Sh_uI (Sh_uRl (by decide) (Sh_soT hS))) 2 2 13 (by decide))) ?_
    refine V_callV1 (as := []) (k' := 0) (n' := 0) (s_X4_beginAnew (Sh_uI (Sh_uRl (by decide) (Sh_soT hS)))) mw_X4_beginAnew ko_X4 rfl w_837 w_838 w_836 ar_X4_beginAnew rfl ⟨rfl, rfl, rfl, rfl, rfl⟩ dX11_issued_140 (by decide) (shk (Sh_uI (Sh_uRl (by decide) (Sh_soT hS))) 13 rfl) ?_
    refine V_pop dX11_issued_143 rfl ?_
    refine V_aload_n dX11_issued_144 rfl ?_
    exact V_aret rfl dX11_issued_145 (k2 c1)

