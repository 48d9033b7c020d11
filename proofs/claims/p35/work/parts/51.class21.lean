/-! ===== the class: clearing, its steps ===== -/
set_option maxRecDepth 100000 in
set_option maxHeartbeats 4000000 in
theorem b_X1_billAt_0 {g : GP} {CX : State → Array Value → Prop} {Q : AH → Option Value → Prop} {X : AH → String → Prop} {v1 : Int32} {σ : AH}
    (hS : Sh σ)
    (k1 : (v1 < 0) → Q σ (some (.ref 0)))
    (k2 : (¬ v1 < 0) → ((zI σ 27 2) ≤ v1) → Q σ (some (.ref 0)))
    (k3 : (¬ v1 < 0) → (¬ (zI σ 27 2) ≤ v1) → ((240 : Int32) ≤ v1) → Q σ (some (.ref 0)))
    (o1 : (¬ v1 < 0) → (¬ (zI σ 27 2) ≤ v1) → (¬ (240 : Int32) ≤ v1) → vp_in v1 240)
    (k4 : (¬ v1 < 0) → (¬ (zI σ 27 2) ≤ v1) → (¬ (240 : Int32) ≤ v1) → Q σ (some (.ref (zR σ 28 (Int32.toNatClampNeg v1))))) :
    V g mX1_billAt (Em g mX1_billAt Q X) CX 0 0 0 [(0, .ref 27), (1, .int v1)] [] σ := by
  refine V_iload_n dX1_billAt_0 rfl ?_
  refine V_if_lt 28 dX1_billAt_1 rfl (fun c1 => ?_) (fun c1 => ?_)
  · refine V_null dX1_billAt_28 ?_
    exact V_aret rfl dX1_billAt_29 (k1 c1)
  · refine V_iload_n dX1_billAt_4 rfl ?_
    refine V_aload_n dX1_billAt_5 rfl ?_
    refine V_getf (fk := 2) (Value.int (zI σ 27 2)) ko_X1 rfl w_184 dX1_billAt_6 (by decide) (shk hS 27 rfl) rfl ?_
    refine V_icmp_ge 28 dX1_billAt_9 rfl (fun c2 => ?_) (fun c2 => ?_)
    · refine V_null dX1_billAt_28 ?_
      exact V_aret rfl dX1_billAt_29 (k2 c1 c2)
    · refine V_iload_n dX1_billAt_12 rfl ?_
      refine V_sipush (240 : Int32) dX1_billAt_13 (by decide) ?_
      refine V_icmp_ge 28 dX1_billAt_16 rfl (fun c3 => ?_) (fun c3 => ?_)
      · refine V_null dX1_billAt_28 ?_
        exact V_aret rfl dX1_billAt_29 (k3 c1 c2 c3)
      · refine V_aload_n dX1_billAt_19 rfl ?_
        refine V_getf (fk := 0) (Value.ref 28) ko_X1 rfl w_182 dX1_billAt_20 (by decide) (shk hS 27 rfl) (congrArg Value.ref (shr hS 27 0 28 (by decide))) ?_
        refine V_iload_n dX1_billAt_23 rfl ?_
        refine V_aald ao_30 dX1_billAt_24 (by decide) (shk hS 28 rfl) (vp_l (n := 240) (shl hS 28 rfl) (o1 c1 c2 c3)) ?_
        refine V_goto 29 dX1_billAt_25 rfl ?_
        exact V_aret rfl dX1_billAt_29 (k4 c1 c2 c3)

set_option maxRecDepth 100000 in
set_option maxHeartbeats 4000000 in
theorem b_X1_isInDefault_0 {g : GP} {CX : State → Array Value → Prop} {Q : AH → Option Value → Prop} {X : AH → String → Prop} {v1 : Int32} {σ : AH}
    (hS : Sh σ)
    (k1 : (¬ (isCa v1)) → Q σ (some (.int (0 : Int32))))
    (k2 : (isCa v1) → (¬ (((zI σ 27 4) >>> (v1 &&& 31)) &&& (1 : Int32)) = (1 : Int32)) → Q σ (some (.int (0 : Int32))))
    (k3 : (isCa v1) → ((((zI σ 27 4) >>> (v1 &&& 31)) &&& (1 : Int32)) = (1 : Int32)) → Q σ (some (.int (1 : Int32)))) :
    V g mX1_isInDefault (Em g mX1_isInDefault Q X) CX 0 0 0 [(0, .ref 27), (1, .int v1)] [] σ := by
  refine V_iload_n dX1_isInDefault_0 rfl ?_
  refine V_callSN1 (as := [.int v1]) (k' := 0) (n' := 0) (s_X11_isCarrier) mw_X11_isCarrier w_364 wn_967 ar_X11_isCarrier rfl ⟨rfl, rfl, rfl, rfl, rfl⟩ dX1_isInDefault_1 ?_
  refine V_if_eq 23 dX1_isInDefault_4 rfl (fun c1 => ?_) (fun c1 => ?_)
  · replace c1 := jb_0.mp c1
    refine V_iconst (0 : Int32) dX1_isInDefault_23 (by decide) ?_
    exact V_zret rfl dX1_isInDefault_24 (by decide) (k1 c1)
  · replace c1 := jb_n.mp c1
    refine V_aload_n dX1_isInDefault_7 rfl ?_
    refine V_getf (fk := 4) (Value.int (zI σ 27 4)) ko_X1 rfl w_188 dX1_isInDefault_8 (by decide) (shk hS 27 rfl) rfl ?_
    refine V_iload_n dX1_isInDefault_11 rfl ?_
    refine V_ishr dX1_isInDefault_12 ?_
    refine V_iconst (1 : Int32) dX1_isInDefault_13 (by decide) ?_
    refine V_iand dX1_isInDefault_14 ?_
    refine V_iconst (1 : Int32) dX1_isInDefault_15 (by decide) ?_
    refine V_icmp_ne 23 dX1_isInDefault_16 rfl (fun c2 => ?_) (fun c2 => ?_)
    · refine V_iconst (0 : Int32) dX1_isInDefault_23 (by decide) ?_
      exact V_zret rfl dX1_isInDefault_24 (by decide) (k2 c1 c2)
    · refine V_iconst (1 : Int32) dX1_isInDefault_19 (by decide) ?_
      refine V_goto 24 dX1_isInDefault_20 rfl ?_
      exact V_zret rfl dX1_isInDefault_24 (by decide) (k3 c1 c2)

set_option maxRecDepth 100000 in
set_option maxHeartbeats 4000000 in
theorem b_X1_netOf_0 {g : GP} {CX : State → Array Value → Prop} {Q : AH → Option Value → Prop} {X : AH → String → Prop} {v1 : Int32} {σ : AH}
    (hS : Sh σ)
    (k1 : (¬ (isCa v1)) → Q σ (some (.long (0 : Int64))))
    (o1 : (isCa v1) → vp_in v1 5)
    (k2 : (isCa v1) → Q σ (some (.long (zJ σ 29 (Int32.toNatClampNeg v1))))) :
    V g mX1_netOf (Em g mX1_netOf Q X) CX 0 0 0 [(0, .ref 27), (1, .int v1)] [] σ := by
  refine V_iload_n dX1_netOf_0 rfl ?_
  refine V_callSN1 (as := [.int v1]) (k' := 0) (n' := 0) (s_X11_isCarrier) mw_X11_isCarrier w_364 wn_967 ar_X11_isCarrier rfl ⟨rfl, rfl, rfl, rfl, rfl⟩ dX1_netOf_1 ?_
  refine V_if_eq 16 dX1_netOf_4 rfl (fun c1 => ?_) (fun c1 => ?_)
  · replace c1 := jb_0.mp c1
    refine V_lconst (0 : Int64) dX1_netOf_16 (by decide) ?_
    exact V_lret rfl dX1_netOf_17 (k1 c1)
  · replace c1 := jb_n.mp c1
    refine V_aload_n dX1_netOf_7 rfl ?_
    refine V_getf (fk := 1) (Value.ref 29) ko_X1 rfl w_183 dX1_netOf_8 (by decide) (shk hS 27 rfl) (congrArg Value.ref (shr hS 27 1 29 (by decide))) ?_
    refine V_iload_n dX1_netOf_11 rfl ?_
    refine V_lald dX1_netOf_12 (by decide) (shk hS 29 rfl) (vp_l (n := 5) (shl hS 29 rfl) (o1 c1)) ?_
    refine V_goto 17 dX1_netOf_13 rfl ?_
    exact V_lret rfl dX1_netOf_17 (k2 c1)

set_option maxRecDepth 100000 in
set_option maxHeartbeats 4000000 in
theorem b_X1_putDefault_0 {g : GP} {CX : State → Array Value → Prop} {Q : AH → Option Value → Prop} {X : AH → String → Prop} {v1 : Int32} {v2 : Int32} {σ : AH}
    (hS : Sh σ)
    (k1 : (¬ (isCa v1)) → Q σ none)
    (k2 : (isCa v1) → (v2 = 0) → Q (uI σ 27 4 ((zI σ 27 4) &&& (((1 : Int32) <<< (v1 &&& 31)) ^^^ (-1 : Int32)))) none)
    (k3 : (isCa v1) → (¬ v2 = 0) → Q (uI σ 27 4 ((zI σ 27 4) ||| ((1 : Int32) <<< (v1 &&& 31)))) none) :
    V g mX1_putDefault (Em g mX1_putDefault Q X) CX 0 0 0 [(0, .ref 27), (1, .int v1), (2, .int v2)] [] σ := by
  refine V_iload_n dX1_putDefault_0 rfl ?_
  refine V_callSN1 (as := [.int v1]) (k' := 0) (n' := 0) (s_X11_isCarrier) mw_X11_isCarrier w_364 wn_967 ar_X11_isCarrier rfl ⟨rfl, rfl, rfl, rfl, rfl⟩ dX1_putDefault_1 ?_
  refine V_if_eq 36 dX1_putDefault_4 rfl (fun c1 => ?_) (fun c1 => ?_)
  · replace c1 := jb_0.mp c1
    exact V_vret rfl dX1_putDefault_36 (k1 c1)
  · replace c1 := jb_n.mp c1
    refine V_aload_n dX1_putDefault_7 rfl ?_
    refine V_iload_n dX1_putDefault_8 rfl ?_
    refine V_if_eq 23 dX1_putDefault_9 rfl (fun c2 => ?_) (fun c2 => ?_)
    · refine V_aload_n dX1_putDefault_23 rfl ?_
      refine V_getf (fk := 4) (Value.int (zI σ 27 4)) ko_X1 rfl w_188 dX1_putDefault_24 (by decide) (shk hS 27 rfl) rfl ?_
      refine V_iconst (1 : Int32) dX1_putDefault_27 (by decide) ?_
      refine V_iload_n dX1_putDefault_28 rfl ?_
      refine V_ishl dX1_putDefault_29 ?_
      refine V_iconst (-1 : Int32) dX1_putDefault_30 (by decide) ?_
      refine V_ixor dX1_putDefault_31 ?_
      refine V_iand dX1_putDefault_32 ?_
      refine V_puti (fk := 4) ko_X1 rfl w_188 (Or.inl rfl) dX1_putDefault_33 rfl (by decide) (shk hS 27 rfl) ?_
      exact V_vret rfl dX1_putDefault_36 (k2 c1 c2)
    · refine V_aload_n dX1_putDefault_12 rfl ?_
      refine V_getf (fk := 4) (Value.int (zI σ 27 4)) ko_X1 rfl w_188 dX1_putDefault_13 (by decide) (shk hS 27 rfl) rfl ?_
      refine V_iconst (1 : Int32) dX1_putDefault_16 (by decide) ?_
      refine V_iload_n dX1_putDefault_17 rfl ?_
      refine V_ishl dX1_putDefault_18 ?_
      refine V_ior dX1_putDefault_19 ?_
      refine V_goto 33 dX1_putDefault_20 rfl ?_
      refine V_puti (fk := 4) ko_X1 rfl w_188 (Or.inl rfl) dX1_putDefault_33 rfl (by decide) (shk hS 27 rfl) ?_
      exact V_vret rfl dX1_putDefault_36 (k3 c1 c2)

set_option maxRecDepth 100000 in
set_option maxHeartbeats 4000000 in
theorem b_X1_forgetNets_0 {g : GP} {CX : State → Array Value → Prop} {E : ET}  {σ : AH}
    (k1 : V g mX1_forgetNets E CX 0 0 2 [(0, .ref 27), (1, .int (0 : Int32))] [] σ) :
    V g mX1_forgetNets E CX 0 0 0 [(0, .ref 27)] [] σ := by
  refine V_iconst (0 : Int32) dX1_forgetNets_0 (by decide) ?_
  refine V_istore_n [(0, .ref 27), (1, .int (0 : Int32))] dX1_forgetNets_1 rfl rfl ?_
  exact k1
set_option maxRecDepth 100000 in
set_option maxHeartbeats 4000000 in
theorem b_X1_forgetNets_2 {g : GP} {CX : State → Array Value → Prop} {Q : AH → Option Value → Prop} {X : AH → String → Prop} {v1 : Int32} {σ : AH}
    (hS : Sh σ)
    (k1 : ((5 : Int32) ≤ v1) → Q σ none)
    (o1 : (¬ (5 : Int32) ≤ v1) → vp_in v1 5)
    (k2 : (¬ (5 : Int32) ≤ v1) → V g mX1_forgetNets (Em g mX1_forgetNets Q X) CX 0 0 2 [(0, .ref 27), (1, .int (v1 + (1 : Int32)))] [] (uJ σ 29 (Int32.toNatClampNeg v1) (0 : Int64))) :
    V g mX1_forgetNets (Em g mX1_forgetNets Q X) CX 0 0 2 [(0, .ref 27), (1, .int v1)] [] σ := by
  refine V_iload_n dX1_forgetNets_2 rfl ?_
  refine V_iconst (5 : Int32) dX1_forgetNets_3 (by decide) ?_
  refine V_icmp_ge 20 dX1_forgetNets_4 rfl (fun c1 => ?_) (fun c1 => ?_)
  · exact V_vret rfl dX1_forgetNets_20 (k1 c1)
  · refine V_aload_n dX1_forgetNets_7 rfl ?_
    refine V_getf (fk := 1) (Value.ref 29) ko_X1 rfl w_183 dX1_forgetNets_8 (by decide) (shk hS 27 rfl) (congrArg Value.ref (shr hS 27 1 29 (by decide))) ?_
    refine V_iload_n dX1_forgetNets_11 rfl ?_
    refine V_lconst (0 : Int64) dX1_forgetNets_12 (by decide) ?_
    refine V_last dX1_forgetNets_13 (by decide) (shk hS 29 rfl) (vp_l (n := 5) (shl hS 29 rfl) (o1 c1)) ?_
    refine V_iinc (v1 + (1 : Int32)) [(0, .ref 27), (1, .int (v1 + (1 : Int32)))] dX1_forgetNets_14 rfl rfl rfl rfl ?_
    refine V_goto 2 dX1_forgetNets_17 rfl ?_
    exact (k2 c1)

set_option maxRecDepth 100000 in
set_option maxHeartbeats 4000000 in
theorem b_X1_addToNets_0 {g : GP} {CX : State → Array Value → Prop} {Q : AH → Option Value → Prop} {X : AH → String → Prop} {v1 : Nat} {v2 : Int32} {σ : AH}
    (hS : Sh σ)
    (o1 : v1 ≠ 0)
    (o2 : zK σ v1 = 0)
    (k1 : (¬ (isCa (zI σ v1 0))) → Q σ none)
    (k2 : (isCa (zI σ v1 0)) → (¬ (isCa (zI σ v1 1))) → Q σ none)
    (o3 : (isCa (zI σ v1 0)) → (isCa (zI σ v1 1)) → vp_in (zI σ v1 0) 5)
    (o4 : (isCa (zI σ v1 0)) → (isCa (zI σ v1 1)) → vp_in (zI σ v1 1) 5)
    (k3 : (isCa (zI σ v1 0)) → (isCa (zI σ v1 1)) → Q (uJ (uJ σ 29 (Int32.toNatClampNeg (zI σ v1 0)) ((zJ σ 29 (Int32.toNatClampNeg (zI σ v1 0))) - (Int32.toInt64 v2))) 29 (Int32.toNatClampNeg (zI σ v1 1)) ((zJ (uJ σ 29 (Int32.toNatClampNeg (zI σ v1 0)) ((zJ σ 29 (Int32.toNatClampNeg (zI σ v1 0))) - (Int32.toInt64 v2))) 29 (Int32.toNatClampNeg (zI σ v1 1))) + (Int32.toInt64 v2))) none) :
    V g mX1_addToNets (Em g mX1_addToNets Q X) CX 0 0 0 [(0, .ref 27), (1, .ref v1), (2, .int v2)] [] σ := by
  refine V_aload_n dX1_addToNets_0 rfl ?_
  refine V_getf (fk := 0) (Value.int (zI σ v1 0)) ko_X0 rfl w_918 dX1_addToNets_1 o1 o2 rfl ?_
  refine V_callSN1 (as := [.int (zI σ v1 0)]) (k' := 0) (n' := 0) (s_X11_isCarrier) mw_X11_isCarrier w_364 wn_967 ar_X11_isCarrier rfl ⟨rfl, rfl, rfl, rfl, rfl⟩ dX1_addToNets_4 ?_
  refine V_if_eq 48 dX1_addToNets_7 rfl (fun c1 => ?_) (fun c1 => ?_)
  · replace c1 := jb_0.mp c1
    exact V_vret rfl dX1_addToNets_48 (k1 c1)
  · replace c1 := jb_n.mp c1
    refine V_aload_n dX1_addToNets_10 rfl ?_
    refine V_getf (fk := 1) (Value.int (zI σ v1 1)) ko_X0 rfl w_921 dX1_addToNets_11 o1 o2 rfl ?_
    refine V_callSN1 (as := [.int (zI σ v1 1)]) (k' := 0) (n' := 0) (s_X11_isCarrier) mw_X11_isCarrier w_364 wn_967 ar_X11_isCarrier rfl ⟨rfl, rfl, rfl, rfl, rfl⟩ dX1_addToNets_14 ?_
    refine V_if_eq 48 dX1_addToNets_17 rfl (fun c2 => ?_) (fun c2 => ?_)
    · replace c2 := jb_0.mp c2
      exact V_vret rfl dX1_addToNets_48 (k2 c1 c2)
    · replace c2 := jb_n.mp c2
      refine V_aload_n dX1_addToNets_20 rfl ?_
      refine V_getf (fk := 1) (Value.ref 29) ko_X1 rfl w_183 dX1_addToNets_21 (by decide) (shk hS 27 rfl) (congrArg Value.ref (shr hS 27 1 29 (by decide))) ?_
      refine V_aload_n dX1_addToNets_24 rfl ?_
      refine V_getf (fk := 0) (Value.int (zI σ v1 0)) ko_X0 rfl w_918 dX1_addToNets_25 o1 o2 rfl ?_
      refine V_dup2 dX1_addToNets_28 rfl rfl ?_
      refine V_lald dX1_addToNets_29 (by decide) (shk hS 29 rfl) (vp_l (n := 5) (shl hS 29 rfl) (o3 c1 c2)) ?_
      refine V_iload_n dX1_addToNets_30 rfl ?_
      refine V_i2l dX1_addToNets_31 ?_
      refine V_lsub dX1_addToNets_32 ?_
      refine V_last dX1_addToNets_33 (by decide) (shk hS 29 rfl) (vp_l (n := 5) (shl hS 29 rfl) (o3 c1 c2)) ?_
      refine V_aload_n dX1_addToNets_34 rfl ?_
      refine V_getf (fk := 1) (Value.ref 29) ko_X1 rfl w_183 dX1_addToNets_35 (by decide) (shk (Sh_uJ hS) 27 rfl) (congrArg Value.ref (shr (Sh_uJ hS) 27 1 29 (by decide))) ?_
      refine V_aload_n dX1_addToNets_38 rfl ?_
      refine V_getf (fk := 1) (Value.int (zI σ v1 1)) ko_X0 rfl w_921 dX1_addToNets_39 o1 o2 (congrArg Value.int (zI_uJ _ _ _ _ _ _)) ?_
      refine V_dup2 dX1_addToNets_42 rfl rfl ?_
      refine V_lald dX1_addToNets_43 (by decide) (shk (Sh_uJ hS) 29 rfl) (vp_l (n := 5) (shl (Sh_uJ hS) 29 rfl) (o4 c1 c2)) ?_
      refine V_iload_n dX1_addToNets_44 rfl ?_
      refine V_i2l dX1_addToNets_45 ?_
      refine V_ladd dX1_addToNets_46 ?_
      refine V_last dX1_addToNets_47 (by decide) (shk (Sh_uJ hS) 29 rfl) (vp_l (n := 5) (shl (Sh_uJ hS) 29 rfl) (o4 c1 c2)) ?_
      exact V_vret rfl dX1_addToNets_48 (k3 c1 c2)

theorem s_X1_billAt {g : GP} {σ : AH} {x : Int32} (hS : Sh σ) : Ct g mX1_billAt [.ref 27, .int x] σ (FQ σ (some (.ref (atR (zI σ 27 2) 240 x (zR σ 28 (ix x)))))) :=
  Ct_of (by decide +kernel) rfl rfl (b_X1_billAt_0 hS (fun c => fq_r (by rw [atR, if_pos (Or.inl c)])) (fun _ c => fq_r (by rw [atR, if_pos (Or.inr (Or.inl c))])) (fun _ _ c => fq_r (by rw [atR, if_pos (Or.inr (Or.inr c))])) (fun c _ c2 => isPl_vpN (n := 240) c c2) (fun c c2 c3 => fq_r (by rw [atR, if_neg (fun q => q.elim c (fun q => q.elim c2 c3))])))
/-- is a carrier in default, by the class's bits -/
abbrev idF (σ : AH) (x : Int32) : Prop := (zI σ 27 4 >>> (x &&& 31)) &&& 1 = 1
theorem s_X1_isInDefault {g : GP} {σ : AH} {x : Int32} (hS : Sh σ) (hx : isCa x) : Ct g mX1_isInDefault [.ref 27, .int x] σ (FQ σ (some (.int (jb (idF σ x))))) :=
  Ct_of (by decide +kernel) rfl rfl (b_X1_isInDefault_0 hS (fun c => absurd hx c) (fun _ c => fq_i (jb_f c).symm) (fun _ c => fq_i (jb_t c).symm))
def pdF (σ : AH) (x z : Int32) : Int32 := if z = 0 then zI σ 27 4 &&& (((1 : Int32) <<< (x &&& 31)) ^^^ (-1)) else zI σ 27 4 ||| ((1 : Int32) <<< (x &&& 31))
theorem s_X1_putDefault {g : GP} {σ : AH} {x z : Int32} (hS : Sh σ) (hx : isCa x) : Ct g mX1_putDefault [.ref 27, .int x, .int z] σ (FQ (uI σ 27 4 (pdF σ x z)) none) :=
  Ct_of (by decide +kernel) rfl rfl (b_X1_putDefault_0 hS (fun c => absurd hx c) (fun _ c => by rw [pdF, if_pos c]; exact fq) (fun _ c => by rw [pdF, if_neg c]; exact fq))
theorem s_X1_netOf {g : GP} {σ : AH} {x : Int32} (hS : Sh σ) (hx : isCa x) : Ct g mX1_netOf [.ref 27, .int x] σ (FQ σ (some (.long (zJ σ 29 (ix x))))) :=
  Ct_of (by decide +kernel) rfl rfl (b_X1_netOf_0 hS (fun c => absurd hx c) (fun c => isCa_vp c) (fun _ => fq))
/-- the nets at naught, d of them -/
def fnH (σ : AH) (d : Nat) : AH := s2 σ (zI σ) (fun a c => if a = 29 ∧ c < d then 0 else zJ σ a c)
theorem s_X1_forgetNets {g : GP} {σ : AH} (hS : Sh σ) : Ct g mX1_forgetNets [.ref 27] σ (FQ (fnH σ 5) none) := by
  refine Ct_of (by decide +kernel) rfl rfl (b_X1_forgetNets_0 ?_)
  have e0 : fnH σ 0 = σ := by
    refine Eq.trans ?_ (s2_self σ)
    exact s2_cg (fun _ _ => rfl) (fun a c => by rw [if_neg (by omega)])
  refine V_cast rfl rfl e0.symm ?_
  refine up_loop (P := fun d => V g mX1_forgetNets (Em g mX1_forgetNets (FQ (fnH σ 5) none) NX) CT 0 0 2 [(0, .ref 27), (1, .int (nI d))] [] (fnH σ d)) 5 ?_ ?_ 0 (by decide)
  · have hle : (5 : Int32) ≤ nI 5 := Int32.le_refl _
    exact b_X1_forgetNets_2 (σ := fnH σ 5) hS (fun _ => fq) (fun c => absurd hle c) (fun c => absurd hle c)
  · intro d hd ih
    have hlt : ¬ (5 : Int32) ≤ nI d := nI_ge (a := d) (b := 5) hd (by decide)
    have hc : (nI d).toNatClampNeg = d := cl0 (by omega)
    rw [← nI_1] at ih
    refine b_X1_forgetNets_2 (σ := fnH σ d) hS (fun c => absurd c hlt) (fun _ => vp_in_nI (by omega) (by decide)) (fun _ => ?_)
    rw [hc]
    refine V_cast rfl rfl ?_ ih
    rw [fnH, fnH, uJ_s2]
    refine s2_cg (fun _ _ => rfl) (fun a c => ?_)
    by_cases h : a = 29 ∧ c = d
    · rw [if_pos h, if_pos (by omega)]
    · rw [if_neg h]
      by_cases h2 : a = 29 ∧ c < d
      · rw [if_pos h2, if_pos (by omega)]
      · rw [if_neg h2, if_neg (by omega)]
def anH (σ : AH) (x y : Nat) (m : Int64) : AH := s2 σ (zI σ) (fun b c => if b = 29 then zJ σ b c - (if c = x then m else 0) + (if c = y then m else 0) else zJ σ b c)
theorem s_X1_addToNets {g : GP} {σ : AH} {a : Nat} {m : Int32} (hS : Sh σ) (h : BK σ a) (hx : isCa (zI σ a 0)) (hy : isCa (zI σ a 1)) : Ct g mX1_addToNets [.ref 27, .ref a, .int m] σ (FQ (anH σ (ix (zI σ a 0)) (ix (zI σ a 1)) (Int32.toInt64 m)) none) := by
  refine Ct_of (by decide +kernel) rfl rfl (b_X1_addToNets_0 hS h.1 h.2 (fun c => absurd hx c) (fun _ c => absurd hy c) (fun c _ => isCa_vp c) (fun _ c => isCa_vp c) (fun _ _ => ⟨?_, rfl⟩))
  rw [← s2_self σ]
  simp only [uJ_s2, anH]
  rw [s2_self]
  refine s2_cg (fun _ _ => rfl) (fun b c => ?_)
  simp only [zJ_uJ, zJ_s2, ix]
  by_cases h1 : c = (zI σ a 0).toNatClampNeg <;> by_cases h2 : c = (zI σ a 1).toNatClampNeg <;> by_cases h3 : b = 29 <;> simp_all
set_option maxRecDepth 100000 in
set_option maxHeartbeats 4000000 in
theorem b_X1_sumOfNetsAboveZero_0 {g : GP} {CX : State → Array Value → Prop} {E : ET}  {σ : AH}
    (k1 : V g mX1_sumOfNetsAboveZero E CX 0 0 4 [(0, .ref 27), (1, .long (0 : Int64)), (3, .int (0 : Int32))] [] σ) :
    V g mX1_sumOfNetsAboveZero E CX 0 0 0 [(0, .ref 27)] [] σ := by
  refine V_lconst (0 : Int64) dX1_sumOfNetsAboveZero_0 (by decide) ?_
  refine V_lstore_n [(0, .ref 27), (1, .long (0 : Int64))] dX1_sumOfNetsAboveZero_1 rfl rfl ?_
  refine V_iconst (0 : Int32) dX1_sumOfNetsAboveZero_2 (by decide) ?_
  refine V_istore_n [(0, .ref 27), (1, .long (0 : Int64)), (3, .int (0 : Int32))] dX1_sumOfNetsAboveZero_3 rfl rfl ?_
  exact k1
set_option maxRecDepth 100000 in
set_option maxHeartbeats 4000000 in
theorem b_X1_sumOfNetsAboveZero_4 {g : GP} {CX : State → Array Value → Prop} {Q : AH → Option Value → Prop} {X : AH → String → Prop} {v1 : Int64} {v3 : Int32} {σ : AH}
    (hS : Sh σ)
    (k1 : ((5 : Int32) ≤ v3) → Q σ (some (.long v1)))
    (o1 : (¬ (5 : Int32) ≤ v3) → isCa v3)
    (k2 : (¬ (5 : Int32) ≤ v3) → V g mX1_sumOfNetsAboveZero (Em g mX1_sumOfNetsAboveZero Q X) CX 0 0 4 [(0, .ref 27), (1, .long (v1 + (if (0 : Int64) < (zJ σ 29 (ix v3)) then (zJ σ 29 (ix v3)) else (0 : Int64)))), (3, .int (v3 + (1 : Int32)))] [] σ) :
    V g mX1_sumOfNetsAboveZero (Em g mX1_sumOfNetsAboveZero Q X) CX 0 0 4 [(0, .ref 27), (1, .long v1), (3, .int v3)] [] σ := by
  refine V_iload_n dX1_sumOfNetsAboveZero_4 rfl ?_
  refine V_iconst (5 : Int32) dX1_sumOfNetsAboveZero_5 (by decide) ?_
  refine V_icmp_ge 27 dX1_sumOfNetsAboveZero_6 rfl (fun c1 => ?_) (fun c1 => ?_)
  · refine V_lload_n dX1_sumOfNetsAboveZero_27 rfl ?_
    exact V_lret rfl dX1_sumOfNetsAboveZero_28 (k1 c1)
  · refine V_lload_n dX1_sumOfNetsAboveZero_9 rfl ?_
    refine V_aload_n dX1_sumOfNetsAboveZero_10 rfl ?_
    refine V_iload_n dX1_sumOfNetsAboveZero_11 rfl ?_
    refine V_callV1 (as := [.int v3]) (k' := 0) (n' := 0) (s_X1_netOf hS (o1 c1)) mw_X1_netOf ko_X1 rfl w_985 w_986 w_992 ar_X1_netOf rfl ⟨rfl, rfl, rfl, rfl, rfl⟩ dX1_sumOfNetsAboveZero_12 (by decide) (shk hS 27 rfl) ?_
    refine V_lconst (0 : Int64) dX1_sumOfNetsAboveZero_15 (by decide) ?_
    refine V_maxl w_993 w_994 w_36 w_995 dX1_sumOfNetsAboveZero_16 rfl rfl ?_
    refine V_ladd dX1_sumOfNetsAboveZero_19 ?_
    refine V_lstore_n [(0, .ref 27), (1, .long (v1 + (if (0 : Int64) < (zJ σ 29 (ix v3)) then (zJ σ 29 (ix v3)) else (0 : Int64)))), (3, .int v3)] dX1_sumOfNetsAboveZero_20 rfl rfl ?_
    refine V_iinc (v3 + (1 : Int32)) [(0, .ref 27), (1, .long (v1 + (if (0 : Int64) < (zJ σ 29 (ix v3)) then (zJ σ 29 (ix v3)) else (0 : Int64)))), (3, .int (v3 + (1 : Int32)))] dX1_sumOfNetsAboveZero_21 rfl rfl rfl rfl ?_
    refine V_goto 4 dX1_sumOfNetsAboveZero_24 rfl ?_
    exact (k2 c1)

set_option maxRecDepth 100000 in
set_option maxHeartbeats 4000000 in
theorem b_X1_addBill_0 {g : GP} {CX : State → Array Value → Prop} {Q : AH → Option Value → Prop} {X : AH → String → Prop} {v1 : Int32} {v2 : Int32} {v3 : Int32} {σ : AH}
    (hS : Sh σ)
    (o1 : ((zI σ 27 2) < (240 : Int32)) → BK (nw σ 0 6) (zN σ + 1))
    (o2 : ((zI σ 27 2) < (240 : Int32)) → vp_in (zI σ 27 2) 240)
    (k1 : ((zI σ 27 2) < (240 : Int32)) → Q (uI (uR (uI (uI (uI (uI (nw σ 0 6) (zN σ + 1) 3 0) (zN σ + 1) 0 v1) (zN σ + 1) 1 v2) (zN σ + 1) 2 v3) 28 (Int32.toNatClampNeg (zI σ 27 2)) (zN σ + 1)) 27 2 ((zI (uI (uI (uI (uI (nw σ 0 6) (zN σ + 1) 3 0) (zN σ + 1) 0 v1) (zN σ + 1) 1 v2) (zN σ + 1) 2 v3) 27 2) + (1 : Int32))) (some (.int (((zI (uI (uI (uI (uI (nw σ 0 6) (zN σ + 1) 3 0) (zN σ + 1) 0 v1) (zN σ + 1) 1 v2) (zN σ + 1) 2 v3) 27 2) + (1 : Int32)) - (1 : Int32)))))
    (k2 : (¬ (zI σ 27 2) < (240 : Int32)) → Q σ (some (.int (-1 : Int32)))) :
    V g mX1_addBill (Em g mX1_addBill Q X) CX 1 6 0 [(0, .ref 27), (1, .int v1), (2, .int v2), (3, .int v3)] [] σ := by
  refine V_aload_n dX1_addBill_0 rfl ?_
  refine V_getf (fk := 2) (Value.int (zI σ 27 2)) ko_X1 rfl w_184 dX1_addBill_1 (by decide) (shk hS 27 rfl) rfl ?_
  refine V_sipush (240 : Int32) dX1_addBill_4 (by decide) ?_
  refine V_icmp_lt 12 dX1_addBill_7 rfl (fun c1 => ?_) (fun c1 => ?_)
  · refine V_aload_n dX1_addBill_12 rfl ?_
    refine V_getf (fk := 0) (Value.ref 28) ko_X1 rfl w_182 dX1_addBill_13 (by decide) (shk hS 27 rfl) (congrArg Value.ref (shr hS 27 0 28 (by decide))) ?_
    refine V_aload_n dX1_addBill_16 rfl ?_
    refine V_getf (fk := 2) (Value.int (zI σ 27 2)) ko_X1 rfl w_184 dX1_addBill_17 (by decide) (shk hS 27 rfl) rfl ?_
    refine V_new (k' := 0) (n' := 0) ko_X0 kd_X0 w_180 w_912 w_39 dX1_addBill_20 rfl rfl ?_
    refine V_dup dX1_addBill_23 rfl ?_
    refine V_iload_n dX1_addBill_24 rfl ?_
    refine V_iload_n dX1_addBill_25 rfl ?_
    refine V_iload_n dX1_addBill_26 rfl ?_
    refine V_callI0 (as := [.int v1, .int v2, .int v3]) (k' := 0) (n' := 0) (s_X0_init' (o1 c1)) mw_X0_init rfl rfl w_914 w_913 ar_X0_init rfl ⟨rfl, rfl, rfl, rfl, rfl⟩ dX1_addBill_27 (Nat.succ_ne_zero _) ?_
    refine V_aast ao_30 ko_X0 dX1_addBill_30 (by decide) (shk (Sh_uI (Sh_uI (Sh_uI (Sh_uI (Sh_nw hS))))) 28 rfl) (vp_l (n := 240) (shl (Sh_uI (Sh_uI (Sh_uI (Sh_uI (Sh_nw hS))))) 28 rfl) (o2 c1)) (Nat.succ_ne_zero _) (by simp [zK_nw, zN_nw, zN_uI, zN_uJ, zN_uR, zK_uI, zK_uJ, zK_uR]) ?_
    refine V_aload_n dX1_addBill_31 rfl ?_
    refine V_dup dX1_addBill_32 rfl ?_
    refine V_getf (fk := 2) (Value.int (zI (uI (uI (uI (uI (nw σ 0 6) (zN σ + 1) 3 0) (zN σ + 1) 0 v1) (zN σ + 1) 1 v2) (zN σ + 1) 2 v3) 27 2)) ko_X1 rfl w_184 dX1_addBill_33 (by decide) (shk (Sh_uRl (by decide) (Sh_uI (Sh_uI (Sh_uI (Sh_uI (Sh_nw hS)))))) 27 rfl) (congrArg Value.int (zI_uR _ _ _ _ _ _)) ?_
    refine V_iconst (1 : Int32) dX1_addBill_36 (by decide) ?_
    refine V_iadd dX1_addBill_37 ?_
    refine V_puti (fk := 2) ko_X1 rfl w_184 (Or.inl rfl) dX1_addBill_38 rfl (by decide) (shk (Sh_uRl (by decide) (Sh_uI (Sh_uI (Sh_uI (Sh_uI (Sh_nw hS)))))) 27 rfl) ?_
    refine V_aload_n dX1_addBill_41 rfl ?_
    refine V_getf (fk := 2) (Value.int ((zI (uI (uI (uI (uI (nw σ 0 6) (zN σ + 1) 3 0) (zN σ + 1) 0 v1) (zN σ + 1) 1 v2) (zN σ + 1) 2 v3) 27 2) + (1 : Int32))) ko_X1 rfl w_184 dX1_addBill_42 (by decide) (shk (Sh_uI (Sh_uRl (by decide) (Sh_uI (Sh_uI (Sh_uI (Sh_uI (Sh_nw hS))))))) 27 rfl) (congrArg Value.int (zI_self _ _ _ _)) ?_
    refine V_iconst (1 : Int32) dX1_addBill_45 (by decide) ?_
    refine V_isub dX1_addBill_46 ?_
    exact V_iret rfl dX1_addBill_47 (k1 c1)
  · refine V_iconst (-1 : Int32) dX1_addBill_10 (by decide) ?_
    exact V_iret rfl dX1_addBill_11 (k2 c1)

set_option maxRecDepth 100000 in
set_option maxHeartbeats 4000000 in
theorem b_X1_gotBy_0 {g : GP} {CX : State → Array Value → Prop} {E : ET} {v1 : Int32} {σ : AH}
    (k1 : V g mX1_gotBy E CX 0 0 5 [(0, .ref 27), (1, .int v1), (2, .long (0 : Int64)), (4, .int (0 : Int32))] [] σ) :
    V g mX1_gotBy E CX 0 0 0 [(0, .ref 27), (1, .int v1)] [] σ := by
  refine V_lconst (0 : Int64) dX1_gotBy_0 (by decide) ?_
  refine V_lstore_n [(0, .ref 27), (1, .int v1), (2, .long (0 : Int64))] dX1_gotBy_1 rfl rfl ?_
  refine V_iconst (0 : Int32) dX1_gotBy_2 (by decide) ?_
  refine V_istore [(0, .ref 27), (1, .int v1), (2, .long (0 : Int64)), (4, .int (0 : Int32))] dX1_gotBy_3 rfl rfl ?_
  exact k1
set_option maxRecDepth 100000 in
set_option maxHeartbeats 4000000 in
theorem b_X1_gotBy_5 {g : GP} {CX : State → Array Value → Prop} {Q : AH → Option Value → Prop} {X : AH → String → Prop} {v1 : Int32} {v2 : Int64} {v4 : Int32} {σ : AH}
    (hS : Sh σ)
    (k1 : ((zI σ 27 2) ≤ v4) → Q σ (some (.long v2)))
    (k2 : (¬ (zI σ 27 2) ≤ v4) → (atR (zI σ 27 2) 240 v4 (zR σ 28 (ix v4)) = 0) → V g mX1_gotBy (Em g mX1_gotBy Q X) CX 0 0 5 [(0, .ref 27), (1, .int v1), (2, .long v2), (4, .int (v4 + (1 : Int32)))] [] σ)
    (o1 : (¬ (zI σ 27 2) ≤ v4) → (¬ atR (zI σ 27 2) 240 v4 (zR σ 28 (ix v4)) = 0) → zK σ (atR (zI σ 27 2) 240 v4 (zR σ 28 (ix v4))) = 0)
    (k3 : (¬ (zI σ 27 2) ≤ v4) → (¬ atR (zI σ 27 2) 240 v4 (zR σ 28 (ix v4)) = 0) → (¬ (zI σ (atR (zI σ 27 2) 240 v4 (zR σ 28 (ix v4))) 1) = v1) → (¬ (zI σ (atR (zI σ 27 2) 240 v4 (zR σ 28 (ix v4))) 0) = v1) → V g mX1_gotBy (Em g mX1_gotBy Q X) CX 0 0 5 [(0, .ref 27), (1, .int v1), (2, .long v2), (4, .int (v4 + (1 : Int32)))] [] σ)
    (o2 : (¬ (zI σ 27 2) ≤ v4) → (¬ atR (zI σ 27 2) 240 v4 (zR σ 28 (ix v4)) = 0) → (¬ (zI σ (atR (zI σ 27 2) 240 v4 (zR σ 28 (ix v4))) 1) = v1) → ((zI σ (atR (zI σ 27 2) 240 v4 (zR σ 28 (ix v4))) 0) = v1) → BK σ (atR (zI σ 27 2) 240 v4 (zR σ 28 (ix v4))))
    (k4 : (¬ (zI σ 27 2) ≤ v4) → (¬ atR (zI σ 27 2) 240 v4 (zR σ 28 (ix v4)) = 0) → (¬ (zI σ (atR (zI σ 27 2) 240 v4 (zR σ 28 (ix v4))) 1) = v1) → ((zI σ (atR (zI σ 27 2) 240 v4 (zR σ 28 (ix v4))) 0) = v1) → V g mX1_gotBy (Em g mX1_gotBy Q X) CX 0 0 5 [(0, .ref 27), (1, .int v1), (2, .long (v2 - (Int32.toInt64 (gpF σ (atR (zI σ 27 2) 240 v4 (zR σ 28 (ix v4))))))), (4, .int (v4 + (1 : Int32)))] [] σ)
    (o3 : (¬ (zI σ 27 2) ≤ v4) → (¬ atR (zI σ 27 2) 240 v4 (zR σ 28 (ix v4)) = 0) → ((zI σ (atR (zI σ 27 2) 240 v4 (zR σ 28 (ix v4))) 1) = v1) → BK σ (atR (zI σ 27 2) 240 v4 (zR σ 28 (ix v4))))
    (k5 : (¬ (zI σ 27 2) ≤ v4) → (¬ atR (zI σ 27 2) 240 v4 (zR σ 28 (ix v4)) = 0) → ((zI σ (atR (zI σ 27 2) 240 v4 (zR σ 28 (ix v4))) 1) = v1) → (¬ (zI σ (atR (zI σ 27 2) 240 v4 (zR σ 28 (ix v4))) 0) = v1) → V g mX1_gotBy (Em g mX1_gotBy Q X) CX 0 0 5 [(0, .ref 27), (1, .int v1), (2, .long (v2 + (Int32.toInt64 (gpF σ (atR (zI σ 27 2) 240 v4 (zR σ 28 (ix v4))))))), (4, .int (v4 + (1 : Int32)))] [] σ)
    (k6 : (¬ (zI σ 27 2) ≤ v4) → (¬ atR (zI σ 27 2) 240 v4 (zR σ 28 (ix v4)) = 0) → ((zI σ (atR (zI σ 27 2) 240 v4 (zR σ 28 (ix v4))) 1) = v1) → ((zI σ (atR (zI σ 27 2) 240 v4 (zR σ 28 (ix v4))) 0) = v1) → V g mX1_gotBy (Em g mX1_gotBy Q X) CX 0 0 5 [(0, .ref 27), (1, .int v1), (2, .long ((v2 + (Int32.toInt64 (gpF σ (atR (zI σ 27 2) 240 v4 (zR σ 28 (ix v4)))))) - (Int32.toInt64 (gpF σ (atR (zI σ 27 2) 240 v4 (zR σ 28 (ix v4))))))), (4, .int (v4 + (1 : Int32)))] [] σ) :
    V g mX1_gotBy (Em g mX1_gotBy Q X) CX 0 0 5 [(0, .ref 27), (1, .int v1), (2, .long v2), (4, .int v4)] [] σ := by
  refine V_iload dX1_gotBy_5 rfl ?_
  refine V_aload_n dX1_gotBy_7 rfl ?_
  refine V_getf (fk := 2) (Value.int (zI σ 27 2)) ko_X1 rfl w_184 dX1_gotBy_8 (by decide) (shk hS 27 rfl) rfl ?_
  refine V_icmp_ge 74 dX1_gotBy_11 rfl (fun c1 => ?_) (fun c1 => ?_)
  · refine V_lload_n dX1_gotBy_74 rfl ?_
    exact V_lret rfl dX1_gotBy_75 (k1 c1)
  · refine V_aload_n dX1_gotBy_14 rfl ?_
    refine V_iload dX1_gotBy_15 rfl ?_
    refine V_callV1 (as := [.int v4]) (k' := 0) (n' := 0) (s_X1_billAt hS) mw_X1_billAt ko_X1 rfl w_395 w_396 w_394 ar_X1_billAt rfl ⟨rfl, rfl, rfl, rfl, rfl⟩ dX1_gotBy_17 (by decide) (shk hS 27 rfl) ?_
    refine V_astore [(0, .ref 27), (1, .int v1), (2, .long v2), (4, .int v4), (5, .ref (atR (zI σ 27 2) 240 v4 (zR σ 28 (ix v4))))] dX1_gotBy_20 rfl rfl ?_
    refine V_aload dX1_gotBy_22 rfl ?_
    refine V_ifnull 45 dX1_gotBy_24 rfl (fun c2 => ?_) (fun c2 => ?_)
    · refine V_aload dX1_gotBy_45 rfl ?_
      refine V_ifnull 68 dX1_gotBy_47 rfl (fun _ => ?_) (fun z_ => (by first | exact absurd (c2) z_ | exact absurd z_ (c2)))
      refine V_iinc (v4 + (1 : Int32)) [(0, .ref 27), (1, .int v1), (2, .long v2), (4, .int (v4 + (1 : Int32))), (5, .ref (atR (zI σ 27 2) 240 v4 (zR σ 28 (ix v4))))] dX1_gotBy_68 rfl rfl rfl rfl ?_
      refine V_goto 5 dX1_gotBy_71 rfl ?_
      exact V_less (mm_keep (mm_keep (mm_keep (mm_keep (mm_drop mm_nil))))) (by decide) (by decide) (k2 c1 c2)
    · refine V_aload dX1_gotBy_27 rfl ?_
      refine V_getf (fk := 1) (Value.int (zI σ (atR (zI σ 27 2) 240 v4 (zR σ 28 (ix v4))) 1)) ko_X0 rfl w_921 dX1_gotBy_29 c2 (o1 c1 c2) rfl ?_
      refine V_iload_n dX1_gotBy_32 rfl ?_
      refine V_icmp_ne 45 dX1_gotBy_33 rfl (fun c3 => ?_) (fun c3 => ?_)
      · refine V_aload dX1_gotBy_45 rfl ?_
        refine V_ifnull 68 dX1_gotBy_47 rfl (fun z_ => (by first | exact absurd (c2) z_ | exact absurd z_ (c2))) (fun _ => ?_)
        refine V_aload dX1_gotBy_50 rfl ?_
        refine V_getf (fk := 0) (Value.int (zI σ (atR (zI σ 27 2) 240 v4 (zR σ 28 (ix v4))) 0)) ko_X0 rfl w_918 dX1_gotBy_52 c2 (o1 c1 c2) rfl ?_
        refine V_iload_n dX1_gotBy_55 rfl ?_
        refine V_icmp_ne 68 dX1_gotBy_56 rfl (fun c4 => ?_) (fun c4 => ?_)
        · refine V_iinc (v4 + (1 : Int32)) [(0, .ref 27), (1, .int v1), (2, .long v2), (4, .int (v4 + (1 : Int32))), (5, .ref (atR (zI σ 27 2) 240 v4 (zR σ 28 (ix v4))))] dX1_gotBy_68 rfl rfl rfl rfl ?_
          refine V_goto 5 dX1_gotBy_71 rfl ?_
          exact V_less (mm_keep (mm_keep (mm_keep (mm_keep (mm_drop mm_nil))))) (by decide) (by decide) (k3 c1 c2 c3 c4)
        · refine V_lload_n dX1_gotBy_59 rfl ?_
          refine V_aload dX1_gotBy_60 rfl ?_
          refine V_callV1 (as := []) (k' := 0) (n' := 0) (s_X0_gotByPayee (o2 c1 c2 c3 c4)) mw_X0_gotByPayee ko_X0 rfl w_399 w_400 w_398 ar_X0_gotByPayee rfl ⟨rfl, rfl, rfl, rfl, rfl⟩ dX1_gotBy_62 c2 (o1 c1 c2) ?_
          refine V_i2l dX1_gotBy_65 ?_
          refine V_lsub dX1_gotBy_66 ?_
          refine V_lstore_n [(0, .ref 27), (1, .int v1), (2, .long (v2 - (Int32.toInt64 (gpF σ (atR (zI σ 27 2) 240 v4 (zR σ 28 (ix v4))))))), (4, .int v4), (5, .ref (atR (zI σ 27 2) 240 v4 (zR σ 28 (ix v4))))] dX1_gotBy_67 rfl rfl ?_
          refine V_iinc (v4 + (1 : Int32)) [(0, .ref 27), (1, .int v1), (2, .long (v2 - (Int32.toInt64 (gpF σ (atR (zI σ 27 2) 240 v4 (zR σ 28 (ix v4))))))), (4, .int (v4 + (1 : Int32))), (5, .ref (atR (zI σ 27 2) 240 v4 (zR σ 28 (ix v4))))] dX1_gotBy_68 rfl rfl rfl rfl ?_
          refine V_goto 5 dX1_gotBy_71 rfl ?_
          exact V_less (mm_keep (mm_keep (mm_keep (mm_keep (mm_drop mm_nil))))) (by decide) (by decide) (k4 c1 c2 c3 c4)
      · refine V_lload_n dX1_gotBy_36 rfl ?_
        refine V_aload dX1_gotBy_37 rfl ?_
        refine V_callV1 (as := []) (k' := 0) (n' := 0) (s_X0_gotByPayee (o3 c1 c2 c3)) mw_X0_gotByPayee ko_X0 rfl w_399 w_400 w_398 ar_X0_gotByPayee rfl ⟨rfl, rfl, rfl, rfl, rfl⟩ dX1_gotBy_39 c2 (o1 c1 c2) ?_
        refine V_i2l dX1_gotBy_42 ?_
        refine V_ladd dX1_gotBy_43 ?_
        refine V_lstore_n [(0, .ref 27), (1, .int v1), (2, .long (v2 + (Int32.toInt64 (gpF σ (atR (zI σ 27 2) 240 v4 (zR σ 28 (ix v4))))))), (4, .int v4), (5, .ref (atR (zI σ 27 2) 240 v4 (zR σ 28 (ix v4))))] dX1_gotBy_44 rfl rfl ?_
        refine V_aload dX1_gotBy_45 rfl ?_
        refine V_ifnull 68 dX1_gotBy_47 rfl (fun z_ => (by first | exact absurd (c2) z_ | exact absurd z_ (c2))) (fun _ => ?_)
        refine V_aload dX1_gotBy_50 rfl ?_
        refine V_getf (fk := 0) (Value.int (zI σ (atR (zI σ 27 2) 240 v4 (zR σ 28 (ix v4))) 0)) ko_X0 rfl w_918 dX1_gotBy_52 c2 (o1 c1 c2) rfl ?_
        refine V_iload_n dX1_gotBy_55 rfl ?_
        refine V_icmp_ne 68 dX1_gotBy_56 rfl (fun c5 => ?_) (fun c5 => ?_)
        · refine V_iinc (v4 + (1 : Int32)) [(0, .ref 27), (1, .int v1), (2, .long (v2 + (Int32.toInt64 (gpF σ (atR (zI σ 27 2) 240 v4 (zR σ 28 (ix v4))))))), (4, .int (v4 + (1 : Int32))), (5, .ref (atR (zI σ 27 2) 240 v4 (zR σ 28 (ix v4))))] dX1_gotBy_68 rfl rfl rfl rfl ?_
          refine V_goto 5 dX1_gotBy_71 rfl ?_
          exact V_less (mm_keep (mm_keep (mm_keep (mm_keep (mm_drop mm_nil))))) (by decide) (by decide) (k5 c1 c2 c3 c5)
        · refine V_lload_n dX1_gotBy_59 rfl ?_
          refine V_aload dX1_gotBy_60 rfl ?_
          refine V_callV1 (as := []) (k' := 0) (n' := 0) (s_X0_gotByPayee (o3 c1 c2 c3)) mw_X0_gotByPayee ko_X0 rfl w_399 w_400 w_398 ar_X0_gotByPayee rfl ⟨rfl, rfl, rfl, rfl, rfl⟩ dX1_gotBy_62 c2 (o1 c1 c2) ?_
          refine V_i2l dX1_gotBy_65 ?_
          refine V_lsub dX1_gotBy_66 ?_
          refine V_lstore_n [(0, .ref 27), (1, .int v1), (2, .long ((v2 + (Int32.toInt64 (gpF σ (atR (zI σ 27 2) 240 v4 (zR σ 28 (ix v4)))))) - (Int32.toInt64 (gpF σ (atR (zI σ 27 2) 240 v4 (zR σ 28 (ix v4))))))), (4, .int v4), (5, .ref (atR (zI σ 27 2) 240 v4 (zR σ 28 (ix v4))))] dX1_gotBy_67 rfl rfl ?_
          refine V_iinc (v4 + (1 : Int32)) [(0, .ref 27), (1, .int v1), (2, .long ((v2 + (Int32.toInt64 (gpF σ (atR (zI σ 27 2) 240 v4 (zR σ 28 (ix v4)))))) - (Int32.toInt64 (gpF σ (atR (zI σ 27 2) 240 v4 (zR σ 28 (ix v4))))))), (4, .int (v4 + (1 : Int32))), (5, .ref (atR (zI σ 27 2) 240 v4 (zR σ 28 (ix v4))))] dX1_gotBy_68 rfl rfl rfl rfl ?_
          refine V_goto 5 dX1_gotBy_71 rfl ?_
          exact V_less (mm_keep (mm_keep (mm_keep (mm_keep (mm_drop mm_nil))))) (by decide) (by decide) (k6 c1 c2 c3 c5)

set_option maxRecDepth 100000 in
set_option maxHeartbeats 4000000 in
theorem b_X11_moveNets_0 {g : GP} {CX : State → Array Value → Prop} {E : ET}  {σ : AH}
    (k1 : V g mX11_moveNets E CX 0 0 2 [(0, .ref 2), (1, .int (0 : Int32))] [] σ) :
    V g mX11_moveNets E CX 0 0 0 [(0, .ref 2)] [] σ := by
  refine V_iconst (0 : Int32) dX11_moveNets_0 (by decide) ?_
  refine V_istore_n [(0, .ref 2), (1, .int (0 : Int32))] dX11_moveNets_1 rfl rfl ?_
  exact k1
set_option maxRecDepth 100000 in
set_option maxHeartbeats 4000000 in
theorem b_X11_moveNets_2 {g : GP} {CX : State → Array Value → Prop} {Q : AH → Option Value → Prop} {X : AH → String → Prop} {v1 : Int32} {σ : AH}
    (hS : Sh σ)
    (k1 : ((5 : Int32) ≤ v1) → Q σ none)
    (o1 : (¬ (5 : Int32) ≤ v1) → isCa v1)
    (k2 : (¬ (5 : Int32) ≤ v1) → V g mX11_moveNets (Em g mX11_moveNets Q X) CX 0 0 2 [(0, .ref 2), (1, .int (v1 + (1 : Int32)))] [] (uJ σ 31 (ix v1) (zJ σ 31 (ix v1) + (zJ σ 29 (ix v1))))) :
    V g mX11_moveNets (Em g mX11_moveNets Q X) CX 0 0 2 [(0, .ref 2), (1, .int v1)] [] σ := by
  refine V_iload_n dX11_moveNets_2 rfl ?_
  refine V_iconst (5 : Int32) dX11_moveNets_3 (by decide) ?_
  refine V_icmp_ge 26 dX11_moveNets_4 rfl (fun c1 => ?_) (fun c1 => ?_)
  · exact V_vret rfl dX11_moveNets_26 (k1 c1)
  · refine V_aload_n dX11_moveNets_7 rfl ?_
    refine V_iload_n dX11_moveNets_8 rfl ?_
    refine V_aload_n dX11_moveNets_9 rfl ?_
    refine V_getf (fk := 4) (Value.ref 27) ko_X11 rfl w_208 dX11_moveNets_10 (by decide) (shk hS 2 rfl) (congrArg Value.ref (shr hS 2 4 27 (by decide))) ?_
    refine V_iload_n dX11_moveNets_13 rfl ?_
    refine V_callV1 (as := [.int v1]) (k' := 0) (n' := 0) (s_X1_netOf hS (o1 c1)) mw_X1_netOf ko_X1 rfl w_985 w_986 w_984 ar_X1_netOf rfl ⟨rfl, rfl, rfl, rfl, rfl⟩ dX11_moveNets_14 (by decide) (shk hS 27 rfl) ?_
    refine V_callV0 (as := [.int v1, .long (zJ σ 29 (ix v1))]) (k' := 0) (n' := 0) (s_X11_addCash hS (o1 c1)) mw_X11_addCash ko_X11 rfl w_846 w_14 w_844 ar_X11_addCash rfl ⟨rfl, rfl, rfl, rfl, rfl⟩ dX11_moveNets_17 (by decide) (shk hS 2 rfl) ?_
    refine V_iinc (v1 + (1 : Int32)) [(0, .ref 2), (1, .int (v1 + (1 : Int32)))] dX11_moveNets_20 rfl rfl rfl rfl ?_
    refine V_goto 2 dX11_moveNets_23 rfl ?_
    exact (k2 c1)

