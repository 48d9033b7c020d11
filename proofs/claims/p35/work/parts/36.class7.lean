/-! ===== the class: the journey goes on ===== -/
set_option maxRecDepth 100000 in
set_option maxHeartbeats 4000000 in
theorem b_X4_beginAnew_0 {g : GP} {CX : State → Array Value → Prop} {Q : AH → Option Value → Prop} {X : AH → String → Prop}  {σ : AH}
    (hS : Sh σ)
    (k1 : Q (uI σ 13 1 (0 : Int32)) (some (.int (zI σ 13 1)))) :
    V g mX4_beginAnew (Em g mX4_beginAnew Q X) CX 0 0 0 [(0, .ref 13)] [] σ := by
  refine V_aload_n dX4_beginAnew_0 rfl ?_
  refine V_getf (fk := 1) (Value.int (zI σ 13 1)) ko_X4 rfl w_142 dX4_beginAnew_1 (by decide) (shk hS 13 rfl) rfl ?_
  refine V_istore_n [(0, .ref 13), (1, .int (zI σ 13 1))] dX4_beginAnew_4 rfl rfl ?_
  refine V_aload_n dX4_beginAnew_5 rfl ?_
  refine V_iconst (0 : Int32) dX4_beginAnew_6 (by decide) ?_
  refine V_puti (fk := 1) ko_X4 rfl w_142 (Or.inl rfl) dX4_beginAnew_7 rfl (by decide) (shk hS 13 rfl) ?_
  refine V_iload_n dX4_beginAnew_10 rfl ?_
  exact V_iret rfl dX4_beginAnew_11 k1

set_option maxRecDepth 100000 in
set_option maxHeartbeats 4000000 in
theorem b_X4_isPoint_0 {g : GP} {CX : State → Array Value → Prop} {Q : AH → Option Value → Prop} {X : AH → String → Prop} {v1 : Int32} {σ : AH}
    (hS : Sh σ)
    (k1 : ((zI σ 13 1) ≤ 0) → Q σ (some (.int (0 : Int32))))
    (k2 : (¬ (zI σ 13 1) ≤ 0) → (¬ (isWi v1 (0 : Int32) (zI σ 13 1))) → Q σ (some (.int (0 : Int32))))
    (k3 : (¬ (zI σ 13 1) ≤ 0) → (isWi v1 (0 : Int32) (zI σ 13 1)) → Q σ (some (.int (1 : Int32)))) :
    V g mX4_isPoint (Em g mX4_isPoint Q X) CX 0 0 0 [(0, .ref 13), (1, .int v1)] [] σ := by
  refine V_aload_n dX4_isPoint_0 rfl ?_
  refine V_getf (fk := 1) (Value.int (zI σ 13 1)) ko_X4 rfl w_142 dX4_isPoint_1 (by decide) (shk hS 13 rfl) rfl ?_
  refine V_if_le 23 dX4_isPoint_4 rfl (fun c1 => ?_) (fun c1 => ?_)
  · refine V_iconst (0 : Int32) dX4_isPoint_23 (by decide) ?_
    exact V_zret rfl dX4_isPoint_24 (by decide) (k1 c1)
  · refine V_iload_n dX4_isPoint_7 rfl ?_
    refine V_iconst (0 : Int32) dX4_isPoint_8 (by decide) ?_
    refine V_aload_n dX4_isPoint_9 rfl ?_
    refine V_getf (fk := 1) (Value.int (zI σ 13 1)) ko_X4 rfl w_142 dX4_isPoint_10 (by decide) (shk hS 13 rfl) rfl ?_
    refine V_callSN1 (as := [.int v1, .int (0 : Int32), .int (zI σ 13 1)]) (k' := 0) (n' := 0) (s_X11_isWithin) mw_X11_isWithin w_324 wn_697 ar_X11_isWithin rfl ⟨rfl, rfl, rfl, rfl, rfl⟩ dX4_isPoint_13 ?_
    refine V_if_eq 23 dX4_isPoint_16 rfl (fun c2 => ?_) (fun c2 => ?_)
    · replace c2 := jb_0.mp c2
      refine V_iconst (0 : Int32) dX4_isPoint_23 (by decide) ?_
      exact V_zret rfl dX4_isPoint_24 (by decide) (k2 c1 c2)
    · replace c2 := jb_n.mp c2
      refine V_iconst (1 : Int32) dX4_isPoint_19 (by decide) ?_
      refine V_goto 24 dX4_isPoint_20 rfl ?_
      exact V_zret rfl dX4_isPoint_24 (by decide) (k3 c1 c2)

set_option maxRecDepth 100000 in
set_option maxHeartbeats 4000000 in
theorem b_X4_hasLegBefore_0 {g : GP} {CX : State → Array Value → Prop} {Q : AH → Option Value → Prop} {X : AH → String → Prop} {v1 : Int32} {σ : AH}
    (hS : Sh σ)
    (k1 : (atR (zI σ 13 1) 8 (0 : Int32) (zR σ 14 (ix (0 : Int32))) = 0) → Q σ (some (.int (0 : Int32))))
    (o1 : (¬ atR (zI σ 13 1) 8 (0 : Int32) (zR σ 14 (ix (0 : Int32))) = 0) → zK σ (atR (zI σ 13 1) 8 (0 : Int32) (zR σ 14 (ix (0 : Int32)))) = 5)
    (k2 : (¬ atR (zI σ 13 1) 8 (0 : Int32) (zR σ 14 (ix (0 : Int32))) = 0) → (v1 ≤ (zI σ (atR (zI σ 13 1) 8 (0 : Int32) (zR σ 14 (ix (0 : Int32)))) 3)) → Q σ (some (.int (0 : Int32))))
    (k3 : (¬ atR (zI σ 13 1) 8 (0 : Int32) (zR σ 14 (ix (0 : Int32))) = 0) → (¬ v1 ≤ (zI σ (atR (zI σ 13 1) 8 (0 : Int32) (zR σ 14 (ix (0 : Int32)))) 3)) → Q σ (some (.int (1 : Int32)))) :
    V g mX4_hasLegBefore (Em g mX4_hasLegBefore Q X) CX 0 0 0 [(0, .ref 13), (1, .int v1)] [] σ := by
  refine V_aload_n dX4_hasLegBefore_0 rfl ?_
  refine V_iconst (0 : Int32) dX4_hasLegBefore_1 (by decide) ?_
  refine V_callV1 (as := [.int (0 : Int32)]) (k' := 0) (n' := 0) (s_X4_legAt hS) mw_X4_legAt ko_X4 rfl w_595 w_596 w_594 ar_X4_legAt rfl ⟨rfl, rfl, rfl, rfl, rfl⟩ dX4_hasLegBefore_2 (by decide) (shk hS 13 rfl) ?_
  refine V_astore_n [(0, .ref 13), (1, .int v1), (2, .ref (atR (zI σ 13 1) 8 (0 : Int32) (zR σ 14 (ix (0 : Int32)))))] dX4_hasLegBefore_5 rfl rfl ?_
  refine V_aload_n dX4_hasLegBefore_6 rfl ?_
  refine V_ifnull 22 dX4_hasLegBefore_7 rfl (fun c1 => ?_) (fun c1 => ?_)
  · refine V_iconst (0 : Int32) dX4_hasLegBefore_22 (by decide) ?_
    exact V_zret rfl dX4_hasLegBefore_23 (by decide) (k1 c1)
  · refine V_aload_n dX4_hasLegBefore_10 rfl ?_
    refine V_getf (fk := 3) (Value.int (zI σ (atR (zI σ 13 1) 8 (0 : Int32) (zR σ 14 (ix (0 : Int32)))) 3)) ko_X5 rfl w_131 dX4_hasLegBefore_11 c1 (o1 c1) rfl ?_
    refine V_iload_n dX4_hasLegBefore_14 rfl ?_
    refine V_icmp_ge 22 dX4_hasLegBefore_15 rfl (fun c2 => ?_) (fun c2 => ?_)
    · refine V_iconst (0 : Int32) dX4_hasLegBefore_22 (by decide) ?_
      exact V_zret rfl dX4_hasLegBefore_23 (by decide) (k2 c1 c2)
    · refine V_iconst (1 : Int32) dX4_hasLegBefore_18 (by decide) ?_
      refine V_goto 23 dX4_hasLegBefore_19 rfl ?_
      exact V_zret rfl dX4_hasLegBefore_23 (by decide) (k3 c1 c2)

set_option maxRecDepth 100000 in
set_option maxHeartbeats 4000000 in
theorem b_X4_goesOn_0 {g : GP} {CX : State → Array Value → Prop} {Q : AH → Option Value → Prop} {X : AH → String → Prop} {v1 : Int32} {v2 : Int32} {σ : AH}
    (hS : Sh σ)
    (k1 : ((8 : Int32) ≤ (zI σ 13 1)) → Q σ (some (.int (0 : Int32))))
    (k2 : (¬ (8 : Int32) ≤ (zI σ 13 1)) → (atR (zI σ 13 1) 8 ((zI σ 13 1) - (1 : Int32)) (zR σ 14 (ix ((zI σ 13 1) - (1 : Int32)))) = 0) → Q σ (some (.int (1 : Int32))))
    (o1 : (¬ (8 : Int32) ≤ (zI σ 13 1)) → (¬ atR (zI σ 13 1) 8 ((zI σ 13 1) - (1 : Int32)) (zR σ 14 (ix ((zI σ 13 1) - (1 : Int32)))) = 0) → zK σ (atR (zI σ 13 1) 8 ((zI σ 13 1) - (1 : Int32)) (zR σ 14 (ix ((zI σ 13 1) - (1 : Int32))))) = 5)
    (k3 : (¬ (8 : Int32) ≤ (zI σ 13 1)) → (¬ atR (zI σ 13 1) 8 ((zI σ 13 1) - (1 : Int32)) (zR σ 14 (ix ((zI σ 13 1) - (1 : Int32)))) = 0) → (¬ (zI σ (atR (zI σ 13 1) 8 ((zI σ 13 1) - (1 : Int32)) (zR σ 14 (ix ((zI σ 13 1) - (1 : Int32))))) 1) = v1) → Q σ (some (.int (0 : Int32))))
    (k4 : (¬ (8 : Int32) ≤ (zI σ 13 1)) → (¬ atR (zI σ 13 1) 8 ((zI σ 13 1) - (1 : Int32)) (zR σ 14 (ix ((zI σ 13 1) - (1 : Int32)))) = 0) → ((zI σ (atR (zI σ 13 1) 8 ((zI σ 13 1) - (1 : Int32)) (zR σ 14 (ix ((zI σ 13 1) - (1 : Int32))))) 1) = v1) → (v2 < (zI σ (atR (zI σ 13 1) 8 ((zI σ 13 1) - (1 : Int32)) (zR σ 14 (ix ((zI σ 13 1) - (1 : Int32))))) 3)) → Q σ (some (.int (0 : Int32))))
    (k5 : (¬ (8 : Int32) ≤ (zI σ 13 1)) → (¬ atR (zI σ 13 1) 8 ((zI σ 13 1) - (1 : Int32)) (zR σ 14 (ix ((zI σ 13 1) - (1 : Int32)))) = 0) → ((zI σ (atR (zI σ 13 1) 8 ((zI σ 13 1) - (1 : Int32)) (zR σ 14 (ix ((zI σ 13 1) - (1 : Int32))))) 1) = v1) → (¬ v2 < (zI σ (atR (zI σ 13 1) 8 ((zI σ 13 1) - (1 : Int32)) (zR σ 14 (ix ((zI σ 13 1) - (1 : Int32))))) 3)) → Q σ (some (.int (1 : Int32)))) :
    V g mX4_goesOn (Em g mX4_goesOn Q X) CX 0 0 0 [(0, .ref 13), (1, .int v1), (2, .int v2)] [] σ := by
  refine V_aload_n dX4_goesOn_0 rfl ?_
  refine V_aload_n dX4_goesOn_1 rfl ?_
  refine V_getf (fk := 1) (Value.int (zI σ 13 1)) ko_X4 rfl w_142 dX4_goesOn_2 (by decide) (shk hS 13 rfl) rfl ?_
  refine V_iconst (1 : Int32) dX4_goesOn_5 (by decide) ?_
  refine V_isub dX4_goesOn_6 ?_
  refine V_callV1 (as := [.int ((zI σ 13 1) - (1 : Int32))]) (k' := 0) (n' := 0) (s_X4_legAt hS) mw_X4_legAt ko_X4 rfl w_595 w_596 w_594 ar_X4_legAt rfl ⟨rfl, rfl, rfl, rfl, rfl⟩ dX4_goesOn_7 (by decide) (shk hS 13 rfl) ?_
  refine V_astore_n [(0, .ref 13), (1, .int v1), (2, .int v2), (3, .ref (atR (zI σ 13 1) 8 ((zI σ 13 1) - (1 : Int32)) (zR σ 14 (ix ((zI σ 13 1) - (1 : Int32))))))] dX4_goesOn_10 rfl rfl ?_
  refine V_aload_n dX4_goesOn_11 rfl ?_
  refine V_getf (fk := 1) (Value.int (zI σ 13 1)) ko_X4 rfl w_142 dX4_goesOn_12 (by decide) (shk hS 13 rfl) rfl ?_
  refine V_bipush (8 : Int32) dX4_goesOn_15 (by decide) ?_
  refine V_icmp_ge 44 dX4_goesOn_17 rfl (fun c1 => ?_) (fun c1 => ?_)
  · refine V_iconst (0 : Int32) dX4_goesOn_44 (by decide) ?_
    exact V_zret rfl dX4_goesOn_45 (by decide) (k1 c1)
  · refine V_aload_n dX4_goesOn_20 rfl ?_
    refine V_ifnull 40 dX4_goesOn_21 rfl (fun c2 => ?_) (fun c2 => ?_)
    · refine V_iconst (1 : Int32) dX4_goesOn_40 (by decide) ?_
      refine V_goto 45 dX4_goesOn_41 rfl ?_
      exact V_zret rfl dX4_goesOn_45 (by decide) (k2 c1 c2)
    · refine V_aload_n dX4_goesOn_24 rfl ?_
      refine V_getf (fk := 1) (Value.int (zI σ (atR (zI σ 13 1) 8 ((zI σ 13 1) - (1 : Int32)) (zR σ 14 (ix ((zI σ 13 1) - (1 : Int32))))) 1)) ko_X5 rfl w_127 dX4_goesOn_25 c2 (o1 c1 c2) rfl ?_
      refine V_iload_n dX4_goesOn_28 rfl ?_
      refine V_icmp_ne 44 dX4_goesOn_29 rfl (fun c3 => ?_) (fun c3 => ?_)
      · refine V_iconst (0 : Int32) dX4_goesOn_44 (by decide) ?_
        exact V_zret rfl dX4_goesOn_45 (by decide) (k3 c1 c2 c3)
      · refine V_aload_n dX4_goesOn_32 rfl ?_
        refine V_getf (fk := 3) (Value.int (zI σ (atR (zI σ 13 1) 8 ((zI σ 13 1) - (1 : Int32)) (zR σ 14 (ix ((zI σ 13 1) - (1 : Int32))))) 3)) ko_X5 rfl w_131 dX4_goesOn_33 c2 (o1 c1 c2) rfl ?_
        refine V_iload_n dX4_goesOn_36 rfl ?_
        refine V_icmp_gt 44 dX4_goesOn_37 rfl (fun c4 => ?_) (fun c4 => ?_)
        · refine V_iconst (0 : Int32) dX4_goesOn_44 (by decide) ?_
          exact V_zret rfl dX4_goesOn_45 (by decide) (k4 c1 c2 c3 c4)
        · refine V_iconst (1 : Int32) dX4_goesOn_40 (by decide) ?_
          refine V_goto 45 dX4_goesOn_41 rfl ?_
          exact V_zret rfl dX4_goesOn_45 (by decide) (k5 c1 c2 c3 c4)

set_option maxRecDepth 100000 in
set_option maxHeartbeats 4000000 in
theorem b_X4_add_0 {g : GP} {CX : State → Array Value → Prop} {Q : AH → Option Value → Prop} {X : AH → String → Prop} {v1 : Int32} {v2 : Int32} {v3 : Int32} {v4 : Int32} {σ : AH}
    (hS : Sh σ)
    (k1 : ((8 : Int32) ≤ (zI σ 13 1)) → Q σ (some (.int (zI σ 13 1))))
    (o1 : (¬ (8 : Int32) ≤ (zI σ 13 1)) → vp_in (zI σ 13 1) 8)
    (k2 : (¬ (8 : Int32) ≤ (zI σ 13 1)) → (zR σ 14 (Int32.toNatClampNeg (zI σ 13 1)) = 0) → Q σ (some (.int (zI σ 13 1))))
    (o2 : (¬ (8 : Int32) ≤ (zI σ 13 1)) → (¬ zR σ 14 (Int32.toNatClampNeg (zI σ 13 1)) = 0) → zK σ (zR σ 14 (Int32.toNatClampNeg (zI σ 13 1))) = 5)
    (k3 : (¬ (8 : Int32) ≤ (zI σ 13 1)) → (¬ zR σ 14 (Int32.toNatClampNeg (zI σ 13 1)) = 0) → Q (uI (uI (uI (uI (uI σ (zR σ 14 (Int32.toNatClampNeg (zI σ 13 1))) 0 v1) (zR σ 14 (Int32.toNatClampNeg (zI σ 13 1))) 1 v2) (zR σ 14 (Int32.toNatClampNeg (zI σ 13 1))) 2 v3) (zR σ 14 (Int32.toNatClampNeg (zI σ 13 1))) 3 v4) 13 1 ((zI (uI (uI σ (zR σ 14 (Int32.toNatClampNeg (zI σ 13 1))) 0 v1) (zR σ 14 (Int32.toNatClampNeg (zI σ 13 1))) 1 v2) 13 1) + (1 : Int32))) (some (.int ((zI (uI (uI σ (zR σ 14 (Int32.toNatClampNeg (zI σ 13 1))) 0 v1) (zR σ 14 (Int32.toNatClampNeg (zI σ 13 1))) 1 v2) 13 1) + (1 : Int32))))) :
    V g mX4_add (Em g mX4_add Q X) CX 0 0 0 [(0, .ref 13), (1, .int v1), (2, .int v2), (3, .int v3), (4, .int v4)] [] σ := by
  refine V_aload_n dX4_add_0 rfl ?_
  refine V_getf (fk := 1) (Value.int (zI σ 13 1)) ko_X4 rfl w_142 dX4_add_1 (by decide) (shk hS 13 rfl) rfl ?_
  refine V_bipush (8 : Int32) dX4_add_4 (by decide) ?_
  refine V_icmp_ge 21 dX4_add_6 rfl (fun c1 => ?_) (fun c1 => ?_)
  · refine V_null dX4_add_21 ?_
    refine V_astore [(0, .ref 13), (1, .int v1), (2, .int v2), (3, .int v3), (4, .int v4), (5, .ref 0)] dX4_add_22 rfl rfl ?_
    refine V_aload dX4_add_24 rfl ?_
    refine V_ifnull 64 dX4_add_26 rfl (fun _ => ?_) (fun z_ => (by first | exact absurd (by decide) z_ | exact absurd z_ (by decide)))
    refine V_aload_n dX4_add_64 rfl ?_
    refine V_getf (fk := 1) (Value.int (zI σ 13 1)) ko_X4 rfl w_142 dX4_add_65 (by decide) (shk hS 13 rfl) rfl ?_
    exact V_iret rfl dX4_add_68 (k1 c1)
  · refine V_aload_n dX4_add_9 rfl ?_
    refine V_getf (fk := 0) (Value.ref 14) ko_X4 rfl w_141 dX4_add_10 (by decide) (shk hS 13 rfl) (congrArg Value.ref (shr hS 13 0 14 (by decide))) ?_
    refine V_aload_n dX4_add_13 rfl ?_
    refine V_getf (fk := 1) (Value.int (zI σ 13 1)) ko_X4 rfl w_142 dX4_add_14 (by decide) (shk hS 13 rfl) rfl ?_
    refine V_aald ao_35 dX4_add_17 (by decide) (shk hS 14 rfl) (vp_l (n := 8) (shl hS 14 rfl) (o1 c1)) ?_
    refine V_goto 22 dX4_add_18 rfl ?_
    refine V_astore [(0, .ref 13), (1, .int v1), (2, .int v2), (3, .int v3), (4, .int v4), (5, .ref (zR σ 14 (Int32.toNatClampNeg (zI σ 13 1))))] dX4_add_22 rfl rfl ?_
    refine V_aload dX4_add_24 rfl ?_
    refine V_ifnull 64 dX4_add_26 rfl (fun c2 => ?_) (fun c2 => ?_)
    · refine V_aload_n dX4_add_64 rfl ?_
      refine V_getf (fk := 1) (Value.int (zI σ 13 1)) ko_X4 rfl w_142 dX4_add_65 (by decide) (shk hS 13 rfl) rfl ?_
      exact V_iret rfl dX4_add_68 (k2 c1 c2)
    · refine V_aload dX4_add_29 rfl ?_
      refine V_iload_n dX4_add_31 rfl ?_
      refine V_puti (fk := 0) ko_X5 rfl w_124 (Or.inl rfl) dX4_add_32 rfl c2 (o2 c1 c2) ?_
      refine V_aload dX4_add_35 rfl ?_
      refine V_iload_n dX4_add_37 rfl ?_
      refine V_puti (fk := 1) ko_X5 rfl w_127 (Or.inl rfl) dX4_add_38 rfl c2 (o2 c1 c2) ?_
      refine V_aload dX4_add_41 rfl ?_
      refine V_iload_n dX4_add_43 rfl ?_
      refine V_puti (fk := 2) ko_X5 rfl w_129 (Or.inl rfl) dX4_add_44 rfl c2 (o2 c1 c2) ?_
      refine V_aload dX4_add_47 rfl ?_
      refine V_iload dX4_add_49 rfl ?_
      refine V_puti (fk := 3) ko_X5 rfl w_131 (Or.inl rfl) dX4_add_51 rfl c2 (o2 c1 c2) ?_
      refine V_aload_n dX4_add_54 rfl ?_
      refine V_dup dX4_add_55 rfl ?_
      refine V_getf (fk := 1) (Value.int (zI (uI (uI σ (zR σ 14 (Int32.toNatClampNeg (zI σ 13 1))) 0 v1) (zR σ 14 (Int32.toNatClampNeg (zI σ 13 1))) 1 v2) 13 1)) ko_X4 rfl w_142 dX4_add_56 (by decide) (shk (Sh_uI (Sh_uI (Sh_uI (Sh_uI hS)))) 13 rfl) (congrArg Value.int ((zI_oth _ _ _ _ _ _ (by decide)).trans (zI_oth _ _ _ _ _ _ (by decide)))) ?_
      refine V_iconst (1 : Int32) dX4_add_59 (by decide) ?_
      refine V_iadd dX4_add_60 ?_
      refine V_puti (fk := 1) ko_X4 rfl w_142 (Or.inl rfl) dX4_add_61 rfl (by decide) (shk (Sh_uI (Sh_uI (Sh_uI (Sh_uI hS)))) 13 rfl) ?_
      refine V_aload_n dX4_add_64 rfl ?_
      refine V_getf (fk := 1) (Value.int ((zI (uI (uI σ (zR σ 14 (Int32.toNatClampNeg (zI σ 13 1))) 0 v1) (zR σ 14 (Int32.toNatClampNeg (zI σ 13 1))) 1 v2) 13 1) + (1 : Int32))) ko_X4 rfl w_142 dX4_add_65 (by decide) (shk (Sh_uI (Sh_uI (Sh_uI (Sh_uI (Sh_uI hS))))) 13 rfl) (congrArg Value.int (zI_self _ _ _ _)) ?_
      exact V_iret rfl dX4_add_68 (k3 c1 c2)

theorem s_X4_beginAnew {g : GP} {σ : AH} (hS : Sh σ) : Ct g mX4_beginAnew [.ref 13] σ (FQ (uI σ 13 1 0) (some (.int (zI σ 13 1)))) :=
  Ct_of (by decide +kernel) rfl rfl (b_X4_beginAnew_0 hS fq)
theorem s_X4_isPoint {g : GP} {σ : AH} {x : Int32} (hS : Sh σ) : Ct g mX4_isPoint [.ref 13, .int x] σ (FQ σ (some (.int (jb (¬ zI σ 13 1 ≤ 0 ∧ isWi x 0 (zI σ 13 1)))))) :=
  Ct_of (by decide +kernel) rfl rfl (b_X4_isPoint_0 hS (fun c => fq_i (jb_f (fun q => q.1 c)).symm) (fun _ c => fq_i (jb_f (fun q => c q.2)).symm) (fun c c2 => fq_i (jb_t ⟨c, c2⟩).symm))
theorem RJ_L {σ : AH} (hJ : RJ σ) : ∃ L, L ≤ 8 ∧ zI σ 33 16 = nI L ∧ zI σ 13 1 = nI L := by
  obtain ⟨L, h1, h2, h3, -⟩ := hJ
  exact ⟨L, h1, h2, h3⟩
/-- may the journey go on from a place on a day -/
abbrev onF (σ : AH) (x d : Int32) : Prop := zI σ 33 16 = 0 ∨ (¬ 8 ≤ zI σ 33 16 ∧ zI σ 47 (ix (zI σ 33 16 - 1)) = x ∧ ¬ d < zI σ 49 (ix (zI σ 33 16 - 1)))
theorem s_X4_goesOn {g : GP} {σ : AH} {x d : Int32} (hS : Sh σ) (hJ : RJ σ) : Ct g mX4_goesOn [.ref 13, .int x, .int d] σ (FQ σ (some (.int (jb (onF σ x d))))) := by
  obtain ⟨L, h1, h2, h3⟩ := RJ_L hJ
  by_cases h0 : L = 0
  · subst h0
    have e0 : zI σ 33 16 = 0 := h2
    have e1 : zI σ 13 1 = 0 := h3
    have a0 : atR (zI σ 13 1) 8 ((zI σ 13 1) - (1 : Int32)) (zR σ 14 (ix ((zI σ 13 1) - (1 : Int32)))) = 0 := by
      rw [e1, atR, if_pos (Or.inl (by decide))]
    have c8 : ¬ (8 : Int32) ≤ zI σ 13 1 := by rw [e1]; decide
    exact Ct_of (by decide +kernel) rfl rfl (b_X4_goesOn_0 hS (fun c => absurd c c8) (fun _ _ => fq_i (jb_t (Or.inl e0)).symm) (fun _ c => absurd a0 c) (fun _ c => absurd a0 c) (fun _ c => absurd a0 c) (fun _ c => absurd a0 c))
  · obtain ⟨k, rfl⟩ : ∃ k, L = k + 1 := ⟨L - 1, by omega⟩
    have hpr : zI σ 13 1 - 1 = nI k := by rw [h3]; exact nI_pred k
    have hpr' : zI σ 33 16 - 1 = nI k := by rw [h2]; exact nI_pred k
    have n0 : ¬ zI σ 33 16 = 0 := by rw [h2]; exact nI_ne0 (by omega) (by omega)
    have la := leg_at hS hJ (k := k) (by rw [h2]; exact nI_lt (by omega) (by omega)) (by omega)
    have r := RJ_leg hJ (k := k) (by omega)
    have hk : ix (nI k) = k := cl0 (by omega)
    have e8 : (8 : Int32) ≤ zI σ 13 1 ↔ (8 : Int32) ≤ zI σ 33 16 := by rw [h2, h3]
    refine Ct_of (by decide +kernel) rfl rfl (b_X4_goesOn_0 hS (fun c => fq_i (jb_f ?_).symm) (fun _ c => absurd c ?_) (fun _ _ => ?_) (fun c _ c2 => fq_i (jb_f ?_).symm) (fun c _ c2 c3 => fq_i (jb_f ?_).symm) (fun c _ c2 c3 => fq_i (jb_t ?_).symm))
    · exact fun q => q.elim n0 (fun q => q.1 (e8.mp c))
    · rw [hpr, la.1]; exact la.2.1
    · rw [hpr, la.1]; exact la.2.2
    · rw [hpr, la.1, r.2.1] at c2
      exact fun q => q.elim n0 (fun q => c2 (by have := q.2.1; rw [hpr', hk] at this; exact this))
    · rw [hpr, la.1, r.2.2.2] at c3
      exact fun q => q.elim n0 (fun q => q.2.2 (by rw [hpr', hk]; exact c3))
    · rw [hpr, la.1, r.2.1] at c2
      rw [hpr, la.1, r.2.2.2] at c3
      exact Or.inr ⟨fun q => c (e8.mpr q), by rw [hpr', hk]; exact c2, by rw [hpr', hk]; exact c3⟩
theorem s_X4_hasLegBefore {g : GP} {σ : AH} {d : Int32} (hS : Sh σ) (hJ : RJ σ) : Ct g mX4_hasLegBefore [.ref 13, .int d] σ (FQ σ (some (.int (jb (¬ zI σ 33 16 = 0 ∧ ¬ d ≤ zI σ 49 0))))) := by
  obtain ⟨L, h1, h2, h3⟩ := RJ_L hJ
  by_cases h0 : L = 0
  · subst h0
    have e0 : zI σ 33 16 = 0 := h2
    have a0 : atR (zI σ 13 1) 8 (0 : Int32) (zR σ 14 (ix (0 : Int32))) = 0 := by
      rw [h3, atR, if_pos (Or.inr (Or.inl (by decide)))]
    exact Ct_of (by decide +kernel) rfl rfl (b_X4_hasLegBefore_0 hS (fun _ => fq_i (jb_f (fun q => q.1 e0)).symm) (fun c => absurd a0 c) (fun c => absurd a0 c) (fun c => absurd a0 c))
  · have n0 : ¬ zI σ 33 16 = 0 := by rw [h2]; exact nI_ne0 (by omega) (by omega)
    have la : atR (zI σ 13 1) 8 (0 : Int32) (zR σ 14 (ix (0 : Int32))) = 15 ∧ 15 ≠ 0 ∧ zK σ 15 = 5 := leg_at hS hJ (k := 0) (by rw [h2]; exact nI_lt (by omega) (by omega)) (by decide)
    have r := (RJ_leg hJ (k := 0) (by decide)).2.2.2
    refine Ct_of (by decide +kernel) rfl rfl (b_X4_hasLegBefore_0 hS (fun c => absurd (la.1.symm.trans c) (by decide)) (fun _ => by rw [la.1]; exact la.2.2) (fun _ c => fq_i (jb_f ?_).symm) (fun _ c => fq_i (jb_t ?_).symm))
    · rw [la.1, r] at c; exact fun q => q.2 c
    · rw [la.1, r] at c; exact ⟨n0, c⟩
/-- the journey with a leg more -/
def adH (σ : AH) (x y c d : Int32) : AH := uI (uI (uI (uI (uI σ (15 + ix (zI σ 33 16)) 0 x) (15 + ix (zI σ 33 16)) 1 y) (15 + ix (zI σ 33 16)) 2 c) (15 + ix (zI σ 33 16)) 3 d) 13 1 (zI σ 33 16 + 1)
theorem s_X4_add {g : GP} {σ : AH} {x y c d : Int32} (hS : Sh σ) (hJ : RJ σ) (h8 : ¬ 8 ≤ zI σ 33 16) : Ct g mX4_add [.ref 13, .int x, .int y, .int c, .int d] σ (FQ (adH σ x y c d) (some (.int (zI σ 33 16 + 1)))) := by
  obtain ⟨L, h1, h2, h3⟩ := RJ_L hJ
  have hL : L < 8 := by
    rcases Nat.lt_or_ge L 8 with h | h
    · exact h
    · exact absurd (by rw [h2]; exact nI_le (a := 8) h (by omega)) h8
  have e : zI σ 13 1 = zI σ 33 16 := by rw [h2, h3]
  have c8 : ¬ (8 : Int32) ≤ zI σ 13 1 := by rw [e]; exact h8
  have cl : (zI σ 13 1).toNatClampNeg = L := by rw [h3]; exact cl0 (by omega)
  have lr := leg_row hS hL
  have hz : zR σ 14 (Int32.toNatClampNeg (zI σ 13 1)) = 15 + L := by rw [cl]; exact lr.1
  have hv : vp_in (zI σ 13 1) 8 := by rw [h3]; exact vp_in_nI hL (by decide)
  have hi : ix (zI σ 33 16) = L := by rw [← e]; exact cl
  have er : zI (uI (uI σ (15 + L) 0 x) (15 + L) 1 y) 13 1 = zI σ 33 16 := by
    rw [zI_uI, if_neg (by omega), zI_uI, if_neg (by omega), e]
  refine Ct_of (by decide +kernel) rfl rfl (b_X4_add_0 hS (fun q => absurd q c8) (fun _ => hv) (fun _ q => absurd (hz.symm.trans q) (by omega)) (fun _ _ => by rw [hz]; exact lr.2) (fun _ _ => ?_))
  rw [hz, er]
  refine ⟨?_, rfl⟩
  rw [adH, hi]
