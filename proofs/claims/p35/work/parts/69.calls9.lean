/-! ===== calls: a coupon flown ===== -/
theorem zK_uIe (σ : AH) (a k : Nat) (x : Int32) (b : Nat) : zK (uI σ a k x) b = zK σ b := rfl
theorem z4_uI (σ : AH) (a k : Nat) (x : Int32) : zN (uI σ a k x) = zN σ ∧ zK (uI σ a k x) = zK σ ∧ zL (uI σ a k x) = zL σ ∧ zR (uI σ a k x) = zR σ := ⟨rfl, rfl, rfl, rfl⟩
theorem z4_uJ (σ : AH) (a k : Nat) (x : Int64) : zN (uJ σ a k x) = zN σ ∧ zK (uJ σ a k x) = zK σ ∧ zL (uJ σ a k x) = zL σ ∧ zR (uJ σ a k x) = zR σ := ⟨rfl, rfl, rfl, rfl⟩
set_option maxRecDepth 100000 in
set_option maxHeartbeats 4000000 in
theorem b_X11_fly_0 {g : GP} {CX : State → Array Value → Prop} {Q : AH → Option Value → Prop} {X : AH → String → Prop} {v1 : Int32} {v2 : Int32} {σ : AH}
    (hS : Sh σ)
    (o1 : (¬ atR (zI σ 2 8) 30 v1 (zR σ 30 (ix v1)) = 0) → TX σ (atR (zI σ 2 8) 30 v1 (zR σ 30 (ix v1))))
    (o2 : (¬ atR (zI σ 2 8) 30 v1 (zR σ 30 (ix v1)) = 0) → zK σ (atR (zI σ 2 8) 30 v1 (zR σ 30 (ix v1))) = 9)
    (o3 : (¬ atR (zI σ 2 8) 30 v1 (zR σ 30 (ix v1)) = 0) → (¬ atR (zI σ (atR (zI σ 2 8) 30 v1 (zR σ 30 (ix v1))) 4) 8 v2 (cA σ (atR (zI σ 2 8) 30 v1 (zR σ 30 (ix v1))) (ix v2)) = 0) → zK σ (atR (zI σ (atR (zI σ 2 8) 30 v1 (zR σ 30 (ix v1))) 4) 8 v2 (cA σ (atR (zI σ 2 8) 30 v1 (zR σ 30 (ix v1))) (ix v2))) = 2)
    (k1 : (¬ atR (zI σ 2 8) 30 v1 (zR σ 30 (ix v1)) = 0) → (¬ atR (zI σ (atR (zI σ 2 8) 30 v1 (zR σ 30 (ix v1))) 4) 8 v2 (cA σ (atR (zI σ 2 8) 30 v1 (zR σ 30 (ix v1))) (ix v2)) = 0) → (¬ (zI σ (atR (zI σ (atR (zI σ 2 8) 30 v1 (zR σ 30 (ix v1))) 4) 8 v2 (cA σ (atR (zI σ 2 8) 30 v1 (zR σ 30 (ix v1))) (ix v2))) 7) = 0) → X σ "java/lang/IllegalStateException")
    (o4 : (¬ atR (zI σ 2 8) 30 v1 (zR σ 30 (ix v1)) = 0) → (¬ atR (zI σ (atR (zI σ 2 8) 30 v1 (zR σ 30 (ix v1))) 4) 8 v2 (cA σ (atR (zI σ 2 8) 30 v1 (zR σ 30 (ix v1))) (ix v2)) = 0) → ((zI σ (atR (zI σ (atR (zI σ 2 8) 30 v1 (zR σ 30 (ix v1))) 4) 8 v2 (cA σ (atR (zI σ 2 8) 30 v1 (zR σ 30 (ix v1))) (ix v2))) 7) = 0) → ((zI σ (atR (zI σ (atR (zI σ 2 8) 30 v1 (zR σ 30 (ix v1))) 4) 8 v2 (cA σ (atR (zI σ 2 8) 30 v1 (zR σ 30 (ix v1))) (ix v2))) 2) ≤ (zI σ 3 6)) → tuS (uI σ (atR (zI σ (atR (zI σ 2 8) 30 v1 (zR σ 30 (ix v1))) 4) 8 v2 (cA σ (atR (zI σ 2 8) 30 v1 (zR σ 30 (ix v1))) (ix v2))) 7 (1 : Int32)) (atR (zI σ 2 8) 30 v1 (zR σ 30 (ix v1))) v2)
    (k2 : (¬ atR (zI σ 2 8) 30 v1 (zR σ 30 (ix v1)) = 0) → (¬ atR (zI σ (atR (zI σ 2 8) 30 v1 (zR σ 30 (ix v1))) 4) 8 v2 (cA σ (atR (zI σ 2 8) 30 v1 (zR σ 30 (ix v1))) (ix v2)) = 0) → ((zI σ (atR (zI σ (atR (zI σ 2 8) 30 v1 (zR σ 30 (ix v1))) 4) 8 v2 (cA σ (atR (zI σ 2 8) 30 v1 (zR σ 30 (ix v1))) (ix v2))) 7) = 0) → ((zI σ (atR (zI σ (atR (zI σ 2 8) 30 v1 (zR σ 30 (ix v1))) 4) 8 v2 (cA σ (atR (zI σ 2 8) 30 v1 (zR σ 30 (ix v1))) (ix v2))) 2) ≤ (zI σ 3 6)) → V g mX11_fly (Em g mX11_fly Q X) CX 2 12 85 [(0, .ref 2), (1, .int v1), (2, .int v2), (3, .ref (atR (zI σ 2 8) 30 v1 (zR σ 30 (ix v1)))), (4, .ref (atR (zI σ (atR (zI σ 2 8) 30 v1 (zR σ 30 (ix v1))) 4) 8 v2 (cA σ (atR (zI σ 2 8) 30 v1 (zR σ 30 (ix v1))) (ix v2))))] [] (toA (uI σ (atR (zI σ (atR (zI σ 2 8) 30 v1 (zR σ 30 (ix v1))) 4) 8 v2 (cA σ (atR (zI σ 2 8) 30 v1 (zR σ 30 (ix v1))) (ix v2))) 7 (1 : Int32)) (atR (zI σ 2 8) 30 v1 (zR σ 30 (ix v1))) (2 : Int32) (ix v2)))
    (k3 : (¬ atR (zI σ 2 8) 30 v1 (zR σ 30 (ix v1)) = 0) → (¬ atR (zI σ (atR (zI σ 2 8) 30 v1 (zR σ 30 (ix v1))) 4) 8 v2 (cA σ (atR (zI σ 2 8) 30 v1 (zR σ 30 (ix v1))) (ix v2)) = 0) → ((zI σ (atR (zI σ (atR (zI σ 2 8) 30 v1 (zR σ 30 (ix v1))) 4) 8 v2 (cA σ (atR (zI σ 2 8) 30 v1 (zR σ 30 (ix v1))) (ix v2))) 7) = 0) → (¬ (zI σ (atR (zI σ (atR (zI σ 2 8) 30 v1 (zR σ 30 (ix v1))) 4) 8 v2 (cA σ (atR (zI σ 2 8) 30 v1 (zR σ 30 (ix v1))) (ix v2))) 2) ≤ (zI σ 3 6)) → X σ "java/lang/IllegalStateException")
    (k4 : (¬ atR (zI σ 2 8) 30 v1 (zR σ 30 (ix v1)) = 0) → (atR (zI σ (atR (zI σ 2 8) 30 v1 (zR σ 30 (ix v1))) 4) 8 v2 (cA σ (atR (zI σ 2 8) 30 v1 (zR σ 30 (ix v1))) (ix v2)) = 0) → X σ "java/lang/IndexOutOfBoundsException")
    (k5 : (atR (zI σ 2 8) 30 v1 (zR σ 30 (ix v1)) = 0) → X σ "java/lang/IndexOutOfBoundsException") :
    V g mX11_fly (Em g mX11_fly Q X) CX 2 12 0 [(0, .ref 2), (1, .int v1), (2, .int v2)] [] σ := by
  refine V_aload_n dX11_fly_0 rfl ?_
  refine V_iload_n dX11_fly_1 rfl ?_
  refine V_callV1 (as := [.int v1]) (k' := 2) (n' := 12) (s_X11_ticketAt hS) mw_X11_ticketAt ko_X11 rfl w_404 w_1 w_402 ar_X11_ticketAt rfl ⟨rfl, rfl, rfl, rfl, rfl⟩ dX11_fly_2 (by decide) (shk hS 2 rfl) ?_
  refine V_astore_n [(0, .ref 2), (1, .int v1), (2, .int v2), (3, .ref (atR (zI σ 2 8) 30 v1 (zR σ 30 (ix v1))))] dX11_fly_5 rfl rfl ?_
  refine V_aload_n dX11_fly_6 rfl ?_
  refine V_ifnonnull 14 dX11_fly_7 rfl (fun c1 => ?_) (fun c1 => ?_)
  · refine V_aload_n dX11_fly_14 rfl ?_
    refine V_iload_n dX11_fly_15 rfl ?_
    refine V_callV1 (as := [.int v2]) (k' := 2) (n' := 12) (s_X9_couponAt (o1 c1)) mw_X9_couponAt ko_X9 rfl w_411 w_412 w_436 ar_X9_couponAt rfl ⟨rfl, rfl, rfl, rfl, rfl⟩ dX11_fly_16 c1 (o2 c1) ?_
    refine V_astore [(0, .ref 2), (1, .int v1), (2, .int v2), (3, .ref (atR (zI σ 2 8) 30 v1 (zR σ 30 (ix v1)))), (4, .ref (atR (zI σ (atR (zI σ 2 8) 30 v1 (zR σ 30 (ix v1))) 4) 8 v2 (cA σ (atR (zI σ 2 8) 30 v1 (zR σ 30 (ix v1))) (ix v2))))] dX11_fly_19 rfl rfl ?_
    refine V_aload_n dX11_fly_21 rfl ?_
    refine V_ifnull 30 dX11_fly_22 rfl (fun z_ => (by first | exact absurd (c1) z_ | exact absurd z_ (c1))) (fun _ => ?_)
    refine V_aload dX11_fly_25 rfl ?_
    refine V_ifnonnull 40 dX11_fly_27 rfl (fun c2 => ?_) (fun c2 => ?_)
    · refine V_aload dX11_fly_40 rfl ?_
      refine V_getf (fk := 7) (Value.int (zI σ (atR (zI σ (atR (zI σ 2 8) 30 v1 (zR σ 30 (ix v1))) 4) 8 v2 (cA σ (atR (zI σ 2 8) 30 v1 (zR σ 30 (ix v1))) (ix v2))) 7)) ko_X2 rfl w_789 dX11_fly_42 c2 (o3 c1 c2) rfl ?_
      refine V_if_ne 63 dX11_fly_45 rfl (fun c3 => ?_) (fun c3 => ?_)
      · exact V_throw (k := 2) (n := 12) tw_X11_94 ws_907 dX11_fly_63 dX11_fly_66 dX11_fly_67 dX11_fly_69 dX11_fly_72 rfl rfl rfl rfl rfl (k1 c1 c2 c3)
      · refine V_aload dX11_fly_48 rfl ?_
        refine V_getf (fk := 2) (Value.int (zI σ (atR (zI σ (atR (zI σ 2 8) 30 v1 (zR σ 30 (ix v1))) 4) 8 v2 (cA σ (atR (zI σ 2 8) 30 v1 (zR σ 30 (ix v1))) (ix v2))) 2)) ko_X2 rfl w_776 dX11_fly_50 c2 (o3 c1 c2) rfl ?_
        refine V_aload_n dX11_fly_53 rfl ?_
        refine V_getf (fk := 0) (Value.ref 3) ko_X11 rfl w_204 dX11_fly_54 (by decide) (shk hS 2 rfl) (congrArg Value.ref (shr hS 2 0 3 (by decide))) ?_
        refine V_getf (fk := 6) (Value.int (zI σ 3 6)) ko_X8 rfl w_78 dX11_fly_57 (by decide) (shk hS 3 rfl) rfl ?_
        refine V_icmp_le 73 dX11_fly_60 rfl (fun c4 => ?_) (fun c4 => ?_)
        · refine V_aload dX11_fly_73 rfl ?_
          refine V_iconst (1 : Int32) dX11_fly_75 (by decide) ?_
          refine V_puti (fk := 7) ko_X2 rfl w_789 (Or.inl rfl) dX11_fly_76 rfl c2 (o3 c1 c2) ?_
          refine V_aload_n dX11_fly_79 rfl ?_
          refine V_iload_n dX11_fly_80 rfl ?_
          refine V_iconst (2 : Int32) dX11_fly_81 (by decide) ?_
          refine V_callV0 (as := [.int v2, .int (2 : Int32)]) (k' := 2) (n' := 12) (s_X9_turnOpenOnes' (o4 c1 c2 c3 c4)) mw_X9_turnOpenOnes ko_X9 rfl w_877 w_878 w_876 ar_X9_turnOpenOnes rfl ⟨rfl, rfl, rfl, rfl, rfl⟩ dX11_fly_82 c1 (o2 c1) ?_
          exact (k2 c1 c2 c3 c4)
        · exact V_throw (k := 2) (n := 12) tw_X11_94 ws_907 dX11_fly_63 dX11_fly_66 dX11_fly_67 dX11_fly_69 dX11_fly_72 rfl rfl rfl rfl rfl (k3 c1 c2 c3 c4)
    · exact V_throw (k := 2) (n := 12) tw_X11_61 ws_437 dX11_fly_30 dX11_fly_33 dX11_fly_34 dX11_fly_36 dX11_fly_39 rfl rfl rfl rfl rfl (k4 c1 c2)
  · refine V_null dX11_fly_10 ?_
    refine V_goto 19 dX11_fly_11 rfl ?_
    refine V_astore [(0, .ref 2), (1, .int v1), (2, .int v2), (3, .ref (atR (zI σ 2 8) 30 v1 (zR σ 30 (ix v1)))), (4, .ref 0)] dX11_fly_19 rfl rfl ?_
    refine V_aload_n dX11_fly_21 rfl ?_
    refine V_ifnull 30 dX11_fly_22 rfl (fun _ => ?_) (fun z_ => (by first | exact absurd (c1) z_ | exact absurd z_ (c1)))
    exact V_throw (k := 2) (n := 12) tw_X11_61 ws_437 dX11_fly_30 dX11_fly_33 dX11_fly_34 dX11_fly_36 dX11_fly_39 rfl rfl rfl rfl rfl (k5 c1)
set_option maxRecDepth 100000 in
set_option maxHeartbeats 4000000 in
theorem b_X11_fly_85 {g : GP} {CX : State → Array Value → Prop} {E : ET} {v1 : Int32} {v2 : Int32} {v3 : Nat} {v4 : Nat} {σ : AH}
    (hS : Sh σ)
    (o1 : v3 ≠ 0)
    (o2 : zK σ v3 = 9)
    (o3 : v4 ≠ 0)
    (o4 : zK σ v4 = 2)
    (o5 : isCa (zI σ v3 0))
    (k1 : V g mX11_fly E CX 2 12 100 [(0, .ref 2), (1, .int v1), (2, .int v2), (3, .ref v3), (4, .ref v4)] [] (uJ σ 31 (ix (zI σ v3 0)) (zJ σ 31 (ix (zI σ v3 0)) + (Int32.toInt64 (-(zI σ v4 3)))))) :
    V g mX11_fly E CX 2 12 85 [(0, .ref 2), (1, .int v1), (2, .int v2), (3, .ref v3), (4, .ref v4)] [] σ := by
  refine V_aload_n dX11_fly_85 rfl ?_
  refine V_aload_n dX11_fly_86 rfl ?_
  refine V_getf (fk := 0) (Value.int (zI σ v3 0)) ko_X9 rfl w_729 dX11_fly_87 o1 o2 rfl ?_
  refine V_aload dX11_fly_90 rfl ?_
  refine V_getf (fk := 3) (Value.int (zI σ v4 3)) ko_X2 rfl w_779 dX11_fly_92 o3 o4 rfl ?_
  refine V_ineg dX11_fly_95 ?_
  refine V_i2l dX11_fly_96 ?_
  refine V_callV0 (as := [.int (zI σ v3 0), .long (Int32.toInt64 (-(zI σ v4 3)))]) (k' := 2) (n' := 12) (s_X11_addCash hS o5) mw_X11_addCash ko_X11 rfl w_846 w_14 w_844 ar_X11_addCash rfl ⟨rfl, rfl, rfl, rfl, rfl⟩ dX11_fly_97 (by decide) (shk hS 2 rfl) ?_
  exact k1
set_option maxRecDepth 100000 in
set_option maxHeartbeats 4000000 in
theorem b_X11_fly_100 {g : GP} {CX : State → Array Value → Prop} {E : ET} {v1 : Int32} {v2 : Int32} {v3 : Nat} {v4 : Nat} {σ : AH}
    (hS : Sh σ)
    (o1 : v4 ≠ 0)
    (o2 : zK σ v4 = 2)
    (k1 : (¬ (isPl (zI σ v4 0))) → V g mX11_fly E CX 2 12 130 [(0, .ref 2), (1, .int v1), (2, .int v2), (3, .ref v3), (4, .ref v4)] [] σ)
    (o3 : (isPl (zI σ v4 0)) → vp_in (zI σ v4 0) 10)
    (k2 : (isPl (zI σ v4 0)) → V g mX11_fly E CX 2 12 130 [(0, .ref 2), (1, .int v1), (2, .int v2), (3, .ref v3), (4, .ref v4)] [] (uJ σ 32 (Int32.toNatClampNeg (zI σ v4 0)) ((zJ σ 32 (Int32.toNatClampNeg (zI σ v4 0))) + (Int32.toInt64 (zI σ v4 3))))) :
    V g mX11_fly E CX 2 12 100 [(0, .ref 2), (1, .int v1), (2, .int v2), (3, .ref v3), (4, .ref v4)] [] σ := by
  refine V_aload dX11_fly_100 rfl ?_
  refine V_getf (fk := 0) (Value.int (zI σ v4 0)) ko_X2 rfl w_772 dX11_fly_102 o1 o2 rfl ?_
  refine V_callS1 (as := [.int (zI σ v4 0)]) (k' := 2) (n' := 12) (s_X11_isPlace) mw_X11_isPlace w_253 w_252 ar_X11_isPlace rfl ⟨rfl, rfl, rfl, rfl, rfl⟩ dX11_fly_105 ?_
  refine V_if_eq 130 dX11_fly_108 rfl (fun c1 => ?_) (fun c1 => ?_)
  · replace c1 := jb_0.mp c1
    exact (k1 c1)
  · replace c1 := jb_n.mp c1
    refine V_aload_n dX11_fly_111 rfl ?_
    refine V_getf (fk := 7) (Value.ref 32) ko_X11 rfl w_211 dX11_fly_112 (by decide) (shk hS 2 rfl) (congrArg Value.ref (shr hS 2 7 32 (by decide))) ?_
    refine V_aload dX11_fly_115 rfl ?_
    refine V_getf (fk := 0) (Value.int (zI σ v4 0)) ko_X2 rfl w_772 dX11_fly_117 o1 o2 rfl ?_
    refine V_dup2 dX11_fly_120 rfl rfl ?_
    refine V_lald dX11_fly_121 (by decide) (shk hS 32 rfl) (vp_l (n := 10) (shl hS 32 rfl) (o3 c1)) ?_
    refine V_aload dX11_fly_122 rfl ?_
    refine V_getf (fk := 3) (Value.int (zI σ v4 3)) ko_X2 rfl w_779 dX11_fly_124 o1 o2 rfl ?_
    refine V_i2l dX11_fly_127 ?_
    refine V_ladd dX11_fly_128 ?_
    refine V_last dX11_fly_129 (by decide) (shk hS 32 rfl) (vp_l (n := 10) (shl hS 32 rfl) (o3 c1)) ?_
    exact (k2 c1)
set_option maxRecDepth 100000 in
set_option maxHeartbeats 4000000 in
theorem b_X11_fly_130 {g : GP} {CX : State → Array Value → Prop} {Q : AH → Option Value → Prop} {X : AH → String → Prop} {v1 : Int32} {v2 : Int32} {v3 : Nat} {v4 : Nat} {σ : AH}
    (hS : Sh σ)
    (o1 : v4 ≠ 0)
    (o2 : zK σ v4 = 2)
    (o3 : v3 ≠ 0)
    (o4 : zK σ v3 = 9)
    (k1 : ((zI σ v4 4) = (zI σ v3 0)) → Q σ (some (.int (zI σ v4 8))))
    (o5 : (¬ (zI σ v4 4) = (zI σ v3 0)) → vp_in (zI σ 27 2) 240)
    (o6 : (¬ (zI σ v4 4) = (zI σ v3 0)) → zK (blC σ (zI σ v3 0) (zI σ v4 4) (zI σ v4 6)) v4 = 2)
    (k2 : (¬ (zI σ v4 4) = (zI σ v3 0)) → Q (uI (blC σ (zI σ v3 0) (zI σ v4 4) (zI σ v4 6)) v4 8 (zI σ 27 2 + 1 - 1)) (some (.int (zI σ 27 2 + 1 - 1)))) :
    V g mX11_fly (Em g mX11_fly Q X) CX 2 12 130 [(0, .ref 2), (1, .int v1), (2, .int v2), (3, .ref v3), (4, .ref v4)] [] σ := by
  refine V_aload dX11_fly_130 rfl ?_
  refine V_getf (fk := 4) (Value.int (zI σ v4 4)) ko_X2 rfl w_782 dX11_fly_132 o1 o2 rfl ?_
  refine V_aload_n dX11_fly_135 rfl ?_
  refine V_getf (fk := 0) (Value.int (zI σ v3 0)) ko_X9 rfl w_729 dX11_fly_136 o3 o4 rfl ?_
  refine V_icmp_eq 168 dX11_fly_139 rfl (fun c1 => ?_) (fun c1 => ?_)
  · refine V_aload dX11_fly_168 rfl ?_
    refine V_getf (fk := 8) (Value.int (zI σ v4 8)) ko_X2 rfl w_791 dX11_fly_170 o1 o2 rfl ?_
    exact V_iret rfl dX11_fly_173 (k1 c1)
  · refine V_aload dX11_fly_142 rfl ?_
    refine V_aload_n dX11_fly_144 rfl ?_
    refine V_getf (fk := 4) (Value.ref 27) ko_X11 rfl w_208 dX11_fly_145 (by decide) (shk hS 2 rfl) (congrArg Value.ref (shr hS 2 4 27 (by decide))) ?_
    refine V_aload_n dX11_fly_148 rfl ?_
    refine V_getf (fk := 0) (Value.int (zI σ v3 0)) ko_X9 rfl w_729 dX11_fly_149 o3 o4 rfl ?_
    refine V_aload dX11_fly_152 rfl ?_
    refine V_getf (fk := 4) (Value.int (zI σ v4 4)) ko_X2 rfl w_782 dX11_fly_154 o1 o2 rfl ?_
    refine V_aload dX11_fly_157 rfl ?_
    refine V_getf (fk := 6) (Value.int (zI σ v4 6)) ko_X2 rfl w_786 dX11_fly_159 o1 o2 rfl ?_
    refine V_callV1 (as := [.int (zI σ v3 0), .int (zI σ v4 4), .int (zI σ v4 6)]) (k' := 1) (n' := 6) (s_X1_addBill hS (o5 c1)) mw_X1_addBill ko_X1 rfl w_909 w_910 w_908 ar_X1_addBill rfl ⟨rfl, rfl, rfl, rfl, rfl⟩ dX11_fly_162 (by decide) (shk hS 27 rfl) ?_
    refine V_puti (fk := 8) ko_X2 rfl w_791 (Or.inl rfl) dX11_fly_165 rfl o1 (o6 c1) ?_
    refine V_aload dX11_fly_168 rfl ?_
    refine V_getf (fk := 8) (Value.int (zI σ 27 2 + 1 - 1)) ko_X2 rfl w_791 dX11_fly_170 o1 ((zK_uIe _ _ _ _ _).trans (o6 c1)) (congrArg Value.int (zI_self _ _ _ _)) ?_
    exact V_iret rfl dX11_fly_173 (k2 c1)

theorem n64 {x : Int32} (h : bt x 0 10000) : Int32.toInt64 (-x) = -Int32.toInt64 x := by
  obtain ⟨n, rfl, -, hn⟩ := bt_nI h (by decide) (by decide)
  apply Int64.toInt_inj.mp
  rw [Int32.toInt_toInt64, nJ_i (by omega), Int32.toInt_neg, Int64.toInt_neg, nI_toInt (by omega), nJ_toInt (by omega), Int.bmod_def, Int.bmod_def]
  split <;> split <;> omega
theorem smI_bt {f : Nat → Int32} : ∀ n, n ≤ 8 → (∀ k, k < n → bt (f k) 0 10000) → ∃ s, smI f n = nI s ∧ s ≤ 10000 * n
  | 0, _, _ => ⟨0, rfl, by omega⟩
  | n + 1, hn, h => by
    obtain ⟨s, h1, h2⟩ := smI_bt n (by omega) (fun k hk => h k (by omega))
    obtain ⟨x, h3, -, h4⟩ := bt_nI (h n (by omega)) (by decide) (by decide)
    exact ⟨s + x, by rw [smI, h1, h3, nI_add], by omega⟩
theorem smI_one {f f' : Nat → Int32} {k : Nat} {T : Int32} (h0 : f k = 0) : ∀ n, (∀ j, j < n → f' j = if j = k then T else f j) → smI f' n = if k < n then smI f n + T else smI f n
  | 0, _ => by rw [if_neg (by omega)]; rfl
  | n + 1, h => by
    rw [smI, smI, smI_one h0 n (fun j hj => h j (by omega)), h n (by omega)]
    by_cases e : n = k
    · subst e
      rw [if_neg (by omega), if_pos rfl, if_pos (by omega), h0]
      grind
    · rw [if_neg e]
      by_cases q : k < n
      · rw [if_pos q, if_pos (by omega)]
        generalize f n = x
        grind
      · rw [if_neg q, if_neg (by omega)]
theorem flN_one {τ σ : AH} {q : Nat} (h0 : ¬ zI σ 55 q = 1) (h1 : zI τ 55 q = 1) : ∀ d, (∀ j, j < d → j ≠ q → (zI τ 55 j = 1 ↔ zI σ 55 j = 1)) → flN τ d = if q < d then flN σ d + 1 else flN σ d
  | 0, _ => by rw [if_neg (by omega)]; rfl
  | d + 1, h => by
    rw [flN, flN, flN_one h0 h1 d (fun j hj => h j (by omega))]
    by_cases e : d = q
    · subst e
      rw [if_neg (by omega), if_pos h1, if_neg h0, if_pos (by omega)]
    · have hh := h d (by omega) e
      have e2 : (if zI τ 55 d = 1 then 1 else 0) = (if zI σ 55 d = 1 then 1 else 0) := by
        by_cases c : zI σ 55 d = 1
        · rw [if_pos c, if_pos (hh.mpr c)]
        · rw [if_neg c, if_neg (fun z => c (hh.mp z))]
      rw [e2]
      generalize (if zI σ 55 d = 1 then 1 else 0) = v
      by_cases c : q < d
      · rw [if_pos c, if_pos (by omega)]; omega
      · rw [if_neg c, if_neg (by omega)]
theorem flN_le {σ : AH} : ∀ d, flN σ d ≤ d
  | 0 => Nat.le_refl _
  | d + 1 => by
    have := flN_le (σ := σ) d
    rw [flN]
    split <;> omega
/-- a ticket's issuer when a coupon's tax goes -/
theorem tkM_sub {τ σ : AH} {c : Int32} {t : Nat} {y : Int64} : ∀ d, (∀ u, u < d → zI τ 51 u = zI σ 51 u ∧ zI τ 52 u = zI σ 52 u ∧ zJ τ (tA τ u) 7 = zJ σ (tA σ u) 7 ∧ Int32.toInt64 (smI (ftM τ u) (ix (zI σ 52 u))) = if u = t then Int32.toInt64 (smI (ftM σ u) (ix (zI σ 52 u))) + y else Int32.toInt64 (smI (ftM σ u) (ix (zI σ 52 u)))) → tkM τ c d = if t < d ∧ zI σ 51 t = c then tkM σ c d - y else tkM σ c d
  | 0, _ => by rw [if_neg (by omega)]; rfl
  | d + 1, h => by
    obtain ⟨h1, h2, h3, h4⟩ := h d (by omega)
    have ih := tkM_sub (c := c) d (fun u hu => h u (by omega))
    rw [tkM, tkM, ih, h1, h2, h3, h4]
    by_cases e : d = t
    · subst e
      rw [if_neg (by omega : ¬ (d < d ∧ zI σ 51 d = c)), if_pos rfl]
      by_cases q : zI σ 51 d = c
      · rw [if_pos q, if_pos q, if_pos ⟨by omega, q⟩]
        generalize Int32.toInt64 _ = z
        grind
      · rw [if_neg q, if_neg q, if_neg (fun x => q x.2)]
    · rw [if_neg e]
      generalize (if zI σ 51 d = c then zJ σ (tA σ d) 7 - Int32.toInt64 (smI (ftM σ d) (ix (zI σ 52 d))) else 0) = z
      by_cases q : t < d ∧ zI σ 51 t = c
      · rw [if_pos q, if_pos ⟨by omega, q.2⟩]
        grind
      · rw [if_neg q, if_neg (fun x => q ⟨by omega, x.2⟩)]
theorem RC_fly {τ σ : AH} {t p : Nat} {y : Int64} (ht : t < ix (zI σ 33 23)) (hc5 : vp_in (zI σ 51 t) 5)
    (hI : ∀ a k, (a = 2 ∧ k = 9) ∨ (a = 33 ∧ (k = 15 ∨ k = 36 ∨ k = 23)) ∨ (51 ≤ a ∧ a ≤ 52) ∨ (62 ≤ a ∧ a ≤ 65) → zI τ a k = zI σ a k)
    (hft : ∀ u, u < ix (zI σ 33 23) → Int32.toInt64 (smI (ftM τ u) (ix (zI σ 52 u))) = if u = t then Int32.toInt64 (smI (ftM σ u) (ix (zI σ 52 u))) + y else Int32.toInt64 (smI (ftM σ u) (ix (zI σ 52 u))))
    (h31 : ∀ c, c < 5 → zJ τ 31 c = if c = ix (zI σ 51 t) then zJ σ 31 c - y else zJ σ 31 c) (h70 : ∀ c, c < 5 → zJ τ 70 c = if c = ix (zI σ 51 t) then zJ σ 70 c - y else zJ σ 70 c)
    (h32 : ∀ j, zJ τ 32 j = if j = p then zJ σ 32 j + y else zJ σ 32 j) (h71 : ∀ j, zJ τ 71 j = if j = p then zJ σ 71 j + y else zJ σ 71 j) (h2 : zJ τ 2 10 = zJ σ 2 10) (h33 : zJ τ 33 48 = zJ σ 33 48)
    (h7 : ∀ u, u < ix (zI σ 33 23) → zJ τ (tA τ u) 7 = zJ σ (tA σ u) 7) (h : RC σ) : RC τ := by
  obtain ⟨c1, c2, c3, c4, c5, c6⟩ := h
  refine ⟨fun c hc => by rw [h31 c hc, h70 c hc, c1 c hc], fun j hj => by rw [h32, h71, c2 j hj], by rw [h2, h33, c3], by rw [hI 2 9 (by omega), hI 33 15 (by omega)]; exact c4, by rw [hI 33 15 (by omega)]; exact c5, fun c hc => ?_⟩
  rw [h70 c hc, hI 33 36 (by omega), hI 33 23 (by omega), gbM_ag (fun a k x y => hI a k (by omega)), tkM_sub (t := t) (y := y) _ (fun u hu => ⟨hI 51 u (by omega), hI 52 u (by omega), h7 u hu, hft u hu⟩), c6 c hc]
  obtain ⟨q, hq5, hq⟩ := vp_in_of hc5 (by decide)
  have hqx : ix (zI σ 51 t) = q := by rw [hq, ix, cl0 (by omega)]
  rw [hqx, hq]
  by_cases e : c = q
  · subst e
    rw [if_pos rfl, if_pos ⟨ht, rfl⟩]
    grind
  · rw [if_neg e, if_neg (fun x => e ((nI_eq (by omega) (by omega)).mp x.2).symm)]
theorem flH_Ir {τ : AH} {x y : Int32} {b j : Nat} : zI (flH τ x y) b j = if b = 55 ∧ j = cpI x y then 1 else if b = 55 ∧ 8 * ix x ≤ j ∧ j < 8 * ix x + ix y ∧ zI τ 55 j = 0 then 2 else if b = 33 ∧ j = 49 then 0 else zI τ b j := by
  rw [flH, zI_uJ, flJ, zI_uJ, flT, zI_uI, trH_I, zI_uI, zI_uI, if_neg (show ¬ (55 = 33 ∧ j = 49) by omega)]
theorem flH_Jr {τ : AH} {x y : Int32} {b j : Nat} : zJ (flH τ x y) b j = if b = 71 ∧ j = ix (zI τ 60 (cpI x y)) then zJ τ 71 (ix (zI τ 60 (cpI x y))) + Int32.toInt64 (zI τ 57 (cpI x y)) else if b = 70 ∧ j = ix (zI τ 51 (ix x)) then zJ τ 70 (ix (zI τ 51 (ix x))) - Int32.toInt64 (zI τ 57 (cpI x y)) else zJ τ b j := by
  rw [flH, zJ_uJ, flJ, zJ_uJ, flT, zJ_uI, (trH_N (ix y)).2.2.2.1, zJ_uI]
theorem flH_N {τ : AH} {x y : Int32} : zN (flH τ x y) = zN τ ∧ zK (flH τ x y) = zK τ ∧ zL (flH τ x y) = zL τ ∧ zR (flH τ x y) = zR τ := by
  obtain ⟨e1, e2, e3, e4, e5⟩ := trH_N (σ := uI τ 33 49 0) (b := 8 * ix x) (w := 2) (ix y)
  exact ⟨e1, e2, e3, e5⟩
abbrev fyT (σ : AH) (t k : Nat) : AH := toA (uI σ (cC σ t k) 7 1) (tA σ t) 2 k
/-- the class: a coupon is flown, without its bill -/
def fyH (σ : AH) (t k : Nat) : AH := uJ (uJ (fyT σ t k) 31 (ix (zI σ 51 t)) (zJ σ 31 (ix (zI σ 51 t)) + Int32.toInt64 (-(zI σ 57 (8 * t + k))))) 32 (ix (zI σ 60 (8 * t + k))) (zJ σ 32 (ix (zI σ 60 (8 * t + k))) + Int32.toInt64 (zI σ 57 (8 * t + k)))
theorem fyT_N {σ : AH} {t k : Nat} : zN (fyT σ t k) = zN σ ∧ zK (fyT σ t k) = zK σ ∧ zL (fyT σ t k) = zL σ ∧ zJ (fyT σ t k) = zJ σ ∧ zR (fyT σ t k) = zR σ := toA_N (σ := uI σ (cC σ t k) 7 1) k
theorem fyH_I {σ : AH} {t k b j : Nat} : zI (fyH σ t k) b j = zI (fyT σ t k) b j := by rw [fyH, zI_uJ, zI_uJ]
theorem fyH_J {σ : AH} {t k b j : Nat} : zJ (fyH σ t k) b j = if b = 32 ∧ j = ix (zI σ 60 (8 * t + k)) then zJ σ 32 (ix (zI σ 60 (8 * t + k))) + Int32.toInt64 (zI σ 57 (8 * t + k)) else if b = 31 ∧ j = ix (zI σ 51 t) then zJ σ 31 (ix (zI σ 51 t)) + Int32.toInt64 (-(zI σ 57 (8 * t + k))) else zJ σ b j := by
  rw [fyH, zJ_uJ, zJ_uJ, fyT_N.2.2.2.1]
theorem fyH_N {σ : AH} {t k : Nat} : zN (fyH σ t k) = zN σ ∧ zK (fyH σ t k) = zK σ ∧ zL (fyH σ t k) = zL σ ∧ zR (fyH σ t k) = zR σ := by
  obtain ⟨e1, e2, e3, e4, e5⟩ := fyT_N (σ := σ) (t := t) (k := k)
  exact ⟨e1, e2, e3, e5⟩
theorem fyT_o {σ : AH} {t k b j : Nat} (hK : RK σ) (ht : t < ix (zI σ 33 23)) (hk : k < ix (zI σ 52 t)) (h : b ≤ 72 ∨ ¬ j = 7 ∨ ¬ zK σ b = 2) : zI (fyT σ t k) b j = zI σ b j := by
  have hT := RK_t hK ht
  have c2 : ∀ k', k' < ix (zI σ 52 t) → zK σ (cC σ t k') = 2 ∧ 72 < cC σ t k' := fun k' hk' => ⟨(cC_2 hT hk').1, (cC_2 hT hk').2.1.1⟩
  rw [fyT, toA_o k (fun h7 k' hk' z => by
    have q := c2 k' (by omega)
    have z2 : b = cC σ t k' := z
    rw [← z2] at q
    omega), zI_uI, if_neg (fun z => by
    have q := c2 k hk
    rw [← z.1] at q
    omega)]
theorem fyT_c {σ : AH} {t k u k' : Nat} (hK : RK σ) (ht : t < ix (zI σ 33 23)) (hk : k < ix (zI σ 52 t)) (hu : u < ix (zI σ 33 23)) (hk' : k' < ix (zI σ 52 u)) : zI (fyT σ t k) (cC σ u k') 7 = if u = t ∧ k' = k then 1 else if u = t ∧ k' < k ∧ zI σ (cC σ u k') 7 = 0 then 2 else zI σ (cC σ u k') 7 := by
  have k8 : ∀ v, v < ix (zI σ 33 23) → ix (zI σ 52 v) ≤ 8 := fun v hv => by
    obtain ⟨m, hm9, hm⟩ := vp_in_of (TR_M (RK_t hK hv)).1 (by decide)
    rw [hm, ix, cl0 (by omega)]; omega
  have kt := k8 t ht
  have ku := k8 u hu
  have ne : ∀ a b, a < ix (zI σ 52 u) → b < ix (zI σ 52 t) → ¬ (u = t ∧ a = b) → cC σ u a ≠ cC σ t b := fun a b ha hb q => cC_ne hK hu ht ha hb (by omega) (by omega) (by omega)
  by_cases c1 : u = t ∧ k' = k
  · obtain ⟨rfl, rfl⟩ := c1
    rw [if_pos ⟨rfl, rfl⟩, fyT, toA_o (σ := uI σ (cC σ u k') 7 1) k' (fun _ b hb => ne k' b hk' (by omega) (by omega)), zI_uI, if_pos ⟨rfl, rfl⟩]
  · rw [if_neg c1]
    have n0 : zI (uI σ (cC σ t k) 7 1) (cC σ u k') 7 = zI σ (cC σ u k') 7 := by rw [zI_uI, if_neg (fun z => ne k' k hk' hk c1 z.1)]
    by_cases c2 : u = t ∧ k' < k
    · obtain ⟨rfl, c3⟩ := c2
      have h := toA_c (σ := uI σ (cC σ u k) 7 1) (a := tA σ u) (s := 2) (by decide) (k := k') k c3
      have h2 : zI (fyT σ u k) (cC σ u k') 7 = if zI (uI σ (cC σ u k) 7 1) (cC σ u k') 7 = 0 then 2 else zI (uI σ (cC σ u k) 7 1) (cC σ u k') 7 := h
      rw [h2, n0]
      by_cases z : zI σ (cC σ u k') 7 = 0
      · rw [if_pos z, if_pos ⟨rfl, c3, z⟩]
      · rw [if_neg z, if_neg (fun q => z q.2.2)]
    · rw [if_neg (fun q => c2 ⟨q.1, q.2.1⟩), fyT, toA_o (σ := uI σ (cC σ t k) 7 1) k (fun _ b hb => ne k' b hk' (by omega) (by omega)), n0]

theorem fly_e49 {σ : AH} {t k : Nat} {z : Int32} {w : Int64} (hK : RK σ) (ht : t < ix (zI σ 33 23)) (t30 : t < 30) (hk : k < ix (zI σ 52 t)) (hk8 : k < 8) : zI (uI (uI (flH (uJ (fyH σ t k) 72 0 w) (nI t) (nI k)) (cC σ t k) 8 z) 61 (8 * t + k) z) 33 49 = 0 := by
  have q2 := cC_2 (RK_t hK ht) hk
  have c72 := q2.2.1.1
  have hx : ix (nI t) = t := by rw [ix, cl0 (by omega)]
  have hy : ix (nI k) = k := by rw [ix, cl0 (by omega)]
  have hcp : cpI (nI t) (nI k) = 8 * t + k := by rw [cpI, hx, hy]
  have T7 : ∀ b j, (b ≤ 72 ∨ ¬ j = 7 ∨ ¬ zK σ b = 2) → zI (uJ (fyH σ t k) 72 0 w) b j = zI σ b j := fun b j q => by rw [zI_uJ, fyH_I, fyT_o hK ht hk q]
  have fl : ∀ b j, b ≠ 55 → ¬ (b = 33 ∧ j = 49) → zI (flH (uJ (fyH σ t k) 72 0 w) (nI t) (nI k)) b j = zI (fyT σ t k) b j := fun b j x1 x2 => by rw [flH_Ir, if_neg (fun q => x1 q.1), if_neg (fun q => x1 q.1), if_neg x2, zI_uJ, fyH_I]
  exact by rw [zI_uI, if_neg (by omega), zI_uI, if_neg (by omega), flH_Ir, if_neg (by omega), if_neg (by omega), if_pos ⟨rfl, rfl⟩]
theorem fly_e {σ : AH} {t k : Nat} {z : Int32} {w : Int64} (hK : RK σ) (ht : t < ix (zI σ 33 23)) (t30 : t < 30) (hk : k < ix (zI σ 52 t)) (hk8 : k < 8) : ∀ b j, ¬ QU b j → b ≠ 55 → b ≠ 61 → ¬ (72 < b ∧ zK σ b = 2 ∧ (j = 7 ∨ j = 8)) → zI (uI (uI (flH (uJ (fyH σ t k) 72 0 w) (nI t) (nI k)) (cC σ t k) 8 z) 61 (8 * t + k) z) b j = zI σ b j := by
  have q2 := cC_2 (RK_t hK ht) hk
  have c72 := q2.2.1.1
  have hx : ix (nI t) = t := by rw [ix, cl0 (by omega)]
  have hy : ix (nI k) = k := by rw [ix, cl0 (by omega)]
  have hcp : cpI (nI t) (nI k) = 8 * t + k := by rw [cpI, hx, hy]
  have T7 : ∀ b j, (b ≤ 72 ∨ ¬ j = 7 ∨ ¬ zK σ b = 2) → zI (uJ (fyH σ t k) 72 0 w) b j = zI σ b j := fun b j q => by rw [zI_uJ, fyH_I, fyT_o hK ht hk q]
  have fl : ∀ b j, b ≠ 55 → ¬ (b = 33 ∧ j = 49) → zI (flH (uJ (fyH σ t k) 72 0 w) (nI t) (nI k)) b j = zI (fyT σ t k) b j := fun b j x1 x2 => by rw [flH_Ir, if_neg (fun q => x1 q.1), if_neg (fun q => x1 q.1), if_neg x2, zI_uJ, fyH_I]
  exact fun b j x1 x2 x3 x4 => by
    have kc := q2.1
    rw [zI_uI, if_neg (fun q => x3 q.1), zI_uI, if_neg (fun q => x4 ⟨by rw [q.1]; exact c72, by rw [q.1]; exact kc, Or.inr q.2⟩), fl b j x2 (by unfold QU at x1; omega), fyT_o hK ht hk (by omega)]
theorem fly_e55 {σ : AH} {t k : Nat} {z : Int32} {w : Int64} (hK : RK σ) (ht : t < ix (zI σ 33 23)) (t30 : t < 30) (hk : k < ix (zI σ 52 t)) (hk8 : k < 8) : ∀ j, zI (uI (uI (flH (uJ (fyH σ t k) 72 0 w) (nI t) (nI k)) (cC σ t k) 8 z) 61 (8 * t + k) z) 55 j = if j = 8 * t + k then 1 else if 8 * t ≤ j ∧ j < 8 * t + k ∧ zI σ 55 j = 0 then 2 else zI σ 55 j := by
  have q2 := cC_2 (RK_t hK ht) hk
  have c72 := q2.2.1.1
  have hx : ix (nI t) = t := by rw [ix, cl0 (by omega)]
  have hy : ix (nI k) = k := by rw [ix, cl0 (by omega)]
  have hcp : cpI (nI t) (nI k) = 8 * t + k := by rw [cpI, hx, hy]
  have T7 : ∀ b j, (b ≤ 72 ∨ ¬ j = 7 ∨ ¬ zK σ b = 2) → zI (uJ (fyH σ t k) 72 0 w) b j = zI σ b j := fun b j q => by rw [zI_uJ, fyH_I, fyT_o hK ht hk q]
  have fl : ∀ b j, b ≠ 55 → ¬ (b = 33 ∧ j = 49) → zI (flH (uJ (fyH σ t k) 72 0 w) (nI t) (nI k)) b j = zI (fyT σ t k) b j := fun b j x1 x2 => by rw [flH_Ir, if_neg (fun q => x1 q.1), if_neg (fun q => x1 q.1), if_neg x2, zI_uJ, fyH_I]
  exact fun j => by
    rw [zI_uI, if_neg (by omega), zI_uI, if_neg (by omega), flH_Ir, hcp, hx, hy, T7 55 j (Or.inl (by decide)), if_neg (show ¬ (55 = 33 ∧ j = 49) by omega)]
    by_cases c : j = 8 * t + k
    · rw [if_pos ⟨rfl, c⟩, if_pos c]
    · rw [if_neg (fun q => c q.2), if_neg c]
      by_cases q : 8 * t ≤ j ∧ j < 8 * t + k ∧ zI σ 55 j = 0
      · rw [if_pos ⟨rfl, q⟩, if_pos q]
      · rw [if_neg (fun x => q x.2), if_neg q]
theorem fly_e61 {σ : AH} {t k : Nat} {z : Int32} {w : Int64} (hK : RK σ) (ht : t < ix (zI σ 33 23)) (t30 : t < 30) (hk : k < ix (zI σ 52 t)) (hk8 : k < 8) : ∀ j, zI (uI (uI (flH (uJ (fyH σ t k) 72 0 w) (nI t) (nI k)) (cC σ t k) 8 z) 61 (8 * t + k) z) 61 j = if j = 8 * t + k then z else zI σ 61 j := by
  have q2 := cC_2 (RK_t hK ht) hk
  have c72 := q2.2.1.1
  have hx : ix (nI t) = t := by rw [ix, cl0 (by omega)]
  have hy : ix (nI k) = k := by rw [ix, cl0 (by omega)]
  have hcp : cpI (nI t) (nI k) = 8 * t + k := by rw [cpI, hx, hy]
  have T7 : ∀ b j, (b ≤ 72 ∨ ¬ j = 7 ∨ ¬ zK σ b = 2) → zI (uJ (fyH σ t k) 72 0 w) b j = zI σ b j := fun b j q => by rw [zI_uJ, fyH_I, fyT_o hK ht hk q]
  have fl : ∀ b j, b ≠ 55 → ¬ (b = 33 ∧ j = 49) → zI (flH (uJ (fyH σ t k) 72 0 w) (nI t) (nI k)) b j = zI (fyT σ t k) b j := fun b j x1 x2 => by rw [flH_Ir, if_neg (fun q => x1 q.1), if_neg (fun q => x1 q.1), if_neg x2, zI_uJ, fyH_I]
  exact fun j => by
    rw [zI_uI]
    by_cases c : j = 8 * t + k
    · rw [if_pos ⟨rfl, c⟩, if_pos c]
    · rw [if_neg (fun q => c q.2), if_neg c, zI_uI, if_neg (by omega), fl 61 j (by decide) (by omega), fyT_o hK ht hk (Or.inl (by decide))]
theorem fly_e8 {σ : AH} {t k : Nat} {z : Int32} {w : Int64} (hK : RK σ) (ht : t < ix (zI σ 33 23)) (t30 : t < 30) (hk : k < ix (zI σ 52 t)) (hk8 : k < 8) : ∀ b, 72 < b → zI (uI (uI (flH (uJ (fyH σ t k) 72 0 w) (nI t) (nI k)) (cC σ t k) 8 z) 61 (8 * t + k) z) b 8 = if b = cC σ t k then z else zI σ b 8 := by
  have q2 := cC_2 (RK_t hK ht) hk
  have c72 := q2.2.1.1
  have hx : ix (nI t) = t := by rw [ix, cl0 (by omega)]
  have hy : ix (nI k) = k := by rw [ix, cl0 (by omega)]
  have hcp : cpI (nI t) (nI k) = 8 * t + k := by rw [cpI, hx, hy]
  have T7 : ∀ b j, (b ≤ 72 ∨ ¬ j = 7 ∨ ¬ zK σ b = 2) → zI (uJ (fyH σ t k) 72 0 w) b j = zI σ b j := fun b j q => by rw [zI_uJ, fyH_I, fyT_o hK ht hk q]
  have fl : ∀ b j, b ≠ 55 → ¬ (b = 33 ∧ j = 49) → zI (flH (uJ (fyH σ t k) 72 0 w) (nI t) (nI k)) b j = zI (fyT σ t k) b j := fun b j x1 x2 => by rw [flH_Ir, if_neg (fun q => x1 q.1), if_neg (fun q => x1 q.1), if_neg x2, zI_uJ, fyH_I]
  exact fun b hb => by
    rw [zI_uI, if_neg (by omega), zI_uI]
    by_cases c : b = cC σ t k
    · rw [if_pos ⟨c, rfl⟩, if_pos c]
    · rw [if_neg (fun q => c q.1), if_neg c, fl b 8 (by omega) (by omega), fyT_o hK ht hk (Or.inr (Or.inl (by decide)))]
theorem fly_e7 {σ : AH} {t k : Nat} {z : Int32} {w : Int64} (hK : RK σ) (ht : t < ix (zI σ 33 23)) (t30 : t < 30) (hk : k < ix (zI σ 52 t)) (hk8 : k < 8) : ∀ b, 72 < b → zI (uI (uI (flH (uJ (fyH σ t k) 72 0 w) (nI t) (nI k)) (cC σ t k) 8 z) 61 (8 * t + k) z) b 7 = zI (fyT σ t k) b 7 := by
  have q2 := cC_2 (RK_t hK ht) hk
  have c72 := q2.2.1.1
  have hx : ix (nI t) = t := by rw [ix, cl0 (by omega)]
  have hy : ix (nI k) = k := by rw [ix, cl0 (by omega)]
  have hcp : cpI (nI t) (nI k) = 8 * t + k := by rw [cpI, hx, hy]
  have T7 : ∀ b j, (b ≤ 72 ∨ ¬ j = 7 ∨ ¬ zK σ b = 2) → zI (uJ (fyH σ t k) 72 0 w) b j = zI σ b j := fun b j q => by rw [zI_uJ, fyH_I, fyT_o hK ht hk q]
  have fl : ∀ b j, b ≠ 55 → ¬ (b = 33 ∧ j = 49) → zI (flH (uJ (fyH σ t k) 72 0 w) (nI t) (nI k)) b j = zI (fyT σ t k) b j := fun b j x1 x2 => by rw [flH_Ir, if_neg (fun q => x1 q.1), if_neg (fun q => x1 q.1), if_neg x2, zI_uJ, fyH_I]
  exact fun b hb => by
    rw [zI_uI, if_neg (by omega), zI_uI, if_neg (by omega), fl b 7 (by omega) (by omega)]
theorem fly_eJ {σ : AH} {t k : Nat} {z : Int32} {w : Int64} (hK : RK σ) (ht : t < ix (zI σ 33 23)) (t30 : t < 30) (hk : k < ix (zI σ 52 t)) (hk8 : k < 8) : ∀ b j, zJ (uI (uI (flH (uJ (fyH σ t k) 72 0 w) (nI t) (nI k)) (cC σ t k) 8 z) 61 (8 * t + k) z) b j = if b = 71 ∧ j = ix (zI σ 60 (8 * t + k)) then zJ σ 71 j + Int32.toInt64 (zI σ 57 (8 * t + k)) else if b = 70 ∧ j = ix (zI σ 51 t) then zJ σ 70 j - Int32.toInt64 (zI σ 57 (8 * t + k)) else if b = 72 ∧ j = 0 then w else if b = 32 ∧ j = ix (zI σ 60 (8 * t + k)) then zJ σ 32 j + Int32.toInt64 (zI σ 57 (8 * t + k)) else if b = 31 ∧ j = ix (zI σ 51 t) then zJ σ 31 j + Int32.toInt64 (-(zI σ 57 (8 * t + k))) else zJ σ b j := by
  have q2 := cC_2 (RK_t hK ht) hk
  have c72 := q2.2.1.1
  have hx : ix (nI t) = t := by rw [ix, cl0 (by omega)]
  have hy : ix (nI k) = k := by rw [ix, cl0 (by omega)]
  have hcp : cpI (nI t) (nI k) = 8 * t + k := by rw [cpI, hx, hy]
  have T7 : ∀ b j, (b ≤ 72 ∨ ¬ j = 7 ∨ ¬ zK σ b = 2) → zI (uJ (fyH σ t k) 72 0 w) b j = zI σ b j := fun b j q => by rw [zI_uJ, fyH_I, fyT_o hK ht hk q]
  have fl : ∀ b j, b ≠ 55 → ¬ (b = 33 ∧ j = 49) → zI (flH (uJ (fyH σ t k) 72 0 w) (nI t) (nI k)) b j = zI (fyT σ t k) b j := fun b j x1 x2 => by rw [flH_Ir, if_neg (fun q => x1 q.1), if_neg (fun q => x1 q.1), if_neg x2, zI_uJ, fyH_I]
  exact fun b j => by
    rw [zJ_uI, zJ_uI, flH_Jr, hcp, hx, T7 60 _ (Or.inl (by decide)), T7 57 _ (Or.inl (by decide)), T7 51 _ (Or.inl (by decide)), zJ_uJ, zJ_uJ, zJ_uJ, fyH_J, fyH_J, fyH_J]
    by_cases c1 : b = 71 ∧ j = ix (zI σ 60 (8 * t + k))
    · rw [if_pos c1, if_pos c1, if_neg (by omega), if_neg (by omega), if_neg (by omega), c1.2]
    · rw [if_neg c1, if_neg c1]
      by_cases c2 : b = 70 ∧ j = ix (zI σ 51 t)
      · rw [if_pos c2, if_pos c2, if_neg (by omega), if_neg (by omega), if_neg (by omega), c2.2]
      · rw [if_neg c2, if_neg c2]
        by_cases c3 : b = 72 ∧ j = 0
        · rw [if_pos c3, if_pos c3]
        · rw [if_neg c3, if_neg c3]
          by_cases c4 : b = 32 ∧ j = ix (zI σ 60 (8 * t + k))
          · rw [if_pos c4, if_pos c4, c4.2]
          · rw [if_neg c4, if_neg c4]
            by_cases c5 : b = 31 ∧ j = ix (zI σ 51 t)
            · rw [if_pos c5, if_pos c5, c5.2]
            · rw [if_neg c5, if_neg c5]

theorem Rel_flyw {i : Nat} {σ ω : AH} {t k : Nat} {z : Int32} {w : Int64} (hi : i < 512) (h : Rel i σ) (ht : t < ix (zI σ 33 23)) (t30 : t < 30) (hk : k < ix (zI σ 52 t)) (hk8 : k < 8) (ho : zI σ 55 (8 * t + k) = 0) (e49 : zI ω 33 49 = 0) (e : ∀ b j, ¬ QU b j → b ≠ 55 → b ≠ 61 → ¬ (72 < b ∧ zK σ b = 2 ∧ (j = 7 ∨ j = 8)) → zI ω b j = zI σ b j) (e55 : ∀ j, zI ω 55 j = if j = 8 * t + k then 1 else if 8 * t ≤ j ∧ j < 8 * t + k ∧ zI σ 55 j = 0 then 2 else zI σ 55 j) (e61 : ∀ j, zI ω 61 j = if j = 8 * t + k then z else zI σ 61 j) (e8 : ∀ b, 72 < b → zI ω b 8 = if b = cC σ t k then z else zI σ b 8) (e7 : ∀ b, 72 < b → zI ω b 7 = zI (fyT σ t k) b 7) (eJ : ∀ b j, zJ ω b j = if b = 71 ∧ j = ix (zI σ 60 (8 * t + k)) then zJ σ 71 j + Int32.toInt64 (zI σ 57 (8 * t + k)) else if b = 70 ∧ j = ix (zI σ 51 t) then zJ σ 70 j - Int32.toInt64 (zI σ 57 (8 * t + k)) else if b = 72 ∧ j = 0 then w else if b = 32 ∧ j = ix (zI σ 60 (8 * t + k)) then zJ σ 32 j + Int32.toInt64 (zI σ 57 (8 * t + k)) else if b = 31 ∧ j = ix (zI σ 51 t) then zJ σ 31 j + Int32.toInt64 (-(zI σ 57 (8 * t + k))) else zJ σ b j) (eN : zN ω = zN σ) (eK : zK ω = zK σ) (eL : zL ω = zL σ) (eR : zR ω = zR σ) : zI ω 33 49 = 0 ∧ Rel (i + 1) ω ∧ zJ ω 72 0 = w ∧ zN ω = zN σ ∧ flN ω 240 = flN σ 240 + 1 := by
  obtain ⟨h0, hS, hT, hJ, hP, hK, hB, hC⟩ := h
  have hTR := RK_t hK ht
  have hM := TR_M hTR
  have q2 := cC_2 hTR hk
  have c72 := q2.2.1.1
  have hG : Gr ω σ := ⟨by rw [eN]; exact Nat.le_refl _, fun a _ => ⟨by rw [eK], by rw [eL]⟩⟩
  have eA : ∀ u, tA ω u = tA σ u := fun u => by rw [tA, eR]
  have h1 : ∀ j, j ≠ 8 * t + k → (zI ω 55 j = 1 ↔ zI σ 55 j = 1) := fun j hj => by
    rw [e55, if_neg hj]
    by_cases q : 8 * t ≤ j ∧ j < 8 * t + k ∧ zI σ 55 j = 0
    · rw [if_pos q, q.2.2]
      exact ⟨fun x => absurd x (by decide), fun x => absurd x (by decide)⟩
    · rw [if_neg q]
  have hfl : flN ω 240 = flN σ 240 + 1 := by
    have h := flN_one (τ := ω) (σ := σ) (q := 8 * t + k) (by rw [ho]; decide) (by rw [e55, if_pos rfl]) 240 (fun j _ hj => h1 j hj)
    rw [if_pos (by omega)] at h
    exact h
  refine ⟨e49, ⟨hi, ?_, ?_, ?_, ?_, ?_, ?_, ?_⟩, by rw [eJ, if_neg (by omega), if_neg (by omega), if_pos ⟨rfl, rfl⟩], eN, hfl⟩
  · exact ⟨by rw [eN]; exact hS.1, fun b x1 x2 => by rw [eK, eL]; exact hS.2.1 b x1 x2, fun q hq => by rw [eR]; exact hS.2.2.1 q hq, by rw [eK]; exact hS.2.2.2⟩
  · exact RT_ag hG (fun a k _ hf => e _ _ (by unfold FT at hf; unfold QU; omega) (by unfold FT at hf; omega) (by unfold FT at hf; omega) (by unfold FT at hf; omega)) (fun k => by rw [eR]) hS.1 hT
  · exact RJ_ag (e _ _ (by unfold QU; omega) (by omega) (by omega) (by omega)) (e _ _ (by unfold QU; omega) (by omega) (by omega) (by omega)) (fun a k _ _ => e _ _ (by unfold QU; omega) (by omega) (by omega) (by omega)) (fun a k _ _ => e _ _ (by unfold QU; omega) (by omega) (by omega) (by omega)) (fun k q => by rw [e 34 k (by unfold QU; omega) (by omega) (by omega) (by omega)]; exact q) hJ
  · exact RP_ag (fun a k q => e _ _ (by unfold QU; omega) (by omega) (by omega) (by omega)) hP
  · refine RK_st eN eK eL eR (e 33 23 (by unfold QU; omega) (by omega) (by omega) (by omega)) (e 2 8 (by unfold QU; omega) (by omega) (by omega) (by omega)) (fun a q x1 x2 x3 => e a q (by unfold QU; omega) x3 (by omega) (by omega)) (fun a j x1 x2 => e a j (by unfold QU; omega) (by omega) (by omega) (by omega)) (fun u k' hu hk' hk8' r7 r8 r9 => ?_) (fun c hc hz => ?_) hK
    · have p2 := cC_2 (RK_t hK hu) hk'
      have p72 : 72 < cC σ u k' := p2.2.1.1
      have ecc : u = t ∧ k' = k → cC σ u k' = cC σ t k := fun q => by rw [q.1, q.2]
      have enn : ¬ (u = t ∧ k' = k) → ¬ cC σ u k' = cC σ t k := fun q => cC_ne hK hu ht hk' hk hk8 hk8' (by omega)
      rw [e7 _ p72, e8 _ p72, e55, e61, fyT_c hK ht hk hu hk', r7, r8]
      by_cases c1 : u = t ∧ k' = k
      · rw [if_pos c1, if_pos (ecc c1), if_pos (by omega), if_pos (by omega)]
        exact ⟨rfl, rfl, fun x => absurd x (by decide)⟩
      · rw [if_neg c1, if_neg (enn c1), if_neg (show ¬ 8 * u + k' = 8 * t + k by omega), if_neg (show ¬ 8 * u + k' = 8 * t + k by omega)]
        by_cases c2 : u = t ∧ k' < k ∧ zI σ 55 (8 * u + k') = 0
        · rw [if_pos c2, if_pos ⟨by omega, by omega, c2.2.2⟩]
          exact ⟨rfl, rfl, fun x => absurd x (by decide)⟩
        · rw [if_neg c2, if_neg (fun q => c2 ⟨by omega, by omega, q.2.2⟩)]
          exact ⟨rfl, rfl, r9⟩
    · rw [e55, if_neg (by omega), if_neg (by omega)]
      exact hz
  · exact RB_s (Nat.le_succ i) (RB_st hG (fun a k _ hf x => e _ _ (by unfold FB at hf; unfold QU; omega) x (by unfold FB at hf; omega) (by unfold FB at hf; omega)) (fun u => by rw [eR]) (by rw [hfl]; omega) hS.1 hB)
  · have r4 := q2.2.2.2.2.1
    refine RC_fly (p := ix (zI σ 60 (8 * t + k))) (y := Int32.toInt64 (zI σ 57 (8 * t + k))) ht hM.2.1 (fun a k q => e _ _ (by unfold QU; omega) (by omega) (by omega) (by omega)) (fun u hu => ?_) (fun c hc => ?_) (fun c hc => ?_) (fun j => ?_) (fun j => ?_) ?_ ?_ (fun u hu => ?_) hC
    · have f1 : ∀ j, j < ix (zI σ 52 u) → ftM ω u j = if u = t ∧ j = k then zI σ 57 (8 * t + k) else ftM σ u j := fun j hj => by
        have j8 : j < 8 := by
          obtain ⟨m, hm9, hm⟩ := vp_in_of (TR_M (RK_t hK hu)).1 (by decide)
          rw [hm, ix, cl0 (by omega)] at hj; omega
        rw [ftM, ftM, e 57 _ (by unfold QU; omega) (by omega) (by omega) (by omega)]
        by_cases c1 : u = t ∧ j = k
        · rw [if_pos c1, if_pos (by rw [e55, if_pos (by omega)]), c1.1, c1.2]
        · rw [if_neg c1]
          by_cases q : zI σ 55 (8 * u + j) = 1
          · rw [if_pos q, if_pos ((h1 _ (by omega)).mpr q)]
          · rw [if_neg q, if_neg (fun x => q ((h1 _ (by omega)).mp x))]
      by_cases c : u = t
      · rw [if_pos c]
        subst c
        have f0 : ftM σ u k = 0 := by rw [ftM, ho, if_neg (by decide)]
        have f2 : ∀ j, j < ix (zI σ 52 u) → ftM ω u j = if j = k then zI σ 57 (8 * u + k) else ftM σ u j := fun j hj => by
          rw [f1 j hj]
          by_cases q : j = k
          · rw [if_pos ⟨rfl, q⟩, if_pos q]
          · rw [if_neg (fun x => q x.2), if_neg q]
        rw [smI_one f0 _ f2, if_pos hk]
        have m8 : ix (zI σ 52 u) ≤ 8 := by
          obtain ⟨m, hm9, hm⟩ := vp_in_of hM.1 (by decide)
          rw [hm, ix, cl0 (by omega)]; omega
        obtain ⟨s, s1, s2⟩ := smI_bt (f := ftM σ u) _ m8 (fun j hj => by
          rw [ftM]
          split
          · exact (cC_2 hTR hj).2.2.2.2.1.2
          · exact ⟨by decide, by decide⟩)
        obtain ⟨x, x1, -, x2⟩ := bt_nI r4.2 (by decide) (by decide)
        rw [s1, x1, nI_add, nJ_i (by omega), nJ_i (by omega), nJ_i (by omega), nJ_add]
      · rw [if_neg c, smI_c (fun j hj => by rw [f1 j hj, if_neg (fun x => c x.1)])]
    · rw [eJ, if_neg (by omega), if_neg (by omega), if_neg (by omega), if_neg (by omega), n64 r4.2]
      by_cases q : c = ix (zI σ 51 t)
      · rw [if_pos ⟨rfl, q⟩, if_pos q]; grind
      · rw [if_neg (fun x => q x.2), if_neg q]
    · rw [eJ, if_neg (by omega)]
      by_cases q : c = ix (zI σ 51 t)
      · rw [if_pos ⟨rfl, q⟩, if_pos q]
      · rw [if_neg (fun x => q x.2), if_neg q, if_neg (by omega), if_neg (by omega), if_neg (by omega)]
    · rw [eJ, if_neg (by omega), if_neg (by omega), if_neg (by omega)]
      by_cases q : j = ix (zI σ 60 (8 * t + k))
      · rw [if_pos ⟨rfl, q⟩, if_pos q]
      · rw [if_neg (fun x => q x.2), if_neg q, if_neg (by omega)]
    · rw [eJ]
      by_cases q : j = ix (zI σ 60 (8 * t + k))
      · rw [if_pos ⟨rfl, q⟩, if_pos q]
      · rw [if_neg (fun x => q x.2), if_neg q, if_neg (by omega), if_neg (by omega), if_neg (by omega), if_neg (by omega)]
    · rw [eJ, if_neg (by omega), if_neg (by omega), if_neg (by omega), if_neg (by omega), if_neg (by omega)]
    · rw [eJ, if_neg (by omega), if_neg (by omega), if_neg (by omega), if_neg (by omega), if_neg (by omega)]
    · have u72 := TR_72 (RK_t hK hu)
      rw [eA, eJ, if_neg (by omega), if_neg (by omega), if_neg (by omega), if_neg (by omega), if_neg (by omega)]

theorem Rel_fly0 {i : Nat} {σ : AH} {t k : Nat} {z : Int32} {w : Int64} (hi : i < 512) (h : Rel i σ) (ht : t < ix (zI σ 33 23)) (t30 : t < 30) (hk : k < ix (zI σ 52 t)) (hk8 : k < 8) (ho : zI σ 55 (8 * t + k) = 0) : zI (uI (uI (flH (uJ (fyH σ t k) 72 0 w) (nI t) (nI k)) (cC σ t k) 8 z) 61 (8 * t + k) z) 33 49 = 0 ∧ Rel (i + 1) (uI (uI (flH (uJ (fyH σ t k) 72 0 w) (nI t) (nI k)) (cC σ t k) 8 z) 61 (8 * t + k) z) ∧ zJ (uI (uI (flH (uJ (fyH σ t k) 72 0 w) (nI t) (nI k)) (cC σ t k) 8 z) 61 (8 * t + k) z) 72 0 = w ∧ zN (uI (uI (flH (uJ (fyH σ t k) 72 0 w) (nI t) (nI k)) (cC σ t k) 8 z) 61 (8 * t + k) z) = zN σ ∧ flN (uI (uI (flH (uJ (fyH σ t k) 72 0 w) (nI t) (nI k)) (cC σ t k) 8 z) 61 (8 * t + k) z) 240 = flN σ 240 + 1 := by
  have hK : RK σ := h.2.2.2.2.2.1
  exact Rel_flyw hi h ht t30 hk hk8 ho (fly_e49 hK ht t30 hk hk8) (fly_e hK ht t30 hk hk8) (fly_e55 hK ht t30 hk hk8) (fly_e61 hK ht t30 hk hk8) (fly_e8 hK ht t30 hk hk8) (fly_e7 hK ht t30 hk hk8) (fly_eJ hK ht t30 hk hk8) (by rw [(z4_uI _ _ _ _).1, (z4_uI _ _ _ _).1, flH_N.1, (z4_uJ _ _ _ _).1, fyH_N.1]) (by rw [(z4_uI _ _ _ _).2.1, (z4_uI _ _ _ _).2.1, flH_N.2.1, (z4_uJ _ _ _ _).2.1, fyH_N.2.1]) (by rw [(z4_uI _ _ _ _).2.2.1, (z4_uI _ _ _ _).2.2.1, flH_N.2.2.1, (z4_uJ _ _ _ _).2.2.1, fyH_N.2.2.1]) (by rw [(z4_uI _ _ _ _).2.2.2, (z4_uI _ _ _ _).2.2.2, flH_N.2.2.2, (z4_uJ _ _ _ _).2.2.2, fyH_N.2.2.2])

