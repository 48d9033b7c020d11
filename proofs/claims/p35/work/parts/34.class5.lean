/-! ===== the class: a part's price ===== -/
set_option maxRecDepth 100000 in
set_option maxHeartbeats 4000000 in
theorem b_X4_stopsBetween_0 {g : GP} {CX : State → Array Value → Prop} {E : ET} {v1 : Int32} {v2 : Int32} {σ : AH}
    (k1 : V g mX4_stopsBetween E CX 0 0 7 [(0, .ref 13), (1, .int v1), (2, .int v2), (3, .int (0 : Int32)), (4, .int (v1 + (1 : Int32)))] [] σ) :
    V g mX4_stopsBetween E CX 0 0 0 [(0, .ref 13), (1, .int v1), (2, .int v2)] [] σ := by
  refine V_iconst (0 : Int32) dX4_stopsBetween_0 (by decide) ?_
  refine V_istore_n [(0, .ref 13), (1, .int v1), (2, .int v2), (3, .int (0 : Int32))] dX4_stopsBetween_1 rfl rfl ?_
  refine V_iload_n dX4_stopsBetween_2 rfl ?_
  refine V_iconst (1 : Int32) dX4_stopsBetween_3 (by decide) ?_
  refine V_iadd dX4_stopsBetween_4 ?_
  refine V_istore [(0, .ref 13), (1, .int v1), (2, .int v2), (3, .int (0 : Int32)), (4, .int (v1 + (1 : Int32)))] dX4_stopsBetween_5 rfl rfl ?_
  exact k1
set_option maxRecDepth 100000 in
set_option maxHeartbeats 4000000 in
theorem b_X4_stopsBetween_7 {g : GP} {CX : State → Array Value → Prop} {Q : AH → Option Value → Prop} {X : AH → String → Prop} {v1 : Int32} {v2 : Int32} {v3 : Int32} {v4 : Int32} {σ : AH}
    (hS : Sh σ)
    (k1 : (v2 ≤ v4) → Q σ (some (.int v3)))
    (o1 : (¬ v2 ≤ v4) → RJ σ)
    (o2 : (¬ v2 ≤ v4) → inS σ v4)
    (k2 : (¬ v2 ≤ v4) → (¬ (¬ zI σ 49 (ix v4) ≤ zI σ 49 (ix v4 - 1))) → V g mX4_stopsBetween (Em g mX4_stopsBetween Q X) CX 0 0 7 [(0, .ref 13), (1, .int v1), (2, .int v2), (3, .int v3), (4, .int (v4 + (1 : Int32)))] [] σ)
    (k3 : (¬ v2 ≤ v4) → (¬ zI σ 49 (ix v4) ≤ zI σ 49 (ix v4 - 1)) → V g mX4_stopsBetween (Em g mX4_stopsBetween Q X) CX 0 0 7 [(0, .ref 13), (1, .int v1), (2, .int v2), (3, .int (v3 + (1 : Int32))), (4, .int (v4 + (1 : Int32)))] [] σ) :
    V g mX4_stopsBetween (Em g mX4_stopsBetween Q X) CX 0 0 7 [(0, .ref 13), (1, .int v1), (2, .int v2), (3, .int v3), (4, .int v4)] [] σ := by
  refine V_iload dX4_stopsBetween_7 rfl ?_
  refine V_iload_n dX4_stopsBetween_9 rfl ?_
  refine V_icmp_ge 31 dX4_stopsBetween_10 rfl (fun c1 => ?_) (fun c1 => ?_)
  · refine V_iload_n dX4_stopsBetween_31 rfl ?_
    exact V_iret rfl dX4_stopsBetween_32 (k1 c1)
  · refine V_aload_n dX4_stopsBetween_13 rfl ?_
    refine V_iload dX4_stopsBetween_14 rfl ?_
    refine V_callV1 (as := [.int v4]) (k' := 0) (n' := 0) (s_X4_isStop hS (o1 c1) (o2 c1)) mw_X4_isStop ko_X4 rfl w_640 w_641 w_639 ar_X4_isStop rfl ⟨rfl, rfl, rfl, rfl, rfl⟩ dX4_stopsBetween_16 (by decide) (shk hS 13 rfl) ?_
    refine V_if_eq 25 dX4_stopsBetween_19 rfl (fun c2 => ?_) (fun c2 => ?_)
    · replace c2 := jb_0.mp c2
      refine V_iinc (v4 + (1 : Int32)) [(0, .ref 13), (1, .int v1), (2, .int v2), (3, .int v3), (4, .int (v4 + (1 : Int32)))] dX4_stopsBetween_25 rfl rfl rfl rfl ?_
      refine V_goto 7 dX4_stopsBetween_28 rfl ?_
      exact (k2 c1 c2)
    · replace c2 := jb_n.mp c2
      refine V_iinc (v3 + (1 : Int32)) [(0, .ref 13), (1, .int v1), (2, .int v2), (3, .int (v3 + (1 : Int32))), (4, .int v4)] dX4_stopsBetween_22 rfl rfl rfl rfl ?_
      refine V_iinc (v4 + (1 : Int32)) [(0, .ref 13), (1, .int v1), (2, .int v2), (3, .int (v3 + (1 : Int32))), (4, .int (v4 + (1 : Int32)))] dX4_stopsBetween_25 rfl rfl rfl rfl ?_
      refine V_goto 7 dX4_stopsBetween_28 rfl ?_
      exact (k3 c1 c2)

set_option maxRecDepth 100000 in
set_option maxHeartbeats 4000000 in
theorem b_X4_milesOfLegs_0 {g : GP} {CX : State → Array Value → Prop} {E : ET} {v2 : Int32} {v3 : Int32} {σ : AH}
    (k1 : V g mX4_milesOfLegs E CX 0 0 6 [(0, .ref 13), (1, .ref 4), (2, .int v2), (3, .int v3), (4, .int (0 : Int32)), (5, .int v2)] [] σ) :
    V g mX4_milesOfLegs E CX 0 0 0 [(0, .ref 13), (1, .ref 4), (2, .int v2), (3, .int v3)] [] σ := by
  refine V_iconst (0 : Int32) dX4_milesOfLegs_0 (by decide) ?_
  refine V_istore [(0, .ref 13), (1, .ref 4), (2, .int v2), (3, .int v3), (4, .int (0 : Int32))] dX4_milesOfLegs_1 rfl rfl ?_
  refine V_iload_n dX4_milesOfLegs_3 rfl ?_
  refine V_istore [(0, .ref 13), (1, .ref 4), (2, .int v2), (3, .int v3), (4, .int (0 : Int32)), (5, .int v2)] dX4_milesOfLegs_4 rfl rfl ?_
  exact k1
set_option maxRecDepth 100000 in
set_option maxHeartbeats 4000000 in
theorem b_X4_milesOfLegs_6 {g : GP} {CX : State → Array Value → Prop} {Q : AH → Option Value → Prop} {X : AH → String → Prop} {v2 : Int32} {v3 : Int32} {v4 : Int32} {v5 : Int32} {σ : AH}
    (hS : Sh σ)
    (k1 : (v3 ≤ v5) → Q σ (some (.int v4)))
    (k2 : (¬ v3 ≤ v5) → (atR (zI σ 13 1) 8 v5 (zR σ 14 (ix v5)) = 0) → V g mX4_milesOfLegs (Em g mX4_milesOfLegs Q X) CX 0 0 6 [(0, .ref 13), (1, .ref 4), (2, .int v2), (3, .int v3), (4, .int v4), (5, .int (v5 + (1 : Int32)))] [] σ)
    (o1 : (¬ v3 ≤ v5) → (¬ atR (zI σ 13 1) 8 v5 (zR σ 14 (ix v5)) = 0) → zK σ (atR (zI σ 13 1) 8 v5 (zR σ 14 (ix v5))) = 5)
    (o2 : (¬ v3 ≤ v5) → (¬ atR (zI σ 13 1) 8 v5 (zR σ 14 (ix v5)) = 0) → 4 = 4 ∨ 4 = 10)
    (k3 : (¬ v3 ≤ v5) → (¬ atR (zI σ 13 1) 8 v5 (zR σ 14 (ix v5)) = 0) → V g mX4_milesOfLegs (Em g mX4_milesOfLegs Q X) CX 0 0 6 [(0, .ref 13), (1, .ref 4), (2, .int v2), (3, .int v3), (4, .int (v4 + (prG σ 4 (zI σ (atR (zI σ 13 1) 8 v5 (zR σ 14 (ix v5))) 0) (zI σ (atR (zI σ 13 1) 8 v5 (zR σ 14 (ix v5))) 1)))), (5, .int (v5 + (1 : Int32)))] [] σ) :
    V g mX4_milesOfLegs (Em g mX4_milesOfLegs Q X) CX 0 0 6 [(0, .ref 13), (1, .ref 4), (2, .int v2), (3, .int v3), (4, .int v4), (5, .int v5)] [] σ := by
  refine V_iload dX4_milesOfLegs_6 rfl ?_
  refine V_iload_n dX4_milesOfLegs_8 rfl ?_
  refine V_icmp_ge 50 dX4_milesOfLegs_9 rfl (fun c1 => ?_) (fun c1 => ?_)
  · refine V_iload dX4_milesOfLegs_50 rfl ?_
    exact V_iret rfl dX4_milesOfLegs_52 (k1 c1)
  · refine V_aload_n dX4_milesOfLegs_12 rfl ?_
    refine V_iload dX4_milesOfLegs_13 rfl ?_
    refine V_callV1 (as := [.int v5]) (k' := 0) (n' := 0) (s_X4_legAt hS) mw_X4_legAt ko_X4 rfl w_595 w_596 w_594 ar_X4_legAt rfl ⟨rfl, rfl, rfl, rfl, rfl⟩ dX4_milesOfLegs_15 (by decide) (shk hS 13 rfl) ?_
    refine V_astore [(0, .ref 13), (1, .ref 4), (2, .int v2), (3, .int v3), (4, .int v4), (5, .int v5), (6, .ref (atR (zI σ 13 1) 8 v5 (zR σ 14 (ix v5))))] dX4_milesOfLegs_18 rfl rfl ?_
    refine V_aload dX4_milesOfLegs_20 rfl ?_
    refine V_ifnull 44 dX4_milesOfLegs_22 rfl (fun c2 => ?_) (fun c2 => ?_)
    · refine V_iinc (v5 + (1 : Int32)) [(0, .ref 13), (1, .ref 4), (2, .int v2), (3, .int v3), (4, .int v4), (5, .int (v5 + (1 : Int32))), (6, .ref (atR (zI σ 13 1) 8 v5 (zR σ 14 (ix v5))))] dX4_milesOfLegs_44 rfl rfl rfl rfl ?_
      refine V_goto 6 dX4_milesOfLegs_47 rfl ?_
      exact V_less (mm_keep (mm_keep (mm_keep (mm_keep (mm_keep (mm_keep (mm_drop mm_nil))))))) (by decide) (by decide) (k2 c1 c2)
    · refine V_iload dX4_milesOfLegs_25 rfl ?_
      refine V_aload_n dX4_milesOfLegs_27 rfl ?_
      refine V_aload dX4_milesOfLegs_28 rfl ?_
      refine V_getf (fk := 0) (Value.int (zI σ (atR (zI σ 13 1) 8 v5 (zR σ 14 (ix v5))) 0)) ko_X5 rfl w_124 dX4_milesOfLegs_30 c2 (o1 c1 c2) rfl ?_
      refine V_aload dX4_milesOfLegs_33 rfl ?_
      refine V_getf (fk := 1) (Value.int (zI σ (atR (zI σ 13 1) 8 v5 (zR σ 14 (ix v5))) 1)) ko_X5 rfl w_127 dX4_milesOfLegs_35 c2 (o1 c1 c2) rfl ?_
      refine V_callV1 (as := [.int (zI σ (atR (zI σ 13 1) 8 v5 (zR σ 14 (ix v5))) 0), .int (zI σ (atR (zI σ 13 1) 8 v5 (zR σ 14 (ix v5))) 1)]) (k' := 0) (n' := 0) (s_X6_get hS (o2 c1 c2)) mw_X6_get ko_X6 rfl w_347 w_348 w_647 ar_X6_get rfl ⟨rfl, rfl, rfl, rfl, rfl⟩ dX4_milesOfLegs_38 (by decide) (shk hS 4 rfl) ?_
      refine V_iadd dX4_milesOfLegs_41 ?_
      refine V_istore [(0, .ref 13), (1, .ref 4), (2, .int v2), (3, .int v3), (4, .int (v4 + (prG σ 4 (zI σ (atR (zI σ 13 1) 8 v5 (zR σ 14 (ix v5))) 0) (zI σ (atR (zI σ 13 1) 8 v5 (zR σ 14 (ix v5))) 1)))), (5, .int v5), (6, .ref (atR (zI σ 13 1) 8 v5 (zR σ 14 (ix v5))))] dX4_milesOfLegs_42 rfl rfl ?_
      refine V_iinc (v5 + (1 : Int32)) [(0, .ref 13), (1, .ref 4), (2, .int v2), (3, .int v3), (4, .int (v4 + (prG σ 4 (zI σ (atR (zI σ 13 1) 8 v5 (zR σ 14 (ix v5))) 0) (zI σ (atR (zI σ 13 1) 8 v5 (zR σ 14 (ix v5))) 1)))), (5, .int (v5 + (1 : Int32))), (6, .ref (atR (zI σ 13 1) 8 v5 (zR σ 14 (ix v5))))] dX4_milesOfLegs_44 rfl rfl rfl rfl ?_
      refine V_goto 6 dX4_milesOfLegs_47 rfl ?_
      exact V_less (mm_keep (mm_keep (mm_keep (mm_keep (mm_keep (mm_keep (mm_drop mm_nil))))))) (by decide) (by decide) (k3 c1 c2)

set_option maxRecDepth 100000 in
set_option maxHeartbeats 4000000 in
theorem b_X4_highestBetween_0 {g : GP} {CX : State → Array Value → Prop} {E : ET} {v2 : Int32} {v3 : Int32} {σ : AH}
    (k1 : V g mX4_highestBetween E CX 0 0 8 [(0, .ref 13), (1, .ref 3), (2, .int v2), (3, .int v3), (4, .int (-1 : Int32)), (5, .int (v2 + (1 : Int32)))] [] σ) :
    V g mX4_highestBetween E CX 0 0 0 [(0, .ref 13), (1, .ref 3), (2, .int v2), (3, .int v3)] [] σ := by
  refine V_iconst (-1 : Int32) dX4_highestBetween_0 (by decide) ?_
  refine V_istore [(0, .ref 13), (1, .ref 3), (2, .int v2), (3, .int v3), (4, .int (-1 : Int32))] dX4_highestBetween_1 rfl rfl ?_
  refine V_iload_n dX4_highestBetween_3 rfl ?_
  refine V_iconst (1 : Int32) dX4_highestBetween_4 (by decide) ?_
  refine V_iadd dX4_highestBetween_5 ?_
  refine V_istore [(0, .ref 13), (1, .ref 3), (2, .int v2), (3, .int v3), (4, .int (-1 : Int32)), (5, .int (v2 + (1 : Int32)))] dX4_highestBetween_6 rfl rfl ?_
  exact k1
set_option maxRecDepth 100000 in
set_option maxHeartbeats 4000000 in
theorem b_X4_highestBetween_8 {g : GP} {CX : State → Array Value → Prop} {Q : AH → Option Value → Prop} {X : AH → String → Prop} {v2 : Int32} {v3 : Int32} {v4 : Int32} {v5 : Int32} {σ : AH}
    (hS : Sh σ)
    (k1 : (v3 ≤ v5) → Q σ (some (.int v4)))
    (o1 : (¬ v3 ≤ v5) → RJ σ)
    (o2 : (¬ v3 ≤ v5) → inJ σ v2)
    (o3 : (¬ v3 ≤ v5) → inJ σ v5)
    (o4 : (¬ v3 ≤ v5) → RT σ)
    (k2 : (¬ v3 ≤ v5) → V g mX4_highestBetween (Em g mX4_highestBetween Q X) CX 0 0 8 [(0, .ref 13), (1, .ref 3), (2, .int v2), (3, .int v3), (4, .int (if v4 < (lowA σ (plF σ (ix v2)) (plF σ (ix v5)) (0 : Int32)) then (lowA σ (plF σ (ix v2)) (plF σ (ix v5)) (0 : Int32)) else v4)), (5, .int (v5 + (1 : Int32)))] [] σ) :
    V g mX4_highestBetween (Em g mX4_highestBetween Q X) CX 0 0 8 [(0, .ref 13), (1, .ref 3), (2, .int v2), (3, .int v3), (4, .int v4), (5, .int v5)] [] σ := by
  refine V_iload dX4_highestBetween_8 rfl ?_
  refine V_iload_n dX4_highestBetween_10 rfl ?_
  refine V_icmp_ge 43 dX4_highestBetween_11 rfl (fun c1 => ?_) (fun c1 => ?_)
  · refine V_iload dX4_highestBetween_43 rfl ?_
    exact V_iret rfl dX4_highestBetween_45 (k1 c1)
  · refine V_iload dX4_highestBetween_14 rfl ?_
    refine V_aload_n dX4_highestBetween_16 rfl ?_
    refine V_aload_n dX4_highestBetween_17 rfl ?_
    refine V_iload_n dX4_highestBetween_18 rfl ?_
    refine V_callV1 (as := [.int v2]) (k' := 0) (n' := 0) (s_X4_placeAt hS (o1 c1) (o2 c1)) mw_X4_placeAt ko_X4 rfl w_620 w_621 w_619 ar_X4_placeAt rfl ⟨rfl, rfl, rfl, rfl, rfl⟩ dX4_highestBetween_19 (by decide) (shk hS 13 rfl) ?_
    refine V_aload_n dX4_highestBetween_22 rfl ?_
    refine V_iload dX4_highestBetween_23 rfl ?_
    refine V_callV1 (as := [.int v5]) (k' := 0) (n' := 0) (s_X4_placeAt hS (o1 c1) (o3 c1)) mw_X4_placeAt ko_X4 rfl w_620 w_621 w_619 ar_X4_placeAt rfl ⟨rfl, rfl, rfl, rfl, rfl⟩ dX4_highestBetween_25 (by decide) (shk hS 13 rfl) ?_
    refine V_iconst (0 : Int32) dX4_highestBetween_28 (by decide) ?_
    refine V_callV1 (as := [.int (plF σ (ix v2)), .int (plF σ (ix v5)), .int (0 : Int32)]) (k' := 0) (n' := 0) (s_X8_lowestFare hS (o4 c1)) mw_X8_lowestFare ko_X8 rfl w_624 w_625 w_623 ar_X8_lowestFare rfl ⟨rfl, rfl, rfl, rfl, rfl⟩ dX4_highestBetween_29 (by decide) (shk hS 3 rfl) ?_
    refine V_max w_657 w_658 w_36 w_659 dX4_highestBetween_32 rfl rfl ?_
    refine V_istore [(0, .ref 13), (1, .ref 3), (2, .int v2), (3, .int v3), (4, .int (if v4 < (lowA σ (plF σ (ix v2)) (plF σ (ix v5)) (0 : Int32)) then (lowA σ (plF σ (ix v2)) (plF σ (ix v5)) (0 : Int32)) else v4)), (5, .int v5)] dX4_highestBetween_35 rfl rfl ?_
    refine V_iinc (v5 + (1 : Int32)) [(0, .ref 13), (1, .ref 3), (2, .int v2), (3, .int v3), (4, .int (if v4 < (lowA σ (plF σ (ix v2)) (plF σ (ix v5)) (0 : Int32)) then (lowA σ (plF σ (ix v2)) (plF σ (ix v5)) (0 : Int32)) else v4)), (5, .int (v5 + (1 : Int32)))] dX4_highestBetween_37 rfl rfl rfl rfl ?_
    refine V_goto 8 dX4_highestBetween_40 rfl ?_
    exact (k2 c1)

theorem s_X4_stopsBetween {g : GP} {σ : AH} {x y : Int32} (hS : Sh σ) (hJ : RJ σ) (hx : inJ σ x) (hy : inJ σ y) : Ct g mX4_stopsBetween [.ref 13, .int x, .int y] σ (FQ σ (some (.int (stN σ (ix x) (ix y - (ix x + 1)))))) := by
  obtain ⟨i, L, rfl, e, hi, hL1, hL8⟩ := hx
  obtain ⟨k, L', rfl, e', hk, -, hL9⟩ := hy
  have eL : L = L' := (nI_eq (by omega) (by omega)).mp (e.symm.trans e')
  subst eL
  rw [ix, ix, cl0 (by omega), cl0 (by omega)]
  refine Ct_of (by decide +kernel) rfl rfl (b_X4_stopsBetween_0 ?_)
  rw [nI_1]
  refine up_loop (P := fun d => V g mX4_stopsBetween (Em g mX4_stopsBetween (FQ σ (some (.int (stN σ i (k - (i + 1)))))) NX) CT 0 0 7 [(0, .ref 13), (1, .int (nI i)), (2, .int (nI k)), (3, .int (stN σ i d)), (4, .int (nI (i + 1 + d)))] [] σ) (k - (i + 1)) ?_ ?_ 0 (Nat.zero_le _)
  · have hle : nI k ≤ nI (i + 1 + (k - (i + 1))) := nI_le (by omega) (by omega)
    exact b_X4_stopsBetween_7 hS (fun _ => fq) (fun c => absurd hle c) (fun c => absurd hle c) (fun c => absurd hle c) (fun c => absurd hle c)
  · intro d hd ih
    have hlt : ¬ nI k ≤ nI (i + 1 + d) := nI_ge (by omega) (by omega)
    have hc : (nI (i + 1 + d)).toNatClampNeg = i + 1 + d := cl0 (by omega)
    rw [show i + 1 + (d + 1) = i + 1 + d + 1 from rfl] at ih
    refine b_X4_stopsBetween_7 hS (fun c => absurd c hlt) (fun _ => hJ) (fun _ => ⟨i + 1 + d, L, rfl, e, by omega, by omega, hL8⟩) ?_ ?_
    all_goals
      intro _ c
      simp only [ix, hc, show i + 1 + d - 1 = i + d by omega] at *
      refine V_cast ?_ rfl rfl ih
      rw [nI_1]
      simp [stN, jb, c]
theorem vp_isPl {x : Int32} (h : vp_in x 10) : isPl x := by
  obtain ⟨j, hj, rfl⟩ := vp_in_of h (by decide)
  exact ⟨nI_nneg (by omega), nI_ge (b := 10) (by omega) (by decide)⟩
theorem s_X4_milesOfLegs {g : GP} {σ : AH} {x y : Int32} (hS : Sh σ) (hT : RT σ) (hJ : RJ σ) (hx : inJ σ x) (hy : inJ σ y) : Ct g mX4_milesOfLegs [.ref 13, .ref 4, .int x, .int y] σ (FQ σ (some (.int (mlN σ (ix x) (ix y - ix x))))) := by
  obtain ⟨i, L, rfl, e, hi, hL1, hL8⟩ := hx
  obtain ⟨k, L', rfl, e', hk, -, hL9⟩ := hy
  have eL : L = L' := (nI_eq (by omega) (by omega)).mp (e.symm.trans e')
  subst eL
  rw [ix, ix, cl0 (by omega), cl0 (by omega)]
  refine Ct_of (by decide +kernel) rfl rfl (b_X4_milesOfLegs_0 ?_)
  refine up_loop (P := fun d => V g mX4_milesOfLegs (Em g mX4_milesOfLegs (FQ σ (some (.int (mlN σ i (k - i))))) NX) CT 0 0 6 [(0, .ref 13), (1, .ref 4), (2, .int (nI i)), (3, .int (nI k)), (4, .int (mlN σ i d)), (5, .int (nI (i + d)))] [] σ) (k - i) ?_ ?_ 0 (Nat.zero_le _)
  · have hle : nI k ≤ nI (i + (k - i)) := nI_le (by omega) (by omega)
    exact b_X4_milesOfLegs_6 hS (fun _ => fq) (fun c => absurd hle c) (fun c => absurd hle c) (fun c => absurd hle c) (fun c => absurd hle c)
  · intro d hd ih
    have hlt : ¬ nI k ≤ nI (i + d) := nI_ge (by omega) (by omega)
    have la := leg_at hS hJ (k := i + d) (by rw [e]; exact nI_lt (by omega) (by omega)) (by omega)
    have ra := RJ_leg hJ (k := i + d) (by omega)
    obtain ⟨p1, p2⟩ := (R_PO hT hJ).2.1 (i + d) (by omega)
    have hmi := (R_mi hT _ _ (vp_isPl p1) (vp_isPl p2)).1
    refine b_X4_milesOfLegs_6 hS (fun c => absurd c hlt) (fun _ c => absurd (la.1.symm.trans c) la.2.1) (fun _ _ => by rw [la.1]; exact la.2.2) (fun _ _ => Or.inl rfl) (fun _ _ => ?_)
    rw [la.1, ra.1, ra.2.1, hmi, nI_1]
    exact ih
/-- the greatest of the lowest fares to the points behind i, as many as d -/
def hgN (σ : AH) (i : Nat) : Nat → Int32
  | 0 => -1
  | d + 1 => if hgN σ i d < lowA σ (plF σ i) (plF σ (i + 1 + d)) 0 then lowA σ (plF σ i) (plF σ (i + 1 + d)) 0 else hgN σ i d
theorem s_X4_highestBetween {g : GP} {σ : AH} {x y : Int32} (hS : Sh σ) (hT : RT σ) (hJ : RJ σ) (hx : inJ σ x) (hy : inJ σ y) : Ct g mX4_highestBetween [.ref 13, .ref 3, .int x, .int y] σ (FQ σ (some (.int (hgN σ (ix x) (ix y - (ix x + 1)))))) := by
  have hx' := hx
  obtain ⟨i, L, rfl, e, hi, hL1, hL8⟩ := hx
  obtain ⟨k, L', rfl, e', hk, -, hL9⟩ := hy
  have eL : L = L' := (nI_eq (by omega) (by omega)).mp (e.symm.trans e')
  subst eL
  have ci : (nI i).toNatClampNeg = i := cl0 (by omega)
  rw [ix, ix, ci, cl0 (by omega)]
  refine Ct_of (by decide +kernel) rfl rfl (b_X4_highestBetween_0 ?_)
  rw [nI_1]
  refine up_loop (P := fun d => V g mX4_highestBetween (Em g mX4_highestBetween (FQ σ (some (.int (hgN σ i (k - (i + 1)))))) NX) CT 0 0 8 [(0, .ref 13), (1, .ref 3), (2, .int (nI i)), (3, .int (nI k)), (4, .int (hgN σ i d)), (5, .int (nI (i + 1 + d)))] [] σ) (k - (i + 1)) ?_ ?_ 0 (Nat.zero_le _)
  · have hle : nI k ≤ nI (i + 1 + (k - (i + 1))) := nI_le (by omega) (by omega)
    exact b_X4_highestBetween_8 hS (fun _ => fq) (fun c => absurd hle c) (fun c => absurd hle c) (fun c => absurd hle c) (fun c => absurd hle c) (fun c => absurd hle c)
  · intro d hd ih
    have hlt : ¬ nI k ≤ nI (i + 1 + d) := nI_ge (by omega) (by omega)
    have hc : (nI (i + 1 + d)).toNatClampNeg = i + 1 + d := cl0 (by omega)
    rw [show i + 1 + (d + 1) = i + 1 + d + 1 from rfl, ← nI_1] at ih
    refine b_X4_highestBetween_8 hS (fun c => absurd c hlt) (fun _ => hJ) (fun _ => hx') (fun _ => ⟨i + 1 + d, L, rfl, e, by omega, hL1, hL8⟩) (fun _ => hT) (fun _ => ?_)
    simp only [ix, ci, hc]
    exact ih
