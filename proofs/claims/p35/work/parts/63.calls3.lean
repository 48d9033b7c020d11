/-! ===== calls: rows that are asked for ===== -/
set_option maxRecDepth 100000 in
set_option maxHeartbeats 4000000 in
theorem b_X11_ofTicket_0 {g : GP} {CX : State → Array Value → Prop} {Q : AH → Option Value → Prop} {X : AH → String → Prop} {v1 : Int32} {v2 : Int32} {σ : AH}
    (hS : Sh σ)
    (o1 : (¬ atR (zI σ 2 8) 30 v1 (zR σ 30 (ix v1)) = 0) → (v2 = (0 : Int32)) → zK σ (atR (zI σ 2 8) 30 v1 (zR σ 30 (ix v1))) = 9)
    (k1 : (¬ atR (zI σ 2 8) 30 v1 (zR σ 30 (ix v1)) = 0) → (v2 = (0 : Int32)) → Q σ (some (.int (zI σ (atR (zI σ 2 8) 30 v1 (zR σ 30 (ix v1))) 1))))
    (o2 : (¬ atR (zI σ 2 8) 30 v1 (zR σ 30 (ix v1)) = 0) → (¬ v2 = (0 : Int32)) → (v2 = (1 : Int32)) → zK σ (atR (zI σ 2 8) 30 v1 (zR σ 30 (ix v1))) = 9)
    (k2 : (¬ atR (zI σ 2 8) 30 v1 (zR σ 30 (ix v1)) = 0) → (¬ v2 = (0 : Int32)) → (v2 = (1 : Int32)) → Q σ (some (.int (zI σ (atR (zI σ 2 8) 30 v1 (zR σ 30 (ix v1))) 5))))
    (o3 : (¬ atR (zI σ 2 8) 30 v1 (zR σ 30 (ix v1)) = 0) → (¬ v2 = (0 : Int32)) → (¬ v2 = (1 : Int32)) → (v2 = (2 : Int32)) → zK σ (atR (zI σ 2 8) 30 v1 (zR σ 30 (ix v1))) = 9)
    (k3 : (¬ atR (zI σ 2 8) 30 v1 (zR σ 30 (ix v1)) = 0) → (¬ v2 = (0 : Int32)) → (¬ v2 = (1 : Int32)) → (v2 = (2 : Int32)) → Q σ (some (.int (zI σ (atR (zI σ 2 8) 30 v1 (zR σ 30 (ix v1))) 0))))
    (o4 : (¬ atR (zI σ 2 8) 30 v1 (zR σ 30 (ix v1)) = 0) → (¬ v2 = (0 : Int32)) → (¬ v2 = (1 : Int32)) → (¬ v2 = (2 : Int32)) → (v2 = (3 : Int32)) → zK σ (atR (zI σ 2 8) 30 v1 (zR σ 30 (ix v1))) = 9)
    (k4 : (¬ atR (zI σ 2 8) 30 v1 (zR σ 30 (ix v1)) = 0) → (¬ v2 = (0 : Int32)) → (¬ v2 = (1 : Int32)) → (¬ v2 = (2 : Int32)) → (v2 = (3 : Int32)) → Q σ (some (.int (zI σ (atR (zI σ 2 8) 30 v1 (zR σ 30 (ix v1))) 4))))
    (o5 : (¬ atR (zI σ 2 8) 30 v1 (zR σ 30 (ix v1)) = 0) → (¬ v2 = (0 : Int32)) → (¬ v2 = (1 : Int32)) → (¬ v2 = (2 : Int32)) → (¬ v2 = (3 : Int32)) → (v2 = (4 : Int32)) → zK σ (atR (zI σ 2 8) 30 v1 (zR σ 30 (ix v1))) = 9)
    (k5 : (¬ atR (zI σ 2 8) 30 v1 (zR σ 30 (ix v1)) = 0) → (¬ v2 = (0 : Int32)) → (¬ v2 = (1 : Int32)) → (¬ v2 = (2 : Int32)) → (¬ v2 = (3 : Int32)) → (v2 = (4 : Int32)) → Q σ (some (.int (zI σ (atR (zI σ 2 8) 30 v1 (zR σ 30 (ix v1))) 2))))
    (o6 : (¬ atR (zI σ 2 8) 30 v1 (zR σ 30 (ix v1)) = 0) → (¬ v2 = (0 : Int32)) → (¬ v2 = (1 : Int32)) → (¬ v2 = (2 : Int32)) → (¬ v2 = (3 : Int32)) → (¬ v2 = (4 : Int32)) → (v2 = (5 : Int32)) → zK σ (atR (zI σ 2 8) 30 v1 (zR σ 30 (ix v1))) = 9)
    (k6 : (¬ atR (zI σ 2 8) 30 v1 (zR σ 30 (ix v1)) = 0) → (¬ v2 = (0 : Int32)) → (¬ v2 = (1 : Int32)) → (¬ v2 = (2 : Int32)) → (¬ v2 = (3 : Int32)) → (¬ v2 = (4 : Int32)) → (v2 = (5 : Int32)) → Q σ (some (.int (zI σ (atR (zI σ 2 8) 30 v1 (zR σ 30 (ix v1))) 6))))
    (k7 : (¬ atR (zI σ 2 8) 30 v1 (zR σ 30 (ix v1)) = 0) → (¬ v2 = (0 : Int32)) → (¬ v2 = (1 : Int32)) → (¬ v2 = (2 : Int32)) → (¬ v2 = (3 : Int32)) → (¬ v2 = (4 : Int32)) → (¬ v2 = (5 : Int32)) → X σ "java/lang/IllegalArgumentException")
    (k8 : (atR (zI σ 2 8) 30 v1 (zR σ 30 (ix v1)) = 0) → X σ "java/lang/IndexOutOfBoundsException") :
    V g mX11_ofTicket (Em g mX11_ofTicket Q X) CX 1 6 0 [(0, .ref 2), (1, .int v1), (2, .int v2)] [] σ := by
  refine V_aload_n dX11_ofTicket_0 rfl ?_
  refine V_iload_n dX11_ofTicket_1 rfl ?_
  refine V_callV1 (as := [.int v1]) (k' := 1) (n' := 6) (s_X11_ticketAt hS) mw_X11_ticketAt ko_X11 rfl w_404 w_1 w_402 ar_X11_ticketAt rfl ⟨rfl, rfl, rfl, rfl, rfl⟩ dX11_ofTicket_2 (by decide) (shk hS 2 rfl) ?_
  refine V_astore_n [(0, .ref 2), (1, .int v1), (2, .int v2), (3, .ref (atR (zI σ 2 8) 30 v1 (zR σ 30 (ix v1))))] dX11_ofTicket_5 rfl rfl ?_
  refine V_aload_n dX11_ofTicket_6 rfl ?_
  refine V_ifnonnull 21 dX11_ofTicket_7 rfl (fun c1 => ?_) (fun c1 => ?_)
  · refine V_iload_n dX11_ofTicket_21 rfl ?_
    by_cases c2 : v2 = (0 : Int32)
    · refine V_tableIn (off := 38) 60 dX11_ofTicket_22 (by rw [c2]; decide) (by rw [c2]; decide) (by rw [c2]; rfl) rfl ?_
      refine V_aload_n dX11_ofTicket_60 rfl ?_
      refine V_getf (fk := 1) (Value.int (zI σ (atR (zI σ 2 8) 30 v1 (zR σ 30 (ix v1))) 1)) ko_X9 rfl w_731 dX11_ofTicket_61 c1 (o1 c1 c2) rfl ?_
      exact V_iret rfl dX11_ofTicket_64 (k1 c1 c2)
    by_cases c3 : v2 = (1 : Int32)
    · refine V_tableIn (off := 43) 65 dX11_ofTicket_22 (by rw [c3]; decide) (by rw [c3]; decide) (by rw [c3]; rfl) rfl ?_
      refine V_aload_n dX11_ofTicket_65 rfl ?_
      refine V_getf (fk := 5) (Value.int (zI σ (atR (zI σ 2 8) 30 v1 (zR σ 30 (ix v1))) 5)) ko_X9 rfl w_738 dX11_ofTicket_66 c1 (o2 c1 c2 c3) rfl ?_
      exact V_iret rfl dX11_ofTicket_69 (k2 c1 c2 c3)
    by_cases c4 : v2 = (2 : Int32)
    · refine V_tableIn (off := 48) 70 dX11_ofTicket_22 (by rw [c4]; decide) (by rw [c4]; decide) (by rw [c4]; rfl) rfl ?_
      refine V_aload_n dX11_ofTicket_70 rfl ?_
      refine V_getf (fk := 0) (Value.int (zI σ (atR (zI σ 2 8) 30 v1 (zR σ 30 (ix v1))) 0)) ko_X9 rfl w_729 dX11_ofTicket_71 c1 (o3 c1 c2 c3 c4) rfl ?_
      exact V_iret rfl dX11_ofTicket_74 (k3 c1 c2 c3 c4)
    by_cases c5 : v2 = (3 : Int32)
    · refine V_tableIn (off := 53) 75 dX11_ofTicket_22 (by rw [c5]; decide) (by rw [c5]; decide) (by rw [c5]; rfl) rfl ?_
      refine V_aload_n dX11_ofTicket_75 rfl ?_
      refine V_getf (fk := 4) (Value.int (zI σ (atR (zI σ 2 8) 30 v1 (zR σ 30 (ix v1))) 4)) ko_X9 rfl w_736 dX11_ofTicket_76 c1 (o4 c1 c2 c3 c4 c5) rfl ?_
      exact V_iret rfl dX11_ofTicket_79 (k4 c1 c2 c3 c4 c5)
    by_cases c6 : v2 = (4 : Int32)
    · refine V_tableIn (off := 58) 80 dX11_ofTicket_22 (by rw [c6]; decide) (by rw [c6]; decide) (by rw [c6]; rfl) rfl ?_
      refine V_aload_n dX11_ofTicket_80 rfl ?_
      refine V_getf (fk := 2) (Value.int (zI σ (atR (zI σ 2 8) 30 v1 (zR σ 30 (ix v1))) 2)) ko_X9 rfl w_733 dX11_ofTicket_81 c1 (o5 c1 c2 c3 c4 c5 c6) rfl ?_
      exact V_iret rfl dX11_ofTicket_84 (k5 c1 c2 c3 c4 c5 c6)
    by_cases c7 : v2 = (5 : Int32)
    · refine V_tableIn (off := 63) 85 dX11_ofTicket_22 (by rw [c7]; decide) (by rw [c7]; decide) (by rw [c7]; rfl) rfl ?_
      refine V_aload_n dX11_ofTicket_85 rfl ?_
      refine V_getf (fk := 6) (Value.int (zI σ (atR (zI σ 2 8) 30 v1 (zR σ 30 (ix v1))) 6)) ko_X9 rfl w_739 dX11_ofTicket_86 c1 (o6 c1 c2 c3 c4 c5 c6 c7) rfl ?_
      exact V_iret rfl dX11_ofTicket_89 (k6 c1 c2 c3 c4 c5 c6 c7)
    refine V_tableOut 90 dX11_ofTicket_22 (ts_0_5 c2 c3 c4 c5 c6 c7) rfl ?_
    exact V_throwW (k := 1) (n := 6) tw_X11_72 ws_382 dX11_ofTicket_90 dX11_ofTicket_93 dX11_ofTicket_94 dX11_ofTicket_97 dX11_ofTicket_100 rfl rfl rfl rfl rfl (k7 c1 c2 c3 c4 c5 c6 c7)
  · exact V_throwW (k := 1) (n := 6) tw_X11_61 ws_428 dX11_ofTicket_10 dX11_ofTicket_13 dX11_ofTicket_14 dX11_ofTicket_17 dX11_ofTicket_20 rfl rfl rfl rfl rfl (k8 c1)

set_option maxRecDepth 100000 in
set_option maxHeartbeats 4000000 in
theorem b_X11_ofCoupon_0 {g : GP} {CX : State → Array Value → Prop} {Q : AH → Option Value → Prop} {X : AH → String → Prop} {v1 : Int32} {v2 : Int32} {v3 : Int32} {σ : AH}
    (hS : Sh σ)
    (o1 : (¬ atR (zI σ 2 8) 30 v1 (zR σ 30 (ix v1)) = 0) → TX σ (atR (zI σ 2 8) 30 v1 (zR σ 30 (ix v1))))
    (o2 : (¬ atR (zI σ 2 8) 30 v1 (zR σ 30 (ix v1)) = 0) → zK σ (atR (zI σ 2 8) 30 v1 (zR σ 30 (ix v1))) = 9)
    (o3 : (¬ atR (zI σ 2 8) 30 v1 (zR σ 30 (ix v1)) = 0) → (¬ atR (zI σ (atR (zI σ 2 8) 30 v1 (zR σ 30 (ix v1))) 4) 8 v2 (cA σ (atR (zI σ 2 8) 30 v1 (zR σ 30 (ix v1))) (ix v2)) = 0) → (v3 = (0 : Int32)) → zK σ (atR (zI σ (atR (zI σ 2 8) 30 v1 (zR σ 30 (ix v1))) 4) 8 v2 (cA σ (atR (zI σ 2 8) 30 v1 (zR σ 30 (ix v1))) (ix v2))) = 2)
    (k1 : (¬ atR (zI σ 2 8) 30 v1 (zR σ 30 (ix v1)) = 0) → (¬ atR (zI σ (atR (zI σ 2 8) 30 v1 (zR σ 30 (ix v1))) 4) 8 v2 (cA σ (atR (zI σ 2 8) 30 v1 (zR σ 30 (ix v1))) (ix v2)) = 0) → (v3 = (0 : Int32)) → Q σ (some (.int (zI σ (atR (zI σ (atR (zI σ 2 8) 30 v1 (zR σ 30 (ix v1))) 4) 8 v2 (cA σ (atR (zI σ 2 8) 30 v1 (zR σ 30 (ix v1))) (ix v2))) 7))))
    (o4 : (¬ atR (zI σ 2 8) 30 v1 (zR σ 30 (ix v1)) = 0) → (¬ atR (zI σ (atR (zI σ 2 8) 30 v1 (zR σ 30 (ix v1))) 4) 8 v2 (cA σ (atR (zI σ 2 8) 30 v1 (zR σ 30 (ix v1))) (ix v2)) = 0) → (¬ v3 = (0 : Int32)) → (v3 = (1 : Int32)) → zK σ (atR (zI σ (atR (zI σ 2 8) 30 v1 (zR σ 30 (ix v1))) 4) 8 v2 (cA σ (atR (zI σ 2 8) 30 v1 (zR σ 30 (ix v1))) (ix v2))) = 2)
    (k2 : (¬ atR (zI σ 2 8) 30 v1 (zR σ 30 (ix v1)) = 0) → (¬ atR (zI σ (atR (zI σ 2 8) 30 v1 (zR σ 30 (ix v1))) 4) 8 v2 (cA σ (atR (zI σ 2 8) 30 v1 (zR σ 30 (ix v1))) (ix v2)) = 0) → (¬ v3 = (0 : Int32)) → (v3 = (1 : Int32)) → Q σ (some (.int (zI σ (atR (zI σ (atR (zI σ 2 8) 30 v1 (zR σ 30 (ix v1))) 4) 8 v2 (cA σ (atR (zI σ 2 8) 30 v1 (zR σ 30 (ix v1))) (ix v2))) 6))))
    (o5 : (¬ atR (zI σ 2 8) 30 v1 (zR σ 30 (ix v1)) = 0) → (¬ atR (zI σ (atR (zI σ 2 8) 30 v1 (zR σ 30 (ix v1))) 4) 8 v2 (cA σ (atR (zI σ 2 8) 30 v1 (zR σ 30 (ix v1))) (ix v2)) = 0) → (¬ v3 = (0 : Int32)) → (¬ v3 = (1 : Int32)) → (v3 = (2 : Int32)) → zK σ (atR (zI σ (atR (zI σ 2 8) 30 v1 (zR σ 30 (ix v1))) 4) 8 v2 (cA σ (atR (zI σ 2 8) 30 v1 (zR σ 30 (ix v1))) (ix v2))) = 2)
    (k3 : (¬ atR (zI σ 2 8) 30 v1 (zR σ 30 (ix v1)) = 0) → (¬ atR (zI σ (atR (zI σ 2 8) 30 v1 (zR σ 30 (ix v1))) 4) 8 v2 (cA σ (atR (zI σ 2 8) 30 v1 (zR σ 30 (ix v1))) (ix v2)) = 0) → (¬ v3 = (0 : Int32)) → (¬ v3 = (1 : Int32)) → (v3 = (2 : Int32)) → Q σ (some (.int (zI σ (atR (zI σ (atR (zI σ 2 8) 30 v1 (zR σ 30 (ix v1))) 4) 8 v2 (cA σ (atR (zI σ 2 8) 30 v1 (zR σ 30 (ix v1))) (ix v2))) 3))))
    (o6 : (¬ atR (zI σ 2 8) 30 v1 (zR σ 30 (ix v1)) = 0) → (¬ atR (zI σ (atR (zI σ 2 8) 30 v1 (zR σ 30 (ix v1))) 4) 8 v2 (cA σ (atR (zI σ 2 8) 30 v1 (zR σ 30 (ix v1))) (ix v2)) = 0) → (¬ v3 = (0 : Int32)) → (¬ v3 = (1 : Int32)) → (¬ v3 = (2 : Int32)) → (v3 = (3 : Int32)) → zK σ (atR (zI σ (atR (zI σ 2 8) 30 v1 (zR σ 30 (ix v1))) 4) 8 v2 (cA σ (atR (zI σ 2 8) 30 v1 (zR σ 30 (ix v1))) (ix v2))) = 2)
    (k4 : (¬ atR (zI σ 2 8) 30 v1 (zR σ 30 (ix v1)) = 0) → (¬ atR (zI σ (atR (zI σ 2 8) 30 v1 (zR σ 30 (ix v1))) 4) 8 v2 (cA σ (atR (zI σ 2 8) 30 v1 (zR σ 30 (ix v1))) (ix v2)) = 0) → (¬ v3 = (0 : Int32)) → (¬ v3 = (1 : Int32)) → (¬ v3 = (2 : Int32)) → (v3 = (3 : Int32)) → Q σ (some (.int (zI σ (atR (zI σ (atR (zI σ 2 8) 30 v1 (zR σ 30 (ix v1))) 4) 8 v2 (cA σ (atR (zI σ 2 8) 30 v1 (zR σ 30 (ix v1))) (ix v2))) 4))))
    (o7 : (¬ atR (zI σ 2 8) 30 v1 (zR σ 30 (ix v1)) = 0) → (¬ atR (zI σ (atR (zI σ 2 8) 30 v1 (zR σ 30 (ix v1))) 4) 8 v2 (cA σ (atR (zI σ 2 8) 30 v1 (zR σ 30 (ix v1))) (ix v2)) = 0) → (¬ v3 = (0 : Int32)) → (¬ v3 = (1 : Int32)) → (¬ v3 = (2 : Int32)) → (¬ v3 = (3 : Int32)) → (v3 = (4 : Int32)) → zK σ (atR (zI σ (atR (zI σ 2 8) 30 v1 (zR σ 30 (ix v1))) 4) 8 v2 (cA σ (atR (zI σ 2 8) 30 v1 (zR σ 30 (ix v1))) (ix v2))) = 2)
    (k5 : (¬ atR (zI σ 2 8) 30 v1 (zR σ 30 (ix v1)) = 0) → (¬ atR (zI σ (atR (zI σ 2 8) 30 v1 (zR σ 30 (ix v1))) 4) 8 v2 (cA σ (atR (zI σ 2 8) 30 v1 (zR σ 30 (ix v1))) (ix v2)) = 0) → (¬ v3 = (0 : Int32)) → (¬ v3 = (1 : Int32)) → (¬ v3 = (2 : Int32)) → (¬ v3 = (3 : Int32)) → (v3 = (4 : Int32)) → Q σ (some (.int (zI σ (atR (zI σ (atR (zI σ 2 8) 30 v1 (zR σ 30 (ix v1))) 4) 8 v2 (cA σ (atR (zI σ 2 8) 30 v1 (zR σ 30 (ix v1))) (ix v2))) 2))))
    (o8 : (¬ atR (zI σ 2 8) 30 v1 (zR σ 30 (ix v1)) = 0) → (¬ atR (zI σ (atR (zI σ 2 8) 30 v1 (zR σ 30 (ix v1))) 4) 8 v2 (cA σ (atR (zI σ 2 8) 30 v1 (zR σ 30 (ix v1))) (ix v2)) = 0) → (¬ v3 = (0 : Int32)) → (¬ v3 = (1 : Int32)) → (¬ v3 = (2 : Int32)) → (¬ v3 = (3 : Int32)) → (¬ v3 = (4 : Int32)) → (v3 = (5 : Int32)) → zK σ (atR (zI σ (atR (zI σ 2 8) 30 v1 (zR σ 30 (ix v1))) 4) 8 v2 (cA σ (atR (zI σ 2 8) 30 v1 (zR σ 30 (ix v1))) (ix v2))) = 2)
    (k6 : (¬ atR (zI σ 2 8) 30 v1 (zR σ 30 (ix v1)) = 0) → (¬ atR (zI σ (atR (zI σ 2 8) 30 v1 (zR σ 30 (ix v1))) 4) 8 v2 (cA σ (atR (zI σ 2 8) 30 v1 (zR σ 30 (ix v1))) (ix v2)) = 0) → (¬ v3 = (0 : Int32)) → (¬ v3 = (1 : Int32)) → (¬ v3 = (2 : Int32)) → (¬ v3 = (3 : Int32)) → (¬ v3 = (4 : Int32)) → (v3 = (5 : Int32)) → Q σ (some (.int (zI σ (atR (zI σ (atR (zI σ 2 8) 30 v1 (zR σ 30 (ix v1))) 4) 8 v2 (cA σ (atR (zI σ 2 8) 30 v1 (zR σ 30 (ix v1))) (ix v2))) 8))))
    (k7 : (¬ atR (zI σ 2 8) 30 v1 (zR σ 30 (ix v1)) = 0) → (¬ atR (zI σ (atR (zI σ 2 8) 30 v1 (zR σ 30 (ix v1))) 4) 8 v2 (cA σ (atR (zI σ 2 8) 30 v1 (zR σ 30 (ix v1))) (ix v2)) = 0) → (¬ v3 = (0 : Int32)) → (¬ v3 = (1 : Int32)) → (¬ v3 = (2 : Int32)) → (¬ v3 = (3 : Int32)) → (¬ v3 = (4 : Int32)) → (¬ v3 = (5 : Int32)) → X σ "java/lang/IllegalArgumentException")
    (k8 : (¬ atR (zI σ 2 8) 30 v1 (zR σ 30 (ix v1)) = 0) → (atR (zI σ (atR (zI σ 2 8) 30 v1 (zR σ 30 (ix v1))) 4) 8 v2 (cA σ (atR (zI σ 2 8) 30 v1 (zR σ 30 (ix v1))) (ix v2)) = 0) → X σ "java/lang/IndexOutOfBoundsException")
    (k9 : (atR (zI σ 2 8) 30 v1 (zR σ 30 (ix v1)) = 0) → X σ "java/lang/IndexOutOfBoundsException") :
    V g mX11_ofCoupon (Em g mX11_ofCoupon Q X) CX 1 6 0 [(0, .ref 2), (1, .int v1), (2, .int v2), (3, .int v3)] [] σ := by
  refine V_aload_n dX11_ofCoupon_0 rfl ?_
  refine V_iload_n dX11_ofCoupon_1 rfl ?_
  refine V_callV1 (as := [.int v1]) (k' := 1) (n' := 6) (s_X11_ticketAt hS) mw_X11_ticketAt ko_X11 rfl w_404 w_1 w_402 ar_X11_ticketAt rfl ⟨rfl, rfl, rfl, rfl, rfl⟩ dX11_ofCoupon_2 (by decide) (shk hS 2 rfl) ?_
  refine V_astore [(0, .ref 2), (1, .int v1), (2, .int v2), (3, .int v3), (4, .ref (atR (zI σ 2 8) 30 v1 (zR σ 30 (ix v1))))] dX11_ofCoupon_5 rfl rfl ?_
  refine V_aload dX11_ofCoupon_7 rfl ?_
  refine V_ifnonnull 16 dX11_ofCoupon_9 rfl (fun c1 => ?_) (fun c1 => ?_)
  · refine V_aload dX11_ofCoupon_16 rfl ?_
    refine V_iload_n dX11_ofCoupon_18 rfl ?_
    refine V_callV1 (as := [.int v2]) (k' := 1) (n' := 6) (s_X9_couponAt (o1 c1)) mw_X9_couponAt ko_X9 rfl w_411 w_412 w_436 ar_X9_couponAt rfl ⟨rfl, rfl, rfl, rfl, rfl⟩ dX11_ofCoupon_19 c1 (o2 c1) ?_
    refine V_astore [(0, .ref 2), (1, .int v1), (2, .int v2), (3, .int v3), (4, .ref (atR (zI σ 2 8) 30 v1 (zR σ 30 (ix v1)))), (5, .ref (atR (zI σ (atR (zI σ 2 8) 30 v1 (zR σ 30 (ix v1))) 4) 8 v2 (cA σ (atR (zI σ 2 8) 30 v1 (zR σ 30 (ix v1))) (ix v2))))] dX11_ofCoupon_22 rfl rfl ?_
    refine V_aload dX11_ofCoupon_24 rfl ?_
    refine V_ifnonnull 39 dX11_ofCoupon_26 rfl (fun c2 => ?_) (fun c2 => ?_)
    · refine V_iload_n dX11_ofCoupon_39 rfl ?_
      by_cases c3 : v3 = (0 : Int32)
      · refine V_tableIn (off := 40) 80 dX11_ofCoupon_40 (by rw [c3]; decide) (by rw [c3]; decide) (by rw [c3]; rfl) rfl ?_
        refine V_aload dX11_ofCoupon_80 rfl ?_
        refine V_getf (fk := 7) (Value.int (zI σ (atR (zI σ (atR (zI σ 2 8) 30 v1 (zR σ 30 (ix v1))) 4) 8 v2 (cA σ (atR (zI σ 2 8) 30 v1 (zR σ 30 (ix v1))) (ix v2))) 7)) ko_X2 rfl w_789 dX11_ofCoupon_82 c2 (o3 c1 c2 c3) rfl ?_
        exact V_iret rfl dX11_ofCoupon_85 (k1 c1 c2 c3)
      by_cases c4 : v3 = (1 : Int32)
      · refine V_tableIn (off := 46) 86 dX11_ofCoupon_40 (by rw [c4]; decide) (by rw [c4]; decide) (by rw [c4]; rfl) rfl ?_
        refine V_aload dX11_ofCoupon_86 rfl ?_
        refine V_getf (fk := 6) (Value.int (zI σ (atR (zI σ (atR (zI σ 2 8) 30 v1 (zR σ 30 (ix v1))) 4) 8 v2 (cA σ (atR (zI σ 2 8) 30 v1 (zR σ 30 (ix v1))) (ix v2))) 6)) ko_X2 rfl w_786 dX11_ofCoupon_88 c2 (o4 c1 c2 c3 c4) rfl ?_
        exact V_iret rfl dX11_ofCoupon_91 (k2 c1 c2 c3 c4)
      by_cases c5 : v3 = (2 : Int32)
      · refine V_tableIn (off := 52) 92 dX11_ofCoupon_40 (by rw [c5]; decide) (by rw [c5]; decide) (by rw [c5]; rfl) rfl ?_
        refine V_aload dX11_ofCoupon_92 rfl ?_
        refine V_getf (fk := 3) (Value.int (zI σ (atR (zI σ (atR (zI σ 2 8) 30 v1 (zR σ 30 (ix v1))) 4) 8 v2 (cA σ (atR (zI σ 2 8) 30 v1 (zR σ 30 (ix v1))) (ix v2))) 3)) ko_X2 rfl w_779 dX11_ofCoupon_94 c2 (o5 c1 c2 c3 c4 c5) rfl ?_
        exact V_iret rfl dX11_ofCoupon_97 (k3 c1 c2 c3 c4 c5)
      by_cases c6 : v3 = (3 : Int32)
      · refine V_tableIn (off := 58) 98 dX11_ofCoupon_40 (by rw [c6]; decide) (by rw [c6]; decide) (by rw [c6]; rfl) rfl ?_
        refine V_aload dX11_ofCoupon_98 rfl ?_
        refine V_getf (fk := 4) (Value.int (zI σ (atR (zI σ (atR (zI σ 2 8) 30 v1 (zR σ 30 (ix v1))) 4) 8 v2 (cA σ (atR (zI σ 2 8) 30 v1 (zR σ 30 (ix v1))) (ix v2))) 4)) ko_X2 rfl w_782 dX11_ofCoupon_100 c2 (o6 c1 c2 c3 c4 c5 c6) rfl ?_
        exact V_iret rfl dX11_ofCoupon_103 (k4 c1 c2 c3 c4 c5 c6)
      by_cases c7 : v3 = (4 : Int32)
      · refine V_tableIn (off := 64) 104 dX11_ofCoupon_40 (by rw [c7]; decide) (by rw [c7]; decide) (by rw [c7]; rfl) rfl ?_
        refine V_aload dX11_ofCoupon_104 rfl ?_
        refine V_getf (fk := 2) (Value.int (zI σ (atR (zI σ (atR (zI σ 2 8) 30 v1 (zR σ 30 (ix v1))) 4) 8 v2 (cA σ (atR (zI σ 2 8) 30 v1 (zR σ 30 (ix v1))) (ix v2))) 2)) ko_X2 rfl w_776 dX11_ofCoupon_106 c2 (o7 c1 c2 c3 c4 c5 c6 c7) rfl ?_
        exact V_iret rfl dX11_ofCoupon_109 (k5 c1 c2 c3 c4 c5 c6 c7)
      by_cases c8 : v3 = (5 : Int32)
      · refine V_tableIn (off := 70) 110 dX11_ofCoupon_40 (by rw [c8]; decide) (by rw [c8]; decide) (by rw [c8]; rfl) rfl ?_
        refine V_aload dX11_ofCoupon_110 rfl ?_
        refine V_getf (fk := 8) (Value.int (zI σ (atR (zI σ (atR (zI σ 2 8) 30 v1 (zR σ 30 (ix v1))) 4) 8 v2 (cA σ (atR (zI σ 2 8) 30 v1 (zR σ 30 (ix v1))) (ix v2))) 8)) ko_X2 rfl w_791 dX11_ofCoupon_112 c2 (o8 c1 c2 c3 c4 c5 c6 c7 c8) rfl ?_
        exact V_iret rfl dX11_ofCoupon_115 (k6 c1 c2 c3 c4 c5 c6 c7 c8)
      refine V_tableOut 116 dX11_ofCoupon_40 (ts_0_5 c3 c4 c5 c6 c7 c8) rfl ?_
      exact V_throwW (k := 1) (n := 6) tw_X11_72 ws_382 dX11_ofCoupon_116 dX11_ofCoupon_119 dX11_ofCoupon_120 dX11_ofCoupon_123 dX11_ofCoupon_126 rfl rfl rfl rfl rfl (k7 c1 c2 c3 c4 c5 c6 c7 c8)
    · exact V_throw (k := 1) (n := 6) tw_X11_61 ws_437 dX11_ofCoupon_29 dX11_ofCoupon_32 dX11_ofCoupon_33 dX11_ofCoupon_35 dX11_ofCoupon_38 rfl rfl rfl rfl rfl (k8 c1 c2)
  · refine V_null dX11_ofCoupon_12 ?_
    refine V_goto 22 dX11_ofCoupon_13 rfl ?_
    refine V_astore [(0, .ref 2), (1, .int v1), (2, .int v2), (3, .int v3), (4, .ref (atR (zI σ 2 8) 30 v1 (zR σ 30 (ix v1)))), (5, .ref 0)] dX11_ofCoupon_22 rfl rfl ?_
    refine V_aload dX11_ofCoupon_24 rfl ?_
    refine V_ifnonnull 39 dX11_ofCoupon_26 rfl (fun z_ => (by first | exact absurd (by decide) z_ | exact absurd z_ (by decide))) (fun _ => ?_)
    exact V_throw (k := 1) (n := 6) tw_X11_61 ws_437 dX11_ofCoupon_29 dX11_ofCoupon_32 dX11_ofCoupon_33 dX11_ofCoupon_35 dX11_ofCoupon_38 rfl rfl rfl rfl rfl (k9 c1)

theorem RB_N {i : Nat} {σ : AH} (hB : RB i σ) : vp_in (zI σ 33 36) 241 := by
  obtain ⟨n, h1, h2, -⟩ := hB
  rw [h2]; exact vp_in_nI (by have := h1.1; omega) (by decide)
theorem RK_N {σ : AH} (hK : RK σ) : vp_in (zI σ 33 23) 31 := by
  obtain ⟨n, h1, h2, -⟩ := hK
  rw [h2]; exact vp_in_nI (by omega) (by decide)
theorem bill_at {i : Nat} {σ : AH} (hB : RB i σ) (x : Int32) : (isWi x 0 (zI σ 33 36 - 1) ∧ ∃ b n, x = nI b ∧ b < n ∧ BS σ n ∧ BR σ b ∧ n ≤ 240 ∧ atR (zI σ 27 2) 240 x (zR σ 28 (ix x)) = bA σ b) ∨ (¬ isWi x 0 (zI σ 33 36 - 1) ∧ atR (zI σ 27 2) 240 x (zR σ 28 (ix x)) = 0) := by
  obtain ⟨n, h1, h2, h3, -⟩ := hB
  have h240 := h1.1
  rw [h2, h1.2.1]
  rcases atR_iff (n := n) (m := 240) h240 (by decide) x (zR σ 28 (ix x)) with ⟨a1, ⟨b, hb, rfl⟩, a3⟩ | a
  · refine Or.inl ⟨a1, b, n, rfl, hb, h1, h3 b hb, h240, Eq.trans a3 ?_⟩
    rw [ix, cl0 (by omega)]
  · exact Or.inr a
theorem tick_at {σ : AH} (hK : RK σ) (x : Int32) : (isWi x 0 (zI σ 33 23 - 1) ∧ ∃ t, x = nI t ∧ t < 30 ∧ t < ix (zI σ 33 23) ∧ TR σ t ∧ atR (zI σ 2 8) 30 x (zR σ 30 (ix x)) = tA σ t) ∨ (¬ isWi x 0 (zI σ 33 23 - 1) ∧ atR (zI σ 2 8) 30 x (zR σ 30 (ix x)) = 0) := by
  obtain ⟨n, h1, h2, h3, h4, -⟩ := hK
  rw [h2, h3]
  rcases atR_iff (n := n) (m := 30) h1 (by decide) x (zR σ 30 (ix x)) with ⟨a1, ⟨b, hb, rfl⟩, a3⟩ | a
  · refine Or.inl ⟨a1, b, rfl, by omega, by rw [ix, cl0 (by omega)]; exact hb, h4 b hb, Eq.trans a3 ?_⟩
    rw [ix, cl0 (by omega)]
  · exact Or.inr a
theorem coup_at {σ : AH} {t : Nat} (hT : TR σ t) (y : Int32) : (isWi y 0 (zI σ 52 t - 1) ∧ ∃ k, y = nI k ∧ k < ix (zI σ 52 t) ∧ k < 8 ∧ CR σ (cC σ t k) (8 * t + k) ∧ zK σ (cC σ t k) = 2 ∧ atR (zI σ (tA σ t) 4) 8 y (cA σ (tA σ t) (ix y)) = cC σ t k) ∨ (¬ isWi y 0 (zI σ 52 t - 1) ∧ atR (zI σ (tA σ t) 4) 8 y (cA σ (tA σ t) (ix y)) = 0) := by
  obtain ⟨m, h1, h2, h3, h4, h5, h6, h7, h8, h9, h10, h11⟩ := hT
  have h8' := h2.2.2.2.1
  rw [h3, h2.2.2.1]
  rcases atR_iff (n := m) (m := 8) h8' (by decide) y (cA σ (tA σ t) (ix y)) with ⟨a1, ⟨b, hb, rfl⟩, a3⟩ | a
  · refine Or.inl ⟨a1, b, rfl, by rw [ix, cl0 (by omega)]; exact hb, by omega, h11 b hb, (h2.2.2.2.2.2 b hb).2, Eq.trans a3 ?_⟩
    rw [ix, cl0 (by omega)]
  · exact Or.inr a
theorem TR_M {σ : AH} {t : Nat} (hT : TR σ t) : vp_in (zI σ 52 t) 9 ∧ vp_in (zI σ 51 t) 5 ∧ TS σ (tA σ t) (ix (zI σ 52 t)) ∧ zI σ (tA σ t) 4 = zI σ 52 t := by
  obtain ⟨m, h1, h2, h3, h4, h5, h6, -⟩ := hT
  have h8 := h2.2.2.2.1
  refine ⟨by rw [h3]; exact vp_in_nI (by omega) (by decide), h6.2, ?_, by rw [h3]; exact h2.2.2.1⟩
  rw [h3, ix, cl0 (by omega)]; exact h2
theorem RK_M {σ : AH} (hK : RK σ) (x : Int32) (h : isWi x 0 (zI σ 33 23 - 1)) : vp_in (zI σ 52 (ix x)) 9 ∧ vp_in (zI σ 51 (ix x)) 5 := by
  rcases tick_at hK x with ⟨_, t, rfl, h30, ht, hT, -⟩ | ⟨a, -⟩
  · rw [ix, cl0 (by omega)]
    exact ⟨(TR_M hT).1, (TR_M hT).2.1⟩
  · exact absurd h a
theorem RK_v {σ : AH} (hK : RK σ) (x y : Int32) (h : isWi x 0 (zI σ 33 23 - 1) ∧ isWi y 0 (zI σ 52 (ix x) - 1)) : vp_in (8 * x + y) 240 := by
  rcases tick_at hK x with ⟨_, t, rfl, h30, ht, hT, -⟩ | ⟨a, -⟩
  · have h2 := h.2
    rw [ix, cl0 (by omega)] at h2
    rcases coup_at hT y with ⟨_, k, rfl, -, hk, -⟩ | ⟨a, -⟩
    · rw [(cp_idx h30 hk).1]; exact (cp_idx h30 hk).2.1
    · exact absurd h2 a
  · exact absurd h.1 a

theorem of_n {x : Int32} (h0 : ¬ x = 0) (h1 : ¬ x = 1) (h2 : ¬ x = 2) (h3 : ¬ x = 3) (h4 : ¬ x = 4) (h5 : ¬ x = 5) (h : isWi x 0 5) : False := by
  have := isWi_iff.mp h
  have e0 : (0 : Int32).toInt = 0 := by decide
  have e5 : (5 : Int32).toInt = 5 := by decide
  rcases ts_0_5 h0 h1 h2 h3 h4 h5 with q | q
  · omega
  · omega
theorem R_of {g : GP} {i : Nat} {σ : AH} {v1 : Int32} (hi : i < 512) (h : Rel i σ) : CtH g mL_of [.ref 2, .int v1] σ (RQ [-1000002] (fun k τ => Gh (S12_of v1) τ (RE i k))) := by
  have hr := h
  obtain ⟨h0, hS, hT, hJ, hP, hK, hB, hC⟩ := h
  have e0 : zI σ 3 6 = zI σ 33 0 := by
    obtain ⟨nf, t1, t2, t3, t4, t5, t6, -⟩ := hT
    exact t6
  have e1 := RJ_e hJ
  have e2 : zI σ 2 8 = zI σ 33 23 := by
    obtain ⟨n, k1, k2, k3, -⟩ := hK
    rw [k2, k3]
  have e3 : zI σ 27 2 = zI σ 33 36 := by
    obtain ⟨n, k1, k2, -⟩ := hB
    rw [k2, k1.2.1]
  have e4 : zI σ 27 3 = zI σ 33 43 := by
    obtain ⟨n, k1, k2, k3, k4, ⟨q, k5, k6, k7⟩, -⟩ := hB
    rw [k6, k7]
  have e5 : zI σ 27 4 = dfS σ 5 := by
    obtain ⟨n, k1, k2, k3, k4, k5, k6, -⟩ := hB
    exact k6
  have m1 : ¬ (isWi v1 0 5) → Gh (S12_of v1) σ (RE i 1) := fun c1 => s_X12_of hS  (fun _ => RE_no hi hr (Q4_refl σ) (by decide)) (fun q => absurd q c1)
  refine w_L_of (Q := QI (fun k τ => Gh (S12_of v1) τ (RE i k))) (X := X1 IAE (fun k τ => Gh (S12_of v1) τ (RE i k))) hS (CtX_of (by decide +kernel) rfl rfl (b_X11_of_0 hS (fun c => ?_) (fun _ c => ?_) (fun _ _ c => ?_) (fun _ _ _ c => ?_) (fun _ _ _ _ c => ?_) (fun _ _ _ _ _ c => ?_) (fun n0 n1 n2 n3 n4 n5 => ⟨rfl, hS, m1 (fun q => of_n n0 n1 n2 n3 n4 n5 q)⟩))) QI_q X1_q
  · subst c
    exact ⟨_, rfl, hS, s_X12_of hS (fun q => absurd ⟨by decide, by decide⟩ q) (fun _ => RE_ok hi hr (Q4_72 (Q4_refl σ)) (by rw [out_I, if_pos rfl, zI_uJ, e0]))⟩
  · subst c
    exact ⟨_, rfl, hS, s_X12_of hS (fun q => absurd ⟨by decide, by decide⟩ q) (fun _ => RE_ok hi hr (Q4_72 (Q4_refl σ)) (by rw [out_I, if_neg (by decide), if_pos rfl, zI_uJ, e1]))⟩
  · subst c
    exact ⟨_, rfl, hS, s_X12_of hS (fun q => absurd ⟨by decide, by decide⟩ q) (fun _ => RE_ok hi hr (Q4_72 (Q4_refl σ)) (by rw [out_I, if_neg (by decide), if_neg (by decide), if_pos rfl, zI_uJ, e2]))⟩
  · subst c
    exact ⟨_, rfl, hS, s_X12_of hS (fun q => absurd ⟨by decide, by decide⟩ q) (fun _ => RE_ok hi hr (Q4_72 (Q4_refl σ)) (by rw [out_I, if_neg (by decide), if_neg (by decide), if_neg (by decide), if_pos rfl, zI_uJ, e3]))⟩
  · subst c
    exact ⟨_, rfl, hS, s_X12_of hS (fun q => absurd ⟨by decide, by decide⟩ q) (fun _ => RE_ok hi hr (Q4_72 (Q4_refl σ)) (by rw [out_I, if_neg (by decide), if_neg (by decide), if_neg (by decide), if_neg (by decide), if_pos rfl, zI_uJ, e4]))⟩
  · subst c
    exact ⟨_, rfl, hS, s_X12_of hS (fun q => absurd ⟨by decide, by decide⟩ q) (fun _ => RE_ok hi hr (Q4_72 (Q4_refl σ)) (by rw [out_I, if_neg (by decide), if_neg (by decide), if_neg (by decide), if_neg (by decide), if_neg (by decide), dfS_ag (τ := uI (uJ σ 72 0 (Int32.toInt64 (zI σ 27 4))) 33 49 0) (σ := σ) (fun k => by rw [zI_uI, if_neg (by omega), zI_uJ]) 5, e5]))⟩
theorem R_ofBill {g : GP} {i : Nat} {σ : AH} {v1 v2 : Int32} (hi : i < 512) (h : Rel i σ) : CtH g mL_ofBill [.ref 2, .int v1, .int v2] σ (RQ [-1000001, -1000002] (fun k τ => Gh (S12_ofBill v1 v2) τ (RE i k))) := by
  have hr := h
  obtain ⟨h0, hS, hT, hJ, hP, hK, hB, hC⟩ := h
  have hB0 := hB
  obtain ⟨n, hBS, hn, hBR, -⟩ := hB0
  have hb0 : ¬ atR (zI σ 27 2) 240 v1 (zR σ 28 (ix v1)) = 0 → ∃ b, b < n ∧ v1 = nI b ∧ atR (zI σ 27 2) 240 v1 (zR σ 28 (ix v1)) = bA σ b ∧ isWi v1 0 (zI σ 33 36 - 1) := fun c => by
    rcases bill_at hB v1 with ⟨a, b, n', e1, e2, e3, e4, e5, e6⟩ | ⟨_, a⟩
    · have : n' = n := by
        have h1 := e3.2.1
        rw [hBS.2.1] at h1
        exact ((nI_eq (by have := hBS.1; omega) (by omega)).mp h1).symm
      exact ⟨b, by omega, e1, e6, a⟩
    · exact absurd a c
  have hb1 : atR (zI σ 27 2) 240 v1 (zR σ 28 (ix v1)) = 0 → ¬ isWi v1 0 (zI σ 33 36 - 1) := fun c => by
    rcases bill_at hB v1 with ⟨a, b, n', e1, e2, e3, e4, e5, e6⟩ | ⟨a, _⟩
    · have := (e3.2.2.1 b e2).1
      rw [e6] at c; omega
    · exact a
  have kd : ¬ atR (zI σ 27 2) 240 v1 (zR σ 28 (ix v1)) = 0 → zK σ (atR (zI σ 27 2) 240 v1 (zR σ 28 (ix v1))) = 0 := fun c => by
    obtain ⟨b, h1, h2, h3, h4⟩ := hb0 c
    rw [h3]; exact (hBS.2.2.1 b h1).2.1
  have ok : ¬ atR (zI σ 27 2) 240 v1 (zR σ 28 (ix v1)) = 0 → ∀ f m, (∀ b, b < n → zI σ (bA σ b) f = zI σ m b) → isWi v2 0 5 → (∀ F : Nat → Int32, (if v2 = 0 then F 62 else if v2 = 1 then F 63 else if v2 = 2 then F 64 else if v2 = 3 then F 65 else if v2 = 4 then F 66 else F 67) = F m) → QI (fun k τ => Gh (S12_ofBill v1 v2) τ (RE i k)) σ (some (.int (zI σ (atR (zI σ 27 2) 240 v1 (zR σ 28 (ix v1))) f))) := fun c f m hf hw2 hF => by
    obtain ⟨b, h1, h2, h3, h4⟩ := hb0 c
    have h240 := hBS.1
    rw [h3, hf b h1]
    refine ⟨_, rfl, hS, s_X12_ofBill (σ := uJ σ 72 0 (Int32.toInt64 (zI σ m b))) hS (by rw [zI_uJ]; exact RB_N hB) (fun q => absurd h4 q) (fun _ q => absurd hw2 q) (fun _ _ => RE_ok hi hr (Q4_72 (Q4_refl σ)) ?_)⟩
    have hF' := hF (fun a => zI (uJ σ 72 0 (Int32.toInt64 (zI σ m b))) a (ix v1))
    (try dsimp only at hF')
    rw [hF', out_I, zI_uJ, h2, ix, cl0 (by omega)]
  have m1 : ¬ (isWi v1 0 (zI σ 33 36 - 1)) → Gh (S12_ofBill v1 v2) σ (RE i 1) := fun c1 => s_X12_ofBill hS (RB_N hB) (fun _ => RE_no hi hr (Q4_refl σ) (by decide)) (fun q _ => absurd q c1) (fun q _ => absurd q c1)
  have m2 : (isWi v1 0 (zI σ 33 36 - 1)) → ¬ (isWi v2 0 5) → Gh (S12_ofBill v1 v2) σ (RE i 2) := fun c1 c2 => s_X12_ofBill hS (RB_N hB) (fun q => absurd c1 q) (fun _ _ => RE_no hi hr (Q4_refl σ) (by decide)) (fun _ q => absurd q c2)
  refine w_L_ofBill (Q := QI (fun k τ => Gh (S12_ofBill v1 v2) τ (RE i k))) (X := X2 IOO IAE (fun k τ => Gh (S12_ofBill v1 v2) τ (RE i k))) hS (CtX_of (by decide +kernel) rfl rfl (b_X11_ofBill_0 hS (fun c _ => kd c) (fun c c0 => ok c 3 62 (fun b hb => (hBR b hb).2.2.2.2.1) (by rw [c0]; exact ⟨by decide, by decide⟩) (fun F => by rw [if_pos c0])) (fun c _ _ => kd c) (fun c c0 c1 => ok c 2 63 (fun b hb => (hBR b hb).2.2.2.1.1) (by rw [c1]; exact ⟨by decide, by decide⟩) (fun F => by rw [if_neg c0, if_pos c1])) (fun c _ _ _ => kd c) (fun c c0 c1 c2 => ok c 0 64 (fun b hb => (hBR b hb).2.1) (by rw [c2]; exact ⟨by decide, by decide⟩) (fun F => by rw [if_neg c0, if_neg c1, if_pos c2])) (fun c _ _ _ _ => kd c) (fun c c0 c1 c2 c3 => ok c 1 65 (fun b hb => (hBR b hb).2.2.1) (by rw [c3]; exact ⟨by decide, by decide⟩) (fun F => by rw [if_neg c0, if_neg c1, if_neg c2, if_pos c3])) (fun c _ _ _ _ _ => kd c) (fun c c0 c1 c2 c3 c4 => ok c 4 66 (fun b hb => (hBR b hb).2.2.2.2.2.1) (by rw [c4]; exact ⟨by decide, by decide⟩) (fun F => by rw [if_neg c0, if_neg c1, if_neg c2, if_neg c3, if_pos c4])) (fun c _ _ _ _ _ _ => kd c) (fun c c0 c1 c2 c3 c4 c5 => ok c 5 67 (fun b hb => (hBR b hb).2.2.2.2.2.2.1) (by rw [c5]; exact ⟨by decide, by decide⟩) (fun F => by rw [if_neg c0, if_neg c1, if_neg c2, if_neg c3, if_neg c4])) (fun c n0 n1 n2 n3 n4 n5 => Or.inr ⟨rfl, hS, m2 (by obtain ⟨b, h1, h2, h3, h4⟩ := hb0 c; exact h4) (fun q => of_n n0 n1 n2 n3 n4 n5 q)⟩) (fun c => Or.inl ⟨rfl, hS, m1 (hb1 c)⟩))) QI_q X2_q
theorem R_ofTicket {g : GP} {i : Nat} {σ : AH} {v1 v2 : Int32} (hi : i < 512) (h : Rel i σ) : CtH g mL_ofTicket [.ref 2, .int v1, .int v2] σ (RQ [-1000001, -1000002] (fun k τ => Gh (S12_ofTicket v1 v2) τ (RE i k))) := by
  have hr := h
  obtain ⟨h0, hS, hT, hJ, hP, hK, hB, hC⟩ := h
  have ht0 : ¬ atR (zI σ 2 8) 30 v1 (zR σ 30 (ix v1)) = 0 → ∃ t, TR σ t ∧ (v1 = nI t ∧ t < 30) ∧ atR (zI σ 2 8) 30 v1 (zR σ 30 (ix v1)) = tA σ t ∧ isWi v1 0 (zI σ 33 23 - 1) := fun c => by
    rcases tick_at hK v1 with ⟨a, t, e1, e2, e3, e4, e5⟩ | ⟨_, a⟩
    · exact ⟨t, e4, ⟨e1, e2⟩, e5, a⟩
    · exact absurd a c
  have ht1 : atR (zI σ 2 8) 30 v1 (zR σ 30 (ix v1)) = 0 → ¬ isWi v1 0 (zI σ 33 23 - 1) := fun c => by
    rcases tick_at hK v1 with ⟨a, t, e1, e2, e3, e4, e5⟩ | ⟨a, _⟩
    · have := TR_72 e4
      rw [e5] at c; omega
    · exact a
  have kd : ¬ atR (zI σ 2 8) 30 v1 (zR σ 30 (ix v1)) = 0 → zK σ (atR (zI σ 2 8) 30 v1 (zR σ 30 (ix v1))) = 9 := fun c => by
    obtain ⟨t, ⟨m, h1, h2, -⟩, h3, h4, h5⟩ := ht0 c
    rw [h4]; exact h2.2.1
  have okT : ∀ t, v1 = nI t ∧ t < 30 → isWi v1 0 (zI σ 33 23 - 1) → ∀ w : Int32, (if v2 = 0 then zI σ 50 t else if v2 = 1 then smI (fun k => zI σ 57 (8 * t + k)) (ix (zI σ 52 t)) else if v2 = 2 then zI σ 51 t else if v2 = 3 then zI σ 52 t else if v2 = 4 then zI σ 53 t else zI σ 54 t) = w → isWi v2 0 5 → QI (fun k τ => Gh (S12_ofTicket v1 v2) τ (RE i k)) σ (some (.int w)) := fun t e hw w hs hw2 => by
    have h30 : ix v1 = t := by rw [e.1, ix, cl0 (by have := e.2; omega)]
    refine ⟨_, rfl, hS, s_X12_ofTicket (σ := uJ σ 72 0 (Int32.toInt64 w)) hS (by rw [zI_uJ]; exact RK_N hK) (fun q => by rw [zI_uI, if_neg (by omega), zI_uJ]; exact (RK_M hK v1 q).1) (fun q => absurd hw q) (fun _ q => absurd hw2 q) (fun _ _ => RE_ok hi hr (Q4_72 (Q4_refl σ)) ?_)⟩
    have e57 : ∀ a k, a ≠ 33 → zI (uI (uJ σ 72 0 (Int32.toInt64 w)) 33 49 0) a k = zI σ a k := fun a k ha => by rw [zI_uI, if_neg (fun q => ha q.1), zI_uJ]
    rw [out_I]
    simp only [zI_uJ, h30, e57 57 _ (by decide), e57 52 _ (by decide)]
    rw [hs]
  have m1 : ¬ (isWi v1 0 (zI σ 33 23 - 1)) → Gh (S12_ofTicket v1 v2) σ (RE i 1) := fun c1 => s_X12_ofTicket hS (RK_N hK) (fun q => (RK_M hK v1 q).1) (fun _ => RE_no hi hr (Q4_refl σ) (by decide)) (fun q _ => absurd q c1) (fun q _ => absurd q c1)
  have m2 : (isWi v1 0 (zI σ 33 23 - 1)) → ¬ (isWi v2 0 5) → Gh (S12_ofTicket v1 v2) σ (RE i 2) := fun c1 c2 => s_X12_ofTicket hS (RK_N hK) (fun q => (RK_M hK v1 q).1) (fun q => absurd c1 q) (fun _ _ => RE_no hi hr (Q4_refl σ) (by decide)) (fun _ q => absurd q c2)
  refine w_L_ofTicket (Q := QI (fun k τ => Gh (S12_ofTicket v1 v2) τ (RE i k))) (X := X2 IOO IAE (fun k τ => Gh (S12_ofTicket v1 v2) τ (RE i k))) hS (CtX_of (by decide +kernel) rfl rfl (b_X11_ofTicket_0 hS (fun c _ => kd c) (fun c c0 => ?_) (fun c _ _ => kd c) (fun c c0 c1 => ?_) (fun c _ _ _ => kd c) (fun c c0 c1 c2 => ?_) (fun c _ _ _ _ => kd c) (fun c c0 c1 c2 c3 => ?_) (fun c _ _ _ _ _ => kd c) (fun c c0 c1 c2 c3 c4 => ?_) (fun c _ _ _ _ _ _ => kd c) (fun c c0 c1 c2 c3 c4 c5 => ?_) (fun c n0 n1 n2 n3 n4 n5 => Or.inr ⟨rfl, hS, m2 (by obtain ⟨t, h1, h2, h3, h4⟩ := ht0 c; exact h4) (fun q => of_n n0 n1 n2 n3 n4 n5 q)⟩) (fun c => Or.inl ⟨rfl, hS, m1 (ht1 c)⟩))) QI_q X2_q
  · obtain ⟨t, hTR, e1, e2, hw⟩ := ht0 c
    have hTR0 := hTR
    obtain ⟨m, h1, h2, h3, h4, h5, h6, h7, h8, h9, h10, h11⟩ := hTR0
    have h9e : zI σ (tA σ t) 5 = smI (fun k => zI σ 57 (8 * t + k)) (ix (zI σ 52 t)) := by rw [h3, ix, cl0 (by have := h2.2.2.2.1; omega)]; exact h9
    rw [e2, h7]
    refine okT t e1 hw _ ?_ (by rw [c0]; exact ⟨by decide, by decide⟩)
    rw [if_pos c0]
  · obtain ⟨t, hTR, e1, e2, hw⟩ := ht0 c
    have hTR0 := hTR
    obtain ⟨m, h1, h2, h3, h4, h5, h6, h7, h8, h9, h10, h11⟩ := hTR0
    have h9e : zI σ (tA σ t) 5 = smI (fun k => zI σ 57 (8 * t + k)) (ix (zI σ 52 t)) := by rw [h3, ix, cl0 (by have := h2.2.2.2.1; omega)]; exact h9
    rw [e2, h9e]
    refine okT t e1 hw _ ?_ (by rw [c1]; exact ⟨by decide, by decide⟩)
    rw [if_neg c0, if_pos c1]
  · obtain ⟨t, hTR, e1, e2, hw⟩ := ht0 c
    have hTR0 := hTR
    obtain ⟨m, h1, h2, h3, h4, h5, h6, h7, h8, h9, h10, h11⟩ := hTR0
    have h9e : zI σ (tA σ t) 5 = smI (fun k => zI σ 57 (8 * t + k)) (ix (zI σ 52 t)) := by rw [h3, ix, cl0 (by have := h2.2.2.2.1; omega)]; exact h9
    rw [e2, h6.1]
    refine okT t e1 hw _ ?_ (by rw [c2]; exact ⟨by decide, by decide⟩)
    rw [if_neg c0, if_neg c1, if_pos c2]
  · obtain ⟨t, hTR, e1, e2, hw⟩ := ht0 c
    have hTR0 := hTR
    obtain ⟨m, h1, h2, h3, h4, h5, h6, h7, h8, h9, h10, h11⟩ := hTR0
    have h9e : zI σ (tA σ t) 5 = smI (fun k => zI σ 57 (8 * t + k)) (ix (zI σ 52 t)) := by rw [h3, ix, cl0 (by have := h2.2.2.2.1; omega)]; exact h9
    rw [e2, (TR_M hTR).2.2.2]
    refine okT t e1 hw _ ?_ (by rw [c3]; exact ⟨by decide, by decide⟩)
    rw [if_neg c0, if_neg c1, if_neg c2, if_pos c3]
  · obtain ⟨t, hTR, e1, e2, hw⟩ := ht0 c
    have hTR0 := hTR
    obtain ⟨m, h1, h2, h3, h4, h5, h6, h7, h8, h9, h10, h11⟩ := hTR0
    have h9e : zI σ (tA σ t) 5 = smI (fun k => zI σ 57 (8 * t + k)) (ix (zI σ 52 t)) := by rw [h3, ix, cl0 (by have := h2.2.2.2.1; omega)]; exact h9
    rw [e2, h8]
    refine okT t e1 hw _ ?_ (by rw [c4]; exact ⟨by decide, by decide⟩)
    rw [if_neg c0, if_neg c1, if_neg c2, if_neg c3, if_pos c4]
  · obtain ⟨t, hTR, e1, e2, hw⟩ := ht0 c
    have hTR0 := hTR
    obtain ⟨m, h1, h2, h3, h4, h5, h6, h7, h8, h9, h10, h11⟩ := hTR0
    have h9e : zI σ (tA σ t) 5 = smI (fun k => zI σ 57 (8 * t + k)) (ix (zI σ 52 t)) := by rw [h3, ix, cl0 (by have := h2.2.2.2.1; omega)]; exact h9
    rw [e2, h10]
    refine okT t e1 hw _ ?_ (by rw [c5]; exact ⟨by decide, by decide⟩)
    rw [if_neg c0, if_neg c1, if_neg c2, if_neg c3, if_neg c4]
theorem R_ofCoupon {g : GP} {i : Nat} {σ : AH} {v1 v2 v3 : Int32} (hi : i < 512) (h : Rel i σ) : CtH g mL_ofCoupon [.ref 2, .int v1, .int v2, .int v3] σ (RQ [-1000001, -1000002] (fun k τ => Gh (S12_ofCoupon v1 v2 v3) τ (RE i k))) := by
  have hr := h
  obtain ⟨h0, hS, hT, hJ, hP, hK, hB, hC⟩ := h
  have hc0 : ¬ atR (zI σ 2 8) 30 v1 (zR σ 30 (ix v1)) = 0 → ¬ atR (zI σ (atR (zI σ 2 8) 30 v1 (zR σ 30 (ix v1))) 4) 8 v2 (cA σ (atR (zI σ 2 8) 30 v1 (zR σ 30 (ix v1))) (ix v2)) = 0 → ∃ t k, TR σ t ∧ t < 30 ∧ v1 = nI t ∧ atR (zI σ 2 8) 30 v1 (zR σ 30 (ix v1)) = tA σ t ∧ k < 8 ∧ v2 = nI k ∧ k < ix (zI σ 52 t) ∧ atR (zI σ (atR (zI σ 2 8) 30 v1 (zR σ 30 (ix v1))) 4) 8 v2 (cA σ (atR (zI σ 2 8) 30 v1 (zR σ 30 (ix v1))) (ix v2)) = cC σ t k ∧ CR σ (cC σ t k) (8 * t + k) ∧ zK σ (cC σ t k) = 2 ∧ (isWi v1 0 (zI σ 33 23 - 1) ∧ isWi v2 0 (zI σ 52 (ix v1) - 1)) ∧ t < ix (zI σ 33 23) := fun c c2 => by
    rcases tick_at hK v1 with ⟨a, t, e1, e2, e3, e4, e5⟩ | ⟨_, a⟩
    · have hi1 : ix v1 = t := by rw [e1, ix, cl0 (by omega)]
      rw [e5] at c2
      rcases coup_at e4 v2 with ⟨b, k, f1, f2, f3, f4, f5, f6⟩ | ⟨_, b⟩
      · exact ⟨t, k, e4, e2, e1, e5, f3, f1, f2, by rw [e5]; exact f6, f4, f5, ⟨a, by rw [hi1]; exact b⟩, e3⟩
      · exact absurd b c2
    · exact absurd a c
  have hc1 : ¬ atR (zI σ 2 8) 30 v1 (zR σ 30 (ix v1)) = 0 → atR (zI σ (atR (zI σ 2 8) 30 v1 (zR σ 30 (ix v1))) 4) 8 v2 (cA σ (atR (zI σ 2 8) 30 v1 (zR σ 30 (ix v1))) (ix v2)) = 0 → ¬ (isWi v1 0 (zI σ 33 23 - 1) ∧ isWi v2 0 (zI σ 52 (ix v1) - 1)) := fun c c2 => by
    rcases tick_at hK v1 with ⟨a, t, e1, e2, e3, e4, e5⟩ | ⟨_, a⟩
    · have hi1 : ix v1 = t := by rw [e1, ix, cl0 (by omega)]
      rw [e5] at c2
      rcases coup_at e4 v2 with ⟨b, k, f1, f2, f3, f4, f5, f6⟩ | ⟨b, _⟩
      · have := f4.1.1
        rw [f6] at c2; omega
      · rw [hi1]; exact fun q => b q.2
    · exact absurd a c
  have hc2 : atR (zI σ 2 8) 30 v1 (zR σ 30 (ix v1)) = 0 → ¬ (isWi v1 0 (zI σ 33 23 - 1) ∧ isWi v2 0 (zI σ 52 (ix v1) - 1)) := fun c => by
    rcases tick_at hK v1 with ⟨a, t, e1, e2, e3, e4, e5⟩ | ⟨a, _⟩
    · have := TR_72 e4
      rw [e5] at c; omega
    · exact fun q => a q.1
  have kT : ¬ atR (zI σ 2 8) 30 v1 (zR σ 30 (ix v1)) = 0 → TX σ (atR (zI σ 2 8) 30 v1 (zR σ 30 (ix v1))) := fun c => by
    rcases tick_at hK v1 with ⟨a, t, e1, e2, e3, e4, e5⟩ | ⟨_, a⟩
    · rw [e5]; exact ⟨_, (TR_M e4).2.2.1⟩
    · exact absurd a c
  have kd : ¬ atR (zI σ 2 8) 30 v1 (zR σ 30 (ix v1)) = 0 → zK σ (atR (zI σ 2 8) 30 v1 (zR σ 30 (ix v1))) = 9 := fun c => by
    obtain ⟨n, h⟩ := kT c
    exact h.2.1
  have kc : ¬ atR (zI σ 2 8) 30 v1 (zR σ 30 (ix v1)) = 0 → ¬ atR (zI σ (atR (zI σ 2 8) 30 v1 (zR σ 30 (ix v1))) 4) 8 v2 (cA σ (atR (zI σ 2 8) 30 v1 (zR σ 30 (ix v1))) (ix v2)) = 0 → zK σ (atR (zI σ (atR (zI σ 2 8) 30 v1 (zR σ 30 (ix v1))) 4) 8 v2 (cA σ (atR (zI σ 2 8) 30 v1 (zR σ 30 (ix v1))) (ix v2))) = 2 := fun c c2 => by
    obtain ⟨t, k, h1, h2, h3, h4, h5, h6, h7, h8, h9, h10, h11⟩ := hc0 c c2
    rw [h8]; exact h10
  have okC : ∀ t k, t < 30 → k < 8 → v1 = nI t → v2 = nI k → isWi v1 0 (zI σ 33 23 - 1) ∧ isWi v2 0 (zI σ 52 (ix v1) - 1) → ∀ w : Int32, (if v3 = 0 then zI σ 55 (8 * t + k) else if v3 = 1 then zI σ 56 (8 * t + k) else if v3 = 2 then zI σ 57 (8 * t + k) else if v3 = 3 then zI σ 58 (8 * t + k) else if v3 = 4 then zI σ 59 (8 * t + k) else zI σ 61 (8 * t + k)) = w → isWi v3 0 5 → QI (fun k τ => Gh (S12_ofCoupon v1 v2 v3) τ (RE i k)) σ (some (.int w)) := fun t k ht hk e1 e2 hw w hs hw3 => by
    have hx : ix (8 * v1 + v2) = 8 * t + k := by rw [e1, e2, (cp_idx ht hk).1]; exact (cp_idx ht hk).2.2
    refine ⟨_, rfl, hS, s_X12_ofCoupon (σ := uJ σ 72 0 (Int32.toInt64 w)) hS (by rw [zI_uJ]; exact RK_N hK) (RK_v hK v1 v2) (fun q => absurd hw q) (fun _ q => absurd hw3 q) (fun _ _ => RE_ok hi hr (Q4_72 (Q4_refl σ)) ?_)⟩
    rw [out_I]
    simp only [zI_uJ, hx]
    rw [hs]
  have m1 : ¬ (isWi v1 0 (zI σ 33 23 - 1) ∧ isWi v2 0 (zI σ 52 (ix v1) - 1)) → Gh (S12_ofCoupon v1 v2 v3) σ (RE i 1) := fun c1 => s_X12_ofCoupon hS (RK_N hK) (RK_v hK v1 v2) (fun _ => RE_no hi hr (Q4_refl σ) (by decide)) (fun q _ => absurd q c1) (fun q _ => absurd q c1)
  have m2 : (isWi v1 0 (zI σ 33 23 - 1) ∧ isWi v2 0 (zI σ 52 (ix v1) - 1)) → ¬ (isWi v3 0 5) → Gh (S12_ofCoupon v1 v2 v3) σ (RE i 2) := fun c1 c2 => s_X12_ofCoupon hS (RK_N hK) (RK_v hK v1 v2) (fun q => absurd c1 q) (fun _ _ => RE_no hi hr (Q4_refl σ) (by decide)) (fun _ q => absurd q c2)
  refine w_L_ofCoupon (Q := QI (fun k τ => Gh (S12_ofCoupon v1 v2 v3) τ (RE i k))) (X := X2 IOO IAE (fun k τ => Gh (S12_ofCoupon v1 v2 v3) τ (RE i k))) hS (CtX_of (by decide +kernel) rfl rfl (b_X11_ofCoupon_0 hS kT kd (fun c d _ => kc c d) (fun c d c0 => ?_) (fun c d _ _ => kc c d) (fun c d c0 c1 => ?_) (fun c d _ _ _ => kc c d) (fun c d c0 c1 c2 => ?_) (fun c d _ _ _ _ => kc c d) (fun c d c0 c1 c2 c3 => ?_) (fun c d _ _ _ _ _ => kc c d) (fun c d c0 c1 c2 c3 c4 => ?_) (fun c d _ _ _ _ _ _ => kc c d) (fun c d c0 c1 c2 c3 c4 c5 => ?_) (fun c d n0 n1 n2 n3 n4 n5 => Or.inr ⟨rfl, hS, m2 (by obtain ⟨t, k, h1, h2, h3, h4, h5, h6, h7, h8, h9, h10, h11⟩ := hc0 c d; exact h11.1) (fun q => of_n n0 n1 n2 n3 n4 n5 q)⟩) (fun c d => Or.inl ⟨rfl, hS, m1 (hc1 c d)⟩) (fun c => Or.inl ⟨rfl, hS, m1 (hc2 c)⟩))) QI_q X2_q
  · obtain ⟨t, k, h1, h2, h3, h4, h5, h6, h7, h8, h9, h10, h11⟩ := hc0 c d
    rw [h8, h9.2.2.2.2.2.2.1]
    refine okC t k h2 h5 h3 h6 h11.1 _ ?_ (by rw [c0]; exact ⟨by decide, by decide⟩)
    rw [if_pos c0]
  · obtain ⟨t, k, h1, h2, h3, h4, h5, h6, h7, h8, h9, h10, h11⟩ := hc0 c d
    rw [h8, h9.2.2.2.2.2.1.1]
    refine okC t k h2 h5 h3 h6 h11.1 _ ?_ (by rw [c1]; exact ⟨by decide, by decide⟩)
    rw [if_neg c0, if_pos c1]
  · obtain ⟨t, k, h1, h2, h3, h4, h5, h6, h7, h8, h9, h10, h11⟩ := hc0 c d
    rw [h8, h9.2.2.2.1.1]
    refine okC t k h2 h5 h3 h6 h11.1 _ ?_ (by rw [c2]; exact ⟨by decide, by decide⟩)
    rw [if_neg c0, if_neg c1, if_pos c2]
  · obtain ⟨t, k, h1, h2, h3, h4, h5, h6, h7, h8, h9, h10, h11⟩ := hc0 c d
    rw [h8, h9.2.2.2.2.1.1]
    refine okC t k h2 h5 h3 h6 h11.1 _ ?_ (by rw [c3]; exact ⟨by decide, by decide⟩)
    rw [if_neg c0, if_neg c1, if_neg c2, if_pos c3]
  · obtain ⟨t, k, h1, h2, h3, h4, h5, h6, h7, h8, h9, h10, h11⟩ := hc0 c d
    rw [h8, h9.2.2.1]
    refine okC t k h2 h5 h3 h6 h11.1 _ ?_ (by rw [c4]; exact ⟨by decide, by decide⟩)
    rw [if_neg c0, if_neg c1, if_neg c2, if_neg c3, if_pos c4]
  · obtain ⟨t, k, h1, h2, h3, h4, h5, h6, h7, h8, h9, h10, h11⟩ := hc0 c d
    rw [h8, h9.2.2.2.2.2.2.2.1]
    refine okC t k h2 h5 h3 h6 h11.1 _ ?_ (by rw [c5]; exact ⟨by decide, by decide⟩)
    rw [if_neg c0, if_neg c1, if_neg c2, if_neg c3, if_neg c4]
set_option maxRecDepth 100000 in
set_option maxHeartbeats 4000000 in
theorem b_X11_cashAnew_0 {g : GP} {CX : State → Array Value → Prop} {Q : AH → Option Value → Prop} {X : AH → String → Prop} {v1 : Int32} {σ : AH}
    (hS : Sh σ)
    (o1 : (isCa v1) → BX σ)
    (k1 : (isCa v1) → V g mX11_cashAnew (Em g mX11_cashAnew Q X) CX 1 6 29 [(0, .ref 2), (1, .int v1), (2, .long (gbS σ v1 (ix (zI σ 27 2)))), (4, .int (0 : Int32))] [] σ)
    (k2 : (¬ (isCa v1)) → X σ "java/lang/IndexOutOfBoundsException") :
    V g mX11_cashAnew (Em g mX11_cashAnew Q X) CX 1 6 0 [(0, .ref 2), (1, .int v1)] [] σ := by
  refine V_iload_n dX11_cashAnew_0 rfl ?_
  refine V_callS1 (as := [.int v1]) (k' := 1) (n' := 6) (s_X11_isCarrier) mw_X11_isCarrier w_364 w_363 ar_X11_isCarrier rfl ⟨rfl, rfl, rfl, rfl, rfl⟩ dX11_cashAnew_1 ?_
  refine V_if_ne 17 dX11_cashAnew_4 rfl (fun c1 => ?_) (fun c1 => ?_)
  · replace c1 := jb_n.mp c1
    refine V_aload_n dX11_cashAnew_17 rfl ?_
    refine V_getf (fk := 4) (Value.ref 27) ko_X11 rfl w_208 dX11_cashAnew_18 (by decide) (shk hS 2 rfl) (congrArg Value.ref (shr hS 2 4 27 (by decide))) ?_
    refine V_iload_n dX11_cashAnew_21 rfl ?_
    refine V_callV1 (as := [.int v1]) (k' := 1) (n' := 6) (s_X1_gotBy hS (o1 c1)) mw_X1_gotBy ko_X1 rfl w_391 w_392 w_390 ar_X1_gotBy rfl ⟨rfl, rfl, rfl, rfl, rfl⟩ dX11_cashAnew_22 (by decide) (shk hS 27 rfl) ?_
    refine V_lstore_n [(0, .ref 2), (1, .int v1), (2, .long (gbS σ v1 (ix (zI σ 27 2))))] dX11_cashAnew_25 rfl rfl ?_
    refine V_iconst (0 : Int32) dX11_cashAnew_26 (by decide) ?_
    refine V_istore [(0, .ref 2), (1, .int v1), (2, .long (gbS σ v1 (ix (zI σ 27 2)))), (4, .int (0 : Int32))] dX11_cashAnew_27 rfl rfl ?_
    exact (k1 c1)
  · replace c1 := jb_0.mp c1
    exact V_throw (k := 1) (n := 6) tw_X11_61 ws_366 dX11_cashAnew_7 dX11_cashAnew_10 dX11_cashAnew_11 dX11_cashAnew_13 dX11_cashAnew_16 rfl rfl rfl rfl rfl (k2 c1)
set_option maxRecDepth 100000 in
set_option maxHeartbeats 4000000 in
theorem b_X11_cashAnew_29 {g : GP} {CX : State → Array Value → Prop} {Q : AH → Option Value → Prop} {X : AH → String → Prop} {v1 : Int32} {v2 : Int64} {v4 : Int32} {σ : AH}
    (hS : Sh σ)
    (k1 : ((zI σ 2 8) ≤ v4) → Q σ (some (.long v2)))
    (k2 : (¬ (zI σ 2 8) ≤ v4) → (atR (zI σ 2 8) 30 v4 (zR σ 30 (ix v4)) = 0) → V g mX11_cashAnew (Em g mX11_cashAnew Q X) CX 1 6 29 [(0, .ref 2), (1, .int v1), (2, .long v2), (4, .int (v4 + (1 : Int32)))] [] σ)
    (o1 : (¬ (zI σ 2 8) ≤ v4) → (¬ atR (zI σ 2 8) 30 v4 (zR σ 30 (ix v4)) = 0) → zK σ (atR (zI σ 2 8) 30 v4 (zR σ 30 (ix v4))) = 9)
    (k3 : (¬ (zI σ 2 8) ≤ v4) → (¬ atR (zI σ 2 8) 30 v4 (zR σ 30 (ix v4)) = 0) → (¬ (zI σ (atR (zI σ 2 8) 30 v4 (zR σ 30 (ix v4))) 0) = v1) → V g mX11_cashAnew (Em g mX11_cashAnew Q X) CX 1 6 29 [(0, .ref 2), (1, .int v1), (2, .long v2), (4, .int (v4 + (1 : Int32)))] [] σ)
    (o2 : (¬ (zI σ 2 8) ≤ v4) → (¬ atR (zI σ 2 8) 30 v4 (zR σ 30 (ix v4)) = 0) → ((zI σ (atR (zI σ 2 8) 30 v4 (zR σ 30 (ix v4))) 0) = v1) → TS σ (atR (zI σ 2 8) 30 v4 (zR σ 30 (ix v4))) (ix (zI σ (atR (zI σ 2 8) 30 v4 (zR σ 30 (ix v4))) 4)))
    (k4 : (¬ (zI σ 2 8) ≤ v4) → (¬ atR (zI σ 2 8) 30 v4 (zR σ 30 (ix v4)) = 0) → ((zI σ (atR (zI σ 2 8) 30 v4 (zR σ 30 (ix v4))) 0) = v1) → V g mX11_cashAnew (Em g mX11_cashAnew Q X) CX 1 6 29 [(0, .ref 2), (1, .int v1), (2, .long (v2 + ((zJ σ (atR (zI σ 2 8) 30 v4 (zR σ 30 (ix v4))) 7) - (Int32.toInt64 (smI (ftF σ (atR (zI σ 2 8) 30 v4 (zR σ 30 (ix v4)))) (ix (zI σ (atR (zI σ 2 8) 30 v4 (zR σ 30 (ix v4))) 4))))))), (4, .int (v4 + (1 : Int32)))] [] σ) :
    V g mX11_cashAnew (Em g mX11_cashAnew Q X) CX 1 6 29 [(0, .ref 2), (1, .int v1), (2, .long v2), (4, .int v4)] [] σ := by
  refine V_iload dX11_cashAnew_29 rfl ?_
  refine V_aload_n dX11_cashAnew_31 rfl ?_
  refine V_getf (fk := 8) (Value.int (zI σ 2 8)) ko_X11 rfl w_212 dX11_cashAnew_32 (by decide) (shk hS 2 rfl) rfl ?_
  refine V_icmp_ge 81 dX11_cashAnew_35 rfl (fun c1 => ?_) (fun c1 => ?_)
  · refine V_lload_n dX11_cashAnew_81 rfl ?_
    exact V_lret rfl dX11_cashAnew_82 (k1 c1)
  · refine V_aload_n dX11_cashAnew_38 rfl ?_
    refine V_iload dX11_cashAnew_39 rfl ?_
    refine V_callV1 (as := [.int v4]) (k' := 1) (n' := 6) (s_X11_ticketAt hS) mw_X11_ticketAt ko_X11 rfl w_404 w_1 w_402 ar_X11_ticketAt rfl ⟨rfl, rfl, rfl, rfl, rfl⟩ dX11_cashAnew_41 (by decide) (shk hS 2 rfl) ?_
    refine V_astore [(0, .ref 2), (1, .int v1), (2, .long v2), (4, .int v4), (5, .ref (atR (zI σ 2 8) 30 v4 (zR σ 30 (ix v4))))] dX11_cashAnew_44 rfl rfl ?_
    refine V_aload dX11_cashAnew_46 rfl ?_
    refine V_ifnull 75 dX11_cashAnew_48 rfl (fun c2 => ?_) (fun c2 => ?_)
    · refine V_iinc (v4 + (1 : Int32)) [(0, .ref 2), (1, .int v1), (2, .long v2), (4, .int (v4 + (1 : Int32))), (5, .ref (atR (zI σ 2 8) 30 v4 (zR σ 30 (ix v4))))] dX11_cashAnew_75 rfl rfl rfl rfl ?_
      refine V_goto 29 dX11_cashAnew_78 rfl ?_
      exact V_less (mm_keep (mm_keep (mm_keep (mm_keep (mm_drop mm_nil))))) (by decide) (by decide) (k2 c1 c2)
    · refine V_aload dX11_cashAnew_51 rfl ?_
      refine V_getf (fk := 0) (Value.int (zI σ (atR (zI σ 2 8) 30 v4 (zR σ 30 (ix v4))) 0)) ko_X9 rfl w_729 dX11_cashAnew_53 c2 (o1 c1 c2) rfl ?_
      refine V_iload_n dX11_cashAnew_56 rfl ?_
      refine V_icmp_ne 75 dX11_cashAnew_57 rfl (fun c3 => ?_) (fun c3 => ?_)
      · refine V_iinc (v4 + (1 : Int32)) [(0, .ref 2), (1, .int v1), (2, .long v2), (4, .int (v4 + (1 : Int32))), (5, .ref (atR (zI σ 2 8) 30 v4 (zR σ 30 (ix v4))))] dX11_cashAnew_75 rfl rfl rfl rfl ?_
        refine V_goto 29 dX11_cashAnew_78 rfl ?_
        exact V_less (mm_keep (mm_keep (mm_keep (mm_keep (mm_drop mm_nil))))) (by decide) (by decide) (k3 c1 c2 c3)
      · refine V_lload_n dX11_cashAnew_60 rfl ?_
        refine V_aload dX11_cashAnew_61 rfl ?_
        refine V_getf (fk := 7) (Value.long (zJ σ (atR (zI σ 2 8) 30 v4 (zR σ 30 (ix v4))) 7)) ko_X9 rfl w_740 dX11_cashAnew_63 c2 (o1 c1 c2) rfl ?_
        refine V_aload dX11_cashAnew_66 rfl ?_
        refine V_callV1 (as := []) (k' := 1) (n' := 6) (s_X9_flownTaxes (o2 c1 c2 c3)) mw_X9_flownTaxes ko_X9 rfl w_407 w_408 w_406 ar_X9_flownTaxes rfl ⟨rfl, rfl, rfl, rfl, rfl⟩ dX11_cashAnew_68 c2 (o1 c1 c2) ?_
        refine V_i2l dX11_cashAnew_71 ?_
        refine V_lsub dX11_cashAnew_72 ?_
        refine V_ladd dX11_cashAnew_73 ?_
        refine V_lstore_n [(0, .ref 2), (1, .int v1), (2, .long (v2 + ((zJ σ (atR (zI σ 2 8) 30 v4 (zR σ 30 (ix v4))) 7) - (Int32.toInt64 (smI (ftF σ (atR (zI σ 2 8) 30 v4 (zR σ 30 (ix v4)))) (ix (zI σ (atR (zI σ 2 8) 30 v4 (zR σ 30 (ix v4))) 4))))))), (4, .int v4), (5, .ref (atR (zI σ 2 8) 30 v4 (zR σ 30 (ix v4))))] dX11_cashAnew_74 rfl rfl ?_
        refine V_iinc (v4 + (1 : Int32)) [(0, .ref 2), (1, .int v1), (2, .long (v2 + ((zJ σ (atR (zI σ 2 8) 30 v4 (zR σ 30 (ix v4))) 7) - (Int32.toInt64 (smI (ftF σ (atR (zI σ 2 8) 30 v4 (zR σ 30 (ix v4)))) (ix (zI σ (atR (zI σ 2 8) 30 v4 (zR σ 30 (ix v4))) 4))))))), (4, .int (v4 + (1 : Int32))), (5, .ref (atR (zI σ 2 8) 30 v4 (zR σ 30 (ix v4))))] dX11_cashAnew_75 rfl rfl rfl rfl ?_
        refine V_goto 29 dX11_cashAnew_78 rfl ?_
        exact V_less (mm_keep (mm_keep (mm_keep (mm_keep (mm_drop mm_nil))))) (by decide) (by decide) (k4 c1 c2 c3)

/-- the class's sum by bills is that by the reference's rows -/
theorem gb_eq {i : Nat} {σ : AH} {c : Int32} (hB : RB i σ) : gbS σ c (ix (zI σ 27 2)) = gbM σ c (ix (zI σ 33 36)) := by
  obtain ⟨n, h1, h2, h3, -⟩ := hB
  have hn := h1.1
  rw [h1.2.1, h2, ix, cl0 (by omega)]
  have key : ∀ d, d ≤ n → gbS σ c d = gbM σ c d := fun d => by
    induction d with
    | zero => intro _; rfl
    | succ d ih =>
      intro hd
      have r := h3 d (by omega)
      have e : gpF σ (bA σ d) = gpM σ d := by rw [gpF, gpM, r.2.2.2.2.1, r.2.2.2.1.1]
      rw [gbS, gbM, ih (by omega), r.2.1, r.2.2.1, e]
  exact key n (Nat.le_refl _)
theorem BX_of {i : Nat} {σ : AH} (hB : RB i σ) : BX σ := by
  obtain ⟨n, h1, -⟩ := hB
  have hn := h1.1
  rw [BX, h1.2.1, ix, cl0 (by omega)]
  exact h1
theorem ft_eq {σ : AH} {t : Nat} (hT : TR σ t) : smI (ftF σ (tA σ t)) (ix (zI σ 52 t)) = smI (ftM σ t) (ix (zI σ 52 t)) := by
  obtain ⟨m, h1, h2, h3, h4, h5, h6, h7, h8, h9, h10, h11⟩ := hT
  refine smI_c (fun k hk => ?_)
  rw [h3, ix, cl0 (by have := h2.2.2.2.1; omega)] at hk
  have r := h11 k hk
  have e1 : zI σ (cA σ (tA σ t) k) 7 = zI σ 55 (8 * t + k) := r.2.2.2.2.2.2.1
  have e2 : zI σ (cA σ (tA σ t) k) 3 = zI σ 57 (8 * t + k) := r.2.2.2.1.1
  rw [ftF, ftM, e1, e2]

theorem R_cashAnew {g : GP} {i : Nat} {σ : AH} {v1 : Int32} (hi : i < 512) (h : Rel i σ) : CtH g mL_cashAnew [.ref 2, .int v1] σ (RQl [-1000001] (fun k τ => Gh (S12_cashAnew v1) τ (REl i k))) := by
  have hr := h
  obtain ⟨h0, hS, hT, hJ, hP, hK, hB, hC⟩ := h
  have m1 : ¬ (isCa v1) → Gh (S12_cashAnew v1) σ (REl i 1) := fun c1 => s_X12_cashAnew hS  (fun _ => REl_no hi hr (Q4_refl σ) (by decide)) (fun q => absurd q c1)
  refine w_L_cashAnew (Q := QJ (fun k τ => Gh (S12_cashAnew v1) τ (REl i k))) (X := X1 IOO (fun k τ => Gh (S12_cashAnew v1) τ (REl i k))) hS (CtX_of (by decide +kernel) rfl rfl (b_X11_cashAnew_0 hS (fun c => BX_of hB) (fun c => ?_) (fun c => ⟨rfl, hS, m1 c⟩))) QJ_q X1_ql
  have hlt : ix v1 < 5 ∧ v1 = nI (ix v1) := by
    obtain ⟨n, hn, e⟩ := vp_in_of (isCa_vp c) (by decide)
    have e2 : ix v1 = n := by rw [e, ix, cl0 (by omega)]
    rw [e2]; exact ⟨hn, e⟩
  obtain ⟨n, k1, k2, k3, k4, -⟩ := id hK
  have fin : QJ (fun k τ => Gh (S12_cashAnew v1) τ (REl i k)) σ (some (.long (gbM σ v1 (ix (zI σ 33 36)) + tkM σ v1 n))) := by
    have h6 := hC.2.2.2.2.2 (ix v1) hlt.1
    rw [← hlt.2, k2, show ix (nI n) = n from cl0 (by omega)] at h6
    exact ⟨_, rfl, hS, s_X12_cashAnew hS (fun q => absurd c q) (fun _ => REl_ok hi hr (Q4_72 (Q4_refl σ)) (by rw [out_I, zJ_uJ, if_neg (by omega), h6]))⟩
  rw [gb_eq hB]
  have e0 : gbM σ v1 (ix (zI σ 33 36)) = gbM σ v1 (ix (zI σ 33 36)) + tkM σ v1 0 := by rw [tkM]; simp
  refine V_cast (congrArg (fun z => [(0, Value.ref 2), (1, Value.int v1), (2, Value.long z), (4, Value.int 0)]) e0) rfl rfl (up_loop (P := fun d => V g mX11_cashAnew (Em g mX11_cashAnew (QJ (fun k τ => Gh (S12_cashAnew v1) τ (REl i k))) (X1 IOO (fun k τ => Gh (S12_cashAnew v1) τ (REl i k)))) CT 1 6 29 [(0, .ref 2), (1, .int v1), (2, .long (gbM σ v1 (ix (zI σ 33 36)) + tkM σ v1 d)), (4, .int (nI d))] [] σ) n ?_ ?_ 0 (Nat.zero_le _))
  · have hle : zI σ 2 8 ≤ nI n := by rw [k3]; exact Int32.le_refl _
    exact b_X11_cashAnew_29 hS (fun _ => fin) (fun c => absurd hle c) (fun c => absurd hle c) (fun c => absurd hle c) (fun c => absurd hle c) (fun c => absurd hle c)
  · intro d hd ih
    have hlt : ¬ zI σ 2 8 ≤ nI d := by rw [k3]; exact nI_ge hd (by omega)
    have hTR := k4 d hd
    have hM := TR_M hTR
    have h72 := TR_72 hTR
    have hat : atR (zI σ 2 8) 30 (nI d) (zR σ 30 (ix (nI d))) = tA σ d := by
      rw [k3, ix, cl0 (by omega)]; exact atR_in (m := 30) hd (by omega) (by omega) (by decide)
    have h51 : zI σ (tA σ d) 0 = zI σ 51 d := by
      obtain ⟨m, t1, t2, t3, t4, t5, t6, -⟩ := hTR
      exact t6.1
    rw [← nI_1, tkM] at ih
    refine b_X11_cashAnew_29 hS (fun c => absurd c hlt) (fun _ c => absurd (hat.symm.trans c) (by omega)) (fun _ _ => by rw [hat]; exact hM.2.2.1.2.1) (fun _ _ c2 => ?_) (fun _ _ _ => by rw [hat, hM.2.2.2]; exact hM.2.2.1) (fun _ _ c2 => ?_)
    · rw [hat, h51] at c2
      rw [if_neg c2] at ih
      simpa using ih
    · rw [hat, h51] at c2
      rw [if_pos c2] at ih
      rw [hat, hM.2.2.2, ft_eq hTR]
      refine V_cast ?_ rfl rfl ih
      rw [show ∀ a b c : Int64, a + b + c = a + (b + c) from fun a b c => by grind]
