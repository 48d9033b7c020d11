/-! ===== calls: a fare ===== -/
set_option maxRecDepth 100000 in
set_option maxHeartbeats 4000000 in
theorem b_X11_fare_0 {g : GP} {CX : State → Array Value → Prop} {Q : AH → Option Value → Prop} {X : AH → String → Prop} {v1 : Int32} {v2 : Int32} {v3 : Int32} {v4 : Int32} {v5 : Int32} {v6 : Int32} {σ : AH}
    (hS : Sh σ)
    (k1 : (¬ (isPl v1)) → X σ "java/lang/IndexOutOfBoundsException")
    (k2 : (isPl v1) → (isPl v2) → (v1 = v2) → X σ "java/lang/IllegalArgumentException")
    (k3 : (isPl v1) → (isPl v2) → (¬ v1 = v2) → (¬ (isWi v3 (1 : Int32) (1000000 : Int32))) → X σ "java/lang/IllegalArgumentException")
    (k4 : (isPl v1) → (isPl v2) → (¬ v1 = v2) → (isWi v3 (1 : Int32) (1000000 : Int32)) → (¬ (isWi v4 (0 : Int32) (999 : Int32))) → X σ "java/lang/IllegalArgumentException")
    (k5 : (isPl v1) → (isPl v2) → (¬ v1 = v2) → (isWi v3 (1 : Int32) (1000000 : Int32)) → (isWi v4 (0 : Int32) (999 : Int32)) → (¬ (isWi v5 v4 (999 : Int32))) → X σ "java/lang/IllegalArgumentException")
    (o1 : (isPl v1) → (isPl v2) → (¬ v1 = v2) → (isWi v3 (1 : Int32) (1000000 : Int32)) → (isWi v4 (0 : Int32) (999 : Int32)) → (isWi v5 v4 (999 : Int32)) → (isWi v6 (0 : Int32) (7 : Int32)) → ((zI σ 3 4) < (40 : Int32)) → (zN σ + 1) ≠ 0 ∧ zK (nw σ 3 7) (zN σ + 1) = 3)
    (o2 : (isPl v1) → (isPl v2) → (¬ v1 = v2) → (isWi v3 (1 : Int32) (1000000 : Int32)) → (isWi v4 (0 : Int32) (999 : Int32)) → (isWi v5 v4 (999 : Int32)) → (isWi v6 (0 : Int32) (7 : Int32)) → ((zI σ 3 4) < (40 : Int32)) → (zN σ + 1) ≠ 0 ∧ zK (frH (nw σ 3 7) (zN σ + 1) v1 v2 v3 v4 v5 v6) (zN σ + 1) = 3)
    (o3 : (isPl v1) → (isPl v2) → (¬ v1 = v2) → (isWi v3 (1 : Int32) (1000000 : Int32)) → (isWi v4 (0 : Int32) (999 : Int32)) → (isWi v5 v4 (999 : Int32)) → (isWi v6 (0 : Int32) (7 : Int32)) → ((zI σ 3 4) < (40 : Int32)) → vp_in (zI (frH (nw σ 3 7) (zN σ + 1) v1 v2 v3 v4 v5 v6) 3 4) 40)
    (k6 : (isPl v1) → (isPl v2) → (¬ v1 = v2) → (isWi v3 (1 : Int32) (1000000 : Int32)) → (isWi v4 (0 : Int32) (999 : Int32)) → (isWi v5 v4 (999 : Int32)) → (isWi v6 (0 : Int32) (7 : Int32)) → ((zI σ 3 4) < (40 : Int32)) → Q (uI (uR (frH (nw σ 3 7) (zN σ + 1) v1 v2 v3 v4 v5 v6) 6 (ix (zI (frH (nw σ 3 7) (zN σ + 1) v1 v2 v3 v4 v5 v6) 3 4)) (zN σ + 1)) 3 4 (zI (frH (nw σ 3 7) (zN σ + 1) v1 v2 v3 v4 v5 v6) 3 4 + 1)) (some (.int (zI (frH (nw σ 3 7) (zN σ + 1) v1 v2 v3 v4 v5 v6) 3 4 + 1 - 1))))
    (k7 : (isPl v1) → (isPl v2) → (¬ v1 = v2) → (isWi v3 (1 : Int32) (1000000 : Int32)) → (isWi v4 (0 : Int32) (999 : Int32)) → (isWi v5 v4 (999 : Int32)) → (isWi v6 (0 : Int32) (7 : Int32)) → (¬ (zI σ 3 4) < (40 : Int32)) → X σ "java/lang/IllegalStateException")
    (k8 : (isPl v1) → (isPl v2) → (¬ v1 = v2) → (isWi v3 (1 : Int32) (1000000 : Int32)) → (isWi v4 (0 : Int32) (999 : Int32)) → (isWi v5 v4 (999 : Int32)) → (¬ (isWi v6 (0 : Int32) (7 : Int32))) → X σ "java/lang/IllegalArgumentException")
    (k9 : (isPl v1) → (¬ (isPl v2)) → X σ "java/lang/IndexOutOfBoundsException") :
    V g mX11_fare (Em g mX11_fare Q X) CX 2 13 0 [(0, .ref 2), (1, .int v1), (2, .int v2), (3, .int v3), (4, .int v4), (5, .int v5), (6, .int v6)] [] σ := by
  refine V_iload_n dX11_fare_0 rfl ?_
  refine V_callS1 (as := [.int v1]) (k' := 2) (n' := 13) (s_X11_isPlace) mw_X11_isPlace w_253 w_252 ar_X11_isPlace rfl ⟨rfl, rfl, rfl, rfl, rfl⟩ dX11_fare_1 ?_
  refine V_if_eq 14 dX11_fare_4 rfl (fun c1 => ?_) (fun c1 => ?_)
  · replace c1 := jb_0.mp c1
    exact V_throw (k := 2) (n := 13) tw_X11_61 ws_296 dX11_fare_14 dX11_fare_17 dX11_fare_18 dX11_fare_20 dX11_fare_23 rfl rfl rfl rfl rfl (k1 c1)
  · replace c1 := jb_n.mp c1
    refine V_iload_n dX11_fare_7 rfl ?_
    refine V_callS1 (as := [.int v2]) (k' := 2) (n' := 13) (s_X11_isPlace) mw_X11_isPlace w_253 w_252 ar_X11_isPlace rfl ⟨rfl, rfl, rfl, rfl, rfl⟩ dX11_fare_8 ?_
    refine V_if_ne 24 dX11_fare_11 rfl (fun c2 => ?_) (fun c2 => ?_)
    · replace c2 := jb_n.mp c2
      refine V_iload_n dX11_fare_24 rfl ?_
      refine V_iload_n dX11_fare_25 rfl ?_
      refine V_icmp_eq 75 dX11_fare_26 rfl (fun c3 => ?_) (fun c3 => ?_)
      · exact V_throw (k := 2) (n := 13) tw_X11_72 ws_467 dX11_fare_75 dX11_fare_78 dX11_fare_79 dX11_fare_81 dX11_fare_84 rfl rfl rfl rfl rfl (k2 c1 c2 c3)
      · refine V_iload_n dX11_fare_29 rfl ?_
        refine V_iconst (1 : Int32) dX11_fare_30 (by decide) ?_
        refine V_ldc (v := (1000000 : Int32)) w_466 dX11_fare_31 ?_
        refine V_callS1 (as := [.int v3, .int (1 : Int32), .int (1000000 : Int32)]) (k' := 2) (n' := 13) (s_X11_isWithin) mw_X11_isWithin w_324 w_323 ar_X11_isWithin rfl ⟨rfl, rfl, rfl, rfl, rfl⟩ dX11_fare_33 ?_
        refine V_if_eq 75 dX11_fare_36 rfl (fun c4 => ?_) (fun c4 => ?_)
        · replace c4 := jb_0.mp c4
          exact V_throw (k := 2) (n := 13) tw_X11_72 ws_467 dX11_fare_75 dX11_fare_78 dX11_fare_79 dX11_fare_81 dX11_fare_84 rfl rfl rfl rfl rfl (k3 c1 c2 c3 c4)
        · replace c4 := jb_n.mp c4
          refine V_iload dX11_fare_39 rfl ?_
          refine V_iconst (0 : Int32) dX11_fare_41 (by decide) ?_
          refine V_sipush (999 : Int32) dX11_fare_42 (by decide) ?_
          refine V_callS1 (as := [.int v4, .int (0 : Int32), .int (999 : Int32)]) (k' := 2) (n' := 13) (s_X11_isWithin) mw_X11_isWithin w_324 w_323 ar_X11_isWithin rfl ⟨rfl, rfl, rfl, rfl, rfl⟩ dX11_fare_45 ?_
          refine V_if_eq 75 dX11_fare_48 rfl (fun c5 => ?_) (fun c5 => ?_)
          · replace c5 := jb_0.mp c5
            exact V_throw (k := 2) (n := 13) tw_X11_72 ws_467 dX11_fare_75 dX11_fare_78 dX11_fare_79 dX11_fare_81 dX11_fare_84 rfl rfl rfl rfl rfl (k4 c1 c2 c3 c4 c5)
          · replace c5 := jb_n.mp c5
            refine V_iload dX11_fare_51 rfl ?_
            refine V_iload dX11_fare_53 rfl ?_
            refine V_sipush (999 : Int32) dX11_fare_55 (by decide) ?_
            refine V_callS1 (as := [.int v5, .int v4, .int (999 : Int32)]) (k' := 2) (n' := 13) (s_X11_isWithin) mw_X11_isWithin w_324 w_323 ar_X11_isWithin rfl ⟨rfl, rfl, rfl, rfl, rfl⟩ dX11_fare_58 ?_
            refine V_if_eq 75 dX11_fare_61 rfl (fun c6 => ?_) (fun c6 => ?_)
            · replace c6 := jb_0.mp c6
              exact V_throw (k := 2) (n := 13) tw_X11_72 ws_467 dX11_fare_75 dX11_fare_78 dX11_fare_79 dX11_fare_81 dX11_fare_84 rfl rfl rfl rfl rfl (k5 c1 c2 c3 c4 c5 c6)
            · replace c6 := jb_n.mp c6
              refine V_iload dX11_fare_64 rfl ?_
              refine V_iconst (0 : Int32) dX11_fare_66 (by decide) ?_
              refine V_bipush (7 : Int32) dX11_fare_67 (by decide) ?_
              refine V_callS1 (as := [.int v6, .int (0 : Int32), .int (7 : Int32)]) (k' := 2) (n' := 13) (s_X11_isWithin) mw_X11_isWithin w_324 w_323 ar_X11_isWithin rfl ⟨rfl, rfl, rfl, rfl, rfl⟩ dX11_fare_69 ?_
              refine V_if_ne 85 dX11_fare_72 rfl (fun c7 => ?_) (fun c7 => ?_)
              · replace c7 := jb_n.mp c7
                refine V_aload_n dX11_fare_85 rfl ?_
                refine V_getf (fk := 0) (Value.ref 3) ko_X11 rfl w_204 dX11_fare_86 (by decide) (shk hS 2 rfl) (congrArg Value.ref (shr hS 2 0 3 (by decide))) ?_
                refine V_getf (fk := 4) (Value.int (zI σ 3 4)) ko_X8 rfl w_74 dX11_fare_89 (by decide) (shk hS 3 rfl) rfl ?_
                refine V_bipush (40 : Int32) dX11_fare_92 (by decide) ?_
                refine V_icmp_lt 107 dX11_fare_94 rfl (fun c8 => ?_) (fun c8 => ?_)
                · refine V_aload_n dX11_fare_107 rfl ?_
                  refine V_getf (fk := 0) (Value.ref 3) ko_X11 rfl w_204 dX11_fare_108 (by decide) (shk hS 2 rfl) (congrArg Value.ref (shr hS 2 0 3 (by decide))) ?_
                  refine V_new (k' := 1) (n' := 6) ko_X3 kd_X3 w_484 w_485 w_35 dX11_fare_111 rfl rfl ?_
                  refine V_dup dX11_fare_114 rfl ?_
                  refine V_iload_n dX11_fare_115 rfl ?_
                  refine V_iload_n dX11_fare_116 rfl ?_
                  refine V_iload_n dX11_fare_117 rfl ?_
                  refine V_iload dX11_fare_118 rfl ?_
                  refine V_iload dX11_fare_120 rfl ?_
                  refine V_iload dX11_fare_122 rfl ?_
                  refine V_callI0 (as := [.int v1, .int v2, .int v3, .int v4, .int v5, .int v6]) (k' := 1) (n' := 6) (s_X3_init (o1 c1 c2 c3 c4 c5 c6 c7 c8)) mw_X3_init rfl rfl w_487 w_486 ar_X3_init rfl ⟨rfl, rfl, rfl, rfl, rfl⟩ dX11_fare_124 (Nat.succ_ne_zero _) ?_
                  refine V_callV1 (as := [.ref (zN σ + 1)]) (k' := 1) (n' := 6) (s_X8_file (Sh_frH (Sh_nw hS)) (o2 c1 c2 c3 c4 c5 c6 c7 c8) (o3 c1 c2 c3 c4 c5 c6 c7 c8)) mw_X8_file ko_X8 rfl w_515 w_516 w_514 ar_X8_file rfl ⟨rfl, rfl, rfl, rfl, rfl⟩ dX11_fare_127 (by decide) (shk (Sh_frH (Sh_nw hS)) 3 rfl) ?_
                  exact V_iret rfl dX11_fare_130 (k6 c1 c2 c3 c4 c5 c6 c7 c8)
                · exact V_throw (k := 2) (n := 13) tw_X11_94 ws_477 dX11_fare_97 dX11_fare_100 dX11_fare_101 dX11_fare_103 dX11_fare_106 rfl rfl rfl rfl rfl (k7 c1 c2 c3 c4 c5 c6 c7 c8)
              · replace c7 := jb_0.mp c7
                exact V_throw (k := 2) (n := 13) tw_X11_72 ws_467 dX11_fare_75 dX11_fare_78 dX11_fare_79 dX11_fare_81 dX11_fare_84 rfl rfl rfl rfl rfl (k8 c1 c2 c3 c4 c5 c6 c7)
    · replace c2 := jb_0.mp c2
      exact V_throw (k := 2) (n := 13) tw_X11_61 ws_296 dX11_fare_14 dX11_fare_17 dX11_fare_18 dX11_fare_20 dX11_fare_23 rfl rfl rfl rfl rfl (k9 c1 c2)

theorem frH_o {σ : AH} {a b j : Nat} {x y z f l s : Int32} (h : ¬ b = a) : zI (frH σ a x y z f l s) b j = zI σ b j := by
  rw [frH, zI_uI, if_neg (fun q => h q.1), zI_uI, if_neg (fun q => h q.1), zI_uI, if_neg (fun q => h q.1), zI_uI, if_neg (fun q => h q.1), zI_uI, if_neg (fun q => h q.1), zI_uI, if_neg (fun q => h q.1)]
theorem frH_a {σ : AH} {a : Nat} {x y z f l s : Int32} : zI (frH σ a x y z f l s) a 0 = x ∧ zI (frH σ a x y z f l s) a 1 = y ∧ zI (frH σ a x y z f l s) a 2 = z ∧ zI (frH σ a x y z f l s) a 3 = f ∧ zI (frH σ a x y z f l s) a 4 = l ∧ zI (frH σ a x y z f l s) a 5 = s ∧ zI (frH σ a x y z f l s) a 6 = zI σ a 6 := by
  rw [frH]
  refine ⟨?_, ?_, ?_, ?_, ?_, ?_, ?_⟩
  · rw [zI_uI, if_neg (by omega), zI_uI, if_neg (by omega), zI_uI, if_neg (by omega), zI_uI, if_neg (by omega), zI_uI, if_neg (by omega), zI_uI, if_pos ⟨rfl, rfl⟩]
  · rw [zI_uI, if_neg (by omega), zI_uI, if_neg (by omega), zI_uI, if_neg (by omega), zI_uI, if_neg (by omega), zI_uI, if_pos ⟨rfl, rfl⟩]
  · rw [zI_uI, if_neg (by omega), zI_uI, if_neg (by omega), zI_uI, if_neg (by omega), zI_uI, if_pos ⟨rfl, rfl⟩]
  · rw [zI_uI, if_neg (by omega), zI_uI, if_neg (by omega), zI_uI, if_pos ⟨rfl, rfl⟩]
  · rw [zI_uI, if_neg (by omega), zI_uI, if_pos ⟨rfl, rfl⟩]
  · rw [zI_uI, if_pos ⟨rfl, rfl⟩]
  · rw [zI_uI, if_neg (by omega), zI_uI, if_neg (by omega), zI_uI, if_neg (by omega), zI_uI, if_neg (by omega), zI_uI, if_neg (by omega), zI_uI, if_neg (by omega)]
def faW (σ : AH) (n : Nat) (x y z f l s : Int32) (w : Int64) : AH := uI (uI (uI (uI (uI (uI (uI (uI (uJ (uI (uR (frH (nw σ 3 7) (zN σ + 1) x y z f l s) 6 n (zN σ + 1)) 3 4 (nI (n + 1))) 72 0 w) 33 49 0) 39 n x) 40 n y) 41 n z) 42 n f) 43 n l) 44 n s) 33 6 (nI (n + 1))
theorem Rel_fare {i : Nat} {σ : AH} {n : Nat} {x y z f l s : Int32} {w : Int64} (hi : i < 512) (h : Rel i σ) (hn : n < 40) (h6 : zI σ 33 6 = nI n) (hz : bt z 1 1000000) (hs : bt s 0 7) :
    zI (faW σ n x y z f l s w) 33 49 = 0 ∧ Rel (i + 1) (faW σ n x y z f l s w) ∧ zJ (faW σ n x y z f l s w) 72 0 = w := by
  obtain ⟨h0, hS, hT, hJ, hP, hK, hB, hC⟩ := h
  have n72 := hS.1
  have eN : zN (faW σ n x y z f l s w) = zN σ + 1 := rfl
  have eK : ∀ b, zK (faW σ n x y z f l s w) b = if b = zN σ + 1 then 3 else zK σ b := fun _ => rfl
  have eL : ∀ b, zL (faW σ n x y z f l s w) b = if b = zN σ + 1 then 7 else zL σ b := fun _ => rfl
  have eR : ∀ a k, zR (faW σ n x y z f l s w) a k = if a = 6 ∧ k = n then zN σ + 1 else if a = zN σ + 1 then 0 else zR σ a k := fun _ _ => rfl
  have eJ : ∀ a k, a ≤ zN σ → a ≠ 72 → zJ (faW σ n x y z f l s w) a k = zJ σ a k := fun a k h1 h2 => by
    show (if a = 72 ∧ k = 0 then w else if a = zN σ + 1 then 0 else zJ σ a k) = _
    rw [if_neg (by omega), if_neg (by omega)]
  have e : ∀ a k, a ≤ zN σ → ¬ ((a = 3 ∧ k = 4) ∨ (39 ≤ a ∧ a ≤ 44 ∧ k = n) ∨ (a = 33 ∧ (k = 6 ∨ k = 49))) → zI (faW σ n x y z f l s w) a k = zI σ a k := fun a k h1 h2 => by
    rw [faW, zI_uI, if_neg (by omega), zI_uI, if_neg (by omega), zI_uI, if_neg (by omega), zI_uI, if_neg (by omega), zI_uI, if_neg (by omega), zI_uI, if_neg (by omega), zI_uI, if_neg (by omega), zI_uI, if_neg (by omega), zI_uJ, zI_uI, if_neg (by omega), zI_uR, frH_o (by omega), zI_nw, if_neg (by omega)]
  have ec : ∀ j, zI (faW σ n x y z f l s w) (zN σ + 1) j = zI (frH (nw σ 3 7) (zN σ + 1) x y z f l s) (zN σ + 1) j := fun j => by
    rw [faW, zI_uI, if_neg (by omega), zI_uI, if_neg (by omega), zI_uI, if_neg (by omega), zI_uI, if_neg (by omega), zI_uI, if_neg (by omega), zI_uI, if_neg (by omega), zI_uI, if_neg (by omega), zI_uI, if_neg (by omega), zI_uJ, zI_uI, if_neg (by omega), zI_uR]
  have r34 : zI (faW σ n x y z f l s w) 3 4 = nI (n + 1) := by
    rw [faW, zI_uI, if_neg (by omega), zI_uI, if_neg (by omega), zI_uI, if_neg (by omega), zI_uI, if_neg (by omega), zI_uI, if_neg (by omega), zI_uI, if_neg (by omega), zI_uI, if_neg (by omega), zI_uI, if_neg (by omega), zI_uJ, zI_uI, if_pos ⟨rfl, rfl⟩]
  have r39 : zI (faW σ n x y z f l s w) 39 n = x := by
    rw [faW, zI_uI, if_neg (by omega), zI_uI, if_neg (by omega), zI_uI, if_neg (by omega), zI_uI, if_neg (by omega), zI_uI, if_neg (by omega), zI_uI, if_neg (by omega), zI_uI, if_pos ⟨rfl, rfl⟩]
  have r40 : zI (faW σ n x y z f l s w) 40 n = y := by
    rw [faW, zI_uI, if_neg (by omega), zI_uI, if_neg (by omega), zI_uI, if_neg (by omega), zI_uI, if_neg (by omega), zI_uI, if_neg (by omega), zI_uI, if_pos ⟨rfl, rfl⟩]
  have r41 : zI (faW σ n x y z f l s w) 41 n = z := by
    rw [faW, zI_uI, if_neg (by omega), zI_uI, if_neg (by omega), zI_uI, if_neg (by omega), zI_uI, if_neg (by omega), zI_uI, if_pos ⟨rfl, rfl⟩]
  have r42 : zI (faW σ n x y z f l s w) 42 n = f := by
    rw [faW, zI_uI, if_neg (by omega), zI_uI, if_neg (by omega), zI_uI, if_neg (by omega), zI_uI, if_pos ⟨rfl, rfl⟩]
  have r43 : zI (faW σ n x y z f l s w) 43 n = l := by
    rw [faW, zI_uI, if_neg (by omega), zI_uI, if_neg (by omega), zI_uI, if_pos ⟨rfl, rfl⟩]
  have r44 : zI (faW σ n x y z f l s w) 44 n = s := by
    rw [faW, zI_uI, if_neg (by omega), zI_uI, if_pos ⟨rfl, rfl⟩]
  have r336 : zI (faW σ n x y z f l s w) 33 6 = nI (n + 1) := by
    rw [faW, zI_uI, if_pos ⟨rfl, rfl⟩]
  have hG : Gr (faW σ n x y z f l s w) σ := ⟨by rw [eN]; omega, fun a ha => ⟨by rw [eK, if_neg (by omega)], by rw [eL, if_neg (by omega)]⟩⟩
  have r49 : zI (faW σ n x y z f l s w) 33 49 = 0 := by
    rw [faW, zI_uI, if_neg (by omega), zI_uI, if_neg (by omega), zI_uI, if_neg (by omega), zI_uI, if_neg (by omega), zI_uI, if_neg (by omega), zI_uI, if_neg (by omega), zI_uI, if_neg (by omega), zI_uI, if_pos ⟨rfl, rfl⟩]
  have r72 : zJ (faW σ n x y z f l s w) 72 0 = w := by
    rw [faW, zJ_uI, zJ_uI, zJ_uI, zJ_uI, zJ_uI, zJ_uI, zJ_uI, zJ_uI, zJ_uJ, if_pos ⟨rfl, rfl⟩]
  generalize faW σ n x y z f l s w = ω at *
  have hSω : Sh ω := by
    refine ⟨by rw [eN]; omega, fun a h1 h2 => ?_, fun q hq => ?_, ?_⟩
    · rw [eK, eL, if_neg (by omega), if_neg (by omega)]; exact hS.2.1 a h1 h2
    · have h1 : (shRl.all fun q => Nat.ble q.1 72) = true := by decide
      have h2 := Nat.le_of_ble_eq_true (List.all_eq_true.mp h1 q hq)
      have h3 : (shRl.all fun q => !Nat.beq q.1 6) = true := by decide
      have h4 : ¬ q.1 = 6 := fun z => by
        have := List.all_eq_true.mp h3 q hq
        rw [z] at this
        exact absurd this (by decide)
      rw [eR, if_neg (by omega), if_neg (by omega)]; exact hS.2.2.1 q hq
    · rw [eK, if_neg (by omega)]; exact hS.2.2.2
  refine ⟨r49, ⟨hi, hSω, ?_, RJ_ag (e _ _ (by omega) (by omega)) (e _ _ (by omega) (by omega)) (fun a k _ _ => e _ _ (by omega) (by omega)) (fun a k _ _ => e _ _ (by omega) (by omega)) (fun k q => by rw [e 34 k (by omega) (by omega)]; exact q) hJ, RP_ag (fun a k q => e _ _ (by omega) (by omega)) hP, RK_ag hG (fun a k h1 hf => e _ _ h1 (by unfold FK at hf; omega)) (fun t => by rw [eR, if_neg (by omega), if_neg (by omega)]) (fun a k h1 h2 _ => by rw [eR, if_neg (by omega), if_neg (by omega)]) n72 hK, RB_s (Nat.le_succ i) (RB_ag hG (fun a k h1 hf => e _ _ h1 (by unfold FB at hf; omega)) (fun t => by rw [eR, if_neg (by omega), if_neg (by omega)]) n72 hB), RC_ag (fun a k q => eJ _ _ (by omega) (by omega)) (fun a k q => e _ _ (by omega) (by omega)) (fun t ht => ?_) hC⟩, r72⟩
  · obtain ⟨nf, t1, t2, t3, t4, t5, t6, t7, t8, t9, t10, t11, t12⟩ := hT
    have en : nf = n := by rw [t2] at h6; exact (nI_eq (by omega) (by omega)).mp h6
    subst en
    have fr := frH_a (σ := nw σ 3 7) (a := zN σ + 1) (x := x) (y := y) (z := z) (f := f) (l := l) (s := s)
    refine ⟨nf + 1, by omega, r336, r34, by rw [e 3 5 (by omega) (by omega), e 33 14 (by omega) (by omega)]; exact t4, by rw [e 33 14 (by omega) (by omega)]; exact t5, by rw [e 3 6 (by omega) (by omega), e 33 0 (by omega) (by omega)]; exact t6, by rw [e 33 0 (by omega) (by omega)]; exact t7, fun j hj => by rw [e 5 j (by omega) (by omega), e 34 j (by omega) (by omega)]; exact t8 j hj, fun j hj => by rw [e 7 j (by omega) (by omega), e 8 j (by omega) (by omega), e 37 j (by omega) (by omega), e 38 j (by omega) (by omega)]; exact t9 j hj, fun j hj => ?_, fun j hj => by rw [e 45 j (by omega) (by omega)]; exact t11 j (by omega), fun j k hj hk q => ?_⟩
    · unfold FO
      by_cases hjn : j = nf
      · subst hjn
        rw [eR, if_pos ⟨rfl, rfl⟩, eN, eK, if_pos rfl, ec, ec, ec, ec, ec, ec, ec, fr.1, fr.2.1, fr.2.2.1, fr.2.2.2.1, fr.2.2.2.2.1, fr.2.2.2.2.2.1, fr.2.2.2.2.2.2, r39, r40, r41, r42, r43, r44, e 45 j (by omega) (by omega), t11 j (Nat.le_refl _), zI_nw, if_pos rfl]
        exact ⟨⟨by omega, by omega, rfl⟩, rfl, rfl, rfl, rfl, rfl, rfl, rfl, hz, hs⟩
      · have hf := t10 j (by omega)
        unfold FO at hf
        obtain ⟨⟨f1, f2, f3⟩, f4⟩ := hf
        have em : ∀ a, 39 ≤ a → a ≤ 45 → zI ω a j = zI σ a j := fun a p q => e a j (by omega) (by omega)
        have ea : ∀ k, zI ω (zR σ 6 j) k = zI σ (zR σ 6 j) k := fun k => e _ _ f2 (by omega)
        rw [eR, if_neg (by omega), if_neg (by omega), eN, eK, if_neg (by omega), ea, ea, ea, ea, ea, ea, ea, em 39 (by decide) (by decide), em 40 (by decide) (by decide), em 41 (by decide) (by decide), em 42 (by decide) (by decide), em 43 (by decide) (by decide), em 44 (by decide) (by decide), em 45 (by decide) (by decide)]
        exact ⟨⟨f1, by omega, f3⟩, f4⟩
    · rw [eR, eR] at q
      by_cases hj1 : j = nf <;> by_cases hk1 : k = nf
      · omega
      · rw [if_pos ⟨rfl, hj1⟩, if_neg (by omega), if_neg (by omega)] at q
        have := (t10 k (by omega)).1.2.1
        omega
      · rw [if_neg (by omega), if_neg (by omega), if_pos ⟨rfl, hk1⟩] at q
        have := (t10 j (by omega)).1.2.1
        omega
      · rw [if_neg (by omega), if_neg (by omega), if_neg (by omega), if_neg (by omega)] at q
        exact t12 j k (by omega) (by omega) q
  · have hTR := RK_t hK ht
    obtain ⟨m, p1, p2, p3, p4, -⟩ := hTR
    rw [show tA ω t = tA σ t by rw [tA, eR, if_neg (by omega), if_neg (by omega)]]
    exact eJ _ _ p4.2 (by omega)

theorem R_fare {g : GP} {i : Nat} {σ : AH} {v1 v2 v3 v4 v5 v6 : Int32} (hi : i < 512) (h : Rel i σ) : CtH g mL_fare [.ref 2, .int v1, .int v2, .int v3, .int v4, .int v5, .int v6] σ (RQ [-1000001, -1000002, -1000003] (fun k τ => Gh (S12_fare v1 v2 v3 v4 v5 v6) τ (RE i k))) := by
  have hr := h
  obtain ⟨h0, hS, hT, hJ, hP, hK, hB, hC⟩ := h
  obtain ⟨nf, t1, t2, t3, -⟩ := id hT
  have n72 := hS.1
  have kn : zN σ + 1 ≠ 0 ∧ zK (nw σ 3 7) (zN σ + 1) = 3 := ⟨Nat.succ_ne_zero _, by rw [zK_nw, if_pos rfl]⟩
  have e34 : zI (frH (nw σ 3 7) (zN σ + 1) v1 v2 v3 v4 v5 v6) 3 4 = zI σ 3 4 := by rw [frH_o (by omega), zI_nw, if_neg (by omega)]
  have m1 : ¬ (isPl v1 ∧ isPl v2) → Gh (S12_fare v1 v2 v3 v4 v5 v6) σ (RE i 1) := fun c1 => s_X12_fare hS (RT_N hT) (fun _ => RE_no hi hr (Q4_refl σ) (by decide)) (fun q _ => absurd q c1) (fun q _ _ => absurd q c1) (fun q _ _ => absurd q c1)
  have m2 : (isPl v1 ∧ isPl v2) → ¬ (¬ v1 = v2 ∧ isWi v3 1 1000000 ∧ isWi v4 0 999 ∧ isWi v5 v4 999 ∧ isWi v6 0 7) → Gh (S12_fare v1 v2 v3 v4 v5 v6) σ (RE i 2) := fun c1 c2 => s_X12_fare hS (RT_N hT) (fun q => absurd c1 q) (fun _ _ => RE_no hi hr (Q4_refl σ) (by decide)) (fun _ q _ => absurd q c2) (fun _ q _ => absurd q c2)
  have m3 : (isPl v1 ∧ isPl v2) → (¬ v1 = v2 ∧ isWi v3 1 1000000 ∧ isWi v4 0 999 ∧ isWi v5 v4 999 ∧ isWi v6 0 7) → ¬ (¬ 40 ≤ zI σ 33 6) → Gh (S12_fare v1 v2 v3 v4 v5 v6) σ (RE i 3) := fun c1 c2 c3 => s_X12_fare hS (RT_N hT) (fun q => absurd c1 q) (fun _ q => absurd c2 q) (fun _ _ _ => RE_no hi hr (Q4_refl σ) (by decide)) (fun _ _ q => absurd q c3)
  refine w_L_fare (Q := QI (fun k τ => Gh (S12_fare v1 v2 v3 v4 v5 v6) τ (RE i k))) (X := X3 IOO IAE ISE (fun k τ => Gh (S12_fare v1 v2 v3 v4 v5 v6) τ (RE i k))) hS (CtX_of (by decide +kernel) rfl rfl (b_X11_fare_0 hS (fun c => Or.inl ⟨rfl, hS, m1 (fun q => c q.1)⟩) (fun c1 c2 c3 => Or.inr (Or.inl ⟨rfl, hS, m2 ⟨c1, c2⟩ (fun q => q.1 c3)⟩)) (fun c1 c2 c3 c4 => Or.inr (Or.inl ⟨rfl, hS, m2 ⟨c1, c2⟩ (fun q => c4 q.2.1)⟩)) (fun c1 c2 c3 c4 c5 => Or.inr (Or.inl ⟨rfl, hS, m2 ⟨c1, c2⟩ (fun q => c5 q.2.2.1)⟩)) (fun c1 c2 c3 c4 c5 c6 => Or.inr (Or.inl ⟨rfl, hS, m2 ⟨c1, c2⟩ (fun q => c6 q.2.2.2.1)⟩)) (fun _ _ _ _ _ _ _ _ => kn) (fun _ _ _ _ _ _ _ _ => kn) (fun _ _ _ _ _ _ _ c => ?_) (fun c1 c2 c3 c4 c5 c6 c7 c8 => ?_) (fun c1 c2 c3 c4 c5 c6 c7 c8 => Or.inr (Or.inr ⟨rfl, hS, m3 ⟨c1, c2⟩ ⟨c3, c4, c5, c6, c7⟩ (fun q => c8 (by rw [t3, ← t2]; exact Int32.not_le.mp q))⟩)) (fun c1 c2 c3 c4 c5 c6 c7 => Or.inr (Or.inl ⟨rfl, hS, m2 ⟨c1, c2⟩ (fun q => c7 q.2.2.2.2)⟩)) (fun _ c => Or.inl ⟨rfl, hS, m1 (fun q => c q.2)⟩))) QI_q X3_q
  · rw [e34, t3]
    rw [t3] at c
    exact vp_in_nI ((nI_ltI (by omega) (by decide)).mp (show nI nf < nI 40 from c)) (by decide)
  · have hlt : nf < 40 := by
      rw [t3] at c8
      exact (nI_ltI (by omega) (by decide)).mp (show nI nf < nI 40 from c8)
    have L := Rel_fare (x := v1) (y := v2) (z := v3) (f := v4) (l := v5) (s := v6) (w := Int32.toInt64 (nI nf)) hi hr hlt t2 (bt_wn (l := 1) (m := 1000000) (by decide) (by decide) c4) (bt_wn (l := 0) (m := 7) (by decide) (by decide) c7)
    have ep : nI nf + 1 - 1 = nI nf := by rw [nI_1, nI_pred]
    have hx : ix (nI nf) = nf := cl0 (by omega)
    rw [e34, t3, ep, hx, nI_1]
    have e336 : zI (uJ (uI (uR (frH (nw σ 3 7) (zN σ + 1) v1 v2 v3 v4 v5 v6) 6 nf (zN σ + 1)) 3 4 (nI (nf + 1))) 72 0 (Int32.toInt64 (nI nf))) 33 6 = nI nf := by
      rw [zI_uJ, zI_uI, if_neg (by omega), zI_uR, frH_o (by omega), zI_nw, if_neg (by omega)]; exact t2
    have hSκ : Sh (uI (uR (frH (nw σ 3 7) (zN σ + 1) v1 v2 v3 v4 v5 v6) 6 nf (zN σ + 1)) 3 4 (nI (nf + 1))) := Sh_uI (Sh_uRl (by decide) (Sh_frH (Sh_nw hS)))
    refine ⟨_, rfl, hSκ, s_X12_fare (σ := uJ (uI (uR (frH (nw σ 3 7) (zN σ + 1) v1 v2 v3 v4 v5 v6) 6 nf (zN σ + 1)) 3 4 (nI (nf + 1))) 72 0 (Int32.toInt64 (nI nf))) (Sh_uJ hSκ) (by rw [e336]; exact vp_in_nI (by omega) (by decide)) (fun q => absurd ⟨c1, c2⟩ q) (fun _ q => absurd ⟨c3, c4, c5, c6, c7⟩ q) (fun _ _ q => absurd (by rw [e336]; exact nI_ge (b := 40) hlt (by decide)) q) (fun _ _ _ => ?_)⟩
    rw [faN, e336, hx, nI_1, nI_pred]
    exact ⟨L.1, L.2.1, _, rfl, fun _ => L.2.2⟩
