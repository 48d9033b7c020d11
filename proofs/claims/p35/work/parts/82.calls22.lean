/-! ===== calls: a ticket is issued ===== -/
theorem isS_Sh {σ : AH} {y : Int32} (hS : Sh σ) : ∀ d, Sh (isS σ y d) ∧ zR (isS σ y d) (zN σ + 1) 3 = zN σ + 2 ∧ zN σ + 2 ≤ zN (isS σ y d)
  | 0 => by
    have h72 := hS.1
    have hi := IS_0 (y := y) h72
    exact ⟨IS_Sh hS hi, hi.2.2.1.2.2.2.2.2.2.2.2, by rw [isS, hi.1]; omega⟩
  | d + 1 => by
    obtain ⟨h1, h2, h3⟩ := isS_Sh (y := y) hS d
    have h72 := hS.1
    rw [isS]
    generalize isS σ y d = τ at *
    have ha : zN σ + 1 ≤ zN τ := by omega
    have hq : ∀ q ∈ shRl, q.1 ≤ 72 := fun q hq => by
      have h1 : (shRl.all fun q => Nat.ble q.1 72) = true := by decide
      exact Nat.le_of_ble_eq_true (List.all_eq_true.mp h1 q hq)
    refine ⟨⟨by rw [mc_N]; omega, fun a x1 x2 => ?_, fun q hm => ?_, ?_⟩, ?_, by rw [mc_N]; omega⟩
    · rw [mc_K, mc_L, if_neg (by omega), if_neg (by omega)]; exact h1.2.1 a x1 x2
    · have := hq q hm
      rw [mc_R ha, h2, if_neg (by omega), if_neg (by omega)]; exact h1.2.2.1 q hm
    · rw [mc_K, if_neg (by omega)]; exact h1.2.2.2
    · rw [mc_R ha, h2, if_neg (by omega), if_neg (by omega)]
theorem Sh_isX {σ : AH} {y : Int32} (hS : Sh σ) : Sh (isX σ y) := by
  rw [isX]
  exact Sh_uI (Sh_uI (Sh_uRl (by decide) (Sh_soT (isS_Sh hS _).1)))
theorem mono0 {σ : AH} (hJ : RJ σ) : ∀ k, k < lgN σ → zI σ 49 0 ≤ zI σ 49 k := by
  obtain ⟨L, h1, h2, h3, h4, h5, h6⟩ := hJ
  have hl : lgN σ = L := by rw [lgN, h2, cl0 (by omega)]
  rw [hl]
  intro k
  induction k with
  | zero => exact fun _ => Int32.le_refl _
  | succ k ih => exact fun hk => Int32.le_trans (ih (by omega)) (h6 k hk)
theorem cnF_e {τ σ : AH} (h : EqP τ σ) (h23 : zI τ 33 23 = zI σ 33 23) : cnF τ ↔ cnF σ := by
  have hl : lgN τ = lgN σ := by rw [lgN, lgN, h.2.2.2.1]
  rw [cnF, cnF, hl, cnD, cnD, h23, wayF_eq h, h.1]
  refine and_congr Iff.rfl (forall_congr' fun k => forall_congr' fun _ => ?_)
  rw [h.2.2.2.2 49 _ (by decide) (by decide)]
theorem EqP_flW {σ : AH} : EqP (flW σ) σ := ⟨flW_I (by decide), flW_I (by decide), flW_I (by decide), flW_I (by decide), fun a k x y => flW_I (by omega)⟩
theorem RK_28 {σ : AH} (hK : RK σ) : ∃ n, n ≤ 30 ∧ zI σ 33 23 = nI n ∧ zI σ 2 8 = nI n := by
  obtain ⟨n, h1, h2, h3, -⟩ := hK
  exact ⟨n, h1, h2, h3⟩
theorem RT_36 {σ : AH} (hT : RT σ) : zI σ 3 6 = zI σ 33 0 := by
  obtain ⟨nf, t1, t2, t3, t4, t5, t6, -⟩ := hT
  exact t6
theorem cb_cn {σ : AH} (hT : RT σ) (hJ : RJ σ) (hK : RK σ) : (¬ (zI (flW σ) 23 3) = -1 ∧ ¬ (¬ (zI (flW σ) 33 16) = 0 ∧ ¬ (zI (flW σ) 3 6) ≤ zI (flW σ) 49 0) ∧ ¬ 30 ≤ zI (flW σ) 2 8) ↔ cnF σ := by
  obtain ⟨n, n1, n2, n3⟩ := RK_28 hK
  obtain ⟨L, h1, h2, h3⟩ := RJ_L hJ
  have hl : lgN σ = L := by rw [lgN, h2, cl0 (by omega)]
  have hm := mono0 hJ
  rw [(flW_w hT hJ).1, flW_I (by decide), flW_I (by decide), flW_I (by decide), flW_I (by decide), RT_36 hT, n3, ← n2, cnF, cnD, hl]
  rw [hl] at hm
  constructor
  · rintro ⟨a, b, c⟩
    refine ⟨⟨c, a⟩, fun k hk q => b ⟨fun z => ?_, fun z => ?_⟩⟩
    · rw [h2] at z
      have := (nI_eq (b := 0) (by omega) (by decide)).mp z
      omega
    · exact (Int32.not_lt.mpr (Int32.le_trans z (hm k hk))) q
  · rintro ⟨⟨c, a⟩, b⟩
    refine ⟨a, fun ⟨z1, z2⟩ => ?_, c⟩
    have h0 : 0 < L := Nat.pos_of_ne_zero (fun q => z1 (by rw [h2, q]; rfl))
    exact b 0 h0 (Int32.not_le.mp z2)
theorem cn_L {σ : AH} (hJ : RJ σ) (h : cnF σ) : ∃ L, 1 ≤ L ∧ L ≤ 8 ∧ zI σ 33 16 = nI L := by
  obtain ⟨L, h1, h2, h3⟩ := RJ_L hJ
  refine ⟨L, Nat.pos_of_ne_zero (fun q => ?_), h1, h2⟩
  have := way_L0 (σ := σ) (by rw [h2, q]; rfl)
  have h' := h.1.2
  rw [this] at h'
  exact h' rfl
theorem cn_n {σ : AH} (hK : RK σ) (h : cnF σ) : ∃ n, n < 30 ∧ zI σ 33 23 = nI n ∧ zI σ 2 8 = nI n := by
  obtain ⟨n, n1, n2, n3⟩ := RK_28 hK
  refine ⟨n, ?_, n2, n3⟩
  have h' := h.1.1
  rw [n2] at h'
  rcases Nat.lt_or_ge n 30 with q | q
  · exact q
  · have : n = 30 := by omega
    rw [this] at h'
    exact absurd (Int32.le_refl _) h'
/-- heaps that differ where nobody looks, and in coupons' statuses: the tariff, the journey .. -/
theorem ag_T {κ σ : AH} (k4 : zN κ = zN σ ∧ zK κ = zK σ ∧ zL κ = zL σ ∧ zR κ = zR σ) (kI : ∀ a j, ¬ QU a j → a ≠ 55 → ¬ (72 < a ∧ j = 7 ∧ zK σ a = 2) → zI κ a j = zI σ a j) (hS : Sh σ) (hT : RT σ) (hJ : RJ σ) (hP : RP σ) : Sh κ ∧ RT κ ∧ RJ κ ∧ RP κ := by
  obtain ⟨k1, k2, k3, k5⟩ := k4
  refine ⟨⟨by rw [k1]; exact hS.1, fun b x1 x2 => by rw [k2, k3]; exact hS.2.1 b x1 x2, fun q hq => by rw [k5]; exact hS.2.2.1 q hq, by rw [k2]; exact hS.2.2.2⟩, ?_, ?_, ?_⟩
  · exact RT_ag ⟨by rw [k1]; exact Nat.le_refl _, fun a _ => ⟨by rw [k2], by rw [k3]⟩⟩ (fun a k _ hf => kI a k (by unfold FT at hf; unfold QU; omega) (by unfold FT at hf; omega) (by unfold FT at hf; omega)) (fun k => by rw [k5]) hS.1 hT
  · exact RJ_ag (kI _ _ (by unfold QU; omega) (by omega) (by omega)) (kI _ _ (by unfold QU; omega) (by omega) (by omega)) (fun a k _ _ => kI _ _ (by unfold QU; omega) (by omega) (by omega)) (fun a k _ _ => kI _ _ (by unfold QU; omega) (by omega) (by omega)) (fun k q => by rw [kI 34 k (by unfold QU; omega) (by omega) (by omega)]; exact q) hJ
  · exact RP_ag (fun a k q => kI _ _ (by unfold QU; omega) (by omega) (by omega)) hP
set_option maxRecDepth 100000 in
set_option maxHeartbeats 4000000 in
theorem b_X11_issue_0 {g : GP} {CX : State → Array Value → Prop} {Q : AH → Option Value → Prop} {X : AH → String → Prop} {v1 : Int32} {σ : AH}
    (hS : Sh σ)
    (o1 : (isCa v1) → RT σ)
    (o2 : (isCa v1) → RJ σ)
    (o3 : (isCa v1) → RJ (flW σ))
    (o4 : (isCa v1) → (¬ (zI (flW σ) 23 3) = -1 ∧ ¬ (¬ (zI (flW σ) 33 16) = 0 ∧ ¬ (zI (flW σ) 3 6) ≤ zI (flW σ) 49 0) ∧ ¬ 30 ≤ zI (flW σ) 2 8) → RT (flW σ))
    (o5 : (isCa v1) → (¬ (zI (flW σ) 23 3) = -1 ∧ ¬ (¬ (zI (flW σ) 33 16) = 0 ∧ ¬ (zI (flW σ) 3 6) ≤ zI (flW σ) 49 0) ∧ ¬ 30 ≤ zI (flW σ) 2 8) → RP (flW σ))
    (o6 : (isCa v1) → (¬ (zI (flW σ) 23 3) = -1 ∧ ¬ (¬ (zI (flW σ) 33 16) = 0 ∧ ¬ (zI (flW σ) 3 6) ≤ zI (flW σ) 49 0) ∧ ¬ 30 ≤ zI (flW σ) 2 8) → ¬ zI (flW σ) 33 16 = 0)
    (o7 : (isCa v1) → (¬ (zI (flW σ) 23 3) = -1 ∧ ¬ (¬ (zI (flW σ) 33 16) = 0 ∧ ¬ (zI (flW σ) 3 6) ≤ zI (flW σ) 49 0) ∧ ¬ 30 ≤ zI (flW σ) 2 8) → vp_in (zI (flW σ) 2 8) 30)
    (o8 : (isCa v1) → (¬ (zI (flW σ) 23 3) = -1 ∧ ¬ (¬ (zI (flW σ) 33 16) = 0 ∧ ¬ (zI (flW σ) 3 6) ≤ zI (flW σ) 49 0) ∧ ¬ 30 ≤ zI (flW σ) 2 8) → zN (flW σ) + 1 ≠ 0)
    (o9 : (isCa v1) → (¬ (zI (flW σ) 23 3) = -1 ∧ ¬ (¬ (zI (flW σ) 33 16) = 0 ∧ ¬ (zI (flW σ) 3 6) ≤ zI (flW σ) 49 0) ∧ ¬ 30 ≤ zI (flW σ) 2 8) → zK (isX (flW σ) v1) (zN (flW σ) + 1) = 9)
    (o10 : (isCa v1) → (¬ (zI (flW σ) 23 3) = -1 ∧ ¬ (¬ (zI (flW σ) 33 16) = 0 ∧ ¬ (zI (flW σ) 3 6) ≤ zI (flW σ) 49 0) ∧ ¬ 30 ≤ zI (flW σ) 2 8) → 72 < (zN (flW σ) + 1))
    (o11 : (isCa v1) → (¬ (zI (flW σ) 23 3) = -1 ∧ ¬ (¬ (zI (flW σ) 33 16) = 0 ∧ ¬ (zI (flW σ) 3 6) ≤ zI (flW σ) 49 0) ∧ ¬ 30 ≤ zI (flW σ) 2 8) → isCa (zI (isX (flW σ) v1) (zN (flW σ) + 1) 0))
    (k1 : (isCa v1) → (¬ (zI (flW σ) 23 3) = -1 ∧ ¬ (¬ (zI (flW σ) 33 16) = 0 ∧ ¬ (zI (flW σ) 3 6) ≤ zI (flW σ) 49 0) ∧ ¬ 30 ≤ zI (flW σ) 2 8) → Q (rcH (isX (flW σ) v1) (zN (flW σ) + 1) ((zI (isX (flW σ) v1) (zN (flW σ) + 1) 1) + (zI (isX (flW σ) v1) (zN (flW σ) + 1) 5))) (some (.int ((zI (rcH (isX (flW σ) v1) (zN (flW σ) + 1) ((zI (isX (flW σ) v1) (zN (flW σ) + 1) 1) + (zI (isX (flW σ) v1) (zN (flW σ) + 1) 5))) 2 8) - (1 : Int32)))))
    (k2 : (isCa v1) → (¬ (¬ (zI (flW σ) 23 3) = -1 ∧ ¬ (¬ (zI (flW σ) 33 16) = 0 ∧ ¬ (zI (flW σ) 3 6) ≤ zI (flW σ) 49 0) ∧ ¬ 30 ≤ zI (flW σ) 2 8)) → X (flW σ) "java/lang/IllegalStateException")
    (k3 : (¬ (isCa v1)) → X σ "java/lang/IndexOutOfBoundsException") :
    V g mX11_issue (Em g mX11_issue Q X) CX 11 94 0 [(0, .ref 2), (1, .int v1)] [] σ := by
  refine V_iload_n dX11_issue_0 rfl ?_
  refine V_callS1 (as := [.int v1]) (k' := 11) (n' := 94) (s_X11_isCarrier) mw_X11_isCarrier w_364 w_363 ar_X11_isCarrier rfl ⟨rfl, rfl, rfl, rfl, rfl⟩ dX11_issue_1 ?_
  refine V_if_ne 17 dX11_issue_4 rfl (fun c1 => ?_) (fun c1 => ?_)
  · replace c1 := jb_n.mp c1
    refine V_aload_n dX11_issue_17 rfl ?_
    refine V_getf (fk := 3) (Value.ref 23) ko_X11 rfl w_207 dX11_issue_18 (by decide) (shk hS 2 rfl) (congrArg Value.ref (shr hS 2 3 23 (by decide))) ?_
    refine V_aload_n dX11_issue_21 rfl ?_
    refine V_getf (fk := 2) (Value.ref 13) ko_X11 rfl w_206 dX11_issue_22 (by decide) (shk hS 2 rfl) (congrArg Value.ref (shr hS 2 2 13 (by decide))) ?_
    refine V_aload_n dX11_issue_25 rfl ?_
    refine V_getf (fk := 0) (Value.ref 3) ko_X11 rfl w_204 dX11_issue_26 (by decide) (shk hS 2 rfl) (congrArg Value.ref (shr hS 2 0 3 (by decide))) ?_
    refine V_callV0 (as := [.ref 13, .ref 3]) (k' := 11) (n' := 94) (s_X10_findLeast hS (o1 c1) (o2 c1)) mw_X10_findLeast ko_X10 rfl w_612 w_613 w_611 ar_X10_findLeast rfl ⟨rfl, rfl, rfl, rfl, rfl⟩ dX11_issue_29 (by decide) (shk hS 23 rfl) ?_
    refine V_aload_n dX11_issue_32 rfl ?_
    refine V_callV1 (as := []) (k' := 11) (n' := 94) (s_X11_canBeIssued (Sh_flW hS) (o3 c1)) mw_X11_canBeIssued ko_X11 rfl w_710 w_8 w_708 ar_X11_canBeIssued rfl ⟨rfl, rfl, rfl, rfl, rfl⟩ dX11_issue_33 (by decide) (shk (Sh_flW hS) 2 rfl) ?_
    refine V_if_ne 49 dX11_issue_36 rfl (fun c2 => ?_) (fun c2 => ?_)
    · replace c2 := jb_n.mp c2
      refine V_aload_n dX11_issue_49 rfl ?_
      refine V_iload_n dX11_issue_50 rfl ?_
      refine V_callV1 (as := [.int v1]) (k' := 1) (n' := 6) (s_X11_issued (Sh_flW hS) (o4 c1 c2) (o3 c1) (o5 c1 c2) (o6 c1 c2) (o7 c1 c2)) mw_X11_issued ko_X11 rfl w_719 w_9 w_717 ar_X11_issued rfl ⟨rfl, rfl, rfl, rfl, rfl⟩ dX11_issue_51 (by decide) (shk (Sh_flW hS) 2 rfl) ?_
      refine V_astore_n [(0, .ref 2), (1, .int v1), (2, .ref (zN (flW σ) + 1))] dX11_issue_54 rfl rfl ?_
      refine V_aload_n dX11_issue_55 rfl ?_
      refine V_aload_n dX11_issue_56 rfl ?_
      refine V_aload_n dX11_issue_57 rfl ?_
      refine V_getf (fk := 1) (Value.int (zI (isX (flW σ) v1) (zN (flW σ) + 1) 1)) ko_X9 rfl w_731 dX11_issue_58 (o8 c1 c2) (o9 c1 c2) rfl ?_
      refine V_aload_n dX11_issue_61 rfl ?_
      refine V_getf (fk := 5) (Value.int (zI (isX (flW σ) v1) (zN (flW σ) + 1) 5)) ko_X9 rfl w_738 dX11_issue_62 (o8 c1 c2) (o9 c1 c2) rfl ?_
      refine V_iadd dX11_issue_65 ?_
      refine V_callV0 (as := [.ref (zN (flW σ) + 1), .int ((zI (isX (flW σ) v1) (zN (flW σ) + 1) 1) + (zI (isX (flW σ) v1) (zN (flW σ) + 1) 5))]) (k' := 1) (n' := 6) (s_X11_receive (Sh_isX (Sh_flW hS)) (o10 c1 c2) (o9 c1 c2) (o11 c1 c2)) mw_X11_receive ko_X11 rfl w_842 w_13 w_840 ar_X11_receive rfl ⟨rfl, rfl, rfl, rfl, rfl⟩ dX11_issue_66 (by decide) (shk (Sh_isX (Sh_flW hS)) 2 rfl) ?_
      refine V_aload_n dX11_issue_69 rfl ?_
      refine V_getf (fk := 8) (Value.int (zI (rcH (isX (flW σ) v1) (zN (flW σ) + 1) ((zI (isX (flW σ) v1) (zN (flW σ) + 1) 1) + (zI (isX (flW σ) v1) (zN (flW σ) + 1) 5))) 2 8)) ko_X11 rfl w_212 dX11_issue_70 (by decide) (shk (Sh_uJ (Sh_uJ (Sh_uJ (Sh_isX (Sh_flW hS))))) 2 rfl) rfl ?_
      refine V_iconst (1 : Int32) dX11_issue_73 (by decide) ?_
      refine V_isub dX11_issue_74 ?_
      exact V_iret rfl dX11_issue_75 (k1 c1 c2)
    · replace c2 := jb_0.mp c2
      exact V_throw (k := 11) (n := 94) tw_X11_94 ws_716 dX11_issue_39 dX11_issue_42 dX11_issue_43 dX11_issue_45 dX11_issue_48 rfl rfl rfl rfl rfl (k2 c1 c2)
  · replace c1 := jb_0.mp c1
    exact V_throw (k := 11) (n := 94) tw_X11_61 ws_366 dX11_issue_7 dX11_issue_10 dX11_issue_11 dX11_issue_13 dX11_issue_16 rfl rfl rfl rfl rfl (k3 c1)

set_option maxRecDepth 100000 in
set_option maxHeartbeats 4000000 in
theorem b_X11_reissue_0 {g : GP} {CX : State → Array Value → Prop} {Q : AH → Option Value → Prop} {X : AH → String → Prop} {v1 : Int32} {σ : AH}
    (hS : Sh σ)
    (o1 : (¬ atR (zI σ 2 8) 30 v1 (zR σ 30 (ix v1)) = 0) → RT σ)
    (o2 : (¬ atR (zI σ 2 8) 30 v1 (zR σ 30 (ix v1)) = 0) → RJ σ)
    (o3 : (¬ atR (zI σ 2 8) 30 v1 (zR σ 30 (ix v1)) = 0) → TS (flW σ) (atR (zI σ 2 8) 30 v1 (zR σ 30 (ix v1))) (ix (zI (flW σ) (atR (zI σ 2 8) 30 v1 (zR σ 30 (ix v1))) 4)))
    (o4 : (¬ atR (zI σ 2 8) 30 v1 (zR σ 30 (ix v1)) = 0) → zK (flW σ) (atR (zI σ 2 8) 30 v1 (zR σ 30 (ix v1))) = 9)
    (k1 : (¬ atR (zI σ 2 8) 30 v1 (zR σ 30 (ix v1)) = 0) → (¬ (opA (flW σ) (atR (zI σ 2 8) 30 v1 (zR σ 30 (ix v1))) (ix (zI (flW σ) (atR (zI σ 2 8) 30 v1 (zR σ 30 (ix v1))) 4)))) → X (flW σ) "java/lang/IllegalStateException")
    (o5 : (¬ atR (zI σ 2 8) 30 v1 (zR σ 30 (ix v1)) = 0) → (opA (flW σ) (atR (zI σ 2 8) 30 v1 (zR σ 30 (ix v1))) (ix (zI (flW σ) (atR (zI σ 2 8) 30 v1 (zR σ 30 (ix v1))) 4))) → RJ (flW σ))
    (o6 : (¬ atR (zI σ 2 8) 30 v1 (zR σ 30 (ix v1)) = 0) → (opA (flW σ) (atR (zI σ 2 8) 30 v1 (zR σ 30 (ix v1))) (ix (zI (flW σ) (atR (zI σ 2 8) 30 v1 (zR σ 30 (ix v1))) 4))) → (¬ (zI (flW σ) 23 3) = -1 ∧ ¬ (¬ (zI (flW σ) 33 16) = 0 ∧ ¬ (zI (flW σ) 3 6) ≤ zI (flW σ) 49 0) ∧ ¬ 30 ≤ zI (flW σ) 2 8) → tuS (flW σ) (atR (zI σ 2 8) 30 v1 (zR σ 30 (ix v1))) (zI (flW σ) (atR (zI σ 2 8) 30 v1 (zR σ 30 (ix v1))) 4))
    (o7 : (¬ atR (zI σ 2 8) 30 v1 (zR σ 30 (ix v1)) = 0) → (opA (flW σ) (atR (zI σ 2 8) 30 v1 (zR σ 30 (ix v1))) (ix (zI (flW σ) (atR (zI σ 2 8) 30 v1 (zR σ 30 (ix v1))) 4))) → (¬ (zI (flW σ) 23 3) = -1 ∧ ¬ (¬ (zI (flW σ) 33 16) = 0 ∧ ¬ (zI (flW σ) 3 6) ≤ zI (flW σ) 49 0) ∧ ¬ 30 ≤ zI (flW σ) 2 8) → zK (toA (flW σ) (atR (zI σ 2 8) 30 v1 (zR σ 30 (ix v1))) (4 : Int32) (ix (zI (flW σ) (atR (zI σ 2 8) 30 v1 (zR σ 30 (ix v1))) 4))) (atR (zI σ 2 8) 30 v1 (zR σ 30 (ix v1))) = 9)
    (o8 : (¬ atR (zI σ 2 8) 30 v1 (zR σ 30 (ix v1)) = 0) → (opA (flW σ) (atR (zI σ 2 8) 30 v1 (zR σ 30 (ix v1))) (ix (zI (flW σ) (atR (zI σ 2 8) 30 v1 (zR σ 30 (ix v1))) 4))) → (¬ (zI (flW σ) 23 3) = -1 ∧ ¬ (¬ (zI (flW σ) 33 16) = 0 ∧ ¬ (zI (flW σ) 3 6) ≤ zI (flW σ) 49 0) ∧ ¬ 30 ≤ zI (flW σ) 2 8) → RT (toA (flW σ) (atR (zI σ 2 8) 30 v1 (zR σ 30 (ix v1))) (4 : Int32) (ix (zI (flW σ) (atR (zI σ 2 8) 30 v1 (zR σ 30 (ix v1))) 4))))
    (o9 : (¬ atR (zI σ 2 8) 30 v1 (zR σ 30 (ix v1)) = 0) → (opA (flW σ) (atR (zI σ 2 8) 30 v1 (zR σ 30 (ix v1))) (ix (zI (flW σ) (atR (zI σ 2 8) 30 v1 (zR σ 30 (ix v1))) 4))) → (¬ (zI (flW σ) 23 3) = -1 ∧ ¬ (¬ (zI (flW σ) 33 16) = 0 ∧ ¬ (zI (flW σ) 3 6) ≤ zI (flW σ) 49 0) ∧ ¬ 30 ≤ zI (flW σ) 2 8) → RJ (toA (flW σ) (atR (zI σ 2 8) 30 v1 (zR σ 30 (ix v1))) (4 : Int32) (ix (zI (flW σ) (atR (zI σ 2 8) 30 v1 (zR σ 30 (ix v1))) 4))))
    (o10 : (¬ atR (zI σ 2 8) 30 v1 (zR σ 30 (ix v1)) = 0) → (opA (flW σ) (atR (zI σ 2 8) 30 v1 (zR σ 30 (ix v1))) (ix (zI (flW σ) (atR (zI σ 2 8) 30 v1 (zR σ 30 (ix v1))) 4))) → (¬ (zI (flW σ) 23 3) = -1 ∧ ¬ (¬ (zI (flW σ) 33 16) = 0 ∧ ¬ (zI (flW σ) 3 6) ≤ zI (flW σ) 49 0) ∧ ¬ 30 ≤ zI (flW σ) 2 8) → RP (toA (flW σ) (atR (zI σ 2 8) 30 v1 (zR σ 30 (ix v1))) (4 : Int32) (ix (zI (flW σ) (atR (zI σ 2 8) 30 v1 (zR σ 30 (ix v1))) 4))))
    (o11 : (¬ atR (zI σ 2 8) 30 v1 (zR σ 30 (ix v1)) = 0) → (opA (flW σ) (atR (zI σ 2 8) 30 v1 (zR σ 30 (ix v1))) (ix (zI (flW σ) (atR (zI σ 2 8) 30 v1 (zR σ 30 (ix v1))) 4))) → (¬ (zI (flW σ) 23 3) = -1 ∧ ¬ (¬ (zI (flW σ) 33 16) = 0 ∧ ¬ (zI (flW σ) 3 6) ≤ zI (flW σ) 49 0) ∧ ¬ 30 ≤ zI (flW σ) 2 8) → ¬ zI (toA (flW σ) (atR (zI σ 2 8) 30 v1 (zR σ 30 (ix v1))) (4 : Int32) (ix (zI (flW σ) (atR (zI σ 2 8) 30 v1 (zR σ 30 (ix v1))) 4))) 33 16 = 0)
    (o12 : (¬ atR (zI σ 2 8) 30 v1 (zR σ 30 (ix v1)) = 0) → (opA (flW σ) (atR (zI σ 2 8) 30 v1 (zR σ 30 (ix v1))) (ix (zI (flW σ) (atR (zI σ 2 8) 30 v1 (zR σ 30 (ix v1))) 4))) → (¬ (zI (flW σ) 23 3) = -1 ∧ ¬ (¬ (zI (flW σ) 33 16) = 0 ∧ ¬ (zI (flW σ) 3 6) ≤ zI (flW σ) 49 0) ∧ ¬ 30 ≤ zI (flW σ) 2 8) → vp_in (zI (toA (flW σ) (atR (zI σ 2 8) 30 v1 (zR σ 30 (ix v1))) (4 : Int32) (ix (zI (flW σ) (atR (zI σ 2 8) 30 v1 (zR σ 30 (ix v1))) 4))) 2 8) 30)
    (o13 : (¬ atR (zI σ 2 8) 30 v1 (zR σ 30 (ix v1)) = 0) → (opA (flW σ) (atR (zI σ 2 8) 30 v1 (zR σ 30 (ix v1))) (ix (zI (flW σ) (atR (zI σ 2 8) 30 v1 (zR σ 30 (ix v1))) 4))) → (¬ (zI (flW σ) 23 3) = -1 ∧ ¬ (¬ (zI (flW σ) 33 16) = 0 ∧ ¬ (zI (flW σ) 3 6) ≤ zI (flW σ) 49 0) ∧ ¬ 30 ≤ zI (flW σ) 2 8) → zN (toA (flW σ) (atR (zI σ 2 8) 30 v1 (zR σ 30 (ix v1))) (4 : Int32) (ix (zI (flW σ) (atR (zI σ 2 8) 30 v1 (zR σ 30 (ix v1))) 4))) + 1 ≠ 0)
    (o14 : (¬ atR (zI σ 2 8) 30 v1 (zR σ 30 (ix v1)) = 0) → (opA (flW σ) (atR (zI σ 2 8) 30 v1 (zR σ 30 (ix v1))) (ix (zI (flW σ) (atR (zI σ 2 8) 30 v1 (zR σ 30 (ix v1))) 4))) → (¬ (zI (flW σ) 23 3) = -1 ∧ ¬ (¬ (zI (flW σ) 33 16) = 0 ∧ ¬ (zI (flW σ) 3 6) ≤ zI (flW σ) 49 0) ∧ ¬ 30 ≤ zI (flW σ) 2 8) → zK (isX (toA (flW σ) (atR (zI σ 2 8) 30 v1 (zR σ 30 (ix v1))) (4 : Int32) (ix (zI (flW σ) (atR (zI σ 2 8) 30 v1 (zR σ 30 (ix v1))) 4))) (zI (toA (flW σ) (atR (zI σ 2 8) 30 v1 (zR σ 30 (ix v1))) (4 : Int32) (ix (zI (flW σ) (atR (zI σ 2 8) 30 v1 (zR σ 30 (ix v1))) 4))) (atR (zI σ 2 8) 30 v1 (zR σ 30 (ix v1))) 0)) (zN (toA (flW σ) (atR (zI σ 2 8) 30 v1 (zR σ 30 (ix v1))) (4 : Int32) (ix (zI (flW σ) (atR (zI σ 2 8) 30 v1 (zR σ 30 (ix v1))) 4))) + 1) = 9)
    (o15 : (¬ atR (zI σ 2 8) 30 v1 (zR σ 30 (ix v1)) = 0) → (opA (flW σ) (atR (zI σ 2 8) 30 v1 (zR σ 30 (ix v1))) (ix (zI (flW σ) (atR (zI σ 2 8) 30 v1 (zR σ 30 (ix v1))) 4))) → (¬ (zI (flW σ) 23 3) = -1 ∧ ¬ (¬ (zI (flW σ) 33 16) = 0 ∧ ¬ (zI (flW σ) 3 6) ≤ zI (flW σ) 49 0) ∧ ¬ 30 ≤ zI (flW σ) 2 8) → 72 < (zN (toA (flW σ) (atR (zI σ 2 8) 30 v1 (zR σ 30 (ix v1))) (4 : Int32) (ix (zI (flW σ) (atR (zI σ 2 8) 30 v1 (zR σ 30 (ix v1))) 4))) + 1))
    (o16 : (¬ atR (zI σ 2 8) 30 v1 (zR σ 30 (ix v1)) = 0) → (opA (flW σ) (atR (zI σ 2 8) 30 v1 (zR σ 30 (ix v1))) (ix (zI (flW σ) (atR (zI σ 2 8) 30 v1 (zR σ 30 (ix v1))) 4))) → (¬ (zI (flW σ) 23 3) = -1 ∧ ¬ (¬ (zI (flW σ) 33 16) = 0 ∧ ¬ (zI (flW σ) 3 6) ≤ zI (flW σ) 49 0) ∧ ¬ 30 ≤ zI (flW σ) 2 8) → isCa (zI (isX (toA (flW σ) (atR (zI σ 2 8) 30 v1 (zR σ 30 (ix v1))) (4 : Int32) (ix (zI (flW σ) (atR (zI σ 2 8) 30 v1 (zR σ 30 (ix v1))) 4))) (zI (toA (flW σ) (atR (zI σ 2 8) 30 v1 (zR σ 30 (ix v1))) (4 : Int32) (ix (zI (flW σ) (atR (zI σ 2 8) 30 v1 (zR σ 30 (ix v1))) 4))) (atR (zI σ 2 8) 30 v1 (zR σ 30 (ix v1))) 0)) (zN (toA (flW σ) (atR (zI σ 2 8) 30 v1 (zR σ 30 (ix v1))) (4 : Int32) (ix (zI (flW σ) (atR (zI σ 2 8) 30 v1 (zR σ 30 (ix v1))) 4))) + 1) 0))
    (k2 : (¬ atR (zI σ 2 8) 30 v1 (zR σ 30 (ix v1)) = 0) → (opA (flW σ) (atR (zI σ 2 8) 30 v1 (zR σ 30 (ix v1))) (ix (zI (flW σ) (atR (zI σ 2 8) 30 v1 (zR σ 30 (ix v1))) 4))) → (¬ (zI (flW σ) 23 3) = -1 ∧ ¬ (¬ (zI (flW σ) 33 16) = 0 ∧ ¬ (zI (flW σ) 3 6) ≤ zI (flW σ) 49 0) ∧ ¬ 30 ≤ zI (flW σ) 2 8) → Q (rcH (isX (toA (flW σ) (atR (zI σ 2 8) 30 v1 (zR σ 30 (ix v1))) (4 : Int32) (ix (zI (flW σ) (atR (zI σ 2 8) 30 v1 (zR σ 30 (ix v1))) 4))) (zI (toA (flW σ) (atR (zI σ 2 8) 30 v1 (zR σ 30 (ix v1))) (4 : Int32) (ix (zI (flW σ) (atR (zI σ 2 8) 30 v1 (zR σ 30 (ix v1))) 4))) (atR (zI σ 2 8) 30 v1 (zR σ 30 (ix v1))) 0)) (zN (toA (flW σ) (atR (zI σ 2 8) 30 v1 (zR σ 30 (ix v1))) (4 : Int32) (ix (zI (flW σ) (atR (zI σ 2 8) 30 v1 (zR σ 30 (ix v1))) 4))) + 1) (((zI (isX (toA (flW σ) (atR (zI σ 2 8) 30 v1 (zR σ 30 (ix v1))) (4 : Int32) (ix (zI (flW σ) (atR (zI σ 2 8) 30 v1 (zR σ 30 (ix v1))) 4))) (zI (toA (flW σ) (atR (zI σ 2 8) 30 v1 (zR σ 30 (ix v1))) (4 : Int32) (ix (zI (flW σ) (atR (zI σ 2 8) 30 v1 (zR σ 30 (ix v1))) 4))) (atR (zI σ 2 8) 30 v1 (zR σ 30 (ix v1))) 0)) (zN (toA (flW σ) (atR (zI σ 2 8) 30 v1 (zR σ 30 (ix v1))) (4 : Int32) (ix (zI (flW σ) (atR (zI σ 2 8) 30 v1 (zR σ 30 (ix v1))) 4))) + 1) 1) + (zI (isX (toA (flW σ) (atR (zI σ 2 8) 30 v1 (zR σ 30 (ix v1))) (4 : Int32) (ix (zI (flW σ) (atR (zI σ 2 8) 30 v1 (zR σ 30 (ix v1))) 4))) (zI (toA (flW σ) (atR (zI σ 2 8) 30 v1 (zR σ 30 (ix v1))) (4 : Int32) (ix (zI (flW σ) (atR (zI σ 2 8) 30 v1 (zR σ 30 (ix v1))) 4))) (atR (zI σ 2 8) 30 v1 (zR σ 30 (ix v1))) 0)) (zN (toA (flW σ) (atR (zI σ 2 8) 30 v1 (zR σ 30 (ix v1))) (4 : Int32) (ix (zI (flW σ) (atR (zI σ 2 8) 30 v1 (zR σ 30 (ix v1))) 4))) + 1) 5)) - ((smI (osF (flW σ) (atR (zI σ 2 8) 30 v1 (zR σ 30 (ix v1))) 6) (ix (zI (flW σ) (atR (zI σ 2 8) 30 v1 (zR σ 30 (ix v1))) 4))) + (smI (osF (flW σ) (atR (zI σ 2 8) 30 v1 (zR σ 30 (ix v1))) 3) (ix (zI (flW σ) (atR (zI σ 2 8) 30 v1 (zR σ 30 (ix v1))) 4)))))) (some (.int (((zI (isX (toA (flW σ) (atR (zI σ 2 8) 30 v1 (zR σ 30 (ix v1))) (4 : Int32) (ix (zI (flW σ) (atR (zI σ 2 8) 30 v1 (zR σ 30 (ix v1))) 4))) (zI (toA (flW σ) (atR (zI σ 2 8) 30 v1 (zR σ 30 (ix v1))) (4 : Int32) (ix (zI (flW σ) (atR (zI σ 2 8) 30 v1 (zR σ 30 (ix v1))) 4))) (atR (zI σ 2 8) 30 v1 (zR σ 30 (ix v1))) 0)) (zN (toA (flW σ) (atR (zI σ 2 8) 30 v1 (zR σ 30 (ix v1))) (4 : Int32) (ix (zI (flW σ) (atR (zI σ 2 8) 30 v1 (zR σ 30 (ix v1))) 4))) + 1) 1) + (zI (isX (toA (flW σ) (atR (zI σ 2 8) 30 v1 (zR σ 30 (ix v1))) (4 : Int32) (ix (zI (flW σ) (atR (zI σ 2 8) 30 v1 (zR σ 30 (ix v1))) 4))) (zI (toA (flW σ) (atR (zI σ 2 8) 30 v1 (zR σ 30 (ix v1))) (4 : Int32) (ix (zI (flW σ) (atR (zI σ 2 8) 30 v1 (zR σ 30 (ix v1))) 4))) (atR (zI σ 2 8) 30 v1 (zR σ 30 (ix v1))) 0)) (zN (toA (flW σ) (atR (zI σ 2 8) 30 v1 (zR σ 30 (ix v1))) (4 : Int32) (ix (zI (flW σ) (atR (zI σ 2 8) 30 v1 (zR σ 30 (ix v1))) 4))) + 1) 5)) - ((smI (osF (flW σ) (atR (zI σ 2 8) 30 v1 (zR σ 30 (ix v1))) 6) (ix (zI (flW σ) (atR (zI σ 2 8) 30 v1 (zR σ 30 (ix v1))) 4))) + (smI (osF (flW σ) (atR (zI σ 2 8) 30 v1 (zR σ 30 (ix v1))) 3) (ix (zI (flW σ) (atR (zI σ 2 8) 30 v1 (zR σ 30 (ix v1))) 4))))))))
    (k3 : (¬ atR (zI σ 2 8) 30 v1 (zR σ 30 (ix v1)) = 0) → (opA (flW σ) (atR (zI σ 2 8) 30 v1 (zR σ 30 (ix v1))) (ix (zI (flW σ) (atR (zI σ 2 8) 30 v1 (zR σ 30 (ix v1))) 4))) → (¬ (¬ (zI (flW σ) 23 3) = -1 ∧ ¬ (¬ (zI (flW σ) 33 16) = 0 ∧ ¬ (zI (flW σ) 3 6) ≤ zI (flW σ) 49 0) ∧ ¬ 30 ≤ zI (flW σ) 2 8)) → X (flW σ) "java/lang/IllegalStateException")
    (k4 : (atR (zI σ 2 8) 30 v1 (zR σ 30 (ix v1)) = 0) → X σ "java/lang/IndexOutOfBoundsException") :
    V g mX11_reissue (Em g mX11_reissue Q X) CX 11 94 0 [(0, .ref 2), (1, .int v1)] [] σ := by
  refine V_aload_n dX11_reissue_0 rfl ?_
  refine V_iload_n dX11_reissue_1 rfl ?_
  refine V_callV1 (as := [.int v1]) (k' := 11) (n' := 94) (s_X11_ticketAt hS) mw_X11_ticketAt ko_X11 rfl w_404 w_1 w_402 ar_X11_ticketAt rfl ⟨rfl, rfl, rfl, rfl, rfl⟩ dX11_reissue_2 (by decide) (shk hS 2 rfl) ?_
  refine V_astore_n [(0, .ref 2), (1, .int v1), (2, .ref (atR (zI σ 2 8) 30 v1 (zR σ 30 (ix v1))))] dX11_reissue_5 rfl rfl ?_
  refine V_aload_n dX11_reissue_6 rfl ?_
  refine V_ifnonnull 21 dX11_reissue_7 rfl (fun c1 => ?_) (fun c1 => ?_)
  · refine V_aload_n dX11_reissue_21 rfl ?_
    refine V_getf (fk := 3) (Value.ref 23) ko_X11 rfl w_207 dX11_reissue_22 (by decide) (shk hS 2 rfl) (congrArg Value.ref (shr hS 2 3 23 (by decide))) ?_
    refine V_aload_n dX11_reissue_25 rfl ?_
    refine V_getf (fk := 2) (Value.ref 13) ko_X11 rfl w_206 dX11_reissue_26 (by decide) (shk hS 2 rfl) (congrArg Value.ref (shr hS 2 2 13 (by decide))) ?_
    refine V_aload_n dX11_reissue_29 rfl ?_
    refine V_getf (fk := 0) (Value.ref 3) ko_X11 rfl w_204 dX11_reissue_30 (by decide) (shk hS 2 rfl) (congrArg Value.ref (shr hS 2 0 3 (by decide))) ?_
    refine V_callV0 (as := [.ref 13, .ref 3]) (k' := 11) (n' := 94) (s_X10_findLeast hS (o1 c1) (o2 c1)) mw_X10_findLeast ko_X10 rfl w_612 w_613 w_611 ar_X10_findLeast rfl ⟨rfl, rfl, rfl, rfl, rfl⟩ dX11_reissue_33 (by decide) (shk hS 23 rfl) ?_
    refine V_aload_n dX11_reissue_36 rfl ?_
    refine V_callV1 (as := []) (k' := 11) (n' := 94) (s_X9_hasOpenOnes (o3 c1)) mw_X9_hasOpenOnes ko_X9 rfl w_859 w_860 w_858 ar_X9_hasOpenOnes rfl ⟨rfl, rfl, rfl, rfl, rfl⟩ dX11_reissue_37 c1 (o4 c1) ?_
    refine V_if_eq 50 dX11_reissue_40 rfl (fun c2 => ?_) (fun c2 => ?_)
    · replace c2 := pj_0.mp c2
      exact V_throwW (k := 11) (n := 94) tw_X11_94 ws_887 dX11_reissue_50 dX11_reissue_53 dX11_reissue_54 dX11_reissue_57 dX11_reissue_60 rfl rfl rfl rfl rfl (k1 c1 c2)
    · replace c2 := pj_n.mp c2
      refine V_aload_n dX11_reissue_43 rfl ?_
      refine V_callV1 (as := []) (k' := 11) (n' := 94) (s_X11_canBeIssued (Sh_flW hS) (o5 c1 c2)) mw_X11_canBeIssued ko_X11 rfl w_710 w_8 w_708 ar_X11_canBeIssued rfl ⟨rfl, rfl, rfl, rfl, rfl⟩ dX11_reissue_44 (by decide) (shk (Sh_flW hS) 2 rfl) ?_
      refine V_if_ne 61 dX11_reissue_47 rfl (fun c3 => ?_) (fun c3 => ?_)
      · replace c3 := jb_n.mp c3
        refine V_aload_n dX11_reissue_61 rfl ?_
        refine V_callV1 (as := []) (k' := 11) (n' := 94) (s_X9_openShares (o3 c1)) mw_X9_openShares ko_X9 rfl w_868 w_869 w_867 ar_X9_openShares rfl ⟨rfl, rfl, rfl, rfl, rfl⟩ dX11_reissue_62 c1 (o4 c1) ?_
        refine V_aload_n dX11_reissue_65 rfl ?_
        refine V_callV1 (as := []) (k' := 11) (n' := 94) (s_X9_openTaxes (o3 c1)) mw_X9_openTaxes ko_X9 rfl w_873 w_874 w_872 ar_X9_openTaxes rfl ⟨rfl, rfl, rfl, rfl, rfl⟩ dX11_reissue_66 c1 (o4 c1) ?_
        refine V_iadd dX11_reissue_69 ?_
        refine V_istore_n [(0, .ref 2), (1, .int v1), (2, .ref (atR (zI σ 2 8) 30 v1 (zR σ 30 (ix v1)))), (3, .int ((smI (osF (flW σ) (atR (zI σ 2 8) 30 v1 (zR σ 30 (ix v1))) 6) (ix (zI (flW σ) (atR (zI σ 2 8) 30 v1 (zR σ 30 (ix v1))) 4))) + (smI (osF (flW σ) (atR (zI σ 2 8) 30 v1 (zR σ 30 (ix v1))) 3) (ix (zI (flW σ) (atR (zI σ 2 8) 30 v1 (zR σ 30 (ix v1))) 4)))))] dX11_reissue_70 rfl rfl ?_
        refine V_aload_n dX11_reissue_71 rfl ?_
        refine V_aload_n dX11_reissue_72 rfl ?_
        refine V_getf (fk := 4) (Value.int (zI (flW σ) (atR (zI σ 2 8) 30 v1 (zR σ 30 (ix v1))) 4)) ko_X9 rfl w_736 dX11_reissue_73 c1 (o4 c1) rfl ?_
        refine V_iconst (4 : Int32) dX11_reissue_76 (by decide) ?_
        refine V_callV0 (as := [.int (zI (flW σ) (atR (zI σ 2 8) 30 v1 (zR σ 30 (ix v1))) 4), .int (4 : Int32)]) (k' := 11) (n' := 94) (s_X9_turnOpenOnes' (o6 c1 c2 c3)) mw_X9_turnOpenOnes ko_X9 rfl w_877 w_878 w_876 ar_X9_turnOpenOnes rfl ⟨rfl, rfl, rfl, rfl, rfl⟩ dX11_reissue_77 c1 (o4 c1) ?_
        refine V_aload_n dX11_reissue_80 rfl ?_
        refine V_aload_n dX11_reissue_81 rfl ?_
        refine V_getf (fk := 0) (Value.int (zI (toA (flW σ) (atR (zI σ 2 8) 30 v1 (zR σ 30 (ix v1))) (4 : Int32) (ix (zI (flW σ) (atR (zI σ 2 8) 30 v1 (zR σ 30 (ix v1))) 4))) (atR (zI σ 2 8) 30 v1 (zR σ 30 (ix v1))) 0)) ko_X9 rfl w_729 dX11_reissue_82 c1 (o7 c1 c2 c3) rfl ?_
        refine V_callV1 (as := [.int (zI (toA (flW σ) (atR (zI σ 2 8) 30 v1 (zR σ 30 (ix v1))) (4 : Int32) (ix (zI (flW σ) (atR (zI σ 2 8) 30 v1 (zR σ 30 (ix v1))) 4))) (atR (zI σ 2 8) 30 v1 (zR σ 30 (ix v1))) 0)]) (k' := 1) (n' := 6) (s_X11_issued (Sh_toA (Sh_flW hS) _) (o8 c1 c2 c3) (o9 c1 c2 c3) (o10 c1 c2 c3) (o11 c1 c2 c3) (o12 c1 c2 c3)) mw_X11_issued ko_X11 rfl w_719 w_9 w_717 ar_X11_issued rfl ⟨rfl, rfl, rfl, rfl, rfl⟩ dX11_reissue_85 (by decide) (shk (Sh_toA (Sh_flW hS) _) 2 rfl) ?_
        refine V_astore [(0, .ref 2), (1, .int v1), (2, .ref (atR (zI σ 2 8) 30 v1 (zR σ 30 (ix v1)))), (3, .int ((smI (osF (flW σ) (atR (zI σ 2 8) 30 v1 (zR σ 30 (ix v1))) 6) (ix (zI (flW σ) (atR (zI σ 2 8) 30 v1 (zR σ 30 (ix v1))) 4))) + (smI (osF (flW σ) (atR (zI σ 2 8) 30 v1 (zR σ 30 (ix v1))) 3) (ix (zI (flW σ) (atR (zI σ 2 8) 30 v1 (zR σ 30 (ix v1))) 4))))), (4, .ref (zN (toA (flW σ) (atR (zI σ 2 8) 30 v1 (zR σ 30 (ix v1))) (4 : Int32) (ix (zI (flW σ) (atR (zI σ 2 8) 30 v1 (zR σ 30 (ix v1))) 4))) + 1))] dX11_reissue_88 rfl rfl ?_
        refine V_aload dX11_reissue_90 rfl ?_
        refine V_getf (fk := 1) (Value.int (zI (isX (toA (flW σ) (atR (zI σ 2 8) 30 v1 (zR σ 30 (ix v1))) (4 : Int32) (ix (zI (flW σ) (atR (zI σ 2 8) 30 v1 (zR σ 30 (ix v1))) 4))) (zI (toA (flW σ) (atR (zI σ 2 8) 30 v1 (zR σ 30 (ix v1))) (4 : Int32) (ix (zI (flW σ) (atR (zI σ 2 8) 30 v1 (zR σ 30 (ix v1))) 4))) (atR (zI σ 2 8) 30 v1 (zR σ 30 (ix v1))) 0)) (zN (toA (flW σ) (atR (zI σ 2 8) 30 v1 (zR σ 30 (ix v1))) (4 : Int32) (ix (zI (flW σ) (atR (zI σ 2 8) 30 v1 (zR σ 30 (ix v1))) 4))) + 1) 1)) ko_X9 rfl w_731 dX11_reissue_92 (o13 c1 c2 c3) (o14 c1 c2 c3) rfl ?_
        refine V_aload dX11_reissue_95 rfl ?_
        refine V_getf (fk := 5) (Value.int (zI (isX (toA (flW σ) (atR (zI σ 2 8) 30 v1 (zR σ 30 (ix v1))) (4 : Int32) (ix (zI (flW σ) (atR (zI σ 2 8) 30 v1 (zR σ 30 (ix v1))) 4))) (zI (toA (flW σ) (atR (zI σ 2 8) 30 v1 (zR σ 30 (ix v1))) (4 : Int32) (ix (zI (flW σ) (atR (zI σ 2 8) 30 v1 (zR σ 30 (ix v1))) 4))) (atR (zI σ 2 8) 30 v1 (zR σ 30 (ix v1))) 0)) (zN (toA (flW σ) (atR (zI σ 2 8) 30 v1 (zR σ 30 (ix v1))) (4 : Int32) (ix (zI (flW σ) (atR (zI σ 2 8) 30 v1 (zR σ 30 (ix v1))) 4))) + 1) 5)) ko_X9 rfl w_738 dX11_reissue_97 (o13 c1 c2 c3) (o14 c1 c2 c3) rfl ?_
        refine V_iadd dX11_reissue_100 ?_
        refine V_iload_n dX11_reissue_101 rfl ?_
        refine V_isub dX11_reissue_102 ?_
        refine V_istore [(0, .ref 2), (1, .int v1), (2, .ref (atR (zI σ 2 8) 30 v1 (zR σ 30 (ix v1)))), (3, .int ((smI (osF (flW σ) (atR (zI σ 2 8) 30 v1 (zR σ 30 (ix v1))) 6) (ix (zI (flW σ) (atR (zI σ 2 8) 30 v1 (zR σ 30 (ix v1))) 4))) + (smI (osF (flW σ) (atR (zI σ 2 8) 30 v1 (zR σ 30 (ix v1))) 3) (ix (zI (flW σ) (atR (zI σ 2 8) 30 v1 (zR σ 30 (ix v1))) 4))))), (4, .ref (zN (toA (flW σ) (atR (zI σ 2 8) 30 v1 (zR σ 30 (ix v1))) (4 : Int32) (ix (zI (flW σ) (atR (zI σ 2 8) 30 v1 (zR σ 30 (ix v1))) 4))) + 1)), (5, .int (((zI (isX (toA (flW σ) (atR (zI σ 2 8) 30 v1 (zR σ 30 (ix v1))) (4 : Int32) (ix (zI (flW σ) (atR (zI σ 2 8) 30 v1 (zR σ 30 (ix v1))) 4))) (zI (toA (flW σ) (atR (zI σ 2 8) 30 v1 (zR σ 30 (ix v1))) (4 : Int32) (ix (zI (flW σ) (atR (zI σ 2 8) 30 v1 (zR σ 30 (ix v1))) 4))) (atR (zI σ 2 8) 30 v1 (zR σ 30 (ix v1))) 0)) (zN (toA (flW σ) (atR (zI σ 2 8) 30 v1 (zR σ 30 (ix v1))) (4 : Int32) (ix (zI (flW σ) (atR (zI σ 2 8) 30 v1 (zR σ 30 (ix v1))) 4))) + 1) 1) + (zI (isX (toA (flW σ) (atR (zI σ 2 8) 30 v1 (zR σ 30 (ix v1))) (4 : Int32) (ix (zI (flW σ) (atR (zI σ 2 8) 30 v1 (zR σ 30 (ix v1))) 4))) (zI (toA (flW σ) (atR (zI σ 2 8) 30 v1 (zR σ 30 (ix v1))) (4 : Int32) (ix (zI (flW σ) (atR (zI σ 2 8) 30 v1 (zR σ 30 (ix v1))) 4))) (atR (zI σ 2 8) 30 v1 (zR σ 30 (ix v1))) 0)) (zN (toA (flW σ) (atR (zI σ 2 8) 30 v1 (zR σ 30 (ix v1))) (4 : Int32) (ix (zI (flW σ) (atR (zI σ 2 8) 30 v1 (zR σ 30 (ix v1))) 4))) + 1) 5)) - ((smI (osF (flW σ) (atR (zI σ 2 8) 30 v1 (zR σ 30 (ix v1))) 6) (ix (zI (flW σ) (atR (zI σ 2 8) 30 v1 (zR σ 30 (ix v1))) 4))) + (smI (osF (flW σ) (atR (zI σ 2 8) 30 v1 (zR σ 30 (ix v1))) 3) (ix (zI (flW σ) (atR (zI σ 2 8) 30 v1 (zR σ 30 (ix v1))) 4))))))] dX11_reissue_103 rfl rfl ?_
        refine V_aload_n dX11_reissue_105 rfl ?_
        refine V_aload dX11_reissue_106 rfl ?_
        refine V_iload dX11_reissue_108 rfl ?_
        refine V_callV0 (as := [.ref (zN (toA (flW σ) (atR (zI σ 2 8) 30 v1 (zR σ 30 (ix v1))) (4 : Int32) (ix (zI (flW σ) (atR (zI σ 2 8) 30 v1 (zR σ 30 (ix v1))) 4))) + 1), .int (((zI (isX (toA (flW σ) (atR (zI σ 2 8) 30 v1 (zR σ 30 (ix v1))) (4 : Int32) (ix (zI (flW σ) (atR (zI σ 2 8) 30 v1 (zR σ 30 (ix v1))) 4))) (zI (toA (flW σ) (atR (zI σ 2 8) 30 v1 (zR σ 30 (ix v1))) (4 : Int32) (ix (zI (flW σ) (atR (zI σ 2 8) 30 v1 (zR σ 30 (ix v1))) 4))) (atR (zI σ 2 8) 30 v1 (zR σ 30 (ix v1))) 0)) (zN (toA (flW σ) (atR (zI σ 2 8) 30 v1 (zR σ 30 (ix v1))) (4 : Int32) (ix (zI (flW σ) (atR (zI σ 2 8) 30 v1 (zR σ 30 (ix v1))) 4))) + 1) 1) + (zI (isX (toA (flW σ) (atR (zI σ 2 8) 30 v1 (zR σ 30 (ix v1))) (4 : Int32) (ix (zI (flW σ) (atR (zI σ 2 8) 30 v1 (zR σ 30 (ix v1))) 4))) (zI (toA (flW σ) (atR (zI σ 2 8) 30 v1 (zR σ 30 (ix v1))) (4 : Int32) (ix (zI (flW σ) (atR (zI σ 2 8) 30 v1 (zR σ 30 (ix v1))) 4))) (atR (zI σ 2 8) 30 v1 (zR σ 30 (ix v1))) 0)) (zN (toA (flW σ) (atR (zI σ 2 8) 30 v1 (zR σ 30 (ix v1))) (4 : Int32) (ix (zI (flW σ) (atR (zI σ 2 8) 30 v1 (zR σ 30 (ix v1))) 4))) + 1) 5)) - ((smI (osF (flW σ) (atR (zI σ 2 8) 30 v1 (zR σ 30 (ix v1))) 6) (ix (zI (flW σ) (atR (zI σ 2 8) 30 v1 (zR σ 30 (ix v1))) 4))) + (smI (osF (flW σ) (atR (zI σ 2 8) 30 v1 (zR σ 30 (ix v1))) 3) (ix (zI (flW σ) (atR (zI σ 2 8) 30 v1 (zR σ 30 (ix v1))) 4)))))]) (k' := 1) (n' := 6) (s_X11_receive (Sh_isX (Sh_toA (Sh_flW hS) _)) (o15 c1 c2 c3) (o14 c1 c2 c3) (o16 c1 c2 c3)) mw_X11_receive ko_X11 rfl w_842 w_13 w_840 ar_X11_receive rfl ⟨rfl, rfl, rfl, rfl, rfl⟩ dX11_reissue_110 (by decide) (shk (Sh_isX (Sh_toA (Sh_flW hS) _)) 2 rfl) ?_
        refine V_iload dX11_reissue_113 rfl ?_
        exact V_iret rfl dX11_reissue_115 (k2 c1 c2 c3)
      · replace c3 := jb_0.mp c3
        exact V_throwW (k := 11) (n := 94) tw_X11_94 ws_887 dX11_reissue_50 dX11_reissue_53 dX11_reissue_54 dX11_reissue_57 dX11_reissue_60 rfl rfl rfl rfl rfl (k3 c1 c2 c3)
  · exact V_throwW (k := 11) (n := 94) tw_X11_61 ws_428 dX11_reissue_10 dX11_reissue_13 dX11_reissue_14 dX11_reissue_17 dX11_reissue_20 rfl rfl rfl rfl rfl (k4 c1)

theorem R_issue {g : GP} {i : Nat} {σ : AH} {v1 : Int32} (hi : i < 512) (h : Rel i σ) : CtH g mL_issue [.ref 2, .int v1] σ (RQ [-1000001, -1000003] (fun k τ => Gh (S12_issue v1) τ (RE i k))) := by
  have hr := h
  obtain ⟨h0, hS, hT, hJ, hP, hK, hB, hC⟩ := h
  have hq4 := Q4_flW (Q4_refl σ)
  have hSf : Sh (flW σ) := Q4_Sh hq4 hS
  obtain ⟨-, -, hTf, hJf, hPf, hKf, -⟩ := Rel_q (Nat.le_refl i) (Nat.le_of_lt hi) hq4 hr
  have cb := cb_cn hT hJ hK
  have ef : ∀ a j, ¬ QU a j → zI (flW σ) a j = zI σ a j := hq4.2.2.2.2.1
  have m1 : ¬ isCa v1 → Gh (S12_issue v1) σ (RE i 1) := fun c => s_X12_issue hS (R_PO hT hJ) (R_CA hJ) (R_L hJ) (RK_N hK) (R_NZ hT hJ hP) (fun _ => RE_no hi hr (Q4_ciH (Q4_refl σ)) (by decide)) (fun q => absurd q c) (fun q => absurd q c)
  have m2 : isCa v1 → ¬ cnF σ → Gh (S12_issue v1) (flW σ) (RE i 2) := fun c c2 => s_X12_issue hSf (R_PO hTf hJf) (R_CA hJf) (R_L hJf) (RK_N hKf) (R_NZ hTf hJf hPf) (fun q => absurd c q) (fun _ _ => RE_no hi hr (Q4_ciH hq4) (by decide)) (fun _ q => absurd ((cnF_e EqP_flW (ef 33 23 (by unfold QU; omega))).mp q) c2)
  have hnn : cnF σ → ¬ zI (flW σ) 33 16 = 0 := fun c q => by
    obtain ⟨L, l1, l2, l3⟩ := cn_L hJ c
    rw [ef 33 16 (by unfold QU; omega), l3] at q
    have := (nI_eq (b := 0) (by omega) (by decide)).mp q
    omega
  have h28 : cnF σ → vp_in (zI (flW σ) 2 8) 30 := fun c => by
    obtain ⟨n, n1, n2, n3⟩ := cn_n hK c
    rw [ef 2 8 (by unfold QU; omega), n3]
    exact vp_in_nI n1 (by decide)
  have hXR : cnF σ → ∃ n L, n < 30 ∧ zI σ 33 23 = nI n ∧ zI σ 33 16 = nI L ∧ 1 ≤ L ∧ L ≤ 8 ∧ XR (flW σ) v1 n L (sgS (partF (flW σ)) (pvF (flW σ)) (wtF (flW σ)) (zI (flW σ) 23 4) L L) (isX (flW σ) v1) := fun c => by
    obtain ⟨n, n1, n2, n3⟩ := cn_n hK c
    obtain ⟨L, l1, l2, l3⟩ := cn_L hJ c
    exact ⟨n, L, n1, n2, l3, l1, l2, isX_XR hSf hTf hJf hPf (by rw [ef 33 16 (by unfold QU; omega)]; exact l3) l1 l2 (by rw [ef 2 8 (by unfold QU; omega)]; exact n3) n1⟩
  have n72 : 72 ≤ zN (flW σ) := hSf.1
  refine w_L_issue (Q := QI (fun k τ => Gh (S12_issue v1) τ (RE i k))) (X := X2 IOO ISE (fun k τ => Gh (S12_issue v1) τ (RE i k))) hS (CtX_of (by decide +kernel) rfl rfl (b_X11_issue_0 hS (fun _ => hT) (fun _ => hJ) (fun _ => hJf) (fun _ _ => hTf) (fun _ _ => hPf) (fun _ c => hnn (cb.mp c)) (fun _ c => h28 (cb.mp c)) (fun _ _ => by omega) (fun _ c => ?_) (fun _ _ => by omega) (fun c c2 => ?_) (fun c c2 => ?_) (fun c c2 => Or.inr ⟨rfl, hSf, m2 c (fun q => c2 (cb.mpr q))⟩) (fun c => Or.inl ⟨rfl, hS, m1 c⟩))) QI_q X2_q
  · obtain ⟨n, L, x1, x2, x3, x4, x5, x6⟩ := hXR (cb.mp c)
    exact x6.2.2.2.2.2.2.1.1
  · obtain ⟨n, L, x1, x2, x3, x4, x5, x6⟩ := hXR (cb.mp c2)
    rw [x6.2.2.2.2.2.2.1.2.1]; exact c
  · have cc := cb.mp c2
    obtain ⟨n, L, x1, x2, x3, x4, x5, x6⟩ := hXR cc
    have hS1 : Sh (rcH (isX (flW σ) v1) (zN (flW σ) + 1) (zI (isX (flW σ) v1) (zN (flW σ) + 1) 1 + zI (isX (flW σ) v1) (zN (flW σ) + 1) 5)) := Sh_uJ (Sh_uJ (Sh_uJ x6.2.1))
    refine ⟨_, rfl, hS1, ?_⟩
    have r28 : zI (rcH (isX (flW σ) v1) (zN (flW σ) + 1) (zI (isX (flW σ) v1) (zN (flW σ) + 1) 1 + zI (isX (flW σ) v1) (zN (flW σ) + 1) 5)) 2 8 - 1 = nI n := by
      rw [rcH, zI_uJ, zI_uJ, zI_uJ, x6.2.2.2.2.1 2 8 (by omega), if_neg (by omega), if_pos ⟨rfl, rfl⟩, nI_pred]
    rw [r28]
    clear r28 hS1
    have w := flW_w hT hJ
    have κ4 : zN (flW σ) = zN σ ∧ zK (flW σ) = zK σ ∧ zL (flW σ) = zL σ ∧ zR (flW σ) = zR σ := ⟨hq4.1, hq4.2.1, hq4.2.2.1, hq4.2.2.2.1⟩
    have hJ4 := hq4.2.2.2.2.2
    generalize isX (flW σ) v1 = X at *
    generalize flW σ = κ at *
    generalize hxx : zI X (zN κ + 1) 1 + zI X (zN κ + 1) 5 = x
    have tI : ∀ a j, zI (uJ (rcH X (zN κ + 1) x) 72 0 (Int32.toInt64 (nI n))) a j = zI X a j := fun a j => rc_I
    have t4 := rc_4 (X := X) (a := zN κ + 1) (x := x) (w := Int32.toInt64 (nI n))
    have hSt : Sh (uJ (rcH X (zN κ + 1) x) 72 0 (Int32.toInt64 (nI n))) := Sh_uJ (Sh_uJ (Sh_uJ (Sh_uJ x6.2.1)))
    have tJ : ∀ a j, zJ (uJ (rcH X (zN κ + 1) x) 72 0 (Int32.toInt64 (nI n))) a j = zJ (uJ (rcH X (zN κ + 1) x) 72 0 (Int32.toInt64 (nI n))) a j := fun a j => rfl
    have XI : ∀ a j, a ≤ zN κ → ¬ QU a j → ¬ (a = 13 ∧ j = 1) → ¬ (a = 2 ∧ j = 8) → zI X a j = zI σ a j := fun a j ha z1 z2 z3 => by
      rw [x6.2.2.2.2.1 a j ha, if_neg z2, if_neg z3, ef a j z1]
    have R := fun ρ => Rel_new (i := i) (ρ := ρ) (x := x) (w := Int32.toInt64 (nI n)) hr x2 x1 x3 x4 x5 (isCa_vp c) κ4 (fun a j z _ => ef a j z) hJ4 w.1 w.2 x6
    generalize uJ (rcH X (zN κ + 1) x) 72 0 (Int32.toInt64 (nI n)) = τ at *
    have e : ∀ a j, a ≤ zN κ → ¬ QU a j → ¬ (a = 13 ∧ j = 1) → ¬ (a = 2 ∧ j = 8) → zI τ a j = zI σ a j := fun a j ha z1 z2 z3 => by
      rw [tI]; exact XI a j ha z1 z2 z3
    have E : EqP τ σ := ⟨e 33 0 (by omega) (by unfold QU; omega) (by omega) (by omega), e 33 6 (by omega) (by unfold QU; omega) (by omega) (by omega), e 33 14 (by omega) (by unfold QU; omega) (by omega) (by omega), e 33 16 (by omega) (by unfold QU; omega) (by omega) (by omega), fun a k _ _ => e a k (by omega) (by unfold QU; omega) (by omega) (by omega)⟩
    have e23 : zI τ 33 23 = nI n := (e 33 23 (by omega) (by unfold QU; omega) (by omega) (by omega)).trans x2
    obtain ⟨R1, R2, R3, R4⟩ := R (uI (ciH τ) 33 49 0) (by
      obtain ⟨q1, q2, q3, q4, q5⟩ := ciH_N (σ := τ)
      have u := z4_uI (ciH τ) 33 49 0
      exact ⟨by rw [u.1, q1, t4.1], by rw [u.2.1, q2, t4.2.1], by rw [u.2.2.1, q3, t4.2.2.1], by rw [u.2.2.2, q5, t4.2.2.2]⟩) (fun a j z _ => by rw [zI_uI, if_neg (fun q => z (Or.inr ⟨q.1, by omega⟩)), ciH_I (fun q => z (Or.inr ⟨q.1, by omega⟩)), tI]) (fun j => by rw [zI_uI, if_neg (by omega), ciH_I (by omega), e 55 j (by omega) (by unfold QU; omega) (by omega) (by omega)]) (by rw [zI_uI, if_pos ⟨rfl, rfl⟩]) (fun a j => by rw [zJ_uI, ciH_J])
    rw [hxx] at R4
    refine s_X12_issue hSt (PO_eq E (R_PO hT hJ)) (CA_eq E (R_CA hJ)) (by rw [E.2.2.2.1]; exact R_L hJ) (by rw [e23]; exact vp_in_nI (by omega) (by decide)) (NZ_eq E (R_NZ hT hJ hP)) (fun q => absurd c q) (fun _ q => absurd ((cnF_e E (e23.trans x2.symm)).mpr cc) q) (fun _ _ => ?_)
    rw [isH, R4, e23, i11]
    exact ⟨R1, Rel_q (Nat.le_succ i) hi (Q4_refl _) R2, _, rfl, fun _ => R3⟩
