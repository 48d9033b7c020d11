/-! ===== calls: fares, legs ===== -/
set_option maxRecDepth 100000 in
set_option maxHeartbeats 4000000 in
theorem b_X11_leg_0 {g : GP} {CX : State → Array Value → Prop} {Q : AH → Option Value → Prop} {X : AH → String → Prop} {v1 : Int32} {v2 : Int32} {v3 : Int32} {v4 : Int32} {σ : AH}
    (hS : Sh σ)
    (k1 : (¬ (isPl v1)) → X σ "java/lang/IndexOutOfBoundsException")
    (k2 : (isPl v1) → (¬ (isPl v2)) → X σ "java/lang/IndexOutOfBoundsException")
    (k3 : (isPl v1) → (isPl v2) → (isCa v3) → (v1 = v2) → X σ "java/lang/IllegalArgumentException")
    (o1 : (isPl v1) → (isPl v2) → (isCa v3) → (¬ v1 = v2) → (isWi v4 (zI σ 3 6) (999 : Int32)) → RJ σ)
    (k4 : (isPl v1) → (isPl v2) → (isCa v3) → (¬ v1 = v2) → (isWi v4 (zI σ 3 6) (999 : Int32)) → (¬ (onF σ v1 v4)) → X σ "java/lang/IllegalStateException")
    (o2 : (isPl v1) → (isPl v2) → (isCa v3) → (¬ v1 = v2) → (isWi v4 (zI σ 3 6) (999 : Int32)) → (onF σ v1 v4) → 4 = 4 ∨ 4 = 10)
    (o3 : (isPl v1) → (isPl v2) → (isCa v3) → (¬ v1 = v2) → (isWi v4 (zI σ 3 6) (999 : Int32)) → (onF σ v1 v4) → (¬ (prG σ 4 v1 v2) = 0) → ¬ 8 ≤ zI σ 33 16)
    (k5 : (isPl v1) → (isPl v2) → (isCa v3) → (¬ v1 = v2) → (isWi v4 (zI σ 3 6) (999 : Int32)) → (onF σ v1 v4) → (¬ (prG σ 4 v1 v2) = 0) → Q (adH σ v1 v2 v3 v4) (some (.int (zI σ 33 16 + 1))))
    (k6 : (isPl v1) → (isPl v2) → (isCa v3) → (¬ v1 = v2) → (isWi v4 (zI σ 3 6) (999 : Int32)) → (onF σ v1 v4) → ((prG σ 4 v1 v2) = 0) → X σ "java/lang/IllegalStateException")
    (k7 : (isPl v1) → (isPl v2) → (isCa v3) → (¬ v1 = v2) → (¬ (isWi v4 (zI σ 3 6) (999 : Int32))) → X σ "java/lang/IllegalArgumentException")
    (k8 : (isPl v1) → (isPl v2) → (¬ (isCa v3)) → X σ "java/lang/IndexOutOfBoundsException") :
    V g mX11_leg (Em g mX11_leg Q X) CX 1 6 0 [(0, .ref 2), (1, .int v1), (2, .int v2), (3, .int v3), (4, .int v4)] [] σ := by
  refine V_iload_n dX11_leg_0 rfl ?_
  refine V_callS1 (as := [.int v1]) (k' := 1) (n' := 6) (s_X11_isPlace) mw_X11_isPlace w_253 w_252 ar_X11_isPlace rfl ⟨rfl, rfl, rfl, rfl, rfl⟩ dX11_leg_1 ?_
  refine V_if_eq 21 dX11_leg_4 rfl (fun c1 => ?_) (fun c1 => ?_)
  · replace c1 := jb_0.mp c1
    exact V_throw (k := 1) (n := 6) tw_X11_61 ws_588 dX11_leg_21 dX11_leg_24 dX11_leg_25 dX11_leg_27 dX11_leg_30 rfl rfl rfl rfl rfl (k1 c1)
  · replace c1 := jb_n.mp c1
    refine V_iload_n dX11_leg_7 rfl ?_
    refine V_callS1 (as := [.int v2]) (k' := 1) (n' := 6) (s_X11_isPlace) mw_X11_isPlace w_253 w_252 ar_X11_isPlace rfl ⟨rfl, rfl, rfl, rfl, rfl⟩ dX11_leg_8 ?_
    refine V_if_eq 21 dX11_leg_11 rfl (fun c2 => ?_) (fun c2 => ?_)
    · replace c2 := jb_0.mp c2
      exact V_throw (k := 1) (n := 6) tw_X11_61 ws_588 dX11_leg_21 dX11_leg_24 dX11_leg_25 dX11_leg_27 dX11_leg_30 rfl rfl rfl rfl rfl (k2 c1 c2)
    · replace c2 := jb_n.mp c2
      refine V_iload_n dX11_leg_14 rfl ?_
      refine V_callS1 (as := [.int v3]) (k' := 1) (n' := 6) (s_X11_isCarrier) mw_X11_isCarrier w_364 w_363 ar_X11_isCarrier rfl ⟨rfl, rfl, rfl, rfl, rfl⟩ dX11_leg_15 ?_
      refine V_if_ne 31 dX11_leg_18 rfl (fun c3 => ?_) (fun c3 => ?_)
      · replace c3 := jb_n.mp c3
        refine V_iload_n dX11_leg_31 rfl ?_
        refine V_iload_n dX11_leg_32 rfl ?_
        refine V_icmp_eq 54 dX11_leg_33 rfl (fun c4 => ?_) (fun c4 => ?_)
        · exact V_throw (k := 1) (n := 6) tw_X11_72 ws_589 dX11_leg_54 dX11_leg_57 dX11_leg_58 dX11_leg_60 dX11_leg_63 rfl rfl rfl rfl rfl (k3 c1 c2 c3 c4)
        · refine V_iload dX11_leg_36 rfl ?_
          refine V_aload_n dX11_leg_38 rfl ?_
          refine V_getf (fk := 0) (Value.ref 3) ko_X11 rfl w_204 dX11_leg_39 (by decide) (shk hS 2 rfl) (congrArg Value.ref (shr hS 2 0 3 (by decide))) ?_
          refine V_getf (fk := 6) (Value.int (zI σ 3 6)) ko_X8 rfl w_78 dX11_leg_42 (by decide) (shk hS 3 rfl) rfl ?_
          refine V_sipush (999 : Int32) dX11_leg_45 (by decide) ?_
          refine V_callS1 (as := [.int v4, .int (zI σ 3 6), .int (999 : Int32)]) (k' := 1) (n' := 6) (s_X11_isWithin) mw_X11_isWithin w_324 w_323 ar_X11_isWithin rfl ⟨rfl, rfl, rfl, rfl, rfl⟩ dX11_leg_48 ?_
          refine V_if_ne 64 dX11_leg_51 rfl (fun c5 => ?_) (fun c5 => ?_)
          · replace c5 := jb_n.mp c5
            refine V_aload_n dX11_leg_64 rfl ?_
            refine V_getf (fk := 2) (Value.ref 13) ko_X11 rfl w_206 dX11_leg_65 (by decide) (shk hS 2 rfl) (congrArg Value.ref (shr hS 2 2 13 (by decide))) ?_
            refine V_iload_n dX11_leg_68 rfl ?_
            refine V_iload dX11_leg_69 rfl ?_
            refine V_callV1 (as := [.int v1, .int v4]) (k' := 1) (n' := 6) (s_X4_goesOn hS (o1 c1 c2 c3 c4 c5)) mw_X4_goesOn ko_X4 rfl w_591 w_592 w_590 ar_X4_goesOn rfl ⟨rfl, rfl, rfl, rfl, rfl⟩ dX11_leg_71 (by decide) (shk hS 13 rfl) ?_
            refine V_if_eq 92 dX11_leg_74 rfl (fun c6 => ?_) (fun c6 => ?_)
            · replace c6 := jb_0.mp c6
              exact V_throw (k := 1) (n := 6) tw_X11_94 ws_599 dX11_leg_92 dX11_leg_95 dX11_leg_96 dX11_leg_98 dX11_leg_101 rfl rfl rfl rfl rfl (k4 c1 c2 c3 c4 c5 c6)
            · replace c6 := jb_n.mp c6
              refine V_aload_n dX11_leg_77 rfl ?_
              refine V_getf (fk := 0) (Value.ref 3) ko_X11 rfl w_204 dX11_leg_78 (by decide) (shk hS 2 rfl) (congrArg Value.ref (shr hS 2 0 3 (by decide))) ?_
              refine V_getf (fk := 0) (Value.ref 4) ko_X8 rfl w_68 dX11_leg_81 (by decide) (shk hS 3 rfl) (congrArg Value.ref (shr hS 3 0 4 (by decide))) ?_
              refine V_iload_n dX11_leg_84 rfl ?_
              refine V_iload_n dX11_leg_85 rfl ?_
              refine V_callV1 (as := [.int v1, .int v2]) (k' := 1) (n' := 6) (s_X6_get hS (o2 c1 c2 c3 c4 c5 c6)) mw_X6_get ko_X6 rfl w_347 w_348 w_598 ar_X6_get rfl ⟨rfl, rfl, rfl, rfl, rfl⟩ dX11_leg_86 (by decide) (shk hS 4 rfl) ?_
              refine V_if_ne 102 dX11_leg_89 rfl (fun c7 => ?_) (fun c7 => ?_)
              · refine V_aload_n dX11_leg_102 rfl ?_
                refine V_getf (fk := 2) (Value.ref 13) ko_X11 rfl w_206 dX11_leg_103 (by decide) (shk hS 2 rfl) (congrArg Value.ref (shr hS 2 2 13 (by decide))) ?_
                refine V_iload_n dX11_leg_106 rfl ?_
                refine V_iload_n dX11_leg_107 rfl ?_
                refine V_iload_n dX11_leg_108 rfl ?_
                refine V_iload dX11_leg_109 rfl ?_
                refine V_callV1 (as := [.int v1, .int v2, .int v3, .int v4]) (k' := 1) (n' := 6) (s_X4_add hS (o1 c1 c2 c3 c4 c5) (o3 c1 c2 c3 c4 c5 c6 c7)) mw_X4_add ko_X4 rfl w_601 w_602 w_600 ar_X4_add rfl ⟨rfl, rfl, rfl, rfl, rfl⟩ dX11_leg_111 (by decide) (shk hS 13 rfl) ?_
                exact V_iret rfl dX11_leg_114 (k5 c1 c2 c3 c4 c5 c6 c7)
              · exact V_throw (k := 1) (n := 6) tw_X11_94 ws_599 dX11_leg_92 dX11_leg_95 dX11_leg_96 dX11_leg_98 dX11_leg_101 rfl rfl rfl rfl rfl (k6 c1 c2 c3 c4 c5 c6 c7)
          · replace c5 := jb_0.mp c5
            exact V_throw (k := 1) (n := 6) tw_X11_72 ws_589 dX11_leg_54 dX11_leg_57 dX11_leg_58 dX11_leg_60 dX11_leg_63 rfl rfl rfl rfl rfl (k7 c1 c2 c3 c4 c5)
      · replace c3 := jb_0.mp c3
        exact V_throw (k := 1) (n := 6) tw_X11_61 ws_588 dX11_leg_21 dX11_leg_24 dX11_leg_25 dX11_leg_27 dX11_leg_30 rfl rfl rfl rfl rfl (k8 c1 c2 c3)

theorem Rel_withdraw {i : Nat} {σ : AH} {a k n : Nat} (hi : i < 512) (h : Rel i σ) (hn : n ≤ 40) (h6 : zI σ 33 6 = nI n) (hk : k < n) (ha : zR σ 6 k = a) :
    zI (uI (uI (uI σ a 6 1) 33 49 0) 45 k 1) 33 49 = 0 ∧ Rel (i + 1) (uI (uI (uI σ a 6 1) 33 49 0) 45 k 1) := by
  obtain ⟨h0, hS, hT, hJ, hP, hK, hB, hC⟩ := h
  obtain ⟨nf, t1, t2, t3, t4, t5, t6, t7, t8, t9, t10, t11, t12⟩ := id hT
  have en : nf = n := by rw [t2] at h6; exact (nI_eq (by omega) (by omega)).mp h6
  subst en
  have hf := t10 k hk
  have h72 : 72 < a := by rw [← ha]; exact hf.1.1
  have hk3 : zK σ a = 3 := by rw [← ha]; exact hf.1.2.2
  have hq : QX (fun b j => (b = a ∧ j = 6) ∨ (b = 45 ∧ j = k)) (uI (uI (uI σ a 6 1) 33 49 0) 45 k 1) σ := QX_uI (QX_49 (QX_uI QX_refl (by right; simp))) (by right; simp)
  have e : ∀ b j, ¬ QU b j → ¬ ((b = a ∧ j = 6) ∨ (b = 45 ∧ j = k)) → zI (uI (uI (uI σ a 6 1) 33 49 0) 45 k 1) b j = zI σ b j := hq.2.2.2.2.1
  have r1 : zI (uI (uI (uI σ a 6 1) 33 49 0) 45 k 1) a 6 = 1 := by rw [zI_uI, if_neg (by omega), zI_uI, if_neg (by omega), zI_uI, if_pos ⟨rfl, rfl⟩]
  have r2 : zI (uI (uI (uI σ a 6 1) 33 49 0) 45 k 1) 45 k = 1 := by rw [zI_uI, if_pos ⟨rfl, rfl⟩]
  refine ⟨by rw [zI_uI, if_neg (by omega), zI_uI, if_pos ⟨rfl, rfl⟩], ⟨hi, QX_Sh hq hS, ?_, QX_RJ hq (fun a' k' hf he => by (try dsimp only at he); (try unfold FT at hf); (try unfold FK at hf); (try unfold FB at hf); rcases he with ⟨q1, q2⟩ | ⟨q1, q2⟩ <;> subst q1 <;> omega) hJ, QX_RP hq (fun a' k' hf he => by (try dsimp only at he); (try unfold FT at hf); (try unfold FK at hf); (try unfold FB at hf); rcases he with ⟨q1, q2⟩ | ⟨q1, q2⟩ <;> subst q1 <;> omega) hP, QX_RK hq (fun a' k' hf he => by (try dsimp only at he); (try unfold FT at hf); (try unfold FK at hf); (try unfold FB at hf); rcases he with ⟨q1, q2⟩ | ⟨q1, q2⟩ <;> subst q1 <;> omega) hS hK, QX_RB hq (fun a' k' hf he => by (try dsimp only at he); (try unfold FT at hf); (try unfold FK at hf); (try unfold FB at hf); rcases he with ⟨q1, q2⟩ | ⟨q1, q2⟩ <;> subst q1 <;> omega) hS hB, QX_RC hq (fun a' k' hf he => by (try dsimp only at he); (try unfold FT at hf); (try unfold FK at hf); (try unfold FB at hf); rcases he with ⟨q1, q2⟩ | ⟨q1, q2⟩ <;> subst q1 <;> omega) hK hC⟩⟩
  refine ⟨nf, t1, by rw [e 33 6 (by unfold QU; omega) (by omega)]; exact t2, by rw [e 3 4 (by unfold QU; omega) (by omega)]; exact t3, by rw [e 3 5 (by unfold QU; omega) (by omega), e 33 14 (by unfold QU; omega) (by omega)]; exact t4, by rw [e 33 14 (by unfold QU; omega) (by omega)]; exact t5, by rw [e 3 6 (by unfold QU; omega) (by omega), e 33 0 (by unfold QU; omega) (by omega)]; exact t6, by rw [e 33 0 (by unfold QU; omega) (by omega)]; exact t7, fun j hj => by rw [e 5 j (by unfold QU; omega) (by omega), e 34 j (by unfold QU; omega) (by omega)]; exact t8 j hj, fun j hj => by rw [e 7 j (by unfold QU; omega) (by omega), e 8 j (by unfold QU; omega) (by omega), e 37 j (by unfold QU; omega) (by omega), e 38 j (by unfold QU; omega) (by omega)]; exact t9 j hj, fun j hj => ?_, fun j hj => by rw [e 45 j (by unfold QU; omega) (by omega)]; exact t11 j hj, t12⟩
  have hfj := t10 j hj
  unfold FO at hfj ⊢
  have eR : zR (uI (uI (uI σ a 6 1) 33 49 0) 45 k 1) 6 j = zR σ 6 j := rfl
  have eK : ∀ b, zK (uI (uI (uI σ a 6 1) 33 49 0) 45 k 1) b = zK σ b := fun _ => rfl
  have eN : zN (uI (uI (uI σ a 6 1) 33 49 0) 45 k 1) = zN σ := rfl
  have hj72 := hfj.1.1
  have ef : ∀ f, f ≠ 6 → zI (uI (uI (uI σ a 6 1) 33 49 0) 45 k 1) (zR σ 6 j) f = zI σ (zR σ 6 j) f := fun f hf6 => e _ _ (by unfold QU; omega) (by omega)
  have em : ∀ b, 39 ≤ b → b ≤ 44 → zI (uI (uI (uI σ a 6 1) 33 49 0) 45 k 1) b j = zI σ b j := fun b x y => e _ _ (by unfold QU; omega) (by omega)
  rw [eR, eK, eN, ef 0 (by decide), ef 1 (by decide), ef 2 (by decide), ef 3 (by decide), ef 4 (by decide), ef 5 (by decide), em 39 (by decide) (by decide), em 40 (by decide) (by decide), em 41 (by decide) (by decide), em 42 (by decide) (by decide), em 43 (by decide) (by decide), em 44 (by decide) (by decide)]
  obtain ⟨f1, f2, f3, f4, f5, f6, f7, f8, f9⟩ := hfj
  refine ⟨f1, f2, f3, f4, f5, f6, f7, ?_, f9⟩
  by_cases hjk : j = k
  · subst hjk
    rw [ha, r1, r2]
  · have hne : ¬ zR σ 6 j = a := fun q => hjk (t12 j k hj hk (q.trans ha.symm))
    rw [e _ _ (by unfold QU; omega) (by omega), e 45 j (by unfold QU; omega) (by omega)]
    exact f8
theorem fare_at {σ : AH} (hT : RT σ) (x : Int32) : (isWi x 0 (zI σ 33 6 - 1) ∧ ∃ k n, x = nI k ∧ k < n ∧ n ≤ 40 ∧ zI σ 33 6 = nI n ∧ FO σ k ∧ atR (zI σ 3 4) 40 x (zR σ 6 (ix x)) = zR σ 6 k) ∨ (¬ isWi x 0 (zI σ 33 6 - 1) ∧ atR (zI σ 3 4) 40 x (zR σ 6 (ix x)) = 0) := by
  obtain ⟨n, t1, t2, t3, t4, t5, t6, t7, t8, t9, t10, -⟩ := hT
  rw [t2, t3]
  rcases atR_iff (n := n) (m := 40) t1 (by decide) x (zR σ 6 (ix x)) with ⟨a1, ⟨b, hb, rfl⟩, a3⟩ | a
  · refine Or.inl ⟨a1, b, n, rfl, hb, t1, rfl, t10 b hb, Eq.trans a3 ?_⟩
    rw [ix, cl0 (by omega)]
  · exact Or.inr a
theorem RT_N {σ : AH} (hT : RT σ) : vp_in (zI σ 33 6) 41 := by
  obtain ⟨n, t1, t2, -⟩ := hT
  rw [t2]; exact vp_in_nI (by omega) (by decide)

theorem Rel_leg {i : Nat} {σ : AH} {L : Nat} {x y c d : Int32} {w : Int64} (hi : i < 512) (h : Rel i σ) (hL : L < 8) (h16 : zI σ 33 16 = nI L) (hx : vp_in x 10) (hy : vp_in y 10) (hc : vp_in c 5) (hd : bt d 0 999) (hm : 1 ≤ (mi σ x y).toInt) (hf : 0 < L → zI σ 49 (L - 1) ≤ d) :
    let ω := uI (uI (uI (uI (uI (uI (uJ (uI (uI (uI (uI (uI σ (15 + L) 0 x) (15 + L) 1 y) (15 + L) 2 c) (15 + L) 3 d) 13 1 (nI (L + 1))) 72 0 w) 33 49 0) 46 L x) 47 L y) 48 L c) 49 L d) 33 16 (nI (L + 1))
    zI ω 33 49 = 0 ∧ Rel (i + 1) ω ∧ zJ ω 72 0 = w := by
  obtain ⟨h0, hS, hT, hJ, hP, hK, hB, hC⟩ := h
  intro ω
  have hq : QX (fun a k => (a = 15 + L ∧ k ≤ 3) ∨ (a = 13 ∧ k = 1) ∨ (46 ≤ a ∧ a ≤ 49 ∧ k = L) ∨ (a = 33 ∧ k = 16)) ω σ := QX_uI (QX_uI (QX_uI (QX_uI (QX_uI (QX_49 (QX_72 (QX_uI (QX_uI (QX_uI (QX_uI (QX_uI QX_refl (by right; simp)) (by right; simp)) (by right; simp)) (by right; simp)) (by right; simp)))) (by right; simp)) (by right; simp)) (by right; simp)) (by right; simp)) (by right; simp)
  have e := hq.2.2.2.2.1
  have em : ∀ a k, 46 ≤ a → a ≤ 49 → k ≠ L → zI ω a k = zI σ a k := fun a k p q r => e a k (by unfold QU; omega) (by (try dsimp only); omega)
  have el : ∀ k j, k < 8 → k ≠ L → zI ω (15 + k) j = zI σ (15 + k) j := fun k j p r => e _ j (by unfold QU; omega) (by (try dsimp only); omega)
  have n46 : zI ω 46 L = x := by show zI (uI (uI (uI (uI (uI _ 46 L x) 47 L y) 48 L c) 49 L d) 33 16 _) 46 L = x; rw [zI_uI, if_neg (by omega), zI_uI, if_neg (by omega), zI_uI, if_neg (by omega), zI_uI, if_neg (by omega), zI_uI, if_pos ⟨rfl, rfl⟩]
  have n47 : zI ω 47 L = y := by show zI (uI (uI (uI (uI _ 47 L y) 48 L c) 49 L d) 33 16 _) 47 L = y; rw [zI_uI, if_neg (by omega), zI_uI, if_neg (by omega), zI_uI, if_neg (by omega), zI_uI, if_pos ⟨rfl, rfl⟩]
  have n48 : zI ω 48 L = c := by show zI (uI (uI (uI _ 48 L c) 49 L d) 33 16 _) 48 L = c; rw [zI_uI, if_neg (by omega), zI_uI, if_neg (by omega), zI_uI, if_pos ⟨rfl, rfl⟩]
  have n49 : zI ω 49 L = d := by show zI (uI (uI _ 49 L d) 33 16 _) 49 L = d; rw [zI_uI, if_neg (by omega), zI_uI, if_pos ⟨rfl, rfl⟩]
  have low : ∀ j, zI ω (15 + L) j = zI (uI (uI (uI (uI σ (15 + L) 0 x) (15 + L) 1 y) (15 + L) 2 c) (15 + L) 3 d) (15 + L) j := fun j => by
    show zI (uI (uI (uI (uI (uI (uI (uJ (uI _ 13 1 _) 72 0 w) 33 49 0) 46 L x) 47 L y) 48 L c) 49 L d) 33 16 _) (15 + L) j = _
    rw [zI_uI, if_neg (by omega), zI_uI, if_neg (by omega), zI_uI, if_neg (by omega), zI_uI, if_neg (by omega), zI_uI, if_neg (by omega), zI_uI, if_neg (by omega), zI_uJ, zI_uI, if_neg (by omega)]
  have l0 : zI ω (15 + L) 0 = x := by rw [low, zI_uI, if_neg (by omega), zI_uI, if_neg (by omega), zI_uI, if_neg (by omega), zI_uI, if_pos ⟨rfl, rfl⟩]
  have l1 : zI ω (15 + L) 1 = y := by rw [low, zI_uI, if_neg (by omega), zI_uI, if_neg (by omega), zI_uI, if_pos ⟨rfl, rfl⟩]
  have l2 : zI ω (15 + L) 2 = c := by rw [low, zI_uI, if_neg (by omega), zI_uI, if_pos ⟨rfl, rfl⟩]
  have l3 : zI ω (15 + L) 3 = d := by rw [low, zI_uI, if_pos ⟨rfl, rfl⟩]
  have e34 : ∀ k, zI ω 34 k = zI σ 34 k := fun k => e 34 k (by unfold QU; omega) (by (try dsimp only); omega)
  refine ⟨?_, ⟨hi, QX_Sh hq hS, QX_RT hq (fun a k hf he => by (try dsimp only at he); (try unfold FT at hf); (try unfold FK at hf); (try unfold FB at hf); omega) hS hT, ?_, QX_RP hq (fun a k hf he => by (try dsimp only at he); (try unfold FT at hf); (try unfold FK at hf); (try unfold FB at hf); omega) hP, QX_RK hq (fun a k hf he => by (try dsimp only at he); (try unfold FT at hf); (try unfold FK at hf); (try unfold FB at hf); omega) hS hK, QX_RB hq (fun a k hf he => by (try dsimp only at he); (try unfold FT at hf); (try unfold FK at hf); (try unfold FB at hf); omega) hS hB, QX_RC hq (fun a k hf he => by (try dsimp only at he); (try unfold FT at hf); (try unfold FK at hf); (try unfold FB at hf); omega) hK hC⟩, ?_⟩
  · show zI (uI (uI (uI (uI (uI (uI _ 33 49 0) 46 L x) 47 L y) 48 L c) 49 L d) 33 16 _) 33 49 = 0
    rw [zI_uI, if_neg (by omega), zI_uI, if_neg (by omega), zI_uI, if_neg (by omega), zI_uI, if_neg (by omega), zI_uI, if_neg (by omega), zI_uI, if_pos ⟨rfl, rfl⟩]
  · obtain ⟨L', j1, j2, j3, j4, j5, j6⟩ := hJ
    have eL : L' = L := by rw [j2] at h16; exact (nI_eq (by omega) (by omega)).mp h16
    subst eL
    refine ⟨L' + 1, by omega, ?_, ?_, fun k hk => ?_, fun k hk => ?_, fun k hk => ?_⟩
    · show zI (uI _ 33 16 (nI (L' + 1))) 33 16 = _
      rw [zI_uI, if_pos ⟨rfl, rfl⟩]
    · show zI (uI (uI (uI (uI (uI (uI (uJ (uI _ 13 1 (nI (L' + 1))) 72 0 w) 33 49 0) 46 L' x) 47 L' y) 48 L' c) 49 L' d) 33 16 _) 13 1 = _
      rw [zI_uI, if_neg (by omega), zI_uI, if_neg (by omega), zI_uI, if_neg (by omega), zI_uI, if_neg (by omega), zI_uI, if_neg (by omega), zI_uI, if_neg (by omega), zI_uJ, zI_uI, if_pos ⟨rfl, rfl⟩]
    · by_cases hkL : k = L'
      · subst hkL
        rw [l0, l1, l2, l3, n46, n47, n48, n49]
        exact ⟨rfl, rfl, rfl, rfl, hx, hy, hc⟩
      · rw [el k _ hk hkL, el k _ hk hkL, el k _ hk hkL, el k _ hk hkL, em 46 k (by decide) (by decide) hkL, em 47 k (by decide) (by decide) hkL, em 48 k (by decide) (by decide) hkL, em 49 k (by decide) (by decide) hkL]
        exact j4 k hk
    · by_cases hkL : k = L'
      · subst hkL
        rw [n49, n46, n47, mi, e34]
        exact ⟨hd, hm⟩
      · rw [em 49 k (by decide) (by decide) hkL, em 46 k (by decide) (by decide) hkL, em 47 k (by decide) (by decide) hkL, mi, e34]
        exact j5 k (by omega)
    · by_cases hkL : k + 1 = L'
      · rw [em 49 k (by decide) (by decide) (by omega), hkL, n49]
        have := hf (by omega)
        rw [show L' - 1 = k by omega] at this
        exact this
      · rw [em 49 k (by decide) (by decide) (by omega), em 49 (k + 1) (by decide) (by decide) hkL]
        exact j6 k (by omega)
  · show zJ (uI (uI (uI (uI (uI (uI (uJ _ 72 0 w) 33 49 0) 46 L x) 47 L y) 48 L c) 49 L d) 33 16 _) 72 0 = w
    rw [zJ_uI, zJ_uI, zJ_uI, zJ_uI, zJ_uI, zJ_uI, zJ_uJ, if_pos ⟨rfl, rfl⟩]
theorem prG_34 {σ : AH} (hT : RT σ) {x y : Int32} (hx : isPl x) (hy : isPl y) : prG σ 4 x y = zI σ 34 (p2 x y) ∧ bt (zI σ 34 (p2 x y)) 0 9999 ∧ mi σ x y = zI σ 34 (p2 x y) := by
  have h := R_mi hT x y hx hy
  have m := vp_mul (isPl_vp hx) (isPl_vp hy)
  have e : mi σ x y = zI σ 34 (p2 x y) := by rw [mi, p2, ix, m.2.1]
  rw [← e]
  exact ⟨h.1, h.2, rfl⟩

theorem R_leg {g : GP} {i : Nat} {σ : AH} {v1 v2 v3 v4 : Int32} (hi : i < 512) (h : Rel i σ) : CtH g mL_leg [.ref 2, .int v1, .int v2, .int v3, .int v4] σ (RQ [-1000001, -1000002, -1000003] (fun k τ => Gh (S12_leg v1 v2 v3 v4) τ (RE i k))) := by
  have hr := h
  obtain ⟨h0, hS, hT, hJ, hP, hK, hB, hC⟩ := h
  obtain ⟨nf, t1, t2, t3, t4, t5, e6, t7, -⟩ := id hT
  have n8 : onF σ v1 v4 → ¬ 8 ≤ zI σ 33 16 := fun q => q.elim (fun z => by rw [z]; decide) (fun z => z.1)
  have m1 : ¬ (isPl v1 ∧ isPl v2 ∧ isCa v3) → Gh (S12_leg v1 v2 v3 v4) σ (RE i 1) := fun c1 => s_X12_leg hS (R_L hJ) (fun _ => RE_no hi hr (Q4_refl σ) (by decide)) (fun q _ => absurd q c1) (fun q _ _ => absurd q c1) (fun q _ _ => absurd q c1)
  have m2 : (isPl v1 ∧ isPl v2 ∧ isCa v3) → ¬ (¬ v1 = v2 ∧ isWi v4 (zI σ 33 0) 999) → Gh (S12_leg v1 v2 v3 v4) σ (RE i 2) := fun c1 c2 => s_X12_leg hS (R_L hJ) (fun q => absurd c1 q) (fun _ _ => RE_no hi hr (Q4_refl σ) (by decide)) (fun _ q _ => absurd q c2) (fun _ q _ => absurd q c2)
  have m3 : (isPl v1 ∧ isPl v2 ∧ isCa v3) → (¬ v1 = v2 ∧ isWi v4 (zI σ 33 0) 999) → ¬ (((zI σ 33 16 = 0 ∨ (¬ 8 ≤ zI σ 33 16 ∧ zI σ 47 (ix (zI σ 33 16 - 1)) = v1 ∧ ¬ v4 < zI σ 49 (ix (zI σ 33 16 - 1)))) ∧ ¬ zI σ 34 (p2 v1 v2) ≤ 0)) → Gh (S12_leg v1 v2 v3 v4) σ (RE i 3) := fun c1 c2 c3 => s_X12_leg hS (R_L hJ) (fun q => absurd c1 q) (fun _ q => absurd c2 q) (fun _ _ _ => RE_no hi hr (Q4_refl σ) (by decide)) (fun _ _ q => absurd q c3)
  refine w_L_leg (Q := QI (fun k τ => Gh (S12_leg v1 v2 v3 v4) τ (RE i k))) (X := X3 IOO IAE ISE (fun k τ => Gh (S12_leg v1 v2 v3 v4) τ (RE i k))) hS (CtX_of (by decide +kernel) rfl rfl (b_X11_leg_0 hS (fun c => Or.inl ⟨rfl, hS, m1 (fun q => c q.1)⟩) (fun _ c => Or.inl ⟨rfl, hS, m1 (fun q => c q.2.1)⟩) (fun c1 c2 c3 c4 => Or.inr (Or.inl ⟨rfl, hS, m2 ⟨c1, c2, c3⟩ (fun q => q.1 c4)⟩)) (fun _ _ _ _ _ => hJ) (fun c1 c2 c3 c4 c5 c6 => Or.inr (Or.inr ⟨rfl, hS, m3 ⟨c1, c2, c3⟩ ⟨c4, by rw [← e6]; exact c5⟩ (fun q => c6 q.1)⟩)) (fun _ _ _ _ _ _ => Or.inl rfl) (fun _ _ _ _ _ c _ => n8 c) (fun c1 c2 c3 c4 c5 c6 c7 => ?_) (fun c1 c2 c3 c4 c5 c6 c7 => Or.inr (Or.inr ⟨rfl, hS, m3 ⟨c1, c2, c3⟩ ⟨c4, by rw [← e6]; exact c5⟩ (fun q => q.2 (by rw [← (prG_34 hT c1 c2).1, c7]; decide))⟩)) (fun c1 c2 c3 c4 c5 => Or.inr (Or.inl ⟨rfl, hS, m2 ⟨c1, c2, c3⟩ (fun q => c5 (by rw [e6]; exact q.2))⟩)) (fun _ _ c => Or.inl ⟨rfl, hS, m1 (fun q => c q.2.2)⟩))) QI_q X3_q
  obtain ⟨L, j1, j2, j3⟩ := RJ_L hJ
  have hL : L < 8 := by
    rcases Nat.lt_or_ge L 8 with q | q
    · exact q
    · exact absurd (by rw [j2]; exact nI_le (a := 8) q (by omega)) (n8 c6)
  have hi16 : ix (zI σ 33 16) = L := by rw [j2]; exact cl0 (by omega)
  have g := prG_34 hT c1 c2
  have hm1 : ¬ zI σ 34 (p2 v1 v2) ≤ 0 := fun q => c7 (by
    rw [g.1]
    rw [Int32.le_iff_toInt_le] at q
    change _ ≤ (0 : Int) at q
    have := g.2.1.1
    exact Int32.toInt_inj.mp (show _ = (0 : Int) by omega))
  have hm2 : 1 ≤ (mi σ v1 v2).toInt := by
    rw [g.2.2]
    rw [Int32.le_iff_toInt_le] at hm1
    change ¬ _ ≤ (0 : Int) at hm1
    omega
  rw [e6] at c5
  have hd : bt v4 0 999 := by
    have hb := bt_wi c5
    have e9 : (999 : Int32).toInt = 999 := by decide
    rw [e9] at hb
    have := t7.1
    exact ⟨by omega, hb.2⟩
  have hfl : 0 < L → zI σ 49 (L - 1) ≤ v4 := fun q => by
    rcases c6 with z | z
    · rw [j2] at z
      exact absurd z (nI_ne0 q (by omega))
    · have h3 := z.2.2
      obtain ⟨p, rfl⟩ : ∃ p, L = p + 1 := ⟨L - 1, by omega⟩
      rw [j2, nI_pred, ix, cl0 (by omega)] at h3
      exact Int32.not_lt.mp h3
  have K := Rel_leg (w := Int32.toInt64 (nI (L + 1))) hi hr hL j2 (isPl_vp c1) (isPl_vp c2) (isCa_vp c3) hd hm2 hfl
  rw [adH, hi16, j2, nI_1]
  have eq : ∀ a k, a = 33 ∨ a = 34 ∨ a = 47 ∨ a = 49 → zI (uJ (uI (uI (uI (uI (uI σ (15 + L) 0 v1) (15 + L) 1 v2) (15 + L) 2 v3) (15 + L) 3 v4) 13 1 (nI (L + 1))) 72 0 (Int32.toInt64 (nI (L + 1)))) a k = zI σ a k := fun a k q => by
    rw [zI_uJ, zI_uI, if_neg (by omega), zI_uI, if_neg (by omega), zI_uI, if_neg (by omega), zI_uI, if_neg (by omega), zI_uI, if_neg (by omega)]
  refine ⟨_, rfl, Sh_uI (Sh_uI (Sh_uI (Sh_uI (Sh_uI hS)))), s_X12_leg (σ := uJ (uI (uI (uI (uI (uI σ (15 + L) 0 v1) (15 + L) 1 v2) (15 + L) 2 v3) (15 + L) 3 v4) 13 1 (nI (L + 1))) 72 0 (Int32.toInt64 (nI (L + 1)))) (Sh_uJ (Sh_uI (Sh_uI (Sh_uI (Sh_uI (Sh_uI hS)))))) (by rw [eq 33 16 (by omega)]; exact R_L hJ) (fun q => absurd ⟨c1, c2, c3⟩ q) (fun _ q => absurd ⟨c4, by rw [eq 33 0 (by omega)]; exact c5⟩ q) (fun _ _ q => absurd (by rw [eq 33 16 (by omega), eq 47 _ (by omega), eq 49 _ (by omega), eq 34 _ (by omega)]; exact ⟨c6, hm1⟩) q) (fun _ _ _ => ?_)⟩
  rw [leN, eq 33 16 (by omega), hi16, j2, nI_1]
  exact ⟨K.1, K.2.1, _, rfl, fun _ => K.2.2⟩
