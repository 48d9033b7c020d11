/-! ===== calls: a coupon endorsed ===== -/
set_option maxRecDepth 100000 in
set_option maxHeartbeats 4000000 in
theorem b_X11_endorse_0 {g : GP} {CX : State → Array Value → Prop} {Q : AH → Option Value → Prop} {X : AH → String → Prop} {v1 : Int32} {v2 : Int32} {v3 : Int32} {σ : AH}
    (hS : Sh σ)
    (o1 : (¬ atR (zI σ 2 8) 30 v1 (zR σ 30 (ix v1)) = 0) → TX σ (atR (zI σ 2 8) 30 v1 (zR σ 30 (ix v1))))
    (o2 : (¬ atR (zI σ 2 8) 30 v1 (zR σ 30 (ix v1)) = 0) → zK σ (atR (zI σ 2 8) 30 v1 (zR σ 30 (ix v1))) = 9)
    (k1 : (¬ atR (zI σ 2 8) 30 v1 (zR σ 30 (ix v1)) = 0) → (atR (zI σ (atR (zI σ 2 8) 30 v1 (zR σ 30 (ix v1))) 4) 8 v2 (cA σ (atR (zI σ 2 8) 30 v1 (zR σ 30 (ix v1))) (ix v2)) = 0) → X σ "java/lang/IndexOutOfBoundsException")
    (o3 : (¬ atR (zI σ 2 8) 30 v1 (zR σ 30 (ix v1)) = 0) → (¬ atR (zI σ (atR (zI σ 2 8) 30 v1 (zR σ 30 (ix v1))) 4) 8 v2 (cA σ (atR (zI σ 2 8) 30 v1 (zR σ 30 (ix v1))) (ix v2)) = 0) → (isCa v3) → zK σ (atR (zI σ (atR (zI σ 2 8) 30 v1 (zR σ 30 (ix v1))) 4) 8 v2 (cA σ (atR (zI σ 2 8) 30 v1 (zR σ 30 (ix v1))) (ix v2))) = 2)
    (k2 : (¬ atR (zI σ 2 8) 30 v1 (zR σ 30 (ix v1)) = 0) → (¬ atR (zI σ (atR (zI σ 2 8) 30 v1 (zR σ 30 (ix v1))) 4) 8 v2 (cA σ (atR (zI σ 2 8) 30 v1 (zR σ 30 (ix v1))) (ix v2)) = 0) → (isCa v3) → (¬ (zI σ (atR (zI σ (atR (zI σ 2 8) 30 v1 (zR σ 30 (ix v1))) 4) 8 v2 (cA σ (atR (zI σ 2 8) 30 v1 (zR σ 30 (ix v1))) (ix v2))) 7) = 0) → X σ "java/lang/IllegalStateException")
    (k3 : (¬ atR (zI σ 2 8) 30 v1 (zR σ 30 (ix v1)) = 0) → (¬ atR (zI σ (atR (zI σ 2 8) 30 v1 (zR σ 30 (ix v1))) 4) 8 v2 (cA σ (atR (zI σ 2 8) 30 v1 (zR σ 30 (ix v1))) (ix v2)) = 0) → (isCa v3) → ((zI σ (atR (zI σ (atR (zI σ 2 8) 30 v1 (zR σ 30 (ix v1))) 4) 8 v2 (cA σ (atR (zI σ 2 8) 30 v1 (zR σ 30 (ix v1))) (ix v2))) 7) = 0) → (¬ (zI σ (atR (zI σ (atR (zI σ 2 8) 30 v1 (zR σ 30 (ix v1))) 4) 8 v2 (cA σ (atR (zI σ 2 8) 30 v1 (zR σ 30 (ix v1))) (ix v2))) 4) = v3) → Q (uI σ (atR (zI σ (atR (zI σ 2 8) 30 v1 (zR σ 30 (ix v1))) 4) 8 v2 (cA σ (atR (zI σ 2 8) 30 v1 (zR σ 30 (ix v1))) (ix v2))) 4 v3) (some (.int (zI σ (atR (zI σ (atR (zI σ 2 8) 30 v1 (zR σ 30 (ix v1))) 4) 8 v2 (cA σ (atR (zI σ 2 8) 30 v1 (zR σ 30 (ix v1))) (ix v2))) 4))))
    (k4 : (¬ atR (zI σ 2 8) 30 v1 (zR σ 30 (ix v1)) = 0) → (¬ atR (zI σ (atR (zI σ 2 8) 30 v1 (zR σ 30 (ix v1))) 4) 8 v2 (cA σ (atR (zI σ 2 8) 30 v1 (zR σ 30 (ix v1))) (ix v2)) = 0) → (isCa v3) → ((zI σ (atR (zI σ (atR (zI σ 2 8) 30 v1 (zR σ 30 (ix v1))) 4) 8 v2 (cA σ (atR (zI σ 2 8) 30 v1 (zR σ 30 (ix v1))) (ix v2))) 7) = 0) → ((zI σ (atR (zI σ (atR (zI σ 2 8) 30 v1 (zR σ 30 (ix v1))) 4) 8 v2 (cA σ (atR (zI σ 2 8) 30 v1 (zR σ 30 (ix v1))) (ix v2))) 4) = v3) → X σ "java/lang/IllegalStateException")
    (k5 : (¬ atR (zI σ 2 8) 30 v1 (zR σ 30 (ix v1)) = 0) → (¬ atR (zI σ (atR (zI σ 2 8) 30 v1 (zR σ 30 (ix v1))) 4) 8 v2 (cA σ (atR (zI σ 2 8) 30 v1 (zR σ 30 (ix v1))) (ix v2)) = 0) → (¬ (isCa v3)) → X σ "java/lang/IndexOutOfBoundsException")
    (k6 : (atR (zI σ 2 8) 30 v1 (zR σ 30 (ix v1)) = 0) → X σ "java/lang/IndexOutOfBoundsException") :
    V g mX11_endorse (Em g mX11_endorse Q X) CX 1 6 0 [(0, .ref 2), (1, .int v1), (2, .int v2), (3, .int v3)] [] σ := by
  refine V_aload_n dX11_endorse_0 rfl ?_
  refine V_iload_n dX11_endorse_1 rfl ?_
  refine V_callV1 (as := [.int v1]) (k' := 1) (n' := 6) (s_X11_ticketAt hS) mw_X11_ticketAt ko_X11 rfl w_404 w_1 w_402 ar_X11_ticketAt rfl ⟨rfl, rfl, rfl, rfl, rfl⟩ dX11_endorse_2 (by decide) (shk hS 2 rfl) ?_
  refine V_astore [(0, .ref 2), (1, .int v1), (2, .int v2), (3, .int v3), (4, .ref (atR (zI σ 2 8) 30 v1 (zR σ 30 (ix v1))))] dX11_endorse_5 rfl rfl ?_
  refine V_aload dX11_endorse_7 rfl ?_
  refine V_ifnonnull 16 dX11_endorse_9 rfl (fun c1 => ?_) (fun c1 => ?_)
  · refine V_aload dX11_endorse_16 rfl ?_
    refine V_iload_n dX11_endorse_18 rfl ?_
    refine V_callV1 (as := [.int v2]) (k' := 1) (n' := 6) (s_X9_couponAt (o1 c1)) mw_X9_couponAt ko_X9 rfl w_411 w_412 w_436 ar_X9_couponAt rfl ⟨rfl, rfl, rfl, rfl, rfl⟩ dX11_endorse_19 c1 (o2 c1) ?_
    refine V_astore [(0, .ref 2), (1, .int v1), (2, .int v2), (3, .int v3), (4, .ref (atR (zI σ 2 8) 30 v1 (zR σ 30 (ix v1)))), (5, .ref (atR (zI σ (atR (zI σ 2 8) 30 v1 (zR σ 30 (ix v1))) 4) 8 v2 (cA σ (atR (zI σ 2 8) 30 v1 (zR σ 30 (ix v1))) (ix v2))))] dX11_endorse_22 rfl rfl ?_
    refine V_aload dX11_endorse_24 rfl ?_
    refine V_ifnull 36 dX11_endorse_26 rfl (fun c2 => ?_) (fun c2 => ?_)
    · exact V_throwW (k := 1) (n := 6) tw_X11_61 ws_898 dX11_endorse_36 dX11_endorse_39 dX11_endorse_40 dX11_endorse_43 dX11_endorse_46 rfl rfl rfl rfl rfl (k1 c1 c2)
    · refine V_iload_n dX11_endorse_29 rfl ?_
      refine V_callS1 (as := [.int v3]) (k' := 1) (n' := 6) (s_X11_isCarrier) mw_X11_isCarrier w_364 w_363 ar_X11_isCarrier rfl ⟨rfl, rfl, rfl, rfl, rfl⟩ dX11_endorse_30 ?_
      refine V_if_ne 47 dX11_endorse_33 rfl (fun c3 => ?_) (fun c3 => ?_)
      · replace c3 := jb_n.mp c3
        refine V_aload dX11_endorse_47 rfl ?_
        refine V_getf (fk := 7) (Value.int (zI σ (atR (zI σ (atR (zI σ 2 8) 30 v1 (zR σ 30 (ix v1))) 4) 8 v2 (cA σ (atR (zI σ 2 8) 30 v1 (zR σ 30 (ix v1))) (ix v2))) 7)) ko_X2 rfl w_789 dX11_endorse_49 c2 (o3 c1 c2 c3) rfl ?_
        refine V_if_ne 64 dX11_endorse_52 rfl (fun c4 => ?_) (fun c4 => ?_)
        · exact V_throwW (k := 1) (n := 6) tw_X11_94 ws_899 dX11_endorse_64 dX11_endorse_67 dX11_endorse_68 dX11_endorse_71 dX11_endorse_74 rfl rfl rfl rfl rfl (k2 c1 c2 c3 c4)
        · refine V_aload dX11_endorse_55 rfl ?_
          refine V_getf (fk := 4) (Value.int (zI σ (atR (zI σ (atR (zI σ 2 8) 30 v1 (zR σ 30 (ix v1))) 4) 8 v2 (cA σ (atR (zI σ 2 8) 30 v1 (zR σ 30 (ix v1))) (ix v2))) 4)) ko_X2 rfl w_782 dX11_endorse_57 c2 (o3 c1 c2 c3) rfl ?_
          refine V_iload_n dX11_endorse_60 rfl ?_
          refine V_icmp_ne 75 dX11_endorse_61 rfl (fun c5 => ?_) (fun c5 => ?_)
          · refine V_aload dX11_endorse_75 rfl ?_
            refine V_getf (fk := 4) (Value.int (zI σ (atR (zI σ (atR (zI σ 2 8) 30 v1 (zR σ 30 (ix v1))) 4) 8 v2 (cA σ (atR (zI σ 2 8) 30 v1 (zR σ 30 (ix v1))) (ix v2))) 4)) ko_X2 rfl w_782 dX11_endorse_77 c2 (o3 c1 c2 c3) rfl ?_
            refine V_istore [(0, .ref 2), (1, .int v1), (2, .int v2), (3, .int v3), (4, .ref (atR (zI σ 2 8) 30 v1 (zR σ 30 (ix v1)))), (5, .ref (atR (zI σ (atR (zI σ 2 8) 30 v1 (zR σ 30 (ix v1))) 4) 8 v2 (cA σ (atR (zI σ 2 8) 30 v1 (zR σ 30 (ix v1))) (ix v2)))), (6, .int (zI σ (atR (zI σ (atR (zI σ 2 8) 30 v1 (zR σ 30 (ix v1))) 4) 8 v2 (cA σ (atR (zI σ 2 8) 30 v1 (zR σ 30 (ix v1))) (ix v2))) 4))] dX11_endorse_80 rfl rfl ?_
            refine V_aload dX11_endorse_82 rfl ?_
            refine V_iload_n dX11_endorse_84 rfl ?_
            refine V_puti (fk := 4) ko_X2 rfl w_782 (Or.inl rfl) dX11_endorse_85 rfl c2 (o3 c1 c2 c3) ?_
            refine V_iload dX11_endorse_88 rfl ?_
            exact V_iret rfl dX11_endorse_90 (k3 c1 c2 c3 c4 c5)
          · exact V_throwW (k := 1) (n := 6) tw_X11_94 ws_899 dX11_endorse_64 dX11_endorse_67 dX11_endorse_68 dX11_endorse_71 dX11_endorse_74 rfl rfl rfl rfl rfl (k4 c1 c2 c3 c4 c5)
      · replace c3 := jb_0.mp c3
        exact V_throwW (k := 1) (n := 6) tw_X11_61 ws_898 dX11_endorse_36 dX11_endorse_39 dX11_endorse_40 dX11_endorse_43 dX11_endorse_46 rfl rfl rfl rfl rfl (k5 c1 c2 c3)
  · refine V_null dX11_endorse_12 ?_
    refine V_goto 22 dX11_endorse_13 rfl ?_
    refine V_astore [(0, .ref 2), (1, .int v1), (2, .int v2), (3, .int v3), (4, .ref (atR (zI σ 2 8) 30 v1 (zR σ 30 (ix v1)))), (5, .ref 0)] dX11_endorse_22 rfl rfl ?_
    refine V_aload dX11_endorse_24 rfl ?_
    refine V_ifnull 36 dX11_endorse_26 rfl (fun _ => ?_) (fun z_ => (by first | exact absurd (by decide) z_ | exact absurd z_ (by decide)))
    exact V_throwW (k := 1) (n := 6) tw_X11_61 ws_898 dX11_endorse_36 dX11_endorse_39 dX11_endorse_40 dX11_endorse_43 dX11_endorse_46 rfl rfl rfl rfl rfl (k6 c1)

/-- tickets when coupons alone have changed -/
theorem RK_mod {τ σ : AH} (hN : zN τ = zN σ) (hKK : zK τ = zK σ) (hLL : zL τ = zL σ) (hRR : zR τ = zR σ) (h33 : zI τ 33 23 = zI σ 33 23) (h28 : zI τ 2 8 = zI σ 2 8) (hrow : ∀ a t, 50 ≤ a → a ≤ 54 → zI τ a t = zI σ a t) (h57 : ∀ q, zI τ 57 q = zI σ 57 q)
    (hT : ∀ t, t < ix (zI σ 33 23) → ∀ j, zI τ (tA σ t) j = zI σ (tA σ t) j) (hC : ∀ t k, t < ix (zI σ 33 23) → k < ix (zI σ 52 t) → k < 8 → CR σ (cC σ t k) (8 * t + k) → CR τ (cC σ t k) (8 * t + k)) (h55 : ∀ c, 8 * ix (zI σ 33 23) ≤ c → zI σ 55 c = 0 → zI τ 55 c = 0) (hRK : RK σ) : RK τ := by
  obtain ⟨n, h1, h2, h3, h4, h5, h6, h7⟩ := hRK
  have hx : ix (zI σ 33 23) = n := by rw [h2, ix, cl0 (by omega)]
  rw [hx] at hT hC h55
  have eA : ∀ t, tA τ t = tA σ t := fun t => by rw [tA, hRR]
  have eC : ∀ t k, cC τ t k = cC σ t k := fun t k => by rw [cC, cA, eA, hRR]
  refine ⟨n, h1, by rw [h33]; exact h2, by rw [h28]; exact h3, fun t ht => ?_, fun t u ht hu q => h5 t u ht hu (by rw [eA, eA] at q; exact q), fun t u j k ht hu hj hk q => h6 t u j k ht hu (by rw [hrow 52 t (by decide) (by decide)] at hj; exact hj) (by rw [hrow 52 u (by decide) (by decide)] at hk; exact hk) (by rw [eC, eC] at q; exact q), fun c hc => h55 c hc (h7 c hc)⟩
  obtain ⟨m, t1, t2, t3, t4, t5, t6, t7, t8, t9, t10, t11⟩ := h4 t ht
  have hm : ix (zI σ 52 t) = m := by rw [t3, ix, cl0 (by have := t2.2.2.2.1; omega)]
  refine ⟨m, t1, ?_, by rw [hrow 52 t (by decide) (by decide)]; exact t3, by rw [eA, hN]; exact t4, by rw [eA, hRR, hN]; exact t5, by rw [eA, hT t ht, hrow 51 t (by decide) (by decide)]; exact t6, by rw [eA, hT t ht, hrow 50 t (by decide) (by decide)]; exact t7, by rw [eA, hT t ht, hrow 53 t (by decide) (by decide)]; exact t8, ?_, by rw [eA, hT t ht, hrow 54 t (by decide) (by decide)]; exact t10, fun k hk => ?_⟩
  · rw [eA]; exact TS_ag (hT t ht 4) hKK hLL hRR t2
  · rw [eA, hT t ht, t9]
    exact smI_c (fun k _ => (h57 _).symm)
  · rw [eC]
    exact hC t k ht (by rw [hm]; exact hk) (by have := t2.2.2.2.1; omega) (t11 k hk)
theorem cC_ne {σ : AH} {t u j k : Nat} (hK : RK σ) (ht : t < ix (zI σ 33 23)) (hu : u < ix (zI σ 33 23)) (hj : j < ix (zI σ 52 t)) (hk : k < ix (zI σ 52 u)) (hk8 : k < 8) (hj8 : j < 8) (hne : 8 * t + j ≠ 8 * u + k) : cC σ t j ≠ cC σ u k := fun q => by
  obtain ⟨n, h1, h2, h3, h4, h5, h6, h7⟩ := hK
  rw [h2, ix, cl0 (by omega)] at ht hu
  obtain ⟨e1, e2⟩ := h6 t u j k ht hu hj hk q
  subst e1; subst e2
  exact hne rfl
theorem tA_2 {σ : AH} {t : Nat} (hT : TR σ t) : zK σ (tA σ t) = 9 := by
  obtain ⟨m, t1, t2, -⟩ := hT
  exact t2.2.1
theorem cC_2 {σ : AH} {t k : Nat} (hT : TR σ t) (hk : k < ix (zI σ 52 t)) : zK σ (cC σ t k) = 2 ∧ CR σ (cC σ t k) (8 * t + k) := by
  obtain ⟨m, t1, t2, t3, t4, t5, t6, t7, t8, t9, t10, t11⟩ := hT
  rw [t3, ix, cl0 (by have := t2.2.2.2.1; omega)] at hk
  exact ⟨(t2.2.2.2.2.2 k hk).2, t11 k hk⟩

theorem Rel_endorse {i : Nat} {σ : AH} {t k c : Nat} {x : Int32} {w : Int64} (hi : i < 512) (h : Rel i σ) (ht : t < ix (zI σ 33 23)) (hk : k < ix (zI σ 52 t)) (hk8 : k < 8) (hc : cC σ t k = c) (hx : vp_in x 5) : zI (uI (uI (uJ (uI σ c 4 x) 72 0 w) 33 49 0) 58 (8 * t + k) x) 33 49 = 0 ∧ Rel (i + 1) (uI (uI (uJ (uI σ c 4 x) 72 0 w) 33 49 0) 58 (8 * t + k) x) ∧ zJ (uI (uI (uJ (uI σ c 4 x) 72 0 w) 33 49 0) 58 (8 * t + k) x) 72 0 = w := by
  obtain ⟨h0, hS, hT, hJ, hP, hK, hB, hC⟩ := h
  have hTR := RK_t hK ht
  have c2 := cC_2 hTR hk
  rw [hc] at c2
  have h72 := c2.2.1.1
  have hkc := c2.1
  have hq : QX (fun a j => (a = c ∧ j = 4) ∨ (a = 58 ∧ j = 8 * t + k)) (uI (uI (uJ (uI σ c 4 x) 72 0 w) 33 49 0) 58 (8 * t + k) x) σ := QX_uI (QX_49 (QX_72 (QX_uI QX_refl (by right; simp)))) (by right; simp)
  have r4 : zI (uI (uI (uJ (uI σ c 4 x) 72 0 w) 33 49 0) 58 (8 * t + k) x) c 4 = x := by rw [zI_uI, if_neg (by omega), zI_uI, if_neg (by omega), zI_uJ, zI_uI, if_pos ⟨rfl, rfl⟩]
  have r58 : zI (uI (uI (uJ (uI σ c 4 x) 72 0 w) 33 49 0) 58 (8 * t + k) x) 58 (8 * t + k) = x := by rw [zI_uI, if_pos ⟨rfl, rfl⟩]
  refine ⟨by rw [zI_uI, if_neg (by omega), zI_uI, if_pos ⟨rfl, rfl⟩], ⟨hi, QX_Sh hq hS, QX_RT hq (fun a' k' hf he => by (try dsimp only at he); (try unfold FT at hf); (try unfold FK at hf); (try unfold FB at hf); rcases he with ⟨q1, q2⟩ | ⟨q1, q2⟩ <;> (try subst q1) <;> omega) hS hT, QX_RJ hq (fun a' k' hf he => by (try dsimp only at he); (try unfold FT at hf); (try unfold FK at hf); (try unfold FB at hf); rcases he with ⟨q1, q2⟩ | ⟨q1, q2⟩ <;> (try subst q1) <;> omega) hJ, QX_RP hq (fun a' k' hf he => by (try dsimp only at he); (try unfold FT at hf); (try unfold FK at hf); (try unfold FB at hf); rcases he with ⟨q1, q2⟩ | ⟨q1, q2⟩ <;> (try subst q1) <;> omega) hP, ?_, QX_RB hq (fun a' k' hf he => by (try dsimp only at he); (try unfold FT at hf); (try unfold FK at hf); (try unfold FB at hf); rcases he with ⟨q1, q2⟩ | ⟨q1, q2⟩ <;> (try subst q1) <;> omega) hS hB, ?_⟩, by rw [zJ_uI, zJ_uI, zJ_uJ, if_pos ⟨rfl, rfl⟩]⟩
  · have e : ∀ a j, ¬ QU a j → ¬ ((a = c ∧ j = 4) ∨ (a = 58 ∧ j = 8 * t + k)) → zI (uI (uI (uJ (uI σ c 4 x) 72 0 w) 33 49 0) 58 (8 * t + k) x) a j = zI σ a j := hq.2.2.2.2.1
    generalize uI (uI (uJ (uI σ c 4 x) 72 0 w) 33 49 0) 58 (8 * t + k) x = ω at *
    refine RK_mod hq.1 hq.2.1 hq.2.2.1 hq.2.2.2.1 (e 33 23 (by unfold QU; omega) (by omega)) (e 2 8 (by unfold QU; omega) (by omega)) (fun a u p q => e a u (by unfold QU; omega) (by omega)) (fun q => e 57 q (by unfold QU; omega) (by omega)) (fun u hu j => ?_) (fun u j hu hj hj8 hr => ?_) (fun q _ hz => by rw [e 55 q (by unfold QU; omega) (by omega)]; exact hz) hK
    · have hTu := RK_t hK hu
      have h9 := tA_2 hTu
      have hu72 := TR_72 hTu
      exact e _ _ (by unfold QU; omega) (fun z => by
        rcases z with ⟨z1, z2⟩ | ⟨z1, z2⟩
        · rw [z1] at h9; omega
        · omega)
    · have hr72 := hr.1.1
      by_cases hsame : 8 * u + j = 8 * t + k
      · have hu' : u = t := by omega
        have hj' : j = k := by omega
        subst hu'; subst hj'
        rw [hc] at hr ⊢
        have ec : ∀ f, f ≠ 4 → zI ω c f = zI σ c f := fun f hf => e _ _ (by unfold QU; omega) (by omega)
        have em : ∀ a, 55 ≤ a → a ≤ 61 → a ≠ 58 → zI ω a (8 * u + j) = zI σ a (8 * u + j) := fun a p q z => e _ _ (by unfold QU; omega) (by omega)
        obtain ⟨r1, r2, r3, r4', r5, r6, r7, r8⟩ := hr
        unfold CR
        rw [hq.1, ec 0 (by decide), ec 2 (by decide), ec 3 (by decide), ec 6 (by decide), ec 7 (by decide), ec 8 (by decide), em 60 (by decide) (by decide) (by decide), em 59 (by decide) (by decide) (by decide), em 57 (by decide) (by decide) (by decide), em 56 (by decide) (by decide) (by decide), em 55 (by decide) (by decide) (by decide), em 61 (by decide) (by decide) (by decide), r4, r58]
        exact ⟨r1, r2, r3, r4', ⟨rfl, hx⟩, r6, r7, r8⟩
      · have hne := cC_ne hK hu ht hj hk hk8 hj8 hsame
        rw [hc] at hne
        have ec : ∀ f, zI ω (cC σ u j) f = zI σ (cC σ u j) f := fun f => e _ _ (by unfold QU; omega) (by omega)
        have em : ∀ a, 55 ≤ a → a ≤ 61 → zI ω a (8 * u + j) = zI σ a (8 * u + j) := fun a p q => e _ _ (by unfold QU; omega) (by omega)
        unfold CR at hr ⊢
        rw [hq.1, ec, ec, ec, ec, ec, ec, ec, em 60 (by decide) (by decide), em 59 (by decide) (by decide), em 57 (by decide) (by decide), em 58 (by decide) (by decide), em 56 (by decide) (by decide), em 55 (by decide) (by decide), em 61 (by decide) (by decide)]
        exact hr
  · have e : ∀ a j, ¬ QU a j → ¬ ((a = c ∧ j = 4) ∨ (a = 58 ∧ j = 8 * t + k)) → zI (uI (uI (uJ (uI σ c 4 x) 72 0 w) 33 49 0) 58 (8 * t + k) x) a j = zI σ a j := hq.2.2.2.2.1
    have hj := hq.2.2.2.2.2
    have hR := hq.2.2.2.1
    generalize uI (uI (uJ (uI σ c 4 x) 72 0 w) 33 49 0) 58 (8 * t + k) x = ω at *
    refine RC_ag (fun a k q => hj a k (by omega) (by omega) (by omega)) (fun a k q => e a k (by unfold QU; omega) (by omega)) (fun u hu => ?_) hC
    have h1 := TR_72 (RK_t hK hu)
    rw [tA, hR]
    unfold tA at h1
    exact hj _ _ (by omega) (by omega) (by omega)

theorem R_endorse {g : GP} {i : Nat} {σ : AH} {v1 v2 v3 : Int32} (hi : i < 512) (h : Rel i σ) : CtH g mL_endorse [.ref 2, .int v1, .int v2, .int v3] σ (RQ [-1000001, -1000003] (fun k τ => Gh (S12_endorse v1 v2 v3) τ (RE i k))) := by
  have hr := h
  obtain ⟨h0, hS, hT, hJ, hP, hK, hB, hC⟩ := h
  have hc0 : ¬ atR (zI σ 2 8) 30 v1 (zR σ 30 (ix v1)) = 0 → ¬ atR (zI σ (atR (zI σ 2 8) 30 v1 (zR σ 30 (ix v1))) 4) 8 v2 (cA σ (atR (zI σ 2 8) 30 v1 (zR σ 30 (ix v1))) (ix v2)) = 0 → ∃ t k, TR σ t ∧ t < 30 ∧ v1 = nI t ∧ atR (zI σ 2 8) 30 v1 (zR σ 30 (ix v1)) = tA σ t ∧ k < 8 ∧ v2 = nI k ∧ k < ix (zI σ 52 t) ∧ atR (zI σ (atR (zI σ 2 8) 30 v1 (zR σ 30 (ix v1))) 4) 8 v2 (cA σ (atR (zI σ 2 8) 30 v1 (zR σ 30 (ix v1))) (ix v2)) = cC σ t k ∧ CR σ (cC σ t k) (8 * t + k) ∧ zK σ (cC σ t k) = 2 ∧ (isWi v1 0 (zI σ 33 23 - 1) ∧ isWi v2 0 (zI σ 52 (ix v1) - 1)) ∧ t < ix (zI σ 33 23) := fun c c2 => by
    rcases tick_at hK v1 with ⟨a, t, e1, e2, e3, e4, e5⟩ | ⟨_, a⟩
    · have hi1 : ix v1 = t := by rw [e1, ix, cl0 (by omega)]
      rw [e5] at c2
      rcases coup_at e4 v2 with ⟨b, k, f1, f2, f3, f4, f5, f6⟩ | ⟨_, b⟩
      · exact ⟨t, k, e4, e2, e1, e5, f3, f1, f2, by rw [e5]; exact f6, f4, f5, ⟨a, by rw [hi1]; exact b⟩, e3⟩
      · exact absurd b c2
    · exact absurd a c
  have hc1 : ¬ atR (zI σ 2 8) 30 v1 (zR σ 30 (ix v1)) = 0 → atR (zI σ (atR (zI σ 2 8) 30 v1 (zR σ 30 (ix v1))) 4) 8 v2 (cA σ (atR (zI σ 2 8) 30 v1 (zR σ 30 (ix v1))) (ix v2)) = 0 → ¬ (isWi v1 0 (zI σ 33 23 - 1) ∧ isWi v2 0 (zI σ 52 (ix v1) - 1)) := fun c c2 => by
    rcases tick_at hK v1 with ⟨a, t, e1, e2, e3, e4, e5⟩ | ⟨_, a⟩
    · have hi1 : ix v1 = t := by rw [e1, ix, cl0 (by omega)]
      rw [e5] at c2
      rcases coup_at e4 v2 with ⟨b, k, f1, f2, f3, f4, f5, f6⟩ | ⟨b, _⟩
      · have := f4.1.1
        rw [f6] at c2; omega
      · rw [hi1]; exact fun q => b q.2
    · exact absurd a c
  have hc2 : atR (zI σ 2 8) 30 v1 (zR σ 30 (ix v1)) = 0 → ¬ (isWi v1 0 (zI σ 33 23 - 1) ∧ isWi v2 0 (zI σ 52 (ix v1) - 1)) := fun c => by
    rcases tick_at hK v1 with ⟨a, t, e1, e2, e3, e4, e5⟩ | ⟨a, _⟩
    · have := TR_72 e4
      rw [e5] at c; omega
    · exact fun q => a q.1
  have kT : ¬ atR (zI σ 2 8) 30 v1 (zR σ 30 (ix v1)) = 0 → TX σ (atR (zI σ 2 8) 30 v1 (zR σ 30 (ix v1))) := fun c => by
    rcases tick_at hK v1 with ⟨a, t, e1, e2, e3, e4, e5⟩ | ⟨_, a⟩
    · rw [e5]; exact ⟨_, (TR_M e4).2.2.1⟩
    · exact absurd a c
  have kd : ¬ atR (zI σ 2 8) 30 v1 (zR σ 30 (ix v1)) = 0 → zK σ (atR (zI σ 2 8) 30 v1 (zR σ 30 (ix v1))) = 9 := fun c => by
    obtain ⟨n, h⟩ := kT c
    exact h.2.1
  have kc : ¬ atR (zI σ 2 8) 30 v1 (zR σ 30 (ix v1)) = 0 → ¬ atR (zI σ (atR (zI σ 2 8) 30 v1 (zR σ 30 (ix v1))) 4) 8 v2 (cA σ (atR (zI σ 2 8) 30 v1 (zR σ 30 (ix v1))) (ix v2)) = 0 → zK σ (atR (zI σ (atR (zI σ 2 8) 30 v1 (zR σ 30 (ix v1))) 4) 8 v2 (cA σ (atR (zI σ 2 8) 30 v1 (zR σ 30 (ix v1))) (ix v2))) = 2 := fun c c2 => by
    obtain ⟨t, k, h1, h2, h3, h4, h5, h6, h7, h8, h9, h10, h11⟩ := hc0 c c2
    rw [h8]; exact h10
  have m1 : ¬ ((isWi v1 0 (zI σ 33 23 - 1) ∧ isWi v2 0 (zI σ 52 (ix v1) - 1)) ∧ isCa v3) → Gh (S12_endorse v1 v2 v3) σ (RE i 1) := fun c1 => s_X12_endorse hS (RK_N hK) (RK_v hK v1 v2) (fun _ => RE_no hi hr (Q4_refl σ) (by decide)) (fun q _ => absurd q c1) (fun q _ => absurd q c1)
  have m2 : ((isWi v1 0 (zI σ 33 23 - 1) ∧ isWi v2 0 (zI σ 52 (ix v1) - 1)) ∧ isCa v3) → ¬ (zI σ 55 (ix (8 * v1 + v2)) = 0 ∧ ¬ zI σ 58 (ix (8 * v1 + v2)) = v3) → Gh (S12_endorse v1 v2 v3) σ (RE i 2) := fun c1 c2 => s_X12_endorse hS (RK_N hK) (RK_v hK v1 v2) (fun q => absurd c1 q) (fun _ _ => RE_no hi hr (Q4_refl σ) (by decide)) (fun _ q => absurd q c2)
  refine w_L_endorse (Q := QI (fun k τ => Gh (S12_endorse v1 v2 v3) τ (RE i k))) (X := X2 IOO ISE (fun k τ => Gh (S12_endorse v1 v2 v3) τ (RE i k))) hS (CtX_of (by decide +kernel) rfl rfl (b_X11_endorse_0 hS kT kd (fun c d => Or.inl ⟨rfl, hS, m1 (fun q => hc1 c d q.1)⟩) (fun c d _ => kc c d) (fun c d e n => ?_) (fun c d e n n2 => ?_) (fun c d e n n2 => ?_) (fun c d e => Or.inl ⟨rfl, hS, m1 (fun q => e q.2)⟩) (fun c => Or.inl ⟨rfl, hS, m1 (fun q => hc2 c q.1)⟩))) QI_q X2_q
  · obtain ⟨t, k, h1, h2, h3, h4, h5, h6, h7, h8, h9, h10, h11, h12⟩ := hc0 c d
    have hx : ix (8 * v1 + v2) = 8 * t + k := by rw [h3, h6, (cp_idx h2 h5).1]; exact (cp_idx h2 h5).2.2
    rw [h8, h9.2.2.2.2.2.2.1] at n
    exact Or.inr ⟨rfl, hS, m2 ⟨h11, e⟩ (fun q => n (by rw [← hx]; exact q.1))⟩
  · obtain ⟨t, k, h1, h2, h3, h4, h5, h6, h7, h8, h9, h10, h11, h12⟩ := hc0 c d
    have hx : ix (8 * v1 + v2) = 8 * t + k := by rw [h3, h6, (cp_idx h2 h5).1]; exact (cp_idx h2 h5).2.2
    rw [h8] at n n2 ⊢
    have h72 := h9.1.1
    rw [h9.2.2.2.2.2.2.1] at n
    rw [h9.2.2.2.2.1.1] at n2 ⊢
    have L := Rel_endorse (x := v3) (w := Int32.toInt64 (zI σ 58 (8 * t + k))) hi hr h12 h7 h5 rfl (isCa_vp e)
    have eq : ∀ a j, a ≤ 72 → zI (uJ (uI σ (cC σ t k) 4 v3) 72 0 (Int32.toInt64 (zI σ 58 (8 * t + k)))) a j = zI σ a j := fun a j ha => by rw [zI_uJ, zI_uI, if_neg (by omega)]
    refine ⟨_, rfl, Sh_uI hS, s_X12_endorse (σ := uJ (uI σ (cC σ t k) 4 v3) 72 0 (Int32.toInt64 (zI σ 58 (8 * t + k)))) (Sh_uJ (Sh_uI hS)) (by rw [eq 33 23 (by decide)]; exact RK_N hK) (fun q => by rw [eq 33 23 (by decide), eq 52 _ (by decide)] at q; exact RK_v hK v1 v2 q) (fun q => absurd (by rw [eq 33 23 (by decide), eq 52 _ (by decide)]; exact ⟨h11, e⟩) q) (fun _ q => absurd (by rw [eq 55 _ (by decide), eq 58 _ (by decide), hx]; exact ⟨n, n2⟩) q) (fun _ _ => ?_)⟩
    rw [hx, eq 58 _ (by decide)]
    exact ⟨L.1, L.2.1, _, rfl, fun _ => L.2.2⟩
  · obtain ⟨t, k, h1, h2, h3, h4, h5, h6, h7, h8, h9, h10, h11, h12⟩ := hc0 c d
    have hx : ix (8 * v1 + v2) = 8 * t + k := by rw [h3, h6, (cp_idx h2 h5).1]; exact (cp_idx h2 h5).2.2
    rw [h8, h9.2.2.2.2.1.1] at n2
    exact Or.inr ⟨rfl, hS, m2 ⟨h11, e⟩ (fun q => q.2 (by rw [hx]; exact n2))⟩
