/-! ===== calls: a bill rejected or billed anew, a coupon endorsed ===== -/
set_option maxRecDepth 100000 in
set_option maxHeartbeats 4000000 in
theorem b_X11_reject_0 {g : GP} {CX : State → Array Value → Prop} {Q : AH → Option Value → Prop} {X : AH → String → Prop} {v1 : Int32} {σ : AH}
    (hS : Sh σ)
    (o1 : (¬ atR (zI σ 27 2) 240 v1 (zR σ 28 (ix v1)) = 0) → zK σ (atR (zI σ 27 2) 240 v1 (zR σ 28 (ix v1))) = 0)
    (k1 : (¬ atR (zI σ 27 2) 240 v1 (zR σ 28 (ix v1)) = 0) → (¬ (zI σ (atR (zI σ 27 2) 240 v1 (zR σ 28 (ix v1))) 3) = (1 : Int32)) → X σ "java/lang/IllegalStateException")
    (k2 : (¬ atR (zI σ 27 2) 240 v1 (zR σ 28 (ix v1)) = 0) → ((zI σ (atR (zI σ 27 2) 240 v1 (zR σ 28 (ix v1))) 3) = (1 : Int32)) → (((zI σ 27 3) - (1 : Int32)) ≤ (zI σ (atR (zI σ 27 2) 240 v1 (zR σ 28 (ix v1))) 5)) → Q (uI (uI σ (atR (zI σ 27 2) 240 v1 (zR σ 28 (ix v1))) 3 (2 : Int32)) (atR (zI σ 27 2) 240 v1 (zR σ 28 (ix v1))) 4 ((zI σ (atR (zI σ 27 2) 240 v1 (zR σ 28 (ix v1))) 4) + (1 : Int32))) (some (.int ((zI σ (atR (zI σ 27 2) 240 v1 (zR σ 28 (ix v1))) 4) + (1 : Int32)))))
    (k3 : (¬ atR (zI σ 27 2) 240 v1 (zR σ 28 (ix v1)) = 0) → ((zI σ (atR (zI σ 27 2) 240 v1 (zR σ 28 (ix v1))) 3) = (1 : Int32)) → (¬ ((zI σ 27 3) - (1 : Int32)) ≤ (zI σ (atR (zI σ 27 2) 240 v1 (zR σ 28 (ix v1))) 5)) → X σ "java/lang/IllegalStateException")
    (k4 : (atR (zI σ 27 2) 240 v1 (zR σ 28 (ix v1)) = 0) → X σ "java/lang/IndexOutOfBoundsException") :
    V g mX11_reject (Em g mX11_reject Q X) CX 1 6 0 [(0, .ref 2), (1, .int v1)] [] σ := by
  refine V_aload_n dX11_reject_0 rfl ?_
  refine V_getf (fk := 4) (Value.ref 27) ko_X11 rfl w_208 dX11_reject_1 (by decide) (shk hS 2 rfl) (congrArg Value.ref (shr hS 2 4 27 (by decide))) ?_
  refine V_iload_n dX11_reject_4 rfl ?_
  refine V_callV1 (as := [.int v1]) (k' := 1) (n' := 6) (s_X1_billAt hS) mw_X1_billAt ko_X1 rfl w_395 w_396 w_445 ar_X1_billAt rfl ⟨rfl, rfl, rfl, rfl, rfl⟩ dX11_reject_5 (by decide) (shk hS 27 rfl) ?_
  refine V_astore_n [(0, .ref 2), (1, .int v1), (2, .ref (atR (zI σ 27 2) 240 v1 (zR σ 28 (ix v1))))] dX11_reject_8 rfl rfl ?_
  refine V_aload_n dX11_reject_9 rfl ?_
  refine V_ifnonnull 24 dX11_reject_10 rfl (fun c1 => ?_) (fun c1 => ?_)
  · refine V_aload_n dX11_reject_24 rfl ?_
    refine V_getf (fk := 3) (Value.int (zI σ (atR (zI σ 27 2) 240 v1 (zR σ 28 (ix v1))) 3)) ko_X0 rfl w_926 dX11_reject_25 c1 (o1 c1) rfl ?_
    refine V_iconst (1 : Int32) dX11_reject_28 (by decide) ?_
    refine V_icmp_ne 48 dX11_reject_29 rfl (fun c2 => ?_) (fun c2 => ?_)
    · exact V_throwW (k := 1) (n := 6) tw_X11_94 ws_1032 dX11_reject_48 dX11_reject_51 dX11_reject_52 dX11_reject_55 dX11_reject_58 rfl rfl rfl rfl rfl (k1 c1 c2)
    · refine V_aload_n dX11_reject_32 rfl ?_
      refine V_getf (fk := 5) (Value.int (zI σ (atR (zI σ 27 2) 240 v1 (zR σ 28 (ix v1))) 5)) ko_X0 rfl w_930 dX11_reject_33 c1 (o1 c1) rfl ?_
      refine V_aload_n dX11_reject_36 rfl ?_
      refine V_getf (fk := 4) (Value.ref 27) ko_X11 rfl w_208 dX11_reject_37 (by decide) (shk hS 2 rfl) (congrArg Value.ref (shr hS 2 4 27 (by decide))) ?_
      refine V_getf (fk := 3) (Value.int (zI σ 27 3)) ko_X1 rfl w_187 dX11_reject_40 (by decide) (shk hS 27 rfl) rfl ?_
      refine V_iconst (1 : Int32) dX11_reject_43 (by decide) ?_
      refine V_isub dX11_reject_44 ?_
      refine V_icmp_ge 59 dX11_reject_45 rfl (fun c3 => ?_) (fun c3 => ?_)
      · refine V_aload_n dX11_reject_59 rfl ?_
        refine V_iconst (2 : Int32) dX11_reject_60 (by decide) ?_
        refine V_puti (fk := 3) ko_X0 rfl w_926 (Or.inl rfl) dX11_reject_61 rfl c1 (o1 c1) ?_
        refine V_aload_n dX11_reject_64 rfl ?_
        refine V_dup dX11_reject_65 rfl ?_
        refine V_getf (fk := 4) (Value.int (zI σ (atR (zI σ 27 2) 240 v1 (zR σ 28 (ix v1))) 4)) ko_X0 rfl w_928 dX11_reject_66 c1 (o1 c1) (congrArg Value.int (zI_oth _ _ _ _ _ _ (by decide))) ?_
        refine V_iconst (1 : Int32) dX11_reject_69 (by decide) ?_
        refine V_iadd dX11_reject_70 ?_
        refine V_puti (fk := 4) ko_X0 rfl w_928 (Or.inl rfl) dX11_reject_71 rfl c1 (o1 c1) ?_
        refine V_aload_n dX11_reject_74 rfl ?_
        refine V_getf (fk := 4) (Value.int ((zI σ (atR (zI σ 27 2) 240 v1 (zR σ 28 (ix v1))) 4) + (1 : Int32))) ko_X0 rfl w_928 dX11_reject_75 c1 (o1 c1) (congrArg Value.int (zI_self _ _ _ _)) ?_
        exact V_iret rfl dX11_reject_78 (k2 c1 c2 c3)
      · exact V_throwW (k := 1) (n := 6) tw_X11_94 ws_1032 dX11_reject_48 dX11_reject_51 dX11_reject_52 dX11_reject_55 dX11_reject_58 rfl rfl rfl rfl rfl (k3 c1 c2 c3)
  · exact V_throwW (k := 1) (n := 6) tw_X11_61 ws_446 dX11_reject_13 dX11_reject_16 dX11_reject_17 dX11_reject_20 dX11_reject_23 rfl rfl rfl rfl rfl (k4 c1)

set_option maxRecDepth 100000 in
set_option maxHeartbeats 4000000 in
theorem b_X11_rebill_0 {g : GP} {CX : State → Array Value → Prop} {Q : AH → Option Value → Prop} {X : AH → String → Prop} {v1 : Int32} {σ : AH}
    (hS : Sh σ)
    (o1 : (¬ atR (zI σ 27 2) 240 v1 (zR σ 28 (ix v1)) = 0) → zK σ (atR (zI σ 27 2) 240 v1 (zR σ 28 (ix v1))) = 0)
    (k1 : (¬ atR (zI σ 27 2) 240 v1 (zR σ 28 (ix v1)) = 0) → ((zI σ (atR (zI σ 27 2) 240 v1 (zR σ 28 (ix v1))) 3) = (3 : Int32)) → Q (uI σ (atR (zI σ 27 2) 240 v1 (zR σ 28 (ix v1))) 3 (0 : Int32)) none)
    (k2 : (¬ atR (zI σ 27 2) 240 v1 (zR σ 28 (ix v1)) = 0) → (¬ (zI σ (atR (zI σ 27 2) 240 v1 (zR σ 28 (ix v1))) 3) = (3 : Int32)) → X σ "java/lang/IllegalStateException")
    (k3 : (atR (zI σ 27 2) 240 v1 (zR σ 28 (ix v1)) = 0) → X σ "java/lang/IndexOutOfBoundsException") :
    V g mX11_rebill (Em g mX11_rebill Q X) CX 1 6 0 [(0, .ref 2), (1, .int v1)] [] σ := by
  refine V_aload_n dX11_rebill_0 rfl ?_
  refine V_getf (fk := 4) (Value.ref 27) ko_X11 rfl w_208 dX11_rebill_1 (by decide) (shk hS 2 rfl) (congrArg Value.ref (shr hS 2 4 27 (by decide))) ?_
  refine V_iload_n dX11_rebill_4 rfl ?_
  refine V_callV1 (as := [.int v1]) (k' := 1) (n' := 6) (s_X1_billAt hS) mw_X1_billAt ko_X1 rfl w_395 w_396 w_445 ar_X1_billAt rfl ⟨rfl, rfl, rfl, rfl, rfl⟩ dX11_rebill_5 (by decide) (shk hS 27 rfl) ?_
  refine V_astore_n [(0, .ref 2), (1, .int v1), (2, .ref (atR (zI σ 27 2) 240 v1 (zR σ 28 (ix v1))))] dX11_rebill_8 rfl rfl ?_
  refine V_aload_n dX11_rebill_9 rfl ?_
  refine V_ifnonnull 24 dX11_rebill_10 rfl (fun c1 => ?_) (fun c1 => ?_)
  · refine V_aload_n dX11_rebill_24 rfl ?_
    refine V_getf (fk := 3) (Value.int (zI σ (atR (zI σ 27 2) 240 v1 (zR σ 28 (ix v1))) 3)) ko_X0 rfl w_926 dX11_rebill_25 c1 (o1 c1) rfl ?_
    refine V_iconst (3 : Int32) dX11_rebill_28 (by decide) ?_
    refine V_icmp_eq 43 dX11_rebill_29 rfl (fun c2 => ?_) (fun c2 => ?_)
    · refine V_aload_n dX11_rebill_43 rfl ?_
      refine V_iconst (0 : Int32) dX11_rebill_44 (by decide) ?_
      refine V_puti (fk := 3) ko_X0 rfl w_926 (Or.inl rfl) dX11_rebill_45 rfl c1 (o1 c1) ?_
      exact V_vret rfl dX11_rebill_48 (k1 c1 c2)
    · exact V_throwW (k := 1) (n := 6) tw_X11_94 ws_1040 dX11_rebill_32 dX11_rebill_35 dX11_rebill_36 dX11_rebill_39 dX11_rebill_42 rfl rfl rfl rfl rfl (k2 c1 c2)
  · exact V_throwW (k := 1) (n := 6) tw_X11_61 ws_446 dX11_rebill_13 dX11_rebill_16 dX11_rebill_17 dX11_rebill_20 dX11_rebill_23 rfl rfl rfl rfl rfl (k3 c1)

theorem gbM_cg {τ σ : AH} {c : Int32} : ∀ d, (∀ b, b < d → zI τ 65 b = zI σ 65 b ∧ zI τ 64 b = zI σ 64 b ∧ gpM τ b = gpM σ b) → gbM τ c d = gbM σ c d
  | 0, _ => rfl
  | d + 1, h => by
    obtain ⟨h1, h2, h3⟩ := h d (by omega)
    rw [gbM, gbM, gbM_cg d (fun b hb => h b (by omega)), h1, h2, h3]
theorem Rel_row {i : Nat} {σ ω : AH} {a b0 n : Nat} (hi : i < 512) (h : Rel i σ) (hq : QX (fun b j => (b = a ∧ (j = 3 ∨ j = 4)) ∨ ((b = 62 ∨ b = 66) ∧ j = b0)) ω σ) (hBS : BS σ n) (hb : b0 < n) (ha : bA σ b0 = a) (e3 : zI ω a 3 = zI ω 62 b0) (e4 : zI ω a 4 = zI ω 66 b0) (hSS : ∃ s r z, zI ω 62 b0 = nI s ∧ zI ω 66 b0 = nI r ∧ zI σ 67 b0 = nI z ∧ SS s r z) (hg : gpM ω b0 = gpM σ b0) : Rel (i + 1) ω := by
  obtain ⟨h0, hS, hT, hJ, hP, hK, hB, hC⟩ := h
  have h72 : 72 < a := by rw [← ha]; exact (hBS.2.2.1 b0 hb).1
  have hk : zK σ a = 0 := by rw [← ha]; exact (hBS.2.2.1 b0 hb).2.1
  have e : ∀ b j, ¬ QU b j → ¬ ((b = a ∧ (j = 3 ∨ j = 4)) ∨ ((b = 62 ∨ b = 66) ∧ j = b0)) → zI ω b j = zI σ b j := hq.2.2.2.2.1
  have eK := hq.2.1
  have eR := hq.2.2.2.1
  refine ⟨hi, QX_Sh hq hS, QX_RT hq (fun a' k' hf he => by (try dsimp only at he); (try unfold FT at hf); (try unfold FK at hf); (try unfold FB at hf); rcases he with ⟨q1, q2⟩ | ⟨q1, q2⟩ <;> (try subst q1) <;> omega) hS hT, QX_RJ hq (fun a' k' hf he => by (try dsimp only at he); (try unfold FT at hf); (try unfold FK at hf); (try unfold FB at hf); rcases he with ⟨q1, q2⟩ | ⟨q1, q2⟩ <;> (try subst q1) <;> omega) hJ, QX_RP hq (fun a' k' hf he => by (try dsimp only at he); (try unfold FT at hf); (try unfold FK at hf); (try unfold FB at hf); rcases he with ⟨q1, q2⟩ | ⟨q1, q2⟩ <;> (try subst q1) <;> omega) hP, QX_RK hq (fun a' k' hf he => by (try dsimp only at he); (try unfold FT at hf); (try unfold FK at hf); (try unfold FB at hf); rcases he with ⟨q1, q2⟩ | ⟨q1, q2⟩ <;> (try subst q1) <;> omega) hS hK, ?_, ?_⟩
  · obtain ⟨n', b1, b2, b3, b4, ⟨q, b5, b6, b7⟩, b8, b9, b10⟩ := hB
    have en : n' = n := by
      have h1 := hBS.2.1
      rw [b1.2.1] at h1
      exact (nI_eq (by have := b1.1; omega) (by have := hBS.1; omega)).mp h1
    subst en
    have hn := b1.1
    refine ⟨n', BS_gr (e 27 2 (by unfold QU; omega) (by omega)) (fun b hb' => ⟨e _ _ (by have := (b1.2.2.1 b hb').1; unfold QU; omega) (by have := (b1.2.2.1 b hb').1; omega), e _ _ (by have := (b1.2.2.1 b hb').1; unfold QU; omega) (by have := (b1.2.2.1 b hb').1; omega), by rw [eK]⟩) (fun b => by rw [eR]) b1, by rw [e 33 36 (by unfold QU; omega) (by omega)]; exact b2, fun b hb' => ?_, fun b hb' => by rw [e 66 b (by unfold QU; omega) (by omega), e 67 b (by unfold QU; omega) (by omega)]; exact b4 b hb', ⟨q, by omega, by rw [e 27 3 (by unfold QU; omega) (by omega)]; exact b6, by rw [e 33 43 (by unfold QU; omega) (by omega)]; exact b7⟩, by rw [e 27 4 (by unfold QU; omega) (by omega), dfS_ag (fun k => e 68 k (by unfold QU; omega) (by omega))]; exact b8, fun c hc => by rw [e 68 c (by unfold QU; omega) (by omega)]; exact b9 c hc, by rw [flN_ag (fun k => e 55 k (by unfold QU; omega) (by omega))]; exact b10⟩
    have r := b3 b hb'
    have h72b := (b1.2.2.1 b hb').1
    have eA : bA ω b = bA σ b := by rw [bA, eR]
    unfold BR at r ⊢
    obtain ⟨r1, r2, r3, r4, r5, r6, r7, r8⟩ := r
    have ef : ∀ j, j ≠ 3 → j ≠ 4 → zI ω (bA σ b) j = zI σ (bA σ b) j := fun j h3 h4 => e _ _ (by unfold QU; omega) (by omega)
    rw [eA, hq.1, ef 0 (by decide) (by decide), ef 1 (by decide) (by decide), ef 2 (by decide) (by decide), ef 5 (by decide) (by decide), e 64 b (by unfold QU; omega) (by omega), e 65 b (by unfold QU; omega) (by omega), e 63 b (by unfold QU; omega) (by omega), e 67 b (by unfold QU; omega) (by omega)]
    by_cases hbb : b = b0
    · subst hbb
      rw [ha, e3, e4]
      rw [ha] at r1 r2 r3 r4 r7
      exact ⟨r1, r2, r3, r4, rfl, rfl, r7, hSS⟩
    · have hne : ¬ bA σ b = a := fun q => hbb (b1.2.2.2 b b0 hb' hb (q.trans ha.symm))
      rw [e _ 3 (by unfold QU; omega) (by omega), e _ 4 (by unfold QU; omega) (by omega), e 62 b (by unfold QU; omega) (by omega), e 66 b (by unfold QU; omega) (by omega)]
      exact ⟨r1, r2, r3, r4, r5, r6, r7, r8⟩
  · obtain ⟨c1, c2, c3, c4, c5, c6⟩ := hC
    have j := hq.2.2.2.2.2
    have hg2 : ∀ b, gpM ω b = gpM σ b := fun b => by
      by_cases hbb : b = b0
      · rw [hbb]; exact hg
      · rw [gpM, gpM, e 62 b (by unfold QU; omega) (by omega), e 63 b (by unfold QU; omega) (by omega)]
    have ht2 : ∀ t, t < ix (zI σ 33 23) → zJ ω (tA ω t) 7 = zJ σ (tA σ t) 7 := fun t ht => by
      have h72t := TR_72 (RK_t hK ht)
      rw [tA, eR]
      unfold tA at h72t
      exact j _ _ (by omega) (by omega) (by omega)
    refine ⟨fun c hc => by rw [j 31 c (by decide) (by decide) (by decide), j 70 c (by decide) (by decide) (by decide)]; exact c1 c hc, fun c hc => by rw [j 32 c (by decide) (by decide) (by decide), j 71 c (by decide) (by decide) (by decide)]; exact c2 c hc, by rw [j 2 10 (by decide) (by decide) (by decide), j 33 48 (by decide) (by decide) (by decide)]; exact c3, by rw [e 2 9 (by unfold QU; omega) (by omega), e 33 15 (by unfold QU; omega) (by omega)]; exact c4, by rw [e 33 15 (by unfold QU; omega) (by omega)]; exact c5, fun c hc => ?_⟩
    rw [j 70 c (by decide) (by decide) (by decide), e 33 36 (by unfold QU; omega) (by omega), e 33 23 (by unfold QU; omega) (by omega), gbM_cg _ (fun b _ => ⟨e 65 b (by unfold QU; omega) (by omega), e 64 b (by unfold QU; omega) (by omega), hg2 b⟩), tkM_ag _ (fun t ht => ⟨e 51 t (by unfold QU; omega) (by omega), e 52 t (by unfold QU; omega) (by omega), ht2 t ht, fun k _ => by rw [ftM, ftM, e 55 _ (by unfold QU; omega) (by omega), e 57 _ (by unfold QU; omega) (by omega)]⟩)]
    exact c6 c hc

theorem R_reject {g : GP} {i : Nat} {σ : AH} {v1 : Int32} (hi : i < 512) (h : Rel i σ) : CtH g mL_reject [.ref 2, .int v1] σ (RQ [-1000001, -1000003] (fun k τ => Gh (S12_reject v1) τ (RE i k))) := by
  have hr := h
  obtain ⟨h0, hS, hT, hJ, hP, hK, hB, hC⟩ := h
  have hb0 : ¬ atR (zI σ 27 2) 240 v1 (zR σ 28 (ix v1)) = 0 → ∃ b n, v1 = nI b ∧ b < n ∧ BS σ n ∧ BR σ b ∧ ix v1 = b ∧ atR (zI σ 27 2) 240 v1 (zR σ 28 (ix v1)) = bA σ b ∧ isWi v1 0 (zI σ 33 36 - 1) := fun c => by
    rcases bill_at hB v1 with ⟨a, b, n, e1, e2, e3, e4, e5, e6⟩ | ⟨_, a⟩
    · exact ⟨b, n, e1, e2, e3, e4, by rw [e1, ix, cl0 (by omega)], e6, a⟩
    · exact absurd a c
  have hb1 : atR (zI σ 27 2) 240 v1 (zR σ 28 (ix v1)) = 0 → ¬ isWi v1 0 (zI σ 33 36 - 1) := fun c => by
    rcases bill_at hB v1 with ⟨a, b, n', e1, e2, e3, e4, e5, e6⟩ | ⟨a, _⟩
    · have := (e3.2.2.1 b e2).1
      rw [e6] at c; omega
    · exact a
  have kd : ¬ atR (zI σ 27 2) 240 v1 (zR σ 28 (ix v1)) = 0 → zK σ (atR (zI σ 27 2) 240 v1 (zR σ 28 (ix v1))) = 0 := fun c => by
    obtain ⟨b, n, h1, h2, h3, h4, h5, h6, h7⟩ := hb0 c
    rw [h6]; exact (h3.2.2.1 b h2).2.1
  have e273 : zI σ 27 3 = zI σ 33 43 := by
    obtain ⟨n, k1, k2, k3, k4, ⟨q, k5, k6, k7⟩, -⟩ := hB
    rw [k6, k7]
  have m1 : ¬ (isWi v1 0 (zI σ 33 36 - 1)) → Gh (S12_reject v1) σ (RE i 1) := fun c1 => s_X12_reject hS (RB_N hB) (fun _ => RE_no hi hr (Q4_refl σ) (by decide)) (fun q _ => absurd q c1) (fun q _ => absurd q c1)
  have m2 : (isWi v1 0 (zI σ 33 36 - 1)) → ¬ (zI σ 62 (ix v1) = 1 ∧ ¬ zI σ 67 (ix v1) < zI σ 33 43 - 1) → Gh (S12_reject v1) σ (RE i 2) := fun c1 c2 => s_X12_reject hS (RB_N hB) (fun q => absurd c1 q) (fun _ _ => RE_no hi hr (Q4_refl σ) (by decide)) (fun _ q => absurd q c2)
  refine w_L_reject (Q := QI (fun k τ => Gh (S12_reject v1) τ (RE i k))) (X := X2 IOO ISE (fun k τ => Gh (S12_reject v1) τ (RE i k))) hS (CtX_of (by decide +kernel) rfl rfl (b_X11_reject_0 hS kd (fun c c2 => ?_) (fun c c2 c3 => ?_) (fun c c2 c3 => ?_) (fun c => Or.inl ⟨rfl, hS, m1 (hb1 c)⟩))) QI_q X2_q
  · obtain ⟨b, n, h1, h2, h3, h4, h5, h6, h7⟩ := hb0 c
    rw [h6, h4.2.2.2.2.1] at c2
    exact Or.inr ⟨rfl, hS, m2 h7 (fun q => c2 (by rw [← h5]; exact q.1))⟩
  · obtain ⟨b, n, h1, h2, h3, h4, h5, h6, h7⟩ := hb0 c
    rw [h6] at c2 c3 ⊢
    have h72 := (h3.2.2.1 b h2).1
    obtain ⟨r1, r2, r3, r4, r5, r6, r7, s, r, z, s1, s2, s3, s4⟩ := h4
    have hs : s = 1 := by
      rw [r5, s1] at c2
      have : s < 2 ^ 31 := by unfold SS at s4; omega
      exact (nI_eq this (by decide)).mp (show nI s = nI 1 from c2)
    subst hs
    have eq : ∀ a k, a ≤ 72 → ∀ y, zI (uJ (uI (uI σ (bA σ b) 3 2) (bA σ b) 4 (zI σ (bA σ b) 4 + 1)) 72 0 y) a k = zI σ a k := fun a k ha y => by rw [zI_uJ, zI_uI, if_neg (by omega), zI_uI, if_neg (by omega)]
    rw [e273, r7] at c3
    refine ⟨_, rfl, Sh_uI (Sh_uI hS), s_X12_reject (σ := uJ (uI (uI σ (bA σ b) 3 2) (bA σ b) 4 (zI σ (bA σ b) 4 + 1)) 72 0 (Int32.toInt64 (zI σ (bA σ b) 4 + 1))) (Sh_uJ (Sh_uI (Sh_uI hS))) (by rw [eq 33 36 (by decide)]; exact RB_N hB) (fun q => absurd (by rw [eq 33 36 (by decide)]; exact h7) q) (fun _ q => absurd (by rw [eq 62 _ (by decide), eq 67 _ (by decide), eq 33 43 (by decide), h5]; exact ⟨s1, Int32.not_lt.mpr c3⟩) q) (fun _ _ => ?_)⟩
    rw [h5, eq 66 b (by decide), zI_uI, if_pos ⟨rfl, rfl⟩, r6]
    have hq : QX (fun b' j => (b' = bA σ b ∧ (j = 3 ∨ j = 4)) ∨ ((b' = 62 ∨ b' = 66) ∧ j = b)) (uI (uI (uI (uJ (uI (uI σ (bA σ b) 3 2) (bA σ b) 4 (zI σ 66 b + 1)) 72 0 (Int32.toInt64 (zI σ 66 b + 1))) 33 49 0) 62 b 2) 66 b (zI σ 66 b + 1)) σ := QX_uI (QX_uI (QX_49 (QX_72 (QX_uI (QX_uI QX_refl (by right; simp)) (by right; simp)))) (by right; simp)) (by right; simp)
    have w62 : zI (uI (uI (uI (uJ (uI (uI σ (bA σ b) 3 2) (bA σ b) 4 (zI σ 66 b + 1)) 72 0 (Int32.toInt64 (zI σ 66 b + 1))) 33 49 0) 62 b 2) 66 b (zI σ 66 b + 1)) 62 b = 2 := by rw [zI_uI, if_neg (by omega), zI_uI, if_pos ⟨rfl, rfl⟩]
    have w66 : zI (uI (uI (uI (uJ (uI (uI σ (bA σ b) 3 2) (bA σ b) 4 (zI σ 66 b + 1)) 72 0 (Int32.toInt64 (zI σ 66 b + 1))) 33 49 0) 62 b 2) 66 b (zI σ 66 b + 1)) 66 b = zI σ 66 b + 1 := by rw [zI_uI, if_pos ⟨rfl, rfl⟩]
    refine ⟨by rw [zI_uI, if_neg (by omega), zI_uI, if_neg (by omega), zI_uI, if_pos ⟨rfl, rfl⟩], Rel_row hi hr hq h3 h2 rfl ?_ ?_ ?_ ?_, _, rfl, fun _ => by rw [zJ_uI, zJ_uI, zJ_uI, zJ_uJ, if_pos ⟨rfl, rfl⟩]⟩
    · rw [w62, zI_uI, if_neg (by omega), zI_uI, if_neg (by omega), zI_uI, if_neg (by omega), zI_uJ, zI_uI, if_neg (by omega), zI_uI, if_pos ⟨rfl, rfl⟩]
    · rw [w66, zI_uI, if_neg (by omega), zI_uI, if_neg (by omega), zI_uI, if_neg (by omega), zI_uJ, zI_uI, if_pos ⟨rfl, rfl⟩]
    · refine ⟨2, r + 1, z, by rw [w62]; rfl, by rw [w66, s2, nI_1], s3, ?_⟩
      unfold SS at s4 ⊢; omega
    · have e63 : zI (uI (uI (uI (uJ (uI (uI σ (bA σ b) 3 2) (bA σ b) 4 (zI σ 66 b + 1)) 72 0 (Int32.toInt64 (zI σ 66 b + 1))) 33 49 0) 62 b 2) 66 b (zI σ 66 b + 1)) 63 b = zI σ 63 b := hq.2.2.2.2.1 63 b (by unfold QU; omega) (by (try dsimp only); omega)
      rw [gpM, gpM, w62, e63, if_pos (Or.inr rfl), if_pos (Or.inl (show zI σ 62 b = 1 from s1))]
  · obtain ⟨b, n, h1, h2, h3, h4, h5, h6, h7⟩ := hb0 c
    rw [h6, e273, h4.2.2.2.2.2.2.1] at c3
    exact Or.inr ⟨rfl, hS, m2 h7 (fun q => q.2 (by rw [h5]; exact Int32.not_le.mp c3))⟩
theorem R_rebill {g : GP} {i : Nat} {σ : AH} {v1 : Int32} (hi : i < 512) (h : Rel i σ) : CtH g mL_rebill [.ref 2, .int v1] σ (RQv [-1000001, -1000003] (fun k τ => Gh (S12_rebill v1) τ (REv i k))) := by
  have hr := h
  obtain ⟨h0, hS, hT, hJ, hP, hK, hB, hC⟩ := h
  have hb0 : ¬ atR (zI σ 27 2) 240 v1 (zR σ 28 (ix v1)) = 0 → ∃ b n, v1 = nI b ∧ b < n ∧ BS σ n ∧ BR σ b ∧ ix v1 = b ∧ atR (zI σ 27 2) 240 v1 (zR σ 28 (ix v1)) = bA σ b ∧ isWi v1 0 (zI σ 33 36 - 1) := fun c => by
    rcases bill_at hB v1 with ⟨a, b, n, e1, e2, e3, e4, e5, e6⟩ | ⟨_, a⟩
    · exact ⟨b, n, e1, e2, e3, e4, by rw [e1, ix, cl0 (by omega)], e6, a⟩
    · exact absurd a c
  have hb1 : atR (zI σ 27 2) 240 v1 (zR σ 28 (ix v1)) = 0 → ¬ isWi v1 0 (zI σ 33 36 - 1) := fun c => by
    rcases bill_at hB v1 with ⟨a, b, n', e1, e2, e3, e4, e5, e6⟩ | ⟨a, _⟩
    · have := (e3.2.2.1 b e2).1
      rw [e6] at c; omega
    · exact a
  have kd : ¬ atR (zI σ 27 2) 240 v1 (zR σ 28 (ix v1)) = 0 → zK σ (atR (zI σ 27 2) 240 v1 (zR σ 28 (ix v1))) = 0 := fun c => by
    obtain ⟨b, n, h1, h2, h3, h4, h5, h6, h7⟩ := hb0 c
    rw [h6]; exact (h3.2.2.1 b h2).2.1
  have e273 : zI σ 27 3 = zI σ 33 43 := by
    obtain ⟨n, k1, k2, k3, k4, ⟨q, k5, k6, k7⟩, -⟩ := hB
    rw [k6, k7]
  have m1 : ¬ (isWi v1 0 (zI σ 33 36 - 1)) → Gh (S12_rebill v1) σ (REv i 1) := fun c1 => s_X12_rebill hS (RB_N hB) (fun _ => REv_no hi hr (Q4_refl σ)) (fun q _ => absurd q c1) (fun q _ => absurd q c1)
  have m2 : (isWi v1 0 (zI σ 33 36 - 1)) → ¬ (zI σ 62 (ix v1) = 3) → Gh (S12_rebill v1) σ (REv i 2) := fun c1 c2 => s_X12_rebill hS (RB_N hB) (fun q => absurd c1 q) (fun _ _ => REv_no hi hr (Q4_refl σ)) (fun _ q => absurd q c2)
  refine w_L_rebill (Q := QV (fun k τ => Gh (S12_rebill v1) τ (REv i k))) (X := X2 IOO ISE (fun k τ => Gh (S12_rebill v1) τ (REv i k))) hS (CtX_of (by decide +kernel) rfl rfl (b_X11_rebill_0 hS kd (fun c c2 => ?_) (fun c c2 => ?_) (fun c => Or.inl ⟨rfl, hS, m1 (hb1 c)⟩))) QV_q X2_qv
  · obtain ⟨b, n, h1, h2, h3, h4, h5, h6, h7⟩ := hb0 c
    rw [h6] at c2 ⊢
    have h72 := (h3.2.2.1 b h2).1
    obtain ⟨r1, r2, r3, r4, r5, r6, r7, s, r, z, s1, s2, s3, s4⟩ := h4
    have hs : s = 3 := by
      rw [r5, s1] at c2
      have : s < 2 ^ 31 := by unfold SS at s4; omega
      exact (nI_eq this (by decide)).mp (show nI s = nI 3 from c2)
    subst hs
    have eq : ∀ a k, a ≤ 72 → zI (uI σ (bA σ b) 3 0) a k = zI σ a k := fun a k ha => by rw [zI_uI, if_neg (by omega)]
    have hq : QX (fun b' j => (b' = bA σ b ∧ (j = 3 ∨ j = 4)) ∨ ((b' = 62 ∨ b' = 66) ∧ j = b)) (uI (uI (uI σ (bA σ b) 3 0) 33 49 0) 62 b 0) σ := QX_uI (QX_49 (QX_uI QX_refl (by right; simp))) (by right; simp)
    have w62 : zI (uI (uI (uI σ (bA σ b) 3 0) 33 49 0) 62 b 0) 62 b = 0 := by rw [zI_uI, if_pos ⟨rfl, rfl⟩]
    have w66 : zI (uI (uI (uI σ (bA σ b) 3 0) 33 49 0) 62 b 0) 66 b = zI σ 66 b := by rw [zI_uI, if_neg (by omega), zI_uI, if_neg (by omega), zI_uI, if_neg (by omega)]
    refine ⟨Sh_uI hS, s_X12_rebill (σ := uI σ (bA σ b) 3 0) (Sh_uI hS) (by rw [eq 33 36 (by decide)]; exact RB_N hB) (fun q => absurd (by rw [eq 33 36 (by decide)]; exact h7) q) (fun _ q => absurd (by rw [eq 62 _ (by decide), h5]; exact s1) q) (fun _ _ => ?_), rfl⟩
    rw [h5]
    refine ⟨by rw [zI_uI, if_neg (by omega), zI_uI, if_pos ⟨rfl, rfl⟩], Rel_row hi hr hq h3 h2 rfl ?_ ?_ ?_ ?_, rfl⟩
    · rw [w62, zI_uI, if_neg (by omega), zI_uI, if_neg (by omega), zI_uI, if_pos ⟨rfl, rfl⟩]
    · rw [w66, zI_uI, if_neg (by omega), zI_uI, if_neg (by omega), zI_uI, if_neg (by omega)]; exact r6
    · refine ⟨0, r, z, by rw [w62]; rfl, by rw [w66, s2], s3, ?_⟩
      unfold SS at s4 ⊢; omega
    · have e63 : zI (uI (uI (uI σ (bA σ b) 3 0) 33 49 0) 62 b 0) 63 b = zI σ 63 b := hq.2.2.2.2.1 63 b (by unfold QU; omega) (by (try dsimp only); omega)
      rw [gpM, gpM, w62, e63, s1, if_neg (by decide), if_neg (by decide), if_neg (by decide), if_neg (by decide)]
  · obtain ⟨b, n, h1, h2, h3, h4, h5, h6, h7⟩ := hb0 c
    rw [h6, h4.2.2.2.2.1] at c2
    exact Or.inr ⟨rfl, hS, m2 h7 (fun q => c2 (by rw [← h5]; exact q))⟩
