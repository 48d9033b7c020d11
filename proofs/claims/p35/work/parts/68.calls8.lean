/-! ===== calls: a refund ===== -/
theorem vp_isCa {x : Int32} (h : vp_in x 5) : isCa x := by
  obtain ⟨n, hn, rfl⟩ := vp_in_of h (by decide)
  have q : n = 0 ∨ n = 1 ∨ n = 2 ∨ n = 3 ∨ n = 4 := by omega
  rcases q with q | q | q | q | q <;> subst q <;> decide
theorem RK_inj {σ : AH} {t u : Nat} (hK : RK σ) (ht : t < ix (zI σ 33 23)) (hu : u < ix (zI σ 33 23)) (q : tA σ t = tA σ u) : t = u := by
  obtain ⟨n, h1, h2, h3, h4, h5, -⟩ := hK
  rw [h2, ix, cl0 (by omega)] at ht hu
  exact h5 t u ht hu q
def tuS (σ : AH) (a : Nat) (x : Int32) : Prop := ∃ n m, TS σ a n ∧ m ≤ n ∧ x = nI m
theorem s_X9_turnOpenOnes' {g : GP} {σ : AH} {a : Nat} {x s : Int32} (h : tuS σ a x) : Ct g mX9_turnOpenOnes [.ref a, .int x, .int s] σ (FQ (toA σ a s (ix x)) none) := by
  obtain ⟨n, m, h1, h2, rfl⟩ := h
  have h8 := h1.2.2.2.1
  rw [ix, cl0 (by omega)]
  exact s_X9_turnOpenOnes h1 h2
theorem Sh_toA {σ : AH} {a : Nat} {s : Int32} (h : Sh σ) (d : Nat) : Sh (toA σ a s d) := by
  obtain ⟨e1, e2, e3, e4, e5⟩ := toA_N (σ := σ) (a := a) (s := s) d
  exact ⟨by rw [e1]; exact h.1, fun b h1 h2 => by rw [e2, e3]; exact h.2.1 b h1 h2, fun q hq => by rw [e5]; exact h.2.2.1 q hq, by rw [e2]; exact h.2.2.2⟩
set_option maxRecDepth 100000 in
set_option maxHeartbeats 4000000 in
theorem b_X11_refund_0 {g : GP} {CX : State → Array Value → Prop} {Q : AH → Option Value → Prop} {X : AH → String → Prop} {v1 : Int32} {σ : AH}
    (hS : Sh σ)
    (o1 : (¬ atR (zI σ 2 8) 30 v1 (zR σ 30 (ix v1)) = 0) → TS σ (atR (zI σ 2 8) 30 v1 (zR σ 30 (ix v1))) (ix (zI σ (atR (zI σ 2 8) 30 v1 (zR σ 30 (ix v1))) 4)))
    (o2 : (¬ atR (zI σ 2 8) 30 v1 (zR σ 30 (ix v1)) = 0) → zK σ (atR (zI σ 2 8) 30 v1 (zR σ 30 (ix v1))) = 9)
    (o3 : (¬ atR (zI σ 2 8) 30 v1 (zR σ 30 (ix v1)) = 0) → (opA σ (atR (zI σ 2 8) 30 v1 (zR σ 30 (ix v1))) (ix (zI σ (atR (zI σ 2 8) 30 v1 (zR σ 30 (ix v1))) 4))) → tuS σ (atR (zI σ 2 8) 30 v1 (zR σ 30 (ix v1))) (zI σ (atR (zI σ 2 8) 30 v1 (zR σ 30 (ix v1))) 4))
    (o4 : (¬ atR (zI σ 2 8) 30 v1 (zR σ 30 (ix v1)) = 0) → (opA σ (atR (zI σ 2 8) 30 v1 (zR σ 30 (ix v1))) (ix (zI σ (atR (zI σ 2 8) 30 v1 (zR σ 30 (ix v1))) 4))) → 72 < (atR (zI σ 2 8) 30 v1 (zR σ 30 (ix v1))))
    (o5 : (¬ atR (zI σ 2 8) 30 v1 (zR σ 30 (ix v1)) = 0) → (opA σ (atR (zI σ 2 8) 30 v1 (zR σ 30 (ix v1))) (ix (zI σ (atR (zI σ 2 8) 30 v1 (zR σ 30 (ix v1))) 4))) → zK (toA σ (atR (zI σ 2 8) 30 v1 (zR σ 30 (ix v1))) (3 : Int32) (ix (zI σ (atR (zI σ 2 8) 30 v1 (zR σ 30 (ix v1))) 4))) (atR (zI σ 2 8) 30 v1 (zR σ 30 (ix v1))) = 9)
    (o6 : (¬ atR (zI σ 2 8) 30 v1 (zR σ 30 (ix v1)) = 0) → (opA σ (atR (zI σ 2 8) 30 v1 (zR σ 30 (ix v1))) (ix (zI σ (atR (zI σ 2 8) 30 v1 (zR σ 30 (ix v1))) 4))) → isCa (zI (toA σ (atR (zI σ 2 8) 30 v1 (zR σ 30 (ix v1))) (3 : Int32) (ix (zI σ (atR (zI σ 2 8) 30 v1 (zR σ 30 (ix v1))) 4))) (atR (zI σ 2 8) 30 v1 (zR σ 30 (ix v1))) 0))
    (k1 : (¬ atR (zI σ 2 8) 30 v1 (zR σ 30 (ix v1)) = 0) → (opA σ (atR (zI σ 2 8) 30 v1 (zR σ 30 (ix v1))) (ix (zI σ (atR (zI σ 2 8) 30 v1 (zR σ 30 (ix v1))) 4))) → Q (rcH (toA σ (atR (zI σ 2 8) 30 v1 (zR σ 30 (ix v1))) (3 : Int32) (ix (zI σ (atR (zI σ 2 8) 30 v1 (zR σ 30 (ix v1))) 4))) (atR (zI σ 2 8) 30 v1 (zR σ 30 (ix v1))) (-(((smI (osF σ (atR (zI σ 2 8) 30 v1 (zR σ 30 (ix v1))) 6) (ix (zI σ (atR (zI σ 2 8) 30 v1 (zR σ 30 (ix v1))) 4))) - (Int64.toInt32 (((((Int32.toInt64 (smI (osF σ (atR (zI σ 2 8) 30 v1 (zR σ 30 (ix v1))) 6) (ix (zI σ (atR (zI σ 2 8) 30 v1 (zR σ 30 (ix v1))) 4)))) * (Int32.toInt64 (zI σ 2 9))) + (100 : Int64)) - (1 : Int64)) / (100 : Int64)))) + (smI (osF σ (atR (zI σ 2 8) 30 v1 (zR σ 30 (ix v1))) 3) (ix (zI σ (atR (zI σ 2 8) 30 v1 (zR σ 30 (ix v1))) 4)))))) (some (.int (((smI (osF σ (atR (zI σ 2 8) 30 v1 (zR σ 30 (ix v1))) 6) (ix (zI σ (atR (zI σ 2 8) 30 v1 (zR σ 30 (ix v1))) 4))) - (Int64.toInt32 (((((Int32.toInt64 (smI (osF σ (atR (zI σ 2 8) 30 v1 (zR σ 30 (ix v1))) 6) (ix (zI σ (atR (zI σ 2 8) 30 v1 (zR σ 30 (ix v1))) 4)))) * (Int32.toInt64 (zI σ 2 9))) + (100 : Int64)) - (1 : Int64)) / (100 : Int64)))) + (smI (osF σ (atR (zI σ 2 8) 30 v1 (zR σ 30 (ix v1))) 3) (ix (zI σ (atR (zI σ 2 8) 30 v1 (zR σ 30 (ix v1))) 4)))))))
    (k2 : (¬ atR (zI σ 2 8) 30 v1 (zR σ 30 (ix v1)) = 0) → (¬ (opA σ (atR (zI σ 2 8) 30 v1 (zR σ 30 (ix v1))) (ix (zI σ (atR (zI σ 2 8) 30 v1 (zR σ 30 (ix v1))) 4)))) → X σ "java/lang/IllegalStateException")
    (k3 : (atR (zI σ 2 8) 30 v1 (zR σ 30 (ix v1)) = 0) → X σ "java/lang/IndexOutOfBoundsException") :
    V g mX11_refund (Em g mX11_refund Q X) CX 1 6 0 [(0, .ref 2), (1, .int v1)] [] σ := by
  refine V_aload_n dX11_refund_0 rfl ?_
  refine V_iload_n dX11_refund_1 rfl ?_
  refine V_callV1 (as := [.int v1]) (k' := 1) (n' := 6) (s_X11_ticketAt hS) mw_X11_ticketAt ko_X11 rfl w_404 w_1 w_402 ar_X11_ticketAt rfl ⟨rfl, rfl, rfl, rfl, rfl⟩ dX11_refund_2 (by decide) (shk hS 2 rfl) ?_
  refine V_astore_n [(0, .ref 2), (1, .int v1), (2, .ref (atR (zI σ 2 8) 30 v1 (zR σ 30 (ix v1))))] dX11_refund_5 rfl rfl ?_
  refine V_aload_n dX11_refund_6 rfl ?_
  refine V_ifnonnull 21 dX11_refund_7 rfl (fun c1 => ?_) (fun c1 => ?_)
  · refine V_aload_n dX11_refund_21 rfl ?_
    refine V_callV1 (as := []) (k' := 1) (n' := 6) (s_X9_hasOpenOnes (o1 c1)) mw_X9_hasOpenOnes ko_X9 rfl w_859 w_860 w_858 ar_X9_hasOpenOnes rfl ⟨rfl, rfl, rfl, rfl, rfl⟩ dX11_refund_22 c1 (o2 c1) ?_
    refine V_if_ne 39 dX11_refund_25 rfl (fun c2 => ?_) (fun c2 => ?_)
    · replace c2 := pj_n.mp c2
      refine V_aload_n dX11_refund_39 rfl ?_
      refine V_callV1 (as := []) (k' := 1) (n' := 6) (s_X9_openShares (o1 c1)) mw_X9_openShares ko_X9 rfl w_868 w_869 w_867 ar_X9_openShares rfl ⟨rfl, rfl, rfl, rfl, rfl⟩ dX11_refund_40 c1 (o2 c1) ?_
      refine V_istore_n [(0, .ref 2), (1, .int v1), (2, .ref (atR (zI σ 2 8) 30 v1 (zR σ 30 (ix v1)))), (3, .int (smI (osF σ (atR (zI σ 2 8) 30 v1 (zR σ 30 (ix v1))) 6) (ix (zI σ (atR (zI σ 2 8) 30 v1 (zR σ 30 (ix v1))) 4))))] dX11_refund_43 rfl rfl ?_
      refine V_iload_n dX11_refund_44 rfl ?_
      refine V_i2l dX11_refund_45 ?_
      refine V_aload_n dX11_refund_46 rfl ?_
      refine V_getf (fk := 9) (Value.int (zI σ 2 9)) ko_X11 rfl w_213 dX11_refund_47 (by decide) (shk hS 2 rfl) rfl ?_
      refine V_i2l dX11_refund_50 ?_
      refine V_lmul dX11_refund_51 ?_
      refine V_ldc2 (v := (100 : Int64)) w_871 dX11_refund_52 ?_
      refine V_ladd dX11_refund_55 ?_
      refine V_lconst (1 : Int64) dX11_refund_56 (by decide) ?_
      refine V_lsub dX11_refund_57 ?_
      refine V_ldc2 (v := (100 : Int64)) w_871 dX11_refund_58 ?_
      refine V_ldiv dX11_refund_61 (by decide) ?_
      refine V_l2i dX11_refund_62 ?_
      refine V_istore [(0, .ref 2), (1, .int v1), (2, .ref (atR (zI σ 2 8) 30 v1 (zR σ 30 (ix v1)))), (3, .int (smI (osF σ (atR (zI σ 2 8) 30 v1 (zR σ 30 (ix v1))) 6) (ix (zI σ (atR (zI σ 2 8) 30 v1 (zR σ 30 (ix v1))) 4)))), (4, .int (Int64.toInt32 (((((Int32.toInt64 (smI (osF σ (atR (zI σ 2 8) 30 v1 (zR σ 30 (ix v1))) 6) (ix (zI σ (atR (zI σ 2 8) 30 v1 (zR σ 30 (ix v1))) 4)))) * (Int32.toInt64 (zI σ 2 9))) + (100 : Int64)) - (1 : Int64)) / (100 : Int64))))] dX11_refund_63 rfl rfl ?_
      refine V_iload_n dX11_refund_65 rfl ?_
      refine V_iload dX11_refund_66 rfl ?_
      refine V_isub dX11_refund_68 ?_
      refine V_aload_n dX11_refund_69 rfl ?_
      refine V_callV1 (as := []) (k' := 1) (n' := 6) (s_X9_openTaxes (o1 c1)) mw_X9_openTaxes ko_X9 rfl w_873 w_874 w_872 ar_X9_openTaxes rfl ⟨rfl, rfl, rfl, rfl, rfl⟩ dX11_refund_70 c1 (o2 c1) ?_
      refine V_iadd dX11_refund_73 ?_
      refine V_istore [(0, .ref 2), (1, .int v1), (2, .ref (atR (zI σ 2 8) 30 v1 (zR σ 30 (ix v1)))), (3, .int (smI (osF σ (atR (zI σ 2 8) 30 v1 (zR σ 30 (ix v1))) 6) (ix (zI σ (atR (zI σ 2 8) 30 v1 (zR σ 30 (ix v1))) 4)))), (4, .int (Int64.toInt32 (((((Int32.toInt64 (smI (osF σ (atR (zI σ 2 8) 30 v1 (zR σ 30 (ix v1))) 6) (ix (zI σ (atR (zI σ 2 8) 30 v1 (zR σ 30 (ix v1))) 4)))) * (Int32.toInt64 (zI σ 2 9))) + (100 : Int64)) - (1 : Int64)) / (100 : Int64)))), (5, .int (((smI (osF σ (atR (zI σ 2 8) 30 v1 (zR σ 30 (ix v1))) 6) (ix (zI σ (atR (zI σ 2 8) 30 v1 (zR σ 30 (ix v1))) 4))) - (Int64.toInt32 (((((Int32.toInt64 (smI (osF σ (atR (zI σ 2 8) 30 v1 (zR σ 30 (ix v1))) 6) (ix (zI σ (atR (zI σ 2 8) 30 v1 (zR σ 30 (ix v1))) 4)))) * (Int32.toInt64 (zI σ 2 9))) + (100 : Int64)) - (1 : Int64)) / (100 : Int64)))) + (smI (osF σ (atR (zI σ 2 8) 30 v1 (zR σ 30 (ix v1))) 3) (ix (zI σ (atR (zI σ 2 8) 30 v1 (zR σ 30 (ix v1))) 4)))))] dX11_refund_74 rfl rfl ?_
      refine V_aload_n dX11_refund_76 rfl ?_
      refine V_aload_n dX11_refund_77 rfl ?_
      refine V_getf (fk := 4) (Value.int (zI σ (atR (zI σ 2 8) 30 v1 (zR σ 30 (ix v1))) 4)) ko_X9 rfl w_736 dX11_refund_78 c1 (o2 c1) rfl ?_
      refine V_iconst (3 : Int32) dX11_refund_81 (by decide) ?_
      refine V_callV0 (as := [.int (zI σ (atR (zI σ 2 8) 30 v1 (zR σ 30 (ix v1))) 4), .int (3 : Int32)]) (k' := 1) (n' := 6) (s_X9_turnOpenOnes' (o3 c1 c2)) mw_X9_turnOpenOnes ko_X9 rfl w_877 w_878 w_876 ar_X9_turnOpenOnes rfl ⟨rfl, rfl, rfl, rfl, rfl⟩ dX11_refund_82 c1 (o2 c1) ?_
      refine V_aload_n dX11_refund_85 rfl ?_
      refine V_aload_n dX11_refund_86 rfl ?_
      refine V_iload dX11_refund_87 rfl ?_
      refine V_ineg dX11_refund_89 ?_
      refine V_callV0 (as := [.ref (atR (zI σ 2 8) 30 v1 (zR σ 30 (ix v1))), .int (-(((smI (osF σ (atR (zI σ 2 8) 30 v1 (zR σ 30 (ix v1))) 6) (ix (zI σ (atR (zI σ 2 8) 30 v1 (zR σ 30 (ix v1))) 4))) - (Int64.toInt32 (((((Int32.toInt64 (smI (osF σ (atR (zI σ 2 8) 30 v1 (zR σ 30 (ix v1))) 6) (ix (zI σ (atR (zI σ 2 8) 30 v1 (zR σ 30 (ix v1))) 4)))) * (Int32.toInt64 (zI σ 2 9))) + (100 : Int64)) - (1 : Int64)) / (100 : Int64)))) + (smI (osF σ (atR (zI σ 2 8) 30 v1 (zR σ 30 (ix v1))) 3) (ix (zI σ (atR (zI σ 2 8) 30 v1 (zR σ 30 (ix v1))) 4)))))]) (k' := 1) (n' := 6) (s_X11_receive (Sh_toA hS _) (o4 c1 c2) (o5 c1 c2) (o6 c1 c2)) mw_X11_receive ko_X11 rfl w_842 w_13 w_840 ar_X11_receive rfl ⟨rfl, rfl, rfl, rfl, rfl⟩ dX11_refund_90 (by decide) (shk (Sh_toA hS _) 2 rfl) ?_
      refine V_iload dX11_refund_93 rfl ?_
      exact V_iret rfl dX11_refund_95 (k1 c1 c2)
    · replace c2 := pj_0.mp c2
      exact V_throwW (k := 1) (n := 6) tw_X11_94 ws_866 dX11_refund_28 dX11_refund_31 dX11_refund_32 dX11_refund_35 dX11_refund_38 rfl rfl rfl rfl rfl (k2 c1 c2)
  · exact V_throwW (k := 1) (n := 6) tw_X11_61 ws_428 dX11_refund_10 dX11_refund_13 dX11_refund_14 dX11_refund_17 dX11_refund_20 rfl rfl rfl rfl rfl (k3 c1)

/-- tickets when coupons' statuses and bills alone have changed -/
theorem RK_st {τ σ : AH} (hN : zN τ = zN σ) (hKK : zK τ = zK σ) (hLL : zL τ = zL σ) (hRR : zR τ = zR σ) (h33 : zI τ 33 23 = zI σ 33 23) (h28 : zI τ 2 8 = zI σ 2 8) (hrow : ∀ a q, 50 ≤ a → a ≤ 60 → a ≠ 55 → zI τ a q = zI σ a q)
    (hI : ∀ a j, 72 < a → zK σ a = 9 ∨ (zK σ a = 2 ∧ j ≠ 7 ∧ j ≠ 8) → zI τ a j = zI σ a j)
    (h78 : ∀ t k, t < ix (zI σ 33 23) → k < ix (zI σ 52 t) → k < 8 → zI σ (cC σ t k) 7 = zI σ 55 (8 * t + k) → zI σ (cC σ t k) 8 = zI σ 61 (8 * t + k) → (zI σ 55 (8 * t + k) = 0 → zI σ 61 (8 * t + k) = -1) → zI τ (cC σ t k) 7 = zI τ 55 (8 * t + k) ∧ zI τ (cC σ t k) 8 = zI τ 61 (8 * t + k) ∧ (zI τ 55 (8 * t + k) = 0 → zI τ 61 (8 * t + k) = -1)) (h55 : ∀ c, 8 * ix (zI σ 33 23) ≤ c → zI σ 55 c = 0 → zI τ 55 c = 0) (hRK : RK σ) : RK τ := by
  refine RK_mod hN hKK hLL hRR h33 h28 (fun a q x y => hrow a q x (by omega) (by omega)) (fun q => hrow 57 q (by decide) (by decide) (by decide)) (fun t ht j => ?_) (fun t k ht hk hk8 hc => ?_) h55 hRK
  · have hT := RK_t hRK ht
    exact hI _ _ (TR_72 hT) (Or.inl (tA_2 hT))
  · have hT := RK_t hRK ht
    have k2 := (cC_2 hT hk).1
    obtain ⟨r1, r2, r3, r4, r5, r6, r7, r8, r9⟩ := hc
    have h := h78 t k ht hk hk8 r7 r8 r9
    have ec : ∀ f, f ≠ 7 → f ≠ 8 → zI τ (cC σ t k) f = zI σ (cC σ t k) f := fun f x y => hI _ _ r1.1 (Or.inr ⟨k2, x, y⟩)
    unfold CR
    rw [hN, ec 0 (by decide) (by decide), ec 2 (by decide) (by decide), ec 3 (by decide) (by decide), ec 4 (by decide) (by decide), ec 6 (by decide) (by decide), hrow 60 _ (by decide) (by decide) (by decide), hrow 59 _ (by decide) (by decide) (by decide), hrow 57 _ (by decide) (by decide) (by decide), hrow 58 _ (by decide) (by decide) (by decide), hrow 56 _ (by decide) (by decide) (by decide)]
    exact ⟨r1, r2, r3, r4, r5, r6, h⟩
/-- bills when coupons' statuses alone have changed -/
theorem RB_st {τ σ : AH} {i : Nat} (hG : Gr τ σ) (hI : ∀ a k, a ≤ zN σ → FB σ a k → a ≠ 55 → zI τ a k = zI σ a k) (hR : ∀ t, zR τ 28 t = zR σ 28 t) (hf : flN σ 240 ≤ flN τ 240) (hn : 72 ≤ zN σ) (h : RB i σ) : RB i τ := by
  obtain ⟨n, h1, h2, h3, h4, ⟨q, h5, h6, h7⟩, h8, h9, h10⟩ := h
  have eA : ∀ b, bA τ b = bA σ b := fun b => hR b
  have em : ∀ a j, 62 ≤ a → a ≤ 68 → zI τ a j = zI σ a j := fun a j x y => hI a j (by omega) (Or.inr (Or.inr (Or.inr (Or.inl ⟨x, y⟩)))) (by omega)
  have e27 : ∀ j, 2 ≤ j → j ≤ 4 → zI τ 27 j = zI σ 27 j := fun j x y => hI 27 j (by omega) (Or.inr (Or.inl ⟨rfl, x, y⟩)) (by omega)
  have eb : ∀ b, b < n → ∀ j, zI τ (bA σ b) j = zI σ (bA σ b) j := fun b hb j => hI _ j (h3 b hb).1 (Or.inr (Or.inr (Or.inr (Or.inr ⟨(h1.2.2.1 b hb).1, (h1.2.2.1 b hb).2.1⟩)))) (by have := (h1.2.2.1 b hb).1; omega)
  refine ⟨n, BS_gr (e27 2 (by decide) (by decide)) (fun b hb => ⟨eb b hb 0, eb b hb 1, (hG.2 _ (h3 b hb).1).1⟩) hR h1, by rw [hI 33 36 (by omega) (Or.inl (by omega)) (by omega)]; exact h2, fun b hb => ?_, fun b hb => by rw [em 66 _ (by decide) (by decide), em 67 _ (by decide) (by decide)]; exact h4 b hb, ⟨q, h5, by rw [e27 3 (by decide) (by decide)]; exact h6, by rw [hI 33 43 (by omega) (Or.inl (by omega)) (by omega)]; exact h7⟩, by rw [e27 4 (by decide) (by decide), dfS_ag (fun k => em 68 k (by decide) (by decide))]; exact h8, fun c hc => by rw [em 68 _ (by decide) (by decide)]; exact h9 c hc, Nat.le_trans h10 hf⟩
  have h := h3 b hb
  unfold BR at h ⊢
  rw [eA, eb b hb, eb b hb, eb b hb, eb b hb, eb b hb, eb b hb, em 64 _ (by decide) (by decide), em 65 _ (by decide) (by decide), em 63 _ (by decide) (by decide), em 62 _ (by decide) (by decide), em 66 _ (by decide) (by decide), em 67 _ (by decide) (by decide)]
  exact ⟨Nat.le_trans h.1 hG.1, h.2⟩
theorem flN_cg {τ σ : AH} : ∀ d, (∀ k, k < d → (zI τ 55 k = 1 ↔ zI σ 55 k = 1)) → flN τ d = flN σ d
  | 0, _ => rfl
  | d + 1, h => by
    rw [flN, flN, flN_cg d (fun k hk => h k (by omega))]
    by_cases c : zI σ 55 d = 1
    · rw [if_pos c, if_pos ((h d (by omega)).mpr c)]
    · rw [if_neg c, if_neg (fun q => c ((h d (by omega)).mp q))]
/-- money that one ticket's issuer gets by the ticket -/
theorem tkM_add {τ σ : AH} {c : Int32} {t : Nat} {y : Int64} : ∀ d, (∀ u, u < d → zI τ 51 u = zI σ 51 u ∧ zI τ 52 u = zI σ 52 u ∧ zJ τ (tA τ u) 7 = (if u = t then zJ σ (tA σ u) 7 + y else zJ σ (tA σ u) 7) ∧ ∀ k, k < ix (zI σ 52 u) → ftM τ u k = ftM σ u k) → tkM τ c d = if t < d ∧ zI σ 51 t = c then tkM σ c d + y else tkM σ c d
  | 0, _ => by rw [if_neg (by omega)]; rfl
  | d + 1, h => by
    obtain ⟨h1, h2, h3, h4⟩ := h d (by omega)
    have ih := tkM_add (c := c) d (fun u hu => h u (by omega))
    rw [tkM, tkM, ih, h1, h2, h3, smI_c h4]
    by_cases e : d = t
    · subst e
      rw [if_neg (by omega : ¬ (d < d ∧ zI σ 51 d = c)), if_pos rfl]
      by_cases q : zI σ 51 d = c
      · rw [if_pos q, if_pos q, if_pos ⟨by omega, q⟩]
        generalize Int32.toInt64 _ = z
        grind
      · rw [if_neg q, if_neg q, if_neg (fun x => q x.2)]
    · rw [if_neg e]
      generalize (if zI σ 51 d = c then zJ σ (tA σ d) 7 - Int32.toInt64 (smI (ftM σ d) (ix (zI σ 52 d))) else 0) = z
      by_cases q : t < d ∧ zI σ 51 t = c
      · rw [if_pos q, if_pos ⟨by omega, q.2⟩]
        grind
      · rw [if_neg q, if_neg (fun x => q ⟨by omega, x.2⟩)]
theorem RC_add {τ σ : AH} {t : Nat} {y : Int64} (ht : t < ix (zI σ 33 23)) (hc5 : vp_in (zI σ 51 t) 5)
    (hI : ∀ a k, (a = 2 ∧ k = 9) ∨ (a = 33 ∧ (k = 15 ∨ k = 36 ∨ k = 23)) ∨ (51 ≤ a ∧ a ≤ 52) ∨ (62 ≤ a ∧ a ≤ 65) → zI τ a k = zI σ a k)
    (hft : ∀ u k, u < ix (zI σ 33 23) → k < ix (zI σ 52 u) → ftM τ u k = ftM σ u k)
    (h31 : ∀ c, c < 5 → zJ τ 31 c = if c = ix (zI σ 51 t) then zJ σ 31 c + y else zJ σ 31 c) (h70 : ∀ c, c < 5 → zJ τ 70 c = if c = ix (zI σ 51 t) then zJ σ 70 c + y else zJ σ 70 c)
    (h32 : ∀ a p, a = 32 ∨ a = 71 → zJ τ a p = zJ σ a p) (h2 : zJ τ 2 10 = zJ σ 2 10 + y) (h33 : zJ τ 33 48 = zJ σ 33 48 + y)
    (h7 : ∀ u, u < ix (zI σ 33 23) → zJ τ (tA τ u) 7 = if u = t then zJ σ (tA σ u) 7 + y else zJ σ (tA σ u) 7) (h : RC σ) : RC τ := by
  obtain ⟨c1, c2, c3, c4, c5, c6⟩ := h
  refine ⟨fun c hc => by rw [h31 c hc, h70 c hc, c1 c hc], fun p hp => by rw [h32 32 p (Or.inl rfl), h32 71 p (Or.inr rfl)]; exact c2 p hp, by rw [h2, h33, c3], by rw [hI 2 9 (by omega), hI 33 15 (by omega)]; exact c4, by rw [hI 33 15 (by omega)]; exact c5, fun c hc => ?_⟩
  rw [h70 c hc, hI 33 36 (by omega), hI 33 23 (by omega), gbM_ag (fun a k x y => hI a k (by omega)), tkM_add (t := t) (y := y) _ (fun u hu => ⟨hI 51 u (by omega), hI 52 u (by omega), h7 u hu, fun k hk => hft u k hu hk⟩), c6 c hc]
  obtain ⟨q, hq5, hq⟩ := vp_in_of hc5 (by decide)
  have hqx : ix (zI σ 51 t) = q := by rw [hq, ix, cl0 (by omega)]
  rw [hqx, hq]
  by_cases e : c = q
  · subst e
    rw [if_pos rfl, if_pos ⟨ht, rfl⟩]
    grind
  · rw [if_neg e, if_neg (fun x => e ((nI_eq (by omega) (by omega)).mp x.2).symm)]

theorem turn_I {σ : AH} {t d : Nat} {s y : Int32} {w : Int64} (b j : Nat) : zI (byH (trH (uI (uJ (rcH (toA σ (tA σ t) s d) (tA σ t) y) 72 0 w) 33 49 0) (8 * t) s d) (zI σ 51 t) y) b j = if b = 55 ∧ 8 * t ≤ j ∧ j < 8 * t + d ∧ zI (toA σ (tA σ t) s d) 55 j = 0 then s else if b = 33 ∧ j = 49 then 0 else zI (toA σ (tA σ t) s d) b j := by
  rw [byH, zI_uJ, zI_uJ, trH_I, zI_uI, zI_uI, zI_uJ, zI_uJ, rcH, zI_uJ, zI_uJ, zI_uJ, zI_uJ, zI_uJ, zI_uJ, if_neg (show ¬ (55 = 33 ∧ j = 49) by omega)]

theorem turn_P {σ : AH} {t d : Nat} {s y : Int32} {w : Int64} (h0 : zI (toA σ (tA σ t) s d) (tA σ t) 0 = zI σ 51 t) (b j : Nat) : zJ (trH (uI (uJ (rcH (toA σ (tA σ t) s d) (tA σ t) y) 72 0 w) 33 49 0) (8 * t) s d) b j = if b = 72 ∧ j = 0 then w else if b = 31 ∧ j = ix (zI σ 51 t) then zJ σ 31 (ix (zI σ 51 t)) + Int32.toInt64 y else if b = 2 ∧ j = 10 then zJ σ 2 10 + Int32.toInt64 y else if b = tA σ t ∧ j = 7 then zJ σ (tA σ t) 7 + Int32.toInt64 y else zJ σ b j := by
  rw [(trH_N d).2.2.2.1, zJ_uI, zJ_uJ, rcH, zJ_uJ, zJ_uJ, zJ_uJ, (toA_N (σ := σ) (a := tA σ t) (s := s) d).2.2.2.1, h0]
theorem Rel_refund {i : Nat} {σ : AH} {t d : Nat} {s y : Int32} {w : Int64} (hi : i < 512) (h : Rel i σ) (ht : t < ix (zI σ 33 23)) (hd : ix (zI σ 52 t) = d) (hs0 : ¬ s = 0) (hs1 : ¬ s = 1) : zI (byH (trH (uI (uJ (rcH (toA σ (tA σ t) s d) (tA σ t) y) 72 0 w) 33 49 0) (8 * t) s d) (zI σ 51 t) y) 33 49 = 0 ∧ Rel (i + 1) (byH (trH (uI (uJ (rcH (toA σ (tA σ t) s d) (tA σ t) y) 72 0 w) 33 49 0) (8 * t) s d) (zI σ 51 t) y) ∧ zJ (byH (trH (uI (uJ (rcH (toA σ (tA σ t) s d) (tA σ t) y) 72 0 w) 33 49 0) (8 * t) s d) (zI σ 51 t) y) 72 0 = w := by
  obtain ⟨h0, hS, hT, hJ, hP, hK, hB, hC⟩ := h
  have hTR := RK_t hK ht
  have hM := TR_M hTR
  have a72 := TR_72 hTR
  obtain ⟨m, hm9, hm⟩ := vp_in_of hM.1 (by decide)
  have hd8 : d ≤ 8 := by rw [← hd, hm, ix, cl0 (by omega)]; omega
  have c2 : ∀ k, k < d → zK σ (cA σ (tA σ t) k) = 2 ∧ 72 < cA σ (tA σ t) k := fun k hk => by
    have q := cC_2 hTR (k := k) (by rw [hd]; exact hk)
    exact ⟨q.1, q.2.1.1⟩
  obtain ⟨n1, n2, n3, n4, n5⟩ := toA_N (σ := σ) (a := tA σ t) (s := s) d
  have T7 : ∀ b j, (b ≤ 72 ∨ ¬ j = 7 ∨ ¬ zK σ b = 2) → zI (toA σ (tA σ t) s d) b j = zI σ b j := fun b j q => toA_o d (fun h7 k hk z => by
    have q2 := c2 k hk
    rw [← z] at q2
    omega)
  have h51 : zI (toA σ (tA σ t) s d) (tA σ t) 0 = zI σ 51 t := by
    rw [T7 _ _ (Or.inr (Or.inl (by decide)))]
    obtain ⟨m', r1, r2, r3, r4, r5, r6, -⟩ := hTR
    exact r6.1
  have e49 : zI (byH (trH (uI (uJ (rcH (toA σ (tA σ t) s d) (tA σ t) y) 72 0 w) 33 49 0) (8 * t) s d) (zI σ 51 t) y) 33 49 = 0 := by rw [turn_I, if_neg (by omega), if_pos ⟨rfl, rfl⟩]
  have e : ∀ b j, ¬ QU b j → b ≠ 55 → ¬ (72 < b ∧ zK σ b = 2 ∧ j = 7) → zI (byH (trH (uI (uJ (rcH (toA σ (tA σ t) s d) (tA σ t) y) 72 0 w) 33 49 0) (8 * t) s d) (zI σ 51 t) y) b j = zI σ b j := fun b j x1 x2 x3 => by
    rw [turn_I, if_neg (fun q => x2 q.1), if_neg (by unfold QU at x1; omega), T7 _ _ (by omega)]
  have e55 : ∀ j, zI (byH (trH (uI (uJ (rcH (toA σ (tA σ t) s d) (tA σ t) y) 72 0 w) 33 49 0) (8 * t) s d) (zI σ 51 t) y) 55 j = if 8 * t ≤ j ∧ j < 8 * t + d ∧ zI σ 55 j = 0 then s else zI σ 55 j := fun j => by
    rw [turn_I, T7 55 j (Or.inl (by decide)), if_neg (show ¬ (55 = 33 ∧ j = 49) by omega)]
    by_cases q : 8 * t ≤ j ∧ j < 8 * t + d ∧ zI σ 55 j = 0
    · rw [if_pos ⟨rfl, q⟩, if_pos q]
    · rw [if_neg (fun x => q x.2), if_neg q]
  have eC : ∀ k, k < d → zI (byH (trH (uI (uJ (rcH (toA σ (tA σ t) s d) (tA σ t) y) 72 0 w) 33 49 0) (8 * t) s d) (zI σ 51 t) y) (cA σ (tA σ t) k) 7 = if zI σ (cA σ (tA σ t) k) 7 = 0 then s else zI σ (cA σ (tA σ t) k) 7 := fun k hk => by
    have q := (c2 k hk).2
    rw [turn_I, if_neg (by omega), if_neg (by omega), toA_c hs0 d hk]
  have eCo : ∀ b, 72 < b → (∀ k, k < d → b ≠ cA σ (tA σ t) k) → zI (byH (trH (uI (uJ (rcH (toA σ (tA σ t) s d) (tA σ t) y) 72 0 w) 33 49 0) (8 * t) s d) (zI σ 51 t) y) b 7 = zI σ b 7 := fun b hb q => by
    rw [turn_I, if_neg (by omega), if_neg (by omega), toA_o d (fun _ k hk => q k hk)]
  have zP := turn_P (y := y) (w := w) h51
  have J33 : zJ (byH (trH (uI (uJ (rcH (toA σ (tA σ t) s d) (tA σ t) y) 72 0 w) 33 49 0) (8 * t) s d) (zI σ 51 t) y) 33 48 = zJ σ 33 48 + Int32.toInt64 y := by rw [byH, zJ_uJ, if_pos ⟨rfl, rfl⟩, zP, if_neg (by omega), if_neg (by omega), if_neg (by omega), if_neg (by omega)]
  have Jn : ∀ b j, ¬ (b = 33 ∧ j = 48) → zJ (byH (trH (uI (uJ (rcH (toA σ (tA σ t) s d) (tA σ t) y) 72 0 w) 33 49 0) (8 * t) s d) (zI σ 51 t) y) b j = if b = 70 ∧ j = ix (zI σ 51 t) then zJ σ 70 j + Int32.toInt64 y else if b = 72 ∧ j = 0 then w else if b = 31 ∧ j = ix (zI σ 51 t) then zJ σ 31 (ix (zI σ 51 t)) + Int32.toInt64 y else if b = 2 ∧ j = 10 then zJ σ 2 10 + Int32.toInt64 y else if b = tA σ t ∧ j = 7 then zJ σ (tA σ t) 7 + Int32.toInt64 y else zJ σ b j := fun b j x => by
    rw [byH, zJ_uJ, if_neg x, zJ_uJ, zP, zP]
    by_cases q : b = 70 ∧ j = ix (zI σ 51 t)
    · rw [if_pos q, if_pos q, if_neg (by omega), if_neg (by omega), if_neg (by omega), if_neg (by omega), q.2]
    · rw [if_neg q, if_neg q]
  have eN : zN (byH (trH (uI (uJ (rcH (toA σ (tA σ t) s d) (tA σ t) y) 72 0 w) 33 49 0) (8 * t) s d) (zI σ 51 t) y) = zN σ := ((trH_N (σ := uI (uJ (rcH (toA σ (tA σ t) s d) (tA σ t) y) 72 0 w) 33 49 0) d).1).trans n1
  have eK : zK (byH (trH (uI (uJ (rcH (toA σ (tA σ t) s d) (tA σ t) y) 72 0 w) 33 49 0) (8 * t) s d) (zI σ 51 t) y) = zK σ := ((trH_N (σ := uI (uJ (rcH (toA σ (tA σ t) s d) (tA σ t) y) 72 0 w) 33 49 0) d).2.1).trans n2
  have eL : zL (byH (trH (uI (uJ (rcH (toA σ (tA σ t) s d) (tA σ t) y) 72 0 w) 33 49 0) (8 * t) s d) (zI σ 51 t) y) = zL σ := ((trH_N (σ := uI (uJ (rcH (toA σ (tA σ t) s d) (tA σ t) y) 72 0 w) 33 49 0) d).2.2.1).trans n3
  have eR : zR (byH (trH (uI (uJ (rcH (toA σ (tA σ t) s d) (tA σ t) y) 72 0 w) 33 49 0) (8 * t) s d) (zI σ 51 t) y) = zR σ := ((trH_N (σ := uI (uJ (rcH (toA σ (tA σ t) s d) (tA σ t) y) 72 0 w) 33 49 0) d).2.2.2.2).trans n5
  generalize byH (trH (uI (uJ (rcH (toA σ (tA σ t) s d) (tA σ t) y) 72 0 w) 33 49 0) (8 * t) s d) (zI σ 51 t) y = ω at *
  have hG : Gr ω σ := ⟨by rw [eN]; exact Nat.le_refl _, fun a _ => ⟨by rw [eK], by rw [eL]⟩⟩
  have eA : ∀ u, tA ω u = tA σ u := fun u => by rw [tA, eR]
  have h1 : ∀ k, zI ω 55 k = 1 ↔ zI σ 55 k = 1 := fun k => by
    rw [e55]
    by_cases q : 8 * t ≤ k ∧ k < 8 * t + d ∧ zI σ 55 k = 0
    · rw [if_pos q, q.2.2]
      exact ⟨fun z => absurd z hs1, fun z => absurd z (by decide)⟩
    · rw [if_neg q]
  refine ⟨e49, ⟨hi, ?_, ?_, ?_, ?_, ?_, ?_, ?_⟩, by rw [Jn _ _ (by omega), if_neg (by omega), if_pos ⟨rfl, rfl⟩]⟩
  · exact ⟨by rw [eN]; exact hS.1, fun b x1 x2 => by rw [eK, eL]; exact hS.2.1 b x1 x2, fun q hq => by rw [eR]; exact hS.2.2.1 q hq, by rw [eK]; exact hS.2.2.2⟩
  · exact RT_ag hG (fun a k _ hf => e _ _ (by unfold FT at hf; unfold QU; omega) (by unfold FT at hf; omega) (by unfold FT at hf; omega)) (fun k => by rw [eR]) hS.1 hT
  · exact RJ_ag (e _ _ (by unfold QU; omega) (by omega) (by omega)) (e _ _ (by unfold QU; omega) (by omega) (by omega)) (fun a k _ _ => e _ _ (by unfold QU; omega) (by omega) (by omega)) (fun a k _ _ => e _ _ (by unfold QU; omega) (by omega) (by omega)) (fun k q => by rw [e 34 k (by unfold QU; omega) (by omega) (by omega)]; exact q) hJ
  · exact RP_ag (fun a k q => e _ _ (by unfold QU; omega) (by omega) (by omega)) hP
  · refine RK_st eN eK eL eR (e 33 23 (by unfold QU; omega) (by omega) (by omega)) (e 2 8 (by unfold QU; omega) (by omega) (by omega)) (fun a q x1 x2 x3 => e a q (by unfold QU; omega) x3 (by omega)) (fun a j x1 x2 => e a j (by unfold QU; omega) (by omega) (by omega)) (fun u k hu hk hk8 r7 r8 r9 => ?_) (fun c hc hz => ?_) hK
    · have q2 := cC_2 (RK_t hK hu) hk
      have q72 : 72 < cC σ u k := q2.2.1.1
      refine ⟨?_, by rw [e _ 8 (by unfold QU; omega) (by omega) (by omega), e 61 _ (by unfold QU; omega) (by omega) (by omega)]; exact r8, fun z => ?_⟩
      rotate_left
      · rw [e55] at z
        rw [e 61 _ (by unfold QU; omega) (by omega) (by omega)]
        by_cases q : 8 * t ≤ 8 * u + k ∧ 8 * u + k < 8 * t + d ∧ zI σ 55 (8 * u + k) = 0
        · rw [if_pos q] at z; exact absurd z hs0
        · rw [if_neg q] at z; exact r9 z
      rw [e55]
      by_cases hut : u = t
      · subst hut
        rw [hd] at hk
        rw [cC, eC k hk]
        by_cases z : zI σ 55 (8 * u + k) = 0
        · rw [r7, if_pos z, if_pos ⟨by omega, by omega, z⟩]
        · rw [r7, if_neg z, if_neg (fun q => z q.2.2)]
      · rw [eCo _ q72 (fun k2 hk2 => cC_ne hK hu ht hk (by rw [hd]; exact hk2) (by omega) hk8 (by omega)), if_neg (by omega)]
        exact r7
    · rw [e55, if_neg (by omega)]
      exact hz
  · exact RB_s (Nat.le_succ i) (RB_st hG (fun a k _ hf x => e _ _ (by unfold FB at hf; unfold QU; omega) x (by unfold FB at hf; omega)) (fun u => by rw [eR]) (Nat.le_of_eq (flN_cg 240 (fun k _ => h1 k)).symm) hS.1 hB)
  · refine RC_add ht hM.2.1 (fun a k q => e _ _ (by unfold QU; omega) (by omega) (by omega)) (fun u k hu hk => ?_) (fun c hc => ?_) (fun c hc => ?_) (fun a p q => ?_) ?_ J33 (fun u hu => ?_) hC
    · rw [ftM, ftM, e 57 _ (by unfold QU; omega) (by omega) (by omega)]
      by_cases q : zI σ 55 (8 * u + k) = 1
      · rw [if_pos q, if_pos ((h1 _).mpr q)]
      · rw [if_neg q, if_neg (fun z => q ((h1 _).mp z))]
    · rw [Jn _ _ (by omega), if_neg (by omega), if_neg (by omega)]
      by_cases q : c = ix (zI σ 51 t)
      · rw [if_pos ⟨rfl, q⟩, if_pos q, q]
      · rw [if_neg (fun z => q z.2), if_neg q, if_neg (by omega), if_neg (by omega)]
    · rw [Jn _ _ (by omega)]
      by_cases q : c = ix (zI σ 51 t)
      · rw [if_pos ⟨rfl, q⟩, if_pos q]
      · rw [if_neg (fun z => q z.2), if_neg q, if_neg (by omega), if_neg (by omega), if_neg (by omega), if_neg (by omega)]
    · rw [Jn _ _ (by omega), if_neg (by omega), if_neg (by omega), if_neg (by omega), if_neg (by omega), if_neg (by omega)]
    · rw [Jn _ _ (by omega), if_neg (by omega), if_neg (by omega), if_neg (by omega), if_pos ⟨rfl, rfl⟩]
    · have u72 := TR_72 (RK_t hK hu)
      rw [eA, Jn _ _ (by omega), if_neg (by omega), if_neg (by omega), if_neg (by omega), if_neg (by omega)]
      by_cases q : u = t
      · rw [if_pos ⟨by rw [q], rfl⟩, if_pos q, q]
      · rw [if_neg (fun z => q (RK_inj hK hu ht z.1)), if_neg q]
theorem rfG_cg {τ σ : AH} {x : Int32} (h : ∀ b j, (b = 33 ∧ j = 15) ∨ (52 ≤ b ∧ b ≤ 57) → zI τ b j = zI σ b j) : rfG τ x = rfG σ x := by
  have e1 : rfA τ x = rfA σ x := by
    rw [rfA, rfA, h 52 _ (by omega)]
    exact smI_c (fun k _ => by rw [ooF, ooF, h 55 _ (by omega), h 56 _ (by omega), h 57 _ (by omega)])
  have e2 : rfB τ x = rfB σ x := by
    rw [rfB, rfB, h 52 _ (by omega)]
    exact smI_c (fun k _ => by rw [ooF, ooF, h 55 _ (by omega), h 56 _ (by omega), h 57 _ (by omega)])
  rw [rfG, rfG, e1, e2, h 33 15 (by omega)]
theorem op_iff {σ : AH} {t : Nat} (hT : TR σ t) : opA σ (tA σ t) (ix (zI σ 52 t)) ↔ opF σ (8 * t) (ix (zI σ 52 t)) := by
  have e : ∀ k, k < ix (zI σ 52 t) → zI σ (cA σ (tA σ t) k) 7 = zI σ 55 (8 * t + k) := fun k hk => (cC_2 hT hk).2.2.2.2.2.2.2.1
  exact ⟨fun ⟨j, h1, h2⟩ => ⟨j, h1, by rw [← e j h1]; exact h2⟩, fun ⟨j, h1, h2⟩ => ⟨j, h1, by rw [e j h1]; exact h2⟩⟩
theorem os_eq {σ : AH} {t : Nat} (hT : TR σ t) : smI (osF σ (tA σ t) 6) (ix (zI σ 52 t)) = smI (ooF σ (8 * t) 0) (ix (zI σ 52 t)) ∧ smI (osF σ (tA σ t) 3) (ix (zI σ 52 t)) = smI (ooF σ (8 * t) 1) (ix (zI σ 52 t)) := by
  refine ⟨smI_c (fun k hk => ?_), smI_c (fun k hk => ?_)⟩
  all_goals
    obtain ⟨r1, r2, r3, r4, r5, r6, r7, r8⟩ := (cC_2 hT hk).2
    rw [osF, ooF, r7]
  · rw [if_pos rfl, r6.1]
  · rw [if_neg (show ¬ ((1 : Int32) = 0) by decide), r4.1]
theorem j99 (x : Int64) : x + 100 - 1 = x + 99 := by grind

theorem R_refund {g : GP} {i : Nat} {σ : AH} {v1 : Int32} (hi : i < 512) (h : Rel i σ) : CtH g mL_refund [.ref 2, .int v1] σ (RQ [-1000001, -1000003] (fun k τ => Gh (S12_refund v1) τ (RE i k))) := by
  have hr := h
  obtain ⟨h0, hS, hT, hJ, hP, hK, hB, hC⟩ := h
  have ht0 : ¬ atR (zI σ 2 8) 30 v1 (zR σ 30 (ix v1)) = 0 → ∃ t, TR σ t ∧ v1 = nI t ∧ ix v1 = t ∧ atR (zI σ 2 8) 30 v1 (zR σ 30 (ix v1)) = tA σ t ∧ isWi v1 0 (zI σ 33 23 - 1) ∧ t < ix (zI σ 33 23) ∧ zI σ (tA σ t) 4 = zI σ 52 t := fun c => by
    rcases tick_at hK v1 with ⟨a, t, e1, e2, e3, e4, e5⟩ | ⟨_, a⟩
    · exact ⟨t, e4, e1, by rw [e1, ix, cl0 (by omega)], e5, a, e3, (TR_M e4).2.2.2⟩
    · exact absurd a c
  have ht1 : atR (zI σ 2 8) 30 v1 (zR σ 30 (ix v1)) = 0 → ¬ isWi v1 0 (zI σ 33 23 - 1) := fun c => by
    rcases tick_at hK v1 with ⟨a, t, e1, e2, e3, e4, e5⟩ | ⟨a, _⟩
    · have := TR_72 e4
      rw [e5] at c; omega
    · exact a
  have kd : ¬ atR (zI σ 2 8) 30 v1 (zR σ 30 (ix v1)) = 0 → zK σ (atR (zI σ 2 8) 30 v1 (zR σ 30 (ix v1))) = 9 := fun c => by
    obtain ⟨t, h1, h2, h3, h4, h5, h6, h7⟩ := ht0 c
    rw [h4]; exact tA_2 h1
  have e29 : zI σ 2 9 = zI σ 33 15 := hC.2.2.2.1
  have m1 : ¬ (isWi v1 0 (zI σ 33 23 - 1)) → Gh (S12_refund v1) σ (RE i 1) := fun c1 => s_X12_refund hS (RK_N hK) (RK_M hK v1) (fun _ => RE_no hi hr (Q4_refl σ) (by decide)) (fun q _ => absurd q c1) (fun q _ => absurd q c1)
  have m2 : (isWi v1 0 (zI σ 33 23 - 1)) → ¬ (opF σ (8 * ix v1) (ix (zI σ 52 (ix v1)))) → Gh (S12_refund v1) σ (RE i 2) := fun c1 c2 => s_X12_refund hS (RK_N hK) (RK_M hK v1) (fun q => absurd c1 q) (fun _ _ => RE_no hi hr (Q4_refl σ) (by decide)) (fun _ q => absurd q c2)
  refine w_L_refund (Q := QI (fun k τ => Gh (S12_refund v1) τ (RE i k))) (X := X2 IOO ISE (fun k τ => Gh (S12_refund v1) τ (RE i k))) hS (CtX_of (by decide +kernel) rfl rfl (b_X11_refund_0 hS (fun c => ?_) kd (fun c _ => ?_) (fun c _ => ?_) (fun c _ => ?_) (fun c _ => ?_) (fun c c2 => ?_) (fun c c2 => ?_) (fun c => Or.inl ⟨rfl, hS, m1 (ht1 c)⟩))) QI_q X2_q
  · obtain ⟨t, h1, h2, h3, h4, h5, h6, h7⟩ := ht0 c
    rw [h4, h7]; exact (TR_M h1).2.2.1
  · obtain ⟨t, h1, h2, h3, h4, h5, h6, h7⟩ := ht0 c
    rw [h4, h7]
    obtain ⟨m, hm9, hm⟩ := vp_in_of (TR_M h1).1 (by decide)
    exact ⟨_, _, (TR_M h1).2.2.1, Nat.le_refl _, by rw [hm, ix, cl0 (by omega)]⟩
  · obtain ⟨t, h1, h2, h3, h4, h5, h6, h7⟩ := ht0 c
    rw [h4]; exact TR_72 h1
  · rw [(toA_N _).2.1]; exact kd c
  · obtain ⟨t, h1, h2, h3, h4, h5, h6, h7⟩ := ht0 c
    rw [h4, toA_o _ (fun q => absurd q (by decide))]
    obtain ⟨m, r1, r2, r3, r4, r5, r6, -⟩ := h1
    rw [r6.1]; exact vp_isCa r6.2
  · obtain ⟨t, h1, h2, h3, h4, h5, h6, h7⟩ := ht0 c
    rw [h4, h7] at c2 ⊢
    have c3 := (op_iff h1).mp c2
    have a72 := TR_72 h1
    have cl : smI (osF σ (tA σ t) 6) (ix (zI σ 52 t)) - Int64.toInt32 ((Int32.toInt64 (smI (osF σ (tA σ t) 6) (ix (zI σ 52 t))) * Int32.toInt64 (zI σ 2 9) + 100 - 1) / 100) + smI (osF σ (tA σ t) 3) (ix (zI σ 52 t)) = rfG σ v1 := by
      rw [rfG, rfA, rfB, h3, (os_eq h1).1, (os_eq h1).2, e29, j99]
    rw [cl]
    generalize hy : rfG σ v1 = y
    have c2k : ∀ k, k < ix (zI σ 52 t) → 72 < cA σ (tA σ t) k := fun k hk => (cC_2 h1 hk).2.1.1
    have eq : ∀ b j, b ≤ 72 → zI (uJ (rcH (toA σ (tA σ t) 3 (ix (zI σ 52 t))) (tA σ t) (-y)) 72 0 (Int32.toInt64 y)) b j = zI σ b j := fun b j hb => by
      rw [zI_uJ, rcH, zI_uJ, zI_uJ, zI_uJ, toA_o _ (fun _ k hk z => by have := c2k k hk; omega)]
    have L := Rel_refund (s := 3) (y := -y) (w := Int32.toInt64 y) hi hr h6 rfl (by decide) (by decide)
    have hg : rfG (uJ (rcH (toA σ (tA σ t) 3 (ix (zI σ 52 t))) (tA σ t) (-y)) 72 0 (Int32.toInt64 y)) v1 = y := by
      rw [← hy]; rw [hy]; exact (rfG_cg (fun b j q => eq b j (by omega))).trans hy
    refine ⟨_, rfl, Sh_uJ (Sh_uJ (Sh_uJ (Sh_toA hS _))), s_X12_refund (σ := uJ (rcH (toA σ (tA σ t) 3 (ix (zI σ 52 t))) (tA σ t) (-y)) 72 0 (Int32.toInt64 y)) (Sh_uJ (Sh_uJ (Sh_uJ (Sh_uJ (Sh_toA hS _))))) (by rw [eq 33 23 (by decide)]; exact RK_N hK) (fun q => by rw [eq 33 23 (by decide)] at q; rw [eq 52 _ (by decide), eq 51 _ (by decide)]; exact RK_M hK v1 q) (fun q => absurd (by rw [eq 33 23 (by decide)]; exact h5) q) (fun _ q => absurd ?_ q) (fun _ _ => ?_)⟩
    · rw [eq 52 _ (by decide), h3]
      obtain ⟨j, j1, j2⟩ := c3
      exact ⟨j, j1, by rw [eq 55 _ (by decide)]; exact j2⟩
    · rw [hg, rfH, eq 51 _ (by decide), eq 52 _ (by decide), h3]
      exact ⟨L.1, L.2.1, _, rfl, fun _ => L.2.2⟩
  · obtain ⟨t, h1, h2, h3, h4, h5, h6, h7⟩ := ht0 c
    rw [h4, h7] at c2
    exact Or.inr ⟨rfl, hS, m2 h5 (fun q => c2 ((op_iff h1).mpr (by rw [h3] at q; exact q)))⟩
