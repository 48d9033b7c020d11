/-! ===== the class: a part's price, as the reference finds it ===== -/
set_option maxRecDepth 100000 in
set_option maxHeartbeats 4000000 in
theorem b_X4_priceOfPart_0 {g : GP} {CX : State → Array Value → Prop} {Q : AH → Option Value → Prop} {X : AH → String → Prop} {v2 : Int32} {v3 : Int32} {σ : AH}
    (hS : Sh σ)
    (o1 : RJ σ)
    (o2 : inJ σ v2)
    (o3 : inJ σ v3)
    (o4 : RT σ)
    (o5 : (¬ (lowA σ (plF σ (ix v2)) (plF σ (ix v3)) (0 : Int32)) = (-1 : Int32)) → (¬ (lowA σ (plF σ (ix v2)) (plF σ (ix v3)) (stN σ (ix v2) (ix v3 - (ix v2 + 1)))) = (-1 : Int32)) → (¬ (suF (prG σ 4 (plF σ (ix v2)) (plF σ (ix v3))) (mlN σ (ix v2) (ix v3 - ix v2))) = (-1 : Int32)) → bt (if (lowA σ (plF σ (ix v2)) (plF σ (ix v3)) (stN σ (ix v2) (ix v3 - (ix v2 + 1)))) < (hgN σ (ix v2) (ix v3 - (ix v2 + 1))) then (hgN σ (ix v2) (ix v3 - (ix v2 + 1))) else (lowA σ (plF σ (ix v2)) (plF σ (ix v3)) (stN σ (ix v2) (ix v3 - (ix v2 + 1))))) 0 1000000)
    (o6 : (¬ (lowA σ (plF σ (ix v2)) (plF σ (ix v3)) (0 : Int32)) = (-1 : Int32)) → (¬ (lowA σ (plF σ (ix v2)) (plF σ (ix v3)) (stN σ (ix v2) (ix v3 - (ix v2 + 1)))) = (-1 : Int32)) → (¬ (suF (prG σ 4 (plF σ (ix v2)) (plF σ (ix v3))) (mlN σ (ix v2) (ix v3 - ix v2))) = (-1 : Int32)) → bt (suF (prG σ 4 (plF σ (ix v2)) (plF σ (ix v3))) (mlN σ (ix v2) (ix v3 - ix v2))) 0 25)
    (k1 : (¬ (lowA σ (plF σ (ix v2)) (plF σ (ix v3)) (0 : Int32)) = (-1 : Int32)) → (¬ (lowA σ (plF σ (ix v2)) (plF σ (ix v3)) (stN σ (ix v2) (ix v3 - (ix v2 + 1)))) = (-1 : Int32)) → (¬ (suF (prG σ 4 (plF σ (ix v2)) (plF σ (ix v3))) (mlN σ (ix v2) (ix v3 - ix v2))) = (-1 : Int32)) → Q σ (some (.int (upF σ (if (lowA σ (plF σ (ix v2)) (plF σ (ix v3)) (stN σ (ix v2) (ix v3 - (ix v2 + 1)))) < (hgN σ (ix v2) (ix v3 - (ix v2 + 1))) then (hgN σ (ix v2) (ix v3 - (ix v2 + 1))) else (lowA σ (plF σ (ix v2)) (plF σ (ix v3)) (stN σ (ix v2) (ix v3 - (ix v2 + 1))))) (suF (prG σ 4 (plF σ (ix v2)) (plF σ (ix v3))) (mlN σ (ix v2) (ix v3 - ix v2)))))))
    (k2 : (¬ (lowA σ (plF σ (ix v2)) (plF σ (ix v3)) (0 : Int32)) = (-1 : Int32)) → (¬ (lowA σ (plF σ (ix v2)) (plF σ (ix v3)) (stN σ (ix v2) (ix v3 - (ix v2 + 1)))) = (-1 : Int32)) → ((suF (prG σ 4 (plF σ (ix v2)) (plF σ (ix v3))) (mlN σ (ix v2) (ix v3 - ix v2))) = (-1 : Int32)) → Q σ (some (.int (-3 : Int32))))
    (k3 : (¬ (lowA σ (plF σ (ix v2)) (plF σ (ix v3)) (0 : Int32)) = (-1 : Int32)) → ((lowA σ (plF σ (ix v2)) (plF σ (ix v3)) (stN σ (ix v2) (ix v3 - (ix v2 + 1)))) = (-1 : Int32)) → Q σ (some (.int (-2 : Int32))))
    (k4 : ((lowA σ (plF σ (ix v2)) (plF σ (ix v3)) (0 : Int32)) = (-1 : Int32)) → Q σ (some (.int (-1 : Int32)))) :
    V g mX4_priceOfPart (Em g mX4_priceOfPart Q X) CX 0 0 0 [(0, .ref 13), (1, .ref 3), (2, .int v2), (3, .int v3)] [] σ := by
  refine V_aload_n dX4_priceOfPart_0 rfl ?_
  refine V_iload_n dX4_priceOfPart_1 rfl ?_
  refine V_callV1 (as := [.int v2]) (k' := 0) (n' := 0) (s_X4_placeAt hS o1 o2) mw_X4_placeAt ko_X4 rfl w_620 w_621 w_619 ar_X4_placeAt rfl ⟨rfl, rfl, rfl, rfl, rfl⟩ dX4_priceOfPart_2 (by decide) (shk hS 13 rfl) ?_
  refine V_istore [(0, .ref 13), (1, .ref 3), (2, .int v2), (3, .int v3), (4, .int (plF σ (ix v2)))] dX4_priceOfPart_5 rfl rfl ?_
  refine V_aload_n dX4_priceOfPart_7 rfl ?_
  refine V_iload_n dX4_priceOfPart_8 rfl ?_
  refine V_callV1 (as := [.int v3]) (k' := 0) (n' := 0) (s_X4_placeAt hS o1 o3) mw_X4_placeAt ko_X4 rfl w_620 w_621 w_619 ar_X4_placeAt rfl ⟨rfl, rfl, rfl, rfl, rfl⟩ dX4_priceOfPart_9 (by decide) (shk hS 13 rfl) ?_
  refine V_istore [(0, .ref 13), (1, .ref 3), (2, .int v2), (3, .int v3), (4, .int (plF σ (ix v2))), (5, .int (plF σ (ix v3)))] dX4_priceOfPart_12 rfl rfl ?_
  refine V_aload_n dX4_priceOfPart_14 rfl ?_
  refine V_iload dX4_priceOfPart_15 rfl ?_
  refine V_iload dX4_priceOfPart_17 rfl ?_
  refine V_iconst (0 : Int32) dX4_priceOfPart_19 (by decide) ?_
  refine V_callV1 (as := [.int (plF σ (ix v2)), .int (plF σ (ix v3)), .int (0 : Int32)]) (k' := 0) (n' := 0) (s_X8_lowestFare hS o4) mw_X8_lowestFare ko_X8 rfl w_624 w_625 w_623 ar_X8_lowestFare rfl ⟨rfl, rfl, rfl, rfl, rfl⟩ dX4_priceOfPart_20 (by decide) (shk hS 3 rfl) ?_
  refine V_iconst (-1 : Int32) dX4_priceOfPart_23 (by decide) ?_
  refine V_icmp_ne 29 dX4_priceOfPart_24 rfl (fun c1 => ?_) (fun c1 => ?_)
  · refine V_aload_n dX4_priceOfPart_29 rfl ?_
    refine V_iload dX4_priceOfPart_30 rfl ?_
    refine V_iload dX4_priceOfPart_32 rfl ?_
    refine V_aload_n dX4_priceOfPart_34 rfl ?_
    refine V_iload_n dX4_priceOfPart_35 rfl ?_
    refine V_iload_n dX4_priceOfPart_36 rfl ?_
    refine V_callV1 (as := [.int v2, .int v3]) (k' := 0) (n' := 0) (s_X4_stopsBetween hS o1 o2 o3) mw_X4_stopsBetween ko_X4 rfl w_637 w_3 w_635 ar_X4_stopsBetween rfl ⟨rfl, rfl, rfl, rfl, rfl⟩ dX4_priceOfPart_37 (by decide) (shk hS 13 rfl) ?_
    refine V_callV1 (as := [.int (plF σ (ix v2)), .int (plF σ (ix v3)), .int (stN σ (ix v2) (ix v3 - (ix v2 + 1)))]) (k' := 0) (n' := 0) (s_X8_lowestFare hS o4) mw_X8_lowestFare ko_X8 rfl w_624 w_625 w_623 ar_X8_lowestFare rfl ⟨rfl, rfl, rfl, rfl, rfl⟩ dX4_priceOfPart_40 (by decide) (shk hS 3 rfl) ?_
    refine V_istore [(0, .ref 13), (1, .ref 3), (2, .int v2), (3, .int v3), (4, .int (plF σ (ix v2))), (5, .int (plF σ (ix v3))), (6, .int (lowA σ (plF σ (ix v2)) (plF σ (ix v3)) (stN σ (ix v2) (ix v3 - (ix v2 + 1)))))] dX4_priceOfPart_43 rfl rfl ?_
    refine V_iload dX4_priceOfPart_45 rfl ?_
    refine V_iconst (-1 : Int32) dX4_priceOfPart_47 (by decide) ?_
    refine V_icmp_ne 54 dX4_priceOfPart_48 rfl (fun c2 => ?_) (fun c2 => ?_)
    · refine V_aload_n dX4_priceOfPart_54 rfl ?_
      refine V_iload dX4_priceOfPart_55 rfl ?_
      refine V_iload dX4_priceOfPart_57 rfl ?_
      refine V_aload_n dX4_priceOfPart_59 rfl ?_
      refine V_aload_n dX4_priceOfPart_60 rfl ?_
      refine V_getf (fk := 0) (Value.ref 4) ko_X8 rfl w_69 dX4_priceOfPart_61 (by decide) (shk hS 3 rfl) (congrArg Value.ref (shr hS 3 0 4 (by decide))) ?_
      refine V_iload_n dX4_priceOfPart_64 rfl ?_
      refine V_iload_n dX4_priceOfPart_65 rfl ?_
      refine V_callV1 (as := [.ref 4, .int v2, .int v3]) (k' := 0) (n' := 0) (s_X4_milesOfLegs hS o4 o1 o2 o3) mw_X4_milesOfLegs ko_X4 rfl w_645 w_4 w_643 ar_X4_milesOfLegs rfl ⟨rfl, rfl, rfl, rfl, rfl⟩ dX4_priceOfPart_66 (by decide) (shk hS 13 rfl) ?_
      refine V_callV1 (as := [.int (plF σ (ix v2)), .int (plF σ (ix v3)), .int (mlN σ (ix v2) (ix v3 - ix v2))]) (k' := 0) (n' := 0) (s_X8_surcharge hS o4) mw_X8_surcharge ko_X8 rfl w_649 w_650 w_648 ar_X8_surcharge rfl ⟨rfl, rfl, rfl, rfl, rfl⟩ dX4_priceOfPart_69 (by decide) (shk hS 3 rfl) ?_
      refine V_istore [(0, .ref 13), (1, .ref 3), (2, .int v2), (3, .int v3), (4, .int (plF σ (ix v2))), (5, .int (plF σ (ix v3))), (6, .int (lowA σ (plF σ (ix v2)) (plF σ (ix v3)) (stN σ (ix v2) (ix v3 - (ix v2 + 1))))), (7, .int (suF (prG σ 4 (plF σ (ix v2)) (plF σ (ix v3))) (mlN σ (ix v2) (ix v3 - ix v2))))] dX4_priceOfPart_72 rfl rfl ?_
      refine V_iload dX4_priceOfPart_74 rfl ?_
      refine V_iconst (-1 : Int32) dX4_priceOfPart_76 (by decide) ?_
      refine V_icmp_ne 83 dX4_priceOfPart_77 rfl (fun c3 => ?_) (fun c3 => ?_)
      · refine V_aload_n dX4_priceOfPart_83 rfl ?_
        refine V_iload dX4_priceOfPart_84 rfl ?_
        refine V_aload_n dX4_priceOfPart_86 rfl ?_
        refine V_aload_n dX4_priceOfPart_87 rfl ?_
        refine V_iload_n dX4_priceOfPart_88 rfl ?_
        refine V_iload_n dX4_priceOfPart_89 rfl ?_
        refine V_callV1 (as := [.ref 3, .int v2, .int v3]) (k' := 0) (n' := 0) (s_X4_highestBetween hS o4 o1 o2 o3) mw_X4_highestBetween ko_X4 rfl w_655 w_5 w_653 ar_X4_highestBetween rfl ⟨rfl, rfl, rfl, rfl, rfl⟩ dX4_priceOfPart_90 (by decide) (shk hS 13 rfl) ?_
        refine V_max w_657 w_658 w_36 w_659 dX4_priceOfPart_93 rfl rfl ?_
        refine V_iload dX4_priceOfPart_96 rfl ?_
        refine V_callV1 (as := [.int (if (lowA σ (plF σ (ix v2)) (plF σ (ix v3)) (stN σ (ix v2) (ix v3 - (ix v2 + 1)))) < (hgN σ (ix v2) (ix v3 - (ix v2 + 1))) then (hgN σ (ix v2) (ix v3 - (ix v2 + 1))) else (lowA σ (plF σ (ix v2)) (plF σ (ix v3)) (stN σ (ix v2) (ix v3 - (ix v2 + 1))))), .int (suF (prG σ 4 (plF σ (ix v2)) (plF σ (ix v3))) (mlN σ (ix v2) (ix v3 - ix v2)))]) (k' := 0) (n' := 0) (s_X8_roundedUp hS o4 (o5 c1 c2 c3) (o6 c1 c2 c3)) mw_X8_roundedUp ko_X8 rfl w_661 w_662 w_660 ar_X8_roundedUp rfl ⟨rfl, rfl, rfl, rfl, rfl⟩ dX4_priceOfPart_98 (by decide) (shk hS 3 rfl) ?_
        exact V_iret rfl dX4_priceOfPart_101 (k1 c1 c2 c3)
      · refine V_bipush (-3 : Int32) dX4_priceOfPart_80 (by decide) ?_
        exact V_iret rfl dX4_priceOfPart_82 (k2 c1 c2 c3)
    · refine V_bipush (-2 : Int32) dX4_priceOfPart_51 (by decide) ?_
      exact V_iret rfl dX4_priceOfPart_53 (k3 c1 c2)
  · refine V_iconst (-1 : Int32) dX4_priceOfPart_27 (by decide) ?_
    exact V_iret rfl dX4_priceOfPart_28 (k4 c1)

theorem lowF_bt {σ : AH} (hT : RT σ) (a b s : Int32) (n : Nat) (hn : n ≤ ix (zI σ 33 6)) : lowF σ a b s n = -1 ∨ bt (lowF σ a b s n) 1 1000000 := by
  induction n with
  | zero => exact Or.inl rfl
  | succ n ih =>
    obtain ⟨nf, h1, h2, h3, h4, h5, h6, h7, h8, h9, h10, -⟩ := hT
    rw [lowF, lowS]
    split
    · refine Or.inr ?_
      have hk : n < nf := by rw [h2, ix, cl0 (by omega)] at hn; omega
      exact (h10 n hk).2.2.2.2.2.2.2.2.1
    · exact ih (by omega)
theorem lowA_bt {σ : AH} (hT : RT σ) (a b s : Int32) : lowA σ a b s = -1 ∨ bt (lowA σ a b s) 1 1000000 := lowF_bt hT a b s _ (Nat.le_refl _)
theorem m1_bt : bt (-1 : Int32) (-1) 1000000 := ⟨by decide, by decide⟩
theorem hgN_bt {σ : AH} (hT : RT σ) (i : Nat) : ∀ d, bt (hgN σ i d) (-1) 1000000
  | 0 => m1_bt
  | d + 1 => by
    rw [hgN]
    split
    · rcases lowA_bt hT (plF σ i) (plF σ (i + 1 + d)) 0 with h | h
      · rw [h]; exact ⟨by decide, by decide⟩
      · exact ⟨by have := h.1; omega, h.2⟩
    · exact hgN_bt hT i d
theorem hiN_hg {σ : AH} (i : Nat) {b : Int32} (hb : -1 ≤ b.toInt) : ∀ d, hiN σ (plF σ i) i b d = if b < hgN σ i d then hgN σ i d else b
  | 0 => by
    rw [hiN, hgN, if_neg]
    rw [Int32.lt_iff_toInt_lt]
    change ¬ b.toInt < -1
    omega
  | d + 1 => by
    rw [hiN, hgN, hiN_hg i hb d]
    generalize lowA σ (plF σ i) (plF σ (i + 1 + d)) 0 = l
    generalize hgN σ i d = h
    simp only [Int32.lt_iff_toInt_lt, Int32.le_iff_toInt_le]
    by_cases c1 : b.toInt < h.toInt <;> by_cases c2 : h.toInt < l.toInt
    · rw [if_pos c1, if_pos c2, if_neg (by omega), if_pos (by omega)]
    · rw [if_pos c1, if_neg c2, if_pos (by omega), if_pos c1]
    · rw [if_neg c1, if_pos c2]
      by_cases c3 : b.toInt < l.toInt
      · rw [if_neg (by omega), if_pos c3]
      · rw [if_pos (by omega), if_neg c3]
    · rw [if_neg c1, if_neg c2, if_pos (by omega), if_neg c1]
theorem moreF_bt (a b : Int32) : bt (moreF a b) 0 25 := by
  unfold moreF
  split
  · exact ⟨by decide, by decide⟩
  · split
    · exact ⟨by decide, by decide⟩
    · split
      · exact ⟨by decide, by decide⟩
      · split
        · exact ⟨by decide, by decide⟩
        · split
          · exact ⟨by decide, by decide⟩
          · exact ⟨by decide, by decide⟩
theorem suF_n {d m : Int32} : suF d m = -1 ↔ (d = 0 ∨ ¬ m ≤ d * 120 / 100 * 125 / 100) := by
  unfold suF
  by_cases h : d = 0
  · rw [if_pos h]; exact ⟨fun _ => Or.inl h, fun _ => rfl⟩
  · rw [if_neg h]
    by_cases h2 : ¬ m ≤ d * 120 / 100 * 125 / 100
    · rw [if_pos h2]; exact ⟨fun _ => Or.inr h2, fun _ => rfl⟩
    · rw [if_neg h2]
      refine ⟨fun q => ?_, fun q => (q.elim h h2).elim⟩
      have := (moreF_bt (d * 120 / 100) m).1
      rw [q] at this
      exact absurd this (by decide)
theorem inJ_vp {σ : AH} {x : Int32} (h : inJ σ x) : vp_in x 9 := by
  obtain ⟨p, L, rfl, -, h1, -, h2⟩ := h
  exact vp_in_nI (by omega) (by decide)
theorem s_X4_priceOfPart {g : GP} {σ : AH} {x y : Int32} (hS : Sh σ) (hT : RT σ) (hJ : RJ σ) (hx : inJ σ x) (hy : inJ σ y) : Ct g mX4_priceOfPart [.ref 13, .ref 3, .int x, .int y] σ (FQ σ (some (.int (partF σ (ix x) (ix y))))) := by
  have hP := R_PO hT hJ
  have px : ∀ z, inJ σ z → ix z < 9 := fun z hz => by
    obtain ⟨p, L, rfl, -, h1, -, h2⟩ := hz
    rw [ix, cl0 (by omega)]; omega
  have hpl : prG σ 4 (plF σ (ix x)) (plF σ (ix y)) = mi σ (plF σ (ix x)) (plF σ (ix y)) := (R_mi hT _ _ (vp_isPl (PO_pl hP (px x hx))) (vp_isPl (PO_pl hP (px y hy)))).1
  have hlow := lowA_bt hT (plF σ (ix x)) (plF σ (ix y)) (stN σ (ix x) (ix y - (ix x + 1)))
  have hhg := hgN_bt hT (ix x) (ix y - (ix x + 1))
  have hsu : ∀ d m, ¬ suF d m = -1 → suF d m = moreF (d * 120 / 100) m := fun d m h => by
    have h' := fun q => h (suF_n.mpr q)
    rw [suF, if_neg (fun q => h' (Or.inl q)), if_neg (fun q => h' (Or.inr q))]
  refine Ct_of (by decide +kernel) rfl rfl (b_X4_priceOfPart_0 hS hJ hx hy hT (fun _ c _ => ?_) (fun _ _ c => ?_) (fun c c2 c3 => fq_i ?_) (fun c c2 c3 => fq_i ?_) (fun c c2 => fq_i ?_) (fun c => fq_i ?_))
  · rcases hlow with h | h
    · exact absurd h c
    · split
      · rename_i h2
        rw [Int32.lt_iff_toInt_lt] at h2
        exact ⟨by have := h.1; omega, hhg.2⟩
      · exact ⟨by have := h.1; omega, h.2⟩
  · rw [hsu _ _ c]; exact moreF_bt _ _
  · have hlo : -1 ≤ (lowA σ (plF σ (ix x)) (plF σ (ix y)) (stN σ (ix x) (ix y - (ix x + 1)))).toInt := by
      rcases hlow with h | h
      · exact absurd h c2
      · have := h.1; omega
    have h' := fun q => c3 (suF_n.mpr q)
    rw [hpl] at h'
    rw [partF, if_neg c, if_neg c2, if_neg h', hsu _ _ c3, hpl, hiN_hg _ hlo]
  · have h' := suF_n.mp c3
    rw [hpl] at h'
    rw [partF, if_neg c, if_neg c2, if_pos h']
  · rw [partF, if_neg c, if_pos c2]
  · rw [partF, if_pos c]
