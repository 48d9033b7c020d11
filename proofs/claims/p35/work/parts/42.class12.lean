/-! ===== the class: the least way is the reference's; all sets ===== -/
theorem hiN_bt {σ : AH} (hT : RT σ) (a : Int32) (i : Nat) {b : Int32} (hb : bt b 1 1000000) : ∀ d, bt (hiN σ a i b d) 1 1000000
  | 0 => hb
  | d + 1 => by
    have ih := hiN_bt hT a i hb d
    rw [hiN]
    split
    · exact ih
    · rename_i h
      rcases lowA_bt hT a (plF σ (i + 1 + d)) 0 with h2 | h2
      · rw [h2, Int32.le_iff_toInt_le] at h
        refine absurd ?_ h
        have := ih.1
        change (-1 : Int) ≤ _
        omega
      · exact h2
theorem upF_bt {σ : AH} (hT : RT σ) {c m : Int32} (hc : bt c 1 1000000) (hm : bt m 0 25) : bt (upF σ c m) 0 1300000 := by
  obtain ⟨nf, h1, h2, h3, h4, h5, -⟩ := hT
  obtain ⟨U, hU, hU1, hU2⟩ := bt_nI h5 (by decide) (by decide)
  obtain ⟨C, rfl, -, hC⟩ := bt_nI hc (by decide) (by decide)
  obtain ⟨M, rfl, -, hM⟩ := bt_nI hm (by decide) (by decide)
  have hCM : C * (100 + M) ≤ 1000000 * 125 := Nat.mul_le_mul (by omega) (by omega)
  have hdv : ∀ a, a / (100 * U) * U ≤ a / 100 := fun a => by
    rw [Nat.le_div_iff_mul_le (by decide), Nat.mul_assoc, Nat.mul_comm U 100]
    exact Nat.div_mul_le_self a (100 * U)
  rw [upF, hU, show (100 : Int32) = nI 100 from rfl, nI_add, pk_mul, pk_mul, nI_add, show (1 : Int32) = nI 1 from rfl, pk_sub (by omega), pk_div (by omega) (by omega) (by omega), pk_mul]
  have h6 := hdv (C * (100 + M) + 100 * U - 1)
  have h7 : (C * (100 + M) + 100 * U - 1) / 100 ≤ 1300000 := by omega
  refine ⟨by rw [nI_toInt (by omega)]; omega, by rw [nI_toInt (by omega)]; omega⟩
theorem partF_PB {σ : AH} (hT : RT σ) : PB (partF σ) 1300000 := fun i j => by
  rw [partF]
  split
  · exact Or.inl (by decide)
  · split
    · exact Or.inl (by decide)
    · rename_i h2
      split
      · exact Or.inl (by decide)
      · exact Or.inr (upF_bt hT (hiN_bt hT _ _ ((lowA_bt hT _ _ _).resolve_left h2) _) (moreF_bt _ _))
theorem dp_wayF {σ : AH} (hT : RT σ) (hJ : RJ σ) (h0 : ¬ zI σ 33 16 = 0) : dpT (partF σ) (lgN σ) (lgN σ) = wayF σ := by
  obtain ⟨L, h1, h2, h3⟩ := RJ_L hJ
  have hl : lgN σ = L := by rw [lgN, h2, cl0 (by omega)]
  have hL : L ≠ 0 := fun q => h0 (by rw [h2, q]; rfl)
  rw [wayF, hl, wayN, if_neg hL]
  exact (dpT_way (partF_PB hT) (by decide) L h1).2 L (by omega) (Nat.le_refl _)
theorem way_L0 {σ : AH} (h0 : zI σ 33 16 = 0) : wayF σ = (-1, -1) := by
  have hl : lgN σ = 0 := by rw [lgN, h0]; rfl
  rw [wayF, hl]; rfl
/-- what findLeast leaves: the way told, and rows that nobody reads -/
theorem flW_I {σ : AH} {a k : Nat} (h : a ≠ 23 ∧ a ≠ 24 ∧ a ≠ 25) : zI (flW σ) a k = zI σ a k := by
  unfold flW
  split
  · rw [zI_uI, if_neg (fun q => h.1 q.1), zI_uI, if_neg (fun q => h.1 q.1)]
  · rw [zI_uI, if_neg (fun q => h.1 q.1), zI_uI, if_neg (fun q => h.1 q.1), zI_sI, tbF, if_neg (by omega), if_neg (by omega), if_neg (by omega), if_neg (by omega), if_neg (by omega)]
theorem flW_w {σ : AH} (hT : RT σ) (hJ : RJ σ) : zI (flW σ) 23 3 = (wayF σ).1 ∧ zI (flW σ) 23 4 = (wayF σ).2 := by
  unfold flW
  split
  · rename_i h
    rw [way_L0 h]
    exact ⟨by rw [zI_uI, if_neg (by omega), zI_uI, if_pos ⟨rfl, rfl⟩], by rw [zI_uI, if_pos ⟨rfl, rfl⟩]⟩
  · rename_i h
    rw [dp_wayF hT hJ h]
    exact ⟨by rw [zI_uI, if_neg (by omega), zI_uI, if_pos ⟨rfl, rfl⟩], by rw [zI_uI, if_pos ⟨rfl, rfl⟩]⟩
theorem flW_N {σ : AH} : zN (flW σ) = zN σ ∧ zK (flW σ) = zK σ ∧ zL (flW σ) = zL σ ∧ zJ (flW σ) = zJ σ ∧ zR (flW σ) = zR σ := by
  unfold flW
  split
  · exact ⟨rfl, rfl, rfl, rfl, rfl⟩
  · exact ⟨rfl, rfl, rfl, rfl, rfl⟩
theorem Sh_flW {σ : AH} (h : Sh σ) : Sh (flW σ) := by
  unfold flW
  split
  · exact h
  · exact h
/-! all sets -/
set_option maxRecDepth 100000 in
set_option maxHeartbeats 4000000 in
theorem b_X10_sumOfSet_0 {g : GP} {CX : State → Array Value → Prop} {E : ET} {v1 : Int32} {v2 : Int32} {σ : AH}
    (k1 : V g mX10_sumOfSet E CX 0 0 8 [(0, .ref 23), (1, .int v1), (2, .int v2), (3, .int (0 : Int32)), (4, .int (0 : Int32)), (5, .int (1 : Int32))] [] σ) :
    V g mX10_sumOfSet E CX 0 0 0 [(0, .ref 23), (1, .int v1), (2, .int v2)] [] σ := by
  refine V_iconst (0 : Int32) dX10_sumOfSet_0 (by decide) ?_
  refine V_istore_n [(0, .ref 23), (1, .int v1), (2, .int v2), (3, .int (0 : Int32))] dX10_sumOfSet_1 rfl rfl ?_
  refine V_iconst (0 : Int32) dX10_sumOfSet_2 (by decide) ?_
  refine V_istore [(0, .ref 23), (1, .int v1), (2, .int v2), (3, .int (0 : Int32)), (4, .int (0 : Int32))] dX10_sumOfSet_3 rfl rfl ?_
  refine V_iconst (1 : Int32) dX10_sumOfSet_5 (by decide) ?_
  refine V_istore [(0, .ref 23), (1, .int v1), (2, .int v2), (3, .int (0 : Int32)), (4, .int (0 : Int32)), (5, .int (1 : Int32))] dX10_sumOfSet_6 rfl rfl ?_
  exact k1
set_option maxRecDepth 100000 in
set_option maxHeartbeats 4000000 in
theorem b_X10_sumOfSet_8 {g : GP} {CX : State → Array Value → Prop} {Q : AH → Option Value → Prop} {X : AH → String → Prop} {v1 : Int32} {v2 : Int32} {v3 : Int32} {v4 : Int32} {v5 : Int32} {σ : AH}
    (hS : Sh σ)
    (k1 : (v2 < v5) → Q σ (some (.int v3)))
    (k2 : (¬ v2 < v5) → (v5 = v2) → ((nI (zL σ 26)) ≤ ((v4 * (9 : Int32)) + v5)) → Q σ (some (.int (-1 : Int32))))
    (o1 : (¬ v2 < v5) → (v5 = v2) → (¬ (nI (zL σ 26)) ≤ ((v4 * (9 : Int32)) + v5)) → vp_in ((v4 * (9 : Int32)) + v5) 81)
    (k3 : (¬ v2 < v5) → (v5 = v2) → (¬ (nI (zL σ 26)) ≤ ((v4 * (9 : Int32)) + v5)) → (0 ≤ (zI σ 26 (Int32.toNatClampNeg ((v4 * (9 : Int32)) + v5)))) → V g mX10_sumOfSet (Em g mX10_sumOfSet Q X) CX 0 0 8 [(0, .ref 23), (1, .int v1), (2, .int v2), (3, .int (v3 + (zI σ 26 (Int32.toNatClampNeg ((v4 * (9 : Int32)) + v5))))), (4, .int v5), (5, .int (v5 + (1 : Int32)))] [] σ)
    (k4 : (¬ v2 < v5) → (v5 = v2) → (¬ (nI (zL σ 26)) ≤ ((v4 * (9 : Int32)) + v5)) → (¬ 0 ≤ (zI σ 26 (Int32.toNatClampNeg ((v4 * (9 : Int32)) + v5)))) → Q σ (some (.int (-1 : Int32))))
    (k5 : (¬ v2 < v5) → (¬ v5 = v2) → (¬ ((v1 >>> (v5 &&& 31)) &&& (1 : Int32)) = (1 : Int32)) → V g mX10_sumOfSet (Em g mX10_sumOfSet Q X) CX 0 0 8 [(0, .ref 23), (1, .int v1), (2, .int v2), (3, .int v3), (4, .int v4), (5, .int (v5 + (1 : Int32)))] [] σ)
    (k6 : (¬ v2 < v5) → (¬ v5 = v2) → (((v1 >>> (v5 &&& 31)) &&& (1 : Int32)) = (1 : Int32)) → ((nI (zL σ 26)) ≤ ((v4 * (9 : Int32)) + v5)) → Q σ (some (.int (-1 : Int32))))
    (o2 : (¬ v2 < v5) → (¬ v5 = v2) → (((v1 >>> (v5 &&& 31)) &&& (1 : Int32)) = (1 : Int32)) → (¬ (nI (zL σ 26)) ≤ ((v4 * (9 : Int32)) + v5)) → vp_in ((v4 * (9 : Int32)) + v5) 81)
    (k7 : (¬ v2 < v5) → (¬ v5 = v2) → (((v1 >>> (v5 &&& 31)) &&& (1 : Int32)) = (1 : Int32)) → (¬ (nI (zL σ 26)) ≤ ((v4 * (9 : Int32)) + v5)) → (0 ≤ (zI σ 26 (Int32.toNatClampNeg ((v4 * (9 : Int32)) + v5)))) → V g mX10_sumOfSet (Em g mX10_sumOfSet Q X) CX 0 0 8 [(0, .ref 23), (1, .int v1), (2, .int v2), (3, .int (v3 + (zI σ 26 (Int32.toNatClampNeg ((v4 * (9 : Int32)) + v5))))), (4, .int v5), (5, .int (v5 + (1 : Int32)))] [] σ)
    (k8 : (¬ v2 < v5) → (¬ v5 = v2) → (((v1 >>> (v5 &&& 31)) &&& (1 : Int32)) = (1 : Int32)) → (¬ (nI (zL σ 26)) ≤ ((v4 * (9 : Int32)) + v5)) → (¬ 0 ≤ (zI σ 26 (Int32.toNatClampNeg ((v4 * (9 : Int32)) + v5)))) → Q σ (some (.int (-1 : Int32)))) :
    V g mX10_sumOfSet (Em g mX10_sumOfSet Q X) CX 0 0 8 [(0, .ref 23), (1, .int v1), (2, .int v2), (3, .int v3), (4, .int v4), (5, .int v5)] [] σ := by
  refine V_iload dX10_sumOfSet_8 rfl ?_
  refine V_iload_n dX10_sumOfSet_10 rfl ?_
  refine V_icmp_gt 85 dX10_sumOfSet_11 rfl (fun c1 => ?_) (fun c1 => ?_)
  · refine V_iload_n dX10_sumOfSet_85 rfl ?_
    exact V_iret rfl dX10_sumOfSet_86 (k1 c1)
  · refine V_iload dX10_sumOfSet_14 rfl ?_
    refine V_iload_n dX10_sumOfSet_16 rfl ?_
    refine V_icmp_eq 30 dX10_sumOfSet_17 rfl (fun c2 => ?_) (fun c2 => ?_)
    · refine V_iload dX10_sumOfSet_30 rfl ?_
      refine V_bipush (9 : Int32) dX10_sumOfSet_32 (by decide) ?_
      refine V_imul dX10_sumOfSet_34 ?_
      refine V_iload dX10_sumOfSet_35 rfl ?_
      refine V_iadd dX10_sumOfSet_37 ?_
      refine V_istore [(0, .ref 23), (1, .int v1), (2, .int v2), (3, .int v3), (4, .int v4), (5, .int v5), (6, .int ((v4 * (9 : Int32)) + v5))] dX10_sumOfSet_38 rfl rfl ?_
      refine V_iload dX10_sumOfSet_40 rfl ?_
      refine V_aload_n dX10_sumOfSet_42 rfl ?_
      refine V_getf (fk := 2) (Value.ref 26) ko_X10 rfl w_158 dX10_sumOfSet_43 (by decide) (shk hS 23 rfl) (congrArg Value.ref (shr hS 23 2 26 (by decide))) ?_
      refine V_alen (κ := 0) dX10_sumOfSet_46 (by decide) (shk hS 26 rfl) ?_
      refine V_icmp_ge 60 dX10_sumOfSet_47 rfl (fun c3 => ?_) (fun c3 => ?_)
      · refine V_iconst (-1 : Int32) dX10_sumOfSet_60 (by decide) ?_
        refine V_istore [(0, .ref 23), (1, .int v1), (2, .int v2), (3, .int v3), (4, .int v4), (5, .int v5), (6, .int ((v4 * (9 : Int32)) + v5)), (7, .int (-1 : Int32))] dX10_sumOfSet_61 rfl rfl ?_
        refine V_iload dX10_sumOfSet_63 rfl ?_
        refine V_if_ge 70 dX10_sumOfSet_65 rfl (fun z_ => (by first | exact absurd (by decide) z_ | exact absurd z_ (by decide))) (fun _ => ?_)
        refine V_iconst (-1 : Int32) dX10_sumOfSet_68 (by decide) ?_
        exact V_iret rfl dX10_sumOfSet_69 (k2 c1 c2 c3)
      · refine V_aload_n dX10_sumOfSet_50 rfl ?_
        refine V_getf (fk := 2) (Value.ref 26) ko_X10 rfl w_158 dX10_sumOfSet_51 (by decide) (shk hS 23 rfl) (congrArg Value.ref (shr hS 23 2 26 (by decide))) ?_
        refine V_iload dX10_sumOfSet_54 rfl ?_
        refine V_iald dX10_sumOfSet_56 (by decide) (shk hS 26 rfl) (vp_l (n := 81) (shl hS 26 rfl) (o1 c1 c2 c3)) ?_
        refine V_goto 61 dX10_sumOfSet_57 rfl ?_
        refine V_istore [(0, .ref 23), (1, .int v1), (2, .int v2), (3, .int v3), (4, .int v4), (5, .int v5), (6, .int ((v4 * (9 : Int32)) + v5)), (7, .int (zI σ 26 (Int32.toNatClampNeg ((v4 * (9 : Int32)) + v5))))] dX10_sumOfSet_61 rfl rfl ?_
        refine V_iload dX10_sumOfSet_63 rfl ?_
        refine V_if_ge 70 dX10_sumOfSet_65 rfl (fun c4 => ?_) (fun c4 => ?_)
        · refine V_iload_n dX10_sumOfSet_70 rfl ?_
          refine V_iload dX10_sumOfSet_71 rfl ?_
          refine V_iadd dX10_sumOfSet_73 ?_
          refine V_istore_n [(0, .ref 23), (1, .int v1), (2, .int v2), (3, .int (v3 + (zI σ 26 (Int32.toNatClampNeg ((v4 * (9 : Int32)) + v5))))), (4, .int v4), (5, .int v5), (6, .int ((v4 * (9 : Int32)) + v5)), (7, .int (zI σ 26 (Int32.toNatClampNeg ((v4 * (9 : Int32)) + v5))))] dX10_sumOfSet_74 rfl rfl ?_
          refine V_iload dX10_sumOfSet_75 rfl ?_
          refine V_istore [(0, .ref 23), (1, .int v1), (2, .int v2), (3, .int (v3 + (zI σ 26 (Int32.toNatClampNeg ((v4 * (9 : Int32)) + v5))))), (4, .int v5), (5, .int v5), (6, .int ((v4 * (9 : Int32)) + v5)), (7, .int (zI σ 26 (Int32.toNatClampNeg ((v4 * (9 : Int32)) + v5))))] dX10_sumOfSet_77 rfl rfl ?_
          refine V_iinc (v5 + (1 : Int32)) [(0, .ref 23), (1, .int v1), (2, .int v2), (3, .int (v3 + (zI σ 26 (Int32.toNatClampNeg ((v4 * (9 : Int32)) + v5))))), (4, .int v5), (5, .int (v5 + (1 : Int32))), (6, .int ((v4 * (9 : Int32)) + v5)), (7, .int (zI σ 26 (Int32.toNatClampNeg ((v4 * (9 : Int32)) + v5))))] dX10_sumOfSet_79 rfl rfl rfl rfl ?_
          refine V_goto 8 dX10_sumOfSet_82 rfl ?_
          exact V_less (mm_keep (mm_keep (mm_keep (mm_keep (mm_keep (mm_keep (mm_drop (mm_drop mm_nil)))))))) (by decide) (by decide) (k3 c1 c2 c3 c4)
        · refine V_iconst (-1 : Int32) dX10_sumOfSet_68 (by decide) ?_
          exact V_iret rfl dX10_sumOfSet_69 (k4 c1 c2 c3 c4)
    · refine V_iload_n dX10_sumOfSet_20 rfl ?_
      refine V_iload dX10_sumOfSet_21 rfl ?_
      refine V_ishr dX10_sumOfSet_23 ?_
      refine V_iconst (1 : Int32) dX10_sumOfSet_24 (by decide) ?_
      refine V_iand dX10_sumOfSet_25 ?_
      refine V_iconst (1 : Int32) dX10_sumOfSet_26 (by decide) ?_
      refine V_icmp_ne 79 dX10_sumOfSet_27 rfl (fun c5 => ?_) (fun c5 => ?_)
      · refine V_iinc (v5 + (1 : Int32)) [(0, .ref 23), (1, .int v1), (2, .int v2), (3, .int v3), (4, .int v4), (5, .int (v5 + (1 : Int32)))] dX10_sumOfSet_79 rfl rfl rfl rfl ?_
        refine V_goto 8 dX10_sumOfSet_82 rfl ?_
        exact (k5 c1 c2 c5)
      · refine V_iload dX10_sumOfSet_30 rfl ?_
        refine V_bipush (9 : Int32) dX10_sumOfSet_32 (by decide) ?_
        refine V_imul dX10_sumOfSet_34 ?_
        refine V_iload dX10_sumOfSet_35 rfl ?_
        refine V_iadd dX10_sumOfSet_37 ?_
        refine V_istore [(0, .ref 23), (1, .int v1), (2, .int v2), (3, .int v3), (4, .int v4), (5, .int v5), (6, .int ((v4 * (9 : Int32)) + v5))] dX10_sumOfSet_38 rfl rfl ?_
        refine V_iload dX10_sumOfSet_40 rfl ?_
        refine V_aload_n dX10_sumOfSet_42 rfl ?_
        refine V_getf (fk := 2) (Value.ref 26) ko_X10 rfl w_158 dX10_sumOfSet_43 (by decide) (shk hS 23 rfl) (congrArg Value.ref (shr hS 23 2 26 (by decide))) ?_
        refine V_alen (κ := 0) dX10_sumOfSet_46 (by decide) (shk hS 26 rfl) ?_
        refine V_icmp_ge 60 dX10_sumOfSet_47 rfl (fun c6 => ?_) (fun c6 => ?_)
        · refine V_iconst (-1 : Int32) dX10_sumOfSet_60 (by decide) ?_
          refine V_istore [(0, .ref 23), (1, .int v1), (2, .int v2), (3, .int v3), (4, .int v4), (5, .int v5), (6, .int ((v4 * (9 : Int32)) + v5)), (7, .int (-1 : Int32))] dX10_sumOfSet_61 rfl rfl ?_
          refine V_iload dX10_sumOfSet_63 rfl ?_
          refine V_if_ge 70 dX10_sumOfSet_65 rfl (fun z_ => (by first | exact absurd (by decide) z_ | exact absurd z_ (by decide))) (fun _ => ?_)
          refine V_iconst (-1 : Int32) dX10_sumOfSet_68 (by decide) ?_
          exact V_iret rfl dX10_sumOfSet_69 (k6 c1 c2 c5 c6)
        · refine V_aload_n dX10_sumOfSet_50 rfl ?_
          refine V_getf (fk := 2) (Value.ref 26) ko_X10 rfl w_158 dX10_sumOfSet_51 (by decide) (shk hS 23 rfl) (congrArg Value.ref (shr hS 23 2 26 (by decide))) ?_
          refine V_iload dX10_sumOfSet_54 rfl ?_
          refine V_iald dX10_sumOfSet_56 (by decide) (shk hS 26 rfl) (vp_l (n := 81) (shl hS 26 rfl) (o2 c1 c2 c5 c6)) ?_
          refine V_goto 61 dX10_sumOfSet_57 rfl ?_
          refine V_istore [(0, .ref 23), (1, .int v1), (2, .int v2), (3, .int v3), (4, .int v4), (5, .int v5), (6, .int ((v4 * (9 : Int32)) + v5)), (7, .int (zI σ 26 (Int32.toNatClampNeg ((v4 * (9 : Int32)) + v5))))] dX10_sumOfSet_61 rfl rfl ?_
          refine V_iload dX10_sumOfSet_63 rfl ?_
          refine V_if_ge 70 dX10_sumOfSet_65 rfl (fun c7 => ?_) (fun c7 => ?_)
          · refine V_iload_n dX10_sumOfSet_70 rfl ?_
            refine V_iload dX10_sumOfSet_71 rfl ?_
            refine V_iadd dX10_sumOfSet_73 ?_
            refine V_istore_n [(0, .ref 23), (1, .int v1), (2, .int v2), (3, .int (v3 + (zI σ 26 (Int32.toNatClampNeg ((v4 * (9 : Int32)) + v5))))), (4, .int v4), (5, .int v5), (6, .int ((v4 * (9 : Int32)) + v5)), (7, .int (zI σ 26 (Int32.toNatClampNeg ((v4 * (9 : Int32)) + v5))))] dX10_sumOfSet_74 rfl rfl ?_
            refine V_iload dX10_sumOfSet_75 rfl ?_
            refine V_istore [(0, .ref 23), (1, .int v1), (2, .int v2), (3, .int (v3 + (zI σ 26 (Int32.toNatClampNeg ((v4 * (9 : Int32)) + v5))))), (4, .int v5), (5, .int v5), (6, .int ((v4 * (9 : Int32)) + v5)), (7, .int (zI σ 26 (Int32.toNatClampNeg ((v4 * (9 : Int32)) + v5))))] dX10_sumOfSet_77 rfl rfl ?_
            refine V_iinc (v5 + (1 : Int32)) [(0, .ref 23), (1, .int v1), (2, .int v2), (3, .int (v3 + (zI σ 26 (Int32.toNatClampNeg ((v4 * (9 : Int32)) + v5))))), (4, .int v5), (5, .int (v5 + (1 : Int32))), (6, .int ((v4 * (9 : Int32)) + v5)), (7, .int (zI σ 26 (Int32.toNatClampNeg ((v4 * (9 : Int32)) + v5))))] dX10_sumOfSet_79 rfl rfl rfl rfl ?_
            refine V_goto 8 dX10_sumOfSet_82 rfl ?_
            exact V_less (mm_keep (mm_keep (mm_keep (mm_keep (mm_keep (mm_keep (mm_drop (mm_drop mm_nil)))))))) (by decide) (by decide) (k7 c1 c2 c5 c6 c7)
          · refine V_iconst (-1 : Int32) dX10_sumOfSet_68 (by decide) ?_
            exact V_iret rfl dX10_sumOfSet_69 (k8 c1 c2 c5 c6 c7)

/-- the class's rows of prices -/
def PP (σ : AH) : Prop := ∀ i j, i < j → j ≤ lgN σ → zI σ 26 (i * 9 + j) = partF σ i j
theorem s_X10_sumOfSet {g : GP} {σ : AH} {x y : Int32} (hS : Sh σ) (hT : RT σ) (hJ : RJ σ) (hp : PP σ) (hx : vp_in x 512) (hy : y = zI σ 33 16) : Ct g mX10_sumOfSet [.ref 23, .int x, .int y] σ (FQ σ (some (.int (sumC σ x)))) := by
  obtain ⟨set, hset, rfl⟩ := vp_in_of hx (by decide)
  obtain ⟨L, h1, h2, h3⟩ := RJ_L hJ
  have hl : lgN σ = L := by rw [lgN, h2, cl0 (by omega)]
  have hs : sumC σ (nI set) = (sumSt (partF σ) set L L).1 := by rw [sumC, h2, cl0 (by omega), cl0 (by omega)]
  rw [hs, hy, h2]
  unfold PP at hp
  rw [hl] at hp
  have hP := partF_PB hT
  generalize partF σ = P at *
  have hz : nI (zL σ 26) = nI 81 := by rw [shl hS 26 (n := 81) rfl]
  have hn := sumSt_bt hP (set := set) (L := L) (by decide)
  refine Ct_of (by decide +kernel) rfl rfl (b_X10_sumOfSet_0 ?_)
  refine up_loop (P := fun k => (sumSt P set L k).1 ≠ -1 → V g mX10_sumOfSet (Em g mX10_sumOfSet (FQ σ (some (.int (sumSt P set L L).1))) NX) CT 0 0 8 [(0, .ref 23), (1, .int (nI set)), (2, .int (nI L)), (3, .int (sumSt P set L k).1), (4, .int (nI (sumSt P set L k).2)), (5, .int (nI (k + 1)))] [] σ) L ?_ ?_ 0 (Nat.zero_le _) (show (0 : Int32) ≠ -1 by decide)
  · intro _
    have hlt : nI L < nI (L + 1) := nI_lt (by omega) (by omega)
    exact b_X10_sumOfSet_8 hS (fun _ => fq) (fun c => absurd hlt c) (fun c => absurd hlt c) (fun c => absurd hlt c) (fun c => absurd hlt c) (fun c => absurd hlt c) (fun c => absurd hlt c) (fun c => absurd hlt c) (fun c => absurd hlt c) (fun c => absurd hlt c)
  · intro k hk ih hne
    have hlt : ¬ nI L < nI (k + 1) := nI_nlt (by omega) (by omega)
    have hle := sumSt_le (P := P) (set := set) (L := L) k
    have hx1 := (hn k (by omega)).resolve_left hne
    have step : ∀ (x : Int32) (y : Nat), sumSt P set L (k + 1) = (x, y) → x ≠ -1 → V g mX10_sumOfSet (Em g mX10_sumOfSet (FQ σ (some (.int (sumSt P set L L).1))) NX) CT 0 0 8 [(0, .ref 23), (1, .int (nI set)), (2, .int (nI L)), (3, .int x), (4, .int (nI y)), (5, .int (nI (k + 1) + 1))] [] σ := by
      intro x y h hx
      have q := ih (by rw [h]; exact hx)
      rw [h] at q
      rw [nI_1]
      exact q
    have stuck : (sumSt P set L (k + 1)).1 = -1 → (sumSt P set L L).1 = -1 := fun q => by
      have := sumSt_stuck q (L - (k + 1))
      rwa [show k + 1 + (L - (k + 1)) = L by omega] at this
    have eq1 : sumSt P set L (k + 1) = if k + 1 = L ∨ set.testBit (k + 1) = true then (if 0 ≤ P (sumSt P set L k).2 (k + 1) then (sumSt P set L k).1 + P (sumSt P set L k).2 (k + 1) else -1, k + 1) else sumSt P set L k := by rw [sumSt, if_neg hne]
    have hM : k * 1300000 ≤ 8 * 1300000 := Nat.mul_le_mul_right _ (by omega)
    have ht := bit_t (k := k + 1) (set := set) (by omega) (by omega)
    have hend : nI (k + 1) = nI L ↔ k + 1 = L := nI_eq (by omega) (by omega)
    generalize hw : sumSt P set L k = w at *
    obtain ⟨s, b⟩ := w
    have idx : nI b * 9 + nI (k + 1) = nI (b * 9 + (k + 1)) := by rw [show (9 : Int32) = nI 9 from rfl, pk_mul, nI_add]
    have hci : (nI (b * 9 + (k + 1))).toNatClampNeg = b * 9 + (k + 1) := cl0 (by simp only at hle; omega)
    have hpk := hp b (k + 1) (by simp only at hle; omega) (by omega)
    have hv : vp_in (nI (b * 9 + (k + 1))) 81 := vp_in_nI (by simp only at hle; omega) (by decide)
    have hg : ¬ nI (zL σ 26) ≤ nI (b * 9 + (k + 1)) := by rw [hz]; exact nI_ge (by simp only at hle; omega) (by decide)
    have good : ∀ h0 : 0 ≤ P b (k + 1), s + P b (k + 1) ≠ -1 := fun h0 => by
      have hb := (hP b (k + 1)).resolve_left (Int32.not_lt.mpr h0)
      have e := add_toInt hx1 hb (by omega)
      have b1 := hx1.1; have b2 := hx1.2; have b3 := hb.1; have b4 := hb.2
      exact nn_m1 (h := k * 1300000 + 1300000) ⟨by rw [e]; omega, by rw [e]; simp only at b2; omega⟩
    dsimp only at *
    refine b_X10_sumOfSet_8 hS (fun c => absurd c hlt) (fun _ _ c => ?_) (fun _ _ _ => ?_) (fun _ c1 _ c2 => ?_) (fun _ c1 _ c2 => fq_i ?_) (fun _ c1 c2 => ?_) (fun _ _ _ c => ?_) (fun _ _ _ _ => ?_) (fun _ c1 c2 _ c3 => ?_) (fun _ c1 c2 _ c3 => fq_i ?_)
    all_goals try simp only [idx, hci, hpk] at *
    · exact absurd c hg
    · exact hv
    · exact step _ _ (by rw [eq1, if_pos (Or.inl (hend.mp c1)), if_pos c2]) (good c2)
    · exact (stuck (by rw [eq1, if_pos (Or.inl (hend.mp c1)), if_neg c2])).symm
    · exact step _ _ (by rw [eq1, if_neg (fun q => q.elim (fun q => c1 (hend.mpr q)) (fun q => c2 (ht.mpr q)))]) hne
    · exact absurd c hg
    · exact hv
    · exact step _ _ (by rw [eq1, if_pos (Or.inr (ht.mp c2)), if_pos c3]) (good c3)
    · exact (stuck (by rw [eq1, if_pos (Or.inr (ht.mp c2)), if_neg c3])).symm
set_option maxRecDepth 100000 in
set_option maxHeartbeats 4000000 in
theorem b_X10_leastOfAllSets_0 {g : GP} {CX : State → Array Value → Prop} {Q : AH → Option Value → Prop} {X : AH → String → Prop}  {σ : AH}
    (hS : Sh σ)
    (k1 : ((zI σ 13 1) < (1 : Int32)) → Q σ (some (.int (-1 : Int32))))
    (k2 : (¬ (zI σ 13 1) < (1 : Int32)) → ((zI σ 13 1) < (9 : Int32)) → V g mX10_leastOfAllSets (Em g mX10_leastOfAllSets Q X) CX 0 0 21 [(0, .ref 23), (1, .ref 13), (2, .ref 3), (3, .int (zI σ 13 1)), (4, .int (0 : Int32))] [] σ)
    (k3 : (¬ (zI σ 13 1) < (1 : Int32)) → (¬ (zI σ 13 1) < (9 : Int32)) → Q σ (some (.int (-1 : Int32)))) :
    V g mX10_leastOfAllSets (Em g mX10_leastOfAllSets Q X) CX 0 0 0 [(0, .ref 23), (1, .ref 13), (2, .ref 3)] [] σ := by
  refine V_aload_n dX10_leastOfAllSets_0 rfl ?_
  refine V_getf (fk := 1) (Value.int (zI σ 13 1)) ko_X4 rfl w_143 dX10_leastOfAllSets_1 (by decide) (shk hS 13 rfl) rfl ?_
  refine V_istore_n [(0, .ref 23), (1, .ref 13), (2, .ref 3), (3, .int (zI σ 13 1))] dX10_leastOfAllSets_4 rfl rfl ?_
  refine V_iload_n dX10_leastOfAllSets_5 rfl ?_
  refine V_iconst (1 : Int32) dX10_leastOfAllSets_6 (by decide) ?_
  refine V_icmp_lt 16 dX10_leastOfAllSets_7 rfl (fun c1 => ?_) (fun c1 => ?_)
  · refine V_iconst (-1 : Int32) dX10_leastOfAllSets_16 (by decide) ?_
    exact V_iret rfl dX10_leastOfAllSets_17 (k1 c1)
  · refine V_iload_n dX10_leastOfAllSets_10 rfl ?_
    refine V_bipush (9 : Int32) dX10_leastOfAllSets_11 (by decide) ?_
    refine V_icmp_lt 18 dX10_leastOfAllSets_13 rfl (fun c2 => ?_) (fun c2 => ?_)
    · refine V_iconst (0 : Int32) dX10_leastOfAllSets_18 (by decide) ?_
      refine V_istore [(0, .ref 23), (1, .ref 13), (2, .ref 3), (3, .int (zI σ 13 1)), (4, .int (0 : Int32))] dX10_leastOfAllSets_19 rfl rfl ?_
      exact (k2 c1 c2)
    · refine V_iconst (-1 : Int32) dX10_leastOfAllSets_16 (by decide) ?_
      exact V_iret rfl dX10_leastOfAllSets_17 (k3 c1 c2)
set_option maxRecDepth 100000 in
set_option maxHeartbeats 4000000 in
theorem b_X10_leastOfAllSets_21 {g : GP} {CX : State → Array Value → Prop} {E : ET} {v3 : Int32} {v4 : Int32} {σ : AH}
    (k1 : (v3 ≤ v4) → V g mX10_leastOfAllSets E CX 0 0 79 [(0, .ref 23), (1, .ref 13), (2, .ref 3), (3, .int v3), (4, .int (-1 : Int32)), (5, .int (0 : Int32))] [] σ)
    (k2 : (¬ v3 ≤ v4) → V g mX10_leastOfAllSets E CX 0 0 33 [(0, .ref 23), (1, .ref 13), (2, .ref 3), (3, .int v3), (4, .int v4), (5, .int (v4 + (1 : Int32)))] [] σ) :
    V g mX10_leastOfAllSets E CX 0 0 21 [(0, .ref 23), (1, .ref 13), (2, .ref 3), (3, .int v3), (4, .int v4)] [] σ := by
  refine V_iload dX10_leastOfAllSets_21 rfl ?_
  refine V_iload_n dX10_leastOfAllSets_23 rfl ?_
  refine V_icmp_ge 73 dX10_leastOfAllSets_24 rfl (fun c1 => ?_) (fun c1 => ?_)
  · refine V_iconst (-1 : Int32) dX10_leastOfAllSets_73 (by decide) ?_
    refine V_istore [(0, .ref 23), (1, .ref 13), (2, .ref 3), (3, .int v3), (4, .int (-1 : Int32))] dX10_leastOfAllSets_74 rfl rfl ?_
    refine V_iconst (0 : Int32) dX10_leastOfAllSets_76 (by decide) ?_
    refine V_istore [(0, .ref 23), (1, .ref 13), (2, .ref 3), (3, .int v3), (4, .int (-1 : Int32)), (5, .int (0 : Int32))] dX10_leastOfAllSets_77 rfl rfl ?_
    exact (k1 c1)
  · refine V_iload dX10_leastOfAllSets_27 rfl ?_
    refine V_iconst (1 : Int32) dX10_leastOfAllSets_29 (by decide) ?_
    refine V_iadd dX10_leastOfAllSets_30 ?_
    refine V_istore [(0, .ref 23), (1, .ref 13), (2, .ref 3), (3, .int v3), (4, .int v4), (5, .int (v4 + (1 : Int32)))] dX10_leastOfAllSets_31 rfl rfl ?_
    exact (k2 c1)
set_option maxRecDepth 100000 in
set_option maxHeartbeats 4000000 in
theorem b_X10_leastOfAllSets_33 {g : GP} {CX : State → Array Value → Prop} {E : ET} {v3 : Int32} {v4 : Int32} {v5 : Int32} {σ : AH}
    (hS : Sh σ)
    (k1 : (v3 < v5) → V g mX10_leastOfAllSets E CX 0 0 21 [(0, .ref 23), (1, .ref 13), (2, .ref 3), (3, .int v3), (4, .int (v4 + (1 : Int32)))] [] σ)
    (o1 : (¬ v3 < v5) → RT σ)
    (o2 : (¬ v3 < v5) → RJ σ)
    (o3 : (¬ v3 < v5) → inJ σ v4)
    (o4 : (¬ v3 < v5) → inJ σ v5)
    (o5 : (¬ v3 < v5) → vp_in ((v4 * (9 : Int32)) + v5) 81)
    (k2 : (¬ v3 < v5) → V g mX10_leastOfAllSets E CX 0 0 33 [(0, .ref 23), (1, .ref 13), (2, .ref 3), (3, .int v3), (4, .int v4), (5, .int (v5 + (1 : Int32)))] [] (uI σ 26 (Int32.toNatClampNeg ((v4 * (9 : Int32)) + v5)) (partF σ (ix v4) (ix v5)))) :
    V g mX10_leastOfAllSets E CX 0 0 33 [(0, .ref 23), (1, .ref 13), (2, .ref 3), (3, .int v3), (4, .int v4), (5, .int v5)] [] σ := by
  refine V_iload dX10_leastOfAllSets_33 rfl ?_
  refine V_iload_n dX10_leastOfAllSets_35 rfl ?_
  refine V_icmp_gt 67 dX10_leastOfAllSets_36 rfl (fun c1 => ?_) (fun c1 => ?_)
  · refine V_iinc (v4 + (1 : Int32)) [(0, .ref 23), (1, .ref 13), (2, .ref 3), (3, .int v3), (4, .int (v4 + (1 : Int32))), (5, .int v5)] dX10_leastOfAllSets_67 rfl rfl rfl rfl ?_
    refine V_goto 21 dX10_leastOfAllSets_70 rfl ?_
    exact V_less (mm_keep (mm_keep (mm_keep (mm_keep (mm_keep (mm_drop mm_nil)))))) (by decide) (by decide) (k1 c1)
  · refine V_aload_n dX10_leastOfAllSets_39 rfl ?_
    refine V_getf (fk := 2) (Value.ref 26) ko_X10 rfl w_158 dX10_leastOfAllSets_40 (by decide) (shk hS 23 rfl) (congrArg Value.ref (shr hS 23 2 26 (by decide))) ?_
    refine V_iload dX10_leastOfAllSets_43 rfl ?_
    refine V_bipush (9 : Int32) dX10_leastOfAllSets_45 (by decide) ?_
    refine V_imul dX10_leastOfAllSets_47 ?_
    refine V_iload dX10_leastOfAllSets_48 rfl ?_
    refine V_iadd dX10_leastOfAllSets_50 ?_
    refine V_aload_n dX10_leastOfAllSets_51 rfl ?_
    refine V_aload_n dX10_leastOfAllSets_52 rfl ?_
    refine V_iload dX10_leastOfAllSets_53 rfl ?_
    refine V_iload dX10_leastOfAllSets_55 rfl ?_
    refine V_callV1 (as := [.ref 3, .int v4, .int v5]) (k' := 0) (n' := 0) (s_X4_priceOfPart hS (o1 c1) (o2 c1) (o3 c1) (o4 c1)) mw_X4_priceOfPart ko_X4 rfl w_616 w_617 w_615 ar_X4_priceOfPart rfl ⟨rfl, rfl, rfl, rfl, rfl⟩ dX10_leastOfAllSets_57 (by decide) (shk hS 13 rfl) ?_
    refine V_iast dX10_leastOfAllSets_60 (by decide) (shk hS 26 rfl) (vp_l (n := 81) (shl hS 26 rfl) (o5 c1)) ?_
    refine V_iinc (v5 + (1 : Int32)) [(0, .ref 23), (1, .ref 13), (2, .ref 3), (3, .int v3), (4, .int v4), (5, .int (v5 + (1 : Int32)))] dX10_leastOfAllSets_61 rfl rfl rfl rfl ?_
    refine V_goto 33 dX10_leastOfAllSets_64 rfl ?_
    exact (k2 c1)
set_option maxRecDepth 100000 in
set_option maxHeartbeats 4000000 in
theorem b_X10_leastOfAllSets_79 {g : GP} {CX : State → Array Value → Prop} {Q : AH → Option Value → Prop} {X : AH → String → Prop} {v3 : Int32} {v4 : Int32} {v5 : Int32} {σ : AH}
    (hS : Sh σ)
    (k1 : (((1 : Int32) <<< (v3 &&& 31)) ≤ v5) → Q σ (some (.int v4)))
    (o1 : (¬ ((1 : Int32) <<< (v3 &&& 31)) ≤ v5) → RT σ)
    (o2 : (¬ ((1 : Int32) <<< (v3 &&& 31)) ≤ v5) → RJ σ)
    (o3 : (¬ ((1 : Int32) <<< (v3 &&& 31)) ≤ v5) → PP σ)
    (o4 : (¬ ((1 : Int32) <<< (v3 &&& 31)) ≤ v5) → vp_in v5 512)
    (o5 : (¬ ((1 : Int32) <<< (v3 &&& 31)) ≤ v5) → v3 = zI σ 33 16)
    (k2 : (¬ ((1 : Int32) <<< (v3 &&& 31)) ≤ v5) → ((sumC σ v5) = (-1 : Int32)) → V g mX10_leastOfAllSets (Em g mX10_leastOfAllSets Q X) CX 0 0 79 [(0, .ref 23), (1, .ref 13), (2, .ref 3), (3, .int v3), (4, .int v4), (5, .int (v5 + (2 : Int32)))] [] σ)
    (k3 : (¬ ((1 : Int32) <<< (v3 &&& 31)) ≤ v5) → (¬ (sumC σ v5) = (-1 : Int32)) → (v4 = (-1 : Int32)) → V g mX10_leastOfAllSets (Em g mX10_leastOfAllSets Q X) CX 0 0 79 [(0, .ref 23), (1, .ref 13), (2, .ref 3), (3, .int v3), (4, .int (sumC σ v5)), (5, .int (v5 + (2 : Int32)))] [] σ)
    (k4 : (¬ ((1 : Int32) <<< (v3 &&& 31)) ≤ v5) → (¬ (sumC σ v5) = (-1 : Int32)) → (¬ v4 = (-1 : Int32)) → (v4 ≤ (sumC σ v5)) → V g mX10_leastOfAllSets (Em g mX10_leastOfAllSets Q X) CX 0 0 79 [(0, .ref 23), (1, .ref 13), (2, .ref 3), (3, .int v3), (4, .int v4), (5, .int (v5 + (2 : Int32)))] [] σ)
    (k5 : (¬ ((1 : Int32) <<< (v3 &&& 31)) ≤ v5) → (¬ (sumC σ v5) = (-1 : Int32)) → (¬ v4 = (-1 : Int32)) → (¬ v4 ≤ (sumC σ v5)) → V g mX10_leastOfAllSets (Em g mX10_leastOfAllSets Q X) CX 0 0 79 [(0, .ref 23), (1, .ref 13), (2, .ref 3), (3, .int v3), (4, .int (sumC σ v5)), (5, .int (v5 + (2 : Int32)))] [] σ) :
    V g mX10_leastOfAllSets (Em g mX10_leastOfAllSets Q X) CX 0 0 79 [(0, .ref 23), (1, .ref 13), (2, .ref 3), (3, .int v3), (4, .int v4), (5, .int v5)] [] σ := by
  refine V_iload dX10_leastOfAllSets_79 rfl ?_
  refine V_iconst (1 : Int32) dX10_leastOfAllSets_81 (by decide) ?_
  refine V_iload_n dX10_leastOfAllSets_82 rfl ?_
  refine V_ishl dX10_leastOfAllSets_83 ?_
  refine V_icmp_ge 125 dX10_leastOfAllSets_84 rfl (fun c1 => ?_) (fun c1 => ?_)
  · refine V_iload dX10_leastOfAllSets_125 rfl ?_
    exact V_iret rfl dX10_leastOfAllSets_127 (k1 c1)
  · refine V_aload_n dX10_leastOfAllSets_87 rfl ?_
    refine V_iload dX10_leastOfAllSets_88 rfl ?_
    refine V_iload_n dX10_leastOfAllSets_90 rfl ?_
    refine V_callV1 (as := [.int v5, .int v3]) (k' := 0) (n' := 0) (s_X10_sumOfSet hS (o1 c1) (o2 c1) (o3 c1) (o4 c1) (o5 c1)) mw_X10_sumOfSet ko_X10 rfl w_684 w_7 w_682 ar_X10_sumOfSet rfl ⟨rfl, rfl, rfl, rfl, rfl⟩ dX10_leastOfAllSets_91 (by decide) (shk hS 23 rfl) ?_
    refine V_istore [(0, .ref 23), (1, .ref 13), (2, .ref 3), (3, .int v3), (4, .int v4), (5, .int v5), (6, .int (sumC σ v5))] dX10_leastOfAllSets_94 rfl rfl ?_
    refine V_iload dX10_leastOfAllSets_96 rfl ?_
    refine V_iconst (-1 : Int32) dX10_leastOfAllSets_98 (by decide) ?_
    refine V_icmp_eq 119 dX10_leastOfAllSets_99 rfl (fun c2 => ?_) (fun c2 => ?_)
    · refine V_iinc (v5 + (2 : Int32)) [(0, .ref 23), (1, .ref 13), (2, .ref 3), (3, .int v3), (4, .int v4), (5, .int (v5 + (2 : Int32))), (6, .int (sumC σ v5))] dX10_leastOfAllSets_119 rfl rfl rfl rfl ?_
      refine V_goto 79 dX10_leastOfAllSets_122 rfl ?_
      exact V_less (mm_keep (mm_keep (mm_keep (mm_keep (mm_keep (mm_keep (mm_drop mm_nil))))))) (by decide) (by decide) (k2 c1 c2)
    · refine V_iload dX10_leastOfAllSets_102 rfl ?_
      refine V_iconst (-1 : Int32) dX10_leastOfAllSets_104 (by decide) ?_
      refine V_icmp_eq 115 dX10_leastOfAllSets_105 rfl (fun c3 => ?_) (fun c3 => ?_)
      · refine V_iload dX10_leastOfAllSets_115 rfl ?_
        refine V_istore [(0, .ref 23), (1, .ref 13), (2, .ref 3), (3, .int v3), (4, .int (sumC σ v5)), (5, .int v5), (6, .int (sumC σ v5))] dX10_leastOfAllSets_117 rfl rfl ?_
        refine V_iinc (v5 + (2 : Int32)) [(0, .ref 23), (1, .ref 13), (2, .ref 3), (3, .int v3), (4, .int (sumC σ v5)), (5, .int (v5 + (2 : Int32))), (6, .int (sumC σ v5))] dX10_leastOfAllSets_119 rfl rfl rfl rfl ?_
        refine V_goto 79 dX10_leastOfAllSets_122 rfl ?_
        exact V_less (mm_keep (mm_keep (mm_keep (mm_keep (mm_keep (mm_keep (mm_drop mm_nil))))))) (by decide) (by decide) (k3 c1 c2 c3)
      · refine V_iload dX10_leastOfAllSets_108 rfl ?_
        refine V_iload dX10_leastOfAllSets_110 rfl ?_
        refine V_icmp_ge 119 dX10_leastOfAllSets_112 rfl (fun c4 => ?_) (fun c4 => ?_)
        · refine V_iinc (v5 + (2 : Int32)) [(0, .ref 23), (1, .ref 13), (2, .ref 3), (3, .int v3), (4, .int v4), (5, .int (v5 + (2 : Int32))), (6, .int (sumC σ v5))] dX10_leastOfAllSets_119 rfl rfl rfl rfl ?_
          refine V_goto 79 dX10_leastOfAllSets_122 rfl ?_
          exact V_less (mm_keep (mm_keep (mm_keep (mm_keep (mm_keep (mm_keep (mm_drop mm_nil))))))) (by decide) (by decide) (k4 c1 c2 c3 c4)
        · refine V_iload dX10_leastOfAllSets_115 rfl ?_
          refine V_istore [(0, .ref 23), (1, .ref 13), (2, .ref 3), (3, .int v3), (4, .int (sumC σ v5)), (5, .int v5), (6, .int (sumC σ v5))] dX10_leastOfAllSets_117 rfl rfl ?_
          refine V_iinc (v5 + (2 : Int32)) [(0, .ref 23), (1, .ref 13), (2, .ref 3), (3, .int v3), (4, .int (sumC σ v5)), (5, .int (v5 + (2 : Int32))), (6, .int (sumC σ v5))] dX10_leastOfAllSets_119 rfl rfl rfl rfl ?_
          refine V_goto 79 dX10_leastOfAllSets_122 rfl ?_
          exact V_less (mm_keep (mm_keep (mm_keep (mm_keep (mm_keep (mm_keep (mm_drop mm_nil))))))) (by decide) (by decide) (k5 c1 c2 c3 c4)

/-- the ints when so many prices of parts stand -/
def ppF (σ : AH) (L i j : Nat) (a k : Nat) : Int32 :=
  if a = 26 ∧ k / 9 < k % 9 ∧ k % 9 ≤ L ∧ (k / 9 < i ∨ (k / 9 = i ∧ k % 9 < j)) then partF σ (k / 9) (k % 9) else zI σ a k
theorem EqP_ppF {σ : AH} {L i j : Nat} : EqP (sI σ (ppF σ L i j)) σ := EqP_sI' (fun a k h => by rw [ppF, if_neg (by omega)])
theorem RT_ppF {σ : AH} {L i j : Nat} (hS : Sh σ) (h : RT σ) : RT (sI σ (ppF σ L i j)) :=
  RT_ag (Gr_refl σ) (fun a k ha hf => by
    have : a ≠ 26 := by
      unfold FT at hf; omega
    rw [zI_sI, ppF, if_neg (fun q => this q.1)]) (fun _ => rfl) hS.1 h
theorem RJ_ppF {σ : AH} {L i j : Nat} (h : RJ σ) : RJ (sI σ (ppF σ L i j)) := by
  have e : ∀ a k, a ≠ 26 → zI (sI σ (ppF σ L i j)) a k = zI σ a k := fun a k h1 => by
    rw [zI_sI, ppF, if_neg (fun q => h1 q.1)]
  exact RJ_ag (e _ _ (by decide)) (e _ _ (by decide)) (fun a k h1 h2 => e _ _ (by omega)) (fun a k h1 h2 => e _ _ (by omega)) (fun k h1 => by rw [e _ _ (by decide)]; exact h1) h
theorem ppF_0 {σ : AH} {L : Nat} : sI σ (ppF σ L 0 1) = σ := by
  refine Eq.trans (sI_cg (fun a k => ?_)) (sI_self σ)
  rw [ppF, if_neg (by omega)]
theorem ppF_next {σ : AH} {L i : Nat} : sI σ (ppF σ L i (L + 1)) = sI σ (ppF σ L (i + 1) (i + 2)) := by
  refine sI_cg (fun a k => ?_)
  unfold ppF
  by_cases h : a = 26 ∧ k / 9 < k % 9 ∧ k % 9 ≤ L ∧ (k / 9 < i ∨ (k / 9 = i ∧ k % 9 < L + 1))
  · rw [if_pos h, if_pos (by omega)]
  · rw [if_neg h, if_neg (by omega)]
theorem ppF_put {σ : AH} {L i j : Nat} (hij : i < j) (hj : j ≤ L) (hL : L ≤ 8) : uI (sI σ (ppF σ L i j)) 26 (i * 9 + j) (partF σ i j) = sI σ (ppF σ L i (j + 1)) := by
  rw [uI_sI]
  refine sI_cg (fun a k => ?_)
  unfold ppF
  by_cases h : a = 26 ∧ k = i * 9 + j
  · obtain ⟨rfl, rfl⟩ := h
    have e1 : (i * 9 + j) / 9 = i := by omega
    have e2 : (i * 9 + j) % 9 = j := by omega
    rw [if_pos ⟨rfl, rfl⟩, e1, e2, if_pos (by omega)]
  · rw [if_neg h]
    by_cases h2 : a = 26 ∧ k / 9 < k % 9 ∧ k % 9 ≤ L ∧ (k / 9 < i ∨ (k / 9 = i ∧ k % 9 < j))
    · rw [if_pos h2, if_pos (by omega)]
    · rw [if_neg h2, if_neg (by omega)]
/-- the heap when the least of all sets is found -/
def alH (σ : AH) : AH := if zI σ 33 16 = 0 then σ else sI σ (ppF σ (lgN σ) (lgN σ) (lgN σ + 1))
theorem s_X10_leastOfAllSets {g : GP} {σ : AH} (hS : Sh σ) (hT : RT σ) (hJ : RJ σ) : Ct g mX10_leastOfAllSets [.ref 23, .ref 13, .ref 3] σ (FQ (alH σ) (some (.int (wayF σ).1))) := by
  obtain ⟨L, h1, h2, h3⟩ := RJ_L hJ
  have hl : lgN σ = L := by rw [lgN, h2, cl0 (by omega)]
  by_cases h0 : L = 0
  · subst h0
    have e0 : zI σ 33 16 = 0 := h2
    have lt : zI σ 13 1 < (1 : Int32) := by rw [h3]; decide
    exact Ct_of (by decide +kernel) rfl rfl (b_X10_leastOfAllSets_0 hS (fun _ => ⟨by rw [alH, if_pos e0], by rw [way_L0 e0]⟩) (fun c => absurd lt c) (fun c => absurd lt c))
  · have n0 : ¬ zI σ 33 16 = 0 := by rw [h2]; exact nI_ne0 (by omega) (by omega)
    have nlt : ¬ zI σ 13 1 < (1 : Int32) := by rw [h3]; exact nI_nlt (a := L) (b := 1) (by omega) (by omega)
    have lt9 : zI σ 13 1 < (9 : Int32) := by rw [h3]; exact nI_lt (b := 9) (by omega) (by decide)
    refine Ct_of (by decide +kernel) rfl rfl (b_X10_leastOfAllSets_0 hS (fun c => absurd c nlt) (fun _ _ => ?_) (fun _ c => absurd lt9 c))
    rw [h3]
    have hal : alH σ = sI σ (ppF σ L L (L + 1)) := by rw [alH, if_neg n0, hl]
    rw [hal]
    refine V_cast rfl rfl (ppF_0 (L := L)).symm ?_
    refine up_loop (P := fun i => V g mX10_leastOfAllSets (Em g mX10_leastOfAllSets (FQ (sI σ (ppF σ L L (L + 1))) (some (.int (wayF σ).1))) NX) CT 0 0 21 [(0, .ref 23), (1, .ref 13), (2, .ref 3), (3, .int (nI L)), (4, .int (nI i))] [] (sI σ (ppF σ L i (i + 1)))) L ?_ ?_ 0 (Nat.zero_le _)
    · refine b_X10_leastOfAllSets_21 (fun _ => ?_) (fun c => absurd (Int32.le_refl _) c)
      have hw : wayF σ = wayS (partF σ) L (2 ^ (L - 1)) := by rw [wayF, hl, wayN, if_neg h0]
      rw [hw]
      have hp8 : 2 ^ L ≤ 2 ^ 8 := Nat.pow_le_pow_right (by decide) (by omega)
      have hp : 2 ^ L = 2 * 2 ^ (L - 1) := by rw [← Nat.pow_succ']; congr 1; omega
      have e16 : zI (sI σ (ppF σ L L (L + 1))) 33 16 = nI L := (EqP_ppF.2.2.2.1).trans h2
      have hlg : lgN (sI σ (ppF σ L L (L + 1))) = L := by rw [lgN, e16, cl0 (by omega)]
      have hPP : PP (sI σ (ppF σ L L (L + 1))) := fun i j hij hj => by
        rw [hlg] at hj
        have e1 : (i * 9 + j) / 9 = i := by omega
        have e2 : (i * 9 + j) % 9 = j := by omega
        rw [partF_eq EqP_ppF, zI_sI, ppF, e1, e2, if_pos (by omega)]
      refine up_loop (P := fun n => V g mX10_leastOfAllSets (Em g mX10_leastOfAllSets (FQ (sI σ (ppF σ L L (L + 1))) (some (.int (wayS (partF σ) L (2 ^ (L - 1))).1))) NX) CT 0 0 79 [(0, .ref 23), (1, .ref 13), (2, .ref 3), (3, .int (nI L)), (4, .int (wayS (partF σ) L n).1), (5, .int (nI (2 * n)))] [] (sI σ (ppF σ L L (L + 1)))) (2 ^ (L - 1)) ?_ ?_ 0 (Nat.zero_le _)
      · have hz : (1 : Int32) <<< (nI L &&& 31) ≤ nI (2 * 2 ^ (L - 1)) := by rw [shl_L h1, hp]; exact Int32.le_refl _
        exact b_X10_leastOfAllSets_79 (σ := sI σ (ppF σ L L (L + 1))) hS (fun _ => fq) (fun c => absurd hz c) (fun c => absurd hz c) (fun c => absurd hz c) (fun c => absurd hz c) (fun c => absurd hz c) (fun c => absurd hz c) (fun c => absurd hz c) (fun c => absurd hz c) (fun c => absurd hz c)
      · intro n hn ih
        have c2 : ¬ (1 : Int32) <<< (nI L &&& 31) ≤ nI (2 * n) := by rw [shl_L h1]; exact nI_ge (by omega) (by omega)
        have hs : sumC (sI σ (ppF σ L L (L + 1))) (nI (2 * n)) = (sumSt (partF σ) (2 * n) L L).1 := by
          rw [sumC_eq EqP_ppF, sumC, h2, cl0 (by omega), cl0 (by omega)]
        have hadd : nI (2 * n) + 2 = nI (2 * (n + 1)) := by rw [show (2 : Int32) = nI 2 from rfl, nI_add]; rfl
        refine b_X10_leastOfAllSets_79 (σ := sI σ (ppF σ L L (L + 1))) hS (fun c => absurd c c2) (fun _ => RT_ppF hS hT) (fun _ => RJ_ppF hJ) (fun _ => hPP) (fun _ => vp_in_nI (by omega) (by decide)) (fun _ => e16.symm) ?_ ?_ ?_ ?_
        all_goals
          intros
          simp only [hs, hadd] at *
          refine V_cast ?_ rfl rfl ih
          rw [wayS]
          simp_all
    · intro i hi ih
      have hlt : ¬ nI L ≤ nI i := nI_ge hi (by omega)
      refine b_X10_leastOfAllSets_21 (fun c => absurd c hlt) (fun _ => ?_)
      rw [nI_1]
      have ci : (nI i).toNatClampNeg = i := cl0 (by omega)
      have key : ∀ j, i + 1 ≤ j → j ≤ L + 1 → V g mX10_leastOfAllSets (Em g mX10_leastOfAllSets (FQ (sI σ (ppF σ L L (L + 1))) (some (.int (wayF σ).1))) NX) CT 0 0 33 [(0, .ref 23), (1, .ref 13), (2, .ref 3), (3, .int (nI L)), (4, .int (nI i)), (5, .int (nI j))] [] (sI σ (ppF σ L i j)) := by
        intro j hj1 hj2
        refine up_loop (P := fun j => i + 1 ≤ j → V g mX10_leastOfAllSets (Em g mX10_leastOfAllSets (FQ (sI σ (ppF σ L L (L + 1))) (some (.int (wayF σ).1))) NX) CT 0 0 33 [(0, .ref 23), (1, .ref 13), (2, .ref 3), (3, .int (nI L)), (4, .int (nI i)), (5, .int (nI j))] [] (sI σ (ppF σ L i j))) (L + 1) ?_ ?_ j hj2 hj1
        · intro _
          have hl1 : nI L < nI (L + 1) := nI_lt (by omega) (by omega)
          refine b_X10_leastOfAllSets_33 (σ := sI σ (ppF σ L i (L + 1))) hS (fun _ => ?_) (fun c => absurd hl1 c) (fun c => absurd hl1 c) (fun c => absurd hl1 c) (fun c => absurd hl1 c) (fun c => absurd hl1 c) (fun c => absurd hl1 c)
          rw [nI_1]
          exact V_cast rfl rfl ppF_next ih
        · intro j hj ihj hij
          have cj : (nI j).toNatClampNeg = j := cl0 (by omega)
          have hl1 : ¬ nI L < nI j := nI_nlt (by omega) (by omega)
          have idx : nI i * 9 + nI j = nI (i * 9 + j) := by rw [show (9 : Int32) = nI 9 from rfl, pk_mul, nI_add]
          have e16 : zI (sI σ (ppF σ L i j)) 33 16 = nI L := (EqP_ppF.2.2.2.1).trans h2
          refine b_X10_leastOfAllSets_33 (σ := sI σ (ppF σ L i j)) hS (fun c => absurd c hl1) (fun _ => RT_ppF hS hT) (fun _ => RJ_ppF hJ) (fun _ => ⟨i, L, rfl, e16, by omega, by omega, h1⟩) (fun _ => ⟨j, L, rfl, e16, by omega, by omega, h1⟩) (fun _ => by rw [idx]; exact vp_in_nI (by omega) (by decide)) (fun _ => ?_)
          rw [nI_1, idx, cl0 (show i * 9 + j < 2 ^ 31 by omega)]
          simp only [ix, ci, cj, partF_eq EqP_ppF]
          exact V_cast rfl rfl (ppF_put (by omega) (by omega) h1) (ihj (by omega))
      exact key (i + 1) (Nat.le_refl _) (by omega)
theorem Sh_alH {σ : AH} (h : Sh σ) : Sh (alH σ) := by
  unfold alH
  split
  · exact h
  · exact h
theorem alH_I {σ : AH} {a k : Nat} (h : a ≠ 26) : zI (alH σ) a k = zI σ a k := by
  unfold alH
  split
  · rfl
  · rw [zI_sI, ppF, if_neg (fun q => h q.1)]
theorem alH_N {σ : AH} : zN (alH σ) = zN σ ∧ zK (alH σ) = zK σ ∧ zL (alH σ) = zL σ ∧ zJ (alH σ) = zJ σ ∧ zR (alH σ) = zR σ := by
  unfold alH
  split
  · exact ⟨rfl, rfl, rfl, rfl, rfl⟩
  · exact ⟨rfl, rfl, rfl, rfl, rfl⟩
