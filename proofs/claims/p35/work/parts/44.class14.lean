/-! ===== the class: shares ===== -/
set_option maxRecDepth 100000 in
set_option maxHeartbeats 4000000 in
theorem b_X7_weightOf_0 {g : GP} {CX : State → Array Value → Prop} {Q : AH → Option Value → Prop} {X : AH → String → Prop} {v1 : Nat} {σ : AH}
    (hS : Sh σ)
    (o1 : v1 ≠ 0)
    (o2 : zK σ v1 = 2)
    (o3 : 10 = 4 ∨ 10 = 10)
    (k1 : (¬ (prG σ 10 (zI σ v1 0) (zI σ v1 1)) = 0) → Q σ (some (.int (prG σ 10 (zI σ v1 0) (zI σ v1 1)))))
    (o4 : ((prG σ 10 (zI σ v1 0) (zI σ v1 1)) = 0) → 4 = 4 ∨ 4 = 10)
    (k2 : ((prG σ 10 (zI σ v1 0) (zI σ v1 1)) = 0) → Q σ (some (.int (prG σ 4 (zI σ v1 0) (zI σ v1 1))))) :
    V g mX7_weightOf (Em g mX7_weightOf Q X) CX 0 0 0 [(0, .ref 9), (1, .ref v1), (2, .ref 4)] [] σ := by
  refine V_aload_n dX7_weightOf_0 rfl ?_
  refine V_getf (fk := 0) (Value.ref 10) ko_X7 rfl w_102 dX7_weightOf_1 (by decide) (shk hS 9 rfl) (congrArg Value.ref (shr hS 9 0 10 (by decide))) ?_
  refine V_aload_n dX7_weightOf_4 rfl ?_
  refine V_getf (fk := 0) (Value.int (zI σ v1 0)) ko_X2 rfl w_771 dX7_weightOf_5 o1 o2 rfl ?_
  refine V_aload_n dX7_weightOf_8 rfl ?_
  refine V_getf (fk := 1) (Value.int (zI σ v1 1)) ko_X2 rfl w_774 dX7_weightOf_9 o1 o2 rfl ?_
  refine V_callV1 (as := [.int (zI σ v1 0), .int (zI σ v1 1)]) (k' := 0) (n' := 0) (s_X6_get hS o3) mw_X6_get ko_X6 rfl w_347 w_348 w_828 ar_X6_get rfl ⟨rfl, rfl, rfl, rfl, rfl⟩ dX7_weightOf_12 (by decide) (shk hS 10 rfl) ?_
  refine V_istore_n [(0, .ref 9), (1, .ref v1), (2, .ref 4), (3, .int (prG σ 10 (zI σ v1 0) (zI σ v1 1)))] dX7_weightOf_15 rfl rfl ?_
  refine V_iload_n dX7_weightOf_16 rfl ?_
  refine V_if_ne 35 dX7_weightOf_17 rfl (fun c1 => ?_) (fun c1 => ?_)
  · refine V_iload_n dX7_weightOf_35 rfl ?_
    exact V_iret rfl dX7_weightOf_36 (k1 c1)
  · refine V_aload_n dX7_weightOf_20 rfl ?_
    refine V_aload_n dX7_weightOf_21 rfl ?_
    refine V_getf (fk := 0) (Value.int (zI σ v1 0)) ko_X2 rfl w_771 dX7_weightOf_22 o1 o2 rfl ?_
    refine V_aload_n dX7_weightOf_25 rfl ?_
    refine V_getf (fk := 1) (Value.int (zI σ v1 1)) ko_X2 rfl w_774 dX7_weightOf_26 o1 o2 rfl ?_
    refine V_callV1 (as := [.int (zI σ v1 0), .int (zI σ v1 1)]) (k' := 0) (n' := 0) (s_X6_get hS (o4 c1)) mw_X6_get ko_X6 rfl w_347 w_348 w_828 ar_X6_get rfl ⟨rfl, rfl, rfl, rfl, rfl⟩ dX7_weightOf_29 (by decide) (shk hS 4 rfl) ?_
    refine V_goto 36 dX7_weightOf_32 rfl ?_
    exact V_iret rfl dX7_weightOf_36 (k2 c1)

def wtG (σ : AH) (x y : Int32) : Int32 := if prG σ 10 x y = 0 then prG σ 4 x y else prG σ 10 x y
theorem s_X7_weightOf {g : GP} {σ : AH} {c : Nat} (hS : Sh σ) (h0 : c ≠ 0) (hK : zK σ c = 2) : Ct g mX7_weightOf [.ref 9, .ref c, .ref 4] σ (FQ σ (some (.int (wtG σ (zI σ c 0) (zI σ c 1))))) :=
  Ct_of (by decide +kernel) rfl rfl (b_X7_weightOf_0 hS h0 hK (Or.inr rfl) (fun q => fq_i (by rw [wtG, if_neg q])) (fun _ => Or.inl rfl) (fun q => fq_i (by rw [wtG, if_pos q])))
set_option maxRecDepth 100000 in
set_option maxHeartbeats 4000000 in
theorem b_X7_shareByWeights_0 {g : GP} {CX : State → Array Value → Prop} {E : ET} {v1 : Nat} {v2 : Int32} {v3 : Int32} {v4 : Int32} {v5 : Int32} {σ : AH}
    (k1 : V g mX7_shareByWeights E CX 0 0 10 [(0, .ref 9), (1, .ref v1), (2, .int v2), (3, .int v3), (4, .int v4), (5, .int v5), (6, .ref 0), (7, .int v4), (8, .int v2)] [] σ) :
    V g mX7_shareByWeights E CX 0 0 0 [(0, .ref 9), (1, .ref v1), (2, .int v2), (3, .int v3), (4, .int v4), (5, .int v5)] [] σ := by
  refine V_null dX7_shareByWeights_0 ?_
  refine V_astore [(0, .ref 9), (1, .ref v1), (2, .int v2), (3, .int v3), (4, .int v4), (5, .int v5), (6, .ref 0)] dX7_shareByWeights_1 rfl rfl ?_
  refine V_iload dX7_shareByWeights_3 rfl ?_
  refine V_istore [(0, .ref 9), (1, .ref v1), (2, .int v2), (3, .int v3), (4, .int v4), (5, .int v5), (6, .ref 0), (7, .int v4)] dX7_shareByWeights_5 rfl rfl ?_
  refine V_iload_n dX7_shareByWeights_7 rfl ?_
  refine V_istore [(0, .ref 9), (1, .ref v1), (2, .int v2), (3, .int v3), (4, .int v4), (5, .int v5), (6, .ref 0), (7, .int v4), (8, .int v2)] dX7_shareByWeights_8 rfl rfl ?_
  exact k1
set_option maxRecDepth 100000 in
set_option maxHeartbeats 4000000 in
theorem b_X7_shareByWeights_10 {g : GP} {CX : State → Array Value → Prop} {Q : AH → Option Value → Prop} {X : AH → String → Prop} {v1 : Nat} {v2 : Int32} {v3 : Int32} {v4 : Int32} {v5 : Int32} {v6 : Nat} {v7 : Int32} {v8 : Int32} {σ : AH}
    (k1 : (v3 ≤ v8) → (v6 = 0) → Q σ none)
    (o1 : (v3 ≤ v8) → (¬ v6 = 0) → zK σ v6 = 2)
    (k2 : (v3 ≤ v8) → (¬ v6 = 0) → Q (uI σ v6 6 ((zI σ v6 6) + v7)) none)
    (o2 : (¬ v3 ≤ v8) → TX σ v1)
    (o3 : (¬ v3 ≤ v8) → v1 ≠ 0)
    (o4 : (¬ v3 ≤ v8) → zK σ v1 = 9)
    (k3 : (¬ v3 ≤ v8) → (atR (zI σ v1 4) 8 v8 (cA σ v1 (ix v8)) = 0) → V g mX7_shareByWeights (Em g mX7_shareByWeights Q X) CX 0 0 10 [(0, .ref 9), (1, .ref v1), (2, .int v2), (3, .int v3), (4, .int v4), (5, .int v5), (6, .ref v6), (7, .int v7), (8, .int (v8 + (1 : Int32)))] [] σ)
    (o5 : (¬ v3 ≤ v8) → (¬ atR (zI σ v1 4) 8 v8 (cA σ v1 (ix v8)) = 0) → zK σ (atR (zI σ v1 4) 8 v8 (cA σ v1 (ix v8))) = 2)
    (k4 : (¬ v3 ≤ v8) → (¬ atR (zI σ v1 4) 8 v8 (cA σ v1 (ix v8)) = 0) → ((zI σ (atR (zI σ v1 4) 8 v8 (cA σ v1 (ix v8))) 5) ≤ 0) → V g mX7_shareByWeights (Em g mX7_shareByWeights Q X) CX 0 0 10 [(0, .ref 9), (1, .ref v1), (2, .int v2), (3, .int v3), (4, .int v4), (5, .int v5), (6, .ref v6), (7, .int v7), (8, .int (v8 + (1 : Int32)))] [] σ)
    (k5 : (¬ v3 ≤ v8) → (¬ atR (zI σ v1 4) 8 v8 (cA σ v1 (ix v8)) = 0) → (¬ (zI σ (atR (zI σ v1 4) 8 v8 (cA σ v1 (ix v8))) 5) ≤ 0) → (v5 ≤ 0) → V g mX7_shareByWeights (Em g mX7_shareByWeights Q X) CX 0 0 10 [(0, .ref 9), (1, .ref v1), (2, .int v2), (3, .int v3), (4, .int v4), (5, .int v5), (6, .ref v6), (7, .int v7), (8, .int (v8 + (1 : Int32)))] [] σ)
    (o6 : (¬ v3 ≤ v8) → (¬ atR (zI σ v1 4) 8 v8 (cA σ v1 (ix v8)) = 0) → (¬ (zI σ (atR (zI σ v1 4) 8 v8 (cA σ v1 (ix v8))) 5) ≤ 0) → (¬ v5 ≤ 0) → ¬ Int32.toInt64 v5 = 0)
    (k6 : (¬ v3 ≤ v8) → (¬ atR (zI σ v1 4) 8 v8 (cA σ v1 (ix v8)) = 0) → (¬ (zI σ (atR (zI σ v1 4) 8 v8 (cA σ v1 (ix v8))) 5) ≤ 0) → (¬ v5 ≤ 0) → V g mX7_shareByWeights (Em g mX7_shareByWeights Q X) CX 0 0 10 [(0, .ref 9), (1, .ref v1), (2, .int v2), (3, .int v3), (4, .int v4), (5, .int v5), (6, .ref (atR (zI σ v1 4) 8 v8 (cA σ v1 (ix v8)))), (7, .int (v7 - (Int64.toInt32 (((Int32.toInt64 v4) * (Int32.toInt64 (zI σ (atR (zI σ v1 4) 8 v8 (cA σ v1 (ix v8))) 5))) / (Int32.toInt64 v5))))), (8, .int (v8 + (1 : Int32)))] [] (uI σ (atR (zI σ v1 4) 8 v8 (cA σ v1 (ix v8))) 6 (Int64.toInt32 (((Int32.toInt64 v4) * (Int32.toInt64 (zI σ (atR (zI σ v1 4) 8 v8 (cA σ v1 (ix v8))) 5))) / (Int32.toInt64 v5))))) :
    V g mX7_shareByWeights (Em g mX7_shareByWeights Q X) CX 0 0 10 [(0, .ref 9), (1, .ref v1), (2, .int v2), (3, .int v3), (4, .int v4), (5, .int v5), (6, .ref v6), (7, .int v7), (8, .int v8)] [] σ := by
  refine V_iload dX7_shareByWeights_10 rfl ?_
  refine V_iload_n dX7_shareByWeights_12 rfl ?_
  refine V_icmp_ge 82 dX7_shareByWeights_13 rfl (fun c1 => ?_) (fun c1 => ?_)
  · refine V_aload dX7_shareByWeights_82 rfl ?_
    refine V_ifnull 99 dX7_shareByWeights_84 rfl (fun c2 => ?_) (fun c2 => ?_)
    · exact V_vret rfl dX7_shareByWeights_99 (k1 c1 c2)
    · refine V_aload dX7_shareByWeights_87 rfl ?_
      refine V_dup dX7_shareByWeights_89 rfl ?_
      refine V_getf (fk := 6) (Value.int (zI σ v6 6)) ko_X2 rfl w_784 dX7_shareByWeights_90 c2 (o1 c1 c2) rfl ?_
      refine V_iload dX7_shareByWeights_93 rfl ?_
      refine V_iadd dX7_shareByWeights_95 ?_
      refine V_puti (fk := 6) ko_X2 rfl w_784 (Or.inl rfl) dX7_shareByWeights_96 rfl c2 (o1 c1 c2) ?_
      exact V_vret rfl dX7_shareByWeights_99 (k2 c1 c2)
  · refine V_aload_n dX7_shareByWeights_16 rfl ?_
    refine V_iload dX7_shareByWeights_17 rfl ?_
    refine V_callV1 (as := [.int v8]) (k' := 0) (n' := 0) (s_X9_couponAt (o2 c1)) mw_X9_couponAt ko_X9 rfl w_411 w_412 w_823 ar_X9_couponAt rfl ⟨rfl, rfl, rfl, rfl, rfl⟩ dX7_shareByWeights_19 (o3 c1) (o4 c1) ?_
    refine V_astore [(0, .ref 9), (1, .ref v1), (2, .int v2), (3, .int v3), (4, .int v4), (5, .int v5), (6, .ref v6), (7, .int v7), (8, .int v8), (9, .ref (atR (zI σ v1 4) 8 v8 (cA σ v1 (ix v8))))] dX7_shareByWeights_22 rfl rfl ?_
    refine V_aload dX7_shareByWeights_24 rfl ?_
    refine V_ifnull 76 dX7_shareByWeights_26 rfl (fun c3 => ?_) (fun c3 => ?_)
    · refine V_iinc (v8 + (1 : Int32)) [(0, .ref 9), (1, .ref v1), (2, .int v2), (3, .int v3), (4, .int v4), (5, .int v5), (6, .ref v6), (7, .int v7), (8, .int (v8 + (1 : Int32))), (9, .ref (atR (zI σ v1 4) 8 v8 (cA σ v1 (ix v8))))] dX7_shareByWeights_76 rfl rfl rfl rfl ?_
      refine V_goto 10 dX7_shareByWeights_79 rfl ?_
      exact V_less (mm_keep (mm_keep (mm_keep (mm_keep (mm_keep (mm_keep (mm_keep (mm_keep (mm_keep (mm_drop mm_nil)))))))))) (by decide) (by decide) (k3 c1 c3)
    · refine V_aload dX7_shareByWeights_29 rfl ?_
      refine V_getf (fk := 5) (Value.int (zI σ (atR (zI σ v1 4) 8 v8 (cA σ v1 (ix v8))) 5)) ko_X2 rfl w_783 dX7_shareByWeights_31 c3 (o5 c1 c3) rfl ?_
      refine V_if_le 76 dX7_shareByWeights_34 rfl (fun c4 => ?_) (fun c4 => ?_)
      · refine V_iinc (v8 + (1 : Int32)) [(0, .ref 9), (1, .ref v1), (2, .int v2), (3, .int v3), (4, .int v4), (5, .int v5), (6, .ref v6), (7, .int v7), (8, .int (v8 + (1 : Int32))), (9, .ref (atR (zI σ v1 4) 8 v8 (cA σ v1 (ix v8))))] dX7_shareByWeights_76 rfl rfl rfl rfl ?_
        refine V_goto 10 dX7_shareByWeights_79 rfl ?_
        exact V_less (mm_keep (mm_keep (mm_keep (mm_keep (mm_keep (mm_keep (mm_keep (mm_keep (mm_keep (mm_drop mm_nil)))))))))) (by decide) (by decide) (k4 c1 c3 c4)
      · refine V_iload dX7_shareByWeights_37 rfl ?_
        refine V_if_le 76 dX7_shareByWeights_39 rfl (fun c5 => ?_) (fun c5 => ?_)
        · refine V_iinc (v8 + (1 : Int32)) [(0, .ref 9), (1, .ref v1), (2, .int v2), (3, .int v3), (4, .int v4), (5, .int v5), (6, .ref v6), (7, .int v7), (8, .int (v8 + (1 : Int32))), (9, .ref (atR (zI σ v1 4) 8 v8 (cA σ v1 (ix v8))))] dX7_shareByWeights_76 rfl rfl rfl rfl ?_
          refine V_goto 10 dX7_shareByWeights_79 rfl ?_
          exact V_less (mm_keep (mm_keep (mm_keep (mm_keep (mm_keep (mm_keep (mm_keep (mm_keep (mm_keep (mm_drop mm_nil)))))))))) (by decide) (by decide) (k5 c1 c3 c4 c5)
        · refine V_aload dX7_shareByWeights_42 rfl ?_
          refine V_iload dX7_shareByWeights_44 rfl ?_
          refine V_i2l dX7_shareByWeights_46 ?_
          refine V_aload dX7_shareByWeights_47 rfl ?_
          refine V_getf (fk := 5) (Value.int (zI σ (atR (zI σ v1 4) 8 v8 (cA σ v1 (ix v8))) 5)) ko_X2 rfl w_783 dX7_shareByWeights_49 c3 (o5 c1 c3) rfl ?_
          refine V_i2l dX7_shareByWeights_52 ?_
          refine V_lmul dX7_shareByWeights_53 ?_
          refine V_iload dX7_shareByWeights_54 rfl ?_
          refine V_i2l dX7_shareByWeights_56 ?_
          refine V_ldiv dX7_shareByWeights_57 (o6 c1 c3 c4 c5) ?_
          refine V_l2i dX7_shareByWeights_58 ?_
          refine V_puti (fk := 6) ko_X2 rfl w_784 (Or.inl rfl) dX7_shareByWeights_59 rfl c3 (o5 c1 c3) ?_
          refine V_iload dX7_shareByWeights_62 rfl ?_
          refine V_aload dX7_shareByWeights_64 rfl ?_
          refine V_getf (fk := 6) (Value.int (Int64.toInt32 (((Int32.toInt64 v4) * (Int32.toInt64 (zI σ (atR (zI σ v1 4) 8 v8 (cA σ v1 (ix v8))) 5))) / (Int32.toInt64 v5)))) ko_X2 rfl w_784 dX7_shareByWeights_66 c3 (o5 c1 c3) (congrArg Value.int (zI_self _ _ _ _)) ?_
          refine V_isub dX7_shareByWeights_69 ?_
          refine V_istore [(0, .ref 9), (1, .ref v1), (2, .int v2), (3, .int v3), (4, .int v4), (5, .int v5), (6, .ref v6), (7, .int (v7 - (Int64.toInt32 (((Int32.toInt64 v4) * (Int32.toInt64 (zI σ (atR (zI σ v1 4) 8 v8 (cA σ v1 (ix v8))) 5))) / (Int32.toInt64 v5))))), (8, .int v8), (9, .ref (atR (zI σ v1 4) 8 v8 (cA σ v1 (ix v8))))] dX7_shareByWeights_70 rfl rfl ?_
          refine V_aload dX7_shareByWeights_72 rfl ?_
          refine V_astore [(0, .ref 9), (1, .ref v1), (2, .int v2), (3, .int v3), (4, .int v4), (5, .int v5), (6, .ref (atR (zI σ v1 4) 8 v8 (cA σ v1 (ix v8)))), (7, .int (v7 - (Int64.toInt32 (((Int32.toInt64 v4) * (Int32.toInt64 (zI σ (atR (zI σ v1 4) 8 v8 (cA σ v1 (ix v8))) 5))) / (Int32.toInt64 v5))))), (8, .int v8), (9, .ref (atR (zI σ v1 4) 8 v8 (cA σ v1 (ix v8))))] dX7_shareByWeights_74 rfl rfl ?_
          refine V_iinc (v8 + (1 : Int32)) [(0, .ref 9), (1, .ref v1), (2, .int v2), (3, .int v3), (4, .int v4), (5, .int v5), (6, .ref (atR (zI σ v1 4) 8 v8 (cA σ v1 (ix v8)))), (7, .int (v7 - (Int64.toInt32 (((Int32.toInt64 v4) * (Int32.toInt64 (zI σ (atR (zI σ v1 4) 8 v8 (cA σ v1 (ix v8))) 5))) / (Int32.toInt64 v5))))), (8, .int (v8 + (1 : Int32))), (9, .ref (atR (zI σ v1 4) 8 v8 (cA σ v1 (ix v8))))] dX7_shareByWeights_76 rfl rfl rfl rfl ?_
          refine V_goto 10 dX7_shareByWeights_79 rfl ?_
          exact V_less (mm_keep (mm_keep (mm_keep (mm_keep (mm_keep (mm_keep (mm_keep (mm_keep (mm_keep (mm_drop mm_nil)))))))))) (by decide) (by decide) (k6 c1 c3 c4 c5)

/-- the coupons are rows of their own -/
def CD (σ : AH) (a n : Nat) : Prop := (∀ k, k < n → 72 < cA σ a k) ∧ ∀ j k, j < n → k < n → cA σ a j = cA σ a k → j = k
/-- shares by weights, behind d coupons from the i-th on -/
def sh2 (σ : AH) (a : Nat) (pv wt : Nat → Int32) (i : Nat) (lf al : Int32) : Nat → AH
  | 0 => σ
  | d + 1 => if pv (i + d) = -1 then uI (sh2 σ a pv wt i lf al d) (cA σ a (i + d)) 6 (qtS wt lf al (i + d)) else sh2 σ a pv wt i lf al d
theorem sh2_N {σ : AH} {a : Nat} {pv wt : Nat → Int32} {i : Nat} {lf al : Int32} : ∀ d, zN (sh2 σ a pv wt i lf al d) = zN σ ∧ zK (sh2 σ a pv wt i lf al d) = zK σ ∧ zL (sh2 σ a pv wt i lf al d) = zL σ ∧ zJ (sh2 σ a pv wt i lf al d) = zJ σ ∧ zR (sh2 σ a pv wt i lf al d) = zR σ
  | 0 => ⟨rfl, rfl, rfl, rfl, rfl⟩
  | d + 1 => by
    have ih := sh2_N (σ := σ) (a := a) (pv := pv) (wt := wt) (i := i) (lf := lf) (al := al) d
    rw [sh2]
    split
    · exact ih
    · exact ih
theorem sh2_o {σ : AH} {a : Nat} {pv wt : Nat → Int32} {i : Nat} {lf al : Int32} {b j : Nat} : ∀ d, (j = 6 → ∀ k, k < d → b ≠ cA σ a (i + k)) → zI (sh2 σ a pv wt i lf al d) b j = zI σ b j
  | 0, _ => rfl
  | d + 1, h => by
    have ih := sh2_o (σ := σ) (a := a) (pv := pv) (wt := wt) (i := i) (lf := lf) (al := al) (b := b) (j := j) d (fun h7 k hk => h h7 k (by omega))
    rw [sh2]
    split
    · rw [zI_uI, if_neg (fun q => h q.2 d (by omega) q.1)]; exact ih
    · exact ih
theorem sh2_s {σ : AH} {a n : Nat} {pv wt : Nat → Int32} {i : Nat} {lf al : Int32} (hD : CD σ a n) {k : Nat} : ∀ d, k < d → i + d ≤ n → zI (sh2 σ a pv wt i lf al d) (cA σ a (i + k)) 6 = if pv (i + k) = -1 then qtS wt lf al (i + k) else zI σ (cA σ a (i + k)) 6
  | 0, h, _ => by omega
  | d + 1, h, hn => by
    rw [sh2]
    by_cases e : k = d
    · subst e
      have ho : zI (sh2 σ a pv wt i lf al k) (cA σ a (i + k)) 6 = zI σ (cA σ a (i + k)) 6 := sh2_o k (fun _ j hj q => by
        have := hD.2 _ _ (by omega) (by omega) q
        omega)
      split
      · rw [zI_uI, if_pos ⟨rfl, rfl⟩]
      · exact ho
    · have ih := sh2_s (i := i) (pv := pv) (wt := wt) (lf := lf) (al := al) hD (k := k) d (by omega) (by omega)
      split
      · rw [zI_uI, if_neg (fun q => by have := hD.2 _ _ (by omega) (by omega) q.1; omega)]; exact ih
      · exact ih
theorem TS_ag {τ σ : AH} {a n : Nat} (hI : zI τ a 4 = zI σ a 4) (hK : zK τ = zK σ) (hL : zL τ = zL σ) (hR : zR τ = zR σ) (h : TS σ a n) : TS τ a n := by
  obtain ⟨h1, h2, h3, h4, h5, h8⟩ := h
  exact ⟨h1, by rw [hK]; exact h2, by rw [hI]; exact h3, h4, by rw [hK, hL, hR]; exact h5, fun k hk => by rw [cA, hK, hR]; exact h8 k hk⟩
theorem CD_ag {τ σ : AH} {a n : Nat} (hR : zR τ = zR σ) (h : CD σ a n) : CD τ a n := by
  unfold CD cA at *
  rw [hR]
  exact h
/-- the last coupon that shares by weight -/
def laR (σ : AH) (a : Nat) (pv : Nat → Int32) (i d : Nat) : Nat := if otS pv i d = -1 then 0 else cA σ a (ix (otS pv i d))
theorem laR_y {σ : AH} {a : Nat} {pv : Nat → Int32} {i d : Nat} (hd : i + d < 2 ^ 30) (h : pv (i + d) = -1) : laR σ a pv i (d + 1) = cA σ a (i + d) := by
  have n1 : ¬ nI (i + d) = -1 := fun q => by
    have := congrArg Int32.toInt q
    rw [nI_toInt (by omega)] at this
    change ((i + d : Nat) : Int) = -1 at this
    omega
  rw [laR, otS, if_pos h, if_neg n1, ix, cl0 (by omega)]
theorem laR_n {σ : AH} {a : Nat} {pv : Nat → Int32} {i d : Nat} (h : ¬ pv (i + d) = -1) : laR σ a pv i (d + 1) = laR σ a pv i d := by
  rw [laR, laR, otS, if_neg h]
/-- the heap when a part is shared by weights -/
def sh3 (σ : AH) (a : Nat) (pv wt : Nat → Int32) (i n : Nat) (lf al : Int32) : AH :=
  if laR σ a pv i n = 0 then sh2 σ a pv wt i lf al n
  else uI (sh2 σ a pv wt i lf al n) (laR σ a pv i n) 6 (zI (sh2 σ a pv wt i lf al n) (laR σ a pv i n) 6 + rsS pv wt i lf al n)
theorem s_X7_shareByWeights {g : GP} {σ : AH} {a m i n : Nat} {pv wt : Nat → Int32} {lf al : Int32} (hT : TS σ a m) (hin : i + n ≤ m) (hw : ∀ k, i ≤ k → k < i + n → zI σ (cA σ a k) 5 = if pv k = -1 then wt k else 0) (hb : ∀ k, i ≤ k → k < i + n → ¬ wt k ≤ 0) (hal : ¬ al ≤ 0) :
    Ct g mX7_shareByWeights [.ref 9, .ref a, .int (nI i), .int (nI (i + n)), .int lf, .int al] σ (FQ (sh3 σ a pv wt i n lf al) none) := by
  have hm8 := hT.2.2.2.1
  have al0 : ¬ Int32.toInt64 al = 0 := fun q => hal (by
    have := congrArg Int64.toInt q
    rw [Int32.toInt_toInt64] at this
    rw [Int32.le_iff_toInt_le, this]
    decide)
  have hTd : ∀ d, TS (sh2 σ a pv wt i lf al d) a m := fun d => by
    obtain ⟨e1, e2, e3, e4, e5⟩ := sh2_N (σ := σ) (a := a) (pv := pv) (wt := wt) (i := i) (lf := lf) (al := al) d
    exact TS_ag (sh2_o d (fun q => absurd q (by decide))) e2 e3 e5 hT
  have hcA : ∀ d k, cA (sh2 σ a pv wt i lf al d) a k = cA σ a k := fun d k => by rw [cA, (sh2_N d).2.2.2.2]
  have hK : ∀ d k, k < m → zK (sh2 σ a pv wt i lf al d) (cA σ a k) = 2 := fun d k hk => by rw [(sh2_N d).2.1]; exact (hT.2.2.2.2.2 k hk).2
  have hla : ∀ d, d ≤ n → ¬ laR σ a pv i d = 0 → zK (sh2 σ a pv wt i lf al n) (laR σ a pv i d) = 2 := fun d hd h => by
    rcases otS_in (pv := pv) (i := i) d with q | ⟨k, k1, k2, k3, k4⟩
    · rw [laR, if_pos q] at h; exact absurd rfl h
    · by_cases q : otS pv i d = -1
      · rw [laR, if_pos q] at h; exact absurd rfl h
      · rw [laR, if_neg q, k3, ix, cl0 (by omega)]; exact hK n k (by omega)
  refine Ct_of (by decide +kernel) rfl rfl (b_X7_shareByWeights_0 ?_)
  refine up_loop (P := fun d => V g mX7_shareByWeights (Em g mX7_shareByWeights (FQ (sh3 σ a pv wt i n lf al) none) NX) CT 0 0 10 [(0, .ref 9), (1, .ref a), (2, .int (nI i)), (3, .int (nI (i + n))), (4, .int lf), (5, .int al), (6, .ref (laR σ a pv i d)), (7, .int (rsS pv wt i lf al d)), (8, .int (nI (i + d)))] [] (sh2 σ a pv wt i lf al d)) n ?_ ?_ 0 (Nat.zero_le _)
  · have hle : nI (i + n) ≤ nI (i + n) := Int32.le_refl _
    refine b_X7_shareByWeights_10 (σ := sh2 σ a pv wt i lf al n) (fun _ q => ⟨by rw [sh3, if_pos q], rfl⟩) (fun _ q => hla n (Nat.le_refl _) q) (fun _ q => ⟨by rw [sh3, if_neg q], rfl⟩) (fun c => absurd hle c) (fun c => absurd hle c) (fun c => absurd hle c) (fun c => absurd hle c) (fun c => absurd hle c) (fun c => absurd hle c) (fun c => absurd hle c) (fun c => absurd hle c) (fun c => absurd hle c)
  · intro d hd ih
    have hlt : ¬ nI (i + n) ≤ nI (i + d) := nI_ge (by omega) (by omega)
    have e := (TS_at (hTd d) (k := i + d) (by omega)).trans (hcA d (i + d))
    have hc5 : zI (sh2 σ a pv wt i lf al d) (cA σ a (i + d)) 5 = if pv (i + d) = -1 then wt (i + d) else 0 := by
      rw [sh2_o d (fun q => absurd q (by decide))]; exact hw _ (by omega) (by omega)
    rw [show i + (d + 1) = (i + d) + 1 from rfl, ← nI_1] at ih
    refine b_X7_shareByWeights_10 (σ := sh2 σ a pv wt i lf al d) (fun c => absurd c hlt) (fun c => absurd c hlt) (fun c => absurd c hlt) (fun _ => ⟨m, hTd d⟩) (fun _ => (hTd d).1) (fun _ => (hTd d).2.1) (fun _ c => ?_) (fun _ _ => ?_) (fun _ _ c => ?_) (fun _ _ _ c => absurd c hal) (fun _ _ _ _ => al0) (fun _ _ c _ => ?_)
    · rw [e] at c
      exact absurd c (hT.2.2.2.2.2 (i + d) (by omega)).1
    · rw [e]; exact hK d (i + d) (by omega)
    · rw [e, hc5] at c
      have np : ¬ pv (i + d) = -1 := fun q => by
        rw [if_pos q] at c; exact hb _ (by omega) (by omega) c
      rw [laR_n np, rsS, if_neg np, sh2, if_neg np] at ih
      refine V_cast ?_ rfl rfl ih
      rw [show rsS pv wt i lf al d - 0 = rsS pv wt i lf al d by simp]
    · rw [e, hc5] at c
      have np : pv (i + d) = -1 := by
        by_cases q : pv (i + d) = -1
        · exact q
        · rw [if_neg q] at c; exact absurd (by decide) c
      rw [laR_y (by omega) np, rsS, if_pos np, sh2, if_pos np] at ih
      rw [e, hc5, if_pos np]
      exact ih
/-- what a ticket's coupons say -/
def pvX (σ : AH) (a k : Nat) : Int32 := pvG σ (zI σ (cA σ a k) 4) (zI σ (cA σ a k) 0) (zI σ (cA σ a k) 1)
def wtX (σ : AH) (a k : Nat) : Int32 := wtG σ (zI σ (cA σ a k) 0) (zI σ (cA σ a k) 1)
def swP (σ : AH) (a : Nat) (x y al : Int32) : Prop := ∃ m i n, x = nI i ∧ y = nI (i + n) ∧ TS σ a m ∧ i + n ≤ m ∧ (∀ k, i ≤ k → k < i + n → (zI σ (cA σ a k) 5 = if pvX σ a k = -1 then wtX σ a k else 0) ∧ ¬ wtX σ a k ≤ 0) ∧ ¬ al ≤ 0
def swH (σ : AH) (a : Nat) (x y lf al : Int32) : AH := sh3 σ a (pvX σ a) (wtX σ a) (ix x) (ix y - ix x) lf al
theorem s_X7_shareByWeights' {g : GP} {σ : AH} {a : Nat} {x y lf al : Int32} (h : swP σ a x y al) : Ct g mX7_shareByWeights [.ref 9, .ref a, .int x, .int y, .int lf, .int al] σ (FQ (swH σ a x y lf al) none) := by
  obtain ⟨m, i, n, rfl, rfl, h1, h2, h3, h4⟩ := h
  have e1 : ix (nI i) = i := cl0 (by have := h1.2.2.2.1; omega)
  have e2 : ix (nI (i + n)) = i + n := cl0 (by have := h1.2.2.2.1; omega)
  rw [swH, e1, e2, Nat.add_sub_cancel_left]
  exact s_X7_shareByWeights h1 h2 (fun k a b => (h3 k a b).1) (fun k a b => (h3 k a b).2) h4
theorem Sh_sh2 {σ : AH} {a : Nat} {pv wt : Nat → Int32} {i : Nat} {lf al : Int32} (h : Sh σ) : ∀ d, Sh (sh2 σ a pv wt i lf al d)
  | 0 => h
  | d + 1 => by
    have ih := Sh_sh2 (a := a) (pv := pv) (wt := wt) (i := i) (lf := lf) (al := al) h d
    rw [sh2]
    split
    · exact ih
    · exact ih
theorem Sh_sh3 {σ : AH} {a : Nat} {pv wt : Nat → Int32} {i n : Nat} {lf al : Int32} (h : Sh σ) : Sh (sh3 σ a pv wt i n lf al) := by
  rw [sh3]
  split
  · exact Sh_sh2 h n
  · exact Sh_uI (Sh_sh2 h n)
theorem Sh_swH {σ : AH} {a : Nat} {x y lf al : Int32} (h : Sh σ) : Sh (swH σ a x y lf al) := Sh_sh3 h
set_option maxRecDepth 100000 in
set_option maxHeartbeats 4000000 in
theorem b_X7_share_0 {g : GP} {CX : State → Array Value → Prop} {E : ET} {v1 : Nat} {v2 : Int32} {v3 : Int32} {v4 : Int32} {σ : AH}
    (k1 : V g mX7_share E CX 0 0 10 [(0, .ref 9), (1, .ref v1), (2, .int v2), (3, .int v3), (4, .int v4), (5, .ref 4), (6, .int v4), (7, .int (0 : Int32)), (8, .int v2)] [] σ) :
    V g mX7_share E CX 0 0 0 [(0, .ref 9), (1, .ref v1), (2, .int v2), (3, .int v3), (4, .int v4), (5, .ref 4)] [] σ := by
  refine V_iload dX7_share_0 rfl ?_
  refine V_istore [(0, .ref 9), (1, .ref v1), (2, .int v2), (3, .int v3), (4, .int v4), (5, .ref 4), (6, .int v4)] dX7_share_2 rfl rfl ?_
  refine V_iconst (0 : Int32) dX7_share_4 (by decide) ?_
  refine V_istore [(0, .ref 9), (1, .ref v1), (2, .int v2), (3, .int v3), (4, .int v4), (5, .ref 4), (6, .int v4), (7, .int (0 : Int32))] dX7_share_5 rfl rfl ?_
  refine V_iload_n dX7_share_7 rfl ?_
  refine V_istore [(0, .ref 9), (1, .ref v1), (2, .int v2), (3, .int v3), (4, .int v4), (5, .ref 4), (6, .int v4), (7, .int (0 : Int32)), (8, .int v2)] dX7_share_8 rfl rfl ?_
  exact k1
set_option maxRecDepth 100000 in
set_option maxHeartbeats 4000000 in
theorem b_X7_share_10 {g : GP} {CX : State → Array Value → Prop} {Q : AH → Option Value → Prop} {X : AH → String → Prop} {v1 : Nat} {v2 : Int32} {v3 : Int32} {v4 : Int32} {v6 : Int32} {v7 : Int32} {v8 : Int32} {σ : AH}
    (hS : Sh σ)
    (o1 : (v3 ≤ v8) → (0 < v7) → swP σ v1 v2 v3 v7)
    (k1 : (v3 ≤ v8) → (0 < v7) → Q (swH σ v1 v2 v3 v6 v7) (some (.int (0 : Int32))))
    (k2 : (v3 ≤ v8) → (¬ 0 < v7) → Q σ (some (.int v6)))
    (o2 : (¬ v3 ≤ v8) → TX σ v1)
    (o3 : (¬ v3 ≤ v8) → v1 ≠ 0)
    (o4 : (¬ v3 ≤ v8) → zK σ v1 = 9)
    (o5 : (¬ v3 ≤ v8) → (¬ atR (zI σ v1 4) 8 v8 (cA σ v1 (ix v8)) = 0) → zK σ (atR (zI σ v1 4) 8 v8 (cA σ v1 (ix v8))) = 2)
    (k3 : (¬ v3 ≤ v8) → (¬ atR (zI σ v1 4) 8 v8 (cA σ v1 (ix v8)) = 0) → (¬ (pvG σ (zI σ (atR (zI σ v1 4) 8 v8 (cA σ v1 (ix v8))) 4) (zI σ (atR (zI σ v1 4) 8 v8 (cA σ v1 (ix v8))) 0) (zI σ (atR (zI σ v1 4) 8 v8 (cA σ v1 (ix v8))) 1)) = (-1 : Int32)) → V g mX7_share (Em g mX7_share Q X) CX 0 0 10 [(0, .ref 9), (1, .ref v1), (2, .int v2), (3, .int v3), (4, .int v4), (5, .ref 4), (6, .int (v6 - (if v6 < (pvG σ (zI σ (atR (zI σ v1 4) 8 v8 (cA σ v1 (ix v8))) 4) (zI σ (atR (zI σ v1 4) 8 v8 (cA σ v1 (ix v8))) 0) (zI σ (atR (zI σ v1 4) 8 v8 (cA σ v1 (ix v8))) 1)) then v6 else (pvG σ (zI σ (atR (zI σ v1 4) 8 v8 (cA σ v1 (ix v8))) 4) (zI σ (atR (zI σ v1 4) 8 v8 (cA σ v1 (ix v8))) 0) (zI σ (atR (zI σ v1 4) 8 v8 (cA σ v1 (ix v8))) 1))))), (7, .int v7), (8, .int (v8 + (1 : Int32)))] [] (uI σ (atR (zI σ v1 4) 8 v8 (cA σ v1 (ix v8))) 6 (if v6 < (pvG σ (zI σ (atR (zI σ v1 4) 8 v8 (cA σ v1 (ix v8))) 4) (zI σ (atR (zI σ v1 4) 8 v8 (cA σ v1 (ix v8))) 0) (zI σ (atR (zI σ v1 4) 8 v8 (cA σ v1 (ix v8))) 1)) then v6 else (pvG σ (zI σ (atR (zI σ v1 4) 8 v8 (cA σ v1 (ix v8))) 4) (zI σ (atR (zI σ v1 4) 8 v8 (cA σ v1 (ix v8))) 0) (zI σ (atR (zI σ v1 4) 8 v8 (cA σ v1 (ix v8))) 1)))))
    (o6 : (¬ v3 ≤ v8) → (¬ atR (zI σ v1 4) 8 v8 (cA σ v1 (ix v8)) = 0) → ((pvG σ (zI σ (atR (zI σ v1 4) 8 v8 (cA σ v1 (ix v8))) 4) (zI σ (atR (zI σ v1 4) 8 v8 (cA σ v1 (ix v8))) 0) (zI σ (atR (zI σ v1 4) 8 v8 (cA σ v1 (ix v8))) 1)) = (-1 : Int32)) → (atR (zI σ v1 4) 8 v8 (cA σ v1 (ix v8))) ≠ 0)
    (k4 : (¬ v3 ≤ v8) → (¬ atR (zI σ v1 4) 8 v8 (cA σ v1 (ix v8)) = 0) → ((pvG σ (zI σ (atR (zI σ v1 4) 8 v8 (cA σ v1 (ix v8))) 4) (zI σ (atR (zI σ v1 4) 8 v8 (cA σ v1 (ix v8))) 0) (zI σ (atR (zI σ v1 4) 8 v8 (cA σ v1 (ix v8))) 1)) = (-1 : Int32)) → V g mX7_share (Em g mX7_share Q X) CX 0 0 10 [(0, .ref 9), (1, .ref v1), (2, .int v2), (3, .int v3), (4, .int v4), (5, .ref 4), (6, .int v6), (7, .int (v7 + (wtG σ (zI σ (atR (zI σ v1 4) 8 v8 (cA σ v1 (ix v8))) 0) (zI σ (atR (zI σ v1 4) 8 v8 (cA σ v1 (ix v8))) 1)))), (8, .int (v8 + (1 : Int32)))] [] (uI σ (atR (zI σ v1 4) 8 v8 (cA σ v1 (ix v8))) 5 (wtG σ (zI σ (atR (zI σ v1 4) 8 v8 (cA σ v1 (ix v8))) 0) (zI σ (atR (zI σ v1 4) 8 v8 (cA σ v1 (ix v8))) 1))))
    (k5 : (¬ v3 ≤ v8) → (atR (zI σ v1 4) 8 v8 (cA σ v1 (ix v8)) = 0) → V g mX7_share (Em g mX7_share Q X) CX 0 0 10 [(0, .ref 9), (1, .ref v1), (2, .int v2), (3, .int v3), (4, .int v4), (5, .ref 4), (6, .int v6), (7, .int v7), (8, .int (v8 + (1 : Int32)))] [] σ) :
    V g mX7_share (Em g mX7_share Q X) CX 0 0 10 [(0, .ref 9), (1, .ref v1), (2, .int v2), (3, .int v3), (4, .int v4), (5, .ref 4), (6, .int v6), (7, .int v7), (8, .int v8)] [] σ := by
  refine V_iload dX7_share_10 rfl ?_
  refine V_iload_n dX7_share_12 rfl ?_
  refine V_icmp_ge 113 dX7_share_13 rfl (fun c1 => ?_) (fun c1 => ?_)
  · refine V_iload dX7_share_113 rfl ?_
    refine V_if_gt 121 dX7_share_115 rfl (fun c2 => ?_) (fun c2 => ?_)
    · refine V_aload_n dX7_share_121 rfl ?_
      refine V_aload_n dX7_share_122 rfl ?_
      refine V_iload_n dX7_share_123 rfl ?_
      refine V_iload_n dX7_share_124 rfl ?_
      refine V_iload dX7_share_125 rfl ?_
      refine V_iload dX7_share_127 rfl ?_
      refine V_callV0 (as := [.ref v1, .int v2, .int v3, .int v6, .int v7]) (k' := 0) (n' := 0) (s_X7_shareByWeights' (o1 c1 c2)) mw_X7_shareByWeights ko_X7 rfl w_834 w_12 w_832 ar_X7_shareByWeights rfl ⟨rfl, rfl, rfl, rfl, rfl⟩ dX7_share_129 (by decide) (shk hS 9 rfl) ?_
      refine V_iconst (0 : Int32) dX7_share_132 (by decide) ?_
      exact V_iret rfl dX7_share_133 (k1 c1 c2)
    · refine V_iload dX7_share_118 rfl ?_
      exact V_iret rfl dX7_share_120 (k2 c1 c2)
  · refine V_aload_n dX7_share_16 rfl ?_
    refine V_iload dX7_share_17 rfl ?_
    refine V_callV1 (as := [.int v8]) (k' := 0) (n' := 0) (s_X9_couponAt (o2 c1)) mw_X9_couponAt ko_X9 rfl w_411 w_412 w_823 ar_X9_couponAt rfl ⟨rfl, rfl, rfl, rfl, rfl⟩ dX7_share_19 (o3 c1) (o4 c1) ?_
    refine V_astore [(0, .ref 9), (1, .ref v1), (2, .int v2), (3, .int v3), (4, .int v4), (5, .ref 4), (6, .int v6), (7, .int v7), (8, .int v8), (9, .ref (atR (zI σ v1 4) 8 v8 (cA σ v1 (ix v8))))] dX7_share_22 rfl rfl ?_
    refine V_aload dX7_share_24 rfl ?_
    refine V_ifnonnull 32 dX7_share_26 rfl (fun c3 => ?_) (fun c3 => ?_)
    · refine V_aload_n dX7_share_32 rfl ?_
      refine V_aload dX7_share_33 rfl ?_
      refine V_getf (fk := 4) (Value.int (zI σ (atR (zI σ v1 4) 8 v8 (cA σ v1 (ix v8))) 4)) ko_X2 rfl w_781 dX7_share_35 c3 (o5 c1 c3) rfl ?_
      refine V_aload dX7_share_38 rfl ?_
      refine V_getf (fk := 0) (Value.int (zI σ (atR (zI σ v1 4) 8 v8 (cA σ v1 (ix v8))) 0)) ko_X2 rfl w_771 dX7_share_40 c3 (o5 c1 c3) rfl ?_
      refine V_aload dX7_share_43 rfl ?_
      refine V_getf (fk := 1) (Value.int (zI σ (atR (zI σ v1 4) 8 v8 (cA σ v1 (ix v8))) 1)) ko_X2 rfl w_774 dX7_share_45 c3 (o5 c1 c3) rfl ?_
      refine V_callV1 (as := [.int (zI σ (atR (zI σ v1 4) 8 v8 (cA σ v1 (ix v8))) 4), .int (zI σ (atR (zI σ v1 4) 8 v8 (cA σ v1 (ix v8))) 0), .int (zI σ (atR (zI σ v1 4) 8 v8 (cA σ v1 (ix v8))) 1)]) (k' := 0) (n' := 0) (s_X7_provisoOf hS) mw_X7_provisoOf ko_X7 rfl w_555 w_2 w_553 ar_X7_provisoOf rfl ⟨rfl, rfl, rfl, rfl, rfl⟩ dX7_share_48 (by decide) (shk hS 9 rfl) ?_
      refine V_istore [(0, .ref 9), (1, .ref v1), (2, .int v2), (3, .int v3), (4, .int v4), (5, .ref 4), (6, .int v6), (7, .int v7), (8, .int v8), (9, .ref (atR (zI σ v1 4) 8 v8 (cA σ v1 (ix v8)))), (10, .int (pvG σ (zI σ (atR (zI σ v1 4) 8 v8 (cA σ v1 (ix v8))) 4) (zI σ (atR (zI σ v1 4) 8 v8 (cA σ v1 (ix v8))) 0) (zI σ (atR (zI σ v1 4) 8 v8 (cA σ v1 (ix v8))) 1)))] dX7_share_51 rfl rfl ?_
      refine V_iload dX7_share_53 rfl ?_
      refine V_iconst (-1 : Int32) dX7_share_55 (by decide) ?_
      refine V_icmp_ne 85 dX7_share_56 rfl (fun c4 => ?_) (fun c4 => ?_)
      · refine V_aload dX7_share_85 rfl ?_
        refine V_iload dX7_share_87 rfl ?_
        refine V_iload dX7_share_89 rfl ?_
        refine V_min w_829 w_830 w_36 w_831 dX7_share_91 rfl rfl ?_
        refine V_puti (fk := 6) ko_X2 rfl w_784 (Or.inl rfl) dX7_share_94 rfl c3 (o5 c1 c3) ?_
        refine V_iload dX7_share_97 rfl ?_
        refine V_aload dX7_share_99 rfl ?_
        refine V_getf (fk := 6) (Value.int (if v6 < (pvG σ (zI σ (atR (zI σ v1 4) 8 v8 (cA σ v1 (ix v8))) 4) (zI σ (atR (zI σ v1 4) 8 v8 (cA σ v1 (ix v8))) 0) (zI σ (atR (zI σ v1 4) 8 v8 (cA σ v1 (ix v8))) 1)) then v6 else (pvG σ (zI σ (atR (zI σ v1 4) 8 v8 (cA σ v1 (ix v8))) 4) (zI σ (atR (zI σ v1 4) 8 v8 (cA σ v1 (ix v8))) 0) (zI σ (atR (zI σ v1 4) 8 v8 (cA σ v1 (ix v8))) 1)))) ko_X2 rfl w_784 dX7_share_101 c3 (o5 c1 c3) (congrArg Value.int (zI_self _ _ _ _)) ?_
        refine V_isub dX7_share_104 ?_
        refine V_istore [(0, .ref 9), (1, .ref v1), (2, .int v2), (3, .int v3), (4, .int v4), (5, .ref 4), (6, .int (v6 - (if v6 < (pvG σ (zI σ (atR (zI σ v1 4) 8 v8 (cA σ v1 (ix v8))) 4) (zI σ (atR (zI σ v1 4) 8 v8 (cA σ v1 (ix v8))) 0) (zI σ (atR (zI σ v1 4) 8 v8 (cA σ v1 (ix v8))) 1)) then v6 else (pvG σ (zI σ (atR (zI σ v1 4) 8 v8 (cA σ v1 (ix v8))) 4) (zI σ (atR (zI σ v1 4) 8 v8 (cA σ v1 (ix v8))) 0) (zI σ (atR (zI σ v1 4) 8 v8 (cA σ v1 (ix v8))) 1))))), (7, .int v7), (8, .int v8), (9, .ref (atR (zI σ v1 4) 8 v8 (cA σ v1 (ix v8)))), (10, .int (pvG σ (zI σ (atR (zI σ v1 4) 8 v8 (cA σ v1 (ix v8))) 4) (zI σ (atR (zI σ v1 4) 8 v8 (cA σ v1 (ix v8))) 0) (zI σ (atR (zI σ v1 4) 8 v8 (cA σ v1 (ix v8))) 1)))] dX7_share_105 rfl rfl ?_
        refine V_iinc (v8 + (1 : Int32)) [(0, .ref 9), (1, .ref v1), (2, .int v2), (3, .int v3), (4, .int v4), (5, .ref 4), (6, .int (v6 - (if v6 < (pvG σ (zI σ (atR (zI σ v1 4) 8 v8 (cA σ v1 (ix v8))) 4) (zI σ (atR (zI σ v1 4) 8 v8 (cA σ v1 (ix v8))) 0) (zI σ (atR (zI σ v1 4) 8 v8 (cA σ v1 (ix v8))) 1)) then v6 else (pvG σ (zI σ (atR (zI σ v1 4) 8 v8 (cA σ v1 (ix v8))) 4) (zI σ (atR (zI σ v1 4) 8 v8 (cA σ v1 (ix v8))) 0) (zI σ (atR (zI σ v1 4) 8 v8 (cA σ v1 (ix v8))) 1))))), (7, .int v7), (8, .int (v8 + (1 : Int32))), (9, .ref (atR (zI σ v1 4) 8 v8 (cA σ v1 (ix v8)))), (10, .int (pvG σ (zI σ (atR (zI σ v1 4) 8 v8 (cA σ v1 (ix v8))) 4) (zI σ (atR (zI σ v1 4) 8 v8 (cA σ v1 (ix v8))) 0) (zI σ (atR (zI σ v1 4) 8 v8 (cA σ v1 (ix v8))) 1)))] dX7_share_107 rfl rfl rfl rfl ?_
        refine V_goto 10 dX7_share_110 rfl ?_
        exact V_less (mm_keep (mm_keep (mm_keep (mm_keep (mm_keep (mm_keep (mm_keep (mm_keep (mm_keep (mm_drop (mm_drop mm_nil))))))))))) (by decide) (by decide) (k3 c1 c3 c4)
      · refine V_aload dX7_share_59 rfl ?_
        refine V_aload_n dX7_share_61 rfl ?_
        refine V_aload dX7_share_62 rfl ?_
        refine V_aload dX7_share_64 rfl ?_
        refine V_callV1 (as := [.ref (atR (zI σ v1 4) 8 v8 (cA σ v1 (ix v8))), .ref 4]) (k' := 0) (n' := 0) (s_X7_weightOf hS (o6 c1 c3 c4) (o5 c1 c3)) mw_X7_weightOf ko_X7 rfl w_826 w_11 w_824 ar_X7_weightOf rfl ⟨rfl, rfl, rfl, rfl, rfl⟩ dX7_share_66 (by decide) (shk hS 9 rfl) ?_
        refine V_puti (fk := 5) ko_X2 rfl w_783 (Or.inl rfl) dX7_share_69 rfl c3 (o5 c1 c3) ?_
        refine V_iload dX7_share_72 rfl ?_
        refine V_aload dX7_share_74 rfl ?_
        refine V_getf (fk := 5) (Value.int (wtG σ (zI σ (atR (zI σ v1 4) 8 v8 (cA σ v1 (ix v8))) 0) (zI σ (atR (zI σ v1 4) 8 v8 (cA σ v1 (ix v8))) 1))) ko_X2 rfl w_783 dX7_share_76 c3 (o5 c1 c3) (congrArg Value.int (zI_self _ _ _ _)) ?_
        refine V_iadd dX7_share_79 ?_
        refine V_istore [(0, .ref 9), (1, .ref v1), (2, .int v2), (3, .int v3), (4, .int v4), (5, .ref 4), (6, .int v6), (7, .int (v7 + (wtG σ (zI σ (atR (zI σ v1 4) 8 v8 (cA σ v1 (ix v8))) 0) (zI σ (atR (zI σ v1 4) 8 v8 (cA σ v1 (ix v8))) 1)))), (8, .int v8), (9, .ref (atR (zI σ v1 4) 8 v8 (cA σ v1 (ix v8)))), (10, .int (pvG σ (zI σ (atR (zI σ v1 4) 8 v8 (cA σ v1 (ix v8))) 4) (zI σ (atR (zI σ v1 4) 8 v8 (cA σ v1 (ix v8))) 0) (zI σ (atR (zI σ v1 4) 8 v8 (cA σ v1 (ix v8))) 1)))] dX7_share_80 rfl rfl ?_
        refine V_goto 107 dX7_share_82 rfl ?_
        refine V_iinc (v8 + (1 : Int32)) [(0, .ref 9), (1, .ref v1), (2, .int v2), (3, .int v3), (4, .int v4), (5, .ref 4), (6, .int v6), (7, .int (v7 + (wtG σ (zI σ (atR (zI σ v1 4) 8 v8 (cA σ v1 (ix v8))) 0) (zI σ (atR (zI σ v1 4) 8 v8 (cA σ v1 (ix v8))) 1)))), (8, .int (v8 + (1 : Int32))), (9, .ref (atR (zI σ v1 4) 8 v8 (cA σ v1 (ix v8)))), (10, .int (pvG σ (zI σ (atR (zI σ v1 4) 8 v8 (cA σ v1 (ix v8))) 4) (zI σ (atR (zI σ v1 4) 8 v8 (cA σ v1 (ix v8))) 0) (zI σ (atR (zI σ v1 4) 8 v8 (cA σ v1 (ix v8))) 1)))] dX7_share_107 rfl rfl rfl rfl ?_
        refine V_goto 10 dX7_share_110 rfl ?_
        exact V_less (mm_keep (mm_keep (mm_keep (mm_keep (mm_keep (mm_keep (mm_keep (mm_keep (mm_keep (mm_drop (mm_drop mm_nil))))))))))) (by decide) (by decide) (k4 c1 c3 c4)
    · refine V_goto 107 dX7_share_29 rfl ?_
      refine V_iinc (v8 + (1 : Int32)) [(0, .ref 9), (1, .ref v1), (2, .int v2), (3, .int v3), (4, .int v4), (5, .ref 4), (6, .int v6), (7, .int v7), (8, .int (v8 + (1 : Int32))), (9, .ref (atR (zI σ v1 4) 8 v8 (cA σ v1 (ix v8))))] dX7_share_107 rfl rfl rfl rfl ?_
      refine V_goto 10 dX7_share_110 rfl ?_
      exact V_less (mm_keep (mm_keep (mm_keep (mm_keep (mm_keep (mm_keep (mm_keep (mm_keep (mm_keep (mm_drop mm_nil)))))))))) (by decide) (by decide) (k5 c1 c3)

/-- provisos and weights noted, behind d coupons from the i-th on -/
def sh1 (σ : AH) (a : Nat) (pv wt : Nat → Int32) (i : Nat) (c : Int32) : Nat → AH
  | 0 => σ
  | d + 1 => if pv (i + d) = -1 then uI (sh1 σ a pv wt i c d) (cA σ a (i + d)) 5 (wt (i + d)) else uI (sh1 σ a pv wt i c d) (cA σ a (i + d)) 6 (muS pv i c d)
theorem sh1_N {σ : AH} {a : Nat} {pv wt : Nat → Int32} {i : Nat} {c : Int32} : ∀ d, zN (sh1 σ a pv wt i c d) = zN σ ∧ zK (sh1 σ a pv wt i c d) = zK σ ∧ zL (sh1 σ a pv wt i c d) = zL σ ∧ zJ (sh1 σ a pv wt i c d) = zJ σ ∧ zR (sh1 σ a pv wt i c d) = zR σ
  | 0 => ⟨rfl, rfl, rfl, rfl, rfl⟩
  | d + 1 => by
    have ih := sh1_N (σ := σ) (a := a) (pv := pv) (wt := wt) (i := i) (c := c) d
    rw [sh1]
    split
    · exact ih
    · exact ih
theorem sh1_o {σ : AH} {a : Nat} {pv wt : Nat → Int32} {i : Nat} {c : Int32} {b j : Nat} : ∀ d, (j = 5 ∨ j = 6 → ∀ k, k < d → b ≠ cA σ a (i + k)) → zI (sh1 σ a pv wt i c d) b j = zI σ b j
  | 0, _ => rfl
  | d + 1, h => by
    have ih := sh1_o (σ := σ) (a := a) (pv := pv) (wt := wt) (i := i) (c := c) (b := b) (j := j) d (fun h7 k hk => h h7 k (by omega))
    rw [sh1]
    split
    · rw [zI_uI, if_neg (fun q => h (Or.inl q.2) d (by omega) q.1)]; exact ih
    · rw [zI_uI, if_neg (fun q => h (Or.inr q.2) d (by omega) q.1)]; exact ih
theorem sh1_5 {σ : AH} {a n : Nat} {pv wt : Nat → Int32} {i : Nat} {c : Int32} (hD : CD σ a n) {k : Nat} : ∀ d, k < d → i + d ≤ n → zI (sh1 σ a pv wt i c d) (cA σ a (i + k)) 5 = if pv (i + k) = -1 then wt (i + k) else zI σ (cA σ a (i + k)) 5
  | 0, h, _ => by omega
  | d + 1, h, hn => by
    rw [sh1]
    by_cases e : k = d
    · subst e
      have ho : zI (sh1 σ a pv wt i c k) (cA σ a (i + k)) 5 = zI σ (cA σ a (i + k)) 5 := sh1_o k (fun _ j hj q => by
        have := hD.2 _ _ (by omega) (by omega) q
        omega)
      split
      · rw [zI_uI, if_pos ⟨rfl, rfl⟩]
      · rw [zI_uI, if_neg (fun q => absurd q.2 (by decide))]; exact ho
    · have ih := sh1_5 (i := i) (pv := pv) (wt := wt) (c := c) hD (k := k) d (by omega) (by omega)
      split
      · rw [zI_uI, if_neg (fun q => by have := hD.2 _ _ (by omega) (by omega) q.1; omega)]; exact ih
      · rw [zI_uI, if_neg (fun q => absurd q.2 (by decide))]; exact ih
theorem sh1_6 {σ : AH} {a n : Nat} {pv wt : Nat → Int32} {i : Nat} {c : Int32} (hD : CD σ a n) {k : Nat} : ∀ d, k < d → i + d ≤ n → zI (sh1 σ a pv wt i c d) (cA σ a (i + k)) 6 = if pv (i + k) = -1 then zI σ (cA σ a (i + k)) 6 else muS pv i c k
  | 0, h, _ => by omega
  | d + 1, h, hn => by
    rw [sh1]
    by_cases e : k = d
    · subst e
      have ho : zI (sh1 σ a pv wt i c k) (cA σ a (i + k)) 6 = zI σ (cA σ a (i + k)) 6 := sh1_o k (fun _ j hj q => by
        have := hD.2 _ _ (by omega) (by omega) q
        omega)
      split
      · rw [zI_uI, if_neg (fun q => absurd q.2 (by decide))]; exact ho
      · rw [zI_uI, if_pos ⟨rfl, rfl⟩]
    · have ih := sh1_6 (i := i) (pv := pv) (wt := wt) (c := c) hD (k := k) d (by omega) (by omega)
      split
      · rw [zI_uI, if_neg (fun q => absurd q.2 (by decide))]; exact ih
      · rw [zI_uI, if_neg (fun q => by have := hD.2 _ _ (by omega) (by omega) q.1; omega)]; exact ih
theorem alS_bt {pv wt : Nat → Int32} {i : Nat} : ∀ n, i + n ≤ 8 → (∀ k, i ≤ k → k < i + n → bt (wt k) 1 9999) → bt (alS pv wt i n) 0 (9999 * (n : Int)) ∧ (alS pv wt i n ≤ 0 ↔ otS pv i n = -1)
  | 0, _, _ => ⟨⟨(by decide : (0 : Int) ≤ (0 : Int32).toInt), (by decide : (0 : Int32).toInt ≤ 9999 * ((0 : Nat) : Int))⟩, ⟨fun _ => rfl, fun _ => (by decide : (0 : Int32) ≤ 0)⟩⟩
  | n + 1, hn, h => by
    have ⟨ih1, ih2⟩ := alS_bt (pv := pv) (wt := wt) (i := i) n (by omega) (fun k a b => h k a (by omega))
    have b1 := ih1.1; have b2 := ih1.2
    rw [alS, otS]
    by_cases q : pv (i + n) = -1
    · rw [if_pos q, if_pos q]
      have hb := h (i + n) (by omega) (by omega)
      have b3 := hb.1; have b4 := hb.2
      have e := add_toInt (m := 9999 * (n : Int)) (n := 9999) ih1 ⟨by omega, b4⟩ (by omega)
      refine ⟨⟨by rw [e]; omega, by rw [e]; push_cast; omega⟩, ?_⟩
      constructor
      · intro z
        rw [Int32.le_iff_toInt_le, e] at z
        change _ ≤ (0 : Int) at z
        omega
      · intro z
        have := congrArg Int32.toInt z
        rw [nI_toInt (by omega)] at this
        change ((i + n : Nat) : Int) = -1 at this
        omega
    · rw [if_neg q, if_neg q, show alS pv wt i n + 0 = alS pv wt i n by simp]
      exact ⟨⟨b1, by push_cast; omega⟩, ih2⟩
theorem Sh_sh1 {σ : AH} {a : Nat} {pv wt : Nat → Int32} {i : Nat} {c : Int32} (h : Sh σ) : ∀ d, Sh (sh1 σ a pv wt i c d)
  | 0 => h
  | d + 1 => by
    have ih := Sh_sh1 (a := a) (pv := pv) (wt := wt) (i := i) (c := c) h d
    rw [sh1]
    split
    · exact ih
    · exact ih
/-- the heap when a part is shared -/
def sh4 (σ : AH) (a : Nat) (pv wt : Nat → Int32) (i n : Nat) (c : Int32) : AH :=
  if otS pv i n = -1 then sh1 σ a pv wt i c n else sh3 (sh1 σ a pv wt i c n) a pv wt i n (lfS pv i c n) (alS pv wt i n)
theorem i_min {x y : Int32} : (if y < x then y else x) = if y ≤ x then y else x := by
  by_cases h : y < x
  · rw [if_pos h, if_pos (Int32.le_of_lt h)]
  · rw [if_neg h]
    split
    · rename_i h2
      exact Int32.le_antisymm (Int32.not_lt.mp h) h2
    · rfl
/-- what is asked of a part of a ticket ahead of its sharing -/
def shP (σ : AH) (a m i n : Nat) : Prop := TS σ a m ∧ CD σ a m ∧ i + n ≤ m ∧ ∀ k, i ≤ k → k < i + n → bt (wtX σ a k) 1 9999 ∧ zI σ (cA σ a k) 5 = 0
theorem X_sh1 {σ : AH} {a m i n : Nat} {pv wt : Nat → Int32} {c : Int32} (hD : CD σ a m) (d : Nat) (hd : i + d ≤ m) (k : Nat) : pvX (sh1 σ a pv wt i c d) a k = pvX σ a k ∧ wtX (sh1 σ a pv wt i c d) a k = wtX σ a k := by
  have e : ∀ b j, b ≤ 72 ∨ (j ≠ 5 ∧ j ≠ 6) → zI (sh1 σ a pv wt i c d) b j = zI σ b j := fun b j h => sh1_o d (fun q k hk z => by
    have := hD.1 (i + k) (by omega)
    omega)
  have eA : ∀ k, cA (sh1 σ a pv wt i c d) a k = cA σ a k := fun k => by rw [cA, (sh1_N d).2.2.2.2]
  constructor
  · rw [pvX, pvX, eA, e _ 4 (Or.inr (by decide)), e _ 0 (Or.inr (by decide)), e _ 1 (Or.inr (by decide)), pvG, pvG, e 12 _ (Or.inl (by decide))]
  · rw [wtX, wtX, eA, e _ 0 (Or.inr (by decide)), e _ 1 (Or.inr (by decide)), wtG, wtG, prG, prG, prG, prG, e _ _ (Or.inl (by decide)), e _ _ (Or.inl (by decide))]
theorem s_X7_share {g : GP} {σ : AH} {a m i n : Nat} {c : Int32} (hS : Sh σ) (hP : shP σ a m i n) :
    Ct g mX7_share [.ref 9, .ref a, .int (nI i), .int (nI (i + n)), .int c, .ref 4] σ (FQ (sh4 σ a (pvX σ a) (wtX σ a) i n c) (some (.int (unS (pvX σ a) i n c)))) := by
  obtain ⟨hT, hD, hin, hw⟩ := hP
  have hm8 := hT.2.2.2.1
  have hX := fun d hd => X_sh1 (n := n) (pv := pvX σ a) (wt := wtX σ a) (c := c) hD (i := i) d hd
  have hal := alS_bt (pv := pvX σ a) (wt := wtX σ a) (i := i) n (by omega) (fun k h1 h2 => (hw k h1 h2).1)
  have hwt := fun k (h1 : i ≤ k) (h2 : k < i + n) => (hw k h1 h2).1.1
  have e5 : ∀ k, k < n → zI (sh1 σ a (pvX σ a) (wtX σ a) i c n) (cA σ a (i + k)) 5 = if pvX σ a (i + k) = -1 then wtX σ a (i + k) else 0 := fun k hk => by
    rw [sh1_5 hD n hk hin, (hw (i + k) (by omega) (by omega)).2]
  unfold pvX at hX
  unfold wtX at hX
  have hTd : ∀ d, TS (sh1 σ a (pvX σ a) (wtX σ a) i c d) a m := fun d => by
    obtain ⟨e1, e2, e3, e4, e5⟩ := sh1_N (σ := σ) (a := a) (pv := pvX σ a) (wt := wtX σ a) (i := i) (c := c) d
    exact TS_ag (sh1_o d (fun q => absurd q (by decide))) e2 e3 e5 hT
  have hcA : ∀ d k, cA (sh1 σ a (pvX σ a) (wtX σ a) i c d) a k = cA σ a k := fun d k => by rw [cA, (sh1_N d).2.2.2.2]
  have hK : ∀ d k, k < m → zK (sh1 σ a (pvX σ a) (wtX σ a) i c d) (cA σ a k) = 2 := fun d k hk => by rw [(sh1_N d).2.1]; exact (hT.2.2.2.2.2 k hk).2
  refine Ct_of (by decide +kernel) rfl rfl (b_X7_share_0 ?_)
  refine up_loop (P := fun d => V g mX7_share (Em g mX7_share (FQ (sh4 σ a (pvX σ a) (wtX σ a) i n c) (some (.int (unS (pvX σ a) i n c)))) NX) CT 0 0 10 [(0, .ref 9), (1, .ref a), (2, .int (nI i)), (3, .int (nI (i + n))), (4, .int c), (5, .ref 4), (6, .int (lfS (pvX σ a) i c d)), (7, .int (alS (pvX σ a) (wtX σ a) i d)), (8, .int (nI (i + d)))] [] (sh1 σ a (pvX σ a) (wtX σ a) i c d)) n ?_ ?_ 0 (Nat.zero_le _)
  · have hle : nI (i + n) ≤ nI (i + n) := Int32.le_refl _
    have hX' := X_sh1 (n := n) (pv := pvX σ a) (wt := wtX σ a) (c := c) hD (i := i) n hin
    refine b_X7_share_10 (σ := sh1 σ a (pvX σ a) (wtX σ a) i c n) (Sh_sh1 hS n) (fun _ q => ?_) (fun _ q => ?_) (fun _ q => ⟨?_, ?_⟩) (fun c => absurd hle c) (fun c => absurd hle c) (fun c => absurd hle c) (fun c => absurd hle c) (fun c => absurd hle c) (fun c => absurd hle c) (fun c => absurd hle c) (fun c => absurd hle c)
    · refine ⟨m, i, n, rfl, rfl, hTd n, hin, fun k h1 h2 => ?_, Int32.not_le.mpr q⟩
      rw [(hX' k).1, (hX' k).2, hcA]
      obtain ⟨d, rfl⟩ : ∃ d, k = i + d := ⟨k - i, by omega⟩
      refine ⟨e5 d (by omega), fun z => ?_⟩
      rw [Int32.le_iff_toInt_le] at z
      change _ ≤ (0 : Int) at z
      have := hwt _ h1 h2
      omega
    · have no : ¬ otS (pvX σ a) i n = -1 := fun z => (Int32.not_le.mpr q) (hal.2.mpr z)
      have e1 : ix (nI i) = i := cl0 (by omega)
      have e2 : ix (nI (i + n)) = i + n := cl0 (by omega)
      refine ⟨?_, by rw [unS, if_neg no]⟩
      rw [sh4, if_neg no, swH, e1, e2, Nat.add_sub_cancel_left, show pvX (sh1 σ a (pvX σ a) (wtX σ a) i c n) a = pvX σ a from funext fun k => (hX' k).1, show wtX (sh1 σ a (pvX σ a) (wtX σ a) i c n) a = wtX σ a from funext fun k => (hX' k).2]
    · have no : otS (pvX σ a) i n = -1 := hal.2.mp (Int32.not_lt.mp q)
      rw [sh4, if_pos no]
    · have no : otS (pvX σ a) i n = -1 := hal.2.mp (Int32.not_lt.mp q)
      rw [unS, if_pos no]
  · intro d hd ih
    have hlt : ¬ nI (i + n) ≤ nI (i + d) := nI_ge (by omega) (by omega)
    have e := (TS_at (hTd d) (k := i + d) (by omega)).trans (hcA d (i + d))
    have hXd := X_sh1 (n := n) (pv := pvX σ a) (wt := wtX σ a) (c := c) hD (i := i) d (by omega) (i + d)
    rw [pvX, wtX, hcA] at hXd
    rw [show i + (d + 1) = (i + d) + 1 from rfl, ← nI_1] at ih
    refine b_X7_share_10 (σ := sh1 σ a (pvX σ a) (wtX σ a) i c d) (Sh_sh1 hS d) (fun c => absurd c hlt) (fun c => absurd c hlt) (fun c => absurd c hlt) (fun _ => ⟨m, hTd d⟩) (fun _ => (hTd d).1) (fun _ => (hTd d).2.1) (fun _ _ => ?_) (fun _ _ c1 => ?_) (fun _ c _ => c) (fun _ _ c1 => ?_) (fun _ c => ?_)
    · rw [e]; exact hK d (i + d) (by omega)
    · rw [e, hXd.1] at c1 ⊢
      rw [lfS, alS, sh1, if_neg c1, if_neg c1, if_neg c1] at ih
      rw [i_min]
      rw [muS, if_neg c1] at ih
      refine V_cast ?_ rfl rfl ih
      rw [show alS (pvX σ a) (wtX σ a) i d + 0 = alS (pvX σ a) (wtX σ a) i d by simp]
    · rw [e, hXd.1] at c1
      rw [e, hXd.2]
      rw [lfS, alS, sh1, if_pos c1, if_pos c1, if_pos c1] at ih
      refine V_cast ?_ rfl rfl ih
      rw [show lfS (pvX σ a) i c d - 0 = lfS (pvX σ a) i c d by simp]
    · rw [e] at c
      exact absurd c (hT.2.2.2.2.2 (i + d) (by omega)).1
