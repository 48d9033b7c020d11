/-! ===== the reference: ways ===== -/
theorem bit_t {set k : Nat} (hs : set < 2 ^ 30) (hk : k < 32) : ((nI set >>> (nI k &&& 31)) &&& 1 = 1) ↔ set.testBit k = true := by
  have h1 : nI set >>> (nI k &&& 31) = nI (set / 2 ^ k) := by
    have hm : ((nI k &&& 31).toBitVec.smod 32).toNat = k := by
      have : ∀ n, n < 32 → ((nI n &&& 31).toBitVec.smod 32).toNat = n := by decide +kernel
      exact this k hk
    exact pk_shrN (by omega) _ k hm
  rw [h1]
  have h2 : nI (set / 2 ^ k) &&& 1 = nI (set / 2 ^ k % 2) := by
    have := pk_andN (n := set / 2 ^ k) (by have := Nat.div_le_self set (2 ^ k); omega) (m := 1) 1 (by decide)
    simpa using this
  rw [h2]
  have h3 : set / 2 ^ k % 2 < 2 := Nat.mod_lt _ (by decide)
  rw [Nat.testBit_eq_decide_div_mod_eq]
  have h4 : nI (set / 2 ^ k % 2) = 1 ↔ set / 2 ^ k % 2 = 1 := by
    rw [show (1 : Int32) = nI 1 from rfl]
    exact nI_eq (by omega) (by decide)
  rw [h4]
  simp
/-- the sum of a set's parts, and where the part under way begins, behind the point k -/
def sumSt (P : Nat → Nat → Int32) (set L : Nat) : Nat → Int32 × Nat
  | 0 => (0, 0)
  | k + 1 =>
    if (sumSt P set L k).1 = -1 then sumSt P set L k
    else if k + 1 = L ∨ set.testBit (k + 1) = true then
      (if 0 ≤ P (sumSt P set L k).2 (k + 1) then (sumSt P set L k).1 + P (sumSt P set L k).2 (k + 1) else -1, k + 1)
    else sumSt P set L k
theorem sumSt_stuck {P : Nat → Nat → Int32} {set L k : Nat} (h : (sumSt P set L k).1 = -1) : ∀ d, (sumSt P set L (k + d)).1 = -1
  | 0 => h
  | d + 1 => by
    have ih := sumSt_stuck h d
    rw [show k + (d + 1) = (k + d) + 1 from rfl, sumSt, if_pos ih]
    exact ih
theorem sumSt_le {P : Nat → Nat → Int32} {set L : Nat} : ∀ k, (sumSt P set L k).2 ≤ k
  | 0 => Nat.le_refl _
  | k + 1 => by
    have ih := sumSt_le (P := P) (set := set) (L := L) k
    rw [sumSt]
    split
    · omega
    · split
      · exact Nat.le_refl _
      · omega
set_option maxRecDepth 100000 in
set_option maxHeartbeats 4000000 in
theorem b_X12_sumOf_0 {g : GP} {CX : State → Array Value → Prop} {E : ET} {v1 : Int32} {σ : AH}
    (k1 : V g mX12_sumOf E CX 0 0 7 [(0, .ref 33), (1, .int v1), (2, .int (0 : Int32)), (3, .int (0 : Int32)), (4, .int (1 : Int32))] [] σ) :
    V g mX12_sumOf E CX 0 0 0 [(0, .ref 33), (1, .int v1)] [] σ := by
  refine V_iconst (0 : Int32) dX12_sumOf_0 (by decide) ?_
  refine V_istore_n [(0, .ref 33), (1, .int v1), (2, .int (0 : Int32))] dX12_sumOf_1 rfl rfl ?_
  refine V_iconst (0 : Int32) dX12_sumOf_2 (by decide) ?_
  refine V_istore_n [(0, .ref 33), (1, .int v1), (2, .int (0 : Int32)), (3, .int (0 : Int32))] dX12_sumOf_3 rfl rfl ?_
  refine V_iconst (1 : Int32) dX12_sumOf_4 (by decide) ?_
  refine V_istore [(0, .ref 33), (1, .int v1), (2, .int (0 : Int32)), (3, .int (0 : Int32)), (4, .int (1 : Int32))] dX12_sumOf_5 rfl rfl ?_
  exact k1
set_option maxRecDepth 100000 in
set_option maxHeartbeats 4000000 in
theorem b_X12_sumOf_7 {g : GP} {CX : State → Array Value → Prop} {Q : AH → Option Value → Prop} {X : AH → String → Prop} {v1 : Int32} {v2 : Int32} {v3 : Int32} {v4 : Int32} {σ : AH}
    (hS : Sh σ)
    (k1 : ((zI σ 33 16) < v4) → Q σ (some (.int v2)))
    (k2 : (¬ (zI σ 33 16) < v4) → (v2 = (-1 : Int32)) → Q σ (some (.int v2)))
    (o1 : (¬ (zI σ 33 16) < v4) → (¬ v2 = (-1 : Int32)) → (v4 = (zI σ 33 16)) → PO σ)
    (o2 : (¬ (zI σ 33 16) < v4) → (¬ v2 = (-1 : Int32)) → (v4 = (zI σ 33 16)) → vp_in v3 9)
    (o3 : (¬ (zI σ 33 16) < v4) → (¬ v2 = (-1 : Int32)) → (v4 = (zI σ 33 16)) → vp_in v4 9)
    (k3 : (¬ (zI σ 33 16) < v4) → (¬ v2 = (-1 : Int32)) → (v4 = (zI σ 33 16)) → (0 ≤ (partF σ (Int32.toNatClampNeg v3) (Int32.toNatClampNeg v4))) → V g mX12_sumOf (Em g mX12_sumOf Q X) CX 0 0 7 [(0, .ref 33), (1, .int v1), (2, .int (v2 + (partF σ (Int32.toNatClampNeg v3) (Int32.toNatClampNeg v4)))), (3, .int v4), (4, .int (v4 + (1 : Int32)))] [] σ)
    (k4 : (¬ (zI σ 33 16) < v4) → (¬ v2 = (-1 : Int32)) → (v4 = (zI σ 33 16)) → (¬ 0 ≤ (partF σ (Int32.toNatClampNeg v3) (Int32.toNatClampNeg v4))) → V g mX12_sumOf (Em g mX12_sumOf Q X) CX 0 0 7 [(0, .ref 33), (1, .int v1), (2, .int (-1 : Int32)), (3, .int v4), (4, .int (v4 + (1 : Int32)))] [] σ)
    (k5 : (¬ (zI σ 33 16) < v4) → (¬ v2 = (-1 : Int32)) → (¬ v4 = (zI σ 33 16)) → (¬ ((v1 >>> (v4 &&& 31)) &&& (1 : Int32)) = (1 : Int32)) → V g mX12_sumOf (Em g mX12_sumOf Q X) CX 0 0 7 [(0, .ref 33), (1, .int v1), (2, .int v2), (3, .int v3), (4, .int (v4 + (1 : Int32)))] [] σ)
    (o4 : (¬ (zI σ 33 16) < v4) → (¬ v2 = (-1 : Int32)) → (¬ v4 = (zI σ 33 16)) → (((v1 >>> (v4 &&& 31)) &&& (1 : Int32)) = (1 : Int32)) → PO σ)
    (o5 : (¬ (zI σ 33 16) < v4) → (¬ v2 = (-1 : Int32)) → (¬ v4 = (zI σ 33 16)) → (((v1 >>> (v4 &&& 31)) &&& (1 : Int32)) = (1 : Int32)) → vp_in v3 9)
    (o6 : (¬ (zI σ 33 16) < v4) → (¬ v2 = (-1 : Int32)) → (¬ v4 = (zI σ 33 16)) → (((v1 >>> (v4 &&& 31)) &&& (1 : Int32)) = (1 : Int32)) → vp_in v4 9)
    (k6 : (¬ (zI σ 33 16) < v4) → (¬ v2 = (-1 : Int32)) → (¬ v4 = (zI σ 33 16)) → (((v1 >>> (v4 &&& 31)) &&& (1 : Int32)) = (1 : Int32)) → (0 ≤ (partF σ (Int32.toNatClampNeg v3) (Int32.toNatClampNeg v4))) → V g mX12_sumOf (Em g mX12_sumOf Q X) CX 0 0 7 [(0, .ref 33), (1, .int v1), (2, .int (v2 + (partF σ (Int32.toNatClampNeg v3) (Int32.toNatClampNeg v4)))), (3, .int v4), (4, .int (v4 + (1 : Int32)))] [] σ)
    (k7 : (¬ (zI σ 33 16) < v4) → (¬ v2 = (-1 : Int32)) → (¬ v4 = (zI σ 33 16)) → (((v1 >>> (v4 &&& 31)) &&& (1 : Int32)) = (1 : Int32)) → (¬ 0 ≤ (partF σ (Int32.toNatClampNeg v3) (Int32.toNatClampNeg v4))) → V g mX12_sumOf (Em g mX12_sumOf Q X) CX 0 0 7 [(0, .ref 33), (1, .int v1), (2, .int (-1 : Int32)), (3, .int v4), (4, .int (v4 + (1 : Int32)))] [] σ) :
    V g mX12_sumOf (Em g mX12_sumOf Q X) CX 0 0 7 [(0, .ref 33), (1, .int v1), (2, .int v2), (3, .int v3), (4, .int v4)] [] σ := by
  refine V_iload dX12_sumOf_7 rfl ?_
  refine V_aload_n dX12_sumOf_9 rfl ?_
  refine V_getf (fk := 16) (Value.int (zI σ 33 16)) ko_X12 rfl w_1071 dX12_sumOf_10 (by decide) (shk hS 33 rfl) rfl ?_
  refine V_icmp_gt 72 dX12_sumOf_13 rfl (fun c1 => ?_) (fun c1 => ?_)
  · refine V_iload_n dX12_sumOf_72 rfl ?_
    exact V_iret rfl dX12_sumOf_73 (k1 c1)
  · refine V_iload_n dX12_sumOf_16 rfl ?_
    refine V_iconst (-1 : Int32) dX12_sumOf_17 (by decide) ?_
    refine V_icmp_eq 72 dX12_sumOf_18 rfl (fun c2 => ?_) (fun c2 => ?_)
    · refine V_iload_n dX12_sumOf_72 rfl ?_
      exact V_iret rfl dX12_sumOf_73 (k2 c1 c2)
    · refine V_iload dX12_sumOf_21 rfl ?_
      refine V_aload_n dX12_sumOf_23 rfl ?_
      refine V_getf (fk := 16) (Value.int (zI σ 33 16)) ko_X12 rfl w_1071 dX12_sumOf_24 (by decide) (shk hS 33 rfl) rfl ?_
      refine V_icmp_eq 40 dX12_sumOf_27 rfl (fun c3 => ?_) (fun c3 => ?_)
      · refine V_aload_n dX12_sumOf_40 rfl ?_
        refine V_iload_n dX12_sumOf_41 rfl ?_
        refine V_iload dX12_sumOf_42 rfl ?_
        refine V_callV1 (as := [.int v3, .int v4]) (k' := 0) (n' := 0) (s_X12_partOf hS (o1 c1 c2 c3) (o2 c1 c2 c3) (o3 c1 c2 c3)) mw_X12_partOf ko_X12 rfl w_1271 w_21 w_1269 ar_X12_partOf rfl ⟨rfl, rfl, rfl, rfl, rfl⟩ dX12_sumOf_44 (by decide) (shk hS 33 rfl) ?_
        refine V_istore [(0, .ref 33), (1, .int v1), (2, .int v2), (3, .int v3), (4, .int v4), (5, .int (partF σ (Int32.toNatClampNeg v3) (Int32.toNatClampNeg v4)))] dX12_sumOf_47 rfl rfl ?_
        refine V_iload dX12_sumOf_49 rfl ?_
        refine V_if_ge 58 dX12_sumOf_51 rfl (fun c4 => ?_) (fun c4 => ?_)
        · refine V_iload_n dX12_sumOf_58 rfl ?_
          refine V_iload dX12_sumOf_59 rfl ?_
          refine V_iadd dX12_sumOf_61 ?_
          refine V_istore_n [(0, .ref 33), (1, .int v1), (2, .int (v2 + (partF σ (Int32.toNatClampNeg v3) (Int32.toNatClampNeg v4)))), (3, .int v3), (4, .int v4), (5, .int (partF σ (Int32.toNatClampNeg v3) (Int32.toNatClampNeg v4)))] dX12_sumOf_62 rfl rfl ?_
          refine V_iload dX12_sumOf_63 rfl ?_
          refine V_istore_n [(0, .ref 33), (1, .int v1), (2, .int (v2 + (partF σ (Int32.toNatClampNeg v3) (Int32.toNatClampNeg v4)))), (3, .int v4), (4, .int v4), (5, .int (partF σ (Int32.toNatClampNeg v3) (Int32.toNatClampNeg v4)))] dX12_sumOf_65 rfl rfl ?_
          refine V_iinc (v4 + (1 : Int32)) [(0, .ref 33), (1, .int v1), (2, .int (v2 + (partF σ (Int32.toNatClampNeg v3) (Int32.toNatClampNeg v4)))), (3, .int v4), (4, .int (v4 + (1 : Int32))), (5, .int (partF σ (Int32.toNatClampNeg v3) (Int32.toNatClampNeg v4)))] dX12_sumOf_66 rfl rfl rfl rfl ?_
          refine V_goto 7 dX12_sumOf_69 rfl ?_
          exact V_less (mm_keep (mm_keep (mm_keep (mm_keep (mm_keep (mm_drop mm_nil)))))) (by decide) (by decide) (k3 c1 c2 c3 c4)
        · refine V_iconst (-1 : Int32) dX12_sumOf_54 (by decide) ?_
          refine V_goto 62 dX12_sumOf_55 rfl ?_
          refine V_istore_n [(0, .ref 33), (1, .int v1), (2, .int (-1 : Int32)), (3, .int v3), (4, .int v4), (5, .int (partF σ (Int32.toNatClampNeg v3) (Int32.toNatClampNeg v4)))] dX12_sumOf_62 rfl rfl ?_
          refine V_iload dX12_sumOf_63 rfl ?_
          refine V_istore_n [(0, .ref 33), (1, .int v1), (2, .int (-1 : Int32)), (3, .int v4), (4, .int v4), (5, .int (partF σ (Int32.toNatClampNeg v3) (Int32.toNatClampNeg v4)))] dX12_sumOf_65 rfl rfl ?_
          refine V_iinc (v4 + (1 : Int32)) [(0, .ref 33), (1, .int v1), (2, .int (-1 : Int32)), (3, .int v4), (4, .int (v4 + (1 : Int32))), (5, .int (partF σ (Int32.toNatClampNeg v3) (Int32.toNatClampNeg v4)))] dX12_sumOf_66 rfl rfl rfl rfl ?_
          refine V_goto 7 dX12_sumOf_69 rfl ?_
          exact V_less (mm_keep (mm_keep (mm_keep (mm_keep (mm_keep (mm_drop mm_nil)))))) (by decide) (by decide) (k4 c1 c2 c3 c4)
      · refine V_iload_n dX12_sumOf_30 rfl ?_
        refine V_iload dX12_sumOf_31 rfl ?_
        refine V_ishr dX12_sumOf_33 ?_
        refine V_iconst (1 : Int32) dX12_sumOf_34 (by decide) ?_
        refine V_iand dX12_sumOf_35 ?_
        refine V_iconst (1 : Int32) dX12_sumOf_36 (by decide) ?_
        refine V_icmp_ne 66 dX12_sumOf_37 rfl (fun c5 => ?_) (fun c5 => ?_)
        · refine V_iinc (v4 + (1 : Int32)) [(0, .ref 33), (1, .int v1), (2, .int v2), (3, .int v3), (4, .int (v4 + (1 : Int32)))] dX12_sumOf_66 rfl rfl rfl rfl ?_
          refine V_goto 7 dX12_sumOf_69 rfl ?_
          exact (k5 c1 c2 c3 c5)
        · refine V_aload_n dX12_sumOf_40 rfl ?_
          refine V_iload_n dX12_sumOf_41 rfl ?_
          refine V_iload dX12_sumOf_42 rfl ?_
          refine V_callV1 (as := [.int v3, .int v4]) (k' := 0) (n' := 0) (s_X12_partOf hS (o4 c1 c2 c3 c5) (o5 c1 c2 c3 c5) (o6 c1 c2 c3 c5)) mw_X12_partOf ko_X12 rfl w_1271 w_21 w_1269 ar_X12_partOf rfl ⟨rfl, rfl, rfl, rfl, rfl⟩ dX12_sumOf_44 (by decide) (shk hS 33 rfl) ?_
          refine V_istore [(0, .ref 33), (1, .int v1), (2, .int v2), (3, .int v3), (4, .int v4), (5, .int (partF σ (Int32.toNatClampNeg v3) (Int32.toNatClampNeg v4)))] dX12_sumOf_47 rfl rfl ?_
          refine V_iload dX12_sumOf_49 rfl ?_
          refine V_if_ge 58 dX12_sumOf_51 rfl (fun c6 => ?_) (fun c6 => ?_)
          · refine V_iload_n dX12_sumOf_58 rfl ?_
            refine V_iload dX12_sumOf_59 rfl ?_
            refine V_iadd dX12_sumOf_61 ?_
            refine V_istore_n [(0, .ref 33), (1, .int v1), (2, .int (v2 + (partF σ (Int32.toNatClampNeg v3) (Int32.toNatClampNeg v4)))), (3, .int v3), (4, .int v4), (5, .int (partF σ (Int32.toNatClampNeg v3) (Int32.toNatClampNeg v4)))] dX12_sumOf_62 rfl rfl ?_
            refine V_iload dX12_sumOf_63 rfl ?_
            refine V_istore_n [(0, .ref 33), (1, .int v1), (2, .int (v2 + (partF σ (Int32.toNatClampNeg v3) (Int32.toNatClampNeg v4)))), (3, .int v4), (4, .int v4), (5, .int (partF σ (Int32.toNatClampNeg v3) (Int32.toNatClampNeg v4)))] dX12_sumOf_65 rfl rfl ?_
            refine V_iinc (v4 + (1 : Int32)) [(0, .ref 33), (1, .int v1), (2, .int (v2 + (partF σ (Int32.toNatClampNeg v3) (Int32.toNatClampNeg v4)))), (3, .int v4), (4, .int (v4 + (1 : Int32))), (5, .int (partF σ (Int32.toNatClampNeg v3) (Int32.toNatClampNeg v4)))] dX12_sumOf_66 rfl rfl rfl rfl ?_
            refine V_goto 7 dX12_sumOf_69 rfl ?_
            exact V_less (mm_keep (mm_keep (mm_keep (mm_keep (mm_keep (mm_drop mm_nil)))))) (by decide) (by decide) (k6 c1 c2 c3 c5 c6)
          · refine V_iconst (-1 : Int32) dX12_sumOf_54 (by decide) ?_
            refine V_goto 62 dX12_sumOf_55 rfl ?_
            refine V_istore_n [(0, .ref 33), (1, .int v1), (2, .int (-1 : Int32)), (3, .int v3), (4, .int v4), (5, .int (partF σ (Int32.toNatClampNeg v3) (Int32.toNatClampNeg v4)))] dX12_sumOf_62 rfl rfl ?_
            refine V_iload dX12_sumOf_63 rfl ?_
            refine V_istore_n [(0, .ref 33), (1, .int v1), (2, .int (-1 : Int32)), (3, .int v4), (4, .int v4), (5, .int (partF σ (Int32.toNatClampNeg v3) (Int32.toNatClampNeg v4)))] dX12_sumOf_65 rfl rfl ?_
            refine V_iinc (v4 + (1 : Int32)) [(0, .ref 33), (1, .int v1), (2, .int (-1 : Int32)), (3, .int v4), (4, .int (v4 + (1 : Int32))), (5, .int (partF σ (Int32.toNatClampNeg v3) (Int32.toNatClampNeg v4)))] dX12_sumOf_66 rfl rfl rfl rfl ?_
            refine V_goto 7 dX12_sumOf_69 rfl ?_
            exact V_less (mm_keep (mm_keep (mm_keep (mm_keep (mm_keep (mm_drop mm_nil)))))) (by decide) (by decide) (k7 c1 c2 c3 c5 c6)

theorem s_X12_sumOf {g : GP} {σ : AH} {set L : Nat} (hS : Sh σ) (hP : PO σ) (hL : zI σ 33 16 = nI L) (hL8 : L ≤ 8) (hset : set < 2 ^ 30) : Ct g mX12_sumOf [.ref 33, .int (nI set)] σ (FQ σ (some (.int (sumSt (partF σ) set L L).1))) := by
  refine Ct_of (by decide +kernel) rfl rfl (b_X12_sumOf_0 ?_)
  refine up_loop (P := fun k => V g mX12_sumOf (Em g mX12_sumOf (FQ σ (some (.int (sumSt (partF σ) set L L).1))) NX) CT 0 0 7 [(0, .ref 33), (1, .int (nI set)), (2, .int (sumSt (partF σ) set L k).1), (3, .int (nI (sumSt (partF σ) set L k).2)), (4, .int (nI (k + 1)))] [] σ) L ?_ ?_ 0 (Nat.zero_le _)
  · have hlt : zI σ 33 16 < nI (L + 1) := by rw [hL]; exact nI_lt (by omega) (by omega)
    exact b_X12_sumOf_7 hS (fun _ => fq) (fun c => absurd hlt c) (fun c => absurd hlt c) (fun c => absurd hlt c) (fun c => absurd hlt c) (fun c => absurd hlt c) (fun c => absurd hlt c) (fun c => absurd hlt c) (fun c => absurd hlt c) (fun c => absurd hlt c) (fun c => absurd hlt c) (fun c => absurd hlt c) (fun c => absurd hlt c)
  · intro k hk ih
    have hlt : ¬ zI σ 33 16 < nI (k + 1) := by rw [hL]; exact nI_nlt (by omega) (by omega)
    have hle := sumSt_le (P := partF σ) (set := set) (L := L) k
    have hc : (nI (k + 1)).toNatClampNeg = k + 1 := cl0 (by omega)
    have hb : (nI (sumSt (partF σ) set L k).2).toNatClampNeg = (sumSt (partF σ) set L k).2 := cl0 (by omega)
    have v3 : vp_in (nI (sumSt (partF σ) set L k).2) 9 := vp_in_nI (by omega) (by decide)
    have v4 : vp_in (nI (k + 1)) 9 := vp_in_nI (by omega) (by decide)
    have ht := bit_t (k := k + 1) hset (by omega)
    have hend : nI (k + 1) = zI σ 33 16 ↔ k + 1 = L := by rw [hL]; exact nI_eq (by omega) (by omega)
    have hn : nI (k + 1) + 1 = nI (k + 1 + 1) := nI_1 _
    refine b_X12_sumOf_7 hS (fun c => absurd c hlt) (fun _ c => fq_i ?_) (fun _ _ _ => hP) (fun _ _ _ => v3) (fun _ _ _ => v4) ?_ ?_ ?_ (fun _ _ _ _ => hP) (fun _ _ _ _ => v3) (fun _ _ _ _ => v4) ?_ ?_
    · rw [c]
      have := sumSt_stuck c (L - k)
      rw [show k + (L - k) = L by omega] at this
      exact this.symm
    all_goals
      intros
      simp only [hc, hb, hn] at *
      refine V_cast ?_ rfl rfl ih
      simp_all [sumSt] <;> (intro h9; exact absurd h9 (Int32.not_le.mpr (by assumption)))
set_option maxRecDepth 100000 in
set_option maxHeartbeats 4000000 in
theorem b_X12_finds_0 {g : GP} {CX : State → Array Value → Prop} {E : ET}  {σ : AH}
    (hS : Sh σ)
    (k1 : V g mX12_finds E CX 0 0 12 [(0, .ref 33), (1, .int (0 : Int32))] [] (uI (uI σ 33 21 (-1 : Int32)) 33 22 (-1 : Int32))) :
    V g mX12_finds E CX 0 0 0 [(0, .ref 33)] [] σ := by
  refine V_aload_n dX12_finds_0 rfl ?_
  refine V_iconst (-1 : Int32) dX12_finds_1 (by decide) ?_
  refine V_puti (fk := 21) ko_X12 rfl w_1076 (Or.inl rfl) dX12_finds_2 rfl (by decide) (shk hS 33 rfl) ?_
  refine V_aload_n dX12_finds_5 rfl ?_
  refine V_iconst (-1 : Int32) dX12_finds_6 (by decide) ?_
  refine V_puti (fk := 22) ko_X12 rfl w_1077 (Or.inl rfl) dX12_finds_7 rfl (by decide) (shk (Sh_uI hS) 33 rfl) ?_
  refine V_iconst (0 : Int32) dX12_finds_10 (by decide) ?_
  refine V_istore_n [(0, .ref 33), (1, .int (0 : Int32))] dX12_finds_11 rfl rfl ?_
  exact k1
set_option maxRecDepth 100000 in
set_option maxHeartbeats 4000000 in
theorem b_X12_finds_12 {g : GP} {CX : State → Array Value → Prop} {Q : AH → Option Value → Prop} {X : AH → String → Prop} {v1 : Int32} {σ : AH}
    (hS : Sh σ)
    (k1 : ((zI σ 33 16) ≤ 0) → Q σ (some (.int (zI σ 33 21))))
    (k2 : (¬ (zI σ 33 16) ≤ 0) → (((1 : Int32) <<< ((zI σ 33 16) &&& 31)) ≤ v1) → Q σ (some (.int (zI σ 33 21))))
    (k3 : (¬ (zI σ 33 16) ≤ 0) → (¬ ((1 : Int32) <<< ((zI σ 33 16) &&& 31)) ≤ v1) → V g mX12_finds (Em g mX12_finds Q X) CX 0 0 31 [(0, .ref 33), (1, .int v1)] [.int v1, .ref 33] σ) :
    V g mX12_finds (Em g mX12_finds Q X) CX 0 0 12 [(0, .ref 33), (1, .int v1)] [] σ := by
  refine V_aload_n dX12_finds_12 rfl ?_
  refine V_getf (fk := 16) (Value.int (zI σ 33 16)) ko_X12 rfl w_1071 dX12_finds_13 (by decide) (shk hS 33 rfl) rfl ?_
  refine V_if_le 72 dX12_finds_16 rfl (fun c1 => ?_) (fun c1 => ?_)
  · refine V_aload_n dX12_finds_72 rfl ?_
    refine V_getf (fk := 21) (Value.int (zI σ 33 21)) ko_X12 rfl w_1076 dX12_finds_73 (by decide) (shk hS 33 rfl) rfl ?_
    exact V_iret rfl dX12_finds_76 (k1 c1)
  · refine V_iload_n dX12_finds_19 rfl ?_
    refine V_iconst (1 : Int32) dX12_finds_20 (by decide) ?_
    refine V_aload_n dX12_finds_21 rfl ?_
    refine V_getf (fk := 16) (Value.int (zI σ 33 16)) ko_X12 rfl w_1071 dX12_finds_22 (by decide) (shk hS 33 rfl) rfl ?_
    refine V_ishl dX12_finds_25 ?_
    refine V_icmp_ge 72 dX12_finds_26 rfl (fun c2 => ?_) (fun c2 => ?_)
    · refine V_aload_n dX12_finds_72 rfl ?_
      refine V_getf (fk := 21) (Value.int (zI σ 33 21)) ko_X12 rfl w_1076 dX12_finds_73 (by decide) (shk hS 33 rfl) rfl ?_
      exact V_iret rfl dX12_finds_76 (k2 c1 c2)
    · refine V_aload_n dX12_finds_29 rfl ?_
      refine V_iload_n dX12_finds_30 rfl ?_
      exact (k3 c1 c2)

