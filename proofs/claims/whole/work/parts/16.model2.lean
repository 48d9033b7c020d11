/-! ===== the reference: ways ===== -/
theorem bit_t {set k : Nat} (hs : set < 2 ^ 30) (hk : k < 32) : ((nI set >>> (nI k &&& 31)) &&& 1 = 1) ↔ set.testBit k = true := by
  have h1 : nI set >>> (nI k &&& 31) = nI (set / 2 ^ k) := by
    have hm : ((nI k &&& 31).toBitVec.smod 32).toNat = k := by
      have : ∀ n, n < 32 → ((nI n &&& 31).toBitVec.smod 32).toNat = n := by decide +kernel
      exact this k hk
    exact pk_shrN (by omega) _ k hm
  rw [h1]
  have h2 : nI (set / 2 ^ k) &&& 1 = nI (set / 2 ^ k % 2) := by
    have := pk_andN (n := set / 2 ^ k) (by have := Nat.div_le_self set (2 ^ k); omega) (m := 1) 1 (by decide)
    simpa using this
  rw [h2]
  have h3 : set / 2 ^ k % 2 < 2 := Nat.mod_lt _ (by decide)
  rw [Nat.testBit_eq_decide_div_mod_eq]
  have h4 : nI (set / 2 ^ k % 2) = 1 ↔ set / 2 ^ k % 2 = 1 := by
    rw [show (1 : Int32) = nI 1 from rfl]
    exact nI_eq (by omega) (by decide)
  rw [h4]
  simp
/-- the sum of a set's parts, and where the part under way begins, behind the point k -/
def sumSt (P : Nat → Nat → Int32) (set L : Nat) : Nat → Int32 × Nat
  | 0 => (0, 0)
  | k + 1 =>
    if (sumSt P set L k).1 = -1 then sumSt P set L k
    else if k + 1 = L ∨ set.testBit (k + 1) = true then
      (if 0 ≤ P (sumSt P set L k).2 (k + 1) then (sumSt P set L k).1 + P (sumSt P set L k).2 (k + 1) else -1, k + 1)
    else sumSt P set L k
theorem sumSt_stuck {P : Nat → Nat → Int32} {set L k : Nat} (h : (sumSt P set L k).1 = -1) : ∀ d, (sumSt P set L (k + d)).1 = -1
  | 0 => h
  | d + 1 => by
    have ih := sumSt_stuck h d
    rw [show k + (d + 1) = (k + d) + 1 from rfl, sumSt, if_pos ih]
    exact ih
theorem sumSt_le {P : Nat → Nat → Int32} {set L : Nat} : ∀ k, (sumSt P set L k).2 ≤ k
  | 0 => Nat.le_refl _
  | k + 1 => by
    have ih := sumSt_le (P := P) (set := set) (L := L) k
    rw [sumSt]
    split
    · omega
    · split
      · exact Nat.le_refl _
      · omega
set_option maxRecDepth 100000 in
set_option maxHeartbeats 4000000 in
theorem b_X12_sumOf_0 {g : GP} {CX : State → Array Value → Prop} {E : ET} {v1 : Int32} {σ : AH}
    (k1 : V g mX12_sumOf E CX 0 0 7 [(0, .ref 33), (1, .int v1), (2, .int (0 : Int32)), (3, .int (0 : Int32)), (4, .int (1 : Int32))] [] σ) :
    V g mX12_sumOf E CX 0 0 0 [(0, .ref 33), (1, .int v1)] [] σ := by
  refine V_iconst (0 : Int32) dX12_sumOf_0 (by decide) ?_
  refine V_istore_n [(0, .ref 33), (1, .int v1), (2, .int (0 : Int32))] dX12_sumOf_1 rfl rfl ?_
  refine V_iconst (0 : Int32) dX12_sumOf_2 (by decide) ?_
  refine V_istore_n [(0, .ref 33), (1, .int v1), (2, .int (0 : Int32)), (3, .int (0 : Int32))] dX12_sumOf_3 rfl rfl ?_
  refine V_iconst (1 : Int32) dX12_sumOf_4 (by decide) ?_
  refine V_istore [(0, .ref 33), (1, .int v1), (2, .int (0 : Int32)), (3, .int (0 : Int32)), (4, .int (1 : Int32))] dX12_sumOf_5 rfl rfl ?_
  exact k1
set_option maxRecDepth 100000 in
set_option maxHeartbeats 4000000 in
theorem b_X12_sumOf_7 {g : GP} {CX : State → Array Value → Prop} {Q : AH → Option Value → Prop} {X : AH → String → Prop} {v1 : Int32} {v2 : Int32} {v3 : Int32} {v4 : Int32} {σ : AH}
    (hS : Sh σ)
    (k1 : ((zI σ 33 16) < v4) → Q σ (some (.int v2)))
    (k2 : (¬ (zI σ 33 16) < v4) → (v2 = (-1 : Int32)) → Q σ (some (.int v2)))
    (o1 : (¬ (zI σ 33 16) < v4) → (¬ v2 = (-1 : Int32)) → (v4 = (zI σ 33 16)) → PO σ)
    (o2 : (¬ (zI σ 33 16) < v4) → (¬ v2 = (-1 : Int32)) → (v4 = (zI σ 33 16)) → vp_in v3 9)
    (o3 : (¬ (zI σ 33 16) < v4) → (¬ v2 = (-1 : Int32)) → (v4 = (zI σ 33 16)) → vp_in v4 9)
    (k3 : (¬ (zI σ 33 16) < v4) → (¬ v2 = (-1 : Int32)) → (v4 = (zI σ 33 16)) → (0 ≤ (partF σ (Int32.toNatClampNeg v3) (Int32.toNatClampNeg v4))) → V g mX12_sumOf (Em g mX12_sumOf Q X) CX 0 0 7 [(0, .ref 33), (1, .int v1), (2, .int (v2 + (partF σ (Int32.toNatClampNeg v3) (Int32.toNatClampNeg v4)))), (3, .int v4), (4, .int (v4 + (1 : Int32)))] [] σ)
    (k4 : (¬ (zI σ 33 16) < v4) → (¬ v2 = (-1 : Int32)) → (v4 = (zI σ 33 16)) → (¬ 0 ≤ (partF σ (Int32.toNatClampNeg v3) (Int32.toNatClampNeg v4))) → V g mX12_sumOf (Em g mX12_sumOf Q X) CX 0 0 7 [(0, .ref 33), (1, .int v1), (2, .int (-1 : Int32)), (3, .int v4), (4, .int (v4 + (1 : Int32)))] [] σ)
    (k5 : (¬ (zI σ 33 16) < v4) → (¬ v2 = (-1 : Int32)) → (¬ v4 = (zI σ 33 16)) → (¬ ((v1 >>> (v4 &&& 31)) &&& (1 : Int32)) = (1 : Int32)) → V g mX12_sumOf (Em g mX12_sumOf Q X) CX 0 0 7 [(0, .ref 33), (1, .int v1), (2, .int v2), (3, .int v3), (4, .int (v4 + (1 : Int32)))] [] σ)
    (o4 : (¬ (zI σ 33 16) < v4) → (¬ v2 = (-1 : Int32)) → (¬ v4 = (zI σ 33 16)) → (((v1 >>> (v4 &&& 31)) &&& (1 : Int32)) = (1 : Int32)) → PO σ)
    (o5 : (¬ (zI σ 33 16) < v4) → (¬ v2 = (-1 : Int32)) → (¬ v4 = (zI σ 33 16)) → (((v1 >>> (v4 &&& 31)) &&& (1 : Int32)) = (1 : Int32)) → vp_in v3 9)
    (o6 : (¬ (zI σ 33 16) < v4) → (¬ v2 = (-1 : Int32)) → (¬ v4 = (zI σ 33 16)) → (((v1 >>> (v4 &&& 31)) &&& (1 : Int32)) = (1 : Int32)) → vp_in v4 9)
    (k6 : (¬ (zI σ 33 16) < v4) → (¬ v2 = (-1 : Int32)) → (¬ v4 = (zI σ 33 16)) → (((v1 >>> (v4 &&& 31)) &&& (1 : Int32)) = (1 : Int32)) → (0 ≤ (partF σ (Int32.toNatClampNeg v3) (Int32.toNatClampNeg v4))) → V g mX12_sumOf (Em g mX12_sumOf Q X) CX 0 0 7 [(0, .ref 33), (1, .int v1), (2, .int (v2 + (partF σ (Int32.toNatClampNeg v3) (Int32.toNatClampNeg v4)))), (3, .int v4), (4, .int (v4 + (1 : Int32)))] [] σ)
    (k7 : (¬ (zI σ 33 16) < v4) → (¬ v2 = (-1 : Int32)) → (¬ v4 = (zI σ 33 16)) → (((v1 >>> (v4 &&& 31)) &&& (1 : Int32)) = (1 : Int32)) → (¬ 0 ≤ (partF σ (Int32.toNatClampNeg v3) (Int32.toNatClampNeg v4))) → V g mX12_sumOf (Em g mX12_sumOf Q X) CX 0 0 7 [(0, .ref 33), (1, .int v1), (2, .int (-1 : Int32)), (3, .int v4), (4, .int (v4 + (1 : Int32)))] [] σ) :
    V g mX12_sumOf (Em g mX12_sumOf Q X) CX 0 0 7 [(0, .ref 33), (1, .int v1), (2, .int v2), (3, .int v3), (4, .int v4)] [] σ := by
  refine V_iload dX12_sumOf_7 rfl ?_
  refine V_aload_n dX12_sumOf_9 rfl ?_
  refine V_getf (fk := 16) (Value.int (zI σ 33 16)) ko_X12 rfl w_1071 dX12_sumOf_10 (by decide) (shk hS 33 rfl) rfl ?_
  refine V_icmp_gt 72 dX12_sumOf_13 rfl (fun c1 => ?_) (fun c1 => ?_)
  · refine V_iload_n dX12_sumOf_72 rfl ?_
    exact V_iret rfl dX12_sumOf_73 (k1 c1)
  · refine V_iload_n dX12_sumOf_16 rfl ?_
    refine V_iconst (-1 : Int32) dX12_sumOf_17 (by decide) ?_
    refine V_icmp_eq 72 dX12_sumOf_18 rfl (fun c2 => ?_) (fun c2 => ?_)
    · refine V_iload_n dX12_sumOf_72 rfl ?_
      exact V_iret rfl dX12_sumOf_73 (k2 c1 c2)
    · refine V_iload dX12_sumOf_21 rfl ?_
      refine V_aload_n dX12_sumOf_23 rfl ?_
      refine V_getf (fk := 16) (Value.int (zI σ 33 16)) ko_X12 rfl w_1071 dX12_sumOf_24 (by decide) (shk hS 33 rfl) rfl ?_
      refine V_icmp_eq 40 dX12_sumOf_27 rfl (fun c3 => ?_) (fun c3 => ?_)
      · refine V_aload_n dX12_sumOf_40 rfl ?_
        refine V_iload_n dX12_sumOf_41 rfl ?_
        refine V_iload dX12_sumOf_42 rfl ?_
        refine V_callV1 (as := [.int v3, .int v4]) (k' := 0) (n' := 0) (s_X12_partOf hS (o1 c1 c2 c3) (o2 c1 c2 c3) (o3 c1 c2 c3)) mw_X12_partOf ko_X12 rfl w_1271 w_21 w_1269 ar_X12_partOf rfl ⟨rfl, rfl, rfl, rfl, rfl⟩ dX12_sumOf_44 (by decide) (shk hS 33 rfl) ?_
        refine V_istore [(0, .ref 33), (1, .int v1), (2, .int v2), (3, .int v3), (4, .int v4), (5, .int (partF σ (Int32.toNatClampNeg v3) (Int32.toNatClampNeg v4)))] dX12_sumOf_47 rfl rfl ?_
        refine V_iload dX12_sumOf_49 rfl ?_
        refine V_if_ge 58 dX12_sumOf_51 rfl (fun c4 => ?_) (fun c4 => ?_)
        · refine V_iload_n dX12_sumOf_58 rfl ?_
          refine V_iload dX12_sumOf_59 rfl ?_
          refine V_iadd dX12_sumOf_61 ?_
          refine V_istore_n [(0, .ref 33), (1, .int v1), (2, .int (v2 + (partF σ (Int32.toNatClampNeg v3) (Int32.toNatClampNeg v4)))), (3, .int v3), (4, .int v4), (5, .int (partF σ (Int32.toNatClampNeg v3) (Int32.toNatClampNeg v4)))] dX12_sumOf_62 rfl rfl ?_
          refine V_iload dX12_sumOf_63 rfl ?_
          refine V_istore_n [(0, .ref 33), (1, .int v1), (2, .int (v2 + (partF σ (Int32.toNatClampNeg v3) (Int32.toNatClampNeg v4)))), (3, .int v4), (4, .int v4), (5, .int (partF σ (Int32.toNatClampNeg v3) (Int32.toNatClampNeg v4)))] dX12_sumOf_65 rfl rfl ?_
          refine V_iinc (v4 + (1 : Int32)) [(0, .ref 33), (1, .int v1), (2, .int (v2 + (partF σ (Int32.toNatClampNeg v3) (Int32.toNatClampNeg v4)))), (3, .int v4), (4, .int (v4 + (1 : Int32))), (5, .int (partF σ (Int32.toNatClampNeg v3) (Int32.toNatClampNeg v4)))] dX12_sumOf_66 rfl rfl rfl rfl ?_
          refine V_goto 7 dX12_sumOf_69 rfl ?_
          exact V_less (mm_keep (mm_keep (mm_keep (mm_keep (mm_keep (mm_drop mm_nil)))))) (by decide) (by decide) (k3 c1 c2 c3 c4)
        · refine V_iconst (-1 : Int32) dX12_sumOf_54 (by decide) ?_
          refine V_goto 62 dX12_sumOf_55 rfl ?_
          refine V_istore_n [(0, .ref 33), (1, .int v1), (2, .int (-1 : Int32)), (3, .int v3), (4, .int v4), (5, .int (partF σ (Int32.toNatClampNeg v3) (Int32.toNatClampNeg v4)))] dX12_sumOf_62 rfl rfl ?_
          refine V_iload dX12_sumOf_63 rfl ?_
          refine V_istore_n [(0, .ref 33), (1, .int v1), (2, .int (-1 : Int32)), (3, .int v4), (4, .int v4), (5, .int (partF σ (Int32.toNatClampNeg v3) (Int32.toNatClampNeg v4)))] dX12_sumOf_65 rfl rfl ?_
          refine V_iinc (v4 + (1 : Int32)) [(0, .ref 33), (1, .int v1), (2, .int (-1 : Int32)), (3, .int v4), (4, .int (v4 + (1 : Int32))), (5, .int (partF σ (Int32.toNatClampNeg v3) (Int32.toNatClampNeg v4)))] dX12_sumOf_66 rfl rfl rfl rfl ?_
          refine V_goto 7 dX12_sumOf_69 rfl ?_
          exact V_less (mm_keep (mm_keep (mm_keep (mm_keep (mm_keep (mm_drop mm_nil)))))) (by decide) (by decide) (k4 c1 c2 c3 c4)
      · refine V_iload_n dX12_sumOf_30 rfl ?_
        refine V_iload dX12_sumOf_31 rfl ?_
        refine V_ishr dX12_sumOf_33 ?_
        refine V_iconst (1 : Int32) dX12_sumOf_34 (by decide) ?_
        refine V_iand dX12_sumOf_35 ?_
        refine V_iconst (1 : Int32) dX12_sumOf_36 (by decide) ?_
        refine V_icmp_ne 66 dX12_sumOf_37 rfl (fun c5 => ?_) (fun c5 => ?_)
        · refine V_iinc (v4 + (1 : Int32)) [(0, .ref 33), (1, .int v1), (2, .int v2), (3, .int v3), (4, .int (v4 + (1 : Int32)))] dX12_sumOf_66 rfl rfl rfl rfl ?_
          refine V_goto 7 dX12_sumOf_69 rfl ?_
          exact (k5 c1 c2 c3 c5)
        · refine V_aload_n dX12_sumOf_40 rfl ?_
          refine V_iload_n dX12_sumOf_41 rfl ?_
          refine V_iload dX12_sumOf_42 rfl ?_
          refine V_callV1 (as := [.int v3, .int v4]) (k' := 0) (n' := 0) (s_X12_partOf hS (o4 c1 c2 c3 c5) (o5 c1 c2 c3 c5) (o6 c1 c2 c3 c5)) mw_X12_partOf ko_X12 rfl w_1271 w_21 w_1269 ar_X12_partOf rfl ⟨rfl, rfl, rfl, rfl, rfl⟩ dX12_sumOf_44 (by decide) (shk hS 33 rfl) ?_
          refine V_istore [(0, .ref 33), (1, .int v1), (2, .int v2), (3, .int v3), (4, .int v4), (5, .int (partF σ (Int32.toNatClampNeg v3) (Int32.toNatClampNeg v4)))] dX12_sumOf_47 rfl rfl ?_
          refine V_iload dX12_sumOf_49 rfl ?_
          refine V_if_ge 58 dX12_sumOf_51 rfl (fun c6 => ?_) (fun c6 => ?_)
          · refine V_iload_n dX12_sumOf_58 rfl ?_
            refine V_iload dX12_sumOf_59 rfl ?_
            refine V_iadd dX12_sumOf_61 ?_
            refine V_istore_n [(0, .ref 33), (1, .int v1), (2, .int (v2 + (partF σ (Int32.toNatClampNeg v3) (Int32.toNatClampNeg v4)))), (3, .int v3), (4, .int v4), (5, .int (partF σ (Int32.toNatClampNeg v3) (Int32.toNatClampNeg v4)))] dX12_sumOf_62 rfl rfl ?_
            refine V_iload dX12_sumOf_63 rfl ?_
            refine V_istore_n [(0, .ref 33), (1, .int v1), (2, .int (v2 + (partF σ (Int32.toNatClampNeg v3) (Int32.toNatClampNeg v4)))), (3, .int v4), (4, .int v4), (5, .int (partF σ (Int32.toNatClampNeg v3) (Int32.toNatClampNeg v4)))] dX12_sumOf_65 rfl rfl ?_
            refine V_iinc (v4 + (1 : Int32)) [(0, .ref 33), (1, .int v1), (2, .int (v2 + (partF σ (Int32.toNatClampNeg v3) (Int32.toNatClampNeg v4)))), (3, .int v4), (4, .int (v4 + (1 : Int32))), (5, .int (partF σ (Int32.toNatClampNeg v3) (Int32.toNatClampNeg v4)))] dX12_sumOf_66 rfl rfl rfl rfl ?_
            refine V_goto 7 dX12_sumOf_69 rfl ?_
            exact V_less (mm_keep (mm_keep (mm_keep (mm_keep (mm_keep (mm_drop mm_nil)))))) (by decide) (by decide) (k6 c1 c2 c3 c5 c6)
          · refine V_iconst (-1 : Int32) dX12_sumOf_54 (by decide) ?_
            refine V_goto 62 dX12_sumOf_55 rfl ?_
            refine V_istore_n [(0, .ref 33), (1, .int v1), (2, .int (-1 : Int32)), (3, .int v3), (4, .int v4), (5, .int (partF σ (Int32.toNatClampNeg v3) (Int32.toNatClampNeg v4)))] dX12_sumOf_62 rfl rfl ?_
            refine V_iload dX12_sumOf_63 rfl ?_
            refine V_istore_n [(0, .ref 33), (1, .int v1), (2, .int (-1 : Int32)), (3, .int v4), (4, .int v4), (5, .int (partF σ (Int32.toNatClampNeg v3) (Int32.toNatClampNeg v4)))] dX12_sumOf_65 rfl rfl ?_
            refine V_iinc (v4 + (1 : Int32)) [(0, .ref 33), (1, .int v1), (2, .int (-1 : Int32)), (3, .int v4), (4, .int (v4 + (1 : Int32))), (5, .int (partF σ (Int32.toNatClampNeg v3) (Int32.toNatClampNeg v4)))] dX12_sumOf_66 rfl rfl rfl rfl ?_
            refine V_goto 7 dX12_sumOf_69 rfl ?_
            exact V_less (mm_keep (mm_keep (mm_keep (mm_keep (mm_keep (mm_drop mm_nil)))))) (by decide) (by decide) (k7 c1 c2 c3 c5 c6)

theorem s_X12_sumOf {g : GP} {σ : AH} {set L : Nat} (hS : Sh σ) (hP : PO σ) (hL : zI σ 33 16 = nI L) (hL8 : L ≤ 8) (hset : set < 2 ^ 30) : Ct g mX12_sumOf [.ref 33, .int (nI set)] σ (FQ σ (some (.int (sumSt (partF σ) set L L).1))) := by
  refine Ct_of (by decide +kernel) rfl rfl (b_X12_sumOf_0 ?_)
  refine up_loop (P := fun k => V g mX12_sumOf (Em g mX12_sumOf (FQ σ (some (.int (sumSt (partF σ) set L L).1))) NX) CT 0 0 7 [(0, .ref 33), (1, .int (nI set)), (2, .int (sumSt (partF σ) set L k).1), (3, .int (nI (sumSt (partF σ) set L k).2)), (4, .int (nI (k + 1)))] [] σ) L ?_ ?_ 0 (Nat.zero_le _)
  · have hlt : zI σ 33 16 < nI (L + 1) := by rw [hL]; exact nI_lt (by omega) (by omega)
    exact b_X12_sumOf_7 hS (fun _ => fq) (fun c => absurd hlt c) (fun c => absurd hlt c) (fun c => absurd hlt c) (fun c => absurd hlt c) (fun c => absurd hlt c) (fun c => absurd hlt c) (fun c => absurd hlt c) (fun c => absurd hlt c) (fun c => absurd hlt c) (fun c => absurd hlt c) (fun c => absurd hlt c) (fun c => absurd hlt c)
  · intro k hk ih
    have hlt : ¬ zI σ 33 16 < nI (k + 1) := by rw [hL]; exact nI_nlt (by omega) (by omega)
    have hle := sumSt_le (P := partF σ) (set := set) (L := L) k
    have hc : (nI (k + 1)).toNatClampNeg = k + 1 := cl0 (by omega)
    have hb : (nI (sumSt (partF σ) set L k).2).toNatClampNeg = (sumSt (partF σ) set L k).2 := cl0 (by omega)
    have v3 : vp_in (nI (sumSt (partF σ) set L k).2) 9 := vp_in_nI (by omega) (by decide)
    have v4 : vp_in (nI (k + 1)) 9 := vp_in_nI (by omega) (by decide)
    have ht := bit_t (k := k + 1) hset (by omega)
    have hend : nI (k + 1) = zI σ 33 16 ↔ k + 1 = L := by rw [hL]; exact nI_eq (by omega) (by omega)
    have hn : nI (k + 1) + 1 = nI (k + 1 + 1) := nI_1 _
    refine b_X12_sumOf_7 hS (fun c => absurd c hlt) (fun _ c => fq_i ?_) (fun _ _ _ => hP) (fun _ _ _ => v3) (fun _ _ _ => v4) ?_ ?_ ?_ (fun _ _ _ _ => hP) (fun _ _ _ _ => v3) (fun _ _ _ _ => v4) ?_ ?_
    · rw [c]
      have := sumSt_stuck c (L - k)
      rw [show k + (L - k) = L by omega] at this
      exact this.symm
    all_goals
      intros
      simp only [hc, hb, hn] at *
      refine V_cast ?_ rfl rfl ih
      simp_all [sumSt] <;> (intro h9; exact absurd h9 (Int32.not_le.mpr (by assumption)))
noncomputable def sumC (σ : AH) (x : Int32) : Int32 := (sumSt (partF σ) (Int32.toNatClampNeg x) (Int32.toNatClampNeg (zI σ 33 16)) (Int32.toNatClampNeg (zI σ 33 16))).1
theorem s_X12_sumOf' {g : GP} {σ : AH} {x : Int32} (hS : Sh σ) (hP : PO σ) (hL : vp_in (zI σ 33 16) 9) (hx : vp_in x 512) : Ct g mX12_sumOf [.ref 33, .int x] σ (FQ σ (some (.int (sumC σ x)))) := by
  obtain ⟨L, hl, e⟩ := vp_in_of hL (by decide)
  obtain ⟨s, hs, rfl⟩ := vp_in_of hx (by decide)
  have h1 : sumC σ (nI s) = (sumSt (partF σ) s L L).1 := by rw [sumC, e, cl0 (by omega), cl0 (by omega)]
  rw [h1]
  exact s_X12_sumOf hS hP e (by omega) (by omega)
set_option maxRecDepth 100000 in
set_option maxHeartbeats 4000000 in
theorem b_X12_finds_0 {g : GP} {CX : State → Array Value → Prop} {E : ET}  {σ : AH}
    (hS : Sh σ)
    (k1 : V g mX12_finds E CX 0 0 12 [(0, .ref 33), (1, .int (0 : Int32))] [] (uI (uI σ 33 21 (-1 : Int32)) 33 22 (-1 : Int32))) :
    V g mX12_finds E CX 0 0 0 [(0, .ref 33)] [] σ := by
  refine V_aload_n dX12_finds_0 rfl ?_
  refine V_iconst (-1 : Int32) dX12_finds_1 (by decide) ?_
  refine V_puti (fk := 21) ko_X12 rfl w_1076 (Or.inl rfl) dX12_finds_2 rfl (by decide) (shk hS 33 rfl) ?_
  refine V_aload_n dX12_finds_5 rfl ?_
  refine V_iconst (-1 : Int32) dX12_finds_6 (by decide) ?_
  refine V_puti (fk := 22) ko_X12 rfl w_1077 (Or.inl rfl) dX12_finds_7 rfl (by decide) (shk (Sh_uI hS) 33 rfl) ?_
  refine V_iconst (0 : Int32) dX12_finds_10 (by decide) ?_
  refine V_istore_n [(0, .ref 33), (1, .int (0 : Int32))] dX12_finds_11 rfl rfl ?_
  exact k1
set_option maxRecDepth 100000 in
set_option maxHeartbeats 4000000 in
theorem b_X12_finds_12 {g : GP} {CX : State → Array Value → Prop} {Q : AH → Option Value → Prop} {X : AH → String → Prop} {v1 : Int32} {σ : AH}
    (hS : Sh σ)
    (k1 : ((zI σ 33 16) ≤ 0) → Q σ (some (.int (zI σ 33 21))))
    (k2 : (¬ (zI σ 33 16) ≤ 0) → (((1 : Int32) <<< ((zI σ 33 16) &&& 31)) ≤ v1) → Q σ (some (.int (zI σ 33 21))))
    (o1 : (¬ (zI σ 33 16) ≤ 0) → (¬ ((1 : Int32) <<< ((zI σ 33 16) &&& 31)) ≤ v1) → PO σ)
    (o2 : (¬ (zI σ 33 16) ≤ 0) → (¬ ((1 : Int32) <<< ((zI σ 33 16) &&& 31)) ≤ v1) → vp_in (zI σ 33 16) 9)
    (o3 : (¬ (zI σ 33 16) ≤ 0) → (¬ ((1 : Int32) <<< ((zI σ 33 16) &&& 31)) ≤ v1) → vp_in v1 512)
    (k3 : (¬ (zI σ 33 16) ≤ 0) → (¬ ((1 : Int32) <<< ((zI σ 33 16) &&& 31)) ≤ v1) → ((sumC σ v1) = (-1 : Int32)) → V g mX12_finds (Em g mX12_finds Q X) CX 0 0 12 [(0, .ref 33), (1, .int (v1 + (2 : Int32)))] [] σ)
    (k4 : (¬ (zI σ 33 16) ≤ 0) → (¬ ((1 : Int32) <<< ((zI σ 33 16) &&& 31)) ≤ v1) → (¬ (sumC σ v1) = (-1 : Int32)) → ((zI σ 33 21) = (-1 : Int32)) → V g mX12_finds (Em g mX12_finds Q X) CX 0 0 12 [(0, .ref 33), (1, .int (v1 + (2 : Int32)))] [] (uI (uI σ 33 21 (sumC σ v1)) 33 22 v1))
    (k5 : (¬ (zI σ 33 16) ≤ 0) → (¬ ((1 : Int32) <<< ((zI σ 33 16) &&& 31)) ≤ v1) → (¬ (sumC σ v1) = (-1 : Int32)) → (¬ (zI σ 33 21) = (-1 : Int32)) → ((zI σ 33 21) ≤ (sumC σ v1)) → V g mX12_finds (Em g mX12_finds Q X) CX 0 0 12 [(0, .ref 33), (1, .int (v1 + (2 : Int32)))] [] σ)
    (k6 : (¬ (zI σ 33 16) ≤ 0) → (¬ ((1 : Int32) <<< ((zI σ 33 16) &&& 31)) ≤ v1) → (¬ (sumC σ v1) = (-1 : Int32)) → (¬ (zI σ 33 21) = (-1 : Int32)) → (¬ (zI σ 33 21) ≤ (sumC σ v1)) → V g mX12_finds (Em g mX12_finds Q X) CX 0 0 12 [(0, .ref 33), (1, .int (v1 + (2 : Int32)))] [] (uI (uI σ 33 21 (sumC σ v1)) 33 22 v1)) :
    V g mX12_finds (Em g mX12_finds Q X) CX 0 0 12 [(0, .ref 33), (1, .int v1)] [] σ := by
  refine V_aload_n dX12_finds_12 rfl ?_
  refine V_getf (fk := 16) (Value.int (zI σ 33 16)) ko_X12 rfl w_1071 dX12_finds_13 (by decide) (shk hS 33 rfl) rfl ?_
  refine V_if_le 72 dX12_finds_16 rfl (fun c1 => ?_) (fun c1 => ?_)
  · refine V_aload_n dX12_finds_72 rfl ?_
    refine V_getf (fk := 21) (Value.int (zI σ 33 21)) ko_X12 rfl w_1076 dX12_finds_73 (by decide) (shk hS 33 rfl) rfl ?_
    exact V_iret rfl dX12_finds_76 (k1 c1)
  · refine V_iload_n dX12_finds_19 rfl ?_
    refine V_iconst (1 : Int32) dX12_finds_20 (by decide) ?_
    refine V_aload_n dX12_finds_21 rfl ?_
    refine V_getf (fk := 16) (Value.int (zI σ 33 16)) ko_X12 rfl w_1071 dX12_finds_22 (by decide) (shk hS 33 rfl) rfl ?_
    refine V_ishl dX12_finds_25 ?_
    refine V_icmp_ge 72 dX12_finds_26 rfl (fun c2 => ?_) (fun c2 => ?_)
    · refine V_aload_n dX12_finds_72 rfl ?_
      refine V_getf (fk := 21) (Value.int (zI σ 33 21)) ko_X12 rfl w_1076 dX12_finds_73 (by decide) (shk hS 33 rfl) rfl ?_
      exact V_iret rfl dX12_finds_76 (k2 c1 c2)
    · refine V_aload_n dX12_finds_29 rfl ?_
      refine V_iload_n dX12_finds_30 rfl ?_
      refine V_callV1 (as := [.int v1]) (k' := 0) (n' := 0) (s_X12_sumOf' hS (o1 c1 c2) (o2 c1 c2) (o3 c1 c2)) mw_X12_sumOf ko_X12 rfl w_1303 w_28 w_1301 ar_X12_sumOf rfl ⟨rfl, rfl, rfl, rfl, rfl⟩ dX12_finds_31 (by decide) (shk hS 33 rfl) ?_
      refine V_istore_n [(0, .ref 33), (1, .int v1), (2, .int (sumC σ v1))] dX12_finds_34 rfl rfl ?_
      refine V_iload_n dX12_finds_35 rfl ?_
      refine V_iconst (-1 : Int32) dX12_finds_36 (by decide) ?_
      refine V_icmp_eq 66 dX12_finds_37 rfl (fun c3 => ?_) (fun c3 => ?_)
      · refine V_iinc (v1 + (2 : Int32)) [(0, .ref 33), (1, .int (v1 + (2 : Int32))), (2, .int (sumC σ v1))] dX12_finds_66 rfl rfl rfl rfl ?_
        refine V_goto 12 dX12_finds_69 rfl ?_
        exact V_less (mm_keep (mm_keep (mm_drop mm_nil))) (by decide) (by decide) (k3 c1 c2 c3)
      · refine V_aload_n dX12_finds_40 rfl ?_
        refine V_getf (fk := 21) (Value.int (zI σ 33 21)) ko_X12 rfl w_1076 dX12_finds_41 (by decide) (shk hS 33 rfl) rfl ?_
        refine V_iconst (-1 : Int32) dX12_finds_44 (by decide) ?_
        refine V_icmp_eq 56 dX12_finds_45 rfl (fun c4 => ?_) (fun c4 => ?_)
        · refine V_aload_n dX12_finds_56 rfl ?_
          refine V_iload_n dX12_finds_57 rfl ?_
          refine V_puti (fk := 21) ko_X12 rfl w_1076 (Or.inl rfl) dX12_finds_58 rfl (by decide) (shk hS 33 rfl) ?_
          refine V_aload_n dX12_finds_61 rfl ?_
          refine V_iload_n dX12_finds_62 rfl ?_
          refine V_puti (fk := 22) ko_X12 rfl w_1077 (Or.inl rfl) dX12_finds_63 rfl (by decide) (shk (Sh_uI hS) 33 rfl) ?_
          refine V_iinc (v1 + (2 : Int32)) [(0, .ref 33), (1, .int (v1 + (2 : Int32))), (2, .int (sumC σ v1))] dX12_finds_66 rfl rfl rfl rfl ?_
          refine V_goto 12 dX12_finds_69 rfl ?_
          exact V_less (mm_keep (mm_keep (mm_drop mm_nil))) (by decide) (by decide) (k4 c1 c2 c3 c4)
        · refine V_iload_n dX12_finds_48 rfl ?_
          refine V_aload_n dX12_finds_49 rfl ?_
          refine V_getf (fk := 21) (Value.int (zI σ 33 21)) ko_X12 rfl w_1076 dX12_finds_50 (by decide) (shk hS 33 rfl) rfl ?_
          refine V_icmp_ge 66 dX12_finds_53 rfl (fun c5 => ?_) (fun c5 => ?_)
          · refine V_iinc (v1 + (2 : Int32)) [(0, .ref 33), (1, .int (v1 + (2 : Int32))), (2, .int (sumC σ v1))] dX12_finds_66 rfl rfl rfl rfl ?_
            refine V_goto 12 dX12_finds_69 rfl ?_
            exact V_less (mm_keep (mm_keep (mm_drop mm_nil))) (by decide) (by decide) (k5 c1 c2 c3 c4 c5)
          · refine V_aload_n dX12_finds_56 rfl ?_
            refine V_iload_n dX12_finds_57 rfl ?_
            refine V_puti (fk := 21) ko_X12 rfl w_1076 (Or.inl rfl) dX12_finds_58 rfl (by decide) (shk hS 33 rfl) ?_
            refine V_aload_n dX12_finds_61 rfl ?_
            refine V_iload_n dX12_finds_62 rfl ?_
            refine V_puti (fk := 22) ko_X12 rfl w_1077 (Or.inl rfl) dX12_finds_63 rfl (by decide) (shk (Sh_uI hS) 33 rfl) ?_
            refine V_iinc (v1 + (2 : Int32)) [(0, .ref 33), (1, .int (v1 + (2 : Int32))), (2, .int (sumC σ v1))] dX12_finds_66 rfl rfl rfl rfl ?_
            refine V_goto 12 dX12_finds_69 rfl ?_
            exact V_less (mm_keep (mm_keep (mm_drop mm_nil))) (by decide) (by decide) (k6 c1 c2 c3 c4 c5)

/-! ===== what a part looks at ===== -/
def EqP (τ σ : AH) : Prop := zI τ 33 0 = zI σ 33 0 ∧ zI τ 33 6 = zI σ 33 6 ∧ zI τ 33 14 = zI σ 33 14 ∧ zI τ 33 16 = zI σ 33 16 ∧ ∀ a k, 34 ≤ a → a ≤ 49 → zI τ a k = zI σ a k
theorem EqP_refl (σ : AH) : EqP σ σ := ⟨rfl, rfl, rfl, rfl, fun _ _ _ _ => rfl⟩
theorem EqP_tr {ρ τ σ : AH} (h : EqP ρ τ) (h' : EqP τ σ) : EqP ρ σ := ⟨h.1.trans h'.1, h.2.1.trans h'.2.1, h.2.2.1.trans h'.2.2.1, h.2.2.2.1.trans h'.2.2.2.1, fun a k h1 h2 => (h.2.2.2.2 a k h1 h2).trans (h'.2.2.2.2 a k h1 h2)⟩
theorem EqP_33 {τ σ : AH} {k : Nat} {x : Int32} (h : EqP τ σ) (hk : k ≠ 0 ∧ k ≠ 6 ∧ k ≠ 14 ∧ k ≠ 16) : EqP (uI τ 33 k x) σ := by
  obtain ⟨h0, h6, h14, h16⟩ := hk
  obtain ⟨a1, a2, a3, a4, a5⟩ := h
  refine ⟨?_, ?_, ?_, ?_, fun a j h1 h2 => ?_⟩
  · rw [zI_uI, if_neg (by omega)]; exact a1
  · rw [zI_uI, if_neg (by omega)]; exact a2
  · rw [zI_uI, if_neg (by omega)]; exact a3
  · rw [zI_uI, if_neg (by omega)]; exact a4
  · rw [zI_uI, if_neg (by omega)]; exact a5 a j h1 h2
theorem EqP_uI {τ σ : AH} {a k : Nat} {x : Int32} (h : EqP τ σ) (ha : a < 33 ∨ 49 < a) : EqP (uI τ a k x) σ := by
  obtain ⟨a1, a2, a3, a4, a5⟩ := h
  refine ⟨?_, ?_, ?_, ?_, fun b j h1 h2 => ?_⟩
  · rw [zI_uI, if_neg (by omega)]; exact a1
  · rw [zI_uI, if_neg (by omega)]; exact a2
  · rw [zI_uI, if_neg (by omega)]; exact a3
  · rw [zI_uI, if_neg (by omega)]; exact a4
  · rw [zI_uI, if_neg (by omega)]; exact a5 b j h1 h2
theorem EqP_uJ {τ σ : AH} {a k : Nat} {x : Int64} (h : EqP τ σ) : EqP (uJ τ a k x) σ := h
theorem EqP_uR {τ σ : AH} {a k x : Nat} (h : EqP τ σ) : EqP (uR τ a k x) σ := h
theorem mi_eq {τ σ : AH} (h : EqP τ σ) (a b : Int32) : mi τ a b = mi σ a b := h.2.2.2.2 34 _ (by decide) (by decide)
theorem plF_eq {τ σ : AH} (h : EqP τ σ) (p : Nat) : plF τ p = plF σ p := by
  unfold plF; rw [h.2.2.2.2 46 _ (by decide) (by decide), h.2.2.2.2 47 _ (by decide) (by decide)]
theorem lowF_eq {τ σ : AH} (h : EqP τ σ) (a b s : Int32) : ∀ j, lowF τ a b s j = lowF σ a b s j
  | 0 => rfl
  | j + 1 => by
    have e : ∀ a k, 34 ≤ a → a ≤ 49 → zI τ a k = zI σ a k := h.2.2.2.2
    rw [lowF, lowF, lowF_eq h a b s j, lowS, lowS, h.1, e 39 _ (by decide) (by decide), e 40 _ (by decide) (by decide), e 41 _ (by decide) (by decide), e 42 _ (by decide) (by decide), e 43 _ (by decide) (by decide), e 44 _ (by decide) (by decide), e 45 _ (by decide) (by decide)]
theorem lowA_eq {τ σ : AH} (h : EqP τ σ) (a b s : Int32) : lowA τ a b s = lowA σ a b s := by
  rw [lowA, lowA, h.2.1, lowF_eq h]
theorem stN_eq {τ σ : AH} (h : EqP τ σ) (i : Nat) : ∀ d, stN τ i d = stN σ i d
  | 0 => rfl
  | d + 1 => by rw [stN, stN, stN_eq h i d, h.2.2.2.2 49 _ (by decide) (by decide), h.2.2.2.2 49 (i + d) (by decide) (by decide)]
theorem mlN_eq {τ σ : AH} (h : EqP τ σ) (i : Nat) : ∀ d, mlN τ i d = mlN σ i d
  | 0 => rfl
  | d + 1 => by rw [mlN, mlN, mlN_eq h i d, mi_eq h, h.2.2.2.2 46 _ (by decide) (by decide), h.2.2.2.2 47 _ (by decide) (by decide)]
theorem hiN_eq {τ σ : AH} (h : EqP τ σ) (a : Int32) (i : Nat) (b : Int32) : ∀ d, hiN τ a i b d = hiN σ a i b d
  | 0 => rfl
  | d + 1 => by rw [hiN, hiN, hiN_eq h a i b d, lowA_eq h, plF_eq h]
theorem partF_eq {τ σ : AH} (h : EqP τ σ) : partF τ = partF σ := by
  funext i j
  rw [partF, partF, plF_eq h, plF_eq h, lowA_eq h, lowA_eq h, mi_eq h, stN_eq h, mlN_eq h, hiN_eq h, upF, upF, h.2.2.1]
theorem PO_eq {τ σ : AH} (h : EqP τ σ) (hP : PO σ) : PO τ := by
  refine ⟨by rw [h.2.1]; exact hP.1, fun k hk => ?_, by rw [h.2.2.1]; exact hP.2.2.1, by rw [h.2.2.1]; exact hP.2.2.2⟩
  rw [h.2.2.2.2 46 _ (by decide) (by decide), h.2.2.2.2 47 _ (by decide) (by decide)]
  exact hP.2.1 k hk
theorem sumC_eq {τ σ : AH} (h : EqP τ σ) (x : Int32) : sumC τ x = sumC σ x := by rw [sumC, sumC, partF_eq h, h.2.2.2.1]
theorem uI_ov {σ : AH} {a k : Nat} {x y : Int32} : uI (uI σ a k x) a k y = uI σ a k y := by
  have h : (fun b j => if b = a ∧ j = k then y else (if b = a ∧ j = k then x else zI σ b j)) = (fun b j => if b = a ∧ j = k then y else zI σ b j) := by
    funext b j; split <;> simp_all
  exact congrArg (fun f => (zN σ, zK σ, zL σ, f, zJ σ, zR σ)) h
theorem uI_swp {σ : AH} {a k b j : Nat} {x y : Int32} (h : ¬ (a = b ∧ k = j)) : uI (uI σ a k x) b j y = uI (uI σ b j y) a k x := by
  have h : (fun c i => if c = b ∧ i = j then y else (if c = a ∧ i = k then x else zI σ c i)) = (fun c i => if c = a ∧ i = k then x else (if c = b ∧ i = j then y else zI σ c i)) := by
    funext c i
    by_cases h1 : c = b ∧ i = j
    · rw [if_pos h1, if_pos h1, if_neg (fun h2 => h ⟨h2.1.symm.trans h1.1, h2.2.symm.trans h1.2⟩)]
    · rw [if_neg h1, if_neg h1]
  exact congrArg (fun f => (zN σ, zK σ, zL σ, f, zJ σ, zR σ)) h
theorem uI_sw {σ : AH} {a k j : Nat} {x y : Int32} (h : k ≠ j) : uI (uI σ a k x) a j y = uI (uI σ a j y) a k x := uI_swp (fun q => h q.2)
theorem nI_npos {L : Nat} (h : L ≠ 0) (h2 : L < 2 ^ 31) : ¬ nI L ≤ 0 := nI_ge (Nat.pos_of_ne_zero h) h2
/-- the best way behind so many sets: its price, its cuts -/
def wayS (P : Nat → Nat → Int32) (L : Nat) : Nat → Int32 × Int32
  | 0 => (-1, -1)
  | n + 1 => if (sumSt P (2 * n) L L).1 = -1 then wayS P L n else if (wayS P L n).1 = -1 ∨ ¬ (wayS P L n).1 ≤ (sumSt P (2 * n) L L).1 then ((sumSt P (2 * n) L L).1, nI (2 * n)) else wayS P L n
def wayN (L : Nat) : Nat := if L = 0 then 0 else 2 ^ (L - 1)
/-- how many legs -/
def lgN (σ : AH) : Nat := Int32.toNatClampNeg (zI σ 33 16)
def wayF (σ : AH) : Int32 × Int32 := wayS (partF σ) (lgN σ) (wayN (lgN σ))
abbrev hW (σ : AH) (w : Int32 × Int32) : AH := uI (uI σ 33 21 w.1) 33 22 w.2
theorem hW_hW {σ : AH} {v w : Int32 × Int32} : hW (hW σ v) w = hW σ w := by
  unfold hW
  rw [uI_sw (k := 22) (j := 21) (by decide), uI_ov, uI_ov]
theorem EqP_hW {σ : AH} {w : Int32 × Int32} : EqP (hW σ w) σ := EqP_33 (EqP_33 (EqP_refl _) (by decide)) (by decide)
theorem wayF_eq {τ σ : AH} (h : EqP τ σ) : wayF τ = wayF σ := by rw [wayF, wayF, lgN, lgN, h.2.2.2.1, partF_eq h]
theorem shl_L {L : Nat} (h : L ≤ 8) : (1 : Int32) <<< (nI L &&& 31) = nI (2 ^ L) := by
  have : ∀ L, L < 9 → (1 : Int32) <<< (nI L &&& 31) = nI (2 ^ L) := by decide +kernel
  exact this L (by omega)
theorem s_X12_finds {g : GP} {σ : AH} (hS : Sh σ) (hP : PO σ) (hL : vp_in (zI σ 33 16) 9) : Ct g mX12_finds [.ref 33] σ (FQ (hW σ (wayF σ)) (some (.int (wayF σ).1))) := by
  obtain ⟨L, hL8, e⟩ := vp_in_of hL (by decide)
  have hl : lgN σ = L := by rw [lgN, e, cl0 (by omega)]
  refine Ct_of (by decide +kernel) rfl rfl (b_X12_finds_0 hS ?_)
  have hw : wayF σ = wayS (partF σ) L (wayN L) := by rw [wayF, hl]
  rw [hw]
  have hWS : ∀ w, Sh (hW σ w) := fun w => hS
  have e16 : ∀ w, zI (hW σ w) 33 16 = nI L := fun w => e
  have e21 : ∀ w, zI (hW σ w) 33 21 = w.1 := fun w => by rw [hW, zI_uI, if_neg (by decide), zI_uI, if_pos ⟨rfl, rfl⟩]
  refine up_loop (P := fun n => V g mX12_finds (Em g mX12_finds (FQ (hW σ (wayS (partF σ) L (wayN L))) (some (.int (wayS (partF σ) L (wayN L)).1))) NX) CT 0 0 12 [(0, .ref 33), (1, .int (nI (2 * n)))] [] (hW σ (wayS (partF σ) L n))) (wayN L) ?_ ?_ 0 (Nat.zero_le _)
  · by_cases h0 : L = 0
    · have hz : zI (hW σ (wayS (partF σ) L (wayN L))) 33 16 ≤ 0 := by rw [e16, h0]; decide
      exact b_X12_finds_12 (hWS _) (fun _ => fq_i (e21 _)) (fun c => absurd hz c) (fun c => absurd hz c) (fun c => absurd hz c) (fun c => absurd hz c) (fun c => absurd hz c) (fun c => absurd hz c) (fun c => absurd hz c) (fun c => absurd hz c)
    · have hz : (1 : Int32) <<< ((zI (hW σ (wayS (partF σ) L (wayN L))) 33 16) &&& 31) ≤ nI (2 * wayN L) := by
        rw [e16, shl_L (by omega), wayN, if_neg h0]
        have : 2 ^ L = 2 * 2 ^ (L - 1) := by rw [← Nat.pow_succ']; congr 1; omega
        rw [this]; exact Int32.le_refl _
      exact b_X12_finds_12 (hWS _) (fun _ => fq_i (e21 _)) (fun _ _ => fq_i (e21 _)) (fun _ c => absurd hz c) (fun _ c => absurd hz c) (fun _ c => absurd hz c) (fun _ c => absurd hz c) (fun _ c => absurd hz c) (fun _ c => absurd hz c) (fun _ c => absurd hz c)
  · intro n hn ih
    have h0 : L ≠ 0 := by intro h; rw [wayN, if_pos h] at hn; omega
    have hp : 2 ^ L = 2 * 2 ^ (L - 1) := by rw [← Nat.pow_succ']; congr 1; omega
    have hp8 : 2 ^ L ≤ 2 ^ 8 := Nat.pow_le_pow_right (by decide) (by omega)
    rw [wayN, if_neg h0] at hn
    have c1 : ¬ zI (hW σ (wayS (partF σ) L n)) 33 16 ≤ 0 := by rw [e16]; exact nI_npos (by omega) (by omega)
    have c2 : ¬ (1 : Int32) <<< ((zI (hW σ (wayS (partF σ) L n)) 33 16) &&& 31) ≤ nI (2 * n) := by
      rw [e16, shl_L (by omega)]; exact nI_ge (by omega) (by omega)
    have hs : sumC (hW σ (wayS (partF σ) L n)) (nI (2 * n)) = (sumSt (partF σ) (2 * n) L L).1 := by
      rw [sumC_eq EqP_hW, sumC, e, cl0 (by omega), cl0 (by omega)]
    have hadd : nI (2 * n) + 2 = nI (2 * (n + 1)) := by rw [show (2 : Int32) = nI 2 from rfl, nI_add]; rfl
    refine b_X12_finds_12 (hWS _) (fun c => absurd c c1) (fun _ c => absurd c c2) (fun _ _ => PO_eq EqP_hW hP) (fun _ _ => hL) (fun _ _ => vp_in_nI (by omega) (by decide)) ?_ ?_ ?_ ?_
    all_goals
      intros
      simp only [hs, e21, hadd] at *
      refine V_cast ?_ rfl ?_ ih
      · rfl
    · rw [wayS, if_pos (by assumption)]
    · rename_i c3 c4
      exact (hW_hW (w := ((sumSt (partF σ) (2 * n) L L).1, nI (2 * n)))).trans (by rw [wayS, if_neg c3, if_pos (Or.inl c4)])
    · rename_i c3 c4 c5
      rw [wayS, if_neg c3, if_neg (fun q => q.elim c4 (fun q => q c5))]
    · rename_i c3 c4 c5
      exact (hW_hW (w := ((sumSt (partF σ) (2 * n) L L).1, nI (2 * n)))).trans (by rw [wayS, if_neg c3, if_pos (Or.inr c5)])
