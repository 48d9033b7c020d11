/-! ===== the reference: what is told ===== -/
theorem isPl_vp {x : Int32} (h : isPl x) : vp_in x 10 := by
  have h1 := Int32.le_iff_toInt_le.mp (Int32.not_lt.mp h.1)
  have h2 := Int32.lt_iff_toInt_lt.mp (Int32.not_le.mp h.2)
  rw [vp_in_iff]
  change (0 : Int) ≤ _ at h1
  change _ < (10 : Int) at h2
  omega
theorem isCa_vp {x : Int32} (h : isCa x) : vp_in x 5 := by
  have h1 := Int32.le_iff_toInt_le.mp (Int32.not_lt.mp h.1)
  have h2 := Int32.lt_iff_toInt_lt.mp (Int32.not_le.mp h.2)
  rw [vp_in_iff]
  change (0 : Int) ≤ _ at h1
  change _ < (5 : Int) at h2
  omega
theorem vp_mul3 {c a b : Int32} (hc : vp_in c 5) (ha : vp_in a 10) (hb : vp_in b 10) : vp_in (100 * c + 10 * a + b) 500 ∧ (100 * c + 10 * a + b).toNatClampNeg = (c.toNatClampNeg * 10 + a.toNatClampNeg) * 10 + b.toNatClampNeg ∧ (c * 10 + a) * 10 + b = 100 * c + 10 * a + b := by
  obtain ⟨k, hk, rfl⟩ := vp_in_of hc (by decide)
  obtain ⟨i, hi, rfl⟩ := vp_in_of ha (by decide)
  obtain ⟨j, hj, rfl⟩ := vp_in_of hb (by decide)
  have e : (100 : Int32) * nI k + 10 * nI i + nI j = nI ((k * 10 + i) * 10 + j) := by
    rw [show (10 : Int32) = nI 10 from rfl, show (100 : Int32) = nI 100 from rfl, pk_mul, pk_mul, nI_add, nI_add]; congr 1; omega
  have e2 : (nI k * 10 + nI i) * 10 + nI j = nI ((k * 10 + i) * 10 + j) := by
    rw [show (10 : Int32) = nI 10 from rfl, pk_mul, nI_add, pk_mul, nI_add]
  rw [e, e2, cl0 (by omega), cl0 (by omega), cl0 (by omega), cl0 (by omega)]
  exact ⟨vp_in_nI (by omega) (by decide), rfl, rfl⟩
abbrev ix (x : Int32) : Nat := Int32.toNatClampNeg x
abbrev p2 (a b : Int32) : Nat := ix (10 * a + b)
abbrev p3 (c a b : Int32) : Nat := ix (100 * c + 10 * a + b)
set_option maxRecDepth 100000 in
set_option maxHeartbeats 4000000 in
theorem b_X12_miles_0 {g : GP} {CX : State → Array Value → Prop} {Q : AH → Option Value → Prop} {X : AH → String → Prop} {v1 : Int32} {v2 : Int32} {v3 : Int32} {σ : AH}
    (hS : Sh σ)
    (k1 : (¬ (isPl v1)) → (v1 = v2) → Q (uI σ 33 49 (1 : Int32)) (some (.int (0 : Int32))))
    (k2 : (¬ (isPl v1)) → (¬ v1 = v2) → (¬ (isWi v3 (1 : Int32) (9999 : Int32))) → Q (uI σ 33 49 (1 : Int32)) (some (.int (0 : Int32))))
    (k3 : (¬ (isPl v1)) → (¬ v1 = v2) → (isWi v3 (1 : Int32) (9999 : Int32)) → Q (uI σ 33 49 (1 : Int32)) (some (.int (0 : Int32))))
    (k4 : (isPl v1) → (¬ (isPl v2)) → (v1 = v2) → Q (uI σ 33 49 (1 : Int32)) (some (.int (0 : Int32))))
    (k5 : (isPl v1) → (¬ (isPl v2)) → (¬ v1 = v2) → (¬ (isWi v3 (1 : Int32) (9999 : Int32))) → Q (uI σ 33 49 (1 : Int32)) (some (.int (0 : Int32))))
    (k6 : (isPl v1) → (¬ (isPl v2)) → (¬ v1 = v2) → (isWi v3 (1 : Int32) (9999 : Int32)) → Q (uI σ 33 49 (1 : Int32)) (some (.int (0 : Int32))))
    (k7 : (isPl v1) → (isPl v2) → (v1 = v2) → Q (uI σ 33 49 (2 : Int32)) (some (.int (0 : Int32))))
    (k8 : (isPl v1) → (isPl v2) → (¬ v1 = v2) → (¬ (isWi v3 (1 : Int32) (9999 : Int32))) → Q (uI σ 33 49 (2 : Int32)) (some (.int (0 : Int32))))
    (o1 : (isPl v1) → (isPl v2) → (¬ v1 = v2) → (isWi v3 (1 : Int32) (9999 : Int32)) → vp_in (((10 : Int32) * v1) + v2) 100)
    (o2 : (isPl v1) → (isPl v2) → (¬ v1 = v2) → (isWi v3 (1 : Int32) (9999 : Int32)) → vp_in (((10 : Int32) * v2) + v1) 100)
    (k9 : (isPl v1) → (isPl v2) → (¬ v1 = v2) → (isWi v3 (1 : Int32) (9999 : Int32)) → Q (uI (uI (uI σ 33 49 (0 : Int32)) 34 (Int32.toNatClampNeg (((10 : Int32) * v1) + v2)) v3) 34 (Int32.toNatClampNeg (((10 : Int32) * v2) + v1)) v3) (some (.int (zI (uI σ 33 49 (0 : Int32)) 34 (Int32.toNatClampNeg (((10 : Int32) * v1) + v2)))))) :
    V g mX12_miles (Em g mX12_miles Q X) CX 0 0 0 [(0, .ref 33), (1, .int v1), (2, .int v2), (3, .int v3)] [] σ := by
  refine V_aload_n dX12_miles_0 rfl ?_
  refine V_iload_n dX12_miles_1 rfl ?_
  refine V_callS1 (as := [.int v1]) (k' := 0) (n' := 0) (s_X12_isPlace) mw_X12_isPlace w_1216 w_1215 ar_X12_isPlace rfl ⟨rfl, rfl, rfl, rfl, rfl⟩ dX12_miles_2 ?_
  refine V_if_eq 19 dX12_miles_5 rfl (fun c1 => ?_) (fun c1 => ?_)
  · replace c1 := jb_0.mp c1
    refine V_iconst (0 : Int32) dX12_miles_19 (by decide) ?_
    refine V_iload_n dX12_miles_20 rfl ?_
    refine V_iload_n dX12_miles_21 rfl ?_
    refine V_icmp_eq 40 dX12_miles_22 rfl (fun c2 => ?_) (fun c2 => ?_)
    · refine V_iconst (0 : Int32) dX12_miles_40 (by decide) ?_
      refine V_iconst (1 : Int32) dX12_miles_41 (by decide) ?_
      refine V_callV1 (as := [.int (0 : Int32), .int (0 : Int32), .int (1 : Int32)]) (k' := 0) (n' := 0) (s_goes1 hS) mw_X12_goes ko_X12 rfl w_1223 w_20 w_1221 ar_X12_goes rfl ⟨rfl, rfl, rfl, rfl, rfl⟩ dX12_miles_42 (by decide) (shk hS 33 rfl) ?_
      refine V_if_ne 50 dX12_miles_45 rfl (fun z_ => (by first | exact absurd (by decide) z_ | exact absurd z_ (by decide))) (fun _ => ?_)
      refine V_iconst (0 : Int32) dX12_miles_48 (by decide) ?_
      exact V_iret rfl dX12_miles_49 (k1 c1 c2)
    · refine V_iload_n dX12_miles_25 rfl ?_
      refine V_iconst (1 : Int32) dX12_miles_26 (by decide) ?_
      refine V_sipush (9999 : Int32) dX12_miles_27 (by decide) ?_
      refine V_callS1 (as := [.int v3, .int (1 : Int32), .int (9999 : Int32)]) (k' := 0) (n' := 0) (s_X12_in) mw_X12_in w_1219 w_1218 ar_X12_in rfl ⟨rfl, rfl, rfl, rfl, rfl⟩ dX12_miles_30 ?_
      refine V_if_eq 40 dX12_miles_33 rfl (fun c3 => ?_) (fun c3 => ?_)
      · replace c3 := jb_0.mp c3
        refine V_iconst (0 : Int32) dX12_miles_40 (by decide) ?_
        refine V_iconst (1 : Int32) dX12_miles_41 (by decide) ?_
        refine V_callV1 (as := [.int (0 : Int32), .int (0 : Int32), .int (1 : Int32)]) (k' := 0) (n' := 0) (s_goes1 hS) mw_X12_goes ko_X12 rfl w_1223 w_20 w_1221 ar_X12_goes rfl ⟨rfl, rfl, rfl, rfl, rfl⟩ dX12_miles_42 (by decide) (shk hS 33 rfl) ?_
        refine V_if_ne 50 dX12_miles_45 rfl (fun z_ => (by first | exact absurd (by decide) z_ | exact absurd z_ (by decide))) (fun _ => ?_)
        refine V_iconst (0 : Int32) dX12_miles_48 (by decide) ?_
        exact V_iret rfl dX12_miles_49 (k2 c1 c2 c3)
      · replace c3 := jb_n.mp c3
        refine V_iconst (1 : Int32) dX12_miles_36 (by decide) ?_
        refine V_goto 41 dX12_miles_37 rfl ?_
        refine V_iconst (1 : Int32) dX12_miles_41 (by decide) ?_
        refine V_callV1 (as := [.int (0 : Int32), .int (1 : Int32), .int (1 : Int32)]) (k' := 0) (n' := 0) (s_goes1 hS) mw_X12_goes ko_X12 rfl w_1223 w_20 w_1221 ar_X12_goes rfl ⟨rfl, rfl, rfl, rfl, rfl⟩ dX12_miles_42 (by decide) (shk hS 33 rfl) ?_
        refine V_if_ne 50 dX12_miles_45 rfl (fun z_ => (by first | exact absurd (by decide) z_ | exact absurd z_ (by decide))) (fun _ => ?_)
        refine V_iconst (0 : Int32) dX12_miles_48 (by decide) ?_
        exact V_iret rfl dX12_miles_49 (k3 c1 c2 c3)
  · replace c1 := jb_n.mp c1
    refine V_iload_n dX12_miles_8 rfl ?_
    refine V_callS1 (as := [.int v2]) (k' := 0) (n' := 0) (s_X12_isPlace) mw_X12_isPlace w_1216 w_1215 ar_X12_isPlace rfl ⟨rfl, rfl, rfl, rfl, rfl⟩ dX12_miles_9 ?_
    refine V_if_eq 19 dX12_miles_12 rfl (fun c4 => ?_) (fun c4 => ?_)
    · replace c4 := jb_0.mp c4
      refine V_iconst (0 : Int32) dX12_miles_19 (by decide) ?_
      refine V_iload_n dX12_miles_20 rfl ?_
      refine V_iload_n dX12_miles_21 rfl ?_
      refine V_icmp_eq 40 dX12_miles_22 rfl (fun c5 => ?_) (fun c5 => ?_)
      · refine V_iconst (0 : Int32) dX12_miles_40 (by decide) ?_
        refine V_iconst (1 : Int32) dX12_miles_41 (by decide) ?_
        refine V_callV1 (as := [.int (0 : Int32), .int (0 : Int32), .int (1 : Int32)]) (k' := 0) (n' := 0) (s_goes1 hS) mw_X12_goes ko_X12 rfl w_1223 w_20 w_1221 ar_X12_goes rfl ⟨rfl, rfl, rfl, rfl, rfl⟩ dX12_miles_42 (by decide) (shk hS 33 rfl) ?_
        refine V_if_ne 50 dX12_miles_45 rfl (fun z_ => (by first | exact absurd (by decide) z_ | exact absurd z_ (by decide))) (fun _ => ?_)
        refine V_iconst (0 : Int32) dX12_miles_48 (by decide) ?_
        exact V_iret rfl dX12_miles_49 (k4 c1 c4 c5)
      · refine V_iload_n dX12_miles_25 rfl ?_
        refine V_iconst (1 : Int32) dX12_miles_26 (by decide) ?_
        refine V_sipush (9999 : Int32) dX12_miles_27 (by decide) ?_
        refine V_callS1 (as := [.int v3, .int (1 : Int32), .int (9999 : Int32)]) (k' := 0) (n' := 0) (s_X12_in) mw_X12_in w_1219 w_1218 ar_X12_in rfl ⟨rfl, rfl, rfl, rfl, rfl⟩ dX12_miles_30 ?_
        refine V_if_eq 40 dX12_miles_33 rfl (fun c6 => ?_) (fun c6 => ?_)
        · replace c6 := jb_0.mp c6
          refine V_iconst (0 : Int32) dX12_miles_40 (by decide) ?_
          refine V_iconst (1 : Int32) dX12_miles_41 (by decide) ?_
          refine V_callV1 (as := [.int (0 : Int32), .int (0 : Int32), .int (1 : Int32)]) (k' := 0) (n' := 0) (s_goes1 hS) mw_X12_goes ko_X12 rfl w_1223 w_20 w_1221 ar_X12_goes rfl ⟨rfl, rfl, rfl, rfl, rfl⟩ dX12_miles_42 (by decide) (shk hS 33 rfl) ?_
          refine V_if_ne 50 dX12_miles_45 rfl (fun z_ => (by first | exact absurd (by decide) z_ | exact absurd z_ (by decide))) (fun _ => ?_)
          refine V_iconst (0 : Int32) dX12_miles_48 (by decide) ?_
          exact V_iret rfl dX12_miles_49 (k5 c1 c4 c5 c6)
        · replace c6 := jb_n.mp c6
          refine V_iconst (1 : Int32) dX12_miles_36 (by decide) ?_
          refine V_goto 41 dX12_miles_37 rfl ?_
          refine V_iconst (1 : Int32) dX12_miles_41 (by decide) ?_
          refine V_callV1 (as := [.int (0 : Int32), .int (1 : Int32), .int (1 : Int32)]) (k' := 0) (n' := 0) (s_goes1 hS) mw_X12_goes ko_X12 rfl w_1223 w_20 w_1221 ar_X12_goes rfl ⟨rfl, rfl, rfl, rfl, rfl⟩ dX12_miles_42 (by decide) (shk hS 33 rfl) ?_
          refine V_if_ne 50 dX12_miles_45 rfl (fun z_ => (by first | exact absurd (by decide) z_ | exact absurd z_ (by decide))) (fun _ => ?_)
          refine V_iconst (0 : Int32) dX12_miles_48 (by decide) ?_
          exact V_iret rfl dX12_miles_49 (k6 c1 c4 c5 c6)
    · replace c4 := jb_n.mp c4
      refine V_iconst (1 : Int32) dX12_miles_15 (by decide) ?_
      refine V_goto 20 dX12_miles_16 rfl ?_
      refine V_iload_n dX12_miles_20 rfl ?_
      refine V_iload_n dX12_miles_21 rfl ?_
      refine V_icmp_eq 40 dX12_miles_22 rfl (fun c7 => ?_) (fun c7 => ?_)
      · refine V_iconst (0 : Int32) dX12_miles_40 (by decide) ?_
        refine V_iconst (1 : Int32) dX12_miles_41 (by decide) ?_
        refine V_callV1 (as := [.int (1 : Int32), .int (0 : Int32), .int (1 : Int32)]) (k' := 0) (n' := 0) (s_goes2 hS) mw_X12_goes ko_X12 rfl w_1223 w_20 w_1221 ar_X12_goes rfl ⟨rfl, rfl, rfl, rfl, rfl⟩ dX12_miles_42 (by decide) (shk hS 33 rfl) ?_
        refine V_if_ne 50 dX12_miles_45 rfl (fun z_ => (by first | exact absurd (by decide) z_ | exact absurd z_ (by decide))) (fun _ => ?_)
        refine V_iconst (0 : Int32) dX12_miles_48 (by decide) ?_
        exact V_iret rfl dX12_miles_49 (k7 c1 c4 c7)
      · refine V_iload_n dX12_miles_25 rfl ?_
        refine V_iconst (1 : Int32) dX12_miles_26 (by decide) ?_
        refine V_sipush (9999 : Int32) dX12_miles_27 (by decide) ?_
        refine V_callS1 (as := [.int v3, .int (1 : Int32), .int (9999 : Int32)]) (k' := 0) (n' := 0) (s_X12_in) mw_X12_in w_1219 w_1218 ar_X12_in rfl ⟨rfl, rfl, rfl, rfl, rfl⟩ dX12_miles_30 ?_
        refine V_if_eq 40 dX12_miles_33 rfl (fun c8 => ?_) (fun c8 => ?_)
        · replace c8 := jb_0.mp c8
          refine V_iconst (0 : Int32) dX12_miles_40 (by decide) ?_
          refine V_iconst (1 : Int32) dX12_miles_41 (by decide) ?_
          refine V_callV1 (as := [.int (1 : Int32), .int (0 : Int32), .int (1 : Int32)]) (k' := 0) (n' := 0) (s_goes2 hS) mw_X12_goes ko_X12 rfl w_1223 w_20 w_1221 ar_X12_goes rfl ⟨rfl, rfl, rfl, rfl, rfl⟩ dX12_miles_42 (by decide) (shk hS 33 rfl) ?_
          refine V_if_ne 50 dX12_miles_45 rfl (fun z_ => (by first | exact absurd (by decide) z_ | exact absurd z_ (by decide))) (fun _ => ?_)
          refine V_iconst (0 : Int32) dX12_miles_48 (by decide) ?_
          exact V_iret rfl dX12_miles_49 (k8 c1 c4 c7 c8)
        · replace c8 := jb_n.mp c8
          refine V_iconst (1 : Int32) dX12_miles_36 (by decide) ?_
          refine V_goto 41 dX12_miles_37 rfl ?_
          refine V_iconst (1 : Int32) dX12_miles_41 (by decide) ?_
          refine V_callV1 (as := [.int (1 : Int32), .int (1 : Int32), .int (1 : Int32)]) (k' := 0) (n' := 0) (s_goes0 hS) mw_X12_goes ko_X12 rfl w_1223 w_20 w_1221 ar_X12_goes rfl ⟨rfl, rfl, rfl, rfl, rfl⟩ dX12_miles_42 (by decide) (shk hS 33 rfl) ?_
          refine V_if_ne 50 dX12_miles_45 rfl (fun _ => ?_) (fun z_ => (by first | exact absurd (by decide) z_ | exact absurd z_ (by decide)))
          refine V_aload_n dX12_miles_50 rfl ?_
          refine V_getf (fk := 1) (Value.ref 34) ko_X12 rfl w_1056 dX12_miles_51 (by decide) (shk (Sh_uI hS) 33 rfl) (congrArg Value.ref (shr (Sh_uI hS) 33 1 34 (by decide))) ?_
          refine V_bipush (10 : Int32) dX12_miles_54 (by decide) ?_
          refine V_iload_n dX12_miles_56 rfl ?_
          refine V_imul dX12_miles_57 ?_
          refine V_iload_n dX12_miles_58 rfl ?_
          refine V_iadd dX12_miles_59 ?_
          refine V_iald dX12_miles_60 (by decide) (shk (Sh_uI hS) 34 rfl) (vp_l (n := 100) (shl (Sh_uI hS) 34 rfl) (o1 c1 c4 c7 c8)) ?_
          refine V_istore [(0, .ref 33), (1, .int v1), (2, .int v2), (3, .int v3), (4, .int (zI (uI σ 33 49 (0 : Int32)) 34 (Int32.toNatClampNeg (((10 : Int32) * v1) + v2))))] dX12_miles_61 rfl rfl ?_
          refine V_aload_n dX12_miles_63 rfl ?_
          refine V_getf (fk := 1) (Value.ref 34) ko_X12 rfl w_1056 dX12_miles_64 (by decide) (shk (Sh_uI hS) 33 rfl) (congrArg Value.ref (shr (Sh_uI hS) 33 1 34 (by decide))) ?_
          refine V_bipush (10 : Int32) dX12_miles_67 (by decide) ?_
          refine V_iload_n dX12_miles_69 rfl ?_
          refine V_imul dX12_miles_70 ?_
          refine V_iload_n dX12_miles_71 rfl ?_
          refine V_iadd dX12_miles_72 ?_
          refine V_iload_n dX12_miles_73 rfl ?_
          refine V_iast dX12_miles_74 (by decide) (shk (Sh_uI hS) 34 rfl) (vp_l (n := 100) (shl (Sh_uI hS) 34 rfl) (o1 c1 c4 c7 c8)) ?_
          refine V_aload_n dX12_miles_75 rfl ?_
          refine V_getf (fk := 1) (Value.ref 34) ko_X12 rfl w_1056 dX12_miles_76 (by decide) (shk (Sh_uI (Sh_uI hS)) 33 rfl) (congrArg Value.ref (shr (Sh_uI (Sh_uI hS)) 33 1 34 (by decide))) ?_
          refine V_bipush (10 : Int32) dX12_miles_79 (by decide) ?_
          refine V_iload_n dX12_miles_81 rfl ?_
          refine V_imul dX12_miles_82 ?_
          refine V_iload_n dX12_miles_83 rfl ?_
          refine V_iadd dX12_miles_84 ?_
          refine V_iload_n dX12_miles_85 rfl ?_
          refine V_iast dX12_miles_86 (by decide) (shk (Sh_uI (Sh_uI hS)) 34 rfl) (vp_l (n := 100) (shl (Sh_uI (Sh_uI hS)) 34 rfl) (o2 c1 c4 c7 c8)) ?_
          refine V_iload dX12_miles_87 rfl ?_
          exact V_iret rfl dX12_miles_89 (k9 c1 c4 c7 c8)

set_option maxRecDepth 100000 in
set_option maxHeartbeats 4000000 in
theorem b_X12_fare_0 {g : GP} {CX : State → Array Value → Prop} {Q : AH → Option Value → Prop} {X : AH → String → Prop} {v1 : Int32} {v2 : Int32} {v3 : Int32} {v4 : Int32} {v5 : Int32} {v6 : Int32} {σ : AH}
    (hS : Sh σ)
    (k1 : (v1 = v2) → (¬ (isPl v1)) → ((40 : Int32) ≤ (zI σ 33 6)) → Q (uI σ 33 49 (1 : Int32)) (some (.int (0 : Int32))))
    (k2 : (v1 = v2) → (¬ (isPl v1)) → (¬ (40 : Int32) ≤ (zI σ 33 6)) → Q (uI σ 33 49 (1 : Int32)) (some (.int (0 : Int32))))
    (k3 : (v1 = v2) → (isPl v1) → (¬ (isPl v2)) → ((40 : Int32) ≤ (zI σ 33 6)) → Q (uI σ 33 49 (1 : Int32)) (some (.int (0 : Int32))))
    (k4 : (v1 = v2) → (isPl v1) → (¬ (isPl v2)) → (¬ (40 : Int32) ≤ (zI σ 33 6)) → Q (uI σ 33 49 (1 : Int32)) (some (.int (0 : Int32))))
    (k5 : (v1 = v2) → (isPl v1) → (isPl v2) → ((40 : Int32) ≤ (zI σ 33 6)) → Q (uI σ 33 49 (2 : Int32)) (some (.int (0 : Int32))))
    (k6 : (v1 = v2) → (isPl v1) → (isPl v2) → (¬ (40 : Int32) ≤ (zI σ 33 6)) → Q (uI σ 33 49 (2 : Int32)) (some (.int (0 : Int32))))
    (k7 : (¬ v1 = v2) → (¬ (isWi v3 (1 : Int32) (1000000 : Int32))) → (¬ (isPl v1)) → ((40 : Int32) ≤ (zI σ 33 6)) → Q (uI σ 33 49 (1 : Int32)) (some (.int (0 : Int32))))
    (k8 : (¬ v1 = v2) → (¬ (isWi v3 (1 : Int32) (1000000 : Int32))) → (¬ (isPl v1)) → (¬ (40 : Int32) ≤ (zI σ 33 6)) → Q (uI σ 33 49 (1 : Int32)) (some (.int (0 : Int32))))
    (k9 : (¬ v1 = v2) → (¬ (isWi v3 (1 : Int32) (1000000 : Int32))) → (isPl v1) → (¬ (isPl v2)) → ((40 : Int32) ≤ (zI σ 33 6)) → Q (uI σ 33 49 (1 : Int32)) (some (.int (0 : Int32))))
    (k10 : (¬ v1 = v2) → (¬ (isWi v3 (1 : Int32) (1000000 : Int32))) → (isPl v1) → (¬ (isPl v2)) → (¬ (40 : Int32) ≤ (zI σ 33 6)) → Q (uI σ 33 49 (1 : Int32)) (some (.int (0 : Int32))))
    (k11 : (¬ v1 = v2) → (¬ (isWi v3 (1 : Int32) (1000000 : Int32))) → (isPl v1) → (isPl v2) → ((40 : Int32) ≤ (zI σ 33 6)) → Q (uI σ 33 49 (2 : Int32)) (some (.int (0 : Int32))))
    (k12 : (¬ v1 = v2) → (¬ (isWi v3 (1 : Int32) (1000000 : Int32))) → (isPl v1) → (isPl v2) → (¬ (40 : Int32) ≤ (zI σ 33 6)) → Q (uI σ 33 49 (2 : Int32)) (some (.int (0 : Int32))))
    (k13 : (¬ v1 = v2) → (isWi v3 (1 : Int32) (1000000 : Int32)) → (¬ (isWi v4 (0 : Int32) (999 : Int32))) → (¬ (isPl v1)) → ((40 : Int32) ≤ (zI σ 33 6)) → Q (uI σ 33 49 (1 : Int32)) (some (.int (0 : Int32))))
    (k14 : (¬ v1 = v2) → (isWi v3 (1 : Int32) (1000000 : Int32)) → (¬ (isWi v4 (0 : Int32) (999 : Int32))) → (¬ (isPl v1)) → (¬ (40 : Int32) ≤ (zI σ 33 6)) → Q (uI σ 33 49 (1 : Int32)) (some (.int (0 : Int32))))
    (k15 : (¬ v1 = v2) → (isWi v3 (1 : Int32) (1000000 : Int32)) → (¬ (isWi v4 (0 : Int32) (999 : Int32))) → (isPl v1) → (¬ (isPl v2)) → ((40 : Int32) ≤ (zI σ 33 6)) → Q (uI σ 33 49 (1 : Int32)) (some (.int (0 : Int32))))
    (k16 : (¬ v1 = v2) → (isWi v3 (1 : Int32) (1000000 : Int32)) → (¬ (isWi v4 (0 : Int32) (999 : Int32))) → (isPl v1) → (¬ (isPl v2)) → (¬ (40 : Int32) ≤ (zI σ 33 6)) → Q (uI σ 33 49 (1 : Int32)) (some (.int (0 : Int32))))
    (k17 : (¬ v1 = v2) → (isWi v3 (1 : Int32) (1000000 : Int32)) → (¬ (isWi v4 (0 : Int32) (999 : Int32))) → (isPl v1) → (isPl v2) → ((40 : Int32) ≤ (zI σ 33 6)) → Q (uI σ 33 49 (2 : Int32)) (some (.int (0 : Int32))))
    (k18 : (¬ v1 = v2) → (isWi v3 (1 : Int32) (1000000 : Int32)) → (¬ (isWi v4 (0 : Int32) (999 : Int32))) → (isPl v1) → (isPl v2) → (¬ (40 : Int32) ≤ (zI σ 33 6)) → Q (uI σ 33 49 (2 : Int32)) (some (.int (0 : Int32))))
    (k19 : (¬ v1 = v2) → (isWi v3 (1 : Int32) (1000000 : Int32)) → (isWi v4 (0 : Int32) (999 : Int32)) → (¬ (isWi v5 v4 (999 : Int32))) → (¬ (isPl v1)) → ((40 : Int32) ≤ (zI σ 33 6)) → Q (uI σ 33 49 (1 : Int32)) (some (.int (0 : Int32))))
    (k20 : (¬ v1 = v2) → (isWi v3 (1 : Int32) (1000000 : Int32)) → (isWi v4 (0 : Int32) (999 : Int32)) → (¬ (isWi v5 v4 (999 : Int32))) → (¬ (isPl v1)) → (¬ (40 : Int32) ≤ (zI σ 33 6)) → Q (uI σ 33 49 (1 : Int32)) (some (.int (0 : Int32))))
    (k21 : (¬ v1 = v2) → (isWi v3 (1 : Int32) (1000000 : Int32)) → (isWi v4 (0 : Int32) (999 : Int32)) → (¬ (isWi v5 v4 (999 : Int32))) → (isPl v1) → (¬ (isPl v2)) → ((40 : Int32) ≤ (zI σ 33 6)) → Q (uI σ 33 49 (1 : Int32)) (some (.int (0 : Int32))))
    (k22 : (¬ v1 = v2) → (isWi v3 (1 : Int32) (1000000 : Int32)) → (isWi v4 (0 : Int32) (999 : Int32)) → (¬ (isWi v5 v4 (999 : Int32))) → (isPl v1) → (¬ (isPl v2)) → (¬ (40 : Int32) ≤ (zI σ 33 6)) → Q (uI σ 33 49 (1 : Int32)) (some (.int (0 : Int32))))
    (k23 : (¬ v1 = v2) → (isWi v3 (1 : Int32) (1000000 : Int32)) → (isWi v4 (0 : Int32) (999 : Int32)) → (¬ (isWi v5 v4 (999 : Int32))) → (isPl v1) → (isPl v2) → ((40 : Int32) ≤ (zI σ 33 6)) → Q (uI σ 33 49 (2 : Int32)) (some (.int (0 : Int32))))
    (k24 : (¬ v1 = v2) → (isWi v3 (1 : Int32) (1000000 : Int32)) → (isWi v4 (0 : Int32) (999 : Int32)) → (¬ (isWi v5 v4 (999 : Int32))) → (isPl v1) → (isPl v2) → (¬ (40 : Int32) ≤ (zI σ 33 6)) → Q (uI σ 33 49 (2 : Int32)) (some (.int (0 : Int32))))
    (k25 : (¬ v1 = v2) → (isWi v3 (1 : Int32) (1000000 : Int32)) → (isWi v4 (0 : Int32) (999 : Int32)) → (isWi v5 v4 (999 : Int32)) → (¬ (isWi v6 (0 : Int32) (7 : Int32))) → (¬ (isPl v1)) → ((40 : Int32) ≤ (zI σ 33 6)) → Q (uI σ 33 49 (1 : Int32)) (some (.int (0 : Int32))))
    (k26 : (¬ v1 = v2) → (isWi v3 (1 : Int32) (1000000 : Int32)) → (isWi v4 (0 : Int32) (999 : Int32)) → (isWi v5 v4 (999 : Int32)) → (¬ (isWi v6 (0 : Int32) (7 : Int32))) → (¬ (isPl v1)) → (¬ (40 : Int32) ≤ (zI σ 33 6)) → Q (uI σ 33 49 (1 : Int32)) (some (.int (0 : Int32))))
    (k27 : (¬ v1 = v2) → (isWi v3 (1 : Int32) (1000000 : Int32)) → (isWi v4 (0 : Int32) (999 : Int32)) → (isWi v5 v4 (999 : Int32)) → (¬ (isWi v6 (0 : Int32) (7 : Int32))) → (isPl v1) → (¬ (isPl v2)) → ((40 : Int32) ≤ (zI σ 33 6)) → Q (uI σ 33 49 (1 : Int32)) (some (.int (0 : Int32))))
    (k28 : (¬ v1 = v2) → (isWi v3 (1 : Int32) (1000000 : Int32)) → (isWi v4 (0 : Int32) (999 : Int32)) → (isWi v5 v4 (999 : Int32)) → (¬ (isWi v6 (0 : Int32) (7 : Int32))) → (isPl v1) → (¬ (isPl v2)) → (¬ (40 : Int32) ≤ (zI σ 33 6)) → Q (uI σ 33 49 (1 : Int32)) (some (.int (0 : Int32))))
    (k29 : (¬ v1 = v2) → (isWi v3 (1 : Int32) (1000000 : Int32)) → (isWi v4 (0 : Int32) (999 : Int32)) → (isWi v5 v4 (999 : Int32)) → (¬ (isWi v6 (0 : Int32) (7 : Int32))) → (isPl v1) → (isPl v2) → ((40 : Int32) ≤ (zI σ 33 6)) → Q (uI σ 33 49 (2 : Int32)) (some (.int (0 : Int32))))
    (k30 : (¬ v1 = v2) → (isWi v3 (1 : Int32) (1000000 : Int32)) → (isWi v4 (0 : Int32) (999 : Int32)) → (isWi v5 v4 (999 : Int32)) → (¬ (isWi v6 (0 : Int32) (7 : Int32))) → (isPl v1) → (isPl v2) → (¬ (40 : Int32) ≤ (zI σ 33 6)) → Q (uI σ 33 49 (2 : Int32)) (some (.int (0 : Int32))))
    (k31 : (¬ v1 = v2) → (isWi v3 (1 : Int32) (1000000 : Int32)) → (isWi v4 (0 : Int32) (999 : Int32)) → (isWi v5 v4 (999 : Int32)) → (isWi v6 (0 : Int32) (7 : Int32)) → (¬ (isPl v1)) → ((40 : Int32) ≤ (zI σ 33 6)) → Q (uI σ 33 49 (1 : Int32)) (some (.int (0 : Int32))))
    (k32 : (¬ v1 = v2) → (isWi v3 (1 : Int32) (1000000 : Int32)) → (isWi v4 (0 : Int32) (999 : Int32)) → (isWi v5 v4 (999 : Int32)) → (isWi v6 (0 : Int32) (7 : Int32)) → (¬ (isPl v1)) → (¬ (40 : Int32) ≤ (zI σ 33 6)) → Q (uI σ 33 49 (1 : Int32)) (some (.int (0 : Int32))))
    (k33 : (¬ v1 = v2) → (isWi v3 (1 : Int32) (1000000 : Int32)) → (isWi v4 (0 : Int32) (999 : Int32)) → (isWi v5 v4 (999 : Int32)) → (isWi v6 (0 : Int32) (7 : Int32)) → (isPl v1) → (¬ (isPl v2)) → ((40 : Int32) ≤ (zI σ 33 6)) → Q (uI σ 33 49 (1 : Int32)) (some (.int (0 : Int32))))
    (k34 : (¬ v1 = v2) → (isWi v3 (1 : Int32) (1000000 : Int32)) → (isWi v4 (0 : Int32) (999 : Int32)) → (isWi v5 v4 (999 : Int32)) → (isWi v6 (0 : Int32) (7 : Int32)) → (isPl v1) → (¬ (isPl v2)) → (¬ (40 : Int32) ≤ (zI σ 33 6)) → Q (uI σ 33 49 (1 : Int32)) (some (.int (0 : Int32))))
    (k35 : (¬ v1 = v2) → (isWi v3 (1 : Int32) (1000000 : Int32)) → (isWi v4 (0 : Int32) (999 : Int32)) → (isWi v5 v4 (999 : Int32)) → (isWi v6 (0 : Int32) (7 : Int32)) → (isPl v1) → (isPl v2) → ((40 : Int32) ≤ (zI σ 33 6)) → Q (uI σ 33 49 (3 : Int32)) (some (.int (0 : Int32))))
    (o1 : (¬ v1 = v2) → (isWi v3 (1 : Int32) (1000000 : Int32)) → (isWi v4 (0 : Int32) (999 : Int32)) → (isWi v5 v4 (999 : Int32)) → (isWi v6 (0 : Int32) (7 : Int32)) → (isPl v1) → (isPl v2) → (¬ (40 : Int32) ≤ (zI σ 33 6)) → vp_in (zI σ 33 6) 40)
    (k36 : (¬ v1 = v2) → (isWi v3 (1 : Int32) (1000000 : Int32)) → (isWi v4 (0 : Int32) (999 : Int32)) → (isWi v5 v4 (999 : Int32)) → (isWi v6 (0 : Int32) (7 : Int32)) → (isPl v1) → (isPl v2) → (¬ (40 : Int32) ≤ (zI σ 33 6)) → Q (uI (uI (uI (uI (uI (uI (uI (uI σ 33 49 (0 : Int32)) 39 (Int32.toNatClampNeg (zI σ 33 6)) v1) 40 (Int32.toNatClampNeg (zI σ 33 6)) v2) 41 (Int32.toNatClampNeg (zI σ 33 6)) v3) 42 (Int32.toNatClampNeg (zI σ 33 6)) v4) 43 (Int32.toNatClampNeg (zI σ 33 6)) v5) 44 (Int32.toNatClampNeg (zI σ 33 6)) v6) 33 6 ((zI σ 33 6) + (1 : Int32))) (some (.int (((zI σ 33 6) + (1 : Int32)) - (1 : Int32))))) :
    V g mX12_fare (Em g mX12_fare Q X) CX 0 0 0 [(0, .ref 33), (1, .int v1), (2, .int v2), (3, .int v3), (4, .int v4), (5, .int v5), (6, .int v6)] [] σ := by
  refine V_iload_n dX12_fare_0 rfl ?_
  refine V_iload_n dX12_fare_1 rfl ?_
  refine V_icmp_eq 55 dX12_fare_2 rfl (fun c1 => ?_) (fun c1 => ?_)
  · refine V_iconst (0 : Int32) dX12_fare_55 (by decide) ?_
    refine V_istore [(0, .ref 33), (1, .int v1), (2, .int v2), (3, .int v3), (4, .int v4), (5, .int v5), (6, .int v6), (7, .int (0 : Int32))] dX12_fare_56 rfl rfl ?_
    refine V_aload_n dX12_fare_58 rfl ?_
    refine V_iload_n dX12_fare_59 rfl ?_
    refine V_callS1 (as := [.int v1]) (k' := 0) (n' := 0) (s_X12_isPlace) mw_X12_isPlace w_1216 w_1215 ar_X12_isPlace rfl ⟨rfl, rfl, rfl, rfl, rfl⟩ dX12_fare_60 ?_
    refine V_if_eq 77 dX12_fare_63 rfl (fun c2 => ?_) (fun c2 => ?_)
    · replace c2 := jb_0.mp c2
      refine V_iconst (0 : Int32) dX12_fare_77 (by decide) ?_
      refine V_iload dX12_fare_78 rfl ?_
      refine V_aload_n dX12_fare_80 rfl ?_
      refine V_getf (fk := 6) (Value.int (zI σ 33 6)) ko_X12 rfl w_1061 dX12_fare_81 (by decide) (shk hS 33 rfl) rfl ?_
      refine V_bipush (40 : Int32) dX12_fare_84 (by decide) ?_
      refine V_icmp_ge 93 dX12_fare_86 rfl (fun c3 => ?_) (fun c3 => ?_)
      · refine V_iconst (0 : Int32) dX12_fare_93 (by decide) ?_
        refine V_callV1 (as := [.int (0 : Int32), .int (0 : Int32), .int (0 : Int32)]) (k' := 0) (n' := 0) (s_goes1 hS) mw_X12_goes ko_X12 rfl w_1223 w_20 w_1221 ar_X12_goes rfl ⟨rfl, rfl, rfl, rfl, rfl⟩ dX12_fare_94 (by decide) (shk hS 33 rfl) ?_
        refine V_if_ne 102 dX12_fare_97 rfl (fun z_ => (by first | exact absurd (by decide) z_ | exact absurd z_ (by decide))) (fun _ => ?_)
        refine V_iconst (0 : Int32) dX12_fare_100 (by decide) ?_
        exact V_iret rfl dX12_fare_101 (k1 c1 c2 c3)
      · refine V_iconst (1 : Int32) dX12_fare_89 (by decide) ?_
        refine V_goto 94 dX12_fare_90 rfl ?_
        refine V_callV1 (as := [.int (0 : Int32), .int (0 : Int32), .int (1 : Int32)]) (k' := 0) (n' := 0) (s_goes1 hS) mw_X12_goes ko_X12 rfl w_1223 w_20 w_1221 ar_X12_goes rfl ⟨rfl, rfl, rfl, rfl, rfl⟩ dX12_fare_94 (by decide) (shk hS 33 rfl) ?_
        refine V_if_ne 102 dX12_fare_97 rfl (fun z_ => (by first | exact absurd (by decide) z_ | exact absurd z_ (by decide))) (fun _ => ?_)
        refine V_iconst (0 : Int32) dX12_fare_100 (by decide) ?_
        exact V_iret rfl dX12_fare_101 (k2 c1 c2 c3)
    · replace c2 := jb_n.mp c2
      refine V_iload_n dX12_fare_66 rfl ?_
      refine V_callS1 (as := [.int v2]) (k' := 0) (n' := 0) (s_X12_isPlace) mw_X12_isPlace w_1216 w_1215 ar_X12_isPlace rfl ⟨rfl, rfl, rfl, rfl, rfl⟩ dX12_fare_67 ?_
      refine V_if_eq 77 dX12_fare_70 rfl (fun c4 => ?_) (fun c4 => ?_)
      · replace c4 := jb_0.mp c4
        refine V_iconst (0 : Int32) dX12_fare_77 (by decide) ?_
        refine V_iload dX12_fare_78 rfl ?_
        refine V_aload_n dX12_fare_80 rfl ?_
        refine V_getf (fk := 6) (Value.int (zI σ 33 6)) ko_X12 rfl w_1061 dX12_fare_81 (by decide) (shk hS 33 rfl) rfl ?_
        refine V_bipush (40 : Int32) dX12_fare_84 (by decide) ?_
        refine V_icmp_ge 93 dX12_fare_86 rfl (fun c5 => ?_) (fun c5 => ?_)
        · refine V_iconst (0 : Int32) dX12_fare_93 (by decide) ?_
          refine V_callV1 (as := [.int (0 : Int32), .int (0 : Int32), .int (0 : Int32)]) (k' := 0) (n' := 0) (s_goes1 hS) mw_X12_goes ko_X12 rfl w_1223 w_20 w_1221 ar_X12_goes rfl ⟨rfl, rfl, rfl, rfl, rfl⟩ dX12_fare_94 (by decide) (shk hS 33 rfl) ?_
          refine V_if_ne 102 dX12_fare_97 rfl (fun z_ => (by first | exact absurd (by decide) z_ | exact absurd z_ (by decide))) (fun _ => ?_)
          refine V_iconst (0 : Int32) dX12_fare_100 (by decide) ?_
          exact V_iret rfl dX12_fare_101 (k3 c1 c2 c4 c5)
        · refine V_iconst (1 : Int32) dX12_fare_89 (by decide) ?_
          refine V_goto 94 dX12_fare_90 rfl ?_
          refine V_callV1 (as := [.int (0 : Int32), .int (0 : Int32), .int (1 : Int32)]) (k' := 0) (n' := 0) (s_goes1 hS) mw_X12_goes ko_X12 rfl w_1223 w_20 w_1221 ar_X12_goes rfl ⟨rfl, rfl, rfl, rfl, rfl⟩ dX12_fare_94 (by decide) (shk hS 33 rfl) ?_
          refine V_if_ne 102 dX12_fare_97 rfl (fun z_ => (by first | exact absurd (by decide) z_ | exact absurd z_ (by decide))) (fun _ => ?_)
          refine V_iconst (0 : Int32) dX12_fare_100 (by decide) ?_
          exact V_iret rfl dX12_fare_101 (k4 c1 c2 c4 c5)
      · replace c4 := jb_n.mp c4
        refine V_iconst (1 : Int32) dX12_fare_73 (by decide) ?_
        refine V_goto 78 dX12_fare_74 rfl ?_
        refine V_iload dX12_fare_78 rfl ?_
        refine V_aload_n dX12_fare_80 rfl ?_
        refine V_getf (fk := 6) (Value.int (zI σ 33 6)) ko_X12 rfl w_1061 dX12_fare_81 (by decide) (shk hS 33 rfl) rfl ?_
        refine V_bipush (40 : Int32) dX12_fare_84 (by decide) ?_
        refine V_icmp_ge 93 dX12_fare_86 rfl (fun c6 => ?_) (fun c6 => ?_)
        · refine V_iconst (0 : Int32) dX12_fare_93 (by decide) ?_
          refine V_callV1 (as := [.int (1 : Int32), .int (0 : Int32), .int (0 : Int32)]) (k' := 0) (n' := 0) (s_goes2 hS) mw_X12_goes ko_X12 rfl w_1223 w_20 w_1221 ar_X12_goes rfl ⟨rfl, rfl, rfl, rfl, rfl⟩ dX12_fare_94 (by decide) (shk hS 33 rfl) ?_
          refine V_if_ne 102 dX12_fare_97 rfl (fun z_ => (by first | exact absurd (by decide) z_ | exact absurd z_ (by decide))) (fun _ => ?_)
          refine V_iconst (0 : Int32) dX12_fare_100 (by decide) ?_
          exact V_iret rfl dX12_fare_101 (k5 c1 c2 c4 c6)
        · refine V_iconst (1 : Int32) dX12_fare_89 (by decide) ?_
          refine V_goto 94 dX12_fare_90 rfl ?_
          refine V_callV1 (as := [.int (1 : Int32), .int (0 : Int32), .int (1 : Int32)]) (k' := 0) (n' := 0) (s_goes2 hS) mw_X12_goes ko_X12 rfl w_1223 w_20 w_1221 ar_X12_goes rfl ⟨rfl, rfl, rfl, rfl, rfl⟩ dX12_fare_94 (by decide) (shk hS 33 rfl) ?_
          refine V_if_ne 102 dX12_fare_97 rfl (fun z_ => (by first | exact absurd (by decide) z_ | exact absurd z_ (by decide))) (fun _ => ?_)
          refine V_iconst (0 : Int32) dX12_fare_100 (by decide) ?_
          exact V_iret rfl dX12_fare_101 (k6 c1 c2 c4 c6)
  · refine V_iload_n dX12_fare_5 rfl ?_
    refine V_iconst (1 : Int32) dX12_fare_6 (by decide) ?_
    refine V_ldc (v := (1000000 : Int32)) w_1229 dX12_fare_7 ?_
    refine V_callS1 (as := [.int v3, .int (1 : Int32), .int (1000000 : Int32)]) (k' := 0) (n' := 0) (s_X12_in) mw_X12_in w_1219 w_1218 ar_X12_in rfl ⟨rfl, rfl, rfl, rfl, rfl⟩ dX12_fare_9 ?_
    refine V_if_eq 55 dX12_fare_12 rfl (fun c7 => ?_) (fun c7 => ?_)
    · replace c7 := jb_0.mp c7
      refine V_iconst (0 : Int32) dX12_fare_55 (by decide) ?_
      refine V_istore [(0, .ref 33), (1, .int v1), (2, .int v2), (3, .int v3), (4, .int v4), (5, .int v5), (6, .int v6), (7, .int (0 : Int32))] dX12_fare_56 rfl rfl ?_
      refine V_aload_n dX12_fare_58 rfl ?_
      refine V_iload_n dX12_fare_59 rfl ?_
      refine V_callS1 (as := [.int v1]) (k' := 0) (n' := 0) (s_X12_isPlace) mw_X12_isPlace w_1216 w_1215 ar_X12_isPlace rfl ⟨rfl, rfl, rfl, rfl, rfl⟩ dX12_fare_60 ?_
      refine V_if_eq 77 dX12_fare_63 rfl (fun c8 => ?_) (fun c8 => ?_)
      · replace c8 := jb_0.mp c8
        refine V_iconst (0 : Int32) dX12_fare_77 (by decide) ?_
        refine V_iload dX12_fare_78 rfl ?_
        refine V_aload_n dX12_fare_80 rfl ?_
        refine V_getf (fk := 6) (Value.int (zI σ 33 6)) ko_X12 rfl w_1061 dX12_fare_81 (by decide) (shk hS 33 rfl) rfl ?_
        refine V_bipush (40 : Int32) dX12_fare_84 (by decide) ?_
        refine V_icmp_ge 93 dX12_fare_86 rfl (fun c9 => ?_) (fun c9 => ?_)
        · refine V_iconst (0 : Int32) dX12_fare_93 (by decide) ?_
          refine V_callV1 (as := [.int (0 : Int32), .int (0 : Int32), .int (0 : Int32)]) (k' := 0) (n' := 0) (s_goes1 hS) mw_X12_goes ko_X12 rfl w_1223 w_20 w_1221 ar_X12_goes rfl ⟨rfl, rfl, rfl, rfl, rfl⟩ dX12_fare_94 (by decide) (shk hS 33 rfl) ?_
          refine V_if_ne 102 dX12_fare_97 rfl (fun z_ => (by first | exact absurd (by decide) z_ | exact absurd z_ (by decide))) (fun _ => ?_)
          refine V_iconst (0 : Int32) dX12_fare_100 (by decide) ?_
          exact V_iret rfl dX12_fare_101 (k7 c1 c7 c8 c9)
        · refine V_iconst (1 : Int32) dX12_fare_89 (by decide) ?_
          refine V_goto 94 dX12_fare_90 rfl ?_
          refine V_callV1 (as := [.int (0 : Int32), .int (0 : Int32), .int (1 : Int32)]) (k' := 0) (n' := 0) (s_goes1 hS) mw_X12_goes ko_X12 rfl w_1223 w_20 w_1221 ar_X12_goes rfl ⟨rfl, rfl, rfl, rfl, rfl⟩ dX12_fare_94 (by decide) (shk hS 33 rfl) ?_
          refine V_if_ne 102 dX12_fare_97 rfl (fun z_ => (by first | exact absurd (by decide) z_ | exact absurd z_ (by decide))) (fun _ => ?_)
          refine V_iconst (0 : Int32) dX12_fare_100 (by decide) ?_
          exact V_iret rfl dX12_fare_101 (k8 c1 c7 c8 c9)
      · replace c8 := jb_n.mp c8
        refine V_iload_n dX12_fare_66 rfl ?_
        refine V_callS1 (as := [.int v2]) (k' := 0) (n' := 0) (s_X12_isPlace) mw_X12_isPlace w_1216 w_1215 ar_X12_isPlace rfl ⟨rfl, rfl, rfl, rfl, rfl⟩ dX12_fare_67 ?_
        refine V_if_eq 77 dX12_fare_70 rfl (fun c10 => ?_) (fun c10 => ?_)
        · replace c10 := jb_0.mp c10
          refine V_iconst (0 : Int32) dX12_fare_77 (by decide) ?_
          refine V_iload dX12_fare_78 rfl ?_
          refine V_aload_n dX12_fare_80 rfl ?_
          refine V_getf (fk := 6) (Value.int (zI σ 33 6)) ko_X12 rfl w_1061 dX12_fare_81 (by decide) (shk hS 33 rfl) rfl ?_
          refine V_bipush (40 : Int32) dX12_fare_84 (by decide) ?_
          refine V_icmp_ge 93 dX12_fare_86 rfl (fun c11 => ?_) (fun c11 => ?_)
          · refine V_iconst (0 : Int32) dX12_fare_93 (by decide) ?_
            refine V_callV1 (as := [.int (0 : Int32), .int (0 : Int32), .int (0 : Int32)]) (k' := 0) (n' := 0) (s_goes1 hS) mw_X12_goes ko_X12 rfl w_1223 w_20 w_1221 ar_X12_goes rfl ⟨rfl, rfl, rfl, rfl, rfl⟩ dX12_fare_94 (by decide) (shk hS 33 rfl) ?_
            refine V_if_ne 102 dX12_fare_97 rfl (fun z_ => (by first | exact absurd (by decide) z_ | exact absurd z_ (by decide))) (fun _ => ?_)
            refine V_iconst (0 : Int32) dX12_fare_100 (by decide) ?_
            exact V_iret rfl dX12_fare_101 (k9 c1 c7 c8 c10 c11)
          · refine V_iconst (1 : Int32) dX12_fare_89 (by decide) ?_
            refine V_goto 94 dX12_fare_90 rfl ?_
            refine V_callV1 (as := [.int (0 : Int32), .int (0 : Int32), .int (1 : Int32)]) (k' := 0) (n' := 0) (s_goes1 hS) mw_X12_goes ko_X12 rfl w_1223 w_20 w_1221 ar_X12_goes rfl ⟨rfl, rfl, rfl, rfl, rfl⟩ dX12_fare_94 (by decide) (shk hS 33 rfl) ?_
            refine V_if_ne 102 dX12_fare_97 rfl (fun z_ => (by first | exact absurd (by decide) z_ | exact absurd z_ (by decide))) (fun _ => ?_)
            refine V_iconst (0 : Int32) dX12_fare_100 (by decide) ?_
            exact V_iret rfl dX12_fare_101 (k10 c1 c7 c8 c10 c11)
        · replace c10 := jb_n.mp c10
          refine V_iconst (1 : Int32) dX12_fare_73 (by decide) ?_
          refine V_goto 78 dX12_fare_74 rfl ?_
          refine V_iload dX12_fare_78 rfl ?_
          refine V_aload_n dX12_fare_80 rfl ?_
          refine V_getf (fk := 6) (Value.int (zI σ 33 6)) ko_X12 rfl w_1061 dX12_fare_81 (by decide) (shk hS 33 rfl) rfl ?_
          refine V_bipush (40 : Int32) dX12_fare_84 (by decide) ?_
          refine V_icmp_ge 93 dX12_fare_86 rfl (fun c12 => ?_) (fun c12 => ?_)
          · refine V_iconst (0 : Int32) dX12_fare_93 (by decide) ?_
            refine V_callV1 (as := [.int (1 : Int32), .int (0 : Int32), .int (0 : Int32)]) (k' := 0) (n' := 0) (s_goes2 hS) mw_X12_goes ko_X12 rfl w_1223 w_20 w_1221 ar_X12_goes rfl ⟨rfl, rfl, rfl, rfl, rfl⟩ dX12_fare_94 (by decide) (shk hS 33 rfl) ?_
            refine V_if_ne 102 dX12_fare_97 rfl (fun z_ => (by first | exact absurd (by decide) z_ | exact absurd z_ (by decide))) (fun _ => ?_)
            refine V_iconst (0 : Int32) dX12_fare_100 (by decide) ?_
            exact V_iret rfl dX12_fare_101 (k11 c1 c7 c8 c10 c12)
          · refine V_iconst (1 : Int32) dX12_fare_89 (by decide) ?_
            refine V_goto 94 dX12_fare_90 rfl ?_
            refine V_callV1 (as := [.int (1 : Int32), .int (0 : Int32), .int (1 : Int32)]) (k' := 0) (n' := 0) (s_goes2 hS) mw_X12_goes ko_X12 rfl w_1223 w_20 w_1221 ar_X12_goes rfl ⟨rfl, rfl, rfl, rfl, rfl⟩ dX12_fare_94 (by decide) (shk hS 33 rfl) ?_
            refine V_if_ne 102 dX12_fare_97 rfl (fun z_ => (by first | exact absurd (by decide) z_ | exact absurd z_ (by decide))) (fun _ => ?_)
            refine V_iconst (0 : Int32) dX12_fare_100 (by decide) ?_
            exact V_iret rfl dX12_fare_101 (k12 c1 c7 c8 c10 c12)
    · replace c7 := jb_n.mp c7
      refine V_iload dX12_fare_15 rfl ?_
      refine V_iconst (0 : Int32) dX12_fare_17 (by decide) ?_
      refine V_sipush (999 : Int32) dX12_fare_18 (by decide) ?_
      refine V_callS1 (as := [.int v4, .int (0 : Int32), .int (999 : Int32)]) (k' := 0) (n' := 0) (s_X12_in) mw_X12_in w_1219 w_1218 ar_X12_in rfl ⟨rfl, rfl, rfl, rfl, rfl⟩ dX12_fare_21 ?_
      refine V_if_eq 55 dX12_fare_24 rfl (fun c13 => ?_) (fun c13 => ?_)
      · replace c13 := jb_0.mp c13
        refine V_iconst (0 : Int32) dX12_fare_55 (by decide) ?_
        refine V_istore [(0, .ref 33), (1, .int v1), (2, .int v2), (3, .int v3), (4, .int v4), (5, .int v5), (6, .int v6), (7, .int (0 : Int32))] dX12_fare_56 rfl rfl ?_
        refine V_aload_n dX12_fare_58 rfl ?_
        refine V_iload_n dX12_fare_59 rfl ?_
        refine V_callS1 (as := [.int v1]) (k' := 0) (n' := 0) (s_X12_isPlace) mw_X12_isPlace w_1216 w_1215 ar_X12_isPlace rfl ⟨rfl, rfl, rfl, rfl, rfl⟩ dX12_fare_60 ?_
        refine V_if_eq 77 dX12_fare_63 rfl (fun c14 => ?_) (fun c14 => ?_)
        · replace c14 := jb_0.mp c14
          refine V_iconst (0 : Int32) dX12_fare_77 (by decide) ?_
          refine V_iload dX12_fare_78 rfl ?_
          refine V_aload_n dX12_fare_80 rfl ?_
          refine V_getf (fk := 6) (Value.int (zI σ 33 6)) ko_X12 rfl w_1061 dX12_fare_81 (by decide) (shk hS 33 rfl) rfl ?_
          refine V_bipush (40 : Int32) dX12_fare_84 (by decide) ?_
          refine V_icmp_ge 93 dX12_fare_86 rfl (fun c15 => ?_) (fun c15 => ?_)
          · refine V_iconst (0 : Int32) dX12_fare_93 (by decide) ?_
            refine V_callV1 (as := [.int (0 : Int32), .int (0 : Int32), .int (0 : Int32)]) (k' := 0) (n' := 0) (s_goes1 hS) mw_X12_goes ko_X12 rfl w_1223 w_20 w_1221 ar_X12_goes rfl ⟨rfl, rfl, rfl, rfl, rfl⟩ dX12_fare_94 (by decide) (shk hS 33 rfl) ?_
            refine V_if_ne 102 dX12_fare_97 rfl (fun z_ => (by first | exact absurd (by decide) z_ | exact absurd z_ (by decide))) (fun _ => ?_)
            refine V_iconst (0 : Int32) dX12_fare_100 (by decide) ?_
            exact V_iret rfl dX12_fare_101 (k13 c1 c7 c13 c14 c15)
          · refine V_iconst (1 : Int32) dX12_fare_89 (by decide) ?_
            refine V_goto 94 dX12_fare_90 rfl ?_
            refine V_callV1 (as := [.int (0 : Int32), .int (0 : Int32), .int (1 : Int32)]) (k' := 0) (n' := 0) (s_goes1 hS) mw_X12_goes ko_X12 rfl w_1223 w_20 w_1221 ar_X12_goes rfl ⟨rfl, rfl, rfl, rfl, rfl⟩ dX12_fare_94 (by decide) (shk hS 33 rfl) ?_
            refine V_if_ne 102 dX12_fare_97 rfl (fun z_ => (by first | exact absurd (by decide) z_ | exact absurd z_ (by decide))) (fun _ => ?_)
            refine V_iconst (0 : Int32) dX12_fare_100 (by decide) ?_
            exact V_iret rfl dX12_fare_101 (k14 c1 c7 c13 c14 c15)
        · replace c14 := jb_n.mp c14
          refine V_iload_n dX12_fare_66 rfl ?_
          refine V_callS1 (as := [.int v2]) (k' := 0) (n' := 0) (s_X12_isPlace) mw_X12_isPlace w_1216 w_1215 ar_X12_isPlace rfl ⟨rfl, rfl, rfl, rfl, rfl⟩ dX12_fare_67 ?_
          refine V_if_eq 77 dX12_fare_70 rfl (fun c16 => ?_) (fun c16 => ?_)
          · replace c16 := jb_0.mp c16
            refine V_iconst (0 : Int32) dX12_fare_77 (by decide) ?_
            refine V_iload dX12_fare_78 rfl ?_
            refine V_aload_n dX12_fare_80 rfl ?_
            refine V_getf (fk := 6) (Value.int (zI σ 33 6)) ko_X12 rfl w_1061 dX12_fare_81 (by decide) (shk hS 33 rfl) rfl ?_
            refine V_bipush (40 : Int32) dX12_fare_84 (by decide) ?_
            refine V_icmp_ge 93 dX12_fare_86 rfl (fun c17 => ?_) (fun c17 => ?_)
            · refine V_iconst (0 : Int32) dX12_fare_93 (by decide) ?_
              refine V_callV1 (as := [.int (0 : Int32), .int (0 : Int32), .int (0 : Int32)]) (k' := 0) (n' := 0) (s_goes1 hS) mw_X12_goes ko_X12 rfl w_1223 w_20 w_1221 ar_X12_goes rfl ⟨rfl, rfl, rfl, rfl, rfl⟩ dX12_fare_94 (by decide) (shk hS 33 rfl) ?_
              refine V_if_ne 102 dX12_fare_97 rfl (fun z_ => (by first | exact absurd (by decide) z_ | exact absurd z_ (by decide))) (fun _ => ?_)
              refine V_iconst (0 : Int32) dX12_fare_100 (by decide) ?_
              exact V_iret rfl dX12_fare_101 (k15 c1 c7 c13 c14 c16 c17)
            · refine V_iconst (1 : Int32) dX12_fare_89 (by decide) ?_
              refine V_goto 94 dX12_fare_90 rfl ?_
              refine V_callV1 (as := [.int (0 : Int32), .int (0 : Int32), .int (1 : Int32)]) (k' := 0) (n' := 0) (s_goes1 hS) mw_X12_goes ko_X12 rfl w_1223 w_20 w_1221 ar_X12_goes rfl ⟨rfl, rfl, rfl, rfl, rfl⟩ dX12_fare_94 (by decide) (shk hS 33 rfl) ?_
              refine V_if_ne 102 dX12_fare_97 rfl (fun z_ => (by first | exact absurd (by decide) z_ | exact absurd z_ (by decide))) (fun _ => ?_)
              refine V_iconst (0 : Int32) dX12_fare_100 (by decide) ?_
              exact V_iret rfl dX12_fare_101 (k16 c1 c7 c13 c14 c16 c17)
          · replace c16 := jb_n.mp c16
            refine V_iconst (1 : Int32) dX12_fare_73 (by decide) ?_
            refine V_goto 78 dX12_fare_74 rfl ?_
            refine V_iload dX12_fare_78 rfl ?_
            refine V_aload_n dX12_fare_80 rfl ?_
            refine V_getf (fk := 6) (Value.int (zI σ 33 6)) ko_X12 rfl w_1061 dX12_fare_81 (by decide) (shk hS 33 rfl) rfl ?_
            refine V_bipush (40 : Int32) dX12_fare_84 (by decide) ?_
            refine V_icmp_ge 93 dX12_fare_86 rfl (fun c18 => ?_) (fun c18 => ?_)
            · refine V_iconst (0 : Int32) dX12_fare_93 (by decide) ?_
              refine V_callV1 (as := [.int (1 : Int32), .int (0 : Int32), .int (0 : Int32)]) (k' := 0) (n' := 0) (s_goes2 hS) mw_X12_goes ko_X12 rfl w_1223 w_20 w_1221 ar_X12_goes rfl ⟨rfl, rfl, rfl, rfl, rfl⟩ dX12_fare_94 (by decide) (shk hS 33 rfl) ?_
              refine V_if_ne 102 dX12_fare_97 rfl (fun z_ => (by first | exact absurd (by decide) z_ | exact absurd z_ (by decide))) (fun _ => ?_)
              refine V_iconst (0 : Int32) dX12_fare_100 (by decide) ?_
              exact V_iret rfl dX12_fare_101 (k17 c1 c7 c13 c14 c16 c18)
            · refine V_iconst (1 : Int32) dX12_fare_89 (by decide) ?_
              refine V_goto 94 dX12_fare_90 rfl ?_
              refine V_callV1 (as := [.int (1 : Int32), .int (0 : Int32), .int (1 : Int32)]) (k' := 0) (n' := 0) (s_goes2 hS) mw_X12_goes ko_X12 rfl w_1223 w_20 w_1221 ar_X12_goes rfl ⟨rfl, rfl, rfl, rfl, rfl⟩ dX12_fare_94 (by decide) (shk hS 33 rfl) ?_
              refine V_if_ne 102 dX12_fare_97 rfl (fun z_ => (by first | exact absurd (by decide) z_ | exact absurd z_ (by decide))) (fun _ => ?_)
              refine V_iconst (0 : Int32) dX12_fare_100 (by decide) ?_
              exact V_iret rfl dX12_fare_101 (k18 c1 c7 c13 c14 c16 c18)
      · replace c13 := jb_n.mp c13
        refine V_iload dX12_fare_27 rfl ?_
        refine V_iload dX12_fare_29 rfl ?_
        refine V_sipush (999 : Int32) dX12_fare_31 (by decide) ?_
        refine V_callS1 (as := [.int v5, .int v4, .int (999 : Int32)]) (k' := 0) (n' := 0) (s_X12_in) mw_X12_in w_1219 w_1218 ar_X12_in rfl ⟨rfl, rfl, rfl, rfl, rfl⟩ dX12_fare_34 ?_
        refine V_if_eq 55 dX12_fare_37 rfl (fun c19 => ?_) (fun c19 => ?_)
        · replace c19 := jb_0.mp c19
          refine V_iconst (0 : Int32) dX12_fare_55 (by decide) ?_
          refine V_istore [(0, .ref 33), (1, .int v1), (2, .int v2), (3, .int v3), (4, .int v4), (5, .int v5), (6, .int v6), (7, .int (0 : Int32))] dX12_fare_56 rfl rfl ?_
          refine V_aload_n dX12_fare_58 rfl ?_
          refine V_iload_n dX12_fare_59 rfl ?_
          refine V_callS1 (as := [.int v1]) (k' := 0) (n' := 0) (s_X12_isPlace) mw_X12_isPlace w_1216 w_1215 ar_X12_isPlace rfl ⟨rfl, rfl, rfl, rfl, rfl⟩ dX12_fare_60 ?_
          refine V_if_eq 77 dX12_fare_63 rfl (fun c20 => ?_) (fun c20 => ?_)
          · replace c20 := jb_0.mp c20
            refine V_iconst (0 : Int32) dX12_fare_77 (by decide) ?_
            refine V_iload dX12_fare_78 rfl ?_
            refine V_aload_n dX12_fare_80 rfl ?_
            refine V_getf (fk := 6) (Value.int (zI σ 33 6)) ko_X12 rfl w_1061 dX12_fare_81 (by decide) (shk hS 33 rfl) rfl ?_
            refine V_bipush (40 : Int32) dX12_fare_84 (by decide) ?_
            refine V_icmp_ge 93 dX12_fare_86 rfl (fun c21 => ?_) (fun c21 => ?_)
            · refine V_iconst (0 : Int32) dX12_fare_93 (by decide) ?_
              refine V_callV1 (as := [.int (0 : Int32), .int (0 : Int32), .int (0 : Int32)]) (k' := 0) (n' := 0) (s_goes1 hS) mw_X12_goes ko_X12 rfl w_1223 w_20 w_1221 ar_X12_goes rfl ⟨rfl, rfl, rfl, rfl, rfl⟩ dX12_fare_94 (by decide) (shk hS 33 rfl) ?_
              refine V_if_ne 102 dX12_fare_97 rfl (fun z_ => (by first | exact absurd (by decide) z_ | exact absurd z_ (by decide))) (fun _ => ?_)
              refine V_iconst (0 : Int32) dX12_fare_100 (by decide) ?_
              exact V_iret rfl dX12_fare_101 (k19 c1 c7 c13 c19 c20 c21)
            · refine V_iconst (1 : Int32) dX12_fare_89 (by decide) ?_
              refine V_goto 94 dX12_fare_90 rfl ?_
              refine V_callV1 (as := [.int (0 : Int32), .int (0 : Int32), .int (1 : Int32)]) (k' := 0) (n' := 0) (s_goes1 hS) mw_X12_goes ko_X12 rfl w_1223 w_20 w_1221 ar_X12_goes rfl ⟨rfl, rfl, rfl, rfl, rfl⟩ dX12_fare_94 (by decide) (shk hS 33 rfl) ?_
              refine V_if_ne 102 dX12_fare_97 rfl (fun z_ => (by first | exact absurd (by decide) z_ | exact absurd z_ (by decide))) (fun _ => ?_)
              refine V_iconst (0 : Int32) dX12_fare_100 (by decide) ?_
              exact V_iret rfl dX12_fare_101 (k20 c1 c7 c13 c19 c20 c21)
          · replace c20 := jb_n.mp c20
            refine V_iload_n dX12_fare_66 rfl ?_
            refine V_callS1 (as := [.int v2]) (k' := 0) (n' := 0) (s_X12_isPlace) mw_X12_isPlace w_1216 w_1215 ar_X12_isPlace rfl ⟨rfl, rfl, rfl, rfl, rfl⟩ dX12_fare_67 ?_
            refine V_if_eq 77 dX12_fare_70 rfl (fun c22 => ?_) (fun c22 => ?_)
            · replace c22 := jb_0.mp c22
              refine V_iconst (0 : Int32) dX12_fare_77 (by decide) ?_
              refine V_iload dX12_fare_78 rfl ?_
              refine V_aload_n dX12_fare_80 rfl ?_
              refine V_getf (fk := 6) (Value.int (zI σ 33 6)) ko_X12 rfl w_1061 dX12_fare_81 (by decide) (shk hS 33 rfl) rfl ?_
              refine V_bipush (40 : Int32) dX12_fare_84 (by decide) ?_
              refine V_icmp_ge 93 dX12_fare_86 rfl (fun c23 => ?_) (fun c23 => ?_)
              · refine V_iconst (0 : Int32) dX12_fare_93 (by decide) ?_
                refine V_callV1 (as := [.int (0 : Int32), .int (0 : Int32), .int (0 : Int32)]) (k' := 0) (n' := 0) (s_goes1 hS) mw_X12_goes ko_X12 rfl w_1223 w_20 w_1221 ar_X12_goes rfl ⟨rfl, rfl, rfl, rfl, rfl⟩ dX12_fare_94 (by decide) (shk hS 33 rfl) ?_
                refine V_if_ne 102 dX12_fare_97 rfl (fun z_ => (by first | exact absurd (by decide) z_ | exact absurd z_ (by decide))) (fun _ => ?_)
                refine V_iconst (0 : Int32) dX12_fare_100 (by decide) ?_
                exact V_iret rfl dX12_fare_101 (k21 c1 c7 c13 c19 c20 c22 c23)
              · refine V_iconst (1 : Int32) dX12_fare_89 (by decide) ?_
                refine V_goto 94 dX12_fare_90 rfl ?_
                refine V_callV1 (as := [.int (0 : Int32), .int (0 : Int32), .int (1 : Int32)]) (k' := 0) (n' := 0) (s_goes1 hS) mw_X12_goes ko_X12 rfl w_1223 w_20 w_1221 ar_X12_goes rfl ⟨rfl, rfl, rfl, rfl, rfl⟩ dX12_fare_94 (by decide) (shk hS 33 rfl) ?_
                refine V_if_ne 102 dX12_fare_97 rfl (fun z_ => (by first | exact absurd (by decide) z_ | exact absurd z_ (by decide))) (fun _ => ?_)
                refine V_iconst (0 : Int32) dX12_fare_100 (by decide) ?_
                exact V_iret rfl dX12_fare_101 (k22 c1 c7 c13 c19 c20 c22 c23)
            · replace c22 := jb_n.mp c22
              refine V_iconst (1 : Int32) dX12_fare_73 (by decide) ?_
              refine V_goto 78 dX12_fare_74 rfl ?_
              refine V_iload dX12_fare_78 rfl ?_
              refine V_aload_n dX12_fare_80 rfl ?_
              refine V_getf (fk := 6) (Value.int (zI σ 33 6)) ko_X12 rfl w_1061 dX12_fare_81 (by decide) (shk hS 33 rfl) rfl ?_
              refine V_bipush (40 : Int32) dX12_fare_84 (by decide) ?_
              refine V_icmp_ge 93 dX12_fare_86 rfl (fun c24 => ?_) (fun c24 => ?_)
              · refine V_iconst (0 : Int32) dX12_fare_93 (by decide) ?_
                refine V_callV1 (as := [.int (1 : Int32), .int (0 : Int32), .int (0 : Int32)]) (k' := 0) (n' := 0) (s_goes2 hS) mw_X12_goes ko_X12 rfl w_1223 w_20 w_1221 ar_X12_goes rfl ⟨rfl, rfl, rfl, rfl, rfl⟩ dX12_fare_94 (by decide) (shk hS 33 rfl) ?_
                refine V_if_ne 102 dX12_fare_97 rfl (fun z_ => (by first | exact absurd (by decide) z_ | exact absurd z_ (by decide))) (fun _ => ?_)
                refine V_iconst (0 : Int32) dX12_fare_100 (by decide) ?_
                exact V_iret rfl dX12_fare_101 (k23 c1 c7 c13 c19 c20 c22 c24)
              · refine V_iconst (1 : Int32) dX12_fare_89 (by decide) ?_
                refine V_goto 94 dX12_fare_90 rfl ?_
                refine V_callV1 (as := [.int (1 : Int32), .int (0 : Int32), .int (1 : Int32)]) (k' := 0) (n' := 0) (s_goes2 hS) mw_X12_goes ko_X12 rfl w_1223 w_20 w_1221 ar_X12_goes rfl ⟨rfl, rfl, rfl, rfl, rfl⟩ dX12_fare_94 (by decide) (shk hS 33 rfl) ?_
                refine V_if_ne 102 dX12_fare_97 rfl (fun z_ => (by first | exact absurd (by decide) z_ | exact absurd z_ (by decide))) (fun _ => ?_)
                refine V_iconst (0 : Int32) dX12_fare_100 (by decide) ?_
                exact V_iret rfl dX12_fare_101 (k24 c1 c7 c13 c19 c20 c22 c24)
        · replace c19 := jb_n.mp c19
          refine V_iload dX12_fare_40 rfl ?_
          refine V_iconst (0 : Int32) dX12_fare_42 (by decide) ?_
          refine V_bipush (7 : Int32) dX12_fare_43 (by decide) ?_
          refine V_callS1 (as := [.int v6, .int (0 : Int32), .int (7 : Int32)]) (k' := 0) (n' := 0) (s_X12_in) mw_X12_in w_1219 w_1218 ar_X12_in rfl ⟨rfl, rfl, rfl, rfl, rfl⟩ dX12_fare_45 ?_
          refine V_if_eq 55 dX12_fare_48 rfl (fun c25 => ?_) (fun c25 => ?_)
          · replace c25 := jb_0.mp c25
            refine V_iconst (0 : Int32) dX12_fare_55 (by decide) ?_
            refine V_istore [(0, .ref 33), (1, .int v1), (2, .int v2), (3, .int v3), (4, .int v4), (5, .int v5), (6, .int v6), (7, .int (0 : Int32))] dX12_fare_56 rfl rfl ?_
            refine V_aload_n dX12_fare_58 rfl ?_
            refine V_iload_n dX12_fare_59 rfl ?_
            refine V_callS1 (as := [.int v1]) (k' := 0) (n' := 0) (s_X12_isPlace) mw_X12_isPlace w_1216 w_1215 ar_X12_isPlace rfl ⟨rfl, rfl, rfl, rfl, rfl⟩ dX12_fare_60 ?_
            refine V_if_eq 77 dX12_fare_63 rfl (fun c26 => ?_) (fun c26 => ?_)
            · replace c26 := jb_0.mp c26
              refine V_iconst (0 : Int32) dX12_fare_77 (by decide) ?_
              refine V_iload dX12_fare_78 rfl ?_
              refine V_aload_n dX12_fare_80 rfl ?_
              refine V_getf (fk := 6) (Value.int (zI σ 33 6)) ko_X12 rfl w_1061 dX12_fare_81 (by decide) (shk hS 33 rfl) rfl ?_
              refine V_bipush (40 : Int32) dX12_fare_84 (by decide) ?_
              refine V_icmp_ge 93 dX12_fare_86 rfl (fun c27 => ?_) (fun c27 => ?_)
              · refine V_iconst (0 : Int32) dX12_fare_93 (by decide) ?_
                refine V_callV1 (as := [.int (0 : Int32), .int (0 : Int32), .int (0 : Int32)]) (k' := 0) (n' := 0) (s_goes1 hS) mw_X12_goes ko_X12 rfl w_1223 w_20 w_1221 ar_X12_goes rfl ⟨rfl, rfl, rfl, rfl, rfl⟩ dX12_fare_94 (by decide) (shk hS 33 rfl) ?_
                refine V_if_ne 102 dX12_fare_97 rfl (fun z_ => (by first | exact absurd (by decide) z_ | exact absurd z_ (by decide))) (fun _ => ?_)
                refine V_iconst (0 : Int32) dX12_fare_100 (by decide) ?_
                exact V_iret rfl dX12_fare_101 (k25 c1 c7 c13 c19 c25 c26 c27)
              · refine V_iconst (1 : Int32) dX12_fare_89 (by decide) ?_
                refine V_goto 94 dX12_fare_90 rfl ?_
                refine V_callV1 (as := [.int (0 : Int32), .int (0 : Int32), .int (1 : Int32)]) (k' := 0) (n' := 0) (s_goes1 hS) mw_X12_goes ko_X12 rfl w_1223 w_20 w_1221 ar_X12_goes rfl ⟨rfl, rfl, rfl, rfl, rfl⟩ dX12_fare_94 (by decide) (shk hS 33 rfl) ?_
                refine V_if_ne 102 dX12_fare_97 rfl (fun z_ => (by first | exact absurd (by decide) z_ | exact absurd z_ (by decide))) (fun _ => ?_)
                refine V_iconst (0 : Int32) dX12_fare_100 (by decide) ?_
                exact V_iret rfl dX12_fare_101 (k26 c1 c7 c13 c19 c25 c26 c27)
            · replace c26 := jb_n.mp c26
              refine V_iload_n dX12_fare_66 rfl ?_
              refine V_callS1 (as := [.int v2]) (k' := 0) (n' := 0) (s_X12_isPlace) mw_X12_isPlace w_1216 w_1215 ar_X12_isPlace rfl ⟨rfl, rfl, rfl, rfl, rfl⟩ dX12_fare_67 ?_
              refine V_if_eq 77 dX12_fare_70 rfl (fun c28 => ?_) (fun c28 => ?_)
              · replace c28 := jb_0.mp c28
                refine V_iconst (0 : Int32) dX12_fare_77 (by decide) ?_
                refine V_iload dX12_fare_78 rfl ?_
                refine V_aload_n dX12_fare_80 rfl ?_
                refine V_getf (fk := 6) (Value.int (zI σ 33 6)) ko_X12 rfl w_1061 dX12_fare_81 (by decide) (shk hS 33 rfl) rfl ?_
                refine V_bipush (40 : Int32) dX12_fare_84 (by decide) ?_
                refine V_icmp_ge 93 dX12_fare_86 rfl (fun c29 => ?_) (fun c29 => ?_)
                · refine V_iconst (0 : Int32) dX12_fare_93 (by decide) ?_
                  refine V_callV1 (as := [.int (0 : Int32), .int (0 : Int32), .int (0 : Int32)]) (k' := 0) (n' := 0) (s_goes1 hS) mw_X12_goes ko_X12 rfl w_1223 w_20 w_1221 ar_X12_goes rfl ⟨rfl, rfl, rfl, rfl, rfl⟩ dX12_fare_94 (by decide) (shk hS 33 rfl) ?_
                  refine V_if_ne 102 dX12_fare_97 rfl (fun z_ => (by first | exact absurd (by decide) z_ | exact absurd z_ (by decide))) (fun _ => ?_)
                  refine V_iconst (0 : Int32) dX12_fare_100 (by decide) ?_
                  exact V_iret rfl dX12_fare_101 (k27 c1 c7 c13 c19 c25 c26 c28 c29)
                · refine V_iconst (1 : Int32) dX12_fare_89 (by decide) ?_
                  refine V_goto 94 dX12_fare_90 rfl ?_
                  refine V_callV1 (as := [.int (0 : Int32), .int (0 : Int32), .int (1 : Int32)]) (k' := 0) (n' := 0) (s_goes1 hS) mw_X12_goes ko_X12 rfl w_1223 w_20 w_1221 ar_X12_goes rfl ⟨rfl, rfl, rfl, rfl, rfl⟩ dX12_fare_94 (by decide) (shk hS 33 rfl) ?_
                  refine V_if_ne 102 dX12_fare_97 rfl (fun z_ => (by first | exact absurd (by decide) z_ | exact absurd z_ (by decide))) (fun _ => ?_)
                  refine V_iconst (0 : Int32) dX12_fare_100 (by decide) ?_
                  exact V_iret rfl dX12_fare_101 (k28 c1 c7 c13 c19 c25 c26 c28 c29)
              · replace c28 := jb_n.mp c28
                refine V_iconst (1 : Int32) dX12_fare_73 (by decide) ?_
                refine V_goto 78 dX12_fare_74 rfl ?_
                refine V_iload dX12_fare_78 rfl ?_
                refine V_aload_n dX12_fare_80 rfl ?_
                refine V_getf (fk := 6) (Value.int (zI σ 33 6)) ko_X12 rfl w_1061 dX12_fare_81 (by decide) (shk hS 33 rfl) rfl ?_
                refine V_bipush (40 : Int32) dX12_fare_84 (by decide) ?_
                refine V_icmp_ge 93 dX12_fare_86 rfl (fun c30 => ?_) (fun c30 => ?_)
                · refine V_iconst (0 : Int32) dX12_fare_93 (by decide) ?_
                  refine V_callV1 (as := [.int (1 : Int32), .int (0 : Int32), .int (0 : Int32)]) (k' := 0) (n' := 0) (s_goes2 hS) mw_X12_goes ko_X12 rfl w_1223 w_20 w_1221 ar_X12_goes rfl ⟨rfl, rfl, rfl, rfl, rfl⟩ dX12_fare_94 (by decide) (shk hS 33 rfl) ?_
                  refine V_if_ne 102 dX12_fare_97 rfl (fun z_ => (by first | exact absurd (by decide) z_ | exact absurd z_ (by decide))) (fun _ => ?_)
                  refine V_iconst (0 : Int32) dX12_fare_100 (by decide) ?_
                  exact V_iret rfl dX12_fare_101 (k29 c1 c7 c13 c19 c25 c26 c28 c30)
                · refine V_iconst (1 : Int32) dX12_fare_89 (by decide) ?_
                  refine V_goto 94 dX12_fare_90 rfl ?_
                  refine V_callV1 (as := [.int (1 : Int32), .int (0 : Int32), .int (1 : Int32)]) (k' := 0) (n' := 0) (s_goes2 hS) mw_X12_goes ko_X12 rfl w_1223 w_20 w_1221 ar_X12_goes rfl ⟨rfl, rfl, rfl, rfl, rfl⟩ dX12_fare_94 (by decide) (shk hS 33 rfl) ?_
                  refine V_if_ne 102 dX12_fare_97 rfl (fun z_ => (by first | exact absurd (by decide) z_ | exact absurd z_ (by decide))) (fun _ => ?_)
                  refine V_iconst (0 : Int32) dX12_fare_100 (by decide) ?_
                  exact V_iret rfl dX12_fare_101 (k30 c1 c7 c13 c19 c25 c26 c28 c30)
          · replace c25 := jb_n.mp c25
            refine V_iconst (1 : Int32) dX12_fare_51 (by decide) ?_
            refine V_goto 56 dX12_fare_52 rfl ?_
            refine V_istore [(0, .ref 33), (1, .int v1), (2, .int v2), (3, .int v3), (4, .int v4), (5, .int v5), (6, .int v6), (7, .int (1 : Int32))] dX12_fare_56 rfl rfl ?_
            refine V_aload_n dX12_fare_58 rfl ?_
            refine V_iload_n dX12_fare_59 rfl ?_
            refine V_callS1 (as := [.int v1]) (k' := 0) (n' := 0) (s_X12_isPlace) mw_X12_isPlace w_1216 w_1215 ar_X12_isPlace rfl ⟨rfl, rfl, rfl, rfl, rfl⟩ dX12_fare_60 ?_
            refine V_if_eq 77 dX12_fare_63 rfl (fun c31 => ?_) (fun c31 => ?_)
            · replace c31 := jb_0.mp c31
              refine V_iconst (0 : Int32) dX12_fare_77 (by decide) ?_
              refine V_iload dX12_fare_78 rfl ?_
              refine V_aload_n dX12_fare_80 rfl ?_
              refine V_getf (fk := 6) (Value.int (zI σ 33 6)) ko_X12 rfl w_1061 dX12_fare_81 (by decide) (shk hS 33 rfl) rfl ?_
              refine V_bipush (40 : Int32) dX12_fare_84 (by decide) ?_
              refine V_icmp_ge 93 dX12_fare_86 rfl (fun c32 => ?_) (fun c32 => ?_)
              · refine V_iconst (0 : Int32) dX12_fare_93 (by decide) ?_
                refine V_callV1 (as := [.int (0 : Int32), .int (1 : Int32), .int (0 : Int32)]) (k' := 0) (n' := 0) (s_goes1 hS) mw_X12_goes ko_X12 rfl w_1223 w_20 w_1221 ar_X12_goes rfl ⟨rfl, rfl, rfl, rfl, rfl⟩ dX12_fare_94 (by decide) (shk hS 33 rfl) ?_
                refine V_if_ne 102 dX12_fare_97 rfl (fun z_ => (by first | exact absurd (by decide) z_ | exact absurd z_ (by decide))) (fun _ => ?_)
                refine V_iconst (0 : Int32) dX12_fare_100 (by decide) ?_
                exact V_iret rfl dX12_fare_101 (k31 c1 c7 c13 c19 c25 c31 c32)
              · refine V_iconst (1 : Int32) dX12_fare_89 (by decide) ?_
                refine V_goto 94 dX12_fare_90 rfl ?_
                refine V_callV1 (as := [.int (0 : Int32), .int (1 : Int32), .int (1 : Int32)]) (k' := 0) (n' := 0) (s_goes1 hS) mw_X12_goes ko_X12 rfl w_1223 w_20 w_1221 ar_X12_goes rfl ⟨rfl, rfl, rfl, rfl, rfl⟩ dX12_fare_94 (by decide) (shk hS 33 rfl) ?_
                refine V_if_ne 102 dX12_fare_97 rfl (fun z_ => (by first | exact absurd (by decide) z_ | exact absurd z_ (by decide))) (fun _ => ?_)
                refine V_iconst (0 : Int32) dX12_fare_100 (by decide) ?_
                exact V_iret rfl dX12_fare_101 (k32 c1 c7 c13 c19 c25 c31 c32)
            · replace c31 := jb_n.mp c31
              refine V_iload_n dX12_fare_66 rfl ?_
              refine V_callS1 (as := [.int v2]) (k' := 0) (n' := 0) (s_X12_isPlace) mw_X12_isPlace w_1216 w_1215 ar_X12_isPlace rfl ⟨rfl, rfl, rfl, rfl, rfl⟩ dX12_fare_67 ?_
              refine V_if_eq 77 dX12_fare_70 rfl (fun c33 => ?_) (fun c33 => ?_)
              · replace c33 := jb_0.mp c33
                refine V_iconst (0 : Int32) dX12_fare_77 (by decide) ?_
                refine V_iload dX12_fare_78 rfl ?_
                refine V_aload_n dX12_fare_80 rfl ?_
                refine V_getf (fk := 6) (Value.int (zI σ 33 6)) ko_X12 rfl w_1061 dX12_fare_81 (by decide) (shk hS 33 rfl) rfl ?_
                refine V_bipush (40 : Int32) dX12_fare_84 (by decide) ?_
                refine V_icmp_ge 93 dX12_fare_86 rfl (fun c34 => ?_) (fun c34 => ?_)
                · refine V_iconst (0 : Int32) dX12_fare_93 (by decide) ?_
                  refine V_callV1 (as := [.int (0 : Int32), .int (1 : Int32), .int (0 : Int32)]) (k' := 0) (n' := 0) (s_goes1 hS) mw_X12_goes ko_X12 rfl w_1223 w_20 w_1221 ar_X12_goes rfl ⟨rfl, rfl, rfl, rfl, rfl⟩ dX12_fare_94 (by decide) (shk hS 33 rfl) ?_
                  refine V_if_ne 102 dX12_fare_97 rfl (fun z_ => (by first | exact absurd (by decide) z_ | exact absurd z_ (by decide))) (fun _ => ?_)
                  refine V_iconst (0 : Int32) dX12_fare_100 (by decide) ?_
                  exact V_iret rfl dX12_fare_101 (k33 c1 c7 c13 c19 c25 c31 c33 c34)
                · refine V_iconst (1 : Int32) dX12_fare_89 (by decide) ?_
                  refine V_goto 94 dX12_fare_90 rfl ?_
                  refine V_callV1 (as := [.int (0 : Int32), .int (1 : Int32), .int (1 : Int32)]) (k' := 0) (n' := 0) (s_goes1 hS) mw_X12_goes ko_X12 rfl w_1223 w_20 w_1221 ar_X12_goes rfl ⟨rfl, rfl, rfl, rfl, rfl⟩ dX12_fare_94 (by decide) (shk hS 33 rfl) ?_
                  refine V_if_ne 102 dX12_fare_97 rfl (fun z_ => (by first | exact absurd (by decide) z_ | exact absurd z_ (by decide))) (fun _ => ?_)
                  refine V_iconst (0 : Int32) dX12_fare_100 (by decide) ?_
                  exact V_iret rfl dX12_fare_101 (k34 c1 c7 c13 c19 c25 c31 c33 c34)
              · replace c33 := jb_n.mp c33
                refine V_iconst (1 : Int32) dX12_fare_73 (by decide) ?_
                refine V_goto 78 dX12_fare_74 rfl ?_
                refine V_iload dX12_fare_78 rfl ?_
                refine V_aload_n dX12_fare_80 rfl ?_
                refine V_getf (fk := 6) (Value.int (zI σ 33 6)) ko_X12 rfl w_1061 dX12_fare_81 (by decide) (shk hS 33 rfl) rfl ?_
                refine V_bipush (40 : Int32) dX12_fare_84 (by decide) ?_
                refine V_icmp_ge 93 dX12_fare_86 rfl (fun c35 => ?_) (fun c35 => ?_)
                · refine V_iconst (0 : Int32) dX12_fare_93 (by decide) ?_
                  refine V_callV1 (as := [.int (1 : Int32), .int (1 : Int32), .int (0 : Int32)]) (k' := 0) (n' := 0) (s_goes3 hS) mw_X12_goes ko_X12 rfl w_1223 w_20 w_1221 ar_X12_goes rfl ⟨rfl, rfl, rfl, rfl, rfl⟩ dX12_fare_94 (by decide) (shk hS 33 rfl) ?_
                  refine V_if_ne 102 dX12_fare_97 rfl (fun z_ => (by first | exact absurd (by decide) z_ | exact absurd z_ (by decide))) (fun _ => ?_)
                  refine V_iconst (0 : Int32) dX12_fare_100 (by decide) ?_
                  exact V_iret rfl dX12_fare_101 (k35 c1 c7 c13 c19 c25 c31 c33 c35)
                · refine V_iconst (1 : Int32) dX12_fare_89 (by decide) ?_
                  refine V_goto 94 dX12_fare_90 rfl ?_
                  refine V_callV1 (as := [.int (1 : Int32), .int (1 : Int32), .int (1 : Int32)]) (k' := 0) (n' := 0) (s_goes0 hS) mw_X12_goes ko_X12 rfl w_1223 w_20 w_1221 ar_X12_goes rfl ⟨rfl, rfl, rfl, rfl, rfl⟩ dX12_fare_94 (by decide) (shk hS 33 rfl) ?_
                  refine V_if_ne 102 dX12_fare_97 rfl (fun _ => ?_) (fun z_ => (by first | exact absurd (by decide) z_ | exact absurd z_ (by decide)))
                  refine V_aload_n dX12_fare_102 rfl ?_
                  refine V_getf (fk := 7) (Value.ref 39) ko_X12 rfl w_1062 dX12_fare_103 (by decide) (shk (Sh_uI hS) 33 rfl) (congrArg Value.ref (shr (Sh_uI hS) 33 7 39 (by decide))) ?_
                  refine V_aload_n dX12_fare_106 rfl ?_
                  refine V_getf (fk := 6) (Value.int (zI σ 33 6)) ko_X12 rfl w_1061 dX12_fare_107 (by decide) (shk (Sh_uI hS) 33 rfl) (congrArg Value.int (zI_oth _ _ _ _ _ _ (by decide))) ?_
                  refine V_iload_n dX12_fare_110 rfl ?_
                  refine V_iast dX12_fare_111 (by decide) (shk (Sh_uI hS) 39 rfl) (vp_l (n := 40) (shl (Sh_uI hS) 39 rfl) (o1 c1 c7 c13 c19 c25 c31 c33 c35)) ?_
                  refine V_aload_n dX12_fare_112 rfl ?_
                  refine V_getf (fk := 8) (Value.ref 40) ko_X12 rfl w_1063 dX12_fare_113 (by decide) (shk (Sh_uI (Sh_uI hS)) 33 rfl) (congrArg Value.ref (shr (Sh_uI (Sh_uI hS)) 33 8 40 (by decide))) ?_
                  refine V_aload_n dX12_fare_116 rfl ?_
                  refine V_getf (fk := 6) (Value.int (zI σ 33 6)) ko_X12 rfl w_1061 dX12_fare_117 (by decide) (shk (Sh_uI (Sh_uI hS)) 33 rfl) (congrArg Value.int ((zI_oa _ _ _ _ _ _ (by decide)).trans (zI_oth _ _ _ _ _ _ (by decide)))) ?_
                  refine V_iload_n dX12_fare_120 rfl ?_
                  refine V_iast dX12_fare_121 (by decide) (shk (Sh_uI (Sh_uI hS)) 40 rfl) (vp_l (n := 40) (shl (Sh_uI (Sh_uI hS)) 40 rfl) (o1 c1 c7 c13 c19 c25 c31 c33 c35)) ?_
                  refine V_aload_n dX12_fare_122 rfl ?_
                  refine V_getf (fk := 9) (Value.ref 41) ko_X12 rfl w_1064 dX12_fare_123 (by decide) (shk (Sh_uI (Sh_uI (Sh_uI hS))) 33 rfl) (congrArg Value.ref (shr (Sh_uI (Sh_uI (Sh_uI hS))) 33 9 41 (by decide))) ?_
                  refine V_aload_n dX12_fare_126 rfl ?_
                  refine V_getf (fk := 6) (Value.int (zI σ 33 6)) ko_X12 rfl w_1061 dX12_fare_127 (by decide) (shk (Sh_uI (Sh_uI (Sh_uI hS))) 33 rfl) (congrArg Value.int (((zI_oa _ _ _ _ _ _ (by decide)).trans (zI_oa _ _ _ _ _ _ (by decide))).trans (zI_oth _ _ _ _ _ _ (by decide)))) ?_
                  refine V_iload_n dX12_fare_130 rfl ?_
                  refine V_iast dX12_fare_131 (by decide) (shk (Sh_uI (Sh_uI (Sh_uI hS))) 41 rfl) (vp_l (n := 40) (shl (Sh_uI (Sh_uI (Sh_uI hS))) 41 rfl) (o1 c1 c7 c13 c19 c25 c31 c33 c35)) ?_
                  refine V_aload_n dX12_fare_132 rfl ?_
                  refine V_getf (fk := 10) (Value.ref 42) ko_X12 rfl w_1065 dX12_fare_133 (by decide) (shk (Sh_uI (Sh_uI (Sh_uI (Sh_uI hS)))) 33 rfl) (congrArg Value.ref (shr (Sh_uI (Sh_uI (Sh_uI (Sh_uI hS)))) 33 10 42 (by decide))) ?_
                  refine V_aload_n dX12_fare_136 rfl ?_
                  refine V_getf (fk := 6) (Value.int (zI σ 33 6)) ko_X12 rfl w_1061 dX12_fare_137 (by decide) (shk (Sh_uI (Sh_uI (Sh_uI (Sh_uI hS)))) 33 rfl) (congrArg Value.int ((((zI_oa _ _ _ _ _ _ (by decide)).trans (zI_oa _ _ _ _ _ _ (by decide))).trans (zI_oa _ _ _ _ _ _ (by decide))).trans (zI_oth _ _ _ _ _ _ (by decide)))) ?_
                  refine V_iload dX12_fare_140 rfl ?_
                  refine V_iast dX12_fare_142 (by decide) (shk (Sh_uI (Sh_uI (Sh_uI (Sh_uI hS)))) 42 rfl) (vp_l (n := 40) (shl (Sh_uI (Sh_uI (Sh_uI (Sh_uI hS)))) 42 rfl) (o1 c1 c7 c13 c19 c25 c31 c33 c35)) ?_
                  refine V_aload_n dX12_fare_143 rfl ?_
                  refine V_getf (fk := 11) (Value.ref 43) ko_X12 rfl w_1066 dX12_fare_144 (by decide) (shk (Sh_uI (Sh_uI (Sh_uI (Sh_uI (Sh_uI hS))))) 33 rfl) (congrArg Value.ref (shr (Sh_uI (Sh_uI (Sh_uI (Sh_uI (Sh_uI hS))))) 33 11 43 (by decide))) ?_
                  refine V_aload_n dX12_fare_147 rfl ?_
                  refine V_getf (fk := 6) (Value.int (zI σ 33 6)) ko_X12 rfl w_1061 dX12_fare_148 (by decide) (shk (Sh_uI (Sh_uI (Sh_uI (Sh_uI (Sh_uI hS))))) 33 rfl) (congrArg Value.int (((((zI_oa _ _ _ _ _ _ (by decide)).trans (zI_oa _ _ _ _ _ _ (by decide))).trans (zI_oa _ _ _ _ _ _ (by decide))).trans (zI_oa _ _ _ _ _ _ (by decide))).trans (zI_oth _ _ _ _ _ _ (by decide)))) ?_
                  refine V_iload dX12_fare_151 rfl ?_
                  refine V_iast dX12_fare_153 (by decide) (shk (Sh_uI (Sh_uI (Sh_uI (Sh_uI (Sh_uI hS))))) 43 rfl) (vp_l (n := 40) (shl (Sh_uI (Sh_uI (Sh_uI (Sh_uI (Sh_uI hS))))) 43 rfl) (o1 c1 c7 c13 c19 c25 c31 c33 c35)) ?_
                  refine V_aload_n dX12_fare_154 rfl ?_
                  refine V_getf (fk := 12) (Value.ref 44) ko_X12 rfl w_1067 dX12_fare_155 (by decide) (shk (Sh_uI (Sh_uI (Sh_uI (Sh_uI (Sh_uI (Sh_uI hS)))))) 33 rfl) (congrArg Value.ref (shr (Sh_uI (Sh_uI (Sh_uI (Sh_uI (Sh_uI (Sh_uI hS)))))) 33 12 44 (by decide))) ?_
                  refine V_aload_n dX12_fare_158 rfl ?_
                  refine V_getf (fk := 6) (Value.int (zI σ 33 6)) ko_X12 rfl w_1061 dX12_fare_159 (by decide) (shk (Sh_uI (Sh_uI (Sh_uI (Sh_uI (Sh_uI (Sh_uI hS)))))) 33 rfl) (congrArg Value.int ((((((zI_oa _ _ _ _ _ _ (by decide)).trans (zI_oa _ _ _ _ _ _ (by decide))).trans (zI_oa _ _ _ _ _ _ (by decide))).trans (zI_oa _ _ _ _ _ _ (by decide))).trans (zI_oa _ _ _ _ _ _ (by decide))).trans (zI_oth _ _ _ _ _ _ (by decide)))) ?_
                  refine V_iload dX12_fare_162 rfl ?_
                  refine V_iast dX12_fare_164 (by decide) (shk (Sh_uI (Sh_uI (Sh_uI (Sh_uI (Sh_uI (Sh_uI hS)))))) 44 rfl) (vp_l (n := 40) (shl (Sh_uI (Sh_uI (Sh_uI (Sh_uI (Sh_uI (Sh_uI hS)))))) 44 rfl) (o1 c1 c7 c13 c19 c25 c31 c33 c35)) ?_
                  refine V_aload_n dX12_fare_165 rfl ?_
                  refine V_dup dX12_fare_166 rfl ?_
                  refine V_getf (fk := 6) (Value.int (zI σ 33 6)) ko_X12 rfl w_1061 dX12_fare_167 (by decide) (shk (Sh_uI (Sh_uI (Sh_uI (Sh_uI (Sh_uI (Sh_uI (Sh_uI hS))))))) 33 rfl) (congrArg Value.int (((((((zI_oa _ _ _ _ _ _ (by decide)).trans (zI_oa _ _ _ _ _ _ (by decide))).trans (zI_oa _ _ _ _ _ _ (by decide))).trans (zI_oa _ _ _ _ _ _ (by decide))).trans (zI_oa _ _ _ _ _ _ (by decide))).trans (zI_oa _ _ _ _ _ _ (by decide))).trans (zI_oth _ _ _ _ _ _ (by decide)))) ?_
                  refine V_iconst (1 : Int32) dX12_fare_170 (by decide) ?_
                  refine V_iadd dX12_fare_171 ?_
                  refine V_puti (fk := 6) ko_X12 rfl w_1061 (Or.inl rfl) dX12_fare_172 rfl (by decide) (shk (Sh_uI (Sh_uI (Sh_uI (Sh_uI (Sh_uI (Sh_uI (Sh_uI hS))))))) 33 rfl) ?_
                  refine V_aload_n dX12_fare_175 rfl ?_
                  refine V_getf (fk := 6) (Value.int ((zI σ 33 6) + (1 : Int32))) ko_X12 rfl w_1061 dX12_fare_176 (by decide) (shk (Sh_uI (Sh_uI (Sh_uI (Sh_uI (Sh_uI (Sh_uI (Sh_uI (Sh_uI hS)))))))) 33 rfl) (congrArg Value.int (zI_self _ _ _ _)) ?_
                  refine V_iconst (1 : Int32) dX12_fare_179 (by decide) ?_
                  refine V_isub dX12_fare_180 ?_
                  exact V_iret rfl dX12_fare_181 (k36 c1 c7 c13 c19 c25 c31 c33 c35)

set_option maxRecDepth 100000 in
set_option maxHeartbeats 4000000 in
theorem b_X12_withdraw_0 {g : GP} {CX : State → Array Value → Prop} {Q : AH → Option Value → Prop} {X : AH → String → Prop} {v1 : Int32} {σ : AH}
    (hS : Sh σ)
    (k1 : (¬ (isWi v1 (0 : Int32) ((zI σ 33 6) - (1 : Int32)))) → (isWi v1 (0 : Int32) ((zI σ 33 6) - (1 : Int32))) → Q (uI σ 33 49 (2 : Int32)) none)
    (k2 : (¬ (isWi v1 (0 : Int32) ((zI σ 33 6) - (1 : Int32)))) → (¬ (isWi v1 (0 : Int32) ((zI σ 33 6) - (1 : Int32)))) → Q (uI σ 33 49 (1 : Int32)) none)
    (o1 : (isWi v1 (0 : Int32) ((zI σ 33 6) - (1 : Int32))) → vp_in v1 40)
    (k3 : (isWi v1 (0 : Int32) ((zI σ 33 6) - (1 : Int32))) → (¬ (zI σ 45 (Int32.toNatClampNeg v1)) = 0) → (isWi v1 (0 : Int32) ((zI σ 33 6) - (1 : Int32))) → Q (uI σ 33 49 (2 : Int32)) none)
    (k4 : (isWi v1 (0 : Int32) ((zI σ 33 6) - (1 : Int32))) → (¬ (zI σ 45 (Int32.toNatClampNeg v1)) = 0) → (¬ (isWi v1 (0 : Int32) ((zI σ 33 6) - (1 : Int32)))) → Q (uI σ 33 49 (1 : Int32)) none)
    (k5 : (isWi v1 (0 : Int32) ((zI σ 33 6) - (1 : Int32))) → ((zI σ 45 (Int32.toNatClampNeg v1)) = 0) → (isWi v1 (0 : Int32) ((zI σ 33 6) - (1 : Int32))) → Q (uI (uI σ 33 49 (0 : Int32)) 45 (Int32.toNatClampNeg v1) (1 : Int32)) none)
    (k6 : (isWi v1 (0 : Int32) ((zI σ 33 6) - (1 : Int32))) → ((zI σ 45 (Int32.toNatClampNeg v1)) = 0) → (¬ (isWi v1 (0 : Int32) ((zI σ 33 6) - (1 : Int32)))) → Q (uI σ 33 49 (1 : Int32)) none) :
    V g mX12_withdraw (Em g mX12_withdraw Q X) CX 0 0 0 [(0, .ref 33), (1, .int v1)] [] σ := by
  refine V_iload_n dX12_withdraw_0 rfl ?_
  refine V_iconst (0 : Int32) dX12_withdraw_1 (by decide) ?_
  refine V_aload_n dX12_withdraw_2 rfl ?_
  refine V_getf (fk := 6) (Value.int (zI σ 33 6)) ko_X12 rfl w_1061 dX12_withdraw_3 (by decide) (shk hS 33 rfl) rfl ?_
  refine V_iconst (1 : Int32) dX12_withdraw_6 (by decide) ?_
  refine V_isub dX12_withdraw_7 ?_
  refine V_callS1 (as := [.int v1, .int (0 : Int32), .int ((zI σ 33 6) - (1 : Int32))]) (k' := 0) (n' := 0) (s_X12_in) mw_X12_in w_1219 w_1218 ar_X12_in rfl ⟨rfl, rfl, rfl, rfl, rfl⟩ dX12_withdraw_8 ?_
  refine V_istore_n [(0, .ref 33), (1, .int v1), (2, .int (jb (isWi v1 (0 : Int32) ((zI σ 33 6) - (1 : Int32)))))] dX12_withdraw_11 rfl rfl ?_
  refine V_aload_n dX12_withdraw_12 rfl ?_
  refine V_iload_n dX12_withdraw_13 rfl ?_
  refine V_iload_n dX12_withdraw_14 rfl ?_
  refine V_if_eq 39 dX12_withdraw_15 rfl (fun c1 => ?_) (fun c1 => ?_)
  · replace c1 := jb_0.mp c1
    refine V_iconst (0 : Int32) dX12_withdraw_39 (by decide) ?_
    refine V_iconst (1 : Int32) dX12_withdraw_40 (by decide) ?_
    by_cases c2 : isWi v1 (0 : Int32) ((zI σ 33 6) - (1 : Int32))
    · refine V_cast (st' := [.int (1 : Int32), .int (0 : Int32), .int (1 : Int32), .ref 33]) rfl (by rw [jb_t c2]) rfl ?_
      refine V_callV1 (as := [.int (1 : Int32), .int (0 : Int32), .int (1 : Int32)]) (k' := 0) (n' := 0) (s_goes2 hS) mw_X12_goes ko_X12 rfl w_1223 w_20 w_1221 ar_X12_goes rfl ⟨rfl, rfl, rfl, rfl, rfl⟩ dX12_withdraw_41 (by decide) (shk hS 33 rfl) ?_
      refine V_if_eq 54 dX12_withdraw_44 rfl (fun _ => ?_) (fun z_ => (by first | exact absurd (by decide) z_ | exact absurd z_ (by decide)))
      exact V_vret rfl dX12_withdraw_54 (k1 c1 c2)
    · refine V_cast (st' := [.int (1 : Int32), .int (0 : Int32), .int (0 : Int32), .ref 33]) rfl (by rw [jb_f c2]) rfl ?_
      refine V_callV1 (as := [.int (0 : Int32), .int (0 : Int32), .int (1 : Int32)]) (k' := 0) (n' := 0) (s_goes1 hS) mw_X12_goes ko_X12 rfl w_1223 w_20 w_1221 ar_X12_goes rfl ⟨rfl, rfl, rfl, rfl, rfl⟩ dX12_withdraw_41 (by decide) (shk hS 33 rfl) ?_
      refine V_if_eq 54 dX12_withdraw_44 rfl (fun _ => ?_) (fun z_ => (by first | exact absurd (by decide) z_ | exact absurd z_ (by decide)))
      exact V_vret rfl dX12_withdraw_54 (k2 c1 c2)
  · replace c1 := jb_n.mp c1
    refine V_aload_n dX12_withdraw_18 rfl ?_
    refine V_getf (fk := 13) (Value.ref 45) ko_X12 rfl w_1068 dX12_withdraw_19 (by decide) (shk hS 33 rfl) (congrArg Value.ref (shr hS 33 13 45 (by decide))) ?_
    refine V_iload_n dX12_withdraw_22 rfl ?_
    refine V_if_eq 30 dX12_withdraw_23 rfl (fun z_ => (by have y_ := jb_0.mp z_; first | exact absurd (c1) y_ | exact absurd y_ (c1))) (fun _ => ?_)
    refine V_iload_n dX12_withdraw_26 rfl ?_
    refine V_goto 31 dX12_withdraw_27 rfl ?_
    refine V_zald dX12_withdraw_31 (by decide) (shk hS 45 rfl) (vp_l (n := 40) (shl hS 45 rfl) (o1 c1)) ?_
    refine V_if_ne 39 dX12_withdraw_32 rfl (fun c4 => ?_) (fun c4 => ?_)
    · refine V_iconst (0 : Int32) dX12_withdraw_39 (by decide) ?_
      refine V_iconst (1 : Int32) dX12_withdraw_40 (by decide) ?_
      by_cases c5 : isWi v1 (0 : Int32) ((zI σ 33 6) - (1 : Int32))
      · refine V_cast (st' := [.int (1 : Int32), .int (0 : Int32), .int (1 : Int32), .ref 33]) rfl (by rw [jb_t c5]) rfl ?_
        refine V_callV1 (as := [.int (1 : Int32), .int (0 : Int32), .int (1 : Int32)]) (k' := 0) (n' := 0) (s_goes2 hS) mw_X12_goes ko_X12 rfl w_1223 w_20 w_1221 ar_X12_goes rfl ⟨rfl, rfl, rfl, rfl, rfl⟩ dX12_withdraw_41 (by decide) (shk hS 33 rfl) ?_
        refine V_if_eq 54 dX12_withdraw_44 rfl (fun _ => ?_) (fun z_ => (by first | exact absurd (by decide) z_ | exact absurd z_ (by decide)))
        exact V_vret rfl dX12_withdraw_54 (k3 c1 c4 c5)
      · refine V_cast (st' := [.int (1 : Int32), .int (0 : Int32), .int (0 : Int32), .ref 33]) rfl (by rw [jb_f c5]) rfl ?_
        refine V_callV1 (as := [.int (0 : Int32), .int (0 : Int32), .int (1 : Int32)]) (k' := 0) (n' := 0) (s_goes1 hS) mw_X12_goes ko_X12 rfl w_1223 w_20 w_1221 ar_X12_goes rfl ⟨rfl, rfl, rfl, rfl, rfl⟩ dX12_withdraw_41 (by decide) (shk hS 33 rfl) ?_
        refine V_if_eq 54 dX12_withdraw_44 rfl (fun _ => ?_) (fun z_ => (by first | exact absurd (by decide) z_ | exact absurd z_ (by decide)))
        exact V_vret rfl dX12_withdraw_54 (k4 c1 c4 c5)
    · refine V_iconst (1 : Int32) dX12_withdraw_35 (by decide) ?_
      refine V_goto 40 dX12_withdraw_36 rfl ?_
      refine V_iconst (1 : Int32) dX12_withdraw_40 (by decide) ?_
      by_cases c6 : isWi v1 (0 : Int32) ((zI σ 33 6) - (1 : Int32))
      · refine V_cast (st' := [.int (1 : Int32), .int (1 : Int32), .int (1 : Int32), .ref 33]) rfl (by rw [jb_t c6]) rfl ?_
        refine V_callV1 (as := [.int (1 : Int32), .int (1 : Int32), .int (1 : Int32)]) (k' := 0) (n' := 0) (s_goes0 hS) mw_X12_goes ko_X12 rfl w_1223 w_20 w_1221 ar_X12_goes rfl ⟨rfl, rfl, rfl, rfl, rfl⟩ dX12_withdraw_41 (by decide) (shk hS 33 rfl) ?_
        refine V_if_eq 54 dX12_withdraw_44 rfl (fun z_ => (by first | exact absurd (by decide) z_ | exact absurd z_ (by decide))) (fun _ => ?_)
        refine V_aload_n dX12_withdraw_47 rfl ?_
        refine V_getf (fk := 13) (Value.ref 45) ko_X12 rfl w_1068 dX12_withdraw_48 (by decide) (shk (Sh_uI hS) 33 rfl) (congrArg Value.ref (shr (Sh_uI hS) 33 13 45 (by decide))) ?_
        refine V_iload_n dX12_withdraw_51 rfl ?_
        refine V_iconst (1 : Int32) dX12_withdraw_52 (by decide) ?_
        refine V_zast dX12_withdraw_53 (by decide) (shk (Sh_uI hS) 45 rfl) (vp_l (n := 40) (shl (Sh_uI hS) 45 rfl) (o1 c1)) (by decide) ?_
        exact V_vret rfl dX12_withdraw_54 (k5 c1 c4 c6)
      · refine V_cast (st' := [.int (1 : Int32), .int (1 : Int32), .int (0 : Int32), .ref 33]) rfl (by rw [jb_f c6]) rfl ?_
        refine V_callV1 (as := [.int (0 : Int32), .int (1 : Int32), .int (1 : Int32)]) (k' := 0) (n' := 0) (s_goes1 hS) mw_X12_goes ko_X12 rfl w_1223 w_20 w_1221 ar_X12_goes rfl ⟨rfl, rfl, rfl, rfl, rfl⟩ dX12_withdraw_41 (by decide) (shk hS 33 rfl) ?_
        refine V_if_eq 54 dX12_withdraw_44 rfl (fun _ => ?_) (fun z_ => (by first | exact absurd (by decide) z_ | exact absurd z_ (by decide)))
        exact V_vret rfl dX12_withdraw_54 (k6 c1 c4 c6)

set_option maxRecDepth 100000 in
set_option maxHeartbeats 4000000 in
theorem b_X12_unit_0 {g : GP} {CX : State → Array Value → Prop} {Q : AH → Option Value → Prop} {X : AH → String → Prop} {v1 : Int32} {σ : AH}
    (hS : Sh σ)
    (k1 : (isWi v1 (1 : Int32) (1000 : Int32)) → Q (uI (uI σ 33 49 (0 : Int32)) 33 14 v1) (some (.int (zI σ 33 14))))
    (k2 : (¬ (isWi v1 (1 : Int32) (1000 : Int32))) → Q (uI σ 33 49 (1 : Int32)) (some (.int (0 : Int32)))) :
    V g mX12_unit (Em g mX12_unit Q X) CX 0 0 0 [(0, .ref 33), (1, .int v1)] [] σ := by
  refine V_aload_n dX12_unit_0 rfl ?_
  refine V_iload_n dX12_unit_1 rfl ?_
  refine V_iconst (1 : Int32) dX12_unit_2 (by decide) ?_
  refine V_sipush (1000 : Int32) dX12_unit_3 (by decide) ?_
  refine V_callS1 (as := [.int v1, .int (1 : Int32), .int (1000 : Int32)]) (k' := 0) (n' := 0) (s_X12_in) mw_X12_in w_1219 w_1218 ar_X12_in rfl ⟨rfl, rfl, rfl, rfl, rfl⟩ dX12_unit_6 ?_
  refine V_iconst (1 : Int32) dX12_unit_9 (by decide) ?_
  refine V_iconst (1 : Int32) dX12_unit_10 (by decide) ?_
  by_cases c1 : isWi v1 (1 : Int32) (1000 : Int32)
  · refine V_cast (st' := [.int (1 : Int32), .int (1 : Int32), .int (1 : Int32), .ref 33]) rfl (by rw [jb_t c1]) rfl ?_
    refine V_callV1 (as := [.int (1 : Int32), .int (1 : Int32), .int (1 : Int32)]) (k' := 0) (n' := 0) (s_goes0 hS) mw_X12_goes ko_X12 rfl w_1223 w_20 w_1221 ar_X12_goes rfl ⟨rfl, rfl, rfl, rfl, rfl⟩ dX12_unit_11 (by decide) (shk hS 33 rfl) ?_
    refine V_if_ne 19 dX12_unit_14 rfl (fun _ => ?_) (fun z_ => (by first | exact absurd (by decide) z_ | exact absurd z_ (by decide)))
    refine V_aload_n dX12_unit_19 rfl ?_
    refine V_getf (fk := 14) (Value.int (zI σ 33 14)) ko_X12 rfl w_1069 dX12_unit_20 (by decide) (shk (Sh_uI hS) 33 rfl) (congrArg Value.int (zI_oth _ _ _ _ _ _ (by decide))) ?_
    refine V_istore_n [(0, .ref 33), (1, .int v1), (2, .int (zI σ 33 14))] dX12_unit_23 rfl rfl ?_
    refine V_aload_n dX12_unit_24 rfl ?_
    refine V_iload_n dX12_unit_25 rfl ?_
    refine V_puti (fk := 14) ko_X12 rfl w_1069 (Or.inl rfl) dX12_unit_26 rfl (by decide) (shk (Sh_uI hS) 33 rfl) ?_
    refine V_iload_n dX12_unit_29 rfl ?_
    exact V_iret rfl dX12_unit_30 (k1 c1)
  · refine V_cast (st' := [.int (1 : Int32), .int (1 : Int32), .int (0 : Int32), .ref 33]) rfl (by rw [jb_f c1]) rfl ?_
    refine V_callV1 (as := [.int (0 : Int32), .int (1 : Int32), .int (1 : Int32)]) (k' := 0) (n' := 0) (s_goes1 hS) mw_X12_goes ko_X12 rfl w_1223 w_20 w_1221 ar_X12_goes rfl ⟨rfl, rfl, rfl, rfl, rfl⟩ dX12_unit_11 (by decide) (shk hS 33 rfl) ?_
    refine V_if_ne 19 dX12_unit_14 rfl (fun z_ => (by first | exact absurd (by decide) z_ | exact absurd z_ (by decide))) (fun _ => ?_)
    refine V_iconst (0 : Int32) dX12_unit_17 (by decide) ?_
    exact V_iret rfl dX12_unit_18 (k2 c1)

set_option maxRecDepth 100000 in
set_option maxHeartbeats 4000000 in
theorem b_X12_tax_0 {g : GP} {CX : State → Array Value → Prop} {Q : AH → Option Value → Prop} {X : AH → String → Prop} {v1 : Int32} {v2 : Int32} {v3 : Int32} {σ : AH}
    (hS : Sh σ)
    (k1 : (¬ (isWi v2 (0 : Int32) (10000 : Int32))) → (isPl v1) → Q (uI σ 33 49 (2 : Int32)) none)
    (k2 : (¬ (isWi v2 (0 : Int32) (10000 : Int32))) → (¬ (isPl v1)) → Q (uI σ 33 49 (1 : Int32)) none)
    (k3 : (isWi v2 (0 : Int32) (10000 : Int32)) → (¬ (isWi v3 (0 : Int32) (10000 : Int32))) → (isPl v1) → Q (uI σ 33 49 (2 : Int32)) none)
    (k4 : (isWi v2 (0 : Int32) (10000 : Int32)) → (¬ (isWi v3 (0 : Int32) (10000 : Int32))) → (¬ (isPl v1)) → Q (uI σ 33 49 (1 : Int32)) none)
    (o1 : (isWi v2 (0 : Int32) (10000 : Int32)) → (isWi v3 (0 : Int32) (10000 : Int32)) → (isPl v1) → vp_in v1 10)
    (k5 : (isWi v2 (0 : Int32) (10000 : Int32)) → (isWi v3 (0 : Int32) (10000 : Int32)) → (isPl v1) → Q (uI (uI (uI σ 33 49 (0 : Int32)) 37 (Int32.toNatClampNeg v1) v2) 38 (Int32.toNatClampNeg v1) v3) none)
    (k6 : (isWi v2 (0 : Int32) (10000 : Int32)) → (isWi v3 (0 : Int32) (10000 : Int32)) → (¬ (isPl v1)) → Q (uI σ 33 49 (1 : Int32)) none) :
    V g mX12_tax (Em g mX12_tax Q X) CX 0 0 0 [(0, .ref 33), (1, .int v1), (2, .int v2), (3, .int v3)] [] σ := by
  refine V_aload_n dX12_tax_0 rfl ?_
  refine V_iload_n dX12_tax_1 rfl ?_
  refine V_callS1 (as := [.int v1]) (k' := 0) (n' := 0) (s_X12_isPlace) mw_X12_isPlace w_1216 w_1215 ar_X12_isPlace rfl ⟨rfl, rfl, rfl, rfl, rfl⟩ dX12_tax_2 ?_
  refine V_iload_n dX12_tax_5 rfl ?_
  refine V_iconst (0 : Int32) dX12_tax_6 (by decide) ?_
  refine V_sipush (10000 : Int32) dX12_tax_7 (by decide) ?_
  refine V_callS1 (as := [.int v2, .int (0 : Int32), .int (10000 : Int32)]) (k' := 0) (n' := 0) (s_X12_in) mw_X12_in w_1219 w_1218 ar_X12_in rfl ⟨rfl, rfl, rfl, rfl, rfl⟩ dX12_tax_10 ?_
  refine V_if_eq 31 dX12_tax_13 rfl (fun c1 => ?_) (fun c1 => ?_)
  · replace c1 := jb_0.mp c1
    refine V_iconst (0 : Int32) dX12_tax_31 (by decide) ?_
    refine V_iconst (1 : Int32) dX12_tax_32 (by decide) ?_
    by_cases c2 : isPl v1
    · refine V_cast (st' := [.int (1 : Int32), .int (0 : Int32), .int (1 : Int32), .ref 33]) rfl (by rw [jb_t c2]) rfl ?_
      refine V_callV1 (as := [.int (1 : Int32), .int (0 : Int32), .int (1 : Int32)]) (k' := 0) (n' := 0) (s_goes2 hS) mw_X12_goes ko_X12 rfl w_1223 w_20 w_1221 ar_X12_goes rfl ⟨rfl, rfl, rfl, rfl, rfl⟩ dX12_tax_33 (by decide) (shk hS 33 rfl) ?_
      refine V_if_eq 53 dX12_tax_36 rfl (fun _ => ?_) (fun z_ => (by first | exact absurd (by decide) z_ | exact absurd z_ (by decide)))
      exact V_vret rfl dX12_tax_53 (k1 c1 c2)
    · refine V_cast (st' := [.int (1 : Int32), .int (0 : Int32), .int (0 : Int32), .ref 33]) rfl (by rw [jb_f c2]) rfl ?_
      refine V_callV1 (as := [.int (0 : Int32), .int (0 : Int32), .int (1 : Int32)]) (k' := 0) (n' := 0) (s_goes1 hS) mw_X12_goes ko_X12 rfl w_1223 w_20 w_1221 ar_X12_goes rfl ⟨rfl, rfl, rfl, rfl, rfl⟩ dX12_tax_33 (by decide) (shk hS 33 rfl) ?_
      refine V_if_eq 53 dX12_tax_36 rfl (fun _ => ?_) (fun z_ => (by first | exact absurd (by decide) z_ | exact absurd z_ (by decide)))
      exact V_vret rfl dX12_tax_53 (k2 c1 c2)
  · replace c1 := jb_n.mp c1
    refine V_iload_n dX12_tax_16 rfl ?_
    refine V_iconst (0 : Int32) dX12_tax_17 (by decide) ?_
    refine V_sipush (10000 : Int32) dX12_tax_18 (by decide) ?_
    refine V_callS1 (as := [.int v3, .int (0 : Int32), .int (10000 : Int32)]) (k' := 0) (n' := 0) (s_X12_in) mw_X12_in w_1219 w_1218 ar_X12_in rfl ⟨rfl, rfl, rfl, rfl, rfl⟩ dX12_tax_21 ?_
    refine V_if_eq 31 dX12_tax_24 rfl (fun c3 => ?_) (fun c3 => ?_)
    · replace c3 := jb_0.mp c3
      refine V_iconst (0 : Int32) dX12_tax_31 (by decide) ?_
      refine V_iconst (1 : Int32) dX12_tax_32 (by decide) ?_
      by_cases c4 : isPl v1
      · refine V_cast (st' := [.int (1 : Int32), .int (0 : Int32), .int (1 : Int32), .ref 33]) rfl (by rw [jb_t c4]) rfl ?_
        refine V_callV1 (as := [.int (1 : Int32), .int (0 : Int32), .int (1 : Int32)]) (k' := 0) (n' := 0) (s_goes2 hS) mw_X12_goes ko_X12 rfl w_1223 w_20 w_1221 ar_X12_goes rfl ⟨rfl, rfl, rfl, rfl, rfl⟩ dX12_tax_33 (by decide) (shk hS 33 rfl) ?_
        refine V_if_eq 53 dX12_tax_36 rfl (fun _ => ?_) (fun z_ => (by first | exact absurd (by decide) z_ | exact absurd z_ (by decide)))
        exact V_vret rfl dX12_tax_53 (k3 c1 c3 c4)
      · refine V_cast (st' := [.int (1 : Int32), .int (0 : Int32), .int (0 : Int32), .ref 33]) rfl (by rw [jb_f c4]) rfl ?_
        refine V_callV1 (as := [.int (0 : Int32), .int (0 : Int32), .int (1 : Int32)]) (k' := 0) (n' := 0) (s_goes1 hS) mw_X12_goes ko_X12 rfl w_1223 w_20 w_1221 ar_X12_goes rfl ⟨rfl, rfl, rfl, rfl, rfl⟩ dX12_tax_33 (by decide) (shk hS 33 rfl) ?_
        refine V_if_eq 53 dX12_tax_36 rfl (fun _ => ?_) (fun z_ => (by first | exact absurd (by decide) z_ | exact absurd z_ (by decide)))
        exact V_vret rfl dX12_tax_53 (k4 c1 c3 c4)
    · replace c3 := jb_n.mp c3
      refine V_iconst (1 : Int32) dX12_tax_27 (by decide) ?_
      refine V_goto 32 dX12_tax_28 rfl ?_
      refine V_iconst (1 : Int32) dX12_tax_32 (by decide) ?_
      by_cases c5 : isPl v1
      · refine V_cast (st' := [.int (1 : Int32), .int (1 : Int32), .int (1 : Int32), .ref 33]) rfl (by rw [jb_t c5]) rfl ?_
        refine V_callV1 (as := [.int (1 : Int32), .int (1 : Int32), .int (1 : Int32)]) (k' := 0) (n' := 0) (s_goes0 hS) mw_X12_goes ko_X12 rfl w_1223 w_20 w_1221 ar_X12_goes rfl ⟨rfl, rfl, rfl, rfl, rfl⟩ dX12_tax_33 (by decide) (shk hS 33 rfl) ?_
        refine V_if_eq 53 dX12_tax_36 rfl (fun z_ => (by first | exact absurd (by decide) z_ | exact absurd z_ (by decide))) (fun _ => ?_)
        refine V_aload_n dX12_tax_39 rfl ?_
        refine V_getf (fk := 4) (Value.ref 37) ko_X12 rfl w_1059 dX12_tax_40 (by decide) (shk (Sh_uI hS) 33 rfl) (congrArg Value.ref (shr (Sh_uI hS) 33 4 37 (by decide))) ?_
        refine V_iload_n dX12_tax_43 rfl ?_
        refine V_iload_n dX12_tax_44 rfl ?_
        refine V_iast dX12_tax_45 (by decide) (shk (Sh_uI hS) 37 rfl) (vp_l (n := 10) (shl (Sh_uI hS) 37 rfl) (o1 c1 c3 c5)) ?_
        refine V_aload_n dX12_tax_46 rfl ?_
        refine V_getf (fk := 5) (Value.ref 38) ko_X12 rfl w_1060 dX12_tax_47 (by decide) (shk (Sh_uI (Sh_uI hS)) 33 rfl) (congrArg Value.ref (shr (Sh_uI (Sh_uI hS)) 33 5 38 (by decide))) ?_
        refine V_iload_n dX12_tax_50 rfl ?_
        refine V_iload_n dX12_tax_51 rfl ?_
        refine V_iast dX12_tax_52 (by decide) (shk (Sh_uI (Sh_uI hS)) 38 rfl) (vp_l (n := 10) (shl (Sh_uI (Sh_uI hS)) 38 rfl) (o1 c1 c3 c5)) ?_
        exact V_vret rfl dX12_tax_53 (k5 c1 c3 c5)
      · refine V_cast (st' := [.int (1 : Int32), .int (1 : Int32), .int (0 : Int32), .ref 33]) rfl (by rw [jb_f c5]) rfl ?_
        refine V_callV1 (as := [.int (0 : Int32), .int (1 : Int32), .int (1 : Int32)]) (k' := 0) (n' := 0) (s_goes1 hS) mw_X12_goes ko_X12 rfl w_1223 w_20 w_1221 ar_X12_goes rfl ⟨rfl, rfl, rfl, rfl, rfl⟩ dX12_tax_33 (by decide) (shk hS 33 rfl) ?_
        refine V_if_eq 53 dX12_tax_36 rfl (fun _ => ?_) (fun z_ => (by first | exact absurd (by decide) z_ | exact absurd z_ (by decide)))
        exact V_vret rfl dX12_tax_53 (k6 c1 c3 c5)

set_option maxRecDepth 100000 in
set_option maxHeartbeats 4000000 in
theorem b_X12_weight_0 {g : GP} {CX : State → Array Value → Prop} {Q : AH → Option Value → Prop} {X : AH → String → Prop} {v1 : Int32} {v2 : Int32} {v3 : Int32} {σ : AH}
    (hS : Sh σ)
    (k1 : (¬ (isPl v1)) → (v1 = v2) → Q (uI σ 33 49 (1 : Int32)) (some (.int (0 : Int32))))
    (k2 : (¬ (isPl v1)) → (¬ v1 = v2) → (¬ (isWi v3 (0 : Int32) (9999 : Int32))) → Q (uI σ 33 49 (1 : Int32)) (some (.int (0 : Int32))))
    (k3 : (¬ (isPl v1)) → (¬ v1 = v2) → (isWi v3 (0 : Int32) (9999 : Int32)) → Q (uI σ 33 49 (1 : Int32)) (some (.int (0 : Int32))))
    (k4 : (isPl v1) → (¬ (isPl v2)) → (v1 = v2) → Q (uI σ 33 49 (1 : Int32)) (some (.int (0 : Int32))))
    (k5 : (isPl v1) → (¬ (isPl v2)) → (¬ v1 = v2) → (¬ (isWi v3 (0 : Int32) (9999 : Int32))) → Q (uI σ 33 49 (1 : Int32)) (some (.int (0 : Int32))))
    (k6 : (isPl v1) → (¬ (isPl v2)) → (¬ v1 = v2) → (isWi v3 (0 : Int32) (9999 : Int32)) → Q (uI σ 33 49 (1 : Int32)) (some (.int (0 : Int32))))
    (k7 : (isPl v1) → (isPl v2) → (v1 = v2) → Q (uI σ 33 49 (2 : Int32)) (some (.int (0 : Int32))))
    (k8 : (isPl v1) → (isPl v2) → (¬ v1 = v2) → (¬ (isWi v3 (0 : Int32) (9999 : Int32))) → Q (uI σ 33 49 (2 : Int32)) (some (.int (0 : Int32))))
    (o1 : (isPl v1) → (isPl v2) → (¬ v1 = v2) → (isWi v3 (0 : Int32) (9999 : Int32)) → vp_in (((10 : Int32) * v1) + v2) 100)
    (o2 : (isPl v1) → (isPl v2) → (¬ v1 = v2) → (isWi v3 (0 : Int32) (9999 : Int32)) → vp_in (((10 : Int32) * v2) + v1) 100)
    (k9 : (isPl v1) → (isPl v2) → (¬ v1 = v2) → (isWi v3 (0 : Int32) (9999 : Int32)) → Q (uI (uI (uI σ 33 49 (0 : Int32)) 35 (Int32.toNatClampNeg (((10 : Int32) * v1) + v2)) v3) 35 (Int32.toNatClampNeg (((10 : Int32) * v2) + v1)) v3) (some (.int (zI (uI σ 33 49 (0 : Int32)) 35 (Int32.toNatClampNeg (((10 : Int32) * v1) + v2)))))) :
    V g mX12_weight (Em g mX12_weight Q X) CX 0 0 0 [(0, .ref 33), (1, .int v1), (2, .int v2), (3, .int v3)] [] σ := by
  refine V_aload_n dX12_weight_0 rfl ?_
  refine V_iload_n dX12_weight_1 rfl ?_
  refine V_callS1 (as := [.int v1]) (k' := 0) (n' := 0) (s_X12_isPlace) mw_X12_isPlace w_1216 w_1215 ar_X12_isPlace rfl ⟨rfl, rfl, rfl, rfl, rfl⟩ dX12_weight_2 ?_
  refine V_if_eq 19 dX12_weight_5 rfl (fun c1 => ?_) (fun c1 => ?_)
  · replace c1 := jb_0.mp c1
    refine V_iconst (0 : Int32) dX12_weight_19 (by decide) ?_
    refine V_iload_n dX12_weight_20 rfl ?_
    refine V_iload_n dX12_weight_21 rfl ?_
    refine V_icmp_eq 40 dX12_weight_22 rfl (fun c2 => ?_) (fun c2 => ?_)
    · refine V_iconst (0 : Int32) dX12_weight_40 (by decide) ?_
      refine V_iconst (1 : Int32) dX12_weight_41 (by decide) ?_
      refine V_callV1 (as := [.int (0 : Int32), .int (0 : Int32), .int (1 : Int32)]) (k' := 0) (n' := 0) (s_goes1 hS) mw_X12_goes ko_X12 rfl w_1223 w_20 w_1221 ar_X12_goes rfl ⟨rfl, rfl, rfl, rfl, rfl⟩ dX12_weight_42 (by decide) (shk hS 33 rfl) ?_
      refine V_if_ne 50 dX12_weight_45 rfl (fun z_ => (by first | exact absurd (by decide) z_ | exact absurd z_ (by decide))) (fun _ => ?_)
      refine V_iconst (0 : Int32) dX12_weight_48 (by decide) ?_
      exact V_iret rfl dX12_weight_49 (k1 c1 c2)
    · refine V_iload_n dX12_weight_25 rfl ?_
      refine V_iconst (0 : Int32) dX12_weight_26 (by decide) ?_
      refine V_sipush (9999 : Int32) dX12_weight_27 (by decide) ?_
      refine V_callS1 (as := [.int v3, .int (0 : Int32), .int (9999 : Int32)]) (k' := 0) (n' := 0) (s_X12_in) mw_X12_in w_1219 w_1218 ar_X12_in rfl ⟨rfl, rfl, rfl, rfl, rfl⟩ dX12_weight_30 ?_
      refine V_if_eq 40 dX12_weight_33 rfl (fun c3 => ?_) (fun c3 => ?_)
      · replace c3 := jb_0.mp c3
        refine V_iconst (0 : Int32) dX12_weight_40 (by decide) ?_
        refine V_iconst (1 : Int32) dX12_weight_41 (by decide) ?_
        refine V_callV1 (as := [.int (0 : Int32), .int (0 : Int32), .int (1 : Int32)]) (k' := 0) (n' := 0) (s_goes1 hS) mw_X12_goes ko_X12 rfl w_1223 w_20 w_1221 ar_X12_goes rfl ⟨rfl, rfl, rfl, rfl, rfl⟩ dX12_weight_42 (by decide) (shk hS 33 rfl) ?_
        refine V_if_ne 50 dX12_weight_45 rfl (fun z_ => (by first | exact absurd (by decide) z_ | exact absurd z_ (by decide))) (fun _ => ?_)
        refine V_iconst (0 : Int32) dX12_weight_48 (by decide) ?_
        exact V_iret rfl dX12_weight_49 (k2 c1 c2 c3)
      · replace c3 := jb_n.mp c3
        refine V_iconst (1 : Int32) dX12_weight_36 (by decide) ?_
        refine V_goto 41 dX12_weight_37 rfl ?_
        refine V_iconst (1 : Int32) dX12_weight_41 (by decide) ?_
        refine V_callV1 (as := [.int (0 : Int32), .int (1 : Int32), .int (1 : Int32)]) (k' := 0) (n' := 0) (s_goes1 hS) mw_X12_goes ko_X12 rfl w_1223 w_20 w_1221 ar_X12_goes rfl ⟨rfl, rfl, rfl, rfl, rfl⟩ dX12_weight_42 (by decide) (shk hS 33 rfl) ?_
        refine V_if_ne 50 dX12_weight_45 rfl (fun z_ => (by first | exact absurd (by decide) z_ | exact absurd z_ (by decide))) (fun _ => ?_)
        refine V_iconst (0 : Int32) dX12_weight_48 (by decide) ?_
        exact V_iret rfl dX12_weight_49 (k3 c1 c2 c3)
  · replace c1 := jb_n.mp c1
    refine V_iload_n dX12_weight_8 rfl ?_
    refine V_callS1 (as := [.int v2]) (k' := 0) (n' := 0) (s_X12_isPlace) mw_X12_isPlace w_1216 w_1215 ar_X12_isPlace rfl ⟨rfl, rfl, rfl, rfl, rfl⟩ dX12_weight_9 ?_
    refine V_if_eq 19 dX12_weight_12 rfl (fun c4 => ?_) (fun c4 => ?_)
    · replace c4 := jb_0.mp c4
      refine V_iconst (0 : Int32) dX12_weight_19 (by decide) ?_
      refine V_iload_n dX12_weight_20 rfl ?_
      refine V_iload_n dX12_weight_21 rfl ?_
      refine V_icmp_eq 40 dX12_weight_22 rfl (fun c5 => ?_) (fun c5 => ?_)
      · refine V_iconst (0 : Int32) dX12_weight_40 (by decide) ?_
        refine V_iconst (1 : Int32) dX12_weight_41 (by decide) ?_
        refine V_callV1 (as := [.int (0 : Int32), .int (0 : Int32), .int (1 : Int32)]) (k' := 0) (n' := 0) (s_goes1 hS) mw_X12_goes ko_X12 rfl w_1223 w_20 w_1221 ar_X12_goes rfl ⟨rfl, rfl, rfl, rfl, rfl⟩ dX12_weight_42 (by decide) (shk hS 33 rfl) ?_
        refine V_if_ne 50 dX12_weight_45 rfl (fun z_ => (by first | exact absurd (by decide) z_ | exact absurd z_ (by decide))) (fun _ => ?_)
        refine V_iconst (0 : Int32) dX12_weight_48 (by decide) ?_
        exact V_iret rfl dX12_weight_49 (k4 c1 c4 c5)
      · refine V_iload_n dX12_weight_25 rfl ?_
        refine V_iconst (0 : Int32) dX12_weight_26 (by decide) ?_
        refine V_sipush (9999 : Int32) dX12_weight_27 (by decide) ?_
        refine V_callS1 (as := [.int v3, .int (0 : Int32), .int (9999 : Int32)]) (k' := 0) (n' := 0) (s_X12_in) mw_X12_in w_1219 w_1218 ar_X12_in rfl ⟨rfl, rfl, rfl, rfl, rfl⟩ dX12_weight_30 ?_
        refine V_if_eq 40 dX12_weight_33 rfl (fun c6 => ?_) (fun c6 => ?_)
        · replace c6 := jb_0.mp c6
          refine V_iconst (0 : Int32) dX12_weight_40 (by decide) ?_
          refine V_iconst (1 : Int32) dX12_weight_41 (by decide) ?_
          refine V_callV1 (as := [.int (0 : Int32), .int (0 : Int32), .int (1 : Int32)]) (k' := 0) (n' := 0) (s_goes1 hS) mw_X12_goes ko_X12 rfl w_1223 w_20 w_1221 ar_X12_goes rfl ⟨rfl, rfl, rfl, rfl, rfl⟩ dX12_weight_42 (by decide) (shk hS 33 rfl) ?_
          refine V_if_ne 50 dX12_weight_45 rfl (fun z_ => (by first | exact absurd (by decide) z_ | exact absurd z_ (by decide))) (fun _ => ?_)
          refine V_iconst (0 : Int32) dX12_weight_48 (by decide) ?_
          exact V_iret rfl dX12_weight_49 (k5 c1 c4 c5 c6)
        · replace c6 := jb_n.mp c6
          refine V_iconst (1 : Int32) dX12_weight_36 (by decide) ?_
          refine V_goto 41 dX12_weight_37 rfl ?_
          refine V_iconst (1 : Int32) dX12_weight_41 (by decide) ?_
          refine V_callV1 (as := [.int (0 : Int32), .int (1 : Int32), .int (1 : Int32)]) (k' := 0) (n' := 0) (s_goes1 hS) mw_X12_goes ko_X12 rfl w_1223 w_20 w_1221 ar_X12_goes rfl ⟨rfl, rfl, rfl, rfl, rfl⟩ dX12_weight_42 (by decide) (shk hS 33 rfl) ?_
          refine V_if_ne 50 dX12_weight_45 rfl (fun z_ => (by first | exact absurd (by decide) z_ | exact absurd z_ (by decide))) (fun _ => ?_)
          refine V_iconst (0 : Int32) dX12_weight_48 (by decide) ?_
          exact V_iret rfl dX12_weight_49 (k6 c1 c4 c5 c6)
    · replace c4 := jb_n.mp c4
      refine V_iconst (1 : Int32) dX12_weight_15 (by decide) ?_
      refine V_goto 20 dX12_weight_16 rfl ?_
      refine V_iload_n dX12_weight_20 rfl ?_
      refine V_iload_n dX12_weight_21 rfl ?_
      refine V_icmp_eq 40 dX12_weight_22 rfl (fun c7 => ?_) (fun c7 => ?_)
      · refine V_iconst (0 : Int32) dX12_weight_40 (by decide) ?_
        refine V_iconst (1 : Int32) dX12_weight_41 (by decide) ?_
        refine V_callV1 (as := [.int (1 : Int32), .int (0 : Int32), .int (1 : Int32)]) (k' := 0) (n' := 0) (s_goes2 hS) mw_X12_goes ko_X12 rfl w_1223 w_20 w_1221 ar_X12_goes rfl ⟨rfl, rfl, rfl, rfl, rfl⟩ dX12_weight_42 (by decide) (shk hS 33 rfl) ?_
        refine V_if_ne 50 dX12_weight_45 rfl (fun z_ => (by first | exact absurd (by decide) z_ | exact absurd z_ (by decide))) (fun _ => ?_)
        refine V_iconst (0 : Int32) dX12_weight_48 (by decide) ?_
        exact V_iret rfl dX12_weight_49 (k7 c1 c4 c7)
      · refine V_iload_n dX12_weight_25 rfl ?_
        refine V_iconst (0 : Int32) dX12_weight_26 (by decide) ?_
        refine V_sipush (9999 : Int32) dX12_weight_27 (by decide) ?_
        refine V_callS1 (as := [.int v3, .int (0 : Int32), .int (9999 : Int32)]) (k' := 0) (n' := 0) (s_X12_in) mw_X12_in w_1219 w_1218 ar_X12_in rfl ⟨rfl, rfl, rfl, rfl, rfl⟩ dX12_weight_30 ?_
        refine V_if_eq 40 dX12_weight_33 rfl (fun c8 => ?_) (fun c8 => ?_)
        · replace c8 := jb_0.mp c8
          refine V_iconst (0 : Int32) dX12_weight_40 (by decide) ?_
          refine V_iconst (1 : Int32) dX12_weight_41 (by decide) ?_
          refine V_callV1 (as := [.int (1 : Int32), .int (0 : Int32), .int (1 : Int32)]) (k' := 0) (n' := 0) (s_goes2 hS) mw_X12_goes ko_X12 rfl w_1223 w_20 w_1221 ar_X12_goes rfl ⟨rfl, rfl, rfl, rfl, rfl⟩ dX12_weight_42 (by decide) (shk hS 33 rfl) ?_
          refine V_if_ne 50 dX12_weight_45 rfl (fun z_ => (by first | exact absurd (by decide) z_ | exact absurd z_ (by decide))) (fun _ => ?_)
          refine V_iconst (0 : Int32) dX12_weight_48 (by decide) ?_
          exact V_iret rfl dX12_weight_49 (k8 c1 c4 c7 c8)
        · replace c8 := jb_n.mp c8
          refine V_iconst (1 : Int32) dX12_weight_36 (by decide) ?_
          refine V_goto 41 dX12_weight_37 rfl ?_
          refine V_iconst (1 : Int32) dX12_weight_41 (by decide) ?_
          refine V_callV1 (as := [.int (1 : Int32), .int (1 : Int32), .int (1 : Int32)]) (k' := 0) (n' := 0) (s_goes0 hS) mw_X12_goes ko_X12 rfl w_1223 w_20 w_1221 ar_X12_goes rfl ⟨rfl, rfl, rfl, rfl, rfl⟩ dX12_weight_42 (by decide) (shk hS 33 rfl) ?_
          refine V_if_ne 50 dX12_weight_45 rfl (fun _ => ?_) (fun z_ => (by first | exact absurd (by decide) z_ | exact absurd z_ (by decide)))
          refine V_aload_n dX12_weight_50 rfl ?_
          refine V_getf (fk := 2) (Value.ref 35) ko_X12 rfl w_1057 dX12_weight_51 (by decide) (shk (Sh_uI hS) 33 rfl) (congrArg Value.ref (shr (Sh_uI hS) 33 2 35 (by decide))) ?_
          refine V_bipush (10 : Int32) dX12_weight_54 (by decide) ?_
          refine V_iload_n dX12_weight_56 rfl ?_
          refine V_imul dX12_weight_57 ?_
          refine V_iload_n dX12_weight_58 rfl ?_
          refine V_iadd dX12_weight_59 ?_
          refine V_iald dX12_weight_60 (by decide) (shk (Sh_uI hS) 35 rfl) (vp_l (n := 100) (shl (Sh_uI hS) 35 rfl) (o1 c1 c4 c7 c8)) ?_
          refine V_istore [(0, .ref 33), (1, .int v1), (2, .int v2), (3, .int v3), (4, .int (zI (uI σ 33 49 (0 : Int32)) 35 (Int32.toNatClampNeg (((10 : Int32) * v1) + v2))))] dX12_weight_61 rfl rfl ?_
          refine V_aload_n dX12_weight_63 rfl ?_
          refine V_getf (fk := 2) (Value.ref 35) ko_X12 rfl w_1057 dX12_weight_64 (by decide) (shk (Sh_uI hS) 33 rfl) (congrArg Value.ref (shr (Sh_uI hS) 33 2 35 (by decide))) ?_
          refine V_bipush (10 : Int32) dX12_weight_67 (by decide) ?_
          refine V_iload_n dX12_weight_69 rfl ?_
          refine V_imul dX12_weight_70 ?_
          refine V_iload_n dX12_weight_71 rfl ?_
          refine V_iadd dX12_weight_72 ?_
          refine V_iload_n dX12_weight_73 rfl ?_
          refine V_iast dX12_weight_74 (by decide) (shk (Sh_uI hS) 35 rfl) (vp_l (n := 100) (shl (Sh_uI hS) 35 rfl) (o1 c1 c4 c7 c8)) ?_
          refine V_aload_n dX12_weight_75 rfl ?_
          refine V_getf (fk := 2) (Value.ref 35) ko_X12 rfl w_1057 dX12_weight_76 (by decide) (shk (Sh_uI (Sh_uI hS)) 33 rfl) (congrArg Value.ref (shr (Sh_uI (Sh_uI hS)) 33 2 35 (by decide))) ?_
          refine V_bipush (10 : Int32) dX12_weight_79 (by decide) ?_
          refine V_iload_n dX12_weight_81 rfl ?_
          refine V_imul dX12_weight_82 ?_
          refine V_iload_n dX12_weight_83 rfl ?_
          refine V_iadd dX12_weight_84 ?_
          refine V_iload_n dX12_weight_85 rfl ?_
          refine V_iast dX12_weight_86 (by decide) (shk (Sh_uI (Sh_uI hS)) 35 rfl) (vp_l (n := 100) (shl (Sh_uI (Sh_uI hS)) 35 rfl) (o2 c1 c4 c7 c8)) ?_
          refine V_iload dX12_weight_87 rfl ?_
          exact V_iret rfl dX12_weight_89 (k9 c1 c4 c7 c8)

set_option maxRecDepth 100000 in
set_option maxHeartbeats 4000000 in
theorem b_X12_proviso_0 {g : GP} {CX : State → Array Value → Prop} {Q : AH → Option Value → Prop} {X : AH → String → Prop} {v1 : Int32} {v2 : Int32} {v3 : Int32} {v4 : Int32} {σ : AH}
    (hS : Sh σ)
    (k1 : (¬ (isCa v1)) → (v2 = v3) → Q (uI σ 33 49 (1 : Int32)) (some (.int (0 : Int32))))
    (k2 : (¬ (isCa v1)) → (¬ v2 = v3) → (¬ (isWi v4 (-1 : Int32) (1000000 : Int32))) → Q (uI σ 33 49 (1 : Int32)) (some (.int (0 : Int32))))
    (k3 : (¬ (isCa v1)) → (¬ v2 = v3) → (isWi v4 (-1 : Int32) (1000000 : Int32)) → Q (uI σ 33 49 (1 : Int32)) (some (.int (0 : Int32))))
    (k4 : (isCa v1) → (¬ (isPl v2)) → (v2 = v3) → Q (uI σ 33 49 (1 : Int32)) (some (.int (0 : Int32))))
    (k5 : (isCa v1) → (¬ (isPl v2)) → (¬ v2 = v3) → (¬ (isWi v4 (-1 : Int32) (1000000 : Int32))) → Q (uI σ 33 49 (1 : Int32)) (some (.int (0 : Int32))))
    (k6 : (isCa v1) → (¬ (isPl v2)) → (¬ v2 = v3) → (isWi v4 (-1 : Int32) (1000000 : Int32)) → Q (uI σ 33 49 (1 : Int32)) (some (.int (0 : Int32))))
    (k7 : (isCa v1) → (isPl v2) → (¬ (isPl v3)) → (v2 = v3) → Q (uI σ 33 49 (1 : Int32)) (some (.int (0 : Int32))))
    (k8 : (isCa v1) → (isPl v2) → (¬ (isPl v3)) → (¬ v2 = v3) → (¬ (isWi v4 (-1 : Int32) (1000000 : Int32))) → Q (uI σ 33 49 (1 : Int32)) (some (.int (0 : Int32))))
    (k9 : (isCa v1) → (isPl v2) → (¬ (isPl v3)) → (¬ v2 = v3) → (isWi v4 (-1 : Int32) (1000000 : Int32)) → Q (uI σ 33 49 (1 : Int32)) (some (.int (0 : Int32))))
    (k10 : (isCa v1) → (isPl v2) → (isPl v3) → (v2 = v3) → Q (uI σ 33 49 (2 : Int32)) (some (.int (0 : Int32))))
    (k11 : (isCa v1) → (isPl v2) → (isPl v3) → (¬ v2 = v3) → (¬ (isWi v4 (-1 : Int32) (1000000 : Int32))) → Q (uI σ 33 49 (2 : Int32)) (some (.int (0 : Int32))))
    (o1 : (isCa v1) → (isPl v2) → (isPl v3) → (¬ v2 = v3) → (isWi v4 (-1 : Int32) (1000000 : Int32)) → vp_in ((((100 : Int32) * v1) + ((10 : Int32) * v2)) + v3) 500)
    (k12 : (isCa v1) → (isPl v2) → (isPl v3) → (¬ v2 = v3) → (isWi v4 (-1 : Int32) (1000000 : Int32)) → Q (uI (uI σ 33 49 (0 : Int32)) 36 (Int32.toNatClampNeg ((((100 : Int32) * v1) + ((10 : Int32) * v2)) + v3)) (v4 + (1 : Int32))) (some (.int ((zI (uI σ 33 49 (0 : Int32)) 36 (Int32.toNatClampNeg ((((100 : Int32) * v1) + ((10 : Int32) * v2)) + v3))) - (1 : Int32))))) :
    V g mX12_proviso (Em g mX12_proviso Q X) CX 0 0 0 [(0, .ref 33), (1, .int v1), (2, .int v2), (3, .int v3), (4, .int v4)] [] σ := by
  refine V_aload_n dX12_proviso_0 rfl ?_
  refine V_iload_n dX12_proviso_1 rfl ?_
  refine V_callS1 (as := [.int v1]) (k' := 0) (n' := 0) (s_X12_isCarrier) mw_X12_isCarrier w_1251 w_1250 ar_X12_isCarrier rfl ⟨rfl, rfl, rfl, rfl, rfl⟩ dX12_proviso_2 ?_
  refine V_if_eq 26 dX12_proviso_5 rfl (fun c1 => ?_) (fun c1 => ?_)
  · replace c1 := jb_0.mp c1
    refine V_iconst (0 : Int32) dX12_proviso_26 (by decide) ?_
    refine V_iload_n dX12_proviso_27 rfl ?_
    refine V_iload_n dX12_proviso_28 rfl ?_
    refine V_icmp_eq 47 dX12_proviso_29 rfl (fun c2 => ?_) (fun c2 => ?_)
    · refine V_iconst (0 : Int32) dX12_proviso_47 (by decide) ?_
      refine V_iconst (1 : Int32) dX12_proviso_48 (by decide) ?_
      refine V_callV1 (as := [.int (0 : Int32), .int (0 : Int32), .int (1 : Int32)]) (k' := 0) (n' := 0) (s_goes1 hS) mw_X12_goes ko_X12 rfl w_1223 w_20 w_1221 ar_X12_goes rfl ⟨rfl, rfl, rfl, rfl, rfl⟩ dX12_proviso_49 (by decide) (shk hS 33 rfl) ?_
      refine V_if_ne 57 dX12_proviso_52 rfl (fun z_ => (by first | exact absurd (by decide) z_ | exact absurd z_ (by decide))) (fun _ => ?_)
      refine V_iconst (0 : Int32) dX12_proviso_55 (by decide) ?_
      exact V_iret rfl dX12_proviso_56 (k1 c1 c2)
    · refine V_iload dX12_proviso_32 rfl ?_
      refine V_iconst (-1 : Int32) dX12_proviso_34 (by decide) ?_
      refine V_ldc (v := (1000000 : Int32)) w_1229 dX12_proviso_35 ?_
      refine V_callS1 (as := [.int v4, .int (-1 : Int32), .int (1000000 : Int32)]) (k' := 0) (n' := 0) (s_X12_in) mw_X12_in w_1219 w_1218 ar_X12_in rfl ⟨rfl, rfl, rfl, rfl, rfl⟩ dX12_proviso_37 ?_
      refine V_if_eq 47 dX12_proviso_40 rfl (fun c3 => ?_) (fun c3 => ?_)
      · replace c3 := jb_0.mp c3
        refine V_iconst (0 : Int32) dX12_proviso_47 (by decide) ?_
        refine V_iconst (1 : Int32) dX12_proviso_48 (by decide) ?_
        refine V_callV1 (as := [.int (0 : Int32), .int (0 : Int32), .int (1 : Int32)]) (k' := 0) (n' := 0) (s_goes1 hS) mw_X12_goes ko_X12 rfl w_1223 w_20 w_1221 ar_X12_goes rfl ⟨rfl, rfl, rfl, rfl, rfl⟩ dX12_proviso_49 (by decide) (shk hS 33 rfl) ?_
        refine V_if_ne 57 dX12_proviso_52 rfl (fun z_ => (by first | exact absurd (by decide) z_ | exact absurd z_ (by decide))) (fun _ => ?_)
        refine V_iconst (0 : Int32) dX12_proviso_55 (by decide) ?_
        exact V_iret rfl dX12_proviso_56 (k2 c1 c2 c3)
      · replace c3 := jb_n.mp c3
        refine V_iconst (1 : Int32) dX12_proviso_43 (by decide) ?_
        refine V_goto 48 dX12_proviso_44 rfl ?_
        refine V_iconst (1 : Int32) dX12_proviso_48 (by decide) ?_
        refine V_callV1 (as := [.int (0 : Int32), .int (1 : Int32), .int (1 : Int32)]) (k' := 0) (n' := 0) (s_goes1 hS) mw_X12_goes ko_X12 rfl w_1223 w_20 w_1221 ar_X12_goes rfl ⟨rfl, rfl, rfl, rfl, rfl⟩ dX12_proviso_49 (by decide) (shk hS 33 rfl) ?_
        refine V_if_ne 57 dX12_proviso_52 rfl (fun z_ => (by first | exact absurd (by decide) z_ | exact absurd z_ (by decide))) (fun _ => ?_)
        refine V_iconst (0 : Int32) dX12_proviso_55 (by decide) ?_
        exact V_iret rfl dX12_proviso_56 (k3 c1 c2 c3)
  · replace c1 := jb_n.mp c1
    refine V_iload_n dX12_proviso_8 rfl ?_
    refine V_callS1 (as := [.int v2]) (k' := 0) (n' := 0) (s_X12_isPlace) mw_X12_isPlace w_1216 w_1215 ar_X12_isPlace rfl ⟨rfl, rfl, rfl, rfl, rfl⟩ dX12_proviso_9 ?_
    refine V_if_eq 26 dX12_proviso_12 rfl (fun c4 => ?_) (fun c4 => ?_)
    · replace c4 := jb_0.mp c4
      refine V_iconst (0 : Int32) dX12_proviso_26 (by decide) ?_
      refine V_iload_n dX12_proviso_27 rfl ?_
      refine V_iload_n dX12_proviso_28 rfl ?_
      refine V_icmp_eq 47 dX12_proviso_29 rfl (fun c5 => ?_) (fun c5 => ?_)
      · refine V_iconst (0 : Int32) dX12_proviso_47 (by decide) ?_
        refine V_iconst (1 : Int32) dX12_proviso_48 (by decide) ?_
        refine V_callV1 (as := [.int (0 : Int32), .int (0 : Int32), .int (1 : Int32)]) (k' := 0) (n' := 0) (s_goes1 hS) mw_X12_goes ko_X12 rfl w_1223 w_20 w_1221 ar_X12_goes rfl ⟨rfl, rfl, rfl, rfl, rfl⟩ dX12_proviso_49 (by decide) (shk hS 33 rfl) ?_
        refine V_if_ne 57 dX12_proviso_52 rfl (fun z_ => (by first | exact absurd (by decide) z_ | exact absurd z_ (by decide))) (fun _ => ?_)
        refine V_iconst (0 : Int32) dX12_proviso_55 (by decide) ?_
        exact V_iret rfl dX12_proviso_56 (k4 c1 c4 c5)
      · refine V_iload dX12_proviso_32 rfl ?_
        refine V_iconst (-1 : Int32) dX12_proviso_34 (by decide) ?_
        refine V_ldc (v := (1000000 : Int32)) w_1229 dX12_proviso_35 ?_
        refine V_callS1 (as := [.int v4, .int (-1 : Int32), .int (1000000 : Int32)]) (k' := 0) (n' := 0) (s_X12_in) mw_X12_in w_1219 w_1218 ar_X12_in rfl ⟨rfl, rfl, rfl, rfl, rfl⟩ dX12_proviso_37 ?_
        refine V_if_eq 47 dX12_proviso_40 rfl (fun c6 => ?_) (fun c6 => ?_)
        · replace c6 := jb_0.mp c6
          refine V_iconst (0 : Int32) dX12_proviso_47 (by decide) ?_
          refine V_iconst (1 : Int32) dX12_proviso_48 (by decide) ?_
          refine V_callV1 (as := [.int (0 : Int32), .int (0 : Int32), .int (1 : Int32)]) (k' := 0) (n' := 0) (s_goes1 hS) mw_X12_goes ko_X12 rfl w_1223 w_20 w_1221 ar_X12_goes rfl ⟨rfl, rfl, rfl, rfl, rfl⟩ dX12_proviso_49 (by decide) (shk hS 33 rfl) ?_
          refine V_if_ne 57 dX12_proviso_52 rfl (fun z_ => (by first | exact absurd (by decide) z_ | exact absurd z_ (by decide))) (fun _ => ?_)
          refine V_iconst (0 : Int32) dX12_proviso_55 (by decide) ?_
          exact V_iret rfl dX12_proviso_56 (k5 c1 c4 c5 c6)
        · replace c6 := jb_n.mp c6
          refine V_iconst (1 : Int32) dX12_proviso_43 (by decide) ?_
          refine V_goto 48 dX12_proviso_44 rfl ?_
          refine V_iconst (1 : Int32) dX12_proviso_48 (by decide) ?_
          refine V_callV1 (as := [.int (0 : Int32), .int (1 : Int32), .int (1 : Int32)]) (k' := 0) (n' := 0) (s_goes1 hS) mw_X12_goes ko_X12 rfl w_1223 w_20 w_1221 ar_X12_goes rfl ⟨rfl, rfl, rfl, rfl, rfl⟩ dX12_proviso_49 (by decide) (shk hS 33 rfl) ?_
          refine V_if_ne 57 dX12_proviso_52 rfl (fun z_ => (by first | exact absurd (by decide) z_ | exact absurd z_ (by decide))) (fun _ => ?_)
          refine V_iconst (0 : Int32) dX12_proviso_55 (by decide) ?_
          exact V_iret rfl dX12_proviso_56 (k6 c1 c4 c5 c6)
    · replace c4 := jb_n.mp c4
      refine V_iload_n dX12_proviso_15 rfl ?_
      refine V_callS1 (as := [.int v3]) (k' := 0) (n' := 0) (s_X12_isPlace) mw_X12_isPlace w_1216 w_1215 ar_X12_isPlace rfl ⟨rfl, rfl, rfl, rfl, rfl⟩ dX12_proviso_16 ?_
      refine V_if_eq 26 dX12_proviso_19 rfl (fun c7 => ?_) (fun c7 => ?_)
      · replace c7 := jb_0.mp c7
        refine V_iconst (0 : Int32) dX12_proviso_26 (by decide) ?_
        refine V_iload_n dX12_proviso_27 rfl ?_
        refine V_iload_n dX12_proviso_28 rfl ?_
        refine V_icmp_eq 47 dX12_proviso_29 rfl (fun c8 => ?_) (fun c8 => ?_)
        · refine V_iconst (0 : Int32) dX12_proviso_47 (by decide) ?_
          refine V_iconst (1 : Int32) dX12_proviso_48 (by decide) ?_
          refine V_callV1 (as := [.int (0 : Int32), .int (0 : Int32), .int (1 : Int32)]) (k' := 0) (n' := 0) (s_goes1 hS) mw_X12_goes ko_X12 rfl w_1223 w_20 w_1221 ar_X12_goes rfl ⟨rfl, rfl, rfl, rfl, rfl⟩ dX12_proviso_49 (by decide) (shk hS 33 rfl) ?_
          refine V_if_ne 57 dX12_proviso_52 rfl (fun z_ => (by first | exact absurd (by decide) z_ | exact absurd z_ (by decide))) (fun _ => ?_)
          refine V_iconst (0 : Int32) dX12_proviso_55 (by decide) ?_
          exact V_iret rfl dX12_proviso_56 (k7 c1 c4 c7 c8)
        · refine V_iload dX12_proviso_32 rfl ?_
          refine V_iconst (-1 : Int32) dX12_proviso_34 (by decide) ?_
          refine V_ldc (v := (1000000 : Int32)) w_1229 dX12_proviso_35 ?_
          refine V_callS1 (as := [.int v4, .int (-1 : Int32), .int (1000000 : Int32)]) (k' := 0) (n' := 0) (s_X12_in) mw_X12_in w_1219 w_1218 ar_X12_in rfl ⟨rfl, rfl, rfl, rfl, rfl⟩ dX12_proviso_37 ?_
          refine V_if_eq 47 dX12_proviso_40 rfl (fun c9 => ?_) (fun c9 => ?_)
          · replace c9 := jb_0.mp c9
            refine V_iconst (0 : Int32) dX12_proviso_47 (by decide) ?_
            refine V_iconst (1 : Int32) dX12_proviso_48 (by decide) ?_
            refine V_callV1 (as := [.int (0 : Int32), .int (0 : Int32), .int (1 : Int32)]) (k' := 0) (n' := 0) (s_goes1 hS) mw_X12_goes ko_X12 rfl w_1223 w_20 w_1221 ar_X12_goes rfl ⟨rfl, rfl, rfl, rfl, rfl⟩ dX12_proviso_49 (by decide) (shk hS 33 rfl) ?_
            refine V_if_ne 57 dX12_proviso_52 rfl (fun z_ => (by first | exact absurd (by decide) z_ | exact absurd z_ (by decide))) (fun _ => ?_)
            refine V_iconst (0 : Int32) dX12_proviso_55 (by decide) ?_
            exact V_iret rfl dX12_proviso_56 (k8 c1 c4 c7 c8 c9)
          · replace c9 := jb_n.mp c9
            refine V_iconst (1 : Int32) dX12_proviso_43 (by decide) ?_
            refine V_goto 48 dX12_proviso_44 rfl ?_
            refine V_iconst (1 : Int32) dX12_proviso_48 (by decide) ?_
            refine V_callV1 (as := [.int (0 : Int32), .int (1 : Int32), .int (1 : Int32)]) (k' := 0) (n' := 0) (s_goes1 hS) mw_X12_goes ko_X12 rfl w_1223 w_20 w_1221 ar_X12_goes rfl ⟨rfl, rfl, rfl, rfl, rfl⟩ dX12_proviso_49 (by decide) (shk hS 33 rfl) ?_
            refine V_if_ne 57 dX12_proviso_52 rfl (fun z_ => (by first | exact absurd (by decide) z_ | exact absurd z_ (by decide))) (fun _ => ?_)
            refine V_iconst (0 : Int32) dX12_proviso_55 (by decide) ?_
            exact V_iret rfl dX12_proviso_56 (k9 c1 c4 c7 c8 c9)
      · replace c7 := jb_n.mp c7
        refine V_iconst (1 : Int32) dX12_proviso_22 (by decide) ?_
        refine V_goto 27 dX12_proviso_23 rfl ?_
        refine V_iload_n dX12_proviso_27 rfl ?_
        refine V_iload_n dX12_proviso_28 rfl ?_
        refine V_icmp_eq 47 dX12_proviso_29 rfl (fun c10 => ?_) (fun c10 => ?_)
        · refine V_iconst (0 : Int32) dX12_proviso_47 (by decide) ?_
          refine V_iconst (1 : Int32) dX12_proviso_48 (by decide) ?_
          refine V_callV1 (as := [.int (1 : Int32), .int (0 : Int32), .int (1 : Int32)]) (k' := 0) (n' := 0) (s_goes2 hS) mw_X12_goes ko_X12 rfl w_1223 w_20 w_1221 ar_X12_goes rfl ⟨rfl, rfl, rfl, rfl, rfl⟩ dX12_proviso_49 (by decide) (shk hS 33 rfl) ?_
          refine V_if_ne 57 dX12_proviso_52 rfl (fun z_ => (by first | exact absurd (by decide) z_ | exact absurd z_ (by decide))) (fun _ => ?_)
          refine V_iconst (0 : Int32) dX12_proviso_55 (by decide) ?_
          exact V_iret rfl dX12_proviso_56 (k10 c1 c4 c7 c10)
        · refine V_iload dX12_proviso_32 rfl ?_
          refine V_iconst (-1 : Int32) dX12_proviso_34 (by decide) ?_
          refine V_ldc (v := (1000000 : Int32)) w_1229 dX12_proviso_35 ?_
          refine V_callS1 (as := [.int v4, .int (-1 : Int32), .int (1000000 : Int32)]) (k' := 0) (n' := 0) (s_X12_in) mw_X12_in w_1219 w_1218 ar_X12_in rfl ⟨rfl, rfl, rfl, rfl, rfl⟩ dX12_proviso_37 ?_
          refine V_if_eq 47 dX12_proviso_40 rfl (fun c11 => ?_) (fun c11 => ?_)
          · replace c11 := jb_0.mp c11
            refine V_iconst (0 : Int32) dX12_proviso_47 (by decide) ?_
            refine V_iconst (1 : Int32) dX12_proviso_48 (by decide) ?_
            refine V_callV1 (as := [.int (1 : Int32), .int (0 : Int32), .int (1 : Int32)]) (k' := 0) (n' := 0) (s_goes2 hS) mw_X12_goes ko_X12 rfl w_1223 w_20 w_1221 ar_X12_goes rfl ⟨rfl, rfl, rfl, rfl, rfl⟩ dX12_proviso_49 (by decide) (shk hS 33 rfl) ?_
            refine V_if_ne 57 dX12_proviso_52 rfl (fun z_ => (by first | exact absurd (by decide) z_ | exact absurd z_ (by decide))) (fun _ => ?_)
            refine V_iconst (0 : Int32) dX12_proviso_55 (by decide) ?_
            exact V_iret rfl dX12_proviso_56 (k11 c1 c4 c7 c10 c11)
          · replace c11 := jb_n.mp c11
            refine V_iconst (1 : Int32) dX12_proviso_43 (by decide) ?_
            refine V_goto 48 dX12_proviso_44 rfl ?_
            refine V_iconst (1 : Int32) dX12_proviso_48 (by decide) ?_
            refine V_callV1 (as := [.int (1 : Int32), .int (1 : Int32), .int (1 : Int32)]) (k' := 0) (n' := 0) (s_goes0 hS) mw_X12_goes ko_X12 rfl w_1223 w_20 w_1221 ar_X12_goes rfl ⟨rfl, rfl, rfl, rfl, rfl⟩ dX12_proviso_49 (by decide) (shk hS 33 rfl) ?_
            refine V_if_ne 57 dX12_proviso_52 rfl (fun _ => ?_) (fun z_ => (by first | exact absurd (by decide) z_ | exact absurd z_ (by decide)))
            refine V_bipush (100 : Int32) dX12_proviso_57 (by decide) ?_
            refine V_iload_n dX12_proviso_59 rfl ?_
            refine V_imul dX12_proviso_60 ?_
            refine V_bipush (10 : Int32) dX12_proviso_61 (by decide) ?_
            refine V_iload_n dX12_proviso_63 rfl ?_
            refine V_imul dX12_proviso_64 ?_
            refine V_iadd dX12_proviso_65 ?_
            refine V_iload_n dX12_proviso_66 rfl ?_
            refine V_iadd dX12_proviso_67 ?_
            refine V_istore [(0, .ref 33), (1, .int v1), (2, .int v2), (3, .int v3), (4, .int v4), (5, .int ((((100 : Int32) * v1) + ((10 : Int32) * v2)) + v3))] dX12_proviso_68 rfl rfl ?_
            refine V_aload_n dX12_proviso_70 rfl ?_
            refine V_getf (fk := 3) (Value.ref 36) ko_X12 rfl w_1058 dX12_proviso_71 (by decide) (shk (Sh_uI hS) 33 rfl) (congrArg Value.ref (shr (Sh_uI hS) 33 3 36 (by decide))) ?_
            refine V_iload dX12_proviso_74 rfl ?_
            refine V_iald dX12_proviso_76 (by decide) (shk (Sh_uI hS) 36 rfl) (vp_l (n := 500) (shl (Sh_uI hS) 36 rfl) (o1 c1 c4 c7 c10 c11)) ?_
            refine V_iconst (1 : Int32) dX12_proviso_77 (by decide) ?_
            refine V_isub dX12_proviso_78 ?_
            refine V_istore [(0, .ref 33), (1, .int v1), (2, .int v2), (3, .int v3), (4, .int v4), (5, .int ((((100 : Int32) * v1) + ((10 : Int32) * v2)) + v3)), (6, .int ((zI (uI σ 33 49 (0 : Int32)) 36 (Int32.toNatClampNeg ((((100 : Int32) * v1) + ((10 : Int32) * v2)) + v3))) - (1 : Int32)))] dX12_proviso_79 rfl rfl ?_
            refine V_aload_n dX12_proviso_81 rfl ?_
            refine V_getf (fk := 3) (Value.ref 36) ko_X12 rfl w_1058 dX12_proviso_82 (by decide) (shk (Sh_uI hS) 33 rfl) (congrArg Value.ref (shr (Sh_uI hS) 33 3 36 (by decide))) ?_
            refine V_iload dX12_proviso_85 rfl ?_
            refine V_iload dX12_proviso_87 rfl ?_
            refine V_iconst (1 : Int32) dX12_proviso_89 (by decide) ?_
            refine V_iadd dX12_proviso_90 ?_
            refine V_iast dX12_proviso_91 (by decide) (shk (Sh_uI hS) 36 rfl) (vp_l (n := 500) (shl (Sh_uI hS) 36 rfl) (o1 c1 c4 c7 c10 c11)) ?_
            refine V_iload dX12_proviso_92 rfl ?_
            exact V_iret rfl dX12_proviso_94 (k12 c1 c4 c7 c10 c11)

set_option maxRecDepth 100000 in
set_option maxHeartbeats 4000000 in
theorem b_X12_penalty_0 {g : GP} {CX : State → Array Value → Prop} {Q : AH → Option Value → Prop} {X : AH → String → Prop} {v1 : Int32} {σ : AH}
    (hS : Sh σ)
    (k1 : (isWi v1 (0 : Int32) (100 : Int32)) → Q (uI (uI σ 33 49 (0 : Int32)) 33 15 v1) (some (.int (zI σ 33 15))))
    (k2 : (¬ (isWi v1 (0 : Int32) (100 : Int32))) → Q (uI σ 33 49 (1 : Int32)) (some (.int (0 : Int32)))) :
    V g mX12_penalty (Em g mX12_penalty Q X) CX 0 0 0 [(0, .ref 33), (1, .int v1)] [] σ := by
  refine V_aload_n dX12_penalty_0 rfl ?_
  refine V_iload_n dX12_penalty_1 rfl ?_
  refine V_iconst (0 : Int32) dX12_penalty_2 (by decide) ?_
  refine V_bipush (100 : Int32) dX12_penalty_3 (by decide) ?_
  refine V_callS1 (as := [.int v1, .int (0 : Int32), .int (100 : Int32)]) (k' := 0) (n' := 0) (s_X12_in) mw_X12_in w_1219 w_1218 ar_X12_in rfl ⟨rfl, rfl, rfl, rfl, rfl⟩ dX12_penalty_5 ?_
  refine V_iconst (1 : Int32) dX12_penalty_8 (by decide) ?_
  refine V_iconst (1 : Int32) dX12_penalty_9 (by decide) ?_
  by_cases c1 : isWi v1 (0 : Int32) (100 : Int32)
  · refine V_cast (st' := [.int (1 : Int32), .int (1 : Int32), .int (1 : Int32), .ref 33]) rfl (by rw [jb_t c1]) rfl ?_
    refine V_callV1 (as := [.int (1 : Int32), .int (1 : Int32), .int (1 : Int32)]) (k' := 0) (n' := 0) (s_goes0 hS) mw_X12_goes ko_X12 rfl w_1223 w_20 w_1221 ar_X12_goes rfl ⟨rfl, rfl, rfl, rfl, rfl⟩ dX12_penalty_10 (by decide) (shk hS 33 rfl) ?_
    refine V_if_ne 18 dX12_penalty_13 rfl (fun _ => ?_) (fun z_ => (by first | exact absurd (by decide) z_ | exact absurd z_ (by decide)))
    refine V_aload_n dX12_penalty_18 rfl ?_
    refine V_getf (fk := 15) (Value.int (zI σ 33 15)) ko_X12 rfl w_1070 dX12_penalty_19 (by decide) (shk (Sh_uI hS) 33 rfl) (congrArg Value.int (zI_oth _ _ _ _ _ _ (by decide))) ?_
    refine V_istore_n [(0, .ref 33), (1, .int v1), (2, .int (zI σ 33 15))] dX12_penalty_22 rfl rfl ?_
    refine V_aload_n dX12_penalty_23 rfl ?_
    refine V_iload_n dX12_penalty_24 rfl ?_
    refine V_puti (fk := 15) ko_X12 rfl w_1070 (Or.inl rfl) dX12_penalty_25 rfl (by decide) (shk (Sh_uI hS) 33 rfl) ?_
    refine V_iload_n dX12_penalty_28 rfl ?_
    exact V_iret rfl dX12_penalty_29 (k1 c1)
  · refine V_cast (st' := [.int (1 : Int32), .int (1 : Int32), .int (0 : Int32), .ref 33]) rfl (by rw [jb_f c1]) rfl ?_
    refine V_callV1 (as := [.int (0 : Int32), .int (1 : Int32), .int (1 : Int32)]) (k' := 0) (n' := 0) (s_goes1 hS) mw_X12_goes ko_X12 rfl w_1223 w_20 w_1221 ar_X12_goes rfl ⟨rfl, rfl, rfl, rfl, rfl⟩ dX12_penalty_10 (by decide) (shk hS 33 rfl) ?_
    refine V_if_ne 18 dX12_penalty_13 rfl (fun z_ => (by first | exact absurd (by decide) z_ | exact absurd z_ (by decide))) (fun _ => ?_)
    refine V_iconst (0 : Int32) dX12_penalty_16 (by decide) ?_
    exact V_iret rfl dX12_penalty_17 (k2 c1)

set_option maxRecDepth 100000 in
set_option maxHeartbeats 4000000 in
theorem b_X12_wipe_0 {g : GP} {CX : State → Array Value → Prop} {Q : AH → Option Value → Prop} {X : AH → String → Prop}  {σ : AH}
    (hS : Sh σ)
    (k1 : Q (uI (uI σ 33 49 (0 : Int32)) 33 16 (0 : Int32)) (some (.int (zI σ 33 16)))) :
    V g mX12_wipe (Em g mX12_wipe Q X) CX 0 0 0 [(0, .ref 33)] [] σ := by
  refine V_aload_n dX12_wipe_0 rfl ?_
  refine V_iconst (0 : Int32) dX12_wipe_1 (by decide) ?_
  refine V_puti (fk := 49) ko_X12 rfl w_1104 (Or.inl rfl) dX12_wipe_2 rfl (by decide) (shk hS 33 rfl) ?_
  refine V_aload_n dX12_wipe_5 rfl ?_
  refine V_getf (fk := 16) (Value.int (zI σ 33 16)) ko_X12 rfl w_1071 dX12_wipe_6 (by decide) (shk (Sh_uI hS) 33 rfl) (congrArg Value.int (zI_oth _ _ _ _ _ _ (by decide))) ?_
  refine V_istore_n [(0, .ref 33), (1, .int (zI σ 33 16))] dX12_wipe_9 rfl rfl ?_
  refine V_aload_n dX12_wipe_10 rfl ?_
  refine V_iconst (0 : Int32) dX12_wipe_11 (by decide) ?_
  refine V_puti (fk := 16) ko_X12 rfl w_1071 (Or.inl rfl) dX12_wipe_12 rfl (by decide) (shk (Sh_uI hS) 33 rfl) ?_
  refine V_iload_n dX12_wipe_15 rfl ?_
  exact V_iret rfl dX12_wipe_16 k1

set_option maxRecDepth 100000 in
set_option maxHeartbeats 4000000 in
theorem b_X12_weightOf_0 {g : GP} {CX : State → Array Value → Prop} {Q : AH → Option Value → Prop} {X : AH → String → Prop} {v1 : Int32} {σ : AH}
    (hS : Sh σ)
    (o1 : vp_in v1 8)
    (o2 : vp_in (((10 : Int32) * (zI σ 46 (Int32.toNatClampNeg v1))) + (zI σ 47 (Int32.toNatClampNeg v1))) 100)
    (o3 : ((zI σ 35 (Int32.toNatClampNeg (((10 : Int32) * (zI σ 46 (Int32.toNatClampNeg v1))) + (zI σ 47 (Int32.toNatClampNeg v1))))) ≤ 0) → PO σ)
    (k1 : ((zI σ 35 (Int32.toNatClampNeg (((10 : Int32) * (zI σ 46 (Int32.toNatClampNeg v1))) + (zI σ 47 (Int32.toNatClampNeg v1))))) ≤ 0) → Q σ (some (.int (mi σ (zI σ 46 (Int32.toNatClampNeg v1)) (zI σ 47 (Int32.toNatClampNeg v1))))))
    (k2 : (¬ (zI σ 35 (Int32.toNatClampNeg (((10 : Int32) * (zI σ 46 (Int32.toNatClampNeg v1))) + (zI σ 47 (Int32.toNatClampNeg v1))))) ≤ 0) → Q σ (some (.int (zI σ 35 (Int32.toNatClampNeg (((10 : Int32) * (zI σ 46 (Int32.toNatClampNeg v1))) + (zI σ 47 (Int32.toNatClampNeg v1)))))))) :
    V g mX12_weightOf (Em g mX12_weightOf Q X) CX 0 0 0 [(0, .ref 33), (1, .int v1)] [] σ := by
  refine V_aload_n dX12_weightOf_0 rfl ?_
  refine V_getf (fk := 2) (Value.ref 35) ko_X12 rfl w_1057 dX12_weightOf_1 (by decide) (shk hS 33 rfl) (congrArg Value.ref (shr hS 33 2 35 (by decide))) ?_
  refine V_bipush (10 : Int32) dX12_weightOf_4 (by decide) ?_
  refine V_aload_n dX12_weightOf_6 rfl ?_
  refine V_getf (fk := 17) (Value.ref 46) ko_X12 rfl w_1072 dX12_weightOf_7 (by decide) (shk hS 33 rfl) (congrArg Value.ref (shr hS 33 17 46 (by decide))) ?_
  refine V_iload_n dX12_weightOf_10 rfl ?_
  refine V_iald dX12_weightOf_11 (by decide) (shk hS 46 rfl) (vp_l (n := 8) (shl hS 46 rfl) o1) ?_
  refine V_imul dX12_weightOf_12 ?_
  refine V_aload_n dX12_weightOf_13 rfl ?_
  refine V_getf (fk := 18) (Value.ref 47) ko_X12 rfl w_1073 dX12_weightOf_14 (by decide) (shk hS 33 rfl) (congrArg Value.ref (shr hS 33 18 47 (by decide))) ?_
  refine V_iload_n dX12_weightOf_17 rfl ?_
  refine V_iald dX12_weightOf_18 (by decide) (shk hS 47 rfl) (vp_l (n := 8) (shl hS 47 rfl) o1) ?_
  refine V_iadd dX12_weightOf_19 ?_
  refine V_iald dX12_weightOf_20 (by decide) (shk hS 35 rfl) (vp_l (n := 100) (shl hS 35 rfl) o2) ?_
  refine V_istore_n [(0, .ref 33), (1, .int v1), (2, .int (zI σ 35 (Int32.toNatClampNeg (((10 : Int32) * (zI σ 46 (Int32.toNatClampNeg v1))) + (zI σ 47 (Int32.toNatClampNeg v1))))))] dX12_weightOf_21 rfl rfl ?_
  refine V_iload_n dX12_weightOf_22 rfl ?_
  refine V_if_le 30 dX12_weightOf_23 rfl (fun c1 => ?_) (fun c1 => ?_)
  · refine V_aload_n dX12_weightOf_30 rfl ?_
    refine V_iload_n dX12_weightOf_31 rfl ?_
    refine V_callV1 (as := [.int v1]) (k' := 0) (n' := 0) (s_X12_milesOf hS (o3 c1) o1) mw_X12_milesOf ko_X12 rfl w_1291 w_26 w_1289 ar_X12_milesOf rfl ⟨rfl, rfl, rfl, rfl, rfl⟩ dX12_weightOf_32 (by decide) (shk hS 33 rfl) ?_
    exact V_iret rfl dX12_weightOf_35 (k1 c1)
  · refine V_iload_n dX12_weightOf_26 rfl ?_
    refine V_goto 35 dX12_weightOf_27 rfl ?_
    exact V_iret rfl dX12_weightOf_35 (k2 c1)

set_option maxRecDepth 100000 in
set_option maxHeartbeats 4000000 in
theorem b_X12_provisoOf_0 {g : GP} {CX : State → Array Value → Prop} {Q : AH → Option Value → Prop} {X : AH → String → Prop} {v1 : Int32} {σ : AH}
    (hS : Sh σ)
    (o1 : vp_in v1 8)
    (o2 : vp_in ((((100 : Int32) * (zI σ 48 (Int32.toNatClampNeg v1))) + ((10 : Int32) * (zI σ 46 (Int32.toNatClampNeg v1)))) + (zI σ 47 (Int32.toNatClampNeg v1))) 500)
    (k1 : Q σ (some (.int ((zI σ 36 (Int32.toNatClampNeg ((((100 : Int32) * (zI σ 48 (Int32.toNatClampNeg v1))) + ((10 : Int32) * (zI σ 46 (Int32.toNatClampNeg v1)))) + (zI σ 47 (Int32.toNatClampNeg v1))))) - (1 : Int32))))) :
    V g mX12_provisoOf (Em g mX12_provisoOf Q X) CX 0 0 0 [(0, .ref 33), (1, .int v1)] [] σ := by
  refine V_aload_n dX12_provisoOf_0 rfl ?_
  refine V_getf (fk := 3) (Value.ref 36) ko_X12 rfl w_1058 dX12_provisoOf_1 (by decide) (shk hS 33 rfl) (congrArg Value.ref (shr hS 33 3 36 (by decide))) ?_
  refine V_bipush (100 : Int32) dX12_provisoOf_4 (by decide) ?_
  refine V_aload_n dX12_provisoOf_6 rfl ?_
  refine V_getf (fk := 19) (Value.ref 48) ko_X12 rfl w_1074 dX12_provisoOf_7 (by decide) (shk hS 33 rfl) (congrArg Value.ref (shr hS 33 19 48 (by decide))) ?_
  refine V_iload_n dX12_provisoOf_10 rfl ?_
  refine V_iald dX12_provisoOf_11 (by decide) (shk hS 48 rfl) (vp_l (n := 8) (shl hS 48 rfl) o1) ?_
  refine V_imul dX12_provisoOf_12 ?_
  refine V_bipush (10 : Int32) dX12_provisoOf_13 (by decide) ?_
  refine V_aload_n dX12_provisoOf_15 rfl ?_
  refine V_getf (fk := 17) (Value.ref 46) ko_X12 rfl w_1072 dX12_provisoOf_16 (by decide) (shk hS 33 rfl) (congrArg Value.ref (shr hS 33 17 46 (by decide))) ?_
  refine V_iload_n dX12_provisoOf_19 rfl ?_
  refine V_iald dX12_provisoOf_20 (by decide) (shk hS 46 rfl) (vp_l (n := 8) (shl hS 46 rfl) o1) ?_
  refine V_imul dX12_provisoOf_21 ?_
  refine V_iadd dX12_provisoOf_22 ?_
  refine V_aload_n dX12_provisoOf_23 rfl ?_
  refine V_getf (fk := 18) (Value.ref 47) ko_X12 rfl w_1073 dX12_provisoOf_24 (by decide) (shk hS 33 rfl) (congrArg Value.ref (shr hS 33 18 47 (by decide))) ?_
  refine V_iload_n dX12_provisoOf_27 rfl ?_
  refine V_iald dX12_provisoOf_28 (by decide) (shk hS 47 rfl) (vp_l (n := 8) (shl hS 47 rfl) o1) ?_
  refine V_iadd dX12_provisoOf_29 ?_
  refine V_iald dX12_provisoOf_30 (by decide) (shk hS 36 rfl) (vp_l (n := 500) (shl hS 36 rfl) o2) ?_
  refine V_iconst (1 : Int32) dX12_provisoOf_31 (by decide) ?_
  refine V_isub dX12_provisoOf_32 ?_
  exact V_iret rfl dX12_provisoOf_33 k1

set_option maxRecDepth 100000 in
set_option maxHeartbeats 4000000 in
theorem b_X12_part_0 {g : GP} {CX : State → Array Value → Prop} {Q : AH → Option Value → Prop} {X : AH → String → Prop} {v1 : Int32} {v2 : Int32} {σ : AH}
    (hS : Sh σ)
    (k1 : ((zI σ 33 16) ≤ 0) → (v2 ≤ v1) → Q (uI σ 33 49 (1 : Int32)) (some (.int (0 : Int32))))
    (k2 : ((zI σ 33 16) ≤ 0) → (¬ v2 ≤ v1) → Q (uI σ 33 49 (1 : Int32)) (some (.int (0 : Int32))))
    (k3 : (¬ (zI σ 33 16) ≤ 0) → (¬ (isWi v1 (0 : Int32) (zI σ 33 16))) → (v2 ≤ v1) → Q (uI σ 33 49 (1 : Int32)) (some (.int (0 : Int32))))
    (k4 : (¬ (zI σ 33 16) ≤ 0) → (¬ (isWi v1 (0 : Int32) (zI σ 33 16))) → (¬ v2 ≤ v1) → Q (uI σ 33 49 (1 : Int32)) (some (.int (0 : Int32))))
    (k5 : (¬ (zI σ 33 16) ≤ 0) → (isWi v1 (0 : Int32) (zI σ 33 16)) → (¬ (isWi v2 (0 : Int32) (zI σ 33 16))) → (v2 ≤ v1) → Q (uI σ 33 49 (1 : Int32)) (some (.int (0 : Int32))))
    (k6 : (¬ (zI σ 33 16) ≤ 0) → (isWi v1 (0 : Int32) (zI σ 33 16)) → (¬ (isWi v2 (0 : Int32) (zI σ 33 16))) → (¬ v2 ≤ v1) → Q (uI σ 33 49 (1 : Int32)) (some (.int (0 : Int32))))
    (k7 : (¬ (zI σ 33 16) ≤ 0) → (isWi v1 (0 : Int32) (zI σ 33 16)) → (isWi v2 (0 : Int32) (zI σ 33 16)) → (v2 ≤ v1) → Q (uI σ 33 49 (2 : Int32)) (some (.int (0 : Int32))))
    (o1 : (¬ (zI σ 33 16) ≤ 0) → (isWi v1 (0 : Int32) (zI σ 33 16)) → (isWi v2 (0 : Int32) (zI σ 33 16)) → (¬ v2 ≤ v1) → PO (uI σ 33 49 (0 : Int32)))
    (o2 : (¬ (zI σ 33 16) ≤ 0) → (isWi v1 (0 : Int32) (zI σ 33 16)) → (isWi v2 (0 : Int32) (zI σ 33 16)) → (¬ v2 ≤ v1) → vp_in v1 9)
    (o3 : (¬ (zI σ 33 16) ≤ 0) → (isWi v1 (0 : Int32) (zI σ 33 16)) → (isWi v2 (0 : Int32) (zI σ 33 16)) → (¬ v2 ≤ v1) → vp_in v2 9)
    (k8 : (¬ (zI σ 33 16) ≤ 0) → (isWi v1 (0 : Int32) (zI σ 33 16)) → (isWi v2 (0 : Int32) (zI σ 33 16)) → (¬ v2 ≤ v1) → Q (uI σ 33 49 (0 : Int32)) (some (.int (partF (uI σ 33 49 (0 : Int32)) (Int32.toNatClampNeg v1) (Int32.toNatClampNeg v2))))) :
    V g mX12_part (Em g mX12_part Q X) CX 0 0 0 [(0, .ref 33), (1, .int v1), (2, .int v2)] [] σ := by
  refine V_aload_n dX12_part_0 rfl ?_
  refine V_getf (fk := 16) (Value.int (zI σ 33 16)) ko_X12 rfl w_1071 dX12_part_1 (by decide) (shk hS 33 rfl) rfl ?_
  refine V_if_le 35 dX12_part_4 rfl (fun c1 => ?_) (fun c1 => ?_)
  · refine V_iconst (0 : Int32) dX12_part_35 (by decide) ?_
    refine V_istore_n [(0, .ref 33), (1, .int v1), (2, .int v2), (3, .int (0 : Int32))] dX12_part_36 rfl rfl ?_
    refine V_aload_n dX12_part_37 rfl ?_
    refine V_iload_n dX12_part_38 rfl ?_
    refine V_iload_n dX12_part_39 rfl ?_
    refine V_iload_n dX12_part_40 rfl ?_
    refine V_icmp_le 48 dX12_part_41 rfl (fun c2 => ?_) (fun c2 => ?_)
    · refine V_iconst (0 : Int32) dX12_part_48 (by decide) ?_
      refine V_iconst (1 : Int32) dX12_part_49 (by decide) ?_
      refine V_callV1 (as := [.int (0 : Int32), .int (0 : Int32), .int (1 : Int32)]) (k' := 0) (n' := 0) (s_goes1 hS) mw_X12_goes ko_X12 rfl w_1223 w_20 w_1221 ar_X12_goes rfl ⟨rfl, rfl, rfl, rfl, rfl⟩ dX12_part_50 (by decide) (shk hS 33 rfl) ?_
      refine V_if_eq 65 dX12_part_53 rfl (fun _ => ?_) (fun z_ => (by first | exact absurd (by decide) z_ | exact absurd z_ (by decide)))
      refine V_iconst (0 : Int32) dX12_part_65 (by decide) ?_
      exact V_iret rfl dX12_part_66 (k1 c1 c2)
    · refine V_iconst (1 : Int32) dX12_part_44 (by decide) ?_
      refine V_goto 49 dX12_part_45 rfl ?_
      refine V_iconst (1 : Int32) dX12_part_49 (by decide) ?_
      refine V_callV1 (as := [.int (0 : Int32), .int (1 : Int32), .int (1 : Int32)]) (k' := 0) (n' := 0) (s_goes1 hS) mw_X12_goes ko_X12 rfl w_1223 w_20 w_1221 ar_X12_goes rfl ⟨rfl, rfl, rfl, rfl, rfl⟩ dX12_part_50 (by decide) (shk hS 33 rfl) ?_
      refine V_if_eq 65 dX12_part_53 rfl (fun _ => ?_) (fun z_ => (by first | exact absurd (by decide) z_ | exact absurd z_ (by decide)))
      refine V_iconst (0 : Int32) dX12_part_65 (by decide) ?_
      exact V_iret rfl dX12_part_66 (k2 c1 c2)
  · refine V_iload_n dX12_part_7 rfl ?_
    refine V_iconst (0 : Int32) dX12_part_8 (by decide) ?_
    refine V_aload_n dX12_part_9 rfl ?_
    refine V_getf (fk := 16) (Value.int (zI σ 33 16)) ko_X12 rfl w_1071 dX12_part_10 (by decide) (shk hS 33 rfl) rfl ?_
    refine V_callS1 (as := [.int v1, .int (0 : Int32), .int (zI σ 33 16)]) (k' := 0) (n' := 0) (s_X12_in) mw_X12_in w_1219 w_1218 ar_X12_in rfl ⟨rfl, rfl, rfl, rfl, rfl⟩ dX12_part_13 ?_
    refine V_if_eq 35 dX12_part_16 rfl (fun c3 => ?_) (fun c3 => ?_)
    · replace c3 := jb_0.mp c3
      refine V_iconst (0 : Int32) dX12_part_35 (by decide) ?_
      refine V_istore_n [(0, .ref 33), (1, .int v1), (2, .int v2), (3, .int (0 : Int32))] dX12_part_36 rfl rfl ?_
      refine V_aload_n dX12_part_37 rfl ?_
      refine V_iload_n dX12_part_38 rfl ?_
      refine V_iload_n dX12_part_39 rfl ?_
      refine V_iload_n dX12_part_40 rfl ?_
      refine V_icmp_le 48 dX12_part_41 rfl (fun c4 => ?_) (fun c4 => ?_)
      · refine V_iconst (0 : Int32) dX12_part_48 (by decide) ?_
        refine V_iconst (1 : Int32) dX12_part_49 (by decide) ?_
        refine V_callV1 (as := [.int (0 : Int32), .int (0 : Int32), .int (1 : Int32)]) (k' := 0) (n' := 0) (s_goes1 hS) mw_X12_goes ko_X12 rfl w_1223 w_20 w_1221 ar_X12_goes rfl ⟨rfl, rfl, rfl, rfl, rfl⟩ dX12_part_50 (by decide) (shk hS 33 rfl) ?_
        refine V_if_eq 65 dX12_part_53 rfl (fun _ => ?_) (fun z_ => (by first | exact absurd (by decide) z_ | exact absurd z_ (by decide)))
        refine V_iconst (0 : Int32) dX12_part_65 (by decide) ?_
        exact V_iret rfl dX12_part_66 (k3 c1 c3 c4)
      · refine V_iconst (1 : Int32) dX12_part_44 (by decide) ?_
        refine V_goto 49 dX12_part_45 rfl ?_
        refine V_iconst (1 : Int32) dX12_part_49 (by decide) ?_
        refine V_callV1 (as := [.int (0 : Int32), .int (1 : Int32), .int (1 : Int32)]) (k' := 0) (n' := 0) (s_goes1 hS) mw_X12_goes ko_X12 rfl w_1223 w_20 w_1221 ar_X12_goes rfl ⟨rfl, rfl, rfl, rfl, rfl⟩ dX12_part_50 (by decide) (shk hS 33 rfl) ?_
        refine V_if_eq 65 dX12_part_53 rfl (fun _ => ?_) (fun z_ => (by first | exact absurd (by decide) z_ | exact absurd z_ (by decide)))
        refine V_iconst (0 : Int32) dX12_part_65 (by decide) ?_
        exact V_iret rfl dX12_part_66 (k4 c1 c3 c4)
    · replace c3 := jb_n.mp c3
      refine V_iload_n dX12_part_19 rfl ?_
      refine V_iconst (0 : Int32) dX12_part_20 (by decide) ?_
      refine V_aload_n dX12_part_21 rfl ?_
      refine V_getf (fk := 16) (Value.int (zI σ 33 16)) ko_X12 rfl w_1071 dX12_part_22 (by decide) (shk hS 33 rfl) rfl ?_
      refine V_callS1 (as := [.int v2, .int (0 : Int32), .int (zI σ 33 16)]) (k' := 0) (n' := 0) (s_X12_in) mw_X12_in w_1219 w_1218 ar_X12_in rfl ⟨rfl, rfl, rfl, rfl, rfl⟩ dX12_part_25 ?_
      refine V_if_eq 35 dX12_part_28 rfl (fun c5 => ?_) (fun c5 => ?_)
      · replace c5 := jb_0.mp c5
        refine V_iconst (0 : Int32) dX12_part_35 (by decide) ?_
        refine V_istore_n [(0, .ref 33), (1, .int v1), (2, .int v2), (3, .int (0 : Int32))] dX12_part_36 rfl rfl ?_
        refine V_aload_n dX12_part_37 rfl ?_
        refine V_iload_n dX12_part_38 rfl ?_
        refine V_iload_n dX12_part_39 rfl ?_
        refine V_iload_n dX12_part_40 rfl ?_
        refine V_icmp_le 48 dX12_part_41 rfl (fun c6 => ?_) (fun c6 => ?_)
        · refine V_iconst (0 : Int32) dX12_part_48 (by decide) ?_
          refine V_iconst (1 : Int32) dX12_part_49 (by decide) ?_
          refine V_callV1 (as := [.int (0 : Int32), .int (0 : Int32), .int (1 : Int32)]) (k' := 0) (n' := 0) (s_goes1 hS) mw_X12_goes ko_X12 rfl w_1223 w_20 w_1221 ar_X12_goes rfl ⟨rfl, rfl, rfl, rfl, rfl⟩ dX12_part_50 (by decide) (shk hS 33 rfl) ?_
          refine V_if_eq 65 dX12_part_53 rfl (fun _ => ?_) (fun z_ => (by first | exact absurd (by decide) z_ | exact absurd z_ (by decide)))
          refine V_iconst (0 : Int32) dX12_part_65 (by decide) ?_
          exact V_iret rfl dX12_part_66 (k5 c1 c3 c5 c6)
        · refine V_iconst (1 : Int32) dX12_part_44 (by decide) ?_
          refine V_goto 49 dX12_part_45 rfl ?_
          refine V_iconst (1 : Int32) dX12_part_49 (by decide) ?_
          refine V_callV1 (as := [.int (0 : Int32), .int (1 : Int32), .int (1 : Int32)]) (k' := 0) (n' := 0) (s_goes1 hS) mw_X12_goes ko_X12 rfl w_1223 w_20 w_1221 ar_X12_goes rfl ⟨rfl, rfl, rfl, rfl, rfl⟩ dX12_part_50 (by decide) (shk hS 33 rfl) ?_
          refine V_if_eq 65 dX12_part_53 rfl (fun _ => ?_) (fun z_ => (by first | exact absurd (by decide) z_ | exact absurd z_ (by decide)))
          refine V_iconst (0 : Int32) dX12_part_65 (by decide) ?_
          exact V_iret rfl dX12_part_66 (k6 c1 c3 c5 c6)
      · replace c5 := jb_n.mp c5
        refine V_iconst (1 : Int32) dX12_part_31 (by decide) ?_
        refine V_goto 36 dX12_part_32 rfl ?_
        refine V_istore_n [(0, .ref 33), (1, .int v1), (2, .int v2), (3, .int (1 : Int32))] dX12_part_36 rfl rfl ?_
        refine V_aload_n dX12_part_37 rfl ?_
        refine V_iload_n dX12_part_38 rfl ?_
        refine V_iload_n dX12_part_39 rfl ?_
        refine V_iload_n dX12_part_40 rfl ?_
        refine V_icmp_le 48 dX12_part_41 rfl (fun c7 => ?_) (fun c7 => ?_)
        · refine V_iconst (0 : Int32) dX12_part_48 (by decide) ?_
          refine V_iconst (1 : Int32) dX12_part_49 (by decide) ?_
          refine V_callV1 (as := [.int (1 : Int32), .int (0 : Int32), .int (1 : Int32)]) (k' := 0) (n' := 0) (s_goes2 hS) mw_X12_goes ko_X12 rfl w_1223 w_20 w_1221 ar_X12_goes rfl ⟨rfl, rfl, rfl, rfl, rfl⟩ dX12_part_50 (by decide) (shk hS 33 rfl) ?_
          refine V_if_eq 65 dX12_part_53 rfl (fun _ => ?_) (fun z_ => (by first | exact absurd (by decide) z_ | exact absurd z_ (by decide)))
          refine V_iconst (0 : Int32) dX12_part_65 (by decide) ?_
          exact V_iret rfl dX12_part_66 (k7 c1 c3 c5 c7)
        · refine V_iconst (1 : Int32) dX12_part_44 (by decide) ?_
          refine V_goto 49 dX12_part_45 rfl ?_
          refine V_iconst (1 : Int32) dX12_part_49 (by decide) ?_
          refine V_callV1 (as := [.int (1 : Int32), .int (1 : Int32), .int (1 : Int32)]) (k' := 0) (n' := 0) (s_goes0 hS) mw_X12_goes ko_X12 rfl w_1223 w_20 w_1221 ar_X12_goes rfl ⟨rfl, rfl, rfl, rfl, rfl⟩ dX12_part_50 (by decide) (shk hS 33 rfl) ?_
          refine V_if_eq 65 dX12_part_53 rfl (fun z_ => (by first | exact absurd (by decide) z_ | exact absurd z_ (by decide))) (fun _ => ?_)
          refine V_aload_n dX12_part_56 rfl ?_
          refine V_iload_n dX12_part_57 rfl ?_
          refine V_iload_n dX12_part_58 rfl ?_
          refine V_callV1 (as := [.int v1, .int v2]) (k' := 0) (n' := 0) (s_X12_partOf (Sh_uI hS) (o1 c1 c3 c5 c7) (o2 c1 c3 c5 c7) (o3 c1 c3 c5 c7)) mw_X12_partOf ko_X12 rfl w_1271 w_21 w_1269 ar_X12_partOf rfl ⟨rfl, rfl, rfl, rfl, rfl⟩ dX12_part_59 (by decide) (shk (Sh_uI hS) 33 rfl) ?_
          refine V_goto 66 dX12_part_62 rfl ?_
          exact V_iret rfl dX12_part_66 (k8 c1 c3 c5 c7)

set_option maxRecDepth 100000 in
set_option maxHeartbeats 4000000 in
theorem b_X12_price_0 {g : GP} {CX : State → Array Value → Prop} {Q : AH → Option Value → Prop} {X : AH → String → Prop}  {σ : AH}
    (hS : Sh σ)
    (o1 : PO (uI σ 33 49 (0 : Int32)))
    (o2 : vp_in (zI (uI σ 33 49 (0 : Int32)) 33 16) 9)
    (k1 : Q (hW (uI σ 33 49 (0 : Int32)) (wayF (uI σ 33 49 (0 : Int32)))) (some (.int ((wayF (uI σ 33 49 (0 : Int32))).1)))) :
    V g mX12_price (Em g mX12_price Q X) CX 0 0 0 [(0, .ref 33)] [] σ := by
  refine V_aload_n dX12_price_0 rfl ?_
  refine V_iconst (0 : Int32) dX12_price_1 (by decide) ?_
  refine V_puti (fk := 49) ko_X12 rfl w_1104 (Or.inl rfl) dX12_price_2 rfl (by decide) (shk hS 33 rfl) ?_
  refine V_aload_n dX12_price_5 rfl ?_
  refine V_callV1 (as := []) (k' := 0) (n' := 0) (s_X12_finds (Sh_uI hS) o1 o2) mw_X12_finds ko_X12 rfl w_1299 w_27 w_1297 ar_X12_finds rfl ⟨rfl, rfl, rfl, rfl, rfl⟩ dX12_price_6 (by decide) (shk (Sh_uI hS) 33 rfl) ?_
  exact V_iret rfl dX12_price_9 k1

set_option maxRecDepth 100000 in
set_option maxHeartbeats 4000000 in
theorem b_X12_cuts_0 {g : GP} {CX : State → Array Value → Prop} {Q : AH → Option Value → Prop} {X : AH → String → Prop}  {σ : AH}
    (hS : Sh σ)
    (o1 : PO (uI σ 33 49 (0 : Int32)))
    (o2 : vp_in (zI (uI σ 33 49 (0 : Int32)) 33 16) 9)
    (k1 : Q (hW (uI σ 33 49 (0 : Int32)) (wayF (uI σ 33 49 (0 : Int32)))) (some (.int (zI (hW (uI σ 33 49 (0 : Int32)) (wayF (uI σ 33 49 (0 : Int32)))) 33 22)))) :
    V g mX12_cuts (Em g mX12_cuts Q X) CX 0 0 0 [(0, .ref 33)] [] σ := by
  refine V_aload_n dX12_cuts_0 rfl ?_
  refine V_iconst (0 : Int32) dX12_cuts_1 (by decide) ?_
  refine V_puti (fk := 49) ko_X12 rfl w_1104 (Or.inl rfl) dX12_cuts_2 rfl (by decide) (shk hS 33 rfl) ?_
  refine V_aload_n dX12_cuts_5 rfl ?_
  refine V_callV1 (as := []) (k' := 0) (n' := 0) (s_X12_finds (Sh_uI hS) o1 o2) mw_X12_finds ko_X12 rfl w_1299 w_27 w_1297 ar_X12_finds rfl ⟨rfl, rfl, rfl, rfl, rfl⟩ dX12_cuts_6 (by decide) (shk (Sh_uI hS) 33 rfl) ?_
  refine V_istore_n [(0, .ref 33), (1, .int ((wayF (uI σ 33 49 (0 : Int32))).1))] dX12_cuts_9 rfl rfl ?_
  refine V_aload_n dX12_cuts_10 rfl ?_
  refine V_getf (fk := 22) (Value.int (zI (hW (uI σ 33 49 (0 : Int32)) (wayF (uI σ 33 49 (0 : Int32)))) 33 22)) ko_X12 rfl w_1077 dX12_cuts_11 (by decide) (shk (Sh_uI (Sh_uI (Sh_uI hS))) 33 rfl) rfl ?_
  exact V_iret rfl dX12_cuts_14 k1

set_option maxRecDepth 100000 in
set_option maxHeartbeats 4000000 in
theorem s_X12_miles {g : GP} {Q : AH → Option Value → Prop} {v1 : Int32} {v2 : Int32} {v3 : Int32} {σ : AH} (hS : Sh σ) 
    (q1 : ¬ (isPl v1 ∧ isPl v2) → Q (uI σ 33 49 (1 : Int32)) (some (.int 0)))
    (q2 : (isPl v1 ∧ isPl v2) → ¬ (¬ v1 = v2 ∧ isWi v3 1 9999) → Q (uI σ 33 49 (2 : Int32)) (some (.int 0)))
    (q0 : (isPl v1 ∧ isPl v2) → (¬ v1 = v2 ∧ isWi v3 1 9999) → Q (uI (uI (uI σ 33 49 0) 34 (p2 v1 v2) v3) 34 (p2 v2 v1) v3) (some (.int (zI σ 34 (p2 v1 v2))))) :
    Ct g mX12_miles [.ref 33, .int v1, .int v2, .int v3] σ Q := by
  refine Ct_of (by decide +kernel) rfl rfl ?_
  by_cases a1 : isPl v1 ∧ isPl v2
  · by_cases a2 : ¬ v1 = v2 ∧ isWi v3 1 9999
    · have q := q0 a1 a2
      clear q0 q1 q2
      obtain ⟨x1_0, x1_1⟩ := id a1
      obtain ⟨x2_0, x2_1⟩ := id a2
      have o1 := (vp_mul (isPl_vp a1.1) (isPl_vp a1.2)).1
      have o2 := (vp_mul (isPl_vp a1.2) (isPl_vp a1.1)).1
      all_goals refine b_X12_miles_0 hS ?_ ?_ ?_ ?_ ?_ ?_ ?_ ?_ ?_ ?_ ?_
      all_goals first | (intros; contradiction) | (intros; with_reducible exact o1) | (intros; with_reducible exact o2) | (intros; exact q)
    · have q := q2 a1 a2
      clear q0 q1 q2
      obtain ⟨x1_0, x1_1⟩ := id a1
      all_goals refine b_X12_miles_0 hS ?_ ?_ ?_ ?_ ?_ ?_ ?_ ?_ ?_ ?_ ?_
      all_goals first | (intros; with_reducible exact q) | (intros; contradiction) | (intros; with_reducible exact absurd ⟨(by assumption), (by assumption)⟩ a2) | (intros; exact q) | (intros; exfalso; simp_all; done)
  · have q := q1 a1
    clear q0 q1 q2
    all_goals refine b_X12_miles_0 hS ?_ ?_ ?_ ?_ ?_ ?_ ?_ ?_ ?_ ?_ ?_
    all_goals first | (intros; with_reducible exact q) | (intros; contradiction) | (intros; with_reducible exact absurd ⟨(by assumption), (by assumption)⟩ a1) | (intros; exact q) | (intros; exfalso; simp_all; done)
theorem isWi_vp {x n : Int32} {m : Nat} (hn : vp_in n (m + 1)) (hm : m < 2 ^ 30) (h : isWi x 0 (n - 1)) : vp_in x m := by
  obtain ⟨j, hj, rfl⟩ := vp_in_of hn (by omega)
  have h1 := Int32.le_iff_toInt_le.mp (Int32.not_lt.mp h.1)
  have h2 := Int32.le_iff_toInt_le.mp (Int32.not_lt.mp h.2)
  change (0 : Int) ≤ _ at h1
  rw [vp_in_iff]
  by_cases h0 : j = 0
  · subst h0
    change x.toInt ≤ (-1 : Int) at h2
    omega
  · obtain ⟨i, rfl⟩ : ∃ i, j = i + 1 := ⟨j - 1, by omega⟩
    rw [nI_pred, nI_toInt (by omega)] at h2
    omega
theorem vp_pr {x : Int32} (h : vp_in x 9) (h0 : ¬ x = 0) : vp_in (x - 1) 8 := (vp_nz h (by decide) h0).1
theorem vp_pl {x : Int32} {n : Nat} (h : vp_in x (n + 1)) (hn : n < 2 ^ 30) (h0 : ¬ nI n ≤ x) : vp_in x n := by
  obtain ⟨j, hj, rfl⟩ := vp_in_of h (by omega)
  rcases Nat.lt_or_ge j n with h1 | h1
  · exact vp_in_nI h1 (by omega)
  · exact absurd (nI_le h1 (by omega)) h0
theorem vp_pl40 {x : Int32} (h : vp_in x 41) (h0 : ¬ (40 : Int32) ≤ x) : vp_in x 40 := vp_pl (n := 40) h (by decide) h0
theorem vp_pl8 {x : Int32} (h : vp_in x 9) (h0 : ¬ (8 : Int32) ≤ x) : vp_in x 8 := vp_pl (n := 8) h (by decide) h0
theorem PO_go {σ : AH} {x : Int32} (h : PO σ) : PO (uI σ 33 49 x) := h
theorem vp_z8 {x : Int32} (h : x = 0) : vp_in x 8 := by rw [h]; exact vp_in_nI (n := 0) (N := 8) (by decide) (by decide)
theorem isWi_L {x : Int32} {n : Int32} {m : Nat} (hn : vp_in n (m + 1)) (hm : m < 2 ^ 30) (h : isWi x 0 n) : vp_in x (m + 1) := by
  rw [vp_in_iff] at hn ⊢
  have h1 := Int32.le_iff_toInt_le.mp (Int32.not_lt.mp h.1)
  have h2 := Int32.le_iff_toInt_le.mp (Int32.not_lt.mp h.2)
  change (0 : Int) ≤ _ at h1
  omega
theorem vp_sub {x : Int32} {n m : Nat} (h : vp_in x n) (hm : n ≤ m) : vp_in x m := by
  rw [vp_in_iff] at h ⊢; omega
abbrev faN (σ : AH) : Nat := ix (zI σ 33 6)
abbrev leN (σ : AH) : Nat := ix (zI σ 33 16)
set_option maxRecDepth 100000 in
set_option maxHeartbeats 4000000 in
theorem s_X12_fare {g : GP} {Q : AH → Option Value → Prop} {v1 : Int32} {v2 : Int32} {v3 : Int32} {v4 : Int32} {v5 : Int32} {v6 : Int32} {σ : AH} (hS : Sh σ) (hF : vp_in (zI σ 33 6) 41)
    (q1 : ¬ (isPl v1 ∧ isPl v2) → Q (uI σ 33 49 (1 : Int32)) (some (.int 0)))
    (q2 : (isPl v1 ∧ isPl v2) → ¬ (¬ v1 = v2 ∧ isWi v3 1 1000000 ∧ isWi v4 0 999 ∧ isWi v5 v4 999 ∧ isWi v6 0 7) → Q (uI σ 33 49 (2 : Int32)) (some (.int 0)))
    (q3 : (isPl v1 ∧ isPl v2) → (¬ v1 = v2 ∧ isWi v3 1 1000000 ∧ isWi v4 0 999 ∧ isWi v5 v4 999 ∧ isWi v6 0 7) → ¬ (¬ 40 ≤ zI σ 33 6) → Q (uI σ 33 49 (3 : Int32)) (some (.int 0)))
    (q0 : (isPl v1 ∧ isPl v2) → (¬ v1 = v2 ∧ isWi v3 1 1000000 ∧ isWi v4 0 999 ∧ isWi v5 v4 999 ∧ isWi v6 0 7) → (¬ 40 ≤ zI σ 33 6) → Q (uI (uI (uI (uI (uI (uI (uI (uI σ 33 49 0) 39 (faN σ) v1) 40 (faN σ) v2) 41 (faN σ) v3) 42 (faN σ) v4) 43 (faN σ) v5) 44 (faN σ) v6) 33 6 (zI σ 33 6 + 1)) (some (.int (zI σ 33 6 + 1 - 1)))) :
    Ct g mX12_fare [.ref 33, .int v1, .int v2, .int v3, .int v4, .int v5, .int v6] σ Q := by
  refine Ct_of (by decide +kernel) rfl rfl ?_
  by_cases a1 : isPl v1 ∧ isPl v2
  · by_cases a2 : ¬ v1 = v2 ∧ isWi v3 1 1000000 ∧ isWi v4 0 999 ∧ isWi v5 v4 999 ∧ isWi v6 0 7
    · by_cases a3 : ¬ 40 ≤ zI σ 33 6
      · have q := q0 a1 a2 a3
        clear q0 q1 q2 q3
        obtain ⟨x1_0, x1_1⟩ := id a1
        obtain ⟨x2_0, x2_1, x2_2, x2_3, x2_4⟩ := id a2
        all_goals refine b_X12_fare_0 hS ?_ ?_ ?_ ?_ ?_ ?_ ?_ ?_ ?_ ?_ ?_ ?_ ?_ ?_ ?_ ?_ ?_ ?_ ?_ ?_ ?_ ?_ ?_ ?_ ?_ ?_ ?_ ?_ ?_ ?_ ?_ ?_ ?_ ?_ ?_ ?_ ?_
        all_goals first | (intros; contradiction) | (intros; with_reducible exact vp_pl40 hF (by assumption)) | (intros; exact q)
      · have q := q3 a1 a2 a3
        clear q0 q1 q2 q3
        obtain ⟨x1_0, x1_1⟩ := id a1
        obtain ⟨x2_0, x2_1, x2_2, x2_3, x2_4⟩ := id a2
        all_goals refine b_X12_fare_0 hS ?_ ?_ ?_ ?_ ?_ ?_ ?_ ?_ ?_ ?_ ?_ ?_ ?_ ?_ ?_ ?_ ?_ ?_ ?_ ?_ ?_ ?_ ?_ ?_ ?_ ?_ ?_ ?_ ?_ ?_ ?_ ?_ ?_ ?_ ?_ ?_ ?_
        all_goals first | (intros; with_reducible exact q) | (intros; contradiction) | (intros; with_reducible exact vp_pl40 hF (by assumption)) | (intros; with_reducible exact absurd (by assumption) a3) | (intros; exact q) | (intros; exfalso; simp_all; done)
    · have q := q2 a1 a2
      clear q0 q1 q2 q3
      obtain ⟨x1_0, x1_1⟩ := id a1
      all_goals refine b_X12_fare_0 hS ?_ ?_ ?_ ?_ ?_ ?_ ?_ ?_ ?_ ?_ ?_ ?_ ?_ ?_ ?_ ?_ ?_ ?_ ?_ ?_ ?_ ?_ ?_ ?_ ?_ ?_ ?_ ?_ ?_ ?_ ?_ ?_ ?_ ?_ ?_ ?_ ?_
      all_goals first | (intros; with_reducible exact q) | (intros; contradiction) | (intros; with_reducible exact vp_pl40 hF (by assumption)) | (intros; with_reducible exact absurd ⟨(by assumption), (by assumption), (by assumption), (by assumption), (by assumption)⟩ a2) | (intros; exact q) | (intros; exfalso; simp_all; done)
  · have q := q1 a1
    clear q0 q1 q2 q3
    all_goals refine b_X12_fare_0 hS ?_ ?_ ?_ ?_ ?_ ?_ ?_ ?_ ?_ ?_ ?_ ?_ ?_ ?_ ?_ ?_ ?_ ?_ ?_ ?_ ?_ ?_ ?_ ?_ ?_ ?_ ?_ ?_ ?_ ?_ ?_ ?_ ?_ ?_ ?_ ?_ ?_
    all_goals first | (intros; with_reducible exact q) | (intros; contradiction) | (intros; with_reducible exact vp_pl40 hF (by assumption)) | (intros; with_reducible exact absurd ⟨(by assumption), (by assumption)⟩ a1) | (intros; exact q) | (intros; exfalso; simp_all; done)
set_option maxRecDepth 100000 in
set_option maxHeartbeats 4000000 in
theorem s_X12_withdraw {g : GP} {Q : AH → Option Value → Prop} {v1 : Int32} {σ : AH} (hS : Sh σ) (hF : vp_in (zI σ 33 6) 41)
    (q1 : ¬ (isWi v1 0 (zI σ 33 6 - 1)) → Q (uI σ 33 49 (1 : Int32)) none)
    (q2 : (isWi v1 0 (zI σ 33 6 - 1)) → ¬ (zI σ 45 (ix v1) = 0) → Q (uI σ 33 49 (2 : Int32)) none)
    (q0 : (isWi v1 0 (zI σ 33 6 - 1)) → (zI σ 45 (ix v1) = 0) → Q (uI (uI σ 33 49 0) 45 (ix v1) 1) none) :
    Ct g mX12_withdraw [.ref 33, .int v1] σ Q := by
  refine Ct_of (by decide +kernel) rfl rfl ?_
  by_cases a1 : isWi v1 0 (zI σ 33 6 - 1)
  · by_cases a2 : zI σ 45 (ix v1) = 0
    · have q := q0 a1 a2
      clear q0 q1 q2
      all_goals refine b_X12_withdraw_0 hS ?_ ?_ ?_ ?_ ?_ ?_ ?_
      all_goals first | (intros; contradiction) | (intros; with_reducible exact isWi_vp hF (by decide) (by assumption)) | (intros; exact q)
    · have q := q2 a1 a2
      clear q0 q1 q2
      all_goals refine b_X12_withdraw_0 hS ?_ ?_ ?_ ?_ ?_ ?_ ?_
      all_goals first | (intros; with_reducible exact q) | (intros; contradiction) | (intros; with_reducible exact isWi_vp hF (by decide) (by assumption)) | (intros; with_reducible exact absurd (by assumption) a2) | (intros; exact q) | (intros; exfalso; simp_all; done)
  · have q := q1 a1
    clear q0 q1 q2
    all_goals refine b_X12_withdraw_0 hS ?_ ?_ ?_ ?_ ?_ ?_ ?_
    all_goals first | (intros; with_reducible exact q) | (intros; contradiction) | (intros; with_reducible exact isWi_vp hF (by decide) (by assumption)) | (intros; with_reducible exact absurd (by assumption) a1) | (intros; exact q) | (intros; exfalso; simp_all; done)
set_option maxRecDepth 100000 in
set_option maxHeartbeats 4000000 in
theorem s_X12_unit {g : GP} {Q : AH → Option Value → Prop} {v1 : Int32} {σ : AH} (hS : Sh σ) 
    (q1 : ¬ (isWi v1 1 1000) → Q (uI σ 33 49 (1 : Int32)) (some (.int 0)))
    (q0 : (isWi v1 1 1000) → Q (uI (uI σ 33 49 0) 33 14 v1) (some (.int (zI σ 33 14)))) :
    Ct g mX12_unit [.ref 33, .int v1] σ Q := by
  refine Ct_of (by decide +kernel) rfl rfl ?_
  by_cases a1 : isWi v1 1 1000
  · have q := q0 a1
    clear q0 q1
    all_goals refine b_X12_unit_0 hS ?_ ?_
    all_goals first | (intros; contradiction) | (intros; exact q)
  · have q := q1 a1
    clear q0 q1
    all_goals refine b_X12_unit_0 hS ?_ ?_
    all_goals first | (intros; with_reducible exact q) | (intros; contradiction) | (intros; with_reducible exact absurd (by assumption) a1) | (intros; exact q) | (intros; exfalso; simp_all; done)
set_option maxRecDepth 100000 in
set_option maxHeartbeats 4000000 in
theorem s_X12_tax {g : GP} {Q : AH → Option Value → Prop} {v1 : Int32} {v2 : Int32} {v3 : Int32} {σ : AH} (hS : Sh σ) 
    (q1 : ¬ (isPl v1) → Q (uI σ 33 49 (1 : Int32)) none)
    (q2 : (isPl v1) → ¬ (isWi v2 0 10000 ∧ isWi v3 0 10000) → Q (uI σ 33 49 (2 : Int32)) none)
    (q0 : (isPl v1) → (isWi v2 0 10000 ∧ isWi v3 0 10000) → Q (uI (uI (uI σ 33 49 0) 37 (ix v1) v2) 38 (ix v1) v3) none) :
    Ct g mX12_tax [.ref 33, .int v1, .int v2, .int v3] σ Q := by
  refine Ct_of (by decide +kernel) rfl rfl ?_
  by_cases a1 : isPl v1
  · by_cases a2 : isWi v2 0 10000 ∧ isWi v3 0 10000
    · have q := q0 a1 a2
      clear q0 q1 q2
      obtain ⟨x2_0, x2_1⟩ := id a2
      have o1 := isPl_vp a1
      all_goals refine b_X12_tax_0 hS ?_ ?_ ?_ ?_ ?_ ?_ ?_
      all_goals first | (intros; contradiction) | (intros; with_reducible exact o1) | (intros; exact q)
    · have q := q2 a1 a2
      clear q0 q1 q2
      all_goals refine b_X12_tax_0 hS ?_ ?_ ?_ ?_ ?_ ?_ ?_
      all_goals first | (intros; with_reducible exact q) | (intros; contradiction) | (intros; with_reducible exact absurd ⟨(by assumption), (by assumption)⟩ a2) | (intros; exact q) | (intros; exfalso; simp_all; done)
  · have q := q1 a1
    clear q0 q1 q2
    all_goals refine b_X12_tax_0 hS ?_ ?_ ?_ ?_ ?_ ?_ ?_
    all_goals first | (intros; with_reducible exact q) | (intros; contradiction) | (intros; with_reducible exact absurd (by assumption) a1) | (intros; exact q) | (intros; exfalso; simp_all; done)
set_option maxRecDepth 100000 in
set_option maxHeartbeats 4000000 in
theorem s_X12_weight {g : GP} {Q : AH → Option Value → Prop} {v1 : Int32} {v2 : Int32} {v3 : Int32} {σ : AH} (hS : Sh σ) 
    (q1 : ¬ (isPl v1 ∧ isPl v2) → Q (uI σ 33 49 (1 : Int32)) (some (.int 0)))
    (q2 : (isPl v1 ∧ isPl v2) → ¬ (¬ v1 = v2 ∧ isWi v3 0 9999) → Q (uI σ 33 49 (2 : Int32)) (some (.int 0)))
    (q0 : (isPl v1 ∧ isPl v2) → (¬ v1 = v2 ∧ isWi v3 0 9999) → Q (uI (uI (uI σ 33 49 0) 35 (p2 v1 v2) v3) 35 (p2 v2 v1) v3) (some (.int (zI σ 35 (p2 v1 v2))))) :
    Ct g mX12_weight [.ref 33, .int v1, .int v2, .int v3] σ Q := by
  refine Ct_of (by decide +kernel) rfl rfl ?_
  by_cases a1 : isPl v1 ∧ isPl v2
  · by_cases a2 : ¬ v1 = v2 ∧ isWi v3 0 9999
    · have q := q0 a1 a2
      clear q0 q1 q2
      obtain ⟨x1_0, x1_1⟩ := id a1
      obtain ⟨x2_0, x2_1⟩ := id a2
      have o1 := (vp_mul (isPl_vp a1.1) (isPl_vp a1.2)).1
      have o2 := (vp_mul (isPl_vp a1.2) (isPl_vp a1.1)).1
      all_goals refine b_X12_weight_0 hS ?_ ?_ ?_ ?_ ?_ ?_ ?_ ?_ ?_ ?_ ?_
      all_goals first | (intros; contradiction) | (intros; with_reducible exact o1) | (intros; with_reducible exact o2) | (intros; exact q)
    · have q := q2 a1 a2
      clear q0 q1 q2
      obtain ⟨x1_0, x1_1⟩ := id a1
      all_goals refine b_X12_weight_0 hS ?_ ?_ ?_ ?_ ?_ ?_ ?_ ?_ ?_ ?_ ?_
      all_goals first | (intros; with_reducible exact q) | (intros; contradiction) | (intros; with_reducible exact absurd ⟨(by assumption), (by assumption)⟩ a2) | (intros; exact q) | (intros; exfalso; simp_all; done)
  · have q := q1 a1
    clear q0 q1 q2
    all_goals refine b_X12_weight_0 hS ?_ ?_ ?_ ?_ ?_ ?_ ?_ ?_ ?_ ?_ ?_
    all_goals first | (intros; with_reducible exact q) | (intros; contradiction) | (intros; with_reducible exact absurd ⟨(by assumption), (by assumption)⟩ a1) | (intros; exact q) | (intros; exfalso; simp_all; done)
set_option maxRecDepth 100000 in
set_option maxHeartbeats 4000000 in
theorem s_X12_proviso {g : GP} {Q : AH → Option Value → Prop} {v1 : Int32} {v2 : Int32} {v3 : Int32} {v4 : Int32} {σ : AH} (hS : Sh σ) 
    (q1 : ¬ (isCa v1 ∧ isPl v2 ∧ isPl v3) → Q (uI σ 33 49 (1 : Int32)) (some (.int 0)))
    (q2 : (isCa v1 ∧ isPl v2 ∧ isPl v3) → ¬ (¬ v2 = v3 ∧ isWi v4 (-1) 1000000) → Q (uI σ 33 49 (2 : Int32)) (some (.int 0)))
    (q0 : (isCa v1 ∧ isPl v2 ∧ isPl v3) → (¬ v2 = v3 ∧ isWi v4 (-1) 1000000) → Q (uI (uI σ 33 49 0) 36 (p3 v1 v2 v3) (v4 + 1)) (some (.int (zI σ 36 (p3 v1 v2 v3) - 1)))) :
    Ct g mX12_proviso [.ref 33, .int v1, .int v2, .int v3, .int v4] σ Q := by
  refine Ct_of (by decide +kernel) rfl rfl ?_
  by_cases a1 : isCa v1 ∧ isPl v2 ∧ isPl v3
  · by_cases a2 : ¬ v2 = v3 ∧ isWi v4 (-1) 1000000
    · have q := q0 a1 a2
      clear q0 q1 q2
      obtain ⟨x1_0, x1_1, x1_2⟩ := id a1
      obtain ⟨x2_0, x2_1⟩ := id a2
      have o1 := (vp_mul3 (isCa_vp a1.1) (isPl_vp a1.2.1) (isPl_vp a1.2.2)).1
      all_goals refine b_X12_proviso_0 hS ?_ ?_ ?_ ?_ ?_ ?_ ?_ ?_ ?_ ?_ ?_ ?_ ?_
      all_goals first | (intros; contradiction) | (intros; with_reducible exact o1) | (intros; exact q)
    · have q := q2 a1 a2
      clear q0 q1 q2
      obtain ⟨x1_0, x1_1, x1_2⟩ := id a1
      all_goals refine b_X12_proviso_0 hS ?_ ?_ ?_ ?_ ?_ ?_ ?_ ?_ ?_ ?_ ?_ ?_ ?_
      all_goals first | (intros; with_reducible exact q) | (intros; contradiction) | (intros; with_reducible exact absurd ⟨(by assumption), (by assumption)⟩ a2) | (intros; exact q) | (intros; exfalso; simp_all; done)
  · have q := q1 a1
    clear q0 q1 q2
    all_goals refine b_X12_proviso_0 hS ?_ ?_ ?_ ?_ ?_ ?_ ?_ ?_ ?_ ?_ ?_ ?_ ?_
    all_goals first | (intros; with_reducible exact q) | (intros; contradiction) | (intros; with_reducible exact absurd ⟨(by assumption), (by assumption), (by assumption)⟩ a1) | (intros; exact q) | (intros; exfalso; simp_all; done)
set_option maxRecDepth 100000 in
set_option maxHeartbeats 4000000 in
theorem s_X12_penalty {g : GP} {Q : AH → Option Value → Prop} {v1 : Int32} {σ : AH} (hS : Sh σ) 
    (q1 : ¬ (isWi v1 0 100) → Q (uI σ 33 49 (1 : Int32)) (some (.int 0)))
    (q0 : (isWi v1 0 100) → Q (uI (uI σ 33 49 0) 33 15 v1) (some (.int (zI σ 33 15)))) :
    Ct g mX12_penalty [.ref 33, .int v1] σ Q := by
  refine Ct_of (by decide +kernel) rfl rfl ?_
  by_cases a1 : isWi v1 0 100
  · have q := q0 a1
    clear q0 q1
    all_goals refine b_X12_penalty_0 hS ?_ ?_
    all_goals first | (intros; contradiction) | (intros; exact q)
  · have q := q1 a1
    clear q0 q1
    all_goals refine b_X12_penalty_0 hS ?_ ?_
    all_goals first | (intros; with_reducible exact q) | (intros; contradiction) | (intros; with_reducible exact absurd (by assumption) a1) | (intros; exact q) | (intros; exfalso; simp_all; done)
set_option maxRecDepth 100000 in
set_option maxHeartbeats 4000000 in
theorem s_X12_part {g : GP} {Q : AH → Option Value → Prop} {v1 : Int32} {v2 : Int32} {σ : AH} (hS : Sh σ) (hP : PO σ) (hL : vp_in (zI σ 33 16) 9)
    (q1 : ¬ (¬ zI σ 33 16 ≤ 0 ∧ isWi v1 0 (zI σ 33 16) ∧ isWi v2 0 (zI σ 33 16)) → Q (uI σ 33 49 (1 : Int32)) (some (.int 0)))
    (q2 : (¬ zI σ 33 16 ≤ 0 ∧ isWi v1 0 (zI σ 33 16) ∧ isWi v2 0 (zI σ 33 16)) → ¬ (¬ v2 ≤ v1) → Q (uI σ 33 49 (2 : Int32)) (some (.int 0)))
    (q0 : (¬ zI σ 33 16 ≤ 0 ∧ isWi v1 0 (zI σ 33 16) ∧ isWi v2 0 (zI σ 33 16)) → (¬ v2 ≤ v1) → Q (uI σ 33 49 0) (some (.int (partF (uI σ 33 49 0) (ix v1) (ix v2))))) :
    Ct g mX12_part [.ref 33, .int v1, .int v2] σ Q := by
  refine Ct_of (by decide +kernel) rfl rfl ?_
  by_cases a1 : ¬ zI σ 33 16 ≤ 0 ∧ isWi v1 0 (zI σ 33 16) ∧ isWi v2 0 (zI σ 33 16)
  · by_cases a2 : ¬ v2 ≤ v1
    · have q := q0 a1 a2
      clear q0 q1 q2
      obtain ⟨x1_0, x1_1, x1_2⟩ := id a1
      all_goals refine b_X12_part_0 hS ?_ ?_ ?_ ?_ ?_ ?_ ?_ ?_ ?_ ?_ ?_
      all_goals first | (intros; contradiction) | (intros; with_reducible exact isWi_L hL (by decide) (by assumption)) | (intros; with_reducible exact PO_go hP) | (intros; exact q)
    · have q := q2 a1 a2
      clear q0 q1 q2
      obtain ⟨x1_0, x1_1, x1_2⟩ := id a1
      all_goals refine b_X12_part_0 hS ?_ ?_ ?_ ?_ ?_ ?_ ?_ ?_ ?_ ?_ ?_
      all_goals first | (intros; with_reducible exact q) | (intros; contradiction) | (intros; with_reducible exact isWi_L hL (by decide) (by assumption)) | (intros; with_reducible exact PO_go hP) | (intros; with_reducible exact absurd (by assumption) a2) | (intros; exact q) | (intros; exfalso; simp_all; done)
  · have q := q1 a1
    clear q0 q1 q2
    all_goals refine b_X12_part_0 hS ?_ ?_ ?_ ?_ ?_ ?_ ?_ ?_ ?_ ?_ ?_
    all_goals first | (intros; with_reducible exact q) | (intros; contradiction) | (intros; with_reducible exact isWi_L hL (by decide) (by assumption)) | (intros; with_reducible exact PO_go hP) | (intros; with_reducible exact absurd ⟨(by assumption), (by assumption), (by assumption)⟩ a1) | (intros; exact q) | (intros; exfalso; simp_all; done)
theorem s_X12_wipe {g : GP} {σ : AH} (hS : Sh σ) : Ct g mX12_wipe [.ref 33] σ (FQ (uI (uI σ 33 49 0) 33 16 0) (some (.int (zI σ 33 16)))) :=
  Ct_of (by decide +kernel) rfl rfl (b_X12_wipe_0 hS fq)
theorem s_X12_price {g : GP} {σ : AH} (hS : Sh σ) (hP : PO σ) (hL : vp_in (zI σ 33 16) 9) : Ct g mX12_price [.ref 33] σ (FQ (hW (uI σ 33 49 0) (wayF (uI σ 33 49 0))) (some (.int (wayF (uI σ 33 49 0)).1))) :=
  Ct_of (by decide +kernel) rfl rfl (b_X12_price_0 hS hP hL fq)
set_option maxRecDepth 100000 in
set_option maxHeartbeats 4000000 in
theorem b_X12_priceAnew_0 {g : GP} {CX : State → Array Value → Prop} {Q : AH → Option Value → Prop} {X : AH → String → Prop}  {σ : AH}
    (hS : Sh σ)
    (o1 : PO σ)
    (o2 : vp_in (zI σ 33 16) 9)
    (k1 : Q (hW (uI σ 33 49 0) (wayF (uI σ 33 49 0))) (some (.int ((wayF (uI σ 33 49 0)).1)))) :
    V g mX12_priceAnew (Em g mX12_priceAnew Q X) CX 0 0 0 [(0, .ref 33)] [] σ := by
  refine V_aload_n dX12_priceAnew_0 rfl ?_
  refine V_callV1 (as := []) (k' := 0) (n' := 0) (s_X12_price hS o1 o2) mw_X12_price ko_X12 rfl w_1294 w_1295 w_1309 ar_X12_price rfl ⟨rfl, rfl, rfl, rfl, rfl⟩ dX12_priceAnew_1 (by decide) (shk hS 33 rfl) ?_
  exact V_iret rfl dX12_priceAnew_4 k1

theorem s_X12_priceAnew {g : GP} {σ : AH} (hS : Sh σ) (hP : PO σ) (hL : vp_in (zI σ 33 16) 9) : Ct g mX12_priceAnew [.ref 33] σ (FQ (hW (uI σ 33 49 0) (wayF (uI σ 33 49 0))) (some (.int (wayF (uI σ 33 49 0)).1))) :=
  Ct_of (by decide +kernel) rfl rfl (b_X12_priceAnew_0 hS hP hL fq)
theorem s_X12_cuts {g : GP} {σ : AH} (hS : Sh σ) (hP : PO σ) (hL : vp_in (zI σ 33 16) 9) : Ct g mX12_cuts [.ref 33] σ (FQ (hW (uI σ 33 49 0) (wayF (uI σ 33 49 0))) (some (.int (wayF (uI σ 33 49 0)).2))) :=
  Ct_of (by decide +kernel) rfl rfl (b_X12_cuts_0 hS hP hL (fq_i (by rw [hW, zI_uI, if_pos ⟨rfl, rfl⟩])))
/-- a leg's carrier -/
def CA (σ : AH) : Prop := ∀ k, k < 8 → vp_in (zI σ 48 k) 5
/-- a leg's weight -/
def wtF (σ : AH) (k : Nat) : Int32 := if zI σ 35 (p2 (zI σ 46 k) (zI σ 47 k)) ≤ 0 then mi σ (zI σ 46 k) (zI σ 47 k) else zI σ 35 (p2 (zI σ 46 k) (zI σ 47 k))
/-- a leg's proviso -/
def pvF (σ : AH) (k : Nat) : Int32 := zI σ 36 (p3 (zI σ 48 k) (zI σ 46 k) (zI σ 47 k)) - 1
theorem s_X12_weightOf {g : GP} {σ : AH} {x : Int32} (hS : Sh σ) (hP : PO σ) (hx : vp_in x 8) : Ct g mX12_weightOf [.ref 33, .int x] σ (FQ σ (some (.int (wtF σ (ix x))))) := by
  have hlt : x.toNatClampNeg < 8 := by
    obtain ⟨i, hi, rfl⟩ := vp_in_of hx (by decide)
    rw [cl0 (by omega)]; exact hi
  obtain ⟨h1, h2⟩ := hP.2.1 _ hlt
  obtain ⟨h3, h4, -⟩ := vp_mul h1 h2
  exact Ct_of (by decide +kernel) rfl rfl (b_X12_weightOf_0 hS hx h3 (fun _ => hP) (fun c => fq_i (by rw [wtF, if_pos c])) (fun c => fq_i (by rw [wtF, if_neg c])))
theorem s_X12_provisoOf {g : GP} {σ : AH} {x : Int32} (hS : Sh σ) (hP : PO σ) (hC : CA σ) (hx : vp_in x 8) : Ct g mX12_provisoOf [.ref 33, .int x] σ (FQ σ (some (.int (pvF σ (ix x))))) := by
  have hlt : x.toNatClampNeg < 8 := by
    obtain ⟨i, hi, rfl⟩ := vp_in_of hx (by decide)
    rw [cl0 (by omega)]; exact hi
  obtain ⟨h1, h2⟩ := hP.2.1 _ hlt
  obtain ⟨h3, h4, -⟩ := vp_mul3 (hC _ hlt) h1 h2
  exact Ct_of (by decide +kernel) rfl rfl (b_X12_provisoOf_0 hS hx h3 fq)
