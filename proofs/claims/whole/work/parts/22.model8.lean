/-! ===== the reference: what is done with tickets ===== -/
theorem mkH_33 {σ : AH} {t : Nat} {y : Int32} {j : Nat} (h : j ≠ 16 ∧ j ≠ 21 ∧ j ≠ 22) : zI (mkH σ t y) 33 j = zI σ 33 j := by
  rw [mkH, zI_uI, if_neg (fun q => h.1 q.2), zI_sI, mkF, if_pos rfl, if_neg h.2.1, if_neg h.2.2]
theorem mkH_T {σ : AH} {t : Nat} {y : Int32} {a : Nat} (h : 50 ≤ a ∧ a ≤ 54) : zI (mkH σ t y) a t = rwT σ y (lgN σ) a := by
  rw [mkH, zI_uI, if_neg (by omega), zI_sI, mkF, if_neg (by omega), if_pos h, if_pos rfl]
theorem mkH_o {σ : AH} {t : Nat} {y : Int32} {a j : Nat} (h : a < 50 ∨ 61 < a ∨ (50 ≤ a ∧ a ≤ 54 ∧ j ≠ t) ∨ (55 ≤ a ∧ j < 8 * t)) (h33 : a ≠ 33) : zI (mkH σ t y) a j = zI σ a j := by
  rw [mkH, zI_uI, if_neg (fun q => h33 q.1), zI_sI, mkF, if_neg h33]
  by_cases h1 : 50 ≤ a ∧ a ≤ 54
  · rw [if_pos h1, if_neg (by omega)]
  · rw [if_neg h1, if_neg (by omega)]
theorem mkH_N {σ : AH} {t : Nat} {y : Int32} : zN (mkH σ t y) = zN σ ∧ zK (mkH σ t y) = zK σ ∧ zL (mkH σ t y) = zL σ ∧ zJ (mkH σ t y) = zJ σ ∧ zR (mkH σ t y) = zR σ := ⟨rfl, rfl, rfl, rfl, rfl⟩
/-- money comes from buyers -/
abbrev byH (σ : AH) (x y : Int32) : AH := uJ (uJ σ 70 (ix x) (zJ σ 70 (ix x) + Int32.toInt64 y)) 33 48 (zJ σ 33 48 + Int32.toInt64 y)
def NZ (σ : AH) : Prop := ∀ b n d, b + n ≤ lgN σ → d < n → pvF σ (b + d) = -1 → ¬ Int32.toInt64 (alS (pvF σ) (wtF σ) b n) = 0
theorem NZ_eq {τ σ : AH} (h : EqP τ σ) (hN : NZ σ) : NZ τ := by
  have h1 : pvF τ = pvF σ := funext (pvF_eq h)
  have h2 : wtF τ = wtF σ := funext (wtF_eq h)
  have h3 : lgN τ = lgN σ := by rw [lgN, lgN, h.2.2.2.1]
  unfold NZ
  rw [h1, h2, h3]
  exact hN
/-- the heap when the reference has issued -/
noncomputable def nwH (σ : AH) (y : Int32) : AH := mkH σ (ix (zI σ 33 23)) y
noncomputable def nwP (σ : AH) (y : Int32) : Int32 := zI (nwH σ y) 50 (ix (zI σ 33 23)) + smI (fun k => zI (nwH σ y) 57 (8 * ix (zI σ 33 23) + k)) (ix (zI (nwH σ y) 52 (ix (zI σ 33 23))))
noncomputable def isH (σ : AH) (y : Int32) : AH := uI (byH (nwH (uI (ciH σ) 33 49 0) y) y (nwP (uI (ciH σ) 33 49 0) y)) 33 23 (zI σ 33 23 + 1)
set_option maxRecDepth 100000 in
set_option maxHeartbeats 4000000 in
theorem b_X12_issue_0 {g : GP} {CX : State → Array Value → Prop} {Q : AH → Option Value → Prop} {X : AH → String → Prop} {v1 : Int32} {σ : AH}
    (hS : Sh σ)
    (o1 : PO σ)
    (o2 : vp_in (zI σ 33 16) 9)
    (o3 : (isCa v1) → (cnF σ) → PO (uI (ciH σ) 33 49 (0 : Int32)))
    (o4 : (isCa v1) → (cnF σ) → CA (uI (ciH σ) 33 49 (0 : Int32)))
    (o5 : (isCa v1) → (cnF σ) → vp_in (zI (uI (ciH σ) 33 49 (0 : Int32)) 33 16) 9)
    (o6 : (isCa v1) → (cnF σ) → vp_in (zI (ciH σ) 33 23) 30)
    (o7 : (isCa v1) → (cnF σ) → ∀ b n d, b + n ≤ lgN (uI (ciH σ) 33 49 (0 : Int32)) → d < n → pvF (uI (ciH σ) 33 49 (0 : Int32)) (b + d) = -1 → ¬ Int32.toInt64 (alS (pvF (uI (ciH σ) 33 49 (0 : Int32))) (wtF (uI (ciH σ) 33 49 (0 : Int32))) b n) = 0)
    (o8 : (isCa v1) → (cnF σ) → vp_in (zI (mkH (uI (ciH σ) 33 49 (0 : Int32)) (ix (zI (ciH σ) 33 23)) v1) 33 23) 30)
    (o9 : (isCa v1) → (cnF σ) → vp_in (zI (mkH (uI (ciH σ) 33 49 (0 : Int32)) (ix (zI (ciH σ) 33 23)) v1) 52 (ix (zI (mkH (uI (ciH σ) 33 49 (0 : Int32)) (ix (zI (ciH σ) 33 23)) v1) 33 23))) 9)
    (o10 : (isCa v1) → (cnF σ) → vp_in v1 5)
    (k1 : (isCa v1) → (cnF σ) → Q (uI (uJ (uJ (mkH (uI (ciH σ) 33 49 (0 : Int32)) (ix (zI (ciH σ) 33 23)) v1) 70 (ix v1) (zJ (mkH (uI (ciH σ) 33 49 (0 : Int32)) (ix (zI (ciH σ) 33 23)) v1) 70 (ix v1) + Int32.toInt64 ((zI (mkH (uI (ciH σ) 33 49 (0 : Int32)) (ix (zI (ciH σ) 33 23)) v1) 50 (Int32.toNatClampNeg (zI (mkH (uI (ciH σ) 33 49 (0 : Int32)) (ix (zI (ciH σ) 33 23)) v1) 33 23))) + (smI (fun k => zI (mkH (uI (ciH σ) 33 49 (0 : Int32)) (ix (zI (ciH σ) 33 23)) v1) 57 (8 * ix (zI (mkH (uI (ciH σ) 33 49 (0 : Int32)) (ix (zI (ciH σ) 33 23)) v1) 33 23) + k)) (ix (zI (mkH (uI (ciH σ) 33 49 (0 : Int32)) (ix (zI (ciH σ) 33 23)) v1) 52 (ix (zI (mkH (uI (ciH σ) 33 49 (0 : Int32)) (ix (zI (ciH σ) 33 23)) v1) 33 23)))))))) 33 48 (zJ (mkH (uI (ciH σ) 33 49 (0 : Int32)) (ix (zI (ciH σ) 33 23)) v1) 33 48 + Int32.toInt64 ((zI (mkH (uI (ciH σ) 33 49 (0 : Int32)) (ix (zI (ciH σ) 33 23)) v1) 50 (Int32.toNatClampNeg (zI (mkH (uI (ciH σ) 33 49 (0 : Int32)) (ix (zI (ciH σ) 33 23)) v1) 33 23))) + (smI (fun k => zI (mkH (uI (ciH σ) 33 49 (0 : Int32)) (ix (zI (ciH σ) 33 23)) v1) 57 (8 * ix (zI (mkH (uI (ciH σ) 33 49 (0 : Int32)) (ix (zI (ciH σ) 33 23)) v1) 33 23) + k)) (ix (zI (mkH (uI (ciH σ) 33 49 (0 : Int32)) (ix (zI (ciH σ) 33 23)) v1) 52 (ix (zI (mkH (uI (ciH σ) 33 49 (0 : Int32)) (ix (zI (ciH σ) 33 23)) v1) 33 23)))))))) 33 23 ((zI (uJ (uJ (mkH (uI (ciH σ) 33 49 (0 : Int32)) (ix (zI (ciH σ) 33 23)) v1) 70 (ix v1) (zJ (mkH (uI (ciH σ) 33 49 (0 : Int32)) (ix (zI (ciH σ) 33 23)) v1) 70 (ix v1) + Int32.toInt64 ((zI (mkH (uI (ciH σ) 33 49 (0 : Int32)) (ix (zI (ciH σ) 33 23)) v1) 50 (Int32.toNatClampNeg (zI (mkH (uI (ciH σ) 33 49 (0 : Int32)) (ix (zI (ciH σ) 33 23)) v1) 33 23))) + (smI (fun k => zI (mkH (uI (ciH σ) 33 49 (0 : Int32)) (ix (zI (ciH σ) 33 23)) v1) 57 (8 * ix (zI (mkH (uI (ciH σ) 33 49 (0 : Int32)) (ix (zI (ciH σ) 33 23)) v1) 33 23) + k)) (ix (zI (mkH (uI (ciH σ) 33 49 (0 : Int32)) (ix (zI (ciH σ) 33 23)) v1) 52 (ix (zI (mkH (uI (ciH σ) 33 49 (0 : Int32)) (ix (zI (ciH σ) 33 23)) v1) 33 23)))))))) 33 48 (zJ (mkH (uI (ciH σ) 33 49 (0 : Int32)) (ix (zI (ciH σ) 33 23)) v1) 33 48 + Int32.toInt64 ((zI (mkH (uI (ciH σ) 33 49 (0 : Int32)) (ix (zI (ciH σ) 33 23)) v1) 50 (Int32.toNatClampNeg (zI (mkH (uI (ciH σ) 33 49 (0 : Int32)) (ix (zI (ciH σ) 33 23)) v1) 33 23))) + (smI (fun k => zI (mkH (uI (ciH σ) 33 49 (0 : Int32)) (ix (zI (ciH σ) 33 23)) v1) 57 (8 * ix (zI (mkH (uI (ciH σ) 33 49 (0 : Int32)) (ix (zI (ciH σ) 33 23)) v1) 33 23) + k)) (ix (zI (mkH (uI (ciH σ) 33 49 (0 : Int32)) (ix (zI (ciH σ) 33 23)) v1) 52 (ix (zI (mkH (uI (ciH σ) 33 49 (0 : Int32)) (ix (zI (ciH σ) 33 23)) v1) 33 23)))))))) 33 23) + (1 : Int32))) (some (.int (((zI (uJ (uJ (mkH (uI (ciH σ) 33 49 (0 : Int32)) (ix (zI (ciH σ) 33 23)) v1) 70 (ix v1) (zJ (mkH (uI (ciH σ) 33 49 (0 : Int32)) (ix (zI (ciH σ) 33 23)) v1) 70 (ix v1) + Int32.toInt64 ((zI (mkH (uI (ciH σ) 33 49 (0 : Int32)) (ix (zI (ciH σ) 33 23)) v1) 50 (Int32.toNatClampNeg (zI (mkH (uI (ciH σ) 33 49 (0 : Int32)) (ix (zI (ciH σ) 33 23)) v1) 33 23))) + (smI (fun k => zI (mkH (uI (ciH σ) 33 49 (0 : Int32)) (ix (zI (ciH σ) 33 23)) v1) 57 (8 * ix (zI (mkH (uI (ciH σ) 33 49 (0 : Int32)) (ix (zI (ciH σ) 33 23)) v1) 33 23) + k)) (ix (zI (mkH (uI (ciH σ) 33 49 (0 : Int32)) (ix (zI (ciH σ) 33 23)) v1) 52 (ix (zI (mkH (uI (ciH σ) 33 49 (0 : Int32)) (ix (zI (ciH σ) 33 23)) v1) 33 23)))))))) 33 48 (zJ (mkH (uI (ciH σ) 33 49 (0 : Int32)) (ix (zI (ciH σ) 33 23)) v1) 33 48 + Int32.toInt64 ((zI (mkH (uI (ciH σ) 33 49 (0 : Int32)) (ix (zI (ciH σ) 33 23)) v1) 50 (Int32.toNatClampNeg (zI (mkH (uI (ciH σ) 33 49 (0 : Int32)) (ix (zI (ciH σ) 33 23)) v1) 33 23))) + (smI (fun k => zI (mkH (uI (ciH σ) 33 49 (0 : Int32)) (ix (zI (ciH σ) 33 23)) v1) 57 (8 * ix (zI (mkH (uI (ciH σ) 33 49 (0 : Int32)) (ix (zI (ciH σ) 33 23)) v1) 33 23) + k)) (ix (zI (mkH (uI (ciH σ) 33 49 (0 : Int32)) (ix (zI (ciH σ) 33 23)) v1) 52 (ix (zI (mkH (uI (ciH σ) 33 49 (0 : Int32)) (ix (zI (ciH σ) 33 23)) v1) 33 23)))))))) 33 23) + (1 : Int32)) - (1 : Int32)))))
    (k2 : (isCa v1) → (¬ (cnF σ)) → Q (uI (ciH σ) 33 49 (2 : Int32)) (some (.int (0 : Int32))))
    (k3 : (¬ (isCa v1)) → Q (uI (ciH σ) 33 49 (1 : Int32)) (some (.int (0 : Int32)))) :
    V g mX12_issue (Em g mX12_issue Q X) CX 0 0 0 [(0, .ref 33), (1, .int v1)] [] σ := by
  refine V_aload_n dX12_issue_0 rfl ?_
  refine V_iload_n dX12_issue_1 rfl ?_
  refine V_callS1 (as := [.int v1]) (k' := 0) (n' := 0) (s_X12_isCarrier) mw_X12_isCarrier w_1251 w_1250 ar_X12_isCarrier rfl ⟨rfl, rfl, rfl, rfl, rfl⟩ dX12_issue_2 ?_
  refine V_aload_n dX12_issue_5 rfl ?_
  refine V_callV1 (as := []) (k' := 0) (n' := 0) (s_X12_canIssue hS o1 o2) mw_X12_canIssue ko_X12 rfl w_1320 w_29 w_1318 ar_X12_canIssue rfl ⟨rfl, rfl, rfl, rfl, rfl⟩ dX12_issue_6 (by decide) (shk hS 33 rfl) ?_
  refine V_iconst (1 : Int32) dX12_issue_9 (by decide) ?_
  by_cases c1 : isCa v1
  · refine V_cast (st' := [.int (1 : Int32), .int (pj (cnF σ)), .int (1 : Int32), .ref 33]) rfl (by rw [jb_t c1]) rfl ?_
    by_cases c2 : cnF σ
    · refine V_cast (st' := [.int (1 : Int32), .int (1 : Int32), .int (1 : Int32), .ref 33]) rfl (by rw [pj_t c2]) rfl ?_
      refine V_callV1 (as := [.int (1 : Int32), .int (1 : Int32), .int (1 : Int32)]) (k' := 0) (n' := 0) (s_goes0 (Sh_ciH hS)) mw_X12_goes ko_X12 rfl w_1223 w_20 w_1221 ar_X12_goes rfl ⟨rfl, rfl, rfl, rfl, rfl⟩ dX12_issue_10 (by decide) (shk (Sh_ciH hS) 33 rfl) ?_
      refine V_if_ne 18 dX12_issue_13 rfl (fun _ => ?_) (fun z_ => (by first | exact absurd (by decide) z_ | exact absurd z_ (by decide)))
      refine V_aload_n dX12_issue_18 rfl ?_
      refine V_aload_n dX12_issue_19 rfl ?_
      refine V_getf (fk := 23) (Value.int (zI (ciH σ) 33 23)) ko_X12 rfl w_1078 dX12_issue_20 (by decide) (shk (Sh_uI (Sh_ciH hS)) 33 rfl) (congrArg Value.int (zI_oth _ _ _ _ _ _ (by decide))) ?_
      refine V_iload_n dX12_issue_23 rfl ?_
      refine V_callV0 (as := [.int (zI (ciH σ) 33 23), .int v1]) (k' := 0) (n' := 0) (s_X12_makes (Sh_uI (Sh_ciH hS)) (o3 c1 c2) (o4 c1 c2) (o5 c1 c2) (o6 c1 c2) (o7 c1 c2)) mw_X12_makes ko_X12 rfl w_1324 w_30 w_1322 ar_X12_makes rfl ⟨rfl, rfl, rfl, rfl, rfl⟩ dX12_issue_24 (by decide) (shk (Sh_uI (Sh_ciH hS)) 33 rfl) ?_
      refine V_aload_n dX12_issue_27 rfl ?_
      refine V_iload_n dX12_issue_28 rfl ?_
      refine V_aload_n dX12_issue_29 rfl ?_
      refine V_getf (fk := 24) (Value.ref 50) ko_X12 rfl w_1079 dX12_issue_30 (by decide) (shk (Sh_mkH (Sh_uI (Sh_ciH hS))) 33 rfl) (congrArg Value.ref (shr (Sh_mkH (Sh_uI (Sh_ciH hS))) 33 24 50 (by decide))) ?_
      refine V_aload_n dX12_issue_33 rfl ?_
      refine V_getf (fk := 23) (Value.int (zI (mkH (uI (ciH σ) 33 49 (0 : Int32)) (ix (zI (ciH σ) 33 23)) v1) 33 23)) ko_X12 rfl w_1078 dX12_issue_34 (by decide) (shk (Sh_mkH (Sh_uI (Sh_ciH hS))) 33 rfl) rfl ?_
      refine V_iald dX12_issue_37 (by decide) (shk (Sh_mkH (Sh_uI (Sh_ciH hS))) 50 rfl) (vp_l (n := 30) (shl (Sh_mkH (Sh_uI (Sh_ciH hS))) 50 rfl) (o8 c1 c2)) ?_
      refine V_aload_n dX12_issue_38 rfl ?_
      refine V_aload_n dX12_issue_39 rfl ?_
      refine V_getf (fk := 23) (Value.int (zI (mkH (uI (ciH σ) 33 49 (0 : Int32)) (ix (zI (ciH σ) 33 23)) v1) 33 23)) ko_X12 rfl w_1078 dX12_issue_40 (by decide) (shk (Sh_mkH (Sh_uI (Sh_ciH hS))) 33 rfl) rfl ?_
      refine V_callV1 (as := [.int (zI (mkH (uI (ciH σ) 33 49 (0 : Int32)) (ix (zI (ciH σ) 33 23)) v1) 33 23)]) (k' := 0) (n' := 0) (s_X12_taxes (Sh_mkH (Sh_uI (Sh_ciH hS))) (o8 c1 c2) (o9 c1 c2)) mw_X12_taxes ko_X12 rfl w_1340 w_34 w_1338 ar_X12_taxes rfl ⟨rfl, rfl, rfl, rfl, rfl⟩ dX12_issue_43 (by decide) (shk (Sh_mkH (Sh_uI (Sh_ciH hS))) 33 rfl) ?_
      refine V_iadd dX12_issue_46 ?_
      refine V_callV0 (as := [.int v1, .int ((zI (mkH (uI (ciH σ) 33 49 (0 : Int32)) (ix (zI (ciH σ) 33 23)) v1) 50 (Int32.toNatClampNeg (zI (mkH (uI (ciH σ) 33 49 (0 : Int32)) (ix (zI (ciH σ) 33 23)) v1) 33 23))) + (smI (fun k => zI (mkH (uI (ciH σ) 33 49 (0 : Int32)) (ix (zI (ciH σ) 33 23)) v1) 57 (8 * ix (zI (mkH (uI (ciH σ) 33 49 (0 : Int32)) (ix (zI (ciH σ) 33 23)) v1) 33 23) + k)) (ix (zI (mkH (uI (ciH σ) 33 49 (0 : Int32)) (ix (zI (ciH σ) 33 23)) v1) 52 (ix (zI (mkH (uI (ciH σ) 33 49 (0 : Int32)) (ix (zI (ciH σ) 33 23)) v1) 33 23))))))]) (k' := 0) (n' := 0) (s_X12_buys (Sh_mkH (Sh_uI (Sh_ciH hS))) (o10 c1 c2)) mw_X12_buys ko_X12 rfl w_1344 w_35 w_1342 ar_X12_buys rfl ⟨rfl, rfl, rfl, rfl, rfl⟩ dX12_issue_47 (by decide) (shk (Sh_mkH (Sh_uI (Sh_ciH hS))) 33 rfl) ?_
      refine V_aload_n dX12_issue_50 rfl ?_
      refine V_dup dX12_issue_51 rfl ?_
      refine V_getf (fk := 23) (Value.int (zI (uJ (uJ (mkH (uI (ciH σ) 33 49 (0 : Int32)) (ix (zI (ciH σ) 33 23)) v1) 70 (ix v1) (zJ (mkH (uI (ciH σ) 33 49 (0 : Int32)) (ix (zI (ciH σ) 33 23)) v1) 70 (ix v1) + Int32.toInt64 ((zI (mkH (uI (ciH σ) 33 49 (0 : Int32)) (ix (zI (ciH σ) 33 23)) v1) 50 (Int32.toNatClampNeg (zI (mkH (uI (ciH σ) 33 49 (0 : Int32)) (ix (zI (ciH σ) 33 23)) v1) 33 23))) + (smI (fun k => zI (mkH (uI (ciH σ) 33 49 (0 : Int32)) (ix (zI (ciH σ) 33 23)) v1) 57 (8 * ix (zI (mkH (uI (ciH σ) 33 49 (0 : Int32)) (ix (zI (ciH σ) 33 23)) v1) 33 23) + k)) (ix (zI (mkH (uI (ciH σ) 33 49 (0 : Int32)) (ix (zI (ciH σ) 33 23)) v1) 52 (ix (zI (mkH (uI (ciH σ) 33 49 (0 : Int32)) (ix (zI (ciH σ) 33 23)) v1) 33 23)))))))) 33 48 (zJ (mkH (uI (ciH σ) 33 49 (0 : Int32)) (ix (zI (ciH σ) 33 23)) v1) 33 48 + Int32.toInt64 ((zI (mkH (uI (ciH σ) 33 49 (0 : Int32)) (ix (zI (ciH σ) 33 23)) v1) 50 (Int32.toNatClampNeg (zI (mkH (uI (ciH σ) 33 49 (0 : Int32)) (ix (zI (ciH σ) 33 23)) v1) 33 23))) + (smI (fun k => zI (mkH (uI (ciH σ) 33 49 (0 : Int32)) (ix (zI (ciH σ) 33 23)) v1) 57 (8 * ix (zI (mkH (uI (ciH σ) 33 49 (0 : Int32)) (ix (zI (ciH σ) 33 23)) v1) 33 23) + k)) (ix (zI (mkH (uI (ciH σ) 33 49 (0 : Int32)) (ix (zI (ciH σ) 33 23)) v1) 52 (ix (zI (mkH (uI (ciH σ) 33 49 (0 : Int32)) (ix (zI (ciH σ) 33 23)) v1) 33 23)))))))) 33 23)) ko_X12 rfl w_1078 dX12_issue_52 (by decide) (shk (Sh_uJ (Sh_uJ (Sh_mkH (Sh_uI (Sh_ciH hS))))) 33 rfl) rfl ?_
      refine V_iconst (1 : Int32) dX12_issue_55 (by decide) ?_
      refine V_iadd dX12_issue_56 ?_
      refine V_puti (fk := 23) ko_X12 rfl w_1078 (Or.inl rfl) dX12_issue_57 rfl (by decide) (shk (Sh_uJ (Sh_uJ (Sh_mkH (Sh_uI (Sh_ciH hS))))) 33 rfl) ?_
      refine V_aload_n dX12_issue_60 rfl ?_
      refine V_getf (fk := 23) (Value.int ((zI (uJ (uJ (mkH (uI (ciH σ) 33 49 (0 : Int32)) (ix (zI (ciH σ) 33 23)) v1) 70 (ix v1) (zJ (mkH (uI (ciH σ) 33 49 (0 : Int32)) (ix (zI (ciH σ) 33 23)) v1) 70 (ix v1) + Int32.toInt64 ((zI (mkH (uI (ciH σ) 33 49 (0 : Int32)) (ix (zI (ciH σ) 33 23)) v1) 50 (Int32.toNatClampNeg (zI (mkH (uI (ciH σ) 33 49 (0 : Int32)) (ix (zI (ciH σ) 33 23)) v1) 33 23))) + (smI (fun k => zI (mkH (uI (ciH σ) 33 49 (0 : Int32)) (ix (zI (ciH σ) 33 23)) v1) 57 (8 * ix (zI (mkH (uI (ciH σ) 33 49 (0 : Int32)) (ix (zI (ciH σ) 33 23)) v1) 33 23) + k)) (ix (zI (mkH (uI (ciH σ) 33 49 (0 : Int32)) (ix (zI (ciH σ) 33 23)) v1) 52 (ix (zI (mkH (uI (ciH σ) 33 49 (0 : Int32)) (ix (zI (ciH σ) 33 23)) v1) 33 23)))))))) 33 48 (zJ (mkH (uI (ciH σ) 33 49 (0 : Int32)) (ix (zI (ciH σ) 33 23)) v1) 33 48 + Int32.toInt64 ((zI (mkH (uI (ciH σ) 33 49 (0 : Int32)) (ix (zI (ciH σ) 33 23)) v1) 50 (Int32.toNatClampNeg (zI (mkH (uI (ciH σ) 33 49 (0 : Int32)) (ix (zI (ciH σ) 33 23)) v1) 33 23))) + (smI (fun k => zI (mkH (uI (ciH σ) 33 49 (0 : Int32)) (ix (zI (ciH σ) 33 23)) v1) 57 (8 * ix (zI (mkH (uI (ciH σ) 33 49 (0 : Int32)) (ix (zI (ciH σ) 33 23)) v1) 33 23) + k)) (ix (zI (mkH (uI (ciH σ) 33 49 (0 : Int32)) (ix (zI (ciH σ) 33 23)) v1) 52 (ix (zI (mkH (uI (ciH σ) 33 49 (0 : Int32)) (ix (zI (ciH σ) 33 23)) v1) 33 23)))))))) 33 23) + (1 : Int32))) ko_X12 rfl w_1078 dX12_issue_61 (by decide) (shk (Sh_uI (Sh_uJ (Sh_uJ (Sh_mkH (Sh_uI (Sh_ciH hS)))))) 33 rfl) (congrArg Value.int (zI_self _ _ _ _)) ?_
      refine V_iconst (1 : Int32) dX12_issue_64 (by decide) ?_
      refine V_isub dX12_issue_65 ?_
      exact V_iret rfl dX12_issue_66 (k1 c1 c2)
    · refine V_cast (st' := [.int (1 : Int32), .int (0 : Int32), .int (1 : Int32), .ref 33]) rfl (by rw [pj_f c2]) rfl ?_
      refine V_callV1 (as := [.int (1 : Int32), .int (0 : Int32), .int (1 : Int32)]) (k' := 0) (n' := 0) (s_goes2 (Sh_ciH hS)) mw_X12_goes ko_X12 rfl w_1223 w_20 w_1221 ar_X12_goes rfl ⟨rfl, rfl, rfl, rfl, rfl⟩ dX12_issue_10 (by decide) (shk (Sh_ciH hS) 33 rfl) ?_
      refine V_if_ne 18 dX12_issue_13 rfl (fun z_ => (by first | exact absurd (by decide) z_ | exact absurd z_ (by decide))) (fun _ => ?_)
      refine V_iconst (0 : Int32) dX12_issue_16 (by decide) ?_
      exact V_iret rfl dX12_issue_17 (k2 c1 c2)
  · refine V_cast (st' := [.int (1 : Int32), .int (pj (cnF σ)), .int (0 : Int32), .ref 33]) rfl (by rw [jb_f c1]) rfl ?_
    refine V_callV1 (as := [.int (0 : Int32), .int (pj (cnF σ)), .int (1 : Int32)]) (k' := 0) (n' := 0) (s_goes1 (Sh_ciH hS)) mw_X12_goes ko_X12 rfl w_1223 w_20 w_1221 ar_X12_goes rfl ⟨rfl, rfl, rfl, rfl, rfl⟩ dX12_issue_10 (by decide) (shk (Sh_ciH hS) 33 rfl) ?_
    refine V_if_ne 18 dX12_issue_13 rfl (fun z_ => (by first | exact absurd (by decide) z_ | exact absurd z_ (by decide))) (fun _ => ?_)
    refine V_iconst (0 : Int32) dX12_issue_16 (by decide) ?_
    exact V_iret rfl dX12_issue_17 (k3 c1)

set_option maxRecDepth 100000 in
set_option maxHeartbeats 4000000 in
theorem b_X12_endorse_0 {g : GP} {CX : State → Array Value → Prop} {Q : AH → Option Value → Prop} {X : AH → String → Prop} {v1 : Int32} {v2 : Int32} {v3 : Int32} {σ : AH}
    (hS : Sh σ)
    (o1 : vp_in (zI σ 33 23) 31)
    (k1 : (¬ ((isWi v1 0 ((zI σ 33 23) - 1)) ∧ (isWi v2 0 ((zI σ 52 (ix v1)) - 1)))) → Q (uI σ 33 49 (1 : Int32)) (some (.int (0 : Int32))))
    (k2 : ((isWi v1 0 ((zI σ 33 23) - 1)) ∧ (isWi v2 0 ((zI σ 52 (ix v1)) - 1))) → (¬ (isCa v3)) → Q (uI σ 33 49 (1 : Int32)) (some (.int (0 : Int32))))
    (o2 : ((isWi v1 0 ((zI σ 33 23) - 1)) ∧ (isWi v2 0 ((zI σ 52 (ix v1)) - 1))) → (isCa v3) → vp_in (((8 : Int32) * v1) + v2) 240)
    (k3 : ((isWi v1 0 ((zI σ 33 23) - 1)) ∧ (isWi v2 0 ((zI σ 52 (ix v1)) - 1))) → (isCa v3) → (¬ (zI σ 55 (Int32.toNatClampNeg (((8 : Int32) * v1) + v2))) = 0) → Q (uI σ 33 49 (2 : Int32)) (some (.int (0 : Int32))))
    (k4 : ((isWi v1 0 ((zI σ 33 23) - 1)) ∧ (isWi v2 0 ((zI σ 52 (ix v1)) - 1))) → (isCa v3) → ((zI σ 55 (Int32.toNatClampNeg (((8 : Int32) * v1) + v2))) = 0) → ((zI σ 58 (Int32.toNatClampNeg (((8 : Int32) * v1) + v2))) = v3) → Q (uI σ 33 49 (2 : Int32)) (some (.int (0 : Int32))))
    (k5 : ((isWi v1 0 ((zI σ 33 23) - 1)) ∧ (isWi v2 0 ((zI σ 52 (ix v1)) - 1))) → (isCa v3) → ((zI σ 55 (Int32.toNatClampNeg (((8 : Int32) * v1) + v2))) = 0) → (¬ (zI σ 58 (Int32.toNatClampNeg (((8 : Int32) * v1) + v2))) = v3) → Q (uI (uI σ 33 49 (0 : Int32)) 58 (Int32.toNatClampNeg (((8 : Int32) * v1) + v2)) v3) (some (.int (zI σ 58 (Int32.toNatClampNeg (((8 : Int32) * v1) + v2)))))) :
    V g mX12_endorse (Em g mX12_endorse Q X) CX 0 0 0 [(0, .ref 33), (1, .int v1), (2, .int v2), (3, .int v3)] [] σ := by
  refine V_aload_n dX12_endorse_0 rfl ?_
  refine V_iload_n dX12_endorse_1 rfl ?_
  refine V_iload_n dX12_endorse_2 rfl ?_
  refine V_callV1 (as := [.int v1, .int v2]) (k' := 0) (n' := 0) (s_X12_isCoupon hS o1) mw_X12_isCoupon ko_X12 rfl w_1352 w_36 w_1350 ar_X12_isCoupon rfl ⟨rfl, rfl, rfl, rfl, rfl⟩ dX12_endorse_3 (by decide) (shk hS 33 rfl) ?_
  refine V_if_eq 20 dX12_endorse_6 rfl (fun c1 => ?_) (fun c1 => ?_)
  · replace c1 := jb_0.mp c1
    refine V_iconst (0 : Int32) dX12_endorse_20 (by decide) ?_
    refine V_istore [(0, .ref 33), (1, .int v1), (2, .int v2), (3, .int v3), (4, .int (0 : Int32))] dX12_endorse_21 rfl rfl ?_
    refine V_iload dX12_endorse_23 rfl ?_
    refine V_if_eq 37 dX12_endorse_25 rfl (fun _ => ?_) (fun z_ => (by first | exact absurd (by decide) z_ | exact absurd z_ (by decide)))
    refine V_iconst (0 : Int32) dX12_endorse_37 (by decide) ?_
    refine V_istore [(0, .ref 33), (1, .int v1), (2, .int v2), (3, .int v3), (4, .int (0 : Int32)), (5, .int (0 : Int32))] dX12_endorse_38 rfl rfl ?_
    refine V_aload_n dX12_endorse_40 rfl ?_
    refine V_iload dX12_endorse_41 rfl ?_
    refine V_iload dX12_endorse_43 rfl ?_
    refine V_if_eq 73 dX12_endorse_45 rfl (fun _ => ?_) (fun z_ => (by first | exact absurd (by decide) z_ | exact absurd z_ (by decide)))
    refine V_iconst (0 : Int32) dX12_endorse_73 (by decide) ?_
    refine V_iconst (1 : Int32) dX12_endorse_74 (by decide) ?_
    refine V_callV1 (as := [.int (0 : Int32), .int (0 : Int32), .int (1 : Int32)]) (k' := 0) (n' := 0) (s_goes1 hS) mw_X12_goes ko_X12 rfl w_1223 w_20 w_1221 ar_X12_goes rfl ⟨rfl, rfl, rfl, rfl, rfl⟩ dX12_endorse_75 (by decide) (shk hS 33 rfl) ?_
    refine V_if_ne 83 dX12_endorse_78 rfl (fun z_ => (by first | exact absurd (by decide) z_ | exact absurd z_ (by decide))) (fun _ => ?_)
    refine V_iconst (0 : Int32) dX12_endorse_81 (by decide) ?_
    exact V_iret rfl dX12_endorse_82 (k1 c1)
  · replace c1 := jb_n.mp c1
    refine V_iload_n dX12_endorse_9 rfl ?_
    refine V_callS1 (as := [.int v3]) (k' := 0) (n' := 0) (s_X12_isCarrier) mw_X12_isCarrier w_1251 w_1250 ar_X12_isCarrier rfl ⟨rfl, rfl, rfl, rfl, rfl⟩ dX12_endorse_10 ?_
    refine V_if_eq 20 dX12_endorse_13 rfl (fun c2 => ?_) (fun c2 => ?_)
    · replace c2 := jb_0.mp c2
      refine V_iconst (0 : Int32) dX12_endorse_20 (by decide) ?_
      refine V_istore [(0, .ref 33), (1, .int v1), (2, .int v2), (3, .int v3), (4, .int (0 : Int32))] dX12_endorse_21 rfl rfl ?_
      refine V_iload dX12_endorse_23 rfl ?_
      refine V_if_eq 37 dX12_endorse_25 rfl (fun _ => ?_) (fun z_ => (by first | exact absurd (by decide) z_ | exact absurd z_ (by decide)))
      refine V_iconst (0 : Int32) dX12_endorse_37 (by decide) ?_
      refine V_istore [(0, .ref 33), (1, .int v1), (2, .int v2), (3, .int v3), (4, .int (0 : Int32)), (5, .int (0 : Int32))] dX12_endorse_38 rfl rfl ?_
      refine V_aload_n dX12_endorse_40 rfl ?_
      refine V_iload dX12_endorse_41 rfl ?_
      refine V_iload dX12_endorse_43 rfl ?_
      refine V_if_eq 73 dX12_endorse_45 rfl (fun _ => ?_) (fun z_ => (by first | exact absurd (by decide) z_ | exact absurd z_ (by decide)))
      refine V_iconst (0 : Int32) dX12_endorse_73 (by decide) ?_
      refine V_iconst (1 : Int32) dX12_endorse_74 (by decide) ?_
      refine V_callV1 (as := [.int (0 : Int32), .int (0 : Int32), .int (1 : Int32)]) (k' := 0) (n' := 0) (s_goes1 hS) mw_X12_goes ko_X12 rfl w_1223 w_20 w_1221 ar_X12_goes rfl ⟨rfl, rfl, rfl, rfl, rfl⟩ dX12_endorse_75 (by decide) (shk hS 33 rfl) ?_
      refine V_if_ne 83 dX12_endorse_78 rfl (fun z_ => (by first | exact absurd (by decide) z_ | exact absurd z_ (by decide))) (fun _ => ?_)
      refine V_iconst (0 : Int32) dX12_endorse_81 (by decide) ?_
      exact V_iret rfl dX12_endorse_82 (k2 c1 c2)
    · replace c2 := jb_n.mp c2
      refine V_iconst (1 : Int32) dX12_endorse_16 (by decide) ?_
      refine V_goto 21 dX12_endorse_17 rfl ?_
      refine V_istore [(0, .ref 33), (1, .int v1), (2, .int v2), (3, .int v3), (4, .int (1 : Int32))] dX12_endorse_21 rfl rfl ?_
      refine V_iload dX12_endorse_23 rfl ?_
      refine V_if_eq 37 dX12_endorse_25 rfl (fun z_ => (by first | exact absurd (by decide) z_ | exact absurd z_ (by decide))) (fun _ => ?_)
      refine V_bipush (8 : Int32) dX12_endorse_28 (by decide) ?_
      refine V_iload_n dX12_endorse_30 rfl ?_
      refine V_imul dX12_endorse_31 ?_
      refine V_iload_n dX12_endorse_32 rfl ?_
      refine V_iadd dX12_endorse_33 ?_
      refine V_goto 38 dX12_endorse_34 rfl ?_
      refine V_istore [(0, .ref 33), (1, .int v1), (2, .int v2), (3, .int v3), (4, .int (1 : Int32)), (5, .int (((8 : Int32) * v1) + v2))] dX12_endorse_38 rfl rfl ?_
      refine V_aload_n dX12_endorse_40 rfl ?_
      refine V_iload dX12_endorse_41 rfl ?_
      refine V_iload dX12_endorse_43 rfl ?_
      refine V_if_eq 73 dX12_endorse_45 rfl (fun z_ => (by first | exact absurd (by decide) z_ | exact absurd z_ (by decide))) (fun _ => ?_)
      refine V_aload_n dX12_endorse_48 rfl ?_
      refine V_getf (fk := 29) (Value.ref 55) ko_X12 rfl w_1084 dX12_endorse_49 (by decide) (shk hS 33 rfl) (congrArg Value.ref (shr hS 33 29 55 (by decide))) ?_
      refine V_iload dX12_endorse_52 rfl ?_
      refine V_iald dX12_endorse_54 (by decide) (shk hS 55 rfl) (vp_l (n := 240) (shl hS 55 rfl) (o2 c1 c2)) ?_
      refine V_if_ne 73 dX12_endorse_55 rfl (fun c3 => ?_) (fun c3 => ?_)
      · refine V_iconst (0 : Int32) dX12_endorse_73 (by decide) ?_
        refine V_iconst (1 : Int32) dX12_endorse_74 (by decide) ?_
        refine V_callV1 (as := [.int (1 : Int32), .int (0 : Int32), .int (1 : Int32)]) (k' := 0) (n' := 0) (s_goes2 hS) mw_X12_goes ko_X12 rfl w_1223 w_20 w_1221 ar_X12_goes rfl ⟨rfl, rfl, rfl, rfl, rfl⟩ dX12_endorse_75 (by decide) (shk hS 33 rfl) ?_
        refine V_if_ne 83 dX12_endorse_78 rfl (fun z_ => (by first | exact absurd (by decide) z_ | exact absurd z_ (by decide))) (fun _ => ?_)
        refine V_iconst (0 : Int32) dX12_endorse_81 (by decide) ?_
        exact V_iret rfl dX12_endorse_82 (k3 c1 c2 c3)
      · refine V_aload_n dX12_endorse_58 rfl ?_
        refine V_getf (fk := 32) (Value.ref 58) ko_X12 rfl w_1087 dX12_endorse_59 (by decide) (shk hS 33 rfl) (congrArg Value.ref (shr hS 33 32 58 (by decide))) ?_
        refine V_iload dX12_endorse_62 rfl ?_
        refine V_iald dX12_endorse_64 (by decide) (shk hS 58 rfl) (vp_l (n := 240) (shl hS 58 rfl) (o2 c1 c2)) ?_
        refine V_iload_n dX12_endorse_65 rfl ?_
        refine V_icmp_eq 73 dX12_endorse_66 rfl (fun c4 => ?_) (fun c4 => ?_)
        · refine V_iconst (0 : Int32) dX12_endorse_73 (by decide) ?_
          refine V_iconst (1 : Int32) dX12_endorse_74 (by decide) ?_
          refine V_callV1 (as := [.int (1 : Int32), .int (0 : Int32), .int (1 : Int32)]) (k' := 0) (n' := 0) (s_goes2 hS) mw_X12_goes ko_X12 rfl w_1223 w_20 w_1221 ar_X12_goes rfl ⟨rfl, rfl, rfl, rfl, rfl⟩ dX12_endorse_75 (by decide) (shk hS 33 rfl) ?_
          refine V_if_ne 83 dX12_endorse_78 rfl (fun z_ => (by first | exact absurd (by decide) z_ | exact absurd z_ (by decide))) (fun _ => ?_)
          refine V_iconst (0 : Int32) dX12_endorse_81 (by decide) ?_
          exact V_iret rfl dX12_endorse_82 (k4 c1 c2 c3 c4)
        · refine V_iconst (1 : Int32) dX12_endorse_69 (by decide) ?_
          refine V_goto 74 dX12_endorse_70 rfl ?_
          refine V_iconst (1 : Int32) dX12_endorse_74 (by decide) ?_
          refine V_callV1 (as := [.int (1 : Int32), .int (1 : Int32), .int (1 : Int32)]) (k' := 0) (n' := 0) (s_goes0 hS) mw_X12_goes ko_X12 rfl w_1223 w_20 w_1221 ar_X12_goes rfl ⟨rfl, rfl, rfl, rfl, rfl⟩ dX12_endorse_75 (by decide) (shk hS 33 rfl) ?_
          refine V_if_ne 83 dX12_endorse_78 rfl (fun _ => ?_) (fun z_ => (by first | exact absurd (by decide) z_ | exact absurd z_ (by decide)))
          refine V_aload_n dX12_endorse_83 rfl ?_
          refine V_getf (fk := 32) (Value.ref 58) ko_X12 rfl w_1087 dX12_endorse_84 (by decide) (shk (Sh_uI hS) 33 rfl) (congrArg Value.ref (shr (Sh_uI hS) 33 32 58 (by decide))) ?_
          refine V_iload dX12_endorse_87 rfl ?_
          refine V_iald dX12_endorse_89 (by decide) (shk (Sh_uI hS) 58 rfl) (vp_l (n := 240) (shl (Sh_uI hS) 58 rfl) (o2 c1 c2)) ?_
          refine V_cast (st' := Value.int (zI σ 58 (Int32.toNatClampNeg (((8 : Int32) * v1) + v2))) :: []) rfl (congrArg (fun q_ => Value.int q_ :: []) (zI_oa _ _ _ _ _ _ (by decide))) rfl ?_
          refine V_istore [(0, .ref 33), (1, .int v1), (2, .int v2), (3, .int v3), (4, .int (1 : Int32)), (5, .int (((8 : Int32) * v1) + v2)), (6, .int (zI σ 58 (Int32.toNatClampNeg (((8 : Int32) * v1) + v2))))] dX12_endorse_90 rfl rfl ?_
          refine V_aload_n dX12_endorse_92 rfl ?_
          refine V_getf (fk := 32) (Value.ref 58) ko_X12 rfl w_1087 dX12_endorse_93 (by decide) (shk (Sh_uI hS) 33 rfl) (congrArg Value.ref (shr (Sh_uI hS) 33 32 58 (by decide))) ?_
          refine V_iload dX12_endorse_96 rfl ?_
          refine V_iload_n dX12_endorse_98 rfl ?_
          refine V_iast dX12_endorse_99 (by decide) (shk (Sh_uI hS) 58 rfl) (vp_l (n := 240) (shl (Sh_uI hS) 58 rfl) (o2 c1 c2)) ?_
          refine V_iload dX12_endorse_100 rfl ?_
          exact V_iret rfl dX12_endorse_102 (k5 c1 c2 c3 c4)

set_option maxRecDepth 100000 in
set_option maxHeartbeats 4000000 in
theorem b_X12_refund_0 {g : GP} {CX : State → Array Value → Prop} {Q : AH → Option Value → Prop} {X : AH → String → Prop} {v1 : Int32} {σ : AH}
    (hS : Sh σ)
    (k1 : (¬ (isWi v1 0 ((zI σ 33 23) - 1))) → (isWi v1 0 ((zI σ 33 23) - 1)) → Q (uI σ 33 49 (2 : Int32)) (some (.int (0 : Int32))))
    (k2 : (¬ (isWi v1 0 ((zI σ 33 23) - 1))) → (¬ (isWi v1 0 ((zI σ 33 23) - 1))) → Q (uI σ 33 49 (1 : Int32)) (some (.int (0 : Int32))))
    (o1 : (isWi v1 0 ((zI σ 33 23) - 1)) → vp_in v1 30)
    (o2 : (isWi v1 0 ((zI σ 33 23) - 1)) → vp_in (zI σ 52 (ix v1)) 9)
    (k3 : (isWi v1 0 ((zI σ 33 23) - 1)) → (¬ (opF σ (8 * ix v1) (ix (zI σ 52 (ix v1))))) → (isWi v1 0 ((zI σ 33 23) - 1)) → Q (uI σ 33 49 (2 : Int32)) (some (.int (0 : Int32))))
    (k4 : (isWi v1 0 ((zI σ 33 23) - 1)) → (¬ (opF σ (8 * ix v1) (ix (zI σ 52 (ix v1))))) → (¬ (isWi v1 0 ((zI σ 33 23) - 1))) → Q (uI σ 33 49 (1 : Int32)) (some (.int (0 : Int32))))
    (o3 : (isWi v1 0 ((zI σ 33 23) - 1)) → (opF σ (8 * ix v1) (ix (zI σ 52 (ix v1)))) → (isWi v1 0 ((zI σ 33 23) - 1)) → vp_in (zI (uI σ 33 49 (0 : Int32)) 52 (ix v1)) 9)
    (o4 : (isWi v1 0 ((zI σ 33 23) - 1)) → (opF σ (8 * ix v1) (ix (zI σ 52 (ix v1)))) → (isWi v1 0 ((zI σ 33 23) - 1)) → vp_in (zI (trH (uI σ 33 49 (0 : Int32)) (8 * ix v1) (3 : Int32) (ix (zI (uI σ 33 49 (0 : Int32)) 52 (ix v1)))) 51 (Int32.toNatClampNeg v1)) 5)
    (k5 : (isWi v1 0 ((zI σ 33 23) - 1)) → (opF σ (8 * ix v1) (ix (zI σ 52 (ix v1)))) → (isWi v1 0 ((zI σ 33 23) - 1)) → Q (uJ (uJ (trH (uI σ 33 49 (0 : Int32)) (8 * ix v1) (3 : Int32) (ix (zI (uI σ 33 49 (0 : Int32)) 52 (ix v1)))) 70 (ix (zI (trH (uI σ 33 49 (0 : Int32)) (8 * ix v1) (3 : Int32) (ix (zI (uI σ 33 49 (0 : Int32)) 52 (ix v1)))) 51 (Int32.toNatClampNeg v1))) (zJ (trH (uI σ 33 49 (0 : Int32)) (8 * ix v1) (3 : Int32) (ix (zI (uI σ 33 49 (0 : Int32)) 52 (ix v1)))) 70 (ix (zI (trH (uI σ 33 49 (0 : Int32)) (8 * ix v1) (3 : Int32) (ix (zI (uI σ 33 49 (0 : Int32)) 52 (ix v1)))) 51 (Int32.toNatClampNeg v1))) + Int32.toInt64 (-(((smI (ooF (uI σ 33 49 (0 : Int32)) (8 * ix v1) (0 : Int32)) (ix (zI (uI σ 33 49 (0 : Int32)) 52 (ix v1)))) - (Int64.toInt32 ((((Int32.toInt64 (smI (ooF (uI σ 33 49 (0 : Int32)) (8 * ix v1) (0 : Int32)) (ix (zI (uI σ 33 49 (0 : Int32)) 52 (ix v1))))) * (Int32.toInt64 (zI σ 33 15))) + (99 : Int64)) / (100 : Int64)))) + (smI (ooF (uI σ 33 49 (0 : Int32)) (8 * ix v1) (1 : Int32)) (ix (zI (uI σ 33 49 (0 : Int32)) 52 (ix v1)))))))) 33 48 (zJ (trH (uI σ 33 49 (0 : Int32)) (8 * ix v1) (3 : Int32) (ix (zI (uI σ 33 49 (0 : Int32)) 52 (ix v1)))) 33 48 + Int32.toInt64 (-(((smI (ooF (uI σ 33 49 (0 : Int32)) (8 * ix v1) (0 : Int32)) (ix (zI (uI σ 33 49 (0 : Int32)) 52 (ix v1)))) - (Int64.toInt32 ((((Int32.toInt64 (smI (ooF (uI σ 33 49 (0 : Int32)) (8 * ix v1) (0 : Int32)) (ix (zI (uI σ 33 49 (0 : Int32)) 52 (ix v1))))) * (Int32.toInt64 (zI σ 33 15))) + (99 : Int64)) / (100 : Int64)))) + (smI (ooF (uI σ 33 49 (0 : Int32)) (8 * ix v1) (1 : Int32)) (ix (zI (uI σ 33 49 (0 : Int32)) 52 (ix v1)))))))) (some (.int (((smI (ooF (uI σ 33 49 (0 : Int32)) (8 * ix v1) (0 : Int32)) (ix (zI (uI σ 33 49 (0 : Int32)) 52 (ix v1)))) - (Int64.toInt32 ((((Int32.toInt64 (smI (ooF (uI σ 33 49 (0 : Int32)) (8 * ix v1) (0 : Int32)) (ix (zI (uI σ 33 49 (0 : Int32)) 52 (ix v1))))) * (Int32.toInt64 (zI σ 33 15))) + (99 : Int64)) / (100 : Int64)))) + (smI (ooF (uI σ 33 49 (0 : Int32)) (8 * ix v1) (1 : Int32)) (ix (zI (uI σ 33 49 (0 : Int32)) 52 (ix v1))))))))
    (k6 : (isWi v1 0 ((zI σ 33 23) - 1)) → (opF σ (8 * ix v1) (ix (zI σ 52 (ix v1)))) → (¬ (isWi v1 0 ((zI σ 33 23) - 1))) → Q (uI σ 33 49 (1 : Int32)) (some (.int (0 : Int32)))) :
    V g mX12_refund (Em g mX12_refund Q X) CX 0 0 0 [(0, .ref 33), (1, .int v1)] [] σ := by
  refine V_aload_n dX12_refund_0 rfl ?_
  refine V_iload_n dX12_refund_1 rfl ?_
  refine V_callV1 (as := [.int v1]) (k' := 0) (n' := 0) (s_X12_isTicket hS) mw_X12_isTicket ko_X12 rfl w_1356 w_37 w_1354 ar_X12_isTicket rfl ⟨rfl, rfl, rfl, rfl, rfl⟩ dX12_refund_2 (by decide) (shk hS 33 rfl) ?_
  refine V_istore_n [(0, .ref 33), (1, .int v1), (2, .int (jb (isWi v1 0 ((zI σ 33 23) - 1))))] dX12_refund_5 rfl rfl ?_
  refine V_aload_n dX12_refund_6 rfl ?_
  refine V_iload_n dX12_refund_7 rfl ?_
  refine V_iload_n dX12_refund_8 rfl ?_
  refine V_if_eq 32 dX12_refund_9 rfl (fun c1 => ?_) (fun c1 => ?_)
  · replace c1 := jb_0.mp c1
    refine V_iconst (0 : Int32) dX12_refund_32 (by decide) ?_
    refine V_iconst (1 : Int32) dX12_refund_33 (by decide) ?_
    by_cases c2 : isWi v1 0 ((zI σ 33 23) - 1)
    · refine V_cast (st' := [.int (1 : Int32), .int (0 : Int32), .int (1 : Int32), .ref 33]) rfl (by rw [jb_t c2]) rfl ?_
      refine V_callV1 (as := [.int (1 : Int32), .int (0 : Int32), .int (1 : Int32)]) (k' := 0) (n' := 0) (s_goes2 hS) mw_X12_goes ko_X12 rfl w_1223 w_20 w_1221 ar_X12_goes rfl ⟨rfl, rfl, rfl, rfl, rfl⟩ dX12_refund_34 (by decide) (shk hS 33 rfl) ?_
      refine V_if_ne 42 dX12_refund_37 rfl (fun z_ => (by first | exact absurd (by decide) z_ | exact absurd z_ (by decide))) (fun _ => ?_)
      refine V_iconst (0 : Int32) dX12_refund_40 (by decide) ?_
      exact V_iret rfl dX12_refund_41 (k1 c1 c2)
    · refine V_cast (st' := [.int (1 : Int32), .int (0 : Int32), .int (0 : Int32), .ref 33]) rfl (by rw [jb_f c2]) rfl ?_
      refine V_callV1 (as := [.int (0 : Int32), .int (0 : Int32), .int (1 : Int32)]) (k' := 0) (n' := 0) (s_goes1 hS) mw_X12_goes ko_X12 rfl w_1223 w_20 w_1221 ar_X12_goes rfl ⟨rfl, rfl, rfl, rfl, rfl⟩ dX12_refund_34 (by decide) (shk hS 33 rfl) ?_
      refine V_if_ne 42 dX12_refund_37 rfl (fun z_ => (by first | exact absurd (by decide) z_ | exact absurd z_ (by decide))) (fun _ => ?_)
      refine V_iconst (0 : Int32) dX12_refund_40 (by decide) ?_
      exact V_iret rfl dX12_refund_41 (k2 c1 c2)
  · replace c1 := jb_n.mp c1
    refine V_aload_n dX12_refund_12 rfl ?_
    refine V_iload_n dX12_refund_13 rfl ?_
    refine V_if_eq 21 dX12_refund_14 rfl (fun z_ => (by have y_ := jb_0.mp z_; first | exact absurd (c1) y_ | exact absurd y_ (c1))) (fun _ => ?_)
    refine V_iload_n dX12_refund_17 rfl ?_
    refine V_goto 22 dX12_refund_18 rfl ?_
    refine V_callV1 (as := [.int v1]) (k' := 0) (n' := 0) (s_X12_hasOpen hS (o1 c1) (o2 c1)) mw_X12_hasOpen ko_X12 rfl w_1368 w_38 w_1366 ar_X12_hasOpen rfl ⟨rfl, rfl, rfl, rfl, rfl⟩ dX12_refund_22 (by decide) (shk hS 33 rfl) ?_
    refine V_if_eq 32 dX12_refund_25 rfl (fun c4 => ?_) (fun c4 => ?_)
    · replace c4 := pj_0.mp c4
      refine V_iconst (0 : Int32) dX12_refund_32 (by decide) ?_
      refine V_iconst (1 : Int32) dX12_refund_33 (by decide) ?_
      by_cases c5 : isWi v1 0 ((zI σ 33 23) - 1)
      · refine V_cast (st' := [.int (1 : Int32), .int (0 : Int32), .int (1 : Int32), .ref 33]) rfl (by rw [jb_t c5]) rfl ?_
        refine V_callV1 (as := [.int (1 : Int32), .int (0 : Int32), .int (1 : Int32)]) (k' := 0) (n' := 0) (s_goes2 hS) mw_X12_goes ko_X12 rfl w_1223 w_20 w_1221 ar_X12_goes rfl ⟨rfl, rfl, rfl, rfl, rfl⟩ dX12_refund_34 (by decide) (shk hS 33 rfl) ?_
        refine V_if_ne 42 dX12_refund_37 rfl (fun z_ => (by first | exact absurd (by decide) z_ | exact absurd z_ (by decide))) (fun _ => ?_)
        refine V_iconst (0 : Int32) dX12_refund_40 (by decide) ?_
        exact V_iret rfl dX12_refund_41 (k3 c1 c4 c5)
      · refine V_cast (st' := [.int (1 : Int32), .int (0 : Int32), .int (0 : Int32), .ref 33]) rfl (by rw [jb_f c5]) rfl ?_
        refine V_callV1 (as := [.int (0 : Int32), .int (0 : Int32), .int (1 : Int32)]) (k' := 0) (n' := 0) (s_goes1 hS) mw_X12_goes ko_X12 rfl w_1223 w_20 w_1221 ar_X12_goes rfl ⟨rfl, rfl, rfl, rfl, rfl⟩ dX12_refund_34 (by decide) (shk hS 33 rfl) ?_
        refine V_if_ne 42 dX12_refund_37 rfl (fun z_ => (by first | exact absurd (by decide) z_ | exact absurd z_ (by decide))) (fun _ => ?_)
        refine V_iconst (0 : Int32) dX12_refund_40 (by decide) ?_
        exact V_iret rfl dX12_refund_41 (k4 c1 c4 c5)
    · replace c4 := pj_n.mp c4
      refine V_iconst (1 : Int32) dX12_refund_28 (by decide) ?_
      refine V_goto 33 dX12_refund_29 rfl ?_
      refine V_iconst (1 : Int32) dX12_refund_33 (by decide) ?_
      by_cases c6 : isWi v1 0 ((zI σ 33 23) - 1)
      · refine V_cast (st' := [.int (1 : Int32), .int (1 : Int32), .int (1 : Int32), .ref 33]) rfl (by rw [jb_t c6]) rfl ?_
        refine V_callV1 (as := [.int (1 : Int32), .int (1 : Int32), .int (1 : Int32)]) (k' := 0) (n' := 0) (s_goes0 hS) mw_X12_goes ko_X12 rfl w_1223 w_20 w_1221 ar_X12_goes rfl ⟨rfl, rfl, rfl, rfl, rfl⟩ dX12_refund_34 (by decide) (shk hS 33 rfl) ?_
        refine V_if_ne 42 dX12_refund_37 rfl (fun _ => ?_) (fun z_ => (by first | exact absurd (by decide) z_ | exact absurd z_ (by decide)))
        refine V_aload_n dX12_refund_42 rfl ?_
        refine V_iload_n dX12_refund_43 rfl ?_
        refine V_iconst (0 : Int32) dX12_refund_44 (by decide) ?_
        refine V_callV1 (as := [.int v1, .int (0 : Int32)]) (k' := 0) (n' := 0) (s_X12_openOnes (Sh_uI hS) (o1 c1) (o3 c1 c4 c6)) mw_X12_openOnes ko_X12 rfl w_1372 w_39 w_1370 ar_X12_openOnes rfl ⟨rfl, rfl, rfl, rfl, rfl⟩ dX12_refund_45 (by decide) (shk (Sh_uI hS) 33 rfl) ?_
        refine V_istore_n [(0, .ref 33), (1, .int v1), (2, .int (jb (isWi v1 0 ((zI σ 33 23) - 1)))), (3, .int (smI (ooF (uI σ 33 49 (0 : Int32)) (8 * ix v1) (0 : Int32)) (ix (zI (uI σ 33 49 (0 : Int32)) 52 (ix v1)))))] dX12_refund_48 rfl rfl ?_
        refine V_iload_n dX12_refund_49 rfl ?_
        refine V_i2l dX12_refund_50 ?_
        refine V_aload_n dX12_refund_51 rfl ?_
        refine V_getf (fk := 15) (Value.int (zI σ 33 15)) ko_X12 rfl w_1070 dX12_refund_52 (by decide) (shk (Sh_uI hS) 33 rfl) (congrArg Value.int (zI_oth _ _ _ _ _ _ (by decide))) ?_
        refine V_i2l dX12_refund_55 ?_
        refine V_lmul dX12_refund_56 ?_
        refine V_ldc2 (v := (99 : Int64)) w_1374 dX12_refund_57 ?_
        refine V_ladd dX12_refund_60 ?_
        refine V_ldc2 (v := (100 : Int64)) w_1375 dX12_refund_61 ?_
        refine V_ldiv dX12_refund_64 (by decide) ?_
        refine V_l2i dX12_refund_65 ?_
        refine V_istore [(0, .ref 33), (1, .int v1), (2, .int (jb (isWi v1 0 ((zI σ 33 23) - 1)))), (3, .int (smI (ooF (uI σ 33 49 (0 : Int32)) (8 * ix v1) (0 : Int32)) (ix (zI (uI σ 33 49 (0 : Int32)) 52 (ix v1))))), (4, .int (Int64.toInt32 ((((Int32.toInt64 (smI (ooF (uI σ 33 49 (0 : Int32)) (8 * ix v1) (0 : Int32)) (ix (zI (uI σ 33 49 (0 : Int32)) 52 (ix v1))))) * (Int32.toInt64 (zI σ 33 15))) + (99 : Int64)) / (100 : Int64))))] dX12_refund_66 rfl rfl ?_
        refine V_iload_n dX12_refund_68 rfl ?_
        refine V_iload dX12_refund_69 rfl ?_
        refine V_isub dX12_refund_71 ?_
        refine V_aload_n dX12_refund_72 rfl ?_
        refine V_iload_n dX12_refund_73 rfl ?_
        refine V_iconst (1 : Int32) dX12_refund_74 (by decide) ?_
        refine V_callV1 (as := [.int v1, .int (1 : Int32)]) (k' := 0) (n' := 0) (s_X12_openOnes (Sh_uI hS) (o1 c1) (o3 c1 c4 c6)) mw_X12_openOnes ko_X12 rfl w_1372 w_39 w_1370 ar_X12_openOnes rfl ⟨rfl, rfl, rfl, rfl, rfl⟩ dX12_refund_75 (by decide) (shk (Sh_uI hS) 33 rfl) ?_
        refine V_iadd dX12_refund_78 ?_
        refine V_istore [(0, .ref 33), (1, .int v1), (2, .int (jb (isWi v1 0 ((zI σ 33 23) - 1)))), (3, .int (smI (ooF (uI σ 33 49 (0 : Int32)) (8 * ix v1) (0 : Int32)) (ix (zI (uI σ 33 49 (0 : Int32)) 52 (ix v1))))), (4, .int (Int64.toInt32 ((((Int32.toInt64 (smI (ooF (uI σ 33 49 (0 : Int32)) (8 * ix v1) (0 : Int32)) (ix (zI (uI σ 33 49 (0 : Int32)) 52 (ix v1))))) * (Int32.toInt64 (zI σ 33 15))) + (99 : Int64)) / (100 : Int64)))), (5, .int (((smI (ooF (uI σ 33 49 (0 : Int32)) (8 * ix v1) (0 : Int32)) (ix (zI (uI σ 33 49 (0 : Int32)) 52 (ix v1)))) - (Int64.toInt32 ((((Int32.toInt64 (smI (ooF (uI σ 33 49 (0 : Int32)) (8 * ix v1) (0 : Int32)) (ix (zI (uI σ 33 49 (0 : Int32)) 52 (ix v1))))) * (Int32.toInt64 (zI σ 33 15))) + (99 : Int64)) / (100 : Int64)))) + (smI (ooF (uI σ 33 49 (0 : Int32)) (8 * ix v1) (1 : Int32)) (ix (zI (uI σ 33 49 (0 : Int32)) 52 (ix v1))))))] dX12_refund_79 rfl rfl ?_
        refine V_aload_n dX12_refund_81 rfl ?_
        refine V_iload_n dX12_refund_82 rfl ?_
        refine V_iconst (3 : Int32) dX12_refund_83 (by decide) ?_
        refine V_callV0 (as := [.int v1, .int (3 : Int32)]) (k' := 0) (n' := 0) (s_X12_turns (Sh_uI hS) (o1 c1) (o3 c1 c4 c6)) mw_X12_turns ko_X12 rfl w_1378 w_40 w_1376 ar_X12_turns rfl ⟨rfl, rfl, rfl, rfl, rfl⟩ dX12_refund_84 (by decide) (shk (Sh_uI hS) 33 rfl) ?_
        refine V_aload_n dX12_refund_87 rfl ?_
        refine V_aload_n dX12_refund_88 rfl ?_
        refine V_getf (fk := 25) (Value.ref 51) ko_X12 rfl w_1080 dX12_refund_89 (by decide) (shk (Sh_trH (Sh_uI hS) _) 33 rfl) (congrArg Value.ref (shr (Sh_trH (Sh_uI hS) _) 33 25 51 (by decide))) ?_
        refine V_iload_n dX12_refund_92 rfl ?_
        refine V_iald dX12_refund_93 (by decide) (shk (Sh_trH (Sh_uI hS) _) 51 rfl) (vp_l (n := 30) (shl (Sh_trH (Sh_uI hS) _) 51 rfl) (o1 c1)) ?_
        refine V_iload dX12_refund_94 rfl ?_
        refine V_ineg dX12_refund_96 ?_
        refine V_callV0 (as := [.int (zI (trH (uI σ 33 49 (0 : Int32)) (8 * ix v1) (3 : Int32) (ix (zI (uI σ 33 49 (0 : Int32)) 52 (ix v1)))) 51 (Int32.toNatClampNeg v1)), .int (-(((smI (ooF (uI σ 33 49 (0 : Int32)) (8 * ix v1) (0 : Int32)) (ix (zI (uI σ 33 49 (0 : Int32)) 52 (ix v1)))) - (Int64.toInt32 ((((Int32.toInt64 (smI (ooF (uI σ 33 49 (0 : Int32)) (8 * ix v1) (0 : Int32)) (ix (zI (uI σ 33 49 (0 : Int32)) 52 (ix v1))))) * (Int32.toInt64 (zI σ 33 15))) + (99 : Int64)) / (100 : Int64)))) + (smI (ooF (uI σ 33 49 (0 : Int32)) (8 * ix v1) (1 : Int32)) (ix (zI (uI σ 33 49 (0 : Int32)) 52 (ix v1))))))]) (k' := 0) (n' := 0) (s_X12_buys (Sh_trH (Sh_uI hS) _) (o4 c1 c4 c6)) mw_X12_buys ko_X12 rfl w_1344 w_35 w_1342 ar_X12_buys rfl ⟨rfl, rfl, rfl, rfl, rfl⟩ dX12_refund_97 (by decide) (shk (Sh_trH (Sh_uI hS) _) 33 rfl) ?_
        refine V_iload dX12_refund_100 rfl ?_
        exact V_iret rfl dX12_refund_102 (k5 c1 c4 c6)
      · refine V_cast (st' := [.int (1 : Int32), .int (1 : Int32), .int (0 : Int32), .ref 33]) rfl (by rw [jb_f c6]) rfl ?_
        refine V_callV1 (as := [.int (0 : Int32), .int (1 : Int32), .int (1 : Int32)]) (k' := 0) (n' := 0) (s_goes1 hS) mw_X12_goes ko_X12 rfl w_1223 w_20 w_1221 ar_X12_goes rfl ⟨rfl, rfl, rfl, rfl, rfl⟩ dX12_refund_34 (by decide) (shk hS 33 rfl) ?_
        refine V_if_ne 42 dX12_refund_37 rfl (fun z_ => (by first | exact absurd (by decide) z_ | exact absurd z_ (by decide))) (fun _ => ?_)
        refine V_iconst (0 : Int32) dX12_refund_40 (by decide) ?_
        exact V_iret rfl dX12_refund_41 (k6 c1 c4 c6)

set_option maxRecDepth 100000 in
set_option maxHeartbeats 4000000 in
theorem b_X12_reissue_0 {g : GP} {CX : State → Array Value → Prop} {Q : AH → Option Value → Prop} {X : AH → String → Prop} {v1 : Int32} {σ : AH}
    (hS : Sh σ)
    (k1 : (¬ (isWi v1 0 ((zI σ 33 23) - 1))) → (isWi v1 0 ((zI σ 33 23) - 1)) → Q (uI σ 33 49 (2 : Int32)) (some (.int (0 : Int32))))
    (k2 : (¬ (isWi v1 0 ((zI σ 33 23) - 1))) → (¬ (isWi v1 0 ((zI σ 33 23) - 1))) → Q (uI σ 33 49 (1 : Int32)) (some (.int (0 : Int32))))
    (o1 : (isWi v1 0 ((zI σ 33 23) - 1)) → vp_in v1 30)
    (o2 : (isWi v1 0 ((zI σ 33 23) - 1)) → vp_in (zI σ 52 (ix v1)) 9)
    (k3 : (isWi v1 0 ((zI σ 33 23) - 1)) → (¬ (opF σ (8 * ix v1) (ix (zI σ 52 (ix v1))))) → (isWi v1 0 ((zI σ 33 23) - 1)) → Q (uI σ 33 49 (2 : Int32)) (some (.int (0 : Int32))))
    (k4 : (isWi v1 0 ((zI σ 33 23) - 1)) → (¬ (opF σ (8 * ix v1) (ix (zI σ 52 (ix v1))))) → (¬ (isWi v1 0 ((zI σ 33 23) - 1))) → Q (uI σ 33 49 (1 : Int32)) (some (.int (0 : Int32))))
    (o3 : (isWi v1 0 ((zI σ 33 23) - 1)) → (opF σ (8 * ix v1) (ix (zI σ 52 (ix v1)))) → PO σ)
    (o4 : (isWi v1 0 ((zI σ 33 23) - 1)) → (opF σ (8 * ix v1) (ix (zI σ 52 (ix v1)))) → vp_in (zI σ 33 16) 9)
    (k5 : (isWi v1 0 ((zI σ 33 23) - 1)) → (opF σ (8 * ix v1) (ix (zI σ 52 (ix v1)))) → (¬ (cnF σ)) → (isWi v1 0 ((zI σ 33 23) - 1)) → Q (uI (ciH σ) 33 49 (2 : Int32)) (some (.int (0 : Int32))))
    (k6 : (isWi v1 0 ((zI σ 33 23) - 1)) → (opF σ (8 * ix v1) (ix (zI σ 52 (ix v1)))) → (¬ (cnF σ)) → (¬ (isWi v1 0 ((zI σ 33 23) - 1))) → Q (uI (ciH σ) 33 49 (1 : Int32)) (some (.int (0 : Int32))))
    (o5 : (isWi v1 0 ((zI σ 33 23) - 1)) → (opF σ (8 * ix v1) (ix (zI σ 52 (ix v1)))) → (cnF σ) → (isWi v1 0 ((zI σ 33 23) - 1)) → vp_in (zI (uI (ciH σ) 33 49 (0 : Int32)) 52 (ix v1)) 9)
    (o6 : (isWi v1 0 ((zI σ 33 23) - 1)) → (opF σ (8 * ix v1) (ix (zI σ 52 (ix v1)))) → (cnF σ) → (isWi v1 0 ((zI σ 33 23) - 1)) → PO (trH (uI (ciH σ) 33 49 (0 : Int32)) (8 * ix v1) (4 : Int32) (ix (zI (uI (ciH σ) 33 49 (0 : Int32)) 52 (ix v1)))))
    (o7 : (isWi v1 0 ((zI σ 33 23) - 1)) → (opF σ (8 * ix v1) (ix (zI σ 52 (ix v1)))) → (cnF σ) → (isWi v1 0 ((zI σ 33 23) - 1)) → CA (trH (uI (ciH σ) 33 49 (0 : Int32)) (8 * ix v1) (4 : Int32) (ix (zI (uI (ciH σ) 33 49 (0 : Int32)) 52 (ix v1)))))
    (o8 : (isWi v1 0 ((zI σ 33 23) - 1)) → (opF σ (8 * ix v1) (ix (zI σ 52 (ix v1)))) → (cnF σ) → (isWi v1 0 ((zI σ 33 23) - 1)) → vp_in (zI (trH (uI (ciH σ) 33 49 (0 : Int32)) (8 * ix v1) (4 : Int32) (ix (zI (uI (ciH σ) 33 49 (0 : Int32)) 52 (ix v1)))) 33 16) 9)
    (o9 : (isWi v1 0 ((zI σ 33 23) - 1)) → (opF σ (8 * ix v1) (ix (zI σ 52 (ix v1)))) → (cnF σ) → (isWi v1 0 ((zI σ 33 23) - 1)) → vp_in (zI (trH (uI (ciH σ) 33 49 (0 : Int32)) (8 * ix v1) (4 : Int32) (ix (zI (uI (ciH σ) 33 49 (0 : Int32)) 52 (ix v1)))) 33 23) 30)
    (o10 : (isWi v1 0 ((zI σ 33 23) - 1)) → (opF σ (8 * ix v1) (ix (zI σ 52 (ix v1)))) → (cnF σ) → (isWi v1 0 ((zI σ 33 23) - 1)) → ∀ b n d, b + n ≤ lgN (trH (uI (ciH σ) 33 49 (0 : Int32)) (8 * ix v1) (4 : Int32) (ix (zI (uI (ciH σ) 33 49 (0 : Int32)) 52 (ix v1)))) → d < n → pvF (trH (uI (ciH σ) 33 49 (0 : Int32)) (8 * ix v1) (4 : Int32) (ix (zI (uI (ciH σ) 33 49 (0 : Int32)) 52 (ix v1)))) (b + d) = -1 → ¬ Int32.toInt64 (alS (pvF (trH (uI (ciH σ) 33 49 (0 : Int32)) (8 * ix v1) (4 : Int32) (ix (zI (uI (ciH σ) 33 49 (0 : Int32)) 52 (ix v1))))) (wtF (trH (uI (ciH σ) 33 49 (0 : Int32)) (8 * ix v1) (4 : Int32) (ix (zI (uI (ciH σ) 33 49 (0 : Int32)) 52 (ix v1))))) b n) = 0)
    (o11 : (isWi v1 0 ((zI σ 33 23) - 1)) → (opF σ (8 * ix v1) (ix (zI σ 52 (ix v1)))) → (cnF σ) → (isWi v1 0 ((zI σ 33 23) - 1)) → vp_in (zI (mkH (trH (uI (ciH σ) 33 49 (0 : Int32)) (8 * ix v1) (4 : Int32) (ix (zI (uI (ciH σ) 33 49 (0 : Int32)) 52 (ix v1)))) (ix (zI (trH (uI (ciH σ) 33 49 (0 : Int32)) (8 * ix v1) (4 : Int32) (ix (zI (uI (ciH σ) 33 49 (0 : Int32)) 52 (ix v1)))) 33 23)) (zI (trH (uI (ciH σ) 33 49 (0 : Int32)) (8 * ix v1) (4 : Int32) (ix (zI (uI (ciH σ) 33 49 (0 : Int32)) 52 (ix v1)))) 51 (Int32.toNatClampNeg v1))) 33 23) 30)
    (o12 : (isWi v1 0 ((zI σ 33 23) - 1)) → (opF σ (8 * ix v1) (ix (zI σ 52 (ix v1)))) → (cnF σ) → (isWi v1 0 ((zI σ 33 23) - 1)) → vp_in (zI (mkH (trH (uI (ciH σ) 33 49 (0 : Int32)) (8 * ix v1) (4 : Int32) (ix (zI (uI (ciH σ) 33 49 (0 : Int32)) 52 (ix v1)))) (ix (zI (trH (uI (ciH σ) 33 49 (0 : Int32)) (8 * ix v1) (4 : Int32) (ix (zI (uI (ciH σ) 33 49 (0 : Int32)) 52 (ix v1)))) 33 23)) (zI (trH (uI (ciH σ) 33 49 (0 : Int32)) (8 * ix v1) (4 : Int32) (ix (zI (uI (ciH σ) 33 49 (0 : Int32)) 52 (ix v1)))) 51 (Int32.toNatClampNeg v1))) 52 (ix (zI (mkH (trH (uI (ciH σ) 33 49 (0 : Int32)) (8 * ix v1) (4 : Int32) (ix (zI (uI (ciH σ) 33 49 (0 : Int32)) 52 (ix v1)))) (ix (zI (trH (uI (ciH σ) 33 49 (0 : Int32)) (8 * ix v1) (4 : Int32) (ix (zI (uI (ciH σ) 33 49 (0 : Int32)) 52 (ix v1)))) 33 23)) (zI (trH (uI (ciH σ) 33 49 (0 : Int32)) (8 * ix v1) (4 : Int32) (ix (zI (uI (ciH σ) 33 49 (0 : Int32)) 52 (ix v1)))) 51 (Int32.toNatClampNeg v1))) 33 23))) 9)
    (o13 : (isWi v1 0 ((zI σ 33 23) - 1)) → (opF σ (8 * ix v1) (ix (zI σ 52 (ix v1)))) → (cnF σ) → (isWi v1 0 ((zI σ 33 23) - 1)) → vp_in (zI (mkH (trH (uI (ciH σ) 33 49 (0 : Int32)) (8 * ix v1) (4 : Int32) (ix (zI (uI (ciH σ) 33 49 (0 : Int32)) 52 (ix v1)))) (ix (zI (trH (uI (ciH σ) 33 49 (0 : Int32)) (8 * ix v1) (4 : Int32) (ix (zI (uI (ciH σ) 33 49 (0 : Int32)) 52 (ix v1)))) 33 23)) (zI (trH (uI (ciH σ) 33 49 (0 : Int32)) (8 * ix v1) (4 : Int32) (ix (zI (uI (ciH σ) 33 49 (0 : Int32)) 52 (ix v1)))) 51 (Int32.toNatClampNeg v1))) 51 (Int32.toNatClampNeg v1)) 5)
    (k7 : (isWi v1 0 ((zI σ 33 23) - 1)) → (opF σ (8 * ix v1) (ix (zI σ 52 (ix v1)))) → (cnF σ) → (isWi v1 0 ((zI σ 33 23) - 1)) → Q (uI (uJ (uJ (mkH (trH (uI (ciH σ) 33 49 (0 : Int32)) (8 * ix v1) (4 : Int32) (ix (zI (uI (ciH σ) 33 49 (0 : Int32)) 52 (ix v1)))) (ix (zI (trH (uI (ciH σ) 33 49 (0 : Int32)) (8 * ix v1) (4 : Int32) (ix (zI (uI (ciH σ) 33 49 (0 : Int32)) 52 (ix v1)))) 33 23)) (zI (trH (uI (ciH σ) 33 49 (0 : Int32)) (8 * ix v1) (4 : Int32) (ix (zI (uI (ciH σ) 33 49 (0 : Int32)) 52 (ix v1)))) 51 (Int32.toNatClampNeg v1))) 70 (ix (zI (mkH (trH (uI (ciH σ) 33 49 (0 : Int32)) (8 * ix v1) (4 : Int32) (ix (zI (uI (ciH σ) 33 49 (0 : Int32)) 52 (ix v1)))) (ix (zI (trH (uI (ciH σ) 33 49 (0 : Int32)) (8 * ix v1) (4 : Int32) (ix (zI (uI (ciH σ) 33 49 (0 : Int32)) 52 (ix v1)))) 33 23)) (zI (trH (uI (ciH σ) 33 49 (0 : Int32)) (8 * ix v1) (4 : Int32) (ix (zI (uI (ciH σ) 33 49 (0 : Int32)) 52 (ix v1)))) 51 (Int32.toNatClampNeg v1))) 51 (Int32.toNatClampNeg v1))) (zJ (mkH (trH (uI (ciH σ) 33 49 (0 : Int32)) (8 * ix v1) (4 : Int32) (ix (zI (uI (ciH σ) 33 49 (0 : Int32)) 52 (ix v1)))) (ix (zI (trH (uI (ciH σ) 33 49 (0 : Int32)) (8 * ix v1) (4 : Int32) (ix (zI (uI (ciH σ) 33 49 (0 : Int32)) 52 (ix v1)))) 33 23)) (zI (trH (uI (ciH σ) 33 49 (0 : Int32)) (8 * ix v1) (4 : Int32) (ix (zI (uI (ciH σ) 33 49 (0 : Int32)) 52 (ix v1)))) 51 (Int32.toNatClampNeg v1))) 70 (ix (zI (mkH (trH (uI (ciH σ) 33 49 (0 : Int32)) (8 * ix v1) (4 : Int32) (ix (zI (uI (ciH σ) 33 49 (0 : Int32)) 52 (ix v1)))) (ix (zI (trH (uI (ciH σ) 33 49 (0 : Int32)) (8 * ix v1) (4 : Int32) (ix (zI (uI (ciH σ) 33 49 (0 : Int32)) 52 (ix v1)))) 33 23)) (zI (trH (uI (ciH σ) 33 49 (0 : Int32)) (8 * ix v1) (4 : Int32) (ix (zI (uI (ciH σ) 33 49 (0 : Int32)) 52 (ix v1)))) 51 (Int32.toNatClampNeg v1))) 51 (Int32.toNatClampNeg v1))) + Int32.toInt64 (((zI (mkH (trH (uI (ciH σ) 33 49 (0 : Int32)) (8 * ix v1) (4 : Int32) (ix (zI (uI (ciH σ) 33 49 (0 : Int32)) 52 (ix v1)))) (ix (zI (trH (uI (ciH σ) 33 49 (0 : Int32)) (8 * ix v1) (4 : Int32) (ix (zI (uI (ciH σ) 33 49 (0 : Int32)) 52 (ix v1)))) 33 23)) (zI (trH (uI (ciH σ) 33 49 (0 : Int32)) (8 * ix v1) (4 : Int32) (ix (zI (uI (ciH σ) 33 49 (0 : Int32)) 52 (ix v1)))) 51 (Int32.toNatClampNeg v1))) 50 (Int32.toNatClampNeg (zI (mkH (trH (uI (ciH σ) 33 49 (0 : Int32)) (8 * ix v1) (4 : Int32) (ix (zI (uI (ciH σ) 33 49 (0 : Int32)) 52 (ix v1)))) (ix (zI (trH (uI (ciH σ) 33 49 (0 : Int32)) (8 * ix v1) (4 : Int32) (ix (zI (uI (ciH σ) 33 49 (0 : Int32)) 52 (ix v1)))) 33 23)) (zI (trH (uI (ciH σ) 33 49 (0 : Int32)) (8 * ix v1) (4 : Int32) (ix (zI (uI (ciH σ) 33 49 (0 : Int32)) 52 (ix v1)))) 51 (Int32.toNatClampNeg v1))) 33 23))) + (smI (fun k => zI (mkH (trH (uI (ciH σ) 33 49 (0 : Int32)) (8 * ix v1) (4 : Int32) (ix (zI (uI (ciH σ) 33 49 (0 : Int32)) 52 (ix v1)))) (ix (zI (trH (uI (ciH σ) 33 49 (0 : Int32)) (8 * ix v1) (4 : Int32) (ix (zI (uI (ciH σ) 33 49 (0 : Int32)) 52 (ix v1)))) 33 23)) (zI (trH (uI (ciH σ) 33 49 (0 : Int32)) (8 * ix v1) (4 : Int32) (ix (zI (uI (ciH σ) 33 49 (0 : Int32)) 52 (ix v1)))) 51 (Int32.toNatClampNeg v1))) 57 (8 * ix (zI (mkH (trH (uI (ciH σ) 33 49 (0 : Int32)) (8 * ix v1) (4 : Int32) (ix (zI (uI (ciH σ) 33 49 (0 : Int32)) 52 (ix v1)))) (ix (zI (trH (uI (ciH σ) 33 49 (0 : Int32)) (8 * ix v1) (4 : Int32) (ix (zI (uI (ciH σ) 33 49 (0 : Int32)) 52 (ix v1)))) 33 23)) (zI (trH (uI (ciH σ) 33 49 (0 : Int32)) (8 * ix v1) (4 : Int32) (ix (zI (uI (ciH σ) 33 49 (0 : Int32)) 52 (ix v1)))) 51 (Int32.toNatClampNeg v1))) 33 23) + k)) (ix (zI (mkH (trH (uI (ciH σ) 33 49 (0 : Int32)) (8 * ix v1) (4 : Int32) (ix (zI (uI (ciH σ) 33 49 (0 : Int32)) 52 (ix v1)))) (ix (zI (trH (uI (ciH σ) 33 49 (0 : Int32)) (8 * ix v1) (4 : Int32) (ix (zI (uI (ciH σ) 33 49 (0 : Int32)) 52 (ix v1)))) 33 23)) (zI (trH (uI (ciH σ) 33 49 (0 : Int32)) (8 * ix v1) (4 : Int32) (ix (zI (uI (ciH σ) 33 49 (0 : Int32)) 52 (ix v1)))) 51 (Int32.toNatClampNeg v1))) 52 (ix (zI (mkH (trH (uI (ciH σ) 33 49 (0 : Int32)) (8 * ix v1) (4 : Int32) (ix (zI (uI (ciH σ) 33 49 (0 : Int32)) 52 (ix v1)))) (ix (zI (trH (uI (ciH σ) 33 49 (0 : Int32)) (8 * ix v1) (4 : Int32) (ix (zI (uI (ciH σ) 33 49 (0 : Int32)) 52 (ix v1)))) 33 23)) (zI (trH (uI (ciH σ) 33 49 (0 : Int32)) (8 * ix v1) (4 : Int32) (ix (zI (uI (ciH σ) 33 49 (0 : Int32)) 52 (ix v1)))) 51 (Int32.toNatClampNeg v1))) 33 23)))))) - ((smI (ooF (uI (ciH σ) 33 49 (0 : Int32)) (8 * ix v1) (0 : Int32)) (ix (zI (uI (ciH σ) 33 49 (0 : Int32)) 52 (ix v1)))) + (smI (ooF (uI (ciH σ) 33 49 (0 : Int32)) (8 * ix v1) (1 : Int32)) (ix (zI (uI (ciH σ) 33 49 (0 : Int32)) 52 (ix v1)))))))) 33 48 (zJ (mkH (trH (uI (ciH σ) 33 49 (0 : Int32)) (8 * ix v1) (4 : Int32) (ix (zI (uI (ciH σ) 33 49 (0 : Int32)) 52 (ix v1)))) (ix (zI (trH (uI (ciH σ) 33 49 (0 : Int32)) (8 * ix v1) (4 : Int32) (ix (zI (uI (ciH σ) 33 49 (0 : Int32)) 52 (ix v1)))) 33 23)) (zI (trH (uI (ciH σ) 33 49 (0 : Int32)) (8 * ix v1) (4 : Int32) (ix (zI (uI (ciH σ) 33 49 (0 : Int32)) 52 (ix v1)))) 51 (Int32.toNatClampNeg v1))) 33 48 + Int32.toInt64 (((zI (mkH (trH (uI (ciH σ) 33 49 (0 : Int32)) (8 * ix v1) (4 : Int32) (ix (zI (uI (ciH σ) 33 49 (0 : Int32)) 52 (ix v1)))) (ix (zI (trH (uI (ciH σ) 33 49 (0 : Int32)) (8 * ix v1) (4 : Int32) (ix (zI (uI (ciH σ) 33 49 (0 : Int32)) 52 (ix v1)))) 33 23)) (zI (trH (uI (ciH σ) 33 49 (0 : Int32)) (8 * ix v1) (4 : Int32) (ix (zI (uI (ciH σ) 33 49 (0 : Int32)) 52 (ix v1)))) 51 (Int32.toNatClampNeg v1))) 50 (Int32.toNatClampNeg (zI (mkH (trH (uI (ciH σ) 33 49 (0 : Int32)) (8 * ix v1) (4 : Int32) (ix (zI (uI (ciH σ) 33 49 (0 : Int32)) 52 (ix v1)))) (ix (zI (trH (uI (ciH σ) 33 49 (0 : Int32)) (8 * ix v1) (4 : Int32) (ix (zI (uI (ciH σ) 33 49 (0 : Int32)) 52 (ix v1)))) 33 23)) (zI (trH (uI (ciH σ) 33 49 (0 : Int32)) (8 * ix v1) (4 : Int32) (ix (zI (uI (ciH σ) 33 49 (0 : Int32)) 52 (ix v1)))) 51 (Int32.toNatClampNeg v1))) 33 23))) + (smI (fun k => zI (mkH (trH (uI (ciH σ) 33 49 (0 : Int32)) (8 * ix v1) (4 : Int32) (ix (zI (uI (ciH σ) 33 49 (0 : Int32)) 52 (ix v1)))) (ix (zI (trH (uI (ciH σ) 33 49 (0 : Int32)) (8 * ix v1) (4 : Int32) (ix (zI (uI (ciH σ) 33 49 (0 : Int32)) 52 (ix v1)))) 33 23)) (zI (trH (uI (ciH σ) 33 49 (0 : Int32)) (8 * ix v1) (4 : Int32) (ix (zI (uI (ciH σ) 33 49 (0 : Int32)) 52 (ix v1)))) 51 (Int32.toNatClampNeg v1))) 57 (8 * ix (zI (mkH (trH (uI (ciH σ) 33 49 (0 : Int32)) (8 * ix v1) (4 : Int32) (ix (zI (uI (ciH σ) 33 49 (0 : Int32)) 52 (ix v1)))) (ix (zI (trH (uI (ciH σ) 33 49 (0 : Int32)) (8 * ix v1) (4 : Int32) (ix (zI (uI (ciH σ) 33 49 (0 : Int32)) 52 (ix v1)))) 33 23)) (zI (trH (uI (ciH σ) 33 49 (0 : Int32)) (8 * ix v1) (4 : Int32) (ix (zI (uI (ciH σ) 33 49 (0 : Int32)) 52 (ix v1)))) 51 (Int32.toNatClampNeg v1))) 33 23) + k)) (ix (zI (mkH (trH (uI (ciH σ) 33 49 (0 : Int32)) (8 * ix v1) (4 : Int32) (ix (zI (uI (ciH σ) 33 49 (0 : Int32)) 52 (ix v1)))) (ix (zI (trH (uI (ciH σ) 33 49 (0 : Int32)) (8 * ix v1) (4 : Int32) (ix (zI (uI (ciH σ) 33 49 (0 : Int32)) 52 (ix v1)))) 33 23)) (zI (trH (uI (ciH σ) 33 49 (0 : Int32)) (8 * ix v1) (4 : Int32) (ix (zI (uI (ciH σ) 33 49 (0 : Int32)) 52 (ix v1)))) 51 (Int32.toNatClampNeg v1))) 52 (ix (zI (mkH (trH (uI (ciH σ) 33 49 (0 : Int32)) (8 * ix v1) (4 : Int32) (ix (zI (uI (ciH σ) 33 49 (0 : Int32)) 52 (ix v1)))) (ix (zI (trH (uI (ciH σ) 33 49 (0 : Int32)) (8 * ix v1) (4 : Int32) (ix (zI (uI (ciH σ) 33 49 (0 : Int32)) 52 (ix v1)))) 33 23)) (zI (trH (uI (ciH σ) 33 49 (0 : Int32)) (8 * ix v1) (4 : Int32) (ix (zI (uI (ciH σ) 33 49 (0 : Int32)) 52 (ix v1)))) 51 (Int32.toNatClampNeg v1))) 33 23)))))) - ((smI (ooF (uI (ciH σ) 33 49 (0 : Int32)) (8 * ix v1) (0 : Int32)) (ix (zI (uI (ciH σ) 33 49 (0 : Int32)) 52 (ix v1)))) + (smI (ooF (uI (ciH σ) 33 49 (0 : Int32)) (8 * ix v1) (1 : Int32)) (ix (zI (uI (ciH σ) 33 49 (0 : Int32)) 52 (ix v1)))))))) 33 23 ((zI (uJ (uJ (mkH (trH (uI (ciH σ) 33 49 (0 : Int32)) (8 * ix v1) (4 : Int32) (ix (zI (uI (ciH σ) 33 49 (0 : Int32)) 52 (ix v1)))) (ix (zI (trH (uI (ciH σ) 33 49 (0 : Int32)) (8 * ix v1) (4 : Int32) (ix (zI (uI (ciH σ) 33 49 (0 : Int32)) 52 (ix v1)))) 33 23)) (zI (trH (uI (ciH σ) 33 49 (0 : Int32)) (8 * ix v1) (4 : Int32) (ix (zI (uI (ciH σ) 33 49 (0 : Int32)) 52 (ix v1)))) 51 (Int32.toNatClampNeg v1))) 70 (ix (zI (mkH (trH (uI (ciH σ) 33 49 (0 : Int32)) (8 * ix v1) (4 : Int32) (ix (zI (uI (ciH σ) 33 49 (0 : Int32)) 52 (ix v1)))) (ix (zI (trH (uI (ciH σ) 33 49 (0 : Int32)) (8 * ix v1) (4 : Int32) (ix (zI (uI (ciH σ) 33 49 (0 : Int32)) 52 (ix v1)))) 33 23)) (zI (trH (uI (ciH σ) 33 49 (0 : Int32)) (8 * ix v1) (4 : Int32) (ix (zI (uI (ciH σ) 33 49 (0 : Int32)) 52 (ix v1)))) 51 (Int32.toNatClampNeg v1))) 51 (Int32.toNatClampNeg v1))) (zJ (mkH (trH (uI (ciH σ) 33 49 (0 : Int32)) (8 * ix v1) (4 : Int32) (ix (zI (uI (ciH σ) 33 49 (0 : Int32)) 52 (ix v1)))) (ix (zI (trH (uI (ciH σ) 33 49 (0 : Int32)) (8 * ix v1) (4 : Int32) (ix (zI (uI (ciH σ) 33 49 (0 : Int32)) 52 (ix v1)))) 33 23)) (zI (trH (uI (ciH σ) 33 49 (0 : Int32)) (8 * ix v1) (4 : Int32) (ix (zI (uI (ciH σ) 33 49 (0 : Int32)) 52 (ix v1)))) 51 (Int32.toNatClampNeg v1))) 70 (ix (zI (mkH (trH (uI (ciH σ) 33 49 (0 : Int32)) (8 * ix v1) (4 : Int32) (ix (zI (uI (ciH σ) 33 49 (0 : Int32)) 52 (ix v1)))) (ix (zI (trH (uI (ciH σ) 33 49 (0 : Int32)) (8 * ix v1) (4 : Int32) (ix (zI (uI (ciH σ) 33 49 (0 : Int32)) 52 (ix v1)))) 33 23)) (zI (trH (uI (ciH σ) 33 49 (0 : Int32)) (8 * ix v1) (4 : Int32) (ix (zI (uI (ciH σ) 33 49 (0 : Int32)) 52 (ix v1)))) 51 (Int32.toNatClampNeg v1))) 51 (Int32.toNatClampNeg v1))) + Int32.toInt64 (((zI (mkH (trH (uI (ciH σ) 33 49 (0 : Int32)) (8 * ix v1) (4 : Int32) (ix (zI (uI (ciH σ) 33 49 (0 : Int32)) 52 (ix v1)))) (ix (zI (trH (uI (ciH σ) 33 49 (0 : Int32)) (8 * ix v1) (4 : Int32) (ix (zI (uI (ciH σ) 33 49 (0 : Int32)) 52 (ix v1)))) 33 23)) (zI (trH (uI (ciH σ) 33 49 (0 : Int32)) (8 * ix v1) (4 : Int32) (ix (zI (uI (ciH σ) 33 49 (0 : Int32)) 52 (ix v1)))) 51 (Int32.toNatClampNeg v1))) 50 (Int32.toNatClampNeg (zI (mkH (trH (uI (ciH σ) 33 49 (0 : Int32)) (8 * ix v1) (4 : Int32) (ix (zI (uI (ciH σ) 33 49 (0 : Int32)) 52 (ix v1)))) (ix (zI (trH (uI (ciH σ) 33 49 (0 : Int32)) (8 * ix v1) (4 : Int32) (ix (zI (uI (ciH σ) 33 49 (0 : Int32)) 52 (ix v1)))) 33 23)) (zI (trH (uI (ciH σ) 33 49 (0 : Int32)) (8 * ix v1) (4 : Int32) (ix (zI (uI (ciH σ) 33 49 (0 : Int32)) 52 (ix v1)))) 51 (Int32.toNatClampNeg v1))) 33 23))) + (smI (fun k => zI (mkH (trH (uI (ciH σ) 33 49 (0 : Int32)) (8 * ix v1) (4 : Int32) (ix (zI (uI (ciH σ) 33 49 (0 : Int32)) 52 (ix v1)))) (ix (zI (trH (uI (ciH σ) 33 49 (0 : Int32)) (8 * ix v1) (4 : Int32) (ix (zI (uI (ciH σ) 33 49 (0 : Int32)) 52 (ix v1)))) 33 23)) (zI (trH (uI (ciH σ) 33 49 (0 : Int32)) (8 * ix v1) (4 : Int32) (ix (zI (uI (ciH σ) 33 49 (0 : Int32)) 52 (ix v1)))) 51 (Int32.toNatClampNeg v1))) 57 (8 * ix (zI (mkH (trH (uI (ciH σ) 33 49 (0 : Int32)) (8 * ix v1) (4 : Int32) (ix (zI (uI (ciH σ) 33 49 (0 : Int32)) 52 (ix v1)))) (ix (zI (trH (uI (ciH σ) 33 49 (0 : Int32)) (8 * ix v1) (4 : Int32) (ix (zI (uI (ciH σ) 33 49 (0 : Int32)) 52 (ix v1)))) 33 23)) (zI (trH (uI (ciH σ) 33 49 (0 : Int32)) (8 * ix v1) (4 : Int32) (ix (zI (uI (ciH σ) 33 49 (0 : Int32)) 52 (ix v1)))) 51 (Int32.toNatClampNeg v1))) 33 23) + k)) (ix (zI (mkH (trH (uI (ciH σ) 33 49 (0 : Int32)) (8 * ix v1) (4 : Int32) (ix (zI (uI (ciH σ) 33 49 (0 : Int32)) 52 (ix v1)))) (ix (zI (trH (uI (ciH σ) 33 49 (0 : Int32)) (8 * ix v1) (4 : Int32) (ix (zI (uI (ciH σ) 33 49 (0 : Int32)) 52 (ix v1)))) 33 23)) (zI (trH (uI (ciH σ) 33 49 (0 : Int32)) (8 * ix v1) (4 : Int32) (ix (zI (uI (ciH σ) 33 49 (0 : Int32)) 52 (ix v1)))) 51 (Int32.toNatClampNeg v1))) 52 (ix (zI (mkH (trH (uI (ciH σ) 33 49 (0 : Int32)) (8 * ix v1) (4 : Int32) (ix (zI (uI (ciH σ) 33 49 (0 : Int32)) 52 (ix v1)))) (ix (zI (trH (uI (ciH σ) 33 49 (0 : Int32)) (8 * ix v1) (4 : Int32) (ix (zI (uI (ciH σ) 33 49 (0 : Int32)) 52 (ix v1)))) 33 23)) (zI (trH (uI (ciH σ) 33 49 (0 : Int32)) (8 * ix v1) (4 : Int32) (ix (zI (uI (ciH σ) 33 49 (0 : Int32)) 52 (ix v1)))) 51 (Int32.toNatClampNeg v1))) 33 23)))))) - ((smI (ooF (uI (ciH σ) 33 49 (0 : Int32)) (8 * ix v1) (0 : Int32)) (ix (zI (uI (ciH σ) 33 49 (0 : Int32)) 52 (ix v1)))) + (smI (ooF (uI (ciH σ) 33 49 (0 : Int32)) (8 * ix v1) (1 : Int32)) (ix (zI (uI (ciH σ) 33 49 (0 : Int32)) 52 (ix v1)))))))) 33 48 (zJ (mkH (trH (uI (ciH σ) 33 49 (0 : Int32)) (8 * ix v1) (4 : Int32) (ix (zI (uI (ciH σ) 33 49 (0 : Int32)) 52 (ix v1)))) (ix (zI (trH (uI (ciH σ) 33 49 (0 : Int32)) (8 * ix v1) (4 : Int32) (ix (zI (uI (ciH σ) 33 49 (0 : Int32)) 52 (ix v1)))) 33 23)) (zI (trH (uI (ciH σ) 33 49 (0 : Int32)) (8 * ix v1) (4 : Int32) (ix (zI (uI (ciH σ) 33 49 (0 : Int32)) 52 (ix v1)))) 51 (Int32.toNatClampNeg v1))) 33 48 + Int32.toInt64 (((zI (mkH (trH (uI (ciH σ) 33 49 (0 : Int32)) (8 * ix v1) (4 : Int32) (ix (zI (uI (ciH σ) 33 49 (0 : Int32)) 52 (ix v1)))) (ix (zI (trH (uI (ciH σ) 33 49 (0 : Int32)) (8 * ix v1) (4 : Int32) (ix (zI (uI (ciH σ) 33 49 (0 : Int32)) 52 (ix v1)))) 33 23)) (zI (trH (uI (ciH σ) 33 49 (0 : Int32)) (8 * ix v1) (4 : Int32) (ix (zI (uI (ciH σ) 33 49 (0 : Int32)) 52 (ix v1)))) 51 (Int32.toNatClampNeg v1))) 50 (Int32.toNatClampNeg (zI (mkH (trH (uI (ciH σ) 33 49 (0 : Int32)) (8 * ix v1) (4 : Int32) (ix (zI (uI (ciH σ) 33 49 (0 : Int32)) 52 (ix v1)))) (ix (zI (trH (uI (ciH σ) 33 49 (0 : Int32)) (8 * ix v1) (4 : Int32) (ix (zI (uI (ciH σ) 33 49 (0 : Int32)) 52 (ix v1)))) 33 23)) (zI (trH (uI (ciH σ) 33 49 (0 : Int32)) (8 * ix v1) (4 : Int32) (ix (zI (uI (ciH σ) 33 49 (0 : Int32)) 52 (ix v1)))) 51 (Int32.toNatClampNeg v1))) 33 23))) + (smI (fun k => zI (mkH (trH (uI (ciH σ) 33 49 (0 : Int32)) (8 * ix v1) (4 : Int32) (ix (zI (uI (ciH σ) 33 49 (0 : Int32)) 52 (ix v1)))) (ix (zI (trH (uI (ciH σ) 33 49 (0 : Int32)) (8 * ix v1) (4 : Int32) (ix (zI (uI (ciH σ) 33 49 (0 : Int32)) 52 (ix v1)))) 33 23)) (zI (trH (uI (ciH σ) 33 49 (0 : Int32)) (8 * ix v1) (4 : Int32) (ix (zI (uI (ciH σ) 33 49 (0 : Int32)) 52 (ix v1)))) 51 (Int32.toNatClampNeg v1))) 57 (8 * ix (zI (mkH (trH (uI (ciH σ) 33 49 (0 : Int32)) (8 * ix v1) (4 : Int32) (ix (zI (uI (ciH σ) 33 49 (0 : Int32)) 52 (ix v1)))) (ix (zI (trH (uI (ciH σ) 33 49 (0 : Int32)) (8 * ix v1) (4 : Int32) (ix (zI (uI (ciH σ) 33 49 (0 : Int32)) 52 (ix v1)))) 33 23)) (zI (trH (uI (ciH σ) 33 49 (0 : Int32)) (8 * ix v1) (4 : Int32) (ix (zI (uI (ciH σ) 33 49 (0 : Int32)) 52 (ix v1)))) 51 (Int32.toNatClampNeg v1))) 33 23) + k)) (ix (zI (mkH (trH (uI (ciH σ) 33 49 (0 : Int32)) (8 * ix v1) (4 : Int32) (ix (zI (uI (ciH σ) 33 49 (0 : Int32)) 52 (ix v1)))) (ix (zI (trH (uI (ciH σ) 33 49 (0 : Int32)) (8 * ix v1) (4 : Int32) (ix (zI (uI (ciH σ) 33 49 (0 : Int32)) 52 (ix v1)))) 33 23)) (zI (trH (uI (ciH σ) 33 49 (0 : Int32)) (8 * ix v1) (4 : Int32) (ix (zI (uI (ciH σ) 33 49 (0 : Int32)) 52 (ix v1)))) 51 (Int32.toNatClampNeg v1))) 52 (ix (zI (mkH (trH (uI (ciH σ) 33 49 (0 : Int32)) (8 * ix v1) (4 : Int32) (ix (zI (uI (ciH σ) 33 49 (0 : Int32)) 52 (ix v1)))) (ix (zI (trH (uI (ciH σ) 33 49 (0 : Int32)) (8 * ix v1) (4 : Int32) (ix (zI (uI (ciH σ) 33 49 (0 : Int32)) 52 (ix v1)))) 33 23)) (zI (trH (uI (ciH σ) 33 49 (0 : Int32)) (8 * ix v1) (4 : Int32) (ix (zI (uI (ciH σ) 33 49 (0 : Int32)) 52 (ix v1)))) 51 (Int32.toNatClampNeg v1))) 33 23)))))) - ((smI (ooF (uI (ciH σ) 33 49 (0 : Int32)) (8 * ix v1) (0 : Int32)) (ix (zI (uI (ciH σ) 33 49 (0 : Int32)) 52 (ix v1)))) + (smI (ooF (uI (ciH σ) 33 49 (0 : Int32)) (8 * ix v1) (1 : Int32)) (ix (zI (uI (ciH σ) 33 49 (0 : Int32)) 52 (ix v1)))))))) 33 23) + (1 : Int32))) (some (.int (((zI (mkH (trH (uI (ciH σ) 33 49 (0 : Int32)) (8 * ix v1) (4 : Int32) (ix (zI (uI (ciH σ) 33 49 (0 : Int32)) 52 (ix v1)))) (ix (zI (trH (uI (ciH σ) 33 49 (0 : Int32)) (8 * ix v1) (4 : Int32) (ix (zI (uI (ciH σ) 33 49 (0 : Int32)) 52 (ix v1)))) 33 23)) (zI (trH (uI (ciH σ) 33 49 (0 : Int32)) (8 * ix v1) (4 : Int32) (ix (zI (uI (ciH σ) 33 49 (0 : Int32)) 52 (ix v1)))) 51 (Int32.toNatClampNeg v1))) 50 (Int32.toNatClampNeg (zI (mkH (trH (uI (ciH σ) 33 49 (0 : Int32)) (8 * ix v1) (4 : Int32) (ix (zI (uI (ciH σ) 33 49 (0 : Int32)) 52 (ix v1)))) (ix (zI (trH (uI (ciH σ) 33 49 (0 : Int32)) (8 * ix v1) (4 : Int32) (ix (zI (uI (ciH σ) 33 49 (0 : Int32)) 52 (ix v1)))) 33 23)) (zI (trH (uI (ciH σ) 33 49 (0 : Int32)) (8 * ix v1) (4 : Int32) (ix (zI (uI (ciH σ) 33 49 (0 : Int32)) 52 (ix v1)))) 51 (Int32.toNatClampNeg v1))) 33 23))) + (smI (fun k => zI (mkH (trH (uI (ciH σ) 33 49 (0 : Int32)) (8 * ix v1) (4 : Int32) (ix (zI (uI (ciH σ) 33 49 (0 : Int32)) 52 (ix v1)))) (ix (zI (trH (uI (ciH σ) 33 49 (0 : Int32)) (8 * ix v1) (4 : Int32) (ix (zI (uI (ciH σ) 33 49 (0 : Int32)) 52 (ix v1)))) 33 23)) (zI (trH (uI (ciH σ) 33 49 (0 : Int32)) (8 * ix v1) (4 : Int32) (ix (zI (uI (ciH σ) 33 49 (0 : Int32)) 52 (ix v1)))) 51 (Int32.toNatClampNeg v1))) 57 (8 * ix (zI (mkH (trH (uI (ciH σ) 33 49 (0 : Int32)) (8 * ix v1) (4 : Int32) (ix (zI (uI (ciH σ) 33 49 (0 : Int32)) 52 (ix v1)))) (ix (zI (trH (uI (ciH σ) 33 49 (0 : Int32)) (8 * ix v1) (4 : Int32) (ix (zI (uI (ciH σ) 33 49 (0 : Int32)) 52 (ix v1)))) 33 23)) (zI (trH (uI (ciH σ) 33 49 (0 : Int32)) (8 * ix v1) (4 : Int32) (ix (zI (uI (ciH σ) 33 49 (0 : Int32)) 52 (ix v1)))) 51 (Int32.toNatClampNeg v1))) 33 23) + k)) (ix (zI (mkH (trH (uI (ciH σ) 33 49 (0 : Int32)) (8 * ix v1) (4 : Int32) (ix (zI (uI (ciH σ) 33 49 (0 : Int32)) 52 (ix v1)))) (ix (zI (trH (uI (ciH σ) 33 49 (0 : Int32)) (8 * ix v1) (4 : Int32) (ix (zI (uI (ciH σ) 33 49 (0 : Int32)) 52 (ix v1)))) 33 23)) (zI (trH (uI (ciH σ) 33 49 (0 : Int32)) (8 * ix v1) (4 : Int32) (ix (zI (uI (ciH σ) 33 49 (0 : Int32)) 52 (ix v1)))) 51 (Int32.toNatClampNeg v1))) 52 (ix (zI (mkH (trH (uI (ciH σ) 33 49 (0 : Int32)) (8 * ix v1) (4 : Int32) (ix (zI (uI (ciH σ) 33 49 (0 : Int32)) 52 (ix v1)))) (ix (zI (trH (uI (ciH σ) 33 49 (0 : Int32)) (8 * ix v1) (4 : Int32) (ix (zI (uI (ciH σ) 33 49 (0 : Int32)) 52 (ix v1)))) 33 23)) (zI (trH (uI (ciH σ) 33 49 (0 : Int32)) (8 * ix v1) (4 : Int32) (ix (zI (uI (ciH σ) 33 49 (0 : Int32)) 52 (ix v1)))) 51 (Int32.toNatClampNeg v1))) 33 23)))))) - ((smI (ooF (uI (ciH σ) 33 49 (0 : Int32)) (8 * ix v1) (0 : Int32)) (ix (zI (uI (ciH σ) 33 49 (0 : Int32)) 52 (ix v1)))) + (smI (ooF (uI (ciH σ) 33 49 (0 : Int32)) (8 * ix v1) (1 : Int32)) (ix (zI (uI (ciH σ) 33 49 (0 : Int32)) 52 (ix v1)))))))))
    (k8 : (isWi v1 0 ((zI σ 33 23) - 1)) → (opF σ (8 * ix v1) (ix (zI σ 52 (ix v1)))) → (cnF σ) → (¬ (isWi v1 0 ((zI σ 33 23) - 1))) → Q (uI (ciH σ) 33 49 (1 : Int32)) (some (.int (0 : Int32)))) :
    V g mX12_reissue (Em g mX12_reissue Q X) CX 0 0 0 [(0, .ref 33), (1, .int v1)] [] σ := by
  refine V_aload_n dX12_reissue_0 rfl ?_
  refine V_iload_n dX12_reissue_1 rfl ?_
  refine V_callV1 (as := [.int v1]) (k' := 0) (n' := 0) (s_X12_isTicket hS) mw_X12_isTicket ko_X12 rfl w_1356 w_37 w_1354 ar_X12_isTicket rfl ⟨rfl, rfl, rfl, rfl, rfl⟩ dX12_reissue_2 (by decide) (shk hS 33 rfl) ?_
  refine V_istore_n [(0, .ref 33), (1, .int v1), (2, .int (jb (isWi v1 0 ((zI σ 33 23) - 1))))] dX12_reissue_5 rfl rfl ?_
  refine V_aload_n dX12_reissue_6 rfl ?_
  refine V_iload_n dX12_reissue_7 rfl ?_
  refine V_iload_n dX12_reissue_8 rfl ?_
  refine V_if_eq 39 dX12_reissue_9 rfl (fun c1 => ?_) (fun c1 => ?_)
  · replace c1 := jb_0.mp c1
    refine V_iconst (0 : Int32) dX12_reissue_39 (by decide) ?_
    refine V_iconst (1 : Int32) dX12_reissue_40 (by decide) ?_
    by_cases c2 : isWi v1 0 ((zI σ 33 23) - 1)
    · refine V_cast (st' := [.int (1 : Int32), .int (0 : Int32), .int (1 : Int32), .ref 33]) rfl (by rw [jb_t c2]) rfl ?_
      refine V_callV1 (as := [.int (1 : Int32), .int (0 : Int32), .int (1 : Int32)]) (k' := 0) (n' := 0) (s_goes2 hS) mw_X12_goes ko_X12 rfl w_1223 w_20 w_1221 ar_X12_goes rfl ⟨rfl, rfl, rfl, rfl, rfl⟩ dX12_reissue_41 (by decide) (shk hS 33 rfl) ?_
      refine V_if_ne 49 dX12_reissue_44 rfl (fun z_ => (by first | exact absurd (by decide) z_ | exact absurd z_ (by decide))) (fun _ => ?_)
      refine V_iconst (0 : Int32) dX12_reissue_47 (by decide) ?_
      exact V_iret rfl dX12_reissue_48 (k1 c1 c2)
    · refine V_cast (st' := [.int (1 : Int32), .int (0 : Int32), .int (0 : Int32), .ref 33]) rfl (by rw [jb_f c2]) rfl ?_
      refine V_callV1 (as := [.int (0 : Int32), .int (0 : Int32), .int (1 : Int32)]) (k' := 0) (n' := 0) (s_goes1 hS) mw_X12_goes ko_X12 rfl w_1223 w_20 w_1221 ar_X12_goes rfl ⟨rfl, rfl, rfl, rfl, rfl⟩ dX12_reissue_41 (by decide) (shk hS 33 rfl) ?_
      refine V_if_ne 49 dX12_reissue_44 rfl (fun z_ => (by first | exact absurd (by decide) z_ | exact absurd z_ (by decide))) (fun _ => ?_)
      refine V_iconst (0 : Int32) dX12_reissue_47 (by decide) ?_
      exact V_iret rfl dX12_reissue_48 (k2 c1 c2)
  · replace c1 := jb_n.mp c1
    refine V_aload_n dX12_reissue_12 rfl ?_
    refine V_iload_n dX12_reissue_13 rfl ?_
    refine V_if_eq 21 dX12_reissue_14 rfl (fun z_ => (by have y_ := jb_0.mp z_; first | exact absurd (c1) y_ | exact absurd y_ (c1))) (fun _ => ?_)
    refine V_iload_n dX12_reissue_17 rfl ?_
    refine V_goto 22 dX12_reissue_18 rfl ?_
    refine V_callV1 (as := [.int v1]) (k' := 0) (n' := 0) (s_X12_hasOpen hS (o1 c1) (o2 c1)) mw_X12_hasOpen ko_X12 rfl w_1368 w_38 w_1366 ar_X12_hasOpen rfl ⟨rfl, rfl, rfl, rfl, rfl⟩ dX12_reissue_22 (by decide) (shk hS 33 rfl) ?_
    refine V_if_eq 39 dX12_reissue_25 rfl (fun c4 => ?_) (fun c4 => ?_)
    · replace c4 := pj_0.mp c4
      refine V_iconst (0 : Int32) dX12_reissue_39 (by decide) ?_
      refine V_iconst (1 : Int32) dX12_reissue_40 (by decide) ?_
      by_cases c5 : isWi v1 0 ((zI σ 33 23) - 1)
      · refine V_cast (st' := [.int (1 : Int32), .int (0 : Int32), .int (1 : Int32), .ref 33]) rfl (by rw [jb_t c5]) rfl ?_
        refine V_callV1 (as := [.int (1 : Int32), .int (0 : Int32), .int (1 : Int32)]) (k' := 0) (n' := 0) (s_goes2 hS) mw_X12_goes ko_X12 rfl w_1223 w_20 w_1221 ar_X12_goes rfl ⟨rfl, rfl, rfl, rfl, rfl⟩ dX12_reissue_41 (by decide) (shk hS 33 rfl) ?_
        refine V_if_ne 49 dX12_reissue_44 rfl (fun z_ => (by first | exact absurd (by decide) z_ | exact absurd z_ (by decide))) (fun _ => ?_)
        refine V_iconst (0 : Int32) dX12_reissue_47 (by decide) ?_
        exact V_iret rfl dX12_reissue_48 (k3 c1 c4 c5)
      · refine V_cast (st' := [.int (1 : Int32), .int (0 : Int32), .int (0 : Int32), .ref 33]) rfl (by rw [jb_f c5]) rfl ?_
        refine V_callV1 (as := [.int (0 : Int32), .int (0 : Int32), .int (1 : Int32)]) (k' := 0) (n' := 0) (s_goes1 hS) mw_X12_goes ko_X12 rfl w_1223 w_20 w_1221 ar_X12_goes rfl ⟨rfl, rfl, rfl, rfl, rfl⟩ dX12_reissue_41 (by decide) (shk hS 33 rfl) ?_
        refine V_if_ne 49 dX12_reissue_44 rfl (fun z_ => (by first | exact absurd (by decide) z_ | exact absurd z_ (by decide))) (fun _ => ?_)
        refine V_iconst (0 : Int32) dX12_reissue_47 (by decide) ?_
        exact V_iret rfl dX12_reissue_48 (k4 c1 c4 c5)
    · replace c4 := pj_n.mp c4
      refine V_aload_n dX12_reissue_28 rfl ?_
      refine V_callV1 (as := []) (k' := 0) (n' := 0) (s_X12_canIssue hS (o3 c1 c4) (o4 c1 c4)) mw_X12_canIssue ko_X12 rfl w_1320 w_29 w_1318 ar_X12_canIssue rfl ⟨rfl, rfl, rfl, rfl, rfl⟩ dX12_reissue_29 (by decide) (shk hS 33 rfl) ?_
      refine V_if_eq 39 dX12_reissue_32 rfl (fun c6 => ?_) (fun c6 => ?_)
      · replace c6 := pj_0.mp c6
        refine V_iconst (0 : Int32) dX12_reissue_39 (by decide) ?_
        refine V_iconst (1 : Int32) dX12_reissue_40 (by decide) ?_
        by_cases c7 : isWi v1 0 ((zI σ 33 23) - 1)
        · refine V_cast (st' := [.int (1 : Int32), .int (0 : Int32), .int (1 : Int32), .ref 33]) rfl (by rw [jb_t c7]) rfl ?_
          refine V_callV1 (as := [.int (1 : Int32), .int (0 : Int32), .int (1 : Int32)]) (k' := 0) (n' := 0) (s_goes2 (Sh_ciH hS)) mw_X12_goes ko_X12 rfl w_1223 w_20 w_1221 ar_X12_goes rfl ⟨rfl, rfl, rfl, rfl, rfl⟩ dX12_reissue_41 (by decide) (shk (Sh_ciH hS) 33 rfl) ?_
          refine V_if_ne 49 dX12_reissue_44 rfl (fun z_ => (by first | exact absurd (by decide) z_ | exact absurd z_ (by decide))) (fun _ => ?_)
          refine V_iconst (0 : Int32) dX12_reissue_47 (by decide) ?_
          exact V_iret rfl dX12_reissue_48 (k5 c1 c4 c6 c7)
        · refine V_cast (st' := [.int (1 : Int32), .int (0 : Int32), .int (0 : Int32), .ref 33]) rfl (by rw [jb_f c7]) rfl ?_
          refine V_callV1 (as := [.int (0 : Int32), .int (0 : Int32), .int (1 : Int32)]) (k' := 0) (n' := 0) (s_goes1 (Sh_ciH hS)) mw_X12_goes ko_X12 rfl w_1223 w_20 w_1221 ar_X12_goes rfl ⟨rfl, rfl, rfl, rfl, rfl⟩ dX12_reissue_41 (by decide) (shk (Sh_ciH hS) 33 rfl) ?_
          refine V_if_ne 49 dX12_reissue_44 rfl (fun z_ => (by first | exact absurd (by decide) z_ | exact absurd z_ (by decide))) (fun _ => ?_)
          refine V_iconst (0 : Int32) dX12_reissue_47 (by decide) ?_
          exact V_iret rfl dX12_reissue_48 (k6 c1 c4 c6 c7)
      · replace c6 := pj_n.mp c6
        refine V_iconst (1 : Int32) dX12_reissue_35 (by decide) ?_
        refine V_goto 40 dX12_reissue_36 rfl ?_
        refine V_iconst (1 : Int32) dX12_reissue_40 (by decide) ?_
        by_cases c8 : isWi v1 0 ((zI σ 33 23) - 1)
        · refine V_cast (st' := [.int (1 : Int32), .int (1 : Int32), .int (1 : Int32), .ref 33]) rfl (by rw [jb_t c8]) rfl ?_
          refine V_callV1 (as := [.int (1 : Int32), .int (1 : Int32), .int (1 : Int32)]) (k' := 0) (n' := 0) (s_goes0 (Sh_ciH hS)) mw_X12_goes ko_X12 rfl w_1223 w_20 w_1221 ar_X12_goes rfl ⟨rfl, rfl, rfl, rfl, rfl⟩ dX12_reissue_41 (by decide) (shk (Sh_ciH hS) 33 rfl) ?_
          refine V_if_ne 49 dX12_reissue_44 rfl (fun _ => ?_) (fun z_ => (by first | exact absurd (by decide) z_ | exact absurd z_ (by decide)))
          refine V_aload_n dX12_reissue_49 rfl ?_
          refine V_iload_n dX12_reissue_50 rfl ?_
          refine V_iconst (0 : Int32) dX12_reissue_51 (by decide) ?_
          refine V_callV1 (as := [.int v1, .int (0 : Int32)]) (k' := 0) (n' := 0) (s_X12_openOnes (Sh_uI (Sh_ciH hS)) (o1 c1) (o5 c1 c4 c6 c8)) mw_X12_openOnes ko_X12 rfl w_1372 w_39 w_1370 ar_X12_openOnes rfl ⟨rfl, rfl, rfl, rfl, rfl⟩ dX12_reissue_52 (by decide) (shk (Sh_uI (Sh_ciH hS)) 33 rfl) ?_
          refine V_aload_n dX12_reissue_55 rfl ?_
          refine V_iload_n dX12_reissue_56 rfl ?_
          refine V_iconst (1 : Int32) dX12_reissue_57 (by decide) ?_
          refine V_callV1 (as := [.int v1, .int (1 : Int32)]) (k' := 0) (n' := 0) (s_X12_openOnes (Sh_uI (Sh_ciH hS)) (o1 c1) (o5 c1 c4 c6 c8)) mw_X12_openOnes ko_X12 rfl w_1372 w_39 w_1370 ar_X12_openOnes rfl ⟨rfl, rfl, rfl, rfl, rfl⟩ dX12_reissue_58 (by decide) (shk (Sh_uI (Sh_ciH hS)) 33 rfl) ?_
          refine V_iadd dX12_reissue_61 ?_
          refine V_istore_n [(0, .ref 33), (1, .int v1), (2, .int (jb (isWi v1 0 ((zI σ 33 23) - 1)))), (3, .int ((smI (ooF (uI (ciH σ) 33 49 (0 : Int32)) (8 * ix v1) (0 : Int32)) (ix (zI (uI (ciH σ) 33 49 (0 : Int32)) 52 (ix v1)))) + (smI (ooF (uI (ciH σ) 33 49 (0 : Int32)) (8 * ix v1) (1 : Int32)) (ix (zI (uI (ciH σ) 33 49 (0 : Int32)) 52 (ix v1))))))] dX12_reissue_62 rfl rfl ?_
          refine V_aload_n dX12_reissue_63 rfl ?_
          refine V_iload_n dX12_reissue_64 rfl ?_
          refine V_iconst (4 : Int32) dX12_reissue_65 (by decide) ?_
          refine V_callV0 (as := [.int v1, .int (4 : Int32)]) (k' := 0) (n' := 0) (s_X12_turns (Sh_uI (Sh_ciH hS)) (o1 c1) (o5 c1 c4 c6 c8)) mw_X12_turns ko_X12 rfl w_1378 w_40 w_1376 ar_X12_turns rfl ⟨rfl, rfl, rfl, rfl, rfl⟩ dX12_reissue_66 (by decide) (shk (Sh_uI (Sh_ciH hS)) 33 rfl) ?_
          refine V_aload_n dX12_reissue_69 rfl ?_
          refine V_aload_n dX12_reissue_70 rfl ?_
          refine V_getf (fk := 23) (Value.int (zI (trH (uI (ciH σ) 33 49 (0 : Int32)) (8 * ix v1) (4 : Int32) (ix (zI (uI (ciH σ) 33 49 (0 : Int32)) 52 (ix v1)))) 33 23)) ko_X12 rfl w_1078 dX12_reissue_71 (by decide) (shk (Sh_trH (Sh_uI (Sh_ciH hS)) _) 33 rfl) rfl ?_
          refine V_aload_n dX12_reissue_74 rfl ?_
          refine V_getf (fk := 25) (Value.ref 51) ko_X12 rfl w_1080 dX12_reissue_75 (by decide) (shk (Sh_trH (Sh_uI (Sh_ciH hS)) _) 33 rfl) (congrArg Value.ref (shr (Sh_trH (Sh_uI (Sh_ciH hS)) _) 33 25 51 (by decide))) ?_
          refine V_iload_n dX12_reissue_78 rfl ?_
          refine V_iald dX12_reissue_79 (by decide) (shk (Sh_trH (Sh_uI (Sh_ciH hS)) _) 51 rfl) (vp_l (n := 30) (shl (Sh_trH (Sh_uI (Sh_ciH hS)) _) 51 rfl) (o1 c1)) ?_
          refine V_callV0 (as := [.int (zI (trH (uI (ciH σ) 33 49 (0 : Int32)) (8 * ix v1) (4 : Int32) (ix (zI (uI (ciH σ) 33 49 (0 : Int32)) 52 (ix v1)))) 33 23), .int (zI (trH (uI (ciH σ) 33 49 (0 : Int32)) (8 * ix v1) (4 : Int32) (ix (zI (uI (ciH σ) 33 49 (0 : Int32)) 52 (ix v1)))) 51 (Int32.toNatClampNeg v1))]) (k' := 0) (n' := 0) (s_X12_makes (Sh_trH (Sh_uI (Sh_ciH hS)) _) (o6 c1 c4 c6 c8) (o7 c1 c4 c6 c8) (o8 c1 c4 c6 c8) (o9 c1 c4 c6 c8) (o10 c1 c4 c6 c8)) mw_X12_makes ko_X12 rfl w_1324 w_30 w_1322 ar_X12_makes rfl ⟨rfl, rfl, rfl, rfl, rfl⟩ dX12_reissue_80 (by decide) (shk (Sh_trH (Sh_uI (Sh_ciH hS)) _) 33 rfl) ?_
          refine V_aload_n dX12_reissue_83 rfl ?_
          refine V_getf (fk := 24) (Value.ref 50) ko_X12 rfl w_1079 dX12_reissue_84 (by decide) (shk (Sh_mkH (Sh_trH (Sh_uI (Sh_ciH hS)) _)) 33 rfl) (congrArg Value.ref (shr (Sh_mkH (Sh_trH (Sh_uI (Sh_ciH hS)) _)) 33 24 50 (by decide))) ?_
          refine V_aload_n dX12_reissue_87 rfl ?_
          refine V_getf (fk := 23) (Value.int (zI (mkH (trH (uI (ciH σ) 33 49 (0 : Int32)) (8 * ix v1) (4 : Int32) (ix (zI (uI (ciH σ) 33 49 (0 : Int32)) 52 (ix v1)))) (ix (zI (trH (uI (ciH σ) 33 49 (0 : Int32)) (8 * ix v1) (4 : Int32) (ix (zI (uI (ciH σ) 33 49 (0 : Int32)) 52 (ix v1)))) 33 23)) (zI (trH (uI (ciH σ) 33 49 (0 : Int32)) (8 * ix v1) (4 : Int32) (ix (zI (uI (ciH σ) 33 49 (0 : Int32)) 52 (ix v1)))) 51 (Int32.toNatClampNeg v1))) 33 23)) ko_X12 rfl w_1078 dX12_reissue_88 (by decide) (shk (Sh_mkH (Sh_trH (Sh_uI (Sh_ciH hS)) _)) 33 rfl) rfl ?_
          refine V_iald dX12_reissue_91 (by decide) (shk (Sh_mkH (Sh_trH (Sh_uI (Sh_ciH hS)) _)) 50 rfl) (vp_l (n := 30) (shl (Sh_mkH (Sh_trH (Sh_uI (Sh_ciH hS)) _)) 50 rfl) (o11 c1 c4 c6 c8)) ?_
          refine V_aload_n dX12_reissue_92 rfl ?_
          refine V_aload_n dX12_reissue_93 rfl ?_
          refine V_getf (fk := 23) (Value.int (zI (mkH (trH (uI (ciH σ) 33 49 (0 : Int32)) (8 * ix v1) (4 : Int32) (ix (zI (uI (ciH σ) 33 49 (0 : Int32)) 52 (ix v1)))) (ix (zI (trH (uI (ciH σ) 33 49 (0 : Int32)) (8 * ix v1) (4 : Int32) (ix (zI (uI (ciH σ) 33 49 (0 : Int32)) 52 (ix v1)))) 33 23)) (zI (trH (uI (ciH σ) 33 49 (0 : Int32)) (8 * ix v1) (4 : Int32) (ix (zI (uI (ciH σ) 33 49 (0 : Int32)) 52 (ix v1)))) 51 (Int32.toNatClampNeg v1))) 33 23)) ko_X12 rfl w_1078 dX12_reissue_94 (by decide) (shk (Sh_mkH (Sh_trH (Sh_uI (Sh_ciH hS)) _)) 33 rfl) rfl ?_
          refine V_callV1 (as := [.int (zI (mkH (trH (uI (ciH σ) 33 49 (0 : Int32)) (8 * ix v1) (4 : Int32) (ix (zI (uI (ciH σ) 33 49 (0 : Int32)) 52 (ix v1)))) (ix (zI (trH (uI (ciH σ) 33 49 (0 : Int32)) (8 * ix v1) (4 : Int32) (ix (zI (uI (ciH σ) 33 49 (0 : Int32)) 52 (ix v1)))) 33 23)) (zI (trH (uI (ciH σ) 33 49 (0 : Int32)) (8 * ix v1) (4 : Int32) (ix (zI (uI (ciH σ) 33 49 (0 : Int32)) 52 (ix v1)))) 51 (Int32.toNatClampNeg v1))) 33 23)]) (k' := 0) (n' := 0) (s_X12_taxes (Sh_mkH (Sh_trH (Sh_uI (Sh_ciH hS)) _)) (o11 c1 c4 c6 c8) (o12 c1 c4 c6 c8)) mw_X12_taxes ko_X12 rfl w_1340 w_34 w_1338 ar_X12_taxes rfl ⟨rfl, rfl, rfl, rfl, rfl⟩ dX12_reissue_97 (by decide) (shk (Sh_mkH (Sh_trH (Sh_uI (Sh_ciH hS)) _)) 33 rfl) ?_
          refine V_iadd dX12_reissue_100 ?_
          refine V_iload_n dX12_reissue_101 rfl ?_
          refine V_isub dX12_reissue_102 ?_
          refine V_istore [(0, .ref 33), (1, .int v1), (2, .int (jb (isWi v1 0 ((zI σ 33 23) - 1)))), (3, .int ((smI (ooF (uI (ciH σ) 33 49 (0 : Int32)) (8 * ix v1) (0 : Int32)) (ix (zI (uI (ciH σ) 33 49 (0 : Int32)) 52 (ix v1)))) + (smI (ooF (uI (ciH σ) 33 49 (0 : Int32)) (8 * ix v1) (1 : Int32)) (ix (zI (uI (ciH σ) 33 49 (0 : Int32)) 52 (ix v1)))))), (4, .int (((zI (mkH (trH (uI (ciH σ) 33 49 (0 : Int32)) (8 * ix v1) (4 : Int32) (ix (zI (uI (ciH σ) 33 49 (0 : Int32)) 52 (ix v1)))) (ix (zI (trH (uI (ciH σ) 33 49 (0 : Int32)) (8 * ix v1) (4 : Int32) (ix (zI (uI (ciH σ) 33 49 (0 : Int32)) 52 (ix v1)))) 33 23)) (zI (trH (uI (ciH σ) 33 49 (0 : Int32)) (8 * ix v1) (4 : Int32) (ix (zI (uI (ciH σ) 33 49 (0 : Int32)) 52 (ix v1)))) 51 (Int32.toNatClampNeg v1))) 50 (Int32.toNatClampNeg (zI (mkH (trH (uI (ciH σ) 33 49 (0 : Int32)) (8 * ix v1) (4 : Int32) (ix (zI (uI (ciH σ) 33 49 (0 : Int32)) 52 (ix v1)))) (ix (zI (trH (uI (ciH σ) 33 49 (0 : Int32)) (8 * ix v1) (4 : Int32) (ix (zI (uI (ciH σ) 33 49 (0 : Int32)) 52 (ix v1)))) 33 23)) (zI (trH (uI (ciH σ) 33 49 (0 : Int32)) (8 * ix v1) (4 : Int32) (ix (zI (uI (ciH σ) 33 49 (0 : Int32)) 52 (ix v1)))) 51 (Int32.toNatClampNeg v1))) 33 23))) + (smI (fun k => zI (mkH (trH (uI (ciH σ) 33 49 (0 : Int32)) (8 * ix v1) (4 : Int32) (ix (zI (uI (ciH σ) 33 49 (0 : Int32)) 52 (ix v1)))) (ix (zI (trH (uI (ciH σ) 33 49 (0 : Int32)) (8 * ix v1) (4 : Int32) (ix (zI (uI (ciH σ) 33 49 (0 : Int32)) 52 (ix v1)))) 33 23)) (zI (trH (uI (ciH σ) 33 49 (0 : Int32)) (8 * ix v1) (4 : Int32) (ix (zI (uI (ciH σ) 33 49 (0 : Int32)) 52 (ix v1)))) 51 (Int32.toNatClampNeg v1))) 57 (8 * ix (zI (mkH (trH (uI (ciH σ) 33 49 (0 : Int32)) (8 * ix v1) (4 : Int32) (ix (zI (uI (ciH σ) 33 49 (0 : Int32)) 52 (ix v1)))) (ix (zI (trH (uI (ciH σ) 33 49 (0 : Int32)) (8 * ix v1) (4 : Int32) (ix (zI (uI (ciH σ) 33 49 (0 : Int32)) 52 (ix v1)))) 33 23)) (zI (trH (uI (ciH σ) 33 49 (0 : Int32)) (8 * ix v1) (4 : Int32) (ix (zI (uI (ciH σ) 33 49 (0 : Int32)) 52 (ix v1)))) 51 (Int32.toNatClampNeg v1))) 33 23) + k)) (ix (zI (mkH (trH (uI (ciH σ) 33 49 (0 : Int32)) (8 * ix v1) (4 : Int32) (ix (zI (uI (ciH σ) 33 49 (0 : Int32)) 52 (ix v1)))) (ix (zI (trH (uI (ciH σ) 33 49 (0 : Int32)) (8 * ix v1) (4 : Int32) (ix (zI (uI (ciH σ) 33 49 (0 : Int32)) 52 (ix v1)))) 33 23)) (zI (trH (uI (ciH σ) 33 49 (0 : Int32)) (8 * ix v1) (4 : Int32) (ix (zI (uI (ciH σ) 33 49 (0 : Int32)) 52 (ix v1)))) 51 (Int32.toNatClampNeg v1))) 52 (ix (zI (mkH (trH (uI (ciH σ) 33 49 (0 : Int32)) (8 * ix v1) (4 : Int32) (ix (zI (uI (ciH σ) 33 49 (0 : Int32)) 52 (ix v1)))) (ix (zI (trH (uI (ciH σ) 33 49 (0 : Int32)) (8 * ix v1) (4 : Int32) (ix (zI (uI (ciH σ) 33 49 (0 : Int32)) 52 (ix v1)))) 33 23)) (zI (trH (uI (ciH σ) 33 49 (0 : Int32)) (8 * ix v1) (4 : Int32) (ix (zI (uI (ciH σ) 33 49 (0 : Int32)) 52 (ix v1)))) 51 (Int32.toNatClampNeg v1))) 33 23)))))) - ((smI (ooF (uI (ciH σ) 33 49 (0 : Int32)) (8 * ix v1) (0 : Int32)) (ix (zI (uI (ciH σ) 33 49 (0 : Int32)) 52 (ix v1)))) + (smI (ooF (uI (ciH σ) 33 49 (0 : Int32)) (8 * ix v1) (1 : Int32)) (ix (zI (uI (ciH σ) 33 49 (0 : Int32)) 52 (ix v1)))))))] dX12_reissue_103 rfl rfl ?_
          refine V_aload_n dX12_reissue_105 rfl ?_
          refine V_aload_n dX12_reissue_106 rfl ?_
          refine V_getf (fk := 25) (Value.ref 51) ko_X12 rfl w_1080 dX12_reissue_107 (by decide) (shk (Sh_mkH (Sh_trH (Sh_uI (Sh_ciH hS)) _)) 33 rfl) (congrArg Value.ref (shr (Sh_mkH (Sh_trH (Sh_uI (Sh_ciH hS)) _)) 33 25 51 (by decide))) ?_
          refine V_iload_n dX12_reissue_110 rfl ?_
          refine V_iald dX12_reissue_111 (by decide) (shk (Sh_mkH (Sh_trH (Sh_uI (Sh_ciH hS)) _)) 51 rfl) (vp_l (n := 30) (shl (Sh_mkH (Sh_trH (Sh_uI (Sh_ciH hS)) _)) 51 rfl) (o1 c1)) ?_
          refine V_iload dX12_reissue_112 rfl ?_
          refine V_callV0 (as := [.int (zI (mkH (trH (uI (ciH σ) 33 49 (0 : Int32)) (8 * ix v1) (4 : Int32) (ix (zI (uI (ciH σ) 33 49 (0 : Int32)) 52 (ix v1)))) (ix (zI (trH (uI (ciH σ) 33 49 (0 : Int32)) (8 * ix v1) (4 : Int32) (ix (zI (uI (ciH σ) 33 49 (0 : Int32)) 52 (ix v1)))) 33 23)) (zI (trH (uI (ciH σ) 33 49 (0 : Int32)) (8 * ix v1) (4 : Int32) (ix (zI (uI (ciH σ) 33 49 (0 : Int32)) 52 (ix v1)))) 51 (Int32.toNatClampNeg v1))) 51 (Int32.toNatClampNeg v1)), .int (((zI (mkH (trH (uI (ciH σ) 33 49 (0 : Int32)) (8 * ix v1) (4 : Int32) (ix (zI (uI (ciH σ) 33 49 (0 : Int32)) 52 (ix v1)))) (ix (zI (trH (uI (ciH σ) 33 49 (0 : Int32)) (8 * ix v1) (4 : Int32) (ix (zI (uI (ciH σ) 33 49 (0 : Int32)) 52 (ix v1)))) 33 23)) (zI (trH (uI (ciH σ) 33 49 (0 : Int32)) (8 * ix v1) (4 : Int32) (ix (zI (uI (ciH σ) 33 49 (0 : Int32)) 52 (ix v1)))) 51 (Int32.toNatClampNeg v1))) 50 (Int32.toNatClampNeg (zI (mkH (trH (uI (ciH σ) 33 49 (0 : Int32)) (8 * ix v1) (4 : Int32) (ix (zI (uI (ciH σ) 33 49 (0 : Int32)) 52 (ix v1)))) (ix (zI (trH (uI (ciH σ) 33 49 (0 : Int32)) (8 * ix v1) (4 : Int32) (ix (zI (uI (ciH σ) 33 49 (0 : Int32)) 52 (ix v1)))) 33 23)) (zI (trH (uI (ciH σ) 33 49 (0 : Int32)) (8 * ix v1) (4 : Int32) (ix (zI (uI (ciH σ) 33 49 (0 : Int32)) 52 (ix v1)))) 51 (Int32.toNatClampNeg v1))) 33 23))) + (smI (fun k => zI (mkH (trH (uI (ciH σ) 33 49 (0 : Int32)) (8 * ix v1) (4 : Int32) (ix (zI (uI (ciH σ) 33 49 (0 : Int32)) 52 (ix v1)))) (ix (zI (trH (uI (ciH σ) 33 49 (0 : Int32)) (8 * ix v1) (4 : Int32) (ix (zI (uI (ciH σ) 33 49 (0 : Int32)) 52 (ix v1)))) 33 23)) (zI (trH (uI (ciH σ) 33 49 (0 : Int32)) (8 * ix v1) (4 : Int32) (ix (zI (uI (ciH σ) 33 49 (0 : Int32)) 52 (ix v1)))) 51 (Int32.toNatClampNeg v1))) 57 (8 * ix (zI (mkH (trH (uI (ciH σ) 33 49 (0 : Int32)) (8 * ix v1) (4 : Int32) (ix (zI (uI (ciH σ) 33 49 (0 : Int32)) 52 (ix v1)))) (ix (zI (trH (uI (ciH σ) 33 49 (0 : Int32)) (8 * ix v1) (4 : Int32) (ix (zI (uI (ciH σ) 33 49 (0 : Int32)) 52 (ix v1)))) 33 23)) (zI (trH (uI (ciH σ) 33 49 (0 : Int32)) (8 * ix v1) (4 : Int32) (ix (zI (uI (ciH σ) 33 49 (0 : Int32)) 52 (ix v1)))) 51 (Int32.toNatClampNeg v1))) 33 23) + k)) (ix (zI (mkH (trH (uI (ciH σ) 33 49 (0 : Int32)) (8 * ix v1) (4 : Int32) (ix (zI (uI (ciH σ) 33 49 (0 : Int32)) 52 (ix v1)))) (ix (zI (trH (uI (ciH σ) 33 49 (0 : Int32)) (8 * ix v1) (4 : Int32) (ix (zI (uI (ciH σ) 33 49 (0 : Int32)) 52 (ix v1)))) 33 23)) (zI (trH (uI (ciH σ) 33 49 (0 : Int32)) (8 * ix v1) (4 : Int32) (ix (zI (uI (ciH σ) 33 49 (0 : Int32)) 52 (ix v1)))) 51 (Int32.toNatClampNeg v1))) 52 (ix (zI (mkH (trH (uI (ciH σ) 33 49 (0 : Int32)) (8 * ix v1) (4 : Int32) (ix (zI (uI (ciH σ) 33 49 (0 : Int32)) 52 (ix v1)))) (ix (zI (trH (uI (ciH σ) 33 49 (0 : Int32)) (8 * ix v1) (4 : Int32) (ix (zI (uI (ciH σ) 33 49 (0 : Int32)) 52 (ix v1)))) 33 23)) (zI (trH (uI (ciH σ) 33 49 (0 : Int32)) (8 * ix v1) (4 : Int32) (ix (zI (uI (ciH σ) 33 49 (0 : Int32)) 52 (ix v1)))) 51 (Int32.toNatClampNeg v1))) 33 23)))))) - ((smI (ooF (uI (ciH σ) 33 49 (0 : Int32)) (8 * ix v1) (0 : Int32)) (ix (zI (uI (ciH σ) 33 49 (0 : Int32)) 52 (ix v1)))) + (smI (ooF (uI (ciH σ) 33 49 (0 : Int32)) (8 * ix v1) (1 : Int32)) (ix (zI (uI (ciH σ) 33 49 (0 : Int32)) 52 (ix v1))))))]) (k' := 0) (n' := 0) (s_X12_buys (Sh_mkH (Sh_trH (Sh_uI (Sh_ciH hS)) _)) (o13 c1 c4 c6 c8)) mw_X12_buys ko_X12 rfl w_1344 w_35 w_1342 ar_X12_buys rfl ⟨rfl, rfl, rfl, rfl, rfl⟩ dX12_reissue_114 (by decide) (shk (Sh_mkH (Sh_trH (Sh_uI (Sh_ciH hS)) _)) 33 rfl) ?_
          refine V_aload_n dX12_reissue_117 rfl ?_
          refine V_dup dX12_reissue_118 rfl ?_
          refine V_getf (fk := 23) (Value.int (zI (uJ (uJ (mkH (trH (uI (ciH σ) 33 49 (0 : Int32)) (8 * ix v1) (4 : Int32) (ix (zI (uI (ciH σ) 33 49 (0 : Int32)) 52 (ix v1)))) (ix (zI (trH (uI (ciH σ) 33 49 (0 : Int32)) (8 * ix v1) (4 : Int32) (ix (zI (uI (ciH σ) 33 49 (0 : Int32)) 52 (ix v1)))) 33 23)) (zI (trH (uI (ciH σ) 33 49 (0 : Int32)) (8 * ix v1) (4 : Int32) (ix (zI (uI (ciH σ) 33 49 (0 : Int32)) 52 (ix v1)))) 51 (Int32.toNatClampNeg v1))) 70 (ix (zI (mkH (trH (uI (ciH σ) 33 49 (0 : Int32)) (8 * ix v1) (4 : Int32) (ix (zI (uI (ciH σ) 33 49 (0 : Int32)) 52 (ix v1)))) (ix (zI (trH (uI (ciH σ) 33 49 (0 : Int32)) (8 * ix v1) (4 : Int32) (ix (zI (uI (ciH σ) 33 49 (0 : Int32)) 52 (ix v1)))) 33 23)) (zI (trH (uI (ciH σ) 33 49 (0 : Int32)) (8 * ix v1) (4 : Int32) (ix (zI (uI (ciH σ) 33 49 (0 : Int32)) 52 (ix v1)))) 51 (Int32.toNatClampNeg v1))) 51 (Int32.toNatClampNeg v1))) (zJ (mkH (trH (uI (ciH σ) 33 49 (0 : Int32)) (8 * ix v1) (4 : Int32) (ix (zI (uI (ciH σ) 33 49 (0 : Int32)) 52 (ix v1)))) (ix (zI (trH (uI (ciH σ) 33 49 (0 : Int32)) (8 * ix v1) (4 : Int32) (ix (zI (uI (ciH σ) 33 49 (0 : Int32)) 52 (ix v1)))) 33 23)) (zI (trH (uI (ciH σ) 33 49 (0 : Int32)) (8 * ix v1) (4 : Int32) (ix (zI (uI (ciH σ) 33 49 (0 : Int32)) 52 (ix v1)))) 51 (Int32.toNatClampNeg v1))) 70 (ix (zI (mkH (trH (uI (ciH σ) 33 49 (0 : Int32)) (8 * ix v1) (4 : Int32) (ix (zI (uI (ciH σ) 33 49 (0 : Int32)) 52 (ix v1)))) (ix (zI (trH (uI (ciH σ) 33 49 (0 : Int32)) (8 * ix v1) (4 : Int32) (ix (zI (uI (ciH σ) 33 49 (0 : Int32)) 52 (ix v1)))) 33 23)) (zI (trH (uI (ciH σ) 33 49 (0 : Int32)) (8 * ix v1) (4 : Int32) (ix (zI (uI (ciH σ) 33 49 (0 : Int32)) 52 (ix v1)))) 51 (Int32.toNatClampNeg v1))) 51 (Int32.toNatClampNeg v1))) + Int32.toInt64 (((zI (mkH (trH (uI (ciH σ) 33 49 (0 : Int32)) (8 * ix v1) (4 : Int32) (ix (zI (uI (ciH σ) 33 49 (0 : Int32)) 52 (ix v1)))) (ix (zI (trH (uI (ciH σ) 33 49 (0 : Int32)) (8 * ix v1) (4 : Int32) (ix (zI (uI (ciH σ) 33 49 (0 : Int32)) 52 (ix v1)))) 33 23)) (zI (trH (uI (ciH σ) 33 49 (0 : Int32)) (8 * ix v1) (4 : Int32) (ix (zI (uI (ciH σ) 33 49 (0 : Int32)) 52 (ix v1)))) 51 (Int32.toNatClampNeg v1))) 50 (Int32.toNatClampNeg (zI (mkH (trH (uI (ciH σ) 33 49 (0 : Int32)) (8 * ix v1) (4 : Int32) (ix (zI (uI (ciH σ) 33 49 (0 : Int32)) 52 (ix v1)))) (ix (zI (trH (uI (ciH σ) 33 49 (0 : Int32)) (8 * ix v1) (4 : Int32) (ix (zI (uI (ciH σ) 33 49 (0 : Int32)) 52 (ix v1)))) 33 23)) (zI (trH (uI (ciH σ) 33 49 (0 : Int32)) (8 * ix v1) (4 : Int32) (ix (zI (uI (ciH σ) 33 49 (0 : Int32)) 52 (ix v1)))) 51 (Int32.toNatClampNeg v1))) 33 23))) + (smI (fun k => zI (mkH (trH (uI (ciH σ) 33 49 (0 : Int32)) (8 * ix v1) (4 : Int32) (ix (zI (uI (ciH σ) 33 49 (0 : Int32)) 52 (ix v1)))) (ix (zI (trH (uI (ciH σ) 33 49 (0 : Int32)) (8 * ix v1) (4 : Int32) (ix (zI (uI (ciH σ) 33 49 (0 : Int32)) 52 (ix v1)))) 33 23)) (zI (trH (uI (ciH σ) 33 49 (0 : Int32)) (8 * ix v1) (4 : Int32) (ix (zI (uI (ciH σ) 33 49 (0 : Int32)) 52 (ix v1)))) 51 (Int32.toNatClampNeg v1))) 57 (8 * ix (zI (mkH (trH (uI (ciH σ) 33 49 (0 : Int32)) (8 * ix v1) (4 : Int32) (ix (zI (uI (ciH σ) 33 49 (0 : Int32)) 52 (ix v1)))) (ix (zI (trH (uI (ciH σ) 33 49 (0 : Int32)) (8 * ix v1) (4 : Int32) (ix (zI (uI (ciH σ) 33 49 (0 : Int32)) 52 (ix v1)))) 33 23)) (zI (trH (uI (ciH σ) 33 49 (0 : Int32)) (8 * ix v1) (4 : Int32) (ix (zI (uI (ciH σ) 33 49 (0 : Int32)) 52 (ix v1)))) 51 (Int32.toNatClampNeg v1))) 33 23) + k)) (ix (zI (mkH (trH (uI (ciH σ) 33 49 (0 : Int32)) (8 * ix v1) (4 : Int32) (ix (zI (uI (ciH σ) 33 49 (0 : Int32)) 52 (ix v1)))) (ix (zI (trH (uI (ciH σ) 33 49 (0 : Int32)) (8 * ix v1) (4 : Int32) (ix (zI (uI (ciH σ) 33 49 (0 : Int32)) 52 (ix v1)))) 33 23)) (zI (trH (uI (ciH σ) 33 49 (0 : Int32)) (8 * ix v1) (4 : Int32) (ix (zI (uI (ciH σ) 33 49 (0 : Int32)) 52 (ix v1)))) 51 (Int32.toNatClampNeg v1))) 52 (ix (zI (mkH (trH (uI (ciH σ) 33 49 (0 : Int32)) (8 * ix v1) (4 : Int32) (ix (zI (uI (ciH σ) 33 49 (0 : Int32)) 52 (ix v1)))) (ix (zI (trH (uI (ciH σ) 33 49 (0 : Int32)) (8 * ix v1) (4 : Int32) (ix (zI (uI (ciH σ) 33 49 (0 : Int32)) 52 (ix v1)))) 33 23)) (zI (trH (uI (ciH σ) 33 49 (0 : Int32)) (8 * ix v1) (4 : Int32) (ix (zI (uI (ciH σ) 33 49 (0 : Int32)) 52 (ix v1)))) 51 (Int32.toNatClampNeg v1))) 33 23)))))) - ((smI (ooF (uI (ciH σ) 33 49 (0 : Int32)) (8 * ix v1) (0 : Int32)) (ix (zI (uI (ciH σ) 33 49 (0 : Int32)) 52 (ix v1)))) + (smI (ooF (uI (ciH σ) 33 49 (0 : Int32)) (8 * ix v1) (1 : Int32)) (ix (zI (uI (ciH σ) 33 49 (0 : Int32)) 52 (ix v1)))))))) 33 48 (zJ (mkH (trH (uI (ciH σ) 33 49 (0 : Int32)) (8 * ix v1) (4 : Int32) (ix (zI (uI (ciH σ) 33 49 (0 : Int32)) 52 (ix v1)))) (ix (zI (trH (uI (ciH σ) 33 49 (0 : Int32)) (8 * ix v1) (4 : Int32) (ix (zI (uI (ciH σ) 33 49 (0 : Int32)) 52 (ix v1)))) 33 23)) (zI (trH (uI (ciH σ) 33 49 (0 : Int32)) (8 * ix v1) (4 : Int32) (ix (zI (uI (ciH σ) 33 49 (0 : Int32)) 52 (ix v1)))) 51 (Int32.toNatClampNeg v1))) 33 48 + Int32.toInt64 (((zI (mkH (trH (uI (ciH σ) 33 49 (0 : Int32)) (8 * ix v1) (4 : Int32) (ix (zI (uI (ciH σ) 33 49 (0 : Int32)) 52 (ix v1)))) (ix (zI (trH (uI (ciH σ) 33 49 (0 : Int32)) (8 * ix v1) (4 : Int32) (ix (zI (uI (ciH σ) 33 49 (0 : Int32)) 52 (ix v1)))) 33 23)) (zI (trH (uI (ciH σ) 33 49 (0 : Int32)) (8 * ix v1) (4 : Int32) (ix (zI (uI (ciH σ) 33 49 (0 : Int32)) 52 (ix v1)))) 51 (Int32.toNatClampNeg v1))) 50 (Int32.toNatClampNeg (zI (mkH (trH (uI (ciH σ) 33 49 (0 : Int32)) (8 * ix v1) (4 : Int32) (ix (zI (uI (ciH σ) 33 49 (0 : Int32)) 52 (ix v1)))) (ix (zI (trH (uI (ciH σ) 33 49 (0 : Int32)) (8 * ix v1) (4 : Int32) (ix (zI (uI (ciH σ) 33 49 (0 : Int32)) 52 (ix v1)))) 33 23)) (zI (trH (uI (ciH σ) 33 49 (0 : Int32)) (8 * ix v1) (4 : Int32) (ix (zI (uI (ciH σ) 33 49 (0 : Int32)) 52 (ix v1)))) 51 (Int32.toNatClampNeg v1))) 33 23))) + (smI (fun k => zI (mkH (trH (uI (ciH σ) 33 49 (0 : Int32)) (8 * ix v1) (4 : Int32) (ix (zI (uI (ciH σ) 33 49 (0 : Int32)) 52 (ix v1)))) (ix (zI (trH (uI (ciH σ) 33 49 (0 : Int32)) (8 * ix v1) (4 : Int32) (ix (zI (uI (ciH σ) 33 49 (0 : Int32)) 52 (ix v1)))) 33 23)) (zI (trH (uI (ciH σ) 33 49 (0 : Int32)) (8 * ix v1) (4 : Int32) (ix (zI (uI (ciH σ) 33 49 (0 : Int32)) 52 (ix v1)))) 51 (Int32.toNatClampNeg v1))) 57 (8 * ix (zI (mkH (trH (uI (ciH σ) 33 49 (0 : Int32)) (8 * ix v1) (4 : Int32) (ix (zI (uI (ciH σ) 33 49 (0 : Int32)) 52 (ix v1)))) (ix (zI (trH (uI (ciH σ) 33 49 (0 : Int32)) (8 * ix v1) (4 : Int32) (ix (zI (uI (ciH σ) 33 49 (0 : Int32)) 52 (ix v1)))) 33 23)) (zI (trH (uI (ciH σ) 33 49 (0 : Int32)) (8 * ix v1) (4 : Int32) (ix (zI (uI (ciH σ) 33 49 (0 : Int32)) 52 (ix v1)))) 51 (Int32.toNatClampNeg v1))) 33 23) + k)) (ix (zI (mkH (trH (uI (ciH σ) 33 49 (0 : Int32)) (8 * ix v1) (4 : Int32) (ix (zI (uI (ciH σ) 33 49 (0 : Int32)) 52 (ix v1)))) (ix (zI (trH (uI (ciH σ) 33 49 (0 : Int32)) (8 * ix v1) (4 : Int32) (ix (zI (uI (ciH σ) 33 49 (0 : Int32)) 52 (ix v1)))) 33 23)) (zI (trH (uI (ciH σ) 33 49 (0 : Int32)) (8 * ix v1) (4 : Int32) (ix (zI (uI (ciH σ) 33 49 (0 : Int32)) 52 (ix v1)))) 51 (Int32.toNatClampNeg v1))) 52 (ix (zI (mkH (trH (uI (ciH σ) 33 49 (0 : Int32)) (8 * ix v1) (4 : Int32) (ix (zI (uI (ciH σ) 33 49 (0 : Int32)) 52 (ix v1)))) (ix (zI (trH (uI (ciH σ) 33 49 (0 : Int32)) (8 * ix v1) (4 : Int32) (ix (zI (uI (ciH σ) 33 49 (0 : Int32)) 52 (ix v1)))) 33 23)) (zI (trH (uI (ciH σ) 33 49 (0 : Int32)) (8 * ix v1) (4 : Int32) (ix (zI (uI (ciH σ) 33 49 (0 : Int32)) 52 (ix v1)))) 51 (Int32.toNatClampNeg v1))) 33 23)))))) - ((smI (ooF (uI (ciH σ) 33 49 (0 : Int32)) (8 * ix v1) (0 : Int32)) (ix (zI (uI (ciH σ) 33 49 (0 : Int32)) 52 (ix v1)))) + (smI (ooF (uI (ciH σ) 33 49 (0 : Int32)) (8 * ix v1) (1 : Int32)) (ix (zI (uI (ciH σ) 33 49 (0 : Int32)) 52 (ix v1)))))))) 33 23)) ko_X12 rfl w_1078 dX12_reissue_119 (by decide) (shk (Sh_uJ (Sh_uJ (Sh_mkH (Sh_trH (Sh_uI (Sh_ciH hS)) _)))) 33 rfl) rfl ?_
          refine V_iconst (1 : Int32) dX12_reissue_122 (by decide) ?_
          refine V_iadd dX12_reissue_123 ?_
          refine V_puti (fk := 23) ko_X12 rfl w_1078 (Or.inl rfl) dX12_reissue_124 rfl (by decide) (shk (Sh_uJ (Sh_uJ (Sh_mkH (Sh_trH (Sh_uI (Sh_ciH hS)) _)))) 33 rfl) ?_
          refine V_iload dX12_reissue_127 rfl ?_
          exact V_iret rfl dX12_reissue_129 (k7 c1 c4 c6 c8)
        · refine V_cast (st' := [.int (1 : Int32), .int (1 : Int32), .int (0 : Int32), .ref 33]) rfl (by rw [jb_f c8]) rfl ?_
          refine V_callV1 (as := [.int (0 : Int32), .int (1 : Int32), .int (1 : Int32)]) (k' := 0) (n' := 0) (s_goes1 (Sh_ciH hS)) mw_X12_goes ko_X12 rfl w_1223 w_20 w_1221 ar_X12_goes rfl ⟨rfl, rfl, rfl, rfl, rfl⟩ dX12_reissue_41 (by decide) (shk (Sh_ciH hS) 33 rfl) ?_
          refine V_if_ne 49 dX12_reissue_44 rfl (fun z_ => (by first | exact absurd (by decide) z_ | exact absurd z_ (by decide))) (fun _ => ?_)
          refine V_iconst (0 : Int32) dX12_reissue_47 (by decide) ?_
          exact V_iret rfl dX12_reissue_48 (k8 c1 c4 c6 c8)

theorem s_X12_issue {g : GP} {Q : AH → Option Value → Prop} {σ : AH} {v1 : Int32} (hS : Sh σ) (hP : PO σ) (hC : CA σ) (hL : vp_in (zI σ 33 16) 9) (hN : vp_in (zI σ 33 23) 31) (hA : NZ σ)
    (q1 : ¬ isCa v1 → Q (uI (ciH σ) 33 49 (1 : Int32)) (some (.int 0)))
    (q2 : isCa v1 → ¬ cnF σ → Q (uI (ciH σ) 33 49 (2 : Int32)) (some (.int 0)))
    (q0 : isCa v1 → cnF σ → Q (isH σ v1) (some (.int (zI σ 33 23 + 1 - 1)))) :
    Ct g mX12_issue [.ref 33, .int v1] σ Q := by
  have hE : EqP (uI (ciH σ) 33 49 0) σ := EqP_33 EqP_ciH (by decide)
  have e1 : zI (ciH σ) 33 23 = zI σ 33 23 := ciH_I (by decide)
  have e2 : ∀ t, zI (mkH (uI (ciH σ) 33 49 0) t v1) 33 23 = zI σ 33 23 := fun t => (mkH_33 (by decide)).trans e1
  have e3 : ∀ t, zI (mkH (uI (ciH σ) 33 49 0) t v1) 52 t = zI σ 33 16 := fun t => (mkH_T (by decide)).trans hE.2.2.2.1
  have h30 : cnF σ → vp_in (zI σ 33 23) 30 := fun c => vp_pl (n := 30) hN (by decide) c.1.1
  refine Ct_of (by decide +kernel) rfl rfl (b_X12_issue_0 hS hP hL (fun _ _ => PO_eq hE hP) (fun _ _ => CA_eq hE hC) (fun _ _ => by rw [hE.2.2.2.1]; exact hL) (fun _ c => by rw [e1]; exact h30 c) (fun _ _ => NZ_eq hE hA) (fun _ c => ?_) (fun _ c => ?_) (fun c _ => isCa_vp c) (fun c c2 => ?_) q2 q1)
  · rw [e2]; exact h30 c
  · rw [e1, e2, e3]; exact hL
  · have q := q0 c c2
    rw [isH, nwP, nwH, show zI (uI (ciH σ) 33 49 0) 33 23 = zI σ 33 23 from e1] at q
    simp only [e1, zI_uJ, e2]
    exact q
set_option maxRecDepth 100000 in
set_option maxHeartbeats 4000000 in
theorem s_X12_endorse {g : GP} {Q : AH → Option Value → Prop} {v1 : Int32} {v2 : Int32} {v3 : Int32} {σ : AH} (hS : Sh σ) (hN : vp_in (zI σ 33 23) 31) (hv : isWi v1 0 (zI σ 33 23 - 1) ∧ isWi v2 0 (zI σ 52 (ix v1) - 1) → vp_in (8 * v1 + v2) 240)
    (q1 : ¬ ((isWi v1 0 (zI σ 33 23 - 1) ∧ isWi v2 0 (zI σ 52 (ix v1) - 1)) ∧ isCa v3) → Q (uI σ 33 49 (1 : Int32)) (some (.int 0)))
    (q2 : ((isWi v1 0 (zI σ 33 23 - 1) ∧ isWi v2 0 (zI σ 52 (ix v1) - 1)) ∧ isCa v3) → ¬ (zI σ 55 (ix (8 * v1 + v2)) = 0 ∧ ¬ zI σ 58 (ix (8 * v1 + v2)) = v3) → Q (uI σ 33 49 (2 : Int32)) (some (.int 0)))
    (q0 : ((isWi v1 0 (zI σ 33 23 - 1) ∧ isWi v2 0 (zI σ 52 (ix v1) - 1)) ∧ isCa v3) → (zI σ 55 (ix (8 * v1 + v2)) = 0 ∧ ¬ zI σ 58 (ix (8 * v1 + v2)) = v3) → Q (uI (uI σ 33 49 0) 58 (ix (8 * v1 + v2)) v3) (some (.int (zI σ 58 (ix (8 * v1 + v2)))))) :
    Ct g mX12_endorse [.ref 33, .int v1, .int v2, .int v3] σ Q := by
  refine Ct_of (by decide +kernel) rfl rfl ?_
  by_cases a1 : (isWi v1 0 (zI σ 33 23 - 1) ∧ isWi v2 0 (zI σ 52 (ix v1) - 1)) ∧ isCa v3
  · by_cases a2 : zI σ 55 (ix (8 * v1 + v2)) = 0 ∧ ¬ zI σ 58 (ix (8 * v1 + v2)) = v3
    · have q := q0 a1 a2
      clear q0 q1 q2
      obtain ⟨x1_0, x1_1⟩ := id a1
      obtain ⟨x2_0, x2_1⟩ := id a2
      all_goals refine b_X12_endorse_0 hS ?_ ?_ ?_ ?_ ?_ ?_ ?_
      all_goals first | (intros; contradiction) | (intros; with_reducible exact hN) | (intros; with_reducible exact hv (by assumption)) | (intros; exact q)
    · have q := q2 a1 a2
      clear q0 q1 q2
      obtain ⟨x1_0, x1_1⟩ := id a1
      all_goals refine b_X12_endorse_0 hS ?_ ?_ ?_ ?_ ?_ ?_ ?_
      all_goals first | (intros; with_reducible exact q) | (intros; contradiction) | (intros; with_reducible exact hN) | (intros; with_reducible exact hv (by assumption)) | (intros; with_reducible exact absurd ⟨(by assumption), (by assumption)⟩ a2) | (intros; exact q) | (intros; exfalso; simp_all; done)
  · have q := q1 a1
    clear q0 q1 q2
    all_goals refine b_X12_endorse_0 hS ?_ ?_ ?_ ?_ ?_ ?_ ?_
    all_goals first | (intros; with_reducible exact q) | (intros; contradiction) | (intros; with_reducible exact hN) | (intros; with_reducible exact hv (by assumption)) | (intros; with_reducible exact absurd ⟨⟨(by assumption), (by assumption)⟩, (by assumption)⟩ a1) | (intros; exact q) | (intros; exfalso; simp_all; done)
/-- what a refund leaves of the shares, and what it gives -/
def rfH (σ : AH) (x : Int32) : AH := trH (uI σ 33 49 0) (8 * ix x) 3 (ix (zI σ 52 (ix x)))
def rfA (σ : AH) (x : Int32) : Int32 := smI (ooF σ (8 * ix x) 0) (ix (zI σ 52 (ix x)))
def rfB (σ : AH) (x : Int32) : Int32 := smI (ooF σ (8 * ix x) 1) (ix (zI σ 52 (ix x)))
def rfG (σ : AH) (x : Int32) : Int32 := rfA σ x - Int64.toInt32 ((Int32.toInt64 (rfA σ x) * Int32.toInt64 (zI σ 33 15) + 99) / 100) + rfB σ x
theorem s_X12_refund {g : GP} {Q : AH → Option Value → Prop} {σ : AH} {v1 : Int32} (hS : Sh σ) (hN : vp_in (zI σ 33 23) 31) (hM : isWi v1 0 (zI σ 33 23 - 1) → vp_in (zI σ 52 (ix v1)) 9 ∧ vp_in (zI σ 51 (ix v1)) 5)
    (q1 : ¬ isWi v1 0 (zI σ 33 23 - 1) → Q (uI σ 33 49 (1 : Int32)) (some (.int 0)))
    (q2 : isWi v1 0 (zI σ 33 23 - 1) → ¬ opF σ (8 * ix v1) (ix (zI σ 52 (ix v1))) → Q (uI σ 33 49 (2 : Int32)) (some (.int 0)))
    (q0 : isWi v1 0 (zI σ 33 23 - 1) → opF σ (8 * ix v1) (ix (zI σ 52 (ix v1))) → Q (byH (rfH σ v1) (zI σ 51 (ix v1)) (-(rfG σ v1))) (some (.int (rfG σ v1)))) :
    Ct g mX12_refund [.ref 33, .int v1] σ Q := by
  have e51 : ∀ d, zI (trH (uI σ 33 49 0) (8 * ix v1) 3 d) 51 (ix v1) = zI σ 51 (ix v1) := fun d => by rw [trH_I, if_neg (fun q => absurd q.1 (by decide))]; rfl
  refine Ct_of (by decide +kernel) rfl rfl (b_X12_refund_0 hS (fun c c2 => absurd c2 c) (fun c _ => q1 c) (fun c => isWi_vp hN (by decide) c) (fun c => (hM c).1) (fun c c2 _ => q2 c c2) (fun c _ c2 => absurd c c2) (fun c _ _ => (hM c).1) (fun c _ _ => ?_) (fun c c2 _ => ?_) (fun c _ c2 => absurd c c2))
  · rw [e51]; exact (hM c).2
  · have q := q0 c c2
    rw [← e51] at q
    exact q
/-- what a ticket that is reissued still had -/
def riH (σ : AH) (x : Int32) : AH := trH (uI (ciH σ) 33 49 0) (8 * ix x) 4 (ix (zI σ 52 (ix x)))
noncomputable def riG (σ : AH) (x : Int32) : Int32 := nwP (riH σ x) (zI σ 51 (ix x)) - (rfA σ x + rfB σ x)
noncomputable def reH (σ : AH) (x : Int32) : AH := uI (byH (nwH (riH σ x) (zI σ 51 (ix x))) (zI σ 51 (ix x)) (riG σ x)) 33 23 (zI σ 33 23 + 1)
theorem s_X12_reissue {g : GP} {Q : AH → Option Value → Prop} {σ : AH} {v1 : Int32} (hS : Sh σ) (hP : PO σ) (hC : CA σ) (hL : vp_in (zI σ 33 16) 9) (hA : NZ σ) (hN : vp_in (zI σ 33 23) 31) (hM : isWi v1 0 (zI σ 33 23 - 1) → vp_in (zI σ 52 (ix v1)) 9 ∧ vp_in (zI σ 51 (ix v1)) 5)
    (q1 : ¬ isWi v1 0 (zI σ 33 23 - 1) → Q (uI σ 33 49 (1 : Int32)) (some (.int 0)))
    (q2 : isWi v1 0 (zI σ 33 23 - 1) → ¬ opF σ (8 * ix v1) (ix (zI σ 52 (ix v1))) → Q (uI σ 33 49 (2 : Int32)) (some (.int 0)))
    (q3 : isWi v1 0 (zI σ 33 23 - 1) → opF σ (8 * ix v1) (ix (zI σ 52 (ix v1))) → ¬ cnF σ → Q (uI (ciH σ) 33 49 (2 : Int32)) (some (.int 0)))
    (q0 : isWi v1 0 (zI σ 33 23 - 1) → opF σ (8 * ix v1) (ix (zI σ 52 (ix v1))) → cnF σ → Q (reH σ v1) (some (.int (riG σ v1)))) :
    Ct g mX12_reissue [.ref 33, .int v1] σ Q := by
  have c1 : ∀ a k, ¬ (a = 33 ∧ (k = 21 ∨ k = 22 ∨ k = 49)) → zI (uI (ciH σ) 33 49 0) a k = zI σ a k := fun a k h => by
    rw [zI_uI, if_neg (by omega), ciH_I (by omega)]
  have e52 : zI (uI (ciH σ) 33 49 0) 52 (ix v1) = zI σ 52 (ix v1) := c1 _ _ (by omega)
  have eT : ∀ a k, a ≠ 55 → ¬ (a = 33 ∧ (k = 21 ∨ k = 22 ∨ k = 49)) → zI (riH σ v1) a k = zI σ a k := fun a k h h2 => by
    rw [riH, trH_I, if_neg (fun q => h q.1), c1 a k h2]
  have hE : EqP (riH σ v1) σ := EqP_tr (EqP_trH _) (EqP_33 EqP_ciH (by decide))
  have e23 : zI (riH σ v1) 33 23 = zI σ 33 23 := eT _ _ (by decide) (by decide)
  have e51 : zI (riH σ v1) 51 (ix v1) = zI σ 51 (ix v1) := eT _ _ (by decide) (by omega)
  have hoo : ∀ z, ooF (uI (ciH σ) 33 49 0) (8 * ix v1) z = ooF σ (8 * ix v1) z := fun z => by
    funext k
    rw [ooF, ooF, c1 _ _ (by omega), c1 _ _ (by omega), c1 _ _ (by omega)]
  have h30 : cnF σ → vp_in (zI σ 33 23) 30 := fun c => vp_pl (n := 30) hN (by decide) c.1.1
  have e2 : ∀ y t, zI (mkH (riH σ v1) t y) 33 23 = zI σ 33 23 := fun y t => (mkH_33 (by decide)).trans e23
  have e3 : ∀ y t, zI (mkH (riH σ v1) t y) 52 t = zI σ 33 16 := fun y t => (mkH_T (by decide)).trans hE.2.2.2.1
  have hri : trH (uI (ciH σ) 33 49 0) (8 * ix v1) 4 (ix (zI (uI (ciH σ) 33 49 0) 52 (ix v1))) = riH σ v1 := by rw [e52, riH]
  have e4 : isWi v1 0 (zI σ 33 23 - 1) → cnF σ → ∀ y, zI (mkH (riH σ v1) (ix (zI σ 33 23)) y) 51 (ix v1) = zI σ 51 (ix v1) := fun w c y => by
    obtain ⟨n, hn, en⟩ := vp_in_of hN (by decide)
    have hv := isWi_vp (m := n) (n := zI σ 33 23) (by rw [en]; exact vp_in_nI (by omega) (by omega)) (by omega) w
    obtain ⟨t, ht, rfl⟩ := vp_in_of hv (by omega)
    rw [mkH_o (Or.inr (Or.inr (Or.inl ⟨by decide, by decide, by rw [en, ix, ix, cl0 (by omega), cl0 (by omega)]; omega⟩))) (by decide)]
    exact e51
  have h30' : cnF σ → vp_in (zI σ 33 23) 30 := h30
  refine Ct_of (by decide +kernel) rfl rfl (b_X12_reissue_0 hS (fun c c2 => absurd c2 c) (fun c _ => q1 c) (fun c => isWi_vp hN (by decide) c) (fun c => (hM c).1) (fun c c2 _ => q2 c c2) (fun c _ c2 => absurd c c2) (fun _ _ => hP) (fun _ _ => hL) (fun c c2 c3 _ => q3 c c2 c3) (fun c _ _ c2 => absurd c c2) (fun c _ _ _ => by rw [e52]; exact (hM c).1) ?_ ?_ ?_ ?_ ?_ ?_ ?_ ?_ ?_ (fun c _ _ c2 => absurd c c2))
  all_goals
    intro c c2 c3 _
    rw [hri]
  · exact PO_eq hE hP
  · exact CA_eq hE hC
  · rw [hE.2.2.2.1]; exact hL
  · rw [e23]; exact h30 c3
  · exact NZ_eq hE hA
  · rw [e2]; exact h30 c3
  · rw [e23, e2, e3]; exact hL
  · rw [e23, e51, e4 c c3]; exact (hM c).2
  · have q := q0 c c2 c3
    rw [reH, riG, nwP, nwH, rfA, rfB, e23] at q
    simp only [e51, e23, zI_uJ, e2, e4 c c3, hoo, e52]
    exact q
