/-! ===== the reference: cash ===== -/
theorem s_X12_cashF {g : GP} {σ : AH} {x : Int32} (hS : Sh σ) : Ct g mX12_cash [.ref 33, .int x] σ (FQ (uI σ 33 49 (if isCa x then 0 else 1)) (some (.long (if isCa x then zJ σ 70 (ix x) else 0)))) := by
  refine s_X12_cash hS (fun h => ?_) (fun h => ?_)
  · rw [if_neg h, if_neg h]; exact fq
  · rw [if_pos h, if_pos h]; exact fq
set_option maxRecDepth 100000 in
set_option maxHeartbeats 4000000 in
theorem b_X12_cashAnew_0 {g : GP} {CX : State → Array Value → Prop} {Q : AH → Option Value → Prop} {X : AH → String → Prop} {v1 : Int32} {σ : AH}
    (hS : Sh σ)
    (k1 : Q (uI σ 33 49 (if isCa v1 then 0 else 1)) (some (.long (if isCa v1 then zJ σ 70 (ix v1) else 0)))) :
    V g mX12_cashAnew (Em g mX12_cashAnew Q X) CX 0 0 0 [(0, .ref 33), (1, .int v1)] [] σ := by
  refine V_aload_n dX12_cashAnew_0 rfl ?_
  refine V_iload_n dX12_cashAnew_1 rfl ?_
  refine V_callV1 (as := [.int v1]) (k' := 0) (n' := 0) (s_X12_cashF hS) mw_X12_cash ko_X12 rfl w_1437 w_1438 w_1444 ar_X12_cash rfl ⟨rfl, rfl, rfl, rfl, rfl⟩ dX12_cashAnew_2 (by decide) (shk hS 33 rfl) ?_
  exact V_lret rfl dX12_cashAnew_5 k1

theorem s_X12_cashAnew {g : GP} {Q : AH → Option Value → Prop} {v1 : Int32} {σ : AH} (hS : Sh σ)
    (q1 : ¬ isCa v1 → Q (uI σ 33 49 (1 : Int32)) (some (.long 0))) (q0 : isCa v1 → Q (uI σ 33 49 0) (some (.long (zJ σ 70 (ix v1))))) :
    Ct g mX12_cashAnew [.ref 33, .int v1] σ Q := by
  refine Ct_of (by decide +kernel) rfl rfl (b_X12_cashAnew_0 hS ?_)
  by_cases h : isCa v1
  · rw [if_pos h, if_pos h]; exact q0 h
  · rw [if_neg h, if_neg h]; exact q1 h
