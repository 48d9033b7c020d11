/-! ===== the law: a call that may throw, and its catches ===== -/
set_option maxRecDepth 100000 in
set_option maxHeartbeats 4000000 in
theorem b_L_cash_0 {g : GP} {CX : State → Array Value → Prop} {E : ET} {v1 : Int32} {σ : AH}
    (k1 : V g mL_cash E CX 1 6 2 [(0, .ref 2), (1, .int v1)] [.int v1, .ref 2] σ) :
    V g mL_cash E CX 1 6 0 [(0, .ref 2), (1, .int v1)] [] σ := by
  refine V_aload_n dL_cash_0 rfl ?_
  refine V_iload_n dL_cash_1 rfl ?_
  exact k1

set_option maxRecDepth 100000 in
set_option maxHeartbeats 4000000 in
theorem b_L_cashAnew_0 {g : GP} {CX : State → Array Value → Prop} {E : ET} {v1 : Int32} {σ : AH}
    (k1 : V g mL_cashAnew E CX 1 6 2 [(0, .ref 2), (1, .int v1)] [.int v1, .ref 2] σ) :
    V g mL_cashAnew E CX 1 6 0 [(0, .ref 2), (1, .int v1)] [] σ := by
  refine V_aload_n dL_cashAnew_0 rfl ?_
  refine V_iload_n dL_cashAnew_1 rfl ?_
  exact k1

set_option maxRecDepth 100000 in
set_option maxHeartbeats 4000000 in
theorem b_L_endorse_0 {g : GP} {CX : State → Array Value → Prop} {E : ET} {v1 : Int32} {v2 : Int32} {v3 : Int32} {σ : AH}
    (k1 : V g mL_endorse E CX 1 6 4 [(0, .ref 2), (1, .int v1), (2, .int v2), (3, .int v3)] [.int v3, .int v2, .int v1, .ref 2] σ) :
    V g mL_endorse E CX 1 6 0 [(0, .ref 2), (1, .int v1), (2, .int v2), (3, .int v3)] [] σ := by
  refine V_aload_n dL_endorse_0 rfl ?_
  refine V_iload_n dL_endorse_1 rfl ?_
  refine V_iload_n dL_endorse_2 rfl ?_
  refine V_iload_n dL_endorse_3 rfl ?_
  exact k1

set_option maxRecDepth 100000 in
set_option maxHeartbeats 4000000 in
theorem b_L_fails_0 {g : GP} {CX : State → Array Value → Prop} {E : ET} {v1 : Int32} {v2 : Int32} {σ : AH}
    (k1 : V g mL_fails E CX 1 6 3 [(0, .ref 2), (1, .int v1), (2, .int v2)] [.int v2, .int v1, .ref 2] σ) :
    V g mL_fails E CX 1 6 0 [(0, .ref 2), (1, .int v1), (2, .int v2)] [] σ := by
  refine V_aload_n dL_fails_0 rfl ?_
  refine V_iload_n dL_fails_1 rfl ?_
  refine V_iload_n dL_fails_2 rfl ?_
  exact k1

set_option maxRecDepth 100000 in
set_option maxHeartbeats 4000000 in
theorem b_L_fare_0 {g : GP} {CX : State → Array Value → Prop} {E : ET} {v1 : Int32} {v2 : Int32} {v3 : Int32} {v4 : Int32} {v5 : Int32} {v6 : Int32} {σ : AH}
    (k1 : V g mL_fare E CX 2 13 10 [(0, .ref 2), (1, .int v1), (2, .int v2), (3, .int v3), (4, .int v4), (5, .int v5), (6, .int v6)] [.int v6, .int v5, .int v4, .int v3, .int v2, .int v1, .ref 2] σ) :
    V g mL_fare E CX 2 13 0 [(0, .ref 2), (1, .int v1), (2, .int v2), (3, .int v3), (4, .int v4), (5, .int v5), (6, .int v6)] [] σ := by
  refine V_aload_n dL_fare_0 rfl ?_
  refine V_iload_n dL_fare_1 rfl ?_
  refine V_iload_n dL_fare_2 rfl ?_
  refine V_iload_n dL_fare_3 rfl ?_
  refine V_iload dL_fare_4 rfl ?_
  refine V_iload dL_fare_6 rfl ?_
  refine V_iload dL_fare_8 rfl ?_
  exact k1

set_option maxRecDepth 100000 in
set_option maxHeartbeats 4000000 in
theorem b_L_fly_0 {g : GP} {CX : State → Array Value → Prop} {E : ET} {v1 : Int32} {v2 : Int32} {σ : AH}
    (k1 : V g mL_fly E CX 2 12 3 [(0, .ref 2), (1, .int v1), (2, .int v2)] [.int v2, .int v1, .ref 2] σ) :
    V g mL_fly E CX 2 12 0 [(0, .ref 2), (1, .int v1), (2, .int v2)] [] σ := by
  refine V_aload_n dL_fly_0 rfl ?_
  refine V_iload_n dL_fly_1 rfl ?_
  refine V_iload_n dL_fly_2 rfl ?_
  exact k1

set_option maxRecDepth 100000 in
set_option maxHeartbeats 4000000 in
theorem b_L_issue_0 {g : GP} {CX : State → Array Value → Prop} {E : ET} {v1 : Int32} {σ : AH}
    (k1 : V g mL_issue E CX 11 94 2 [(0, .ref 2), (1, .int v1)] [.int v1, .ref 2] σ) :
    V g mL_issue E CX 11 94 0 [(0, .ref 2), (1, .int v1)] [] σ := by
  refine V_aload_n dL_issue_0 rfl ?_
  refine V_iload_n dL_issue_1 rfl ?_
  exact k1

set_option maxRecDepth 100000 in
set_option maxHeartbeats 4000000 in
theorem b_L_leg_0 {g : GP} {CX : State → Array Value → Prop} {E : ET} {v1 : Int32} {v2 : Int32} {v3 : Int32} {v4 : Int32} {σ : AH}
    (k1 : V g mL_leg E CX 1 6 6 [(0, .ref 2), (1, .int v1), (2, .int v2), (3, .int v3), (4, .int v4)] [.int v4, .int v3, .int v2, .int v1, .ref 2] σ) :
    V g mL_leg E CX 1 6 0 [(0, .ref 2), (1, .int v1), (2, .int v2), (3, .int v3), (4, .int v4)] [] σ := by
  refine V_aload_n dL_leg_0 rfl ?_
  refine V_iload_n dL_leg_1 rfl ?_
  refine V_iload_n dL_leg_2 rfl ?_
  refine V_iload_n dL_leg_3 rfl ?_
  refine V_iload dL_leg_4 rfl ?_
  exact k1

set_option maxRecDepth 100000 in
set_option maxHeartbeats 4000000 in
theorem b_L_miles_0 {g : GP} {CX : State → Array Value → Prop} {E : ET} {v1 : Int32} {v2 : Int32} {v3 : Int32} {σ : AH}
    (k1 : V g mL_miles E CX 1 6 4 [(0, .ref 2), (1, .int v1), (2, .int v2), (3, .int v3)] [.int v3, .int v2, .int v1, .ref 2] σ) :
    V g mL_miles E CX 1 6 0 [(0, .ref 2), (1, .int v1), (2, .int v2), (3, .int v3)] [] σ := by
  refine V_aload_n dL_miles_0 rfl ?_
  refine V_iload_n dL_miles_1 rfl ?_
  refine V_iload_n dL_miles_2 rfl ?_
  refine V_iload_n dL_miles_3 rfl ?_
  exact k1

set_option maxRecDepth 100000 in
set_option maxHeartbeats 4000000 in
theorem b_L_of_0 {g : GP} {CX : State → Array Value → Prop} {E : ET} {v1 : Int32} {σ : AH}
    (k1 : V g mL_of E CX 1 6 2 [(0, .ref 2), (1, .int v1)] [.int v1, .ref 2] σ) :
    V g mL_of E CX 1 6 0 [(0, .ref 2), (1, .int v1)] [] σ := by
  refine V_aload_n dL_of_0 rfl ?_
  refine V_iload_n dL_of_1 rfl ?_
  exact k1

set_option maxRecDepth 100000 in
set_option maxHeartbeats 4000000 in
theorem b_L_ofBill_0 {g : GP} {CX : State → Array Value → Prop} {E : ET} {v1 : Int32} {v2 : Int32} {σ : AH}
    (k1 : V g mL_ofBill E CX 1 6 3 [(0, .ref 2), (1, .int v1), (2, .int v2)] [.int v2, .int v1, .ref 2] σ) :
    V g mL_ofBill E CX 1 6 0 [(0, .ref 2), (1, .int v1), (2, .int v2)] [] σ := by
  refine V_aload_n dL_ofBill_0 rfl ?_
  refine V_iload_n dL_ofBill_1 rfl ?_
  refine V_iload_n dL_ofBill_2 rfl ?_
  exact k1

set_option maxRecDepth 100000 in
set_option maxHeartbeats 4000000 in
theorem b_L_ofCoupon_0 {g : GP} {CX : State → Array Value → Prop} {E : ET} {v1 : Int32} {v2 : Int32} {v3 : Int32} {σ : AH}
    (k1 : V g mL_ofCoupon E CX 1 6 4 [(0, .ref 2), (1, .int v1), (2, .int v2), (3, .int v3)] [.int v3, .int v2, .int v1, .ref 2] σ) :
    V g mL_ofCoupon E CX 1 6 0 [(0, .ref 2), (1, .int v1), (2, .int v2), (3, .int v3)] [] σ := by
  refine V_aload_n dL_ofCoupon_0 rfl ?_
  refine V_iload_n dL_ofCoupon_1 rfl ?_
  refine V_iload_n dL_ofCoupon_2 rfl ?_
  refine V_iload_n dL_ofCoupon_3 rfl ?_
  exact k1

set_option maxRecDepth 100000 in
set_option maxHeartbeats 4000000 in
theorem b_L_ofTicket_0 {g : GP} {CX : State → Array Value → Prop} {E : ET} {v1 : Int32} {v2 : Int32} {σ : AH}
    (k1 : V g mL_ofTicket E CX 1 6 3 [(0, .ref 2), (1, .int v1), (2, .int v2)] [.int v2, .int v1, .ref 2] σ) :
    V g mL_ofTicket E CX 1 6 0 [(0, .ref 2), (1, .int v1), (2, .int v2)] [] σ := by
  refine V_aload_n dL_ofTicket_0 rfl ?_
  refine V_iload_n dL_ofTicket_1 rfl ?_
  refine V_iload_n dL_ofTicket_2 rfl ?_
  exact k1

set_option maxRecDepth 100000 in
set_option maxHeartbeats 4000000 in
theorem b_L_part_0 {g : GP} {CX : State → Array Value → Prop} {E : ET} {v1 : Int32} {v2 : Int32} {σ : AH}
    (k1 : V g mL_part E CX 1 6 3 [(0, .ref 2), (1, .int v1), (2, .int v2)] [.int v2, .int v1, .ref 2] σ) :
    V g mL_part E CX 1 6 0 [(0, .ref 2), (1, .int v1), (2, .int v2)] [] σ := by
  refine V_aload_n dL_part_0 rfl ?_
  refine V_iload_n dL_part_1 rfl ?_
  refine V_iload_n dL_part_2 rfl ?_
  exact k1

set_option maxRecDepth 100000 in
set_option maxHeartbeats 4000000 in
theorem b_L_pass_0 {g : GP} {CX : State → Array Value → Prop} {E : ET} {v1 : Int32} {σ : AH}
    (k1 : V g mL_pass E CX 1 6 2 [(0, .ref 2), (1, .int v1)] [.int v1, .ref 2] σ) :
    V g mL_pass E CX 1 6 0 [(0, .ref 2), (1, .int v1)] [] σ := by
  refine V_aload_n dL_pass_0 rfl ?_
  refine V_iload_n dL_pass_1 rfl ?_
  exact k1

set_option maxRecDepth 100000 in
set_option maxHeartbeats 4000000 in
theorem b_L_penalty_0 {g : GP} {CX : State → Array Value → Prop} {E : ET} {v1 : Int32} {σ : AH}
    (k1 : V g mL_penalty E CX 1 6 2 [(0, .ref 2), (1, .int v1)] [.int v1, .ref 2] σ) :
    V g mL_penalty E CX 1 6 0 [(0, .ref 2), (1, .int v1)] [] σ := by
  refine V_aload_n dL_penalty_0 rfl ?_
  refine V_iload_n dL_penalty_1 rfl ?_
  exact k1

set_option maxRecDepth 100000 in
set_option maxHeartbeats 4000000 in
theorem b_L_proviso_0 {g : GP} {CX : State → Array Value → Prop} {E : ET} {v1 : Int32} {v2 : Int32} {v3 : Int32} {v4 : Int32} {σ : AH}
    (k1 : V g mL_proviso E CX 1 6 6 [(0, .ref 2), (1, .int v1), (2, .int v2), (3, .int v3), (4, .int v4)] [.int v4, .int v3, .int v2, .int v1, .ref 2] σ) :
    V g mL_proviso E CX 1 6 0 [(0, .ref 2), (1, .int v1), (2, .int v2), (3, .int v3), (4, .int v4)] [] σ := by
  refine V_aload_n dL_proviso_0 rfl ?_
  refine V_iload_n dL_proviso_1 rfl ?_
  refine V_iload_n dL_proviso_2 rfl ?_
  refine V_iload_n dL_proviso_3 rfl ?_
  refine V_iload dL_proviso_4 rfl ?_
  exact k1

set_option maxRecDepth 100000 in
set_option maxHeartbeats 4000000 in
theorem b_L_rebill_0 {g : GP} {CX : State → Array Value → Prop} {E : ET} {v1 : Int32} {σ : AH}
    (k1 : V g mL_rebill E CX 1 6 2 [(0, .ref 2), (1, .int v1)] [.int v1, .ref 2] σ) :
    V g mL_rebill E CX 1 6 0 [(0, .ref 2), (1, .int v1)] [] σ := by
  refine V_aload_n dL_rebill_0 rfl ?_
  refine V_iload_n dL_rebill_1 rfl ?_
  exact k1

set_option maxRecDepth 100000 in
set_option maxHeartbeats 4000000 in
theorem b_L_refund_0 {g : GP} {CX : State → Array Value → Prop} {E : ET} {v1 : Int32} {σ : AH}
    (k1 : V g mL_refund E CX 1 6 2 [(0, .ref 2), (1, .int v1)] [.int v1, .ref 2] σ) :
    V g mL_refund E CX 1 6 0 [(0, .ref 2), (1, .int v1)] [] σ := by
  refine V_aload_n dL_refund_0 rfl ?_
  refine V_iload_n dL_refund_1 rfl ?_
  exact k1

set_option maxRecDepth 100000 in
set_option maxHeartbeats 4000000 in
theorem b_L_reissue_0 {g : GP} {CX : State → Array Value → Prop} {E : ET} {v1 : Int32} {σ : AH}
    (k1 : V g mL_reissue E CX 11 94 2 [(0, .ref 2), (1, .int v1)] [.int v1, .ref 2] σ) :
    V g mL_reissue E CX 11 94 0 [(0, .ref 2), (1, .int v1)] [] σ := by
  refine V_aload_n dL_reissue_0 rfl ?_
  refine V_iload_n dL_reissue_1 rfl ?_
  exact k1

set_option maxRecDepth 100000 in
set_option maxHeartbeats 4000000 in
theorem b_L_reject_0 {g : GP} {CX : State → Array Value → Prop} {E : ET} {v1 : Int32} {σ : AH}
    (k1 : V g mL_reject E CX 1 6 2 [(0, .ref 2), (1, .int v1)] [.int v1, .ref 2] σ) :
    V g mL_reject E CX 1 6 0 [(0, .ref 2), (1, .int v1)] [] σ := by
  refine V_aload_n dL_reject_0 rfl ?_
  refine V_iload_n dL_reject_1 rfl ?_
  exact k1

set_option maxRecDepth 100000 in
set_option maxHeartbeats 4000000 in
theorem b_L_state_0 {g : GP} {CX : State → Array Value → Prop} {E : ET} {v1 : Int32} {σ : AH}
    (k1 : V g mL_state E CX 1 6 2 [(0, .ref 2), (1, .int v1)] [.int v1, .ref 2] σ) :
    V g mL_state E CX 1 6 0 [(0, .ref 2), (1, .int v1)] [] σ := by
  refine V_aload_n dL_state_0 rfl ?_
  refine V_iload_n dL_state_1 rfl ?_
  exact k1

set_option maxRecDepth 100000 in
set_option maxHeartbeats 4000000 in
theorem b_L_tax_0 {g : GP} {CX : State → Array Value → Prop} {E : ET} {v1 : Int32} {v2 : Int32} {v3 : Int32} {σ : AH}
    (k1 : V g mL_tax E CX 1 6 4 [(0, .ref 2), (1, .int v1), (2, .int v2), (3, .int v3)] [.int v3, .int v2, .int v1, .ref 2] σ) :
    V g mL_tax E CX 1 6 0 [(0, .ref 2), (1, .int v1), (2, .int v2), (3, .int v3)] [] σ := by
  refine V_aload_n dL_tax_0 rfl ?_
  refine V_iload_n dL_tax_1 rfl ?_
  refine V_iload_n dL_tax_2 rfl ?_
  refine V_iload_n dL_tax_3 rfl ?_
  exact k1

set_option maxRecDepth 100000 in
set_option maxHeartbeats 4000000 in
theorem b_L_unit_0 {g : GP} {CX : State → Array Value → Prop} {E : ET} {v1 : Int32} {σ : AH}
    (k1 : V g mL_unit E CX 1 6 2 [(0, .ref 2), (1, .int v1)] [.int v1, .ref 2] σ) :
    V g mL_unit E CX 1 6 0 [(0, .ref 2), (1, .int v1)] [] σ := by
  refine V_aload_n dL_unit_0 rfl ?_
  refine V_iload_n dL_unit_1 rfl ?_
  exact k1

set_option maxRecDepth 100000 in
set_option maxHeartbeats 4000000 in
theorem b_L_weight_0 {g : GP} {CX : State → Array Value → Prop} {E : ET} {v1 : Int32} {v2 : Int32} {v3 : Int32} {σ : AH}
    (k1 : V g mL_weight E CX 1 6 4 [(0, .ref 2), (1, .int v1), (2, .int v2), (3, .int v3)] [.int v3, .int v2, .int v1, .ref 2] σ) :
    V g mL_weight E CX 1 6 0 [(0, .ref 2), (1, .int v1), (2, .int v2), (3, .int v3)] [] σ := by
  refine V_aload_n dL_weight_0 rfl ?_
  refine V_iload_n dL_weight_1 rfl ?_
  refine V_iload_n dL_weight_2 rfl ?_
  refine V_iload_n dL_weight_3 rfl ?_
  exact k1

theorem hx_L_cash_1 : HYl mL_cash 2 "java/lang/IndexOutOfBoundsException" (-1000001) := ⟨[], ⟨0, 5, 6, 16⟩, _, rfl, (fun y hy => by cases hy), by decide, by decide, w_246, by decide, ⟨2, 99, dL_cash_6, by decide, dL_cash_7, w_367, dL_cash_10⟩⟩
theorem w_L_cash {g : GP} {σ : AH} {v1 : Int32} {Q Q0 : AH → Option Value → Prop} {X : AH → String → Prop} (hS : Sh σ) (hc : CtX g mX11_cash [.ref 2, .int v1] σ Q X) (hq : ∀ τ rv, Q τ rv → ∃ y : Int64, rv = some (.long y) ∧ Q0 τ (some (.long y))) (hx : ∀ τ Ex, X τ Ex → (Ex = "java/lang/IndexOutOfBoundsException" ∧ Q0 τ (some (.long (-1000001))))) : CtH g mL_cash [.ref 2, .int v1] σ Q0 := by
  refine CtH_of (by decide +kernel) rfl (b_L_cash_0 ?_)
  refine V_callVYl (as := [.int v1]) (k' := 0) (n' := 0) hc mw_X11_cash ko_X11 rfl w_360 w_361 w_359 ar_X11_cash ⟨rfl, rfl, rfl, rfl, rfl⟩ dL_cash_2 (by decide) (shk hS 2 rfl) rfl (fun τ rv h => ?_) (fun τ Ex h => ?_)
  · obtain ⟨y, rfl, q⟩ := hq τ rv h
    exact V_lret rfl dL_cash_5 q
  · obtain ⟨rfl, q⟩ := hx τ Ex h
    exact ⟨-1000001, hx_L_cash_1, q⟩
theorem hx_L_cashAnew_1 : HYl mL_cashAnew 2 "java/lang/IndexOutOfBoundsException" (-1000001) := ⟨[], ⟨0, 5, 6, 16⟩, _, rfl, (fun y hy => by cases hy), by decide, by decide, w_246, by decide, ⟨2, 99, dL_cashAnew_6, by decide, dL_cashAnew_7, w_367, dL_cashAnew_10⟩⟩
theorem w_L_cashAnew {g : GP} {σ : AH} {v1 : Int32} {Q Q0 : AH → Option Value → Prop} {X : AH → String → Prop} (hS : Sh σ) (hc : CtX g mX11_cashAnew [.ref 2, .int v1] σ Q X) (hq : ∀ τ rv, Q τ rv → ∃ y : Int64, rv = some (.long y) ∧ Q0 τ (some (.long y))) (hx : ∀ τ Ex, X τ Ex → (Ex = "java/lang/IndexOutOfBoundsException" ∧ Q0 τ (some (.long (-1000001))))) : CtH g mL_cashAnew [.ref 2, .int v1] σ Q0 := by
  refine CtH_of (by decide +kernel) rfl (b_L_cashAnew_0 ?_)
  refine V_callVYl (as := [.int v1]) (k' := 0) (n' := 0) hc mw_X11_cashAnew ko_X11 rfl w_387 w_388 w_386 ar_X11_cashAnew ⟨rfl, rfl, rfl, rfl, rfl⟩ dL_cashAnew_2 (by decide) (shk hS 2 rfl) rfl (fun τ rv h => ?_) (fun τ Ex h => ?_)
  · obtain ⟨y, rfl, q⟩ := hq τ rv h
    exact V_lret rfl dL_cashAnew_5 q
  · obtain ⟨rfl, q⟩ := hx τ Ex h
    exact ⟨-1000001, hx_L_cashAnew_1, q⟩
theorem hx_L_endorse_1 : HY mL_endorse 4 "java/lang/IndexOutOfBoundsException" (-1000001) := ⟨[], ⟨0, 7, 8, 16⟩, _, rfl, (fun y hy => by cases hy), by decide, by decide, w_246, by decide, Or.inr ⟨4, 18, dL_endorse_8, by decide, dL_endorse_10, w_351, dL_endorse_12⟩⟩
theorem hx_L_endorse_2 : HY mL_endorse 4 "java/lang/IllegalStateException" (-1000003) := ⟨[⟨0, 7, 8, 16⟩], ⟨0, 7, 13, 26⟩, _, rfl, (fun y hy => ((List.mem_cons.mp hy).elim (fun q => by rw [q]; exact Or.inr ⟨by decide, "java/lang/IndexOutOfBoundsException", w_246, by decide, by decide⟩) (fun hy => (by cases hy)))), by decide, by decide, w_461, by decide, Or.inr ⟨4, 28, dL_endorse_13, by decide, dL_endorse_15, w_518, dL_endorse_17⟩⟩
theorem w_L_endorse {g : GP} {σ : AH} {v1 : Int32} {v2 : Int32} {v3 : Int32} {Q Q0 : AH → Option Value → Prop} {X : AH → String → Prop} (hS : Sh σ) (hc : CtX g mX11_endorse [.ref 2, .int v1, .int v2, .int v3] σ Q X) (hq : ∀ τ rv, Q τ rv → ∃ y : Int32, rv = some (.int y) ∧ Q0 τ (some (.int y))) (hx : ∀ τ Ex, X τ Ex → (Ex = "java/lang/IndexOutOfBoundsException" ∧ Q0 τ (some (.int (-1000001)))) ∨ (Ex = "java/lang/IllegalStateException" ∧ Q0 τ (some (.int (-1000003))))) : CtH g mL_endorse [.ref 2, .int v1, .int v2, .int v3] σ Q0 := by
  refine CtH_of (by decide +kernel) rfl (b_L_endorse_0 ?_)
  refine V_callVY (as := [.int v1, .int v2, .int v3]) (k' := 0) (n' := 0) hc mw_X11_endorse ko_X11 rfl w_895 w_896 w_894 ar_X11_endorse ⟨rfl, rfl, rfl, rfl, rfl⟩ dL_endorse_4 (by decide) (shk hS 2 rfl) rfl (fun τ rv h => ?_) (fun τ Ex h => ?_)
  · obtain ⟨y, rfl, q⟩ := hq τ rv h
    exact V_iret rfl dL_endorse_7 q
  · rcases hx τ Ex h with ⟨rfl, q⟩ | ⟨rfl, q⟩
    · exact ⟨-1000001, hx_L_endorse_1, q⟩
    · exact ⟨-1000003, hx_L_endorse_2, q⟩
theorem hx_L_fails_1 : HY mL_fails 3 "java/lang/IndexOutOfBoundsException" (-1000001) := ⟨[], ⟨0, 6, 7, 16⟩, _, rfl, (fun y hy => by cases hy), by decide, by decide, w_246, by decide, Or.inl ⟨3, 18, dL_fails_7, by decide, dL_fails_8, w_351, dL_fails_10⟩⟩
theorem w_L_fails {g : GP} {σ : AH} {v1 : Int32} {v2 : Int32} {Q Q0 : AH → Option Value → Prop} {X : AH → String → Prop} (hS : Sh σ) (hc : CtX g mX11_fails [.ref 2, .int v1, .int v2] σ Q X) (hq : ∀ τ rv, Q τ rv → ∃ y : Int32, rv = some (.int y) ∧ Q0 τ (some (.int y))) (hx : ∀ τ Ex, X τ Ex → (Ex = "java/lang/IndexOutOfBoundsException" ∧ Q0 τ (some (.int (-1000001))))) : CtH g mL_fails [.ref 2, .int v1, .int v2] σ Q0 := by
  refine CtH_of (by decide +kernel) rfl (b_L_fails_0 ?_)
  refine V_callVY (as := [.int v1, .int v2]) (k' := 0) (n' := 0) hc mw_X11_fails ko_X11 rfl w_1000 w_1001 w_999 ar_X11_fails ⟨rfl, rfl, rfl, rfl, rfl⟩ dL_fails_3 (by decide) (shk hS 2 rfl) rfl (fun τ rv h => ?_) (fun τ Ex h => ?_)
  · obtain ⟨y, rfl, q⟩ := hq τ rv h
    exact V_iret rfl dL_fails_6 q
  · obtain ⟨rfl, q⟩ := hx τ Ex h
    exact ⟨-1000001, hx_L_fails_1, q⟩
theorem hx_L_fare_1 : HY mL_fare 10 "java/lang/IndexOutOfBoundsException" (-1000001) := ⟨[], ⟨0, 13, 14, 16⟩, _, rfl, (fun y hy => by cases hy), by decide, by decide, w_246, by decide, Or.inr ⟨7, 18, dL_fare_14, by decide, dL_fare_16, w_351, dL_fare_18⟩⟩
theorem hx_L_fare_2 : HY mL_fare 10 "java/lang/IllegalArgumentException" (-1000002) := ⟨[⟨0, 13, 14, 16⟩], ⟨0, 13, 19, 19⟩, _, rfl, (fun y hy => ((List.mem_cons.mp hy).elim (fun q => by rw [q]; exact Or.inr ⟨by decide, "java/lang/IndexOutOfBoundsException", w_246, by decide, by decide⟩) (fun hy => (by cases hy)))), by decide, by decide, w_247, by decide, Or.inr ⟨7, 21, dL_fare_19, by decide, dL_fare_21, w_352, dL_fare_23⟩⟩
theorem hx_L_fare_3 : HY mL_fare 10 "java/lang/IllegalStateException" (-1000003) := ⟨[⟨0, 13, 14, 16⟩, ⟨0, 13, 19, 19⟩], ⟨0, 13, 24, 26⟩, _, rfl, (fun y hy => ((List.mem_cons.mp hy).elim (fun q => by rw [q]; exact Or.inr ⟨by decide, "java/lang/IndexOutOfBoundsException", w_246, by decide, by decide⟩) (fun hy => ((List.mem_cons.mp hy).elim (fun q => by rw [q]; exact Or.inr ⟨by decide, "java/lang/IllegalArgumentException", w_247, by decide, by decide⟩) (fun hy => (by cases hy)))))), by decide, by decide, w_461, by decide, Or.inr ⟨7, 28, dL_fare_24, by decide, dL_fare_26, w_518, dL_fare_28⟩⟩
theorem w_L_fare {g : GP} {σ : AH} {v1 : Int32} {v2 : Int32} {v3 : Int32} {v4 : Int32} {v5 : Int32} {v6 : Int32} {Q Q0 : AH → Option Value → Prop} {X : AH → String → Prop} (hS : Sh σ) (hc : CtX g mX11_fare [.ref 2, .int v1, .int v2, .int v3, .int v4, .int v5, .int v6] σ Q X) (hq : ∀ τ rv, Q τ rv → ∃ y : Int32, rv = some (.int y) ∧ Q0 τ (some (.int y))) (hx : ∀ τ Ex, X τ Ex → (Ex = "java/lang/IndexOutOfBoundsException" ∧ Q0 τ (some (.int (-1000001)))) ∨ (Ex = "java/lang/IllegalArgumentException" ∧ Q0 τ (some (.int (-1000002)))) ∨ (Ex = "java/lang/IllegalStateException" ∧ Q0 τ (some (.int (-1000003))))) : CtH g mL_fare [.ref 2, .int v1, .int v2, .int v3, .int v4, .int v5, .int v6] σ Q0 := by
  refine CtH_of (by decide +kernel) rfl (b_L_fare_0 ?_)
  refine V_callVY (as := [.int v1, .int v2, .int v3, .int v4, .int v5, .int v6]) (k' := 0) (n' := 0) hc mw_X11_fare ko_X11 rfl w_463 w_464 w_462 ar_X11_fare ⟨rfl, rfl, rfl, rfl, rfl⟩ dL_fare_10 (by decide) (shk hS 2 rfl) rfl (fun τ rv h => ?_) (fun τ Ex h => ?_)
  · obtain ⟨y, rfl, q⟩ := hq τ rv h
    exact V_iret rfl dL_fare_13 q
  · rcases hx τ Ex h with ⟨rfl, q⟩ | ⟨rfl, q⟩ | ⟨rfl, q⟩
    · exact ⟨-1000001, hx_L_fare_1, q⟩
    · exact ⟨-1000002, hx_L_fare_2, q⟩
    · exact ⟨-1000003, hx_L_fare_3, q⟩
theorem hx_L_fly_1 : HY mL_fly 3 "java/lang/IndexOutOfBoundsException" (-1000001) := ⟨[], ⟨0, 6, 7, 16⟩, _, rfl, (fun y hy => by cases hy), by decide, by decide, w_246, by decide, Or.inl ⟨3, 18, dL_fly_7, by decide, dL_fly_8, w_351, dL_fly_10⟩⟩
theorem hx_L_fly_2 : HY mL_fly 3 "java/lang/IllegalStateException" (-1000003) := ⟨[⟨0, 6, 7, 16⟩], ⟨0, 6, 11, 26⟩, _, rfl, (fun y hy => ((List.mem_cons.mp hy).elim (fun q => by rw [q]; exact Or.inr ⟨by decide, "java/lang/IndexOutOfBoundsException", w_246, by decide, by decide⟩) (fun hy => (by cases hy)))), by decide, by decide, w_461, by decide, Or.inl ⟨3, 28, dL_fly_11, by decide, dL_fly_12, w_518, dL_fly_14⟩⟩
theorem w_L_fly {g : GP} {σ : AH} {v1 : Int32} {v2 : Int32} {Q Q0 : AH → Option Value → Prop} {X : AH → String → Prop} (hS : Sh σ) (hc : CtX g mX11_fly [.ref 2, .int v1, .int v2] σ Q X) (hq : ∀ τ rv, Q τ rv → ∃ y : Int32, rv = some (.int y) ∧ Q0 τ (some (.int y))) (hx : ∀ τ Ex, X τ Ex → (Ex = "java/lang/IndexOutOfBoundsException" ∧ Q0 τ (some (.int (-1000001)))) ∨ (Ex = "java/lang/IllegalStateException" ∧ Q0 τ (some (.int (-1000003))))) : CtH g mL_fly [.ref 2, .int v1, .int v2] σ Q0 := by
  refine CtH_of (by decide +kernel) rfl (b_L_fly_0 ?_)
  refine V_callVY (as := [.int v1, .int v2]) (k' := 0) (n' := 0) hc mw_X11_fly ko_X11 rfl w_904 w_905 w_903 ar_X11_fly ⟨rfl, rfl, rfl, rfl, rfl⟩ dL_fly_3 (by decide) (shk hS 2 rfl) rfl (fun τ rv h => ?_) (fun τ Ex h => ?_)
  · obtain ⟨y, rfl, q⟩ := hq τ rv h
    exact V_iret rfl dL_fly_6 q
  · rcases hx τ Ex h with ⟨rfl, q⟩ | ⟨rfl, q⟩
    · exact ⟨-1000001, hx_L_fly_1, q⟩
    · exact ⟨-1000003, hx_L_fly_2, q⟩
theorem hx_L_issue_1 : HY mL_issue 2 "java/lang/IndexOutOfBoundsException" (-1000001) := ⟨[], ⟨0, 5, 6, 16⟩, _, rfl, (fun y hy => by cases hy), by decide, by decide, w_246, by decide, Or.inl ⟨2, 18, dL_issue_6, by decide, dL_issue_7, w_351, dL_issue_9⟩⟩
theorem hx_L_issue_2 : HY mL_issue 2 "java/lang/IllegalStateException" (-1000003) := ⟨[⟨0, 5, 6, 16⟩], ⟨0, 5, 10, 26⟩, _, rfl, (fun y hy => ((List.mem_cons.mp hy).elim (fun q => by rw [q]; exact Or.inr ⟨by decide, "java/lang/IndexOutOfBoundsException", w_246, by decide, by decide⟩) (fun hy => (by cases hy)))), by decide, by decide, w_461, by decide, Or.inl ⟨2, 28, dL_issue_10, by decide, dL_issue_11, w_518, dL_issue_13⟩⟩
theorem w_L_issue {g : GP} {σ : AH} {v1 : Int32} {Q Q0 : AH → Option Value → Prop} {X : AH → String → Prop} (hS : Sh σ) (hc : CtX g mX11_issue [.ref 2, .int v1] σ Q X) (hq : ∀ τ rv, Q τ rv → ∃ y : Int32, rv = some (.int y) ∧ Q0 τ (some (.int y))) (hx : ∀ τ Ex, X τ Ex → (Ex = "java/lang/IndexOutOfBoundsException" ∧ Q0 τ (some (.int (-1000001)))) ∨ (Ex = "java/lang/IllegalStateException" ∧ Q0 τ (some (.int (-1000003))))) : CtH g mL_issue [.ref 2, .int v1] σ Q0 := by
  refine CtH_of (by decide +kernel) rfl (b_L_issue_0 ?_)
  refine V_callVY (as := [.int v1]) (k' := 0) (n' := 0) hc mw_X11_issue ko_X11 rfl w_705 w_706 w_704 ar_X11_issue ⟨rfl, rfl, rfl, rfl, rfl⟩ dL_issue_2 (by decide) (shk hS 2 rfl) rfl (fun τ rv h => ?_) (fun τ Ex h => ?_)
  · obtain ⟨y, rfl, q⟩ := hq τ rv h
    exact V_iret rfl dL_issue_5 q
  · rcases hx τ Ex h with ⟨rfl, q⟩ | ⟨rfl, q⟩
    · exact ⟨-1000001, hx_L_issue_1, q⟩
    · exact ⟨-1000003, hx_L_issue_2, q⟩
theorem hx_L_leg_1 : HY mL_leg 6 "java/lang/IndexOutOfBoundsException" (-1000001) := ⟨[], ⟨0, 9, 10, 16⟩, _, rfl, (fun y hy => by cases hy), by decide, by decide, w_246, by decide, Or.inr ⟨5, 18, dL_leg_10, by decide, dL_leg_12, w_351, dL_leg_14⟩⟩
theorem hx_L_leg_2 : HY mL_leg 6 "java/lang/IllegalArgumentException" (-1000002) := ⟨[⟨0, 9, 10, 16⟩], ⟨0, 9, 15, 19⟩, _, rfl, (fun y hy => ((List.mem_cons.mp hy).elim (fun q => by rw [q]; exact Or.inr ⟨by decide, "java/lang/IndexOutOfBoundsException", w_246, by decide, by decide⟩) (fun hy => (by cases hy)))), by decide, by decide, w_247, by decide, Or.inr ⟨5, 21, dL_leg_15, by decide, dL_leg_17, w_352, dL_leg_19⟩⟩
theorem hx_L_leg_3 : HY mL_leg 6 "java/lang/IllegalStateException" (-1000003) := ⟨[⟨0, 9, 10, 16⟩, ⟨0, 9, 15, 19⟩], ⟨0, 9, 20, 26⟩, _, rfl, (fun y hy => ((List.mem_cons.mp hy).elim (fun q => by rw [q]; exact Or.inr ⟨by decide, "java/lang/IndexOutOfBoundsException", w_246, by decide, by decide⟩) (fun hy => ((List.mem_cons.mp hy).elim (fun q => by rw [q]; exact Or.inr ⟨by decide, "java/lang/IllegalArgumentException", w_247, by decide, by decide⟩) (fun hy => (by cases hy)))))), by decide, by decide, w_461, by decide, Or.inr ⟨5, 28, dL_leg_20, by decide, dL_leg_22, w_518, dL_leg_24⟩⟩
theorem w_L_leg {g : GP} {σ : AH} {v1 : Int32} {v2 : Int32} {v3 : Int32} {v4 : Int32} {Q Q0 : AH → Option Value → Prop} {X : AH → String → Prop} (hS : Sh σ) (hc : CtX g mX11_leg [.ref 2, .int v1, .int v2, .int v3, .int v4] σ Q X) (hq : ∀ τ rv, Q τ rv → ∃ y : Int32, rv = some (.int y) ∧ Q0 τ (some (.int y))) (hx : ∀ τ Ex, X τ Ex → (Ex = "java/lang/IndexOutOfBoundsException" ∧ Q0 τ (some (.int (-1000001)))) ∨ (Ex = "java/lang/IllegalArgumentException" ∧ Q0 τ (some (.int (-1000002)))) ∨ (Ex = "java/lang/IllegalStateException" ∧ Q0 τ (some (.int (-1000003))))) : CtH g mL_leg [.ref 2, .int v1, .int v2, .int v3, .int v4] σ Q0 := by
  refine CtH_of (by decide +kernel) rfl (b_L_leg_0 ?_)
  refine V_callVY (as := [.int v1, .int v2, .int v3, .int v4]) (k' := 0) (n' := 0) hc mw_X11_leg ko_X11 rfl w_585 w_586 w_584 ar_X11_leg ⟨rfl, rfl, rfl, rfl, rfl⟩ dL_leg_6 (by decide) (shk hS 2 rfl) rfl (fun τ rv h => ?_) (fun τ Ex h => ?_)
  · obtain ⟨y, rfl, q⟩ := hq τ rv h
    exact V_iret rfl dL_leg_9 q
  · rcases hx τ Ex h with ⟨rfl, q⟩ | ⟨rfl, q⟩ | ⟨rfl, q⟩
    · exact ⟨-1000001, hx_L_leg_1, q⟩
    · exact ⟨-1000002, hx_L_leg_2, q⟩
    · exact ⟨-1000003, hx_L_leg_3, q⟩
theorem hx_L_miles_1 : HY mL_miles 4 "java/lang/IndexOutOfBoundsException" (-1000001) := ⟨[], ⟨0, 7, 8, 16⟩, _, rfl, (fun y hy => by cases hy), by decide, by decide, w_246, by decide, Or.inr ⟨4, 18, dL_miles_8, by decide, dL_miles_10, w_351, dL_miles_12⟩⟩
theorem hx_L_miles_2 : HY mL_miles 4 "java/lang/IllegalArgumentException" (-1000002) := ⟨[⟨0, 7, 8, 16⟩], ⟨0, 7, 13, 19⟩, _, rfl, (fun y hy => ((List.mem_cons.mp hy).elim (fun q => by rw [q]; exact Or.inr ⟨by decide, "java/lang/IndexOutOfBoundsException", w_246, by decide, by decide⟩) (fun hy => (by cases hy)))), by decide, by decide, w_247, by decide, Or.inr ⟨4, 21, dL_miles_13, by decide, dL_miles_15, w_352, dL_miles_17⟩⟩
theorem w_L_miles {g : GP} {σ : AH} {v1 : Int32} {v2 : Int32} {v3 : Int32} {Q Q0 : AH → Option Value → Prop} {X : AH → String → Prop} (hS : Sh σ) (hc : CtX g mX11_miles [.ref 2, .int v1, .int v2, .int v3] σ Q X) (hq : ∀ τ rv, Q τ rv → ∃ y : Int32, rv = some (.int y) ∧ Q0 τ (some (.int y))) (hx : ∀ τ Ex, X τ Ex → (Ex = "java/lang/IndexOutOfBoundsException" ∧ Q0 τ (some (.int (-1000001)))) ∨ (Ex = "java/lang/IllegalArgumentException" ∧ Q0 τ (some (.int (-1000002))))) : CtH g mL_miles [.ref 2, .int v1, .int v2, .int v3] σ Q0 := by
  refine CtH_of (by decide +kernel) rfl (b_L_miles_0 ?_)
  refine V_callVY (as := [.int v1, .int v2, .int v3]) (k' := 0) (n' := 0) hc mw_X11_miles ko_X11 rfl w_249 w_250 w_248 ar_X11_miles ⟨rfl, rfl, rfl, rfl, rfl⟩ dL_miles_4 (by decide) (shk hS 2 rfl) rfl (fun τ rv h => ?_) (fun τ Ex h => ?_)
  · obtain ⟨y, rfl, q⟩ := hq τ rv h
    exact V_iret rfl dL_miles_7 q
  · rcases hx τ Ex h with ⟨rfl, q⟩ | ⟨rfl, q⟩
    · exact ⟨-1000001, hx_L_miles_1, q⟩
    · exact ⟨-1000002, hx_L_miles_2, q⟩
theorem hx_L_of_1 : HY mL_of 2 "java/lang/IllegalArgumentException" (-1000002) := ⟨[], ⟨0, 5, 6, 19⟩, _, rfl, (fun y hy => by cases hy), by decide, by decide, w_247, by decide, Or.inl ⟨2, 21, dL_of_6, by decide, dL_of_7, w_352, dL_of_9⟩⟩
theorem w_L_of {g : GP} {σ : AH} {v1 : Int32} {Q Q0 : AH → Option Value → Prop} {X : AH → String → Prop} (hS : Sh σ) (hc : CtX g mX11_of [.ref 2, .int v1] σ Q X) (hq : ∀ τ rv, Q τ rv → ∃ y : Int32, rv = some (.int y) ∧ Q0 τ (some (.int y))) (hx : ∀ τ Ex, X τ Ex → (Ex = "java/lang/IllegalArgumentException" ∧ Q0 τ (some (.int (-1000002))))) : CtH g mL_of [.ref 2, .int v1] σ Q0 := by
  refine CtH_of (by decide +kernel) rfl (b_L_of_0 ?_)
  refine V_callVY (as := [.int v1]) (k' := 0) (n' := 0) hc mw_X11_of ko_X11 rfl w_379 w_380 w_378 ar_X11_of ⟨rfl, rfl, rfl, rfl, rfl⟩ dL_of_2 (by decide) (shk hS 2 rfl) rfl (fun τ rv h => ?_) (fun τ Ex h => ?_)
  · obtain ⟨y, rfl, q⟩ := hq τ rv h
    exact V_iret rfl dL_of_5 q
  · obtain ⟨rfl, q⟩ := hx τ Ex h
    exact ⟨-1000002, hx_L_of_1, q⟩
theorem hx_L_ofBill_1 : HY mL_ofBill 3 "java/lang/IndexOutOfBoundsException" (-1000001) := ⟨[], ⟨0, 6, 7, 16⟩, _, rfl, (fun y hy => by cases hy), by decide, by decide, w_246, by decide, Or.inl ⟨3, 18, dL_ofBill_7, by decide, dL_ofBill_8, w_351, dL_ofBill_10⟩⟩
theorem hx_L_ofBill_2 : HY mL_ofBill 3 "java/lang/IllegalArgumentException" (-1000002) := ⟨[⟨0, 6, 7, 16⟩], ⟨0, 6, 11, 19⟩, _, rfl, (fun y hy => ((List.mem_cons.mp hy).elim (fun q => by rw [q]; exact Or.inr ⟨by decide, "java/lang/IndexOutOfBoundsException", w_246, by decide, by decide⟩) (fun hy => (by cases hy)))), by decide, by decide, w_247, by decide, Or.inl ⟨3, 21, dL_ofBill_11, by decide, dL_ofBill_12, w_352, dL_ofBill_14⟩⟩
theorem w_L_ofBill {g : GP} {σ : AH} {v1 : Int32} {v2 : Int32} {Q Q0 : AH → Option Value → Prop} {X : AH → String → Prop} (hS : Sh σ) (hc : CtX g mX11_ofBill [.ref 2, .int v1, .int v2] σ Q X) (hq : ∀ τ rv, Q τ rv → ∃ y : Int32, rv = some (.int y) ∧ Q0 τ (some (.int y))) (hx : ∀ τ Ex, X τ Ex → (Ex = "java/lang/IndexOutOfBoundsException" ∧ Q0 τ (some (.int (-1000001)))) ∨ (Ex = "java/lang/IllegalArgumentException" ∧ Q0 τ (some (.int (-1000002))))) : CtH g mL_ofBill [.ref 2, .int v1, .int v2] σ Q0 := by
  refine CtH_of (by decide +kernel) rfl (b_L_ofBill_0 ?_)
  refine V_callVY (as := [.int v1, .int v2]) (k' := 0) (n' := 0) hc mw_X11_ofBill ko_X11 rfl w_442 w_443 w_441 ar_X11_ofBill ⟨rfl, rfl, rfl, rfl, rfl⟩ dL_ofBill_3 (by decide) (shk hS 2 rfl) rfl (fun τ rv h => ?_) (fun τ Ex h => ?_)
  · obtain ⟨y, rfl, q⟩ := hq τ rv h
    exact V_iret rfl dL_ofBill_6 q
  · rcases hx τ Ex h with ⟨rfl, q⟩ | ⟨rfl, q⟩
    · exact ⟨-1000001, hx_L_ofBill_1, q⟩
    · exact ⟨-1000002, hx_L_ofBill_2, q⟩
theorem hx_L_ofCoupon_1 : HY mL_ofCoupon 4 "java/lang/IndexOutOfBoundsException" (-1000001) := ⟨[], ⟨0, 7, 8, 16⟩, _, rfl, (fun y hy => by cases hy), by decide, by decide, w_246, by decide, Or.inr ⟨4, 18, dL_ofCoupon_8, by decide, dL_ofCoupon_10, w_351, dL_ofCoupon_12⟩⟩
theorem hx_L_ofCoupon_2 : HY mL_ofCoupon 4 "java/lang/IllegalArgumentException" (-1000002) := ⟨[⟨0, 7, 8, 16⟩], ⟨0, 7, 13, 19⟩, _, rfl, (fun y hy => ((List.mem_cons.mp hy).elim (fun q => by rw [q]; exact Or.inr ⟨by decide, "java/lang/IndexOutOfBoundsException", w_246, by decide, by decide⟩) (fun hy => (by cases hy)))), by decide, by decide, w_247, by decide, Or.inr ⟨4, 21, dL_ofCoupon_13, by decide, dL_ofCoupon_15, w_352, dL_ofCoupon_17⟩⟩
theorem w_L_ofCoupon {g : GP} {σ : AH} {v1 : Int32} {v2 : Int32} {v3 : Int32} {Q Q0 : AH → Option Value → Prop} {X : AH → String → Prop} (hS : Sh σ) (hc : CtX g mX11_ofCoupon [.ref 2, .int v1, .int v2, .int v3] σ Q X) (hq : ∀ τ rv, Q τ rv → ∃ y : Int32, rv = some (.int y) ∧ Q0 τ (some (.int y))) (hx : ∀ τ Ex, X τ Ex → (Ex = "java/lang/IndexOutOfBoundsException" ∧ Q0 τ (some (.int (-1000001)))) ∨ (Ex = "java/lang/IllegalArgumentException" ∧ Q0 τ (some (.int (-1000002))))) : CtH g mL_ofCoupon [.ref 2, .int v1, .int v2, .int v3] σ Q0 := by
  refine CtH_of (by decide +kernel) rfl (b_L_ofCoupon_0 ?_)
  refine V_callVY (as := [.int v1, .int v2, .int v3]) (k' := 0) (n' := 0) hc mw_X11_ofCoupon ko_X11 rfl w_433 w_434 w_432 ar_X11_ofCoupon ⟨rfl, rfl, rfl, rfl, rfl⟩ dL_ofCoupon_4 (by decide) (shk hS 2 rfl) rfl (fun τ rv h => ?_) (fun τ Ex h => ?_)
  · obtain ⟨y, rfl, q⟩ := hq τ rv h
    exact V_iret rfl dL_ofCoupon_7 q
  · rcases hx τ Ex h with ⟨rfl, q⟩ | ⟨rfl, q⟩
    · exact ⟨-1000001, hx_L_ofCoupon_1, q⟩
    · exact ⟨-1000002, hx_L_ofCoupon_2, q⟩
theorem hx_L_ofTicket_1 : HY mL_ofTicket 3 "java/lang/IndexOutOfBoundsException" (-1000001) := ⟨[], ⟨0, 6, 7, 16⟩, _, rfl, (fun y hy => by cases hy), by decide, by decide, w_246, by decide, Or.inl ⟨3, 18, dL_ofTicket_7, by decide, dL_ofTicket_8, w_351, dL_ofTicket_10⟩⟩
theorem hx_L_ofTicket_2 : HY mL_ofTicket 3 "java/lang/IllegalArgumentException" (-1000002) := ⟨[⟨0, 6, 7, 16⟩], ⟨0, 6, 11, 19⟩, _, rfl, (fun y hy => ((List.mem_cons.mp hy).elim (fun q => by rw [q]; exact Or.inr ⟨by decide, "java/lang/IndexOutOfBoundsException", w_246, by decide, by decide⟩) (fun hy => (by cases hy)))), by decide, by decide, w_247, by decide, Or.inl ⟨3, 21, dL_ofTicket_11, by decide, dL_ofTicket_12, w_352, dL_ofTicket_14⟩⟩
theorem w_L_ofTicket {g : GP} {σ : AH} {v1 : Int32} {v2 : Int32} {Q Q0 : AH → Option Value → Prop} {X : AH → String → Prop} (hS : Sh σ) (hc : CtX g mX11_ofTicket [.ref 2, .int v1, .int v2] σ Q X) (hq : ∀ τ rv, Q τ rv → ∃ y : Int32, rv = some (.int y) ∧ Q0 τ (some (.int y))) (hx : ∀ τ Ex, X τ Ex → (Ex = "java/lang/IndexOutOfBoundsException" ∧ Q0 τ (some (.int (-1000001)))) ∨ (Ex = "java/lang/IllegalArgumentException" ∧ Q0 τ (some (.int (-1000002))))) : CtH g mL_ofTicket [.ref 2, .int v1, .int v2] σ Q0 := by
  refine CtH_of (by decide +kernel) rfl (b_L_ofTicket_0 ?_)
  refine V_callVY (as := [.int v1, .int v2]) (k' := 0) (n' := 0) hc mw_X11_ofTicket ko_X11 rfl w_425 w_426 w_424 ar_X11_ofTicket ⟨rfl, rfl, rfl, rfl, rfl⟩ dL_ofTicket_3 (by decide) (shk hS 2 rfl) rfl (fun τ rv h => ?_) (fun τ Ex h => ?_)
  · obtain ⟨y, rfl, q⟩ := hq τ rv h
    exact V_iret rfl dL_ofTicket_6 q
  · rcases hx τ Ex h with ⟨rfl, q⟩ | ⟨rfl, q⟩
    · exact ⟨-1000001, hx_L_ofTicket_1, q⟩
    · exact ⟨-1000002, hx_L_ofTicket_2, q⟩
theorem hx_L_part_1 : HY mL_part 3 "java/lang/IndexOutOfBoundsException" (-1000001) := ⟨[], ⟨0, 6, 7, 16⟩, _, rfl, (fun y hy => by cases hy), by decide, by decide, w_246, by decide, Or.inl ⟨3, 18, dL_part_7, by decide, dL_part_8, w_351, dL_part_10⟩⟩
theorem hx_L_part_2 : HY mL_part 3 "java/lang/IllegalArgumentException" (-1000002) := ⟨[⟨0, 6, 7, 16⟩], ⟨0, 6, 11, 19⟩, _, rfl, (fun y hy => ((List.mem_cons.mp hy).elim (fun q => by rw [q]; exact Or.inr ⟨by decide, "java/lang/IndexOutOfBoundsException", w_246, by decide, by decide⟩) (fun hy => (by cases hy)))), by decide, by decide, w_247, by decide, Or.inl ⟨3, 21, dL_part_11, by decide, dL_part_12, w_352, dL_part_14⟩⟩
theorem w_L_part {g : GP} {σ : AH} {v1 : Int32} {v2 : Int32} {Q Q0 : AH → Option Value → Prop} {X : AH → String → Prop} (hS : Sh σ) (hc : CtX g mX11_part [.ref 2, .int v1, .int v2] σ Q X) (hq : ∀ τ rv, Q τ rv → ∃ y : Int32, rv = some (.int y) ∧ Q0 τ (some (.int y))) (hx : ∀ τ Ex, X τ Ex → (Ex = "java/lang/IndexOutOfBoundsException" ∧ Q0 τ (some (.int (-1000001)))) ∨ (Ex = "java/lang/IllegalArgumentException" ∧ Q0 τ (some (.int (-1000002))))) : CtH g mL_part [.ref 2, .int v1, .int v2] σ Q0 := by
  refine CtH_of (by decide +kernel) rfl (b_L_part_0 ?_)
  refine V_callVY (as := [.int v1, .int v2]) (k' := 0) (n' := 0) hc mw_X11_part ko_X11 rfl w_690 w_691 w_689 ar_X11_part ⟨rfl, rfl, rfl, rfl, rfl⟩ dL_part_3 (by decide) (shk hS 2 rfl) rfl (fun τ rv h => ?_) (fun τ Ex h => ?_)
  · obtain ⟨y, rfl, q⟩ := hq τ rv h
    exact V_iret rfl dL_part_6 q
  · rcases hx τ Ex h with ⟨rfl, q⟩ | ⟨rfl, q⟩
    · exact ⟨-1000001, hx_L_part_1, q⟩
    · exact ⟨-1000002, hx_L_part_2, q⟩
theorem hx_L_pass_1 : HY mL_pass 2 "java/lang/IllegalArgumentException" (-1000002) := ⟨[], ⟨0, 5, 6, 19⟩, _, rfl, (fun y hy => by cases hy), by decide, by decide, w_247, by decide, Or.inl ⟨2, 21, dL_pass_6, by decide, dL_pass_7, w_352, dL_pass_9⟩⟩
theorem hx_L_pass_2 : HY mL_pass 2 "java/lang/IllegalStateException" (-1000003) := ⟨[⟨0, 5, 6, 19⟩], ⟨0, 5, 10, 26⟩, _, rfl, (fun y hy => ((List.mem_cons.mp hy).elim (fun q => by rw [q]; exact Or.inr ⟨by decide, "java/lang/IllegalArgumentException", w_247, by decide, by decide⟩) (fun hy => (by cases hy)))), by decide, by decide, w_461, by decide, Or.inl ⟨2, 28, dL_pass_10, by decide, dL_pass_11, w_518, dL_pass_13⟩⟩
theorem w_L_pass {g : GP} {σ : AH} {v1 : Int32} {Q Q0 : AH → Option Value → Prop} {X : AH → String → Prop} (hS : Sh σ) (hc : CtX g mX11_pass [.ref 2, .int v1] σ Q X) (hq : ∀ τ rv, Q τ rv → ∃ y : Int32, rv = some (.int y) ∧ Q0 τ (some (.int y))) (hx : ∀ τ Ex, X τ Ex → (Ex = "java/lang/IllegalArgumentException" ∧ Q0 τ (some (.int (-1000002)))) ∨ (Ex = "java/lang/IllegalStateException" ∧ Q0 τ (some (.int (-1000003))))) : CtH g mL_pass [.ref 2, .int v1] σ Q0 := by
  refine CtH_of (by decide +kernel) rfl (b_L_pass_0 ?_)
  refine V_callVY (as := [.int v1]) (k' := 0) (n' := 0) hc mw_X11_pass ko_X11 rfl w_1045 w_1046 w_1044 ar_X11_pass ⟨rfl, rfl, rfl, rfl, rfl⟩ dL_pass_2 (by decide) (shk hS 2 rfl) rfl (fun τ rv h => ?_) (fun τ Ex h => ?_)
  · obtain ⟨y, rfl, q⟩ := hq τ rv h
    exact V_iret rfl dL_pass_5 q
  · rcases hx τ Ex h with ⟨rfl, q⟩ | ⟨rfl, q⟩
    · exact ⟨-1000002, hx_L_pass_1, q⟩
    · exact ⟨-1000003, hx_L_pass_2, q⟩
theorem hx_L_penalty_1 : HY mL_penalty 2 "java/lang/IllegalArgumentException" (-1000002) := ⟨[], ⟨0, 5, 6, 19⟩, _, rfl, (fun y hy => by cases hy), by decide, by decide, w_247, by decide, Or.inl ⟨2, 21, dL_penalty_6, by decide, dL_penalty_7, w_352, dL_penalty_9⟩⟩
theorem w_L_penalty {g : GP} {σ : AH} {v1 : Int32} {Q Q0 : AH → Option Value → Prop} {X : AH → String → Prop} (hS : Sh σ) (hc : CtX g mX11_penalty [.ref 2, .int v1] σ Q X) (hq : ∀ τ rv, Q τ rv → ∃ y : Int32, rv = some (.int y) ∧ Q0 τ (some (.int y))) (hx : ∀ τ Ex, X τ Ex → (Ex = "java/lang/IllegalArgumentException" ∧ Q0 τ (some (.int (-1000002))))) : CtH g mL_penalty [.ref 2, .int v1] σ Q0 := by
  refine CtH_of (by decide +kernel) rfl (b_L_penalty_0 ?_)
  refine V_callVY (as := [.int v1]) (k' := 0) (n' := 0) hc mw_X11_penalty ko_X11 rfl w_571 w_572 w_570 ar_X11_penalty ⟨rfl, rfl, rfl, rfl, rfl⟩ dL_penalty_2 (by decide) (shk hS 2 rfl) rfl (fun τ rv h => ?_) (fun τ Ex h => ?_)
  · obtain ⟨y, rfl, q⟩ := hq τ rv h
    exact V_iret rfl dL_penalty_5 q
  · obtain ⟨rfl, q⟩ := hx τ Ex h
    exact ⟨-1000002, hx_L_penalty_1, q⟩
theorem hx_L_proviso_1 : HY mL_proviso 6 "java/lang/IndexOutOfBoundsException" (-1000001) := ⟨[], ⟨0, 9, 10, 16⟩, _, rfl, (fun y hy => by cases hy), by decide, by decide, w_246, by decide, Or.inr ⟨5, 18, dL_proviso_10, by decide, dL_proviso_12, w_351, dL_proviso_14⟩⟩
theorem hx_L_proviso_2 : HY mL_proviso 6 "java/lang/IllegalArgumentException" (-1000002) := ⟨[⟨0, 9, 10, 16⟩], ⟨0, 9, 15, 19⟩, _, rfl, (fun y hy => ((List.mem_cons.mp hy).elim (fun q => by rw [q]; exact Or.inr ⟨by decide, "java/lang/IndexOutOfBoundsException", w_246, by decide, by decide⟩) (fun hy => (by cases hy)))), by decide, by decide, w_247, by decide, Or.inr ⟨5, 21, dL_proviso_15, by decide, dL_proviso_17, w_352, dL_proviso_19⟩⟩
theorem w_L_proviso {g : GP} {σ : AH} {v1 : Int32} {v2 : Int32} {v3 : Int32} {v4 : Int32} {Q Q0 : AH → Option Value → Prop} {X : AH → String → Prop} (hS : Sh σ) (hc : CtX g mX11_proviso [.ref 2, .int v1, .int v2, .int v3, .int v4] σ Q X) (hq : ∀ τ rv, Q τ rv → ∃ y : Int32, rv = some (.int y) ∧ Q0 τ (some (.int y))) (hx : ∀ τ Ex, X τ Ex → (Ex = "java/lang/IndexOutOfBoundsException" ∧ Q0 τ (some (.int (-1000001)))) ∨ (Ex = "java/lang/IllegalArgumentException" ∧ Q0 τ (some (.int (-1000002))))) : CtH g mL_proviso [.ref 2, .int v1, .int v2, .int v3, .int v4] σ Q0 := by
  refine CtH_of (by decide +kernel) rfl (b_L_proviso_0 ?_)
  refine V_callVY (as := [.int v1, .int v2, .int v3, .int v4]) (k' := 0) (n' := 0) hc mw_X11_proviso ko_X11 rfl w_544 w_545 w_543 ar_X11_proviso ⟨rfl, rfl, rfl, rfl, rfl⟩ dL_proviso_6 (by decide) (shk hS 2 rfl) rfl (fun τ rv h => ?_) (fun τ Ex h => ?_)
  · obtain ⟨y, rfl, q⟩ := hq τ rv h
    exact V_iret rfl dL_proviso_9 q
  · rcases hx τ Ex h with ⟨rfl, q⟩ | ⟨rfl, q⟩
    · exact ⟨-1000001, hx_L_proviso_1, q⟩
    · exact ⟨-1000002, hx_L_proviso_2, q⟩
theorem hx_L_rebill_1 : HY mL_rebill 2 "java/lang/IndexOutOfBoundsException" (-1000001) := ⟨[], ⟨0, 6, 7, 16⟩, _, rfl, (fun y hy => by cases hy), by decide, by decide, w_246, by decide, Or.inl ⟨2, 18, dL_rebill_7, by decide, dL_rebill_8, w_351, dL_rebill_10⟩⟩
theorem hx_L_rebill_2 : HY mL_rebill 2 "java/lang/IllegalStateException" (-1000003) := ⟨[⟨0, 6, 7, 16⟩], ⟨0, 6, 11, 26⟩, _, rfl, (fun y hy => ((List.mem_cons.mp hy).elim (fun q => by rw [q]; exact Or.inr ⟨by decide, "java/lang/IndexOutOfBoundsException", w_246, by decide, by decide⟩) (fun hy => (by cases hy)))), by decide, by decide, w_461, by decide, Or.inl ⟨2, 28, dL_rebill_11, by decide, dL_rebill_12, w_518, dL_rebill_14⟩⟩
theorem w_L_rebill {g : GP} {σ : AH} {v1 : Int32} {Q Q0 : AH → Option Value → Prop} {X : AH → String → Prop} (hS : Sh σ) (hc : CtX g mX11_rebill [.ref 2, .int v1] σ Q X) (hq : ∀ τ rv, Q τ rv → Q0 τ (some (.int 0)) ∧ rv = none) (hx : ∀ τ Ex, X τ Ex → (Ex = "java/lang/IndexOutOfBoundsException" ∧ Q0 τ (some (.int (-1000001)))) ∨ (Ex = "java/lang/IllegalStateException" ∧ Q0 τ (some (.int (-1000003))))) : CtH g mL_rebill [.ref 2, .int v1] σ Q0 := by
  refine CtH_of (by decide +kernel) rfl (b_L_rebill_0 ?_)
  refine V_callVY (as := [.int v1]) (k' := 0) (n' := 0) hc mw_X11_rebill ko_X11 rfl w_1037 w_1038 w_1036 ar_X11_rebill ⟨rfl, rfl, rfl, rfl, rfl⟩ dL_rebill_2 (by decide) (shk hS 2 rfl) rfl (fun τ rv h => ?_) (fun τ Ex h => ?_)
  · obtain ⟨q, rfl⟩ := hq τ rv h
    refine V_iconst (0 : Int32) dL_rebill_5 (by decide) ?_
    exact V_iret rfl dL_rebill_6 q
  · rcases hx τ Ex h with ⟨rfl, q⟩ | ⟨rfl, q⟩
    · exact ⟨-1000001, hx_L_rebill_1, q⟩
    · exact ⟨-1000003, hx_L_rebill_2, q⟩
theorem hx_L_refund_1 : HY mL_refund 2 "java/lang/IndexOutOfBoundsException" (-1000001) := ⟨[], ⟨0, 5, 6, 16⟩, _, rfl, (fun y hy => by cases hy), by decide, by decide, w_246, by decide, Or.inl ⟨2, 18, dL_refund_6, by decide, dL_refund_7, w_351, dL_refund_9⟩⟩
theorem hx_L_refund_2 : HY mL_refund 2 "java/lang/IllegalStateException" (-1000003) := ⟨[⟨0, 5, 6, 16⟩], ⟨0, 5, 10, 26⟩, _, rfl, (fun y hy => ((List.mem_cons.mp hy).elim (fun q => by rw [q]; exact Or.inr ⟨by decide, "java/lang/IndexOutOfBoundsException", w_246, by decide, by decide⟩) (fun hy => (by cases hy)))), by decide, by decide, w_461, by decide, Or.inl ⟨2, 28, dL_refund_10, by decide, dL_refund_11, w_518, dL_refund_13⟩⟩
theorem w_L_refund {g : GP} {σ : AH} {v1 : Int32} {Q Q0 : AH → Option Value → Prop} {X : AH → String → Prop} (hS : Sh σ) (hc : CtX g mX11_refund [.ref 2, .int v1] σ Q X) (hq : ∀ τ rv, Q τ rv → ∃ y : Int32, rv = some (.int y) ∧ Q0 τ (some (.int y))) (hx : ∀ τ Ex, X τ Ex → (Ex = "java/lang/IndexOutOfBoundsException" ∧ Q0 τ (some (.int (-1000001)))) ∨ (Ex = "java/lang/IllegalStateException" ∧ Q0 τ (some (.int (-1000003))))) : CtH g mL_refund [.ref 2, .int v1] σ Q0 := by
  refine CtH_of (by decide +kernel) rfl (b_L_refund_0 ?_)
  refine V_callVY (as := [.int v1]) (k' := 0) (n' := 0) hc mw_X11_refund ko_X11 rfl w_855 w_856 w_854 ar_X11_refund ⟨rfl, rfl, rfl, rfl, rfl⟩ dL_refund_2 (by decide) (shk hS 2 rfl) rfl (fun τ rv h => ?_) (fun τ Ex h => ?_)
  · obtain ⟨y, rfl, q⟩ := hq τ rv h
    exact V_iret rfl dL_refund_5 q
  · rcases hx τ Ex h with ⟨rfl, q⟩ | ⟨rfl, q⟩
    · exact ⟨-1000001, hx_L_refund_1, q⟩
    · exact ⟨-1000003, hx_L_refund_2, q⟩
theorem hx_L_reissue_1 : HY mL_reissue 2 "java/lang/IndexOutOfBoundsException" (-1000001) := ⟨[], ⟨0, 5, 6, 16⟩, _, rfl, (fun y hy => by cases hy), by decide, by decide, w_246, by decide, Or.inl ⟨2, 18, dL_reissue_6, by decide, dL_reissue_7, w_351, dL_reissue_9⟩⟩
theorem hx_L_reissue_2 : HY mL_reissue 2 "java/lang/IllegalStateException" (-1000003) := ⟨[⟨0, 5, 6, 16⟩], ⟨0, 5, 10, 26⟩, _, rfl, (fun y hy => ((List.mem_cons.mp hy).elim (fun q => by rw [q]; exact Or.inr ⟨by decide, "java/lang/IndexOutOfBoundsException", w_246, by decide, by decide⟩) (fun hy => (by cases hy)))), by decide, by decide, w_461, by decide, Or.inl ⟨2, 28, dL_reissue_10, by decide, dL_reissue_11, w_518, dL_reissue_13⟩⟩
theorem w_L_reissue {g : GP} {σ : AH} {v1 : Int32} {Q Q0 : AH → Option Value → Prop} {X : AH → String → Prop} (hS : Sh σ) (hc : CtX g mX11_reissue [.ref 2, .int v1] σ Q X) (hq : ∀ τ rv, Q τ rv → ∃ y : Int32, rv = some (.int y) ∧ Q0 τ (some (.int y))) (hx : ∀ τ Ex, X τ Ex → (Ex = "java/lang/IndexOutOfBoundsException" ∧ Q0 τ (some (.int (-1000001)))) ∨ (Ex = "java/lang/IllegalStateException" ∧ Q0 τ (some (.int (-1000003))))) : CtH g mL_reissue [.ref 2, .int v1] σ Q0 := by
  refine CtH_of (by decide +kernel) rfl (b_L_reissue_0 ?_)
  refine V_callVY (as := [.int v1]) (k' := 0) (n' := 0) hc mw_X11_reissue ko_X11 rfl w_884 w_885 w_883 ar_X11_reissue ⟨rfl, rfl, rfl, rfl, rfl⟩ dL_reissue_2 (by decide) (shk hS 2 rfl) rfl (fun τ rv h => ?_) (fun τ Ex h => ?_)
  · obtain ⟨y, rfl, q⟩ := hq τ rv h
    exact V_iret rfl dL_reissue_5 q
  · rcases hx τ Ex h with ⟨rfl, q⟩ | ⟨rfl, q⟩
    · exact ⟨-1000001, hx_L_reissue_1, q⟩
    · exact ⟨-1000003, hx_L_reissue_2, q⟩
theorem hx_L_reject_1 : HY mL_reject 2 "java/lang/IndexOutOfBoundsException" (-1000001) := ⟨[], ⟨0, 5, 6, 16⟩, _, rfl, (fun y hy => by cases hy), by decide, by decide, w_246, by decide, Or.inl ⟨2, 18, dL_reject_6, by decide, dL_reject_7, w_351, dL_reject_9⟩⟩
theorem hx_L_reject_2 : HY mL_reject 2 "java/lang/IllegalStateException" (-1000003) := ⟨[⟨0, 5, 6, 16⟩], ⟨0, 5, 10, 26⟩, _, rfl, (fun y hy => ((List.mem_cons.mp hy).elim (fun q => by rw [q]; exact Or.inr ⟨by decide, "java/lang/IndexOutOfBoundsException", w_246, by decide, by decide⟩) (fun hy => (by cases hy)))), by decide, by decide, w_461, by decide, Or.inl ⟨2, 28, dL_reject_10, by decide, dL_reject_11, w_518, dL_reject_13⟩⟩
theorem w_L_reject {g : GP} {σ : AH} {v1 : Int32} {Q Q0 : AH → Option Value → Prop} {X : AH → String → Prop} (hS : Sh σ) (hc : CtX g mX11_reject [.ref 2, .int v1] σ Q X) (hq : ∀ τ rv, Q τ rv → ∃ y : Int32, rv = some (.int y) ∧ Q0 τ (some (.int y))) (hx : ∀ τ Ex, X τ Ex → (Ex = "java/lang/IndexOutOfBoundsException" ∧ Q0 τ (some (.int (-1000001)))) ∨ (Ex = "java/lang/IllegalStateException" ∧ Q0 τ (some (.int (-1000003))))) : CtH g mL_reject [.ref 2, .int v1] σ Q0 := by
  refine CtH_of (by decide +kernel) rfl (b_L_reject_0 ?_)
  refine V_callVY (as := [.int v1]) (k' := 0) (n' := 0) hc mw_X11_reject ko_X11 rfl w_1029 w_1030 w_1028 ar_X11_reject ⟨rfl, rfl, rfl, rfl, rfl⟩ dL_reject_2 (by decide) (shk hS 2 rfl) rfl (fun τ rv h => ?_) (fun τ Ex h => ?_)
  · obtain ⟨y, rfl, q⟩ := hq τ rv h
    exact V_iret rfl dL_reject_5 q
  · rcases hx τ Ex h with ⟨rfl, q⟩ | ⟨rfl, q⟩
    · exact ⟨-1000001, hx_L_reject_1, q⟩
    · exact ⟨-1000003, hx_L_reject_2, q⟩
theorem hx_L_state_1 : HYl mL_state 2 "java/lang/IndexOutOfBoundsException" (-1000001) := ⟨[], ⟨0, 5, 6, 16⟩, _, rfl, (fun y hy => by cases hy), by decide, by decide, w_246, by decide, ⟨2, 99, dL_state_6, by decide, dL_state_7, w_367, dL_state_10⟩⟩
theorem w_L_state {g : GP} {σ : AH} {v1 : Int32} {Q Q0 : AH → Option Value → Prop} {X : AH → String → Prop} (hS : Sh σ) (hc : CtX g mX11_state [.ref 2, .int v1] σ Q X) (hq : ∀ τ rv, Q τ rv → ∃ y : Int64, rv = some (.long y) ∧ Q0 τ (some (.long y))) (hx : ∀ τ Ex, X τ Ex → (Ex = "java/lang/IndexOutOfBoundsException" ∧ Q0 τ (some (.long (-1000001))))) : CtH g mL_state [.ref 2, .int v1] σ Q0 := by
  refine CtH_of (by decide +kernel) rfl (b_L_state_0 ?_)
  refine V_callVYl (as := [.int v1]) (k' := 0) (n' := 0) hc mw_X11_state ko_X11 rfl w_372 w_373 w_371 ar_X11_state ⟨rfl, rfl, rfl, rfl, rfl⟩ dL_state_2 (by decide) (shk hS 2 rfl) rfl (fun τ rv h => ?_) (fun τ Ex h => ?_)
  · obtain ⟨y, rfl, q⟩ := hq τ rv h
    exact V_lret rfl dL_state_5 q
  · obtain ⟨rfl, q⟩ := hx τ Ex h
    exact ⟨-1000001, hx_L_state_1, q⟩
theorem hx_L_tax_1 : HY mL_tax 4 "java/lang/IndexOutOfBoundsException" (-1000001) := ⟨[], ⟨0, 8, 9, 16⟩, _, rfl, (fun y hy => by cases hy), by decide, by decide, w_246, by decide, Or.inr ⟨4, 18, dL_tax_9, by decide, dL_tax_11, w_351, dL_tax_13⟩⟩
theorem hx_L_tax_2 : HY mL_tax 4 "java/lang/IllegalArgumentException" (-1000002) := ⟨[⟨0, 8, 9, 16⟩], ⟨0, 8, 14, 19⟩, _, rfl, (fun y hy => ((List.mem_cons.mp hy).elim (fun q => by rw [q]; exact Or.inr ⟨by decide, "java/lang/IndexOutOfBoundsException", w_246, by decide, by decide⟩) (fun hy => (by cases hy)))), by decide, by decide, w_247, by decide, Or.inr ⟨4, 21, dL_tax_14, by decide, dL_tax_16, w_352, dL_tax_18⟩⟩
theorem w_L_tax {g : GP} {σ : AH} {v1 : Int32} {v2 : Int32} {v3 : Int32} {Q Q0 : AH → Option Value → Prop} {X : AH → String → Prop} (hS : Sh σ) (hc : CtX g mX11_tax [.ref 2, .int v1, .int v2, .int v3] σ Q X) (hq : ∀ τ rv, Q τ rv → Q0 τ (some (.int 0)) ∧ rv = none) (hx : ∀ τ Ex, X τ Ex → (Ex = "java/lang/IndexOutOfBoundsException" ∧ Q0 τ (some (.int (-1000001)))) ∨ (Ex = "java/lang/IllegalArgumentException" ∧ Q0 τ (some (.int (-1000002))))) : CtH g mL_tax [.ref 2, .int v1, .int v2, .int v3] σ Q0 := by
  refine CtH_of (by decide +kernel) rfl (b_L_tax_0 ?_)
  refine V_callVY (as := [.int v1, .int v2, .int v3]) (k' := 0) (n' := 0) hc mw_X11_tax ko_X11 rfl w_523 w_524 w_522 ar_X11_tax ⟨rfl, rfl, rfl, rfl, rfl⟩ dL_tax_4 (by decide) (shk hS 2 rfl) rfl (fun τ rv h => ?_) (fun τ Ex h => ?_)
  · obtain ⟨q, rfl⟩ := hq τ rv h
    refine V_iconst (0 : Int32) dL_tax_7 (by decide) ?_
    exact V_iret rfl dL_tax_8 q
  · rcases hx τ Ex h with ⟨rfl, q⟩ | ⟨rfl, q⟩
    · exact ⟨-1000001, hx_L_tax_1, q⟩
    · exact ⟨-1000002, hx_L_tax_2, q⟩
theorem hx_L_unit_1 : HY mL_unit 2 "java/lang/IllegalArgumentException" (-1000002) := ⟨[], ⟨0, 5, 6, 19⟩, _, rfl, (fun y hy => by cases hy), by decide, by decide, w_247, by decide, Or.inl ⟨2, 21, dL_unit_6, by decide, dL_unit_7, w_352, dL_unit_9⟩⟩
theorem w_L_unit {g : GP} {σ : AH} {v1 : Int32} {Q Q0 : AH → Option Value → Prop} {X : AH → String → Prop} (hS : Sh σ) (hc : CtX g mX11_unit [.ref 2, .int v1] σ Q X) (hq : ∀ τ rv, Q τ rv → ∃ y : Int32, rv = some (.int y) ∧ Q0 τ (some (.int y))) (hx : ∀ τ Ex, X τ Ex → (Ex = "java/lang/IllegalArgumentException" ∧ Q0 τ (some (.int (-1000002))))) : CtH g mL_unit [.ref 2, .int v1] σ Q0 := by
  refine CtH_of (by decide +kernel) rfl (b_L_unit_0 ?_)
  refine V_callVY (as := [.int v1]) (k' := 0) (n' := 0) hc mw_X11_unit ko_X11 rfl w_563 w_564 w_562 ar_X11_unit ⟨rfl, rfl, rfl, rfl, rfl⟩ dL_unit_2 (by decide) (shk hS 2 rfl) rfl (fun τ rv h => ?_) (fun τ Ex h => ?_)
  · obtain ⟨y, rfl, q⟩ := hq τ rv h
    exact V_iret rfl dL_unit_5 q
  · obtain ⟨rfl, q⟩ := hx τ Ex h
    exact ⟨-1000002, hx_L_unit_1, q⟩
theorem hx_L_weight_1 : HY mL_weight 4 "java/lang/IndexOutOfBoundsException" (-1000001) := ⟨[], ⟨0, 7, 8, 16⟩, _, rfl, (fun y hy => by cases hy), by decide, by decide, w_246, by decide, Or.inr ⟨4, 18, dL_weight_8, by decide, dL_weight_10, w_351, dL_weight_12⟩⟩
theorem hx_L_weight_2 : HY mL_weight 4 "java/lang/IllegalArgumentException" (-1000002) := ⟨[⟨0, 7, 8, 16⟩], ⟨0, 7, 13, 19⟩, _, rfl, (fun y hy => ((List.mem_cons.mp hy).elim (fun q => by rw [q]; exact Or.inr ⟨by decide, "java/lang/IndexOutOfBoundsException", w_246, by decide, by decide⟩) (fun hy => (by cases hy)))), by decide, by decide, w_247, by decide, Or.inr ⟨4, 21, dL_weight_13, by decide, dL_weight_15, w_352, dL_weight_17⟩⟩
theorem w_L_weight {g : GP} {σ : AH} {v1 : Int32} {v2 : Int32} {v3 : Int32} {Q Q0 : AH → Option Value → Prop} {X : AH → String → Prop} (hS : Sh σ) (hc : CtX g mX11_weight [.ref 2, .int v1, .int v2, .int v3] σ Q X) (hq : ∀ τ rv, Q τ rv → ∃ y : Int32, rv = some (.int y) ∧ Q0 τ (some (.int y))) (hx : ∀ τ Ex, X τ Ex → (Ex = "java/lang/IndexOutOfBoundsException" ∧ Q0 τ (some (.int (-1000001)))) ∨ (Ex = "java/lang/IllegalArgumentException" ∧ Q0 τ (some (.int (-1000002))))) : CtH g mL_weight [.ref 2, .int v1, .int v2, .int v3] σ Q0 := by
  refine CtH_of (by decide +kernel) rfl (b_L_weight_0 ?_)
  refine V_callVY (as := [.int v1, .int v2, .int v3]) (k' := 0) (n' := 0) hc mw_X11_weight ko_X11 rfl w_536 w_537 w_535 ar_X11_weight ⟨rfl, rfl, rfl, rfl, rfl⟩ dL_weight_4 (by decide) (shk hS 2 rfl) rfl (fun τ rv h => ?_) (fun τ Ex h => ?_)
  · obtain ⟨y, rfl, q⟩ := hq τ rv h
    exact V_iret rfl dL_weight_7 q
  · rcases hx τ Ex h with ⟨rfl, q⟩ | ⟨rfl, q⟩
    · exact ⟨-1000001, hx_L_weight_1, q⟩
    · exact ⟨-1000002, hx_L_weight_2, q⟩
