/-! ===== the law: a call that may throw, and its catches ===== -/
set_option maxRecDepth 100000 in
set_option maxHeartbeats 4000000 in
theorem b_L_cash_0 {g : GP} {CX : State → Array Value → Prop} {E : ET} {v1 : Int32} {σ : AH}
    (k1 : V g mL_cash E CX 1 6 4 [(0, .ref 2), (1, .int v1), (2, .ref 72)] [.int v1, .ref 2, .int (0 : Int32), .ref 72] σ) :
    V g mL_cash E CX 1 6 0 [(0, .ref 2), (1, .int v1), (2, .ref 72)] [] σ := by
  refine V_aload_n dL_cash_0 rfl ?_
  refine V_iconst (0 : Int32) dL_cash_1 (by decide) ?_
  refine V_aload_n dL_cash_2 rfl ?_
  refine V_iload_n dL_cash_3 rfl ?_
  exact k1

set_option maxRecDepth 100000 in
set_option maxHeartbeats 4000000 in
theorem b_L_cashAnew_0 {g : GP} {CX : State → Array Value → Prop} {E : ET} {v1 : Int32} {σ : AH}
    (k1 : V g mL_cashAnew E CX 1 6 4 [(0, .ref 2), (1, .int v1), (2, .ref 72)] [.int v1, .ref 2, .int (0 : Int32), .ref 72] σ) :
    V g mL_cashAnew E CX 1 6 0 [(0, .ref 2), (1, .int v1), (2, .ref 72)] [] σ := by
  refine V_aload_n dL_cashAnew_0 rfl ?_
  refine V_iconst (0 : Int32) dL_cashAnew_1 (by decide) ?_
  refine V_aload_n dL_cashAnew_2 rfl ?_
  refine V_iload_n dL_cashAnew_3 rfl ?_
  exact k1

set_option maxRecDepth 100000 in
set_option maxHeartbeats 4000000 in
theorem b_L_endorse_0 {g : GP} {CX : State → Array Value → Prop} {E : ET} {v1 : Int32} {v2 : Int32} {v3 : Int32} {σ : AH}
    (k1 : V g mL_endorse E CX 1 6 7 [(0, .ref 2), (1, .int v1), (2, .int v2), (3, .int v3), (4, .ref 72)] [.int v3, .int v2, .int v1, .ref 2, .int (0 : Int32), .ref 72] σ) :
    V g mL_endorse E CX 1 6 0 [(0, .ref 2), (1, .int v1), (2, .int v2), (3, .int v3), (4, .ref 72)] [] σ := by
  refine V_aload dL_endorse_0 rfl ?_
  refine V_iconst (0 : Int32) dL_endorse_2 (by decide) ?_
  refine V_aload_n dL_endorse_3 rfl ?_
  refine V_iload_n dL_endorse_4 rfl ?_
  refine V_iload_n dL_endorse_5 rfl ?_
  refine V_iload_n dL_endorse_6 rfl ?_
  exact k1

set_option maxRecDepth 100000 in
set_option maxHeartbeats 4000000 in
theorem b_L_fails_0 {g : GP} {CX : State → Array Value → Prop} {E : ET} {v1 : Int32} {v2 : Int32} {σ : AH}
    (k1 : V g mL_fails E CX 1 6 5 [(0, .ref 2), (1, .int v1), (2, .int v2), (3, .ref 72)] [.int v2, .int v1, .ref 2, .int (0 : Int32), .ref 72] σ) :
    V g mL_fails E CX 1 6 0 [(0, .ref 2), (1, .int v1), (2, .int v2), (3, .ref 72)] [] σ := by
  refine V_aload_n dL_fails_0 rfl ?_
  refine V_iconst (0 : Int32) dL_fails_1 (by decide) ?_
  refine V_aload_n dL_fails_2 rfl ?_
  refine V_iload_n dL_fails_3 rfl ?_
  refine V_iload_n dL_fails_4 rfl ?_
  exact k1

set_option maxRecDepth 100000 in
set_option maxHeartbeats 4000000 in
theorem b_L_fare_0 {g : GP} {CX : State → Array Value → Prop} {E : ET} {v1 : Int32} {v2 : Int32} {v3 : Int32} {v4 : Int32} {v5 : Int32} {v6 : Int32} {σ : AH}
    (k1 : V g mL_fare E CX 2 13 13 [(0, .ref 2), (1, .int v1), (2, .int v2), (3, .int v3), (4, .int v4), (5, .int v5), (6, .int v6), (7, .ref 72)] [.int v6, .int v5, .int v4, .int v3, .int v2, .int v1, .ref 2, .int (0 : Int32), .ref 72] σ) :
    V g mL_fare E CX 2 13 0 [(0, .ref 2), (1, .int v1), (2, .int v2), (3, .int v3), (4, .int v4), (5, .int v5), (6, .int v6), (7, .ref 72)] [] σ := by
  refine V_aload dL_fare_0 rfl ?_
  refine V_iconst (0 : Int32) dL_fare_2 (by decide) ?_
  refine V_aload_n dL_fare_3 rfl ?_
  refine V_iload_n dL_fare_4 rfl ?_
  refine V_iload_n dL_fare_5 rfl ?_
  refine V_iload_n dL_fare_6 rfl ?_
  refine V_iload dL_fare_7 rfl ?_
  refine V_iload dL_fare_9 rfl ?_
  refine V_iload dL_fare_11 rfl ?_
  exact k1

set_option maxRecDepth 100000 in
set_option maxHeartbeats 4000000 in
theorem b_L_fly_0 {g : GP} {CX : State → Array Value → Prop} {E : ET} {v1 : Int32} {v2 : Int32} {σ : AH}
    (k1 : V g mL_fly E CX 2 12 5 [(0, .ref 2), (1, .int v1), (2, .int v2), (3, .ref 72)] [.int v2, .int v1, .ref 2, .int (0 : Int32), .ref 72] σ) :
    V g mL_fly E CX 2 12 0 [(0, .ref 2), (1, .int v1), (2, .int v2), (3, .ref 72)] [] σ := by
  refine V_aload_n dL_fly_0 rfl ?_
  refine V_iconst (0 : Int32) dL_fly_1 (by decide) ?_
  refine V_aload_n dL_fly_2 rfl ?_
  refine V_iload_n dL_fly_3 rfl ?_
  refine V_iload_n dL_fly_4 rfl ?_
  exact k1

set_option maxRecDepth 100000 in
set_option maxHeartbeats 4000000 in
theorem b_L_issue_0 {g : GP} {CX : State → Array Value → Prop} {E : ET} {v1 : Int32} {σ : AH}
    (k1 : V g mL_issue E CX 11 94 4 [(0, .ref 2), (1, .int v1), (2, .ref 72)] [.int v1, .ref 2, .int (0 : Int32), .ref 72] σ) :
    V g mL_issue E CX 11 94 0 [(0, .ref 2), (1, .int v1), (2, .ref 72)] [] σ := by
  refine V_aload_n dL_issue_0 rfl ?_
  refine V_iconst (0 : Int32) dL_issue_1 (by decide) ?_
  refine V_aload_n dL_issue_2 rfl ?_
  refine V_iload_n dL_issue_3 rfl ?_
  exact k1

set_option maxRecDepth 100000 in
set_option maxHeartbeats 4000000 in
theorem b_L_leg_0 {g : GP} {CX : State → Array Value → Prop} {E : ET} {v1 : Int32} {v2 : Int32} {v3 : Int32} {v4 : Int32} {σ : AH}
    (k1 : V g mL_leg E CX 1 6 9 [(0, .ref 2), (1, .int v1), (2, .int v2), (3, .int v3), (4, .int v4), (5, .ref 72)] [.int v4, .int v3, .int v2, .int v1, .ref 2, .int (0 : Int32), .ref 72] σ) :
    V g mL_leg E CX 1 6 0 [(0, .ref 2), (1, .int v1), (2, .int v2), (3, .int v3), (4, .int v4), (5, .ref 72)] [] σ := by
  refine V_aload dL_leg_0 rfl ?_
  refine V_iconst (0 : Int32) dL_leg_2 (by decide) ?_
  refine V_aload_n dL_leg_3 rfl ?_
  refine V_iload_n dL_leg_4 rfl ?_
  refine V_iload_n dL_leg_5 rfl ?_
  refine V_iload_n dL_leg_6 rfl ?_
  refine V_iload dL_leg_7 rfl ?_
  exact k1

set_option maxRecDepth 100000 in
set_option maxHeartbeats 4000000 in
theorem b_L_miles_0 {g : GP} {CX : State → Array Value → Prop} {E : ET} {v1 : Int32} {v2 : Int32} {v3 : Int32} {σ : AH}
    (k1 : V g mL_miles E CX 1 6 7 [(0, .ref 2), (1, .int v1), (2, .int v2), (3, .int v3), (4, .ref 72)] [.int v3, .int v2, .int v1, .ref 2, .int (0 : Int32), .ref 72] σ) :
    V g mL_miles E CX 1 6 0 [(0, .ref 2), (1, .int v1), (2, .int v2), (3, .int v3), (4, .ref 72)] [] σ := by
  refine V_aload dL_miles_0 rfl ?_
  refine V_iconst (0 : Int32) dL_miles_2 (by decide) ?_
  refine V_aload_n dL_miles_3 rfl ?_
  refine V_iload_n dL_miles_4 rfl ?_
  refine V_iload_n dL_miles_5 rfl ?_
  refine V_iload_n dL_miles_6 rfl ?_
  exact k1

set_option maxRecDepth 100000 in
set_option maxHeartbeats 4000000 in
theorem b_L_of_0 {g : GP} {CX : State → Array Value → Prop} {E : ET} {v1 : Int32} {σ : AH}
    (k1 : V g mL_of E CX 1 6 4 [(0, .ref 2), (1, .int v1), (2, .ref 72)] [.int v1, .ref 2, .int (0 : Int32), .ref 72] σ) :
    V g mL_of E CX 1 6 0 [(0, .ref 2), (1, .int v1), (2, .ref 72)] [] σ := by
  refine V_aload_n dL_of_0 rfl ?_
  refine V_iconst (0 : Int32) dL_of_1 (by decide) ?_
  refine V_aload_n dL_of_2 rfl ?_
  refine V_iload_n dL_of_3 rfl ?_
  exact k1

set_option maxRecDepth 100000 in
set_option maxHeartbeats 4000000 in
theorem b_L_ofBill_0 {g : GP} {CX : State → Array Value → Prop} {E : ET} {v1 : Int32} {v2 : Int32} {σ : AH}
    (k1 : V g mL_ofBill E CX 1 6 5 [(0, .ref 2), (1, .int v1), (2, .int v2), (3, .ref 72)] [.int v2, .int v1, .ref 2, .int (0 : Int32), .ref 72] σ) :
    V g mL_ofBill E CX 1 6 0 [(0, .ref 2), (1, .int v1), (2, .int v2), (3, .ref 72)] [] σ := by
  refine V_aload_n dL_ofBill_0 rfl ?_
  refine V_iconst (0 : Int32) dL_ofBill_1 (by decide) ?_
  refine V_aload_n dL_ofBill_2 rfl ?_
  refine V_iload_n dL_ofBill_3 rfl ?_
  refine V_iload_n dL_ofBill_4 rfl ?_
  exact k1

set_option maxRecDepth 100000 in
set_option maxHeartbeats 4000000 in
theorem b_L_ofCoupon_0 {g : GP} {CX : State → Array Value → Prop} {E : ET} {v1 : Int32} {v2 : Int32} {v3 : Int32} {σ : AH}
    (k1 : V g mL_ofCoupon E CX 1 6 7 [(0, .ref 2), (1, .int v1), (2, .int v2), (3, .int v3), (4, .ref 72)] [.int v3, .int v2, .int v1, .ref 2, .int (0 : Int32), .ref 72] σ) :
    V g mL_ofCoupon E CX 1 6 0 [(0, .ref 2), (1, .int v1), (2, .int v2), (3, .int v3), (4, .ref 72)] [] σ := by
  refine V_aload dL_ofCoupon_0 rfl ?_
  refine V_iconst (0 : Int32) dL_ofCoupon_2 (by decide) ?_
  refine V_aload_n dL_ofCoupon_3 rfl ?_
  refine V_iload_n dL_ofCoupon_4 rfl ?_
  refine V_iload_n dL_ofCoupon_5 rfl ?_
  refine V_iload_n dL_ofCoupon_6 rfl ?_
  exact k1

set_option maxRecDepth 100000 in
set_option maxHeartbeats 4000000 in
theorem b_L_ofTicket_0 {g : GP} {CX : State → Array Value → Prop} {E : ET} {v1 : Int32} {v2 : Int32} {σ : AH}
    (k1 : V g mL_ofTicket E CX 1 6 5 [(0, .ref 2), (1, .int v1), (2, .int v2), (3, .ref 72)] [.int v2, .int v1, .ref 2, .int (0 : Int32), .ref 72] σ) :
    V g mL_ofTicket E CX 1 6 0 [(0, .ref 2), (1, .int v1), (2, .int v2), (3, .ref 72)] [] σ := by
  refine V_aload_n dL_ofTicket_0 rfl ?_
  refine V_iconst (0 : Int32) dL_ofTicket_1 (by decide) ?_
  refine V_aload_n dL_ofTicket_2 rfl ?_
  refine V_iload_n dL_ofTicket_3 rfl ?_
  refine V_iload_n dL_ofTicket_4 rfl ?_
  exact k1

set_option maxRecDepth 100000 in
set_option maxHeartbeats 4000000 in
theorem b_L_part_0 {g : GP} {CX : State → Array Value → Prop} {E : ET} {v1 : Int32} {v2 : Int32} {σ : AH}
    (k1 : V g mL_part E CX 1 6 5 [(0, .ref 2), (1, .int v1), (2, .int v2), (3, .ref 72)] [.int v2, .int v1, .ref 2, .int (0 : Int32), .ref 72] σ) :
    V g mL_part E CX 1 6 0 [(0, .ref 2), (1, .int v1), (2, .int v2), (3, .ref 72)] [] σ := by
  refine V_aload_n dL_part_0 rfl ?_
  refine V_iconst (0 : Int32) dL_part_1 (by decide) ?_
  refine V_aload_n dL_part_2 rfl ?_
  refine V_iload_n dL_part_3 rfl ?_
  refine V_iload_n dL_part_4 rfl ?_
  exact k1

set_option maxRecDepth 100000 in
set_option maxHeartbeats 4000000 in
theorem b_L_pass_0 {g : GP} {CX : State → Array Value → Prop} {E : ET} {v1 : Int32} {σ : AH}
    (k1 : V g mL_pass E CX 1 6 4 [(0, .ref 2), (1, .int v1), (2, .ref 72)] [.int v1, .ref 2, .int (0 : Int32), .ref 72] σ) :
    V g mL_pass E CX 1 6 0 [(0, .ref 2), (1, .int v1), (2, .ref 72)] [] σ := by
  refine V_aload_n dL_pass_0 rfl ?_
  refine V_iconst (0 : Int32) dL_pass_1 (by decide) ?_
  refine V_aload_n dL_pass_2 rfl ?_
  refine V_iload_n dL_pass_3 rfl ?_
  exact k1

set_option maxRecDepth 100000 in
set_option maxHeartbeats 4000000 in
theorem b_L_penalty_0 {g : GP} {CX : State → Array Value → Prop} {E : ET} {v1 : Int32} {σ : AH}
    (k1 : V g mL_penalty E CX 1 6 4 [(0, .ref 2), (1, .int v1), (2, .ref 72)] [.int v1, .ref 2, .int (0 : Int32), .ref 72] σ) :
    V g mL_penalty E CX 1 6 0 [(0, .ref 2), (1, .int v1), (2, .ref 72)] [] σ := by
  refine V_aload_n dL_penalty_0 rfl ?_
  refine V_iconst (0 : Int32) dL_penalty_1 (by decide) ?_
  refine V_aload_n dL_penalty_2 rfl ?_
  refine V_iload_n dL_penalty_3 rfl ?_
  exact k1

set_option maxRecDepth 100000 in
set_option maxHeartbeats 4000000 in
theorem b_L_proviso_0 {g : GP} {CX : State → Array Value → Prop} {E : ET} {v1 : Int32} {v2 : Int32} {v3 : Int32} {v4 : Int32} {σ : AH}
    (k1 : V g mL_proviso E CX 1 6 9 [(0, .ref 2), (1, .int v1), (2, .int v2), (3, .int v3), (4, .int v4), (5, .ref 72)] [.int v4, .int v3, .int v2, .int v1, .ref 2, .int (0 : Int32), .ref 72] σ) :
    V g mL_proviso E CX 1 6 0 [(0, .ref 2), (1, .int v1), (2, .int v2), (3, .int v3), (4, .int v4), (5, .ref 72)] [] σ := by
  refine V_aload dL_proviso_0 rfl ?_
  refine V_iconst (0 : Int32) dL_proviso_2 (by decide) ?_
  refine V_aload_n dL_proviso_3 rfl ?_
  refine V_iload_n dL_proviso_4 rfl ?_
  refine V_iload_n dL_proviso_5 rfl ?_
  refine V_iload_n dL_proviso_6 rfl ?_
  refine V_iload dL_proviso_7 rfl ?_
  exact k1

set_option maxRecDepth 100000 in
set_option maxHeartbeats 4000000 in
theorem b_L_rebill_0 {g : GP} {CX : State → Array Value → Prop} {E : ET} {v1 : Int32} {σ : AH}
    (k1 : V g mL_rebill E CX 1 6 2 [(0, .ref 2), (1, .int v1)] [.int v1, .ref 2] σ) :
    V g mL_rebill E CX 1 6 0 [(0, .ref 2), (1, .int v1)] [] σ := by
  refine V_aload_n dL_rebill_0 rfl ?_
  refine V_iload_n dL_rebill_1 rfl ?_
  exact k1

set_option maxRecDepth 100000 in
set_option maxHeartbeats 4000000 in
theorem b_L_refund_0 {g : GP} {CX : State → Array Value → Prop} {E : ET} {v1 : Int32} {σ : AH}
    (k1 : V g mL_refund E CX 1 6 4 [(0, .ref 2), (1, .int v1), (2, .ref 72)] [.int v1, .ref 2, .int (0 : Int32), .ref 72] σ) :
    V g mL_refund E CX 1 6 0 [(0, .ref 2), (1, .int v1), (2, .ref 72)] [] σ := by
  refine V_aload_n dL_refund_0 rfl ?_
  refine V_iconst (0 : Int32) dL_refund_1 (by decide) ?_
  refine V_aload_n dL_refund_2 rfl ?_
  refine V_iload_n dL_refund_3 rfl ?_
  exact k1

set_option maxRecDepth 100000 in
set_option maxHeartbeats 4000000 in
theorem b_L_reissue_0 {g : GP} {CX : State → Array Value → Prop} {E : ET} {v1 : Int32} {σ : AH}
    (k1 : V g mL_reissue E CX 11 94 4 [(0, .ref 2), (1, .int v1), (2, .ref 72)] [.int v1, .ref 2, .int (0 : Int32), .ref 72] σ) :
    V g mL_reissue E CX 11 94 0 [(0, .ref 2), (1, .int v1), (2, .ref 72)] [] σ := by
  refine V_aload_n dL_reissue_0 rfl ?_
  refine V_iconst (0 : Int32) dL_reissue_1 (by decide) ?_
  refine V_aload_n dL_reissue_2 rfl ?_
  refine V_iload_n dL_reissue_3 rfl ?_
  exact k1

set_option maxRecDepth 100000 in
set_option maxHeartbeats 4000000 in
theorem b_L_reject_0 {g : GP} {CX : State → Array Value → Prop} {E : ET} {v1 : Int32} {σ : AH}
    (k1 : V g mL_reject E CX 1 6 4 [(0, .ref 2), (1, .int v1), (2, .ref 72)] [.int v1, .ref 2, .int (0 : Int32), .ref 72] σ) :
    V g mL_reject E CX 1 6 0 [(0, .ref 2), (1, .int v1), (2, .ref 72)] [] σ := by
  refine V_aload_n dL_reject_0 rfl ?_
  refine V_iconst (0 : Int32) dL_reject_1 (by decide) ?_
  refine V_aload_n dL_reject_2 rfl ?_
  refine V_iload_n dL_reject_3 rfl ?_
  exact k1

set_option maxRecDepth 100000 in
set_option maxHeartbeats 4000000 in
theorem b_L_state_0 {g : GP} {CX : State → Array Value → Prop} {E : ET} {v1 : Int32} {σ : AH}
    (k1 : V g mL_state E CX 1 6 4 [(0, .ref 2), (1, .int v1), (2, .ref 72)] [.int v1, .ref 2, .int (0 : Int32), .ref 72] σ) :
    V g mL_state E CX 1 6 0 [(0, .ref 2), (1, .int v1), (2, .ref 72)] [] σ := by
  refine V_aload_n dL_state_0 rfl ?_
  refine V_iconst (0 : Int32) dL_state_1 (by decide) ?_
  refine V_aload_n dL_state_2 rfl ?_
  refine V_iload_n dL_state_3 rfl ?_
  exact k1

set_option maxRecDepth 100000 in
set_option maxHeartbeats 4000000 in
theorem b_L_tax_0 {g : GP} {CX : State → Array Value → Prop} {E : ET} {v1 : Int32} {v2 : Int32} {v3 : Int32} {σ : AH}
    (k1 : V g mL_tax E CX 1 6 4 [(0, .ref 2), (1, .int v1), (2, .int v2), (3, .int v3)] [.int v3, .int v2, .int v1, .ref 2] σ) :
    V g mL_tax E CX 1 6 0 [(0, .ref 2), (1, .int v1), (2, .int v2), (3, .int v3)] [] σ := by
  refine V_aload_n dL_tax_0 rfl ?_
  refine V_iload_n dL_tax_1 rfl ?_
  refine V_iload_n dL_tax_2 rfl ?_
  refine V_iload_n dL_tax_3 rfl ?_
  exact k1

set_option maxRecDepth 100000 in
set_option maxHeartbeats 4000000 in
theorem b_L_unit_0 {g : GP} {CX : State → Array Value → Prop} {E : ET} {v1 : Int32} {σ : AH}
    (k1 : V g mL_unit E CX 1 6 4 [(0, .ref 2), (1, .int v1), (2, .ref 72)] [.int v1, .ref 2, .int (0 : Int32), .ref 72] σ) :
    V g mL_unit E CX 1 6 0 [(0, .ref 2), (1, .int v1), (2, .ref 72)] [] σ := by
  refine V_aload_n dL_unit_0 rfl ?_
  refine V_iconst (0 : Int32) dL_unit_1 (by decide) ?_
  refine V_aload_n dL_unit_2 rfl ?_
  refine V_iload_n dL_unit_3 rfl ?_
  exact k1

set_option maxRecDepth 100000 in
set_option maxHeartbeats 4000000 in
theorem b_L_weight_0 {g : GP} {CX : State → Array Value → Prop} {E : ET} {v1 : Int32} {v2 : Int32} {v3 : Int32} {σ : AH}
    (k1 : V g mL_weight E CX 1 6 7 [(0, .ref 2), (1, .int v1), (2, .int v2), (3, .int v3), (4, .ref 72)] [.int v3, .int v2, .int v1, .ref 2, .int (0 : Int32), .ref 72] σ) :
    V g mL_weight E CX 1 6 0 [(0, .ref 2), (1, .int v1), (2, .int v2), (3, .int v3), (4, .ref 72)] [] σ := by
  refine V_aload dL_weight_0 rfl ?_
  refine V_iconst (0 : Int32) dL_weight_2 (by decide) ?_
  refine V_aload_n dL_weight_3 rfl ?_
  refine V_iload_n dL_weight_4 rfl ?_
  refine V_iload_n dL_weight_5 rfl ?_
  refine V_iload_n dL_weight_6 rfl ?_
  exact k1

set_option maxRecDepth 100000 in
set_option maxHeartbeats 4000000 in
theorem b_L_withdraw_0 {g : GP} {CX : State → Array Value → Prop} {E : ET} {v1 : Int32} {σ : AH}
    (k1 : V g mL_withdraw E CX 1 6 2 [(0, .ref 2), (1, .int v1)] [.int v1, .ref 2] σ) :
    V g mL_withdraw E CX 1 6 0 [(0, .ref 2), (1, .int v1)] [] σ := by
  refine V_aload_n dL_withdraw_0 rfl ?_
  refine V_iload_n dL_withdraw_1 rfl ?_
  exact k1

theorem hx_L_cash_1 : HX mL_cash 4 "java/lang/IndexOutOfBoundsException" 1 := ⟨[], ⟨0, 8, 11, 13⟩, _, rfl, (fun y hy => by cases hy), by decide, by decide, w_433, by decide, Or.inl ⟨3, 1, dL_cash_11, by decide, dL_cash_12, by decide, dL_cash_13⟩⟩
theorem w_L_cash {g : GP} {σ : AH} {v1 : Int32} {Q Q0 : AH → Option Value → Prop} {X : AH → String → Prop} (hS : Sh σ) (hc : CtX g mX11_cash [.ref 2, .int v1] σ Q X) (hq : ∀ τ rv, Q τ rv → ∃ y : Int64, rv = some (.long y) ∧ Sh τ ∧ Q0 (uJ τ 72 0 y) (some (.int 0))) (hx : ∀ τ Ex, X τ Ex → (Ex = "java/lang/IndexOutOfBoundsException" ∧ Q0 τ (some (.int 1)))) : CtH g mL_cash [.ref 2, .int v1, .ref 72] σ Q0 := by
  refine CtH_of (by decide +kernel) rfl (b_L_cash_0 ?_)
  refine V_callVX (as := [.int v1]) (k' := 0) (n' := 0) hc mw_X11_cash ko_X11 rfl w_1013 w_1014 w_1012 ar_X11_cash ⟨rfl, rfl, rfl, rfl, rfl⟩ dL_cash_4 (by decide) (shk hS 2 rfl) rfl (fun τ rv h => ?_) (fun τ Ex h => ?_)
  · obtain ⟨y, rfl, hS2, q⟩ := hq τ rv h
    refine V_last dL_cash_7 (by decide) (shk hS2 72 rfl) (vp_l (n := 1) (shl hS2 72 rfl) (vp_in_nI (n := 0) (by decide) (by decide))) ?_
    refine V_goto 14 dL_cash_8 rfl ?_
    refine V_iconst (0 : Int32) dL_cash_14 (by decide) ?_
    exact V_iret rfl dL_cash_15 q
  · obtain ⟨rfl, q⟩ := hx τ Ex h
    exact ⟨1, hx_L_cash_1, q⟩
theorem hx_L_cashAnew_1 : HX mL_cashAnew 4 "java/lang/IndexOutOfBoundsException" 1 := ⟨[], ⟨0, 8, 11, 13⟩, _, rfl, (fun y hy => by cases hy), by decide, by decide, w_433, by decide, Or.inl ⟨3, 1, dL_cashAnew_11, by decide, dL_cashAnew_12, by decide, dL_cashAnew_13⟩⟩
theorem w_L_cashAnew {g : GP} {σ : AH} {v1 : Int32} {Q Q0 : AH → Option Value → Prop} {X : AH → String → Prop} (hS : Sh σ) (hc : CtX g mX11_cashAnew [.ref 2, .int v1] σ Q X) (hq : ∀ τ rv, Q τ rv → ∃ y : Int64, rv = some (.long y) ∧ Sh τ ∧ Q0 (uJ τ 72 0 y) (some (.int 0))) (hx : ∀ τ Ex, X τ Ex → (Ex = "java/lang/IndexOutOfBoundsException" ∧ Q0 τ (some (.int 1)))) : CtH g mL_cashAnew [.ref 2, .int v1, .ref 72] σ Q0 := by
  refine CtH_of (by decide +kernel) rfl (b_L_cashAnew_0 ?_)
  refine V_callVX (as := [.int v1]) (k' := 0) (n' := 0) hc mw_X11_cashAnew ko_X11 rfl w_1020 w_1021 w_1019 ar_X11_cashAnew ⟨rfl, rfl, rfl, rfl, rfl⟩ dL_cashAnew_4 (by decide) (shk hS 2 rfl) rfl (fun τ rv h => ?_) (fun τ Ex h => ?_)
  · obtain ⟨y, rfl, hS2, q⟩ := hq τ rv h
    refine V_last dL_cashAnew_7 (by decide) (shk hS2 72 rfl) (vp_l (n := 1) (shl hS2 72 rfl) (vp_in_nI (n := 0) (by decide) (by decide))) ?_
    refine V_goto 14 dL_cashAnew_8 rfl ?_
    refine V_iconst (0 : Int32) dL_cashAnew_14 (by decide) ?_
    exact V_iret rfl dL_cashAnew_15 q
  · obtain ⟨rfl, q⟩ := hx τ Ex h
    exact ⟨1, hx_L_cashAnew_1, q⟩
theorem hx_L_endorse_1 : HX mL_endorse 7 "java/lang/IndexOutOfBoundsException" 1 := ⟨[], ⟨0, 12, 15, 13⟩, _, rfl, (fun y hy => by cases hy), by decide, by decide, w_433, by decide, Or.inr ⟨5, 1, dL_endorse_15, by decide, dL_endorse_17, by decide, dL_endorse_18⟩⟩
theorem hx_L_endorse_2 : HX mL_endorse 7 "java/lang/IllegalStateException" 2 := ⟨[⟨0, 12, 15, 13⟩], ⟨0, 12, 19, 21⟩, _, rfl, (fun y hy => ((List.mem_cons.mp hy).elim (fun q => by rw [q]; exact Or.inr ⟨by decide, "java/lang/IndexOutOfBoundsException", w_433, by decide, by decide⟩) (fun hy => (by cases hy)))), by decide, by decide, w_533, by decide, Or.inr ⟨5, 2, dL_endorse_19, by decide, dL_endorse_21, by decide, dL_endorse_22⟩⟩
theorem w_L_endorse {g : GP} {σ : AH} {v1 : Int32} {v2 : Int32} {v3 : Int32} {Q Q0 : AH → Option Value → Prop} {X : AH → String → Prop} (hS : Sh σ) (hc : CtX g mX11_endorse [.ref 2, .int v1, .int v2, .int v3] σ Q X) (hq : ∀ τ rv, Q τ rv → ∃ y : Int32, rv = some (.int y) ∧ Sh τ ∧ Q0 (uJ τ 72 0 (Int32.toInt64 y)) (some (.int 0))) (hx : ∀ τ Ex, X τ Ex → (Ex = "java/lang/IndexOutOfBoundsException" ∧ Q0 τ (some (.int 1))) ∨ (Ex = "java/lang/IllegalStateException" ∧ Q0 τ (some (.int 2)))) : CtH g mL_endorse [.ref 2, .int v1, .int v2, .int v3, .ref 72] σ Q0 := by
  refine CtH_of (by decide +kernel) rfl (b_L_endorse_0 ?_)
  refine V_callVX (as := [.int v1, .int v2, .int v3]) (k' := 0) (n' := 0) hc mw_X11_endorse ko_X11 rfl w_896 w_897 w_895 ar_X11_endorse ⟨rfl, rfl, rfl, rfl, rfl⟩ dL_endorse_7 (by decide) (shk hS 2 rfl) rfl (fun τ rv h => ?_) (fun τ Ex h => ?_)
  · obtain ⟨y, rfl, hS2, q⟩ := hq τ rv h
    refine V_i2l dL_endorse_10 ?_
    refine V_last dL_endorse_11 (by decide) (shk hS2 72 rfl) (vp_l (n := 1) (shl hS2 72 rfl) (vp_in_nI (n := 0) (by decide) (by decide))) ?_
    refine V_goto 23 dL_endorse_12 rfl ?_
    refine V_iconst (0 : Int32) dL_endorse_23 (by decide) ?_
    exact V_iret rfl dL_endorse_24 q
  · rcases hx τ Ex h with ⟨rfl, q⟩ | ⟨rfl, q⟩
    · exact ⟨1, hx_L_endorse_1, q⟩
    · exact ⟨2, hx_L_endorse_2, q⟩
theorem hx_L_fails_1 : HX mL_fails 5 "java/lang/IndexOutOfBoundsException" 1 := ⟨[], ⟨0, 10, 13, 13⟩, _, rfl, (fun y hy => by cases hy), by decide, by decide, w_433, by decide, Or.inr ⟨4, 1, dL_fails_13, by decide, dL_fails_15, by decide, dL_fails_16⟩⟩
theorem w_L_fails {g : GP} {σ : AH} {v1 : Int32} {v2 : Int32} {Q Q0 : AH → Option Value → Prop} {X : AH → String → Prop} (hS : Sh σ) (hc : CtX g mX11_fails [.ref 2, .int v1, .int v2] σ Q X) (hq : ∀ τ rv, Q τ rv → ∃ y : Int32, rv = some (.int y) ∧ Sh τ ∧ Q0 (uJ τ 72 0 (Int32.toInt64 y)) (some (.int 0))) (hx : ∀ τ Ex, X τ Ex → (Ex = "java/lang/IndexOutOfBoundsException" ∧ Q0 τ (some (.int 1)))) : CtH g mL_fails [.ref 2, .int v1, .int v2, .ref 72] σ Q0 := by
  refine CtH_of (by decide +kernel) rfl (b_L_fails_0 ?_)
  refine V_callVX (as := [.int v1, .int v2]) (k' := 0) (n' := 0) hc mw_X11_fails ko_X11 rfl w_962 w_963 w_961 ar_X11_fails ⟨rfl, rfl, rfl, rfl, rfl⟩ dL_fails_5 (by decide) (shk hS 2 rfl) rfl (fun τ rv h => ?_) (fun τ Ex h => ?_)
  · obtain ⟨y, rfl, hS2, q⟩ := hq τ rv h
    refine V_i2l dL_fails_8 ?_
    refine V_last dL_fails_9 (by decide) (shk hS2 72 rfl) (vp_l (n := 1) (shl hS2 72 rfl) (vp_in_nI (n := 0) (by decide) (by decide))) ?_
    refine V_goto 17 dL_fails_10 rfl ?_
    refine V_iconst (0 : Int32) dL_fails_17 (by decide) ?_
    exact V_iret rfl dL_fails_18 q
  · obtain ⟨rfl, q⟩ := hx τ Ex h
    exact ⟨1, hx_L_fails_1, q⟩
theorem hx_L_fare_1 : HX mL_fare 13 "java/lang/IndexOutOfBoundsException" 1 := ⟨[], ⟨0, 18, 21, 13⟩, _, rfl, (fun y hy => by cases hy), by decide, by decide, w_433, by decide, Or.inr ⟨8, 1, dL_fare_21, by decide, dL_fare_23, by decide, dL_fare_24⟩⟩
theorem hx_L_fare_2 : HX mL_fare 13 "java/lang/IllegalArgumentException" 2 := ⟨[⟨0, 18, 21, 13⟩], ⟨0, 18, 25, 15⟩, _, rfl, (fun y hy => ((List.mem_cons.mp hy).elim (fun q => by rw [q]; exact Or.inr ⟨by decide, "java/lang/IndexOutOfBoundsException", w_433, by decide, by decide⟩) (fun hy => (by cases hy)))), by decide, by decide, w_434, by decide, Or.inr ⟨8, 2, dL_fare_25, by decide, dL_fare_27, by decide, dL_fare_28⟩⟩
theorem hx_L_fare_3 : HX mL_fare 13 "java/lang/IllegalStateException" 3 := ⟨[⟨0, 18, 21, 13⟩, ⟨0, 18, 25, 15⟩], ⟨0, 18, 29, 21⟩, _, rfl, (fun y hy => ((List.mem_cons.mp hy).elim (fun q => by rw [q]; exact Or.inr ⟨by decide, "java/lang/IndexOutOfBoundsException", w_433, by decide, by decide⟩) (fun hy => ((List.mem_cons.mp hy).elim (fun q => by rw [q]; exact Or.inr ⟨by decide, "java/lang/IllegalArgumentException", w_434, by decide, by decide⟩) (fun hy => (by cases hy)))))), by decide, by decide, w_533, by decide, Or.inr ⟨8, 3, dL_fare_29, by decide, dL_fare_31, by decide, dL_fare_32⟩⟩
theorem w_L_fare {g : GP} {σ : AH} {v1 : Int32} {v2 : Int32} {v3 : Int32} {v4 : Int32} {v5 : Int32} {v6 : Int32} {Q Q0 : AH → Option Value → Prop} {X : AH → String → Prop} (hS : Sh σ) (hc : CtX g mX11_fare [.ref 2, .int v1, .int v2, .int v3, .int v4, .int v5, .int v6] σ Q X) (hq : ∀ τ rv, Q τ rv → ∃ y : Int32, rv = some (.int y) ∧ Sh τ ∧ Q0 (uJ τ 72 0 (Int32.toInt64 y)) (some (.int 0))) (hx : ∀ τ Ex, X τ Ex → (Ex = "java/lang/IndexOutOfBoundsException" ∧ Q0 τ (some (.int 1))) ∨ (Ex = "java/lang/IllegalArgumentException" ∧ Q0 τ (some (.int 2))) ∨ (Ex = "java/lang/IllegalStateException" ∧ Q0 τ (some (.int 3)))) : CtH g mL_fare [.ref 2, .int v1, .int v2, .int v3, .int v4, .int v5, .int v6, .ref 72] σ Q0 := by
  refine CtH_of (by decide +kernel) rfl (b_L_fare_0 ?_)
  refine V_callVX (as := [.int v1, .int v2, .int v3, .int v4, .int v5, .int v6]) (k' := 0) (n' := 0) hc mw_X11_fare ko_X11 rfl w_535 w_536 w_534 ar_X11_fare ⟨rfl, rfl, rfl, rfl, rfl⟩ dL_fare_13 (by decide) (shk hS 2 rfl) rfl (fun τ rv h => ?_) (fun τ Ex h => ?_)
  · obtain ⟨y, rfl, hS2, q⟩ := hq τ rv h
    refine V_i2l dL_fare_16 ?_
    refine V_last dL_fare_17 (by decide) (shk hS2 72 rfl) (vp_l (n := 1) (shl hS2 72 rfl) (vp_in_nI (n := 0) (by decide) (by decide))) ?_
    refine V_goto 33 dL_fare_18 rfl ?_
    refine V_iconst (0 : Int32) dL_fare_33 (by decide) ?_
    exact V_iret rfl dL_fare_34 q
  · rcases hx τ Ex h with ⟨rfl, q⟩ | ⟨rfl, q⟩ | ⟨rfl, q⟩
    · exact ⟨1, hx_L_fare_1, q⟩
    · exact ⟨2, hx_L_fare_2, q⟩
    · exact ⟨3, hx_L_fare_3, q⟩
theorem hx_L_fly_1 : HX mL_fly 5 "java/lang/IndexOutOfBoundsException" 1 := ⟨[], ⟨0, 10, 13, 13⟩, _, rfl, (fun y hy => by cases hy), by decide, by decide, w_433, by decide, Or.inr ⟨4, 1, dL_fly_13, by decide, dL_fly_15, by decide, dL_fly_16⟩⟩
theorem hx_L_fly_2 : HX mL_fly 5 "java/lang/IllegalStateException" 2 := ⟨[⟨0, 10, 13, 13⟩], ⟨0, 10, 17, 21⟩, _, rfl, (fun y hy => ((List.mem_cons.mp hy).elim (fun q => by rw [q]; exact Or.inr ⟨by decide, "java/lang/IndexOutOfBoundsException", w_433, by decide, by decide⟩) (fun hy => (by cases hy)))), by decide, by decide, w_533, by decide, Or.inr ⟨4, 2, dL_fly_17, by decide, dL_fly_19, by decide, dL_fly_20⟩⟩
theorem w_L_fly {g : GP} {σ : AH} {v1 : Int32} {v2 : Int32} {Q Q0 : AH → Option Value → Prop} {X : AH → String → Prop} (hS : Sh σ) (hc : CtX g mX11_fly [.ref 2, .int v1, .int v2] σ Q X) (hq : ∀ τ rv, Q τ rv → ∃ y : Int32, rv = some (.int y) ∧ Sh τ ∧ Q0 (uJ τ 72 0 (Int32.toInt64 y)) (some (.int 0))) (hx : ∀ τ Ex, X τ Ex → (Ex = "java/lang/IndexOutOfBoundsException" ∧ Q0 τ (some (.int 1))) ∨ (Ex = "java/lang/IllegalStateException" ∧ Q0 τ (some (.int 2)))) : CtH g mL_fly [.ref 2, .int v1, .int v2, .ref 72] σ Q0 := by
  refine CtH_of (by decide +kernel) rfl (b_L_fly_0 ?_)
  refine V_callVX (as := [.int v1, .int v2]) (k' := 0) (n' := 0) hc mw_X11_fly ko_X11 rfl w_838 w_839 w_837 ar_X11_fly ⟨rfl, rfl, rfl, rfl, rfl⟩ dL_fly_5 (by decide) (shk hS 2 rfl) rfl (fun τ rv h => ?_) (fun τ Ex h => ?_)
  · obtain ⟨y, rfl, hS2, q⟩ := hq τ rv h
    refine V_i2l dL_fly_8 ?_
    refine V_last dL_fly_9 (by decide) (shk hS2 72 rfl) (vp_l (n := 1) (shl hS2 72 rfl) (vp_in_nI (n := 0) (by decide) (by decide))) ?_
    refine V_goto 21 dL_fly_10 rfl ?_
    refine V_iconst (0 : Int32) dL_fly_21 (by decide) ?_
    exact V_iret rfl dL_fly_22 q
  · rcases hx τ Ex h with ⟨rfl, q⟩ | ⟨rfl, q⟩
    · exact ⟨1, hx_L_fly_1, q⟩
    · exact ⟨2, hx_L_fly_2, q⟩
theorem hx_L_issue_1 : HX mL_issue 4 "java/lang/IndexOutOfBoundsException" 1 := ⟨[], ⟨0, 9, 12, 13⟩, _, rfl, (fun y hy => by cases hy), by decide, by decide, w_433, by decide, Or.inl ⟨3, 1, dL_issue_12, by decide, dL_issue_13, by decide, dL_issue_14⟩⟩
theorem hx_L_issue_2 : HX mL_issue 4 "java/lang/IllegalStateException" 2 := ⟨[⟨0, 9, 12, 13⟩], ⟨0, 9, 15, 21⟩, _, rfl, (fun y hy => ((List.mem_cons.mp hy).elim (fun q => by rw [q]; exact Or.inr ⟨by decide, "java/lang/IndexOutOfBoundsException", w_433, by decide, by decide⟩) (fun hy => (by cases hy)))), by decide, by decide, w_533, by decide, Or.inl ⟨3, 2, dL_issue_15, by decide, dL_issue_16, by decide, dL_issue_17⟩⟩
theorem w_L_issue {g : GP} {σ : AH} {v1 : Int32} {Q Q0 : AH → Option Value → Prop} {X : AH → String → Prop} (hS : Sh σ) (hc : CtX g mX11_issue [.ref 2, .int v1] σ Q X) (hq : ∀ τ rv, Q τ rv → ∃ y : Int32, rv = some (.int y) ∧ Sh τ ∧ Q0 (uJ τ 72 0 (Int32.toInt64 y)) (some (.int 0))) (hx : ∀ τ Ex, X τ Ex → (Ex = "java/lang/IndexOutOfBoundsException" ∧ Q0 τ (some (.int 1))) ∨ (Ex = "java/lang/IllegalStateException" ∧ Q0 τ (some (.int 2)))) : CtH g mL_issue [.ref 2, .int v1, .ref 72] σ Q0 := by
  refine CtH_of (by decide +kernel) rfl (b_L_issue_0 ?_)
  refine V_callVX (as := [.int v1]) (k' := 0) (n' := 0) hc mw_X11_issue ko_X11 rfl w_695 w_696 w_694 ar_X11_issue ⟨rfl, rfl, rfl, rfl, rfl⟩ dL_issue_4 (by decide) (shk hS 2 rfl) rfl (fun τ rv h => ?_) (fun τ Ex h => ?_)
  · obtain ⟨y, rfl, hS2, q⟩ := hq τ rv h
    refine V_i2l dL_issue_7 ?_
    refine V_last dL_issue_8 (by decide) (shk hS2 72 rfl) (vp_l (n := 1) (shl hS2 72 rfl) (vp_in_nI (n := 0) (by decide) (by decide))) ?_
    refine V_goto 18 dL_issue_9 rfl ?_
    refine V_iconst (0 : Int32) dL_issue_18 (by decide) ?_
    exact V_iret rfl dL_issue_19 q
  · rcases hx τ Ex h with ⟨rfl, q⟩ | ⟨rfl, q⟩
    · exact ⟨1, hx_L_issue_1, q⟩
    · exact ⟨2, hx_L_issue_2, q⟩
theorem hx_L_leg_1 : HX mL_leg 9 "java/lang/IndexOutOfBoundsException" 1 := ⟨[], ⟨0, 14, 17, 13⟩, _, rfl, (fun y hy => by cases hy), by decide, by decide, w_433, by decide, Or.inr ⟨6, 1, dL_leg_17, by decide, dL_leg_19, by decide, dL_leg_20⟩⟩
theorem hx_L_leg_2 : HX mL_leg 9 "java/lang/IllegalArgumentException" 2 := ⟨[⟨0, 14, 17, 13⟩], ⟨0, 14, 21, 15⟩, _, rfl, (fun y hy => ((List.mem_cons.mp hy).elim (fun q => by rw [q]; exact Or.inr ⟨by decide, "java/lang/IndexOutOfBoundsException", w_433, by decide, by decide⟩) (fun hy => (by cases hy)))), by decide, by decide, w_434, by decide, Or.inr ⟨6, 2, dL_leg_21, by decide, dL_leg_23, by decide, dL_leg_24⟩⟩
theorem hx_L_leg_3 : HX mL_leg 9 "java/lang/IllegalStateException" 3 := ⟨[⟨0, 14, 17, 13⟩, ⟨0, 14, 21, 15⟩], ⟨0, 14, 25, 21⟩, _, rfl, (fun y hy => ((List.mem_cons.mp hy).elim (fun q => by rw [q]; exact Or.inr ⟨by decide, "java/lang/IndexOutOfBoundsException", w_433, by decide, by decide⟩) (fun hy => ((List.mem_cons.mp hy).elim (fun q => by rw [q]; exact Or.inr ⟨by decide, "java/lang/IllegalArgumentException", w_434, by decide, by decide⟩) (fun hy => (by cases hy)))))), by decide, by decide, w_533, by decide, Or.inr ⟨6, 3, dL_leg_25, by decide, dL_leg_27, by decide, dL_leg_28⟩⟩
theorem w_L_leg {g : GP} {σ : AH} {v1 : Int32} {v2 : Int32} {v3 : Int32} {v4 : Int32} {Q Q0 : AH → Option Value → Prop} {X : AH → String → Prop} (hS : Sh σ) (hc : CtX g mX11_leg [.ref 2, .int v1, .int v2, .int v3, .int v4] σ Q X) (hq : ∀ τ rv, Q τ rv → ∃ y : Int32, rv = some (.int y) ∧ Sh τ ∧ Q0 (uJ τ 72 0 (Int32.toInt64 y)) (some (.int 0))) (hx : ∀ τ Ex, X τ Ex → (Ex = "java/lang/IndexOutOfBoundsException" ∧ Q0 τ (some (.int 1))) ∨ (Ex = "java/lang/IllegalArgumentException" ∧ Q0 τ (some (.int 2))) ∨ (Ex = "java/lang/IllegalStateException" ∧ Q0 τ (some (.int 3)))) : CtH g mL_leg [.ref 2, .int v1, .int v2, .int v3, .int v4, .ref 72] σ Q0 := by
  refine CtH_of (by decide +kernel) rfl (b_L_leg_0 ?_)
  refine V_callVX (as := [.int v1, .int v2, .int v3, .int v4]) (k' := 0) (n' := 0) hc mw_X11_leg ko_X11 rfl w_661 w_662 w_660 ar_X11_leg ⟨rfl, rfl, rfl, rfl, rfl⟩ dL_leg_9 (by decide) (shk hS 2 rfl) rfl (fun τ rv h => ?_) (fun τ Ex h => ?_)
  · obtain ⟨y, rfl, hS2, q⟩ := hq τ rv h
    refine V_i2l dL_leg_12 ?_
    refine V_last dL_leg_13 (by decide) (shk hS2 72 rfl) (vp_l (n := 1) (shl hS2 72 rfl) (vp_in_nI (n := 0) (by decide) (by decide))) ?_
    refine V_goto 29 dL_leg_14 rfl ?_
    refine V_iconst (0 : Int32) dL_leg_29 (by decide) ?_
    exact V_iret rfl dL_leg_30 q
  · rcases hx τ Ex h with ⟨rfl, q⟩ | ⟨rfl, q⟩ | ⟨rfl, q⟩
    · exact ⟨1, hx_L_leg_1, q⟩
    · exact ⟨2, hx_L_leg_2, q⟩
    · exact ⟨3, hx_L_leg_3, q⟩
theorem hx_L_miles_1 : HX mL_miles 7 "java/lang/IndexOutOfBoundsException" 1 := ⟨[], ⟨0, 12, 15, 13⟩, _, rfl, (fun y hy => by cases hy), by decide, by decide, w_433, by decide, Or.inr ⟨5, 1, dL_miles_15, by decide, dL_miles_17, by decide, dL_miles_18⟩⟩
theorem hx_L_miles_2 : HX mL_miles 7 "java/lang/IllegalArgumentException" 2 := ⟨[⟨0, 12, 15, 13⟩], ⟨0, 12, 19, 15⟩, _, rfl, (fun y hy => ((List.mem_cons.mp hy).elim (fun q => by rw [q]; exact Or.inr ⟨by decide, "java/lang/IndexOutOfBoundsException", w_433, by decide, by decide⟩) (fun hy => (by cases hy)))), by decide, by decide, w_434, by decide, Or.inr ⟨5, 2, dL_miles_19, by decide, dL_miles_21, by decide, dL_miles_22⟩⟩
theorem w_L_miles {g : GP} {σ : AH} {v1 : Int32} {v2 : Int32} {v3 : Int32} {Q Q0 : AH → Option Value → Prop} {X : AH → String → Prop} (hS : Sh σ) (hc : CtX g mX11_miles [.ref 2, .int v1, .int v2, .int v3] σ Q X) (hq : ∀ τ rv, Q τ rv → ∃ y : Int32, rv = some (.int y) ∧ Sh τ ∧ Q0 (uJ τ 72 0 (Int32.toInt64 y)) (some (.int 0))) (hx : ∀ τ Ex, X τ Ex → (Ex = "java/lang/IndexOutOfBoundsException" ∧ Q0 τ (some (.int 1))) ∨ (Ex = "java/lang/IllegalArgumentException" ∧ Q0 τ (some (.int 2)))) : CtH g mL_miles [.ref 2, .int v1, .int v2, .int v3, .ref 72] σ Q0 := by
  refine CtH_of (by decide +kernel) rfl (b_L_miles_0 ?_)
  refine V_callVX (as := [.int v1, .int v2, .int v3]) (k' := 0) (n' := 0) hc mw_X11_miles ko_X11 rfl w_436 w_437 w_435 ar_X11_miles ⟨rfl, rfl, rfl, rfl, rfl⟩ dL_miles_7 (by decide) (shk hS 2 rfl) rfl (fun τ rv h => ?_) (fun τ Ex h => ?_)
  · obtain ⟨y, rfl, hS2, q⟩ := hq τ rv h
    refine V_i2l dL_miles_10 ?_
    refine V_last dL_miles_11 (by decide) (shk hS2 72 rfl) (vp_l (n := 1) (shl hS2 72 rfl) (vp_in_nI (n := 0) (by decide) (by decide))) ?_
    refine V_goto 23 dL_miles_12 rfl ?_
    refine V_iconst (0 : Int32) dL_miles_23 (by decide) ?_
    exact V_iret rfl dL_miles_24 q
  · rcases hx τ Ex h with ⟨rfl, q⟩ | ⟨rfl, q⟩
    · exact ⟨1, hx_L_miles_1, q⟩
    · exact ⟨2, hx_L_miles_2, q⟩
theorem hx_L_of_1 : HX mL_of 4 "java/lang/IllegalArgumentException" 1 := ⟨[], ⟨0, 9, 12, 15⟩, _, rfl, (fun y hy => by cases hy), by decide, by decide, w_434, by decide, Or.inl ⟨3, 1, dL_of_12, by decide, dL_of_13, by decide, dL_of_14⟩⟩
theorem w_L_of {g : GP} {σ : AH} {v1 : Int32} {Q Q0 : AH → Option Value → Prop} {X : AH → String → Prop} (hS : Sh σ) (hc : CtX g mX11_of [.ref 2, .int v1] σ Q X) (hq : ∀ τ rv, Q τ rv → ∃ y : Int32, rv = some (.int y) ∧ Sh τ ∧ Q0 (uJ τ 72 0 (Int32.toInt64 y)) (some (.int 0))) (hx : ∀ τ Ex, X τ Ex → (Ex = "java/lang/IllegalArgumentException" ∧ Q0 τ (some (.int 1)))) : CtH g mL_of [.ref 2, .int v1, .ref 72] σ Q0 := by
  refine CtH_of (by decide +kernel) rfl (b_L_of_0 ?_)
  refine V_callVX (as := [.int v1]) (k' := 0) (n' := 0) hc mw_X11_of ko_X11 rfl w_1046 w_1047 w_1045 ar_X11_of ⟨rfl, rfl, rfl, rfl, rfl⟩ dL_of_4 (by decide) (shk hS 2 rfl) rfl (fun τ rv h => ?_) (fun τ Ex h => ?_)
  · obtain ⟨y, rfl, hS2, q⟩ := hq τ rv h
    refine V_i2l dL_of_7 ?_
    refine V_last dL_of_8 (by decide) (shk hS2 72 rfl) (vp_l (n := 1) (shl hS2 72 rfl) (vp_in_nI (n := 0) (by decide) (by decide))) ?_
    refine V_goto 15 dL_of_9 rfl ?_
    refine V_iconst (0 : Int32) dL_of_15 (by decide) ?_
    exact V_iret rfl dL_of_16 q
  · obtain ⟨rfl, q⟩ := hx τ Ex h
    exact ⟨1, hx_L_of_1, q⟩
theorem hx_L_ofBill_1 : HX mL_ofBill 5 "java/lang/IndexOutOfBoundsException" 1 := ⟨[], ⟨0, 10, 13, 13⟩, _, rfl, (fun y hy => by cases hy), by decide, by decide, w_433, by decide, Or.inr ⟨4, 1, dL_ofBill_13, by decide, dL_ofBill_15, by decide, dL_ofBill_16⟩⟩
theorem hx_L_ofBill_2 : HX mL_ofBill 5 "java/lang/IllegalArgumentException" 2 := ⟨[⟨0, 10, 13, 13⟩], ⟨0, 10, 17, 15⟩, _, rfl, (fun y hy => ((List.mem_cons.mp hy).elim (fun q => by rw [q]; exact Or.inr ⟨by decide, "java/lang/IndexOutOfBoundsException", w_433, by decide, by decide⟩) (fun hy => (by cases hy)))), by decide, by decide, w_434, by decide, Or.inr ⟨4, 2, dL_ofBill_17, by decide, dL_ofBill_19, by decide, dL_ofBill_20⟩⟩
theorem w_L_ofBill {g : GP} {σ : AH} {v1 : Int32} {v2 : Int32} {Q Q0 : AH → Option Value → Prop} {X : AH → String → Prop} (hS : Sh σ) (hc : CtX g mX11_ofBill [.ref 2, .int v1, .int v2] σ Q X) (hq : ∀ τ rv, Q τ rv → ∃ y : Int32, rv = some (.int y) ∧ Sh τ ∧ Q0 (uJ τ 72 0 (Int32.toInt64 y)) (some (.int 0))) (hx : ∀ τ Ex, X τ Ex → (Ex = "java/lang/IndexOutOfBoundsException" ∧ Q0 τ (some (.int 1))) ∨ (Ex = "java/lang/IllegalArgumentException" ∧ Q0 τ (some (.int 2)))) : CtH g mL_ofBill [.ref 2, .int v1, .int v2, .ref 72] σ Q0 := by
  refine CtH_of (by decide +kernel) rfl (b_L_ofBill_0 ?_)
  refine V_callVX (as := [.int v1, .int v2]) (k' := 0) (n' := 0) hc mw_X11_ofBill ko_X11 rfl w_1006 w_1007 w_1005 ar_X11_ofBill ⟨rfl, rfl, rfl, rfl, rfl⟩ dL_ofBill_5 (by decide) (shk hS 2 rfl) rfl (fun τ rv h => ?_) (fun τ Ex h => ?_)
  · obtain ⟨y, rfl, hS2, q⟩ := hq τ rv h
    refine V_i2l dL_ofBill_8 ?_
    refine V_last dL_ofBill_9 (by decide) (shk hS2 72 rfl) (vp_l (n := 1) (shl hS2 72 rfl) (vp_in_nI (n := 0) (by decide) (by decide))) ?_
    refine V_goto 21 dL_ofBill_10 rfl ?_
    refine V_iconst (0 : Int32) dL_ofBill_21 (by decide) ?_
    exact V_iret rfl dL_ofBill_22 q
  · rcases hx τ Ex h with ⟨rfl, q⟩ | ⟨rfl, q⟩
    · exact ⟨1, hx_L_ofBill_1, q⟩
    · exact ⟨2, hx_L_ofBill_2, q⟩
theorem hx_L_ofCoupon_1 : HX mL_ofCoupon 7 "java/lang/IndexOutOfBoundsException" 1 := ⟨[], ⟨0, 12, 15, 13⟩, _, rfl, (fun y hy => by cases hy), by decide, by decide, w_433, by decide, Or.inr ⟨5, 1, dL_ofCoupon_15, by decide, dL_ofCoupon_17, by decide, dL_ofCoupon_18⟩⟩
theorem hx_L_ofCoupon_2 : HX mL_ofCoupon 7 "java/lang/IllegalArgumentException" 2 := ⟨[⟨0, 12, 15, 13⟩], ⟨0, 12, 19, 15⟩, _, rfl, (fun y hy => ((List.mem_cons.mp hy).elim (fun q => by rw [q]; exact Or.inr ⟨by decide, "java/lang/IndexOutOfBoundsException", w_433, by decide, by decide⟩) (fun hy => (by cases hy)))), by decide, by decide, w_434, by decide, Or.inr ⟨5, 2, dL_ofCoupon_19, by decide, dL_ofCoupon_21, by decide, dL_ofCoupon_22⟩⟩
theorem w_L_ofCoupon {g : GP} {σ : AH} {v1 : Int32} {v2 : Int32} {v3 : Int32} {Q Q0 : AH → Option Value → Prop} {X : AH → String → Prop} (hS : Sh σ) (hc : CtX g mX11_ofCoupon [.ref 2, .int v1, .int v2, .int v3] σ Q X) (hq : ∀ τ rv, Q τ rv → ∃ y : Int32, rv = some (.int y) ∧ Sh τ ∧ Q0 (uJ τ 72 0 (Int32.toInt64 y)) (some (.int 0))) (hx : ∀ τ Ex, X τ Ex → (Ex = "java/lang/IndexOutOfBoundsException" ∧ Q0 τ (some (.int 1))) ∨ (Ex = "java/lang/IllegalArgumentException" ∧ Q0 τ (some (.int 2)))) : CtH g mL_ofCoupon [.ref 2, .int v1, .int v2, .int v3, .ref 72] σ Q0 := by
  refine CtH_of (by decide +kernel) rfl (b_L_ofCoupon_0 ?_)
  refine V_callVX (as := [.int v1, .int v2, .int v3]) (k' := 0) (n' := 0) hc mw_X11_ofCoupon ko_X11 rfl w_999 w_1000 w_998 ar_X11_ofCoupon ⟨rfl, rfl, rfl, rfl, rfl⟩ dL_ofCoupon_7 (by decide) (shk hS 2 rfl) rfl (fun τ rv h => ?_) (fun τ Ex h => ?_)
  · obtain ⟨y, rfl, hS2, q⟩ := hq τ rv h
    refine V_i2l dL_ofCoupon_10 ?_
    refine V_last dL_ofCoupon_11 (by decide) (shk hS2 72 rfl) (vp_l (n := 1) (shl hS2 72 rfl) (vp_in_nI (n := 0) (by decide) (by decide))) ?_
    refine V_goto 23 dL_ofCoupon_12 rfl ?_
    refine V_iconst (0 : Int32) dL_ofCoupon_23 (by decide) ?_
    exact V_iret rfl dL_ofCoupon_24 q
  · rcases hx τ Ex h with ⟨rfl, q⟩ | ⟨rfl, q⟩
    · exact ⟨1, hx_L_ofCoupon_1, q⟩
    · exact ⟨2, hx_L_ofCoupon_2, q⟩
theorem hx_L_ofTicket_1 : HX mL_ofTicket 5 "java/lang/IndexOutOfBoundsException" 1 := ⟨[], ⟨0, 10, 13, 13⟩, _, rfl, (fun y hy => by cases hy), by decide, by decide, w_433, by decide, Or.inr ⟨4, 1, dL_ofTicket_13, by decide, dL_ofTicket_15, by decide, dL_ofTicket_16⟩⟩
theorem hx_L_ofTicket_2 : HX mL_ofTicket 5 "java/lang/IllegalArgumentException" 2 := ⟨[⟨0, 10, 13, 13⟩], ⟨0, 10, 17, 15⟩, _, rfl, (fun y hy => ((List.mem_cons.mp hy).elim (fun q => by rw [q]; exact Or.inr ⟨by decide, "java/lang/IndexOutOfBoundsException", w_433, by decide, by decide⟩) (fun hy => (by cases hy)))), by decide, by decide, w_434, by decide, Or.inr ⟨4, 2, dL_ofTicket_17, by decide, dL_ofTicket_19, by decide, dL_ofTicket_20⟩⟩
theorem w_L_ofTicket {g : GP} {σ : AH} {v1 : Int32} {v2 : Int32} {Q Q0 : AH → Option Value → Prop} {X : AH → String → Prop} (hS : Sh σ) (hc : CtX g mX11_ofTicket [.ref 2, .int v1, .int v2] σ Q X) (hq : ∀ τ rv, Q τ rv → ∃ y : Int32, rv = some (.int y) ∧ Sh τ ∧ Q0 (uJ τ 72 0 (Int32.toInt64 y)) (some (.int 0))) (hx : ∀ τ Ex, X τ Ex → (Ex = "java/lang/IndexOutOfBoundsException" ∧ Q0 τ (some (.int 1))) ∨ (Ex = "java/lang/IllegalArgumentException" ∧ Q0 τ (some (.int 2)))) : CtH g mL_ofTicket [.ref 2, .int v1, .int v2, .ref 72] σ Q0 := by
  refine CtH_of (by decide +kernel) rfl (b_L_ofTicket_0 ?_)
  refine V_callVX (as := [.int v1, .int v2]) (k' := 0) (n' := 0) hc mw_X11_ofTicket ko_X11 rfl w_991 w_992 w_990 ar_X11_ofTicket ⟨rfl, rfl, rfl, rfl, rfl⟩ dL_ofTicket_5 (by decide) (shk hS 2 rfl) rfl (fun τ rv h => ?_) (fun τ Ex h => ?_)
  · obtain ⟨y, rfl, hS2, q⟩ := hq τ rv h
    refine V_i2l dL_ofTicket_8 ?_
    refine V_last dL_ofTicket_9 (by decide) (shk hS2 72 rfl) (vp_l (n := 1) (shl hS2 72 rfl) (vp_in_nI (n := 0) (by decide) (by decide))) ?_
    refine V_goto 21 dL_ofTicket_10 rfl ?_
    refine V_iconst (0 : Int32) dL_ofTicket_21 (by decide) ?_
    exact V_iret rfl dL_ofTicket_22 q
  · rcases hx τ Ex h with ⟨rfl, q⟩ | ⟨rfl, q⟩
    · exact ⟨1, hx_L_ofTicket_1, q⟩
    · exact ⟨2, hx_L_ofTicket_2, q⟩
theorem hx_L_part_1 : HX mL_part 5 "java/lang/IndexOutOfBoundsException" 1 := ⟨[], ⟨0, 10, 13, 13⟩, _, rfl, (fun y hy => by cases hy), by decide, by decide, w_433, by decide, Or.inr ⟨4, 1, dL_part_13, by decide, dL_part_15, by decide, dL_part_16⟩⟩
theorem hx_L_part_2 : HX mL_part 5 "java/lang/IllegalArgumentException" 2 := ⟨[⟨0, 10, 13, 13⟩], ⟨0, 10, 17, 15⟩, _, rfl, (fun y hy => ((List.mem_cons.mp hy).elim (fun q => by rw [q]; exact Or.inr ⟨by decide, "java/lang/IndexOutOfBoundsException", w_433, by decide, by decide⟩) (fun hy => (by cases hy)))), by decide, by decide, w_434, by decide, Or.inr ⟨4, 2, dL_part_17, by decide, dL_part_19, by decide, dL_part_20⟩⟩
theorem w_L_part {g : GP} {σ : AH} {v1 : Int32} {v2 : Int32} {Q Q0 : AH → Option Value → Prop} {X : AH → String → Prop} (hS : Sh σ) (hc : CtX g mX11_part [.ref 2, .int v1, .int v2] σ Q X) (hq : ∀ τ rv, Q τ rv → ∃ y : Int32, rv = some (.int y) ∧ Sh τ ∧ Q0 (uJ τ 72 0 (Int32.toInt64 y)) (some (.int 0))) (hx : ∀ τ Ex, X τ Ex → (Ex = "java/lang/IndexOutOfBoundsException" ∧ Q0 τ (some (.int 1))) ∨ (Ex = "java/lang/IllegalArgumentException" ∧ Q0 τ (some (.int 2)))) : CtH g mL_part [.ref 2, .int v1, .int v2, .ref 72] σ Q0 := by
  refine CtH_of (by decide +kernel) rfl (b_L_part_0 ?_)
  refine V_callVX (as := [.int v1, .int v2]) (k' := 0) (n' := 0) hc mw_X11_part ko_X11 rfl w_680 w_681 w_679 ar_X11_part ⟨rfl, rfl, rfl, rfl, rfl⟩ dL_part_5 (by decide) (shk hS 2 rfl) rfl (fun τ rv h => ?_) (fun τ Ex h => ?_)
  · obtain ⟨y, rfl, hS2, q⟩ := hq τ rv h
    refine V_i2l dL_part_8 ?_
    refine V_last dL_part_9 (by decide) (shk hS2 72 rfl) (vp_l (n := 1) (shl hS2 72 rfl) (vp_in_nI (n := 0) (by decide) (by decide))) ?_
    refine V_goto 21 dL_part_10 rfl ?_
    refine V_iconst (0 : Int32) dL_part_21 (by decide) ?_
    exact V_iret rfl dL_part_22 q
  · rcases hx τ Ex h with ⟨rfl, q⟩ | ⟨rfl, q⟩
    · exact ⟨1, hx_L_part_1, q⟩
    · exact ⟨2, hx_L_part_2, q⟩
theorem hx_L_pass_1 : HX mL_pass 4 "java/lang/IllegalArgumentException" 1 := ⟨[], ⟨0, 9, 12, 15⟩, _, rfl, (fun y hy => by cases hy), by decide, by decide, w_434, by decide, Or.inl ⟨3, 1, dL_pass_12, by decide, dL_pass_13, by decide, dL_pass_14⟩⟩
theorem hx_L_pass_2 : HX mL_pass 4 "java/lang/IllegalStateException" 2 := ⟨[⟨0, 9, 12, 15⟩], ⟨0, 9, 15, 21⟩, _, rfl, (fun y hy => ((List.mem_cons.mp hy).elim (fun q => by rw [q]; exact Or.inr ⟨by decide, "java/lang/IllegalArgumentException", w_434, by decide, by decide⟩) (fun hy => (by cases hy)))), by decide, by decide, w_533, by decide, Or.inl ⟨3, 2, dL_pass_15, by decide, dL_pass_16, by decide, dL_pass_17⟩⟩
theorem w_L_pass {g : GP} {σ : AH} {v1 : Int32} {Q Q0 : AH → Option Value → Prop} {X : AH → String → Prop} (hS : Sh σ) (hc : CtX g mX11_pass [.ref 2, .int v1] σ Q X) (hq : ∀ τ rv, Q τ rv → ∃ y : Int32, rv = some (.int y) ∧ Sh τ ∧ Q0 (uJ τ 72 0 (Int32.toInt64 y)) (some (.int 0))) (hx : ∀ τ Ex, X τ Ex → (Ex = "java/lang/IllegalArgumentException" ∧ Q0 τ (some (.int 1))) ∨ (Ex = "java/lang/IllegalStateException" ∧ Q0 τ (some (.int 2)))) : CtH g mL_pass [.ref 2, .int v1, .ref 72] σ Q0 := by
  refine CtH_of (by decide +kernel) rfl (b_L_pass_0 ?_)
  refine V_callVX (as := [.int v1]) (k' := 0) (n' := 0) hc mw_X11_pass ko_X11 rfl w_935 w_936 w_934 ar_X11_pass ⟨rfl, rfl, rfl, rfl, rfl⟩ dL_pass_4 (by decide) (shk hS 2 rfl) rfl (fun τ rv h => ?_) (fun τ Ex h => ?_)
  · obtain ⟨y, rfl, hS2, q⟩ := hq τ rv h
    refine V_i2l dL_pass_7 ?_
    refine V_last dL_pass_8 (by decide) (shk hS2 72 rfl) (vp_l (n := 1) (shl hS2 72 rfl) (vp_in_nI (n := 0) (by decide) (by decide))) ?_
    refine V_goto 18 dL_pass_9 rfl ?_
    refine V_iconst (0 : Int32) dL_pass_18 (by decide) ?_
    exact V_iret rfl dL_pass_19 q
  · rcases hx τ Ex h with ⟨rfl, q⟩ | ⟨rfl, q⟩
    · exact ⟨1, hx_L_pass_1, q⟩
    · exact ⟨2, hx_L_pass_2, q⟩
theorem hx_L_penalty_1 : HX mL_penalty 4 "java/lang/IllegalArgumentException" 1 := ⟨[], ⟨0, 9, 12, 15⟩, _, rfl, (fun y hy => by cases hy), by decide, by decide, w_434, by decide, Or.inl ⟨3, 1, dL_penalty_12, by decide, dL_penalty_13, by decide, dL_penalty_14⟩⟩
theorem w_L_penalty {g : GP} {σ : AH} {v1 : Int32} {Q Q0 : AH → Option Value → Prop} {X : AH → String → Prop} (hS : Sh σ) (hc : CtX g mX11_penalty [.ref 2, .int v1] σ Q X) (hq : ∀ τ rv, Q τ rv → ∃ y : Int32, rv = some (.int y) ∧ Sh τ ∧ Q0 (uJ τ 72 0 (Int32.toInt64 y)) (some (.int 0))) (hx : ∀ τ Ex, X τ Ex → (Ex = "java/lang/IllegalArgumentException" ∧ Q0 τ (some (.int 1)))) : CtH g mL_penalty [.ref 2, .int v1, .ref 72] σ Q0 := by
  refine CtH_of (by decide +kernel) rfl (b_L_penalty_0 ?_)
  refine V_callVX (as := [.int v1]) (k' := 0) (n' := 0) hc mw_X11_penalty ko_X11 rfl w_653 w_654 w_652 ar_X11_penalty ⟨rfl, rfl, rfl, rfl, rfl⟩ dL_penalty_4 (by decide) (shk hS 2 rfl) rfl (fun τ rv h => ?_) (fun τ Ex h => ?_)
  · obtain ⟨y, rfl, hS2, q⟩ := hq τ rv h
    refine V_i2l dL_penalty_7 ?_
    refine V_last dL_penalty_8 (by decide) (shk hS2 72 rfl) (vp_l (n := 1) (shl hS2 72 rfl) (vp_in_nI (n := 0) (by decide) (by decide))) ?_
    refine V_goto 15 dL_penalty_9 rfl ?_
    refine V_iconst (0 : Int32) dL_penalty_15 (by decide) ?_
    exact V_iret rfl dL_penalty_16 q
  · obtain ⟨rfl, q⟩ := hx τ Ex h
    exact ⟨1, hx_L_penalty_1, q⟩
theorem hx_L_proviso_1 : HX mL_proviso 9 "java/lang/IndexOutOfBoundsException" 1 := ⟨[], ⟨0, 14, 17, 13⟩, _, rfl, (fun y hy => by cases hy), by decide, by decide, w_433, by decide, Or.inr ⟨6, 1, dL_proviso_17, by decide, dL_proviso_19, by decide, dL_proviso_20⟩⟩
theorem hx_L_proviso_2 : HX mL_proviso 9 "java/lang/IllegalArgumentException" 2 := ⟨[⟨0, 14, 17, 13⟩], ⟨0, 14, 21, 15⟩, _, rfl, (fun y hy => ((List.mem_cons.mp hy).elim (fun q => by rw [q]; exact Or.inr ⟨by decide, "java/lang/IndexOutOfBoundsException", w_433, by decide, by decide⟩) (fun hy => (by cases hy)))), by decide, by decide, w_434, by decide, Or.inr ⟨6, 2, dL_proviso_21, by decide, dL_proviso_23, by decide, dL_proviso_24⟩⟩
theorem w_L_proviso {g : GP} {σ : AH} {v1 : Int32} {v2 : Int32} {v3 : Int32} {v4 : Int32} {Q Q0 : AH → Option Value → Prop} {X : AH → String → Prop} (hS : Sh σ) (hc : CtX g mX11_proviso [.ref 2, .int v1, .int v2, .int v3, .int v4] σ Q X) (hq : ∀ τ rv, Q τ rv → ∃ y : Int32, rv = some (.int y) ∧ Sh τ ∧ Q0 (uJ τ 72 0 (Int32.toInt64 y)) (some (.int 0))) (hx : ∀ τ Ex, X τ Ex → (Ex = "java/lang/IndexOutOfBoundsException" ∧ Q0 τ (some (.int 1))) ∨ (Ex = "java/lang/IllegalArgumentException" ∧ Q0 τ (some (.int 2)))) : CtH g mL_proviso [.ref 2, .int v1, .int v2, .int v3, .int v4, .ref 72] σ Q0 := by
  refine CtH_of (by decide +kernel) rfl (b_L_proviso_0 ?_)
  refine V_callVX (as := [.int v1, .int v2, .int v3, .int v4]) (k' := 0) (n' := 0) hc mw_X11_proviso ko_X11 rfl w_634 w_635 w_633 ar_X11_proviso ⟨rfl, rfl, rfl, rfl, rfl⟩ dL_proviso_9 (by decide) (shk hS 2 rfl) rfl (fun τ rv h => ?_) (fun τ Ex h => ?_)
  · obtain ⟨y, rfl, hS2, q⟩ := hq τ rv h
    refine V_i2l dL_proviso_12 ?_
    refine V_last dL_proviso_13 (by decide) (shk hS2 72 rfl) (vp_l (n := 1) (shl hS2 72 rfl) (vp_in_nI (n := 0) (by decide) (by decide))) ?_
    refine V_goto 25 dL_proviso_14 rfl ?_
    refine V_iconst (0 : Int32) dL_proviso_25 (by decide) ?_
    exact V_iret rfl dL_proviso_26 q
  · rcases hx τ Ex h with ⟨rfl, q⟩ | ⟨rfl, q⟩
    · exact ⟨1, hx_L_proviso_1, q⟩
    · exact ⟨2, hx_L_proviso_2, q⟩
theorem hx_L_rebill_1 : HX mL_rebill 2 "java/lang/IndexOutOfBoundsException" 1 := ⟨[], ⟨0, 5, 8, 13⟩, _, rfl, (fun y hy => by cases hy), by decide, by decide, w_433, by decide, Or.inl ⟨2, 1, dL_rebill_8, by decide, dL_rebill_9, by decide, dL_rebill_10⟩⟩
theorem hx_L_rebill_2 : HX mL_rebill 2 "java/lang/IllegalStateException" 2 := ⟨[⟨0, 5, 8, 13⟩], ⟨0, 5, 11, 21⟩, _, rfl, (fun y hy => ((List.mem_cons.mp hy).elim (fun q => by rw [q]; exact Or.inr ⟨by decide, "java/lang/IndexOutOfBoundsException", w_433, by decide, by decide⟩) (fun hy => (by cases hy)))), by decide, by decide, w_533, by decide, Or.inl ⟨2, 2, dL_rebill_11, by decide, dL_rebill_12, by decide, dL_rebill_13⟩⟩
theorem w_L_rebill {g : GP} {σ : AH} {v1 : Int32} {Q Q0 : AH → Option Value → Prop} {X : AH → String → Prop} (hS : Sh σ) (hc : CtX g mX11_rebill [.ref 2, .int v1] σ Q X) (hq : ∀ τ rv, Q τ rv → Q0 τ (some (.int 0)) ∧ rv = none) (hx : ∀ τ Ex, X τ Ex → (Ex = "java/lang/IndexOutOfBoundsException" ∧ Q0 τ (some (.int 1))) ∨ (Ex = "java/lang/IllegalStateException" ∧ Q0 τ (some (.int 2)))) : CtH g mL_rebill [.ref 2, .int v1] σ Q0 := by
  refine CtH_of (by decide +kernel) rfl (b_L_rebill_0 ?_)
  refine V_callVX (as := [.int v1]) (k' := 0) (n' := 0) hc mw_X11_rebill ko_X11 rfl w_954 w_955 w_953 ar_X11_rebill ⟨rfl, rfl, rfl, rfl, rfl⟩ dL_rebill_2 (by decide) (shk hS 2 rfl) rfl (fun τ rv h => ?_) (fun τ Ex h => ?_)
  · obtain ⟨q, rfl⟩ := hq τ rv h
    refine V_goto 14 dL_rebill_5 rfl ?_
    refine V_iconst (0 : Int32) dL_rebill_14 (by decide) ?_
    exact V_iret rfl dL_rebill_15 q
  · rcases hx τ Ex h with ⟨rfl, q⟩ | ⟨rfl, q⟩
    · exact ⟨1, hx_L_rebill_1, q⟩
    · exact ⟨2, hx_L_rebill_2, q⟩
theorem hx_L_refund_1 : HX mL_refund 4 "java/lang/IndexOutOfBoundsException" 1 := ⟨[], ⟨0, 9, 12, 13⟩, _, rfl, (fun y hy => by cases hy), by decide, by decide, w_433, by decide, Or.inl ⟨3, 1, dL_refund_12, by decide, dL_refund_13, by decide, dL_refund_14⟩⟩
theorem hx_L_refund_2 : HX mL_refund 4 "java/lang/IllegalStateException" 2 := ⟨[⟨0, 9, 12, 13⟩], ⟨0, 9, 15, 21⟩, _, rfl, (fun y hy => ((List.mem_cons.mp hy).elim (fun q => by rw [q]; exact Or.inr ⟨by decide, "java/lang/IndexOutOfBoundsException", w_433, by decide, by decide⟩) (fun hy => (by cases hy)))), by decide, by decide, w_533, by decide, Or.inl ⟨3, 2, dL_refund_15, by decide, dL_refund_16, by decide, dL_refund_17⟩⟩
theorem w_L_refund {g : GP} {σ : AH} {v1 : Int32} {Q Q0 : AH → Option Value → Prop} {X : AH → String → Prop} (hS : Sh σ) (hc : CtX g mX11_refund [.ref 2, .int v1] σ Q X) (hq : ∀ τ rv, Q τ rv → ∃ y : Int32, rv = some (.int y) ∧ Sh τ ∧ Q0 (uJ τ 72 0 (Int32.toInt64 y)) (some (.int 0))) (hx : ∀ τ Ex, X τ Ex → (Ex = "java/lang/IndexOutOfBoundsException" ∧ Q0 τ (some (.int 1))) ∨ (Ex = "java/lang/IllegalStateException" ∧ Q0 τ (some (.int 2)))) : CtH g mL_refund [.ref 2, .int v1, .ref 72] σ Q0 := by
  refine CtH_of (by decide +kernel) rfl (b_L_refund_0 ?_)
  refine V_callVX (as := [.int v1]) (k' := 0) (n' := 0) hc mw_X11_refund ko_X11 rfl w_905 w_906 w_904 ar_X11_refund ⟨rfl, rfl, rfl, rfl, rfl⟩ dL_refund_4 (by decide) (shk hS 2 rfl) rfl (fun τ rv h => ?_) (fun τ Ex h => ?_)
  · obtain ⟨y, rfl, hS2, q⟩ := hq τ rv h
    refine V_i2l dL_refund_7 ?_
    refine V_last dL_refund_8 (by decide) (shk hS2 72 rfl) (vp_l (n := 1) (shl hS2 72 rfl) (vp_in_nI (n := 0) (by decide) (by decide))) ?_
    refine V_goto 18 dL_refund_9 rfl ?_
    refine V_iconst (0 : Int32) dL_refund_18 (by decide) ?_
    exact V_iret rfl dL_refund_19 q
  · rcases hx τ Ex h with ⟨rfl, q⟩ | ⟨rfl, q⟩
    · exact ⟨1, hx_L_refund_1, q⟩
    · exact ⟨2, hx_L_refund_2, q⟩
theorem hx_L_reissue_1 : HX mL_reissue 4 "java/lang/IndexOutOfBoundsException" 1 := ⟨[], ⟨0, 9, 12, 13⟩, _, rfl, (fun y hy => by cases hy), by decide, by decide, w_433, by decide, Or.inl ⟨3, 1, dL_reissue_12, by decide, dL_reissue_13, by decide, dL_reissue_14⟩⟩
theorem hx_L_reissue_2 : HX mL_reissue 4 "java/lang/IllegalStateException" 2 := ⟨[⟨0, 9, 12, 13⟩], ⟨0, 9, 15, 21⟩, _, rfl, (fun y hy => ((List.mem_cons.mp hy).elim (fun q => by rw [q]; exact Or.inr ⟨by decide, "java/lang/IndexOutOfBoundsException", w_433, by decide, by decide⟩) (fun hy => (by cases hy)))), by decide, by decide, w_533, by decide, Or.inl ⟨3, 2, dL_reissue_15, by decide, dL_reissue_16, by decide, dL_reissue_17⟩⟩
theorem w_L_reissue {g : GP} {σ : AH} {v1 : Int32} {Q Q0 : AH → Option Value → Prop} {X : AH → String → Prop} (hS : Sh σ) (hc : CtX g mX11_reissue [.ref 2, .int v1] σ Q X) (hq : ∀ τ rv, Q τ rv → ∃ y : Int32, rv = some (.int y) ∧ Sh τ ∧ Q0 (uJ τ 72 0 (Int32.toInt64 y)) (some (.int 0))) (hx : ∀ τ Ex, X τ Ex → (Ex = "java/lang/IndexOutOfBoundsException" ∧ Q0 τ (some (.int 1))) ∨ (Ex = "java/lang/IllegalStateException" ∧ Q0 τ (some (.int 2)))) : CtH g mL_reissue [.ref 2, .int v1, .ref 72] σ Q0 := by
  refine CtH_of (by decide +kernel) rfl (b_L_reissue_0 ?_)
  refine V_callVX (as := [.int v1]) (k' := 0) (n' := 0) hc mw_X11_reissue ko_X11 rfl w_927 w_928 w_926 ar_X11_reissue ⟨rfl, rfl, rfl, rfl, rfl⟩ dL_reissue_4 (by decide) (shk hS 2 rfl) rfl (fun τ rv h => ?_) (fun τ Ex h => ?_)
  · obtain ⟨y, rfl, hS2, q⟩ := hq τ rv h
    refine V_i2l dL_reissue_7 ?_
    refine V_last dL_reissue_8 (by decide) (shk hS2 72 rfl) (vp_l (n := 1) (shl hS2 72 rfl) (vp_in_nI (n := 0) (by decide) (by decide))) ?_
    refine V_goto 18 dL_reissue_9 rfl ?_
    refine V_iconst (0 : Int32) dL_reissue_18 (by decide) ?_
    exact V_iret rfl dL_reissue_19 q
  · rcases hx τ Ex h with ⟨rfl, q⟩ | ⟨rfl, q⟩
    · exact ⟨1, hx_L_reissue_1, q⟩
    · exact ⟨2, hx_L_reissue_2, q⟩
theorem hx_L_reject_1 : HX mL_reject 4 "java/lang/IndexOutOfBoundsException" 1 := ⟨[], ⟨0, 9, 12, 13⟩, _, rfl, (fun y hy => by cases hy), by decide, by decide, w_433, by decide, Or.inl ⟨3, 1, dL_reject_12, by decide, dL_reject_13, by decide, dL_reject_14⟩⟩
theorem hx_L_reject_2 : HX mL_reject 4 "java/lang/IllegalStateException" 2 := ⟨[⟨0, 9, 12, 13⟩], ⟨0, 9, 15, 21⟩, _, rfl, (fun y hy => ((List.mem_cons.mp hy).elim (fun q => by rw [q]; exact Or.inr ⟨by decide, "java/lang/IndexOutOfBoundsException", w_433, by decide, by decide⟩) (fun hy => (by cases hy)))), by decide, by decide, w_533, by decide, Or.inl ⟨3, 2, dL_reject_15, by decide, dL_reject_16, by decide, dL_reject_17⟩⟩
theorem w_L_reject {g : GP} {σ : AH} {v1 : Int32} {Q Q0 : AH → Option Value → Prop} {X : AH → String → Prop} (hS : Sh σ) (hc : CtX g mX11_reject [.ref 2, .int v1] σ Q X) (hq : ∀ τ rv, Q τ rv → ∃ y : Int32, rv = some (.int y) ∧ Sh τ ∧ Q0 (uJ τ 72 0 (Int32.toInt64 y)) (some (.int 0))) (hx : ∀ τ Ex, X τ Ex → (Ex = "java/lang/IndexOutOfBoundsException" ∧ Q0 τ (some (.int 1))) ∨ (Ex = "java/lang/IllegalStateException" ∧ Q0 τ (some (.int 2)))) : CtH g mL_reject [.ref 2, .int v1, .ref 72] σ Q0 := by
  refine CtH_of (by decide +kernel) rfl (b_L_reject_0 ?_)
  refine V_callVX (as := [.int v1]) (k' := 0) (n' := 0) hc mw_X11_reject ko_X11 rfl w_944 w_945 w_943 ar_X11_reject ⟨rfl, rfl, rfl, rfl, rfl⟩ dL_reject_4 (by decide) (shk hS 2 rfl) rfl (fun τ rv h => ?_) (fun τ Ex h => ?_)
  · obtain ⟨y, rfl, hS2, q⟩ := hq τ rv h
    refine V_i2l dL_reject_7 ?_
    refine V_last dL_reject_8 (by decide) (shk hS2 72 rfl) (vp_l (n := 1) (shl hS2 72 rfl) (vp_in_nI (n := 0) (by decide) (by decide))) ?_
    refine V_goto 18 dL_reject_9 rfl ?_
    refine V_iconst (0 : Int32) dL_reject_18 (by decide) ?_
    exact V_iret rfl dL_reject_19 q
  · rcases hx τ Ex h with ⟨rfl, q⟩ | ⟨rfl, q⟩
    · exact ⟨1, hx_L_reject_1, q⟩
    · exact ⟨2, hx_L_reject_2, q⟩
theorem hx_L_state_1 : HX mL_state 4 "java/lang/IndexOutOfBoundsException" 1 := ⟨[], ⟨0, 8, 11, 13⟩, _, rfl, (fun y hy => by cases hy), by decide, by decide, w_433, by decide, Or.inl ⟨3, 1, dL_state_11, by decide, dL_state_12, by decide, dL_state_13⟩⟩
theorem w_L_state {g : GP} {σ : AH} {v1 : Int32} {Q Q0 : AH → Option Value → Prop} {X : AH → String → Prop} (hS : Sh σ) (hc : CtX g mX11_state [.ref 2, .int v1] σ Q X) (hq : ∀ τ rv, Q τ rv → ∃ y : Int64, rv = some (.long y) ∧ Sh τ ∧ Q0 (uJ τ 72 0 y) (some (.int 0))) (hx : ∀ τ Ex, X τ Ex → (Ex = "java/lang/IndexOutOfBoundsException" ∧ Q0 τ (some (.int 1)))) : CtH g mL_state [.ref 2, .int v1, .ref 72] σ Q0 := by
  refine CtH_of (by decide +kernel) rfl (b_L_state_0 ?_)
  refine V_callVX (as := [.int v1]) (k' := 0) (n' := 0) hc mw_X11_state ko_X11 rfl w_1039 w_1040 w_1038 ar_X11_state ⟨rfl, rfl, rfl, rfl, rfl⟩ dL_state_4 (by decide) (shk hS 2 rfl) rfl (fun τ rv h => ?_) (fun τ Ex h => ?_)
  · obtain ⟨y, rfl, hS2, q⟩ := hq τ rv h
    refine V_last dL_state_7 (by decide) (shk hS2 72 rfl) (vp_l (n := 1) (shl hS2 72 rfl) (vp_in_nI (n := 0) (by decide) (by decide))) ?_
    refine V_goto 14 dL_state_8 rfl ?_
    refine V_iconst (0 : Int32) dL_state_14 (by decide) ?_
    exact V_iret rfl dL_state_15 q
  · obtain ⟨rfl, q⟩ := hx τ Ex h
    exact ⟨1, hx_L_state_1, q⟩
theorem hx_L_tax_1 : HX mL_tax 4 "java/lang/IndexOutOfBoundsException" 1 := ⟨[], ⟨0, 7, 10, 13⟩, _, rfl, (fun y hy => by cases hy), by decide, by decide, w_433, by decide, Or.inr ⟨4, 1, dL_tax_10, by decide, dL_tax_12, by decide, dL_tax_13⟩⟩
theorem hx_L_tax_2 : HX mL_tax 4 "java/lang/IllegalArgumentException" 2 := ⟨[⟨0, 7, 10, 13⟩], ⟨0, 7, 14, 15⟩, _, rfl, (fun y hy => ((List.mem_cons.mp hy).elim (fun q => by rw [q]; exact Or.inr ⟨by decide, "java/lang/IndexOutOfBoundsException", w_433, by decide, by decide⟩) (fun hy => (by cases hy)))), by decide, by decide, w_434, by decide, Or.inr ⟨4, 2, dL_tax_14, by decide, dL_tax_16, by decide, dL_tax_17⟩⟩
theorem w_L_tax {g : GP} {σ : AH} {v1 : Int32} {v2 : Int32} {v3 : Int32} {Q Q0 : AH → Option Value → Prop} {X : AH → String → Prop} (hS : Sh σ) (hc : CtX g mX11_tax [.ref 2, .int v1, .int v2, .int v3] σ Q X) (hq : ∀ τ rv, Q τ rv → Q0 τ (some (.int 0)) ∧ rv = none) (hx : ∀ τ Ex, X τ Ex → (Ex = "java/lang/IndexOutOfBoundsException" ∧ Q0 τ (some (.int 1))) ∨ (Ex = "java/lang/IllegalArgumentException" ∧ Q0 τ (some (.int 2)))) : CtH g mL_tax [.ref 2, .int v1, .int v2, .int v3] σ Q0 := by
  refine CtH_of (by decide +kernel) rfl (b_L_tax_0 ?_)
  refine V_callVX (as := [.int v1, .int v2, .int v3]) (k' := 0) (n' := 0) hc mw_X11_tax ko_X11 rfl w_613 w_614 w_612 ar_X11_tax ⟨rfl, rfl, rfl, rfl, rfl⟩ dL_tax_4 (by decide) (shk hS 2 rfl) rfl (fun τ rv h => ?_) (fun τ Ex h => ?_)
  · obtain ⟨q, rfl⟩ := hq τ rv h
    refine V_goto 18 dL_tax_7 rfl ?_
    refine V_iconst (0 : Int32) dL_tax_18 (by decide) ?_
    exact V_iret rfl dL_tax_19 q
  · rcases hx τ Ex h with ⟨rfl, q⟩ | ⟨rfl, q⟩
    · exact ⟨1, hx_L_tax_1, q⟩
    · exact ⟨2, hx_L_tax_2, q⟩
theorem hx_L_unit_1 : HX mL_unit 4 "java/lang/IllegalArgumentException" 1 := ⟨[], ⟨0, 9, 12, 15⟩, _, rfl, (fun y hy => by cases hy), by decide, by decide, w_434, by decide, Or.inl ⟨3, 1, dL_unit_12, by decide, dL_unit_13, by decide, dL_unit_14⟩⟩
theorem w_L_unit {g : GP} {σ : AH} {v1 : Int32} {Q Q0 : AH → Option Value → Prop} {X : AH → String → Prop} (hS : Sh σ) (hc : CtX g mX11_unit [.ref 2, .int v1] σ Q X) (hq : ∀ τ rv, Q τ rv → ∃ y : Int32, rv = some (.int y) ∧ Sh τ ∧ Q0 (uJ τ 72 0 (Int32.toInt64 y)) (some (.int 0))) (hx : ∀ τ Ex, X τ Ex → (Ex = "java/lang/IllegalArgumentException" ∧ Q0 τ (some (.int 1)))) : CtH g mL_unit [.ref 2, .int v1, .ref 72] σ Q0 := by
  refine CtH_of (by decide +kernel) rfl (b_L_unit_0 ?_)
  refine V_callVX (as := [.int v1]) (k' := 0) (n' := 0) hc mw_X11_unit ko_X11 rfl w_605 w_606 w_604 ar_X11_unit ⟨rfl, rfl, rfl, rfl, rfl⟩ dL_unit_4 (by decide) (shk hS 2 rfl) rfl (fun τ rv h => ?_) (fun τ Ex h => ?_)
  · obtain ⟨y, rfl, hS2, q⟩ := hq τ rv h
    refine V_i2l dL_unit_7 ?_
    refine V_last dL_unit_8 (by decide) (shk hS2 72 rfl) (vp_l (n := 1) (shl hS2 72 rfl) (vp_in_nI (n := 0) (by decide) (by decide))) ?_
    refine V_goto 15 dL_unit_9 rfl ?_
    refine V_iconst (0 : Int32) dL_unit_15 (by decide) ?_
    exact V_iret rfl dL_unit_16 q
  · obtain ⟨rfl, q⟩ := hx τ Ex h
    exact ⟨1, hx_L_unit_1, q⟩
theorem hx_L_weight_1 : HX mL_weight 7 "java/lang/IndexOutOfBoundsException" 1 := ⟨[], ⟨0, 12, 15, 13⟩, _, rfl, (fun y hy => by cases hy), by decide, by decide, w_433, by decide, Or.inr ⟨5, 1, dL_weight_15, by decide, dL_weight_17, by decide, dL_weight_18⟩⟩
theorem hx_L_weight_2 : HX mL_weight 7 "java/lang/IllegalArgumentException" 2 := ⟨[⟨0, 12, 15, 13⟩], ⟨0, 12, 19, 15⟩, _, rfl, (fun y hy => ((List.mem_cons.mp hy).elim (fun q => by rw [q]; exact Or.inr ⟨by decide, "java/lang/IndexOutOfBoundsException", w_433, by decide, by decide⟩) (fun hy => (by cases hy)))), by decide, by decide, w_434, by decide, Or.inr ⟨5, 2, dL_weight_19, by decide, dL_weight_21, by decide, dL_weight_22⟩⟩
theorem w_L_weight {g : GP} {σ : AH} {v1 : Int32} {v2 : Int32} {v3 : Int32} {Q Q0 : AH → Option Value → Prop} {X : AH → String → Prop} (hS : Sh σ) (hc : CtX g mX11_weight [.ref 2, .int v1, .int v2, .int v3] σ Q X) (hq : ∀ τ rv, Q τ rv → ∃ y : Int32, rv = some (.int y) ∧ Sh τ ∧ Q0 (uJ τ 72 0 (Int32.toInt64 y)) (some (.int 0))) (hx : ∀ τ Ex, X τ Ex → (Ex = "java/lang/IndexOutOfBoundsException" ∧ Q0 τ (some (.int 1))) ∨ (Ex = "java/lang/IllegalArgumentException" ∧ Q0 τ (some (.int 2)))) : CtH g mL_weight [.ref 2, .int v1, .int v2, .int v3, .ref 72] σ Q0 := by
  refine CtH_of (by decide +kernel) rfl (b_L_weight_0 ?_)
  refine V_callVX (as := [.int v1, .int v2, .int v3]) (k' := 0) (n' := 0) hc mw_X11_weight ko_X11 rfl w_626 w_627 w_625 ar_X11_weight ⟨rfl, rfl, rfl, rfl, rfl⟩ dL_weight_7 (by decide) (shk hS 2 rfl) rfl (fun τ rv h => ?_) (fun τ Ex h => ?_)
  · obtain ⟨y, rfl, hS2, q⟩ := hq τ rv h
    refine V_i2l dL_weight_10 ?_
    refine V_last dL_weight_11 (by decide) (shk hS2 72 rfl) (vp_l (n := 1) (shl hS2 72 rfl) (vp_in_nI (n := 0) (by decide) (by decide))) ?_
    refine V_goto 23 dL_weight_12 rfl ?_
    refine V_iconst (0 : Int32) dL_weight_23 (by decide) ?_
    exact V_iret rfl dL_weight_24 q
  · rcases hx τ Ex h with ⟨rfl, q⟩ | ⟨rfl, q⟩
    · exact ⟨1, hx_L_weight_1, q⟩
    · exact ⟨2, hx_L_weight_2, q⟩
theorem hx_L_withdraw_1 : HX mL_withdraw 2 "java/lang/IndexOutOfBoundsException" 1 := ⟨[], ⟨0, 5, 8, 13⟩, _, rfl, (fun y hy => by cases hy), by decide, by decide, w_433, by decide, Or.inl ⟨2, 1, dL_withdraw_8, by decide, dL_withdraw_9, by decide, dL_withdraw_10⟩⟩
theorem hx_L_withdraw_2 : HX mL_withdraw 2 "java/lang/IllegalStateException" 2 := ⟨[⟨0, 5, 8, 13⟩], ⟨0, 5, 11, 21⟩, _, rfl, (fun y hy => ((List.mem_cons.mp hy).elim (fun q => by rw [q]; exact Or.inr ⟨by decide, "java/lang/IndexOutOfBoundsException", w_433, by decide, by decide⟩) (fun hy => (by cases hy)))), by decide, by decide, w_533, by decide, Or.inl ⟨2, 2, dL_withdraw_11, by decide, dL_withdraw_12, by decide, dL_withdraw_13⟩⟩
theorem w_L_withdraw {g : GP} {σ : AH} {v1 : Int32} {Q Q0 : AH → Option Value → Prop} {X : AH → String → Prop} (hS : Sh σ) (hc : CtX g mX11_withdraw [.ref 2, .int v1] σ Q X) (hq : ∀ τ rv, Q τ rv → Q0 τ (some (.int 0)) ∧ rv = none) (hx : ∀ τ Ex, X τ Ex → (Ex = "java/lang/IndexOutOfBoundsException" ∧ Q0 τ (some (.int 1))) ∨ (Ex = "java/lang/IllegalStateException" ∧ Q0 τ (some (.int 2)))) : CtH g mL_withdraw [.ref 2, .int v1] σ Q0 := by
  refine CtH_of (by decide +kernel) rfl (b_L_withdraw_0 ?_)
  refine V_callVX (as := [.int v1]) (k' := 0) (n' := 0) hc mw_X11_withdraw ko_X11 rfl w_595 w_596 w_594 ar_X11_withdraw ⟨rfl, rfl, rfl, rfl, rfl⟩ dL_withdraw_2 (by decide) (shk hS 2 rfl) rfl (fun τ rv h => ?_) (fun τ Ex h => ?_)
  · obtain ⟨q, rfl⟩ := hq τ rv h
    refine V_goto 14 dL_withdraw_5 rfl ?_
    refine V_iconst (0 : Int32) dL_withdraw_14 (by decide) ?_
    exact V_iret rfl dL_withdraw_15 q
  · rcases hx τ Ex h with ⟨rfl, q⟩ | ⟨rfl, q⟩
    · exact ⟨1, hx_L_withdraw_1, q⟩
    · exact ⟨2, hx_L_withdraw_2, q⟩
