/-! ===== the reference: what is asked ===== -/
theorem vp_w240 {σ : AH} {x : Int32} (h : vp_in (zI σ 33 36) 241) (c : isWi x 0 (zI σ 33 36 - 1)) : vp_in x 240 := isWi_vp h (by decide) c
theorem vp_w30 {σ : AH} {x : Int32} (h : vp_in (zI σ 33 23) 31) (c : isWi x 0 (zI σ 33 23 - 1)) : vp_in x 30 := isWi_vp h (by decide) c
/-- pass: what the ghost rows become, and the answer -/
def S12_pass (v1 : Int32) (σ ω : AH) (rv : Option Value) : Prop := (¬ (isWi v1 1 100) → ω = uI σ 33 49 (1 : Int32) ∧ rv = (some (.int 0))) ∧ ((isWi v1 1 100) → ¬ (¬ 999 < zI σ 33 0 + v1) → ω = uI σ 33 49 (2 : Int32) ∧ rv = (some (.int 0))) ∧ ((isWi v1 1 100) → (¬ 999 < zI σ 33 0 + v1) → ω = uI (uI σ 33 49 0) 33 0 (zI σ 33 0 + v1) ∧ rv = (some (.int (zI σ 33 0 + v1))))
theorem s_X12_pass {Q : AH → Option Value → Prop} {v1 : Int32} {σ : AH} (hS : Sh σ) 
    (q1 : ¬ (isWi v1 1 100) → Q (uI σ 33 49 (1 : Int32)) (some (.int 0)))
    (q2 : (isWi v1 1 100) → ¬ (¬ 999 < zI σ 33 0 + v1) → Q (uI σ 33 49 (2 : Int32)) (some (.int 0)))
    (q0 : (isWi v1 1 100) → (¬ 999 < zI σ 33 0 + v1) → Q (uI (uI σ 33 49 0) 33 0 (zI σ 33 0 + v1)) (some (.int (zI σ 33 0 + v1)))) : Gh (S12_pass v1) σ Q := by
  by_cases a1 : isWi v1 1 100
  rotate_left
  · exact ⟨_, _, ⟨fun _ => ⟨rfl, rfl⟩, fun h _ => absurd h a1, fun h _ => absurd h a1⟩, q1 a1⟩
  by_cases a2 : ¬ 999 < zI σ 33 0 + v1
  rotate_left
  · exact ⟨_, _, ⟨fun h => absurd a1 h, fun _ _ => ⟨rfl, rfl⟩, fun _ h => absurd h a2⟩, q2 a1 a2⟩
  exact ⟨_, _, ⟨fun h => absurd a1 h, fun _ h => absurd a2 h, fun _ _ => ⟨rfl, rfl⟩⟩, q0 a1 a2⟩
/-- reject: what the ghost rows become, and the answer -/
def S12_reject (v1 : Int32) (σ ω : AH) (rv : Option Value) : Prop := (¬ (isWi v1 0 (zI σ 33 36 - 1)) → ω = uI σ 33 49 (1 : Int32) ∧ rv = (some (.int 0))) ∧ ((isWi v1 0 (zI σ 33 36 - 1)) → ¬ (zI σ 62 (ix v1) = 1 ∧ ¬ zI σ 67 (ix v1) < zI σ 33 43 - 1) → ω = uI σ 33 49 (2 : Int32) ∧ rv = (some (.int 0))) ∧ ((isWi v1 0 (zI σ 33 36 - 1)) → (zI σ 62 (ix v1) = 1 ∧ ¬ zI σ 67 (ix v1) < zI σ 33 43 - 1) → ω = uI (uI (uI σ 33 49 0) 62 (ix v1) 2) 66 (ix v1) (zI σ 66 (ix v1) + 1) ∧ rv = (some (.int (zI (uI (uI (uI σ 33 49 0) 62 (ix v1) 2) 66 (ix v1) (zI σ 66 (ix v1) + 1)) 66 (ix v1)))))
theorem s_X12_reject {Q : AH → Option Value → Prop} {v1 : Int32} {σ : AH} (hS : Sh σ) (hB : vp_in (zI σ 33 36) 241)
    (q1 : ¬ (isWi v1 0 (zI σ 33 36 - 1)) → Q (uI σ 33 49 (1 : Int32)) (some (.int 0)))
    (q2 : (isWi v1 0 (zI σ 33 36 - 1)) → ¬ (zI σ 62 (ix v1) = 1 ∧ ¬ zI σ 67 (ix v1) < zI σ 33 43 - 1) → Q (uI σ 33 49 (2 : Int32)) (some (.int 0)))
    (q0 : (isWi v1 0 (zI σ 33 36 - 1)) → (zI σ 62 (ix v1) = 1 ∧ ¬ zI σ 67 (ix v1) < zI σ 33 43 - 1) → Q (uI (uI (uI σ 33 49 0) 62 (ix v1) 2) 66 (ix v1) (zI σ 66 (ix v1) + 1)) (some (.int (zI (uI (uI (uI σ 33 49 0) 62 (ix v1) 2) 66 (ix v1) (zI σ 66 (ix v1) + 1)) 66 (ix v1))))) : Gh (S12_reject v1) σ Q := by
  by_cases a1 : isWi v1 0 (zI σ 33 36 - 1)
  rotate_left
  · exact ⟨_, _, ⟨fun _ => ⟨rfl, rfl⟩, fun h _ => absurd h a1, fun h _ => absurd h a1⟩, q1 a1⟩
  by_cases a2 : zI σ 62 (ix v1) = 1 ∧ ¬ zI σ 67 (ix v1) < zI σ 33 43 - 1
  rotate_left
  · exact ⟨_, _, ⟨fun h => absurd a1 h, fun _ _ => ⟨rfl, rfl⟩, fun _ h => absurd h a2⟩, q2 a1 a2⟩
  exact ⟨_, _, ⟨fun h => absurd a1 h, fun _ h => absurd a2 h, fun _ _ => ⟨rfl, rfl⟩⟩, q0 a1 a2⟩
/-- rebill: what the ghost rows become, and the answer -/
def S12_rebill (v1 : Int32) (σ ω : AH) (rv : Option Value) : Prop := (¬ (isWi v1 0 (zI σ 33 36 - 1)) → ω = uI σ 33 49 (1 : Int32) ∧ rv = none) ∧ ((isWi v1 0 (zI σ 33 36 - 1)) → ¬ (zI σ 62 (ix v1) = 3) → ω = uI σ 33 49 (2 : Int32) ∧ rv = none) ∧ ((isWi v1 0 (zI σ 33 36 - 1)) → (zI σ 62 (ix v1) = 3) → ω = uI (uI σ 33 49 0) 62 (ix v1) 0 ∧ rv = none)
theorem s_X12_rebill {Q : AH → Option Value → Prop} {v1 : Int32} {σ : AH} (hS : Sh σ) (hB : vp_in (zI σ 33 36) 241)
    (q1 : ¬ (isWi v1 0 (zI σ 33 36 - 1)) → Q (uI σ 33 49 (1 : Int32)) none)
    (q2 : (isWi v1 0 (zI σ 33 36 - 1)) → ¬ (zI σ 62 (ix v1) = 3) → Q (uI σ 33 49 (2 : Int32)) none)
    (q0 : (isWi v1 0 (zI σ 33 36 - 1)) → (zI σ 62 (ix v1) = 3) → Q (uI (uI σ 33 49 0) 62 (ix v1) 0) none) : Gh (S12_rebill v1) σ Q := by
  by_cases a1 : isWi v1 0 (zI σ 33 36 - 1)
  rotate_left
  · exact ⟨_, _, ⟨fun _ => ⟨rfl, rfl⟩, fun h _ => absurd h a1, fun h _ => absurd h a1⟩, q1 a1⟩
  by_cases a2 : zI σ 62 (ix v1) = 3
  rotate_left
  · exact ⟨_, _, ⟨fun h => absurd a1 h, fun _ _ => ⟨rfl, rfl⟩, fun _ h => absurd h a2⟩, q2 a1 a2⟩
  exact ⟨_, _, ⟨fun h => absurd a1 h, fun _ h => absurd a2 h, fun _ _ => ⟨rfl, rfl⟩⟩, q0 a1 a2⟩
/-- cash: what the ghost rows become, and the answer -/
def S12_cash (v1 : Int32) (σ ω : AH) (rv : Option Value) : Prop := (¬ (isCa v1) → ω = uI σ 33 49 (1 : Int32) ∧ rv = (some (.long 0))) ∧ ((isCa v1) → ω = uI σ 33 49 0 ∧ rv = (some (.long (zJ σ 70 (ix v1)))))
theorem s_X12_cash {Q : AH → Option Value → Prop} {v1 : Int32} {σ : AH} (hS : Sh σ) 
    (q1 : ¬ (isCa v1) → Q (uI σ 33 49 (1 : Int32)) (some (.long 0)))
    (q0 : (isCa v1) → Q (uI σ 33 49 0) (some (.long (zJ σ 70 (ix v1))))) : Gh (S12_cash v1) σ Q := by
  by_cases a1 : isCa v1
  rotate_left
  · exact ⟨_, _, ⟨fun _ => ⟨rfl, rfl⟩, fun h => absurd h a1⟩, q1 a1⟩
  exact ⟨_, _, ⟨fun h => absurd a1 h, fun _ => ⟨rfl, rfl⟩⟩, q0 a1⟩
/-- state: what the ghost rows become, and the answer -/
def S12_state (v1 : Int32) (σ ω : AH) (rv : Option Value) : Prop := (¬ (isPl v1) → ω = uI σ 33 49 (1 : Int32) ∧ rv = (some (.long 0))) ∧ ((isPl v1) → ω = uI σ 33 49 0 ∧ rv = (some (.long (zJ σ 71 (ix v1)))))
theorem s_X12_state {Q : AH → Option Value → Prop} {v1 : Int32} {σ : AH} (hS : Sh σ) 
    (q1 : ¬ (isPl v1) → Q (uI σ 33 49 (1 : Int32)) (some (.long 0)))
    (q0 : (isPl v1) → Q (uI σ 33 49 0) (some (.long (zJ σ 71 (ix v1))))) : Gh (S12_state v1) σ Q := by
  by_cases a1 : isPl v1
  rotate_left
  · exact ⟨_, _, ⟨fun _ => ⟨rfl, rfl⟩, fun h => absurd h a1⟩, q1 a1⟩
  exact ⟨_, _, ⟨fun h => absurd a1 h, fun _ => ⟨rfl, rfl⟩⟩, q0 a1⟩
/-- ofBill: what the ghost rows become, and the answer -/
def S12_ofBill (v1 v2 : Int32) (σ ω : AH) (rv : Option Value) : Prop := (¬ (isWi v1 0 (zI σ 33 36 - 1)) → ω = uI σ 33 49 (1 : Int32) ∧ rv = (some (.int 0))) ∧ ((isWi v1 0 (zI σ 33 36 - 1)) → ¬ (isWi v2 0 5) → ω = uI σ 33 49 (2 : Int32) ∧ rv = (some (.int 0))) ∧ ((isWi v1 0 (zI σ 33 36 - 1)) → (isWi v2 0 5) → ω = uI σ 33 49 0 ∧ rv = (some (.int (if v2 = 0 then zI σ 62 (ix v1) else if v2 = 1 then zI σ 63 (ix v1) else if v2 = 2 then zI σ 64 (ix v1) else if v2 = 3 then zI σ 65 (ix v1) else if v2 = 4 then zI σ 66 (ix v1) else zI σ 67 (ix v1)))))
theorem s_X12_ofBill {Q : AH → Option Value → Prop} {v1 v2 : Int32} {σ : AH} (hS : Sh σ) (hB : vp_in (zI σ 33 36) 241)
    (q1 : ¬ (isWi v1 0 (zI σ 33 36 - 1)) → Q (uI σ 33 49 (1 : Int32)) (some (.int 0)))
    (q2 : (isWi v1 0 (zI σ 33 36 - 1)) → ¬ (isWi v2 0 5) → Q (uI σ 33 49 (2 : Int32)) (some (.int 0)))
    (q0 : (isWi v1 0 (zI σ 33 36 - 1)) → (isWi v2 0 5) → Q (uI σ 33 49 0) (some (.int (if v2 = 0 then zI σ 62 (ix v1) else if v2 = 1 then zI σ 63 (ix v1) else if v2 = 2 then zI σ 64 (ix v1) else if v2 = 3 then zI σ 65 (ix v1) else if v2 = 4 then zI σ 66 (ix v1) else zI σ 67 (ix v1))))) : Gh (S12_ofBill v1 v2) σ Q := by
  by_cases a1 : isWi v1 0 (zI σ 33 36 - 1)
  rotate_left
  · exact ⟨_, _, ⟨fun _ => ⟨rfl, rfl⟩, fun h _ => absurd h a1, fun h _ => absurd h a1⟩, q1 a1⟩
  by_cases a2 : isWi v2 0 5
  rotate_left
  · exact ⟨_, _, ⟨fun h => absurd a1 h, fun _ _ => ⟨rfl, rfl⟩, fun _ h => absurd h a2⟩, q2 a1 a2⟩
  exact ⟨_, _, ⟨fun h => absurd a1 h, fun _ h => absurd a2 h, fun _ _ => ⟨rfl, rfl⟩⟩, q0 a1 a2⟩
/-- ofCoupon: what the ghost rows become, and the answer -/
def S12_ofCoupon (v1 v2 v3 : Int32) (σ ω : AH) (rv : Option Value) : Prop := (¬ ((isWi v1 0 (zI σ 33 23 - 1) ∧ isWi v2 0 (zI σ 52 (ix v1) - 1))) → ω = uI σ 33 49 (1 : Int32) ∧ rv = (some (.int 0))) ∧ (((isWi v1 0 (zI σ 33 23 - 1) ∧ isWi v2 0 (zI σ 52 (ix v1) - 1))) → ¬ (isWi v3 0 5) → ω = uI σ 33 49 (2 : Int32) ∧ rv = (some (.int 0))) ∧ (((isWi v1 0 (zI σ 33 23 - 1) ∧ isWi v2 0 (zI σ 52 (ix v1) - 1))) → (isWi v3 0 5) → ω = uI σ 33 49 0 ∧ rv = (some (.int (if v3 = 0 then zI σ 55 (ix (8 * v1 + v2)) else if v3 = 1 then zI σ 56 (ix (8 * v1 + v2)) else if v3 = 2 then zI σ 57 (ix (8 * v1 + v2)) else if v3 = 3 then zI σ 58 (ix (8 * v1 + v2)) else if v3 = 4 then zI σ 59 (ix (8 * v1 + v2)) else zI σ 61 (ix (8 * v1 + v2))))))
theorem s_X12_ofCoupon {Q : AH → Option Value → Prop} {v1 v2 v3 : Int32} {σ : AH} (hS : Sh σ) (hN : vp_in (zI σ 33 23) 31) (hv : isWi v1 0 (zI σ 33 23 - 1) ∧ isWi v2 0 (zI σ 52 (ix v1) - 1) → vp_in (8 * v1 + v2) 240)
    (q1 : ¬ ((isWi v1 0 (zI σ 33 23 - 1) ∧ isWi v2 0 (zI σ 52 (ix v1) - 1))) → Q (uI σ 33 49 (1 : Int32)) (some (.int 0)))
    (q2 : ((isWi v1 0 (zI σ 33 23 - 1) ∧ isWi v2 0 (zI σ 52 (ix v1) - 1))) → ¬ (isWi v3 0 5) → Q (uI σ 33 49 (2 : Int32)) (some (.int 0)))
    (q0 : ((isWi v1 0 (zI σ 33 23 - 1) ∧ isWi v2 0 (zI σ 52 (ix v1) - 1))) → (isWi v3 0 5) → Q (uI σ 33 49 0) (some (.int (if v3 = 0 then zI σ 55 (ix (8 * v1 + v2)) else if v3 = 1 then zI σ 56 (ix (8 * v1 + v2)) else if v3 = 2 then zI σ 57 (ix (8 * v1 + v2)) else if v3 = 3 then zI σ 58 (ix (8 * v1 + v2)) else if v3 = 4 then zI σ 59 (ix (8 * v1 + v2)) else zI σ 61 (ix (8 * v1 + v2)))))) : Gh (S12_ofCoupon v1 v2 v3) σ Q := by
  by_cases a1 : (isWi v1 0 (zI σ 33 23 - 1) ∧ isWi v2 0 (zI σ 52 (ix v1) - 1))
  rotate_left
  · exact ⟨_, _, ⟨fun _ => ⟨rfl, rfl⟩, fun h _ => absurd h a1, fun h _ => absurd h a1⟩, q1 a1⟩
  by_cases a2 : isWi v3 0 5
  rotate_left
  · exact ⟨_, _, ⟨fun h => absurd a1 h, fun _ _ => ⟨rfl, rfl⟩, fun _ h => absurd h a2⟩, q2 a1 a2⟩
  exact ⟨_, _, ⟨fun h => absurd a1 h, fun _ h => absurd a2 h, fun _ _ => ⟨rfl, rfl⟩⟩, q0 a1 a2⟩
/-- ofTicket: what the ghost rows become, and the answer -/
def S12_ofTicket (v1 v2 : Int32) (σ ω : AH) (rv : Option Value) : Prop := (¬ (isWi v1 0 (zI σ 33 23 - 1)) → ω = uI σ 33 49 (1 : Int32) ∧ rv = (some (.int 0))) ∧ ((isWi v1 0 (zI σ 33 23 - 1)) → ¬ (isWi v2 0 5) → ω = uI σ 33 49 (2 : Int32) ∧ rv = (some (.int 0))) ∧ ((isWi v1 0 (zI σ 33 23 - 1)) → (isWi v2 0 5) → ω = uI σ 33 49 0 ∧ rv = (some (.int (if v2 = 0 then zI σ 50 (ix v1) else if v2 = 1 then smI (fun k => zI (uI σ 33 49 0) 57 (8 * ix v1 + k)) (ix (zI (uI σ 33 49 0) 52 (ix v1))) else if v2 = 2 then zI σ 51 (ix v1) else if v2 = 3 then zI σ 52 (ix v1) else if v2 = 4 then zI σ 53 (ix v1) else zI σ 54 (ix v1)))))
theorem s_X12_ofTicket {Q : AH → Option Value → Prop} {v1 v2 : Int32} {σ : AH} (hS : Sh σ) (hN : vp_in (zI σ 33 23) 31) (hM : isWi v1 0 (zI σ 33 23 - 1) → vp_in (zI (uI σ 33 49 0) 52 (ix v1)) 9)
    (q1 : ¬ (isWi v1 0 (zI σ 33 23 - 1)) → Q (uI σ 33 49 (1 : Int32)) (some (.int 0)))
    (q2 : (isWi v1 0 (zI σ 33 23 - 1)) → ¬ (isWi v2 0 5) → Q (uI σ 33 49 (2 : Int32)) (some (.int 0)))
    (q0 : (isWi v1 0 (zI σ 33 23 - 1)) → (isWi v2 0 5) → Q (uI σ 33 49 0) (some (.int (if v2 = 0 then zI σ 50 (ix v1) else if v2 = 1 then smI (fun k => zI (uI σ 33 49 0) 57 (8 * ix v1 + k)) (ix (zI (uI σ 33 49 0) 52 (ix v1))) else if v2 = 2 then zI σ 51 (ix v1) else if v2 = 3 then zI σ 52 (ix v1) else if v2 = 4 then zI σ 53 (ix v1) else zI σ 54 (ix v1))))) : Gh (S12_ofTicket v1 v2) σ Q := by
  by_cases a1 : isWi v1 0 (zI σ 33 23 - 1)
  rotate_left
  · exact ⟨_, _, ⟨fun _ => ⟨rfl, rfl⟩, fun h _ => absurd h a1, fun h _ => absurd h a1⟩, q1 a1⟩
  by_cases a2 : isWi v2 0 5
  rotate_left
  · exact ⟨_, _, ⟨fun h => absurd a1 h, fun _ _ => ⟨rfl, rfl⟩, fun _ h => absurd h a2⟩, q2 a1 a2⟩
  exact ⟨_, _, ⟨fun h => absurd a1 h, fun _ h => absurd a2 h, fun _ _ => ⟨rfl, rfl⟩⟩, q0 a1 a2⟩
/-- paid -/
def S12_paid (σ ω : AH) (rv : Option Value) : Prop := ω = uI σ 33 49 0 ∧ rv = some (.long (zJ σ 33 48))
theorem s_X12_paid {σ : AH} (hS : Sh σ)  : Gh S12_paid σ (FQ (uI σ 33 49 0) (some (.long (zJ σ 33 48)))) := ⟨_, _, ⟨rfl, rfl⟩, rfl, rfl⟩
def dfS (σ : AH) : Nat → Int32
  | 0 => 0
  | d + 1 => dfS σ d ||| (if zI σ 68 d = 0 then 0 else (1 : Int32) <<< (nI d &&& 31))
/-- of: what the ghost rows become, and the answer -/
def S12_of (v1 : Int32) (σ ω : AH) (rv : Option Value) : Prop := (¬ (isWi v1 0 5) → ω = uI σ 33 49 (1 : Int32) ∧ rv = (some (.int 0))) ∧ ((isWi v1 0 5) → ω = uI σ 33 49 0 ∧ rv = (some (.int (if v1 = 0 then zI σ 33 0 else if v1 = 1 then zI σ 33 16 else if v1 = 2 then zI σ 33 23 else if v1 = 3 then zI σ 33 36 else if v1 = 4 then zI σ 33 43 else dfS (uI σ 33 49 0) 5))))
theorem s_X12_of {Q : AH → Option Value → Prop} {v1 : Int32} {σ : AH} (hS : Sh σ) 
    (q1 : ¬ (isWi v1 0 5) → Q (uI σ 33 49 (1 : Int32)) (some (.int 0)))
    (q0 : (isWi v1 0 5) → Q (uI σ 33 49 0) (some (.int (if v1 = 0 then zI σ 33 0 else if v1 = 1 then zI σ 33 16 else if v1 = 2 then zI σ 33 23 else if v1 = 3 then zI σ 33 36 else if v1 = 4 then zI σ 33 43 else dfS (uI σ 33 49 0) 5)))) : Gh (S12_of v1) σ Q := by
  by_cases a1 : isWi v1 0 5
  rotate_left
  · exact ⟨_, _, ⟨fun _ => ⟨rfl, rfl⟩, fun h => absurd h a1⟩, q1 a1⟩
  exact ⟨_, _, ⟨fun h => absurd a1 h, fun _ => ⟨rfl, rfl⟩⟩, q0 a1⟩