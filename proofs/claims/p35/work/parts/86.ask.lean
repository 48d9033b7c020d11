/-! ===== what the law asks ===== -/
theorem RO_f {τ σ : AH} (h : RO τ σ) (a : Nat) (h1 : 34 ≤ a) (h2 : a ≤ 71) : zI τ a = zI σ a := funext fun j => h.1 a j (by omega) (by omega) (by omega) (by omega)
theorem RO_j {τ σ : AH} (h : RO τ σ) (a : Nat) (h1 : 33 ≤ a) (h2 : a ≤ 71) : zJ τ a = zJ σ a := funext fun j => h.2 a j h1 h2
theorem RO_3 {τ σ : AH} (h : RO τ σ) (j : Nat) (hj : j ≠ 21 ∧ j ≠ 22 ∧ j ≠ 49) : zI τ 33 j = zI σ 33 j := h.1 33 j (by decide) (by decide) (by decide) (by omega)
theorem no49 {es : List Int32} {j : Nat} {c : Int32} (hl : es.length ≤ 3) (hc : es[j]? = some c) : ¬ (0 : Int32) = nI (j + 1) := by
  have hj : j < es.length := (List.getElem?_eq_some_iff.mp hc).1
  have k : ∀ j : Fin 3, ¬ (0 : Int32) = nI (j.val + 1) := by decide
  exact k ⟨j, by omega⟩
theorem no49l {es : List Int64} {j : Nat} {c : Int64} (hl : es.length ≤ 3) (hc : es[j]? = some c) : ¬ (0 : Int32) = nI (j + 1) := by
  have hj : j < es.length := (List.getElem?_eq_some_iff.mp hc).1
  have k : ∀ j : Fin 3, ¬ (0 : Int32) = nI (j.val + 1) := by decide
  exact k ⟨j, by omega⟩
theorem is49 {α : Type} {es : List α} {j : Nat} {c : α} (hl : es.length ≤ 3) (hc : es[j]? = some c) (q : Nat) (hq : q < 3) (h : nI (q + 1) = nI (j + 1)) : es[q]? = some c := by
  have hj : j < es.length := (List.getElem?_eq_some_iff.mp hc).1
  have e := (nI_eq (a := q + 1) (b := j + 1) (by omega) (by omega)).mp h
  have e2 : q = j := by omega
  rw [e2]; exact hc
theorem wi_lt {n t : Nat} (ht : t < n) (hn : n < 2 ^ 30) : isWi (nI t) 0 (nI n - 1) := by
  rw [isWi_iff, pred_toInt (by omega), nI_toInt (by omega)]
  exact ⟨by rw [zero_toInt]; omega, by omega⟩
theorem wi_ge {n t : Nat} (ht : n ≤ t) (hn : t < 2 ^ 30) : ¬ isWi (nI t) 0 (nI n - 1) := by
  rw [isWi_iff, pred_toInt (by omega), nI_toInt (by omega)]
  omega
def tkV (σ : AH) (t : Nat) (w : Int32) : Int32 := if w = 0 then zI σ 50 t else if w = 1 then smI (fun k => zI σ 57 (8 * t + k)) (ix (zI σ 52 t)) else if w = 2 then zI σ 51 t else if w = 3 then zI σ 52 t else if w = 4 then zI σ 53 t else zI σ 54 t
def cpV (σ : AH) (q : Nat) (w : Int32) : Int32 := if w = 0 then zI σ 55 q else if w = 1 then zI σ 56 q else if w = 2 then zI σ 57 q else if w = 3 then zI σ 58 q else if w = 4 then zI σ 59 q else zI σ 61 q
def blV (σ : AH) (b : Nat) (w : Int32) : Int32 := if w = 0 then zI σ 62 b else if w = 1 then zI σ 63 b else if w = 2 then zI σ 64 b else if w = 3 then zI σ 65 b else if w = 4 then zI σ 66 b else zI σ 67 b
def ofV (σ : AH) (w : Int32) : Int32 := if w = 0 then zI σ 33 0 else if w = 1 then zI σ 33 16 else if w = 2 then zI σ 33 23 else if w = 3 then zI σ 33 36 else if w = 4 then zI σ 33 43 else dfS σ 5
theorem tk_57 {τ : AH} {x : Int32} {a : Nat} (ha : a ≠ 33) : zI (uI τ 33 49 x) a = zI τ a := funext fun j => by rw [zI_uI, if_neg (fun q => ha q.1)]
section ASK
variable {g : GP} {σ σ0 : AH}
theorem P_tk {t n : Nat} {w : Int32} (hg : gG g = none) (hn : zI σ0 33 23 = nI n) (n30 : n ≤ 30) (ht : t < n) (hw : isWi w 0 5) (hK : Kp σ σ0) : CtH g mL_ofTicket [.ref 2, .int (nI t), .int w] σ (fun ω rv => rv = some (.int (tkV σ0 t w)) ∧ Kp ω σ0) := by
  have hi : isWi (nI t) 0 (zI σ0 33 23 - 1) := by rw [hn]; exact wi_lt ht (by omega)
  have ei : ix (nI t) = t := cl0 (by omega)
  refine ro_int hg hK (fun g' => R_ofTicket (by decide) hK.1) (fun τ ω b hO hS h49 => ?_) (fun τ ω rv j c hO hc hS h49 => ?_)
  · obtain ⟨-, -, s⟩ := hS
    obtain ⟨rfl, e⟩ := s (by rw [RO_3 hO 23 (by decide)]; exact hi) hw
    cases e
    refine ⟨RW_49, ?_⟩
    rw [tkV, ei, tk_57 (by decide), tk_57 (by decide), RO_f hO 50 (by decide) (by decide), RO_f hO 51 (by decide) (by decide), RO_f hO 52 (by decide) (by decide), RO_f hO 53 (by decide) (by decide), RO_f hO 54 (by decide) (by decide), RO_f hO 57 (by decide) (by decide)]
  · obtain ⟨-, -, s⟩ := hS
    obtain ⟨rfl, e⟩ := s (by rw [RO_3 hO 23 (by decide)]; exact hi) hw
    rw [i49] at h49
    exact absurd h49 (no49 (by decide) hc)
/-- an unknown question -/
theorem P_tk6 {t n : Nat} (hg : gG g = none) (hn : zI σ0 33 23 = nI n) (n30 : n ≤ 30) (ht : t < n) (hK : Kp σ σ0) : CtH g mL_ofTicket [.ref 2, .int (nI t), .int 6] σ (fun ω rv => rv = some (.int (-1000002)) ∧ Kp ω σ0) := by
  have hi : isWi (nI t) 0 (zI σ0 33 23 - 1) := by rw [hn]; exact wi_lt ht (by omega)
  have hw : ¬ isWi (6 : Int32) 0 5 := by decide
  refine ro_int hg hK (fun g' => R_ofTicket (by decide) hK.1) (fun τ ω b hO hS h49 => ?_) (fun τ ω rv j c hO hc hS h49 => ?_)
  · obtain ⟨-, s, -⟩ := hS
    obtain ⟨rfl, e⟩ := s (by rw [RO_3 hO 23 (by decide)]; exact hi) hw
    rw [i49] at h49
    exact absurd h49 (by decide)
  · obtain ⟨-, s, -⟩ := hS
    obtain ⟨rfl, e⟩ := s (by rw [RO_3 hO 23 (by decide)]; exact hi) hw
    rw [i49] at h49
    exact ⟨RW_49, (Option.some.inj (is49 (by decide) hc 1 (by decide) h49)).symm⟩
theorem P_cp {t k n m : Nat} {w : Int32} (hg : gG g = none) (hn : zI σ0 33 23 = nI n) (n30 : n ≤ 30) (ht : t < n) (hm : zI σ0 52 t = nI m) (m8 : m ≤ 8) (hk : k < m) (hw : isWi w 0 5) (hK : Kp σ σ0) : CtH g mL_ofCoupon [.ref 2, .int (nI t), .int (nI k), .int w] σ (fun ω rv => rv = some (.int (cpV σ0 (8 * t + k) w)) ∧ Kp ω σ0) := by
  have ei : ix (nI t) = t := cl0 (by omega)
  have hi : isWi (nI t) 0 (zI σ0 33 23 - 1) ∧ isWi (nI k) 0 (zI σ0 52 (ix (nI t)) - 1) := by rw [hn, ei, hm]; exact ⟨wi_lt ht (by omega), wi_lt hk (by omega)⟩
  have e8 : ix (8 * nI t + nI k) = 8 * t + k := by rw [(cp_idx (by omega) (by omega)).1]; exact cl0 (by omega)
  refine ro_int hg hK (fun g' => R_ofCoupon (by decide) hK.1) (fun τ ω b hO hS h49 => ?_) (fun τ ω rv j c hO hc hS h49 => ?_)
  · obtain ⟨-, -, s⟩ := hS
    obtain ⟨rfl, e⟩ := s (by rw [RO_3 hO 23 (by decide), RO_f hO 52 (by decide) (by decide)]; exact hi) hw
    cases e
    refine ⟨RW_49, ?_⟩
    rw [cpV, e8, RO_f hO 55 (by decide) (by decide), RO_f hO 56 (by decide) (by decide), RO_f hO 57 (by decide) (by decide), RO_f hO 58 (by decide) (by decide), RO_f hO 59 (by decide) (by decide), RO_f hO 61 (by decide) (by decide)]
  · obtain ⟨-, -, s⟩ := hS
    obtain ⟨rfl, e⟩ := s (by rw [RO_3 hO 23 (by decide), RO_f hO 52 (by decide) (by decide)]; exact hi) hw
    rw [i49] at h49
    exact absurd h49 (no49 (by decide) hc)
/-- no such coupon -/
theorem P_cpO {t n m : Nat} (hg : gG g = none) (hn : zI σ0 33 23 = nI n) (n30 : n ≤ 30) (ht : t < n) (hm : zI σ0 52 t = nI m) (m8 : m ≤ 8) (hK : Kp σ σ0) : CtH g mL_ofCoupon [.ref 2, .int (nI t), .int (nI m), .int 0] σ (fun ω rv => rv = some (.int (-1000001)) ∧ Kp ω σ0) := by
  have ei : ix (nI t) = t := cl0 (by omega)
  have hi : ¬ (isWi (nI t) 0 (zI σ0 33 23 - 1) ∧ isWi (nI m) 0 (zI σ0 52 (ix (nI t)) - 1)) := by rw [hn, ei, hm]; exact fun q => wi_ge (Nat.le_refl m) (by omega) q.2
  refine ro_int hg hK (fun g' => R_ofCoupon (by decide) hK.1) (fun τ ω b hO hS h49 => ?_) (fun τ ω rv j c hO hc hS h49 => ?_)
  · obtain ⟨s, -, -⟩ := hS
    obtain ⟨rfl, e⟩ := s (by rw [RO_3 hO 23 (by decide), RO_f hO 52 (by decide) (by decide)]; exact hi)
    rw [i49] at h49
    exact absurd h49 (by decide)
  · obtain ⟨s, -, -⟩ := hS
    obtain ⟨rfl, e⟩ := s (by rw [RO_3 hO 23 (by decide), RO_f hO 52 (by decide) (by decide)]; exact hi)
    rw [i49] at h49
    exact ⟨RW_49, (Option.some.inj (is49 (by decide) hc 0 (by decide) h49)).symm⟩
theorem P_bl {b n : Nat} {w : Int32} (hg : gG g = none) (hn : zI σ0 33 36 = nI n) (n240 : n ≤ 240) (hb : b < n) (hw : isWi w 0 5) (hK : Kp σ σ0) : CtH g mL_ofBill [.ref 2, .int (nI b), .int w] σ (fun ω rv => rv = some (.int (blV σ0 b w)) ∧ Kp ω σ0) := by
  have hi : isWi (nI b) 0 (zI σ0 33 36 - 1) := by rw [hn]; exact wi_lt hb (by omega)
  have ei : ix (nI b) = b := cl0 (by omega)
  refine ro_int hg hK (fun g' => R_ofBill (by decide) hK.1) (fun τ ω b hO hS h49 => ?_) (fun τ ω rv j c hO hc hS h49 => ?_)
  · obtain ⟨-, -, s⟩ := hS
    obtain ⟨rfl, e⟩ := s (by rw [RO_3 hO 36 (by decide)]; exact hi) hw
    cases e
    refine ⟨RW_49, ?_⟩
    rw [blV, ei, RO_f hO 62 (by decide) (by decide), RO_f hO 63 (by decide) (by decide), RO_f hO 64 (by decide) (by decide), RO_f hO 65 (by decide) (by decide), RO_f hO 66 (by decide) (by decide), RO_f hO 67 (by decide) (by decide)]
  · obtain ⟨-, -, s⟩ := hS
    obtain ⟨rfl, e⟩ := s (by rw [RO_3 hO 36 (by decide)]; exact hi) hw
    rw [i49] at h49
    exact absurd h49 (no49 (by decide) hc)
/-- no such bill -/
theorem P_blO {n : Nat} (hg : gG g = none) (hn : zI σ0 33 36 = nI n) (n240 : n ≤ 240) (hK : Kp σ σ0) : CtH g mL_ofBill [.ref 2, .int (nI n), .int 0] σ (fun ω rv => rv = some (.int (-1000001)) ∧ Kp ω σ0) := by
  have hi : ¬ isWi (nI n) 0 (zI σ0 33 36 - 1) := by rw [hn]; exact wi_ge (Nat.le_refl n) (by omega)
  refine ro_int hg hK (fun g' => R_ofBill (by decide) hK.1) (fun τ ω b hO hS h49 => ?_) (fun τ ω rv j c hO hc hS h49 => ?_)
  · obtain ⟨s, -, -⟩ := hS
    obtain ⟨rfl, e⟩ := s (by rw [RO_3 hO 36 (by decide)]; exact hi)
    rw [i49] at h49
    exact absurd h49 (by decide)
  · obtain ⟨s, -, -⟩ := hS
    obtain ⟨rfl, e⟩ := s (by rw [RO_3 hO 36 (by decide)]; exact hi)
    rw [i49] at h49
    exact ⟨RW_49, (Option.some.inj (is49 (by decide) hc 0 (by decide) h49)).symm⟩
theorem dfS_RO {τ : AH} (hO : RO τ σ0) : ∀ d, dfS τ d = dfS σ0 d := dfS_ag (fun k => hO.1 68 k (by decide) (by decide) (by decide) (by omega))
theorem P_of {w : Int32} (hg : gG g = none) (hw : isWi w 0 5) (hK : Kp σ σ0) : CtH g mL_of [.ref 2, .int w] σ (fun ω rv => rv = some (.int (ofV σ0 w)) ∧ Kp ω σ0) := by
  refine ro_int hg hK (fun g' => R_of (by decide) hK.1) (fun τ ω b hO hS h49 => ?_) (fun τ ω rv j c hO hc hS h49 => ?_)
  · obtain ⟨-, s⟩ := hS
    obtain ⟨rfl, e⟩ := s hw
    cases e
    refine ⟨RW_49, ?_⟩
    rw [ofV, RO_3 hO 0 (by decide), RO_3 hO 16 (by decide), RO_3 hO 23 (by decide), RO_3 hO 36 (by decide), RO_3 hO 43 (by decide), dfS_ag (σ := τ) (fun k => by rw [zI_uI, if_neg (by omega)]), dfS_RO hO]
  · obtain ⟨-, s⟩ := hS
    obtain ⟨rfl, e⟩ := s hw
    rw [i49] at h49
    exact absurd h49 (no49 (by decide) hc)
theorem P_ofO (hg : gG g = none) (hK : Kp σ σ0) : CtH g mL_of [.ref 2, .int 6] σ (fun ω rv => rv = some (.int (-1000002)) ∧ Kp ω σ0) := by
  have hw : ¬ isWi (6 : Int32) 0 5 := by decide
  refine ro_int hg hK (fun g' => R_of (by decide) hK.1) (fun τ ω b hO hS h49 => ?_) (fun τ ω rv j c hO hc hS h49 => ?_)
  · obtain ⟨s, -⟩ := hS
    obtain ⟨rfl, e⟩ := s hw
    rw [i49] at h49
    exact absurd h49 (by decide)
  · obtain ⟨s, -⟩ := hS
    obtain ⟨rfl, e⟩ := s hw
    rw [i49] at h49
    exact ⟨RW_49, (Option.some.inj (is49 (by decide) hc 0 (by decide) h49)).symm⟩
theorem ca_lt {c : Nat} (hc : c < 5) : isCa (nI c) := vp_isCa (vp_in_nI hc (by decide))
theorem pl_lt {c : Nat} (hc : c < 10) : isPl (nI c) := isPl_m.mp (by rw [isWi_iff, nI_toInt (by omega)]; exact ⟨by rw [zero_toInt]; omega, by show (c : Int) ≤ 9; omega⟩)
theorem P_cash {c : Nat} (hg : gG g = none) (hc : c < 5) (hK : Kp σ σ0) : CtH g mL_cash [.ref 2, .int (nI c)] σ (fun ω rv => rv = some (.long (zJ σ0 70 c)) ∧ Kp ω σ0) := by
  refine ro_long hg hK (fun g' => R_cash (by decide) hK.1) (fun τ ω b hO hS h49 => ?_) (fun τ ω rv j z hO hz hS h49 => ?_)
  · obtain ⟨-, s⟩ := hS
    obtain ⟨rfl, e⟩ := s (ca_lt hc)
    cases e
    exact ⟨RW_49, by rw [RO_j hO 70 (by decide) (by decide), ix, cl0 (by omega)]⟩
  · obtain ⟨-, s⟩ := hS
    obtain ⟨rfl, e⟩ := s (ca_lt hc)
    rw [i49] at h49
    exact absurd h49 (no49l (by decide) hz)
theorem P_cashO (hg : gG g = none) (hK : Kp σ σ0) : CtH g mL_cash [.ref 2, .int 5] σ (fun ω rv => rv = some (.long (-1000001)) ∧ Kp ω σ0) := by
  have hw : ¬ isCa (5 : Int32) := by decide
  refine ro_long hg hK (fun g' => R_cash (by decide) hK.1) (fun τ ω b hO hS h49 => ?_) (fun τ ω rv j z hO hz hS h49 => ?_)
  · obtain ⟨s, -⟩ := hS
    obtain ⟨rfl, e⟩ := s hw
    rw [i49] at h49
    exact absurd h49 (by decide)
  · obtain ⟨s, -⟩ := hS
    obtain ⟨rfl, e⟩ := s hw
    rw [i49] at h49
    exact ⟨RW_49, (Option.some.inj (is49 (by decide) hz 0 (by decide) h49)).symm⟩
theorem P_cashAnew {c : Nat} (hg : gG g = none) (hc : c < 5) (hK : Kp σ σ0) : CtH g mL_cashAnew [.ref 2, .int (nI c)] σ (fun ω rv => rv = some (.long (zJ σ0 70 c)) ∧ Kp ω σ0) := by
  refine ro_long hg hK (fun g' => R_cashAnew (by decide) hK.1) (fun τ ω b hO hS h49 => ?_) (fun τ ω rv j z hO hz hS h49 => ?_)
  · obtain ⟨-, s⟩ := hS
    obtain ⟨rfl, e⟩ := s (ca_lt hc)
    cases e
    exact ⟨RW_49, by rw [RO_j hO 70 (by decide) (by decide), ix, cl0 (by omega)]⟩
  · obtain ⟨-, s⟩ := hS
    obtain ⟨rfl, e⟩ := s (ca_lt hc)
    rw [i49] at h49
    exact absurd h49 (no49l (by decide) hz)
theorem P_state {c : Nat} (hg : gG g = none) (hc : c < 10) (hK : Kp σ σ0) : CtH g mL_state [.ref 2, .int (nI c)] σ (fun ω rv => rv = some (.long (zJ σ0 71 c)) ∧ Kp ω σ0) := by
  refine ro_long hg hK (fun g' => R_state (by decide) hK.1) (fun τ ω b hO hS h49 => ?_) (fun τ ω rv j z hO hz hS h49 => ?_)
  · obtain ⟨-, s⟩ := hS
    obtain ⟨rfl, e⟩ := s (pl_lt hc)
    cases e
    exact ⟨RW_49, by rw [RO_j hO 71 (by decide) (by decide), ix, cl0 (by omega)]⟩
  · obtain ⟨-, s⟩ := hS
    obtain ⟨rfl, e⟩ := s (pl_lt hc)
    rw [i49] at h49
    exact absurd h49 (no49l (by decide) hz)
theorem P_stateO (hg : gG g = none) (hK : Kp σ σ0) : CtH g mL_state [.ref 2, .int 10] σ (fun ω rv => rv = some (.long (-1000001)) ∧ Kp ω σ0) := by
  have hw : ¬ isPl (10 : Int32) := by decide
  refine ro_long hg hK (fun g' => R_state (by decide) hK.1) (fun τ ω b hO hS h49 => ?_) (fun τ ω rv j z hO hz hS h49 => ?_)
  · obtain ⟨s, -⟩ := hS
    obtain ⟨rfl, e⟩ := s hw
    rw [i49] at h49
    exact absurd h49 (by decide)
  · obtain ⟨s, -⟩ := hS
    obtain ⟨rfl, e⟩ := s hw
    rw [i49] at h49
    exact ⟨RW_49, (Option.some.inj (is49 (by decide) hz 0 (by decide) h49)).symm⟩
theorem RO_E {τ : AH} (hO : RO τ σ0) {x : Int32} : EqP (uI τ 33 49 x) σ0 := EqP_33 ⟨RO_3 hO 0 (by decide), RO_3 hO 6 (by decide), RO_3 hO 14 (by decide), RO_3 hO 16 (by decide), fun a k h1 h2 => hO.1 a k (by omega) (by omega) (by omega) (by omega)⟩ (by decide)
theorem P_part {i j L : Nat} (hg : gG g = none) (hL : zI σ0 33 16 = nI L) (L8 : L ≤ 8) (hij : i < j) (hj : j ≤ L) (hK : Kp σ σ0) : CtH g mL_part [.ref 2, .int (nI i), .int (nI j)] σ (fun ω rv => rv = some (.int (partF σ0 i j)) ∧ Kp ω σ0) := by
  have hi : ¬ zI σ0 33 16 ≤ 0 ∧ isWi (nI i) 0 (zI σ0 33 16) ∧ isWi (nI j) 0 (zI σ0 33 16) := by
    rw [hL]
    refine ⟨nI_npos (by omega) (by omega), ?_, ?_⟩ <;> (rw [isWi_iff, nI_toInt (by omega), nI_toInt (by omega), zero_toInt]; omega)
  have hlt : ¬ nI j ≤ nI i := nI_ge hij (by omega)
  refine ro_int hg hK (fun g' => R_part (by decide) hK.1) (fun τ ω b hO hS h49 => ?_) (fun τ ω rv j c hO hc hS h49 => ?_)
  · obtain ⟨-, -, s⟩ := hS
    obtain ⟨rfl, e⟩ := s (by rw [RO_3 hO 16 (by decide)]; exact hi) hlt
    cases e
    exact ⟨RW_49, by rw [partF_eq (RO_E hO), ix, ix, cl0 (by omega), cl0 (by omega)]⟩
  · obtain ⟨-, -, s⟩ := hS
    obtain ⟨rfl, e⟩ := s (by rw [RO_3 hO 16 (by decide)]; exact hi) hlt
    rw [i49] at h49
    exact absurd h49 (no49 (by decide) hc)
theorem P_partO {L : Nat} (hg : gG g = none) (hL : zI σ0 33 16 = nI L) (L8 : L ≤ 8) (hK : Kp σ σ0) : CtH g mL_part [.ref 2, .int 0, .int (nI (L + 1))] σ (fun ω rv => rv = some (.int (-1000001)) ∧ Kp ω σ0) := by
  have hi : ¬ (¬ zI σ0 33 16 ≤ 0 ∧ isWi 0 0 (zI σ0 33 16) ∧ isWi (nI (L + 1)) 0 (zI σ0 33 16)) := by
    rw [hL]
    intro q
    have := isWi_iff.mp q.2.2
    rw [nI_toInt (by omega), nI_toInt (by omega)] at this
    omega
  refine ro_int hg hK (fun g' => R_part (by decide) hK.1) (fun τ ω b hO hS h49 => ?_) (fun τ ω rv j c hO hc hS h49 => ?_)
  · obtain ⟨s, -, -⟩ := hS
    obtain ⟨rfl, e⟩ := s (by rw [RO_3 hO 16 (by decide)]; exact hi)
    rw [i49] at h49
    exact absurd h49 (by decide)
  · obtain ⟨s, -, -⟩ := hS
    obtain ⟨rfl, e⟩ := s (by rw [RO_3 hO 16 (by decide)]; exact hi)
    rw [i49] at h49
    exact ⟨RW_49, (Option.some.inj (is49 (by decide) hc 0 (by decide) h49)).symm⟩
theorem P_price (hg : gG g = none) (hK : Kp σ σ0) : Ct g mX11_price [.ref 2] σ (fun ω rv => rv = some (.int (wayF σ0).1) ∧ Kp ω σ0) := by
  refine ro_n hg hK (fun g' => R_price (by decide) hK.1) (fun τ ω b hO hS => ?_)
  obtain ⟨rfl, e⟩ := hS
  cases e
  exact ⟨RW_hW, by rw [wayF_eq (RO_E hO)]⟩
theorem P_priceAnew (hg : gG g = none) (hK : Kp σ σ0) : Ct g mX11_priceAnew [.ref 2] σ (fun ω rv => rv = some (.int (wayF σ0).1) ∧ Kp ω σ0) := by
  refine ro_n hg hK (fun g' => R_priceAnew (by decide) hK.1) (fun τ ω b hO hS => ?_)
  obtain ⟨rfl, e⟩ := hS
  cases e
  exact ⟨RW_hW, by rw [wayF_eq (RO_E hO)]⟩
theorem P_cuts (hg : gG g = none) (hK : Kp σ σ0) : Ct g mX11_cuts [.ref 2] σ (fun ω rv => rv = some (.int (wayF σ0).2) ∧ Kp ω σ0) := by
  refine ro_n hg hK (fun g' => R_cuts (by decide) hK.1) (fun τ ω b hO hS => ?_)
  obtain ⟨rfl, e⟩ := hS
  cases e
  exact ⟨RW_hW, by rw [wayF_eq (RO_E hO)]⟩
theorem P_paid (hg : gG g = none) (hK : Kp σ σ0) : Ct g mX11_paid [.ref 2] σ (fun ω rv => rv = some (.long (zJ σ0 33 48)) ∧ Kp ω σ0) := by
  refine ro_nl hg hK (fun g' => R_paid (by decide) hK.1) (fun τ ω b hO hS => ?_)
  obtain ⟨rfl, e⟩ := hS
  cases e
  exact ⟨RW_49, by rw [RO_j hO 33 (by decide) (by decide)]⟩
end ASK
