/-! ===== the reference: what is told ===== -/
theorem isPl_vp {x : Int32} (h : isPl x) : vp_in x 10 := by
  have h1 := Int32.le_iff_toInt_le.mp (Int32.not_lt.mp h.1)
  have h2 := Int32.lt_iff_toInt_lt.mp (Int32.not_le.mp h.2)
  rw [vp_in_iff]
  change (0 : Int) ≤ _ at h1
  change _ < (10 : Int) at h2
  omega
theorem isCa_vp {x : Int32} (h : isCa x) : vp_in x 5 := by
  have h1 := Int32.le_iff_toInt_le.mp (Int32.not_lt.mp h.1)
  have h2 := Int32.lt_iff_toInt_lt.mp (Int32.not_le.mp h.2)
  rw [vp_in_iff]
  change (0 : Int) ≤ _ at h1
  change _ < (5 : Int) at h2
  omega
theorem vp_mul3 {c a b : Int32} (hc : vp_in c 5) (ha : vp_in a 10) (hb : vp_in b 10) : vp_in (100 * c + 10 * a + b) 500 ∧ (100 * c + 10 * a + b).toNatClampNeg = (c.toNatClampNeg * 10 + a.toNatClampNeg) * 10 + b.toNatClampNeg ∧ (c * 10 + a) * 10 + b = 100 * c + 10 * a + b := by
  obtain ⟨k, hk, rfl⟩ := vp_in_of hc (by decide)
  obtain ⟨i, hi, rfl⟩ := vp_in_of ha (by decide)
  obtain ⟨j, hj, rfl⟩ := vp_in_of hb (by decide)
  have e : (100 : Int32) * nI k + 10 * nI i + nI j = nI ((k * 10 + i) * 10 + j) := by
    rw [show (10 : Int32) = nI 10 from rfl, show (100 : Int32) = nI 100 from rfl, pk_mul, pk_mul, nI_add, nI_add]; congr 1; omega
  have e2 : (nI k * 10 + nI i) * 10 + nI j = nI ((k * 10 + i) * 10 + j) := by
    rw [show (10 : Int32) = nI 10 from rfl, pk_mul, nI_add, pk_mul, nI_add]
  rw [e, e2, cl0 (by omega), cl0 (by omega), cl0 (by omega), cl0 (by omega)]
  exact ⟨vp_in_nI (by omega) (by decide), rfl, rfl⟩
abbrev ix (x : Int32) : Nat := Int32.toNatClampNeg x
abbrev p2 (a b : Int32) : Nat := ix (10 * a + b)
abbrev p3 (c a b : Int32) : Nat := ix (100 * c + 10 * a + b)
/-- miles: what the ghost rows become, and the answer -/
def S12_miles (v1 v2 v3 : Int32) (σ ω : AH) (rv : Option Value) : Prop := (¬ (isPl v1 ∧ isPl v2) → ω = uI σ 33 49 (1 : Int32) ∧ rv = (some (.int 0))) ∧ ((isPl v1 ∧ isPl v2) → ¬ (¬ v1 = v2 ∧ isWi v3 1 9999) → ω = uI σ 33 49 (2 : Int32) ∧ rv = (some (.int 0))) ∧ ((isPl v1 ∧ isPl v2) → (¬ v1 = v2 ∧ isWi v3 1 9999) → ω = uI (uI (uI σ 33 49 0) 34 (p2 v1 v2) v3) 34 (p2 v2 v1) v3 ∧ rv = (some (.int (zI σ 34 (p2 v1 v2)))))
theorem s_X12_miles {Q : AH → Option Value → Prop} {v1 v2 v3 : Int32} {σ : AH} (hS : Sh σ) 
    (q1 : ¬ (isPl v1 ∧ isPl v2) → Q (uI σ 33 49 (1 : Int32)) (some (.int 0)))
    (q2 : (isPl v1 ∧ isPl v2) → ¬ (¬ v1 = v2 ∧ isWi v3 1 9999) → Q (uI σ 33 49 (2 : Int32)) (some (.int 0)))
    (q0 : (isPl v1 ∧ isPl v2) → (¬ v1 = v2 ∧ isWi v3 1 9999) → Q (uI (uI (uI σ 33 49 0) 34 (p2 v1 v2) v3) 34 (p2 v2 v1) v3) (some (.int (zI σ 34 (p2 v1 v2))))) : Gh (S12_miles v1 v2 v3) σ Q := by
  by_cases a1 : isPl v1 ∧ isPl v2
  rotate_left
  · exact ⟨_, _, ⟨fun _ => ⟨rfl, rfl⟩, fun h _ => absurd h a1, fun h _ => absurd h a1⟩, q1 a1⟩
  by_cases a2 : ¬ v1 = v2 ∧ isWi v3 1 9999
  rotate_left
  · exact ⟨_, _, ⟨fun h => absurd a1 h, fun _ _ => ⟨rfl, rfl⟩, fun _ h => absurd h a2⟩, q2 a1 a2⟩
  exact ⟨_, _, ⟨fun h => absurd a1 h, fun _ h => absurd a2 h, fun _ _ => ⟨rfl, rfl⟩⟩, q0 a1 a2⟩
theorem isWi_vp {x n : Int32} {m : Nat} (hn : vp_in n (m + 1)) (hm : m < 2 ^ 30) (h : isWi x 0 (n - 1)) : vp_in x m := by
  obtain ⟨j, hj, rfl⟩ := vp_in_of hn (by omega)
  have h1 := Int32.le_iff_toInt_le.mp (Int32.not_lt.mp h.1)
  have h2 := Int32.le_iff_toInt_le.mp (Int32.not_lt.mp h.2)
  change (0 : Int) ≤ _ at h1
  rw [vp_in_iff]
  by_cases h0 : j = 0
  · subst h0
    change x.toInt ≤ (-1 : Int) at h2
    omega
  · obtain ⟨i, rfl⟩ : ∃ i, j = i + 1 := ⟨j - 1, by omega⟩
    rw [nI_pred, nI_toInt (by omega)] at h2
    omega
theorem vp_pr {x : Int32} (h : vp_in x 9) (h0 : ¬ x = 0) : vp_in (x - 1) 8 := (vp_nz h (by decide) h0).1
theorem vp_pl {x : Int32} {n : Nat} (h : vp_in x (n + 1)) (hn : n < 2 ^ 30) (h0 : ¬ nI n ≤ x) : vp_in x n := by
  obtain ⟨j, hj, rfl⟩ := vp_in_of h (by omega)
  rcases Nat.lt_or_ge j n with h1 | h1
  · exact vp_in_nI h1 (by omega)
  · exact absurd (nI_le h1 (by omega)) h0
theorem vp_pl40 {x : Int32} (h : vp_in x 41) (h0 : ¬ (40 : Int32) ≤ x) : vp_in x 40 := vp_pl (n := 40) h (by decide) h0
theorem vp_pl8 {x : Int32} (h : vp_in x 9) (h0 : ¬ (8 : Int32) ≤ x) : vp_in x 8 := vp_pl (n := 8) h (by decide) h0
theorem PO_go {σ : AH} {x : Int32} (h : PO σ) : PO (uI σ 33 49 x) := h
theorem vp_z8 {x : Int32} (h : x = 0) : vp_in x 8 := by rw [h]; exact vp_in_nI (n := 0) (N := 8) (by decide) (by decide)
theorem isWi_L {x : Int32} {n : Int32} {m : Nat} (hn : vp_in n (m + 1)) (hm : m < 2 ^ 30) (h : isWi x 0 n) : vp_in x (m + 1) := by
  rw [vp_in_iff] at hn ⊢
  have h1 := Int32.le_iff_toInt_le.mp (Int32.not_lt.mp h.1)
  have h2 := Int32.le_iff_toInt_le.mp (Int32.not_lt.mp h.2)
  change (0 : Int) ≤ _ at h1
  omega
theorem vp_sub {x : Int32} {n m : Nat} (h : vp_in x n) (hm : n ≤ m) : vp_in x m := by
  rw [vp_in_iff] at h ⊢; omega
abbrev faN (σ : AH) : Nat := ix (zI σ 33 6)
abbrev leN (σ : AH) : Nat := ix (zI σ 33 16)
/-- fare: what the ghost rows become, and the answer -/
def S12_fare (v1 v2 v3 v4 v5 v6 : Int32) (σ ω : AH) (rv : Option Value) : Prop := (¬ (isPl v1 ∧ isPl v2) → ω = uI σ 33 49 (1 : Int32) ∧ rv = (some (.int 0))) ∧ ((isPl v1 ∧ isPl v2) → ¬ (¬ v1 = v2 ∧ isWi v3 1 1000000 ∧ isWi v4 0 999 ∧ isWi v5 v4 999 ∧ isWi v6 0 7) → ω = uI σ 33 49 (2 : Int32) ∧ rv = (some (.int 0))) ∧ ((isPl v1 ∧ isPl v2) → (¬ v1 = v2 ∧ isWi v3 1 1000000 ∧ isWi v4 0 999 ∧ isWi v5 v4 999 ∧ isWi v6 0 7) → ¬ (¬ 40 ≤ zI σ 33 6) → ω = uI σ 33 49 (3 : Int32) ∧ rv = (some (.int 0))) ∧ ((isPl v1 ∧ isPl v2) → (¬ v1 = v2 ∧ isWi v3 1 1000000 ∧ isWi v4 0 999 ∧ isWi v5 v4 999 ∧ isWi v6 0 7) → (¬ 40 ≤ zI σ 33 6) → ω = uI (uI (uI (uI (uI (uI (uI (uI σ 33 49 0) 39 (faN σ) v1) 40 (faN σ) v2) 41 (faN σ) v3) 42 (faN σ) v4) 43 (faN σ) v5) 44 (faN σ) v6) 33 6 (zI σ 33 6 + 1) ∧ rv = (some (.int (zI σ 33 6 + 1 - 1))))
theorem s_X12_fare {Q : AH → Option Value → Prop} {v1 v2 v3 v4 v5 v6 : Int32} {σ : AH} (hS : Sh σ) (hF : vp_in (zI σ 33 6) 41)
    (q1 : ¬ (isPl v1 ∧ isPl v2) → Q (uI σ 33 49 (1 : Int32)) (some (.int 0)))
    (q2 : (isPl v1 ∧ isPl v2) → ¬ (¬ v1 = v2 ∧ isWi v3 1 1000000 ∧ isWi v4 0 999 ∧ isWi v5 v4 999 ∧ isWi v6 0 7) → Q (uI σ 33 49 (2 : Int32)) (some (.int 0)))
    (q3 : (isPl v1 ∧ isPl v2) → (¬ v1 = v2 ∧ isWi v3 1 1000000 ∧ isWi v4 0 999 ∧ isWi v5 v4 999 ∧ isWi v6 0 7) → ¬ (¬ 40 ≤ zI σ 33 6) → Q (uI σ 33 49 (3 : Int32)) (some (.int 0)))
    (q0 : (isPl v1 ∧ isPl v2) → (¬ v1 = v2 ∧ isWi v3 1 1000000 ∧ isWi v4 0 999 ∧ isWi v5 v4 999 ∧ isWi v6 0 7) → (¬ 40 ≤ zI σ 33 6) → Q (uI (uI (uI (uI (uI (uI (uI (uI σ 33 49 0) 39 (faN σ) v1) 40 (faN σ) v2) 41 (faN σ) v3) 42 (faN σ) v4) 43 (faN σ) v5) 44 (faN σ) v6) 33 6 (zI σ 33 6 + 1)) (some (.int (zI σ 33 6 + 1 - 1)))) : Gh (S12_fare v1 v2 v3 v4 v5 v6) σ Q := by
  by_cases a1 : isPl v1 ∧ isPl v2
  rotate_left
  · exact ⟨_, _, ⟨fun _ => ⟨rfl, rfl⟩, fun h _ => absurd h a1, fun h _ _ => absurd h a1, fun h _ _ => absurd h a1⟩, q1 a1⟩
  by_cases a2 : ¬ v1 = v2 ∧ isWi v3 1 1000000 ∧ isWi v4 0 999 ∧ isWi v5 v4 999 ∧ isWi v6 0 7
  rotate_left
  · exact ⟨_, _, ⟨fun h => absurd a1 h, fun _ _ => ⟨rfl, rfl⟩, fun _ h _ => absurd h a2, fun _ h _ => absurd h a2⟩, q2 a1 a2⟩
  by_cases a3 : ¬ 40 ≤ zI σ 33 6
  rotate_left
  · exact ⟨_, _, ⟨fun h => absurd a1 h, fun _ h => absurd a2 h, fun _ _ _ => ⟨rfl, rfl⟩, fun _ _ h => absurd h a3⟩, q3 a1 a2 a3⟩
  exact ⟨_, _, ⟨fun h => absurd a1 h, fun _ h => absurd a2 h, fun _ _ h => absurd a3 h, fun _ _ _ => ⟨rfl, rfl⟩⟩, q0 a1 a2 a3⟩
/-- withdraw: what the ghost rows become, and the answer -/
def S12_withdraw (v1 : Int32) (σ ω : AH) (rv : Option Value) : Prop := (¬ (isWi v1 0 (zI σ 33 6 - 1)) → ω = uI σ 33 49 (1 : Int32) ∧ rv = none) ∧ ((isWi v1 0 (zI σ 33 6 - 1)) → ¬ (zI σ 45 (ix v1) = 0) → ω = uI σ 33 49 (2 : Int32) ∧ rv = none) ∧ ((isWi v1 0 (zI σ 33 6 - 1)) → (zI σ 45 (ix v1) = 0) → ω = uI (uI σ 33 49 0) 45 (ix v1) 1 ∧ rv = none)
theorem s_X12_withdraw {Q : AH → Option Value → Prop} {v1 : Int32} {σ : AH} (hS : Sh σ) (hF : vp_in (zI σ 33 6) 41)
    (q1 : ¬ (isWi v1 0 (zI σ 33 6 - 1)) → Q (uI σ 33 49 (1 : Int32)) none)
    (q2 : (isWi v1 0 (zI σ 33 6 - 1)) → ¬ (zI σ 45 (ix v1) = 0) → Q (uI σ 33 49 (2 : Int32)) none)
    (q0 : (isWi v1 0 (zI σ 33 6 - 1)) → (zI σ 45 (ix v1) = 0) → Q (uI (uI σ 33 49 0) 45 (ix v1) 1) none) : Gh (S12_withdraw v1) σ Q := by
  by_cases a1 : isWi v1 0 (zI σ 33 6 - 1)
  rotate_left
  · exact ⟨_, _, ⟨fun _ => ⟨rfl, rfl⟩, fun h _ => absurd h a1, fun h _ => absurd h a1⟩, q1 a1⟩
  by_cases a2 : zI σ 45 (ix v1) = 0
  rotate_left
  · exact ⟨_, _, ⟨fun h => absurd a1 h, fun _ _ => ⟨rfl, rfl⟩, fun _ h => absurd h a2⟩, q2 a1 a2⟩
  exact ⟨_, _, ⟨fun h => absurd a1 h, fun _ h => absurd a2 h, fun _ _ => ⟨rfl, rfl⟩⟩, q0 a1 a2⟩
/-- unit: what the ghost rows become, and the answer -/
def S12_unit (v1 : Int32) (σ ω : AH) (rv : Option Value) : Prop := (¬ (isWi v1 1 1000) → ω = uI σ 33 49 (1 : Int32) ∧ rv = (some (.int 0))) ∧ ((isWi v1 1 1000) → ω = uI (uI σ 33 49 0) 33 14 v1 ∧ rv = (some (.int (zI σ 33 14))))
theorem s_X12_unit {Q : AH → Option Value → Prop} {v1 : Int32} {σ : AH} (hS : Sh σ) 
    (q1 : ¬ (isWi v1 1 1000) → Q (uI σ 33 49 (1 : Int32)) (some (.int 0)))
    (q0 : (isWi v1 1 1000) → Q (uI (uI σ 33 49 0) 33 14 v1) (some (.int (zI σ 33 14)))) : Gh (S12_unit v1) σ Q := by
  by_cases a1 : isWi v1 1 1000
  rotate_left
  · exact ⟨_, _, ⟨fun _ => ⟨rfl, rfl⟩, fun h => absurd h a1⟩, q1 a1⟩
  exact ⟨_, _, ⟨fun h => absurd a1 h, fun _ => ⟨rfl, rfl⟩⟩, q0 a1⟩
/-- tax: what the ghost rows become, and the answer -/
def S12_tax (v1 v2 v3 : Int32) (σ ω : AH) (rv : Option Value) : Prop := (¬ (isPl v1) → ω = uI σ 33 49 (1 : Int32) ∧ rv = none) ∧ ((isPl v1) → ¬ (isWi v2 0 10000 ∧ isWi v3 0 10000) → ω = uI σ 33 49 (2 : Int32) ∧ rv = none) ∧ ((isPl v1) → (isWi v2 0 10000 ∧ isWi v3 0 10000) → ω = uI (uI (uI σ 33 49 0) 37 (ix v1) v2) 38 (ix v1) v3 ∧ rv = none)
theorem s_X12_tax {Q : AH → Option Value → Prop} {v1 v2 v3 : Int32} {σ : AH} (hS : Sh σ) 
    (q1 : ¬ (isPl v1) → Q (uI σ 33 49 (1 : Int32)) none)
    (q2 : (isPl v1) → ¬ (isWi v2 0 10000 ∧ isWi v3 0 10000) → Q (uI σ 33 49 (2 : Int32)) none)
    (q0 : (isPl v1) → (isWi v2 0 10000 ∧ isWi v3 0 10000) → Q (uI (uI (uI σ 33 49 0) 37 (ix v1) v2) 38 (ix v1) v3) none) : Gh (S12_tax v1 v2 v3) σ Q := by
  by_cases a1 : isPl v1
  rotate_left
  · exact ⟨_, _, ⟨fun _ => ⟨rfl, rfl⟩, fun h _ => absurd h a1, fun h _ => absurd h a1⟩, q1 a1⟩
  by_cases a2 : isWi v2 0 10000 ∧ isWi v3 0 10000
  rotate_left
  · exact ⟨_, _, ⟨fun h => absurd a1 h, fun _ _ => ⟨rfl, rfl⟩, fun _ h => absurd h a2⟩, q2 a1 a2⟩
  exact ⟨_, _, ⟨fun h => absurd a1 h, fun _ h => absurd a2 h, fun _ _ => ⟨rfl, rfl⟩⟩, q0 a1 a2⟩
/-- weight: what the ghost rows become, and the answer -/
def S12_weight (v1 v2 v3 : Int32) (σ ω : AH) (rv : Option Value) : Prop := (¬ (isPl v1 ∧ isPl v2) → ω = uI σ 33 49 (1 : Int32) ∧ rv = (some (.int 0))) ∧ ((isPl v1 ∧ isPl v2) → ¬ (¬ v1 = v2 ∧ isWi v3 0 9999) → ω = uI σ 33 49 (2 : Int32) ∧ rv = (some (.int 0))) ∧ ((isPl v1 ∧ isPl v2) → (¬ v1 = v2 ∧ isWi v3 0 9999) → ω = uI (uI (uI σ 33 49 0) 35 (p2 v1 v2) v3) 35 (p2 v2 v1) v3 ∧ rv = (some (.int (zI σ 35 (p2 v1 v2)))))
theorem s_X12_weight {Q : AH → Option Value → Prop} {v1 v2 v3 : Int32} {σ : AH} (hS : Sh σ) 
    (q1 : ¬ (isPl v1 ∧ isPl v2) → Q (uI σ 33 49 (1 : Int32)) (some (.int 0)))
    (q2 : (isPl v1 ∧ isPl v2) → ¬ (¬ v1 = v2 ∧ isWi v3 0 9999) → Q (uI σ 33 49 (2 : Int32)) (some (.int 0)))
    (q0 : (isPl v1 ∧ isPl v2) → (¬ v1 = v2 ∧ isWi v3 0 9999) → Q (uI (uI (uI σ 33 49 0) 35 (p2 v1 v2) v3) 35 (p2 v2 v1) v3) (some (.int (zI σ 35 (p2 v1 v2))))) : Gh (S12_weight v1 v2 v3) σ Q := by
  by_cases a1 : isPl v1 ∧ isPl v2
  rotate_left
  · exact ⟨_, _, ⟨fun _ => ⟨rfl, rfl⟩, fun h _ => absurd h a1, fun h _ => absurd h a1⟩, q1 a1⟩
  by_cases a2 : ¬ v1 = v2 ∧ isWi v3 0 9999
  rotate_left
  · exact ⟨_, _, ⟨fun h => absurd a1 h, fun _ _ => ⟨rfl, rfl⟩, fun _ h => absurd h a2⟩, q2 a1 a2⟩
  exact ⟨_, _, ⟨fun h => absurd a1 h, fun _ h => absurd a2 h, fun _ _ => ⟨rfl, rfl⟩⟩, q0 a1 a2⟩
/-- proviso: what the ghost rows become, and the answer -/
def S12_proviso (v1 v2 v3 v4 : Int32) (σ ω : AH) (rv : Option Value) : Prop := (¬ (isCa v1 ∧ isPl v2 ∧ isPl v3) → ω = uI σ 33 49 (1 : Int32) ∧ rv = (some (.int 0))) ∧ ((isCa v1 ∧ isPl v2 ∧ isPl v3) → ¬ (¬ v2 = v3 ∧ isWi v4 (-1) 1000000) → ω = uI σ 33 49 (2 : Int32) ∧ rv = (some (.int 0))) ∧ ((isCa v1 ∧ isPl v2 ∧ isPl v3) → (¬ v2 = v3 ∧ isWi v4 (-1) 1000000) → ω = uI (uI σ 33 49 0) 36 (p3 v1 v2 v3) (v4 + 1) ∧ rv = (some (.int (zI σ 36 (p3 v1 v2 v3) - 1))))
theorem s_X12_proviso {Q : AH → Option Value → Prop} {v1 v2 v3 v4 : Int32} {σ : AH} (hS : Sh σ) 
    (q1 : ¬ (isCa v1 ∧ isPl v2 ∧ isPl v3) → Q (uI σ 33 49 (1 : Int32)) (some (.int 0)))
    (q2 : (isCa v1 ∧ isPl v2 ∧ isPl v3) → ¬ (¬ v2 = v3 ∧ isWi v4 (-1) 1000000) → Q (uI σ 33 49 (2 : Int32)) (some (.int 0)))
    (q0 : (isCa v1 ∧ isPl v2 ∧ isPl v3) → (¬ v2 = v3 ∧ isWi v4 (-1) 1000000) → Q (uI (uI σ 33 49 0) 36 (p3 v1 v2 v3) (v4 + 1)) (some (.int (zI σ 36 (p3 v1 v2 v3) - 1)))) : Gh (S12_proviso v1 v2 v3 v4) σ Q := by
  by_cases a1 : isCa v1 ∧ isPl v2 ∧ isPl v3
  rotate_left
  · exact ⟨_, _, ⟨fun _ => ⟨rfl, rfl⟩, fun h _ => absurd h a1, fun h _ => absurd h a1⟩, q1 a1⟩
  by_cases a2 : ¬ v2 = v3 ∧ isWi v4 (-1) 1000000
  rotate_left
  · exact ⟨_, _, ⟨fun h => absurd a1 h, fun _ _ => ⟨rfl, rfl⟩, fun _ h => absurd h a2⟩, q2 a1 a2⟩
  exact ⟨_, _, ⟨fun h => absurd a1 h, fun _ h => absurd a2 h, fun _ _ => ⟨rfl, rfl⟩⟩, q0 a1 a2⟩
/-- penalty: what the ghost rows become, and the answer -/
def S12_penalty (v1 : Int32) (σ ω : AH) (rv : Option Value) : Prop := (¬ (isWi v1 0 100) → ω = uI σ 33 49 (1 : Int32) ∧ rv = (some (.int 0))) ∧ ((isWi v1 0 100) → ω = uI (uI σ 33 49 0) 33 15 v1 ∧ rv = (some (.int (zI σ 33 15))))
theorem s_X12_penalty {Q : AH → Option Value → Prop} {v1 : Int32} {σ : AH} (hS : Sh σ) 
    (q1 : ¬ (isWi v1 0 100) → Q (uI σ 33 49 (1 : Int32)) (some (.int 0)))
    (q0 : (isWi v1 0 100) → Q (uI (uI σ 33 49 0) 33 15 v1) (some (.int (zI σ 33 15)))) : Gh (S12_penalty v1) σ Q := by
  by_cases a1 : isWi v1 0 100
  rotate_left
  · exact ⟨_, _, ⟨fun _ => ⟨rfl, rfl⟩, fun h => absurd h a1⟩, q1 a1⟩
  exact ⟨_, _, ⟨fun h => absurd a1 h, fun _ => ⟨rfl, rfl⟩⟩, q0 a1⟩
/-- part: what the ghost rows become, and the answer -/
def S12_part (v1 v2 : Int32) (σ ω : AH) (rv : Option Value) : Prop := (¬ (¬ zI σ 33 16 ≤ 0 ∧ isWi v1 0 (zI σ 33 16) ∧ isWi v2 0 (zI σ 33 16)) → ω = uI σ 33 49 (1 : Int32) ∧ rv = (some (.int 0))) ∧ ((¬ zI σ 33 16 ≤ 0 ∧ isWi v1 0 (zI σ 33 16) ∧ isWi v2 0 (zI σ 33 16)) → ¬ (¬ v2 ≤ v1) → ω = uI σ 33 49 (2 : Int32) ∧ rv = (some (.int 0))) ∧ ((¬ zI σ 33 16 ≤ 0 ∧ isWi v1 0 (zI σ 33 16) ∧ isWi v2 0 (zI σ 33 16)) → (¬ v2 ≤ v1) → ω = uI σ 33 49 0 ∧ rv = (some (.int (partF (uI σ 33 49 0) (ix v1) (ix v2)))))
theorem s_X12_part {Q : AH → Option Value → Prop} {v1 v2 : Int32} {σ : AH} (hS : Sh σ) (hP : PO σ) (hL : vp_in (zI σ 33 16) 9)
    (q1 : ¬ (¬ zI σ 33 16 ≤ 0 ∧ isWi v1 0 (zI σ 33 16) ∧ isWi v2 0 (zI σ 33 16)) → Q (uI σ 33 49 (1 : Int32)) (some (.int 0)))
    (q2 : (¬ zI σ 33 16 ≤ 0 ∧ isWi v1 0 (zI σ 33 16) ∧ isWi v2 0 (zI σ 33 16)) → ¬ (¬ v2 ≤ v1) → Q (uI σ 33 49 (2 : Int32)) (some (.int 0)))
    (q0 : (¬ zI σ 33 16 ≤ 0 ∧ isWi v1 0 (zI σ 33 16) ∧ isWi v2 0 (zI σ 33 16)) → (¬ v2 ≤ v1) → Q (uI σ 33 49 0) (some (.int (partF (uI σ 33 49 0) (ix v1) (ix v2))))) : Gh (S12_part v1 v2) σ Q := by
  by_cases a1 : ¬ zI σ 33 16 ≤ 0 ∧ isWi v1 0 (zI σ 33 16) ∧ isWi v2 0 (zI σ 33 16)
  rotate_left
  · exact ⟨_, _, ⟨fun _ => ⟨rfl, rfl⟩, fun h _ => absurd h a1, fun h _ => absurd h a1⟩, q1 a1⟩
  by_cases a2 : ¬ v2 ≤ v1
  rotate_left
  · exact ⟨_, _, ⟨fun h => absurd a1 h, fun _ _ => ⟨rfl, rfl⟩, fun _ h => absurd h a2⟩, q2 a1 a2⟩
  exact ⟨_, _, ⟨fun h => absurd a1 h, fun _ h => absurd a2 h, fun _ _ => ⟨rfl, rfl⟩⟩, q0 a1 a2⟩
/-- wipe -/
def S12_wipe (σ ω : AH) (rv : Option Value) : Prop := ω = uI (uI σ 33 49 0) 33 16 0 ∧ rv = some (.int (zI σ 33 16))
theorem s_X12_wipe {σ : AH} (hS : Sh σ)  : Gh S12_wipe σ (FQ (uI (uI σ 33 49 0) 33 16 0) (some (.int (zI σ 33 16)))) := ⟨_, _, ⟨rfl, rfl⟩, rfl, rfl⟩
/-- price -/
def S12_price (σ ω : AH) (rv : Option Value) : Prop := ω = hW (uI σ 33 49 0) (wayF (uI σ 33 49 0)) ∧ rv = some (.int (wayF (uI σ 33 49 0)).1)
theorem s_X12_price {σ : AH} (hS : Sh σ) (hP : PO σ) (hL : vp_in (zI σ 33 16) 9) : Gh S12_price σ (FQ (hW (uI σ 33 49 0) (wayF (uI σ 33 49 0))) (some (.int (wayF (uI σ 33 49 0)).1))) := ⟨_, _, ⟨rfl, rfl⟩, rfl, rfl⟩
/-- priceAnew -/
def S12_priceAnew (σ ω : AH) (rv : Option Value) : Prop := ω = hW (uI σ 33 49 0) (wayF (uI σ 33 49 0)) ∧ rv = some (.int (wayF (uI σ 33 49 0)).1)
theorem s_X12_priceAnew {σ : AH} (hS : Sh σ) (hP : PO σ) (hL : vp_in (zI σ 33 16) 9) : Gh S12_priceAnew σ (FQ (hW (uI σ 33 49 0) (wayF (uI σ 33 49 0))) (some (.int (wayF (uI σ 33 49 0)).1))) := ⟨_, _, ⟨rfl, rfl⟩, rfl, rfl⟩
/-- cuts -/
def S12_cuts (σ ω : AH) (rv : Option Value) : Prop := ω = hW (uI σ 33 49 0) (wayF (uI σ 33 49 0)) ∧ rv = some (.int (wayF (uI σ 33 49 0)).2)
theorem s_X12_cuts {σ : AH} (hS : Sh σ) (hP : PO σ) (hL : vp_in (zI σ 33 16) 9) : Gh S12_cuts σ (FQ (hW (uI σ 33 49 0) (wayF (uI σ 33 49 0))) (some (.int (wayF (uI σ 33 49 0)).2))) := ⟨_, _, ⟨rfl, rfl⟩, rfl, rfl⟩
/-- a leg's carrier -/
def CA (σ : AH) : Prop := ∀ k, k < 8 → vp_in (zI σ 48 k) 5
/-- a leg's weight -/
def wtF (σ : AH) (k : Nat) : Int32 := if zI σ 35 (p2 (zI σ 46 k) (zI σ 47 k)) ≤ 0 then mi σ (zI σ 46 k) (zI σ 47 k) else zI σ 35 (p2 (zI σ 46 k) (zI σ 47 k))
/-- a leg's proviso -/
def pvF (σ : AH) (k : Nat) : Int32 := zI σ 36 (p3 (zI σ 48 k) (zI σ 46 k) (zI σ 47 k)) - 1