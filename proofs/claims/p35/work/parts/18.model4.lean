/-! ===== the reference: a leg ===== -/
/-- leg: what the ghost rows become, and the answer -/
def S12_leg (v1 v2 v3 v4 : Int32) (σ ω : AH) (rv : Option Value) : Prop := (¬ (isPl v1 ∧ isPl v2 ∧ isCa v3) → ω = uI σ 33 49 (1 : Int32) ∧ rv = (some (.int 0))) ∧ ((isPl v1 ∧ isPl v2 ∧ isCa v3) → ¬ (¬ v1 = v2 ∧ isWi v4 (zI σ 33 0) 999) → ω = uI σ 33 49 (2 : Int32) ∧ rv = (some (.int 0))) ∧ ((isPl v1 ∧ isPl v2 ∧ isCa v3) → (¬ v1 = v2 ∧ isWi v4 (zI σ 33 0) 999) → ¬ ((zI σ 33 16 = 0 ∨ (¬ 8 ≤ zI σ 33 16 ∧ zI σ 47 (ix (zI σ 33 16 - 1)) = v1 ∧ ¬ v4 < zI σ 49 (ix (zI σ 33 16 - 1)))) ∧ ¬ zI σ 34 (p2 v1 v2) ≤ 0) → ω = uI σ 33 49 (3 : Int32) ∧ rv = (some (.int 0))) ∧ ((isPl v1 ∧ isPl v2 ∧ isCa v3) → (¬ v1 = v2 ∧ isWi v4 (zI σ 33 0) 999) → ((zI σ 33 16 = 0 ∨ (¬ 8 ≤ zI σ 33 16 ∧ zI σ 47 (ix (zI σ 33 16 - 1)) = v1 ∧ ¬ v4 < zI σ 49 (ix (zI σ 33 16 - 1)))) ∧ ¬ zI σ 34 (p2 v1 v2) ≤ 0) → ω = uI (uI (uI (uI (uI (uI σ 33 49 0) 46 (leN σ) v1) 47 (leN σ) v2) 48 (leN σ) v3) 49 (leN σ) v4) 33 16 (zI σ 33 16 + 1) ∧ rv = (some (.int (zI σ 33 16 + 1))))
theorem s_X12_leg {Q : AH → Option Value → Prop} {v1 v2 v3 v4 : Int32} {σ : AH} (hS : Sh σ) (hL : vp_in (zI σ 33 16) 9)
    (q1 : ¬ (isPl v1 ∧ isPl v2 ∧ isCa v3) → Q (uI σ 33 49 (1 : Int32)) (some (.int 0)))
    (q2 : (isPl v1 ∧ isPl v2 ∧ isCa v3) → ¬ (¬ v1 = v2 ∧ isWi v4 (zI σ 33 0) 999) → Q (uI σ 33 49 (2 : Int32)) (some (.int 0)))
    (q3 : (isPl v1 ∧ isPl v2 ∧ isCa v3) → (¬ v1 = v2 ∧ isWi v4 (zI σ 33 0) 999) → ¬ ((zI σ 33 16 = 0 ∨ (¬ 8 ≤ zI σ 33 16 ∧ zI σ 47 (ix (zI σ 33 16 - 1)) = v1 ∧ ¬ v4 < zI σ 49 (ix (zI σ 33 16 - 1)))) ∧ ¬ zI σ 34 (p2 v1 v2) ≤ 0) → Q (uI σ 33 49 (3 : Int32)) (some (.int 0)))
    (q0 : (isPl v1 ∧ isPl v2 ∧ isCa v3) → (¬ v1 = v2 ∧ isWi v4 (zI σ 33 0) 999) → ((zI σ 33 16 = 0 ∨ (¬ 8 ≤ zI σ 33 16 ∧ zI σ 47 (ix (zI σ 33 16 - 1)) = v1 ∧ ¬ v4 < zI σ 49 (ix (zI σ 33 16 - 1)))) ∧ ¬ zI σ 34 (p2 v1 v2) ≤ 0) → Q (uI (uI (uI (uI (uI (uI σ 33 49 0) 46 (leN σ) v1) 47 (leN σ) v2) 48 (leN σ) v3) 49 (leN σ) v4) 33 16 (zI σ 33 16 + 1)) (some (.int (zI σ 33 16 + 1)))) : Gh (S12_leg v1 v2 v3 v4) σ Q := by
  by_cases a1 : isPl v1 ∧ isPl v2 ∧ isCa v3
  rotate_left
  · exact ⟨_, _, ⟨fun _ => ⟨rfl, rfl⟩, fun h _ => absurd h a1, fun h _ _ => absurd h a1, fun h _ _ => absurd h a1⟩, q1 a1⟩
  by_cases a2 : ¬ v1 = v2 ∧ isWi v4 (zI σ 33 0) 999
  rotate_left
  · exact ⟨_, _, ⟨fun h => absurd a1 h, fun _ _ => ⟨rfl, rfl⟩, fun _ h _ => absurd h a2, fun _ h _ => absurd h a2⟩, q2 a1 a2⟩
  by_cases a3 : (zI σ 33 16 = 0 ∨ (¬ 8 ≤ zI σ 33 16 ∧ zI σ 47 (ix (zI σ 33 16 - 1)) = v1 ∧ ¬ v4 < zI σ 49 (ix (zI σ 33 16 - 1)))) ∧ ¬ zI σ 34 (p2 v1 v2) ≤ 0
  rotate_left
  · exact ⟨_, _, ⟨fun h => absurd a1 h, fun _ h => absurd a2 h, fun _ _ _ => ⟨rfl, rfl⟩, fun _ _ h => absurd h a3⟩, q3 a1 a2 a3⟩
  exact ⟨_, _, ⟨fun h => absurd a1 h, fun _ h => absurd a2 h, fun _ _ h => absurd a3 h, fun _ _ _ => ⟨rfl, rfl⟩⟩, q0 a1 a2 a3⟩