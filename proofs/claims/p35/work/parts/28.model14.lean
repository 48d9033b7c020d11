/-! ===== the reference: cash ===== -/
/-- cashAnew -/
def S12_cashAnew (v1 : Int32) (σ ω : AH) (rv : Option Value) : Prop := (¬ isCa v1 → ω = uI σ 33 49 (1 : Int32) ∧ rv = some (.long 0)) ∧ (isCa v1 → ω = uI σ 33 49 0 ∧ rv = some (.long (zJ σ 70 (ix v1))))
theorem s_X12_cashAnew {Q : AH → Option Value → Prop} {v1 : Int32} {σ : AH} (hS : Sh σ)
    (q1 : ¬ isCa v1 → Q (uI σ 33 49 (1 : Int32)) (some (.long 0))) (q0 : isCa v1 → Q (uI σ 33 49 0) (some (.long (zJ σ 70 (ix v1))))) :
    Gh (S12_cashAnew v1) σ Q := by
  by_cases a1 : isCa v1
  · exact ⟨_, _, ⟨fun h => absurd a1 h, fun _ => ⟨rfl, rfl⟩⟩, q0 a1⟩
  · exact ⟨_, _, ⟨fun _ => ⟨rfl, rfl⟩, fun h => absurd h a1⟩, q1 a1⟩