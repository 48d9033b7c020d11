/-! ===== the reference: a carrier fails ===== -/
/-- which bills are undone -/
def ufC (σ : AH) (x : Int32) (b : Nat) : Prop := (zI σ 64 b = x ∨ zI σ 65 b = x) ∧ zI σ 67 b = zI σ 33 43 ∧ ¬ zI σ 33 43 ≤ 0 ∧ ¬ zI σ 62 b = 0 ∧ ¬ zI σ 62 b = 2
noncomputable def ctS (C : Nat → Prop) : Nat → Int32
  | 0 => 0
  | d + 1 => ctS C d + @ite _ (C d) (Classical.propDecidable _) 1 0
theorem ctS_y {C : Nat → Prop} {d : Nat} (h : C d) : ctS C (d + 1) = ctS C d + 1 := by rw [ctS, if_pos h]
theorem ctS_n {C : Nat → Prop} {d : Nat} (h : ¬ C d) : ctS C (d + 1) = ctS C d := by rw [ctS, if_neg h]; simp
noncomputable def faH (σ : AH) (x : Int32) : AH := blS (uI σ 33 49 0) (ufC σ x) (udS σ) 0 (udG σ) (ix (zI σ 33 36))
/-- fails -/
def S12_fails (x b : Int32) (σ ω : AH) (rv : Option Value) : Prop := (¬ isCa x → ω = uI σ 33 49 (1 : Int32) ∧ rv = some (.int 0)) ∧ (isCa x → (b = 0 ∨ ¬ zI σ 68 (ix x) = 0) → ω = uI (uI σ 33 49 0) 68 (ix x) b ∧ rv = some (.int 0)) ∧ (isCa x → ¬ (b = 0 ∨ ¬ zI σ 68 (ix x) = 0) → ω = uI (faH σ x) 68 (ix x) b ∧ rv = some (.int (ctS (ufC σ x) (ix (zI σ 33 36)))))
theorem s_X12_fails {Q : AH → Option Value → Prop} {σ : AH} {x b : Int32} (hS : Sh σ) (hb : b = 0 ∨ b = 1) (hB : vp_in (zI σ 33 36) 241) (hR : ∀ k, k < ix (zI σ 33 36) → vp_in (zI σ 64 k) 5 ∧ vp_in (zI σ 65 k) 5)
    (q1 : ¬ isCa x → Q (uI σ 33 49 (1 : Int32)) (some (.int 0)))
    (q2 : isCa x → (b = 0 ∨ ¬ zI σ 68 (ix x) = 0) → Q (uI (uI σ 33 49 0) 68 (ix x) b) (some (.int 0)))
    (q0 : isCa x → ¬ b = 0 → zI σ 68 (ix x) = 0 → Q (uI (faH σ x) 68 (ix x) b) (some (.int (ctS (ufC σ x) (ix (zI σ 33 36)))))) :
    Gh (S12_fails x b) σ Q := by
  by_cases a1 : isCa x
  · by_cases a2 : b = 0 ∨ ¬ zI σ 68 (ix x) = 0
    · exact ⟨_, _, ⟨fun h => absurd a1 h, fun _ _ => ⟨rfl, rfl⟩, fun _ h => absurd a2 h⟩, q2 a1 a2⟩
    · exact ⟨_, _, ⟨fun h => absurd a1 h, fun _ h => absurd h a2, fun _ _ => ⟨rfl, rfl⟩⟩, q0 a1 (fun h => a2 (Or.inl h)) (Classical.not_not.mp (fun h => a2 (Or.inr h)))⟩
  · exact ⟨_, _, ⟨fun _ => ⟨rfl, rfl⟩, fun h => absurd h a1, fun h => absurd h a1⟩, q1 a1⟩