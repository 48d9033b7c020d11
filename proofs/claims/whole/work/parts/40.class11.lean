/-! ===== the class: findLeast ===== -/
theorem RT_tb {σ : AH} {T : Nat → Int32 × Int32} {p : Nat} {w : Int32 × Int32} (hS : Sh σ) (h : RT σ) : RT (sI σ (tbF σ T p w)) :=
  RT_ag (τ := sI σ (tbF σ T p w)) (σ := σ) (Gr_refl σ) (fun a k ha hf => by
    rw [zI_sI, tbF]
    have : a ≠ 23 ∧ a ≠ 24 ∧ a ≠ 25 := by
      unfold FT at hf; omega
    rw [if_neg (by omega), if_neg (by omega), if_neg (by omega), if_neg (by omega), if_neg (by omega)]) (fun _ => rfl) hS.1 h
theorem RJ_tb {σ : AH} {T : Nat → Int32 × Int32} {p : Nat} {w : Int32 × Int32} (h : RJ σ) : RJ (sI σ (tbF σ T p w)) := by
  have e : ∀ a k, a ≠ 23 → a ≠ 24 → a ≠ 25 → zI (sI σ (tbF σ T p w)) a k = zI σ a k := fun a k h1 h2 h3 => by
    rw [zI_sI, tbF, if_neg (by omega), if_neg (by omega), if_neg (by omega), if_neg (by omega), if_neg (by omega)]
  exact RJ_ag (e _ _ (by decide) (by decide) (by decide)) (e _ _ (by decide) (by decide) (by decide)) (fun a k h1 h2 => e _ _ (by omega) (by omega) (by omega)) (fun a k h1 h2 => e _ _ (by omega) (by omega) (by omega)) (fun k h1 => by rw [e _ _ (by decide) (by decide) (by decide)]; exact h1) h
