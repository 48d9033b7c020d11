/-! ===== the reference: clear, fails ===== -/
def znH (σ : AH) (d : Nat) : AH := s2 σ (zI σ) (fun a c => if a = 69 ∧ c < d then 0 else zJ σ a c)
/-- which bills are settled -/
def clC (σ : AH) (b : Nat) : Prop := (zI σ 62 b = 0 ∨ zI σ 62 b = 2) ∧ zI σ 68 (ix (zI σ 64 b)) = 0 ∧ zI σ 68 (ix (zI σ 65 b)) = 0
noncomputable def dlS (C : Nat → Prop) (f : Nat → Nat → Int64) : Nat → Nat → Int64
  | 0, _ => 0
  | d + 1, c => dlS C f d c + @ite _ (C d) (Classical.propDecidable _) (f d c) 0
theorem dlS_y {C : Nat → Prop} {f : Nat → Nat → Int64} {d c : Nat} (h : C d) : dlS C f (d + 1) c = dlS C f d c + f d c := by rw [dlS, if_pos h]
theorem dlS_n {C : Nat → Prop} {f : Nat → Nat → Int64} {d c : Nat} (h : ¬ C d) : dlS C f (d + 1) c = dlS C f d c := by rw [dlS, if_neg h]; simp
/-- so many bills are done: those of C stand anew, by the settled number v, and money moved -/
noncomputable def blS (σ : AH) (C : Nat → Prop) (st : Nat → Int32) (v : Int32) (f : Nat → Nat → Int64) (d : Nat) : AH :=
  s2 σ (fun a j => @ite _ (a = 67 ∧ j < d ∧ C j) (Classical.propDecidable _) v (@ite _ (a = 62 ∧ j < d ∧ C j) (Classical.propDecidable _) (st j) (zI σ a j))) (fun a c => if a = 69 ∨ a = 70 then zJ σ a c + dlS C f d c else zJ σ a c)
theorem blS_I {σ : AH} {C : Nat → Prop} {st : Nat → Int32} {v : Int32} {f : Nat → Nat → Int64} {d a j : Nat} (h : ¬ ((a = 62 ∨ a = 67) ∧ j < d)) : zI (blS σ C st v f d) a j = zI σ a j := by
  rw [blS, zI_s2, if_neg (fun q => h ⟨Or.inr q.1, q.2.1⟩), if_neg (fun q => h ⟨Or.inl q.1, q.2.1⟩)]
theorem blS_0 {σ : AH} {C : Nat → Prop} {st : Nat → Int32} {v : Int32} {f : Nat → Nat → Int64} : blS σ C st v f 0 = σ := by
  refine Eq.trans ?_ (s2_self σ)
  refine s2_cg (fun a j => ?_) (fun a c => ?_)
  · rw [if_neg (by omega), if_neg (by omega)]
  · rw [dlS]; split <;> simp
theorem blS_n {σ : AH} {C : Nat → Prop} {st : Nat → Int32} {v : Int32} {f : Nat → Nat → Int64} {d : Nat} (h : ¬ C d) : blS σ C st v f (d + 1) = blS σ C st v f d := by
  refine s2_cg (fun a j => ?_) (fun a c => ?_)
  · have e : ∀ x, (a = x ∧ j < d + 1 ∧ C j) ↔ (a = x ∧ j < d ∧ C j) := fun x => ⟨fun q => ⟨q.1, by
      rcases Nat.lt_or_ge j d with h6 | h6
      · exact h6
      · exact absurd q.2.2 (by rw [show j = d by omega]; exact h), q.2.2⟩, fun q => ⟨q.1, by omega, q.2.2⟩⟩
    by_cases h1 : a = 67 ∧ j < d ∧ C j
    · rw [if_pos h1, if_pos ((e 67).mpr h1)]
    · rw [if_neg h1, if_neg (fun q => h1 ((e 67).mp q))]
      by_cases h2 : a = 62 ∧ j < d ∧ C j
      · rw [if_pos h2, if_pos ((e 62).mpr h2)]
      · rw [if_neg h2, if_neg (fun q => h2 ((e 62).mp q))]
  · rw [dlS_n h]
theorem blS_y {σ : AH} {C : Nat → Prop} {st : Nat → Int32} {v : Int32} {f : Nat → Nat → Int64} {d : Nat} (h : C d) :
    s2 (blS σ C st v f d) (fun a j => if a = 67 ∧ j = d then v else if a = 62 ∧ j = d then st d else zI (blS σ C st v f d) a j) (fun a c => if a = 69 ∨ a = 70 then zJ (blS σ C st v f d) a c + f d c else zJ (blS σ C st v f d) a c) = blS σ C st v f (d + 1) := by
  refine s2_cg (σ := σ) (fun a j => ?_) (fun a c => ?_)
  · by_cases h1 : a = 67 ∧ j = d
    · rw [if_pos h1, if_pos ⟨h1.1, by omega, by rw [h1.2]; exact h⟩]
    · rw [if_neg h1]
      by_cases h2 : a = 62 ∧ j = d
      · rw [if_pos h2, if_neg (by omega), if_pos ⟨h2.1, by omega, by rw [h2.2]; exact h⟩, h2.2]
      · rw [if_neg h2, blS, zI_s2]
        by_cases h3 : a = 67 ∧ j < d ∧ C j
        · rw [if_pos h3, if_pos ⟨h3.1, by omega, h3.2.2⟩]
        · rw [if_neg h3, if_neg (show ¬ (a = 67 ∧ j < d + 1 ∧ C j) from fun q => h3 ⟨q.1, by omega, q.2.2⟩)]
          by_cases h4 : a = 62 ∧ j < d ∧ C j
          · rw [if_pos h4, if_pos ⟨h4.1, by omega, h4.2.2⟩]
          · rw [if_neg h4, if_neg (fun q => h4 ⟨q.1, by omega, q.2.2⟩)]
  · rw [dlS_y h, blS, zJ_s2]
    split
    · grind
    · rfl
theorem Sh_blS {σ : AH} {C : Nat → Prop} {st : Nat → Int32} {v : Int32} {f : Nat → Nat → Int64} {d : Nat} (h : Sh σ) : Sh (blS σ C st v f d) := h
/-- what clears above zero, together -/
def scS (f : Nat → Int64) : Nat → Int64
  | 0 => 0
  | d + 1 => scS f d + (if lg_cmp (f d) 0 ≤ 0 then 0 else f d)
def clA (σ : AH) : AH := znH (uI (uI σ 33 49 0) 33 43 (zI σ 33 43 + 1)) 5
noncomputable def clE (σ : AH) : AH := blS (clA σ) (clC σ) (stS σ) (zI σ 33 43 + 1) (sdG σ) (ix (zI σ 33 36))
theorem clA_I {σ : AH} {a j : Nat} (h : ¬ (a = 33 ∧ (j = 43 ∨ j = 49))) : zI (clA σ) a j = zI σ a j := by
  rw [clA, znH, zI_s2, zI_uI, if_neg (by omega), zI_uI, if_neg (by omega)]
/-- clear -/
def S12_clear (σ ω : AH) (rv : Option Value) : Prop := ω = clE σ ∧ rv = some (.long (scS (fun c => zJ (clE σ) 69 c) 5))
theorem s_X12_clear {σ : AH} (hS : Sh σ) (hB : vp_in (zI σ 33 36) 241) (hR : ∀ b, b < ix (zI σ 33 36) → vp_in (zI σ 64 b) 5 ∧ vp_in (zI σ 65 b) 5) : Gh S12_clear σ (FQ (clE σ) (some (.long (scS (fun c => zJ (clE σ) 69 c) 5)))) := ⟨_, _, ⟨rfl, rfl⟩, rfl, rfl⟩