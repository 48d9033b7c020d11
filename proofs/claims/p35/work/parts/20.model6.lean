/-! ===== the reference: shares ===== -/
/-- a heap with its ints put anew -/
def sI (σ : AH) (F : Nat → Nat → Int32) : AH := (zN σ, zK σ, zL σ, F, zJ σ, zR σ)
theorem zI_sI (σ : AH) (F : Nat → Nat → Int32) (a k : Nat) : zI (sI σ F) a k = F a k := rfl
theorem uI_sI (σ : AH) (F : Nat → Nat → Int32) (a k : Nat) (x : Int32) : uI (sI σ F) a k x = sI σ (fun b j => if b = a ∧ j = k then x else F b j) := rfl
theorem sI_self (σ : AH) : sI σ (zI σ) = σ := rfl
theorem Sh_sI {σ : AH} {F : Nat → Nat → Int32} (h : Sh σ) : Sh (sI σ F) := h
theorem sI_cg {σ : AH} {F G : Nat → Nat → Int32} (h : ∀ a k, F a k = G a k) : sI σ F = sI σ G := by
  have : F = G := by funext a k; exact h a k
  rw [this]
theorem EqP_sI {σ : AH} {F : Nat → Nat → Int32} (h : ∀ a k, a < 50 → ¬ (a = 33 ∧ k ≠ 0 ∧ k ≠ 6 ∧ k ≠ 14 ∧ k ≠ 16) → F a k = zI σ a k) : EqP (sI σ F) σ :=
  ⟨h 33 0 (by decide) (by omega), h 33 6 (by decide) (by omega), h 33 14 (by decide) (by omega), h 33 16 (by decide) (by omega), fun a k h1 h2 => h a k (by omega) (by omega)⟩
theorem pvF_eq {τ σ : AH} (h : EqP τ σ) (k : Nat) : pvF τ k = pvF σ k := by
  rw [pvF, pvF, h.2.2.2.2 48 _ (by decide) (by decide), h.2.2.2.2 46 _ (by decide) (by decide), h.2.2.2.2 47 _ (by decide) (by decide), h.2.2.2.2 36 _ (by decide) (by decide)]
theorem wtF_eq {τ σ : AH} (h : EqP τ σ) (k : Nat) : wtF τ k = wtF σ k := by
  rw [wtF, wtF, mi_eq h, h.2.2.2.2 46 _ (by decide) (by decide), h.2.2.2.2 47 _ (by decide) (by decide), h.2.2.2.2 35 _ (by decide) (by decide)]
theorem CA_eq {τ σ : AH} (h : EqP τ σ) (hC : CA σ) : CA τ := fun k hk => by rw [h.2.2.2.2 48 _ (by decide) (by decide)]; exact hC k hk
/-- what a proviso takes of what is left, and what is left behind so many legs -/
def lfS (pv : Nat → Int32) (i : Nat) (c : Int32) : Nat → Int32
  | 0 => c
  | d + 1 => lfS pv i c d - (if pv (i + d) = -1 then 0 else if lfS pv i c d ≤ pv (i + d) then lfS pv i c d else pv (i + d))
def muS (pv : Nat → Int32) (i : Nat) (c : Int32) (d : Nat) : Int32 := if pv (i + d) = -1 then 0 else if lfS pv i c d ≤ pv (i + d) then lfS pv i c d else pv (i + d)
def alS (pv wt : Nat → Int32) (i : Nat) : Nat → Int32
  | 0 => 0
  | d + 1 => alS pv wt i d + (if pv (i + d) = -1 then wt (i + d) else 0)
def otS (pv : Nat → Int32) (i : Nat) : Nat → Int32
  | 0 => -1
  | d + 1 => if pv (i + d) = -1 then nI (i + d) else otS pv i d
/-- a share by weight -/
def qtS (wt : Nat → Int32) (lf al : Int32) (k : Nat) : Int32 := Int64.toInt32 (Int32.toInt64 lf * Int32.toInt64 (wt k) / Int32.toInt64 al)
def rsS (pv wt : Nat → Int32) (i : Nat) (lf al : Int32) : Nat → Int32
  | 0 => lf
  | d + 1 => rsS pv wt i lf al d - (if pv (i + d) = -1 then qtS wt lf al (i + d) else 0)
/-- the share of the leg i + d in a part of n legs from i on -/
def shS (pv wt : Nat → Int32) (i n : Nat) (c : Int32) (d : Nat) : Int32 :=
  if pv (i + d) = -1 then (if nI (i + d) = otS pv i n then qtS wt (lfS pv i c n) (alS pv wt i n) (i + d) + rsS pv wt i (lfS pv i c n) (alS pv wt i n) n else qtS wt (lfS pv i c n) (alS pv wt i n) (i + d)) else muS pv i c d
/-- what is no share -/
def unS (pv : Nat → Int32) (i n : Nat) (c : Int32) : Int32 := if otS pv i n = -1 then lfS pv i c n else 0
theorem otS_in {pv : Nat → Int32} {i : Nat} : ∀ d, otS pv i d = -1 ∨ ∃ k, i ≤ k ∧ k < i + d ∧ otS pv i d = nI k ∧ pv k = -1
  | 0 => Or.inl rfl
  | d + 1 => by
    rw [otS]
    split
    · exact Or.inr ⟨i + d, by omega, by omega, rfl, by assumption⟩
    · rcases otS_in (pv := pv) (i := i) d with h | ⟨k, h1, h2, h3, h4⟩
      · exact Or.inl h
      · exact Or.inr ⟨k, h1, by omega, h3, h4⟩
theorem otS_no {pv : Nat → Int32} {i : Nat} : ∀ d, i + d < 2 ^ 30 → (otS pv i d = -1 ↔ ∀ k, k < d → pv (i + k) ≠ -1)
  | 0, _ => ⟨fun _ k hk => absurd hk (Nat.not_lt_zero k), fun _ => rfl⟩
  | d + 1, hb => by
    rw [otS]
    split
    · rename_i h
      refine ⟨fun q => absurd q ?_, fun q => absurd h (q d (by omega))⟩
      intro q
      have h1 := congrArg Int32.toInt q
      rw [nI_toInt (by omega)] at h1
      change ((i + d : Nat) : Int) = -1 at h1
      omega
    · rename_i h
      rw [otS_no d (by omega)]
      refine ⟨fun q k hk => ?_, fun q k hk => q k (by omega)⟩
      rcases Nat.lt_or_ge k d with h6 | h6
      · exact q k h6
      · rw [show k = d by omega]; exact h
abbrev shR1 (σ : AH) (b : Nat) (n : Nat) (f : Nat → Int32) : AH := sI σ (fun a k => if a = 56 ∧ b ≤ k ∧ k < b + n then f (k - b) else zI σ a k)
theorem EqP_shR1 {σ : AH} {b n : Nat} {f : Nat → Int32} : EqP (shR1 σ b n f) σ := EqP_sI (fun a k h _ => by rw [if_neg (by omega)])