/-! ===== one call: what it may change ===== -/
/-- no new rows; ints changed nowhere but where E says, longs nowhere -/
def QX (E : Nat → Nat → Prop) (τ σ : AH) : Prop := zN τ = zN σ ∧ zK τ = zK σ ∧ zL τ = zL σ ∧ zR τ = zR σ ∧ (∀ a j, ¬ QU a j → ¬ E a j → zI τ a j = zI σ a j) ∧ ∀ a j, a ≠ 29 → a ≠ 69 → a ≠ 72 → zJ τ a j = zJ σ a j
section QX
variable {E : Nat → Nat → Prop} {τ σ : AH}
theorem QX_refl : QX E σ σ := ⟨rfl, rfl, rfl, rfl, fun _ _ _ _ => rfl, fun _ _ _ _ _ => rfl⟩
theorem QX_uI {a k : Nat} {x : Int32} (h : QX E τ σ) (hE : QU a k ∨ E a k) : QX E (uI τ a k x) σ := ⟨h.1, h.2.1, h.2.2.1, h.2.2.2.1, fun b j hq he => by
  rw [zI_uI, if_neg]
  · exact h.2.2.2.2.1 b j hq he
  · rintro ⟨rfl, rfl⟩
    exact hE.elim hq he, h.2.2.2.2.2⟩
theorem QX_49 {x : Int32} (h : QX E τ σ) : QX E (uI τ 33 49 x) σ := QX_uI h (Or.inl (Or.inr ⟨rfl, by decide⟩))
theorem QX_72 {k : Nat} {x : Int64} (h : QX E τ σ) : QX E (uJ τ 72 k x) σ := ⟨h.1, h.2.1, h.2.2.1, h.2.2.2.1, h.2.2.2.2.1, fun b j h1 h2 h3 => by
  rw [zJ_uJ, if_neg (fun q => h3 q.1)]; exact h.2.2.2.2.2 b j h1 h2 h3⟩
theorem QX_Q4 {ρ : AH} (h : Q4 ρ τ) (h' : QX E τ σ) : QX E ρ σ := ⟨h.1.trans h'.1, h.2.1.trans h'.2.1, h.2.2.1.trans h'.2.2.1, h.2.2.2.1.trans h'.2.2.2.1, fun a j q1 q2 => (h.2.2.2.2.1 a j q1).trans (h'.2.2.2.2.1 a j q1 q2), fun a j x y z => (h.2.2.2.2.2 a j x y z).trans (h'.2.2.2.2.2 a j x y z)⟩
theorem QX_Gr (h : QX E τ σ) : Gr τ σ := ⟨by rw [h.1]; exact Nat.le_refl _, fun a _ => ⟨by rw [h.2.1], by rw [h.2.2.1]⟩⟩
theorem QX_Sh (h : QX E τ σ) (hS : Sh σ) : Sh τ := ⟨by rw [h.1]; exact hS.1, fun a h1 h2 => by rw [h.2.1, h.2.2.1]; exact hS.2.1 a h1 h2, fun q hq => by rw [h.2.2.2.1]; exact hS.2.2.1 q hq, by rw [h.2.1]; exact hS.2.2.2⟩
theorem QX_RT (h : QX E τ σ) (hE : ∀ a k, FT σ a k → ¬ E a k) (hS : Sh σ) (hT : RT σ) : RT τ := RT_ag (QX_Gr h) (fun a k _ hf => h.2.2.2.2.1 a k (by unfold FT at hf; unfold QU; omega) (hE a k hf)) (fun k => by rw [h.2.2.2.1]) hS.1 hT
theorem QX_RJ (h : QX E τ σ) (hE : ∀ a k, (a = 33 ∧ k = 16) ∨ (a = 13 ∧ k = 1) ∨ (15 ≤ a ∧ a ≤ 22) ∨ (46 ≤ a ∧ a ≤ 49) ∨ a = 34 → ¬ E a k) (hJ : RJ σ) : RJ τ :=
  RJ_ag (h.2.2.2.2.1 _ _ (by unfold QU; omega) (hE _ _ (by omega))) (h.2.2.2.2.1 _ _ (by unfold QU; omega) (hE _ _ (by omega))) (fun a k _ _ => h.2.2.2.2.1 _ _ (by unfold QU; omega) (hE _ _ (by omega))) (fun a k _ _ => h.2.2.2.2.1 _ _ (by unfold QU; omega) (hE _ _ (by omega))) (fun k q => by rw [h.2.2.2.2.1 34 k (by unfold QU; omega) (hE _ _ (by omega))]; exact q) hJ
theorem QX_RP (h : QX E τ σ) (hE : ∀ a k, a = 11 ∨ a = 12 ∨ a = 35 ∨ a = 36 → ¬ E a k) (hP : RP σ) : RP τ := RP_ag (fun a k q => h.2.2.2.2.1 _ _ (by unfold QU; omega) (hE _ _ q)) hP
theorem QX_RK (h : QX E τ σ) (hE : ∀ a k, FK σ a k → ¬ E a k) (hS : Sh σ) (hK : RK σ) : RK τ := RK_ag (QX_Gr h) (fun a k _ hf => h.2.2.2.2.1 _ _ (by unfold FK at hf; unfold QU; omega) (hE _ _ hf)) (fun t => by rw [h.2.2.2.1]) (fun a k _ _ _ => by rw [h.2.2.2.1]) hS.1 hK
theorem QX_RB {i : Nat} (h : QX E τ σ) (hE : ∀ a k, FB σ a k → ¬ E a k) (hS : Sh σ) (hB : RB i σ) : RB (i + 1) τ := RB_s (Nat.le_succ i) (RB_ag (QX_Gr h) (fun a k _ hf => h.2.2.2.2.1 _ _ (by unfold FB at hf; unfold QU; omega) (hE _ _ hf)) (fun t => by rw [h.2.2.2.1]) hS.1 hB)
theorem RK_t {t : Nat} (hK : RK σ) (ht : t < ix (zI σ 33 23)) : TR σ t := by
  obtain ⟨n, k1, k2, k3, k4, -⟩ := hK
  rw [k2, ix, cl0 (by omega)] at ht
  exact k4 t ht
theorem TR_72 {t : Nat} (h : TR σ t) : 72 < tA σ t := by
  obtain ⟨m, t1, t2, t3, t4, -⟩ := h
  exact t4.1
theorem QX_RC (h : QX E τ σ) (hE : ∀ a k, (a = 2 ∧ k = 9) ∨ (a = 33 ∧ (k = 15 ∨ k = 36 ∨ k = 23)) ∨ (51 ≤ a ∧ a ≤ 57) ∨ (62 ≤ a ∧ a ≤ 65) → ¬ E a k) (hK : RK σ) (hC : RC σ) : RC τ :=
  RC_ag (fun a k q => h.2.2.2.2.2 a k (by omega) (by omega) (by omega)) (fun a k q => h.2.2.2.2.1 a k (by unfold QU; omega) (hE a k q)) (fun t ht => by
    have h1 := TR_72 (RK_t hK ht)
    rw [tA, h.2.2.2.1]
    unfold tA at h1
    exact h.2.2.2.2.2 _ _ (by omega) (by omega) (by omega)) hC
end QX
/-! how a call's end looks: the wrapper's answer k, then the reference's -/
def RQ (es : List Int32) (φ : Int32 → AH → Prop) (τ : AH) (rv : Option Value) : Prop := Sh τ ∧ ((∃ y : Int32, rv = some (.int y) ∧ φ 0 (uJ τ 72 0 (Int32.toInt64 y))) ∨ ∃ (j : Nat) (c : Int32), es[j]? = some c ∧ rv = some (.int c) ∧ φ (nI (j + 1)) τ)
def RQl (es : List Int64) (φ : Int32 → AH → Prop) (τ : AH) (rv : Option Value) : Prop := Sh τ ∧ ((∃ y : Int64, rv = some (.long y) ∧ φ 0 (uJ τ 72 0 y)) ∨ ∃ (j : Nat) (c : Int64), es[j]? = some c ∧ rv = some (.long c) ∧ φ (nI (j + 1)) τ)
def RQv (es : List Int32) (φ : Int32 → AH → Prop) (τ : AH) (rv : Option Value) : Prop := Sh τ ∧ ((rv = some (.int 0) ∧ φ 0 τ) ∨ ∃ (j : Nat) (c : Int32), es[j]? = some c ∧ rv = some (.int c) ∧ φ (nI (j + 1)) τ)
def RE (i : Nat) (k : Int32) (ω : AH) (rv : Option Value) : Prop := zI ω 33 49 = k ∧ Rel (i + 1) ω ∧ ∃ b : Int32, rv = some (.int b) ∧ (k = 0 → zJ ω 72 0 = Int32.toInt64 b)
def REl (i : Nat) (k : Int32) (ω : AH) (rv : Option Value) : Prop := zI ω 33 49 = k ∧ Rel (i + 1) ω ∧ ∃ b : Int64, rv = some (.long b) ∧ (k = 0 → zJ ω 72 0 = b)
def REv (i : Nat) (k : Int32) (ω : AH) (rv : Option Value) : Prop := zI ω 33 49 = k ∧ Rel (i + 1) ω ∧ rv = none
/-- a refusal leaves all as it was -/
theorem RE_no {i : Nat} {σ τ : AH} {k : Int32} (hi : i < 512) (h : Rel i σ) (hq : Q4 τ σ) (hk : ¬ k = 0) : RE i k (uI τ 33 49 k) (some (.int 0)) := ⟨by rw [zI_uI, if_pos ⟨rfl, rfl⟩], Rel_q (Nat.le_succ i) hi (Q4_49 hq) h, 0, rfl, fun q => absurd q hk⟩
theorem REl_no {i : Nat} {σ τ : AH} {k : Int32} (hi : i < 512) (h : Rel i σ) (hq : Q4 τ σ) (hk : ¬ k = 0) : REl i k (uI τ 33 49 k) (some (.long 0)) := ⟨by rw [zI_uI, if_pos ⟨rfl, rfl⟩], Rel_q (Nat.le_succ i) hi (Q4_49 hq) h, 0, rfl, fun q => absurd q hk⟩
theorem REv_no {i : Nat} {σ τ : AH} {k : Int32} (hi : i < 512) (h : Rel i σ) (hq : Q4 τ σ) : REv i k (uI τ 33 49 k) none := ⟨by rw [zI_uI, if_pos ⟨rfl, rfl⟩], Rel_q (Nat.le_succ i) hi (Q4_49 hq) h, rfl⟩
/-- what the class's method leaves: an answer for the wrapper, or an exception -/
def QI (M : Int32 → AH → Prop) (τ : AH) (rv : Option Value) : Prop := ∃ y : Int32, rv = some (.int y) ∧ Sh τ ∧ M 0 (uJ τ 72 0 (Int32.toInt64 y))
def QJ (M : Int32 → AH → Prop) (τ : AH) (rv : Option Value) : Prop := ∃ y : Int64, rv = some (.long y) ∧ Sh τ ∧ M 0 (uJ τ 72 0 y)
def QV (M : Int32 → AH → Prop) (τ : AH) (rv : Option Value) : Prop := Sh τ ∧ M 0 τ ∧ rv = none
abbrev IOO : String := "java/lang/IndexOutOfBoundsException"
abbrev IAE : String := "java/lang/IllegalArgumentException"
abbrev ISE : String := "java/lang/IllegalStateException"
def X1 (e1 : String) (M : Int32 → AH → Prop) (τ : AH) (Ex : String) : Prop := Ex = e1 ∧ Sh τ ∧ M 1 τ
def X2 (e1 e2 : String) (M : Int32 → AH → Prop) (τ : AH) (Ex : String) : Prop := (Ex = e1 ∧ Sh τ ∧ M 1 τ) ∨ (Ex = e2 ∧ Sh τ ∧ M 2 τ)
def X3 (e1 e2 e3 : String) (M : Int32 → AH → Prop) (τ : AH) (Ex : String) : Prop := (Ex = e1 ∧ Sh τ ∧ M 1 τ) ∨ (Ex = e2 ∧ Sh τ ∧ M 2 τ) ∨ (Ex = e3 ∧ Sh τ ∧ M 3 τ)
theorem QI_q {M : Int32 → AH → Prop} {es : List Int32} : ∀ τ rv, QI M τ rv → ∃ y : Int32, rv = some (.int y) ∧ RQ es M τ (some (.int y)) := fun τ rv ⟨y, h1, h2, h3⟩ => ⟨y, h1, h2, Or.inl ⟨y, rfl, h3⟩⟩
theorem QJ_q {M : Int32 → AH → Prop} {es : List Int64} : ∀ τ rv, QJ M τ rv → ∃ y : Int64, rv = some (.long y) ∧ RQl es M τ (some (.long y)) := fun τ rv ⟨y, h1, h2, h3⟩ => ⟨y, h1, h2, Or.inl ⟨y, rfl, h3⟩⟩
theorem QV_q {M : Int32 → AH → Prop} {es : List Int32} : ∀ τ rv, QV M τ rv → RQv es M τ (some (.int 0)) ∧ rv = none := fun τ rv ⟨h0, h1, h2⟩ => ⟨⟨h0, Or.inl ⟨rfl, h1⟩⟩, h2⟩
theorem X1_q {M : Int32 → AH → Prop} {e1 : String} {c1 : Int32} : ∀ τ Ex, X1 e1 M τ Ex → Ex = e1 ∧ RQ [c1] M τ (some (.int c1)) := fun τ Ex h => ⟨h.1, h.2.1, Or.inr ⟨0, c1, rfl, rfl, h.2.2⟩⟩
theorem X1_ql {M : Int32 → AH → Prop} {e1 : String} {c1 : Int64} : ∀ τ Ex, X1 e1 M τ Ex → Ex = e1 ∧ RQl [c1] M τ (some (.long c1)) := fun τ Ex h => ⟨h.1, h.2.1, Or.inr ⟨0, c1, rfl, rfl, h.2.2⟩⟩
theorem X2_q {M : Int32 → AH → Prop} {e1 e2 : String} {c1 c2 : Int32} : ∀ τ Ex, X2 e1 e2 M τ Ex → (Ex = e1 ∧ RQ [c1, c2] M τ (some (.int c1))) ∨ (Ex = e2 ∧ RQ [c1, c2] M τ (some (.int c2))) := fun τ Ex h => h.elim (fun h => Or.inl ⟨h.1, h.2.1, Or.inr ⟨0, c1, rfl, rfl, h.2.2⟩⟩) (fun h => Or.inr ⟨h.1, h.2.1, Or.inr ⟨1, c2, rfl, rfl, h.2.2⟩⟩)
theorem X2_qv {M : Int32 → AH → Prop} {e1 e2 : String} {c1 c2 : Int32} : ∀ τ Ex, X2 e1 e2 M τ Ex → (Ex = e1 ∧ RQv [c1, c2] M τ (some (.int c1))) ∨ (Ex = e2 ∧ RQv [c1, c2] M τ (some (.int c2))) := fun τ Ex h => h.elim (fun h => Or.inl ⟨h.1, h.2.1, Or.inr ⟨0, c1, rfl, rfl, h.2.2⟩⟩) (fun h => Or.inr ⟨h.1, h.2.1, Or.inr ⟨1, c2, rfl, rfl, h.2.2⟩⟩)
theorem X3_q {M : Int32 → AH → Prop} {e1 e2 e3 : String} {c1 c2 c3 : Int32} : ∀ τ Ex, X3 e1 e2 e3 M τ Ex → (Ex = e1 ∧ RQ [c1, c2, c3] M τ (some (.int c1))) ∨ (Ex = e2 ∧ RQ [c1, c2, c3] M τ (some (.int c2))) ∨ (Ex = e3 ∧ RQ [c1, c2, c3] M τ (some (.int c3))) := fun τ Ex h => h.elim (fun h => Or.inl ⟨h.1, h.2.1, Or.inr ⟨0, c1, rfl, rfl, h.2.2⟩⟩) (fun h => Or.inr (h.elim (fun h => Or.inl ⟨h.1, h.2.1, Or.inr ⟨1, c2, rfl, rfl, h.2.2⟩⟩) (fun h => Or.inr ⟨h.1, h.2.1, Or.inr ⟨2, c3, rfl, rfl, h.2.2⟩⟩)))
