/-! ===== the reference: coupons ===== -/
def smI (f : Nat → Int32) : Nat → Int32
  | 0 => 0
  | n + 1 => smI f n + f n
theorem smI_c {f f' : Nat → Int32} : ∀ {n : Nat}, (∀ k, k < n → f k = f' k) → smI f n = smI f' n
  | 0, _ => rfl
  | n + 1, h => by rw [smI, smI, smI_c (fun k hk => h k (by omega)), h n (by omega)]
/-- where a ticket's coupons end -/
theorem tk_end {σ : AH} {t m : Nat} (ht : t < 30) (hm : m < 9) (e : zI σ 52 t = nI m) : (8 : Int32) * nI t + zI σ 52 (nI t).toNatClampNeg = nI (8 * t + m) := by
  rw [cl0 (by omega), e, show (8 : Int32) = nI 8 from rfl, pk_mul, nI_add]
/-- open coupons among the first ones -/
def opF (σ : AH) (b d : Nat) : Prop := ∃ j, j < d ∧ zI σ 55 (b + j) = 0
noncomputable def opC (σ : AH) (b d : Nat) : Int32 := @jb (opF σ b d) (Classical.propDecidable _)
theorem opC_t {σ : AH} {b d : Nat} (h : opF σ b d) : opC σ b d = 1 := @jb_t _ (Classical.propDecidable _) h
theorem opC_f {σ : AH} {b d : Nat} (h : ¬ opF σ b d) : opC σ b d = 0 := @jb_f _ (Classical.propDecidable _) h
theorem opC_0 {σ : AH} {b d : Nat} : opC σ b d = 0 ↔ ¬ opF σ b d := @jb_0 _ (Classical.propDecidable _)
theorem opC_n {σ : AH} {b d : Nat} : ¬ opC σ b d = 0 ↔ opF σ b d := @jb_n _ (Classical.propDecidable _)
theorem opC_nar {σ : AH} {b d : Nat} : narrow .boolean (.int (opC σ b d)) = .int (opC σ b d) := @jb_nar _ (Classical.propDecidable _)
/-- an open coupon's share, or its tax -/
def ooF (σ : AH) (b : Nat) (z : Int32) (k : Nat) : Int32 := if zI σ 55 (b + k) = 0 then (if z = 0 then zI σ 56 (b + k) else zI σ 57 (b + k)) else 0
/-- all open ones among the first are made something -/
def trH (σ : AH) (b : Nat) (w : Int32) : Nat → AH
  | 0 => σ
  | d + 1 => uI (trH σ b w d) 55 (b + d) (if zI (trH σ b w d) 55 (b + d) = 0 then w else zI (trH σ b w d) 55 (b + d))
theorem trH_I {σ : AH} {b : Nat} {w : Int32} : ∀ (d a k : Nat), zI (trH σ b w d) a k = if a = 55 ∧ b ≤ k ∧ k < b + d ∧ zI σ 55 k = 0 then w else zI σ a k
  | 0, a, k => by rw [trH, if_neg (by omega)]
  | d + 1, a, k => by
    rw [trH, zI_uI]
    by_cases h : a = 55 ∧ k = b + d
    · obtain ⟨rfl, rfl⟩ := h
      have hh : ¬ (55 = 55 ∧ b ≤ b + d ∧ b + d < b + d ∧ zI σ 55 (b + d) = 0) := fun q => Nat.lt_irrefl _ q.2.2.1
      rw [if_pos ⟨rfl, rfl⟩, trH_I d, if_neg hh]
      by_cases h2 : zI σ 55 (b + d) = 0
      · rw [if_pos h2, if_pos ⟨rfl, by omega, by omega, h2⟩]
      · rw [if_neg h2, if_neg (fun q => h2 q.2.2.2)]
    · rw [if_neg h, trH_I d]
      by_cases h2 : a = 55 ∧ b ≤ k ∧ k < b + d ∧ zI σ 55 k = 0
      · rw [if_pos h2, if_pos ⟨h2.1, h2.2.1, by omega, h2.2.2.2⟩]
      · rw [if_neg h2, if_neg (fun q => h2 ⟨q.1, q.2.1, by omega, q.2.2.2⟩)]
theorem trH_N {σ : AH} {b : Nat} {w : Int32} : ∀ d, zN (trH σ b w d) = zN σ ∧ zK (trH σ b w d) = zK σ ∧ zL (trH σ b w d) = zL σ ∧ zJ (trH σ b w d) = zJ σ ∧ zR (trH σ b w d) = zR σ
  | 0 => ⟨rfl, rfl, rfl, rfl, rfl⟩
  | d + 1 => trH_N d
theorem Sh_trH {σ : AH} {b : Nat} {w : Int32} (h : Sh σ) : ∀ d, Sh (trH σ b w d)
  | 0 => h
  | d + 1 => Sh_uI (Sh_trH h d)
theorem EqP_trH {σ : AH} {b : Nat} {w : Int32} : ∀ d, EqP (trH σ b w d) σ
  | 0 => EqP_refl _
  | d + 1 => EqP_uI (EqP_trH d) (by decide)
/-- what canIssue leaves -/
def ciH (σ : AH) : AH := if 30 ≤ zI σ 33 23 then σ else hW σ (wayF σ)
theorem Sh_ciH {σ : AH} (h : Sh σ) : Sh (ciH σ) := by unfold ciH; split; exact h; exact Sh_uI (Sh_uI h)
theorem EqP_ciH {σ : AH} : EqP (ciH σ) σ := by unfold ciH; split; exact EqP_refl _; exact EqP_hW
theorem ciH_I {σ : AH} {a k : Nat} (h : ¬ (a = 33 ∧ (k = 21 ∨ k = 22))) : zI (ciH σ) a k = zI σ a k := by
  unfold ciH
  split
  · rfl
  · rw [hW, zI_uI, if_neg (fun q => h ⟨q.1, Or.inr q.2⟩), zI_uI, if_neg (fun q => h ⟨q.1, Or.inl q.2⟩)]
theorem ciH_J {σ : AH} {a k : Nat} : zJ (ciH σ) a k = zJ σ a k := by unfold ciH; split <;> rfl
theorem ciH_N {σ : AH} : zN (ciH σ) = zN σ ∧ zK (ciH σ) = zK σ ∧ zL (ciH σ) = zL σ ∧ zJ (ciH σ) = zJ σ ∧ zR (ciH σ) = zR σ := by unfold ciH; split <;> exact ⟨rfl, rfl, rfl, rfl, rfl⟩
/-- can a ticket be issued, by the days of so many legs -/
def cnD (σ : AH) (d : Nat) : Prop := (¬ 30 ≤ zI σ 33 23 ∧ ¬ (wayF σ).1 = -1) ∧ ∀ k, k < d → ¬ zI σ 49 k < zI σ 33 0
def cnF (σ : AH) : Prop := cnD σ (lgN σ)
noncomputable def pj (c : Prop) : Int32 := @jb c (Classical.propDecidable _)
theorem pj_t {c : Prop} (h : c) : pj c = 1 := @jb_t _ (Classical.propDecidable _) h
theorem pj_f {c : Prop} (h : ¬ c) : pj c = 0 := @jb_f _ (Classical.propDecidable _) h
theorem pj_0 {c : Prop} : pj c = 0 ↔ ¬ c := @jb_0 _ (Classical.propDecidable _)
theorem pj_n {c : Prop} : ¬ pj c = 0 ↔ c := @jb_n _ (Classical.propDecidable _)
theorem pj_nar {c : Prop} : narrow .boolean (.int (pj c)) = .int (pj c) := @jb_nar _ (Classical.propDecidable _)