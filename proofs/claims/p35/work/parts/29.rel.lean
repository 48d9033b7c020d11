/-! ===== what ties the class to the reference ===== -/
abbrev bt (x : Int32) (l h : Int) : Prop := l ≤ x.toInt ∧ x.toInt ≤ h
/-- a fare's row -/
def FO (σ : AH) (k : Nat) : Prop :=
  (72 < zR σ 6 k ∧ zR σ 6 k ≤ zN σ ∧ zK σ (zR σ 6 k) = 3) ∧
  zI σ (zR σ 6 k) 0 = zI σ 39 k ∧ zI σ (zR σ 6 k) 1 = zI σ 40 k ∧ zI σ (zR σ 6 k) 2 = zI σ 41 k ∧ zI σ (zR σ 6 k) 3 = zI σ 42 k ∧ zI σ (zR σ 6 k) 4 = zI σ 43 k ∧ zI σ (zR σ 6 k) 5 = zI σ 44 k ∧ zI σ (zR σ 6 k) 6 = zI σ 45 k ∧
  bt (zI σ 41 k) 1 1000000 ∧ bt (zI σ 44 k) 0 7
/-- the tariff -/
def RT (σ : AH) : Prop := ∃ nf, nf ≤ 40 ∧ zI σ 33 6 = nI nf ∧ zI σ 3 4 = nI nf ∧ zI σ 3 5 = zI σ 33 14 ∧ bt (zI σ 33 14) 1 1000 ∧ zI σ 3 6 = zI σ 33 0 ∧ bt (zI σ 33 0) 0 999 ∧
  (∀ k, k < 100 → zI σ 5 k = zI σ 34 k ∧ bt (zI σ 34 k) 0 9999) ∧
  (∀ k, k < 10 → zI σ 7 k = zI σ 37 k ∧ zI σ 8 k = zI σ 38 k ∧ bt (zI σ 37 k) 0 10000 ∧ bt (zI σ 38 k) 0 10000) ∧
  (∀ k, k < nf → FO σ k) ∧ (∀ k, nf ≤ k → zI σ 45 k = 0) ∧ (∀ j k, j < nf → k < nf → zR σ 6 j = zR σ 6 k → j = k)
def FT (σ : AH) (a k : Nat) : Prop := (a = 33 ∧ (k = 0 ∨ k = 6 ∨ k = 14)) ∨ (a = 3 ∧ 4 ≤ k ∧ k ≤ 6) ∨ a = 5 ∨ a = 7 ∨ a = 8 ∨ a = 34 ∨ (37 ≤ a ∧ a ≤ 45) ∨ (72 < a ∧ zK σ a = 3)
/-- nothing but new cells; those that stood are what they were -/
def Gr (τ σ : AH) : Prop := zN σ ≤ zN τ ∧ ∀ a, a ≤ zN σ → zK τ a = zK σ a ∧ zL τ a = zL σ a
theorem Gr_refl (σ : AH) : Gr σ σ := ⟨Nat.le_refl _, fun _ _ => ⟨rfl, rfl⟩⟩
theorem Gr_tr {ρ τ σ : AH} (h : Gr ρ τ) (h' : Gr τ σ) : Gr ρ σ := ⟨Nat.le_trans h'.1 h.1, fun a ha => ⟨(h.2 a (Nat.le_trans ha h'.1)).1.trans (h'.2 a ha).1, (h.2 a (Nat.le_trans ha h'.1)).2.trans (h'.2 a ha).2⟩⟩
theorem Gr_nw {σ : AH} {κ n : Nat} : Gr (nw σ κ n) σ := ⟨Nat.le_succ _, fun a ha => ⟨by rw [zK_nw, if_neg (by omega)], by rw [zL_nw, if_neg (by omega)]⟩⟩
theorem RT_ag {τ σ : AH} (hG : Gr τ σ) (hI : ∀ a k, a ≤ zN σ → FT σ a k → zI τ a k = zI σ a k) (hR : ∀ k, zR τ 6 k = zR σ 6 k) (hn : 72 ≤ zN σ) (h : RT σ) : RT τ := by
  obtain ⟨nf, h1, h2, h3, h4, h5, h6, h7, h8, h9, h10, h11, h12⟩ := h
  have e : ∀ k, (k = 0 ∨ k = 6 ∨ k = 14) → zI τ 33 k = zI σ 33 k := fun k hk => hI 33 k (by omega) (Or.inl ⟨rfl, hk⟩)
  have e3 : ∀ k, 4 ≤ k → k ≤ 6 → zI τ 3 k = zI σ 3 k := fun k a b => hI 3 k (by omega) (Or.inr (Or.inl ⟨rfl, a, b⟩))
  have e5 : ∀ k, zI τ 5 k = zI σ 5 k := fun k => hI 5 k (by omega) (Or.inr (Or.inr (Or.inl rfl)))
  have e7 : ∀ k, zI τ 7 k = zI σ 7 k := fun k => hI 7 k (by omega) (Or.inr (Or.inr (Or.inr (Or.inl rfl))))
  have e8 : ∀ k, zI τ 8 k = zI σ 8 k := fun k => hI 8 k (by omega) (Or.inr (Or.inr (Or.inr (Or.inr (Or.inl rfl)))))
  have e34 : ∀ k, zI τ 34 k = zI σ 34 k := fun k => hI 34 k (by omega) (Or.inr (Or.inr (Or.inr (Or.inr (Or.inr (Or.inl rfl))))))
  have em : ∀ a k, 37 ≤ a → a ≤ 45 → zI τ a k = zI σ a k := fun a k x y => hI a k (by omega) (Or.inr (Or.inr (Or.inr (Or.inr (Or.inr (Or.inr (Or.inl ⟨x, y⟩)))))))
  refine ⟨nf, h1, by rw [e _ (by decide)]; exact h2, by rw [e3 _ (by decide) (by decide)]; exact h3, by rw [e3 _ (by decide) (by decide), e _ (by decide)]; exact h4, by rw [e _ (by decide)]; exact h5, by rw [e3 _ (by decide) (by decide), e _ (by decide)]; exact h6, by rw [e _ (by decide)]; exact h7, fun k hk => by rw [e5, e34]; exact h8 k hk, fun k hk => by rw [e7, e8, em 37 _ (by decide) (by decide), em 38 _ (by decide) (by decide)]; exact h9 k hk, fun k hk => ?_, fun k hk => by rw [em 45 _ (by decide) (by decide)]; exact h11 k hk, fun j k hj hk q => h12 j k hj hk (by rw [hR, hR] at q; exact q)⟩
  have hf := h10 k hk
  unfold FO at hf ⊢
  rw [hR]
  obtain ⟨⟨f1, f2, f3⟩, f4⟩ := hf
  have ef : ∀ j, zI τ (zR σ 6 k) j = zI σ (zR σ 6 k) j := fun j => hI _ j f2 (Or.inr (Or.inr (Or.inr (Or.inr (Or.inr (Or.inr (Or.inr ⟨f1, f3⟩)))))))
  rw [ef, ef, ef, ef, ef, ef, ef, em 39 _ (by decide) (by decide), em 40 _ (by decide) (by decide), em 41 _ (by decide) (by decide), em 42 _ (by decide) (by decide), em 43 _ (by decide) (by decide), em 44 _ (by decide) (by decide), em 45 _ (by decide) (by decide)]
  exact ⟨⟨f1, Nat.le_trans f2 hG.1, (hG.2 _ f2).1.trans f3⟩, f4⟩
/-- the journey -/
def RJ (σ : AH) : Prop := ∃ L, L ≤ 8 ∧ zI σ 33 16 = nI L ∧ zI σ 13 1 = nI L ∧
  (∀ k, k < 8 → zI σ (15 + k) 0 = zI σ 46 k ∧ zI σ (15 + k) 1 = zI σ 47 k ∧ zI σ (15 + k) 2 = zI σ 48 k ∧ zI σ (15 + k) 3 = zI σ 49 k ∧ vp_in (zI σ 46 k) 10 ∧ vp_in (zI σ 47 k) 10 ∧ vp_in (zI σ 48 k) 5) ∧
  (∀ k, k < L → bt (zI σ 49 k) 0 999 ∧ 1 ≤ (mi σ (zI σ 46 k) (zI σ 47 k)).toInt) ∧
  (∀ k, k + 1 < L → zI σ 49 k ≤ zI σ 49 (k + 1))
theorem RJ_ag {τ σ : AH} (h16 : zI τ 33 16 = zI σ 33 16) (h13 : zI τ 13 1 = zI σ 13 1) (hl : ∀ a k, 15 ≤ a → a ≤ 22 → zI τ a k = zI σ a k) (hm : ∀ a k, 46 ≤ a → a ≤ 49 → zI τ a k = zI σ a k) (h34 : ∀ k, 1 ≤ (zI σ 34 k).toInt → 1 ≤ (zI τ 34 k).toInt) (h : RJ σ) : RJ τ := by
  obtain ⟨L, h1, h2, h3, h4, h5, h6⟩ := h
  refine ⟨L, h1, by rw [h16]; exact h2, by rw [h13]; exact h3, fun k hk => ?_, fun k hk => ?_, fun k hk => ?_⟩
  · have hl' : ∀ j, zI τ (15 + k) j = zI σ (15 + k) j := fun j => hl _ _ (by omega) (by omega)
    rw [hl', hl', hl', hl', hm 46 _ (by decide) (by decide), hm 47 _ (by decide) (by decide), hm 48 _ (by decide) (by decide), hm 49 _ (by decide) (by decide)]
    exact h4 k hk
  · rw [mi, hm 46 _ (by decide) (by decide), hm 47 _ (by decide) (by decide), hm 49 _ (by decide) (by decide)]
    exact ⟨(h5 k hk).1, h34 _ (h5 k hk).2⟩
  · rw [hm 49 _ (by decide) (by decide), hm 49 _ (by decide) (by decide)]; exact h6 k hk
/-- weights and provisos -/
def RP (σ : AH) : Prop := (∀ k, k < 100 → zI σ 11 k = zI σ 35 k ∧ bt (zI σ 35 k) 0 9999) ∧ (∀ k, k < 500 → zI σ 12 k = zI σ 36 k - 1 ∧ bt (zI σ 36 k) 0 1000001)
theorem RP_ag {τ σ : AH} (e : ∀ a k, a = 11 ∨ a = 12 ∨ a = 35 ∨ a = 36 → zI τ a k = zI σ a k) (h : RP σ) : RP τ :=
  ⟨fun k hk => by rw [e 11 _ (by decide), e 35 _ (by decide)]; exact h.1 k hk, fun k hk => by rw [e 12 _ (by decide), e 36 _ (by decide)]; exact h.2 k hk⟩
theorem R_PO {σ : AH} (hT : RT σ) (hJ : RJ σ) : PO σ := by
  obtain ⟨nf, h1, h2, h3, h4, h5, -⟩ := hT
  obtain ⟨L, -, -, -, g4, -⟩ := hJ
  exact ⟨by rw [h2]; exact vp_in_nI (by omega) (by decide), fun k hk => ⟨(g4 k hk).2.2.2.2.1, (g4 k hk).2.2.2.2.2.1⟩, h5.1, h5.2⟩
theorem R_CA {σ : AH} (hJ : RJ σ) : CA σ := by
  obtain ⟨L, -, -, -, g4, -⟩ := hJ
  exact fun k hk => (g4 k hk).2.2.2.2.2.2
theorem R_L {σ : AH} (hJ : RJ σ) : vp_in (zI σ 33 16) 9 := by
  obtain ⟨L, h1, h2, -⟩ := hJ
  rw [h2]; exact vp_in_nI (by omega) (by decide)
