/-! ===== ghost rows: cells 33..72 are holes, what they hold is put anew at will; 73 and 74 are the law's own arrays ===== -/
def GSh (ω τ : AH) : Prop := zN ω = zN τ ∧ zK ω = zK τ ∧ zL ω = zL τ ∧ zR ω = zR τ ∧ ∀ a, zK τ a ≠ 19 → ∀ j, zI ω a j = zI τ a j ∧ zJ ω a j = zJ τ a j
/-- a call has left ghost rows and the law's arrays -/
def GF (τ σ : AH) : Prop := 74 ≤ zN τ ∧ ∀ a, 33 ≤ a → a ≤ 74 → zK τ a = zK σ a ∧ zL τ a = zL σ a ∧ ∀ j, zI τ a j = zI σ a j ∧ zJ τ a j = zJ σ a j
def GK (σ : AH) : Prop := 74 ≤ zN σ ∧ ∀ a, 33 ≤ a → a ≤ 74 → zK σ a = 19 ∨ zK σ a = 23
theorem ent_gs {dA : Nat → ClassId} {ρ : Nat → Nat} {ω τ : AH} {a : Nat} (hK : zK ω a = zK τ a) (hL : zL ω a = zL τ a) (hR : zR ω a = zR τ a) (hI : zI ω a = zI τ a) (hJ : zJ ω a = zJ τ a) : ent dA ρ ω a = ent dA ρ τ a := by
  have e7 : ∀ ty k, fv ρ ω a ty k = fv ρ τ a ty k := by
    intro ty k
    cases ty <;> simp only [fv, hI, hJ, hR]
  unfold ent
  rw [hK, hL, hI, hJ, hR]
  simp only [e7]
theorem wl_gs {dA : Nat → ClassId} {ρ : Nat → Nat} {ω τ : AH} (h : GSh ω τ) : wl dA ρ ω = wl dA ρ τ := by
  obtain ⟨h1, h2, h3, h4, h5⟩ := h
  exact wl_gh (by rw [h1]; exact Nat.le_refl _) (fun a _ _ => ⟨by rw [h2], fun hk => ent_gs (by rw [h2]) (by rw [h3]) (by rw [h4]) (funext fun j => (h5 a hk j).1) (funext fun j => (h5 a hk j).2)⟩) (fun a q1 q2 => by rw [h1] at q2; omega)
theorem Cn_gs {g : GP} {ρ : Nat → Nat} {ω τ : AH} {H : Heap} (hg : gG g = none) (h : GSh ω τ) (hC : Cn g ρ τ H) : Cn g ρ ω H :=
  ⟨by rw [wl_gs h]; exact hC.1, by rw [wl_gs h]; exact hC.2.1, hC.2.2.1, hC.2.2.2.1, fun a k => by rw [h.2.2.2.1, h.1]; exact hC.2.2.2.2.1 a k, by rw [h.1]; exact hC.2.2.2.2.2.1, by rw [h.2.1]; exact hC.2.2.2.2.2.2.1, hC.2.2.2.2.2.2.2.1, fun G hG => by rw [hg] at hG; cases hG⟩
/-- the run's things with the ghost rows frozen as they are -/
def fz (g : GP) (σ : AH) : GP := (g.1, g.2.1, g.2.2.1, g.2.2.2.1, g.2.2.2.2.1, some σ)
theorem Cn_fz {g : GP} {ρ : Nat → Nat} {σ : AH} {H : Heap} (hk : GK σ) (hC : Cn g ρ σ H) : Cn (fz g σ) ρ σ H :=
  ⟨hC.1, hC.2.1, hC.2.2.1, hC.2.2.2.1, hC.2.2.2.2.1, hC.2.2.2.2.2.1, hC.2.2.2.2.2.2.1, hC.2.2.2.2.2.2.2.1, fun G hG => by
    cases hG
    exact ⟨hk.1, fun a h1 h2 => ⟨hk.2 a h1 h2, rfl, rfl, fun _ => ⟨rfl, rfl⟩⟩⟩⟩
theorem Cn_uf {g : GP} {ρ : Nat → Nat} {σ τ : AH} {H : Heap} (hg : gG g = none) (hC : Cn (fz g σ) ρ τ H) : Cn g ρ τ H ∧ GF τ σ := by
  obtain ⟨h1, h2⟩ := hC.2.2.2.2.2.2.2.2 σ rfl
  exact ⟨⟨hC.1, hC.2.1, hC.2.2.1, hC.2.2.2.1, hC.2.2.2.2.1, hC.2.2.2.2.2.1, hC.2.2.2.2.2.2.1, hC.2.2.2.2.2.2.2.1, fun G hG => by rw [hg] at hG; cases hG⟩, h1, fun a q1 q2 => ⟨(h2 a q1 q2).2.1, (h2 a q1 q2).2.2.1, (h2 a q1 q2).2.2.2⟩⟩
theorem Met_gs {g : GP} {y : MethodName} {ws : List Cond} {R : Room} {as : List Value} {σ : AH} {mc ms : Nat} {Q Q' : AH → Option Value → Prop} (hg : gG g = none) (hk : GK σ)
    (hc : ∀ g' : GP, ∀ ρ, Met g'.1 y ws R (Pe g' ρ as σ) (Qe g' ρ (zN σ) Q) mc ms (bs g'.2.2.2.1)) (hq : ∀ τ rv, Q τ rv → GF τ σ → ∃ ω, GSh ω τ ∧ Q' ω rv) :
    ∀ ρ, Met g.1 y ws R (Pe g ρ as σ) (Qe g ρ (zN σ) Q') mc ms (bs g.2.2.2.1) := by
  intro ρ p e h1 h2 h3 s m args below hf hs hp hk2
  obtain ⟨p1, p2, p3, p4, p5⟩ := hp
  obtain ⟨n, o, a, b, c, ⟨ρ', τ, rv, e1, q, e2, e3, e4, e5, e6⟩, d⟩ := hc (fz g σ) ρ p e h1 h2 h3 s m args below hf hs ⟨p1, Cn_fz hk p2, p3, p4, p5⟩ hk2
  obtain ⟨e7, e8⟩ := Cn_uf hg e2
  obtain ⟨ω, w1, w2⟩ := hq τ rv q e8
  exact ⟨n, o, a, b, c, ⟨ρ', ω, rv, e1, w2, Cn_gs hg w1 e7, e3, by rw [w1.1]; exact e4, fun v hv => by rw [w1.1]; exact e5 v hv, e6⟩, d⟩
theorem Ct_gs {g : GP} {μ : MI} {as : List Value} {σ : AH} {Q Q' : AH → Option Value → Prop} (hg : gG g = none) (hk : GK σ) (hc : ∀ g' : GP, Ct g' μ as σ Q) (hq : ∀ τ rv, Q τ rv → GF τ σ → ∃ ω, GSh ω τ ∧ Q' ω rv) : Ct g μ as σ Q' := Met_gs hg hk hc hq
theorem CtH_gs {g : GP} {μ : MI} {as : List Value} {σ : AH} {Q Q' : AH → Option Value → Prop} (hg : gG g = none) (hk : GK σ) (hc : ∀ g' : GP, CtH g' μ as σ Q) (hq : ∀ τ rv, Q τ rv → GF τ σ → ∃ ω, GSh ω τ ∧ Q' ω rv) : CtH g μ as σ Q' := Met_gs hg hk hc hq
/-! what a relation between ghost rows leaves -/
def GW (ω σ : AH) : Prop := zN ω = zN σ ∧ zK ω = zK σ ∧ zL ω = zL σ ∧ zR ω = zR σ ∧ ∀ a, a < 33 ∨ 72 < a → ∀ j, zI ω a j = zI σ a j ∧ zJ ω a j = zJ σ a j
theorem GW_refl (σ : AH) : GW σ σ := ⟨rfl, rfl, rfl, rfl, fun _ _ _ => ⟨rfl, rfl⟩⟩
theorem GW_tr {ρ τ σ : AH} (h : GW ρ τ) (h' : GW τ σ) : GW ρ σ := ⟨h.1.trans h'.1, h.2.1.trans h'.2.1, h.2.2.1.trans h'.2.2.1, h.2.2.2.1.trans h'.2.2.2.1, fun a ha j => ⟨(h.2.2.2.2 a ha j).1.trans (h'.2.2.2.2 a ha j).1, (h.2.2.2.2 a ha j).2.trans (h'.2.2.2.2 a ha j).2⟩⟩
theorem GW_uI {τ σ : AH} {a k : Nat} {x : Int32} (ha : 33 ≤ a ∧ a ≤ 72) (h : GW τ σ) : GW (uI τ a k x) σ := ⟨h.1, h.2.1, h.2.2.1, h.2.2.2.1, fun b hb j => ⟨by rw [zI_uI, if_neg (by omega)]; exact (h.2.2.2.2 b hb j).1, (h.2.2.2.2 b hb j).2⟩⟩
theorem GW_uJ {τ σ : AH} {a k : Nat} {x : Int64} (ha : 33 ≤ a ∧ a ≤ 72) (h : GW τ σ) : GW (uJ τ a k x) σ := ⟨h.1, h.2.1, h.2.2.1, h.2.2.2.1, fun b hb j => ⟨(h.2.2.2.2 b hb j).1, by rw [zJ_uJ, if_neg (by omega)]; exact (h.2.2.2.2 b hb j).2⟩⟩
theorem GW_of {ω σ : AH} (h1 : zN ω = zN σ) (h2 : zK ω = zK σ) (h3 : zL ω = zL σ) (h4 : zR ω = zR σ) (h5 : ∀ a j, a < 33 ∨ 72 < a → zI ω a j = zI σ a j) (h6 : ∀ a j, a < 33 ∨ 72 < a → zJ ω a j = zJ σ a j) : GW ω σ := ⟨h1, h2, h3, h4, fun a ha j => ⟨h5 a j ha, h6 a j ha⟩⟩
theorem GW_GSh {ω τ : AH} (hS : Sh τ) (h : GW ω τ) : GSh ω τ := ⟨h.1, h.2.1, h.2.2.1, h.2.2.2.1, fun a ha j => h.2.2.2.2 a (by
  by_cases h1 : a < 33
  · exact Or.inl h1
  · by_cases h2 : 72 < a
    · exact Or.inr h2
    · refine absurd ?_ ha
      rw [(hS.2.1 a (by omega) (by omega)).1]
      have : ∀ b, 33 ≤ b → b ≤ 72 → shKl.getD b 0 = 19 := by
        have k : ∀ b : Fin 73, 33 ≤ b.val → shKl.getD b.val 0 = 19 := by decide
        intro b q1 q2
        exact k ⟨b, by omega⟩ q1
      exact this a (by omega) (by omega)) j⟩
/-- the law's arrays -/
def GA4 (σ : AH) : Prop := 74 ≤ zN σ ∧ zK σ 73 = 23 ∧ zL σ 73 = 7 ∧ zK σ 74 = 23 ∧ zL σ 74 = 2
theorem GA_GK {σ : AH} (hS : Sh σ) (h : GA4 σ) : GK σ := ⟨h.1, fun a h1 h2 => by
  by_cases q : a ≤ 72
  · left
    rw [(hS.2.1 a (by omega) (by omega)).1]
    have k : ∀ b : Fin 73, 33 ≤ b.val → shKl.getD b.val 0 = 19 := by decide
    exact k ⟨a, by omega⟩ h1
  · right
    by_cases q2 : a = 73
    · rw [q2]; exact h.2.1
    · rw [show a = 74 by omega]; exact h.2.2.2.1⟩
theorem GA_F {τ σ : AH} (h : GA4 σ) (hF : GF τ σ) : GA4 τ := by
  obtain ⟨f1, f2⟩ := hF
  exact ⟨f1, (f2 73 (by decide) (by decide)).1.trans h.2.1, (f2 73 (by decide) (by decide)).2.1.trans h.2.2.1, (f2 74 (by decide) (by decide)).1.trans h.2.2.2.1, (f2 74 (by decide) (by decide)).2.1.trans h.2.2.2.2⟩
theorem GA_W {ω τ : AH} (h : GA4 τ) (hW : GW ω τ) : GA4 ω := ⟨by rw [hW.1]; exact h.1, by rw [hW.2.1]; exact h.2.1, by rw [hW.2.2.1]; exact h.2.2.1, by rw [hW.2.1]; exact h.2.2.2.1, by rw [hW.2.2.1]; exact h.2.2.2.2⟩
