/-! ===== what holds between two calls ===== -/
abbrev tA (σ : AH) (t : Nat) : Nat := zR σ 30 t
abbrev cC (σ : AH) (t k : Nat) : Nat := cA σ (tA σ t) k
/-- a coupon's row -/
def CR (σ : AH) (c q : Nat) : Prop := (72 < c ∧ c ≤ zN σ) ∧ (zI σ c 0 = zI σ 60 q ∧ vp_in (zI σ 60 q) 10) ∧ zI σ c 2 = zI σ 59 q ∧ (zI σ c 3 = zI σ 57 q ∧ bt (zI σ 57 q) 0 10000) ∧ (zI σ c 4 = zI σ 58 q ∧ vp_in (zI σ 58 q) 5) ∧ (zI σ c 6 = zI σ 56 q ∧ bt (zI σ 56 q) (-1073741824) 1073741824) ∧ zI σ c 7 = zI σ 55 q ∧ zI σ c 8 = zI σ 61 q ∧ (zI σ 55 q = 0 → zI σ 61 q = -1)
/-- a ticket's row -/
def TR (σ : AH) (t : Nat) : Prop := ∃ m, 1 ≤ m ∧ TS σ (tA σ t) m ∧ zI σ 52 t = nI m ∧ (72 < tA σ t ∧ tA σ t ≤ zN σ) ∧ (72 < zR σ (tA σ t) 3 ∧ zR σ (tA σ t) 3 ≤ zN σ) ∧
  (zI σ (tA σ t) 0 = zI σ 51 t ∧ vp_in (zI σ 51 t) 5) ∧ zI σ (tA σ t) 1 = zI σ 50 t ∧ zI σ (tA σ t) 2 = zI σ 53 t ∧ zI σ (tA σ t) 5 = smI (fun k => zI σ 57 (8 * t + k)) m ∧ zI σ (tA σ t) 6 = zI σ 54 t ∧ ∀ k, k < m → CR σ (cC σ t k) (8 * t + k)
/-- tickets -/
def RK (σ : AH) : Prop := ∃ n, n ≤ 30 ∧ zI σ 33 23 = nI n ∧ zI σ 2 8 = nI n ∧ (∀ t, t < n → TR σ t) ∧ (∀ t u, t < n → u < n → tA σ t = tA σ u → t = u) ∧
  (∀ t u j k, t < n → u < n → j < ix (zI σ 52 t) → k < ix (zI σ 52 u) → cC σ t j = cC σ u k → t = u ∧ j = k) ∧ ∀ c, 8 * n ≤ c → zI σ 55 c = 0
def FK (σ : AH) (a k : Nat) : Prop := (a = 33 ∧ k = 23) ∨ (a = 2 ∧ k = 8) ∨ (50 ≤ a ∧ a ≤ 61) ∨ (72 < a ∧ (zK σ a = 9 ∨ zK σ a = 2))
theorem TS_gr {τ σ : AH} {a n : Nat} (hI : zI τ a 4 = zI σ a 4) (hK : zK τ a = zK σ a) (hr : zR τ a 3 = zR σ a 3) (hK3 : zK τ (zR σ a 3) = zK σ (zR σ a 3)) (hL3 : zL τ (zR σ a 3) = zL σ (zR σ a 3)) (hc : ∀ k, k < n → zR τ (zR σ a 3) k = zR σ (zR σ a 3) k ∧ zK τ (cA σ a k) = zK σ (cA σ a k)) (h : TS σ a n) : TS τ a n := by
  obtain ⟨h1, h2, h3, h4, h5, h8⟩ := h
  exact ⟨h1, by rw [hK]; exact h2, by rw [hI]; exact h3, h4, by rw [hr, hK3, hL3]; exact h5, fun k hk => by rw [cA, hr, (hc k hk).1, (hc k hk).2]; exact h8 k hk⟩
theorem TR_ag {τ σ : AH} {t : Nat} (hG : Gr τ σ) (hI : ∀ a k, a ≤ zN σ → FK σ a k → zI τ a k = zI σ a k) (hR : zR τ 30 t = zR σ 30 t) (hR2 : ∀ a k, 72 < a → a ≤ zN σ → zK σ a = 9 ∨ zK σ a = 32 → zR τ a k = zR σ a k) (hn : 72 ≤ zN σ) (h : TR σ t) : TR τ t ∧ ∀ k, k < ix (zI σ 52 t) → cC τ t k = cC σ t k := by
  obtain ⟨m, h1, h2, h3, h4, h5, h6, h7, h8, h9, h10, h11⟩ := h
  have eA : tA τ t = tA σ t := hR
  have e3 : zR τ (tA σ t) 3 = zR σ (tA σ t) 3 := hR2 _ _ h4.1 h4.2 (Or.inl h2.2.1)
  have ek : ∀ k, zR τ (zR σ (tA σ t) 3) k = zR σ (zR σ (tA σ t) 3) k := fun k => hR2 _ _ h5.1 h5.2 (Or.inr h2.2.2.2.2.1.2.1)
  have eC : ∀ k, cC τ t k = cC σ t k := fun k => by rw [cC, cA, eA, e3, ek]
  have eT : ∀ j, zI τ (tA σ t) j = zI σ (tA σ t) j := fun j => hI _ _ h4.2 (Or.inr (Or.inr (Or.inr ⟨h4.1, Or.inl h2.2.1⟩)))
  have em : ∀ a j, 50 ≤ a → a ≤ 61 → zI τ a j = zI σ a j := fun a j x y => hI a j (by omega) (Or.inr (Or.inr (Or.inl ⟨x, y⟩)))
  have ec : ∀ k, k < m → ∀ j, zI τ (cC σ t k) j = zI σ (cC σ t k) j := fun k hk j => hI _ _ (h11 k hk).1.2 (Or.inr (Or.inr (Or.inr ⟨(h11 k hk).1.1, Or.inr (h2.2.2.2.2.2 k hk).2⟩)))
  refine ⟨⟨m, h1, ?_, by rw [em 52 _ (by decide) (by decide)]; exact h3, by rw [eA]; exact ⟨h4.1, Nat.le_trans h4.2 hG.1⟩, by rw [eA, e3]; exact ⟨h5.1, Nat.le_trans h5.2 hG.1⟩, by rw [eA, eT, em 51 _ (by decide) (by decide)]; exact h6, by rw [eA, eT, em 50 _ (by decide) (by decide)]; exact h7, by rw [eA, eT, em 53 _ (by decide) (by decide)]; exact h8, ?_, by rw [eA, eT, em 54 _ (by decide) (by decide)]; exact h10, fun k hk => ?_⟩, fun k _ => eC k⟩
  · rw [eA]
    exact TS_gr (eT 4) (hG.2 _ h4.2).1 e3 (hG.2 _ h5.2).1 (hG.2 _ h5.2).2 (fun k hk => ⟨ek k, (hG.2 _ (h11 k hk).1.2).1⟩) h2
  · rw [eA, eT, h9]
    exact smI_c (fun k _ => (em 57 _ (by decide) (by decide)).symm)
  · have h := h11 k hk
    rw [eC]
    unfold CR at h ⊢
    rw [ec k hk, ec k hk, ec k hk, ec k hk, ec k hk, ec k hk, ec k hk, em 60 _ (by decide) (by decide), em 59 _ (by decide) (by decide), em 57 _ (by decide) (by decide), em 58 _ (by decide) (by decide), em 56 _ (by decide) (by decide), em 55 _ (by decide) (by decide), em 61 _ (by decide) (by decide)]
    exact ⟨⟨h.1.1, Nat.le_trans h.1.2 hG.1⟩, h.2⟩
theorem RK_ag {τ σ : AH} (hG : Gr τ σ) (hI : ∀ a k, a ≤ zN σ → FK σ a k → zI τ a k = zI σ a k) (hR : ∀ t, zR τ 30 t = zR σ 30 t) (hR2 : ∀ a k, 72 < a → a ≤ zN σ → zK σ a = 9 ∨ zK σ a = 32 → zR τ a k = zR σ a k) (hn : 72 ≤ zN σ) (h : RK σ) : RK τ := by
  obtain ⟨n, h1, h2, h3, h4, h5, h6, h7⟩ := h
  have hT := fun t ht => TR_ag hG hI (hR t) hR2 hn (h4 t ht)
  have e52 : ∀ t, zI τ 52 t = zI σ 52 t := fun t => hI 52 t (by omega) (Or.inr (Or.inr (Or.inl (by omega))))
  refine ⟨n, h1, by rw [hI 33 23 (by omega) (Or.inl ⟨rfl, rfl⟩)]; exact h2, by rw [hI 2 8 (by omega) (Or.inr (Or.inl ⟨rfl, rfl⟩))]; exact h3, fun t ht => (hT t ht).1, fun t u ht hu q => h5 t u ht hu (by rw [tA, tA, hR, hR] at q; exact q), fun t u j k ht hu hj hk q => ?_, fun c hc => by rw [hI 55 c (by omega) (Or.inr (Or.inr (Or.inl (by omega))))]; exact h7 c hc⟩
  rw [e52] at hj hk
  rw [(hT t ht).2 j hj, (hT u hu).2 k hk] at q
  exact h6 t u j k ht hu hj hk q
/-- how a bill may stand: its status, its rejections, the clearing that settled it -/
def SS (s r z : Nat) : Prop := z < 1073741824 ∧ ((s = 0 ∧ r ≤ 2) ∨ (s = 1 ∧ r ≤ 2 ∧ 1 ≤ z) ∨ (s = 2 ∧ r ≤ 3) ∨ (s = 3 ∧ r ≤ 2 ∧ 1 ≤ z) ∨ (s = 4 ∧ r = 3 ∧ 1 ≤ z))
/-- a bill's row -/
def BR (σ : AH) (b : Nat) : Prop := bA σ b ≤ zN σ ∧ zI σ (bA σ b) 0 = zI σ 64 b ∧ zI σ (bA σ b) 1 = zI σ 65 b ∧ (zI σ (bA σ b) 2 = zI σ 63 b ∧ bt (zI σ 63 b) (-1073741824) 1073741824) ∧ zI σ (bA σ b) 3 = zI σ 62 b ∧ zI σ (bA σ b) 4 = zI σ 66 b ∧ zI σ (bA σ b) 5 = zI σ 67 b ∧ ∃ s r z, zI σ 62 b = nI s ∧ zI σ 66 b = nI r ∧ zI σ 67 b = nI z ∧ SS s r z
/-- how many coupons are flown -/
def flN (σ : AH) : Nat → Nat
  | 0 => 0
  | d + 1 => flN σ d + if zI σ 55 d = 1 then 1 else 0
/-- bills -/
def RB (i : Nat) (σ : AH) : Prop := ∃ n, BS σ n ∧ zI σ 33 36 = nI n ∧ (∀ b, b < n → BR σ b) ∧ (∀ b, n ≤ b → zI σ 66 b = 0 ∧ zI σ 67 b = 0) ∧ (∃ q, q ≤ i ∧ zI σ 27 3 = nI q ∧ zI σ 33 43 = nI q) ∧ zI σ 27 4 = dfS σ 5 ∧ (∀ c, c < 5 → zI σ 68 c = 0 ∨ zI σ 68 c = 1) ∧ n ≤ flN σ 240
def FB (σ : AH) (a k : Nat) : Prop := (a = 33 ∧ (k = 36 ∨ k = 43)) ∨ (a = 27 ∧ 2 ≤ k ∧ k ≤ 4) ∨ a = 55 ∨ (62 ≤ a ∧ a ≤ 68) ∨ (72 < a ∧ zK σ a = 0)
theorem flN_ag {τ σ : AH} (h : ∀ k, zI τ 55 k = zI σ 55 k) : ∀ d, flN τ d = flN σ d
  | 0 => rfl
  | d + 1 => by rw [flN, flN, flN_ag h d, h]
theorem dfS_ag {τ σ : AH} (h : ∀ k, zI τ 68 k = zI σ 68 k) : ∀ d, dfS τ d = dfS σ d
  | 0 => rfl
  | d + 1 => by rw [dfS, dfS, dfS_ag h d, h]
theorem BS_gr {τ σ : AH} {n : Nat} (h2 : zI τ 27 2 = zI σ 27 2) (hI : ∀ b, b < n → zI τ (bA σ b) 0 = zI σ (bA σ b) 0 ∧ zI τ (bA σ b) 1 = zI σ (bA σ b) 1 ∧ zK τ (bA σ b) = zK σ (bA σ b)) (hR : ∀ b, zR τ 28 b = zR σ 28 b) (h : BS σ n) : BS τ n := by
  have eA : ∀ b, bA τ b = bA σ b := fun b => hR b
  refine ⟨h.1, by rw [h2]; exact h.2.1, fun b hb => ?_, fun b c hb hc q => h.2.2.2 b c hb hc (by rw [eA, eA] at q; exact q)⟩
  rw [eA, (hI b hb).2.2, (hI b hb).1, (hI b hb).2.1]
  exact h.2.2.1 b hb
theorem RB_ag {τ σ : AH} {i : Nat} (hG : Gr τ σ) (hI : ∀ a k, a ≤ zN σ → FB σ a k → zI τ a k = zI σ a k) (hR : ∀ t, zR τ 28 t = zR σ 28 t) (hn : 72 ≤ zN σ) (h : RB i σ) : RB i τ := by
  obtain ⟨n, h1, h2, h3, h4, ⟨q, h5, h6, h7⟩, h8, h9, h10⟩ := h
  have eA : ∀ b, bA τ b = bA σ b := fun b => hR b
  have em : ∀ a j, 62 ≤ a → a ≤ 68 → zI τ a j = zI σ a j := fun a j x y => hI a j (by omega) (Or.inr (Or.inr (Or.inr (Or.inl ⟨x, y⟩))))
  have e27 : ∀ j, 2 ≤ j → j ≤ 4 → zI τ 27 j = zI σ 27 j := fun j x y => hI 27 j (by omega) (Or.inr (Or.inl ⟨rfl, x, y⟩))
  have eb : ∀ b, b < n → ∀ j, zI τ (bA σ b) j = zI σ (bA σ b) j := fun b hb j => hI _ j (h3 b hb).1 (Or.inr (Or.inr (Or.inr (Or.inr ⟨(h1.2.2.1 b hb).1, (h1.2.2.1 b hb).2.1⟩))))
  refine ⟨n, BS_gr (e27 2 (by decide) (by decide)) (fun b hb => ⟨eb b hb 0, eb b hb 1, (hG.2 _ (h3 b hb).1).1⟩) hR h1, by rw [hI 33 36 (by omega) (Or.inl (by omega))]; exact h2, fun b hb => ?_, fun b hb => by rw [em 66 _ (by decide) (by decide), em 67 _ (by decide) (by decide)]; exact h4 b hb, ⟨q, h5, by rw [e27 3 (by decide) (by decide)]; exact h6, by rw [hI 33 43 (by omega) (Or.inl (by omega))]; exact h7⟩, by rw [e27 4 (by decide) (by decide), dfS_ag (fun k => em 68 k (by decide) (by decide))]; exact h8, fun c hc => by rw [em 68 _ (by decide) (by decide)]; exact h9 c hc, by rw [flN_ag (fun k => hI 55 k (by omega) (Or.inr (Or.inr (Or.inl rfl))))]; exact h10⟩
  have h := h3 b hb
  unfold BR at h ⊢
  rw [eA, eb b hb, eb b hb, eb b hb, eb b hb, eb b hb, eb b hb, em 64 _ (by decide) (by decide), em 65 _ (by decide) (by decide), em 63 _ (by decide) (by decide), em 62 _ (by decide) (by decide), em 66 _ (by decide) (by decide), em 67 _ (by decide) (by decide)]
  exact ⟨Nat.le_trans h.1 hG.1, h.2⟩
/-- what a carrier has by bills and by tickets, from the reference's rows -/
def gpM (σ : AH) (b : Nat) : Int32 := if zI σ 62 b = 1 ∨ zI σ 62 b = 2 then zI σ 63 b else if zI σ 62 b = 4 then zI σ 63 b - zI σ 63 b / 2 else 0
def gbM (σ : AH) (c : Int32) : Nat → Int64
  | 0 => 0
  | d + 1 => (gbM σ c d + if zI σ 65 d = c then Int32.toInt64 (gpM σ d) else 0) - if zI σ 64 d = c then Int32.toInt64 (gpM σ d) else 0
def ftM (σ : AH) (t k : Nat) : Int32 := if zI σ 55 (8 * t + k) = 1 then zI σ 57 (8 * t + k) else 0
def tkM (σ : AH) (c : Int32) : Nat → Int64
  | 0 => 0
  | d + 1 => tkM σ c d + if zI σ 51 d = c then zJ σ (tA σ d) 7 - Int32.toInt64 (smI (ftM σ d) (ix (zI σ 52 d))) else 0
/-- money -/
def RC (σ : AH) : Prop := (∀ c, c < 5 → zJ σ 31 c = zJ σ 70 c) ∧ (∀ p, p < 10 → zJ σ 32 p = zJ σ 71 p) ∧ zJ σ 2 10 = zJ σ 33 48 ∧ zI σ 2 9 = zI σ 33 15 ∧ bt (zI σ 33 15) 0 100 ∧ ∀ c, c < 5 → zJ σ 70 c = gbM σ (nI c) (ix (zI σ 33 36)) + tkM σ (nI c) (ix (zI σ 33 23))
theorem gbM_ag {τ σ : AH} {c : Int32} (h : ∀ a k, 62 ≤ a → a ≤ 65 → zI τ a k = zI σ a k) : ∀ d, gbM τ c d = gbM σ c d
  | 0 => rfl
  | d + 1 => by rw [gbM, gbM, gbM_ag h d, gpM, gpM, h 62 _ (by decide) (by decide), h 63 _ (by decide) (by decide), h 64 _ (by decide) (by decide), h 65 _ (by decide) (by decide)]
theorem tkM_ag {τ σ : AH} {c : Int32} : ∀ d, (∀ t, t < d → zI τ 51 t = zI σ 51 t ∧ zI τ 52 t = zI σ 52 t ∧ zJ τ (tA τ t) 7 = zJ σ (tA σ t) 7 ∧ ∀ k, k < ix (zI σ 52 t) → ftM τ t k = ftM σ t k) → tkM τ c d = tkM σ c d
  | 0, _ => rfl
  | d + 1, h => by
    obtain ⟨h1, h2, h3, h4⟩ := h d (by omega)
    rw [tkM, tkM, tkM_ag d (fun t ht => h t (by omega)), h1, h2, h3, smI_c h4]
theorem RC_ag {τ σ : AH} (hJ : ∀ a k, (31 ≤ a ∧ a ≤ 32) ∨ (70 ≤ a ∧ a ≤ 71) ∨ (a = 2 ∧ k = 10) ∨ (a = 33 ∧ k = 48) → zJ τ a k = zJ σ a k) (hI : ∀ a k, (a = 2 ∧ k = 9) ∨ (a = 33 ∧ (k = 15 ∨ k = 36 ∨ k = 23)) ∨ (51 ≤ a ∧ a ≤ 57) ∨ (62 ≤ a ∧ a ≤ 65) → zI τ a k = zI σ a k) (h9 : ∀ t, t < ix (zI σ 33 23) → zJ τ (tA τ t) 7 = zJ σ (tA σ t) 7) (h : RC σ) : RC τ := by
  obtain ⟨h1, h2, h3, h4, h5, h6⟩ := h
  refine ⟨fun c hc => by rw [hJ 31 c (by omega), hJ 70 c (by omega)]; exact h1 c hc, fun c hc => by rw [hJ 32 c (by omega), hJ 71 c (by omega)]; exact h2 c hc, by rw [hJ 2 10 (by omega), hJ 33 48 (by omega)]; exact h3, by rw [hI 2 9 (by omega), hI 33 15 (by omega)]; exact h4, by rw [hI 33 15 (by omega)]; exact h5, fun c hc => ?_⟩
  rw [hJ 70 c (by omega), hI 33 36 (by omega), hI 33 23 (by omega), gbM_ag (fun a k x y => hI a k (by omega)), tkM_ag _ (fun t ht => ⟨hI 51 t (by omega), hI 52 t (by omega), h9 t ht, fun k _ => by rw [ftM, ftM, hI 55 _ (by omega), hI 57 _ (by omega)]⟩)]
  exact h6 c hc
/-- all that holds ahead of the call i -/
def Rel (i : Nat) (σ : AH) : Prop := i ≤ 512 ∧ Sh σ ∧ RT σ ∧ RJ σ ∧ RP σ ∧ RK σ ∧ RB i σ ∧ RC σ
/-- cells that tell nobody anything -/
def QU (a j : Nat) : Prop := (23 ≤ a ∧ a ≤ 26) ∨ (a = 33 ∧ (j = 21 ∨ j = 22 ∨ j = 49))
def Q4 (τ σ : AH) : Prop := zN τ = zN σ ∧ zK τ = zK σ ∧ zL τ = zL σ ∧ zR τ = zR σ ∧ (∀ a j, ¬ QU a j → zI τ a j = zI σ a j) ∧ ∀ a j, a ≠ 29 → a ≠ 69 → a ≠ 72 → zJ τ a j = zJ σ a j
theorem Q4_refl (σ : AH) : Q4 σ σ := ⟨rfl, rfl, rfl, rfl, fun _ _ _ => rfl, fun _ _ _ _ _ => rfl⟩
theorem Q4_tr {ρ τ σ : AH} (h : Q4 ρ τ) (h' : Q4 τ σ) : Q4 ρ σ := ⟨h.1.trans h'.1, h.2.1.trans h'.2.1, h.2.2.1.trans h'.2.2.1, h.2.2.2.1.trans h'.2.2.2.1, fun a j q => (h.2.2.2.2.1 a j q).trans (h'.2.2.2.2.1 a j q), fun a j x y z => (h.2.2.2.2.2 a j x y z).trans (h'.2.2.2.2.2 a j x y z)⟩
theorem Q4_Gr {τ σ : AH} (h : Q4 τ σ) : Gr τ σ := ⟨by rw [h.1]; exact Nat.le_refl _, fun a _ => ⟨by rw [h.2.1], by rw [h.2.2.1]⟩⟩
theorem Q4_Sh {τ σ : AH} (h : Q4 τ σ) (hS : Sh σ) : Sh τ := ⟨by rw [h.1]; exact hS.1, fun a h1 h2 => by rw [h.2.1, h.2.2.1]; exact hS.2.1 a h1 h2, fun q hq => by rw [h.2.2.2.1]; exact hS.2.2.1 q hq, by rw [h.2.1]; exact hS.2.2.2⟩
theorem RB_s {i j : Nat} {σ : AH} (hij : i ≤ j) (h : RB i σ) : RB j σ := by
  obtain ⟨n, h1, h2, h3, h4, ⟨q, h5, h6⟩, h7⟩ := h
  exact ⟨n, h1, h2, h3, h4, ⟨q, Nat.le_trans h5 hij, h6⟩, h7⟩
theorem Rel_q {τ σ : AH} {i j : Nat} (hij : i ≤ j) (hj : j ≤ 512) (h : Q4 τ σ) (hR : Rel i σ) : Rel j τ := by
  obtain ⟨h0, hS, hT, hJ, hP, hK, hB, hC⟩ := hR
  have hG := Q4_Gr h
  have e : ∀ a k, ¬ QU a k → zI τ a k = zI σ a k := h.2.2.2.2.1
  have eR : zR τ = zR σ := h.2.2.2.1
  have n72 := hS.1
  refine ⟨hj, Q4_Sh h hS, RT_ag hG (fun a k _ hf => e _ _ ?_) (fun k => by rw [eR]) n72 hT, RJ_ag (e _ _ ?_) (e _ _ ?_) (fun a k _ _ => e _ _ ?_) (fun a k _ _ => e _ _ ?_) (fun k q => by rw [e 34 k (by unfold QU; omega)]; exact q) hJ, RP_ag (fun a k q => e _ _ ?_) hP, RK_ag hG (fun a k _ hf => e _ _ ?_) (fun t => by rw [eR]) (fun a k _ _ _ => by rw [eR]) n72 hK, RB_s hij (RB_ag hG (fun a k _ hf => e _ _ ?_) (fun t => by rw [eR]) n72 hB), RC_ag (fun a k q => h.2.2.2.2.2 a k ?_ ?_ ?_) (fun a k q => e _ _ ?_) (fun t ht => ?_) hC⟩
  · unfold FT at hf; unfold QU; omega
  · unfold QU; omega
  · unfold QU; omega
  · unfold QU; omega
  · unfold QU; omega
  · unfold QU; omega
  · unfold FK at hf; unfold QU; omega
  · unfold FB at hf; unfold QU; omega
  · omega
  · omega
  · omega
  · unfold QU; omega
  · obtain ⟨n, k1, k2, k3, k4, -⟩ := hK
    rw [k2, ix, cl0 (by omega)] at ht
    obtain ⟨m, t1, t2, t3, t4, -⟩ := k4 t ht
    rw [tA, eR]
    exact h.2.2.2.2.2 _ _ (by have := t4.1; unfold tA at this; omega) (by have := t4.1; unfold tA at this; omega) (by have := t4.1; unfold tA at this; omega)
theorem Q4_49 {τ σ : AH} {x : Int32} (h : Q4 τ σ) : Q4 (uI τ 33 49 x) σ := Q4_tr (τ := τ) ⟨rfl, rfl, rfl, rfl, fun a j q => by rw [zI_uI, if_neg (fun z => q (Or.inr ⟨z.1, by omega⟩))], fun _ _ _ _ _ => rfl⟩ h
theorem Q4_72 {τ σ : AH} {k : Nat} {x : Int64} (h : Q4 τ σ) : Q4 (uJ τ 72 k x) σ := Q4_tr (τ := τ) ⟨rfl, rfl, rfl, rfl, fun a j q => rfl, fun a j _ _ z => by rw [zJ_uJ, if_neg (fun q => z q.1)]⟩ h
theorem Q4_hW {τ σ : AH} {w : Int32 × Int32} (h : Q4 τ σ) : Q4 (hW τ w) σ := Q4_tr (τ := τ) ⟨rfl, rfl, rfl, rfl, fun a j q => by rw [hW, zI_uI, if_neg (fun z => q (Or.inr ⟨z.1, by omega⟩)), zI_uI, if_neg (fun z => q (Or.inr ⟨z.1, by omega⟩))], fun _ _ _ _ _ => rfl⟩ h
theorem Q4_ciH {τ σ : AH} (h : Q4 τ σ) : Q4 (ciH τ) σ := by
  unfold ciH
  split
  · exact h
  · exact Q4_hW h
theorem Q4_flW {τ σ : AH} (h : Q4 τ σ) : Q4 (flW τ) σ := by
  obtain ⟨e1, e2, e3, e4, e5⟩ := flW_N (σ := τ)
  exact Q4_tr ⟨e1, e2, e3, e5, fun a j q => flW_I ⟨fun z => q (Or.inl (by omega)), fun z => q (Or.inl (by omega)), fun z => q (Or.inl (by omega))⟩, fun a j _ _ _ => by rw [e4]⟩ h
theorem Q4_alH {τ σ : AH} (h : Q4 τ σ) : Q4 (alH τ) σ := by
  obtain ⟨e1, e2, e3, e4, e5⟩ := alH_N (σ := τ)
  exact Q4_tr ⟨e1, e2, e3, e5, fun a j q => alH_I (fun z => q (Or.inl (by omega))), fun a j _ _ _ => by rw [e4]⟩ h
