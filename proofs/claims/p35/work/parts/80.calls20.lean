/-! ===== calls: a ticket more ===== -/
theorem TR_old {τ σ : AH} {t n : Nat} (ht : t < n) (hN : zN σ ≤ zN τ) (hKL : ∀ a, a ≤ zN σ → zK τ a = zK σ a ∧ zL τ a = zL σ a) (hR : ∀ a j, a ≤ zN σ → ¬ (a = 30 ∧ j = n) → zR τ a j = zR σ a j)
    (hI : ∀ a j, 72 < a → a ≤ zN σ → zI τ a j = zI σ a j) (hm5 : ∀ a, 50 ≤ a → a ≤ 54 → zI τ a t = zI σ a t) (hm6 : ∀ a j, 55 ≤ a → a ≤ 61 → j < 8 * n → zI τ a j = zI σ a j) (hn : 72 ≤ zN σ) (h : TR σ t) : TR τ t ∧ tA τ t = tA σ t ∧ ∀ k, k < ix (zI σ 52 t) → cC τ t k = cC σ t k ∧ cC σ t k ≤ zN σ := by
  obtain ⟨m, h1, h2, h3, h4, h5, h6, h7, h8, h9, h10, h11⟩ := h
  have hm8 := h2.2.2.2.1
  have hx : ix (zI σ 52 t) = m := by rw [h3, ix, cl0 (by omega)]
  have eA : tA τ t = tA σ t := hR 30 t (by omega) (by omega)
  have e3 : zR τ (tA σ t) 3 = zR σ (tA σ t) 3 := hR _ _ h4.2 (by omega)
  have ek : ∀ k, zR τ (zR σ (tA σ t) 3) k = zR σ (zR σ (tA σ t) 3) k := fun k => hR _ _ h5.2 (by omega)
  have eC : ∀ k, cC τ t k = cC σ t k := fun k => by rw [cC, cA, eA, e3, ek]
  have eT : ∀ j, zI τ (tA σ t) j = zI σ (tA σ t) j := fun j => hI _ _ h4.1 h4.2
  have ec : ∀ k, k < m → ∀ j, zI τ (cC σ t k) j = zI σ (cC σ t k) j := fun k hk j => hI _ _ (h11 k hk).1.1 (h11 k hk).1.2
  refine ⟨⟨m, h1, ?_, by rw [hm5 52 (by decide) (by decide)]; exact h3, by rw [eA]; exact ⟨h4.1, Nat.le_trans h4.2 hN⟩, by rw [eA, e3]; exact ⟨h5.1, Nat.le_trans h5.2 hN⟩, by rw [eA, eT, hm5 51 (by decide) (by decide)]; exact h6, by rw [eA, eT, hm5 50 (by decide) (by decide)]; exact h7, by rw [eA, eT, hm5 53 (by decide) (by decide)]; exact h8, ?_, by rw [eA, eT, hm5 54 (by decide) (by decide)]; exact h10, fun k hk => ?_⟩, eA, fun k hk => ⟨eC k, (h11 k (by omega)).1.2⟩⟩
  · rw [eA]
    exact TS_gr (eT 4) (hKL _ h4.2).1 e3 (hKL _ h5.2).1 (hKL _ h5.2).2 (fun k hk => ⟨ek k, (hKL _ (h11 k hk).1.2).1⟩) h2
  · rw [eA, eT, h9]
    exact smI_c (fun k hk => (hm6 57 _ (by decide) (by decide) (by omega)).symm)
  · have h := h11 k hk
    have hj : 8 * t + k < 8 * n := by omega
    rw [eC]
    unfold CR at h ⊢
    rw [ec k hk, ec k hk, ec k hk, ec k hk, ec k hk, ec k hk, ec k hk, hm6 60 _ (by decide) (by decide) hj, hm6 59 _ (by decide) (by decide) hj, hm6 57 _ (by decide) (by decide) hj, hm6 58 _ (by decide) (by decide) hj, hm6 56 _ (by decide) (by decide) hj, hm6 55 _ (by decide) (by decide) hj, hm6 61 _ (by decide) (by decide) hj]
    exact ⟨⟨h.1.1, Nat.le_trans h.1.2 hN⟩, h.2⟩
theorem smI_0 {f : Nat → Int32} : ∀ {n : Nat}, (∀ k, k < n → f k = 0) → smI f n = 0
  | 0, _ => rfl
  | n + 1, h => by rw [smI, smI_0 (fun k hk => h k (by omega)), h n (by omega)]; rfl
theorem Rel_tick {i n : Nat} {σ ω : AH} {x : Int64} (h : Rel i σ) (hn : zI σ 33 23 = nI n) (h30 : n < 30) (hSω : Sh ω) (eN : zN σ < zN ω) (eKL : ∀ a, a ≤ zN σ → zK ω a = zK σ a ∧ zL ω a = zL σ a)
    (eR : ∀ a j, a ≤ zN σ → ¬ (a = 30 ∧ j = n) → zR ω a j = zR σ a j) (eR30 : zR ω 30 n = zN σ + 1)
    (eI : ∀ a j, a ≤ zN σ → ¬ QU a j → ¬ (a = 33 ∧ (j = 16 ∨ j = 23)) → ¬ (a = 13 ∧ j = 1) → ¬ (a = 2 ∧ j = 8) → ¬ (50 ≤ a ∧ a ≤ 54 ∧ j = n) → ¬ (55 < a ∧ a ≤ 61 ∧ 8 * n ≤ j) → zI ω a j = zI σ a j)
    (i16 : zI ω 33 16 = 0) (i13 : zI ω 13 1 = 0) (i23 : zI ω 33 23 = nI (n + 1)) (i8 : zI ω 2 8 = nI (n + 1)) (hTR : TR ω n)
    (hc : ∀ k, k < ix (zI ω 52 n) → zN σ < cC ω n k) (hcd : ∀ j k, j < ix (zI ω 52 n) → k < ix (zI ω 52 n) → cC ω n j = cC ω n k → j = k)
    (x7 : zJ ω (zN σ + 1) 7 = x) (j31 : ∀ c, c < 5 → zJ ω 31 c = zJ σ 31 c + if c = ix (zI ω 51 n) then x else 0) (j70 : ∀ c, c < 5 → zJ ω 70 c = zJ σ 70 c + if c = ix (zI ω 51 n) then x else 0)
    (j2 : zJ ω 2 10 = zJ σ 2 10 + x) (j33 : zJ ω 33 48 = zJ σ 33 48 + x)
    (eJ : ∀ a j, a ≤ zN σ → a ≠ 29 → a ≠ 69 → a ≠ 72 → a ≠ 31 → a ≠ 70 → ¬ (a = 2 ∧ j = 10) → ¬ (a = 33 ∧ j = 48) → zJ ω a j = zJ σ a j) : Rel i ω := by
  obtain ⟨h0, hS, hT, hJ, hP, hK, hB, hC⟩ := h
  have n72 := hS.1
  have hG : Gr ω σ := ⟨by omega, eKL⟩
  obtain ⟨n', k1, k2, k3, k4, k5, k6, k7⟩ := id hK
  have en : n' = n := by
    rw [k2] at hn
    exact (nI_eq (by omega) (by omega)).mp hn
  subst en
  have old : ∀ t, t < n' → TR ω t ∧ tA ω t = tA σ t ∧ ∀ k, k < ix (zI σ 52 t) → cC ω t k = cC σ t k ∧ cC σ t k ≤ zN σ := fun t ht => TR_old ht (by omega) eKL eR (fun a j x1 x2 => eI a j x2 (by unfold QU; omega) (by omega) (by omega) (by omega) (by omega) (by omega)) (fun a x1 x2 => eI a t (by omega) (by unfold QU; omega) (by omega) (by omega) (by omega) (by omega) (by omega)) (fun a j x1 x2 x3 => eI a j (by omega) (by unfold QU; omega) (by omega) (by omega) (by omega) (by omega) (by omega)) n72 (k4 t ht)
  have tN : tA ω n' = zN σ + 1 := eR30
  have tle : ∀ t, t < n' → tA σ t ≤ zN σ := fun t ht => by
    obtain ⟨m, h1, h2, h3, h4, -⟩ := k4 t ht
    exact h4.2
  have e52 : ∀ t, t < n' → zI ω 52 t = zI σ 52 t := fun t ht => eI 52 t (by omega) (by unfold QU; omega) (by omega) (by omega) (by omega) (by omega) (by omega)
  have e55 : ∀ j, zI ω 55 j = zI σ 55 j := fun j => eI 55 j (by omega) (by unfold QU; omega) (by omega) (by omega) (by omega) (by omega) (by omega)
  refine ⟨h0, hSω, ?_, ?_, ?_, ?_, ?_, ?_⟩
  · exact RT_ag hG (fun a k ha hf => eI a k ha (by unfold FT at hf; unfold QU; omega) (by unfold FT at hf; omega) (by unfold FT at hf; omega) (by unfold FT at hf; omega) (by unfold FT at hf; omega) (by unfold FT at hf; omega)) (fun k => eR 6 k (by omega) (by omega)) n72 hT
  · obtain ⟨L, j1, j2', j3, j4, j5, j6⟩ := hJ
    refine ⟨0, by decide, by rw [i16]; rfl, by rw [i13]; rfl, fun k hk => ?_, fun k hk => absurd hk (Nat.not_lt_zero _), fun k hk => absurd hk (Nat.not_lt_zero _)⟩
    have el : ∀ j, zI ω (15 + k) j = zI σ (15 + k) j := fun j => eI _ _ (by omega) (by unfold QU; omega) (by omega) (by omega) (by omega) (by omega) (by omega)
    have em : ∀ a j, 46 ≤ a → a ≤ 49 → zI ω a j = zI σ a j := fun a j x y => eI _ _ (by omega) (by unfold QU; omega) (by omega) (by omega) (by omega) (by omega) (by omega)
    rw [el, el, el, el, em 46 _ (by decide) (by decide), em 47 _ (by decide) (by decide), em 48 _ (by decide) (by decide), em 49 _ (by decide) (by decide)]
    exact j4 k hk
  · exact RP_ag (fun a k q => eI a k (by omega) (by unfold QU; omega) (by omega) (by omega) (by omega) (by omega) (by omega)) hP
  · refine ⟨n' + 1, by omega, i23, i8, fun t ht => ?_, fun t u ht hu q => ?_, fun t u j k ht hu hj hk q => ?_, fun c hc' => by rw [e55]; exact k7 c (by omega)⟩
    · by_cases e : t = n'
      · rw [e]; exact hTR
      · exact (old t (by omega)).1
    · by_cases e : t = n'
      · by_cases e' : u = n'
        · omega
        · rw [e, tN, (old u (by omega)).2.1] at q
          have := tle u (by omega)
          omega
      · by_cases e' : u = n'
        · rw [e', tN, (old t (by omega)).2.1] at q
          have := tle t (by omega)
          omega
        · rw [(old t (by omega)).2.1, (old u (by omega)).2.1] at q
          exact k5 t u (by omega) (by omega) q
    · by_cases e : t = n'
      · by_cases e' : u = n'
        · subst e
          subst e'
          exact ⟨rfl, hcd j k hj hk q⟩
        · rw [e52 u (by omega)] at hk
          have q2 := (old u (by omega)).2.2 k hk
          subst e
          have q1 := hc j hj
          rw [q, q2.1] at q1
          omega
      · by_cases e' : u = n'
        · rw [e52 t (by omega)] at hj
          have q2 := (old t (by omega)).2.2 j hj
          subst e'
          have q1 := hc k hk
          rw [← q, q2.1] at q1
          omega
        · rw [e52 t (by omega)] at hj
          rw [e52 u (by omega)] at hk
          rw [((old t (by omega)).2.2 j hj).1, ((old u (by omega)).2.2 k hk).1] at q
          exact k6 t u j k (by omega) (by omega) hj hk q
  · exact RB_ag hG (fun a k ha hf => eI a k ha (by unfold FB at hf; unfold QU; omega) (by unfold FB at hf; omega) (by unfold FB at hf; omega) (by unfold FB at hf; omega) (by unfold FB at hf; omega) (by unfold FB at hf; omega)) (fun t => eR 28 t (by omega) (by omega)) n72 hB
  · obtain ⟨c1, c2, c3, c4, c5, c6⟩ := hC
    have i15 : zI ω 33 15 = zI σ 33 15 := eI 33 15 (by omega) (by unfold QU; omega) (by omega) (by omega) (by omega) (by omega) (by omega)
    refine ⟨fun c hc => by rw [j31 c hc, j70 c hc, c1 c hc], fun p hp => by rw [eJ 32 p (by omega) (by decide) (by decide) (by decide) (by decide) (by decide) (by omega) (by omega), eJ 71 p (by omega) (by decide) (by decide) (by decide) (by decide) (by decide) (by omega) (by omega)]; exact c2 p hp, by rw [j2, j33, c3], by rw [eI 2 9 (by omega) (by unfold QU; omega) (by omega) (by omega) (by omega) (by omega) (by omega), i15]; exact c4, by rw [i15]; exact c5, fun c hc => ?_⟩
    obtain ⟨m, t1, t2, t3, t4, t5, t6, -⟩ := id hTR
    have m8 := t2.2.2.2.1
    obtain ⟨q, hq5, hq⟩ := vp_in_of t6.2 (by decide)
    have hqx : ix (nI q) = q := by rw [ix, cl0 (by omega)]
    have z0 : smI (ftM ω n') (ix (zI ω 52 n')) = 0 := by
      rw [t3, ix, cl0 (by omega)]
      exact smI_0 (fun k hk => by rw [ftM, e55, k7 _ (by omega), if_neg (by decide)])
    have hx1 : ix (nI (n' + 1)) = n' + 1 := by rw [ix, cl0 (by omega)]
    have hx0 : ix (nI n') = n' := by rw [ix, cl0 (by omega)]
    have d6 := c6 c hc
    rw [k2, hx0] at d6
    rw [j70 c hc, d6, i23, hx1, tkM, eI 33 36 (by omega) (by unfold QU; omega) (by omega) (by omega) (by omega) (by omega) (by omega), gbM_ag (fun a k x y => eI a k (by omega) (by unfold QU; omega) (by omega) (by omega) (by omega) (by omega) (by omega)), tkM_ag n' (fun t ht => ⟨eI 51 t (by omega) (by unfold QU; omega) (by omega) (by omega) (by omega) (by omega) (by omega), e52 t ht, ?_, fun k hk => ?_⟩), tN, x7, z0, hq, hqx]
    · have t0 : Int32.toInt64 0 = 0 := by decide
      rw [t0]
      by_cases e : c = q
      · rw [if_pos e, if_pos (by rw [e])]; grind
      · rw [if_neg e, if_neg (fun z => e ((nI_eq (by omega) (by omega)).mp z).symm)]; grind
    · rw [(old t ht).2.1]
      have := TR_72 (k4 t ht)
      exact eJ _ _ (tle t ht) (by omega) (by omega) (by omega) (by omega) (by omega) (by omega) (by omega)
    · have hk8 : k < 8 := by
        obtain ⟨m', s1, s2, s3, -⟩ := k4 t ht
        have := s2.2.2.2.1
        rw [s3, ix, cl0 (by omega)] at hk
        omega
      rw [ftM, ftM, e55, eI 57 _ (by omega) (by unfold QU; omega) (by omega) (by omega) (by omega) (by omega) (by omega)]
