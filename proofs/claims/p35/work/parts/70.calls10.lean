/-! ===== calls: a bill more ===== -/
theorem Rel_bill {i n : Nat} {σ ω : AH} (h : Rel i σ) (hB0 : BS σ n) (hn : n < flN σ 240)
    (eN : zN ω = zN σ + 1) (eK : ∀ a, zK ω a = if a = zN σ + 1 then 0 else zK σ a) (eL : ∀ a, a ≤ zN σ → zL ω a = zL σ a) (eR : ∀ a j, a ≤ zN σ → zR ω a j = if a = 28 ∧ j = n then zN σ + 1 else zR σ a j)
    (e : ∀ b j, b ≤ zN σ → ¬ QU b j → ¬ (b = 27 ∧ j = 2) → ¬ (b = 33 ∧ j = 36) → ¬ (62 ≤ b ∧ b ≤ 65 ∧ j = n) → zI ω b j = zI σ b j)
    (e27 : zI ω 27 2 = nI (n + 1)) (e33 : zI ω 33 36 = nI (n + 1)) (m0 : zI ω (zN σ + 1) 0 = zI ω 64 n) (m1 : zI ω (zN σ + 1) 1 = zI ω 65 n) (m2 : zI ω (zN σ + 1) 2 = zI ω 63 n ∧ bt (zI ω 63 n) (-1073741824) 1073741824)
    (m3 : zI ω (zN σ + 1) 3 = 0) (m62 : zI ω 62 n = 0) (m4 : zI ω (zN σ + 1) 4 = 0) (m5 : zI ω (zN σ + 1) 5 = 0) (c0 : vp_in (zI ω 64 n) 5) (c1 : vp_in (zI ω 65 n) 5)
    (eJ : ∀ a j, a ≠ 29 → a ≠ 69 → a ≠ 72 → a ≤ zN σ → zJ ω a j = zJ σ a j) : Rel i ω := by
  obtain ⟨h0, hS, hT, hJ, hP, hK, hB, hC⟩ := h
  have n72 := hS.1
  have hG : Gr ω σ := ⟨by omega, fun a ha => ⟨by rw [eK, if_neg (by omega)], eL a ha⟩⟩
  have hle := flN_le (σ := σ) 240
  obtain ⟨n', b1, b2, b3, b4, ⟨q, b5, b6, b7⟩, b8, b9, b10⟩ := hB
  have en : n' = n := by
    have h1 := hB0.2.1
    rw [b1.2.1] at h1
    exact (nI_eq (by have := b1.1; omega) (by have := hB0.1; omega)).mp h1
  subst en
  have e5 : ∀ b j, 50 ≤ b → b ≤ 61 → zI ω b j = zI σ b j := fun b j x y => e b j (by omega) (by unfold QU; omega) (by omega) (by omega) (by omega)
  have e6 : ∀ b j, 62 ≤ b → b ≤ 68 → (66 ≤ b ∨ j ≠ n') → zI ω b j = zI σ b j := fun b j x y z => e b j (by omega) (by unfold QU; omega) (by omega) (by omega) (by omega)
  have eA : ∀ b, b ≠ n' → bA ω b = bA σ b := fun b hb => by rw [bA, eR 28 b (by omega), if_neg (by omega)]
  have eAn : bA ω n' = zN σ + 1 := by rw [bA, eR 28 n' (by omega), if_pos ⟨rfl, rfl⟩]
  have eb : ∀ b, b < n' → ∀ j, zI ω (bA σ b) j = zI σ (bA σ b) j := fun b hb j => e _ _ (b3 b hb).1 (by have := (b1.2.2.1 b hb).1; unfold QU; omega) (by have := (b1.2.2.1 b hb).1; omega) (by have := (b1.2.2.1 b hb).1; omega) (by have := (b1.2.2.1 b hb).1; omega)
  refine ⟨h0, ?_, ?_, ?_, ?_, ?_, ?_, ?_⟩
  · refine ⟨by omega, fun b x1 x2 => ?_, fun p hp => ?_, ?_⟩
    · rw [eK, if_neg (by omega), eL b (by omega)]; exact hS.2.1 b x1 x2
    · have hh := List.all_eq_true.mp (show (shRl.all fun q => !Nat.beq q.1 28) = true by decide) p hp
      have hh2 := Nat.le_of_ble_eq_true (List.all_eq_true.mp (show (shRl.all fun q => Nat.ble q.1 72) = true by decide) p hp)
      have hh3 : ¬ p.1 = 28 := fun x => by
        rw [x] at hh; simp at hh
      rw [eR _ _ (by omega), if_neg (fun x => hh3 x.1)]
      exact hS.2.2.1 p hp
    · rw [eK, if_neg (by omega)]; exact hS.2.2.2
  · exact RT_ag hG (fun a k ha hf => e a k ha (by unfold FT at hf; unfold QU; omega) (by unfold FT at hf; omega) (by unfold FT at hf; omega) (by unfold FT at hf; omega)) (fun k => by rw [eR 6 k (by omega), if_neg (by omega)]) n72 hT
  · exact RJ_ag (e _ _ (by omega) (by unfold QU; omega) (by omega) (by omega) (by omega)) (e _ _ (by omega) (by unfold QU; omega) (by omega) (by omega) (by omega)) (fun a k _ _ => e _ _ (by omega) (by unfold QU; omega) (by omega) (by omega) (by omega)) (fun a k _ _ => e _ _ (by omega) (by unfold QU; omega) (by omega) (by omega) (by omega)) (fun k p => by rw [e 34 k (by omega) (by unfold QU; omega) (by omega) (by omega) (by omega)]; exact p) hJ
  · exact RP_ag (fun a k p => e _ _ (by omega) (by unfold QU; omega) (by omega) (by omega) (by omega)) hP
  · exact RK_ag hG (fun a k ha hf => e a k ha (by unfold FK at hf; unfold QU; omega) (by unfold FK at hf; omega) (by unfold FK at hf; omega) (by unfold FK at hf; omega)) (fun t => by rw [eR 30 t (by omega), if_neg (by omega)]) (fun a k x1 x2 _ => by rw [eR a k x2, if_neg (by omega)]) n72 hK
  · refine ⟨n' + 1, ⟨by omega, e27, fun b hb => ?_, fun b c hb hc p => ?_⟩, e33, fun b hb => ?_, fun b hb => by rw [e6 66 b (by decide) (by decide) (by omega), e6 67 b (by decide) (by decide) (by omega)]; exact b4 b (by omega), ⟨q, b5, by rw [e 27 3 (by omega) (by unfold QU; omega) (by omega) (by omega) (by omega)]; exact b6, by rw [e 33 43 (by omega) (by unfold QU; omega) (by omega) (by omega) (by omega)]; exact b7⟩, by rw [e 27 4 (by omega) (by unfold QU; omega) (by omega) (by omega) (by omega), dfS_ag (fun k => e6 68 k (by decide) (by decide) (by omega))]; exact b8, fun c hc => by rw [e6 68 c (by decide) (by decide) (by omega)]; exact b9 c hc, by rw [flN_ag (fun k => e5 55 k (by decide) (by decide))]; omega⟩
    · by_cases x : b = n'
      · subst x
        rw [eAn, eK, if_pos rfl, m0, m1]
        exact ⟨by omega, rfl, vp_isCa c0, vp_isCa c1⟩
      · have r := b1.2.2.1 b (by omega)
        have r2 := (b3 b (by omega)).1
        rw [eA b x, eK, if_neg (by omega), eb b (by omega), eb b (by omega)]
        exact r
    · by_cases x : b = n'
      · by_cases y : c = n'
        · omega
        · have r2 := (b3 c (by omega)).1
          rw [x, eAn, eA c y] at p
          omega
      · have r2 := (b3 b (by omega)).1
        by_cases y : c = n'
        · rw [y, eAn, eA b x] at p
          omega
        · rw [eA b x, eA c y] at p
          exact b1.2.2.2 b c (by omega) (by omega) p
    · by_cases x : b = n'
      · subst x
        have z := b4 b (Nat.le_refl _)
        unfold BR
        rw [eAn, e6 66 b (by decide) (by decide) (by omega), e6 67 b (by decide) (by decide) (by omega), z.1, z.2, m62, m0, m1, m3, m4, m5, eN]
        exact ⟨Nat.le_refl _, rfl, rfl, m2, rfl, rfl, rfl, 0, 0, 0, rfl, rfl, rfl, by unfold SS; omega⟩
      · have r := b3 b (by omega)
        unfold BR at r ⊢
        rw [eA b x, eN, eb b (by omega), eb b (by omega), eb b (by omega), eb b (by omega), eb b (by omega), eb b (by omega), e6 64 _ (by decide) (by decide) (by omega), e6 65 _ (by decide) (by decide) (by omega), e6 63 _ (by decide) (by decide) (by omega), e6 62 _ (by decide) (by decide) (by omega), e6 66 _ (by decide) (by decide) (by omega), e6 67 _ (by decide) (by decide) (by omega)]
        exact ⟨Nat.le_succ_of_le r.1, r.2⟩
  · obtain ⟨d1, d2, d3, d4, d5, d6⟩ := hC
    have e23 : zI ω 33 23 = zI σ 33 23 := e 33 23 (by omega) (by unfold QU; omega) (by omega) (by omega) (by omega)
    refine ⟨fun c hc => by rw [eJ 31 c (by decide) (by decide) (by decide) (by omega), eJ 70 c (by decide) (by decide) (by decide) (by omega)]; exact d1 c hc, fun c hc => by rw [eJ 32 c (by decide) (by decide) (by decide) (by omega), eJ 71 c (by decide) (by decide) (by decide) (by omega)]; exact d2 c hc, by rw [eJ 2 10 (by decide) (by decide) (by decide) (by omega), eJ 33 48 (by decide) (by decide) (by decide) (by omega)]; exact d3, by rw [e 2 9 (by omega) (by unfold QU; omega) (by omega) (by omega) (by omega), e 33 15 (by omega) (by unfold QU; omega) (by omega) (by omega) (by omega)]; exact d4, by rw [e 33 15 (by omega) (by unfold QU; omega) (by omega) (by omega) (by omega)]; exact d5, fun c hc => ?_⟩
    have g0 : gpM ω n' = 0 := by rw [gpM, m62, if_neg (by decide), if_neg (by decide)]
    have hx1 : ix (nI (n' + 1)) = n' + 1 := by rw [ix, cl0 (by omega)]
    have hx0 : ix (nI n') = n' := by rw [ix, cl0 (by omega)]
    have hd := d6 c hc
    rw [b2, hx0] at hd
    rw [eJ 70 c (by decide) (by decide) (by decide) (by omega), e33, hx1, e23, hd, gbM, g0, gbM_cg n' (fun b hb => ⟨e6 65 b (by decide) (by decide) (by omega), e6 64 b (by decide) (by decide) (by omega), by rw [gpM, gpM, e6 62 b (by decide) (by decide) (by omega), e6 63 b (by decide) (by decide) (by omega)]⟩), tkM_ag _ (fun t ht => ⟨e5 51 t (by decide) (by decide), e5 52 t (by decide) (by decide), ?_, fun k _ => by rw [ftM, ftM, e5 55 _ (by decide) (by decide), e5 57 _ (by decide) (by decide)]⟩)]
    · have z0 : Int32.toInt64 (0 : Int32) = 0 := by decide
      rw [z0]
      generalize gbM σ (nI c) n' = x
      generalize tkM σ (nI c) (ix (zI σ 33 23)) = y
      split <;> split <;> grind
    · obtain ⟨m, t1, t2, t3, t4, -⟩ := RK_t hK ht
      have t72 := t4.1
      have tle := t4.2
      have et : tA ω t = tA σ t := by rw [tA, eR 30 t (by omega), if_neg (by omega)]
      rw [et]
      exact eJ _ _ (by omega) (by omega) (by omega) tle

