/-! ===== calls: bills settled or undone ===== -/
theorem Rel_bills {i n : Nat} {σ ω : AH} (hi : i < 512) (h : Rel i σ) (hB0 : BS σ n) (eN : zN ω = zN σ) (eK : zK ω = zK σ) (eL : zL ω = zL σ) (eR : zR ω = zR σ)
    (e : ∀ b j, ¬ QU b j → ¬ (72 < b ∧ zK σ b = 0 ∧ (j = 3 ∨ j = 5)) → ¬ (b = 62 ∨ b = 67) → ¬ (b = 27 ∧ (j = 3 ∨ j = 4)) → ¬ (b = 33 ∧ j = 43) → b ≠ 68 → zI ω b j = zI σ b j)
    (r : ∀ b, b < n → zI ω (bA σ b) 3 = zI ω 62 b ∧ zI ω (bA σ b) 5 = zI ω 67 b ∧ ∃ s r z, zI ω 62 b = nI s ∧ zI ω 66 b = nI r ∧ zI ω 67 b = nI z ∧ SS s r z) (e67 : ∀ b, n ≤ b → zI ω 67 b = 0) (e43 : ∃ q, q ≤ i + 1 ∧ zI ω 27 3 = nI q ∧ zI ω 33 43 = nI q)
    (e4 : zI ω 27 4 = dfS ω 5) (e68 : ∀ c, c < 5 → zI ω 68 c = 0 ∨ zI ω 68 c = 1) (j31 : ∀ c, c < 5 → zJ ω 31 c = zJ ω 70 c) (j70 : ∀ c, c < 5 → zJ ω 70 c = zJ σ 70 c + (gbM ω (nI c) n - gbM σ (nI c) n))
    (eJ : ∀ a j, a ≠ 29 → a ≠ 69 → a ≠ 72 → a ≠ 31 → a ≠ 70 → zJ ω a j = zJ σ a j) : Rel (i + 1) ω := by
  obtain ⟨h0, hS, hT, hJ, hP, hK, hB, hC⟩ := h
  have hG : Gr ω σ := ⟨by rw [eN]; exact Nat.le_refl _, fun a _ => ⟨by rw [eK], by rw [eL]⟩⟩
  obtain ⟨n', b1, b2, b3, b4, b5, b8, b9, b10⟩ := hB
  have en : n' = n := by
    have h1 := hB0.2.1
    rw [b1.2.1] at h1
    exact (nI_eq (by have := b1.1; omega) (by have := hB0.1; omega)).mp h1
  subst en
  have hn := b1.1
  have eA : ∀ b, bA ω b = bA σ b := fun b => by rw [bA, eR]
  have e6 : ∀ b j, 63 ≤ b → b ≤ 66 → zI ω b j = zI σ b j := fun b j x y => e b j (by unfold QU; omega) (by omega) (by omega) (by omega) (by omega) (by omega)
  have ef : ∀ b j, b < n' → j ≠ 3 → j ≠ 5 → zI ω (bA σ b) j = zI σ (bA σ b) j := fun b j hb x y => by
    have q := (b1.2.2.1 b hb).1
    exact e _ _ (by unfold QU; omega) (by omega) (by omega) (by omega) (by omega) (by omega)
  refine ⟨hi, ?_, ?_, ?_, ?_, ?_, ?_, ?_⟩
  · exact ⟨by rw [eN]; exact hS.1, fun b x1 x2 => by rw [eK, eL]; exact hS.2.1 b x1 x2, fun q hq => by rw [eR]; exact hS.2.2.1 q hq, by rw [eK]; exact hS.2.2.2⟩
  · exact RT_ag hG (fun a k _ hf => by unfold FT at hf; exact e _ _ (by unfold QU; omega) (by omega) (by omega) (by omega) (by omega) (by omega)) (fun k => by rw [eR]) hS.1 hT
  · exact RJ_ag (e _ _ (by unfold QU; omega) (by omega) (by omega) (by omega) (by omega) (by omega)) (e _ _ (by unfold QU; omega) (by omega) (by omega) (by omega) (by omega) (by omega)) (fun a k _ _ => e _ _ (by unfold QU; omega) (by omega) (by omega) (by omega) (by omega) (by omega)) (fun a k _ _ => e _ _ (by unfold QU; omega) (by omega) (by omega) (by omega) (by omega) (by omega)) (fun k q => by rw [e 34 k (by unfold QU; omega) (by omega) (by omega) (by omega) (by omega) (by omega)]; exact q) hJ
  · exact RP_ag (fun a k q => e _ _ (by unfold QU; omega) (by omega) (by omega) (by omega) (by omega) (by omega)) hP
  · exact RK_ag hG (fun a k _ hf => by unfold FK at hf; exact e _ _ (by unfold QU; omega) (by omega) (by omega) (by omega) (by omega) (by omega)) (fun t => by rw [eR]) (fun a k _ _ _ => by rw [eR]) hS.1 hK
  · refine ⟨n', BS_gr (e 27 2 (by unfold QU; omega) (by omega) (by omega) (by omega) (by omega) (by omega)) (fun b hb => ⟨ef b 0 hb (by decide) (by decide), ef b 1 hb (by decide) (by decide), by rw [eK]⟩) (fun b => by rw [eR]) b1, by rw [e 33 36 (by unfold QU; omega) (by omega) (by omega) (by omega) (by omega) (by omega)]; exact b2, fun b hb => ?_, fun b hb => ⟨by rw [e6 66 b (by decide) (by decide)]; exact (b4 b hb).1, e67 b hb⟩, e43, e4, e68, by rw [flN_ag (fun k => e 55 k (by unfold QU; omega) (by omega) (by omega) (by omega) (by omega) (by omega))]; exact b10⟩
    have w := b3 b hb
    have rb := r b hb
    unfold BR at w ⊢
    rw [eA, eN, ef b 0 hb (by decide) (by decide), ef b 1 hb (by decide) (by decide), ef b 2 hb (by decide) (by decide), ef b 4 hb (by decide) (by decide), e6 64 b (by decide) (by decide), e6 65 b (by decide) (by decide), e6 63 b (by decide) (by decide)]
    rw [e6 66 b (by decide) (by decide)] at rb ⊢
    exact ⟨w.1, w.2.1, w.2.2.1, w.2.2.2.1, rb.1, w.2.2.2.2.2.1, rb.2.1, rb.2.2⟩
  · obtain ⟨d1, d2, d3, d4, d5, d6⟩ := hC
    refine ⟨j31, fun c hc => by rw [eJ 32 c (by decide) (by decide) (by decide) (by decide) (by decide), eJ 71 c (by decide) (by decide) (by decide) (by decide) (by decide)]; exact d2 c hc, by rw [eJ 2 10 (by decide) (by decide) (by decide) (by decide) (by decide), eJ 33 48 (by decide) (by decide) (by decide) (by decide) (by decide)]; exact d3, by rw [e 2 9 (by unfold QU; omega) (by omega) (by omega) (by omega) (by omega) (by omega), e 33 15 (by unfold QU; omega) (by omega) (by omega) (by omega) (by omega) (by omega)]; exact d4, by rw [e 33 15 (by unfold QU; omega) (by omega) (by omega) (by omega) (by omega) (by omega)]; exact d5, fun c hc => ?_⟩
    have hx0 : ix (nI n') = n' := by rw [ix, cl0 (by omega)]
    have hd := d6 c hc
    rw [b2, hx0] at hd
    rw [j70 c hc, hd, e 33 36 (by unfold QU; omega) (by omega) (by omega) (by omega) (by omega) (by omega), b2, hx0, e 33 23 (by unfold QU; omega) (by omega) (by omega) (by omega) (by omega) (by omega), tkM_ag _ (fun t ht => ⟨e 51 t (by unfold QU; omega) (by omega) (by omega) (by omega) (by omega) (by omega), e 52 t (by unfold QU; omega) (by omega) (by omega) (by omega) (by omega) (by omega), ?_, fun k _ => by rw [ftM, ftM, e 55 _ (by unfold QU; omega) (by omega) (by omega) (by omega) (by omega) (by omega), e 57 _ (by unfold QU; omega) (by omega) (by omega) (by omega) (by omega) (by omega)]⟩)]
    · grind
    · have t72 := TR_72 (RK_t hK ht)
      have et : tA ω t = tA σ t := by rw [tA, eR]
      rw [et]
      exact eJ _ _ (by omega) (by omega) (by omega) (by omega) (by omega)
/-- the bits of the carriers in default -/
theorem SS_cl {s r z v : Nat} (hv : v < 1073741824) (h1 : 1 ≤ v) (h : SS s r z) (hs : s = 0 ∨ s = 2) : SS (if r = 3 then 4 else 1) r v := by
  unfold SS at *
  split <;> omega

