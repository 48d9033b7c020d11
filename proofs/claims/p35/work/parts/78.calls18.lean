/-! ===== calls: a carrier fails ===== -/
theorem pd_bits {σ ω : AH} {x b : Int32} (h4 : zI σ 27 4 = dfS σ 5) (hb : ∀ c, c < 5 → zI σ 68 c = 0 ∨ zI σ 68 c = 1) (hx : vp_in x 5) (hb' : b = 0 ∨ b = 1) (e : ∀ k, k < 5 → zI ω 68 k = if k = ix x then b else zI σ 68 k) : pdF σ x b = dfS ω 5 ∧ ∀ c, c < 5 → zI ω 68 c = 0 ∨ zI ω 68 c = 1 := by
  refine ⟨?_, fun c hc => ?_⟩
  · obtain ⟨n, hn, rfl⟩ := vp_in_of hx (by decide)
    have en : ix (nI n) = n := by rw [ix, cl0 (by omega)]
    rw [en] at e
    rw [pdF, h4, dfS_5, dfS_5, e 0 (by decide), e 1 (by decide), e 2 (by decide), e 3 (by decide), e 4 (by decide)]
    have h0 := hb 0 (by decide)
    have h1 := hb 1 (by decide)
    have h2 := hb 2 (by decide)
    have h3 := hb 3 (by decide)
    have h4' := hb 4 (by decide)
    clear e hb h4 hx en
    generalize zI σ 68 0 = y0 at *
    generalize zI σ 68 1 = y1 at *
    generalize zI σ 68 2 = y2 at *
    generalize zI σ 68 3 = y3 at *
    generalize zI σ 68 4 = y4 at *
    have q : n = 0 ∨ n = 1 ∨ n = 2 ∨ n = 3 ∨ n = 4 := by omega
    rcases q with q | q | q | q | q <;> subst q <;> rcases hb' with hb' | hb' <;> subst hb' <;> rcases h0 with h0 | h0 <;> rcases h1 with h1 | h1 <;> rcases h2 with h2 | h2 <;> rcases h3 with h3 | h3 <;> rcases h4' with h4' | h4' <;> subst h0 <;> subst h1 <;> subst h2 <;> subst h3 <;> subst h4' <;> decide
  · rw [e c hc]
    split
    · exact hb'
    · exact hb c hc
theorem dlS_F {f : Nat → Nat → Int64} {c : Nat} : ∀ d, dlS (fun _ => False) f d c = 0
  | 0 => by rw [dlS]
  | d + 1 => by rw [dlS_n (fun q => q), dlS_F d]
theorem Rel_bit {i : Nat} {σ ω : AH} {x b : Int32} (hi : i < 512) (h : Rel i σ) (hx : vp_in x 5) (hb' : b = 0 ∨ b = 1) (eN : zN ω = zN σ) (eK : zK ω = zK σ) (eL : zL ω = zL σ) (eR : zR ω = zR σ)
    (e : ∀ a j, ¬ QU a j → a ≠ 68 → ¬ (a = 27 ∧ j = 4) → zI ω a j = zI σ a j) (e68 : ∀ k, k < 5 → zI ω 68 k = if k = ix x then b else zI σ 68 k) (e4 : zI ω 27 4 = pdF σ x b) (eJ : ∀ a j, a ≠ 29 → a ≠ 69 → a ≠ 72 → zJ ω a j = zJ σ a j) : Rel (i + 1) ω := by
  have hB := h.2.2.2.2.2.2.1
  obtain ⟨n, n1, n2, n3, n4, n5⟩ := RB_n hB
  obtain ⟨n', b1, b2, b3, b4, ⟨q, q1, q2, q3⟩, b8, b9, b10⟩ := hB
  obtain ⟨p1, p2⟩ := pd_bits (ω := ω) b8 b9 hx hb' e68
  have h72 : ∀ b, b < n → 72 < bA σ b := fun b hb => (n1.2.2.1 b hb).1
  refine Rel_turn (C := fun _ => False) (st := fun _ => 0) (v := 0) (f := fun _ _ => 0) (D := fun _ => 0) hi h n1 eN eK eL eR (fun b j x1 _ _ x4 _ x6 => e b j x1 x6 (by omega)) (fun _ _ hc => hc.elim) (fun b hb _ => ?_) (fun b _ => e _ _ (by unfold QU; omega) (by omega) (by omega)) (fun _ _ _ _ _ hc => hc.elim) (fun b hb => ⟨fun hc => hc.elim, fun _ => rfl⟩) ⟨q, by omega, by rw [e 27 3 (by unfold QU; omega) (by omega) (by omega)]; exact q2, by rw [e 33 43 (by unfold QU; omega) (by omega) (by omega)]; exact q3⟩ (by rw [e4, p1]) p2 (fun c _ => ?_) (fun c _ => ?_) (fun a j y1 y2 y3 _ _ => eJ a j y1 y2 y3)
  · have := h72 b hb
    exact ⟨e _ _ (by unfold QU; omega) (by omega) (by omega), e _ _ (by unfold QU; omega) (by omega) (by omega), e _ _ (by unfold QU; omega) (by omega) (by omega), e _ _ (by unfold QU; omega) (by omega) (by omega)⟩
  · rw [dlS_F, eJ 31 c (by decide) (by decide) (by decide)]; simp
  · rw [dlS_F, eJ 70 c (by decide) (by decide) (by decide)]; simp
noncomputable def ufD (σ : AH) (x : Int32) (b : Nat) : Int64 := @ite _ (ufC σ x b) (Classical.propDecidable _) (if zI σ 62 b = 1 then -Int32.toInt64 (zI σ 63 b) else Int32.toInt64 (bkF σ b)) 0
theorem ufD_y {σ : AH} {x : Int32} {b : Nat} (h : ufC σ x b) : ufD σ x b = if zI σ 62 b = 1 then -Int32.toInt64 (zI σ 63 b) else Int32.toInt64 (bkF σ b) := by rw [ufD, if_pos h]
theorem ufD_n {σ : AH} {x : Int32} {b : Nat} (h : ¬ ufC σ x b) : ufD σ x b = 0 := by rw [ufD, if_neg h]
theorem Rel_undo {i n : Nat} {σ ω : AH} {x v : Int32} (hi : i < 512) (h : Rel i σ) (hB0 : BS σ n) (hx : vp_in x 5) (hv : v = 0 ∨ v = 1) (eN : zN ω = zN σ) (eK : zK ω = zK σ) (eL : zL ω = zL σ) (eR : zR ω = zR σ)
    (e : ∀ b j, ¬ QU b j → ¬ (72 < b ∧ zK σ b = 0 ∧ (j = 3 ∨ j = 5)) → ¬ (b = 62 ∨ b = 67) → ¬ (b = 27 ∧ j = 4) → b ≠ 68 → zI ω b j = zI σ b j)
    (y : ∀ b, b < n → ufC σ x b → zI ω 62 b = udS σ b ∧ zI ω 67 b = 0 ∧ zI ω (bA σ b) 3 = udS σ b ∧ zI ω (bA σ b) 5 = 0)
    (z : ∀ b, b < n → ¬ ufC σ x b → zI ω 62 b = zI σ 62 b ∧ zI ω 67 b = zI σ 67 b ∧ zI ω (bA σ b) 3 = zI σ (bA σ b) 3 ∧ zI ω (bA σ b) 5 = zI σ (bA σ b) 5)
    (o67 : ∀ b, n ≤ b → zI ω 67 b = zI σ 67 b) (e68 : ∀ k, k < 5 → zI ω 68 k = if k = ix x then v else zI σ 68 k) (e4 : zI ω 27 4 = pdF σ x v)
    (j31 : ∀ c, c < 5 → zJ ω 31 c = zJ σ 31 c + dlS (ufC σ x) (udG σ) n c) (j70 : ∀ c, c < 5 → zJ ω 70 c = zJ σ 70 c + dlS (ufC σ x) (udG σ) n c)
    (eJ : ∀ a j, a ≠ 29 → a ≠ 69 → a ≠ 72 → a ≠ 31 → a ≠ 70 → zJ ω a j = zJ σ a j) : Rel (i + 1) ω := by
  have hB := h.2.2.2.2.2.2.1
  obtain ⟨w1, w2, w3⟩ := RB_c hB hB0
  obtain ⟨n', b1, b2, b3, b4, ⟨q, q1, q2, q3⟩, b8, b9, b10⟩ := hB
  obtain ⟨p1, p2⟩ := pd_bits (ω := ω) b8 b9 hx hv e68
  refine Rel_turn (C := ufC σ x) (st := udS σ) (v := 0) (f := udG σ) (D := ufD σ x) hi h hB0 eN eK eL eR (fun b j x1 x2 x3 x4 _ x6 => e b j x1 x2 x3 (by omega) x6) y z o67 (fun b s r w hb hc s1 s2 s3 s4 => ?_) (fun b hb => ⟨fun hc c => ?_, fun hc => ufD_n hc⟩) ⟨q, by omega, by rw [e 27 3 (by unfold QU; omega) (by omega) (by omega) (by omega) (by omega)]; exact q2, by rw [e 33 43 (by unfold QU; omega) (by omega) (by omega) (by omega) (by omega)]; exact q3⟩ (by rw [e4, p1]) p2 j31 j70 eJ
  · have hr := (w2 b hb).1
    have hm := hr.2.2.2.1.2
    rw [ufD_y hc]
    obtain ⟨-, -, -, c0, c2⟩ := hc
    have sx : s < 5 := by unfold SS at s4; omega
    have n0 : s ≠ 0 := fun t => c0 (by rw [s1, t]; rfl)
    have n2 : s ≠ 2 := fun t => c2 (by rw [s1, t]; rfl)
    have hr3 : r ≤ 3 := by unfold SS at s4; omega
    have t0 : Int32.toInt64 0 = 0 := by decide
    have hs' : s = 1 ∨ s = 3 ∨ s = 4 := by omega
    rcases hs' with rfl | rfl | rfl
    · have e1 : zI σ 62 b = 1 := s1
      have es : udS σ b = 0 := by rw [udS, if_pos e1]
      refine ⟨⟨0, 0, es, rfl, ?_⟩, ?_⟩
      · unfold SS at s4 ⊢; omega
      · rw [es, if_pos e1, e1, gpV, gpV, if_pos (Or.inl rfl), if_neg (by decide), if_neg (by decide), t0]
        generalize Int32.toInt64 (zI σ 63 b) = x
        grind
    · have e1 : ¬ zI σ 62 b = 1 := by rw [s1]; decide
      have e2 : zI σ 62 b = 3 := s1
      have r3 : ¬ r = 3 := by unfold SS at s4; omega
      have e3 : ¬ zI σ 66 b = 3 := fun t => r3 ((nI_eq (b := 3) (by omega) (by decide)).mp (s2.symm.trans t))
      have es : udS σ b = 2 := by rw [udS, if_neg e1]
      refine ⟨⟨2, 0, es, rfl, ?_⟩, ?_⟩
      · unfold SS at s4 ⊢; omega
      · rw [es, if_neg e1, e2, bkF, if_neg e3, gpV, gpV, if_pos (Or.inr rfl), if_neg (by decide), if_neg (by decide), t0]
        generalize Int32.toInt64 (zI σ 63 b) = x
        grind
    · have e1 : ¬ zI σ 62 b = 1 := by rw [s1]; decide
      have e2 : zI σ 62 b = 4 := s1
      have r3 : r = 3 := by unfold SS at s4; omega
      have e3 : zI σ 66 b = 3 := by rw [s2, r3]; rfl
      have es : udS σ b = 2 := by rw [udS, if_neg e1]
      refine ⟨⟨2, 0, es, rfl, ?_⟩, ?_⟩
      · unfold SS at s4 ⊢; omega
      · rw [es, if_neg e1, e2, bkF, if_pos e3, gpV, gpV, if_pos (Or.inr rfl), if_neg (by decide), if_pos rfl, half_64 hm]
        generalize Int32.toInt64 (zI σ 63 b) = x
        generalize Int32.toInt64 (zI σ 63 b / 2) = x2
        grind
  · rw [ufD_y hc]
    unfold udG
    by_cases e0 : zI σ 62 b = 1
    · rw [if_pos e0, if_pos e0]
      generalize Int32.toInt64 (zI σ 63 b) = x
      split <;> split <;> grind
    · rw [if_neg e0, if_neg e0]
theorem BR_un {σ : AH} {b c : Nat} (h : BR σ b) : mvV σ (fun b => unV σ (bA σ b)) b c = udG σ b c := by
  have ab := BR_ab h
  obtain ⟨r1, r2, r3, r4, r5, r6, r7, -⟩ := h
  rw [mvV, udG, r2, r3]
  show (if c = ix (zI σ 65 b) then Int32.toInt64 (unV σ (bA σ b)) else 0) - (if c = ix (zI σ 64 b) then Int32.toInt64 (unV σ (bA σ b)) else 0) = _
  rw [unV, r5, r4.1, ab.1]
  by_cases c0 : zI σ 62 b = 1
  · rw [if_pos c0, if_pos c0, neg64 r4.2]
    generalize Int32.toInt64 (zI σ 63 b) = x
    split <;> split <;> grind
  · rw [if_neg c0, if_neg c0]
theorem BR_us {σ : AH} {b : Nat} (h : BR σ b) : unS' σ b = udS σ b := by
  rw [unS', udS, h.2.2.2.2.1]
theorem BR_uc {σ : AH} {b : Nat} {x : Int32} (h : BR σ b) (e : zI σ 27 3 = zI σ 33 43) : unC σ x b ↔ ufC σ x b := by
  obtain ⟨r1, r2, r3, r4, r5, r6, r7, s, r, w, s1, s2, s3, s4⟩ := h
  rw [unC, ufC, r2, r3, r5, r7, e]
  refine ⟨fun ⟨a, b', c⟩ => ⟨a, b', ?_, fun q => c (Or.inl q), fun q => c (Or.inr q)⟩, fun ⟨a, b', c, d, f⟩ => ⟨a, b', fun q => q.elim d f⟩⟩
  rw [← b', s3]
  have hw : 1 ≤ w := by
    unfold SS at s4
    have n0 : s ≠ 0 := fun t => c (Or.inl (by rw [s1, t]; rfl))
    have n2 : s ≠ 2 := fun t => c (Or.inr (by rw [s1, t]; rfl))
    omega
  have hw2 : w < 1073741824 := s4.1
  have e0 : (0 : Int32).toInt = 0 := by decide
  rw [Int32.le_iff_toInt_le, nI_toInt (by omega), e0]
  omega
theorem ufC_c {τ σ : AH} {x : Int32} {b : Nat} (e : ∀ a j, 62 ≤ a → a ≤ 67 → zI τ a j = zI σ a j) (e43 : zI τ 33 43 = zI σ 33 43) : ufC τ x b ↔ ufC σ x b := by
  rw [ufC, ufC, e 62 _ (by decide) (by decide), e 64 _ (by decide) (by decide), e 65 _ (by decide) (by decide), e 67 _ (by decide) (by decide), e43]
theorem udS_c {τ σ : AH} {b : Nat} (e : ∀ a j, 62 ≤ a → a ≤ 67 → zI τ a j = zI σ a j) : udS τ b = udS σ b := by
  rw [udS, udS, e 62 _ (by decide) (by decide)]
theorem udG_c {τ σ : AH} {b c : Nat} (e : ∀ a j, 62 ≤ a → a ≤ 67 → zI τ a j = zI σ a j) : udG τ b c = udG σ b c := by
  unfold udG bkF
  rw [e 62 _ (by decide) (by decide), e 63 _ (by decide) (by decide), e 64 _ (by decide) (by decide), e 65 _ (by decide) (by decide), e 66 _ (by decide) (by decide)]
theorem faH_J {τ : AH} {x : Int32} {a c : Nat} : zJ (faH τ x) a c = if a = 69 ∨ a = 70 then zJ τ a c + dlS (ufC τ x) (udG τ) (ix (zI τ 33 36)) c else zJ τ a c := by
  rw [faH, blS_J, zJ_uI]
theorem faH_4 {τ : AH} {x : Int32} : zN (faH τ x) = zN τ ∧ zK (faH τ x) = zK τ ∧ zL (faH τ x) = zL τ ∧ zR (faH τ x) = zR τ := ⟨rfl, rfl, rfl, rfl⟩
theorem unH_s {σ : AH} {x : Int32} {n : Nat} (hS : Sh σ) (hB0 : BS σ n) (hBR : ∀ b, b < n → BR σ b) (e34 : zI σ 27 3 = zI σ 33 43) :
    (∀ b, b < n → (unC (fnH σ 5) x b ↔ ufC σ x b)) ∧ (∀ a j, (j = 3 ∨ j = 5 → ∀ b, b < n → a ≠ bA σ b) → zI (unH σ x) a j = zI σ a j) ∧ (∀ b, b < n → ufC σ x b → zI (unH σ x) (bA σ b) 3 = udS σ b ∧ zI (unH σ x) (bA σ b) 5 = 0) ∧
    (∀ b, b < n → ¬ ufC σ x b → ∀ j, zI (unH σ x) (bA σ b) j = zI σ (bA σ b) j) ∧ (∀ a c, zJ (unH σ x) a c = if a = 29 then zJ (fnH σ 5) a c + dlS (ufC σ x) (udG σ) n c else zJ (fnH σ 5) a c) ∧ (zN (unH σ x) = zN σ ∧ zK (unH σ x) = zK σ ∧ zL (unH σ x) = zL σ ∧ zR (unH σ x) = zR σ) := by
  have n240 := hB0.1
  have hx : ix (zI σ 27 2) = n := by rw [hB0.2.1, ix, cl0 (by omega)]
  have eI : ∀ a j, zI (fnH σ 5) a j = zI σ a j := fun a j => fnH_I
  have eA : ∀ b, bA (fnH σ 5) b = bA σ b := fun b => rfl
  have h72 : ∀ b, b < n → 72 < bA σ b := fun b hb => (hB0.2.2.1 b hb).1
  have hBB : BS (fnH σ 5) n := BS_ag (τ := fnH σ 5) (σ := σ) (eI 27 2) (fun b _ => ⟨eI _ _, eI _ _⟩) fnH_4.2.1 fnH_4.2.2.2 hB0
  have hBF : ∀ b, b < n → BR (fnH σ 5) b := fun b hb => BR_o fnH_4.1 fnH_4.2.2.2 (fun a j _ => eI a j) (h72 b hb) (hBR b hb)
  have hCC : ∀ b, b < n → (unC (fnH σ 5) x b ↔ ufC σ x b) := fun b hb => (BR_uc (hBF b hb) (by rw [eI, eI]; exact e34)).trans (ufC_c (fun a j _ _ => eI a j) (eI 33 43))
  have hdl : ∀ c, dlS (unC (fnH σ 5) x) (mvV (fnH σ 5) (fun b => unV (fnH σ 5) (bA (fnH σ 5) b))) n c = dlS (ufC σ x) (udG σ) n c := fun c => dlS_cg n (fun b hb => ⟨hCC b hb, fun _ => (BR_un (hBF b hb)).trans (udG_c (fun a j _ _ => eI a j))⟩)
  refine ⟨hCC, fun a j t => ?_, fun b hb hc => ?_, fun b hb hc j => ?_, fun a c => ?_, ?_⟩
  · rw [unH, hx]
    have t3 := kb_I (σ := fnH σ 5) (C := unC (fnH σ 5) x) (st := unS' (fnH σ 5)) (v := 0) (f := mvV (fnH σ 5) (fun b => unV (fnH σ 5) (bA (fnH σ 5) b))) (a := a) (j := j) n (fun t2 b hb _ => t t2 b hb)
    exact t3.trans (eI a j)
  · have t := kb_b (σ := fnH σ 5) (C := unC (fnH σ 5) x) (st := unS' (fnH σ 5)) (v := 0) (f := mvV (fnH σ 5) (fun b => unV (fnH σ 5) (bA (fnH σ 5) b))) hBB (b := b) ((hCC b hb).mpr hc) n hb (Nat.le_refl _)
    rw [unH, hx]
    rw [BR_us (hBF b hb), udS_c (fun a j _ _ => eI a j)] at t
    exact t
  · have t := kb_I (σ := fnH σ 5) (C := unC (fnH σ 5) x) (st := unS' (fnH σ 5)) (v := 0) (f := mvV (fnH σ 5) (fun b => unV (fnH σ 5) (bA (fnH σ 5) b))) (a := bA σ b) (j := j) n (fun _ b' hb' hc' t => by
      have := hB0.2.2.2 b b' hb hb' t
      subst this
      exact hc ((hCC b hb).mp hc'))
    rw [unH, hx, t]
    exact eI _ _
  · rw [unH, hx, kb_J, hdl]
  · rw [unH, hx]
    exact kb_N (σ := fnH σ 5) n
theorem failsA {i : Nat} {σ : AH} {x v : Int32} (hi : i < 512) (h : Rel i σ) (hx : isCa x) (hv : v = 0 ∨ v = 1) (hc : v = 0 ∨ ¬ zI σ 68 (ix x) = 0) : Gh (S12_fails x v) (uJ (uI σ 27 4 (pdF σ x v)) 72 0 (Int32.toInt64 0)) (RE i 0) := by
  have hS : Sh σ := h.2.1
  have hB := h.2.2.2.2.2.2.1
  obtain ⟨n, n1, n2, n3, n4, n5⟩ := RB_n hB
  obtain ⟨w1, w2, w3⟩ := RB_c hB n1
  have hx' : ix (zI σ 33 36) = n := by rw [n2, ix, cl0 (by omega)]
  have eI : ∀ a j, ¬ (a = 27 ∧ j = 4) → zI (uJ (uI σ 27 4 (pdF σ x v)) 72 0 (Int32.toInt64 0)) a j = zI σ a j := fun a j t => by rw [zI_uJ, zI_uI, if_neg t]
  have e4 : zI (uJ (uI σ 27 4 (pdF σ x v)) 72 0 (Int32.toInt64 0)) 27 4 = pdF σ x v := by rw [zI_uJ, zI_uI, if_pos ⟨rfl, rfl⟩]
  have eJ : ∀ a j, a ≠ 72 → zJ (uJ (uI σ 27 4 (pdF σ x v)) 72 0 (Int32.toInt64 0)) a j = zJ σ a j := fun a j t => by rw [zJ_uJ, if_neg (fun q => t q.1), zJ_uI]
  have e72 : zJ (uJ (uI σ 27 4 (pdF σ x v)) 72 0 (Int32.toInt64 0)) 72 0 = Int32.toInt64 0 := out_I
  have e5 : zN (uJ (uI σ 27 4 (pdF σ x v)) 72 0 (Int32.toInt64 0)) = zN σ ∧ zK (uJ (uI σ 27 4 (pdF σ x v)) 72 0 (Int32.toInt64 0)) = zK σ ∧ zL (uJ (uI σ 27 4 (pdF σ x v)) 72 0 (Int32.toInt64 0)) = zL σ ∧ zR (uJ (uI σ 27 4 (pdF σ x v)) 72 0 (Int32.toInt64 0)) = zR σ := ⟨rfl, rfl, rfl, rfl⟩
  have hS2 : Sh (uJ (uI σ 27 4 (pdF σ x v)) 72 0 (Int32.toInt64 0)) := Sh_uJ (Sh_uI hS)
  generalize uJ (uI σ 27 4 (pdF σ x v)) 72 0 (Int32.toInt64 0) = τ at *
  refine s_X12_fails hS2 hv (by rw [eI 33 36 (by decide), n2]; exact vp_in_nI (by omega) (by decide)) (fun b hb => by
    rw [eI 33 36 (by decide), hx'] at hb
    rw [eI 64 _ (by omega), eI 65 _ (by omega)]
    exact (w2 b hb).2) (fun q => absurd hx q) (fun _ _ => ?_) (fun _ q1 q2 => ?_)
  · refine ⟨by rw [zI_uI, if_neg (by omega), zI_uI, if_pos ⟨rfl, rfl⟩], ?_, 0, rfl, fun _ => by rw [zJ_uI, zJ_uI, e72]⟩
    refine Rel_bit hi h (isCa_vp hx) hv (by rw [(z4_uI _ _ _ _).1, (z4_uI _ _ _ _).1, e5.1]) (by rw [(z4_uI _ _ _ _).2.1, (z4_uI _ _ _ _).2.1, e5.2.1]) (by rw [(z4_uI _ _ _ _).2.2.1, (z4_uI _ _ _ _).2.2.1, e5.2.2.1]) (by rw [(z4_uI _ _ _ _).2.2.2, (z4_uI _ _ _ _).2.2.2, e5.2.2.2]) (fun a j x1 x2 x3 => ?_) (fun k hk => ?_) ?_ (fun a j y1 y2 y3 => ?_)
    · rw [zI_uI, if_neg (fun q => x2 q.1), zI_uI, if_neg (fun q => x1 (Or.inr ⟨q.1, by omega⟩)), eI a j x3]
    · rw [zI_uI]
      by_cases c : k = ix x
      · rw [if_pos ⟨rfl, c⟩, if_pos c]
      · rw [if_neg (fun q => c q.2), if_neg c, zI_uI, if_neg (by omega), eI 68 k (by omega)]
    · rw [zI_uI, if_neg (by omega), zI_uI, if_neg (by omega), e4]
    · rw [zJ_uI, zJ_uI, eJ a j y3]
  · rw [eI 68 _ (by omega)] at q2
    exact (hc.elim q1 (fun q => q q2)).elim
theorem failsB {i n : Nat} {σ : AH} {x v : Int32} (hi : i < 512) (h : Rel i σ) (hx : isCa x) (hv : v = 0 ∨ v = 1) (hc1 : ¬ v = 0) (hc2 : zI σ 68 (ix x) = 0) (hB0 : BS σ n) : Gh (S12_fails x v) (uJ (mnH (unH (uI σ 27 4 (pdF σ x v)) x) 5) 72 0 (Int32.toInt64 (ctS (unC (fnH (uI σ 27 4 (pdF σ x v)) 5) x) n))) (RE i 0) := by
  have hS : Sh σ := h.2.1
  have hB := h.2.2.2.2.2.2.1
  have n240 := hB0.1
  obtain ⟨w1, w2, w3⟩ := RB_c hB hB0
  have hx' : ix (zI σ 33 36) = n := by rw [w1, ix, cl0 (by omega)]
  obtain ⟨n', b1, b2, b3, b4, ⟨q, q1, q2, q3⟩, b8, b9, b10⟩ := hB
  have h72 : ∀ b, b < n → 72 < bA σ b ∧ zK σ (bA σ b) = 0 := fun b hb => ⟨(hB0.2.2.1 b hb).1, (hB0.2.2.1 b hb).2.1⟩
  have u4 := z4_uI σ 27 4 (pdF σ x v)
  have uIe : ∀ a j, ¬ (a = 27 ∧ j = 4) → zI (uI σ 27 4 (pdF σ x v)) a j = zI σ a j := fun a j t => by rw [zI_uI, if_neg t]
  have u27 : zI (uI σ 27 4 (pdF σ x v)) 27 4 = pdF σ x v := by rw [zI_uI, if_pos ⟨rfl, rfl⟩]
  have uJe : ∀ a j, zJ (uI σ 27 4 (pdF σ x v)) a j = zJ σ a j := fun a j => zJ_uI _ _ _ _ _ _
  have hSu : Sh (uI σ 27 4 (pdF σ x v)) := Sh_uI hS
  have uA : ∀ b, bA (uI σ 27 4 (pdF σ x v)) b = bA σ b := fun b => rfl
  generalize uI σ 27 4 (pdF σ x v) = ρ at *
  have hBρ : BS ρ n := BS_ag (τ := ρ) (σ := σ) (uIe 27 2 (by decide)) (fun b hb => ⟨uIe _ _ (by have := (h72 b hb).1; omega), uIe _ _ (by have := (h72 b hb).1; omega)⟩) u4.2.1 u4.2.2.2 hB0
  have hBR : ∀ b, b < n → BR ρ b := fun b hb => BR_o u4.1 u4.2.2.2 (fun a j t => uIe a j (fun q => t q.1)) (h72 b hb).1 (w2 b hb).1
  obtain ⟨k1, k2, k3, k4, k5, k6⟩ := unH_s (x := x) hSu hBρ hBR (by rw [uIe 27 3 (by decide), uIe 33 43 (by decide), q2, q3])
  have m6 : ∀ a j, 62 ≤ a → a ≤ 67 → zI ρ a j = zI σ a j := fun a j y z => uIe a j (by omega)
  have hρσ : ∀ b, ufC ρ x b ↔ ufC σ x b := fun b => ufC_c m6 (uIe 33 43 (by decide))
  have hdl : ∀ c, dlS (ufC ρ x) (udG ρ) n c = dlS (ufC σ x) (udG σ) n c := fun c => dlS_cg n (fun b _ => ⟨hρσ b, fun _ => udG_c m6⟩)
  have hct : ctS (unC (fnH ρ 5) x) n = ctS (ufC σ x) n := ctS_c n (fun b hb => (k1 b hb).trans (hρσ b))
  have hSs : Sh (unH ρ x) := Sh_unH hSu
  rw [hct]
  have f29 : ∀ c, c < 5 → zJ (fnH ρ 5) 29 c = 0 := fun c hc => by rw [fnH_J, if_pos ⟨rfl, hc⟩]
  have fo : ∀ a c, a ≠ 29 → zJ (fnH ρ 5) a c = zJ σ a c := fun a c ha => by rw [fnH_J, if_neg (fun t => ha t.1), uJe]
  generalize fnH ρ 5 = φ at *
  generalize unH ρ x = κ at *
  have m4 : zN (mnH κ 5) = zN σ ∧ zK (mnH κ 5) = zK σ ∧ zL (mnH κ 5) = zL σ ∧ zR (mnH κ 5) = zR σ := by
    obtain ⟨x1, x2, x3, x4⟩ := k6
    obtain ⟨y1, y2, y3, y4⟩ := u4
    exact ⟨by rw [mnH_4.1, x1, y1], by rw [mnH_4.2.1, x2, y2], by rw [mnH_4.2.2.1, x3, y3], by rw [mnH_4.2.2.2, x4, y4]⟩
  have mI : ∀ a j, zI (mnH κ 5) a j = zI κ a j := fun a j => mnH_I
  have mJ : ∀ a c, zJ (mnH κ 5) a c = if a = 31 ∧ c < 5 then zJ κ 31 c + zJ κ 29 c else zJ κ a c := fun a c => mnH_J
  have hSm : Sh (mnH κ 5) := Sh_s2 hSs
  generalize mnH κ 5 = μ at *
  have tI : ∀ a j, zI (uJ μ 72 0 (Int32.toInt64 (ctS (ufC σ x) n))) a j = zI κ a j := fun a j => by rw [zI_uJ, mI]
  have tJ : ∀ a j, a ≠ 72 → zJ (uJ μ 72 0 (Int32.toInt64 (ctS (ufC σ x) n))) a j = zJ μ a j := fun a j t => by rw [zJ_uJ, if_neg (fun q => t q.1)]
  have t72 : zJ (uJ μ 72 0 (Int32.toInt64 (ctS (ufC σ x) n))) 72 0 = Int32.toInt64 (ctS (ufC σ x) n) := out_I
  have t4 := z4_uJ μ 72 0 (Int32.toInt64 (ctS (ufC σ x) n))
  have hSt : Sh (uJ μ 72 0 (Int32.toInt64 (ctS (ufC σ x) n))) := Sh_uJ hSm
  generalize uJ μ 72 0 (Int32.toInt64 (ctS (ufC σ x) n)) = τ at *
  have r72 : ∀ a j, a ≤ 72 → ¬ (a = 27 ∧ j = 4) → zI τ a j = zI σ a j := fun a j ha h27 => by
    rw [tI, k2 a j (fun _ b hb t => by rw [uA] at t; have := (h72 b hb).1; omega), uIe a j h27]
  have e6 : ∀ a j, 62 ≤ a → a ≤ 67 → zI τ a j = zI σ a j := fun a j y z => r72 a j (by omega) (by omega)
  have hcl : ∀ b, ufC τ x b ↔ ufC σ x b := fun b => ufC_c e6 (r72 33 43 (by decide) (by decide))
  have hx2 : ix (zI τ 33 36) = n := by rw [r72 33 36 (by decide) (by decide), hx']
  have hdl2 : ∀ c, dlS (ufC τ x) (udG τ) n c = dlS (ufC σ x) (udG σ) n c := fun c => dlS_cg n (fun b _ => ⟨hcl b, fun _ => udG_c e6⟩)
  have hct2 : ctS (ufC τ x) n = ctS (ufC σ x) n := ctS_c n (fun b _ => hcl b)
  have oJ : ∀ a c, zJ (faH τ x) a c = if a = 69 ∨ a = 70 then zJ τ a c + dlS (ufC σ x) (udG σ) n c else zJ τ a c := fun a c => by
    rw [faH_J, hx2, hdl2]
  have oI : ∀ a j, ¬ (a = 62 ∨ a = 67) → ¬ (a = 33 ∧ j = 49) → zI (faH τ x) a j = zI τ a j := fun a j y z => by
    rw [faH, blS_I (fun t => y t.1), zI_uI, if_neg z]
  have o49 : zI (faH τ x) 33 49 = 0 := by
    rw [faH, blS_I (fun t => by omega), zI_uI, if_pos ⟨rfl, rfl⟩]
  have oY : ∀ b, b < n → ufC σ x b → zI (faH τ x) 62 b = udS σ b ∧ zI (faH τ x) 67 b = 0 := fun b hb hc => by
    have t := blS_62 (σ := uI τ 33 49 0) (C := ufC τ x) (st := udS τ) (v := 0) (f := udG τ) hb ((hcl b).mpr hc)
    rw [udS_c e6] at t
    rw [faH, hx2]
    exact t
  have oZ : ∀ b a, ¬ (b < n ∧ ufC σ x b) → ¬ a = 33 → zI (faH τ x) a b = zI τ a b := fun b a hc ha => by
    rw [faH, hx2, blS_no (fun t => hc ⟨t.1, (hcl b).mp t.2⟩), zI_uI, if_neg (fun t => ha t.1)]
  have o4 : zN (faH τ x) = zN σ ∧ zK (faH τ x) = zK σ ∧ zL (faH τ x) = zL σ ∧ zR (faH τ x) = zR σ := by
    obtain ⟨x1, x2, x3, x4⟩ := m4
    obtain ⟨y1, y2, y3, y4⟩ := t4
    exact ⟨by rw [faH_4.1, y1, x1], by rw [faH_4.2.1, y2, x2], by rw [faH_4.2.2.1, y3, x3], by rw [faH_4.2.2.2, y4, x4]⟩
  refine s_X12_fails hSt hv (by rw [r72 33 36 (by decide) (by decide), w1]; exact vp_in_nI (by omega) (by decide)) (fun b hb => by
    rw [hx2] at hb
    rw [e6 64 _ (by decide) (by decide), e6 65 _ (by decide) (by decide)]
    exact (w2 b hb).2) (fun t => absurd hx t) (fun _ t => ?_) (fun _ _ _ => ?_)
  · rw [r72 68 _ (by decide) (by omega)] at t
    exact (t.elim hc1 (fun t => t hc2)).elim
  rw [hx2, hct2]
  generalize faH τ x = ω at *
  refine ⟨by rw [zI_uI, if_neg (by omega), o49], ?_, _, rfl, fun _ => by rw [zJ_uI, oJ, if_neg (by decide), t72]⟩
  have z4 := z4_uI ω 68 (ix x) v
  have pI : ∀ a j, a ≠ 68 → zI (uI ω 68 (ix x) v) a j = zI ω a j := fun a j t => by rw [zI_uI, if_neg (fun q => t q.1)]
  have p68 : ∀ k, zI (uI ω 68 (ix x) v) 68 k = if k = ix x then v else zI σ 68 k := fun k => by
    rw [zI_uI]
    by_cases c : k = ix x
    · rw [if_pos ⟨rfl, c⟩, if_pos c]
    · rw [if_neg (fun q => c q.2), if_neg c, oI 68 k (by omega) (by omega), r72 68 k (by decide) (by omega)]
  have pJ : ∀ a j, zJ (uI ω 68 (ix x) v) a j = zJ ω a j := fun a j => zJ_uI _ _ _ _ _ _
  generalize uI ω 68 (ix x) v = ψ at *
  refine Rel_undo hi h hB0 (isCa_vp hx) hv (by rw [z4.1, o4.1]) (by rw [z4.2.1, o4.2.1]) (by rw [z4.2.2.1, o4.2.2.1]) (by rw [z4.2.2.2, o4.2.2.2]) (fun b j x1 x2 x3 x4 x5 => ?_) (fun b hb hc => ?_) (fun b hb hc => ?_) (fun b hb => ?_) (fun k _ => p68 k) ?_ (fun c hc => ?_) (fun c hc => ?_) (fun a j y1 y2 y3 y4 y5 => ?_)
  · rw [pI b j x5, oI b j x3 (fun t => x1 (Or.inr ⟨t.1, by omega⟩)), tI, k2 b j (fun t b' hb' t2 => x2 (by rw [uA] at t2; rw [t2]; exact ⟨(h72 b' hb').1, (h72 b' hb').2, t⟩)), uIe b j x4]
  · obtain ⟨y1, y2⟩ := oY b hb hc
    obtain ⟨y3, y4⟩ := k3 b hb ((hρσ b).mpr hc)
    rw [uA] at y3 y4
    have := (h72 b hb).1
    exact ⟨by rw [pI 62 b (by decide)]; exact y1, by rw [pI 67 b (by decide)]; exact y2, by rw [pI _ _ (by omega), oI _ _ (by omega) (by omega), tI, y3, udS_c m6], by rw [pI _ _ (by omega), oI _ _ (by omega) (by omega), tI, y4]⟩
  · have := (h72 b hb).1
    have hz := k4 b hb (fun t => hc ((hρσ b).mp t))
    rw [uA] at hz
    exact ⟨by rw [pI 62 b (by decide), oZ b 62 (fun t => hc t.2) (by decide), e6 62 _ (by decide) (by decide)], by rw [pI 67 b (by decide), oZ b 67 (fun t => hc t.2) (by decide), e6 67 _ (by decide) (by decide)], by rw [pI _ _ (by omega), oI _ _ (by omega) (by omega), tI, hz 3, uIe _ _ (by omega)], by rw [pI _ _ (by omega), oI _ _ (by omega) (by omega), tI, hz 5, uIe _ _ (by omega)]⟩
  · rw [pI 67 b (by decide), oZ b 67 (by omega) (by decide), e6 67 _ (by decide) (by decide)]
  · rw [pI 27 4 (by decide), oI 27 4 (by decide) (by decide), tI, k2 27 4 (fun t => by omega), u27]
  · rw [pJ, oJ, if_neg (by decide), tJ 31 c (by decide), mJ, if_pos ⟨rfl, hc⟩, k5, if_neg (by decide), k5, if_pos rfl, f29 c hc, fo 31 c (by decide), hdl]
    grind
  · rw [pJ, oJ, if_pos (Or.inr rfl), tJ 70 c (by decide), mJ, if_neg (by omega), k5, if_neg (by decide), fo 70 c (by decide)]
  · rw [pJ, oJ, if_neg (by omega), tJ a j y3, mJ, if_neg (by omega), k5, if_neg y1, fo a j y1]
theorem R_fails {g : GP} {i : Nat} {σ : AH} {v1 v2 : Int32} (hv : v2 = 0 ∨ v2 = 1) (hi : i < 512) (h : Rel i σ) : CtH g mL_fails [.ref 2, .int v1, .int v2] σ (RQ [-1000001] (fun k τ => Gh (S12_fails v1 v2) τ (RE i k))) := by
  have hr := h
  obtain ⟨h0, hS, hT, hJ, hP, hK, hB, hC⟩ := h
  obtain ⟨n, n1, n2, n3, n4, n5⟩ := RB_n hB
  obtain ⟨w1, w2, w3⟩ := RB_c hB n1
  have hx' : ix (zI σ 33 36) = n := by rw [n2, ix, cl0 (by omega)]
  obtain ⟨n', b1, b2, b3, b4, ⟨q, q1, q2, q3⟩, b8, b9, b10⟩ := hB
  have e2 : ix (zI (uI σ 27 4 (pdF σ v1 v2)) 27 2) = n := by rw [zI_uI, if_neg (by decide), n3, ix, cl0 (by omega)]
  refine w_L_fails (Q := QI (fun k τ => Gh (S12_fails v1 v2) τ (RE i k))) (X := X1 IOO (fun k τ => Gh (S12_fails v1 v2) τ (RE i k))) hS (CtX_of (by decide +kernel) rfl rfl (b_X11_fails_0 hS (fun c => c) (fun c c2 => ?_) (fun c c2 c3 => ?_) (fun c c2 c3 => ?_) (fun c c2 c3 => ?_) (fun c => ⟨rfl, hS, ?_⟩))) QI_q X1_q
  · exact ⟨0, rfl, Sh_uI hS, failsA hi hr c hv (Or.inr ((idF_iff b8 b9 (isCa_vp c)).mp c2))⟩
  · rw [BX, e2]
    exact BS_ag (by rw [zI_uI, if_neg (by decide)]) (fun b hb => by
      have := (n1.2.2.1 b hb).1
      exact ⟨by rw [zI_uI, if_neg (by omega)], by rw [zI_uI, if_neg (by omega)]⟩) (z4_uI _ _ _ _).2.1 (z4_uI _ _ _ _).2.2.2 n1
  · have c4 : zI σ 68 (ix v1) = 0 := Classical.byContradiction (fun t => c2 ((idF_iff b8 b9 (isCa_vp c)).mpr t))
    rw [e2]
    exact ⟨_, rfl, Sh_s2 (Sh_unH (Sh_uI hS)), failsB hi hr c hv c3 c4 n1⟩
  · exact ⟨0, rfl, Sh_uI hS, failsA hi hr c hv (Or.inl c3)⟩
  · exact s_X12_fails hS hv (by rw [n2]; exact vp_in_nI (by omega) (by decide)) (fun b hb => by
      rw [hx'] at hb
      exact (w2 b hb).2) (fun _ => RE_no hi hr (Q4_refl σ) (by decide)) (fun t => absurd t c) (fun t => absurd t c)
