/-! ===== calls: bills turned, and the money ===== -/
def gpV (s m : Int32) : Int32 := if s = 1 ∨ s = 2 then m else if s = 4 then m - m / 2 else 0
theorem gpM_V {σ : AH} {b : Nat} : gpM σ b = gpV (zI σ 62 b) (zI σ 63 b) := rfl
theorem RB_c {i n : Nat} {σ : AH} (hB : RB i σ) (hB0 : BS σ n) : zI σ 33 36 = nI n ∧ (∀ b, b < n → BR σ b ∧ vp_in (zI σ 64 b) 5 ∧ vp_in (zI σ 65 b) 5) ∧ (∀ b, n ≤ b → zI σ 66 b = 0 ∧ zI σ 67 b = 0) := by
  obtain ⟨n', b1, b2, b3, b4, b5, b8, b9, b10⟩ := hB
  have en : n' = n := by
    have h1 := hB0.2.1
    rw [b1.2.1] at h1
    exact (nI_eq (by have := b1.1; omega) (by have := hB0.1; omega)).mp h1
  subst en
  refine ⟨b2, fun b hb => ?_, b4⟩
  have r := b3 b hb
  have q := (b1.2.2.1 b hb).2.2
  refine ⟨r, ?_, ?_⟩
  · have := isCa_vp q.1
    rw [r.2.1] at this; exact this
  · have := isCa_vp q.2
    rw [r.2.2.1] at this; exact this
theorem Rel_turn {i n : Nat} {σ ω : AH} {C : Nat → Prop} {st : Nat → Int32} {v : Int32} {f : Nat → Nat → Int64} {D : Nat → Int64} (hi : i < 512) (h : Rel i σ) (hB0 : BS σ n) (eN : zN ω = zN σ) (eK : zK ω = zK σ) (eL : zL ω = zL σ) (eR : zR ω = zR σ)
    (e : ∀ b j, ¬ QU b j → ¬ (72 < b ∧ zK σ b = 0 ∧ (j = 3 ∨ j = 5)) → ¬ (b = 62 ∨ b = 67) → ¬ (b = 27 ∧ (j = 3 ∨ j = 4)) → ¬ (b = 33 ∧ j = 43) → b ≠ 68 → zI ω b j = zI σ b j)
    (y : ∀ b, b < n → C b → zI ω 62 b = st b ∧ zI ω 67 b = v ∧ zI ω (bA σ b) 3 = st b ∧ zI ω (bA σ b) 5 = v)
    (z : ∀ b, b < n → ¬ C b → zI ω 62 b = zI σ 62 b ∧ zI ω 67 b = zI σ 67 b ∧ zI ω (bA σ b) 3 = zI σ (bA σ b) 3 ∧ zI ω (bA σ b) 5 = zI σ (bA σ b) 5)
    (o67 : ∀ b, n ≤ b → zI ω 67 b = zI σ 67 b)
    (hs : ∀ b s r w, b < n → C b → zI σ 62 b = nI s → zI σ 66 b = nI r → zI σ 67 b = nI w → SS s r w → (∃ s' z', st b = nI s' ∧ v = nI z' ∧ SS s' r z') ∧ Int32.toInt64 (gpV (st b) (zI σ 63 b)) = Int32.toInt64 (gpV (zI σ 62 b) (zI σ 63 b)) + D b)
    (hf : ∀ b, b < n → (C b → ∀ c, f b c = (if c = ix (zI σ 65 b) then D b else 0) - (if c = ix (zI σ 64 b) then D b else 0)) ∧ (¬ C b → D b = 0))
    (e43 : ∃ q, q ≤ i + 1 ∧ zI ω 27 3 = nI q ∧ zI ω 33 43 = nI q)
    (e4 : zI ω 27 4 = dfS ω 5) (e68 : ∀ c, c < 5 → zI ω 68 c = 0 ∨ zI ω 68 c = 1) (j31 : ∀ c, c < 5 → zJ ω 31 c = zJ σ 31 c + dlS C f n c) (j70 : ∀ c, c < 5 → zJ ω 70 c = zJ σ 70 c + dlS C f n c)
    (eJ : ∀ a j, a ≠ 29 → a ≠ 69 → a ≠ 72 → a ≠ 31 → a ≠ 70 → zJ ω a j = zJ σ a j) : Rel (i + 1) ω := by
  obtain ⟨w1, w2, w3⟩ := RB_c h.2.2.2.2.2.2.1 hB0
  have hC := h.2.2.2.2.2.2.2
  have e6 : ∀ b j, 63 ≤ b → b ≤ 66 → zI ω b j = zI σ b j := fun b j x y => e b j (by unfold QU; omega) (by omega) (by omega) (by omega) (by omega) (by omega)
  refine Rel_bills hi h hB0 eN eK eL eR e (fun b hb => ?_) (fun b hb => by rw [o67 b hb]; exact (w3 b hb).2) e43 e4 e68 (fun c hc => by rw [j31 c hc, j70 c hc, hC.1 c hc]) (fun c hc => ?_) eJ
  · obtain ⟨r1, r2, r3, r4, r5, r6, r7, s, r, w, s1, s2, s3, s4⟩ := (w2 b hb).1
    by_cases c : C b
    · obtain ⟨y1, y2, y3, y4⟩ := y b hb c
      obtain ⟨⟨s', z', q1, q2, q3⟩, -⟩ := hs b s r w hb c s1 s2 s3 s4
      exact ⟨by rw [y3, y1], by rw [y4, y2], s', r, z', by rw [y1, q1], by rw [e6 66 b (by decide) (by decide), s2], by rw [y2, q2], q3⟩
    · obtain ⟨z1, z2, z3, z4⟩ := z b hb c
      exact ⟨by rw [z3, z1, r5], by rw [z4, z2, r7], s, r, w, by rw [z1, s1], by rw [e6 66 b (by decide) (by decide), s2], by rw [z2, s3], s4⟩
  · have q := gbM_dl (ω := ω) (σ := σ) (C := C) (f := f) (D := D) hc n (fun b hb => by
      obtain ⟨⟨r1, r2, r3, r4, r5, r6, r7, s, r, w, s1, s2, s3, s4⟩, v4, v5⟩ := w2 b hb
      refine ⟨e6 65 b (by decide) (by decide), e6 64 b (by decide) (by decide), v5, v4, ?_, fun hC => (hf b hb).1 hC c, (hf b hb).2⟩
      rw [gpM_V, gpM_V, e6 63 b (by decide) (by decide)]
      by_cases cb : C b
      · rw [(y b hb cb).1]
        exact (hs b s r w hb cb s1 s2 s3 s4).2
      · rw [(z b hb cb).1, (hf b hb).2 cb]
        simp)
    rw [j70 c hc, q]
    grind
theorem blS_J {σ : AH} {C : Nat → Prop} {st : Nat → Int32} {v : Int32} {f : Nat → Nat → Int64} {d a c : Nat} : zJ (blS σ C st v f d) a c = if a = 69 ∨ a = 70 then zJ σ a c + dlS C f d c else zJ σ a c := by
  rw [blS, zJ_s2]
theorem blS_62 {σ : AH} {C : Nat → Prop} {st : Nat → Int32} {v : Int32} {f : Nat → Nat → Int64} {d b : Nat} (hb : b < d) (hc : C b) : zI (blS σ C st v f d) 62 b = st b ∧ zI (blS σ C st v f d) 67 b = v := by
  rw [blS, zI_s2, zI_s2]
  exact ⟨by rw [if_neg (fun q => absurd q.1 (by decide)), if_pos ⟨rfl, hb, hc⟩], by rw [if_pos ⟨rfl, hb, hc⟩]⟩
theorem blS_no {σ : AH} {C : Nat → Prop} {st : Nat → Int32} {v : Int32} {f : Nat → Nat → Int64} {d b a : Nat} (hc : ¬ (b < d ∧ C b)) : zI (blS σ C st v f d) a b = zI σ a b := by
  rw [blS, zI_s2, if_neg (fun q => hc q.2), if_neg (fun q => hc q.2)]
theorem blS_4 {σ : AH} {C : Nat → Prop} {st : Nat → Int32} {v : Int32} {f : Nat → Nat → Int64} {d : Nat} : zN (blS σ C st v f d) = zN σ ∧ zK (blS σ C st v f d) = zK σ ∧ zL (blS σ C st v f d) = zL σ ∧ zR (blS σ C st v f d) = zR σ := ⟨rfl, rfl, rfl, rfl⟩
theorem mnH_I {σ : AH} {d a j : Nat} : zI (mnH σ d) a j = zI σ a j := rfl
theorem mnH_J {σ : AH} {d a c : Nat} : zJ (mnH σ d) a c = if a = 31 ∧ c < d then zJ σ 31 c + zJ σ 29 c else zJ σ a c := rfl
theorem mnH_4 {σ : AH} {d : Nat} : zN (mnH σ d) = zN σ ∧ zK (mnH σ d) = zK σ ∧ zL (mnH σ d) = zL σ ∧ zR (mnH σ d) = zR σ := ⟨rfl, rfl, rfl, rfl⟩
theorem clA_J {σ : AH} {a c : Nat} : zJ (clA σ) a c = if a = 69 ∧ c < 5 then 0 else zJ σ a c := by
  rw [clA, znH, zJ_s2, zJ_uI, zJ_uI]
theorem clA_43 {σ : AH} : zI (clA σ) 33 43 = zI σ 33 43 + 1 := by
  rw [clA, znH, zI_s2, zI_uI, if_pos ⟨rfl, rfl⟩]
theorem clA_4 {σ : AH} : zN (clA σ) = zN σ ∧ zK (clA σ) = zK σ ∧ zL (clA σ) = zL σ ∧ zR (clA σ) = zR σ := ⟨rfl, rfl, rfl, rfl⟩
theorem seB_4 {σ : AH} : zN (seB σ) = zN σ ∧ zK (seB σ) = zK σ ∧ zL (seB σ) = zL σ ∧ zR (seB σ) = zR σ := ⟨rfl, rfl, rfl, rfl⟩
theorem fnH_I {σ : AH} {d a j : Nat} : zI (fnH σ d) a j = zI σ a j := rfl
theorem fnH_J {σ : AH} {d a c : Nat} : zJ (fnH σ d) a c = if a = 29 ∧ c < d then 0 else zJ σ a c := rfl
theorem fnH_4 {σ : AH} {d : Nat} : zN (fnH σ d) = zN σ ∧ zK (fnH σ d) = zK σ ∧ zL (fnH σ d) = zL σ ∧ zR (fnH σ d) = zR σ := ⟨rfl, rfl, rfl, rfl⟩
theorem seB_J {σ : AH} {a c : Nat} : zJ (seB σ) a c = if a = 29 ∧ c < 5 then 0 else zJ σ a c := by
  rw [seB, zJ_uI, fnH_J]
theorem scS_c {f f' : Nat → Int64} : ∀ d, (∀ c, c < d → f c = f' c) → scS f d = scS f' d
  | 0, _ => rfl
  | d + 1, h => by rw [scS, scS, scS_c d (fun c hc => h c (by omega)), h d (by omega)]
theorem ctS_c {C C' : Nat → Prop} : ∀ d, (∀ b, b < d → (C b ↔ C' b)) → ctS C d = ctS C' d
  | 0, _ => by rw [ctS, ctS]
  | d + 1, h => by
    by_cases hC : C d
    · rw [ctS_y hC, ctS_y ((h d (by omega)).mp hC), ctS_c d (fun b hb => h b (by omega))]
    · rw [ctS_n hC, ctS_n (fun q => hC ((h d (by omega)).mpr q)), ctS_c d (fun b hb => h b (by omega))]
/-! clearing -/
theorem BR_o {τ σ : AH} {b : Nat} (hN : zN τ = zN σ) (hR : zR τ = zR σ) (e : ∀ a j, ¬ (a = 27) → zI τ a j = zI σ a j) (h72 : 72 < bA σ b) (h : BR σ b) : BR τ b := by
  have eA : bA τ b = bA σ b := by rw [bA, hR]
  unfold BR at h ⊢
  rw [eA, hN, e _ 0 (by omega), e _ 1 (by omega), e _ 2 (by omega), e _ 3 (by omega), e _ 4 (by omega), e _ 5 (by omega), e 62 _ (by decide), e 63 _ (by decide), e 64 _ (by decide), e 65 _ (by decide), e 66 _ (by decide), e 67 _ (by decide)]
  exact h
theorem clC_c {τ σ : AH} {b : Nat} (e : ∀ a j, 62 ≤ a → a ≤ 68 → zI τ a j = zI σ a j) : clC τ b ↔ clC σ b := by
  rw [clC, clC, e 62 _ (by decide) (by decide), e 64 _ (by decide) (by decide), e 65 _ (by decide) (by decide), e 68 _ (by decide) (by decide), e 68 _ (by decide) (by decide)]
theorem stS_c {τ σ : AH} {b : Nat} (e : ∀ a j, 62 ≤ a → a ≤ 68 → zI τ a j = zI σ a j) : stS τ b = stS σ b := by
  rw [stS, stS, e 62 _ (by decide) (by decide), e 66 _ (by decide) (by decide)]
theorem bkF_c {τ σ : AH} {b : Nat} (e : ∀ a j, 62 ≤ a → a ≤ 68 → zI τ a j = zI σ a j) : bkF τ b = bkF σ b := by
  rw [bkF, bkF, e 63 _ (by decide) (by decide), e 66 _ (by decide) (by decide)]
theorem sdG_c {τ σ : AH} {b c : Nat} (e : ∀ a j, 62 ≤ a → a ≤ 68 → zI τ a j = zI σ a j) : sdG τ b c = sdG σ b c := by
  unfold sdG
  rw [bkF_c e, e 62 _ (by decide) (by decide), e 63 _ (by decide) (by decide), e 64 _ (by decide) (by decide), e 65 _ (by decide) (by decide)]
theorem dfS_5 {σ : AH} : dfS σ 5 = ((((0 ||| (if zI σ 68 0 = 0 then 0 else (1 : Int32) <<< (nI 0 &&& 31))) ||| (if zI σ 68 1 = 0 then 0 else (1 : Int32) <<< (nI 1 &&& 31))) ||| (if zI σ 68 2 = 0 then 0 else (1 : Int32) <<< (nI 2 &&& 31))) ||| (if zI σ 68 3 = 0 then 0 else (1 : Int32) <<< (nI 3 &&& 31))) ||| (if zI σ 68 4 = 0 then 0 else (1 : Int32) <<< (nI 4 &&& 31)) := rfl
/-- the clearing's data -/
noncomputable def clD (σ : AH) (b : Nat) : Int64 := @ite _ (clC σ b) (Classical.propDecidable _) (if zI σ 62 b = 0 then Int32.toInt64 (zI σ 63 b) else -Int32.toInt64 (bkF σ b)) 0
theorem clD_y {σ : AH} {b : Nat} (h : clC σ b) : clD σ b = if zI σ 62 b = 0 then Int32.toInt64 (zI σ 63 b) else -Int32.toInt64 (bkF σ b) := by rw [clD, if_pos h]
theorem clD_n {σ : AH} {b : Nat} (h : ¬ clC σ b) : clD σ b = 0 := by rw [clD, if_neg h]
theorem Rel_clear {i n : Nat} {σ ω : AH} (hi : i < 512) (h : Rel i σ) (hB0 : BS σ n) (eN : zN ω = zN σ) (eK : zK ω = zK σ) (eL : zL ω = zL σ) (eR : zR ω = zR σ)
    (e : ∀ b j, ¬ QU b j → ¬ (72 < b ∧ zK σ b = 0 ∧ (j = 3 ∨ j = 5)) → ¬ (b = 62 ∨ b = 67) → ¬ (b = 27 ∧ j = 3) → ¬ (b = 33 ∧ j = 43) → zI ω b j = zI σ b j)
    (y : ∀ b, b < n → clC σ b → zI ω 62 b = stS σ b ∧ zI ω 67 b = zI σ 33 43 + 1 ∧ zI ω (bA σ b) 3 = stS σ b ∧ zI ω (bA σ b) 5 = zI σ 33 43 + 1)
    (z : ∀ b, b < n → ¬ clC σ b → zI ω 62 b = zI σ 62 b ∧ zI ω 67 b = zI σ 67 b ∧ zI ω (bA σ b) 3 = zI σ (bA σ b) 3 ∧ zI ω (bA σ b) 5 = zI σ (bA σ b) 5)
    (o67 : ∀ b, n ≤ b → zI ω 67 b = zI σ 67 b) (e27 : zI ω 27 3 = zI σ 27 3 + 1) (e33 : zI ω 33 43 = zI σ 33 43 + 1)
    (j31 : ∀ c, c < 5 → zJ ω 31 c = zJ σ 31 c + dlS (clC σ) (sdG σ) n c) (j70 : ∀ c, c < 5 → zJ ω 70 c = zJ σ 70 c + dlS (clC σ) (sdG σ) n c)
    (eJ : ∀ a j, a ≠ 29 → a ≠ 69 → a ≠ 72 → a ≠ 31 → a ≠ 70 → zJ ω a j = zJ σ a j) : Rel (i + 1) ω := by
  have hB := h.2.2.2.2.2.2.1
  obtain ⟨w1, w2, w3⟩ := RB_c hB hB0
  obtain ⟨n', b1, b2, b3, b4, ⟨q, q1, q2, q3⟩, b8, b9, b10⟩ := hB
  have e8 : ∀ k, zI ω 68 k = zI σ 68 k := fun k => e 68 k (by unfold QU; omega) (by omega) (by omega) (by omega) (by omega)
  refine Rel_turn (C := clC σ) (st := stS σ) (v := zI σ 33 43 + 1) (f := sdG σ) (D := clD σ) hi h hB0 eN eK eL eR (fun b j x1 x2 x3 x4 x5 _ => e b j x1 x2 x3 (by omega) x5) y z o67 (fun b s r w hb hc s1 s2 s3 s4 => ?_) (fun b hb => ⟨fun hc c => ?_, fun hc => clD_n hc⟩) ⟨q + 1, by omega, by rw [e27, q2, nI_1], by rw [e33, q3, nI_1]⟩ ?_ (fun c hc => by rw [e8]; exact b9 c hc) j31 j70 eJ
  · have v1 : zI σ 33 43 + 1 = nI (q + 1) := by rw [q3, nI_1]
    have hr := (w2 b hb).1
    have hm := hr.2.2.2.1.2
    rw [clD_y hc]
    have hs := hc.1
    have sx : s < 5 := by unfold SS at s4; omega
    have hs' : s = 0 ∨ s = 2 := by
      rw [s1] at hs
      exact hs.imp (fun t => (nI_eq (b := 0) (by omega) (by decide)).mp t) (fun t => (nI_eq (b := 2) (by omega) (by decide)).mp t)
    have hr3 : r ≤ 3 := by unfold SS at s4; omega
    rcases hs' with rfl | rfl
    · have e0 : zI σ 62 b = 0 := s1
      have es : stS σ b = 1 := by rw [stS, if_pos e0]
      refine ⟨⟨1, q + 1, es, v1, ?_⟩, ?_⟩
      · unfold SS at s4 ⊢; omega
      · rw [es, if_pos e0, e0, gpV, gpV, if_pos (Or.inl rfl), if_neg (by decide), if_neg (by decide)]
        simp
    · have e0 : ¬ zI σ 62 b = 0 := by rw [s1]; decide
      have e2 : zI σ 62 b = 2 := s1
      rw [if_neg e0, e2, bkF]
      by_cases r3 : r = 3
      · subst r3
        have e3 : zI σ 66 b = 3 := s2
        have es : stS σ b = 4 := by rw [stS, if_neg e0, if_pos e3]
        refine ⟨⟨4, q + 1, es, v1, ?_⟩, ?_⟩
        · unfold SS at s4 ⊢; omega
        · rw [es, if_pos e3, gpV, gpV, if_neg (by decide), if_pos rfl, if_pos (Or.inr rfl), half_64 hm]
          grind
      · have e3 : ¬ zI σ 66 b = 3 := fun t => r3 ((nI_eq (b := 3) (by omega) (by decide)).mp (s2.symm.trans t))
        have es : stS σ b = 3 := by rw [stS, if_neg e0, if_neg e3]
        refine ⟨⟨3, q + 1, es, v1, ?_⟩, ?_⟩
        · unfold SS at s4 ⊢; omega
        · rw [es, if_neg e3, gpV, gpV, if_neg (by decide), if_neg (by decide), if_pos (Or.inr rfl)]
          generalize Int32.toInt64 (zI σ 63 b) = x
          have : Int32.toInt64 0 = 0 := by decide
          rw [this]; grind
  · rw [clD_y hc]
    unfold sdG
    by_cases e0 : zI σ 62 b = 0
    · rw [if_pos e0, if_pos e0]
    · rw [if_neg e0, if_neg e0]
      generalize Int32.toInt64 (bkF σ b) = x
      split <;> split <;> grind
  · rw [e 27 4 (by unfold QU; omega) (by omega) (by omega) (by omega) (by omega), b8, dfS_ag e8]
set_option maxRecDepth 100000 in
set_option maxHeartbeats 4000000 in
theorem b_X11_clear_0 {g : GP} {CX : State → Array Value → Prop} {Q : AH → Option Value → Prop} {X : AH → String → Prop}  {σ : AH}
    (hS : Sh σ)
    (o1 : BX σ)
    (k1 : Q (mnH (seH σ) 5) (some (.long (scS (fun c => zJ (mnH (seH σ) 5) 29 c) 5)))) :
    V g mX11_clear (Em g mX11_clear Q X) CX 0 0 0 [(0, .ref 2)] [] σ := by
  refine V_aload_n dX11_clear_0 rfl ?_
  refine V_getf (fk := 4) (Value.ref 27) ko_X11 rfl w_208 dX11_clear_1 (by decide) (shk hS 2 rfl) (congrArg Value.ref (shr hS 2 4 27 (by decide))) ?_
  refine V_callV0 (as := []) (k' := 0) (n' := 0) (s_X1_settle hS o1) mw_X1_settle ko_X1 rfl w_952 w_953 w_951 ar_X1_settle rfl ⟨rfl, rfl, rfl, rfl, rfl⟩ dX11_clear_4 (by decide) (shk hS 27 rfl) ?_
  refine V_aload_n dX11_clear_7 rfl ?_
  refine V_callV0 (as := []) (k' := 0) (n' := 0) (s_X11_moveNets (Sh_seH hS)) mw_X11_moveNets ko_X11 rfl w_982 w_19 w_980 ar_X11_moveNets rfl ⟨rfl, rfl, rfl, rfl, rfl⟩ dX11_clear_8 (by decide) (shk (Sh_seH hS) 2 rfl) ?_
  refine V_aload_n dX11_clear_11 rfl ?_
  refine V_getf (fk := 4) (Value.ref 27) ko_X11 rfl w_208 dX11_clear_12 (by decide) (shk (Sh_s2 (Sh_seH hS)) 2 rfl) (congrArg Value.ref (shr (Sh_s2 (Sh_seH hS)) 2 4 27 (by decide))) ?_
  refine V_callV1 (as := []) (k' := 0) (n' := 0) (s_X1_sumOfNetsAboveZero (Sh_s2 (Sh_seH hS))) mw_X1_sumOfNetsAboveZero ko_X1 rfl w_989 w_990 w_988 ar_X1_sumOfNetsAboveZero rfl ⟨rfl, rfl, rfl, rfl, rfl⟩ dX11_clear_15 (by decide) (shk (Sh_s2 (Sh_seH hS)) 27 rfl) ?_
  exact V_lret rfl dX11_clear_18 k1

set_option maxRecDepth 100000 in
set_option maxHeartbeats 4000000 in
theorem b_X11_fails_0 {g : GP} {CX : State → Array Value → Prop} {Q : AH → Option Value → Prop} {X : AH → String → Prop} {v1 : Int32} {v2 : Int32} {σ : AH}
    (hS : Sh σ)
    (o1 : (isCa v1) → isCa v1)
    (k1 : (isCa v1) → (idF σ v1) → Q (uI σ 27 4 (pdF σ v1 v2)) (some (.int (0 : Int32))))
    (o2 : (isCa v1) → (¬ (idF σ v1)) → (¬ v2 = 0) → BX (uI σ 27 4 (pdF σ v1 v2)))
    (k2 : (isCa v1) → (¬ (idF σ v1)) → (¬ v2 = 0) → Q (mnH (unH (uI σ 27 4 (pdF σ v1 v2)) v1) 5) (some (.int (ctS (unC (fnH (uI σ 27 4 (pdF σ v1 v2)) 5) v1) (ix (zI (uI σ 27 4 (pdF σ v1 v2)) 27 2))))))
    (k3 : (isCa v1) → (¬ (idF σ v1)) → (v2 = 0) → Q (uI σ 27 4 (pdF σ v1 v2)) (some (.int (0 : Int32))))
    (k4 : (¬ (isCa v1)) → X σ "java/lang/IndexOutOfBoundsException") :
    V g mX11_fails (Em g mX11_fails Q X) CX 1 6 0 [(0, .ref 2), (1, .int v1), (2, .int v2)] [] σ := by
  refine V_iload_n dX11_fails_0 rfl ?_
  refine V_callS1 (as := [.int v1]) (k' := 1) (n' := 6) (s_X11_isCarrier) mw_X11_isCarrier w_364 w_363 ar_X11_isCarrier rfl ⟨rfl, rfl, rfl, rfl, rfl⟩ dX11_fails_1 ?_
  refine V_if_ne 17 dX11_fails_4 rfl (fun c1 => ?_) (fun c1 => ?_)
  · replace c1 := jb_n.mp c1
    refine V_aload_n dX11_fails_17 rfl ?_
    refine V_getf (fk := 4) (Value.ref 27) ko_X11 rfl w_208 dX11_fails_18 (by decide) (shk hS 2 rfl) (congrArg Value.ref (shr hS 2 4 27 (by decide))) ?_
    refine V_iload_n dX11_fails_21 rfl ?_
    refine V_callV1 (as := [.int v1]) (k' := 1) (n' := 6) (s_X1_isInDefault hS (o1 c1)) mw_X1_isInDefault ko_X1 rfl w_964 w_965 w_1003 ar_X1_isInDefault rfl ⟨rfl, rfl, rfl, rfl, rfl⟩ dX11_fails_22 (by decide) (shk hS 27 rfl) ?_
    refine V_istore_n [(0, .ref 2), (1, .int v1), (2, .int v2), (3, .int (jb (idF σ v1)))] dX11_fails_25 rfl rfl ?_
    refine V_aload_n dX11_fails_26 rfl ?_
    refine V_getf (fk := 4) (Value.ref 27) ko_X11 rfl w_208 dX11_fails_27 (by decide) (shk hS 2 rfl) (congrArg Value.ref (shr hS 2 4 27 (by decide))) ?_
    refine V_iload_n dX11_fails_30 rfl ?_
    refine V_iload_n dX11_fails_31 rfl ?_
    refine V_callV0 (as := [.int v1, .int v2]) (k' := 1) (n' := 6) (s_X1_putDefault hS (o1 c1)) mw_X1_putDefault ko_X1 rfl w_1005 w_1006 w_1004 ar_X1_putDefault rfl ⟨rfl, rfl, rfl, rfl, rfl⟩ dX11_fails_32 (by decide) (shk hS 27 rfl) ?_
    refine V_iload_n dX11_fails_35 rfl ?_
    refine V_if_ne 43 dX11_fails_36 rfl (fun c2 => ?_) (fun c2 => ?_)
    · replace c2 := jb_n.mp c2
      refine V_iconst (0 : Int32) dX11_fails_43 (by decide) ?_
      exact V_iret rfl dX11_fails_44 (k1 c1 c2)
    · replace c2 := jb_0.mp c2
      refine V_iload_n dX11_fails_39 rfl ?_
      refine V_if_ne 45 dX11_fails_40 rfl (fun c3 => ?_) (fun c3 => ?_)
      · refine V_aload_n dX11_fails_45 rfl ?_
        refine V_getf (fk := 4) (Value.ref 27) ko_X11 rfl w_208 dX11_fails_46 (by decide) (shk (Sh_uI hS) 2 rfl) (congrArg Value.ref (shr (Sh_uI hS) 2 4 27 (by decide))) ?_
        refine V_iload_n dX11_fails_49 rfl ?_
        refine V_callV1 (as := [.int v1]) (k' := 1) (n' := 6) (s_X1_undo (Sh_uI hS) (o2 c1 c2 c3)) mw_X1_undo ko_X1 rfl w_1009 w_1010 w_1008 ar_X1_undo rfl ⟨rfl, rfl, rfl, rfl, rfl⟩ dX11_fails_50 (by decide) (shk (Sh_uI hS) 27 rfl) ?_
        refine V_istore [(0, .ref 2), (1, .int v1), (2, .int v2), (3, .int (jb (idF σ v1))), (4, .int (ctS (unC (fnH (uI σ 27 4 (pdF σ v1 v2)) 5) v1) (ix (zI (uI σ 27 4 (pdF σ v1 v2)) 27 2))))] dX11_fails_53 rfl rfl ?_
        refine V_aload_n dX11_fails_55 rfl ?_
        refine V_callV0 (as := []) (k' := 1) (n' := 6) (s_X11_moveNets (Sh_unH (Sh_uI hS))) mw_X11_moveNets ko_X11 rfl w_982 w_19 w_980 ar_X11_moveNets rfl ⟨rfl, rfl, rfl, rfl, rfl⟩ dX11_fails_56 (by decide) (shk (Sh_unH (Sh_uI hS)) 2 rfl) ?_
        refine V_iload dX11_fails_59 rfl ?_
        exact V_iret rfl dX11_fails_61 (k2 c1 c2 c3)
      · refine V_iconst (0 : Int32) dX11_fails_43 (by decide) ?_
        exact V_iret rfl dX11_fails_44 (k3 c1 c2 c3)
  · replace c1 := jb_0.mp c1
    exact V_throw (k := 1) (n := 6) tw_X11_61 ws_366 dX11_fails_7 dX11_fails_10 dX11_fails_11 dX11_fails_13 dX11_fails_16 rfl rfl rfl rfl rfl (k4 c1)

set_option maxHeartbeats 4000000 in
theorem R_clear {g : GP} {i : Nat} {σ : AH} (hi : i < 512) (h : Rel i σ) : Ct g mX11_clear [.ref 2] σ (QNl (fun b τ => Gh S12_clear τ (RIl i b))) := by
  have hr := h
  obtain ⟨h0, hS, hT, hJ, hP, hK, hB, hC⟩ := h
  obtain ⟨n, n1, n2, n3, n4, n5⟩ := RB_n hB
  obtain ⟨w1, w2, w3⟩ := RB_c hB n1
  have hx : ix (zI σ 27 2) = n := by rw [n3, ix, cl0 (by omega)]
  have hx' : ix (zI σ 33 36) = n := by rw [n2, ix, cl0 (by omega)]
  have hX : BX σ := by rw [BX, hx]; exact n1
  obtain ⟨n', b1, b2, b3, b4, ⟨q, q1, q2, q3⟩, b8, b9, b10⟩ := hB
  have h72 : ∀ b, b < n → 72 < bA σ b ∧ zK σ (bA σ b) = 0 := fun b hb => ⟨(n1.2.2.1 b hb).1, (n1.2.2.1 b hb).2.1⟩
  -- ahead of settling
  have eB : ∀ a j, ¬ (a = 27) → zI (seB σ) a j = zI σ a j := fun a j ha => by rw [seB_I, if_neg (fun t => ha t.1)]
  have hBR : ∀ b, b < n → BR (seB σ) b := fun b hb => BR_o seB_4.1 seB_4.2.2.2 eB (h72 b hb).1 (w2 b hb).1
  have e6B : ∀ a j, 62 ≤ a → a ≤ 68 → zI (seB σ) a j = zI σ a j := fun a j x y => eB a j (by omega)
  have e4B : zI (seB σ) 27 4 = dfS (seB σ) 5 := by rw [seB_I, if_neg (fun t => absurd t.2 (by decide)), b8, dfS_ag (fun k => e6B 68 k (by decide) (by decide))]
  have hCC : ∀ b, b < n → (seC (seB σ) b ↔ clC σ b) := fun b hb => (seB_C (hBR b hb) e4B (fun c hc => by rw [e6B 68 _ (by decide) (by decide)]; exact b9 c hc) (by rw [e6B 64 _ (by decide) (by decide)]; exact (w2 b hb).2.1) (by rw [e6B 65 _ (by decide) (by decide)]; exact (w2 b hb).2.2)).trans (clC_c e6B)
  have hdl : ∀ c, dlS (seC (seB σ)) (mvV (seB σ) (fun b => seV (seB σ) (bA (seB σ) b))) n c = dlS (clC σ) (sdG σ) n c := fun c => dlS_cg n (fun b hb => ⟨hCC b hb, fun _ => (BR_mv (hBR b hb)).trans (sdG_c e6B)⟩)
  have hst : ∀ b, b < n → seS (seB σ) (bA (seB σ) b) = stS σ b := fun b hb => (BR_st (hBR b hb)).trans (stS_c e6B)
  have hBB : BS (seB σ) n := BS_seB n1
  have e34 : zI σ 27 3 = zI σ 33 43 := by rw [q2, q3]
  -- behind it
  have sI : ∀ a j, (j = 3 ∨ j = 5 → ∀ b, b < n → a ≠ bA σ b) → zI (seH σ) a j = zI (seB σ) a j := fun a j t => by
    rw [seH, hx]
    exact kb_I n (fun t2 b hb _ => by rw [seB_A]; exact t t2 b hb)
  have sY : ∀ b, b < n → clC σ b → zI (seH σ) (bA σ b) 3 = stS σ b ∧ zI (seH σ) (bA σ b) 5 = zI σ 33 43 + 1 := fun b hb hc => by
    have t := kb_b (σ := seB σ) (C := seC (seB σ)) (st := fun b => seS (seB σ) (bA (seB σ) b)) (v := zI σ 27 3 + 1) (f := mvV (seB σ) (fun b => seV (seB σ) (bA (seB σ) b))) hBB (b := b) ((hCC b hb).mpr hc) n hb (Nat.le_refl _)
    rw [seH, hx, ← hst b hb, ← e34, ← seB_A (σ := σ)]
    exact t
  have sZ : ∀ b, b < n → ¬ clC σ b → ∀ j, zI (seH σ) (bA σ b) j = zI σ (bA σ b) j := fun b hb hc j => by
    have t := kb_I (σ := seB σ) (C := seC (seB σ)) (st := fun b => seS (seB σ) (bA (seB σ) b)) (v := zI σ 27 3 + 1) (f := mvV (seB σ) (fun b => seV (seB σ) (bA (seB σ) b))) (a := bA σ b) (j := j) n (fun _ b' hb' hc' t => by
      rw [seB_A] at t
      have := n1.2.2.2 b b' hb hb' t
      subst this
      exact hc ((hCC b hb).mp hc'))
    rw [seH, hx, t]
    exact eB _ _ (by have := (h72 b hb).1; omega)
  have sJ : ∀ a c, zJ (seH σ) a c = if a = 29 then zJ (seB σ) a c + dlS (clC σ) (sdG σ) n c else zJ (seB σ) a c := fun a c => by
    rw [seH, hx, kb_J, hdl]
  have s4 : zN (seH σ) = zN σ ∧ zK (seH σ) = zK σ ∧ zL (seH σ) = zL σ ∧ zR (seH σ) = zR σ := by
    rw [seH, hx]
    exact kb_N (σ := seB σ) n
  have hSs : Sh (seH σ) := Sh_seH hS
  refine Ct_of (by decide +kernel) rfl rfl (b_X11_clear_0 hS hX ⟨_, rfl, Sh_s2 (Sh_seH hS), ?_⟩)
  generalize seH σ = κ at *
  have m4 : zN (mnH κ 5) = zN σ ∧ zK (mnH κ 5) = zK σ ∧ zL (mnH κ 5) = zL σ ∧ zR (mnH κ 5) = zR σ := by
    obtain ⟨x1, x2, x3, x4⟩ := s4
    exact ⟨by rw [mnH_4.1, x1], by rw [mnH_4.2.1, x2], by rw [mnH_4.2.2.1, x3], by rw [mnH_4.2.2.2, x4]⟩
  have mI : ∀ a j, zI (mnH κ 5) a j = zI κ a j := fun a j => mnH_I
  have mJ : ∀ a c, zJ (mnH κ 5) a c = if a = 31 ∧ c < 5 then zJ κ 31 c + zJ κ 29 c else zJ κ a c := fun a c => mnH_J
  have hSm : Sh (mnH κ 5) := Sh_s2 hSs
  have m29 : ∀ c, zJ (mnH κ 5) 29 c = zJ κ 29 c := fun c => by rw [mJ, if_neg (fun t => absurd t.1 (by decide))]
  have k29 : ∀ c, c < 5 → zJ κ 29 c = dlS (clC σ) (sdG σ) n c := fun c hc => by rw [sJ, if_pos rfl, seB_J, if_pos ⟨rfl, hc⟩]; grind
  generalize mnH κ 5 = τ at *
  have t72 : ∀ a j, a ≤ 72 → ¬ (a = 27) → zI τ a j = zI σ a j := fun a j ha h27 => by
    rw [mI, sI a j (fun _ b hb t => by have := (h72 b hb).1; omega), eB a j h27]
  have e6 : ∀ a j, 62 ≤ a → a ≤ 68 → zI τ a j = zI σ a j := fun a j x y => t72 a j (by omega) (by omega)
  have hcl : ∀ b, clC τ b ↔ clC σ b := fun b => clC_c e6
  have hx2 : ix (zI τ 33 36) = n := by rw [t72 33 36 (by decide) (by decide), hx']
  have hdl2 : ∀ c, dlS (clC τ) (sdG τ) n c = dlS (clC σ) (sdG σ) n c := fun c => dlS_cg n (fun b hb => ⟨hcl b, fun _ => sdG_c e6⟩)
  have oJ : ∀ a c, zJ (clE τ) a c = if a = 69 ∨ a = 70 then zJ (clA τ) a c + dlS (clC σ) (sdG σ) n c else zJ (clA τ) a c := fun a c => by
    rw [clE, hx2, blS_J, hdl2]
  have oI : ∀ a j, ¬ (a = 62 ∨ a = 67) → ¬ (a = 33 ∧ (j = 43 ∨ j = 49)) → zI (clE τ) a j = zI τ a j := fun a j x y => by
    rw [clE, blS_I (fun t => x t.1), clA_I y]
  have oY : ∀ b, b < n → clC σ b → zI (clE τ) 62 b = stS σ b ∧ zI (clE τ) 67 b = zI σ 33 43 + 1 := fun b hb hc => by
    have t := blS_62 (σ := clA τ) (C := clC τ) (st := stS τ) (v := zI τ 33 43 + 1) (f := sdG τ) hb ((hcl b).mpr hc)
    rw [stS_c e6, t72 33 43 (by decide) (by decide)] at t
    rw [clE, hx2, t72 33 43 (by decide) (by decide)]
    exact t
  have oZ : ∀ b a, ¬ (b < n ∧ clC σ b) → ¬ a = 33 → zI (clE τ) a b = zI τ a b := fun b a hc ha => by
    rw [clE, hx2, blS_no (fun t => hc ⟨t.1, (hcl b).mp t.2⟩), clA_I (fun t => ha t.1)]
  have o43 : zI (clE τ) 33 43 = zI σ 33 43 + 1 := by
    rw [clE, blS_I (fun t => by omega), clA_43, t72 33 43 (by decide) (by decide)]
  have o4 : zN (clE τ) = zN σ ∧ zK (clE τ) = zK σ ∧ zL (clE τ) = zL σ ∧ zR (clE τ) = zR σ := by
    obtain ⟨x1, x2, x3, x4⟩ := m4
    rw [clE]
    exact ⟨by rw [blS_4.1, clA_4.1, x1], by rw [blS_4.2.1, clA_4.2.1, x2], by rw [blS_4.2.2.1, clA_4.2.2.1, x3], by rw [blS_4.2.2.2, clA_4.2.2.2, x4]⟩
  have hA : scS (fun c => zJ (clE τ) 69 c) 5 = scS (fun c => zJ τ 29 c) 5 := scS_c 5 (fun c hc => by
    rw [m29, k29 c hc, oJ, if_pos (Or.inl rfl), clA_J, if_pos ⟨rfl, hc⟩]
    grind)
  refine Gh_mono (s_X12_clear hSm (by rw [t72 33 36 (by decide) (by decide), n2]; exact vp_in_nI (by omega) (by decide)) (fun b hb => by
    rw [hx2] at hb
    rw [e6 64 _ (by decide) (by decide), e6 65 _ (by decide) (by decide)]
    exact (w2 b hb).2)) (fun ω rv qq => ?_)
  obtain ⟨q1, q2⟩ := qq
  rw [hA] at q2
  subst q1
  refine ⟨q2, ?_⟩
  clear q2 hA
  generalize clE τ = ω at *
  · refine Rel_clear hi hr n1 o4.1 o4.2.1 o4.2.2.1 o4.2.2.2 (fun b j x1 x2 x3 x4 x5 => ?_) (fun b hb hc => ?_) (fun b hb hc => ?_) (fun b hb => ?_) ?_ o43 (fun c hc => ?_) (fun c hc => ?_) (fun a j y1 y2 y3 y4 y5 => ?_)
    · rw [oI b j x3 (by unfold QU at x1; omega), mI, sI b j (fun t b' hb' t2 => x2 ⟨by rw [t2]; exact (h72 b' hb').1, by rw [t2]; exact (h72 b' hb').2, t⟩), seB_I, if_neg x4]
    · obtain ⟨y1, y2⟩ := oY b hb hc
      obtain ⟨y3, y4⟩ := sY b hb hc
      have := (h72 b hb).1
      exact ⟨y1, y2, by rw [oI _ _ (by omega) (by omega), mI]; exact y3, by rw [oI _ _ (by omega) (by omega), mI]; exact y4⟩
    · have := (h72 b hb).1
      have hz := sZ b hb hc
      exact ⟨by rw [oZ b 62 (fun t => hc t.2) (by decide), e6 62 _ (by decide) (by decide)], by rw [oZ b 67 (fun t => hc t.2) (by decide), e6 67 _ (by decide) (by decide)], by rw [oI _ _ (by omega) (by omega), mI]; exact hz 3, by rw [oI _ _ (by omega) (by omega), mI]; exact hz 5⟩
    · rw [oZ b 67 (by omega) (by decide), e6 67 _ (by decide) (by decide)]
    · rw [oI 27 3 (by decide) (by decide), mI, sI 27 3 (fun _ b hb t => by have := (h72 b hb).1; omega), seB_I, if_pos ⟨rfl, rfl⟩]
    · rw [oJ, if_neg (by decide), clA_J, if_neg (by omega), mJ, if_pos ⟨rfl, hc⟩, k29 c hc, sJ, if_neg (by decide), seB_J, if_neg (by omega)]
    · rw [oJ, if_pos (Or.inr rfl), clA_J, if_neg (by omega), mJ, if_neg (by omega), sJ, if_neg (by decide), seB_J, if_neg (by omega)]
    · rw [oJ, if_neg (by omega), clA_J, if_neg (by omega), mJ, if_neg (by omega), sJ, if_neg y1, seB_J, if_neg (by omega)]
