/-! ===== calls: flying, the call ===== -/
theorem uI_self {σ : AH} {a k : Nat} {x : Int32} (h : zI σ a k = x) : uI σ a k x = σ := by
  have e : (fun b j => if b = a ∧ j = k then x else zI σ b j) = zI σ := by
    funext b j
    by_cases c : b = a ∧ j = k
    · rw [if_pos c, c.1, c.2, h]
    · rw [if_neg c]
  show (zN σ, zK σ, zL σ, (fun b j => if b = a ∧ j = k then x else zI σ b j), zJ σ, zR σ) = σ
  rw [e]
  rfl
theorem flN_lt {σ : AH} {q : Nat} (h : ¬ zI σ 55 q = 1) : ∀ d, q < d → flN σ d < d
  | 0, hq => by omega
  | d + 1, hq => by
    have hl := flN_le (σ := σ) d
    rw [flN]
    by_cases e : d = q
    · subst e
      rw [if_neg h]; omega
    · have := flN_lt h d (by omega)
      split <;> omega
theorem i11 (x : Int32) : x + 1 - 1 = x := by grind
theorem flyA {i : Nat} {σ : AH} {t k : Nat} (hi : i < 512) (h : Rel i σ) (ht : t < ix (zI σ 33 23)) (t30 : t < 30) (hk : k < ix (zI σ 52 t)) (hk8 : k < 8) (hcp : isCp σ (nI t) (nI k)) (ho : zI σ 55 (8 * t + k) = 0) (hd : ¬ zI σ 33 0 < zI σ 59 (8 * t + k)) (hc : zI σ 58 (8 * t + k) = zI σ 51 t) :
    Gh (S12_fly (nI t) (nI k)) (uJ (fyH σ t k) 72 0 (Int32.toInt64 (zI σ 61 (8 * t + k)))) (RE i 0) := by
  have hK : RK σ := h.2.2.2.2.2.1
  have hS : Sh σ := h.2.1
  have hTR := RK_t hK ht
  obtain ⟨kc, r1, r2, r3, r4, r5, r6, r7, r8, r9⟩ := cC_2 hTR hk
  have hx : ix (nI t) = t := by rw [ix, cl0 (by omega)]
  have hcpI : cpI (nI t) (nI k) = 8 * t + k := by rw [cpI, hx, ix, cl0 (by omega)]
  have h61 := r9 ho
  rw [h61]
  have eq : ∀ b j, b ≤ 72 → zI (uJ (fyH σ t k) 72 0 (Int32.toInt64 (-1))) b j = zI σ b j := fun b j hb => by rw [zI_uJ, fyH_I, fyT_o hK ht hk (Or.inl hb)]
  obtain ⟨l1, l2, l3, l4, l5⟩ := Rel_fly0 (z := -1) (w := Int32.toInt64 (-1)) hi h ht t30 hk hk8 ho
  have f1 : zI (flH (uJ (fyH σ t k) 72 0 (Int32.toInt64 (-1))) (nI t) (nI k)) (cC σ t k) 8 = -1 := by
    rw [flH_Ir, if_neg (by omega), if_neg (by omega), if_neg (by omega), zI_uJ, fyH_I, fyT_o hK ht hk (Or.inr (Or.inl (by decide))), r8, h61]
  have f2 : zI (flH (uJ (fyH σ t k) 72 0 (Int32.toInt64 (-1))) (nI t) (nI k)) 61 (8 * t + k) = -1 := by
    rw [flH_Ir, if_neg (by omega), if_neg (by omega), if_neg (by omega), eq 61 _ (by decide), h61]
  rw [uI_self f1, uI_self f2] at l1 l2 l3
  have hcp' : isCp (uJ (fyH σ t k) 72 0 (Int32.toInt64 (-1))) (nI t) (nI k) := by
    unfold isCp
    rw [eq 33 23 (by decide), eq 52 _ (by decide)]; exact hcp
  refine s_X12_fly (Sh_uJ (Sh_fyH hS)) (by rw [eq 33 23 (by decide)]; exact RK_N hK) (fun q => by rw [eq 33 23 (by decide)] at q; rw [eq 52 _ (by decide)]; exact (RK_M hK _ q).1) (fun _ => ⟨by rw [eq 51 _ (by decide), hx]; exact (TR_M hTR).2.1, by rw [eq 60 _ (by decide), hcpI]; exact r2.2⟩) (fun _ _ z => absurd ?_ z) (fun z => absurd hcp' z) (fun _ z => absurd ?_ z) (fun _ _ _ _ => ⟨l1, l2, _, rfl, fun _ => l3⟩) (fun _ _ _ z => absurd ?_ z)
  · rw [eq 58 _ (by decide), eq 51 _ (by decide), hcpI, hx]; exact hc
  · rw [eq 55 _ (by decide), eq 33 0 (by decide), eq 59 _ (by decide), hcpI]; exact ⟨ho, hd⟩
  · rw [eq 58 _ (by decide), eq 51 _ (by decide), hcpI, hx]; exact hc
theorem flyB {i n : Nat} {σ : AH} {t k : Nat} (hi : i < 512) (h : Rel i σ) (ht : t < ix (zI σ 33 23)) (t30 : t < 30) (hk : k < ix (zI σ 52 t)) (hk8 : k < 8) (hcp : isCp σ (nI t) (nI k)) (ho : zI σ 55 (8 * t + k) = 0) (hd : ¬ zI σ 33 0 < zI σ 59 (8 * t + k)) (hc : ¬ zI σ 58 (8 * t + k) = zI σ 51 t) (h33 : zI σ 33 36 = nI n) (h27 : zI σ 27 2 = nI n) (n240 : n < 240) (hfl : n ≤ flN σ 240) :
    Gh (S12_fly (nI t) (nI k)) (uJ (uI (blC (fyH σ t k) (zI σ 51 t) (zI σ 58 (8 * t + k)) (zI σ 56 (8 * t + k))) (cC σ t k) 8 (nI n)) 72 0 (Int32.toInt64 (nI n))) (RE i 0) := by
  have hK : RK σ := h.2.2.2.2.2.1
  have hS : Sh σ := h.2.1
  have n72 := hS.1
  have hTR := RK_t hK ht
  obtain ⟨kc, r1, r2, r3, r4, r5, r6, r7, r8, r9⟩ := cC_2 hTR hk
  have hx : ix (nI t) = t := by rw [ix, cl0 (by omega)]
  have hy : ix (nI k) = k := by rw [ix, cl0 (by omega)]
  have hn : ix (nI n) = n := by rw [ix, cl0 (by omega)]
  have hcpI : cpI (nI t) (nI k) = 8 * t + k := by rw [cpI, hx, hy]
  have eq : ∀ b j, b ≤ 72 → b ≠ 27 → zI (uJ (uI (blC (fyH σ t k) (zI σ 51 t) (zI σ 58 (8 * t + k)) (zI σ 56 (8 * t + k))) (cC σ t k) 8 (nI n)) 72 0 (Int32.toInt64 (nI n))) b j = zI σ b j := fun b j hb z => by
    rw [zI_uJ, zI_uI, if_neg (by omega), blC_I, fyH_N.1, if_neg (by omega), if_neg (by omega), if_neg (by omega), if_neg (by omega), if_neg (by omega), if_neg (by omega), fyH_I, fyT_o hK ht hk (Or.inl hb)]
  have L := Rel_fly1 (w := Int32.toInt64 (nI n)) hi h ht t30 hk hk8 ho h27 (by omega) hfl
  have hSB : Sh (uJ (uI (blC (fyH σ t k) (zI σ 51 t) (zI σ 58 (8 * t + k)) (zI σ 56 (8 * t + k))) (cC σ t k) 8 (nI n)) 72 0 (Int32.toInt64 (nI n))) := Sh_uJ (Sh_uI (Sh_blC (Sh_fyH hS)))
  have J72 : zJ (blH (flH (uJ (uI (blC (fyH σ t k) (zI σ 51 t) (zI σ 58 (8 * t + k)) (zI σ 56 (8 * t + k))) (cC σ t k) 8 (nI n)) 72 0 (Int32.toInt64 (nI n))) (nI t) (nI k)) (8 * t + k) n (zI σ 56 (8 * t + k)) (zI σ 51 t) (zI σ 58 (8 * t + k)) (nI n)) 72 0 = Int32.toInt64 (nI n) := by
    rw [blH_J, flH_Jr, if_neg (by omega), if_neg (by omega), zJ_uJ, if_pos ⟨rfl, rfl⟩]
  have I49 : zI (blH (flH (uJ (uI (blC (fyH σ t k) (zI σ 51 t) (zI σ 58 (8 * t + k)) (zI σ 56 (8 * t + k))) (cC σ t k) 8 (nI n)) 72 0 (Int32.toInt64 (nI n))) (nI t) (nI k)) (8 * t + k) n (zI σ 56 (8 * t + k)) (zI σ 51 t) (zI σ 58 (8 * t + k)) (nI n)) 33 49 = 0 := by
    rw [blH_I, if_neg (by omega), if_neg (by omega), if_neg (by omega), if_neg (by omega), if_neg (by omega), if_neg (by omega), flH_Ir, if_neg (by omega), if_neg (by omega), if_pos ⟨rfl, rfl⟩]
  generalize uJ (uI (blC (fyH σ t k) (zI σ 51 t) (zI σ 58 (8 * t + k)) (zI σ 56 (8 * t + k))) (cC σ t k) 8 (nI n)) 72 0 (Int32.toInt64 (nI n)) = τ at *
  have hcp' : isCp τ (nI t) (nI k) := by
    unfold isCp
    rw [eq 33 23 (by decide) (by decide), eq 52 _ (by decide) (by decide)]; exact hcp
  refine s_X12_fly hSB (by rw [eq 33 23 (by decide) (by decide)]; exact RK_N hK) (fun q => by rw [eq 33 23 (by decide) (by decide)] at q; rw [eq 52 _ (by decide) (by decide)]; exact (RK_M hK _ q).1) (fun _ => ⟨by rw [eq 51 _ (by decide) (by decide), hx]; exact (TR_M hTR).2.1, by rw [eq 60 _ (by decide) (by decide), hcpI]; exact r2.2⟩) (fun _ _ _ => by rw [eq 33 36 (by decide) (by decide), h33]; exact vp_in_nI n240 (by decide)) (fun z => absurd hcp' z) (fun _ z => absurd ?_ z) (fun _ _ _ z => absurd z ?_) (fun _ _ _ _ => ?_)
  · rw [eq 55 _ (by decide) (by decide), eq 33 0 (by decide) (by decide), eq 59 _ (by decide) (by decide), hcpI]; exact ⟨ho, hd⟩
  · rw [eq 58 _ (by decide) (by decide), eq 51 _ (by decide) (by decide), hcpI, hx]; exact hc
  · rw [eq 33 36 (by decide) (by decide), eq 56 _ (by decide) (by decide), eq 51 _ (by decide) (by decide), eq 58 _ (by decide) (by decide), h33, hcpI, hx, hn, i11]
    exact ⟨I49, L, _, rfl, fun _ => J72⟩
theorem R_fly {g : GP} {i : Nat} {σ : AH} {v1 v2 : Int32} (hi : i < 512) (h : Rel i σ) : CtH g mL_fly [.ref 2, .int v1, .int v2] σ (RQ [-1000001, -1000003] (fun k τ => Gh (S12_fly v1 v2) τ (RE i k))) := by
  have hr := h
  obtain ⟨h0, hS, hT, hJ, hP, hK, hB, hC⟩ := h
  have hc0 : ¬ atR (zI σ 2 8) 30 v1 (zR σ 30 (ix v1)) = 0 → ¬ atR (zI σ (atR (zI σ 2 8) 30 v1 (zR σ 30 (ix v1))) 4) 8 v2 (cA σ (atR (zI σ 2 8) 30 v1 (zR σ 30 (ix v1))) (ix v2)) = 0 → ∃ t k, TR σ t ∧ t < 30 ∧ v1 = nI t ∧ atR (zI σ 2 8) 30 v1 (zR σ 30 (ix v1)) = tA σ t ∧ k < 8 ∧ v2 = nI k ∧ k < ix (zI σ 52 t) ∧ atR (zI σ (atR (zI σ 2 8) 30 v1 (zR σ 30 (ix v1))) 4) 8 v2 (cA σ (atR (zI σ 2 8) 30 v1 (zR σ 30 (ix v1))) (ix v2)) = cC σ t k ∧ CR σ (cC σ t k) (8 * t + k) ∧ zK σ (cC σ t k) = 2 ∧ (isWi v1 0 (zI σ 33 23 - 1) ∧ isWi v2 0 (zI σ 52 (ix v1) - 1)) ∧ t < ix (zI σ 33 23) := fun c c2 => by
    rcases tick_at hK v1 with ⟨a, t, e1, e2, e3, e4, e5⟩ | ⟨_, a⟩
    · have hi1 : ix v1 = t := by rw [e1, ix, cl0 (by omega)]
      rw [e5] at c2
      rcases coup_at e4 v2 with ⟨b, k, f1, f2, f3, f4, f5, f6⟩ | ⟨_, b⟩
      · exact ⟨t, k, e4, e2, e1, e5, f3, f1, f2, by rw [e5]; exact f6, f4, f5, ⟨a, by rw [hi1]; exact b⟩, e3⟩
      · exact absurd b c2
    · exact absurd a c
  have hc1 : ¬ atR (zI σ 2 8) 30 v1 (zR σ 30 (ix v1)) = 0 → atR (zI σ (atR (zI σ 2 8) 30 v1 (zR σ 30 (ix v1))) 4) 8 v2 (cA σ (atR (zI σ 2 8) 30 v1 (zR σ 30 (ix v1))) (ix v2)) = 0 → ¬ (isWi v1 0 (zI σ 33 23 - 1) ∧ isWi v2 0 (zI σ 52 (ix v1) - 1)) := fun c c2 => by
    rcases tick_at hK v1 with ⟨a, t, e1, e2, e3, e4, e5⟩ | ⟨_, a⟩
    · have hi1 : ix v1 = t := by rw [e1, ix, cl0 (by omega)]
      rw [e5] at c2
      rcases coup_at e4 v2 with ⟨b, k, f1, f2, f3, f4, f5, f6⟩ | ⟨b, _⟩
      · have := f4.1.1
        rw [f6] at c2; omega
      · rw [hi1]; exact fun q => b q.2
    · exact absurd a c
  have hc2 : atR (zI σ 2 8) 30 v1 (zR σ 30 (ix v1)) = 0 → ¬ (isWi v1 0 (zI σ 33 23 - 1) ∧ isWi v2 0 (zI σ 52 (ix v1) - 1)) := fun c => by
    rcases tick_at hK v1 with ⟨a, t, e1, e2, e3, e4, e5⟩ | ⟨a, _⟩
    · have := TR_72 e4
      rw [e5] at c; omega
    · exact fun q => a q.1
  have kT : ¬ atR (zI σ 2 8) 30 v1 (zR σ 30 (ix v1)) = 0 → TX σ (atR (zI σ 2 8) 30 v1 (zR σ 30 (ix v1))) := fun c => by
    rcases tick_at hK v1 with ⟨a, t, e1, e2, e3, e4, e5⟩ | ⟨_, a⟩
    · rw [e5]; exact ⟨_, (TR_M e4).2.2.1⟩
    · exact absurd a c
  have kd : ¬ atR (zI σ 2 8) 30 v1 (zR σ 30 (ix v1)) = 0 → zK σ (atR (zI σ 2 8) 30 v1 (zR σ 30 (ix v1))) = 9 := fun c => by
    obtain ⟨n, h⟩ := kT c
    exact h.2.1
  have kc : ¬ atR (zI σ 2 8) 30 v1 (zR σ 30 (ix v1)) = 0 → ¬ atR (zI σ (atR (zI σ 2 8) 30 v1 (zR σ 30 (ix v1))) 4) 8 v2 (cA σ (atR (zI σ 2 8) 30 v1 (zR σ 30 (ix v1))) (ix v2)) = 0 → zK σ (atR (zI σ (atR (zI σ 2 8) 30 v1 (zR σ 30 (ix v1))) 4) 8 v2 (cA σ (atR (zI σ 2 8) 30 v1 (zR σ 30 (ix v1))) (ix v2))) = 2 := fun c c2 => by
    obtain ⟨t, k, h1, h2, h3, h4, h5, h6, h7, h8, h9, h10, h11⟩ := hc0 c c2
    rw [h8]; exact h10
  have hM : isWi v1 0 (zI σ 33 23 - 1) → vp_in (zI σ 52 (ix v1)) 9 := fun q => (RK_M hK v1 q).1
  have hfc : (isWi v1 0 (zI σ 33 23 - 1) ∧ isWi v2 0 (zI σ 52 (ix v1) - 1)) → ∃ t k, TR σ t ∧ t < 30 ∧ ix v1 = t ∧ ix v2 = k ∧ k < 8 ∧ CR σ (cC σ t k) (8 * t + k) := fun c => by
    rcases tick_at hK v1 with ⟨a, t, e1, e2, e3, e4, e5⟩ | ⟨a, _⟩
    · have hi1 : ix v1 = t := by rw [e1, ix, cl0 (by omega)]
      have c2 := c.2
      rw [hi1] at c2
      rcases coup_at e4 v2 with ⟨b, k, f1, f2, f3, f4, f5, f6⟩ | ⟨b, _⟩
      · exact ⟨t, k, e4, e2, hi1, by rw [f1, ix, cl0 (by omega)], f3, f4⟩
      · exact absurd c2 b
    · exact absurd c.1 a
  have hV : (isWi v1 0 (zI σ 33 23 - 1) ∧ isWi v2 0 (zI σ 52 (ix v1) - 1)) → vp_in (zI σ 51 (ix v1)) 5 ∧ vp_in (zI σ 60 (cpI v1 v2)) 10 := fun c => by
    obtain ⟨t, k, f1, f2, f3, f4, f5, f6⟩ := hfc c
    rw [cpI, f3, f4]
    exact ⟨(TR_M f1).2.1, f6.2.1.2⟩
  obtain ⟨n, n1, n2, n3, n4, n5⟩ := RB_n hB
  have n240 : ∀ t k, t < 30 → k < 8 → zI σ 55 (8 * t + k) = 0 → n < 240 := fun t k a b c => by
    have := flN_lt (σ := σ) (q := 8 * t + k) (by rw [c]; decide) 240 (by omega)
    omega
  have hBn : (isWi v1 0 (zI σ 33 23 - 1) ∧ isWi v2 0 (zI σ 52 (ix v1) - 1)) → zI σ 55 (cpI v1 v2) = 0 → ¬ zI σ 58 (cpI v1 v2) = zI σ 51 (ix v1) → vp_in (zI σ 33 36) 240 := fun c c2 _ => by
    obtain ⟨t, k, f1, f2, f3, f4, f5, f6⟩ := hfc c
    rw [cpI, f3, f4] at c2
    rw [n2]; exact vp_in_nI (n240 t k f2 f5 c2) (by decide)
  have m1 : ¬ (isWi v1 0 (zI σ 33 23 - 1) ∧ isWi v2 0 (zI σ 52 (ix v1) - 1)) → Gh (S12_fly v1 v2) σ (RE i 1) := fun c => s_X12_fly hS (RK_N hK) hM hV hBn (fun _ => RE_no hi hr (Q4_refl σ) (by decide)) (fun q => absurd q c) (fun q => absurd q c) (fun q => absurd q c)
  have m2 : (isWi v1 0 (zI σ 33 23 - 1) ∧ isWi v2 0 (zI σ 52 (ix v1) - 1)) → ¬ (zI σ 55 (cpI v1 v2) = 0 ∧ ¬ zI σ 33 0 < zI σ 59 (cpI v1 v2)) → Gh (S12_fly v1 v2) σ (RE i 2) := fun c c2 => s_X12_fly hS (RK_N hK) hM hV hBn (fun q => absurd c q) (fun _ _ => RE_no hi hr (Q4_refl σ) (by decide)) (fun _ a b => absurd ⟨a, b⟩ c2) (fun _ a b => absurd ⟨a, b⟩ c2)
  have e36 : zI σ 3 6 = zI σ 33 0 := by
    obtain ⟨nf, t1, t2, t3, t4, t5, t6, -⟩ := hT
    exact t6
  refine w_L_fly (Q := QI (fun k τ => Gh (S12_fly v1 v2) τ (RE i k))) (X := X2 IOO ISE (fun k τ => Gh (S12_fly v1 v2) τ (RE i k))) hS (CtX_of (by decide +kernel) rfl rfl (b_X11_fly_0 hS kT kd (fun c d => kc c d) (fun c d e => ?_) (fun c d _ _ => ?_) (fun c d e f => ?_) (fun c d e f => ?_) (fun c d => Or.inl ⟨rfl, hS, m1 (hc1 c d)⟩) (fun c => Or.inl ⟨rfl, hS, m1 (hc2 c)⟩))) QI_q X2_q
  · obtain ⟨t, k, h1, h2, h3, h4, h5, h6, h7, h8, h9, h10, h11, h12⟩ := hc0 c d
    have hx : cpI v1 v2 = 8 * t + k := by rw [cpI, h3, h6, ix, ix, cl0 (by omega), cl0 (by omega)]
    rw [h8, h9.2.2.2.2.2.2.1] at e
    exact Or.inr ⟨rfl, hS, m2 h11 (fun q => e (by rw [← hx]; exact q.1))⟩
  · obtain ⟨t, k, h1, h2, h3, h4, h5, h6, h7, h8, h9, h10, h11, h12⟩ := hc0 c d
    rw [h8, h4]
    have hTS := (TR_M h1).2.2.1
    exact ⟨_, k, TS_gr (by rw [zI_uI, if_neg (by omega)]) (zK_uI _ _ _ _ _) (zR_uI _ _ _ _ _ _) (zK_uI _ _ _ _ _) (zL_uI _ _ _ _ _) (fun j _ => ⟨zR_uI _ _ _ _ _ _, zK_uI _ _ _ _ _⟩) hTS, by omega, h6⟩
  · obtain ⟨t, k, h1, h2, h3, h4, h5, h6, h7, h8, h9, h10, h11, h12⟩ := hc0 c d
    rw [h8] at e f ⊢
    rw [h4]
    rw [h9.2.2.2.2.2.2.1] at e
    rw [h9.2.2.1, e36] at f
    have hk : ix v2 = k := by rw [h6, ix, cl0 (by omega)]
    rw [hk]
    have f' := Int32.not_lt.mpr f
    subst h3
    subst h6
    refine s_fly85 hS hK h12 h7 (fun q => ⟨_, rfl, Sh_fyH hS, flyA hi hr h12 h2 h7 h5 h11 e f' q⟩) (fun _ => by rw [n3]; exact vp_in_nI (n240 t k h2 h5 e) (by decide)) (fun q => ?_)
    rw [n3, i11]
    exact ⟨_, rfl, Sh_uI (Sh_blC (Sh_fyH hS)), flyB hi hr h12 h2 h7 h5 h11 e f' q n2 n3 (n240 t k h2 h5 e) n5⟩
  · obtain ⟨t, k, h1, h2, h3, h4, h5, h6, h7, h8, h9, h10, h11, h12⟩ := hc0 c d
    have hx : cpI v1 v2 = 8 * t + k := by rw [cpI, h3, h6, ix, ix, cl0 (by omega), cl0 (by omega)]
    rw [h8, h9.2.2.1, e36] at f
    exact Or.inr ⟨rfl, hS, m2 h11 (fun q => q.2 (by rw [hx]; exact Int32.not_le.mp f))⟩

