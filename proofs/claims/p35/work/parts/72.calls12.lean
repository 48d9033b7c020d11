/-! ===== calls: flying ===== -/
theorem blH_I {τ : AH} {c n : Nat} {sh pr pe bn : Int32} {b j : Nat} : zI (blH τ c n sh pr pe bn) b j = if b = 33 ∧ j = 36 then bn + 1 else if b = 61 ∧ j = c then bn else if b = 65 ∧ j = n then pe else if b = 64 ∧ j = n then pr else if b = 63 ∧ j = n then sh else if b = 62 ∧ j = n then 0 else zI τ b j := by
  rw [blH, zI_uI, zI_uI, zI_uI, zI_uI, zI_uI, zI_uI]
theorem blH_4 {τ : AH} {c n : Nat} {sh pr pe bn : Int32} : zN (blH τ c n sh pr pe bn) = zN τ ∧ zK (blH τ c n sh pr pe bn) = zK τ ∧ zL (blH τ c n sh pr pe bn) = zL τ ∧ zR (blH τ c n sh pr pe bn) = zR τ := by
  rw [blH]
  refine ⟨?_, ?_, ?_, ?_⟩
  · rw [(z4_uI _ _ _ _).1, (z4_uI _ _ _ _).1, (z4_uI _ _ _ _).1, (z4_uI _ _ _ _).1, (z4_uI _ _ _ _).1, (z4_uI _ _ _ _).1]
  · rw [(z4_uI _ _ _ _).2.1, (z4_uI _ _ _ _).2.1, (z4_uI _ _ _ _).2.1, (z4_uI _ _ _ _).2.1, (z4_uI _ _ _ _).2.1, (z4_uI _ _ _ _).2.1]
  · rw [(z4_uI _ _ _ _).2.2.1, (z4_uI _ _ _ _).2.2.1, (z4_uI _ _ _ _).2.2.1, (z4_uI _ _ _ _).2.2.1, (z4_uI _ _ _ _).2.2.1, (z4_uI _ _ _ _).2.2.1]
  · rw [(z4_uI _ _ _ _).2.2.2, (z4_uI _ _ _ _).2.2.2, (z4_uI _ _ _ _).2.2.2, (z4_uI _ _ _ _).2.2.2, (z4_uI _ _ _ _).2.2.2, (z4_uI _ _ _ _).2.2.2]
theorem blH_J {τ : AH} {c n : Nat} {sh pr pe bn : Int32} {b j : Nat} : zJ (blH τ c n sh pr pe bn) b j = zJ τ b j := by
  rw [blH, zJ_uI, zJ_uI, zJ_uI, zJ_uI, zJ_uI, zJ_uI]
theorem Rel_flyb {i : Nat} {τ0 τ2 : AH} {x y s pr pe : Int32} {C q n : Nat} (l2 : Rel i (uI (uI (flH τ0 x y) C 8 (nI n)) 61 q (nI n))) (hB0 : BS (uI (uI (flH τ0 x y) C 8 (nI n)) 61 q (nI n)) n) (hn : n < flN (uI (uI (flH τ0 x y) C 8 (nI n)) 61 q (nI n)) 240) (c72 : 72 < C) (cN : C ≤ zN τ0)
    (hI : ∀ b j, b ≤ zN τ0 → ¬ (b = 27 ∧ j = 2) → zI τ2 b j = if b = C ∧ j = 8 then nI n else zI τ0 b j) (h27 : zI τ2 27 2 = nI (n + 1)) (hW : ∀ j, zI τ2 (zN τ0 + 1) j = if j = 2 then s else if j = 1 then pe else if j = 0 then pr else 0)
    (hJ : ∀ b j, b ≤ zN τ0 → zJ τ2 b j = zJ τ0 b j) (hN : zN τ2 = zN τ0 + 1) (hK : ∀ a, zK τ2 a = if a = zN τ0 + 1 then 0 else zK τ0 a) (hL : ∀ a, a ≤ zN τ0 → zL τ2 a = zL τ0 a) (hR : ∀ a j, a ≤ zN τ0 → zR τ2 a j = if a = 28 ∧ j = n then zN τ0 + 1 else zR τ0 a j)
    (hs : bt s (-1073741824) 1073741824) (hpr : vp_in pr 5) (hpe : vp_in pe 5) : Rel i (blH (flH τ2 x y) q n s pr pe (nI n)) := by
  have N0 : zN (uI (uI (flH τ0 x y) C 8 (nI n)) 61 q (nI n)) = zN τ0 := by rw [(z4_uI _ _ _ _).1, (z4_uI _ _ _ _).1, flH_N.1]
  have K0 : zK (uI (uI (flH τ0 x y) C 8 (nI n)) 61 q (nI n)) = zK τ0 := by rw [(z4_uI _ _ _ _).2.1, (z4_uI _ _ _ _).2.1, flH_N.2.1]
  have L0 : zL (uI (uI (flH τ0 x y) C 8 (nI n)) 61 q (nI n)) = zL τ0 := by rw [(z4_uI _ _ _ _).2.2.1, (z4_uI _ _ _ _).2.2.1, flH_N.2.2.1]
  have R0 : zR (uI (uI (flH τ0 x y) C 8 (nI n)) 61 q (nI n)) = zR τ0 := by rw [(z4_uI _ _ _ _).2.2.2, (z4_uI _ _ _ _).2.2.2, flH_N.2.2.2]
  have n72 : 72 ≤ zN τ0 := by rw [← N0]; exact l2.2.1.1
  have nw : ∀ j, zI (blH (flH τ2 x y) q n s pr pe (nI n)) (zN τ0 + 1) j = if j = 2 then s else if j = 1 then pe else if j = 0 then pr else 0 := fun j => by
    rw [blH_I, if_neg (by omega), if_neg (by omega), if_neg (by omega), if_neg (by omega), if_neg (by omega), if_neg (by omega), flH_Ir, if_neg (by omega), if_neg (by omega), if_neg (by omega), hW]
  have r62 : zI (blH (flH τ2 x y) q n s pr pe (nI n)) 62 n = 0 := by rw [blH_I, if_neg (by omega), if_neg (by omega), if_neg (by omega), if_neg (by omega), if_neg (by omega), if_pos ⟨rfl, rfl⟩]
  have r63 : zI (blH (flH τ2 x y) q n s pr pe (nI n)) 63 n = s := by rw [blH_I, if_neg (by omega), if_neg (by omega), if_neg (by omega), if_neg (by omega), if_pos ⟨rfl, rfl⟩]
  have r64 : zI (blH (flH τ2 x y) q n s pr pe (nI n)) 64 n = pr := by rw [blH_I, if_neg (by omega), if_neg (by omega), if_neg (by omega), if_pos ⟨rfl, rfl⟩]
  have r65 : zI (blH (flH τ2 x y) q n s pr pe (nI n)) 65 n = pe := by rw [blH_I, if_neg (by omega), if_neg (by omega), if_pos ⟨rfl, rfl⟩]
  refine Rel_bill l2 hB0 hn ?_ (fun a => ?_) (fun a ha => ?_) (fun a j ha => ?_) (fun b j hb x1 x2 x3 x4 => ?_) ?_ ?_ ?_ ?_ ⟨?_, ?_⟩ ?_ r62 ?_ ?_ (by rw [r64]; exact hpr) (by rw [r65]; exact hpe) (fun a j _ _ _ ha => ?_)
  · rw [N0, blH_4.1, flH_N.1, hN]
  · rw [N0, K0, blH_4.2.1, flH_N.2.1, hK]
  · rw [N0] at ha
    rw [L0, blH_4.2.2.1, flH_N.2.2.1, hL a ha]
  · rw [N0] at ha
    rw [N0, R0, blH_4.2.2.2, flH_N.2.2.2, hR a j ha]
  · rw [N0] at hb
    rw [blH_I, if_neg x3]
    by_cases c61 : b = 61 ∧ j = q
    · rw [if_pos c61, zI_uI, if_pos c61]
    · rw [if_neg c61, zI_uI, if_neg c61, if_neg (by omega), if_neg (by omega), if_neg (by omega), if_neg (by omega), zI_uI]
      by_cases c8 : b = C ∧ j = 8
      · rw [if_pos c8, flH_Ir, if_neg (by omega), if_neg (by omega), if_neg (by omega), hI b j hb x2, if_pos c8]
      · rw [if_neg c8, flH_Ir, flH_Ir, hI 55 j (by omega) (by omega), if_neg (show ¬ (55 = C ∧ j = 8) by omega), hI b j hb x2, if_neg c8]
  · rw [blH_I, if_neg (by omega), if_neg (by omega), if_neg (by omega), if_neg (by omega), if_neg (by omega), if_neg (by omega), flH_Ir, if_neg (by omega), if_neg (by omega), if_neg (by omega), h27]
  · rw [blH_I, if_pos ⟨rfl, rfl⟩, nI_1]
  · rw [N0, nw, r64, if_neg (by decide), if_neg (by decide), if_pos rfl]
  · rw [N0, nw, r65, if_neg (by decide), if_pos rfl]
  · rw [N0, nw, r63, if_pos rfl]
  · rw [r63]; exact hs
  · rw [N0, nw, if_neg (by decide), if_neg (by decide), if_neg (by decide)]
  · rw [N0, nw, if_neg (by decide), if_neg (by decide), if_neg (by decide)]
  · rw [N0, nw, if_neg (by decide), if_neg (by decide), if_neg (by decide)]
  · rw [N0] at ha
    have f : ∀ b' j', b' ≤ 72 → b' ≠ 27 → zI τ2 b' j' = zI τ0 b' j' := fun b' j' z1 z2 => by rw [hI b' j' (by omega) (by omega), if_neg (by omega)]
    rw [blH_J, zJ_uI, zJ_uI, flH_Jr, flH_Jr, f 60 _ (by decide) (by decide), f 57 _ (by decide) (by decide), f 51 _ (by decide) (by decide), hJ 71 _ (by omega), hJ 70 _ (by omega), hJ a j ha]

theorem RB_n {i : Nat} {σ : AH} (hB : RB i σ) : ∃ n, BS σ n ∧ zI σ 33 36 = nI n ∧ zI σ 27 2 = nI n ∧ n ≤ 240 ∧ n ≤ flN σ 240 := by
  obtain ⟨n, h1, h2, h3, h4, h5, h6, h7, h8⟩ := hB
  exact ⟨n, h1, h2, h1.2.1, h1.1, h8⟩
theorem Rel_fly1 {i : Nat} {σ : AH} {t k n : Nat} {w : Int64} (hi : i < 512) (h : Rel i σ) (ht : t < ix (zI σ 33 23)) (t30 : t < 30) (hk : k < ix (zI σ 52 t)) (hk8 : k < 8) (ho : zI σ 55 (8 * t + k) = 0) (h27 : zI σ 27 2 = nI n) (n240 : n ≤ 240) (hfl : n ≤ flN σ 240) : Rel (i + 1) (blH (flH (uJ (uI (blC (fyH σ t k) (zI σ 51 t) (zI σ 58 (8 * t + k)) (zI σ 56 (8 * t + k))) (cC σ t k) 8 (nI n)) 72 0 w) (nI t) (nI k)) (8 * t + k) n (zI σ 56 (8 * t + k)) (zI σ 51 t) (zI σ 58 (8 * t + k)) (nI n)) := by
  obtain ⟨l1, l2, l3, l4, l5⟩ := Rel_fly0 (z := nI n) (w := w) hi h ht t30 hk hk8 ho
  have hK : RK σ := h.2.2.2.2.2.1
  have hS : Sh σ := h.2.1
  have hTR := RK_t hK ht
  obtain ⟨kc, r1, r2, r3, r4, r5, r6, r7, r8, r9⟩ := cC_2 hTR hk
  have N0 : zN (uJ (fyH σ t k) 72 0 w) = zN σ := by rw [(z4_uJ _ _ _ _).1, fyH_N.1]
  have n72 := hS.1
  have F27 : zI (fyH σ t k) 27 2 = nI n := by rw [fyH_I, fyT_o hK ht hk (Or.inl (by decide)), h27]
  have hx : ix (nI n) = n := by rw [ix, cl0 (by omega)]
  refine Rel_flyb (τ0 := uJ (fyH σ t k) 72 0 w) (C := cC σ t k) l2 ?_ (by rw [l5]; omega) r1.1 (by rw [N0]; exact r1.2) (fun b j hb x => ?_) ?_ (fun j => ?_) (fun b j hb => ?_) ?_ (fun a => ?_) (fun a ha => ?_) (fun a j ha => ?_) r6.2 (TR_M hTR).2.1 r5.2
  · obtain ⟨n', b1, b2, b3, b4, b5⟩ := RB_n l2.2.2.2.2.2.2.1
    have e := fly_e (z := nI n) (w := w) hK ht t30 hk hk8 27 2 (by unfold QU; omega) (by omega) (by omega) (by omega)
    rw [b3, h27] at e
    have en := (nI_eq (by omega) (by omega)).mp e
    rw [en] at b1
    exact b1
  · rw [N0] at hb
    rw [zI_uJ, zI_uI]
    by_cases c8 : b = cC σ t k ∧ j = 8
    · rw [if_pos c8, if_pos c8]
    · rw [if_neg c8, if_neg c8, blC_I, fyH_N.1, if_neg x, if_neg (by omega), if_neg (by omega), if_neg (by omega), if_neg (by omega), if_neg (by omega), zI_uJ]
  · rw [zI_uJ, zI_uI, if_neg (by omega), blC_I, if_pos ⟨rfl, rfl⟩, F27, nI_1]
  · rw [N0, zI_uJ, zI_uI, if_neg (by omega), blC_I, fyH_N.1, if_neg (by omega)]
    by_cases c2 : j = 2
    · rw [if_pos ⟨rfl, c2⟩, if_pos c2]
    · rw [if_neg (fun z => c2 z.2), if_neg c2]
      by_cases c1 : j = 1
      · rw [if_pos ⟨rfl, c1⟩, if_pos c1]
      · rw [if_neg (fun z => c1 z.2), if_neg c1]
        by_cases c0 : j = 0
        · rw [if_pos ⟨rfl, c0⟩, if_pos c0]
        · rw [if_neg (fun z => c0 z.2), if_neg c0]
          by_cases c3 : j = 3
          · rw [if_pos ⟨rfl, c3⟩]
          · rw [if_neg (fun z => c3 z.2), if_pos rfl]
  · rw [N0] at hb
    rw [zJ_uJ, zJ_uI, blC_J (by rw [fyH_N.1]; exact hb), zJ_uJ]
  · rw [N0, (z4_uJ _ _ _ _).1, (z4_uI _ _ _ _).1, blC_N, fyH_N.1]
  · rw [N0, (z4_uJ _ _ _ _).2.1, (z4_uI _ _ _ _).2.1, blC_K, fyH_N.1, (z4_uJ _ _ _ _).2.1]
  · rw [N0] at ha
    rw [(z4_uJ _ _ _ _).2.2.1, (z4_uI _ _ _ _).2.2.1, blC_L (by rw [fyH_N.1]; exact ha), (z4_uJ _ _ _ _).2.2.1]
  · rw [N0] at ha
    rw [N0, (z4_uJ _ _ _ _).2.2.2, (z4_uI _ _ _ _).2.2.2, blC_R, F27, hx, fyH_N.1, if_neg (show ¬ a = zN σ + 1 by omega), (z4_uJ _ _ _ _).2.2.2]

