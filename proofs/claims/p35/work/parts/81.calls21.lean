/-! ===== calls: what the class's new ticket looks like ===== -/
/-- the heap X when the class has made a ticket of the number n, with L coupons, on κ; s: the parts of its way -/
def XR (κ : AH) (y : Int32) (n L : Nat) (s : Nat × Int32 × (Nat → Int32)) (X : AH) : Prop :=
  zN X = zN κ + 2 + L ∧ Sh X ∧ (∀ a, a ≤ zN κ → zK X a = zK κ a ∧ zL X a = zL κ a) ∧
  (∀ a j, a ≤ zN κ → zR X a j = if a = 30 ∧ j = n then zN κ + 1 else zR κ a j) ∧
  (∀ a j, a ≤ zN κ → zI X a j = if a = 13 ∧ j = 1 then 0 else if a = 2 ∧ j = 8 then nI (n + 1) else zI κ a j) ∧
  (∀ a j, a ≤ zN κ → zJ X a j = zJ κ a j) ∧
  (zK X (zN κ + 1) = 9 ∧ zI X (zN κ + 1) 0 = y ∧ zI X (zN κ + 1) 1 = zI κ 23 3 ∧ zI X (zN κ + 1) 2 = zI κ 23 4 ∧ zI X (zN κ + 1) 4 = nI L ∧ zI X (zN κ + 1) 5 = smI (txF κ) L ∧ zI X (zN κ + 1) 6 = s.2.1 ∧ zJ X (zN κ + 1) 7 = 0 ∧ zR X (zN κ + 1) 3 = zN κ + 2) ∧
  (zK X (zN κ + 2) = 32 ∧ zL X (zN κ + 2) = 8) ∧
  (∀ k, k < L → zR X (zN κ + 2) k = zN κ + 3 + k ∧ zK X (zN κ + 3 + k) = 2 ∧ (∀ j, j ≠ 5 → j ≠ 6 → zI X (zN κ + 3 + k) j = cnV κ (15 + k) (txF κ k) j) ∧ zI X (zN κ + 3 + k) 6 = s.2.2 k)
theorem isX_XR {κ : AH} {y : Int32} {n L : Nat} (hS : Sh κ) (hT : RT κ) (hJ : RJ κ) (hP : RP κ) (hL : zI κ 33 16 = nI L) (hL1 : 1 ≤ L) (hL8 : L ≤ 8) (h28 : zI κ 2 8 = nI n) (h30 : n < 30) : XR κ y n L (sgS (partF κ) (pvF κ) (wtF κ) (zI κ 23 4) L L) (isX κ y) := by
  have n72 := hS.1
  have hl : lgN κ = L := by rw [lgN, hL, cl0 (by omega)]
  have hx : ix (zI κ 2 8) = n := by rw [h28, ix, cl0 (by omega)]
  have h0 : ¬ zI κ 33 16 = 0 := fun q => by
    rw [hL] at q
    exact absurd ((nI_eq (b := 0) (by omega) (by decide)).mp q) (by omega)
  have hi := IS_S (y := y) hS.1 (σ := κ) L hL8
  have hp := soP_IS (y := y) hS hT hJ hP h0
  have hX : isX κ y = uI (uI (uR (soT (isS κ y L) (zN κ + 1)) 30 n (zN κ + 1)) 2 8 (nI n + 1)) 13 1 0 := by rw [isX, hl, hx, h28]
  rw [hl] at hp
  rw [hX]
  obtain ⟨⟨m, p1, p2, p3, p4, p5, p6, p7⟩, key⟩ := hp
  have hSi := IS_Sh hS hi
  have hE := IS_EqP hS hi
  have e4 : zI (isS κ y L) (zN κ + 1) 4 = nI L := hi.2.2.1.2.2.2.2.1
  have e2 : zI (isS κ y L) (zN κ + 1) 2 = zI κ 23 4 := hi.2.2.1.2.2.2.1
  have hTS := IS_TS hL8 hi
  have hCD := IS_CD hS hi
  have hcA : ∀ k, k < L → cA (isS κ y L) (zN κ + 1) k = zN κ + 3 + k := fun k hk => IS_cA hi hk
  have h5 : ∀ k, k < L → zI (isS κ y L) (cA (isS κ y L) (zN κ + 1) k) 5 = 0 := fun k hk => by
    rw [hcA k hk, (hi.2.2.2.2 k hk).2.2, cnV]
    rfl
  have hso := SO_H (P := partF (isS κ y L)) (pv := pvX (isS κ y L) (zN κ + 1)) (wt := wtX (isS κ y L) (zN κ + 1)) (c := zI κ 23 4) (L := L) hTS hCD p5 hi.2.2.1.2.2.2.2.2.2.1 h5 L (Nat.le_refl _)
  have hsT : soT (isS κ y L) (zN κ + 1) = soH (isS κ y L) (zN κ + 1) (partF (isS κ y L)) (pvX (isS κ y L) (zN κ + 1)) (wtX (isS κ y L) (zN κ + 1)) (zI κ 23 4) L L := by
    rw [soT, e4, e2, show ix (nI L) = L by rw [ix, cl0 (by omega)]]
  rw [hsT]
  rw [partF_eq hE] at hso ⊢
  have hc := sgS_c (P := partF κ) (c := zI κ 23 4) (L := L) (pv := pvX (isS κ y L) (zN κ + 1)) (pv' := pvF κ) (wt := wtX (isS κ y L) (zN κ + 1)) (wt' := wtF κ) key L (Nat.le_refl _)
  have hsL := sgS_L (P := partF κ) (c := zI κ 23 4) (L := L) (pv := pvX (isS κ y L) (zN κ + 1)) (wt := wtX (isS κ y L) (zN κ + 1)) hL1
  obtain ⟨s1, s2, s3, s4, s5, s6, s7, s8⟩ := hso
  rw [hc.2.1] at s3
  rw [hsL] at s4
  have s4' : ∀ k, k < L → zI (soH (isS κ y L) (zN κ + 1) (partF κ) (pvX (isS κ y L) (zN κ + 1)) (wtX (isS κ y L) (zN κ + 1)) (zI κ 23 4) L L) (cA (isS κ y L) (zN κ + 1) k) 6 = (sgS (partF κ) (pvF κ) (wtF κ) (zI κ 23 4) L L).2.2 k := fun k hk => by
    rw [s4 k hk, hc.2.2 k (by rw [hsL]; exact hk)]
  clear s4 hc hsL key hsT hX hcA h5
  generalize sgS (partF κ) (pvF κ) (wtF κ) (zI κ 23 4) L L = w at *
  generalize soH (isS κ y L) (zN κ + 1) (partF κ) (pvX (isS κ y L) (zN κ + 1)) (wtX (isS κ y L) (zN κ + 1)) (zI κ 23 4) L L = τ at *
  have hcA : ∀ k, k < L → cA (isS κ y L) (zN κ + 1) k = zN κ + 3 + k := fun k hk => IS_cA hi hk
  generalize isS κ y L = ι at *
  obtain ⟨i1, i2, ⟨a1, a2, a3, a4, a5, a6, a7, a8, a9⟩, ⟨b1, b2⟩, i5⟩ := hi
  obtain ⟨t1, t2, t3, t4, t5⟩ := s1
  have r4 := z4_uI (uI (uR τ 30 n (zN κ + 1)) 2 8 (nI n + 1)) 13 1 0
  have r4' := z4_uI (uR τ 30 n (zN κ + 1)) 2 8 (nI n + 1)
  have eN : zN (uI (uI (uR τ 30 n (zN κ + 1)) 2 8 (nI n + 1)) 13 1 0) = zN ι := by rw [r4.1, r4'.1, zN_uR, t1]
  have eK : ∀ a, zK (uI (uI (uR τ 30 n (zN κ + 1)) 2 8 (nI n + 1)) 13 1 0) a = zK ι a := fun a => by rw [r4.2.1, r4'.2.1, zK_uR, t2]
  have eL : ∀ a, zL (uI (uI (uR τ 30 n (zN κ + 1)) 2 8 (nI n + 1)) 13 1 0) a = zL ι a := fun a => by rw [r4.2.2.1, r4'.2.2.1, zL_uR, t3]
  have eR : ∀ a j, zR (uI (uI (uR τ 30 n (zN κ + 1)) 2 8 (nI n + 1)) 13 1 0) a j = if a = 30 ∧ j = n then zN κ + 1 else zR ι a j := fun a j => by rw [r4.2.2.2, r4'.2.2.2, zR_uR, t4]
  have eI : ∀ a j, zI (uI (uI (uR τ 30 n (zN κ + 1)) 2 8 (nI n + 1)) 13 1 0) a j = if a = 13 ∧ j = 1 then 0 else if a = 2 ∧ j = 8 then nI n + 1 else zI τ a j := fun a j => by rw [zI_uI, zI_uI, zI_uR]
  have eJ : ∀ a j, zJ (uI (uI (uR τ 30 n (zN κ + 1)) 2 8 (nI n + 1)) 13 1 0) a j = zJ ι a j := fun a j => by rw [zJ_uI, zJ_uI, zJ_uR, s2]
  have hSX : Sh (uI (uI (uR τ 30 n (zN κ + 1)) 2 8 (nI n + 1)) 13 1 0) := Sh_uI (Sh_uI (Sh_uRl (by decide) (KT_Sh ⟨t1, t2, t3, t4, t5⟩ hSi)))
  generalize uI (uI (uR τ 30 n (zN κ + 1)) 2 8 (nI n + 1)) 13 1 0 = X at *
  have sI : ∀ b j, j ≠ 5 → j ≠ 6 → zI τ b j = zI ι b j := fun b j h5 h6 => by
    by_cases h1 : b = zN κ + 1
    · rw [h1]; exact s7 j h6
    · by_cases h2 : ∃ k, k < L ∧ b = cA ι (zN κ + 1) k
      · obtain ⟨k, hk, rfl⟩ := h2
        exact s6 k hk j h5 h6
      · exact s8 b j h1 (fun k hk q => h2 ⟨k, hk, q⟩)
  refine ⟨by rw [eN, i1], hSX, fun a ha => ⟨by rw [eK]; exact (i2 a ha).1, by rw [eL]; exact (i2 a ha).2.1⟩, fun a j ha => by rw [eR, ((i2 a ha).2.2 j).2.2], fun a j ha => ?_, fun a j ha => by rw [eJ]; exact ((i2 a ha).2.2 j).2.1, ⟨by rw [eK]; exact a1, ?_, ?_, ?_, ?_, ?_, ?_, by rw [eJ]; exact a8, by rw [eR, if_neg (by omega)]; exact a9⟩, ⟨by rw [eK]; exact b1, by rw [eL]; exact b2⟩, fun k hk => ⟨by rw [eR, if_neg (by omega)]; exact (i5 k hk).1, by rw [eK]; exact (i5 k hk).2.1, fun j h5 h6 => ?_, ?_⟩⟩
  · rw [eI, nI_1, s8 a j (by omega) (fun k hk q => by rw [hcA k hk] at q; omega), ((i2 a ha).2.2 j).1]
  · rw [eI, if_neg (by omega), if_neg (by omega), s7 0 (by decide)]; exact a2
  · rw [eI, if_neg (by omega), if_neg (by omega), s7 1 (by decide)]; exact a3
  · rw [eI, if_neg (by omega), if_neg (by omega), s7 2 (by decide)]; exact a4
  · rw [eI, if_neg (by omega), if_neg (by omega), s7 4 (by decide)]; exact a5
  · rw [eI, if_neg (by omega), if_neg (by omega), s7 5 (by decide)]; exact a6
  · rw [eI, if_neg (by omega), if_neg (by omega), s3]
  · rw [eI, if_neg (by omega), if_neg (by omega), sI _ _ h5 h6, (i5 k hk).2.2]
  · rw [eI, if_neg (by omega), if_neg (by omega), ← hcA k hk, s4' k hk]
/-! what the reference's new ticket looks like -/
theorem nw_o {ρ : AH} {y : Int32} {n : Nat} (hn : ix (zI ρ 33 23) = n) {a j : Nat} (h1 : ¬ (a = 33 ∧ (j = 16 ∨ j = 21 ∨ j = 22))) (h2 : ¬ (50 ≤ a ∧ a ≤ 54 ∧ j = n)) (h3 : ¬ (55 ≤ a ∧ a ≤ 61 ∧ 8 * n ≤ j)) : zI (nwH ρ y) a j = zI ρ a j := by
  rw [nwH, hn]
  by_cases h33 : a = 33
  · subst h33
    exact mkH_33 (by omega)
  · exact mkH_o (by omega) h33
theorem nw_T {ρ : AH} {y : Int32} {n L : Nat} (hn : ix (zI ρ 33 23) = n) (hl : lgN ρ = L) : zI (nwH ρ y) 33 16 = 0 ∧ zI (nwH ρ y) 50 n = (wayF ρ).1 ∧ zI (nwH ρ y) 51 n = y ∧ zI (nwH ρ y) 52 n = zI ρ 33 16 ∧ zI (nwH ρ y) 53 n = (wayF ρ).2 ∧ zI (nwH ρ y) 54 n = (sgF ρ L).2.1 := by
  rw [nwH, hn]
  refine ⟨by rw [mkH, zI_uI, if_pos ⟨rfl, rfl⟩], ?_, ?_, ?_, ?_, ?_⟩
  · rw [mkH_T (by decide), rwT, if_pos rfl]
  · rw [mkH_T (by decide), rwT, if_neg (by decide), if_pos rfl]
  · rw [mkH_T (by decide), rwT, if_neg (by decide), if_neg (by decide), if_pos rfl]
  · rw [mkH_T (by decide), rwT, if_neg (by decide), if_neg (by decide), if_neg (by decide), if_pos rfl]
  · rw [mkH_T (by decide), rwT, if_neg (by decide), if_neg (by decide), if_neg (by decide), if_neg (by decide), hl]
theorem nw_C {ρ : AH} {y : Int32} {n L k : Nat} (hn : ix (zI ρ 33 23) = n) (hl : lgN ρ = L) (hs : (sgF ρ L).1 = L) (hk : k < L) : (∀ a, 55 ≤ a → a ≤ 61 → a ≠ 56 → zI (nwH ρ y) a (8 * n + k) = rwC ρ a k) ∧ zI (nwH ρ y) 56 (8 * n + k) = (sgF ρ L).2.2 k := by
  have e : 8 * n + k - 8 * n = k := by omega
  rw [nwH, hn]
  refine ⟨fun a h1 h2 h3 => ?_, ?_⟩
  · rw [mkH, zI_uI, if_neg (by omega), zI_sI, mkF, if_neg (by omega), if_neg (by omega), if_pos ⟨h1, h2, by omega⟩, if_neg h3, hl, if_pos (by omega), e]
  · rw [mkH, zI_uI, if_neg (by omega), zI_sI, mkF, if_neg (by omega), if_neg (by omega), if_pos ⟨by decide, by decide, by omega⟩, if_pos rfl, hl, hs, if_pos (by omega), e]
theorem nw_55 {ρ : AH} {y : Int32} {n L j : Nat} (hn : ix (zI ρ 33 23) = n) (hl : lgN ρ = L) (hs : (sgF ρ L).1 = L) (h : zI ρ 55 j = 0) : zI (nwH ρ y) 55 j = 0 := by
  by_cases c : 8 * n ≤ j
  · by_cases c2 : j < 8 * n + L
    · obtain ⟨k, rfl⟩ : ∃ k, j = 8 * n + k := ⟨j - 8 * n, by omega⟩
      rw [(nw_C hn hl hs (by omega)).1 55 (by decide) (by decide) (by decide), rwC, if_pos rfl]
    · rw [nwH, hn, mkH, zI_uI, if_neg (by omega), zI_sI, mkF, if_neg (by omega), if_neg (by omega), if_pos ⟨by decide, by decide, by omega⟩, if_neg (by omega), hl, if_neg c2]
      exact h
  · rw [nw_o hn (by omega) (by omega) (by omega)]
    exact h
theorem nw_N {ρ : AH} {y : Int32} : zN (nwH ρ y) = zN ρ ∧ zK (nwH ρ y) = zK ρ ∧ zL (nwH ρ y) = zL ρ ∧ zJ (nwH ρ y) = zJ ρ ∧ zR (nwH ρ y) = zR ρ := mkH_N
/-- both sides' money -/
theorem rc_J {X : AH} {a b j : Nat} {x : Int32} {w : Int64} (h72 : 72 < a) : zJ (uJ (rcH X a x) 72 0 w) b j = if b = 72 ∧ j = 0 then w else if b = 31 ∧ j = ix (zI X a 0) then zJ X 31 j + Int32.toInt64 x else if b = 2 ∧ j = 10 then zJ X 2 10 + Int32.toInt64 x else if b = a ∧ j = 7 then zJ X a 7 + Int32.toInt64 x else zJ X b j := by
  rw [zJ_uJ, rcH, zJ_uJ, zJ_uJ, zJ_uJ]
  by_cases c : b = 31 ∧ j = ix (zI X a 0)
  · rw [if_pos c, if_pos c, c.2]
  · rw [if_neg c, if_neg c]
theorem rc_I {X : AH} {a b j : Nat} {x : Int32} {w : Int64} : zI (uJ (rcH X a x) 72 0 w) b j = zI X b j := by
  rw [zI_uJ, rcH, zI_uJ, zI_uJ, zI_uJ]
theorem rc_4 {X : AH} {a : Nat} {x : Int32} {w : Int64} : zN (uJ (rcH X a x) 72 0 w) = zN X ∧ zK (uJ (rcH X a x) 72 0 w) = zK X ∧ zL (uJ (rcH X a x) 72 0 w) = zL X ∧ zR (uJ (rcH X a x) 72 0 w) = zR X := ⟨rfl, rfl, rfl, rfl⟩
theorem by_J {μ : AH} {y x : Int32} {b j : Nat} : zJ (byH μ y x) b j = if b = 33 ∧ j = 48 then zJ μ 33 48 + Int32.toInt64 x else if b = 70 ∧ j = ix y then zJ μ 70 j + Int32.toInt64 x else zJ μ b j := by
  rw [byH, zJ_uJ, zJ_uJ]
  by_cases c : b = 70 ∧ j = ix y
  · rw [if_pos c, if_pos c, c.2]
  · rw [if_neg c, if_neg c]
theorem by_I {μ : AH} {y x : Int32} {b j : Nat} : zI (byH μ y x) b j = zI μ b j := by
  rw [byH, zI_uJ, zI_uJ]
theorem by_4 {μ : AH} {y x : Int32} : zN (byH μ y x) = zN μ ∧ zK (byH μ y x) = zK μ ∧ zL (byH μ y x) = zL μ ∧ zR (byH μ y x) = zR μ := ⟨rfl, rfl, rfl, rfl⟩
theorem txF_e {τ σ : AH} (h : EqP τ σ) (k : Nat) : txF τ k = txF σ k := by
  rw [txF, txF, h.2.2.2.2 49 _ (by decide) (by decide), h.2.2.2.2 49 _ (by decide) (by decide), h.2.2.2.2 46 _ (by decide) (by decide), h.2.2.2.2 37 _ (by decide) (by decide), h.2.2.2.2 38 _ (by decide) (by decide)]
theorem txF_b {σ : AH} (hT : RT σ) (hJ : RJ σ) {k : Nat} (hk : k < 8) : bt (txF σ k) 0 10000 := by
  obtain ⟨L, h1, h2, h3, h4, -⟩ := hJ
  obtain ⟨j, hj, ej⟩ := vp_in_of (h4 k hk).2.2.2.2.1 (by decide)
  obtain ⟨nf, t1, t2, t3, t4, t5, t6, t7, t8, t9, -⟩ := hT
  have ei : ix (zI σ 46 k) = j := by rw [ej, ix, cl0 (by omega)]
  rw [txF, ei]
  split
  · exact (t9 j hj).2.2.1
  · exact (t9 j hj).2.2.2
/-- a ticket more, on both sides -/
theorem Rel_new {i n L : Nat} {σ κ X ρ : AH} {y x : Int32} {w : Int64} (h : Rel i σ) (hn : zI σ 33 23 = nI n) (h30 : n < 30) (hL : zI σ 33 16 = nI L) (hL1 : 1 ≤ L) (hL8 : L ≤ 8) (hy : vp_in y 5)
    (κ4 : zN κ = zN σ ∧ zK κ = zK σ ∧ zL κ = zL σ ∧ zR κ = zR σ) (κI : ∀ a j, ¬ QU a j → a ≠ 55 → zI κ a j = zI σ a j) (κJ : ∀ a j, a ≠ 29 → a ≠ 69 → a ≠ 72 → zJ κ a j = zJ σ a j)
    (κ1 : zI κ 23 3 = (wayF σ).1) (κ2 : zI κ 23 4 = (wayF σ).2) (hX : XR κ y n L (sgS (partF κ) (pvF κ) (wtF κ) (zI κ 23 4) L L) X)
    (ρ4 : zN ρ = zN X ∧ zK ρ = zK X ∧ zL ρ = zL X ∧ zR ρ = zR X) (ρI : ∀ a j, ¬ QU a j → a ≠ 55 → zI ρ a j = zI X a j) (ρ55 : ∀ j, zI ρ 55 j = zI σ 55 j) (ρ49 : zI ρ 33 49 = 0) (ρJ : ∀ a j, zJ ρ a j = zJ (uJ (rcH X (zN κ + 1) x) 72 0 w) a j) :
    zI (uI (byH (nwH ρ y) y x) 33 23 (nI n + 1)) 33 49 = 0 ∧ Rel i (uI (byH (nwH ρ y) y x) 33 23 (nI n + 1)) ∧ zJ (uI (byH (nwH ρ y) y x) 33 23 (nI n + 1)) 72 0 = w ∧ nwP ρ y = zI X (zN κ + 1) 1 + zI X (zN κ + 1) 5 := by
  obtain ⟨h0, hS, hT, hJ, hP, hK, hB, hC⟩ := id h
  have n72 := hS.1
  obtain ⟨X1, X2, X3, X4, X5, X6, ⟨a1, a2, a3, a4, a5, a6, a7, a8, a9⟩, ⟨b1, b2⟩, X9⟩ := hX
  obtain ⟨k1, k2, k3, k4⟩ := κ4
  rw [k1] at X1 X3 X4 X5 X6 a1 a2 a3 a4 a5 a6 a7 a8 a9 b1 b2 X9 ρJ ⊢
  have lσ : lgN σ = L := by rw [lgN, hL, cl0 (by omega)]
  have Xσ : ∀ a j, a ≤ zN σ → ¬ QU a j → a ≠ 55 → ¬ (a = 13 ∧ j = 1) → ¬ (a = 2 ∧ j = 8) → zI X a j = zI σ a j := fun a j ha hq h55 h1 h2 => by
    rw [X5 a j ha, if_neg h1, if_neg h2, κI a j hq h55]
  have ρσ : ∀ a j, a ≤ zN σ → ¬ QU a j → a ≠ 55 → ¬ (a = 13 ∧ j = 1) → ¬ (a = 2 ∧ j = 8) → zI ρ a j = zI σ a j := fun a j ha hq h55 h1 h2 => by
    rw [ρI a j hq h55, Xσ a j ha hq h55 h1 h2]
  have Eρ : EqP ρ σ := ⟨ρσ 33 0 (by omega) (by unfold QU; omega) (by omega) (by omega) (by omega), ρσ 33 6 (by omega) (by unfold QU; omega) (by omega) (by omega) (by omega), ρσ 33 14 (by omega) (by unfold QU; omega) (by omega) (by omega) (by omega), ρσ 33 16 (by omega) (by unfold QU; omega) (by omega) (by omega) (by omega), fun a k x1 x2 => ρσ a k (by omega) (by unfold QU; omega) (by omega) (by omega) (by omega)⟩
  have Eκ : EqP κ σ := ⟨κI 33 0 (by unfold QU; omega) (by omega), κI 33 6 (by unfold QU; omega) (by omega), κI 33 14 (by unfold QU; omega) (by omega), κI 33 16 (by unfold QU; omega) (by omega), fun a k x1 x2 => κI a k (by unfold QU; omega) (by omega)⟩
  have lρ : lgN ρ = L := by rw [lgN, Eρ.2.2.2.1, hL, cl0 (by omega)]
  have nρ : ix (zI ρ 33 23) = n := by rw [ρσ 33 23 (by omega) (by unfold QU; omega) (by omega) (by omega) (by omega), hn, ix, cl0 (by omega)]
  have wρ : wayF ρ = wayF σ := wayF_eq Eρ
  have pvρ : pvF ρ = pvF σ := funext (pvF_eq Eρ)
  have wtρ : wtF ρ = wtF σ := funext (wtF_eq Eρ)
  have pvκ : pvF κ = pvF σ := funext (pvF_eq Eκ)
  have wtκ : wtF κ = wtF σ := funext (wtF_eq Eκ)
  have txκ : txF κ = txF σ := funext (txF_e Eκ)
  have txρ : txF ρ = txF σ := funext (txF_e Eρ)
  have gσ : sgF σ L = sgS (partF σ) (pvF σ) (wtF σ) (wayF σ).2 L L := by rw [sgF, lσ]
  have gρ : sgF ρ L = sgS (partF σ) (pvF σ) (wtF σ) (wayF σ).2 L L := by rw [sgF, lρ, partF_eq Eρ, pvρ, wtρ, wρ]
  have gL : (sgS (partF σ) (pvF σ) (wtF σ) (wayF σ).2 L L).1 = L := sgS_L hL1
  have gb : ∀ k, k < L → bt ((sgS (partF σ) (pvF σ) (wtF σ) (wayF σ).2 L L).2.2 k) (-1073741824) 1073741824 := fun k hk => by
    have q := sgF_b hT hJ hP (k := k) (by rw [lσ, gσ, gL]; exact hk)
    rw [lσ, gσ] at q
    exact q
  rw [partF_eq Eκ, pvκ, wtκ, κ2] at a7 X9
  rw [κ1] at a3
  rw [κ2] at a4
  rw [txκ] at a6 X9
  generalize sgS (partF σ) (pvF σ) (wtF σ) (wayF σ).2 L L = s at *
  obtain ⟨T1, T2, T3, T4, T5, T6⟩ := nw_T (y := y) nρ lρ
  have hs : (sgF ρ L).1 = L := by rw [gρ]; exact gL
  have TC : ∀ k, k < L → (∀ a, 55 ≤ a → a ≤ 61 → a ≠ 56 → zI (nwH ρ y) a (8 * n + k) = rwC ρ a k) ∧ zI (nwH ρ y) 56 (8 * n + k) = s.2.2 k := fun k hk => by
    have q := nw_C (y := y) nρ lρ hs hk
    rw [gρ] at q
    exact q
  rw [gρ] at T6
  rw [wρ] at T2 T5
  have e52 : zI ρ 33 16 = nI L := Eρ.2.2.2.1.trans hL
  rw [e52] at T4
  have k7 : ∀ c, 8 * n ≤ c → zI σ 55 c = 0 := by
    obtain ⟨n', q1, q2, q3, q4, q5, q6, q7⟩ := hK
    rw [q2] at hn
    rw [(nI_eq (by omega) (by omega)).mp hn] at q7
    exact q7
  have M1 : ∀ a j, ¬ (a = 33 ∧ (j = 16 ∨ j = 21 ∨ j = 22)) → ¬ (50 ≤ a ∧ a ≤ 54 ∧ j = n) → ¬ (55 ≤ a ∧ a ≤ 61 ∧ 8 * n ≤ j) → zI (nwH ρ y) a j = zI ρ a j := fun a j z1 z2 z3 => nw_o nρ z1 z2 z3
  have M5 : ∀ j, zI (nwH ρ y) 55 j = zI σ 55 j := fun j => by
    by_cases c : 8 * n ≤ j
    · rw [k7 j c]
      exact nw_55 nρ lρ hs (by rw [ρ55, k7 j c])
    · rw [M1 55 j (by omega) (by omega) (by omega), ρ55]
  have P57 : ∀ k, k < L → zI (nwH ρ y) 57 (8 * n + k) = txF σ k := fun k hk => by
    rw [(TC k hk).1 57 (by decide) (by decide) (by decide), rwC, if_neg (by decide), if_pos rfl, txρ]
  have hP4 : nwP ρ y = zI X (zN σ + 1) 1 + zI X (zN σ + 1) 5 := by
    rw [nwP, nρ, T2, T4, a3, a6, show ix (nI L) = L by rw [ix, cl0 (by omega)], smI_c P57]
  obtain ⟨m1, m2, m3, m4, m5⟩ := nw_N (ρ := ρ) (y := y)
  have oI : ∀ a j, ¬ (a = 33 ∧ j = 23) → zI (uI (byH (nwH ρ y) y x) 33 23 (nI n + 1)) a j = zI (nwH ρ y) a j := fun a j z => by rw [zI_uI, if_neg z, by_I]
  have o23 : zI (uI (byH (nwH ρ y) y x) 33 23 (nI n + 1)) 33 23 = nI (n + 1) := by rw [zI_uI, if_pos ⟨rfl, rfl⟩, nI_1]
  have oJ : ∀ a j, zJ (uI (byH (nwH ρ y) y x) 33 23 (nI n + 1)) a j = if a = 33 ∧ j = 48 then zJ ρ 33 48 + Int32.toInt64 x else if a = 70 ∧ j = ix y then zJ ρ 70 j + Int32.toInt64 x else zJ ρ a j := fun a j => by rw [zJ_uI, by_J, m4]
  have z4 := z4_uI (byH (nwH ρ y) y x) 33 23 (nI n + 1)
  have o4 : zN (uI (byH (nwH ρ y) y x) 33 23 (nI n + 1)) = zN X ∧ zK (uI (byH (nwH ρ y) y x) 33 23 (nI n + 1)) = zK X ∧ zL (uI (byH (nwH ρ y) y x) 33 23 (nI n + 1)) = zL X ∧ zR (uI (byH (nwH ρ y) y x) 33 23 (nI n + 1)) = zR X := by
    obtain ⟨q1, q2, q3, q4⟩ := ρ4
    exact ⟨by rw [z4.1, by_4.1, m1, q1], by rw [z4.2.1, by_4.2.1, m2, q2], by rw [z4.2.2.1, by_4.2.2.1, m3, q3], by rw [z4.2.2.2, by_4.2.2.2, m5, q4]⟩
  clear z4 m1 m2 m3 m4 m5
  refine ⟨by rw [oI _ _ (by omega), M1 33 49 (by omega) (by omega) (by omega), ρ49], ?_, ?_, hP4⟩
  rotate_left
  · rw [oJ, if_neg (by omega), if_neg (by omega), ρJ, rc_J (by omega), if_pos ⟨rfl, rfl⟩]
  generalize uI (byH (nwH ρ y) y x) 33 23 (nI n + 1) = ω at *
  obtain ⟨o1, o2, o3, o5⟩ := o4
  have oT : ∀ j, zI ω (zN σ + 1) j = zI X (zN σ + 1) j := fun j => by rw [oI _ _ (by omega), M1 _ _ (by omega) (by omega) (by omega), ρI _ _ (by unfold QU; omega) (by omega)]
  have oC : ∀ k j, zI ω (zN σ + 3 + k) j = zI X (zN σ + 3 + k) j := fun k j => by rw [oI _ _ (by omega), M1 _ _ (by omega) (by omega) (by omega), ρI _ _ (by unfold QU; omega) (by omega)]
  have tA1 : tA ω n = zN σ + 1 := by rw [tA, o5, X4 30 n (by omega), if_pos ⟨rfl, rfl⟩]
  have cA1 : ∀ k, k < L → cC ω n k = zN σ + 3 + k := fun k hk => by rw [cC, tA1, cA, o5, a9]; exact (X9 k hk).1
  have o52 : zI ω 52 n = nI L := by rw [oI _ _ (by omega), T4]
  have o51 : zI ω 51 n = y := by rw [oI _ _ (by omega), T3]
  have xL : ix (nI L) = L := by rw [ix, cl0 (by omega)]
  have lg : ∀ k, k < 8 → zI κ (15 + k) 0 = zI σ 46 k ∧ zI κ (15 + k) 1 = zI σ 47 k ∧ zI κ (15 + k) 2 = zI σ 48 k ∧ zI κ (15 + k) 3 = zI σ 49 k := fun k hk => by
    have q := RJ_leg hJ hk
    rw [κI _ _ (by unfold QU; omega) (by omega), κI _ _ (by unfold QU; omega) (by omega), κI _ _ (by unfold QU; omega) (by omega), κI _ _ (by unfold QU; omega) (by omega)]
    exact q
  have hvp : ∀ k, k < 8 → vp_in (zI σ 46 k) 10 ∧ vp_in (zI σ 48 k) 5 := fun k hk => by
    obtain ⟨L', q1, q2, q3, q4, -⟩ := hJ
    exact ⟨(q4 k hk).2.2.2.2.1, (q4 k hk).2.2.2.2.2.2⟩
  have hTS : TS ω (zN σ + 1) L := ⟨by omega, by rw [o2]; exact a1, by rw [oT]; exact a5, hL8, by rw [o5, a9, o2, o3]; exact ⟨by omega, b1, b2⟩, fun k hk => by
    have q := cA1 k hk
    rw [cC, tA1] at q
    rw [q, o2]; exact ⟨by omega, (X9 k hk).2.1⟩⟩
  have hCR : ∀ k, k < L → CR ω (cC ω n k) (8 * n + k) := fun k hk => by
    have q := TC k hk
    have r : ∀ a, 55 ≤ a → a ≤ 61 → a ≠ 56 → zI ω a (8 * n + k) = rwC ρ a k := fun a z1 z2 z3 => by rw [oI _ _ (by omega)]; exact q.1 a z1 z2 z3
    have r56 : zI ω 56 (8 * n + k) = s.2.2 k := by rw [oI _ _ (by omega)]; exact q.2
    have c : ∀ j, j ≠ 5 → j ≠ 6 → zI ω (zN σ + 3 + k) j = cnV κ (15 + k) (txF σ k) j := fun j z1 z2 => by rw [oC, (X9 k hk).2.2.1 j z1 z2]
    have l := lg k (by omega)
    have v := hvp k (by omega)
    have t := txF_b hT hJ (k := k) (by omega)
    unfold CR
    rw [cA1 k hk, r 60 (by decide) (by decide) (by decide), r 59 (by decide) (by decide) (by decide), r 57 (by decide) (by decide) (by decide), r 58 (by decide) (by decide) (by decide), r 55 (by decide) (by decide) (by decide), r 61 (by decide) (by decide) (by decide), r56, oC k 6, (X9 k hk).2.2.2, c 0 (by decide) (by decide), c 2 (by decide) (by decide), c 3 (by decide) (by decide), c 4 (by decide) (by decide), c 7 (by decide) (by decide), c 8 (by decide) (by decide), o1, X1]
    refine ⟨⟨by omega, by omega⟩, ⟨?_, ?_⟩, ?_, ⟨?_, ?_⟩, ⟨?_, ?_⟩, ⟨rfl, gb k hk⟩, ?_, ?_, fun _ => ?_⟩
    · rw [cnV, if_neg (by decide), if_neg (by decide), if_neg (by decide), if_neg (by decide), if_pos rfl, l.1, rwC, if_neg (by decide), if_neg (by decide), if_neg (by decide), if_neg (by decide), if_pos rfl, Eρ.2.2.2.2 46 _ (by decide) (by decide)]
    · rw [rwC, if_neg (by decide), if_neg (by decide), if_neg (by decide), if_neg (by decide), if_pos rfl, Eρ.2.2.2.2 46 _ (by decide) (by decide)]; exact v.1
    · rw [cnV, if_neg (by decide), if_neg (by decide), if_pos rfl, l.2.2.2, rwC, if_neg (by decide), if_neg (by decide), if_neg (by decide), if_pos rfl, Eρ.2.2.2.2 49 _ (by decide) (by decide)]
    · rw [cnV, if_pos rfl, rwC, if_neg (by decide), if_pos rfl, txρ]
    · rw [rwC, if_neg (by decide), if_pos rfl, txρ]; exact t
    · rw [cnV, if_neg (by decide), if_pos rfl, l.2.2.1, rwC, if_neg (by decide), if_neg (by decide), if_pos rfl, Eρ.2.2.2.2 48 _ (by decide) (by decide)]
    · rw [rwC, if_neg (by decide), if_neg (by decide), if_pos rfl, Eρ.2.2.2.2 48 _ (by decide) (by decide)]; exact v.2
    · rw [cnV, if_neg (by decide), if_neg (by decide), if_neg (by decide), if_neg (by decide), if_neg (by decide), if_neg (by decide), rwC, if_pos rfl]
    · rw [cnV, if_neg (by decide), if_neg (by decide), if_neg (by decide), if_neg (by decide), if_neg (by decide), if_pos rfl, rwC, if_neg (by decide), if_neg (by decide), if_neg (by decide), if_neg (by decide), if_neg (by decide)]
    · rw [rwC, if_neg (by decide), if_neg (by decide), if_neg (by decide), if_neg (by decide), if_neg (by decide)]
  have hTR : TR ω n := by
    refine ⟨L, hL1, by rw [tA1]; exact hTS, o52, by rw [tA1, o1, X1]; omega, by rw [tA1, o5, a9, o1, X1]; omega, ⟨by rw [tA1, oT, a2, o51], by rw [o51]; exact hy⟩, ?_, ?_, ?_, ?_, hCR⟩
    · rw [tA1, oT, a3, oI _ _ (by omega), T2]
    · rw [tA1, oT, a4, oI _ _ (by omega), T5]
    · rw [tA1, oT, a6]
      exact smI_c (fun k hk => by rw [oI _ _ (by omega), P57 k hk])
    · rw [tA1, oT, a7, oI _ _ (by omega), T6]
  refine Rel_tick (n := n) (x := Int32.toInt64 x) h hn h30 ?_ (by rw [o1, X1]; omega) (fun a ha => ?_) (fun a j ha z => ?_) ?_ (fun a j ha z1 z2 z3 z4 z5 z6 => ?_) ?_ ?_ o23 ?_ hTR (fun k hk => ?_) (fun j k hj hk q => ?_) ?_ (fun c hc => ?_) (fun c hc => ?_) ?_ ?_ (fun a j ha z1 z2 z3 z4 z5 z6 z7 => ?_)
  · exact ⟨by rw [o1]; exact X2.1, fun b q1 q2 => by rw [o2, o3]; exact X2.2.1 b q1 q2, fun q hq => by rw [o5]; exact X2.2.2.1 q hq, by rw [o2]; exact X2.2.2.2⟩
  · rw [o2, o3, (X3 a ha).1, (X3 a ha).2, k2, k3]; exact ⟨rfl, rfl⟩
  · rw [o5, X4 a j ha, if_neg z, k4]
  · exact tA1
  · rw [oI _ _ (by omega)]
    by_cases c55 : a = 55
    · rw [c55]; exact M5 j
    · rw [M1 a j (by unfold QU at z1; omega) z5 (by omega), ρσ a j ha z1 c55 z3 z4]
  · rw [oI _ _ (by omega)]; exact T1
  · rw [oI _ _ (by omega), M1 13 1 (by omega) (by omega) (by omega), ρI 13 1 (by unfold QU; omega) (by omega), X5 13 1 (by omega), if_pos ⟨rfl, rfl⟩]
  · rw [oI _ _ (by omega), M1 2 8 (by omega) (by omega) (by omega), ρI 2 8 (by unfold QU; omega) (by omega), X5 2 8 (by omega), if_neg (by omega), if_pos ⟨rfl, rfl⟩]
  · rw [o52, xL] at hk
    rw [cA1 k hk]; omega
  · rw [o52, xL] at hj hk
    rw [cA1 j hj, cA1 k hk] at q; omega
  · rw [oJ, if_neg (by omega), if_neg (by omega), ρJ, rc_J (by omega), if_neg (by omega), if_neg (by omega), if_neg (by omega), if_pos ⟨rfl, rfl⟩, a8]; grind
  · rw [oJ, if_neg (by omega), if_neg (by omega), ρJ, rc_J (by omega), if_neg (by omega), o51, a2]
    by_cases e : c = ix y
    · rw [if_pos ⟨rfl, e⟩, if_pos e, X6 31 c (by omega), κJ 31 c (by decide) (by decide) (by decide)]
    · rw [if_neg (fun t => e t.2), if_neg e, if_neg (by omega), if_neg (by omega), X6 31 c (by omega), κJ 31 c (by decide) (by decide) (by decide)]; grind
  · have q70 : zJ ρ 70 c = zJ σ 70 c := by rw [ρJ, rc_J (by omega), if_neg (by omega), if_neg (by omega), if_neg (by omega), if_neg (by omega), X6 70 c (by omega), κJ 70 c (by decide) (by decide) (by decide)]
    rw [oJ, if_neg (by omega), o51, q70]
    by_cases e : c = ix y
    · rw [if_pos ⟨rfl, e⟩, if_pos e]
    · rw [if_neg (fun t => e t.2), if_neg e]; grind
  · rw [oJ, if_neg (by omega), if_neg (by omega), ρJ, rc_J (by omega), if_neg (by omega), if_neg (by omega), if_pos ⟨rfl, rfl⟩, X6 2 10 (by omega), κJ 2 10 (by decide) (by decide) (by decide)]
  · rw [oJ, if_pos ⟨rfl, rfl⟩, ρJ, rc_J (by omega), if_neg (by omega), if_neg (by omega), if_neg (by omega), if_neg (by omega), X6 33 48 (by omega), κJ 33 48 (by decide) (by decide) (by decide)]
  · rw [oJ, if_neg z7, if_neg (by omega), ρJ, rc_J (by omega), if_neg (by omega), if_neg (by omega), if_neg z6, if_neg (by omega), X6 a j ha, κJ a j z1 z2 z3]
