/-! ===== a new ticket ===== -/
theorem ciH_RW {τ : AH} {x : Int32} : RW (uI (ciH τ) 33 49 x) τ := by
  obtain ⟨e1, e2, e3, e4, e5⟩ := ciH_N (σ := τ)
  exact ⟨e1, e2, e3, e5, fun a j h => by rw [zI_uI, if_neg (by omega), ciH_I (by omega)], fun a j => by rw [zJ_uI, e4]⟩
/-- rows of a ticket that stood -/
theorem TK_old {ω κ : AH} {u : Nat} (h8 : ix (zI κ 52 u) ≤ 8) (h1 : ∀ a, 50 ≤ a → a ≤ 54 → zI ω a u = zI κ a u) (h2 : ∀ a j, 55 ≤ a → a ≤ 61 → j < 8 → zI ω a (8 * u + j) = zI κ a (8 * u + j)) (h3 : ∀ a, 62 ≤ a → a ≤ 67 → zI ω a = zI κ a) (h36 : zI ω 33 36 = zI κ 33 36) (h : TK κ u) : TK ω u := by
  obtain ⟨k1, k2, k3, k4⟩ := h
  unfold TK
  rw [h1 52 (by decide) (by decide), h1 54 (by decide) (by decide), h1 50 (by decide) (by decide)]
  refine ⟨?_, k2, k3, fun k hk => ?_⟩
  · rw [← k1]
    congr 1
    exact smI_c (fun k hk => h2 56 k (by decide) (by decide) (by omega))
  · obtain ⟨p1, p2, p3, p4, p5⟩ := k4 k hk
    unfold CP
    rw [h2 55 k (by decide) (by decide) (by omega), h2 56 k (by decide) (by decide) (by omega), h2 57 k (by decide) (by decide) (by omega), h2 61 k (by decide) (by decide) (by omega), h2 58 k (by decide) (by decide) (by omega), h3 63 (by decide) (by decide), h3 64 (by decide) (by decide), h3 65 (by decide) (by decide), h1 51 (by decide) (by decide), h36]
    exact ⟨p1, p2, p3, fun q j hj => by rw [h2 55 j (by decide) (by decide) (by omega)]; exact p4 q j hj, p5⟩
theorem txF_b2 {σ : AH} (hT : TB σ) (hP : PO σ) {k : Nat} (hk : k < 8) : bt (txF σ k) 0 1000 := by
  have h1 := (hP.2.1 k hk).1
  obtain ⟨p, hp, e⟩ := vp_in_of h1 (by decide)
  have ep : ix (zI σ 46 k) = p := by rw [e]; exact cl0 (by omega)
  rw [txF, ep]
  split
  · exact (hT.2.2 p hp).1
  · exact (hT.2.2 p hp).2
/-- what a new ticket's rows are -/
theorem new_rows {σ κ : AH} {s n L c : Nat} {x z : Int32} (h : Co s σ) (n1 : n < 30) (n2 : zI σ 33 23 = nI n) (l1 : 1 ≤ L) (l2 : L ≤ 8) (l3 : zI σ 33 16 = nI L) (hw : ¬ (wayF σ).1 = -1) (hc : c < 5) (hz : z = nI (n + 1))
    (hκ : ∀ a j, 33 ≤ a → a ≤ 71 → a ≠ 55 → ¬ (a = 33 ∧ (j = 21 ∨ j = 22 ∨ j = 49)) → zI κ a j = zI σ a j) (h55 : ∀ q, zI κ 55 q = zI σ 55 q ∨ (zI σ 55 q = 0 ∧ zI κ 55 q = 4)) (hJ : ∀ a j, 33 ≤ a → a ≤ 71 → zJ κ a j = zJ σ a j) :
    Cr s (uI (byH (nwH κ (nI c)) (nI c) x) 33 23 z) ∧ zI (uI (byH (nwH κ (nI c)) (nI c) x) 33 23 z) 33 23 = nI (n + 1) ∧ zI (uI (byH (nwH κ (nI c)) (nI c) x) 33 23 z) 33 16 = 0 ∧ zI (uI (byH (nwH κ (nI c)) (nI c) x) 33 23 z) 50 n = (wayF σ).1 ∧ zI (uI (byH (nwH κ (nI c)) (nI c) x) 33 23 z) 51 n = nI c ∧ zI (uI (byH (nwH κ (nI c)) (nI c) x) 33 23 z) 52 n = nI L ∧
      zJ (uI (byH (nwH κ (nI c)) (nI c) x) 33 23 z) 33 48 = zJ σ 33 48 + Int32.toInt64 x ∧ (∀ j, j = 0 ∨ j = 6 ∨ j = 36 ∨ j = 43 → zI (uI (byH (nwH κ (nI c)) (nI c) x) 33 23 z) 33 j = zI σ 33 j) ∧ (zI (uI (byH (nwH κ (nI c)) (nI c) x) 33 23 z) 47 = zI σ 47 ∧ zI (uI (byH (nwH κ (nI c)) (nI c) x) 33 23 z) 49 = zI σ 49) ∧
      (∀ u, u < n → zI (uI (byH (nwH κ (nI c)) (nI c) x) 33 23 z) 52 u = zI σ 52 u ∧ zI (uI (byH (nwH κ (nI c)) (nI c) x) 33 23 z) 51 u = zI σ 51 u) ∧ (∀ u j, u < n → j < 8 → zI (uI (byH (nwH κ (nI c)) (nI c) x) 33 23 z) 55 (8 * u + j) = zI κ 55 (8 * u + j)) ∧
      nwP κ (nI c) = (wayF σ).1 + smI (fun k => zI (uI (byH (nwH κ (nI c)) (nI c) x) 33 23 z) 57 (8 * n + k)) L ∧ bt (smI (fun k => zI (uI (byH (nwH κ (nI c)) (nI c) x) 33 23 z) 57 (8 * n + k)) L) 0 8000 := by
  have hr := h.2.1
  obtain ⟨-, hS, hT, hJr, hPr, -⟩ := id hr
  have hE : EqP κ σ := ⟨hκ 33 0 (by decide) (by decide) (by decide) (by decide), hκ 33 6 (by decide) (by decide) (by decide) (by decide), hκ 33 14 (by decide) (by decide) (by decide) (by decide), hκ 33 16 (by decide) (by decide) (by decide) (by decide), fun a k a1 a2 => hκ a k (by omega) (by omega) (by omega) (by omega)⟩
  have lσ : lgN σ = L := by rw [lgN, l3]; exact cl0 (by omega)
  have nκ : ix (zI κ 33 23) = n := by rw [hκ 33 23 (by decide) (by decide) (by decide) (by decide), n2]; exact cl0 (by omega)
  have lκ : lgN κ = L := by rw [lgN, hE.2.2.2.1]; exact lσ
  have hTB := h.2.2.2.1
  have wκ : wayF κ = wayF σ := wayF_eq hE
  have gκ : sgF κ L = sgS (partF σ) (pvF σ) (wtF σ) (wayF σ).2 L L := by
    rw [sgF, lκ, partF_eq hE, wκ, show pvF κ = pvF σ from funext (pvF_eq hE), show wtF κ = wtF σ from funext (wtF_eq hE)]
  have gL : (sgF κ L).1 = L := by rw [gκ]; exact sgS_L l1
  obtain ⟨m, m1, m2, m3, m4⟩ : ∃ m, m < 2 ^ (L - 1) ∧ ¬ (sumSt (partF σ) (2 * m) L L).1 = -1 ∧ wayF σ = ((sumSt (partF σ) (2 * m) L L).1, nI (2 * m)) ∧ bt (wayF σ).1 1 504000 := by
    rcases way_spec hTB lσ l1 l2 with ⟨q, -⟩ | ⟨m, q1, q2, q3, q4, -⟩
    · rw [q] at hw; exact absurd rfl hw
    · exact ⟨m, q1, q2, q3, q4⟩
  have hp2 : 2 ^ (L - 1) ≤ 2 ^ 7 := Nat.pow_le_pow_right (by decide) (by omega)
  have hcut : ∀ p, p ≤ L → (cutB (wayF σ).2 p ↔ (2 * m).testBit p = true) := fun p hp => by
    rw [m3]; exact bit_t (by omega) (by omega)
  obtain ⟨-, t2, t3, t4⟩ := sgS_sum (P := partF σ) (pv := pvF σ) (wt := wtF σ) (c := (wayF σ).2) (set := 2 * m) (L := L) (partF_PQ hTB) l2 hcut (fun k hk => pvF_b hJr hPr (by omega)) (fun k hk => (R_wt hT hJr hPr (by omega)).2) L (Nat.le_refl L) m2
  rw [← gκ] at t2 t3 t4
  rw [gL] at t2 t4
  have ew : (sumSt (partF σ) (2 * m) L L).1 = (wayF σ).1 := by rw [m3]
  rw [ew] at t2
  obtain ⟨T1, T2, T3, T4, T5, T6⟩ := nw_T (y := nI c) nκ lκ
  have C := fun k hk => nw_C (y := nI c) (k := k) nκ lκ gL hk
  generalize hω : uI (byH (nwH κ (nI c)) (nI c) x) 33 23 z = ω at *
  have R0 : ∀ a j, ¬ (a = 33 ∧ j = 23) → zI ω a j = zI (nwH κ (nI c)) a j := fun a j q => by
    rw [← hω, zI_uI, if_neg q, by_I]
  have RR : ∀ a j, ¬ (a = 33 ∧ (j = 16 ∨ j = 21 ∨ j = 22 ∨ j = 23)) → ¬ (50 ≤ a ∧ a ≤ 54 ∧ j = n) → ¬ (55 ≤ a ∧ a ≤ 61 ∧ 8 * n ≤ j) → zI ω a j = zI κ a j := fun a j q1 q2 q3 => by
    rw [R0 a j (by omega)]; exact nw_o nκ (by omega) q2 q3
  have RJ : ∀ a j, zJ ω a j = if a = 33 ∧ j = 48 then zJ κ 33 48 + Int32.toInt64 x else if a = 70 ∧ j = c then zJ κ 70 j + Int32.toInt64 x else zJ κ a j := fun a j => by
    rw [← hω, zJ_uI, by_J, (nw_N (ρ := κ) (y := nI c)).2.2.2.1, ix, cl0 (by omega)]
  have r23 : zI ω 33 23 = nI (n + 1) := by rw [← hω, zI_uI, if_pos ⟨rfl, rfl⟩, hz]
  have r16 : zI ω 33 16 = 0 := (R0 33 16 (by decide)).trans T1
  have r50 : zI ω 50 n = (wayF σ).1 := by rw [R0 50 n (by omega), T2, wκ]
  have r51 : zI ω 51 n = nI c := by rw [R0 51 n (by omega), T3]
  have r52 : zI ω 52 n = nI L := by rw [R0 52 n (by omega), T4, hE.2.2.2.1, l3]
  have r54 : zI ω 54 n = (sgF κ L).2.1 := by rw [R0 54 n (by omega), T6]
  have rC : ∀ a k, k < L → 55 ≤ a → a ≤ 61 → a ≠ 56 → zI ω a (8 * n + k) = rwC κ a k := fun a k hk q1 q2 q3 => by
    rw [R0 a _ (by omega)]; exact (C k hk).1 a q1 q2 q3
  have r56 : ∀ k, k < L → zI ω 56 (8 * n + k) = (sgF κ L).2.2 k := fun k hk => by
    rw [R0 56 _ (by omega)]; exact (C k hk).2
  have rx : ∀ k, k < L → zI ω 57 (8 * n + k) = txF κ k := fun k hk => by
    rw [rC 57 k hk (by decide) (by decide) (by decide), rwC, if_neg (by decide), if_pos rfl]
  have hx : ∀ k, k < L → bt (zI ω 57 (8 * n + k)) 0 1000 := fun k hk => by
    rw [rx k hk, txF_e hE]
    exact txF_b2 hTB (R_PO hT hJr) (by omega)
  have i52 : ix (zI ω 52 n) = L := by rw [r52]; exact cl0 (by omega)
  have r33 : ∀ j, j = 0 ∨ j = 6 ∨ j = 14 ∨ j = 36 ∨ j = 43 → zI ω 33 j = zI σ 33 j := fun j hj => by
    rw [RR 33 j (by omega) (by omega) (by omega)]
    exact hκ 33 j (by decide) (by decide) (by decide) (by omega)
  have rσ : ∀ a j, 34 ≤ a → a ≤ 71 → (a < 50 ∨ 61 < a) → zI ω a j = zI σ a j := fun a j q1 q2 q3 => by
    rw [RR a j (by omega) (by omega) (by omega)]
    exact hκ a j (by omega) q2 (by omega) (by omega)
  have rf : ∀ a, 34 ≤ a → a ≤ 71 → (a < 50 ∨ 61 < a) → zI ω a = zI σ a := fun a q1 q2 q3 => funext fun j => rσ a j q1 q2 q3
  obtain ⟨n', k1, k2, k3⟩ := Rel_tk hr
  have en : n' = n := (nI_eq (by omega) (by omega)).mp (k2.symm.trans n2)
  subst en
  obtain ⟨hT0, hK, hB, hM, hN⟩ := h.2.2.2
  refine ⟨⟨?_, fun u hu => ?_, ?_, MN_by (c := c) (x := Int32.toInt64 x) (Nat.le_refl s) hc (fun k hk => ?_) (fun k hk => ?_) ?_ hM, ?_⟩, r23, r16, r50, r51, r52, ?_, fun j hj => r33 j (by omega), ⟨rf 47 (by decide) (by decide) (by decide), rf 49 (by decide) (by decide) (by decide)⟩, fun u hu => ?_, fun u j hu hj => RR 55 _ (by omega) (by omega) (by omega), ?_, ?_⟩
  · unfold TB at hT0 ⊢
    rw [r33 6 (by decide), r33 14 (by decide), rf 41 (by decide) (by decide) (by decide), rf 37 (by decide) (by decide) (by decide), rf 38 (by decide) (by decide) (by decide)]
    exact hT0
  · rw [r23, ix, cl0 (by omega)] at hu
    by_cases q : u = n'
    · subst q
      unfold TK
      rw [i52, r50, r54]
      refine ⟨?_, ⟨by have := m4.1; omega, m4.2⟩, ⟨t3.1, by have := t3.2; omega⟩, fun k hk => ?_⟩
      · rw [← t2]
        congr 1
        exact smI_c r56
      · unfold CP
        have e55 : zI ω 55 (8 * u + k) = 0 := by rw [rC 55 k hk (by decide) (by decide) (by decide), rwC, if_pos rfl]
        have e61 : zI ω 61 (8 * u + k) = -1 := by rw [rC 61 k hk (by decide) (by decide) (by decide), rwC, if_neg (by decide), if_neg (by decide), if_neg (by decide), if_neg (by decide), if_neg (by decide)]
        rw [e55, e61, r56 k hk]
        exact ⟨by decide, t4 k hk, hx k hk, fun q => absurd q (by decide), Or.inl (by decide)⟩
    · have hu' : u < n' := by omega
      have hT1 : TK σ u := hK u (by rw [n2, ix, cl0 (by omega)]; exact hu')
      have hT2 : TK κ u := TK_turn (w := 4) (by decide) h55 (fun a ha h5 => funext fun j => hκ a j (by unfold CJ at ha; omega) (by unfold CJ at ha; omega) h5 (by unfold CJ at ha; omega)) (hκ 33 36 (by decide) (by decide) (by decide) (by decide)) hT1
      obtain ⟨mu, u1, u2, u3, -⟩ := k3 u hu'
      refine TK_old ?_ (fun a q1 q2 => RR a u (by omega) (by omega) (by omega)) (fun a j q1 q2 q3 => RR a _ (by omega) (by omega) (by omega)) (fun a q1 q2 => funext fun j => RR a j (by omega) (by omega) (by omega)) (RR 33 36 (by omega) (by omega) (by omega)) hT2
      rw [hκ 52 u (by decide) (by decide) (by decide) (by omega), u3, ix, cl0 (by omega)]
      exact u2
  · unfold BL at hB ⊢
    rw [r33 36 (by decide), r33 43 (by decide), rf 62 (by decide) (by decide) (by decide), rf 64 (by decide) (by decide) (by decide), rf 65 (by decide) (by decide) (by decide), rf 66 (by decide) (by decide) (by decide), rf 67 (by decide) (by decide) (by decide)]
    exact hB
  · rw [RJ, if_neg (by omega)]
    by_cases q : k = c
    · rw [if_pos ⟨rfl, q⟩, if_pos q, hJ 70 k (by decide) (by decide)]
    · rw [if_neg (fun w => q w.2), if_neg q, hJ 70 k (by decide) (by decide)]
  · rw [RJ, if_neg (by omega), if_neg (by omega), hJ 71 k (by decide) (by decide)]
  · rw [RJ, if_pos ⟨rfl, rfl⟩, hJ 33 48 (by decide) (by decide)]
  · unfold NM at hN ⊢
    rw [r33 36 (by decide), r33 43 (by decide), r33 0 (by decide)]
    exact hN
  · rw [RJ, if_pos ⟨rfl, rfl⟩, hJ 33 48 (by decide) (by decide)]
  · rw [RR 52 u (by omega) (by omega) (by omega), RR 51 u (by omega) (by omega) (by omega)]
    exact ⟨hκ 52 u (by decide) (by decide) (by decide) (by omega), hκ 51 u (by decide) (by decide) (by decide) (by omega)⟩
  · rw [nwP, nκ, T2, wκ]
    congr 1
    rw [T4, hE.2.2.2.1, l3, ix, cl0 (by omega)]
    exact smI_c (fun k hk => (R0 57 _ (by omega)).symm)
  · have := smI_b (M := 1000) (by decide) L l2 hx
    exact ⟨this.1, by have := this.2; omega⟩
section MU6
variable {g : GP} {σ : AH} {s : Nat}
theorem P_issue {c : Nat} (hg : gG g = none) (h : Co s σ) (hc : c < 5) : CtH g mL_issue [.ref 2, .int (nI c)] σ (fun ω rv => ∃ y, rv = some (.int y) ∧ ((y = -1000003 ∧ Kp ω σ) ∨ (∃ n L, n < 30 ∧ zI σ 33 23 = nI n ∧ 1 ≤ L ∧ L ≤ 8 ∧ zI σ 33 16 = nI L ∧ ¬ (wayF σ).1 = -1 ∧ y = nI n ∧ Co s ω ∧ NW (fun j => j = 16 ∨ j = 23) ω σ ∧ zI ω 33 23 = nI (n + 1) ∧ zI ω 33 16 = 0 ∧ zI ω 50 n = (wayF σ).1 ∧ zI ω 51 n = nI c ∧ zI ω 52 n = nI L ∧ zJ ω 33 48 = zJ σ 33 48 + Int32.toInt64 ((wayF σ).1 + smI (fun k => zI ω 57 (8 * n + k)) L) ∧ bt (smI (fun k => zI ω 57 (8 * n + k)) L) 0 8000))) := by
  have hca := ca_lt hc
  refine mu_int hg h.2.1 h.2.2.1 (fun g' => R_issue (by decide) h.2.1) (fun τ ω rv hS => ?_) (fun τ ω b hO hS h49 hw hr hA => ?_) (fun τ ω rv j z hO hz hS h49 hw hr hA => ?_)
  · obtain ⟨q1, q2, q⟩ := hS
    by_cases c1 : cnF τ
    · obtain ⟨rfl, -⟩ := q hca c1
      have w := RW_GW (ciH_RW (τ := τ) (x := 0))
      have w2 : GW (nwH (uI (ciH τ) 33 49 0) (nI c)) τ := by
        obtain ⟨e1, e2, e3, e4, e5⟩ := nw_N (ρ := uI (ciH τ) 33 49 0) (y := nI c)
        exact GW_tr (GW_of e1 e2 e3 e5 (fun a j ha => nw_o rfl (by omega) (by omega) (by omega)) (fun a j _ => by rw [e4])) w
      refine ⟨GW_uI (by decide) (byH_GW w2), ?_⟩
      rw [isH, zJ_uI, by_J, if_neg (by omega), if_neg (by omega), nw_N.2.2.2.1, zJ_uI, ciH_J]
    · obtain ⟨rfl, -⟩ := q2 hca c1
      exact ⟨RW_GW ciH_RW, by rw [zJ_uI, ciH_J]⟩
  · obtain ⟨q1, q2, q⟩ := hS
    by_cases c1 : cnF τ
    · obtain ⟨rfl, e⟩ := q hca c1
      cases e
      have eE : EqP τ σ := EqP_tr (τ := uI τ 33 49 0) (by
        refine ⟨?_, ?_, ?_, ?_, fun a k _ _ => ?_⟩ <;> (rw [zI_uI, if_neg (by omega)])) (RO_E hO)
      have c2 : cnF σ := (cnF_e eE (RO_3 hO 23 (by decide))).mp c1
      obtain ⟨n, n1, n2, -⟩ := cn_n h.2.1.2.2.2.2.2.1 c2
      obtain ⟨L, l1, l2, l3⟩ := cn_L h.2.1.2.2.2.1 c2
      have n3 : zI τ 33 23 = nI n := (RO_3 hO 23 (by decide)).trans n2
      have o := RO_tr (RW_RO (ciH_RW (τ := τ) (x := 0))) hO
      obtain ⟨t1, t2, t3, t4, t5, t6, t7, t8, t9, t10, t11, t12, t13⟩ := new_rows (κ := uI (ciH τ) 33 49 0) (x := nwP (uI (ciH τ) 33 49 0) (nI c)) (z := zI τ 33 23 + 1) h n1 n2 l1 l2 l3 c2.1.2 hc (by rw [n3, nI_1]) (fun a j q1 q2 q3 q4 => o.1 a j q1 (by omega) (by omega) q4) (fun q => Or.inl (o.1 55 q (by decide) (by decide) (by decide) (by omega))) (fun a j q1 q2 => o.2 a j q1 q2)
      rw [show uI (byH (nwH (uI (ciH τ) 33 49 0) (nI c)) (nI c) (nwP (uI (ciH τ) 33 49 0) (nI c))) 33 23 (zI τ 33 23 + 1) = isH τ (nI c) from rfl] at *
      refine Or.inr ⟨n, L, n1, n2, l1, l2, l3, c2.1.2, (i11 _).trans n3, ⟨h.1, Rel_sm h.2.1 hr (t8 43 (by decide)), hA, t1⟩, ⟨fun j hj hC => t8 j (by omega), fun _ => t9, ?_, ?_⟩, t2, t3, t4, t5, t6, ?_, t13⟩
      · exact funext fun j => ((hw.2.2.2.2 73 (by omega) j).1).trans (hO.1 73 j (by omega) (by omega) (by omega) (by omega))
      · exact funext fun j => ((hw.2.2.2.2 74 (by omega) j).1).trans (hO.1 74 j (by omega) (by omega) (by omega) (by omega))
      · rw [t7, ← t12]
    · obtain ⟨rfl, e⟩ := q2 hca c1
      rw [i49] at h49
      exact absurd h49 (by decide)
  · obtain ⟨q1, q2, q⟩ := hS
    by_cases c1 : cnF τ
    · obtain ⟨rfl, e⟩ := q hca c1
      rw [isH, zI_uI, if_neg (by omega), by_I, nw_o rfl (by omega) (by omega) (by omega), i49] at h49
      exact absurd h49 (no49 (by decide) hz)
    · obtain ⟨rfl, e⟩ := q2 hca c1
      rw [i49] at h49
      exact Or.inl ⟨(Option.some.inj (is49 (by decide) hz 1 (by decide) h49)).symm, Kp_no h.2.1 hO ciH_RW hr hA⟩
end MU6
