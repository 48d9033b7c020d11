/-! ===== the class: issued ===== -/
theorem R_prG11 {σ : AH} (hP : RP σ) {x y : Int32} (hx : isPl x) (hy : isPl y) : prG σ 10 x y = zI σ 35 (p2 x y) ∧ bt (zI σ 35 (p2 x y)) 0 9999 := by
  obtain ⟨m1, m2, m3⟩ := vp_mul (isPl_vp hx) (isPl_vp hy)
  obtain ⟨j, hj, e⟩ := vp_in_of m1 (by decide)
  have hj2 : p2 x y = j := by rw [p2, ix, e, cl0 (by omega)]
  rw [prG, if_pos ⟨hx, hy⟩, m3, hj2, show ix (10 * x + y) = j from hj2]
  exact hP.1 j hj
theorem R_wt {σ : AH} (hT : RT σ) (hJ : RJ σ) (hP : RP σ) {k : Nat} (hk : k < lgN σ) : wtG σ (zI σ 46 k) (zI σ 47 k) = wtF σ k ∧ bt (wtF σ k) 1 9999 := by
  obtain ⟨L, h1, h2, h3, h4, h5, h6⟩ := hJ
  have hl : lgN σ = L := by rw [lgN, h2, cl0 (by omega)]
  have hx := vp_isPl (h4 k (by omega)).2.2.2.2.1
  have hy := vp_isPl (h4 k (by omega)).2.2.2.2.2.1
  have hm := R_mi hT _ _ hx hy
  have hm1 := (h5 k (by omega)).2
  have hp := R_prG11 hP hx hy
  rw [wtG, wtF, hp.1, hm.1]
  by_cases h : zI σ 35 (p2 (zI σ 46 k) (zI σ 47 k)) = 0
  · rw [if_pos h, if_pos (by rw [h]; decide)]
    exact ⟨rfl, hm1, hm.2.2⟩
  · have h' : ¬ zI σ 35 (p2 (zI σ 46 k) (zI σ 47 k)) ≤ 0 := fun q => by
      rw [Int32.le_iff_toInt_le] at q
      change _ ≤ (0 : Int) at q
      have := hp.2.1
      exact h (Int32.toInt_inj.mp (show _ = (0 : Int) by omega))
    rw [if_neg h, if_neg h']
    refine ⟨rfl, ?_, hp.2.2⟩
    rw [Int32.le_iff_toInt_le] at h'
    change ¬ _ ≤ (0 : Int) at h'
    omega
theorem R_pv {σ : AH} (hJ : RJ σ) (hP : RP σ) {k : Nat} (hk : k < 8) : pvG σ (zI σ 48 k) (zI σ 46 k) (zI σ 47 k) = pvF σ k := by
  obtain ⟨L, h1, h2, h3, h4, h5, h6⟩ := hJ
  have hx := (h4 k hk).2.2.2.2.1
  have hy := (h4 k hk).2.2.2.2.2.1
  have hc := (h4 k hk).2.2.2.2.2.2
  have m := vp_mul3 hc hx hy
  obtain ⟨j, hj, e⟩ := vp_in_of m.1 (by decide)
  have hj2 : p3 (zI σ 48 k) (zI σ 46 k) (zI σ 47 k) = j := by rw [p3, ix, e, cl0 (by omega)]
  have hc' : isCa (zI σ 48 k) := by
    obtain ⟨n, hn, e⟩ := vp_in_of hc (by decide)
    rw [e]
    exact ⟨nI_nneg (by omega), nI_ge (b := 5) hn (by decide)⟩
  rw [pvG, if_pos ⟨hc', vp_isPl hx, vp_isPl hy⟩, pvF, hj2]
  exact (hP.2 j hj).1
theorem ot_ne {pv : Nat → Int32} {i n k : Nat} (hn : i + n ≤ 8) (hk : k < n) (h : pv (i + k) = -1) : ¬ otS pv i n = -1 := by
  have : ∀ d, k < d → d ≤ n → ¬ otS pv i d = -1 := fun d => by
    induction d with
    | zero => intro h; omega
    | succ d ih =>
      intro h1 h2
      rw [otS]
      split
      · intro z
        have := congrArg Int32.toInt z
        rw [nI_toInt (by omega)] at this
        change ((i + d : Nat) : Int) = -1 at this
        omega
      · rename_i h3
        have : k ≠ d := fun z => h3 (z ▸ h)
        exact ih (by omega) (by omega)
  exact this n hk (Nat.le_refl _)
theorem R_NZ {σ : AH} (hT : RT σ) (hJ : RJ σ) (hP : RP σ) : NZ σ := fun b n d hb hd h => by
  obtain ⟨L, h1, h2, h3⟩ := RJ_L hJ
  have hl : lgN σ = L := by rw [lgN, h2, cl0 (by omega)]
  have hal := alS_bt (pv := pvF σ) (wt := wtF σ) (i := b) n (by omega) (fun k k1 k2 => (R_wt hT hJ hP (by omega)).2)
  intro q
  have q1 : alS (pvF σ) (wtF σ) b n = 0 := by
    have := congrArg Int64.toInt q
    rw [Int32.toInt_toInt64] at this
    exact Int32.toInt_inj.mp this
  exact ot_ne (by omega) hd h (hal.2.mp (by rw [q1]; exact Int32.le_refl _))
theorem TS_mc {τ : AH} {a d l : Nat} {x : Int32} (h : TS τ a d) (ha : a ≤ zN τ) (hr : zR τ a 3 ≤ zN τ) (hc : ∀ k, k < d → cA τ a k ≤ zN τ) : TS (cnH (nw τ 2 9) (zN τ + 1) l x) a d := by
  obtain ⟨h1, h2, h3, h4, ⟨h5, h6, h7⟩, h8⟩ := h
  have eR : ∀ b j, b ≤ zN τ → zR (cnH (nw τ 2 9) (zN τ + 1) l x) b j = zR τ b j := fun b j hb => by rw [cn_R, zR_nw, if_neg (by omega)]
  have eK : ∀ b, b ≤ zN τ → zK (cnH (nw τ 2 9) (zN τ + 1) l x) b = zK τ b := fun b hb => (zK_nw _ 2 9 _).trans (if_neg (by omega))
  have eL : ∀ b, b ≤ zN τ → zL (cnH (nw τ 2 9) (zN τ + 1) l x) b = zL τ b := fun b hb => (zL_nw _ 2 9 _).trans (if_neg (by omega))
  refine ⟨h1, by rw [eK _ ha]; exact h2, by rw [(mc_e ha 0 4).1]; exact h3, h4, ?_, fun k hk => ?_⟩
  · rw [eR _ _ ha, eK _ hr, eL _ hr]; exact ⟨h5, h6, h7⟩
  · rw [cA, eR _ _ ha, eR _ _ hr, eK _ (hc k hk)]; exact h8 k hk
theorem ad_ok {τ : AH} {a d l : Nat} {x : Int32} (h : TS τ a d) (ha : a ≤ zN τ) (hr : zR τ a 3 ≤ zN τ) (hc : ∀ k, k < d → cA τ a k ≤ zN τ) (hd : d < 8) : adP (cnH (nw τ 2 9) (zN τ + 1) l x) a (zN τ + 1) :=
  ⟨d, TS_mc h ha hr hc, hd, Nat.succ_ne_zero _, (zK_nw _ 2 9 _).trans (if_pos rfl)⟩
theorem R_tx {σ τ : AH} {y : Int32} {d : Nat} (hS : Sh σ) (hT : RT σ) (hJ : RJ σ) (h : IS σ y d τ) (hd : d < 8) (z : Int32) : (if isPl (zI (nw τ 2 9) (15 + d) 0) then (if z = 0 then zI (nw τ 2 9) 8 (ix (zI (nw τ 2 9) (15 + d) 0)) else zI (nw τ 2 9) 7 (ix (zI (nw τ 2 9) (15 + d) 0))) else 0) = if z = 0 then zI σ 38 (ix (zI σ 46 d)) else zI σ 37 (ix (zI σ 46 d)) := by
  have h0 := hS.1
  have hN := h.1
  have e : ∀ b j, b ≤ 72 → zI (nw τ 2 9) b j = zI σ b j := fun b j hb => by rw [zI_nw, if_neg (by omega)]; exact IS_I hS h hb j
  rw [e _ _ (by omega), e _ _ (by decide), e _ _ (by decide), (RJ_leg hJ hd).1]
  obtain ⟨L, h1, h2, h3, h4, -⟩ := hJ
  have hv := (h4 d hd).2.2.2.2.1
  obtain ⟨nf, t1, t2, t3, t4, t5, t6, t7, t8, t9, -⟩ := hT
  obtain ⟨j, hj, ej⟩ := vp_in_of hv (by decide)
  have ei : ix (zI σ 46 d) = j := by rw [ej]; exact cl0 (by omega)
  rw [if_pos (vp_isPl hv), ei, (t9 j hj).1, (t9 j hj).2.1]
/-- the heap when a ticket is issued -/
noncomputable def isX (σ : AH) (y : Int32) : AH := uI (uI (uR (soT (isS σ y (lgN σ)) (zN σ + 1)) 30 (ix (zI σ 2 8)) (zN σ + 1)) 2 8 (zI σ 2 8 + 1)) 13 1 0
theorem soP_IS {σ : AH} {y : Int32} (hS : Sh σ) (hT : RT σ) (hJ : RJ σ) (hP : RP σ) (h0 : ¬ zI σ 33 16 = 0) : soP (isS σ y (lgN σ)) (zN σ + 1) ∧ ∀ k, k < lgN σ → pvX (isS σ y (lgN σ)) (zN σ + 1) k = pvF σ k ∧ wtX (isS σ y (lgN σ)) (zN σ + 1) k = wtF σ k := by
  obtain ⟨L, h1, h2, h3⟩ := RJ_L hJ
  have hl : lgN σ = L := by rw [lgN, h2, cl0 (by omega)]
  have hL : L ≠ 0 := fun q => h0 (by rw [h2, q]; rfl)
  have hi := IS_S (y := y) hS.1 (σ := σ) L h1
  have h72 := hS.1
  have eI : ∀ b j, b ≤ 72 → zI (isS σ y L) b j = zI σ b j := fun b j hb => IS_I hS hi hb j
  have key : ∀ k, k < L → pvX (isS σ y L) (zN σ + 1) k = pvF σ k ∧ wtX (isS σ y L) (zN σ + 1) k = wtF σ k := fun k hk => by
    have hc := (hi.2.2.2.2 k hk).2.2
    have hr := RJ_leg hJ (k := k) (by omega)
    constructor
    · rw [pvX, IS_cA hi hk, hc, hc, hc, cnV, cnV, cnV, if_neg (by decide), if_pos rfl, if_neg (by decide), if_neg (by decide), if_neg (by decide), if_neg (by decide), if_pos rfl, if_neg (by decide), if_neg (by decide), if_neg (by decide), if_pos rfl, hr.2.2.1, hr.1, hr.2.1, pvG, eI _ _ (by decide)]
      exact R_pv hJ hP (by omega)
    · rw [wtX, IS_cA hi hk, hc, hc, cnV, cnV, if_neg (by decide), if_neg (by decide), if_neg (by decide), if_neg (by decide), if_pos rfl, if_neg (by decide), if_neg (by decide), if_neg (by decide), if_pos rfl, hr.1, hr.2.1, wtG, prG, prG, eI _ _ (by decide), eI _ _ (by decide)]
      exact (R_wt hT hJ hP (by omega)).1
  rw [hl]
  refine ⟨⟨L, by omega, by rw [eI _ _ (by decide)]; exact h2, IS_TS h1 hi, IS_CD hS hi, by omega, hi.2.2.1.2.2.2.2.2.2.1, fun k hk => ⟨?_, ?_⟩⟩, key⟩
  · rw [(key k hk).2]; exact (R_wt hT hJ hP (by omega)).2
  · rw [IS_cA hi hk, (hi.2.2.2.2 k hk).2.2]
    rfl
theorem s_X11_issued {g : GP} {σ : AH} {y : Int32} (hS : Sh σ) (hT : RT σ) (hJ : RJ σ) (hP : RP σ) (h0 : ¬ zI σ 33 16 = 0) (hn : vp_in (zI σ 2 8) 30) : Ct g mX11_issued [.ref 2, .int y] σ (FQ (isX σ y) (some (.ref (zN σ + 1)))) := by
  have hso := (soP_IS (y := y) hS hT hJ hP h0).1
  have h72 := hS.1
  obtain ⟨L, h1, h2, h3⟩ := RJ_L hJ
  have hl : lgN σ = L := by rw [lgN, h2, cl0 (by omega)]
  rw [hl] at hso
  have hX : isX σ y = uI (uI (uR (soT (isS σ y L) (zN σ + 1)) 30 (ix (zI σ 2 8)) (zN σ + 1)) 2 8 (zI σ 2 8 + 1)) 13 1 0 := by rw [isX, hl]
  rw [hX]
  have hi := fun d hd => IS_S (y := y) h72 (σ := σ) d hd
  refine Ct_of (by decide +kernel) rfl rfl (b_X11_issued_0 hS ⟨Nat.succ_ne_zero _, by rw [zK_nw, if_pos rfl], by rw [zN_nw]; exact Nat.le_refl _⟩ ?_)
  show V g mX11_issued (Em g mX11_issued (FQ _ (some (.ref (zN σ + 1)))) NX) CT (8 - 0) (72 - 9 * 0) 25 [(0, .ref 2), (1, .int y), (2, .ref (zN σ + 1)), (3, .int (nI 0))] [] (isS σ y 0)
  refine up_loop (P := fun d => V g mX11_issued (Em g mX11_issued (FQ (uI (uI (uR (soT (isS σ y L) (zN σ + 1)) 30 (ix (zI σ 2 8)) (zN σ + 1)) 2 8 (zI σ 2 8 + 1)) 13 1 0) (some (.ref (zN σ + 1)))) NX) CT (8 - d) (72 - 9 * d) 25 [(0, .ref 2), (1, .int y), (2, .ref (zN σ + 1)), (3, .int (nI d))] [] (isS σ y d)) L ?_ ?_ 0 (Nat.zero_le _)
  · have hiL := hi L h1
    have hSL := IS_Sh hS hiL
    have hle : zI (isS σ y L) 13 1 ≤ nI L := by rw [IS_I hS hiL (by decide), h3]; exact Int32.le_refl _
    refine V_iload_n dX11_issued_25 rfl ?_
    refine V_aload_n dX11_issued_26 rfl ?_
    refine V_getf (fk := 2) (Value.ref 13) ko_X11 rfl w_206 dX11_issued_27 (by decide) (shk hSL 2 rfl) (congrArg Value.ref (shr hSL 2 2 13 (by decide))) ?_
    refine V_getf (fk := 1) (Value.int (zI (isS σ y L) 13 1)) ko_X4 rfl w_144 dX11_issued_30 (by decide) (shk hSL 13 rfl) rfl ?_
    refine V_icmp_ge 102 dX11_issued_33 rfl (fun _ => ?_) (fun c => absurd hle c)
    obtain ⟨m, q1, q2, q3, q4, q5, q6, q7⟩ := id hso
    have hk := SO_H (P := partF (isS σ y L)) (pv := pvX (isS σ y L) (zN σ + 1)) (wt := wtX (isS σ y L) (zN σ + 1)) (c := zI (isS σ y L) (zN σ + 1) 2) (L := m) q3 q4 q5 q6 (fun k hk => (q7 k hk).2) m (Nat.le_refl _)
    have e4 : ix (zI (isS σ y L) (zN σ + 1) 4) = m := by rw [q3.2.2.1]; exact cl0 (by have := q3.2.2.2.1; omega)
    have hkt : KT (soT (isS σ y L) (zN σ + 1)) (isS σ y L) := by rw [soT, e4]; exact hk.1
    have e28 : zI (soT (isS σ y L) (zN σ + 1)) 2 8 = zI σ 2 8 := by rw [KT_I hkt (by decide), IS_I hS hiL (by decide)]
    have n30 : ¬ (30 : Int32) ≤ zI σ 2 8 := by
      obtain ⟨j, hj, e⟩ := vp_in_of hn (by decide)
      rw [e]; exact nI_ge (b := 30) hj (by decide)
    refine V_less (k' := 0) (n' := 0) (fun q hq => hq) (Nat.zero_le _) (Nat.zero_le _) (b_X11_issued_102 (σ := isS σ y L) hSL (IS_RT hS hiL hT) (IS_RJ hS hiL hJ) hso (fun c => absurd (by rw [e28] at c; exact c) n30) (fun _ => by rw [e28]; exact hn) (fun _ => Nat.succ_ne_zero _) (fun _ => by rw [hkt.2.1]; exact hiL.2.2.1.1) (fun _ => ?_))
    rw [e28]
    exact fq
  · intro d hd ih
    have hid := hi d (by omega)
    have hSd := IS_Sh hS hid
    have hTd := IS_RT hS hid hT
    have hJd := IS_RJ hS hid hJ
    have hNd := hid.1
    have e13 : zI (isS σ y d) 13 1 = nI L := by rw [IS_I hS hid (by decide), h3]
    have e16 : zI (isS σ y d) 33 16 = nI L := by rw [IS_I hS hid (by decide), h2]
    have hlt : ¬ zI (isS σ y d) 13 1 ≤ nI d := by rw [e13]; exact nI_ge hd (by omega)
    have la := leg_at hSd hJd (k := d) (by rw [e16]; exact nI_lt hd (by omega)) (by omega)
    have ci : (nI d).toNatClampNeg = d := cl0 (by omega)
    have z0 : nI d = 0 ↔ d = 0 := nI_eq (a := d) (b := 0) (by omega) (by decide)
    have e49 : ∀ j, zI (nw (isS σ y d) 2 9) 49 j = zI σ 49 j := fun j => by rw [zI_nw, if_neg (by omega)]; exact IS_I hS hid (by decide) j
    have k5 : zK (nw (isS σ y d) 2 9) (15 + d) = 5 := by rw [zK_nw, if_neg (by omega)]; exact la.2.2
    have kn : zN (isS σ y d) + 1 ≠ 0 ∧ zK (nw (isS σ y d) 2 9) (zN (isS σ y d) + 1) = 2 := ⟨Nat.succ_ne_zero _, by rw [zK_nw, if_pos rfl]⟩
    have hTS := IS_TS (by omega) hid
    have hr3 := hid.2.2.1.2.2.2.2.2.2.2.2
    have hcA : ∀ k, k < d → cA (isS σ y d) (zN σ + 1) k ≤ zN (isS σ y d) := fun k hk => by rw [IS_cA hid hk]; omega
    have had : ∀ x, adP (cnH (nw (isS σ y d) 2 9) (zN (isS σ y d) + 1) (15 + d) x) (zN σ + 1) (zN (isS σ y d) + 1) := fun x => ad_ok hTS (by omega) (by rw [hr3]; omega) hcA (by omega)
    have hk9 : ∀ x, zK (cnH (nw (isS σ y d) 2 9) (zN (isS σ y d) + 1) (15 + d) x) (zN σ + 1) = 9 := fun x => (zK_nw _ 2 9 _).trans ((if_neg (by omega)).trans hTS.2.1)
    have htx := R_tx hS hT hJ hid (show d < 8 by omega)
    have eb : 8 - d = (7 - d) + 1 ∧ 72 - 9 * d = (63 - 9 * d) + 9 ∧ 8 - (d + 1) = 7 - d ∧ 72 - 9 * (d + 1) = 63 - 9 * d := by omega
    rw [eb.1, eb.2.1]
    rw [eb.2.2.1, eb.2.2.2, ← nI_1, isS] at ih
    have hJn : RJ (nw (isS σ y d) 2 9) := RJ_ag (by rw [zI_nw, if_neg (by omega)]) (by rw [zI_nw, if_neg (by omega)]) (fun a k _ _ => by rw [zI_nw, if_neg (by omega)]) (fun a k _ _ => by rw [zI_nw, if_neg (by omega)]) (fun k q => by rw [zI_nw, if_neg (by omega)]; exact q) hJd
    have fin : ∀ z : Int32, (if z = 0 then zI σ 38 (ix (zI σ 46 d)) else zI σ 37 (ix (zI σ 46 d))) = txF σ d → V g mX11_issued (Em g mX11_issued (FQ (uI (uI (uR (soT (isS σ y L) (zN σ + 1)) 30 (ix (zI σ 2 8)) (zN σ + 1)) 2 8 (zI σ 2 8 + 1)) 13 1 0) (some (.ref (zN σ + 1)))) NX) CT (7 - d) (63 - 9 * d) 25 [(0, .ref 2), (1, .int y), (2, .ref (zN σ + 1)), (3, .int (nI d + 1))] [] (acH (cnH (nw (isS σ y d) 2 9) (zN (isS σ y d) + 1) (15 + d) (if isPl (zI (nw (isS σ y d) 2 9) (15 + d) 0) then (if z = 0 then zI (nw (isS σ y d) 2 9) 8 (ix (zI (nw (isS σ y d) 2 9) (15 + d) 0)) else zI (nw (isS σ y d) 2 9) 7 (ix (zI (nw (isS σ y d) 2 9) (15 + d) 0))) else 0)) (zN σ + 1) (zN (isS σ y d) + 1)) := fun z hz => by
      rw [htx z, hz]
      exact ih
    refine b_X11_issued_25 (σ := isS σ y d) hSd (fun c => absurd c hlt) (fun _ c => absurd (la.1.symm.trans c) la.2.1) ?_ ?_ ?_ ?_ ?_ ?_ ?_ ?_ ?_ ?_ ?_ ?_ ?_ ?_ ?_ ?_ ?_ ?_ ?_ ?_ ?_
    all_goals try rw [la.1]
    · exact fun _ _ => k5
    · exact fun _ _ _ => kn
    · exact fun _ _ _ => ⟨la.2.1, k5⟩
    · exact fun _ _ _ => had _
    · exact fun _ _ _ => Nat.succ_ne_zero _
    · exact fun _ _ _ => hk9 _
    · intro _ _ c
      exact fin 1 (by rw [if_neg (by decide), txF, if_pos (Or.inl (z0.mp c))])
    · exact fun _ _ _ => hJn
    · exact fun _ _ c => ⟨d, L, rfl, by rw [zI_nw, if_neg (by omega)]; exact e16, Nat.pos_of_ne_zero (fun q => c (z0.mpr q)), hd, h1⟩
    · exact fun _ _ _ _ => kn
    · exact fun _ _ _ _ => ⟨la.2.1, k5⟩
    · exact fun _ _ _ _ => had _
    · exact fun _ _ _ _ => Nat.succ_ne_zero _
    · exact fun _ _ _ _ => hk9 _
    · intro _ _ c c2
      rw [ix, ci, e49, e49] at c2
      exact fin 0 (by rw [if_pos rfl, txF, if_neg (fun q => q.elim (fun q => c (z0.mpr q)) c2)])
    · exact fun _ _ _ _ => kn
    · exact fun _ _ _ _ => ⟨la.2.1, k5⟩
    · exact fun _ _ _ _ => had _
    · exact fun _ _ _ _ => Nat.succ_ne_zero _
    · exact fun _ _ _ _ => hk9 _
    · intro _ _ c c2
      rw [ix, ci, e49, e49] at c2
      exact fin 1 (by rw [if_neg (by decide), txF, if_pos (Or.inr c2)])
