/-! ===== the law: tells ===== -/
theorem wi_n {k a b : Nat} (ha : a ≤ k) (hb : k ≤ b) (h : b < 2 ^ 30) : isWi (nI k) (nI a) (nI b) := by
  rw [isWi_iff, nI_toInt (by omega), nI_toInt (by omega), nI_toInt (by omega)]
  omega
theorem wi_p {k : Nat} (h : k < 4000) : isWi (nI k - 1) (-1) 1000000 := by
  rw [isWi_iff, pred_toInt (by omega)]
  exact ⟨by show (-1 : Int) ≤ _; omega, by show _ ≤ (1000000 : Int); omega⟩
theorem p2n_lt {a b : Nat} (ha : a < 10) (hb : b < 10) : p2 (nI a) (nI b) < 100 := by
  have h := vp_mul (vp_in_nI (n := a) (N := 10) ha (by decide)) (vp_in_nI (n := b) (N := 10) hb (by decide))
  have h1 := h.2.1
  rw [cl0 (by omega), cl0 (by omega)] at h1
  show (10 * nI a + nI b).toNatClampNeg < 100
  rw [h1]; omega
theorem p3n_lt {c a b : Nat} (hc : c < 5) (ha : a < 10) (hb : b < 10) : p3 (nI c) (nI a) (nI b) < 500 := by
  have h := vp_mul3 (vp_in_nI (n := c) (N := 5) hc (by decide)) (vp_in_nI (n := a) (N := 10) ha (by decide)) (vp_in_nI (n := b) (N := 10) hb (by decide))
  have h1 := h.2.1
  rw [cl0 (by omega), cl0 (by omega), cl0 (by omega)] at h1
  show (100 * nI c + 10 * nI a + nI b).toNatClampNeg < 500
  rw [h1]; omega
theorem nn_mi {i : Nat} {σ : AH} (h : Rel i σ) {k : Nat} (hk : k < 100) : ¬ zI σ 34 k < 0 := fun z => by
  obtain ⟨nf, t1, t2, t3, t4, t5, t6, t7, t8, -⟩ := h.2.2.1
  have := (t8 k hk).2.1
  rw [Int32.lt_iff_toInt_lt, zero_toInt] at z
  omega
theorem nn_wt {i : Nat} {σ : AH} (h : Rel i σ) {k : Nat} (hk : k < 100) : ¬ zI σ 35 k < 0 := fun z => by
  have := (h.2.2.2.2.1.1 k hk).2.1
  rw [Int32.lt_iff_toInt_lt, zero_toInt] at z
  omega
theorem nn_pv {i : Nat} {σ : AH} (h : Rel i σ) {k : Nat} (hk : k < 500) : ¬ zI σ 36 k - 1 < -1 := fun z => by
  obtain ⟨b1, b2⟩ := (h.2.2.2.2.1.2 k hk).2
  have e := i_sub (x := zI σ 36 k) (y := 1) (by show _ ≤ _ - (1 : Int); omega) (by show _ - (1 : Int) ≤ _; omega)
  rw [Int32.lt_iff_toInt_lt, e] at z
  change _ - (1 : Int) < (-1 : Int) at z
  omega
theorem GE_fare {s nf : Nat} {ω σ : AH} (hG : GE s σ) (h : NW (fun j => j = 6) ω σ) (e : zI ω 33 6 = nI (nf + 1)) : GE s (uI ω 73 5 (nI (nf + 1))) := by
  obtain ⟨h1, h2, h3, h4⟩ := h
  obtain ⟨h5, h6⟩ := h2 (by decide)
  have ee : ∀ j, j ≠ 5 → zI (uI ω 73 5 (nI (nf + 1))) 73 j = zI σ 73 j := fun j hj => by rw [zI_uI, if_neg (by omega), h3]
  have e' : ∀ a, a ≠ 73 → zI (uI ω 73 5 (nI (nf + 1))) a = zI ω a := fun a ha => funext fun j => by rw [zI_uI, if_neg (by omega)]
  have e5 : zI (uI ω 73 5 (nI (nf + 1))) 73 5 = nI (nf + 1) := by rw [zI_uI, if_pos ⟨rfl, rfl⟩]
  unfold GE at hG ⊢
  rw [ee 0 (by decide), ee 1 (by decide), ee 2 (by decide), ee 3 (by decide), ee 4 (by decide), ee 6 (by decide), e5, e' 33 (by decide), e' 74 (by decide), e' 47 (by decide), e' 49 (by decide), h1 0 (by omega) (by decide), h1 16 (by omega) (by decide), h1 23 (by omega) (by decide), h1 36 (by omega) (by decide), h1 43 (by omega) (by decide), h4, h5, h6, e]
  exact ⟨hG.1, hG.2.1, hG.2.2.1, hG.2.2.2.1, hG.2.2.2.2.1, rfl, hG.2.2.2.2.2.2⟩
theorem tells_37 {g : GP} {σ : AH} {s : Nat} {x y : Int32} (hg : gG g = none) (h : Co s σ) (hE : GE s σ) {q a b : Nat} (ha : a < 5) (hb : b < 5) (hab : a ≠ b) : V g mL_tells (Em g mL_tells (fun ω rv => rv = some (.int 1) ∧ Co s ω ∧ GE s ω) NX) CT 11 67 37 [(0, .ref 2), (1, .ref 73), (2, .int x), (3, .int y), (4, .int (nI q)), (5, .int (nI a)), (6, .int (nI b))] [] σ := by
  refine V_sipush (200 : Int32) dL_tells_37 (by decide) ?_
  refine V_iload_n dL_tells_40 rfl ?_
  refine V_bipush (6 : Int32) dL_tells_41 (by decide) ?_
  refine V_ishr dL_tells_43 ?_
  refine V_sipush (300 : Int32) dL_tells_44 (by decide) ?_
  obtain ⟨j1, hj1, hl1, P1⟩ := P_low (g := g) (σ := σ) (y >>> ((6 : Int32) &&& 31)) (N := 300) (by decide) (by decide)
  refine V_cKs (as := [.int (y >>> ((6 : Int32) &&& 31)), .int (300 : Int32)]) (k' := 11) (n' := 67) P1 mw_L_low w_454 w_453 ar_L_low ⟨rfl, rfl, rfl, rfl, rfl⟩ dL_tells_47 (fun ω1 e1 => ?_)
  rw [e1]
  refine V_iadd dL_tells_50 ?_
  refine V_cast (st' := .int (nI (200 + j1)) :: []) rfl (by rw [show (200 : Int32) + nI j1 = nI (200 + j1) from nI_add 200 j1]) rfl ?_
  refine V_istore [(0, .ref 2), (1, .ref 73), (2, .int x), (3, .int y), (4, .int (nI q)), (5, .int (nI a)), (6, .int (nI b)), (7, .int (nI (200 + j1)))] dL_tells_51 rfl rfl ?_
  refine V_aload_n dL_tells_53 rfl ?_
  refine V_iload dL_tells_54 rfl ?_
  refine V_iload dL_tells_56 rfl ?_
  refine V_iload dL_tells_58 rfl ?_
  refine V_cMh (as := [.ref 2, .int (nI a), .int (nI b), .int (nI (200 + j1))]) (k' := 10) (n' := 61) (P_miles hg h (pl_lt (by omega)) (pl_lt (by omega)) (c_ne hab (by omega) (by omega)) (show isWi (nI (200 + j1)) (nI 1) (nI 9999) from wi_n (by omega) (by omega) (by decide))) mw_L_miles w_244 w_243 ar_L_miles ⟨rfl, rfl, rfl, rfl, rfl⟩ dL_tells_60 (fun ω2 y2 K2 => ?_)
  obtain ⟨ey2, C2, N2, e2⟩ := K2
  refine V_istore [(0, .ref 2), (1, .ref 73), (2, .int x), (3, .int y), (4, .int (nI q)), (5, .int (nI a)), (6, .int (nI b)), (7, .int (nI (200 + j1))), (8, .int y2)] dL_tells_63 rfl rfl ?_
  refine V_iload dL_tells_65 rfl ?_
  refine V_if_lt 89 dL_tells_67 rfl (fun z_ => absurd z_ (fun z => by rw [ey2] at z; exact nn_mi h.2.1 (p2n_lt (by omega) (by omega)) z)) (fun _ => ?_)
  refine V_aload_n dL_tells_70 rfl ?_
  refine V_iload dL_tells_71 rfl ?_
  refine V_iload dL_tells_73 rfl ?_
  refine V_iload dL_tells_75 rfl ?_
  refine V_cMh (as := [.ref 2, .int (nI b), .int (nI a), .int (nI (200 + j1))]) (k' := 9) (n' := 55) (P_miles hg C2 (pl_lt (by omega)) (pl_lt (by omega)) (c_ne (Ne.symm hab) (by omega) (by omega)) (show isWi (nI (200 + j1)) (nI 1) (nI 9999) from wi_n (by omega) (by omega) (by decide))) mw_L_miles w_244 w_243 ar_L_miles ⟨rfl, rfl, rfl, rfl, rfl⟩ dL_tells_77 (fun ω3 y3 K3 => ?_)
  obtain ⟨ey3, C3, N3, e3⟩ := K3
  refine V_cast (st' := .int (nI (200 + j1)) :: []) rfl (by rw [ey3, e2]) rfl ?_
  refine V_iload dL_tells_80 rfl ?_
  refine V_icmp_ne 89 dL_tells_82 rfl (fun z_ => absurd z_ (by simp)) (fun _ => ?_)
  refine V_iconst (1 : Int32) dL_tells_85 (by decide) ?_
  refine V_goto 90 dL_tells_86 rfl ?_
  refine V_zret rfl dL_tells_90 (by decide) ?_
  exact ⟨rfl, C3, GE_NW N3 (GE_NW N2 hE)⟩
theorem fare_full {σ ω : AH} {s : Nat} {y : Int32} (hf : zI σ 33 6 = 40) (h : (y = -1000003 ∧ zI σ 33 6 = 40 ∧ Kp ω σ) ∨ (y = zI σ 33 6 ∧ Co s ω ∧ NW (fun j => j = 6) ω σ ∧ ∃ nf, nf < 40 ∧ zI σ 33 6 = nI nf ∧ zI ω 33 6 = nI (nf + 1))) : y = -1000003 ∧ zI σ 33 6 = 40 ∧ Kp ω σ := by
  rcases h with h | ⟨-, -, -, nf, h1, h2, -⟩
  · exact h
  · have := q_of (a := 40) (b := nf) (by decide) (by omega) (hf.symm.trans h2)
    omega
theorem fare_ok {σ ω : AH} {s nf : Nat} {y : Int32} (hnf : nf < 40) (hf : zI σ 33 6 = nI nf) (h : (y = -1000003 ∧ zI σ 33 6 = 40 ∧ Kp ω σ) ∨ (y = zI σ 33 6 ∧ Co s ω ∧ NW (fun j => j = 6) ω σ ∧ ∃ nf, nf < 40 ∧ zI σ 33 6 = nI nf ∧ zI ω 33 6 = nI (nf + 1))) : y = zI σ 33 6 ∧ Co s ω ∧ NW (fun j => j = 6) ω σ ∧ ∃ nf, nf < 40 ∧ zI σ 33 6 = nI nf ∧ zI ω 33 6 = nI (nf + 1) := by
  rcases h with ⟨-, h1, -⟩ | h
  · have := q_of (a := 40) (b := nf) (by decide) (by omega) (h1.symm.trans hf)
    omega
  · exact h
theorem tells_98f {g : GP} {σ : AH} {s : Nat} {x y : Int32} (hg : gG g = none) (h : Co s σ) (hE : GE s σ) {q a b : Nat} (ha : a < 5) (hb : b < 5) (hab : a ≠ b) (hf : zI σ 33 6 = 40) : V g mL_tells (Em g mL_tells (fun ω rv => rv = some (.int 1) ∧ Co s ω ∧ GE s ω) NX) CT 11 67 98 [(0, .ref 2), (1, .ref 73), (2, .int x), (3, .int y), (4, .int (nI q)), (5, .int (nI a)), (6, .int (nI b))] [] σ := by
  refine V_iload_n dL_tells_98 rfl ?_
  refine V_bipush (6 : Int32) dL_tells_99 (by decide) ?_
  refine V_ishr dL_tells_101 ?_
  refine V_iconst (5 : Int32) dL_tells_102 (by decide) ?_
  obtain ⟨j1, hj1, hl1, P1⟩ := P_low (g := g) (σ := σ) (y >>> ((6 : Int32) &&& 31)) (N := 5) (by decide) (by decide)
  refine V_cKs (as := [.int (y >>> ((6 : Int32) &&& 31)), .int (5 : Int32)]) (k' := 11) (n' := 67) P1 mw_L_low w_454 w_453 ar_L_low ⟨rfl, rfl, rfl, rfl, rfl⟩ dL_tells_103 (fun ω1 e1 => ?_)
  rw [e1]
  refine V_istore [(0, .ref 2), (1, .ref 73), (2, .int x), (3, .int y), (4, .int (nI q)), (5, .int (nI a)), (6, .int (nI b)), (7, .int (nI j1))] dL_tells_106 rfl rfl ?_
  refine V_aload_n dL_tells_108 rfl ?_
  refine V_iload dL_tells_109 rfl ?_
  refine V_iload dL_tells_111 rfl ?_
  refine V_iconst (1 : Int32) dL_tells_113 (by decide) ?_
  refine V_iload_n dL_tells_114 rfl ?_
  refine V_bipush (9 : Int32) dL_tells_115 (by decide) ?_
  refine V_ishr dL_tells_117 ?_
  refine V_ldc (v := (50000 : Int32)) w_457 dL_tells_118 ?_
  obtain ⟨j2, hj2, hl2, P2⟩ := P_low (g := g) (σ := σ) (y >>> ((9 : Int32) &&& 31)) (N := 50000) (by decide) (by decide)
  refine V_cKs (as := [.int (y >>> ((9 : Int32) &&& 31)), .int (50000 : Int32)]) (k' := 11) (n' := 67) P2 mw_L_low w_454 w_453 ar_L_low ⟨rfl, rfl, rfl, rfl, rfl⟩ dL_tells_120 (fun ω2 e2 => ?_)
  rw [e2]
  refine V_iadd dL_tells_123 ?_
  refine V_cast (st' := .int (nI (1 + j2)) :: [.int (nI b), .int (nI a), .ref 2]) rfl (by rw [show (1 : Int32) + nI j2 = nI (1 + j2) from nI_add 1 j2]) rfl ?_
  refine V_iload dL_tells_124 rfl ?_
  refine V_iload dL_tells_126 rfl ?_
  refine V_iload_n dL_tells_128 rfl ?_
  refine V_bipush (20 : Int32) dL_tells_129 (by decide) ?_
  refine V_ishr dL_tells_131 ?_
  refine V_bipush (60 : Int32) dL_tells_132 (by decide) ?_
  obtain ⟨j3, hj3, hl3, P3⟩ := P_low (g := g) (σ := σ) (y >>> ((20 : Int32) &&& 31)) (N := 60) (by decide) (by decide)
  refine V_cKs (as := [.int (y >>> ((20 : Int32) &&& 31)), .int (60 : Int32)]) (k' := 11) (n' := 67) P3 mw_L_low w_454 w_453 ar_L_low ⟨rfl, rfl, rfl, rfl, rfl⟩ dL_tells_134 (fun ω3 e3 => ?_)
  rw [e3]
  refine V_iadd dL_tells_137 ?_
  refine V_cast (st' := .int (nI (j1 + j3)) :: [.int (nI j1), .int (nI (1 + j2)), .int (nI b), .int (nI a), .ref 2]) rfl (by rw [nI_add]) rfl ?_
  refine V_iload_n dL_tells_138 rfl ?_
  refine V_bipush (26 : Int32) dL_tells_139 (by decide) ?_
  refine V_ishr dL_tells_141 ?_
  refine V_bipush (8 : Int32) dL_tells_142 (by decide) ?_
  obtain ⟨j4, hj4, hl4, P4⟩ := P_low (g := g) (σ := σ) (y >>> ((26 : Int32) &&& 31)) (N := 8) (by decide) (by decide)
  refine V_cKs (as := [.int (y >>> ((26 : Int32) &&& 31)), .int (8 : Int32)]) (k' := 11) (n' := 67) P4 mw_L_low w_454 w_453 ar_L_low ⟨rfl, rfl, rfl, rfl, rfl⟩ dL_tells_144 (fun ω4 e4 => ?_)
  rw [e4]
  refine V_iconst (5 : Int32) dL_tells_147 (by decide) ?_
  refine V_irem dL_tells_148 (by decide) ?_
  refine V_cast (st' := .int (nI (j4 % 5)) :: [.int (nI (j1 + j3)), .int (nI j1), .int (nI (1 + j2)), .int (nI b), .int (nI a), .ref 2]) rfl (by rw [show nI j4 - nI j4 / (5 : Int32) * (5 : Int32) = nI (j4 % 5) from rem_n (by decide) (by decide) (by omega)]) rfl ?_
  refine V_iload_n dL_tells_149 rfl ?_
  refine V_iconst (4 : Int32) dL_tells_150 (by decide) ?_
  refine V_ishr dL_tells_151 ?_
  refine V_iconst (4 : Int32) dL_tells_152 (by decide) ?_
  obtain ⟨j5, hj5, hl5, P5⟩ := P_low (g := g) (σ := σ) (x >>> ((4 : Int32) &&& 31)) (N := 4) (by decide) (by decide)
  refine V_cKs (as := [.int (x >>> ((4 : Int32) &&& 31)), .int (4 : Int32)]) (k' := 11) (n' := 67) P5 mw_L_low w_454 w_453 ar_L_low ⟨rfl, rfl, rfl, rfl, rfl⟩ dL_tells_153 (fun ω5 e5 => ?_)
  rw [e5]
  refine V_iadd dL_tells_156 ?_
  refine V_cast (st' := .int (nI (j4 % 5 + j5)) :: [.int (nI (j1 + j3)), .int (nI j1), .int (nI (1 + j2)), .int (nI b), .int (nI a), .ref 2]) rfl (by rw [nI_add]) rfl ?_
  refine V_cMh (as := [.ref 2, .int (nI a), .int (nI b), .int (nI (1 + j2)), .int (nI j1), .int (nI (j1 + j3)), .int (nI (j4 % 5 + j5))]) (k' := 9) (n' := 54) (P_fare hg h (pl_lt (by omega)) (pl_lt (by omega)) (c_ne hab (by omega) (by omega)) (show isWi (nI (1 + j2)) (nI 1) (nI 50000) from wi_n (by omega) (by omega) (by decide)) (show isWi (nI j1) (nI 0) (nI 999) from wi_n (by omega) (by omega) (by decide)) (show isWi (nI (j1 + j3)) (nI j1) (nI 999) from wi_n (by omega) (by omega) (by decide)) (show isWi (nI (j4 % 5 + j5)) (nI 0) (nI 7) from wi_n (by omega) (by omega) (by decide))) mw_L_fare w_459 w_458 ar_L_fare ⟨rfl, rfl, rfl, rfl, rfl⟩ dL_tells_157 (fun ω6 y6 K6 => ?_)
  obtain ⟨ey6, -, Kp6⟩ := fare_full hf K6
  refine V_cast (st' := .int (-1000003 : Int32) :: []) rfl (by rw [ey6]) rfl ?_
  refine V_istore [(0, .ref 2), (1, .ref 73), (2, .int x), (3, .int y), (4, .int (nI q)), (5, .int (nI a)), (6, .int (nI b)), (7, .int (nI j1)), (8, .int (-1000003 : Int32))] dL_tells_160 rfl rfl ?_
  refine V_aload_n dL_tells_162 rfl ?_
  refine V_iconst (5 : Int32) dL_tells_163 (by decide) ?_
  refine V_gald dL_tells_164 (by decide) (ga73 Kp6.2.1).1 (vp_l (n := 7) (ga73 Kp6.2.1).2 (vp_in_nI (n := 5) (by decide) (by decide))) ?_
  refine V_cast (st' := .int (zI ω6 73 5) :: []) rfl rfl rfl ?_
  refine V_cast (st' := .int (40 : Int32) :: []) rfl (by rw [gk Kp6.2.2 5, hE.2.2.2.2.2.1, hf]) rfl ?_
  refine V_bipush (40 : Int32) dL_tells_165 (by decide) ?_
  refine V_icmp_ne 183 dL_tells_167 rfl (fun z_ => absurd z_ (by decide)) (fun _ => ?_)
  refine V_iload dL_tells_170 rfl ?_
  refine V_ldc (v := (-1000003 : Int32)) w_518 dL_tells_172 ?_
  refine V_icmp_ne 181 dL_tells_174 rfl (fun z_ => absurd z_ (by decide)) (fun _ => ?_)
  refine V_iconst (1 : Int32) dL_tells_177 (by decide) ?_
  refine V_goto 182 dL_tells_178 rfl ?_
  refine V_zret rfl dL_tells_182 (by decide) ?_
  exact ⟨rfl, Co_K h Kp6, GE_RO Kp6.2.2 hE⟩
theorem tells_98o {g : GP} {σ : AH} {s : Nat} {x y : Int32} (hg : gG g = none) (h : Co s σ) (hE : GE s σ) {q a b : Nat} (ha : a < 5) (hb : b < 5) (hab : a ≠ b) {nf : Nat} (hnf : nf < 40) (hf : zI σ 33 6 = nI nf) : V g mL_tells (Em g mL_tells (fun ω rv => rv = some (.int 1) ∧ Co s ω ∧ GE s ω) NX) CT 11 67 98 [(0, .ref 2), (1, .ref 73), (2, .int x), (3, .int y), (4, .int (nI q)), (5, .int (nI a)), (6, .int (nI b))] [] σ := by
  refine V_iload_n dL_tells_98 rfl ?_
  refine V_bipush (6 : Int32) dL_tells_99 (by decide) ?_
  refine V_ishr dL_tells_101 ?_
  refine V_iconst (5 : Int32) dL_tells_102 (by decide) ?_
  obtain ⟨j1, hj1, hl1, P1⟩ := P_low (g := g) (σ := σ) (y >>> ((6 : Int32) &&& 31)) (N := 5) (by decide) (by decide)
  refine V_cKs (as := [.int (y >>> ((6 : Int32) &&& 31)), .int (5 : Int32)]) (k' := 11) (n' := 67) P1 mw_L_low w_454 w_453 ar_L_low ⟨rfl, rfl, rfl, rfl, rfl⟩ dL_tells_103 (fun ω1 e1 => ?_)
  rw [e1]
  refine V_istore [(0, .ref 2), (1, .ref 73), (2, .int x), (3, .int y), (4, .int (nI q)), (5, .int (nI a)), (6, .int (nI b)), (7, .int (nI j1))] dL_tells_106 rfl rfl ?_
  refine V_aload_n dL_tells_108 rfl ?_
  refine V_iload dL_tells_109 rfl ?_
  refine V_iload dL_tells_111 rfl ?_
  refine V_iconst (1 : Int32) dL_tells_113 (by decide) ?_
  refine V_iload_n dL_tells_114 rfl ?_
  refine V_bipush (9 : Int32) dL_tells_115 (by decide) ?_
  refine V_ishr dL_tells_117 ?_
  refine V_ldc (v := (50000 : Int32)) w_457 dL_tells_118 ?_
  obtain ⟨j2, hj2, hl2, P2⟩ := P_low (g := g) (σ := σ) (y >>> ((9 : Int32) &&& 31)) (N := 50000) (by decide) (by decide)
  refine V_cKs (as := [.int (y >>> ((9 : Int32) &&& 31)), .int (50000 : Int32)]) (k' := 11) (n' := 67) P2 mw_L_low w_454 w_453 ar_L_low ⟨rfl, rfl, rfl, rfl, rfl⟩ dL_tells_120 (fun ω2 e2 => ?_)
  rw [e2]
  refine V_iadd dL_tells_123 ?_
  refine V_cast (st' := .int (nI (1 + j2)) :: [.int (nI b), .int (nI a), .ref 2]) rfl (by rw [show (1 : Int32) + nI j2 = nI (1 + j2) from nI_add 1 j2]) rfl ?_
  refine V_iload dL_tells_124 rfl ?_
  refine V_iload dL_tells_126 rfl ?_
  refine V_iload_n dL_tells_128 rfl ?_
  refine V_bipush (20 : Int32) dL_tells_129 (by decide) ?_
  refine V_ishr dL_tells_131 ?_
  refine V_bipush (60 : Int32) dL_tells_132 (by decide) ?_
  obtain ⟨j3, hj3, hl3, P3⟩ := P_low (g := g) (σ := σ) (y >>> ((20 : Int32) &&& 31)) (N := 60) (by decide) (by decide)
  refine V_cKs (as := [.int (y >>> ((20 : Int32) &&& 31)), .int (60 : Int32)]) (k' := 11) (n' := 67) P3 mw_L_low w_454 w_453 ar_L_low ⟨rfl, rfl, rfl, rfl, rfl⟩ dL_tells_134 (fun ω3 e3 => ?_)
  rw [e3]
  refine V_iadd dL_tells_137 ?_
  refine V_cast (st' := .int (nI (j1 + j3)) :: [.int (nI j1), .int (nI (1 + j2)), .int (nI b), .int (nI a), .ref 2]) rfl (by rw [nI_add]) rfl ?_
  refine V_iload_n dL_tells_138 rfl ?_
  refine V_bipush (26 : Int32) dL_tells_139 (by decide) ?_
  refine V_ishr dL_tells_141 ?_
  refine V_bipush (8 : Int32) dL_tells_142 (by decide) ?_
  obtain ⟨j4, hj4, hl4, P4⟩ := P_low (g := g) (σ := σ) (y >>> ((26 : Int32) &&& 31)) (N := 8) (by decide) (by decide)
  refine V_cKs (as := [.int (y >>> ((26 : Int32) &&& 31)), .int (8 : Int32)]) (k' := 11) (n' := 67) P4 mw_L_low w_454 w_453 ar_L_low ⟨rfl, rfl, rfl, rfl, rfl⟩ dL_tells_144 (fun ω4 e4 => ?_)
  rw [e4]
  refine V_iconst (5 : Int32) dL_tells_147 (by decide) ?_
  refine V_irem dL_tells_148 (by decide) ?_
  refine V_cast (st' := .int (nI (j4 % 5)) :: [.int (nI (j1 + j3)), .int (nI j1), .int (nI (1 + j2)), .int (nI b), .int (nI a), .ref 2]) rfl (by rw [show nI j4 - nI j4 / (5 : Int32) * (5 : Int32) = nI (j4 % 5) from rem_n (by decide) (by decide) (by omega)]) rfl ?_
  refine V_iload_n dL_tells_149 rfl ?_
  refine V_iconst (4 : Int32) dL_tells_150 (by decide) ?_
  refine V_ishr dL_tells_151 ?_
  refine V_iconst (4 : Int32) dL_tells_152 (by decide) ?_
  obtain ⟨j5, hj5, hl5, P5⟩ := P_low (g := g) (σ := σ) (x >>> ((4 : Int32) &&& 31)) (N := 4) (by decide) (by decide)
  refine V_cKs (as := [.int (x >>> ((4 : Int32) &&& 31)), .int (4 : Int32)]) (k' := 11) (n' := 67) P5 mw_L_low w_454 w_453 ar_L_low ⟨rfl, rfl, rfl, rfl, rfl⟩ dL_tells_153 (fun ω5 e5 => ?_)
  rw [e5]
  refine V_iadd dL_tells_156 ?_
  refine V_cast (st' := .int (nI (j4 % 5 + j5)) :: [.int (nI (j1 + j3)), .int (nI j1), .int (nI (1 + j2)), .int (nI b), .int (nI a), .ref 2]) rfl (by rw [nI_add]) rfl ?_
  refine V_cMh (as := [.ref 2, .int (nI a), .int (nI b), .int (nI (1 + j2)), .int (nI j1), .int (nI (j1 + j3)), .int (nI (j4 % 5 + j5))]) (k' := 9) (n' := 54) (P_fare hg h (pl_lt (by omega)) (pl_lt (by omega)) (c_ne hab (by omega) (by omega)) (show isWi (nI (1 + j2)) (nI 1) (nI 50000) from wi_n (by omega) (by omega) (by decide)) (show isWi (nI j1) (nI 0) (nI 999) from wi_n (by omega) (by omega) (by decide)) (show isWi (nI (j1 + j3)) (nI j1) (nI 999) from wi_n (by omega) (by omega) (by decide)) (show isWi (nI (j4 % 5 + j5)) (nI 0) (nI 7) from wi_n (by omega) (by omega) (by decide))) mw_L_fare w_459 w_458 ar_L_fare ⟨rfl, rfl, rfl, rfl, rfl⟩ dL_tells_157 (fun ω6 y6 K6 => ?_)
  obtain ⟨ey6, C6, N6, nf2, hnf2, enf2, enf3⟩ := fare_ok hnf hf K6
  have en : nf2 = nf := q_of (by omega) (by omega) (enf2.symm.trans hf)
  subst en
  have n73 : zI ω6 73 5 = nI nf2 := by rw [N6.2.2.1]; exact hE.2.2.2.2.2.1.trans hf
  refine V_cast (st' := .int (nI nf2) :: []) rfl (by rw [ey6, enf2]) rfl ?_
  refine V_istore [(0, .ref 2), (1, .ref 73), (2, .int x), (3, .int y), (4, .int (nI q)), (5, .int (nI a)), (6, .int (nI b)), (7, .int (nI j1)), (8, .int (nI nf2))] dL_tells_160 rfl rfl ?_
  refine V_aload_n dL_tells_162 rfl ?_
  refine V_iconst (5 : Int32) dL_tells_163 (by decide) ?_
  refine V_gald dL_tells_164 (by decide) (ga73 C6.2.2.1).1 (vp_l (n := 7) (ga73 C6.2.2.1).2 (vp_in_nI (n := 5) (by decide) (by decide))) ?_
  refine V_cast (st' := .int (zI ω6 73 5) :: []) rfl rfl rfl ?_
  refine V_cast (st' := .int (nI nf2) :: []) rfl (by rw [n73]) rfl ?_
  refine V_bipush (40 : Int32) dL_tells_165 (by decide) ?_
  refine V_icmp_ne 183 dL_tells_167 rfl (fun _ => ?_) (fun z_ => absurd z_ (show ¬ (nI nf2) = (nI 40) from c_ne (by omega) (by omega) (by decide)))
  refine V_aload_n dL_tells_183 rfl ?_
  refine V_iconst (5 : Int32) dL_tells_184 (by decide) ?_
  refine V_dup2 dL_tells_185 rfl rfl ?_
  refine V_gald dL_tells_186 (by decide) (ga73 C6.2.2.1).1 (vp_l (n := 7) (ga73 C6.2.2.1).2 (vp_in_nI (n := 5) (by decide) (by decide))) ?_
  refine V_cast (st' := .int (zI ω6 73 5) :: [.int (5 : Int32), .ref 73]) rfl rfl rfl ?_
  refine V_cast (st' := .int (nI nf2) :: [.int (5 : Int32), .ref 73]) rfl (by rw [n73]) rfl ?_
  refine V_iconst (1 : Int32) dL_tells_187 (by decide) ?_
  refine V_iadd dL_tells_188 ?_
  refine V_cast (st' := .int (nI (nf2 + 1)) :: [.int (5 : Int32), .ref 73]) rfl (by rw [nI_1]) rfl ?_
  refine V_gast dL_tells_189 hg (by decide) (ga73 C6.2.2.1).1 (vp_l (n := 7) (ga73 C6.2.2.1).2 (vp_in_nI (n := 5) (by decide) (by decide))) ?_
  refine V_cast (σ' := uI ω6 73 5 (nI (nf2 + 1))) rfl rfl rfl ?_
  have C7 := Co_g (a := 73) (k := 5) (x := nI (nf2 + 1)) (Or.inl rfl) C6
  have G7 := GE_fare hE N6 enf3
  have e5 : zI (uI ω6 73 5 (nI (nf2 + 1))) 73 5 = nI (nf2 + 1) := by rw [zI_uI, if_pos ⟨rfl, rfl⟩]
  generalize uI ω6 73 5 (nI (nf2 + 1)) = ω7 at C7 G7 e5 ⊢
  refine V_iload dL_tells_190 rfl ?_
  refine V_aload_n dL_tells_192 rfl ?_
  refine V_iconst (5 : Int32) dL_tells_193 (by decide) ?_
  refine V_gald dL_tells_194 (by decide) (ga73 C7.2.2.1).1 (vp_l (n := 7) (ga73 C7.2.2.1).2 (vp_in_nI (n := 5) (by decide) (by decide))) ?_
  refine V_cast (st' := .int (zI ω7 73 5) :: [.int (nI nf2)]) rfl rfl rfl ?_
  refine V_cast (st' := .int (nI (nf2 + 1)) :: [.int (nI nf2)]) rfl (by rw [e5]) rfl ?_
  refine V_iconst (1 : Int32) dL_tells_195 (by decide) ?_
  refine V_isub dL_tells_196 ?_
  refine V_cast (st' := .int (nI nf2) :: [.int (nI nf2)]) rfl (by rw [nI_pred]) rfl ?_
  refine V_icmp_ne 204 dL_tells_197 rfl (fun z_ => absurd z_ (by simp)) (fun _ => ?_)
  refine V_iconst (1 : Int32) dL_tells_200 (by decide) ?_
  refine V_goto 205 dL_tells_201 rfl ?_
  refine V_zret rfl dL_tells_205 (by decide) ?_
  exact ⟨rfl, C7, G7⟩
theorem tells_213 {g : GP} {σ : AH} {s : Nat} {x y : Int32} (hg : gG g = none) (h : Co s σ) (hE : GE s σ) {q a b : Nat} (ha : a < 5) (hb : b < 5) (hab : a ≠ b) : V g mL_tells (Em g mL_tells (fun ω rv => rv = some (.int 1) ∧ Co s ω ∧ GE s ω) NX) CT 11 67 213 [(0, .ref 2), (1, .ref 73), (2, .int x), (3, .int y), (4, .int (nI q)), (5, .int (nI a)), (6, .int (nI b))] [] σ := by
  refine V_aload_n dL_tells_213 rfl ?_
  refine V_iload dL_tells_214 rfl ?_
  refine V_iload_n dL_tells_216 rfl ?_
  refine V_bipush (6 : Int32) dL_tells_217 (by decide) ?_
  refine V_ishr dL_tells_219 ?_
  refine V_sipush (1000 : Int32) dL_tells_220 (by decide) ?_
  obtain ⟨j1, hj1, hl1, P1⟩ := P_low (g := g) (σ := σ) (y >>> ((6 : Int32) &&& 31)) (N := 1000) (by decide) (by decide)
  refine V_cKs (as := [.int (y >>> ((6 : Int32) &&& 31)), .int (1000 : Int32)]) (k' := 11) (n' := 67) P1 mw_L_low w_454 w_453 ar_L_low ⟨rfl, rfl, rfl, rfl, rfl⟩ dL_tells_223 (fun ω1 e1 => ?_)
  rw [e1]
  refine V_iload_n dL_tells_226 rfl ?_
  refine V_bipush (16 : Int32) dL_tells_227 (by decide) ?_
  refine V_ishr dL_tells_229 ?_
  refine V_bipush (100 : Int32) dL_tells_230 (by decide) ?_
  obtain ⟨j2, hj2, hl2, P2⟩ := P_low (g := g) (σ := σ) (y >>> ((16 : Int32) &&& 31)) (N := 100) (by decide) (by decide)
  refine V_cKs (as := [.int (y >>> ((16 : Int32) &&& 31)), .int (100 : Int32)]) (k' := 11) (n' := 67) P2 mw_L_low w_454 w_453 ar_L_low ⟨rfl, rfl, rfl, rfl, rfl⟩ dL_tells_232 (fun ω2 e2 => ?_)
  rw [e2]
  refine V_cMh (as := [.ref 2, .int (nI a), .int (nI j1), .int (nI j2)]) (k' := 10) (n' := 61) (P_tax hg h (by omega) (show isWi (nI j1) (nI 0) (nI 1000) from wi_n (by omega) (by omega) (by decide)) (show isWi (nI j2) (nI 0) (nI 1000) from wi_n (by omega) (by omega) (by decide))) mw_L_tax w_520 w_519 ar_L_tax ⟨rfl, rfl, rfl, rfl, rfl⟩ dL_tells_235 (fun ω3 y3 K3 => ?_)
  obtain ⟨ey3, C3, N3⟩ := K3
  refine V_cast (st' := .int (0 : Int32) :: []) rfl (by rw [ey3]) rfl ?_
  refine V_if_ne 245 dL_tells_238 rfl (fun z_ => absurd z_ (by decide)) (fun _ => ?_)
  refine V_iconst (1 : Int32) dL_tells_241 (by decide) ?_
  refine V_goto 246 dL_tells_242 rfl ?_
  refine V_zret rfl dL_tells_246 (by decide) ?_
  exact ⟨rfl, C3, GE_NW N3 hE⟩
theorem tells_254 {g : GP} {σ : AH} {s : Nat} {x y : Int32} (hg : gG g = none) (h : Co s σ) (hE : GE s σ) {q a b : Nat} (ha : a < 5) (hb : b < 5) (hab : a ≠ b) : V g mL_tells (Em g mL_tells (fun ω rv => rv = some (.int 1) ∧ Co s ω ∧ GE s ω) NX) CT 11 67 254 [(0, .ref 2), (1, .ref 73), (2, .int x), (3, .int y), (4, .int (nI q)), (5, .int (nI a)), (6, .int (nI b))] [] σ := by
  refine V_iload_n dL_tells_254 rfl ?_
  refine V_bipush (6 : Int32) dL_tells_255 (by decide) ?_
  refine V_ishr dL_tells_257 ?_
  refine V_bipush (50 : Int32) dL_tells_258 (by decide) ?_
  obtain ⟨j1, hj1, hl1, P1⟩ := P_low (g := g) (σ := σ) (y >>> ((6 : Int32) &&& 31)) (N := 50) (by decide) (by decide)
  refine V_cKs (as := [.int (y >>> ((6 : Int32) &&& 31)), .int (50 : Int32)]) (k' := 11) (n' := 67) P1 mw_L_low w_454 w_453 ar_L_low ⟨rfl, rfl, rfl, rfl, rfl⟩ dL_tells_260 (fun ω1 e1 => ?_)
  rw [e1]
  refine V_istore [(0, .ref 2), (1, .ref 73), (2, .int x), (3, .int y), (4, .int (nI q)), (5, .int (nI a)), (6, .int (nI b)), (7, .int (nI j1))] dL_tells_263 rfl rfl ?_
  refine V_aload_n dL_tells_265 rfl ?_
  refine V_iload dL_tells_266 rfl ?_
  refine V_iload dL_tells_268 rfl ?_
  refine V_iload dL_tells_270 rfl ?_
  refine V_cMh (as := [.ref 2, .int (nI a), .int (nI b), .int (nI j1)]) (k' := 10) (n' := 61) (P_weight hg h (pl_lt (by omega)) (pl_lt (by omega)) (c_ne hab (by omega) (by omega)) (show isWi (nI j1) (nI 0) (nI 9999) from wi_n (by omega) (by omega) (by decide))) mw_L_weight w_533 w_532 ar_L_weight ⟨rfl, rfl, rfl, rfl, rfl⟩ dL_tells_272 (fun ω2 y2 K2 => ?_)
  obtain ⟨ey2, C2, N2, e2⟩ := K2
  refine V_istore [(0, .ref 2), (1, .ref 73), (2, .int x), (3, .int y), (4, .int (nI q)), (5, .int (nI a)), (6, .int (nI b)), (7, .int (nI j1)), (8, .int y2)] dL_tells_275 rfl rfl ?_
  refine V_iload dL_tells_277 rfl ?_
  refine V_if_lt 301 dL_tells_279 rfl (fun z_ => absurd z_ (fun z => by rw [ey2] at z; exact nn_wt h.2.1 (p2n_lt (by omega) (by omega)) z)) (fun _ => ?_)
  refine V_aload_n dL_tells_282 rfl ?_
  refine V_iload dL_tells_283 rfl ?_
  refine V_iload dL_tells_285 rfl ?_
  refine V_iload dL_tells_287 rfl ?_
  refine V_cMh (as := [.ref 2, .int (nI b), .int (nI a), .int (nI j1)]) (k' := 9) (n' := 55) (P_weight hg C2 (pl_lt (by omega)) (pl_lt (by omega)) (c_ne (Ne.symm hab) (by omega) (by omega)) (show isWi (nI j1) (nI 0) (nI 9999) from wi_n (by omega) (by omega) (by decide))) mw_L_weight w_533 w_532 ar_L_weight ⟨rfl, rfl, rfl, rfl, rfl⟩ dL_tells_289 (fun ω3 y3 K3 => ?_)
  obtain ⟨ey3, C3, N3, e3⟩ := K3
  refine V_cast (st' := .int (nI j1) :: []) rfl (by rw [ey3, e2]) rfl ?_
  refine V_iload dL_tells_292 rfl ?_
  refine V_icmp_ne 301 dL_tells_294 rfl (fun z_ => absurd z_ (by simp)) (fun _ => ?_)
  refine V_iconst (1 : Int32) dL_tells_297 (by decide) ?_
  refine V_goto 302 dL_tells_298 rfl ?_
  refine V_zret rfl dL_tells_302 (by decide) ?_
  exact ⟨rfl, C3, GE_NW N3 (GE_NW N2 hE)⟩
theorem tells_310 {g : GP} {σ : AH} {s : Nat} {x y : Int32} (hg : gG g = none) (h : Co s σ) (hE : GE s σ) {q a b : Nat} (ha : a < 5) (hb : b < 5) (hab : a ≠ b) : V g mL_tells (Em g mL_tells (fun ω rv => rv = some (.int 1) ∧ Co s ω ∧ GE s ω) NX) CT 11 67 310 [(0, .ref 2), (1, .ref 73), (2, .int x), (3, .int y), (4, .int (nI q)), (5, .int (nI a)), (6, .int (nI b))] [] σ := by
  refine V_iload_n dL_tells_310 rfl ?_
  refine V_bipush (6 : Int32) dL_tells_311 (by decide) ?_
  refine V_ishr dL_tells_313 ?_
  refine V_sipush (4000 : Int32) dL_tells_314 (by decide) ?_
  obtain ⟨j1, hj1, hl1, P1⟩ := P_low (g := g) (σ := σ) (y >>> ((6 : Int32) &&& 31)) (N := 4000) (by decide) (by decide)
  refine V_cKs (as := [.int (y >>> ((6 : Int32) &&& 31)), .int (4000 : Int32)]) (k' := 11) (n' := 67) P1 mw_L_low w_454 w_453 ar_L_low ⟨rfl, rfl, rfl, rfl, rfl⟩ dL_tells_317 (fun ω1 e1 => ?_)
  rw [e1]
  refine V_iconst (1 : Int32) dL_tells_320 (by decide) ?_
  refine V_isub dL_tells_321 ?_
  refine V_istore [(0, .ref 2), (1, .ref 73), (2, .int x), (3, .int y), (4, .int (nI q)), (5, .int (nI a)), (6, .int (nI b)), (7, .int ((nI j1) - (1 : Int32)))] dL_tells_322 rfl rfl ?_
  refine V_aload_n dL_tells_324 rfl ?_
  refine V_iload_n dL_tells_325 rfl ?_
  refine V_iconst (4 : Int32) dL_tells_326 (by decide) ?_
  refine V_ishr dL_tells_327 ?_
  refine V_iconst (5 : Int32) dL_tells_328 (by decide) ?_
  obtain ⟨j2, hj2, hl2, P2⟩ := P_low (g := g) (σ := σ) (x >>> ((4 : Int32) &&& 31)) (N := 5) (by decide) (by decide)
  refine V_cKs (as := [.int (x >>> ((4 : Int32) &&& 31)), .int (5 : Int32)]) (k' := 11) (n' := 67) P2 mw_L_low w_454 w_453 ar_L_low ⟨rfl, rfl, rfl, rfl, rfl⟩ dL_tells_329 (fun ω2 e2 => ?_)
  rw [e2]
  refine V_iload dL_tells_332 rfl ?_
  refine V_iload dL_tells_334 rfl ?_
  refine V_iload dL_tells_336 rfl ?_
  refine V_cMh (as := [.ref 2, .int (nI j2), .int (nI a), .int (nI b), .int ((nI j1) - (1 : Int32))]) (k' := 10) (n' := 61) (P_proviso hg h (ca_lt (by omega)) (pl_lt (by omega)) (pl_lt (by omega)) (c_ne hab (by omega) (by omega)) (wi_p (by omega))) mw_L_proviso w_541 w_540 ar_L_proviso ⟨rfl, rfl, rfl, rfl, rfl⟩ dL_tells_338 (fun ω3 y3 K3 => ?_)
  obtain ⟨ey3, C3, N3, e3⟩ := K3
  refine V_istore [(0, .ref 2), (1, .ref 73), (2, .int x), (3, .int y), (4, .int (nI q)), (5, .int (nI a)), (6, .int (nI b)), (7, .int ((nI j1) - (1 : Int32))), (8, .int y3)] dL_tells_341 rfl rfl ?_
  refine V_iload dL_tells_343 rfl ?_
  refine V_iconst (-1 : Int32) dL_tells_345 (by decide) ?_
  refine V_icmp_lt 375 dL_tells_346 rfl (fun z_ => absurd z_ (fun z => by rw [ey3] at z; exact nn_pv h.2.1 (p3n_lt (by omega) (by omega) (by omega)) z)) (fun _ => ?_)
  refine V_aload_n dL_tells_349 rfl ?_
  refine V_iload_n dL_tells_350 rfl ?_
  refine V_iconst (4 : Int32) dL_tells_351 (by decide) ?_
  refine V_ishr dL_tells_352 ?_
  refine V_iconst (5 : Int32) dL_tells_353 (by decide) ?_
  obtain ⟨j4, hj4, hl4, P4⟩ := P_low (g := g) (σ := ω3) (x >>> ((4 : Int32) &&& 31)) (N := 5) (by decide) (by decide)
  refine V_cKs (as := [.int (x >>> ((4 : Int32) &&& 31)), .int (5 : Int32)]) (k' := 10) (n' := 61) P4 mw_L_low w_454 w_453 ar_L_low ⟨rfl, rfl, rfl, rfl, rfl⟩ dL_tells_354 (fun ω4 e4 => ?_)
  rw [e4]
  refine V_cast (st' := .int (nI j2) :: [.ref 2]) rfl (by rw [show nI j4 = nI j2 from hl4.symm.trans hl2]) rfl ?_
  refine V_iload dL_tells_357 rfl ?_
  refine V_iload dL_tells_359 rfl ?_
  refine V_iload dL_tells_361 rfl ?_
  refine V_cMh (as := [.ref 2, .int (nI j2), .int (nI a), .int (nI b), .int ((nI j1) - (1 : Int32))]) (k' := 9) (n' := 55) (P_proviso hg C3 (ca_lt (by omega)) (pl_lt (by omega)) (pl_lt (by omega)) (c_ne hab (by omega) (by omega)) (wi_p (by omega))) mw_L_proviso w_541 w_540 ar_L_proviso ⟨rfl, rfl, rfl, rfl, rfl⟩ dL_tells_363 (fun ω5 y5 K5 => ?_)
  obtain ⟨ey5, C5, N5, e5⟩ := K5
  refine V_cast (st' := .int ((nI j1) - (1 : Int32)) :: []) rfl (by rw [ey5, e3, i11]) rfl ?_
  refine V_iload dL_tells_366 rfl ?_
  refine V_icmp_ne 375 dL_tells_368 rfl (fun z_ => absurd z_ (by simp)) (fun _ => ?_)
  refine V_iconst (1 : Int32) dL_tells_371 (by decide) ?_
  refine V_goto 376 dL_tells_372 rfl ?_
  refine V_zret rfl dL_tells_376 (by decide) ?_
  exact ⟨rfl, C5, GE_NW N5 (GE_NW N3 hE)⟩
theorem tells_377 {g : GP} {σ : AH} {s : Nat} {x y : Int32} (hg : gG g = none) (h : Co s σ) (hE : GE s σ) {q a b : Nat} (ha : a < 5) (hb : b < 5) (hab : a ≠ b) : V g mL_tells (Em g mL_tells (fun ω rv => rv = some (.int 1) ∧ Co s ω ∧ GE s ω) NX) CT 11 67 377 [(0, .ref 2), (1, .ref 73), (2, .int x), (3, .int y), (4, .int (nI q)), (5, .int (nI a)), (6, .int (nI b))] [] σ := by
  refine V_aload_n dL_tells_377 rfl ?_
  refine V_iconst (1 : Int32) dL_tells_378 (by decide) ?_
  refine V_iload_n dL_tells_379 rfl ?_
  refine V_bipush (50 : Int32) dL_tells_380 (by decide) ?_
  obtain ⟨j1, hj1, hl1, P1⟩ := P_low (g := g) (σ := σ) y (N := 50) (by decide) (by decide)
  refine V_cKs (as := [.int y, .int (50 : Int32)]) (k' := 11) (n' := 67) P1 mw_L_low w_454 w_453 ar_L_low ⟨rfl, rfl, rfl, rfl, rfl⟩ dL_tells_382 (fun ω1 e1 => ?_)
  rw [e1]
  refine V_iadd dL_tells_385 ?_
  refine V_cast (st' := .int (nI (1 + j1)) :: [.ref 2]) rfl (by rw [show (1 : Int32) + nI j1 = nI (1 + j1) from nI_add 1 j1]) rfl ?_
  refine V_cMh (as := [.ref 2, .int (nI (1 + j1))]) (k' := 10) (n' := 61) (P_unit hg h (show isWi (nI (1 + j1)) (nI 1) (nI 50) from wi_n (by omega) (by omega) (by decide))) mw_L_unit w_560 w_559 ar_L_unit ⟨rfl, rfl, rfl, rfl, rfl⟩ dL_tells_386 (fun ω2 y2 K2 => ?_)
  obtain ⟨by2, C2, N2⟩ := K2
  refine V_istore [(0, .ref 2), (1, .ref 73), (2, .int x), (3, .int y), (4, .int (nI q)), (5, .int (nI a)), (6, .int (nI b)), (7, .int y2)] dL_tells_389 rfl rfl ?_
  refine V_aload_n dL_tells_391 rfl ?_
  refine V_iload_n dL_tells_392 rfl ?_
  refine V_bipush (6 : Int32) dL_tells_393 (by decide) ?_
  refine V_ishr dL_tells_395 ?_
  refine V_bipush (101 : Int32) dL_tells_396 (by decide) ?_
  obtain ⟨j3, hj3, hl3, P3⟩ := P_low (g := g) (σ := ω2) (y >>> ((6 : Int32) &&& 31)) (N := 101) (by decide) (by decide)
  refine V_cKs (as := [.int (y >>> ((6 : Int32) &&& 31)), .int (101 : Int32)]) (k' := 10) (n' := 61) P3 mw_L_low w_454 w_453 ar_L_low ⟨rfl, rfl, rfl, rfl, rfl⟩ dL_tells_398 (fun ω3 e3 => ?_)
  rw [e3]
  refine V_cMh (as := [.ref 2, .int (nI j3)]) (k' := 9) (n' := 55) (P_penalty hg C2 (show isWi (nI j3) (nI 0) (nI 100) from wi_n (by omega) (by omega) (by decide))) mw_L_penalty w_568 w_567 ar_L_penalty ⟨rfl, rfl, rfl, rfl, rfl⟩ dL_tells_401 (fun ω4 y4 K4 => ?_)
  obtain ⟨by4, C4, N4⟩ := K4
  refine V_istore [(0, .ref 2), (1, .ref 73), (2, .int x), (3, .int y), (4, .int (nI q)), (5, .int (nI a)), (6, .int (nI b)), (7, .int y2), (8, .int y4)] dL_tells_404 rfl rfl ?_
  refine V_iload dL_tells_406 rfl ?_
  refine V_if_le 435 dL_tells_408 rfl (fun z_ => absurd z_ (fun z => by rw [Int32.le_iff_toInt_le, zero_toInt] at z; have := by2.1; omega)) (fun _ => ?_)
  refine V_iload dL_tells_411 rfl ?_
  refine V_sipush (1000 : Int32) dL_tells_413 (by decide) ?_
  refine V_icmp_gt 435 dL_tells_416 rfl (fun z_ => absurd z_ (fun z => by rw [Int32.lt_iff_toInt_lt] at z; have := by2.2; change (1000 : Int) < _ at z; omega)) (fun _ => ?_)
  refine V_iload dL_tells_419 rfl ?_
  refine V_if_lt 435 dL_tells_421 rfl (fun z_ => absurd z_ (fun z => by rw [Int32.lt_iff_toInt_lt, zero_toInt] at z; have := by4.1; omega)) (fun _ => ?_)
  refine V_iload dL_tells_424 rfl ?_
  refine V_bipush (100 : Int32) dL_tells_426 (by decide) ?_
  refine V_icmp_gt 435 dL_tells_428 rfl (fun z_ => absurd z_ (fun z => by rw [Int32.lt_iff_toInt_lt] at z; have := by4.2; change (100 : Int) < _ at z; omega)) (fun _ => ?_)
  refine V_iconst (1 : Int32) dL_tells_431 (by decide) ?_
  refine V_goto 436 dL_tells_432 rfl ?_
  refine V_zret rfl dL_tells_436 (by decide) ?_
  exact ⟨rfl, C4, GE_NW N4 (GE_NW N2 hE)⟩
theorem s_L_tells {g : GP} {σ : AH} {s : Nat} {x y : Int32} (hg : gG g = none) (h : Co s σ) (hE : GE s σ) : Ct g mL_tells [.ref 2, .ref 73, .int x, .int y] σ (fun ω rv => rv = some (.int 1) ∧ Co s ω ∧ GE s ω) := by
  refine Ct_of (by decide +kernel) rfl rfl ?_
  refine V_iload_n dL_tells_0 rfl ?_
  refine V_bipush (10 : Int32) dL_tells_1 (by decide) ?_
  obtain ⟨j1, hj1, hl1, P1⟩ := P_low (g := g) (σ := σ) x (N := 10) (by decide) (by decide)
  refine V_cKs (as := [.int x, .int (10 : Int32)]) (k' := 11) (n' := 67) P1 mw_L_low w_454 w_453 ar_L_low ⟨rfl, rfl, rfl, rfl, rfl⟩ dL_tells_3 (fun ω1 e1 => ?_)
  rw [e1]
  refine V_istore [(0, .ref 2), (1, .ref 73), (2, .int x), (3, .int y), (4, .int (nI j1))] dL_tells_6 rfl rfl ?_
  refine V_iload_n dL_tells_8 rfl ?_
  refine V_iconst (5 : Int32) dL_tells_9 (by decide) ?_
  obtain ⟨j2, hj2, hl2, P2⟩ := P_low (g := g) (σ := σ) y (N := 5) (by decide) (by decide)
  refine V_cKs (as := [.int y, .int (5 : Int32)]) (k' := 11) (n' := 67) P2 mw_L_low w_454 w_453 ar_L_low ⟨rfl, rfl, rfl, rfl, rfl⟩ dL_tells_10 (fun ω2 e2 => ?_)
  rw [e2]
  refine V_istore [(0, .ref 2), (1, .ref 73), (2, .int x), (3, .int y), (4, .int (nI j1)), (5, .int (nI j2))] dL_tells_13 rfl rfl ?_
  refine V_iload dL_tells_15 rfl ?_
  refine V_iconst (1 : Int32) dL_tells_17 (by decide) ?_
  refine V_iadd dL_tells_18 ?_
  refine V_cast (st' := .int (nI (j2 + 1)) :: []) rfl (by rw [nI_1]) rfl ?_
  refine V_iload_n dL_tells_19 rfl ?_
  refine V_iconst (3 : Int32) dL_tells_20 (by decide) ?_
  refine V_ishr dL_tells_21 ?_
  refine V_iconst (4 : Int32) dL_tells_22 (by decide) ?_
  obtain ⟨j3, hj3, hl3, P3⟩ := P_low (g := g) (σ := σ) (y >>> ((3 : Int32) &&& 31)) (N := 4) (by decide) (by decide)
  refine V_cKs (as := [.int (y >>> ((3 : Int32) &&& 31)), .int (4 : Int32)]) (k' := 11) (n' := 67) P3 mw_L_low w_454 w_453 ar_L_low ⟨rfl, rfl, rfl, rfl, rfl⟩ dL_tells_23 (fun ω3 e3 => ?_)
  rw [e3]
  refine V_iadd dL_tells_26 ?_
  refine V_cast (st' := .int (nI (j2 + 1 + j3)) :: []) rfl (by rw [nI_add]) rfl ?_
  refine V_iconst (5 : Int32) dL_tells_27 (by decide) ?_
  refine V_irem dL_tells_28 (by decide) ?_
  refine V_cast (st' := .int (nI ((j2 + 1 + j3) % 5)) :: []) rfl (by rw [show nI (j2 + 1 + j3) - nI (j2 + 1 + j3) / (5 : Int32) * (5 : Int32) = nI ((j2 + 1 + j3) % 5) from rem_n (by decide) (by decide) (by omega)]) rfl ?_
  refine V_istore [(0, .ref 2), (1, .ref 73), (2, .int x), (3, .int y), (4, .int (nI j1)), (5, .int (nI j2)), (6, .int (nI ((j2 + 1 + j3) % 5)))] dL_tells_29 rfl rfl ?_
  refine V_iload dL_tells_31 rfl ?_
  refine V_iconst (2 : Int32) dL_tells_33 (by decide) ?_
  refine V_icmp_ge 91 dL_tells_34 rfl (fun c34 => ?_) (fun c34 => ?_)
  · refine V_iload dL_tells_91 rfl ?_
    refine V_bipush (6 : Int32) dL_tells_93 (by decide) ?_
    refine V_icmp_ge 206 dL_tells_95 rfl (fun c95 => ?_) (fun c95 => ?_)
    · refine V_iload dL_tells_206 rfl ?_
      refine V_bipush (6 : Int32) dL_tells_208 (by decide) ?_
      refine V_icmp_ne 247 dL_tells_210 rfl (fun c210 => ?_) (fun c210 => ?_)
      · refine V_iload dL_tells_247 rfl ?_
        refine V_bipush (7 : Int32) dL_tells_249 (by decide) ?_
        refine V_icmp_ne 303 dL_tells_251 rfl (fun c251 => ?_) (fun c251 => ?_)
        · refine V_iload dL_tells_303 rfl ?_
          refine V_bipush (8 : Int32) dL_tells_305 (by decide) ?_
          refine V_icmp_ne 377 dL_tells_307 rfl (fun c307 => ?_) (fun c307 => ?_)
          · exact tells_377 hg h hE hj2 (Nat.mod_lt _ (by decide)) (by omega)
          · exact tells_310 hg h hE hj2 (Nat.mod_lt _ (by decide)) (by omega)
        · exact tells_254 hg h hE hj2 (Nat.mod_lt _ (by decide)) (by omega)
      · exact tells_213 hg h hE hj2 (Nat.mod_lt _ (by decide)) (by omega)
    · obtain ⟨nf, n1, n2⟩ := Rel_nf h.2.1
      by_cases hf : nf = 40
      · exact tells_98f hg h hE hj2 (Nat.mod_lt _ (by decide)) (by omega) (by rw [n2, hf]; rfl)
      · exact tells_98o hg h hE hj2 (Nat.mod_lt _ (by decide)) (by omega) (by omega) n2
  · exact tells_37 hg h hE hj2 (Nat.mod_lt _ (by decide)) (by omega)
