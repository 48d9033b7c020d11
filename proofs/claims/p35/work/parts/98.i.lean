/-! ===== the law: sells ===== -/
theorem add64 {a b : Int32} (ha : bt a 1 504000) (hb : bt b 0 8000) : Int32.toInt64 (a + b) = Int32.toInt64 a + Int32.toInt64 b := by
  have e := i_add (x := a) (y := b) (by have := ha.1; have := hb.1; omega) (by have := ha.2; have := hb.2; omega)
  apply Int64.toInt_inj.mp
  rw [Int32.toInt_toInt64, e, Int64.toInt_add, Int32.toInt_toInt64, Int32.toInt_toInt64, Int.bmod_def]
  have := ha.1; have := ha.2; have := hb.1; have := hb.2
  split <;> omega
theorem wayF_RO {τ σ : AH} (hO : RO τ σ) : wayF τ = wayF σ := wayF_eq (EqP_RO hO)
theorem GE_new {s n : Nat} {ω σ : AH} (hG : GE s σ) (h : NW (fun j => j = 16 ∨ j = 23) ω σ) (e23 : zI ω 33 23 = nI (n + 1)) (e16 : zI ω 33 16 = 0) : GE s (uI (uI ω 73 1 0) 73 2 (nI (n + 1))) := by
  obtain ⟨h1, h2, h3, h4⟩ := h
  obtain ⟨h5, h6⟩ := h2 (by decide)
  have ee : ∀ j, j ≠ 1 → j ≠ 2 → zI (uI (uI ω 73 1 0) 73 2 (nI (n + 1))) 73 j = zI σ 73 j := fun j hj hk => by rw [zI_uI, if_neg (by omega), zI_uI, if_neg (by omega), h3]
  have e' : ∀ a, a ≠ 73 → zI (uI (uI ω 73 1 0) 73 2 (nI (n + 1))) a = zI ω a := fun a ha => funext fun j => by rw [zI_uI, if_neg (by omega), zI_uI, if_neg (by omega)]
  have e1 : zI (uI (uI ω 73 1 0) 73 2 (nI (n + 1))) 73 1 = 0 := by rw [zI_uI, if_neg (by omega), zI_uI, if_pos ⟨rfl, rfl⟩]
  have e2 : zI (uI (uI ω 73 1 0) 73 2 (nI (n + 1))) 73 2 = nI (n + 1) := by rw [zI_uI, if_pos ⟨rfl, rfl⟩]
  unfold GE at hG ⊢
  rw [ee 0 (by decide) (by decide), ee 3 (by decide) (by decide), ee 4 (by decide) (by decide), ee 5 (by decide) (by decide), ee 6 (by decide) (by decide), e1, e2, e' 33 (by decide), e' 74 (by decide), e' 47 (by decide), e' 49 (by decide), h1 0 (by omega) (by decide), h1 6 (by omega) (by decide), h1 36 (by omega) (by decide), h1 43 (by omega) (by decide), h4, e23, e16]
  exact ⟨hG.1, rfl, rfl, hG.2.2.2.1, hG.2.2.2.2.1, hG.2.2.2.2.2.1, hG.2.2.2.2.2.2.1, hG.2.2.2.2.2.2.2.1, fun L hL q => by
    have := q_of (a := 0) (b := L + 1) (by decide) (by omega) q
    omega⟩
theorem no_refund {ω ω1 ω2 : AH} {s t m : Nat} {y : Int32} (K : Kp ω1 ω) (nop : ¬ opF ω (8 * t) m) (h : (¬ opF ω1 (8 * t) m ∧ y = -1000003 ∧ Kp ω2 ω1) ∨ (opF ω1 (8 * t) m ∧ 0 ≤ y.toInt ∧ Co s ω2 ∧ NW N0 ω2 ω1 ∧ zJ ω2 33 48 = zJ ω1 33 48 - Int32.toInt64 y ∧ ¬ opF ω2 (8 * t) m ∧ zI ω2 52 = zI ω1 52)) : y = -1000003 ∧ Kp ω2 ω := by
  rcases h with ⟨-, h1, h2⟩ | ⟨h1, -⟩
  · exact ⟨h1, Kp_tr h2 K⟩
  · exact absurd ((opF_RO K.2.2).mp h1) nop
theorem sells_41n {g : GP} {σ : AH} {s : Nat} {x y pr : Int32} {X : Int64} {c : Nat} (hg : gG g = none) (h : Co s σ) (hE : GE s σ) (hX : zJ σ 33 48 = X) (hpr : (wayF σ).1 = pr) {ω : AH} (Kω : Kp ω σ) : V g mL_sells (Em g mL_sells (fun ω rv => rv = some (.int 1) ∧ Co s ω ∧ GE s ω) NX) CT 189 1190 41 [(0, .ref 2), (1, .ref 73), (2, .int x), (3, .int y), (4, .long X), (6, .int pr), (7, .int (nI c)), (8, .int (-1000003 : Int32))] [] ω := by
  refine V_iload dL_sells_41 rfl ?_
  refine V_ldc (v := (-1000003 : Int32)) w_518 dL_sells_43 ?_
  refine V_icmp_ne 75 dL_sells_45 rfl (fun z_ => absurd z_ (by decide)) (fun _ => ?_)
  refine V_aload_n dL_sells_48 rfl ?_
  refine V_cKv (as := []) (k' := 189) (n' := 1190) (P_paid hg Kω) mw_X11_paid ko_X11 rfl w_415 w_416 w_414 ar_X11_paid ⟨rfl, rfl, rfl, rfl, rfl⟩ dL_sells_49 (by decide) (shk Kω.1.2.1 2 rfl) (fun ω1 K1 => ?_)
  refine V_lload dL_sells_52 rfl ?_
  refine V_lcmp dL_sells_54 ?_
  refine V_cast (st' := .int (0 : Int32) :: []) rfl (by rw [lc_0 hX]) rfl ?_
  refine V_if_ne 73 dL_sells_55 rfl (fun z_ => absurd z_ (by decide)) (fun _ => ?_)
  refine V_aload_n dL_sells_58 rfl ?_
  refine V_iconst (1 : Int32) dL_sells_59 (by decide) ?_
  refine V_cKh (as := [.ref 2, .int (1 : Int32)]) (k' := 188) (n' := 1184) (P_of hg (by decide) K1) mw_L_of w_376 w_375 ar_L_of ⟨rfl, rfl, rfl, rfl, rfl⟩ dL_sells_60 (fun ω2 K2 => ?_)
  refine V_cast (st' := .int (zI σ 33 16) :: []) rfl (by rw [of1]) rfl ?_
  refine V_aload_n dL_sells_63 rfl ?_
  refine V_iconst (1 : Int32) dL_sells_64 (by decide) ?_
  refine V_gald dL_sells_65 (by decide) (ga73 K2.2.1).1 (vp_l (n := 7) (ga73 K2.2.1).2 (vp_in_nI (n := 1) (by decide) (by decide))) ?_
  refine V_cast (st' := .int (zI ω2 73 1) :: [.int (zI σ 33 16)]) rfl rfl rfl ?_
  refine V_cast (st' := .int (zI σ 33 16) :: [.int (zI σ 33 16)]) rfl (by rw [gk K2.2.2 1, hE.2.1]) rfl ?_
  refine V_icmp_ne 73 dL_sells_66 rfl (fun z_ => absurd z_ (by simp)) (fun _ => ?_)
  refine V_iconst (1 : Int32) dL_sells_69 (by decide) ?_
  refine V_goto 74 dL_sells_70 rfl ?_
  refine V_zret rfl dL_sells_74 (by decide) ?_
  exact ⟨rfl, Co_K h K2, GE_RO K2.2.2 hE⟩
theorem sells_41y {g : GP} {σ : AH} {s : Nat} {x y pr : Int32} {X : Int64} {c : Nat} (hg : gG g = none) (h : Co s σ) (hE : GE s σ) (hX : zJ σ 33 48 = X) (hpr : (wayF σ).1 = pr) {n L : Nat} (n29 : n < 30) (hn : zI σ 33 23 = nI n) (L1 : 1 ≤ L) (L8 : L ≤ 8) {ω : AH} (Cω : Co s ω) (hN : NW (fun j => j = 16 ∨ j = 23) ω σ) (e23 : zI ω 33 23 = nI (n + 1)) (e16 : zI ω 33 16 = 0) (e50 : zI ω 50 n = pr) (e52 : zI ω 52 n = nI L) (e51 : zI ω 51 n = nI c) {T : Int32} (hT : smI (fun k => zI ω 57 (8 * n + k)) L = T) (e48 : zJ ω 33 48 = X + Int32.toInt64 pr + Int32.toInt64 T) (hprb : bt pr 1 504000) : V g mL_sells (Em g mL_sells (fun ω rv => rv = some (.int 1) ∧ Co s ω ∧ GE s ω) NX) CT 189 1190 41 [(0, .ref 2), (1, .ref 73), (2, .int x), (3, .int y), (4, .long X), (6, .int pr), (7, .int (nI c)), (8, .int (nI n))] [] ω := by
  refine V_iload dL_sells_41 rfl ?_
  refine V_ldc (v := (-1000003 : Int32)) w_518 dL_sells_43 ?_
  refine V_icmp_ne 75 dL_sells_45 rfl (fun _ => ?_) (fun z_ => absurd z_ (ne_neg (by omega)))
  refine V_aload_n dL_sells_75 rfl ?_
  refine V_iconst (1 : Int32) dL_sells_76 (by decide) ?_
  refine V_iconst (0 : Int32) dL_sells_77 (by decide) ?_
  refine V_gast dL_sells_78 hg (by decide) (ga73 Cω.2.2.1).1 (vp_l (n := 7) (ga73 Cω.2.2.1).2 (vp_in_nI (n := 1) (by decide) (by decide))) ?_
  refine V_cast (σ' := uI ω 73 1 (0 : Int32)) rfl rfl rfl ?_
  refine V_aload_n dL_sells_79 rfl ?_
  refine V_iconst (2 : Int32) dL_sells_80 (by decide) ?_
  refine V_dup2 dL_sells_81 rfl rfl ?_
  refine V_gald dL_sells_82 (by decide) (ga73 (GA_g Cω.2.2.1)).1 (vp_l (n := 7) (ga73 (GA_g Cω.2.2.1)).2 (vp_in_nI (n := 2) (by decide) (by decide))) ?_
  refine V_cast (st' := .int (zI (uI ω 73 1 (0 : Int32)) 73 2) :: [.int (2 : Int32), .ref 73]) rfl rfl rfl ?_
  refine V_cast (st' := .int (nI n) :: [.int (2 : Int32), .ref 73]) rfl (by rw [(show zI (uI ω 73 1 (0 : Int32)) 73 2 = nI n from by rw [zI_uI, if_neg (by omega), hN.2.2.1]; exact hE.2.2.1.trans hn)]) rfl ?_
  refine V_iconst (1 : Int32) dL_sells_83 (by decide) ?_
  refine V_iadd dL_sells_84 ?_
  refine V_cast (st' := .int (nI (n + 1)) :: [.int (2 : Int32), .ref 73]) rfl (by rw [nI_1]) rfl ?_
  refine V_gast dL_sells_85 hg (by decide) (ga73 (GA_g Cω.2.2.1)).1 (vp_l (n := 7) (ga73 (GA_g Cω.2.2.1)).2 (vp_in_nI (n := 2) (by decide) (by decide))) ?_
  refine V_cast (σ' := uI (uI ω 73 1 (0 : Int32)) 73 2 (nI (n + 1))) rfl rfl rfl ?_
  have C9 := Co_g (a := 73) (k := 2) (x := nI (n + 1)) (Or.inl rfl) (Co_g (a := 73) (k := 1) (x := 0) (Or.inl rfl) Cω)
  have G9 := GE_new hE hN e23 e16
  have q9 : ∀ a, a ≠ 73 → zI (uI (uI ω 73 1 0) 73 2 (nI (n + 1))) a = zI ω a := fun a ha => funext fun j => by rw [zI_uI, if_neg (by omega), zI_uI, if_neg (by omega)]
  have j9 : ∀ a, zJ (uI (uI ω 73 1 0) 73 2 (nI (n + 1))) a = zJ ω a := fun _ => rfl
  have e2 : zI (uI (uI ω 73 1 0) 73 2 (nI (n + 1))) 73 2 = nI (n + 1) := by rw [zI_uI, if_pos ⟨rfl, rfl⟩]
  generalize uI (uI ω 73 1 0) 73 2 (nI (n + 1)) = ω9 at C9 G9 q9 j9 e2 ⊢
  have hn9 : zI ω9 33 23 = nI (n + 1) := by rw [q9 33 (by decide)]; exact e23
  have hm9 : zI ω9 52 n = nI L := by rw [q9 52 (by decide)]; exact e52
  have K9 := Co_Kp C9
  refine V_iload dL_sells_86 rfl ?_
  refine V_if_le 162 dL_sells_88 rfl (fun z_ => absurd z_ (fun z => by rw [Int32.le_iff_toInt_le, zero_toInt] at z; have := hprb.1; omega)) (fun _ => ?_)
  refine V_iload dL_sells_91 rfl ?_
  refine V_aload_n dL_sells_93 rfl ?_
  refine V_iconst (2 : Int32) dL_sells_94 (by decide) ?_
  refine V_gald dL_sells_95 (by decide) (ga73 K9.2.1).1 (vp_l (n := 7) (ga73 K9.2.1).2 (vp_in_nI (n := 2) (by decide) (by decide))) ?_
  refine V_cast (st' := .int (zI ω9 73 2) :: [.int (nI n)]) rfl rfl rfl ?_
  refine V_cast (st' := .int (nI (n + 1)) :: [.int (nI n)]) rfl (by rw [gk K9.2.2 2, e2]) rfl ?_
  refine V_iconst (1 : Int32) dL_sells_96 (by decide) ?_
  refine V_isub dL_sells_97 ?_
  refine V_cast (st' := .int (nI n) :: [.int (nI n)]) rfl (by rw [nI_pred]) rfl ?_
  refine V_icmp_ne 162 dL_sells_98 rfl (fun z_ => absurd z_ (by simp)) (fun _ => ?_)
  refine V_aload_n dL_sells_101 rfl ?_
  refine V_iload dL_sells_102 rfl ?_
  refine V_iconst (0 : Int32) dL_sells_104 (by decide) ?_
  refine V_cKh (as := [.ref 2, .int (nI n), .int (0 : Int32)]) (k' := 188) (n' := 1184) (P_tk hg hn9 (by omega) (Nat.lt_succ_self n) (by decide) K9) mw_L_ofTicket w_422 w_421 ar_L_ofTicket ⟨rfl, rfl, rfl, rfl, rfl⟩ dL_sells_105 (fun ω1 K1 => ?_)
  refine V_cast (st' := .int pr :: []) rfl (by rw [tk0, q9 50 (by decide), e50]) rfl ?_
  refine V_iload dL_sells_108 rfl ?_
  refine V_icmp_ne 162 dL_sells_110 rfl (fun z_ => absurd z_ (by simp)) (fun _ => ?_)
  refine V_aload_n dL_sells_113 rfl ?_
  refine V_iload dL_sells_114 rfl ?_
  refine V_iconst (2 : Int32) dL_sells_116 (by decide) ?_
  refine V_cKh (as := [.ref 2, .int (nI n), .int (2 : Int32)]) (k' := 187) (n' := 1178) (P_tk hg hn9 (by omega) (Nat.lt_succ_self n) (by decide) K1) mw_L_ofTicket w_422 w_421 ar_L_ofTicket ⟨rfl, rfl, rfl, rfl, rfl⟩ dL_sells_117 (fun ω2 K2 => ?_)
  refine V_cast (st' := .int (nI c) :: []) rfl (by rw [tk2, q9 51 (by decide), e51]) rfl ?_
  refine V_iload dL_sells_120 rfl ?_
  refine V_icmp_ne 162 dL_sells_122 rfl (fun z_ => absurd z_ (by simp)) (fun _ => ?_)
  refine V_aload_n dL_sells_125 rfl ?_
  refine V_cKv (as := []) (k' := 187) (n' := 1178) (P_paid hg K2) mw_X11_paid ko_X11 rfl w_415 w_416 w_414 ar_X11_paid ⟨rfl, rfl, rfl, rfl, rfl⟩ dL_sells_126 (by decide) (shk K2.1.2.1 2 rfl) (fun ω3 K3 => ?_)
  refine V_lload dL_sells_129 rfl ?_
  refine V_iload dL_sells_131 rfl ?_
  refine V_i2l dL_sells_133 ?_
  refine V_ladd dL_sells_134 ?_
  refine V_aload_n dL_sells_135 rfl ?_
  refine V_iload dL_sells_136 rfl ?_
  refine V_iconst (1 : Int32) dL_sells_138 (by decide) ?_
  refine V_cKh (as := [.ref 2, .int (nI n), .int (1 : Int32)]) (k' := 186) (n' := 1172) (P_tk hg hn9 (by omega) (Nat.lt_succ_self n) (by decide) K3) mw_L_ofTicket w_422 w_421 ar_L_ofTicket ⟨rfl, rfl, rfl, rfl, rfl⟩ dL_sells_139 (fun ω4 K4 => ?_)
  refine V_cast (st' := .int T :: [.long (X + (Int32.toInt64 pr)), .long (zJ ω9 33 48)]) rfl (by rw [tk1, q9 57 (by decide), q9 52 (by decide), e52, ix, cl0 (by omega), hT]) rfl ?_
  refine V_i2l dL_sells_142 ?_
  refine V_ladd dL_sells_143 ?_
  refine V_lcmp dL_sells_144 ?_
  refine V_cast (st' := .int (0 : Int32) :: []) rfl (by rw [lc_0 ((congrFun (j9 33) 48).trans e48)]) rfl ?_
  refine V_if_ne 162 dL_sells_145 rfl (fun z_ => absurd z_ (by decide)) (fun _ => ?_)
  refine V_aload_n dL_sells_148 rfl ?_
  refine V_aload_n dL_sells_149 rfl ?_
  refine V_iload dL_sells_150 rfl ?_
  refine V_cKs (as := [.ref 2, .ref 73, .int (nI n)]) (k' := 108) (n' := 704) (s_L_isTicket hg C9 G9 hn9 (by omega) (Nat.lt_succ_self n) hm9 L1 L8 K4) mw_L_isTicket w_419 w_418 ar_L_isTicket ⟨rfl, rfl, rfl, rfl, rfl⟩ dL_sells_152 (fun ω5 K5 => ?_)
  refine V_if_eq 162 dL_sells_155 rfl (fun z_ => absurd z_ (by decide)) (fun _ => ?_)
  refine V_iconst (1 : Int32) dL_sells_158 (by decide) ?_
  refine V_goto 163 dL_sells_159 rfl ?_
  refine V_zret rfl dL_sells_163 (by decide) ?_
  exact ⟨rfl, Co_K C9 K5, GE_RO K5.2.2 G9⟩
theorem sells_33 {g : GP} {σ : AH} {s : Nat} {x y pr : Int32} {X : Int64} {c : Nat} (hg : gG g = none) (h : Co s σ) (hE : GE s σ) (hX : zJ σ 33 48 = X) (hpr : (wayF σ).1 = pr) (hc : c < 5) : V g mL_sells (Em g mL_sells (fun ω rv => rv = some (.int 1) ∧ Co s ω ∧ GE s ω) NX) CT 200 1284 33 [(0, .ref 2), (1, .ref 73), (2, .int x), (3, .int y), (4, .long X), (6, .int pr), (7, .int (nI c))] [] σ := by
  refine V_aload_n dL_sells_33 rfl ?_
  refine V_iload dL_sells_34 rfl ?_
  refine V_cMh (as := [.ref 2, .int (nI c)]) (k' := 189) (n' := 1190) (P_issue hg h hc) mw_L_issue w_702 w_701 ar_L_issue ⟨rfl, rfl, rfl, rfl, rfl⟩ dL_sells_36 (fun ω1 y1 K1 => ?_)
  refine V_istore [(0, .ref 2), (1, .ref 73), (2, .int x), (3, .int y), (4, .long X), (6, .int pr), (7, .int (nI c)), (8, .int y1)] dL_sells_39 rfl rfl ?_
  rcases K1 with ⟨rfl, Kω⟩ | ⟨n, L, n29, hn, L1, L8, hL, nw, rfl, Cω, hN, e23, e16, e50, e51, e52, e48, bT⟩
  · exact sells_41n hg h hE hX hpr Kω
  · have lσ : lgN σ = L := by rw [lgN, hL]; exact cl0 (by omega)
    have hprb : bt (wayF σ).1 1 504000 := by
      rcases way_spec h.2.2.2.1 lσ L1 L8 with ⟨q, -⟩ | ⟨m, -, -, -, q4, -⟩
      · exact absurd (by rw [q]) nw
      · exact q4
    rw [add64 hprb bT, hX, hpr] at e48
    rw [hpr] at e50 hprb
    exact sells_41y hg h hE hX hpr n29 hn L1 L8 Cω hN e23 e16 e50 e52 e51 rfl (by rw [e48]; grind) hprb
theorem sells_194n {g : GP} {σ : AH} {s : Nat} {x y pr : Int32} {X : Int64} {c : Nat} (hg : gG g = none) (h : Co s σ) (hE : GE s σ) (hX : zJ σ 33 48 = X) (hpr : (wayF σ).1 = pr) {t : Nat} {ω : AH} (Kω : Kp ω σ) : V g mL_sells (Em g mL_sells (fun ω rv => rv = some (.int 1) ∧ Co s ω ∧ GE s ω) NX) CT 199 1278 194 [(0, .ref 2), (1, .ref 73), (2, .int x), (3, .int y), (4, .long X), (6, .int pr), (7, .int (nI c)), (8, .int (nI t)), (9, .int (-1000003 : Int32))] [] ω := by
  refine V_iload dL_sells_194 rfl ?_
  refine V_ldc (v := (-1000003 : Int32)) w_518 dL_sells_196 ?_
  refine V_icmp_ne 219 dL_sells_198 rfl (fun z_ => absurd z_ (by decide)) (fun _ => ?_)
  refine V_aload_n dL_sells_201 rfl ?_
  refine V_cKv (as := []) (k' := 199) (n' := 1278) (P_paid hg Kω) mw_X11_paid ko_X11 rfl w_415 w_416 w_414 ar_X11_paid ⟨rfl, rfl, rfl, rfl, rfl⟩ dL_sells_202 (by decide) (shk Kω.1.2.1 2 rfl) (fun ω1 K1 => ?_)
  refine V_lload dL_sells_205 rfl ?_
  refine V_lcmp dL_sells_207 ?_
  refine V_cast (st' := .int (0 : Int32) :: []) rfl (by rw [lc_0 hX]) rfl ?_
  refine V_if_ne 215 dL_sells_208 rfl (fun z_ => absurd z_ (by decide)) (fun _ => ?_)
  refine V_iconst (1 : Int32) dL_sells_211 (by decide) ?_
  refine V_goto 265 dL_sells_212 rfl ?_
  refine V_zret rfl dL_sells_265 (by decide) ?_
  exact ⟨rfl, Co_K h K1, GE_RO K1.2.2 hE⟩
theorem sells_194y {g : GP} {σ : AH} {s : Nat} {x y pr : Int32} {X : Int64} {c : Nat} (hg : gG g = none) (h : Co s σ) (hE : GE s σ) (hX : zJ σ 33 48 = X) (hpr : (wayF σ).1 = pr) {t n m : Nat} (hn : zI σ 33 23 = nI n) (n30 : n ≤ 30) (ht : t < n) (m8 : m ≤ 8) {yv : Int32} {ω : AH} (Cω : Co s ω) (hN : NW N0 ω σ) (hm1 : zI ω 52 t = nI m) (nop : ¬ opF ω (8 * t) m) (hy0 : 0 ≤ yv.toInt) (e48 : zJ ω 33 48 = X - Int32.toInt64 yv) : V g mL_sells (Em g mL_sells (fun ω rv => rv = some (.int 1) ∧ Co s ω ∧ GE s ω) NX) CT 199 1278 194 [(0, .ref 2), (1, .ref 73), (2, .int x), (3, .int y), (4, .long X), (6, .int pr), (7, .int (nI c)), (8, .int (nI t)), (9, .int yv)] [] ω := by
  have hn1 : zI ω 33 23 = nI n := (hN.1 23 (by omega) id).trans hn
  refine V_iload dL_sells_194 rfl ?_
  refine V_ldc (v := (-1000003 : Int32)) w_518 dL_sells_196 ?_
  refine V_icmp_ne 219 dL_sells_198 rfl (fun _ => ?_) (fun z_ => absurd z_ (fun z => by rw [z] at hy0; exact absurd hy0 (by decide)))
  refine V_iload dL_sells_219 rfl ?_
  refine V_if_lt 264 dL_sells_221 rfl (fun z_ => absurd z_ (fun z => by rw [Int32.lt_iff_toInt_lt, zero_toInt] at z; omega)) (fun _ => ?_)
  refine V_aload_n dL_sells_224 rfl ?_
  refine V_cKv (as := []) (k' := 199) (n' := 1278) (P_paid hg (Co_Kp Cω)) mw_X11_paid ko_X11 rfl w_415 w_416 w_414 ar_X11_paid ⟨rfl, rfl, rfl, rfl, rfl⟩ dL_sells_225 (by decide) (shk Cω.2.1.2.1 2 rfl) (fun ω1 K1 => ?_)
  refine V_lload dL_sells_228 rfl ?_
  refine V_iload dL_sells_230 rfl ?_
  refine V_i2l dL_sells_232 ?_
  refine V_lsub dL_sells_233 ?_
  refine V_lcmp dL_sells_234 ?_
  refine V_cast (st' := .int (0 : Int32) :: []) rfl (by rw [lc_0 e48]) rfl ?_
  refine V_if_ne 264 dL_sells_235 rfl (fun z_ => absurd z_ (by decide)) (fun _ => ?_)
  refine V_aload_n dL_sells_238 rfl ?_
  refine V_iload dL_sells_239 rfl ?_
  refine V_cMh (as := [.ref 2, .int (nI t)]) (k' := 198) (n' := 1272) (P_refund hg (Co_K Cω K1) ((RO_3 K1.2.2 23 (by decide)).trans hn1) n30 ht ((congrFun (RO_f K1.2.2 52 (by decide) (by decide)) t).trans hm1) m8) mw_L_refund w_852 w_851 ar_L_refund ⟨rfl, rfl, rfl, rfl, rfl⟩ dL_sells_241 (fun ω2 y2 K2 => ?_)
  obtain ⟨ye2, Ki2⟩ := no_refund K1 nop K2
  refine V_cast (st' := .int (-1000003 : Int32) :: []) rfl (by rw [ye2]) rfl ?_
  refine V_ldc (v := (-1000003 : Int32)) w_518 dL_sells_244 ?_
  refine V_icmp_ne 264 dL_sells_246 rfl (fun z_ => absurd z_ (by decide)) (fun _ => ?_)
  refine V_aload_n dL_sells_249 rfl ?_
  refine V_iload dL_sells_250 rfl ?_
  refine V_cMh (as := [.ref 2, .int (nI t)]) (k' := 187) (n' := 1178) (P_reissue hg (Co_K Cω Ki2) ((RO_3 Ki2.2.2 23 (by decide)).trans hn1) n30 ht ((congrFun (RO_f Ki2.2.2 52 (by decide) (by decide)) t).trans hm1) m8) mw_L_reissue w_881 w_880 ar_L_reissue ⟨rfl, rfl, rfl, rfl, rfl⟩ dL_sells_252 (fun ω3 y3 K3 => ?_)
  have Kj3 : y3 = -1000003 ∧ Kp ω3 ω := by
    rcases K3 with ⟨z1, z2⟩ | ⟨L, -, -, -, -, -, z, -⟩
    · exact ⟨z1, Kp_tr z2 Ki2⟩
    · exact absurd ((opF_RO Ki2.2.2).mp z) nop
  obtain ⟨ye3, Ki3⟩ := Kj3
  refine V_cast (st' := .int (-1000003 : Int32) :: []) rfl (by rw [ye3]) rfl ?_
  refine V_ldc (v := (-1000003 : Int32)) w_518 dL_sells_255 ?_
  refine V_icmp_ne 264 dL_sells_257 rfl (fun z_ => absurd z_ (by decide)) (fun _ => ?_)
  refine V_iconst (1 : Int32) dL_sells_260 (by decide) ?_
  refine V_goto 265 dL_sells_261 rfl ?_
  refine V_zret rfl dL_sells_265 (by decide) ?_
  exact ⟨rfl, Co_K Cω Ki3, GE_RO Ki3.2.2 (GE_NW hN hE)⟩
theorem sells_274n {g : GP} {σ : AH} {s : Nat} {x y pr : Int32} {X : Int64} {c : Nat} (hg : gG g = none) (h : Co s σ) (hE : GE s σ) (hX : zJ σ 33 48 = X) (hpr : (wayF σ).1 = pr) {t : Nat} {ω : AH} (Kω : Kp ω σ) : V g mL_sells (Em g mL_sells (fun ω rv => rv = some (.int 1) ∧ Co s ω ∧ GE s ω) NX) CT 189 1190 274 [(0, .ref 2), (1, .ref 73), (2, .int x), (3, .int y), (4, .long X), (6, .int pr), (7, .int (nI c)), (8, .int (nI t)), (9, .int (-1000003 : Int32))] [] ω := by
  refine V_iload dL_sells_274 rfl ?_
  refine V_ldc (v := (-1000003 : Int32)) w_518 dL_sells_276 ?_
  refine V_icmp_ne 308 dL_sells_278 rfl (fun z_ => absurd z_ (by decide)) (fun _ => ?_)
  refine V_aload_n dL_sells_281 rfl ?_
  refine V_cKv (as := []) (k' := 189) (n' := 1190) (P_paid hg Kω) mw_X11_paid ko_X11 rfl w_415 w_416 w_414 ar_X11_paid ⟨rfl, rfl, rfl, rfl, rfl⟩ dL_sells_282 (by decide) (shk Kω.1.2.1 2 rfl) (fun ω1 K1 => ?_)
  refine V_lload dL_sells_285 rfl ?_
  refine V_lcmp dL_sells_287 ?_
  refine V_cast (st' := .int (0 : Int32) :: []) rfl (by rw [lc_0 hX]) rfl ?_
  refine V_if_ne 306 dL_sells_288 rfl (fun z_ => absurd z_ (by decide)) (fun _ => ?_)
  refine V_aload_n dL_sells_291 rfl ?_
  refine V_iconst (1 : Int32) dL_sells_292 (by decide) ?_
  refine V_cKh (as := [.ref 2, .int (1 : Int32)]) (k' := 188) (n' := 1184) (P_of hg (by decide) K1) mw_L_of w_376 w_375 ar_L_of ⟨rfl, rfl, rfl, rfl, rfl⟩ dL_sells_293 (fun ω2 K2 => ?_)
  refine V_cast (st' := .int (zI σ 33 16) :: []) rfl (by rw [of1]) rfl ?_
  refine V_aload_n dL_sells_296 rfl ?_
  refine V_iconst (1 : Int32) dL_sells_297 (by decide) ?_
  refine V_gald dL_sells_298 (by decide) (ga73 K2.2.1).1 (vp_l (n := 7) (ga73 K2.2.1).2 (vp_in_nI (n := 1) (by decide) (by decide))) ?_
  refine V_cast (st' := .int (zI ω2 73 1) :: [.int (zI σ 33 16)]) rfl rfl rfl ?_
  refine V_cast (st' := .int (zI σ 33 16) :: [.int (zI σ 33 16)]) rfl (by rw [gk K2.2.2 1, hE.2.1]) rfl ?_
  refine V_icmp_ne 306 dL_sells_299 rfl (fun z_ => absurd z_ (by simp)) (fun _ => ?_)
  refine V_iconst (1 : Int32) dL_sells_302 (by decide) ?_
  refine V_goto 307 dL_sells_303 rfl ?_
  refine V_zret rfl dL_sells_307 (by decide) ?_
  exact ⟨rfl, Co_K h K2, GE_RO K2.2.2 hE⟩
theorem sells_274y {g : GP} {σ : AH} {s : Nat} {x y pr : Int32} {X : Int64} {c : Nat} (hg : gG g = none) (h : Co s σ) (hE : GE s σ) (hX : zJ σ 33 48 = X) (hpr : (wayF σ).1 = pr) {n L : Nat} (n29 : n < 30) (hn : zI σ 33 23 = nI n) (L1 : 1 ≤ L) (L8 : L ≤ 8) {ω : AH} (Cω : Co s ω) (hN : NW (fun j => j = 16 ∨ j = 23) ω σ) (e23 : zI ω 33 23 = nI (n + 1)) (e16 : zI ω 33 16 = 0) (e50 : zI ω 50 n = pr) (e52 : zI ω 52 n = nI L) {t m : Nat} (ht : t < n) (m8 : m ≤ 8) {yv : Int32} (ny : ¬ yv = -1000003) (e51 : zI ω 51 n = zI σ 51 t) (e51t : zI ω 51 t = zI σ 51 t) (e48 : zJ ω 33 48 = X + Int32.toInt64 yv) (nop : ¬ opF ω (8 * t) m) (hm1 : zI ω 52 t = nI m) : V g mL_sells (Em g mL_sells (fun ω rv => rv = some (.int 1) ∧ Co s ω ∧ GE s ω) NX) CT 189 1190 274 [(0, .ref 2), (1, .ref 73), (2, .int x), (3, .int y), (4, .long X), (6, .int pr), (7, .int (nI c)), (8, .int (nI t)), (9, .int yv)] [] ω := by
  refine V_iload dL_sells_274 rfl ?_
  refine V_ldc (v := (-1000003 : Int32)) w_518 dL_sells_276 ?_
  refine V_icmp_ne 308 dL_sells_278 rfl (fun _ => ?_) (fun z_ => absurd z_ ny)
  refine V_aload_n dL_sells_308 rfl ?_
  refine V_iconst (1 : Int32) dL_sells_309 (by decide) ?_
  refine V_iconst (0 : Int32) dL_sells_310 (by decide) ?_
  refine V_gast dL_sells_311 hg (by decide) (ga73 Cω.2.2.1).1 (vp_l (n := 7) (ga73 Cω.2.2.1).2 (vp_in_nI (n := 1) (by decide) (by decide))) ?_
  refine V_cast (σ' := uI ω 73 1 (0 : Int32)) rfl rfl rfl ?_
  refine V_aload_n dL_sells_312 rfl ?_
  refine V_iconst (2 : Int32) dL_sells_313 (by decide) ?_
  refine V_dup2 dL_sells_314 rfl rfl ?_
  refine V_gald dL_sells_315 (by decide) (ga73 (GA_g Cω.2.2.1)).1 (vp_l (n := 7) (ga73 (GA_g Cω.2.2.1)).2 (vp_in_nI (n := 2) (by decide) (by decide))) ?_
  refine V_cast (st' := .int (zI (uI ω 73 1 (0 : Int32)) 73 2) :: [.int (2 : Int32), .ref 73]) rfl rfl rfl ?_
  refine V_cast (st' := .int (nI n) :: [.int (2 : Int32), .ref 73]) rfl (by rw [(show zI (uI ω 73 1 (0 : Int32)) 73 2 = nI n from by rw [zI_uI, if_neg (by omega), hN.2.2.1]; exact hE.2.2.1.trans hn)]) rfl ?_
  refine V_iconst (1 : Int32) dL_sells_316 (by decide) ?_
  refine V_iadd dL_sells_317 ?_
  refine V_cast (st' := .int (nI (n + 1)) :: [.int (2 : Int32), .ref 73]) rfl (by rw [nI_1]) rfl ?_
  refine V_gast dL_sells_318 hg (by decide) (ga73 (GA_g Cω.2.2.1)).1 (vp_l (n := 7) (ga73 (GA_g Cω.2.2.1)).2 (vp_in_nI (n := 2) (by decide) (by decide))) ?_
  refine V_cast (σ' := uI (uI ω 73 1 (0 : Int32)) 73 2 (nI (n + 1))) rfl rfl rfl ?_
  have C9 := Co_g (a := 73) (k := 2) (x := nI (n + 1)) (Or.inl rfl) (Co_g (a := 73) (k := 1) (x := 0) (Or.inl rfl) Cω)
  have G9 := GE_new hE hN e23 e16
  have q9 : ∀ a, a ≠ 73 → zI (uI (uI ω 73 1 0) 73 2 (nI (n + 1))) a = zI ω a := fun a ha => funext fun j => by rw [zI_uI, if_neg (by omega), zI_uI, if_neg (by omega)]
  have j9 : ∀ a, zJ (uI (uI ω 73 1 0) 73 2 (nI (n + 1))) a = zJ ω a := fun _ => rfl
  have e2 : zI (uI (uI ω 73 1 0) 73 2 (nI (n + 1))) 73 2 = nI (n + 1) := by rw [zI_uI, if_pos ⟨rfl, rfl⟩]
  generalize uI (uI ω 73 1 0) 73 2 (nI (n + 1)) = ω9 at C9 G9 q9 j9 e2 ⊢
  have hn9 : zI ω9 33 23 = nI (n + 1) := by rw [q9 33 (by decide)]; exact e23
  have hm9 : zI ω9 52 n = nI L := by rw [q9 52 (by decide)]; exact e52
  have K9 := Co_Kp C9
  refine V_aload_n dL_sells_319 rfl ?_
  refine V_cKv (as := []) (k' := 189) (n' := 1190) (P_paid hg K9) mw_X11_paid ko_X11 rfl w_415 w_416 w_414 ar_X11_paid ⟨rfl, rfl, rfl, rfl, rfl⟩ dL_sells_320 (by decide) (shk K9.1.2.1 2 rfl) (fun ω1 K1 => ?_)
  refine V_lload dL_sells_323 rfl ?_
  refine V_iload dL_sells_325 rfl ?_
  refine V_i2l dL_sells_327 ?_
  refine V_ladd dL_sells_328 ?_
  refine V_lcmp dL_sells_329 ?_
  refine V_cast (st' := .int (0 : Int32) :: []) rfl (by rw [lc_0 ((congrFun (j9 33) 48).trans e48)]) rfl ?_
  refine V_if_ne 396 dL_sells_330 rfl (fun z_ => absurd z_ (by decide)) (fun _ => ?_)
  refine V_aload_n dL_sells_333 rfl ?_
  refine V_aload_n dL_sells_334 rfl ?_
  refine V_iconst (2 : Int32) dL_sells_335 (by decide) ?_
  refine V_gald dL_sells_336 (by decide) (ga73 K1.2.1).1 (vp_l (n := 7) (ga73 K1.2.1).2 (vp_in_nI (n := 2) (by decide) (by decide))) ?_
  refine V_cast (st' := .int (zI ω1 73 2) :: [.ref 2]) rfl rfl rfl ?_
  refine V_cast (st' := .int (nI (n + 1)) :: [.ref 2]) rfl (by rw [gk K1.2.2 2, e2]) rfl ?_
  refine V_iconst (1 : Int32) dL_sells_337 (by decide) ?_
  refine V_isub dL_sells_338 ?_
  refine V_cast (st' := .int (nI n) :: [.ref 2]) rfl (by rw [nI_pred]) rfl ?_
  refine V_iconst (0 : Int32) dL_sells_339 (by decide) ?_
  refine V_cKh (as := [.ref 2, .int (nI n), .int (0 : Int32)]) (k' := 188) (n' := 1184) (P_tk hg hn9 (by omega) (Nat.lt_succ_self n) (by decide) K1) mw_L_ofTicket w_422 w_421 ar_L_ofTicket ⟨rfl, rfl, rfl, rfl, rfl⟩ dL_sells_340 (fun ω2 K2 => ?_)
  refine V_cast (st' := .int pr :: []) rfl (by rw [tk0, q9 50 (by decide), e50]) rfl ?_
  refine V_iload dL_sells_343 rfl ?_
  refine V_icmp_ne 396 dL_sells_345 rfl (fun z_ => absurd z_ (by simp)) (fun _ => ?_)
  refine V_aload_n dL_sells_348 rfl ?_
  refine V_aload_n dL_sells_349 rfl ?_
  refine V_iconst (2 : Int32) dL_sells_350 (by decide) ?_
  refine V_gald dL_sells_351 (by decide) (ga73 K2.2.1).1 (vp_l (n := 7) (ga73 K2.2.1).2 (vp_in_nI (n := 2) (by decide) (by decide))) ?_
  refine V_cast (st' := .int (zI ω2 73 2) :: [.ref 2]) rfl rfl rfl ?_
  refine V_cast (st' := .int (nI (n + 1)) :: [.ref 2]) rfl (by rw [gk K2.2.2 2, e2]) rfl ?_
  refine V_iconst (1 : Int32) dL_sells_352 (by decide) ?_
  refine V_isub dL_sells_353 ?_
  refine V_cast (st' := .int (nI n) :: [.ref 2]) rfl (by rw [nI_pred]) rfl ?_
  refine V_iconst (2 : Int32) dL_sells_354 (by decide) ?_
  refine V_cKh (as := [.ref 2, .int (nI n), .int (2 : Int32)]) (k' := 187) (n' := 1178) (P_tk hg hn9 (by omega) (Nat.lt_succ_self n) (by decide) K2) mw_L_ofTicket w_422 w_421 ar_L_ofTicket ⟨rfl, rfl, rfl, rfl, rfl⟩ dL_sells_355 (fun ω3 K3 => ?_)
  refine V_cast (st' := .int (zI σ 51 t) :: []) rfl (by rw [tk2, q9 51 (by decide), e51]) rfl ?_
  refine V_aload_n dL_sells_358 rfl ?_
  refine V_iload dL_sells_359 rfl ?_
  refine V_iconst (2 : Int32) dL_sells_361 (by decide) ?_
  refine V_cKh (as := [.ref 2, .int (nI t), .int (2 : Int32)]) (k' := 186) (n' := 1172) (P_tk hg hn9 (by omega) (by omega : t < n + 1) (by decide) K3) mw_L_ofTicket w_422 w_421 ar_L_ofTicket ⟨rfl, rfl, rfl, rfl, rfl⟩ dL_sells_362 (fun ω4 K4 => ?_)
  refine V_cast (st' := .int (zI σ 51 t) :: [.int (zI σ 51 t)]) rfl (by rw [tk2, q9 51 (by decide), e51t]) rfl ?_
  refine V_icmp_ne 396 dL_sells_365 rfl (fun z_ => absurd z_ (by simp)) (fun _ => ?_)
  refine V_aload_n dL_sells_368 rfl ?_
  refine V_aload_n dL_sells_369 rfl ?_
  refine V_aload_n dL_sells_370 rfl ?_
  refine V_iconst (2 : Int32) dL_sells_371 (by decide) ?_
  refine V_gald dL_sells_372 (by decide) (ga73 K4.2.1).1 (vp_l (n := 7) (ga73 K4.2.1).2 (vp_in_nI (n := 2) (by decide) (by decide))) ?_
  refine V_cast (st' := .int (zI ω4 73 2) :: [.ref 73, .ref 2]) rfl rfl rfl ?_
  refine V_cast (st' := .int (nI (n + 1)) :: [.ref 73, .ref 2]) rfl (by rw [gk K4.2.2 2, e2]) rfl ?_
  refine V_iconst (1 : Int32) dL_sells_373 (by decide) ?_
  refine V_isub dL_sells_374 ?_
  refine V_cast (st' := .int (nI n) :: [.ref 73, .ref 2]) rfl (by rw [nI_pred]) rfl ?_
  refine V_cKs (as := [.ref 2, .ref 73, .int (nI n)]) (k' := 108) (n' := 704) (s_L_isTicket hg C9 G9 hn9 (by omega) (Nat.lt_succ_self n) hm9 L1 L8 K4) mw_L_isTicket w_419 w_418 ar_L_isTicket ⟨rfl, rfl, rfl, rfl, rfl⟩ dL_sells_375 (fun ω5 K5 => ?_)
  refine V_if_eq 396 dL_sells_378 rfl (fun z_ => absurd z_ (by decide)) (fun _ => ?_)
  refine V_aload_n dL_sells_381 rfl ?_
  refine V_iload dL_sells_382 rfl ?_
  refine V_cMh (as := [.ref 2, .int (nI t)]) (k' := 107) (n' := 698) (P_refund hg (Co_K C9 K5) ((RO_3 K5.2.2 23 (by decide)).trans hn9) (by omega) (by omega : t < n + 1) ((congrFun (RO_f K5.2.2 52 (by decide) (by decide)) t).trans (by rw [q9 52 (by decide)]; exact hm1)) m8) mw_L_refund w_852 w_851 ar_L_refund ⟨rfl, rfl, rfl, rfl, rfl⟩ dL_sells_384 (fun ω6 y6 K6 => ?_)
  obtain ⟨ye6, Ki6⟩ := no_refund K5 (by unfold opF; rw [q9 55 (by decide)]; exact nop) K6
  refine V_cast (st' := .int (-1000003 : Int32) :: []) rfl (by rw [ye6]) rfl ?_
  refine V_ldc (v := (-1000003 : Int32)) w_518 dL_sells_387 ?_
  refine V_icmp_ne 396 dL_sells_389 rfl (fun z_ => absurd z_ (by decide)) (fun _ => ?_)
  refine V_iconst (1 : Int32) dL_sells_392 (by decide) ?_
  refine V_goto 397 dL_sells_393 rfl ?_
  refine V_zret rfl dL_sells_397 (by decide) ?_
  exact ⟨rfl, Co_K C9 Ki6, GE_RO Ki6.2.2 G9⟩
theorem sells_164 {g : GP} {σ : AH} {s : Nat} {x y pr : Int32} {X : Int64} {c : Nat} (hg : gG g = none) (h : Co s σ) (hE : GE s σ) (hX : zJ σ 33 48 = X) (hpr : (wayF σ).1 = pr) {n : Nat} (hn : zI σ 33 23 = nI n) (n30 : n ≤ 30) (n1 : 1 ≤ n) (htk : ∀ t, t < n → ∃ m, 1 ≤ m ∧ m ≤ 8 ∧ zI σ 52 t = nI m ∧ vp_in (zI σ 51 t) 5 ∧ ∀ k, k < m → vp_in (zI σ 60 (8 * t + k)) 10 ∧ vp_in (zI σ 58 (8 * t + k)) 5 ∧ bt (zI σ 57 (8 * t + k)) 0 10000 ∧ (zI σ 55 (8 * t + k) = 0 → zI σ 61 (8 * t + k) = -1)) : V g mL_sells (Em g mL_sells (fun ω rv => rv = some (.int 1) ∧ Co s ω ∧ GE s ω) NX) CT 200 1284 164 [(0, .ref 2), (1, .ref 73), (2, .int x), (3, .int y), (4, .long X), (6, .int pr), (7, .int (nI c))] [] σ := by
  refine V_iload_n dL_sells_164 rfl ?_
  refine V_iconst (3 : Int32) dL_sells_165 (by decide) ?_
  refine V_ishr dL_sells_166 ?_
  refine V_aload_n dL_sells_167 rfl ?_
  refine V_iconst (2 : Int32) dL_sells_168 (by decide) ?_
  refine V_gald dL_sells_169 (by decide) (ga73 h.2.2.1).1 (vp_l (n := 7) (ga73 h.2.2.1).2 (vp_in_nI (n := 2) (by decide) (by decide))) ?_
  refine V_cast (st' := .int (zI σ 73 2) :: [.int (y >>> ((3 : Int32) &&& 31))]) rfl rfl rfl ?_
  refine V_cast (st' := .int (nI n) :: [.int (y >>> ((3 : Int32) &&& 31))]) rfl (by rw [hE.2.2.1, hn]) rfl ?_
  obtain ⟨j1, hj1, hl1, P1⟩ := P_low (g := g) (σ := σ) (y >>> ((3 : Int32) &&& 31)) (N := n) (by omega) (by omega)
  refine V_cKs (as := [.int (y >>> ((3 : Int32) &&& 31)), .int (nI n)]) (k' := 200) (n' := 1284) P1 mw_L_low w_454 w_453 ar_L_low ⟨rfl, rfl, rfl, rfl, rfl⟩ dL_sells_170 (fun ω1 e1 => ?_)
  rw [e1]
  refine V_istore [(0, .ref 2), (1, .ref 73), (2, .int x), (3, .int y), (4, .long X), (6, .int pr), (7, .int (nI c)), (8, .int (nI j1))] dL_sells_173 rfl rfl ?_
  obtain ⟨m, m1, m8, hm, -⟩ := htk j1 hj1
  refine V_iload_n dL_sells_175 rfl ?_
  refine V_bipush (9 : Int32) dL_sells_176 (by decide) ?_
  refine V_ishr dL_sells_178 ?_
  refine V_iconst (2 : Int32) dL_sells_179 (by decide) ?_
  obtain ⟨j2, hj2, hl2, P2⟩ := P_low (g := g) (σ := σ) (y >>> ((9 : Int32) &&& 31)) (N := 2) (by decide) (by decide)
  refine V_cKs (as := [.int (y >>> ((9 : Int32) &&& 31)), .int (2 : Int32)]) (k' := 200) (n' := 1284) P2 mw_L_low w_454 w_453 ar_L_low ⟨rfl, rfl, rfl, rfl, rfl⟩ dL_sells_180 (fun ω2 e2 => ?_)
  rw [e2]
  refine V_if_ne 266 dL_sells_183 rfl (fun c183 => ?_) (fun c183 => ?_)
  · refine V_aload_n dL_sells_266 rfl ?_
    refine V_iload dL_sells_267 rfl ?_
    refine V_cMh (as := [.ref 2, .int (nI j1)]) (k' := 189) (n' := 1190) (P_reissue hg h hn n30 hj1 hm m8) mw_L_reissue w_881 w_880 ar_L_reissue ⟨rfl, rfl, rfl, rfl, rfl⟩ dL_sells_269 (fun ω3 y3 K3 => ?_)
    refine V_istore [(0, .ref 2), (1, .ref 73), (2, .int x), (3, .int y), (4, .long X), (6, .int pr), (7, .int (nI c)), (8, .int (nI j1)), (9, .int y3)] dL_sells_272 rfl rfl ?_
    rcases K3 with ⟨rfl, Kω⟩ | ⟨L, n29, L1, L8, hL, nw, -, ny, Cω, hN, e23, e16, e50, e51, e52n, e48, nop, e52t, e51t⟩
    · exact sells_274n hg h hE hX hpr Kω
    · exact sells_274y hg h hE hX hpr n29 hn L1 L8 Cω hN e23 e16 (by rw [e50, hpr]) e52n hj1 m8 ny e51 e51t (by rw [e48, hX]) nop e52t
  · refine V_aload_n dL_sells_186 rfl ?_
    refine V_iload dL_sells_187 rfl ?_
    refine V_cMh (as := [.ref 2, .int (nI j1)]) (k' := 199) (n' := 1278) (P_refund hg h hn n30 hj1 hm m8) mw_L_refund w_852 w_851 ar_L_refund ⟨rfl, rfl, rfl, rfl, rfl⟩ dL_sells_189 (fun ω4 y4 K4 => ?_)
    refine V_istore [(0, .ref 2), (1, .ref 73), (2, .int x), (3, .int y), (4, .long X), (6, .int pr), (7, .int (nI c)), (8, .int (nI j1)), (9, .int y4)] dL_sells_192 rfl rfl ?_
    rcases K4 with ⟨-, rfl, Kω⟩ | ⟨-, y0, Cω, hN, e48, nop, e52⟩
    · exact sells_194n hg h hE hX hpr Kω
    · exact sells_194y hg h hE hX hpr hn n30 hj1 m8 Cω hN (by rw [e52]; exact hm) nop y0 (by rw [e48, hX])
theorem s_L_sells {g : GP} {σ : AH} {s : Nat} {x y : Int32} (hg : gG g = none) (h : Co s σ) (hE : GE s σ) : Ct g mL_sells [.ref 2, .ref 73, .int x, .int y] σ (fun ω rv => rv = some (.int 1) ∧ Co s ω ∧ GE s ω) := by
  obtain ⟨n, n30, hn, -⟩ := Rel_tk h.2.1
  have g2 : zI σ 73 2 = nI n := hE.2.2.1.trans hn
  refine Ct_of (by decide +kernel) rfl rfl ?_
  refine V_aload_n dL_sells_0 rfl ?_
  refine V_cKv (as := []) (k' := 200) (n' := 1284) (P_paid hg (Co_Kp h)) mw_X11_paid ko_X11 rfl w_415 w_416 w_414 ar_X11_paid ⟨rfl, rfl, rfl, rfl, rfl⟩ dL_sells_1 (by decide) (shk h.2.1.2.1 2 rfl) (fun ω1 K1 => ?_)
  refine V_lstore [(0, .ref 2), (1, .ref 73), (2, .int x), (3, .int y), (4, .long (zJ σ 33 48))] dL_sells_4 rfl rfl ?_
  refine V_aload_n dL_sells_6 rfl ?_
  refine V_cKv (as := []) (k' := 200) (n' := 1284) (P_price hg K1) mw_X11_price ko_X11 rfl w_608 w_609 w_607 ar_X11_price ⟨rfl, rfl, rfl, rfl, rfl⟩ dL_sells_7 (by decide) (shk K1.1.2.1 2 rfl) (fun ω2 K2 => ?_)
  refine V_istore [(0, .ref 2), (1, .ref 73), (2, .int x), (3, .int y), (4, .long (zJ σ 33 48)), (6, .int ((wayF σ).1))] dL_sells_10 rfl rfl ?_
  refine V_iload_n dL_sells_12 rfl ?_
  refine V_iconst (5 : Int32) dL_sells_13 (by decide) ?_
  obtain ⟨j3, hj3, hl3, P3⟩ := P_low (g := g) (σ := ω2) y (N := 5) (by decide) (by decide)
  refine V_cKs (as := [.int y, .int (5 : Int32)]) (k' := 200) (n' := 1284) P3 mw_L_low w_454 w_453 ar_L_low ⟨rfl, rfl, rfl, rfl, rfl⟩ dL_sells_14 (fun ω3 e3 => ?_)
  rw [e3]
  refine V_istore [(0, .ref 2), (1, .ref 73), (2, .int x), (3, .int y), (4, .long (zJ σ 33 48)), (6, .int ((wayF σ).1)), (7, .int (nI j3))] dL_sells_17 rfl rfl ?_
  refine V_iload_n dL_sells_19 rfl ?_
  refine V_iconst (3 : Int32) dL_sells_20 (by decide) ?_
  obtain ⟨j4, hj4, hl4, P4⟩ := P_low (g := g) (σ := ω2) x (N := 3) (by decide) (by decide)
  refine V_cKs (as := [.int x, .int (3 : Int32)]) (k' := 200) (n' := 1284) P4 mw_L_low w_454 w_453 ar_L_low ⟨rfl, rfl, rfl, rfl, rfl⟩ dL_sells_21 (fun ω4 e4 => ?_)
  rw [e4]
  refine V_if_gt 33 dL_sells_24 rfl (fun c24 => ?_) (fun c24 => ?_)
  · exact sells_33 hg (Co_K h K2) (GE_RO K2.2.2 hE) (by rw [RO_j K2.2.2 33 (by decide) (by decide)]) (by rw [wayF_RO K2.2.2]) hj3
  · refine V_aload_n dL_sells_27 rfl ?_
    refine V_iconst (2 : Int32) dL_sells_28 (by decide) ?_
    refine V_gald dL_sells_29 (by decide) (ga73 K2.2.1).1 (vp_l (n := 7) (ga73 K2.2.1).2 (vp_in_nI (n := 2) (by decide) (by decide))) ?_
    refine V_cast (st' := .int (zI ω2 73 2) :: []) rfl rfl rfl ?_
    refine V_cast (st' := .int (nI n) :: []) rfl (by rw [gk K2.2.2 2, g2]) rfl ?_
    refine V_if_ne 164 dL_sells_30 rfl (fun c30 => ?_) (fun c30 => ?_)
    · obtain ⟨n', n30', hn', htk⟩ := Rel_tk K2.1
      have en : n' = n := q_of (by omega) (by omega) (hn'.symm.trans ((RO_3 K2.2.2 23 (by decide)).trans hn))
      subst en
      have n1 : 1 ≤ n' := Nat.pos_of_ne_zero (fun z => c30 (by rw [z]; rfl))
      exact sells_164 hg (Co_K h K2) (GE_RO K2.2.2 hE) (by rw [RO_j K2.2.2 33 (by decide) (by decide)]) (by rw [wayF_RO K2.2.2]) hn' n30' n1 htk
    · exact sells_33 hg (Co_K h K2) (GE_RO K2.2.2 hE) (by rw [RO_j K2.2.2 33 (by decide) (by decide)]) (by rw [wayF_RO K2.2.2]) hj3
