/-! ===== the law: acts ===== -/
theorem GE_pass {s : Nat} {X : Int32} {ω σ : AH} (hG : GE s σ) (h : NW (fun j => j = 0) ω (uI σ 73 0 X)) (e : zI ω 33 0 = X) : GE s ω := by
  obtain ⟨h1, h2, h3, h4⟩ := h
  obtain ⟨h5, h6⟩ := h2 (by decide)
  have e' : ∀ a, a ≠ 73 → zI (uI σ 73 0 X) a = zI σ a := fun a ha => funext fun j => by rw [zI_uI, if_neg (by omega)]
  rw [e' 74 (by decide)] at h4
  rw [e' 47 (by decide)] at h5
  rw [e' 49 (by decide)] at h6
  rw [e' 33 (by decide)] at h1
  have ee : ∀ j, j ≠ 0 → zI ω 73 j = zI σ 73 j := fun j hj => by rw [h3, zI_uI, if_neg (by omega)]
  have e1 : zI ω 73 0 = X := by rw [h3, zI_uI, if_pos ⟨rfl, rfl⟩]
  unfold GE at hG ⊢
  rw [ee 1 (by decide), ee 2 (by decide), ee 3 (by decide), ee 4 (by decide), ee 5 (by decide), ee 6 (by decide), e1, h1 6 (by omega) (by decide), h1 16 (by omega) (by decide), h1 23 (by omega) (by decide), h1 36 (by omega) (by decide), h1 43 (by omega) (by decide), h4, h5, h6, e]
  exact ⟨rfl, hG.2⟩
theorem acts_173 {g : GP} {σ : AH} {s : Nat} {x y : Int32} (hg : gG g = none) (h : Co s σ) (hs : s < 90) (hE : GE s σ) {kd : Nat} : V g mL_acts (Em g mL_acts (fun ω rv => rv = some (.int 1) ∧ Co (s + 1) ω ∧ GE (s + 1) ω) NX) CT 413 2591 173 [(0, .ref 2), (1, .ref 73), (2, .ref 74), (3, .int x), (4, .int y), (5, .int (nI kd))] [] σ := by
  refine V_iconst (1 : Int32) dL_acts_173 (by decide) ?_
  refine V_iload dL_acts_174 rfl ?_
  refine V_iconst (2 : Int32) dL_acts_176 (by decide) ?_
  obtain ⟨j1, hj1, hl1, P1⟩ := P_low (g := g) (σ := σ) y (N := 2) (by decide) (by decide)
  refine V_cKs (as := [.int y, .int (2 : Int32)]) (k' := 413) (n' := 2591) P1 mw_L_low w_454 w_453 ar_L_low ⟨rfl, rfl, rfl, rfl, rfl⟩ dL_acts_177 (fun ω1 e1 => ?_)
  rw [e1]
  refine V_iadd dL_acts_180 ?_
  refine V_cast (st' := .int (nI (1 + j1)) :: []) rfl (by rw [show (1 : Int32) + nI j1 = nI (1 + j1) from nI_add 1 j1]) rfl ?_
  refine V_istore [(0, .ref 2), (1, .ref 73), (2, .ref 74), (3, .int x), (4, .int y), (5, .int (nI kd)), (6, .int (nI (1 + j1)))] dL_acts_181 rfl rfl ?_
  refine V_aload_n dL_acts_183 rfl ?_
  refine V_iconst (0 : Int32) dL_acts_184 (by decide) ?_
  refine V_dup2 dL_acts_185 rfl rfl ?_
  refine V_gald dL_acts_186 (by decide) (ga73 h.2.2.1).1 (vp_l (n := 7) (ga73 h.2.2.1).2 (vp_in_nI (n := 0) (by decide) (by decide))) ?_
  refine V_cast (st' := .int (zI σ 73 0) :: [.int (0 : Int32), .ref 73]) rfl rfl rfl ?_
  refine V_cast (st' := .int (zI σ 33 0) :: [.int (0 : Int32), .ref 73]) rfl (by rw [hE.1]) rfl ?_
  refine V_iload dL_acts_187 rfl ?_
  refine V_iadd dL_acts_189 ?_
  refine V_gast dL_acts_190 hg (by decide) (ga73 h.2.2.1).1 (vp_l (n := 7) (ga73 h.2.2.1).2 (vp_in_nI (n := 0) (by decide) (by decide))) ?_
  refine V_cast (σ' := uI σ 73 0 ((zI σ 33 0) + (nI (1 + j1)))) rfl rfl rfl ?_
  have C9 := Co_g (a := 73) (k := 0) (x := zI σ 33 0 + nI (1 + j1)) (Or.inl rfl) h
  refine V_aload_n dL_acts_191 rfl ?_
  refine V_iload dL_acts_192 rfl ?_
  refine V_cMh (as := [.ref 2, .int (nI (1 + j1))]) (k' := 412) (n' := 2585) (P_pass hg C9 (by omega) (by omega) (by omega)) mw_L_pass w_1042 w_1041 ar_L_pass ⟨rfl, rfl, rfl, rfl, rfl⟩ dL_acts_194 (fun ω2 y2 K2 => ?_)
  obtain ⟨ey, Cω, hN, e0⟩ := K2
  rw [zI_uI, if_neg (by omega)] at ey e0
  have Gω := GE_s (Nat.le_succ s) (GE_pass hE hN e0)
  refine V_cast (st' := .int (zI σ 33 0 + nI (1 + j1)) :: []) rfl (by rw [ey]) rfl ?_
  refine V_aload_n dL_acts_197 rfl ?_
  refine V_iconst (0 : Int32) dL_acts_198 (by decide) ?_
  refine V_gald dL_acts_199 (by decide) (ga73 Cω.2.2.1).1 (vp_l (n := 7) (ga73 Cω.2.2.1).2 (vp_in_nI (n := 0) (by decide) (by decide))) ?_
  refine V_cast (st' := .int (zI ω2 73 0) :: [.int (zI σ 33 0 + nI (1 + j1))]) rfl rfl rfl ?_
  refine V_cast (st' := .int (zI σ 33 0 + nI (1 + j1)) :: [.int (zI σ 33 0 + nI (1 + j1))]) rfl (by rw [hN.2.2.1, zI_uI, if_pos ⟨rfl, rfl⟩]) rfl ?_
  refine V_icmp_ne 215 dL_acts_200 rfl (fun z_ => absurd z_ (by simp)) (fun _ => ?_)
  refine V_aload_n dL_acts_203 rfl ?_
  refine V_aload_n dL_acts_204 rfl ?_
  refine V_cKs (as := [.ref 2, .ref 73]) (k' := 367) (n' := 2315) (s_L_balances hg Cω Gω (Co_Kp Cω)) mw_L_balances w_354 w_353 ar_L_balances ⟨rfl, rfl, rfl, rfl, rfl⟩ dL_acts_205 (fun ω3 K3 => ?_)
  refine V_if_eq 215 dL_acts_208 rfl (fun z_ => absurd z_ (by decide)) (fun _ => ?_)
  refine V_iconst (1 : Int32) dL_acts_211 (by decide) ?_
  refine V_goto 216 dL_acts_212 rfl ?_
  refine V_zret rfl dL_acts_216 (by decide) ?_
  exact ⟨rfl, Co_K Cω K3, GE_RO K3.2.2 Gω⟩
theorem acts_117 {g : GP} {σ : AH} {s : Nat} {x y : Int32} (hg : gG g = none) (h : Co s σ) (hs : s < 90) (hE : GE s σ) {kd nb : Nat} (hb : zI σ 33 36 = nI nb) (b240 : nb ≤ 240) (g3 : zI σ 73 3 = nI nb) : V g mL_acts (Em g mL_acts (fun ω rv => rv = some (.int 1) ∧ Co (s + 1) ω ∧ GE (s + 1) ω) NX) CT 413 2591 117 [(0, .ref 2), (1, .ref 73), (2, .ref 74), (3, .int x), (4, .int y), (5, .int (nI kd))] [] σ := by
  refine V_iload dL_acts_117 rfl ?_
  refine V_bipush (14 : Int32) dL_acts_119 (by decide) ?_
  refine V_icmp_ne 173 dL_acts_121 rfl (fun c121 => ?_) (fun c121 => ?_)
  · exact acts_173 hg h hs hE
  · refine V_aload_n dL_acts_124 rfl ?_
    refine V_iconst (3 : Int32) dL_acts_125 (by decide) ?_
    refine V_gald dL_acts_126 (by decide) (ga73 h.2.2.1).1 (vp_l (n := 7) (ga73 h.2.2.1).2 (vp_in_nI (n := 3) (by decide) (by decide))) ?_
    refine V_cast (st' := .int (zI σ 73 3) :: []) rfl rfl rfl ?_
    refine V_cast (st' := .int (nI nb) :: []) rfl (by rw [g3]) rfl ?_
    refine V_if_le 173 dL_acts_127 rfl (fun c127 => ?_) (fun c127 => ?_)
    · exact acts_173 hg h hs hE
    · refine V_aload_n dL_acts_130 rfl ?_
      refine V_aload_n dL_acts_131 rfl ?_
      refine V_iload dL_acts_132 rfl ?_
      refine V_aload_n dL_acts_134 rfl ?_
      refine V_iconst (3 : Int32) dL_acts_135 (by decide) ?_
      refine V_gald dL_acts_136 (by decide) (ga73 h.2.2.1).1 (vp_l (n := 7) (ga73 h.2.2.1).2 (vp_in_nI (n := 3) (by decide) (by decide))) ?_
      refine V_cast (st' := .int (zI σ 73 3) :: [.int y, .ref 73, .ref 2]) rfl rfl rfl ?_
      refine V_cast (st' := .int (nI nb) :: [.int y, .ref 73, .ref 2]) rfl (by rw [g3]) rfl ?_
      obtain ⟨j1, hj1, hl1, P1⟩ := P_low (g := g) (σ := σ) y (N := nb) (Nat.pos_of_ne_zero (fun z => c127 (by rw [z]; decide))) (by omega)
      refine V_cKs (as := [.int y, .int (nI nb)]) (k' := 413) (n' := 2591) P1 mw_L_low w_454 w_453 ar_L_low ⟨rfl, rfl, rfl, rfl, rfl⟩ dL_acts_137 (fun ω1 e1 => ?_)
      rw [e1]
      refine V_cKs (as := [.ref 2, .ref 73, .int (nI j1)]) (k' := 407) (n' := 2555) (s_L_isBill hg h hE hb b240 hj1 (Co_Kp h)) mw_L_isBill w_448 w_447 ar_L_isBill ⟨rfl, rfl, rfl, rfl, rfl⟩ dL_acts_140 (fun ω2 K2 => ?_)
      refine V_if_eq 171 dL_acts_143 rfl (fun z_ => absurd z_ (by decide)) (fun _ => ?_)
      refine V_aload_n dL_acts_146 rfl ?_
      refine V_aload_n dL_acts_147 rfl ?_
      refine V_iconst (2 : Int32) dL_acts_148 (by decide) ?_
      refine V_iload_n dL_acts_149 rfl ?_
      refine V_iconst (4 : Int32) dL_acts_150 (by decide) ?_
      refine V_ishr dL_acts_151 ?_
      refine V_iconst (3 : Int32) dL_acts_152 (by decide) ?_
      obtain ⟨j3, hj3, hl3, P3⟩ := P_low (g := g) (σ := ω2) (x >>> ((4 : Int32) &&& 31)) (N := 3) (by decide) (by decide)
      refine V_cKs (as := [.int (x >>> ((4 : Int32) &&& 31)), .int (3 : Int32)]) (k' := 407) (n' := 2555) P3 mw_L_low w_454 w_453 ar_L_low ⟨rfl, rfl, rfl, rfl, rfl⟩ dL_acts_153 (fun ω3 e3 => ?_)
      rw [e3]
      refine V_iadd dL_acts_156 ?_
      refine V_iload dL_acts_157 rfl ?_
      refine V_iconst (4 : Int32) dL_acts_159 (by decide) ?_
      refine V_ishr dL_acts_160 ?_
      refine V_cKs (as := [.ref 2, .ref 73, .int ((2 : Int32) + (nI j3)), .int (y >>> ((4 : Int32) &&& 31))]) (k' := 390) (n' := 2453) (s_L_clears hg (Co_K h K2) hs (GE_RO K2.2.2 hE)) mw_L_clears w_945 w_944 ar_L_clears ⟨rfl, rfl, rfl, rfl, rfl⟩ dL_acts_161 (fun ω4 K4 => ?_)
      obtain ⟨Cω4, Gω4⟩ := K4
      refine V_if_eq 171 dL_acts_164 rfl (fun z_ => absurd z_ (by decide)) (fun _ => ?_)
      refine V_iconst (1 : Int32) dL_acts_167 (by decide) ?_
      refine V_goto 172 dL_acts_168 rfl ?_
      refine V_zret rfl dL_acts_172 (by decide) ?_
      exact ⟨rfl, Cω4, Gω4⟩
theorem acts_78 {g : GP} {σ : AH} {s : Nat} {x y : Int32} (hg : gG g = none) (h : Co s σ) (hs : s < 90) (hE : GE s σ) {kd nb n : Nat} (hb : zI σ 33 36 = nI nb) (b240 : nb ≤ 240) (g3 : zI σ 73 3 = nI nb) (hn : zI σ 33 23 = nI n) (n30 : n ≤ 30) (g2 : zI σ 73 2 = nI n) : V g mL_acts (Em g mL_acts (fun ω rv => rv = some (.int 1) ∧ Co (s + 1) ω ∧ GE (s + 1) ω) NX) CT 413 2591 78 [(0, .ref 2), (1, .ref 73), (2, .ref 74), (3, .int x), (4, .int y), (5, .int (nI kd))] [] σ := by
  refine V_iload dL_acts_78 rfl ?_
  refine V_bipush (13 : Int32) dL_acts_80 (by decide) ?_
  refine V_icmp_ge 99 dL_acts_82 rfl (fun c82 => ?_) (fun c82 => ?_)
  · refine V_iload dL_acts_99 rfl ?_
    refine V_bipush (13 : Int32) dL_acts_101 (by decide) ?_
    refine V_icmp_ne 117 dL_acts_103 rfl (fun c103 => ?_) (fun c103 => ?_)
    · exact acts_117 hg h hs hE hb b240 g3
    · refine V_aload_n dL_acts_106 rfl ?_
      refine V_aload_n dL_acts_107 rfl ?_
      refine V_iload_n dL_acts_108 rfl ?_
      refine V_iconst (4 : Int32) dL_acts_109 (by decide) ?_
      refine V_ishr dL_acts_110 ?_
      refine V_iload dL_acts_111 rfl ?_
      refine V_cKs (as := [.ref 2, .ref 73, .int (x >>> ((4 : Int32) &&& 31)), .int y]) (k' := 396) (n' := 2489) (s_L_clears hg h hs hE) mw_L_clears w_945 w_944 ar_L_clears ⟨rfl, rfl, rfl, rfl, rfl⟩ dL_acts_113 (fun ω1 K1 => ?_)
      obtain ⟨Cω1, Gω1⟩ := K1
      refine V_zret rfl dL_acts_116 (by decide) ?_
      exact ⟨rfl, Cω1, Gω1⟩
  · refine V_aload_n dL_acts_85 rfl ?_
    refine V_iconst (2 : Int32) dL_acts_86 (by decide) ?_
    refine V_gald dL_acts_87 (by decide) (ga73 h.2.2.1).1 (vp_l (n := 7) (ga73 h.2.2.1).2 (vp_in_nI (n := 2) (by decide) (by decide))) ?_
    refine V_cast (st' := .int (zI σ 73 2) :: []) rfl rfl rfl ?_
    refine V_cast (st' := .int (nI n) :: []) rfl (by rw [g2]) rfl ?_
    refine V_if_le 99 dL_acts_88 rfl (fun c88 => ?_) (fun c88 => ?_)
    · refine V_iload dL_acts_99 rfl ?_
      refine V_bipush (13 : Int32) dL_acts_101 (by decide) ?_
      refine V_icmp_ne 117 dL_acts_103 rfl (fun c103 => ?_) (fun c103 => ?_)
      · exact acts_117 hg h hs hE hb b240 g3
      · refine V_aload_n dL_acts_106 rfl ?_
        refine V_aload_n dL_acts_107 rfl ?_
        refine V_iload_n dL_acts_108 rfl ?_
        refine V_iconst (4 : Int32) dL_acts_109 (by decide) ?_
        refine V_ishr dL_acts_110 ?_
        refine V_iload dL_acts_111 rfl ?_
        refine V_cKs (as := [.ref 2, .ref 73, .int (x >>> ((4 : Int32) &&& 31)), .int y]) (k' := 396) (n' := 2489) (s_L_clears hg h hs hE) mw_L_clears w_945 w_944 ar_L_clears ⟨rfl, rfl, rfl, rfl, rfl⟩ dL_acts_113 (fun ω2 K2 => ?_)
        obtain ⟨Cω2, Gω2⟩ := K2
        refine V_zret rfl dL_acts_116 (by decide) ?_
        exact ⟨rfl, Cω2, Gω2⟩
    · refine V_aload_n dL_acts_91 rfl ?_
      refine V_aload_n dL_acts_92 rfl ?_
      refine V_iload dL_acts_93 rfl ?_
      refine V_cKs (as := [.ref 2, .ref 73, .int y]) (k' := 322) (n' := 2045) (s_L_flies hg h hs hE hn n30 (Nat.pos_of_ne_zero (fun z => c88 (by rw [z]; decide)))) mw_L_flies w_889 w_888 ar_L_flies ⟨rfl, rfl, rfl, rfl, rfl⟩ dL_acts_95 (fun ω3 K3 => ?_)
      obtain ⟨Cω3, Gω3⟩ := K3
      refine V_zret rfl dL_acts_98 (by decide) ?_
      exact ⟨rfl, Cω3, Gω3⟩
theorem s_L_acts {g : GP} {σ : AH} {s : Nat} {x y : Int32} (hg : gG g = none) (h : Co s σ) (hs : s < 90) (hE : GE s σ) : Ct g mL_acts [.ref 2, .ref 73, .ref 74, .int x, .int y] σ (fun ω rv => rv = some (.int 1) ∧ Co (s + 1) ω ∧ GE (s + 1) ω) := by
  obtain ⟨nb, b240, hb, -⟩ := Rel_bl h.2.1
  obtain ⟨n, n30, hn, -⟩ := Rel_tk h.2.1
  have g3 : zI σ 73 3 = nI nb := hE.2.2.2.1.trans hb
  have g2 : zI σ 73 2 = nI n := hE.2.2.1.trans hn
  refine Ct_of (by decide +kernel) rfl rfl ?_
  refine V_iload_n dL_acts_0 rfl ?_
  refine V_bipush (16 : Int32) dL_acts_1 (by decide) ?_
  obtain ⟨j1, hj1, hl1, P1⟩ := P_low (g := g) (σ := σ) x (N := 16) (by decide) (by decide)
  refine V_cKs (as := [.int x, .int (16 : Int32)]) (k' := 413) (n' := 2591) P1 mw_L_low w_454 w_453 ar_L_low ⟨rfl, rfl, rfl, rfl, rfl⟩ dL_acts_3 (fun ω1 e1 => ?_)
  rw [e1]
  refine V_istore [(0, .ref 2), (1, .ref 73), (2, .ref 74), (3, .int x), (4, .int y), (5, .int (nI j1))] dL_acts_6 rfl rfl ?_
  refine V_iload dL_acts_8 rfl ?_
  refine V_iconst (4 : Int32) dL_acts_10 (by decide) ?_
  refine V_icmp_ge 25 dL_acts_11 rfl (fun c11 => ?_) (fun c11 => ?_)
  · refine V_iload dL_acts_25 rfl ?_
    refine V_bipush (8 : Int32) dL_acts_27 (by decide) ?_
    refine V_icmp_ge 44 dL_acts_29 rfl (fun c29 => ?_) (fun c29 => ?_)
    · refine V_iload dL_acts_44 rfl ?_
      refine V_bipush (10 : Int32) dL_acts_46 (by decide) ?_
      refine V_icmp_ge 78 dL_acts_48 rfl (fun c48 => ?_) (fun c48 => ?_)
      · exact acts_78 hg h hs hE hb b240 g3 hn n30 g2
      · refine V_aload_n dL_acts_51 rfl ?_
        refine V_aload_n dL_acts_52 rfl ?_
        refine V_cKs (as := [.ref 2, .ref 73]) (k' := 390) (n' := 2425) (s_L_isWay hg h hE) mw_L_isWay w_605 w_604 ar_L_isWay ⟨rfl, rfl, rfl, rfl, rfl⟩ dL_acts_53 (fun ω2 K2 => ?_)
        obtain ⟨Cω2, Gω2⟩ := K2
        have Cω2 := Co_s (Nat.le_succ s) (by omega) Cω2
        refine V_if_eq 76 dL_acts_56 rfl (fun z_ => absurd z_ (by decide)) (fun _ => ?_)
        refine V_aload_n dL_acts_59 rfl ?_
        refine V_aload_n dL_acts_60 rfl ?_
        refine V_iload_n dL_acts_61 rfl ?_
        refine V_iconst (4 : Int32) dL_acts_62 (by decide) ?_
        refine V_ishr dL_acts_63 ?_
        refine V_iload dL_acts_64 rfl ?_
        refine V_cKs (as := [.ref 2, .ref 73, .int (x >>> ((4 : Int32) &&& 31)), .int y]) (k' := 190) (n' := 1141) (s_L_sells hg Cω2 Gω2) mw_L_sells w_849 w_848 ar_L_sells ⟨rfl, rfl, rfl, rfl, rfl⟩ dL_acts_66 (fun ω3 K3 => ?_)
        obtain ⟨Cω3, Gω3⟩ := K3
        refine V_if_eq 76 dL_acts_69 rfl (fun z_ => absurd z_ (by decide)) (fun _ => ?_)
        refine V_iconst (1 : Int32) dL_acts_72 (by decide) ?_
        refine V_goto 77 dL_acts_73 rfl ?_
        refine V_zret rfl dL_acts_77 (by decide) ?_
        exact ⟨rfl, Cω3, Gω3⟩
    · refine V_aload_n dL_acts_32 rfl ?_
      refine V_aload_n dL_acts_33 rfl ?_
      refine V_aload_n dL_acts_34 rfl ?_
      refine V_iload_n dL_acts_35 rfl ?_
      refine V_iconst (4 : Int32) dL_acts_36 (by decide) ?_
      refine V_ishr dL_acts_37 ?_
      refine V_iload dL_acts_38 rfl ?_
      refine V_cKs (as := [.ref 2, .ref 73, .ref 74, .int (x >>> ((4 : Int32) &&& 31)), .int y]) (k' := 411) (n' := 2579) (s_L_travels hg h hE) mw_L_travels w_579 w_578 ar_L_travels ⟨rfl, rfl, rfl, rfl, rfl⟩ dL_acts_40 (fun ω4 K4 => ?_)
      obtain ⟨Cω4, Gω4⟩ := K4
      have Cω4 := Co_s (Nat.le_succ s) (by omega) Cω4
      have Gω4 := GE_s (Nat.le_succ s) Gω4
      refine V_zret rfl dL_acts_43 (by decide) ?_
      exact ⟨rfl, Cω4, Gω4⟩
  · refine V_aload_n dL_acts_14 rfl ?_
    refine V_aload_n dL_acts_15 rfl ?_
    refine V_iload_n dL_acts_16 rfl ?_
    refine V_iconst (4 : Int32) dL_acts_17 (by decide) ?_
    refine V_ishr dL_acts_18 ?_
    refine V_iload dL_acts_19 rfl ?_
    refine V_cKs (as := [.ref 2, .ref 73, .int (x >>> ((4 : Int32) &&& 31)), .int y]) (k' := 402) (n' := 2524) (s_L_tells hg h hE) mw_L_tells w_451 w_450 ar_L_tells ⟨rfl, rfl, rfl, rfl, rfl⟩ dL_acts_21 (fun ω5 K5 => ?_)
    obtain ⟨Cω5, Gω5⟩ := K5
    have Cω5 := Co_s (Nat.le_succ s) (by omega) Cω5
    have Gω5 := GE_s (Nat.le_succ s) Gω5
    refine V_zret rfl dL_acts_24 (by decide) ?_
    exact ⟨rfl, Cω5, Gω5⟩
