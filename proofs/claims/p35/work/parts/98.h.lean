/-! ===== the law: travels ===== -/
theorem ne_neg {k : Nat} (hk : k < 2 ^ 30) : ¬ nI k = -1000003 := fun q => by
  have := congrArg Int32.toInt q
  rw [nI_toInt (by omega)] at this
  change (k : Int) = -1000003 at this
  omega
theorem GE_leg {s L b D : Nat} {ω σ : AH} (hG : GE s σ) (hL : L < 8) (hb : b < 5) (h : NW (fun j => j = 16 ∨ j = 47) ω σ) (e : zI ω 33 16 = nI (L + 1)) (e47 : zI ω 47 L = nI b) (e49 : zI ω 49 L = nI D) : GE s (uI (uI (uI ω 73 1 (nI (L + 1))) 74 0 (nI b)) 74 1 (nI D)) := by
  obtain ⟨h1, h2, h3, h4⟩ := h
  have ee : ∀ j, j ≠ 1 → zI (uI (uI (uI ω 73 1 (nI (L + 1))) 74 0 (nI b)) 74 1 (nI D)) 73 j = zI σ 73 j := fun j hj => by rw [zI_uI, if_neg (by omega), zI_uI, if_neg (by omega), zI_uI, if_neg (by omega), h3]
  have e' : ∀ a, a ≠ 73 → a ≠ 74 → zI (uI (uI (uI ω 73 1 (nI (L + 1))) 74 0 (nI b)) 74 1 (nI D)) a = zI ω a := fun a ha hb => funext fun j => by rw [zI_uI, if_neg (by omega), zI_uI, if_neg (by omega), zI_uI, if_neg (by omega)]
  have e1 : zI (uI (uI (uI ω 73 1 (nI (L + 1))) 74 0 (nI b)) 74 1 (nI D)) 73 1 = nI (L + 1) := by rw [zI_uI, if_neg (by omega), zI_uI, if_neg (by omega), zI_uI, if_pos ⟨rfl, rfl⟩]
  have e40 : zI (uI (uI (uI ω 73 1 (nI (L + 1))) 74 0 (nI b)) 74 1 (nI D)) 74 0 = nI b := by rw [zI_uI, if_neg (by omega), zI_uI, if_pos ⟨rfl, rfl⟩]
  have e41 : zI (uI (uI (uI ω 73 1 (nI (L + 1))) 74 0 (nI b)) 74 1 (nI D)) 74 1 = nI D := by rw [zI_uI, if_pos ⟨rfl, rfl⟩]
  unfold GE at hG ⊢
  rw [ee 0 (by decide), ee 2 (by decide), ee 3 (by decide), ee 4 (by decide), ee 5 (by decide), ee 6 (by decide), e1, e40, e41, e' 33 (by decide) (by decide), e' 47 (by decide) (by decide), e' 49 (by decide) (by decide), h1 0 (by omega) (by decide), h1 6 (by omega) (by decide), h1 23 (by omega) (by decide), h1 36 (by omega) (by decide), h1 43 (by omega) (by decide), e]
  refine ⟨hG.1, rfl, hG.2.2.1, hG.2.2.2.1, hG.2.2.2.2.1, hG.2.2.2.2.2.1, hG.2.2.2.2.2.2.1, vp_in_nI hb (by decide), fun K hK eK => ?_⟩
  have := q_of (by omega) (by omega) eK
  have : K = L := by omega
  rw [this]
  exact ⟨e47.symm, e49.symm⟩
theorem travels_82n {g : GP} {σ : AH} {s : Nat} {x y : Int32} (hg : gG g = none) (h : Co s σ) (hE : GE s σ) {L a b D : Nat} (hL : zI σ 33 16 = nI L) (g1 : zI σ 73 1 = nI L) {ω : AH} (Kω : Kp ω σ) : V g mL_travels (Em g mL_travels (fun ω rv => rv = some (.int 1) ∧ Co s ω ∧ GE s ω) NX) CT 1 6 82 [(0, .ref 2), (1, .ref 73), (2, .ref 74), (3, .int x), (4, .int y), (5, .int (nI a)), (6, .int (nI b)), (7, .int (nI D)), (8, .int (-1000003 : Int32))] [] ω := by
  refine V_aload_n dL_travels_82 rfl ?_
  refine V_iconst (1 : Int32) dL_travels_83 (by decide) ?_
  refine V_gald dL_travels_84 (by decide) (ga73 Kω.2.1).1 (vp_l (n := 7) (ga73 Kω.2.1).2 (vp_in_nI (n := 1) (by decide) (by decide))) ?_
  refine V_cast (st' := .int (zI ω 73 1) :: []) rfl rfl rfl ?_
  refine V_cast (st' := .int (nI L) :: []) rfl (by rw [gk Kω.2.2 1, g1]) rfl ?_
  refine V_if_eq 104 dL_travels_85 rfl (fun cL => ?_) (fun cL => ?_)
  · refine V_iconst (1 : Int32) dL_travels_104 (by decide) ?_
    refine V_goto 109 dL_travels_105 rfl ?_
    refine V_istore [(0, .ref 2), (1, .ref 73), (2, .ref 74), (3, .int x), (4, .int y), (5, .int (nI a)), (6, .int (nI b)), (7, .int (nI D)), (8, .int (-1000003 : Int32)), (9, .int (1 : Int32))] dL_travels_109 rfl rfl ?_
    refine V_iload dL_travels_111 rfl ?_
    refine V_ldc (v := (-1000003 : Int32)) w_518 dL_travels_113 ?_
    refine V_icmp_ne 148 dL_travels_115 rfl (fun z_ => absurd z_ (by decide)) (fun _ => ?_)
    refine V_iload dL_travels_118 rfl ?_
    refine V_if_eq 142 dL_travels_120 rfl (fun z_ => absurd z_ (by decide)) (fun _ => ?_)
    refine V_aload_n dL_travels_123 rfl ?_
    refine V_iconst (1 : Int32) dL_travels_124 (by decide) ?_
    refine V_gald dL_travels_125 (by decide) (ga73 Kω.2.1).1 (vp_l (n := 7) (ga73 Kω.2.1).2 (vp_in_nI (n := 1) (by decide) (by decide))) ?_
    refine V_cast (st' := .int (zI ω 73 1) :: []) rfl rfl rfl ?_
    refine V_cast (st' := .int (nI L) :: []) rfl (by rw [gk Kω.2.2 1, g1]) rfl ?_
    refine V_bipush (8 : Int32) dL_travels_126 (by decide) ?_
    refine V_icmp_eq 142 dL_travels_128 rfl (fun c8 => ?_) (fun c8 => ?_)
    · refine V_iconst (1 : Int32) dL_travels_142 (by decide) ?_
      refine V_goto 147 dL_travels_143 rfl ?_
      refine V_zret rfl dL_travels_147 (by decide) ?_
      exact ⟨rfl, Co_K h Kω, GE_RO Kω.2.2 hE⟩
    · refine V_aload_n dL_travels_131 rfl ?_
      refine V_iconst (1 : Int32) dL_travels_132 (by decide) ?_
      refine V_cKh (as := [.ref 2, .int (1 : Int32)]) (k' := 0) (n' := 0) (P_of hg (by decide) Kω) mw_L_of w_376 w_375 ar_L_of ⟨rfl, rfl, rfl, rfl, rfl⟩ dL_travels_133 (fun ω1 K1 => ?_)
      refine V_cast (st' := .int (nI L) :: []) rfl (by rw [of1, hL]) rfl ?_
      refine V_aload_n dL_travels_136 rfl ?_
      refine V_iconst (1 : Int32) dL_travels_137 (by decide) ?_
      refine V_gald dL_travels_138 (by decide) (ga73 K1.2.1).1 (vp_l (n := 7) (ga73 K1.2.1).2 (vp_in_nI (n := 1) (by decide) (by decide))) ?_
      refine V_cast (st' := .int (zI ω1 73 1) :: [.int (nI L)]) rfl rfl rfl ?_
      refine V_cast (st' := .int (nI L) :: [.int (nI L)]) rfl (by rw [gk K1.2.2 1, g1]) rfl ?_
      refine V_icmp_ne 146 dL_travels_139 rfl (fun z_ => absurd z_ (by simp)) (fun _ => ?_)
      refine V_iconst (1 : Int32) dL_travels_142 (by decide) ?_
      refine V_goto 147 dL_travels_143 rfl ?_
      refine V_zret rfl dL_travels_147 (by decide) ?_
      exact ⟨rfl, Co_K h K1, GE_RO K1.2.2 hE⟩
  · refine V_iload dL_travels_88 rfl ?_
    refine V_aload_n dL_travels_90 rfl ?_
    refine V_iconst (0 : Int32) dL_travels_91 (by decide) ?_
    refine V_gald dL_travels_92 (by decide) (ga74 Kω.2.1).1 (vp_l (n := 2) (ga74 Kω.2.1).2 (vp_in_nI (n := 0) (by decide) (by decide))) ?_
    refine V_cast (st' := .int (zI ω 74 0) :: [.int (nI a)]) rfl rfl rfl ?_
    refine V_icmp_ne 108 dL_travels_93 rfl (fun ca => ?_) (fun ca => ?_)
    · refine V_iconst (0 : Int32) dL_travels_108 (by decide) ?_
      refine V_istore [(0, .ref 2), (1, .ref 73), (2, .ref 74), (3, .int x), (4, .int y), (5, .int (nI a)), (6, .int (nI b)), (7, .int (nI D)), (8, .int (-1000003 : Int32)), (9, .int (0 : Int32))] dL_travels_109 rfl rfl ?_
      refine V_iload dL_travels_111 rfl ?_
      refine V_ldc (v := (-1000003 : Int32)) w_518 dL_travels_113 ?_
      refine V_icmp_ne 148 dL_travels_115 rfl (fun z_ => absurd z_ (by decide)) (fun _ => ?_)
      refine V_iload dL_travels_118 rfl ?_
      refine V_if_eq 142 dL_travels_120 rfl (fun _ => ?_) (fun z_ => absurd (by decide) z_)
      refine V_iconst (1 : Int32) dL_travels_142 (by decide) ?_
      refine V_goto 147 dL_travels_143 rfl ?_
      refine V_zret rfl dL_travels_147 (by decide) ?_
      exact ⟨rfl, Co_K h Kω, GE_RO Kω.2.2 hE⟩
    · refine V_iload dL_travels_96 rfl ?_
      refine V_aload_n dL_travels_98 rfl ?_
      refine V_iconst (1 : Int32) dL_travels_99 (by decide) ?_
      refine V_gald dL_travels_100 (by decide) (ga74 Kω.2.1).1 (vp_l (n := 2) (ga74 Kω.2.1).2 (vp_in_nI (n := 1) (by decide) (by decide))) ?_
      refine V_cast (st' := .int (zI ω 74 1) :: [.int (nI D)]) rfl rfl rfl ?_
      refine V_icmp_lt 108 dL_travels_101 rfl (fun cd => ?_) (fun cd => ?_)
      · refine V_iconst (0 : Int32) dL_travels_108 (by decide) ?_
        refine V_istore [(0, .ref 2), (1, .ref 73), (2, .ref 74), (3, .int x), (4, .int y), (5, .int (nI a)), (6, .int (nI b)), (7, .int (nI D)), (8, .int (-1000003 : Int32)), (9, .int (0 : Int32))] dL_travels_109 rfl rfl ?_
        refine V_iload dL_travels_111 rfl ?_
        refine V_ldc (v := (-1000003 : Int32)) w_518 dL_travels_113 ?_
        refine V_icmp_ne 148 dL_travels_115 rfl (fun z_ => absurd z_ (by decide)) (fun _ => ?_)
        refine V_iload dL_travels_118 rfl ?_
        refine V_if_eq 142 dL_travels_120 rfl (fun _ => ?_) (fun z_ => absurd (by decide) z_)
        refine V_iconst (1 : Int32) dL_travels_142 (by decide) ?_
        refine V_goto 147 dL_travels_143 rfl ?_
        refine V_zret rfl dL_travels_147 (by decide) ?_
        exact ⟨rfl, Co_K h Kω, GE_RO Kω.2.2 hE⟩
      · refine V_iconst (1 : Int32) dL_travels_104 (by decide) ?_
        refine V_goto 109 dL_travels_105 rfl ?_
        refine V_istore [(0, .ref 2), (1, .ref 73), (2, .ref 74), (3, .int x), (4, .int y), (5, .int (nI a)), (6, .int (nI b)), (7, .int (nI D)), (8, .int (-1000003 : Int32)), (9, .int (1 : Int32))] dL_travels_109 rfl rfl ?_
        refine V_iload dL_travels_111 rfl ?_
        refine V_ldc (v := (-1000003 : Int32)) w_518 dL_travels_113 ?_
        refine V_icmp_ne 148 dL_travels_115 rfl (fun z_ => absurd z_ (by decide)) (fun _ => ?_)
        refine V_iload dL_travels_118 rfl ?_
        refine V_if_eq 142 dL_travels_120 rfl (fun z_ => absurd z_ (by decide)) (fun _ => ?_)
        refine V_aload_n dL_travels_123 rfl ?_
        refine V_iconst (1 : Int32) dL_travels_124 (by decide) ?_
        refine V_gald dL_travels_125 (by decide) (ga73 Kω.2.1).1 (vp_l (n := 7) (ga73 Kω.2.1).2 (vp_in_nI (n := 1) (by decide) (by decide))) ?_
        refine V_cast (st' := .int (zI ω 73 1) :: []) rfl rfl rfl ?_
        refine V_cast (st' := .int (nI L) :: []) rfl (by rw [gk Kω.2.2 1, g1]) rfl ?_
        refine V_bipush (8 : Int32) dL_travels_126 (by decide) ?_
        refine V_icmp_eq 142 dL_travels_128 rfl (fun c8 => ?_) (fun c8 => ?_)
        · refine V_iconst (1 : Int32) dL_travels_142 (by decide) ?_
          refine V_goto 147 dL_travels_143 rfl ?_
          refine V_zret rfl dL_travels_147 (by decide) ?_
          exact ⟨rfl, Co_K h Kω, GE_RO Kω.2.2 hE⟩
        · refine V_aload_n dL_travels_131 rfl ?_
          refine V_iconst (1 : Int32) dL_travels_132 (by decide) ?_
          refine V_cKh (as := [.ref 2, .int (1 : Int32)]) (k' := 0) (n' := 0) (P_of hg (by decide) Kω) mw_L_of w_376 w_375 ar_L_of ⟨rfl, rfl, rfl, rfl, rfl⟩ dL_travels_133 (fun ω2 K2 => ?_)
          refine V_cast (st' := .int (nI L) :: []) rfl (by rw [of1, hL]) rfl ?_
          refine V_aload_n dL_travels_136 rfl ?_
          refine V_iconst (1 : Int32) dL_travels_137 (by decide) ?_
          refine V_gald dL_travels_138 (by decide) (ga73 K2.2.1).1 (vp_l (n := 7) (ga73 K2.2.1).2 (vp_in_nI (n := 1) (by decide) (by decide))) ?_
          refine V_cast (st' := .int (zI ω2 73 1) :: [.int (nI L)]) rfl rfl rfl ?_
          refine V_cast (st' := .int (nI L) :: [.int (nI L)]) rfl (by rw [gk K2.2.2 1, g1]) rfl ?_
          refine V_icmp_ne 146 dL_travels_139 rfl (fun z_ => absurd z_ (by simp)) (fun _ => ?_)
          refine V_iconst (1 : Int32) dL_travels_142 (by decide) ?_
          refine V_goto 147 dL_travels_143 rfl ?_
          refine V_zret rfl dL_travels_147 (by decide) ?_
          exact ⟨rfl, Co_K h K2, GE_RO K2.2.2 hE⟩
theorem travels_82y {g : GP} {σ : AH} {s : Nat} {x y : Int32} (hg : gG g = none) (h : Co s σ) (hE : GE s σ) {L a b D : Nat} (hL8 : L < 8) (hb : b < 5) {ω : AH} (Cω : Co s ω) (hN : NW (fun j => j = 16 ∨ j = 47) ω σ) (n1 : zI ω 73 1 = nI L) (e16 : zI ω 33 16 = nI (L + 1)) (e47 : zI ω 47 L = nI b) (e49 : zI ω 49 L = nI D) (hf : ¬ nI L = 0 → zI ω 74 0 = nI a ∧ zI ω 74 1 = zI σ 49 (L - 1) ∧ ¬ nI D < zI σ 49 (L - 1)) : V g mL_travels (Em g mL_travels (fun ω rv => rv = some (.int 1) ∧ Co s ω ∧ GE s ω) NX) CT 1 6 82 [(0, .ref 2), (1, .ref 73), (2, .ref 74), (3, .int x), (4, .int y), (5, .int (nI a)), (6, .int (nI b)), (7, .int (nI D)), (8, .int (nI (L + 1)))] [] ω := by
  refine V_aload_n dL_travels_82 rfl ?_
  refine V_iconst (1 : Int32) dL_travels_83 (by decide) ?_
  refine V_gald dL_travels_84 (by decide) (ga73 Cω.2.2.1).1 (vp_l (n := 7) (ga73 Cω.2.2.1).2 (vp_in_nI (n := 1) (by decide) (by decide))) ?_
  refine V_cast (st' := .int (zI ω 73 1) :: []) rfl rfl rfl ?_
  refine V_cast (st' := .int (nI L) :: []) rfl (by rw [n1]) rfl ?_
  refine V_if_eq 104 dL_travels_85 rfl (fun cL => ?_) (fun cL => ?_)
  · refine V_iconst (1 : Int32) dL_travels_104 (by decide) ?_
    refine V_goto 109 dL_travels_105 rfl ?_
    refine V_istore [(0, .ref 2), (1, .ref 73), (2, .ref 74), (3, .int x), (4, .int y), (5, .int (nI a)), (6, .int (nI b)), (7, .int (nI D)), (8, .int (nI (L + 1))), (9, .int (1 : Int32))] dL_travels_109 rfl rfl ?_
    refine V_iload dL_travels_111 rfl ?_
    refine V_ldc (v := (-1000003 : Int32)) w_518 dL_travels_113 ?_
    refine V_icmp_ne 148 dL_travels_115 rfl (fun _ => ?_) (fun z_ => absurd z_ (ne_neg (by omega)))
    refine V_aload_n dL_travels_148 rfl ?_
    refine V_iconst (1 : Int32) dL_travels_149 (by decide) ?_
    refine V_dup2 dL_travels_150 rfl rfl ?_
    refine V_gald dL_travels_151 (by decide) (ga73 Cω.2.2.1).1 (vp_l (n := 7) (ga73 Cω.2.2.1).2 (vp_in_nI (n := 1) (by decide) (by decide))) ?_
    refine V_cast (st' := .int (zI ω 73 1) :: [.int (1 : Int32), .ref 73]) rfl rfl rfl ?_
    refine V_cast (st' := .int (nI L) :: [.int (1 : Int32), .ref 73]) rfl (by rw [n1]) rfl ?_
    refine V_iconst (1 : Int32) dL_travels_152 (by decide) ?_
    refine V_iadd dL_travels_153 ?_
    refine V_cast (st' := .int (nI (L + 1)) :: [.int (1 : Int32), .ref 73]) rfl (by rw [nI_1]) rfl ?_
    refine V_gast dL_travels_154 hg (by decide) (ga73 Cω.2.2.1).1 (vp_l (n := 7) (ga73 Cω.2.2.1).2 (vp_in_nI (n := 1) (by decide) (by decide))) ?_
    refine V_cast (σ' := uI ω 73 1 (nI (L + 1))) rfl rfl rfl ?_
    refine V_aload_n dL_travels_155 rfl ?_
    refine V_iconst (0 : Int32) dL_travels_156 (by decide) ?_
    refine V_iload dL_travels_157 rfl ?_
    refine V_gast dL_travels_159 hg (by decide) (ga74 (GA_g Cω.2.2.1)).1 (vp_l (n := 2) (ga74 (GA_g Cω.2.2.1)).2 (vp_in_nI (n := 0) (by decide) (by decide))) ?_
    refine V_cast (σ' := uI (uI ω 73 1 (nI (L + 1))) 74 0 (nI b)) rfl rfl rfl ?_
    refine V_aload_n dL_travels_160 rfl ?_
    refine V_iconst (1 : Int32) dL_travels_161 (by decide) ?_
    refine V_iload dL_travels_162 rfl ?_
    refine V_gast dL_travels_164 hg (by decide) (ga74 (GA_g (GA_g Cω.2.2.1))).1 (vp_l (n := 2) (ga74 (GA_g (GA_g Cω.2.2.1))).2 (vp_in_nI (n := 1) (by decide) (by decide))) ?_
    refine V_cast (σ' := uI (uI (uI ω 73 1 (nI (L + 1))) 74 0 (nI b)) 74 1 (nI D)) rfl rfl rfl ?_
    have C9 := Co_g (a := 74) (k := 1) (x := nI D) (Or.inr rfl) (Co_g (a := 74) (k := 0) (x := nI b) (Or.inr rfl) (Co_g (a := 73) (k := 1) (x := nI (L + 1)) (Or.inl rfl) Cω))
    have G9 := GE_leg hE hL8 hb hN e16 e47 e49
    have e1 : zI (uI (uI (uI ω 73 1 (nI (L + 1))) 74 0 (nI b)) 74 1 (nI D)) 73 1 = nI (L + 1) := by rw [zI_uI, if_neg (by omega), zI_uI, if_neg (by omega), zI_uI, if_pos ⟨rfl, rfl⟩]
    generalize uI (uI (uI ω 73 1 (nI (L + 1))) 74 0 (nI b)) 74 1 (nI D) = ω9 at C9 G9 e1 ⊢
    refine V_iload dL_travels_165 rfl ?_
    refine V_if_eq 182 dL_travels_167 rfl (fun z_ => absurd z_ (by decide)) (fun _ => ?_)
    refine V_iload dL_travels_170 rfl ?_
    refine V_aload_n dL_travels_172 rfl ?_
    refine V_iconst (1 : Int32) dL_travels_173 (by decide) ?_
    refine V_gald dL_travels_174 (by decide) (ga73 C9.2.2.1).1 (vp_l (n := 7) (ga73 C9.2.2.1).2 (vp_in_nI (n := 1) (by decide) (by decide))) ?_
    refine V_cast (st' := .int (zI ω9 73 1) :: [.int (nI (L + 1))]) rfl rfl rfl ?_
    refine V_cast (st' := .int (nI (L + 1)) :: [.int (nI (L + 1))]) rfl (by rw [e1]) rfl ?_
    refine V_icmp_ne 182 dL_travels_175 rfl (fun z_ => absurd z_ (by simp)) (fun _ => ?_)
    refine V_iconst (1 : Int32) dL_travels_178 (by decide) ?_
    refine V_goto 183 dL_travels_179 rfl ?_
    refine V_zret rfl dL_travels_183 (by decide) ?_
    exact ⟨rfl, C9, G9⟩
  · refine V_iload dL_travels_88 rfl ?_
    refine V_aload_n dL_travels_90 rfl ?_
    refine V_iconst (0 : Int32) dL_travels_91 (by decide) ?_
    refine V_gald dL_travels_92 (by decide) (ga74 Cω.2.2.1).1 (vp_l (n := 2) (ga74 Cω.2.2.1).2 (vp_in_nI (n := 0) (by decide) (by decide))) ?_
    refine V_cast (st' := .int (zI ω 74 0) :: [.int (nI a)]) rfl rfl rfl ?_
    refine V_cast (st' := .int (nI a) :: [.int (nI a)]) rfl (by rw [(hf cL).1]) rfl ?_
    refine V_icmp_ne 108 dL_travels_93 rfl (fun z_ => absurd z_ (by simp)) (fun _ => ?_)
    refine V_iload dL_travels_96 rfl ?_
    refine V_aload_n dL_travels_98 rfl ?_
    refine V_iconst (1 : Int32) dL_travels_99 (by decide) ?_
    refine V_gald dL_travels_100 (by decide) (ga74 Cω.2.2.1).1 (vp_l (n := 2) (ga74 Cω.2.2.1).2 (vp_in_nI (n := 1) (by decide) (by decide))) ?_
    refine V_cast (st' := .int (zI ω 74 1) :: [.int (nI D)]) rfl rfl rfl ?_
    refine V_cast (st' := .int (zI σ 49 (L - 1)) :: [.int (nI D)]) rfl (by rw [(hf cL).2.1]) rfl ?_
    refine V_icmp_lt 108 dL_travels_101 rfl (fun z_ => absurd z_ (hf cL).2.2) (fun _ => ?_)
    refine V_iconst (1 : Int32) dL_travels_104 (by decide) ?_
    refine V_goto 109 dL_travels_105 rfl ?_
    refine V_istore [(0, .ref 2), (1, .ref 73), (2, .ref 74), (3, .int x), (4, .int y), (5, .int (nI a)), (6, .int (nI b)), (7, .int (nI D)), (8, .int (nI (L + 1))), (9, .int (1 : Int32))] dL_travels_109 rfl rfl ?_
    refine V_iload dL_travels_111 rfl ?_
    refine V_ldc (v := (-1000003 : Int32)) w_518 dL_travels_113 ?_
    refine V_icmp_ne 148 dL_travels_115 rfl (fun _ => ?_) (fun z_ => absurd z_ (ne_neg (by omega)))
    refine V_aload_n dL_travels_148 rfl ?_
    refine V_iconst (1 : Int32) dL_travels_149 (by decide) ?_
    refine V_dup2 dL_travels_150 rfl rfl ?_
    refine V_gald dL_travels_151 (by decide) (ga73 Cω.2.2.1).1 (vp_l (n := 7) (ga73 Cω.2.2.1).2 (vp_in_nI (n := 1) (by decide) (by decide))) ?_
    refine V_cast (st' := .int (zI ω 73 1) :: [.int (1 : Int32), .ref 73]) rfl rfl rfl ?_
    refine V_cast (st' := .int (nI L) :: [.int (1 : Int32), .ref 73]) rfl (by rw [n1]) rfl ?_
    refine V_iconst (1 : Int32) dL_travels_152 (by decide) ?_
    refine V_iadd dL_travels_153 ?_
    refine V_cast (st' := .int (nI (L + 1)) :: [.int (1 : Int32), .ref 73]) rfl (by rw [nI_1]) rfl ?_
    refine V_gast dL_travels_154 hg (by decide) (ga73 Cω.2.2.1).1 (vp_l (n := 7) (ga73 Cω.2.2.1).2 (vp_in_nI (n := 1) (by decide) (by decide))) ?_
    refine V_cast (σ' := uI ω 73 1 (nI (L + 1))) rfl rfl rfl ?_
    refine V_aload_n dL_travels_155 rfl ?_
    refine V_iconst (0 : Int32) dL_travels_156 (by decide) ?_
    refine V_iload dL_travels_157 rfl ?_
    refine V_gast dL_travels_159 hg (by decide) (ga74 (GA_g Cω.2.2.1)).1 (vp_l (n := 2) (ga74 (GA_g Cω.2.2.1)).2 (vp_in_nI (n := 0) (by decide) (by decide))) ?_
    refine V_cast (σ' := uI (uI ω 73 1 (nI (L + 1))) 74 0 (nI b)) rfl rfl rfl ?_
    refine V_aload_n dL_travels_160 rfl ?_
    refine V_iconst (1 : Int32) dL_travels_161 (by decide) ?_
    refine V_iload dL_travels_162 rfl ?_
    refine V_gast dL_travels_164 hg (by decide) (ga74 (GA_g (GA_g Cω.2.2.1))).1 (vp_l (n := 2) (ga74 (GA_g (GA_g Cω.2.2.1))).2 (vp_in_nI (n := 1) (by decide) (by decide))) ?_
    refine V_cast (σ' := uI (uI (uI ω 73 1 (nI (L + 1))) 74 0 (nI b)) 74 1 (nI D)) rfl rfl rfl ?_
    have C9 := Co_g (a := 74) (k := 1) (x := nI D) (Or.inr rfl) (Co_g (a := 74) (k := 0) (x := nI b) (Or.inr rfl) (Co_g (a := 73) (k := 1) (x := nI (L + 1)) (Or.inl rfl) Cω))
    have G9 := GE_leg hE hL8 hb hN e16 e47 e49
    have e1 : zI (uI (uI (uI ω 73 1 (nI (L + 1))) 74 0 (nI b)) 74 1 (nI D)) 73 1 = nI (L + 1) := by rw [zI_uI, if_neg (by omega), zI_uI, if_neg (by omega), zI_uI, if_pos ⟨rfl, rfl⟩]
    generalize uI (uI (uI ω 73 1 (nI (L + 1))) 74 0 (nI b)) 74 1 (nI D) = ω9 at C9 G9 e1 ⊢
    refine V_iload dL_travels_165 rfl ?_
    refine V_if_eq 182 dL_travels_167 rfl (fun z_ => absurd z_ (by decide)) (fun _ => ?_)
    refine V_iload dL_travels_170 rfl ?_
    refine V_aload_n dL_travels_172 rfl ?_
    refine V_iconst (1 : Int32) dL_travels_173 (by decide) ?_
    refine V_gald dL_travels_174 (by decide) (ga73 C9.2.2.1).1 (vp_l (n := 7) (ga73 C9.2.2.1).2 (vp_in_nI (n := 1) (by decide) (by decide))) ?_
    refine V_cast (st' := .int (zI ω9 73 1) :: [.int (nI (L + 1))]) rfl rfl rfl ?_
    refine V_cast (st' := .int (nI (L + 1)) :: [.int (nI (L + 1))]) rfl (by rw [e1]) rfl ?_
    refine V_icmp_ne 182 dL_travels_175 rfl (fun z_ => absurd z_ (by simp)) (fun _ => ?_)
    refine V_iconst (1 : Int32) dL_travels_178 (by decide) ?_
    refine V_goto 183 dL_travels_179 rfl ?_
    refine V_zret rfl dL_travels_183 (by decide) ?_
    exact ⟨rfl, C9, G9⟩
theorem travels_29 {g : GP} {σ : AH} {s : Nat} {x y : Int32} (hg : gG g = none) (h : Co s σ) (hE : GE s σ) {L a td : Nat} (hL : zI σ 33 16 = nI L) (L8 : L ≤ 8) (g1 : zI σ 73 1 = nI L) (ha : a < 5) (g0 : zI σ 73 0 = zI σ 33 0) (etd : zI σ 33 0 = nI td) (htd : td ≤ 200) : V g mL_travels (Em g mL_travels (fun ω rv => rv = some (.int 1) ∧ Co s ω ∧ GE s ω) NX) CT 2 12 29 [(0, .ref 2), (1, .ref 73), (2, .ref 74), (3, .int x), (4, .int y), (5, .int (nI a))] [] σ := by
  refine V_iload dL_travels_29 rfl ?_
  refine V_iconst (1 : Int32) dL_travels_31 (by decide) ?_
  refine V_iadd dL_travels_32 ?_
  refine V_cast (st' := .int (nI (a + 1)) :: []) rfl (by rw [nI_1]) rfl ?_
  refine V_iload dL_travels_33 rfl ?_
  refine V_iconst (3 : Int32) dL_travels_35 (by decide) ?_
  refine V_ishr dL_travels_36 ?_
  refine V_iconst (4 : Int32) dL_travels_37 (by decide) ?_
  obtain ⟨j1, hj1, hl1, P1⟩ := P_low (g := g) (σ := σ) (y >>> ((3 : Int32) &&& 31)) (N := 4) (by decide) (by decide)
  refine V_cKs (as := [.int (y >>> ((3 : Int32) &&& 31)), .int (4 : Int32)]) (k' := 2) (n' := 12) P1 mw_L_low w_454 w_453 ar_L_low ⟨rfl, rfl, rfl, rfl, rfl⟩ dL_travels_38 (fun ω1 e1 => ?_)
  rw [e1]
  refine V_iadd dL_travels_41 ?_
  refine V_cast (st' := .int (nI (a + 1 + j1)) :: []) rfl (by rw [nI_add]) rfl ?_
  refine V_iconst (5 : Int32) dL_travels_42 (by decide) ?_
  refine V_irem dL_travels_43 (by decide) ?_
  refine V_cast (st' := .int (nI ((a + 1 + j1) % 5)) :: []) rfl (by rw [show nI (a + 1 + j1) - nI (a + 1 + j1) / (5 : Int32) * (5 : Int32) = nI ((a + 1 + j1) % 5) from rem_n (by decide) (by decide) (by omega)]) rfl ?_
  refine V_istore [(0, .ref 2), (1, .ref 73), (2, .ref 74), (3, .int x), (4, .int y), (5, .int (nI a)), (6, .int (nI ((a + 1 + j1) % 5)))] dL_travels_44 rfl rfl ?_
  refine V_aload_n dL_travels_46 rfl ?_
  refine V_iconst (0 : Int32) dL_travels_47 (by decide) ?_
  refine V_gald dL_travels_48 (by decide) (ga73 h.2.2.1).1 (vp_l (n := 7) (ga73 h.2.2.1).2 (vp_in_nI (n := 0) (by decide) (by decide))) ?_
  refine V_cast (st' := .int (zI σ 73 0) :: []) rfl rfl rfl ?_
  refine V_cast (st' := .int (nI td) :: []) rfl (by rw [g0, etd]) rfl ?_
  refine V_iload dL_travels_49 rfl ?_
  refine V_bipush (6 : Int32) dL_travels_51 (by decide) ?_
  refine V_ishr dL_travels_53 ?_
  refine V_iconst (3 : Int32) dL_travels_54 (by decide) ?_
  obtain ⟨j2, hj2, hl2, P2⟩ := P_low (g := g) (σ := σ) (y >>> ((6 : Int32) &&& 31)) (N := 3) (by decide) (by decide)
  refine V_cKs (as := [.int (y >>> ((6 : Int32) &&& 31)), .int (3 : Int32)]) (k' := 2) (n' := 12) P2 mw_L_low w_454 w_453 ar_L_low ⟨rfl, rfl, rfl, rfl, rfl⟩ dL_travels_55 (fun ω2 e2 => ?_)
  rw [e2]
  refine V_iadd dL_travels_58 ?_
  refine V_cast (st' := .int (nI (td + j2)) :: []) rfl (by rw [nI_add]) rfl ?_
  refine V_istore [(0, .ref 2), (1, .ref 73), (2, .ref 74), (3, .int x), (4, .int y), (5, .int (nI a)), (6, .int (nI ((a + 1 + j1) % 5))), (7, .int (nI (td + j2)))] dL_travels_59 rfl rfl ?_
  refine V_aload_n dL_travels_61 rfl ?_
  refine V_iload dL_travels_62 rfl ?_
  refine V_iload dL_travels_64 rfl ?_
  refine V_iload dL_travels_66 rfl ?_
  refine V_bipush (9 : Int32) dL_travels_68 (by decide) ?_
  refine V_ishr dL_travels_70 ?_
  refine V_iconst (5 : Int32) dL_travels_71 (by decide) ?_
  obtain ⟨j3, hj3, hl3, P3⟩ := P_low (g := g) (σ := σ) (y >>> ((9 : Int32) &&& 31)) (N := 5) (by decide) (by decide)
  refine V_cKs (as := [.int (y >>> ((9 : Int32) &&& 31)), .int (5 : Int32)]) (k' := 2) (n' := 12) P3 mw_L_low w_454 w_453 ar_L_low ⟨rfl, rfl, rfl, rfl, rfl⟩ dL_travels_72 (fun ω3 e3 => ?_)
  rw [e3]
  refine V_iload dL_travels_75 rfl ?_
  refine V_cMh (as := [.ref 2, .int (nI a), .int (nI ((a + 1 + j1) % 5)), .int (nI j3), .int (nI (td + j2))]) (k' := 1) (n' := 6) (P_leg hg h (pl_lt (by omega)) (pl_lt (by omega)) (ca_lt (by omega)) (c_ne (by omega) (by omega) (by omega)) (by rw [etd]; exact (show isWi (nI (td + j2)) (nI td) (nI 999) from wi_n (by omega) (by omega) (by decide)))) mw_L_leg w_582 w_581 ar_L_leg ⟨rfl, rfl, rfl, rfl, rfl⟩ dL_travels_77 (fun ω4 y4 K4 => ?_)
  refine V_istore [(0, .ref 2), (1, .ref 73), (2, .ref 74), (3, .int x), (4, .int y), (5, .int (nI a)), (6, .int (nI ((a + 1 + j1) % 5))), (7, .int (nI (td + j2))), (8, .int y4)] dL_travels_80 rfl rfl ?_
  rcases K4 with ⟨rfl, Kω⟩ | ⟨L', l1, l2, rfl, Cω, hN, l5, l6, l7, l8⟩
  · exact travels_82n hg h hE hL g1 Kω
  · have eL : L' = L := q_of (by omega) (by omega) (l2.symm.trans hL)
    subst eL
    refine travels_82y hg h hE l1 (by omega) Cω hN (by rw [hN.2.2.1]; exact g1) l5 l6 l7 (fun q => ?_)
    rcases l8 with l8 | ⟨l8, l9⟩
    · subst l8; exact absurd rfl q
    · by_cases L0 : L' = 0
      · subst L0; exact absurd rfl q
      · obtain ⟨z1, z2⟩ := hE.2.2.2.2.2.2.2.2 (L' - 1) (by omega) (by rw [hL, show L' - 1 + 1 = L' by omega])
        rw [hN.2.2.2]
        exact ⟨z1.trans l8, z2, l9⟩
theorem s_L_travels {g : GP} {σ : AH} {s : Nat} {x y : Int32} (hg : gG g = none) (h : Co s σ) (hE : GE s σ) : Ct g mL_travels [.ref 2, .ref 73, .ref 74, .int x, .int y] σ (fun ω rv => rv = some (.int 1) ∧ Co s ω ∧ GE s ω) := by
  obtain ⟨L, L8, hL⟩ := Rel_L h.2.1
  have g1 : zI σ 73 1 = nI L := hE.2.1.trans hL
  obtain ⟨ea, hea, e74⟩ := vp_in_of (n := 5) hE.2.2.2.2.2.2.2.1 (by decide)
  have hd := h.2.2.2.2.2.2.2.2.2
  have hs := h.1
  obtain ⟨td, etd, -, htd⟩ := bt_nI (x := zI σ 33 0) (l := 0) (h := 200) ⟨hd.1, by have := hd.2; omega⟩ (by decide) (by decide)
  refine Ct_of (by decide +kernel) rfl rfl ?_
  refine V_aload_n dL_travels_0 rfl ?_
  refine V_iconst (1 : Int32) dL_travels_1 (by decide) ?_
  refine V_gald dL_travels_2 (by decide) (ga73 h.2.2.1).1 (vp_l (n := 7) (ga73 h.2.2.1).2 (vp_in_nI (n := 1) (by decide) (by decide))) ?_
  refine V_cast (st' := .int (zI σ 73 1) :: []) rfl rfl rfl ?_
  refine V_cast (st' := .int (nI L) :: []) rfl (by rw [g1]) rfl ?_
  refine V_if_eq 15 dL_travels_3 rfl (fun c3 => ?_) (fun c3 => ?_)
  · refine V_iload dL_travels_15 rfl ?_
    refine V_iconst (5 : Int32) dL_travels_17 (by decide) ?_
    obtain ⟨j1, hj1, hl1, P1⟩ := P_low (g := g) (σ := σ) y (N := 5) (by decide) (by decide)
    refine V_cKs (as := [.int y, .int (5 : Int32)]) (k' := 2) (n' := 12) P1 mw_L_low w_454 w_453 ar_L_low ⟨rfl, rfl, rfl, rfl, rfl⟩ dL_travels_18 (fun ω1 e1 => ?_)
    rw [e1]
    refine V_goto 27 dL_travels_21 rfl ?_
    refine V_istore [(0, .ref 2), (1, .ref 73), (2, .ref 74), (3, .int x), (4, .int y), (5, .int (nI j1))] dL_travels_27 rfl rfl ?_
    exact travels_29 hg h hE hL L8 g1 hj1 hE.1 etd (by omega)
  · refine V_iload_n dL_travels_6 rfl ?_
    refine V_bipush (8 : Int32) dL_travels_7 (by decide) ?_
    obtain ⟨j2, hj2, hl2, P2⟩ := P_low (g := g) (σ := σ) x (N := 8) (by decide) (by decide)
    refine V_cKs (as := [.int x, .int (8 : Int32)]) (k' := 2) (n' := 12) P2 mw_L_low w_454 w_453 ar_L_low ⟨rfl, rfl, rfl, rfl, rfl⟩ dL_travels_9 (fun ω2 e2 => ?_)
    rw [e2]
    refine V_if_ne 24 dL_travels_12 rfl (fun c12 => ?_) (fun c12 => ?_)
    · refine V_aload_n dL_travels_24 rfl ?_
      refine V_iconst (0 : Int32) dL_travels_25 (by decide) ?_
      refine V_gald dL_travels_26 (by decide) (ga74 h.2.2.1).1 (vp_l (n := 2) (ga74 h.2.2.1).2 (vp_in_nI (n := 0) (by decide) (by decide))) ?_
      refine V_cast (st' := .int (zI σ 74 0) :: []) rfl rfl rfl ?_
      refine V_cast (st' := .int (nI ea) :: []) rfl (by rw [e74]) rfl ?_
      refine V_istore [(0, .ref 2), (1, .ref 73), (2, .ref 74), (3, .int x), (4, .int y), (5, .int (nI ea))] dL_travels_27 rfl rfl ?_
      exact travels_29 hg h hE hL L8 g1 hea hE.1 etd (by omega)
    · refine V_iload dL_travels_15 rfl ?_
      refine V_iconst (5 : Int32) dL_travels_17 (by decide) ?_
      obtain ⟨j3, hj3, hl3, P3⟩ := P_low (g := g) (σ := σ) y (N := 5) (by decide) (by decide)
      refine V_cKs (as := [.int y, .int (5 : Int32)]) (k' := 2) (n' := 12) P3 mw_L_low w_454 w_453 ar_L_low ⟨rfl, rfl, rfl, rfl, rfl⟩ dL_travels_18 (fun ω3 e3 => ?_)
      rw [e3]
      refine V_goto 27 dL_travels_21 rfl ?_
      refine V_istore [(0, .ref 2), (1, .ref 73), (2, .ref 74), (3, .int x), (4, .int y), (5, .int (nI j3))] dL_travels_27 rfl rfl ?_
      exact travels_29 hg h hE hL L8 g1 hj3 hE.1 etd (by omega)
