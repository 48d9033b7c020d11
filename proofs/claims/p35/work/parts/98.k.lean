/-! ===== the law: clears ===== -/
theorem GE_clear {s q : Nat} {ω σ : AH} (hG : GE s σ) (h : NW (fun j => j = 43) ω (uI σ 73 4 (nI (q + 1)))) (e : zI ω 33 43 = nI (q + 1)) : GE s ω := by
  obtain ⟨h1, h2, h3, h4⟩ := h
  obtain ⟨h5, h6⟩ := h2 (by decide)
  have e' : ∀ a, a ≠ 73 → zI (uI σ 73 4 (nI (q + 1))) a = zI σ a := fun a ha => funext fun j => by rw [zI_uI, if_neg (by omega)]
  rw [e' 74 (by decide)] at h4
  rw [e' 47 (by decide)] at h5
  rw [e' 49 (by decide)] at h6
  rw [e' 33 (by decide)] at h1
  have ee : ∀ j, j ≠ 4 → zI ω 73 j = zI σ 73 j := fun j hj => by rw [h3, zI_uI, if_neg (by omega)]
  have e1 : zI ω 73 4 = nI (q + 1) := by rw [h3, zI_uI, if_pos ⟨rfl, rfl⟩]
  unfold GE at hG ⊢
  rw [ee 0 (by decide), ee 1 (by decide), ee 2 (by decide), ee 3 (by decide), ee 5 (by decide), ee 6 (by decide), e1, h1 0 (by omega) (by decide), h1 6 (by omega) (by decide), h1 16 (by omega) (by decide), h1 23 (by omega) (by decide), h1 36 (by omega) (by decide), h4, h5, h6, e]
  exact ⟨hG.1, hG.2.1, hG.2.2.1, hG.2.2.2.1, rfl, hG.2.2.2.2.2⟩
theorem clears_13 {g : GP} {σ : AH} {s : Nat} {x y : Int32} (hg : gG g = none) (h : Co s σ) (hs : s < 90) (hE : GE s σ) {c q : Nat} (hq : zI σ 33 43 = nI q) : V g mL_clears (Em g mL_clears (fun ω rv => rv = some (.int 1) ∧ Co (s + 1) ω ∧ GE (s + 1) ω) NX) CT 17 102 13 [(0, .ref 2), (1, .ref 73), (2, .int x), (3, .int y), (4, .int (nI c))] [] σ := by
  refine V_aload_n dL_clears_13 rfl ?_
  refine V_iconst (4 : Int32) dL_clears_14 (by decide) ?_
  refine V_dup2 dL_clears_15 rfl rfl ?_
  refine V_gald dL_clears_16 (by decide) (ga73 h.2.2.1).1 (vp_l (n := 7) (ga73 h.2.2.1).2 (vp_in_nI (n := 4) (by decide) (by decide))) ?_
  refine V_cast (st' := .int (zI σ 73 4) :: [.int (4 : Int32), .ref 73]) rfl rfl rfl ?_
  refine V_cast (st' := .int (nI q) :: [.int (4 : Int32), .ref 73]) rfl (by rw [hE.2.2.2.2.1, hq]) rfl ?_
  refine V_iconst (1 : Int32) dL_clears_17 (by decide) ?_
  refine V_iadd dL_clears_18 ?_
  refine V_cast (st' := .int (nI (q + 1)) :: [.int (4 : Int32), .ref 73]) rfl (by rw [nI_1]) rfl ?_
  refine V_gast dL_clears_19 hg (by decide) (ga73 h.2.2.1).1 (vp_l (n := 7) (ga73 h.2.2.1).2 (vp_in_nI (n := 4) (by decide) (by decide))) ?_
  refine V_cast (σ' := uI σ 73 4 (nI (q + 1))) rfl rfl rfl ?_
  have C9 := Co_g (a := 73) (k := 4) (x := nI (q + 1)) (Or.inl rfl) h
  refine V_aload_n dL_clears_20 rfl ?_
  refine V_cMv (as := []) (k' := 17) (n' := 102) (P_clear hg C9 (by omega)) mw_X11_clear ko_X11 rfl w_948 w_949 w_947 ar_X11_clear ⟨rfl, rfl, rfl, rfl, rfl⟩ dL_clears_21 (by decide) (shk C9.2.1.2.1 2 rfl) (fun ω1 y1 K1 => ?_)
  obtain ⟨y0, Cω, hN, e43⟩ := K1
  rw [zI_uI, if_neg (by omega), hq, nI_1] at e43
  have G9 := GE_s (Nat.le_succ s) (GE_clear hE hN e43)
  refine V_lconst (0 : Int64) dL_clears_24 (by decide) ?_
  refine V_lcmp dL_clears_25 ?_
  refine V_if_lt 33 dL_clears_26 rfl (fun z_ => absurd z_ (lg_nn y0)) (fun _ => ?_)
  refine V_iconst (1 : Int32) dL_clears_29 (by decide) ?_
  refine V_goto 34 dL_clears_30 rfl ?_
  refine V_zret rfl dL_clears_34 (by decide) ?_
  exact ⟨rfl, Cω, G9⟩
theorem clears_96t {g : GP} {σ : AH} {s : Nat} {x y : Int32} (hg : gG g = none) (h : Co s σ) (hs : s < 90) (hE : GE s σ) {c d nb : Nat} {v r : Int32} (hd : d < 5) (b240 : nb ≤ 240) (hv : v = 0 ∨ v = 1) {ω : AH} (Cω : Co s ω) (hN : NW N0 ω σ) (e68 : zI ω 68 d = v) (hr : bt r 0 (nb : Int)) (hz : (v = 0 ∨ ¬ zI σ 68 d = 0) → r = 0) (g3 : zI ω 73 3 = nI nb) (hw : ¬ zI σ 68 d = 0) : V g mL_clears (Em g mL_clears (fun ω rv => rv = some (.int 1) ∧ Co (s + 1) ω ∧ GE (s + 1) ω) NX) CT 15 90 96 [(0, .ref 2), (1, .ref 73), (2, .int x), (3, .int y), (4, .int (nI c)), (5, .int (nI d)), (6, .int v), (7, .int (1 : Int32)), (8, .int r)] [] ω := by
  have hvv : (if v = 0 then (0 : Int32) else 1) = v := by rcases hv with rfl | rfl <;> rfl
  refine V_iload dL_clears_96 rfl ?_
  refine V_if_lt 151 dL_clears_98 rfl (fun z_ => absurd z_ (fun z => by rw [Int32.lt_iff_toInt_lt, zero_toInt] at z; have := hr.1; omega)) (fun _ => ?_)
  refine V_iload dL_clears_101 rfl ?_
  refine V_aload_n dL_clears_103 rfl ?_
  refine V_iconst (3 : Int32) dL_clears_104 (by decide) ?_
  refine V_gald dL_clears_105 (by decide) (ga73 Cω.2.2.1).1 (vp_l (n := 7) (ga73 Cω.2.2.1).2 (vp_in_nI (n := 3) (by decide) (by decide))) ?_
  refine V_cast (st' := .int (zI ω 73 3) :: [.int r]) rfl rfl rfl ?_
  refine V_cast (st' := .int (nI nb) :: [.int r]) rfl (by rw [g3]) rfl ?_
  refine V_icmp_gt 151 dL_clears_106 rfl (fun z_ => absurd z_ (fun z => by have z := Int32.lt_iff_toInt_lt.mp z; rw [nI_toInt (by omega)] at z; have := hr.2; omega)) (fun _ => ?_)
  refine V_iload dL_clears_109 rfl ?_
  refine V_if_ne 119 dL_clears_111 rfl (fun _ => ?_) (fun z_ => absurd z_ (by decide))
  refine V_iload dL_clears_119 rfl ?_
  refine V_if_ne 151 dL_clears_121 rfl (fun z_ => absurd z_ (fun z => z (hz (Or.inr hw)))) (fun _ => ?_)
  refine V_aload_n dL_clears_124 rfl ?_
  refine V_iconst (5 : Int32) dL_clears_125 (by decide) ?_
  refine V_cKh (as := [.ref 2, .int (5 : Int32)]) (k' := 14) (n' := 84) (P_of hg (by decide) (Co_Kp Cω)) mw_L_of w_376 w_375 ar_L_of ⟨rfl, rfl, rfl, rfl, rfl⟩ dL_clears_126 (fun ω1 K1 => ?_)
  refine V_iload dL_clears_129 rfl ?_
  refine V_ishr dL_clears_131 ?_
  refine V_iconst (1 : Int32) dL_clears_132 (by decide) ?_
  refine V_iand dL_clears_133 ?_
  refine V_cast (st' := .int v :: []) rfl (by rw [show (ofV ω 5 >>> (nI d &&& 31)) &&& (1 : Int32) = v from ((df_bits (σ := ω)).2 d hd).trans (by rw [e68]; exact hvv)]) rfl ?_
  refine V_iload dL_clears_134 rfl ?_
  refine V_if_eq 143 dL_clears_136 rfl (fun c136 => ?_) (fun c136 => ?_)
  · refine V_iconst (0 : Int32) dL_clears_143 (by decide) ?_
    refine V_icmp_ne 151 dL_clears_144 rfl (fun z_ => absurd z_ (fun z => z c136)) (fun _ => ?_)
    refine V_iconst (1 : Int32) dL_clears_147 (by decide) ?_
    refine V_goto 152 dL_clears_148 rfl ?_
    refine V_zret rfl dL_clears_152 (by decide) ?_
    exact ⟨rfl, Co_s (Nat.le_succ s) (by omega) (Co_K Cω K1), GE_s (Nat.le_succ s) (GE_RO K1.2.2 (GE_NW hN hE))⟩
  · refine V_iconst (1 : Int32) dL_clears_139 (by decide) ?_
    refine V_goto 144 dL_clears_140 rfl ?_
    refine V_icmp_ne 151 dL_clears_144 rfl (fun z_ => absurd z_ (fun z => z (hv.resolve_left c136))) (fun _ => ?_)
    refine V_iconst (1 : Int32) dL_clears_147 (by decide) ?_
    refine V_goto 152 dL_clears_148 rfl ?_
    refine V_zret rfl dL_clears_152 (by decide) ?_
    exact ⟨rfl, Co_s (Nat.le_succ s) (by omega) (Co_K Cω K1), GE_s (Nat.le_succ s) (GE_RO K1.2.2 (GE_NW hN hE))⟩
theorem clears_96f {g : GP} {σ : AH} {s : Nat} {x y : Int32} (hg : gG g = none) (h : Co s σ) (hs : s < 90) (hE : GE s σ) {c d nb : Nat} {v r : Int32} (hd : d < 5) (b240 : nb ≤ 240) (hv : v = 0 ∨ v = 1) {ω : AH} (Cω : Co s ω) (hN : NW N0 ω σ) (e68 : zI ω 68 d = v) (hr : bt r 0 (nb : Int)) (hz : (v = 0 ∨ ¬ zI σ 68 d = 0) → r = 0) (g3 : zI ω 73 3 = nI nb) : V g mL_clears (Em g mL_clears (fun ω rv => rv = some (.int 1) ∧ Co (s + 1) ω ∧ GE (s + 1) ω) NX) CT 15 90 96 [(0, .ref 2), (1, .ref 73), (2, .int x), (3, .int y), (4, .int (nI c)), (5, .int (nI d)), (6, .int v), (7, .int (0 : Int32)), (8, .int r)] [] ω := by
  have hvv : (if v = 0 then (0 : Int32) else 1) = v := by rcases hv with rfl | rfl <;> rfl
  refine V_iload dL_clears_96 rfl ?_
  refine V_if_lt 151 dL_clears_98 rfl (fun z_ => absurd z_ (fun z => by rw [Int32.lt_iff_toInt_lt, zero_toInt] at z; have := hr.1; omega)) (fun _ => ?_)
  refine V_iload dL_clears_101 rfl ?_
  refine V_aload_n dL_clears_103 rfl ?_
  refine V_iconst (3 : Int32) dL_clears_104 (by decide) ?_
  refine V_gald dL_clears_105 (by decide) (ga73 Cω.2.2.1).1 (vp_l (n := 7) (ga73 Cω.2.2.1).2 (vp_in_nI (n := 3) (by decide) (by decide))) ?_
  refine V_cast (st' := .int (zI ω 73 3) :: [.int r]) rfl rfl rfl ?_
  refine V_cast (st' := .int (nI nb) :: [.int r]) rfl (by rw [g3]) rfl ?_
  refine V_icmp_gt 151 dL_clears_106 rfl (fun z_ => absurd z_ (fun z => by have z := Int32.lt_iff_toInt_lt.mp z; rw [nI_toInt (by omega)] at z; have := hr.2; omega)) (fun _ => ?_)
  refine V_iload dL_clears_109 rfl ?_
  refine V_if_ne 119 dL_clears_111 rfl (fun z_ => absurd z_ (by decide)) (fun _ => ?_)
  refine V_iload dL_clears_114 rfl ?_
  refine V_if_ne 124 dL_clears_116 rfl (fun c116 => ?_) (fun c116 => ?_)
  · refine V_aload_n dL_clears_124 rfl ?_
    refine V_iconst (5 : Int32) dL_clears_125 (by decide) ?_
    refine V_cKh (as := [.ref 2, .int (5 : Int32)]) (k' := 14) (n' := 84) (P_of hg (by decide) (Co_Kp Cω)) mw_L_of w_376 w_375 ar_L_of ⟨rfl, rfl, rfl, rfl, rfl⟩ dL_clears_126 (fun ω1 K1 => ?_)
    refine V_iload dL_clears_129 rfl ?_
    refine V_ishr dL_clears_131 ?_
    refine V_iconst (1 : Int32) dL_clears_132 (by decide) ?_
    refine V_iand dL_clears_133 ?_
    refine V_cast (st' := .int v :: []) rfl (by rw [show (ofV ω 5 >>> (nI d &&& 31)) &&& (1 : Int32) = v from ((df_bits (σ := ω)).2 d hd).trans (by rw [e68]; exact hvv)]) rfl ?_
    refine V_iload dL_clears_134 rfl ?_
    refine V_if_eq 143 dL_clears_136 rfl (fun c136 => ?_) (fun c136 => ?_)
    · refine V_iconst (0 : Int32) dL_clears_143 (by decide) ?_
      refine V_icmp_ne 151 dL_clears_144 rfl (fun z_ => absurd z_ (fun z => z c136)) (fun _ => ?_)
      refine V_iconst (1 : Int32) dL_clears_147 (by decide) ?_
      refine V_goto 152 dL_clears_148 rfl ?_
      refine V_zret rfl dL_clears_152 (by decide) ?_
      exact ⟨rfl, Co_s (Nat.le_succ s) (by omega) (Co_K Cω K1), GE_s (Nat.le_succ s) (GE_RO K1.2.2 (GE_NW hN hE))⟩
    · refine V_iconst (1 : Int32) dL_clears_139 (by decide) ?_
      refine V_goto 144 dL_clears_140 rfl ?_
      refine V_icmp_ne 151 dL_clears_144 rfl (fun z_ => absurd z_ (fun z => z (hv.resolve_left c136))) (fun _ => ?_)
      refine V_iconst (1 : Int32) dL_clears_147 (by decide) ?_
      refine V_goto 152 dL_clears_148 rfl ?_
      refine V_zret rfl dL_clears_152 (by decide) ?_
      exact ⟨rfl, Co_s (Nat.le_succ s) (by omega) (Co_K Cω K1), GE_s (Nat.le_succ s) (GE_RO K1.2.2 (GE_NW hN hE))⟩
  · refine V_iload dL_clears_119 rfl ?_
    refine V_if_ne 151 dL_clears_121 rfl (fun z_ => absurd z_ (fun z => z (hz (Or.inl c116)))) (fun _ => ?_)
    refine V_aload_n dL_clears_124 rfl ?_
    refine V_iconst (5 : Int32) dL_clears_125 (by decide) ?_
    refine V_cKh (as := [.ref 2, .int (5 : Int32)]) (k' := 14) (n' := 84) (P_of hg (by decide) (Co_Kp Cω)) mw_L_of w_376 w_375 ar_L_of ⟨rfl, rfl, rfl, rfl, rfl⟩ dL_clears_126 (fun ω2 K2 => ?_)
    refine V_iload dL_clears_129 rfl ?_
    refine V_ishr dL_clears_131 ?_
    refine V_iconst (1 : Int32) dL_clears_132 (by decide) ?_
    refine V_iand dL_clears_133 ?_
    refine V_cast (st' := .int v :: []) rfl (by rw [show (ofV ω 5 >>> (nI d &&& 31)) &&& (1 : Int32) = v from ((df_bits (σ := ω)).2 d hd).trans (by rw [e68]; exact hvv)]) rfl ?_
    refine V_iload dL_clears_134 rfl ?_
    refine V_if_eq 143 dL_clears_136 rfl (fun c136 => ?_) (fun c136 => ?_)
    · refine V_iconst (0 : Int32) dL_clears_143 (by decide) ?_
      refine V_icmp_ne 151 dL_clears_144 rfl (fun z_ => absurd z_ (fun z => z c136)) (fun _ => ?_)
      refine V_iconst (1 : Int32) dL_clears_147 (by decide) ?_
      refine V_goto 152 dL_clears_148 rfl ?_
      refine V_zret rfl dL_clears_152 (by decide) ?_
      exact ⟨rfl, Co_s (Nat.le_succ s) (by omega) (Co_K Cω K2), GE_s (Nat.le_succ s) (GE_RO K2.2.2 (GE_NW hN hE))⟩
    · refine V_iconst (1 : Int32) dL_clears_139 (by decide) ?_
      refine V_goto 144 dL_clears_140 rfl ?_
      refine V_icmp_ne 151 dL_clears_144 rfl (fun z_ => absurd z_ (fun z => z (hv.resolve_left c136))) (fun _ => ?_)
      refine V_iconst (1 : Int32) dL_clears_147 (by decide) ?_
      refine V_goto 152 dL_clears_148 rfl ?_
      refine V_zret rfl dL_clears_152 (by decide) ?_
      exact ⟨rfl, Co_s (Nat.le_succ s) (by omega) (Co_K Cω K2), GE_s (Nat.le_succ s) (GE_RO K2.2.2 (GE_NW hN hE))⟩
theorem NW_K0 {C : Nat → Prop} {ω τ σ : AH} (hO : RO τ σ) (h : NW C ω τ) : NW C ω σ := by
  obtain ⟨h1, h2, h3, h4⟩ := h
  obtain ⟨r1, r2, r3, r4⟩ := NW_RO hO
  exact ⟨fun j hj hc => (h1 j hj hc).trans (r1 j hj id), fun hc => ⟨(h2 hc).1.trans (r2 id).1, (h2 hc).2.trans (r2 id).2⟩, h3.trans r3, h4.trans r4⟩
theorem clears_65 {g : GP} {σ : AH} {s : Nat} {x y : Int32} (hg : gG g = none) (h : Co s σ) (hs : s < 90) (hE : GE s σ) {c d nb : Nat} {v : Int32} (hd : d < 5) (hb : zI σ 33 36 = nI nb) (b240 : nb ≤ 240) (hv : v = 0 ∨ v = 1) (g3 : zI σ 73 3 = nI nb) : V g mL_clears (Em g mL_clears (fun ω rv => rv = some (.int 1) ∧ Co (s + 1) ω ∧ GE (s + 1) ω) NX) CT 17 102 65 [(0, .ref 2), (1, .ref 73), (2, .int x), (3, .int y), (4, .int (nI c)), (5, .int (nI d)), (6, .int v)] [] σ := by
  refine V_aload_n dL_clears_65 rfl ?_
  refine V_iconst (5 : Int32) dL_clears_66 (by decide) ?_
  refine V_cKh (as := [.ref 2, .int (5 : Int32)]) (k' := 16) (n' := 96) (P_of hg (by decide) (Co_Kp h)) mw_L_of w_376 w_375 ar_L_of ⟨rfl, rfl, rfl, rfl, rfl⟩ dL_clears_67 (fun ω1 K1 => ?_)
  refine V_iload dL_clears_70 rfl ?_
  refine V_ishr dL_clears_72 ?_
  refine V_iconst (1 : Int32) dL_clears_73 (by decide) ?_
  refine V_iand dL_clears_74 ?_
  refine V_cast (st' := .int (if zI σ 68 d = 0 then (0 : Int32) else 1) :: []) rfl (by rw [show (ofV σ 5 >>> (nI d &&& 31)) &&& (1 : Int32) = _ from (df_bits (σ := σ)).2 d hd]) rfl ?_
  refine V_iconst (1 : Int32) dL_clears_75 (by decide) ?_
  refine V_icmp_ne 83 dL_clears_76 rfl (fun c76 => ?_) (fun c76 => ?_)
  · refine V_iconst (0 : Int32) dL_clears_83 (by decide) ?_
    refine V_istore [(0, .ref 2), (1, .ref 73), (2, .int x), (3, .int y), (4, .int (nI c)), (5, .int (nI d)), (6, .int v), (7, .int (0 : Int32))] dL_clears_84 rfl rfl ?_
    refine V_aload_n dL_clears_86 rfl ?_
    refine V_iload dL_clears_87 rfl ?_
    refine V_iload dL_clears_89 rfl ?_
    refine V_cMh (as := [.ref 2, .int (nI d), .int v]) (k' := 15) (n' := 90) (P_fails hg (Co_K h K1) hd hv ((RO_3 K1.2.2 36 (by decide)).trans hb) b240) mw_L_fails w_997 w_996 ar_L_fails ⟨rfl, rfl, rfl, rfl, rfl⟩ dL_clears_91 (fun ω2 y2 K2 => ?_)
    refine V_istore [(0, .ref 2), (1, .ref 73), (2, .int x), (3, .int y), (4, .int (nI c)), (5, .int (nI d)), (6, .int v), (7, .int (0 : Int32)), (8, .int y2)] dL_clears_94 rfl rfl ?_
    obtain ⟨hr, hz, Cω, hN, e68⟩ := K2
    rw [RO_f K1.2.2 68 (by decide) (by decide)] at hz
    exact clears_96f hg h hs hE hd b240 hv Cω (NW_K0 K1.2.2 hN) e68 hr hz ((congrFun hN.2.2.1 3).trans ((gk K1.2.2 3).trans g3))
  · refine V_iconst (1 : Int32) dL_clears_79 (by decide) ?_
    refine V_goto 84 dL_clears_80 rfl ?_
    refine V_istore [(0, .ref 2), (1, .ref 73), (2, .int x), (3, .int y), (4, .int (nI c)), (5, .int (nI d)), (6, .int v), (7, .int (1 : Int32))] dL_clears_84 rfl rfl ?_
    refine V_aload_n dL_clears_86 rfl ?_
    refine V_iload dL_clears_87 rfl ?_
    refine V_iload dL_clears_89 rfl ?_
    refine V_cMh (as := [.ref 2, .int (nI d), .int v]) (k' := 15) (n' := 90) (P_fails hg (Co_K h K1) hd hv ((RO_3 K1.2.2 36 (by decide)).trans hb) b240) mw_L_fails w_997 w_996 ar_L_fails ⟨rfl, rfl, rfl, rfl, rfl⟩ dL_clears_91 (fun ω3 y3 K3 => ?_)
    refine V_istore [(0, .ref 2), (1, .ref 73), (2, .int x), (3, .int y), (4, .int (nI c)), (5, .int (nI d)), (6, .int v), (7, .int (1 : Int32)), (8, .int y3)] dL_clears_94 rfl rfl ?_
    obtain ⟨hr, hz, Cω, hN, e68⟩ := K3
    rw [RO_f K1.2.2 68 (by decide) (by decide)] at hz
    exact clears_96t hg h hs hE hd b240 hv Cω (NW_K0 K1.2.2 hN) e68 hr hz ((congrFun hN.2.2.1 3).trans ((gk K1.2.2 3).trans g3)) (fun z => absurd ((if_pos z).symm.trans c76 : (0 : Int32) = 1) (by decide))
theorem clears_217n {g : GP} {σ : AH} {s : Nat} {x y : Int32} (hg : gG g = none) (h : Co s σ) (hs : s < 90) (hE : GE s σ) {c b nb : Nat} {st : Int32} (hn : zI σ 33 36 = nI nb) (b240 : nb ≤ 240) (hb : b < nb) (e62 : zI σ 62 b = st) (hr : ¬ (zI σ 62 b = 1 ∧ ¬ zI σ 67 b < zI σ 33 43 - 1)) {ω : AH} (Kω : Kp ω σ) : V g mL_clears (Em g mL_clears (fun ω rv => rv = some (.int 1) ∧ Co (s + 1) ω ∧ GE (s + 1) ω) NX) CT 15 90 217 [(0, .ref 2), (1, .ref 73), (2, .int x), (3, .int y), (4, .int (nI c)), (5, .int (nI b)), (6, .int st), (7, .int (-1000003 : Int32))] [] ω := by
  refine V_iload dL_clears_217 rfl ?_
  refine V_iconst (1 : Int32) dL_clears_219 (by decide) ?_
  refine V_icmp_ne 242 dL_clears_220 rfl (fun c220 => ?_) (fun c220 => ?_)
  · refine V_iconst (0 : Int32) dL_clears_242 (by decide) ?_
    refine V_istore [(0, .ref 2), (1, .ref 73), (2, .int x), (3, .int y), (4, .int (nI c)), (5, .int (nI b)), (6, .int st), (7, .int (-1000003 : Int32)), (8, .int (0 : Int32))] dL_clears_243 rfl rfl ?_
    refine V_iload dL_clears_245 rfl ?_
    refine V_if_eq 281 dL_clears_247 rfl (fun _ => ?_) (fun z_ => absurd (by decide) z_)
    refine V_iload dL_clears_281 rfl ?_
    refine V_ldc (v := (-1000003 : Int32)) w_518 dL_clears_283 ?_
    refine V_icmp_ne 292 dL_clears_285 rfl (fun z_ => absurd z_ (by decide)) (fun _ => ?_)
    refine V_iconst (1 : Int32) dL_clears_288 (by decide) ?_
    refine V_goto 293 dL_clears_289 rfl ?_
    refine V_zret rfl dL_clears_293 (by decide) ?_
    exact ⟨rfl, Co_s (Nat.le_succ s) (by omega) (Co_K h Kω), GE_s (Nat.le_succ s) (GE_RO Kω.2.2 hE)⟩
  · refine V_aload_n dL_clears_223 rfl ?_
    refine V_iload dL_clears_224 rfl ?_
    refine V_iconst (5 : Int32) dL_clears_226 (by decide) ?_
    refine V_cKh (as := [.ref 2, .int (nI b), .int (5 : Int32)]) (k' := 14) (n' := 84) (P_bl hg hn b240 hb (by decide) Kω) mw_L_ofBill w_439 w_438 ar_L_ofBill ⟨rfl, rfl, rfl, rfl, rfl⟩ dL_clears_227 (fun ω1 K1 => ?_)
    refine V_cast (st' := .int (zI σ 67 b) :: []) rfl (by rw [bl5]) rfl ?_
    refine V_aload_n dL_clears_230 rfl ?_
    refine V_iconst (4 : Int32) dL_clears_231 (by decide) ?_
    refine V_gald dL_clears_232 (by decide) (ga73 K1.2.1).1 (vp_l (n := 7) (ga73 K1.2.1).2 (vp_in_nI (n := 4) (by decide) (by decide))) ?_
    refine V_cast (st' := .int (zI ω1 73 4) :: [.int (zI σ 67 b)]) rfl rfl rfl ?_
    refine V_cast (st' := .int (zI σ 33 43) :: [.int (zI σ 67 b)]) rfl (by rw [gk K1.2.2 4, hE.2.2.2.2.1]) rfl ?_
    refine V_iconst (1 : Int32) dL_clears_233 (by decide) ?_
    refine V_isub dL_clears_234 ?_
    refine V_icmp_lt 242 dL_clears_235 rfl (fun c235 => ?_) (fun c235 => ?_)
    · refine V_iconst (0 : Int32) dL_clears_242 (by decide) ?_
      refine V_istore [(0, .ref 2), (1, .ref 73), (2, .int x), (3, .int y), (4, .int (nI c)), (5, .int (nI b)), (6, .int st), (7, .int (-1000003 : Int32)), (8, .int (0 : Int32))] dL_clears_243 rfl rfl ?_
      refine V_iload dL_clears_245 rfl ?_
      refine V_if_eq 281 dL_clears_247 rfl (fun _ => ?_) (fun z_ => absurd (by decide) z_)
      refine V_iload dL_clears_281 rfl ?_
      refine V_ldc (v := (-1000003 : Int32)) w_518 dL_clears_283 ?_
      refine V_icmp_ne 292 dL_clears_285 rfl (fun z_ => absurd z_ (by decide)) (fun _ => ?_)
      refine V_iconst (1 : Int32) dL_clears_288 (by decide) ?_
      refine V_goto 293 dL_clears_289 rfl ?_
      refine V_zret rfl dL_clears_293 (by decide) ?_
      exact ⟨rfl, Co_s (Nat.le_succ s) (by omega) (Co_K h K1), GE_s (Nat.le_succ s) (GE_RO K1.2.2 hE)⟩
    · exact absurd ⟨e62.trans c220, c235⟩ hr
theorem clears_217y {g : GP} {ω : AH} {s : Nat} {x y : Int32} (hg : gG g = none) (Cω : Co s ω) (hs : s < 90) (Gω : GE s ω) {c b nb : Nat} (hn : zI ω 33 36 = nI nb) (b240 : nb ≤ 240) (hb : b < nb) (e62 : zI ω 62 b = 2) (hz : ¬ zI ω 67 b < zI ω 33 43 - 1) (g4 : zI ω 73 4 = zI ω 33 43) : V g mL_clears (Em g mL_clears (fun ω rv => rv = some (.int 1) ∧ Co (s + 1) ω ∧ GE (s + 1) ω) NX) CT 15 90 217 [(0, .ref 2), (1, .ref 73), (2, .int x), (3, .int y), (4, .int (nI c)), (5, .int (nI b)), (6, .int (1 : Int32)), (7, .int (zI ω 66 b))] [] ω := by
  refine V_iload dL_clears_217 rfl ?_
  refine V_iconst (1 : Int32) dL_clears_219 (by decide) ?_
  refine V_icmp_ne 242 dL_clears_220 rfl (fun z_ => absurd z_ (by decide)) (fun _ => ?_)
  refine V_aload_n dL_clears_223 rfl ?_
  refine V_iload dL_clears_224 rfl ?_
  refine V_iconst (5 : Int32) dL_clears_226 (by decide) ?_
  refine V_cKh (as := [.ref 2, .int (nI b), .int (5 : Int32)]) (k' := 14) (n' := 84) (P_bl hg hn b240 hb (by decide) (Co_Kp Cω)) mw_L_ofBill w_439 w_438 ar_L_ofBill ⟨rfl, rfl, rfl, rfl, rfl⟩ dL_clears_227 (fun ω1 K1 => ?_)
  refine V_cast (st' := .int (zI ω 67 b) :: []) rfl (by rw [bl5]) rfl ?_
  refine V_aload_n dL_clears_230 rfl ?_
  refine V_iconst (4 : Int32) dL_clears_231 (by decide) ?_
  refine V_gald dL_clears_232 (by decide) (ga73 K1.2.1).1 (vp_l (n := 7) (ga73 K1.2.1).2 (vp_in_nI (n := 4) (by decide) (by decide))) ?_
  refine V_cast (st' := .int (zI ω1 73 4) :: [.int (zI ω 67 b)]) rfl rfl rfl ?_
  refine V_cast (st' := .int (zI ω 33 43) :: [.int (zI ω 67 b)]) rfl (by rw [gk K1.2.2 4, g4]) rfl ?_
  refine V_iconst (1 : Int32) dL_clears_233 (by decide) ?_
  refine V_isub dL_clears_234 ?_
  refine V_icmp_lt 242 dL_clears_235 rfl (fun z_ => absurd z_ hz) (fun _ => ?_)
  refine V_iconst (1 : Int32) dL_clears_238 (by decide) ?_
  refine V_goto 243 dL_clears_239 rfl ?_
  refine V_istore [(0, .ref 2), (1, .ref 73), (2, .int x), (3, .int y), (4, .int (nI c)), (5, .int (nI b)), (6, .int (1 : Int32)), (7, .int (zI ω 66 b)), (8, .int (1 : Int32))] dL_clears_243 rfl rfl ?_
  refine V_iload dL_clears_245 rfl ?_
  refine V_if_eq 281 dL_clears_247 rfl (fun z_ => absurd z_ (by decide)) (fun _ => ?_)
  refine V_iload dL_clears_250 rfl ?_
  refine V_aload_n dL_clears_252 rfl ?_
  refine V_iload dL_clears_253 rfl ?_
  refine V_iconst (4 : Int32) dL_clears_255 (by decide) ?_
  refine V_cKh (as := [.ref 2, .int (nI b), .int (4 : Int32)]) (k' := 13) (n' := 78) (P_bl hg hn b240 hb (by decide) K1) mw_L_ofBill w_439 w_438 ar_L_ofBill ⟨rfl, rfl, rfl, rfl, rfl⟩ dL_clears_256 (fun ω2 K2 => ?_)
  refine V_cast (st' := .int (zI ω 66 b) :: [.int (zI ω 66 b)]) rfl (by rw [bl4]) rfl ?_
  refine V_icmp_ne 277 dL_clears_259 rfl (fun z_ => absurd z_ (by simp)) (fun _ => ?_)
  refine V_aload_n dL_clears_262 rfl ?_
  refine V_iload dL_clears_263 rfl ?_
  refine V_iconst (0 : Int32) dL_clears_265 (by decide) ?_
  refine V_cKh (as := [.ref 2, .int (nI b), .int (0 : Int32)]) (k' := 12) (n' := 72) (P_bl hg hn b240 hb (by decide) K2) mw_L_ofBill w_439 w_438 ar_L_ofBill ⟨rfl, rfl, rfl, rfl, rfl⟩ dL_clears_266 (fun ω3 K3 => ?_)
  refine V_cast (st' := .int (2 : Int32) :: []) rfl (by rw [bl0, e62]) rfl ?_
  refine V_iconst (2 : Int32) dL_clears_269 (by decide) ?_
  refine V_icmp_ne 277 dL_clears_270 rfl (fun z_ => absurd z_ (by decide)) (fun _ => ?_)
  refine V_iconst (1 : Int32) dL_clears_273 (by decide) ?_
  refine V_goto 293 dL_clears_274 rfl ?_
  refine V_zret rfl dL_clears_293 (by decide) ?_
  exact ⟨rfl, Co_s (Nat.le_succ s) (by omega) (Co_K Cω K3), GE_s (Nat.le_succ s) (GE_RO K3.2.2 Gω)⟩
theorem clears_300n {g : GP} {σ : AH} {s : Nat} {x y : Int32} (hg : gG g = none) (h : Co s σ) (hs : s < 90) (hE : GE s σ) {c b nb : Nat} {st : Int32} (hn : zI σ 33 36 = nI nb) (b240 : nb ≤ 240) (hb : b < nb) (e62 : zI σ 62 b = st) (hr : ¬ st = 3) {ω : AH} (Kω : Kp ω σ) : V g mL_clears (Em g mL_clears (fun ω rv => rv = some (.int 1) ∧ Co (s + 1) ω ∧ GE (s + 1) ω) NX) CT 15 90 300 [(0, .ref 2), (1, .ref 73), (2, .int x), (3, .int y), (4, .int (nI c)), (5, .int (nI b)), (6, .int st)] [.int (-1000003)] ω := by
  refine V_iload dL_clears_300 rfl ?_
  refine V_iconst (3 : Int32) dL_clears_302 (by decide) ?_
  refine V_icmp_ne 310 dL_clears_303 rfl (fun _ => ?_) (fun z_ => absurd z_ hr)
  refine V_ldc (v := (-1000003 : Int32)) w_518 dL_clears_310 ?_
  refine V_icmp_ne 329 dL_clears_312 rfl (fun z_ => absurd z_ (by decide)) (fun _ => ?_)
  refine V_aload_n dL_clears_315 rfl ?_
  refine V_aload_n dL_clears_316 rfl ?_
  refine V_iload dL_clears_317 rfl ?_
  refine V_cKs (as := [.ref 2, .ref 73, .int (nI b)]) (k' := 9) (n' := 54) (s_L_isBill hg h hE hn b240 hb Kω) mw_L_isBill w_448 w_447 ar_L_isBill ⟨rfl, rfl, rfl, rfl, rfl⟩ dL_clears_319 (fun ω1 K1 => ?_)
  refine V_if_eq 329 dL_clears_322 rfl (fun z_ => absurd z_ (by decide)) (fun _ => ?_)
  refine V_iconst (1 : Int32) dL_clears_325 (by decide) ?_
  refine V_goto 330 dL_clears_326 rfl ?_
  refine V_zret rfl dL_clears_330 (by decide) ?_
  exact ⟨rfl, Co_s (Nat.le_succ s) (by omega) (Co_K h K1), GE_s (Nat.le_succ s) (GE_RO K1.2.2 hE)⟩
theorem clears_300y {g : GP} {ω : AH} {s : Nat} {x y : Int32} (hg : gG g = none) (Cω : Co s ω) (hs : s < 90) (Gω : GE s ω) {c b nb : Nat} (hn : zI ω 33 36 = nI nb) (b240 : nb ≤ 240) (hb : b < nb) : V g mL_clears (Em g mL_clears (fun ω rv => rv = some (.int 1) ∧ Co (s + 1) ω ∧ GE (s + 1) ω) NX) CT 15 90 300 [(0, .ref 2), (1, .ref 73), (2, .int x), (3, .int y), (4, .int (nI c)), (5, .int (nI b)), (6, .int (3 : Int32))] [.int 0] ω := by
  refine V_iload dL_clears_300 rfl ?_
  refine V_iconst (3 : Int32) dL_clears_302 (by decide) ?_
  refine V_icmp_ne 310 dL_clears_303 rfl (fun z_ => absurd z_ (by decide)) (fun _ => ?_)
  refine V_iconst (0 : Int32) dL_clears_306 (by decide) ?_
  refine V_goto 312 dL_clears_307 rfl ?_
  refine V_icmp_ne 329 dL_clears_312 rfl (fun z_ => absurd z_ (by decide)) (fun _ => ?_)
  refine V_aload_n dL_clears_315 rfl ?_
  refine V_aload_n dL_clears_316 rfl ?_
  refine V_iload dL_clears_317 rfl ?_
  refine V_cKs (as := [.ref 2, .ref 73, .int (nI b)]) (k' := 9) (n' := 54) (s_L_isBill hg Cω Gω hn b240 hb (Co_Kp Cω)) mw_L_isBill w_448 w_447 ar_L_isBill ⟨rfl, rfl, rfl, rfl, rfl⟩ dL_clears_319 (fun ω1 K1 => ?_)
  refine V_if_eq 329 dL_clears_322 rfl (fun z_ => absurd z_ (by decide)) (fun _ => ?_)
  refine V_iconst (1 : Int32) dL_clears_325 (by decide) ?_
  refine V_goto 330 dL_clears_326 rfl ?_
  refine V_zret rfl dL_clears_330 (by decide) ?_
  exact ⟨rfl, Co_s (Nat.le_succ s) (by omega) (Co_K Cω K1), GE_s (Nat.le_succ s) (GE_RO K1.2.2 Gω)⟩
theorem clears_203 {g : GP} {σ : AH} {s : Nat} {x y : Int32} (hg : gG g = none) (h : Co s σ) (hs : s < 90) (hE : GE s σ) {c b nb : Nat} {st : Int32} (hn : zI σ 33 36 = nI nb) (b240 : nb ≤ 240) (hb : b < nb) (e62 : zI σ 62 b = st) : V g mL_clears (Em g mL_clears (fun ω rv => rv = some (.int 1) ∧ Co (s + 1) ω ∧ GE (s + 1) ω) NX) CT 16 96 203 [(0, .ref 2), (1, .ref 73), (2, .int x), (3, .int y), (4, .int (nI c)), (5, .int (nI b)), (6, .int st)] [] σ := by
  refine V_iload dL_clears_203 rfl ?_
  refine V_iconst (3 : Int32) dL_clears_205 (by decide) ?_
  refine V_icmp_ne 294 dL_clears_206 rfl (fun c206 => ?_) (fun c206 => ?_)
  · refine V_aload_n dL_clears_294 rfl ?_
    refine V_iload dL_clears_295 rfl ?_
    refine V_cMh (as := [.ref 2, .int (nI b)]) (k' := 15) (n' := 90) (P_rebill hg h hn b240 hb) mw_L_rebill w_1034 w_1033 ar_L_rebill ⟨rfl, rfl, rfl, rfl, rfl⟩ dL_clears_297 (fun ω1 y1 K1 => ?_)
    rcases K1 with ⟨hr, rfl, Kω⟩ | ⟨z1, rfl, Cω, hN⟩
    · exact clears_300n hg h hs hE hn b240 hb e62 (fun z => hr (e62.trans z)) Kω
    · rw [show st = 3 from e62.symm.trans z1]
      exact clears_300y hg Cω hs (GE_NW hN hE) ((hN.1 36 (by omega) id).trans hn) b240 hb
  · refine V_aload_n dL_clears_209 rfl ?_
    refine V_iload dL_clears_210 rfl ?_
    refine V_cMh (as := [.ref 2, .int (nI b)]) (k' := 15) (n' := 90) (P_reject hg h hn b240 hb) mw_L_reject w_1026 w_1025 ar_L_reject ⟨rfl, rfl, rfl, rfl, rfl⟩ dL_clears_212 (fun ω2 y2 K2 => ?_)
    refine V_istore [(0, .ref 2), (1, .ref 73), (2, .int x), (3, .int y), (4, .int (nI c)), (5, .int (nI b)), (6, .int st), (7, .int y2)] dL_clears_215 rfl rfl ?_
    rcases K2 with ⟨hr, rfl, Kω⟩ | ⟨⟨z1, z2⟩, z3, Cω, hN, z4, z5⟩
    · exact clears_217n hg h hs hE hn b240 hb e62 hr Kω
    · rw [z3, show st = 1 from e62.symm.trans z1]
      exact clears_217y hg Cω hs (GE_NW hN hE) ((hN.1 36 (by omega) id).trans hn) b240 hb z4 (by rw [z5, hN.1 43 (by omega) id]; exact z2) ((congrFun hN.2.2.1 4).trans (hE.2.2.2.2.1.trans (hN.1 43 (by omega) id).symm))
theorem clears_153 {g : GP} {σ : AH} {s : Nat} {x y : Int32} (hg : gG g = none) (h : Co s σ) (hs : s < 90) (hE : GE s σ) {c nb : Nat} (hn : zI σ 33 36 = nI nb) (b240 : nb ≤ 240) (g3 : zI σ 73 3 = nI nb) : V g mL_clears (Em g mL_clears (fun ω rv => rv = some (.int 1) ∧ Co (s + 1) ω ∧ GE (s + 1) ω) NX) CT 17 102 153 [(0, .ref 2), (1, .ref 73), (2, .int x), (3, .int y), (4, .int (nI c))] [] σ := by
  refine V_aload_n dL_clears_153 rfl ?_
  refine V_iconst (3 : Int32) dL_clears_154 (by decide) ?_
  refine V_gald dL_clears_155 (by decide) (ga73 h.2.2.1).1 (vp_l (n := 7) (ga73 h.2.2.1).2 (vp_in_nI (n := 3) (by decide) (by decide))) ?_
  refine V_cast (st' := .int (zI σ 73 3) :: []) rfl rfl rfl ?_
  refine V_cast (st' := .int (nI nb) :: []) rfl (by rw [g3]) rfl ?_
  refine V_if_ne 185 dL_clears_156 rfl (fun c156 => ?_) (fun c156 => ?_)
  · refine V_iload_n dL_clears_185 rfl ?_
    refine V_aload_n dL_clears_186 rfl ?_
    refine V_iconst (3 : Int32) dL_clears_187 (by decide) ?_
    refine V_gald dL_clears_188 (by decide) (ga73 h.2.2.1).1 (vp_l (n := 7) (ga73 h.2.2.1).2 (vp_in_nI (n := 3) (by decide) (by decide))) ?_
    refine V_cast (st' := .int (zI σ 73 3) :: [.int y]) rfl rfl rfl ?_
    refine V_cast (st' := .int (nI nb) :: [.int y]) rfl (by rw [g3]) rfl ?_
    obtain ⟨j1, hj1, hl1, P1⟩ := P_low (g := g) (σ := σ) y (N := nb) (Nat.pos_of_ne_zero (fun z => c156 (by rw [z]; rfl))) (by omega)
    refine V_cKs (as := [.int y, .int (nI nb)]) (k' := 17) (n' := 102) P1 mw_L_low w_454 w_453 ar_L_low ⟨rfl, rfl, rfl, rfl, rfl⟩ dL_clears_189 (fun ω1 e1 => ?_)
    rw [e1]
    refine V_istore [(0, .ref 2), (1, .ref 73), (2, .int x), (3, .int y), (4, .int (nI c)), (5, .int (nI j1))] dL_clears_192 rfl rfl ?_
    refine V_aload_n dL_clears_194 rfl ?_
    refine V_iload dL_clears_195 rfl ?_
    refine V_iconst (0 : Int32) dL_clears_197 (by decide) ?_
    refine V_cKh (as := [.ref 2, .int (nI j1), .int (0 : Int32)]) (k' := 16) (n' := 96) (P_bl hg hn b240 hj1 (by decide) (Co_Kp h)) mw_L_ofBill w_439 w_438 ar_L_ofBill ⟨rfl, rfl, rfl, rfl, rfl⟩ dL_clears_198 (fun ω2 K2 => ?_)
    refine V_cast (st' := .int (zI σ 62 j1) :: []) rfl (by rw [bl0]) rfl ?_
    refine V_istore [(0, .ref 2), (1, .ref 73), (2, .int x), (3, .int y), (4, .int (nI c)), (5, .int (nI j1)), (6, .int (zI σ 62 j1))] dL_clears_201 rfl rfl ?_
    exact clears_203 hg (Co_K h K2) hs (GE_RO K2.2.2 hE) ((RO_3 K2.2.2 36 (by decide)).trans hn) b240 hj1 (congrFun (RO_f K2.2.2 62 (by decide) (by decide)) j1)
  · refine V_aload_n dL_clears_159 rfl ?_
    refine V_iconst (0 : Int32) dL_clears_160 (by decide) ?_
    refine V_cKh (as := [.ref 2, .int (0 : Int32)]) (k' := 16) (n' := 96) (P_rejectO hg h (hn.trans c156)) mw_L_reject w_1026 w_1025 ar_L_reject ⟨rfl, rfl, rfl, rfl, rfl⟩ dL_clears_161 (fun ω3 K3 => ?_)
    refine V_ldc (v := (-1000001 : Int32)) w_351 dL_clears_164 ?_
    refine V_icmp_ne 183 dL_clears_166 rfl (fun z_ => absurd z_ (by decide)) (fun _ => ?_)
    refine V_aload_n dL_clears_169 rfl ?_
    refine V_iconst (0 : Int32) dL_clears_170 (by decide) ?_
    refine V_cMh (as := [.ref 2, .int (0 : Int32)]) (k' := 15) (n' := 90) (P_rebillO hg (Co_K h K3) ((RO_3 K3.2.2 36 (by decide)).trans (hn.trans c156))) mw_L_rebill w_1034 w_1033 ar_L_rebill ⟨rfl, rfl, rfl, rfl, rfl⟩ dL_clears_171 (fun ω4 y4 K4 => ?_)
    obtain ⟨ye, Ki⟩ := K4
    refine V_cast (st' := .int (-1000001 : Int32) :: []) rfl (by rw [ye]) rfl ?_
    refine V_ldc (v := (-1000001 : Int32)) w_351 dL_clears_174 ?_
    refine V_icmp_ne 183 dL_clears_176 rfl (fun z_ => absurd z_ (by decide)) (fun _ => ?_)
    refine V_iconst (1 : Int32) dL_clears_179 (by decide) ?_
    refine V_goto 184 dL_clears_180 rfl ?_
    refine V_zret rfl dL_clears_184 (by decide) ?_
    exact ⟨rfl, Co_s (Nat.le_succ s) (by omega) (Co_K h (Kp_tr Ki K3)), GE_s (Nat.le_succ s) (GE_RO (Kp_tr Ki K3).2.2 hE)⟩
theorem s_L_clears {g : GP} {σ : AH} {s : Nat} {x y : Int32} (hg : gG g = none) (h : Co s σ) (hs : s < 90) (hE : GE s σ) : Ct g mL_clears [.ref 2, .ref 73, .int x, .int y] σ (fun ω rv => rv = some (.int 1) ∧ Co (s + 1) ω ∧ GE (s + 1) ω) := by
  obtain ⟨nb, b240, hb, -⟩ := Rel_bl h.2.1
  obtain ⟨q, -, hq⟩ := Rel_nm h.2.1
  have g3 : zI σ 73 3 = nI nb := hE.2.2.2.1.trans hb
  refine Ct_of (by decide +kernel) rfl rfl ?_
  refine V_iload_n dL_clears_0 rfl ?_
  refine V_iconst (5 : Int32) dL_clears_1 (by decide) ?_
  obtain ⟨j1, hj1, hl1, P1⟩ := P_low (g := g) (σ := σ) x (N := 5) (by decide) (by decide)
  refine V_cKs (as := [.int x, .int (5 : Int32)]) (k' := 17) (n' := 102) P1 mw_L_low w_454 w_453 ar_L_low ⟨rfl, rfl, rfl, rfl, rfl⟩ dL_clears_2 (fun ω1 e1 => ?_)
  rw [e1]
  refine V_istore [(0, .ref 2), (1, .ref 73), (2, .int x), (3, .int y), (4, .int (nI j1))] dL_clears_5 rfl rfl ?_
  refine V_iload dL_clears_7 rfl ?_
  refine V_iconst (2 : Int32) dL_clears_9 (by decide) ?_
  refine V_icmp_ge 35 dL_clears_10 rfl (fun c10 => ?_) (fun c10 => ?_)
  · refine V_iload dL_clears_35 rfl ?_
    refine V_iconst (2 : Int32) dL_clears_37 (by decide) ?_
    refine V_icmp_ne 153 dL_clears_38 rfl (fun c38 => ?_) (fun c38 => ?_)
    · exact clears_153 hg h hs hE hb b240 g3
    · refine V_iload_n dL_clears_41 rfl ?_
      refine V_iconst (5 : Int32) dL_clears_42 (by decide) ?_
      obtain ⟨j2, hj2, hl2, P2⟩ := P_low (g := g) (σ := σ) y (N := 5) (by decide) (by decide)
      refine V_cKs (as := [.int y, .int (5 : Int32)]) (k' := 17) (n' := 102) P2 mw_L_low w_454 w_453 ar_L_low ⟨rfl, rfl, rfl, rfl, rfl⟩ dL_clears_43 (fun ω2 e2 => ?_)
      rw [e2]
      refine V_istore [(0, .ref 2), (1, .ref 73), (2, .int x), (3, .int y), (4, .int (nI j1)), (5, .int (nI j2))] dL_clears_46 rfl rfl ?_
      refine V_iload_n dL_clears_48 rfl ?_
      refine V_iconst (3 : Int32) dL_clears_49 (by decide) ?_
      refine V_ishr dL_clears_50 ?_
      refine V_iconst (3 : Int32) dL_clears_51 (by decide) ?_
      obtain ⟨j3, hj3, hl3, P3⟩ := P_low (g := g) (σ := σ) (y >>> ((3 : Int32) &&& 31)) (N := 3) (by decide) (by decide)
      refine V_cKs (as := [.int (y >>> ((3 : Int32) &&& 31)), .int (3 : Int32)]) (k' := 17) (n' := 102) P3 mw_L_low w_454 w_453 ar_L_low ⟨rfl, rfl, rfl, rfl, rfl⟩ dL_clears_52 (fun ω3 e3 => ?_)
      rw [e3]
      refine V_if_ne 62 dL_clears_55 rfl (fun c55 => ?_) (fun c55 => ?_)
      · refine V_iconst (0 : Int32) dL_clears_62 (by decide) ?_
        refine V_istore [(0, .ref 2), (1, .ref 73), (2, .int x), (3, .int y), (4, .int (nI j1)), (5, .int (nI j2)), (6, .int (0 : Int32))] dL_clears_63 rfl rfl ?_
        exact clears_65 hg h hs hE hj2 hb b240 (Or.inl rfl) g3
      · refine V_iconst (1 : Int32) dL_clears_58 (by decide) ?_
        refine V_goto 63 dL_clears_59 rfl ?_
        refine V_istore [(0, .ref 2), (1, .ref 73), (2, .int x), (3, .int y), (4, .int (nI j1)), (5, .int (nI j2)), (6, .int (1 : Int32))] dL_clears_63 rfl rfl ?_
        exact clears_65 hg h hs hE hj2 hb b240 (Or.inr rfl) g3
  · exact clears_13 hg h hs hE hq
