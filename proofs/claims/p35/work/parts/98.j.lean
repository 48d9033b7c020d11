/-! ===== the law: flies ===== -/
theorem NW_K {C : Nat → Prop} {ω τ σ : AH} (hO : RO ω τ) (h : NW C τ σ) : NW C ω σ := by
  obtain ⟨h1, h2, h3, h4⟩ := h
  obtain ⟨r1, r2, r3, r4⟩ := NW_RO hO
  exact ⟨fun j hj hc => (r1 j hj id).trans (h1 j hj hc), fun hc => ⟨(r2 id).1.trans (h2 hc).1, (r2 id).2.trans (h2 hc).2⟩, r3.trans h3, r4.trans h4⟩
theorem NW_36 {ω σ : AH} (h : NW N0 ω σ) : NW (fun j => j = 36) ω σ := ⟨fun j hj _ => h.1 j hj id, fun _ => h.2.1 id, h.2.2⟩
theorem GE_fly {s c : Nat} {ω σ : AH} (hG : GE s σ) (h : NW (fun j => j = 36) ω σ) (e : zI ω 33 36 = nI c) : GE s (uI ω 73 3 (nI c)) := by
  obtain ⟨h1, h2, h3, h4⟩ := h
  obtain ⟨h5, h6⟩ := h2 (by decide)
  have ee : ∀ j, j ≠ 3 → zI (uI ω 73 3 (nI c)) 73 j = zI σ 73 j := fun j hj => by rw [zI_uI, if_neg (by omega), h3]
  have e' : ∀ a, a ≠ 73 → zI (uI ω 73 3 (nI c)) a = zI ω a := fun a ha => funext fun j => by rw [zI_uI, if_neg (by omega)]
  have e1 : zI (uI ω 73 3 (nI c)) 73 3 = nI c := by rw [zI_uI, if_pos ⟨rfl, rfl⟩]
  unfold GE at hG ⊢
  rw [ee 0 (by decide), ee 1 (by decide), ee 2 (by decide), ee 4 (by decide), ee 5 (by decide), ee 6 (by decide), e1, e' 33 (by decide), e' 74 (by decide), e' 47 (by decide), e' 49 (by decide), h1 0 (by omega) (by decide), h1 6 (by omega) (by decide), h1 16 (by omega) (by decide), h1 23 (by omega) (by decide), h1 43 (by omega) (by decide), h4, h5, h6, e]
  exact ⟨hG.1, hG.2.1, hG.2.2.1, rfl, hG.2.2.2.2⟩
theorem flies_74n {g : GP} {σ : AH} {s : Nat} {y : Int32} (hg : gG g = none) (h : Co s σ) (hs : s < 90) (hE : GE s σ) {t k n m : Nat} (hn : zI σ 33 23 = nI n) (n30 : n ≤ 30) (ht : t < n) (hm : zI σ 52 t = nI m) (m1 : 1 ≤ m) (m8 : m ≤ 8) (hk : k < m) {st by_ : Int32} (h55 : zI σ 55 (8 * t + k) = st) (h58 : zI σ 58 (8 * t + k) = by_) {c : Nat} (hr : ¬ (zI σ 55 (8 * t + k) = 0 ∧ ¬ zI σ 58 (8 * t + k) = nI c)) {ω : AH} (Kω : Kp ω σ) : V g mL_flies (Em g mL_flies (fun ω rv => rv = some (.int 1) ∧ Co (s + 1) ω ∧ GE (s + 1) ω) NX) CT 87 522 74 [(0, .ref 2), (1, .ref 73), (2, .int y), (3, .int (nI t)), (4, .int (nI k)), (5, .int st), (6, .int by_), (7, .int (nI c)), (8, .int (-1000003 : Int32))] [] ω := by
  refine V_iload dL_flies_74 rfl ?_
  refine V_iload dL_flies_76 rfl ?_
  refine V_if_ne 93 dL_flies_78 rfl (fun c78 => ?_) (fun c78 => ?_)
  · refine V_ldc (v := (-1000003 : Int32)) w_518 dL_flies_93 ?_
    refine V_icmp_ne 120 dL_flies_95 rfl (fun z_ => absurd z_ (by decide)) (fun _ => ?_)
    refine V_iload dL_flies_98 rfl ?_
    refine V_if_lt 116 dL_flies_100 rfl (fun _ => ?_) (fun z_ => absurd (by decide) z_)
    refine V_iconst (1 : Int32) dL_flies_116 (by decide) ?_
    refine V_goto 121 dL_flies_117 rfl ?_
    refine V_zret rfl dL_flies_121 (by decide) ?_
    exact ⟨rfl, Co_s (Nat.le_succ s) (by omega) (Co_K h Kω), GE_s (Nat.le_succ s) (GE_RO Kω.2.2 hE)⟩
  · refine V_iload dL_flies_81 rfl ?_
    refine V_iload dL_flies_83 rfl ?_
    refine V_icmp_eq 93 dL_flies_85 rfl (fun c85 => ?_) (fun c85 => ?_)
    · refine V_ldc (v := (-1000003 : Int32)) w_518 dL_flies_93 ?_
      refine V_icmp_ne 120 dL_flies_95 rfl (fun z_ => absurd z_ (by decide)) (fun _ => ?_)
      refine V_iload dL_flies_98 rfl ?_
      refine V_if_lt 116 dL_flies_100 rfl (fun _ => ?_) (fun z_ => absurd (by decide) z_)
      refine V_iconst (1 : Int32) dL_flies_116 (by decide) ?_
      refine V_goto 121 dL_flies_117 rfl ?_
      refine V_zret rfl dL_flies_121 (by decide) ?_
      exact ⟨rfl, Co_s (Nat.le_succ s) (by omega) (Co_K h Kω), GE_s (Nat.le_succ s) (GE_RO Kω.2.2 hE)⟩
    · exact absurd ⟨h55.trans c78, fun z => c85 (z.symm.trans h58)⟩ hr
theorem flies_74y {g : GP} {σ ω : AH} {s : Nat} {y by_ : Int32} (hg : gG g = none) (hs : s < 90) (hE : GE s σ) {t k n m c : Nat} (hn : zI ω 33 23 = nI n) (n30 : n ≤ 30) (ht : t < n) (hm : zI ω 52 t = nI m) (m1 : 1 ≤ m) (m8 : m ≤ 8) (hk : k < m) (Cω : Co s ω) (hN : NW N0 ω σ) (e58 : zI ω 58 (8 * t + k) = nI c) (hne : ¬ by_ = nI c) (hlt : ¬ by_ < 0) : V g mL_flies (Em g mL_flies (fun ω rv => rv = some (.int 1) ∧ Co (s + 1) ω ∧ GE (s + 1) ω) NX) CT 87 522 74 [(0, .ref 2), (1, .ref 73), (2, .int y), (3, .int (nI t)), (4, .int (nI k)), (5, .int (0 : Int32)), (6, .int by_), (7, .int (nI c)), (8, .int by_)] [] ω := by
  refine V_iload dL_flies_74 rfl ?_
  refine V_iload dL_flies_76 rfl ?_
  refine V_if_ne 93 dL_flies_78 rfl (fun z_ => absurd z_ (by decide)) (fun _ => ?_)
  refine V_iload dL_flies_81 rfl ?_
  refine V_iload dL_flies_83 rfl ?_
  refine V_icmp_eq 93 dL_flies_85 rfl (fun z_ => absurd z_ (fun z => hne z.symm)) (fun _ => ?_)
  refine V_iload dL_flies_88 rfl ?_
  refine V_goto 95 dL_flies_90 rfl ?_
  refine V_icmp_ne 120 dL_flies_95 rfl (fun z_ => absurd z_ (by simp)) (fun _ => ?_)
  refine V_iload dL_flies_98 rfl ?_
  refine V_if_lt 116 dL_flies_100 rfl (fun z_ => absurd z_ hlt) (fun _ => ?_)
  refine V_aload_n dL_flies_103 rfl ?_
  refine V_iload_n dL_flies_104 rfl ?_
  refine V_iload dL_flies_105 rfl ?_
  refine V_iconst (3 : Int32) dL_flies_107 (by decide) ?_
  refine V_cKh (as := [.ref 2, .int (nI t), .int (nI k), .int (3 : Int32)]) (k' := 86) (n' := 516) (P_cp hg hn n30 ht hm m8 hk (by decide) (Co_Kp Cω)) mw_L_ofCoupon w_430 w_429 ar_L_ofCoupon ⟨rfl, rfl, rfl, rfl, rfl⟩ dL_flies_108 (fun ω1 K1 => ?_)
  refine V_cast (st' := .int (nI c) :: []) rfl (by rw [cp3, e58]) rfl ?_
  refine V_iload dL_flies_111 rfl ?_
  refine V_icmp_ne 120 dL_flies_113 rfl (fun z_ => absurd z_ (by simp)) (fun _ => ?_)
  refine V_iconst (1 : Int32) dL_flies_116 (by decide) ?_
  refine V_goto 121 dL_flies_117 rfl ?_
  refine V_zret rfl dL_flies_121 (by decide) ?_
  exact ⟨rfl, Co_s (Nat.le_succ s) (by omega) (Co_K Cω K1), GE_s (Nat.le_succ s) (GE_RO K1.2.2 (GE_NW hN hE))⟩
theorem flies_131n {g : GP} {σ : AH} {s : Nat} {y : Int32} (hg : gG g = none) (h : Co s σ) (hs : s < 90) (hE : GE s σ) {t k n m : Nat} (hn : zI σ 33 23 = nI n) (n30 : n ≤ 30) (ht : t < n) (hm : zI σ 52 t = nI m) (m1 : 1 ≤ m) (m8 : m ≤ 8) (hk : k < m) {st by_ : Int32} (h55 : zI σ 55 (8 * t + k) = st) (h58 : zI σ 58 (8 * t + k) = by_) (hr : ¬ (zI σ 55 (8 * t + k) = 0 ∧ ¬ zI σ 33 0 < zI σ 59 (8 * t + k))) {ω : AH} (Kω : Kp ω σ) : V g mL_flies (Em g mL_flies (fun ω rv => rv = some (.int 1) ∧ Co (s + 1) ω ∧ GE (s + 1) ω) NX) CT 86 516 131 [(0, .ref 2), (1, .ref 73), (2, .int y), (3, .int (nI t)), (4, .int (nI k)), (5, .int st), (6, .int by_), (7, .int (-1000003 : Int32))] [] ω := by
  refine V_iload dL_flies_131 rfl ?_
  refine V_if_ne 150 dL_flies_133 rfl (fun c133 => ?_) (fun c133 => ?_)
  · refine V_iload dL_flies_150 rfl ?_
    refine V_ldc (v := (-1000003 : Int32)) w_518 dL_flies_152 ?_
    refine V_icmp_ne 161 dL_flies_154 rfl (fun z_ => absurd z_ (by decide)) (fun _ => ?_)
    refine V_iconst (1 : Int32) dL_flies_157 (by decide) ?_
    refine V_goto 162 dL_flies_158 rfl ?_
    refine V_zret rfl dL_flies_162 (by decide) ?_
    exact ⟨rfl, Co_s (Nat.le_succ s) (by omega) (Co_K h Kω), GE_s (Nat.le_succ s) (GE_RO Kω.2.2 hE)⟩
  · refine V_aload_n dL_flies_136 rfl ?_
    refine V_iload_n dL_flies_137 rfl ?_
    refine V_iload dL_flies_138 rfl ?_
    refine V_iconst (4 : Int32) dL_flies_140 (by decide) ?_
    refine V_cKh (as := [.ref 2, .int (nI t), .int (nI k), .int (4 : Int32)]) (k' := 85) (n' := 510) (P_cp hg hn n30 ht hm m8 hk (by decide) Kω) mw_L_ofCoupon w_430 w_429 ar_L_ofCoupon ⟨rfl, rfl, rfl, rfl, rfl⟩ dL_flies_141 (fun ω1 K1 => ?_)
    refine V_cast (st' := .int (zI σ 59 (8 * t + k)) :: []) rfl (by rw [cp4]) rfl ?_
    refine V_aload_n dL_flies_144 rfl ?_
    refine V_iconst (0 : Int32) dL_flies_145 (by decide) ?_
    refine V_gald dL_flies_146 (by decide) (ga73 K1.2.1).1 (vp_l (n := 7) (ga73 K1.2.1).2 (vp_in_nI (n := 0) (by decide) (by decide))) ?_
    refine V_cast (st' := .int (zI ω1 73 0) :: [.int (zI σ 59 (8 * t + k))]) rfl rfl rfl ?_
    refine V_cast (st' := .int (zI σ 33 0) :: [.int (zI σ 59 (8 * t + k))]) rfl (by rw [gk K1.2.2 0, hE.1]) rfl ?_
    refine V_icmp_le 163 dL_flies_147 rfl (fun z_ => absurd z_ (fun z => hr ⟨h55.trans c133, Int32.not_lt.mpr z⟩)) (fun _ => ?_)
    refine V_iload dL_flies_150 rfl ?_
    refine V_ldc (v := (-1000003 : Int32)) w_518 dL_flies_152 ?_
    refine V_icmp_ne 161 dL_flies_154 rfl (fun z_ => absurd z_ (by decide)) (fun _ => ?_)
    refine V_iconst (1 : Int32) dL_flies_157 (by decide) ?_
    refine V_goto 162 dL_flies_158 rfl ?_
    refine V_zret rfl dL_flies_162 (by decide) ?_
    exact ⟨rfl, Co_s (Nat.le_succ s) (by omega) (Co_K h K1), GE_s (Nat.le_succ s) (GE_RO K1.2.2 hE)⟩
theorem flies_131o {g : GP} {ω : AH} {s : Nat} {y by_ cc : Int32} (hg : gG g = none) (hs : s < 90) (Cω : Co (s + 1) ω) {t k n m nb : Nat} (hn : zI ω 33 23 = nI n) (n30 : n ≤ 30) (ht : t < n) (hm : zI ω 52 t = nI m) (m1 : 1 ≤ m) (m8 : m ≤ 8) (hk : k < m) (g3 : zI ω 73 3 = nI nb) (g0 : zI ω 73 0 = zI ω 33 0) (hd : ¬ zI ω 33 0 < zI ω 59 (8 * t + k)) (e51 : zI ω 51 t = cc) (e55 : zI ω 55 (8 * t + k) = 1) (e61 : zI ω 61 (8 * t + k) = (-1 : Int32)) (hown : by_ = cc) (hG : ∀ τ, Kp τ ω → GE (s + 1) (uI τ 73 3 (nI nb))) : V g mL_flies (Em g mL_flies (fun ω rv => rv = some (.int 1) ∧ Co (s + 1) ω ∧ GE (s + 1) ω) NX) CT 86 516 131 [(0, .ref 2), (1, .ref 73), (2, .int y), (3, .int (nI t)), (4, .int (nI k)), (5, .int (0 : Int32)), (6, .int by_), (7, .int (-1 : Int32))] [] ω := by
  refine V_iload dL_flies_131 rfl ?_
  refine V_if_ne 150 dL_flies_133 rfl (fun z_ => absurd z_ (by decide)) (fun _ => ?_)
  refine V_aload_n dL_flies_136 rfl ?_
  refine V_iload_n dL_flies_137 rfl ?_
  refine V_iload dL_flies_138 rfl ?_
  refine V_iconst (4 : Int32) dL_flies_140 (by decide) ?_
  refine V_cKh (as := [.ref 2, .int (nI t), .int (nI k), .int (4 : Int32)]) (k' := 85) (n' := 510) (P_cp hg hn n30 ht hm m8 hk (by decide) (Co_Kp Cω)) mw_L_ofCoupon w_430 w_429 ar_L_ofCoupon ⟨rfl, rfl, rfl, rfl, rfl⟩ dL_flies_141 (fun ω1 K1 => ?_)
  refine V_cast (st' := .int (zI ω 59 (8 * t + k)) :: []) rfl (by rw [cp4]) rfl ?_
  refine V_aload_n dL_flies_144 rfl ?_
  refine V_iconst (0 : Int32) dL_flies_145 (by decide) ?_
  refine V_gald dL_flies_146 (by decide) (ga73 K1.2.1).1 (vp_l (n := 7) (ga73 K1.2.1).2 (vp_in_nI (n := 0) (by decide) (by decide))) ?_
  refine V_cast (st' := .int (zI ω1 73 0) :: [.int (zI ω 59 (8 * t + k))]) rfl rfl rfl ?_
  refine V_cast (st' := .int (zI ω 33 0) :: [.int (zI ω 59 (8 * t + k))]) rfl (by rw [gk K1.2.2 0, g0]) rfl ?_
  refine V_icmp_le 163 dL_flies_147 rfl (fun _ => ?_) (fun z_ => absurd (Int32.not_lt.mp hd) z_)
  refine V_iload dL_flies_163 rfl ?_
  refine V_aload_n dL_flies_165 rfl ?_
  refine V_iload_n dL_flies_166 rfl ?_
  refine V_iconst (2 : Int32) dL_flies_167 (by decide) ?_
  refine V_cKh (as := [.ref 2, .int (nI t), .int (2 : Int32)]) (k' := 84) (n' := 504) (P_tk hg hn n30 ht (by decide) K1) mw_L_ofTicket w_422 w_421 ar_L_ofTicket ⟨rfl, rfl, rfl, rfl, rfl⟩ dL_flies_168 (fun ω2 K2 => ?_)
  refine V_cast (st' := .int cc :: [.int by_]) rfl (by rw [tk2, e51]) rfl ?_
  refine V_icmp_ne 178 dL_flies_171 rfl (fun z_ => absurd z_ (fun z => z hown)) (fun _ => ?_)
  refine V_iconst (1 : Int32) dL_flies_174 (by decide) ?_
  refine V_goto 179 dL_flies_175 rfl ?_
  refine V_istore [(0, .ref 2), (1, .ref 73), (2, .int y), (3, .int (nI t)), (4, .int (nI k)), (5, .int (0 : Int32)), (6, .int by_), (7, .int (-1 : Int32)), (8, .int (1 : Int32))] dL_flies_179 rfl rfl ?_
  refine V_aload_n dL_flies_181 rfl ?_
  refine V_iconst (3 : Int32) dL_flies_182 (by decide) ?_
  refine V_dup2 dL_flies_183 rfl rfl ?_
  refine V_gald dL_flies_184 (by decide) (ga73 K2.2.1).1 (vp_l (n := 7) (ga73 K2.2.1).2 (vp_in_nI (n := 3) (by decide) (by decide))) ?_
  refine V_cast (st' := .int (zI ω2 73 3) :: [.int (3 : Int32), .ref 73]) rfl rfl rfl ?_
  refine V_cast (st' := .int (nI nb) :: [.int (3 : Int32), .ref 73]) rfl (by rw [gk K2.2.2 3, g3]) rfl ?_
  refine V_iload dL_flies_185 rfl ?_
  refine V_if_eq 194 dL_flies_187 rfl (fun z_ => absurd z_ (by decide)) (fun _ => ?_)
  refine V_iconst (0 : Int32) dL_flies_190 (by decide) ?_
  refine V_goto 195 dL_flies_191 rfl ?_
  refine V_iadd dL_flies_195 ?_
  refine V_cast (st' := .int (nI nb) :: [.int (3 : Int32), .ref 73]) rfl (by rw [show nI nb + (0 : Int32) = nI nb from Int32.add_zero _]) rfl ?_
  refine V_gast dL_flies_196 hg (by decide) (ga73 K2.2.1).1 (vp_l (n := 7) (ga73 K2.2.1).2 (vp_in_nI (n := 3) (by decide) (by decide))) ?_
  refine V_cast (σ' := uI ω2 73 3 (nI nb)) rfl rfl rfl ?_
  have C9 := Co_g (a := 73) (k := 3) (x := nI nb) (Or.inl rfl) (Co_K Cω K2)
  have G9 := hG _ K2
  have f9 : ∀ a, 34 ≤ a → a ≤ 71 → zI (uI ω2 73 3 (nI nb)) a = zI ω a := fun a h1 h2 => (funext fun j => by rw [zI_uI, if_neg (by omega)] : zI (uI ω2 73 3 (nI nb)) a = zI ω2 a).trans (RO_f K2.2.2 a h1 h2)
  have hn9 : zI (uI ω2 73 3 (nI nb)) 33 23 = nI n := by
    rw [zI_uI, if_neg (by omega)]
    exact (RO_3 K2.2.2 23 (by decide)).trans hn
  have e2 : zI (uI ω2 73 3 (nI nb)) 73 3 = nI nb := by rw [zI_uI, if_pos ⟨rfl, rfl⟩]
  generalize uI ω2 73 3 (nI nb) = ω9 at C9 G9 f9 hn9 e2 ⊢
  have hm9 : zI ω9 52 t = nI m := by rw [f9 52 (by decide) (by decide)]; exact hm
  have e559 : zI ω9 55 (8 * t + k) = 1 := by rw [f9 55 (by decide) (by decide)]; exact e55
  have e619 : zI ω9 61 (8 * t + k) = (-1 : Int32) := by rw [f9 61 (by decide) (by decide)]; exact e61
  have K9 := Co_Kp C9
  refine V_iload dL_flies_197 rfl ?_
  refine V_iload dL_flies_199 rfl ?_
  refine V_if_eq 208 dL_flies_201 rfl (fun z_ => absurd z_ (by decide)) (fun _ => ?_)
  refine V_iconst (-1 : Int32) dL_flies_204 (by decide) ?_
  refine V_goto 213 dL_flies_205 rfl ?_
  refine V_icmp_ne 266 dL_flies_213 rfl (fun z_ => absurd z_ (by decide)) (fun _ => ?_)
  refine V_aload_n dL_flies_216 rfl ?_
  refine V_iload_n dL_flies_217 rfl ?_
  refine V_iload dL_flies_218 rfl ?_
  refine V_iconst (0 : Int32) dL_flies_220 (by decide) ?_
  refine V_cKh (as := [.ref 2, .int (nI t), .int (nI k), .int (0 : Int32)]) (k' := 83) (n' := 498) (P_cp hg hn9 n30 ht hm9 m8 hk (by decide) K9) mw_L_ofCoupon w_430 w_429 ar_L_ofCoupon ⟨rfl, rfl, rfl, rfl, rfl⟩ dL_flies_221 (fun ω3 K3 => ?_)
  refine V_cast (st' := .int (1 : Int32) :: []) rfl (by rw [cp0, e559]) rfl ?_
  refine V_iconst (1 : Int32) dL_flies_224 (by decide) ?_
  refine V_icmp_ne 266 dL_flies_225 rfl (fun z_ => absurd z_ (by decide)) (fun _ => ?_)
  refine V_aload_n dL_flies_228 rfl ?_
  refine V_iload_n dL_flies_229 rfl ?_
  refine V_iload dL_flies_230 rfl ?_
  refine V_iconst (5 : Int32) dL_flies_232 (by decide) ?_
  refine V_cKh (as := [.ref 2, .int (nI t), .int (nI k), .int (5 : Int32)]) (k' := 82) (n' := 492) (P_cp hg hn9 n30 ht hm9 m8 hk (by decide) K3) mw_L_ofCoupon w_430 w_429 ar_L_ofCoupon ⟨rfl, rfl, rfl, rfl, rfl⟩ dL_flies_233 (fun ω4 K4 => ?_)
  refine V_cast (st' := .int (-1 : Int32) :: []) rfl (by rw [cp5, e619]) rfl ?_
  refine V_iload dL_flies_236 rfl ?_
  refine V_icmp_ne 266 dL_flies_238 rfl (fun z_ => absurd z_ (by decide)) (fun _ => ?_)
  refine V_aload_n dL_flies_241 rfl ?_
  refine V_iload_n dL_flies_242 rfl ?_
  refine V_iload dL_flies_243 rfl ?_
  refine V_cMh (as := [.ref 2, .int (nI t), .int (nI k)]) (k' := 80) (n' := 480) (P_fly hg (Co_K C9 K4) (by omega) ((RO_3 K4.2.2 23 (by decide)).trans hn9) n30 ht ((congrFun (RO_f K4.2.2 52 (by decide) (by decide)) t).trans hm9) m8 hk) mw_L_fly w_901 w_900 ar_L_fly ⟨rfl, rfl, rfl, rfl, rfl⟩ dL_flies_245 (fun ω5 y5 K5 => ?_)
  have Kj5 : y5 = -1000003 ∧ Kp ω5 ω9 := by
    rcases K5 with ⟨-, z1, z2⟩ | ⟨⟨z1, -⟩, -⟩
    · exact ⟨z1, Kp_tr z2 K4⟩
    · exact absurd (z1.symm.trans ((congrFun (RO_f K4.2.2 55 (by decide) (by decide)) _).trans e559)) (by decide)
  obtain ⟨ye5, Ki5⟩ := Kj5
  refine V_cast (st' := .int (-1000003 : Int32) :: []) rfl (by rw [ye5]) rfl ?_
  refine V_ldc (v := (-1000003 : Int32)) w_518 dL_flies_248 ?_
  refine V_icmp_ne 266 dL_flies_250 rfl (fun z_ => absurd z_ (by decide)) (fun _ => ?_)
  refine V_aload_n dL_flies_253 rfl ?_
  refine V_aload_n dL_flies_254 rfl ?_
  refine V_iload_n dL_flies_255 rfl ?_
  refine V_cKs (as := [.ref 2, .ref 73, .int (nI t)]) (k' := 2) (n' := 12) (s_L_isTicket hg C9 G9 hn9 n30 ht hm9 m1 m8 Ki5) mw_L_isTicket w_419 w_418 ar_L_isTicket ⟨rfl, rfl, rfl, rfl, rfl⟩ dL_flies_256 (fun ω6 K6 => ?_)
  refine V_if_eq 266 dL_flies_259 rfl (fun z_ => absurd z_ (by decide)) (fun _ => ?_)
  refine V_iconst (1 : Int32) dL_flies_262 (by decide) ?_
  refine V_goto 267 dL_flies_263 rfl ?_
  refine V_zret rfl dL_flies_267 (by decide) ?_
  exact ⟨rfl, Co_K C9 K6, GE_RO K6.2.2 G9⟩
theorem flies_131b {g : GP} {ω : AH} {s : Nat} {y by_ cc : Int32} (hg : gG g = none) (hs : s < 90) (Cω : Co (s + 1) ω) {t k n m nb : Nat} (hn : zI ω 33 23 = nI n) (n30 : n ≤ 30) (ht : t < n) (hm : zI ω 52 t = nI m) (m1 : 1 ≤ m) (m8 : m ≤ 8) (hk : k < m) (g3 : zI ω 73 3 = nI nb) (g0 : zI ω 73 0 = zI ω 33 0) (hd : ¬ zI ω 33 0 < zI ω 59 (8 * t + k)) (e51 : zI ω 51 t = cc) (e55 : zI ω 55 (8 * t + k) = 1) (e61 : zI ω 61 (8 * t + k) = nI nb) (hown : ¬ by_ = cc) (hG : ∀ τ, Kp τ ω → GE (s + 1) (uI τ 73 3 (nI (nb + 1)))) : V g mL_flies (Em g mL_flies (fun ω rv => rv = some (.int 1) ∧ Co (s + 1) ω ∧ GE (s + 1) ω) NX) CT 86 516 131 [(0, .ref 2), (1, .ref 73), (2, .int y), (3, .int (nI t)), (4, .int (nI k)), (5, .int (0 : Int32)), (6, .int by_), (7, .int (nI nb))] [] ω := by
  refine V_iload dL_flies_131 rfl ?_
  refine V_if_ne 150 dL_flies_133 rfl (fun z_ => absurd z_ (by decide)) (fun _ => ?_)
  refine V_aload_n dL_flies_136 rfl ?_
  refine V_iload_n dL_flies_137 rfl ?_
  refine V_iload dL_flies_138 rfl ?_
  refine V_iconst (4 : Int32) dL_flies_140 (by decide) ?_
  refine V_cKh (as := [.ref 2, .int (nI t), .int (nI k), .int (4 : Int32)]) (k' := 85) (n' := 510) (P_cp hg hn n30 ht hm m8 hk (by decide) (Co_Kp Cω)) mw_L_ofCoupon w_430 w_429 ar_L_ofCoupon ⟨rfl, rfl, rfl, rfl, rfl⟩ dL_flies_141 (fun ω1 K1 => ?_)
  refine V_cast (st' := .int (zI ω 59 (8 * t + k)) :: []) rfl (by rw [cp4]) rfl ?_
  refine V_aload_n dL_flies_144 rfl ?_
  refine V_iconst (0 : Int32) dL_flies_145 (by decide) ?_
  refine V_gald dL_flies_146 (by decide) (ga73 K1.2.1).1 (vp_l (n := 7) (ga73 K1.2.1).2 (vp_in_nI (n := 0) (by decide) (by decide))) ?_
  refine V_cast (st' := .int (zI ω1 73 0) :: [.int (zI ω 59 (8 * t + k))]) rfl rfl rfl ?_
  refine V_cast (st' := .int (zI ω 33 0) :: [.int (zI ω 59 (8 * t + k))]) rfl (by rw [gk K1.2.2 0, g0]) rfl ?_
  refine V_icmp_le 163 dL_flies_147 rfl (fun _ => ?_) (fun z_ => absurd (Int32.not_lt.mp hd) z_)
  refine V_iload dL_flies_163 rfl ?_
  refine V_aload_n dL_flies_165 rfl ?_
  refine V_iload_n dL_flies_166 rfl ?_
  refine V_iconst (2 : Int32) dL_flies_167 (by decide) ?_
  refine V_cKh (as := [.ref 2, .int (nI t), .int (2 : Int32)]) (k' := 84) (n' := 504) (P_tk hg hn n30 ht (by decide) K1) mw_L_ofTicket w_422 w_421 ar_L_ofTicket ⟨rfl, rfl, rfl, rfl, rfl⟩ dL_flies_168 (fun ω2 K2 => ?_)
  refine V_cast (st' := .int cc :: [.int by_]) rfl (by rw [tk2, e51]) rfl ?_
  refine V_icmp_ne 178 dL_flies_171 rfl (fun _ => ?_) (fun z_ => absurd z_ hown)
  refine V_iconst (0 : Int32) dL_flies_178 (by decide) ?_
  refine V_istore [(0, .ref 2), (1, .ref 73), (2, .int y), (3, .int (nI t)), (4, .int (nI k)), (5, .int (0 : Int32)), (6, .int by_), (7, .int (nI nb)), (8, .int (0 : Int32))] dL_flies_179 rfl rfl ?_
  refine V_aload_n dL_flies_181 rfl ?_
  refine V_iconst (3 : Int32) dL_flies_182 (by decide) ?_
  refine V_dup2 dL_flies_183 rfl rfl ?_
  refine V_gald dL_flies_184 (by decide) (ga73 K2.2.1).1 (vp_l (n := 7) (ga73 K2.2.1).2 (vp_in_nI (n := 3) (by decide) (by decide))) ?_
  refine V_cast (st' := .int (zI ω2 73 3) :: [.int (3 : Int32), .ref 73]) rfl rfl rfl ?_
  refine V_cast (st' := .int (nI nb) :: [.int (3 : Int32), .ref 73]) rfl (by rw [gk K2.2.2 3, g3]) rfl ?_
  refine V_iload dL_flies_185 rfl ?_
  refine V_if_eq 194 dL_flies_187 rfl (fun _ => ?_) (fun z_ => absurd (by decide) z_)
  refine V_iconst (1 : Int32) dL_flies_194 (by decide) ?_
  refine V_iadd dL_flies_195 ?_
  refine V_cast (st' := .int (nI (nb + 1)) :: [.int (3 : Int32), .ref 73]) rfl (by rw [nI_1]) rfl ?_
  refine V_gast dL_flies_196 hg (by decide) (ga73 K2.2.1).1 (vp_l (n := 7) (ga73 K2.2.1).2 (vp_in_nI (n := 3) (by decide) (by decide))) ?_
  refine V_cast (σ' := uI ω2 73 3 (nI (nb + 1))) rfl rfl rfl ?_
  have C9 := Co_g (a := 73) (k := 3) (x := nI (nb + 1)) (Or.inl rfl) (Co_K Cω K2)
  have G9 := hG _ K2
  have f9 : ∀ a, 34 ≤ a → a ≤ 71 → zI (uI ω2 73 3 (nI (nb + 1))) a = zI ω a := fun a h1 h2 => (funext fun j => by rw [zI_uI, if_neg (by omega)] : zI (uI ω2 73 3 (nI (nb + 1))) a = zI ω2 a).trans (RO_f K2.2.2 a h1 h2)
  have hn9 : zI (uI ω2 73 3 (nI (nb + 1))) 33 23 = nI n := by
    rw [zI_uI, if_neg (by omega)]
    exact (RO_3 K2.2.2 23 (by decide)).trans hn
  have e2 : zI (uI ω2 73 3 (nI (nb + 1))) 73 3 = nI (nb + 1) := by rw [zI_uI, if_pos ⟨rfl, rfl⟩]
  generalize uI ω2 73 3 (nI (nb + 1)) = ω9 at C9 G9 f9 hn9 e2 ⊢
  have hm9 : zI ω9 52 t = nI m := by rw [f9 52 (by decide) (by decide)]; exact hm
  have e559 : zI ω9 55 (8 * t + k) = 1 := by rw [f9 55 (by decide) (by decide)]; exact e55
  have e619 : zI ω9 61 (8 * t + k) = nI nb := by rw [f9 61 (by decide) (by decide)]; exact e61
  have K9 := Co_Kp C9
  refine V_iload dL_flies_197 rfl ?_
  refine V_iload dL_flies_199 rfl ?_
  refine V_if_eq 208 dL_flies_201 rfl (fun _ => ?_) (fun z_ => absurd (by decide) z_)
  refine V_aload_n dL_flies_208 rfl ?_
  refine V_iconst (3 : Int32) dL_flies_209 (by decide) ?_
  refine V_gald dL_flies_210 (by decide) (ga73 K9.2.1).1 (vp_l (n := 7) (ga73 K9.2.1).2 (vp_in_nI (n := 3) (by decide) (by decide))) ?_
  refine V_cast (st' := .int (zI ω9 73 3) :: [.int (nI nb)]) rfl rfl rfl ?_
  refine V_cast (st' := .int (nI (nb + 1)) :: [.int (nI nb)]) rfl (by rw [e2]) rfl ?_
  refine V_iconst (1 : Int32) dL_flies_211 (by decide) ?_
  refine V_isub dL_flies_212 ?_
  refine V_cast (st' := .int (nI nb) :: [.int (nI nb)]) rfl (by rw [nI_pred]) rfl ?_
  refine V_icmp_ne 266 dL_flies_213 rfl (fun z_ => absurd z_ (by simp)) (fun _ => ?_)
  refine V_aload_n dL_flies_216 rfl ?_
  refine V_iload_n dL_flies_217 rfl ?_
  refine V_iload dL_flies_218 rfl ?_
  refine V_iconst (0 : Int32) dL_flies_220 (by decide) ?_
  refine V_cKh (as := [.ref 2, .int (nI t), .int (nI k), .int (0 : Int32)]) (k' := 83) (n' := 498) (P_cp hg hn9 n30 ht hm9 m8 hk (by decide) K9) mw_L_ofCoupon w_430 w_429 ar_L_ofCoupon ⟨rfl, rfl, rfl, rfl, rfl⟩ dL_flies_221 (fun ω3 K3 => ?_)
  refine V_cast (st' := .int (1 : Int32) :: []) rfl (by rw [cp0, e559]) rfl ?_
  refine V_iconst (1 : Int32) dL_flies_224 (by decide) ?_
  refine V_icmp_ne 266 dL_flies_225 rfl (fun z_ => absurd z_ (by decide)) (fun _ => ?_)
  refine V_aload_n dL_flies_228 rfl ?_
  refine V_iload_n dL_flies_229 rfl ?_
  refine V_iload dL_flies_230 rfl ?_
  refine V_iconst (5 : Int32) dL_flies_232 (by decide) ?_
  refine V_cKh (as := [.ref 2, .int (nI t), .int (nI k), .int (5 : Int32)]) (k' := 82) (n' := 492) (P_cp hg hn9 n30 ht hm9 m8 hk (by decide) K3) mw_L_ofCoupon w_430 w_429 ar_L_ofCoupon ⟨rfl, rfl, rfl, rfl, rfl⟩ dL_flies_233 (fun ω4 K4 => ?_)
  refine V_cast (st' := .int (nI nb) :: []) rfl (by rw [cp5, e619]) rfl ?_
  refine V_iload dL_flies_236 rfl ?_
  refine V_icmp_ne 266 dL_flies_238 rfl (fun z_ => absurd z_ (by simp)) (fun _ => ?_)
  refine V_aload_n dL_flies_241 rfl ?_
  refine V_iload_n dL_flies_242 rfl ?_
  refine V_iload dL_flies_243 rfl ?_
  refine V_cMh (as := [.ref 2, .int (nI t), .int (nI k)]) (k' := 80) (n' := 480) (P_fly hg (Co_K C9 K4) (by omega) ((RO_3 K4.2.2 23 (by decide)).trans hn9) n30 ht ((congrFun (RO_f K4.2.2 52 (by decide) (by decide)) t).trans hm9) m8 hk) mw_L_fly w_901 w_900 ar_L_fly ⟨rfl, rfl, rfl, rfl, rfl⟩ dL_flies_245 (fun ω5 y5 K5 => ?_)
  have Kj5 : y5 = -1000003 ∧ Kp ω5 ω9 := by
    rcases K5 with ⟨-, z1, z2⟩ | ⟨⟨z1, -⟩, -⟩
    · exact ⟨z1, Kp_tr z2 K4⟩
    · exact absurd (z1.symm.trans ((congrFun (RO_f K4.2.2 55 (by decide) (by decide)) _).trans e559)) (by decide)
  obtain ⟨ye5, Ki5⟩ := Kj5
  refine V_cast (st' := .int (-1000003 : Int32) :: []) rfl (by rw [ye5]) rfl ?_
  refine V_ldc (v := (-1000003 : Int32)) w_518 dL_flies_248 ?_
  refine V_icmp_ne 266 dL_flies_250 rfl (fun z_ => absurd z_ (by decide)) (fun _ => ?_)
  refine V_aload_n dL_flies_253 rfl ?_
  refine V_aload_n dL_flies_254 rfl ?_
  refine V_iload_n dL_flies_255 rfl ?_
  refine V_cKs (as := [.ref 2, .ref 73, .int (nI t)]) (k' := 2) (n' := 12) (s_L_isTicket hg C9 G9 hn9 n30 ht hm9 m1 m8 Ki5) mw_L_isTicket w_419 w_418 ar_L_isTicket ⟨rfl, rfl, rfl, rfl, rfl⟩ dL_flies_256 (fun ω6 K6 => ?_)
  refine V_if_eq 266 dL_flies_259 rfl (fun z_ => absurd z_ (by decide)) (fun _ => ?_)
  refine V_iconst (1 : Int32) dL_flies_262 (by decide) ?_
  refine V_goto 267 dL_flies_263 rfl ?_
  refine V_zret rfl dL_flies_267 (by decide) ?_
  exact ⟨rfl, Co_K C9 K6, GE_RO K6.2.2 G9⟩
theorem flies_42 {g : GP} {σ : AH} {s : Nat} {y : Int32} (hg : gG g = none) (h : Co s σ) (hs : s < 90) (hE : GE s σ) {t k n m : Nat} (hn : zI σ 33 23 = nI n) (n30 : n ≤ 30) (ht : t < n) (hm : zI σ 52 t = nI m) (m1 : 1 ≤ m) (m8 : m ≤ 8) (hk : k < m) {st by_ : Int32} (h55 : zI σ 55 (8 * t + k) = st) (h58 : zI σ 58 (8 * t + k) = by_) (hlt : ¬ by_ < 0) : V g mL_flies (Em g mL_flies (fun ω rv => rv = some (.int 1) ∧ Co (s + 1) ω ∧ GE (s + 1) ω) NX) CT 88 528 42 [(0, .ref 2), (1, .ref 73), (2, .int y), (3, .int (nI t)), (4, .int (nI k)), (5, .int st), (6, .int by_)] [] σ := by
  refine V_iload_n dL_flies_42 rfl ?_
  refine V_bipush (9 : Int32) dL_flies_43 (by decide) ?_
  refine V_ishr dL_flies_45 ?_
  refine V_iconst (4 : Int32) dL_flies_46 (by decide) ?_
  obtain ⟨j1, hj1, hl1, P1⟩ := P_low (g := g) (σ := σ) (y >>> ((9 : Int32) &&& 31)) (N := 4) (by decide) (by decide)
  refine V_cKs (as := [.int (y >>> ((9 : Int32) &&& 31)), .int (4 : Int32)]) (k' := 88) (n' := 528) P1 mw_L_low w_454 w_453 ar_L_low ⟨rfl, rfl, rfl, rfl, rfl⟩ dL_flies_47 (fun ω1 e1 => ?_)
  rw [e1]
  refine V_if_ne 122 dL_flies_50 rfl (fun c50 => ?_) (fun c50 => ?_)
  · refine V_aload_n dL_flies_122 rfl ?_
    refine V_iload_n dL_flies_123 rfl ?_
    refine V_iload dL_flies_124 rfl ?_
    refine V_cMh (as := [.ref 2, .int (nI t), .int (nI k)]) (k' := 86) (n' := 516) (P_fly hg h (by omega) hn n30 ht hm m8 hk) mw_L_fly w_901 w_900 ar_L_fly ⟨rfl, rfl, rfl, rfl, rfl⟩ dL_flies_126 (fun ω2 y2 K2 => ?_)
    refine V_istore [(0, .ref 2), (1, .ref 73), (2, .int y), (3, .int (nI t)), (4, .int (nI k)), (5, .int st), (6, .int by_), (7, .int y2)] dL_flies_129 rfl rfl ?_
    rcases K2 with ⟨hr, rfl, Kω⟩ | ⟨⟨z1, z2⟩, Cω, e55, e61, e52, ⟨e51, e58, e59⟩, hc⟩
    · exact flies_131n hg h hs hE hn n30 ht hm m1 m8 hk h55 h58 hr Kω
    · have z5 : st = 0 := h55.symm.trans z1
      obtain ⟨nb, b240, hb, -⟩ := Rel_bl h.2.1
      have g3 : zI σ 73 3 = nI nb := hE.2.2.2.1.trans hb
      rw [z5]
      rcases hc with ⟨o1, o2, hN⟩ | ⟨o1, o2, hN, nb', b1, b2, b3⟩
      · rw [o2] at e61 ⊢
        have e36 := (hN.1 36 (by omega) id).trans hb
        exact flies_131o hg hs Cω ((hN.1 23 (by omega) id).trans hn) n30 ht ((congrFun e52 t).trans hm) m1 m8 hk ((congrFun hN.2.2.1 3).trans g3) ((congrFun hN.2.2.1 0).trans (hE.1.trans (hN.1 0 (by omega) id).symm)) (by rw [hN.1 0 (by omega) id, e59]; exact z2) (congrFun e51 t) e55 e61 (h58.symm.trans o1) (fun τ K => GE_fly (GE_s (Nat.le_succ s) hE) (NW_K K.2.2 (NW_36 hN)) ((RO_3 K.2.2 36 (by decide)).trans e36))
      · rw [o2, hb] at e61 ⊢
        have eb : nb' = nb := q_of (by omega) (by omega) (b2.symm.trans hb)
        subst eb
        exact flies_131b hg hs Cω ((hN.1 23 (by omega) (by decide)).trans hn) n30 ht ((congrFun e52 t).trans hm) m1 m8 hk ((congrFun hN.2.2.1 3).trans g3) ((congrFun hN.2.2.1 0).trans (hE.1.trans (hN.1 0 (by omega) (by decide)).symm)) (by rw [hN.1 0 (by omega) (by decide), e59]; exact z2) (congrFun e51 t) e55 e61 (fun z => o1 (h58.trans z)) (fun τ K => GE_fly (GE_s (Nat.le_succ s) hE) (NW_K K.2.2 hN) ((RO_3 K.2.2 36 (by decide)).trans b3))
  · refine V_iload_n dL_flies_53 rfl ?_
    refine V_bipush (11 : Int32) dL_flies_54 (by decide) ?_
    refine V_ishr dL_flies_56 ?_
    refine V_iconst (5 : Int32) dL_flies_57 (by decide) ?_
    obtain ⟨j3, hj3, hl3, P3⟩ := P_low (g := g) (σ := σ) (y >>> ((11 : Int32) &&& 31)) (N := 5) (by decide) (by decide)
    refine V_cKs (as := [.int (y >>> ((11 : Int32) &&& 31)), .int (5 : Int32)]) (k' := 88) (n' := 528) P3 mw_L_low w_454 w_453 ar_L_low ⟨rfl, rfl, rfl, rfl, rfl⟩ dL_flies_58 (fun ω3 e3 => ?_)
    rw [e3]
    refine V_istore [(0, .ref 2), (1, .ref 73), (2, .int y), (3, .int (nI t)), (4, .int (nI k)), (5, .int st), (6, .int by_), (7, .int (nI j3))] dL_flies_61 rfl rfl ?_
    refine V_aload_n dL_flies_63 rfl ?_
    refine V_iload_n dL_flies_64 rfl ?_
    refine V_iload dL_flies_65 rfl ?_
    refine V_iload dL_flies_67 rfl ?_
    refine V_cMh (as := [.ref 2, .int (nI t), .int (nI k), .int (nI j3)]) (k' := 87) (n' := 522) (P_endorse hg h hn n30 ht hm m8 hk (ca_lt (by omega))) mw_L_endorse w_892 w_891 ar_L_endorse ⟨rfl, rfl, rfl, rfl, rfl⟩ dL_flies_69 (fun ω4 y4 K4 => ?_)
    refine V_istore [(0, .ref 2), (1, .ref 73), (2, .int y), (3, .int (nI t)), (4, .int (nI k)), (5, .int st), (6, .int by_), (7, .int (nI j3)), (8, .int y4)] dL_flies_72 rfl rfl ?_
    rcases K4 with ⟨hr, rfl, Kω⟩ | ⟨⟨z1, z2⟩, z3, Cω, hN, e58, e52⟩
    · exact flies_74n hg h hs hE hn n30 ht hm m1 m8 hk h55 h58 hr Kω
    · have z4 : y4 = by_ := z3.trans h58
      have z5 : st = 0 := h55.symm.trans z1
      rw [z4, z5]
      exact flies_74y hg hs hE ((hN.1 23 (by omega) id).trans hn) n30 ht ((congrFun e52 t).trans hm) m1 m8 hk Cω hN e58 (fun z => z2 (h58.trans z)) hlt
theorem s_L_flies {g : GP} {σ : AH} {s : Nat} {y : Int32} (hg : gG g = none) (h : Co s σ) (hs : s < 90) (hE : GE s σ) {n : Nat} (hn : zI σ 33 23 = nI n) (hn3 : n ≤ 30) (n1 : 1 ≤ n) : Ct g mL_flies [.ref 2, .ref 73, .int y] σ (fun ω rv => rv = some (.int 1) ∧ Co (s + 1) ω ∧ GE (s + 1) ω) := by
  obtain ⟨n', n30', hn', htk'⟩ := Rel_tk h.2.1
  have en : n = n' := q_of (by omega) (by omega) (hn.symm.trans hn')
  have n30 : n ≤ 30 := en ▸ n30'
  have htk := en ▸ htk'
  refine Ct_of (by decide +kernel) rfl rfl ?_
  refine V_iload_n dL_flies_0 rfl ?_
  refine V_aload_n dL_flies_1 rfl ?_
  refine V_iconst (2 : Int32) dL_flies_2 (by decide) ?_
  refine V_gald dL_flies_3 (by decide) (ga73 h.2.2.1).1 (vp_l (n := 7) (ga73 h.2.2.1).2 (vp_in_nI (n := 2) (by decide) (by decide))) ?_
  refine V_cast (st' := .int (zI σ 73 2) :: [.int y]) rfl rfl rfl ?_
  refine V_cast (st' := .int (nI n) :: [.int y]) rfl (by rw [hE.2.2.1, hn]) rfl ?_
  obtain ⟨j1, hj1, hl1, P1⟩ := P_low (g := g) (σ := σ) y (N := n) (by omega) (by omega)
  refine V_cKs (as := [.int y, .int (nI n)]) (k' := 91) (n' := 546) P1 mw_L_low w_454 w_453 ar_L_low ⟨rfl, rfl, rfl, rfl, rfl⟩ dL_flies_4 (fun ω1 e1 => ?_)
  rw [e1]
  refine V_istore_n [(0, .ref 2), (1, .ref 73), (2, .int y), (3, .int (nI j1))] dL_flies_7 rfl rfl ?_
  obtain ⟨m, m1, m8, hm, -, hcp⟩ := htk j1 hj1
  refine V_iload_n dL_flies_8 rfl ?_
  refine V_iconst (5 : Int32) dL_flies_9 (by decide) ?_
  refine V_ishr dL_flies_10 ?_
  refine V_aload_n dL_flies_11 rfl ?_
  refine V_iload_n dL_flies_12 rfl ?_
  refine V_iconst (3 : Int32) dL_flies_13 (by decide) ?_
  refine V_cKh (as := [.ref 2, .int (nI j1), .int (3 : Int32)]) (k' := 90) (n' := 540) (P_tk hg hn n30 hj1 (by decide) (Co_Kp h)) mw_L_ofTicket w_422 w_421 ar_L_ofTicket ⟨rfl, rfl, rfl, rfl, rfl⟩ dL_flies_14 (fun ω2 K2 => ?_)
  refine V_cast (st' := .int (nI m) :: [.int (y >>> ((5 : Int32) &&& 31))]) rfl (by rw [tk3, hm]) rfl ?_
  obtain ⟨j3, hj3, hl3, P3⟩ := P_low (g := g) (σ := ω2) (y >>> ((5 : Int32) &&& 31)) (N := m) (by omega) (by omega)
  refine V_cKs (as := [.int (y >>> ((5 : Int32) &&& 31)), .int (nI m)]) (k' := 90) (n' := 540) P3 mw_L_low w_454 w_453 ar_L_low ⟨rfl, rfl, rfl, rfl, rfl⟩ dL_flies_17 (fun ω3 e3 => ?_)
  rw [e3]
  refine V_istore [(0, .ref 2), (1, .ref 73), (2, .int y), (3, .int (nI j1)), (4, .int (nI j3))] dL_flies_20 rfl rfl ?_
  refine V_aload_n dL_flies_22 rfl ?_
  refine V_iload_n dL_flies_23 rfl ?_
  refine V_iload dL_flies_24 rfl ?_
  refine V_iconst (0 : Int32) dL_flies_26 (by decide) ?_
  refine V_cKh (as := [.ref 2, .int (nI j1), .int (nI j3), .int (0 : Int32)]) (k' := 89) (n' := 534) (P_cp hg hn n30 hj1 hm m8 hj3 (by decide) K2) mw_L_ofCoupon w_430 w_429 ar_L_ofCoupon ⟨rfl, rfl, rfl, rfl, rfl⟩ dL_flies_27 (fun ω4 K4 => ?_)
  refine V_cast (st' := .int (zI σ 55 (8 * j1 + j3)) :: []) rfl (by rw [cp0]) rfl ?_
  refine V_istore [(0, .ref 2), (1, .ref 73), (2, .int y), (3, .int (nI j1)), (4, .int (nI j3)), (5, .int (zI σ 55 (8 * j1 + j3)))] dL_flies_30 rfl rfl ?_
  refine V_aload_n dL_flies_32 rfl ?_
  refine V_iload_n dL_flies_33 rfl ?_
  refine V_iload dL_flies_34 rfl ?_
  refine V_iconst (3 : Int32) dL_flies_36 (by decide) ?_
  refine V_cKh (as := [.ref 2, .int (nI j1), .int (nI j3), .int (3 : Int32)]) (k' := 88) (n' := 528) (P_cp hg hn n30 hj1 hm m8 hj3 (by decide) K4) mw_L_ofCoupon w_430 w_429 ar_L_ofCoupon ⟨rfl, rfl, rfl, rfl, rfl⟩ dL_flies_37 (fun ω5 K5 => ?_)
  refine V_cast (st' := .int (zI σ 58 (8 * j1 + j3)) :: []) rfl (by rw [cp3]) rfl ?_
  refine V_istore [(0, .ref 2), (1, .ref 73), (2, .int y), (3, .int (nI j1)), (4, .int (nI j3)), (5, .int (zI σ 55 (8 * j1 + j3))), (6, .int (zI σ 58 (8 * j1 + j3)))] dL_flies_40 rfl rfl ?_
  have w := (hcp j3 hj3).2.1
  obtain ⟨b0, hb0, eb0⟩ := vp_in_of (n := 5) w (by decide)
  exact flies_42 hg (Co_K h K5) hs (GE_RO K5.2.2 hE) ((RO_3 K5.2.2 23 (by decide)).trans hn) n30 hj1 ((congrFun (RO_f K5.2.2 52 (by decide) (by decide)) j1).trans hm) m1 m8 hj3 (congrFun (RO_f K5.2.2 55 (by decide) (by decide)) _) (congrFun (RO_f K5.2.2 58 (by decide) (by decide)) _) (by rw [eb0]; exact c_nlt (b := 0) (by omega) (by omega))
