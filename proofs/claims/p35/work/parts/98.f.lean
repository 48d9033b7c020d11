/-! ===== the law: isWay ===== -/
theorem EqP_RO {τ σ : AH} (hO : RO τ σ) : EqP τ σ := ⟨RO_3 hO 0 (by decide), RO_3 hO 6 (by decide), RO_3 hO 14 (by decide), RO_3 hO 16 (by decide), fun a k h1 h2 => hO.1 a k (by omega) (by omega) (by omega) (by omega)⟩
theorem Kp_tr {ρ τ σ : AH} (h : Kp ρ τ) (h' : Kp τ σ) : Kp ρ σ := ⟨h.1, h.2.1, RO_tr h.2.2 h'.2.2⟩
theorem GE_6 {s w : Nat} {σ : AH} (h : GE s σ) (hw : w ≤ s) : GE (s + 1) (uI σ 73 6 (nI (w + 1))) := by
  obtain ⟨h1, h2, h3, h4, h5, h6, -, h8⟩ := h
  have e : ∀ j, j ≠ 6 → zI (uI σ 73 6 (nI (w + 1))) 73 j = zI σ 73 j := fun j hj => by rw [zI_uI, if_neg (by omega)]
  have e' : ∀ a, a ≠ 73 → zI (uI σ 73 6 (nI (w + 1))) a = zI σ a := fun a ha => funext fun j => by rw [zI_uI, if_neg (by omega)]
  unfold GE
  rw [e 0 (by decide), e 1 (by decide), e 2 (by decide), e 3 (by decide), e 4 (by decide), e 5 (by decide), e' 33 (by decide), e' 74 (by decide), e' 47 (by decide), e' 49 (by decide)]
  exact ⟨h1, h2, h3, h4, h5, h6, ⟨w + 1, by omega, by rw [zI_uI, if_pos ⟨rfl, rfl⟩]⟩, h8⟩
/-- a ticket can't be issued without a price -/
theorem no_issue {g : GP} {σ σ1 : AH} {s c : Nat} {y : Int32} {ω : AH} (hw : (wayF σ1).1 = -1) (hK : Kp σ σ1) (h : (y = -1000003 ∧ Kp ω σ) ∨ (∃ n L, n < 30 ∧ zI σ 33 23 = nI n ∧ 1 ≤ L ∧ L ≤ 8 ∧ zI σ 33 16 = nI L ∧ ¬ (wayF σ).1 = -1 ∧ y = nI n ∧ Co s ω ∧ NW (fun j => j = 16 ∨ j = 23) ω σ ∧ zI ω 33 23 = nI (n + 1) ∧ zI ω 33 16 = 0 ∧ zI ω 50 n = (wayF σ).1 ∧ zI ω 51 n = nI c ∧ zI ω 52 n = nI L ∧ zJ ω 33 48 = zJ σ 33 48 + Int32.toInt64 ((wayF σ).1 + smI (fun k => zI ω 57 (8 * n + k)) L) ∧ bt (smI (fun k => zI ω 57 (8 * n + k)) L) 0 8000)) : y = -1000003 ∧ Kp ω σ1 := by
  rcases h with ⟨h1, h2⟩ | ⟨n, L, -, -, -, -, -, q, -⟩
  · exact ⟨h1, Kp_tr h2 hK⟩
  · rw [wayF_eq (EqP_RO hK.2.2)] at q
    exact absurd hw q
theorem even_n {m : Nat} (h : 2 * m < 2 ^ 30) : nI (2 * m) - nI (2 * m) / (2 : Int32) * (2 : Int32) = 0 := by
  have e := rem_n (a := 2 * m) (N := 2) (by decide) (by decide) h
  rw [show 2 * m % 2 = 0 by omega] at e
  exact e
theorem sumSt_cutS {P : Nat → Nat → Int32} {set L j : Nat} (h : ¬ (sumSt P set L (j + 1)).1 = -1) (hc : j + 1 = L ∨ set.testBit (j + 1) = true) : 0 ≤ P (sumSt P set L j).2 (j + 1) ∧ sumSt P set L (j + 1) = ((sumSt P set L j).1 + P (sumSt P set L j).2 (j + 1), j + 1) := by
  have h0 := sumSt_ok (d := 1) h
  rw [sumSt, if_neg h0, if_pos hc] at h ⊢
  dsimp only at h ⊢
  by_cases h1 : 0 ≤ P (sumSt P set L j).2 (j + 1)
  · rw [if_pos h1]; exact ⟨h1, rfl⟩
  · rw [if_neg h1] at h; exact absurd rfl h
theorem sumSt_noS {P : Nat → Nat → Int32} {set L j : Nat} (h : ¬ (sumSt P set L (j + 1)).1 = -1) (hc : ¬ (j + 1 = L ∨ set.testBit (j + 1) = true)) : sumSt P set L (j + 1) = sumSt P set L j := by
  have h0 := sumSt_ok (d := 1) h
  rw [sumSt, if_neg h0, if_neg hc]
theorem mm8 {a0 a1 a2 a3 a4 a5 a6 a7 a8 : Nat × Value} : ∀ q ∈ [a0, a1, a2, a3, a4, a5, a6, a7], q ∈ [a0, a1, a2, a3, a4, a5, a6, a7, a8] := fun q hq => by
  simp only [List.mem_cons, List.not_mem_nil, or_false] at hq ⊢
  rcases hq with h | h | h | h | h | h | h | h <;> simp [h]
theorem nlt3 {x pr : Int32} (h : bt x (-3) (-1) ∨ (bt x 1 63000 ∧ pr ≤ x)) (c : ¬ 0 ≤ x) (z : x < -3) : False := by
  rw [Int32.lt_iff_toInt_lt] at z
  change _ < (-3 : Int) at z
  rcases h with q | q
  · have := q.1; omega
  · have := q.1.1; omega
theorem nlt4 {x pr : Int32} (h : bt x (-3) (-1) ∨ (bt x 1 63000 ∧ pr ≤ x)) (c : 0 ≤ x) (z : x < pr) : False := by
  rw [Int32.lt_iff_toInt_lt] at z
  rw [Int32.le_iff_toInt_le, zero_toInt] at c
  rcases h with q | q
  · have := q.2; omega
  · have := Int32.le_iff_toInt_le.mp q.2; omega
theorem lp_isWay {g : GP} {σ1 : AH} {s L : Nat} (hg : gG g = none) (C1 : Co s σ1) (G1 : GE (s + 1) σ1) (hL : zI σ1 33 16 = nI L) (L8 : L ≤ 8) (g1 : zI σ1 73 1 = nI L) {m : Nat} {pr : Int32} (hm : 2 * m < 2 ^ 30) (L1 : 1 ≤ L) (hP : PQ (partF σ1)) (hok : ¬ (sumSt (partF σ1) (2 * m) L L).1 = -1) (hpr : (sumSt (partF σ1) (2 * m) L L).1 = pr) (hw : (wayF σ1).1 = pr) (hwh : bt (partF σ1 0 L) (-3) (-1) ∨ (bt (partF σ1 0 L) 1 63000 ∧ pr ≤ partF σ1 0 L)) : ∀ r j ω, j + r = L → Kp ω σ1 → V g mL_isWay (Em g mL_isWay (fun ω rv => rv = some (.int 1) ∧ Co s ω ∧ GE (s + 1) ω) NX) CT (r + 2) (6 * r + 12) 125 [(0, .ref 2), (1, .ref 73), (2, .int pr), (3, .int (nI (2 * m))), (4, .int ((sumSt (partF σ1) (2 * m) L j).1)), (5, .int (nI (sumSt (partF σ1) (2 * m) L j).2)), (6, .int (1 : Int32)), (7, .int (nI (j + 1)))] [] ω := by
  intro r
  induction r with
  | zero =>
    intro j ω hj Kω
    have ej : j = L := by omega
    subst ej
    rw [hpr]
    refine V_iload dL_isWay_125 rfl ?_
    refine V_aload_n dL_isWay_127 rfl ?_
    refine V_iconst (1 : Int32) dL_isWay_128 (by decide) ?_
    refine V_gald dL_isWay_129 (by decide) (ga73 Kω.2.1).1 (vp_l (n := 7) (ga73 Kω.2.1).2 (vp_in_nI (n := 1) (by decide) (by decide))) ?_
    refine V_cast (st' := .int (zI ω 73 1) :: [.int (nI (j + 1))]) rfl rfl rfl ?_
    refine V_cast (st' := .int (nI j) :: [.int (nI (j + 1))]) rfl (by rw [gk Kω.2.2 1, g1]) rfl ?_
    refine V_icmp_gt 195 dL_isWay_130 rfl (fun _ => ?_) (fun z_ => absurd (show (nI j) < (nI (j + 1)) from c_lt (by omega) (by omega)) z_)
    refine V_aload_n dL_isWay_195 rfl ?_
    refine V_iconst (0 : Int32) dL_isWay_196 (by decide) ?_
    refine V_aload_n dL_isWay_197 rfl ?_
    refine V_iconst (1 : Int32) dL_isWay_198 (by decide) ?_
    refine V_gald dL_isWay_199 (by decide) (ga73 Kω.2.1).1 (vp_l (n := 7) (ga73 Kω.2.1).2 (vp_in_nI (n := 1) (by decide) (by decide))) ?_
    refine V_cast (st' := .int (zI ω 73 1) :: [.int (0 : Int32), .ref 2]) rfl rfl rfl ?_
    refine V_cast (st' := .int (nI j) :: [.int (0 : Int32), .ref 2]) rfl (by rw [gk Kω.2.2 1, g1]) rfl ?_
    refine V_cKh (as := [.ref 2, .int (0 : Int32), .int (nI j)]) (k' := 1) (n' := 6) (P_part (i := 0) hg hL L8 (by omega) (Nat.le_refl j) Kω) mw_L_part w_687 w_686 ar_L_part ⟨rfl, rfl, rfl, rfl, rfl⟩ dL_isWay_200 (fun ω1 K1 => ?_)
    refine V_istore [(0, .ref 2), (1, .ref 73), (2, .int pr), (3, .int (nI (2 * m))), (4, .int pr), (5, .int (nI (sumSt (partF σ1) (2 * m) j j).2)), (6, .int (1 : Int32)), (7, .int (partF σ1 0 j))] dL_isWay_203 rfl rfl ?_
    refine V_iload dL_isWay_205 rfl ?_
    refine V_if_eq 264 dL_isWay_207 rfl (fun z_ => absurd z_ (by decide)) (fun _ => ?_)
    refine V_iload dL_isWay_210 rfl ?_
    refine V_iload_n dL_isWay_212 rfl ?_
    refine V_icmp_ne 264 dL_isWay_213 rfl (fun z_ => absurd z_ (by simp)) (fun _ => ?_)
    refine V_aload_n dL_isWay_216 rfl ?_
    refine V_cKv (as := []) (k' := 1) (n' := 6) (P_priceAnew hg K1) mw_X11_priceAnew ko_X11 rfl w_675 w_676 w_674 ar_X11_priceAnew ⟨rfl, rfl, rfl, rfl, rfl⟩ dL_isWay_217 (by decide) (shk K1.1.2.1 2 rfl) (fun ω2 K2 => ?_)
    refine V_cast (st' := .int pr :: []) rfl (by rw [hw]) rfl ?_
    refine V_iload_n dL_isWay_220 rfl ?_
    refine V_icmp_ne 264 dL_isWay_221 rfl (fun z_ => absurd z_ (by simp)) (fun _ => ?_)
    refine V_iload dL_isWay_224 rfl ?_
    refine V_if_ge 239 dL_isWay_226 rfl (fun cw => ?_) (fun cw => ?_)
    · refine V_iload_n dL_isWay_239 rfl ?_
      refine V_iload dL_isWay_240 rfl ?_
      refine V_icmp_gt 264 dL_isWay_242 rfl (fun z_ => absurd z_ (fun z => nlt4 hwh cw z)) (fun _ => ?_)
      refine V_aload_n dL_isWay_245 rfl ?_
      refine V_iconst (0 : Int32) dL_isWay_246 (by decide) ?_
      refine V_aload_n dL_isWay_247 rfl ?_
      refine V_iconst (1 : Int32) dL_isWay_248 (by decide) ?_
      refine V_gald dL_isWay_249 (by decide) (ga73 K2.2.1).1 (vp_l (n := 7) (ga73 K2.2.1).2 (vp_in_nI (n := 1) (by decide) (by decide))) ?_
      refine V_cast (st' := .int (zI ω2 73 1) :: [.int (0 : Int32), .ref 2]) rfl rfl rfl ?_
      refine V_cast (st' := .int (nI j) :: [.int (0 : Int32), .ref 2]) rfl (by rw [gk K2.2.2 1, g1]) rfl ?_
      refine V_iconst (1 : Int32) dL_isWay_250 (by decide) ?_
      refine V_iadd dL_isWay_251 ?_
      refine V_cast (st' := .int (nI (j + 1)) :: [.int (0 : Int32), .ref 2]) rfl (by rw [nI_1]) rfl ?_
      refine V_cKh (as := [.ref 2, .int (0 : Int32), .int (nI (j + 1))]) (k' := 0) (n' := 0) (P_partO hg hL L8 K2) mw_L_part w_687 w_686 ar_L_part ⟨rfl, rfl, rfl, rfl, rfl⟩ dL_isWay_252 (fun ω3 K3 => ?_)
      refine V_ldc (v := (-1000001 : Int32)) w_351 dL_isWay_255 ?_
      refine V_icmp_ne 264 dL_isWay_257 rfl (fun z_ => absurd z_ (by decide)) (fun _ => ?_)
      refine V_iconst (1 : Int32) dL_isWay_260 (by decide) ?_
      refine V_goto 265 dL_isWay_261 rfl ?_
      refine V_zret rfl dL_isWay_265 (by decide) ?_
      exact ⟨rfl, Co_K C1 K3, GE_RO K3.2.2 G1⟩
    · refine V_iload dL_isWay_229 rfl ?_
      refine V_bipush (-3 : Int32) dL_isWay_231 (by decide) ?_
      refine V_icmp_lt 264 dL_isWay_233 rfl (fun z_ => absurd z_ (fun z => nlt3 hwh cw z)) (fun _ => ?_)
      refine V_goto 245 dL_isWay_236 rfl ?_
      refine V_aload_n dL_isWay_245 rfl ?_
      refine V_iconst (0 : Int32) dL_isWay_246 (by decide) ?_
      refine V_aload_n dL_isWay_247 rfl ?_
      refine V_iconst (1 : Int32) dL_isWay_248 (by decide) ?_
      refine V_gald dL_isWay_249 (by decide) (ga73 K2.2.1).1 (vp_l (n := 7) (ga73 K2.2.1).2 (vp_in_nI (n := 1) (by decide) (by decide))) ?_
      refine V_cast (st' := .int (zI ω2 73 1) :: [.int (0 : Int32), .ref 2]) rfl rfl rfl ?_
      refine V_cast (st' := .int (nI j) :: [.int (0 : Int32), .ref 2]) rfl (by rw [gk K2.2.2 1, g1]) rfl ?_
      refine V_iconst (1 : Int32) dL_isWay_250 (by decide) ?_
      refine V_iadd dL_isWay_251 ?_
      refine V_cast (st' := .int (nI (j + 1)) :: [.int (0 : Int32), .ref 2]) rfl (by rw [nI_1]) rfl ?_
      refine V_cKh (as := [.ref 2, .int (0 : Int32), .int (nI (j + 1))]) (k' := 0) (n' := 0) (P_partO hg hL L8 K2) mw_L_part w_687 w_686 ar_L_part ⟨rfl, rfl, rfl, rfl, rfl⟩ dL_isWay_252 (fun ω4 K4 => ?_)
      refine V_ldc (v := (-1000001 : Int32)) w_351 dL_isWay_255 ?_
      refine V_icmp_ne 264 dL_isWay_257 rfl (fun z_ => absurd z_ (by decide)) (fun _ => ?_)
      refine V_iconst (1 : Int32) dL_isWay_260 (by decide) ?_
      refine V_goto 265 dL_isWay_261 rfl ?_
      refine V_zret rfl dL_isWay_265 (by decide) ?_
      exact ⟨rfl, Co_K C1 K4, GE_RO K4.2.2 G1⟩
  | succ r ih =>
    intro j ω hj Kω
    have hjL : j < L := by omega
    have okj : ¬ (sumSt (partF σ1) (2 * m) L (j + 1)).1 = -1 := sumSt_ok (d := L - (j + 1)) (by rw [show j + 1 + (L - (j + 1)) = L by omega]; exact hok)
    have hle := sumSt_le (P := partF σ1) (set := 2 * m) (L := L) j
    have hb := bit_t (set := 2 * m) (k := j + 1) hm (by omega)
    have IH := fun ω Kω => ih (j + 1) ω (by omega) Kω
    have ekk : r + 1 + 2 = (r + 2) + 1 ∧ 6 * (r + 1) + 12 = (6 * r + 12) + 6 := ⟨by omega, by omega⟩
    rw [ekk.1, ekk.2]
    generalize r + 2 = kk at IH ⊢
    generalize 6 * r + 12 = nn at IH ⊢
    have k156 : (j + 1 = L ∨ (2 * m).testBit (j + 1) = true) → ∀ ω, Kp ω σ1 → V g mL_isWay (Em g mL_isWay (fun ω rv => rv = some (.int 1) ∧ Co s ω ∧ GE (s + 1) ω) NX) CT (kk + 1) (nn + 6) 156 [(0, .ref 2), (1, .ref 73), (2, .int pr), (3, .int (nI (2 * m))), (4, .int ((sumSt (partF σ1) (2 * m) L j).1)), (5, .int (nI (sumSt (partF σ1) (2 * m) L j).2)), (6, .int (1 : Int32)), (7, .int (nI (j + 1)))] [] ω := fun hcut ω Kω => by
      obtain ⟨h0, est⟩ := sumSt_cutS okj hcut
      refine V_aload_n dL_isWay_156 rfl ?_
      refine V_iload dL_isWay_157 rfl ?_
      refine V_iload dL_isWay_159 rfl ?_
      refine V_cKh (as := [.ref 2, .int (nI (sumSt (partF σ1) (2 * m) L j).2), .int (nI (j + 1))]) (k' := kk + 0) (n' := nn + 0) (P_part hg hL L8 (by omega) (by omega) Kω) mw_L_part w_687 w_686 ar_L_part ⟨rfl, rfl, Nat.ble_eq_true_of_le (show 1 + (kk + 0) ≤ kk + 1 by omega), Nat.ble_eq_true_of_le (show 6 + (nn + 0) ≤ nn + 6 by omega), rfl⟩ dL_isWay_161 (fun ω101 K101 => ?_)
      refine V_istore [(0, .ref 2), (1, .ref 73), (2, .int pr), (3, .int (nI (2 * m))), (4, .int ((sumSt (partF σ1) (2 * m) L j).1)), (5, .int (nI (sumSt (partF σ1) (2 * m) L j).2)), (6, .int (1 : Int32)), (7, .int (nI (j + 1))), (8, .int (partF σ1 (sumSt (partF σ1) (2 * m) L j).2 (j + 1)))] dL_isWay_164 rfl rfl ?_
      refine V_iload dL_isWay_166 rfl ?_
      refine V_iload dL_isWay_168 rfl ?_
      refine V_iadd dL_isWay_170 ?_
      refine V_istore [(0, .ref 2), (1, .ref 73), (2, .int pr), (3, .int (nI (2 * m))), (4, .int (((sumSt (partF σ1) (2 * m) L j).1) + (partF σ1 (sumSt (partF σ1) (2 * m) L j).2 (j + 1)))), (5, .int (nI (sumSt (partF σ1) (2 * m) L j).2)), (6, .int (1 : Int32)), (7, .int (nI (j + 1))), (8, .int (partF σ1 (sumSt (partF σ1) (2 * m) L j).2 (j + 1)))] dL_isWay_171 rfl rfl ?_
      refine V_iload dL_isWay_173 rfl ?_
      refine V_istore [(0, .ref 2), (1, .ref 73), (2, .int pr), (3, .int (nI (2 * m))), (4, .int (((sumSt (partF σ1) (2 * m) L j).1) + (partF σ1 (sumSt (partF σ1) (2 * m) L j).2 (j + 1)))), (5, .int (nI (j + 1))), (6, .int (1 : Int32)), (7, .int (nI (j + 1))), (8, .int (partF σ1 (sumSt (partF σ1) (2 * m) L j).2 (j + 1)))] dL_isWay_175 rfl rfl ?_
      refine V_iload dL_isWay_177 rfl ?_
      refine V_if_le 186 dL_isWay_179 rfl (fun z_ => absurd z_ (fun z => by rw [Int32.le_iff_toInt_le, zero_toInt] at z; have := (PQ_pos hP h0).1; omega)) (fun _ => ?_)
      refine V_iconst (1 : Int32) dL_isWay_182 (by decide) ?_
      refine V_goto 187 dL_isWay_183 rfl ?_
      refine V_istore [(0, .ref 2), (1, .ref 73), (2, .int pr), (3, .int (nI (2 * m))), (4, .int (((sumSt (partF σ1) (2 * m) L j).1) + (partF σ1 (sumSt (partF σ1) (2 * m) L j).2 (j + 1)))), (5, .int (nI (j + 1))), (6, .int (1 : Int32)), (7, .int (nI (j + 1))), (8, .int (partF σ1 (sumSt (partF σ1) (2 * m) L j).2 (j + 1)))] dL_isWay_187 rfl rfl ?_
      refine V_iinc (nI (j + 1 + 1)) [(0, .ref 2), (1, .ref 73), (2, .int pr), (3, .int (nI (2 * m))), (4, .int (((sumSt (partF σ1) (2 * m) L j).1) + (partF σ1 (sumSt (partF σ1) (2 * m) L j).2 (j + 1)))), (5, .int (nI (j + 1))), (6, .int (1 : Int32)), (7, .int (nI (j + 1 + 1))), (8, .int (partF σ1 (sumSt (partF σ1) (2 * m) L j).2 (j + 1)))] dL_isWay_189 (nI_1 (j + 1)) rfl rfl rfl ?_
      refine V_goto 125 dL_isWay_192 rfl ?_
      refine V_less (k' := kk) (n' := nn) (ls' := [(0, .ref 2), (1, .ref 73), (2, .int pr), (3, .int (nI (2 * m))), (4, .int (((sumSt (partF σ1) (2 * m) L j).1) + (partF σ1 (sumSt (partF σ1) (2 * m) L j).2 (j + 1)))), (5, .int (nI (j + 1))), (6, .int (1 : Int32)), (7, .int (nI (j + 1 + 1)))]) mm8 (by omega) (by omega) ?_
      have IH1 := IH ω101 K101
      rw [est] at IH1
      exact IH1
    refine V_iload dL_isWay_125 rfl ?_
    refine V_aload_n dL_isWay_127 rfl ?_
    refine V_iconst (1 : Int32) dL_isWay_128 (by decide) ?_
    refine V_gald dL_isWay_129 (by decide) (ga73 Kω.2.1).1 (vp_l (n := 7) (ga73 Kω.2.1).2 (vp_in_nI (n := 1) (by decide) (by decide))) ?_
    refine V_cast (st' := .int (zI ω 73 1) :: [.int (nI (j + 1))]) rfl rfl rfl ?_
    refine V_cast (st' := .int (nI L) :: [.int (nI (j + 1))]) rfl (by rw [gk Kω.2.2 1, g1]) rfl ?_
    refine V_icmp_gt 195 dL_isWay_130 rfl (fun z_ => absurd z_ (show ¬ ((nI L) < (nI (j + 1))) from c_nlt (by omega) (by omega))) (fun _ => ?_)
    refine V_iload dL_isWay_133 rfl ?_
    refine V_if_eq 195 dL_isWay_135 rfl (fun z_ => absurd z_ (by decide)) (fun _ => ?_)
    refine V_iload dL_isWay_138 rfl ?_
    refine V_aload_n dL_isWay_140 rfl ?_
    refine V_iconst (1 : Int32) dL_isWay_141 (by decide) ?_
    refine V_gald dL_isWay_142 (by decide) (ga73 Kω.2.1).1 (vp_l (n := 7) (ga73 Kω.2.1).2 (vp_in_nI (n := 1) (by decide) (by decide))) ?_
    refine V_cast (st' := .int (zI ω 73 1) :: [.int (nI (j + 1))]) rfl rfl rfl ?_
    refine V_cast (st' := .int (nI L) :: [.int (nI (j + 1))]) rfl (by rw [gk Kω.2.2 1, g1]) rfl ?_
    refine V_icmp_eq 156 dL_isWay_143 rfl (fun ce => ?_) (fun ce => ?_)
    · exact k156 (Or.inl (q_of (by omega) (by omega) ce)) ω Kω
    · refine V_iload_n dL_isWay_146 rfl ?_
      refine V_iload dL_isWay_147 rfl ?_
      refine V_ishr dL_isWay_149 ?_
      refine V_iconst (1 : Int32) dL_isWay_150 (by decide) ?_
      refine V_iand dL_isWay_151 ?_
      refine V_iconst (1 : Int32) dL_isWay_152 (by decide) ?_
      refine V_icmp_ne 189 dL_isWay_153 rfl (fun cb => ?_) (fun cb => ?_)
      · have hno : ¬ (j + 1 = L ∨ (2 * m).testBit (j + 1) = true) := fun q => q.elim (fun q => ce (by rw [q])) (fun q => cb (hb.mpr q))
        refine V_iinc (nI (j + 1 + 1)) [(0, .ref 2), (1, .ref 73), (2, .int pr), (3, .int (nI (2 * m))), (4, .int ((sumSt (partF σ1) (2 * m) L j).1)), (5, .int (nI (sumSt (partF σ1) (2 * m) L j).2)), (6, .int (1 : Int32)), (7, .int (nI (j + 1 + 1)))] dL_isWay_189 (nI_1 (j + 1)) rfl rfl rfl ?_
        refine V_goto 125 dL_isWay_192 rfl ?_
        refine V_less (k' := kk) (n' := nn) (ls' := [(0, .ref 2), (1, .ref 73), (2, .int pr), (3, .int (nI (2 * m))), (4, .int ((sumSt (partF σ1) (2 * m) L j).1)), (5, .int (nI (sumSt (partF σ1) (2 * m) L j).2)), (6, .int (1 : Int32)), (7, .int (nI (j + 1 + 1)))]) (fun q hq => hq) (by omega) (by omega) ?_
        have IH1 := IH ω Kω
        rw [sumSt_noS okj hno] at IH1
        exact IH1
      · exact k156 (Or.inr (hb.mp cb)) ω Kω
theorem w19A_isWay {g : GP} {σ1 : AH} {s : Nat} (hg : gG g = none) (C1 : Co s σ1) (G1 : GE (s + 1) σ1) (g1 : zI σ1 73 1 = 0) (hw1 : (wayF σ1).1 = -1) (hw2 : (wayF σ1).2 = -1) : V g mL_isWay (Em g mL_isWay (fun ω rv => rv = some (.int 1) ∧ Co s ω ∧ GE (s + 1) ω) NX) CT 23 166 19 [(0, .ref 2), (1, .ref 73)] [] σ1 := by
  refine V_aload_n dL_isWay_19 rfl ?_
  refine V_cKv (as := []) (k' := 23) (n' := 166) (P_price hg (Co_Kp C1)) mw_X11_price ko_X11 rfl w_608 w_609 w_607 ar_X11_price ⟨rfl, rfl, rfl, rfl, rfl⟩ dL_isWay_20 (by decide) (shk (Co_Kp C1).1.2.1 2 rfl) (fun ω1 K1 => ?_)
  refine V_cast (st' := .int (-1 : Int32) :: []) rfl (by rw [hw1]) rfl ?_
  refine V_istore_n [(0, .ref 2), (1, .ref 73), (2, .int (-1 : Int32))] dL_isWay_23 rfl rfl ?_
  refine V_aload_n dL_isWay_24 rfl ?_
  refine V_cKv (as := []) (k' := 23) (n' := 166) (P_cuts hg K1) mw_X11_cuts ko_X11 rfl w_671 w_672 w_670 ar_X11_cuts ⟨rfl, rfl, rfl, rfl, rfl⟩ dL_isWay_25 (by decide) (shk K1.1.2.1 2 rfl) (fun ω2 K2 => ?_)
  refine V_cast (st' := .int (-1 : Int32) :: []) rfl (by rw [hw2]) rfl ?_
  refine V_istore_n [(0, .ref 2), (1, .ref 73), (2, .int (-1 : Int32)), (3, .int (-1 : Int32))] dL_isWay_28 rfl rfl ?_
  refine V_aload_n dL_isWay_29 rfl ?_
  refine V_iconst (1 : Int32) dL_isWay_30 (by decide) ?_
  refine V_gald dL_isWay_31 (by decide) (ga73 K2.2.1).1 (vp_l (n := 7) (ga73 K2.2.1).2 (vp_in_nI (n := 1) (by decide) (by decide))) ?_
  refine V_cast (st' := .int (zI ω2 73 1) :: []) rfl rfl rfl ?_
  refine V_cast (st' := .int (0 : Int32) :: []) rfl (by rw [gk K2.2.2 1, g1]) rfl ?_
  refine V_if_eq 39 dL_isWay_32 rfl (fun _ => ?_) (fun z_ => absurd (by decide) z_)
  refine V_iload_n dL_isWay_39 rfl ?_
  refine V_iconst (-1 : Int32) dL_isWay_40 (by decide) ?_
  refine V_icmp_ne 88 dL_isWay_41 rfl (fun z_ => absurd z_ (by decide)) (fun _ => ?_)
  refine V_iload_n dL_isWay_44 rfl ?_
  refine V_iconst (-1 : Int32) dL_isWay_45 (by decide) ?_
  refine V_icmp_ne 88 dL_isWay_46 rfl (fun z_ => absurd z_ (by decide)) (fun _ => ?_)
  refine V_aload_n dL_isWay_49 rfl ?_
  refine V_cKv (as := []) (k' := 23) (n' := 166) (P_priceAnew hg K2) mw_X11_priceAnew ko_X11 rfl w_675 w_676 w_674 ar_X11_priceAnew ⟨rfl, rfl, rfl, rfl, rfl⟩ dL_isWay_50 (by decide) (shk K2.1.2.1 2 rfl) (fun ω3 K3 => ?_)
  refine V_cast (st' := .int (-1 : Int32) :: []) rfl (by rw [hw1]) rfl ?_
  refine V_iconst (-1 : Int32) dL_isWay_53 (by decide) ?_
  refine V_icmp_ne 88 dL_isWay_54 rfl (fun z_ => absurd z_ (by decide)) (fun _ => ?_)
  refine V_aload_n dL_isWay_57 rfl ?_
  refine V_iconst (1 : Int32) dL_isWay_58 (by decide) ?_
  refine V_gald dL_isWay_59 (by decide) (ga73 K3.2.1).1 (vp_l (n := 7) (ga73 K3.2.1).2 (vp_in_nI (n := 1) (by decide) (by decide))) ?_
  refine V_cast (st' := .int (zI ω3 73 1) :: []) rfl rfl rfl ?_
  refine V_cast (st' := .int (0 : Int32) :: []) rfl (by rw [gk K3.2.2 1, g1]) rfl ?_
  refine V_if_eq 74 dL_isWay_60 rfl (fun _ => ?_) (fun z_ => absurd (by decide) z_)
  refine V_aload_n dL_isWay_74 rfl ?_
  refine V_iconst (0 : Int32) dL_isWay_75 (by decide) ?_
  refine V_cMh (as := [.ref 2, .int (0 : Int32)]) (k' := 12) (n' := 72) (P_issue (c := 0) hg (Co_K C1 K3) (by decide)) mw_L_issue w_702 w_701 ar_L_issue ⟨rfl, rfl, rfl, rfl, rfl⟩ dL_isWay_76 (fun ω4 y4 K4 => ?_)
  obtain ⟨ye4, Ki4⟩ := no_issue (g := g) hw1 K3 K4
  refine V_cast (st' := .int (-1000003 : Int32) :: []) rfl (by rw [ye4]) rfl ?_
  refine V_ldc (v := (-1000003 : Int32)) w_518 dL_isWay_79 ?_
  refine V_icmp_ne 88 dL_isWay_81 rfl (fun z_ => absurd z_ (by decide)) (fun _ => ?_)
  refine V_iconst (1 : Int32) dL_isWay_84 (by decide) ?_
  refine V_goto 89 dL_isWay_85 rfl ?_
  refine V_zret rfl dL_isWay_89 (by decide) ?_
  exact ⟨rfl, Co_K C1 Ki4, GE_RO Ki4.2.2 G1⟩
theorem w19B_isWay {g : GP} {σ1 : AH} {s L : Nat} (hg : gG g = none) (C1 : Co s σ1) (G1 : GE (s + 1) σ1) (hL : zI σ1 33 16 = nI L) (L1 : 1 ≤ L) (L8 : L ≤ 8) (g1 : zI σ1 73 1 = nI L) (hw1 : (wayF σ1).1 = -1) (hw2 : (wayF σ1).2 = -1) (hpb : bt (partF σ1 0 L) (-3) (-1)) : V g mL_isWay (Em g mL_isWay (fun ω rv => rv = some (.int 1) ∧ Co s ω ∧ GE (s + 1) ω) NX) CT 23 166 19 [(0, .ref 2), (1, .ref 73)] [] σ1 := by
  refine V_aload_n dL_isWay_19 rfl ?_
  refine V_cKv (as := []) (k' := 23) (n' := 166) (P_price hg (Co_Kp C1)) mw_X11_price ko_X11 rfl w_608 w_609 w_607 ar_X11_price ⟨rfl, rfl, rfl, rfl, rfl⟩ dL_isWay_20 (by decide) (shk (Co_Kp C1).1.2.1 2 rfl) (fun ω1 K1 => ?_)
  refine V_cast (st' := .int (-1 : Int32) :: []) rfl (by rw [hw1]) rfl ?_
  refine V_istore_n [(0, .ref 2), (1, .ref 73), (2, .int (-1 : Int32))] dL_isWay_23 rfl rfl ?_
  refine V_aload_n dL_isWay_24 rfl ?_
  refine V_cKv (as := []) (k' := 23) (n' := 166) (P_cuts hg K1) mw_X11_cuts ko_X11 rfl w_671 w_672 w_670 ar_X11_cuts ⟨rfl, rfl, rfl, rfl, rfl⟩ dL_isWay_25 (by decide) (shk K1.1.2.1 2 rfl) (fun ω2 K2 => ?_)
  refine V_cast (st' := .int (-1 : Int32) :: []) rfl (by rw [hw2]) rfl ?_
  refine V_istore_n [(0, .ref 2), (1, .ref 73), (2, .int (-1 : Int32)), (3, .int (-1 : Int32))] dL_isWay_28 rfl rfl ?_
  refine V_aload_n dL_isWay_29 rfl ?_
  refine V_iconst (1 : Int32) dL_isWay_30 (by decide) ?_
  refine V_gald dL_isWay_31 (by decide) (ga73 K2.2.1).1 (vp_l (n := 7) (ga73 K2.2.1).2 (vp_in_nI (n := 1) (by decide) (by decide))) ?_
  refine V_cast (st' := .int (zI ω2 73 1) :: []) rfl rfl rfl ?_
  refine V_cast (st' := .int (nI L) :: []) rfl (by rw [gk K2.2.2 1, g1]) rfl ?_
  refine V_if_eq 39 dL_isWay_32 rfl (fun z_ => absurd z_ (show ¬ ((nI L) = nI 0) from c_ne (by omega) (by omega) (by decide))) (fun _ => ?_)
  refine V_iload_n dL_isWay_35 rfl ?_
  refine V_if_ge 90 dL_isWay_36 rfl (fun z_ => absurd z_ (by decide)) (fun _ => ?_)
  refine V_iload_n dL_isWay_39 rfl ?_
  refine V_iconst (-1 : Int32) dL_isWay_40 (by decide) ?_
  refine V_icmp_ne 88 dL_isWay_41 rfl (fun z_ => absurd z_ (by decide)) (fun _ => ?_)
  refine V_iload_n dL_isWay_44 rfl ?_
  refine V_iconst (-1 : Int32) dL_isWay_45 (by decide) ?_
  refine V_icmp_ne 88 dL_isWay_46 rfl (fun z_ => absurd z_ (by decide)) (fun _ => ?_)
  refine V_aload_n dL_isWay_49 rfl ?_
  refine V_cKv (as := []) (k' := 23) (n' := 166) (P_priceAnew hg K2) mw_X11_priceAnew ko_X11 rfl w_675 w_676 w_674 ar_X11_priceAnew ⟨rfl, rfl, rfl, rfl, rfl⟩ dL_isWay_50 (by decide) (shk K2.1.2.1 2 rfl) (fun ω3 K3 => ?_)
  refine V_cast (st' := .int (-1 : Int32) :: []) rfl (by rw [hw1]) rfl ?_
  refine V_iconst (-1 : Int32) dL_isWay_53 (by decide) ?_
  refine V_icmp_ne 88 dL_isWay_54 rfl (fun z_ => absurd z_ (by decide)) (fun _ => ?_)
  refine V_aload_n dL_isWay_57 rfl ?_
  refine V_iconst (1 : Int32) dL_isWay_58 (by decide) ?_
  refine V_gald dL_isWay_59 (by decide) (ga73 K3.2.1).1 (vp_l (n := 7) (ga73 K3.2.1).2 (vp_in_nI (n := 1) (by decide) (by decide))) ?_
  refine V_cast (st' := .int (zI ω3 73 1) :: []) rfl rfl rfl ?_
  refine V_cast (st' := .int (nI L) :: []) rfl (by rw [gk K3.2.2 1, g1]) rfl ?_
  refine V_if_eq 74 dL_isWay_60 rfl (fun z_ => absurd z_ (show ¬ ((nI L) = nI 0) from c_ne (by omega) (by omega) (by decide))) (fun _ => ?_)
  refine V_aload_n dL_isWay_63 rfl ?_
  refine V_iconst (0 : Int32) dL_isWay_64 (by decide) ?_
  refine V_aload_n dL_isWay_65 rfl ?_
  refine V_iconst (1 : Int32) dL_isWay_66 (by decide) ?_
  refine V_gald dL_isWay_67 (by decide) (ga73 K3.2.1).1 (vp_l (n := 7) (ga73 K3.2.1).2 (vp_in_nI (n := 1) (by decide) (by decide))) ?_
  refine V_cast (st' := .int (zI ω3 73 1) :: [.int (0 : Int32), .ref 2]) rfl rfl rfl ?_
  refine V_cast (st' := .int (nI L) :: [.int (0 : Int32), .ref 2]) rfl (by rw [gk K3.2.2 1, g1]) rfl ?_
  refine V_cKh (as := [.ref 2, .int (0 : Int32), .int (nI L)]) (k' := 22) (n' := 160) (P_part (i := 0) hg hL L8 (by omega) (Nat.le_refl L) K3) mw_L_part w_687 w_686 ar_L_part ⟨rfl, rfl, rfl, rfl, rfl⟩ dL_isWay_68 (fun ω4 K4 => ?_)
  refine V_if_ge 88 dL_isWay_71 rfl (fun z_ => absurd z_ (fun z => by rw [Int32.le_iff_toInt_le, zero_toInt] at z; have := hpb.2; omega)) (fun _ => ?_)
  refine V_aload_n dL_isWay_74 rfl ?_
  refine V_iconst (0 : Int32) dL_isWay_75 (by decide) ?_
  refine V_cMh (as := [.ref 2, .int (0 : Int32)]) (k' := 11) (n' := 66) (P_issue (c := 0) hg (Co_K C1 K4) (by decide)) mw_L_issue w_702 w_701 ar_L_issue ⟨rfl, rfl, rfl, rfl, rfl⟩ dL_isWay_76 (fun ω5 y5 K5 => ?_)
  obtain ⟨ye5, Ki5⟩ := no_issue (g := g) hw1 K4 K5
  refine V_cast (st' := .int (-1000003 : Int32) :: []) rfl (by rw [ye5]) rfl ?_
  refine V_ldc (v := (-1000003 : Int32)) w_518 dL_isWay_79 ?_
  refine V_icmp_ne 88 dL_isWay_81 rfl (fun z_ => absurd z_ (by decide)) (fun _ => ?_)
  refine V_iconst (1 : Int32) dL_isWay_84 (by decide) ?_
  refine V_goto 89 dL_isWay_85 rfl ?_
  refine V_zret rfl dL_isWay_89 (by decide) ?_
  exact ⟨rfl, Co_K C1 Ki5, GE_RO Ki5.2.2 G1⟩
theorem w19C_isWay {g : GP} {σ1 : AH} {s L : Nat} (hg : gG g = none) (C1 : Co s σ1) (G1 : GE (s + 1) σ1) (hL : zI σ1 33 16 = nI L) (L1 : 1 ≤ L) (L8 : L ≤ 8) (g1 : zI σ1 73 1 = nI L) {m : Nat} {pr : Int32} (hm2 : 2 * m < 2 ^ L) (hP : PQ (partF σ1)) (hok : ¬ (sumSt (partF σ1) (2 * m) L L).1 = -1) (hpr : (sumSt (partF σ1) (2 * m) L L).1 = pr) (hw1 : (wayF σ1).1 = pr) (hw2 : (wayF σ1).2 = nI (2 * m)) (hprb : bt pr 1 504000) (hwh : bt (partF σ1 0 L) (-3) (-1) ∨ (bt (partF σ1 0 L) 1 63000 ∧ pr ≤ partF σ1 0 L)) : V g mL_isWay (Em g mL_isWay (fun ω rv => rv = some (.int 1) ∧ Co s ω ∧ GE (s + 1) ω) NX) CT 23 166 19 [(0, .ref 2), (1, .ref 73)] [] σ1 := by
  have hp8 : 2 ^ L ≤ 2 ^ 8 := Nat.pow_le_pow_right (by decide) L8
  refine V_aload_n dL_isWay_19 rfl ?_
  refine V_cKv (as := []) (k' := 23) (n' := 166) (P_price hg (Co_Kp C1)) mw_X11_price ko_X11 rfl w_608 w_609 w_607 ar_X11_price ⟨rfl, rfl, rfl, rfl, rfl⟩ dL_isWay_20 (by decide) (shk (Co_Kp C1).1.2.1 2 rfl) (fun ω1 K1 => ?_)
  refine V_cast (st' := .int pr :: []) rfl (by rw [hw1]) rfl ?_
  refine V_istore_n [(0, .ref 2), (1, .ref 73), (2, .int pr)] dL_isWay_23 rfl rfl ?_
  refine V_aload_n dL_isWay_24 rfl ?_
  refine V_cKv (as := []) (k' := 23) (n' := 166) (P_cuts hg K1) mw_X11_cuts ko_X11 rfl w_671 w_672 w_670 ar_X11_cuts ⟨rfl, rfl, rfl, rfl, rfl⟩ dL_isWay_25 (by decide) (shk K1.1.2.1 2 rfl) (fun ω2 K2 => ?_)
  refine V_cast (st' := .int (nI (2 * m)) :: []) rfl (by rw [hw2]) rfl ?_
  refine V_istore_n [(0, .ref 2), (1, .ref 73), (2, .int pr), (3, .int (nI (2 * m)))] dL_isWay_28 rfl rfl ?_
  refine V_aload_n dL_isWay_29 rfl ?_
  refine V_iconst (1 : Int32) dL_isWay_30 (by decide) ?_
  refine V_gald dL_isWay_31 (by decide) (ga73 K2.2.1).1 (vp_l (n := 7) (ga73 K2.2.1).2 (vp_in_nI (n := 1) (by decide) (by decide))) ?_
  refine V_cast (st' := .int (zI ω2 73 1) :: []) rfl rfl rfl ?_
  refine V_cast (st' := .int (nI L) :: []) rfl (by rw [gk K2.2.2 1, g1]) rfl ?_
  refine V_if_eq 39 dL_isWay_32 rfl (fun z_ => absurd z_ (show ¬ ((nI L) = nI 0) from c_ne (by omega) (by omega) (by decide))) (fun _ => ?_)
  refine V_iload_n dL_isWay_35 rfl ?_
  refine V_if_ge 90 dL_isWay_36 rfl (fun _ => ?_) (fun z_ => absurd (by rw [Int32.le_iff_toInt_le, zero_toInt]; have := hprb.1; omega) z_)
  refine V_iconst (0 : Int32) dL_isWay_90 (by decide) ?_
  refine V_istore [(0, .ref 2), (1, .ref 73), (2, .int pr), (3, .int (nI (2 * m))), (4, .int (0 : Int32))] dL_isWay_91 rfl rfl ?_
  refine V_iconst (0 : Int32) dL_isWay_93 (by decide) ?_
  refine V_istore [(0, .ref 2), (1, .ref 73), (2, .int pr), (3, .int (nI (2 * m))), (4, .int (0 : Int32)), (5, .int (0 : Int32))] dL_isWay_94 rfl rfl ?_
  refine V_iload_n dL_isWay_96 rfl ?_
  refine V_if_lt 119 dL_isWay_97 rfl (fun z_ => absurd z_ (show ¬ ((nI (2 * m)) < nI 0) from c_nlt (by omega) (by omega))) (fun _ => ?_)
  refine V_iload_n dL_isWay_100 rfl ?_
  refine V_iconst (2 : Int32) dL_isWay_101 (by decide) ?_
  refine V_irem dL_isWay_102 (by decide) ?_
  refine V_cast (st' := .int (0 : Int32) :: []) rfl (by rw [even_n (m := m) (by omega)]) rfl ?_
  refine V_if_ne 119 dL_isWay_103 rfl (fun z_ => absurd z_ (by decide)) (fun _ => ?_)
  refine V_iload_n dL_isWay_106 rfl ?_
  refine V_iconst (1 : Int32) dL_isWay_107 (by decide) ?_
  refine V_aload_n dL_isWay_108 rfl ?_
  refine V_iconst (1 : Int32) dL_isWay_109 (by decide) ?_
  refine V_gald dL_isWay_110 (by decide) (ga73 K2.2.1).1 (vp_l (n := 7) (ga73 K2.2.1).2 (vp_in_nI (n := 1) (by decide) (by decide))) ?_
  refine V_cast (st' := .int (zI ω2 73 1) :: [.int (1 : Int32), .int (nI (2 * m))]) rfl rfl rfl ?_
  refine V_cast (st' := .int (nI L) :: [.int (1 : Int32), .int (nI (2 * m))]) rfl (by rw [gk K2.2.2 1, g1]) rfl ?_
  refine V_ishl dL_isWay_111 ?_
  refine V_cast (st' := .int (nI (2 ^ L)) :: [.int (nI (2 * m))]) rfl (by rw [shl_L L8]) rfl ?_
  refine V_icmp_ge 119 dL_isWay_112 rfl (fun z_ => absurd z_ (show ¬ ((nI (2 ^ L)) ≤ (nI (2 * m))) from c_nle (by omega) (by omega))) (fun _ => ?_)
  refine V_iconst (1 : Int32) dL_isWay_115 (by decide) ?_
  refine V_goto 120 dL_isWay_116 rfl ?_
  refine V_istore [(0, .ref 2), (1, .ref 73), (2, .int pr), (3, .int (nI (2 * m))), (4, .int (0 : Int32)), (5, .int (0 : Int32)), (6, .int (1 : Int32))] dL_isWay_120 rfl rfl ?_
  refine V_iconst (1 : Int32) dL_isWay_122 (by decide) ?_
  refine V_istore [(0, .ref 2), (1, .ref 73), (2, .int pr), (3, .int (nI (2 * m))), (4, .int (0 : Int32)), (5, .int (0 : Int32)), (6, .int (1 : Int32)), (7, .int (1 : Int32))] dL_isWay_123 rfl rfl ?_
  refine V_less (k' := L + 2) (n' := 6 * L + 12) (ls' := [(0, .ref 2), (1, .ref 73), (2, .int pr), (3, .int (nI (2 * m))), (4, .int (0 : Int32)), (5, .int (0 : Int32)), (6, .int (1 : Int32)), (7, .int (1 : Int32))]) (fun q hq => hq) (by omega) (by omega) ?_
  exact lp_isWay hg C1 G1 hL L8 g1 (by omega) L1 hP hok hpr hw1 hwh L 0 ω2 (by omega) K2
theorem s_L_isWay {g : GP} {σ : AH} {s : Nat} (hg : gG g = none) (h : Co s σ) (hE : GE s σ) : Ct g mL_isWay [.ref 2, .ref 73] σ (fun ω rv => rv = some (.int 1) ∧ Co s ω ∧ GE (s + 1) ω) := by
  obtain ⟨w, hw, ew⟩ := hE.2.2.2.2.2.2.1
  have hs := h.1
  refine Ct_of (by decide +kernel) rfl rfl ?_
  refine V_aload_n dL_isWay_0 rfl ?_
  refine V_bipush (6 : Int32) dL_isWay_1 (by decide) ?_
  refine V_dup2 dL_isWay_3 rfl rfl ?_
  refine V_gald dL_isWay_4 (by decide) (ga73 h.2.2.1).1 (vp_l (n := 7) (ga73 h.2.2.1).2 (vp_in_nI (n := 6) (by decide) (by decide))) ?_
  refine V_cast (st' := .int (zI σ 73 6) :: [.int (6 : Int32), .ref 73]) rfl rfl rfl ?_
  refine V_cast (st' := .int (nI w) :: [.int (6 : Int32), .ref 73]) rfl (by rw [ew]) rfl ?_
  refine V_iconst (1 : Int32) dL_isWay_5 (by decide) ?_
  refine V_iadd dL_isWay_6 ?_
  refine V_cast (st' := .int (nI (w + 1)) :: [.int (6 : Int32), .ref 73]) rfl (by rw [nI_1]) rfl ?_
  refine V_gast dL_isWay_7 hg (by decide) (ga73 h.2.2.1).1 (vp_l (n := 7) (ga73 h.2.2.1).2 (vp_in_nI (n := 6) (by decide) (by decide))) ?_
  refine V_cast (σ' := uI σ 73 6 (nI (w + 1))) rfl rfl rfl ?_
  have C1 := Co_g (a := 73) (k := 6) (x := nI (w + 1)) (Or.inl rfl) h
  have G1 := GE_6 hE hw
  have e6 : zI (uI σ 73 6 (nI (w + 1))) 73 6 = nI (w + 1) := by rw [zI_uI, if_pos ⟨rfl, rfl⟩]
  generalize uI σ 73 6 (nI (w + 1)) = σ1 at C1 G1 e6 ⊢
  refine V_aload_n dL_isWay_8 rfl ?_
  refine V_bipush (6 : Int32) dL_isWay_9 (by decide) ?_
  refine V_gald dL_isWay_11 (by decide) (ga73 (Co_Kp C1).2.1).1 (vp_l (n := 7) (ga73 (Co_Kp C1).2.1).2 (vp_in_nI (n := 6) (by decide) (by decide))) ?_
  refine V_cast (st' := .int (zI σ1 73 6) :: []) rfl rfl rfl ?_
  refine V_cast (st' := .int (nI (w + 1)) :: []) rfl (by rw [e6]) rfl ?_
  refine V_bipush (24 : Int32) dL_isWay_12 (by decide) ?_
  refine V_icmp_le 19 dL_isWay_14 rfl (fun c24 => ?_) (fun c24 => ?_)
  · obtain ⟨L, L8, hL⟩ := Rel_L C1.2.1
    have g1 : zI σ1 73 1 = nI L := G1.2.1.trans hL
    by_cases L0 : L = 0
    · subst L0
      have hw := way_L0 (σ := σ1) hL
      exact w19A_isWay hg C1 G1 g1 (by rw [hw]) (by rw [hw])
    · have lσ : lgN σ1 = L := by rw [lgN, hL]; exact cl0 (by omega)
      rcases way_spec C1.2.2.2.1 lσ (by omega) L8 with ⟨q1, q2⟩ | ⟨m, q1, q2, q3, q4, q5⟩
      · exact w19B_isWay hg C1 G1 hL (by omega) L8 g1 (by rw [q1]) (by rw [q1]) q2
      · have hp : 2 ^ L = 2 * 2 ^ (L - 1) := by rw [← Nat.pow_succ']; congr 1; omega
        exact w19C_isWay hg C1 G1 hL (by omega) L8 g1 (by omega) (partF_PQ C1.2.2.2.1) q2 (by rw [q3]) rfl (by rw [q3]) q4 q5
  · refine V_iconst (1 : Int32) dL_isWay_17 (by decide) ?_
    refine V_zret rfl dL_isWay_18 (by decide) ?_
    exact ⟨rfl, C1, G1⟩
