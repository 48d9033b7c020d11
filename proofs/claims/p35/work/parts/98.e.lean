/-! ===== the law: balances ===== -/
theorem lc_0 {a c : Int64} (h : a = c) : lg_cmp a c = 0 := by
  subst h
  unfold lg_cmp
  rw [if_neg (fun h => Int64.lt_irrefl h), if_pos rfl]
theorem lg_nn {x : Int64} (h : 0 ≤ x.toInt) : ¬ lg_cmp x 0 < 0 := by
  have e0 : (0 : Int64).toInt = 0 := by decide
  unfold lg_cmp
  by_cases h1 : x > 0
  · rw [if_pos h1]; decide
  · rw [if_neg h1]
    by_cases h2 : x = 0
    · rw [if_pos h2]; decide
    · exfalso
      have h3 : ¬ x.toInt = 0 := fun q => h2 (Int64.toInt_inj.mp (q.trans e0.symm))
      exact h1 (Int64.lt_iff_toInt_lt.mpr (by rw [e0]; omega))
theorem df_bits {σ : AH} : bt (dfS σ 5) 0 31 ∧ ∀ c, c < 5 → (dfS σ 5 >>> (nI c &&& 31)) &&& 1 = if zI σ 68 c = 0 then 0 else 1 := by
  rw [dfS_5]
  have key : ∀ p0 p1 p2 p3 p4 : Bool, bt (((((0 ||| (if p0 then 0 else (1 : Int32) <<< (nI 0 &&& 31))) ||| (if p1 then 0 else (1 : Int32) <<< (nI 1 &&& 31))) ||| (if p2 then 0 else (1 : Int32) <<< (nI 2 &&& 31))) ||| (if p3 then 0 else (1 : Int32) <<< (nI 3 &&& 31))) ||| (if p4 then 0 else (1 : Int32) <<< (nI 4 &&& 31))) 0 31 ∧
    ((((((0 ||| (if p0 then 0 else (1 : Int32) <<< (nI 0 &&& 31))) ||| (if p1 then 0 else (1 : Int32) <<< (nI 1 &&& 31))) ||| (if p2 then 0 else (1 : Int32) <<< (nI 2 &&& 31))) ||| (if p3 then 0 else (1 : Int32) <<< (nI 3 &&& 31))) ||| (if p4 then 0 else (1 : Int32) <<< (nI 4 &&& 31))) >>> (nI 0 &&& 31)) &&& 1 = (if p0 then 0 else 1) ∧
    ((((((0 ||| (if p0 then 0 else (1 : Int32) <<< (nI 0 &&& 31))) ||| (if p1 then 0 else (1 : Int32) <<< (nI 1 &&& 31))) ||| (if p2 then 0 else (1 : Int32) <<< (nI 2 &&& 31))) ||| (if p3 then 0 else (1 : Int32) <<< (nI 3 &&& 31))) ||| (if p4 then 0 else (1 : Int32) <<< (nI 4 &&& 31))) >>> (nI 1 &&& 31)) &&& 1 = (if p1 then 0 else 1) ∧
    ((((((0 ||| (if p0 then 0 else (1 : Int32) <<< (nI 0 &&& 31))) ||| (if p1 then 0 else (1 : Int32) <<< (nI 1 &&& 31))) ||| (if p2 then 0 else (1 : Int32) <<< (nI 2 &&& 31))) ||| (if p3 then 0 else (1 : Int32) <<< (nI 3 &&& 31))) ||| (if p4 then 0 else (1 : Int32) <<< (nI 4 &&& 31))) >>> (nI 2 &&& 31)) &&& 1 = (if p2 then 0 else 1) ∧
    ((((((0 ||| (if p0 then 0 else (1 : Int32) <<< (nI 0 &&& 31))) ||| (if p1 then 0 else (1 : Int32) <<< (nI 1 &&& 31))) ||| (if p2 then 0 else (1 : Int32) <<< (nI 2 &&& 31))) ||| (if p3 then 0 else (1 : Int32) <<< (nI 3 &&& 31))) ||| (if p4 then 0 else (1 : Int32) <<< (nI 4 &&& 31))) >>> (nI 3 &&& 31)) &&& 1 = (if p3 then 0 else 1) ∧
    ((((((0 ||| (if p0 then 0 else (1 : Int32) <<< (nI 0 &&& 31))) ||| (if p1 then 0 else (1 : Int32) <<< (nI 1 &&& 31))) ||| (if p2 then 0 else (1 : Int32) <<< (nI 2 &&& 31))) ||| (if p3 then 0 else (1 : Int32) <<< (nI 3 &&& 31))) ||| (if p4 then 0 else (1 : Int32) <<< (nI 4 &&& 31))) >>> (nI 4 &&& 31)) &&& 1 = (if p4 then 0 else 1) := by
    unfold bt
    decide +kernel
  have k := key (decide (zI σ 68 0 = 0)) (decide (zI σ 68 1 = 0)) (decide (zI σ 68 2 = 0)) (decide (zI σ 68 3 = 0)) (decide (zI σ 68 4 = 0))
  simp only [decide_eq_true_eq] at k
  obtain ⟨k5, k0, k1, k2, k3, k4⟩ := k
  refine ⟨k5, fun c hc => ?_⟩
  have hcs : c = 0 ∨ c = 1 ∨ c = 2 ∨ c = 3 ∨ c = 4 := by omega
  rcases hcs with rfl | rfl | rfl | rfl | rfl
  · exact k0
  · exact k1
  · exact k2
  · exact k3
  · exact k4
theorem of0 {σ : AH} : ofV σ 0 = zI σ 33 0 := rfl
theorem of1 {σ : AH} : ofV σ 1 = zI σ 33 16 := rfl
theorem of2 {σ : AH} : ofV σ 2 = zI σ 33 23 := rfl
theorem of3 {σ : AH} : ofV σ 3 = zI σ 33 36 := rfl
theorem of4 {σ : AH} : ofV σ 4 = zI σ 33 43 := rfl
theorem of5 {σ : AH} : ofV σ 5 = dfS σ 5 := rfl
theorem lp2_balances {g : GP} {σ0 : AH} {s : Nat} (hg : gG g = none) (h : Co s σ0) (hE : GE s σ0) : ∀ r d (X : Int64) ω, d + r = 10 → X = scT (zJ σ0 70) 5 + scT (zJ σ0 71) d → Kp ω σ0 → V g mL_balances (Em g mL_balances (fun ω rv => rv = some (.int 1) ∧ Kp ω σ0) NX) CT (2 * r + 7) (12 * r + 42) 100 [(0, .ref 2), (1, .ref 73), (2, .long X), (4, .int (1 : Int32)), (5, .int (nI d))] [] ω := by
  obtain ⟨e0, e1, e2, e3, e4, -⟩ := hE
  obtain ⟨hM0, hM⟩ := h.2.2.2.2.2.2.1
  have hdf := (df_bits (σ := σ0)).1
  intro r
  induction r with
  | zero =>
    intro d X ω hdr hX Kω
    have hX : X = zJ σ0 33 48 := by rw [hX, ← hM0, show d = 10 by omega]
    refine V_iload dL_balances_100 rfl ?_
    refine V_bipush (10 : Int32) dL_balances_102 (by decide) ?_
    refine V_icmp_ge 145 dL_balances_104 rfl (fun _ => ?_) (fun z_ => absurd (show (nI 10) ≤ (nI d) from c_le (by omega) (by omega)) z_)
    refine V_iload dL_balances_145 rfl ?_
    refine V_if_eq 236 dL_balances_147 rfl (fun z_ => absurd z_ (by decide)) (fun _ => ?_)
    refine V_lload_n dL_balances_150 rfl ?_
    refine V_aload_n dL_balances_151 rfl ?_
    refine V_cKv (as := []) (k' := 7) (n' := 42) (P_paid hg Kω) mw_X11_paid ko_X11 rfl w_415 w_416 w_414 ar_X11_paid ⟨rfl, rfl, rfl, rfl, rfl⟩ dL_balances_152 (by decide) (shk Kω.1.2.1 2 rfl) (fun ω1 K1 => ?_)
    refine V_lcmp dL_balances_155 ?_
    refine V_cast (st' := .int (0 : Int32) :: []) rfl (by rw [lc_0 hX]) rfl ?_
    refine V_if_ne 236 dL_balances_156 rfl (fun z_ => absurd z_ (by decide)) (fun _ => ?_)
    refine V_aload_n dL_balances_159 rfl ?_
    refine V_iconst (0 : Int32) dL_balances_160 (by decide) ?_
    refine V_cKh (as := [.ref 2, .int (0 : Int32)]) (k' := 6) (n' := 36) (P_of hg (by decide) K1) mw_L_of w_376 w_375 ar_L_of ⟨rfl, rfl, rfl, rfl, rfl⟩ dL_balances_161 (fun ω2 K2 => ?_)
    refine V_cast (st' := .int (zI σ0 33 0) :: []) rfl (by rw [of0]) rfl ?_
    refine V_aload_n dL_balances_164 rfl ?_
    refine V_iconst (0 : Int32) dL_balances_165 (by decide) ?_
    refine V_gald dL_balances_166 (by decide) (ga73 K2.2.1).1 (vp_l (n := 7) (ga73 K2.2.1).2 (vp_in_nI (n := 0) (by decide) (by decide))) ?_
    refine V_cast (st' := .int (zI ω2 73 0) :: [.int (zI σ0 33 0)]) rfl rfl rfl ?_
    refine V_cast (st' := .int (zI σ0 33 0) :: [.int (zI σ0 33 0)]) rfl (by rw [gk K2.2.2 0, e0]) rfl ?_
    refine V_icmp_ne 236 dL_balances_167 rfl (fun z_ => absurd z_ (by simp)) (fun _ => ?_)
    refine V_aload_n dL_balances_170 rfl ?_
    refine V_iconst (1 : Int32) dL_balances_171 (by decide) ?_
    refine V_cKh (as := [.ref 2, .int (1 : Int32)]) (k' := 5) (n' := 30) (P_of hg (by decide) K2) mw_L_of w_376 w_375 ar_L_of ⟨rfl, rfl, rfl, rfl, rfl⟩ dL_balances_172 (fun ω3 K3 => ?_)
    refine V_cast (st' := .int (zI σ0 33 16) :: []) rfl (by rw [of1]) rfl ?_
    refine V_aload_n dL_balances_175 rfl ?_
    refine V_iconst (1 : Int32) dL_balances_176 (by decide) ?_
    refine V_gald dL_balances_177 (by decide) (ga73 K3.2.1).1 (vp_l (n := 7) (ga73 K3.2.1).2 (vp_in_nI (n := 1) (by decide) (by decide))) ?_
    refine V_cast (st' := .int (zI ω3 73 1) :: [.int (zI σ0 33 16)]) rfl rfl rfl ?_
    refine V_cast (st' := .int (zI σ0 33 16) :: [.int (zI σ0 33 16)]) rfl (by rw [gk K3.2.2 1, e1]) rfl ?_
    refine V_icmp_ne 236 dL_balances_178 rfl (fun z_ => absurd z_ (by simp)) (fun _ => ?_)
    refine V_aload_n dL_balances_181 rfl ?_
    refine V_iconst (2 : Int32) dL_balances_182 (by decide) ?_
    refine V_cKh (as := [.ref 2, .int (2 : Int32)]) (k' := 4) (n' := 24) (P_of hg (by decide) K3) mw_L_of w_376 w_375 ar_L_of ⟨rfl, rfl, rfl, rfl, rfl⟩ dL_balances_183 (fun ω4 K4 => ?_)
    refine V_cast (st' := .int (zI σ0 33 23) :: []) rfl (by rw [of2]) rfl ?_
    refine V_aload_n dL_balances_186 rfl ?_
    refine V_iconst (2 : Int32) dL_balances_187 (by decide) ?_
    refine V_gald dL_balances_188 (by decide) (ga73 K4.2.1).1 (vp_l (n := 7) (ga73 K4.2.1).2 (vp_in_nI (n := 2) (by decide) (by decide))) ?_
    refine V_cast (st' := .int (zI ω4 73 2) :: [.int (zI σ0 33 23)]) rfl rfl rfl ?_
    refine V_cast (st' := .int (zI σ0 33 23) :: [.int (zI σ0 33 23)]) rfl (by rw [gk K4.2.2 2, e2]) rfl ?_
    refine V_icmp_ne 236 dL_balances_189 rfl (fun z_ => absurd z_ (by simp)) (fun _ => ?_)
    refine V_aload_n dL_balances_192 rfl ?_
    refine V_iconst (3 : Int32) dL_balances_193 (by decide) ?_
    refine V_cKh (as := [.ref 2, .int (3 : Int32)]) (k' := 3) (n' := 18) (P_of hg (by decide) K4) mw_L_of w_376 w_375 ar_L_of ⟨rfl, rfl, rfl, rfl, rfl⟩ dL_balances_194 (fun ω5 K5 => ?_)
    refine V_cast (st' := .int (zI σ0 33 36) :: []) rfl (by rw [of3]) rfl ?_
    refine V_aload_n dL_balances_197 rfl ?_
    refine V_iconst (3 : Int32) dL_balances_198 (by decide) ?_
    refine V_gald dL_balances_199 (by decide) (ga73 K5.2.1).1 (vp_l (n := 7) (ga73 K5.2.1).2 (vp_in_nI (n := 3) (by decide) (by decide))) ?_
    refine V_cast (st' := .int (zI ω5 73 3) :: [.int (zI σ0 33 36)]) rfl rfl rfl ?_
    refine V_cast (st' := .int (zI σ0 33 36) :: [.int (zI σ0 33 36)]) rfl (by rw [gk K5.2.2 3, e3]) rfl ?_
    refine V_icmp_ne 236 dL_balances_200 rfl (fun z_ => absurd z_ (by simp)) (fun _ => ?_)
    refine V_aload_n dL_balances_203 rfl ?_
    refine V_iconst (4 : Int32) dL_balances_204 (by decide) ?_
    refine V_cKh (as := [.ref 2, .int (4 : Int32)]) (k' := 2) (n' := 12) (P_of hg (by decide) K5) mw_L_of w_376 w_375 ar_L_of ⟨rfl, rfl, rfl, rfl, rfl⟩ dL_balances_205 (fun ω6 K6 => ?_)
    refine V_cast (st' := .int (zI σ0 33 43) :: []) rfl (by rw [of4]) rfl ?_
    refine V_aload_n dL_balances_208 rfl ?_
    refine V_iconst (4 : Int32) dL_balances_209 (by decide) ?_
    refine V_gald dL_balances_210 (by decide) (ga73 K6.2.1).1 (vp_l (n := 7) (ga73 K6.2.1).2 (vp_in_nI (n := 4) (by decide) (by decide))) ?_
    refine V_cast (st' := .int (zI ω6 73 4) :: [.int (zI σ0 33 43)]) rfl rfl rfl ?_
    refine V_cast (st' := .int (zI σ0 33 43) :: [.int (zI σ0 33 43)]) rfl (by rw [gk K6.2.2 4, e4]) rfl ?_
    refine V_icmp_ne 236 dL_balances_211 rfl (fun z_ => absurd z_ (by simp)) (fun _ => ?_)
    refine V_aload_n dL_balances_214 rfl ?_
    refine V_iconst (5 : Int32) dL_balances_215 (by decide) ?_
    refine V_cKh (as := [.ref 2, .int (5 : Int32)]) (k' := 1) (n' := 6) (P_of hg (by decide) K6) mw_L_of w_376 w_375 ar_L_of ⟨rfl, rfl, rfl, rfl, rfl⟩ dL_balances_216 (fun ω7 K7 => ?_)
    refine V_cast (st' := .int (dfS σ0 5) :: []) rfl (by rw [of5]) rfl ?_
    refine V_if_lt 236 dL_balances_219 rfl (fun z_ => absurd z_ (fun z => by rw [Int32.lt_iff_toInt_lt, zero_toInt] at z; have := hdf.1; omega)) (fun _ => ?_)
    refine V_aload_n dL_balances_222 rfl ?_
    refine V_iconst (5 : Int32) dL_balances_223 (by decide) ?_
    refine V_cKh (as := [.ref 2, .int (5 : Int32)]) (k' := 0) (n' := 0) (P_of hg (by decide) K7) mw_L_of w_376 w_375 ar_L_of ⟨rfl, rfl, rfl, rfl, rfl⟩ dL_balances_224 (fun ω8 K8 => ?_)
    refine V_cast (st' := .int (dfS σ0 5) :: []) rfl (by rw [of5]) rfl ?_
    refine V_bipush (32 : Int32) dL_balances_227 (by decide) ?_
    refine V_icmp_ge 236 dL_balances_229 rfl (fun z_ => absurd z_ (fun z => by rw [Int32.le_iff_toInt_le] at z; have := hdf.2; change (32 : Int) ≤ _ at z; omega)) (fun _ => ?_)
    refine V_iconst (1 : Int32) dL_balances_232 (by decide) ?_
    refine V_goto 237 dL_balances_233 rfl ?_
    refine V_zret rfl dL_balances_237 (by decide) ?_
    exact ⟨rfl, K8⟩
  | succ r ih =>
    intro d X ω hdr hX Kω
    have hd : d < 10 := by omega
    have IH := fun ω Kω => ih (d + 1) (X + zJ σ0 71 d) ω (by omega) (by rw [hX, show scT (zJ σ0 71) (d + 1) = scT (zJ σ0 71) d + zJ σ0 71 d from rfl]; grind) Kω
    have ekk : 2 * (r + 1) + 7 = (2 * r + 7) + 2 ∧ 12 * (r + 1) + 42 = (12 * r + 42) + 12 := ⟨by omega, by omega⟩
    rw [ekk.1, ekk.2]
    generalize 2 * r + 7 = kk at IH ⊢
    generalize 12 * r + 42 = nn at IH ⊢
    refine V_iload dL_balances_100 rfl ?_
    refine V_bipush (10 : Int32) dL_balances_102 (by decide) ?_
    refine V_icmp_ge 145 dL_balances_104 rfl (fun z_ => absurd z_ (show ¬ ((nI 10) ≤ (nI d)) from c_nle (by omega) (by decide))) (fun _ => ?_)
    refine V_iload dL_balances_107 rfl ?_
    refine V_if_eq 145 dL_balances_109 rfl (fun z_ => absurd z_ (by decide)) (fun _ => ?_)
    refine V_lload_n dL_balances_112 rfl ?_
    refine V_aload_n dL_balances_113 rfl ?_
    refine V_iload dL_balances_114 rfl ?_
    refine V_cKh (as := [.ref 2, .int (nI d)]) (k' := kk + 1) (n' := nn + 6) (P_state hg hd Kω) mw_L_state w_369 w_368 ar_L_state ⟨rfl, rfl, Nat.ble_eq_true_of_le (show 1 + (kk + 1) ≤ kk + 2 by omega), Nat.ble_eq_true_of_le (show 6 + (nn + 6) ≤ nn + 12 by omega), rfl⟩ dL_balances_116 (fun ω1 K1 => ?_)
    refine V_ladd dL_balances_119 ?_
    refine V_lstore_n [(0, .ref 2), (1, .ref 73), (2, .long (X + (zJ σ0 71 d))), (4, .int (1 : Int32)), (5, .int (nI d))] dL_balances_120 rfl rfl ?_
    refine V_aload_n dL_balances_121 rfl ?_
    refine V_iload dL_balances_122 rfl ?_
    refine V_cKh (as := [.ref 2, .int (nI d)]) (k' := kk + 0) (n' := nn + 0) (P_state hg hd K1) mw_L_state w_369 w_368 ar_L_state ⟨rfl, rfl, Nat.ble_eq_true_of_le (show 1 + (kk + 0) ≤ kk + 1 by omega), Nat.ble_eq_true_of_le (show 6 + (nn + 0) ≤ nn + 6 by omega), rfl⟩ dL_balances_124 (fun ω2 K2 => ?_)
    refine V_lconst (0 : Int64) dL_balances_127 (by decide) ?_
    refine V_lcmp dL_balances_128 ?_
    refine V_if_lt 136 dL_balances_129 rfl (fun z_ => absurd z_ (lg_nn (hM d hd).1)) (fun _ => ?_)
    refine V_iconst (1 : Int32) dL_balances_132 (by decide) ?_
    refine V_goto 137 dL_balances_133 rfl ?_
    refine V_istore [(0, .ref 2), (1, .ref 73), (2, .long (X + (zJ σ0 71 d))), (4, .int (1 : Int32)), (5, .int (nI d))] dL_balances_137 rfl rfl ?_
    refine V_iinc (nI (d + 1)) [(0, .ref 2), (1, .ref 73), (2, .long (X + (zJ σ0 71 d))), (4, .int (1 : Int32)), (5, .int (nI (d + 1)))] dL_balances_139 (nI_1 d) rfl rfl rfl ?_
    refine V_goto 100 dL_balances_142 rfl ?_
    exact IH ω2 K2
theorem lp1_balances {g : GP} {σ0 : AH} {s : Nat} (hg : gG g = none) (h : Co s σ0) (hE : GE s σ0) : ∀ r d (X : Int64) ω, d + r = 5 → X = scT (zJ σ0 70) d → Kp ω σ0 → V g mL_balances (Em g mL_balances (fun ω rv => rv = some (.int 1) ∧ Kp ω σ0) NX) CT (3 * r + 27) (18 * r + 162) 48 [(0, .ref 2), (1, .ref 73), (2, .long X), (4, .int (1 : Int32)), (5, .int (nI d))] [] ω := by
  intro r
  induction r with
  | zero =>
    intro d X ω hdr hX Kω
    refine V_iload dL_balances_48 rfl ?_
    refine V_iconst (5 : Int32) dL_balances_50 (by decide) ?_
    refine V_icmp_ge 97 dL_balances_51 rfl (fun _ => ?_) (fun z_ => absurd (show (nI 5) ≤ (nI d) from c_le (by omega) (by omega)) z_)
    refine V_iconst (0 : Int32) dL_balances_97 (by decide) ?_
    refine V_istore [(0, .ref 2), (1, .ref 73), (2, .long X), (4, .int (1 : Int32)), (5, .int (0 : Int32))] dL_balances_98 rfl rfl ?_
    exact lp2_balances hg h hE 10 0 X ω rfl (by rw [hX, show d = 5 by omega, show scT (zJ σ0 71) 0 = 0 from rfl]; grind) Kω
  | succ r ih =>
    intro d X ω hdr hX Kω
    have hd : d < 5 := by omega
    have IH := fun ω Kω => ih (d + 1) (X + zJ σ0 70 d) ω (by omega) (by rw [hX, scT]) Kω
    have ekk : 3 * (r + 1) + 27 = (3 * r + 27) + 3 ∧ 18 * (r + 1) + 162 = (18 * r + 162) + 18 := ⟨by omega, by omega⟩
    rw [ekk.1, ekk.2]
    generalize 3 * r + 27 = kk at IH ⊢
    generalize 18 * r + 162 = nn at IH ⊢
    refine V_iload dL_balances_48 rfl ?_
    refine V_iconst (5 : Int32) dL_balances_50 (by decide) ?_
    refine V_icmp_ge 97 dL_balances_51 rfl (fun z_ => absurd z_ (show ¬ ((nI 5) ≤ (nI d)) from c_nle (by omega) (by decide))) (fun _ => ?_)
    refine V_iload dL_balances_54 rfl ?_
    refine V_if_eq 97 dL_balances_56 rfl (fun z_ => absurd z_ (by decide)) (fun _ => ?_)
    refine V_lload_n dL_balances_59 rfl ?_
    refine V_aload_n dL_balances_60 rfl ?_
    refine V_iload dL_balances_61 rfl ?_
    refine V_cKh (as := [.ref 2, .int (nI d)]) (k' := kk + 2) (n' := nn + 12) (P_cash hg hd Kω) mw_L_cash w_357 w_356 ar_L_cash ⟨rfl, rfl, Nat.ble_eq_true_of_le (show 1 + (kk + 2) ≤ kk + 3 by omega), Nat.ble_eq_true_of_le (show 6 + (nn + 12) ≤ nn + 18 by omega), rfl⟩ dL_balances_63 (fun ω1 K1 => ?_)
    refine V_ladd dL_balances_66 ?_
    refine V_lstore_n [(0, .ref 2), (1, .ref 73), (2, .long (X + (zJ σ0 70 d))), (4, .int (1 : Int32)), (5, .int (nI d))] dL_balances_67 rfl rfl ?_
    refine V_aload_n dL_balances_68 rfl ?_
    refine V_iload dL_balances_69 rfl ?_
    refine V_cKh (as := [.ref 2, .int (nI d)]) (k' := kk + 1) (n' := nn + 6) (P_cash hg hd K1) mw_L_cash w_357 w_356 ar_L_cash ⟨rfl, rfl, Nat.ble_eq_true_of_le (show 1 + (kk + 1) ≤ kk + 2 by omega), Nat.ble_eq_true_of_le (show 6 + (nn + 6) ≤ nn + 12 by omega), rfl⟩ dL_balances_71 (fun ω2 K2 => ?_)
    refine V_aload_n dL_balances_74 rfl ?_
    refine V_iload dL_balances_75 rfl ?_
    refine V_cKh (as := [.ref 2, .int (nI d)]) (k' := kk + 0) (n' := nn + 0) (P_cashAnew hg hd K2) mw_L_cashAnew w_384 w_383 ar_L_cashAnew ⟨rfl, rfl, Nat.ble_eq_true_of_le (show 1 + (kk + 0) ≤ kk + 1 by omega), Nat.ble_eq_true_of_le (show 6 + (nn + 0) ≤ nn + 6 by omega), rfl⟩ dL_balances_77 (fun ω3 K3 => ?_)
    refine V_lcmp dL_balances_80 ?_
    refine V_cast (st' := .int (0 : Int32) :: []) rfl (by rw [lc_0 rfl]) rfl ?_
    refine V_if_ne 88 dL_balances_81 rfl (fun z_ => absurd z_ (by decide)) (fun _ => ?_)
    refine V_iconst (1 : Int32) dL_balances_84 (by decide) ?_
    refine V_goto 89 dL_balances_85 rfl ?_
    refine V_istore [(0, .ref 2), (1, .ref 73), (2, .long (X + (zJ σ0 70 d))), (4, .int (1 : Int32)), (5, .int (nI d))] dL_balances_89 rfl rfl ?_
    refine V_iinc (nI (d + 1)) [(0, .ref 2), (1, .ref 73), (2, .long (X + (zJ σ0 70 d))), (4, .int (1 : Int32)), (5, .int (nI (d + 1)))] dL_balances_91 (nI_1 d) rfl rfl rfl ?_
    refine V_goto 48 dL_balances_94 rfl ?_
    exact IH ω3 K3
theorem s_L_balances {g : GP} {σ0 : AH} {s : Nat} (hg : gG g = none) (h : Co s σ0) (hE : GE s σ0) {σ : AH} (hK : Kp σ σ0) : Ct g mL_balances [.ref 2, .ref 73] σ (fun ω rv => rv = some (.int 1) ∧ Kp ω σ0) := by
  refine Ct_of (by decide +kernel) rfl rfl ?_
  refine V_lconst (0 : Int64) dL_balances_0 (by decide) ?_
  refine V_lstore_n [(0, .ref 2), (1, .ref 73), (2, .long (0 : Int64))] dL_balances_1 rfl rfl ?_
  refine V_aload_n dL_balances_2 rfl ?_
  refine V_iconst (5 : Int32) dL_balances_3 (by decide) ?_
  refine V_cKh (as := [.ref 2, .int (5 : Int32)]) (k' := 44) (n' := 264) (P_cashO hg hK) mw_L_cash w_357 w_356 ar_L_cash ⟨rfl, rfl, rfl, rfl, rfl⟩ dL_balances_4 (fun ω1 K1 => ?_)
  refine V_ldc2 (v := (-1000001 : Int64)) w_367 dL_balances_7 ?_
  refine V_lcmp dL_balances_10 ?_
  refine V_cast (st' := .int (0 : Int32) :: []) rfl (by rw [lc_0 rfl]) rfl ?_
  refine V_if_ne 42 dL_balances_11 rfl (fun z_ => absurd z_ (by decide)) (fun _ => ?_)
  refine V_aload_n dL_balances_14 rfl ?_
  refine V_bipush (10 : Int32) dL_balances_15 (by decide) ?_
  refine V_cKh (as := [.ref 2, .int (10 : Int32)]) (k' := 43) (n' := 258) (P_stateO hg K1) mw_L_state w_369 w_368 ar_L_state ⟨rfl, rfl, rfl, rfl, rfl⟩ dL_balances_17 (fun ω2 K2 => ?_)
  refine V_ldc2 (v := (-1000001 : Int64)) w_367 dL_balances_20 ?_
  refine V_lcmp dL_balances_23 ?_
  refine V_cast (st' := .int (0 : Int32) :: []) rfl (by rw [lc_0 rfl]) rfl ?_
  refine V_if_ne 42 dL_balances_24 rfl (fun z_ => absurd z_ (by decide)) (fun _ => ?_)
  refine V_aload_n dL_balances_27 rfl ?_
  refine V_bipush (6 : Int32) dL_balances_28 (by decide) ?_
  refine V_cKh (as := [.ref 2, .int (6 : Int32)]) (k' := 42) (n' := 252) (P_ofO hg K2) mw_L_of w_376 w_375 ar_L_of ⟨rfl, rfl, rfl, rfl, rfl⟩ dL_balances_30 (fun ω3 K3 => ?_)
  refine V_ldc (v := (-1000002 : Int32)) w_352 dL_balances_33 ?_
  refine V_icmp_ne 42 dL_balances_35 rfl (fun z_ => absurd z_ (by decide)) (fun _ => ?_)
  refine V_iconst (1 : Int32) dL_balances_38 (by decide) ?_
  refine V_goto 43 dL_balances_39 rfl ?_
  refine V_istore [(0, .ref 2), (1, .ref 73), (2, .long (0 : Int64)), (4, .int (1 : Int32))] dL_balances_43 rfl rfl ?_
  refine V_iconst (0 : Int32) dL_balances_45 (by decide) ?_
  refine V_istore [(0, .ref 2), (1, .ref 73), (2, .long (0 : Int64)), (4, .int (1 : Int32)), (5, .int (0 : Int32))] dL_balances_46 rfl rfl ?_
  exact lp1_balances hg h hE 5 0 0 ω3 rfl rfl K3
