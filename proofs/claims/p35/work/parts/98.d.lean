/-! ===== the law: isTicket ===== -/
theorem tk0 {σ : AH} {t : Nat} : tkV σ t 0 = zI σ 50 t := rfl
theorem tk1 {σ : AH} {t : Nat} : tkV σ t 1 = smI (fun k => zI σ 57 (8 * t + k)) (ix (zI σ 52 t)) := rfl
theorem tk2 {σ : AH} {t : Nat} : tkV σ t 2 = zI σ 51 t := rfl
theorem tk3 {σ : AH} {t : Nat} : tkV σ t 3 = zI σ 52 t := rfl
theorem tk4 {σ : AH} {t : Nat} : tkV σ t 4 = zI σ 53 t := rfl
theorem tk5 {σ : AH} {t : Nat} : tkV σ t 5 = zI σ 54 t := rfl
theorem cp0 {σ : AH} {q : Nat} : cpV σ q 0 = zI σ 55 q := rfl
theorem cp1 {σ : AH} {q : Nat} : cpV σ q 1 = zI σ 56 q := rfl
theorem cp2 {σ : AH} {q : Nat} : cpV σ q 2 = zI σ 57 q := rfl
theorem cp3 {σ : AH} {q : Nat} : cpV σ q 3 = zI σ 58 q := rfl
theorem cp4 {σ : AH} {q : Nat} : cpV σ q 4 = zI σ 59 q := rfl
theorem cp5 {σ : AH} {q : Nat} : cpV σ q 5 = zI σ 61 q := rfl
theorem mm12 {a0 a1 a2 a3 a4 a5 a6 a7 a8 a9 a10 a11 : Nat × Value} : ∀ q ∈ [a0, a1, a2, a3, a4, a5, a6, a7, a8], q ∈ [a0, a1, a2, a3, a4, a5, a6, a7, a8, a9, a10, a11] := fun q hq => by
  simp only [List.mem_cons, List.not_mem_nil, or_false] at hq ⊢
  rcases hq with h | h | h | h | h | h | h | h | h <;> simp [h]
theorem lp_isTicket {g : GP} {σ0 : AH} {s t n m : Nat} (hg : gG g = none) (h : Co s σ0) (hE : GE s σ0) (hn : zI σ0 33 23 = nI n) (n30 : n ≤ 30) (ht : t < n) (hm : zI σ0 52 t = nI m) (m1 : 1 ≤ m) (m8 : m ≤ 8) : ∀ d, d ≤ m → ∀ (S T w : Int32) (ω : AH), S + smI (fun k => zI σ0 56 (8 * t + k)) d = zI σ0 50 t → T + smI (fun k => zI σ0 57 (8 * t + k)) d = smI (fun k => zI σ0 57 (8 * t + k)) m → (w = 0 ∨ (w = 1 ∧ ∃ k, d ≤ k ∧ k < m ∧ zI σ0 55 (8 * t + k) = 1)) → Kp ω σ0 → V g mL_isTicket (Em g mL_isTicket (fun ω rv => rv = some (.int 1) ∧ Kp ω σ0) NX) CT (9 * d + 2) (54 * d + 12) 75 [(0, .ref 2), (1, .ref 73), (2, .int (nI t)), (3, .int S), (4, .int T), (5, .int (nI m)), (6, .int w), (7, .int (1 : Int32)), (8, .int (nI d - 1))] [] ω := by
  obtain ⟨nb, n240, hnb, -⟩ := Rel_bl h.2.1
  have g3 : zI σ0 73 3 = nI nb := hE.2.2.2.1.trans hnb
  have im : ix (zI σ0 52 t) = m := by rw [hm]; exact cl0 (by omega)
  obtain ⟨-, -, hu, hCP⟩ := TK_at h (t := t) (by rw [hn, ix, cl0 (by omega)]; exact ht)
  rw [im] at hCP
  intro d
  induction d with
  | zero =>
    intro _ S T w ω hS hT hw Kω
    have hS : S = zI σ0 50 t := by rw [← hS, smI]; grind
    have hT : T = smI (fun k => zI σ0 57 (8 * t + k)) m := by rw [← hT, smI]; grind
    refine V_iload dL_isTicket_75 rfl ?_
    refine V_if_lt 255 dL_isTicket_77 rfl (fun _ => ?_) (fun z_ => absurd (show nI 0 - 1 < 0 by decide) z_)
    refine V_iload dL_isTicket_255 rfl ?_
    refine V_if_eq 285 dL_isTicket_257 rfl (fun z_ => absurd z_ (by decide)) (fun _ => ?_)
    refine V_iload_n dL_isTicket_260 rfl ?_
    refine V_aload_n dL_isTicket_261 rfl ?_
    refine V_iload_n dL_isTicket_262 rfl ?_
    refine V_iconst (0 : Int32) dL_isTicket_263 (by decide) ?_
    refine V_cKh (as := [.ref 2, .int (nI t), .int (0 : Int32)]) (k' := 1) (n' := 6) (P_tk hg hn n30 ht (by decide) Kω) mw_L_ofTicket w_422 w_421 ar_L_ofTicket ⟨rfl, rfl, rfl, rfl, rfl⟩ dL_isTicket_264 (fun ω1 K1 => ?_)
    refine V_cast (st' := .int (zI σ0 50 t) :: [.int S]) rfl (by rw [tk0]) rfl ?_
    refine V_icmp_ne 285 dL_isTicket_267 rfl (fun z_ => absurd z_ (fun z => z hS)) (fun _ => ?_)
    refine V_iload dL_isTicket_270 rfl ?_
    refine V_aload_n dL_isTicket_272 rfl ?_
    refine V_iload_n dL_isTicket_273 rfl ?_
    refine V_iconst (1 : Int32) dL_isTicket_274 (by decide) ?_
    refine V_cKh (as := [.ref 2, .int (nI t), .int (1 : Int32)]) (k' := 0) (n' := 0) (P_tk hg hn n30 ht (by decide) K1) mw_L_ofTicket w_422 w_421 ar_L_ofTicket ⟨rfl, rfl, rfl, rfl, rfl⟩ dL_isTicket_275 (fun ω2 K2 => ?_)
    refine V_cast (st' := .int (smI (fun k => zI σ0 57 (8 * t + k)) m) :: [.int T]) rfl (by rw [tk1, hm, ix, cl0 (by omega)]) rfl ?_
    refine V_icmp_ne 285 dL_isTicket_278 rfl (fun z_ => absurd z_ (fun z => z hT)) (fun _ => ?_)
    refine V_iconst (1 : Int32) dL_isTicket_281 (by decide) ?_
    refine V_goto 286 dL_isTicket_282 rfl ?_
    refine V_zret rfl dL_isTicket_286 (by decide) ?_
    exact ⟨rfl, K2⟩
  | succ e ih =>
    intro hd S T w ω hS hT hw Kω
    have he : e < m := by omega
    obtain ⟨hst, hsh, htx, hord, hlink⟩ := hCP e he
    obtain ⟨st, e55, -, hst5⟩ := bt_nI hst (by decide) (by decide)
    have flown : ¬ zI σ0 61 (8 * t + e) < 0 → st = 1 ∧ ∃ b, b < nb ∧ zI σ0 61 (8 * t + e) = nI b ∧ zI σ0 63 b = zI σ0 56 (8 * t + e) ∧ zI σ0 64 b = zI σ0 51 t ∧ zI σ0 65 b = zI σ0 58 (8 * t + e) := fun z => by
      rcases hlink with q | ⟨q1, b, q2, q3⟩
      · rw [Int32.lt_iff_toInt_lt, zero_toInt] at z
        exact absurd q z
      · refine ⟨q_of (b := 1) (by omega) (by decide) (e55.symm.trans q1), b, ?_, q3⟩
        rw [hnb, ix, cl0 (by omega)] at q2
        exact q2
    have hS1 : (S + zI σ0 56 (8 * t + e)) + smI (fun k => zI σ0 56 (8 * t + k)) e = zI σ0 50 t := by rw [← hS, smI]; grind
    have hT1 : (T + zI σ0 57 (8 * t + e)) + smI (fun k => zI σ0 57 (8 * t + k)) e = smI (fun k => zI σ0 57 (8 * t + k)) m := by rw [← hT, smI]; grind
    have IH := fun w ω hw Kω => ih (by omega) _ _ w ω hS1 hT1 hw Kω
    have ekk : 9 * (e + 1) + 2 = (9 * e + 2) + 9 ∧ 54 * (e + 1) + 12 = (54 * e + 12) + 54 := ⟨by omega, by omega⟩
    rw [ekk.1, ekk.2, nI_pred]
    generalize 9 * e + 2 = kk at IH ⊢
    generalize 54 * e + 12 = nn at IH ⊢
    have ec : nI e + (-1 : Int32) = nI e - 1 := by grind
    rcases hw with rfl | ⟨rfl, k, hk1, hk, ek⟩
    · have k224 : ∀ ω, Kp ω σ0 → V g mL_isTicket (Em g mL_isTicket (fun ω rv => rv = some (.int 1) ∧ Kp ω σ0) NX) CT kk nn 224 [(0, .ref 2), (1, .ref 73), (2, .int (nI t)), (3, .int (S + (zI σ0 56 (8 * t + e)))), (4, .int (T + (zI σ0 57 (8 * t + e)))), (5, .int (nI m)), (6, .int (0 : Int32)), (7, .int (1 : Int32)), (8, .int (nI e)), (9, .int (nI st)), (10, .int (zI σ0 56 (8 * t + e))), (11, .int (zI σ0 61 (8 * t + e)))] [] ω := fun ω Kω => by
        refine V_iconst (1 : Int32) dL_isTicket_224 (by decide) ?_
        refine V_goto 229 dL_isTicket_225 rfl ?_
        refine V_istore [(0, .ref 2), (1, .ref 73), (2, .int (nI t)), (3, .int (S + (zI σ0 56 (8 * t + e)))), (4, .int (T + (zI σ0 57 (8 * t + e)))), (5, .int (nI m)), (6, .int (0 : Int32)), (7, .int (1 : Int32)), (8, .int (nI e)), (9, .int (nI st)), (10, .int (zI σ0 56 (8 * t + e))), (11, .int (zI σ0 61 (8 * t + e)))] dL_isTicket_229 rfl rfl ?_
        refine V_iload dL_isTicket_231 rfl ?_
        refine V_if_ne 242 dL_isTicket_233 rfl (fun z_ => absurd z_ (by decide)) (fun _ => ?_)
        refine V_iload dL_isTicket_236 rfl ?_
        refine V_iconst (1 : Int32) dL_isTicket_238 (by decide) ?_
        refine V_icmp_ne 246 dL_isTicket_239 rfl (fun c1 => ?_) (fun c1 => ?_)
        · refine V_iconst (0 : Int32) dL_isTicket_246 (by decide) ?_
          refine V_istore [(0, .ref 2), (1, .ref 73), (2, .int (nI t)), (3, .int (S + (zI σ0 56 (8 * t + e)))), (4, .int (T + (zI σ0 57 (8 * t + e)))), (5, .int (nI m)), (6, .int (0 : Int32)), (7, .int (1 : Int32)), (8, .int (nI e)), (9, .int (nI st)), (10, .int (zI σ0 56 (8 * t + e))), (11, .int (zI σ0 61 (8 * t + e)))] dL_isTicket_247 rfl rfl ?_
          refine V_iinc (nI e - 1) [(0, .ref 2), (1, .ref 73), (2, .int (nI t)), (3, .int (S + (zI σ0 56 (8 * t + e)))), (4, .int (T + (zI σ0 57 (8 * t + e)))), (5, .int (nI m)), (6, .int (0 : Int32)), (7, .int (1 : Int32)), (8, .int (nI e - 1)), (9, .int (nI st)), (10, .int (zI σ0 56 (8 * t + e))), (11, .int (zI σ0 61 (8 * t + e)))] dL_isTicket_249 ec rfl rfl rfl ?_
          refine V_goto 75 dL_isTicket_252 rfl ?_
          refine V_less (k' := kk) (n' := nn) (ls' := [(0, .ref 2), (1, .ref 73), (2, .int (nI t)), (3, .int (S + (zI σ0 56 (8 * t + e)))), (4, .int (T + (zI σ0 57 (8 * t + e)))), (5, .int (nI m)), (6, .int (0 : Int32)), (7, .int (1 : Int32)), (8, .int (nI e - 1))]) mm12 (by omega) (by omega) ?_
          exact IH _ ω (Or.inl rfl) Kω
        · refine V_iconst (1 : Int32) dL_isTicket_242 (by decide) ?_
          refine V_goto 247 dL_isTicket_243 rfl ?_
          refine V_istore [(0, .ref 2), (1, .ref 73), (2, .int (nI t)), (3, .int (S + (zI σ0 56 (8 * t + e)))), (4, .int (T + (zI σ0 57 (8 * t + e)))), (5, .int (nI m)), (6, .int (1 : Int32)), (7, .int (1 : Int32)), (8, .int (nI e)), (9, .int (nI st)), (10, .int (zI σ0 56 (8 * t + e))), (11, .int (zI σ0 61 (8 * t + e)))] dL_isTicket_247 rfl rfl ?_
          refine V_iinc (nI e - 1) [(0, .ref 2), (1, .ref 73), (2, .int (nI t)), (3, .int (S + (zI σ0 56 (8 * t + e)))), (4, .int (T + (zI σ0 57 (8 * t + e)))), (5, .int (nI m)), (6, .int (1 : Int32)), (7, .int (1 : Int32)), (8, .int (nI e - 1)), (9, .int (nI st)), (10, .int (zI σ0 56 (8 * t + e))), (11, .int (zI σ0 61 (8 * t + e)))] dL_isTicket_249 ec rfl rfl rfl ?_
          refine V_goto 75 dL_isTicket_252 rfl ?_
          refine V_less (k' := kk) (n' := nn) (ls' := [(0, .ref 2), (1, .ref 73), (2, .int (nI t)), (3, .int (S + (zI σ0 56 (8 * t + e)))), (4, .int (T + (zI σ0 57 (8 * t + e)))), (5, .int (nI m)), (6, .int (1 : Int32)), (7, .int (1 : Int32)), (8, .int (nI e - 1))]) mm12 (by omega) (by omega) ?_
          exact IH _ ω (Or.inr ⟨rfl, e, Nat.le_refl e, he, by rw [e55, (q_of (b := 1) (by omega) (by decide) (c1))]; rfl⟩) Kω
      have k159 : ∀ ω, Kp ω σ0 → V g mL_isTicket (Em g mL_isTicket (fun ω rv => rv = some (.int 1) ∧ Kp ω σ0) NX) CT (kk + 5) (nn + 30) 159 [(0, .ref 2), (1, .ref 73), (2, .int (nI t)), (3, .int (S + (zI σ0 56 (8 * t + e)))), (4, .int (T + (zI σ0 57 (8 * t + e)))), (5, .int (nI m)), (6, .int (0 : Int32)), (7, .int (1 : Int32)), (8, .int (nI e)), (9, .int (nI st)), (10, .int (zI σ0 56 (8 * t + e))), (11, .int (zI σ0 61 (8 * t + e)))] [] ω := fun ω Kω => by
        refine V_iload dL_isTicket_159 rfl ?_
        refine V_if_lt 224 dL_isTicket_161 rfl (fun cb => ?_) (fun cb => ?_)
        · refine V_less (k' := kk) (n' := nn) (fun q hq => hq) (by omega) (by omega) ?_
          exact k224 ω Kω
        · obtain ⟨x1, b, hb, eb, l3, l4, l5⟩ := flown cb
          refine V_iload dL_isTicket_164 rfl ?_
          refine V_iconst (1 : Int32) dL_isTicket_166 (by decide) ?_
          refine V_icmp_ne 228 dL_isTicket_167 rfl (fun z_ => absurd z_ (show ¬ (¬ (nI st) = (nI 1)) from c_nn x1)) (fun _ => ?_)
          refine V_iload dL_isTicket_170 rfl ?_
          refine V_cast (st' := .int (nI b) :: []) rfl (by rw [eb]) rfl ?_
          refine V_aload_n dL_isTicket_172 rfl ?_
          refine V_iconst (3 : Int32) dL_isTicket_173 (by decide) ?_
          refine V_gald dL_isTicket_174 (by decide) (ga73 Kω.2.1).1 (vp_l (n := 7) (ga73 Kω.2.1).2 (vp_in_nI (n := 3) (by decide) (by decide))) ?_
          refine V_cast (st' := .int (zI ω 73 3) :: [.int (nI b)]) rfl rfl rfl ?_
          refine V_cast (st' := .int (nI nb) :: [.int (nI b)]) rfl (by rw [gk Kω.2.2 3, g3]) rfl ?_
          refine V_icmp_ge 228 dL_isTicket_175 rfl (fun z_ => absurd z_ (show ¬ ((nI nb) ≤ (nI b)) from c_nle hb (by omega))) (fun _ => ?_)
          refine V_aload_n dL_isTicket_178 rfl ?_
          refine V_iload dL_isTicket_179 rfl ?_
          refine V_cast (st' := .int (nI b) :: [.ref 2]) rfl (by rw [eb]) rfl ?_
          refine V_iconst (1 : Int32) dL_isTicket_181 (by decide) ?_
          refine V_cKh (as := [.ref 2, .int (nI b), .int (1 : Int32)]) (k' := kk + 4) (n' := nn + 24) (P_bl hg hnb n240 hb (by decide) Kω) mw_L_ofBill w_439 w_438 ar_L_ofBill ⟨rfl, rfl, Nat.ble_eq_true_of_le (show 1 + (kk + 4) ≤ kk + 5 by omega), Nat.ble_eq_true_of_le (show 6 + (nn + 24) ≤ nn + 30 by omega), rfl⟩ dL_isTicket_182 (fun ω301 K301 => ?_)
          refine V_cast (st' := .int (zI σ0 63 b) :: []) rfl (by rw [bl1]) rfl ?_
          refine V_iload dL_isTicket_185 rfl ?_
          refine V_icmp_ne 228 dL_isTicket_187 rfl (fun z_ => absurd z_ (fun z => z l3)) (fun _ => ?_)
          refine V_aload_n dL_isTicket_190 rfl ?_
          refine V_iload dL_isTicket_191 rfl ?_
          refine V_cast (st' := .int (nI b) :: [.ref 2]) rfl (by rw [eb]) rfl ?_
          refine V_iconst (2 : Int32) dL_isTicket_193 (by decide) ?_
          refine V_cKh (as := [.ref 2, .int (nI b), .int (2 : Int32)]) (k' := kk + 3) (n' := nn + 18) (P_bl hg hnb n240 hb (by decide) K301) mw_L_ofBill w_439 w_438 ar_L_ofBill ⟨rfl, rfl, Nat.ble_eq_true_of_le (show 1 + (kk + 3) ≤ kk + 4 by omega), Nat.ble_eq_true_of_le (show 6 + (nn + 18) ≤ nn + 24 by omega), rfl⟩ dL_isTicket_194 (fun ω302 K302 => ?_)
          refine V_cast (st' := .int (zI σ0 64 b) :: []) rfl (by rw [bl2]) rfl ?_
          refine V_aload_n dL_isTicket_197 rfl ?_
          refine V_iload_n dL_isTicket_198 rfl ?_
          refine V_iconst (2 : Int32) dL_isTicket_199 (by decide) ?_
          refine V_cKh (as := [.ref 2, .int (nI t), .int (2 : Int32)]) (k' := kk + 2) (n' := nn + 12) (P_tk hg hn n30 ht (by decide) K302) mw_L_ofTicket w_422 w_421 ar_L_ofTicket ⟨rfl, rfl, Nat.ble_eq_true_of_le (show 1 + (kk + 2) ≤ kk + 3 by omega), Nat.ble_eq_true_of_le (show 6 + (nn + 12) ≤ nn + 18 by omega), rfl⟩ dL_isTicket_200 (fun ω303 K303 => ?_)
          refine V_cast (st' := .int (zI σ0 51 t) :: [.int (zI σ0 64 b)]) rfl (by rw [tk2]) rfl ?_
          refine V_icmp_ne 228 dL_isTicket_203 rfl (fun z_ => absurd z_ (fun z => z l4)) (fun _ => ?_)
          refine V_aload_n dL_isTicket_206 rfl ?_
          refine V_iload dL_isTicket_207 rfl ?_
          refine V_cast (st' := .int (nI b) :: [.ref 2]) rfl (by rw [eb]) rfl ?_
          refine V_iconst (3 : Int32) dL_isTicket_209 (by decide) ?_
          refine V_cKh (as := [.ref 2, .int (nI b), .int (3 : Int32)]) (k' := kk + 1) (n' := nn + 6) (P_bl hg hnb n240 hb (by decide) K303) mw_L_ofBill w_439 w_438 ar_L_ofBill ⟨rfl, rfl, Nat.ble_eq_true_of_le (show 1 + (kk + 1) ≤ kk + 2 by omega), Nat.ble_eq_true_of_le (show 6 + (nn + 6) ≤ nn + 12 by omega), rfl⟩ dL_isTicket_210 (fun ω304 K304 => ?_)
          refine V_cast (st' := .int (zI σ0 65 b) :: []) rfl (by rw [bl3]) rfl ?_
          refine V_aload_n dL_isTicket_213 rfl ?_
          refine V_iload_n dL_isTicket_214 rfl ?_
          refine V_iload dL_isTicket_215 rfl ?_
          refine V_iconst (3 : Int32) dL_isTicket_217 (by decide) ?_
          refine V_cKh (as := [.ref 2, .int (nI t), .int (nI e), .int (3 : Int32)]) (k' := kk + 0) (n' := nn + 0) (P_cp hg hn n30 ht hm m8 he (by decide) K304) mw_L_ofCoupon w_430 w_429 ar_L_ofCoupon ⟨rfl, rfl, Nat.ble_eq_true_of_le (show 1 + (kk + 0) ≤ kk + 1 by omega), Nat.ble_eq_true_of_le (show 6 + (nn + 0) ≤ nn + 6 by omega), rfl⟩ dL_isTicket_218 (fun ω305 K305 => ?_)
          refine V_cast (st' := .int (zI σ0 58 (8 * t + e)) :: [.int (zI σ0 65 b)]) rfl (by rw [cp3]) rfl ?_
          refine V_icmp_ne 228 dL_isTicket_221 rfl (fun z_ => absurd z_ (fun z => z l5)) (fun _ => ?_)
          refine V_less (k' := kk) (n' := nn) (fun q hq => hq) (by omega) (by omega) ?_
          exact k224 ω305 K305
      refine V_iload dL_isTicket_75 rfl ?_
      refine V_if_lt 255 dL_isTicket_77 rfl (fun z_ => absurd z_ (show ¬ ((nI e) < nI 0) from c_nlt (by omega) (by omega))) (fun _ => ?_)
      refine V_iload dL_isTicket_80 rfl ?_
      refine V_if_eq 255 dL_isTicket_82 rfl (fun z_ => absurd z_ (by decide)) (fun _ => ?_)
      refine V_aload_n dL_isTicket_85 rfl ?_
      refine V_iload_n dL_isTicket_86 rfl ?_
      refine V_iload dL_isTicket_87 rfl ?_
      refine V_iconst (0 : Int32) dL_isTicket_89 (by decide) ?_
      refine V_cKh (as := [.ref 2, .int (nI t), .int (nI e), .int (0 : Int32)]) (k' := kk + 8) (n' := nn + 48) (P_cp hg hn n30 ht hm m8 he (by decide) Kω) mw_L_ofCoupon w_430 w_429 ar_L_ofCoupon ⟨rfl, rfl, Nat.ble_eq_true_of_le (show 1 + (kk + 8) ≤ kk + 9 by omega), Nat.ble_eq_true_of_le (show 6 + (nn + 48) ≤ nn + 54 by omega), rfl⟩ dL_isTicket_90 (fun ω401 K401 => ?_)
      refine V_cast (st' := .int (nI st) :: []) rfl (by rw [cp0, e55]) rfl ?_
      refine V_istore [(0, .ref 2), (1, .ref 73), (2, .int (nI t)), (3, .int S), (4, .int T), (5, .int (nI m)), (6, .int (0 : Int32)), (7, .int (1 : Int32)), (8, .int (nI e)), (9, .int (nI st))] dL_isTicket_93 rfl rfl ?_
      refine V_aload_n dL_isTicket_95 rfl ?_
      refine V_iload_n dL_isTicket_96 rfl ?_
      refine V_iload dL_isTicket_97 rfl ?_
      refine V_iconst (1 : Int32) dL_isTicket_99 (by decide) ?_
      refine V_cKh (as := [.ref 2, .int (nI t), .int (nI e), .int (1 : Int32)]) (k' := kk + 7) (n' := nn + 42) (P_cp hg hn n30 ht hm m8 he (by decide) K401) mw_L_ofCoupon w_430 w_429 ar_L_ofCoupon ⟨rfl, rfl, Nat.ble_eq_true_of_le (show 1 + (kk + 7) ≤ kk + 8 by omega), Nat.ble_eq_true_of_le (show 6 + (nn + 42) ≤ nn + 48 by omega), rfl⟩ dL_isTicket_100 (fun ω402 K402 => ?_)
      refine V_cast (st' := .int (zI σ0 56 (8 * t + e)) :: []) rfl (by rw [cp1]) rfl ?_
      refine V_istore [(0, .ref 2), (1, .ref 73), (2, .int (nI t)), (3, .int S), (4, .int T), (5, .int (nI m)), (6, .int (0 : Int32)), (7, .int (1 : Int32)), (8, .int (nI e)), (9, .int (nI st)), (10, .int (zI σ0 56 (8 * t + e)))] dL_isTicket_103 rfl rfl ?_
      refine V_aload_n dL_isTicket_105 rfl ?_
      refine V_iload_n dL_isTicket_106 rfl ?_
      refine V_iload dL_isTicket_107 rfl ?_
      refine V_iconst (5 : Int32) dL_isTicket_109 (by decide) ?_
      refine V_cKh (as := [.ref 2, .int (nI t), .int (nI e), .int (5 : Int32)]) (k' := kk + 6) (n' := nn + 36) (P_cp hg hn n30 ht hm m8 he (by decide) K402) mw_L_ofCoupon w_430 w_429 ar_L_ofCoupon ⟨rfl, rfl, Nat.ble_eq_true_of_le (show 1 + (kk + 6) ≤ kk + 7 by omega), Nat.ble_eq_true_of_le (show 6 + (nn + 36) ≤ nn + 42 by omega), rfl⟩ dL_isTicket_110 (fun ω403 K403 => ?_)
      refine V_cast (st' := .int (zI σ0 61 (8 * t + e)) :: []) rfl (by rw [cp5]) rfl ?_
      refine V_istore [(0, .ref 2), (1, .ref 73), (2, .int (nI t)), (3, .int S), (4, .int T), (5, .int (nI m)), (6, .int (0 : Int32)), (7, .int (1 : Int32)), (8, .int (nI e)), (9, .int (nI st)), (10, .int (zI σ0 56 (8 * t + e))), (11, .int (zI σ0 61 (8 * t + e)))] dL_isTicket_113 rfl rfl ?_
      refine V_iload_n dL_isTicket_115 rfl ?_
      refine V_iload dL_isTicket_116 rfl ?_
      refine V_iadd dL_isTicket_118 ?_
      refine V_istore_n [(0, .ref 2), (1, .ref 73), (2, .int (nI t)), (3, .int (S + (zI σ0 56 (8 * t + e)))), (4, .int T), (5, .int (nI m)), (6, .int (0 : Int32)), (7, .int (1 : Int32)), (8, .int (nI e)), (9, .int (nI st)), (10, .int (zI σ0 56 (8 * t + e))), (11, .int (zI σ0 61 (8 * t + e)))] dL_isTicket_119 rfl rfl ?_
      refine V_iload dL_isTicket_120 rfl ?_
      refine V_aload_n dL_isTicket_122 rfl ?_
      refine V_iload_n dL_isTicket_123 rfl ?_
      refine V_iload dL_isTicket_124 rfl ?_
      refine V_iconst (2 : Int32) dL_isTicket_126 (by decide) ?_
      refine V_cKh (as := [.ref 2, .int (nI t), .int (nI e), .int (2 : Int32)]) (k' := kk + 5) (n' := nn + 30) (P_cp hg hn n30 ht hm m8 he (by decide) K403) mw_L_ofCoupon w_430 w_429 ar_L_ofCoupon ⟨rfl, rfl, Nat.ble_eq_true_of_le (show 1 + (kk + 5) ≤ kk + 6 by omega), Nat.ble_eq_true_of_le (show 6 + (nn + 30) ≤ nn + 36 by omega), rfl⟩ dL_isTicket_127 (fun ω404 K404 => ?_)
      refine V_cast (st' := .int (zI σ0 57 (8 * t + e)) :: [.int T]) rfl (by rw [cp2]) rfl ?_
      refine V_iadd dL_isTicket_130 ?_
      refine V_istore [(0, .ref 2), (1, .ref 73), (2, .int (nI t)), (3, .int (S + (zI σ0 56 (8 * t + e)))), (4, .int (T + (zI σ0 57 (8 * t + e)))), (5, .int (nI m)), (6, .int (0 : Int32)), (7, .int (1 : Int32)), (8, .int (nI e)), (9, .int (nI st)), (10, .int (zI σ0 56 (8 * t + e))), (11, .int (zI σ0 61 (8 * t + e)))] dL_isTicket_131 rfl rfl ?_
      refine V_iload dL_isTicket_133 rfl ?_
      refine V_if_lt 228 dL_isTicket_135 rfl (fun z_ => absurd z_ (show ¬ ((nI st) < nI 0) from c_nlt (by omega) (by omega))) (fun _ => ?_)
      refine V_iload dL_isTicket_138 rfl ?_
      refine V_iconst (5 : Int32) dL_isTicket_140 (by decide) ?_
      refine V_icmp_ge 228 dL_isTicket_141 rfl (fun z_ => absurd z_ (show ¬ ((nI 5) ≤ (nI st)) from c_nle (by omega) (by decide))) (fun _ => ?_)
      refine V_iload dL_isTicket_144 rfl ?_
      refine V_if_lt 228 dL_isTicket_146 rfl (fun z_ => absurd z_ (fun z => by rw [Int32.lt_iff_toInt_lt, zero_toInt] at z; have := (hsh).1; omega)) (fun _ => ?_)
      refine V_iload dL_isTicket_149 rfl ?_
      refine V_if_ne 159 dL_isTicket_151 rfl (fun c0 => ?_) (fun c0 => ?_)
      · exact k159 ω404 K404
      · refine V_iload dL_isTicket_154 rfl ?_
        refine V_if_ne 228 dL_isTicket_156 rfl (fun z_ => absurd z_ (by decide)) (fun _ => ?_)
        exact k159 ω404 K404
    · have h0 : ¬ nI st = 0 := by rw [← e55]; exact (hCP k hk).2.2.2.1 ek e (by omega)
      have k224 : ∀ ω, Kp ω σ0 → V g mL_isTicket (Em g mL_isTicket (fun ω rv => rv = some (.int 1) ∧ Kp ω σ0) NX) CT kk nn 224 [(0, .ref 2), (1, .ref 73), (2, .int (nI t)), (3, .int (S + (zI σ0 56 (8 * t + e)))), (4, .int (T + (zI σ0 57 (8 * t + e)))), (5, .int (nI m)), (6, .int (1 : Int32)), (7, .int (1 : Int32)), (8, .int (nI e)), (9, .int (nI st)), (10, .int (zI σ0 56 (8 * t + e))), (11, .int (zI σ0 61 (8 * t + e)))] [] ω := fun ω Kω => by
        refine V_iconst (1 : Int32) dL_isTicket_224 (by decide) ?_
        refine V_goto 229 dL_isTicket_225 rfl ?_
        refine V_istore [(0, .ref 2), (1, .ref 73), (2, .int (nI t)), (3, .int (S + (zI σ0 56 (8 * t + e)))), (4, .int (T + (zI σ0 57 (8 * t + e)))), (5, .int (nI m)), (6, .int (1 : Int32)), (7, .int (1 : Int32)), (8, .int (nI e)), (9, .int (nI st)), (10, .int (zI σ0 56 (8 * t + e))), (11, .int (zI σ0 61 (8 * t + e)))] dL_isTicket_229 rfl rfl ?_
        refine V_iload dL_isTicket_231 rfl ?_
        refine V_if_ne 242 dL_isTicket_233 rfl (fun _ => ?_) (fun z_ => absurd z_ (by decide))
        refine V_iconst (1 : Int32) dL_isTicket_242 (by decide) ?_
        refine V_goto 247 dL_isTicket_243 rfl ?_
        refine V_istore [(0, .ref 2), (1, .ref 73), (2, .int (nI t)), (3, .int (S + (zI σ0 56 (8 * t + e)))), (4, .int (T + (zI σ0 57 (8 * t + e)))), (5, .int (nI m)), (6, .int (1 : Int32)), (7, .int (1 : Int32)), (8, .int (nI e)), (9, .int (nI st)), (10, .int (zI σ0 56 (8 * t + e))), (11, .int (zI σ0 61 (8 * t + e)))] dL_isTicket_247 rfl rfl ?_
        refine V_iinc (nI e - 1) [(0, .ref 2), (1, .ref 73), (2, .int (nI t)), (3, .int (S + (zI σ0 56 (8 * t + e)))), (4, .int (T + (zI σ0 57 (8 * t + e)))), (5, .int (nI m)), (6, .int (1 : Int32)), (7, .int (1 : Int32)), (8, .int (nI e - 1)), (9, .int (nI st)), (10, .int (zI σ0 56 (8 * t + e))), (11, .int (zI σ0 61 (8 * t + e)))] dL_isTicket_249 ec rfl rfl rfl ?_
        refine V_goto 75 dL_isTicket_252 rfl ?_
        refine V_less (k' := kk) (n' := nn) (ls' := [(0, .ref 2), (1, .ref 73), (2, .int (nI t)), (3, .int (S + (zI σ0 56 (8 * t + e)))), (4, .int (T + (zI σ0 57 (8 * t + e)))), (5, .int (nI m)), (6, .int (1 : Int32)), (7, .int (1 : Int32)), (8, .int (nI e - 1))]) mm12 (by omega) (by omega) ?_
        exact IH _ ω (Or.inr ⟨rfl, k, by omega, hk, ek⟩) Kω
      have k159 : ∀ ω, Kp ω σ0 → V g mL_isTicket (Em g mL_isTicket (fun ω rv => rv = some (.int 1) ∧ Kp ω σ0) NX) CT (kk + 5) (nn + 30) 159 [(0, .ref 2), (1, .ref 73), (2, .int (nI t)), (3, .int (S + (zI σ0 56 (8 * t + e)))), (4, .int (T + (zI σ0 57 (8 * t + e)))), (5, .int (nI m)), (6, .int (1 : Int32)), (7, .int (1 : Int32)), (8, .int (nI e)), (9, .int (nI st)), (10, .int (zI σ0 56 (8 * t + e))), (11, .int (zI σ0 61 (8 * t + e)))] [] ω := fun ω Kω => by
        refine V_iload dL_isTicket_159 rfl ?_
        refine V_if_lt 224 dL_isTicket_161 rfl (fun cb => ?_) (fun cb => ?_)
        · refine V_less (k' := kk) (n' := nn) (fun q hq => hq) (by omega) (by omega) ?_
          exact k224 ω Kω
        · obtain ⟨x1, b, hb, eb, l3, l4, l5⟩ := flown cb
          refine V_iload dL_isTicket_164 rfl ?_
          refine V_iconst (1 : Int32) dL_isTicket_166 (by decide) ?_
          refine V_icmp_ne 228 dL_isTicket_167 rfl (fun z_ => absurd z_ (show ¬ (¬ (nI st) = (nI 1)) from c_nn x1)) (fun _ => ?_)
          refine V_iload dL_isTicket_170 rfl ?_
          refine V_cast (st' := .int (nI b) :: []) rfl (by rw [eb]) rfl ?_
          refine V_aload_n dL_isTicket_172 rfl ?_
          refine V_iconst (3 : Int32) dL_isTicket_173 (by decide) ?_
          refine V_gald dL_isTicket_174 (by decide) (ga73 Kω.2.1).1 (vp_l (n := 7) (ga73 Kω.2.1).2 (vp_in_nI (n := 3) (by decide) (by decide))) ?_
          refine V_cast (st' := .int (zI ω 73 3) :: [.int (nI b)]) rfl rfl rfl ?_
          refine V_cast (st' := .int (nI nb) :: [.int (nI b)]) rfl (by rw [gk Kω.2.2 3, g3]) rfl ?_
          refine V_icmp_ge 228 dL_isTicket_175 rfl (fun z_ => absurd z_ (show ¬ ((nI nb) ≤ (nI b)) from c_nle hb (by omega))) (fun _ => ?_)
          refine V_aload_n dL_isTicket_178 rfl ?_
          refine V_iload dL_isTicket_179 rfl ?_
          refine V_cast (st' := .int (nI b) :: [.ref 2]) rfl (by rw [eb]) rfl ?_
          refine V_iconst (1 : Int32) dL_isTicket_181 (by decide) ?_
          refine V_cKh (as := [.ref 2, .int (nI b), .int (1 : Int32)]) (k' := kk + 4) (n' := nn + 24) (P_bl hg hnb n240 hb (by decide) Kω) mw_L_ofBill w_439 w_438 ar_L_ofBill ⟨rfl, rfl, Nat.ble_eq_true_of_le (show 1 + (kk + 4) ≤ kk + 5 by omega), Nat.ble_eq_true_of_le (show 6 + (nn + 24) ≤ nn + 30 by omega), rfl⟩ dL_isTicket_182 (fun ω301 K301 => ?_)
          refine V_cast (st' := .int (zI σ0 63 b) :: []) rfl (by rw [bl1]) rfl ?_
          refine V_iload dL_isTicket_185 rfl ?_
          refine V_icmp_ne 228 dL_isTicket_187 rfl (fun z_ => absurd z_ (fun z => z l3)) (fun _ => ?_)
          refine V_aload_n dL_isTicket_190 rfl ?_
          refine V_iload dL_isTicket_191 rfl ?_
          refine V_cast (st' := .int (nI b) :: [.ref 2]) rfl (by rw [eb]) rfl ?_
          refine V_iconst (2 : Int32) dL_isTicket_193 (by decide) ?_
          refine V_cKh (as := [.ref 2, .int (nI b), .int (2 : Int32)]) (k' := kk + 3) (n' := nn + 18) (P_bl hg hnb n240 hb (by decide) K301) mw_L_ofBill w_439 w_438 ar_L_ofBill ⟨rfl, rfl, Nat.ble_eq_true_of_le (show 1 + (kk + 3) ≤ kk + 4 by omega), Nat.ble_eq_true_of_le (show 6 + (nn + 18) ≤ nn + 24 by omega), rfl⟩ dL_isTicket_194 (fun ω302 K302 => ?_)
          refine V_cast (st' := .int (zI σ0 64 b) :: []) rfl (by rw [bl2]) rfl ?_
          refine V_aload_n dL_isTicket_197 rfl ?_
          refine V_iload_n dL_isTicket_198 rfl ?_
          refine V_iconst (2 : Int32) dL_isTicket_199 (by decide) ?_
          refine V_cKh (as := [.ref 2, .int (nI t), .int (2 : Int32)]) (k' := kk + 2) (n' := nn + 12) (P_tk hg hn n30 ht (by decide) K302) mw_L_ofTicket w_422 w_421 ar_L_ofTicket ⟨rfl, rfl, Nat.ble_eq_true_of_le (show 1 + (kk + 2) ≤ kk + 3 by omega), Nat.ble_eq_true_of_le (show 6 + (nn + 12) ≤ nn + 18 by omega), rfl⟩ dL_isTicket_200 (fun ω303 K303 => ?_)
          refine V_cast (st' := .int (zI σ0 51 t) :: [.int (zI σ0 64 b)]) rfl (by rw [tk2]) rfl ?_
          refine V_icmp_ne 228 dL_isTicket_203 rfl (fun z_ => absurd z_ (fun z => z l4)) (fun _ => ?_)
          refine V_aload_n dL_isTicket_206 rfl ?_
          refine V_iload dL_isTicket_207 rfl ?_
          refine V_cast (st' := .int (nI b) :: [.ref 2]) rfl (by rw [eb]) rfl ?_
          refine V_iconst (3 : Int32) dL_isTicket_209 (by decide) ?_
          refine V_cKh (as := [.ref 2, .int (nI b), .int (3 : Int32)]) (k' := kk + 1) (n' := nn + 6) (P_bl hg hnb n240 hb (by decide) K303) mw_L_ofBill w_439 w_438 ar_L_ofBill ⟨rfl, rfl, Nat.ble_eq_true_of_le (show 1 + (kk + 1) ≤ kk + 2 by omega), Nat.ble_eq_true_of_le (show 6 + (nn + 6) ≤ nn + 12 by omega), rfl⟩ dL_isTicket_210 (fun ω304 K304 => ?_)
          refine V_cast (st' := .int (zI σ0 65 b) :: []) rfl (by rw [bl3]) rfl ?_
          refine V_aload_n dL_isTicket_213 rfl ?_
          refine V_iload_n dL_isTicket_214 rfl ?_
          refine V_iload dL_isTicket_215 rfl ?_
          refine V_iconst (3 : Int32) dL_isTicket_217 (by decide) ?_
          refine V_cKh (as := [.ref 2, .int (nI t), .int (nI e), .int (3 : Int32)]) (k' := kk + 0) (n' := nn + 0) (P_cp hg hn n30 ht hm m8 he (by decide) K304) mw_L_ofCoupon w_430 w_429 ar_L_ofCoupon ⟨rfl, rfl, Nat.ble_eq_true_of_le (show 1 + (kk + 0) ≤ kk + 1 by omega), Nat.ble_eq_true_of_le (show 6 + (nn + 0) ≤ nn + 6 by omega), rfl⟩ dL_isTicket_218 (fun ω305 K305 => ?_)
          refine V_cast (st' := .int (zI σ0 58 (8 * t + e)) :: [.int (zI σ0 65 b)]) rfl (by rw [cp3]) rfl ?_
          refine V_icmp_ne 228 dL_isTicket_221 rfl (fun z_ => absurd z_ (fun z => z l5)) (fun _ => ?_)
          refine V_less (k' := kk) (n' := nn) (fun q hq => hq) (by omega) (by omega) ?_
          exact k224 ω305 K305
      refine V_iload dL_isTicket_75 rfl ?_
      refine V_if_lt 255 dL_isTicket_77 rfl (fun z_ => absurd z_ (show ¬ ((nI e) < nI 0) from c_nlt (by omega) (by omega))) (fun _ => ?_)
      refine V_iload dL_isTicket_80 rfl ?_
      refine V_if_eq 255 dL_isTicket_82 rfl (fun z_ => absurd z_ (by decide)) (fun _ => ?_)
      refine V_aload_n dL_isTicket_85 rfl ?_
      refine V_iload_n dL_isTicket_86 rfl ?_
      refine V_iload dL_isTicket_87 rfl ?_
      refine V_iconst (0 : Int32) dL_isTicket_89 (by decide) ?_
      refine V_cKh (as := [.ref 2, .int (nI t), .int (nI e), .int (0 : Int32)]) (k' := kk + 8) (n' := nn + 48) (P_cp hg hn n30 ht hm m8 he (by decide) Kω) mw_L_ofCoupon w_430 w_429 ar_L_ofCoupon ⟨rfl, rfl, Nat.ble_eq_true_of_le (show 1 + (kk + 8) ≤ kk + 9 by omega), Nat.ble_eq_true_of_le (show 6 + (nn + 48) ≤ nn + 54 by omega), rfl⟩ dL_isTicket_90 (fun ω401 K401 => ?_)
      refine V_cast (st' := .int (nI st) :: []) rfl (by rw [cp0, e55]) rfl ?_
      refine V_istore [(0, .ref 2), (1, .ref 73), (2, .int (nI t)), (3, .int S), (4, .int T), (5, .int (nI m)), (6, .int (1 : Int32)), (7, .int (1 : Int32)), (8, .int (nI e)), (9, .int (nI st))] dL_isTicket_93 rfl rfl ?_
      refine V_aload_n dL_isTicket_95 rfl ?_
      refine V_iload_n dL_isTicket_96 rfl ?_
      refine V_iload dL_isTicket_97 rfl ?_
      refine V_iconst (1 : Int32) dL_isTicket_99 (by decide) ?_
      refine V_cKh (as := [.ref 2, .int (nI t), .int (nI e), .int (1 : Int32)]) (k' := kk + 7) (n' := nn + 42) (P_cp hg hn n30 ht hm m8 he (by decide) K401) mw_L_ofCoupon w_430 w_429 ar_L_ofCoupon ⟨rfl, rfl, Nat.ble_eq_true_of_le (show 1 + (kk + 7) ≤ kk + 8 by omega), Nat.ble_eq_true_of_le (show 6 + (nn + 42) ≤ nn + 48 by omega), rfl⟩ dL_isTicket_100 (fun ω402 K402 => ?_)
      refine V_cast (st' := .int (zI σ0 56 (8 * t + e)) :: []) rfl (by rw [cp1]) rfl ?_
      refine V_istore [(0, .ref 2), (1, .ref 73), (2, .int (nI t)), (3, .int S), (4, .int T), (5, .int (nI m)), (6, .int (1 : Int32)), (7, .int (1 : Int32)), (8, .int (nI e)), (9, .int (nI st)), (10, .int (zI σ0 56 (8 * t + e)))] dL_isTicket_103 rfl rfl ?_
      refine V_aload_n dL_isTicket_105 rfl ?_
      refine V_iload_n dL_isTicket_106 rfl ?_
      refine V_iload dL_isTicket_107 rfl ?_
      refine V_iconst (5 : Int32) dL_isTicket_109 (by decide) ?_
      refine V_cKh (as := [.ref 2, .int (nI t), .int (nI e), .int (5 : Int32)]) (k' := kk + 6) (n' := nn + 36) (P_cp hg hn n30 ht hm m8 he (by decide) K402) mw_L_ofCoupon w_430 w_429 ar_L_ofCoupon ⟨rfl, rfl, Nat.ble_eq_true_of_le (show 1 + (kk + 6) ≤ kk + 7 by omega), Nat.ble_eq_true_of_le (show 6 + (nn + 36) ≤ nn + 42 by omega), rfl⟩ dL_isTicket_110 (fun ω403 K403 => ?_)
      refine V_cast (st' := .int (zI σ0 61 (8 * t + e)) :: []) rfl (by rw [cp5]) rfl ?_
      refine V_istore [(0, .ref 2), (1, .ref 73), (2, .int (nI t)), (3, .int S), (4, .int T), (5, .int (nI m)), (6, .int (1 : Int32)), (7, .int (1 : Int32)), (8, .int (nI e)), (9, .int (nI st)), (10, .int (zI σ0 56 (8 * t + e))), (11, .int (zI σ0 61 (8 * t + e)))] dL_isTicket_113 rfl rfl ?_
      refine V_iload_n dL_isTicket_115 rfl ?_
      refine V_iload dL_isTicket_116 rfl ?_
      refine V_iadd dL_isTicket_118 ?_
      refine V_istore_n [(0, .ref 2), (1, .ref 73), (2, .int (nI t)), (3, .int (S + (zI σ0 56 (8 * t + e)))), (4, .int T), (5, .int (nI m)), (6, .int (1 : Int32)), (7, .int (1 : Int32)), (8, .int (nI e)), (9, .int (nI st)), (10, .int (zI σ0 56 (8 * t + e))), (11, .int (zI σ0 61 (8 * t + e)))] dL_isTicket_119 rfl rfl ?_
      refine V_iload dL_isTicket_120 rfl ?_
      refine V_aload_n dL_isTicket_122 rfl ?_
      refine V_iload_n dL_isTicket_123 rfl ?_
      refine V_iload dL_isTicket_124 rfl ?_
      refine V_iconst (2 : Int32) dL_isTicket_126 (by decide) ?_
      refine V_cKh (as := [.ref 2, .int (nI t), .int (nI e), .int (2 : Int32)]) (k' := kk + 5) (n' := nn + 30) (P_cp hg hn n30 ht hm m8 he (by decide) K403) mw_L_ofCoupon w_430 w_429 ar_L_ofCoupon ⟨rfl, rfl, Nat.ble_eq_true_of_le (show 1 + (kk + 5) ≤ kk + 6 by omega), Nat.ble_eq_true_of_le (show 6 + (nn + 30) ≤ nn + 36 by omega), rfl⟩ dL_isTicket_127 (fun ω404 K404 => ?_)
      refine V_cast (st' := .int (zI σ0 57 (8 * t + e)) :: [.int T]) rfl (by rw [cp2]) rfl ?_
      refine V_iadd dL_isTicket_130 ?_
      refine V_istore [(0, .ref 2), (1, .ref 73), (2, .int (nI t)), (3, .int (S + (zI σ0 56 (8 * t + e)))), (4, .int (T + (zI σ0 57 (8 * t + e)))), (5, .int (nI m)), (6, .int (1 : Int32)), (7, .int (1 : Int32)), (8, .int (nI e)), (9, .int (nI st)), (10, .int (zI σ0 56 (8 * t + e))), (11, .int (zI σ0 61 (8 * t + e)))] dL_isTicket_131 rfl rfl ?_
      refine V_iload dL_isTicket_133 rfl ?_
      refine V_if_lt 228 dL_isTicket_135 rfl (fun z_ => absurd z_ (show ¬ ((nI st) < nI 0) from c_nlt (by omega) (by omega))) (fun _ => ?_)
      refine V_iload dL_isTicket_138 rfl ?_
      refine V_iconst (5 : Int32) dL_isTicket_140 (by decide) ?_
      refine V_icmp_ge 228 dL_isTicket_141 rfl (fun z_ => absurd z_ (show ¬ ((nI 5) ≤ (nI st)) from c_nle (by omega) (by decide))) (fun _ => ?_)
      refine V_iload dL_isTicket_144 rfl ?_
      refine V_if_lt 228 dL_isTicket_146 rfl (fun z_ => absurd z_ (fun z => by rw [Int32.lt_iff_toInt_lt, zero_toInt] at z; have := (hsh).1; omega)) (fun _ => ?_)
      refine V_iload dL_isTicket_149 rfl ?_
      refine V_if_ne 159 dL_isTicket_151 rfl (fun _ => ?_) (fun z_ => absurd z_ h0)
      exact k159 ω404 K404
theorem s_L_isTicket {g : GP} {σ0 : AH} {s t n m : Nat} (hg : gG g = none) (h : Co s σ0) (hE : GE s σ0) (hn : zI σ0 33 23 = nI n) (n30 : n ≤ 30) (ht : t < n) (hm : zI σ0 52 t = nI m) (m1 : 1 ≤ m) (m8 : m ≤ 8) {σ : AH} (hK : Kp σ σ0) : Ct g mL_isTicket [.ref 2, .ref 73, .int (nI t)] σ (fun ω rv => rv = some (.int 1) ∧ Kp ω σ0) := by
  have im : ix (zI σ0 52 t) = m := by rw [hm]; exact cl0 (by omega)
  obtain ⟨hS0, -, hu, -⟩ := TK_at h (t := t) (by rw [hn, ix, cl0 (by omega)]; exact ht)
  rw [im] at hS0
  refine Ct_of (by decide +kernel) rfl rfl ?_
  refine V_aload_n dL_isTicket_0 rfl ?_
  refine V_iload_n dL_isTicket_1 rfl ?_
  refine V_iconst (5 : Int32) dL_isTicket_2 (by decide) ?_
  refine V_cKh (as := [.ref 2, .int (nI t), .int (5 : Int32)]) (k' := 77) (n' := 462) (P_tk hg hn n30 ht (by decide) hK) mw_L_ofTicket w_422 w_421 ar_L_ofTicket ⟨rfl, rfl, rfl, rfl, rfl⟩ dL_isTicket_3 (fun ω1 K1 => ?_)
  refine V_cast (st' := .int (zI σ0 54 t) :: []) rfl (by rw [tk5]) rfl ?_
  refine V_istore_n [(0, .ref 2), (1, .ref 73), (2, .int (nI t)), (3, .int (zI σ0 54 t))] dL_isTicket_6 rfl rfl ?_
  refine V_iconst (0 : Int32) dL_isTicket_7 (by decide) ?_
  refine V_istore [(0, .ref 2), (1, .ref 73), (2, .int (nI t)), (3, .int (zI σ0 54 t)), (4, .int (0 : Int32))] dL_isTicket_8 rfl rfl ?_
  refine V_aload_n dL_isTicket_10 rfl ?_
  refine V_iload_n dL_isTicket_11 rfl ?_
  refine V_iconst (3 : Int32) dL_isTicket_12 (by decide) ?_
  refine V_cKh (as := [.ref 2, .int (nI t), .int (3 : Int32)]) (k' := 76) (n' := 456) (P_tk hg hn n30 ht (by decide) K1) mw_L_ofTicket w_422 w_421 ar_L_ofTicket ⟨rfl, rfl, rfl, rfl, rfl⟩ dL_isTicket_13 (fun ω2 K2 => ?_)
  refine V_cast (st' := .int (nI m) :: []) rfl (by rw [tk3, hm]) rfl ?_
  refine V_istore [(0, .ref 2), (1, .ref 73), (2, .int (nI t)), (3, .int (zI σ0 54 t)), (4, .int (0 : Int32)), (5, .int (nI m))] dL_isTicket_16 rfl rfl ?_
  refine V_iconst (0 : Int32) dL_isTicket_18 (by decide) ?_
  refine V_istore [(0, .ref 2), (1, .ref 73), (2, .int (nI t)), (3, .int (zI σ0 54 t)), (4, .int (0 : Int32)), (5, .int (nI m)), (6, .int (0 : Int32))] dL_isTicket_19 rfl rfl ?_
  refine V_iload_n dL_isTicket_21 rfl ?_
  refine V_if_lt 66 dL_isTicket_22 rfl (fun z_ => absurd z_ (fun z => by rw [Int32.lt_iff_toInt_lt, zero_toInt] at z; have := (hu).1; omega)) (fun _ => ?_)
  refine V_iload dL_isTicket_25 rfl ?_
  refine V_if_le 66 dL_isTicket_27 rfl (fun z_ => absurd z_ (show ¬ ((nI m) ≤ nI 0) from c_nle (by omega) (by omega))) (fun _ => ?_)
  refine V_iload dL_isTicket_30 rfl ?_
  refine V_bipush (9 : Int32) dL_isTicket_32 (by decide) ?_
  refine V_icmp_ge 66 dL_isTicket_34 rfl (fun z_ => absurd z_ (show ¬ ((nI 9) ≤ (nI m)) from c_nle (by omega) (by decide))) (fun _ => ?_)
  refine V_aload_n dL_isTicket_37 rfl ?_
  refine V_iload_n dL_isTicket_38 rfl ?_
  refine V_bipush (6 : Int32) dL_isTicket_39 (by decide) ?_
  refine V_cKh (as := [.ref 2, .int (nI t), .int (6 : Int32)]) (k' := 75) (n' := 450) (P_tk6 hg hn n30 ht K2) mw_L_ofTicket w_422 w_421 ar_L_ofTicket ⟨rfl, rfl, rfl, rfl, rfl⟩ dL_isTicket_41 (fun ω3 K3 => ?_)
  refine V_ldc (v := (-1000002 : Int32)) w_352 dL_isTicket_44 ?_
  refine V_icmp_ne 66 dL_isTicket_46 rfl (fun z_ => absurd z_ (by decide)) (fun _ => ?_)
  refine V_aload_n dL_isTicket_49 rfl ?_
  refine V_iload_n dL_isTicket_50 rfl ?_
  refine V_iload dL_isTicket_51 rfl ?_
  refine V_iconst (0 : Int32) dL_isTicket_53 (by decide) ?_
  refine V_cKh (as := [.ref 2, .int (nI t), .int (nI m), .int (0 : Int32)]) (k' := 74) (n' := 444) (P_cpO hg hn n30 ht hm m8 K3) mw_L_ofCoupon w_430 w_429 ar_L_ofCoupon ⟨rfl, rfl, rfl, rfl, rfl⟩ dL_isTicket_54 (fun ω4 K4 => ?_)
  refine V_ldc (v := (-1000001 : Int32)) w_351 dL_isTicket_57 ?_
  refine V_icmp_ne 66 dL_isTicket_59 rfl (fun z_ => absurd z_ (by decide)) (fun _ => ?_)
  refine V_iconst (1 : Int32) dL_isTicket_62 (by decide) ?_
  refine V_goto 67 dL_isTicket_63 rfl ?_
  refine V_istore [(0, .ref 2), (1, .ref 73), (2, .int (nI t)), (3, .int (zI σ0 54 t)), (4, .int (0 : Int32)), (5, .int (nI m)), (6, .int (0 : Int32)), (7, .int (1 : Int32))] dL_isTicket_67 rfl rfl ?_
  refine V_iload dL_isTicket_69 rfl ?_
  refine V_iconst (1 : Int32) dL_isTicket_71 (by decide) ?_
  refine V_isub dL_isTicket_72 ?_
  refine V_istore [(0, .ref 2), (1, .ref 73), (2, .int (nI t)), (3, .int (zI σ0 54 t)), (4, .int (0 : Int32)), (5, .int (nI m)), (6, .int (0 : Int32)), (7, .int (1 : Int32)), (8, .int ((nI m) - (1 : Int32)))] dL_isTicket_73 rfl rfl ?_
  refine V_less (k' := 9 * m + 2) (n' := 54 * m + 12) (fun q hq => hq) (by omega) (by omega) ?_
  exact lp_isTicket hg h hE hn n30 ht hm m1 m8 m (Nat.le_refl m) _ _ _ ω4 (by rw [← hS0]; grind) (by grind) (Or.inl rfl) K4
