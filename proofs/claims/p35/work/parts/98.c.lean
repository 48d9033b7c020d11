/-! ===== the law: isBill ===== -/
theorem gk {ω σ : AH} (h : RO ω σ) (j : Nat) : zI ω 73 j = zI σ 73 j := h.1 73 j (by decide) (by decide) (by decide) (by omega)
theorem gk4 {ω σ : AH} (h : RO ω σ) (j : Nat) : zI ω 74 j = zI σ 74 j := h.1 74 j (by decide) (by decide) (by decide) (by omega)
theorem rem_n {a N : Nat} (h0 : 0 < N) (hN : N < 2 ^ 30) (ha : a < 2 ^ 30) : nI a - nI a / nI N * nI N = nI (a % N) := by
  have hd := Nat.div_add_mod a N
  have hle : a / N * N ≤ a := Nat.div_mul_le_self a N
  have e3 : a - a / N * N = a % N := by rw [Nat.mul_comm]; omega
  rw [pk_div (by omega) (by omega) (by omega), pk_mul, pk_sub hle, e3]
theorem q_of {a b : Nat} (ha : a < 2 ^ 30) (hb : b < 2 ^ 30) (h : nI a = nI b) : a = b := (nI_eq (by omega) (by omega)).mp h
theorem bl0 {σ : AH} {b : Nat} : blV σ b 0 = zI σ 62 b := rfl
theorem bl1 {σ : AH} {b : Nat} : blV σ b 1 = zI σ 63 b := rfl
theorem bl2 {σ : AH} {b : Nat} : blV σ b 2 = zI σ 64 b := rfl
theorem bl3 {σ : AH} {b : Nat} : blV σ b 3 = zI σ 65 b := rfl
theorem bl4 {σ : AH} {b : Nat} : blV σ b 4 = zI σ 66 b := rfl
theorem bl5 {σ : AH} {b : Nat} : blV σ b 5 = zI σ 67 b := rfl
theorem s_L_isBill {g : GP} {σ σ0 : AH} {s b n : Nat} (hg : gG g = none) (h : Co s σ0) (hE : GE s σ0) (hn : zI σ0 33 36 = nI n) (hn2 : n ≤ 240) (hb : b < n) (hK : Kp σ σ0) : Ct g mL_isBill [.ref 2, .ref 73, .int (nI b)] σ (fun ω rv => rv = some (.int 1) ∧ Kp ω σ0) := by
  obtain ⟨n', n240, r2, r3⟩ := Rel_bl h.2.1
  have en : n = n' := q_of (by omega) (by omega) (hn.symm.trans r2)
  subst en
  obtain ⟨p1, p2, -, st, r, z, e62, e66, e67, hss⟩ := r3 b hb
  obtain ⟨hne, hz, hr⟩ := h.2.2.2.2.2.1 b (by rw [hn, ix, cl0 (by omega)]; exact hb)
  obtain ⟨q, q1, q2⟩ := Rel_nm h.2.1
  have g3 : zI σ0 73 3 = nI n := hE.2.2.2.1.trans hn
  have g4 : zI σ0 73 4 = nI q := hE.2.2.2.2.1.trans q2
  have hzb : z < 1073741824 := hss.1
  have hss := hss.2
  have hzq : z ≤ q := by
    rw [e67, q2, nI_toInt (by omega), nI_toInt (by omega)] at hz
    omega
  have hst : st < 5 := by omega
  have hr4 : r < 4 := by omega
  have hr' : nI st = 2 ∨ nI st = 3 → 1 ≤ r := by
    rw [e62, e66, nI_toInt (by omega)] at hr
    intro w
    have := hr w
    omega
  have f4 : nI st = (4 : Int32) → r = 3 := fun w => by
    have := q_of (b := 4) (by omega) (by decide) w
    omega
  have f2 : nI st = (2 : Int32) → 1 ≤ r := fun w => hr' (Or.inl w)
  have f3 : nI st = (3 : Int32) → 1 ≤ r ∧ r ≤ 2 := fun w => ⟨hr' (Or.inr w), by
    have := q_of (b := 3) (by omega) (by decide) w
    omega⟩
  have f5 : ¬ nI (st % 2) = 0 → 1 ≤ z := fun w => by
    have : st % 2 ≠ 0 := fun e => w (by rw [e]; rfl)
    omega
  refine Ct_of (by decide +kernel) rfl rfl ?_
  have k104 : ∀ ω, Kp ω σ0 → V g mL_isBill (Em g mL_isBill (fun ω rv => rv = some (.int 1) ∧ Kp ω σ0) NX) CT 3 18 104 [(0, .ref 2), (1, .ref 73), (2, .int (nI b)), (3, .int (nI st)), (4, .int (nI r)), (5, .int (nI z))] [] ω := fun ω Kω => by
    refine V_aload_n dL_isBill_104 rfl ?_
    refine V_iload_n dL_isBill_105 rfl ?_
    refine V_iconst (2 : Int32) dL_isBill_106 (by decide) ?_
    refine V_cKh (as := [.ref 2, .int (nI b), .int (2 : Int32)]) (k' := 2) (n' := 12) (P_bl hg hn n240 hb (by decide) Kω) mw_L_ofBill w_439 w_438 ar_L_ofBill ⟨rfl, rfl, rfl, rfl, rfl⟩ dL_isBill_107 (fun ω105 K105 => ?_)
    refine V_cast (st' := .int (zI σ0 64 b) :: []) rfl (by rw [bl2]) rfl ?_
    refine V_aload_n dL_isBill_110 rfl ?_
    refine V_iload_n dL_isBill_111 rfl ?_
    refine V_iconst (3 : Int32) dL_isBill_112 (by decide) ?_
    refine V_cKh (as := [.ref 2, .int (nI b), .int (3 : Int32)]) (k' := 1) (n' := 6) (P_bl hg hn n240 hb (by decide) K105) mw_L_ofBill w_439 w_438 ar_L_ofBill ⟨rfl, rfl, rfl, rfl, rfl⟩ dL_isBill_113 (fun ω106 K106 => ?_)
    refine V_cast (st' := .int (zI σ0 65 b) :: [.int (zI σ0 64 b)]) rfl (by rw [bl3]) rfl ?_
    refine V_icmp_eq 136 dL_isBill_116 rfl (fun z_ => absurd z_ hne) (fun _ => ?_)
    refine V_aload_n dL_isBill_119 rfl ?_
    refine V_aload_n dL_isBill_120 rfl ?_
    refine V_iconst (3 : Int32) dL_isBill_121 (by decide) ?_
    refine V_gald dL_isBill_122 (by decide) (ga73 K106.2.1).1 (vp_l (n := 7) (ga73 K106.2.1).2 (vp_in_nI (n := 3) (by decide) (by decide))) ?_
    refine V_cast (st' := .int (zI ω106 73 3) :: [.ref 2]) rfl rfl rfl ?_
    refine V_cast (st' := .int (nI n) :: [.ref 2]) rfl (by rw [gk K106.2.2 3, g3]) rfl ?_
    refine V_iconst (0 : Int32) dL_isBill_123 (by decide) ?_
    refine V_cKh (as := [.ref 2, .int (nI n), .int (0 : Int32)]) (k' := 0) (n' := 0) (P_blO hg hn n240 K106) mw_L_ofBill w_439 w_438 ar_L_ofBill ⟨rfl, rfl, rfl, rfl, rfl⟩ dL_isBill_124 (fun ω107 K107 => ?_)
    refine V_ldc (v := (-1000001 : Int32)) w_351 dL_isBill_127 ?_
    refine V_icmp_ne 136 dL_isBill_129 rfl (fun z_ => absurd z_ (by decide)) (fun _ => ?_)
    refine V_iconst (1 : Int32) dL_isBill_132 (by decide) ?_
    refine V_goto 137 dL_isBill_133 rfl ?_
    refine V_zret rfl dL_isBill_137 (by decide) ?_
    exact ⟨rfl, K107⟩
  have k93 : ∀ ω, Kp ω σ0 → V g mL_isBill (Em g mL_isBill (fun ω rv => rv = some (.int 1) ∧ Kp ω σ0) NX) CT 3 18 93 [(0, .ref 2), (1, .ref 73), (2, .int (nI b)), (3, .int (nI st)), (4, .int (nI r)), (5, .int (nI z))] [] ω := fun ω Kω => by
    refine V_iload_n dL_isBill_93 rfl ?_
    refine V_iconst (2 : Int32) dL_isBill_94 (by decide) ?_
    refine V_irem dL_isBill_95 (by decide) ?_
    refine V_cast (st' := .int (nI (st % 2)) :: []) rfl (by rw [show nI st - nI st / (2 : Int32) * (2 : Int32) = nI (st % 2) from rem_n (by decide) (by decide) (by omega)]) rfl ?_
    refine V_if_eq 104 dL_isBill_96 rfl (fun c5 => ?_) (fun c5 => ?_)
    · exact k104 ω Kω
    · refine V_iload dL_isBill_99 rfl ?_
      refine V_if_le 136 dL_isBill_101 rfl (fun z_ => absurd z_ (show ¬ ((nI z) ≤ nI 0) from c_nle (by have := f5 c5; omega) (by omega))) (fun _ => ?_)
      exact k104 ω Kω
  have k77 : ∀ ω, Kp ω σ0 → V g mL_isBill (Em g mL_isBill (fun ω rv => rv = some (.int 1) ∧ Kp ω σ0) NX) CT 3 18 77 [(0, .ref 2), (1, .ref 73), (2, .int (nI b)), (3, .int (nI st)), (4, .int (nI r)), (5, .int (nI z))] [] ω := fun ω Kω => by
    refine V_iload_n dL_isBill_77 rfl ?_
    refine V_iconst (3 : Int32) dL_isBill_78 (by decide) ?_
    refine V_icmp_ne 93 dL_isBill_79 rfl (fun c3 => ?_) (fun c3 => ?_)
    · exact k93 ω Kω
    · refine V_iload dL_isBill_82 rfl ?_
      refine V_if_le 136 dL_isBill_84 rfl (fun z_ => absurd z_ (show ¬ ((nI r) ≤ nI 0) from c_nle (by have := f3 c3; omega) (by omega))) (fun _ => ?_)
      refine V_iload dL_isBill_87 rfl ?_
      refine V_iconst (3 : Int32) dL_isBill_89 (by decide) ?_
      refine V_icmp_ge 136 dL_isBill_90 rfl (fun z_ => absurd z_ (show ¬ ((nI 3) ≤ (nI r)) from c_nle (by have := f3 c3; omega) (by decide))) (fun _ => ?_)
      exact k93 ω Kω
  have k67 : ∀ ω, Kp ω σ0 → V g mL_isBill (Em g mL_isBill (fun ω rv => rv = some (.int 1) ∧ Kp ω σ0) NX) CT 3 18 67 [(0, .ref 2), (1, .ref 73), (2, .int (nI b)), (3, .int (nI st)), (4, .int (nI r)), (5, .int (nI z))] [] ω := fun ω Kω => by
    refine V_iload_n dL_isBill_67 rfl ?_
    refine V_iconst (2 : Int32) dL_isBill_68 (by decide) ?_
    refine V_icmp_ne 77 dL_isBill_69 rfl (fun c2 => ?_) (fun c2 => ?_)
    · exact k77 ω Kω
    · refine V_iload dL_isBill_72 rfl ?_
      refine V_if_le 136 dL_isBill_74 rfl (fun z_ => absurd z_ (show ¬ ((nI r) ≤ nI 0) from c_nle (by have := f2 c2; omega) (by omega))) (fun _ => ?_)
      exact k77 ω Kω
  refine V_aload_n dL_isBill_0 rfl ?_
  refine V_iload_n dL_isBill_1 rfl ?_
  refine V_iconst (0 : Int32) dL_isBill_2 (by decide) ?_
  refine V_cKh (as := [.ref 2, .int (nI b), .int (0 : Int32)]) (k' := 5) (n' := 30) (P_bl hg hn n240 hb (by decide) hK) mw_L_ofBill w_439 w_438 ar_L_ofBill ⟨rfl, rfl, rfl, rfl, rfl⟩ dL_isBill_3 (fun ω1 K1 => ?_)
  refine V_cast (st' := .int (nI st) :: []) rfl (by rw [bl0, e62]) rfl ?_
  refine V_istore_n [(0, .ref 2), (1, .ref 73), (2, .int (nI b)), (3, .int (nI st))] dL_isBill_6 rfl rfl ?_
  refine V_aload_n dL_isBill_7 rfl ?_
  refine V_iload_n dL_isBill_8 rfl ?_
  refine V_iconst (4 : Int32) dL_isBill_9 (by decide) ?_
  refine V_cKh (as := [.ref 2, .int (nI b), .int (4 : Int32)]) (k' := 4) (n' := 24) (P_bl hg hn n240 hb (by decide) K1) mw_L_ofBill w_439 w_438 ar_L_ofBill ⟨rfl, rfl, rfl, rfl, rfl⟩ dL_isBill_10 (fun ω2 K2 => ?_)
  refine V_cast (st' := .int (nI r) :: []) rfl (by rw [bl4, e66]) rfl ?_
  refine V_istore [(0, .ref 2), (1, .ref 73), (2, .int (nI b)), (3, .int (nI st)), (4, .int (nI r))] dL_isBill_13 rfl rfl ?_
  refine V_aload_n dL_isBill_15 rfl ?_
  refine V_iload_n dL_isBill_16 rfl ?_
  refine V_iconst (5 : Int32) dL_isBill_17 (by decide) ?_
  refine V_cKh (as := [.ref 2, .int (nI b), .int (5 : Int32)]) (k' := 3) (n' := 18) (P_bl hg hn n240 hb (by decide) K2) mw_L_ofBill w_439 w_438 ar_L_ofBill ⟨rfl, rfl, rfl, rfl, rfl⟩ dL_isBill_18 (fun ω3 K3 => ?_)
  refine V_cast (st' := .int (nI z) :: []) rfl (by rw [bl5, e67]) rfl ?_
  refine V_istore [(0, .ref 2), (1, .ref 73), (2, .int (nI b)), (3, .int (nI st)), (4, .int (nI r)), (5, .int (nI z))] dL_isBill_21 rfl rfl ?_
  refine V_iload_n dL_isBill_23 rfl ?_
  refine V_if_lt 136 dL_isBill_24 rfl (fun z_ => absurd z_ (show ¬ ((nI st) < nI 0) from c_nlt (by omega) (by omega))) (fun _ => ?_)
  refine V_iload_n dL_isBill_27 rfl ?_
  refine V_iconst (5 : Int32) dL_isBill_28 (by decide) ?_
  refine V_icmp_ge 136 dL_isBill_29 rfl (fun z_ => absurd z_ (show ¬ ((nI 5) ≤ (nI st)) from c_nle (by omega) (by decide))) (fun _ => ?_)
  refine V_iload dL_isBill_32 rfl ?_
  refine V_if_lt 136 dL_isBill_34 rfl (fun z_ => absurd z_ (show ¬ ((nI r) < nI 0) from c_nlt (by omega) (by omega))) (fun _ => ?_)
  refine V_iload dL_isBill_37 rfl ?_
  refine V_iconst (4 : Int32) dL_isBill_39 (by decide) ?_
  refine V_icmp_ge 136 dL_isBill_40 rfl (fun z_ => absurd z_ (show ¬ ((nI 4) ≤ (nI r)) from c_nle (by omega) (by decide))) (fun _ => ?_)
  refine V_iload dL_isBill_43 rfl ?_
  refine V_if_lt 136 dL_isBill_45 rfl (fun z_ => absurd z_ (show ¬ ((nI z) < nI 0) from c_nlt (by omega) (by omega))) (fun _ => ?_)
  refine V_iload dL_isBill_48 rfl ?_
  refine V_aload_n dL_isBill_50 rfl ?_
  refine V_iconst (4 : Int32) dL_isBill_51 (by decide) ?_
  refine V_gald dL_isBill_52 (by decide) (ga73 K3.2.1).1 (vp_l (n := 7) (ga73 K3.2.1).2 (vp_in_nI (n := 4) (by decide) (by decide))) ?_
  refine V_cast (st' := .int (zI ω3 73 4) :: [.int (nI z)]) rfl rfl rfl ?_
  refine V_cast (st' := .int (nI q) :: [.int (nI z)]) rfl (by rw [gk K3.2.2 4, g4]) rfl ?_
  refine V_icmp_gt 136 dL_isBill_53 rfl (fun z_ => absurd z_ (show ¬ ((nI q) < (nI z)) from c_nlt (by omega) (by omega))) (fun _ => ?_)
  refine V_iload_n dL_isBill_56 rfl ?_
  refine V_iconst (4 : Int32) dL_isBill_57 (by decide) ?_
  refine V_icmp_ne 67 dL_isBill_58 rfl (fun c4 => ?_) (fun c4 => ?_)
  · exact k67 ω3 K3
  · refine V_iload dL_isBill_61 rfl ?_
    refine V_iconst (3 : Int32) dL_isBill_63 (by decide) ?_
    refine V_icmp_ne 136 dL_isBill_64 rfl (fun z_ => absurd z_ (show ¬ (¬ (nI r) = (nI 3)) from c_nn (f4 c4))) (fun _ => ?_)
    exact k67 ω3 K3
