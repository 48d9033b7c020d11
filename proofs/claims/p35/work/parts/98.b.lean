/-! ===== the law: at, low ===== -/
theorem s_L_low {g : GP} {σ : AH} {x n : Int32} (h0 : ¬ n = 0) : Ct g mL_low [.int x, .int n] σ (FQ σ (some (.int (loF x n)))) := by
  refine Ct_of (by decide +kernel) rfl rfl ?_
  refine V_iload_n dL_low_0 rfl ?_
  refine V_ldc (v := (2147483647 : Int32)) w_456 dL_low_1 ?_
  refine V_iand dL_low_3 ?_
  refine V_iload_n dL_low_4 rfl ?_
  refine V_irem dL_low_5 h0 ?_
  refine V_iret rfl dL_low_6 ?_
  exact ⟨rfl, rfl⟩
theorem P_low {g : GP} {σ : AH} (x : Int32) {N : Nat} (h0 : 0 < N) (hN : N < 2 ^ 30) : ∃ j, j < N ∧ loF x (nI N) = nI j ∧ Ct g mL_low [.int x, .int (nI N)] σ (fun ω rv => rv = some (.int (nI j)) ∧ ω = σ) := by
  obtain ⟨j, h1, h2⟩ := lo_n x h0 hN
  refine ⟨j, h1, h2, Ct_mono (s_L_low (c_ne (b := 0) (by omega) hN (by decide))) (fun τ rv h => ?_)⟩
  obtain ⟨rfl, rfl⟩ := h
  exact ⟨by rw [h2], rfl⟩
theorem not_le_nI {a b : Nat} (ha : a < 2 ^ 30) (h : ¬ nI b ≤ nI a) : a < b := by
  rcases Nat.lt_or_ge a b with q | q
  · exact q
  · exact absurd (c_le q (by omega)) h
theorem P_at {g : GP} {σ : AH} {k : Nat} (hk : k < 2 ^ 30) : Ct g mL_at [.ref 1, .int (nI k)] σ (fun ω rv => ∃ y, rv = some (.int y) ∧ ω = σ) := by
  refine Ct_of (by decide +kernel) rfl rfl ?_
  refine V_iload_n dL_at_0 rfl ?_
  refine V_aload_n dL_at_1 rfl ?_
  refine V_slen dL_at_2 ?_
  refine V_icmp_ge 12 dL_at_3 rfl (fun c1 => ?_) (fun c1 => ?_)
  · refine V_ldc (v := (1944573377 : Int32)) w_241 dL_at_12 ?_
    refine V_iload_n dL_at_14 rfl ?_
    refine V_iconst (1 : Int32) dL_at_15 (by decide) ?_
    refine V_iadd dL_at_16 ?_
    refine V_imul dL_at_17 ?_
    refine V_ldc (v := (1035975139 : Int32)) w_242 dL_at_18 ?_
    refine V_iadd dL_at_20 ?_
    refine V_iret rfl dL_at_21 ?_
    exact ⟨_, rfl, rfl⟩
  · refine V_aload_n dL_at_6 rfl ?_
    refine V_iload_n dL_at_7 rfl ?_
    have hi : k < gL g := not_le_nI hk c1
    refine V_sld (i := k) hi dL_at_8 ?_
    refine V_goto 21 dL_at_9 rfl ?_
    refine V_iret rfl dL_at_21 ?_
    exact ⟨_, rfl, rfl⟩
