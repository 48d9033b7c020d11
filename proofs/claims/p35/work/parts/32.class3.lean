/-! ===== longs that are naturals ===== -/
def nJ (n : Nat) : Int64 := Int64.ofNat n
theorem nJ_toInt {n : Nat} (h : n < 2 ^ 63) : (nJ n).toInt = n := Int64.toInt_ofNat_of_lt h
theorem nJ_i {n : Nat} (h : n < 2 ^ 31) : Int32.toInt64 (nI n) = nJ n := by
  apply Int64.toInt_inj.mp
  rw [Int32.toInt_toInt64, nI_toInt h, nJ_toInt (by omega)]
theorem nJ_mul (a b : Nat) : nJ a * nJ b = nJ (a * b) := (Int64.ofNat_mul a b).symm
theorem nJ_add (a b : Nat) : nJ a + nJ b = nJ (a + b) := (Int64.ofNat_add a b).symm
theorem nJ_sub {a b : Nat} (h : b ≤ a) : nJ a - nJ b = nJ (a - b) := by
  have : nJ a = nJ (a - b) + nJ b := by rw [nJ_add, Nat.sub_add_cancel h]
  rw [this]; grind
theorem nJ_div {a d : Nat} (ha : a < 2 ^ 62) (h0 : 0 < d) (hd : d < 2 ^ 62) : nJ a / nJ d = nJ (a / d) := by
  have h1 : a / d ≤ a := Nat.div_le_self a d
  have h2 : (a : Int) / (d : Int) = ((a / d : Nat) : Int) := (Int.natCast_ediv a d).symm
  generalize a / d = q at h1 h2 ⊢
  apply Int64.toInt_inj.mp
  rw [Int64.toInt_div, nJ_toInt (by omega), nJ_toInt (by omega), nJ_toInt (by omega), Int.tdiv_eq_ediv_of_nonneg (by omega), h2, Int.bmod_eq_of_le (by omega) (by omega)]
theorem nJ_32 (n : Nat) : Int64.toInt32 (nJ n) = nI n := Int64.toInt32_ofNat
theorem nJ_pos {n : Nat} (h : 0 < n) (hn : n < 2 ^ 63) : ¬ lg_cmp (nJ n) 0 ≤ 0 := by
  have h1 : nJ n > 0 := by
    rw [gt_iff_lt, Int64.lt_iff_toInt_lt, nJ_toInt hn]
    change (0 : Int) < n
    omega
  rw [lg_cmp, if_pos h1]
  decide
theorem s_X8_roundedUp {g : GP} {σ : AH} {c m : Int32} (hS : Sh σ) (hT : RT σ) (hc : bt c 0 1000000) (hm : bt m 0 25) : Ct g mX8_roundedUp [.ref 3, .int c, .int m] σ (FQ σ (some (.int (upF σ c m)))) := by
  obtain ⟨nf, h1, h2, h3, h4, h5, -⟩ := hT
  obtain ⟨U, hU, hU1, hU2⟩ := bt_nI h5 (by decide) (by decide)
  obtain ⟨C, rfl, -, hC⟩ := bt_nI hc (by decide) (by decide)
  obtain ⟨M, rfl, -, hM⟩ := bt_nI hm (by decide) (by decide)
  have e5 : Int32.toInt64 (zI σ 3 5) = nJ U := by rw [h4, hU, nJ_i (by omega)]
  have e100 : (100 : Int64) * nJ U = nJ (100 * U) := by rw [show (100 : Int64) = nJ 100 from rfl, nJ_mul]
  have hp : ¬ lg_cmp ((100 : Int64) * Int32.toInt64 (zI σ 3 5)) 0 ≤ 0 := by rw [e5, e100]; exact nJ_pos (by omega) (by omega)
  have hCM : C * (100 + M) ≤ 1000000 * 125 := Nat.mul_le_mul (by omega) (by omega)
  refine Ct_of (by decide +kernel) rfl rfl (b_X8_roundedUp_0 hS (fun q => absurd q hp) (fun _ q => ?_) (fun _ => fq_i ?_))
  · rw [e5, e100] at q
    have q' := congrArg Int64.toInt q
    rw [nJ_toInt (by omega)] at q'
    change ((100 * U : Nat) : Int) = 0 at q'
    omega
  · have hdv : ∀ a, a < 2 ^ 30 → a / (100 * U) * U ≤ a := fun a _ => by
      have h6 : a / (100 * U) * (100 * U) ≤ a := Nat.div_mul_le_self a (100 * U)
      have h7 : a / (100 * U) * U ≤ a / (100 * U) * (100 * U) := Nat.mul_le_mul_left _ (by omega)
      omega
    rw [e5, e100, nJ_i (by omega), show (100 : Int32) + nI M = nI (100 + M) by rw [show (100 : Int32) = nI 100 from rfl, nI_add], nJ_i (by omega), nJ_mul, nJ_add, show (1 : Int64) = nJ 1 from rfl, nJ_sub (by omega), nJ_div (by omega) (by omega) (by omega), nJ_mul, nJ_32]
    rw [upF, hU, show (100 : Int32) = nI 100 from rfl, nI_add, pk_mul, pk_mul, nI_add, show (1 : Int32) = nI 1 from rfl, pk_sub (by omega), pk_div (by omega) (by omega) (by omega), pk_mul]
