/-! ===== the law: its loop ===== -/
theorem and31 (y : Int32) : ∃ j, j < 32 ∧ y &&& 31 = nI j := by
  refine ⟨y.toBitVec.toNat % 32, Nat.mod_lt _ (by decide), ?_⟩
  apply Int32.toBitVec_inj.mp
  apply BitVec.eq_of_toNat_eq
  have h1 : (31 : Int32).toBitVec.toNat = 31 := by decide
  have h2 : y.toBitVec.toNat % 32 < 32 := Nat.mod_lt _ (by decide)
  rw [Int32.toBitVec_and, BitVec.toNat_and, h1]
  have h3 : y.toBitVec.toNat &&& 31 = y.toBitVec.toNat % 32 := Nat.and_two_pow_sub_one_eq_mod _ 5
  rw [h3]
  generalize y.toBitVec.toNat % 32 = j at *
  show j = (BitVec.ofNat 32 j).toNat
  rw [BitVec.toNat_ofNat, Nat.mod_eq_of_lt (by omega)]
/-- the law's loop from the call q on, d calls at most -/
theorem LOOP {g : GP} {b L : Nat} {xs : Nat → Int32} (hL : L ≤ 3584) : ∀ d q σ, q + d = 512 → Rel q σ → V g mLaw (ELw b) (CXl g b L xs) (11 * d) (94 * d) 23 [(0, .ref 1), (1, .ref 2), (2, .ref 33), (3, .ref 72), (4, .int (nI (7 * q)))] [] σ := by
  have hLb : L < 1073741824 := by omega
  have e7 : (7 : Int32).toInt = 7 := by decide
  intro d
  induction d with
  | zero =>
    intro q σ hq hR
    have l1 : (nI L - 7).toInt = (L : Int) - 7 := by
      rw [i_sub (by rw [nI_toInt (by omega), e7]; omega) (by rw [nI_toInt (by omega), e7]; omega), nI_toInt (by omega), e7]
    refine V_iload dW_23 rfl ?_
    refine V_aload_n dW_25 rfl ?_
    refine V_slen dW_26 ?_
    refine V_bipush (7 : Int32) dW_27 (by decide) ?_
    refine V_isub dW_29 ?_
    refine V_icmp_gt 1993 dW_30 rfl (fun _ => ?_) (fun c => absurd ?_ c)
    · refine V_iconst (1 : Int32) dW_1993 (by decide) ?_
      exact V_true dW_1994
    · rw [Int32.lt_iff_toInt_lt, l1, nI_toInt (by omega)]; omega
  | succ d ih =>
    intro q σ hq hR
    have l1 : (nI L - 7).toInt = (L : Int) - 7 := by
      rw [i_sub (by rw [nI_toInt (by omega), e7]; omega) (by rw [nI_toInt (by omega), e7]; omega), nI_toInt (by omega), e7]
    refine V_iload dW_23 rfl ?_
    refine V_aload_n dW_25 rfl ?_
    refine V_slen dW_26 ?_
    refine V_bipush (7 : Int32) dW_27 (by decide) ?_
    refine V_isub dW_29 ?_
    refine V_icmp_gt 1993 dW_30 rfl (fun _ => ?_) (fun c => ?_)
    · refine V_iconst (1 : Int32) dW_1993 (by decide) ?_
      exact V_true dW_1994
    rw [Int32.lt_iff_toInt_lt, l1, nI_toInt (by omega)] at c
    have hi : 7 * q + 6 < L := by omega
    refine V_aload_n dW_33 rfl ?_
    refine V_iload dW_34 rfl ?_
    refine V_sld (by omega) hLb dW_36 ?_
    refine V_bipush (31 : Int32) dW_37 (by decide) ?_
    refine V_iand dW_39 ?_
    obtain ⟨j, hj, e⟩ := and31 (xs (7 * q))
    rw [e]
    have kt : ∀ σ', Rel (q + 1) σ' → V g mLaw (ELw b) (CXl g b L xs) (11 * d) (94 * d) 1987 [(0, .ref 1), (1, .ref 2), (2, .ref 33), (3, .ref 72), (4, .int (nI (7 * q)))] [] σ' := fun σ' hR' => by
      refine V_iinc (i := 4) (nI (7 * (q + 1))) [(0, .ref 1), (1, .ref 2), (2, .ref 33), (3, .ref 72), (4, .int (nI (7 * (q + 1))))] dW_1987 ?_ rfl rfl rfl ?_
      · rw [show Int32.ofInt 7 = nI 7 from rfl, nI_add]; rfl
      · refine V_goto 23 dW_1990 rfl ?_
        exact ih (q + 1) σ' (by omega) hR'
    have eb : 11 * (d + 1) = 11 * d + 11 ∧ 94 * (d + 1) = 94 * d + 94 := by omega
    rw [eb.1, eb.2]
    have hq5 : q < 512 := by omega
    have js : j = 0 ∨ j = 1 ∨ j = 2 ∨ j = 3 ∨ j = 4 ∨ j = 5 ∨ j = 6 ∨ j = 7 ∨ j = 8 ∨ j = 9 ∨ j = 10 ∨ j = 11 ∨ j = 12 ∨ j = 13 ∨ j = 14 ∨ j = 15 ∨ j = 16 ∨ j = 17 ∨ j = 18 ∨ j = 19 ∨ j = 20 ∨ j = 21 ∨ j = 22 ∨ j = 23 ∨ j = 24 ∨ j = 25 ∨ j = 26 ∨ j = 27 ∨ j = 28 ∨ j = 29 ∨ j = 30 ∨ j = 31 := by omega
    rcases js with rfl | rfl | rfl | rfl | rfl | rfl | rfl | rfl | rfl | rfl | rfl | rfl | rfl | rfl | rfl | rfl | rfl | rfl | rfl | rfl | rfl | rfl | rfl | rfl | rfl | rfl | rfl | rfl | rfl | rfl | rfl | rfl
    · exact V_tableIn 184 dW_40 (by decide) (by decide) rfl rfl (LC_0 hLb hi hq5 hR kt)
    · exact V_tableIn 264 dW_40 (by decide) (by decide) rfl rfl (LC_1 hLb hi hq5 hR kt)
    · exact V_tableIn 382 dW_40 (by decide) (by decide) rfl rfl (LC_2 hLb hi hq5 hR kt)
    · exact V_tableIn 418 dW_40 (by decide) (by decide) rfl rfl (LC_3 hLb hi hq5 hR kt)
    · exact V_tableIn 474 dW_40 (by decide) (by decide) rfl rfl (LC_4 hLb hi hq5 hR kt)
    · exact V_tableIn 534 dW_40 (by decide) (by decide) rfl rfl (LC_5 hLb hi hq5 hR kt)
    · exact V_tableIn 614 dW_40 (by decide) (by decide) rfl rfl (LC_6 hLb hi hq5 hR kt)
    · exact V_tableIn 706 dW_40 (by decide) (by decide) rfl rfl (LC_7 hLb hi hq5 hR kt)
    · exact V_tableIn 762 dW_40 (by decide) (by decide) rfl rfl (LC_8 hLb hi hq5 hR kt)
    · exact V_tableIn 854 dW_40 (by decide) (by decide) rfl rfl (LC_9 hLb hi hq5 hR kt)
    · exact V_tableIn 867 dW_40 (by decide) (by decide) rfl rfl (LC_10 hLb hi hq5 hR kt)
    · exact V_tableIn 935 dW_40 (by decide) (by decide) rfl rfl (LC_11 hLb hi hq5 hR kt)
    · exact V_tableIn 948 dW_40 (by decide) (by decide) rfl rfl (LC_12 hLb hi hq5 hR kt)
    · exact V_tableIn 961 dW_40 (by decide) (by decide) rfl rfl (LC_13 hLb hi hq5 hR kt)
    · exact V_tableIn 974 dW_40 (by decide) (by decide) rfl rfl (LC_14 hLb hi hq5 hR kt)
    · exact V_tableIn 1030 dW_40 (by decide) (by decide) rfl rfl (LC_15 hLb hi hq5 hR kt)
    · exact V_tableIn 1098 dW_40 (by decide) (by decide) rfl rfl (LC_16 hLb hi hq5 hR kt)
    · exact V_tableIn 1178 dW_40 (by decide) (by decide) rfl rfl (LC_17 hLb hi hq5 hR kt)
    · exact V_tableIn 1234 dW_40 (by decide) (by decide) rfl rfl (LC_18 hLb hi hq5 hR kt)
    · exact V_tableIn 1290 dW_40 (by decide) (by decide) rfl rfl (LC_19 hLb hi hq5 hR kt)
    · exact V_tableIn 1346 dW_40 (by decide) (by decide) rfl rfl (LC_20 hLb hi hq5 hR kt)
    · exact V_tableIn 1360 dW_40 (by decide) (by decide) rfl rfl (LC_21 hLb hi hq5 hR kt)
    · exact V_tableIn 1416 dW_40 (by decide) (by decide) rfl rfl (LC_22 hLb hi hq5 hR kt)
    · exact V_tableIn 1452 dW_40 (by decide) (by decide) rfl rfl (LC_23 hLb hi hq5 hR kt)
    · exact V_tableIn 1536 dW_40 (by decide) (by decide) rfl rfl (LC_24 hLb hi hq5 hR kt)
    · exact V_tableIn 1604 dW_40 (by decide) (by decide) rfl rfl (LC_25 hLb hi hq5 hR kt)
    · exact V_tableIn 1684 dW_40 (by decide) (by decide) rfl rfl (LC_26 hLb hi hq5 hR kt)
    · exact V_tableIn 1752 dW_40 (by decide) (by decide) rfl rfl (LC_27 hLb hi hq5 hR kt)
    · exact V_tableIn 1807 dW_40 (by decide) (by decide) rfl rfl (LC_28 hLb hi hq5 hR kt)
    · exact V_tableIn 1862 dW_40 (by decide) (by decide) rfl rfl (LC_29 hLb hi hq5 hR kt)
    · exact V_tableIn 1917 dW_40 (by decide) (by decide) rfl rfl (LC_30 hLb hi hq5 hR kt)
    · exact V_tableIn 1931 dW_40 (by decide) (by decide) rfl rfl (LC_31 hLb hi hq5 hR kt)
/-- the law from its start -/
theorem START {g : GP} {b L : Nat} {xs : Nat → Int32} (hL : L ≤ 3584) : V g mLaw (ELw b) (CXl g b L xs) 601024 7293034 0 [(0, .ref 1)] [] hp0 := by
  refine V_new (k' := 601023) (n' := 7293023) ko_X11 kd_X11 w_68 w_69 w_48 dW_0 rfl rfl ?_
  refine V_cast (st' := [.ref 2]) (σ' := hpA) rfl rfl rfl ?_
  refine V_dup dW_3 rfl ?_
  refine V_callI0 (as := []) (st := [.ref 2]) (k' := 600993) (n' := 7291811) (s_X11_init (by decide) hp_K.1 (by rw [hpA_N]; exact Nat.le_refl _)) mw_X11_init rfl rfl w_71 w_70 ar_X11_init rfl ⟨rfl, rfl, rfl, rfl, rfl⟩ dW_4 (by decide) ?_
  rw [← hpB]
  refine V_astore_n [(0, .ref 1), (1, .ref 2)] dW_7 rfl rfl ?_
  refine V_new (k' := 600992) (n' := 7291761) ko_X12 kd_X12 w_1049 w_1050 w_56 dW_8 rfl rfl ?_
  rw [hpB_N]
  refine V_cast (st' := [.ref 33]) (σ' := hpC) rfl rfl rfl ?_
  refine V_dup dW_11 rfl ?_
  refine V_callI0 (as := []) (st := [.ref 33]) (k' := 600954) (n' := 7287434) (s_X12_init (by decide) hp_K.2.1 (by rw [hpC_N]; exact Nat.le_refl _)) mw_X12_init rfl rfl w_1052 w_1051 ar_X12_init rfl ⟨rfl, rfl, rfl, rfl, rfl⟩ dW_12 (by decide) ?_
  rw [← hpD]
  refine V_astore_n [(0, .ref 1), (1, .ref 2), (2, .ref 33)] dW_15 rfl rfl ?_
  refine V_iconst (1 : Int32) dW_16 (by decide) ?_
  refine V_newl (len := 1) (k' := 600953) (n' := 7287433) w_229 dW_17 (by decide) (by decide) rfl rfl rfl ?_
  rw [hpD_N]
  refine V_cast (st' := [.ref 72]) (σ' := hpE) rfl rfl rfl ?_
  refine V_astore_n [(0, .ref 1), (1, .ref 2), (2, .ref 33), (3, .ref 72)] dW_19 rfl rfl ?_
  refine V_iconst (0 : Int32) dW_20 (by decide) ?_
  refine V_istore [(0, .ref 1), (1, .ref 2), (2, .ref 33), (3, .ref 72), (4, .int (nI (7 * 0)))] dW_21 rfl rfl ?_
  exact V_less (k' := 11 * 512) (n' := 94 * 512) (fun q hq => hq) (Nat.le_of_ble_eq_true rfl) (Nat.le_of_ble_eq_true rfl) (LOOP hL 512 0 hpE rfl Rel_E)
