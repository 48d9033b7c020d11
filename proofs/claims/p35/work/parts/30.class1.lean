/-! ===== the class: pairs, fares ===== -/
set_option maxRecDepth 100000 in
set_option maxHeartbeats 4000000 in
theorem b_X6_get_0 {g : GP} {CX : State → Array Value → Prop} {Q : AH → Option Value → Prop} {X : AH → String → Prop} {v0 : Nat} {v1 : Int32} {v2 : Int32} {σ : AH}
    (k1 : (¬ (isPl v1)) → Q σ (some (.int (0 : Int32))))
    (k2 : (isPl v1) → (¬ (isPl v2)) → Q σ (some (.int (0 : Int32))))
    (o1 : v0 ≠ 0)
    (o2 : zK σ v0 = 6)
    (o3 : zR σ v0 0 ≠ 0)
    (o4 : zK σ (zR σ v0 0) = 20)
    (o5 : (isPl v1) → (isPl v2) → vp_in ((v1 * (10 : Int32)) + v2) (zL σ (zR σ v0 0)))
    (k3 : (isPl v1) → (isPl v2) → Q σ (some (.int (zI σ (zR σ v0 0) (Int32.toNatClampNeg ((v1 * (10 : Int32)) + v2)))))) :
    V g mX6_get (Em g mX6_get Q X) CX 0 0 0 [(0, .ref v0), (1, .int v1), (2, .int v2)] [] σ := by
  refine V_iload_n dX6_get_0 rfl ?_
  refine V_callSN1 (as := [.int v1]) (k' := 0) (n' := 0) (s_X11_isPlace) mw_X11_isPlace w_253 wn_350 ar_X11_isPlace rfl ⟨rfl, rfl, rfl, rfl, rfl⟩ dX6_get_1 ?_
  refine V_if_eq 28 dX6_get_4 rfl (fun c1 => ?_) (fun c1 => ?_)
  · replace c1 := jb_0.mp c1
    refine V_iconst (0 : Int32) dX6_get_28 (by decide) ?_
    exact V_iret rfl dX6_get_29 (k1 c1)
  · replace c1 := jb_n.mp c1
    refine V_iload_n dX6_get_7 rfl ?_
    refine V_callSN1 (as := [.int v2]) (k' := 0) (n' := 0) (s_X11_isPlace) mw_X11_isPlace w_253 wn_350 ar_X11_isPlace rfl ⟨rfl, rfl, rfl, rfl, rfl⟩ dX6_get_8 ?_
    refine V_if_eq 28 dX6_get_11 rfl (fun c2 => ?_) (fun c2 => ?_)
    · replace c2 := jb_0.mp c2
      refine V_iconst (0 : Int32) dX6_get_28 (by decide) ?_
      exact V_iret rfl dX6_get_29 (k2 c1 c2)
    · replace c2 := jb_n.mp c2
      refine V_aload_n dX6_get_14 rfl ?_
      refine V_getf (fk := 0) (Value.ref (zR σ v0 0)) ko_X6 rfl w_60 dX6_get_15 o1 o2 rfl ?_
      refine V_iload_n dX6_get_18 rfl ?_
      refine V_bipush (10 : Int32) dX6_get_19 (by decide) ?_
      refine V_imul dX6_get_21 ?_
      refine V_iload_n dX6_get_22 rfl ?_
      refine V_iadd dX6_get_23 ?_
      refine V_iald dX6_get_24 o3 o4 (o5 c1 c2) ?_
      refine V_goto 29 dX6_get_25 rfl ?_
      exact V_iret rfl dX6_get_29 (k3 c1 c2)

set_option maxRecDepth 100000 in
set_option maxHeartbeats 4000000 in
theorem b_X3_isFor_0 {g : GP} {CX : State → Array Value → Prop} {Q : AH → Option Value → Prop} {X : AH → String → Prop} {v0 : Nat} {v1 : Int32} {v2 : Int32} {v3 : Int32} {σ : AH}
    (o1 : v0 ≠ 0)
    (o2 : zK σ v0 = 3)
    (k1 : (¬ (zI σ v0 0) = v1) → Q σ (some (.int (0 : Int32))))
    (k2 : ((zI σ v0 0) = v1) → (¬ (zI σ v0 1) = v2) → Q σ (some (.int (0 : Int32))))
    (k3 : ((zI σ v0 0) = v1) → ((zI σ v0 1) = v2) → (¬ (zI σ v0 6) = 0) → Q σ (some (.int (0 : Int32))))
    (k4 : ((zI σ v0 0) = v1) → ((zI σ v0 1) = v2) → ((zI σ v0 6) = 0) → (v3 < (zI σ v0 3)) → Q σ (some (.int (0 : Int32))))
    (k5 : ((zI σ v0 0) = v1) → ((zI σ v0 1) = v2) → ((zI σ v0 6) = 0) → (¬ v3 < (zI σ v0 3)) → ((zI σ v0 4) < v3) → Q σ (some (.int (0 : Int32))))
    (k6 : ((zI σ v0 0) = v1) → ((zI σ v0 1) = v2) → ((zI σ v0 6) = 0) → (¬ v3 < (zI σ v0 3)) → (¬ (zI σ v0 4) < v3) → Q σ (some (.int (1 : Int32)))) :
    V g mX3_isFor (Em g mX3_isFor Q X) CX 0 0 0 [(0, .ref v0), (1, .int v1), (2, .int v2), (3, .int v3)] [] σ := by
  refine V_aload_n dX3_isFor_0 rfl ?_
  refine V_getf (fk := 0) (Value.int (zI σ v0 0)) ko_X3 rfl w_490 dX3_isFor_1 o1 o2 rfl ?_
  refine V_iload_n dX3_isFor_4 rfl ?_
  refine V_icmp_ne 43 dX3_isFor_5 rfl (fun c1 => ?_) (fun c1 => ?_)
  · refine V_iconst (0 : Int32) dX3_isFor_43 (by decide) ?_
    exact V_zret rfl dX3_isFor_44 (by decide) (k1 c1)
  · refine V_aload_n dX3_isFor_8 rfl ?_
    refine V_getf (fk := 1) (Value.int (zI σ v0 1)) ko_X3 rfl w_491 dX3_isFor_9 o1 o2 rfl ?_
    refine V_iload_n dX3_isFor_12 rfl ?_
    refine V_icmp_ne 43 dX3_isFor_13 rfl (fun c2 => ?_) (fun c2 => ?_)
    · refine V_iconst (0 : Int32) dX3_isFor_43 (by decide) ?_
      exact V_zret rfl dX3_isFor_44 (by decide) (k2 c1 c2)
    · refine V_aload_n dX3_isFor_16 rfl ?_
      refine V_getf (fk := 6) (Value.int (zI σ v0 6)) ko_X3 rfl w_498 dX3_isFor_17 o1 o2 rfl ?_
      refine V_if_ne 43 dX3_isFor_20 rfl (fun c3 => ?_) (fun c3 => ?_)
      · refine V_iconst (0 : Int32) dX3_isFor_43 (by decide) ?_
        exact V_zret rfl dX3_isFor_44 (by decide) (k3 c1 c2 c3)
      · refine V_aload_n dX3_isFor_23 rfl ?_
        refine V_getf (fk := 3) (Value.int (zI σ v0 3)) ko_X3 rfl w_494 dX3_isFor_24 o1 o2 rfl ?_
        refine V_iload_n dX3_isFor_27 rfl ?_
        refine V_icmp_gt 43 dX3_isFor_28 rfl (fun c4 => ?_) (fun c4 => ?_)
        · refine V_iconst (0 : Int32) dX3_isFor_43 (by decide) ?_
          exact V_zret rfl dX3_isFor_44 (by decide) (k4 c1 c2 c3 c4)
        · refine V_iload_n dX3_isFor_31 rfl ?_
          refine V_aload_n dX3_isFor_32 rfl ?_
          refine V_getf (fk := 4) (Value.int (zI σ v0 4)) ko_X3 rfl w_495 dX3_isFor_33 o1 o2 rfl ?_
          refine V_icmp_gt 43 dX3_isFor_36 rfl (fun c5 => ?_) (fun c5 => ?_)
          · refine V_iconst (0 : Int32) dX3_isFor_43 (by decide) ?_
            exact V_zret rfl dX3_isFor_44 (by decide) (k5 c1 c2 c3 c4 c5)
          · refine V_iconst (1 : Int32) dX3_isFor_39 (by decide) ?_
            refine V_goto 44 dX3_isFor_40 rfl ?_
            exact V_zret rfl dX3_isFor_44 (by decide) (k6 c1 c2 c3 c4 c5)

set_option maxRecDepth 100000 in
set_option maxHeartbeats 4000000 in
theorem b_X8_fareAt_0 {g : GP} {CX : State → Array Value → Prop} {Q : AH → Option Value → Prop} {X : AH → String → Prop} {v1 : Int32} {σ : AH}
    (hS : Sh σ)
    (k1 : (v1 < 0) → Q σ (some (.ref 0)))
    (k2 : (¬ v1 < 0) → ((zI σ 3 4) ≤ v1) → Q σ (some (.ref 0)))
    (k3 : (¬ v1 < 0) → (¬ (zI σ 3 4) ≤ v1) → ((40 : Int32) ≤ v1) → Q σ (some (.ref 0)))
    (o1 : (¬ v1 < 0) → (¬ (zI σ 3 4) ≤ v1) → (¬ (40 : Int32) ≤ v1) → vp_in v1 40)
    (k4 : (¬ v1 < 0) → (¬ (zI σ 3 4) ≤ v1) → (¬ (40 : Int32) ≤ v1) → Q σ (some (.ref (zR σ 6 (Int32.toNatClampNeg v1))))) :
    V g mX8_fareAt (Em g mX8_fareAt Q X) CX 0 0 0 [(0, .ref 3), (1, .int v1)] [] σ := by
  refine V_iload_n dX8_fareAt_0 rfl ?_
  refine V_if_lt 22 dX8_fareAt_1 rfl (fun c1 => ?_) (fun c1 => ?_)
  · refine V_iconst (0 : Int32) dX8_fareAt_22 (by decide) ?_
    refine V_istore_n [(0, .ref 3), (1, .int v1), (2, .int (0 : Int32))] dX8_fareAt_23 rfl rfl ?_
    refine V_iload_n dX8_fareAt_24 rfl ?_
    refine V_if_eq 37 dX8_fareAt_25 rfl (fun _ => ?_) (fun z_ => (by first | exact absurd (by decide) z_ | exact absurd z_ (by decide)))
    refine V_null dX8_fareAt_37 ?_
    exact V_aret rfl dX8_fareAt_38 (k1 c1)
  · refine V_iload_n dX8_fareAt_4 rfl ?_
    refine V_aload_n dX8_fareAt_5 rfl ?_
    refine V_getf (fk := 4) (Value.int (zI σ 3 4)) ko_X8 rfl w_73 dX8_fareAt_6 (by decide) (shk hS 3 rfl) rfl ?_
    refine V_icmp_ge 22 dX8_fareAt_9 rfl (fun c2 => ?_) (fun c2 => ?_)
    · refine V_iconst (0 : Int32) dX8_fareAt_22 (by decide) ?_
      refine V_istore_n [(0, .ref 3), (1, .int v1), (2, .int (0 : Int32))] dX8_fareAt_23 rfl rfl ?_
      refine V_iload_n dX8_fareAt_24 rfl ?_
      refine V_if_eq 37 dX8_fareAt_25 rfl (fun _ => ?_) (fun z_ => (by first | exact absurd (by decide) z_ | exact absurd z_ (by decide)))
      refine V_null dX8_fareAt_37 ?_
      exact V_aret rfl dX8_fareAt_38 (k2 c1 c2)
    · refine V_iload_n dX8_fareAt_12 rfl ?_
      refine V_bipush (40 : Int32) dX8_fareAt_13 (by decide) ?_
      refine V_icmp_ge 22 dX8_fareAt_15 rfl (fun c3 => ?_) (fun c3 => ?_)
      · refine V_iconst (0 : Int32) dX8_fareAt_22 (by decide) ?_
        refine V_istore_n [(0, .ref 3), (1, .int v1), (2, .int (0 : Int32))] dX8_fareAt_23 rfl rfl ?_
        refine V_iload_n dX8_fareAt_24 rfl ?_
        refine V_if_eq 37 dX8_fareAt_25 rfl (fun _ => ?_) (fun z_ => (by first | exact absurd (by decide) z_ | exact absurd z_ (by decide)))
        refine V_null dX8_fareAt_37 ?_
        exact V_aret rfl dX8_fareAt_38 (k3 c1 c2 c3)
      · refine V_iconst (1 : Int32) dX8_fareAt_18 (by decide) ?_
        refine V_goto 23 dX8_fareAt_19 rfl ?_
        refine V_istore_n [(0, .ref 3), (1, .int v1), (2, .int (1 : Int32))] dX8_fareAt_23 rfl rfl ?_
        refine V_iload_n dX8_fareAt_24 rfl ?_
        refine V_if_eq 37 dX8_fareAt_25 rfl (fun z_ => (by first | exact absurd (by decide) z_ | exact absurd z_ (by decide))) (fun _ => ?_)
        refine V_aload_n dX8_fareAt_28 rfl ?_
        refine V_getf (fk := 1) (Value.ref 6) ko_X8 rfl w_70 dX8_fareAt_29 (by decide) (shk hS 3 rfl) (congrArg Value.ref (shr hS 3 1 6 (by decide))) ?_
        refine V_iload_n dX8_fareAt_32 rfl ?_
        refine V_aald ao_33 dX8_fareAt_33 (by decide) (shk hS 6 rfl) (vp_l (n := 40) (shl hS 6 rfl) (o1 c1 c2 c3)) ?_
        refine V_goto 38 dX8_fareAt_34 rfl ?_
        exact V_aret rfl dX8_fareAt_38 (k4 c1 c2 c3)

set_option maxRecDepth 100000 in
set_option maxHeartbeats 4000000 in
theorem b_X8_taxAt_0 {g : GP} {CX : State → Array Value → Prop} {Q : AH → Option Value → Prop} {X : AH → String → Prop} {v1 : Int32} {v2 : Int32} {σ : AH}
    (hS : Sh σ)
    (o1 : (isPl v1) → (v2 = 0) → vp_in v1 10)
    (k1 : (isPl v1) → (v2 = 0) → Q σ (some (.int (zI σ 8 (Int32.toNatClampNeg v1)))))
    (o2 : (isPl v1) → (¬ v2 = 0) → vp_in v1 10)
    (k2 : (isPl v1) → (¬ v2 = 0) → Q σ (some (.int (zI σ 7 (Int32.toNatClampNeg v1)))))
    (k3 : (¬ (isPl v1)) → Q σ (some (.int (0 : Int32)))) :
    V g mX8_taxAt (Em g mX8_taxAt Q X) CX 0 0 0 [(0, .ref 3), (1, .int v1), (2, .int v2)] [] σ := by
  refine V_iload_n dX8_taxAt_0 rfl ?_
  refine V_callSN1 (as := [.int v1]) (k' := 0) (n' := 0) (s_X11_isPlace) mw_X11_isPlace w_253 wn_531 ar_X11_isPlace rfl ⟨rfl, rfl, rfl, rfl, rfl⟩ dX8_taxAt_1 ?_
  refine V_if_ne 9 dX8_taxAt_4 rfl (fun c1 => ?_) (fun c1 => ?_)
  · replace c1 := jb_n.mp c1
    refine V_iload_n dX8_taxAt_9 rfl ?_
    refine V_if_eq 22 dX8_taxAt_10 rfl (fun c2 => ?_) (fun c2 => ?_)
    · refine V_aload_n dX8_taxAt_22 rfl ?_
      refine V_getf (fk := 3) (Value.ref 8) ko_X8 rfl w_72 dX8_taxAt_23 (by decide) (shk hS 3 rfl) (congrArg Value.ref (shr hS 3 3 8 (by decide))) ?_
      refine V_iload_n dX8_taxAt_26 rfl ?_
      refine V_iald dX8_taxAt_27 (by decide) (shk hS 8 rfl) (vp_l (n := 10) (shl hS 8 rfl) (o1 c1 c2)) ?_
      exact V_iret rfl dX8_taxAt_28 (k1 c1 c2)
    · refine V_aload_n dX8_taxAt_13 rfl ?_
      refine V_getf (fk := 2) (Value.ref 7) ko_X8 rfl w_71 dX8_taxAt_14 (by decide) (shk hS 3 rfl) (congrArg Value.ref (shr hS 3 2 7 (by decide))) ?_
      refine V_iload_n dX8_taxAt_17 rfl ?_
      refine V_iald dX8_taxAt_18 (by decide) (shk hS 7 rfl) (vp_l (n := 10) (shl hS 7 rfl) (o2 c1 c2)) ?_
      refine V_goto 28 dX8_taxAt_19 rfl ?_
      exact V_iret rfl dX8_taxAt_28 (k2 c1 c2)
  · replace c1 := jb_0.mp c1
    refine V_iconst (0 : Int32) dX8_taxAt_7 (by decide) ?_
    exact V_iret rfl dX8_taxAt_8 (k3 c1)

/-- a pair's number -/
def prG (σ : AH) (p : Nat) (x y : Int32) : Int32 := if isPl x ∧ isPl y then zI σ (p + 1) (ix (x * 10 + y)) else 0
theorem s_X6_get {g : GP} {σ : AH} {p : Nat} {x y : Int32} (hS : Sh σ) (hp : p = 4 ∨ p = 10) : Ct g mX6_get [.ref p, .int x, .int y] σ (FQ σ (some (.int (prG σ p x y)))) := by
  have h1 : p ≠ 0 ∧ zK σ p = 6 ∧ zR σ p 0 = p + 1 ∧ zK σ (p + 1) = 20 ∧ zL σ (p + 1) = 100 := by
    rcases hp with rfl | rfl
    · exact ⟨by decide, shk hS 4 rfl, shr hS 4 0 5 (by decide), shk hS 5 rfl, shl hS 5 rfl⟩
    · exact ⟨by decide, shk hS 10 rfl, shr hS 10 0 11 (by decide), shk hS 11 rfl, shl hS 11 rfl⟩
  obtain ⟨a1, a2, a3, a4, a5⟩ := h1
  refine Ct_of (by decide +kernel) rfl rfl (b_X6_get_0 (fun c => fq_i ?_) (fun c c2 => fq_i ?_) a1 a2 (by rw [a3]; omega) (by rw [a3]; exact a4) (fun c c2 => ?_) (fun c c2 => fq_i ?_))
  · rw [prG, if_neg (fun q => c q.1)]
  · rw [prG, if_neg (fun q => c2 q.2)]
  · rw [a3, a5, (vp_mul (isPl_vp c) (isPl_vp c2)).2.2]; exact (vp_mul (isPl_vp c) (isPl_vp c2)).1
  · rw [prG, if_pos ⟨c, c2⟩, a3]
/-- a fare is for a pair of places on a day -/
abbrev isF (σ : AH) (a : Nat) (x y d : Int32) : Prop := zI σ a 0 = x ∧ zI σ a 1 = y ∧ zI σ a 6 = 0 ∧ ¬ d < zI σ a 3 ∧ ¬ zI σ a 4 < d
theorem s_X3_isFor {g : GP} {σ : AH} {a : Nat} {x y d : Int32} (h0 : a ≠ 0) (hK : zK σ a = 3) : Ct g mX3_isFor [.ref a, .int x, .int y, .int d] σ (FQ σ (some (.int (jb (isF σ a x y d))))) :=
  Ct_of (by decide +kernel) rfl rfl (b_X3_isFor_0 h0 hK (fun c => fq_i (jb_f (fun q => c q.1)).symm) (fun _ c => fq_i (jb_f (fun q => c q.2.1)).symm) (fun _ _ c => fq_i (jb_f (fun q => c q.2.2.1)).symm) (fun _ _ _ c => fq_i (jb_f (fun q => q.2.2.2.1 c)).symm) (fun _ _ _ _ c => fq_i (jb_f (fun q => q.2.2.2.2 c)).symm) (fun c1 c2 c3 c4 c5 => fq_i (jb_t ⟨c1, c2, c3, c4, c5⟩).symm))
theorem isPl_vpN {x : Int32} {n : Nat} (h : ¬ x < 0) (h2 : ¬ nI n ≤ x) : vp_in x n := by
  have h1 := Int32.le_iff_toInt_le.mp (Int32.not_lt.mp h)
  have h2 := Int32.lt_iff_toInt_lt.mp (Int32.not_le.mp h2)
  rw [vp_in_iff]
  change (0 : Int) ≤ _ at h1
  by_cases hn : n < 2 ^ 31
  · rw [nI_toInt hn] at h2; omega
  · have := Int32.toInt_lt x
    omega
theorem nI_nneg {k : Nat} (h : k < 2 ^ 31) : ¬ nI k < 0 := by
  intro q
  have := Int32.lt_iff_toInt_lt.mp q
  rw [nI_toInt h] at this
  change (k : Int) < 0 at this
  omega
/-- a row by its number, or none -/
def atR (n m x : Int32) (v : Nat) : Nat := if x < 0 ∨ n ≤ x ∨ m ≤ x then 0 else v
theorem atR_in {n m k v : Nat} (h : k < n) (h2 : k < m) (hn : n < 2 ^ 31) (hm : m < 2 ^ 31) : atR (nI n) (nI m) (nI k) v = v := by
  rw [atR, if_neg]
  rintro (h1 | h1 | h1)
  · exact nI_nneg (by omega) h1
  · exact nI_ge h hn h1
  · exact nI_ge h2 hm h1
theorem s_X8_fareAt {g : GP} {σ : AH} {x : Int32} (hS : Sh σ) : Ct g mX8_fareAt [.ref 3, .int x] σ (FQ σ (some (.ref (atR (zI σ 3 4) 40 x (zR σ 6 (ix x)))))) :=
  Ct_of (by decide +kernel) rfl rfl (b_X8_fareAt_0 hS (fun c => fq_r (by rw [atR, if_pos (Or.inl c)])) (fun _ c => fq_r (by rw [atR, if_pos (Or.inr (Or.inl c))])) (fun _ _ c => fq_r (by rw [atR, if_pos (Or.inr (Or.inr c))])) (fun c _ c2 => isPl_vpN (n := 40) c c2) (fun c c2 c3 => fq_r (by rw [atR, if_neg (fun q => q.elim c (fun q => q.elim c2 c3))])))
theorem s_X8_taxAt {g : GP} {σ : AH} {x z : Int32} (hS : Sh σ) : Ct g mX8_taxAt [.ref 3, .int x, .int z] σ (FQ σ (some (.int (if isPl x then (if z = 0 then zI σ 8 (ix x) else zI σ 7 (ix x)) else 0)))) :=
  Ct_of (by decide +kernel) rfl rfl (b_X8_taxAt_0 hS (fun c _ => isPl_vp c) (fun c c2 => fq_i (by rw [if_pos c, if_pos c2])) (fun c _ => isPl_vp c) (fun c c2 => fq_i (by rw [if_pos c, if_neg c2])) (fun c => fq_i (by rw [if_neg c])))
set_option maxRecDepth 100000 in
set_option maxHeartbeats 4000000 in
theorem b_X8_lowestFare_0 {g : GP} {CX : State → Array Value → Prop} {E : ET} {v1 : Int32} {v2 : Int32} {v3 : Int32} {σ : AH}
    (k1 : V g mX8_lowestFare E CX 0 0 6 [(0, .ref 3), (1, .int v1), (2, .int v2), (3, .int v3), (4, .int (-1 : Int32)), (5, .int (0 : Int32))] [] σ) :
    V g mX8_lowestFare E CX 0 0 0 [(0, .ref 3), (1, .int v1), (2, .int v2), (3, .int v3)] [] σ := by
  refine V_iconst (-1 : Int32) dX8_lowestFare_0 (by decide) ?_
  refine V_istore [(0, .ref 3), (1, .int v1), (2, .int v2), (3, .int v3), (4, .int (-1 : Int32))] dX8_lowestFare_1 rfl rfl ?_
  refine V_iconst (0 : Int32) dX8_lowestFare_3 (by decide) ?_
  refine V_istore [(0, .ref 3), (1, .int v1), (2, .int v2), (3, .int v3), (4, .int (-1 : Int32)), (5, .int (0 : Int32))] dX8_lowestFare_4 rfl rfl ?_
  exact k1
set_option maxRecDepth 100000 in
set_option maxHeartbeats 4000000 in
theorem b_X8_lowestFare_6 {g : GP} {CX : State → Array Value → Prop} {Q : AH → Option Value → Prop} {X : AH → String → Prop} {v1 : Int32} {v2 : Int32} {v3 : Int32} {v4 : Int32} {v5 : Int32} {σ : AH}
    (hS : Sh σ)
    (k1 : ((zI σ 3 4) ≤ v5) → Q σ (some (.int v4)))
    (k2 : (¬ (zI σ 3 4) ≤ v5) → (atR (zI σ 3 4) 40 v5 (zR σ 6 (ix v5)) = 0) → V g mX8_lowestFare (Em g mX8_lowestFare Q X) CX 0 0 6 [(0, .ref 3), (1, .int v1), (2, .int v2), (3, .int v3), (4, .int v4), (5, .int (v5 + (1 : Int32)))] [] σ)
    (o1 : (¬ (zI σ 3 4) ≤ v5) → (¬ atR (zI σ 3 4) 40 v5 (zR σ 6 (ix v5)) = 0) → (atR (zI σ 3 4) 40 v5 (zR σ 6 (ix v5))) ≠ 0)
    (o2 : (¬ (zI σ 3 4) ≤ v5) → (¬ atR (zI σ 3 4) 40 v5 (zR σ 6 (ix v5)) = 0) → zK σ (atR (zI σ 3 4) 40 v5 (zR σ 6 (ix v5))) = 3)
    (k3 : (¬ (zI σ 3 4) ≤ v5) → (¬ atR (zI σ 3 4) 40 v5 (zR σ 6 (ix v5)) = 0) → (¬ (isF σ (atR (zI σ 3 4) 40 v5 (zR σ 6 (ix v5))) v1 v2 (zI σ 3 6))) → V g mX8_lowestFare (Em g mX8_lowestFare Q X) CX 0 0 6 [(0, .ref 3), (1, .int v1), (2, .int v2), (3, .int v3), (4, .int v4), (5, .int (v5 + (1 : Int32)))] [] σ)
    (k4 : (¬ (zI σ 3 4) ≤ v5) → (¬ atR (zI σ 3 4) 40 v5 (zR σ 6 (ix v5)) = 0) → (isF σ (atR (zI σ 3 4) 40 v5 (zR σ 6 (ix v5))) v1 v2 (zI σ 3 6)) → ((zI σ (atR (zI σ 3 4) 40 v5 (zR σ 6 (ix v5))) 5) < v3) → V g mX8_lowestFare (Em g mX8_lowestFare Q X) CX 0 0 6 [(0, .ref 3), (1, .int v1), (2, .int v2), (3, .int v3), (4, .int v4), (5, .int (v5 + (1 : Int32)))] [] σ)
    (k5 : (¬ (zI σ 3 4) ≤ v5) → (¬ atR (zI σ 3 4) 40 v5 (zR σ 6 (ix v5)) = 0) → (isF σ (atR (zI σ 3 4) 40 v5 (zR σ 6 (ix v5))) v1 v2 (zI σ 3 6)) → (¬ (zI σ (atR (zI σ 3 4) 40 v5 (zR σ 6 (ix v5))) 5) < v3) → (v4 = (-1 : Int32)) → V g mX8_lowestFare (Em g mX8_lowestFare Q X) CX 0 0 6 [(0, .ref 3), (1, .int v1), (2, .int v2), (3, .int v3), (4, .int (zI σ (atR (zI σ 3 4) 40 v5 (zR σ 6 (ix v5))) 2)), (5, .int (v5 + (1 : Int32)))] [] σ)
    (k6 : (¬ (zI σ 3 4) ≤ v5) → (¬ atR (zI σ 3 4) 40 v5 (zR σ 6 (ix v5)) = 0) → (isF σ (atR (zI σ 3 4) 40 v5 (zR σ 6 (ix v5))) v1 v2 (zI σ 3 6)) → (¬ (zI σ (atR (zI σ 3 4) 40 v5 (zR σ 6 (ix v5))) 5) < v3) → (¬ v4 = (-1 : Int32)) → (v4 ≤ (zI σ (atR (zI σ 3 4) 40 v5 (zR σ 6 (ix v5))) 2)) → V g mX8_lowestFare (Em g mX8_lowestFare Q X) CX 0 0 6 [(0, .ref 3), (1, .int v1), (2, .int v2), (3, .int v3), (4, .int v4), (5, .int (v5 + (1 : Int32)))] [] σ)
    (k7 : (¬ (zI σ 3 4) ≤ v5) → (¬ atR (zI σ 3 4) 40 v5 (zR σ 6 (ix v5)) = 0) → (isF σ (atR (zI σ 3 4) 40 v5 (zR σ 6 (ix v5))) v1 v2 (zI σ 3 6)) → (¬ (zI σ (atR (zI σ 3 4) 40 v5 (zR σ 6 (ix v5))) 5) < v3) → (¬ v4 = (-1 : Int32)) → (¬ v4 ≤ (zI σ (atR (zI σ 3 4) 40 v5 (zR σ 6 (ix v5))) 2)) → V g mX8_lowestFare (Em g mX8_lowestFare Q X) CX 0 0 6 [(0, .ref 3), (1, .int v1), (2, .int v2), (3, .int v3), (4, .int (zI σ (atR (zI σ 3 4) 40 v5 (zR σ 6 (ix v5))) 2)), (5, .int (v5 + (1 : Int32)))] [] σ) :
    V g mX8_lowestFare (Em g mX8_lowestFare Q X) CX 0 0 6 [(0, .ref 3), (1, .int v1), (2, .int v2), (3, .int v3), (4, .int v4), (5, .int v5)] [] σ := by
  refine V_iload dX8_lowestFare_6 rfl ?_
  refine V_aload_n dX8_lowestFare_8 rfl ?_
  refine V_getf (fk := 4) (Value.int (zI σ 3 4)) ko_X8 rfl w_73 dX8_lowestFare_9 (by decide) (shk hS 3 rfl) rfl ?_
  refine V_icmp_ge 80 dX8_lowestFare_12 rfl (fun c1 => ?_) (fun c1 => ?_)
  · refine V_iload dX8_lowestFare_80 rfl ?_
    exact V_iret rfl dX8_lowestFare_82 (k1 c1)
  · refine V_aload_n dX8_lowestFare_15 rfl ?_
    refine V_iload dX8_lowestFare_16 rfl ?_
    refine V_callV1 (as := [.int v5]) (k' := 0) (n' := 0) (s_X8_fareAt hS) mw_X8_fareAt ko_X8 rfl w_628 w_629 w_627 ar_X8_fareAt rfl ⟨rfl, rfl, rfl, rfl, rfl⟩ dX8_lowestFare_18 (by decide) (shk hS 3 rfl) ?_
    refine V_astore [(0, .ref 3), (1, .int v1), (2, .int v2), (3, .int v3), (4, .int v4), (5, .int v5), (6, .ref (atR (zI σ 3 4) 40 v5 (zR σ 6 (ix v5))))] dX8_lowestFare_21 rfl rfl ?_
    refine V_aload dX8_lowestFare_23 rfl ?_
    refine V_ifnull 74 dX8_lowestFare_25 rfl (fun c2 => ?_) (fun c2 => ?_)
    · refine V_iinc (v5 + (1 : Int32)) [(0, .ref 3), (1, .int v1), (2, .int v2), (3, .int v3), (4, .int v4), (5, .int (v5 + (1 : Int32))), (6, .ref (atR (zI σ 3 4) 40 v5 (zR σ 6 (ix v5))))] dX8_lowestFare_74 rfl rfl rfl rfl ?_
      refine V_goto 6 dX8_lowestFare_77 rfl ?_
      exact V_less (mm_keep (mm_keep (mm_keep (mm_keep (mm_keep (mm_keep (mm_drop mm_nil))))))) (by decide) (by decide) (k2 c1 c2)
    · refine V_aload dX8_lowestFare_28 rfl ?_
      refine V_iload_n dX8_lowestFare_30 rfl ?_
      refine V_iload_n dX8_lowestFare_31 rfl ?_
      refine V_aload_n dX8_lowestFare_32 rfl ?_
      refine V_getf (fk := 6) (Value.int (zI σ 3 6)) ko_X8 rfl w_77 dX8_lowestFare_33 (by decide) (shk hS 3 rfl) rfl ?_
      refine V_callV1 (as := [.int v1, .int v2, .int (zI σ 3 6)]) (k' := 0) (n' := 0) (s_X3_isFor (o1 c1 c2) (o2 c1 c2)) mw_X3_isFor ko_X3 rfl w_632 w_633 w_631 ar_X3_isFor rfl ⟨rfl, rfl, rfl, rfl, rfl⟩ dX8_lowestFare_36 c2 (o2 c1 c2) ?_
      refine V_if_eq 74 dX8_lowestFare_39 rfl (fun c3 => ?_) (fun c3 => ?_)
      · replace c3 := jb_0.mp c3
        refine V_iinc (v5 + (1 : Int32)) [(0, .ref 3), (1, .int v1), (2, .int v2), (3, .int v3), (4, .int v4), (5, .int (v5 + (1 : Int32))), (6, .ref (atR (zI σ 3 4) 40 v5 (zR σ 6 (ix v5))))] dX8_lowestFare_74 rfl rfl rfl rfl ?_
        refine V_goto 6 dX8_lowestFare_77 rfl ?_
        exact V_less (mm_keep (mm_keep (mm_keep (mm_keep (mm_keep (mm_keep (mm_drop mm_nil))))))) (by decide) (by decide) (k3 c1 c2 c3)
      · replace c3 := jb_n.mp c3
        refine V_aload dX8_lowestFare_42 rfl ?_
        refine V_getf (fk := 5) (Value.int (zI σ (atR (zI σ 3 4) 40 v5 (zR σ 6 (ix v5))) 5)) ko_X3 rfl w_497 dX8_lowestFare_44 c2 (o2 c1 c2) rfl ?_
        refine V_iload_n dX8_lowestFare_47 rfl ?_
        refine V_icmp_lt 74 dX8_lowestFare_48 rfl (fun c4 => ?_) (fun c4 => ?_)
        · refine V_iinc (v5 + (1 : Int32)) [(0, .ref 3), (1, .int v1), (2, .int v2), (3, .int v3), (4, .int v4), (5, .int (v5 + (1 : Int32))), (6, .ref (atR (zI σ 3 4) 40 v5 (zR σ 6 (ix v5))))] dX8_lowestFare_74 rfl rfl rfl rfl ?_
          refine V_goto 6 dX8_lowestFare_77 rfl ?_
          exact V_less (mm_keep (mm_keep (mm_keep (mm_keep (mm_keep (mm_keep (mm_drop mm_nil))))))) (by decide) (by decide) (k4 c1 c2 c3 c4)
        · refine V_iload dX8_lowestFare_51 rfl ?_
          refine V_iconst (-1 : Int32) dX8_lowestFare_53 (by decide) ?_
          refine V_icmp_eq 67 dX8_lowestFare_54 rfl (fun c5 => ?_) (fun c5 => ?_)
          · refine V_aload dX8_lowestFare_67 rfl ?_
            refine V_getf (fk := 2) (Value.int (zI σ (atR (zI σ 3 4) 40 v5 (zR σ 6 (ix v5))) 2)) ko_X3 rfl w_493 dX8_lowestFare_69 c2 (o2 c1 c2) rfl ?_
            refine V_istore [(0, .ref 3), (1, .int v1), (2, .int v2), (3, .int v3), (4, .int (zI σ (atR (zI σ 3 4) 40 v5 (zR σ 6 (ix v5))) 2)), (5, .int v5), (6, .ref (atR (zI σ 3 4) 40 v5 (zR σ 6 (ix v5))))] dX8_lowestFare_72 rfl rfl ?_
            refine V_iinc (v5 + (1 : Int32)) [(0, .ref 3), (1, .int v1), (2, .int v2), (3, .int v3), (4, .int (zI σ (atR (zI σ 3 4) 40 v5 (zR σ 6 (ix v5))) 2)), (5, .int (v5 + (1 : Int32))), (6, .ref (atR (zI σ 3 4) 40 v5 (zR σ 6 (ix v5))))] dX8_lowestFare_74 rfl rfl rfl rfl ?_
            refine V_goto 6 dX8_lowestFare_77 rfl ?_
            exact V_less (mm_keep (mm_keep (mm_keep (mm_keep (mm_keep (mm_keep (mm_drop mm_nil))))))) (by decide) (by decide) (k5 c1 c2 c3 c4 c5)
          · refine V_aload dX8_lowestFare_57 rfl ?_
            refine V_getf (fk := 2) (Value.int (zI σ (atR (zI σ 3 4) 40 v5 (zR σ 6 (ix v5))) 2)) ko_X3 rfl w_493 dX8_lowestFare_59 c2 (o2 c1 c2) rfl ?_
            refine V_iload dX8_lowestFare_62 rfl ?_
            refine V_icmp_ge 74 dX8_lowestFare_64 rfl (fun c6 => ?_) (fun c6 => ?_)
            · refine V_iinc (v5 + (1 : Int32)) [(0, .ref 3), (1, .int v1), (2, .int v2), (3, .int v3), (4, .int v4), (5, .int (v5 + (1 : Int32))), (6, .ref (atR (zI σ 3 4) 40 v5 (zR σ 6 (ix v5))))] dX8_lowestFare_74 rfl rfl rfl rfl ?_
              refine V_goto 6 dX8_lowestFare_77 rfl ?_
              exact V_less (mm_keep (mm_keep (mm_keep (mm_keep (mm_keep (mm_keep (mm_drop mm_nil))))))) (by decide) (by decide) (k6 c1 c2 c3 c4 c5 c6)
            · refine V_aload dX8_lowestFare_67 rfl ?_
              refine V_getf (fk := 2) (Value.int (zI σ (atR (zI σ 3 4) 40 v5 (zR σ 6 (ix v5))) 2)) ko_X3 rfl w_493 dX8_lowestFare_69 c2 (o2 c1 c2) rfl ?_
              refine V_istore [(0, .ref 3), (1, .int v1), (2, .int v2), (3, .int v3), (4, .int (zI σ (atR (zI σ 3 4) 40 v5 (zR σ 6 (ix v5))) 2)), (5, .int v5), (6, .ref (atR (zI σ 3 4) 40 v5 (zR σ 6 (ix v5))))] dX8_lowestFare_72 rfl rfl ?_
              refine V_iinc (v5 + (1 : Int32)) [(0, .ref 3), (1, .int v1), (2, .int v2), (3, .int v3), (4, .int (zI σ (atR (zI σ 3 4) 40 v5 (zR σ 6 (ix v5))) 2)), (5, .int (v5 + (1 : Int32))), (6, .ref (atR (zI σ 3 4) 40 v5 (zR σ 6 (ix v5))))] dX8_lowestFare_74 rfl rfl rfl rfl ?_
              refine V_goto 6 dX8_lowestFare_77 rfl ?_
              exact V_less (mm_keep (mm_keep (mm_keep (mm_keep (mm_keep (mm_keep (mm_drop mm_nil))))))) (by decide) (by decide) (k7 c1 c2 c3 c4 c5 c6)

set_option maxRecDepth 100000 in
set_option maxHeartbeats 4000000 in
theorem b_X8_surcharge_0 {g : GP} {CX : State → Array Value → Prop} {Q : AH → Option Value → Prop} {X : AH → String → Prop} {v1 : Int32} {v2 : Int32} {v3 : Int32} {σ : AH}
    (hS : Sh σ)
    (o1 : 4 = 4 ∨ 4 = 10)
    (k1 : (¬ (prG σ 4 v1 v2) = 0) → V g mX8_surcharge (Em g mX8_surcharge Q X) CX 0 0 31 [(0, .ref 3), (1, .int v1), (2, .int v2), (3, .int v3), (4, .int (prG σ 4 v1 v2)), (5, .int (((prG σ 4 v1 v2) * (120 : Int32)) / (100 : Int32))), (6, .int (0 : Int32))] [] σ)
    (k2 : ((prG σ 4 v1 v2) = 0) → Q σ (some (.int (-1 : Int32)))) :
    V g mX8_surcharge (Em g mX8_surcharge Q X) CX 0 0 0 [(0, .ref 3), (1, .int v1), (2, .int v2), (3, .int v3)] [] σ := by
  refine V_aload_n dX8_surcharge_0 rfl ?_
  refine V_getf (fk := 0) (Value.ref 4) ko_X8 rfl w_67 dX8_surcharge_1 (by decide) (shk hS 3 rfl) (congrArg Value.ref (shr hS 3 0 4 (by decide))) ?_
  refine V_iload_n dX8_surcharge_4 rfl ?_
  refine V_iload_n dX8_surcharge_5 rfl ?_
  refine V_callV1 (as := [.int v1, .int v2]) (k' := 0) (n' := 0) (s_X6_get hS o1) mw_X6_get ko_X6 rfl w_347 w_348 w_652 ar_X6_get rfl ⟨rfl, rfl, rfl, rfl, rfl⟩ dX8_surcharge_6 (by decide) (shk hS 4 rfl) ?_
  refine V_istore [(0, .ref 3), (1, .int v1), (2, .int v2), (3, .int v3), (4, .int (prG σ 4 v1 v2))] dX8_surcharge_9 rfl rfl ?_
  refine V_iload dX8_surcharge_11 rfl ?_
  refine V_if_ne 18 dX8_surcharge_13 rfl (fun c1 => ?_) (fun c1 => ?_)
  · refine V_iload dX8_surcharge_18 rfl ?_
    refine V_bipush (120 : Int32) dX8_surcharge_20 (by decide) ?_
    refine V_imul dX8_surcharge_22 ?_
    refine V_bipush (100 : Int32) dX8_surcharge_23 (by decide) ?_
    refine V_idiv dX8_surcharge_25 (by decide) ?_
    refine V_istore [(0, .ref 3), (1, .int v1), (2, .int v2), (3, .int v3), (4, .int (prG σ 4 v1 v2)), (5, .int (((prG σ 4 v1 v2) * (120 : Int32)) / (100 : Int32)))] dX8_surcharge_26 rfl rfl ?_
    refine V_iconst (0 : Int32) dX8_surcharge_28 (by decide) ?_
    refine V_istore [(0, .ref 3), (1, .int v1), (2, .int v2), (3, .int v3), (4, .int (prG σ 4 v1 v2)), (5, .int (((prG σ 4 v1 v2) * (120 : Int32)) / (100 : Int32))), (6, .int (0 : Int32))] dX8_surcharge_29 rfl rfl ?_
    exact (k1 c1)
  · refine V_iconst (-1 : Int32) dX8_surcharge_16 (by decide) ?_
    exact V_iret rfl dX8_surcharge_17 (k2 c1)
set_option maxRecDepth 100000 in
set_option maxHeartbeats 4000000 in
theorem b_X8_surcharge_31 {g : GP} {CX : State → Array Value → Prop} {Q : AH → Option Value → Prop} {X : AH → String → Prop} {v1 : Int32} {v2 : Int32} {v3 : Int32} {v4 : Int32} {v5 : Int32} {v6 : Int32} {σ : AH}
    (k1 : ((25 : Int32) < v6) → Q σ (some (.int (-1 : Int32))))
    (k2 : (¬ (25 : Int32) < v6) → (((v5 * ((100 : Int32) + v6)) / (100 : Int32)) < v3) → V g mX8_surcharge (Em g mX8_surcharge Q X) CX 0 0 31 [(0, .ref 3), (1, .int v1), (2, .int v2), (3, .int v3), (4, .int v4), (5, .int v5), (6, .int (v6 + (5 : Int32)))] [] σ)
    (k3 : (¬ (25 : Int32) < v6) → (¬ ((v5 * ((100 : Int32) + v6)) / (100 : Int32)) < v3) → Q σ (some (.int v6))) :
    V g mX8_surcharge (Em g mX8_surcharge Q X) CX 0 0 31 [(0, .ref 3), (1, .int v1), (2, .int v2), (3, .int v3), (4, .int v4), (5, .int v5), (6, .int v6)] [] σ := by
  refine V_iload dX8_surcharge_31 rfl ?_
  refine V_bipush (25 : Int32) dX8_surcharge_33 (by decide) ?_
  refine V_icmp_gt 62 dX8_surcharge_35 rfl (fun c1 => ?_) (fun c1 => ?_)
  · refine V_iconst (-1 : Int32) dX8_surcharge_62 (by decide) ?_
    exact V_iret rfl dX8_surcharge_63 (k1 c1)
  · refine V_iload dX8_surcharge_38 rfl ?_
    refine V_bipush (100 : Int32) dX8_surcharge_40 (by decide) ?_
    refine V_iload dX8_surcharge_42 rfl ?_
    refine V_iadd dX8_surcharge_44 ?_
    refine V_imul dX8_surcharge_45 ?_
    refine V_bipush (100 : Int32) dX8_surcharge_46 (by decide) ?_
    refine V_idiv dX8_surcharge_48 (by decide) ?_
    refine V_iload_n dX8_surcharge_49 rfl ?_
    refine V_icmp_lt 56 dX8_surcharge_50 rfl (fun c2 => ?_) (fun c2 => ?_)
    · refine V_iinc (v6 + (5 : Int32)) [(0, .ref 3), (1, .int v1), (2, .int v2), (3, .int v3), (4, .int v4), (5, .int v5), (6, .int (v6 + (5 : Int32)))] dX8_surcharge_56 rfl rfl rfl rfl ?_
      refine V_goto 31 dX8_surcharge_59 rfl ?_
      exact (k2 c1 c2)
    · refine V_iload dX8_surcharge_53 rfl ?_
      exact V_iret rfl dX8_surcharge_55 (k3 c1 c2)

set_option maxRecDepth 100000 in
set_option maxHeartbeats 4000000 in
theorem b_X8_roundedUp_0 {g : GP} {CX : State → Array Value → Prop} {Q : AH → Option Value → Prop} {X : AH → String → Prop} {v1 : Int32} {v2 : Int32} {σ : AH}
    (hS : Sh σ)
    (k1 : ((lg_cmp ((100 : Int64) * (Int32.toInt64 (zI σ 3 5))) (0 : Int64)) ≤ 0) → Q σ (some (.int v1)))
    (o1 : (¬ (lg_cmp ((100 : Int64) * (Int32.toInt64 (zI σ 3 5))) (0 : Int64)) ≤ 0) → ¬ (100 : Int64) * (Int32.toInt64 (zI σ 3 5)) = 0)
    (k2 : (¬ (lg_cmp ((100 : Int64) * (Int32.toInt64 (zI σ 3 5))) (0 : Int64)) ≤ 0) → Q σ (some (.int (Int64.toInt32 ((((((Int32.toInt64 v1) * (Int32.toInt64 ((100 : Int32) + v2))) + ((100 : Int64) * (Int32.toInt64 (zI σ 3 5)))) - (1 : Int64)) / ((100 : Int64) * (Int32.toInt64 (zI σ 3 5)))) * (Int32.toInt64 (zI σ 3 5))))))) :
    V g mX8_roundedUp (Em g mX8_roundedUp Q X) CX 0 0 0 [(0, .ref 3), (1, .int v1), (2, .int v2)] [] σ := by
  refine V_iload_n dX8_roundedUp_0 rfl ?_
  refine V_i2l dX8_roundedUp_1 ?_
  refine V_bipush (100 : Int32) dX8_roundedUp_2 (by decide) ?_
  refine V_iload_n dX8_roundedUp_4 rfl ?_
  refine V_iadd dX8_roundedUp_5 ?_
  refine V_i2l dX8_roundedUp_6 ?_
  refine V_lmul dX8_roundedUp_7 ?_
  refine V_lstore_n [(0, .ref 3), (1, .int v1), (2, .int v2), (3, .long ((Int32.toInt64 v1) * (Int32.toInt64 ((100 : Int32) + v2))))] dX8_roundedUp_8 rfl rfl ?_
  refine V_ldc2 (v := (100 : Int64)) w_664 dX8_roundedUp_9 ?_
  refine V_aload_n dX8_roundedUp_12 rfl ?_
  refine V_getf (fk := 5) (Value.int (zI σ 3 5)) ko_X8 rfl w_75 dX8_roundedUp_13 (by decide) (shk hS 3 rfl) rfl ?_
  refine V_i2l dX8_roundedUp_16 ?_
  refine V_lmul dX8_roundedUp_17 ?_
  refine V_lstore [(0, .ref 3), (1, .int v1), (2, .int v2), (3, .long ((Int32.toInt64 v1) * (Int32.toInt64 ((100 : Int32) + v2)))), (5, .long ((100 : Int64) * (Int32.toInt64 (zI σ 3 5))))] dX8_roundedUp_18 rfl rfl ?_
  refine V_lload dX8_roundedUp_20 rfl ?_
  refine V_lconst (0 : Int64) dX8_roundedUp_22 (by decide) ?_
  refine V_lcmp dX8_roundedUp_23 ?_
  refine V_if_le 46 dX8_roundedUp_24 rfl (fun c1 => ?_) (fun c1 => ?_)
  · refine V_iload_n dX8_roundedUp_46 rfl ?_
    exact V_iret rfl dX8_roundedUp_47 (k1 c1)
  · refine V_lload_n dX8_roundedUp_27 rfl ?_
    refine V_lload dX8_roundedUp_28 rfl ?_
    refine V_ladd dX8_roundedUp_30 ?_
    refine V_lconst (1 : Int64) dX8_roundedUp_31 (by decide) ?_
    refine V_lsub dX8_roundedUp_32 ?_
    refine V_lload dX8_roundedUp_33 rfl ?_
    refine V_ldiv dX8_roundedUp_35 (o1 c1) ?_
    refine V_aload_n dX8_roundedUp_36 rfl ?_
    refine V_getf (fk := 5) (Value.int (zI σ 3 5)) ko_X8 rfl w_75 dX8_roundedUp_37 (by decide) (shk hS 3 rfl) rfl ?_
    refine V_i2l dX8_roundedUp_40 ?_
    refine V_lmul dX8_roundedUp_41 ?_
    refine V_l2i dX8_roundedUp_42 ?_
    refine V_goto 47 dX8_roundedUp_43 rfl ?_
    exact V_iret rfl dX8_roundedUp_47 (k2 c1)

