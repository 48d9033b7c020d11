/-! ===== the reference: clearing ===== -/
/-- a heap with its ints and longs put anew -/
def s2 (σ : AH) (F : Nat → Nat → Int32) (G : Nat → Nat → Int64) : AH := (zN σ, zK σ, zL σ, F, G, zR σ)
theorem zI_s2 (σ : AH) (F : Nat → Nat → Int32) (G : Nat → Nat → Int64) (a k : Nat) : zI (s2 σ F G) a k = F a k := rfl
theorem zJ_s2 (σ : AH) (F : Nat → Nat → Int32) (G : Nat → Nat → Int64) (a k : Nat) : zJ (s2 σ F G) a k = G a k := rfl
theorem uI_s2 (σ : AH) (F : Nat → Nat → Int32) (G : Nat → Nat → Int64) (a k : Nat) (x : Int32) : uI (s2 σ F G) a k x = s2 σ (fun b j => if b = a ∧ j = k then x else F b j) G := rfl
theorem uJ_s2 (σ : AH) (F : Nat → Nat → Int32) (G : Nat → Nat → Int64) (a k : Nat) (x : Int64) : uJ (s2 σ F G) a k x = s2 σ F (fun b j => if b = a ∧ j = k then x else G b j) := rfl
theorem s2_self (σ : AH) : s2 σ (zI σ) (zJ σ) = σ := rfl
theorem Sh_s2 {σ : AH} {F : Nat → Nat → Int32} {G : Nat → Nat → Int64} (h : Sh σ) : Sh (s2 σ F G) := h
theorem s2_cg {σ : AH} {F F' : Nat → Nat → Int32} {G G' : Nat → Nat → Int64} (h : ∀ a k, F a k = F' a k) (h' : ∀ a k, G a k = G' a k) : s2 σ F G = s2 σ F' G' := by
  have e : F = F' := by funext a k; exact h a k
  have e' : G = G' := by funext a k; exact h' a k
  rw [e, e']
theorem j_ring (z d a b : Int64) : z + d - a + b = z + (d + (b - a)) := by grind
/-- money moves from one carrier to another -/
def mvG (σ : AH) (x y : Nat) (m : Int64) (a k : Nat) : Int64 := if a = 69 ∨ a = 70 then zJ σ a k - (if k = x then m else 0) + (if k = y then m else 0) else zJ σ a k
def mvH (σ : AH) (x y : Nat) (m : Int64) : AH := s2 σ (zI σ) (mvG σ x y m)
set_option maxRecDepth 100000 in
set_option maxHeartbeats 4000000 in
theorem b_X12_moves_0 {g : GP} {CX : State → Array Value → Prop} {Q : AH → Option Value → Prop} {X : AH → String → Prop} {v1 : Int32} {v2 : Int32} {v3 : Int32} {σ : AH}
    (hS : Sh σ)
    (o1 : vp_in v1 5)
    (o2 : vp_in v2 5)
    (k1 : Q (uJ (uJ (uJ (uJ σ 69 (Int32.toNatClampNeg v1) ((zJ σ 69 (Int32.toNatClampNeg v1)) - (Int32.toInt64 v3))) 69 (Int32.toNatClampNeg v2) ((zJ (uJ σ 69 (Int32.toNatClampNeg v1) ((zJ σ 69 (Int32.toNatClampNeg v1)) - (Int32.toInt64 v3))) 69 (Int32.toNatClampNeg v2)) + (Int32.toInt64 v3))) 70 (Int32.toNatClampNeg v1) ((zJ σ 70 (Int32.toNatClampNeg v1)) - (Int32.toInt64 v3))) 70 (Int32.toNatClampNeg v2) ((zJ (uJ (uJ (uJ σ 69 (Int32.toNatClampNeg v1) ((zJ σ 69 (Int32.toNatClampNeg v1)) - (Int32.toInt64 v3))) 69 (Int32.toNatClampNeg v2) ((zJ (uJ σ 69 (Int32.toNatClampNeg v1) ((zJ σ 69 (Int32.toNatClampNeg v1)) - (Int32.toInt64 v3))) 69 (Int32.toNatClampNeg v2)) + (Int32.toInt64 v3))) 70 (Int32.toNatClampNeg v1) ((zJ σ 70 (Int32.toNatClampNeg v1)) - (Int32.toInt64 v3))) 70 (Int32.toNatClampNeg v2)) + (Int32.toInt64 v3))) none) :
    V g mX12_moves (Em g mX12_moves Q X) CX 0 0 0 [(0, .ref 33), (1, .int v1), (2, .int v2), (3, .int v3)] [] σ := by
  refine V_aload_n dX12_moves_0 rfl ?_
  refine V_getf (fk := 45) (Value.ref 69) ko_X12 rfl w_1100 dX12_moves_1 (by decide) (shk hS 33 rfl) (congrArg Value.ref (shr hS 33 45 69 (by decide))) ?_
  refine V_iload_n dX12_moves_4 rfl ?_
  refine V_dup2 dX12_moves_5 rfl rfl ?_
  refine V_lald dX12_moves_6 (by decide) (shk hS 69 rfl) (vp_l (n := 5) (shl hS 69 rfl) o1) ?_
  refine V_iload_n dX12_moves_7 rfl ?_
  refine V_i2l dX12_moves_8 ?_
  refine V_lsub dX12_moves_9 ?_
  refine V_last dX12_moves_10 (by decide) (shk hS 69 rfl) (vp_l (n := 5) (shl hS 69 rfl) o1) ?_
  refine V_aload_n dX12_moves_11 rfl ?_
  refine V_getf (fk := 45) (Value.ref 69) ko_X12 rfl w_1100 dX12_moves_12 (by decide) (shk (Sh_uJ hS) 33 rfl) (congrArg Value.ref (shr (Sh_uJ hS) 33 45 69 (by decide))) ?_
  refine V_iload_n dX12_moves_15 rfl ?_
  refine V_dup2 dX12_moves_16 rfl rfl ?_
  refine V_lald dX12_moves_17 (by decide) (shk (Sh_uJ hS) 69 rfl) (vp_l (n := 5) (shl (Sh_uJ hS) 69 rfl) o2) ?_
  refine V_iload_n dX12_moves_18 rfl ?_
  refine V_i2l dX12_moves_19 ?_
  refine V_ladd dX12_moves_20 ?_
  refine V_last dX12_moves_21 (by decide) (shk (Sh_uJ hS) 69 rfl) (vp_l (n := 5) (shl (Sh_uJ hS) 69 rfl) o2) ?_
  refine V_aload_n dX12_moves_22 rfl ?_
  refine V_getf (fk := 46) (Value.ref 70) ko_X12 rfl w_1101 dX12_moves_23 (by decide) (shk (Sh_uJ (Sh_uJ hS)) 33 rfl) (congrArg Value.ref (shr (Sh_uJ (Sh_uJ hS)) 33 46 70 (by decide))) ?_
  refine V_iload_n dX12_moves_26 rfl ?_
  refine V_dup2 dX12_moves_27 rfl rfl ?_
  refine V_lald dX12_moves_28 (by decide) (shk (Sh_uJ (Sh_uJ hS)) 70 rfl) (vp_l (n := 5) (shl (Sh_uJ (Sh_uJ hS)) 70 rfl) o1) ?_
  refine V_cast (st' := Value.long (zJ σ 70 (Int32.toNatClampNeg v1)) :: [.int v1, .ref 70]) rfl (congrArg (fun q_ => Value.long q_ :: [.int v1, .ref 70]) ((zJ_oa _ _ _ _ _ _ (by decide)).trans (zJ_oa _ _ _ _ _ _ (by decide)))) rfl ?_
  refine V_iload_n dX12_moves_29 rfl ?_
  refine V_i2l dX12_moves_30 ?_
  refine V_lsub dX12_moves_31 ?_
  refine V_last dX12_moves_32 (by decide) (shk (Sh_uJ (Sh_uJ hS)) 70 rfl) (vp_l (n := 5) (shl (Sh_uJ (Sh_uJ hS)) 70 rfl) o1) ?_
  refine V_aload_n dX12_moves_33 rfl ?_
  refine V_getf (fk := 46) (Value.ref 70) ko_X12 rfl w_1101 dX12_moves_34 (by decide) (shk (Sh_uJ (Sh_uJ (Sh_uJ hS))) 33 rfl) (congrArg Value.ref (shr (Sh_uJ (Sh_uJ (Sh_uJ hS))) 33 46 70 (by decide))) ?_
  refine V_iload_n dX12_moves_37 rfl ?_
  refine V_dup2 dX12_moves_38 rfl rfl ?_
  refine V_lald dX12_moves_39 (by decide) (shk (Sh_uJ (Sh_uJ (Sh_uJ hS))) 70 rfl) (vp_l (n := 5) (shl (Sh_uJ (Sh_uJ (Sh_uJ hS))) 70 rfl) o2) ?_
  refine V_iload_n dX12_moves_40 rfl ?_
  refine V_i2l dX12_moves_41 ?_
  refine V_ladd dX12_moves_42 ?_
  refine V_last dX12_moves_43 (by decide) (shk (Sh_uJ (Sh_uJ (Sh_uJ hS))) 70 rfl) (vp_l (n := 5) (shl (Sh_uJ (Sh_uJ (Sh_uJ hS))) 70 rfl) o2) ?_
  exact V_vret rfl dX12_moves_44 k1

set_option maxRecDepth 100000 in
set_option maxHeartbeats 4000000 in
theorem b_X12_backOf_0 {g : GP} {CX : State → Array Value → Prop} {Q : AH → Option Value → Prop} {X : AH → String → Prop} {v1 : Int32} {σ : AH}
    (hS : Sh σ)
    (o1 : vp_in v1 240)
    (k1 : (¬ (zI σ 66 (Int32.toNatClampNeg v1)) = (3 : Int32)) → Q σ (some (.int (zI σ 63 (Int32.toNatClampNeg v1)))))
    (k2 : ((zI σ 66 (Int32.toNatClampNeg v1)) = (3 : Int32)) → Q σ (some (.int ((zI σ 63 (Int32.toNatClampNeg v1)) / (2 : Int32))))) :
    V g mX12_backOf (Em g mX12_backOf Q X) CX 0 0 0 [(0, .ref 33), (1, .int v1)] [] σ := by
  refine V_aload_n dX12_backOf_0 rfl ?_
  refine V_getf (fk := 41) (Value.ref 66) ko_X12 rfl w_1096 dX12_backOf_1 (by decide) (shk hS 33 rfl) (congrArg Value.ref (shr hS 33 41 66 (by decide))) ?_
  refine V_iload_n dX12_backOf_4 rfl ?_
  refine V_iald dX12_backOf_5 (by decide) (shk hS 66 rfl) (vp_l (n := 240) (shl hS 66 rfl) o1) ?_
  refine V_iconst (3 : Int32) dX12_backOf_6 (by decide) ?_
  refine V_icmp_ne 21 dX12_backOf_7 rfl (fun c1 => ?_) (fun c1 => ?_)
  · refine V_aload_n dX12_backOf_21 rfl ?_
    refine V_getf (fk := 38) (Value.ref 63) ko_X12 rfl w_1093 dX12_backOf_22 (by decide) (shk hS 33 rfl) (congrArg Value.ref (shr hS 33 38 63 (by decide))) ?_
    refine V_iload_n dX12_backOf_25 rfl ?_
    refine V_iald dX12_backOf_26 (by decide) (shk hS 63 rfl) (vp_l (n := 240) (shl hS 63 rfl) o1) ?_
    exact V_iret rfl dX12_backOf_27 (k1 c1)
  · refine V_aload_n dX12_backOf_10 rfl ?_
    refine V_getf (fk := 38) (Value.ref 63) ko_X12 rfl w_1093 dX12_backOf_11 (by decide) (shk hS 33 rfl) (congrArg Value.ref (shr hS 33 38 63 (by decide))) ?_
    refine V_iload_n dX12_backOf_14 rfl ?_
    refine V_iald dX12_backOf_15 (by decide) (shk hS 63 rfl) (vp_l (n := 240) (shl hS 63 rfl) o1) ?_
    refine V_iconst (2 : Int32) dX12_backOf_16 (by decide) ?_
    refine V_idiv dX12_backOf_17 (by decide) ?_
    refine V_goto 27 dX12_backOf_18 rfl ?_
    exact V_iret rfl dX12_backOf_27 (k2 c1)

theorem s_X12_moves {g : GP} {σ : AH} {x y m : Int32} (hS : Sh σ) (hx : vp_in x 5) (hy : vp_in y 5) : Ct g mX12_moves [.ref 33, .int x, .int y, .int m] σ (FQ (mvH σ (ix x) (ix y) (Int32.toInt64 m)) none) := by
  refine Ct_of (by decide +kernel) rfl rfl (b_X12_moves_0 hS hx hy ⟨?_, rfl⟩)
  rw [← s2_self σ]
  simp only [uJ_s2, mvH]
  rw [s2_self]
  refine s2_cg (fun _ _ => rfl) (fun a k => ?_)
  simp only [zJ_uJ, zJ_s2, mvG, ix]
  by_cases h1 : k = x.toNatClampNeg <;> by_cases h2 : k = y.toNatClampNeg <;> by_cases h3 : a = 69 <;> by_cases h4 : a = 70 <;> simp_all
def bkF (σ : AH) (b : Nat) : Int32 := if zI σ 66 b = 3 then zI σ 63 b / 2 else zI σ 63 b
theorem s_X12_backOf {g : GP} {σ : AH} {x : Int32} (hS : Sh σ) (hx : vp_in x 240) : Ct g mX12_backOf [.ref 33, .int x] σ (FQ σ (some (.int (bkF σ (ix x))))) :=
  Ct_of (by decide +kernel) rfl rfl (b_X12_backOf_0 hS hx (fun c => fq_i (by rw [bkF, if_neg c])) (fun c => fq_i (by rw [bkF, if_pos c])))
set_option maxRecDepth 100000 in
set_option maxHeartbeats 4000000 in
theorem b_X12_settles_0 {g : GP} {CX : State → Array Value → Prop} {Q : AH → Option Value → Prop} {X : AH → String → Prop} {v1 : Int32} {σ : AH}
    (hS : Sh σ)
    (o1 : vp_in v1 240)
    (o2 : (¬ (zI σ 62 (Int32.toNatClampNeg v1)) = 0) → vp_in (zI σ 65 (Int32.toNatClampNeg v1)) 5)
    (o3 : (¬ (zI σ 62 (Int32.toNatClampNeg v1)) = 0) → vp_in (zI σ 64 (Int32.toNatClampNeg v1)) 5)
    (k1 : (¬ (zI σ 62 (Int32.toNatClampNeg v1)) = 0) → (¬ (zI (mvH σ (ix (zI σ 65 (Int32.toNatClampNeg v1))) (ix (zI σ 64 (Int32.toNatClampNeg v1))) (Int32.toInt64 (bkF σ (ix v1)))) 66 (Int32.toNatClampNeg v1)) = (3 : Int32)) → Q (uI (uI (mvH σ (ix (zI σ 65 (Int32.toNatClampNeg v1))) (ix (zI σ 64 (Int32.toNatClampNeg v1))) (Int32.toInt64 (bkF σ (ix v1)))) 62 (Int32.toNatClampNeg v1) (3 : Int32)) 67 (Int32.toNatClampNeg v1) (zI (mvH σ (ix (zI σ 65 (Int32.toNatClampNeg v1))) (ix (zI σ 64 (Int32.toNatClampNeg v1))) (Int32.toInt64 (bkF σ (ix v1)))) 33 43)) none)
    (k2 : (¬ (zI σ 62 (Int32.toNatClampNeg v1)) = 0) → ((zI (mvH σ (ix (zI σ 65 (Int32.toNatClampNeg v1))) (ix (zI σ 64 (Int32.toNatClampNeg v1))) (Int32.toInt64 (bkF σ (ix v1)))) 66 (Int32.toNatClampNeg v1)) = (3 : Int32)) → Q (uI (uI (mvH σ (ix (zI σ 65 (Int32.toNatClampNeg v1))) (ix (zI σ 64 (Int32.toNatClampNeg v1))) (Int32.toInt64 (bkF σ (ix v1)))) 62 (Int32.toNatClampNeg v1) (4 : Int32)) 67 (Int32.toNatClampNeg v1) (zI (mvH σ (ix (zI σ 65 (Int32.toNatClampNeg v1))) (ix (zI σ 64 (Int32.toNatClampNeg v1))) (Int32.toInt64 (bkF σ (ix v1)))) 33 43)) none)
    (o4 : ((zI σ 62 (Int32.toNatClampNeg v1)) = 0) → vp_in (zI σ 64 (Int32.toNatClampNeg v1)) 5)
    (o5 : ((zI σ 62 (Int32.toNatClampNeg v1)) = 0) → vp_in (zI σ 65 (Int32.toNatClampNeg v1)) 5)
    (k3 : ((zI σ 62 (Int32.toNatClampNeg v1)) = 0) → Q (uI (uI (mvH σ (ix (zI σ 64 (Int32.toNatClampNeg v1))) (ix (zI σ 65 (Int32.toNatClampNeg v1))) (Int32.toInt64 (zI σ 63 (Int32.toNatClampNeg v1)))) 62 (Int32.toNatClampNeg v1) (1 : Int32)) 67 (Int32.toNatClampNeg v1) (zI (mvH σ (ix (zI σ 64 (Int32.toNatClampNeg v1))) (ix (zI σ 65 (Int32.toNatClampNeg v1))) (Int32.toInt64 (zI σ 63 (Int32.toNatClampNeg v1)))) 33 43)) none) :
    V g mX12_settles (Em g mX12_settles Q X) CX 0 0 0 [(0, .ref 33), (1, .int v1)] [] σ := by
  refine V_aload_n dX12_settles_0 rfl ?_
  refine V_getf (fk := 37) (Value.ref 62) ko_X12 rfl w_1092 dX12_settles_1 (by decide) (shk hS 33 rfl) (congrArg Value.ref (shr hS 33 37 62 (by decide))) ?_
  refine V_iload_n dX12_settles_4 rfl ?_
  refine V_iald dX12_settles_5 (by decide) (shk hS 62 rfl) (vp_l (n := 240) (shl hS 62 rfl) o1) ?_
  refine V_if_ne 41 dX12_settles_6 rfl (fun c1 => ?_) (fun c1 => ?_)
  · refine V_aload_n dX12_settles_41 rfl ?_
    refine V_aload_n dX12_settles_42 rfl ?_
    refine V_getf (fk := 40) (Value.ref 65) ko_X12 rfl w_1095 dX12_settles_43 (by decide) (shk hS 33 rfl) (congrArg Value.ref (shr hS 33 40 65 (by decide))) ?_
    refine V_iload_n dX12_settles_46 rfl ?_
    refine V_iald dX12_settles_47 (by decide) (shk hS 65 rfl) (vp_l (n := 240) (shl hS 65 rfl) o1) ?_
    refine V_aload_n dX12_settles_48 rfl ?_
    refine V_getf (fk := 39) (Value.ref 64) ko_X12 rfl w_1094 dX12_settles_49 (by decide) (shk hS 33 rfl) (congrArg Value.ref (shr hS 33 39 64 (by decide))) ?_
    refine V_iload_n dX12_settles_52 rfl ?_
    refine V_iald dX12_settles_53 (by decide) (shk hS 64 rfl) (vp_l (n := 240) (shl hS 64 rfl) o1) ?_
    refine V_aload_n dX12_settles_54 rfl ?_
    refine V_iload_n dX12_settles_55 rfl ?_
    refine V_callV1 (as := [.int v1]) (k' := 0) (n' := 0) (s_X12_backOf hS o1) mw_X12_backOf ko_X12 rfl w_1402 w_43 w_1400 ar_X12_backOf rfl ⟨rfl, rfl, rfl, rfl, rfl⟩ dX12_settles_56 (by decide) (shk hS 33 rfl) ?_
    refine V_callV0 (as := [.int (zI σ 65 (Int32.toNatClampNeg v1)), .int (zI σ 64 (Int32.toNatClampNeg v1)), .int (bkF σ (ix v1))]) (k' := 0) (n' := 0) (s_X12_moves hS (o2 c1) (o3 c1)) mw_X12_moves ko_X12 rfl w_1398 w_42 w_1396 ar_X12_moves rfl ⟨rfl, rfl, rfl, rfl, rfl⟩ dX12_settles_59 (by decide) (shk hS 33 rfl) ?_
    refine V_aload_n dX12_settles_62 rfl ?_
    refine V_getf (fk := 37) (Value.ref 62) ko_X12 rfl w_1092 dX12_settles_63 (by decide) (shk (Sh_s2 hS) 33 rfl) (congrArg Value.ref (shr (Sh_s2 hS) 33 37 62 (by decide))) ?_
    refine V_iload_n dX12_settles_66 rfl ?_
    refine V_aload_n dX12_settles_67 rfl ?_
    refine V_getf (fk := 41) (Value.ref 66) ko_X12 rfl w_1096 dX12_settles_68 (by decide) (shk (Sh_s2 hS) 33 rfl) (congrArg Value.ref (shr (Sh_s2 hS) 33 41 66 (by decide))) ?_
    refine V_iload_n dX12_settles_71 rfl ?_
    refine V_iald dX12_settles_72 (by decide) (shk (Sh_s2 hS) 66 rfl) (vp_l (n := 240) (shl (Sh_s2 hS) 66 rfl) o1) ?_
    refine V_iconst (3 : Int32) dX12_settles_73 (by decide) ?_
    refine V_icmp_ne 81 dX12_settles_74 rfl (fun c2 => ?_) (fun c2 => ?_)
    · refine V_iconst (3 : Int32) dX12_settles_81 (by decide) ?_
      refine V_iast dX12_settles_82 (by decide) (shk (Sh_s2 hS) 62 rfl) (vp_l (n := 240) (shl (Sh_s2 hS) 62 rfl) o1) ?_
      refine V_aload_n dX12_settles_83 rfl ?_
      refine V_getf (fk := 42) (Value.ref 67) ko_X12 rfl w_1097 dX12_settles_84 (by decide) (shk (Sh_uI (Sh_s2 hS)) 33 rfl) (congrArg Value.ref (shr (Sh_uI (Sh_s2 hS)) 33 42 67 (by decide))) ?_
      refine V_iload_n dX12_settles_87 rfl ?_
      refine V_aload_n dX12_settles_88 rfl ?_
      refine V_getf (fk := 43) (Value.int (zI (mvH σ (ix (zI σ 65 (Int32.toNatClampNeg v1))) (ix (zI σ 64 (Int32.toNatClampNeg v1))) (Int32.toInt64 (bkF σ (ix v1)))) 33 43)) ko_X12 rfl w_1098 dX12_settles_89 (by decide) (shk (Sh_uI (Sh_s2 hS)) 33 rfl) (congrArg Value.int (zI_oa _ _ _ _ _ _ (by decide))) ?_
      refine V_iast dX12_settles_92 (by decide) (shk (Sh_uI (Sh_s2 hS)) 67 rfl) (vp_l (n := 240) (shl (Sh_uI (Sh_s2 hS)) 67 rfl) o1) ?_
      exact V_vret rfl dX12_settles_93 (k1 c1 c2)
    · refine V_iconst (4 : Int32) dX12_settles_77 (by decide) ?_
      refine V_goto 82 dX12_settles_78 rfl ?_
      refine V_iast dX12_settles_82 (by decide) (shk (Sh_s2 hS) 62 rfl) (vp_l (n := 240) (shl (Sh_s2 hS) 62 rfl) o1) ?_
      refine V_aload_n dX12_settles_83 rfl ?_
      refine V_getf (fk := 42) (Value.ref 67) ko_X12 rfl w_1097 dX12_settles_84 (by decide) (shk (Sh_uI (Sh_s2 hS)) 33 rfl) (congrArg Value.ref (shr (Sh_uI (Sh_s2 hS)) 33 42 67 (by decide))) ?_
      refine V_iload_n dX12_settles_87 rfl ?_
      refine V_aload_n dX12_settles_88 rfl ?_
      refine V_getf (fk := 43) (Value.int (zI (mvH σ (ix (zI σ 65 (Int32.toNatClampNeg v1))) (ix (zI σ 64 (Int32.toNatClampNeg v1))) (Int32.toInt64 (bkF σ (ix v1)))) 33 43)) ko_X12 rfl w_1098 dX12_settles_89 (by decide) (shk (Sh_uI (Sh_s2 hS)) 33 rfl) (congrArg Value.int (zI_oa _ _ _ _ _ _ (by decide))) ?_
      refine V_iast dX12_settles_92 (by decide) (shk (Sh_uI (Sh_s2 hS)) 67 rfl) (vp_l (n := 240) (shl (Sh_uI (Sh_s2 hS)) 67 rfl) o1) ?_
      exact V_vret rfl dX12_settles_93 (k2 c1 c2)
  · refine V_aload_n dX12_settles_9 rfl ?_
    refine V_aload_n dX12_settles_10 rfl ?_
    refine V_getf (fk := 39) (Value.ref 64) ko_X12 rfl w_1094 dX12_settles_11 (by decide) (shk hS 33 rfl) (congrArg Value.ref (shr hS 33 39 64 (by decide))) ?_
    refine V_iload_n dX12_settles_14 rfl ?_
    refine V_iald dX12_settles_15 (by decide) (shk hS 64 rfl) (vp_l (n := 240) (shl hS 64 rfl) o1) ?_
    refine V_aload_n dX12_settles_16 rfl ?_
    refine V_getf (fk := 40) (Value.ref 65) ko_X12 rfl w_1095 dX12_settles_17 (by decide) (shk hS 33 rfl) (congrArg Value.ref (shr hS 33 40 65 (by decide))) ?_
    refine V_iload_n dX12_settles_20 rfl ?_
    refine V_iald dX12_settles_21 (by decide) (shk hS 65 rfl) (vp_l (n := 240) (shl hS 65 rfl) o1) ?_
    refine V_aload_n dX12_settles_22 rfl ?_
    refine V_getf (fk := 38) (Value.ref 63) ko_X12 rfl w_1093 dX12_settles_23 (by decide) (shk hS 33 rfl) (congrArg Value.ref (shr hS 33 38 63 (by decide))) ?_
    refine V_iload_n dX12_settles_26 rfl ?_
    refine V_iald dX12_settles_27 (by decide) (shk hS 63 rfl) (vp_l (n := 240) (shl hS 63 rfl) o1) ?_
    refine V_callV0 (as := [.int (zI σ 64 (Int32.toNatClampNeg v1)), .int (zI σ 65 (Int32.toNatClampNeg v1)), .int (zI σ 63 (Int32.toNatClampNeg v1))]) (k' := 0) (n' := 0) (s_X12_moves hS (o4 c1) (o5 c1)) mw_X12_moves ko_X12 rfl w_1398 w_42 w_1396 ar_X12_moves rfl ⟨rfl, rfl, rfl, rfl, rfl⟩ dX12_settles_28 (by decide) (shk hS 33 rfl) ?_
    refine V_aload_n dX12_settles_31 rfl ?_
    refine V_getf (fk := 37) (Value.ref 62) ko_X12 rfl w_1092 dX12_settles_32 (by decide) (shk (Sh_s2 hS) 33 rfl) (congrArg Value.ref (shr (Sh_s2 hS) 33 37 62 (by decide))) ?_
    refine V_iload_n dX12_settles_35 rfl ?_
    refine V_iconst (1 : Int32) dX12_settles_36 (by decide) ?_
    refine V_iast dX12_settles_37 (by decide) (shk (Sh_s2 hS) 62 rfl) (vp_l (n := 240) (shl (Sh_s2 hS) 62 rfl) o1) ?_
    refine V_goto 83 dX12_settles_38 rfl ?_
    refine V_aload_n dX12_settles_83 rfl ?_
    refine V_getf (fk := 42) (Value.ref 67) ko_X12 rfl w_1097 dX12_settles_84 (by decide) (shk (Sh_uI (Sh_s2 hS)) 33 rfl) (congrArg Value.ref (shr (Sh_uI (Sh_s2 hS)) 33 42 67 (by decide))) ?_
    refine V_iload_n dX12_settles_87 rfl ?_
    refine V_aload_n dX12_settles_88 rfl ?_
    refine V_getf (fk := 43) (Value.int (zI (mvH σ (ix (zI σ 64 (Int32.toNatClampNeg v1))) (ix (zI σ 65 (Int32.toNatClampNeg v1))) (Int32.toInt64 (zI σ 63 (Int32.toNatClampNeg v1)))) 33 43)) ko_X12 rfl w_1098 dX12_settles_89 (by decide) (shk (Sh_uI (Sh_s2 hS)) 33 rfl) (congrArg Value.int (zI_oa _ _ _ _ _ _ (by decide))) ?_
    refine V_iast dX12_settles_92 (by decide) (shk (Sh_uI (Sh_s2 hS)) 67 rfl) (vp_l (n := 240) (shl (Sh_uI (Sh_s2 hS)) 67 rfl) o1) ?_
    exact V_vret rfl dX12_settles_93 (k3 c1)

set_option maxRecDepth 100000 in
set_option maxHeartbeats 4000000 in
theorem b_X12_undoes_0 {g : GP} {CX : State → Array Value → Prop} {Q : AH → Option Value → Prop} {X : AH → String → Prop} {v1 : Int32} {σ : AH}
    (hS : Sh σ)
    (o1 : vp_in v1 240)
    (o2 : (¬ (zI σ 62 (Int32.toNatClampNeg v1)) = (1 : Int32)) → vp_in (zI σ 64 (Int32.toNatClampNeg v1)) 5)
    (o3 : (¬ (zI σ 62 (Int32.toNatClampNeg v1)) = (1 : Int32)) → vp_in (zI σ 65 (Int32.toNatClampNeg v1)) 5)
    (k1 : (¬ (zI σ 62 (Int32.toNatClampNeg v1)) = (1 : Int32)) → Q (uI (uI (mvH σ (ix (zI σ 64 (Int32.toNatClampNeg v1))) (ix (zI σ 65 (Int32.toNatClampNeg v1))) (Int32.toInt64 (bkF σ (ix v1)))) 62 (Int32.toNatClampNeg v1) (2 : Int32)) 67 (Int32.toNatClampNeg v1) (0 : Int32)) none)
    (o4 : ((zI σ 62 (Int32.toNatClampNeg v1)) = (1 : Int32)) → vp_in (zI σ 65 (Int32.toNatClampNeg v1)) 5)
    (o5 : ((zI σ 62 (Int32.toNatClampNeg v1)) = (1 : Int32)) → vp_in (zI σ 64 (Int32.toNatClampNeg v1)) 5)
    (k2 : ((zI σ 62 (Int32.toNatClampNeg v1)) = (1 : Int32)) → Q (uI (uI (mvH σ (ix (zI σ 65 (Int32.toNatClampNeg v1))) (ix (zI σ 64 (Int32.toNatClampNeg v1))) (Int32.toInt64 (zI σ 63 (Int32.toNatClampNeg v1)))) 62 (Int32.toNatClampNeg v1) (0 : Int32)) 67 (Int32.toNatClampNeg v1) (0 : Int32)) none) :
    V g mX12_undoes (Em g mX12_undoes Q X) CX 0 0 0 [(0, .ref 33), (1, .int v1)] [] σ := by
  refine V_aload_n dX12_undoes_0 rfl ?_
  refine V_getf (fk := 37) (Value.ref 62) ko_X12 rfl w_1092 dX12_undoes_1 (by decide) (shk hS 33 rfl) (congrArg Value.ref (shr hS 33 37 62 (by decide))) ?_
  refine V_iload_n dX12_undoes_4 rfl ?_
  refine V_iald dX12_undoes_5 (by decide) (shk hS 62 rfl) (vp_l (n := 240) (shl hS 62 rfl) o1) ?_
  refine V_iconst (1 : Int32) dX12_undoes_6 (by decide) ?_
  refine V_icmp_ne 42 dX12_undoes_7 rfl (fun c1 => ?_) (fun c1 => ?_)
  · refine V_aload_n dX12_undoes_42 rfl ?_
    refine V_aload_n dX12_undoes_43 rfl ?_
    refine V_getf (fk := 39) (Value.ref 64) ko_X12 rfl w_1094 dX12_undoes_44 (by decide) (shk hS 33 rfl) (congrArg Value.ref (shr hS 33 39 64 (by decide))) ?_
    refine V_iload_n dX12_undoes_47 rfl ?_
    refine V_iald dX12_undoes_48 (by decide) (shk hS 64 rfl) (vp_l (n := 240) (shl hS 64 rfl) o1) ?_
    refine V_aload_n dX12_undoes_49 rfl ?_
    refine V_getf (fk := 40) (Value.ref 65) ko_X12 rfl w_1095 dX12_undoes_50 (by decide) (shk hS 33 rfl) (congrArg Value.ref (shr hS 33 40 65 (by decide))) ?_
    refine V_iload_n dX12_undoes_53 rfl ?_
    refine V_iald dX12_undoes_54 (by decide) (shk hS 65 rfl) (vp_l (n := 240) (shl hS 65 rfl) o1) ?_
    refine V_aload_n dX12_undoes_55 rfl ?_
    refine V_iload_n dX12_undoes_56 rfl ?_
    refine V_callV1 (as := [.int v1]) (k' := 0) (n' := 0) (s_X12_backOf hS o1) mw_X12_backOf ko_X12 rfl w_1402 w_43 w_1400 ar_X12_backOf rfl ⟨rfl, rfl, rfl, rfl, rfl⟩ dX12_undoes_57 (by decide) (shk hS 33 rfl) ?_
    refine V_callV0 (as := [.int (zI σ 64 (Int32.toNatClampNeg v1)), .int (zI σ 65 (Int32.toNatClampNeg v1)), .int (bkF σ (ix v1))]) (k' := 0) (n' := 0) (s_X12_moves hS (o2 c1) (o3 c1)) mw_X12_moves ko_X12 rfl w_1398 w_42 w_1396 ar_X12_moves rfl ⟨rfl, rfl, rfl, rfl, rfl⟩ dX12_undoes_60 (by decide) (shk hS 33 rfl) ?_
    refine V_aload_n dX12_undoes_63 rfl ?_
    refine V_getf (fk := 37) (Value.ref 62) ko_X12 rfl w_1092 dX12_undoes_64 (by decide) (shk (Sh_s2 hS) 33 rfl) (congrArg Value.ref (shr (Sh_s2 hS) 33 37 62 (by decide))) ?_
    refine V_iload_n dX12_undoes_67 rfl ?_
    refine V_iconst (2 : Int32) dX12_undoes_68 (by decide) ?_
    refine V_iast dX12_undoes_69 (by decide) (shk (Sh_s2 hS) 62 rfl) (vp_l (n := 240) (shl (Sh_s2 hS) 62 rfl) o1) ?_
    refine V_aload_n dX12_undoes_70 rfl ?_
    refine V_getf (fk := 42) (Value.ref 67) ko_X12 rfl w_1097 dX12_undoes_71 (by decide) (shk (Sh_uI (Sh_s2 hS)) 33 rfl) (congrArg Value.ref (shr (Sh_uI (Sh_s2 hS)) 33 42 67 (by decide))) ?_
    refine V_iload_n dX12_undoes_74 rfl ?_
    refine V_iconst (0 : Int32) dX12_undoes_75 (by decide) ?_
    refine V_iast dX12_undoes_76 (by decide) (shk (Sh_uI (Sh_s2 hS)) 67 rfl) (vp_l (n := 240) (shl (Sh_uI (Sh_s2 hS)) 67 rfl) o1) ?_
    exact V_vret rfl dX12_undoes_77 (k1 c1)
  · refine V_aload_n dX12_undoes_10 rfl ?_
    refine V_aload_n dX12_undoes_11 rfl ?_
    refine V_getf (fk := 40) (Value.ref 65) ko_X12 rfl w_1095 dX12_undoes_12 (by decide) (shk hS 33 rfl) (congrArg Value.ref (shr hS 33 40 65 (by decide))) ?_
    refine V_iload_n dX12_undoes_15 rfl ?_
    refine V_iald dX12_undoes_16 (by decide) (shk hS 65 rfl) (vp_l (n := 240) (shl hS 65 rfl) o1) ?_
    refine V_aload_n dX12_undoes_17 rfl ?_
    refine V_getf (fk := 39) (Value.ref 64) ko_X12 rfl w_1094 dX12_undoes_18 (by decide) (shk hS 33 rfl) (congrArg Value.ref (shr hS 33 39 64 (by decide))) ?_
    refine V_iload_n dX12_undoes_21 rfl ?_
    refine V_iald dX12_undoes_22 (by decide) (shk hS 64 rfl) (vp_l (n := 240) (shl hS 64 rfl) o1) ?_
    refine V_aload_n dX12_undoes_23 rfl ?_
    refine V_getf (fk := 38) (Value.ref 63) ko_X12 rfl w_1093 dX12_undoes_24 (by decide) (shk hS 33 rfl) (congrArg Value.ref (shr hS 33 38 63 (by decide))) ?_
    refine V_iload_n dX12_undoes_27 rfl ?_
    refine V_iald dX12_undoes_28 (by decide) (shk hS 63 rfl) (vp_l (n := 240) (shl hS 63 rfl) o1) ?_
    refine V_callV0 (as := [.int (zI σ 65 (Int32.toNatClampNeg v1)), .int (zI σ 64 (Int32.toNatClampNeg v1)), .int (zI σ 63 (Int32.toNatClampNeg v1))]) (k' := 0) (n' := 0) (s_X12_moves hS (o4 c1) (o5 c1)) mw_X12_moves ko_X12 rfl w_1398 w_42 w_1396 ar_X12_moves rfl ⟨rfl, rfl, rfl, rfl, rfl⟩ dX12_undoes_29 (by decide) (shk hS 33 rfl) ?_
    refine V_aload_n dX12_undoes_32 rfl ?_
    refine V_getf (fk := 37) (Value.ref 62) ko_X12 rfl w_1092 dX12_undoes_33 (by decide) (shk (Sh_s2 hS) 33 rfl) (congrArg Value.ref (shr (Sh_s2 hS) 33 37 62 (by decide))) ?_
    refine V_iload_n dX12_undoes_36 rfl ?_
    refine V_iconst (0 : Int32) dX12_undoes_37 (by decide) ?_
    refine V_iast dX12_undoes_38 (by decide) (shk (Sh_s2 hS) 62 rfl) (vp_l (n := 240) (shl (Sh_s2 hS) 62 rfl) o1) ?_
    refine V_goto 70 dX12_undoes_39 rfl ?_
    refine V_aload_n dX12_undoes_70 rfl ?_
    refine V_getf (fk := 42) (Value.ref 67) ko_X12 rfl w_1097 dX12_undoes_71 (by decide) (shk (Sh_uI (Sh_s2 hS)) 33 rfl) (congrArg Value.ref (shr (Sh_uI (Sh_s2 hS)) 33 42 67 (by decide))) ?_
    refine V_iload_n dX12_undoes_74 rfl ?_
    refine V_iconst (0 : Int32) dX12_undoes_75 (by decide) ?_
    refine V_iast dX12_undoes_76 (by decide) (shk (Sh_uI (Sh_s2 hS)) 67 rfl) (vp_l (n := 240) (shl (Sh_uI (Sh_s2 hS)) 67 rfl) o1) ?_
    exact V_vret rfl dX12_undoes_77 (k2 c1)

/-- a bill that is settled: how it stands then, what a carrier gets -/
def stS (σ : AH) (b : Nat) : Int32 := if zI σ 62 b = 0 then 1 else if zI σ 66 b = 3 then 4 else 3
def sdG (σ : AH) (b c : Nat) : Int64 :=
  if zI σ 62 b = 0 then (if c = ix (zI σ 65 b) then Int32.toInt64 (zI σ 63 b) else 0) - (if c = ix (zI σ 64 b) then Int32.toInt64 (zI σ 63 b) else 0)
  else (if c = ix (zI σ 64 b) then Int32.toInt64 (bkF σ b) else 0) - (if c = ix (zI σ 65 b) then Int32.toInt64 (bkF σ b) else 0)
def stH (σ : AH) (b : Nat) : AH := s2 σ (fun a j => if a = 67 ∧ j = b then zI σ 33 43 else if a = 62 ∧ j = b then stS σ b else zI σ a j) (fun a c => if a = 69 ∨ a = 70 then zJ σ a c + sdG σ b c else zJ σ a c)
theorem mv_eq {σ : AH} {x y b : Nat} {m : Int64} {u v : Int32} : uI (uI (mvH σ x y m) 62 b u) 67 b v = s2 σ (fun a j => if a = 67 ∧ j = b then v else if a = 62 ∧ j = b then u else zI σ a j) (fun a c => if a = 69 ∨ a = 70 then zJ σ a c + ((if c = y then m else 0) - (if c = x then m else 0)) else zJ σ a c) := by
  rw [mvH]
  simp only [uI_s2]
  refine s2_cg (fun _ _ => rfl) (fun a c => ?_)
  unfold mvG
  split
  · grind
  · rfl
theorem s_X12_settles {g : GP} {σ : AH} {x : Int32} (hS : Sh σ) (hx : vp_in x 240) (hp : vp_in (zI σ 64 (ix x)) 5) (hq : vp_in (zI σ 65 (ix x)) 5) : Ct g mX12_settles [.ref 33, .int x] σ (FQ (stH σ (ix x)) none) := by
  refine Ct_of (by decide +kernel) rfl rfl (b_X12_settles_0 hS hx (fun _ => hq) (fun _ => hp) (fun c c2 => ⟨?_, rfl⟩) (fun c c2 => ⟨?_, rfl⟩) (fun _ => hp) (fun _ => hq) (fun c => ⟨?_, rfl⟩))
  all_goals
    rw [mv_eq, stH]
    refine s2_cg (fun a j => ?_) (fun a k => ?_)
  · have c3 : ¬ zI σ 66 (ix x) = 3 := c2
    rw [stS, if_neg c, if_neg c3]; rfl
  · unfold sdG; rw [if_neg c]
  · have c3 : zI σ 66 (ix x) = 3 := c2
    rw [stS, if_neg c, if_pos c3]; rfl
  · unfold sdG; rw [if_neg c]
  · rw [stS, if_pos c]; rfl
  · unfold sdG; rw [if_pos c]
def udS (σ : AH) (b : Nat) : Int32 := if zI σ 62 b = 1 then 0 else 2
def udG (σ : AH) (b c : Nat) : Int64 :=
  if zI σ 62 b = 1 then (if c = ix (zI σ 64 b) then Int32.toInt64 (zI σ 63 b) else 0) - (if c = ix (zI σ 65 b) then Int32.toInt64 (zI σ 63 b) else 0)
  else (if c = ix (zI σ 65 b) then Int32.toInt64 (bkF σ b) else 0) - (if c = ix (zI σ 64 b) then Int32.toInt64 (bkF σ b) else 0)
def udH (σ : AH) (b : Nat) : AH := s2 σ (fun a j => if a = 67 ∧ j = b then 0 else if a = 62 ∧ j = b then udS σ b else zI σ a j) (fun a c => if a = 69 ∨ a = 70 then zJ σ a c + udG σ b c else zJ σ a c)
theorem s_X12_undoes {g : GP} {σ : AH} {x : Int32} (hS : Sh σ) (hx : vp_in x 240) (hp : vp_in (zI σ 64 (ix x)) 5) (hq : vp_in (zI σ 65 (ix x)) 5) : Ct g mX12_undoes [.ref 33, .int x] σ (FQ (udH σ (ix x)) none) := by
  refine Ct_of (by decide +kernel) rfl rfl (b_X12_undoes_0 hS hx (fun _ => hp) (fun _ => hq) (fun c => ⟨?_, rfl⟩) (fun _ => hq) (fun _ => hp) (fun c => ⟨?_, rfl⟩))
  all_goals
    rw [mv_eq, udH]
    refine s2_cg (fun a j => ?_) (fun a k => ?_)
  · rw [udS, if_neg c]
  · unfold udG; rw [if_neg c]
  · rw [udS, if_pos c]
  · unfold udG; rw [if_pos c]
