/-! ===== the reference: places, fares, parts ===== -/
theorem up_loop {P : Nat → Prop} (e : Nat) (hx : P e) (hs : ∀ j, j < e → P (j + 1) → P j) : ∀ j, j ≤ e → P j := by
  have key : ∀ d j, j + d = e → P j := by
    intro d
    induction d with
    | zero => intro j h; rw [show j = e by omega]; exact hx
    | succ d ih => intro j h; exact hs j (by omega) (ih (j + 1) (by omega))
  exact fun j hj => key (e - j) j (by omega)
theorem cl_0 : Int32.toNatClampNeg (0 : Int32) = 0 := by decide
def plF (σ : AH) (p : Nat) : Int32 := if p = 0 then zI σ 46 0 else zI σ 47 (p - 1)
theorem vp_nz {x : Int32} {n : Nat} (h : vp_in x (n + 1)) (hn : n < 2 ^ 30) (h0 : ¬ x = 0) : vp_in (x - 1) n ∧ (x - 1).toNatClampNeg = x.toNatClampNeg - 1 ∧ x.toNatClampNeg ≠ 0 := by
  obtain ⟨j, hj, rfl⟩ := vp_in_of h (by omega)
  have hj0 : j ≠ 0 := fun e => h0 (by rw [e]; rfl)
  obtain ⟨i, rfl⟩ : ∃ i, j = i + 1 := ⟨j - 1, by omega⟩
  rw [nI_pred, cl0 (by omega), cl0 (by omega)]
  exact ⟨vp_in_nI (by omega) (by omega), by omega, by omega⟩
set_option maxRecDepth 100000 in
set_option maxHeartbeats 4000000 in
theorem b_X12_placeOf_0 {g : GP} {CX : State → Array Value → Prop} {Q : AH → Option Value → Prop} {X : AH → String → Prop} {v1 : Int32} {σ : AH}
    (hS : Sh σ)
    (o1 : (¬ v1 = 0) → vp_in (v1 - (1 : Int32)) 8)
    (k1 : (¬ v1 = 0) → Q σ (some (.int (zI σ 47 (Int32.toNatClampNeg (v1 - (1 : Int32)))))))
    (k2 : (v1 = 0) → Q σ (some (.int (zI σ 46 (Int32.toNatClampNeg (0 : Int32)))))) :
    V g mX12_placeOf (Em g mX12_placeOf Q X) CX 0 0 0 [(0, .ref 33), (1, .int v1)] [] σ := by
  refine V_iload_n dX12_placeOf_0 rfl ?_
  refine V_if_ne 13 dX12_placeOf_1 rfl (fun c1 => ?_) (fun c1 => ?_)
  · refine V_aload_n dX12_placeOf_13 rfl ?_
    refine V_getf (fk := 18) (Value.ref 47) ko_X12 rfl w_1073 dX12_placeOf_14 (by decide) (shk hS 33 rfl) (congrArg Value.ref (shr hS 33 18 47 (by decide))) ?_
    refine V_iload_n dX12_placeOf_17 rfl ?_
    refine V_iconst (1 : Int32) dX12_placeOf_18 (by decide) ?_
    refine V_isub dX12_placeOf_19 ?_
    refine V_iald dX12_placeOf_20 (by decide) (shk hS 47 rfl) (vp_l (n := 8) (shl hS 47 rfl) (o1 c1)) ?_
    exact V_iret rfl dX12_placeOf_21 (k1 c1)
  · refine V_aload_n dX12_placeOf_4 rfl ?_
    refine V_getf (fk := 17) (Value.ref 46) ko_X12 rfl w_1072 dX12_placeOf_5 (by decide) (shk hS 33 rfl) (congrArg Value.ref (shr hS 33 17 46 (by decide))) ?_
    refine V_iconst (0 : Int32) dX12_placeOf_8 (by decide) ?_
    refine V_iald dX12_placeOf_9 (by decide) (shk hS 46 rfl) (vp_l (n := 8) (shl hS 46 rfl) (vp_in_nI (n := 0) (by decide) (by decide))) ?_
    refine V_goto 21 dX12_placeOf_10 rfl ?_
    exact V_iret rfl dX12_placeOf_21 (k2 c1)

set_option maxRecDepth 100000 in
set_option maxHeartbeats 4000000 in
theorem b_X12_isStop_0 {g : GP} {CX : State → Array Value → Prop} {Q : AH → Option Value → Prop} {X : AH → String → Prop} {v1 : Int32} {σ : AH}
    (hS : Sh σ)
    (o1 : vp_in v1 8)
    (o2 : vp_in (v1 - (1 : Int32)) 8)
    (k1 : ((zI σ 49 (Int32.toNatClampNeg v1)) ≤ (zI σ 49 (Int32.toNatClampNeg (v1 - (1 : Int32))))) → Q σ (some (.int (0 : Int32))))
    (k2 : (¬ (zI σ 49 (Int32.toNatClampNeg v1)) ≤ (zI σ 49 (Int32.toNatClampNeg (v1 - (1 : Int32))))) → Q σ (some (.int (1 : Int32)))) :
    V g mX12_isStop (Em g mX12_isStop Q X) CX 0 0 0 [(0, .ref 33), (1, .int v1)] [] σ := by
  refine V_aload_n dX12_isStop_0 rfl ?_
  refine V_getf (fk := 20) (Value.ref 49) ko_X12 rfl w_1075 dX12_isStop_1 (by decide) (shk hS 33 rfl) (congrArg Value.ref (shr hS 33 20 49 (by decide))) ?_
  refine V_iload_n dX12_isStop_4 rfl ?_
  refine V_iald dX12_isStop_5 (by decide) (shk hS 49 rfl) (vp_l (n := 8) (shl hS 49 rfl) o1) ?_
  refine V_aload_n dX12_isStop_6 rfl ?_
  refine V_getf (fk := 20) (Value.ref 49) ko_X12 rfl w_1075 dX12_isStop_7 (by decide) (shk hS 33 rfl) (congrArg Value.ref (shr hS 33 20 49 (by decide))) ?_
  refine V_iload_n dX12_isStop_10 rfl ?_
  refine V_iconst (1 : Int32) dX12_isStop_11 (by decide) ?_
  refine V_isub dX12_isStop_12 ?_
  refine V_iald dX12_isStop_13 (by decide) (shk hS 49 rfl) (vp_l (n := 8) (shl hS 49 rfl) o2) ?_
  refine V_icmp_le 21 dX12_isStop_14 rfl (fun c1 => ?_) (fun c1 => ?_)
  · refine V_iconst (0 : Int32) dX12_isStop_21 (by decide) ?_
    exact V_zret rfl dX12_isStop_22 (by decide) (k1 c1)
  · refine V_iconst (1 : Int32) dX12_isStop_17 (by decide) ?_
    refine V_goto 22 dX12_isStop_18 rfl ?_
    exact V_zret rfl dX12_isStop_22 (by decide) (k2 c1)

set_option maxRecDepth 100000 in
set_option maxHeartbeats 4000000 in
theorem b_X12_milesOf_0 {g : GP} {CX : State → Array Value → Prop} {Q : AH → Option Value → Prop} {X : AH → String → Prop} {v1 : Int32} {σ : AH}
    (hS : Sh σ)
    (o1 : vp_in v1 8)
    (o2 : vp_in (((10 : Int32) * (zI σ 46 (Int32.toNatClampNeg v1))) + (zI σ 47 (Int32.toNatClampNeg v1))) 100)
    (k1 : Q σ (some (.int (zI σ 34 (Int32.toNatClampNeg (((10 : Int32) * (zI σ 46 (Int32.toNatClampNeg v1))) + (zI σ 47 (Int32.toNatClampNeg v1)))))))) :
    V g mX12_milesOf (Em g mX12_milesOf Q X) CX 0 0 0 [(0, .ref 33), (1, .int v1)] [] σ := by
  refine V_aload_n dX12_milesOf_0 rfl ?_
  refine V_getf (fk := 1) (Value.ref 34) ko_X12 rfl w_1056 dX12_milesOf_1 (by decide) (shk hS 33 rfl) (congrArg Value.ref (shr hS 33 1 34 (by decide))) ?_
  refine V_bipush (10 : Int32) dX12_milesOf_4 (by decide) ?_
  refine V_aload_n dX12_milesOf_6 rfl ?_
  refine V_getf (fk := 17) (Value.ref 46) ko_X12 rfl w_1072 dX12_milesOf_7 (by decide) (shk hS 33 rfl) (congrArg Value.ref (shr hS 33 17 46 (by decide))) ?_
  refine V_iload_n dX12_milesOf_10 rfl ?_
  refine V_iald dX12_milesOf_11 (by decide) (shk hS 46 rfl) (vp_l (n := 8) (shl hS 46 rfl) o1) ?_
  refine V_imul dX12_milesOf_12 ?_
  refine V_aload_n dX12_milesOf_13 rfl ?_
  refine V_getf (fk := 18) (Value.ref 47) ko_X12 rfl w_1073 dX12_milesOf_14 (by decide) (shk hS 33 rfl) (congrArg Value.ref (shr hS 33 18 47 (by decide))) ?_
  refine V_iload_n dX12_milesOf_17 rfl ?_
  refine V_iald dX12_milesOf_18 (by decide) (shk hS 47 rfl) (vp_l (n := 8) (shl hS 47 rfl) o1) ?_
  refine V_iadd dX12_milesOf_19 ?_
  refine V_iald dX12_milesOf_20 (by decide) (shk hS 34 rfl) (vp_l (n := 100) (shl hS 34 rfl) o2) ?_
  exact V_iret rfl dX12_milesOf_21 k1

theorem s_X12_placeOf {g : GP} {σ : AH} {x : Int32} (hS : Sh σ) (hx : vp_in x 9) : Ct g mX12_placeOf [.ref 33, .int x] σ (FQ σ (some (.int (plF σ (Int32.toNatClampNeg x))))) := by
  refine Ct_of (by decide +kernel) rfl rfl (b_X12_placeOf_0 hS (fun h => (vp_nz hx (by decide) h).1) (fun h => fq_i ?_) (fun h => fq_i ?_))
  · obtain ⟨-, h1, h2⟩ := vp_nz hx (by decide) h
    rw [h1, plF, if_neg h2]
  · rw [h, plF, cl_0, if_pos rfl]
def stF (σ : AH) (p : Nat) : Prop := ¬ zI σ 49 p ≤ zI σ 49 (p - 1)
noncomputable def stC (σ : AH) (p : Nat) : Int32 := jb (¬ zI σ 49 p ≤ zI σ 49 (p - 1))
theorem s_X12_isStop {g : GP} {σ : AH} {x : Int32} (hS : Sh σ) (hx : vp_in x 8) (h0 : ¬ x = 0) : Ct g mX12_isStop [.ref 33, .int x] σ (FQ σ (some (.int (jb (¬ zI σ 49 (Int32.toNatClampNeg x) ≤ zI σ 49 (Int32.toNatClampNeg x - 1)))))) := by
  obtain ⟨h1, h2, h3⟩ := vp_nz (n := 7) hx (by decide) h0
  have h4 : vp_in (x - 1) 8 := by rw [vp_in_iff] at h1 ⊢; omega
  refine Ct_of (by decide +kernel) rfl rfl (b_X12_isStop_0 hS hx h4 (fun h => fq_i ?_) (fun h => fq_i ?_))
  · rw [h2] at h; rw [jb_f (fun q => q h)]
  · rw [h2] at h; rw [jb_t h]
theorem vp_mul {a b : Int32} (ha : vp_in a 10) (hb : vp_in b 10) : vp_in (10 * a + b) 100 ∧ (10 * a + b).toNatClampNeg = a.toNatClampNeg * 10 + b.toNatClampNeg ∧ a * 10 + b = 10 * a + b := by
  obtain ⟨i, hi, rfl⟩ := vp_in_of ha (by decide)
  obtain ⟨k, hk, rfl⟩ := vp_in_of hb (by decide)
  have e : (10 : Int32) * nI i + nI k = nI (i * 10 + k) := by
    rw [show (10 : Int32) = nI 10 from rfl, pk_mul, nI_add]; congr 1; omega
  have e2 : nI i * 10 + nI k = nI (i * 10 + k) := by
    rw [show (10 : Int32) = nI 10 from rfl, pk_mul, nI_add]
  rw [e, e2, cl0 (by omega), cl0 (by omega), cl0 (by omega)]
  exact ⟨vp_in_nI (by omega) (by decide), rfl, rfl⟩
/-- miles between two places -/
def mi (σ : AH) (a b : Int32) : Int32 := zI σ 34 (Int32.toNatClampNeg a * 10 + Int32.toNatClampNeg b)
/-- what a part needs: fares' count, legs' places, the unit -/
def PO (σ : AH) : Prop := vp_in (zI σ 33 6) 41 ∧ (∀ k, k < 8 → vp_in (zI σ 46 k) 10 ∧ vp_in (zI σ 47 k) 10) ∧ 1 ≤ (zI σ 33 14).toInt ∧ (zI σ 33 14).toInt ≤ 1000
theorem PO_pl {σ : AH} (h : PO σ) {p : Nat} (hp : p < 9) : vp_in (plF σ p) 10 := by
  unfold plF
  split
  · exact (h.2.1 0 (by decide)).1
  · exact (h.2.1 (p - 1) (by omega)).2
theorem s_X12_milesOf {g : GP} {σ : AH} {x : Int32} (hS : Sh σ) (hP : PO σ) (hx : vp_in x 8) : Ct g mX12_milesOf [.ref 33, .int x] σ (FQ σ (some (.int (mi σ (zI σ 46 (Int32.toNatClampNeg x)) (zI σ 47 (Int32.toNatClampNeg x)))))) := by
  have hlt : x.toNatClampNeg < 8 := by
    obtain ⟨i, hi, rfl⟩ := vp_in_of hx (by decide)
    rw [cl0 (by omega)]; exact hi
  obtain ⟨h1, h2⟩ := hP.2.1 _ hlt
  obtain ⟨h3, h4, -⟩ := vp_mul h1 h2
  exact Ct_of (by decide +kernel) rfl rfl (b_X12_milesOf_0 hS hx h3 (fq_i (by rw [h4]; rfl)))
/-- the lowest fare among the first ones -/
def lowS (σ : AH) (a b s : Int32) (j : Nat) (f : Int32) : Int32 :=
  if zI σ 39 j = a ∧ zI σ 40 j = b ∧ isWi (zI σ 33 0) (zI σ 42 j) (zI σ 43 j) ∧ zI σ 45 j = 0 ∧ ¬ zI σ 44 j < s ∧ (f = -1 ∨ ¬ f ≤ zI σ 41 j) then zI σ 41 j else f
def lowF (σ : AH) (a b s : Int32) : Nat → Int32
  | 0 => -1
  | j + 1 => lowS σ a b s j (lowF σ a b s j)
set_option maxRecDepth 100000 in
set_option maxHeartbeats 4000000 in
theorem b_X12_lowest_0 {g : GP} {CX : State → Array Value → Prop} {E : ET} {v1 : Int32} {v2 : Int32} {v3 : Int32} {σ : AH}
    (k1 : V g mX12_lowest E CX 0 0 6 [(0, .ref 33), (1, .int v1), (2, .int v2), (3, .int v3), (4, .int (-1 : Int32)), (5, .int (0 : Int32))] [] σ) :
    V g mX12_lowest E CX 0 0 0 [(0, .ref 33), (1, .int v1), (2, .int v2), (3, .int v3)] [] σ := by
  refine V_iconst (-1 : Int32) dX12_lowest_0 (by decide) ?_
  refine V_istore [(0, .ref 33), (1, .int v1), (2, .int v2), (3, .int v3), (4, .int (-1 : Int32))] dX12_lowest_1 rfl rfl ?_
  refine V_iconst (0 : Int32) dX12_lowest_3 (by decide) ?_
  refine V_istore [(0, .ref 33), (1, .int v1), (2, .int v2), (3, .int v3), (4, .int (-1 : Int32)), (5, .int (0 : Int32))] dX12_lowest_4 rfl rfl ?_
  exact k1
set_option maxRecDepth 100000 in
set_option maxHeartbeats 4000000 in
theorem b_X12_lowest_6 {g : GP} {CX : State → Array Value → Prop} {Q : AH → Option Value → Prop} {X : AH → String → Prop} {v1 : Int32} {v2 : Int32} {v3 : Int32} {v4 : Int32} {v5 : Int32} {σ : AH}
    (hS : Sh σ)
    (k1 : ((zI σ 33 6) ≤ v5) → Q σ (some (.int v4)))
    (o1 : (¬ (zI σ 33 6) ≤ v5) → vp_in v5 40)
    (k2 : (¬ (zI σ 33 6) ≤ v5) → (¬ (zI σ 39 (Int32.toNatClampNeg v5)) = v1) → V g mX12_lowest (Em g mX12_lowest Q X) CX 0 0 6 [(0, .ref 33), (1, .int v1), (2, .int v2), (3, .int v3), (4, .int v4), (5, .int (v5 + (1 : Int32)))] [] σ)
    (k3 : (¬ (zI σ 33 6) ≤ v5) → ((zI σ 39 (Int32.toNatClampNeg v5)) = v1) → (¬ (zI σ 40 (Int32.toNatClampNeg v5)) = v2) → V g mX12_lowest (Em g mX12_lowest Q X) CX 0 0 6 [(0, .ref 33), (1, .int v1), (2, .int v2), (3, .int v3), (4, .int v4), (5, .int (v5 + (1 : Int32)))] [] σ)
    (k4 : (¬ (zI σ 33 6) ≤ v5) → ((zI σ 39 (Int32.toNatClampNeg v5)) = v1) → ((zI σ 40 (Int32.toNatClampNeg v5)) = v2) → (¬ (isWi (zI σ 33 0) (zI σ 42 (Int32.toNatClampNeg v5)) (zI σ 43 (Int32.toNatClampNeg v5)))) → V g mX12_lowest (Em g mX12_lowest Q X) CX 0 0 6 [(0, .ref 33), (1, .int v1), (2, .int v2), (3, .int v3), (4, .int v4), (5, .int (v5 + (1 : Int32)))] [] σ)
    (k5 : (¬ (zI σ 33 6) ≤ v5) → ((zI σ 39 (Int32.toNatClampNeg v5)) = v1) → ((zI σ 40 (Int32.toNatClampNeg v5)) = v2) → (isWi (zI σ 33 0) (zI σ 42 (Int32.toNatClampNeg v5)) (zI σ 43 (Int32.toNatClampNeg v5))) → (¬ (zI σ 45 (Int32.toNatClampNeg v5)) = 0) → V g mX12_lowest (Em g mX12_lowest Q X) CX 0 0 6 [(0, .ref 33), (1, .int v1), (2, .int v2), (3, .int v3), (4, .int v4), (5, .int (v5 + (1 : Int32)))] [] σ)
    (k6 : (¬ (zI σ 33 6) ≤ v5) → ((zI σ 39 (Int32.toNatClampNeg v5)) = v1) → ((zI σ 40 (Int32.toNatClampNeg v5)) = v2) → (isWi (zI σ 33 0) (zI σ 42 (Int32.toNatClampNeg v5)) (zI σ 43 (Int32.toNatClampNeg v5))) → ((zI σ 45 (Int32.toNatClampNeg v5)) = 0) → ((zI σ 44 (Int32.toNatClampNeg v5)) < v3) → V g mX12_lowest (Em g mX12_lowest Q X) CX 0 0 6 [(0, .ref 33), (1, .int v1), (2, .int v2), (3, .int v3), (4, .int v4), (5, .int (v5 + (1 : Int32)))] [] σ)
    (k7 : (¬ (zI σ 33 6) ≤ v5) → ((zI σ 39 (Int32.toNatClampNeg v5)) = v1) → ((zI σ 40 (Int32.toNatClampNeg v5)) = v2) → (isWi (zI σ 33 0) (zI σ 42 (Int32.toNatClampNeg v5)) (zI σ 43 (Int32.toNatClampNeg v5))) → ((zI σ 45 (Int32.toNatClampNeg v5)) = 0) → (¬ (zI σ 44 (Int32.toNatClampNeg v5)) < v3) → (v4 = (-1 : Int32)) → V g mX12_lowest (Em g mX12_lowest Q X) CX 0 0 6 [(0, .ref 33), (1, .int v1), (2, .int v2), (3, .int v3), (4, .int (zI σ 41 (Int32.toNatClampNeg v5))), (5, .int (v5 + (1 : Int32)))] [] σ)
    (k8 : (¬ (zI σ 33 6) ≤ v5) → ((zI σ 39 (Int32.toNatClampNeg v5)) = v1) → ((zI σ 40 (Int32.toNatClampNeg v5)) = v2) → (isWi (zI σ 33 0) (zI σ 42 (Int32.toNatClampNeg v5)) (zI σ 43 (Int32.toNatClampNeg v5))) → ((zI σ 45 (Int32.toNatClampNeg v5)) = 0) → (¬ (zI σ 44 (Int32.toNatClampNeg v5)) < v3) → (¬ v4 = (-1 : Int32)) → (v4 ≤ (zI σ 41 (Int32.toNatClampNeg v5))) → V g mX12_lowest (Em g mX12_lowest Q X) CX 0 0 6 [(0, .ref 33), (1, .int v1), (2, .int v2), (3, .int v3), (4, .int v4), (5, .int (v5 + (1 : Int32)))] [] σ)
    (k9 : (¬ (zI σ 33 6) ≤ v5) → ((zI σ 39 (Int32.toNatClampNeg v5)) = v1) → ((zI σ 40 (Int32.toNatClampNeg v5)) = v2) → (isWi (zI σ 33 0) (zI σ 42 (Int32.toNatClampNeg v5)) (zI σ 43 (Int32.toNatClampNeg v5))) → ((zI σ 45 (Int32.toNatClampNeg v5)) = 0) → (¬ (zI σ 44 (Int32.toNatClampNeg v5)) < v3) → (¬ v4 = (-1 : Int32)) → (¬ v4 ≤ (zI σ 41 (Int32.toNatClampNeg v5))) → V g mX12_lowest (Em g mX12_lowest Q X) CX 0 0 6 [(0, .ref 33), (1, .int v1), (2, .int v2), (3, .int v3), (4, .int (zI σ 41 (Int32.toNatClampNeg v5))), (5, .int (v5 + (1 : Int32)))] [] σ) :
    V g mX12_lowest (Em g mX12_lowest Q X) CX 0 0 6 [(0, .ref 33), (1, .int v1), (2, .int v2), (3, .int v3), (4, .int v4), (5, .int v5)] [] σ := by
  refine V_iload dX12_lowest_6 rfl ?_
  refine V_aload_n dX12_lowest_8 rfl ?_
  refine V_getf (fk := 6) (Value.int (zI σ 33 6)) ko_X12 rfl w_1061 dX12_lowest_9 (by decide) (shk hS 33 rfl) rfl ?_
  refine V_icmp_ge 132 dX12_lowest_12 rfl (fun c1 => ?_) (fun c1 => ?_)
  · refine V_iload dX12_lowest_132 rfl ?_
    exact V_iret rfl dX12_lowest_134 (k1 c1)
  · refine V_aload_n dX12_lowest_15 rfl ?_
    refine V_getf (fk := 7) (Value.ref 39) ko_X12 rfl w_1062 dX12_lowest_16 (by decide) (shk hS 33 rfl) (congrArg Value.ref (shr hS 33 7 39 (by decide))) ?_
    refine V_iload dX12_lowest_19 rfl ?_
    refine V_iald dX12_lowest_21 (by decide) (shk hS 39 rfl) (vp_l (n := 40) (shl hS 39 rfl) (o1 c1)) ?_
    refine V_iload_n dX12_lowest_22 rfl ?_
    refine V_icmp_ne 86 dX12_lowest_23 rfl (fun c2 => ?_) (fun c2 => ?_)
    · refine V_iconst (0 : Int32) dX12_lowest_86 (by decide) ?_
      refine V_istore [(0, .ref 33), (1, .int v1), (2, .int v2), (3, .int v3), (4, .int v4), (5, .int v5), (6, .int (0 : Int32))] dX12_lowest_87 rfl rfl ?_
      refine V_iload dX12_lowest_89 rfl ?_
      refine V_if_eq 122 dX12_lowest_91 rfl (fun _ => ?_) (fun z_ => (by first | exact absurd (by decide) z_ | exact absurd z_ (by decide)))
      refine V_iload dX12_lowest_122 rfl ?_
      refine V_istore [(0, .ref 33), (1, .int v1), (2, .int v2), (3, .int v3), (4, .int v4), (5, .int v5), (6, .int (0 : Int32))] dX12_lowest_124 rfl rfl ?_
      refine V_iinc (v5 + (1 : Int32)) [(0, .ref 33), (1, .int v1), (2, .int v2), (3, .int v3), (4, .int v4), (5, .int (v5 + (1 : Int32))), (6, .int (0 : Int32))] dX12_lowest_126 rfl rfl rfl rfl ?_
      refine V_goto 6 dX12_lowest_129 rfl ?_
      exact V_less (mm_keep (mm_keep (mm_keep (mm_keep (mm_keep (mm_keep (mm_drop mm_nil))))))) (by decide) (by decide) (k2 c1 c2)
    · refine V_aload_n dX12_lowest_26 rfl ?_
      refine V_getf (fk := 8) (Value.ref 40) ko_X12 rfl w_1063 dX12_lowest_27 (by decide) (shk hS 33 rfl) (congrArg Value.ref (shr hS 33 8 40 (by decide))) ?_
      refine V_iload dX12_lowest_30 rfl ?_
      refine V_iald dX12_lowest_32 (by decide) (shk hS 40 rfl) (vp_l (n := 40) (shl hS 40 rfl) (o1 c1)) ?_
      refine V_iload_n dX12_lowest_33 rfl ?_
      refine V_icmp_ne 86 dX12_lowest_34 rfl (fun c3 => ?_) (fun c3 => ?_)
      · refine V_iconst (0 : Int32) dX12_lowest_86 (by decide) ?_
        refine V_istore [(0, .ref 33), (1, .int v1), (2, .int v2), (3, .int v3), (4, .int v4), (5, .int v5), (6, .int (0 : Int32))] dX12_lowest_87 rfl rfl ?_
        refine V_iload dX12_lowest_89 rfl ?_
        refine V_if_eq 122 dX12_lowest_91 rfl (fun _ => ?_) (fun z_ => (by first | exact absurd (by decide) z_ | exact absurd z_ (by decide)))
        refine V_iload dX12_lowest_122 rfl ?_
        refine V_istore [(0, .ref 33), (1, .int v1), (2, .int v2), (3, .int v3), (4, .int v4), (5, .int v5), (6, .int (0 : Int32))] dX12_lowest_124 rfl rfl ?_
        refine V_iinc (v5 + (1 : Int32)) [(0, .ref 33), (1, .int v1), (2, .int v2), (3, .int v3), (4, .int v4), (5, .int (v5 + (1 : Int32))), (6, .int (0 : Int32))] dX12_lowest_126 rfl rfl rfl rfl ?_
        refine V_goto 6 dX12_lowest_129 rfl ?_
        exact V_less (mm_keep (mm_keep (mm_keep (mm_keep (mm_keep (mm_keep (mm_drop mm_nil))))))) (by decide) (by decide) (k3 c1 c2 c3)
      · refine V_aload_n dX12_lowest_37 rfl ?_
        refine V_getf (fk := 0) (Value.int (zI σ 33 0)) ko_X12 rfl w_1055 dX12_lowest_38 (by decide) (shk hS 33 rfl) rfl ?_
        refine V_aload_n dX12_lowest_41 rfl ?_
        refine V_getf (fk := 10) (Value.ref 42) ko_X12 rfl w_1065 dX12_lowest_42 (by decide) (shk hS 33 rfl) (congrArg Value.ref (shr hS 33 10 42 (by decide))) ?_
        refine V_iload dX12_lowest_45 rfl ?_
        refine V_iald dX12_lowest_47 (by decide) (shk hS 42 rfl) (vp_l (n := 40) (shl hS 42 rfl) (o1 c1)) ?_
        refine V_aload_n dX12_lowest_48 rfl ?_
        refine V_getf (fk := 11) (Value.ref 43) ko_X12 rfl w_1066 dX12_lowest_49 (by decide) (shk hS 33 rfl) (congrArg Value.ref (shr hS 33 11 43 (by decide))) ?_
        refine V_iload dX12_lowest_52 rfl ?_
        refine V_iald dX12_lowest_54 (by decide) (shk hS 43 rfl) (vp_l (n := 40) (shl hS 43 rfl) (o1 c1)) ?_
        refine V_callS1 (as := [.int (zI σ 33 0), .int (zI σ 42 (Int32.toNatClampNeg v5)), .int (zI σ 43 (Int32.toNatClampNeg v5))]) (k' := 0) (n' := 0) (s_X12_in) mw_X12_in w_1219 w_1218 ar_X12_in rfl ⟨rfl, rfl, rfl, rfl, rfl⟩ dX12_lowest_55 ?_
        refine V_if_eq 86 dX12_lowest_58 rfl (fun c4 => ?_) (fun c4 => ?_)
        · replace c4 := jb_0.mp c4
          refine V_iconst (0 : Int32) dX12_lowest_86 (by decide) ?_
          refine V_istore [(0, .ref 33), (1, .int v1), (2, .int v2), (3, .int v3), (4, .int v4), (5, .int v5), (6, .int (0 : Int32))] dX12_lowest_87 rfl rfl ?_
          refine V_iload dX12_lowest_89 rfl ?_
          refine V_if_eq 122 dX12_lowest_91 rfl (fun _ => ?_) (fun z_ => (by first | exact absurd (by decide) z_ | exact absurd z_ (by decide)))
          refine V_iload dX12_lowest_122 rfl ?_
          refine V_istore [(0, .ref 33), (1, .int v1), (2, .int v2), (3, .int v3), (4, .int v4), (5, .int v5), (6, .int (0 : Int32))] dX12_lowest_124 rfl rfl ?_
          refine V_iinc (v5 + (1 : Int32)) [(0, .ref 33), (1, .int v1), (2, .int v2), (3, .int v3), (4, .int v4), (5, .int (v5 + (1 : Int32))), (6, .int (0 : Int32))] dX12_lowest_126 rfl rfl rfl rfl ?_
          refine V_goto 6 dX12_lowest_129 rfl ?_
          exact V_less (mm_keep (mm_keep (mm_keep (mm_keep (mm_keep (mm_keep (mm_drop mm_nil))))))) (by decide) (by decide) (k4 c1 c2 c3 c4)
        · replace c4 := jb_n.mp c4
          refine V_aload_n dX12_lowest_61 rfl ?_
          refine V_getf (fk := 13) (Value.ref 45) ko_X12 rfl w_1068 dX12_lowest_62 (by decide) (shk hS 33 rfl) (congrArg Value.ref (shr hS 33 13 45 (by decide))) ?_
          refine V_iload dX12_lowest_65 rfl ?_
          refine V_zald dX12_lowest_67 (by decide) (shk hS 45 rfl) (vp_l (n := 40) (shl hS 45 rfl) (o1 c1)) ?_
          refine V_if_ne 86 dX12_lowest_68 rfl (fun c5 => ?_) (fun c5 => ?_)
          · refine V_iconst (0 : Int32) dX12_lowest_86 (by decide) ?_
            refine V_istore [(0, .ref 33), (1, .int v1), (2, .int v2), (3, .int v3), (4, .int v4), (5, .int v5), (6, .int (0 : Int32))] dX12_lowest_87 rfl rfl ?_
            refine V_iload dX12_lowest_89 rfl ?_
            refine V_if_eq 122 dX12_lowest_91 rfl (fun _ => ?_) (fun z_ => (by first | exact absurd (by decide) z_ | exact absurd z_ (by decide)))
            refine V_iload dX12_lowest_122 rfl ?_
            refine V_istore [(0, .ref 33), (1, .int v1), (2, .int v2), (3, .int v3), (4, .int v4), (5, .int v5), (6, .int (0 : Int32))] dX12_lowest_124 rfl rfl ?_
            refine V_iinc (v5 + (1 : Int32)) [(0, .ref 33), (1, .int v1), (2, .int v2), (3, .int v3), (4, .int v4), (5, .int (v5 + (1 : Int32))), (6, .int (0 : Int32))] dX12_lowest_126 rfl rfl rfl rfl ?_
            refine V_goto 6 dX12_lowest_129 rfl ?_
            exact V_less (mm_keep (mm_keep (mm_keep (mm_keep (mm_keep (mm_keep (mm_drop mm_nil))))))) (by decide) (by decide) (k5 c1 c2 c3 c4 c5)
          · refine V_aload_n dX12_lowest_71 rfl ?_
            refine V_getf (fk := 12) (Value.ref 44) ko_X12 rfl w_1067 dX12_lowest_72 (by decide) (shk hS 33 rfl) (congrArg Value.ref (shr hS 33 12 44 (by decide))) ?_
            refine V_iload dX12_lowest_75 rfl ?_
            refine V_iald dX12_lowest_77 (by decide) (shk hS 44 rfl) (vp_l (n := 40) (shl hS 44 rfl) (o1 c1)) ?_
            refine V_iload_n dX12_lowest_78 rfl ?_
            refine V_icmp_lt 86 dX12_lowest_79 rfl (fun c6 => ?_) (fun c6 => ?_)
            · refine V_iconst (0 : Int32) dX12_lowest_86 (by decide) ?_
              refine V_istore [(0, .ref 33), (1, .int v1), (2, .int v2), (3, .int v3), (4, .int v4), (5, .int v5), (6, .int (0 : Int32))] dX12_lowest_87 rfl rfl ?_
              refine V_iload dX12_lowest_89 rfl ?_
              refine V_if_eq 122 dX12_lowest_91 rfl (fun _ => ?_) (fun z_ => (by first | exact absurd (by decide) z_ | exact absurd z_ (by decide)))
              refine V_iload dX12_lowest_122 rfl ?_
              refine V_istore [(0, .ref 33), (1, .int v1), (2, .int v2), (3, .int v3), (4, .int v4), (5, .int v5), (6, .int (0 : Int32))] dX12_lowest_124 rfl rfl ?_
              refine V_iinc (v5 + (1 : Int32)) [(0, .ref 33), (1, .int v1), (2, .int v2), (3, .int v3), (4, .int v4), (5, .int (v5 + (1 : Int32))), (6, .int (0 : Int32))] dX12_lowest_126 rfl rfl rfl rfl ?_
              refine V_goto 6 dX12_lowest_129 rfl ?_
              exact V_less (mm_keep (mm_keep (mm_keep (mm_keep (mm_keep (mm_keep (mm_drop mm_nil))))))) (by decide) (by decide) (k6 c1 c2 c3 c4 c5 c6)
            · refine V_iconst (1 : Int32) dX12_lowest_82 (by decide) ?_
              refine V_goto 87 dX12_lowest_83 rfl ?_
              refine V_istore [(0, .ref 33), (1, .int v1), (2, .int v2), (3, .int v3), (4, .int v4), (5, .int v5), (6, .int (1 : Int32))] dX12_lowest_87 rfl rfl ?_
              refine V_iload dX12_lowest_89 rfl ?_
              refine V_if_eq 122 dX12_lowest_91 rfl (fun z_ => (by first | exact absurd (by decide) z_ | exact absurd z_ (by decide))) (fun _ => ?_)
              refine V_iload dX12_lowest_94 rfl ?_
              refine V_iconst (-1 : Int32) dX12_lowest_96 (by decide) ?_
              refine V_icmp_eq 112 dX12_lowest_97 rfl (fun c7 => ?_) (fun c7 => ?_)
              · refine V_aload_n dX12_lowest_112 rfl ?_
                refine V_getf (fk := 9) (Value.ref 41) ko_X12 rfl w_1064 dX12_lowest_113 (by decide) (shk hS 33 rfl) (congrArg Value.ref (shr hS 33 9 41 (by decide))) ?_
                refine V_iload dX12_lowest_116 rfl ?_
                refine V_iald dX12_lowest_118 (by decide) (shk hS 41 rfl) (vp_l (n := 40) (shl hS 41 rfl) (o1 c1)) ?_
                refine V_goto 124 dX12_lowest_119 rfl ?_
                refine V_istore [(0, .ref 33), (1, .int v1), (2, .int v2), (3, .int v3), (4, .int (zI σ 41 (Int32.toNatClampNeg v5))), (5, .int v5), (6, .int (1 : Int32))] dX12_lowest_124 rfl rfl ?_
                refine V_iinc (v5 + (1 : Int32)) [(0, .ref 33), (1, .int v1), (2, .int v2), (3, .int v3), (4, .int (zI σ 41 (Int32.toNatClampNeg v5))), (5, .int (v5 + (1 : Int32))), (6, .int (1 : Int32))] dX12_lowest_126 rfl rfl rfl rfl ?_
                refine V_goto 6 dX12_lowest_129 rfl ?_
                exact V_less (mm_keep (mm_keep (mm_keep (mm_keep (mm_keep (mm_keep (mm_drop mm_nil))))))) (by decide) (by decide) (k7 c1 c2 c3 c4 c5 c6 c7)
              · refine V_aload_n dX12_lowest_100 rfl ?_
                refine V_getf (fk := 9) (Value.ref 41) ko_X12 rfl w_1064 dX12_lowest_101 (by decide) (shk hS 33 rfl) (congrArg Value.ref (shr hS 33 9 41 (by decide))) ?_
                refine V_iload dX12_lowest_104 rfl ?_
                refine V_iald dX12_lowest_106 (by decide) (shk hS 41 rfl) (vp_l (n := 40) (shl hS 41 rfl) (o1 c1)) ?_
                refine V_iload dX12_lowest_107 rfl ?_
                refine V_icmp_ge 122 dX12_lowest_109 rfl (fun c8 => ?_) (fun c8 => ?_)
                · refine V_iload dX12_lowest_122 rfl ?_
                  refine V_istore [(0, .ref 33), (1, .int v1), (2, .int v2), (3, .int v3), (4, .int v4), (5, .int v5), (6, .int (1 : Int32))] dX12_lowest_124 rfl rfl ?_
                  refine V_iinc (v5 + (1 : Int32)) [(0, .ref 33), (1, .int v1), (2, .int v2), (3, .int v3), (4, .int v4), (5, .int (v5 + (1 : Int32))), (6, .int (1 : Int32))] dX12_lowest_126 rfl rfl rfl rfl ?_
                  refine V_goto 6 dX12_lowest_129 rfl ?_
                  exact V_less (mm_keep (mm_keep (mm_keep (mm_keep (mm_keep (mm_keep (mm_drop mm_nil))))))) (by decide) (by decide) (k8 c1 c2 c3 c4 c5 c6 c7 c8)
                · refine V_aload_n dX12_lowest_112 rfl ?_
                  refine V_getf (fk := 9) (Value.ref 41) ko_X12 rfl w_1064 dX12_lowest_113 (by decide) (shk hS 33 rfl) (congrArg Value.ref (shr hS 33 9 41 (by decide))) ?_
                  refine V_iload dX12_lowest_116 rfl ?_
                  refine V_iald dX12_lowest_118 (by decide) (shk hS 41 rfl) (vp_l (n := 40) (shl hS 41 rfl) (o1 c1)) ?_
                  refine V_goto 124 dX12_lowest_119 rfl ?_
                  refine V_istore [(0, .ref 33), (1, .int v1), (2, .int v2), (3, .int v3), (4, .int (zI σ 41 (Int32.toNatClampNeg v5))), (5, .int v5), (6, .int (1 : Int32))] dX12_lowest_124 rfl rfl ?_
                  refine V_iinc (v5 + (1 : Int32)) [(0, .ref 33), (1, .int v1), (2, .int v2), (3, .int v3), (4, .int (zI σ 41 (Int32.toNatClampNeg v5))), (5, .int (v5 + (1 : Int32))), (6, .int (1 : Int32))] dX12_lowest_126 rfl rfl rfl rfl ?_
                  refine V_goto 6 dX12_lowest_129 rfl ?_
                  exact V_less (mm_keep (mm_keep (mm_keep (mm_keep (mm_keep (mm_keep (mm_drop mm_nil))))))) (by decide) (by decide) (k9 c1 c2 c3 c4 c5 c6 c7 c8)

theorem s_X12_lowest {g : GP} {σ : AH} {a b s : Int32} {nf : Nat} (hS : Sh σ) (hf : zI σ 33 6 = nI nf) (hn : nf ≤ 40) : Ct g mX12_lowest [.ref 33, .int a, .int b, .int s] σ (FQ σ (some (.int (lowF σ a b s nf)))) := by
  refine Ct_of (by decide +kernel) rfl rfl (b_X12_lowest_0 ?_)
  refine up_loop (P := fun j => V g mX12_lowest (Em g mX12_lowest (FQ σ (some (.int (lowF σ a b s nf)))) NX) CT 0 0 6 [(0, .ref 33), (1, .int a), (2, .int b), (3, .int s), (4, .int (lowF σ a b s j)), (5, .int (nI j))] [] σ) nf ?_ ?_ 0 (Nat.zero_le _)
  · have hle : zI σ 33 6 ≤ nI nf := by rw [hf]; exact Int32.le_refl _
    exact b_X12_lowest_6 hS (fun _ => fq) (fun c => absurd hle c) (fun c => absurd hle c) (fun c => absurd hle c) (fun c => absurd hle c) (fun c => absurd hle c) (fun c => absurd hle c) (fun c => absurd hle c) (fun c => absurd hle c) (fun c => absurd hle c)
  · intro j hj ih
    have hlt : ¬ zI σ 33 6 ≤ nI j := by rw [hf]; exact nI_ge hj (by omega)
    have hc : (nI j).toNatClampNeg = j := cl0 (by omega)
    refine b_X12_lowest_6 hS (fun c => absurd c hlt) (fun _ => vp_in_nI (by omega) (by decide)) ?_ ?_ ?_ ?_ ?_ ?_ ?_ ?_
    all_goals
      intros
      simp only [hc] at *
      refine V_cast ?_ rfl rfl ih
      rw [nI_1]
      simp [lowF, lowS, *]
abbrev ixx (x : Int32) : Nat := Int32.toNatClampNeg x
def lowA (σ : AH) (a b s : Int32) : Int32 := lowF σ a b s (Int32.toNatClampNeg (zI σ 33 6))
theorem s_X12_lowest' {g : GP} {σ : AH} {a b s : Int32} (hS : Sh σ) (hf : vp_in (zI σ 33 6) 41) : Ct g mX12_lowest [.ref 33, .int a, .int b, .int s] σ (FQ σ (some (.int (lowA σ a b s)))) := by
  obtain ⟨nf, h1, h2⟩ := vp_in_of hf (by decide)
  have e : lowA σ a b s = lowF σ a b s nf := by rw [lowA, h2, cl0 (by omega)]
  rw [e]
  exact s_X12_lowest hS h2 (by omega)
/-- stops at the points behind i, as many as d -/
def stN (σ : AH) (i : Nat) : Nat → Int32
  | 0 => 0
  | d + 1 => stN σ i d + jb (¬ zI σ 49 (i + 1 + d) ≤ zI σ 49 (i + d))
set_option maxRecDepth 100000 in
set_option maxHeartbeats 4000000 in
theorem b_X12_stopsIn_0 {g : GP} {CX : State → Array Value → Prop} {E : ET} {v1 : Int32} {v2 : Int32} {σ : AH}
    (k1 : V g mX12_stopsIn E CX 0 0 7 [(0, .ref 33), (1, .int v1), (2, .int v2), (3, .int (0 : Int32)), (4, .int (v1 + (1 : Int32)))] [] σ) :
    V g mX12_stopsIn E CX 0 0 0 [(0, .ref 33), (1, .int v1), (2, .int v2)] [] σ := by
  refine V_iconst (0 : Int32) dX12_stopsIn_0 (by decide) ?_
  refine V_istore_n [(0, .ref 33), (1, .int v1), (2, .int v2), (3, .int (0 : Int32))] dX12_stopsIn_1 rfl rfl ?_
  refine V_iload_n dX12_stopsIn_2 rfl ?_
  refine V_iconst (1 : Int32) dX12_stopsIn_3 (by decide) ?_
  refine V_iadd dX12_stopsIn_4 ?_
  refine V_istore [(0, .ref 33), (1, .int v1), (2, .int v2), (3, .int (0 : Int32)), (4, .int (v1 + (1 : Int32)))] dX12_stopsIn_5 rfl rfl ?_
  exact k1
set_option maxRecDepth 100000 in
set_option maxHeartbeats 4000000 in
theorem b_X12_stopsIn_7 {g : GP} {CX : State → Array Value → Prop} {Q : AH → Option Value → Prop} {X : AH → String → Prop} {v1 : Int32} {v2 : Int32} {v3 : Int32} {v4 : Int32} {σ : AH}
    (hS : Sh σ)
    (k1 : (v2 ≤ v4) → Q σ (some (.int v3)))
    (o1 : (¬ v2 ≤ v4) → vp_in v4 8)
    (o2 : (¬ v2 ≤ v4) → ¬ v4 = 0)
    (k2 : (¬ v2 ≤ v4) → (¬ (¬ zI σ 49 (Int32.toNatClampNeg v4) ≤ zI σ 49 (Int32.toNatClampNeg v4 - 1))) → V g mX12_stopsIn (Em g mX12_stopsIn Q X) CX 0 0 7 [(0, .ref 33), (1, .int v1), (2, .int v2), (3, .int (v3 + (0 : Int32))), (4, .int (v4 + (1 : Int32)))] [] σ)
    (k3 : (¬ v2 ≤ v4) → (¬ zI σ 49 (Int32.toNatClampNeg v4) ≤ zI σ 49 (Int32.toNatClampNeg v4 - 1)) → V g mX12_stopsIn (Em g mX12_stopsIn Q X) CX 0 0 7 [(0, .ref 33), (1, .int v1), (2, .int v2), (3, .int (v3 + (1 : Int32))), (4, .int (v4 + (1 : Int32)))] [] σ) :
    V g mX12_stopsIn (Em g mX12_stopsIn Q X) CX 0 0 7 [(0, .ref 33), (1, .int v1), (2, .int v2), (3, .int v3), (4, .int v4)] [] σ := by
  refine V_iload dX12_stopsIn_7 rfl ?_
  refine V_iload_n dX12_stopsIn_9 rfl ?_
  refine V_icmp_ge 36 dX12_stopsIn_10 rfl (fun c1 => ?_) (fun c1 => ?_)
  · refine V_iload_n dX12_stopsIn_36 rfl ?_
    exact V_iret rfl dX12_stopsIn_37 (k1 c1)
  · refine V_iload_n dX12_stopsIn_13 rfl ?_
    refine V_aload_n dX12_stopsIn_14 rfl ?_
    refine V_iload dX12_stopsIn_15 rfl ?_
    refine V_callV1 (as := [.int v4]) (k' := 0) (n' := 0) (s_X12_isStop hS (o1 c1) (o2 c1)) mw_X12_isStop ko_X12 rfl w_1287 w_25 w_1285 ar_X12_isStop rfl ⟨rfl, rfl, rfl, rfl, rfl⟩ dX12_stopsIn_17 (by decide) (shk hS 33 rfl) ?_
    refine V_if_eq 27 dX12_stopsIn_20 rfl (fun c2 => ?_) (fun c2 => ?_)
    · replace c2 := jb_0.mp c2
      refine V_iconst (0 : Int32) dX12_stopsIn_27 (by decide) ?_
      refine V_iadd dX12_stopsIn_28 ?_
      refine V_istore_n [(0, .ref 33), (1, .int v1), (2, .int v2), (3, .int (v3 + (0 : Int32))), (4, .int v4)] dX12_stopsIn_29 rfl rfl ?_
      refine V_iinc (v4 + (1 : Int32)) [(0, .ref 33), (1, .int v1), (2, .int v2), (3, .int (v3 + (0 : Int32))), (4, .int (v4 + (1 : Int32)))] dX12_stopsIn_30 rfl rfl rfl rfl ?_
      refine V_goto 7 dX12_stopsIn_33 rfl ?_
      exact (k2 c1 c2)
    · replace c2 := jb_n.mp c2
      refine V_iconst (1 : Int32) dX12_stopsIn_23 (by decide) ?_
      refine V_goto 28 dX12_stopsIn_24 rfl ?_
      refine V_iadd dX12_stopsIn_28 ?_
      refine V_istore_n [(0, .ref 33), (1, .int v1), (2, .int v2), (3, .int (v3 + (1 : Int32))), (4, .int v4)] dX12_stopsIn_29 rfl rfl ?_
      refine V_iinc (v4 + (1 : Int32)) [(0, .ref 33), (1, .int v1), (2, .int v2), (3, .int (v3 + (1 : Int32))), (4, .int (v4 + (1 : Int32)))] dX12_stopsIn_30 rfl rfl rfl rfl ?_
      refine V_goto 7 dX12_stopsIn_33 rfl ?_
      exact (k3 c1 c2)

theorem s_X12_stopsIn {g : GP} {σ : AH} {x y : Int32} (hS : Sh σ) (hx : vp_in x 9) (hy : vp_in y 9) : Ct g mX12_stopsIn [.ref 33, .int x, .int y] σ (FQ σ (some (.int (stN σ (Int32.toNatClampNeg x) (Int32.toNatClampNeg y - (Int32.toNatClampNeg x + 1)))))) := by
  obtain ⟨i, hi, rfl⟩ := vp_in_of hx (by decide)
  obtain ⟨k, hk, rfl⟩ := vp_in_of hy (by decide)
  rw [cl0 (by omega), cl0 (by omega)]
  refine Ct_of (by decide +kernel) rfl rfl (b_X12_stopsIn_0 ?_)
  rw [nI_1]
  refine up_loop (P := fun d => V g mX12_stopsIn (Em g mX12_stopsIn (FQ σ (some (.int (stN σ i (k - (i + 1)))))) NX) CT 0 0 7 [(0, .ref 33), (1, .int (nI i)), (2, .int (nI k)), (3, .int (stN σ i d)), (4, .int (nI (i + 1 + d)))] [] σ) (k - (i + 1)) ?_ ?_ 0 (Nat.zero_le _)
  · have hle : nI k ≤ nI (i + 1 + (k - (i + 1))) := nI_le (by omega) (by omega)
    exact b_X12_stopsIn_7 hS (fun _ => fq) (fun c => absurd hle c) (fun c => absurd hle c) (fun c => absurd hle c) (fun c => absurd hle c)
  · intro d hd ih
    have hlt : ¬ nI k ≤ nI (i + 1 + d) := nI_ge (by omega) (by omega)
    have hc : (nI (i + 1 + d)).toNatClampNeg = i + 1 + d := cl0 (by omega)
    rw [show i + 1 + (d + 1) = i + 1 + d + 1 from rfl] at ih
    refine b_X12_stopsIn_7 hS (fun c => absurd c hlt) (fun _ => vp_in_nI (by omega) (by decide)) (fun _ => nI_ne0 (by omega) (by omega)) ?_ ?_
    all_goals
      intro _ c
      simp only [hc, show i + 1 + d - 1 = i + d by omega] at *
      refine V_cast ?_ rfl rfl ih
      rw [nI_1]
      simp [stN, jb, c]
/-- the miles of the legs from i on, as many as d -/
def mlN (σ : AH) (i : Nat) : Nat → Int32
  | 0 => 0
  | d + 1 => mlN σ i d + mi σ (zI σ 46 (i + d)) (zI σ 47 (i + d))
/-- the greatest of base and the lowest fares to the points behind i, as many as d -/
def hiN (σ : AH) (a : Int32) (i : Nat) (base : Int32) : Nat → Int32
  | 0 => base
  | d + 1 => if lowA σ a (plF σ (i + 1 + d)) 0 ≤ hiN σ a i base d then hiN σ a i base d else lowA σ a (plF σ (i + 1 + d)) 0
/-- the surcharge -/
def moreF (al all : Int32) : Int32 :=
  if all ≤ al * (100 + 0) / 100 then 0 else if all ≤ al * (100 + 5) / 100 then 5 else if all ≤ al * (100 + 10) / 100 then 10 else if all ≤ al * (100 + 15) / 100 then 15 else if all ≤ al * (100 + 20) / 100 then 20 else 25
def upF (σ : AH) (base more : Int32) : Int32 := (base * (100 + more) + 100 * zI σ 33 14 - 1) / (100 * zI σ 33 14) * zI σ 33 14
/-- the price of a part -/
def partF (σ : AH) (i j : Nat) : Int32 :=
  if lowA σ (plF σ i) (plF σ j) 0 = -1 then -1 else
  if lowA σ (plF σ i) (plF σ j) (stN σ i (j - (i + 1))) = -1 then -2 else
  if mi σ (plF σ i) (plF σ j) = 0 ∨ ¬ mlN σ i (j - i) ≤ mi σ (plF σ i) (plF σ j) * 120 / 100 * 125 / 100 then -3 else
  upF σ (hiN σ (plF σ i) i (lowA σ (plF σ i) (plF σ j) (stN σ i (j - (i + 1)))) (j - (i + 1))) (moreF (mi σ (plF σ i) (plF σ j) * 120 / 100) (mlN σ i (j - i)))
theorem unit_nz {σ : AH} (h : PO σ) : ¬ (100 : Int32) * zI σ 33 14 = 0 := by
  obtain ⟨u, hu⟩ : ∃ u : Nat, zI σ 33 14 = nI u ∧ 1 ≤ u ∧ u ≤ 1000 := by
    have h1 := h.2.2
    refine ⟨(zI σ 33 14).toInt.toNat, ?_, by omega, by omega⟩
    apply Int32.toInt_inj.mp
    rw [nI_toInt (by omega)]
    omega
  rw [hu.1, show (100 : Int32) = nI 100 from rfl, pk_mul]
  exact nI_ne0 (by omega) (by omega)
set_option maxRecDepth 100000 in
set_option maxHeartbeats 4000000 in
theorem b_X12_partOf_0 {g : GP} {CX : State → Array Value → Prop} {Q : AH → Option Value → Prop} {X : AH → String → Prop} {v1 : Int32} {v2 : Int32} {σ : AH}
    (hS : Sh σ)
    (o1 : vp_in v1 9)
    (o2 : vp_in v2 9)
    (o3 : vp_in (zI σ 33 6) 41)
    (o4 : (¬ (lowA σ (plF σ (Int32.toNatClampNeg v1)) (plF σ (Int32.toNatClampNeg v2)) (0 : Int32)) = (-1 : Int32)) → (¬ (lowA σ (plF σ (Int32.toNatClampNeg v1)) (plF σ (Int32.toNatClampNeg v2)) (stN σ (Int32.toNatClampNeg v1) (Int32.toNatClampNeg v2 - (Int32.toNatClampNeg v1 + 1)))) = (-1 : Int32)) → vp_in (((10 : Int32) * (plF σ (Int32.toNatClampNeg v1))) + (plF σ (Int32.toNatClampNeg v2))) 100)
    (k1 : (¬ (lowA σ (plF σ (Int32.toNatClampNeg v1)) (plF σ (Int32.toNatClampNeg v2)) (0 : Int32)) = (-1 : Int32)) → (¬ (lowA σ (plF σ (Int32.toNatClampNeg v1)) (plF σ (Int32.toNatClampNeg v2)) (stN σ (Int32.toNatClampNeg v1) (Int32.toNatClampNeg v2 - (Int32.toNatClampNeg v1 + 1)))) = (-1 : Int32)) → V g mX12_partOf (Em g mX12_partOf Q X) CX 0 0 83 [(0, .ref 33), (1, .int v1), (2, .int v2), (3, .int (plF σ (Int32.toNatClampNeg v1))), (4, .int (lowA σ (plF σ (Int32.toNatClampNeg v1)) (plF σ (Int32.toNatClampNeg v2)) (stN σ (Int32.toNatClampNeg v1) (Int32.toNatClampNeg v2 - (Int32.toNatClampNeg v1 + 1))))), (5, .int (zI σ 34 (Int32.toNatClampNeg (((10 : Int32) * (plF σ (Int32.toNatClampNeg v1))) + (plF σ (Int32.toNatClampNeg v2)))))), (6, .int (((zI σ 34 (Int32.toNatClampNeg (((10 : Int32) * (plF σ (Int32.toNatClampNeg v1))) + (plF σ (Int32.toNatClampNeg v2))))) * (120 : Int32)) / (100 : Int32))), (7, .int (0 : Int32)), (8, .int v1)] [] σ)
    (k2 : (¬ (lowA σ (plF σ (Int32.toNatClampNeg v1)) (plF σ (Int32.toNatClampNeg v2)) (0 : Int32)) = (-1 : Int32)) → ((lowA σ (plF σ (Int32.toNatClampNeg v1)) (plF σ (Int32.toNatClampNeg v2)) (stN σ (Int32.toNatClampNeg v1) (Int32.toNatClampNeg v2 - (Int32.toNatClampNeg v1 + 1)))) = (-1 : Int32)) → Q σ (some (.int (-2 : Int32))))
    (k3 : ((lowA σ (plF σ (Int32.toNatClampNeg v1)) (plF σ (Int32.toNatClampNeg v2)) (0 : Int32)) = (-1 : Int32)) → Q σ (some (.int (-1 : Int32)))) :
    V g mX12_partOf (Em g mX12_partOf Q X) CX 0 0 0 [(0, .ref 33), (1, .int v1), (2, .int v2)] [] σ := by
  refine V_aload_n dX12_partOf_0 rfl ?_
  refine V_iload_n dX12_partOf_1 rfl ?_
  refine V_callV1 (as := [.int v1]) (k' := 0) (n' := 0) (s_X12_placeOf hS o1) mw_X12_placeOf ko_X12 rfl w_1275 w_22 w_1273 ar_X12_placeOf rfl ⟨rfl, rfl, rfl, rfl, rfl⟩ dX12_partOf_2 (by decide) (shk hS 33 rfl) ?_
  refine V_istore_n [(0, .ref 33), (1, .int v1), (2, .int v2), (3, .int (plF σ (Int32.toNatClampNeg v1)))] dX12_partOf_5 rfl rfl ?_
  refine V_aload_n dX12_partOf_6 rfl ?_
  refine V_iload_n dX12_partOf_7 rfl ?_
  refine V_aload_n dX12_partOf_8 rfl ?_
  refine V_iload_n dX12_partOf_9 rfl ?_
  refine V_callV1 (as := [.int v2]) (k' := 0) (n' := 0) (s_X12_placeOf hS o2) mw_X12_placeOf ko_X12 rfl w_1275 w_22 w_1273 ar_X12_placeOf rfl ⟨rfl, rfl, rfl, rfl, rfl⟩ dX12_partOf_10 (by decide) (shk hS 33 rfl) ?_
  refine V_iconst (0 : Int32) dX12_partOf_13 (by decide) ?_
  refine V_callV1 (as := [.int (plF σ (Int32.toNatClampNeg v1)), .int (plF σ (Int32.toNatClampNeg v2)), .int (0 : Int32)]) (k' := 0) (n' := 0) (s_X12_lowest' hS o3) mw_X12_lowest ko_X12 rfl w_1279 w_23 w_1277 ar_X12_lowest rfl ⟨rfl, rfl, rfl, rfl, rfl⟩ dX12_partOf_14 (by decide) (shk hS 33 rfl) ?_
  refine V_iconst (-1 : Int32) dX12_partOf_17 (by decide) ?_
  refine V_icmp_ne 23 dX12_partOf_18 rfl (fun c1 => ?_) (fun c1 => ?_)
  · refine V_aload_n dX12_partOf_23 rfl ?_
    refine V_iload_n dX12_partOf_24 rfl ?_
    refine V_aload_n dX12_partOf_25 rfl ?_
    refine V_iload_n dX12_partOf_26 rfl ?_
    refine V_callV1 (as := [.int v2]) (k' := 0) (n' := 0) (s_X12_placeOf hS o2) mw_X12_placeOf ko_X12 rfl w_1275 w_22 w_1273 ar_X12_placeOf rfl ⟨rfl, rfl, rfl, rfl, rfl⟩ dX12_partOf_27 (by decide) (shk hS 33 rfl) ?_
    refine V_aload_n dX12_partOf_30 rfl ?_
    refine V_iload_n dX12_partOf_31 rfl ?_
    refine V_iload_n dX12_partOf_32 rfl ?_
    refine V_callV1 (as := [.int v1, .int v2]) (k' := 0) (n' := 0) (s_X12_stopsIn hS o1 o2) mw_X12_stopsIn ko_X12 rfl w_1283 w_24 w_1281 ar_X12_stopsIn rfl ⟨rfl, rfl, rfl, rfl, rfl⟩ dX12_partOf_33 (by decide) (shk hS 33 rfl) ?_
    refine V_callV1 (as := [.int (plF σ (Int32.toNatClampNeg v1)), .int (plF σ (Int32.toNatClampNeg v2)), .int (stN σ (Int32.toNatClampNeg v1) (Int32.toNatClampNeg v2 - (Int32.toNatClampNeg v1 + 1)))]) (k' := 0) (n' := 0) (s_X12_lowest' hS o3) mw_X12_lowest ko_X12 rfl w_1279 w_23 w_1277 ar_X12_lowest rfl ⟨rfl, rfl, rfl, rfl, rfl⟩ dX12_partOf_36 (by decide) (shk hS 33 rfl) ?_
    refine V_istore [(0, .ref 33), (1, .int v1), (2, .int v2), (3, .int (plF σ (Int32.toNatClampNeg v1))), (4, .int (lowA σ (plF σ (Int32.toNatClampNeg v1)) (plF σ (Int32.toNatClampNeg v2)) (stN σ (Int32.toNatClampNeg v1) (Int32.toNatClampNeg v2 - (Int32.toNatClampNeg v1 + 1)))))] dX12_partOf_39 rfl rfl ?_
    refine V_iload dX12_partOf_41 rfl ?_
    refine V_iconst (-1 : Int32) dX12_partOf_43 (by decide) ?_
    refine V_icmp_ne 50 dX12_partOf_44 rfl (fun c2 => ?_) (fun c2 => ?_)
    · refine V_aload_n dX12_partOf_50 rfl ?_
      refine V_getf (fk := 1) (Value.ref 34) ko_X12 rfl w_1056 dX12_partOf_51 (by decide) (shk hS 33 rfl) (congrArg Value.ref (shr hS 33 1 34 (by decide))) ?_
      refine V_bipush (10 : Int32) dX12_partOf_54 (by decide) ?_
      refine V_iload_n dX12_partOf_56 rfl ?_
      refine V_imul dX12_partOf_57 ?_
      refine V_aload_n dX12_partOf_58 rfl ?_
      refine V_iload_n dX12_partOf_59 rfl ?_
      refine V_callV1 (as := [.int v2]) (k' := 0) (n' := 0) (s_X12_placeOf hS o2) mw_X12_placeOf ko_X12 rfl w_1275 w_22 w_1273 ar_X12_placeOf rfl ⟨rfl, rfl, rfl, rfl, rfl⟩ dX12_partOf_60 (by decide) (shk hS 33 rfl) ?_
      refine V_iadd dX12_partOf_63 ?_
      refine V_iald dX12_partOf_64 (by decide) (shk hS 34 rfl) (vp_l (n := 100) (shl hS 34 rfl) (o4 c1 c2)) ?_
      refine V_istore [(0, .ref 33), (1, .int v1), (2, .int v2), (3, .int (plF σ (Int32.toNatClampNeg v1))), (4, .int (lowA σ (plF σ (Int32.toNatClampNeg v1)) (plF σ (Int32.toNatClampNeg v2)) (stN σ (Int32.toNatClampNeg v1) (Int32.toNatClampNeg v2 - (Int32.toNatClampNeg v1 + 1))))), (5, .int (zI σ 34 (Int32.toNatClampNeg (((10 : Int32) * (plF σ (Int32.toNatClampNeg v1))) + (plF σ (Int32.toNatClampNeg v2))))))] dX12_partOf_65 rfl rfl ?_
      refine V_iload dX12_partOf_67 rfl ?_
      refine V_bipush (120 : Int32) dX12_partOf_69 (by decide) ?_
      refine V_imul dX12_partOf_71 ?_
      refine V_bipush (100 : Int32) dX12_partOf_72 (by decide) ?_
      refine V_idiv dX12_partOf_74 (by decide) ?_
      refine V_istore [(0, .ref 33), (1, .int v1), (2, .int v2), (3, .int (plF σ (Int32.toNatClampNeg v1))), (4, .int (lowA σ (plF σ (Int32.toNatClampNeg v1)) (plF σ (Int32.toNatClampNeg v2)) (stN σ (Int32.toNatClampNeg v1) (Int32.toNatClampNeg v2 - (Int32.toNatClampNeg v1 + 1))))), (5, .int (zI σ 34 (Int32.toNatClampNeg (((10 : Int32) * (plF σ (Int32.toNatClampNeg v1))) + (plF σ (Int32.toNatClampNeg v2)))))), (6, .int (((zI σ 34 (Int32.toNatClampNeg (((10 : Int32) * (plF σ (Int32.toNatClampNeg v1))) + (plF σ (Int32.toNatClampNeg v2))))) * (120 : Int32)) / (100 : Int32)))] dX12_partOf_75 rfl rfl ?_
      refine V_iconst (0 : Int32) dX12_partOf_77 (by decide) ?_
      refine V_istore [(0, .ref 33), (1, .int v1), (2, .int v2), (3, .int (plF σ (Int32.toNatClampNeg v1))), (4, .int (lowA σ (plF σ (Int32.toNatClampNeg v1)) (plF σ (Int32.toNatClampNeg v2)) (stN σ (Int32.toNatClampNeg v1) (Int32.toNatClampNeg v2 - (Int32.toNatClampNeg v1 + 1))))), (5, .int (zI σ 34 (Int32.toNatClampNeg (((10 : Int32) * (plF σ (Int32.toNatClampNeg v1))) + (plF σ (Int32.toNatClampNeg v2)))))), (6, .int (((zI σ 34 (Int32.toNatClampNeg (((10 : Int32) * (plF σ (Int32.toNatClampNeg v1))) + (plF σ (Int32.toNatClampNeg v2))))) * (120 : Int32)) / (100 : Int32))), (7, .int (0 : Int32))] dX12_partOf_78 rfl rfl ?_
      refine V_iload_n dX12_partOf_80 rfl ?_
      refine V_istore [(0, .ref 33), (1, .int v1), (2, .int v2), (3, .int (plF σ (Int32.toNatClampNeg v1))), (4, .int (lowA σ (plF σ (Int32.toNatClampNeg v1)) (plF σ (Int32.toNatClampNeg v2)) (stN σ (Int32.toNatClampNeg v1) (Int32.toNatClampNeg v2 - (Int32.toNatClampNeg v1 + 1))))), (5, .int (zI σ 34 (Int32.toNatClampNeg (((10 : Int32) * (plF σ (Int32.toNatClampNeg v1))) + (plF σ (Int32.toNatClampNeg v2)))))), (6, .int (((zI σ 34 (Int32.toNatClampNeg (((10 : Int32) * (plF σ (Int32.toNatClampNeg v1))) + (plF σ (Int32.toNatClampNeg v2))))) * (120 : Int32)) / (100 : Int32))), (7, .int (0 : Int32)), (8, .int v1)] dX12_partOf_81 rfl rfl ?_
      exact (k1 c1 c2)
    · refine V_bipush (-2 : Int32) dX12_partOf_47 (by decide) ?_
      exact V_iret rfl dX12_partOf_49 (k2 c1 c2)
  · refine V_iconst (-1 : Int32) dX12_partOf_21 (by decide) ?_
    exact V_iret rfl dX12_partOf_22 (k3 c1)
set_option maxRecDepth 100000 in
set_option maxHeartbeats 4000000 in
theorem b_X12_partOf_83 {g : GP} {CX : State → Array Value → Prop} {Q : AH → Option Value → Prop} {X : AH → String → Prop} {v1 : Int32} {v2 : Int32} {v3 : Int32} {v4 : Int32} {v5 : Int32} {v6 : Int32} {v7 : Int32} {v8 : Int32} {σ : AH}
    (hS : Sh σ)
    (k1 : (v2 ≤ v8) → (v5 = 0) → Q σ (some (.int (-3 : Int32))))
    (k2 : (v2 ≤ v8) → (¬ v5 = 0) → (v7 ≤ ((v6 * (125 : Int32)) / (100 : Int32))) → V g mX12_partOf (Em g mX12_partOf Q X) CX 0 0 132 [(0, .ref 33), (1, .int v1), (2, .int v2), (3, .int v3), (4, .int v4), (5, .int v5), (6, .int v6), (7, .int v7), (8, .int (v1 + (1 : Int32)))] [] σ)
    (k3 : (v2 ≤ v8) → (¬ v5 = 0) → (¬ v7 ≤ ((v6 * (125 : Int32)) / (100 : Int32))) → Q σ (some (.int (-3 : Int32))))
    (o1 : (¬ v2 ≤ v8) → PO σ)
    (o2 : (¬ v2 ≤ v8) → vp_in v8 8)
    (k4 : (¬ v2 ≤ v8) → V g mX12_partOf (Em g mX12_partOf Q X) CX 0 0 83 [(0, .ref 33), (1, .int v1), (2, .int v2), (3, .int v3), (4, .int v4), (5, .int v5), (6, .int v6), (7, .int (v7 + (mi σ (zI σ 46 (Int32.toNatClampNeg v8)) (zI σ 47 (Int32.toNatClampNeg v8))))), (8, .int (v8 + (1 : Int32)))] [] σ) :
    V g mX12_partOf (Em g mX12_partOf Q X) CX 0 0 83 [(0, .ref 33), (1, .int v1), (2, .int v2), (3, .int v3), (4, .int v4), (5, .int v5), (6, .int v6), (7, .int v7), (8, .int v8)] [] σ := by
  refine V_iload dX12_partOf_83 rfl ?_
  refine V_iload_n dX12_partOf_85 rfl ?_
  refine V_icmp_ge 106 dX12_partOf_86 rfl (fun c1 => ?_) (fun c1 => ?_)
  · refine V_iload dX12_partOf_106 rfl ?_
    refine V_if_eq 124 dX12_partOf_108 rfl (fun c2 => ?_) (fun c2 => ?_)
    · refine V_bipush (-3 : Int32) dX12_partOf_124 (by decide) ?_
      exact V_iret rfl dX12_partOf_126 (k1 c1 c2)
    · refine V_iload dX12_partOf_111 rfl ?_
      refine V_iload dX12_partOf_113 rfl ?_
      refine V_bipush (125 : Int32) dX12_partOf_115 (by decide) ?_
      refine V_imul dX12_partOf_117 ?_
      refine V_bipush (100 : Int32) dX12_partOf_118 (by decide) ?_
      refine V_idiv dX12_partOf_120 (by decide) ?_
      refine V_icmp_le 127 dX12_partOf_121 rfl (fun c3 => ?_) (fun c3 => ?_)
      · refine V_iload_n dX12_partOf_127 rfl ?_
        refine V_iconst (1 : Int32) dX12_partOf_128 (by decide) ?_
        refine V_iadd dX12_partOf_129 ?_
        refine V_istore [(0, .ref 33), (1, .int v1), (2, .int v2), (3, .int v3), (4, .int v4), (5, .int v5), (6, .int v6), (7, .int v7), (8, .int (v1 + (1 : Int32)))] dX12_partOf_130 rfl rfl ?_
        exact (k2 c1 c2 c3)
      · refine V_bipush (-3 : Int32) dX12_partOf_124 (by decide) ?_
        exact V_iret rfl dX12_partOf_126 (k3 c1 c2 c3)
  · refine V_iload dX12_partOf_89 rfl ?_
    refine V_aload_n dX12_partOf_91 rfl ?_
    refine V_iload dX12_partOf_92 rfl ?_
    refine V_callV1 (as := [.int v8]) (k' := 0) (n' := 0) (s_X12_milesOf hS (o1 c1) (o2 c1)) mw_X12_milesOf ko_X12 rfl w_1291 w_26 w_1289 ar_X12_milesOf rfl ⟨rfl, rfl, rfl, rfl, rfl⟩ dX12_partOf_94 (by decide) (shk hS 33 rfl) ?_
    refine V_iadd dX12_partOf_97 ?_
    refine V_istore [(0, .ref 33), (1, .int v1), (2, .int v2), (3, .int v3), (4, .int v4), (5, .int v5), (6, .int v6), (7, .int (v7 + (mi σ (zI σ 46 (Int32.toNatClampNeg v8)) (zI σ 47 (Int32.toNatClampNeg v8))))), (8, .int v8)] dX12_partOf_98 rfl rfl ?_
    refine V_iinc (v8 + (1 : Int32)) [(0, .ref 33), (1, .int v1), (2, .int v2), (3, .int v3), (4, .int v4), (5, .int v5), (6, .int v6), (7, .int (v7 + (mi σ (zI σ 46 (Int32.toNatClampNeg v8)) (zI σ 47 (Int32.toNatClampNeg v8))))), (8, .int (v8 + (1 : Int32)))] dX12_partOf_100 rfl rfl rfl rfl ?_
    refine V_goto 83 dX12_partOf_103 rfl ?_
    exact (k4 c1)
set_option maxRecDepth 100000 in
set_option maxHeartbeats 4000000 in
theorem b_X12_partOf_132 {g : GP} {CX : State → Array Value → Prop} {E : ET} {v1 : Int32} {v2 : Int32} {v3 : Int32} {v4 : Int32} {v5 : Int32} {v6 : Int32} {v7 : Int32} {v8 : Int32} {σ : AH}
    (hS : Sh σ)
    (k1 : (v2 ≤ v8) → V g mX12_partOf E CX 0 0 177 [(0, .ref 33), (1, .int v1), (2, .int v2), (3, .int v3), (4, .int v4), (5, .int v5), (6, .int v6), (7, .int v7), (8, .int (0 : Int32))] [] σ)
    (o1 : (¬ v2 ≤ v8) → vp_in v8 9)
    (o2 : (¬ v2 ≤ v8) → vp_in (zI σ 33 6) 41)
    (k2 : (¬ v2 ≤ v8) → ((lowA σ v3 (plF σ (Int32.toNatClampNeg v8)) (0 : Int32)) ≤ v4) → V g mX12_partOf E CX 0 0 132 [(0, .ref 33), (1, .int v1), (2, .int v2), (3, .int v3), (4, .int v4), (5, .int v5), (6, .int v6), (7, .int v7), (8, .int (v8 + (1 : Int32)))] [] σ)
    (k3 : (¬ v2 ≤ v8) → (¬ (lowA σ v3 (plF σ (Int32.toNatClampNeg v8)) (0 : Int32)) ≤ v4) → V g mX12_partOf E CX 0 0 132 [(0, .ref 33), (1, .int v1), (2, .int v2), (3, .int v3), (4, .int (lowA σ v3 (plF σ (Int32.toNatClampNeg v8)) (0 : Int32))), (5, .int v5), (6, .int v6), (7, .int v7), (8, .int (v8 + (1 : Int32)))] [] σ) :
    V g mX12_partOf E CX 0 0 132 [(0, .ref 33), (1, .int v1), (2, .int v2), (3, .int v3), (4, .int v4), (5, .int v5), (6, .int v6), (7, .int v7), (8, .int v8)] [] σ := by
  refine V_iload dX12_partOf_132 rfl ?_
  refine V_iload_n dX12_partOf_134 rfl ?_
  refine V_icmp_ge 174 dX12_partOf_135 rfl (fun c1 => ?_) (fun c1 => ?_)
  · refine V_iconst (0 : Int32) dX12_partOf_174 (by decide) ?_
    refine V_istore [(0, .ref 33), (1, .int v1), (2, .int v2), (3, .int v3), (4, .int v4), (5, .int v5), (6, .int v6), (7, .int v7), (8, .int (0 : Int32))] dX12_partOf_175 rfl rfl ?_
    exact (k1 c1)
  · refine V_aload_n dX12_partOf_138 rfl ?_
    refine V_iload_n dX12_partOf_139 rfl ?_
    refine V_aload_n dX12_partOf_140 rfl ?_
    refine V_iload dX12_partOf_141 rfl ?_
    refine V_callV1 (as := [.int v8]) (k' := 0) (n' := 0) (s_X12_placeOf hS (o1 c1)) mw_X12_placeOf ko_X12 rfl w_1275 w_22 w_1273 ar_X12_placeOf rfl ⟨rfl, rfl, rfl, rfl, rfl⟩ dX12_partOf_143 (by decide) (shk hS 33 rfl) ?_
    refine V_iconst (0 : Int32) dX12_partOf_146 (by decide) ?_
    refine V_callV1 (as := [.int v3, .int (plF σ (Int32.toNatClampNeg v8)), .int (0 : Int32)]) (k' := 0) (n' := 0) (s_X12_lowest' hS (o2 c1)) mw_X12_lowest ko_X12 rfl w_1279 w_23 w_1277 ar_X12_lowest rfl ⟨rfl, rfl, rfl, rfl, rfl⟩ dX12_partOf_147 (by decide) (shk hS 33 rfl) ?_
    refine V_istore [(0, .ref 33), (1, .int v1), (2, .int v2), (3, .int v3), (4, .int v4), (5, .int v5), (6, .int v6), (7, .int v7), (8, .int v8), (9, .int (lowA σ v3 (plF σ (Int32.toNatClampNeg v8)) (0 : Int32)))] dX12_partOf_150 rfl rfl ?_
    refine V_iload dX12_partOf_152 rfl ?_
    refine V_iload dX12_partOf_154 rfl ?_
    refine V_icmp_le 164 dX12_partOf_156 rfl (fun c2 => ?_) (fun c2 => ?_)
    · refine V_iload dX12_partOf_164 rfl ?_
      refine V_istore [(0, .ref 33), (1, .int v1), (2, .int v2), (3, .int v3), (4, .int v4), (5, .int v5), (6, .int v6), (7, .int v7), (8, .int v8), (9, .int (lowA σ v3 (plF σ (Int32.toNatClampNeg v8)) (0 : Int32)))] dX12_partOf_166 rfl rfl ?_
      refine V_iinc (v8 + (1 : Int32)) [(0, .ref 33), (1, .int v1), (2, .int v2), (3, .int v3), (4, .int v4), (5, .int v5), (6, .int v6), (7, .int v7), (8, .int (v8 + (1 : Int32))), (9, .int (lowA σ v3 (plF σ (Int32.toNatClampNeg v8)) (0 : Int32)))] dX12_partOf_168 rfl rfl rfl rfl ?_
      refine V_goto 132 dX12_partOf_171 rfl ?_
      exact V_less (mm_keep (mm_keep (mm_keep (mm_keep (mm_keep (mm_keep (mm_keep (mm_keep (mm_keep (mm_drop mm_nil)))))))))) (by decide) (by decide) (k2 c1 c2)
    · refine V_iload dX12_partOf_159 rfl ?_
      refine V_goto 166 dX12_partOf_161 rfl ?_
      refine V_istore [(0, .ref 33), (1, .int v1), (2, .int v2), (3, .int v3), (4, .int (lowA σ v3 (plF σ (Int32.toNatClampNeg v8)) (0 : Int32))), (5, .int v5), (6, .int v6), (7, .int v7), (8, .int v8), (9, .int (lowA σ v3 (plF σ (Int32.toNatClampNeg v8)) (0 : Int32)))] dX12_partOf_166 rfl rfl ?_
      refine V_iinc (v8 + (1 : Int32)) [(0, .ref 33), (1, .int v1), (2, .int v2), (3, .int v3), (4, .int (lowA σ v3 (plF σ (Int32.toNatClampNeg v8)) (0 : Int32))), (5, .int v5), (6, .int v6), (7, .int v7), (8, .int (v8 + (1 : Int32))), (9, .int (lowA σ v3 (plF σ (Int32.toNatClampNeg v8)) (0 : Int32)))] dX12_partOf_168 rfl rfl rfl rfl ?_
      refine V_goto 132 dX12_partOf_171 rfl ?_
      exact V_less (mm_keep (mm_keep (mm_keep (mm_keep (mm_keep (mm_keep (mm_keep (mm_keep (mm_keep (mm_drop mm_nil)))))))))) (by decide) (by decide) (k3 c1 c2)
set_option maxRecDepth 100000 in
set_option maxHeartbeats 4000000 in
theorem b_X12_partOf_177 {g : GP} {CX : State → Array Value → Prop} {Q : AH → Option Value → Prop} {X : AH → String → Prop} {v1 : Int32} {v2 : Int32} {v3 : Int32} {v4 : Int32} {v5 : Int32} {v6 : Int32} {v7 : Int32} {v8 : Int32} {σ : AH}
    (hS : Sh σ)
    (o1 : (v7 ≤ ((v6 * ((100 : Int32) + v8)) / (100 : Int32))) → ¬ (100 : Int32) * (zI σ 33 14) = 0)
    (k1 : (v7 ≤ ((v6 * ((100 : Int32) + v8)) / (100 : Int32))) → Q σ (some (.int (((((v4 * ((100 : Int32) + v8)) + ((100 : Int32) * (zI σ 33 14))) - (1 : Int32)) / ((100 : Int32) * (zI σ 33 14))) * (zI σ 33 14)))))
    (k2 : (¬ v7 ≤ ((v6 * ((100 : Int32) + v8)) / (100 : Int32))) → V g mX12_partOf (Em g mX12_partOf Q X) CX 0 0 177 [(0, .ref 33), (1, .int v1), (2, .int v2), (3, .int v3), (4, .int v4), (5, .int v5), (6, .int v6), (7, .int v7), (8, .int (v8 + (5 : Int32)))] [] σ) :
    V g mX12_partOf (Em g mX12_partOf Q X) CX 0 0 177 [(0, .ref 33), (1, .int v1), (2, .int v2), (3, .int v3), (4, .int v4), (5, .int v5), (6, .int v6), (7, .int v7), (8, .int v8)] [] σ := by
  refine V_iload dX12_partOf_177 rfl ?_
  refine V_bipush (100 : Int32) dX12_partOf_179 (by decide) ?_
  refine V_iload dX12_partOf_181 rfl ?_
  refine V_iadd dX12_partOf_183 ?_
  refine V_imul dX12_partOf_184 ?_
  refine V_bipush (100 : Int32) dX12_partOf_185 (by decide) ?_
  refine V_idiv dX12_partOf_187 (by decide) ?_
  refine V_iload dX12_partOf_188 rfl ?_
  refine V_icmp_ge 199 dX12_partOf_190 rfl (fun c1 => ?_) (fun c1 => ?_)
  · refine V_bipush (100 : Int32) dX12_partOf_199 (by decide) ?_
    refine V_aload_n dX12_partOf_201 rfl ?_
    refine V_getf (fk := 14) (Value.int (zI σ 33 14)) ko_X12 rfl w_1069 dX12_partOf_202 (by decide) (shk hS 33 rfl) rfl ?_
    refine V_imul dX12_partOf_205 ?_
    refine V_istore [(0, .ref 33), (1, .int v1), (2, .int v2), (3, .int v3), (4, .int v4), (5, .int v5), (6, .int v6), (7, .int v7), (8, .int v8), (9, .int ((100 : Int32) * (zI σ 33 14)))] dX12_partOf_206 rfl rfl ?_
    refine V_iload dX12_partOf_208 rfl ?_
    refine V_bipush (100 : Int32) dX12_partOf_210 (by decide) ?_
    refine V_iload dX12_partOf_212 rfl ?_
    refine V_iadd dX12_partOf_214 ?_
    refine V_imul dX12_partOf_215 ?_
    refine V_iload dX12_partOf_216 rfl ?_
    refine V_iadd dX12_partOf_218 ?_
    refine V_iconst (1 : Int32) dX12_partOf_219 (by decide) ?_
    refine V_isub dX12_partOf_220 ?_
    refine V_iload dX12_partOf_221 rfl ?_
    refine V_idiv dX12_partOf_223 (o1 c1) ?_
    refine V_aload_n dX12_partOf_224 rfl ?_
    refine V_getf (fk := 14) (Value.int (zI σ 33 14)) ko_X12 rfl w_1069 dX12_partOf_225 (by decide) (shk hS 33 rfl) rfl ?_
    refine V_imul dX12_partOf_228 ?_
    exact V_iret rfl dX12_partOf_229 (k1 c1)
  · refine V_iinc (v8 + (5 : Int32)) [(0, .ref 33), (1, .int v1), (2, .int v2), (3, .int v3), (4, .int v4), (5, .int v5), (6, .int v6), (7, .int v7), (8, .int (v8 + (5 : Int32)))] dX12_partOf_193 rfl rfl rfl rfl ?_
    refine V_goto 177 dX12_partOf_196 rfl ?_
    exact (k2 c1)

theorem s_X12_partOf {g : GP} {σ : AH} {x y : Int32} (hS : Sh σ) (hP : PO σ) (hx : vp_in x 9) (hy : vp_in y 9) : Ct g mX12_partOf [.ref 33, .int x, .int y] σ (FQ σ (some (.int (partF σ (Int32.toNatClampNeg x) (Int32.toNatClampNeg y))))) := by
  obtain ⟨i, hi, rfl⟩ := vp_in_of hx (by decide)
  obtain ⟨k, hk, rfl⟩ := vp_in_of hy (by decide)
  have ci : (nI i).toNatClampNeg = i := cl0 (by omega)
  have ck : (nI k).toNatClampNeg = k := cl0 (by omega)
  rw [ci, ck]
  obtain ⟨m1, m2, m3⟩ := vp_mul (PO_pl hP hi) (PO_pl hP hk)
  have key : V g mX12_partOf (Em g mX12_partOf (FQ σ (some (.int (partF σ i k)))) NX) CT 0 0 0 [(0, .ref 33), (1, .int (nI i)), (2, .int (nI k))] [] σ := by
    refine b_X12_partOf_0 hS hx hy hP.1 (fun _ _ => by rw [ci, ck]; exact m1) (fun c1 c2 => ?_) (fun c1 c2 => ?_) (fun c1 => ?_)
    rotate_left
    · rw [ci, ck] at c1 c2; exact fq_i (by rw [partF, if_neg c1, if_pos c2])
    · rw [ci, ck] at c1; exact fq_i (by rw [partF, if_pos c1])
    rw [ci, ck] at c1 c2
    simp only [ci, ck, m2]
    rw [show zI σ 34 ((plF σ i).toNatClampNeg * 10 + (plF σ k).toNatClampNeg) = mi σ (plF σ i) (plF σ k) from rfl]
    have hpf : partF σ i k = if mi σ (plF σ i) (plF σ k) = 0 ∨ ¬ mlN σ i (k - i) ≤ mi σ (plF σ i) (plF σ k) * 120 / 100 * 125 / 100 then -3 else
        upF σ (hiN σ (plF σ i) i (lowA σ (plF σ i) (plF σ k) (stN σ i (k - (i + 1)))) (k - (i + 1))) (moreF (mi σ (plF σ i) (plF σ k) * 120 / 100) (mlN σ i (k - i))) := by
      rw [partF, if_neg c1, if_neg c2]
    rw [hpf]
    generalize mi σ (plF σ i) (plF σ k) = dm
    generalize lowA σ (plF σ i) (plF σ k) (stN σ i (k - (i + 1))) = base
    generalize plF σ i = a
    -- the miles of the legs
    refine up_loop (P := fun d => V g mX12_partOf (Em g mX12_partOf (FQ σ (some (.int (if dm = 0 ∨ ¬ mlN σ i (k - i) ≤ dm * 120 / 100 * 125 / 100 then -3 else upF σ (hiN σ a i base (k - (i + 1))) (moreF (dm * 120 / 100) (mlN σ i (k - i))))))) NX) CT 0 0 83 [(0, .ref 33), (1, .int (nI i)), (2, .int (nI k)), (3, .int a), (4, .int base), (5, .int dm), (6, .int (dm * 120 / 100)), (7, .int (mlN σ i d)), (8, .int (nI (i + d)))] [] σ) (k - i) ?_ ?_ 0 (Nat.zero_le _)
    · have hle : nI k ≤ nI (i + (k - i)) := nI_le (by omega) (by omega)
      refine b_X12_partOf_83 hS (fun _ c => fq_i (by rw [if_pos (Or.inl c)])) (fun _ c3 c4 => ?_) (fun _ c3 c4 => fq_i (by rw [if_pos (Or.inr c4)])) (fun c => absurd hle c) (fun c => absurd hle c) (fun c => absurd hle c)
      rw [if_neg (fun q => q.elim c3 (fun q => q c4)), nI_1]
      generalize hall : mlN σ i (k - i) = all at c4
      generalize hal : dm * 120 / 100 = al at c4
      -- the fares between
      refine up_loop (P := fun d => V g mX12_partOf (Em g mX12_partOf (FQ σ (some (.int (upF σ (hiN σ a i base (k - (i + 1))) (moreF al all))))) NX) CT 0 0 132 [(0, .ref 33), (1, .int (nI i)), (2, .int (nI k)), (3, .int a), (4, .int (hiN σ a i base d)), (5, .int dm), (6, .int al), (7, .int all), (8, .int (nI (i + 1 + d)))] [] σ) (k - (i + 1)) ?_ ?_ 0 (Nat.zero_le _)
      · have hle : nI k ≤ nI (i + 1 + (k - (i + 1))) := nI_le (by omega) (by omega)
        refine b_X12_partOf_132 hS (fun _ => ?_) (fun c => absurd hle c) (fun c => absurd hle c) (fun c => absurd hle c) (fun c => absurd hle c)
        generalize hiN σ a i base (k - (i + 1)) = hb
        have hu := unit_nz hP
        refine b_X12_partOf_177 hS (fun _ => hu) (fun c => fq_i ?_) (fun c => ?_)
        · rw [moreF, if_pos c]; rfl
        rw [show (0 : Int32) + 5 = 5 by decide]
        refine b_X12_partOf_177 hS (fun _ => hu) (fun c5 => fq_i ?_) (fun c5 => ?_)
        · rw [moreF, if_neg c, if_pos c5]; rfl
        rw [show (5 : Int32) + 5 = 10 by decide]
        refine b_X12_partOf_177 hS (fun _ => hu) (fun c6 => fq_i ?_) (fun c6 => ?_)
        · rw [moreF, if_neg c, if_neg c5, if_pos c6]; rfl
        rw [show (10 : Int32) + 5 = 15 by decide]
        refine b_X12_partOf_177 hS (fun _ => hu) (fun c7 => fq_i ?_) (fun c7 => ?_)
        · rw [moreF, if_neg c, if_neg c5, if_neg c6, if_pos c7]; rfl
        rw [show (15 : Int32) + 5 = 20 by decide]
        refine b_X12_partOf_177 hS (fun _ => hu) (fun c8 => fq_i ?_) (fun c8 => ?_)
        · rw [moreF, if_neg c, if_neg c5, if_neg c6, if_neg c7, if_pos c8]; rfl
        rw [show (20 : Int32) + 5 = 25 by decide]
        refine b_X12_partOf_177 hS (fun _ => hu) (fun c9 => fq_i ?_) (fun c9 => absurd c4 c9)
        rw [moreF, if_neg c, if_neg c5, if_neg c6, if_neg c7, if_neg c8]; rfl
      · intro d hd ih
        have hlt : ¬ nI k ≤ nI (i + 1 + d) := nI_ge (by omega) (by omega)
        have hc : (nI (i + 1 + d)).toNatClampNeg = i + 1 + d := cl0 (by omega)
        rw [show i + 1 + (d + 1) = i + 1 + d + 1 from rfl] at ih
        refine b_X12_partOf_132 hS (fun c => absurd c hlt) (fun _ => vp_in_nI (by omega) (by decide)) (fun _ => hP.1) ?_ ?_
        all_goals
          intro _ c
          simp only [hc] at *
          refine V_cast ?_ rfl rfl ih
          rw [nI_1]
          simp [hiN, c]
    · intro d hd ih
      have hlt : ¬ nI k ≤ nI (i + d) := nI_ge (by omega) (by omega)
      have hc : (nI (i + d)).toNatClampNeg = i + d := cl0 (by omega)
      rw [show i + (d + 1) = i + d + 1 from rfl] at ih
      refine b_X12_partOf_83 hS (fun c => absurd c hlt) (fun c => absurd c hlt) (fun c => absurd c hlt) (fun _ => hP) (fun _ => vp_in_nI (by omega) (by decide)) (fun _ => ?_)
      simp only [hc] at *
      refine V_cast ?_ rfl rfl ih
      rw [nI_1]
      simp [mlN]
  exact Ct_of (by decide +kernel) rfl rfl key
