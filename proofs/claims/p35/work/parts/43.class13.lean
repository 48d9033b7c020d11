/-! ===== the class: tickets and coupons ===== -/
abbrev cA (σ : AH) (a k : Nat) : Nat := zR σ (zR σ a 3) k
/-- a ticket with n coupons -/
def TS (σ : AH) (a n : Nat) : Prop := a ≠ 0 ∧ zK σ a = 9 ∧ zI σ a 4 = nI n ∧ n ≤ 8 ∧ (zR σ a 3 ≠ 0 ∧ zK σ (zR σ a 3) = 32 ∧ zL σ (zR σ a 3) = 8) ∧ ∀ k, k < n → cA σ a k ≠ 0 ∧ zK σ (cA σ a k) = 2
def TX (σ : AH) (a : Nat) : Prop := ∃ n, TS σ a n
set_option maxRecDepth 100000 in
set_option maxHeartbeats 4000000 in
theorem b_X9_couponAt_0 {g : GP} {CX : State → Array Value → Prop} {Q : AH → Option Value → Prop} {X : AH → String → Prop} {v0 : Nat} {v1 : Int32} {σ : AH}
    (k1 : (v1 < 0) → Q σ (some (.ref 0)))
    (o1 : v0 ≠ 0)
    (o2 : zK σ v0 = 9)
    (k2 : (¬ v1 < 0) → ((zI σ v0 4) ≤ v1) → Q σ (some (.ref 0)))
    (k3 : (¬ v1 < 0) → (¬ (zI σ v0 4) ≤ v1) → ((8 : Int32) ≤ v1) → Q σ (some (.ref 0)))
    (o3 : zR σ v0 3 ≠ 0)
    (o4 : zK σ (zR σ v0 3) = 32)
    (o5 : (¬ v1 < 0) → (¬ (zI σ v0 4) ≤ v1) → (¬ (8 : Int32) ≤ v1) → vp_in v1 (zL σ (zR σ v0 3)))
    (k4 : (¬ v1 < 0) → (¬ (zI σ v0 4) ≤ v1) → (¬ (8 : Int32) ≤ v1) → Q σ (some (.ref (zR σ (zR σ v0 3) (Int32.toNatClampNeg v1))))) :
    V g mX9_couponAt (Em g mX9_couponAt Q X) CX 0 0 0 [(0, .ref v0), (1, .int v1)] [] σ := by
  refine V_iload_n dX9_couponAt_0 rfl ?_
  refine V_if_lt 27 dX9_couponAt_1 rfl (fun c1 => ?_) (fun c1 => ?_)
  · refine V_null dX9_couponAt_27 ?_
    exact V_aret rfl dX9_couponAt_28 (k1 c1)
  · refine V_iload_n dX9_couponAt_4 rfl ?_
    refine V_aload_n dX9_couponAt_5 rfl ?_
    refine V_getf (fk := 4) (Value.int (zI σ v0 4)) ko_X9 rfl w_735 dX9_couponAt_6 o1 o2 rfl ?_
    refine V_icmp_ge 27 dX9_couponAt_9 rfl (fun c2 => ?_) (fun c2 => ?_)
    · refine V_null dX9_couponAt_27 ?_
      exact V_aret rfl dX9_couponAt_28 (k2 c1 c2)
    · refine V_iload_n dX9_couponAt_12 rfl ?_
      refine V_bipush (8 : Int32) dX9_couponAt_13 (by decide) ?_
      refine V_icmp_ge 27 dX9_couponAt_15 rfl (fun c3 => ?_) (fun c3 => ?_)
      · refine V_null dX9_couponAt_27 ?_
        exact V_aret rfl dX9_couponAt_28 (k3 c1 c2 c3)
      · refine V_aload_n dX9_couponAt_18 rfl ?_
        refine V_getf (fk := 3) (Value.ref (zR σ v0 3)) ko_X9 rfl w_734 dX9_couponAt_19 o1 o2 rfl ?_
        refine V_iload_n dX9_couponAt_22 rfl ?_
        refine V_aald ao_32 dX9_couponAt_23 o3 o4 (o5 c1 c2 c3) ?_
        refine V_goto 28 dX9_couponAt_24 rfl ?_
        exact V_aret rfl dX9_couponAt_28 (k4 c1 c2 c3)

theorem s_X9_couponAt {g : GP} {σ : AH} {a : Nat} {x : Int32} (hT : TX σ a) : Ct g mX9_couponAt [.ref a, .int x] σ (FQ σ (some (.ref (atR (zI σ a 4) 8 x (cA σ a (ix x)))))) := by
  obtain ⟨n, h1, h2, h3, h4, ⟨h5, h6, h7⟩, h8⟩ := hT
  refine Ct_of (by decide +kernel) rfl rfl (b_X9_couponAt_0 (fun c => fq_r (by rw [atR, if_pos (Or.inl c)])) h1 h2 (fun _ c => fq_r (by rw [atR, if_pos (Or.inr (Or.inl c))])) (fun _ _ c => fq_r (by rw [atR, if_pos (Or.inr (Or.inr c))])) h5 h6 (fun c _ c2 => by rw [h7]; exact isPl_vpN (n := 8) c c2) (fun c c2 c3 => fq_r (by rw [atR, if_neg (fun q => q.elim c (fun q => q.elim c2 c3))])))
theorem TS_at {σ : AH} {a n k : Nat} (h : TS σ a n) (hk : k < n) : atR (zI σ a 4) 8 (nI k) (cA σ a (ix (nI k))) = cA σ a k := by
  obtain ⟨h1, h2, h3, h4, -⟩ := h
  rw [h3, ix, cl0 (by omega)]
  exact atR_in (m := 8) hk (by omega) (by omega) (by decide)
set_option maxRecDepth 100000 in
set_option maxHeartbeats 4000000 in
theorem b_X9_openAt_0 {g : GP} {CX : State → Array Value → Prop} {Q : AH → Option Value → Prop} {X : AH → String → Prop} {v0 : Nat} {v1 : Int32} {σ : AH}
    (o1 : TX σ v0)
    (o2 : v0 ≠ 0)
    (o3 : zK σ v0 = 9)
    (k1 : (atR (zI σ v0 4) 8 v1 (cA σ v0 (ix v1)) = 0) → Q σ (some (.ref 0)))
    (o4 : (¬ atR (zI σ v0 4) 8 v1 (cA σ v0 (ix v1)) = 0) → zK σ (atR (zI σ v0 4) 8 v1 (cA σ v0 (ix v1))) = 2)
    (k2 : (¬ atR (zI σ v0 4) 8 v1 (cA σ v0 (ix v1)) = 0) → (¬ (zI σ (atR (zI σ v0 4) 8 v1 (cA σ v0 (ix v1))) 7) = 0) → Q σ (some (.ref 0)))
    (k3 : (¬ atR (zI σ v0 4) 8 v1 (cA σ v0 (ix v1)) = 0) → ((zI σ (atR (zI σ v0 4) 8 v1 (cA σ v0 (ix v1))) 7) = 0) → Q σ (some (.ref (atR (zI σ v0 4) 8 v1 (cA σ v0 (ix v1)))))) :
    V g mX9_openAt (Em g mX9_openAt Q X) CX 0 0 0 [(0, .ref v0), (1, .int v1)] [] σ := by
  refine V_aload_n dX9_openAt_0 rfl ?_
  refine V_iload_n dX9_openAt_1 rfl ?_
  refine V_callV1 (as := [.int v1]) (k' := 0) (n' := 0) (s_X9_couponAt o1) mw_X9_couponAt ko_X9 rfl w_411 w_412 w_410 ar_X9_couponAt rfl ⟨rfl, rfl, rfl, rfl, rfl⟩ dX9_openAt_2 o2 o3 ?_
  refine V_astore_n [(0, .ref v0), (1, .int v1), (2, .ref (atR (zI σ v0 4) 8 v1 (cA σ v0 (ix v1))))] dX9_openAt_5 rfl rfl ?_
  refine V_aload_n dX9_openAt_6 rfl ?_
  refine V_ifnull 21 dX9_openAt_7 rfl (fun c1 => ?_) (fun c1 => ?_)
  · refine V_null dX9_openAt_21 ?_
    exact V_aret rfl dX9_openAt_22 (k1 c1)
  · refine V_aload_n dX9_openAt_10 rfl ?_
    refine V_getf (fk := 7) (Value.int (zI σ (atR (zI σ v0 4) 8 v1 (cA σ v0 (ix v1))) 7)) ko_X2 rfl w_788 dX9_openAt_11 c1 (o4 c1) rfl ?_
    refine V_if_ne 21 dX9_openAt_14 rfl (fun c2 => ?_) (fun c2 => ?_)
    · refine V_null dX9_openAt_21 ?_
      exact V_aret rfl dX9_openAt_22 (k2 c1 c2)
    · refine V_aload_n dX9_openAt_17 rfl ?_
      refine V_goto 22 dX9_openAt_18 rfl ?_
      exact V_aret rfl dX9_openAt_22 (k3 c1 c2)

def opR (σ : AH) (a k : Nat) : Nat := if zI σ (cA σ a k) 7 = 0 then cA σ a k else 0
theorem s_X9_openAt {g : GP} {σ : AH} {a n : Nat} {k : Nat} (hT : TS σ a n) (hk : k < n) : Ct g mX9_openAt [.ref a, .int (nI k)] σ (FQ σ (some (.ref (opR σ a k)))) := by
  have e := TS_at hT hk
  have hX : TX σ a := ⟨n, hT⟩
  obtain ⟨h1, h2, h3, h4, h5, h8⟩ := hT
  refine Ct_of (by decide +kernel) rfl rfl (b_X9_openAt_0 hX h1 h2 (fun c => absurd (e.symm.trans c) (h8 k hk).1) (fun _ => by rw [e]; exact (h8 k hk).2) (fun _ c => fq_r ?_) (fun _ c => fq_r ?_))
  · rw [e] at c; rw [opR, if_neg c]
  · rw [e] at c ⊢; rw [opR, if_pos c]
def opS (σ : AH) (a : Nat) (x : Int32) : Prop := ∃ n k, TS σ a n ∧ k < n ∧ x = nI k
theorem s_X9_openAt' {g : GP} {σ : AH} {a : Nat} {x : Int32} (h : opS σ a x) : Ct g mX9_openAt [.ref a, .int x] σ (FQ σ (some (.ref (opR σ a (ix x))))) := by
  obtain ⟨n, k, hT, hk, rfl⟩ := h
  have : ix (nI k) = k := cl0 (by have := hT.2.2.2.1; omega)
  rw [this]
  exact s_X9_openAt hT hk
set_option maxRecDepth 100000 in
set_option maxHeartbeats 4000000 in
theorem b_X9_hasOpenOnes_0 {g : GP} {CX : State → Array Value → Prop} {E : ET} {v0 : Nat} {σ : AH}
    (k1 : V g mX9_hasOpenOnes E CX 0 0 2 [(0, .ref v0), (1, .int (0 : Int32))] [] σ) :
    V g mX9_hasOpenOnes E CX 0 0 0 [(0, .ref v0)] [] σ := by
  refine V_iconst (0 : Int32) dX9_hasOpenOnes_0 (by decide) ?_
  refine V_istore_n [(0, .ref v0), (1, .int (0 : Int32))] dX9_hasOpenOnes_1 rfl rfl ?_
  exact k1
set_option maxRecDepth 100000 in
set_option maxHeartbeats 4000000 in
theorem b_X9_hasOpenOnes_2 {g : GP} {CX : State → Array Value → Prop} {Q : AH → Option Value → Prop} {X : AH → String → Prop} {v0 : Nat} {v1 : Int32} {σ : AH}
    (o1 : v0 ≠ 0)
    (o2 : zK σ v0 = 9)
    (k1 : ((zI σ v0 4) ≤ v1) → Q σ (some (.int (0 : Int32))))
    (o3 : (¬ (zI σ v0 4) ≤ v1) → opS σ v0 v1)
    (k2 : (¬ (zI σ v0 4) ≤ v1) → (opR σ v0 (ix v1) = 0) → V g mX9_hasOpenOnes (Em g mX9_hasOpenOnes Q X) CX 0 0 2 [(0, .ref v0), (1, .int (v1 + (1 : Int32)))] [] σ)
    (k3 : (¬ (zI σ v0 4) ≤ v1) → (¬ opR σ v0 (ix v1) = 0) → Q σ (some (.int (1 : Int32)))) :
    V g mX9_hasOpenOnes (Em g mX9_hasOpenOnes Q X) CX 0 0 2 [(0, .ref v0), (1, .int v1)] [] σ := by
  refine V_iload_n dX9_hasOpenOnes_2 rfl ?_
  refine V_aload_n dX9_hasOpenOnes_3 rfl ?_
  refine V_getf (fk := 4) (Value.int (zI σ v0 4)) ko_X9 rfl w_735 dX9_hasOpenOnes_4 o1 o2 rfl ?_
  refine V_icmp_ge 26 dX9_hasOpenOnes_7 rfl (fun c1 => ?_) (fun c1 => ?_)
  · refine V_iconst (0 : Int32) dX9_hasOpenOnes_26 (by decide) ?_
    exact V_zret rfl dX9_hasOpenOnes_27 (by decide) (k1 c1)
  · refine V_aload_n dX9_hasOpenOnes_10 rfl ?_
    refine V_iload_n dX9_hasOpenOnes_11 rfl ?_
    refine V_callV1 (as := [.int v1]) (k' := 0) (n' := 0) (s_X9_openAt' (o3 c1)) mw_X9_openAt ko_X9 rfl w_864 w_15 w_862 ar_X9_openAt rfl ⟨rfl, rfl, rfl, rfl, rfl⟩ dX9_hasOpenOnes_12 o1 o2 ?_
    refine V_ifnull 20 dX9_hasOpenOnes_15 rfl (fun c2 => ?_) (fun c2 => ?_)
    · refine V_iinc (v1 + (1 : Int32)) [(0, .ref v0), (1, .int (v1 + (1 : Int32)))] dX9_hasOpenOnes_20 rfl rfl rfl rfl ?_
      refine V_goto 2 dX9_hasOpenOnes_23 rfl ?_
      exact (k2 c1 c2)
    · refine V_iconst (1 : Int32) dX9_hasOpenOnes_18 (by decide) ?_
      exact V_zret rfl dX9_hasOpenOnes_19 (by decide) (k3 c1 c2)

set_option maxRecDepth 100000 in
set_option maxHeartbeats 4000000 in
theorem b_X9_openShares_0 {g : GP} {CX : State → Array Value → Prop} {E : ET} {v0 : Nat} {σ : AH}
    (k1 : V g mX9_openShares E CX 0 0 4 [(0, .ref v0), (1, .int (0 : Int32)), (2, .int (0 : Int32))] [] σ) :
    V g mX9_openShares E CX 0 0 0 [(0, .ref v0)] [] σ := by
  refine V_iconst (0 : Int32) dX9_openShares_0 (by decide) ?_
  refine V_istore_n [(0, .ref v0), (1, .int (0 : Int32))] dX9_openShares_1 rfl rfl ?_
  refine V_iconst (0 : Int32) dX9_openShares_2 (by decide) ?_
  refine V_istore_n [(0, .ref v0), (1, .int (0 : Int32)), (2, .int (0 : Int32))] dX9_openShares_3 rfl rfl ?_
  exact k1
set_option maxRecDepth 100000 in
set_option maxHeartbeats 4000000 in
theorem b_X9_openShares_4 {g : GP} {CX : State → Array Value → Prop} {Q : AH → Option Value → Prop} {X : AH → String → Prop} {v0 : Nat} {v1 : Int32} {v2 : Int32} {σ : AH}
    (o1 : v0 ≠ 0)
    (o2 : zK σ v0 = 9)
    (k1 : ((zI σ v0 4) ≤ v2) → Q σ (some (.int v1)))
    (o3 : (¬ (zI σ v0 4) ≤ v2) → opS σ v0 v2)
    (o4 : (¬ (zI σ v0 4) ≤ v2) → (¬ opR σ v0 (ix v2) = 0) → zK σ (opR σ v0 (ix v2)) = 2)
    (k2 : (¬ (zI σ v0 4) ≤ v2) → (¬ opR σ v0 (ix v2) = 0) → V g mX9_openShares (Em g mX9_openShares Q X) CX 0 0 4 [(0, .ref v0), (1, .int (v1 + (zI σ (opR σ v0 (ix v2)) 6))), (2, .int (v2 + (1 : Int32)))] [] σ)
    (k3 : (¬ (zI σ v0 4) ≤ v2) → (opR σ v0 (ix v2) = 0) → V g mX9_openShares (Em g mX9_openShares Q X) CX 0 0 4 [(0, .ref v0), (1, .int (v1 + (0 : Int32))), (2, .int (v2 + (1 : Int32)))] [] σ) :
    V g mX9_openShares (Em g mX9_openShares Q X) CX 0 0 4 [(0, .ref v0), (1, .int v1), (2, .int v2)] [] σ := by
  refine V_iload_n dX9_openShares_4 rfl ?_
  refine V_aload_n dX9_openShares_5 rfl ?_
  refine V_getf (fk := 4) (Value.int (zI σ v0 4)) ko_X9 rfl w_735 dX9_openShares_6 o1 o2 rfl ?_
  refine V_icmp_ge 39 dX9_openShares_9 rfl (fun c1 => ?_) (fun c1 => ?_)
  · refine V_iload_n dX9_openShares_39 rfl ?_
    exact V_iret rfl dX9_openShares_40 (k1 c1)
  · refine V_aload_n dX9_openShares_12 rfl ?_
    refine V_iload_n dX9_openShares_13 rfl ?_
    refine V_callV1 (as := [.int v2]) (k' := 0) (n' := 0) (s_X9_openAt' (o3 c1)) mw_X9_openAt ko_X9 rfl w_864 w_15 w_862 ar_X9_openAt rfl ⟨rfl, rfl, rfl, rfl, rfl⟩ dX9_openShares_14 o1 o2 ?_
    refine V_astore_n [(0, .ref v0), (1, .int v1), (2, .int v2), (3, .ref (opR σ v0 (ix v2)))] dX9_openShares_17 rfl rfl ?_
    refine V_iload_n dX9_openShares_18 rfl ?_
    refine V_aload_n dX9_openShares_19 rfl ?_
    refine V_ifnonnull 27 dX9_openShares_20 rfl (fun c2 => ?_) (fun c2 => ?_)
    · refine V_aload_n dX9_openShares_27 rfl ?_
      refine V_getf (fk := 6) (Value.int (zI σ (opR σ v0 (ix v2)) 6)) ko_X2 rfl w_785 dX9_openShares_28 c2 (o4 c1 c2) rfl ?_
      refine V_iadd dX9_openShares_31 ?_
      refine V_istore_n [(0, .ref v0), (1, .int (v1 + (zI σ (opR σ v0 (ix v2)) 6))), (2, .int v2), (3, .ref (opR σ v0 (ix v2)))] dX9_openShares_32 rfl rfl ?_
      refine V_iinc (v2 + (1 : Int32)) [(0, .ref v0), (1, .int (v1 + (zI σ (opR σ v0 (ix v2)) 6))), (2, .int (v2 + (1 : Int32))), (3, .ref (opR σ v0 (ix v2)))] dX9_openShares_33 rfl rfl rfl rfl ?_
      refine V_goto 4 dX9_openShares_36 rfl ?_
      exact V_less (mm_keep (mm_keep (mm_keep (mm_drop mm_nil)))) (by decide) (by decide) (k2 c1 c2)
    · refine V_iconst (0 : Int32) dX9_openShares_23 (by decide) ?_
      refine V_goto 31 dX9_openShares_24 rfl ?_
      refine V_iadd dX9_openShares_31 ?_
      refine V_istore_n [(0, .ref v0), (1, .int (v1 + (0 : Int32))), (2, .int v2), (3, .ref (opR σ v0 (ix v2)))] dX9_openShares_32 rfl rfl ?_
      refine V_iinc (v2 + (1 : Int32)) [(0, .ref v0), (1, .int (v1 + (0 : Int32))), (2, .int (v2 + (1 : Int32))), (3, .ref (opR σ v0 (ix v2)))] dX9_openShares_33 rfl rfl rfl rfl ?_
      refine V_goto 4 dX9_openShares_36 rfl ?_
      exact V_less (mm_keep (mm_keep (mm_keep (mm_drop mm_nil)))) (by decide) (by decide) (k3 c1 c2)

set_option maxRecDepth 100000 in
set_option maxHeartbeats 4000000 in
theorem b_X9_openTaxes_0 {g : GP} {CX : State → Array Value → Prop} {E : ET} {v0 : Nat} {σ : AH}
    (k1 : V g mX9_openTaxes E CX 0 0 4 [(0, .ref v0), (1, .int (0 : Int32)), (2, .int (0 : Int32))] [] σ) :
    V g mX9_openTaxes E CX 0 0 0 [(0, .ref v0)] [] σ := by
  refine V_iconst (0 : Int32) dX9_openTaxes_0 (by decide) ?_
  refine V_istore_n [(0, .ref v0), (1, .int (0 : Int32))] dX9_openTaxes_1 rfl rfl ?_
  refine V_iconst (0 : Int32) dX9_openTaxes_2 (by decide) ?_
  refine V_istore_n [(0, .ref v0), (1, .int (0 : Int32)), (2, .int (0 : Int32))] dX9_openTaxes_3 rfl rfl ?_
  exact k1
set_option maxRecDepth 100000 in
set_option maxHeartbeats 4000000 in
theorem b_X9_openTaxes_4 {g : GP} {CX : State → Array Value → Prop} {Q : AH → Option Value → Prop} {X : AH → String → Prop} {v0 : Nat} {v1 : Int32} {v2 : Int32} {σ : AH}
    (o1 : v0 ≠ 0)
    (o2 : zK σ v0 = 9)
    (k1 : ((zI σ v0 4) ≤ v2) → Q σ (some (.int v1)))
    (o3 : (¬ (zI σ v0 4) ≤ v2) → opS σ v0 v2)
    (o4 : (¬ (zI σ v0 4) ≤ v2) → (¬ opR σ v0 (ix v2) = 0) → zK σ (opR σ v0 (ix v2)) = 2)
    (k2 : (¬ (zI σ v0 4) ≤ v2) → (¬ opR σ v0 (ix v2) = 0) → V g mX9_openTaxes (Em g mX9_openTaxes Q X) CX 0 0 4 [(0, .ref v0), (1, .int (v1 + (zI σ (opR σ v0 (ix v2)) 3))), (2, .int (v2 + (1 : Int32)))] [] σ)
    (k3 : (¬ (zI σ v0 4) ≤ v2) → (opR σ v0 (ix v2) = 0) → V g mX9_openTaxes (Em g mX9_openTaxes Q X) CX 0 0 4 [(0, .ref v0), (1, .int (v1 + (0 : Int32))), (2, .int (v2 + (1 : Int32)))] [] σ) :
    V g mX9_openTaxes (Em g mX9_openTaxes Q X) CX 0 0 4 [(0, .ref v0), (1, .int v1), (2, .int v2)] [] σ := by
  refine V_iload_n dX9_openTaxes_4 rfl ?_
  refine V_aload_n dX9_openTaxes_5 rfl ?_
  refine V_getf (fk := 4) (Value.int (zI σ v0 4)) ko_X9 rfl w_735 dX9_openTaxes_6 o1 o2 rfl ?_
  refine V_icmp_ge 39 dX9_openTaxes_9 rfl (fun c1 => ?_) (fun c1 => ?_)
  · refine V_iload_n dX9_openTaxes_39 rfl ?_
    exact V_iret rfl dX9_openTaxes_40 (k1 c1)
  · refine V_aload_n dX9_openTaxes_12 rfl ?_
    refine V_iload_n dX9_openTaxes_13 rfl ?_
    refine V_callV1 (as := [.int v2]) (k' := 0) (n' := 0) (s_X9_openAt' (o3 c1)) mw_X9_openAt ko_X9 rfl w_864 w_15 w_862 ar_X9_openAt rfl ⟨rfl, rfl, rfl, rfl, rfl⟩ dX9_openTaxes_14 o1 o2 ?_
    refine V_astore_n [(0, .ref v0), (1, .int v1), (2, .int v2), (3, .ref (opR σ v0 (ix v2)))] dX9_openTaxes_17 rfl rfl ?_
    refine V_iload_n dX9_openTaxes_18 rfl ?_
    refine V_aload_n dX9_openTaxes_19 rfl ?_
    refine V_ifnonnull 27 dX9_openTaxes_20 rfl (fun c2 => ?_) (fun c2 => ?_)
    · refine V_aload_n dX9_openTaxes_27 rfl ?_
      refine V_getf (fk := 3) (Value.int (zI σ (opR σ v0 (ix v2)) 3)) ko_X2 rfl w_778 dX9_openTaxes_28 c2 (o4 c1 c2) rfl ?_
      refine V_iadd dX9_openTaxes_31 ?_
      refine V_istore_n [(0, .ref v0), (1, .int (v1 + (zI σ (opR σ v0 (ix v2)) 3))), (2, .int v2), (3, .ref (opR σ v0 (ix v2)))] dX9_openTaxes_32 rfl rfl ?_
      refine V_iinc (v2 + (1 : Int32)) [(0, .ref v0), (1, .int (v1 + (zI σ (opR σ v0 (ix v2)) 3))), (2, .int (v2 + (1 : Int32))), (3, .ref (opR σ v0 (ix v2)))] dX9_openTaxes_33 rfl rfl rfl rfl ?_
      refine V_goto 4 dX9_openTaxes_36 rfl ?_
      exact V_less (mm_keep (mm_keep (mm_keep (mm_drop mm_nil)))) (by decide) (by decide) (k2 c1 c2)
    · refine V_iconst (0 : Int32) dX9_openTaxes_23 (by decide) ?_
      refine V_goto 31 dX9_openTaxes_24 rfl ?_
      refine V_iadd dX9_openTaxes_31 ?_
      refine V_istore_n [(0, .ref v0), (1, .int (v1 + (0 : Int32))), (2, .int v2), (3, .ref (opR σ v0 (ix v2)))] dX9_openTaxes_32 rfl rfl ?_
      refine V_iinc (v2 + (1 : Int32)) [(0, .ref v0), (1, .int (v1 + (0 : Int32))), (2, .int (v2 + (1 : Int32))), (3, .ref (opR σ v0 (ix v2)))] dX9_openTaxes_33 rfl rfl rfl rfl ?_
      refine V_goto 4 dX9_openTaxes_36 rfl ?_
      exact V_less (mm_keep (mm_keep (mm_keep (mm_drop mm_nil)))) (by decide) (by decide) (k3 c1 c2)

set_option maxRecDepth 100000 in
set_option maxHeartbeats 4000000 in
theorem b_X9_flownTaxes_0 {g : GP} {CX : State → Array Value → Prop} {E : ET} {v0 : Nat} {σ : AH}
    (k1 : V g mX9_flownTaxes E CX 0 0 4 [(0, .ref v0), (1, .int (0 : Int32)), (2, .int (0 : Int32))] [] σ) :
    V g mX9_flownTaxes E CX 0 0 0 [(0, .ref v0)] [] σ := by
  refine V_iconst (0 : Int32) dX9_flownTaxes_0 (by decide) ?_
  refine V_istore_n [(0, .ref v0), (1, .int (0 : Int32))] dX9_flownTaxes_1 rfl rfl ?_
  refine V_iconst (0 : Int32) dX9_flownTaxes_2 (by decide) ?_
  refine V_istore_n [(0, .ref v0), (1, .int (0 : Int32)), (2, .int (0 : Int32))] dX9_flownTaxes_3 rfl rfl ?_
  exact k1
set_option maxRecDepth 100000 in
set_option maxHeartbeats 4000000 in
theorem b_X9_flownTaxes_4 {g : GP} {CX : State → Array Value → Prop} {Q : AH → Option Value → Prop} {X : AH → String → Prop} {v0 : Nat} {v1 : Int32} {v2 : Int32} {σ : AH}
    (o1 : v0 ≠ 0)
    (o2 : zK σ v0 = 9)
    (k1 : ((zI σ v0 4) ≤ v2) → Q σ (some (.int v1)))
    (o3 : (¬ (zI σ v0 4) ≤ v2) → TX σ v0)
    (k2 : (¬ (zI σ v0 4) ≤ v2) → (atR (zI σ v0 4) 8 v2 (cA σ v0 (ix v2)) = 0) → V g mX9_flownTaxes (Em g mX9_flownTaxes Q X) CX 0 0 4 [(0, .ref v0), (1, .int (v1 + (0 : Int32))), (2, .int (v2 + (1 : Int32)))] [] σ)
    (o4 : (¬ (zI σ v0 4) ≤ v2) → (¬ atR (zI σ v0 4) 8 v2 (cA σ v0 (ix v2)) = 0) → zK σ (atR (zI σ v0 4) 8 v2 (cA σ v0 (ix v2))) = 2)
    (k3 : (¬ (zI σ v0 4) ≤ v2) → (¬ atR (zI σ v0 4) 8 v2 (cA σ v0 (ix v2)) = 0) → (¬ (zI σ (atR (zI σ v0 4) 8 v2 (cA σ v0 (ix v2))) 7) = (1 : Int32)) → V g mX9_flownTaxes (Em g mX9_flownTaxes Q X) CX 0 0 4 [(0, .ref v0), (1, .int (v1 + (0 : Int32))), (2, .int (v2 + (1 : Int32)))] [] σ)
    (k4 : (¬ (zI σ v0 4) ≤ v2) → (¬ atR (zI σ v0 4) 8 v2 (cA σ v0 (ix v2)) = 0) → ((zI σ (atR (zI σ v0 4) 8 v2 (cA σ v0 (ix v2))) 7) = (1 : Int32)) → V g mX9_flownTaxes (Em g mX9_flownTaxes Q X) CX 0 0 4 [(0, .ref v0), (1, .int (v1 + (zI σ (atR (zI σ v0 4) 8 v2 (cA σ v0 (ix v2))) 3))), (2, .int (v2 + (1 : Int32)))] [] σ) :
    V g mX9_flownTaxes (Em g mX9_flownTaxes Q X) CX 0 0 4 [(0, .ref v0), (1, .int v1), (2, .int v2)] [] σ := by
  refine V_iload_n dX9_flownTaxes_4 rfl ?_
  refine V_aload_n dX9_flownTaxes_5 rfl ?_
  refine V_getf (fk := 4) (Value.int (zI σ v0 4)) ko_X9 rfl w_735 dX9_flownTaxes_6 o1 o2 rfl ?_
  refine V_icmp_ge 47 dX9_flownTaxes_9 rfl (fun c1 => ?_) (fun c1 => ?_)
  · refine V_iload_n dX9_flownTaxes_47 rfl ?_
    exact V_iret rfl dX9_flownTaxes_48 (k1 c1)
  · refine V_aload_n dX9_flownTaxes_12 rfl ?_
    refine V_iload_n dX9_flownTaxes_13 rfl ?_
    refine V_callV1 (as := [.int v2]) (k' := 0) (n' := 0) (s_X9_couponAt (o3 c1)) mw_X9_couponAt ko_X9 rfl w_411 w_412 w_410 ar_X9_couponAt rfl ⟨rfl, rfl, rfl, rfl, rfl⟩ dX9_flownTaxes_14 o1 o2 ?_
    refine V_astore_n [(0, .ref v0), (1, .int v1), (2, .int v2), (3, .ref (atR (zI σ v0 4) 8 v2 (cA σ v0 (ix v2))))] dX9_flownTaxes_17 rfl rfl ?_
    refine V_iload_n dX9_flownTaxes_18 rfl ?_
    refine V_aload_n dX9_flownTaxes_19 rfl ?_
    refine V_ifnull 38 dX9_flownTaxes_20 rfl (fun c2 => ?_) (fun c2 => ?_)
    · refine V_iconst (0 : Int32) dX9_flownTaxes_38 (by decide) ?_
      refine V_iadd dX9_flownTaxes_39 ?_
      refine V_istore_n [(0, .ref v0), (1, .int (v1 + (0 : Int32))), (2, .int v2), (3, .ref (atR (zI σ v0 4) 8 v2 (cA σ v0 (ix v2))))] dX9_flownTaxes_40 rfl rfl ?_
      refine V_iinc (v2 + (1 : Int32)) [(0, .ref v0), (1, .int (v1 + (0 : Int32))), (2, .int (v2 + (1 : Int32))), (3, .ref (atR (zI σ v0 4) 8 v2 (cA σ v0 (ix v2))))] dX9_flownTaxes_41 rfl rfl rfl rfl ?_
      refine V_goto 4 dX9_flownTaxes_44 rfl ?_
      exact V_less (mm_keep (mm_keep (mm_keep (mm_drop mm_nil)))) (by decide) (by decide) (k2 c1 c2)
    · refine V_aload_n dX9_flownTaxes_23 rfl ?_
      refine V_getf (fk := 7) (Value.int (zI σ (atR (zI σ v0 4) 8 v2 (cA σ v0 (ix v2))) 7)) ko_X2 rfl w_788 dX9_flownTaxes_24 c2 (o4 c1 c2) rfl ?_
      refine V_iconst (1 : Int32) dX9_flownTaxes_27 (by decide) ?_
      refine V_icmp_ne 38 dX9_flownTaxes_28 rfl (fun c3 => ?_) (fun c3 => ?_)
      · refine V_iconst (0 : Int32) dX9_flownTaxes_38 (by decide) ?_
        refine V_iadd dX9_flownTaxes_39 ?_
        refine V_istore_n [(0, .ref v0), (1, .int (v1 + (0 : Int32))), (2, .int v2), (3, .ref (atR (zI σ v0 4) 8 v2 (cA σ v0 (ix v2))))] dX9_flownTaxes_40 rfl rfl ?_
        refine V_iinc (v2 + (1 : Int32)) [(0, .ref v0), (1, .int (v1 + (0 : Int32))), (2, .int (v2 + (1 : Int32))), (3, .ref (atR (zI σ v0 4) 8 v2 (cA σ v0 (ix v2))))] dX9_flownTaxes_41 rfl rfl rfl rfl ?_
        refine V_goto 4 dX9_flownTaxes_44 rfl ?_
        exact V_less (mm_keep (mm_keep (mm_keep (mm_drop mm_nil)))) (by decide) (by decide) (k3 c1 c2 c3)
      · refine V_aload_n dX9_flownTaxes_31 rfl ?_
        refine V_getf (fk := 3) (Value.int (zI σ (atR (zI σ v0 4) 8 v2 (cA σ v0 (ix v2))) 3)) ko_X2 rfl w_778 dX9_flownTaxes_32 c2 (o4 c1 c2) rfl ?_
        refine V_goto 39 dX9_flownTaxes_35 rfl ?_
        refine V_iadd dX9_flownTaxes_39 ?_
        refine V_istore_n [(0, .ref v0), (1, .int (v1 + (zI σ (atR (zI σ v0 4) 8 v2 (cA σ v0 (ix v2))) 3))), (2, .int v2), (3, .ref (atR (zI σ v0 4) 8 v2 (cA σ v0 (ix v2))))] dX9_flownTaxes_40 rfl rfl ?_
        refine V_iinc (v2 + (1 : Int32)) [(0, .ref v0), (1, .int (v1 + (zI σ (atR (zI σ v0 4) 8 v2 (cA σ v0 (ix v2))) 3))), (2, .int (v2 + (1 : Int32))), (3, .ref (atR (zI σ v0 4) 8 v2 (cA σ v0 (ix v2))))] dX9_flownTaxes_41 rfl rfl rfl rfl ?_
        refine V_goto 4 dX9_flownTaxes_44 rfl ?_
        exact V_less (mm_keep (mm_keep (mm_keep (mm_drop mm_nil)))) (by decide) (by decide) (k4 c1 c2 c3)

set_option maxRecDepth 100000 in
set_option maxHeartbeats 4000000 in
theorem b_X9_turnOpenOnes_0 {g : GP} {CX : State → Array Value → Prop} {E : ET} {v0 : Nat} {v1 : Int32} {v2 : Int32} {σ : AH}
    (k1 : V g mX9_turnOpenOnes E CX 0 0 2 [(0, .ref v0), (1, .int v1), (2, .int v2), (3, .int (0 : Int32))] [] σ) :
    V g mX9_turnOpenOnes E CX 0 0 0 [(0, .ref v0), (1, .int v1), (2, .int v2)] [] σ := by
  refine V_iconst (0 : Int32) dX9_turnOpenOnes_0 (by decide) ?_
  refine V_istore_n [(0, .ref v0), (1, .int v1), (2, .int v2), (3, .int (0 : Int32))] dX9_turnOpenOnes_1 rfl rfl ?_
  exact k1
set_option maxRecDepth 100000 in
set_option maxHeartbeats 4000000 in
theorem b_X9_turnOpenOnes_2 {g : GP} {CX : State → Array Value → Prop} {Q : AH → Option Value → Prop} {X : AH → String → Prop} {v0 : Nat} {v1 : Int32} {v2 : Int32} {v3 : Int32} {σ : AH}
    (k1 : (v1 ≤ v3) → Q σ none)
    (o1 : (¬ v1 ≤ v3) → opS σ v0 v3)
    (o2 : v0 ≠ 0)
    (o3 : zK σ v0 = 9)
    (k2 : (¬ v1 ≤ v3) → (opR σ v0 (ix v3) = 0) → V g mX9_turnOpenOnes (Em g mX9_turnOpenOnes Q X) CX 0 0 2 [(0, .ref v0), (1, .int v1), (2, .int v2), (3, .int (v3 + (1 : Int32)))] [] σ)
    (o4 : (¬ v1 ≤ v3) → (¬ opR σ v0 (ix v3) = 0) → zK σ (opR σ v0 (ix v3)) = 2)
    (k3 : (¬ v1 ≤ v3) → (¬ opR σ v0 (ix v3) = 0) → V g mX9_turnOpenOnes (Em g mX9_turnOpenOnes Q X) CX 0 0 2 [(0, .ref v0), (1, .int v1), (2, .int v2), (3, .int (v3 + (1 : Int32)))] [] (uI σ (opR σ v0 (ix v3)) 7 v2)) :
    V g mX9_turnOpenOnes (Em g mX9_turnOpenOnes Q X) CX 0 0 2 [(0, .ref v0), (1, .int v1), (2, .int v2), (3, .int v3)] [] σ := by
  refine V_iload_n dX9_turnOpenOnes_2 rfl ?_
  refine V_iload_n dX9_turnOpenOnes_3 rfl ?_
  refine V_icmp_ge 31 dX9_turnOpenOnes_4 rfl (fun c1 => ?_) (fun c1 => ?_)
  · exact V_vret rfl dX9_turnOpenOnes_31 (k1 c1)
  · refine V_aload_n dX9_turnOpenOnes_7 rfl ?_
    refine V_iload_n dX9_turnOpenOnes_8 rfl ?_
    refine V_callV1 (as := [.int v3]) (k' := 0) (n' := 0) (s_X9_openAt' (o1 c1)) mw_X9_openAt ko_X9 rfl w_864 w_15 w_862 ar_X9_openAt rfl ⟨rfl, rfl, rfl, rfl, rfl⟩ dX9_turnOpenOnes_9 o2 o3 ?_
    refine V_astore [(0, .ref v0), (1, .int v1), (2, .int v2), (3, .int v3), (4, .ref (opR σ v0 (ix v3)))] dX9_turnOpenOnes_12 rfl rfl ?_
    refine V_aload dX9_turnOpenOnes_14 rfl ?_
    refine V_ifnull 25 dX9_turnOpenOnes_16 rfl (fun c2 => ?_) (fun c2 => ?_)
    · refine V_iinc (v3 + (1 : Int32)) [(0, .ref v0), (1, .int v1), (2, .int v2), (3, .int (v3 + (1 : Int32))), (4, .ref (opR σ v0 (ix v3)))] dX9_turnOpenOnes_25 rfl rfl rfl rfl ?_
      refine V_goto 2 dX9_turnOpenOnes_28 rfl ?_
      exact V_less (mm_keep (mm_keep (mm_keep (mm_keep (mm_drop mm_nil))))) (by decide) (by decide) (k2 c1 c2)
    · refine V_aload dX9_turnOpenOnes_19 rfl ?_
      refine V_iload_n dX9_turnOpenOnes_21 rfl ?_
      refine V_puti (fk := 7) ko_X2 rfl w_788 (Or.inl rfl) dX9_turnOpenOnes_22 rfl c2 (o4 c1 c2) ?_
      refine V_iinc (v3 + (1 : Int32)) [(0, .ref v0), (1, .int v1), (2, .int v2), (3, .int (v3 + (1 : Int32))), (4, .ref (opR σ v0 (ix v3)))] dX9_turnOpenOnes_25 rfl rfl rfl rfl ?_
      refine V_goto 2 dX9_turnOpenOnes_28 rfl ?_
      exact V_less (mm_keep (mm_keep (mm_keep (mm_keep (mm_drop mm_nil))))) (by decide) (by decide) (k3 c1 c2)

def opA (σ : AH) (a n : Nat) : Prop := ∃ j, j < n ∧ zI σ (cA σ a j) 7 = 0
theorem s_X9_hasOpenOnes {g : GP} {σ : AH} {a n : Nat} (hT : TS σ a n) : Ct g mX9_hasOpenOnes [.ref a] σ (FQ σ (some (.int (pj (opA σ a n))))) := by
  have hT' := hT
  obtain ⟨h1, h2, h3, h4, h5, h8⟩ := hT
  refine Ct_of (by decide +kernel) rfl rfl (b_X9_hasOpenOnes_0 ?_)
  refine up_loop (P := fun k => (∀ j, j < k → ¬ zI σ (cA σ a j) 7 = 0) → V g mX9_hasOpenOnes (Em g mX9_hasOpenOnes (FQ σ (some (.int (pj (opA σ a n))))) NX) CT 0 0 2 [(0, .ref a), (1, .int (nI k))] [] σ) n ?_ ?_ 0 (Nat.zero_le _) (fun j hj => by omega)
  · intro hn
    have hle : zI σ a 4 ≤ nI n := by rw [h3]; exact Int32.le_refl _
    refine b_X9_hasOpenOnes_2 h1 h2 (fun _ => fq_i (pj_f ?_).symm) (fun c => absurd hle c) (fun c => absurd hle c) (fun c => absurd hle c)
    rintro ⟨j, hj, q⟩
    exact hn j hj q
  · intro k hk ih hn
    have hlt : ¬ zI σ a 4 ≤ nI k := by rw [h3]; exact nI_ge hk (by omega)
    have ci : (nI k).toNatClampNeg = k := cl0 (by omega)
    refine b_X9_hasOpenOnes_2 h1 h2 (fun c => absurd c hlt) (fun _ => ⟨n, k, hT', hk, rfl⟩) (fun _ c => ?_) (fun _ c => ?_)
    all_goals simp only [ix, ci] at c
    · rw [nI_1]
      refine ih (fun j hj => ?_)
      rcases Nat.lt_succ_iff_lt_or_eq.mp hj with q | q
      · exact hn j q
      · subst q
        intro q
        rw [opR, if_pos q] at c
        exact (h8 j hk).1 c
    · refine fq_i (pj_t ⟨k, hk, ?_⟩).symm
      by_cases q : zI σ (cA σ a k) 7 = 0
      · exact q
      · rw [opR, if_neg q] at c
        exact absurd rfl c
def osF (σ : AH) (a f k : Nat) : Int32 := if zI σ (cA σ a k) 7 = 0 then zI σ (cA σ a k) f else 0
theorem s_X9_openShares {g : GP} {σ : AH} {a n : Nat} (hT : TS σ a n) : Ct g mX9_openShares [.ref a] σ (FQ σ (some (.int (smI (osF σ a 6) n)))) := by
  have hT' := hT
  obtain ⟨h1, h2, h3, h4, h5, h8⟩ := hT
  refine Ct_of (by decide +kernel) rfl rfl (b_X9_openShares_0 ?_)
  refine up_loop (P := fun k => V g mX9_openShares (Em g mX9_openShares (FQ σ (some (.int (smI (osF σ a 6) n)))) NX) CT 0 0 4 [(0, .ref a), (1, .int (smI (osF σ a 6) k)), (2, .int (nI k))] [] σ) n ?_ ?_ 0 (Nat.zero_le _)
  · have hle : zI σ a 4 ≤ nI n := by rw [h3]; exact Int32.le_refl _
    exact b_X9_openShares_4 h1 h2 (fun _ => fq) (fun c => absurd hle c) (fun c => absurd hle c) (fun c => absurd hle c) (fun c => absurd hle c)
  · intro k hk ih
    have hlt : ¬ zI σ a 4 ≤ nI k := by rw [h3]; exact nI_ge hk (by omega)
    have ci : (nI k).toNatClampNeg = k := cl0 (by omega)
    rw [← nI_1] at ih
    refine b_X9_openShares_4 h1 h2 (fun c => absurd c hlt) (fun _ => ⟨n, k, hT', hk, rfl⟩) (fun _ c => ?_) (fun _ c => ?_) (fun _ c => ?_)
    all_goals
      simp only [ix, ci] at c ⊢
      try simp only [opR, smI, osF] at c ih ⊢
    · by_cases q : zI σ (cA σ a k) 7 = 0
      · rw [if_pos q]; exact (h8 k hk).2
      · rw [if_neg q] at c; exact absurd rfl c
    · by_cases q : zI σ (cA σ a k) 7 = 0
      · rw [if_pos q] at ih ⊢; exact ih
      · rw [if_neg q] at c; exact absurd rfl c
    · by_cases q : zI σ (cA σ a k) 7 = 0
      · rw [if_pos q] at c; exact absurd c (h8 k hk).1
      · rw [if_neg q] at ih; exact ih
theorem s_X9_openTaxes {g : GP} {σ : AH} {a n : Nat} (hT : TS σ a n) : Ct g mX9_openTaxes [.ref a] σ (FQ σ (some (.int (smI (osF σ a 3) n)))) := by
  have hT' := hT
  obtain ⟨h1, h2, h3, h4, h5, h8⟩ := hT
  refine Ct_of (by decide +kernel) rfl rfl (b_X9_openTaxes_0 ?_)
  refine up_loop (P := fun k => V g mX9_openTaxes (Em g mX9_openTaxes (FQ σ (some (.int (smI (osF σ a 3) n)))) NX) CT 0 0 4 [(0, .ref a), (1, .int (smI (osF σ a 3) k)), (2, .int (nI k))] [] σ) n ?_ ?_ 0 (Nat.zero_le _)
  · have hle : zI σ a 4 ≤ nI n := by rw [h3]; exact Int32.le_refl _
    exact b_X9_openTaxes_4 h1 h2 (fun _ => fq) (fun c => absurd hle c) (fun c => absurd hle c) (fun c => absurd hle c) (fun c => absurd hle c)
  · intro k hk ih
    have hlt : ¬ zI σ a 4 ≤ nI k := by rw [h3]; exact nI_ge hk (by omega)
    have ci : (nI k).toNatClampNeg = k := cl0 (by omega)
    rw [← nI_1] at ih
    refine b_X9_openTaxes_4 h1 h2 (fun c => absurd c hlt) (fun _ => ⟨n, k, hT', hk, rfl⟩) (fun _ c => ?_) (fun _ c => ?_) (fun _ c => ?_)
    all_goals
      simp only [ix, ci] at c ⊢
      try simp only [opR, smI, osF] at c ih ⊢
    · by_cases q : zI σ (cA σ a k) 7 = 0
      · rw [if_pos q]; exact (h8 k hk).2
      · rw [if_neg q] at c; exact absurd rfl c
    · by_cases q : zI σ (cA σ a k) 7 = 0
      · rw [if_pos q] at ih ⊢; exact ih
      · rw [if_neg q] at c; exact absurd rfl c
    · by_cases q : zI σ (cA σ a k) 7 = 0
      · rw [if_pos q] at c; exact absurd c (h8 k hk).1
      · rw [if_neg q] at ih; exact ih
def ftF (σ : AH) (a k : Nat) : Int32 := if zI σ (cA σ a k) 7 = 1 then zI σ (cA σ a k) 3 else 0
theorem s_X9_flownTaxes {g : GP} {σ : AH} {a n : Nat} (hT : TS σ a n) : Ct g mX9_flownTaxes [.ref a] σ (FQ σ (some (.int (smI (ftF σ a) n)))) := by
  have hT' := hT
  obtain ⟨h1, h2, h3, h4, h5, h8⟩ := hT
  refine Ct_of (by decide +kernel) rfl rfl (b_X9_flownTaxes_0 ?_)
  refine up_loop (P := fun k => V g mX9_flownTaxes (Em g mX9_flownTaxes (FQ σ (some (.int (smI (ftF σ a) n)))) NX) CT 0 0 4 [(0, .ref a), (1, .int (smI (ftF σ a) k)), (2, .int (nI k))] [] σ) n ?_ ?_ 0 (Nat.zero_le _)
  · have hle : zI σ a 4 ≤ nI n := by rw [h3]; exact Int32.le_refl _
    exact b_X9_flownTaxes_4 h1 h2 (fun _ => fq) (fun c => absurd hle c) (fun c => absurd hle c) (fun c => absurd hle c) (fun c => absurd hle c) (fun c => absurd hle c)
  · intro k hk ih
    have hlt : ¬ zI σ a 4 ≤ nI k := by rw [h3]; exact nI_ge hk (by omega)
    have e := TS_at hT' hk
    rw [← nI_1] at ih
    refine b_X9_flownTaxes_4 h1 h2 (fun c => absurd c hlt) (fun _ => ⟨n, hT'⟩) (fun _ c => absurd (e.symm.trans c) (h8 k hk).1) (fun _ _ => by rw [e]; exact (h8 k hk).2) (fun _ _ c => ?_) (fun _ _ c => ?_)
    all_goals
      rw [e] at c
      try rw [e]
      simp only [smI, ftF] at ih
    · rw [if_neg c] at ih; exact ih
    · rw [if_pos c] at ih; exact ih
/-- the heap when the first coupons that are open are turned -/
def toA (σ : AH) (a : Nat) (s : Int32) : Nat → AH
  | 0 => σ
  | d + 1 => if zI (toA σ a s d) (cA σ a d) 7 = 0 then uI (toA σ a s d) (cA σ a d) 7 s else toA σ a s d
theorem toA_N {σ : AH} {a : Nat} {s : Int32} : ∀ d, zN (toA σ a s d) = zN σ ∧ zK (toA σ a s d) = zK σ ∧ zL (toA σ a s d) = zL σ ∧ zJ (toA σ a s d) = zJ σ ∧ zR (toA σ a s d) = zR σ
  | 0 => ⟨rfl, rfl, rfl, rfl, rfl⟩
  | d + 1 => by
    have ih := toA_N (σ := σ) (a := a) (s := s) d
    rw [toA]
    split
    · exact ih
    · exact ih
theorem toA_o {σ : AH} {a : Nat} {s : Int32} {b j : Nat} : ∀ d, (j = 7 → ∀ k, k < d → b ≠ cA σ a k) → zI (toA σ a s d) b j = zI σ b j
  | 0, _ => rfl
  | d + 1, h => by
    have ih := toA_o (σ := σ) (a := a) (s := s) (b := b) (j := j) d (fun h7 k hk => h h7 k (by omega))
    rw [toA]
    split
    · rw [zI_uI, if_neg (fun q => h q.2 d (by omega) q.1)]; exact ih
    · exact ih
theorem toA_c {σ : AH} {a : Nat} {s : Int32} (hs : ¬ s = 0) {k : Nat} : ∀ d, k < d → zI (toA σ a s d) (cA σ a k) 7 = if zI σ (cA σ a k) 7 = 0 then s else zI σ (cA σ a k) 7
  | 0, h => by omega
  | d + 1, h => by
    have ih := toA_c (σ := σ) (a := a) hs (k := k) d
    rw [toA]
    by_cases e : cA σ a k = cA σ a d
    · by_cases hx : ∃ j, j < d ∧ cA σ a j = cA σ a d
      · obtain ⟨j, hj, hjd⟩ := hx
        have hh : zI (toA σ a s d) (cA σ a d) 7 = if zI σ (cA σ a k) 7 = 0 then s else zI σ (cA σ a k) 7 := by
          have := toA_c (σ := σ) (a := a) hs (k := j) d hj
          rw [hjd, ← e] at this
          rw [← e]; exact this
        by_cases h0 : zI σ (cA σ a k) 7 = 0
        · rw [if_pos h0] at hh
          rw [if_neg (by rw [hh]; exact hs), e, hh, if_pos (by rw [← e]; exact h0)]
        · rw [if_neg h0] at hh
          rw [if_neg (by rw [hh]; exact h0), e, hh, if_neg (by rw [← e]; exact h0), e]
      · have ho : zI (toA σ a s d) (cA σ a d) 7 = zI σ (cA σ a d) 7 := toA_o d (fun _ j hj q => hx ⟨j, hj, q.symm⟩)
        rw [ho, e]
        split
        · rw [zI_uI, if_pos ⟨rfl, rfl⟩]
        · exact ho
    · have hk : k < d := by
        rcases Nat.lt_succ_iff_lt_or_eq.mp h with q | q
        · exact q
        · subst q; exact absurd rfl e
      split
      · rw [zI_uI, if_neg (fun q => e q.1)]; exact ih hk
      · exact ih hk
theorem TS_toA {σ : AH} {a n b m : Nat} {s : Int32} (h : TS σ a n) (d : Nat) : TS (toA σ b s d) a n ∨ ∃ k, k < d ∧ a = cA σ b k := by
  by_cases hx : ∃ k, k < d ∧ a = cA σ b k
  · exact Or.inr hx
  · refine Or.inl ?_
    obtain ⟨h1, h2, h3, h4, h5, h8⟩ := h
    obtain ⟨e1, e2, e3, e4, e5⟩ := toA_N (σ := σ) (a := b) (s := s) d
    refine ⟨h1, by rw [e2]; exact h2, ?_, h4, ?_, fun k hk => ?_⟩
    · rw [toA_o d (fun q => absurd q (by decide))]; exact h3
    · rw [e2, e3, e5]; exact h5
    · rw [cA, e2, e5]; exact h8 k hk
theorem s_X9_turnOpenOnes {g : GP} {σ : AH} {a n m : Nat} {s : Int32} (hT : TS σ a n) (hm : m ≤ n) : Ct g mX9_turnOpenOnes [.ref a, .int (nI m), .int s] σ (FQ (toA σ a s m) none) := by
  have hT' := hT
  obtain ⟨h1, h2, h3, h4, h5, h8⟩ := hT
  refine Ct_of (by decide +kernel) rfl rfl (b_X9_turnOpenOnes_0 ?_)
  have hTS : ∀ d, TS (toA σ a s d) a n := fun d => by
    obtain ⟨e1, e2, e3, e4, e5⟩ := toA_N (σ := σ) (a := a) (s := s) d
    refine ⟨h1, by rw [e2]; exact h2, ?_, h4, ?_, fun k hk => ?_⟩
    · rw [toA_o d (fun q => absurd q (by decide))]; exact h3
    · rw [e2, e3, e5]; exact h5
    · rw [cA, e2, e5]; exact h8 k hk
  have hcA : ∀ d k, cA (toA σ a s d) a k = cA σ a k := fun d k => by
    rw [cA, (toA_N (σ := σ) (a := a) (s := s) d).2.2.2.2]
  refine up_loop (P := fun k => V g mX9_turnOpenOnes (Em g mX9_turnOpenOnes (FQ (toA σ a s m) none) NX) CT 0 0 2 [(0, .ref a), (1, .int (nI m)), (2, .int s), (3, .int (nI k))] [] (toA σ a s k)) m ?_ ?_ 0 (Nat.zero_le _)
  · have hle : nI m ≤ nI m := Int32.le_refl _
    exact b_X9_turnOpenOnes_2 (fun _ => fq) (fun c => absurd hle c) h1 (hTS m).2.1 (fun c => absurd hle c) (fun c => absurd hle c) (fun c => absurd hle c)
  · intro k hk ih
    have hlt : ¬ nI m ≤ nI k := nI_ge hk (by omega)
    have ci : (nI k).toNatClampNeg = k := cl0 (by omega)
    rw [← nI_1] at ih
    have hop : opR (toA σ a s k) a k = if zI (toA σ a s k) (cA σ a k) 7 = 0 then cA σ a k else 0 := by rw [opR, hcA]
    refine b_X9_turnOpenOnes_2 (σ := toA σ a s k) (fun c => absurd c hlt) (fun _ => ⟨n, k, hTS k, by omega, rfl⟩) h1 (hTS k).2.1 (fun _ c => ?_) (fun _ c => ?_) (fun _ c => ?_)
    all_goals
      simp only [ix, ci, hop] at c ⊢
    · by_cases q : zI (toA σ a s k) (cA σ a k) 7 = 0
      · rw [if_pos q] at c; exact absurd c (h8 k (by omega)).1
      · rw [toA, if_neg q] at ih; exact ih
    · by_cases q : zI (toA σ a s k) (cA σ a k) 7 = 0
      · rw [if_pos q, (toA_N k).2.1]; exact (h8 k (by omega)).2
      · rw [if_neg q] at c; exact absurd rfl c
    · by_cases q : zI (toA σ a s k) (cA σ a k) 7 = 0
      · rw [toA, if_pos q] at ih
        rw [if_pos q]; exact ih
      · rw [if_neg q] at c; exact absurd rfl c
