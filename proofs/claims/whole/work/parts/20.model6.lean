/-! ===== the reference: shares ===== -/
/-- a heap with its ints put anew -/
def sI (σ : AH) (F : Nat → Nat → Int32) : AH := (zN σ, zK σ, zL σ, F, zJ σ, zR σ)
theorem zI_sI (σ : AH) (F : Nat → Nat → Int32) (a k : Nat) : zI (sI σ F) a k = F a k := rfl
theorem uI_sI (σ : AH) (F : Nat → Nat → Int32) (a k : Nat) (x : Int32) : uI (sI σ F) a k x = sI σ (fun b j => if b = a ∧ j = k then x else F b j) := rfl
theorem sI_self (σ : AH) : sI σ (zI σ) = σ := rfl
theorem Sh_sI {σ : AH} {F : Nat → Nat → Int32} (h : Sh σ) : Sh (sI σ F) := h
theorem sI_cg {σ : AH} {F G : Nat → Nat → Int32} (h : ∀ a k, F a k = G a k) : sI σ F = sI σ G := by
  have : F = G := by funext a k; exact h a k
  rw [this]
theorem EqP_sI {σ : AH} {F : Nat → Nat → Int32} (h : ∀ a k, a < 50 → ¬ (a = 33 ∧ k ≠ 0 ∧ k ≠ 6 ∧ k ≠ 14 ∧ k ≠ 16) → F a k = zI σ a k) : EqP (sI σ F) σ :=
  ⟨h 33 0 (by decide) (by omega), h 33 6 (by decide) (by omega), h 33 14 (by decide) (by omega), h 33 16 (by decide) (by omega), fun a k h1 h2 => h a k (by omega) (by omega)⟩
theorem pvF_eq {τ σ : AH} (h : EqP τ σ) (k : Nat) : pvF τ k = pvF σ k := by
  rw [pvF, pvF, h.2.2.2.2 48 _ (by decide) (by decide), h.2.2.2.2 46 _ (by decide) (by decide), h.2.2.2.2 47 _ (by decide) (by decide), h.2.2.2.2 36 _ (by decide) (by decide)]
theorem wtF_eq {τ σ : AH} (h : EqP τ σ) (k : Nat) : wtF τ k = wtF σ k := by
  rw [wtF, wtF, mi_eq h, h.2.2.2.2 46 _ (by decide) (by decide), h.2.2.2.2 47 _ (by decide) (by decide), h.2.2.2.2 35 _ (by decide) (by decide)]
theorem CA_eq {τ σ : AH} (h : EqP τ σ) (hC : CA σ) : CA τ := fun k hk => by rw [h.2.2.2.2 48 _ (by decide) (by decide)]; exact hC k hk
/-- what a proviso takes of what is left, and what is left behind so many legs -/
def lfS (pv : Nat → Int32) (i : Nat) (c : Int32) : Nat → Int32
  | 0 => c
  | d + 1 => lfS pv i c d - (if pv (i + d) = -1 then 0 else if lfS pv i c d ≤ pv (i + d) then lfS pv i c d else pv (i + d))
def muS (pv : Nat → Int32) (i : Nat) (c : Int32) (d : Nat) : Int32 := if pv (i + d) = -1 then 0 else if lfS pv i c d ≤ pv (i + d) then lfS pv i c d else pv (i + d)
def alS (pv wt : Nat → Int32) (i : Nat) : Nat → Int32
  | 0 => 0
  | d + 1 => alS pv wt i d + (if pv (i + d) = -1 then wt (i + d) else 0)
def otS (pv : Nat → Int32) (i : Nat) : Nat → Int32
  | 0 => -1
  | d + 1 => if pv (i + d) = -1 then nI (i + d) else otS pv i d
/-- a share by weight -/
def qtS (wt : Nat → Int32) (lf al : Int32) (k : Nat) : Int32 := Int64.toInt32 (Int32.toInt64 lf * Int32.toInt64 (wt k) / Int32.toInt64 al)
def rsS (pv wt : Nat → Int32) (i : Nat) (lf al : Int32) : Nat → Int32
  | 0 => lf
  | d + 1 => rsS pv wt i lf al d - (if pv (i + d) = -1 then qtS wt lf al (i + d) else 0)
/-- the share of the leg i + d in a part of n legs from i on -/
def shS (pv wt : Nat → Int32) (i n : Nat) (c : Int32) (d : Nat) : Int32 :=
  if pv (i + d) = -1 then (if nI (i + d) = otS pv i n then qtS wt (lfS pv i c n) (alS pv wt i n) (i + d) + rsS pv wt i (lfS pv i c n) (alS pv wt i n) n else qtS wt (lfS pv i c n) (alS pv wt i n) (i + d)) else muS pv i c d
/-- what is no share -/
def unS (pv : Nat → Int32) (i n : Nat) (c : Int32) : Int32 := if otS pv i n = -1 then lfS pv i c n else 0
theorem otS_in {pv : Nat → Int32} {i : Nat} : ∀ d, otS pv i d = -1 ∨ ∃ k, i ≤ k ∧ k < i + d ∧ otS pv i d = nI k ∧ pv k = -1
  | 0 => Or.inl rfl
  | d + 1 => by
    rw [otS]
    split
    · exact Or.inr ⟨i + d, by omega, by omega, rfl, by assumption⟩
    · rcases otS_in (pv := pv) (i := i) d with h | ⟨k, h1, h2, h3, h4⟩
      · exact Or.inl h
      · exact Or.inr ⟨k, h1, by omega, h3, h4⟩
theorem otS_no {pv : Nat → Int32} {i : Nat} : ∀ d, i + d < 2 ^ 30 → (otS pv i d = -1 ↔ ∀ k, k < d → pv (i + k) ≠ -1)
  | 0, _ => ⟨fun _ k hk => absurd hk (Nat.not_lt_zero k), fun _ => rfl⟩
  | d + 1, hb => by
    rw [otS]
    split
    · rename_i h
      refine ⟨fun q => absurd q ?_, fun q => absurd h (q d (by omega))⟩
      intro q
      have h1 := congrArg Int32.toInt q
      rw [nI_toInt (by omega)] at h1
      change ((i + d : Nat) : Int) = -1 at h1
      omega
    · rename_i h
      rw [otS_no d (by omega)]
      refine ⟨fun q k hk => ?_, fun q k hk => q k (by omega)⟩
      rcases Nat.lt_or_ge k d with h6 | h6
      · exact q k h6
      · rw [show k = d by omega]; exact h
abbrev shR1 (σ : AH) (b : Nat) (n : Nat) (f : Nat → Int32) : AH := sI σ (fun a k => if a = 56 ∧ b ≤ k ∧ k < b + n then f (k - b) else zI σ a k)
theorem EqP_shR1 {σ : AH} {b n : Nat} {f : Nat → Int32} : EqP (shR1 σ b n f) σ := EqP_sI (fun a k h _ => by rw [if_neg (by omega)])
set_option maxRecDepth 100000 in
set_option maxHeartbeats 4000000 in
theorem b_X12_shares_0 {g : GP} {CX : State → Array Value → Prop} {E : ET} {v1 : Int32} {v2 : Int32} {v3 : Int32} {σ : AH}
    (hS : Sh σ)
    (o1 : PO σ)
    (o2 : vp_in v2 9)
    (o3 : vp_in v3 9)
    (k1 : V g mX12_shares E CX 0 0 17 [(0, .ref 33), (1, .int v1), (2, .int v2), (3, .int v3), (4, .int (partF σ (Int32.toNatClampNeg v2) (Int32.toNatClampNeg v3))), (5, .int (0 : Int32)), (6, .int (-1 : Int32)), (7, .int v2)] [] σ) :
    V g mX12_shares E CX 0 0 0 [(0, .ref 33), (1, .int v1), (2, .int v2), (3, .int v3)] [] σ := by
  refine V_aload_n dX12_shares_0 rfl ?_
  refine V_iload_n dX12_shares_1 rfl ?_
  refine V_iload_n dX12_shares_2 rfl ?_
  refine V_callV1 (as := [.int v2, .int v3]) (k' := 0) (n' := 0) (s_X12_partOf hS o1 o2 o3) mw_X12_partOf ko_X12 rfl w_1271 w_21 w_1269 ar_X12_partOf rfl ⟨rfl, rfl, rfl, rfl, rfl⟩ dX12_shares_3 (by decide) (shk hS 33 rfl) ?_
  refine V_istore [(0, .ref 33), (1, .int v1), (2, .int v2), (3, .int v3), (4, .int (partF σ (Int32.toNatClampNeg v2) (Int32.toNatClampNeg v3)))] dX12_shares_6 rfl rfl ?_
  refine V_iconst (0 : Int32) dX12_shares_8 (by decide) ?_
  refine V_istore [(0, .ref 33), (1, .int v1), (2, .int v2), (3, .int v3), (4, .int (partF σ (Int32.toNatClampNeg v2) (Int32.toNatClampNeg v3))), (5, .int (0 : Int32))] dX12_shares_9 rfl rfl ?_
  refine V_iconst (-1 : Int32) dX12_shares_11 (by decide) ?_
  refine V_istore [(0, .ref 33), (1, .int v1), (2, .int v2), (3, .int v3), (4, .int (partF σ (Int32.toNatClampNeg v2) (Int32.toNatClampNeg v3))), (5, .int (0 : Int32)), (6, .int (-1 : Int32))] dX12_shares_12 rfl rfl ?_
  refine V_iload_n dX12_shares_14 rfl ?_
  refine V_istore [(0, .ref 33), (1, .int v1), (2, .int v2), (3, .int v3), (4, .int (partF σ (Int32.toNatClampNeg v2) (Int32.toNatClampNeg v3))), (5, .int (0 : Int32)), (6, .int (-1 : Int32)), (7, .int v2)] dX12_shares_15 rfl rfl ?_
  exact k1
set_option maxRecDepth 100000 in
set_option maxHeartbeats 4000000 in
theorem b_X12_shares_17 {g : GP} {CX : State → Array Value → Prop} {E : ET} {v1 : Int32} {v2 : Int32} {v3 : Int32} {v4 : Int32} {v5 : Int32} {v6 : Int32} {v7 : Int32} {σ : AH}
    (hS : Sh σ)
    (k1 : (v3 ≤ v7) → V g mX12_shares E CX 0 0 127 [(0, .ref 33), (1, .int v1), (2, .int v2), (3, .int v3), (4, .int v4), (5, .int v5), (6, .int v6), (7, .int v4), (8, .int v2)] [] σ)
    (o1 : (¬ v3 ≤ v7) → PO σ)
    (o2 : (¬ v3 ≤ v7) → CA σ)
    (o3 : (¬ v3 ≤ v7) → vp_in v7 8)
    (o4 : (¬ v3 ≤ v7) → (¬ (pvF σ (ix v7)) = (-1 : Int32)) → (v4 ≤ (pvF σ (ix v7))) → vp_in (((8 : Int32) * v1) + v7) 240)
    (k2 : (¬ v3 ≤ v7) → (¬ (pvF σ (ix v7)) = (-1 : Int32)) → (v4 ≤ (pvF σ (ix v7))) → V g mX12_shares E CX 0 0 17 [(0, .ref 33), (1, .int v1), (2, .int v2), (3, .int v3), (4, .int (v4 - v4)), (5, .int (v5 + (0 : Int32))), (6, .int v6), (7, .int (v7 + (1 : Int32)))] [] (uI σ 56 (Int32.toNatClampNeg (((8 : Int32) * v1) + v7)) v4))
    (o5 : (¬ v3 ≤ v7) → (¬ (pvF σ (ix v7)) = (-1 : Int32)) → (¬ v4 ≤ (pvF σ (ix v7))) → vp_in (((8 : Int32) * v1) + v7) 240)
    (k3 : (¬ v3 ≤ v7) → (¬ (pvF σ (ix v7)) = (-1 : Int32)) → (¬ v4 ≤ (pvF σ (ix v7))) → V g mX12_shares E CX 0 0 17 [(0, .ref 33), (1, .int v1), (2, .int v2), (3, .int v3), (4, .int (v4 - (pvF σ (ix v7)))), (5, .int (v5 + (0 : Int32))), (6, .int v6), (7, .int (v7 + (1 : Int32)))] [] (uI σ 56 (Int32.toNatClampNeg (((8 : Int32) * v1) + v7)) (pvF σ (ix v7))))
    (o6 : (¬ v3 ≤ v7) → ((pvF σ (ix v7)) = (-1 : Int32)) → vp_in (((8 : Int32) * v1) + v7) 240)
    (o7 : (¬ v3 ≤ v7) → ((pvF σ (ix v7)) = (-1 : Int32)) → PO (uI σ 56 (Int32.toNatClampNeg (((8 : Int32) * v1) + v7)) (0 : Int32)))
    (k4 : (¬ v3 ≤ v7) → ((pvF σ (ix v7)) = (-1 : Int32)) → V g mX12_shares E CX 0 0 17 [(0, .ref 33), (1, .int v1), (2, .int v2), (3, .int v3), (4, .int (v4 - (0 : Int32))), (5, .int (v5 + (wtF (uI σ 56 (Int32.toNatClampNeg (((8 : Int32) * v1) + v7)) (0 : Int32)) (ix v7)))), (6, .int v7), (7, .int (v7 + (1 : Int32)))] [] (uI σ 56 (Int32.toNatClampNeg (((8 : Int32) * v1) + v7)) (0 : Int32))) :
    V g mX12_shares E CX 0 0 17 [(0, .ref 33), (1, .int v1), (2, .int v2), (3, .int v3), (4, .int v4), (5, .int v5), (6, .int v6), (7, .int v7)] [] σ := by
  refine V_iload dX12_shares_17 rfl ?_
  refine V_iload_n dX12_shares_19 rfl ?_
  refine V_icmp_ge 120 dX12_shares_20 rfl (fun c1 => ?_) (fun c1 => ?_)
  · refine V_iload dX12_shares_120 rfl ?_
    refine V_istore [(0, .ref 33), (1, .int v1), (2, .int v2), (3, .int v3), (4, .int v4), (5, .int v5), (6, .int v6), (7, .int v4)] dX12_shares_122 rfl rfl ?_
    refine V_iload_n dX12_shares_124 rfl ?_
    refine V_istore [(0, .ref 33), (1, .int v1), (2, .int v2), (3, .int v3), (4, .int v4), (5, .int v5), (6, .int v6), (7, .int v4), (8, .int v2)] dX12_shares_125 rfl rfl ?_
    exact (k1 c1)
  · refine V_aload_n dX12_shares_23 rfl ?_
    refine V_iload dX12_shares_24 rfl ?_
    refine V_callV1 (as := [.int v7]) (k' := 0) (n' := 0) (s_X12_provisoOf hS (o1 c1) (o2 c1) (o3 c1)) mw_X12_provisoOf ko_X12 rfl w_1332 w_32 w_1330 ar_X12_provisoOf rfl ⟨rfl, rfl, rfl, rfl, rfl⟩ dX12_shares_26 (by decide) (shk hS 33 rfl) ?_
    refine V_istore [(0, .ref 33), (1, .int v1), (2, .int v2), (3, .int v3), (4, .int v4), (5, .int v5), (6, .int v6), (7, .int v7), (8, .int (pvF σ (ix v7)))] dX12_shares_29 rfl rfl ?_
    refine V_iload dX12_shares_31 rfl ?_
    refine V_iconst (-1 : Int32) dX12_shares_33 (by decide) ?_
    refine V_icmp_ne 41 dX12_shares_34 rfl (fun c2 => ?_) (fun c2 => ?_)
    · refine V_iload dX12_shares_41 rfl ?_
      refine V_iload dX12_shares_43 rfl ?_
      refine V_icmp_ge 53 dX12_shares_45 rfl (fun c3 => ?_) (fun c3 => ?_)
      · refine V_iload dX12_shares_53 rfl ?_
        refine V_istore [(0, .ref 33), (1, .int v1), (2, .int v2), (3, .int v3), (4, .int v4), (5, .int v5), (6, .int v6), (7, .int v7), (8, .int (pvF σ (ix v7))), (9, .int v4)] dX12_shares_55 rfl rfl ?_
        refine V_aload_n dX12_shares_57 rfl ?_
        refine V_getf (fk := 30) (Value.ref 56) ko_X12 rfl w_1085 dX12_shares_58 (by decide) (shk hS 33 rfl) (congrArg Value.ref (shr hS 33 30 56 (by decide))) ?_
        refine V_bipush (8 : Int32) dX12_shares_61 (by decide) ?_
        refine V_iload_n dX12_shares_63 rfl ?_
        refine V_imul dX12_shares_64 ?_
        refine V_iload dX12_shares_65 rfl ?_
        refine V_iadd dX12_shares_67 ?_
        refine V_iload dX12_shares_68 rfl ?_
        refine V_iast dX12_shares_70 (by decide) (shk hS 56 rfl) (vp_l (n := 240) (shl hS 56 rfl) (o4 c1 c2 c3)) ?_
        refine V_iload dX12_shares_71 rfl ?_
        refine V_iload dX12_shares_73 rfl ?_
        refine V_isub dX12_shares_75 ?_
        refine V_istore [(0, .ref 33), (1, .int v1), (2, .int v2), (3, .int v3), (4, .int (v4 - v4)), (5, .int v5), (6, .int v6), (7, .int v7), (8, .int (pvF σ (ix v7))), (9, .int v4)] dX12_shares_76 rfl rfl ?_
        refine V_iload dX12_shares_78 rfl ?_
        refine V_iload dX12_shares_80 rfl ?_
        refine V_iconst (-1 : Int32) dX12_shares_82 (by decide) ?_
        refine V_icmp_ne 95 dX12_shares_83 rfl (fun _ => ?_) (fun z_ => (by first | exact absurd (c2) z_ | exact absurd z_ (c2)))
        refine V_iconst (0 : Int32) dX12_shares_95 (by decide) ?_
        refine V_iadd dX12_shares_96 ?_
        refine V_istore [(0, .ref 33), (1, .int v1), (2, .int v2), (3, .int v3), (4, .int (v4 - v4)), (5, .int (v5 + (0 : Int32))), (6, .int v6), (7, .int v7), (8, .int (pvF σ (ix v7))), (9, .int v4)] dX12_shares_97 rfl rfl ?_
        refine V_iload dX12_shares_99 rfl ?_
        refine V_iconst (-1 : Int32) dX12_shares_101 (by decide) ?_
        refine V_icmp_ne 110 dX12_shares_102 rfl (fun _ => ?_) (fun z_ => (by first | exact absurd (c2) z_ | exact absurd z_ (c2)))
        refine V_iload dX12_shares_110 rfl ?_
        refine V_istore [(0, .ref 33), (1, .int v1), (2, .int v2), (3, .int v3), (4, .int (v4 - v4)), (5, .int (v5 + (0 : Int32))), (6, .int v6), (7, .int v7), (8, .int (pvF σ (ix v7))), (9, .int v4)] dX12_shares_112 rfl rfl ?_
        refine V_iinc (v7 + (1 : Int32)) [(0, .ref 33), (1, .int v1), (2, .int v2), (3, .int v3), (4, .int (v4 - v4)), (5, .int (v5 + (0 : Int32))), (6, .int v6), (7, .int (v7 + (1 : Int32))), (8, .int (pvF σ (ix v7))), (9, .int v4)] dX12_shares_114 rfl rfl rfl rfl ?_
        refine V_goto 17 dX12_shares_117 rfl ?_
        exact V_less (mm_keep (mm_keep (mm_keep (mm_keep (mm_keep (mm_keep (mm_keep (mm_keep (mm_drop (mm_drop mm_nil)))))))))) (by decide) (by decide) (k2 c1 c2 c3)
      · refine V_iload dX12_shares_48 rfl ?_
        refine V_goto 55 dX12_shares_50 rfl ?_
        refine V_istore [(0, .ref 33), (1, .int v1), (2, .int v2), (3, .int v3), (4, .int v4), (5, .int v5), (6, .int v6), (7, .int v7), (8, .int (pvF σ (ix v7))), (9, .int (pvF σ (ix v7)))] dX12_shares_55 rfl rfl ?_
        refine V_aload_n dX12_shares_57 rfl ?_
        refine V_getf (fk := 30) (Value.ref 56) ko_X12 rfl w_1085 dX12_shares_58 (by decide) (shk hS 33 rfl) (congrArg Value.ref (shr hS 33 30 56 (by decide))) ?_
        refine V_bipush (8 : Int32) dX12_shares_61 (by decide) ?_
        refine V_iload_n dX12_shares_63 rfl ?_
        refine V_imul dX12_shares_64 ?_
        refine V_iload dX12_shares_65 rfl ?_
        refine V_iadd dX12_shares_67 ?_
        refine V_iload dX12_shares_68 rfl ?_
        refine V_iast dX12_shares_70 (by decide) (shk hS 56 rfl) (vp_l (n := 240) (shl hS 56 rfl) (o5 c1 c2 c3)) ?_
        refine V_iload dX12_shares_71 rfl ?_
        refine V_iload dX12_shares_73 rfl ?_
        refine V_isub dX12_shares_75 ?_
        refine V_istore [(0, .ref 33), (1, .int v1), (2, .int v2), (3, .int v3), (4, .int (v4 - (pvF σ (ix v7)))), (5, .int v5), (6, .int v6), (7, .int v7), (8, .int (pvF σ (ix v7))), (9, .int (pvF σ (ix v7)))] dX12_shares_76 rfl rfl ?_
        refine V_iload dX12_shares_78 rfl ?_
        refine V_iload dX12_shares_80 rfl ?_
        refine V_iconst (-1 : Int32) dX12_shares_82 (by decide) ?_
        refine V_icmp_ne 95 dX12_shares_83 rfl (fun _ => ?_) (fun z_ => (by first | exact absurd (c2) z_ | exact absurd z_ (c2)))
        refine V_iconst (0 : Int32) dX12_shares_95 (by decide) ?_
        refine V_iadd dX12_shares_96 ?_
        refine V_istore [(0, .ref 33), (1, .int v1), (2, .int v2), (3, .int v3), (4, .int (v4 - (pvF σ (ix v7)))), (5, .int (v5 + (0 : Int32))), (6, .int v6), (7, .int v7), (8, .int (pvF σ (ix v7))), (9, .int (pvF σ (ix v7)))] dX12_shares_97 rfl rfl ?_
        refine V_iload dX12_shares_99 rfl ?_
        refine V_iconst (-1 : Int32) dX12_shares_101 (by decide) ?_
        refine V_icmp_ne 110 dX12_shares_102 rfl (fun _ => ?_) (fun z_ => (by first | exact absurd (c2) z_ | exact absurd z_ (c2)))
        refine V_iload dX12_shares_110 rfl ?_
        refine V_istore [(0, .ref 33), (1, .int v1), (2, .int v2), (3, .int v3), (4, .int (v4 - (pvF σ (ix v7)))), (5, .int (v5 + (0 : Int32))), (6, .int v6), (7, .int v7), (8, .int (pvF σ (ix v7))), (9, .int (pvF σ (ix v7)))] dX12_shares_112 rfl rfl ?_
        refine V_iinc (v7 + (1 : Int32)) [(0, .ref 33), (1, .int v1), (2, .int v2), (3, .int v3), (4, .int (v4 - (pvF σ (ix v7)))), (5, .int (v5 + (0 : Int32))), (6, .int v6), (7, .int (v7 + (1 : Int32))), (8, .int (pvF σ (ix v7))), (9, .int (pvF σ (ix v7)))] dX12_shares_114 rfl rfl rfl rfl ?_
        refine V_goto 17 dX12_shares_117 rfl ?_
        exact V_less (mm_keep (mm_keep (mm_keep (mm_keep (mm_keep (mm_keep (mm_keep (mm_keep (mm_drop (mm_drop mm_nil)))))))))) (by decide) (by decide) (k3 c1 c2 c3)
    · refine V_iconst (0 : Int32) dX12_shares_37 (by decide) ?_
      refine V_goto 55 dX12_shares_38 rfl ?_
      refine V_istore [(0, .ref 33), (1, .int v1), (2, .int v2), (3, .int v3), (4, .int v4), (5, .int v5), (6, .int v6), (7, .int v7), (8, .int (pvF σ (ix v7))), (9, .int (0 : Int32))] dX12_shares_55 rfl rfl ?_
      refine V_aload_n dX12_shares_57 rfl ?_
      refine V_getf (fk := 30) (Value.ref 56) ko_X12 rfl w_1085 dX12_shares_58 (by decide) (shk hS 33 rfl) (congrArg Value.ref (shr hS 33 30 56 (by decide))) ?_
      refine V_bipush (8 : Int32) dX12_shares_61 (by decide) ?_
      refine V_iload_n dX12_shares_63 rfl ?_
      refine V_imul dX12_shares_64 ?_
      refine V_iload dX12_shares_65 rfl ?_
      refine V_iadd dX12_shares_67 ?_
      refine V_iload dX12_shares_68 rfl ?_
      refine V_iast dX12_shares_70 (by decide) (shk hS 56 rfl) (vp_l (n := 240) (shl hS 56 rfl) (o6 c1 c2)) ?_
      refine V_iload dX12_shares_71 rfl ?_
      refine V_iload dX12_shares_73 rfl ?_
      refine V_isub dX12_shares_75 ?_
      refine V_istore [(0, .ref 33), (1, .int v1), (2, .int v2), (3, .int v3), (4, .int (v4 - (0 : Int32))), (5, .int v5), (6, .int v6), (7, .int v7), (8, .int (pvF σ (ix v7))), (9, .int (0 : Int32))] dX12_shares_76 rfl rfl ?_
      refine V_iload dX12_shares_78 rfl ?_
      refine V_iload dX12_shares_80 rfl ?_
      refine V_iconst (-1 : Int32) dX12_shares_82 (by decide) ?_
      refine V_icmp_ne 95 dX12_shares_83 rfl (fun z_ => (by first | exact absurd (c2) z_ | exact absurd z_ (c2))) (fun _ => ?_)
      refine V_aload_n dX12_shares_86 rfl ?_
      refine V_iload dX12_shares_87 rfl ?_
      refine V_callV1 (as := [.int v7]) (k' := 0) (n' := 0) (s_X12_weightOf (Sh_uI hS) (o7 c1 c2) (o3 c1)) mw_X12_weightOf ko_X12 rfl w_1336 w_33 w_1334 ar_X12_weightOf rfl ⟨rfl, rfl, rfl, rfl, rfl⟩ dX12_shares_89 (by decide) (shk (Sh_uI hS) 33 rfl) ?_
      refine V_goto 96 dX12_shares_92 rfl ?_
      refine V_iadd dX12_shares_96 ?_
      refine V_istore [(0, .ref 33), (1, .int v1), (2, .int v2), (3, .int v3), (4, .int (v4 - (0 : Int32))), (5, .int (v5 + (wtF (uI σ 56 (Int32.toNatClampNeg (((8 : Int32) * v1) + v7)) (0 : Int32)) (ix v7)))), (6, .int v6), (7, .int v7), (8, .int (pvF σ (ix v7))), (9, .int (0 : Int32))] dX12_shares_97 rfl rfl ?_
      refine V_iload dX12_shares_99 rfl ?_
      refine V_iconst (-1 : Int32) dX12_shares_101 (by decide) ?_
      refine V_icmp_ne 110 dX12_shares_102 rfl (fun z_ => (by first | exact absurd (c2) z_ | exact absurd z_ (c2))) (fun _ => ?_)
      refine V_iload dX12_shares_105 rfl ?_
      refine V_goto 112 dX12_shares_107 rfl ?_
      refine V_istore [(0, .ref 33), (1, .int v1), (2, .int v2), (3, .int v3), (4, .int (v4 - (0 : Int32))), (5, .int (v5 + (wtF (uI σ 56 (Int32.toNatClampNeg (((8 : Int32) * v1) + v7)) (0 : Int32)) (ix v7)))), (6, .int v7), (7, .int v7), (8, .int (pvF σ (ix v7))), (9, .int (0 : Int32))] dX12_shares_112 rfl rfl ?_
      refine V_iinc (v7 + (1 : Int32)) [(0, .ref 33), (1, .int v1), (2, .int v2), (3, .int v3), (4, .int (v4 - (0 : Int32))), (5, .int (v5 + (wtF (uI σ 56 (Int32.toNatClampNeg (((8 : Int32) * v1) + v7)) (0 : Int32)) (ix v7)))), (6, .int v7), (7, .int (v7 + (1 : Int32))), (8, .int (pvF σ (ix v7))), (9, .int (0 : Int32))] dX12_shares_114 rfl rfl rfl rfl ?_
      refine V_goto 17 dX12_shares_117 rfl ?_
      exact V_less (mm_keep (mm_keep (mm_keep (mm_keep (mm_keep (mm_keep (mm_keep (mm_keep (mm_drop (mm_drop mm_nil)))))))))) (by decide) (by decide) (k4 c1 c2)
set_option maxRecDepth 100000 in
set_option maxHeartbeats 4000000 in
theorem b_X12_shares_127 {g : GP} {CX : State → Array Value → Prop} {Q : AH → Option Value → Prop} {X : AH → String → Prop} {v1 : Int32} {v2 : Int32} {v3 : Int32} {v4 : Int32} {v5 : Int32} {v6 : Int32} {v7 : Int32} {v8 : Int32} {σ : AH}
    (hS : Sh σ)
    (k1 : (v3 ≤ v8) → (v6 = (-1 : Int32)) → Q σ (some (.int v4)))
    (o1 : (v3 ≤ v8) → (¬ v6 = (-1 : Int32)) → vp_in (((8 : Int32) * v1) + v6) 240)
    (k2 : (v3 ≤ v8) → (¬ v6 = (-1 : Int32)) → Q (uI σ 56 (Int32.toNatClampNeg (((8 : Int32) * v1) + v6)) ((zI σ 56 (Int32.toNatClampNeg (((8 : Int32) * v1) + v6))) + v7)) (some (.int (0 : Int32))))
    (o2 : (¬ v3 ≤ v8) → PO σ)
    (o3 : (¬ v3 ≤ v8) → CA σ)
    (o4 : (¬ v3 ≤ v8) → vp_in v8 8)
    (k3 : (¬ v3 ≤ v8) → (¬ (pvF σ (ix v8)) = (-1 : Int32)) → V g mX12_shares (Em g mX12_shares Q X) CX 0 0 127 [(0, .ref 33), (1, .int v1), (2, .int v2), (3, .int v3), (4, .int v4), (5, .int v5), (6, .int v6), (7, .int v7), (8, .int (v8 + (1 : Int32)))] [] σ)
    (o5 : (¬ v3 ≤ v8) → ((pvF σ (ix v8)) = (-1 : Int32)) → ¬ Int32.toInt64 v5 = 0)
    (o6 : (¬ v3 ≤ v8) → ((pvF σ (ix v8)) = (-1 : Int32)) → vp_in (((8 : Int32) * v1) + v8) 240)
    (k4 : (¬ v3 ≤ v8) → ((pvF σ (ix v8)) = (-1 : Int32)) → V g mX12_shares (Em g mX12_shares Q X) CX 0 0 127 [(0, .ref 33), (1, .int v1), (2, .int v2), (3, .int v3), (4, .int v4), (5, .int v5), (6, .int v6), (7, .int (v7 - (zI (uI σ 56 (Int32.toNatClampNeg (((8 : Int32) * v1) + v8)) (Int64.toInt32 (((Int32.toInt64 v4) * (Int32.toInt64 (wtF σ (ix v8)))) / (Int32.toInt64 v5)))) 56 (Int32.toNatClampNeg (((8 : Int32) * v1) + v8))))), (8, .int (v8 + (1 : Int32)))] [] (uI σ 56 (Int32.toNatClampNeg (((8 : Int32) * v1) + v8)) (Int64.toInt32 (((Int32.toInt64 v4) * (Int32.toInt64 (wtF σ (ix v8)))) / (Int32.toInt64 v5))))) :
    V g mX12_shares (Em g mX12_shares Q X) CX 0 0 127 [(0, .ref 33), (1, .int v1), (2, .int v2), (3, .int v3), (4, .int v4), (5, .int v5), (6, .int v6), (7, .int v7), (8, .int v8)] [] σ := by
  refine V_iload dX12_shares_127 rfl ?_
  refine V_iload_n dX12_shares_129 rfl ?_
  refine V_icmp_ge 194 dX12_shares_130 rfl (fun c1 => ?_) (fun c1 => ?_)
  · refine V_iload dX12_shares_194 rfl ?_
    refine V_iconst (-1 : Int32) dX12_shares_196 (by decide) ?_
    refine V_icmp_eq 217 dX12_shares_197 rfl (fun c2 => ?_) (fun c2 => ?_)
    · refine V_iload dX12_shares_217 rfl ?_
      refine V_iconst (-1 : Int32) dX12_shares_219 (by decide) ?_
      refine V_icmp_ne 228 dX12_shares_220 rfl (fun z_ => (by first | exact absurd (c2) z_ | exact absurd z_ (c2))) (fun _ => ?_)
      refine V_iload dX12_shares_223 rfl ?_
      refine V_goto 229 dX12_shares_225 rfl ?_
      exact V_iret rfl dX12_shares_229 (k1 c1 c2)
    · refine V_aload_n dX12_shares_200 rfl ?_
      refine V_getf (fk := 30) (Value.ref 56) ko_X12 rfl w_1085 dX12_shares_201 (by decide) (shk hS 33 rfl) (congrArg Value.ref (shr hS 33 30 56 (by decide))) ?_
      refine V_bipush (8 : Int32) dX12_shares_204 (by decide) ?_
      refine V_iload_n dX12_shares_206 rfl ?_
      refine V_imul dX12_shares_207 ?_
      refine V_iload dX12_shares_208 rfl ?_
      refine V_iadd dX12_shares_210 ?_
      refine V_dup2 dX12_shares_211 rfl rfl ?_
      refine V_iald dX12_shares_212 (by decide) (shk hS 56 rfl) (vp_l (n := 240) (shl hS 56 rfl) (o1 c1 c2)) ?_
      refine V_iload dX12_shares_213 rfl ?_
      refine V_iadd dX12_shares_215 ?_
      refine V_iast dX12_shares_216 (by decide) (shk hS 56 rfl) (vp_l (n := 240) (shl hS 56 rfl) (o1 c1 c2)) ?_
      refine V_iload dX12_shares_217 rfl ?_
      refine V_iconst (-1 : Int32) dX12_shares_219 (by decide) ?_
      refine V_icmp_ne 228 dX12_shares_220 rfl (fun _ => ?_) (fun z_ => (by first | exact absurd (c2) z_ | exact absurd z_ (c2)))
      refine V_iconst (0 : Int32) dX12_shares_228 (by decide) ?_
      exact V_iret rfl dX12_shares_229 (k2 c1 c2)
  · refine V_aload_n dX12_shares_133 rfl ?_
    refine V_iload dX12_shares_134 rfl ?_
    refine V_callV1 (as := [.int v8]) (k' := 0) (n' := 0) (s_X12_provisoOf hS (o2 c1) (o3 c1) (o4 c1)) mw_X12_provisoOf ko_X12 rfl w_1332 w_32 w_1330 ar_X12_provisoOf rfl ⟨rfl, rfl, rfl, rfl, rfl⟩ dX12_shares_136 (by decide) (shk hS 33 rfl) ?_
    refine V_iconst (-1 : Int32) dX12_shares_139 (by decide) ?_
    refine V_icmp_ne 188 dX12_shares_140 rfl (fun c3 => ?_) (fun c3 => ?_)
    · refine V_iinc (v8 + (1 : Int32)) [(0, .ref 33), (1, .int v1), (2, .int v2), (3, .int v3), (4, .int v4), (5, .int v5), (6, .int v6), (7, .int v7), (8, .int (v8 + (1 : Int32)))] dX12_shares_188 rfl rfl rfl rfl ?_
      refine V_goto 127 dX12_shares_191 rfl ?_
      exact (k3 c1 c3)
    · refine V_aload_n dX12_shares_143 rfl ?_
      refine V_getf (fk := 30) (Value.ref 56) ko_X12 rfl w_1085 dX12_shares_144 (by decide) (shk hS 33 rfl) (congrArg Value.ref (shr hS 33 30 56 (by decide))) ?_
      refine V_bipush (8 : Int32) dX12_shares_147 (by decide) ?_
      refine V_iload_n dX12_shares_149 rfl ?_
      refine V_imul dX12_shares_150 ?_
      refine V_iload dX12_shares_151 rfl ?_
      refine V_iadd dX12_shares_153 ?_
      refine V_iload dX12_shares_154 rfl ?_
      refine V_i2l dX12_shares_156 ?_
      refine V_aload_n dX12_shares_157 rfl ?_
      refine V_iload dX12_shares_158 rfl ?_
      refine V_callV1 (as := [.int v8]) (k' := 0) (n' := 0) (s_X12_weightOf hS (o2 c1) (o4 c1)) mw_X12_weightOf ko_X12 rfl w_1336 w_33 w_1334 ar_X12_weightOf rfl ⟨rfl, rfl, rfl, rfl, rfl⟩ dX12_shares_160 (by decide) (shk hS 33 rfl) ?_
      refine V_i2l dX12_shares_163 ?_
      refine V_lmul dX12_shares_164 ?_
      refine V_iload dX12_shares_165 rfl ?_
      refine V_i2l dX12_shares_167 ?_
      refine V_ldiv dX12_shares_168 (o5 c1 c3) ?_
      refine V_l2i dX12_shares_169 ?_
      refine V_iast dX12_shares_170 (by decide) (shk hS 56 rfl) (vp_l (n := 240) (shl hS 56 rfl) (o6 c1 c3)) ?_
      refine V_iload dX12_shares_171 rfl ?_
      refine V_aload_n dX12_shares_173 rfl ?_
      refine V_getf (fk := 30) (Value.ref 56) ko_X12 rfl w_1085 dX12_shares_174 (by decide) (shk (Sh_uI hS) 33 rfl) (congrArg Value.ref (shr (Sh_uI hS) 33 30 56 (by decide))) ?_
      refine V_bipush (8 : Int32) dX12_shares_177 (by decide) ?_
      refine V_iload_n dX12_shares_179 rfl ?_
      refine V_imul dX12_shares_180 ?_
      refine V_iload dX12_shares_181 rfl ?_
      refine V_iadd dX12_shares_183 ?_
      refine V_iald dX12_shares_184 (by decide) (shk (Sh_uI hS) 56 rfl) (vp_l (n := 240) (shl (Sh_uI hS) 56 rfl) (o6 c1 c3)) ?_
      refine V_isub dX12_shares_185 ?_
      refine V_istore [(0, .ref 33), (1, .int v1), (2, .int v2), (3, .int v3), (4, .int v4), (5, .int v5), (6, .int v6), (7, .int (v7 - (zI (uI σ 56 (Int32.toNatClampNeg (((8 : Int32) * v1) + v8)) (Int64.toInt32 (((Int32.toInt64 v4) * (Int32.toInt64 (wtF σ (ix v8)))) / (Int32.toInt64 v5)))) 56 (Int32.toNatClampNeg (((8 : Int32) * v1) + v8))))), (8, .int v8)] dX12_shares_186 rfl rfl ?_
      refine V_iinc (v8 + (1 : Int32)) [(0, .ref 33), (1, .int v1), (2, .int v2), (3, .int v3), (4, .int v4), (5, .int v5), (6, .int v6), (7, .int (v7 - (zI (uI σ 56 (Int32.toNatClampNeg (((8 : Int32) * v1) + v8)) (Int64.toInt32 (((Int32.toInt64 v4) * (Int32.toInt64 (wtF σ (ix v8)))) / (Int32.toInt64 v5)))) 56 (Int32.toNatClampNeg (((8 : Int32) * v1) + v8))))), (8, .int (v8 + (1 : Int32)))] dX12_shares_188 rfl rfl rfl rfl ?_
      refine V_goto 127 dX12_shares_191 rfl ?_
      exact (k4 c1 c3)

theorem s_X12_shares {g : GP} {σ : AH} {x y z : Int32} (hS : Sh σ) (hP : PO σ) (hC : CA σ) (hx : vp_in x 30) (hy : vp_in y 9) (hz : vp_in z 9)
    (hA : ∀ d, d < ix z - ix y → pvF σ (ix y + d) = -1 → ¬ Int32.toInt64 (alS (pvF σ) (wtF σ) (ix y) (ix z - ix y)) = 0) :
    Ct g mX12_shares [.ref 33, .int x, .int y, .int z] σ (FQ (shR1 σ (8 * ix x + ix y) (ix z - ix y) (shS (pvF σ) (wtF σ) (ix y) (ix z - ix y) (partF σ (ix y) (ix z)))) (some (.int (unS (pvF σ) (ix y) (ix z - ix y) (partF σ (ix y) (ix z)))))) := by
  obtain ⟨t, ht, rfl⟩ := vp_in_of hx (by decide)
  obtain ⟨i, hi, rfl⟩ := vp_in_of hy (by decide)
  obtain ⟨j, hj, rfl⟩ := vp_in_of hz (by decide)
  have ct : (nI t).toNatClampNeg = t := cl0 (by omega)
  have ci : (nI i).toNatClampNeg = i := cl0 (by omega)
  have cj : (nI j).toNatClampNeg = j := cl0 (by omega)
  simp only [ix, ct, ci, cj] at hA ⊢
  refine Ct_of (by decide +kernel) rfl rfl (b_X12_shares_0 hS hP hy hz ?_)
  rw [ci, cj]
  generalize hc0 : partF σ i j = c0
  generalize hn : j - i = n at hA ⊢
  have hpt : ∀ d, d < n → pvF σ (ix (nI (i + d))) = pvF σ (i + d) := fun d hd => by rw [ix, cl0 (by omega)]
  have hbi : ∀ d, d < n → (8 : Int32) * nI t + nI (i + d) = nI (8 * t + i + d) := fun d _ => by
    rw [show (8 : Int32) = nI 8 from rfl, pk_mul, nI_add]; congr 1; omega
  have hbc : ∀ d, d < n → (nI (8 * t + i + d)).toNatClampNeg = 8 * t + i + d := fun d hd => cl0 (by omega)
  have hv : ∀ d, d < n → vp_in (nI (8 * t + i + d)) 240 := fun d hd => vp_in_nI (by omega) (by decide)
  have hv8 : ∀ d, d < n → vp_in (nI (i + d)) 8 := fun d hd => vp_in_nI (by omega) (by decide)
  have hstep : ∀ d, nI (i + d) + 1 = nI (i + (d + 1)) := fun d => nI_1 _
  have hz0 : σ = shR1 σ (8 * t + i) 0 (muS (pvF σ) i c0) := (sI_self σ).symm.trans (sI_cg (fun a k => by rw [if_neg (by omega)]))
  refine V_cast rfl rfl hz0 (up_loop (P := fun d => V g mX12_shares (Em g mX12_shares (FQ (shR1 σ (8 * t + i) n (shS (pvF σ) (wtF σ) i n c0)) (some (.int (unS (pvF σ) i n c0)))) NX) CT 0 0 17 [(0, .ref 33), (1, .int (nI t)), (2, .int (nI i)), (3, .int (nI j)), (4, .int (lfS (pvF σ) i c0 d)), (5, .int (alS (pvF σ) (wtF σ) i d)), (6, .int (otS (pvF σ) i d)), (7, .int (nI (i + d)))] [] (shR1 σ (8 * t + i) d (muS (pvF σ) i c0))) n ?_ ?_ 0 (Nat.zero_le _))
  · have hle : nI j ≤ nI (i + n) := nI_le (by omega) (by omega)
    refine b_X12_shares_17 hS (fun _ => ?_) (fun c => absurd hle c) (fun c => absurd hle c) (fun c => absurd hle c) (fun c => absurd hle c) (fun c => absurd hle c) (fun c => absurd hle c) (fun c => absurd hle c) (fun c => absurd hle c) (fun c => absurd hle c) (fun c => absurd hle c)
    generalize hlf : lfS (pvF σ) i c0 n = lf
    generalize hal : alS (pvF σ) (wtF σ) i n = al at hA ⊢
    generalize hot : otS (pvF σ) i n = ot
    have hz1 : shR1 σ (8 * t + i) n (muS (pvF σ) i c0) = shR1 σ (8 * t + i) n (fun e => if e < 0 ∧ pvF σ (i + e) = -1 then qtS (wtF σ) lf al (i + e) else muS (pvF σ) i c0 e) := by
      refine sI_cg (fun a k => ?_)
      by_cases h : a = 56 ∧ 8 * t + i ≤ k ∧ k < 8 * t + i + n
      · rw [if_pos h, if_pos h]; dsimp only; rw [if_neg (fun q => Nat.not_lt_zero _ q.1)]
      · rw [if_neg h, if_neg h]
    refine V_cast rfl rfl hz1 (up_loop (P := fun d => V g mX12_shares (Em g mX12_shares (FQ (shR1 σ (8 * t + i) n (shS (pvF σ) (wtF σ) i n c0)) (some (.int (unS (pvF σ) i n c0)))) NX) CT 0 0 127 [(0, .ref 33), (1, .int (nI t)), (2, .int (nI i)), (3, .int (nI j)), (4, .int lf), (5, .int al), (6, .int ot), (7, .int (rsS (pvF σ) (wtF σ) i lf al d)), (8, .int (nI (i + d)))] [] (shR1 σ (8 * t + i) n (fun e => if e < d ∧ pvF σ (i + e) = -1 then qtS (wtF σ) lf al (i + e) else muS (pvF σ) i c0 e))) n ?_ ?_ 0 (Nat.zero_le _))
    · -- the end
      have hend := otS_in (pv := pvF σ) (i := i) n
      rw [hot] at hend
      refine b_X12_shares_127 hS (fun _ c => ⟨?_, ?_⟩) (fun _ c => ?_) (fun _ c => ⟨?_, ?_⟩) (fun c => absurd hle c) (fun c => absurd hle c) (fun c => absurd hle c) (fun c => absurd hle c) (fun c => absurd hle c) (fun c => absurd hle c) (fun c => absurd hle c)
      · refine sI_cg (fun a k => ?_)
        by_cases h : a = 56 ∧ 8 * t + i ≤ k ∧ k < 8 * t + i + n
        · rw [if_pos h, if_pos h]
          have h1 : pvF σ (i + (k - (8 * t + i))) ≠ -1 := (otS_no n (by omega)).mp (hot.trans c) _ (by omega)
          dsimp only
          rw [if_neg (fun q => h1 q.2), shS, if_neg h1]
        · rw [if_neg h, if_neg h]
      · rw [unS, hot, if_pos c, hlf]
      · rcases hend with h | ⟨k, h1, h2, h3, h4⟩
        · exact absurd h c
        · rw [h3, show k = i + (k - i) by omega, hbi _ (by omega)]; exact hv _ (by omega)
      · rcases hend with h | ⟨k, h1, h2, h3, h4⟩
        · exact absurd h c
        · obtain ⟨e, rfl⟩ : ∃ e, k = i + e := ⟨k - i, by omega⟩
          have he : e < n := by omega
          rw [h3, hbi _ he, hbc _ he, shR1, uI_sI]
          refine sI_cg (fun a k => ?_)
          rw [zI_sI]
          by_cases h : a = 56 ∧ 8 * t + i ≤ k ∧ k < 8 * t + i + n
          · obtain ⟨rfl, h5, h6⟩ := h
            rw [if_pos (show 56 = 56 ∧ 8 * t + i ≤ k ∧ k < 8 * t + i + n from ⟨rfl, h5, h6⟩), if_pos (show 56 = 56 ∧ 8 * t + i ≤ k ∧ k < 8 * t + i + n from ⟨rfl, h5, h6⟩), if_pos (show 56 = 56 ∧ 8 * t + i ≤ 8 * t + i + e ∧ 8 * t + i + e < 8 * t + i + n from ⟨rfl, by omega, by omega⟩)]
            rw [show 8 * t + i + e - (8 * t + i) = e by omega]
            by_cases h7 : k = 8 * t + i + e
            · subst h7
              rw [if_pos ⟨rfl, rfl⟩, show 8 * t + i + e - (8 * t + i) = e by omega, if_pos ⟨he, h4⟩, shS, if_pos h4, hot, h3, if_pos rfl, hlf, hal]
            · rw [if_neg (fun q => h7 q.2), shS, hot, h3]
              have h8 : ¬ nI (i + (k - (8 * t + i))) = nI (i + e) := fun q => h7 (by
                have := (nI_eq (by omega) (by omega)).mp q; omega)
              rw [if_neg h8, hlf, hal]
              by_cases h9 : pvF σ (i + (k - (8 * t + i))) = -1
              · rw [if_pos h9, if_pos ⟨by omega, h9⟩]
              · rw [if_neg h9, if_neg (fun q => h9 q.2)]
          · rw [if_neg (fun q => h ⟨q.1, by omega, by omega⟩), if_neg h, if_neg h]
      · rw [unS, hot, if_neg c]
    · intro d hd ih
      have hlt : ¬ nI j ≤ nI (i + d) := nI_ge (by omega) (by omega)
      have hE : ∀ f, EqP (shR1 σ (8 * t + i) n f) σ := fun f => EqP_shR1
      refine b_X12_shares_127 hS (fun c => absurd c hlt) (fun c => absurd c hlt) (fun c => absurd c hlt) (fun _ => PO_eq (hE _) hP) (fun _ => CA_eq (hE _) hC) (fun _ => hv8 d hd) (fun _ c => ?_) (fun _ c => ?_) (fun _ _ => ?_) (fun _ c => ?_)
      · rw [pvF_eq (hE _), hpt d hd] at c
        rw [hstep]
        refine V_cast ?_ rfl ?_ ih
        · rw [rsS, if_neg c]; simp
        · refine sI_cg (fun a k => ?_)
          by_cases h : a = 56 ∧ 8 * t + i ≤ k ∧ k < 8 * t + i + n
          · rw [if_pos h, if_pos h]
            dsimp only
            by_cases h7 : k - (8 * t + i) = d
            · rw [h7, if_neg (fun q => c q.2), if_neg (fun q => c q.2)]
            · by_cases h8 : k - (8 * t + i) < d ∧ pvF σ (i + (k - (8 * t + i))) = -1
              · rw [if_pos h8, if_pos ⟨by omega, h8.2⟩]
              · rw [if_neg h8, if_neg (fun q => h8 ⟨by omega, q.2⟩)]
          · rw [if_neg h, if_neg h]
      · rw [pvF_eq (hE _), hpt d hd] at c
        exact hA d hd c
      · rw [hbi d hd]; exact hv d hd
      · rw [pvF_eq (hE _), hpt d hd] at c
        rw [hstep, hbi d hd, hbc d hd, wtF_eq (hE _), zI_self]
        rw [show wtF σ (ix (nI (i + d))) = wtF σ (i + d) by rw [ix, cl0 (by omega)]]
        refine V_cast ?_ rfl ?_ ih
        · rw [rsS, if_pos c, qtS]
        · rw [shR1, uI_sI]
          refine sI_cg (fun a k => ?_)
          by_cases h : a = 56 ∧ 8 * t + i ≤ k ∧ k < 8 * t + i + n
          · obtain ⟨rfl, h5, h6⟩ := h
            rw [if_pos (show 56 = 56 ∧ 8 * t + i ≤ k ∧ k < 8 * t + i + n from ⟨rfl, h5, h6⟩), if_pos (show 56 = 56 ∧ 8 * t + i ≤ k ∧ k < 8 * t + i + n from ⟨rfl, h5, h6⟩)]
            dsimp only
            by_cases h7 : k - (8 * t + i) = d
            · rw [if_pos ⟨rfl, by omega⟩, h7, if_pos ⟨by omega, c⟩, qtS]
            · rw [if_neg (fun q => h7 (by omega))]
              by_cases h8 : k - (8 * t + i) < d ∧ pvF σ (i + (k - (8 * t + i))) = -1
              · rw [if_pos h8, if_pos ⟨by omega, h8.2⟩]
              · rw [if_neg h8, if_neg (fun q => h8 ⟨by omega, q.2⟩)]
          · rw [if_neg (fun q => h ⟨q.1, by omega, by omega⟩), if_neg h, if_neg h]
  · intro d hd ih
    have hlt : ¬ nI j ≤ nI (i + d) := nI_ge (by omega) (by omega)
    have hE : EqP (shR1 σ (8 * t + i) d (muS (pvF σ) i c0)) σ := EqP_shR1
    have hput : ∀ v, v = muS (pvF σ) i c0 d → uI (shR1 σ (8 * t + i) d (muS (pvF σ) i c0)) 56 (8 * t + i + d) v = shR1 σ (8 * t + i) (d + 1) (muS (pvF σ) i c0) := fun v hv => by
      rw [shR1, uI_sI]
      refine sI_cg (fun a k => ?_)
      by_cases h : a = 56 ∧ k = 8 * t + i + d
      · rw [if_pos h, if_pos ⟨h.1, by omega, by omega⟩, hv, h.2]; congr 1; omega
      · rw [if_neg h]
        by_cases h2 : a = 56 ∧ 8 * t + i ≤ k ∧ k < 8 * t + i + d
        · rw [if_pos h2, if_pos ⟨h2.1, h2.2.1, by omega⟩]
        · rw [if_neg h2, if_neg (fun q => h2 ⟨q.1, q.2.1, by omega⟩)]
    refine b_X12_shares_17 hS (fun c => absurd c hlt) (fun _ => PO_eq hE hP) (fun _ => CA_eq hE hC) (fun _ => hv8 d hd) (fun _ _ _ => ?_) (fun _ c c2 => ?_) (fun _ _ _ => ?_) (fun _ c c2 => ?_) (fun _ _ => ?_) (fun _ c => ?_) (fun _ c => ?_)
    · rw [hbi d hd]; exact hv d hd
    · rw [pvF_eq hE, hpt d hd] at c c2
      rw [hstep, hbi d hd, hbc d hd]
      refine V_cast ?_ rfl (hput _ (by rw [muS, if_neg c, if_pos c2])) ih
      simp [lfS, alS, otS, if_neg c, if_pos c2]
    · rw [hbi d hd]; exact hv d hd
    · rw [pvF_eq hE, hpt d hd] at c c2
      rw [hstep, hbi d hd, hbc d hd, pvF_eq hE, hpt d hd]
      refine V_cast ?_ rfl (hput _ (by rw [muS, if_neg c, if_neg c2])) ih
      simp [lfS, alS, otS, if_neg c, if_neg c2]
    · rw [hbi d hd]; exact hv d hd
    · exact PO_eq (EqP_uI hE (by decide)) hP
    · rw [pvF_eq hE, hpt d hd] at c
      rw [hstep, hbi d hd, hbc d hd, wtF_eq (EqP_uI hE (by decide))]
      rw [show wtF σ (ix (nI (i + d))) = wtF σ (i + d) by rw [ix, cl0 (by omega)]]
      refine V_cast ?_ rfl (hput _ (by rw [muS, if_pos c])) ih
      simp [lfS, alS, otS, if_pos c]
