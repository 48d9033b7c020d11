/-! ===== the class: clearing ===== -/
abbrev bA (σ : AH) (b : Nat) : Nat := zR σ 28 b
def BS (σ : AH) (n : Nat) : Prop := n ≤ 240 ∧ zI σ 27 2 = nI n ∧ (∀ b, b < n → 72 < bA σ b ∧ zK σ (bA σ b) = 0 ∧ isCa (zI σ (bA σ b) 0) ∧ isCa (zI σ (bA σ b) 1)) ∧ ∀ b c, b < n → c < n → bA σ b = bA σ c → b = c
/-- bills turned, d of them looked at -/
noncomputable def kbH (σ : AH) (C : Nat → Prop) (st : Nat → Int32) (v : Int32) (f : Nat → Nat → Int64) : Nat → AH
  | 0 => σ
  | d + 1 => @ite _ (C d) (Classical.propDecidable _) (s2 (kbH σ C st v f d) (fun a j => if a = bA σ d ∧ j = 3 then st d else if a = bA σ d ∧ j = 5 then v else zI (kbH σ C st v f d) a j) (fun a c => if a = 29 then zJ (kbH σ C st v f d) a c + f d c else zJ (kbH σ C st v f d) a c)) (kbH σ C st v f d)
section KB
variable {σ : AH} {C : Nat → Prop} {st : Nat → Int32} {v : Int32} {f : Nat → Nat → Int64}
theorem kb_y {d : Nat} (h : C d) : kbH σ C st v f (d + 1) = s2 (kbH σ C st v f d) (fun a j => if a = bA σ d ∧ j = 3 then st d else if a = bA σ d ∧ j = 5 then v else zI (kbH σ C st v f d) a j) (fun a c => if a = 29 then zJ (kbH σ C st v f d) a c + f d c else zJ (kbH σ C st v f d) a c) := by
  rw [kbH, if_pos h]
theorem kb_n {d : Nat} (h : ¬ C d) : kbH σ C st v f (d + 1) = kbH σ C st v f d := by
  rw [kbH, if_neg h]
theorem kb_N : ∀ d, zN (kbH σ C st v f d) = zN σ ∧ zK (kbH σ C st v f d) = zK σ ∧ zL (kbH σ C st v f d) = zL σ ∧ zR (kbH σ C st v f d) = zR σ
  | 0 => ⟨rfl, rfl, rfl, rfl⟩
  | d + 1 => by
    have ih := kb_N d
    by_cases h : C d
    · rw [kb_y h]; exact ih
    · rw [kb_n h]; exact ih
theorem kb_J (a c : Nat) : ∀ d, zJ (kbH σ C st v f d) a c = if a = 29 then zJ σ a c + dlS C f d c else zJ σ a c
  | 0 => by
    split
    · rw [dlS]; simp [kbH]
    · rfl
  | d + 1 => by
    have ih := kb_J a c d
    by_cases h : C d
    · rw [kb_y h, dlS_y h, zJ_s2, ih]
      split
      · grind
      · rfl
    · rw [kb_n h, dlS_n h]; exact ih
theorem kb_I {a j : Nat} : ∀ d, (j = 3 ∨ j = 5 → ∀ b, b < d → C b → a ≠ bA σ b) → zI (kbH σ C st v f d) a j = zI σ a j
  | 0, _ => rfl
  | d + 1, hq => by
    have ih := kb_I (a := a) (j := j) d (fun q b hb => hq q b (by omega))
    by_cases h : C d
    · rw [kb_y h, zI_s2, if_neg (fun q => hq (Or.inl q.2) d (by omega) h q.1), if_neg (fun q => hq (Or.inr q.2) d (by omega) h q.1)]; exact ih
    · rw [kb_n h]; exact ih
theorem kb_b {n : Nat} (hB : BS σ n) {b : Nat} (hc : C b) : ∀ d, b < d → d ≤ n → zI (kbH σ C st v f d) (bA σ b) 3 = st b ∧ zI (kbH σ C st v f d) (bA σ b) 5 = v
  | 0, h, _ => by omega
  | d + 1, hb, hn => by
    by_cases e : b = d
    · subst e
      rw [kb_y hc]
      exact ⟨by rw [zI_s2, if_pos ⟨rfl, rfl⟩], by rw [zI_s2, if_neg (fun q => absurd q.2 (by decide)), if_pos ⟨rfl, rfl⟩]⟩
    · have ih := kb_b hB hc d (by omega) (by omega)
      have ne : ¬ bA σ b = bA σ d := fun q => e (hB.2.2.2 b d (by omega) (by omega) q)
      by_cases h : C d
      · rw [kb_y h, zI_s2, zI_s2, if_neg (fun q => ne q.1), if_neg (fun q => ne q.1), if_neg (fun q => ne q.1), if_neg (fun q => ne q.1)]
        exact ih
      · rw [kb_n h]; exact ih
theorem Sh_kb (h : Sh σ) : ∀ d, Sh (kbH σ C st v f d)
  | 0 => h
  | d + 1 => by
    have ih := Sh_kb h d
    by_cases hc : C d
    · rw [kb_y hc]; exact Sh_s2 ih
    · rw [kb_n hc]; exact ih
end KB
theorem BS_at {σ : AH} {n b : Nat} (h : BS σ n) (hb : b < n) : atR (zI σ 27 2) 240 (nI b) (zR σ 28 (ix (nI b))) = bA σ b := by
  have h1 := h.1
  rw [h.2.1, ix, cl0 (by omega)]
  exact atR_in (m := 240) hb (by omega) (by omega) (by decide)
set_option maxRecDepth 100000 in
set_option maxHeartbeats 4000000 in
theorem b_X1_settle_0 {g : GP} {CX : State → Array Value → Prop} {E : ET}  {σ : AH}
    (hS : Sh σ)
    (k1 : V g mX1_settle E CX 0 0 16 [(0, .ref 27), (1, .int (0 : Int32))] [] (uI (fnH σ 5) 27 3 ((zI (fnH σ 5) 27 3) + (1 : Int32)))) :
    V g mX1_settle E CX 0 0 0 [(0, .ref 27)] [] σ := by
  refine V_aload_n dX1_settle_0 rfl ?_
  refine V_callV0 (as := []) (k' := 0) (n' := 0) (s_X1_forgetNets hS) mw_X1_forgetNets ko_X1 rfl w_957 w_16 w_955 ar_X1_forgetNets rfl ⟨rfl, rfl, rfl, rfl, rfl⟩ dX1_settle_1 (by decide) (shk hS 27 rfl) ?_
  refine V_aload_n dX1_settle_4 rfl ?_
  refine V_dup dX1_settle_5 rfl ?_
  refine V_getf (fk := 3) (Value.int (zI (fnH σ 5) 27 3)) ko_X1 rfl w_186 dX1_settle_6 (by decide) (shk (Sh_s2 hS) 27 rfl) rfl ?_
  refine V_iconst (1 : Int32) dX1_settle_9 (by decide) ?_
  refine V_iadd dX1_settle_10 ?_
  refine V_puti (fk := 3) ko_X1 rfl w_186 (Or.inl rfl) dX1_settle_11 rfl (by decide) (shk (Sh_s2 hS) 27 rfl) ?_
  refine V_iconst (0 : Int32) dX1_settle_14 (by decide) ?_
  refine V_istore_n [(0, .ref 27), (1, .int (0 : Int32))] dX1_settle_15 rfl rfl ?_
  exact k1
set_option maxRecDepth 100000 in
set_option maxHeartbeats 4000000 in
theorem b_X1_settle_16 {g : GP} {CX : State → Array Value → Prop} {Q : AH → Option Value → Prop} {X : AH → String → Prop} {v1 : Int32} {σ : AH}
    (hS : Sh σ)
    (k1 : ((zI σ 27 2) ≤ v1) → Q σ none)
    (k2 : (¬ (zI σ 27 2) ≤ v1) → V g mX1_settle (Em g mX1_settle Q X) CX 0 0 30 [(0, .ref 27), (1, .int v1), (2, .ref (atR (zI σ 27 2) 240 v1 (zR σ 28 (ix v1))))] [] σ) :
    V g mX1_settle (Em g mX1_settle Q X) CX 0 0 16 [(0, .ref 27), (1, .int v1)] [] σ := by
  refine V_iload_n dX1_settle_16 rfl ?_
  refine V_aload_n dX1_settle_17 rfl ?_
  refine V_getf (fk := 2) (Value.int (zI σ 27 2)) ko_X1 rfl w_184 dX1_settle_18 (by decide) (shk hS 27 rfl) rfl ?_
  refine V_icmp_ge 82 dX1_settle_21 rfl (fun c1 => ?_) (fun c1 => ?_)
  · exact V_vret rfl dX1_settle_82 (k1 c1)
  · refine V_aload_n dX1_settle_24 rfl ?_
    refine V_iload_n dX1_settle_25 rfl ?_
    refine V_callV1 (as := [.int v1]) (k' := 0) (n' := 0) (s_X1_billAt hS) mw_X1_billAt ko_X1 rfl w_395 w_396 w_394 ar_X1_billAt rfl ⟨rfl, rfl, rfl, rfl, rfl⟩ dX1_settle_26 (by decide) (shk hS 27 rfl) ?_
    refine V_astore_n [(0, .ref 27), (1, .int v1), (2, .ref (atR (zI σ 27 2) 240 v1 (zR σ 28 (ix v1))))] dX1_settle_29 rfl rfl ?_
    exact (k2 c1)
set_option maxRecDepth 100000 in
set_option maxHeartbeats 4000000 in
theorem b_X1_settle_30 {g : GP} {CX : State → Array Value → Prop} {E : ET} {v1 : Int32} {v2 : Nat} {σ : AH}
    (hS : Sh σ)
    (k1 : (v2 = 0) → V g mX1_settle E CX 0 0 16 [(0, .ref 27), (1, .int (v1 + (1 : Int32)))] [] σ)
    (o1 : (¬ v2 = 0) → BK σ v2)
    (o2 : (¬ v2 = 0) → zK σ v2 = 0)
    (k2 : (¬ v2 = 0) → (¬ (zI σ v2 3 = 0 ∨ zI σ v2 3 = 2)) → V g mX1_settle E CX 0 0 16 [(0, .ref 27), (1, .int (v1 + (1 : Int32)))] [] σ)
    (o3 : (¬ v2 = 0) → (zI σ v2 3 = 0 ∨ zI σ v2 3 = 2) → isCa (zI σ v2 0))
    (k3 : (¬ v2 = 0) → (zI σ v2 3 = 0 ∨ zI σ v2 3 = 2) → (idF σ (zI σ v2 0)) → V g mX1_settle E CX 0 0 16 [(0, .ref 27), (1, .int (v1 + (1 : Int32)))] [] σ)
    (o4 : (¬ v2 = 0) → (zI σ v2 3 = 0 ∨ zI σ v2 3 = 2) → (¬ (idF σ (zI σ v2 0))) → isCa (zI σ v2 1))
    (k4 : (¬ v2 = 0) → (zI σ v2 3 = 0 ∨ zI σ v2 3 = 2) → (¬ (idF σ (zI σ v2 0))) → (idF σ (zI σ v2 1)) → V g mX1_settle E CX 0 0 16 [(0, .ref 27), (1, .int (v1 + (1 : Int32)))] [] σ)
    (o5 : (¬ v2 = 0) → (zI σ v2 3 = 0 ∨ zI σ v2 3 = 2) → (¬ (idF σ (zI σ v2 0))) → (¬ (idF σ (zI σ v2 1))) → BK (uI (uI σ v2 5 (zI σ 27 3)) v2 3 (seS σ v2)) v2)
    (o6 : (¬ v2 = 0) → (zI σ v2 3 = 0 ∨ zI σ v2 3 = 2) → (¬ (idF σ (zI σ v2 0))) → (¬ (idF σ (zI σ v2 1))) → isCa (zI (uI (uI σ v2 5 (zI σ 27 3)) v2 3 (seS σ v2)) v2 0))
    (o7 : (¬ v2 = 0) → (zI σ v2 3 = 0 ∨ zI σ v2 3 = 2) → (¬ (idF σ (zI σ v2 0))) → (¬ (idF σ (zI σ v2 1))) → isCa (zI (uI (uI σ v2 5 (zI σ 27 3)) v2 3 (seS σ v2)) v2 1))
    (k5 : (¬ v2 = 0) → (zI σ v2 3 = 0 ∨ zI σ v2 3 = 2) → (¬ (idF σ (zI σ v2 0))) → (¬ (idF σ (zI σ v2 1))) → V g mX1_settle E CX 0 0 16 [(0, .ref 27), (1, .int (v1 + (1 : Int32)))] [] (anH (uI (uI σ v2 5 (zI σ 27 3)) v2 3 (seS σ v2)) (ix (zI (uI (uI σ v2 5 (zI σ 27 3)) v2 3 (seS σ v2)) v2 0)) (ix (zI (uI (uI σ v2 5 (zI σ 27 3)) v2 3 (seS σ v2)) v2 1)) (Int32.toInt64 (seV σ v2)))) :
    V g mX1_settle E CX 0 0 30 [(0, .ref 27), (1, .int v1), (2, .ref v2)] [] σ := by
  refine V_aload_n dX1_settle_30 rfl ?_
  refine V_ifnull 76 dX1_settle_31 rfl (fun c1 => ?_) (fun c1 => ?_)
  · refine V_iinc (v1 + (1 : Int32)) [(0, .ref 27), (1, .int (v1 + (1 : Int32))), (2, .ref v2)] dX1_settle_76 rfl rfl rfl rfl ?_
    refine V_goto 16 dX1_settle_79 rfl ?_
    exact V_less (mm_keep (mm_keep (mm_drop mm_nil))) (by decide) (by decide) (k1 c1)
  · refine V_aload_n dX1_settle_34 rfl ?_
    refine V_callV1 (as := []) (k' := 0) (n' := 0) (s_X0_isToBeSettled (o1 c1)) mw_X0_isToBeSettled ko_X0 rfl w_960 w_961 w_959 ar_X0_isToBeSettled rfl ⟨rfl, rfl, rfl, rfl, rfl⟩ dX1_settle_35 c1 (o2 c1) ?_
    refine V_if_eq 76 dX1_settle_38 rfl (fun c2 => ?_) (fun c2 => ?_)
    · replace c2 := jb_0.mp c2
      refine V_iinc (v1 + (1 : Int32)) [(0, .ref 27), (1, .int (v1 + (1 : Int32))), (2, .ref v2)] dX1_settle_76 rfl rfl rfl rfl ?_
      refine V_goto 16 dX1_settle_79 rfl ?_
      exact V_less (mm_keep (mm_keep (mm_drop mm_nil))) (by decide) (by decide) (k2 c1 c2)
    · replace c2 := jb_n.mp c2
      refine V_aload_n dX1_settle_41 rfl ?_
      refine V_aload_n dX1_settle_42 rfl ?_
      refine V_getf (fk := 0) (Value.int (zI σ v2 0)) ko_X0 rfl w_918 dX1_settle_43 c1 (o2 c1) rfl ?_
      refine V_callV1 (as := [.int (zI σ v2 0)]) (k' := 0) (n' := 0) (s_X1_isInDefault hS (o3 c1 c2)) mw_X1_isInDefault ko_X1 rfl w_964 w_965 w_963 ar_X1_isInDefault rfl ⟨rfl, rfl, rfl, rfl, rfl⟩ dX1_settle_46 (by decide) (shk hS 27 rfl) ?_
      refine V_if_ne 76 dX1_settle_49 rfl (fun c3 => ?_) (fun c3 => ?_)
      · replace c3 := jb_n.mp c3
        refine V_iinc (v1 + (1 : Int32)) [(0, .ref 27), (1, .int (v1 + (1 : Int32))), (2, .ref v2)] dX1_settle_76 rfl rfl rfl rfl ?_
        refine V_goto 16 dX1_settle_79 rfl ?_
        exact V_less (mm_keep (mm_keep (mm_drop mm_nil))) (by decide) (by decide) (k3 c1 c2 c3)
      · replace c3 := jb_0.mp c3
        refine V_aload_n dX1_settle_52 rfl ?_
        refine V_aload_n dX1_settle_53 rfl ?_
        refine V_getf (fk := 1) (Value.int (zI σ v2 1)) ko_X0 rfl w_921 dX1_settle_54 c1 (o2 c1) rfl ?_
        refine V_callV1 (as := [.int (zI σ v2 1)]) (k' := 0) (n' := 0) (s_X1_isInDefault hS (o4 c1 c2 c3)) mw_X1_isInDefault ko_X1 rfl w_964 w_965 w_963 ar_X1_isInDefault rfl ⟨rfl, rfl, rfl, rfl, rfl⟩ dX1_settle_57 (by decide) (shk hS 27 rfl) ?_
        refine V_if_ne 76 dX1_settle_60 rfl (fun c4 => ?_) (fun c4 => ?_)
        · replace c4 := jb_n.mp c4
          refine V_iinc (v1 + (1 : Int32)) [(0, .ref 27), (1, .int (v1 + (1 : Int32))), (2, .ref v2)] dX1_settle_76 rfl rfl rfl rfl ?_
          refine V_goto 16 dX1_settle_79 rfl ?_
          exact V_less (mm_keep (mm_keep (mm_drop mm_nil))) (by decide) (by decide) (k4 c1 c2 c3 c4)
        · replace c4 := jb_0.mp c4
          refine V_aload_n dX1_settle_63 rfl ?_
          refine V_aload_n dX1_settle_64 rfl ?_
          refine V_aload_n dX1_settle_65 rfl ?_
          refine V_aload_n dX1_settle_66 rfl ?_
          refine V_getf (fk := 3) (Value.int (zI σ 27 3)) ko_X1 rfl w_186 dX1_settle_67 (by decide) (shk hS 27 rfl) rfl ?_
          refine V_callV1 (as := [.int (zI σ 27 3)]) (k' := 0) (n' := 0) (s_X0_settle (o1 c1)) mw_X0_settle ko_X0 rfl w_969 w_970 w_968 ar_X0_settle rfl ⟨rfl, rfl, rfl, rfl, rfl⟩ dX1_settle_70 c1 (o2 c1) ?_
          refine V_callV0 (as := [.ref v2, .int (seV σ v2)]) (k' := 0) (n' := 0) (s_X1_addToNets (Sh_uI (Sh_uI hS)) (o5 c1 c2 c3 c4) (o6 c1 c2 c3 c4) (o7 c1 c2 c3 c4)) mw_X1_addToNets ko_X1 rfl w_978 w_18 w_976 ar_X1_addToNets rfl ⟨rfl, rfl, rfl, rfl, rfl⟩ dX1_settle_73 (by decide) (shk (Sh_uI (Sh_uI hS)) 27 rfl) ?_
          refine V_iinc (v1 + (1 : Int32)) [(0, .ref 27), (1, .int (v1 + (1 : Int32))), (2, .ref v2)] dX1_settle_76 rfl rfl rfl rfl ?_
          refine V_goto 16 dX1_settle_79 rfl ?_
          exact V_less (mm_keep (mm_keep (mm_drop mm_nil))) (by decide) (by decide) (k5 c1 c2 c3 c4)

set_option maxRecDepth 100000 in
set_option maxHeartbeats 4000000 in
theorem b_X1_undo_0 {g : GP} {CX : State → Array Value → Prop} {E : ET} {v1 : Int32} {σ : AH}
    (hS : Sh σ)
    (k1 : V g mX1_undo E CX 0 0 8 [(0, .ref 27), (1, .int v1), (2, .int (0 : Int32)), (3, .int (0 : Int32))] [] (fnH σ 5)) :
    V g mX1_undo E CX 0 0 0 [(0, .ref 27), (1, .int v1)] [] σ := by
  refine V_aload_n dX1_undo_0 rfl ?_
  refine V_callV0 (as := []) (k' := 0) (n' := 0) (s_X1_forgetNets hS) mw_X1_forgetNets ko_X1 rfl w_957 w_16 w_955 ar_X1_forgetNets rfl ⟨rfl, rfl, rfl, rfl, rfl⟩ dX1_undo_1 (by decide) (shk hS 27 rfl) ?_
  refine V_iconst (0 : Int32) dX1_undo_4 (by decide) ?_
  refine V_istore_n [(0, .ref 27), (1, .int v1), (2, .int (0 : Int32))] dX1_undo_5 rfl rfl ?_
  refine V_iconst (0 : Int32) dX1_undo_6 (by decide) ?_
  refine V_istore_n [(0, .ref 27), (1, .int v1), (2, .int (0 : Int32)), (3, .int (0 : Int32))] dX1_undo_7 rfl rfl ?_
  exact k1
set_option maxRecDepth 100000 in
set_option maxHeartbeats 4000000 in
theorem b_X1_undo_8 {g : GP} {CX : State → Array Value → Prop} {Q : AH → Option Value → Prop} {X : AH → String → Prop} {v1 : Int32} {v2 : Int32} {v3 : Int32} {σ : AH}
    (hS : Sh σ)
    (k1 : ((zI σ 27 2) ≤ v3) → Q σ (some (.int v2)))
    (k2 : (¬ (zI σ 27 2) ≤ v3) → V g mX1_undo (Em g mX1_undo Q X) CX 0 0 23 [(0, .ref 27), (1, .int v1), (2, .int v2), (3, .int v3), (4, .ref (atR (zI σ 27 2) 240 v3 (zR σ 28 (ix v3))))] [] σ) :
    V g mX1_undo (Em g mX1_undo Q X) CX 0 0 8 [(0, .ref 27), (1, .int v1), (2, .int v2), (3, .int v3)] [] σ := by
  refine V_iload_n dX1_undo_8 rfl ?_
  refine V_aload_n dX1_undo_9 rfl ?_
  refine V_getf (fk := 2) (Value.int (zI σ 27 2)) ko_X1 rfl w_184 dX1_undo_10 (by decide) (shk hS 27 rfl) rfl ?_
  refine V_icmp_ge 69 dX1_undo_13 rfl (fun c1 => ?_) (fun c1 => ?_)
  · refine V_iload_n dX1_undo_69 rfl ?_
    exact V_iret rfl dX1_undo_70 (k1 c1)
  · refine V_aload_n dX1_undo_16 rfl ?_
    refine V_iload_n dX1_undo_17 rfl ?_
    refine V_callV1 (as := [.int v3]) (k' := 0) (n' := 0) (s_X1_billAt hS) mw_X1_billAt ko_X1 rfl w_395 w_396 w_394 ar_X1_billAt rfl ⟨rfl, rfl, rfl, rfl, rfl⟩ dX1_undo_18 (by decide) (shk hS 27 rfl) ?_
    refine V_astore [(0, .ref 27), (1, .int v1), (2, .int v2), (3, .int v3), (4, .ref (atR (zI σ 27 2) 240 v3 (zR σ 28 (ix v3))))] dX1_undo_21 rfl rfl ?_
    exact (k2 c1)
set_option maxRecDepth 100000 in
set_option maxHeartbeats 4000000 in
theorem b_X1_undo_23 {g : GP} {CX : State → Array Value → Prop} {E : ET} {v1 : Int32} {v2 : Int32} {v3 : Int32} {v4 : Nat} {σ : AH}
    (hS : Sh σ)
    (k1 : (v4 = 0) → V g mX1_undo E CX 0 0 8 [(0, .ref 27), (1, .int v1), (2, .int v2), (3, .int (v3 + (1 : Int32)))] [] σ)
    (o1 : (¬ v4 = 0) → BK σ v4)
    (o2 : (¬ v4 = 0) → zK σ v4 = 0)
    (k2 : (¬ v4 = 0) → (¬ (zI σ v4 0 = v1 ∨ zI σ v4 1 = v1)) → V g mX1_undo E CX 0 0 8 [(0, .ref 27), (1, .int v1), (2, .int v2), (3, .int (v3 + (1 : Int32)))] [] σ)
    (k3 : (¬ v4 = 0) → (zI σ v4 0 = v1 ∨ zI σ v4 1 = v1) → (¬ (zI σ v4 5 = (zI σ 27 3) ∧ ¬ (zI σ v4 3 = 0 ∨ zI σ v4 3 = 2))) → V g mX1_undo E CX 0 0 8 [(0, .ref 27), (1, .int v1), (2, .int v2), (3, .int (v3 + (1 : Int32)))] [] σ)
    (o3 : (¬ v4 = 0) → (zI σ v4 0 = v1 ∨ zI σ v4 1 = v1) → (zI σ v4 5 = (zI σ 27 3) ∧ ¬ (zI σ v4 3 = 0 ∨ zI σ v4 3 = 2)) → BK (uI (uI σ v4 5 0) v4 3 (if zI σ v4 3 = 1 then 0 else 2)) v4)
    (o4 : (¬ v4 = 0) → (zI σ v4 0 = v1 ∨ zI σ v4 1 = v1) → (zI σ v4 5 = (zI σ 27 3) ∧ ¬ (zI σ v4 3 = 0 ∨ zI σ v4 3 = 2)) → isCa (zI (uI (uI σ v4 5 0) v4 3 (if zI σ v4 3 = 1 then 0 else 2)) v4 0))
    (o5 : (¬ v4 = 0) → (zI σ v4 0 = v1 ∨ zI σ v4 1 = v1) → (zI σ v4 5 = (zI σ 27 3) ∧ ¬ (zI σ v4 3 = 0 ∨ zI σ v4 3 = 2)) → isCa (zI (uI (uI σ v4 5 0) v4 3 (if zI σ v4 3 = 1 then 0 else 2)) v4 1))
    (k4 : (¬ v4 = 0) → (zI σ v4 0 = v1 ∨ zI σ v4 1 = v1) → (zI σ v4 5 = (zI σ 27 3) ∧ ¬ (zI σ v4 3 = 0 ∨ zI σ v4 3 = 2)) → V g mX1_undo E CX 0 0 8 [(0, .ref 27), (1, .int v1), (2, .int (v2 + (1 : Int32))), (3, .int (v3 + (1 : Int32)))] [] (anH (uI (uI σ v4 5 0) v4 3 (if zI σ v4 3 = 1 then 0 else 2)) (ix (zI (uI (uI σ v4 5 0) v4 3 (if zI σ v4 3 = 1 then 0 else 2)) v4 0)) (ix (zI (uI (uI σ v4 5 0) v4 3 (if zI σ v4 3 = 1 then 0 else 2)) v4 1)) (Int32.toInt64 (unV σ v4)))) :
    V g mX1_undo E CX 0 0 23 [(0, .ref 27), (1, .int v1), (2, .int v2), (3, .int v3), (4, .ref v4)] [] σ := by
  refine V_aload dX1_undo_23 rfl ?_
  refine V_ifnull 63 dX1_undo_25 rfl (fun c1 => ?_) (fun c1 => ?_)
  · refine V_iinc (v3 + (1 : Int32)) [(0, .ref 27), (1, .int v1), (2, .int v2), (3, .int (v3 + (1 : Int32))), (4, .ref v4)] dX1_undo_63 rfl rfl rfl rfl ?_
    refine V_goto 8 dX1_undo_66 rfl ?_
    exact V_less (mm_keep (mm_keep (mm_keep (mm_keep (mm_drop mm_nil))))) (by decide) (by decide) (k1 c1)
  · refine V_aload dX1_undo_28 rfl ?_
    refine V_iload_n dX1_undo_30 rfl ?_
    refine V_callV1 (as := [.int v1]) (k' := 0) (n' := 0) (s_X0_isOf (o1 c1)) mw_X0_isOf ko_X0 rfl w_1013 w_1014 w_1012 ar_X0_isOf rfl ⟨rfl, rfl, rfl, rfl, rfl⟩ dX1_undo_31 c1 (o2 c1) ?_
    refine V_if_eq 63 dX1_undo_34 rfl (fun c2 => ?_) (fun c2 => ?_)
    · replace c2 := jb_0.mp c2
      refine V_iinc (v3 + (1 : Int32)) [(0, .ref 27), (1, .int v1), (2, .int v2), (3, .int (v3 + (1 : Int32))), (4, .ref v4)] dX1_undo_63 rfl rfl rfl rfl ?_
      refine V_goto 8 dX1_undo_66 rfl ?_
      exact V_less (mm_keep (mm_keep (mm_keep (mm_keep (mm_drop mm_nil))))) (by decide) (by decide) (k2 c1 c2)
    · replace c2 := jb_n.mp c2
      refine V_aload dX1_undo_37 rfl ?_
      refine V_aload_n dX1_undo_39 rfl ?_
      refine V_getf (fk := 3) (Value.int (zI σ 27 3)) ko_X1 rfl w_186 dX1_undo_40 (by decide) (shk hS 27 rfl) rfl ?_
      refine V_callV1 (as := [.int (zI σ 27 3)]) (k' := 0) (n' := 0) (s_X0_isAsLeftBy (o1 c1)) mw_X0_isAsLeftBy ko_X0 rfl w_1017 w_1018 w_1016 ar_X0_isAsLeftBy rfl ⟨rfl, rfl, rfl, rfl, rfl⟩ dX1_undo_43 c1 (o2 c1) ?_
      refine V_if_eq 63 dX1_undo_46 rfl (fun c3 => ?_) (fun c3 => ?_)
      · replace c3 := jb_0.mp c3
        refine V_iinc (v3 + (1 : Int32)) [(0, .ref 27), (1, .int v1), (2, .int v2), (3, .int (v3 + (1 : Int32))), (4, .ref v4)] dX1_undo_63 rfl rfl rfl rfl ?_
        refine V_goto 8 dX1_undo_66 rfl ?_
        exact V_less (mm_keep (mm_keep (mm_keep (mm_keep (mm_drop mm_nil))))) (by decide) (by decide) (k3 c1 c2 c3)
      · replace c3 := jb_n.mp c3
        refine V_aload_n dX1_undo_49 rfl ?_
        refine V_aload dX1_undo_50 rfl ?_
        refine V_aload dX1_undo_52 rfl ?_
        refine V_callV1 (as := []) (k' := 0) (n' := 0) (s_X0_undo (o1 c1)) mw_X0_undo ko_X0 rfl w_1022 w_1023 w_1021 ar_X0_undo rfl ⟨rfl, rfl, rfl, rfl, rfl⟩ dX1_undo_54 c1 (o2 c1) ?_
        refine V_callV0 (as := [.ref v4, .int (unV σ v4)]) (k' := 0) (n' := 0) (s_X1_addToNets (Sh_uI (Sh_uI hS)) (o3 c1 c2 c3) (o4 c1 c2 c3) (o5 c1 c2 c3)) mw_X1_addToNets ko_X1 rfl w_978 w_18 w_976 ar_X1_addToNets rfl ⟨rfl, rfl, rfl, rfl, rfl⟩ dX1_undo_57 (by decide) (shk (Sh_uI (Sh_uI hS)) 27 rfl) ?_
        refine V_iinc (v2 + (1 : Int32)) [(0, .ref 27), (1, .int v1), (2, .int (v2 + (1 : Int32))), (3, .int v3), (4, .ref v4)] dX1_undo_60 rfl rfl rfl rfl ?_
        refine V_iinc (v3 + (1 : Int32)) [(0, .ref 27), (1, .int v1), (2, .int (v2 + (1 : Int32))), (3, .int (v3 + (1 : Int32))), (4, .ref v4)] dX1_undo_63 rfl rfl rfl rfl ?_
        refine V_goto 8 dX1_undo_66 rfl ?_
        exact V_less (mm_keep (mm_keep (mm_keep (mm_keep (mm_drop mm_nil))))) (by decide) (by decide) (k4 c1 c2 c3)

/-- which bills are settled, and what moves -/
def seC (σ : AH) (b : Nat) : Prop := (zI σ (bA σ b) 3 = 0 ∨ zI σ (bA σ b) 3 = 2) ∧ ¬ idF σ (zI σ (bA σ b) 0) ∧ ¬ idF σ (zI σ (bA σ b) 1)
def mvV (σ : AH) (m : Nat → Int32) (b c : Nat) : Int64 := (if c = ix (zI σ (bA σ b) 1) then Int32.toInt64 (m b) else 0) - (if c = ix (zI σ (bA σ b) 0) then Int32.toInt64 (m b) else 0)
theorem j_ring' (z a b : Int64) : z - a + b = z + (b - a) := by grind
/-- a step: the bill's row turned, and its nets -/
theorem kb_step {σ τ : AH} {C : Nat → Prop} {st m : Nat → Int32} {v : Int32} {d : Nat} {x y : Int32} (hτ : τ = kbH σ C st v (mvV σ m) d) (hc : C d) (hx : x = zI σ (bA σ d) 0) (hy : y = zI σ (bA σ d) 1) :
    anH (uI (uI τ (bA σ d) 5 v) (bA σ d) 3 (st d)) (ix x) (ix y) (Int32.toInt64 (m d)) = kbH σ C st v (mvV σ m) (d + 1) := by
  rw [kb_y hc, ← hτ, anH]
  refine s2_cg (fun a j => ?_) (fun a c => ?_)
  · rw [zI_uI, zI_uI]
  · split
    · rw [mvV, ← hx, ← hy]
      exact j_ring' _ _ _
    · rfl
/-- the heap ahead of settling; behind it -/
def seB (σ : AH) : AH := uI (fnH σ 5) 27 3 (zI σ 27 3 + 1)
noncomputable def seH (σ : AH) : AH := kbH (seB σ) (seC (seB σ)) (fun b => seS (seB σ) (bA (seB σ) b)) (zI σ 27 3 + 1) (mvV (seB σ) (fun b => seV (seB σ) (bA (seB σ) b))) (ix (zI σ 27 2))
theorem BS_ag {τ σ : AH} {n : Nat} (h2 : zI τ 27 2 = zI σ 27 2) (hI : ∀ b, b < n → zI τ (bA σ b) 0 = zI σ (bA σ b) 0 ∧ zI τ (bA σ b) 1 = zI σ (bA σ b) 1) (hK : zK τ = zK σ) (hR : zR τ = zR σ) (h : BS σ n) : BS τ n := by
  have eA : ∀ b, bA τ b = bA σ b := fun b => by rw [bA, hR]
  refine ⟨h.1, by rw [h2]; exact h.2.1, fun b hb => ?_, fun b c hb hc q => h.2.2.2 b c hb hc (by rw [eA, eA] at q; exact q)⟩
  rw [eA, hK, (hI b hb).1, (hI b hb).2]
  exact h.2.2.1 b hb
theorem BS_seB {σ : AH} {n : Nat} (h : BS σ n) : BS (seB σ) n := BS_ag (τ := seB σ) (σ := σ) (by rw [seB, zI_uI, if_neg (by decide)]; exact zI_s2 _ _ _ _ _) (fun b hb => by
  have := (h.2.2.1 b hb).1
  rw [seB, zI_uI, if_neg (by omega), zI_uI, if_neg (by omega)]
  exact ⟨rfl, rfl⟩) rfl rfl h
theorem s_X1_settle {g : GP} {σ : AH} {n : Nat} (hS : Sh σ) (hB : BS σ n) : Ct g mX1_settle [.ref 27] σ (FQ (seH σ) none) := by
  have hn := hB.1
  have hB' := BS_seB hB
  have hS' : Sh (seB σ) := Sh_uI (Sh_s2 hS)
  have hv : zI (seB σ) 27 3 = zI σ 27 3 + 1 := by rw [seB, zI_uI, if_pos ⟨rfl, rfl⟩]
  have hi : ix (zI σ 27 2) = n := by rw [hB.2.1]; exact cl0 (by omega)
  rw [seH, hi]
  refine Ct_of (by decide +kernel) rfl rfl (b_X1_settle_0 hS ?_)
  show V g mX1_settle (Em g mX1_settle _ NX) CT 0 0 16 [(0, .ref 27), (1, .int (nI 0))] [] (seB σ)
  generalize seB σ = ρ at *
  rw [← hv]
  have h27 : ∀ b, b < n → ¬ 27 = bA ρ b := fun b hb => by have := (hB'.2.2.1 b hb).1; omega
  refine up_loop (P := fun d => V g mX1_settle (Em g mX1_settle (FQ (kbH ρ (seC ρ) (fun b => seS ρ (bA ρ b)) (zI ρ 27 3) (mvV ρ (fun b => seV ρ (bA ρ b))) n) none) NX) CT 0 0 16 [(0, .ref 27), (1, .int (nI d))] [] (kbH ρ (seC ρ) (fun b => seS ρ (bA ρ b)) (zI ρ 27 3) (mvV ρ (fun b => seV ρ (bA ρ b))) d)) n ?_ ?_ 0 (Nat.zero_le _)
  · have hle : zI (kbH ρ (seC ρ) (fun b => seS ρ (bA ρ b)) (zI ρ 27 3) (mvV ρ (fun b => seV ρ (bA ρ b))) n) 27 2 ≤ nI n := by
      rw [kb_I n (fun q => by omega), hB'.2.1]; exact Int32.le_refl _
    exact b_X1_settle_16 (Sh_kb hS' n) (fun _ => fq) (fun c => absurd hle c)
  · intro d hd ih
    have eI : ∀ j, zI (kbH ρ (seC ρ) (fun b => seS ρ (bA ρ b)) (zI ρ 27 3) (mvV ρ (fun b => seV ρ (bA ρ b))) d) 27 j = zI ρ 27 j := fun j => kb_I d (fun _ b hb _ q => h27 b (by omega) q)
    have eb : ∀ j, zI (kbH ρ (seC ρ) (fun b => seS ρ (bA ρ b)) (zI ρ 27 3) (mvV ρ (fun b => seV ρ (bA ρ b))) d) (bA ρ d) j = zI ρ (bA ρ d) j := fun j => kb_I d (fun _ b hb _ q => by
      have := hB'.2.2.2 d b hd (by omega) q
      omega)
    have eR := (kb_N (σ := ρ) (C := seC ρ) (st := fun b => seS ρ (bA ρ b)) (v := zI ρ 27 3) (f := mvV ρ (fun b => seV ρ (bA ρ b))) d).2.2.2
    have eK := (kb_N (σ := ρ) (C := seC ρ) (st := fun b => seS ρ (bA ρ b)) (v := zI ρ 27 3) (f := mvV ρ (fun b => seV ρ (bA ρ b))) d).2.1
    have hstep := fun hc => kb_step (σ := ρ) (C := seC ρ) (st := fun b => seS ρ (bA ρ b)) (m := fun b => seV ρ (bA ρ b)) (v := zI ρ 27 3) (d := d) (x := zI ρ (bA ρ d) 0) (y := zI ρ (bA ρ d) 1) rfl hc rfl rfl
    have hno := fun hc => kb_n (σ := ρ) (C := seC ρ) (st := fun b => seS ρ (bA ρ b)) (v := zI ρ 27 3) (f := mvV ρ (fun b => seV ρ (bA ρ b))) (d := d) hc
    have hSd : Sh (kbH ρ (seC ρ) (fun b => seS ρ (bA ρ b)) (zI ρ 27 3) (mvV ρ (fun b => seV ρ (bA ρ b))) d) := Sh_kb hS' d
    rw [← nI_1] at ih
    have hrow := hB'.2.2.1 d hd
    have hlt : ¬ zI ρ 27 2 ≤ nI d := by rw [hB'.2.1]; exact nI_ge hd (by omega)
    have hat := BS_at hB' hd
    generalize kbH ρ (seC ρ) (fun b => seS ρ (bA ρ b)) (zI ρ 27 3) (mvV ρ (fun b => seV ρ (bA ρ b))) n = fin at *
    generalize kbH ρ (seC ρ) (fun b => seS ρ (bA ρ b)) (zI ρ 27 3) (mvV ρ (fun b => seV ρ (bA ρ b))) (d + 1) = nxt at *
    generalize kbH ρ (seC ρ) (fun b => seS ρ (bA ρ b)) (zI ρ 27 3) (mvV ρ (fun b => seV ρ (bA ρ b))) d = τ at *
    refine b_X1_settle_16 (σ := τ) hSd (fun c => absurd (by rw [eI] at c; exact c) hlt) (fun _ => ?_)
    rw [eI, eR, hat]
    have e1 : seS τ (bA ρ d) = seS ρ (bA ρ d) := by rw [seS, seS, eb, eb]
    have e2 : seV τ (bA ρ d) = seV ρ (bA ρ d) := by rw [seV, seV, abF, abF, eb, eb, eb]
    have e3 : ∀ z, idF τ z ↔ idF ρ z := fun z => by rw [idF, idF, eI]
    have bk : BK τ (bA ρ d) := ⟨by omega, by rw [eK]; exact hrow.2.1⟩
    have e0 : ∀ s x j, j ≠ 3 → j ≠ 5 → zI (uI (uI τ (bA ρ d) 5 x) (bA ρ d) 3 s) (bA ρ d) j = zI ρ (bA ρ d) j := fun s x j h3 h5 => by
      rw [zI_uI, if_neg (fun q => h3 q.2), zI_uI, if_neg (fun q => h5 q.2)]; exact eb j
    refine b_X1_settle_30 (σ := τ) hSd (fun c => absurd c (by omega)) (fun _ => bk) (fun _ => bk.2) (fun _ c => ?_) (fun _ _ => by rw [eb]; exact hrow.2.2.1) (fun _ _ c => ?_) (fun _ _ _ => by rw [eb]; exact hrow.2.2.2) (fun _ _ _ c => ?_) (fun _ _ _ _ => bk) (fun _ _ _ _ => by rw [e0 _ _ _ (by decide) (by decide)]; exact hrow.2.2.1) (fun _ _ _ _ => by rw [e0 _ _ _ (by decide) (by decide)]; exact hrow.2.2.2) (fun _ c1 c2 c3 => ?_)
    · rw [eb] at c
      rw [hno (fun q => c q.1)] at ih; exact ih
    · rw [eb, e3] at c
      rw [hno (fun q => q.2.1 c)] at ih; exact ih
    · rw [eb, e3] at c
      rw [hno (fun q => q.2.2 c)] at ih; exact ih
    · rw [eb] at c1
      rw [eb, e3] at c2 c3
      rw [e0 _ _ _ (by decide) (by decide), e0 _ _ _ (by decide) (by decide), e1, e2, eI, hstep ⟨c1, c2, c3⟩]
      exact ih
def BX (σ : AH) : Prop := BS σ (ix (zI σ 27 2))
theorem Sh_seH {σ : AH} (hS : Sh σ) : Sh (seH σ) := Sh_kb (Sh_uI (Sh_s2 hS)) _
/-- which bills are undone -/
def unC (σ : AH) (x : Int32) (b : Nat) : Prop := (zI σ (bA σ b) 0 = x ∨ zI σ (bA σ b) 1 = x) ∧ zI σ (bA σ b) 5 = zI σ 27 3 ∧ ¬ (zI σ (bA σ b) 3 = 0 ∨ zI σ (bA σ b) 3 = 2)
def unS' (σ : AH) (b : Nat) : Int32 := if zI σ (bA σ b) 3 = 1 then 0 else 2
noncomputable def unH (σ : AH) (x : Int32) : AH := kbH (fnH σ 5) (unC (fnH σ 5) x) (unS' (fnH σ 5)) 0 (mvV (fnH σ 5) (fun b => unV (fnH σ 5) (bA (fnH σ 5) b))) (ix (zI σ 27 2))
theorem s_X1_undo {g : GP} {σ : AH} {n : Nat} {x : Int32} (hS : Sh σ) (hB : BS σ n) : Ct g mX1_undo [.ref 27, .int x] σ (FQ (unH σ x) (some (.int (ctS (unC (fnH σ 5) x) n)))) := by
  have hn := hB.1
  have hB' : BS (fnH σ 5) n := BS_ag (τ := fnH σ 5) (σ := σ) rfl (fun b _ => ⟨rfl, rfl⟩) rfl rfl hB
  have hS' : Sh (fnH σ 5) := Sh_s2 hS
  have hi : ix (zI σ 27 2) = n := by rw [hB.2.1]; exact cl0 (by omega)
  rw [unH, hi]
  refine Ct_of (by decide +kernel) rfl rfl (b_X1_undo_0 hS ?_)
  show V g mX1_undo (Em g mX1_undo _ NX) CT 0 0 8 [(0, .ref 27), (1, .int x), (2, .int 0), (3, .int (nI 0))] [] (fnH σ 5)
  generalize fnH σ 5 = ρ at *
  have h27 : ∀ b, b < n → ¬ 27 = bA ρ b := fun b hb => by have := (hB'.2.2.1 b hb).1; omega
  refine up_loop (P := fun d => V g mX1_undo (Em g mX1_undo (FQ (kbH ρ (unC ρ x) (unS' ρ) 0 (mvV ρ (fun b => unV ρ (bA ρ b))) n) (some (.int (ctS (unC ρ x) n)))) NX) CT 0 0 8 [(0, .ref 27), (1, .int x), (2, .int (ctS (unC ρ x) d)), (3, .int (nI d))] [] (kbH ρ (unC ρ x) (unS' ρ) 0 (mvV ρ (fun b => unV ρ (bA ρ b))) d)) n ?_ ?_ 0 (Nat.zero_le _)
  · have hle : zI (kbH ρ (unC ρ x) (unS' ρ) 0 (mvV ρ (fun b => unV ρ (bA ρ b))) n) 27 2 ≤ nI n := by
      rw [kb_I n (fun q => by omega), hB'.2.1]; exact Int32.le_refl _
    exact b_X1_undo_8 (Sh_kb hS' n) (fun _ => fq) (fun c => absurd hle c)
  · intro d hd ih
    have eI : ∀ j, zI (kbH ρ (unC ρ x) (unS' ρ) 0 (mvV ρ (fun b => unV ρ (bA ρ b))) d) 27 j = zI ρ 27 j := fun j => kb_I d (fun _ b hb _ q => h27 b (by omega) q)
    have eb : ∀ j, zI (kbH ρ (unC ρ x) (unS' ρ) 0 (mvV ρ (fun b => unV ρ (bA ρ b))) d) (bA ρ d) j = zI ρ (bA ρ d) j := fun j => kb_I d (fun _ b hb _ q => by
      have := hB'.2.2.2 d b hd (by omega) q
      omega)
    have eR := (kb_N (σ := ρ) (C := unC ρ x) (st := unS' ρ) (v := 0) (f := mvV ρ (fun b => unV ρ (bA ρ b))) d).2.2.2
    have eK := (kb_N (σ := ρ) (C := unC ρ x) (st := unS' ρ) (v := 0) (f := mvV ρ (fun b => unV ρ (bA ρ b))) d).2.1
    have hstep := fun hc => kb_step (σ := ρ) (C := unC ρ x) (st := unS' ρ) (m := fun b => unV ρ (bA ρ b)) (v := 0) (d := d) (x := zI ρ (bA ρ d) 0) (y := zI ρ (bA ρ d) 1) rfl hc rfl rfl
    have hno := fun hc => kb_n (σ := ρ) (C := unC ρ x) (st := unS' ρ) (v := 0) (f := mvV ρ (fun b => unV ρ (bA ρ b))) (d := d) hc
    have hSd : Sh (kbH ρ (unC ρ x) (unS' ρ) 0 (mvV ρ (fun b => unV ρ (bA ρ b))) d) := Sh_kb hS' d
    rw [← nI_1] at ih
    have hrow := hB'.2.2.1 d hd
    have hlt : ¬ zI ρ 27 2 ≤ nI d := by rw [hB'.2.1]; exact nI_ge hd (by omega)
    have hat := BS_at hB' hd
    generalize kbH ρ (unC ρ x) (unS' ρ) 0 (mvV ρ (fun b => unV ρ (bA ρ b))) n = fin at *
    generalize kbH ρ (unC ρ x) (unS' ρ) 0 (mvV ρ (fun b => unV ρ (bA ρ b))) (d + 1) = nxt at *
    generalize kbH ρ (unC ρ x) (unS' ρ) 0 (mvV ρ (fun b => unV ρ (bA ρ b))) d = τ at *
    refine b_X1_undo_8 (σ := τ) hSd (fun c => absurd (by rw [eI] at c; exact c) hlt) (fun _ => ?_)
    rw [eI, eR, hat]
    have e1 : (if zI τ (bA ρ d) 3 = 1 then (0 : Int32) else 2) = unS' ρ d := by rw [unS', eb]
    have e2 : unV τ (bA ρ d) = unV ρ (bA ρ d) := by rw [unV, unV, abF, abF, eb, eb, eb]
    have bk : BK τ (bA ρ d) := ⟨by omega, by rw [eK]; exact hrow.2.1⟩
    have e0 : ∀ s x j, j ≠ 3 → j ≠ 5 → zI (uI (uI τ (bA ρ d) 5 x) (bA ρ d) 3 s) (bA ρ d) j = zI ρ (bA ρ d) j := fun s x j h3 h5 => by
      rw [zI_uI, if_neg (fun q => h3 q.2), zI_uI, if_neg (fun q => h5 q.2)]; exact eb j
    refine b_X1_undo_23 (σ := τ) hSd (fun c => absurd c (by omega)) (fun _ => bk) (fun _ => bk.2) (fun _ c => ?_) (fun _ c1 c2 => ?_) (fun _ _ _ => bk) (fun _ _ _ => by rw [e0 _ _ _ (by decide) (by decide)]; exact hrow.2.2.1) (fun _ _ _ => by rw [e0 _ _ _ (by decide) (by decide)]; exact hrow.2.2.2) (fun _ c1 c2 => ?_)
    · rw [eb, eb] at c
      have nc : ¬ unC ρ x d := fun q => c q.1
      rw [hno nc, ctS_n nc] at ih; exact ih
    · rw [eb, eb, eI] at c2
      have nc : ¬ unC ρ x d := fun q => c2 ⟨q.2.1, q.2.2⟩
      rw [hno nc, ctS_n nc] at ih; exact ih
    · rw [eb, eb] at c1
      rw [eb, eb, eI] at c2
      have yc : unC ρ x d := ⟨c1, c2.1, c2.2⟩
      rw [ctS_y yc] at ih
      rw [e0 _ _ _ (by decide) (by decide), e0 _ _ _ (by decide) (by decide), e1, e2, hstep yc]
      exact ih
theorem Sh_unH {σ : AH} {x : Int32} (hS : Sh σ) : Sh (unH σ x) := Sh_kb (Sh_s2 hS) _
