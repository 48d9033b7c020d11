/-! ===== the class: money, a ticket's price shared out ===== -/
theorem SO_I {σ : AH} {a m : Nat} {P : Nat → Nat → Int32} {pv wt : Nat → Int32} {c : Int32} {L p : Nat} {τ : AH} (h : SO σ a m P pv wt c L p τ) (b j : Nat) (h5 : j ≠ 5) (h6 : j ≠ 6) : zI τ b j = zI σ b j := by
  by_cases h1 : b = a
  · rw [h1]; exact h.2.2.2.2.2.2.1 j h6
  · by_cases h2 : ∃ k, k < m ∧ b = cA σ a k
    · obtain ⟨k, hk, rfl⟩ := h2
      exact h.2.2.2.2.2.1 k hk j h5 h6
    · exact h.2.2.2.2.2.2.2 b j h1 (fun k hk q => h2 ⟨k, hk, q⟩)
theorem SO_X {σ : AH} {a m : Nat} {P : Nat → Nat → Int32} {pv wt : Nat → Int32} {c : Int32} {L p : Nat} {τ : AH} (h : SO σ a m P pv wt c L p τ) : pvX τ a = pvX σ a ∧ wtX τ a = wtX σ a := by
  have eA : ∀ k, cA τ a k = cA σ a k := fun k => by rw [cA, h.1.2.2.2.1]
  constructor
  · funext k
    rw [pvX, pvX, eA, SO_I h _ 4 (by decide) (by decide), SO_I h _ 0 (by decide) (by decide), SO_I h _ 1 (by decide) (by decide), pvG, pvG, KT_I h.1 (by decide)]
  · funext k
    rw [wtX, wtX, eA, SO_I h _ 0 (by decide) (by decide), SO_I h _ 1 (by decide) (by decide), wtG, wtG, prG, prG, prG, prG, KT_I h.1 (by decide), KT_I h.1 (by decide)]
/-- what is asked of a ticket ahead of it -/
def soP (σ : AH) (a : Nat) : Prop := ∃ m, 1 ≤ m ∧ zI σ 33 16 = nI m ∧ TS σ a m ∧ CD σ a m ∧ 72 < a ∧ zI σ a 6 = 0 ∧ ∀ k, k < m → bt (wtX σ a k) 1 9999 ∧ zI σ (cA σ a k) 5 = 0
noncomputable def soT (σ : AH) (a : Nat) : AH := soH σ a (partF σ) (pvX σ a) (wtX σ a) (zI σ a 2) (ix (zI σ a 4)) (ix (zI σ a 4))
theorem s_X11_shareOut {g : GP} {σ : AH} {a : Nat} (hS : Sh σ) (hT : RT σ) (hJ : RJ σ) (h : soP σ a) : Ct g mX11_shareOut [.ref 2, .ref a] σ (FQ (soT σ a) none) := by
  obtain ⟨m, hm1, h16, hTS, hD, h72, h6, hw⟩ := h
  have hm8 := hTS.2.2.2.1
  have h4 := hTS.2.2.1
  have e4 : ix (zI σ a 4) = m := by rw [h4]; exact cl0 (by omega)
  rw [soT, e4]
  have hSO := SO_H (P := partF σ) (pv := pvX σ a) (wt := wtX σ a) (c := zI σ a 2) (L := m) hTS hD h72 h6 (fun k hk => (hw k hk).2)
  refine Ct_of (by decide +kernel) rfl rfl (b_X11_shareOut_0 ?_)
  refine up_loop (P := fun p => V g mX11_shareOut (Em g mX11_shareOut (FQ (soH σ a (partF σ) (pvX σ a) (wtX σ a) (zI σ a 2) m m) none) NX) CT 0 0 4 [(0, .ref 2), (1, .ref a), (2, .int (nI (sgS (partF σ) (pvX σ a) (wtX σ a) (zI σ a 2) m p).1)), (3, .int (nI (p + 1)))] [] (soH σ a (partF σ) (pvX σ a) (wtX σ a) (zI σ a 2) m p)) m ?_ ?_ 0 (Nat.zero_le _)
  · have s := hSO m (Nat.le_refl _)
    have e : zI (soH σ a (partF σ) (pvX σ a) (wtX σ a) (zI σ a 2) m m) a 4 = nI m := by rw [SO_I s _ _ (by decide) (by decide)]; exact h4
    have hlt : zI (soH σ a (partF σ) (pvX σ a) (wtX σ a) (zI σ a 2) m m) a 4 < nI (m + 1) := by rw [e]; exact nI_lt (by omega) (by omega)
    exact b_X11_shareOut_4 (σ := soH σ a (partF σ) (pvX σ a) (wtX σ a) (zI σ a 2) m m) (KT_Sh s.1 hS) hTS.1 (by rw [s.1.2.1]; exact hTS.2.1) (fun _ => fq) (fun c => absurd hlt c) (fun c => absurd hlt c) (fun c => absurd hlt c) (fun c => absurd hlt c) (fun c => absurd hlt c) (fun c => absurd hlt c) (fun c => absurd hlt c) (fun c => absurd hlt c) (fun c => absurd hlt c) (fun c => absurd hlt c) (fun c => absurd hlt c) (fun c => absurd hlt c) (fun c => absurd hlt c) (fun c => absurd hlt c) (fun c => absurd hlt c)
  · intro p hp ih
    have s := hSO p (by omega)
    have hsx := SO_X s
    have hle := sgS_le (P := partF σ) (pv := pvX σ a) (wt := wtX σ a) (c := zI σ a 2) (L := m) p
    generalize hw0 : sgS (partF σ) (pvX σ a) (wtX σ a) (zI σ a 2) m p = w at *
    generalize hτ0 : soH σ a (partF σ) (pvX σ a) (wtX σ a) (zI σ a 2) m p = τ at *
    have e : zI τ a 4 = nI m := by rw [SO_I s _ _ (by decide) (by decide)]; exact h4
    have e2 : zI τ a 2 = zI σ a 2 := SO_I s _ _ (by decide) (by decide)
    have e16 : zI τ 33 16 = nI m := by rw [KT_I s.1 (by decide)]; exact h16
    have hlt : ¬ zI τ a 4 < nI (p + 1) := by rw [e]; exact nI_nlt (by omega) (by omega)
    have hTS' : TS τ a m := TS_ag (SO_I s _ _ (by decide) (by decide)) s.1.2.1 s.1.2.2.1 s.1.2.2.2.1 hTS
    have hD' : CD τ a m := CD_ag s.1.2.2.2.1 hD
    have eA : ∀ k, cA τ a k = cA σ a k := fun k => by rw [cA, s.1.2.2.2.1]
    have hend : nI (p + 1) = zI τ a 4 ↔ p + 1 = m := by rw [e]; exact nI_eq (by omega) (by omega)
    have hcut : (((zI τ a 2) >>> (nI (p + 1) &&& 31)) &&& (1 : Int32)) = (1 : Int32) ↔ cutB (zI σ a 2) (p + 1) := by rw [e2]; exact Iff.rfl
    have q1 : inJ τ (nI w.1) := ⟨w.1, m, rfl, e16, by omega, by omega, by omega⟩
    have q2 : inJ τ (nI (p + 1)) := ⟨p + 1, m, rfl, e16, by omega, by omega, by omega⟩
    have q3 : shQ τ a (nI w.1) (nI (p + 1)) := ⟨m, w.1, p + 1 - w.1, rfl, by congr 1; omega, hTS', hD', by omega, fun k k1 k2 => by
      have hs0 : SO σ a m (partF σ) (pvX σ a) (wtX σ a) (zI σ a 2) m p τ := s
      have h5 := hs0.2.2.2.2.1 k (by rw [hw0]; exact k1) (by omega)
      rw [hsx.2, eA]
      exact ⟨(hw k (by omega)).1, h5⟩⟩
    have qT : RT τ := KT_RT s.1 hS hT
    have qJ : RJ τ := KT_RJ s.1 hJ
    have qK : zK (sh4 τ a (pvX τ a) (wtX τ a) (ix (nI w.1)) (ix (nI (p + 1)) - ix (nI w.1)) (partF τ (ix (nI w.1)) (ix (nI (p + 1))))) a = 9 := by rw [sh4_N.2.1]; exact hTS'.2.1
    have hu : zI τ a 6 = w.2.1 := by
      have := s.2.2.1
      rw [hw0] at this
      exact this
    have hy : (p + 1 = m ∨ cutB (zI σ a 2) (p + 1)) → V g mX11_shareOut (Em g mX11_shareOut (FQ (soH σ a (partF σ) (pvX σ a) (wtX σ a) (zI σ a 2) m m) none) NX) CT 0 0 4 [(0, .ref 2), (1, .ref a), (2, .int (nI (p + 1))), (3, .int (nI (p + 1) + 1))] [] (uI (sh4 τ a (pvX τ a) (wtX τ a) (ix (nI w.1)) (ix (nI (p + 1)) - ix (nI w.1)) (partF τ (ix (nI w.1)) (ix (nI (p + 1))))) a 6 (zI τ a 6 + unS (pvX τ a) (ix (nI w.1)) (ix (nI (p + 1)) - ix (nI w.1)) (partF τ (ix (nI w.1)) (ix (nI (p + 1)))))) := by
      intro c
      rw [soH_y c, sgS_y c, hw0, hτ0] at ih
      rw [nI_1, hsx.1, hsx.2, hu, partF_eq (KT_EqP s.1), show ix (nI w.1) = w.1 from cl0 (by omega), show ix (nI (p + 1)) = p + 1 from cl0 (by omega)]
      exact ih
    refine b_X11_shareOut_4 (σ := τ) (KT_Sh s.1 hS) hTS.1 hTS'.2.1 (fun c => absurd c hlt) (fun _ _ => qT) (fun _ _ => qJ) (fun _ _ => q1) (fun _ _ => q2) (fun _ _ => q3) (fun _ _ => qK) (fun _ c => hy (Or.inl (hend.mp c))) (fun _ c1 c2 => ?_) (fun _ _ _ => qT) (fun _ _ _ => qJ) (fun _ _ _ => q1) (fun _ _ _ => q2) (fun _ _ _ => q3) (fun _ _ _ => qK) (fun _ _ c => hy (Or.inr (hcut.mp c)))
    have c : ¬ (p + 1 = m ∨ cutB (zI σ a 2) (p + 1)) := fun q => q.elim (fun q => c1 (hend.mpr q)) (fun q => c2 (hcut.mpr q))
    rw [soH_n c, sgS_n c, hw0, hτ0, ← nI_1] at ih
    exact ih
theorem Sh_soH {σ : AH} {a : Nat} {P : Nat → Nat → Int32} {pv wt : Nat → Int32} {c : Int32} {L : Nat} (hS : Sh σ) : ∀ p, Sh (soH σ a P pv wt c L p)
  | 0 => hS
  | p + 1 => by
    have ih := Sh_soH (a := a) (P := P) (pv := pv) (wt := wt) (c := c) (L := L) hS p
    by_cases h : p + 1 = L ∨ cutB c (p + 1)
    · rw [soH_y h]; exact Sh_uI (Sh_sh4 ih)
    · rw [soH_n h]; exact ih
theorem Sh_soT {σ : AH} {a : Nat} (hS : Sh σ) : Sh (soT σ a) := Sh_soH hS _
set_option maxRecDepth 100000 in
set_option maxHeartbeats 4000000 in
theorem b_X11_addCash_0 {g : GP} {CX : State → Array Value → Prop} {Q : AH → Option Value → Prop} {X : AH → String → Prop} {v1 : Int32} {v2 : Int64} {σ : AH}
    (hS : Sh σ)
    (k1 : (¬ (isCa v1)) → Q σ none)
    (o1 : (isCa v1) → vp_in v1 5)
    (k2 : (isCa v1) → Q (uJ σ 31 (Int32.toNatClampNeg v1) ((zJ σ 31 (Int32.toNatClampNeg v1)) + v2)) none) :
    V g mX11_addCash (Em g mX11_addCash Q X) CX 0 0 0 [(0, .ref 2), (1, .int v1), (2, .long v2)] [] σ := by
  refine V_iload_n dX11_addCash_0 rfl ?_
  refine V_callS1 (as := [.int v1]) (k' := 0) (n' := 0) (s_X11_isCarrier) mw_X11_isCarrier w_364 w_363 ar_X11_isCarrier rfl ⟨rfl, rfl, rfl, rfl, rfl⟩ dX11_addCash_1 ?_
  refine V_if_eq 17 dX11_addCash_4 rfl (fun c1 => ?_) (fun c1 => ?_)
  · replace c1 := jb_0.mp c1
    exact V_vret rfl dX11_addCash_17 (k1 c1)
  · replace c1 := jb_n.mp c1
    refine V_aload_n dX11_addCash_7 rfl ?_
    refine V_getf (fk := 6) (Value.ref 31) ko_X11 rfl w_210 dX11_addCash_8 (by decide) (shk hS 2 rfl) (congrArg Value.ref (shr hS 2 6 31 (by decide))) ?_
    refine V_iload_n dX11_addCash_11 rfl ?_
    refine V_dup2 dX11_addCash_12 rfl rfl ?_
    refine V_lald dX11_addCash_13 (by decide) (shk hS 31 rfl) (vp_l (n := 5) (shl hS 31 rfl) (o1 c1)) ?_
    refine V_lload_n dX11_addCash_14 rfl ?_
    refine V_ladd dX11_addCash_15 ?_
    refine V_last dX11_addCash_16 (by decide) (shk hS 31 rfl) (vp_l (n := 5) (shl hS 31 rfl) (o1 c1)) ?_
    exact V_vret rfl dX11_addCash_17 (k2 c1)

set_option maxRecDepth 100000 in
set_option maxHeartbeats 4000000 in
theorem b_X11_ticketAt_0 {g : GP} {CX : State → Array Value → Prop} {Q : AH → Option Value → Prop} {X : AH → String → Prop} {v1 : Int32} {σ : AH}
    (hS : Sh σ)
    (k1 : (v1 < 0) → Q σ (some (.ref 0)))
    (k2 : (¬ v1 < 0) → ((zI σ 2 8) ≤ v1) → Q σ (some (.ref 0)))
    (k3 : (¬ v1 < 0) → (¬ (zI σ 2 8) ≤ v1) → ((30 : Int32) ≤ v1) → Q σ (some (.ref 0)))
    (o1 : (¬ v1 < 0) → (¬ (zI σ 2 8) ≤ v1) → (¬ (30 : Int32) ≤ v1) → vp_in v1 30)
    (k4 : (¬ v1 < 0) → (¬ (zI σ 2 8) ≤ v1) → (¬ (30 : Int32) ≤ v1) → Q σ (some (.ref (zR σ 30 (Int32.toNatClampNeg v1))))) :
    V g mX11_ticketAt (Em g mX11_ticketAt Q X) CX 0 0 0 [(0, .ref 2), (1, .int v1)] [] σ := by
  refine V_iload_n dX11_ticketAt_0 rfl ?_
  refine V_if_lt 22 dX11_ticketAt_1 rfl (fun c1 => ?_) (fun c1 => ?_)
  · refine V_iconst (0 : Int32) dX11_ticketAt_22 (by decide) ?_
    refine V_istore_n [(0, .ref 2), (1, .int v1), (2, .int (0 : Int32))] dX11_ticketAt_23 rfl rfl ?_
    refine V_iload_n dX11_ticketAt_24 rfl ?_
    refine V_if_eq 37 dX11_ticketAt_25 rfl (fun _ => ?_) (fun z_ => (by first | exact absurd (by decide) z_ | exact absurd z_ (by decide)))
    refine V_null dX11_ticketAt_37 ?_
    exact V_aret rfl dX11_ticketAt_38 (k1 c1)
  · refine V_iload_n dX11_ticketAt_4 rfl ?_
    refine V_aload_n dX11_ticketAt_5 rfl ?_
    refine V_getf (fk := 8) (Value.int (zI σ 2 8)) ko_X11 rfl w_212 dX11_ticketAt_6 (by decide) (shk hS 2 rfl) rfl ?_
    refine V_icmp_ge 22 dX11_ticketAt_9 rfl (fun c2 => ?_) (fun c2 => ?_)
    · refine V_iconst (0 : Int32) dX11_ticketAt_22 (by decide) ?_
      refine V_istore_n [(0, .ref 2), (1, .int v1), (2, .int (0 : Int32))] dX11_ticketAt_23 rfl rfl ?_
      refine V_iload_n dX11_ticketAt_24 rfl ?_
      refine V_if_eq 37 dX11_ticketAt_25 rfl (fun _ => ?_) (fun z_ => (by first | exact absurd (by decide) z_ | exact absurd z_ (by decide)))
      refine V_null dX11_ticketAt_37 ?_
      exact V_aret rfl dX11_ticketAt_38 (k2 c1 c2)
    · refine V_iload_n dX11_ticketAt_12 rfl ?_
      refine V_bipush (30 : Int32) dX11_ticketAt_13 (by decide) ?_
      refine V_icmp_ge 22 dX11_ticketAt_15 rfl (fun c3 => ?_) (fun c3 => ?_)
      · refine V_iconst (0 : Int32) dX11_ticketAt_22 (by decide) ?_
        refine V_istore_n [(0, .ref 2), (1, .int v1), (2, .int (0 : Int32))] dX11_ticketAt_23 rfl rfl ?_
        refine V_iload_n dX11_ticketAt_24 rfl ?_
        refine V_if_eq 37 dX11_ticketAt_25 rfl (fun _ => ?_) (fun z_ => (by first | exact absurd (by decide) z_ | exact absurd z_ (by decide)))
        refine V_null dX11_ticketAt_37 ?_
        exact V_aret rfl dX11_ticketAt_38 (k3 c1 c2 c3)
      · refine V_iconst (1 : Int32) dX11_ticketAt_18 (by decide) ?_
        refine V_goto 23 dX11_ticketAt_19 rfl ?_
        refine V_istore_n [(0, .ref 2), (1, .int v1), (2, .int (1 : Int32))] dX11_ticketAt_23 rfl rfl ?_
        refine V_iload_n dX11_ticketAt_24 rfl ?_
        refine V_if_eq 37 dX11_ticketAt_25 rfl (fun z_ => (by first | exact absurd (by decide) z_ | exact absurd z_ (by decide))) (fun _ => ?_)
        refine V_aload_n dX11_ticketAt_28 rfl ?_
        refine V_getf (fk := 5) (Value.ref 30) ko_X11 rfl w_209 dX11_ticketAt_29 (by decide) (shk hS 2 rfl) (congrArg Value.ref (shr hS 2 5 30 (by decide))) ?_
        refine V_iload_n dX11_ticketAt_32 rfl ?_
        refine V_aald ao_39 dX11_ticketAt_33 (by decide) (shk hS 30 rfl) (vp_l (n := 30) (shl hS 30 rfl) (o1 c1 c2 c3)) ?_
        refine V_goto 38 dX11_ticketAt_34 rfl ?_
        exact V_aret rfl dX11_ticketAt_38 (k4 c1 c2 c3)

set_option maxRecDepth 100000 in
set_option maxHeartbeats 4000000 in
theorem b_X11_canBeIssued_0 {g : GP} {CX : State → Array Value → Prop} {Q : AH → Option Value → Prop} {X : AH → String → Prop}  {σ : AH}
    (hS : Sh σ)
    (k1 : ((zI σ 23 3) = (-1 : Int32)) → Q σ (some (.int (0 : Int32))))
    (o1 : (¬ (zI σ 23 3) = (-1 : Int32)) → RJ σ)
    (k2 : (¬ (zI σ 23 3) = (-1 : Int32)) → (¬ (zI σ 33 16) = 0 ∧ ¬ (zI σ 3 6) ≤ zI σ 49 0) → Q σ (some (.int (0 : Int32))))
    (k3 : (¬ (zI σ 23 3) = (-1 : Int32)) → (¬ (¬ (zI σ 33 16) = 0 ∧ ¬ (zI σ 3 6) ≤ zI σ 49 0)) → ((30 : Int32) ≤ (zI σ 2 8)) → Q σ (some (.int (0 : Int32))))
    (k4 : (¬ (zI σ 23 3) = (-1 : Int32)) → (¬ (¬ (zI σ 33 16) = 0 ∧ ¬ (zI σ 3 6) ≤ zI σ 49 0)) → (¬ (30 : Int32) ≤ (zI σ 2 8)) → Q σ (some (.int (1 : Int32)))) :
    V g mX11_canBeIssued (Em g mX11_canBeIssued Q X) CX 0 0 0 [(0, .ref 2)] [] σ := by
  refine V_aload_n dX11_canBeIssued_0 rfl ?_
  refine V_getf (fk := 3) (Value.ref 23) ko_X11 rfl w_207 dX11_canBeIssued_1 (by decide) (shk hS 2 rfl) (congrArg Value.ref (shr hS 2 3 23 (by decide))) ?_
  refine V_getf (fk := 3) (Value.int (zI σ 23 3)) ko_X10 rfl w_160 dX11_canBeIssued_4 (by decide) (shk hS 23 rfl) rfl ?_
  refine V_iconst (-1 : Int32) dX11_canBeIssued_7 (by decide) ?_
  refine V_icmp_eq 41 dX11_canBeIssued_8 rfl (fun c1 => ?_) (fun c1 => ?_)
  · refine V_iconst (0 : Int32) dX11_canBeIssued_41 (by decide) ?_
    exact V_zret rfl dX11_canBeIssued_42 (by decide) (k1 c1)
  · refine V_aload_n dX11_canBeIssued_11 rfl ?_
    refine V_getf (fk := 2) (Value.ref 13) ko_X11 rfl w_206 dX11_canBeIssued_12 (by decide) (shk hS 2 rfl) (congrArg Value.ref (shr hS 2 2 13 (by decide))) ?_
    refine V_aload_n dX11_canBeIssued_15 rfl ?_
    refine V_getf (fk := 0) (Value.ref 3) ko_X11 rfl w_204 dX11_canBeIssued_16 (by decide) (shk hS 2 rfl) (congrArg Value.ref (shr hS 2 0 3 (by decide))) ?_
    refine V_getf (fk := 6) (Value.int (zI σ 3 6)) ko_X8 rfl w_78 dX11_canBeIssued_19 (by decide) (shk hS 3 rfl) rfl ?_
    refine V_callV1 (as := [.int (zI σ 3 6)]) (k' := 0) (n' := 0) (s_X4_hasLegBefore hS (o1 c1)) mw_X4_hasLegBefore ko_X4 rfl w_713 w_714 w_712 ar_X4_hasLegBefore rfl ⟨rfl, rfl, rfl, rfl, rfl⟩ dX11_canBeIssued_22 (by decide) (shk hS 13 rfl) ?_
    refine V_if_ne 41 dX11_canBeIssued_25 rfl (fun c2 => ?_) (fun c2 => ?_)
    · replace c2 := jb_n.mp c2
      refine V_iconst (0 : Int32) dX11_canBeIssued_41 (by decide) ?_
      exact V_zret rfl dX11_canBeIssued_42 (by decide) (k2 c1 c2)
    · replace c2 := jb_0.mp c2
      refine V_aload_n dX11_canBeIssued_28 rfl ?_
      refine V_getf (fk := 8) (Value.int (zI σ 2 8)) ko_X11 rfl w_212 dX11_canBeIssued_29 (by decide) (shk hS 2 rfl) rfl ?_
      refine V_bipush (30 : Int32) dX11_canBeIssued_32 (by decide) ?_
      refine V_icmp_ge 41 dX11_canBeIssued_34 rfl (fun c3 => ?_) (fun c3 => ?_)
      · refine V_iconst (0 : Int32) dX11_canBeIssued_41 (by decide) ?_
        exact V_zret rfl dX11_canBeIssued_42 (by decide) (k3 c1 c2 c3)
      · refine V_iconst (1 : Int32) dX11_canBeIssued_37 (by decide) ?_
        refine V_goto 42 dX11_canBeIssued_38 rfl ?_
        exact V_zret rfl dX11_canBeIssued_42 (by decide) (k4 c1 c2 c3)

theorem s_X11_addCash {g : GP} {σ : AH} {x : Int32} {y : Int64} (hS : Sh σ) (hx : isCa x) : Ct g mX11_addCash [.ref 2, .int x, .long y] σ (FQ (uJ σ 31 (ix x) (zJ σ 31 (ix x) + y)) none) :=
  Ct_of (by decide +kernel) rfl rfl (b_X11_addCash_0 hS (fun c => absurd hx c) (fun c => isCa_vp c) (fun _ => fq))
theorem s_X11_ticketAt {g : GP} {σ : AH} {x : Int32} (hS : Sh σ) : Ct g mX11_ticketAt [.ref 2, .int x] σ (FQ σ (some (.ref (atR (zI σ 2 8) 30 x (zR σ 30 (ix x)))))) :=
  Ct_of (by decide +kernel) rfl rfl (b_X11_ticketAt_0 hS (fun c => fq_r (by rw [atR, if_pos (Or.inl c)])) (fun _ c => fq_r (by rw [atR, if_pos (Or.inr (Or.inl c))])) (fun _ _ c => fq_r (by rw [atR, if_pos (Or.inr (Or.inr c))])) (fun c _ c2 => isPl_vpN (n := 30) c c2) (fun c c2 c3 => fq_r (by rw [atR, if_neg (fun q => q.elim c (fun q => q.elim c2 c3))])))
/-- may a ticket be issued by the way that was found last -/
abbrev cbF (σ : AH) : Prop := ¬ zI σ 23 3 = -1 ∧ ¬ (¬ zI σ 33 16 = 0 ∧ ¬ zI σ 3 6 ≤ zI σ 49 0) ∧ ¬ 30 ≤ zI σ 2 8
theorem s_X11_canBeIssued {g : GP} {σ : AH} (hS : Sh σ) (hJ : RJ σ) : Ct g mX11_canBeIssued [.ref 2] σ (FQ σ (some (.int (jb (cbF σ))))) :=
  Ct_of (by decide +kernel) rfl rfl (b_X11_canBeIssued_0 hS (fun c => fq_i (jb_f (fun q => q.1 c)).symm) (fun _ => hJ) (fun _ c => fq_i (jb_f (fun q => q.2.1 c)).symm) (fun _ _ c => fq_i (jb_f (fun q => q.2.2 c)).symm) (fun c1 c2 c3 => fq_i (jb_t ⟨c1, c2, c3⟩).symm))
set_option maxRecDepth 100000 in
set_option maxHeartbeats 4000000 in
theorem b_X11_receive_0 {g : GP} {CX : State → Array Value → Prop} {Q : AH → Option Value → Prop} {X : AH → String → Prop} {v1 : Nat} {v2 : Int32} {σ : AH}
    (hS : Sh σ)
    (o1 : v1 ≠ 0)
    (o2 : zK σ v1 = 9)
    (o3 : isCa (zI σ v1 0))
    (k1 : Q (uJ (uJ (uJ σ v1 7 ((zJ σ v1 7) + (Int32.toInt64 v2))) 2 10 ((zJ σ 2 10) + (Int32.toInt64 v2))) 31 (ix (zI σ v1 0)) (zJ (uJ (uJ σ v1 7 ((zJ σ v1 7) + (Int32.toInt64 v2))) 2 10 ((zJ σ 2 10) + (Int32.toInt64 v2))) 31 (ix (zI σ v1 0)) + (Int32.toInt64 v2))) none) :
    V g mX11_receive (Em g mX11_receive Q X) CX 0 0 0 [(0, .ref 2), (1, .ref v1), (2, .int v2)] [] σ := by
  refine V_aload_n dX11_receive_0 rfl ?_
  refine V_dup dX11_receive_1 rfl ?_
  refine V_getf (fk := 7) (Value.long (zJ σ v1 7)) ko_X9 rfl w_740 dX11_receive_2 o1 o2 rfl ?_
  refine V_iload_n dX11_receive_5 rfl ?_
  refine V_i2l dX11_receive_6 ?_
  refine V_ladd dX11_receive_7 ?_
  refine V_putl (fk := 7) ko_X9 rfl w_740 (Or.inl rfl) dX11_receive_8 rfl o1 o2 ?_
  refine V_aload_n dX11_receive_11 rfl ?_
  refine V_dup dX11_receive_12 rfl ?_
  refine V_getf (fk := 10) (Value.long (zJ σ 2 10)) ko_X11 rfl w_214 dX11_receive_13 (by decide) (shk (Sh_uJ hS) 2 rfl) (congrArg Value.long (zJ_oth _ _ _ _ _ _ (by decide))) ?_
  refine V_iload_n dX11_receive_16 rfl ?_
  refine V_i2l dX11_receive_17 ?_
  refine V_ladd dX11_receive_18 ?_
  refine V_putl (fk := 10) ko_X11 rfl w_214 (Or.inl rfl) dX11_receive_19 rfl (by decide) (shk (Sh_uJ hS) 2 rfl) ?_
  refine V_aload_n dX11_receive_22 rfl ?_
  refine V_aload_n dX11_receive_23 rfl ?_
  refine V_getf (fk := 0) (Value.int (zI σ v1 0)) ko_X9 rfl w_729 dX11_receive_24 o1 o2 rfl ?_
  refine V_iload_n dX11_receive_27 rfl ?_
  refine V_i2l dX11_receive_28 ?_
  refine V_callV0 (as := [.int (zI σ v1 0), .long (Int32.toInt64 v2)]) (k' := 0) (n' := 0) (s_X11_addCash (Sh_uJ (Sh_uJ hS)) o3) mw_X11_addCash ko_X11 rfl w_846 w_14 w_844 ar_X11_addCash rfl ⟨rfl, rfl, rfl, rfl, rfl⟩ dX11_receive_29 (by decide) (shk (Sh_uJ (Sh_uJ hS)) 2 rfl) ?_
  exact V_vret rfl dX11_receive_32 k1

/-- the heap when money is received -/
def rcH (σ : AH) (a : Nat) (x : Int32) : AH := uJ (uJ (uJ σ a 7 (zJ σ a 7 + Int32.toInt64 x)) 2 10 (zJ σ 2 10 + Int32.toInt64 x)) 31 (ix (zI σ a 0)) (zJ σ 31 (ix (zI σ a 0)) + Int32.toInt64 x)
theorem s_X11_receive {g : GP} {σ : AH} {a : Nat} {x : Int32} (hS : Sh σ) (h72 : 72 < a) (hK : zK σ a = 9) (hc : isCa (zI σ a 0)) : Ct g mX11_receive [.ref 2, .ref a, .int x] σ (FQ (rcH σ a x) none) := by
  refine Ct_of (by decide +kernel) rfl rfl (b_X11_receive_0 hS (by omega) hK hc ⟨?_, rfl⟩)
  rw [rcH]
  simp only [zJ_uJ, show ¬ (2 : Nat) = a by omega, show ¬ (31 : Nat) = a by omega, show ¬ (31 : Nat) = 2 by decide, false_and, if_false]
