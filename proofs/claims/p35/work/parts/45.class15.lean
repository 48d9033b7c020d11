/-! ===== the class: a price is shared out ===== -/
theorem sh3_N {σ : AH} {a : Nat} {pv wt : Nat → Int32} {i n : Nat} {lf al : Int32} : zN (sh3 σ a pv wt i n lf al) = zN σ ∧ zK (sh3 σ a pv wt i n lf al) = zK σ ∧ zL (sh3 σ a pv wt i n lf al) = zL σ ∧ zJ (sh3 σ a pv wt i n lf al) = zJ σ ∧ zR (sh3 σ a pv wt i n lf al) = zR σ := by
  rw [sh3]
  split
  · exact sh2_N n
  · exact sh2_N n
theorem sh4_N {σ : AH} {a : Nat} {pv wt : Nat → Int32} {i n : Nat} {c : Int32} : zN (sh4 σ a pv wt i n c) = zN σ ∧ zK (sh4 σ a pv wt i n c) = zK σ ∧ zL (sh4 σ a pv wt i n c) = zL σ ∧ zJ (sh4 σ a pv wt i n c) = zJ σ ∧ zR (sh4 σ a pv wt i n c) = zR σ := by
  rw [sh4]
  split
  · exact sh1_N n
  · obtain ⟨e1, e2, e3, e4, e5⟩ := sh3_N (σ := sh1 σ a pv wt i c n) (a := a) (pv := pv) (wt := wt) (i := i) (n := n) (lf := lfS pv i c n) (al := alS pv wt i n)
    obtain ⟨f1, f2, f3, f4, f5⟩ := sh1_N (σ := σ) (a := a) (pv := pv) (wt := wt) (i := i) (c := c) n
    exact ⟨e1.trans f1, e2.trans f2, e3.trans f3, e4.trans f4, e5.trans f5⟩
/-- the last coupon by its number -/
theorem ot_ix {pv : Nat → Int32} {i n : Nat} (hn : i + n ≤ 8) (h : ¬ otS pv i n = -1) : ∃ k, k < n ∧ otS pv i n = nI (i + k) ∧ pv (i + k) = -1 ∧ ∀ σ a, laR σ a pv i n = cA σ a (i + k) := by
  rcases otS_in (pv := pv) (i := i) n with q | ⟨k, k1, k2, k3, k4⟩
  · exact absurd q h
  · obtain ⟨d, rfl⟩ : ∃ d, k = i + d := ⟨k - i, by omega⟩
    refine ⟨d, by omega, k3, k4, fun σ a => ?_⟩
    rw [laR, if_neg h, k3, ix, cl0 (by omega)]
theorem sh4_o {σ : AH} {a m : Nat} {pv wt : Nat → Int32} {i n : Nat} {c : Int32} {b j : Nat} (hn : i + n ≤ 8) (h : j = 5 ∨ j = 6 → ∀ k, k < n → b ≠ cA σ a (i + k)) : zI (sh4 σ a pv wt i n c) b j = zI σ b j := by
  rw [sh4]
  split
  · exact sh1_o n h
  · rename_i ho
    obtain ⟨d, hd, e1, e2, e3⟩ := ot_ix hn ho
    have e4 : ∀ k, cA (sh1 σ a pv wt i c n) a k = cA σ a k := fun k => by rw [cA, (sh1_N n).2.2.2.2]
    have h1 : zI (sh2 (sh1 σ a pv wt i c n) a pv wt i (lfS pv i c n) (alS pv wt i n) n) b j = zI σ b j := by
      rw [sh2_o n (fun q k hk => by rw [e4]; exact h (Or.inr q) k hk), sh1_o n h]
    rw [sh3]
    split
    · exact h1
    · rw [zI_uI, if_neg (fun q => h (Or.inr q.2) d hd (by rw [q.1, e3, e4]))]
      exact h1
theorem sh4_s {σ : AH} {a m : Nat} {pv wt : Nat → Int32} {i n : Nat} {c : Int32} (hD : CD σ a m) (hn : i + n ≤ m) (hm : m ≤ 8) {k : Nat} (hk : k < n) : zI (sh4 σ a pv wt i n c) (cA σ a (i + k)) 6 = shS pv wt i n c k := by
  have e4 : ∀ k, cA (sh1 σ a pv wt i c n) a k = cA σ a k := fun k => by rw [cA, (sh1_N n).2.2.2.2]
  have hD1 : CD (sh1 σ a pv wt i c n) a m := CD_ag (sh1_N n).2.2.2.2 hD
  have h6 := sh1_6 (pv := pv) (wt := wt) (c := c) hD (k := k) n hk hn
  have h7 := sh2_s (pv := pv) (wt := wt) (lf := lfS pv i c n) (al := alS pv wt i n) hD1 (k := k) n hk hn
  rw [e4] at h7
  rw [sh4, shS]
  split
  · rename_i ho
    have np : ¬ pv (i + k) = -1 := fun q => by
      have : ∀ d, k < d → d ≤ n → ¬ otS pv i d = -1 := fun d => by
        induction d with
        | zero => intro h; omega
        | succ d ih =>
          intro h h2
          rw [otS]
          split
          · intro z
            have := congrArg Int32.toInt z
            rw [nI_toInt (by omega)] at this
            change ((i + d : Nat) : Int) = -1 at this
            omega
          · rename_i h3
            have : k ≠ d := fun z => h3 (z ▸ q)
            exact ih (by omega) (by omega)
      exact this n hk (Nat.le_refl _) ho
    rw [h6, if_neg np, if_neg np]
  · rename_i ho
    obtain ⟨d, hd, e1, e2, e3⟩ := ot_ix (by omega) ho
    have h72 := hD.1 (i + d) (by omega)
    rw [sh3, e3, e4, if_neg (by omega), zI_uI]
    by_cases q : k = d
    · subst q
      rw [if_pos ⟨rfl, rfl⟩, h7, if_pos e2, if_pos e2, e1, if_pos rfl]
    · rw [if_neg (fun z => q (by have := hD.2 _ _ (by omega) (by omega) z.1; omega)), h7]
      by_cases p : pv (i + k) = -1
      · have : ¬ nI (i + k) = otS pv i n := fun z => by
          rw [e1] at z
          have := (nI_eq (by omega) (by omega)).mp z
          omega
        rw [if_pos p, if_pos p, if_neg this]
      · rw [if_neg p, if_neg p, h6, if_neg p]
/-- coupons and tickets alone have changed -/
def KT (τ σ : AH) : Prop := zN τ = zN σ ∧ zK τ = zK σ ∧ zL τ = zL σ ∧ zR τ = zR σ ∧ ∀ b j, (72 < b → ¬ zK σ b = 2 ∧ ¬ zK σ b = 9) → zI τ b j = zI σ b j
theorem KT_refl (σ : AH) : KT σ σ := ⟨rfl, rfl, rfl, rfl, fun _ _ _ => rfl⟩
theorem KT_tr {ρ τ σ : AH} (h : KT ρ τ) (h' : KT τ σ) : KT ρ σ := ⟨h.1.trans h'.1, h.2.1.trans h'.2.1, h.2.2.1.trans h'.2.2.1, h.2.2.2.1.trans h'.2.2.2.1, fun b j q => (h.2.2.2.2 b j (by rw [h'.2.1]; exact q)).trans (h'.2.2.2.2 b j q)⟩
theorem KT_Gr {τ σ : AH} (h : KT τ σ) : Gr τ σ := ⟨by rw [h.1]; exact Nat.le_refl _, fun a _ => ⟨by rw [h.2.1], by rw [h.2.2.1]⟩⟩
theorem KT_I {τ σ : AH} (h : KT τ σ) {b j : Nat} (hb : b ≤ 72) : zI τ b j = zI σ b j := h.2.2.2.2 b j (fun q => by omega)
theorem KT_RT {τ σ : AH} (h : KT τ σ) (hS : Sh σ) (hT : RT σ) : RT τ := RT_ag (KT_Gr h) (fun a k _ hf => h.2.2.2.2 a k (fun q => by
  unfold FT at hf
  omega)) (fun k => by rw [h.2.2.2.1]) hS.1 hT
theorem KT_RJ {τ σ : AH} (h : KT τ σ) (hJ : RJ σ) : RJ τ :=
  RJ_ag (KT_I h (by decide)) (KT_I h (by decide)) (fun a k _ _ => KT_I h (by omega)) (fun a k _ _ => KT_I h (by omega)) (fun k q => by rw [KT_I h (by decide)]; exact q) hJ
theorem KT_EqP {τ σ : AH} (h : KT τ σ) : EqP τ σ := ⟨KT_I h (by decide), KT_I h (by decide), KT_I h (by decide), KT_I h (by decide), fun a k _ _ => KT_I h (by omega)⟩
theorem KT_Sh {τ σ : AH} (h : KT τ σ) (hS : Sh σ) : Sh τ := ⟨by rw [h.1]; exact hS.1, fun a h1 h2 => by rw [h.2.1, h.2.2.1]; exact hS.2.1 a h1 h2, fun q hq => by rw [h.2.2.2.1]; exact hS.2.2.1 q hq, by rw [h.2.1]; exact hS.2.2.2⟩
theorem KT_sh4 {σ : AH} {a m : Nat} {pv wt : Nat → Int32} {i n : Nat} {c : Int32} (hT : TS σ a m) (hD : CD σ a m) (hn : i + n ≤ m) : KT (sh4 σ a pv wt i n c) σ := by
  obtain ⟨e1, e2, e3, e4, e5⟩ := sh4_N (σ := σ) (a := a) (pv := pv) (wt := wt) (i := i) (n := n) (c := c)
  refine ⟨e1, e2, e3, e5, fun b j q => sh4_o (m := m) (by have := hT.2.2.2.1; omega) (fun _ k hk z => ?_)⟩
  have h1 := hD.1 (i + k) (by omega)
  rw [← z] at h1
  exact (q h1).1 (by rw [z]; exact (hT.2.2.2.2.2 (i + k) (by omega)).2)
theorem X_KT {τ σ : AH} {a m : Nat} (h : KT τ σ) (hc : ∀ k, k < m → ∀ j, j = 4 ∨ j = 0 ∨ j = 1 → zI τ (cA σ a k) j = zI σ (cA σ a k) j) {k : Nat} (hk : k < m) : pvX τ a k = pvX σ a k ∧ wtX τ a k = wtX σ a k := by
  have eA : cA τ a k = cA σ a k := by rw [cA, h.2.2.2.1]
  constructor
  · rw [pvX, pvX, eA, hc k hk 4 (by omega), hc k hk 0 (by omega), hc k hk 1 (by omega), pvG, pvG, KT_I h (by decide)]
  · rw [wtX, wtX, eA, hc k hk 0 (by omega), hc k hk 1 (by omega), wtG, wtG, prG, prG, prG, prG, KT_I h (by decide), KT_I h (by decide)]
def shQ (σ : AH) (a : Nat) (x y : Int32) : Prop := ∃ m i n, x = nI i ∧ y = nI (i + n) ∧ shP σ a m i n
theorem s_X7_share' {g : GP} {σ : AH} {a : Nat} {x y c : Int32} (hS : Sh σ) (h : shQ σ a x y) :
    Ct g mX7_share [.ref 9, .ref a, .int x, .int y, .int c, .ref 4] σ (FQ (sh4 σ a (pvX σ a) (wtX σ a) (ix x) (ix y - ix x) c) (some (.int (unS (pvX σ a) (ix x) (ix y - ix x) c)))) := by
  obtain ⟨m, i, n, rfl, rfl, hP⟩ := h
  have hm := hP.1.2.2.2.1
  have hn := hP.2.2.1
  have e1 : ix (nI i) = i := cl0 (by omega)
  have e2 : ix (nI (i + n)) = i + n := cl0 (by omega)
  rw [e1, e2, Nat.add_sub_cancel_left]
  exact s_X7_share hS hP
theorem Sh_sh4 {σ : AH} {a : Nat} {pv wt : Nat → Int32} {i n : Nat} {c : Int32} (h : Sh σ) : Sh (sh4 σ a pv wt i n c) := by
  rw [sh4]
  split
  · exact Sh_sh1 h n
  · exact Sh_sh3 (Sh_sh1 h n)
set_option maxRecDepth 100000 in
set_option maxHeartbeats 4000000 in
theorem b_X11_shareOut_0 {g : GP} {CX : State → Array Value → Prop} {E : ET} {v1 : Nat} {σ : AH}
    (k1 : V g mX11_shareOut E CX 0 0 4 [(0, .ref 2), (1, .ref v1), (2, .int (0 : Int32)), (3, .int (1 : Int32))] [] σ) :
    V g mX11_shareOut E CX 0 0 0 [(0, .ref 2), (1, .ref v1)] [] σ := by
  refine V_iconst (0 : Int32) dX11_shareOut_0 (by decide) ?_
  refine V_istore_n [(0, .ref 2), (1, .ref v1), (2, .int (0 : Int32))] dX11_shareOut_1 rfl rfl ?_
  refine V_iconst (1 : Int32) dX11_shareOut_2 (by decide) ?_
  refine V_istore_n [(0, .ref 2), (1, .ref v1), (2, .int (0 : Int32)), (3, .int (1 : Int32))] dX11_shareOut_3 rfl rfl ?_
  exact k1
set_option maxRecDepth 100000 in
set_option maxHeartbeats 4000000 in
theorem b_X11_shareOut_4 {g : GP} {CX : State → Array Value → Prop} {Q : AH → Option Value → Prop} {X : AH → String → Prop} {v1 : Nat} {v2 : Int32} {v3 : Int32} {σ : AH}
    (hS : Sh σ)
    (o1 : v1 ≠ 0)
    (o2 : zK σ v1 = 9)
    (k1 : ((zI σ v1 4) < v3) → Q σ none)
    (o3 : (¬ (zI σ v1 4) < v3) → (v3 = (zI σ v1 4)) → RT σ)
    (o4 : (¬ (zI σ v1 4) < v3) → (v3 = (zI σ v1 4)) → RJ σ)
    (o5 : (¬ (zI σ v1 4) < v3) → (v3 = (zI σ v1 4)) → inJ σ v2)
    (o6 : (¬ (zI σ v1 4) < v3) → (v3 = (zI σ v1 4)) → inJ σ v3)
    (o7 : (¬ (zI σ v1 4) < v3) → (v3 = (zI σ v1 4)) → shQ σ v1 v2 v3)
    (o8 : (¬ (zI σ v1 4) < v3) → (v3 = (zI σ v1 4)) → zK (sh4 σ v1 (pvX σ v1) (wtX σ v1) (ix v2) (ix v3 - ix v2) (partF σ (ix v2) (ix v3))) v1 = 9)
    (k2 : (¬ (zI σ v1 4) < v3) → (v3 = (zI σ v1 4)) → V g mX11_shareOut (Em g mX11_shareOut Q X) CX 0 0 4 [(0, .ref 2), (1, .ref v1), (2, .int v3), (3, .int (v3 + (1 : Int32)))] [] (uI (sh4 σ v1 (pvX σ v1) (wtX σ v1) (ix v2) (ix v3 - ix v2) (partF σ (ix v2) (ix v3))) v1 6 ((zI σ v1 6) + (unS (pvX σ v1) (ix v2) (ix v3 - ix v2) (partF σ (ix v2) (ix v3))))))
    (k3 : (¬ (zI σ v1 4) < v3) → (¬ v3 = (zI σ v1 4)) → (¬ (((zI σ v1 2) >>> (v3 &&& 31)) &&& (1 : Int32)) = (1 : Int32)) → V g mX11_shareOut (Em g mX11_shareOut Q X) CX 0 0 4 [(0, .ref 2), (1, .ref v1), (2, .int v2), (3, .int (v3 + (1 : Int32)))] [] σ)
    (o9 : (¬ (zI σ v1 4) < v3) → (¬ v3 = (zI σ v1 4)) → ((((zI σ v1 2) >>> (v3 &&& 31)) &&& (1 : Int32)) = (1 : Int32)) → RT σ)
    (o10 : (¬ (zI σ v1 4) < v3) → (¬ v3 = (zI σ v1 4)) → ((((zI σ v1 2) >>> (v3 &&& 31)) &&& (1 : Int32)) = (1 : Int32)) → RJ σ)
    (o11 : (¬ (zI σ v1 4) < v3) → (¬ v3 = (zI σ v1 4)) → ((((zI σ v1 2) >>> (v3 &&& 31)) &&& (1 : Int32)) = (1 : Int32)) → inJ σ v2)
    (o12 : (¬ (zI σ v1 4) < v3) → (¬ v3 = (zI σ v1 4)) → ((((zI σ v1 2) >>> (v3 &&& 31)) &&& (1 : Int32)) = (1 : Int32)) → inJ σ v3)
    (o13 : (¬ (zI σ v1 4) < v3) → (¬ v3 = (zI σ v1 4)) → ((((zI σ v1 2) >>> (v3 &&& 31)) &&& (1 : Int32)) = (1 : Int32)) → shQ σ v1 v2 v3)
    (o14 : (¬ (zI σ v1 4) < v3) → (¬ v3 = (zI σ v1 4)) → ((((zI σ v1 2) >>> (v3 &&& 31)) &&& (1 : Int32)) = (1 : Int32)) → zK (sh4 σ v1 (pvX σ v1) (wtX σ v1) (ix v2) (ix v3 - ix v2) (partF σ (ix v2) (ix v3))) v1 = 9)
    (k4 : (¬ (zI σ v1 4) < v3) → (¬ v3 = (zI σ v1 4)) → ((((zI σ v1 2) >>> (v3 &&& 31)) &&& (1 : Int32)) = (1 : Int32)) → V g mX11_shareOut (Em g mX11_shareOut Q X) CX 0 0 4 [(0, .ref 2), (1, .ref v1), (2, .int v3), (3, .int (v3 + (1 : Int32)))] [] (uI (sh4 σ v1 (pvX σ v1) (wtX σ v1) (ix v2) (ix v3 - ix v2) (partF σ (ix v2) (ix v3))) v1 6 ((zI σ v1 6) + (unS (pvX σ v1) (ix v2) (ix v3 - ix v2) (partF σ (ix v2) (ix v3)))))) :
    V g mX11_shareOut (Em g mX11_shareOut Q X) CX 0 0 4 [(0, .ref 2), (1, .ref v1), (2, .int v2), (3, .int v3)] [] σ := by
  refine V_iload_n dX11_shareOut_4 rfl ?_
  refine V_aload_n dX11_shareOut_5 rfl ?_
  refine V_getf (fk := 4) (Value.int (zI σ v1 4)) ko_X9 rfl w_736 dX11_shareOut_6 o1 o2 rfl ?_
  refine V_icmp_gt 83 dX11_shareOut_9 rfl (fun c1 => ?_) (fun c1 => ?_)
  · exact V_vret rfl dX11_shareOut_83 (k1 c1)
  · refine V_iload_n dX11_shareOut_12 rfl ?_
    refine V_aload_n dX11_shareOut_13 rfl ?_
    refine V_getf (fk := 4) (Value.int (zI σ v1 4)) ko_X9 rfl w_736 dX11_shareOut_14 o1 o2 rfl ?_
    refine V_icmp_eq 32 dX11_shareOut_17 rfl (fun c2 => ?_) (fun c2 => ?_)
    · refine V_aload_n dX11_shareOut_32 rfl ?_
      refine V_getf (fk := 2) (Value.ref 13) ko_X11 rfl w_206 dX11_shareOut_33 (by decide) (shk hS 2 rfl) (congrArg Value.ref (shr hS 2 2 13 (by decide))) ?_
      refine V_aload_n dX11_shareOut_36 rfl ?_
      refine V_getf (fk := 0) (Value.ref 3) ko_X11 rfl w_204 dX11_shareOut_37 (by decide) (shk hS 2 rfl) (congrArg Value.ref (shr hS 2 0 3 (by decide))) ?_
      refine V_iload_n dX11_shareOut_40 rfl ?_
      refine V_iload_n dX11_shareOut_41 rfl ?_
      refine V_callV1 (as := [.ref 3, .int v2, .int v3]) (k' := 0) (n' := 0) (s_X4_priceOfPart hS (o3 c1 c2) (o4 c1 c2) (o5 c1 c2) (o6 c1 c2)) mw_X4_priceOfPart ko_X4 rfl w_616 w_617 w_700 ar_X4_priceOfPart rfl ⟨rfl, rfl, rfl, rfl, rfl⟩ dX11_shareOut_42 (by decide) (shk hS 13 rfl) ?_
      refine V_istore [(0, .ref 2), (1, .ref v1), (2, .int v2), (3, .int v3), (4, .int (partF σ (ix v2) (ix v3)))] dX11_shareOut_45 rfl rfl ?_
      refine V_aload_n dX11_shareOut_47 rfl ?_
      refine V_dup dX11_shareOut_48 rfl ?_
      refine V_getf (fk := 6) (Value.int (zI σ v1 6)) ko_X9 rfl w_739 dX11_shareOut_49 o1 o2 rfl ?_
      refine V_aload_n dX11_shareOut_52 rfl ?_
      refine V_getf (fk := 1) (Value.ref 9) ko_X11 rfl w_205 dX11_shareOut_53 (by decide) (shk hS 2 rfl) (congrArg Value.ref (shr hS 2 1 9 (by decide))) ?_
      refine V_aload_n dX11_shareOut_56 rfl ?_
      refine V_iload_n dX11_shareOut_57 rfl ?_
      refine V_iload_n dX11_shareOut_58 rfl ?_
      refine V_iload dX11_shareOut_59 rfl ?_
      refine V_aload_n dX11_shareOut_61 rfl ?_
      refine V_getf (fk := 0) (Value.ref 3) ko_X11 rfl w_204 dX11_shareOut_62 (by decide) (shk hS 2 rfl) (congrArg Value.ref (shr hS 2 0 3 (by decide))) ?_
      refine V_getf (fk := 0) (Value.ref 4) ko_X8 rfl w_68 dX11_shareOut_65 (by decide) (shk hS 3 rfl) (congrArg Value.ref (shr hS 3 0 4 (by decide))) ?_
      refine V_callV1 (as := [.ref v1, .int v2, .int v3, .int (partF σ (ix v2) (ix v3)), .ref 4]) (k' := 0) (n' := 0) (s_X7_share' hS (o7 c1 c2)) mw_X7_share ko_X7 rfl w_820 w_821 w_819 ar_X7_share rfl ⟨rfl, rfl, rfl, rfl, rfl⟩ dX11_shareOut_68 (by decide) (shk hS 9 rfl) ?_
      refine V_iadd dX11_shareOut_71 ?_
      refine V_puti (fk := 6) ko_X9 rfl w_739 (Or.inl rfl) dX11_shareOut_72 rfl o1 (o8 c1 c2) ?_
      refine V_iload_n dX11_shareOut_75 rfl ?_
      refine V_istore_n [(0, .ref 2), (1, .ref v1), (2, .int v3), (3, .int v3), (4, .int (partF σ (ix v2) (ix v3)))] dX11_shareOut_76 rfl rfl ?_
      refine V_iinc (v3 + (1 : Int32)) [(0, .ref 2), (1, .ref v1), (2, .int v3), (3, .int (v3 + (1 : Int32))), (4, .int (partF σ (ix v2) (ix v3)))] dX11_shareOut_77 rfl rfl rfl rfl ?_
      refine V_goto 4 dX11_shareOut_80 rfl ?_
      exact V_less (mm_keep (mm_keep (mm_keep (mm_keep (mm_drop mm_nil))))) (by decide) (by decide) (k2 c1 c2)
    · refine V_aload_n dX11_shareOut_20 rfl ?_
      refine V_getf (fk := 2) (Value.int (zI σ v1 2)) ko_X9 rfl w_733 dX11_shareOut_21 o1 o2 rfl ?_
      refine V_iload_n dX11_shareOut_24 rfl ?_
      refine V_ishr dX11_shareOut_25 ?_
      refine V_iconst (1 : Int32) dX11_shareOut_26 (by decide) ?_
      refine V_iand dX11_shareOut_27 ?_
      refine V_iconst (1 : Int32) dX11_shareOut_28 (by decide) ?_
      refine V_icmp_ne 77 dX11_shareOut_29 rfl (fun c3 => ?_) (fun c3 => ?_)
      · refine V_iinc (v3 + (1 : Int32)) [(0, .ref 2), (1, .ref v1), (2, .int v2), (3, .int (v3 + (1 : Int32)))] dX11_shareOut_77 rfl rfl rfl rfl ?_
        refine V_goto 4 dX11_shareOut_80 rfl ?_
        exact (k3 c1 c2 c3)
      · refine V_aload_n dX11_shareOut_32 rfl ?_
        refine V_getf (fk := 2) (Value.ref 13) ko_X11 rfl w_206 dX11_shareOut_33 (by decide) (shk hS 2 rfl) (congrArg Value.ref (shr hS 2 2 13 (by decide))) ?_
        refine V_aload_n dX11_shareOut_36 rfl ?_
        refine V_getf (fk := 0) (Value.ref 3) ko_X11 rfl w_204 dX11_shareOut_37 (by decide) (shk hS 2 rfl) (congrArg Value.ref (shr hS 2 0 3 (by decide))) ?_
        refine V_iload_n dX11_shareOut_40 rfl ?_
        refine V_iload_n dX11_shareOut_41 rfl ?_
        refine V_callV1 (as := [.ref 3, .int v2, .int v3]) (k' := 0) (n' := 0) (s_X4_priceOfPart hS (o9 c1 c2 c3) (o10 c1 c2 c3) (o11 c1 c2 c3) (o12 c1 c2 c3)) mw_X4_priceOfPart ko_X4 rfl w_616 w_617 w_700 ar_X4_priceOfPart rfl ⟨rfl, rfl, rfl, rfl, rfl⟩ dX11_shareOut_42 (by decide) (shk hS 13 rfl) ?_
        refine V_istore [(0, .ref 2), (1, .ref v1), (2, .int v2), (3, .int v3), (4, .int (partF σ (ix v2) (ix v3)))] dX11_shareOut_45 rfl rfl ?_
        refine V_aload_n dX11_shareOut_47 rfl ?_
        refine V_dup dX11_shareOut_48 rfl ?_
        refine V_getf (fk := 6) (Value.int (zI σ v1 6)) ko_X9 rfl w_739 dX11_shareOut_49 o1 o2 rfl ?_
        refine V_aload_n dX11_shareOut_52 rfl ?_
        refine V_getf (fk := 1) (Value.ref 9) ko_X11 rfl w_205 dX11_shareOut_53 (by decide) (shk hS 2 rfl) (congrArg Value.ref (shr hS 2 1 9 (by decide))) ?_
        refine V_aload_n dX11_shareOut_56 rfl ?_
        refine V_iload_n dX11_shareOut_57 rfl ?_
        refine V_iload_n dX11_shareOut_58 rfl ?_
        refine V_iload dX11_shareOut_59 rfl ?_
        refine V_aload_n dX11_shareOut_61 rfl ?_
        refine V_getf (fk := 0) (Value.ref 3) ko_X11 rfl w_204 dX11_shareOut_62 (by decide) (shk hS 2 rfl) (congrArg Value.ref (shr hS 2 0 3 (by decide))) ?_
        refine V_getf (fk := 0) (Value.ref 4) ko_X8 rfl w_68 dX11_shareOut_65 (by decide) (shk hS 3 rfl) (congrArg Value.ref (shr hS 3 0 4 (by decide))) ?_
        refine V_callV1 (as := [.ref v1, .int v2, .int v3, .int (partF σ (ix v2) (ix v3)), .ref 4]) (k' := 0) (n' := 0) (s_X7_share' hS (o13 c1 c2 c3)) mw_X7_share ko_X7 rfl w_820 w_821 w_819 ar_X7_share rfl ⟨rfl, rfl, rfl, rfl, rfl⟩ dX11_shareOut_68 (by decide) (shk hS 9 rfl) ?_
        refine V_iadd dX11_shareOut_71 ?_
        refine V_puti (fk := 6) ko_X9 rfl w_739 (Or.inl rfl) dX11_shareOut_72 rfl o1 (o14 c1 c2 c3) ?_
        refine V_iload_n dX11_shareOut_75 rfl ?_
        refine V_istore_n [(0, .ref 2), (1, .ref v1), (2, .int v3), (3, .int v3), (4, .int (partF σ (ix v2) (ix v3)))] dX11_shareOut_76 rfl rfl ?_
        refine V_iinc (v3 + (1 : Int32)) [(0, .ref 2), (1, .ref v1), (2, .int v3), (3, .int (v3 + (1 : Int32))), (4, .int (partF σ (ix v2) (ix v3)))] dX11_shareOut_77 rfl rfl rfl rfl ?_
        refine V_goto 4 dX11_shareOut_80 rfl ?_
        exact V_less (mm_keep (mm_keep (mm_keep (mm_keep (mm_drop mm_nil))))) (by decide) (by decide) (k4 c1 c2 c3)

/-- the heap behind so many points when a ticket's price is shared out -/
noncomputable def soH (σ : AH) (a : Nat) (P : Nat → Nat → Int32) (pv wt : Nat → Int32) (c : Int32) (L : Nat) : Nat → AH
  | 0 => σ
  | p + 1 => @ite _ (p + 1 = L ∨ cutB c (p + 1)) (Classical.propDecidable _)
      (uI (sh4 (soH σ a P pv wt c L p) a pv wt (sgS P pv wt c L p).1 (p + 1 - (sgS P pv wt c L p).1) (P (sgS P pv wt c L p).1 (p + 1))) a 6 ((sgS P pv wt c L p).2.1 + unS pv (sgS P pv wt c L p).1 (p + 1 - (sgS P pv wt c L p).1) (P (sgS P pv wt c L p).1 (p + 1))))
      (soH σ a P pv wt c L p)
theorem soH_y {σ : AH} {a : Nat} {P : Nat → Nat → Int32} {pv wt : Nat → Int32} {c : Int32} {L p : Nat} (h : p + 1 = L ∨ cutB c (p + 1)) : soH σ a P pv wt c L (p + 1) = uI (sh4 (soH σ a P pv wt c L p) a pv wt (sgS P pv wt c L p).1 (p + 1 - (sgS P pv wt c L p).1) (P (sgS P pv wt c L p).1 (p + 1))) a 6 ((sgS P pv wt c L p).2.1 + unS pv (sgS P pv wt c L p).1 (p + 1 - (sgS P pv wt c L p).1) (P (sgS P pv wt c L p).1 (p + 1))) := by
  rw [soH, if_pos h]
theorem soH_n {σ : AH} {a : Nat} {P : Nat → Nat → Int32} {pv wt : Nat → Int32} {c : Int32} {L p : Nat} (h : ¬ (p + 1 = L ∨ cutB c (p + 1))) : soH σ a P pv wt c L (p + 1) = soH σ a P pv wt c L p := by
  rw [soH, if_neg h]
/-- what holds of it -/
def SO (σ : AH) (a m : Nat) (P : Nat → Nat → Int32) (pv wt : Nat → Int32) (c : Int32) (L : Nat) (p : Nat) (τ : AH) : Prop :=
  KT τ σ ∧ zJ τ = zJ σ ∧ zI τ a 6 = (sgS P pv wt c L p).2.1 ∧ (∀ k, k < (sgS P pv wt c L p).1 → zI τ (cA σ a k) 6 = (sgS P pv wt c L p).2.2 k) ∧
  (∀ k, (sgS P pv wt c L p).1 ≤ k → k < m → zI τ (cA σ a k) 5 = 0) ∧
  (∀ k, k < m → ∀ j, j ≠ 5 → j ≠ 6 → zI τ (cA σ a k) j = zI σ (cA σ a k) j) ∧ (∀ j, j ≠ 6 → zI τ a j = zI σ a j) ∧
  ∀ b j, b ≠ a → (∀ k, k < m → b ≠ cA σ a k) → zI τ b j = zI σ b j
theorem SO_0 {σ : AH} {a m : Nat} {P : Nat → Nat → Int32} {pv wt : Nat → Int32} {c : Int32} {L : Nat} (h6 : zI σ a 6 = 0) (h5 : ∀ k, k < m → zI σ (cA σ a k) 5 = 0) : SO σ a m P pv wt c L 0 σ :=
  ⟨KT_refl σ, rfl, h6, fun k hk => absurd hk (Nat.not_lt_zero _), fun k _ hk => h5 k hk, fun _ _ _ _ _ => rfl, fun _ _ => rfl, fun _ _ _ _ => rfl⟩
theorem SO_n {σ : AH} {a m : Nat} {P : Nat → Nat → Int32} {pv wt : Nat → Int32} {c : Int32} {L p : Nat} {τ : AH} (h : ¬ (p + 1 = L ∨ cutB c (p + 1))) (hs : SO σ a m P pv wt c L p τ) : SO σ a m P pv wt c L (p + 1) τ := by
  unfold SO
  rw [sgS_n h]
  exact hs
theorem SO_y {σ : AH} {a m : Nat} {P : Nat → Nat → Int32} {pv wt : Nat → Int32} {c : Int32} {L p : Nat} {τ : AH} (hT : TS σ a m) (hD : CD σ a m) (h72 : 72 < a) (hp : p + 1 ≤ m) (h : p + 1 = L ∨ cutB c (p + 1)) (hs : SO σ a m P pv wt c L p τ) :
    SO σ a m P pv wt c L (p + 1) (uI (sh4 τ a pv wt (sgS P pv wt c L p).1 (p + 1 - (sgS P pv wt c L p).1) (P (sgS P pv wt c L p).1 (p + 1))) a 6 ((sgS P pv wt c L p).2.1 + unS pv (sgS P pv wt c L p).1 (p + 1 - (sgS P pv wt c L p).1) (P (sgS P pv wt c L p).1 (p + 1)))) := by
  have hm8 := hT.2.2.2.1
  have hle := sgS_le (P := P) (pv := pv) (wt := wt) (c := c) (L := L) p
  obtain ⟨s1, s2, s3, s4, s5, s6, s7, s8⟩ := hs
  unfold SO
  rw [sgS_y h]
  generalize sgS P pv wt c L p = w at *
  obtain ⟨i, u, f⟩ := w
  dsimp only at *
  have eA : ∀ k, cA τ a k = cA σ a k := fun k => by rw [cA, s1.2.2.2.1]
  have hT' : TS τ a m := TS_ag (s7 4 (by decide)) s1.2.1 s1.2.2.1 s1.2.2.2.1 hT
  have hD' : CD τ a m := CD_ag s1.2.2.2.1 hD
  obtain ⟨e1, e2, e3, e4, e5⟩ := sh4_N (σ := τ) (a := a) (pv := pv) (wt := wt) (i := i) (n := p + 1 - i) (c := P i (p + 1))
  have hac : ∀ k, k < m → ¬ cA σ a k = a := fun k hk q => by
    have h1 := (hT.2.2.2.2.2 k hk).2
    rw [q, hT.2.1] at h1
    exact absurd h1 (by decide)
  have o4 : ∀ b j, (j = 5 ∨ j = 6 → ∀ k, k < p + 1 - i → b ≠ cA σ a (i + k)) → zI (sh4 τ a pv wt i (p + 1 - i) (P i (p + 1))) b j = zI τ b j := fun b j q => sh4_o (m := m) (by omega) (fun z k hk => by rw [eA]; exact q z k hk)
  have k4 := KT_sh4 (pv := pv) (wt := wt) (c := P i (p + 1)) (i := i) (n := p + 1 - i) hT' hD' (by omega)
  refine ⟨KT_tr ⟨k4.1, k4.2.1, k4.2.2.1, k4.2.2.2.1, fun b j q => ?_⟩ s1, ?_, ?_, fun k hk => ?_, fun k h1 h2 => ?_, fun k hk j h1 h2 => ?_, fun j h1 => ?_, fun b j h1 h2 => ?_⟩
  · rw [zI_uI, if_neg (fun z => (q (by rw [z.1]; exact h72)).2 (by rw [z.1]; exact hT'.2.1))]
    exact k4.2.2.2.2 b j q
  · exact e4.trans s2
  · rw [zI_uI, if_pos ⟨rfl, rfl⟩]
  · rw [zI_uI, if_neg (fun z => hac k (by omega) z.1)]
    by_cases q : i ≤ k
    · obtain ⟨d, rfl⟩ : ∃ d, k = i + d := ⟨k - i, by omega⟩
      rw [if_pos q, Nat.add_sub_cancel_left, ← eA]
      exact sh4_s hD' (by omega) hm8 (by omega)
    · rw [if_neg q, o4 _ _ (fun _ d hd z => q (by have := hD.2 _ _ (by omega) (by omega) z; omega))]
      exact s4 k (by omega)
  · rw [zI_uI, if_neg (fun z => hac k h2 z.1), o4 _ _ (fun _ d hd z => by have := hD.2 _ _ h2 (by omega) z; omega)]
    exact s5 k (by omega) h2
  · rw [zI_uI, if_neg (fun z => hac k hk z.1), o4 _ _ (fun q => by omega)]
    exact s6 k hk j h1 h2
  · rw [zI_uI, if_neg (fun z => h1 z.2), o4 _ _ (fun _ d hd z => hac _ (by omega) z.symm)]
    exact s7 j h1
  · rw [zI_uI, if_neg (fun z => h1 z.1), o4 _ _ (fun _ d hd z => h2 _ (by omega) z)]
    exact s8 b j h1 h2
theorem SO_H {σ : AH} {a m : Nat} {P : Nat → Nat → Int32} {pv wt : Nat → Int32} {c : Int32} {L : Nat} (hT : TS σ a m) (hD : CD σ a m) (h72 : 72 < a) (h6 : zI σ a 6 = 0) (h5 : ∀ k, k < m → zI σ (cA σ a k) 5 = 0) : ∀ p, p ≤ m → SO σ a m P pv wt c L p (soH σ a P pv wt c L p)
  | 0, _ => SO_0 h6 h5
  | p + 1, hp => by
    have ih := SO_H (P := P) (pv := pv) (wt := wt) (c := c) (L := L) hT hD h72 h6 h5 p (by omega)
    by_cases h : p + 1 = L ∨ cutB c (p + 1)
    · rw [soH_y h]; exact SO_y hT hD h72 hp h ih
    · rw [soH_n h]; exact SO_n h ih
