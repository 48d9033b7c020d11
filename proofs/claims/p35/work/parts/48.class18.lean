/-! ===== the class: a ticket is issued ===== -/
/-- a coupon more, made for a leg -/
def mcH (τ : AH) (a l : Nat) (x : Int32) : AH := acH (cnH (nw τ 2 9) (zN τ + 1) l x) a (zN τ + 1)
theorem mc_N {τ : AH} {a l : Nat} {x : Int32} : zN (mcH τ a l x) = zN τ + 1 := rfl
theorem mc_K {τ : AH} {a l : Nat} {x : Int32} (b : Nat) : zK (mcH τ a l x) b = if b = zN τ + 1 then 2 else zK τ b := rfl
theorem mc_L {τ : AH} {a l : Nat} {x : Int32} (b : Nat) : zL (mcH τ a l x) b = if b = zN τ + 1 then 9 else zL τ b := rfl
theorem mc_J {τ : AH} {a l : Nat} {x : Int32} (b j : Nat) : zJ (mcH τ a l x) b j = if b = zN τ + 1 then 0 else zJ τ b j := rfl
theorem mc_e {τ : AH} {a l : Nat} {x : Int32} (ha : a ≤ zN τ) (b j : Nat) : zI (cnH (nw τ 2 9) (zN τ + 1) l x) a j = zI τ a j ∧ zR (cnH (nw τ 2 9) (zN τ + 1) l x) a j = zR τ a j := by
  have h : ¬ a = zN τ + 1 := by omega
  refine ⟨?_, ?_⟩
  · rw [cnH]
    simp only [zI_uI, zI_nw, h, false_and, if_false]
  · show zR (nw τ 2 9) a j = _
    rw [zR_nw, if_neg h]
theorem ac_Ia {σ : AH} {a c j : Nat} : zI (acH σ a c) a j = if j = 5 then zI σ a 5 + zI σ c 3 else if j = 4 then zI σ a 4 + 1 else zI σ a j := by
  rw [acH, zI_uI, zI_uI, zI_uR]
  simp only [true_and]
theorem ac_Io {σ : AH} {a c b j : Nat} (h : ¬ b = a) : zI (acH σ a c) b j = zI σ b j := by
  rw [acH, zI_uI, if_neg (fun q => h q.1), zI_uI, if_neg (fun q => h q.1), zI_uR]
theorem ac_R {σ : AH} {a c b j : Nat} : zR (acH σ a c) b j = if b = zR σ a 3 ∧ j = ix (zI σ a 4) then c else zR σ b j := rfl
theorem cn_R {σ : AH} {c l : Nat} {x : Int32} {b j : Nat} : zR (cnH σ c l x) b j = zR σ b j := rfl
theorem mc_R {τ : AH} {a l : Nat} {x : Int32} (ha : a ≤ zN τ) (b j : Nat) : zR (mcH τ a l x) b j = if b = zR τ a 3 ∧ j = ix (zI τ a 4) then zN τ + 1 else if b = zN τ + 1 then 0 else zR τ b j := by
  rw [mcH, ac_R, (mc_e (l := l) (x := x) ha b 3).2, (mc_e (l := l) (x := x) ha b 4).1, cn_R, zR_nw]
theorem mc_x {τ : AH} {l : Nat} {x : Int32} : zI (cnH (nw τ 2 9) (zN τ + 1) l x) (zN τ + 1) 3 = x := by
  rw [cnH, zI_uI, if_pos ⟨rfl, rfl⟩]
theorem mc_Ia {τ : AH} {a l : Nat} {x : Int32} (ha : a ≤ zN τ) (j : Nat) : zI (mcH τ a l x) a j = if j = 5 then zI τ a 5 + x else if j = 4 then zI τ a 4 + 1 else zI τ a j := by
  rw [mcH, ac_Ia, mc_x, (mc_e (l := l) (x := x) ha 0 5).1, (mc_e (l := l) (x := x) ha 0 4).1, (mc_e (l := l) (x := x) ha 0 j).1]
theorem mc_Io {τ : AH} {a l : Nat} {x : Int32} {b : Nat} (hb : b ≤ zN τ) (hne : ¬ b = a) (j : Nat) : zI (mcH τ a l x) b j = zI τ b j := by
  rw [mcH, ac_Io hne, (mc_e (l := l) (x := x) hb 0 j).1]
def cnV (τ : AH) (l : Nat) (x : Int32) (j : Nat) : Int32 := if j = 3 then x else if j = 4 then zI τ l 2 else if j = 2 then zI τ l 3 else if j = 1 then zI τ l 1 else if j = 0 then zI τ l 0 else if j = 8 then -1 else 0
theorem mc_Ic {τ : AH} {a l : Nat} {x : Int32} (ha : a ≤ zN τ) (hl : l ≤ zN τ) (j : Nat) : zI (mcH τ a l x) (zN τ + 1) j = cnV τ l x j := by
  have h1 : ¬ zN τ + 1 = a := by omega
  have h2 : ¬ l = zN τ + 1 := by omega
  rw [mcH, ac_Io h1, cnH, cnV]
  simp only [zI_uI, zI_nw, h2, true_and, if_true, if_false]
  by_cases h7 : j = 7
  · subst h7; simp
  · simp only [h7, if_false]
/-- the heap while a ticket is made: behind its making, behind d coupons -/
def is0 (σ : AH) (y : Int32) : AH := uI (uI (uI (uR (nw (nw σ 9 8) 32 8) (zN σ + 1) 3 (zN (nw σ 9 8) + 1)) (zN σ + 1) 0 y) (zN σ + 1) 1 (zI (nw σ 9 8) 23 3)) (zN σ + 1) 2 (zI (nw σ 9 8) 23 4)
def isS (σ : AH) (y : Int32) : Nat → AH
  | 0 => is0 σ y
  | d + 1 => mcH (isS σ y d) (zN σ + 1) (15 + d) (txF σ d)
/-- what holds of it -/
def IS (σ : AH) (y : Int32) (d : Nat) (τ : AH) : Prop :=
  zN τ = zN σ + 2 + d ∧
  (∀ b, b ≤ zN σ → zK τ b = zK σ b ∧ zL τ b = zL σ b ∧ ∀ j, zI τ b j = zI σ b j ∧ zJ τ b j = zJ σ b j ∧ zR τ b j = zR σ b j) ∧
  (zK τ (zN σ + 1) = 9 ∧ zI τ (zN σ + 1) 0 = y ∧ zI τ (zN σ + 1) 1 = zI σ 23 3 ∧ zI τ (zN σ + 1) 2 = zI σ 23 4 ∧ zI τ (zN σ + 1) 4 = nI d ∧ zI τ (zN σ + 1) 5 = smI (txF σ) d ∧ zI τ (zN σ + 1) 6 = 0 ∧ zJ τ (zN σ + 1) 7 = 0 ∧ zR τ (zN σ + 1) 3 = zN σ + 2) ∧
  (zK τ (zN σ + 2) = 32 ∧ zL τ (zN σ + 2) = 8) ∧
  (∀ k, k < d → zR τ (zN σ + 2) k = zN σ + 3 + k ∧ zK τ (zN σ + 3 + k) = 2 ∧ ∀ j, zI τ (zN σ + 3 + k) j = cnV σ (15 + k) (txF σ k) j)
theorem is0_K {σ : AH} {y : Int32} (b : Nat) : zK (is0 σ y) b = if b = zN σ + 2 then 32 else if b = zN σ + 1 then 9 else zK σ b := rfl
theorem is0_L {σ : AH} {y : Int32} (b : Nat) : zL (is0 σ y) b = if b = zN σ + 2 then 8 else if b = zN σ + 1 then 8 else zL σ b := rfl
theorem is0_J {σ : AH} {y : Int32} (b j : Nat) : zJ (is0 σ y) b j = if b = zN σ + 2 then 0 else if b = zN σ + 1 then 0 else zJ σ b j := rfl
theorem is0_R {σ : AH} {y : Int32} (b j : Nat) : zR (is0 σ y) b j = if b = zN σ + 1 ∧ j = 3 then zN σ + 2 else if b = zN σ + 2 then 0 else if b = zN σ + 1 then 0 else zR σ b j := rfl
theorem is0_I {σ : AH} {y : Int32} (h : 72 ≤ zN σ) (b j : Nat) : zI (is0 σ y) b j = if b = zN σ + 1 ∧ j = 2 then zI σ 23 4 else if b = zN σ + 1 ∧ j = 1 then zI σ 23 3 else if b = zN σ + 1 ∧ j = 0 then y else if b = zN σ + 2 then 0 else if b = zN σ + 1 then 0 else zI σ b j := by
  have e : ∀ j, zI (nw σ 9 8) 23 j = zI σ 23 j := fun j => by rw [zI_nw, if_neg (by omega)]
  rw [is0, e, e, zI_uI, zI_uI, zI_uI, zI_uR, zI_nw, zI_nw, zN_nw]
theorem IS_0 {σ : AH} {y : Int32} (h72 : 72 ≤ zN σ) : IS σ y 0 (is0 σ y) := by
  refine ⟨rfl, fun b hb => ⟨?_, ?_, fun j => ⟨?_, ?_, ?_⟩⟩, ⟨?_, ?_, ?_, ?_, ?_, ?_, ?_, ?_, ?_⟩, ⟨?_, ?_⟩, fun k hk => absurd hk (Nat.not_lt_zero _)⟩
  · rw [is0_K, if_neg (by omega), if_neg (by omega)]
  · rw [is0_L, if_neg (by omega), if_neg (by omega)]
  · rw [is0_I h72, if_neg (by omega), if_neg (by omega), if_neg (by omega), if_neg (by omega), if_neg (by omega)]
  · rw [is0_J, if_neg (by omega), if_neg (by omega)]
  · rw [is0_R, if_neg (by omega), if_neg (by omega), if_neg (by omega)]
  · rw [is0_K, if_neg (by omega), if_pos rfl]
  · rw [is0_I h72, if_neg (by omega), if_neg (by omega), if_pos ⟨rfl, rfl⟩]
  · rw [is0_I h72, if_neg (by omega), if_pos ⟨rfl, rfl⟩]
  · rw [is0_I h72, if_pos ⟨rfl, rfl⟩]
  · rw [is0_I h72, if_neg (by omega), if_neg (by omega), if_neg (by omega), if_neg (by omega), if_pos rfl]; rfl
  · rw [is0_I h72, if_neg (by omega), if_neg (by omega), if_neg (by omega), if_neg (by omega), if_pos rfl]; rfl
  · rw [is0_I h72, if_neg (by omega), if_neg (by omega), if_neg (by omega), if_neg (by omega), if_pos rfl]
  · rw [is0_J, if_neg (by omega), if_pos rfl]
  · rw [is0_R, if_pos ⟨rfl, rfl⟩]
  · rw [is0_K, if_pos rfl]
  · rw [is0_L, if_pos rfl]
theorem IS_s {σ τ : AH} {y : Int32} {d : Nat} (h72 : 72 ≤ zN σ) (hd : d < 8) (h : IS σ y d τ) : IS σ y (d + 1) (mcH τ (zN σ + 1) (15 + d) (txF σ d)) := by
  obtain ⟨h1, h2, ⟨a1, a2, a3, a4, a5, a6, a7, a8, a9⟩, ⟨b1, b2⟩, h5⟩ := h
  have ha : zN σ + 1 ≤ zN τ := by omega
  have hl : 15 + d ≤ zN τ := by omega
  have i4 : ix (zI τ (zN σ + 1) 4) = d := by rw [a5]; exact cl0 (by omega)
  refine ⟨by rw [mc_N]; omega, fun b hb => ⟨?_, ?_, fun j => ⟨?_, ?_, ?_⟩⟩, ⟨?_, ?_, ?_, ?_, ?_, ?_, ?_, ?_, ?_⟩, ⟨?_, ?_⟩, fun k hk => ?_⟩
  · rw [mc_K, if_neg (by omega)]; exact (h2 b hb).1
  · rw [mc_L, if_neg (by omega)]; exact (h2 b hb).2.1
  · rw [mc_Io (by omega) (by omega)]; exact ((h2 b hb).2.2 j).1
  · rw [mc_J, if_neg (by omega)]; exact ((h2 b hb).2.2 j).2.1
  · rw [mc_R ha, a9, if_neg (by omega), if_neg (by omega)]; exact ((h2 b hb).2.2 j).2.2
  · rw [mc_K, if_neg (by omega)]; exact a1
  · rw [mc_Ia ha, if_neg (by decide), if_neg (by decide)]; exact a2
  · rw [mc_Ia ha, if_neg (by decide), if_neg (by decide)]; exact a3
  · rw [mc_Ia ha, if_neg (by decide), if_neg (by decide)]; exact a4
  · rw [mc_Ia ha, if_neg (by decide), if_pos rfl, a5, nI_1]
  · rw [mc_Ia ha, if_pos rfl, a6, smI]
  · rw [mc_Ia ha, if_neg (by decide), if_neg (by decide)]; exact a7
  · rw [mc_J, if_neg (by omega)]; exact a8
  · rw [mc_R ha, a9, if_neg (by omega), if_neg (by omega)]
  · rw [mc_K, if_neg (by omega)]; exact b1
  · rw [mc_L, if_neg (by omega)]; exact b2
  · by_cases e : k = d
    · subst e
      have ec : zN τ + 1 = zN σ + 3 + k := by omega
      refine ⟨?_, ?_, fun j => ?_⟩
      · rw [mc_R ha, a9, i4, if_pos ⟨rfl, rfl⟩, ec]
      · rw [mc_K, if_pos ec.symm]
      · rw [← ec, mc_Ic ha hl, cnV, cnV]
        have e2 := fun j => ((h2 (15 + k) (by omega)).2.2 j).1
        rw [e2, e2, e2, e2]
    · obtain ⟨c1, c2, c3⟩ := h5 k (by omega)
      refine ⟨?_, ?_, fun j => ?_⟩
      · rw [mc_R ha, a9, i4, if_neg (fun q => e q.2), if_neg (by omega)]; exact c1
      · rw [mc_K, if_neg (by omega)]; exact c2
      · rw [mc_Io (by omega) (by omega)]; exact c3 j
theorem IS_S {σ : AH} {y : Int32} (h72 : 72 ≤ zN σ) : ∀ d, d ≤ 8 → IS σ y d (isS σ y d)
  | 0, _ => IS_0 h72
  | d + 1, h => IS_s h72 (by omega) (IS_S h72 d (by omega))
/-- a way's cuts and price as the class knows them -/
def isP (σ : AH) : Prop := RT σ ∧ RJ σ ∧ RP σ ∧ ¬ zI σ 33 16 = 0 ∧ vp_in (zI σ 2 8) 30
theorem IS_KG {σ τ : AH} {y : Int32} {d : Nat} (h : IS σ y d τ) : Gr τ σ := ⟨by have := h.1; omega, fun a ha => ⟨(h.2.1 a ha).1, (h.2.1 a ha).2.1⟩⟩
theorem IS_RT {σ τ : AH} {y : Int32} {d : Nat} (hS : Sh σ) (h : IS σ y d τ) (hT : RT σ) : RT τ := RT_ag (IS_KG h) (fun a k ha _ => ((h.2.1 a ha).2.2 k).1) (fun k => ((h.2.1 6 (by have := hS.1; omega)).2.2 k).2.2) hS.1 hT
theorem IS_I {σ τ : AH} {y : Int32} {d : Nat} (hS : Sh σ) (h : IS σ y d τ) {b : Nat} (hb : b ≤ 72) (j : Nat) : zI τ b j = zI σ b j := ((h.2.1 b (by have := hS.1; omega)).2.2 j).1
theorem IS_RJ {σ τ : AH} {y : Int32} {d : Nat} (hS : Sh σ) (h : IS σ y d τ) (hJ : RJ σ) : RJ τ :=
  RJ_ag (IS_I hS h (by decide) _) (IS_I hS h (by decide) _) (fun a k _ _ => IS_I hS h (by omega) _) (fun a k _ _ => IS_I hS h (by omega) _) (fun k q => by rw [IS_I hS h (by decide)]; exact q) hJ
theorem IS_EqP {σ τ : AH} {y : Int32} {d : Nat} (hS : Sh σ) (h : IS σ y d τ) : EqP τ σ := ⟨IS_I hS h (by decide) _, IS_I hS h (by decide) _, IS_I hS h (by decide) _, IS_I hS h (by decide) _, fun a k _ _ => IS_I hS h (by omega) _⟩
theorem IS_Sh {σ τ : AH} {y : Int32} {d : Nat} (hS : Sh σ) (h : IS σ y d τ) : Sh τ := by
  have h0 := hS.1
  refine ⟨by have := h.1; omega, fun a h1 h2 => ?_, fun q hq => ?_, ?_⟩
  · rw [(h.2.1 a (by omega)).1, (h.2.1 a (by omega)).2.1]; exact hS.2.1 a h1 h2
  · have h1 : (shRl.all fun q => Nat.ble q.1 72) = true := by decide
    have h2 := Nat.le_of_ble_eq_true (List.all_eq_true.mp h1 q hq)
    rw [((h.2.1 q.1 (by omega)).2.2 q.2.1).2.2]; exact hS.2.2.1 q hq
  · rw [(h.2.1 1 (by omega)).1]; exact hS.2.2.2
theorem IS_cA {σ τ : AH} {y : Int32} {d k : Nat} (h : IS σ y d τ) (hk : k < d) : cA τ (zN σ + 1) k = zN σ + 3 + k := by
  rw [cA, h.2.2.1.2.2.2.2.2.2.2.2]; exact (h.2.2.2.2 k hk).1
theorem IS_TS {σ τ : AH} {y : Int32} {d : Nat} (hd : d ≤ 8) (h : IS σ y d τ) : TS τ (zN σ + 1) d := by
  refine ⟨by omega, h.2.2.1.1, h.2.2.1.2.2.2.2.1, hd, ⟨?_, ?_, ?_⟩, fun k hk => ?_⟩
  · rw [h.2.2.1.2.2.2.2.2.2.2.2]; omega
  · rw [h.2.2.1.2.2.2.2.2.2.2.2]; exact h.2.2.2.1.1
  · rw [h.2.2.1.2.2.2.2.2.2.2.2]; exact h.2.2.2.1.2
  · rw [IS_cA h hk]; exact ⟨by omega, (h.2.2.2.2 k hk).2.1⟩
theorem IS_CD {σ τ : AH} {y : Int32} {d : Nat} (hS : Sh σ) (h : IS σ y d τ) : CD τ (zN σ + 1) d :=
  ⟨fun k hk => by rw [IS_cA h hk]; have := hS.1; omega, fun j k hj hk q => by rw [IS_cA h hj, IS_cA h hk] at q; omega⟩
