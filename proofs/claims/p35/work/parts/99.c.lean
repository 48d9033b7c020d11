/-! ===== the heap at the loop's start ===== -/
/-- ints as told, no long but 0; nothing where no cell is yet -/
def IJ (σ : AH) (F : Nat → Nat → Int32) : Prop := (∀ b j, zI σ b j = F b j) ∧ (∀ b j, zJ σ b j = 0) ∧ ∀ b j, zN σ < b → F b j = 0
section IJ
variable {σ : AH} {F : Nat → Nat → Int32} {a k : Nat}
theorem IJ_nw {κ n : Nat} (h : IJ σ F) : IJ (nw σ κ n) F := ⟨fun b j => by
  rw [zI_nw]
  by_cases e : b = zN σ + 1
  · rw [if_pos e, h.2.2 b j (by omega)]
  · rw [if_neg e]; exact h.1 b j, fun b j => by
  rw [zJ_nw]
  by_cases e : b = zN σ + 1
  · rw [if_pos e]
  · rw [if_neg e]; exact h.2.1 b j, fun b j hb => h.2.2 b j (by rw [zN_nw] at hb; omega)⟩
theorem IJ_uR {x : Nat} (h : IJ σ F) : IJ (uR σ a k x) F := h
theorem IJ_uI {x : Int32} (h : IJ σ F) (ha : a ≤ zN σ) : IJ (uI σ a k x) (fun b j => if b = a ∧ j = k then x else F b j) := ⟨fun b j => by
  rw [zI_uI, h.1], fun b j => by rw [zJ_uI]; exact h.2.1 b j, fun b j hb => by
  rw [zN_uI] at hb
  show (if b = a ∧ j = k then x else F b j) = 0
  rw [if_neg (by omega)]; exact h.2.2 b j hb⟩
theorem IJ_cg {G : Nat → Nat → Int32} (h : IJ σ F) (e : ∀ b j, F b j = G b j) : IJ σ G := ⟨fun b j => by rw [h.1, e], h.2.1, fun b j hb => by rw [← e]; exact h.2.2 b j hb⟩
theorem IJ_pairsH (h : IJ σ F) : IJ (pairsH σ a) F := by rw [pairsH]; exact IJ_uR (IJ_nw h)
theorem IJ_trfH (h : IJ σ F) (ha : a ≤ zN σ) : IJ (trfH σ a) (fun b j => if b = a ∧ j = 5 then 1 else F b j) := by
  rw [trfH]
  refine IJ_uI (IJ_uR (IJ_nw (IJ_uR (IJ_nw (IJ_uR (IJ_nw (IJ_uR (IJ_pairsH (IJ_nw h))))))))) ?_
  rw [zN_uR, zN_nw, zN_uR, zN_nw, zN_uR, zN_nw, zN_uR, pairsH_N, zN_nw]; omega
theorem sI_J {G : Nat → Nat → Int32} {b j : Nat} : zJ (sI σ G) b j = zJ σ b j := rfl
theorem IJ_prB (h : IJ σ F) : IJ (prB σ a) F := by rw [prB]; exact IJ_uR (IJ_nw (IJ_uR (IJ_pairsH (IJ_nw h))))
theorem IJ_prF {c : Nat} (h : IJ σ F) (hc : zN σ + 3 = c) : IJ (prF σ a 500) (fun b j => if b = c ∧ j < 500 then -1 else F b j) := by
  have hB := IJ_prB (a := a) h
  have hN : zN (prB σ a) = zN σ + 3 := by rw [← (prF_4 (σ := σ) (a := a) (d := 0)).1]; exact prF_N
  rw [prF]
  refine ⟨fun b j => by rw [zI_sI, hc, hB.1], fun b j => by rw [sI_J]; exact hB.2.1 b j, fun b j hb => ?_⟩
  rw [sI_4.1, hN] at hb
  show (if b = c ∧ j < 500 then -1 else F b j) = 0
  rw [if_neg (by omega)]
  exact hB.2.2 b j (by omega)
theorem IJ_lgH (h : IJ σ F) : ∀ d, IJ (lgH σ a d) F
  | 0 => by rw [lgH]; exact IJ_uR (IJ_nw h)
  | d + 1 => by rw [lgH]; exact IJ_uR (IJ_nw (IJ_lgH h d))
theorem IJ_waysH (h : IJ σ F) (ha : a ≤ zN σ) : IJ (waysH σ a) (fun b j => if b = a ∧ j = 4 then -1 else if b = a ∧ j = 3 then -1 else F b j) := by
  rw [waysH]
  refine IJ_uI (IJ_uI (IJ_uR (IJ_nw (IJ_uR (IJ_nw (IJ_uR (IJ_nw h)))))) ?_) ?_
  · rw [zN_uR, zN_nw, zN_uR, zN_nw, zN_uR, zN_nw]; omega
  · rw [zN_uI, zN_uR, zN_nw, zN_uR, zN_nw, zN_uR, zN_nw]; omega
theorem IJ_clrH (h : IJ σ F) : IJ (clrH σ a) F := by rw [clrH]; exact IJ_uR (IJ_nw (IJ_uR (IJ_nw h)))
theorem IJ_hsH (h : IJ σ F) : IJ (hsH σ a) (fun b j => if b = zN σ + 21 ∧ j = 4 then -1 else if b = zN σ + 21 ∧ j = 3 then -1 else if b = zN σ + 10 ∧ j < 500 then -1 else if b = zN σ + 1 ∧ j = 5 then 1 else F b j) := by
  rw [hsH]
  refine IJ_uR (IJ_nw (IJ_uR (IJ_nw (IJ_uR (IJ_nw (IJ_uR (IJ_clrH (IJ_nw (IJ_uR (IJ_waysH (IJ_nw (IJ_uR (IJ_lgH (IJ_nw (IJ_uR (IJ_prF (IJ_nw (IJ_uR (IJ_trfH (IJ_nw h) ?_))) ?_))) 8))) ?_))))))))))
  · rw [zN_nw]; exact Nat.le_refl _
  · rw [zN_nw, zN_uR, trfH_N, zN_nw]
  · rw [zN_nw, zN_uR, lgH_N, zN_nw, zN_uR, prF_N, zN_nw, zN_uR, trfH_N, zN_nw]; exact Nat.le_refl _
theorem IJ_gh (h : IJ σ F) {N : Nat} {K : Nat → Nat} (hN : zN σ ≤ N) (ha : a ≤ N) {x : Int32} : IJ (N, K, zL σ, fun b j => if b = a ∧ j = k then x else zI σ b j, zJ σ, zR σ) (fun b j => if b = a ∧ j = k then x else F b j) := ⟨fun b j => by
  show (if b = a ∧ j = k then x else zI σ b j) = _
  rw [h.1], h.2.1, fun b j hb => by
  have hb : N < b := hb
  show (if b = a ∧ j = k then x else F b j) = 0
  rw [if_neg (by omega)]; exact h.2.2 b j (by omega)⟩
end IJ
def hp0 : AH := (1, fun _ => 19, fun _ => 0, fun _ _ => 0, fun _ _ => 0, fun _ _ => 0)
def hpA : AH := nw hp0 11 11
def hpB : AH := hsH hpA 2
/-- the ghost rows are put in: 33..72 are holes -/
def ghH (σ : AH) : AH := (72, zK σ, zL σ, fun b j => if b = 33 ∧ j = 14 then 1 else zI σ b j, zJ σ, zR σ)
def hpG : AH := ghH hpB
def hpH : AH := nw hpG 23 7
def hpE : AH := nw hpH 23 2
theorem hpA_N : zN hpA = 2 := by decide +kernel
theorem hpB_N : zN hpB = 32 := by decide +kernel
theorem hpG_N : zN hpG = 72 := rfl
theorem hpH_N : zN hpH = 73 := rfl
theorem hpE_N : zN hpE = 74 := rfl
theorem hp_K : zK hpA 2 = 11 ∧ zK hp0 1 = 19 ∧ zK hpB 1 = 19 ∧ zK hpG 1 = 19 ∧ zK hpH 1 = 19 := by decide +kernel
theorem hpB_h : ∀ a, 33 ≤ a → a ≤ 72 → zK hpB a = 19 := by
  have k : ∀ a, a < 73 → 33 ≤ a → zK hpB a = 19 := by decide +kernel
  exact fun a h1 h2 => k a (by omega) h1
def fE (b j : Nat) : Int32 := if b = 33 ∧ j = 14 then 1 else if b = 23 ∧ j = 4 then -1 else if b = 23 ∧ j = 3 then -1 else if b = 12 ∧ j < 500 then -1 else if b = 3 ∧ j = 5 then 1 else 0
theorem IJ_E : IJ hpE fE := by
  have h0 : IJ hp0 (fun _ _ => 0) := ⟨fun _ _ => rfl, fun _ _ => rfl, fun _ _ _ => rfl⟩
  have hA : IJ hpA (fun _ _ => 0) := by rw [hpA]; exact IJ_nw h0
  have hB := IJ_hsH (a := 2) hA
  rw [← hpB, hpA_N] at hB
  have hG : IJ (ghH hpB) _ := IJ_gh (a := 33) (k := 14) (N := 72) (K := zK hpB) (x := 1) hB (by rw [hpB_N]; decide) (by decide)
  rw [← hpG] at hG
  have hE : IJ hpE _ := IJ_nw (κ := 23) (n := 2) (IJ_nw (κ := 23) (n := 7) hG)
  exact IJ_cg hE (fun b j => rfl)
theorem Sh_E : Sh hpE := by
  have h : ∀ a, a < 73 → 2 ≤ a → (zK hpE a = shKl.getD a 0 ∧ zL hpE a = shLl.getD a 0) := by decide +kernel
  have h2 : ∀ q ∈ shRl, zR hpE q.1 q.2.1 = q.2.2 := by decide +kernel
  exact ⟨by rw [hpE_N]; decide, fun a h1 h3 => h a (by omega) h1, h2, by decide +kernel⟩
theorem zE0 {b : Nat} (h : b ≠ 33 ∧ b ≠ 23 ∧ b ≠ 12 ∧ b ≠ 3) (j : Nat) : zI hpE b j = 0 := by
  rw [IJ_E.1, fE, if_neg (by omega), if_neg (by omega), if_neg (by omega), if_neg (by omega), if_neg (by omega)]
theorem zE33 {j : Nat} (h : j ≠ 14) : zI hpE 33 j = 0 := by
  rw [IJ_E.1, fE, if_neg (by omega), if_neg (by omega), if_neg (by omega), if_neg (by omega), if_neg (by omega)]
theorem zE33a : zI hpE 33 14 = 1 := by rw [IJ_E.1, fE, if_pos ⟨rfl, rfl⟩]
theorem zE3 {j : Nat} (h : j ≠ 5) : zI hpE 3 j = 0 := by
  rw [IJ_E.1, fE, if_neg (by omega), if_neg (by omega), if_neg (by omega), if_neg (by omega), if_neg (by omega)]
theorem zE3a : zI hpE 3 5 = 1 := by rw [IJ_E.1, fE, if_neg (by omega), if_neg (by omega), if_neg (by omega), if_neg (by omega), if_pos ⟨rfl, rfl⟩]
theorem zE12 {j : Nat} (h : j < 500) : zI hpE 12 j = -1 := by
  rw [IJ_E.1, fE, if_neg (by omega), if_neg (by omega), if_neg (by omega), if_pos ⟨rfl, h⟩]
theorem bt_0 {h : Int} (hh : 0 ≤ h) : bt 0 0 h := ⟨by rw [zero_toInt]; exact Int.le_refl _, by rw [zero_toInt]; exact hh⟩
theorem Rel_E : Rel 0 hpE := by
  have hJ : ∀ a k, zJ hpE a k = 0 := IJ_E.2.1
  have v10 : vp_in (0 : Int32) 10 := vp_in_nI (n := 0) (by decide) (by decide)
  have v5 : vp_in (0 : Int32) 5 := vp_in_nI (n := 0) (by decide) (by decide)
  refine ⟨by decide, Sh_E, ?_, ?_, ?_, ?_, ?_, ?_⟩
  · refine ⟨0, by decide, zE33 (by decide), zE3 (by decide), by rw [zE3a, zE33a], by rw [zE33a]; exact ⟨by decide, by decide⟩, by rw [zE3 (by decide), zE33 (by decide)], by rw [zE33 (by decide)]; exact bt_0 (by decide), fun k _ => ?_, fun k _ => ?_, fun k hk => absurd hk (Nat.not_lt_zero k), fun k _ => zE0 (by decide) k, fun j _ hj => absurd hj (Nat.not_lt_zero j)⟩
    · rw [zE0 (b := 5) (by decide), zE0 (b := 34) (by decide)]; exact ⟨rfl, bt_0 (by decide)⟩
    · rw [zE0 (b := 7) (by decide), zE0 (b := 8) (by decide), zE0 (b := 37) (by decide), zE0 (b := 38) (by decide)]; exact ⟨rfl, rfl, bt_0 (by decide), bt_0 (by decide)⟩
  · refine ⟨0, by decide, zE33 (by decide), zE0 (by decide) 1, fun k hk => ?_, fun k hk => absurd hk (Nat.not_lt_zero k), fun k hk => absurd hk (Nat.not_lt_zero _)⟩
    rw [zE0 (b := 15 + k) (by omega), zE0 (b := 15 + k) (by omega), zE0 (b := 15 + k) (by omega), zE0 (b := 15 + k) (by omega), zE0 (b := 46) (by decide), zE0 (b := 47) (by decide), zE0 (b := 48) (by decide), zE0 (b := 49) (by decide)]
    exact ⟨rfl, rfl, rfl, rfl, v10, v10, v5⟩
  · refine ⟨fun k _ => ?_, fun k hk => ?_⟩
    · rw [zE0 (b := 11) (by decide), zE0 (b := 35) (by decide)]; exact ⟨rfl, bt_0 (by decide)⟩
    · rw [zE12 hk, zE0 (b := 36) (by decide)]; exact ⟨by decide, bt_0 (by decide)⟩
  · exact ⟨0, by decide, zE33 (by decide), zE0 (by decide) 8, fun t ht => absurd ht (Nat.not_lt_zero t), fun t _ ht => absurd ht (Nat.not_lt_zero t), fun t _ _ _ ht => absurd ht (Nat.not_lt_zero t), fun c _ => zE0 (by decide) c⟩
  · refine ⟨0, ⟨by decide, zE0 (by decide) 2, fun b hb => absurd hb (Nat.not_lt_zero b), fun b _ hb => absurd hb (Nat.not_lt_zero b)⟩, zE33 (by decide), fun b hb => absurd hb (Nat.not_lt_zero b), fun b _ => ⟨zE0 (by decide) b, zE0 (by decide) b⟩, ⟨0, Nat.le_refl _, zE0 (by decide) 3, zE33 (by decide)⟩, ?_, fun c _ => Or.inl (zE0 (by decide) c), Nat.zero_le _⟩
    rw [dfS_5, zE0 (b := 68) (by decide), zE0 (b := 68) (by decide), zE0 (b := 68) (by decide), zE0 (b := 68) (by decide), zE0 (b := 68) (by decide), zE0 (b := 27) (by decide)]
    decide
  · refine ⟨fun c _ => by rw [hJ, hJ], fun c _ => by rw [hJ, hJ], by rw [hJ, hJ], by rw [zE0 (b := 2) (by decide), zE33 (by decide)], by rw [zE33 (by decide)]; exact bt_0 (by decide), fun c _ => ?_⟩
    rw [hJ, zE33 (by decide), zE33 (by decide)]
    rfl
theorem Co_E : Co 0 hpE := by
  have hR : Rel 200 hpE := Rel_i (q := 0) Rel_E (zE33 (by decide)) (Nat.zero_le _) (by decide)
  have hJ : ∀ a k, zJ hpE a k = 0 := IJ_E.2.1
  have z : ix (0 : Int32) = 0 := rfl
  refine ⟨by decide, hR, ⟨Nat.le_refl _, by decide +kernel, by decide +kernel, by decide +kernel, by decide +kernel⟩, ⟨fun k hk => ?_, ?_, fun k hk => ?_⟩, fun t ht => ?_, fun b hb => ?_, ⟨?_, fun p _ => ?_⟩, ⟨0, Nat.le_refl _, zE33 (by decide)⟩, ⟨0, Nat.le_refl _, zE33 (by decide)⟩, ?_⟩
  · rw [zE33 (by decide), z] at hk; exact absurd hk (Nat.not_lt_zero k)
  · rw [zE33a]; exact ⟨by decide, by decide⟩
  · rw [zE0 (b := 37) (by decide), zE0 (b := 38) (by decide)]; exact ⟨bt_0 (by decide), bt_0 (by decide)⟩
  · rw [zE33 (by decide), z] at ht; exact absurd ht (Nat.not_lt_zero t)
  · rw [zE33 (by decide), z] at hb; exact absurd hb (Nat.not_lt_zero b)
  · rw [hJ, show zJ hpE 70 = fun _ => 0 from funext fun k => hJ 70 k, show zJ hpE 71 = fun _ => 0 from funext fun k => hJ 71 k]; decide +kernel
  · rw [hJ]; decide
  · rw [zE33 (by decide)]; exact bt_0 (by decide)
theorem GE_E : GE 0 hpE := by
  unfold GE
  refine ⟨?_, ?_, ?_, ?_, ?_, ?_, ⟨0, Nat.le_refl _, zE0 (by decide) 6⟩, ?_, fun L hL e => ?_⟩
  · rw [zE0 (b := 73) (by decide), zE33 (by decide)]
  · rw [zE0 (b := 73) (by decide), zE33 (by decide)]
  · rw [zE0 (b := 73) (by decide), zE33 (by decide)]
  · rw [zE0 (b := 73) (by decide), zE33 (by decide)]
  · rw [zE0 (b := 73) (by decide), zE33 (by decide)]
  · rw [zE0 (b := 73) (by decide), zE33 (by decide)]
  · rw [zE0 (b := 74) (by decide)]; exact vp_in_nI (n := 0) (by decide) (by decide)
  · rw [zE33 (by decide)] at e
    have := q_of (a := 0) (b := L + 1) (by decide) (by omega) e
    omega
/-! a heap told otherwise -/
section RE
variable {g : GP} {μ : MI} {E : ET} {CX : State → Array Value → Prop} {k n pc : Nat} {ls : List (Nat × Value)} {st : List Value}
theorem V_re {σ τ : AH} (hg : gG g = none) (hn : zN σ ≤ zN τ) (h1 : zK τ 1 = 19) (hR : zR τ = zR σ) (hw : ∀ dA ρ, wl dA ρ τ = wl dA ρ σ) (kk : V g μ E CX k n pc ls st τ) : V g μ E CX k n pc ls st σ := by
  intro p e s m args below meth c C H locs cells slots ρ ρ0 n0 lr P
  obtain ⟨⟨c1, c2, c3, c4, c5, c6, c7, c8, c9⟩, p2, p3, p4, p5, p6, p7, p8, p9, p10⟩ := P
  exact kk p e s m args below meth c C H locs cells slots ρ ρ0 n0 lr ⟨⟨by rw [hw]; exact c1, by rw [hw]; exact c2, c3, c4, fun a k => by rw [hR]; exact Nat.le_trans (c5 a k) hn, Nat.le_trans c6 hn, h1, c8, fun G hG => by rw [hg] at hG; cases hG⟩, p2, p3, p4, p5, p6, Nat.le_trans p7 hn, p8, fun q hq => wv_mono hn (p9 q hq), fun v hv => wv_mono hn (p10 v hv)⟩
theorem wl_lb {dA : Nat → ClassId} {ρ : Nat → Nat} {σ : AH} {len : Nat} : wl dA ρ (nw σ 23 len) = wl dA ρ (nw σ 20 len) := by
  have hp : wlp (nw σ 23 len) = wlp (nw σ 20 len) := funext fun j => by
    unfold wlp
    rw [zK_nw, zK_nw]
    by_cases e : j + 1 = zN σ + 1
    · rw [if_pos e, if_pos e]; rfl
    · rw [if_neg e, if_neg e]
  unfold wl
  rw [hp, zN_nw, zN_nw]
  refine List.map_congr_left fun j _ => ?_
  refine congrArg _ ?_
  by_cases e : j + 1 = zN σ + 1
  · rw [e, ent_ga zK_new, ent_ia zK_new]; rfl
  · have hK : zK (nw σ 23 len) (j + 1) = zK (nw σ 20 len) (j + 1) := by rw [zK_nw, zK_nw, if_neg e, if_neg e]
    exact ent_gs hK (by rw [zL_nw, zL_nw]) (by funext i; rw [zR_nw, zR_nw]) (by funext i; rw [zI_nw, zI_nw]) (by funext i; rw [zJ_nw, zJ_nw])
theorem V_lb {σ : AH} {len : Nat} (hg : gG g = none) (h1 : zK (nw σ 23 len) 1 = 19) (kk : V g μ E CX k n pc ls st (nw σ 23 len)) : V g μ E CX k n pc ls st (nw σ 20 len) :=
  V_re (τ := nw σ 23 len) hg (Nat.le_refl _) h1 rfl (fun _ _ => wl_lb) kk
theorem V_gh {σ : AH} (hg : gG g = none) (hN : zN σ = 32) (h1 : zK σ 1 = 19) (hh : ∀ a, 33 ≤ a → a ≤ 72 → zK σ a = 19) (kk : V g μ E CX k n pc ls st (ghH σ)) : V g μ E CX k n pc ls st σ :=
  V_re (τ := ghH σ) hg (by rw [hN]; exact (by decide : 32 ≤ 72)) h1 rfl (fun dA ρ => wl_gh (by rw [hN]; exact (by decide : 32 ≤ 72)) (fun a h1 h2 => ⟨rfl, fun _ => by
    rw [hN] at h2
    refine ent_gs rfl rfl rfl (funext fun j => ?_) rfl
    show (if a = 33 ∧ j = 14 then 1 else zI σ a j) = zI σ a j
    rw [if_neg (by omega)]⟩) (fun a h1 h2 => by
    rw [hN] at h1
    exact hh a (by omega) h2)) kk
end RE
