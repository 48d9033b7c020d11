/-! ===== the reference: ways ===== -/
theorem bit_t {set k : Nat} (hs : set < 2 ^ 30) (hk : k < 32) : ((nI set >>> (nI k &&& 31)) &&& 1 = 1) ↔ set.testBit k = true := by
  have h1 : nI set >>> (nI k &&& 31) = nI (set / 2 ^ k) := by
    have hm : ((nI k &&& 31).toBitVec.smod 32).toNat = k := by
      have : ∀ n, n < 32 → ((nI n &&& 31).toBitVec.smod 32).toNat = n := by decide +kernel
      exact this k hk
    exact pk_shrN (by omega) _ k hm
  rw [h1]
  have h2 : nI (set / 2 ^ k) &&& 1 = nI (set / 2 ^ k % 2) := by
    have := pk_andN (n := set / 2 ^ k) (by have := Nat.div_le_self set (2 ^ k); omega) (m := 1) 1 (by decide)
    simpa using this
  rw [h2]
  have h3 : set / 2 ^ k % 2 < 2 := Nat.mod_lt _ (by decide)
  rw [Nat.testBit_eq_decide_div_mod_eq]
  have h4 : nI (set / 2 ^ k % 2) = 1 ↔ set / 2 ^ k % 2 = 1 := by
    rw [show (1 : Int32) = nI 1 from rfl]
    exact nI_eq (by omega) (by decide)
  rw [h4]
  simp
/-- the sum of a set's parts, and where the part under way begins, behind the point k -/
def sumSt (P : Nat → Nat → Int32) (set L : Nat) : Nat → Int32 × Nat
  | 0 => (0, 0)
  | k + 1 =>
    if (sumSt P set L k).1 = -1 then sumSt P set L k
    else if k + 1 = L ∨ set.testBit (k + 1) = true then
      (if 0 ≤ P (sumSt P set L k).2 (k + 1) then (sumSt P set L k).1 + P (sumSt P set L k).2 (k + 1) else -1, k + 1)
    else sumSt P set L k
theorem sumSt_stuck {P : Nat → Nat → Int32} {set L k : Nat} (h : (sumSt P set L k).1 = -1) : ∀ d, (sumSt P set L (k + d)).1 = -1
  | 0 => h
  | d + 1 => by
    have ih := sumSt_stuck h d
    rw [show k + (d + 1) = (k + d) + 1 from rfl, sumSt, if_pos ih]
    exact ih
theorem sumSt_le {P : Nat → Nat → Int32} {set L : Nat} : ∀ k, (sumSt P set L k).2 ≤ k
  | 0 => Nat.le_refl _
  | k + 1 => by
    have ih := sumSt_le (P := P) (set := set) (L := L) k
    rw [sumSt]
    split
    · omega
    · split
      · exact Nat.le_refl _
      · omega
noncomputable def sumC (σ : AH) (x : Int32) : Int32 := (sumSt (partF σ) (Int32.toNatClampNeg x) (Int32.toNatClampNeg (zI σ 33 16)) (Int32.toNatClampNeg (zI σ 33 16))).1
/-! ===== what a part looks at ===== -/
def EqP (τ σ : AH) : Prop := zI τ 33 0 = zI σ 33 0 ∧ zI τ 33 6 = zI σ 33 6 ∧ zI τ 33 14 = zI σ 33 14 ∧ zI τ 33 16 = zI σ 33 16 ∧ ∀ a k, 34 ≤ a → a ≤ 49 → zI τ a k = zI σ a k
theorem EqP_refl (σ : AH) : EqP σ σ := ⟨rfl, rfl, rfl, rfl, fun _ _ _ _ => rfl⟩
theorem EqP_tr {ρ τ σ : AH} (h : EqP ρ τ) (h' : EqP τ σ) : EqP ρ σ := ⟨h.1.trans h'.1, h.2.1.trans h'.2.1, h.2.2.1.trans h'.2.2.1, h.2.2.2.1.trans h'.2.2.2.1, fun a k h1 h2 => (h.2.2.2.2 a k h1 h2).trans (h'.2.2.2.2 a k h1 h2)⟩
theorem EqP_33 {τ σ : AH} {k : Nat} {x : Int32} (h : EqP τ σ) (hk : k ≠ 0 ∧ k ≠ 6 ∧ k ≠ 14 ∧ k ≠ 16) : EqP (uI τ 33 k x) σ := by
  obtain ⟨h0, h6, h14, h16⟩ := hk
  obtain ⟨a1, a2, a3, a4, a5⟩ := h
  refine ⟨?_, ?_, ?_, ?_, fun a j h1 h2 => ?_⟩
  · rw [zI_uI, if_neg (by omega)]; exact a1
  · rw [zI_uI, if_neg (by omega)]; exact a2
  · rw [zI_uI, if_neg (by omega)]; exact a3
  · rw [zI_uI, if_neg (by omega)]; exact a4
  · rw [zI_uI, if_neg (by omega)]; exact a5 a j h1 h2
theorem EqP_uI {τ σ : AH} {a k : Nat} {x : Int32} (h : EqP τ σ) (ha : a < 33 ∨ 49 < a) : EqP (uI τ a k x) σ := by
  obtain ⟨a1, a2, a3, a4, a5⟩ := h
  refine ⟨?_, ?_, ?_, ?_, fun b j h1 h2 => ?_⟩
  · rw [zI_uI, if_neg (by omega)]; exact a1
  · rw [zI_uI, if_neg (by omega)]; exact a2
  · rw [zI_uI, if_neg (by omega)]; exact a3
  · rw [zI_uI, if_neg (by omega)]; exact a4
  · rw [zI_uI, if_neg (by omega)]; exact a5 b j h1 h2
theorem EqP_uJ {τ σ : AH} {a k : Nat} {x : Int64} (h : EqP τ σ) : EqP (uJ τ a k x) σ := h
theorem EqP_uR {τ σ : AH} {a k x : Nat} (h : EqP τ σ) : EqP (uR τ a k x) σ := h
theorem mi_eq {τ σ : AH} (h : EqP τ σ) (a b : Int32) : mi τ a b = mi σ a b := h.2.2.2.2 34 _ (by decide) (by decide)
theorem plF_eq {τ σ : AH} (h : EqP τ σ) (p : Nat) : plF τ p = plF σ p := by
  unfold plF; rw [h.2.2.2.2 46 _ (by decide) (by decide), h.2.2.2.2 47 _ (by decide) (by decide)]
theorem lowF_eq {τ σ : AH} (h : EqP τ σ) (a b s : Int32) : ∀ j, lowF τ a b s j = lowF σ a b s j
  | 0 => rfl
  | j + 1 => by
    have e : ∀ a k, 34 ≤ a → a ≤ 49 → zI τ a k = zI σ a k := h.2.2.2.2
    rw [lowF, lowF, lowF_eq h a b s j, lowS, lowS, h.1, e 39 _ (by decide) (by decide), e 40 _ (by decide) (by decide), e 41 _ (by decide) (by decide), e 42 _ (by decide) (by decide), e 43 _ (by decide) (by decide), e 44 _ (by decide) (by decide), e 45 _ (by decide) (by decide)]
theorem lowA_eq {τ σ : AH} (h : EqP τ σ) (a b s : Int32) : lowA τ a b s = lowA σ a b s := by
  rw [lowA, lowA, h.2.1, lowF_eq h]
theorem stN_eq {τ σ : AH} (h : EqP τ σ) (i : Nat) : ∀ d, stN τ i d = stN σ i d
  | 0 => rfl
  | d + 1 => by rw [stN, stN, stN_eq h i d, h.2.2.2.2 49 _ (by decide) (by decide), h.2.2.2.2 49 (i + d) (by decide) (by decide)]
theorem mlN_eq {τ σ : AH} (h : EqP τ σ) (i : Nat) : ∀ d, mlN τ i d = mlN σ i d
  | 0 => rfl
  | d + 1 => by rw [mlN, mlN, mlN_eq h i d, mi_eq h, h.2.2.2.2 46 _ (by decide) (by decide), h.2.2.2.2 47 _ (by decide) (by decide)]
theorem hiN_eq {τ σ : AH} (h : EqP τ σ) (a : Int32) (i : Nat) (b : Int32) : ∀ d, hiN τ a i b d = hiN σ a i b d
  | 0 => rfl
  | d + 1 => by rw [hiN, hiN, hiN_eq h a i b d, lowA_eq h, plF_eq h]
theorem partF_eq {τ σ : AH} (h : EqP τ σ) : partF τ = partF σ := by
  funext i j
  rw [partF, partF, plF_eq h, plF_eq h, lowA_eq h, lowA_eq h, mi_eq h, stN_eq h, mlN_eq h, hiN_eq h, upF, upF, h.2.2.1]
theorem PO_eq {τ σ : AH} (h : EqP τ σ) (hP : PO σ) : PO τ := by
  refine ⟨by rw [h.2.1]; exact hP.1, fun k hk => ?_, by rw [h.2.2.1]; exact hP.2.2.1, by rw [h.2.2.1]; exact hP.2.2.2⟩
  rw [h.2.2.2.2 46 _ (by decide) (by decide), h.2.2.2.2 47 _ (by decide) (by decide)]
  exact hP.2.1 k hk
theorem sumC_eq {τ σ : AH} (h : EqP τ σ) (x : Int32) : sumC τ x = sumC σ x := by rw [sumC, sumC, partF_eq h, h.2.2.2.1]
theorem uI_ov {σ : AH} {a k : Nat} {x y : Int32} : uI (uI σ a k x) a k y = uI σ a k y := by
  have h : (fun b j => if b = a ∧ j = k then y else (if b = a ∧ j = k then x else zI σ b j)) = (fun b j => if b = a ∧ j = k then y else zI σ b j) := by
    funext b j; split <;> simp_all
  exact congrArg (fun f => (zN σ, zK σ, zL σ, f, zJ σ, zR σ)) h
theorem uI_swp {σ : AH} {a k b j : Nat} {x y : Int32} (h : ¬ (a = b ∧ k = j)) : uI (uI σ a k x) b j y = uI (uI σ b j y) a k x := by
  have h : (fun c i => if c = b ∧ i = j then y else (if c = a ∧ i = k then x else zI σ c i)) = (fun c i => if c = a ∧ i = k then x else (if c = b ∧ i = j then y else zI σ c i)) := by
    funext c i
    by_cases h1 : c = b ∧ i = j
    · rw [if_pos h1, if_pos h1, if_neg (fun h2 => h ⟨h2.1.symm.trans h1.1, h2.2.symm.trans h1.2⟩)]
    · rw [if_neg h1, if_neg h1]
  exact congrArg (fun f => (zN σ, zK σ, zL σ, f, zJ σ, zR σ)) h
theorem uI_sw {σ : AH} {a k j : Nat} {x y : Int32} (h : k ≠ j) : uI (uI σ a k x) a j y = uI (uI σ a j y) a k x := uI_swp (fun q => h q.2)
theorem nI_npos {L : Nat} (h : L ≠ 0) (h2 : L < 2 ^ 31) : ¬ nI L ≤ 0 := nI_ge (Nat.pos_of_ne_zero h) h2
/-- the best way behind so many sets: its price, its cuts -/
def wayS (P : Nat → Nat → Int32) (L : Nat) : Nat → Int32 × Int32
  | 0 => (-1, -1)
  | n + 1 => if (sumSt P (2 * n) L L).1 = -1 then wayS P L n else if (wayS P L n).1 = -1 ∨ ¬ (wayS P L n).1 ≤ (sumSt P (2 * n) L L).1 then ((sumSt P (2 * n) L L).1, nI (2 * n)) else wayS P L n
def wayN (L : Nat) : Nat := if L = 0 then 0 else 2 ^ (L - 1)
/-- how many legs -/
def lgN (σ : AH) : Nat := Int32.toNatClampNeg (zI σ 33 16)
def wayF (σ : AH) : Int32 × Int32 := wayS (partF σ) (lgN σ) (wayN (lgN σ))
abbrev hW (σ : AH) (w : Int32 × Int32) : AH := uI (uI σ 33 21 w.1) 33 22 w.2
theorem hW_hW {σ : AH} {v w : Int32 × Int32} : hW (hW σ v) w = hW σ w := by
  unfold hW
  rw [uI_sw (k := 22) (j := 21) (by decide), uI_ov, uI_ov]
theorem EqP_hW {σ : AH} {w : Int32 × Int32} : EqP (hW σ w) σ := EqP_33 (EqP_33 (EqP_refl _) (by decide)) (by decide)
theorem wayF_eq {τ σ : AH} (h : EqP τ σ) : wayF τ = wayF σ := by rw [wayF, wayF, lgN, lgN, h.2.2.2.1, partF_eq h]
theorem shl_L {L : Nat} (h : L ≤ 8) : (1 : Int32) <<< (nI L &&& 31) = nI (2 ^ L) := by
  have : ∀ L, L < 9 → (1 : Int32) <<< (nI L &&& 31) = nI (2 ^ L) := by decide +kernel
  exact this L (by omega)