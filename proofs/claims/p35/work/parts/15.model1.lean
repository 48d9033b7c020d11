/-! ===== the reference: places, fares, parts ===== -/
theorem up_loop {P : Nat → Prop} (e : Nat) (hx : P e) (hs : ∀ j, j < e → P (j + 1) → P j) : ∀ j, j ≤ e → P j := by
  have key : ∀ d j, j + d = e → P j := by
    intro d
    induction d with
    | zero => intro j h; rw [show j = e by omega]; exact hx
    | succ d ih => intro j h; exact hs j (by omega) (ih (j + 1) (by omega))
  exact fun j hj => key (e - j) j (by omega)
theorem cl_0 : Int32.toNatClampNeg (0 : Int32) = 0 := by decide
def plF (σ : AH) (p : Nat) : Int32 := if p = 0 then zI σ 46 0 else zI σ 47 (p - 1)
theorem vp_nz {x : Int32} {n : Nat} (h : vp_in x (n + 1)) (hn : n < 2 ^ 30) (h0 : ¬ x = 0) : vp_in (x - 1) n ∧ (x - 1).toNatClampNeg = x.toNatClampNeg - 1 ∧ x.toNatClampNeg ≠ 0 := by
  obtain ⟨j, hj, rfl⟩ := vp_in_of h (by omega)
  have hj0 : j ≠ 0 := fun e => h0 (by rw [e]; rfl)
  obtain ⟨i, rfl⟩ : ∃ i, j = i + 1 := ⟨j - 1, by omega⟩
  rw [nI_pred, cl0 (by omega), cl0 (by omega)]
  exact ⟨vp_in_nI (by omega) (by omega), by omega, by omega⟩
def stF (σ : AH) (p : Nat) : Prop := ¬ zI σ 49 p ≤ zI σ 49 (p - 1)
noncomputable def stC (σ : AH) (p : Nat) : Int32 := jb (¬ zI σ 49 p ≤ zI σ 49 (p - 1))
theorem vp_mul {a b : Int32} (ha : vp_in a 10) (hb : vp_in b 10) : vp_in (10 * a + b) 100 ∧ (10 * a + b).toNatClampNeg = a.toNatClampNeg * 10 + b.toNatClampNeg ∧ a * 10 + b = 10 * a + b := by
  obtain ⟨i, hi, rfl⟩ := vp_in_of ha (by decide)
  obtain ⟨k, hk, rfl⟩ := vp_in_of hb (by decide)
  have e : (10 : Int32) * nI i + nI k = nI (i * 10 + k) := by
    rw [show (10 : Int32) = nI 10 from rfl, pk_mul, nI_add]; congr 1; omega
  have e2 : nI i * 10 + nI k = nI (i * 10 + k) := by
    rw [show (10 : Int32) = nI 10 from rfl, pk_mul, nI_add]
  rw [e, e2, cl0 (by omega), cl0 (by omega), cl0 (by omega)]
  exact ⟨vp_in_nI (by omega) (by decide), rfl, rfl⟩
/-- miles between two places -/
def mi (σ : AH) (a b : Int32) : Int32 := zI σ 34 (Int32.toNatClampNeg a * 10 + Int32.toNatClampNeg b)
/-- what a part needs: fares' count, legs' places, the unit -/
def PO (σ : AH) : Prop := vp_in (zI σ 33 6) 41 ∧ (∀ k, k < 8 → vp_in (zI σ 46 k) 10 ∧ vp_in (zI σ 47 k) 10) ∧ 1 ≤ (zI σ 33 14).toInt ∧ (zI σ 33 14).toInt ≤ 1000
theorem PO_pl {σ : AH} (h : PO σ) {p : Nat} (hp : p < 9) : vp_in (plF σ p) 10 := by
  unfold plF
  split
  · exact (h.2.1 0 (by decide)).1
  · exact (h.2.1 (p - 1) (by omega)).2
/-- the lowest fare among the first ones -/
def lowS (σ : AH) (a b s : Int32) (j : Nat) (f : Int32) : Int32 :=
  if zI σ 39 j = a ∧ zI σ 40 j = b ∧ isWi (zI σ 33 0) (zI σ 42 j) (zI σ 43 j) ∧ zI σ 45 j = 0 ∧ ¬ zI σ 44 j < s ∧ (f = -1 ∨ ¬ f ≤ zI σ 41 j) then zI σ 41 j else f
def lowF (σ : AH) (a b s : Int32) : Nat → Int32
  | 0 => -1
  | j + 1 => lowS σ a b s j (lowF σ a b s j)
abbrev ixx (x : Int32) : Nat := Int32.toNatClampNeg x
def lowA (σ : AH) (a b s : Int32) : Int32 := lowF σ a b s (Int32.toNatClampNeg (zI σ 33 6))
/-- stops at the points behind i, as many as d -/
def stN (σ : AH) (i : Nat) : Nat → Int32
  | 0 => 0
  | d + 1 => stN σ i d + jb (¬ zI σ 49 (i + 1 + d) ≤ zI σ 49 (i + d))
/-- the miles of the legs from i on, as many as d -/
def mlN (σ : AH) (i : Nat) : Nat → Int32
  | 0 => 0
  | d + 1 => mlN σ i d + mi σ (zI σ 46 (i + d)) (zI σ 47 (i + d))
/-- the greatest of base and the lowest fares to the points behind i, as many as d -/
def hiN (σ : AH) (a : Int32) (i : Nat) (base : Int32) : Nat → Int32
  | 0 => base
  | d + 1 => if lowA σ a (plF σ (i + 1 + d)) 0 ≤ hiN σ a i base d then hiN σ a i base d else lowA σ a (plF σ (i + 1 + d)) 0
/-- the surcharge -/
def moreF (al all : Int32) : Int32 :=
  if all ≤ al * (100 + 0) / 100 then 0 else if all ≤ al * (100 + 5) / 100 then 5 else if all ≤ al * (100 + 10) / 100 then 10 else if all ≤ al * (100 + 15) / 100 then 15 else if all ≤ al * (100 + 20) / 100 then 20 else 25
def upF (σ : AH) (base more : Int32) : Int32 := (base * (100 + more) + 100 * zI σ 33 14 - 1) / (100 * zI σ 33 14) * zI σ 33 14
/-- the price of a part -/
def partF (σ : AH) (i j : Nat) : Int32 :=
  if lowA σ (plF σ i) (plF σ j) 0 = -1 then -1 else
  if lowA σ (plF σ i) (plF σ j) (stN σ i (j - (i + 1))) = -1 then -2 else
  if mi σ (plF σ i) (plF σ j) = 0 ∨ ¬ mlN σ i (j - i) ≤ mi σ (plF σ i) (plF σ j) * 120 / 100 * 125 / 100 then -3 else
  upF σ (hiN σ (plF σ i) i (lowA σ (plF σ i) (plF σ j) (stN σ i (j - (i + 1)))) (j - (i + 1))) (moreF (mi σ (plF σ i) (plF σ j) * 120 / 100) (mlN σ i (j - i)))
theorem unit_nz {σ : AH} (h : PO σ) : ¬ (100 : Int32) * zI σ 33 14 = 0 := by
  obtain ⟨u, hu⟩ : ∃ u : Nat, zI σ 33 14 = nI u ∧ 1 ≤ u ∧ u ≤ 1000 := by
    have h1 := h.2.2
    refine ⟨(zI σ 33 14).toInt.toNat, ?_, by omega, by omega⟩
    apply Int32.toInt_inj.mp
    rw [nI_toInt (by omega)]
    omega
  rw [hu.1, show (100 : Int32) = nI 100 from rfl, pk_mul]
  exact nI_ne0 (by omega) (by omega)