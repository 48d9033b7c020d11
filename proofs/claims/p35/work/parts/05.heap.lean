/-! abstract heaps: cells by number from 1 on (0: null), what each is, and what it holds -/
abbrev AH : Type := Nat × (Nat → Nat) × (Nat → Nat) × (Nat → Nat → Int32) × (Nat → Nat → Int64) × (Nat → Nat → Nat)
def zN (σ : AH) : Nat := σ.1
def zK (σ : AH) (a : Nat) : Nat := σ.2.1 a
def zL (σ : AH) (a : Nat) : Nat := σ.2.2.1 a
def zI (σ : AH) (a k : Nat) : Int32 := σ.2.2.2.1 a k
def zJ (σ : AH) (a k : Nat) : Int64 := σ.2.2.2.2.1 a k
def zR (σ : AH) (a k : Nat) : Nat := σ.2.2.2.2.2 a k
def uI (σ : AH) (a k : Nat) (x : Int32) : AH := (zN σ, zK σ, zL σ, fun b j => if b = a ∧ j = k then x else zI σ b j, zJ σ, zR σ)
def uJ (σ : AH) (a k : Nat) (x : Int64) : AH := (zN σ, zK σ, zL σ, zI σ, fun b j => if b = a ∧ j = k then x else zJ σ b j, zR σ)
def uR (σ : AH) (a k : Nat) (x : Nat) : AH := (zN σ, zK σ, zL σ, zI σ, zJ σ, fun b j => if b = a ∧ j = k then x else zR σ b j)
def nw (σ : AH) (κ n : Nat) : AH := (zN σ + 1, fun b => if b = zN σ + 1 then κ else zK σ b, fun b => if b = zN σ + 1 then n else zL σ b, fun b j => if b = zN σ + 1 then 0 else zI σ b j, fun b j => if b = zN σ + 1 then 0 else zJ σ b j, fun b j => if b = zN σ + 1 then 0 else zR σ b j)
theorem zN_uI (σ : AH) (a k : Nat) (x : Int32) : zN (uI σ a k x) = zN σ := rfl
theorem zK_uI (σ : AH) (a k : Nat) (x : Int32) (b : Nat) : zK (uI σ a k x) b = zK σ b := rfl
theorem zL_uI (σ : AH) (a k : Nat) (x : Int32) (b : Nat) : zL (uI σ a k x) b = zL σ b := rfl
theorem zI_uI (σ : AH) (a k : Nat) (x : Int32) (b j : Nat) : zI (uI σ a k x) b j = if b = a ∧ j = k then x else zI σ b j := rfl
theorem zJ_uI (σ : AH) (a k : Nat) (x : Int32) (b j : Nat) : zJ (uI σ a k x) b j = zJ σ b j := rfl
theorem zR_uI (σ : AH) (a k : Nat) (x : Int32) (b j : Nat) : zR (uI σ a k x) b j = zR σ b j := rfl
theorem zN_uJ (σ : AH) (a k : Nat) (x : Int64) : zN (uJ σ a k x) = zN σ := rfl
theorem zK_uJ (σ : AH) (a k : Nat) (x : Int64) (b : Nat) : zK (uJ σ a k x) b = zK σ b := rfl
theorem zL_uJ (σ : AH) (a k : Nat) (x : Int64) (b : Nat) : zL (uJ σ a k x) b = zL σ b := rfl
theorem zI_uJ (σ : AH) (a k : Nat) (x : Int64) (b j : Nat) : zI (uJ σ a k x) b j = zI σ b j := rfl
theorem zJ_uJ (σ : AH) (a k : Nat) (x : Int64) (b j : Nat) : zJ (uJ σ a k x) b j = if b = a ∧ j = k then x else zJ σ b j := rfl
theorem zR_uJ (σ : AH) (a k : Nat) (x : Int64) (b j : Nat) : zR (uJ σ a k x) b j = zR σ b j := rfl
theorem zN_uR (σ : AH) (a k x : Nat) : zN (uR σ a k x) = zN σ := rfl
theorem zK_uR (σ : AH) (a k x : Nat) (b : Nat) : zK (uR σ a k x) b = zK σ b := rfl
theorem zL_uR (σ : AH) (a k x : Nat) (b : Nat) : zL (uR σ a k x) b = zL σ b := rfl
theorem zI_uR (σ : AH) (a k x : Nat) (b j : Nat) : zI (uR σ a k x) b j = zI σ b j := rfl
theorem zJ_uR (σ : AH) (a k x : Nat) (b j : Nat) : zJ (uR σ a k x) b j = zJ σ b j := rfl
theorem zR_uR (σ : AH) (a k x : Nat) (b j : Nat) : zR (uR σ a k x) b j = if b = a ∧ j = k then x else zR σ b j := rfl
theorem zN_nw (σ : AH) (κ n : Nat) : zN (nw σ κ n) = zN σ + 1 := rfl
theorem zK_nw (σ : AH) (κ n b : Nat) : zK (nw σ κ n) b = if b = zN σ + 1 then κ else zK σ b := rfl
theorem zL_nw (σ : AH) (κ n b : Nat) : zL (nw σ κ n) b = if b = zN σ + 1 then n else zL σ b := rfl
theorem zI_nw (σ : AH) (κ n b j : Nat) : zI (nw σ κ n) b j = if b = zN σ + 1 then 0 else zI σ b j := rfl
theorem zJ_nw (σ : AH) (κ n b j : Nat) : zJ (nw σ κ n) b j = if b = zN σ + 1 then 0 else zJ σ b j := rfl
theorem zR_nw (σ : AH) (κ n b j : Nat) : zR (nw σ κ n) b j = if b = zN σ + 1 then 0 else zR σ b j := rfl
/-- what an abstract value is on the machine -/
def cv (ρ : Nat → Nat) (v : Value) : Value := match v with
  | .ref a => if a = 0 then .null else .ref (ρ a)
  | v => v
def oref (ρ : Nat → Nat) (a : Nat) : Option Nat := if a = 0 then none else some (ρ a)
theorem cv_int (ρ : Nat → Nat) (x : Int32) : cv ρ (.int x) = .int x := rfl
theorem cv_long (ρ : Nat → Nat) (x : Int64) : cv ρ (.long x) = .long x := rfl
theorem cv_ref {ρ : Nat → Nat} {a : Nat} (h : a ≠ 0) : cv ρ (.ref a) = .ref (ρ a) := by simp [cv, h]
theorem cv_null (ρ : Nat → Nat) : cv ρ (.ref 0) = .null := rfl
theorem cv_rf (ρ : Nat → Nat) (a : Nat) : va_rf (oref ρ a) = cv ρ (.ref a) := by
  by_cases h : a = 0 <;> simp [cv, oref, va_rf, h]
theorem cv_cat (ρ : Nat → Nat) (v : Value) : (cv ρ v).category = v.category := by
  cases v with
  | ref a => by_cases h : a = 0 <;> simp [cv, h, Value.category]
  | _ => rfl
/-- a value's reference lies among n cells -/
def wv (n : Nat) (v : Value) : Prop := match v with
  | .ref a => a ≤ n
  | _ => True
theorem wv_mono {n m : Nat} (h : n ≤ m) {v : Value} (hv : wv n v) : wv m v := by
  cases v with
  | ref a => exact Nat.le_trans hv h
  | _ => trivial
theorem cv_agree {ρ ρ' : Nat → Nat} {n : Nat} (h : ∀ a, 1 ≤ a → a ≤ n → ρ' a = ρ a) {v : Value} (hv : wv n v) : cv ρ' v = cv ρ v := by
  cases v with
  | ref a =>
    by_cases h0 : a = 0
    · simp [cv, h0]
    · simp [cv, h0, h a (Nat.pos_of_ne_zero h0) hv]
  | _ => rfl
/-- the classes' fields: their types and number -/
def fT : Nat → Nat → FieldType := fun ci => match ci with
  | 0 => tyX0 | 1 => tyX1 | 2 => tyX2 | 3 => tyX3 | 4 => tyX4 | 5 => tyX5 | 6 => tyX6 | 7 => tyX7 | 8 => tyX8 | 9 => tyX9 | 10 => tyX10 | _ => tyX11
def fN : Nat → Nat := fun ci => match ci with
  | 0 => 6 | 1 => 5 | 2 => 9 | 3 => 7 | 4 => 2 | 5 => 4 | 6 => 1 | 7 => 2 | 8 => 7 | 9 => 8 | 10 => 5 | _ => 11
def fv (ρ : Nat → Nat) (σ : AH) (a : Nat) (ty : FieldType) (k : Nat) : Value := match ty with
  | .long => .long (zJ σ a k)
  | .object _ => cv ρ (.ref (zR σ a k))
  | .array _ => cv ρ (.ref (zR σ a k))
  | _ => .int (zI σ a k)
def ent (dA : Nat → ClassId) (ρ : Nat → Nat) (σ : AH) (a : Nat) : va_E :=
  if zK σ a < 13 then .inr (zK σ a, (List.range (fN (zK σ a))).map (fun k => fv ρ σ a (fT (zK σ a) k) k))
  else .inl (dA (if zK σ a = 23 then 20 else zK σ a), zL σ a, if zK σ a = 20 ∨ zK σ a = 22 ∨ zK σ a = 23 then .inl (zI σ a) else if zK σ a = 21 then .inr (.inl (zJ σ a)) else .inr (.inr (.inr (.inr (fun j => oref ρ (zR σ a j))))))
def wlp (σ : AH) (k : Nat) : Bool := !Nat.beq (zK σ (k + 1)) 19
theorem wlp_t {σ : AH} {k : Nat} (h : zK σ (k + 1) ≠ 19) : wlp σ k = true := by
  unfold wlp
  cases e : Nat.beq (zK σ (k + 1)) 19 with
  | false => rfl
  | true => exact absurd (Nat.eq_of_beq_eq_true e) h
/-- the cells that are there: all but the holes -/
def wl (dA : Nat → ClassId) (ρ : Nat → Nat) (σ : AH) : va_W := ((List.range (zN σ)).filter (wlp σ)).map (fun k => (ρ (k + 1), ent dA ρ σ (k + 1)))
/-- a cell's place among them -/
def ps (σ : AH) (a : Nat) : Nat := ((List.range (a - 1)).filter (wlp σ)).length
theorem rg_split {a n : Nat} (h0 : a ≠ 0) (h : a ≤ n) : List.range n = List.range (a - 1) ++ (a - 1) :: (List.range (n - a)).map (fun k => a + k) := by
  have e1 : n = (a - 1) + ((n - a) + 1) := by omega
  have e2 : List.range n = List.range (a - 1) ++ (List.range ((n - a) + 1)).map (fun k => (a - 1) + k) := by
    conv => lhs; rw [e1]
    exact List.range_add
  rw [e2, List.range_succ_eq_map, List.map_cons, List.map_map]
  congr 2
  apply List.map_congr_left
  intro k _
  show a - 1 + (k + 1) = a + k
  omega
theorem wl_split (dA : Nat → ClassId) (ρ : Nat → Nat) {σ : AH} {a : Nat} (h0 : a ≠ 0) (hk : zK σ a ≠ 19) (h : a ≤ zN σ) : wl dA ρ σ = ((List.range (a - 1)).filter (wlp σ)).map (fun k => (ρ (k + 1), ent dA ρ σ (k + 1))) ++ (ρ a, ent dA ρ σ a) :: ((((List.range (zN σ - a)).map (fun k => a + k)).filter (wlp σ)).map (fun k => (ρ (k + 1), ent dA ρ σ (k + 1)))) := by
  have e : a - 1 + 1 = a := by omega
  have hp : wlp σ (a - 1) = true := wlp_t (by rw [e]; exact hk)
  unfold wl
  rw [rg_split h0 h, List.filter_append, List.filter_cons_of_pos hp, List.map_append, List.map_cons, e]
theorem wl_get {dA : Nat → ClassId} {ρ : Nat → Nat} {σ : AH} {a : Nat} (h0 : a ≠ 0) (hk : zK σ a ≠ 19) (h : a ≤ zN σ) : (wl dA ρ σ)[ps σ a]? = some (ρ a, ent dA ρ σ a) := by
  rw [wl_split dA ρ h0 hk h, List.getElem?_append_right (by rw [List.length_map]; exact Nat.le_refl _), List.length_map, ps, Nat.sub_self]
  rfl
theorem wl_set {dA : Nat → ClassId} {ρ : Nat → Nat} {σ σ' : AH} {a : Nat} {e : va_E} (h0 : a ≠ 0) (hk : zK σ a ≠ 19) (h : a ≤ zN σ) (hn : zN σ' = zN σ) (hkk : ∀ b, zK σ' b = zK σ b) (hs : ∀ b, b ≠ a → ent dA ρ σ' b = ent dA ρ σ b) (he : ent dA ρ σ' a = e) : (wl dA ρ σ).set (ps σ a) (ρ a, e) = wl dA ρ σ' := by
  have hw : wlp σ' = wlp σ := funext fun k => by unfold wlp; rw [hkk]
  rw [wl_split dA ρ h0 hk h, wl_split dA ρ (σ := σ') h0 (by rw [hkk]; exact hk) (by rw [hn]; exact h), hn, hw, he]
  have hl : ps σ a = (((List.range (a - 1)).filter (wlp σ)).map (fun k => (ρ (k + 1), ent dA ρ σ (k + 1)))).length := by rw [List.length_map]; rfl
  rw [List.set_append_right _ _ (by rw [hl]; exact Nat.le_refl _), hl, Nat.sub_self, List.set_cons_zero]
  congr 1
  · apply List.map_congr_left
    intro k hk1
    have h1 := List.mem_range.mp (List.mem_filter.mp hk1).1
    rw [hs (k + 1) (by omega)]
  · congr 1
    apply List.map_congr_left
    intro k hk1
    obtain ⟨j, -, rfl⟩ := List.mem_map.mp (List.mem_filter.mp hk1).1
    rw [hs (a + j + 1) (by omega)]
def rup (ρ : Nat → Nat) (a q : Nat) : Nat → Nat := fun b => if b = a then q else ρ b
theorem oref_rup {ρ : Nat → Nat} {n q b : Nat} (h : b ≤ n) : oref (rup ρ (n + 1) q) b = oref ρ b := by
  by_cases h0 : b = 0
  · simp [oref, h0]
  · simp [oref, h0, rup, show ¬ b = n + 1 by omega]
theorem cv_rup {ρ : Nat → Nat} {n q b : Nat} (h : b ≤ n) : cv (rup ρ (n + 1) q) (.ref b) = cv ρ (.ref b) := by
  rw [← cv_rf, ← cv_rf, oref_rup h]
theorem ent_nw_old {dA : Nat → ClassId} {ρ : Nat → Nat} {σ : AH} {κ n q a : Nat} (hc : ∀ b j, zR σ b j ≤ zN σ) (ha : a ≤ zN σ) : ent dA (rup ρ (zN σ + 1) q) (nw σ κ n) a = ent dA ρ σ a := by
  have hne : ¬ a = zN σ + 1 := by omega
  have e1 : zK (nw σ κ n) a = zK σ a := by rw [zK_nw, if_neg hne]
  have e2 : zL (nw σ κ n) a = zL σ a := by rw [zL_nw, if_neg hne]
  have e3 : zI (nw σ κ n) a = zI σ a := by funext j; rw [zI_nw, if_neg hne]
  have e4 : zJ (nw σ κ n) a = zJ σ a := by funext j; rw [zJ_nw, if_neg hne]
  have e5 : zR (nw σ κ n) a = zR σ a := by funext j; rw [zR_nw, if_neg hne]
  have e6 : (fun j => oref (rup ρ (zN σ + 1) q) (zR (nw σ κ n) a j)) = fun j => oref ρ (zR σ a j) := by funext j; rw [e5, oref_rup (hc a j)]
  have e7 : ∀ ty k, fv (rup ρ (zN σ + 1) q) (nw σ κ n) a ty k = fv ρ σ a ty k := by
    intro ty k
    cases ty <;> simp only [fv, e3, e4, e5, cv_rup (hc a k)]
  unfold ent
  rw [e1, e2, e3, e4, e6]
  simp only [e7]
theorem wl_push {dA : Nat → ClassId} {ρ : Nat → Nat} {σ : AH} {κ n q : Nat} {e : va_E} (hκ : κ ≠ 19) (hc : ∀ b j, zR σ b j ≤ zN σ) (he : ent dA (rup ρ (zN σ + 1) q) (nw σ κ n) (zN σ + 1) = e) : wl dA ρ σ ++ [(q, e)] = wl dA (rup ρ (zN σ + 1) q) (nw σ κ n) := by
  unfold wl
  have hw : ∀ k, k < zN σ → wlp (nw σ κ n) k = wlp σ k := fun k hk => by unfold wlp; rw [zK_nw, if_neg (by omega)]
  have hp : wlp (nw σ κ n) (zN σ) = true := wlp_t (by rw [zK_nw, if_pos rfl]; exact hκ)
  rw [zN_nw, List.range_succ, List.filter_append, List.map_append, List.filter_cons_of_pos hp]
  have hf : (List.range (zN σ)).filter (wlp (nw σ κ n)) = (List.range (zN σ)).filter (wlp σ) := List.filter_congr fun k hk => hw k (List.mem_range.mp hk)
  rw [hf]
  congr 1
  · apply List.map_congr_left
    intro k hk
    have hk := List.mem_range.mp (List.mem_filter.mp hk).1
    rw [ent_nw_old hc (by omega)]
    simp [rup, show ¬ k = zN σ by omega]
  · show _ = [(rup ρ (zN σ + 1) q (zN σ + 1), ent dA (rup ρ (zN σ + 1) q) (nw σ κ n) (zN σ + 1))]
    rw [he]
    simp [rup]
/-- heaps that differ in holes alone: cells that are there have the same kinds and hold the same -/
theorem wl_gh {dA : Nat → ClassId} {ρ : Nat → Nat} {σ τ : AH} (hn : zN σ ≤ zN τ) (h1 : ∀ a, 1 ≤ a → a ≤ zN σ → zK τ a = zK σ a ∧ (zK σ a ≠ 19 → ent dA ρ τ a = ent dA ρ σ a)) (h2 : ∀ a, zN σ < a → a ≤ zN τ → zK τ a = 19) : wl dA ρ τ = wl dA ρ σ := by
  unfold wl
  have e1 : zN τ = zN σ + (zN τ - zN σ) := by omega
  have e2 : (List.range (zN τ)).filter (wlp τ) = (List.range (zN σ)).filter (wlp σ) := by
    rw [e1, List.range_add, List.filter_append]
    have e3 : ((List.range (zN τ - zN σ)).map (fun x => zN σ + x)).filter (wlp τ) = [] := by
      rw [List.filter_eq_nil_iff]
      intro k hk
      obtain ⟨j, hj, rfl⟩ := List.mem_map.mp hk
      have hj := List.mem_range.mp hj
      unfold wlp
      rw [h2 (zN σ + j + 1) (by omega) (by omega)]
      decide
    rw [e3, List.append_nil]
    exact List.filter_congr fun k hk => by
      have hk := List.mem_range.mp hk
      unfold wlp
      rw [(h1 (k + 1) (by omega) (by omega)).1]
  rw [e2]
  apply List.map_congr_left
  intro k hk
  obtain ⟨hk1, hk2⟩ := List.mem_filter.mp hk
  have hk1 := List.mem_range.mp hk1
  rw [(h1 (k + 1) (by omega) (by omega)).2 (fun q => by unfold wlp at hk2; rw [q] at hk2; exact absurd hk2 (by decide))]
theorem ent_obj {dA : Nat → ClassId} {ρ : Nat → Nat} {σ : AH} {a ci : Nat} (h : zK σ a = ci) (hc : ci < 13) : ent dA ρ σ a = .inr (ci, (List.range (fN ci)).map (fun k => fv ρ σ a (fT ci k) k)) := by
  unfold ent; rw [h, if_pos hc]
theorem ent_ia {dA : Nat → ClassId} {ρ : Nat → Nat} {σ : AH} {a : Nat} (h : zK σ a = 20) : ent dA ρ σ a = .inl (dA 20, zL σ a, .inl (zI σ a)) := by
  unfold ent; rw [h]; rfl
theorem ent_ga {dA : Nat → ClassId} {ρ : Nat → Nat} {σ : AH} {a : Nat} (h : zK σ a = 23) : ent dA ρ σ a = .inl (dA 20, zL σ a, .inl (zI σ a)) := by
  unfold ent; rw [h]; rfl
theorem ent_za {dA : Nat → ClassId} {ρ : Nat → Nat} {σ : AH} {a : Nat} (h : zK σ a = 22) : ent dA ρ σ a = .inl (dA 22, zL σ a, .inl (zI σ a)) := by
  unfold ent; rw [h]; rfl
theorem ent_ja {dA : Nat → ClassId} {ρ : Nat → Nat} {σ : AH} {a : Nat} (h : zK σ a = 21) : ent dA ρ σ a = .inl (dA 21, zL σ a, .inr (.inl (zJ σ a))) := by
  unfold ent; rw [h]; rfl
theorem ent_qa {dA : Nat → ClassId} {ρ : Nat → Nat} {σ : AH} {a κ : Nat} (h : zK σ a = κ) (hk : 30 ≤ κ) : ent dA ρ σ a = .inl (dA κ, zL σ a, .inr (.inr (.inr (.inr (fun j => oref ρ (zR σ a j)))))) := by
  unfold ent
  rw [h, if_neg (show ¬ κ < 13 by omega), if_neg (show ¬ κ = 23 by omega), if_neg (show ¬ (κ = 20 ∨ κ = 22 ∨ κ = 23) by omega), if_neg (show ¬ κ = 21 by omega)]
theorem fv_set {ρ : Nat → Nat} {σ σ' : AH} {a ci k : Nat} {v : Value} (hk : k < fN ci) (hs : ∀ j, j ≠ k → fv ρ σ' a (fT ci j) j = fv ρ σ a (fT ci j) j) (hv : fv ρ σ' a (fT ci k) k = v) : ((List.range (fN ci)).map (fun k => fv ρ σ a (fT ci k) k)).set k v = (List.range (fN ci)).map (fun k => fv ρ σ' a (fT ci k) k) := by
  apply List.ext_getElem?
  intro i
  by_cases hi : i = k
  · subst hi
    rw [List.getElem?_set_self (by simpa using hk)]
    simp [List.getElem?_range hk, hv]
  · rw [List.getElem?_set_ne (Ne.symm hi)]
    by_cases hl : i < fN ci
    · simp [List.getElem?_range hl, hs i hi]
    · rw [List.getElem?_eq_none (by simp; omega), List.getElem?_eq_none (by simp; omega)]
theorem fv_get {ρ : Nat → Nat} {σ : AH} {a ci k : Nat} (hk : k < fN ci) : ((List.range (fN ci)).map (fun k => fv ρ σ a (fT ci k) k))[k]? = some (fv ρ σ a (fT ci k) k) := by
  simp [List.getElem?_range hk]
theorem ent_uI {dA : Nat → ClassId} {ρ : Nat → Nat} {σ : AH} {a k b : Nat} {x : Int32} (h : b ≠ a) : ent dA ρ (uI σ a k x) b = ent dA ρ σ b := by
  have e3 : zI (uI σ a k x) b = zI σ b := by funext j; rw [zI_uI, if_neg (fun q => h q.1)]
  have e7 : ∀ ty j, fv ρ (uI σ a k x) b ty j = fv ρ σ b ty j := by
    intro ty j
    cases ty <;> simp only [fv, e3] <;> rfl
  unfold ent
  simp only [e7]
  rw [e3]
  rfl
theorem ent_uJ {dA : Nat → ClassId} {ρ : Nat → Nat} {σ : AH} {a k b : Nat} {x : Int64} (h : b ≠ a) : ent dA ρ (uJ σ a k x) b = ent dA ρ σ b := by
  have e3 : zJ (uJ σ a k x) b = zJ σ b := by funext j; rw [zJ_uJ, if_neg (fun q => h q.1)]
  have e7 : ∀ ty j, fv ρ (uJ σ a k x) b ty j = fv ρ σ b ty j := by
    intro ty j
    cases ty <;> simp only [fv, e3] <;> rfl
  unfold ent
  simp only [e7]
  rw [e3]
  rfl
theorem ent_uR {dA : Nat → ClassId} {ρ : Nat → Nat} {σ : AH} {a k b : Nat} {x : Nat} (h : b ≠ a) : ent dA ρ (uR σ a k x) b = ent dA ρ σ b := by
  have e3 : zR (uR σ a k x) b = zR σ b := by funext j; rw [zR_uR, if_neg (fun q => h q.1)]
  have e7 : ∀ ty j, fv ρ (uR σ a k x) b ty j = fv ρ σ b ty j := by
    intro ty j
    cases ty <;> simp only [fv, e3] <;> rfl
  unfold ent
  simp only [e7]
  rw [e3]
  rfl
