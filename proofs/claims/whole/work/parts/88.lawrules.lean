/-! ===== the law: its judgement ===== -/
def mLaw : MI := (x, code, 8, ret, [], room_1)
def CXl (g : GP) (b L : Nat) (xs : Nat → Int32) : State → Array Value → Prop := fun s args => args = #[Value.ref b] ∧ s.heap = g.2.2.2 ∧ va_X b L xs s g.2.2.2 ∧ b < g.2.2.2.size
def ELw (b : Nat) : ET := fun below _ s ρ0 n0 t => (ρ0 1 = b ∧ 1 ≤ n0) → lw_Z below #[Value.ref b] s t
theorem W_vac {p : Program} {l : Launch} {e : Env} {R : Room} {s : State} {m : MethodId} {args : Array Value} {below : List Frame} {meth : Method} {c : Code} {H : Heap} {locs : List Loc} {cells slots : Nat} {A : Prop} {Z : State → Prop} {f : JFrame} (h : ¬ A) : W p l e R s m args below meth c H locs cells slots (fun t => A → Z t) f :=
  fun T _ _ => ⟨_, Steps.refl _, fun q => absurd q h⟩
section LR
variable {g : GP} {b L : Nat} {xs : Nat → Int32} {k n pc : Nat} {ls : List (Nat × Value)} {st : List Value} {σ : AH}
/-- an int of the script -/
theorem V_sld {i : Nat} (hi : i < L) (hL : L < 1073741824) (hd : decode code pc = .ok (.iaload, 1)) (kk : V g mLaw (ELw b) (CXl g b L xs) k n (pc + 1) ls (.int (xs i) :: st) σ) : V g mLaw (ELw b) (CXl g b L xs) k n pc ls (.int (nI i) :: .ref 1 :: st) σ := by
  intro p e s m args below meth c C H locs cells slots ρ ρ0 n0 lr P
  by_cases hA : ρ0 1 = b ∧ 1 ≤ n0
  · have hρ : ρ 1 = b := (P.2.2.2.2.2.1 1 (Nat.le_refl _) hA.2).trans hA.1
    have hS := mkS C P
    obtain ⟨x1, x2, x3, x4⟩ := C.2.2.2.2.2.2.2.2.2.2.2.2.2
    obtain ⟨p1, p2, p3, p4, p5, p6, p7, p8, p9, p10⟩ := P
    have K := kk p e s m args below meth c C H locs cells slots ρ ρ0 n0 lr ⟨p1, p2, p3, p4, p5, p6, p7, p8, p9, wv_cons wv_i (wv_tail2 p10)⟩
    have ci : (nI i).toNatClampNeg = i := cl0 (by omega)
    rw [List.map_cons, List.map_cons, cv_ref (by decide), hρ]
    refine va_sld (A := bs g.2.2.2) (i := nI i) C.1 C.2.1 (by rw [x2]; exact x3) (by rw [x2]; exact x4) (Nat.not_le.mpr x4) hS (vp_in_nI hi (by omega)) hd ?_
    rw [ci]
    exact K
  · exact W_vac hA
theorem V_sldj {i j : Nat} {z : Int32} (hz : z = nI j) (hi : i + j < L) (hL : L < 1073741824) (hd : decode code pc = .ok (.iaload, 1)) (kk : V g mLaw (ELw b) (CXl g b L xs) k n (pc + 1) ls (.int (xs (i + j)) :: st) σ) : V g mLaw (ELw b) (CXl g b L xs) k n pc ls (.int (nI i + z) :: .ref 1 :: st) σ := by
  rw [hz, nI_add]
  exact V_sld hi hL hd kk
theorem V_slen (hd : decode code pc = .ok (.arraylength, 1)) (kk : V g mLaw (ELw b) (CXl g b L xs) k n (pc + 1) ls (.int (nI L) :: st) σ) : V g mLaw (ELw b) (CXl g b L xs) k n pc ls (.ref 1 :: st) σ := by
  intro p e s m args below meth c C H locs cells slots ρ ρ0 n0 lr P
  by_cases hA : ρ0 1 = b ∧ 1 ≤ n0
  · have hρ : ρ 1 = b := (P.2.2.2.2.2.1 1 (Nat.le_refl _) hA.2).trans hA.1
    have hS := mkS C P
    obtain ⟨x1, x2, x3, x4⟩ := C.2.2.2.2.2.2.2.2.2.2.2.2.2
    obtain ⟨p1, p2, p3, p4, p5, p6, p7, p8, p9, p10⟩ := P
    have K := kk p e s m args below meth c C H locs cells slots ρ ρ0 n0 lr ⟨p1, p2, p3, p4, p5, p6, p7, p8, p9, wv_cons wv_i (wv_tail p10)⟩
    rw [List.map_cons, cv_ref (by decide), hρ]
    exact va_slen (A := bs g.2.2.2) C.1 C.2.1 (by rw [x2]; exact x3) (by rw [x2]; exact x4) (Nat.not_le.mpr x4) hS hd K
  · exact W_vac hA
/-- the end: true -/
theorem V_true (hd : decode code pc = .ok (.ireturn, 1)) : V g mLaw (ELw b) (CXl g b L xs) k n pc ls [.int 1] σ := by
  intro p e s m args below meth c C H locs cells slots ρ ρ0 n0 lr P
  obtain ⟨x1, x2, x3, x4⟩ := C.2.2.2.2.2.2.2.2.2.2.2.2.2
  obtain ⟨p1, p2, p3, p4, p5, p6, p7, p8, p9, p10⟩ := P
  subst x1
  refine W.mono (fun t h _ => h) (va_forget (fun q hq => ?_) (W.widen (k := 601024) (n := 7293034) ?_ ?_ (lw_ret C.1 C.2.1 C.2.2.2.2.2.2.1 C.2.2.2.2.2.1 hd)))
  · rw [x2]; exact p2 q hq
  · have : mLaw.2.2.2.2.2.cells = 601024 := rfl
    omega
  · have : mLaw.2.2.2.2.2.slots = 7293034 := rfl
    omega
end LR
theorem ble_ca {a c k : Nat} (h : Nat.ble a c = true) : Nat.ble (a + k) (k + c) = true := Nat.ble_eq_true_of_le (by have := Nat.le_of_ble_eq_true h; omega)
/-- the numbers of a wrapper's call; of the reference's -/
theorem rf_L {z : MI} {kk nn : Nat} {st : List Value} (h1 : Nat.ble (z.2.2.2.2.2.frames + 1) 10 = true) (h2 : Nat.ble (8 + (z.2.2.1 + 11) + z.2.2.2.2.2.locals) 396 = true) (h3 : Nat.ble z.2.2.2.2.2.cells 11 = true) (h4 : Nat.ble z.2.2.2.2.2.slots 94 = true) (h5 : Nat.ble (st.map fun v => v.category).sum 8 = true) : RF mLaw z (kk + 11) (nn + 94) kk nn st := ⟨h1, h2, ble_ca h3, ble_ca h4, h5⟩
theorem rf_M {z : MI} {kk nn : Nat} {st : List Value} (h1 : Nat.ble (z.2.2.2.2.2.frames + 1) 10 = true) (h2 : Nat.ble (8 + (z.2.2.1 + 11) + z.2.2.2.2.2.locals) 396 = true) (h3 : z.2.2.2.2.2.cells = 0) (h4 : z.2.2.2.2.2.slots = 0) (h5 : Nat.ble (st.map fun v => v.category).sum 8 = true) : RF mLaw z kk nn kk nn st := ⟨h1, h2, by rw [h3, Nat.zero_add]; exact Nat.ble_self_eq_true _, by rw [h4, Nat.zero_add]; exact Nat.ble_self_eq_true _, h5⟩
theorem lc_eq {a c : Int64} (h : a = c) : lg_cmp a c = 0 := by
  subst h
  unfold lg_cmp
  rw [if_neg (fun h => Int64.lt_irrefl h), if_pos rfl]
