/-! ===== the fixed cells: 1 the script, 2..32 the class, 33..72 holes: the ghost rows ===== -/
def shKl : List Nat := [0, 20, 11, 8, 6, 20, 33, 20, 20, 7, 6, 20, 20, 4, 35, 5, 5, 5, 5, 5, 5, 5, 5, 10, 20, 20, 20, 1, 30, 21, 39, 21, 21, 19, 19, 19, 19, 19, 19, 19, 19, 19, 19, 19, 19, 19, 19, 19, 19, 19, 19, 19, 19, 19, 19, 19, 19, 19, 19, 19, 19, 19, 19, 19, 19, 19, 19, 19, 19, 19, 19, 19, 19]
def shLl : List Nat := [0, 0, 11, 7, 1, 100, 40, 10, 10, 2, 1, 100, 500, 2, 8, 4, 4, 4, 4, 4, 4, 4, 4, 5, 9, 9, 81, 5, 240, 5, 30, 5, 10, 0, 0, 0, 0, 0, 0, 0, 0, 0, 0, 0, 0, 0, 0, 0, 0, 0, 0, 0, 0, 0, 0, 0, 0, 0, 0, 0, 0, 0, 0, 0, 0, 0, 0, 0, 0, 0, 0, 0, 0]
def shRl : List (Nat × Nat × Nat) := [(2, 0, 3), (2, 1, 9), (2, 2, 13), (2, 3, 23), (2, 4, 27), (2, 5, 30), (2, 6, 31), (2, 7, 32), (3, 0, 4), (3, 1, 6), (3, 2, 7), (3, 3, 8), (4, 0, 5), (9, 0, 10), (9, 1, 12), (10, 0, 11), (13, 0, 14), (14, 0, 15), (14, 1, 16), (14, 2, 17), (14, 3, 18), (14, 4, 19), (14, 5, 20), (14, 6, 21), (14, 7, 22), (23, 0, 24), (23, 1, 25), (23, 2, 26), (27, 0, 28), (27, 1, 29)]
def Sh (σ : AH) : Prop := 72 ≤ zN σ ∧ (∀ a, 2 ≤ a → a ≤ 72 → zK σ a = shKl.getD a 0 ∧ zL σ a = shLl.getD a 0) ∧ (∀ q ∈ shRl, zR σ q.1 q.2.1 = q.2.2) ∧ zK σ 1 = 19
theorem shk {σ : AH} (h : Sh σ) (a : Nat) {κ : Nat} (hk : (Nat.ble 2 a && (Nat.ble a 72 && Nat.beq (shKl.getD a 0) κ)) = true) : zK σ a = κ := by
  simp only [Bool.and_eq_true] at hk
  rw [(h.2.1 a (Nat.le_of_ble_eq_true hk.1) (Nat.le_of_ble_eq_true hk.2.1)).1, Nat.eq_of_beq_eq_true hk.2.2]
theorem shl {σ : AH} (h : Sh σ) (a : Nat) {n : Nat} (hk : (Nat.ble 2 a && (Nat.ble a 72 && Nat.beq (shLl.getD a 0) n)) = true) : zL σ a = n := by
  simp only [Bool.and_eq_true] at hk
  rw [(h.2.1 a (Nat.le_of_ble_eq_true hk.1) (Nat.le_of_ble_eq_true hk.2.1)).2, Nat.eq_of_beq_eq_true hk.2.2]
theorem shr {σ : AH} (h : Sh σ) (a k v : Nat) (hm : (a, k, v) ∈ shRl) : zR σ a k = v := h.2.2.1 _ hm
theorem vp_l {σ : AH} {a n : Nat} {i : Int32} (h : zL σ a = n) (hi : vp_in i n) : vp_in i (zL σ a) := by rw [h]; exact hi
theorem Sh_uI {σ : AH} {a k : Nat} {x : Int32} (h : Sh σ) : Sh (uI σ a k x) := h
theorem Sh_uJ {σ : AH} {a k : Nat} {x : Int64} (h : Sh σ) : Sh (uJ σ a k x) := h
theorem Sh_uR {σ : AH} {a k x : Nat} (ha : ∀ q ∈ shRl, q.1 ≠ a) (h : Sh σ) : Sh (uR σ a k x) := ⟨h.1, h.2.1, fun q hq => by
  rw [zR_uR, if_neg (fun e => ha q hq e.1)]; exact h.2.2.1 q hq, h.2.2.2⟩
theorem Sh_uRl {σ : AH} {a k x : Nat} (ha : (shRl.all fun q => !Nat.beq q.1 a) = true) (h : Sh σ) : Sh (uR σ a k x) := Sh_uR (fun q hq e => by
  have h1 := List.all_eq_true.mp ha q hq
  rw [e] at h1
  simp at h1) h
theorem Sh_uRg {σ : AH} {a k x : Nat} (ha : 72 < a) (h : Sh σ) : Sh (uR σ a k x) := Sh_uR (fun q hq e => by
  have h1 : (shRl.all fun q => Nat.ble q.1 72) = true := by decide
  have h2 := Nat.le_of_ble_eq_true (List.all_eq_true.mp h1 q hq)
  omega) h
theorem Sh_nw {σ : AH} {κ n : Nat} (h : Sh σ) : Sh (nw σ κ n) := by
  have h0 := h.1
  refine ⟨by rw [zN_nw]; omega, fun a h1 h2 => ?_, fun q hq => ?_, ?_⟩
  · rw [zK_nw, zL_nw, if_neg (by omega), if_neg (by omega)]; exact h.2.1 a h1 h2
  · have h1 : (shRl.all fun q => Nat.ble q.1 72) = true := by decide
    have h2 := Nat.le_of_ble_eq_true (List.all_eq_true.mp h1 q hq)
    rw [zR_nw, if_neg (by omega)]; exact h.2.2.1 q hq
  · rw [zK_nw, if_neg (by omega)]; exact h.2.2.2
theorem zK_oldN {σ : AH} {κ n a z : Nat} (h : zK σ a = z ∧ a ≤ zN σ) : zK (nw σ κ n) a = z ∧ a ≤ zN (nw σ κ n) := ⟨by rw [zK_nw, if_neg (by omega)]; exact h.1, by rw [zN_nw]; omega⟩
theorem ts_0_5 {x : Int32} (h0 : ¬ x = 0) (h1 : ¬ x = 1) (h2 : ¬ x = 2) (h3 : ¬ x = 3) (h4 : ¬ x = 4) (h5 : ¬ x = 5) : x.toInt < 0 ∨ 5 < x.toInt := by
  have e : ∀ k : Int32, ¬ x = k → ¬ x.toInt = k.toInt := fun k h q => h (Int32.toInt_inj.mp q)
  have a0 := e _ h0; have a1 := e _ h1; have a2 := e _ h2; have a3 := e _ h3; have a4 := e _ h4; have a5 := e _ h5
  change ¬ x.toInt = 0 at a0; change ¬ x.toInt = 1 at a1; change ¬ x.toInt = 2 at a2; change ¬ x.toInt = 3 at a3; change ¬ x.toInt = 4 at a4; change ¬ x.toInt = 5 at a5
  omega
theorem ts_1_4 {x : Int32} (h1 : ¬ x = 1) (h2 : ¬ x = 2) (h3 : ¬ x = 3) (h4 : ¬ x = 4) : x.toInt < 1 ∨ 4 < x.toInt := by
  have e : ∀ k : Int32, ¬ x = k → ¬ x.toInt = k.toInt := fun k h q => h (Int32.toInt_inj.mp q)
  have a1 := e _ h1; have a2 := e _ h2; have a3 := e _ h3; have a4 := e _ h4
  change ¬ x.toInt = 1 at a1; change ¬ x.toInt = 2 at a2; change ¬ x.toInt = 3 at a3; change ¬ x.toInt = 4 at a4
  omega
/-- throw new E("text"), the text by a wide index -/
theorem V_throwW {g : GP} {μ : MI} {CX : State → Array Value → Prop} {k n pc : Nat} {ls : List (Nat × Value)} {st : List Value} {σ : AH} {Q : AH → Option Value → Prop} {X : AH → String → Prop} {ik is ic : Nat} {cls text : String} (tw : TW μ.1.cls ik ic cls) (hstr : (μ.1.cls, is, text) ∈ lw_str) (d0 : decode μ.2.1 pc = .ok (.new ik, 3)) (d3 : decode μ.2.1 (pc + 3) = .ok (.dup, 1)) (d4 : decode μ.2.1 (pc + 4) = .ok (.ldc_w is, 3)) (d6 : decode μ.2.1 (pc + 7) = .ok (.invokespecial ic, 3)) (d9 : decode μ.2.1 (pc + 10) = .ok (.athrow, 1))
    (hh : μ.2.2.2.2.1 = []) (hf : Nat.blt 5 μ.2.2.2.2.2.frames = true) (hlo : Nat.ble ((st.map fun v => v.category).sum + 82) μ.2.2.2.2.2.locals = true) (hk : Nat.ble 1 k = true) (hn : Nat.ble 6 n = true) (hX : X σ cls) : V g μ (Em g μ Q X) CX k n pc ls st σ := by
  intro p e s m args below meth c C H locs cells slots ρ ρ0 n0 lr P
  obtain ⟨t1, t2, t3, t4, t5, t6⟩ := tw
  have hS := mkS C P
  obtain ⟨sa, hsa⟩ := C.2.2.2.2.2.2.2.2.2.1.2.2.2.1 _ hstr
  have hcast := C.2.2.2.2.2.2.2.2.2.1.2.2.2.2.1 _ t2
  have hk := Nat.le_of_ble_eq_true hk
  have hn := Nat.le_of_ble_eq_true hn
  obtain ⟨p1, p2, p3, p4, p5, p6, p7, p8, p9, p10⟩ := id P
  have hempty : ∀ x ∈ c.exceptionTable.toList, covers x (pc + 10) = false := by
    rw [C.2.2.2.2.2.2.2.2.1, hh]
    intro x hx
    cases hx
  refine vx_throwSW (own := μ.1.cls) (text := text) (sa := sa) (names := ["java/lang/RuntimeException", "java/lang/Exception"]) C.1 C.2.1 C.2.2.2.2.2.2.2.2.2.2.2.2.1 C.2.2.2.1 t1 (by decide +kernel) (C.2.2.2.2.1 _ t3) (C.2.2.2.2.1 _ t4) hsa (fun w hw => ?_) t6 (vx_Zq_to C.2.2.2.2.2.2.2.2.2.1.2.2.2.2.2.2.1 C.2.2.2.2.2.2.2.2.2.2.2.1) (vx_Zq_to C.2.2.2.2.2.2.2.2.2.1.2.2.2.2.2.2.2.1 C.2.2.2.2.2.2.2.2.2.2.2.1) hS (p8.1.trans C.2.2.1.symm) d0 d3 d4 d6 d9 hempty (by simpa [Nat.blt_eq] using hf) ?_ (by omega) (by omega) C.2.2.2.2.2.1 ?_ p2 (by omega) (by omega)
  · rcases t5 w hw with h | rfl | h
    · exact C.2.2.2.2.1 _ h
    · exact va_Nw.use rfl hcast
    · obtain ⟨x, hx, rfl⟩ := List.mem_map.mp h
      exact va_Nw.use rfl (C.2.2.2.2.2.2.2.2.2.1.2.2.2.2.2.2.2.2.1 x hx)
  · rw [cats]
    exact Nat.le_of_ble_eq_true hlo
  · intro t hal hsz hold
    refine ⟨ρ, σ, hX, ⟨p1.1.kept fun k q hq => hold q.1 ((p1.1 k q hq).lt), p1.2.1, Nat.le_trans p1.2.2.1 hsz, fun q hq => ?_, p1.2.2.2.2⟩, p6, p7, Nat.le_trans p5 hsz⟩
    rw [hold q (Nat.lt_of_lt_of_le hq p1.2.2.1)]
    exact p1.2.2.2.1 q hq
/-! small words -/
theorem V_cast {g : GP} {μ : MI} {E : ET} {CX : State → Array Value → Prop} {k n pc : Nat} {ls ls' : List (Nat × Value)} {st st' : List Value} {σ σ' : AH} (h1 : ls = ls') (h2 : st = st') (h3 : σ = σ') (kk : V g μ E CX k n pc ls' st' σ') : V g μ E CX k n pc ls st σ := by
  subst h1; subst h2; subst h3; exact kk
theorem cl0 {j : Nat} (h : j < 2 ^ 31) : Int32.toNatClampNeg (nI j) = j := nI_clamp h

