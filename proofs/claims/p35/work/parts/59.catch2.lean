/-! ===== a call that may throw, caught here; the handler: store it, answer a number ===== -/
section VE
variable {g : GP} {μ z : MI} {E : ET} {CX : State → Array Value → Prop} {k n k' n' pc : Nat} {ls : List (Nat × Value)} {st as : List Value} {σ : AH} {Q Q0 : AH → Option Value → Prop} {X : AH → String → Prop}
/-- the handler at h: it stores what was thrown, and answers r -/
def HD (μ : MI) (h : Nat) (r : Int32) : Prop :=
  (∃ (q : Fin 4) (i : Nat), decode μ.2.1 h = .ok (.astore_n q, 1) ∧ (q : Nat) < μ.2.2.1 ∧ decode μ.2.1 (h + 1) = .ok (.ldc i, 2) ∧ Cond.constant μ.1.cls i r ∈ lw_good ∧ decode μ.2.1 (h + 1 + 2) = .ok (.ireturn, 1)) ∨
  (∃ (j i : Nat), decode μ.2.1 h = .ok (.astore j, 2) ∧ j < μ.2.2.1 ∧ decode μ.2.1 (h + 2) = .ok (.ldc i, 2) ∧ Cond.constant μ.1.cls i r ∈ lw_good ∧ decode μ.2.1 (h + 2 + 2) = .ok (.ireturn, 1))
def HDl (μ : MI) (h : Nat) (r : Int64) : Prop :=
  (∃ (q : Fin 4) (i : Nat), decode μ.2.1 h = .ok (.astore_n q, 1) ∧ (q : Nat) < μ.2.2.1 ∧ decode μ.2.1 (h + 1) = .ok (.ldc2_w i, 3) ∧ Cond.constantLong μ.1.cls i r ∈ lw_good ∧ decode μ.2.1 (h + 1 + 3) = .ok (.lreturn, 1))
/-- what is thrown as Ex at pc comes to the handler that answers r -/
def HY (μ : MI) (pc : Nat) (Ex : String) (r : Int32) : Prop :=
  ∃ (pre : List ExceptionTableEntry) (x : ExceptionTableEntry) (suf : List ExceptionTableEntry), tableOf μ.2.2.2.2.1 = pre ++ x :: suf ∧ (∀ y ∈ pre, covers y pc = false ∨ (y.catchType ≠ 0 ∧ ∃ nm : String, Cond.classLink μ.1.cls y.catchType nm ∈ lw_good ∧ nm ∈ lw_ex ∧ Ex ≠ nm)) ∧ covers x pc = true ∧ x.catchType ≠ 0 ∧ Cond.classLink μ.1.cls x.catchType Ex ∈ lw_good ∧ Ex ∈ lw_ex ∧ HD μ x.handlerPc r
theorem hd_run {p : Program} {e : Env} {s : State} {m : MethodId} {args : Array Value} {below : List Frame} {meth : Method} {c : Code} (C : Cx g μ CX p s m args meth c) {H : Heap} {locs : List Loc} {cells slots : Nat} {ρ ρ0 : Nat → Nat} {n0 : Nat} {lr : Array Slot} (P : Pt1 g μ s k n ls st σ H locs cells slots ρ ρ0 n0 lr) {h : Nat} {r : Int32} (hh : HD μ h r) (hr : μ.2.2.2.1 = some .int) (hQ : Q0 σ (some (.int r))) {q : Addr} :
    W p g.1 e μ.2.2.2.2.2 s m args below meth c H locs cells slots (Em g μ Q0 X below args s ρ0 n0) (F0 m h lr [.ref q]) := by
  have fin : ∀ (pc : Nat) (lr' : Array Slot), decode μ.2.1 pc = .ok (.ireturn, 1) → W p g.1 e μ.2.2.2.2.2 s m args below meth c H locs cells slots (Em g μ Q0 X below args s ρ0 n0) (F0 m pc lr' [.int r]) := fun pc lr' hd => by
    refine W.widen (k := μ.2.2.2.2.2.cells) (n := μ.2.2.2.2.2.slots) (by have := P.2.2.1; omega) (by have := P.2.2.2.1; omega) (vx_ret ?_)
    exact W.iret C.1 C.2.1 (C.2.2.2.2.2.2.1.trans hr) (fun t ht _ => Pt_Qe P (rv := some (.int r)) (fun v hv => by cases hv; trivial) hQ args t ht) P.2.1 hd C.2.2.2.2.2.1
  rcases hh with ⟨i, w, h1, h2, h3, h4, h5⟩ | ⟨i, w, h1, h2, h3, h4, h5⟩
  · exact la_astore_n C.1 C.2.1 rfl rfl h1 P.2.2.2.2.2.2.2.1 h2 fun lr' _ => lv_ldc C.1 C.2.1 C.2.2.2.1 (C.2.2.2.2.1 _ h4) h3 (fin _ lr' h5)
  · exact la_astore C.1 C.2.1 rfl rfl h1 P.2.2.2.2.2.2.2.1 h2 fun lr' _ => lv_ldc C.1 C.2.1 C.2.2.2.1 (C.2.2.2.2.1 _ h4) h3 (fin _ lr' h5)
theorem V_callVY {idx ci a : Nat} {CC : String} {T : u_T} (hc : CtX g z (.ref a :: as) σ Q X) (hm : MW z) (ko : KO ci CC T) (hCC : z.1.cls = CC) (hi : Cond.instanceMethod z.1 ∈ lw_good) (hs : Cond.selects CC z.1 z.1 ∈ lw_good) (hl : Cond.methodLink μ.1.cls idx z.1 ∈ lw_good) (ha : Ar z.1 as.length) (rf : RF μ z k n k' n' st) (hd : decode μ.2.1 pc = .ok (.invokevirtual idx, 3)) (h0 : a ≠ 0) (hK : zK σ a = ci) (hr : μ.2.2.2.1 = some .int)
    (kk : ∀ σ' rv, Q σ' rv → V g μ (Em g μ Q0 NX) CX k' n' (pc + 3) ls (rv.toList ++ st) σ') (kx : ∀ σ' Ex, X σ' Ex → ∃ r, HY μ pc Ex r ∧ Q0 σ' (some (.int r))) : V g μ (Em g μ Q0 NX) CX k n pc ls (as.reverse ++ .ref a :: st) σ := by
  intro p e s m args below meth c C H locs cells slots ρ ρ0 n0 lr P
  obtain ⟨w1, w2⟩ := wv_argsV P.2.2.2.2.2.2.2.2.2
  have r1 := Nat.le_of_ble_eq_true rf.1
  have r2 := Nat.le_of_ble_eq_true rf.2.1
  have r3 := Nat.le_of_ble_eq_true rf.2.2.1
  have r4 := Nat.le_of_ble_eq_true rf.2.2.2.1
  have r5 := Nat.le_of_ble_eq_true rf.2.2.2.2
  have q1 := P.2.2.1
  have q2 := P.2.2.2.1
  have hM := hc ρ
  refine V_retX C P w2 r3 r4 (a := (Value.ref (ρ a) :: as.map (cv ρ)).toArray) (vx_runV (C := CC) (b := ρ a) (As := as.map (cv ρ)) ⟨C.1, C.2.1, C.2.2.1, C.2.2.2.1, C.2.2.2.2.1⟩ hM ⟨cw_of C.2.2.2.2.1 hm hl ha r1 r2, C.2.2.2.2.1 _ hi, C.2.2.2.2.1 _ hs⟩ (pv_of C P.1 ko h0 hK w1) rfl (by simp) P.2.2.2.2.2.2.2.1.1 (by simp [F0, cv_ref h0]) (lv_room (by rw [cats]; exact r5)) hd ⟨by omega, by omega⟩) kk ?_
  intro σ' Ex q ce H1 locs1 ρ' hX P' hce hcv hcl
  obtain ⟨r, ⟨pre, x, suf, e1, e2, e3, e4, e5, e6, e7⟩, hQ⟩ := kx σ' Ex hX
  refine vx_catch C.2.2.2.1 pre x suf (C.2.2.2.2.2.2.2.2.1.trans e1) (fun y hy => ?_) e3 e4 (C.2.2.2.2.1 _ e5) (va_Nw.use rfl (C.2.2.2.2.2.2.2.2.2.1.2.2.2.2.1 _ e6)) hce hcv hcl (hd_run C P' e7 hr hQ)
  rcases e2 y hy with h | ⟨h1, nm, h2, h3, h4⟩
  · exact Or.inl h
  · exact Or.inr ⟨h1, nm, C.2.2.2.2.1 _ h2, C.2.2.2.2.2.2.2.2.2.1.2.2.2.2.2.1 _ e6 _ h3 h4⟩
/-- what is thrown as Ex at pc comes to the handler that answers r -/
def HYl (μ : MI) (pc : Nat) (Ex : String) (r : Int64) : Prop :=
  ∃ (pre : List ExceptionTableEntry) (x : ExceptionTableEntry) (suf : List ExceptionTableEntry), tableOf μ.2.2.2.2.1 = pre ++ x :: suf ∧ (∀ y ∈ pre, covers y pc = false ∨ (y.catchType ≠ 0 ∧ ∃ nm : String, Cond.classLink μ.1.cls y.catchType nm ∈ lw_good ∧ nm ∈ lw_ex ∧ Ex ≠ nm)) ∧ covers x pc = true ∧ x.catchType ≠ 0 ∧ Cond.classLink μ.1.cls x.catchType Ex ∈ lw_good ∧ Ex ∈ lw_ex ∧ HDl μ x.handlerPc r
theorem hd_runl {p : Program} {e : Env} {s : State} {m : MethodId} {args : Array Value} {below : List Frame} {meth : Method} {c : Code} (C : Cx g μ CX p s m args meth c) {H : Heap} {locs : List Loc} {cells slots : Nat} {ρ ρ0 : Nat → Nat} {n0 : Nat} {lr : Array Slot} (P : Pt1 g μ s k n ls st σ H locs cells slots ρ ρ0 n0 lr) {h : Nat} {r : Int64} (hh : HDl μ h r) (hr : μ.2.2.2.1 = some .long) (hQ : Q0 σ (some (.long r))) {q : Addr} :
    W p g.1 e μ.2.2.2.2.2 s m args below meth c H locs cells slots (Em g μ Q0 X below args s ρ0 n0) (F0 m h lr [.ref q]) := by
  have fin : ∀ (pc : Nat) (lr' : Array Slot), decode μ.2.1 pc = .ok (.lreturn, 1) → W p g.1 e μ.2.2.2.2.2 s m args below meth c H locs cells slots (Em g μ Q0 X below args s ρ0 n0) (F0 m pc lr' [.long r]) := fun pc lr' hd => by
    refine W.widen (k := μ.2.2.2.2.2.cells) (n := μ.2.2.2.2.2.slots) (by have := P.2.2.1; omega) (by have := P.2.2.2.1; omega) (vx_ret ?_)
    exact W.lret C.1 C.2.1 (C.2.2.2.2.2.2.1.trans hr) (fun t ht _ => Pt_Qe P (rv := some (.long r)) (fun v hv => by cases hv; trivial) hQ args t ht) P.2.1 hd C.2.2.2.2.2.1
  obtain ⟨i, w, h1, h2, h3, h4, h5⟩ := hh
  exact la_astore_n C.1 C.2.1 rfl rfl h1 P.2.2.2.2.2.2.2.1 h2 fun lr' _ => lv_ldc2 C.1 C.2.1 C.2.2.2.1 (C.2.2.2.2.1 _ h4) h3 (fin _ lr' h5)
theorem V_callVYl {idx ci a : Nat} {CC : String} {T : u_T} (hc : CtX g z (.ref a :: as) σ Q X) (hm : MW z) (ko : KO ci CC T) (hCC : z.1.cls = CC) (hi : Cond.instanceMethod z.1 ∈ lw_good) (hs : Cond.selects CC z.1 z.1 ∈ lw_good) (hl : Cond.methodLink μ.1.cls idx z.1 ∈ lw_good) (ha : Ar z.1 as.length) (rf : RF μ z k n k' n' st) (hd : decode μ.2.1 pc = .ok (.invokevirtual idx, 3)) (h0 : a ≠ 0) (hK : zK σ a = ci) (hr : μ.2.2.2.1 = some .long)
    (kk : ∀ σ' rv, Q σ' rv → V g μ (Em g μ Q0 NX) CX k' n' (pc + 3) ls (rv.toList ++ st) σ') (kx : ∀ σ' Ex, X σ' Ex → ∃ r, HYl μ pc Ex r ∧ Q0 σ' (some (.long r))) : V g μ (Em g μ Q0 NX) CX k n pc ls (as.reverse ++ .ref a :: st) σ := by
  intro p e s m args below meth c C H locs cells slots ρ ρ0 n0 lr P
  obtain ⟨w1, w2⟩ := wv_argsV P.2.2.2.2.2.2.2.2.2
  have r1 := Nat.le_of_ble_eq_true rf.1
  have r2 := Nat.le_of_ble_eq_true rf.2.1
  have r3 := Nat.le_of_ble_eq_true rf.2.2.1
  have r4 := Nat.le_of_ble_eq_true rf.2.2.2.1
  have r5 := Nat.le_of_ble_eq_true rf.2.2.2.2
  have q1 := P.2.2.1
  have q2 := P.2.2.2.1
  have hM := hc ρ
  refine V_retX C P w2 r3 r4 (a := (Value.ref (ρ a) :: as.map (cv ρ)).toArray) (vx_runV (C := CC) (b := ρ a) (As := as.map (cv ρ)) ⟨C.1, C.2.1, C.2.2.1, C.2.2.2.1, C.2.2.2.2.1⟩ hM ⟨cw_of C.2.2.2.2.1 hm hl ha r1 r2, C.2.2.2.2.1 _ hi, C.2.2.2.2.1 _ hs⟩ (pv_of C P.1 ko h0 hK w1) rfl (by simp) P.2.2.2.2.2.2.2.1.1 (by simp [F0, cv_ref h0]) (lv_room (by rw [cats]; exact r5)) hd ⟨by omega, by omega⟩) kk ?_
  intro σ' Ex q ce H1 locs1 ρ' hX P' hce hcv hcl
  obtain ⟨r, ⟨pre, x, suf, e1, e2, e3, e4, e5, e6, e7⟩, hQ⟩ := kx σ' Ex hX
  refine vx_catch C.2.2.2.1 pre x suf (C.2.2.2.2.2.2.2.2.1.trans e1) (fun y hy => ?_) e3 e4 (C.2.2.2.2.1 _ e5) (va_Nw.use rfl (C.2.2.2.2.2.2.2.2.2.1.2.2.2.2.1 _ e6)) hce hcv hcl (hd_runl C P' e7 hr hQ)
  rcases e2 y hy with h | ⟨h1, nm, h2, h3, h4⟩
  · exact Or.inl h
  · exact Or.inr ⟨h1, nm, C.2.2.2.2.1 _ h2, C.2.2.2.2.2.2.2.2.2.1.2.2.2.2.2.1 _ e6 _ h3 h4⟩
end VE
