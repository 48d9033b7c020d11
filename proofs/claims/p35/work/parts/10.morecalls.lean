/-! ===== more calls ===== -/
section VD
variable {g : GP} {μ z : MI} {E : ET} {CX : State → Array Value → Prop} {k n k' n' pc : Nat} {ls : List (Nat × Value)} {st as : List Value} {σ : AH} {Q : AH → Option Value → Prop} {X : AH → String → Prop}
/-- a virtual call of a method of the receiver's own class -/
theorem V_callV {idx ci a : Nat} {CC : String} {T : u_T} (hc : Ct g z (.ref a :: as) σ Q) (hm : MW z) (ko : KO ci CC T) (hCC : z.1.cls = CC) (hi : Cond.instanceMethod z.1 ∈ lw_good) (hs : Cond.selects CC z.1 z.1 ∈ lw_good) (hl : Cond.methodLink μ.1.cls idx z.1 ∈ lw_good) (ha : Ar z.1 as.length) (rf : RF μ z k n k' n' st) (hd : decode μ.2.1 pc = .ok (.invokevirtual idx, 3)) (h0 : a ≠ 0) (hK : zK σ a = ci)
    (kk : ∀ σ' rv, Q σ' rv → V g μ E CX k' n' (pc + 3) ls (rv.toList ++ st) σ') : V g μ E CX k n pc ls (as.reverse ++ .ref a :: st) σ := by
  intro p e s m args below meth c C H locs cells slots ρ ρ0 n0 lr P
  obtain ⟨w1, w2⟩ := wv_argsV P.2.2.2.2.2.2.2.2.2
  have r1 := Nat.le_of_ble_eq_true rf.1
  have r2 := Nat.le_of_ble_eq_true rf.2.1
  have r3 := Nat.le_of_ble_eq_true rf.2.2.1
  have r4 := Nat.le_of_ble_eq_true rf.2.2.2.1
  have r5 := Nat.le_of_ble_eq_true rf.2.2.2.2
  have q1 := P.2.2.1
  have q2 := P.2.2.2.1
  have hM := hc ρ
  refine V_ret C P w2 r3 r4 (a := (Value.ref (ρ a) :: as.map (cv ρ)).toArray) (va_runV (C := CC) (b := ρ a) (As := as.map (cv ρ)) ⟨C.1, C.2.1, C.2.2.1, C.2.2.2.1, C.2.2.2.2.1⟩ hM ⟨cw_of C.2.2.2.2.1 hm hl ha r1 r2, C.2.2.2.2.1 _ hi, C.2.2.2.2.1 _ hs⟩ (pv_of C P.1 ko h0 hK w1) rfl (by simp) P.2.2.2.2.2.2.2.1.1 (by simp [F0, cv_ref h0]) ?_ hd ⟨by omega, by omega⟩) kk
  exact lv_room (by rw [cats]; exact r5)
/-- a constructor -/
theorem V_callI {idx a : Nat} (hc : Ct g z (.ref a :: as) σ Q) (hm : MW z) (hr : z.2.2.2.1 = none) (hn : z.1.name = "<init>") (hi : Cond.instanceMethod z.1 ∈ lw_good) (hl : Cond.methodLink μ.1.cls idx z.1 ∈ lw_good) (ha : Ar z.1 as.length) (rf : RF μ z k n k' n' st) (hd : decode μ.2.1 pc = .ok (.invokespecial idx, 3)) (h0 : a ≠ 0)
    (kk : ∀ σ' rv, Q σ' rv → V g μ E CX k' n' (pc + 3) ls (rv.toList ++ st) σ') : V g μ E CX k n pc ls (as.reverse ++ .ref a :: st) σ := by
  intro p e s m args below meth c C H locs cells slots ρ ρ0 n0 lr P
  obtain ⟨w1, w2⟩ := wv_argsV P.2.2.2.2.2.2.2.2.2
  have r1 := Nat.le_of_ble_eq_true rf.1
  have r2 := Nat.le_of_ble_eq_true rf.2.1
  have r3 := Nat.le_of_ble_eq_true rf.2.2.1
  have r4 := Nat.le_of_ble_eq_true rf.2.2.2.1
  have r5 := Nat.le_of_ble_eq_true rf.2.2.2.2
  have q1 := P.2.2.1
  have q2 := P.2.2.2.1
  have hM := hc ρ
  have hp := pe_of C P.1 w1
  rw [List.map_cons, cv_ref h0] at hp
  have hb := cw_of C.2.2.2.2.1 hm hl ha r1 r2
  rw [hr] at hb
  refine V_ret C P w2 r3 r4 (a := (Value.ref (ρ a) :: as.map (cv ρ)).toArray) (va_runI (b := ρ a) (As := as.map (cv ρ)) ⟨C.1, C.2.1, C.2.2.1, C.2.2.2.1, C.2.2.2.2.1⟩ hM ⟨hb, hn, C.2.2.2.2.1 _ hi⟩ hp rfl (by simp) P.2.2.2.2.2.2.2.1.1 (by simp [F0, cv_ref h0]) ?_ hd ⟨by omega, by omega⟩) kk
  exact lv_room (by rw [cats]; exact r5)
/-- a nest mate's private constructor -/
theorem V_callIN {idx a : Nat} {host : String} (hc : Ct g z (.ref a :: as) σ Q) (hm : MW z) (hr : z.2.2.2.1 = none) (hn : z.1.name = "<init>") (hi : Cond.instanceMethod z.1 ∈ lw_good) (hl : (μ.1.cls, idx, z.1, host) ∈ lw_nest) (ha : Ar z.1 as.length) (rf : RF μ z k n k' n' st) (hd : decode μ.2.1 pc = .ok (.invokespecial idx, 3)) (h0 : a ≠ 0)
    (kk : ∀ σ' rv, Q σ' rv → V g μ E CX k' n' (pc + 3) ls (rv.toList ++ st) σ') : V g μ E CX k n pc ls (as.reverse ++ .ref a :: st) σ := by
  intro p e s m args below meth c C H locs cells slots ρ ρ0 n0 lr P
  obtain ⟨w1, w2⟩ := wv_argsV P.2.2.2.2.2.2.2.2.2
  have r1 := Nat.le_of_ble_eq_true rf.1
  have r2 := Nat.le_of_ble_eq_true rf.2.1
  have r3 := Nat.le_of_ble_eq_true rf.2.2.1
  have r4 := Nat.le_of_ble_eq_true rf.2.2.2.1
  have r5 := Nat.le_of_ble_eq_true rf.2.2.2.2
  have q1 := P.2.2.1
  have q2 := P.2.2.2.1
  have hM := hc ρ
  have hp := pe_of C P.1 w1
  rw [List.map_cons, cv_ref h0] at hp
  have hb := cn_of C.2.2.2.2.1 C.2.2.2.2.2.2.2.2.2.1 hm hl ha r1 r2 (args := args)
  rw [hr] at hb
  refine V_ret C P w2 r3 r4 (a := (Value.ref (ρ a) :: as.map (cv ρ)).toArray) (va_runIN (b := ρ a) (As := as.map (cv ρ)) ⟨C.1, C.2.1, C.2.2.1, C.2.2.2.1, C.2.2.2.2.1⟩ hM ⟨hb, hn, C.2.2.2.2.1 _ hi⟩ hp rfl (by simp) P.2.2.2.2.2.2.2.1.1 (by simp [F0, cv_ref h0]) ?_ hd ⟨by omega, by omega⟩) kk
  exact lv_room (by rw [cats]; exact r5)
/-- a nest mate's private static method -/
theorem V_callSN {idx : Nat} {host : String} (hc : Ct g z as σ Q) (hm : MW z) (hs : Cond.static z.1 ∈ lw_good) (hl : (μ.1.cls, idx, z.1, host) ∈ lw_nest) (ha : Ar z.1 as.length) (rf : RF μ z k n k' n' st) (hd : decode μ.2.1 pc = .ok (.invokestatic idx, 3))
    (kk : ∀ σ' rv, Q σ' rv → V g μ E CX k' n' (pc + 3) ls (rv.toList ++ st) σ') : V g μ E CX k n pc ls (as.reverse ++ st) σ := by
  intro p e s m args below meth c C H locs cells slots ρ ρ0 n0 lr P
  obtain ⟨w1, w2⟩ := wv_args P.2.2.2.2.2.2.2.2.2
  have r1 := Nat.le_of_ble_eq_true rf.1
  have r2 := Nat.le_of_ble_eq_true rf.2.1
  have r3 := Nat.le_of_ble_eq_true rf.2.2.1
  have r4 := Nat.le_of_ble_eq_true rf.2.2.2.1
  have r5 := Nat.le_of_ble_eq_true rf.2.2.2.2
  have q1 := P.2.2.1
  have q2 := P.2.2.2.1
  refine V_ret C P w2 r3 r4 (va_runSN (As := as.map (cv ρ)) ⟨C.1, C.2.1, C.2.2.1, C.2.2.2.1, C.2.2.2.2.1⟩ (hc ρ) ⟨cn_of C.2.2.2.2.1 C.2.2.2.2.2.2.2.2.2.1 hm hl ha r1 r2, C.2.2.2.2.1 _ hs, trivial⟩ (pe_of C P.1 w1) rfl (by simp) P.2.2.2.2.2.2.2.1.1 (by simp [F0]) ?_ hd ⟨by omega, by omega⟩) kk
  exact lv_room (by rw [cats]; exact r5)
/-- a static call of a method with handlers -/
def MWh (z : MI) : Prop := Cond.codeWith z.1 z.2.1 z.2.2.1 z.2.2.2.1 z.2.2.2.2.1 ∈ lw_good ∧ Cond.initialized z.1.cls ∈ lw_good
theorem V_callSH {idx : Nat} (hc : CtH g z as σ Q) (hm : MWh z) (hs : Cond.static z.1 ∈ lw_good) (hl : Cond.methodLink μ.1.cls idx z.1 ∈ lw_good) (ha : Ar z.1 as.length) (rf : RF μ z k n k' n' st) (hd : decode μ.2.1 pc = .ok (.invokestatic idx, 3))
    (kk : ∀ σ' rv, Q σ' rv → V g μ E CX k' n' (pc + 3) ls (rv.toList ++ st) σ') : V g μ E CX k n pc ls (as.reverse ++ st) σ := by
  intro p e s m args below meth c C H locs cells slots ρ ρ0 n0 lr P
  obtain ⟨w1, w2⟩ := wv_args P.2.2.2.2.2.2.2.2.2
  have r1 := Nat.le_of_ble_eq_true rf.1
  have r2 := Nat.le_of_ble_eq_true rf.2.1
  have r3 := Nat.le_of_ble_eq_true rf.2.2.1
  have r4 := Nat.le_of_ble_eq_true rf.2.2.2.1
  have r5 := Nat.le_of_ble_eq_true rf.2.2.2.2
  have q1 := P.2.2.1
  have q2 := P.2.2.2.1
  have hG : GoodIn lw_good (va_wsS μ.1.cls idx z.1 (wsh z)) := lw_goodIn _ fun w hw => by
    rcases List.mem_append.mp hw with hw | hw
    · simp only [List.mem_cons, List.not_mem_nil, or_false] at hw
      rcases hw with rfl | rfl | rfl
      · exact hl
      · exact hs
      · exact hm.2
    · rcases List.mem_cons.mp hw with rfl | hw
      · exact hm.1
      · exact hw
  refine V_ret C P w2 r3 r4 (vx_runSW (As := as.map (cv ρ)) ⟨C.1, C.2.1, C.2.2.1, C.2.2.2.1, C.2.2.2.2.1⟩ (hc ρ) (vx_cwSW as.length C.2.2.2.2.1 hG rfl rfl rfl ⟨ha.1.1, ha.1.2, ha.2⟩ ⟨r1, r2⟩) (pe_of C P.1 w1) rfl (by simp) P.2.2.2.2.2.2.2.1.1 (by simp [F0]) ?_ hd ⟨by omega, by omega⟩) kk
  exact lv_room (by rw [cats]; exact r5)
/-- Math.max, Math.min of ints, Math.max of longs -/
theorem V_max {idx : Nat} {x y : Int32} (hl : Cond.methodLink μ.1.cls idx Lib.Math.max.name ∈ lw_good) (hs : Cond.static Lib.Math.max.name ∈ lw_good) (hi : Cond.initialized "java/lang/Math" ∈ lw_good) (hc : Cond.code Lib.Math.max.name Lib.Math.max.code 2 (some .int) ∈ lw_good) (hd : decode μ.2.1 pc = .ok (.invokestatic idx, 3)) (hf : Nat.ble 1 μ.2.2.2.2.2.frames = true) (hlo : Nat.ble ((st.map fun v => v.category).sum + 13) μ.2.2.2.2.2.locals = true)
    (kk : V g μ E CX k n (pc + 3) ls (.int (if x < y then y else x) :: st) σ) : V g μ E CX k n pc ls (.int y :: .int x :: st) σ :=
  V_step (fun _ _ h => wv_cons wv_i (wv_tail2 h)) (fun p e s m args below meth c C H locs cells slots ρ lr Q hCn hlr hst hr k => va_mmax C.1 C.2.1 (C.2.2.1.trans hlr.1.symm) C.2.2.2.1 (C.2.2.2.2.1 _ hl) (C.2.2.2.2.1 _ hs) (C.2.2.2.2.1 _ hi) (C.2.2.2.2.1 _ hc) (Nat.le_of_ble_eq_true hf) (by rw [cats]; exact Nat.le_of_ble_eq_true hlo) hr.1 hr.2 hd k) kk
theorem V_min {idx : Nat} {x y : Int32} (hl : Cond.methodLink μ.1.cls idx Lib.Math.min.name ∈ lw_good) (hs : Cond.static Lib.Math.min.name ∈ lw_good) (hi : Cond.initialized "java/lang/Math" ∈ lw_good) (hc : Cond.code Lib.Math.min.name Lib.Math.min.code 2 (some .int) ∈ lw_good) (hd : decode μ.2.1 pc = .ok (.invokestatic idx, 3)) (hf : Nat.ble 1 μ.2.2.2.2.2.frames = true) (hlo : Nat.ble ((st.map fun v => v.category).sum + 13) μ.2.2.2.2.2.locals = true)
    (kk : V g μ E CX k n (pc + 3) ls (.int (if y < x then y else x) :: st) σ) : V g μ E CX k n pc ls (.int y :: .int x :: st) σ :=
  V_step (fun _ _ h => wv_cons wv_i (wv_tail2 h)) (fun p e s m args below meth c C H locs cells slots ρ lr Q hCn hlr hst hr k => va_mmin C.1 C.2.1 (C.2.2.1.trans hlr.1.symm) C.2.2.2.1 (C.2.2.2.2.1 _ hl) (C.2.2.2.2.1 _ hs) (C.2.2.2.2.1 _ hi) (C.2.2.2.2.1 _ hc) (Nat.le_of_ble_eq_true hf) (by rw [cats]; exact Nat.le_of_ble_eq_true hlo) hr.1 hr.2 hd k) kk
theorem V_maxl {idx : Nat} {x y : Int64} (hl : Cond.methodLink μ.1.cls idx Lib.MathLoose.max_long.x ∈ lw_good) (hs : Cond.static Lib.MathLoose.max_long.x ∈ lw_good) (hi : Cond.initialized "java/lang/Math" ∈ lw_good) (hc : Cond.code Lib.MathLoose.max_long.x Lib.MathLoose.max_long.code 4 (some .long) ∈ lw_good) (hd : decode μ.2.1 pc = .ok (.invokestatic idx, 3)) (hf : Nat.ble 1 μ.2.2.2.2.2.frames = true) (hlo : Nat.ble ((st.map fun v => v.category).sum + 15) μ.2.2.2.2.2.locals = true)
    (kk : V g μ E CX k n (pc + 3) ls (.long (if y < x then x else y) :: st) σ) : V g μ E CX k n pc ls (.long y :: .long x :: st) σ :=
  V_step (fun _ _ h => wv_cons wv_l (wv_tail2 h)) (fun p e s m args below meth c C H locs cells slots ρ lr Q hCn hlr hst hr k => va_mmax_long C.1 C.2.1 (C.2.2.1.trans hlr.1.symm) C.2.2.2.1 (C.2.2.2.2.1 _ hl) (C.2.2.2.2.1 _ hs) (C.2.2.2.2.1 _ hi) (C.2.2.2.2.1 _ hc) (Nat.le_of_ble_eq_true hf) (by rw [cats]; exact Nat.le_of_ble_eq_true hlo) hr.1 hr.2 hd k) kk
/-! ===== throw new E("text") ===== -/
/-- the words of a throw -/
def TW (own : String) (ik ic : Nat) (cls : String) : Prop := Bundle.fit cls = true ∧ cls ∈ lw_ex ∧ Cond.classLink own ik cls ∈ lw_good ∧ Cond.initialized cls ∈ lw_good ∧ (∀ w ∈ vx_atS own ic cls ["java/lang/RuntimeException", "java/lang/Exception"], w ∈ lw_good ∨ w = .castable cls cls ∨ w ∈ lw_decl.map Cond.declares) ∧ (∀ w ∈ Cond.classLink own ik cls :: Cond.initialized cls :: vx_atS own ic cls ["java/lang/RuntimeException", "java/lang/Exception"], vx_ot w = true)
theorem vx_Zq_to {g : GP} {C n d : String} {s : State} (h : vx_Zq C n d (bs g.2.2.2.1) s g.2.2.2.1) (hq : ∀ q : Nat, q < g.2.2.2.1.size → s.heap[q]? = g.2.2.2.1[q]?) : vx_Zq C n d (bs g.2.2.2.1) s s.heap :=
  vx_Zq.kept h fun a ha _ => hq a ha
theorem V_throw {ik is ic : Nat} {cls text : String} (tw : TW μ.1.cls ik ic cls) (hstr : (μ.1.cls, is, text) ∈ lw_str) (d0 : decode μ.2.1 pc = .ok (.new ik, 3)) (d3 : decode μ.2.1 (pc + 3) = .ok (.dup, 1)) (d4 : decode μ.2.1 (pc + 4) = .ok (.ldc is, 2)) (d6 : decode μ.2.1 (pc + 6) = .ok (.invokespecial ic, 3)) (d9 : decode μ.2.1 (pc + 9) = .ok (.athrow, 1))
    (hh : μ.2.2.2.2.1 = []) (hf : Nat.blt 5 μ.2.2.2.2.2.frames = true) (hlo : Nat.ble ((st.map fun v => v.category).sum + 82) μ.2.2.2.2.2.locals = true) (hk : Nat.ble 1 k = true) (hn : Nat.ble 6 n = true) (hX : X σ cls) : V g μ (Em g μ Q X) CX k n pc ls st σ := by
  intro p e s m args below meth c C H locs cells slots ρ ρ0 n0 lr P
  obtain ⟨t1, t2, t3, t4, t5, t6⟩ := tw
  have hS := mkS C P
  obtain ⟨sa, hsa⟩ := C.2.2.2.2.2.2.2.2.2.1.2.2.2.1 _ hstr
  have hcast := C.2.2.2.2.2.2.2.2.2.1.2.2.2.2.1 _ t2
  have hk := Nat.le_of_ble_eq_true hk
  have hn := Nat.le_of_ble_eq_true hn
  obtain ⟨p1, p2, p3, p4, p5, p6, p7, p8, p9, p10⟩ := id P
  have hempty : ∀ x ∈ c.exceptionTable.toList, covers x (pc + 9) = false := by
    rw [C.2.2.2.2.2.2.2.2.1, hh]
    intro x hx
    cases hx
  refine vx_throwS (own := μ.1.cls) (text := text) (sa := sa) (names := ["java/lang/RuntimeException", "java/lang/Exception"]) C.1 C.2.1 C.2.2.2.2.2.2.2.2.2.2.2.2.1 C.2.2.2.1 t1 (by decide +kernel) (C.2.2.2.2.1 _ t3) (C.2.2.2.2.1 _ t4) hsa (fun w hw => ?_) t6 (vx_Zq_to C.2.2.2.2.2.2.2.2.2.1.2.2.2.2.2.2.1 C.2.2.2.2.2.2.2.2.2.2.2.1) (vx_Zq_to C.2.2.2.2.2.2.2.2.2.1.2.2.2.2.2.2.2.1 C.2.2.2.2.2.2.2.2.2.2.2.1) hS (p8.1.trans C.2.2.1.symm) d0 d3 d4 d6 d9 hempty (by simpa [Nat.blt_eq] using hf) ?_ (by omega) (by omega) C.2.2.2.2.2.1 ?_ p2 (by omega) (by omega)
  · rcases t5 w hw with h | rfl | h
    · exact C.2.2.2.2.1 _ h
    · exact va_Nw.use rfl hcast
    · obtain ⟨x, hx, rfl⟩ := List.mem_map.mp h
      exact va_Nw.use rfl (C.2.2.2.2.2.2.2.2.2.1.2.2.2.2.2.2.2.2.1 x hx)
  · rw [cats]
    exact Nat.le_of_ble_eq_true hlo
  · intro t hal hsz hold
    refine ⟨ρ, σ, hX, ⟨p1.1.kept fun k q hq => hold q.1 ((p1.1 k q hq).lt), p1.2.1, Nat.le_trans p1.2.2.1 hsz, fun q hq => ?_, p1.2.2.2.2⟩, p6, p7, Nat.le_trans p5 hsz⟩
    rw [hold q (Nat.lt_of_lt_of_le hq p1.2.2.1)]
    exact p1.2.2.2.1 q hq
end VD
