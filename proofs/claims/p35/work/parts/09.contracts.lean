/-! ===== contracts of methods ===== -/
def wsy (μ : MI) : List Cond := .code μ.1 μ.2.1 μ.2.2.1 μ.2.2.2.1 :: lw_good
def wsh (μ : MI) : List Cond := .codeWith μ.1 μ.2.1 μ.2.2.1 μ.2.2.2.1 μ.2.2.2.2.1 :: lw_good
def Pe (g : GP) (ρ : Nat → Nat) (as : List Value) (σ : AH) : Array Value → State → Prop := va_Pc (as.map (cv ρ)) (fun U => Cn g ρ σ U.heap ∧ Amb g U ∧ (∀ v ∈ as, wv (zN σ) v) ∧ g.1.stackTraces = false)
/-- it returns with Q -/
def Ct (g : GP) (μ : MI) (as : List Value) (σ : AH) (Q : AH → Option Value → Prop) : Prop := ∀ ρ, Met g.1 μ.1 (wsy μ) μ.2.2.2.2.2 (Pe g ρ as σ) (Qe g ρ (zN σ) Q) μ.2.2.2.2.2.cells μ.2.2.2.2.2.slots (bs g.2.2.2.1)
/-- it returns with Q or throws with X -/
def CtX (g : GP) (μ : MI) (as : List Value) (σ : AH) (Q : AH → Option Value → Prop) (X : AH → String → Prop) : Prop := ∀ ρ, vx_Met g.1 μ.1 (wsy μ) μ.2.2.2.2.2 (Pe g ρ as σ) (Qe g ρ (zN σ) Q) (Xe g ρ (zN σ) X) μ.2.2.2.2.2.cells μ.2.2.2.2.2.slots (bs g.2.2.2.1)
/-- the same, of a method with handlers -/
def CtH (g : GP) (μ : MI) (as : List Value) (σ : AH) (Q : AH → Option Value → Prop) : Prop := ∀ ρ, Met g.1 μ.1 (wsh μ) μ.2.2.2.2.2 (Pe g ρ as σ) (Qe g ρ (zN σ) Q) μ.2.2.2.2.2.cells μ.2.2.2.2.2.slots (bs g.2.2.2.1)
def NX : AH → String → Prop := fun _ _ => False
theorem Pe_blind (g : GP) (ρ : Nat → Nat) (as : List Value) (σ : AH) : FrameBlind (Pe g ρ as σ) := fun a U g' mk ⟨h1, h2, h3, h4⟩ => ⟨h1, h2, Amb.warm (s := U) (State.WarmedH.refl U) h3, h4⟩
theorem W.mono {p : Program} {l : Launch} {e : Env} {R : Room} {s : State} {m : MethodId} {args : Array Value} {below : List Frame} {meth : Method} {c : Code} {H : Heap} {locs : List Loc} {cells slots : Nat} {Q Q' : State → Prop} {f : JFrame} (h : ∀ t, Q t → Q' t) (k : W p l e R s m args below meth c H locs cells slots Q f) : W p l e R s m args below meth c H locs cells slots Q' f := fun T hT X => by
  obtain ⟨t, a, b⟩ := k T hT X
  exact ⟨t, a, h t b⟩
theorem Em_NX {g : GP} {μ : MI} {Q : AH → Option Value → Prop} {below : List Frame} {args : Array Value} {s : State} {ρ0 : Nat → Nat} {n0 : Nat} : ∀ t, Em g μ Q NX below args s ρ0 n0 t → MQ below (Qe g ρ0 n0 Q) args s μ.2.2.2.2.2.cells μ.2.2.2.2.2.slots (bs g.2.2.2.1) t := fun t ⟨o, h1, h2, h3⟩ => by
  rcases h3 with ⟨h3, h4⟩ | ⟨q, h3, E, ce, L, ⟨ρ, σ, hX, _⟩, _⟩
  · exact ⟨o, h1, h2, h3, h4⟩
  · exact hX.elim
/-- what is decided of a method by its numbers -/
def MOk (μ : MI) : Prop := plainName μ.1.cls = true ∧ (Nat.ble (lg_sl (List.replicate 0 Value.null)).length 0 = true)
theorem lg_sl_cv (ρ : Nat → Nat) (as : List Value) : (lg_sl (as.map (cv ρ))).length = (lg_sl as).length := by
  unfold lg_sl
  rw [List.length_flatMap, List.length_flatMap, List.map_map]
  refine congrArg _ (List.map_congr_left fun v _ => ?_)
  simp only [Function.comp, cv_cat]
  split <;> rfl
theorem lv_args_cv (ρ : Nat → Nat) : ∀ (as : List Value) (i : Nat), lv_args i (as.map (cv ρ)) = lcv ρ (lv_args i as)
  | [], _ => rfl
  | v :: t, i => by
    simp only [List.map_cons, lv_args, cv_cat, lcv]
    rw [lv_args_cv ρ t]
    rfl
theorem lv_args_wv {N : Nat} : ∀ (as : List Value) (i : Nat), (∀ v ∈ as, wv N v) → ∀ q ∈ lv_args i as, wv N q.2
  | [], _, _, q, h => by cases h
  | v :: t, i, h, q, hq => by
    rcases List.mem_cons.mp hq with rfl | hq
    · exact h v List.mem_cons_self
    · exact lv_args_wv t _ (fun x hx => h x (List.mem_cons_of_mem _ hx)) q hq
/-- from a method's entry -/
theorem V_enter {g : GP} {μ : MI} {E : ET} {as : List Value} {σ : AH} (hlen : Nat.ble (lg_sl as).length μ.2.2.1 = true)
    (kk : V g μ E CT μ.2.2.2.2.2.cells μ.2.2.2.2.2.slots 0 (lv_args 0 as) [] σ) {p : Program} {e : Env} {s : State} {m : MethodId} {args : Array Value} {below : List Frame} {meth : Method} {c : Code} {ρ : Nat → Nat}
    (C : Cx g μ CT p s m args meth c) (hP : Cn g ρ σ s.heap) (ha : args = (as.map (cv ρ)).toArray) (hw : ∀ v ∈ as, wv (zN σ) v) :
    W p g.1 e μ.2.2.2.2.2 s m args below meth c s.heap [] 0 0 (E below args s ρ (zN σ)) (entryFrame m args μ.2.2.1) := by
  have hl := lv_entry (as.map (cv ρ)) (n := μ.2.2.1) (by rw [lg_sl_cv]; exact Nat.le_of_ble_eq_true hlen)
  rw [ha, lg_entry_eq, ← ha]
  generalize (lg_sl (as.map (cv ρ)) ++ List.replicate (μ.2.2.1 - (lg_sl (as.map (cv ρ))).length) Slot.unset).toArray = lr at hl ⊢
  rw [lv_args_cv] at hl
  exact kk p e s m args below meth c C s.heap [] 0 0 ρ ρ (zN σ) lr ⟨hP, fun _ h => (by cases h), by omega, by omega, Nat.le_refl _, fun _ _ _ => rfl, Nat.le_refl _, hl, lv_args_wv as 0 hw, fun _ h => (by cases h)⟩
theorem CtX_of {g : GP} {μ : MI} {as : List Value} {σ : AH} {Q : AH → Option Value → Prop} {X : AH → String → Prop} (hy : plainName μ.1.cls = true) (hh : μ.2.2.2.2.1 = []) (hlen : Nat.ble (lg_sl as).length μ.2.2.1 = true)
    (kk : V g μ (Em g μ Q X) CT μ.2.2.2.2.2.cells μ.2.2.2.2.2.slots 0 (lv_args 0 as) [] σ) : CtX g μ as σ Q X := by
  intro ρ
  refine vx_ofW (cc := μ.2.1) (maxL := μ.2.2.1) (ret := μ.2.2.2.1) hy rfl ?_
  intro p e s m args below meth c s₁ B hml ht hv
  obtain ⟨ha, hP, hA, hw, hst⟩ := hv
  have hts := atoms_spec (ws := wsy μ) B.pre
  exact V_enter (E := Em g μ Q X) hlen kk ⟨B.exec, B.bytes, hml, findClass_of_methodNamed B.named, fun w hw => hts w (List.mem_cons_of_mem _ hw), B.notSynchronized, B.returns, (name_of_methodNamed B.named B.method).1, by
    rw [hh]
    cases h9 : c.exceptionTable.toList with
    | nil => rfl
    | cons x t => exact (ht x (by rw [h9]; exact List.mem_cons_self)).elim, hA, hP.2.2.1, hP.2.2.2.1, hst, trivial⟩ hP ha hw
theorem Ct_of {g : GP} {μ : MI} {as : List Value} {σ : AH} {Q : AH → Option Value → Prop} (hy : plainName μ.1.cls = true) (hh : μ.2.2.2.2.1 = []) (hlen : Nat.ble (lg_sl as).length μ.2.2.1 = true)
    (kk : V g μ (Em g μ Q NX) CT μ.2.2.2.2.2.cells μ.2.2.2.2.2.slots 0 (lv_args 0 as) [] σ) : Ct g μ as σ Q := by
  intro ρ
  refine Met.ofW (cc := μ.2.1) (maxL := μ.2.2.1) (ret := μ.2.2.2.1) hy rfl ?_
  intro p e s m args below meth c s₁ B hml hv
  obtain ⟨ha, hP, hA, hw, hst⟩ := hv
  have hts := atoms_spec (ws := wsy μ) B.pre
  refine W.mono Em_NX (V_enter (E := Em g μ Q NX) hlen kk ⟨B.exec, B.bytes, hml, findClass_of_methodNamed B.named, fun w hw => hts w (List.mem_cons_of_mem _ hw), B.notSynchronized, B.returns, (name_of_methodNamed B.named B.method).1, ?_, hA, hP.2.2.1, hP.2.2.2.1, hst, trivial⟩ hP ha hw)
  rw [hh]
  obtain ⟨meth9, c9, h1, h2, -, -, -, -, h7, -⟩ := Cond.code_spec B.named (hts _ List.mem_cons_self)
  cases Option.some.inj (h1.symm.trans B.method)
  cases Option.some.inj (h2.symm.trans (Stand.of_body B).code)
  rw [Array.isEmpty_iff.mp h7]
  rfl
theorem CtH_of {g : GP} {μ : MI} {as : List Value} {σ : AH} {Q : AH → Option Value → Prop} (hy : plainName μ.1.cls = true) (hlen : Nat.ble (lg_sl as).length μ.2.2.1 = true)
    (kk : V g μ (Em g μ Q NX) CT μ.2.2.2.2.2.cells μ.2.2.2.2.2.slots 0 (lv_args 0 as) [] σ) : CtH g μ as σ Q := by
  intro ρ
  refine MetFree.of_bodyS (code := μ.2.1) (maxLocals := μ.2.2.1) (ret := μ.2.2.2.1) hy ?_ ?_
  · intro args s m h hn
    obtain ⟨m9, meth, c, hn9, h1, h2, h3, h4, -, h5, h6, -⟩ := Cond.codeWith_spec (atoms_spec (ws := wsh μ) h _ List.mem_cons_self)
    cases hn.symm.trans hn9
    exact ⟨meth, c, h1, h2, h3, h4, h5, h6⟩
  · intro p e s m args below meth c s₁ B hml hv _
    obtain ⟨ha, hP, hA, hw, hst⟩ := hv
    have hts := atoms_spec (ws := wsh μ) B.pre
    have hh0 : s₁.heap = s.heap := by rw [B.state]; rfl
    have K := W.mono Em_NX (V_enter (E := Em g μ Q NX) (e := e) (below := below) hlen kk ⟨B.exec, B.bytes, hml, findClass_of_methodNamed B.named, fun w hw => hts w (List.mem_cons_of_mem _ hw), B.notSynchronized, B.returns, (name_of_methodNamed B.named B.method).1, vx_table (x := μ.1) B (hts _ List.mem_cons_self), hA, hP.2.2.1, hP.2.2.2.1, hst, trivial⟩ hP ha hw)
    obtain ⟨t, a1, o, b1, b2, b3⟩ := K s₁ hh0 (Stand.of_body B)
    exact ⟨t, o, a1, b1, b2, b3⟩
/-! ===== behind a call ===== -/
section VC
variable {g : GP} {μ z : MI} {E : ET} {CX : State → Array Value → Prop} {k n k' n' pc : Nat} {ls : List (Nat × Value)} {st as : List Value} {σ : AH} {Q : AH → Option Value → Prop} {X : AH → String → Prop}
/-- the numbers of a call: room for frames, locals, cells, slots -/
def RF (μ z : MI) (k n k' n' : Nat) (st : List Value) : Prop := Nat.ble (z.2.2.2.2.2.frames + 1) μ.2.2.2.2.2.frames = true ∧ Nat.ble (8 + (z.2.2.1 + 11) + z.2.2.2.2.2.locals) μ.2.2.2.2.2.locals = true ∧ Nat.ble (z.2.2.2.2.2.cells + k') k = true ∧ Nat.ble (z.2.2.2.2.2.slots + n') n = true ∧ Nat.ble (st.map fun v => v.category).sum 8 = true
theorem V_back {p : Program} {s : State} {m : MethodId} {args : Array Value} {meth : Method} {c : Code} (C : Cx g μ CX p s m args meth c) {H : Heap} {locs : List Loc} {cells slots : Nat} {ρ ρ0 : Nat → Nat} {n0 : Nat} {lr : Array Slot} {st0 : List Value} (P : Pt1 g μ s k n ls st0 σ H locs cells slots ρ ρ0 n0 lr) (hst : ∀ v ∈ st, wv (zN σ) v) {mc ms : Nat} (hk : mc + k' ≤ k) (hn : ms + n' ≤ n)
    {a : Array Value} {v : Option Value} {st₀ t T' : State} {L : List Loc} (h0 : st₀.heap = H) (hL : ∀ q ∈ L, bs g.2.2.2.1 q.base) (e1 : T'.heap = t.heap) (hq : Qe g ρ (zN σ) Q a st₀ (.returned v) t) :
    ∃ (ρ' : Nat → Nat) (σ' : AH) (rv : Option Value), v = rv.map (cv ρ') ∧ Q σ' rv ∧ Pt1 g μ s k' n' ls (rv.toList ++ st) σ' T'.heap (locs ++ L) (cells + mc) (slots + ms) ρ' ρ0 n0 lr ∧ (v.toList ++ st.map (cv ρ)) = (rv.toList ++ st).map (cv ρ') := by
  obtain ⟨ρ', σ', rv, hv, hQ, hC, hag, hn1, hrv, hsz⟩ := hq
  obtain ⟨p1, p2, p3, p4, p5, p6, p7, p8, p9, p10⟩ := P
  cases hv
  refine ⟨ρ', σ', rv, rfl, hQ, ⟨by rw [e1]; exact hC, fun q h => ?_, by omega, by omega, by rw [e1]; rw [h0] at hsz; omega, fun x h1 h2 => ?_, by omega, ?_, fun q h => wv_mono hn1 (p9 q h), fun x h => ?_⟩, ?_⟩
  · rcases List.mem_append.mp h with h | h
    · exact p2 q h
    · exact hL q h
  · rw [hag x h1 (by omega)]; exact p6 x h1 h2
  · rw [lcv_agree hag p9]; exact p8
  · rcases List.mem_append.mp h with h | h
    · exact hrv x (Option.mem_toList.mp h)
    · exact wv_mono hn1 (hst x h)
  · rw [List.map_append, st_agree hag hst]
    cases rv <;> rfl
theorem V_ret {p : Program} {e : Env} {s : State} {m : MethodId} {args : Array Value} {below : List Frame} {meth : Method} {c : Code} (C : Cx g μ CX p s m args meth c) {H : Heap} {locs : List Loc} {cells slots : Nat} {ρ ρ0 : Nat → Nat} {n0 : Nat} {lr : Array Slot} {st0 : List Value} (P : Pt1 g μ s k n ls st0 σ H locs cells slots ρ ρ0 n0 lr) (hst : ∀ v ∈ st, wv (zN σ) v) {mc ms : Nat} (hk : mc + k' ≤ k) (hn : ms + n' ≤ n)
    {a : Array Value} (hr : va_Run p g.1 e μ.2.2.2.2.2 s m args below meth c H locs cells slots mc ms (F0 m pc lr (st0.map (cv ρ))) (st.map (cv ρ)) (Qe g ρ (zN σ) Q a) (bs g.2.2.2.1))
    (kk : ∀ σ' rv, Q σ' rv → V g μ E CX k' n' (pc + 3) ls (rv.toList ++ st) σ') : W p g.1 e μ.2.2.2.2.2 s m args below meth c H locs cells slots (E below args s ρ0 n0) (F0 m pc lr (st0.map (cv ρ))) := by
  intro T hT X
  obtain ⟨v, st₀, t, T', L, h0, X', hL, e1, e2, hq, go⟩ := hr T hT X
  obtain ⟨ρ', σ', rv, hv, hQ, P', he⟩ := V_back C P hst hk hn h0 hL e1 hq
  obtain ⟨t2, a1, b1⟩ := kk σ' rv hQ p e s m args below meth c C T'.heap (locs ++ L) _ _ ρ' ρ0 n0 lr P' T' rfl X'
  refine ⟨t2, go t2 ?_, b1⟩
  rw [he]
  exact a1
theorem V_retX {p : Program} {e : Env} {s : State} {m : MethodId} {args : Array Value} {below : List Frame} {meth : Method} {c : Code} (C : Cx g μ CX p s m args meth c) {H : Heap} {locs : List Loc} {cells slots : Nat} {ρ ρ0 : Nat → Nat} {n0 : Nat} {lr : Array Slot} {st0 : List Value} (P : Pt1 g μ s k n ls st0 σ H locs cells slots ρ ρ0 n0 lr) (hst : ∀ v ∈ st, wv (zN σ) v) {mc ms : Nat} (hk : mc + k' ≤ k) (hn : ms + n' ≤ n)
    {a : Array Value} (hr : vx_Run p g.1 e μ.2.2.2.2.2 s m args below meth c H locs cells slots mc ms (F0 m pc lr (st0.map (cv ρ))) (st.map (cv ρ)) (Qe g ρ (zN σ) Q a) (Xe g ρ (zN σ) X) (bs g.2.2.2.1))
    (kk : ∀ σ' rv, Q σ' rv → V g μ E CX k' n' (pc + 3) ls (rv.toList ++ st) σ')
    (kx : ∀ (σ' : AH) (Ex : String) (q : Addr) (ce : Cell) (H1 : Heap) (locs1 : List Loc) (ρ' : Nat → Nat), X σ' Ex → Pt1 g μ s k' n' ls st σ' H1 locs1 (cells + mc) (slots + ms) ρ' ρ0 n0 lr → H1[q]? = some ce → ce.vm = .none → s.vm.findClass Ex = some ce.cls → vx_W p g.1 e μ.2.2.2.2.2 s m args below meth c H1 locs1 (cells + mc) (slots + ms) (E below args s ρ0 n0) (F0 m pc lr (st.map (cv ρ'))) q) : W p g.1 e μ.2.2.2.2.2 s m args below meth c H locs cells slots (E below args s ρ0 n0) (F0 m pc lr (st0.map (cv ρ))) := by
  intro T hT X
  rcases hr T hT X with ⟨v, st₀, t, T', L, h0, X', hL, e1, e2, hq, go⟩ | ⟨q, st₀, t, T', L, Ex, ce, h0, X', hL, e1, e2, ⟨ρ', σ', hX, hC, hag, hn1, hsz⟩, hce, hcv, hcl, st1⟩
  · obtain ⟨ρ', σ', rv, hv, hQ, P', he⟩ := V_back C P hst hk hn h0 hL e1 hq
    obtain ⟨t2, a1, b1⟩ := kk σ' rv hQ p e s m args below meth c C T'.heap (locs ++ L) _ _ ρ' ρ0 n0 lr P' T' rfl X'
    refine ⟨t2, go t2 ?_, b1⟩
    rw [he]
    exact a1
  · obtain ⟨p1, p2, p3, p4, p5, p6, p7, p8, p9, p10⟩ := P
    have P' : Pt1 g μ s k' n' ls st σ' T'.heap (locs ++ L) (cells + mc) (slots + ms) ρ' ρ0 n0 lr := by
      refine ⟨by rw [e1]; exact hC, fun q h => ?_, by omega, by omega, by rw [e1]; rw [h0] at hsz; omega, fun x h1 h2 => ?_, by omega, ?_, fun q h => wv_mono hn1 (p9 q h), fun x h => wv_mono hn1 (hst x h)⟩
      · rcases List.mem_append.mp h with h | h
        · exact p2 q h
        · exact hL q h
      · rw [hag x h1 (by omega)]; exact p6 x h1 h2
      · rw [lcv_agree hag p9]; exact p8
    obtain ⟨t2, a1, b1⟩ := kx σ' Ex q ce T'.heap (locs ++ L) ρ' hX P' (by rw [e1]; exact hce) hcv hcl T' rfl X'
    rw [st_agree hag hst] at a1
    exact ⟨t2, st1.trans a1, b1⟩
/-! ===== the words of a call ===== -/
def NoH (y : MethodName) : Prop := y.cls ≠ "java/lang/invoke/MethodHandle" ∧ y.cls ≠ "java/lang/invoke/VarHandle"
def Ar (y : MethodName) (n : Nat) : Prop := NoH y ∧ (parseMethodDescriptor y.desc).map (fun d => d.parameters.length) = some n
/-- a method's own words: its code, its class initialised -/
def MW (z : MI) : Prop := Cond.code z.1 z.2.1 z.2.2.1 z.2.2.2.1 ∈ lw_good ∧ Cond.initialized z.1.cls ∈ lw_good
theorem wsy_good (h : MW z) : GoodIn lw_good (wsy z) := lw_goodIn _ fun w hw => (List.mem_cons.mp hw).elim (fun e => e ▸ h.1) id
theorem cw_of {R : Room} {s : State} {args : Array Value} {own : String} {idx m : Nat} (hts : ∀ w ∈ lw_good, w.before args s = true) (hm : MW z) (hl : Cond.methodLink own idx z.1 ∈ lw_good) (ha : Ar z.1 m) (hf : z.2.2.2.2.2.frames + 1 ≤ R.frames) (hlo : 8 + (z.2.2.1 + 11) + z.2.2.2.2.2.locals ≤ R.locals) :
    CallB R s args own idx z.1 z.2.1 z.2.2.1 z.2.2.2.1 (wsy z) z.2.2.2.2.2 z.2.2.2.2.2.cells z.2.2.2.2.2.slots m :=
  callB_of m hts (wsy_good hm) rfl rfl rfl (hts _ hm.2) (hts _ hl) ⟨ha.1.1, ha.1.2, ha.2⟩ ⟨hf, hlo⟩
theorem cn_of {R : Room} {s : State} {args : Array Value} {own host : String} {idx m : Nat} (hts : ∀ w ∈ lw_good, w.before args s = true) (hA : Amb g s) (hm : MW z) (hl : (own, idx, z.1, host) ∈ lw_nest) (ha : Ar z.1 m) (hf : z.2.2.2.2.2.frames + 1 ≤ R.frames) (hlo : 8 + (z.2.2.1 + 11) + z.2.2.2.2.2.locals ≤ R.locals) :
    va_CN R s args own idx z.1 host z.2.1 z.2.2.1 z.2.2.2.1 (wsy z) z.2.2.2.2.2 z.2.2.2.2.2.cells z.2.2.2.2.2.slots m :=
  va_cnB m hts (wsy_good hm) rfl rfl rfl (hA.2.1 _ hl) (hts _ hm.2) ⟨ha.1.1, ha.1.2, ha.2⟩ ⟨hf, hlo⟩
theorem pe_of {p : Program} {s : State} {m : MethodId} {args : Array Value} {meth : Method} {c : Code} (C : Cx g μ CX p s m args meth c) {ρ : Nat → Nat} {H : Heap} (hC : Cn g ρ σ H) (hw : ∀ v ∈ as, wv (zN σ) v) : PreS s H (Pe g ρ as σ) (as.map (cv ρ)) :=
  ⟨Pe_blind g ρ as σ, fun U hU hW => ⟨rfl, by rw [hU]; exact hC, Amb.warm hW C.2.2.2.2.2.2.2.2.2.1, hw, C.2.2.2.2.2.2.2.2.2.2.2.2.1⟩⟩
theorem pv_of {p : Program} {s : State} {m : MethodId} {args : Array Value} {meth : Method} {c : Code} {ci a : Nat} {CC : String} {T : u_T} (C : Cx g μ CX p s m args meth c) {ρ : Nat → Nat} {H : Heap} (hC : Cn g ρ σ H) (ko : KO ci CC T) (h0 : a ≠ 0) (hK : zK σ a = ci) (hw : ∀ v ∈ .ref a :: as, wv (zN σ) v) : PreV s H CC (ρ a) (Pe g ρ (.ref a :: as) σ) (as.map (cv ρ)) := by
  refine ⟨Pe_blind g ρ _ σ, va_recv C.2.2.2.2.2.2.2.2.2.1.1 hC.1 (ci := ci) (q0 := ps σ a) ko.1 (by rw [wl_get h0 (ne9 hK (by have := ko.2.2.2.2; omega)) (wv_hd hw), ent_obj hK ko.2.2.2.2]), fun U hU hW => ⟨?_, by rw [hU]; exact hC, Amb.warm hW C.2.2.2.2.2.2.2.2.2.1, hw, C.2.2.2.2.2.2.2.2.2.2.2.2.1⟩⟩
  rw [List.map_cons, cv_ref h0]
theorem wv_args {N : Nat} {as st : List Value} (h : ∀ v ∈ as.reverse ++ st, wv N v) : (∀ v ∈ as, wv N v) ∧ ∀ v ∈ st, wv N v :=
  ⟨fun v hv => h v (List.mem_append_left _ (List.mem_reverse.mpr hv)), fun v hv => h v (List.mem_append_right _ hv)⟩
theorem wv_argsV {N a : Nat} {as st : List Value} (h : ∀ v ∈ as.reverse ++ .ref a :: st, wv N v) : (∀ v ∈ .ref a :: as, wv N v) ∧ ∀ v ∈ st, wv N v := by
  obtain ⟨h1, h2⟩ := wv_args h
  exact ⟨wv_cons (wv_hd h2) h1, wv_tail h2⟩
/-- a static call -/
theorem V_callS {idx m : Nat} (hc : Ct g z as σ Q) (hm : MW z) (hs : Cond.static z.1 ∈ lw_good) (hl : Cond.methodLink μ.1.cls idx z.1 ∈ lw_good) (ha : Ar z.1 as.length) (rf : RF μ z k n k' n' st) (hd : decode μ.2.1 pc = .ok (.invokestatic idx, 3))
    (kk : ∀ σ' rv, Q σ' rv → V g μ E CX k' n' (pc + 3) ls (rv.toList ++ st) σ') : V g μ E CX k n pc ls (as.reverse ++ st) σ := by
  intro p e s m args below meth c C H locs cells slots ρ ρ0 n0 lr P
  obtain ⟨w1, w2⟩ := wv_args P.2.2.2.2.2.2.2.2.2
  have r1 := Nat.le_of_ble_eq_true rf.1
  have r2 := Nat.le_of_ble_eq_true rf.2.1
  have r3 := Nat.le_of_ble_eq_true rf.2.2.1
  have r4 := Nat.le_of_ble_eq_true rf.2.2.2.1
  have r5 := Nat.le_of_ble_eq_true rf.2.2.2.2
  have q1 := P.2.2.1
  have q2 := P.2.2.2.1
  refine V_ret C P w2 r3 r4 (va_runS (As := as.map (cv ρ)) ⟨C.1, C.2.1, C.2.2.1, C.2.2.2.1, C.2.2.2.2.1⟩ (hc ρ) ⟨cw_of C.2.2.2.2.1 hm hl ha r1 r2, C.2.2.2.2.1 _ hs⟩ (pe_of C P.1 w1) rfl (by simp) P.2.2.2.2.2.2.2.1.1 (by simp [F0]) ?_ hd ⟨by omega, by omega⟩) kk
  exact lv_room (by rw [cats]; exact r5)
end VC
