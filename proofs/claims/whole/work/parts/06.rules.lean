/-! the run's own things: launch, class numbers, the numbers of array classes, the heap at the law's start -/
abbrev GP : Type := Launch × va_G × (Nat → ClassId) × Heap
abbrev MI : Type := MethodName × ByteArray × Nat × Option FieldType × List (Nat × Nat × Nat × Nat) × Room
def bs (Hb : Heap) : Nat → Prop := fun q => Hb.size ≤ q
def lw_good : List Cond := lw_tbl.filter goodWord
theorem lw_g {w : Cond} (i : Nat) (h : lw_tbl[i]? = some w) (hg : goodWord w = true) : w ∈ lw_good := List.mem_filter.mpr ⟨List.mem_of_getElem? h, hg⟩
theorem lw_goodIn (ws : List Cond) (h : ∀ w ∈ ws, w ∈ lw_good) : GoodIn lw_good ws := fun w hw => ⟨h w hw, good_of_word (List.mem_filter.mp (h w hw)).2⟩
def tysOf (dA : Nat → ClassId) : List (ClassId × FieldType) := [(dA 20, .int), (dA 21, .long), (dA 22, .boolean), (dA 30, .object RX0), (dA 32, .object RX2), (dA 33, .object RX3), (dA 35, .object RX5), (dA 39, .object RX9)]
def lw_nest : List (String × Nat × MethodName × String) := lw_tbl.filterMap fun w => match w with
  | .methodLinkNest a i x h => some (a, i, x, h)
  | _ => none
def lw_str : List (String × Nat × String) := lw_tbl.filterMap fun w => match w with
  | .stringRef a i x => some (a, i, x)
  | _ => none
def lw_ao : List String := [RX0, RX2, RX3, RX5, RX9]
def lw_ex : List String := ["java/lang/IndexOutOfBoundsException", "java/lang/IllegalArgumentException", "java/lang/IllegalStateException"]
/-- what holds of the machine's tables, and of the heap at the law's start -/
def Amb (g : GP) (U : State) : Prop :=
  va_K g.2.1 vwCl (tysOf g.2.2.1) U ∧ (∀ q ∈ lw_nest, va_Nw (.methodLinkNest q.1 q.2.1 q.2.2.1 q.2.2.2) U) ∧ (∀ C ∈ lw_ao, va_AO C U) ∧ (∀ q ∈ lw_str, ∃ a, vk_R q.1 q.2.1 q.2.2 a U) ∧ (∀ C ∈ lw_ex, va_Nw (.castable C C) U) ∧ (∀ C ∈ lw_ex, ∀ C' ∈ lw_ex, C ≠ C' → va_Nc C C' U) ∧
    vx_Zq Bundle.tN "UNASSIGNED_STACK" Bundle.steD (bs g.2.2.2) U g.2.2.2 ∧ vx_Zq Bundle.tN "SUPPRESSED_SENTINEL" Bundle.listD (bs g.2.2.2) U g.2.2.2
theorem Amb.warm {g : GP} {s U : State} (hW : s.WarmedH U.vm) (h : Amb g s) : Amb g U := by
  obtain ⟨h1, h2, h3, h4, h5, h6, h7, h8⟩ := h
  exact ⟨va_K.moved hW.alike h1, fun q hq => va_Nw.warmM hW (h2 q hq), fun C hC => va_AO.moved hW.alike (h3 C hC), fun q hq => (h4 q hq).imp fun a ha => vk_R.warm hW ha, fun C hC => va_Nw.warmC hW (h5 C hC), fun C hC C' hC' hn => va_Nc.moved hW.alike (h6 C hC C' hC' hn), vx_Zq.moved hW.alike h7, vx_Zq.moved hW.alike h8⟩
/-- the heap holds the abstract one -/
def Cn (g : GP) (ρ : Nat → Nat) (σ : AH) (H : Heap) : Prop :=
  va_P g.2.1 vwCl (wl g.2.2.1 ρ σ) H ∧ va_D (bs g.2.2.2) (wl g.2.2.1 ρ σ) ∧ g.2.2.2.size ≤ H.size ∧ (∀ q : Nat, q < g.2.2.2.size → H[q]? = g.2.2.2[q]?) ∧ ∀ a k, zR σ a k ≤ zN σ
/-- what holds all along a call of a method -/
def Cx (g : GP) (μ : MI) (CX : State → Array Value → Prop) (p : Program) (s : State) (m : MethodId) (args : Array Value) (meth : Method) (c : Code) : Prop :=
  p.tables.exec = Jvm.exec ∧ c.code = μ.2.1 ∧ c.maxLocals = μ.2.2.1 ∧ s.vm.findClass μ.1.cls = some m.cls ∧ (∀ w ∈ lw_good, w.before args s = true) ∧ meth.locks = false ∧ meth.sig.returnType = μ.2.2.2.1 ∧ meth.name = μ.1.name ∧ c.exceptionTable.toList = tableOf μ.2.2.2.2.1 ∧ Amb g s ∧ g.2.2.2.size ≤ s.heap.size ∧ (∀ q : Nat, q < g.2.2.2.size → s.heap[q]? = g.2.2.2[q]?) ∧ g.1.stackTraces = false ∧ CX s args
def lcv (ρ : Nat → Nat) (ls : List (Nat × Value)) : List (Nat × Value) := ls.map (fun q => (q.1, cv ρ q.2))
/-- what holds at a point of it -/
def Pt1 (g : GP) (μ : MI) (s : State) (k n : Nat) (ls : List (Nat × Value)) (st : List Value) (σ : AH) (H : Heap) (locs : List Loc) (cells slots : Nat) (ρ ρ0 : Nat → Nat) (n0 : Nat) (lr : Array Slot) : Prop :=
  Cn g ρ σ H ∧ (∀ q ∈ locs, bs g.2.2.2 q.base) ∧ cells + k ≤ μ.2.2.2.2.2.cells ∧ slots + n ≤ μ.2.2.2.2.2.slots ∧ s.heap.size ≤ H.size ∧ (∀ a, 1 ≤ a → a ≤ n0 → ρ a = ρ0 a) ∧ n0 ≤ zN σ ∧ lv_has lr μ.2.2.1 (lcv ρ ls) ∧ (∀ q ∈ ls, wv (zN σ) q.2) ∧ ∀ v ∈ st, wv (zN σ) v
abbrev ET : Type := List Frame → Array Value → State → (Nat → Nat) → Nat → State → Prop
/-- from here, with k cells and n slots to spare, the method comes to its end E -/
def V (g : GP) (μ : MI) (E : ET) (CX : State → Array Value → Prop) (k n pc : Nat) (ls : List (Nat × Value)) (st : List Value) (σ : AH) : Prop :=
  ∀ (p : Program) (e : Env) (s : State) (m : MethodId) (args : Array Value) (below : List Frame) (meth : Method) (c : Code), Cx g μ CX p s m args meth c →
    ∀ (H : Heap) (locs : List Loc) (cells slots : Nat) (ρ ρ0 : Nat → Nat) (n0 : Nat) (lr : Array Slot), Pt1 g μ s k n ls st σ H locs cells slots ρ ρ0 n0 lr →
      W p g.1 e μ.2.2.2.2.2 s m args below meth c H locs cells slots (E below args s ρ0 n0) (F0 m pc lr (st.map (cv ρ)))
def Qe (g : GP) (ρ0 : Nat → Nat) (n0 : Nat) (Q : AH → Option Value → Prop) : Array Value → State → Outcome → State → Prop := fun _ st o t =>
  ∃ (ρ : Nat → Nat) (σ : AH) (rv : Option Value), o = .returned (rv.map (cv ρ)) ∧ Q σ rv ∧ Cn g ρ σ t.heap ∧ (∀ a, 1 ≤ a → a ≤ n0 → ρ a = ρ0 a) ∧ n0 ≤ zN σ ∧ (∀ v ∈ rv, wv (zN σ) v) ∧ st.heap.size ≤ t.heap.size
def Xe (g : GP) (ρ0 : Nat → Nat) (n0 : Nat) (X : AH → String → Prop) : String → State → State → Prop := fun E st t =>
  ∃ (ρ : Nat → Nat) (σ : AH), X σ E ∧ Cn g ρ σ t.heap ∧ (∀ a, 1 ≤ a → a ≤ n0 → ρ a = ρ0 a) ∧ n0 ≤ zN σ ∧ st.heap.size ≤ t.heap.size
/-- a method's end: an answer, or an exception -/
def Em (g : GP) (μ : MI) (Q : AH → Option Value → Prop) (X : AH → String → Prop) : ET := fun below args s ρ0 n0 =>
  vx_MQ below (Qe g ρ0 n0 Q) (Xe g ρ0 n0 X) args s μ.2.2.2.2.2.cells μ.2.2.2.2.2.slots (bs g.2.2.2)
abbrev CT : State → Array Value → Prop := fun _ _ => True
/-! ===== one instruction that leaves heap and locals ===== -/
section VR
variable {g : GP} {μ : MI} {E : ET} {CX : State → Array Value → Prop} {k n pc : Nat} {ls : List (Nat × Value)} {st : List Value} {σ : AH}
theorem V_step {pc' : Nat} {st0 st' : List Value} (hw : ∀ N, (∀ q ∈ ls, wv N q.2) → (∀ v ∈ st0, wv N v) → N = zN σ → ∀ v ∈ st', wv N v)
    (h : ∀ (p : Program) (e : Env) (s : State) (m : MethodId) (args : Array Value) (below : List Frame) (meth : Method) (c : Code), Cx g μ CX p s m args meth c → ∀ (H : Heap) (locs : List Loc) (cells slots : Nat) (ρ : Nat → Nat) (lr : Array Slot) (Q : State → Prop), Cn g ρ σ H → lv_has lr μ.2.2.1 (lcv ρ ls) → cells ≤ μ.2.2.2.2.2.cells → slots ≤ μ.2.2.2.2.2.slots → s.heap.size ≤ H.size →
      W p g.1 e μ.2.2.2.2.2 s m args below meth c H locs cells slots Q (F0 m pc' lr (st'.map (cv ρ))) → W p g.1 e μ.2.2.2.2.2 s m args below meth c H locs cells slots Q (F0 m pc lr (st0.map (cv ρ))))
    (kk : V g μ E CX k n pc' ls st' σ) : V g μ E CX k n pc ls st0 σ := by
  intro p e s m args below meth c C H locs cells slots ρ ρ0 n0 lr P
  obtain ⟨p1, p2, p3, p4, p5, p6, p7, p8, p9, p10⟩ := P
  exact h p e s m args below meth c C H locs cells slots ρ lr _ p1 p8 (by omega) (by omega) p5 (kk p e s m args below meth c C H locs cells slots ρ ρ0 n0 lr ⟨p1, p2, p3, p4, p5, p6, p7, p8, p9, hw _ p9 p10 rfl⟩)
theorem wv_tail {N : Nat} {v : Value} {st : List Value} (h : ∀ x ∈ v :: st, wv N x) : ∀ x ∈ st, wv N x := fun x hx => h x (List.mem_cons_of_mem _ hx)
theorem wv_tail2 {N : Nat} {v w : Value} {st : List Value} (h : ∀ x ∈ v :: w :: st, wv N x) : ∀ x ∈ st, wv N x := wv_tail (wv_tail h)
theorem wv_tail3 {N : Nat} {u v w : Value} {st : List Value} (h : ∀ x ∈ u :: v :: w :: st, wv N x) : ∀ x ∈ st, wv N x := wv_tail (wv_tail (wv_tail h))
theorem wv_cons {N : Nat} {v : Value} {st : List Value} (hv : wv N v) (h : ∀ x ∈ st, wv N x) : ∀ x ∈ v :: st, wv N x := fun x hx => (List.mem_cons.mp hx).elim (fun e => e ▸ hv) (h x)
theorem lcv_get {ρ : Nat → Nat} {lr : Array Slot} {nL i : Nat} {v : Value} {ls : List (Nat × Value)} (h : lv_has lr nL (lcv ρ ls)) (hl : (i, v) ∈ ls) : lr[i]? = some (.val (cv ρ v)) :=
  h.2.2 (i, cv ρ v) (List.mem_map.mpr ⟨(i, v), hl, rfl⟩)
/-- the local i, by its place in the list -/
def lat (i : Nat) : List (Nat × Value) → Option Value
  | [] => none
  | (j, v) :: l => bif Nat.beq i j then some v else lat i l
theorem lat_mem {i : Nat} {v : Value} : ∀ {ls : List (Nat × Value)}, lat i ls = some v → (i, v) ∈ ls
  | [], h => by cases h
  | (j, w) :: l, h => by
    unfold lat at h
    cases hb : Nat.beq i j with
    | true =>
      rw [hb] at h
      have e := Nat.eq_of_beq_eq_true hb
      cases h
      rw [e]; exact List.mem_cons_self
    | false =>
      rw [hb] at h
      exact List.mem_cons_of_mem _ (lat_mem h)
theorem V_iconst {z : Int} (v : Int32) (hd : decode μ.2.1 pc = .ok (.iconst z, 1)) (hv : Int32.ofInt z = v) (kk : V g μ E CX k n (pc + 1) ls (.int v :: st) σ) : V g μ E CX k n pc ls st σ :=
  V_step (fun _ _ h _ => wv_cons trivial h) (fun _ _ _ _ _ _ _ _ C _ _ _ _ _ _ _ _ _ _ _ _ k => lv_iconst C.1 C.2.1 hd hv k) kk
theorem V_bipush {z : Int} (v : Int32) (hd : decode μ.2.1 pc = .ok (.bipush z, 2)) (hv : (Int8.ofInt z).toInt32 = v) (kk : V g μ E CX k n (pc + 2) ls (.int v :: st) σ) : V g μ E CX k n pc ls st σ :=
  V_step (fun _ _ h _ => wv_cons trivial h) (fun _ _ _ _ _ _ _ _ C _ _ _ _ _ _ _ _ _ _ _ _ k => lv_bipush C.1 C.2.1 hd hv k) kk
theorem V_sipush {z : Int} (v : Int32) (hd : decode μ.2.1 pc = .ok (.sipush z, 3)) (hv : (Int16.ofInt z).toInt32 = v) (kk : V g μ E CX k n (pc + 3) ls (.int v :: st) σ) : V g μ E CX k n pc ls st σ :=
  V_step (fun _ _ h _ => wv_cons trivial h) (fun _ _ _ _ _ _ _ _ C _ _ _ _ _ _ _ _ _ _ _ _ k => lv_sipush C.1 C.2.1 hd hv k) kk
theorem V_lconst {z : Fin 2} (v : Int64) (hd : decode μ.2.1 pc = .ok (.lconst z, 1)) (hv : Int64.ofNat (z : Nat) = v) (kk : V g μ E CX k n (pc + 1) ls (.long v :: st) σ) : V g μ E CX k n pc ls st σ :=
  V_step (fun _ _ h _ => wv_cons trivial h) (fun _ _ _ _ _ _ _ _ C _ _ _ _ _ _ _ _ _ _ _ _ k => lv_lconst C.1 C.2.1 hd hv k) kk
theorem V_null (hd : decode μ.2.1 pc = .ok (.aconst_null, 1)) (kk : V g μ E CX k n (pc + 1) ls (.ref 0 :: st) σ) : V g μ E CX k n pc ls st σ :=
  V_step (fun _ _ h _ => wv_cons (Nat.zero_le _) h) (fun _ _ _ _ _ _ _ _ C _ _ _ _ _ _ _ _ _ _ _ _ k => lv_null C.1 C.2.1 hd k) kk
theorem V_iload_n {q : Fin 4} {x : Int32} (hd : decode μ.2.1 pc = .ok (.iload_n q, 1)) (hl : lat q ls = some (.int x)) (kk : V g μ E CX k n (pc + 1) ls (.int x :: st) σ) : V g μ E CX k n pc ls st σ :=
  V_step (fun _ _ h _ => wv_cons trivial h) (fun _ _ _ _ _ _ _ _ C _ _ _ _ _ _ _ _ hl' _ _ _ k => lv_iload_n C.1 C.2.1 hd rfl (lcv_get hl' (lat_mem hl)) k) kk
theorem V_iload {i : Nat} {x : Int32} (hd : decode μ.2.1 pc = .ok (.iload i, 2)) (hl : lat i ls = some (.int x)) (kk : V g μ E CX k n (pc + 2) ls (.int x :: st) σ) : V g μ E CX k n pc ls st σ :=
  V_step (fun _ _ h _ => wv_cons trivial h) (fun _ _ _ _ _ _ _ _ C _ _ _ _ _ _ _ _ hl' _ _ _ k => lv_iload C.1 C.2.1 hd (lcv_get hl' (lat_mem hl)) k) kk
theorem V_lload_n {q : Fin 4} {x : Int64} (hd : decode μ.2.1 pc = .ok (.lload_n q, 1)) (hl : lat q ls = some (.long x)) (kk : V g μ E CX k n (pc + 1) ls (.long x :: st) σ) : V g μ E CX k n pc ls st σ :=
  V_step (fun _ _ h _ => wv_cons trivial h) (fun _ _ _ _ _ _ _ _ C _ _ _ _ _ _ _ _ hl' _ _ _ k => lv_lload_n C.1 C.2.1 hd rfl (lcv_get hl' (lat_mem hl)) k) kk
theorem V_lload {i : Nat} {x : Int64} (hd : decode μ.2.1 pc = .ok (.lload i, 2)) (hl : lat i ls = some (.long x)) (kk : V g μ E CX k n (pc + 2) ls (.long x :: st) σ) : V g μ E CX k n pc ls st σ :=
  V_step (fun _ _ h _ => wv_cons trivial h) (fun _ _ _ _ _ _ _ _ C _ _ _ _ _ _ _ _ hl' _ _ _ k => lv_lload C.1 C.2.1 hd (lcv_get hl' (lat_mem hl)) k) kk
end VR
