/-! the run's own things: launch, class numbers, the numbers of array classes, the heap at the law's start -/
abbrev GP : Type := Launch × va_G × (Nat → ClassId) × Heap × (Nat × Nat × (Nat → Int32)) × Option AH
abbrev gB (g : GP) : Nat := g.2.2.2.2.1.1
abbrev gL (g : GP) : Nat := g.2.2.2.2.1.2.1
abbrev gX (g : GP) : Nat → Int32 := g.2.2.2.2.1.2.2
abbrev gG (g : GP) : Option AH := g.2.2.2.2.2
/-- the ghost rows, where they are frozen -/
def FZ (g : GP) (σ : AH) : Prop := ∀ G, gG g = some G → 74 ≤ zN σ ∧ ∀ a, 33 ≤ a → a ≤ 74 → (zK σ a = 19 ∨ zK σ a = 23) ∧ zK σ a = zK G a ∧ zL σ a = zL G a ∧ ∀ j, zI σ a j = zI G a j ∧ zJ σ a j = zJ G a j
abbrev MI : Type := MethodName × ByteArray × Nat × Option FieldType × List (Nat × Nat × Nat × Nat) × Room
def bs (Hb : Heap) : Nat → Prop := fun q => Hb.size ≤ q
def lw_good : List Cond := lw_tbl.filter goodWord
theorem lw_g {w : Cond} (i : Nat) (h : lw_tbl[i]? = some w) (hg : goodWord w = true) : w ∈ lw_good := List.mem_filter.mpr ⟨List.mem_of_getElem? h, hg⟩
theorem lw_goodIn (ws : List Cond) (h : ∀ w ∈ ws, w ∈ lw_good) : GoodIn lw_good ws := fun w hw => ⟨h w hw, good_of_word (List.mem_filter.mp (h w hw)).2⟩
def tysOf (dA : Nat → ClassId) : List (ClassId × FieldType) := [(dA 20, .int), (dA 21, .long), (dA 21, .long), (dA 30, .object RX0), (dA 32, .object RX2), (dA 33, .object RX3), (dA 35, .object RX5), (dA 39, .object RX9)]
def lw_nest : List (String × Nat × MethodName × String) := lw_tbl.filterMap fun w => match w with
  | .methodLinkNest a i x h => some (a, i, x, h)
  | _ => none
def lw_str : List (String × Nat × String) := lw_tbl.filterMap fun w => match w with
  | .stringRef a i x => some (a, i, x)
  | _ => none
def lw_decl : List MethodName := lw_tbl.filterMap fun w => match w with
  | .declares x => some x
  | _ => none
def lw_ao : List String := [RX0, RX2, RX3, RX5, RX9]
def lw_ex : List String := ["java/lang/IndexOutOfBoundsException", "java/lang/IllegalArgumentException", "java/lang/IllegalStateException"]
/-- what holds of the machine's tables, and of the heap at the law's start -/
def Amb (g : GP) (U : State) : Prop :=
  va_K g.2.1 vwCl (tysOf g.2.2.1) U ∧ (∀ q ∈ lw_nest, va_Nw (.methodLinkNest q.1 q.2.1 q.2.2.1 q.2.2.2) U) ∧ (∀ C ∈ lw_ao, va_AO C U) ∧ (∀ q ∈ lw_str, ∃ a, vk_R q.1 q.2.1 q.2.2 a U) ∧ (∀ C ∈ lw_ex, va_Nw (.castable C C) U) ∧ (∀ C ∈ lw_ex, ∀ C' ∈ lw_ex, C ≠ C' → va_Nc C C' U) ∧
    vx_Zq Bundle.tN "UNASSIGNED_STACK" Bundle.steD (bs g.2.2.2.1) U g.2.2.2.1 ∧ vx_Zq Bundle.tN "SUPPRESSED_SENTINEL" Bundle.listD (bs g.2.2.2.1) U g.2.2.2.1 ∧ (∀ x ∈ lw_decl, va_Nw (.declares x) U) ∧ va_X (gB g) (gL g) (gX g) U g.2.2.2.1 ∧ gB g < g.2.2.2.1.size ∧ gL g < 1073741824
theorem Amb.warm {g : GP} {s U : State} (hW : s.WarmedH U.vm) (h : Amb g s) : Amb g U := by
  obtain ⟨h1, h2, h3, h4, h5, h6, h7, h8, h9, h10, h11⟩ := h
  exact ⟨va_K.moved hW.alike h1, fun q hq => va_Nw.warmM hW (h2 q hq), fun C hC => va_AO.moved hW.alike (h3 C hC), fun q hq => (h4 q hq).imp fun a ha => vk_R.warm hW ha, fun C hC => va_Nw.warmC hW (h5 C hC), fun C hC C' hC' hn => va_Nc.moved hW.alike (h6 C hC C' hC' hn), vx_Zq.moved hW.alike h7, vx_Zq.moved hW.alike h8, fun x hx => va_Nw.warmD hW (h9 x hx), va_X.moved hW.alike h10, h11⟩
/-- the heap holds the abstract one -/
def Cn (g : GP) (ρ : Nat → Nat) (σ : AH) (H : Heap) : Prop :=
  va_P g.2.1 vwCl (wl g.2.2.1 ρ σ) H ∧ va_D (bs g.2.2.2.1) (wl g.2.2.1 ρ σ) ∧ g.2.2.2.1.size ≤ H.size ∧ (∀ q : Nat, q < g.2.2.2.1.size → H[q]? = g.2.2.2.1[q]?) ∧ (∀ a k, zR σ a k ≤ zN σ) ∧ 1 ≤ zN σ ∧ zK σ 1 = 19 ∧ ρ 1 = gB g ∧ FZ g σ
theorem ne9 {σ : AH} {a κ : Nat} (hK : zK σ a = κ) (hk : κ ≠ 19) : zK σ a ≠ 19 := by rw [hK]; exact hk
/-- what holds all along a call of a method -/
def Cx (g : GP) (μ : MI) (CX : State → Array Value → Prop) (p : Program) (s : State) (m : MethodId) (args : Array Value) (meth : Method) (c : Code) : Prop :=
  p.tables.exec = Jvm.exec ∧ c.code = μ.2.1 ∧ c.maxLocals = μ.2.2.1 ∧ s.vm.findClass μ.1.cls = some m.cls ∧ (∀ w ∈ lw_good, w.before args s = true) ∧ meth.locks = false ∧ meth.sig.returnType = μ.2.2.2.1 ∧ meth.name = μ.1.name ∧ c.exceptionTable.toList = tableOf μ.2.2.2.2.1 ∧ Amb g s ∧ g.2.2.2.1.size ≤ s.heap.size ∧ (∀ q : Nat, q < g.2.2.2.1.size → s.heap[q]? = g.2.2.2.1[q]?) ∧ g.1.stackTraces = false ∧ CX s args
def lcv (ρ : Nat → Nat) (ls : List (Nat × Value)) : List (Nat × Value) := ls.map (fun q => (q.1, cv ρ q.2))
/-- what holds at a point of it -/
def Pt1 (g : GP) (μ : MI) (s : State) (k n : Nat) (ls : List (Nat × Value)) (st : List Value) (σ : AH) (H : Heap) (locs : List Loc) (cells slots : Nat) (ρ ρ0 : Nat → Nat) (n0 : Nat) (lr : Array Slot) : Prop :=
  Cn g ρ σ H ∧ (∀ q ∈ locs, bs g.2.2.2.1 q.base) ∧ cells + k ≤ μ.2.2.2.2.2.cells ∧ slots + n ≤ μ.2.2.2.2.2.slots ∧ s.heap.size ≤ H.size ∧ (∀ a, 1 ≤ a → a ≤ n0 → ρ a = ρ0 a) ∧ n0 ≤ zN σ ∧ lv_has lr μ.2.2.1 (lcv ρ ls) ∧ (∀ q ∈ ls, wv (zN σ) q.2) ∧ ∀ v ∈ st, wv (zN σ) v
abbrev ET : Type := List Frame → Array Value → State → (Nat → Nat) → Nat → State → Prop
/-- from here, with k cells and n slots to spare, the method comes to its end E -/
def V (g : GP) (μ : MI) (E : ET) (CX : State → Array Value → Prop) (k n pc : Nat) (ls : List (Nat × Value)) (st : List Value) (σ : AH) : Prop :=
  ∀ (p : Program) (e : Env) (s : State) (m : MethodId) (args : Array Value) (below : List Frame) (meth : Method) (c : Code), Cx g μ CX p s m args meth c →
    ∀ (H : Heap) (locs : List Loc) (cells slots : Nat) (ρ ρ0 : Nat → Nat) (n0 : Nat) (lr : Array Slot), Pt1 g μ s k n ls st σ H locs cells slots ρ ρ0 n0 lr →
      W p g.1 e μ.2.2.2.2.2 s m args below meth c H locs cells slots (E below args s ρ0 n0) (F0 m pc lr (st.map (cv ρ)))
def Qe (g : GP) (ρ0 : Nat → Nat) (n0 : Nat) (Q : AH → Option Value → Prop) : Array Value → State → Outcome → State → Prop := fun _ st o t =>
  ∃ (ρ : Nat → Nat) (σ : AH) (rv : Option Value), o = .returned (rv.map (cv ρ)) ∧ Q σ rv ∧ Cn g ρ σ t.heap ∧ (∀ a, 1 ≤ a → a ≤ n0 → ρ a = ρ0 a) ∧ n0 ≤ zN σ ∧ (∀ v ∈ rv, wv (zN σ) v) ∧ st.heap.size ≤ t.heap.size
def Xe (g : GP) (ρ0 : Nat → Nat) (n0 : Nat) (X : AH → String → Prop) : String → State → State → Prop := fun E st t =>
  ∃ (ρ : Nat → Nat) (σ : AH), X σ E ∧ Cn g ρ σ t.heap ∧ (∀ a, 1 ≤ a → a ≤ n0 → ρ a = ρ0 a) ∧ n0 ≤ zN σ ∧ st.heap.size ≤ t.heap.size
/-- a method's end: an answer, or an exception -/
def Em (g : GP) (μ : MI) (Q : AH → Option Value → Prop) (X : AH → String → Prop) : ET := fun below args s ρ0 n0 =>
  vx_MQ below (Qe g ρ0 n0 Q) (Xe g ρ0 n0 X) args s μ.2.2.2.2.2.cells μ.2.2.2.2.2.slots (bs g.2.2.2.1)
abbrev CT : State → Array Value → Prop := fun _ _ => True

/-! ===== one instruction that leaves heap and locals ===== -/
section VR
variable {g : GP} {μ : MI} {E : ET} {CX : State → Array Value → Prop} {k n pc : Nat} {ls : List (Nat × Value)} {st : List Value} {σ : AH}
theorem mkS {p : Program} {s : State} {m : MethodId} {args : Array Value} {meth : Method} {c : Code} {H : Heap} {locs : List Loc} {cells slots : Nat} {ρ ρ0 : Nat → Nat} {n0 : Nat} {lr : Array Slot} (C : Cx g μ CX p s m args meth c) (P : Pt1 g μ s k n ls st σ H locs cells slots ρ ρ0 n0 lr) : va_S (bs g.2.2.2.1) s.heap H locs :=
  ⟨P.2.2.2.2.1, fun q _ h2 => by
    have hq : q < g.2.2.2.1.size := Nat.not_le.mp h2
    rw [P.1.2.2.2.1 q hq, C.2.2.2.2.2.2.2.2.2.2.2.1 q hq], P.2.1⟩
theorem V_step {pc' : Nat} {st0 st' : List Value} (hw : (∀ a k, zR σ a k ≤ zN σ) → (∀ q ∈ ls, wv (zN σ) q.2) → (∀ v ∈ st0, wv (zN σ) v) → ∀ v ∈ st', wv (zN σ) v)
    (h : ∀ (p : Program) (e : Env) (s : State) (m : MethodId) (args : Array Value) (below : List Frame) (meth : Method) (c : Code), Cx g μ CX p s m args meth c → ∀ (H : Heap) (locs : List Loc) (cells slots : Nat) (ρ : Nat → Nat) (lr : Array Slot) (Q : State → Prop), Cn g ρ σ H → lv_has lr μ.2.2.1 (lcv ρ ls) → (∀ v ∈ st0, wv (zN σ) v) → cells ≤ μ.2.2.2.2.2.cells ∧ slots ≤ μ.2.2.2.2.2.slots →
      W p g.1 e μ.2.2.2.2.2 s m args below meth c H locs cells slots Q (F0 m pc' lr (st'.map (cv ρ))) → W p g.1 e μ.2.2.2.2.2 s m args below meth c H locs cells slots Q (F0 m pc lr (st0.map (cv ρ))))
    (kk : V g μ E CX k n pc' ls st' σ) : V g μ E CX k n pc ls st0 σ := by
  intro p e s m args below meth c C H locs cells slots ρ ρ0 n0 lr P
  obtain ⟨p1, p2, p3, p4, p5, p6, p7, p8, p9, p10⟩ := P
  exact h p e s m args below meth c C H locs cells slots ρ lr _ p1 p8 p10 ⟨by omega, by omega⟩ (kk p e s m args below meth c C H locs cells slots ρ ρ0 n0 lr ⟨p1, p2, p3, p4, p5, p6, p7, p8, p9, hw p1.2.2.2.2.1 p9 p10⟩)
theorem V_br {tgt nx : Nat} {cond : Prop} {st0 st' : List Value} (hw : (∀ v ∈ st0, wv (zN σ) v) → ∀ v ∈ st', wv (zN σ) v)
    (h : ∀ (p : Program) (e : Env) (s : State) (m : MethodId) (args : Array Value) (below : List Frame) (meth : Method) (c : Code), Cx g μ CX p s m args meth c → ∀ (H : Heap) (locs : List Loc) (cells slots : Nat) (ρ : Nat → Nat) (lr : Array Slot) (Q : State → Prop),
      (cond → W p g.1 e μ.2.2.2.2.2 s m args below meth c H locs cells slots Q (F0 m tgt lr (st'.map (cv ρ)))) → (¬ cond → W p g.1 e μ.2.2.2.2.2 s m args below meth c H locs cells slots Q (F0 m nx lr (st'.map (cv ρ)))) → W p g.1 e μ.2.2.2.2.2 s m args below meth c H locs cells slots Q (F0 m pc lr (st0.map (cv ρ))))
    (kt : cond → V g μ E CX k n tgt ls st' σ) (kf : ¬ cond → V g μ E CX k n nx ls st' σ) : V g μ E CX k n pc ls st0 σ := by
  intro p e s m args below meth c C H locs cells slots ρ ρ0 n0 lr P
  obtain ⟨p1, p2, p3, p4, p5, p6, p7, p8, p9, p10⟩ := P
  exact h p e s m args below meth c C H locs cells slots ρ lr _ (fun q => kt q p e s m args below meth c C H locs cells slots ρ ρ0 n0 lr ⟨p1, p2, p3, p4, p5, p6, p7, p8, p9, hw p10⟩) (fun q => kf q p e s m args below meth c C H locs cells slots ρ ρ0 n0 lr ⟨p1, p2, p3, p4, p5, p6, p7, p8, p9, hw p10⟩)
/-- fewer locals, in another order; more room -/
theorem V_less {ls' : List (Nat × Value)} {k' n' : Nat} (hl : ∀ q ∈ ls', q ∈ ls) (hk : k' ≤ k) (hn : n' ≤ n) (kk : V g μ E CX k' n' pc ls' st σ) : V g μ E CX k n pc ls st σ := by
  intro p e s m args below meth c C H locs cells slots ρ ρ0 n0 lr P
  obtain ⟨p1, p2, p3, p4, p5, p6, p7, p8, p9, p10⟩ := P
  refine kk p e s m args below meth c C H locs cells slots ρ ρ0 n0 lr ⟨p1, p2, by omega, by omega, p5, p6, p7, ⟨p8.1, p8.2.1, fun q hq => ?_⟩, fun q hq => p9 q (hl q hq), p10⟩
  obtain ⟨z, hz, rfl⟩ := List.mem_map.mp hq
  exact p8.2.2 _ (List.mem_map.mpr ⟨z, hl z hz, rfl⟩)
theorem wv_i {N : Nat} {x : Int32} : wv N (.int x) := trivial
theorem wv_l {N : Nat} {x : Int64} : wv N (.long x) := trivial
theorem wv_tail {N : Nat} {v : Value} {st : List Value} (h : ∀ x ∈ v :: st, wv N x) : ∀ x ∈ st, wv N x := fun x hx => h x (List.mem_cons_of_mem _ hx)
theorem wv_hd {N : Nat} {v : Value} {st : List Value} (h : ∀ x ∈ v :: st, wv N x) : wv N v := h v List.mem_cons_self
theorem wv_tail2 {N : Nat} {v w : Value} {st : List Value} (h : ∀ x ∈ v :: w :: st, wv N x) : ∀ x ∈ st, wv N x := wv_tail (wv_tail h)
theorem wv_tail3 {N : Nat} {u v w : Value} {st : List Value} (h : ∀ x ∈ u :: v :: w :: st, wv N x) : ∀ x ∈ st, wv N x := wv_tail (wv_tail (wv_tail h))
theorem wv_cons {N : Nat} {v : Value} {st : List Value} (hv : wv N v) (h : ∀ x ∈ st, wv N x) : ∀ x ∈ v :: st, wv N x := fun x hx => (List.mem_cons.mp hx).elim (fun e => e ▸ hv) (h x)
theorem lcv_get {ρ : Nat → Nat} {lr : Array Slot} {nL i : Nat} {v : Value} {ls : List (Nat × Value)} (h : lv_has lr nL (lcv ρ ls)) (hl : (i, v) ∈ ls) : lr[i]? = some (.val (cv ρ v)) :=
  h.2.2 (i, cv ρ v) (List.mem_map.mpr ⟨(i, v), hl, rfl⟩)
/-- the local i, by its place in the list -/
def lat (i : Nat) : List (Nat × Value) → Option Value
  | [] => none
  | (j, v) :: l => bif Nat.beq i j then some v else lat i l
theorem lat_mem {i : Nat} {v : Value} : ∀ {ls : List (Nat × Value)}, lat i ls = some v → (i, v) ∈ ls
  | [], h => by cases h
  | (j, w) :: l, h => by
    unfold lat at h
    cases hb : Nat.beq i j with
    | true =>
      rw [hb] at h
      have e := Nat.eq_of_beq_eq_true hb
      cases h
      rw [e]; exact List.mem_cons_self
    | false =>
      rw [hb] at h
      exact List.mem_cons_of_mem _ (lat_mem h)
/-- the locals behind a store: kept by their numbers' order -/
def ldrp (i : Nat) (w : Bool) : List (Nat × Value) → List (Nat × Value)
  | [] => []
  | (j, u) :: l => bif Nat.beq j i || ((w && Nat.beq j (i + 1)) || (Nat.beq (j + 1) i && Nat.beq u.category 2)) then ldrp i w l else (j, u) :: ldrp i w l
def lins (i : Nat) (v : Value) : List (Nat × Value) → List (Nat × Value)
  | [] => [(i, v)]
  | (j, u) :: l => bif Nat.ble i j then (i, v) :: (j, u) :: l else (j, u) :: lins i v l
def lset (i : Nat) (v : Value) (ls : List (Nat × Value)) : List (Nat × Value) := lins i v (ldrp i (Nat.beq v.category 2) ls)
theorem lins_mem {i : Nat} {v : Value} {q : Nat × Value} : ∀ {l : List (Nat × Value)}, q ∈ lins i v l → q = (i, v) ∨ q ∈ l
  | [], h => by simp [lins] at h; exact Or.inl h
  | (j, u) :: l, h => by
    unfold lins at h
    cases hb : Nat.ble i j with
    | true => rw [hb] at h; exact List.mem_cons.mp h
    | false =>
      rw [hb] at h
      rcases List.mem_cons.mp h with h | h
      · exact Or.inr (h ▸ List.mem_cons_self)
      · exact (lins_mem h).imp id (List.mem_cons_of_mem _)
theorem ldrp_mem {i : Nat} {w : Bool} {q : Nat × Value} : ∀ {l : List (Nat × Value)}, q ∈ ldrp i w l → q ∈ l ∧ (Nat.beq q.1 i || ((w && Nat.beq q.1 (i + 1)) || (Nat.beq (q.1 + 1) i && Nat.beq q.2.category 2))) = false
  | [], h => by simp [ldrp] at h
  | (j, u) :: l, h => by
    unfold ldrp at h
    cases hb : (Nat.beq j i || ((w && Nat.beq j (i + 1)) || (Nat.beq (j + 1) i && Nat.beq u.category 2))) with
    | true => rw [hb] at h; exact ⟨List.mem_cons_of_mem _ (ldrp_mem h).1, (ldrp_mem h).2⟩
    | false =>
      rw [hb] at h
      rcases List.mem_cons.mp h with h | h
      · subst h; exact ⟨List.mem_cons_self, hb⟩
      · exact ⟨List.mem_cons_of_mem _ (ldrp_mem h).1, (ldrp_mem h).2⟩
theorem lset_mem {i : Nat} {v : Value} {ls : List (Nat × Value)} {q : Nat × Value} (h : q ∈ lset i v ls) : q = (i, v) ∨ q ∈ ls := (lins_mem h).imp id fun h => (ldrp_mem h).1
theorem nbq (a b : Nat) : (a == b) = Nat.beq a b := by
  rw [Bool.eq_iff_iff]; simp [Nat.beq_eq]
theorem lset_has1 {ρ : Nat → Nat} {i nL : Nat} {v : Value} {ls : List (Nat × Value)} {lr : Array Slot} (hc : v.category = 1) (h : lv_has lr nL ((i, cv ρ v) :: (lcv ρ ls).filter (fun q => !(q.1 == i) && !(q.1 + 1 == i && q.2.category == 2)))) : lv_has lr nL (lcv ρ (lset i v ls)) := by
  refine ⟨h.1, h.2.1, fun q hq => h.2.2 q ?_⟩
  obtain ⟨z, hz, rfl⟩ := List.mem_map.mp hq
  rcases lins_mem hz with rfl | hz
  · exact List.mem_cons_self
  · obtain ⟨h1, h2⟩ := ldrp_mem hz
    refine List.mem_cons_of_mem _ (List.mem_filter.mpr ⟨List.mem_map.mpr ⟨z, h1, rfl⟩, ?_⟩)
    simp only [hc, Bool.or_eq_false_iff, Bool.and_eq_false_iff] at h2
    obtain ⟨a1, a2, a3⟩ := h2
    simp only [cv_cat, nbq, Bool.and_eq_true, Bool.not_eq_true', Bool.and_eq_false_iff]
    exact ⟨a1, a3⟩
theorem lset_has2 {ρ : Nat → Nat} {i nL : Nat} {v : Value} {ls : List (Nat × Value)} {lr : Array Slot} (hc : v.category = 2) (h : lv_has lr nL ((i, cv ρ v) :: (lcv ρ ls).filter (fun q => !(q.1 == i) && (!(q.1 == i + 1) && !(q.1 + 1 == i && q.2.category == 2))))) : lv_has lr nL (lcv ρ (lset i v ls)) := by
  refine ⟨h.1, h.2.1, fun q hq => h.2.2 q ?_⟩
  obtain ⟨z, hz, rfl⟩ := List.mem_map.mp hq
  rcases lins_mem hz with rfl | hz
  · exact List.mem_cons_self
  · obtain ⟨h1, h2⟩ := ldrp_mem hz
    refine List.mem_cons_of_mem _ (List.mem_filter.mpr ⟨List.mem_map.mpr ⟨z, h1, rfl⟩, ?_⟩)
    simp only [hc, Bool.or_eq_false_iff, Bool.and_eq_false_iff] at h2
    obtain ⟨a1, a2, a3⟩ := h2
    simp only [cv_cat, nbq, Bool.and_eq_true, Bool.not_eq_true', Bool.and_eq_false_iff]
    refine ⟨a1, ?_, a3⟩
    rcases a2 with a2 | a2
    · exact absurd a2 (by decide)
    · exact a2
theorem lset_wv {N i : Nat} {v : Value} {ls : List (Nat × Value)} (hv : wv N v) (h : ∀ q ∈ ls, wv N q.2) : ∀ q ∈ lset i v ls, wv N q.2 := fun q hq => (lset_mem hq).elim (fun e => by rw [e]; exact hv) (h q)

theorem V_iconst {z : Int} (v : Int32) (hd : decode μ.2.1 pc = .ok (.iconst z, 1)) (hv : Int32.ofInt z = v) (kk : V g μ E CX k n (pc + 1) ls (.int v :: st) σ) : V g μ E CX k n pc ls (st) σ :=
  V_step (fun hcl hl h => wv_cons wv_i h) (fun _ _ _ _ _ _ _ _ C _ _ _ _ ρ lr _ hCn hlr hst _ k => lv_iconst C.1 C.2.1 hd hv k) kk
theorem V_bipush {z : Int} (v : Int32) (hd : decode μ.2.1 pc = .ok (.bipush z, 2)) (hv : (Int8.ofInt z).toInt32 = v) (kk : V g μ E CX k n (pc + 2) ls (.int v :: st) σ) : V g μ E CX k n pc ls (st) σ :=
  V_step (fun hcl hl h => wv_cons wv_i h) (fun _ _ _ _ _ _ _ _ C _ _ _ _ ρ lr _ hCn hlr hst _ k => lv_bipush C.1 C.2.1 hd hv k) kk
theorem V_sipush {z : Int} (v : Int32) (hd : decode μ.2.1 pc = .ok (.sipush z, 3)) (hv : (Int16.ofInt z).toInt32 = v) (kk : V g μ E CX k n (pc + 3) ls (.int v :: st) σ) : V g μ E CX k n pc ls (st) σ :=
  V_step (fun hcl hl h => wv_cons wv_i h) (fun _ _ _ _ _ _ _ _ C _ _ _ _ ρ lr _ hCn hlr hst _ k => lv_sipush C.1 C.2.1 hd hv k) kk
theorem V_lconst {z : Fin 2} (v : Int64) (hd : decode μ.2.1 pc = .ok (.lconst z, 1)) (hv : Int64.ofNat (z : Nat) = v) (kk : V g μ E CX k n (pc + 1) ls (.long v :: st) σ) : V g μ E CX k n pc ls (st) σ :=
  V_step (fun hcl hl h => wv_cons wv_l h) (fun _ _ _ _ _ _ _ _ C _ _ _ _ ρ lr _ hCn hlr hst _ k => lv_lconst C.1 C.2.1 hd hv k) kk
theorem V_null  (hd : decode μ.2.1 pc = .ok (.aconst_null, 1)) (kk : V g μ E CX k n (pc + 1) ls (.ref 0 :: st) σ) : V g μ E CX k n pc ls (st) σ :=
  V_step (fun hcl hl h => wv_cons (Nat.zero_le _) h) (fun _ _ _ _ _ _ _ _ C _ _ _ _ ρ lr _ hCn hlr hst _ k => lv_null C.1 C.2.1 hd k) kk
theorem V_iload_n {q : Fin 4} {x : Int32} (hd : decode μ.2.1 pc = .ok (.iload_n q, 1)) (hl : lat q ls = some (.int x)) (kk : V g μ E CX k n (pc + 1) ls (.int x :: st) σ) : V g μ E CX k n pc ls (st) σ :=
  V_step (fun hcl hl h => wv_cons wv_i h) (fun _ _ _ _ _ _ _ _ C _ _ _ _ ρ lr _ hCn hlr hst _ k => lv_iload_n C.1 C.2.1 hd rfl (lcv_get hlr (lat_mem hl)) k) kk
theorem V_iload {i : Nat} {x : Int32} (hd : decode μ.2.1 pc = .ok (.iload i, 2)) (hl : lat i ls = some (.int x)) (kk : V g μ E CX k n (pc + 2) ls (.int x :: st) σ) : V g μ E CX k n pc ls (st) σ :=
  V_step (fun hcl hl h => wv_cons wv_i h) (fun _ _ _ _ _ _ _ _ C _ _ _ _ ρ lr _ hCn hlr hst _ k => lv_iload C.1 C.2.1 hd (lcv_get hlr (lat_mem hl)) k) kk
theorem V_lload_n {q : Fin 4} {x : Int64} (hd : decode μ.2.1 pc = .ok (.lload_n q, 1)) (hl : lat q ls = some (.long x)) (kk : V g μ E CX k n (pc + 1) ls (.long x :: st) σ) : V g μ E CX k n pc ls (st) σ :=
  V_step (fun hcl hl h => wv_cons wv_l h) (fun _ _ _ _ _ _ _ _ C _ _ _ _ ρ lr _ hCn hlr hst _ k => lv_lload_n C.1 C.2.1 hd rfl (lcv_get hlr (lat_mem hl)) k) kk
theorem V_lload {i : Nat} {x : Int64} (hd : decode μ.2.1 pc = .ok (.lload i, 2)) (hl : lat i ls = some (.long x)) (kk : V g μ E CX k n (pc + 2) ls (.long x :: st) σ) : V g μ E CX k n pc ls (st) σ :=
  V_step (fun hcl hl h => wv_cons wv_l h) (fun _ _ _ _ _ _ _ _ C _ _ _ _ ρ lr _ hCn hlr hst _ k => lv_lload C.1 C.2.1 hd (lcv_get hlr (lat_mem hl)) k) kk
theorem V_iadd {x y : Int32} (hd : decode μ.2.1 pc = .ok (.iadd, 1)) (kk : V g μ E CX k n (pc + 1) ls (.int (x + y) :: st) σ) : V g μ E CX k n pc ls (.int y :: .int x :: st) σ :=
  V_step (fun hcl hl h => wv_cons wv_i (wv_tail2 h)) (fun _ _ _ _ _ _ _ _ C _ _ _ _ ρ lr _ hCn hlr hst _ k => lv_iadd C.1 C.2.1 hd k) kk
theorem V_isub {x y : Int32} (hd : decode μ.2.1 pc = .ok (.isub, 1)) (kk : V g μ E CX k n (pc + 1) ls (.int (x - y) :: st) σ) : V g μ E CX k n pc ls (.int y :: .int x :: st) σ :=
  V_step (fun hcl hl h => wv_cons wv_i (wv_tail2 h)) (fun _ _ _ _ _ _ _ _ C _ _ _ _ ρ lr _ hCn hlr hst _ k => lv_isub C.1 C.2.1 hd k) kk
theorem V_imul {x y : Int32} (hd : decode μ.2.1 pc = .ok (.imul, 1)) (kk : V g μ E CX k n (pc + 1) ls (.int (x * y) :: st) σ) : V g μ E CX k n pc ls (.int y :: .int x :: st) σ :=
  V_step (fun hcl hl h => wv_cons wv_i (wv_tail2 h)) (fun _ _ _ _ _ _ _ _ C _ _ _ _ ρ lr _ hCn hlr hst _ k => lv_imul C.1 C.2.1 hd k) kk
theorem V_iand {x y : Int32} (hd : decode μ.2.1 pc = .ok (.iand, 1)) (kk : V g μ E CX k n (pc + 1) ls (.int (x &&& y) :: st) σ) : V g μ E CX k n pc ls (.int y :: .int x :: st) σ :=
  V_step (fun hcl hl h => wv_cons wv_i (wv_tail2 h)) (fun _ _ _ _ _ _ _ _ C _ _ _ _ ρ lr _ hCn hlr hst _ k => lv_iand C.1 C.2.1 hd k) kk
theorem V_ior {x y : Int32} (hd : decode μ.2.1 pc = .ok (.ior, 1)) (kk : V g μ E CX k n (pc + 1) ls (.int (x ||| y) :: st) σ) : V g μ E CX k n pc ls (.int y :: .int x :: st) σ :=
  V_step (fun hcl hl h => wv_cons wv_i (wv_tail2 h)) (fun _ _ _ _ _ _ _ _ C _ _ _ _ ρ lr _ hCn hlr hst _ k => lv_ior C.1 C.2.1 hd k) kk
theorem V_ixor {x y : Int32} (hd : decode μ.2.1 pc = .ok (.ixor, 1)) (kk : V g μ E CX k n (pc + 1) ls (.int (x ^^^ y) :: st) σ) : V g μ E CX k n pc ls (.int y :: .int x :: st) σ :=
  V_step (fun hcl hl h => wv_cons wv_i (wv_tail2 h)) (fun _ _ _ _ _ _ _ _ C _ _ _ _ ρ lr _ hCn hlr hst _ k => lv_ixor C.1 C.2.1 hd k) kk
theorem V_ishl {x y : Int32} (hd : decode μ.2.1 pc = .ok (.ishl, 1)) (kk : V g μ E CX k n (pc + 1) ls (.int (x <<< (y &&& 31)) :: st) σ) : V g μ E CX k n pc ls (.int y :: .int x :: st) σ :=
  V_step (fun hcl hl h => wv_cons wv_i (wv_tail2 h)) (fun _ _ _ _ _ _ _ _ C _ _ _ _ ρ lr _ hCn hlr hst _ k => lv_ishl C.1 C.2.1 hd k) kk
theorem V_ishr {x y : Int32} (hd : decode μ.2.1 pc = .ok (.ishr, 1)) (kk : V g μ E CX k n (pc + 1) ls (.int (x >>> (y &&& 31)) :: st) σ) : V g μ E CX k n pc ls (.int y :: .int x :: st) σ :=
  V_step (fun hcl hl h => wv_cons wv_i (wv_tail2 h)) (fun _ _ _ _ _ _ _ _ C _ _ _ _ ρ lr _ hCn hlr hst _ k => lv_ishr C.1 C.2.1 hd k) kk
theorem V_ladd {x y : Int64} (hd : decode μ.2.1 pc = .ok (.ladd, 1)) (kk : V g μ E CX k n (pc + 1) ls (.long (x + y) :: st) σ) : V g μ E CX k n pc ls (.long y :: .long x :: st) σ :=
  V_step (fun hcl hl h => wv_cons wv_l (wv_tail2 h)) (fun _ _ _ _ _ _ _ _ C _ _ _ _ ρ lr _ hCn hlr hst _ k => lv_ladd C.1 C.2.1 hd k) kk
theorem V_lsub {x y : Int64} (hd : decode μ.2.1 pc = .ok (.lsub, 1)) (kk : V g μ E CX k n (pc + 1) ls (.long (x - y) :: st) σ) : V g μ E CX k n pc ls (.long y :: .long x :: st) σ :=
  V_step (fun hcl hl h => wv_cons wv_l (wv_tail2 h)) (fun _ _ _ _ _ _ _ _ C _ _ _ _ ρ lr _ hCn hlr hst _ k => lv_lsub C.1 C.2.1 hd k) kk
theorem V_lmul {x y : Int64} (hd : decode μ.2.1 pc = .ok (.lmul, 1)) (kk : V g μ E CX k n (pc + 1) ls (.long (x * y) :: st) σ) : V g μ E CX k n pc ls (.long y :: .long x :: st) σ :=
  V_step (fun hcl hl h => wv_cons wv_l (wv_tail2 h)) (fun _ _ _ _ _ _ _ _ C _ _ _ _ ρ lr _ hCn hlr hst _ k => lv_lmul C.1 C.2.1 hd k) kk
theorem V_idiv {x y : Int32} (hd : decode μ.2.1 pc = .ok (.idiv, 1)) (hne : ¬ y = 0) (kk : V g μ E CX k n (pc + 1) ls (.int (x / y) :: st) σ) : V g μ E CX k n pc ls (.int y :: .int x :: st) σ :=
  V_step (fun hcl hl h => wv_cons wv_i (wv_tail2 h)) (fun _ _ _ _ _ _ _ _ C _ _ _ _ ρ lr _ hCn hlr hst _ k => lv_idiv C.1 C.2.1 hd hne k) kk
theorem V_irem {x y : Int32} (hd : decode μ.2.1 pc = .ok (.irem, 1)) (hne : ¬ y = 0) (kk : V g μ E CX k n (pc + 1) ls (.int (x - x / y * y) :: st) σ) : V g μ E CX k n pc ls (.int y :: .int x :: st) σ :=
  V_step (fun hcl hl h => wv_cons wv_i (wv_tail2 h)) (fun _ _ _ _ _ _ _ _ C _ _ _ _ ρ lr _ hCn hlr hst _ k => lv_irem C.1 C.2.1 hd hne k) kk
theorem V_ldiv {x y : Int64} (hd : decode μ.2.1 pc = .ok (.ldiv, 1)) (hne : ¬ y = 0) (kk : V g μ E CX k n (pc + 1) ls (.long (x / y) :: st) σ) : V g μ E CX k n pc ls (.long y :: .long x :: st) σ :=
  V_step (fun hcl hl h => wv_cons wv_l (wv_tail2 h)) (fun _ _ _ _ _ _ _ _ C _ _ _ _ ρ lr _ hCn hlr hst _ k => lv_ldiv C.1 C.2.1 hd hne k) kk
theorem V_ineg {x : Int32} (hd : decode μ.2.1 pc = .ok (.ineg, 1)) (kk : V g μ E CX k n (pc + 1) ls (.int (-x) :: st) σ) : V g μ E CX k n pc ls (.int x :: st) σ :=
  V_step (fun hcl hl h => wv_cons wv_i (wv_tail h)) (fun _ _ _ _ _ _ _ _ C _ _ _ _ ρ lr _ hCn hlr hst _ k => lv_ineg C.1 C.2.1 hd k) kk
theorem V_i2l {x : Int32} (hd : decode μ.2.1 pc = .ok (.i2l, 1)) (kk : V g μ E CX k n (pc + 1) ls (.long x.toInt64 :: st) σ) : V g μ E CX k n pc ls (.int x :: st) σ :=
  V_step (fun hcl hl h => wv_cons wv_l (wv_tail h)) (fun _ _ _ _ _ _ _ _ C _ _ _ _ ρ lr _ hCn hlr hst _ k => lv_i2l C.1 C.2.1 hd rfl k) kk
theorem V_l2i {x : Int64} (hd : decode μ.2.1 pc = .ok (.l2i, 1)) (kk : V g μ E CX k n (pc + 1) ls (.int x.toInt32 :: st) σ) : V g μ E CX k n pc ls (.long x :: st) σ :=
  V_step (fun hcl hl h => wv_cons wv_i (wv_tail h)) (fun _ _ _ _ _ _ _ _ C _ _ _ _ ρ lr _ hCn hlr hst _ k => lv_l2i C.1 C.2.1 hd rfl k) kk
theorem V_lcmp {x y : Int64} (hd : decode μ.2.1 pc = .ok (.lcmp, 1)) (kk : V g μ E CX k n (pc + 1) ls (.int (lg_cmp x y) :: st) σ) : V g μ E CX k n pc ls (.long y :: .long x :: st) σ :=
  V_step (fun hcl hl h => wv_cons wv_i (wv_tail2 h)) (fun _ _ _ _ _ _ _ _ C _ _ _ _ ρ lr _ hCn hlr hst _ k => W.lcmp C.1 C.2.1 hd k) kk
theorem V_dup {v : Value} (hd : decode μ.2.1 pc = .ok (.dup, 1)) (hc : v.category = 1) (kk : V g μ E CX k n (pc + 1) ls (v :: v :: st) σ) : V g μ E CX k n pc ls (v :: st) σ :=
  V_step (fun hcl hl h => wv_cons (wv_hd h) h) (fun _ _ _ _ _ _ _ _ C _ _ _ _ ρ lr _ hCn hlr hst _ k => lv_dup C.1 C.2.1 hd (by rw [cv_cat]; exact hc) k) kk
theorem V_pop {v : Value} (hd : decode μ.2.1 pc = .ok (.pop, 1)) (hc : v.category = 1) (kk : V g μ E CX k n (pc + 1) ls (st) σ) : V g μ E CX k n pc ls (v :: st) σ :=
  V_step (fun hcl hl h => wv_tail h) (fun _ _ _ _ _ _ _ _ C _ _ _ _ ρ lr _ hCn hlr hst _ k => lv_pop C.1 C.2.1 hd (by rw [cv_cat]; exact hc) k) kk
theorem V_dup2 {v w : Value} (hd : decode μ.2.1 pc = .ok (.dup2, 1)) (hc : v.category = 1) (hd2 : w.category = 1) (kk : V g μ E CX k n (pc + 1) ls (v :: w :: v :: w :: st) σ) : V g μ E CX k n pc ls (v :: w :: st) σ :=
  V_step (fun hcl hl h => wv_cons (wv_hd h) (wv_cons (wv_hd (wv_tail h)) h)) (fun _ _ _ _ _ _ _ _ C _ _ _ _ ρ lr _ hCn hlr hst _ k => lv_dup2_11 C.1 C.2.1 hd (by rw [cv_cat]; exact hc) (by rw [cv_cat]; exact hd2) k) kk
theorem V_goto {off : Int} (tgt : Nat) (hd : decode μ.2.1 pc = .ok (.goto off, 3)) (ht : (pc : Int) + off = (tgt : Int)) (kk : V g μ E CX k n tgt ls st σ) : V g μ E CX k n pc ls st σ :=
  V_step (fun _ _ h => h) (fun _ _ _ _ _ _ _ _ C _ _ _ _ _ _ _ _ _ _ _ k => lv_goto C.1 C.2.1 hd ht k) kk
theorem V_if_eq {x : Int32} {off : Int} (tgt : Nat) (hd : decode μ.2.1 pc = .ok (.ifCond .eq off, 3)) (ht : (pc : Int) + off = (tgt : Int)) (kt : x = 0 → V g μ E CX k n tgt ls st σ) (kf : ¬ x = 0 → V g μ E CX k n (pc + 3) ls st σ) : V g μ E CX k n pc ls (.int x :: st) σ :=
  V_br (fun h => wv_tail h) (fun _ _ _ _ _ _ _ _ C _ _ _ _ _ _ _ k1 k2 => lv_if_eq C.1 C.2.1 hd ht k1 k2) kt kf
theorem V_if_ne {x : Int32} {off : Int} (tgt : Nat) (hd : decode μ.2.1 pc = .ok (.ifCond .ne off, 3)) (ht : (pc : Int) + off = (tgt : Int)) (kt : ¬ x = 0 → V g μ E CX k n tgt ls st σ) (kf : x = 0 → V g μ E CX k n (pc + 3) ls st σ) : V g μ E CX k n pc ls (.int x :: st) σ :=
  V_br (fun h => wv_tail h) (fun _ _ _ _ _ _ _ _ C _ _ _ _ _ _ _ k1 k2 => lv_if_ne C.1 C.2.1 hd ht k2 k1) kf kt
theorem V_if_lt {x : Int32} {off : Int} (tgt : Nat) (hd : decode μ.2.1 pc = .ok (.ifCond .lt off, 3)) (ht : (pc : Int) + off = (tgt : Int)) (kt : x < 0 → V g μ E CX k n tgt ls st σ) (kf : ¬ x < 0 → V g μ E CX k n (pc + 3) ls st σ) : V g μ E CX k n pc ls (.int x :: st) σ :=
  V_br (fun h => wv_tail h) (fun _ _ _ _ _ _ _ _ C _ _ _ _ _ _ _ k1 k2 => lv_if_lt C.1 C.2.1 hd ht k1 k2) kt kf
theorem V_if_ge {x : Int32} {off : Int} (tgt : Nat) (hd : decode μ.2.1 pc = .ok (.ifCond .ge off, 3)) (ht : (pc : Int) + off = (tgt : Int)) (kt : 0 ≤ x → V g μ E CX k n tgt ls st σ) (kf : ¬ 0 ≤ x → V g μ E CX k n (pc + 3) ls st σ) : V g μ E CX k n pc ls (.int x :: st) σ :=
  V_br (fun h => wv_tail h) (fun _ _ _ _ _ _ _ _ C _ _ _ _ _ _ _ k1 k2 => lv_if_ge C.1 C.2.1 hd ht k1 k2) kt kf
theorem V_if_gt {x : Int32} {off : Int} (tgt : Nat) (hd : decode μ.2.1 pc = .ok (.ifCond .gt off, 3)) (ht : (pc : Int) + off = (tgt : Int)) (kt : 0 < x → V g μ E CX k n tgt ls st σ) (kf : ¬ 0 < x → V g μ E CX k n (pc + 3) ls st σ) : V g μ E CX k n pc ls (.int x :: st) σ :=
  V_br (fun h => wv_tail h) (fun _ _ _ _ _ _ _ _ C _ _ _ _ _ _ _ k1 k2 => lv_if_gt C.1 C.2.1 hd ht k1 k2) kt kf
theorem V_if_le {x : Int32} {off : Int} (tgt : Nat) (hd : decode μ.2.1 pc = .ok (.ifCond .le off, 3)) (ht : (pc : Int) + off = (tgt : Int)) (kt : x ≤ 0 → V g μ E CX k n tgt ls st σ) (kf : ¬ x ≤ 0 → V g μ E CX k n (pc + 3) ls st σ) : V g μ E CX k n pc ls (.int x :: st) σ :=
  V_br (fun h => wv_tail h) (fun _ _ _ _ _ _ _ _ C _ _ _ _ _ _ _ k1 k2 => lv_if_le C.1 C.2.1 hd ht k1 k2) kt kf
theorem V_icmp_eq {x y : Int32} {off : Int} (tgt : Nat) (hd : decode μ.2.1 pc = .ok (.if_icmp .eq off, 3)) (ht : (pc : Int) + off = (tgt : Int)) (kt : x = y → V g μ E CX k n tgt ls st σ) (kf : ¬ x = y → V g μ E CX k n (pc + 3) ls st σ) : V g μ E CX k n pc ls (.int y :: .int x :: st) σ :=
  V_br (fun h => wv_tail2 h) (fun _ _ _ _ _ _ _ _ C _ _ _ _ _ _ _ k1 k2 => lv_icmp_eq C.1 C.2.1 hd ht k1 k2) kt kf
theorem V_icmp_ne {x y : Int32} {off : Int} (tgt : Nat) (hd : decode μ.2.1 pc = .ok (.if_icmp .ne off, 3)) (ht : (pc : Int) + off = (tgt : Int)) (kt : ¬ x = y → V g μ E CX k n tgt ls st σ) (kf : x = y → V g μ E CX k n (pc + 3) ls st σ) : V g μ E CX k n pc ls (.int y :: .int x :: st) σ :=
  V_br (fun h => wv_tail2 h) (fun _ _ _ _ _ _ _ _ C _ _ _ _ _ _ _ k1 k2 => lv_icmp_ne C.1 C.2.1 hd ht k2 k1) kf kt
theorem V_icmp_lt {x y : Int32} {off : Int} (tgt : Nat) (hd : decode μ.2.1 pc = .ok (.if_icmp .lt off, 3)) (ht : (pc : Int) + off = (tgt : Int)) (kt : x < y → V g μ E CX k n tgt ls st σ) (kf : ¬ x < y → V g μ E CX k n (pc + 3) ls st σ) : V g μ E CX k n pc ls (.int y :: .int x :: st) σ :=
  V_br (fun h => wv_tail2 h) (fun _ _ _ _ _ _ _ _ C _ _ _ _ _ _ _ k1 k2 => lv_icmp_lt C.1 C.2.1 hd ht k1 k2) kt kf
theorem V_icmp_ge {x y : Int32} {off : Int} (tgt : Nat) (hd : decode μ.2.1 pc = .ok (.if_icmp .ge off, 3)) (ht : (pc : Int) + off = (tgt : Int)) (kt : y ≤ x → V g μ E CX k n tgt ls st σ) (kf : ¬ y ≤ x → V g μ E CX k n (pc + 3) ls st σ) : V g μ E CX k n pc ls (.int y :: .int x :: st) σ :=
  V_br (fun h => wv_tail2 h) (fun _ _ _ _ _ _ _ _ C _ _ _ _ _ _ _ k1 k2 => lv_icmp_ge C.1 C.2.1 hd ht k1 k2) kt kf
theorem V_icmp_gt {x y : Int32} {off : Int} (tgt : Nat) (hd : decode μ.2.1 pc = .ok (.if_icmp .gt off, 3)) (ht : (pc : Int) + off = (tgt : Int)) (kt : y < x → V g μ E CX k n tgt ls st σ) (kf : ¬ y < x → V g μ E CX k n (pc + 3) ls st σ) : V g μ E CX k n pc ls (.int y :: .int x :: st) σ :=
  V_br (fun h => wv_tail2 h) (fun _ _ _ _ _ _ _ _ C _ _ _ _ _ _ _ k1 k2 => lv_icmp_gt C.1 C.2.1 hd ht k1 k2) kt kf
theorem V_icmp_le {x y : Int32} {off : Int} (tgt : Nat) (hd : decode μ.2.1 pc = .ok (.if_icmp .le off, 3)) (ht : (pc : Int) + off = (tgt : Int)) (kt : x ≤ y → V g μ E CX k n tgt ls st σ) (kf : ¬ x ≤ y → V g μ E CX k n (pc + 3) ls st σ) : V g μ E CX k n pc ls (.int y :: .int x :: st) σ :=
  V_br (fun h => wv_tail2 h) (fun _ _ _ _ _ _ _ _ C _ _ _ _ _ _ _ k1 k2 => lv_icmp_le C.1 C.2.1 hd ht k1 k2) kt kf
theorem V_tableIn {dflt lo hi : Int} {offs : Array Int} {x : Int32} {off : Int} {len : Nat} (tgt : Nat) (hd : decode μ.2.1 pc = .ok (.tableswitch dflt lo hi offs, len)) (h1 : ¬ x.toInt < lo) (h2 : ¬ hi < x.toInt) (ho : offs[(x.toInt - lo).toNat]? = some off) (ht : (pc : Int) + off = (tgt : Int)) (kk : V g μ E CX k n tgt ls st σ) : V g μ E CX k n pc ls (.int x :: st) σ :=
  V_step (fun _ _ h => wv_tail h) (fun _ _ _ _ _ _ _ _ C _ _ _ _ _ _ _ _ _ _ _ k => lv_tableIn C.1 C.2.1 hd h1 h2 ho ht k) kk
theorem V_tableOut {dflt lo hi : Int} {offs : Array Int} {x : Int32} {len : Nat} (tgt : Nat) (hd : decode μ.2.1 pc = .ok (.tableswitch dflt lo hi offs, len)) (h1 : x.toInt < lo ∨ hi < x.toInt) (ht : (pc : Int) + dflt = (tgt : Int)) (kk : V g μ E CX k n tgt ls st σ) : V g μ E CX k n pc ls (.int x :: st) σ :=
  V_step (fun _ _ h => wv_tail h) (fun _ _ _ _ _ _ _ _ C _ _ _ _ _ _ _ _ _ _ _ k => lv_tableOut C.1 C.2.1 hd h1 ht k) kk
theorem V_ldc {v : Int32} {i : Nat} (hw : Cond.constant μ.1.cls i v ∈ lw_good) (hd : decode μ.2.1 pc = .ok (.ldc i, 2)) (kk : V g μ E CX k n (pc + 2) ls (.int v :: st) σ) : V g μ E CX k n pc ls st σ :=
  V_step (fun _ _ h => wv_cons wv_i h) (fun _ _ _ _ _ _ _ _ C _ _ _ _ _ _ _ _ _ _ _ k => lv_ldc C.1 C.2.1 C.2.2.2.1 (C.2.2.2.2.1 _ hw) hd k) kk
theorem V_ldc2 {v : Int64} {i : Nat} (hw : Cond.constantLong μ.1.cls i v ∈ lw_good) (hd : decode μ.2.1 pc = .ok (.ldc2_w i, 3)) (kk : V g μ E CX k n (pc + 3) ls (.long v :: st) σ) : V g μ E CX k n pc ls st σ :=
  V_step (fun _ _ h => wv_cons wv_l h) (fun _ _ _ _ _ _ _ _ C _ _ _ _ _ _ _ _ _ _ _ k => lv_ldc2 C.1 C.2.1 C.2.2.2.1 (C.2.2.2.2.1 _ hw) hd k) kk
section REFS
variable {p : Program} {l : Launch} {e : Env} {R : Room} {s : State} {m : MethodId} {args : Array Value} {below : List Frame} {meth : Method} {c : Code} {H : Heap} {locs : List Loc} {cells slots : Nat} {Q : State → Prop}
variable {cc : ByteArray} {lr : Array Slot} {rest : List Value}
theorem la_aload_n (hexec : p.tables.exec = Jvm.exec) (hb : c.code = cc) {q : Fin 4} {v : Value} (hv : v.isRef = true) (hdg : decode cc pc = .ok (.aload_n q, 1)) (hl : lr[(q : Nat)]? = some (.val v))
    (k : W p l e R s m args below meth c H locs cells slots Q (F0 m (pc + 1) lr (v :: rest))) : W p l e R s m args below meth c H locs cells slots Q (F0 m pc lr rest) := by
  intro T hT X
  obtain ⟨t, a, b⟩ := k T hT X
  refine ⟨t, ?_, b⟩
  jvm_step X.here [X.here.top, hexec, hb, hdg, hl, hv]
  exact a
theorem la_aload (hexec : p.tables.exec = Jvm.exec) (hb : c.code = cc) {i : Nat} {v : Value} (hv : v.isRef = true) (hdg : decode cc pc = .ok (.aload i, 2)) (hl : lr[i]? = some (.val v))
    (k : W p l e R s m args below meth c H locs cells slots Q (F0 m (pc + 2) lr (v :: rest))) : W p l e R s m args below meth c H locs cells slots Q (F0 m pc lr rest) := by
  intro T hT X
  obtain ⟨t, a, b⟩ := k T hT X
  refine ⟨t, ?_, b⟩
  jvm_step X.here [X.here.top, hexec, hb, hdg, hl, hv]
  exact a
theorem la_astore_n (hexec : p.tables.exec = Jvm.exec) (hb : c.code = cc) {q : Fin 4} {nL : Nat} {v : Value} {lv : List (Nat × Value)} (hv : v.isRef = true) (hc : v.category = 1) (hdg : decode cc pc = .ok (.astore_n q, 1)) (h : lv_has lr nL lv) (hn : (q : Nat) < nL)
    (kk : ∀ ls' : Array Slot, lv_has ls' nL (((q : Nat), v) :: lv.filter (fun z => !(z.1 == (q : Nat)) && !(z.1 + 1 == (q : Nat) && z.2.category == 2))) → W p l e R s m args below meth c H locs cells slots Q (F0 m (pc + 1) ls' rest)) : W p l e R s m args below meth c H locs cells slots Q (F0 m pc lr (v :: rest)) := by
  obtain ⟨ls', e', h'⟩ := lv_store1 (v := v) h hn hc
  intro T hT X
  obtain ⟨t, a, b⟩ := kk ls' h' T hT X
  refine ⟨t, ?_, b⟩
  jvm_step X.here [X.here.top, ↓top_set X.here.top, hexec, hb, hdg, e', hv]
  exact a
theorem la_astore (hexec : p.tables.exec = Jvm.exec) (hb : c.code = cc) {i nL : Nat} {v : Value} {lv : List (Nat × Value)} (hv : v.isRef = true) (hc : v.category = 1) (hdg : decode cc pc = .ok (.astore i, 2)) (h : lv_has lr nL lv) (hn : i < nL)
    (kk : ∀ ls' : Array Slot, lv_has ls' nL ((i, v) :: lv.filter (fun z => !(z.1 == i) && !(z.1 + 1 == i && z.2.category == 2))) → W p l e R s m args below meth c H locs cells slots Q (F0 m (pc + 2) ls' rest)) : W p l e R s m args below meth c H locs cells slots Q (F0 m pc lr (v :: rest)) := by
  obtain ⟨ls', e', h'⟩ := lv_store1 (v := v) h hn hc
  intro T hT X
  obtain ⟨t, a, b⟩ := kk ls' h' T hT X
  refine ⟨t, ?_, b⟩
  jvm_step X.here [X.here.top, ↓top_set X.here.top, hexec, hb, hdg, e', hv]
  exact a
end REFS
theorem cv_isRef (ρ : Nat → Nat) (a : Nat) : (cv ρ (.ref a)).isRef = true := by
  by_cases h : a = 0 <;> simp [cv, h, Value.isRef]
theorem V_aload_n {q : Fin 4} {a : Nat} (hd : decode μ.2.1 pc = .ok (.aload_n q, 1)) (hl : lat q ls = some (.ref a)) (kk : V g μ E CX k n (pc + 1) ls (.ref a :: st) σ) : V g μ E CX k n pc ls st σ :=
  V_step (fun _ hl' h => wv_cons (hl' _ (lat_mem hl)) h) (fun _ _ _ _ _ _ _ _ C _ _ _ _ ρ lr _ _ hlr _ _ k => la_aload_n C.1 C.2.1 (cv_isRef ρ a) hd (lcv_get hlr (lat_mem hl)) k) kk
theorem V_aload {i : Nat} {a : Nat} (hd : decode μ.2.1 pc = .ok (.aload i, 2)) (hl : lat i ls = some (.ref a)) (kk : V g μ E CX k n (pc + 2) ls (.ref a :: st) σ) : V g μ E CX k n pc ls st σ :=
  V_step (fun _ hl' h => wv_cons (hl' _ (lat_mem hl)) h) (fun _ _ _ _ _ _ _ _ C _ _ _ _ ρ lr _ _ hlr _ _ k => la_aload C.1 C.2.1 (cv_isRef ρ a) hd (lcv_get hlr (lat_mem hl)) k) kk
theorem V_ifnull {off : Int} {a : Nat} (tgt : Nat) (hd : decode μ.2.1 pc = .ok (.ifnull off, 3)) (ht : (pc : Int) + off = (tgt : Int)) (kt : a = 0 → V g μ E CX k n tgt ls st σ) (kf : ¬ a = 0 → V g μ E CX k n (pc + 3) ls st σ) : V g μ E CX k n pc ls (.ref a :: st) σ :=
  V_br (fun h => wv_tail h) (fun _ _ _ _ _ _ _ _ C _ _ _ _ ρ _ _ k1 k2 => by
    by_cases h : a = 0
    · subst h; exact lv_ifnullN C.1 C.2.1 hd ht (k1 rfl)
    · rw [List.map_cons, cv_ref h]; exact lv_ifnull C.1 C.2.1 hd (k2 h)) kt kf
theorem V_ifnonnull {off : Int} {a : Nat} (tgt : Nat) (hd : decode μ.2.1 pc = .ok (.ifnonnull off, 3)) (ht : (pc : Int) + off = (tgt : Int)) (kt : ¬ a = 0 → V g μ E CX k n tgt ls st σ) (kf : a = 0 → V g μ E CX k n (pc + 3) ls st σ) : V g μ E CX k n pc ls (.ref a :: st) σ :=
  V_br (fun h => wv_tail h) (fun _ _ _ _ _ _ _ _ C _ _ _ _ ρ _ _ k1 k2 => by
    by_cases h : a = 0
    · subst h; exact lv_ifnonnullN C.1 C.2.1 hd (k1 rfl)
    · rw [List.map_cons, cv_ref h]; exact lv_ifnonnull C.1 C.2.1 hd ht (k2 h)) kf kt
/-- the locals change -/
theorem V_loc {pc' : Nat} {ls' : List (Nat × Value)} {st0 st' : List Value} (hw : (∀ v ∈ st0, wv (zN σ) v) → ∀ v ∈ st', wv (zN σ) v) (hwl : (∀ q ∈ ls, wv (zN σ) q.2) → (∀ v ∈ st0, wv (zN σ) v) → ∀ q ∈ ls', wv (zN σ) q.2)
    (h : ∀ (p : Program) (e : Env) (s : State) (m : MethodId) (args : Array Value) (below : List Frame) (meth : Method) (c : Code), Cx g μ CX p s m args meth c → ∀ (H : Heap) (locs : List Loc) (cells slots : Nat) (ρ : Nat → Nat) (lr : Array Slot) (Q : State → Prop), lv_has lr μ.2.2.1 (lcv ρ ls) →
      (∀ lr', lv_has lr' μ.2.2.1 (lcv ρ ls') → W p g.1 e μ.2.2.2.2.2 s m args below meth c H locs cells slots Q (F0 m pc' lr' (st'.map (cv ρ)))) → W p g.1 e μ.2.2.2.2.2 s m args below meth c H locs cells slots Q (F0 m pc lr (st0.map (cv ρ))))
    (kk : V g μ E CX k n pc' ls' st' σ) : V g μ E CX k n pc ls st0 σ := by
  intro p e s m args below meth c C H locs cells slots ρ ρ0 n0 lr P
  obtain ⟨p1, p2, p3, p4, p5, p6, p7, p8, p9, p10⟩ := P
  exact h p e s m args below meth c C H locs cells slots ρ lr _ p8 fun lr' h' => kk p e s m args below meth c C H locs cells slots ρ ρ0 n0 lr' ⟨p1, p2, p3, p4, p5, p6, p7, h', hwl p9 p10, hw p10⟩
theorem V_istore_n {q : Fin 4} {x : Int32} (ls' : List (Nat × Value)) (hd : decode μ.2.1 pc = .ok (.istore_n q, 1)) (hn : Nat.blt q μ.2.2.1 = true) (hl : lset q (.int x) ls = ls') (kk : V g μ E CX k n (pc + 1) ls' st σ) : V g μ E CX k n pc ls (.int x :: st) σ := by
  subst hl
  exact V_loc (fun h => wv_tail h) (fun h _ => lset_wv wv_i h) (fun _ _ _ _ _ _ _ _ C _ _ _ _ ρ lr _ hlr k => lv_istore_n C.1 C.2.1 hd rfl hlr (by simpa [Nat.blt_eq] using hn) rfl (fun lr' h' => k lr' (lset_has1 (v := .int x) rfl h'))) kk
theorem V_istore {i : Nat} {x : Int32} (ls' : List (Nat × Value)) (hd : decode μ.2.1 pc = .ok (.istore i, 2)) (hn : Nat.blt i μ.2.2.1 = true) (hl : lset i (.int x) ls = ls') (kk : V g μ E CX k n (pc + 2) ls' st σ) : V g μ E CX k n pc ls (.int x :: st) σ := by
  subst hl
  exact V_loc (fun h => wv_tail h) (fun h _ => lset_wv wv_i h) (fun _ _ _ _ _ _ _ _ C _ _ _ _ ρ lr _ hlr k => lv_istore C.1 C.2.1 hd hlr (by simpa [Nat.blt_eq] using hn) rfl (fun lr' h' => k lr' (lset_has1 (v := .int x) rfl h'))) kk
theorem V_lstore_n {q : Fin 4} {x : Int64} (ls' : List (Nat × Value)) (hd : decode μ.2.1 pc = .ok (.lstore_n q, 1)) (hn : Nat.blt ((q : Nat) + 1) μ.2.2.1 = true) (hl : lset q (.long x) ls = ls') (kk : V g μ E CX k n (pc + 1) ls' st σ) : V g μ E CX k n pc ls (.long x :: st) σ := by
  subst hl
  exact V_loc (fun h => wv_tail h) (fun h _ => lset_wv wv_l h) (fun _ _ _ _ _ _ _ _ C _ _ _ _ ρ lr _ hlr k => lv_lstore_n C.1 C.2.1 hd rfl hlr (by simpa [Nat.blt_eq] using hn) rfl (fun lr' h' => k lr' (lset_has2 (v := .long x) rfl h'))) kk
theorem V_lstore {i : Nat} {x : Int64} (ls' : List (Nat × Value)) (hd : decode μ.2.1 pc = .ok (.lstore i, 2)) (hn : Nat.blt (i + 1) μ.2.2.1 = true) (hl : lset i (.long x) ls = ls') (kk : V g μ E CX k n (pc + 2) ls' st σ) : V g μ E CX k n pc ls (.long x :: st) σ := by
  subst hl
  exact V_loc (fun h => wv_tail h) (fun h _ => lset_wv wv_l h) (fun _ _ _ _ _ _ _ _ C _ _ _ _ ρ lr _ hlr k => lv_lstore C.1 C.2.1 hd hlr (by simpa [Nat.blt_eq] using hn) rfl (fun lr' h' => k lr' (lset_has2 (v := .long x) rfl h'))) kk
theorem V_astore_n {q : Fin 4} {a : Nat} (ls' : List (Nat × Value)) (hd : decode μ.2.1 pc = .ok (.astore_n q, 1)) (hn : Nat.blt q μ.2.2.1 = true) (hl : lset q (.ref a) ls = ls') (kk : V g μ E CX k n (pc + 1) ls' st σ) : V g μ E CX k n pc ls (.ref a :: st) σ := by
  subst hl
  exact V_loc (fun h => wv_tail h) (fun h h2 => lset_wv (wv_hd h2) h) (fun _ _ _ _ _ _ _ _ C _ _ _ _ ρ lr _ hlr k => la_astore_n C.1 C.2.1 (cv_isRef ρ a) (by rw [cv_cat]; rfl) hd hlr (by simpa [Nat.blt_eq] using hn) (fun lr' h' => k lr' (lset_has1 (v := .ref a) rfl h'))) kk
theorem V_astore {i : Nat} {a : Nat} (ls' : List (Nat × Value)) (hd : decode μ.2.1 pc = .ok (.astore i, 2)) (hn : Nat.blt i μ.2.2.1 = true) (hl : lset i (.ref a) ls = ls') (kk : V g μ E CX k n (pc + 2) ls' st σ) : V g μ E CX k n pc ls (.ref a :: st) σ := by
  subst hl
  exact V_loc (fun h => wv_tail h) (fun h h2 => lset_wv (wv_hd h2) h) (fun _ _ _ _ _ _ _ _ C _ _ _ _ ρ lr _ hlr k => la_astore C.1 C.2.1 (cv_isRef ρ a) (by rw [cv_cat]; rfl) hd hlr (by simpa [Nat.blt_eq] using hn) (fun lr' h' => k lr' (lset_has1 (v := .ref a) rfl h'))) kk
theorem V_iinc {i : Nat} {z : Int} {x : Int32} (v : Int32) (ls' : List (Nat × Value)) (hd : decode μ.2.1 pc = .ok (.iinc i z, 3)) (hv : x + Int32.ofInt z = v) (hg : lat i ls = some (.int x)) (hn : Nat.blt i μ.2.2.1 = true) (hl : lset i (.int v) ls = ls') (kk : V g μ E CX k n (pc + 3) ls' st σ) : V g μ E CX k n pc ls st σ := by
  subst hl
  refine V_loc (fun h => h) (fun h _ => lset_wv wv_i h) (fun _ _ _ _ _ _ _ _ C _ _ _ _ ρ lr _ hlr k => ?_) kk
  obtain ⟨j, hj⟩ := List.getElem?_of_mem (List.mem_map.mpr ⟨_, lat_mem hg, rfl⟩ : (i, cv ρ (.int x)) ∈ lcv ρ ls)
  exact lv_iinc C.1 C.2.1 hd hlr hj hv (by simpa [Nat.blt_eq] using hn) rfl (fun lr' h' => k lr' (lset_has1 (v := .int v) rfl h'))
end VR
