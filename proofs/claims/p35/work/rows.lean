section
-- ===== PART A: goes FIRST, ahead of the names: the tables' words, and 'selects' of the private methods out of them =====
/-- a private method of a class that the tables say can be made, by its rows of tables_1 -/
def lw_okq (q : MethodName × Nat) : Prop := (q.1.cls ≠ "java/lang/invoke/MethodHandle" ∧ q.1.cls ≠ "java/lang/invoke/VarHandle") ∧ Cond.instantiable q.1.cls q.2 ∈ tables_1 ∧ Cond.privateMethod q.1 ∈ tables_1 ∧ Cond.instanceMethod q.1 ∈ tables_1
theorem lw_p0 : lw_okq (⟨"java/lang/Throwable", "fillInStackTrace", "(I)Ljava/lang/Throwable;"⟩, 6) := ⟨⟨by decide +kernel, by decide +kernel⟩, List.mem_of_getElem? (i := 274) (by decide +kernel), List.mem_of_getElem? (i := 272) (by decide +kernel), List.mem_of_getElem? (i := 273) (by decide +kernel)⟩
theorem lw_p1 : lw_okq (⟨"Proratehouse", "ticketAt", "(I)LProratehouse$Ticket;"⟩, 11) := ⟨⟨by decide +kernel, by decide +kernel⟩, List.mem_of_getElem? (i := 21) (by decide +kernel), List.mem_of_getElem? (i := 383) (by decide +kernel), List.mem_of_getElem? (i := 384) (by decide +kernel)⟩
theorem lw_p2 : lw_okq (⟨"Proratehouse$Proration", "provisoOf", "(III)I"⟩, 2) := ⟨⟨by decide +kernel, by decide +kernel⟩, List.mem_of_getElem? (i := 75) (by decide +kernel), List.mem_of_getElem? (i := 534) (by decide +kernel), List.mem_of_getElem? (i := 535) (by decide +kernel)⟩
theorem lw_p3 : lw_okq (⟨"Proratehouse$Journey", "stopsBetween", "(II)I"⟩, 2) := ⟨⟨by decide +kernel, by decide +kernel⟩, List.mem_of_getElem? (i := 91) (by decide +kernel), List.mem_of_getElem? (i := 616) (by decide +kernel), List.mem_of_getElem? (i := 617) (by decide +kernel)⟩
theorem lw_p4 : lw_okq (⟨"Proratehouse$Journey", "milesOfLegs", "(LProratehouse$Pairs;II)I"⟩, 2) := ⟨⟨by decide +kernel, by decide +kernel⟩, List.mem_of_getElem? (i := 91) (by decide +kernel), List.mem_of_getElem? (i := 624) (by decide +kernel), List.mem_of_getElem? (i := 625) (by decide +kernel)⟩
theorem lw_p5 : lw_okq (⟨"Proratehouse$Journey", "highestBetween", "(LProratehouse$Tariff;II)I"⟩, 2) := ⟨⟨by decide +kernel, by decide +kernel⟩, List.mem_of_getElem? (i := 91) (by decide +kernel), List.mem_of_getElem? (i := 634) (by decide +kernel), List.mem_of_getElem? (i := 635) (by decide +kernel)⟩
theorem lw_p6 : lw_okq (⟨"Proratehouse$Ways", "goOn", "(III)V"⟩, 5) := ⟨⟨by decide +kernel, by decide +kernel⟩, List.mem_of_getElem? (i := 131) (by decide +kernel), List.mem_of_getElem? (i := 646) (by decide +kernel), List.mem_of_getElem? (i := 647) (by decide +kernel)⟩
theorem lw_p7 : lw_okq (⟨"Proratehouse$Ways", "sumOfSet", "(II)I"⟩, 5) := ⟨⟨by decide +kernel, by decide +kernel⟩, List.mem_of_getElem? (i := 131) (by decide +kernel), List.mem_of_getElem? (i := 663) (by decide +kernel), List.mem_of_getElem? (i := 664) (by decide +kernel)⟩
theorem lw_p8 : lw_okq (⟨"Proratehouse", "canBeIssued", "()Z"⟩, 11) := ⟨⟨by decide +kernel, by decide +kernel⟩, List.mem_of_getElem? (i := 21) (by decide +kernel), List.mem_of_getElem? (i := 689) (by decide +kernel), List.mem_of_getElem? (i := 690) (by decide +kernel)⟩
theorem lw_p9 : lw_okq (⟨"Proratehouse", "issued", "(I)LProratehouse$Ticket;"⟩, 11) := ⟨⟨by decide +kernel, by decide +kernel⟩, List.mem_of_getElem? (i := 21) (by decide +kernel), List.mem_of_getElem? (i := 698) (by decide +kernel), List.mem_of_getElem? (i := 699) (by decide +kernel)⟩
theorem lw_p10 : lw_okq (⟨"Proratehouse", "shareOut", "(LProratehouse$Ticket;)V"⟩, 11) := ⟨⟨by decide +kernel, by decide +kernel⟩, List.mem_of_getElem? (i := 21) (by decide +kernel), List.mem_of_getElem? (i := 796) (by decide +kernel), List.mem_of_getElem? (i := 797) (by decide +kernel)⟩
theorem lw_p11 : lw_okq (⟨"Proratehouse$Proration", "weightOf", "(LProratehouse$Coupon;LProratehouse$Pairs;)I"⟩, 2) := ⟨⟨by decide +kernel, by decide +kernel⟩, List.mem_of_getElem? (i := 75) (by decide +kernel), List.mem_of_getElem? (i := 805) (by decide +kernel), List.mem_of_getElem? (i := 806) (by decide +kernel)⟩
theorem lw_p12 : lw_okq (⟨"Proratehouse$Proration", "shareByWeights", "(LProratehouse$Ticket;IIII)V"⟩, 2) := ⟨⟨by decide +kernel, by decide +kernel⟩, List.mem_of_getElem? (i := 75) (by decide +kernel), List.mem_of_getElem? (i := 813) (by decide +kernel), List.mem_of_getElem? (i := 814) (by decide +kernel)⟩
theorem lw_p13 : lw_okq (⟨"Proratehouse", "receive", "(LProratehouse$Ticket;I)V"⟩, 11) := ⟨⟨by decide +kernel, by decide +kernel⟩, List.mem_of_getElem? (i := 21) (by decide +kernel), List.mem_of_getElem? (i := 821) (by decide +kernel), List.mem_of_getElem? (i := 822) (by decide +kernel)⟩
theorem lw_p14 : lw_okq (⟨"Proratehouse", "addCash", "(IJ)V"⟩, 11) := ⟨⟨by decide +kernel, by decide +kernel⟩, List.mem_of_getElem? (i := 21) (by decide +kernel), List.mem_of_getElem? (i := 825) (by decide +kernel), List.mem_of_getElem? (i := 826) (by decide +kernel)⟩
theorem lw_p15 : lw_okq (⟨"Proratehouse$Ticket", "openAt", "(I)LProratehouse$Coupon;"⟩, 8) := ⟨⟨by decide +kernel, by decide +kernel⟩, List.mem_of_getElem? (i := 701) (by decide +kernel), List.mem_of_getElem? (i := 843) (by decide +kernel), List.mem_of_getElem? (i := 844) (by decide +kernel)⟩
def lw_privs_1 : List (MethodName × Nat) := [(⟨"java/lang/Throwable", "fillInStackTrace", "(I)Ljava/lang/Throwable;"⟩, 6), (⟨"Proratehouse", "ticketAt", "(I)LProratehouse$Ticket;"⟩, 11), (⟨"Proratehouse$Proration", "provisoOf", "(III)I"⟩, 2), (⟨"Proratehouse$Journey", "stopsBetween", "(II)I"⟩, 2), (⟨"Proratehouse$Journey", "milesOfLegs", "(LProratehouse$Pairs;II)I"⟩, 2), (⟨"Proratehouse$Journey", "highestBetween", "(LProratehouse$Tariff;II)I"⟩, 2), (⟨"Proratehouse$Ways", "goOn", "(III)V"⟩, 5), (⟨"Proratehouse$Ways", "sumOfSet", "(II)I"⟩, 5), (⟨"Proratehouse", "canBeIssued", "()Z"⟩, 11), (⟨"Proratehouse", "issued", "(I)LProratehouse$Ticket;"⟩, 11), (⟨"Proratehouse", "shareOut", "(LProratehouse$Ticket;)V"⟩, 11), (⟨"Proratehouse$Proration", "weightOf", "(LProratehouse$Coupon;LProratehouse$Pairs;)I"⟩, 2), (⟨"Proratehouse$Proration", "shareByWeights", "(LProratehouse$Ticket;IIII)V"⟩, 2), (⟨"Proratehouse", "receive", "(LProratehouse$Ticket;I)V"⟩, 11), (⟨"Proratehouse", "addCash", "(IJ)V"⟩, 11), (⟨"Proratehouse$Ticket", "openAt", "(I)LProratehouse$Coupon;"⟩, 8)]
theorem lw_r1 : ∀ q ∈ lw_privs_1, lw_okq q := List.forall_mem_cons.mpr ⟨lw_p0, List.forall_mem_cons.mpr ⟨lw_p1, List.forall_mem_cons.mpr ⟨lw_p2, List.forall_mem_cons.mpr ⟨lw_p3, List.forall_mem_cons.mpr ⟨lw_p4, List.forall_mem_cons.mpr ⟨lw_p5, List.forall_mem_cons.mpr ⟨lw_p6, List.forall_mem_cons.mpr ⟨lw_p7, List.forall_mem_cons.mpr ⟨lw_p8, List.forall_mem_cons.mpr ⟨lw_p9, List.forall_mem_cons.mpr ⟨lw_p10, List.forall_mem_cons.mpr ⟨lw_p11, List.forall_mem_cons.mpr ⟨lw_p12, List.forall_mem_cons.mpr ⟨lw_p13, List.forall_mem_cons.mpr ⟨lw_p14, List.forall_mem_cons.mpr ⟨lw_p15, fun _ h => absurd h List.not_mem_nil⟩⟩⟩⟩⟩⟩⟩⟩⟩⟩⟩⟩⟩⟩⟩⟩
theorem lw_p16 : lw_okq (⟨"Proratehouse$Clearing", "forgetNets", "()V"⟩, 5) := ⟨⟨by decide +kernel, by decide +kernel⟩, List.mem_of_getElem? (i := 155) (by decide +kernel), List.mem_of_getElem? (i := 936) (by decide +kernel), List.mem_of_getElem? (i := 937) (by decide +kernel)⟩
theorem lw_p17 : lw_okq (⟨"Proratehouse$Bill", "amountBack", "()I"⟩, 6) := ⟨⟨by decide +kernel, by decide +kernel⟩, List.mem_of_getElem? (i := 892) (by decide +kernel), List.mem_of_getElem? (i := 953) (by decide +kernel), List.mem_of_getElem? (i := 954) (by decide +kernel)⟩
theorem lw_p18 : lw_okq (⟨"Proratehouse$Clearing", "addToNets", "(LProratehouse$Bill;I)V"⟩, 5) := ⟨⟨by decide +kernel, by decide +kernel⟩, List.mem_of_getElem? (i := 155) (by decide +kernel), List.mem_of_getElem? (i := 957) (by decide +kernel), List.mem_of_getElem? (i := 958) (by decide +kernel)⟩
theorem lw_p19 : lw_okq (⟨"Proratehouse", "moveNets", "()V"⟩, 11) := ⟨⟨by decide +kernel, by decide +kernel⟩, List.mem_of_getElem? (i := 21) (by decide +kernel), List.mem_of_getElem? (i := 961) (by decide +kernel), List.mem_of_getElem? (i := 962) (by decide +kernel)⟩
def lw_privs_2 : List (MethodName × Nat) := [(⟨"Proratehouse$Clearing", "forgetNets", "()V"⟩, 5), (⟨"Proratehouse$Bill", "amountBack", "()I"⟩, 6), (⟨"Proratehouse$Clearing", "addToNets", "(LProratehouse$Bill;I)V"⟩, 5), (⟨"Proratehouse", "moveNets", "()V"⟩, 11)]
theorem lw_r2 : ∀ q ∈ lw_privs_2, lw_okq q := List.forall_mem_cons.mpr ⟨lw_p16, List.forall_mem_cons.mpr ⟨lw_p17, List.forall_mem_cons.mpr ⟨lw_p18, List.forall_mem_cons.mpr ⟨lw_p19, fun _ h => absurd h List.not_mem_nil⟩⟩⟩⟩
def lw_privs : List (MethodName × Nat) := lw_privs_1 ++ (lw_privs_2)
def lw_tbl : List Cond := k2_sels lw_privs ++ tables_1
theorem lw_privs_ok : ∀ q ∈ lw_privs, lw_okq q := by
  show ∀ q ∈ lw_privs_1 ++ (lw_privs_2), lw_okq q
  exact List.forall_mem_append.mpr ⟨lw_r1, lw_r2⟩
-- ===== end of PART A; then your names; then what follows =====
end
section
/-! ===== BEGIN words of one list among another's, by their places ===== -/
theorem goodIn_r {big : List Cond} (ws : List Cond) (ps : List Nat) (hp : ws = ps.filterMap (fun i => big[i]?)) (h : ws.all goodWord = true) : GoodIn big ws := by
  intro w hw
  have h1 := List.all_eq_true.mp h w hw
  rw [hp] at hw
  obtain ⟨i, -, hi⟩ := List.mem_filterMap.mp hw
  have hm : w ∈ big := by first | exact List.mem_of_getElem? hi | exact List.getElem?_mem hi
  exact ⟨hm, good_of_word h1⟩
theorem goodIn_app {big a b : List Cond} (ha : GoodIn big a) (hb : GoodIn big b) : GoodIn big (a ++ b) := fun w h => (List.mem_append.mp h).elim (ha w) (hb w)
theorem goodIn_ca {big a b : List Cond} {c : Cond} (ha : GoodIn big (c :: a)) (hb : GoodIn big b) : GoodIn big (c :: (a ++ b)) := fun w h => (List.mem_cons.mp h).elim (fun e => ha w (List.mem_cons.mpr (Or.inl e))) (fun h => (List.mem_append.mp h).elim (fun h => ha w (List.mem_cons.mpr (Or.inr h))) (hb w))
theorem goodIn_sub {big ws : List Cond} (hm : ∀ w ∈ ws, w ∈ big) (h : ws.all goodWord = true) : GoodIn big ws := fun w hw => ⟨hm w hw, good_of_word (List.all_eq_true.mp h w hw)⟩
/-! ===== END ===== -/

/-! ===== BEGIN exceptions that leave a method, and their catching by the caller (launches without stack traces) ===== -/
section VXA
/-! The laws vx_back, vx_callV, vx_callS, vx_callSW, vx_throw0, vx_throwS follow proofs of the library, with one case more: JvmDerived/Free/Laws.lean (Back.of_free), Shelf42/LK1.lean (callV, callS), Shelf/KitTraced.lean (throwNew0V, throwNewS). -/
/-- where a method has thrown q: the class by its name, the cell, what was written, the world -/
def vx_T (XC : String → State → State → Prop) (st : State) (q : Addr) (t : State) (mc ms : Nat) (free : Addr → Prop) : Prop :=
  ∃ (E : String) (ce : Cell) (L : List Loc), XC E st t ∧ t.heap[q]? = some ce ∧ ce.vm = .none ∧ st.vm.findClass E = some ce.cls ∧ st.WarmedH t.vm ∧ st.sameButNew ({ t with vm := st.vm } : State) L mc ms ∧ ∀ z ∈ L, free z.base
def vx_Q (Qc : Array Value → State → Outcome → State → Prop) (XC : String → State → State → Prop) (mc ms : Nat) (free : Addr → Prop) : Array Value → State → Outcome → State → Prop := fun a st o t =>
  (Qc a st o t ∧ ∃ L, FrameEnd st o t L mc ms ∧ ∀ q ∈ L, free q.base) ∨ ∃ q, o = .threw q ∧ vx_T XC st q t mc ms free
/-- a callee that returns or throws -/
def vx_Met (l : Launch) (y : MethodName) (ws : List Cond) (rm : Room) (Pc : Array Value → State → Prop) (Qc : Array Value → State → Outcome → State → Prop) (XC : String → State → State → Prop) (mc ms : Nat) (free : Addr → Prop) : Prop :=
  MetFree l y (headSpec ws rm) Pc (fun _ _ _ _ _ => True) (vx_Q Qc XC mc ms free)
def vx_Post (XC : String → State → State → Prop) (mc ms : Nat) (free : Addr → Prop) : Pt → Array Value → Addr → Pt → Prop := fun A a q B =>
  ∃ (g : JFrame) (mk : MethodId) (t : State) (L : List Loc) (E : String) (ce : Cell), B.U.heap = t.heap ∧ B.U.vm = t.vm ∧ XC E (A.U.calling g mk a) t ∧ t.heap[q]? = some ce ∧ ce.vm = .none ∧ A.U.vm.findClass E = some ce.cls ∧ B.locs = A.locs ++ L ∧ (∀ z ∈ L, free z.base) ∧ B.cells = A.cells + mc ∧ B.slots = A.slots + ms
def vx_Back (l : Launch) (R : Room) (p : Program) (e : Env) (below : List Frame) (s : State) (sargs : Array Value) (y : MethodName) (len W9 : Nat)
    (Pre : Pt → Array Value → Prop) (Post : Pt → Array Value → Option Value → Pt → Prop) (PostX : Pt → Array Value → Addr → Pt → Prop) : Prop :=
  ∀ (m : MethodId) (meth : Method) (c : Code) (A : Pt) (g : JFrame) (ig : Instr) (mk : MethodId) (a : Array Value),
    Stand p l e R s m sargs below meth c A.U A.locs A.cells A.slots → g.method = m → g.locals.size = c.maxLocals → decode c.code g.pc = .ok (ig, len) →
    2 * g.monitorRoom + (g.stack.map fun v => v.category).sum ≤ W9 → A.U.methodNamed? y = some mk → Pre A a →
    (∃ (v : Option Value) (B : Pt), Stand p l e R s m sargs below meth c B.U B.locs B.cells B.slots ∧ Post A a v B ∧
      Steps p.tables e below (doInvoke e (A.U.setTop g) [] mk a).1 (B.U.setTop { g with pc := g.pc + len, stack := v.toList ++ g.stack })) ∨
    (∃ (q : Addr) (B : Pt), Stand p l e R s m sargs below meth c B.U B.locs B.cells B.slots ∧ PostX A a q B ∧
      Steps p.tables e below (doInvoke e (A.U.setTop g) [] mk a).1 ((B.U.setTop g).pushFrame (.throwing q)))
section Payer
variable {l : Launch} {R : Room} {p : Program} {e : Env} {below : List Frame} {s : State} {sargs : Array Value} {y : MethodName} {len W9 : Nat}
theorem vx_back {ws : List Cond} {rm : Room} {Pc : Array Value → State → Prop} {Qc : Array Value → State → Outcome → State → Prop} {XC : String → State → State → Prop} {mc ms : Nat} {free : Addr → Prop} {bytes : ByteArray} {maxL : Nat} {ret : Option FieldType}
    (hM : vx_Met l y ws rm Pc Qc XC mc ms free) (hblind : FrameBlind Pc) (hrc : rm.cells = mc) (hrs : rm.slots = ms)
    (hframes : rm.frames + 1 ≤ R.frames) (hlocals : W9 + (maxL + 11) + rm.locals ≤ R.locals)
    (hws : ∀ w ∈ ws, ∀ a' U, s.WarmedH U.vm → w.before a' U = true) (hcode : Cond.code y bytes maxL ret ∈ ws) (hinit : ∀ a' U, s.WarmedH U.vm → (Cond.initialized y.cls).before a' U = true) :
    vx_Back l R p e below s sargs y len W9 (PreOf R mc ms Pc) (PostOf Qc mc ms free) (vx_Post XC mc ms free) := by
  intro m meth c A g ig mk a X hg hsize hdg hW hn hp
  have h1 : (headSpec ws rm).pre.before a A.U = true := atoms_intro fun w hw => hws w hw _ _ X.warmed
  have h2 : (Cond.code y bytes maxL ret).before a A.U = true := hws _ hcode _ _ X.warmed
  have h3 : (Cond.initialized y.cls).before a A.U = true := hinit _ _ X.warmed
  have h4 : A.cells + (headSpec ws rm).room.cells ≤ R.cells := by rw [show (headSpec ws rm).room.cells = mc from hrc]; exact hp.1
  have h5 : A.slots + (headSpec ws rm).room.slots ≤ R.slots := by rw [show (headSpec ws rm).room.slots = ms from hrs]; exact hp.2.1
  have hPc : Pc a (A.U.calling g mk a) := hblind _ _ _ _ hp.2.2
  obtain ⟨U, Ls, c0, s0⟩ := A
  dsimp only [Pt.U, Pt.locs, Pt.cells, Pt.slots] at h1 h2 h3 h4 h5 X hn hPc ⊢
  obtain ⟨methY, cY, hmY, hcY, -, hlY, -, -, -, -⟩ := Cond.code_spec hn h2
  obtain ⟨kY, hkY, -⟩ := className_of_methodNamed hn
  have hinitY : kY.init = .initialized := Cond.initialized_spec (findClass_of_methodNamed hn) hkY h3
  have h : At U g.method c below := by rw [hg]; exact X.here
  have hlocals9 : W9 + (maxL + 11) + (headSpec ws rm).room.locals ≤ R.locals := hlocals
  have happ : (headSpec ws rm).appliesLoose y e.platform (U.calling g mk a) = true :=
    Spec.appliesLoose_calling (g := g) h hdg hn hkY hinitY
      (X.room_calling (g := g) (R' := (headSpec ws rm).room) hsize hmY hcY hframes (by rw [hlY]; omega) h4 h5) h1
  obtain ⟨mid, hmid⟩ := h.above
  have hfr : (U.setTop g).frames = (.java g :: mid) ++ below := by rw [State.frames_setTop' g h.top, hmid]; rfl
  obtain ⟨o, s₂, hsteps, -, hend, hq⟩ := Steps.callFree hM p X.admits X.cas X.clock (acts := []) hfr happ hPc trivial
  have hq' : vx_Q Qc XC mc ms free a (U.calling g mk a) o s₂ := hq
  rw [State.frames_setTop' g h.top] at hend
  obtain ⟨g₀, hg0⟩ := Option.isSome_iff_exists.mp h.top
  obtain ⟨r, hr⟩ := State.topJava?_eq_some.mp hg0
  have hr' : (({ U with heap := s₂.heap, slotsUsed := s₂.slotsUsed } : State).setVm s₂.vm).frames = .java g₀ :: r := hr
  rcases hq' with ⟨hqc, L, hfe, hL⟩ | ⟨q, rfl, E, ce, L, hx, hce, hcv, hcl, hW₂, hsm, hL⟩
  · obtain ⟨⟨v, rfl⟩, hW₂, e2, q2, q3, q4, q5, q6⟩ := id hfe
    have e3 : s₂ = ({ (U.calling g mk a).setFrames s₂.frames with heap := s₂.heap, slotsUsed := s₂.slotsUsed } : State).setVm s₂.vm := by
      have : s₂ = ({ s₂ with vm := (U.calling g mk a).vm } : State).setVm s₂.vm := rfl
      rw [e2] at this
      exact this
    obtain ⟨c₂, i₂, len₂, hc₂, hd₂, hf₂⟩ := hend
    have hW' : U.WarmedH s₂.vm := hW₂
    have hcc : c₂ = c := by
      have h1 : s₂.code? g.method = U.code? g.method := by
        rw [State.code?_eq, State.code?_eq, hW'.alike.method?]
      exact Option.some.inj (hc₂.symm.trans (h1.trans h.code))
    subst hcc
    have hlen : len₂ = len := by rw [hdg] at hd₂; cases hd₂; rfl
    subst hlen
    have hs₂ : s₂ = (({ U with heap := s₂.heap, slotsUsed := s₂.slotsUsed } : State).setVm s₂.vm).setTop { g with pc := g.pc + len₂, stack := v.toList ++ g.stack } := by
      refine e3.trans ?_
      rw [hf₂, State.calling_eq h.top, State.setFrames_setFrames, State.setTop_of_frames _ hr', hr]
      rfl
    have hsame : U.sameButNew ({ U with heap := s₂.heap, slotsUsed := s₂.slotsUsed } : State) L mc ms := by
      refine ⟨?_, q2, q3, q4, q5, q6⟩
      obtain ⟨t, ht, -⟩ := State.frames_cons hr
      show ({ U with heap := s₂.heap, slotsUsed := s₂.slotsUsed } : State) = { U.setFrames U.frames with heap := s₂.heap, slotsUsed := s₂.slotsUsed }
      rw [State.setFrames_self ht]
    subst hg
    refine Or.inl ⟨v, ⟨(({ U with heap := s₂.heap, slotsUsed := s₂.slotsUsed } : State).setVm s₂.vm), Ls ++ L, c0 + mc, s0 + ms⟩,
      ⟨X.admits, X.cas, X.clock, X.frames, X.room, X.hears, X.method, X.code, (X.here.setHeapUsed s₂.heap s₂.slotsUsed).setVm hW'.alike, X.tail, State.WarmedH.trans X.warmed hW', X.limits, X.bytes, X.same.trans (hsame.setVm s.vm)⟩,
      ⟨g, mk, s₂, L, rfl, rfl, hqc, rfl, hL, rfl, rfl⟩, ?_⟩
    show Steps p.tables e below _ ((({ U with heap := s₂.heap, slotsUsed := s₂.slotsUsed } : State).setVm s₂.vm).setTop { g with pc := g.pc + len₂, stack := v.toList ++ g.stack })
    rw [← hs₂]
    exact hsteps
  · obtain ⟨e2, q2, q3, q4, q5, q6⟩ := id hsm
    have e3 : s₂ = ({ (U.calling g mk a).setFrames s₂.frames with heap := s₂.heap, slotsUsed := s₂.slotsUsed } : State).setVm s₂.vm := by
      have : s₂ = ({ s₂ with vm := (U.calling g mk a).vm } : State).setVm s₂.vm := rfl
      rw [e2] at this
      exact this
    have hf₂ : s₂.frames = .throwing q :: .java g :: U.frames.tail := hend
    have hW' : U.WarmedH s₂.vm := hW₂
    have hs₂ : s₂ = ((({ U with heap := s₂.heap, slotsUsed := s₂.slotsUsed } : State).setVm s₂.vm).setTop g).pushFrame (.throwing q) := by
      refine e3.trans ?_
      rw [hf₂, State.calling_eq h.top, State.setFrames_setFrames, State.pushFrame, State.frames_setTop _ hr', State.setTop_of_frames _ hr', State.setFrames_setFrames, hr]
      rfl
    have hsame : U.sameButNew ({ U with heap := s₂.heap, slotsUsed := s₂.slotsUsed } : State) L mc ms := by
      refine ⟨?_, q2, q3, q4, q5, q6⟩
      obtain ⟨t, ht, -⟩ := State.frames_cons hr
      show ({ U with heap := s₂.heap, slotsUsed := s₂.slotsUsed } : State) = { U.setFrames U.frames with heap := s₂.heap, slotsUsed := s₂.slotsUsed }
      rw [State.setFrames_self ht]
    subst hg
    refine Or.inr ⟨q, ⟨(({ U with heap := s₂.heap, slotsUsed := s₂.slotsUsed } : State).setVm s₂.vm), Ls ++ L, c0 + mc, s0 + ms⟩,
      ⟨X.admits, X.cas, X.clock, X.frames, X.room, X.hears, X.method, X.code, (X.here.setHeapUsed s₂.heap s₂.slotsUsed).setVm hW'.alike, X.tail, State.WarmedH.trans X.warmed hW', X.limits, X.bytes, X.same.trans (hsame.setVm s.vm)⟩,
      ⟨g, mk, s₂, L, E, ce, rfl, rfl, hx, hce, hcv, hcl, rfl, hL, rfl, rfl⟩, ?_⟩
    show Steps p.tables e below _ (((({ U with heap := s₂.heap, slotsUsed := s₂.slotsUsed } : State).setVm s₂.vm).setTop g).pushFrame (.throwing q))
    rw [← hs₂]
    exact hsteps
end Payer
section Calls
variable {p : Program} {l : Launch} {e : Env} {R : Room} {s : State} {m : MethodId} {args : Array Value} {below : List Frame} {meth : Method} {c : Code} {T : State} {locs : List Loc} {cells slots : Nat}
theorem vx_callV (X : Stand p l e R s m args below meth c T locs cells slots) (hexec : p.tables.exec = Jvm.exec) {own C : String} {index : Nat} {y : MethodName} {bytes : ByteArray} {maxL : Nat} {ret : Option FieldType}
    (hown : s.vm.findClass own = some m.cls) (hlink : (Cond.methodLink own index y).before args s = true) (hinst : (Cond.instanceMethod y).before args s = true) (hsel : (Cond.selects C y y).before args s = true)
    (hcode : (Cond.code y bytes maxL ret).before args s = true) (hy : y.cls ≠ "java/lang/invoke/MethodHandle" ∧ y.cls ≠ "java/lang/invoke/VarHandle")
    {W9 : Nat} {Pre : Pt → Array Value → Prop} {Post : Pt → Array Value → Option Value → Pt → Prop} {PostX : Pt → Array Value → Addr → Pt → Prop} (hK : vx_Back l R p e below s args y 3 W9 Pre Post PostX)
    {b : Addr} {cellB : Cell} (hcell : T.heap[b]? = some cellB) (hobj : cellB.vm.isStatics = false) (hcls : s.vm.findClass C = some cellB.cls)
    {g : JFrame} (hg : g.method = m) (hsize : g.locals.size = c.maxLocals) {argsL rest : List Value} (hlen : ∀ sig, parseMethodDescriptor y.desc = some sig → argsL.length = sig.parameters.length)
    (hstack : g.stack = argsL.reverse ++ .ref b :: rest) (hW : 2 * g.monitorRoom + (rest.map fun v => v.category).sum ≤ W9) (hdg : decode c.code g.pc = .ok (.invokevirtual index, 3))
    (hpre : ∀ vm₁, s.WarmedH vm₁ → Pre ⟨T.setVm vm₁, locs, cells, slots⟩ (Value.ref b :: argsL).toArray) :
    (∃ (v : Option Value) (vm₁ : Vm) (B : Pt), s.WarmedH vm₁ ∧ Stand p l e R s m args below meth c B.U B.locs B.cells B.slots ∧ Post ⟨T.setVm vm₁, locs, cells, slots⟩ (Value.ref b :: argsL).toArray v B ∧
      ∀ target, Steps p.tables e below (B.U.setTop { g with pc := g.pc + 3, stack := v.toList ++ rest }) target → Steps p.tables e below (T.setTop g) target) ∨
    (∃ (q : Addr) (vm₁ : Vm) (B : Pt), s.WarmedH vm₁ ∧ Stand p l e R s m args below meth c B.U B.locs B.cells B.slots ∧ PostX ⟨T.setVm vm₁, locs, cells, slots⟩ (Value.ref b :: argsL).toArray q B ∧
      Steps p.tables e below (T.setTop g) ((B.U.setTop { g with stack := rest }).pushFrame (.throwing q))) := by
  obtain ⟨mk, methM, hnamed, hmethM, hstM, habM⟩ := Cond.instanceMethod_spec hinst
  obtain ⟨methM', cM, hmethM', -, -, -, -, -, -, hsigM⟩ := Cond.code_spec hnamed hcode
  cases hmethM.symm.trans hmethM'
  obtain ⟨c2, r2, m2, q1, q2, q3, q4, kP, hkP, hkPi⟩ := Cond.selects_spec hsel
  cases hcls.symm.trans q1
  cases (State.methodFound?_of_named hnamed hy).symm.trans q2
  cases hnamed.symm.trans q3
  have hselP : selectMethod e.platform s.vm cellB.cls mk = .method mk := by rw [Launch.admits_selectMethod X.admits]; exact q4
  obtain ⟨vm₁, X₁, hstep₁⟩ := X.invokevirtual hexec hown hlink hnamed hmethM hstM hkP hkPi hy (a := b) (cell := cellB) hcell
    (fun z h => by rw [h] at hobj; cases hobj) hselP hmethM habM hkP hkPi (g := g) hg (argsL := argsL) (rest := rest) (hlen _ hsigM) hstack hdg
  rcases hK m meth c ⟨T.setVm vm₁, locs, cells, slots⟩ { g with stack := rest } (.invokevirtual index) mk (Value.ref b :: argsL).toArray X₁ hg hsize hdg hW (X₁.named hnamed) (hpre vm₁ X₁.warmed) with ⟨v, B, X', hpost, hsteps⟩ | ⟨q, B, X', hpost, hsteps⟩
  · exact Or.inl ⟨v, vm₁, B, X₁.warmed, X', hpost, fun target h => hstep₁ _ fun acts => by rw [doInvoke_state]; exact hsteps.trans h⟩
  · exact Or.inr ⟨q, vm₁, B, X₁.warmed, X', hpost, hstep₁ _ fun acts => by rw [doInvoke_state]; exact hsteps⟩
theorem vx_callS (X : Stand p l e R s m args below meth c T locs cells slots) (hexec : p.tables.exec = Jvm.exec) {own : String} {index : Nat} {y : MethodName} {bytes : ByteArray} {maxL : Nat} {ret : Option FieldType}
    (hown : s.vm.findClass own = some m.cls) (hlink : (Cond.methodLink own index y).before args s = true) (hstat : (Cond.static y).before args s = true) (hinit : (Cond.initialized y.cls).before args s = true)
    (hcode : (Cond.code y bytes maxL ret).before args s = true) (hy : y.cls ≠ "java/lang/invoke/MethodHandle" ∧ y.cls ≠ "java/lang/invoke/VarHandle")
    {W9 : Nat} {Pre : Pt → Array Value → Prop} {Post : Pt → Array Value → Option Value → Pt → Prop} {PostX : Pt → Array Value → Addr → Pt → Prop} (hK : vx_Back l R p e below s args y 3 W9 Pre Post PostX)
    {g : JFrame} (hg : g.method = m) (hsize : g.locals.size = c.maxLocals) {argsL rest : List Value} (hlen : ∀ sig, parseMethodDescriptor y.desc = some sig → argsL.length = sig.parameters.length)
    (hstack : g.stack = argsL.reverse ++ rest) (hW : 2 * g.monitorRoom + (rest.map fun v => v.category).sum ≤ W9) (hdg : decode c.code g.pc = .ok (.invokestatic index, 3))
    (hpre : ∀ vm₁, s.WarmedH vm₁ → Pre ⟨T.setVm vm₁, locs, cells, slots⟩ argsL.toArray) :
    (∃ (v : Option Value) (vm₁ : Vm) (B : Pt), s.WarmedH vm₁ ∧ Stand p l e R s m args below meth c B.U B.locs B.cells B.slots ∧ Post ⟨T.setVm vm₁, locs, cells, slots⟩ argsL.toArray v B ∧
      ∀ target, Steps p.tables e below (B.U.setTop { g with pc := g.pc + 3, stack := v.toList ++ rest }) target → Steps p.tables e below (T.setTop g) target) ∨
    (∃ (q : Addr) (vm₁ : Vm) (B : Pt), s.WarmedH vm₁ ∧ Stand p l e R s m args below meth c B.U B.locs B.cells B.slots ∧ PostX ⟨T.setVm vm₁, locs, cells, slots⟩ argsL.toArray q B ∧
      Steps p.tables e below (T.setTop g) ((B.U.setTop { g with stack := rest }).pushFrame (.throwing q))) := by
  obtain ⟨mk, hnamed⟩ := Cond.code_named hcode
  obtain ⟨methM, cM, hmethM, -, -, -, -, -, -, hsigM⟩ := Cond.code_spec hnamed hcode
  have hstatic : methM.isStatic = true := Cond.static_spec hnamed hmethM hstat
  obtain ⟨kP, hkP, -⟩ := className_of_methodNamed hnamed
  have hinitP : kP.init = .initialized := Cond.initialized_spec (findClass_of_methodNamed hnamed) hkP hinit
  obtain ⟨vm₁, X₁, hstep₁⟩ := X.invokestatic hexec hown hlink hnamed hmethM hstatic hkP hinitP hy (g := g) hg (argsL := argsL) (rest := rest) (hlen _ hsigM) hstack hdg
  rcases hK m meth c ⟨T.setVm vm₁, locs, cells, slots⟩ { g with stack := rest } (.invokestatic index) mk argsL.toArray X₁ hg hsize hdg hW (X₁.named hnamed) (hpre vm₁ X₁.warmed) with ⟨v, B, X', hpost, hsteps⟩ | ⟨q, B, X', hpost, hsteps⟩
  · exact Or.inl ⟨v, vm₁, B, X₁.warmed, X', hpost, fun target h => hstep₁ _ fun acts => by rw [doInvoke_state]; exact hsteps.trans h⟩
  · exact Or.inr ⟨q, vm₁, B, X₁.warmed, X', hpost, hstep₁ _ fun acts => by rw [doInvoke_state]; exact hsteps⟩
end Calls
theorem vx_cls {s : State} {T : State} {vm₁ : Vm} {E : String} {k : ClassId} (hW : s.WarmedH vm₁) (h : (T.setVm vm₁).vm.findClass E = some k) : s.vm.findClass E = some k := by
  have h1 : vm₁.findClass E = some k := h
  rw [hW.alike.findClass] at h1
  exact h1
/-- the method's frame g, with q thrown over it -/
def vx_W (p : Program) (l : Launch) (e : Env) (R : Room) (s : State) (m : MethodId) (args : Array Value) (below : List Frame) (meth : Method) (c : Code) (H : Heap) (locs : List Loc) (cells slots : Nat) (Q : State → Prop) (g : JFrame) (q : Addr) : Prop :=
  ∀ T : State, T.heap = H → Stand p l e R s m args below meth c T locs cells slots → ∃ t, Steps p.tables e below ((T.setTop g).pushFrame (.throwing q)) t ∧ Q t
def vx_Run (p : Program) (l : Launch) (e : Env) (R : Room) (s : State) (m : MethodId) (args : Array Value) (below : List Frame) (meth : Method) (c : Code) (H : Heap) (locs : List Loc) (cells slots mc ms : Nat) (g : JFrame) (rest : List Value) (Qa : State → Outcome → State → Prop) (XC : String → State → State → Prop) (free : Addr → Prop) : Prop :=
  ∀ T : State, T.heap = H → Stand p l e R s m args below meth c T locs cells slots →
    (∃ (v : Option Value) (st₀ t T' : State) (L : List Loc), st₀.heap = H ∧ Stand p l e R s m args below meth c T' (locs ++ L) (cells + mc) (slots + ms) ∧ (∀ q ∈ L, free q.base) ∧ T'.heap = t.heap ∧ T'.vm = t.vm ∧ Qa st₀ (.returned v) t ∧
      Goes p e below T g T' { g with pc := g.pc + 3, stack := v.toList ++ rest }) ∨
    (∃ (q : Addr) (st₀ t T' : State) (L : List Loc) (E : String) (ce : Cell), st₀.heap = H ∧ Stand p l e R s m args below meth c T' (locs ++ L) (cells + mc) (slots + ms) ∧ (∀ z ∈ L, free z.base) ∧ T'.heap = t.heap ∧ T'.vm = t.vm ∧ XC E st₀ t ∧ t.heap[q]? = some ce ∧ ce.vm = .none ∧ s.vm.findClass E = some ce.cls ∧
      Steps p.tables e below (T.setTop g) ((T'.setTop { g with stack := rest }).pushFrame (.throwing q)))
def vx_X {S : Type} (px : S → Prop) (B : String → S → State → Prop) (A : Nat → Prop) : String → State → State → Prop := fun E st t => ∃ u : S, px u ∧ B E u t ∧ va_F A st t
section Runs
variable {p : Program} {l : Launch} {e : Env} {R : Room} {s : State} {m : MethodId} {args : Array Value} {below : List Frame} {meth : Method} {c : Code} {H : Heap} {locs : List Loc} {cells slots : Nat}
variable {y : MethodName} {bytes cc : ByteArray} {maxL nL mc ms n index : Nat} {ret : Option FieldType} {ws : List Cond} {rm : Room} {Pc : Array Value → State → Prop} {Qc : Array Value → State → Outcome → State → Prop} {XC : String → State → State → Prop} {free : Addr → Prop} {Ts : List Cond} {own C : String} {b : Addr} {As rest : List Value} {g : JFrame}
theorem vx_callBack (cb : CallB R s args own index y bytes maxL ret ws rm mc ms n) (hM : vx_Met l y ws rm Pc Qc XC mc ms free) (hbl : FrameBlind Pc) : vx_Back l R p e below s args y 3 8 (PreOf R mc ms Pc) (PostOf Qc mc ms free) (vx_Post XC mc ms free) := by
  obtain ⟨hrc, hrs, hfr, hlo, hws, hcw, -, hini, -⟩ := cb
  exact vx_back (bytes := bytes) (maxL := maxL) (ret := ret) hM hbl hrc hrs hfr hlo hws hcw (fun a' U hW => word_at hW (Or.inl (by first | rfl | simp [Cond.onTables, Cond.keeps, Cond.steady])) hini)
theorem vx_runV (S : CallFix p m c cc nL s args Ts own) (hM : vx_Met l y ws rm Pc Qc XC mc ms free) (cw : CallW R s args own C index y bytes maxL ret ws rm mc ms n) (hp : PreV s H C b Pc As)
    (hg : g.method = m) (hn : As.length = n) (hsize : g.locals.size = nL) (hstack : g.stack = As.reverse ++ .ref b :: rest) (hW : 2 * g.monitorRoom + (rest.map fun v => v.category).sum ≤ 8) (hdg : decode cc g.pc = .ok (.invokevirtual index, 3)) (hf : cells + mc ≤ R.cells ∧ slots + ms ≤ R.slots) :
    vx_Run p l e R s m args below meth c H locs cells slots mc ms g rest (Qc (Value.ref b :: As).toArray) XC free := by
  have hK : vx_Back l R p e below s args y 3 8 (PreOf R mc ms Pc) (PostOf Qc mc ms free) (vx_Post XC mc ms free) := vx_callBack cw.1 hM hp.1
  obtain ⟨⟨-, -, -, -, -, -, hcode, -, hy, hlen, hl⟩, hin, hse⟩ := cw
  obtain ⟨hx, hb, hml, ho, -⟩ := S
  obtain ⟨-, ⟨cellB, hcB, hoB, hclB⟩, hPc⟩ := hp
  intro T hT X
  rcases vx_callV X hx (C := C) (bytes := bytes) (maxL := maxL) (ret := ret) ho hl hin hse hcode hy hK (by rw [hT]; exact hcB) hoB hclB hg (hsize.trans hml.symm) (argsL := As) (rest := rest) (fun sig h => hn.trans (hlen sig h)) hstack hW (by rw [hb]; exact hdg)
    (fun vm₁ hW₁ => ⟨hf.1, hf.2, hPc (T.setVm vm₁) hT hW₁⟩) with ⟨v, vm₁, ⟨U', l2, c2, s2⟩, hW₁, X', ⟨g', mk, t, L, e1, e2, hq, h1, hL, h2, h3⟩, st⟩ | ⟨q, vm₁, ⟨U', l2, c2, s2⟩, hW₁, X', ⟨g', mk, t, L, E, ce, e1, e2, hq, hce, hcv, hcl, h1, hL, h2, h3⟩, st⟩
  · dsimp only [Pt.U, Pt.locs, Pt.cells, Pt.slots] at X' e1 e2 h1 h2 h3 st
    subst h1; subst h2; subst h3
    exact Or.inl ⟨v, (T.setVm vm₁).calling g' mk (Value.ref b :: As).toArray, t, U', L, hT, X', hL, e1, e2, hq, st⟩
  · dsimp only [Pt.U, Pt.locs, Pt.cells, Pt.slots] at X' e1 e2 h1 h2 h3 st hcl
    subst h1; subst h2; subst h3
    exact Or.inr ⟨q, (T.setVm vm₁).calling g' mk (Value.ref b :: As).toArray, t, U', L, E, ce, hT, X', hL, e1, e2, hq, hce, hcv, vx_cls hW₁ hcl, st⟩
theorem vx_runS (S : CallFix p m c cc nL s args Ts own) (hM : vx_Met l y ws rm Pc Qc XC mc ms free) (cw : CallB R s args own index y bytes maxL ret ws rm mc ms n ∧ (Cond.static y).before args s = true) (hp : PreS s H Pc As)
    (hg : g.method = m) (hn : As.length = n) (hsize : g.locals.size = nL) (hstack : g.stack = As.reverse ++ rest) (hW : 2 * g.monitorRoom + (rest.map fun v => v.category).sum ≤ 8) (hdg : decode cc g.pc = .ok (.invokestatic index, 3)) (hf : cells + mc ≤ R.cells ∧ slots + ms ≤ R.slots) :
    vx_Run p l e R s m args below meth c H locs cells slots mc ms g rest (Qc As.toArray) XC free := by
  have hK : vx_Back l R p e below s args y 3 8 (PreOf R mc ms Pc) (PostOf Qc mc ms free) (vx_Post XC mc ms free) := vx_callBack cw.1 hM hp.1
  obtain ⟨⟨-, -, -, -, -, -, hcode, hini, hy, hlen, hl⟩, hstt⟩ := cw
  obtain ⟨hx, hb, hml, ho, -⟩ := S
  intro T hT X
  rcases vx_callS X hx (bytes := bytes) (maxL := maxL) (ret := ret) ho hl hstt hini hcode hy hK hg (hsize.trans hml.symm) (argsL := As) (rest := rest) (fun sig h => hn.trans (hlen sig h)) hstack hW (by rw [hb]; exact hdg)
    (fun vm₁ hW₁ => ⟨hf.1, hf.2, hp.2 (T.setVm vm₁) hT hW₁⟩) with ⟨v, vm₁, ⟨U', l2, c2, s2⟩, hW₁, X', ⟨g', mk, t, L, e1, e2, hq, h1, hL, h2, h3⟩, st⟩ | ⟨q, vm₁, ⟨U', l2, c2, s2⟩, hW₁, X', ⟨g', mk, t, L, E, ce, e1, e2, hq, hce, hcv, hcl, h1, hL, h2, h3⟩, st⟩
  · dsimp only [Pt.U, Pt.locs, Pt.cells, Pt.slots] at X' e1 e2 h1 h2 h3 st
    subst h1; subst h2; subst h3
    exact Or.inl ⟨v, (T.setVm vm₁).calling g' mk As.toArray, t, U', L, hT, X', hL, e1, e2, hq, st⟩
  · dsimp only [Pt.U, Pt.locs, Pt.cells, Pt.slots] at X' e1 e2 h1 h2 h3 st hcl
    subst h1; subst h2; subst h3
    exact Or.inr ⟨q, (T.setVm vm₁).calling g' mk As.toArray, t, U', L, E, ce, hT, X', hL, e1, e2, hq, hce, hcv, vx_cls hW₁ hcl, st⟩
end Runs
section Rows
variable {p : Program} {l : Launch} {e : Env} {R : Room} {s : State} {m : MethodId} {args : Array Value} {below : List Frame} {meth : Method} {c : Code} {H : Heap} {locs : List Loc} {cells slots : Nat} {Q : State → Prop}
variable {mc ms : Nat} {free : Addr → Prop} {A0 A1 : Nat → Prop} {H0 : Heap} {a : Array Value} {pc : Nat} {ls : Array Slot} {st0 rest : List Value}
theorem vx_keep {st₀ t T' : State} {L : List Loc} (h0 : st₀.heap = H) (e1 : T'.heap = t.heap) (hS : va_S A0 H0 H locs) (hA : ∀ q, q < H.size → A1 q → A0 q) (hf : ∀ q, free q → A0 q) (hL : ∀ q ∈ L, free q.base) (hF : va_F A1 st₀ t) :
    H.size ≤ T'.heap.size ∧ (∀ q : Nat, q < H.size → ¬ A1 q → T'.heap[q]? = H[q]?) ∧ va_S A0 H0 T'.heap (locs ++ L) := by
  obtain ⟨hz, hk⟩ := hF
  rw [h0] at hz hk
  exact ⟨by rw [e1]; exact hz, fun q h1 h2 => by rw [e1]; exact hk q h1 h2,
    ⟨Nat.le_trans hS.1 (by rw [e1]; exact hz), fun q h1 h2 => by rw [e1, hk q (Nat.lt_of_lt_of_le h1 hS.1) (fun z => h2 (hA q (Nat.lt_of_lt_of_le h1 hS.1) z))]; exact hS.2.1 q h1 h2, fun q hq => by
      rcases List.mem_append.mp hq with h | h
      · exact hS.2.2 q h
      · exact hf _ (hL q h)⟩⟩
theorem vx_calli {S SX : Type} {post : Int32 → S → Prop} {px : SX → Prop} {B : S → State → Prop} {BX : String → SX → State → Prop} {AX : Nat → Prop} (hr : vx_Run p l e R s m args below meth c H locs cells slots mc ms (F0 m pc ls st0) rest (va_Qi post B A1 a) (vx_X px BX AX) free) (hS : va_S A0 H0 H locs) (hA : ∀ q, q < H.size → A1 q → A0 q) (hf : ∀ q, free q → A0 q) (hAX : ∀ q, q < H.size → AX q → A0 q)
    (kx : ∀ (E : String) (ce : Cell) (q9 : Addr) (u : SX) (t : State) (H1 : Heap) (locs1 : List Loc), t.heap = H1 → s.vm.Alike t.vm → px u → BX E u t → H.size ≤ H1.size → (∀ q : Nat, q < H.size → ¬ AX q → H1[q]? = H[q]?) → va_S A0 H0 H1 locs1 → H1[q9]? = some ce → ce.vm = .none → s.vm.findClass E = some ce.cls → vx_W p l e R s m args below meth c H1 locs1 (cells + mc) (slots + ms) Q (F0 m pc ls rest) q9)
    (kk : ∀ (r : Int32) (u : S) (t : State) (H1 : Heap) (locs1 : List Loc), t.heap = H1 → s.vm.Alike t.vm → post r u → B u t → H.size ≤ H1.size → (∀ q : Nat, q < H.size → ¬ A1 q → H1[q]? = H[q]?) → va_S A0 H0 H1 locs1 → W p l e R s m args below meth c H1 locs1 (cells + mc) (slots + ms) Q (F0 m (pc + 3) ls (.int r :: rest))) : W p l e R s m args below meth c H locs cells slots Q (F0 m pc ls st0) := by
  intro T hT X
  rcases hr T hT X with ⟨v, st₀, t, T', L, h0, X', hL, e1, e2, ⟨⟨r, u, hv, hp, hb⟩, hF⟩, st⟩ | ⟨q, st₀, t, T', L, E, ce, h0, X', hL, e1, e2, ⟨u, hp, hb, hF⟩, hce, hcv, hcl, st⟩
  · cases hv
    obtain ⟨k1, k2, k3⟩ := vx_keep h0 e1 hS hA hf hL hF
    obtain ⟨t2, a1, b1⟩ := kk r u t T'.heap (locs ++ L) e1.symm (by rw [← e2]; exact X'.warmed.alike) hp hb k1 k2 k3 T' rfl X'
    exact ⟨t2, st t2 a1, b1⟩
  · obtain ⟨k1, k2, k3⟩ := vx_keep h0 e1 hS hAX hf hL hF
    obtain ⟨t2, a1, b1⟩ := kx E ce q u t T'.heap (locs ++ L) e1.symm (by rw [← e2]; exact X'.warmed.alike) hp hb k1 k2 k3 (by rw [e1]; exact hce) hcv hcl T' rfl X'
    exact ⟨t2, st.trans a1, b1⟩
theorem vx_calll {S SX : Type} {post : Int64 → S → Prop} {px : SX → Prop} {B : S → State → Prop} {BX : String → SX → State → Prop} {AX : Nat → Prop} (hr : vx_Run p l e R s m args below meth c H locs cells slots mc ms (F0 m pc ls st0) rest (va_Ql post B A1 a) (vx_X px BX AX) free) (hS : va_S A0 H0 H locs) (hA : ∀ q, q < H.size → A1 q → A0 q) (hf : ∀ q, free q → A0 q) (hAX : ∀ q, q < H.size → AX q → A0 q)
    (kx : ∀ (E : String) (ce : Cell) (q9 : Addr) (u : SX) (t : State) (H1 : Heap) (locs1 : List Loc), t.heap = H1 → s.vm.Alike t.vm → px u → BX E u t → H.size ≤ H1.size → (∀ q : Nat, q < H.size → ¬ AX q → H1[q]? = H[q]?) → va_S A0 H0 H1 locs1 → H1[q9]? = some ce → ce.vm = .none → s.vm.findClass E = some ce.cls → vx_W p l e R s m args below meth c H1 locs1 (cells + mc) (slots + ms) Q (F0 m pc ls rest) q9)
    (kk : ∀ (r : Int64) (u : S) (t : State) (H1 : Heap) (locs1 : List Loc), t.heap = H1 → s.vm.Alike t.vm → post r u → B u t → H.size ≤ H1.size → (∀ q : Nat, q < H.size → ¬ A1 q → H1[q]? = H[q]?) → va_S A0 H0 H1 locs1 → W p l e R s m args below meth c H1 locs1 (cells + mc) (slots + ms) Q (F0 m (pc + 3) ls (.long r :: rest))) : W p l e R s m args below meth c H locs cells slots Q (F0 m pc ls st0) := by
  intro T hT X
  rcases hr T hT X with ⟨v, st₀, t, T', L, h0, X', hL, e1, e2, ⟨⟨r, u, hv, hp, hb⟩, hF⟩, st⟩ | ⟨q, st₀, t, T', L, E, ce, h0, X', hL, e1, e2, ⟨u, hp, hb, hF⟩, hce, hcv, hcl, st⟩
  · cases hv
    obtain ⟨k1, k2, k3⟩ := vx_keep h0 e1 hS hA hf hL hF
    obtain ⟨t2, a1, b1⟩ := kk r u t T'.heap (locs ++ L) e1.symm (by rw [← e2]; exact X'.warmed.alike) hp hb k1 k2 k3 T' rfl X'
    exact ⟨t2, st t2 a1, b1⟩
  · obtain ⟨k1, k2, k3⟩ := vx_keep h0 e1 hS hAX hf hL hF
    obtain ⟨t2, a1, b1⟩ := kx E ce q u t T'.heap (locs ++ L) e1.symm (by rw [← e2]; exact X'.warmed.alike) hp hb k1 k2 k3 (by rw [e1]; exact hce) hcv hcl T' rfl X'
    exact ⟨t2, st.trans a1, b1⟩
theorem vx_callf {S SX : Type} {post : UInt32 → S → Prop} {px : SX → Prop} {B : S → State → Prop} {BX : String → SX → State → Prop} {AX : Nat → Prop} (hr : vx_Run p l e R s m args below meth c H locs cells slots mc ms (F0 m pc ls st0) rest (va_Qf post B A1 a) (vx_X px BX AX) free) (hS : va_S A0 H0 H locs) (hA : ∀ q, q < H.size → A1 q → A0 q) (hf : ∀ q, free q → A0 q) (hAX : ∀ q, q < H.size → AX q → A0 q)
    (kx : ∀ (E : String) (ce : Cell) (q9 : Addr) (u : SX) (t : State) (H1 : Heap) (locs1 : List Loc), t.heap = H1 → s.vm.Alike t.vm → px u → BX E u t → H.size ≤ H1.size → (∀ q : Nat, q < H.size → ¬ AX q → H1[q]? = H[q]?) → va_S A0 H0 H1 locs1 → H1[q9]? = some ce → ce.vm = .none → s.vm.findClass E = some ce.cls → vx_W p l e R s m args below meth c H1 locs1 (cells + mc) (slots + ms) Q (F0 m pc ls rest) q9)
    (kk : ∀ (r : UInt32) (u : S) (t : State) (H1 : Heap) (locs1 : List Loc), t.heap = H1 → s.vm.Alike t.vm → post r u → B u t → H.size ≤ H1.size → (∀ q : Nat, q < H.size → ¬ A1 q → H1[q]? = H[q]?) → va_S A0 H0 H1 locs1 → W p l e R s m args below meth c H1 locs1 (cells + mc) (slots + ms) Q (F0 m (pc + 3) ls (.float r :: rest))) : W p l e R s m args below meth c H locs cells slots Q (F0 m pc ls st0) := by
  intro T hT X
  rcases hr T hT X with ⟨v, st₀, t, T', L, h0, X', hL, e1, e2, ⟨⟨r, u, hv, hp, hb⟩, hF⟩, st⟩ | ⟨q, st₀, t, T', L, E, ce, h0, X', hL, e1, e2, ⟨u, hp, hb, hF⟩, hce, hcv, hcl, st⟩
  · cases hv
    obtain ⟨k1, k2, k3⟩ := vx_keep h0 e1 hS hA hf hL hF
    obtain ⟨t2, a1, b1⟩ := kk r u t T'.heap (locs ++ L) e1.symm (by rw [← e2]; exact X'.warmed.alike) hp hb k1 k2 k3 T' rfl X'
    exact ⟨t2, st t2 a1, b1⟩
  · obtain ⟨k1, k2, k3⟩ := vx_keep h0 e1 hS hAX hf hL hF
    obtain ⟨t2, a1, b1⟩ := kx E ce q u t T'.heap (locs ++ L) e1.symm (by rw [← e2]; exact X'.warmed.alike) hp hb k1 k2 k3 (by rw [e1]; exact hce) hcv hcl T' rfl X'
    exact ⟨t2, st.trans a1, b1⟩
theorem vx_calld {S SX : Type} {post : UInt64 → S → Prop} {px : SX → Prop} {B : S → State → Prop} {BX : String → SX → State → Prop} {AX : Nat → Prop} (hr : vx_Run p l e R s m args below meth c H locs cells slots mc ms (F0 m pc ls st0) rest (va_Qd post B A1 a) (vx_X px BX AX) free) (hS : va_S A0 H0 H locs) (hA : ∀ q, q < H.size → A1 q → A0 q) (hf : ∀ q, free q → A0 q) (hAX : ∀ q, q < H.size → AX q → A0 q)
    (kx : ∀ (E : String) (ce : Cell) (q9 : Addr) (u : SX) (t : State) (H1 : Heap) (locs1 : List Loc), t.heap = H1 → s.vm.Alike t.vm → px u → BX E u t → H.size ≤ H1.size → (∀ q : Nat, q < H.size → ¬ AX q → H1[q]? = H[q]?) → va_S A0 H0 H1 locs1 → H1[q9]? = some ce → ce.vm = .none → s.vm.findClass E = some ce.cls → vx_W p l e R s m args below meth c H1 locs1 (cells + mc) (slots + ms) Q (F0 m pc ls rest) q9)
    (kk : ∀ (r : UInt64) (u : S) (t : State) (H1 : Heap) (locs1 : List Loc), t.heap = H1 → s.vm.Alike t.vm → post r u → B u t → H.size ≤ H1.size → (∀ q : Nat, q < H.size → ¬ A1 q → H1[q]? = H[q]?) → va_S A0 H0 H1 locs1 → W p l e R s m args below meth c H1 locs1 (cells + mc) (slots + ms) Q (F0 m (pc + 3) ls (.double r :: rest))) : W p l e R s m args below meth c H locs cells slots Q (F0 m pc ls st0) := by
  intro T hT X
  rcases hr T hT X with ⟨v, st₀, t, T', L, h0, X', hL, e1, e2, ⟨⟨r, u, hv, hp, hb⟩, hF⟩, st⟩ | ⟨q, st₀, t, T', L, E, ce, h0, X', hL, e1, e2, ⟨u, hp, hb, hF⟩, hce, hcv, hcl, st⟩
  · cases hv
    obtain ⟨k1, k2, k3⟩ := vx_keep h0 e1 hS hA hf hL hF
    obtain ⟨t2, a1, b1⟩ := kk r u t T'.heap (locs ++ L) e1.symm (by rw [← e2]; exact X'.warmed.alike) hp hb k1 k2 k3 T' rfl X'
    exact ⟨t2, st t2 a1, b1⟩
  · obtain ⟨k1, k2, k3⟩ := vx_keep h0 e1 hS hAX hf hL hF
    obtain ⟨t2, a1, b1⟩ := kx E ce q u t T'.heap (locs ++ L) e1.symm (by rw [← e2]; exact X'.warmed.alike) hp hb k1 k2 k3 (by rw [e1]; exact hce) hcv hcl T' rfl X'
    exact ⟨t2, st.trans a1, b1⟩
theorem vx_callv {S SX : Type} {post : S → Prop} {px : SX → Prop} {B : S → State → Prop} {BX : String → SX → State → Prop} {AX : Nat → Prop} (hr : vx_Run p l e R s m args below meth c H locs cells slots mc ms (F0 m pc ls st0) rest (va_Qv post B A1 a) (vx_X px BX AX) free) (hS : va_S A0 H0 H locs) (hA : ∀ q, q < H.size → A1 q → A0 q) (hf : ∀ q, free q → A0 q) (hAX : ∀ q, q < H.size → AX q → A0 q)
    (kx : ∀ (E : String) (ce : Cell) (q9 : Addr) (u : SX) (t : State) (H1 : Heap) (locs1 : List Loc), t.heap = H1 → s.vm.Alike t.vm → px u → BX E u t → H.size ≤ H1.size → (∀ q : Nat, q < H.size → ¬ AX q → H1[q]? = H[q]?) → va_S A0 H0 H1 locs1 → H1[q9]? = some ce → ce.vm = .none → s.vm.findClass E = some ce.cls → vx_W p l e R s m args below meth c H1 locs1 (cells + mc) (slots + ms) Q (F0 m pc ls rest) q9)
    (kk : ∀ (u : S) (t : State) (H1 : Heap) (locs1 : List Loc), t.heap = H1 → s.vm.Alike t.vm → post u → B u t → H.size ≤ H1.size → (∀ q : Nat, q < H.size → ¬ A1 q → H1[q]? = H[q]?) → va_S A0 H0 H1 locs1 → W p l e R s m args below meth c H1 locs1 (cells + mc) (slots + ms) Q (F0 m (pc + 3) ls (rest))) : W p l e R s m args below meth c H locs cells slots Q (F0 m pc ls st0) := by
  intro T hT X
  rcases hr T hT X with ⟨v, st₀, t, T', L, h0, X', hL, e1, e2, ⟨⟨u, hv, hp, hb⟩, hF⟩, st⟩ | ⟨q, st₀, t, T', L, E, ce, h0, X', hL, e1, e2, ⟨u, hp, hb, hF⟩, hce, hcv, hcl, st⟩
  · cases hv
    obtain ⟨k1, k2, k3⟩ := vx_keep h0 e1 hS hA hf hL hF
    obtain ⟨t2, a1, b1⟩ := kk u t T'.heap (locs ++ L) e1.symm (by rw [← e2]; exact X'.warmed.alike) hp hb k1 k2 k3 T' rfl X'
    exact ⟨t2, st t2 a1, b1⟩
  · obtain ⟨k1, k2, k3⟩ := vx_keep h0 e1 hS hAX hf hL hF
    obtain ⟨t2, a1, b1⟩ := kx E ce q u t T'.heap (locs ++ L) e1.symm (by rw [← e2]; exact X'.warmed.alike) hp hb k1 k2 k3 (by rw [e1]; exact hce) hcv hcl T' rfl X'
    exact ⟨t2, st.trans a1, b1⟩
/-- caught by the row x of this method's table; the rows ahead don't take it -/
theorem vx_catch {own name : String} {E : String} {ce : Cell} {q : Addr} (hown : s.vm.findClass own = some m.cls) (pre : List ExceptionTableEntry) (x : ExceptionTableEntry) (suf : List ExceptionTableEntry) (hsplit : c.exceptionTable.toList = pre ++ x :: suf)
    (hpass : ∀ z ∈ pre, covers z pc = false ∨ (z.catchType ≠ 0 ∧ ∃ nm : String, (Cond.classLink own z.catchType nm).before args s = true ∧ va_Nc E nm s)) (hx : covers x pc = true) (h0 : x.catchType ≠ 0)
    (hlink : (Cond.classLink own x.catchType name).before args s = true) (hcast : (Cond.castable E name).before args s = true) (hcell : H[q]? = some ce) (hv : ce.vm = .none) (hcl : s.vm.findClass E = some ce.cls)
    (kk : W p l e R s m args below meth c H locs cells slots Q (F0 m x.handlerPc ls [.ref q])) : vx_W p l e R s m args below meth c H locs cells slots Q (F0 m pc ls rest) q := by
  intro T hT X
  have hpl : e.platform.magicAccessors = ({} : Platform).magicAccessors := by rw [X.admits.platform]
  obtain ⟨c3, c4, hc3, hc4, hasg⟩ := Cond.castable_spec hcast
  cases Option.some.inj (hc3.symm.trans hcl)
  obtain ⟨c5, hc5, hcl5⟩ := Cond.classLink_spec hown hlink e.platform hpl
  cases Option.some.inj (hc4.symm.trans hc5)
  obtain ⟨vm', X', st⟩ := X.thenCaughtThrough q (g := F0 m pc ls rest) rfl (Steps.refl _) (by rw [hT]; exact hcell) (by rw [hv]; rfl) (by obtain ⟨k9, h9, -⟩ := Vm.findClass_spec hcl; exact ⟨k9, h9⟩) pre x suf hsplit
    (fun z hz => by
      rcases hpass z hz with h | ⟨hz0, nm, hl1, hn1⟩
      · exact Or.inl h
      · obtain ⟨c6, hc6, hcl6⟩ := Cond.classLink_spec hown hl1 e.platform hpl
        obtain ⟨a8, b8, h1, h2, h3⟩ := hn1
        cases Option.some.inj (h1.symm.trans hcl)
        cases Option.some.inj (h2.symm.trans hc6)
        exact Or.inr ⟨hz0, _, hcl6, h3⟩) hx (Or.inr ⟨h0, c4, hcl5, hasg⟩)
  obtain ⟨t, a1, b1⟩ := kk (T.setVm vm') hT X'
  exact ⟨t, st.trans a1, b1⟩
end Rows
section Ends
variable {p : Program} {l : Launch} {e : Env} {R : Room} {s : State} {m : MethodId} {args : Array Value} {below : List Frame} {meth : Method} {c : Code} {H : Heap} {locs : List Loc} {cells slots : Nat} {Q : State → Prop}
variable {mc ms : Nat} {free : Addr → Prop} {A0 A1 : Nat → Prop} {H0 : Heap} {a : Array Value} {ls : Array Slot} {st0 rest : List Value}
variable {Qc : Array Value → State → Outcome → State → Prop} {XC : String → State → State → Prop}
/-- what a body that may throw owes at its end -/
def vx_MQ (below : List Frame) (Qc : Array Value → State → Outcome → State → Prop) (XC : String → State → State → Prop) (a : Array Value) (s : State) (mc ms : Nat) (free : Addr → Prop) : State → Prop := fun t =>
  ∃ o, t.status = .running ∧ Ended t below o ∧ vx_Q Qc XC mc ms free a s o t
theorem vx_ret {g : JFrame} {mc ms : Nat} (k : W p l e R s m args below meth c H locs cells slots (MQ below Qc args s mc ms free) g) : W p l e R s m args below meth c H locs cells slots (vx_MQ below Qc XC args s mc ms free) g := by
  intro T hT X
  obtain ⟨t, a1, o, b1, b2, b3, b4⟩ := k T hT X
  exact ⟨t, a1, o, b1, b2, Or.inl ⟨b3, b4⟩⟩
/-- not caught here: it goes on to the caller -/
theorem vx_widen {g : JFrame} {q : Addr} {k n : Nat} (h1 : cells ≤ k) (h2 : slots ≤ n) (kk : vx_W p l e R s m args below meth c H locs k n Q g q) : vx_W p l e R s m args below meth c H locs cells slots Q g q := fun T hT X => kk T hT (stand_widen X h1 h2)
theorem vx_out {pc : Nat} {E : String} {ce : Cell} {q : Addr} {mc ms : Nat} (hout : ∀ x ∈ c.exceptionTable.toList, covers x pc = false) (hlocks : meth.locks = false) (hcell : H[q]? = some ce) (hv : ce.vm = .none) (hcl : s.vm.findClass E = some ce.cls)
    (hx : ∀ t : State, t.heap = H → s.vm.Alike t.vm → XC E s t) (hf : ∀ z ∈ locs, free z.base) (hc : cells ≤ mc) (hs : slots ≤ ms) :
    vx_W p l e R s m args below meth c H locs cells slots (vx_MQ below Qc XC args s mc ms free) (F0 m pc ls rest) q := by
  intro T hT X
  obtain ⟨st1, hrun, hend, hW, hsm⟩ := X.leaveThrown q (g := F0 m pc ls rest) rfl rfl rfl hout hlocks
  have hcell9 : (T.setFrames (.throwing q :: below)).heap[q]? = some ce := by
    show T.heap[q]? = some ce
    rw [hT]; exact hcell
  exact ⟨_, st1, .threw q, hrun, hend, Or.inr ⟨q, rfl, E, ce, locs, hx _ hT hW.alike, hcell9, hv, hcl, hW, hsm.mono hc hs, hf⟩⟩
theorem vx_frame {U : State} {k n : Nat} (h : s.sameButNew ({ U with vm := s.vm } : State) locs k n) : s.heap.size ≤ U.heap.size ∧ ∀ q : Nat, q < s.heap.size → (∀ z ∈ locs, z.base ≠ q) → U.heap[q]? = s.heap[q]? := by
  obtain ⟨-, h2, -, -, -, h6⟩ := h
  refine ⟨h2, fun q hq hz => ?_⟩
  obtain ⟨c9, e1, e2, e3, e4⟩ := h6 q _ (Array.getElem?_eq_getElem hq)
  have hs : c9.slots = (s.heap[q]).slots := Array.ext_getElem? fun i => e4 i fun hm => hz _ hm rfl
  have h9 : c9 = s.heap[q] := by
    rw [hs] at e2
    exact e2
  have e5 : U.heap[q]? = some c9 := e1
  rw [e5, h9, Array.getElem?_eq_getElem hq]
/-- the words of a throw but the four that speak of the heap -/
def vx_no (w : Cond) : Bool := decide (w ≠ .isRef (.static Bundle.tN "UNASSIGNED_STACK" Bundle.steD)) && decide (w ≠ .isRef (.static Bundle.tN "SUPPRESSED_SENTINEL" Bundle.listD)) && decide (w ≠ .laysStatic Bundle.tN "UNASSIGNED_STACK" Bundle.steD) && decide (w ≠ .laysStatic Bundle.tN "SUPPRESSED_SENTINEL" Bundle.listD)
def vx_at0 (own : String) (ic : Nat) (X : String) (names : List String) : List Cond := (Bundle.ownAtoms0 own ic X names).filter vx_no
def vx_atS (own : String) (ic : Nat) (X : String) (names : List String) : List Cond := (Bundle.ownAtoms own ic X names).filter vx_no
/-- a word that the tables alone decide, or a good one -/
def vx_ot (w : Cond) : Bool := w.onTables || goodWord w
theorem vx_ot_at {args a' : Array Value} {s U : State} {w : Cond} (hW : s.WarmedH U.vm) (hvm : s.vm = U.vm) (hg : vx_ot w = true) (h : w.before args s = true) : w.before a' U = true := by
  simp only [vx_ot, Bool.or_eq_true] at hg
  rcases hg with hg | hg
  · exact va_tabs hg hvm h
  · exact word_at hW (good_of_word hg) h
/-- a list's words: the good ones out of the method's own list, the others by premises of their own -/
theorem vx_hat {args : Array Value} {s : State} {L B : List Cond} (h1 : ∀ w ∈ L.filter goodWord, w.before args s = true) (h2 : ∀ w ∈ L.filter (fun w => !goodWord w), w ∈ B) (h3 : ∀ w ∈ B, w.before args s = true) : ∀ w ∈ L, w.before args s = true := by
  intro w hw
  by_cases g : goodWord w = true
  · exact h1 w (List.mem_filter.mpr ⟨hw, g⟩)
  · refine h3 w (h2 w (List.mem_filter.mpr ⟨hw, ?_⟩))
    show (!goodWord w) = true
    cases hgw : goodWord w
    · rfl
    · exact absurd hgw g
theorem vx_c {args : Array Value} {s : State} {w : Cond} {B : List Cond} (h : w.before args s = true) (t : ∀ w ∈ B, w.before args s = true) : ∀ w' ∈ w :: B, w'.before args s = true := fun w' h' => (List.mem_cons.mp h').elim (fun e => by rw [e]; exact h) (t w')
theorem vx_n {args : Array Value} {s : State} : ∀ w ∈ ([] : List Cond), w.before args s = true := fun _ h => nomatch h
theorem vx_own {args : Array Value} {s : State} {L : List Cond} (h1 : ∀ w ∈ L.filter vx_no, w.before args s = true)
    (hU : (Cond.isRef (.static Bundle.tN "UNASSIGNED_STACK" Bundle.steD)).before args s = true) (hN : (Cond.isRef (.static Bundle.tN "SUPPRESSED_SENTINEL" Bundle.listD)).before args s = true)
    (lU : (Cond.laysStatic Bundle.tN "UNASSIGNED_STACK" Bundle.steD).before args s = true) (lN : (Cond.laysStatic Bundle.tN "SUPPRESSED_SENTINEL" Bundle.listD).before args s = true) : ∀ w ∈ L, w.before args s = true := by
  intro w hw
  by_cases e1 : w = .isRef (.static Bundle.tN "UNASSIGNED_STACK" Bundle.steD)
  · rw [e1]; exact hU
  · by_cases e2 : w = .isRef (.static Bundle.tN "SUPPRESSED_SENTINEL" Bundle.listD)
    · rw [e2]; exact hN
    · by_cases e3 : w = .laysStatic Bundle.tN "UNASSIGNED_STACK" Bundle.steD
      · rw [e3]; exact lU
      · by_cases e4 : w = .laysStatic Bundle.tN "SUPPRESSED_SENTINEL" Bundle.listD
        · rw [e4]; exact lN
        · exact h1 w (List.mem_filter.mpr ⟨hw, by unfold vx_no; rw [decide_eq_true e1, decide_eq_true e2, decide_eq_true e3, decide_eq_true e4]; rfl⟩)
/-- where a static field lies, its class's statics cell in H -/
def vx_L (C n d : String) (A : Nat → Prop) (U : State) (H : Heap) : Prop := ∃ (c : ClassId) (k : Class) (i : Nat) (f : Field) (a : Nat) (cell : Cell), U.vm.findClass C = some c ∧ U.fieldFound? C n d = some (c, k, i, f) ∧ f.isStatic = true ∧ k.statics = some a ∧ H[a]? = some cell ∧ cell.vm.isStatics = true ∧ cell.cls = c ∧ f.slot < cell.slots.size ∧ k.staticTypes[f.slot]? = some f.type ∧ ¬ A a
theorem vx_L.moved {C n d : String} {A : Nat → Prop} {u U : State} {H : Heap} (hvm : u.vm.Alike U.vm) (h : vx_L C n d A u H) : vx_L C n d A U H := by
  obtain ⟨c, k, i, f, a, cell, h1, h2, h3, h4, h5, h6, h7, h8, h9, h10⟩ := h
  obtain ⟨k', hi', he⟩ := State.fieldFound?_setVm hvm h2
  exact ⟨c, k', i, f, a, cell, by rw [hvm.findClass]; exact h1, hi', h3, by rw [he]; exact h4, h5, h6, h7, h8, by rw [he]; exact h9, h10⟩
theorem vx_L.kept {C n d : String} {A : Nat → Prop} {U : State} {H H1 : Heap} (h : vx_L C n d A U H) (hq : ∀ a : Nat, a < H.size → ¬ A a → H1[a]? = H[a]?) : vx_L C n d A U H1 := by
  obtain ⟨c, k, i, f, a, cell, h1, h2, h3, h4, h5, h6, h7, h8, h9, h10⟩ := h
  exact ⟨c, k, i, f, a, cell, h1, h2, h3, h4, by rw [hq a (Array.getElem?_eq_some_iff.mp h5).1 h10]; exact h5, h6, h7, h8, h9, h10⟩
theorem vx_L.narrow {C n d : String} {A B : Nat → Prop} {U : State} {H : Heap} (h : vx_L C n d A U H) (hAB : ∀ q, B q → A q) : vx_L C n d B U H := by
  obtain ⟨c, k, i, f, a, cell, h1, h2, h3, h4, h5, h6, h7, h8, h9, h10⟩ := h
  exact ⟨c, k, i, f, a, cell, h1, h2, h3, h4, h5, h6, h7, h8, h9, fun z => h10 (hAB _ z)⟩
theorem vx_L.word {C n d : String} {A : Nat → Prop} {s : State} {args : Array Value} (h : vx_L C n d A s s.heap) : (Cond.laysStatic C n d).before args s = true := by
  obtain ⟨c, k, i, f, a, cell, h1, h2, h3, h4, h5, h6, h7, h8, h9, -⟩ := h
  show (Cond.laysStatic C n d).holds args s none s [] = true
  exact Cond.laysStatic_of h1 h2 h3 h4 h5 h6 h7 h8 h9
/-- .. and what it holds: null or some reference -/
def vx_Zq (C n d : String) (A : Nat → Prop) (U : State) (H : Heap) : Prop := va_Zq C n d A U H ∧ vx_L C n d A U H
theorem vx_Zq.moved {C n d : String} {A : Nat → Prop} {u U : State} {H : Heap} (hvm : u.vm.Alike U.vm) (h : vx_Zq C n d A u H) : vx_Zq C n d A U H := ⟨va_Zq.moved hvm h.1, vx_L.moved hvm h.2⟩
theorem vx_Zq.kept {C n d : String} {A : Nat → Prop} {U : State} {H H1 : Heap} (h : vx_Zq C n d A U H) (hq : ∀ a : Nat, a < H.size → ¬ A a → H1[a]? = H[a]?) : vx_Zq C n d A U H1 := ⟨va_Zq.kept h.1 hq, vx_L.kept h.2 hq⟩
theorem vx_Zq.narrow {C n d : String} {A B : Nat → Prop} {U : State} {H : Heap} (h : vx_Zq C n d A U H) (hAB : ∀ q, B q → A q) : vx_Zq C n d B U H := ⟨va_Zq.narrow h.1 hAB, vx_L.narrow h.2 hAB⟩
theorem vx_Zqof {args : Array Value} {s : State} {C n d : String} {A : Nat → Prop} (hl : (Cond.laysStatic C n d).before args s = true) (hini : (Cond.initialized C).before args s = true) (h : (Cond.isRef (.static C n d)).before args s = true) (hA : ∀ a : Nat, a < s.heap.size → ¬ A a) : vx_Zq C n d A s s.heap := by
  refine ⟨va_Zqof hl hini h hA, ?_⟩
  obtain ⟨c, k, i, f, a, cell, h1, h2, h3, h4, h5, h6, h7, h8, h9⟩ := Cond.laysStatic_spec hl
  exact ⟨c, k, i, f, a, cell, h1, h2, h3, h4, h5, h6, h7, h8, h9, hA a (Array.getElem?_eq_some_iff.mp h5).1⟩
theorem vx_isRef {C n d : String} {v : Value} {A : Nat → Prop} {s : State} {args : Array Value} (h : va_Z C n d v A s s.heap) (hv : v.isRef = true) : (Cond.isRef (.static C n d)).before args s = true := by
  obtain ⟨cf, kf, fi, f, a, cell, h1, h2, h3, h4, h5, h6, h7, -⟩ := h
  have he : (Term.static C n d).eval args s none [] s = some v := by
    simp [Term.eval, State.fieldNamed?, h1, h2, h4, h5, h6, h7]
  simp only [Cond.before, Cond.holds, Cond.value, he]
  cases v <;> simp_all [Value.isRef]
theorem vx_isRefq {C n d : String} {A : Nat → Prop} {s : State} {args : Array Value} (h : va_Zq C n d A s s.heap) : (Cond.isRef (.static C n d)).before args s = true := by
  rcases h with h | ⟨t, h⟩
  · exact vx_isRef h rfl
  · exact vx_isRef h rfl
/-- the same frame, seen from here: as if the method were called anew in this heap -/
theorem vx_rebase {T : State} (X : Stand p l e R s m args below meth c T locs cells slots) {R' : Room} (hf : R'.frames ≤ R.frames) (hl : R'.locals ≤ R.locals) (hc : cells + R'.cells ≤ R.cells) (hs : slots + R'.slots ≤ R.slots) :
    Stand p l e R' ((T.setVm s.vm).setFrames (.invoking m args :: below)) m args below meth c T [] 0 0 := by
  have htop : (T.setVm s.vm).topJava?.isSome := X.here.top
  have hF : ((T.setVm s.vm).setFrames (.invoking m args :: below)).frames = .invoking m args :: below := State.frames_setFrames _ (State.cur_lt_of_top htop)
  obtain ⟨g₀, hg0⟩ := Option.isSome_iff_exists.mp htop
  obtain ⟨r, hr⟩ := State.topJava?_eq_some.mp hg0
  have hl9 : e.platform.stackLimits (T.setVm s.vm).me = e.platform.stackLimits s.me := X.limits
  have hb9 : (T.setVm s.vm).me.stackBytes = s.me.stackBytes := X.bytes
  refine ⟨X.admits, X.cas, X.clock, hF, ?_, X.hears, X.method, X.code, X.here, X.tail, X.warmed, ?_, ?_, ?_⟩
  · have h := X.room
    have hU : ((T.setVm s.vm).setFrames (.invoking m args :: below)).localsInUse = s.localsInUse := by
      rw [State.localsInUse_invoking hF (meth := meth) (c := c) X.method X.code, State.localsInUse_invoking X.frames X.method X.code]
    simp only [State.hasRoom, Bool.and_eq_true, decide_eq_true_eq] at h ⊢
    obtain ⟨⟨⟨⟨h1, h2, h3, h4, h5, h6⟩, h7⟩, h8⟩, h9⟩ := h
    rw [X.frames, List.length_cons] at h2 h3
    have q1 := X.heapSize
    have q2 := X.used
    simp only [hF, hU, List.length_cons, State.stackLimits_setFrames, State.stackBytes_setFrames, hl9, hb9]
    refine ⟨⟨⟨⟨by omega, by omega, by omega, by omega, by omega, h6⟩, ?_⟩, ?_⟩, X.book⟩
    · show T.heap.size + R'.cells ≤ e.platform.maxCells
      omega
    · show T.slotsUsed + R'.slots ≤ e.platform.maxSlots
      omega
  · rw [State.stackLimits_setFrames]; rfl
  · rw [State.stackBytes_setFrames]; rfl
  · refine ⟨?_, Nat.le_refl _, Nat.le_refl _, ?_, ?_, fun a c9 h9 => ⟨c9, h9, rfl, rfl, fun _ _ => rfl⟩⟩
    · obtain ⟨t, ht, -⟩ := State.frames_cons hr
      show T.setVm s.vm = { ((T.setVm s.vm).setFrames (.invoking m args :: below)).setFrames (T.setVm s.vm).frames with heap := T.heap, slotsUsed := T.slotsUsed }
      rw [State.setFrames_setFrames, State.setFrames_self ht]
      rfl
    · show T.slotsUsed = T.slotsUsed + ((T.heap.toList.drop T.heap.size).map (·.slots.size)).sum
      rw [List.drop_eq_nil_of_le (Nat.le_of_eq Array.length_toList)]
      rfl
    · show ((T.heap.toList.drop T.heap.size).map (·.slots.size)).sum ≤ 0
      rw [List.drop_eq_nil_of_le (Nat.le_of_eq Array.length_toList)]
      exact Nat.le_refl _
/-- 'throw new E()': new; dup; invokespecial; athrow -/
theorem vx_throw0 {cc : ByteArray} {pc : Nat} (hexec : p.tables.exec = Jvm.exec) (hb : c.code = cc) (hl : l.stackTraces = false) {own cls : String} {names : List String} {ik ic mc ms : Nat} {A : Nat → Prop}
    (hown : s.vm.findClass own = some m.cls) (hcls : Bundle.fit cls = true) (hnames : ∀ n ∈ names, Bundle.fit n = true)
    (hk : (Cond.classLink own ik cls).before args s = true) (hini : (Cond.initialized cls).before args s = true) (hat : ∀ w ∈ vx_at0 own ic cls names, w.before args s = true)
    (hgood : ∀ w ∈ Cond.classLink own ik cls :: Cond.initialized cls :: vx_at0 own ic cls names, vx_ot w = true)
    (hU : vx_Zq Bundle.tN "UNASSIGNED_STACK" Bundle.steD A s s.heap) (hN : vx_Zq Bundle.tN "SUPPRESSED_SENTINEL" Bundle.listD A s s.heap) (hS : va_S A s.heap H locs) (hsize : ls.size = c.maxLocals)
    (d0 : decode cc pc = .ok (.new ik, 3)) (d3 : decode cc (pc + 3) = .ok (.dup, 1)) (d4 : decode cc (pc + 4) = .ok (.invokespecial ic, 3)) (d7 : decode cc (pc + 7) = .ok (.athrow, 1))
    (hout : ∀ x ∈ c.exceptionTable.toList, covers x (pc + 7) = false)
    (hRframes : names.length + 3 < R.frames) (hRlocals : (rest.map fun v => v.category).sum + (13 * (names.length + 1) + 42) ≤ R.locals) (hRcells : cells + 1 ≤ R.cells) (hRslots : slots + 6 ≤ R.slots) (hlocks : meth.locks = false)
    (hx : ∀ t : State, s.vm.Alike t.vm → H.size ≤ t.heap.size → (∀ q : Nat, q < H.size → t.heap[q]? = H[q]?) → XC cls s t)
    (hf : ∀ z ∈ locs, free z.base) (hc : cells + 1 ≤ mc) (hs : slots + 6 ≤ ms) :
    W p l e R s m args below meth c H locs cells slots (vx_MQ below Qc XC args s mc ms free) (F0 m pc ls rest) := by
  intro T hT X
  have htr : e.platform.stackTraces = false := (show e.platform.stackTraces = l.stackTraces by rw [X.admits.platform]).trans hl
  have Y := vx_rebase X (R' := { frames := R.frames, locals := R.locals, cells := 1, slots := 6 }) (Nat.le_refl _) (Nat.le_refl _) hRcells hRslots
  obtain ⟨s', hA⟩ : ∃ z, z = (T.setVm s.vm).setFrames (.invoking m args :: below) := ⟨_, rfl⟩
  rw [← hA] at Y
  have hvm : s'.vm = s.vm := by rw [hA]; rfl
  have hhp : s'.heap = H := by rw [hA]; exact hT
  have hW0 : s.WarmedH s'.vm := by rw [hvm]; exact State.WarmedH.refl s
  have hat' : ∀ w ∈ vx_at0 own ic cls names, w.before args s' = true := fun w hw => vx_ot_at hW0 hvm.symm (hgood w (List.mem_cons_of_mem _ (List.mem_cons_of_mem _ hw))) (hat w hw)
  have hk' : (Cond.classLink own ik cls).before args s' = true := vx_ot_at hW0 hvm.symm (hgood _ List.mem_cons_self) hk
  have hini' : (Cond.initialized cls).before args s' = true := vx_ot_at hW0 hvm.symm (hgood _ (List.mem_cons_of_mem _ List.mem_cons_self)) hini
  have hU' : vx_Zq Bundle.tN "UNASSIGNED_STACK" Bundle.steD A s' s'.heap := by rw [hhp]; exact vx_Zq.moved hW0.alike (hU.kept hS.2.1)
  have hN' : vx_Zq Bundle.tN "SUPPRESSED_SENTINEL" Bundle.listD A s' s'.heap := by rw [hhp]; exact vx_Zq.moved hW0.alike (hN.kept hS.2.1)
  have h : ∀ w ∈ Bundle.ownAtoms0 own ic cls names, w.before args s' = true := vx_own hat' (vx_isRefq hU'.1) (vx_isRefq hN'.1) hU'.2.word hN'.2.word
  have hown' : s'.vm.findClass own = some m.cls := by rw [hvm]; exact hown
  have hins : (Cond.instantiable cls 6).before args s' = true := h _ (by simp [Bundle.ownAtoms0])
  obtain ⟨vm₁, cX, kX, hfX, hkX, -, -, X₁, st1⟩ := Y.newCold hexec (own := own) (C := cls) (index := ik) (n := 6) hown' hk' hins hini'
    (g := F0 m pc ls rest) rfl (by rw [hb]; exact d0) (Nat.le_refl _) (Nat.le_refl _)
  generalize hT1 : (T.setVm vm₁).pushCell { cls := cX, slots := kX.instanceTypes.map defaultValue, vm := .none } = T1 at X₁ st1
  have hcat : (Value.ref T.heap.size).category = 1 := rfl
  have hcellA : T1.heap[T.heap.size]? = some (freshCell cX kX) := by rw [← hT1]; exact State.heap_pushCell_size _ _
  have d3' : decode c.code (pc + 3) = .ok (.dup, 1) := by rw [hb]; exact d3
  obtain ⟨U, hsteps, hrun, hend, hW, hsame, ce, hce, hO⟩ := X₁.ctorThrow0 hexec htr (own := own) (cls := cls) (names := names) (ic := ic) hown' hcls hnames h (fun x hx => nomatch hx) hfX hkX hcellA (by rw [hhp, hT]; exact Nat.le_refl _)
    (g := { method := m, pc := pc + 4, locals := ls, stack := .ref T.heap.size :: .ref T.heap.size :: rest, locked := none }) rfl hsize rfl rfl (rest := rest) rfl
    (by rw [hb]; exact d4) (by rw [hb]; exact d7) hout hRframes (by simp only [List.map_cons, List.sum_cons, hcat]; omega) hlocks
  obtain ⟨f1, f2⟩ := vx_frame hsame
  rw [hhp] at f1 f2
  have hWs : s.WarmedH U.vm := State.WarmedH.trans hW0 hW
  have hcl : s.vm.findClass cls = some ce.cls := by
    have h9 := hO.cls
    rw [hvm] at h9
    exact h9
  have hall : s.sameButNew ({ U with vm := s.vm } : State) locs mc ms := by
    subst hA
    obtain ⟨e1, e2⟩ := hsame
    rw [State.setFrames_setFrames] at e1
    have h2 : (T.setVm s.vm).sameButNew ({ U with vm := s.vm } : State) [] (0 + 1) (0 + 6) := ⟨e1, e2⟩
    have h3 := X.same.trans h2
    rw [List.append_nil] at h3
    exact h3.mono hc hs
  refine ⟨U, ?_, .threw T.heap.size, hrun, hend, Or.inr ⟨T.heap.size, rfl, cls, ce, locs, hx U hWs.alike f1 (fun q hq => f2 q hq (fun z hz => nomatch hz)), hce, hO.vm, hcl, hWs, hall, hf⟩⟩
  refine st1 _ ?_
  show Steps p.tables e below (T1.setTop { method := m, pc := pc + 3, locals := ls, stack := .ref T.heap.size :: rest, locked := none }) _
  jvm_step X₁.here [X₁.here.top, hexec, d3', Value.category]
  exact hsteps
/-- 'throw new E("text")': new; dup; ldc; invokespecial; athrow -/
theorem vx_throwS {cc : ByteArray} {pc : Nat} (hexec : p.tables.exec = Jvm.exec) (hb : c.code = cc) (hl : l.stackTraces = false) {own cls text : String} {names : List String} {ik is ic mc ms sa : Nat} {A : Nat → Prop}
    (hown : s.vm.findClass own = some m.cls) (hcls : Bundle.fit cls = true) (hnames : ∀ n ∈ names, Bundle.fit n = true)
    (hk : (Cond.classLink own ik cls).before args s = true) (hini : (Cond.initialized cls).before args s = true) (hstr : vk_R own is text sa s) (hat : ∀ w ∈ vx_atS own ic cls names, w.before args s = true)
    (hgood : ∀ w ∈ Cond.classLink own ik cls :: Cond.initialized cls :: vx_atS own ic cls names, vx_ot w = true)
    (hU : vx_Zq Bundle.tN "UNASSIGNED_STACK" Bundle.steD A s s.heap) (hN : vx_Zq Bundle.tN "SUPPRESSED_SENTINEL" Bundle.listD A s s.heap) (hS : va_S A s.heap H locs) (hsize : ls.size = c.maxLocals)
    (d0 : decode cc pc = .ok (.new ik, 3)) (d3 : decode cc (pc + 3) = .ok (.dup, 1)) (d4 : decode cc (pc + 4) = .ok (.ldc is, 2)) (d6 : decode cc (pc + 6) = .ok (.invokespecial ic, 3)) (d9 : decode cc (pc + 9) = .ok (.athrow, 1))
    (hout : ∀ x ∈ c.exceptionTable.toList, covers x (pc + 9) = false)
    (hRframes : names.length + 3 < R.frames) (hRlocals : (rest.map fun v => v.category).sum + (13 * (names.length + 1) + 43) ≤ R.locals) (hRcells : cells + 1 ≤ R.cells) (hRslots : slots + 6 ≤ R.slots) (hlocks : meth.locks = false)
    (hx : ∀ t : State, s.vm.Alike t.vm → H.size ≤ t.heap.size → (∀ q : Nat, q < H.size → t.heap[q]? = H[q]?) → XC cls s t)
    (hf : ∀ z ∈ locs, free z.base) (hc : cells + 1 ≤ mc) (hs : slots + 6 ≤ ms) :
    W p l e R s m args below meth c H locs cells slots (vx_MQ below Qc XC args s mc ms free) (F0 m pc ls rest) := by
  intro T hT X
  have htr : e.platform.stackTraces = false := (show e.platform.stackTraces = l.stackTraces by rw [X.admits.platform]).trans hl
  have Y := vx_rebase X (R' := { frames := R.frames, locals := R.locals, cells := 1, slots := 6 }) (Nat.le_refl _) (Nat.le_refl _) hRcells hRslots
  obtain ⟨s', hA⟩ : ∃ z, z = (T.setVm s.vm).setFrames (.invoking m args :: below) := ⟨_, rfl⟩
  rw [← hA] at Y
  have hvm : s'.vm = s.vm := by rw [hA]; rfl
  have hhp : s'.heap = H := by rw [hA]; exact hT
  have hW0 : s.WarmedH s'.vm := by rw [hvm]; exact State.WarmedH.refl s
  have hat' : ∀ w ∈ vx_atS own ic cls names, w.before args s' = true := fun w hw => vx_ot_at hW0 hvm.symm (hgood w (List.mem_cons_of_mem _ (List.mem_cons_of_mem _ hw))) (hat w hw)
  have hk' : (Cond.classLink own ik cls).before args s' = true := vx_ot_at hW0 hvm.symm (hgood _ List.mem_cons_self) hk
  have hini' : (Cond.initialized cls).before args s' = true := vx_ot_at hW0 hvm.symm (hgood _ (List.mem_cons_of_mem _ List.mem_cons_self)) hini
  have hU' : vx_Zq Bundle.tN "UNASSIGNED_STACK" Bundle.steD A s' s'.heap := by rw [hhp]; exact vx_Zq.moved hW0.alike (hU.kept hS.2.1)
  have hN' : vx_Zq Bundle.tN "SUPPRESSED_SENTINEL" Bundle.listD A s' s'.heap := by rw [hhp]; exact vx_Zq.moved hW0.alike (hN.kept hS.2.1)
  have h : ∀ w ∈ Bundle.ownAtoms own ic cls names, w.before args s' = true := vx_own hat' (vx_isRefq hU'.1) (vx_isRefq hN'.1) hU'.2.word hN'.2.word
  have hown' : s'.vm.findClass own = some m.cls := by rw [hvm]; exact hown
  have hins : (Cond.instantiable cls 6).before args s' = true := h _ (by simp [Bundle.ownAtoms])
  obtain ⟨vm₁, cX, kX, hfX, hkX, -, -, X₁, st1⟩ := Y.newCold hexec (own := own) (C := cls) (index := ik) (n := 6) hown' hk' hins hini'
    (g := F0 m pc ls rest) rfl (by rw [hb]; exact d0) (Nat.le_refl _) (Nat.le_refl _)
  generalize hT1 : (T.setVm vm₁).pushCell { cls := cX, slots := kX.instanceTypes.map defaultValue, vm := .none } = T1 at X₁ st1
  have hcat : (Value.ref T.heap.size).category = 1 := rfl
  have hcellA : T1.heap[T.heap.size]? = some (freshCell cX kX) := by rw [← hT1]; exact State.heap_pushCell_size _ _
  have d3' : decode c.code (pc + 3) = .ok (.dup, 1) := by rw [hb]; exact d3
  have d4' : decode c.code (pc + 4) = .ok (.ldc is, 2) := by rw [hb]; exact d4
  have hstr' : vk_R own is text sa s' := vk_R.warm hW0 hstr
  obtain ⟨U, hsteps, hrun, hend, hW, hsame, ce, hce, hO⟩ := X₁.ctorThrowS hexec htr (own := own) (cls := cls) (names := names) (ic := ic) hown' hcls hnames h (fun x hx => nomatch hx) hfX hkX hcellA (by rw [hhp, hT]; exact Nat.le_refl _) (msg := .ref sa) rfl
    (g := { method := m, pc := pc + 6, locals := ls, stack := .ref sa :: .ref T.heap.size :: .ref T.heap.size :: rest, locked := none }) rfl hsize rfl rfl (rest := rest) rfl
    (by rw [hb]; exact d6) (by rw [hb]; exact d9) hout hRframes (by simp only [List.map_cons, List.sum_cons, hcat]; omega) hlocks
  obtain ⟨f1, f2⟩ := vx_frame hsame
  rw [hhp] at f1 f2
  have hWs : s.WarmedH U.vm := State.WarmedH.trans hW0 hW
  have hcl : s.vm.findClass cls = some ce.cls := by
    have h9 := hO.cls
    rw [hvm] at h9
    exact h9
  have hall : s.sameButNew ({ U with vm := s.vm } : State) locs mc ms := by
    subst hA
    obtain ⟨e1, e2⟩ := hsame
    rw [State.setFrames_setFrames] at e1
    have h2 : (T.setVm s.vm).sameButNew ({ U with vm := s.vm } : State) [] (0 + 1) (0 + 6) := ⟨e1, e2⟩
    have h3 := X.same.trans h2
    rw [List.append_nil] at h3
    exact h3.mono hc hs
  refine ⟨U, ?_, .threw T.heap.size, hrun, hend, Or.inr ⟨T.heap.size, rfl, cls, ce, locs, hx U hWs.alike f1 (fun q hq => f2 q hq (fun z hz => nomatch hz)), hce, hO.vm, hcl, hWs, hall, hf⟩⟩
  refine st1 _ ?_
  show Steps p.tables e below (T1.setTop { method := m, pc := pc + 3, locals := ls, stack := .ref T.heap.size :: rest, locked := none }) _
  jvm_step X₁.here [X₁.here.top, hexec, d3', Value.category]
  exact X₁.ldcString hexec (own := own) (text := text) (index := is) (a := sa) hown' hstr'.1 hstr'.2
    (g := { method := m, pc := pc + 4, locals := ls, stack := .ref T.heap.size :: .ref T.heap.size :: rest, locked := none }) rfl d4' _ hsteps
/-- 'throw new E("text")', the text by a wide index -/
theorem vx_throwSW {cc : ByteArray} {pc : Nat} (hexec : p.tables.exec = Jvm.exec) (hb : c.code = cc) (hl : l.stackTraces = false) {own cls text : String} {names : List String} {ik is ic mc ms sa : Nat} {A : Nat → Prop}
    (hown : s.vm.findClass own = some m.cls) (hcls : Bundle.fit cls = true) (hnames : ∀ n ∈ names, Bundle.fit n = true)
    (hk : (Cond.classLink own ik cls).before args s = true) (hini : (Cond.initialized cls).before args s = true) (hstr : vk_R own is text sa s) (hat : ∀ w ∈ vx_atS own ic cls names, w.before args s = true)
    (hgood : ∀ w ∈ Cond.classLink own ik cls :: Cond.initialized cls :: vx_atS own ic cls names, vx_ot w = true)
    (hU : vx_Zq Bundle.tN "UNASSIGNED_STACK" Bundle.steD A s s.heap) (hN : vx_Zq Bundle.tN "SUPPRESSED_SENTINEL" Bundle.listD A s s.heap) (hS : va_S A s.heap H locs) (hsize : ls.size = c.maxLocals)
    (d0 : decode cc pc = .ok (.new ik, 3)) (d3 : decode cc (pc + 3) = .ok (.dup, 1)) (d4 : decode cc (pc + 4) = .ok (.ldc_w is, 3)) (d7 : decode cc (pc + 7) = .ok (.invokespecial ic, 3)) (d10 : decode cc (pc + 10) = .ok (.athrow, 1))
    (hout : ∀ x ∈ c.exceptionTable.toList, covers x (pc + 10) = false)
    (hRframes : names.length + 3 < R.frames) (hRlocals : (rest.map fun v => v.category).sum + (13 * (names.length + 1) + 43) ≤ R.locals) (hRcells : cells + 1 ≤ R.cells) (hRslots : slots + 6 ≤ R.slots) (hlocks : meth.locks = false)
    (hx : ∀ t : State, s.vm.Alike t.vm → H.size ≤ t.heap.size → (∀ q : Nat, q < H.size → t.heap[q]? = H[q]?) → XC cls s t)
    (hf : ∀ z ∈ locs, free z.base) (hc : cells + 1 ≤ mc) (hs : slots + 6 ≤ ms) :
    W p l e R s m args below meth c H locs cells slots (vx_MQ below Qc XC args s mc ms free) (F0 m pc ls rest) := by
  intro T hT X
  have htr : e.platform.stackTraces = false := (show e.platform.stackTraces = l.stackTraces by rw [X.admits.platform]).trans hl
  have Y := vx_rebase X (R' := { frames := R.frames, locals := R.locals, cells := 1, slots := 6 }) (Nat.le_refl _) (Nat.le_refl _) hRcells hRslots
  obtain ⟨s', hA⟩ : ∃ z, z = (T.setVm s.vm).setFrames (.invoking m args :: below) := ⟨_, rfl⟩
  rw [← hA] at Y
  have hvm : s'.vm = s.vm := by rw [hA]; rfl
  have hhp : s'.heap = H := by rw [hA]; exact hT
  have hW0 : s.WarmedH s'.vm := by rw [hvm]; exact State.WarmedH.refl s
  have hat' : ∀ w ∈ vx_atS own ic cls names, w.before args s' = true := fun w hw => vx_ot_at hW0 hvm.symm (hgood w (List.mem_cons_of_mem _ (List.mem_cons_of_mem _ hw))) (hat w hw)
  have hk' : (Cond.classLink own ik cls).before args s' = true := vx_ot_at hW0 hvm.symm (hgood _ List.mem_cons_self) hk
  have hini' : (Cond.initialized cls).before args s' = true := vx_ot_at hW0 hvm.symm (hgood _ (List.mem_cons_of_mem _ List.mem_cons_self)) hini
  have hU' : vx_Zq Bundle.tN "UNASSIGNED_STACK" Bundle.steD A s' s'.heap := by rw [hhp]; exact vx_Zq.moved hW0.alike (hU.kept hS.2.1)
  have hN' : vx_Zq Bundle.tN "SUPPRESSED_SENTINEL" Bundle.listD A s' s'.heap := by rw [hhp]; exact vx_Zq.moved hW0.alike (hN.kept hS.2.1)
  have h : ∀ w ∈ Bundle.ownAtoms own ic cls names, w.before args s' = true := vx_own hat' (vx_isRefq hU'.1) (vx_isRefq hN'.1) hU'.2.word hN'.2.word
  have hown' : s'.vm.findClass own = some m.cls := by rw [hvm]; exact hown
  have hins : (Cond.instantiable cls 6).before args s' = true := h _ (by simp [Bundle.ownAtoms])
  obtain ⟨vm₁, cX, kX, hfX, hkX, -, -, X₁, st1⟩ := Y.newCold hexec (own := own) (C := cls) (index := ik) (n := 6) hown' hk' hins hini'
    (g := F0 m pc ls rest) rfl (by rw [hb]; exact d0) (Nat.le_refl _) (Nat.le_refl _)
  generalize hT1 : (T.setVm vm₁).pushCell { cls := cX, slots := kX.instanceTypes.map defaultValue, vm := .none } = T1 at X₁ st1
  have hcat : (Value.ref T.heap.size).category = 1 := rfl
  have hcellA : T1.heap[T.heap.size]? = some (freshCell cX kX) := by rw [← hT1]; exact State.heap_pushCell_size _ _
  have d3' : decode c.code (pc + 3) = .ok (.dup, 1) := by rw [hb]; exact d3
  have d4' : decode c.code (pc + 4) = .ok (.ldc_w is, 3) := by rw [hb]; exact d4
  have hstr' : vk_R own is text sa s' := vk_R.warm hW0 hstr
  obtain ⟨U, hsteps, hrun, hend, hW, hsame, ce, hce, hO⟩ := X₁.ctorThrowS hexec htr (own := own) (cls := cls) (names := names) (ic := ic) hown' hcls hnames h (fun x hx => nomatch hx) hfX hkX hcellA (by rw [hhp, hT]; exact Nat.le_refl _) (msg := .ref sa) rfl
    (g := { method := m, pc := pc + 7, locals := ls, stack := .ref sa :: .ref T.heap.size :: .ref T.heap.size :: rest, locked := none }) rfl hsize rfl rfl (rest := rest) rfl
    (by rw [hb]; exact d7) (by rw [hb]; exact d10) hout hRframes (by simp only [List.map_cons, List.sum_cons, hcat]; omega) hlocks
  obtain ⟨f1, f2⟩ := vx_frame hsame
  rw [hhp] at f1 f2
  have hWs : s.WarmedH U.vm := State.WarmedH.trans hW0 hW
  have hcl : s.vm.findClass cls = some ce.cls := by
    have h9 := hO.cls
    rw [hvm] at h9
    exact h9
  have hall : s.sameButNew ({ U with vm := s.vm } : State) locs mc ms := by
    subst hA
    obtain ⟨e1, e2⟩ := hsame
    rw [State.setFrames_setFrames] at e1
    have h2 : (T.setVm s.vm).sameButNew ({ U with vm := s.vm } : State) [] (0 + 1) (0 + 6) := ⟨e1, e2⟩
    have h3 := X.same.trans h2
    rw [List.append_nil] at h3
    exact h3.mono hc hs
  refine ⟨U, ?_, .threw T.heap.size, hrun, hend, Or.inr ⟨T.heap.size, rfl, cls, ce, locs, hx U hWs.alike f1 (fun q hq => f2 q hq (fun z hz => nomatch hz)), hce, hO.vm, hcl, hWs, hall, hf⟩⟩
  refine st1 _ ?_
  show Steps p.tables e below (T1.setTop { method := m, pc := pc + 3, locals := ls, stack := .ref T.heap.size :: rest, locked := none }) _
  jvm_step X₁.here [X₁.here.top, hexec, d3', Value.category]
  exact X₁.ldcStringW hexec (own := own) (text := text) (index := is) (a := sa) hown' hstr'.1 hstr'.2
    (g := { method := m, pc := pc + 4, locals := ls, stack := .ref T.heap.size :: .ref T.heap.size :: rest, locked := none }) rfl d4' _ hsteps
end Ends
section Bodies
variable {l : Launch}
theorem vx_ofW {y : MethodName} {ws ws' : List Cond} {rm : Room} {Pc : Array Value → State → Prop} {Qc : Array Value → State → Outcome → State → Prop} {XC : String → State → State → Prop} {mc ms : Nat} {free : Addr → Prop} {cc : ByteArray} {maxL : Nat} {ret : Option FieldType}
    (hy : plainName y.cls = true) (hw : ws = Cond.code y cc maxL ret :: ws')
    (body : ∀ p e s m args below meth c s₁, BodyLoose p l y (headSpec ws rm) cc maxL ret e s m args below meth c s₁ → c.maxLocals = maxL → (∀ x ∈ c.exceptionTable.toList, False) → Pc args s →
      W p l e (headSpec ws rm).room s m args below meth c s.heap [] 0 0 (vx_MQ below Qc XC args s mc ms free) (entryFrame m args maxL)) : vx_Met l y ws rm Pc Qc XC mc ms free := by
  refine MetFree.of_bodyS (code := cc) (maxLocals := maxL) (ret := ret) hy ?_ ?_
  · intro args s m h hn
    obtain ⟨meth, c, h1, h2, h3, h4, h5, h6, -, -⟩ := Cond.code_spec hn (atoms_spec (ws := ws) h _ (by rw [hw]; exact List.mem_cons_self))
    exact ⟨meth, c, h1, h2, h3, h4, h5, h6⟩
  · intro p e s m args below meth c s₁ B hml hP _
    have hh0 : s₁.heap = s.heap := by rw [B.state]; rfl
    have ht : ∀ x ∈ c.exceptionTable.toList, False := by
      obtain ⟨meth9, c9, h1, h2, -, -, -, -, h7, -⟩ := Cond.code_spec B.named (atoms_spec (ws := ws) B.pre _ (by rw [hw]; exact List.mem_cons_self))
      cases Option.some.inj (h1.symm.trans B.method)
      cases Option.some.inj (h2.symm.trans (Stand.of_body B).code)
      intro x hx
      rw [Array.isEmpty_iff.mp h7] at hx
      cases hx
    obtain ⟨t, a1, o, b1, b2, b3⟩ := body p e s m args below meth c s₁ B hml ht hP s₁ hh0 (Stand.of_body B)
    exact ⟨t, o, a1, b1, b2, b3⟩
/-- the table of a body with handlers -/
theorem vx_table {p : Program} {x y : MethodName} {S : Spec} {cc bytes : ByteArray} {maxL maxL' : Nat} {ret ret' : Option FieldType} {e : Env} {s s₁ : State} {m : MethodId} {args : Array Value} {below : List Frame} {meth : Method} {c : Code} {hh : List (Nat × Nat × Nat × Nat)}
    (B : BodyLoose p l y S cc maxL ret e s m args below meth c s₁) (h : (Cond.codeWith y bytes maxL' ret' hh).before args s = true) : c.exceptionTable.toList = tableOf hh := by
  obtain ⟨m9, meth9, c9, hn9, h1, h2, -, -, h6, -⟩ := Cond.codeWith_spec h
  cases Option.some.inj (hn9.symm.trans B.named)
  cases Option.some.inj (h1.symm.trans B.method)
  cases Option.some.inj (h2.symm.trans (Stand.of_body B).code)
  rw [← h6, table_eq]
end Bodies
end VXA
/-! ===== END ===== -/
/-! ===== BEGIN a static call of a method with an exception table ===== -/
section VXS
variable {p : Program} {l : Launch} {e : Env} {R : Room} {s : State} {m : MethodId} {args : Array Value} {below : List Frame} {meth : Method} {c : Code} {T : State} {H : Heap} {locs : List Loc} {cells slots : Nat}
abbrev vx_CSW (R : Room) (s : State) (args : Array Value) (own : String) (index : Nat) (y : MethodName) (bytes : ByteArray) (maxL : Nat) (ret : Option FieldType) (hh : List (Nat × Nat × Nat × Nat)) (ws : List Cond) (rm : Room) (mc ms n : Nat) : Prop :=
  (rm.cells = mc ∧ rm.slots = ms ∧ rm.frames + 1 ≤ R.frames ∧ 8 + (maxL + 11) + rm.locals ≤ R.locals ∧ (∀ w ∈ ws, ∀ (a' : Array Value) (U : State), s.WarmedH U.vm → w.before a' U = true) ∧ Cond.codeWith y bytes maxL ret hh ∈ ws) ∧
  (Cond.codeWith y bytes maxL ret hh).before args s = true ∧ (Cond.initialized y.cls).before args s = true ∧ (y.cls ≠ "java/lang/invoke/MethodHandle" ∧ y.cls ≠ "java/lang/invoke/VarHandle") ∧
  (∀ sig, parseMethodDescriptor y.desc = some sig → n = sig.parameters.length) ∧ (Cond.methodLink own index y).before args s = true ∧ (Cond.static y).before args s = true
theorem vx_cwSW {own : String} {index maxL mc ms : Nat} {y : MethodName} {bytes : ByteArray} {ret : Option FieldType} {hh : List (Nat × Nat × Nat × Nat)} {Ts ws ws' : List Cond} {rm : Room} (n : Nat) (ht : ∀ w ∈ Ts, w.before args s = true) (hT : GoodIn Ts (va_wsS own index y ws)) (hw : ws = Cond.codeWith y bytes maxL ret hh :: ws') (hrc : rm.cells = mc) (hrs : rm.slots = ms)
    (hd : y.cls ≠ "java/lang/invoke/MethodHandle" ∧ y.cls ≠ "java/lang/invoke/VarHandle" ∧ (parseMethodDescriptor y.desc).map (fun d => d.parameters.length) = some n) (hR : rm.frames + 1 ≤ R.frames ∧ 8 + (maxL + 11) + rm.locals ≤ R.locals) :
    vx_CSW R s args own index y bytes maxL ret hh ws rm mc ms n := by
  have ok : ∀ w ∈ va_wsS own index y ws, w.before args s = true := fun w h => ht w (hT w h).1
  have hG : GoodIn Ts ws := fun w h => hT w (by unfold va_wsS; exact List.mem_append_right _ h)
  have hc : Cond.codeWith y bytes maxL ret hh ∈ ws := by rw [hw]; exact List.mem_cons_self
  refine ⟨⟨hrc, hrs, hR.1, hR.2, pay_in ht hG, hc⟩, ht _ (hG _ hc).1, ok _ (by simp [va_wsS]), ⟨hd.1, hd.2.1⟩, fun sig h => ?_, ok _ (by simp [va_wsS]), ok _ (by simp [va_wsS])⟩
  have h2 := hd.2.2
  rw [h] at h2
  exact (Option.some.inj h2).symm
theorem vx_callSW (X : Stand p l e R s m args below meth c T locs cells slots) (hexec : p.tables.exec = Jvm.exec) {own : String} {index : Nat} {y : MethodName} {bytes : ByteArray} {maxL : Nat} {ret : Option FieldType} {hh : List (Nat × Nat × Nat × Nat)}
    (hown : s.vm.findClass own = some m.cls) (hlink : (Cond.methodLink own index y).before args s = true) (hstat : (Cond.static y).before args s = true) (hinit : (Cond.initialized y.cls).before args s = true)
    (hcode : (Cond.codeWith y bytes maxL ret hh).before args s = true) (hy : y.cls ≠ "java/lang/invoke/MethodHandle" ∧ y.cls ≠ "java/lang/invoke/VarHandle")
    {W9 : Nat} {Pre : Pt → Array Value → Prop} {Post : Pt → Array Value → Option Value → Pt → Prop} (hK : Back l R p e below s args y 3 W9 Pre Post)
    {g : JFrame} (hg : g.method = m) (hsize : g.locals.size = c.maxLocals) {argsL rest : List Value} (hlen : ∀ sig, parseMethodDescriptor y.desc = some sig → argsL.length = sig.parameters.length)
    (hstack : g.stack = argsL.reverse ++ rest) (hW : 2 * g.monitorRoom + (rest.map fun v => v.category).sum ≤ W9) (hdg : decode c.code g.pc = .ok (.invokestatic index, 3))
    (hpre : ∀ vm₁, s.WarmedH vm₁ → Pre ⟨T.setVm vm₁, locs, cells, slots⟩ argsL.toArray) :
    ∃ (v : Option Value) (vm₁ : Vm) (B : Pt), s.WarmedH vm₁ ∧ Stand p l e R s m args below meth c B.U B.locs B.cells B.slots ∧ Post ⟨T.setVm vm₁, locs, cells, slots⟩ argsL.toArray v B ∧
      ∀ target, Steps p.tables e below (B.U.setTop { g with pc := g.pc + 3, stack := v.toList ++ rest }) target → Steps p.tables e below (T.setTop g) target := by
  obtain ⟨mk, methM, cM, hnamed, hmethM, -, -, -, -, -, -, hsigM⟩ := Cond.codeWith_spec hcode
  have hstatic : methM.isStatic = true := Cond.static_spec hnamed hmethM hstat
  obtain ⟨kP, hkP, -⟩ := className_of_methodNamed hnamed
  have hinitP : kP.init = .initialized := Cond.initialized_spec (findClass_of_methodNamed hnamed) hkP hinit
  obtain ⟨vm₁, X₁, hstep₁⟩ := X.invokestatic hexec hown hlink hnamed hmethM hstatic hkP hinitP hy (g := g) hg (argsL := argsL) (rest := rest) (hlen _ hsigM) hstack hdg
  obtain ⟨v, B, X', hpost, hsteps⟩ := hK m meth c ⟨T.setVm vm₁, locs, cells, slots⟩ { g with stack := rest } (.invokestatic index) mk argsL.toArray X₁ hg hsize hdg hW (X₁.named hnamed) (hpre vm₁ X₁.warmed)
  exact ⟨v, vm₁, B, X₁.warmed, X', hpost, fun target h => hstep₁ _ fun acts => by rw [doInvoke_state]; exact hsteps.trans h⟩
theorem vx_runSW {y : MethodName} {bytes cc : ByteArray} {maxL nL mc ms n index : Nat} {ret : Option FieldType} {hh : List (Nat × Nat × Nat × Nat)} {ws : List Cond} {rm : Room} {Pc : Array Value → State → Prop} {Qc : Array Value → State → Outcome → State → Prop} {free : Addr → Prop} {Ts : List Cond} {own : String} {As rest : List Value} {g : JFrame}
    (S : CallFix p m c cc nL s args Ts own) (hM : Met l y ws rm Pc Qc mc ms free) (cw : vx_CSW R s args own index y bytes maxL ret hh ws rm mc ms n) (hp : PreS s H Pc As)
    (hg : g.method = m) (hn : As.length = n) (hsize : g.locals.size = nL) (hstack : g.stack = As.reverse ++ rest) (hW : 2 * g.monitorRoom + (rest.map fun v => v.category).sum ≤ 8) (hdg : decode cc g.pc = .ok (.invokestatic index, 3)) (hf : cells + mc ≤ R.cells ∧ slots + ms ≤ R.slots) :
    va_Run p l e R s m args below meth c H locs cells slots mc ms g rest (Qc As.toArray) (free) := by
  obtain ⟨⟨hrc, hrs, hfr, hlo, hws, hcw⟩, hcode, hini, hy, hlen, hl, hstt⟩ := cw
  have hK : Back l R p e below s args y 3 8 (PreOf R mc ms Pc) (PostOf Qc mc ms free) := va_backW (hh := hh) (bytes := bytes) (maxL := maxL) (ret := ret) hM hp.1 hrc hrs hfr hlo hws hcw (fun a' U hW => word_at hW (Or.inl (by first | rfl | simp [Cond.onTables, Cond.keeps, Cond.steady])) hini)
  obtain ⟨hx, hb, hml, ho, -⟩ := S
  intro T hT X
  obtain ⟨v, vm₁, ⟨U', l2, c2, s2⟩, hW₁, X', ⟨g', mk, t, L, e1, e2, hq, h1, hL, h2, h3⟩, st⟩ := vx_callSW X hx (hh := hh) (bytes := bytes) (maxL := maxL) (ret := ret) ho hl hstt hini hcode hy hK hg (hsize.trans hml.symm) (argsL := As) (rest := rest) (fun sig h => hn.trans (hlen sig h)) hstack hW (by rw [hb]; exact hdg)
    (fun vm₁ hW₁ => ⟨hf.1, hf.2, hp.2 (T.setVm vm₁) hT hW₁⟩)
  dsimp only [Pt.U, Pt.locs, Pt.cells, Pt.slots] at X' e1 e2 h1 h2 h3 st
  subst h1; subst h2; subst h3
  exact ⟨v, (T.setVm vm₁).calling g' mk As.toArray, t, U', L, hT, X', hL, e1, e2, hq, st⟩
/-- not caught here, past rows that name other classes: it goes on to the caller -/
theorem vx_outP {p : Program} {l : Launch} {e : Env} {R : Room} {s : State} {m : MethodId} {args : Array Value} {below : List Frame} {meth : Method} {c : Code} {H : Heap} {locs : List Loc} {cells slots : Nat} {free : Addr → Prop} {ls : Array Slot} {rest : List Value} {Qc : Array Value → State → Outcome → State → Prop} {XC : String → State → State → Prop}
    {pc : Nat} {own E : String} {ce : Cell} {q : Addr} {mc ms : Nat} (hown : s.vm.findClass own = some m.cls) (hlocks : meth.locks = false)
    (hpass : ∀ z ∈ c.exceptionTable.toList, covers z pc = false ∨ (z.catchType ≠ 0 ∧ ∃ nm : String, (Cond.classLink own z.catchType nm).before args s = true ∧ va_Nc E nm s)) (hcell : H[q]? = some ce) (hv : ce.vm = .none) (hcl : s.vm.findClass E = some ce.cls)
    (hx : ∀ t : State, t.heap = H → s.vm.Alike t.vm → XC E s t) (hf : ∀ z ∈ locs, free z.base) (hc : cells ≤ mc) (hs : slots ≤ ms) :
    vx_W p l e R s m args below meth c H locs cells slots (vx_MQ below Qc XC args s mc ms free) (F0 m pc ls rest) q := by
  intro T hT X
  have hpl : e.platform.magicAccessors = ({} : Platform).magicAccessors := by rw [X.admits.platform]
  obtain ⟨vm', hW', X', st⟩ := X.outThrough hlocks q (g := F0 m pc ls rest) rfl rfl rfl (cell := ce) (by rw [hT]; exact hcell) (by rw [hv]; rfl)
    (by obtain ⟨k9, h9, -⟩ := Vm.findClass_spec hcl; exact ⟨k9, h9⟩) (fun z hz => by
      rcases hpass z hz with h | ⟨hz0, nm, hl1, hn1⟩
      · exact Or.inl h
      · obtain ⟨c6, hc6, hcl6⟩ := Cond.classLink_spec hown hl1 e.platform hpl
        obtain ⟨a8, b8, h1, h2, h3⟩ := hn1
        cases Option.some.inj (h1.symm.trans hcl)
        cases Option.some.inj (h2.symm.trans hc6)
        exact Or.inr ⟨hz0, _, hcl6, h3⟩)
  obtain ⟨g₀, hfr⟩ := X'.frames_eq
  have hcell9 : ((T.setVm vm').setFrames (.throwing q :: below)).heap[q]? = some ce := by
    show T.heap[q]? = some ce
    rw [hT]; exact hcell
  have hend : Ended ((T.setVm vm').setFrames (.throwing q :: below)) below (.threw q) := State.frames_setFrames _ (State.cur_lt_of_frames hfr)
  refine ⟨(T.setVm vm').setFrames (.throwing q :: below), ?_, .threw q, X'.here.running, hend, Or.inr ⟨q, rfl, E, ce, locs, hx _ hT (X'.ends _).1.alike, hcell9, hv, hcl, (X'.ends _).1, (X'.ends _).2.mono hc hs, hf⟩⟩
  rw [X.pushThrowing_eq]
  exact st
/-- a thing of a world lies in the heap -/
theorem vx_lt {D : va_G} {cl : List vw_C} {ws : va_W} {H1 : Heap} (h : va_P D cl ws H1) {k : Nat} {q : Nat × va_E} (hk : ws[k]? = some q) : q.1 < H1.size := (h k q hk).lt
end VXS
/-! ===== END ===== -/
/-! ===== BEGIN methods with a table of their own: called by a name, returning or throwing ===== -/
section VXH
/-! vx_backW, vx_callVX, vx_callSX, vx_callVW, vx_runVW, vx_runVX, vx_runSX, vx_ofWH follow the same proofs as their sisters above (Free/Laws.lean, Shelf42/LK1.lean); vx_outP calls Shelf42/NT130.lean (outThrough). -/
section
variable {l : Launch} {R : Room} {p : Program} {e : Env} {below : List Frame} {s : State} {sargs : Array Value} {y : MethodName} {len W9 : Nat}
theorem vx_backW {ws : List Cond} {rm : Room} {Pc : Array Value → State → Prop} {Qc : Array Value → State → Outcome → State → Prop} {XC : String → State → State → Prop} {mc ms : Nat} {free : Addr → Prop} {bytes : ByteArray} {maxL : Nat} {ret : Option FieldType} {hh : List (Nat × Nat × Nat × Nat)}
    (hM : vx_Met l y ws rm Pc Qc XC mc ms free) (hblind : FrameBlind Pc) (hrc : rm.cells = mc) (hrs : rm.slots = ms)
    (hframes : rm.frames + 1 ≤ R.frames) (hlocals : W9 + (maxL + 11) + rm.locals ≤ R.locals)
    (hws : ∀ w ∈ ws, ∀ a' U, s.WarmedH U.vm → w.before a' U = true) (hcode : Cond.codeWith y bytes maxL ret hh ∈ ws) (hinit : ∀ a' U, s.WarmedH U.vm → (Cond.initialized y.cls).before a' U = true) :
    vx_Back l R p e below s sargs y len W9 (PreOf R mc ms Pc) (PostOf Qc mc ms free) (vx_Post XC mc ms free) := by
  intro m meth c A g ig mk a X hg hsize hdg hW hn hp
  have h1 : (headSpec ws rm).pre.before a A.U = true := atoms_intro fun w hw => hws w hw _ _ X.warmed
  have h2 : (Cond.codeWith y bytes maxL ret hh).before a A.U = true := hws _ hcode _ _ X.warmed
  have h3 : (Cond.initialized y.cls).before a A.U = true := hinit _ _ X.warmed
  have h4 : A.cells + (headSpec ws rm).room.cells ≤ R.cells := by rw [show (headSpec ws rm).room.cells = mc from hrc]; exact hp.1
  have h5 : A.slots + (headSpec ws rm).room.slots ≤ R.slots := by rw [show (headSpec ws rm).room.slots = ms from hrs]; exact hp.2.1
  have hPc : Pc a (A.U.calling g mk a) := hblind _ _ _ _ hp.2.2
  obtain ⟨U, Ls, c0, s0⟩ := A
  dsimp only [Pt.U, Pt.locs, Pt.cells, Pt.slots] at h1 h2 h3 h4 h5 X hn hPc ⊢
  obtain ⟨m9, methY, cY, hn9, hmY, hcY, -, hlY, -⟩ := Cond.codeWith_spec h2
  cases Option.some.inj (hn9.symm.trans hn)
  obtain ⟨kY, hkY, -⟩ := className_of_methodNamed hn
  have hinitY : kY.init = .initialized := Cond.initialized_spec (findClass_of_methodNamed hn) hkY h3
  have h : At U g.method c below := by rw [hg]; exact X.here
  have hlocals9 : W9 + (maxL + 11) + (headSpec ws rm).room.locals ≤ R.locals := hlocals
  have happ : (headSpec ws rm).appliesLoose y e.platform (U.calling g mk a) = true :=
    Spec.appliesLoose_calling (g := g) h hdg hn hkY hinitY
      (X.room_calling (g := g) (R' := (headSpec ws rm).room) hsize hmY hcY hframes (by rw [hlY]; omega) h4 h5) h1
  obtain ⟨mid, hmid⟩ := h.above
  have hfr : (U.setTop g).frames = (.java g :: mid) ++ below := by rw [State.frames_setTop' g h.top, hmid]; rfl
  obtain ⟨o, s₂, hsteps, -, hend, hq⟩ := Steps.callFree hM p X.admits X.cas X.clock (acts := []) hfr happ hPc trivial
  have hq' : vx_Q Qc XC mc ms free a (U.calling g mk a) o s₂ := hq
  rw [State.frames_setTop' g h.top] at hend
  obtain ⟨g₀, hg0⟩ := Option.isSome_iff_exists.mp h.top
  obtain ⟨r, hr⟩ := State.topJava?_eq_some.mp hg0
  have hr' : (({ U with heap := s₂.heap, slotsUsed := s₂.slotsUsed } : State).setVm s₂.vm).frames = .java g₀ :: r := hr
  rcases hq' with ⟨hqc, L, hfe, hL⟩ | ⟨q, rfl, E, ce, L, hx, hce, hcv, hcl, hW₂, hsm, hL⟩
  · obtain ⟨⟨v, rfl⟩, hW₂, e2, q2, q3, q4, q5, q6⟩ := id hfe
    have e3 : s₂ = ({ (U.calling g mk a).setFrames s₂.frames with heap := s₂.heap, slotsUsed := s₂.slotsUsed } : State).setVm s₂.vm := by
      have : s₂ = ({ s₂ with vm := (U.calling g mk a).vm } : State).setVm s₂.vm := rfl
      rw [e2] at this
      exact this
    obtain ⟨c₂, i₂, len₂, hc₂, hd₂, hf₂⟩ := hend
    have hW' : U.WarmedH s₂.vm := hW₂
    have hcc : c₂ = c := by
      have h1 : s₂.code? g.method = U.code? g.method := by
        rw [State.code?_eq, State.code?_eq, hW'.alike.method?]
      exact Option.some.inj (hc₂.symm.trans (h1.trans h.code))
    subst hcc
    have hlen : len₂ = len := by rw [hdg] at hd₂; cases hd₂; rfl
    subst hlen
    have hs₂ : s₂ = (({ U with heap := s₂.heap, slotsUsed := s₂.slotsUsed } : State).setVm s₂.vm).setTop { g with pc := g.pc + len₂, stack := v.toList ++ g.stack } := by
      refine e3.trans ?_
      rw [hf₂, State.calling_eq h.top, State.setFrames_setFrames, State.setTop_of_frames _ hr', hr]
      rfl
    have hsame : U.sameButNew ({ U with heap := s₂.heap, slotsUsed := s₂.slotsUsed } : State) L mc ms := by
      refine ⟨?_, q2, q3, q4, q5, q6⟩
      obtain ⟨t, ht, -⟩ := State.frames_cons hr
      show ({ U with heap := s₂.heap, slotsUsed := s₂.slotsUsed } : State) = { U.setFrames U.frames with heap := s₂.heap, slotsUsed := s₂.slotsUsed }
      rw [State.setFrames_self ht]
    subst hg
    refine Or.inl ⟨v, ⟨(({ U with heap := s₂.heap, slotsUsed := s₂.slotsUsed } : State).setVm s₂.vm), Ls ++ L, c0 + mc, s0 + ms⟩,
      ⟨X.admits, X.cas, X.clock, X.frames, X.room, X.hears, X.method, X.code, (X.here.setHeapUsed s₂.heap s₂.slotsUsed).setVm hW'.alike, X.tail, State.WarmedH.trans X.warmed hW', X.limits, X.bytes, X.same.trans (hsame.setVm s.vm)⟩,
      ⟨g, mk, s₂, L, rfl, rfl, hqc, rfl, hL, rfl, rfl⟩, ?_⟩
    show Steps p.tables e below _ ((({ U with heap := s₂.heap, slotsUsed := s₂.slotsUsed } : State).setVm s₂.vm).setTop { g with pc := g.pc + len₂, stack := v.toList ++ g.stack })
    rw [← hs₂]
    exact hsteps
  · obtain ⟨e2, q2, q3, q4, q5, q6⟩ := id hsm
    have e3 : s₂ = ({ (U.calling g mk a).setFrames s₂.frames with heap := s₂.heap, slotsUsed := s₂.slotsUsed } : State).setVm s₂.vm := by
      have : s₂ = ({ s₂ with vm := (U.calling g mk a).vm } : State).setVm s₂.vm := rfl
      rw [e2] at this
      exact this
    have hf₂ : s₂.frames = .throwing q :: .java g :: U.frames.tail := hend
    have hW' : U.WarmedH s₂.vm := hW₂
    have hs₂ : s₂ = ((({ U with heap := s₂.heap, slotsUsed := s₂.slotsUsed } : State).setVm s₂.vm).setTop g).pushFrame (.throwing q) := by
      refine e3.trans ?_
      rw [hf₂, State.calling_eq h.top, State.setFrames_setFrames, State.pushFrame, State.frames_setTop _ hr', State.setTop_of_frames _ hr', State.setFrames_setFrames, hr]
      rfl
    have hsame : U.sameButNew ({ U with heap := s₂.heap, slotsUsed := s₂.slotsUsed } : State) L mc ms := by
      refine ⟨?_, q2, q3, q4, q5, q6⟩
      obtain ⟨t, ht, -⟩ := State.frames_cons hr
      show ({ U with heap := s₂.heap, slotsUsed := s₂.slotsUsed } : State) = { U.setFrames U.frames with heap := s₂.heap, slotsUsed := s₂.slotsUsed }
      rw [State.setFrames_self ht]
    subst hg
    refine Or.inr ⟨q, ⟨(({ U with heap := s₂.heap, slotsUsed := s₂.slotsUsed } : State).setVm s₂.vm), Ls ++ L, c0 + mc, s0 + ms⟩,
      ⟨X.admits, X.cas, X.clock, X.frames, X.room, X.hears, X.method, X.code, (X.here.setHeapUsed s₂.heap s₂.slotsUsed).setVm hW'.alike, X.tail, State.WarmedH.trans X.warmed hW', X.limits, X.bytes, X.same.trans (hsame.setVm s.vm)⟩,
      ⟨g, mk, s₂, L, E, ce, rfl, rfl, hx, hce, hcv, hcl, rfl, hL, rfl, rfl⟩, ?_⟩
    show Steps p.tables e below _ (((({ U with heap := s₂.heap, slotsUsed := s₂.slotsUsed } : State).setVm s₂.vm).setTop g).pushFrame (.throwing q))
    rw [← hs₂]
    exact hsteps
end
variable {p : Program} {l : Launch} {e : Env} {R : Room} {s : State} {m : MethodId} {args : Array Value} {below : List Frame} {meth : Method} {c : Code} {T : State} {H : Heap} {locs : List Loc} {cells slots : Nat}
theorem vx_callVX (X : Stand p l e R s m args below meth c T locs cells slots) (hexec : p.tables.exec = Jvm.exec) {own C : String} {index : Nat} {y : MethodName} {bytes : ByteArray} {maxL : Nat} {ret : Option FieldType} {hh : List (Nat × Nat × Nat × Nat)}
    (hown : s.vm.findClass own = some m.cls) (hlink : (Cond.methodLink own index y).before args s = true) (hinst : (Cond.instanceMethod y).before args s = true) (hsel : (Cond.selects C y y).before args s = true)
    (hcode : (Cond.codeWith y bytes maxL ret hh).before args s = true) (hy : y.cls ≠ "java/lang/invoke/MethodHandle" ∧ y.cls ≠ "java/lang/invoke/VarHandle")
    {W9 : Nat} {Pre : Pt → Array Value → Prop} {Post : Pt → Array Value → Option Value → Pt → Prop} {PostX : Pt → Array Value → Addr → Pt → Prop} (hK : vx_Back l R p e below s args y 3 W9 Pre Post PostX)
    {b : Addr} {cellB : Cell} (hcell : T.heap[b]? = some cellB) (hobj : cellB.vm.isStatics = false) (hcls : s.vm.findClass C = some cellB.cls)
    {g : JFrame} (hg : g.method = m) (hsize : g.locals.size = c.maxLocals) {argsL rest : List Value} (hlen : ∀ sig, parseMethodDescriptor y.desc = some sig → argsL.length = sig.parameters.length)
    (hstack : g.stack = argsL.reverse ++ .ref b :: rest) (hW : 2 * g.monitorRoom + (rest.map fun v => v.category).sum ≤ W9) (hdg : decode c.code g.pc = .ok (.invokevirtual index, 3))
    (hpre : ∀ vm₁, s.WarmedH vm₁ → Pre ⟨T.setVm vm₁, locs, cells, slots⟩ (Value.ref b :: argsL).toArray) :
    (∃ (v : Option Value) (vm₁ : Vm) (B : Pt), s.WarmedH vm₁ ∧ Stand p l e R s m args below meth c B.U B.locs B.cells B.slots ∧ Post ⟨T.setVm vm₁, locs, cells, slots⟩ (Value.ref b :: argsL).toArray v B ∧
      ∀ target, Steps p.tables e below (B.U.setTop { g with pc := g.pc + 3, stack := v.toList ++ rest }) target → Steps p.tables e below (T.setTop g) target) ∨
    (∃ (q : Addr) (vm₁ : Vm) (B : Pt), s.WarmedH vm₁ ∧ Stand p l e R s m args below meth c B.U B.locs B.cells B.slots ∧ PostX ⟨T.setVm vm₁, locs, cells, slots⟩ (Value.ref b :: argsL).toArray q B ∧
      Steps p.tables e below (T.setTop g) ((B.U.setTop { g with stack := rest }).pushFrame (.throwing q))) := by
  obtain ⟨mk, methM, hnamed, hmethM, hstM, habM⟩ := Cond.instanceMethod_spec hinst
  obtain ⟨m8, methM', cM, hn8, hmethM', -, -, -, -, -, -, hsigM⟩ := Cond.codeWith_spec hcode
  cases Option.some.inj (hn8.symm.trans hnamed)
  cases hmethM.symm.trans hmethM'
  obtain ⟨c2, r2, m2, q1, q2, q3, q4, kP, hkP, hkPi⟩ := Cond.selects_spec hsel
  cases hcls.symm.trans q1
  cases (State.methodFound?_of_named hnamed hy).symm.trans q2
  cases hnamed.symm.trans q3
  have hselP : selectMethod e.platform s.vm cellB.cls mk = .method mk := by rw [Launch.admits_selectMethod X.admits]; exact q4
  obtain ⟨vm₁, X₁, hstep₁⟩ := X.invokevirtual hexec hown hlink hnamed hmethM hstM hkP hkPi hy (a := b) (cell := cellB) hcell
    (fun z h => by rw [h] at hobj; cases hobj) hselP hmethM habM hkP hkPi (g := g) hg (argsL := argsL) (rest := rest) (hlen _ hsigM) hstack hdg
  rcases hK m meth c ⟨T.setVm vm₁, locs, cells, slots⟩ { g with stack := rest } (.invokevirtual index) mk (Value.ref b :: argsL).toArray X₁ hg hsize hdg hW (X₁.named hnamed) (hpre vm₁ X₁.warmed) with ⟨v, B, X', hpost, hsteps⟩ | ⟨q, B, X', hpost, hsteps⟩
  · exact Or.inl ⟨v, vm₁, B, X₁.warmed, X', hpost, fun target h => hstep₁ _ fun acts => by rw [doInvoke_state]; exact hsteps.trans h⟩
  · exact Or.inr ⟨q, vm₁, B, X₁.warmed, X', hpost, hstep₁ _ fun acts => by rw [doInvoke_state]; exact hsteps⟩
theorem vx_callSX (X : Stand p l e R s m args below meth c T locs cells slots) (hexec : p.tables.exec = Jvm.exec) {own : String} {index : Nat} {y : MethodName} {bytes : ByteArray} {maxL : Nat} {ret : Option FieldType} {hh : List (Nat × Nat × Nat × Nat)}
    (hown : s.vm.findClass own = some m.cls) (hlink : (Cond.methodLink own index y).before args s = true) (hstat : (Cond.static y).before args s = true) (hinit : (Cond.initialized y.cls).before args s = true)
    (hcode : (Cond.codeWith y bytes maxL ret hh).before args s = true) (hy : y.cls ≠ "java/lang/invoke/MethodHandle" ∧ y.cls ≠ "java/lang/invoke/VarHandle")
    {W9 : Nat} {Pre : Pt → Array Value → Prop} {Post : Pt → Array Value → Option Value → Pt → Prop} {PostX : Pt → Array Value → Addr → Pt → Prop} (hK : vx_Back l R p e below s args y 3 W9 Pre Post PostX)
    {g : JFrame} (hg : g.method = m) (hsize : g.locals.size = c.maxLocals) {argsL rest : List Value} (hlen : ∀ sig, parseMethodDescriptor y.desc = some sig → argsL.length = sig.parameters.length)
    (hstack : g.stack = argsL.reverse ++ rest) (hW : 2 * g.monitorRoom + (rest.map fun v => v.category).sum ≤ W9) (hdg : decode c.code g.pc = .ok (.invokestatic index, 3))
    (hpre : ∀ vm₁, s.WarmedH vm₁ → Pre ⟨T.setVm vm₁, locs, cells, slots⟩ argsL.toArray) :
    (∃ (v : Option Value) (vm₁ : Vm) (B : Pt), s.WarmedH vm₁ ∧ Stand p l e R s m args below meth c B.U B.locs B.cells B.slots ∧ Post ⟨T.setVm vm₁, locs, cells, slots⟩ argsL.toArray v B ∧
      ∀ target, Steps p.tables e below (B.U.setTop { g with pc := g.pc + 3, stack := v.toList ++ rest }) target → Steps p.tables e below (T.setTop g) target) ∨
    (∃ (q : Addr) (vm₁ : Vm) (B : Pt), s.WarmedH vm₁ ∧ Stand p l e R s m args below meth c B.U B.locs B.cells B.slots ∧ PostX ⟨T.setVm vm₁, locs, cells, slots⟩ argsL.toArray q B ∧
      Steps p.tables e below (T.setTop g) ((B.U.setTop { g with stack := rest }).pushFrame (.throwing q))) := by
  obtain ⟨mk, methM, cM, hnamed, hmethM, -, -, -, -, -, -, hsigM⟩ := Cond.codeWith_spec hcode
  have hstatic : methM.isStatic = true := Cond.static_spec hnamed hmethM hstat
  obtain ⟨kP, hkP, -⟩ := className_of_methodNamed hnamed
  have hinitP : kP.init = .initialized := Cond.initialized_spec (findClass_of_methodNamed hnamed) hkP hinit
  obtain ⟨vm₁, X₁, hstep₁⟩ := X.invokestatic hexec hown hlink hnamed hmethM hstatic hkP hinitP hy (g := g) hg (argsL := argsL) (rest := rest) (hlen _ hsigM) hstack hdg
  rcases hK m meth c ⟨T.setVm vm₁, locs, cells, slots⟩ { g with stack := rest } (.invokestatic index) mk argsL.toArray X₁ hg hsize hdg hW (X₁.named hnamed) (hpre vm₁ X₁.warmed) with ⟨v, B, X', hpost, hsteps⟩ | ⟨q, B, X', hpost, hsteps⟩
  · exact Or.inl ⟨v, vm₁, B, X₁.warmed, X', hpost, fun target h => hstep₁ _ fun acts => by rw [doInvoke_state]; exact hsteps.trans h⟩
  · exact Or.inr ⟨q, vm₁, B, X₁.warmed, X', hpost, hstep₁ _ fun acts => by rw [doInvoke_state]; exact hsteps⟩
theorem vx_callVW (X : Stand p l e R s m args below meth c T locs cells slots) (hexec : p.tables.exec = Jvm.exec) {own C : String} {index : Nat} {y : MethodName} {bytes : ByteArray} {maxL : Nat} {ret : Option FieldType} {hh : List (Nat × Nat × Nat × Nat)}
    (hown : s.vm.findClass own = some m.cls) (hlink : (Cond.methodLink own index y).before args s = true) (hinst : (Cond.instanceMethod y).before args s = true) (hsel : (Cond.selects C y y).before args s = true)
    (hcode : (Cond.codeWith y bytes maxL ret hh).before args s = true) (hy : y.cls ≠ "java/lang/invoke/MethodHandle" ∧ y.cls ≠ "java/lang/invoke/VarHandle")
    {W9 : Nat} {Pre : Pt → Array Value → Prop} {Post : Pt → Array Value → Option Value → Pt → Prop} (hK : Back l R p e below s args y 3 W9 Pre Post)
    {b : Addr} {cellB : Cell} (hcell : T.heap[b]? = some cellB) (hobj : cellB.vm.isStatics = false) (hcls : s.vm.findClass C = some cellB.cls)
    {g : JFrame} (hg : g.method = m) (hsize : g.locals.size = c.maxLocals) {argsL rest : List Value} (hlen : ∀ sig, parseMethodDescriptor y.desc = some sig → argsL.length = sig.parameters.length)
    (hstack : g.stack = argsL.reverse ++ .ref b :: rest) (hW : 2 * g.monitorRoom + (rest.map fun v => v.category).sum ≤ W9) (hdg : decode c.code g.pc = .ok (.invokevirtual index, 3))
    (hpre : ∀ vm₁, s.WarmedH vm₁ → Pre ⟨T.setVm vm₁, locs, cells, slots⟩ (Value.ref b :: argsL).toArray) :
    ∃ (v : Option Value) (vm₁ : Vm) (B : Pt), s.WarmedH vm₁ ∧ Stand p l e R s m args below meth c B.U B.locs B.cells B.slots ∧ Post ⟨T.setVm vm₁, locs, cells, slots⟩ (Value.ref b :: argsL).toArray v B ∧
      ∀ target, Steps p.tables e below (B.U.setTop { g with pc := g.pc + 3, stack := v.toList ++ rest }) target → Steps p.tables e below (T.setTop g) target := by
  obtain ⟨mk, methM, hnamed, hmethM, hstM, habM⟩ := Cond.instanceMethod_spec hinst
  obtain ⟨m8, methM', cM, hn8, hmethM', -, -, -, -, -, -, hsigM⟩ := Cond.codeWith_spec hcode
  cases Option.some.inj (hn8.symm.trans hnamed)
  cases hmethM.symm.trans hmethM'
  obtain ⟨c2, r2, m2, q1, q2, q3, q4, kP, hkP, hkPi⟩ := Cond.selects_spec hsel
  cases hcls.symm.trans q1
  cases (State.methodFound?_of_named hnamed hy).symm.trans q2
  cases hnamed.symm.trans q3
  have hselP : selectMethod e.platform s.vm cellB.cls mk = .method mk := by rw [Launch.admits_selectMethod X.admits]; exact q4
  obtain ⟨vm₁, X₁, hstep₁⟩ := X.invokevirtual hexec hown hlink hnamed hmethM hstM hkP hkPi hy (a := b) (cell := cellB) hcell
    (fun z h => by rw [h] at hobj; cases hobj) hselP hmethM habM hkP hkPi (g := g) hg (argsL := argsL) (rest := rest) (hlen _ hsigM) hstack hdg
  obtain ⟨v, B, X', hpost, hsteps⟩ := hK m meth c ⟨T.setVm vm₁, locs, cells, slots⟩ { g with stack := rest } (.invokevirtual index) mk (Value.ref b :: argsL).toArray X₁ hg hsize hdg hW (X₁.named hnamed) (hpre vm₁ X₁.warmed)
  exact ⟨v, vm₁, B, X₁.warmed, X', hpost, fun target h => hstep₁ _ fun acts => by rw [doInvoke_state]; exact hsteps.trans h⟩
abbrev vx_CVW (R : Room) (s : State) (args : Array Value) (own C : String) (index : Nat) (y : MethodName) (bytes : ByteArray) (maxL : Nat) (ret : Option FieldType) (hh : List (Nat × Nat × Nat × Nat)) (ws : List Cond) (rm : Room) (mc ms n : Nat) : Prop :=
  (rm.cells = mc ∧ rm.slots = ms ∧ rm.frames + 1 ≤ R.frames ∧ 8 + (maxL + 11) + rm.locals ≤ R.locals ∧ (∀ w ∈ ws, ∀ (a' : Array Value) (U : State), s.WarmedH U.vm → w.before a' U = true) ∧ Cond.codeWith y bytes maxL ret hh ∈ ws) ∧
  (Cond.codeWith y bytes maxL ret hh).before args s = true ∧ (Cond.initialized y.cls).before args s = true ∧ (y.cls ≠ "java/lang/invoke/MethodHandle" ∧ y.cls ≠ "java/lang/invoke/VarHandle") ∧
  (∀ sig, parseMethodDescriptor y.desc = some sig → n = sig.parameters.length) ∧ (Cond.methodLink own index y).before args s = true ∧ (Cond.instanceMethod y).before args s = true ∧ (Cond.selects C y y).before args s = true
theorem vx_cwVW {own C : String} {index maxL mc ms : Nat} {y : MethodName} {bytes : ByteArray} {ret : Option FieldType} {hh : List (Nat × Nat × Nat × Nat)} {Ts ws ws' : List Cond} {rm : Room} (n : Nat) (ht : ∀ w ∈ Ts, w.before args s = true) (hT : GoodIn Ts (wsV own index C y ws)) (hw : ws = Cond.codeWith y bytes maxL ret hh :: ws') (hrc : rm.cells = mc) (hrs : rm.slots = ms)
    (hd : y.cls = C ∧ y.cls ≠ "java/lang/invoke/MethodHandle" ∧ y.cls ≠ "java/lang/invoke/VarHandle" ∧ (parseMethodDescriptor y.desc).map (fun d => d.parameters.length) = some n) (hR : rm.frames + 1 ≤ R.frames ∧ 8 + (maxL + 11) + rm.locals ≤ R.locals) :
    vx_CVW R s args own C index y bytes maxL ret hh ws rm mc ms n := by
  obtain ⟨hC, hd⟩ := hd
  subst hC
  have ok : ∀ w ∈ wsV own index y.cls y ws, w.before args s = true := fun w h => ht w (hT w h).1
  have hG : GoodIn Ts ws := fun w h => hT w (by unfold wsV; exact List.mem_append_right _ h)
  have hc : Cond.codeWith y bytes maxL ret hh ∈ ws := by rw [hw]; exact List.mem_cons_self
  refine ⟨⟨hrc, hrs, hR.1, hR.2, pay_in ht hG, hc⟩, ht _ (hG _ hc).1, ok _ (by simp [wsV]), ⟨hd.1, hd.2.1⟩, fun sig h => ?_, ok _ (by simp [wsV]), ok _ (by simp [wsV]), ok _ (by simp [wsV])⟩
  have h2 := hd.2.2
  rw [h] at h2
  exact (Option.some.inj h2).symm
theorem vx_runVW {y : MethodName} {bytes cc : ByteArray} {maxL nL mc ms n index : Nat} {ret : Option FieldType} {hh : List (Nat × Nat × Nat × Nat)} {ws : List Cond} {rm : Room} {Pc : Array Value → State → Prop} {Qc : Array Value → State → Outcome → State → Prop} {free : Addr → Prop} {Ts : List Cond} {own C : String} {b : Addr} {As rest : List Value} {g : JFrame}
    (S : CallFix p m c cc nL s args Ts own) (hM : Met l y ws rm Pc Qc mc ms free) (cw : vx_CVW R s args own C index y bytes maxL ret hh ws rm mc ms n) (hp : PreV s H C b Pc As)
    (hg : g.method = m) (hn : As.length = n) (hsize : g.locals.size = nL) (hstack : g.stack = As.reverse ++ .ref b :: rest) (hW : 2 * g.monitorRoom + (rest.map fun v => v.category).sum ≤ 8) (hdg : decode cc g.pc = .ok (.invokevirtual index, 3)) (hf : cells + mc ≤ R.cells ∧ slots + ms ≤ R.slots) :
    va_Run p l e R s m args below meth c H locs cells slots mc ms g rest (Qc (Value.ref b :: As).toArray) free := by
  obtain ⟨⟨hrc, hrs, hfr, hlo, hws, hcw⟩, hcode, hini, hy, hlen, hl, hin, hse⟩ := cw
  have hK : Back l R p e below s args y 3 8 (PreOf R mc ms Pc) (PostOf Qc mc ms free) := va_backW (hh := hh) (bytes := bytes) (maxL := maxL) (ret := ret) hM hp.1 hrc hrs hfr hlo hws hcw (fun a' U hW => word_at hW (Or.inl (by first | rfl | simp [Cond.onTables, Cond.keeps, Cond.steady])) hini)
  obtain ⟨hx, hb, hml, ho, -⟩ := S
  obtain ⟨-, ⟨cellB, hcB, hoB, hclB⟩, hPc⟩ := hp
  intro T hT X
  obtain ⟨v, vm₁, ⟨U', l2, c2, s2⟩, hW₁, X', ⟨g', mk, t, L, e1, e2, hq, h1, hL, h2, h3⟩, st⟩ := vx_callVW X hx (C := C) (hh := hh) (bytes := bytes) (maxL := maxL) (ret := ret) ho hl hin hse hcode hy hK (by rw [hT]; exact hcB) hoB hclB hg (hsize.trans hml.symm) (argsL := As) (rest := rest) (fun sig h => hn.trans (hlen sig h)) hstack hW (by rw [hb]; exact hdg)
    (fun vm₁ hW₁ => ⟨hf.1, hf.2, hPc (T.setVm vm₁) hT hW₁⟩)
  dsimp only [Pt.U, Pt.locs, Pt.cells, Pt.slots] at X' e1 e2 h1 h2 h3 st
  subst h1; subst h2; subst h3
  exact ⟨v, (T.setVm vm₁).calling g' mk (Value.ref b :: As).toArray, t, U', L, hT, X', hL, e1, e2, hq, st⟩
section
variable {y : MethodName} {bytes cc : ByteArray} {maxL nL mc ms n index : Nat} {ret : Option FieldType} {ws : List Cond} {rm : Room} {Pc : Array Value → State → Prop} {Qc : Array Value → State → Outcome → State → Prop} {XC : String → State → State → Prop} {free : Addr → Prop} {Ts : List Cond} {own C : String} {b : Addr} {As rest : List Value} {g : JFrame}
theorem vx_runVX {hh : List (Nat × Nat × Nat × Nat)} (S : CallFix p m c cc nL s args Ts own) (hM : vx_Met l y ws rm Pc Qc XC mc ms free) (cw : vx_CVW R s args own C index y bytes maxL ret hh ws rm mc ms n) (hp : PreV s H C b Pc As)
    (hg : g.method = m) (hn : As.length = n) (hsize : g.locals.size = nL) (hstack : g.stack = As.reverse ++ .ref b :: rest) (hW : 2 * g.monitorRoom + (rest.map fun v => v.category).sum ≤ 8) (hdg : decode cc g.pc = .ok (.invokevirtual index, 3)) (hf : cells + mc ≤ R.cells ∧ slots + ms ≤ R.slots) :
    vx_Run p l e R s m args below meth c H locs cells slots mc ms g rest (Qc (Value.ref b :: As).toArray) XC free := by
  obtain ⟨⟨hrc, hrs, hfr, hlo, hws, hcw⟩, hcode, hini, hy, hlen, hl, hin, hse⟩ := cw
  have hK : vx_Back l R p e below s args y 3 8 (PreOf R mc ms Pc) (PostOf Qc mc ms free) (vx_Post XC mc ms free) := vx_backW (hh := hh) (bytes := bytes) (maxL := maxL) (ret := ret) hM hp.1 hrc hrs hfr hlo hws hcw (fun a' U hW => word_at hW (Or.inl (by first | rfl | simp [Cond.onTables, Cond.keeps, Cond.steady])) hini)
  obtain ⟨hx, hb, hml, ho, -⟩ := S
  obtain ⟨-, ⟨cellB, hcB, hoB, hclB⟩, hPc⟩ := hp
  intro T hT X
  rcases vx_callVX X hx (C := C) (hh := hh) (bytes := bytes) (maxL := maxL) (ret := ret) ho hl hin hse hcode hy hK (by rw [hT]; exact hcB) hoB hclB hg (hsize.trans hml.symm) (argsL := As) (rest := rest) (fun sig h => hn.trans (hlen sig h)) hstack hW (by rw [hb]; exact hdg)
    (fun vm₁ hW₁ => ⟨hf.1, hf.2, hPc (T.setVm vm₁) hT hW₁⟩) with ⟨v, vm₁, ⟨U', l2, c2, s2⟩, hW₁, X', ⟨g', mk, t, L, e1, e2, hq, h1, hL, h2, h3⟩, st⟩ | ⟨q, vm₁, ⟨U', l2, c2, s2⟩, hW₁, X', ⟨g', mk, t, L, E, ce, e1, e2, hq, hce, hcv, hcl, h1, hL, h2, h3⟩, st⟩
  · dsimp only [Pt.U, Pt.locs, Pt.cells, Pt.slots] at X' e1 e2 h1 h2 h3 st
    subst h1; subst h2; subst h3
    exact Or.inl ⟨v, (T.setVm vm₁).calling g' mk (Value.ref b :: As).toArray, t, U', L, hT, X', hL, e1, e2, hq, st⟩
  · dsimp only [Pt.U, Pt.locs, Pt.cells, Pt.slots] at X' e1 e2 h1 h2 h3 st hcl
    subst h1; subst h2; subst h3
    exact Or.inr ⟨q, (T.setVm vm₁).calling g' mk (Value.ref b :: As).toArray, t, U', L, E, ce, hT, X', hL, e1, e2, hq, hce, hcv, vx_cls hW₁ hcl, st⟩
theorem vx_runSX {hh : List (Nat × Nat × Nat × Nat)} (S : CallFix p m c cc nL s args Ts own) (hM : vx_Met l y ws rm Pc Qc XC mc ms free) (cw : vx_CSW R s args own index y bytes maxL ret hh ws rm mc ms n) (hp : PreS s H Pc As)
    (hg : g.method = m) (hn : As.length = n) (hsize : g.locals.size = nL) (hstack : g.stack = As.reverse ++ rest) (hW : 2 * g.monitorRoom + (rest.map fun v => v.category).sum ≤ 8) (hdg : decode cc g.pc = .ok (.invokestatic index, 3)) (hf : cells + mc ≤ R.cells ∧ slots + ms ≤ R.slots) :
    vx_Run p l e R s m args below meth c H locs cells slots mc ms g rest (Qc As.toArray) XC free := by
  obtain ⟨⟨hrc, hrs, hfr, hlo, hws, hcw⟩, hcode, hini, hy, hlen, hl, hstt⟩ := cw
  have hK : vx_Back l R p e below s args y 3 8 (PreOf R mc ms Pc) (PostOf Qc mc ms free) (vx_Post XC mc ms free) := vx_backW (hh := hh) (bytes := bytes) (maxL := maxL) (ret := ret) hM hp.1 hrc hrs hfr hlo hws hcw (fun a' U hW => word_at hW (Or.inl (by first | rfl | simp [Cond.onTables, Cond.keeps, Cond.steady])) hini)
  obtain ⟨hx, hb, hml, ho, -⟩ := S
  intro T hT X
  rcases vx_callSX X hx (hh := hh) (bytes := bytes) (maxL := maxL) (ret := ret) ho hl hstt hini hcode hy hK hg (hsize.trans hml.symm) (argsL := As) (rest := rest) (fun sig h => hn.trans (hlen sig h)) hstack hW (by rw [hb]; exact hdg)
    (fun vm₁ hW₁ => ⟨hf.1, hf.2, hp.2 (T.setVm vm₁) hT hW₁⟩) with ⟨v, vm₁, ⟨U', l2, c2, s2⟩, hW₁, X', ⟨g', mk, t, L, e1, e2, hq, h1, hL, h2, h3⟩, st⟩ | ⟨q, vm₁, ⟨U', l2, c2, s2⟩, hW₁, X', ⟨g', mk, t, L, E, ce, e1, e2, hq, hce, hcv, hcl, h1, hL, h2, h3⟩, st⟩
  · dsimp only [Pt.U, Pt.locs, Pt.cells, Pt.slots] at X' e1 e2 h1 h2 h3 st
    subst h1; subst h2; subst h3
    exact Or.inl ⟨v, (T.setVm vm₁).calling g' mk As.toArray, t, U', L, hT, X', hL, e1, e2, hq, st⟩
  · dsimp only [Pt.U, Pt.locs, Pt.cells, Pt.slots] at X' e1 e2 h1 h2 h3 st hcl
    subst h1; subst h2; subst h3
    exact Or.inr ⟨q, (T.setVm vm₁).calling g' mk As.toArray, t, U', L, E, ce, hT, X', hL, e1, e2, hq, hce, hcv, vx_cls hW₁ hcl, st⟩
end
end VXH
theorem vx_ofWH {l : Launch} {y : MethodName} {ws ws' : List Cond} {rm : Room} {Pc : Array Value → State → Prop} {Qc : Array Value → State → Outcome → State → Prop} {XC : String → State → State → Prop} {mc ms : Nat} {free : Addr → Prop} {cc : ByteArray} {maxL : Nat} {ret : Option FieldType} {hh : List (Nat × Nat × Nat × Nat)}
    (hy : plainName y.cls = true) (hw : ws = Cond.codeWith y cc maxL ret hh :: ws')
    (body : ∀ p e s m args below meth c s₁, BodyLoose p l y (headSpec ws rm) cc maxL ret e s m args below meth c s₁ → c.maxLocals = maxL → Pc args s →
      W p l e (headSpec ws rm).room s m args below meth c s.heap [] 0 0 (vx_MQ below Qc XC args s mc ms free) (entryFrame m args maxL)) : vx_Met l y ws rm Pc Qc XC mc ms free := by
  refine MetFree.of_bodyS (code := cc) (maxLocals := maxL) (ret := ret) hy ?_ ?_
  · intro args s m h hn
    obtain ⟨m9, meth, c, hn9, h1, h2, h3, h4, -, h5, h6, -⟩ := Cond.codeWith_spec (atoms_spec (ws := ws) h _ (by rw [hw]; exact List.mem_cons_self))
    cases hn.symm.trans hn9
    exact ⟨meth, c, h1, h2, h3, h4, h5, h6⟩
  · intro p e s m args below meth c s₁ B hml hP _
    have hh0 : s₁.heap = s.heap := by rw [B.state]; rfl
    obtain ⟨t, a1, o, b1, b2, b3⟩ := body p e s m args below meth c s₁ B hml hP s₁ hh0 (Stand.of_body B)
    exact ⟨t, o, a1, b1, b2, b3⟩
/-! ===== END ===== -/
end
section
/-! ===== BEGIN printed: names, fields, word lists, decode rows ===== -/
def RX0 : String := "Proratehouse$Bill"
def TX0 : u_T := fun k => match k with
  | 0 => ("Proratehouse$Bill", "payer", "I", true)
  | 1 => ("Proratehouse$Bill", "payee", "I", true)
  | 2 => ("Proratehouse$Bill", "amount", "I", true)
  | 3 => ("Proratehouse$Bill", "status", "I", false)
  | 4 => ("Proratehouse$Bill", "rejections", "I", false)
  | _ => ("Proratehouse$Bill", "settledBy", "I", false)
def tyX0 : Nat → FieldType := fun k => match k with
  | 0 => .int
  | 1 => .int
  | 2 => .int
  | 3 => .int
  | 4 => .int
  | _ => .int
abbrev wsX00 : List Cond := u_ws RX0 TX0 6
theorem nmX0 : ∀ a, a < 6 → ∀ b, b < 6 → a ≠ b → (TX0 a).2.1 ≠ (TX0 b).2.1 := by decide +kernel
theorem tyX0_ok : ∀ k, k < 6 → parseFieldDescriptor (TX0 k).2.2.1 = some (tyX0 k) := by decide +kernel
abbrev cX0_init : ByteArray := prog_2_method_1_code
def yX0_init : MethodName := ⟨RX0, "<init>", "(III)V"⟩
abbrev cX0_isOf : ByteArray := prog_2_method_2_code
def yX0_isOf : MethodName := ⟨RX0, "isOf", "(I)Z"⟩
abbrev cX0_isToBeSettled : ByteArray := prog_2_method_3_code
def yX0_isToBeSettled : MethodName := ⟨RX0, "isToBeSettled", "()Z"⟩
abbrev cX0_isAsLeftBy : ByteArray := prog_2_method_4_code
def yX0_isAsLeftBy : MethodName := ⟨RX0, "isAsLeftBy", "(I)Z"⟩
abbrev cX0_amountBack : ByteArray := prog_2_method_5_code
def yX0_amountBack : MethodName := ⟨RX0, "amountBack", "()I"⟩
abbrev cX0_settle : ByteArray := prog_2_method_6_code
def yX0_settle : MethodName := ⟨RX0, "settle", "(I)I"⟩
abbrev cX0_undo : ByteArray := prog_2_method_7_code
def yX0_undo : MethodName := ⟨RX0, "undo", "()I"⟩
abbrev cX0_gotByPayee : ByteArray := prog_2_method_8_code
def yX0_gotByPayee : MethodName := ⟨RX0, "gotByPayee", "()I"⟩
def RX1 : String := "Proratehouse$Clearing"
def TX1 : u_T := fun k => match k with
  | 0 => ("Proratehouse$Clearing", "bills", "[LProratehouse$Bill;", true)
  | 1 => ("Proratehouse$Clearing", "nets", "[J", true)
  | 2 => ("Proratehouse$Clearing", "count", "I", false)
  | 3 => ("Proratehouse$Clearing", "number", "I", false)
  | _ => ("Proratehouse$Clearing", "inDefault", "I", false)
def tyX1 : Nat → FieldType := fun k => match k with
  | 0 => .array (.object "Proratehouse$Bill")
  | 1 => .array .long
  | 2 => .int
  | 3 => .int
  | _ => .int
abbrev wsX10 : List Cond := u_ws RX1 TX1 5
theorem nmX1 : ∀ a, a < 5 → ∀ b, b < 5 → a ≠ b → (TX1 a).2.1 ≠ (TX1 b).2.1 := by decide +kernel
theorem tyX1_ok : ∀ k, k < 5 → parseFieldDescriptor (TX1 k).2.2.1 = some (tyX1 k) := by decide +kernel
abbrev cX1_init : ByteArray := prog_3_method_1_code
def yX1_init : MethodName := ⟨RX1, "<init>", "()V"⟩
abbrev cX1_addBill : ByteArray := prog_3_method_2_code
def yX1_addBill : MethodName := ⟨RX1, "addBill", "(III)I"⟩
abbrev cX1_billAt : ByteArray := prog_3_method_3_code
def yX1_billAt : MethodName := ⟨RX1, "billAt", "(I)LProratehouse$Bill;"⟩
abbrev cX1_isInDefault : ByteArray := prog_3_method_4_code
def yX1_isInDefault : MethodName := ⟨RX1, "isInDefault", "(I)Z"⟩
abbrev cX1_putDefault : ByteArray := prog_3_method_5_code
def yX1_putDefault : MethodName := ⟨RX1, "putDefault", "(IZ)V"⟩
abbrev cX1_settle : ByteArray := prog_3_method_6_code
def yX1_settle : MethodName := ⟨RX1, "settle", "()V"⟩
abbrev cX1_undo : ByteArray := prog_3_method_7_code
def yX1_undo : MethodName := ⟨RX1, "undo", "(I)I"⟩
abbrev cX1_forgetNets : ByteArray := prog_3_method_8_code
def yX1_forgetNets : MethodName := ⟨RX1, "forgetNets", "()V"⟩
abbrev cX1_addToNets : ByteArray := prog_3_method_9_code
def yX1_addToNets : MethodName := ⟨RX1, "addToNets", "(LProratehouse$Bill;I)V"⟩
abbrev cX1_netOf : ByteArray := prog_3_method_10_code
def yX1_netOf : MethodName := ⟨RX1, "netOf", "(I)J"⟩
abbrev cX1_sumOfNetsAboveZero : ByteArray := prog_3_method_11_code
def yX1_sumOfNetsAboveZero : MethodName := ⟨RX1, "sumOfNetsAboveZero", "()J"⟩
abbrev cX1_gotBy : ByteArray := prog_3_method_12_code
def yX1_gotBy : MethodName := ⟨RX1, "gotBy", "(I)J"⟩
def RX2 : String := "Proratehouse$Coupon"
def TX2 : u_T := fun k => match k with
  | 0 => ("Proratehouse$Coupon", "from", "I", true)
  | 1 => ("Proratehouse$Coupon", "to", "I", true)
  | 2 => ("Proratehouse$Coupon", "day", "I", true)
  | 3 => ("Proratehouse$Coupon", "tax", "I", true)
  | 4 => ("Proratehouse$Coupon", "carrier", "I", false)
  | 5 => ("Proratehouse$Coupon", "weight", "I", false)
  | 6 => ("Proratehouse$Coupon", "share", "I", false)
  | 7 => ("Proratehouse$Coupon", "status", "I", false)
  | _ => ("Proratehouse$Coupon", "bill", "I", false)
def tyX2 : Nat → FieldType := fun k => match k with
  | 0 => .int
  | 1 => .int
  | 2 => .int
  | 3 => .int
  | 4 => .int
  | 5 => .int
  | 6 => .int
  | 7 => .int
  | _ => .int
abbrev wsX20 : List Cond := u_ws RX2 TX2 9
theorem nmX2 : ∀ a, a < 9 → ∀ b, b < 9 → a ≠ b → (TX2 a).2.1 ≠ (TX2 b).2.1 := by decide +kernel
theorem tyX2_ok : ∀ k, k < 9 → parseFieldDescriptor (TX2 k).2.2.1 = some (tyX2 k) := by decide +kernel
abbrev cX2_init : ByteArray := prog_4_method_1_code
def yX2_init : MethodName := ⟨RX2, "<init>", "(LProratehouse$Leg;I)V"⟩
def RX3 : String := "Proratehouse$Fare"
def TX3 : u_T := fun k => match k with
  | 0 => ("Proratehouse$Fare", "from", "I", true)
  | 1 => ("Proratehouse$Fare", "to", "I", true)
  | 2 => ("Proratehouse$Fare", "cents", "I", true)
  | 3 => ("Proratehouse$Fare", "first", "I", true)
  | 4 => ("Proratehouse$Fare", "last", "I", true)
  | 5 => ("Proratehouse$Fare", "stops", "I", true)
  | _ => ("Proratehouse$Fare", "isWithdrawn", "Z", false)
def tyX3 : Nat → FieldType := fun k => match k with
  | 0 => .int
  | 1 => .int
  | 2 => .int
  | 3 => .int
  | 4 => .int
  | 5 => .int
  | _ => .boolean
abbrev wsX30 : List Cond := u_ws RX3 TX3 7
theorem nmX3 : ∀ a, a < 7 → ∀ b, b < 7 → a ≠ b → (TX3 a).2.1 ≠ (TX3 b).2.1 := by decide +kernel
theorem tyX3_ok : ∀ k, k < 7 → parseFieldDescriptor (TX3 k).2.2.1 = some (tyX3 k) := by decide +kernel
abbrev cX3_init : ByteArray := prog_5_method_1_code
def yX3_init : MethodName := ⟨RX3, "<init>", "(IIIIII)V"⟩
abbrev cX3_isFor : ByteArray := prog_5_method_2_code
def yX3_isFor : MethodName := ⟨RX3, "isFor", "(III)Z"⟩
def RX4 : String := "Proratehouse$Journey"
def TX4 : u_T := fun k => match k with
  | 0 => ("Proratehouse$Journey", "legs", "[LProratehouse$Leg;", true)
  | _ => ("Proratehouse$Journey", "count", "I", false)
def tyX4 : Nat → FieldType := fun k => match k with
  | 0 => .array (.object "Proratehouse$Leg")
  | _ => .int
abbrev wsX40 : List Cond := u_ws RX4 TX4 2
theorem nmX4 : ∀ a, a < 2 → ∀ b, b < 2 → a ≠ b → (TX4 a).2.1 ≠ (TX4 b).2.1 := by decide +kernel
theorem tyX4_ok : ∀ k, k < 2 → parseFieldDescriptor (TX4 k).2.2.1 = some (tyX4 k) := by decide +kernel
abbrev cX4_init : ByteArray := prog_6_method_1_code
def yX4_init : MethodName := ⟨RX4, "<init>", "()V"⟩
abbrev cX4_legAt : ByteArray := prog_6_method_2_code
def yX4_legAt : MethodName := ⟨RX4, "legAt", "(I)LProratehouse$Leg;"⟩
abbrev cX4_goesOn : ByteArray := prog_6_method_3_code
def yX4_goesOn : MethodName := ⟨RX4, "goesOn", "(II)Z"⟩
abbrev cX4_add : ByteArray := prog_6_method_4_code
def yX4_add : MethodName := ⟨RX4, "add", "(IIII)I"⟩
abbrev cX4_beginAnew : ByteArray := prog_6_method_5_code
def yX4_beginAnew : MethodName := ⟨RX4, "beginAnew", "()I"⟩
abbrev cX4_hasLegBefore : ByteArray := prog_6_method_6_code
def yX4_hasLegBefore : MethodName := ⟨RX4, "hasLegBefore", "(I)Z"⟩
abbrev cX4_isPoint : ByteArray := prog_6_method_7_code
def yX4_isPoint : MethodName := ⟨RX4, "isPoint", "(I)Z"⟩
abbrev cX4_placeAt : ByteArray := prog_6_method_8_code
def yX4_placeAt : MethodName := ⟨RX4, "placeAt", "(I)I"⟩
abbrev cX4_isStop : ByteArray := prog_6_method_9_code
def yX4_isStop : MethodName := ⟨RX4, "isStop", "(I)Z"⟩
abbrev cX4_priceOfPart : ByteArray := prog_6_method_10_code
def yX4_priceOfPart : MethodName := ⟨RX4, "priceOfPart", "(LProratehouse$Tariff;II)I"⟩
abbrev cX4_stopsBetween : ByteArray := prog_6_method_11_code
def yX4_stopsBetween : MethodName := ⟨RX4, "stopsBetween", "(II)I"⟩
abbrev cX4_milesOfLegs : ByteArray := prog_6_method_12_code
def yX4_milesOfLegs : MethodName := ⟨RX4, "milesOfLegs", "(LProratehouse$Pairs;II)I"⟩
abbrev cX4_highestBetween : ByteArray := prog_6_method_13_code
def yX4_highestBetween : MethodName := ⟨RX4, "highestBetween", "(LProratehouse$Tariff;II)I"⟩
def RX5 : String := "Proratehouse$Leg"
def TX5 : u_T := fun k => match k with
  | 0 => ("Proratehouse$Leg", "from", "I", false)
  | 1 => ("Proratehouse$Leg", "to", "I", false)
  | 2 => ("Proratehouse$Leg", "carrier", "I", false)
  | _ => ("Proratehouse$Leg", "day", "I", false)
def tyX5 : Nat → FieldType := fun k => match k with
  | 0 => .int
  | 1 => .int
  | 2 => .int
  | _ => .int
abbrev wsX50 : List Cond := u_ws RX5 TX5 4
theorem nmX5 : ∀ a, a < 4 → ∀ b, b < 4 → a ≠ b → (TX5 a).2.1 ≠ (TX5 b).2.1 := by decide +kernel
theorem tyX5_ok : ∀ k, k < 4 → parseFieldDescriptor (TX5 k).2.2.1 = some (tyX5 k) := by decide +kernel
abbrev cX5_init : ByteArray := prog_7_method_1_code
def yX5_init : MethodName := ⟨RX5, "<init>", "()V"⟩
def RX6 : String := "Proratehouse$Pairs"
def TX6 : u_T := fun k => match k with
  | _ => ("Proratehouse$Pairs", "numbers", "[I", true)
def tyX6 : Nat → FieldType := fun k => match k with
  | _ => .array .int
abbrev wsX60 : List Cond := u_ws RX6 TX6 1
theorem nmX6 : ∀ a, a < 1 → ∀ b, b < 1 → a ≠ b → (TX6 a).2.1 ≠ (TX6 b).2.1 := by decide +kernel
theorem tyX6_ok : ∀ k, k < 1 → parseFieldDescriptor (TX6 k).2.2.1 = some (tyX6 k) := by decide +kernel
abbrev cX6_init : ByteArray := prog_8_method_1_code
def yX6_init : MethodName := ⟨RX6, "<init>", "()V"⟩
abbrev cX6_get : ByteArray := prog_8_method_2_code
def yX6_get : MethodName := ⟨RX6, "get", "(II)I"⟩
abbrev cX6_put : ByteArray := prog_8_method_3_code
def yX6_put : MethodName := ⟨RX6, "put", "(III)I"⟩
def RX7 : String := "Proratehouse$Proration"
def TX7 : u_T := fun k => match k with
  | 0 => ("Proratehouse$Proration", "weights", "LProratehouse$Pairs;", true)
  | _ => ("Proratehouse$Proration", "provisos", "[I", true)
def tyX7 : Nat → FieldType := fun k => match k with
  | 0 => .object "Proratehouse$Pairs"
  | _ => .array .int
abbrev wsX70 : List Cond := u_ws RX7 TX7 2
theorem nmX7 : ∀ a, a < 2 → ∀ b, b < 2 → a ≠ b → (TX7 a).2.1 ≠ (TX7 b).2.1 := by decide +kernel
theorem tyX7_ok : ∀ k, k < 2 → parseFieldDescriptor (TX7 k).2.2.1 = some (tyX7 k) := by decide +kernel
abbrev cX7_init : ByteArray := prog_9_method_1_code
def yX7_init : MethodName := ⟨RX7, "<init>", "()V"⟩
abbrev cX7_putProviso : ByteArray := prog_9_method_2_code
def yX7_putProviso : MethodName := ⟨RX7, "putProviso", "(IIII)I"⟩
abbrev cX7_provisoOf : ByteArray := prog_9_method_3_code
def yX7_provisoOf : MethodName := ⟨RX7, "provisoOf", "(III)I"⟩
abbrev cX7_weightOf : ByteArray := prog_9_method_4_code
def yX7_weightOf : MethodName := ⟨RX7, "weightOf", "(LProratehouse$Coupon;LProratehouse$Pairs;)I"⟩
abbrev cX7_share : ByteArray := prog_9_method_5_code
def yX7_share : MethodName := ⟨RX7, "share", "(LProratehouse$Ticket;IIILProratehouse$Pairs;)I"⟩
abbrev cX7_shareByWeights : ByteArray := prog_9_method_6_code
def yX7_shareByWeights : MethodName := ⟨RX7, "shareByWeights", "(LProratehouse$Ticket;IIII)V"⟩
def RX8 : String := "Proratehouse$Tariff"
def TX8 : u_T := fun k => match k with
  | 0 => ("Proratehouse$Tariff", "miles", "LProratehouse$Pairs;", true)
  | 1 => ("Proratehouse$Tariff", "fares", "[LProratehouse$Fare;", true)
  | 2 => ("Proratehouse$Tariff", "departTaxes", "[I", true)
  | 3 => ("Proratehouse$Tariff", "changeTaxes", "[I", true)
  | 4 => ("Proratehouse$Tariff", "fareCount", "I", false)
  | 5 => ("Proratehouse$Tariff", "unit", "I", false)
  | _ => ("Proratehouse$Tariff", "today", "I", false)
def tyX8 : Nat → FieldType := fun k => match k with
  | 0 => .object "Proratehouse$Pairs"
  | 1 => .array (.object "Proratehouse$Fare")
  | 2 => .array .int
  | 3 => .array .int
  | 4 => .int
  | 5 => .int
  | _ => .int
abbrev wsX80 : List Cond := u_ws RX8 TX8 7
theorem nmX8 : ∀ a, a < 7 → ∀ b, b < 7 → a ≠ b → (TX8 a).2.1 ≠ (TX8 b).2.1 := by decide +kernel
theorem tyX8_ok : ∀ k, k < 7 → parseFieldDescriptor (TX8 k).2.2.1 = some (tyX8 k) := by decide +kernel
abbrev cX8_init : ByteArray := prog_10_method_1_code
def yX8_init : MethodName := ⟨RX8, "<init>", "()V"⟩
abbrev cX8_file : ByteArray := prog_10_method_2_code
def yX8_file : MethodName := ⟨RX8, "file", "(LProratehouse$Fare;)I"⟩
abbrev cX8_fareAt : ByteArray := prog_10_method_3_code
def yX8_fareAt : MethodName := ⟨RX8, "fareAt", "(I)LProratehouse$Fare;"⟩
abbrev cX8_putTaxes : ByteArray := prog_10_method_4_code
def yX8_putTaxes : MethodName := ⟨RX8, "putTaxes", "(III)V"⟩
abbrev cX8_taxAt : ByteArray := prog_10_method_5_code
def yX8_taxAt : MethodName := ⟨RX8, "taxAt", "(IZ)I"⟩
abbrev cX8_lowestFare : ByteArray := prog_10_method_6_code
def yX8_lowestFare : MethodName := ⟨RX8, "lowestFare", "(III)I"⟩
abbrev cX8_surcharge : ByteArray := prog_10_method_7_code
def yX8_surcharge : MethodName := ⟨RX8, "surcharge", "(III)I"⟩
abbrev cX8_roundedUp : ByteArray := prog_10_method_8_code
def yX8_roundedUp : MethodName := ⟨RX8, "roundedUp", "(II)I"⟩
def RX9 : String := "Proratehouse$Ticket"
def TX9 : u_T := fun k => match k with
  | 0 => ("Proratehouse$Ticket", "issuer", "I", true)
  | 1 => ("Proratehouse$Ticket", "price", "I", true)
  | 2 => ("Proratehouse$Ticket", "cutPoints", "I", true)
  | 3 => ("Proratehouse$Ticket", "coupons", "[LProratehouse$Coupon;", true)
  | 4 => ("Proratehouse$Ticket", "count", "I", false)
  | 5 => ("Proratehouse$Ticket", "taxes", "I", false)
  | 6 => ("Proratehouse$Ticket", "unshared", "I", false)
  | _ => ("Proratehouse$Ticket", "received", "J", false)
def tyX9 : Nat → FieldType := fun k => match k with
  | 0 => .int
  | 1 => .int
  | 2 => .int
  | 3 => .array (.object "Proratehouse$Coupon")
  | 4 => .int
  | 5 => .int
  | 6 => .int
  | _ => .long
abbrev wsX90 : List Cond := u_ws RX9 TX9 8
theorem nmX9 : ∀ a, a < 8 → ∀ b, b < 8 → a ≠ b → (TX9 a).2.1 ≠ (TX9 b).2.1 := by decide +kernel
theorem tyX9_ok : ∀ k, k < 8 → parseFieldDescriptor (TX9 k).2.2.1 = some (tyX9 k) := by decide +kernel
abbrev cX9_init : ByteArray := prog_11_method_1_code
def yX9_init : MethodName := ⟨RX9, "<init>", "(III)V"⟩
abbrev cX9_add : ByteArray := prog_11_method_2_code
def yX9_add : MethodName := ⟨RX9, "add", "(LProratehouse$Coupon;)V"⟩
abbrev cX9_couponAt : ByteArray := prog_11_method_3_code
def yX9_couponAt : MethodName := ⟨RX9, "couponAt", "(I)LProratehouse$Coupon;"⟩
abbrev cX9_openAt : ByteArray := prog_11_method_4_code
def yX9_openAt : MethodName := ⟨RX9, "openAt", "(I)LProratehouse$Coupon;"⟩
abbrev cX9_hasOpenOnes : ByteArray := prog_11_method_5_code
def yX9_hasOpenOnes : MethodName := ⟨RX9, "hasOpenOnes", "()Z"⟩
abbrev cX9_openShares : ByteArray := prog_11_method_6_code
def yX9_openShares : MethodName := ⟨RX9, "openShares", "()I"⟩
abbrev cX9_openTaxes : ByteArray := prog_11_method_7_code
def yX9_openTaxes : MethodName := ⟨RX9, "openTaxes", "()I"⟩
abbrev cX9_flownTaxes : ByteArray := prog_11_method_8_code
def yX9_flownTaxes : MethodName := ⟨RX9, "flownTaxes", "()I"⟩
abbrev cX9_turnOpenOnes : ByteArray := prog_11_method_9_code
def yX9_turnOpenOnes : MethodName := ⟨RX9, "turnOpenOnes", "(II)V"⟩
def RX10 : String := "Proratehouse$Ways"
def TX10 : u_T := fun k => match k with
  | 0 => ("Proratehouse$Ways", "sumsTo", "[I", true)
  | 1 => ("Proratehouse$Ways", "cutsTo", "[I", true)
  | 2 => ("Proratehouse$Ways", "partPrices", "[I", true)
  | 3 => ("Proratehouse$Ways", "leastSum", "I", false)
  | _ => ("Proratehouse$Ways", "leastCuts", "I", false)
def tyX10 : Nat → FieldType := fun k => match k with
  | 0 => .array .int
  | 1 => .array .int
  | 2 => .array .int
  | 3 => .int
  | _ => .int
abbrev wsX100 : List Cond := u_ws RX10 TX10 5
theorem nmX10 : ∀ a, a < 5 → ∀ b, b < 5 → a ≠ b → (TX10 a).2.1 ≠ (TX10 b).2.1 := by decide +kernel
theorem tyX10_ok : ∀ k, k < 5 → parseFieldDescriptor (TX10 k).2.2.1 = some (tyX10 k) := by decide +kernel
abbrev cX10_init : ByteArray := prog_12_method_1_code
def yX10_init : MethodName := ⟨RX10, "<init>", "()V"⟩
abbrev cX10_findLeast : ByteArray := prog_12_method_2_code
def yX10_findLeast : MethodName := ⟨RX10, "findLeast", "(LProratehouse$Journey;LProratehouse$Tariff;)V"⟩
abbrev cX10_goOn : ByteArray := prog_12_method_3_code
def yX10_goOn : MethodName := ⟨RX10, "goOn", "(III)V"⟩
abbrev cX10_leastOfAllSets : ByteArray := prog_12_method_4_code
def yX10_leastOfAllSets : MethodName := ⟨RX10, "leastOfAllSets", "(LProratehouse$Journey;LProratehouse$Tariff;)I"⟩
abbrev cX10_sumOfSet : ByteArray := prog_12_method_5_code
def yX10_sumOfSet : MethodName := ⟨RX10, "sumOfSet", "(II)I"⟩
def RX11 : String := "Proratehouse"
def TX11 : u_T := fun k => match k with
  | 0 => ("Proratehouse", "tariff", "LProratehouse$Tariff;", true)
  | 1 => ("Proratehouse", "proration", "LProratehouse$Proration;", true)
  | 2 => ("Proratehouse", "journey", "LProratehouse$Journey;", true)
  | 3 => ("Proratehouse", "ways", "LProratehouse$Ways;", true)
  | 4 => ("Proratehouse", "clearing", "LProratehouse$Clearing;", true)
  | 5 => ("Proratehouse", "tickets", "[LProratehouse$Ticket;", true)
  | 6 => ("Proratehouse", "carrierCash", "[J", true)
  | 7 => ("Proratehouse", "stateCash", "[J", true)
  | 8 => ("Proratehouse", "ticketCount", "I", false)
  | 9 => ("Proratehouse", "penaltyHundredths", "I", false)
  | _ => ("Proratehouse", "buyersPaid", "J", false)
def tyX11 : Nat → FieldType := fun k => match k with
  | 0 => .object "Proratehouse$Tariff"
  | 1 => .object "Proratehouse$Proration"
  | 2 => .object "Proratehouse$Journey"
  | 3 => .object "Proratehouse$Ways"
  | 4 => .object "Proratehouse$Clearing"
  | 5 => .array (.object "Proratehouse$Ticket")
  | 6 => .array .long
  | 7 => .array .long
  | 8 => .int
  | 9 => .int
  | _ => .long
abbrev wsX110 : List Cond := u_ws RX11 TX11 11
theorem nmX11 : ∀ a, a < 11 → ∀ b, b < 11 → a ≠ b → (TX11 a).2.1 ≠ (TX11 b).2.1 := by decide +kernel
theorem tyX11_ok : ∀ k, k < 11 → parseFieldDescriptor (TX11 k).2.2.1 = some (tyX11 k) := by decide +kernel
abbrev cX11_init : ByteArray := prog_1_method_1_code
def yX11_init : MethodName := ⟨RX11, "<init>", "()V"⟩
abbrev cX11_miles : ByteArray := prog_1_method_2_code
def yX11_miles : MethodName := ⟨RX11, "miles", "(III)I"⟩
abbrev cX11_fare : ByteArray := prog_1_method_3_code
def yX11_fare : MethodName := ⟨RX11, "fare", "(IIIIII)I"⟩
abbrev cX11_unit : ByteArray := prog_1_method_5_code
def yX11_unit : MethodName := ⟨RX11, "unit", "(I)I"⟩
abbrev cX11_tax : ByteArray := prog_1_method_6_code
def yX11_tax : MethodName := ⟨RX11, "tax", "(III)V"⟩
abbrev cX11_weight : ByteArray := prog_1_method_7_code
def yX11_weight : MethodName := ⟨RX11, "weight", "(III)I"⟩
abbrev cX11_proviso : ByteArray := prog_1_method_8_code
def yX11_proviso : MethodName := ⟨RX11, "proviso", "(IIII)I"⟩
abbrev cX11_penalty : ByteArray := prog_1_method_9_code
def yX11_penalty : MethodName := ⟨RX11, "penalty", "(I)I"⟩
abbrev cX11_leg : ByteArray := prog_1_method_10_code
def yX11_leg : MethodName := ⟨RX11, "leg", "(IIII)I"⟩
abbrev cX11_part : ByteArray := prog_1_method_12_code
def yX11_part : MethodName := ⟨RX11, "part", "(II)I"⟩
abbrev cX11_price : ByteArray := prog_1_method_13_code
def yX11_price : MethodName := ⟨RX11, "price", "()I"⟩
abbrev cX11_priceAnew : ByteArray := prog_1_method_14_code
def yX11_priceAnew : MethodName := ⟨RX11, "priceAnew", "()I"⟩
abbrev cX11_cuts : ByteArray := prog_1_method_15_code
def yX11_cuts : MethodName := ⟨RX11, "cuts", "()I"⟩
abbrev cX11_issue : ByteArray := prog_1_method_16_code
def yX11_issue : MethodName := ⟨RX11, "issue", "(I)I"⟩
abbrev cX11_fly : ByteArray := prog_1_method_17_code
def yX11_fly : MethodName := ⟨RX11, "fly", "(II)I"⟩
abbrev cX11_endorse : ByteArray := prog_1_method_18_code
def yX11_endorse : MethodName := ⟨RX11, "endorse", "(III)I"⟩
abbrev cX11_refund : ByteArray := prog_1_method_19_code
def yX11_refund : MethodName := ⟨RX11, "refund", "(I)I"⟩
abbrev cX11_reissue : ByteArray := prog_1_method_20_code
def yX11_reissue : MethodName := ⟨RX11, "reissue", "(I)I"⟩
abbrev cX11_pass : ByteArray := prog_1_method_21_code
def yX11_pass : MethodName := ⟨RX11, "pass", "(I)I"⟩
abbrev cX11_clear : ByteArray := prog_1_method_22_code
def yX11_clear : MethodName := ⟨RX11, "clear", "()J"⟩
abbrev cX11_reject : ByteArray := prog_1_method_23_code
def yX11_reject : MethodName := ⟨RX11, "reject", "(I)I"⟩
abbrev cX11_rebill : ByteArray := prog_1_method_24_code
def yX11_rebill : MethodName := ⟨RX11, "rebill", "(I)V"⟩
abbrev cX11_fails : ByteArray := prog_1_method_25_code
def yX11_fails : MethodName := ⟨RX11, "fails", "(IZ)I"⟩
abbrev cX11_ofTicket : ByteArray := prog_1_method_26_code
def yX11_ofTicket : MethodName := ⟨RX11, "ofTicket", "(II)I"⟩
abbrev cX11_ofCoupon : ByteArray := prog_1_method_27_code
def yX11_ofCoupon : MethodName := ⟨RX11, "ofCoupon", "(III)I"⟩
abbrev cX11_ofBill : ByteArray := prog_1_method_28_code
def yX11_ofBill : MethodName := ⟨RX11, "ofBill", "(II)I"⟩
abbrev cX11_cash : ByteArray := prog_1_method_29_code
def yX11_cash : MethodName := ⟨RX11, "cash", "(I)J"⟩
abbrev cX11_cashAnew : ByteArray := prog_1_method_30_code
def yX11_cashAnew : MethodName := ⟨RX11, "cashAnew", "(I)J"⟩
abbrev cX11_state : ByteArray := prog_1_method_31_code
def yX11_state : MethodName := ⟨RX11, "state", "(I)J"⟩
abbrev cX11_paid : ByteArray := prog_1_method_32_code
def yX11_paid : MethodName := ⟨RX11, "paid", "()J"⟩
abbrev cX11_of : ByteArray := prog_1_method_33_code
def yX11_of : MethodName := ⟨RX11, "of", "(I)I"⟩
abbrev cX11_isWithin : ByteArray := prog_1_method_34_code
def yX11_isWithin : MethodName := ⟨RX11, "isWithin", "(III)Z"⟩
abbrev cX11_isPlace : ByteArray := prog_1_method_35_code
def yX11_isPlace : MethodName := ⟨RX11, "isPlace", "(I)Z"⟩
abbrev cX11_isCarrier : ByteArray := prog_1_method_36_code
def yX11_isCarrier : MethodName := ⟨RX11, "isCarrier", "(I)Z"⟩
abbrev cX11_ticketAt : ByteArray := prog_1_method_37_code
def yX11_ticketAt : MethodName := ⟨RX11, "ticketAt", "(I)LProratehouse$Ticket;"⟩
abbrev cX11_canBeIssued : ByteArray := prog_1_method_38_code
def yX11_canBeIssued : MethodName := ⟨RX11, "canBeIssued", "()Z"⟩
abbrev cX11_issued : ByteArray := prog_1_method_39_code
def yX11_issued : MethodName := ⟨RX11, "issued", "(I)LProratehouse$Ticket;"⟩
abbrev cX11_shareOut : ByteArray := prog_1_method_40_code
def yX11_shareOut : MethodName := ⟨RX11, "shareOut", "(LProratehouse$Ticket;)V"⟩
abbrev cX11_receive : ByteArray := prog_1_method_41_code
def yX11_receive : MethodName := ⟨RX11, "receive", "(LProratehouse$Ticket;I)V"⟩
abbrev cX11_addCash : ByteArray := prog_1_method_42_code
def yX11_addCash : MethodName := ⟨RX11, "addCash", "(IJ)V"⟩
abbrev cX11_moveNets : ByteArray := prog_1_method_43_code
def yX11_moveNets : MethodName := ⟨RX11, "moveNets", "()V"⟩
def RX12 : String := "ProratehouseModel"
def TX12 : u_T := fun k => match k with
  | _ => ("", "", "", false)
def tyX12 : Nat → FieldType := fun k => match k with
  | _ => .int
abbrev wsX120 : List Cond := u_ws RX12 TX12 0
theorem nmX12 : ∀ a, a < 0 → ∀ b, b < 0 → a ≠ b → (TX12 a).2.1 ≠ (TX12 b).2.1 := by decide +kernel
theorem tyX12_ok : ∀ k, k < 0 → parseFieldDescriptor (TX12 k).2.2.1 = some (tyX12 k) := by decide +kernel
def RJ9 : String := "java/lang/Math"
def TJ9 : u_T := fun k => match k with
  | _ => ("", "", "", false)
def tyJ9 : Nat → FieldType := fun k => match k with
  | _ => .int
abbrev wsJ90 : List Cond := u_ws RJ9 TJ9 0
theorem nmJ9 : ∀ a, a < 0 → ∀ b, b < 0 → a ≠ b → (TJ9 a).2.1 ≠ (TJ9 b).2.1 := by decide +kernel
theorem tyJ9_ok : ∀ k, k < 0 → parseFieldDescriptor (TJ9 k).2.2.1 = some (tyJ9 k) := by decide +kernel
abbrev cJ9_max_7cf53 : ByteArray := prog_19_method_65_code
def yJ9_max_7cf53 : MethodName := ⟨RJ9, "max", "(II)I"⟩
abbrev cJ9_max_f86c9 : ByteArray := prog_19_method_66_code
def yJ9_max_f86c9 : MethodName := ⟨RJ9, "max", "(JJ)J"⟩
abbrev cJ9_min_7cf53 : ByteArray := prog_19_method_69_code
def yJ9_min_7cf53 : MethodName := ⟨RJ9, "min", "(II)I"⟩
def RJ0 : String := "java/lang/String"
def TJ0 : u_T := fun k => match k with
  | _ => ("", "", "", false)
def tyJ0 : Nat → FieldType := fun k => match k with
  | _ => .int
abbrev wsJ00 : List Cond := u_ws RJ0 TJ0 0
theorem nmJ0 : ∀ a, a < 0 → ∀ b, b < 0 → a ≠ b → (TJ0 a).2.1 ≠ (TJ0 b).2.1 := by decide +kernel
theorem tyJ0_ok : ∀ k, k < 0 → parseFieldDescriptor (TJ0 k).2.2.1 = some (tyJ0 k) := by decide +kernel
def RL : String := "ProratehouseLaw"
abbrev cL_at : ByteArray := method_2_code
def yL_at : MethodName := ⟨RL, "at", "([II)I"⟩
abbrev cL_low : ByteArray := method_3_code
def yL_low : MethodName := ⟨RL, "low", "(II)I"⟩
abbrev cL_miles : ByteArray := method_4_code
def yL_miles : MethodName := ⟨RL, "miles", "(LProratehouse;III)I"⟩
abbrev cL_fare : ByteArray := method_5_code
def yL_fare : MethodName := ⟨RL, "fare", "(LProratehouse;IIIIII)I"⟩
abbrev cL_unit : ByteArray := method_7_code
def yL_unit : MethodName := ⟨RL, "unit", "(LProratehouse;I)I"⟩
abbrev cL_tax : ByteArray := method_8_code
def yL_tax : MethodName := ⟨RL, "tax", "(LProratehouse;III)I"⟩
abbrev cL_weight : ByteArray := method_9_code
def yL_weight : MethodName := ⟨RL, "weight", "(LProratehouse;III)I"⟩
abbrev cL_proviso : ByteArray := method_10_code
def yL_proviso : MethodName := ⟨RL, "proviso", "(LProratehouse;IIII)I"⟩
abbrev cL_penalty : ByteArray := method_11_code
def yL_penalty : MethodName := ⟨RL, "penalty", "(LProratehouse;I)I"⟩
abbrev cL_leg : ByteArray := method_12_code
def yL_leg : MethodName := ⟨RL, "leg", "(LProratehouse;IIII)I"⟩
abbrev cL_part : ByteArray := method_13_code
def yL_part : MethodName := ⟨RL, "part", "(LProratehouse;II)I"⟩
abbrev cL_issue : ByteArray := method_14_code
def yL_issue : MethodName := ⟨RL, "issue", "(LProratehouse;I)I"⟩
abbrev cL_fly : ByteArray := method_15_code
def yL_fly : MethodName := ⟨RL, "fly", "(LProratehouse;II)I"⟩
abbrev cL_endorse : ByteArray := method_16_code
def yL_endorse : MethodName := ⟨RL, "endorse", "(LProratehouse;III)I"⟩
abbrev cL_refund : ByteArray := method_17_code
def yL_refund : MethodName := ⟨RL, "refund", "(LProratehouse;I)I"⟩
abbrev cL_reissue : ByteArray := method_18_code
def yL_reissue : MethodName := ⟨RL, "reissue", "(LProratehouse;I)I"⟩
abbrev cL_pass : ByteArray := method_19_code
def yL_pass : MethodName := ⟨RL, "pass", "(LProratehouse;I)I"⟩
abbrev cL_reject : ByteArray := method_20_code
def yL_reject : MethodName := ⟨RL, "reject", "(LProratehouse;I)I"⟩
abbrev cL_rebill : ByteArray := method_21_code
def yL_rebill : MethodName := ⟨RL, "rebill", "(LProratehouse;I)I"⟩
abbrev cL_fails : ByteArray := method_22_code
def yL_fails : MethodName := ⟨RL, "fails", "(LProratehouse;IZ)I"⟩
abbrev cL_ofTicket : ByteArray := method_23_code
def yL_ofTicket : MethodName := ⟨RL, "ofTicket", "(LProratehouse;II)I"⟩
abbrev cL_ofCoupon : ByteArray := method_24_code
def yL_ofCoupon : MethodName := ⟨RL, "ofCoupon", "(LProratehouse;III)I"⟩
abbrev cL_ofBill : ByteArray := method_25_code
def yL_ofBill : MethodName := ⟨RL, "ofBill", "(LProratehouse;II)I"⟩
abbrev cL_cash : ByteArray := method_26_code
def yL_cash : MethodName := ⟨RL, "cash", "(LProratehouse;I)J"⟩
abbrev cL_cashAnew : ByteArray := method_27_code
def yL_cashAnew : MethodName := ⟨RL, "cashAnew", "(LProratehouse;I)J"⟩
abbrev cL_state : ByteArray := method_28_code
def yL_state : MethodName := ⟨RL, "state", "(LProratehouse;I)J"⟩
abbrev cL_of : ByteArray := method_29_code
def yL_of : MethodName := ⟨RL, "of", "(LProratehouse;I)I"⟩
abbrev cL_balances : ByteArray := method_30_code
def yL_balances : MethodName := ⟨RL, "balances", "(LProratehouse;[I)Z"⟩
abbrev cL_isWay : ByteArray := method_31_code
def yL_isWay : MethodName := ⟨RL, "isWay", "(LProratehouse;[I)Z"⟩
abbrev cL_isTicket : ByteArray := method_32_code
def yL_isTicket : MethodName := ⟨RL, "isTicket", "(LProratehouse;[II)Z"⟩
abbrev cL_isBill : ByteArray := method_33_code
def yL_isBill : MethodName := ⟨RL, "isBill", "(LProratehouse;[II)Z"⟩
abbrev cL_tells : ByteArray := method_34_code
def yL_tells : MethodName := ⟨RL, "tells", "(LProratehouse;[III)Z"⟩
abbrev cL_travels : ByteArray := method_35_code
def yL_travels : MethodName := ⟨RL, "travels", "(LProratehouse;[I[III)Z"⟩
abbrev cL_sells : ByteArray := method_36_code
def yL_sells : MethodName := ⟨RL, "sells", "(LProratehouse;[III)Z"⟩
abbrev cL_flies : ByteArray := method_37_code
def yL_flies : MethodName := ⟨RL, "flies", "(LProratehouse;[II)Z"⟩
abbrev cL_clears : ByteArray := method_38_code
def yL_clears : MethodName := ⟨RL, "clears", "(LProratehouse;[III)Z"⟩
abbrev cL_acts : ByteArray := method_39_code
def yL_acts : MethodName := ⟨RL, "acts", "(LProratehouse;[I[III)Z"⟩
abbrev cL_law : ByteArray := code
def yL_law : MethodName := ⟨RL, "law", "([I)Z"⟩
abbrev vwCl : List vw_C := [(RX0, TX0, 6), (RX1, TX1, 5), (RX2, TX2, 9), (RX3, TX3, 7), (RX4, TX4, 2), (RX5, TX5, 4), (RX6, TX6, 1), (RX7, TX7, 2), (RX8, TX8, 7), (RX9, TX9, 8), (RX10, TX10, 5), (RX11, TX11, 11)]
end
section
theorem dX0_init_0 : decode cX0_init 0 = .ok (.aload_n 0, 1) := by decide +kernel
theorem dX0_init_1 : decode cX0_init 1 = .ok (.invokespecial 3, 3) := by decide +kernel
theorem dX0_init_4 : decode cX0_init 4 = .ok (.aload_n 0, 1) := by decide +kernel
theorem dX0_init_5 : decode cX0_init 5 = .ok (.iconst 0, 1) := by decide +kernel
theorem dX0_init_6 : decode cX0_init 6 = .ok (.putfield 9, 3) := by decide +kernel
theorem dX0_init_9 : decode cX0_init 9 = .ok (.aload_n 0, 1) := by decide +kernel
theorem dX0_init_10 : decode cX0_init 10 = .ok (.iload_n 1, 1) := by decide +kernel
theorem dX0_init_11 : decode cX0_init 11 = .ok (.putfield 15, 3) := by decide +kernel
theorem dX0_init_14 : decode cX0_init 14 = .ok (.aload_n 0, 1) := by decide +kernel
theorem dX0_init_15 : decode cX0_init 15 = .ok (.iload_n 2, 1) := by decide +kernel
theorem dX0_init_16 : decode cX0_init 16 = .ok (.putfield 18, 3) := by decide +kernel
theorem dX0_init_19 : decode cX0_init 19 = .ok (.aload_n 0, 1) := by decide +kernel
theorem dX0_init_20 : decode cX0_init 20 = .ok (.iload_n 3, 1) := by decide +kernel
theorem dX0_init_21 : decode cX0_init 21 = .ok (.putfield 21, 3) := by decide +kernel
theorem dX0_init_24 : decode cX0_init 24 = .ok (.return_, 1) := by decide +kernel
theorem dX0_isOf_0 : decode cX0_isOf 0 = .ok (.aload_n 0, 1) := by decide +kernel
theorem dX0_isOf_1 : decode cX0_isOf 1 = .ok (.getfield 15, 3) := by decide +kernel
theorem dX0_isOf_4 : decode cX0_isOf 4 = .ok (.iload_n 1, 1) := by decide +kernel
theorem dX0_isOf_5 : decode cX0_isOf 5 = .ok (.if_icmp .eq 11, 3) := by decide +kernel
theorem dX0_isOf_8 : decode cX0_isOf 8 = .ok (.aload_n 0, 1) := by decide +kernel
theorem dX0_isOf_9 : decode cX0_isOf 9 = .ok (.getfield 18, 3) := by decide +kernel
theorem dX0_isOf_12 : decode cX0_isOf 12 = .ok (.iload_n 1, 1) := by decide +kernel
theorem dX0_isOf_13 : decode cX0_isOf 13 = .ok (.if_icmp .ne 7, 3) := by decide +kernel
theorem dX0_isOf_16 : decode cX0_isOf 16 = .ok (.iconst 1, 1) := by decide +kernel
theorem dX0_isOf_17 : decode cX0_isOf 17 = .ok (.goto 4, 3) := by decide +kernel
theorem dX0_isOf_20 : decode cX0_isOf 20 = .ok (.iconst 0, 1) := by decide +kernel
theorem dX0_isOf_21 : decode cX0_isOf 21 = .ok (.ireturn, 1) := by decide +kernel
theorem dX0_isToBeSettled_0 : decode cX0_isToBeSettled 0 = .ok (.aload_n 0, 1) := by decide +kernel
theorem dX0_isToBeSettled_1 : decode cX0_isToBeSettled 1 = .ok (.getfield 9, 3) := by decide +kernel
theorem dX0_isToBeSettled_4 : decode cX0_isToBeSettled 4 = .ok (.ifCond .eq 11, 3) := by decide +kernel
theorem dX0_isToBeSettled_7 : decode cX0_isToBeSettled 7 = .ok (.aload_n 0, 1) := by decide +kernel
theorem dX0_isToBeSettled_8 : decode cX0_isToBeSettled 8 = .ok (.getfield 9, 3) := by decide +kernel
theorem dX0_isToBeSettled_11 : decode cX0_isToBeSettled 11 = .ok (.iconst 2, 1) := by decide +kernel
theorem dX0_isToBeSettled_12 : decode cX0_isToBeSettled 12 = .ok (.if_icmp .ne 7, 3) := by decide +kernel
theorem dX0_isToBeSettled_15 : decode cX0_isToBeSettled 15 = .ok (.iconst 1, 1) := by decide +kernel
theorem dX0_isToBeSettled_16 : decode cX0_isToBeSettled 16 = .ok (.goto 4, 3) := by decide +kernel
theorem dX0_isToBeSettled_19 : decode cX0_isToBeSettled 19 = .ok (.iconst 0, 1) := by decide +kernel
theorem dX0_isToBeSettled_20 : decode cX0_isToBeSettled 20 = .ok (.ireturn, 1) := by decide +kernel
theorem dX0_isAsLeftBy_0 : decode cX0_isAsLeftBy 0 = .ok (.aload_n 0, 1) := by decide +kernel
theorem dX0_isAsLeftBy_1 : decode cX0_isAsLeftBy 1 = .ok (.getfield 24, 3) := by decide +kernel
theorem dX0_isAsLeftBy_4 : decode cX0_isAsLeftBy 4 = .ok (.iload_n 1, 1) := by decide +kernel
theorem dX0_isAsLeftBy_5 : decode cX0_isAsLeftBy 5 = .ok (.if_icmp .ne 14, 3) := by decide +kernel
theorem dX0_isAsLeftBy_8 : decode cX0_isAsLeftBy 8 = .ok (.aload_n 0, 1) := by decide +kernel
theorem dX0_isAsLeftBy_9 : decode cX0_isAsLeftBy 9 = .ok (.invokevirtual 27, 3) := by decide +kernel
theorem dX0_isAsLeftBy_12 : decode cX0_isAsLeftBy 12 = .ok (.ifCond .ne 7, 3) := by decide +kernel
theorem dX0_isAsLeftBy_15 : decode cX0_isAsLeftBy 15 = .ok (.iconst 1, 1) := by decide +kernel
theorem dX0_isAsLeftBy_16 : decode cX0_isAsLeftBy 16 = .ok (.goto 4, 3) := by decide +kernel
theorem dX0_isAsLeftBy_19 : decode cX0_isAsLeftBy 19 = .ok (.iconst 0, 1) := by decide +kernel
theorem dX0_isAsLeftBy_20 : decode cX0_isAsLeftBy 20 = .ok (.ireturn, 1) := by decide +kernel
theorem dX0_amountBack_0 : decode cX0_amountBack 0 = .ok (.aload_n 0, 1) := by decide +kernel
theorem dX0_amountBack_1 : decode cX0_amountBack 1 = .ok (.getfield 31, 3) := by decide +kernel
theorem dX0_amountBack_4 : decode cX0_amountBack 4 = .ok (.iconst 3, 1) := by decide +kernel
theorem dX0_amountBack_5 : decode cX0_amountBack 5 = .ok (.if_icmp .lt 12, 3) := by decide +kernel
theorem dX0_amountBack_8 : decode cX0_amountBack 8 = .ok (.aload_n 0, 1) := by decide +kernel
theorem dX0_amountBack_9 : decode cX0_amountBack 9 = .ok (.getfield 21, 3) := by decide +kernel
theorem dX0_amountBack_12 : decode cX0_amountBack 12 = .ok (.iconst 2, 1) := by decide +kernel
theorem dX0_amountBack_13 : decode cX0_amountBack 13 = .ok (.idiv, 1) := by decide +kernel
theorem dX0_amountBack_14 : decode cX0_amountBack 14 = .ok (.goto 7, 3) := by decide +kernel
theorem dX0_amountBack_17 : decode cX0_amountBack 17 = .ok (.aload_n 0, 1) := by decide +kernel
theorem dX0_amountBack_18 : decode cX0_amountBack 18 = .ok (.getfield 21, 3) := by decide +kernel
theorem dX0_amountBack_21 : decode cX0_amountBack 21 = .ok (.ireturn, 1) := by decide +kernel
theorem dX0_settle_0 : decode cX0_settle 0 = .ok (.aload_n 0, 1) := by decide +kernel
theorem dX0_settle_1 : decode cX0_settle 1 = .ok (.iload_n 1, 1) := by decide +kernel
theorem dX0_settle_2 : decode cX0_settle 2 = .ok (.putfield 24, 3) := by decide +kernel
theorem dX0_settle_5 : decode cX0_settle 5 = .ok (.aload_n 0, 1) := by decide +kernel
theorem dX0_settle_6 : decode cX0_settle 6 = .ok (.getfield 9, 3) := by decide +kernel
theorem dX0_settle_9 : decode cX0_settle 9 = .ok (.ifCond .ne 13, 3) := by decide +kernel
theorem dX0_settle_12 : decode cX0_settle 12 = .ok (.aload_n 0, 1) := by decide +kernel
theorem dX0_settle_13 : decode cX0_settle 13 = .ok (.iconst 1, 1) := by decide +kernel
theorem dX0_settle_14 : decode cX0_settle 14 = .ok (.putfield 9, 3) := by decide +kernel
theorem dX0_settle_17 : decode cX0_settle 17 = .ok (.aload_n 0, 1) := by decide +kernel
theorem dX0_settle_18 : decode cX0_settle 18 = .ok (.getfield 21, 3) := by decide +kernel
theorem dX0_settle_21 : decode cX0_settle 21 = .ok (.ireturn, 1) := by decide +kernel
theorem dX0_settle_22 : decode cX0_settle 22 = .ok (.aload_n 0, 1) := by decide +kernel
theorem dX0_settle_23 : decode cX0_settle 23 = .ok (.aload_n 0, 1) := by decide +kernel
theorem dX0_settle_24 : decode cX0_settle 24 = .ok (.getfield 31, 3) := by decide +kernel
theorem dX0_settle_27 : decode cX0_settle 27 = .ok (.iconst 3, 1) := by decide +kernel
theorem dX0_settle_28 : decode cX0_settle 28 = .ok (.if_icmp .lt 7, 3) := by decide +kernel
theorem dX0_settle_31 : decode cX0_settle 31 = .ok (.iconst 4, 1) := by decide +kernel
theorem dX0_settle_32 : decode cX0_settle 32 = .ok (.goto 4, 3) := by decide +kernel
theorem dX0_settle_35 : decode cX0_settle 35 = .ok (.iconst 3, 1) := by decide +kernel
theorem dX0_settle_36 : decode cX0_settle 36 = .ok (.putfield 9, 3) := by decide +kernel
theorem dX0_settle_39 : decode cX0_settle 39 = .ok (.aload_n 0, 1) := by decide +kernel
theorem dX0_settle_40 : decode cX0_settle 40 = .ok (.invokevirtual 34, 3) := by decide +kernel
theorem dX0_settle_43 : decode cX0_settle 43 = .ok (.ineg, 1) := by decide +kernel
theorem dX0_settle_44 : decode cX0_settle 44 = .ok (.ireturn, 1) := by decide +kernel
theorem dX0_undo_0 : decode cX0_undo 0 = .ok (.aload_n 0, 1) := by decide +kernel
theorem dX0_undo_1 : decode cX0_undo 1 = .ok (.iconst 0, 1) := by decide +kernel
theorem dX0_undo_2 : decode cX0_undo 2 = .ok (.putfield 24, 3) := by decide +kernel
theorem dX0_undo_5 : decode cX0_undo 5 = .ok (.aload_n 0, 1) := by decide +kernel
theorem dX0_undo_6 : decode cX0_undo 6 = .ok (.getfield 9, 3) := by decide +kernel
theorem dX0_undo_9 : decode cX0_undo 9 = .ok (.iconst 1, 1) := by decide +kernel
theorem dX0_undo_10 : decode cX0_undo 10 = .ok (.if_icmp .ne 14, 3) := by decide +kernel
theorem dX0_undo_13 : decode cX0_undo 13 = .ok (.aload_n 0, 1) := by decide +kernel
theorem dX0_undo_14 : decode cX0_undo 14 = .ok (.iconst 0, 1) := by decide +kernel
theorem dX0_undo_15 : decode cX0_undo 15 = .ok (.putfield 9, 3) := by decide +kernel
theorem dX0_undo_18 : decode cX0_undo 18 = .ok (.aload_n 0, 1) := by decide +kernel
theorem dX0_undo_19 : decode cX0_undo 19 = .ok (.getfield 21, 3) := by decide +kernel
theorem dX0_undo_22 : decode cX0_undo 22 = .ok (.ineg, 1) := by decide +kernel
theorem dX0_undo_23 : decode cX0_undo 23 = .ok (.ireturn, 1) := by decide +kernel
theorem dX0_undo_24 : decode cX0_undo 24 = .ok (.aload_n 0, 1) := by decide +kernel
theorem dX0_undo_25 : decode cX0_undo 25 = .ok (.iconst 2, 1) := by decide +kernel
theorem dX0_undo_26 : decode cX0_undo 26 = .ok (.putfield 9, 3) := by decide +kernel
theorem dX0_undo_29 : decode cX0_undo 29 = .ok (.aload_n 0, 1) := by decide +kernel
theorem dX0_undo_30 : decode cX0_undo 30 = .ok (.invokevirtual 34, 3) := by decide +kernel
theorem dX0_undo_33 : decode cX0_undo 33 = .ok (.ireturn, 1) := by decide +kernel
theorem dX0_gotByPayee_0 : decode cX0_gotByPayee 0 = .ok (.aload_n 0, 1) := by decide +kernel
theorem dX0_gotByPayee_1 : decode cX0_gotByPayee 1 = .ok (.getfield 9, 3) := by decide +kernel
theorem dX0_gotByPayee_4 : decode cX0_gotByPayee 4 = .ok (.tableswitch 49 1 4 #[32, 32, 49, 37], 32) := by decide +kernel
theorem dX0_gotByPayee_36 : decode cX0_gotByPayee 36 = .ok (.aload_n 0, 1) := by decide +kernel
theorem dX0_gotByPayee_37 : decode cX0_gotByPayee 37 = .ok (.getfield 21, 3) := by decide +kernel
theorem dX0_gotByPayee_40 : decode cX0_gotByPayee 40 = .ok (.ireturn, 1) := by decide +kernel
theorem dX0_gotByPayee_41 : decode cX0_gotByPayee 41 = .ok (.aload_n 0, 1) := by decide +kernel
theorem dX0_gotByPayee_42 : decode cX0_gotByPayee 42 = .ok (.getfield 21, 3) := by decide +kernel
theorem dX0_gotByPayee_45 : decode cX0_gotByPayee 45 = .ok (.aload_n 0, 1) := by decide +kernel
theorem dX0_gotByPayee_46 : decode cX0_gotByPayee 46 = .ok (.getfield 21, 3) := by decide +kernel
theorem dX0_gotByPayee_49 : decode cX0_gotByPayee 49 = .ok (.iconst 2, 1) := by decide +kernel
theorem dX0_gotByPayee_50 : decode cX0_gotByPayee 50 = .ok (.idiv, 1) := by decide +kernel
theorem dX0_gotByPayee_51 : decode cX0_gotByPayee 51 = .ok (.isub, 1) := by decide +kernel
theorem dX0_gotByPayee_52 : decode cX0_gotByPayee 52 = .ok (.ireturn, 1) := by decide +kernel
theorem dX0_gotByPayee_53 : decode cX0_gotByPayee 53 = .ok (.iconst 0, 1) := by decide +kernel
theorem dX0_gotByPayee_54 : decode cX0_gotByPayee 54 = .ok (.ireturn, 1) := by decide +kernel
theorem dX1_init_0 : decode cX1_init 0 = .ok (.aload_n 0, 1) := by decide +kernel
theorem dX1_init_1 : decode cX1_init 1 = .ok (.invokespecial 3, 3) := by decide +kernel
theorem dX1_init_4 : decode cX1_init 4 = .ok (.aload_n 0, 1) := by decide +kernel
theorem dX1_init_5 : decode cX1_init 5 = .ok (.sipush 240, 3) := by decide +kernel
theorem dX1_init_8 : decode cX1_init 8 = .ok (.anewarray 9, 3) := by decide +kernel
theorem dX1_init_11 : decode cX1_init 11 = .ok (.putfield 11, 3) := by decide +kernel
theorem dX1_init_14 : decode cX1_init 14 = .ok (.aload_n 0, 1) := by decide +kernel
theorem dX1_init_15 : decode cX1_init 15 = .ok (.iconst 5, 1) := by decide +kernel
theorem dX1_init_16 : decode cX1_init 16 = .ok (.newarray .long, 2) := by decide +kernel
theorem dX1_init_18 : decode cX1_init 18 = .ok (.putfield 17, 3) := by decide +kernel
theorem dX1_init_21 : decode cX1_init 21 = .ok (.return_, 1) := by decide +kernel
theorem dX1_addBill_0 : decode cX1_addBill 0 = .ok (.aload_n 0, 1) := by decide +kernel
theorem dX1_addBill_1 : decode cX1_addBill 1 = .ok (.getfield 21, 3) := by decide +kernel
theorem dX1_addBill_4 : decode cX1_addBill 4 = .ok (.sipush 240, 3) := by decide +kernel
theorem dX1_addBill_7 : decode cX1_addBill 7 = .ok (.if_icmp .lt 5, 3) := by decide +kernel
theorem dX1_addBill_10 : decode cX1_addBill 10 = .ok (.iconst (-1), 1) := by decide +kernel
theorem dX1_addBill_11 : decode cX1_addBill 11 = .ok (.ireturn, 1) := by decide +kernel
theorem dX1_addBill_12 : decode cX1_addBill 12 = .ok (.aload_n 0, 1) := by decide +kernel
theorem dX1_addBill_13 : decode cX1_addBill 13 = .ok (.getfield 11, 3) := by decide +kernel
theorem dX1_addBill_16 : decode cX1_addBill 16 = .ok (.aload_n 0, 1) := by decide +kernel
theorem dX1_addBill_17 : decode cX1_addBill 17 = .ok (.getfield 21, 3) := by decide +kernel
theorem dX1_addBill_20 : decode cX1_addBill 20 = .ok (.new 9, 3) := by decide +kernel
theorem dX1_addBill_23 : decode cX1_addBill 23 = .ok (.dup, 1) := by decide +kernel
theorem dX1_addBill_24 : decode cX1_addBill 24 = .ok (.iload_n 1, 1) := by decide +kernel
theorem dX1_addBill_25 : decode cX1_addBill 25 = .ok (.iload_n 2, 1) := by decide +kernel
theorem dX1_addBill_26 : decode cX1_addBill 26 = .ok (.iload_n 3, 1) := by decide +kernel
theorem dX1_addBill_27 : decode cX1_addBill 27 = .ok (.invokespecial 25, 3) := by decide +kernel
theorem dX1_addBill_30 : decode cX1_addBill 30 = .ok (.aastore, 1) := by decide +kernel
theorem dX1_addBill_31 : decode cX1_addBill 31 = .ok (.aload_n 0, 1) := by decide +kernel
theorem dX1_addBill_32 : decode cX1_addBill 32 = .ok (.dup, 1) := by decide +kernel
theorem dX1_addBill_33 : decode cX1_addBill 33 = .ok (.getfield 21, 3) := by decide +kernel
theorem dX1_addBill_36 : decode cX1_addBill 36 = .ok (.iconst 1, 1) := by decide +kernel
theorem dX1_addBill_37 : decode cX1_addBill 37 = .ok (.iadd, 1) := by decide +kernel
theorem dX1_addBill_38 : decode cX1_addBill 38 = .ok (.putfield 21, 3) := by decide +kernel
theorem dX1_addBill_41 : decode cX1_addBill 41 = .ok (.aload_n 0, 1) := by decide +kernel
theorem dX1_addBill_42 : decode cX1_addBill 42 = .ok (.getfield 21, 3) := by decide +kernel
theorem dX1_addBill_45 : decode cX1_addBill 45 = .ok (.iconst 1, 1) := by decide +kernel
theorem dX1_addBill_46 : decode cX1_addBill 46 = .ok (.isub, 1) := by decide +kernel
theorem dX1_addBill_47 : decode cX1_addBill 47 = .ok (.ireturn, 1) := by decide +kernel
theorem dX1_billAt_0 : decode cX1_billAt 0 = .ok (.iload_n 1, 1) := by decide +kernel
theorem dX1_billAt_1 : decode cX1_billAt 1 = .ok (.ifCond .lt 27, 3) := by decide +kernel
theorem dX1_billAt_4 : decode cX1_billAt 4 = .ok (.iload_n 1, 1) := by decide +kernel
theorem dX1_billAt_5 : decode cX1_billAt 5 = .ok (.aload_n 0, 1) := by decide +kernel
theorem dX1_billAt_6 : decode cX1_billAt 6 = .ok (.getfield 21, 3) := by decide +kernel
theorem dX1_billAt_9 : decode cX1_billAt 9 = .ok (.if_icmp .ge 19, 3) := by decide +kernel
theorem dX1_billAt_12 : decode cX1_billAt 12 = .ok (.iload_n 1, 1) := by decide +kernel
theorem dX1_billAt_13 : decode cX1_billAt 13 = .ok (.sipush 240, 3) := by decide +kernel
theorem dX1_billAt_16 : decode cX1_billAt 16 = .ok (.if_icmp .ge 12, 3) := by decide +kernel
theorem dX1_billAt_19 : decode cX1_billAt 19 = .ok (.aload_n 0, 1) := by decide +kernel
theorem dX1_billAt_20 : decode cX1_billAt 20 = .ok (.getfield 11, 3) := by decide +kernel
theorem dX1_billAt_23 : decode cX1_billAt 23 = .ok (.iload_n 1, 1) := by decide +kernel
theorem dX1_billAt_24 : decode cX1_billAt 24 = .ok (.aaload, 1) := by decide +kernel
theorem dX1_billAt_25 : decode cX1_billAt 25 = .ok (.goto 4, 3) := by decide +kernel
theorem dX1_billAt_28 : decode cX1_billAt 28 = .ok (.aconst_null, 1) := by decide +kernel
theorem dX1_billAt_29 : decode cX1_billAt 29 = .ok (.areturn, 1) := by decide +kernel
theorem dX1_isInDefault_0 : decode cX1_isInDefault 0 = .ok (.iload_n 1, 1) := by decide +kernel
theorem dX1_isInDefault_1 : decode cX1_isInDefault 1 = .ok (.invokestatic 28, 3) := by decide +kernel
theorem dX1_isInDefault_4 : decode cX1_isInDefault 4 = .ok (.ifCond .eq 19, 3) := by decide +kernel
theorem dX1_isInDefault_7 : decode cX1_isInDefault 7 = .ok (.aload_n 0, 1) := by decide +kernel
theorem dX1_isInDefault_8 : decode cX1_isInDefault 8 = .ok (.getfield 32, 3) := by decide +kernel
theorem dX1_isInDefault_11 : decode cX1_isInDefault 11 = .ok (.iload_n 1, 1) := by decide +kernel
theorem dX1_isInDefault_12 : decode cX1_isInDefault 12 = .ok (.ishr, 1) := by decide +kernel
theorem dX1_isInDefault_13 : decode cX1_isInDefault 13 = .ok (.iconst 1, 1) := by decide +kernel
theorem dX1_isInDefault_14 : decode cX1_isInDefault 14 = .ok (.iand, 1) := by decide +kernel
theorem dX1_isInDefault_15 : decode cX1_isInDefault 15 = .ok (.iconst 1, 1) := by decide +kernel
theorem dX1_isInDefault_16 : decode cX1_isInDefault 16 = .ok (.if_icmp .ne 7, 3) := by decide +kernel
theorem dX1_isInDefault_19 : decode cX1_isInDefault 19 = .ok (.iconst 1, 1) := by decide +kernel
theorem dX1_isInDefault_20 : decode cX1_isInDefault 20 = .ok (.goto 4, 3) := by decide +kernel
theorem dX1_isInDefault_23 : decode cX1_isInDefault 23 = .ok (.iconst 0, 1) := by decide +kernel
theorem dX1_isInDefault_24 : decode cX1_isInDefault 24 = .ok (.ireturn, 1) := by decide +kernel
theorem dX1_putDefault_0 : decode cX1_putDefault 0 = .ok (.iload_n 1, 1) := by decide +kernel
theorem dX1_putDefault_1 : decode cX1_putDefault 1 = .ok (.invokestatic 28, 3) := by decide +kernel
theorem dX1_putDefault_4 : decode cX1_putDefault 4 = .ok (.ifCond .eq 32, 3) := by decide +kernel
theorem dX1_putDefault_7 : decode cX1_putDefault 7 = .ok (.aload_n 0, 1) := by decide +kernel
theorem dX1_putDefault_8 : decode cX1_putDefault 8 = .ok (.iload_n 2, 1) := by decide +kernel
theorem dX1_putDefault_9 : decode cX1_putDefault 9 = .ok (.ifCond .eq 14, 3) := by decide +kernel
theorem dX1_putDefault_12 : decode cX1_putDefault 12 = .ok (.aload_n 0, 1) := by decide +kernel
theorem dX1_putDefault_13 : decode cX1_putDefault 13 = .ok (.getfield 32, 3) := by decide +kernel
theorem dX1_putDefault_16 : decode cX1_putDefault 16 = .ok (.iconst 1, 1) := by decide +kernel
theorem dX1_putDefault_17 : decode cX1_putDefault 17 = .ok (.iload_n 1, 1) := by decide +kernel
theorem dX1_putDefault_18 : decode cX1_putDefault 18 = .ok (.ishl, 1) := by decide +kernel
theorem dX1_putDefault_19 : decode cX1_putDefault 19 = .ok (.ior, 1) := by decide +kernel
theorem dX1_putDefault_20 : decode cX1_putDefault 20 = .ok (.goto 13, 3) := by decide +kernel
theorem dX1_putDefault_23 : decode cX1_putDefault 23 = .ok (.aload_n 0, 1) := by decide +kernel
theorem dX1_putDefault_24 : decode cX1_putDefault 24 = .ok (.getfield 32, 3) := by decide +kernel
theorem dX1_putDefault_27 : decode cX1_putDefault 27 = .ok (.iconst 1, 1) := by decide +kernel
theorem dX1_putDefault_28 : decode cX1_putDefault 28 = .ok (.iload_n 1, 1) := by decide +kernel
theorem dX1_putDefault_29 : decode cX1_putDefault 29 = .ok (.ishl, 1) := by decide +kernel
theorem dX1_putDefault_30 : decode cX1_putDefault 30 = .ok (.iconst (-1), 1) := by decide +kernel
theorem dX1_putDefault_31 : decode cX1_putDefault 31 = .ok (.ixor, 1) := by decide +kernel
theorem dX1_putDefault_32 : decode cX1_putDefault 32 = .ok (.iand, 1) := by decide +kernel
theorem dX1_putDefault_33 : decode cX1_putDefault 33 = .ok (.putfield 32, 3) := by decide +kernel
theorem dX1_putDefault_36 : decode cX1_putDefault 36 = .ok (.return_, 1) := by decide +kernel
theorem dX1_settle_0 : decode cX1_settle 0 = .ok (.aload_n 0, 1) := by decide +kernel
theorem dX1_settle_1 : decode cX1_settle 1 = .ok (.invokevirtual 35, 3) := by decide +kernel
theorem dX1_settle_4 : decode cX1_settle 4 = .ok (.aload_n 0, 1) := by decide +kernel
theorem dX1_settle_5 : decode cX1_settle 5 = .ok (.dup, 1) := by decide +kernel
theorem dX1_settle_6 : decode cX1_settle 6 = .ok (.getfield 38, 3) := by decide +kernel
theorem dX1_settle_9 : decode cX1_settle 9 = .ok (.iconst 1, 1) := by decide +kernel
theorem dX1_settle_10 : decode cX1_settle 10 = .ok (.iadd, 1) := by decide +kernel
theorem dX1_settle_11 : decode cX1_settle 11 = .ok (.putfield 38, 3) := by decide +kernel
theorem dX1_settle_14 : decode cX1_settle 14 = .ok (.iconst 0, 1) := by decide +kernel
theorem dX1_settle_15 : decode cX1_settle 15 = .ok (.istore_n 1, 1) := by decide +kernel
theorem dX1_settle_16 : decode cX1_settle 16 = .ok (.iload_n 1, 1) := by decide +kernel
theorem dX1_settle_17 : decode cX1_settle 17 = .ok (.aload_n 0, 1) := by decide +kernel
theorem dX1_settle_18 : decode cX1_settle 18 = .ok (.getfield 21, 3) := by decide +kernel
theorem dX1_settle_21 : decode cX1_settle 21 = .ok (.if_icmp .ge 61, 3) := by decide +kernel
theorem dX1_settle_24 : decode cX1_settle 24 = .ok (.aload_n 0, 1) := by decide +kernel
theorem dX1_settle_25 : decode cX1_settle 25 = .ok (.iload_n 1, 1) := by decide +kernel
theorem dX1_settle_26 : decode cX1_settle 26 = .ok (.invokevirtual 41, 3) := by decide +kernel
theorem dX1_settle_29 : decode cX1_settle 29 = .ok (.astore_n 2, 1) := by decide +kernel
theorem dX1_settle_30 : decode cX1_settle 30 = .ok (.aload_n 2, 1) := by decide +kernel
theorem dX1_settle_31 : decode cX1_settle 31 = .ok (.ifnull 45, 3) := by decide +kernel
theorem dX1_settle_34 : decode cX1_settle 34 = .ok (.aload_n 2, 1) := by decide +kernel
theorem dX1_settle_35 : decode cX1_settle 35 = .ok (.invokevirtual 45, 3) := by decide +kernel
theorem dX1_settle_38 : decode cX1_settle 38 = .ok (.ifCond .eq 38, 3) := by decide +kernel
theorem dX1_settle_41 : decode cX1_settle 41 = .ok (.aload_n 0, 1) := by decide +kernel
theorem dX1_settle_42 : decode cX1_settle 42 = .ok (.aload_n 2, 1) := by decide +kernel
theorem dX1_settle_43 : decode cX1_settle 43 = .ok (.getfield 49, 3) := by decide +kernel
theorem dX1_settle_46 : decode cX1_settle 46 = .ok (.invokevirtual 52, 3) := by decide +kernel
theorem dX1_settle_49 : decode cX1_settle 49 = .ok (.ifCond .ne 27, 3) := by decide +kernel
theorem dX1_settle_52 : decode cX1_settle 52 = .ok (.aload_n 0, 1) := by decide +kernel
theorem dX1_settle_53 : decode cX1_settle 53 = .ok (.aload_n 2, 1) := by decide +kernel
theorem dX1_settle_54 : decode cX1_settle 54 = .ok (.getfield 55, 3) := by decide +kernel
theorem dX1_settle_57 : decode cX1_settle 57 = .ok (.invokevirtual 52, 3) := by decide +kernel
theorem dX1_settle_60 : decode cX1_settle 60 = .ok (.ifCond .ne 16, 3) := by decide +kernel
theorem dX1_settle_63 : decode cX1_settle 63 = .ok (.aload_n 0, 1) := by decide +kernel
theorem dX1_settle_64 : decode cX1_settle 64 = .ok (.aload_n 2, 1) := by decide +kernel
theorem dX1_settle_65 : decode cX1_settle 65 = .ok (.aload_n 2, 1) := by decide +kernel
theorem dX1_settle_66 : decode cX1_settle 66 = .ok (.aload_n 0, 1) := by decide +kernel
theorem dX1_settle_67 : decode cX1_settle 67 = .ok (.getfield 38, 3) := by decide +kernel
theorem dX1_settle_70 : decode cX1_settle 70 = .ok (.invokevirtual 58, 3) := by decide +kernel
theorem dX1_settle_73 : decode cX1_settle 73 = .ok (.invokevirtual 62, 3) := by decide +kernel
theorem dX1_settle_76 : decode cX1_settle 76 = .ok (.iinc 1 1, 3) := by decide +kernel
theorem dX1_settle_79 : decode cX1_settle 79 = .ok (.goto (-63), 3) := by decide +kernel
theorem dX1_settle_82 : decode cX1_settle 82 = .ok (.return_, 1) := by decide +kernel
theorem dX1_undo_0 : decode cX1_undo 0 = .ok (.aload_n 0, 1) := by decide +kernel
theorem dX1_undo_1 : decode cX1_undo 1 = .ok (.invokevirtual 35, 3) := by decide +kernel
theorem dX1_undo_4 : decode cX1_undo 4 = .ok (.iconst 0, 1) := by decide +kernel
theorem dX1_undo_5 : decode cX1_undo 5 = .ok (.istore_n 2, 1) := by decide +kernel
theorem dX1_undo_6 : decode cX1_undo 6 = .ok (.iconst 0, 1) := by decide +kernel
theorem dX1_undo_7 : decode cX1_undo 7 = .ok (.istore_n 3, 1) := by decide +kernel
theorem dX1_undo_8 : decode cX1_undo 8 = .ok (.iload_n 3, 1) := by decide +kernel
theorem dX1_undo_9 : decode cX1_undo 9 = .ok (.aload_n 0, 1) := by decide +kernel
theorem dX1_undo_10 : decode cX1_undo 10 = .ok (.getfield 21, 3) := by decide +kernel
theorem dX1_undo_13 : decode cX1_undo 13 = .ok (.if_icmp .ge 56, 3) := by decide +kernel
theorem dX1_undo_16 : decode cX1_undo 16 = .ok (.aload_n 0, 1) := by decide +kernel
theorem dX1_undo_17 : decode cX1_undo 17 = .ok (.iload_n 3, 1) := by decide +kernel
theorem dX1_undo_18 : decode cX1_undo 18 = .ok (.invokevirtual 41, 3) := by decide +kernel
theorem dX1_undo_21 : decode cX1_undo 21 = .ok (.astore 4, 2) := by decide +kernel
theorem dX1_undo_23 : decode cX1_undo 23 = .ok (.aload 4, 2) := by decide +kernel
theorem dX1_undo_25 : decode cX1_undo 25 = .ok (.ifnull 38, 3) := by decide +kernel
theorem dX1_undo_28 : decode cX1_undo 28 = .ok (.aload 4, 2) := by decide +kernel
theorem dX1_undo_30 : decode cX1_undo 30 = .ok (.iload_n 1, 1) := by decide +kernel
theorem dX1_undo_31 : decode cX1_undo 31 = .ok (.invokevirtual 66, 3) := by decide +kernel
theorem dX1_undo_34 : decode cX1_undo 34 = .ok (.ifCond .eq 29, 3) := by decide +kernel
theorem dX1_undo_37 : decode cX1_undo 37 = .ok (.aload 4, 2) := by decide +kernel
theorem dX1_undo_39 : decode cX1_undo 39 = .ok (.aload_n 0, 1) := by decide +kernel
theorem dX1_undo_40 : decode cX1_undo 40 = .ok (.getfield 38, 3) := by decide +kernel
theorem dX1_undo_43 : decode cX1_undo 43 = .ok (.invokevirtual 69, 3) := by decide +kernel
theorem dX1_undo_46 : decode cX1_undo 46 = .ok (.ifCond .eq 17, 3) := by decide +kernel
theorem dX1_undo_49 : decode cX1_undo 49 = .ok (.aload_n 0, 1) := by decide +kernel
theorem dX1_undo_50 : decode cX1_undo 50 = .ok (.aload 4, 2) := by decide +kernel
theorem dX1_undo_52 : decode cX1_undo 52 = .ok (.aload 4, 2) := by decide +kernel
theorem dX1_undo_54 : decode cX1_undo 54 = .ok (.invokevirtual 72, 3) := by decide +kernel
theorem dX1_undo_57 : decode cX1_undo 57 = .ok (.invokevirtual 62, 3) := by decide +kernel
theorem dX1_undo_60 : decode cX1_undo 60 = .ok (.iinc 2 1, 3) := by decide +kernel
theorem dX1_undo_63 : decode cX1_undo 63 = .ok (.iinc 3 1, 3) := by decide +kernel
theorem dX1_undo_66 : decode cX1_undo 66 = .ok (.goto (-58), 3) := by decide +kernel
theorem dX1_undo_69 : decode cX1_undo 69 = .ok (.iload_n 2, 1) := by decide +kernel
theorem dX1_undo_70 : decode cX1_undo 70 = .ok (.ireturn, 1) := by decide +kernel
theorem dX1_forgetNets_0 : decode cX1_forgetNets 0 = .ok (.iconst 0, 1) := by decide +kernel
theorem dX1_forgetNets_1 : decode cX1_forgetNets 1 = .ok (.istore_n 1, 1) := by decide +kernel
theorem dX1_forgetNets_2 : decode cX1_forgetNets 2 = .ok (.iload_n 1, 1) := by decide +kernel
theorem dX1_forgetNets_3 : decode cX1_forgetNets 3 = .ok (.iconst 5, 1) := by decide +kernel
theorem dX1_forgetNets_4 : decode cX1_forgetNets 4 = .ok (.if_icmp .ge 16, 3) := by decide +kernel
theorem dX1_forgetNets_7 : decode cX1_forgetNets 7 = .ok (.aload_n 0, 1) := by decide +kernel
theorem dX1_forgetNets_8 : decode cX1_forgetNets 8 = .ok (.getfield 17, 3) := by decide +kernel
theorem dX1_forgetNets_11 : decode cX1_forgetNets 11 = .ok (.iload_n 1, 1) := by decide +kernel
theorem dX1_forgetNets_12 : decode cX1_forgetNets 12 = .ok (.lconst 0, 1) := by decide +kernel
theorem dX1_forgetNets_13 : decode cX1_forgetNets 13 = .ok (.lastore, 1) := by decide +kernel
theorem dX1_forgetNets_14 : decode cX1_forgetNets 14 = .ok (.iinc 1 1, 3) := by decide +kernel
theorem dX1_forgetNets_17 : decode cX1_forgetNets 17 = .ok (.goto (-15), 3) := by decide +kernel
theorem dX1_forgetNets_20 : decode cX1_forgetNets 20 = .ok (.return_, 1) := by decide +kernel
theorem dX1_addToNets_0 : decode cX1_addToNets 0 = .ok (.aload_n 1, 1) := by decide +kernel
theorem dX1_addToNets_1 : decode cX1_addToNets 1 = .ok (.getfield 49, 3) := by decide +kernel
theorem dX1_addToNets_4 : decode cX1_addToNets 4 = .ok (.invokestatic 28, 3) := by decide +kernel
theorem dX1_addToNets_7 : decode cX1_addToNets 7 = .ok (.ifCond .eq 41, 3) := by decide +kernel
theorem dX1_addToNets_10 : decode cX1_addToNets 10 = .ok (.aload_n 1, 1) := by decide +kernel
theorem dX1_addToNets_11 : decode cX1_addToNets 11 = .ok (.getfield 55, 3) := by decide +kernel
theorem dX1_addToNets_14 : decode cX1_addToNets 14 = .ok (.invokestatic 28, 3) := by decide +kernel
theorem dX1_addToNets_17 : decode cX1_addToNets 17 = .ok (.ifCond .eq 31, 3) := by decide +kernel
theorem dX1_addToNets_20 : decode cX1_addToNets 20 = .ok (.aload_n 0, 1) := by decide +kernel
theorem dX1_addToNets_21 : decode cX1_addToNets 21 = .ok (.getfield 17, 3) := by decide +kernel
theorem dX1_addToNets_24 : decode cX1_addToNets 24 = .ok (.aload_n 1, 1) := by decide +kernel
theorem dX1_addToNets_25 : decode cX1_addToNets 25 = .ok (.getfield 49, 3) := by decide +kernel
theorem dX1_addToNets_28 : decode cX1_addToNets 28 = .ok (.dup2, 1) := by decide +kernel
theorem dX1_addToNets_29 : decode cX1_addToNets 29 = .ok (.laload, 1) := by decide +kernel
theorem dX1_addToNets_30 : decode cX1_addToNets 30 = .ok (.iload_n 2, 1) := by decide +kernel
theorem dX1_addToNets_31 : decode cX1_addToNets 31 = .ok (.i2l, 1) := by decide +kernel
theorem dX1_addToNets_32 : decode cX1_addToNets 32 = .ok (.lsub, 1) := by decide +kernel
theorem dX1_addToNets_33 : decode cX1_addToNets 33 = .ok (.lastore, 1) := by decide +kernel
theorem dX1_addToNets_34 : decode cX1_addToNets 34 = .ok (.aload_n 0, 1) := by decide +kernel
theorem dX1_addToNets_35 : decode cX1_addToNets 35 = .ok (.getfield 17, 3) := by decide +kernel
theorem dX1_addToNets_38 : decode cX1_addToNets 38 = .ok (.aload_n 1, 1) := by decide +kernel
theorem dX1_addToNets_39 : decode cX1_addToNets 39 = .ok (.getfield 55, 3) := by decide +kernel
theorem dX1_addToNets_42 : decode cX1_addToNets 42 = .ok (.dup2, 1) := by decide +kernel
theorem dX1_addToNets_43 : decode cX1_addToNets 43 = .ok (.laload, 1) := by decide +kernel
theorem dX1_addToNets_44 : decode cX1_addToNets 44 = .ok (.iload_n 2, 1) := by decide +kernel
theorem dX1_addToNets_45 : decode cX1_addToNets 45 = .ok (.i2l, 1) := by decide +kernel
theorem dX1_addToNets_46 : decode cX1_addToNets 46 = .ok (.ladd, 1) := by decide +kernel
theorem dX1_addToNets_47 : decode cX1_addToNets 47 = .ok (.lastore, 1) := by decide +kernel
theorem dX1_addToNets_48 : decode cX1_addToNets 48 = .ok (.return_, 1) := by decide +kernel
theorem dX1_netOf_0 : decode cX1_netOf 0 = .ok (.iload_n 1, 1) := by decide +kernel
theorem dX1_netOf_1 : decode cX1_netOf 1 = .ok (.invokestatic 28, 3) := by decide +kernel
theorem dX1_netOf_4 : decode cX1_netOf 4 = .ok (.ifCond .eq 12, 3) := by decide +kernel
theorem dX1_netOf_7 : decode cX1_netOf 7 = .ok (.aload_n 0, 1) := by decide +kernel
theorem dX1_netOf_8 : decode cX1_netOf 8 = .ok (.getfield 17, 3) := by decide +kernel
theorem dX1_netOf_11 : decode cX1_netOf 11 = .ok (.iload_n 1, 1) := by decide +kernel
theorem dX1_netOf_12 : decode cX1_netOf 12 = .ok (.laload, 1) := by decide +kernel
theorem dX1_netOf_13 : decode cX1_netOf 13 = .ok (.goto 4, 3) := by decide +kernel
theorem dX1_netOf_16 : decode cX1_netOf 16 = .ok (.lconst 0, 1) := by decide +kernel
theorem dX1_netOf_17 : decode cX1_netOf 17 = .ok (.lreturn, 1) := by decide +kernel
theorem dX1_sumOfNetsAboveZero_0 : decode cX1_sumOfNetsAboveZero 0 = .ok (.lconst 0, 1) := by decide +kernel
theorem dX1_sumOfNetsAboveZero_1 : decode cX1_sumOfNetsAboveZero 1 = .ok (.lstore_n 1, 1) := by decide +kernel
theorem dX1_sumOfNetsAboveZero_2 : decode cX1_sumOfNetsAboveZero 2 = .ok (.iconst 0, 1) := by decide +kernel
theorem dX1_sumOfNetsAboveZero_3 : decode cX1_sumOfNetsAboveZero 3 = .ok (.istore_n 3, 1) := by decide +kernel
theorem dX1_sumOfNetsAboveZero_4 : decode cX1_sumOfNetsAboveZero 4 = .ok (.iload_n 3, 1) := by decide +kernel
theorem dX1_sumOfNetsAboveZero_5 : decode cX1_sumOfNetsAboveZero 5 = .ok (.iconst 5, 1) := by decide +kernel
theorem dX1_sumOfNetsAboveZero_6 : decode cX1_sumOfNetsAboveZero 6 = .ok (.if_icmp .ge 21, 3) := by decide +kernel
theorem dX1_sumOfNetsAboveZero_9 : decode cX1_sumOfNetsAboveZero 9 = .ok (.lload_n 1, 1) := by decide +kernel
theorem dX1_sumOfNetsAboveZero_10 : decode cX1_sumOfNetsAboveZero 10 = .ok (.aload_n 0, 1) := by decide +kernel
theorem dX1_sumOfNetsAboveZero_11 : decode cX1_sumOfNetsAboveZero 11 = .ok (.iload_n 3, 1) := by decide +kernel
theorem dX1_sumOfNetsAboveZero_12 : decode cX1_sumOfNetsAboveZero 12 = .ok (.invokevirtual 76, 3) := by decide +kernel
theorem dX1_sumOfNetsAboveZero_15 : decode cX1_sumOfNetsAboveZero 15 = .ok (.lconst 0, 1) := by decide +kernel
theorem dX1_sumOfNetsAboveZero_16 : decode cX1_sumOfNetsAboveZero 16 = .ok (.invokestatic 80, 3) := by decide +kernel
theorem dX1_sumOfNetsAboveZero_19 : decode cX1_sumOfNetsAboveZero 19 = .ok (.ladd, 1) := by decide +kernel
theorem dX1_sumOfNetsAboveZero_20 : decode cX1_sumOfNetsAboveZero 20 = .ok (.lstore_n 1, 1) := by decide +kernel
theorem dX1_sumOfNetsAboveZero_21 : decode cX1_sumOfNetsAboveZero 21 = .ok (.iinc 3 1, 3) := by decide +kernel
theorem dX1_sumOfNetsAboveZero_24 : decode cX1_sumOfNetsAboveZero 24 = .ok (.goto (-20), 3) := by decide +kernel
theorem dX1_sumOfNetsAboveZero_27 : decode cX1_sumOfNetsAboveZero 27 = .ok (.lload_n 1, 1) := by decide +kernel
theorem dX1_sumOfNetsAboveZero_28 : decode cX1_sumOfNetsAboveZero 28 = .ok (.lreturn, 1) := by decide +kernel
theorem dX1_gotBy_0 : decode cX1_gotBy 0 = .ok (.lconst 0, 1) := by decide +kernel
theorem dX1_gotBy_1 : decode cX1_gotBy 1 = .ok (.lstore_n 2, 1) := by decide +kernel
theorem dX1_gotBy_2 : decode cX1_gotBy 2 = .ok (.iconst 0, 1) := by decide +kernel
theorem dX1_gotBy_3 : decode cX1_gotBy 3 = .ok (.istore 4, 2) := by decide +kernel
theorem dX1_gotBy_5 : decode cX1_gotBy 5 = .ok (.iload 4, 2) := by decide +kernel
theorem dX1_gotBy_7 : decode cX1_gotBy 7 = .ok (.aload_n 0, 1) := by decide +kernel
theorem dX1_gotBy_8 : decode cX1_gotBy 8 = .ok (.getfield 21, 3) := by decide +kernel
theorem dX1_gotBy_11 : decode cX1_gotBy 11 = .ok (.if_icmp .ge 63, 3) := by decide +kernel
theorem dX1_gotBy_14 : decode cX1_gotBy 14 = .ok (.aload_n 0, 1) := by decide +kernel
theorem dX1_gotBy_15 : decode cX1_gotBy 15 = .ok (.iload 4, 2) := by decide +kernel
theorem dX1_gotBy_17 : decode cX1_gotBy 17 = .ok (.invokevirtual 41, 3) := by decide +kernel
theorem dX1_gotBy_20 : decode cX1_gotBy 20 = .ok (.astore 5, 2) := by decide +kernel
theorem dX1_gotBy_22 : decode cX1_gotBy 22 = .ok (.aload 5, 2) := by decide +kernel
theorem dX1_gotBy_24 : decode cX1_gotBy 24 = .ok (.ifnull 21, 3) := by decide +kernel
theorem dX1_gotBy_27 : decode cX1_gotBy 27 = .ok (.aload 5, 2) := by decide +kernel
theorem dX1_gotBy_29 : decode cX1_gotBy 29 = .ok (.getfield 55, 3) := by decide +kernel
theorem dX1_gotBy_32 : decode cX1_gotBy 32 = .ok (.iload_n 1, 1) := by decide +kernel
theorem dX1_gotBy_33 : decode cX1_gotBy 33 = .ok (.if_icmp .ne 12, 3) := by decide +kernel
theorem dX1_gotBy_36 : decode cX1_gotBy 36 = .ok (.lload_n 2, 1) := by decide +kernel
theorem dX1_gotBy_37 : decode cX1_gotBy 37 = .ok (.aload 5, 2) := by decide +kernel
theorem dX1_gotBy_39 : decode cX1_gotBy 39 = .ok (.invokevirtual 86, 3) := by decide +kernel
theorem dX1_gotBy_42 : decode cX1_gotBy 42 = .ok (.i2l, 1) := by decide +kernel
theorem dX1_gotBy_43 : decode cX1_gotBy 43 = .ok (.ladd, 1) := by decide +kernel
theorem dX1_gotBy_44 : decode cX1_gotBy 44 = .ok (.lstore_n 2, 1) := by decide +kernel
theorem dX1_gotBy_45 : decode cX1_gotBy 45 = .ok (.aload 5, 2) := by decide +kernel
theorem dX1_gotBy_47 : decode cX1_gotBy 47 = .ok (.ifnull 21, 3) := by decide +kernel
theorem dX1_gotBy_50 : decode cX1_gotBy 50 = .ok (.aload 5, 2) := by decide +kernel
theorem dX1_gotBy_52 : decode cX1_gotBy 52 = .ok (.getfield 49, 3) := by decide +kernel
theorem dX1_gotBy_55 : decode cX1_gotBy 55 = .ok (.iload_n 1, 1) := by decide +kernel
theorem dX1_gotBy_56 : decode cX1_gotBy 56 = .ok (.if_icmp .ne 12, 3) := by decide +kernel
theorem dX1_gotBy_59 : decode cX1_gotBy 59 = .ok (.lload_n 2, 1) := by decide +kernel
theorem dX1_gotBy_60 : decode cX1_gotBy 60 = .ok (.aload 5, 2) := by decide +kernel
theorem dX1_gotBy_62 : decode cX1_gotBy 62 = .ok (.invokevirtual 86, 3) := by decide +kernel
theorem dX1_gotBy_65 : decode cX1_gotBy 65 = .ok (.i2l, 1) := by decide +kernel
theorem dX1_gotBy_66 : decode cX1_gotBy 66 = .ok (.lsub, 1) := by decide +kernel
theorem dX1_gotBy_67 : decode cX1_gotBy 67 = .ok (.lstore_n 2, 1) := by decide +kernel
theorem dX1_gotBy_68 : decode cX1_gotBy 68 = .ok (.iinc 4 1, 3) := by decide +kernel
theorem dX1_gotBy_71 : decode cX1_gotBy 71 = .ok (.goto (-66), 3) := by decide +kernel
theorem dX1_gotBy_74 : decode cX1_gotBy 74 = .ok (.lload_n 2, 1) := by decide +kernel
theorem dX1_gotBy_75 : decode cX1_gotBy 75 = .ok (.lreturn, 1) := by decide +kernel
theorem dX2_init_0 : decode cX2_init 0 = .ok (.aload_n 0, 1) := by decide +kernel
theorem dX2_init_1 : decode cX2_init 1 = .ok (.invokespecial 3, 3) := by decide +kernel
theorem dX2_init_4 : decode cX2_init 4 = .ok (.aload_n 0, 1) := by decide +kernel
theorem dX2_init_5 : decode cX2_init 5 = .ok (.iconst 0, 1) := by decide +kernel
theorem dX2_init_6 : decode cX2_init 6 = .ok (.putfield 9, 3) := by decide +kernel
theorem dX2_init_9 : decode cX2_init 9 = .ok (.aload_n 0, 1) := by decide +kernel
theorem dX2_init_10 : decode cX2_init 10 = .ok (.iconst (-1), 1) := by decide +kernel
theorem dX2_init_11 : decode cX2_init 11 = .ok (.putfield 15, 3) := by decide +kernel
theorem dX2_init_14 : decode cX2_init 14 = .ok (.aload_n 0, 1) := by decide +kernel
theorem dX2_init_15 : decode cX2_init 15 = .ok (.aload_n 1, 1) := by decide +kernel
theorem dX2_init_16 : decode cX2_init 16 = .ok (.getfield 18, 3) := by decide +kernel
theorem dX2_init_19 : decode cX2_init 19 = .ok (.putfield 23, 3) := by decide +kernel
theorem dX2_init_22 : decode cX2_init 22 = .ok (.aload_n 0, 1) := by decide +kernel
theorem dX2_init_23 : decode cX2_init 23 = .ok (.aload_n 1, 1) := by decide +kernel
theorem dX2_init_24 : decode cX2_init 24 = .ok (.getfield 24, 3) := by decide +kernel
theorem dX2_init_27 : decode cX2_init 27 = .ok (.putfield 27, 3) := by decide +kernel
theorem dX2_init_30 : decode cX2_init 30 = .ok (.aload_n 0, 1) := by decide +kernel
theorem dX2_init_31 : decode cX2_init 31 = .ok (.aload_n 1, 1) := by decide +kernel
theorem dX2_init_32 : decode cX2_init 32 = .ok (.getfield 28, 3) := by decide +kernel
theorem dX2_init_35 : decode cX2_init 35 = .ok (.putfield 31, 3) := by decide +kernel
theorem dX2_init_38 : decode cX2_init 38 = .ok (.aload_n 0, 1) := by decide +kernel
theorem dX2_init_39 : decode cX2_init 39 = .ok (.aload_n 1, 1) := by decide +kernel
theorem dX2_init_40 : decode cX2_init 40 = .ok (.getfield 32, 3) := by decide +kernel
theorem dX2_init_43 : decode cX2_init 43 = .ok (.putfield 35, 3) := by decide +kernel
theorem dX2_init_46 : decode cX2_init 46 = .ok (.aload_n 0, 1) := by decide +kernel
theorem dX2_init_47 : decode cX2_init 47 = .ok (.iload_n 2, 1) := by decide +kernel
theorem dX2_init_48 : decode cX2_init 48 = .ok (.putfield 36, 3) := by decide +kernel
theorem dX2_init_51 : decode cX2_init 51 = .ok (.return_, 1) := by decide +kernel
theorem dX3_init_0 : decode cX3_init 0 = .ok (.aload_n 0, 1) := by decide +kernel
theorem dX3_init_1 : decode cX3_init 1 = .ok (.invokespecial 1, 3) := by decide +kernel
theorem dX3_init_4 : decode cX3_init 4 = .ok (.aload_n 0, 1) := by decide +kernel
theorem dX3_init_5 : decode cX3_init 5 = .ok (.iload_n 1, 1) := by decide +kernel
theorem dX3_init_6 : decode cX3_init 6 = .ok (.putfield 7, 3) := by decide +kernel
theorem dX3_init_9 : decode cX3_init 9 = .ok (.aload_n 0, 1) := by decide +kernel
theorem dX3_init_10 : decode cX3_init 10 = .ok (.iload_n 2, 1) := by decide +kernel
theorem dX3_init_11 : decode cX3_init 11 = .ok (.putfield 13, 3) := by decide +kernel
theorem dX3_init_14 : decode cX3_init 14 = .ok (.aload_n 0, 1) := by decide +kernel
theorem dX3_init_15 : decode cX3_init 15 = .ok (.iload_n 3, 1) := by decide +kernel
theorem dX3_init_16 : decode cX3_init 16 = .ok (.putfield 16, 3) := by decide +kernel
theorem dX3_init_19 : decode cX3_init 19 = .ok (.aload_n 0, 1) := by decide +kernel
theorem dX3_init_20 : decode cX3_init 20 = .ok (.iload 4, 2) := by decide +kernel
theorem dX3_init_22 : decode cX3_init 22 = .ok (.putfield 19, 3) := by decide +kernel
theorem dX3_init_25 : decode cX3_init 25 = .ok (.aload_n 0, 1) := by decide +kernel
theorem dX3_init_26 : decode cX3_init 26 = .ok (.iload 5, 2) := by decide +kernel
theorem dX3_init_28 : decode cX3_init 28 = .ok (.putfield 22, 3) := by decide +kernel
theorem dX3_init_31 : decode cX3_init 31 = .ok (.aload_n 0, 1) := by decide +kernel
theorem dX3_init_32 : decode cX3_init 32 = .ok (.iload 6, 2) := by decide +kernel
theorem dX3_init_34 : decode cX3_init 34 = .ok (.putfield 25, 3) := by decide +kernel
theorem dX3_init_37 : decode cX3_init 37 = .ok (.return_, 1) := by decide +kernel
theorem dX3_isFor_0 : decode cX3_isFor 0 = .ok (.aload_n 0, 1) := by decide +kernel
theorem dX3_isFor_1 : decode cX3_isFor 1 = .ok (.getfield 7, 3) := by decide +kernel
theorem dX3_isFor_4 : decode cX3_isFor 4 = .ok (.iload_n 1, 1) := by decide +kernel
theorem dX3_isFor_5 : decode cX3_isFor 5 = .ok (.if_icmp .ne 38, 3) := by decide +kernel
theorem dX3_isFor_8 : decode cX3_isFor 8 = .ok (.aload_n 0, 1) := by decide +kernel
theorem dX3_isFor_9 : decode cX3_isFor 9 = .ok (.getfield 13, 3) := by decide +kernel
theorem dX3_isFor_12 : decode cX3_isFor 12 = .ok (.iload_n 2, 1) := by decide +kernel
theorem dX3_isFor_13 : decode cX3_isFor 13 = .ok (.if_icmp .ne 30, 3) := by decide +kernel
theorem dX3_isFor_16 : decode cX3_isFor 16 = .ok (.aload_n 0, 1) := by decide +kernel
theorem dX3_isFor_17 : decode cX3_isFor 17 = .ok (.getfield 28, 3) := by decide +kernel
theorem dX3_isFor_20 : decode cX3_isFor 20 = .ok (.ifCond .ne 23, 3) := by decide +kernel
theorem dX3_isFor_23 : decode cX3_isFor 23 = .ok (.aload_n 0, 1) := by decide +kernel
theorem dX3_isFor_24 : decode cX3_isFor 24 = .ok (.getfield 19, 3) := by decide +kernel
theorem dX3_isFor_27 : decode cX3_isFor 27 = .ok (.iload_n 3, 1) := by decide +kernel
theorem dX3_isFor_28 : decode cX3_isFor 28 = .ok (.if_icmp .gt 15, 3) := by decide +kernel
theorem dX3_isFor_31 : decode cX3_isFor 31 = .ok (.iload_n 3, 1) := by decide +kernel
theorem dX3_isFor_32 : decode cX3_isFor 32 = .ok (.aload_n 0, 1) := by decide +kernel
theorem dX3_isFor_33 : decode cX3_isFor 33 = .ok (.getfield 22, 3) := by decide +kernel
theorem dX3_isFor_36 : decode cX3_isFor 36 = .ok (.if_icmp .gt 7, 3) := by decide +kernel
theorem dX3_isFor_39 : decode cX3_isFor 39 = .ok (.iconst 1, 1) := by decide +kernel
theorem dX3_isFor_40 : decode cX3_isFor 40 = .ok (.goto 4, 3) := by decide +kernel
theorem dX3_isFor_43 : decode cX3_isFor 43 = .ok (.iconst 0, 1) := by decide +kernel
theorem dX3_isFor_44 : decode cX3_isFor 44 = .ok (.ireturn, 1) := by decide +kernel
theorem dX4_init_0 : decode cX4_init 0 = .ok (.aload_n 0, 1) := by decide +kernel
theorem dX4_init_1 : decode cX4_init 1 = .ok (.invokespecial 3, 3) := by decide +kernel
theorem dX4_init_4 : decode cX4_init 4 = .ok (.aload_n 0, 1) := by decide +kernel
theorem dX4_init_5 : decode cX4_init 5 = .ok (.bipush 8, 2) := by decide +kernel
theorem dX4_init_7 : decode cX4_init 7 = .ok (.anewarray 9, 3) := by decide +kernel
theorem dX4_init_10 : decode cX4_init 10 = .ok (.putfield 11, 3) := by decide +kernel
theorem dX4_init_13 : decode cX4_init 13 = .ok (.iconst 0, 1) := by decide +kernel
theorem dX4_init_14 : decode cX4_init 14 = .ok (.istore_n 1, 1) := by decide +kernel
theorem dX4_init_15 : decode cX4_init 15 = .ok (.iload_n 1, 1) := by decide +kernel
theorem dX4_init_16 : decode cX4_init 16 = .ok (.bipush 8, 2) := by decide +kernel
theorem dX4_init_18 : decode cX4_init 18 = .ok (.if_icmp .ge 22, 3) := by decide +kernel
theorem dX4_init_21 : decode cX4_init 21 = .ok (.aload_n 0, 1) := by decide +kernel
theorem dX4_init_22 : decode cX4_init 22 = .ok (.getfield 11, 3) := by decide +kernel
theorem dX4_init_25 : decode cX4_init 25 = .ok (.iload_n 1, 1) := by decide +kernel
theorem dX4_init_26 : decode cX4_init 26 = .ok (.new 9, 3) := by decide +kernel
theorem dX4_init_29 : decode cX4_init 29 = .ok (.dup, 1) := by decide +kernel
theorem dX4_init_30 : decode cX4_init 30 = .ok (.invokespecial 17, 3) := by decide +kernel
theorem dX4_init_33 : decode cX4_init 33 = .ok (.aastore, 1) := by decide +kernel
theorem dX4_init_34 : decode cX4_init 34 = .ok (.iinc 1 1, 3) := by decide +kernel
theorem dX4_init_37 : decode cX4_init 37 = .ok (.goto (-22), 3) := by decide +kernel
theorem dX4_init_40 : decode cX4_init 40 = .ok (.return_, 1) := by decide +kernel
theorem dX4_legAt_0 : decode cX4_legAt 0 = .ok (.iload_n 1, 1) := by decide +kernel
theorem dX4_legAt_1 : decode cX4_legAt 1 = .ok (.ifCond .lt 26, 3) := by decide +kernel
theorem dX4_legAt_4 : decode cX4_legAt 4 = .ok (.iload_n 1, 1) := by decide +kernel
theorem dX4_legAt_5 : decode cX4_legAt 5 = .ok (.aload_n 0, 1) := by decide +kernel
theorem dX4_legAt_6 : decode cX4_legAt 6 = .ok (.getfield 18, 3) := by decide +kernel
theorem dX4_legAt_9 : decode cX4_legAt 9 = .ok (.if_icmp .ge 18, 3) := by decide +kernel
theorem dX4_legAt_12 : decode cX4_legAt 12 = .ok (.iload_n 1, 1) := by decide +kernel
theorem dX4_legAt_13 : decode cX4_legAt 13 = .ok (.bipush 8, 2) := by decide +kernel
theorem dX4_legAt_15 : decode cX4_legAt 15 = .ok (.if_icmp .ge 12, 3) := by decide +kernel
theorem dX4_legAt_18 : decode cX4_legAt 18 = .ok (.aload_n 0, 1) := by decide +kernel
theorem dX4_legAt_19 : decode cX4_legAt 19 = .ok (.getfield 11, 3) := by decide +kernel
theorem dX4_legAt_22 : decode cX4_legAt 22 = .ok (.iload_n 1, 1) := by decide +kernel
theorem dX4_legAt_23 : decode cX4_legAt 23 = .ok (.aaload, 1) := by decide +kernel
theorem dX4_legAt_24 : decode cX4_legAt 24 = .ok (.goto 4, 3) := by decide +kernel
theorem dX4_legAt_27 : decode cX4_legAt 27 = .ok (.aconst_null, 1) := by decide +kernel
theorem dX4_legAt_28 : decode cX4_legAt 28 = .ok (.areturn, 1) := by decide +kernel
theorem dX4_goesOn_0 : decode cX4_goesOn 0 = .ok (.aload_n 0, 1) := by decide +kernel
theorem dX4_goesOn_1 : decode cX4_goesOn 1 = .ok (.aload_n 0, 1) := by decide +kernel
theorem dX4_goesOn_2 : decode cX4_goesOn 2 = .ok (.getfield 18, 3) := by decide +kernel
theorem dX4_goesOn_5 : decode cX4_goesOn 5 = .ok (.iconst 1, 1) := by decide +kernel
theorem dX4_goesOn_6 : decode cX4_goesOn 6 = .ok (.isub, 1) := by decide +kernel
theorem dX4_goesOn_7 : decode cX4_goesOn 7 = .ok (.invokevirtual 22, 3) := by decide +kernel
theorem dX4_goesOn_10 : decode cX4_goesOn 10 = .ok (.astore_n 3, 1) := by decide +kernel
theorem dX4_goesOn_11 : decode cX4_goesOn 11 = .ok (.aload_n 0, 1) := by decide +kernel
theorem dX4_goesOn_12 : decode cX4_goesOn 12 = .ok (.getfield 18, 3) := by decide +kernel
theorem dX4_goesOn_15 : decode cX4_goesOn 15 = .ok (.bipush 8, 2) := by decide +kernel
theorem dX4_goesOn_17 : decode cX4_goesOn 17 = .ok (.if_icmp .ge 27, 3) := by decide +kernel
theorem dX4_goesOn_20 : decode cX4_goesOn 20 = .ok (.aload_n 3, 1) := by decide +kernel
theorem dX4_goesOn_21 : decode cX4_goesOn 21 = .ok (.ifnull 19, 3) := by decide +kernel
theorem dX4_goesOn_24 : decode cX4_goesOn 24 = .ok (.aload_n 3, 1) := by decide +kernel
theorem dX4_goesOn_25 : decode cX4_goesOn 25 = .ok (.getfield 26, 3) := by decide +kernel
theorem dX4_goesOn_28 : decode cX4_goesOn 28 = .ok (.iload_n 1, 1) := by decide +kernel
theorem dX4_goesOn_29 : decode cX4_goesOn 29 = .ok (.if_icmp .ne 15, 3) := by decide +kernel
theorem dX4_goesOn_32 : decode cX4_goesOn 32 = .ok (.aload_n 3, 1) := by decide +kernel
theorem dX4_goesOn_33 : decode cX4_goesOn 33 = .ok (.getfield 29, 3) := by decide +kernel
theorem dX4_goesOn_36 : decode cX4_goesOn 36 = .ok (.iload_n 2, 1) := by decide +kernel
theorem dX4_goesOn_37 : decode cX4_goesOn 37 = .ok (.if_icmp .gt 7, 3) := by decide +kernel
theorem dX4_goesOn_40 : decode cX4_goesOn 40 = .ok (.iconst 1, 1) := by decide +kernel
theorem dX4_goesOn_41 : decode cX4_goesOn 41 = .ok (.goto 4, 3) := by decide +kernel
theorem dX4_goesOn_44 : decode cX4_goesOn 44 = .ok (.iconst 0, 1) := by decide +kernel
theorem dX4_goesOn_45 : decode cX4_goesOn 45 = .ok (.ireturn, 1) := by decide +kernel
theorem dX4_add_0 : decode cX4_add 0 = .ok (.aload_n 0, 1) := by decide +kernel
theorem dX4_add_1 : decode cX4_add 1 = .ok (.getfield 18, 3) := by decide +kernel
theorem dX4_add_4 : decode cX4_add 4 = .ok (.bipush 8, 2) := by decide +kernel
theorem dX4_add_6 : decode cX4_add 6 = .ok (.if_icmp .ge 15, 3) := by decide +kernel
theorem dX4_add_9 : decode cX4_add 9 = .ok (.aload_n 0, 1) := by decide +kernel
theorem dX4_add_10 : decode cX4_add 10 = .ok (.getfield 11, 3) := by decide +kernel
theorem dX4_add_13 : decode cX4_add 13 = .ok (.aload_n 0, 1) := by decide +kernel
theorem dX4_add_14 : decode cX4_add 14 = .ok (.getfield 18, 3) := by decide +kernel
theorem dX4_add_17 : decode cX4_add 17 = .ok (.aaload, 1) := by decide +kernel
theorem dX4_add_18 : decode cX4_add 18 = .ok (.goto 4, 3) := by decide +kernel
theorem dX4_add_21 : decode cX4_add 21 = .ok (.aconst_null, 1) := by decide +kernel
theorem dX4_add_22 : decode cX4_add 22 = .ok (.astore 5, 2) := by decide +kernel
theorem dX4_add_24 : decode cX4_add 24 = .ok (.aload 5, 2) := by decide +kernel
theorem dX4_add_26 : decode cX4_add 26 = .ok (.ifnull 38, 3) := by decide +kernel
theorem dX4_add_29 : decode cX4_add 29 = .ok (.aload 5, 2) := by decide +kernel
theorem dX4_add_31 : decode cX4_add 31 = .ok (.iload_n 1, 1) := by decide +kernel
theorem dX4_add_32 : decode cX4_add 32 = .ok (.putfield 32, 3) := by decide +kernel
theorem dX4_add_35 : decode cX4_add 35 = .ok (.aload 5, 2) := by decide +kernel
theorem dX4_add_37 : decode cX4_add 37 = .ok (.iload_n 2, 1) := by decide +kernel
theorem dX4_add_38 : decode cX4_add 38 = .ok (.putfield 26, 3) := by decide +kernel
theorem dX4_add_41 : decode cX4_add 41 = .ok (.aload 5, 2) := by decide +kernel
theorem dX4_add_43 : decode cX4_add 43 = .ok (.iload_n 3, 1) := by decide +kernel
theorem dX4_add_44 : decode cX4_add 44 = .ok (.putfield 35, 3) := by decide +kernel
theorem dX4_add_47 : decode cX4_add 47 = .ok (.aload 5, 2) := by decide +kernel
theorem dX4_add_49 : decode cX4_add 49 = .ok (.iload 4, 2) := by decide +kernel
theorem dX4_add_51 : decode cX4_add 51 = .ok (.putfield 29, 3) := by decide +kernel
theorem dX4_add_54 : decode cX4_add 54 = .ok (.aload_n 0, 1) := by decide +kernel
theorem dX4_add_55 : decode cX4_add 55 = .ok (.dup, 1) := by decide +kernel
theorem dX4_add_56 : decode cX4_add 56 = .ok (.getfield 18, 3) := by decide +kernel
theorem dX4_add_59 : decode cX4_add 59 = .ok (.iconst 1, 1) := by decide +kernel
theorem dX4_add_60 : decode cX4_add 60 = .ok (.iadd, 1) := by decide +kernel
theorem dX4_add_61 : decode cX4_add 61 = .ok (.putfield 18, 3) := by decide +kernel
theorem dX4_add_64 : decode cX4_add 64 = .ok (.aload_n 0, 1) := by decide +kernel
theorem dX4_add_65 : decode cX4_add 65 = .ok (.getfield 18, 3) := by decide +kernel
theorem dX4_add_68 : decode cX4_add 68 = .ok (.ireturn, 1) := by decide +kernel
theorem dX4_beginAnew_0 : decode cX4_beginAnew 0 = .ok (.aload_n 0, 1) := by decide +kernel
theorem dX4_beginAnew_1 : decode cX4_beginAnew 1 = .ok (.getfield 18, 3) := by decide +kernel
theorem dX4_beginAnew_4 : decode cX4_beginAnew 4 = .ok (.istore_n 1, 1) := by decide +kernel
theorem dX4_beginAnew_5 : decode cX4_beginAnew 5 = .ok (.aload_n 0, 1) := by decide +kernel
theorem dX4_beginAnew_6 : decode cX4_beginAnew 6 = .ok (.iconst 0, 1) := by decide +kernel
theorem dX4_beginAnew_7 : decode cX4_beginAnew 7 = .ok (.putfield 18, 3) := by decide +kernel
theorem dX4_beginAnew_10 : decode cX4_beginAnew 10 = .ok (.iload_n 1, 1) := by decide +kernel
theorem dX4_beginAnew_11 : decode cX4_beginAnew 11 = .ok (.ireturn, 1) := by decide +kernel
theorem dX4_hasLegBefore_0 : decode cX4_hasLegBefore 0 = .ok (.aload_n 0, 1) := by decide +kernel
theorem dX4_hasLegBefore_1 : decode cX4_hasLegBefore 1 = .ok (.iconst 0, 1) := by decide +kernel
theorem dX4_hasLegBefore_2 : decode cX4_hasLegBefore 2 = .ok (.invokevirtual 22, 3) := by decide +kernel
theorem dX4_hasLegBefore_5 : decode cX4_hasLegBefore 5 = .ok (.astore_n 2, 1) := by decide +kernel
theorem dX4_hasLegBefore_6 : decode cX4_hasLegBefore 6 = .ok (.aload_n 2, 1) := by decide +kernel
theorem dX4_hasLegBefore_7 : decode cX4_hasLegBefore 7 = .ok (.ifnull 15, 3) := by decide +kernel
theorem dX4_hasLegBefore_10 : decode cX4_hasLegBefore 10 = .ok (.aload_n 2, 1) := by decide +kernel
theorem dX4_hasLegBefore_11 : decode cX4_hasLegBefore 11 = .ok (.getfield 29, 3) := by decide +kernel
theorem dX4_hasLegBefore_14 : decode cX4_hasLegBefore 14 = .ok (.iload_n 1, 1) := by decide +kernel
theorem dX4_hasLegBefore_15 : decode cX4_hasLegBefore 15 = .ok (.if_icmp .ge 7, 3) := by decide +kernel
theorem dX4_hasLegBefore_18 : decode cX4_hasLegBefore 18 = .ok (.iconst 1, 1) := by decide +kernel
theorem dX4_hasLegBefore_19 : decode cX4_hasLegBefore 19 = .ok (.goto 4, 3) := by decide +kernel
theorem dX4_hasLegBefore_22 : decode cX4_hasLegBefore 22 = .ok (.iconst 0, 1) := by decide +kernel
theorem dX4_hasLegBefore_23 : decode cX4_hasLegBefore 23 = .ok (.ireturn, 1) := by decide +kernel
theorem dX4_isPoint_0 : decode cX4_isPoint 0 = .ok (.aload_n 0, 1) := by decide +kernel
theorem dX4_isPoint_1 : decode cX4_isPoint 1 = .ok (.getfield 18, 3) := by decide +kernel
theorem dX4_isPoint_4 : decode cX4_isPoint 4 = .ok (.ifCond .le 19, 3) := by decide +kernel
theorem dX4_isPoint_7 : decode cX4_isPoint 7 = .ok (.iload_n 1, 1) := by decide +kernel
theorem dX4_isPoint_8 : decode cX4_isPoint 8 = .ok (.iconst 0, 1) := by decide +kernel
theorem dX4_isPoint_9 : decode cX4_isPoint 9 = .ok (.aload_n 0, 1) := by decide +kernel
theorem dX4_isPoint_10 : decode cX4_isPoint 10 = .ok (.getfield 18, 3) := by decide +kernel
theorem dX4_isPoint_13 : decode cX4_isPoint 13 = .ok (.invokestatic 38, 3) := by decide +kernel
theorem dX4_isPoint_16 : decode cX4_isPoint 16 = .ok (.ifCond .eq 7, 3) := by decide +kernel
theorem dX4_isPoint_19 : decode cX4_isPoint 19 = .ok (.iconst 1, 1) := by decide +kernel
theorem dX4_isPoint_20 : decode cX4_isPoint 20 = .ok (.goto 4, 3) := by decide +kernel
theorem dX4_isPoint_23 : decode cX4_isPoint 23 = .ok (.iconst 0, 1) := by decide +kernel
theorem dX4_isPoint_24 : decode cX4_isPoint 24 = .ok (.ireturn, 1) := by decide +kernel
theorem dX4_placeAt_0 : decode cX4_placeAt 0 = .ok (.aload_n 0, 1) := by decide +kernel
theorem dX4_placeAt_1 : decode cX4_placeAt 1 = .ok (.iload_n 1, 1) := by decide +kernel
theorem dX4_placeAt_2 : decode cX4_placeAt 2 = .ok (.ifCond .ne 7, 3) := by decide +kernel
theorem dX4_placeAt_5 : decode cX4_placeAt 5 = .ok (.iconst 0, 1) := by decide +kernel
theorem dX4_placeAt_6 : decode cX4_placeAt 6 = .ok (.goto 6, 3) := by decide +kernel
theorem dX4_placeAt_9 : decode cX4_placeAt 9 = .ok (.iload_n 1, 1) := by decide +kernel
theorem dX4_placeAt_10 : decode cX4_placeAt 10 = .ok (.iconst 1, 1) := by decide +kernel
theorem dX4_placeAt_11 : decode cX4_placeAt 11 = .ok (.isub, 1) := by decide +kernel
theorem dX4_placeAt_12 : decode cX4_placeAt 12 = .ok (.invokevirtual 22, 3) := by decide +kernel
theorem dX4_placeAt_15 : decode cX4_placeAt 15 = .ok (.astore_n 2, 1) := by decide +kernel
theorem dX4_placeAt_16 : decode cX4_placeAt 16 = .ok (.aload_n 2, 1) := by decide +kernel
theorem dX4_placeAt_17 : decode cX4_placeAt 17 = .ok (.ifnonnull 5, 3) := by decide +kernel
theorem dX4_placeAt_20 : decode cX4_placeAt 20 = .ok (.iconst (-1), 1) := by decide +kernel
theorem dX4_placeAt_21 : decode cX4_placeAt 21 = .ok (.ireturn, 1) := by decide +kernel
theorem dX4_placeAt_22 : decode cX4_placeAt 22 = .ok (.iload_n 1, 1) := by decide +kernel
theorem dX4_placeAt_23 : decode cX4_placeAt 23 = .ok (.ifCond .ne 10, 3) := by decide +kernel
theorem dX4_placeAt_26 : decode cX4_placeAt 26 = .ok (.aload_n 2, 1) := by decide +kernel
theorem dX4_placeAt_27 : decode cX4_placeAt 27 = .ok (.getfield 32, 3) := by decide +kernel
theorem dX4_placeAt_30 : decode cX4_placeAt 30 = .ok (.goto 7, 3) := by decide +kernel
theorem dX4_placeAt_33 : decode cX4_placeAt 33 = .ok (.aload_n 2, 1) := by decide +kernel
theorem dX4_placeAt_34 : decode cX4_placeAt 34 = .ok (.getfield 26, 3) := by decide +kernel
theorem dX4_placeAt_37 : decode cX4_placeAt 37 = .ok (.ireturn, 1) := by decide +kernel
theorem dX4_isStop_0 : decode cX4_isStop 0 = .ok (.aload_n 0, 1) := by decide +kernel
theorem dX4_isStop_1 : decode cX4_isStop 1 = .ok (.iload_n 1, 1) := by decide +kernel
theorem dX4_isStop_2 : decode cX4_isStop 2 = .ok (.iconst 1, 1) := by decide +kernel
theorem dX4_isStop_3 : decode cX4_isStop 3 = .ok (.isub, 1) := by decide +kernel
theorem dX4_isStop_4 : decode cX4_isStop 4 = .ok (.invokevirtual 22, 3) := by decide +kernel
theorem dX4_isStop_7 : decode cX4_isStop 7 = .ok (.astore_n 2, 1) := by decide +kernel
theorem dX4_isStop_8 : decode cX4_isStop 8 = .ok (.aload_n 0, 1) := by decide +kernel
theorem dX4_isStop_9 : decode cX4_isStop 9 = .ok (.iload_n 1, 1) := by decide +kernel
theorem dX4_isStop_10 : decode cX4_isStop 10 = .ok (.invokevirtual 22, 3) := by decide +kernel
theorem dX4_isStop_13 : decode cX4_isStop 13 = .ok (.astore_n 3, 1) := by decide +kernel
theorem dX4_isStop_14 : decode cX4_isStop 14 = .ok (.aload_n 2, 1) := by decide +kernel
theorem dX4_isStop_15 : decode cX4_isStop 15 = .ok (.ifnull 22, 3) := by decide +kernel
theorem dX4_isStop_18 : decode cX4_isStop 18 = .ok (.aload_n 3, 1) := by decide +kernel
theorem dX4_isStop_19 : decode cX4_isStop 19 = .ok (.ifnull 18, 3) := by decide +kernel
theorem dX4_isStop_22 : decode cX4_isStop 22 = .ok (.aload_n 3, 1) := by decide +kernel
theorem dX4_isStop_23 : decode cX4_isStop 23 = .ok (.getfield 29, 3) := by decide +kernel
theorem dX4_isStop_26 : decode cX4_isStop 26 = .ok (.aload_n 2, 1) := by decide +kernel
theorem dX4_isStop_27 : decode cX4_isStop 27 = .ok (.getfield 29, 3) := by decide +kernel
theorem dX4_isStop_30 : decode cX4_isStop 30 = .ok (.if_icmp .le 7, 3) := by decide +kernel
theorem dX4_isStop_33 : decode cX4_isStop 33 = .ok (.iconst 1, 1) := by decide +kernel
theorem dX4_isStop_34 : decode cX4_isStop 34 = .ok (.goto 4, 3) := by decide +kernel
theorem dX4_isStop_37 : decode cX4_isStop 37 = .ok (.iconst 0, 1) := by decide +kernel
theorem dX4_isStop_38 : decode cX4_isStop 38 = .ok (.ireturn, 1) := by decide +kernel
theorem dX4_priceOfPart_0 : decode cX4_priceOfPart 0 = .ok (.aload_n 0, 1) := by decide +kernel
theorem dX4_priceOfPart_1 : decode cX4_priceOfPart 1 = .ok (.iload_n 2, 1) := by decide +kernel
theorem dX4_priceOfPart_2 : decode cX4_priceOfPart 2 = .ok (.invokevirtual 42, 3) := by decide +kernel
theorem dX4_priceOfPart_5 : decode cX4_priceOfPart 5 = .ok (.istore 4, 2) := by decide +kernel
theorem dX4_priceOfPart_7 : decode cX4_priceOfPart 7 = .ok (.aload_n 0, 1) := by decide +kernel
theorem dX4_priceOfPart_8 : decode cX4_priceOfPart 8 = .ok (.iload_n 3, 1) := by decide +kernel
theorem dX4_priceOfPart_9 : decode cX4_priceOfPart 9 = .ok (.invokevirtual 42, 3) := by decide +kernel
theorem dX4_priceOfPart_12 : decode cX4_priceOfPart 12 = .ok (.istore 5, 2) := by decide +kernel
theorem dX4_priceOfPart_14 : decode cX4_priceOfPart 14 = .ok (.aload_n 1, 1) := by decide +kernel
theorem dX4_priceOfPart_15 : decode cX4_priceOfPart 15 = .ok (.iload 4, 2) := by decide +kernel
theorem dX4_priceOfPart_17 : decode cX4_priceOfPart 17 = .ok (.iload 5, 2) := by decide +kernel
theorem dX4_priceOfPart_19 : decode cX4_priceOfPart 19 = .ok (.iconst 0, 1) := by decide +kernel
theorem dX4_priceOfPart_20 : decode cX4_priceOfPart 20 = .ok (.invokevirtual 46, 3) := by decide +kernel
theorem dX4_priceOfPart_23 : decode cX4_priceOfPart 23 = .ok (.iconst (-1), 1) := by decide +kernel
theorem dX4_priceOfPart_24 : decode cX4_priceOfPart 24 = .ok (.if_icmp .ne 5, 3) := by decide +kernel
theorem dX4_priceOfPart_27 : decode cX4_priceOfPart 27 = .ok (.iconst (-1), 1) := by decide +kernel
theorem dX4_priceOfPart_28 : decode cX4_priceOfPart 28 = .ok (.ireturn, 1) := by decide +kernel
theorem dX4_priceOfPart_29 : decode cX4_priceOfPart 29 = .ok (.aload_n 1, 1) := by decide +kernel
theorem dX4_priceOfPart_30 : decode cX4_priceOfPart 30 = .ok (.iload 4, 2) := by decide +kernel
theorem dX4_priceOfPart_32 : decode cX4_priceOfPart 32 = .ok (.iload 5, 2) := by decide +kernel
theorem dX4_priceOfPart_34 : decode cX4_priceOfPart 34 = .ok (.aload_n 0, 1) := by decide +kernel
theorem dX4_priceOfPart_35 : decode cX4_priceOfPart 35 = .ok (.iload_n 2, 1) := by decide +kernel
theorem dX4_priceOfPart_36 : decode cX4_priceOfPart 36 = .ok (.iload_n 3, 1) := by decide +kernel
theorem dX4_priceOfPart_37 : decode cX4_priceOfPart 37 = .ok (.invokevirtual 52, 3) := by decide +kernel
theorem dX4_priceOfPart_40 : decode cX4_priceOfPart 40 = .ok (.invokevirtual 46, 3) := by decide +kernel
theorem dX4_priceOfPart_43 : decode cX4_priceOfPart 43 = .ok (.istore 6, 2) := by decide +kernel
theorem dX4_priceOfPart_45 : decode cX4_priceOfPart 45 = .ok (.iload 6, 2) := by decide +kernel
theorem dX4_priceOfPart_47 : decode cX4_priceOfPart 47 = .ok (.iconst (-1), 1) := by decide +kernel
theorem dX4_priceOfPart_48 : decode cX4_priceOfPart 48 = .ok (.if_icmp .ne 6, 3) := by decide +kernel
theorem dX4_priceOfPart_51 : decode cX4_priceOfPart 51 = .ok (.bipush (-2), 2) := by decide +kernel
theorem dX4_priceOfPart_53 : decode cX4_priceOfPart 53 = .ok (.ireturn, 1) := by decide +kernel
theorem dX4_priceOfPart_54 : decode cX4_priceOfPart 54 = .ok (.aload_n 1, 1) := by decide +kernel
theorem dX4_priceOfPart_55 : decode cX4_priceOfPart 55 = .ok (.iload 4, 2) := by decide +kernel
theorem dX4_priceOfPart_57 : decode cX4_priceOfPart 57 = .ok (.iload 5, 2) := by decide +kernel
theorem dX4_priceOfPart_59 : decode cX4_priceOfPart 59 = .ok (.aload_n 0, 1) := by decide +kernel
theorem dX4_priceOfPart_60 : decode cX4_priceOfPart 60 = .ok (.aload_n 1, 1) := by decide +kernel
theorem dX4_priceOfPart_61 : decode cX4_priceOfPart 61 = .ok (.getfield 56, 3) := by decide +kernel
theorem dX4_priceOfPart_64 : decode cX4_priceOfPart 64 = .ok (.iload_n 2, 1) := by decide +kernel
theorem dX4_priceOfPart_65 : decode cX4_priceOfPart 65 = .ok (.iload_n 3, 1) := by decide +kernel
theorem dX4_priceOfPart_66 : decode cX4_priceOfPart 66 = .ok (.invokevirtual 60, 3) := by decide +kernel
theorem dX4_priceOfPart_69 : decode cX4_priceOfPart 69 = .ok (.invokevirtual 64, 3) := by decide +kernel
theorem dX4_priceOfPart_72 : decode cX4_priceOfPart 72 = .ok (.istore 7, 2) := by decide +kernel
theorem dX4_priceOfPart_74 : decode cX4_priceOfPart 74 = .ok (.iload 7, 2) := by decide +kernel
theorem dX4_priceOfPart_76 : decode cX4_priceOfPart 76 = .ok (.iconst (-1), 1) := by decide +kernel
theorem dX4_priceOfPart_77 : decode cX4_priceOfPart 77 = .ok (.if_icmp .ne 6, 3) := by decide +kernel
theorem dX4_priceOfPart_80 : decode cX4_priceOfPart 80 = .ok (.bipush (-3), 2) := by decide +kernel
theorem dX4_priceOfPart_82 : decode cX4_priceOfPart 82 = .ok (.ireturn, 1) := by decide +kernel
theorem dX4_priceOfPart_83 : decode cX4_priceOfPart 83 = .ok (.aload_n 1, 1) := by decide +kernel
theorem dX4_priceOfPart_84 : decode cX4_priceOfPart 84 = .ok (.iload 6, 2) := by decide +kernel
theorem dX4_priceOfPart_86 : decode cX4_priceOfPart 86 = .ok (.aload_n 0, 1) := by decide +kernel
theorem dX4_priceOfPart_87 : decode cX4_priceOfPart 87 = .ok (.aload_n 1, 1) := by decide +kernel
theorem dX4_priceOfPart_88 : decode cX4_priceOfPart 88 = .ok (.iload_n 2, 1) := by decide +kernel
theorem dX4_priceOfPart_89 : decode cX4_priceOfPart 89 = .ok (.iload_n 3, 1) := by decide +kernel
theorem dX4_priceOfPart_90 : decode cX4_priceOfPart 90 = .ok (.invokevirtual 67, 3) := by decide +kernel
theorem dX4_priceOfPart_93 : decode cX4_priceOfPart 93 = .ok (.invokestatic 71, 3) := by decide +kernel
theorem dX4_priceOfPart_96 : decode cX4_priceOfPart 96 = .ok (.iload 7, 2) := by decide +kernel
theorem dX4_priceOfPart_98 : decode cX4_priceOfPart 98 = .ok (.invokevirtual 76, 3) := by decide +kernel
theorem dX4_priceOfPart_101 : decode cX4_priceOfPart 101 = .ok (.ireturn, 1) := by decide +kernel
theorem dX4_stopsBetween_0 : decode cX4_stopsBetween 0 = .ok (.iconst 0, 1) := by decide +kernel
theorem dX4_stopsBetween_1 : decode cX4_stopsBetween 1 = .ok (.istore_n 3, 1) := by decide +kernel
theorem dX4_stopsBetween_2 : decode cX4_stopsBetween 2 = .ok (.iload_n 1, 1) := by decide +kernel
theorem dX4_stopsBetween_3 : decode cX4_stopsBetween 3 = .ok (.iconst 1, 1) := by decide +kernel
theorem dX4_stopsBetween_4 : decode cX4_stopsBetween 4 = .ok (.iadd, 1) := by decide +kernel
theorem dX4_stopsBetween_5 : decode cX4_stopsBetween 5 = .ok (.istore 4, 2) := by decide +kernel
theorem dX4_stopsBetween_7 : decode cX4_stopsBetween 7 = .ok (.iload 4, 2) := by decide +kernel
theorem dX4_stopsBetween_9 : decode cX4_stopsBetween 9 = .ok (.iload_n 2, 1) := by decide +kernel
theorem dX4_stopsBetween_10 : decode cX4_stopsBetween 10 = .ok (.if_icmp .ge 21, 3) := by decide +kernel
theorem dX4_stopsBetween_13 : decode cX4_stopsBetween 13 = .ok (.aload_n 0, 1) := by decide +kernel
theorem dX4_stopsBetween_14 : decode cX4_stopsBetween 14 = .ok (.iload 4, 2) := by decide +kernel
theorem dX4_stopsBetween_16 : decode cX4_stopsBetween 16 = .ok (.invokevirtual 79, 3) := by decide +kernel
theorem dX4_stopsBetween_19 : decode cX4_stopsBetween 19 = .ok (.ifCond .eq 6, 3) := by decide +kernel
theorem dX4_stopsBetween_22 : decode cX4_stopsBetween 22 = .ok (.iinc 3 1, 3) := by decide +kernel
theorem dX4_stopsBetween_25 : decode cX4_stopsBetween 25 = .ok (.iinc 4 1, 3) := by decide +kernel
theorem dX4_stopsBetween_28 : decode cX4_stopsBetween 28 = .ok (.goto (-21), 3) := by decide +kernel
theorem dX4_stopsBetween_31 : decode cX4_stopsBetween 31 = .ok (.iload_n 3, 1) := by decide +kernel
theorem dX4_stopsBetween_32 : decode cX4_stopsBetween 32 = .ok (.ireturn, 1) := by decide +kernel
theorem dX4_milesOfLegs_0 : decode cX4_milesOfLegs 0 = .ok (.iconst 0, 1) := by decide +kernel
theorem dX4_milesOfLegs_1 : decode cX4_milesOfLegs 1 = .ok (.istore 4, 2) := by decide +kernel
theorem dX4_milesOfLegs_3 : decode cX4_milesOfLegs 3 = .ok (.iload_n 2, 1) := by decide +kernel
theorem dX4_milesOfLegs_4 : decode cX4_milesOfLegs 4 = .ok (.istore 5, 2) := by decide +kernel
theorem dX4_milesOfLegs_6 : decode cX4_milesOfLegs 6 = .ok (.iload 5, 2) := by decide +kernel
theorem dX4_milesOfLegs_8 : decode cX4_milesOfLegs 8 = .ok (.iload_n 3, 1) := by decide +kernel
theorem dX4_milesOfLegs_9 : decode cX4_milesOfLegs 9 = .ok (.if_icmp .ge 41, 3) := by decide +kernel
theorem dX4_milesOfLegs_12 : decode cX4_milesOfLegs 12 = .ok (.aload_n 0, 1) := by decide +kernel
theorem dX4_milesOfLegs_13 : decode cX4_milesOfLegs 13 = .ok (.iload 5, 2) := by decide +kernel
theorem dX4_milesOfLegs_15 : decode cX4_milesOfLegs 15 = .ok (.invokevirtual 22, 3) := by decide +kernel
theorem dX4_milesOfLegs_18 : decode cX4_milesOfLegs 18 = .ok (.astore 6, 2) := by decide +kernel
theorem dX4_milesOfLegs_20 : decode cX4_milesOfLegs 20 = .ok (.aload 6, 2) := by decide +kernel
theorem dX4_milesOfLegs_22 : decode cX4_milesOfLegs 22 = .ok (.ifnull 22, 3) := by decide +kernel
theorem dX4_milesOfLegs_25 : decode cX4_milesOfLegs 25 = .ok (.iload 4, 2) := by decide +kernel
theorem dX4_milesOfLegs_27 : decode cX4_milesOfLegs 27 = .ok (.aload_n 1, 1) := by decide +kernel
theorem dX4_milesOfLegs_28 : decode cX4_milesOfLegs 28 = .ok (.aload 6, 2) := by decide +kernel
theorem dX4_milesOfLegs_30 : decode cX4_milesOfLegs 30 = .ok (.getfield 32, 3) := by decide +kernel
theorem dX4_milesOfLegs_33 : decode cX4_milesOfLegs 33 = .ok (.aload 6, 2) := by decide +kernel
theorem dX4_milesOfLegs_35 : decode cX4_milesOfLegs 35 = .ok (.getfield 26, 3) := by decide +kernel
theorem dX4_milesOfLegs_38 : decode cX4_milesOfLegs 38 = .ok (.invokevirtual 83, 3) := by decide +kernel
theorem dX4_milesOfLegs_41 : decode cX4_milesOfLegs 41 = .ok (.iadd, 1) := by decide +kernel
theorem dX4_milesOfLegs_42 : decode cX4_milesOfLegs 42 = .ok (.istore 4, 2) := by decide +kernel
theorem dX4_milesOfLegs_44 : decode cX4_milesOfLegs 44 = .ok (.iinc 5 1, 3) := by decide +kernel
theorem dX4_milesOfLegs_47 : decode cX4_milesOfLegs 47 = .ok (.goto (-41), 3) := by decide +kernel
theorem dX4_milesOfLegs_50 : decode cX4_milesOfLegs 50 = .ok (.iload 4, 2) := by decide +kernel
theorem dX4_milesOfLegs_52 : decode cX4_milesOfLegs 52 = .ok (.ireturn, 1) := by decide +kernel
theorem dX4_highestBetween_0 : decode cX4_highestBetween 0 = .ok (.iconst (-1), 1) := by decide +kernel
theorem dX4_highestBetween_1 : decode cX4_highestBetween 1 = .ok (.istore 4, 2) := by decide +kernel
theorem dX4_highestBetween_3 : decode cX4_highestBetween 3 = .ok (.iload_n 2, 1) := by decide +kernel
theorem dX4_highestBetween_4 : decode cX4_highestBetween 4 = .ok (.iconst 1, 1) := by decide +kernel
theorem dX4_highestBetween_5 : decode cX4_highestBetween 5 = .ok (.iadd, 1) := by decide +kernel
theorem dX4_highestBetween_6 : decode cX4_highestBetween 6 = .ok (.istore 5, 2) := by decide +kernel
theorem dX4_highestBetween_8 : decode cX4_highestBetween 8 = .ok (.iload 5, 2) := by decide +kernel
theorem dX4_highestBetween_10 : decode cX4_highestBetween 10 = .ok (.iload_n 3, 1) := by decide +kernel
theorem dX4_highestBetween_11 : decode cX4_highestBetween 11 = .ok (.if_icmp .ge 32, 3) := by decide +kernel
theorem dX4_highestBetween_14 : decode cX4_highestBetween 14 = .ok (.iload 4, 2) := by decide +kernel
theorem dX4_highestBetween_16 : decode cX4_highestBetween 16 = .ok (.aload_n 1, 1) := by decide +kernel
theorem dX4_highestBetween_17 : decode cX4_highestBetween 17 = .ok (.aload_n 0, 1) := by decide +kernel
theorem dX4_highestBetween_18 : decode cX4_highestBetween 18 = .ok (.iload_n 2, 1) := by decide +kernel
theorem dX4_highestBetween_19 : decode cX4_highestBetween 19 = .ok (.invokevirtual 42, 3) := by decide +kernel
theorem dX4_highestBetween_22 : decode cX4_highestBetween 22 = .ok (.aload_n 0, 1) := by decide +kernel
theorem dX4_highestBetween_23 : decode cX4_highestBetween 23 = .ok (.iload 5, 2) := by decide +kernel
theorem dX4_highestBetween_25 : decode cX4_highestBetween 25 = .ok (.invokevirtual 42, 3) := by decide +kernel
theorem dX4_highestBetween_28 : decode cX4_highestBetween 28 = .ok (.iconst 0, 1) := by decide +kernel
theorem dX4_highestBetween_29 : decode cX4_highestBetween 29 = .ok (.invokevirtual 46, 3) := by decide +kernel
theorem dX4_highestBetween_32 : decode cX4_highestBetween 32 = .ok (.invokestatic 71, 3) := by decide +kernel
theorem dX4_highestBetween_35 : decode cX4_highestBetween 35 = .ok (.istore 4, 2) := by decide +kernel
theorem dX4_highestBetween_37 : decode cX4_highestBetween 37 = .ok (.iinc 5 1, 3) := by decide +kernel
theorem dX4_highestBetween_40 : decode cX4_highestBetween 40 = .ok (.goto (-32), 3) := by decide +kernel
theorem dX4_highestBetween_43 : decode cX4_highestBetween 43 = .ok (.iload 4, 2) := by decide +kernel
theorem dX4_highestBetween_45 : decode cX4_highestBetween 45 = .ok (.ireturn, 1) := by decide +kernel
theorem dX5_init_0 : decode cX5_init 0 = .ok (.aload_n 0, 1) := by decide +kernel
theorem dX5_init_1 : decode cX5_init 1 = .ok (.invokespecial 1, 3) := by decide +kernel
theorem dX5_init_4 : decode cX5_init 4 = .ok (.return_, 1) := by decide +kernel
theorem dX6_init_0 : decode cX6_init 0 = .ok (.aload_n 0, 1) := by decide +kernel
theorem dX6_init_1 : decode cX6_init 1 = .ok (.invokespecial 3, 3) := by decide +kernel
theorem dX6_init_4 : decode cX6_init 4 = .ok (.aload_n 0, 1) := by decide +kernel
theorem dX6_init_5 : decode cX6_init 5 = .ok (.bipush 100, 2) := by decide +kernel
theorem dX6_init_7 : decode cX6_init 7 = .ok (.newarray .int, 2) := by decide +kernel
theorem dX6_init_9 : decode cX6_init 9 = .ok (.putfield 9, 3) := by decide +kernel
theorem dX6_init_12 : decode cX6_init 12 = .ok (.return_, 1) := by decide +kernel
theorem dX6_get_0 : decode cX6_get 0 = .ok (.iload_n 1, 1) := by decide +kernel
theorem dX6_get_1 : decode cX6_get 1 = .ok (.invokestatic 15, 3) := by decide +kernel
theorem dX6_get_4 : decode cX6_get 4 = .ok (.ifCond .eq 24, 3) := by decide +kernel
theorem dX6_get_7 : decode cX6_get 7 = .ok (.iload_n 2, 1) := by decide +kernel
theorem dX6_get_8 : decode cX6_get 8 = .ok (.invokestatic 15, 3) := by decide +kernel
theorem dX6_get_11 : decode cX6_get 11 = .ok (.ifCond .eq 17, 3) := by decide +kernel
theorem dX6_get_14 : decode cX6_get 14 = .ok (.aload_n 0, 1) := by decide +kernel
theorem dX6_get_15 : decode cX6_get 15 = .ok (.getfield 9, 3) := by decide +kernel
theorem dX6_get_18 : decode cX6_get 18 = .ok (.iload_n 1, 1) := by decide +kernel
theorem dX6_get_19 : decode cX6_get 19 = .ok (.bipush 10, 2) := by decide +kernel
theorem dX6_get_21 : decode cX6_get 21 = .ok (.imul, 1) := by decide +kernel
theorem dX6_get_22 : decode cX6_get 22 = .ok (.iload_n 2, 1) := by decide +kernel
theorem dX6_get_23 : decode cX6_get 23 = .ok (.iadd, 1) := by decide +kernel
theorem dX6_get_24 : decode cX6_get 24 = .ok (.iaload, 1) := by decide +kernel
theorem dX6_get_25 : decode cX6_get 25 = .ok (.goto 4, 3) := by decide +kernel
theorem dX6_get_28 : decode cX6_get 28 = .ok (.iconst 0, 1) := by decide +kernel
theorem dX6_get_29 : decode cX6_get 29 = .ok (.ireturn, 1) := by decide +kernel
theorem dX6_put_0 : decode cX6_put 0 = .ok (.aload_n 0, 1) := by decide +kernel
theorem dX6_put_1 : decode cX6_put 1 = .ok (.iload_n 1, 1) := by decide +kernel
theorem dX6_put_2 : decode cX6_put 2 = .ok (.iload_n 2, 1) := by decide +kernel
theorem dX6_put_3 : decode cX6_put 3 = .ok (.invokevirtual 19, 3) := by decide +kernel
theorem dX6_put_6 : decode cX6_put 6 = .ok (.istore 4, 2) := by decide +kernel
theorem dX6_put_8 : decode cX6_put 8 = .ok (.iload_n 1, 1) := by decide +kernel
theorem dX6_put_9 : decode cX6_put 9 = .ok (.invokestatic 15, 3) := by decide +kernel
theorem dX6_put_12 : decode cX6_put 12 = .ok (.ifCond .eq 34, 3) := by decide +kernel
theorem dX6_put_15 : decode cX6_put 15 = .ok (.iload_n 2, 1) := by decide +kernel
theorem dX6_put_16 : decode cX6_put 16 = .ok (.invokestatic 15, 3) := by decide +kernel
theorem dX6_put_19 : decode cX6_put 19 = .ok (.ifCond .eq 27, 3) := by decide +kernel
theorem dX6_put_22 : decode cX6_put 22 = .ok (.aload_n 0, 1) := by decide +kernel
theorem dX6_put_23 : decode cX6_put 23 = .ok (.getfield 9, 3) := by decide +kernel
theorem dX6_put_26 : decode cX6_put 26 = .ok (.iload_n 1, 1) := by decide +kernel
theorem dX6_put_27 : decode cX6_put 27 = .ok (.bipush 10, 2) := by decide +kernel
theorem dX6_put_29 : decode cX6_put 29 = .ok (.imul, 1) := by decide +kernel
theorem dX6_put_30 : decode cX6_put 30 = .ok (.iload_n 2, 1) := by decide +kernel
theorem dX6_put_31 : decode cX6_put 31 = .ok (.iadd, 1) := by decide +kernel
theorem dX6_put_32 : decode cX6_put 32 = .ok (.iload_n 3, 1) := by decide +kernel
theorem dX6_put_33 : decode cX6_put 33 = .ok (.iastore, 1) := by decide +kernel
theorem dX6_put_34 : decode cX6_put 34 = .ok (.aload_n 0, 1) := by decide +kernel
theorem dX6_put_35 : decode cX6_put 35 = .ok (.getfield 9, 3) := by decide +kernel
theorem dX6_put_38 : decode cX6_put 38 = .ok (.iload_n 2, 1) := by decide +kernel
theorem dX6_put_39 : decode cX6_put 39 = .ok (.bipush 10, 2) := by decide +kernel
theorem dX6_put_41 : decode cX6_put 41 = .ok (.imul, 1) := by decide +kernel
theorem dX6_put_42 : decode cX6_put 42 = .ok (.iload_n 1, 1) := by decide +kernel
theorem dX6_put_43 : decode cX6_put 43 = .ok (.iadd, 1) := by decide +kernel
theorem dX6_put_44 : decode cX6_put 44 = .ok (.iload_n 3, 1) := by decide +kernel
theorem dX6_put_45 : decode cX6_put 45 = .ok (.iastore, 1) := by decide +kernel
theorem dX6_put_46 : decode cX6_put 46 = .ok (.iload 4, 2) := by decide +kernel
theorem dX6_put_48 : decode cX6_put 48 = .ok (.ireturn, 1) := by decide +kernel
theorem dX7_init_0 : decode cX7_init 0 = .ok (.aload_n 0, 1) := by decide +kernel
theorem dX7_init_1 : decode cX7_init 1 = .ok (.invokespecial 3, 3) := by decide +kernel
theorem dX7_init_4 : decode cX7_init 4 = .ok (.aload_n 0, 1) := by decide +kernel
theorem dX7_init_5 : decode cX7_init 5 = .ok (.new 9, 3) := by decide +kernel
theorem dX7_init_8 : decode cX7_init 8 = .ok (.dup, 1) := by decide +kernel
theorem dX7_init_9 : decode cX7_init 9 = .ok (.invokespecial 11, 3) := by decide +kernel
theorem dX7_init_12 : decode cX7_init 12 = .ok (.putfield 12, 3) := by decide +kernel
theorem dX7_init_15 : decode cX7_init 15 = .ok (.aload_n 0, 1) := by decide +kernel
theorem dX7_init_16 : decode cX7_init 16 = .ok (.sipush 500, 3) := by decide +kernel
theorem dX7_init_19 : decode cX7_init 19 = .ok (.newarray .int, 2) := by decide +kernel
theorem dX7_init_21 : decode cX7_init 21 = .ok (.putfield 18, 3) := by decide +kernel
theorem dX7_init_24 : decode cX7_init 24 = .ok (.iconst 0, 1) := by decide +kernel
theorem dX7_init_25 : decode cX7_init 25 = .ok (.istore_n 1, 1) := by decide +kernel
theorem dX7_init_26 : decode cX7_init 26 = .ok (.iload_n 1, 1) := by decide +kernel
theorem dX7_init_27 : decode cX7_init 27 = .ok (.aload_n 0, 1) := by decide +kernel
theorem dX7_init_28 : decode cX7_init 28 = .ok (.getfield 18, 3) := by decide +kernel
theorem dX7_init_31 : decode cX7_init 31 = .ok (.arraylength, 1) := by decide +kernel
theorem dX7_init_32 : decode cX7_init 32 = .ok (.if_icmp .ge 16, 3) := by decide +kernel
theorem dX7_init_35 : decode cX7_init 35 = .ok (.aload_n 0, 1) := by decide +kernel
theorem dX7_init_36 : decode cX7_init 36 = .ok (.getfield 18, 3) := by decide +kernel
theorem dX7_init_39 : decode cX7_init 39 = .ok (.iload_n 1, 1) := by decide +kernel
theorem dX7_init_40 : decode cX7_init 40 = .ok (.iconst (-1), 1) := by decide +kernel
theorem dX7_init_41 : decode cX7_init 41 = .ok (.iastore, 1) := by decide +kernel
theorem dX7_init_42 : decode cX7_init 42 = .ok (.iinc 1 1, 3) := by decide +kernel
theorem dX7_init_45 : decode cX7_init 45 = .ok (.goto (-19), 3) := by decide +kernel
theorem dX7_init_48 : decode cX7_init 48 = .ok (.return_, 1) := by decide +kernel
theorem dX7_putProviso_0 : decode cX7_putProviso 0 = .ok (.aload_n 0, 1) := by decide +kernel
theorem dX7_putProviso_1 : decode cX7_putProviso 1 = .ok (.iload_n 1, 1) := by decide +kernel
theorem dX7_putProviso_2 : decode cX7_putProviso 2 = .ok (.iload_n 2, 1) := by decide +kernel
theorem dX7_putProviso_3 : decode cX7_putProviso 3 = .ok (.iload_n 3, 1) := by decide +kernel
theorem dX7_putProviso_4 : decode cX7_putProviso 4 = .ok (.invokevirtual 22, 3) := by decide +kernel
theorem dX7_putProviso_7 : decode cX7_putProviso 7 = .ok (.istore 5, 2) := by decide +kernel
theorem dX7_putProviso_9 : decode cX7_putProviso 9 = .ok (.iload_n 1, 1) := by decide +kernel
theorem dX7_putProviso_10 : decode cX7_putProviso 10 = .ok (.invokestatic 26, 3) := by decide +kernel
theorem dX7_putProviso_13 : decode cX7_putProviso 13 = .ok (.ifCond .eq 35, 3) := by decide +kernel
theorem dX7_putProviso_16 : decode cX7_putProviso 16 = .ok (.iload_n 2, 1) := by decide +kernel
theorem dX7_putProviso_17 : decode cX7_putProviso 17 = .ok (.invokestatic 30, 3) := by decide +kernel
theorem dX7_putProviso_20 : decode cX7_putProviso 20 = .ok (.ifCond .eq 28, 3) := by decide +kernel
theorem dX7_putProviso_23 : decode cX7_putProviso 23 = .ok (.iload_n 3, 1) := by decide +kernel
theorem dX7_putProviso_24 : decode cX7_putProviso 24 = .ok (.invokestatic 30, 3) := by decide +kernel
theorem dX7_putProviso_27 : decode cX7_putProviso 27 = .ok (.ifCond .eq 21, 3) := by decide +kernel
theorem dX7_putProviso_30 : decode cX7_putProviso 30 = .ok (.aload_n 0, 1) := by decide +kernel
theorem dX7_putProviso_31 : decode cX7_putProviso 31 = .ok (.getfield 18, 3) := by decide +kernel
theorem dX7_putProviso_34 : decode cX7_putProviso 34 = .ok (.iload_n 1, 1) := by decide +kernel
theorem dX7_putProviso_35 : decode cX7_putProviso 35 = .ok (.bipush 10, 2) := by decide +kernel
theorem dX7_putProviso_37 : decode cX7_putProviso 37 = .ok (.imul, 1) := by decide +kernel
theorem dX7_putProviso_38 : decode cX7_putProviso 38 = .ok (.iload_n 2, 1) := by decide +kernel
theorem dX7_putProviso_39 : decode cX7_putProviso 39 = .ok (.iadd, 1) := by decide +kernel
theorem dX7_putProviso_40 : decode cX7_putProviso 40 = .ok (.bipush 10, 2) := by decide +kernel
theorem dX7_putProviso_42 : decode cX7_putProviso 42 = .ok (.imul, 1) := by decide +kernel
theorem dX7_putProviso_43 : decode cX7_putProviso 43 = .ok (.iload_n 3, 1) := by decide +kernel
theorem dX7_putProviso_44 : decode cX7_putProviso 44 = .ok (.iadd, 1) := by decide +kernel
theorem dX7_putProviso_45 : decode cX7_putProviso 45 = .ok (.iload 4, 2) := by decide +kernel
theorem dX7_putProviso_47 : decode cX7_putProviso 47 = .ok (.iastore, 1) := by decide +kernel
theorem dX7_putProviso_48 : decode cX7_putProviso 48 = .ok (.iload 5, 2) := by decide +kernel
theorem dX7_putProviso_50 : decode cX7_putProviso 50 = .ok (.ireturn, 1) := by decide +kernel
theorem dX7_provisoOf_0 : decode cX7_provisoOf 0 = .ok (.iload_n 1, 1) := by decide +kernel
theorem dX7_provisoOf_1 : decode cX7_provisoOf 1 = .ok (.invokestatic 26, 3) := by decide +kernel
theorem dX7_provisoOf_4 : decode cX7_provisoOf 4 = .ok (.ifCond .eq 17, 3) := by decide +kernel
theorem dX7_provisoOf_7 : decode cX7_provisoOf 7 = .ok (.iload_n 2, 1) := by decide +kernel
theorem dX7_provisoOf_8 : decode cX7_provisoOf 8 = .ok (.invokestatic 30, 3) := by decide +kernel
theorem dX7_provisoOf_11 : decode cX7_provisoOf 11 = .ok (.ifCond .eq 10, 3) := by decide +kernel
theorem dX7_provisoOf_14 : decode cX7_provisoOf 14 = .ok (.iload_n 3, 1) := by decide +kernel
theorem dX7_provisoOf_15 : decode cX7_provisoOf 15 = .ok (.invokestatic 30, 3) := by decide +kernel
theorem dX7_provisoOf_18 : decode cX7_provisoOf 18 = .ok (.ifCond .ne 5, 3) := by decide +kernel
theorem dX7_provisoOf_21 : decode cX7_provisoOf 21 = .ok (.iconst (-1), 1) := by decide +kernel
theorem dX7_provisoOf_22 : decode cX7_provisoOf 22 = .ok (.ireturn, 1) := by decide +kernel
theorem dX7_provisoOf_23 : decode cX7_provisoOf 23 = .ok (.aload_n 0, 1) := by decide +kernel
theorem dX7_provisoOf_24 : decode cX7_provisoOf 24 = .ok (.getfield 18, 3) := by decide +kernel
theorem dX7_provisoOf_27 : decode cX7_provisoOf 27 = .ok (.iload_n 1, 1) := by decide +kernel
theorem dX7_provisoOf_28 : decode cX7_provisoOf 28 = .ok (.bipush 10, 2) := by decide +kernel
theorem dX7_provisoOf_30 : decode cX7_provisoOf 30 = .ok (.imul, 1) := by decide +kernel
theorem dX7_provisoOf_31 : decode cX7_provisoOf 31 = .ok (.iload_n 2, 1) := by decide +kernel
theorem dX7_provisoOf_32 : decode cX7_provisoOf 32 = .ok (.iadd, 1) := by decide +kernel
theorem dX7_provisoOf_33 : decode cX7_provisoOf 33 = .ok (.bipush 10, 2) := by decide +kernel
theorem dX7_provisoOf_35 : decode cX7_provisoOf 35 = .ok (.imul, 1) := by decide +kernel
theorem dX7_provisoOf_36 : decode cX7_provisoOf 36 = .ok (.iload_n 3, 1) := by decide +kernel
theorem dX7_provisoOf_37 : decode cX7_provisoOf 37 = .ok (.iadd, 1) := by decide +kernel
theorem dX7_provisoOf_38 : decode cX7_provisoOf 38 = .ok (.iaload, 1) := by decide +kernel
theorem dX7_provisoOf_39 : decode cX7_provisoOf 39 = .ok (.ireturn, 1) := by decide +kernel
theorem dX7_weightOf_0 : decode cX7_weightOf 0 = .ok (.aload_n 0, 1) := by decide +kernel
theorem dX7_weightOf_1 : decode cX7_weightOf 1 = .ok (.getfield 12, 3) := by decide +kernel
theorem dX7_weightOf_4 : decode cX7_weightOf 4 = .ok (.aload_n 1, 1) := by decide +kernel
theorem dX7_weightOf_5 : decode cX7_weightOf 5 = .ok (.getfield 33, 3) := by decide +kernel
theorem dX7_weightOf_8 : decode cX7_weightOf 8 = .ok (.aload_n 1, 1) := by decide +kernel
theorem dX7_weightOf_9 : decode cX7_weightOf 9 = .ok (.getfield 39, 3) := by decide +kernel
theorem dX7_weightOf_12 : decode cX7_weightOf 12 = .ok (.invokevirtual 42, 3) := by decide +kernel
theorem dX7_weightOf_15 : decode cX7_weightOf 15 = .ok (.istore_n 3, 1) := by decide +kernel
theorem dX7_weightOf_16 : decode cX7_weightOf 16 = .ok (.iload_n 3, 1) := by decide +kernel
theorem dX7_weightOf_17 : decode cX7_weightOf 17 = .ok (.ifCond .ne 18, 3) := by decide +kernel
theorem dX7_weightOf_20 : decode cX7_weightOf 20 = .ok (.aload_n 2, 1) := by decide +kernel
theorem dX7_weightOf_21 : decode cX7_weightOf 21 = .ok (.aload_n 1, 1) := by decide +kernel
theorem dX7_weightOf_22 : decode cX7_weightOf 22 = .ok (.getfield 33, 3) := by decide +kernel
theorem dX7_weightOf_25 : decode cX7_weightOf 25 = .ok (.aload_n 1, 1) := by decide +kernel
theorem dX7_weightOf_26 : decode cX7_weightOf 26 = .ok (.getfield 39, 3) := by decide +kernel
theorem dX7_weightOf_29 : decode cX7_weightOf 29 = .ok (.invokevirtual 42, 3) := by decide +kernel
theorem dX7_weightOf_32 : decode cX7_weightOf 32 = .ok (.goto 4, 3) := by decide +kernel
theorem dX7_weightOf_35 : decode cX7_weightOf 35 = .ok (.iload_n 3, 1) := by decide +kernel
theorem dX7_weightOf_36 : decode cX7_weightOf 36 = .ok (.ireturn, 1) := by decide +kernel
theorem dX7_share_0 : decode cX7_share 0 = .ok (.iload 4, 2) := by decide +kernel
theorem dX7_share_2 : decode cX7_share 2 = .ok (.istore 6, 2) := by decide +kernel
theorem dX7_share_4 : decode cX7_share 4 = .ok (.iconst 0, 1) := by decide +kernel
theorem dX7_share_5 : decode cX7_share 5 = .ok (.istore 7, 2) := by decide +kernel
theorem dX7_share_7 : decode cX7_share 7 = .ok (.iload_n 2, 1) := by decide +kernel
theorem dX7_share_8 : decode cX7_share 8 = .ok (.istore 8, 2) := by decide +kernel
theorem dX7_share_10 : decode cX7_share 10 = .ok (.iload 8, 2) := by decide +kernel
theorem dX7_share_12 : decode cX7_share 12 = .ok (.iload_n 3, 1) := by decide +kernel
theorem dX7_share_13 : decode cX7_share 13 = .ok (.if_icmp .ge 100, 3) := by decide +kernel
theorem dX7_share_16 : decode cX7_share 16 = .ok (.aload_n 1, 1) := by decide +kernel
theorem dX7_share_17 : decode cX7_share 17 = .ok (.iload 8, 2) := by decide +kernel
theorem dX7_share_19 : decode cX7_share 19 = .ok (.invokevirtual 46, 3) := by decide +kernel
theorem dX7_share_22 : decode cX7_share 22 = .ok (.astore 9, 2) := by decide +kernel
theorem dX7_share_24 : decode cX7_share 24 = .ok (.aload 9, 2) := by decide +kernel
theorem dX7_share_26 : decode cX7_share 26 = .ok (.ifnonnull 6, 3) := by decide +kernel
theorem dX7_share_29 : decode cX7_share 29 = .ok (.goto 78, 3) := by decide +kernel
theorem dX7_share_32 : decode cX7_share 32 = .ok (.aload_n 0, 1) := by decide +kernel
theorem dX7_share_33 : decode cX7_share 33 = .ok (.aload 9, 2) := by decide +kernel
theorem dX7_share_35 : decode cX7_share 35 = .ok (.getfield 52, 3) := by decide +kernel
theorem dX7_share_38 : decode cX7_share 38 = .ok (.aload 9, 2) := by decide +kernel
theorem dX7_share_40 : decode cX7_share 40 = .ok (.getfield 33, 3) := by decide +kernel
theorem dX7_share_43 : decode cX7_share 43 = .ok (.aload 9, 2) := by decide +kernel
theorem dX7_share_45 : decode cX7_share 45 = .ok (.getfield 39, 3) := by decide +kernel
theorem dX7_share_48 : decode cX7_share 48 = .ok (.invokevirtual 22, 3) := by decide +kernel
theorem dX7_share_51 : decode cX7_share 51 = .ok (.istore 10, 2) := by decide +kernel
theorem dX7_share_53 : decode cX7_share 53 = .ok (.iload 10, 2) := by decide +kernel
theorem dX7_share_55 : decode cX7_share 55 = .ok (.iconst (-1), 1) := by decide +kernel
theorem dX7_share_56 : decode cX7_share 56 = .ok (.if_icmp .ne 29, 3) := by decide +kernel
theorem dX7_share_59 : decode cX7_share 59 = .ok (.aload 9, 2) := by decide +kernel
theorem dX7_share_61 : decode cX7_share 61 = .ok (.aload_n 0, 1) := by decide +kernel
theorem dX7_share_62 : decode cX7_share 62 = .ok (.aload 9, 2) := by decide +kernel
theorem dX7_share_64 : decode cX7_share 64 = .ok (.aload 5, 2) := by decide +kernel
theorem dX7_share_66 : decode cX7_share 66 = .ok (.invokevirtual 55, 3) := by decide +kernel
theorem dX7_share_69 : decode cX7_share 69 = .ok (.putfield 59, 3) := by decide +kernel
theorem dX7_share_72 : decode cX7_share 72 = .ok (.iload 7, 2) := by decide +kernel
theorem dX7_share_74 : decode cX7_share 74 = .ok (.aload 9, 2) := by decide +kernel
theorem dX7_share_76 : decode cX7_share 76 = .ok (.getfield 59, 3) := by decide +kernel
theorem dX7_share_79 : decode cX7_share 79 = .ok (.iadd, 1) := by decide +kernel
theorem dX7_share_80 : decode cX7_share 80 = .ok (.istore 7, 2) := by decide +kernel
theorem dX7_share_82 : decode cX7_share 82 = .ok (.goto 25, 3) := by decide +kernel
theorem dX7_share_85 : decode cX7_share 85 = .ok (.aload 9, 2) := by decide +kernel
theorem dX7_share_87 : decode cX7_share 87 = .ok (.iload 10, 2) := by decide +kernel
theorem dX7_share_89 : decode cX7_share 89 = .ok (.iload 6, 2) := by decide +kernel
theorem dX7_share_91 : decode cX7_share 91 = .ok (.invokestatic 62, 3) := by decide +kernel
theorem dX7_share_94 : decode cX7_share 94 = .ok (.putfield 67, 3) := by decide +kernel
theorem dX7_share_97 : decode cX7_share 97 = .ok (.iload 6, 2) := by decide +kernel
theorem dX7_share_99 : decode cX7_share 99 = .ok (.aload 9, 2) := by decide +kernel
theorem dX7_share_101 : decode cX7_share 101 = .ok (.getfield 67, 3) := by decide +kernel
theorem dX7_share_104 : decode cX7_share 104 = .ok (.isub, 1) := by decide +kernel
theorem dX7_share_105 : decode cX7_share 105 = .ok (.istore 6, 2) := by decide +kernel
theorem dX7_share_107 : decode cX7_share 107 = .ok (.iinc 8 1, 3) := by decide +kernel
theorem dX7_share_110 : decode cX7_share 110 = .ok (.goto (-100), 3) := by decide +kernel
theorem dX7_share_113 : decode cX7_share 113 = .ok (.iload 7, 2) := by decide +kernel
theorem dX7_share_115 : decode cX7_share 115 = .ok (.ifCond .gt 6, 3) := by decide +kernel
theorem dX7_share_118 : decode cX7_share 118 = .ok (.iload 6, 2) := by decide +kernel
theorem dX7_share_120 : decode cX7_share 120 = .ok (.ireturn, 1) := by decide +kernel
theorem dX7_share_121 : decode cX7_share 121 = .ok (.aload_n 0, 1) := by decide +kernel
theorem dX7_share_122 : decode cX7_share 122 = .ok (.aload_n 1, 1) := by decide +kernel
theorem dX7_share_123 : decode cX7_share 123 = .ok (.iload_n 2, 1) := by decide +kernel
theorem dX7_share_124 : decode cX7_share 124 = .ok (.iload_n 3, 1) := by decide +kernel
theorem dX7_share_125 : decode cX7_share 125 = .ok (.iload 6, 2) := by decide +kernel
theorem dX7_share_127 : decode cX7_share 127 = .ok (.iload 7, 2) := by decide +kernel
theorem dX7_share_129 : decode cX7_share 129 = .ok (.invokevirtual 70, 3) := by decide +kernel
theorem dX7_share_132 : decode cX7_share 132 = .ok (.iconst 0, 1) := by decide +kernel
theorem dX7_share_133 : decode cX7_share 133 = .ok (.ireturn, 1) := by decide +kernel
theorem dX7_shareByWeights_0 : decode cX7_shareByWeights 0 = .ok (.aconst_null, 1) := by decide +kernel
theorem dX7_shareByWeights_1 : decode cX7_shareByWeights 1 = .ok (.astore 6, 2) := by decide +kernel
theorem dX7_shareByWeights_3 : decode cX7_shareByWeights 3 = .ok (.iload 4, 2) := by decide +kernel
theorem dX7_shareByWeights_5 : decode cX7_shareByWeights 5 = .ok (.istore 7, 2) := by decide +kernel
theorem dX7_shareByWeights_7 : decode cX7_shareByWeights 7 = .ok (.iload_n 2, 1) := by decide +kernel
theorem dX7_shareByWeights_8 : decode cX7_shareByWeights 8 = .ok (.istore 8, 2) := by decide +kernel
theorem dX7_shareByWeights_10 : decode cX7_shareByWeights 10 = .ok (.iload 8, 2) := by decide +kernel
theorem dX7_shareByWeights_12 : decode cX7_shareByWeights 12 = .ok (.iload_n 3, 1) := by decide +kernel
theorem dX7_shareByWeights_13 : decode cX7_shareByWeights 13 = .ok (.if_icmp .ge 69, 3) := by decide +kernel
theorem dX7_shareByWeights_16 : decode cX7_shareByWeights 16 = .ok (.aload_n 1, 1) := by decide +kernel
theorem dX7_shareByWeights_17 : decode cX7_shareByWeights 17 = .ok (.iload 8, 2) := by decide +kernel
theorem dX7_shareByWeights_19 : decode cX7_shareByWeights 19 = .ok (.invokevirtual 46, 3) := by decide +kernel
theorem dX7_shareByWeights_22 : decode cX7_shareByWeights 22 = .ok (.astore 9, 2) := by decide +kernel
theorem dX7_shareByWeights_24 : decode cX7_shareByWeights 24 = .ok (.aload 9, 2) := by decide +kernel
theorem dX7_shareByWeights_26 : decode cX7_shareByWeights 26 = .ok (.ifnull 50, 3) := by decide +kernel
theorem dX7_shareByWeights_29 : decode cX7_shareByWeights 29 = .ok (.aload 9, 2) := by decide +kernel
theorem dX7_shareByWeights_31 : decode cX7_shareByWeights 31 = .ok (.getfield 59, 3) := by decide +kernel
theorem dX7_shareByWeights_34 : decode cX7_shareByWeights 34 = .ok (.ifCond .le 42, 3) := by decide +kernel
theorem dX7_shareByWeights_37 : decode cX7_shareByWeights 37 = .ok (.iload 5, 2) := by decide +kernel
theorem dX7_shareByWeights_39 : decode cX7_shareByWeights 39 = .ok (.ifCond .le 37, 3) := by decide +kernel
theorem dX7_shareByWeights_42 : decode cX7_shareByWeights 42 = .ok (.aload 9, 2) := by decide +kernel
theorem dX7_shareByWeights_44 : decode cX7_shareByWeights 44 = .ok (.iload 4, 2) := by decide +kernel
theorem dX7_shareByWeights_46 : decode cX7_shareByWeights 46 = .ok (.i2l, 1) := by decide +kernel
theorem dX7_shareByWeights_47 : decode cX7_shareByWeights 47 = .ok (.aload 9, 2) := by decide +kernel
theorem dX7_shareByWeights_49 : decode cX7_shareByWeights 49 = .ok (.getfield 59, 3) := by decide +kernel
theorem dX7_shareByWeights_52 : decode cX7_shareByWeights 52 = .ok (.i2l, 1) := by decide +kernel
theorem dX7_shareByWeights_53 : decode cX7_shareByWeights 53 = .ok (.lmul, 1) := by decide +kernel
theorem dX7_shareByWeights_54 : decode cX7_shareByWeights 54 = .ok (.iload 5, 2) := by decide +kernel
theorem dX7_shareByWeights_56 : decode cX7_shareByWeights 56 = .ok (.i2l, 1) := by decide +kernel
theorem dX7_shareByWeights_57 : decode cX7_shareByWeights 57 = .ok (.ldiv, 1) := by decide +kernel
theorem dX7_shareByWeights_58 : decode cX7_shareByWeights 58 = .ok (.l2i, 1) := by decide +kernel
theorem dX7_shareByWeights_59 : decode cX7_shareByWeights 59 = .ok (.putfield 67, 3) := by decide +kernel
theorem dX7_shareByWeights_62 : decode cX7_shareByWeights 62 = .ok (.iload 7, 2) := by decide +kernel
theorem dX7_shareByWeights_64 : decode cX7_shareByWeights 64 = .ok (.aload 9, 2) := by decide +kernel
theorem dX7_shareByWeights_66 : decode cX7_shareByWeights 66 = .ok (.getfield 67, 3) := by decide +kernel
theorem dX7_shareByWeights_69 : decode cX7_shareByWeights 69 = .ok (.isub, 1) := by decide +kernel
theorem dX7_shareByWeights_70 : decode cX7_shareByWeights 70 = .ok (.istore 7, 2) := by decide +kernel
theorem dX7_shareByWeights_72 : decode cX7_shareByWeights 72 = .ok (.aload 9, 2) := by decide +kernel
theorem dX7_shareByWeights_74 : decode cX7_shareByWeights 74 = .ok (.astore 6, 2) := by decide +kernel
theorem dX7_shareByWeights_76 : decode cX7_shareByWeights 76 = .ok (.iinc 8 1, 3) := by decide +kernel
theorem dX7_shareByWeights_79 : decode cX7_shareByWeights 79 = .ok (.goto (-69), 3) := by decide +kernel
theorem dX7_shareByWeights_82 : decode cX7_shareByWeights 82 = .ok (.aload 6, 2) := by decide +kernel
theorem dX7_shareByWeights_84 : decode cX7_shareByWeights 84 = .ok (.ifnull 15, 3) := by decide +kernel
theorem dX7_shareByWeights_87 : decode cX7_shareByWeights 87 = .ok (.aload 6, 2) := by decide +kernel
theorem dX7_shareByWeights_89 : decode cX7_shareByWeights 89 = .ok (.dup, 1) := by decide +kernel
theorem dX7_shareByWeights_90 : decode cX7_shareByWeights 90 = .ok (.getfield 67, 3) := by decide +kernel
theorem dX7_shareByWeights_93 : decode cX7_shareByWeights 93 = .ok (.iload 7, 2) := by decide +kernel
theorem dX7_shareByWeights_95 : decode cX7_shareByWeights 95 = .ok (.iadd, 1) := by decide +kernel
theorem dX7_shareByWeights_96 : decode cX7_shareByWeights 96 = .ok (.putfield 67, 3) := by decide +kernel
theorem dX7_shareByWeights_99 : decode cX7_shareByWeights 99 = .ok (.return_, 1) := by decide +kernel
theorem dX8_init_0 : decode cX8_init 0 = .ok (.aload_n 0, 1) := by decide +kernel
theorem dX8_init_1 : decode cX8_init 1 = .ok (.invokespecial 3, 3) := by decide +kernel
theorem dX8_init_4 : decode cX8_init 4 = .ok (.aload_n 0, 1) := by decide +kernel
theorem dX8_init_5 : decode cX8_init 5 = .ok (.new 9, 3) := by decide +kernel
theorem dX8_init_8 : decode cX8_init 8 = .ok (.dup, 1) := by decide +kernel
theorem dX8_init_9 : decode cX8_init 9 = .ok (.invokespecial 11, 3) := by decide +kernel
theorem dX8_init_12 : decode cX8_init 12 = .ok (.putfield 12, 3) := by decide +kernel
theorem dX8_init_15 : decode cX8_init 15 = .ok (.aload_n 0, 1) := by decide +kernel
theorem dX8_init_16 : decode cX8_init 16 = .ok (.bipush 40, 2) := by decide +kernel
theorem dX8_init_18 : decode cX8_init 18 = .ok (.anewarray 18, 3) := by decide +kernel
theorem dX8_init_21 : decode cX8_init 21 = .ok (.putfield 20, 3) := by decide +kernel
theorem dX8_init_24 : decode cX8_init 24 = .ok (.aload_n 0, 1) := by decide +kernel
theorem dX8_init_25 : decode cX8_init 25 = .ok (.bipush 10, 2) := by decide +kernel
theorem dX8_init_27 : decode cX8_init 27 = .ok (.newarray .int, 2) := by decide +kernel
theorem dX8_init_29 : decode cX8_init 29 = .ok (.putfield 24, 3) := by decide +kernel
theorem dX8_init_32 : decode cX8_init 32 = .ok (.aload_n 0, 1) := by decide +kernel
theorem dX8_init_33 : decode cX8_init 33 = .ok (.bipush 10, 2) := by decide +kernel
theorem dX8_init_35 : decode cX8_init 35 = .ok (.newarray .int, 2) := by decide +kernel
theorem dX8_init_37 : decode cX8_init 37 = .ok (.putfield 28, 3) := by decide +kernel
theorem dX8_init_40 : decode cX8_init 40 = .ok (.aload_n 0, 1) := by decide +kernel
theorem dX8_init_41 : decode cX8_init 41 = .ok (.iconst 1, 1) := by decide +kernel
theorem dX8_init_42 : decode cX8_init 42 = .ok (.putfield 31, 3) := by decide +kernel
theorem dX8_init_45 : decode cX8_init 45 = .ok (.return_, 1) := by decide +kernel
theorem dX8_file_0 : decode cX8_file 0 = .ok (.aload_n 0, 1) := by decide +kernel
theorem dX8_file_1 : decode cX8_file 1 = .ok (.getfield 35, 3) := by decide +kernel
theorem dX8_file_4 : decode cX8_file 4 = .ok (.bipush 40, 2) := by decide +kernel
theorem dX8_file_6 : decode cX8_file 6 = .ok (.if_icmp .lt 5, 3) := by decide +kernel
theorem dX8_file_9 : decode cX8_file 9 = .ok (.iconst (-1), 1) := by decide +kernel
theorem dX8_file_10 : decode cX8_file 10 = .ok (.ireturn, 1) := by decide +kernel
theorem dX8_file_11 : decode cX8_file 11 = .ok (.aload_n 0, 1) := by decide +kernel
theorem dX8_file_12 : decode cX8_file 12 = .ok (.getfield 20, 3) := by decide +kernel
theorem dX8_file_15 : decode cX8_file 15 = .ok (.aload_n 0, 1) := by decide +kernel
theorem dX8_file_16 : decode cX8_file 16 = .ok (.getfield 35, 3) := by decide +kernel
theorem dX8_file_19 : decode cX8_file 19 = .ok (.aload_n 1, 1) := by decide +kernel
theorem dX8_file_20 : decode cX8_file 20 = .ok (.aastore, 1) := by decide +kernel
theorem dX8_file_21 : decode cX8_file 21 = .ok (.aload_n 0, 1) := by decide +kernel
theorem dX8_file_22 : decode cX8_file 22 = .ok (.dup, 1) := by decide +kernel
theorem dX8_file_23 : decode cX8_file 23 = .ok (.getfield 35, 3) := by decide +kernel
theorem dX8_file_26 : decode cX8_file 26 = .ok (.iconst 1, 1) := by decide +kernel
theorem dX8_file_27 : decode cX8_file 27 = .ok (.iadd, 1) := by decide +kernel
theorem dX8_file_28 : decode cX8_file 28 = .ok (.putfield 35, 3) := by decide +kernel
theorem dX8_file_31 : decode cX8_file 31 = .ok (.aload_n 0, 1) := by decide +kernel
theorem dX8_file_32 : decode cX8_file 32 = .ok (.getfield 35, 3) := by decide +kernel
theorem dX8_file_35 : decode cX8_file 35 = .ok (.iconst 1, 1) := by decide +kernel
theorem dX8_file_36 : decode cX8_file 36 = .ok (.isub, 1) := by decide +kernel
theorem dX8_file_37 : decode cX8_file 37 = .ok (.ireturn, 1) := by decide +kernel
theorem dX8_fareAt_0 : decode cX8_fareAt 0 = .ok (.iload_n 1, 1) := by decide +kernel
theorem dX8_fareAt_1 : decode cX8_fareAt 1 = .ok (.ifCond .lt 21, 3) := by decide +kernel
theorem dX8_fareAt_4 : decode cX8_fareAt 4 = .ok (.iload_n 1, 1) := by decide +kernel
theorem dX8_fareAt_5 : decode cX8_fareAt 5 = .ok (.aload_n 0, 1) := by decide +kernel
theorem dX8_fareAt_6 : decode cX8_fareAt 6 = .ok (.getfield 35, 3) := by decide +kernel
theorem dX8_fareAt_9 : decode cX8_fareAt 9 = .ok (.if_icmp .ge 13, 3) := by decide +kernel
theorem dX8_fareAt_12 : decode cX8_fareAt 12 = .ok (.iload_n 1, 1) := by decide +kernel
theorem dX8_fareAt_13 : decode cX8_fareAt 13 = .ok (.bipush 40, 2) := by decide +kernel
theorem dX8_fareAt_15 : decode cX8_fareAt 15 = .ok (.if_icmp .ge 7, 3) := by decide +kernel
theorem dX8_fareAt_18 : decode cX8_fareAt 18 = .ok (.iconst 1, 1) := by decide +kernel
theorem dX8_fareAt_19 : decode cX8_fareAt 19 = .ok (.goto 4, 3) := by decide +kernel
theorem dX8_fareAt_22 : decode cX8_fareAt 22 = .ok (.iconst 0, 1) := by decide +kernel
theorem dX8_fareAt_23 : decode cX8_fareAt 23 = .ok (.istore_n 2, 1) := by decide +kernel
theorem dX8_fareAt_24 : decode cX8_fareAt 24 = .ok (.iload_n 2, 1) := by decide +kernel
theorem dX8_fareAt_25 : decode cX8_fareAt 25 = .ok (.ifCond .eq 12, 3) := by decide +kernel
theorem dX8_fareAt_28 : decode cX8_fareAt 28 = .ok (.aload_n 0, 1) := by decide +kernel
theorem dX8_fareAt_29 : decode cX8_fareAt 29 = .ok (.getfield 20, 3) := by decide +kernel
theorem dX8_fareAt_32 : decode cX8_fareAt 32 = .ok (.iload_n 1, 1) := by decide +kernel
theorem dX8_fareAt_33 : decode cX8_fareAt 33 = .ok (.aaload, 1) := by decide +kernel
theorem dX8_fareAt_34 : decode cX8_fareAt 34 = .ok (.goto 4, 3) := by decide +kernel
theorem dX8_fareAt_37 : decode cX8_fareAt 37 = .ok (.aconst_null, 1) := by decide +kernel
theorem dX8_fareAt_38 : decode cX8_fareAt 38 = .ok (.areturn, 1) := by decide +kernel
theorem dX8_putTaxes_0 : decode cX8_putTaxes 0 = .ok (.iload_n 1, 1) := by decide +kernel
theorem dX8_putTaxes_1 : decode cX8_putTaxes 1 = .ok (.invokestatic 38, 3) := by decide +kernel
theorem dX8_putTaxes_4 : decode cX8_putTaxes 4 = .ok (.ifCond .eq 17, 3) := by decide +kernel
theorem dX8_putTaxes_7 : decode cX8_putTaxes 7 = .ok (.aload_n 0, 1) := by decide +kernel
theorem dX8_putTaxes_8 : decode cX8_putTaxes 8 = .ok (.getfield 24, 3) := by decide +kernel
theorem dX8_putTaxes_11 : decode cX8_putTaxes 11 = .ok (.iload_n 1, 1) := by decide +kernel
theorem dX8_putTaxes_12 : decode cX8_putTaxes 12 = .ok (.iload_n 2, 1) := by decide +kernel
theorem dX8_putTaxes_13 : decode cX8_putTaxes 13 = .ok (.iastore, 1) := by decide +kernel
theorem dX8_putTaxes_14 : decode cX8_putTaxes 14 = .ok (.aload_n 0, 1) := by decide +kernel
theorem dX8_putTaxes_15 : decode cX8_putTaxes 15 = .ok (.getfield 28, 3) := by decide +kernel
theorem dX8_putTaxes_18 : decode cX8_putTaxes 18 = .ok (.iload_n 1, 1) := by decide +kernel
theorem dX8_putTaxes_19 : decode cX8_putTaxes 19 = .ok (.iload_n 3, 1) := by decide +kernel
theorem dX8_putTaxes_20 : decode cX8_putTaxes 20 = .ok (.iastore, 1) := by decide +kernel
theorem dX8_putTaxes_21 : decode cX8_putTaxes 21 = .ok (.return_, 1) := by decide +kernel
theorem dX8_taxAt_0 : decode cX8_taxAt 0 = .ok (.iload_n 1, 1) := by decide +kernel
theorem dX8_taxAt_1 : decode cX8_taxAt 1 = .ok (.invokestatic 38, 3) := by decide +kernel
theorem dX8_taxAt_4 : decode cX8_taxAt 4 = .ok (.ifCond .ne 5, 3) := by decide +kernel
theorem dX8_taxAt_7 : decode cX8_taxAt 7 = .ok (.iconst 0, 1) := by decide +kernel
theorem dX8_taxAt_8 : decode cX8_taxAt 8 = .ok (.ireturn, 1) := by decide +kernel
theorem dX8_taxAt_9 : decode cX8_taxAt 9 = .ok (.iload_n 2, 1) := by decide +kernel
theorem dX8_taxAt_10 : decode cX8_taxAt 10 = .ok (.ifCond .eq 12, 3) := by decide +kernel
theorem dX8_taxAt_13 : decode cX8_taxAt 13 = .ok (.aload_n 0, 1) := by decide +kernel
theorem dX8_taxAt_14 : decode cX8_taxAt 14 = .ok (.getfield 24, 3) := by decide +kernel
theorem dX8_taxAt_17 : decode cX8_taxAt 17 = .ok (.iload_n 1, 1) := by decide +kernel
theorem dX8_taxAt_18 : decode cX8_taxAt 18 = .ok (.iaload, 1) := by decide +kernel
theorem dX8_taxAt_19 : decode cX8_taxAt 19 = .ok (.goto 9, 3) := by decide +kernel
theorem dX8_taxAt_22 : decode cX8_taxAt 22 = .ok (.aload_n 0, 1) := by decide +kernel
theorem dX8_taxAt_23 : decode cX8_taxAt 23 = .ok (.getfield 28, 3) := by decide +kernel
theorem dX8_taxAt_26 : decode cX8_taxAt 26 = .ok (.iload_n 1, 1) := by decide +kernel
theorem dX8_taxAt_27 : decode cX8_taxAt 27 = .ok (.iaload, 1) := by decide +kernel
theorem dX8_taxAt_28 : decode cX8_taxAt 28 = .ok (.ireturn, 1) := by decide +kernel
theorem dX8_lowestFare_0 : decode cX8_lowestFare 0 = .ok (.iconst (-1), 1) := by decide +kernel
theorem dX8_lowestFare_1 : decode cX8_lowestFare 1 = .ok (.istore 4, 2) := by decide +kernel
theorem dX8_lowestFare_3 : decode cX8_lowestFare 3 = .ok (.iconst 0, 1) := by decide +kernel
theorem dX8_lowestFare_4 : decode cX8_lowestFare 4 = .ok (.istore 5, 2) := by decide +kernel
theorem dX8_lowestFare_6 : decode cX8_lowestFare 6 = .ok (.iload 5, 2) := by decide +kernel
theorem dX8_lowestFare_8 : decode cX8_lowestFare 8 = .ok (.aload_n 0, 1) := by decide +kernel
theorem dX8_lowestFare_9 : decode cX8_lowestFare 9 = .ok (.getfield 35, 3) := by decide +kernel
theorem dX8_lowestFare_12 : decode cX8_lowestFare 12 = .ok (.if_icmp .ge 68, 3) := by decide +kernel
theorem dX8_lowestFare_15 : decode cX8_lowestFare 15 = .ok (.aload_n 0, 1) := by decide +kernel
theorem dX8_lowestFare_16 : decode cX8_lowestFare 16 = .ok (.iload 5, 2) := by decide +kernel
theorem dX8_lowestFare_18 : decode cX8_lowestFare 18 = .ok (.invokevirtual 42, 3) := by decide +kernel
theorem dX8_lowestFare_21 : decode cX8_lowestFare 21 = .ok (.astore 6, 2) := by decide +kernel
theorem dX8_lowestFare_23 : decode cX8_lowestFare 23 = .ok (.aload 6, 2) := by decide +kernel
theorem dX8_lowestFare_25 : decode cX8_lowestFare 25 = .ok (.ifnull 49, 3) := by decide +kernel
theorem dX8_lowestFare_28 : decode cX8_lowestFare 28 = .ok (.aload 6, 2) := by decide +kernel
theorem dX8_lowestFare_30 : decode cX8_lowestFare 30 = .ok (.iload_n 1, 1) := by decide +kernel
theorem dX8_lowestFare_31 : decode cX8_lowestFare 31 = .ok (.iload_n 2, 1) := by decide +kernel
theorem dX8_lowestFare_32 : decode cX8_lowestFare 32 = .ok (.aload_n 0, 1) := by decide +kernel
theorem dX8_lowestFare_33 : decode cX8_lowestFare 33 = .ok (.getfield 46, 3) := by decide +kernel
theorem dX8_lowestFare_36 : decode cX8_lowestFare 36 = .ok (.invokevirtual 49, 3) := by decide +kernel
theorem dX8_lowestFare_39 : decode cX8_lowestFare 39 = .ok (.ifCond .eq 35, 3) := by decide +kernel
theorem dX8_lowestFare_42 : decode cX8_lowestFare 42 = .ok (.aload 6, 2) := by decide +kernel
theorem dX8_lowestFare_44 : decode cX8_lowestFare 44 = .ok (.getfield 53, 3) := by decide +kernel
theorem dX8_lowestFare_47 : decode cX8_lowestFare 47 = .ok (.iload_n 3, 1) := by decide +kernel
theorem dX8_lowestFare_48 : decode cX8_lowestFare 48 = .ok (.if_icmp .lt 26, 3) := by decide +kernel
theorem dX8_lowestFare_51 : decode cX8_lowestFare 51 = .ok (.iload 4, 2) := by decide +kernel
theorem dX8_lowestFare_53 : decode cX8_lowestFare 53 = .ok (.iconst (-1), 1) := by decide +kernel
theorem dX8_lowestFare_54 : decode cX8_lowestFare 54 = .ok (.if_icmp .eq 13, 3) := by decide +kernel
theorem dX8_lowestFare_57 : decode cX8_lowestFare 57 = .ok (.aload 6, 2) := by decide +kernel
theorem dX8_lowestFare_59 : decode cX8_lowestFare 59 = .ok (.getfield 56, 3) := by decide +kernel
theorem dX8_lowestFare_62 : decode cX8_lowestFare 62 = .ok (.iload 4, 2) := by decide +kernel
theorem dX8_lowestFare_64 : decode cX8_lowestFare 64 = .ok (.if_icmp .ge 10, 3) := by decide +kernel
theorem dX8_lowestFare_67 : decode cX8_lowestFare 67 = .ok (.aload 6, 2) := by decide +kernel
theorem dX8_lowestFare_69 : decode cX8_lowestFare 69 = .ok (.getfield 56, 3) := by decide +kernel
theorem dX8_lowestFare_72 : decode cX8_lowestFare 72 = .ok (.istore 4, 2) := by decide +kernel
theorem dX8_lowestFare_74 : decode cX8_lowestFare 74 = .ok (.iinc 5 1, 3) := by decide +kernel
theorem dX8_lowestFare_77 : decode cX8_lowestFare 77 = .ok (.goto (-71), 3) := by decide +kernel
theorem dX8_lowestFare_80 : decode cX8_lowestFare 80 = .ok (.iload 4, 2) := by decide +kernel
theorem dX8_lowestFare_82 : decode cX8_lowestFare 82 = .ok (.ireturn, 1) := by decide +kernel
theorem dX8_surcharge_0 : decode cX8_surcharge 0 = .ok (.aload_n 0, 1) := by decide +kernel
theorem dX8_surcharge_1 : decode cX8_surcharge 1 = .ok (.getfield 12, 3) := by decide +kernel
theorem dX8_surcharge_4 : decode cX8_surcharge 4 = .ok (.iload_n 1, 1) := by decide +kernel
theorem dX8_surcharge_5 : decode cX8_surcharge 5 = .ok (.iload_n 2, 1) := by decide +kernel
theorem dX8_surcharge_6 : decode cX8_surcharge 6 = .ok (.invokevirtual 59, 3) := by decide +kernel
theorem dX8_surcharge_9 : decode cX8_surcharge 9 = .ok (.istore 4, 2) := by decide +kernel
theorem dX8_surcharge_11 : decode cX8_surcharge 11 = .ok (.iload 4, 2) := by decide +kernel
theorem dX8_surcharge_13 : decode cX8_surcharge 13 = .ok (.ifCond .ne 5, 3) := by decide +kernel
theorem dX8_surcharge_16 : decode cX8_surcharge 16 = .ok (.iconst (-1), 1) := by decide +kernel
theorem dX8_surcharge_17 : decode cX8_surcharge 17 = .ok (.ireturn, 1) := by decide +kernel
theorem dX8_surcharge_18 : decode cX8_surcharge 18 = .ok (.iload 4, 2) := by decide +kernel
theorem dX8_surcharge_20 : decode cX8_surcharge 20 = .ok (.bipush 120, 2) := by decide +kernel
theorem dX8_surcharge_22 : decode cX8_surcharge 22 = .ok (.imul, 1) := by decide +kernel
theorem dX8_surcharge_23 : decode cX8_surcharge 23 = .ok (.bipush 100, 2) := by decide +kernel
theorem dX8_surcharge_25 : decode cX8_surcharge 25 = .ok (.idiv, 1) := by decide +kernel
theorem dX8_surcharge_26 : decode cX8_surcharge 26 = .ok (.istore 5, 2) := by decide +kernel
theorem dX8_surcharge_28 : decode cX8_surcharge 28 = .ok (.iconst 0, 1) := by decide +kernel
theorem dX8_surcharge_29 : decode cX8_surcharge 29 = .ok (.istore 6, 2) := by decide +kernel
theorem dX8_surcharge_31 : decode cX8_surcharge 31 = .ok (.iload 6, 2) := by decide +kernel
theorem dX8_surcharge_33 : decode cX8_surcharge 33 = .ok (.bipush 25, 2) := by decide +kernel
theorem dX8_surcharge_35 : decode cX8_surcharge 35 = .ok (.if_icmp .gt 27, 3) := by decide +kernel
theorem dX8_surcharge_38 : decode cX8_surcharge 38 = .ok (.iload 5, 2) := by decide +kernel
theorem dX8_surcharge_40 : decode cX8_surcharge 40 = .ok (.bipush 100, 2) := by decide +kernel
theorem dX8_surcharge_42 : decode cX8_surcharge 42 = .ok (.iload 6, 2) := by decide +kernel
theorem dX8_surcharge_44 : decode cX8_surcharge 44 = .ok (.iadd, 1) := by decide +kernel
theorem dX8_surcharge_45 : decode cX8_surcharge 45 = .ok (.imul, 1) := by decide +kernel
theorem dX8_surcharge_46 : decode cX8_surcharge 46 = .ok (.bipush 100, 2) := by decide +kernel
theorem dX8_surcharge_48 : decode cX8_surcharge 48 = .ok (.idiv, 1) := by decide +kernel
theorem dX8_surcharge_49 : decode cX8_surcharge 49 = .ok (.iload_n 3, 1) := by decide +kernel
theorem dX8_surcharge_50 : decode cX8_surcharge 50 = .ok (.if_icmp .lt 6, 3) := by decide +kernel
theorem dX8_surcharge_53 : decode cX8_surcharge 53 = .ok (.iload 6, 2) := by decide +kernel
theorem dX8_surcharge_55 : decode cX8_surcharge 55 = .ok (.ireturn, 1) := by decide +kernel
theorem dX8_surcharge_56 : decode cX8_surcharge 56 = .ok (.iinc 6 5, 3) := by decide +kernel
theorem dX8_surcharge_59 : decode cX8_surcharge 59 = .ok (.goto (-28), 3) := by decide +kernel
theorem dX8_surcharge_62 : decode cX8_surcharge 62 = .ok (.iconst (-1), 1) := by decide +kernel
theorem dX8_surcharge_63 : decode cX8_surcharge 63 = .ok (.ireturn, 1) := by decide +kernel
theorem dX8_roundedUp_0 : decode cX8_roundedUp 0 = .ok (.iload_n 1, 1) := by decide +kernel
theorem dX8_roundedUp_1 : decode cX8_roundedUp 1 = .ok (.i2l, 1) := by decide +kernel
theorem dX8_roundedUp_2 : decode cX8_roundedUp 2 = .ok (.bipush 100, 2) := by decide +kernel
theorem dX8_roundedUp_4 : decode cX8_roundedUp 4 = .ok (.iload_n 2, 1) := by decide +kernel
theorem dX8_roundedUp_5 : decode cX8_roundedUp 5 = .ok (.iadd, 1) := by decide +kernel
theorem dX8_roundedUp_6 : decode cX8_roundedUp 6 = .ok (.i2l, 1) := by decide +kernel
theorem dX8_roundedUp_7 : decode cX8_roundedUp 7 = .ok (.lmul, 1) := by decide +kernel
theorem dX8_roundedUp_8 : decode cX8_roundedUp 8 = .ok (.lstore_n 3, 1) := by decide +kernel
theorem dX8_roundedUp_9 : decode cX8_roundedUp 9 = .ok (.ldc2_w 63, 3) := by decide +kernel
theorem dX8_roundedUp_12 : decode cX8_roundedUp 12 = .ok (.aload_n 0, 1) := by decide +kernel
theorem dX8_roundedUp_13 : decode cX8_roundedUp 13 = .ok (.getfield 31, 3) := by decide +kernel
theorem dX8_roundedUp_16 : decode cX8_roundedUp 16 = .ok (.i2l, 1) := by decide +kernel
theorem dX8_roundedUp_17 : decode cX8_roundedUp 17 = .ok (.lmul, 1) := by decide +kernel
theorem dX8_roundedUp_18 : decode cX8_roundedUp 18 = .ok (.lstore 5, 2) := by decide +kernel
theorem dX8_roundedUp_20 : decode cX8_roundedUp 20 = .ok (.lload 5, 2) := by decide +kernel
theorem dX8_roundedUp_22 : decode cX8_roundedUp 22 = .ok (.lconst 0, 1) := by decide +kernel
theorem dX8_roundedUp_23 : decode cX8_roundedUp 23 = .ok (.lcmp, 1) := by decide +kernel
theorem dX8_roundedUp_24 : decode cX8_roundedUp 24 = .ok (.ifCond .le 22, 3) := by decide +kernel
theorem dX8_roundedUp_27 : decode cX8_roundedUp 27 = .ok (.lload_n 3, 1) := by decide +kernel
theorem dX8_roundedUp_28 : decode cX8_roundedUp 28 = .ok (.lload 5, 2) := by decide +kernel
theorem dX8_roundedUp_30 : decode cX8_roundedUp 30 = .ok (.ladd, 1) := by decide +kernel
theorem dX8_roundedUp_31 : decode cX8_roundedUp 31 = .ok (.lconst 1, 1) := by decide +kernel
theorem dX8_roundedUp_32 : decode cX8_roundedUp 32 = .ok (.lsub, 1) := by decide +kernel
theorem dX8_roundedUp_33 : decode cX8_roundedUp 33 = .ok (.lload 5, 2) := by decide +kernel
theorem dX8_roundedUp_35 : decode cX8_roundedUp 35 = .ok (.ldiv, 1) := by decide +kernel
theorem dX8_roundedUp_36 : decode cX8_roundedUp 36 = .ok (.aload_n 0, 1) := by decide +kernel
theorem dX8_roundedUp_37 : decode cX8_roundedUp 37 = .ok (.getfield 31, 3) := by decide +kernel
theorem dX8_roundedUp_40 : decode cX8_roundedUp 40 = .ok (.i2l, 1) := by decide +kernel
theorem dX8_roundedUp_41 : decode cX8_roundedUp 41 = .ok (.lmul, 1) := by decide +kernel
theorem dX8_roundedUp_42 : decode cX8_roundedUp 42 = .ok (.l2i, 1) := by decide +kernel
theorem dX8_roundedUp_43 : decode cX8_roundedUp 43 = .ok (.goto 4, 3) := by decide +kernel
theorem dX8_roundedUp_46 : decode cX8_roundedUp 46 = .ok (.iload_n 1, 1) := by decide +kernel
theorem dX8_roundedUp_47 : decode cX8_roundedUp 47 = .ok (.ireturn, 1) := by decide +kernel
theorem dX9_init_0 : decode cX9_init 0 = .ok (.aload_n 0, 1) := by decide +kernel
theorem dX9_init_1 : decode cX9_init 1 = .ok (.invokespecial 3, 3) := by decide +kernel
theorem dX9_init_4 : decode cX9_init 4 = .ok (.aload_n 0, 1) := by decide +kernel
theorem dX9_init_5 : decode cX9_init 5 = .ok (.bipush 8, 2) := by decide +kernel
theorem dX9_init_7 : decode cX9_init 7 = .ok (.anewarray 9, 3) := by decide +kernel
theorem dX9_init_10 : decode cX9_init 10 = .ok (.putfield 11, 3) := by decide +kernel
theorem dX9_init_13 : decode cX9_init 13 = .ok (.aload_n 0, 1) := by decide +kernel
theorem dX9_init_14 : decode cX9_init 14 = .ok (.iload_n 1, 1) := by decide +kernel
theorem dX9_init_15 : decode cX9_init 15 = .ok (.putfield 17, 3) := by decide +kernel
theorem dX9_init_18 : decode cX9_init 18 = .ok (.aload_n 0, 1) := by decide +kernel
theorem dX9_init_19 : decode cX9_init 19 = .ok (.iload_n 2, 1) := by decide +kernel
theorem dX9_init_20 : decode cX9_init 20 = .ok (.putfield 21, 3) := by decide +kernel
theorem dX9_init_23 : decode cX9_init 23 = .ok (.aload_n 0, 1) := by decide +kernel
theorem dX9_init_24 : decode cX9_init 24 = .ok (.iload_n 3, 1) := by decide +kernel
theorem dX9_init_25 : decode cX9_init 25 = .ok (.putfield 24, 3) := by decide +kernel
theorem dX9_init_28 : decode cX9_init 28 = .ok (.return_, 1) := by decide +kernel
theorem dX9_add_0 : decode cX9_add 0 = .ok (.aload_n 0, 1) := by decide +kernel
theorem dX9_add_1 : decode cX9_add 1 = .ok (.getfield 27, 3) := by decide +kernel
theorem dX9_add_4 : decode cX9_add 4 = .ok (.bipush 8, 2) := by decide +kernel
theorem dX9_add_6 : decode cX9_add 6 = .ok (.if_icmp .ge 36, 3) := by decide +kernel
theorem dX9_add_9 : decode cX9_add 9 = .ok (.aload_n 0, 1) := by decide +kernel
theorem dX9_add_10 : decode cX9_add 10 = .ok (.getfield 11, 3) := by decide +kernel
theorem dX9_add_13 : decode cX9_add 13 = .ok (.aload_n 0, 1) := by decide +kernel
theorem dX9_add_14 : decode cX9_add 14 = .ok (.getfield 27, 3) := by decide +kernel
theorem dX9_add_17 : decode cX9_add 17 = .ok (.aload_n 1, 1) := by decide +kernel
theorem dX9_add_18 : decode cX9_add 18 = .ok (.aastore, 1) := by decide +kernel
theorem dX9_add_19 : decode cX9_add 19 = .ok (.aload_n 0, 1) := by decide +kernel
theorem dX9_add_20 : decode cX9_add 20 = .ok (.dup, 1) := by decide +kernel
theorem dX9_add_21 : decode cX9_add 21 = .ok (.getfield 27, 3) := by decide +kernel
theorem dX9_add_24 : decode cX9_add 24 = .ok (.iconst 1, 1) := by decide +kernel
theorem dX9_add_25 : decode cX9_add 25 = .ok (.iadd, 1) := by decide +kernel
theorem dX9_add_26 : decode cX9_add 26 = .ok (.putfield 27, 3) := by decide +kernel
theorem dX9_add_29 : decode cX9_add 29 = .ok (.aload_n 0, 1) := by decide +kernel
theorem dX9_add_30 : decode cX9_add 30 = .ok (.dup, 1) := by decide +kernel
theorem dX9_add_31 : decode cX9_add 31 = .ok (.getfield 30, 3) := by decide +kernel
theorem dX9_add_34 : decode cX9_add 34 = .ok (.aload_n 1, 1) := by decide +kernel
theorem dX9_add_35 : decode cX9_add 35 = .ok (.getfield 33, 3) := by decide +kernel
theorem dX9_add_38 : decode cX9_add 38 = .ok (.iadd, 1) := by decide +kernel
theorem dX9_add_39 : decode cX9_add 39 = .ok (.putfield 30, 3) := by decide +kernel
theorem dX9_add_42 : decode cX9_add 42 = .ok (.return_, 1) := by decide +kernel
theorem dX9_couponAt_0 : decode cX9_couponAt 0 = .ok (.iload_n 1, 1) := by decide +kernel
theorem dX9_couponAt_1 : decode cX9_couponAt 1 = .ok (.ifCond .lt 26, 3) := by decide +kernel
theorem dX9_couponAt_4 : decode cX9_couponAt 4 = .ok (.iload_n 1, 1) := by decide +kernel
theorem dX9_couponAt_5 : decode cX9_couponAt 5 = .ok (.aload_n 0, 1) := by decide +kernel
theorem dX9_couponAt_6 : decode cX9_couponAt 6 = .ok (.getfield 27, 3) := by decide +kernel
theorem dX9_couponAt_9 : decode cX9_couponAt 9 = .ok (.if_icmp .ge 18, 3) := by decide +kernel
theorem dX9_couponAt_12 : decode cX9_couponAt 12 = .ok (.iload_n 1, 1) := by decide +kernel
theorem dX9_couponAt_13 : decode cX9_couponAt 13 = .ok (.bipush 8, 2) := by decide +kernel
theorem dX9_couponAt_15 : decode cX9_couponAt 15 = .ok (.if_icmp .ge 12, 3) := by decide +kernel
theorem dX9_couponAt_18 : decode cX9_couponAt 18 = .ok (.aload_n 0, 1) := by decide +kernel
theorem dX9_couponAt_19 : decode cX9_couponAt 19 = .ok (.getfield 11, 3) := by decide +kernel
theorem dX9_couponAt_22 : decode cX9_couponAt 22 = .ok (.iload_n 1, 1) := by decide +kernel
theorem dX9_couponAt_23 : decode cX9_couponAt 23 = .ok (.aaload, 1) := by decide +kernel
theorem dX9_couponAt_24 : decode cX9_couponAt 24 = .ok (.goto 4, 3) := by decide +kernel
theorem dX9_couponAt_27 : decode cX9_couponAt 27 = .ok (.aconst_null, 1) := by decide +kernel
theorem dX9_couponAt_28 : decode cX9_couponAt 28 = .ok (.areturn, 1) := by decide +kernel
theorem dX9_openAt_0 : decode cX9_openAt 0 = .ok (.aload_n 0, 1) := by decide +kernel
theorem dX9_openAt_1 : decode cX9_openAt 1 = .ok (.iload_n 1, 1) := by decide +kernel
theorem dX9_openAt_2 : decode cX9_openAt 2 = .ok (.invokevirtual 36, 3) := by decide +kernel
theorem dX9_openAt_5 : decode cX9_openAt 5 = .ok (.astore_n 2, 1) := by decide +kernel
theorem dX9_openAt_6 : decode cX9_openAt 6 = .ok (.aload_n 2, 1) := by decide +kernel
theorem dX9_openAt_7 : decode cX9_openAt 7 = .ok (.ifnull 14, 3) := by decide +kernel
theorem dX9_openAt_10 : decode cX9_openAt 10 = .ok (.aload_n 2, 1) := by decide +kernel
theorem dX9_openAt_11 : decode cX9_openAt 11 = .ok (.getfield 40, 3) := by decide +kernel
theorem dX9_openAt_14 : decode cX9_openAt 14 = .ok (.ifCond .ne 7, 3) := by decide +kernel
theorem dX9_openAt_17 : decode cX9_openAt 17 = .ok (.aload_n 2, 1) := by decide +kernel
theorem dX9_openAt_18 : decode cX9_openAt 18 = .ok (.goto 4, 3) := by decide +kernel
theorem dX9_openAt_21 : decode cX9_openAt 21 = .ok (.aconst_null, 1) := by decide +kernel
theorem dX9_openAt_22 : decode cX9_openAt 22 = .ok (.areturn, 1) := by decide +kernel
theorem dX9_hasOpenOnes_0 : decode cX9_hasOpenOnes 0 = .ok (.iconst 0, 1) := by decide +kernel
theorem dX9_hasOpenOnes_1 : decode cX9_hasOpenOnes 1 = .ok (.istore_n 1, 1) := by decide +kernel
theorem dX9_hasOpenOnes_2 : decode cX9_hasOpenOnes 2 = .ok (.iload_n 1, 1) := by decide +kernel
theorem dX9_hasOpenOnes_3 : decode cX9_hasOpenOnes 3 = .ok (.aload_n 0, 1) := by decide +kernel
theorem dX9_hasOpenOnes_4 : decode cX9_hasOpenOnes 4 = .ok (.getfield 27, 3) := by decide +kernel
theorem dX9_hasOpenOnes_7 : decode cX9_hasOpenOnes 7 = .ok (.if_icmp .ge 19, 3) := by decide +kernel
theorem dX9_hasOpenOnes_10 : decode cX9_hasOpenOnes 10 = .ok (.aload_n 0, 1) := by decide +kernel
theorem dX9_hasOpenOnes_11 : decode cX9_hasOpenOnes 11 = .ok (.iload_n 1, 1) := by decide +kernel
theorem dX9_hasOpenOnes_12 : decode cX9_hasOpenOnes 12 = .ok (.invokevirtual 43, 3) := by decide +kernel
theorem dX9_hasOpenOnes_15 : decode cX9_hasOpenOnes 15 = .ok (.ifnull 5, 3) := by decide +kernel
theorem dX9_hasOpenOnes_18 : decode cX9_hasOpenOnes 18 = .ok (.iconst 1, 1) := by decide +kernel
theorem dX9_hasOpenOnes_19 : decode cX9_hasOpenOnes 19 = .ok (.ireturn, 1) := by decide +kernel
theorem dX9_hasOpenOnes_20 : decode cX9_hasOpenOnes 20 = .ok (.iinc 1 1, 3) := by decide +kernel
theorem dX9_hasOpenOnes_23 : decode cX9_hasOpenOnes 23 = .ok (.goto (-21), 3) := by decide +kernel
theorem dX9_hasOpenOnes_26 : decode cX9_hasOpenOnes 26 = .ok (.iconst 0, 1) := by decide +kernel
theorem dX9_hasOpenOnes_27 : decode cX9_hasOpenOnes 27 = .ok (.ireturn, 1) := by decide +kernel
theorem dX9_openShares_0 : decode cX9_openShares 0 = .ok (.iconst 0, 1) := by decide +kernel
theorem dX9_openShares_1 : decode cX9_openShares 1 = .ok (.istore_n 1, 1) := by decide +kernel
theorem dX9_openShares_2 : decode cX9_openShares 2 = .ok (.iconst 0, 1) := by decide +kernel
theorem dX9_openShares_3 : decode cX9_openShares 3 = .ok (.istore_n 2, 1) := by decide +kernel
theorem dX9_openShares_4 : decode cX9_openShares 4 = .ok (.iload_n 2, 1) := by decide +kernel
theorem dX9_openShares_5 : decode cX9_openShares 5 = .ok (.aload_n 0, 1) := by decide +kernel
theorem dX9_openShares_6 : decode cX9_openShares 6 = .ok (.getfield 27, 3) := by decide +kernel
theorem dX9_openShares_9 : decode cX9_openShares 9 = .ok (.if_icmp .ge 30, 3) := by decide +kernel
theorem dX9_openShares_12 : decode cX9_openShares 12 = .ok (.aload_n 0, 1) := by decide +kernel
theorem dX9_openShares_13 : decode cX9_openShares 13 = .ok (.iload_n 2, 1) := by decide +kernel
theorem dX9_openShares_14 : decode cX9_openShares 14 = .ok (.invokevirtual 43, 3) := by decide +kernel
theorem dX9_openShares_17 : decode cX9_openShares 17 = .ok (.astore_n 3, 1) := by decide +kernel
theorem dX9_openShares_18 : decode cX9_openShares 18 = .ok (.iload_n 1, 1) := by decide +kernel
theorem dX9_openShares_19 : decode cX9_openShares 19 = .ok (.aload_n 3, 1) := by decide +kernel
theorem dX9_openShares_20 : decode cX9_openShares 20 = .ok (.ifnonnull 7, 3) := by decide +kernel
theorem dX9_openShares_23 : decode cX9_openShares 23 = .ok (.iconst 0, 1) := by decide +kernel
theorem dX9_openShares_24 : decode cX9_openShares 24 = .ok (.goto 7, 3) := by decide +kernel
theorem dX9_openShares_27 : decode cX9_openShares 27 = .ok (.aload_n 3, 1) := by decide +kernel
theorem dX9_openShares_28 : decode cX9_openShares 28 = .ok (.getfield 46, 3) := by decide +kernel
theorem dX9_openShares_31 : decode cX9_openShares 31 = .ok (.iadd, 1) := by decide +kernel
theorem dX9_openShares_32 : decode cX9_openShares 32 = .ok (.istore_n 1, 1) := by decide +kernel
theorem dX9_openShares_33 : decode cX9_openShares 33 = .ok (.iinc 2 1, 3) := by decide +kernel
theorem dX9_openShares_36 : decode cX9_openShares 36 = .ok (.goto (-32), 3) := by decide +kernel
theorem dX9_openShares_39 : decode cX9_openShares 39 = .ok (.iload_n 1, 1) := by decide +kernel
theorem dX9_openShares_40 : decode cX9_openShares 40 = .ok (.ireturn, 1) := by decide +kernel
theorem dX9_openTaxes_0 : decode cX9_openTaxes 0 = .ok (.iconst 0, 1) := by decide +kernel
theorem dX9_openTaxes_1 : decode cX9_openTaxes 1 = .ok (.istore_n 1, 1) := by decide +kernel
theorem dX9_openTaxes_2 : decode cX9_openTaxes 2 = .ok (.iconst 0, 1) := by decide +kernel
theorem dX9_openTaxes_3 : decode cX9_openTaxes 3 = .ok (.istore_n 2, 1) := by decide +kernel
theorem dX9_openTaxes_4 : decode cX9_openTaxes 4 = .ok (.iload_n 2, 1) := by decide +kernel
theorem dX9_openTaxes_5 : decode cX9_openTaxes 5 = .ok (.aload_n 0, 1) := by decide +kernel
theorem dX9_openTaxes_6 : decode cX9_openTaxes 6 = .ok (.getfield 27, 3) := by decide +kernel
theorem dX9_openTaxes_9 : decode cX9_openTaxes 9 = .ok (.if_icmp .ge 30, 3) := by decide +kernel
theorem dX9_openTaxes_12 : decode cX9_openTaxes 12 = .ok (.aload_n 0, 1) := by decide +kernel
theorem dX9_openTaxes_13 : decode cX9_openTaxes 13 = .ok (.iload_n 2, 1) := by decide +kernel
theorem dX9_openTaxes_14 : decode cX9_openTaxes 14 = .ok (.invokevirtual 43, 3) := by decide +kernel
theorem dX9_openTaxes_17 : decode cX9_openTaxes 17 = .ok (.astore_n 3, 1) := by decide +kernel
theorem dX9_openTaxes_18 : decode cX9_openTaxes 18 = .ok (.iload_n 1, 1) := by decide +kernel
theorem dX9_openTaxes_19 : decode cX9_openTaxes 19 = .ok (.aload_n 3, 1) := by decide +kernel
theorem dX9_openTaxes_20 : decode cX9_openTaxes 20 = .ok (.ifnonnull 7, 3) := by decide +kernel
theorem dX9_openTaxes_23 : decode cX9_openTaxes 23 = .ok (.iconst 0, 1) := by decide +kernel
theorem dX9_openTaxes_24 : decode cX9_openTaxes 24 = .ok (.goto 7, 3) := by decide +kernel
theorem dX9_openTaxes_27 : decode cX9_openTaxes 27 = .ok (.aload_n 3, 1) := by decide +kernel
theorem dX9_openTaxes_28 : decode cX9_openTaxes 28 = .ok (.getfield 33, 3) := by decide +kernel
theorem dX9_openTaxes_31 : decode cX9_openTaxes 31 = .ok (.iadd, 1) := by decide +kernel
theorem dX9_openTaxes_32 : decode cX9_openTaxes 32 = .ok (.istore_n 1, 1) := by decide +kernel
theorem dX9_openTaxes_33 : decode cX9_openTaxes 33 = .ok (.iinc 2 1, 3) := by decide +kernel
theorem dX9_openTaxes_36 : decode cX9_openTaxes 36 = .ok (.goto (-32), 3) := by decide +kernel
theorem dX9_openTaxes_39 : decode cX9_openTaxes 39 = .ok (.iload_n 1, 1) := by decide +kernel
theorem dX9_openTaxes_40 : decode cX9_openTaxes 40 = .ok (.ireturn, 1) := by decide +kernel
theorem dX9_flownTaxes_0 : decode cX9_flownTaxes 0 = .ok (.iconst 0, 1) := by decide +kernel
theorem dX9_flownTaxes_1 : decode cX9_flownTaxes 1 = .ok (.istore_n 1, 1) := by decide +kernel
theorem dX9_flownTaxes_2 : decode cX9_flownTaxes 2 = .ok (.iconst 0, 1) := by decide +kernel
theorem dX9_flownTaxes_3 : decode cX9_flownTaxes 3 = .ok (.istore_n 2, 1) := by decide +kernel
theorem dX9_flownTaxes_4 : decode cX9_flownTaxes 4 = .ok (.iload_n 2, 1) := by decide +kernel
theorem dX9_flownTaxes_5 : decode cX9_flownTaxes 5 = .ok (.aload_n 0, 1) := by decide +kernel
theorem dX9_flownTaxes_6 : decode cX9_flownTaxes 6 = .ok (.getfield 27, 3) := by decide +kernel
theorem dX9_flownTaxes_9 : decode cX9_flownTaxes 9 = .ok (.if_icmp .ge 38, 3) := by decide +kernel
theorem dX9_flownTaxes_12 : decode cX9_flownTaxes 12 = .ok (.aload_n 0, 1) := by decide +kernel
theorem dX9_flownTaxes_13 : decode cX9_flownTaxes 13 = .ok (.iload_n 2, 1) := by decide +kernel
theorem dX9_flownTaxes_14 : decode cX9_flownTaxes 14 = .ok (.invokevirtual 36, 3) := by decide +kernel
theorem dX9_flownTaxes_17 : decode cX9_flownTaxes 17 = .ok (.astore_n 3, 1) := by decide +kernel
theorem dX9_flownTaxes_18 : decode cX9_flownTaxes 18 = .ok (.iload_n 1, 1) := by decide +kernel
theorem dX9_flownTaxes_19 : decode cX9_flownTaxes 19 = .ok (.aload_n 3, 1) := by decide +kernel
theorem dX9_flownTaxes_20 : decode cX9_flownTaxes 20 = .ok (.ifnull 18, 3) := by decide +kernel
theorem dX9_flownTaxes_23 : decode cX9_flownTaxes 23 = .ok (.aload_n 3, 1) := by decide +kernel
theorem dX9_flownTaxes_24 : decode cX9_flownTaxes 24 = .ok (.getfield 40, 3) := by decide +kernel
theorem dX9_flownTaxes_27 : decode cX9_flownTaxes 27 = .ok (.iconst 1, 1) := by decide +kernel
theorem dX9_flownTaxes_28 : decode cX9_flownTaxes 28 = .ok (.if_icmp .ne 10, 3) := by decide +kernel
theorem dX9_flownTaxes_31 : decode cX9_flownTaxes 31 = .ok (.aload_n 3, 1) := by decide +kernel
theorem dX9_flownTaxes_32 : decode cX9_flownTaxes 32 = .ok (.getfield 33, 3) := by decide +kernel
theorem dX9_flownTaxes_35 : decode cX9_flownTaxes 35 = .ok (.goto 4, 3) := by decide +kernel
theorem dX9_flownTaxes_38 : decode cX9_flownTaxes 38 = .ok (.iconst 0, 1) := by decide +kernel
theorem dX9_flownTaxes_39 : decode cX9_flownTaxes 39 = .ok (.iadd, 1) := by decide +kernel
theorem dX9_flownTaxes_40 : decode cX9_flownTaxes 40 = .ok (.istore_n 1, 1) := by decide +kernel
theorem dX9_flownTaxes_41 : decode cX9_flownTaxes 41 = .ok (.iinc 2 1, 3) := by decide +kernel
theorem dX9_flownTaxes_44 : decode cX9_flownTaxes 44 = .ok (.goto (-40), 3) := by decide +kernel
theorem dX9_flownTaxes_47 : decode cX9_flownTaxes 47 = .ok (.iload_n 1, 1) := by decide +kernel
theorem dX9_flownTaxes_48 : decode cX9_flownTaxes 48 = .ok (.ireturn, 1) := by decide +kernel
theorem dX9_turnOpenOnes_0 : decode cX9_turnOpenOnes 0 = .ok (.iconst 0, 1) := by decide +kernel
theorem dX9_turnOpenOnes_1 : decode cX9_turnOpenOnes 1 = .ok (.istore_n 3, 1) := by decide +kernel
theorem dX9_turnOpenOnes_2 : decode cX9_turnOpenOnes 2 = .ok (.iload_n 3, 1) := by decide +kernel
theorem dX9_turnOpenOnes_3 : decode cX9_turnOpenOnes 3 = .ok (.iload_n 1, 1) := by decide +kernel
theorem dX9_turnOpenOnes_4 : decode cX9_turnOpenOnes 4 = .ok (.if_icmp .ge 27, 3) := by decide +kernel
theorem dX9_turnOpenOnes_7 : decode cX9_turnOpenOnes 7 = .ok (.aload_n 0, 1) := by decide +kernel
theorem dX9_turnOpenOnes_8 : decode cX9_turnOpenOnes 8 = .ok (.iload_n 3, 1) := by decide +kernel
theorem dX9_turnOpenOnes_9 : decode cX9_turnOpenOnes 9 = .ok (.invokevirtual 43, 3) := by decide +kernel
theorem dX9_turnOpenOnes_12 : decode cX9_turnOpenOnes 12 = .ok (.astore 4, 2) := by decide +kernel
theorem dX9_turnOpenOnes_14 : decode cX9_turnOpenOnes 14 = .ok (.aload 4, 2) := by decide +kernel
theorem dX9_turnOpenOnes_16 : decode cX9_turnOpenOnes 16 = .ok (.ifnull 9, 3) := by decide +kernel
theorem dX9_turnOpenOnes_19 : decode cX9_turnOpenOnes 19 = .ok (.aload 4, 2) := by decide +kernel
theorem dX9_turnOpenOnes_21 : decode cX9_turnOpenOnes 21 = .ok (.iload_n 2, 1) := by decide +kernel
theorem dX9_turnOpenOnes_22 : decode cX9_turnOpenOnes 22 = .ok (.putfield 40, 3) := by decide +kernel
theorem dX9_turnOpenOnes_25 : decode cX9_turnOpenOnes 25 = .ok (.iinc 3 1, 3) := by decide +kernel
theorem dX9_turnOpenOnes_28 : decode cX9_turnOpenOnes 28 = .ok (.goto (-26), 3) := by decide +kernel
theorem dX9_turnOpenOnes_31 : decode cX9_turnOpenOnes 31 = .ok (.return_, 1) := by decide +kernel
theorem dX10_init_0 : decode cX10_init 0 = .ok (.aload_n 0, 1) := by decide +kernel
theorem dX10_init_1 : decode cX10_init 1 = .ok (.invokespecial 3, 3) := by decide +kernel
theorem dX10_init_4 : decode cX10_init 4 = .ok (.aload_n 0, 1) := by decide +kernel
theorem dX10_init_5 : decode cX10_init 5 = .ok (.bipush 9, 2) := by decide +kernel
theorem dX10_init_7 : decode cX10_init 7 = .ok (.newarray .int, 2) := by decide +kernel
theorem dX10_init_9 : decode cX10_init 9 = .ok (.putfield 9, 3) := by decide +kernel
theorem dX10_init_12 : decode cX10_init 12 = .ok (.aload_n 0, 1) := by decide +kernel
theorem dX10_init_13 : decode cX10_init 13 = .ok (.bipush 9, 2) := by decide +kernel
theorem dX10_init_15 : decode cX10_init 15 = .ok (.newarray .int, 2) := by decide +kernel
theorem dX10_init_17 : decode cX10_init 17 = .ok (.putfield 15, 3) := by decide +kernel
theorem dX10_init_20 : decode cX10_init 20 = .ok (.aload_n 0, 1) := by decide +kernel
theorem dX10_init_21 : decode cX10_init 21 = .ok (.bipush 81, 2) := by decide +kernel
theorem dX10_init_23 : decode cX10_init 23 = .ok (.newarray .int, 2) := by decide +kernel
theorem dX10_init_25 : decode cX10_init 25 = .ok (.putfield 18, 3) := by decide +kernel
theorem dX10_init_28 : decode cX10_init 28 = .ok (.aload_n 0, 1) := by decide +kernel
theorem dX10_init_29 : decode cX10_init 29 = .ok (.iconst (-1), 1) := by decide +kernel
theorem dX10_init_30 : decode cX10_init 30 = .ok (.putfield 21, 3) := by decide +kernel
theorem dX10_init_33 : decode cX10_init 33 = .ok (.aload_n 0, 1) := by decide +kernel
theorem dX10_init_34 : decode cX10_init 34 = .ok (.iconst (-1), 1) := by decide +kernel
theorem dX10_init_35 : decode cX10_init 35 = .ok (.putfield 25, 3) := by decide +kernel
theorem dX10_init_38 : decode cX10_init 38 = .ok (.return_, 1) := by decide +kernel
theorem dX10_findLeast_0 : decode cX10_findLeast 0 = .ok (.aload_n 0, 1) := by decide +kernel
theorem dX10_findLeast_1 : decode cX10_findLeast 1 = .ok (.iconst (-1), 1) := by decide +kernel
theorem dX10_findLeast_2 : decode cX10_findLeast 2 = .ok (.putfield 21, 3) := by decide +kernel
theorem dX10_findLeast_5 : decode cX10_findLeast 5 = .ok (.aload_n 0, 1) := by decide +kernel
theorem dX10_findLeast_6 : decode cX10_findLeast 6 = .ok (.iconst (-1), 1) := by decide +kernel
theorem dX10_findLeast_7 : decode cX10_findLeast 7 = .ok (.putfield 25, 3) := by decide +kernel
theorem dX10_findLeast_10 : decode cX10_findLeast 10 = .ok (.aload_n 1, 1) := by decide +kernel
theorem dX10_findLeast_11 : decode cX10_findLeast 11 = .ok (.getfield 28, 3) := by decide +kernel
theorem dX10_findLeast_14 : decode cX10_findLeast 14 = .ok (.iconst 1, 1) := by decide +kernel
theorem dX10_findLeast_15 : decode cX10_findLeast 15 = .ok (.if_icmp .lt 12, 3) := by decide +kernel
theorem dX10_findLeast_18 : decode cX10_findLeast 18 = .ok (.aload_n 1, 1) := by decide +kernel
theorem dX10_findLeast_19 : decode cX10_findLeast 19 = .ok (.getfield 28, 3) := by decide +kernel
theorem dX10_findLeast_22 : decode cX10_findLeast 22 = .ok (.bipush 9, 2) := by decide +kernel
theorem dX10_findLeast_24 : decode cX10_findLeast 24 = .ok (.if_icmp .lt 4, 3) := by decide +kernel
theorem dX10_findLeast_27 : decode cX10_findLeast 27 = .ok (.return_, 1) := by decide +kernel
theorem dX10_findLeast_28 : decode cX10_findLeast 28 = .ok (.aload_n 0, 1) := by decide +kernel
theorem dX10_findLeast_29 : decode cX10_findLeast 29 = .ok (.getfield 9, 3) := by decide +kernel
theorem dX10_findLeast_32 : decode cX10_findLeast 32 = .ok (.iconst 0, 1) := by decide +kernel
theorem dX10_findLeast_33 : decode cX10_findLeast 33 = .ok (.iconst 0, 1) := by decide +kernel
theorem dX10_findLeast_34 : decode cX10_findLeast 34 = .ok (.iastore, 1) := by decide +kernel
theorem dX10_findLeast_35 : decode cX10_findLeast 35 = .ok (.aload_n 0, 1) := by decide +kernel
theorem dX10_findLeast_36 : decode cX10_findLeast 36 = .ok (.getfield 15, 3) := by decide +kernel
theorem dX10_findLeast_39 : decode cX10_findLeast 39 = .ok (.iconst 0, 1) := by decide +kernel
theorem dX10_findLeast_40 : decode cX10_findLeast 40 = .ok (.iconst 0, 1) := by decide +kernel
theorem dX10_findLeast_41 : decode cX10_findLeast 41 = .ok (.iastore, 1) := by decide +kernel
theorem dX10_findLeast_42 : decode cX10_findLeast 42 = .ok (.iconst 1, 1) := by decide +kernel
theorem dX10_findLeast_43 : decode cX10_findLeast 43 = .ok (.istore_n 3, 1) := by decide +kernel
theorem dX10_findLeast_44 : decode cX10_findLeast 44 = .ok (.iload_n 3, 1) := by decide +kernel
theorem dX10_findLeast_45 : decode cX10_findLeast 45 = .ok (.aload_n 1, 1) := by decide +kernel
theorem dX10_findLeast_46 : decode cX10_findLeast 46 = .ok (.getfield 28, 3) := by decide +kernel
theorem dX10_findLeast_49 : decode cX10_findLeast 49 = .ok (.if_icmp .gt 53, 3) := by decide +kernel
theorem dX10_findLeast_52 : decode cX10_findLeast 52 = .ok (.aload_n 0, 1) := by decide +kernel
theorem dX10_findLeast_53 : decode cX10_findLeast 53 = .ok (.getfield 9, 3) := by decide +kernel
theorem dX10_findLeast_56 : decode cX10_findLeast 56 = .ok (.iload_n 3, 1) := by decide +kernel
theorem dX10_findLeast_57 : decode cX10_findLeast 57 = .ok (.iconst (-1), 1) := by decide +kernel
theorem dX10_findLeast_58 : decode cX10_findLeast 58 = .ok (.iastore, 1) := by decide +kernel
theorem dX10_findLeast_59 : decode cX10_findLeast 59 = .ok (.aload_n 0, 1) := by decide +kernel
theorem dX10_findLeast_60 : decode cX10_findLeast 60 = .ok (.getfield 15, 3) := by decide +kernel
theorem dX10_findLeast_63 : decode cX10_findLeast 63 = .ok (.iload_n 3, 1) := by decide +kernel
theorem dX10_findLeast_64 : decode cX10_findLeast 64 = .ok (.iconst (-1), 1) := by decide +kernel
theorem dX10_findLeast_65 : decode cX10_findLeast 65 = .ok (.iastore, 1) := by decide +kernel
theorem dX10_findLeast_66 : decode cX10_findLeast 66 = .ok (.iconst 0, 1) := by decide +kernel
theorem dX10_findLeast_67 : decode cX10_findLeast 67 = .ok (.istore 4, 2) := by decide +kernel
theorem dX10_findLeast_69 : decode cX10_findLeast 69 = .ok (.iload 4, 2) := by decide +kernel
theorem dX10_findLeast_71 : decode cX10_findLeast 71 = .ok (.iload_n 3, 1) := by decide +kernel
theorem dX10_findLeast_72 : decode cX10_findLeast 72 = .ok (.if_icmp .ge 24, 3) := by decide +kernel
theorem dX10_findLeast_75 : decode cX10_findLeast 75 = .ok (.aload_n 0, 1) := by decide +kernel
theorem dX10_findLeast_76 : decode cX10_findLeast 76 = .ok (.iload 4, 2) := by decide +kernel
theorem dX10_findLeast_78 : decode cX10_findLeast 78 = .ok (.iload_n 3, 1) := by decide +kernel
theorem dX10_findLeast_79 : decode cX10_findLeast 79 = .ok (.aload_n 1, 1) := by decide +kernel
theorem dX10_findLeast_80 : decode cX10_findLeast 80 = .ok (.aload_n 2, 1) := by decide +kernel
theorem dX10_findLeast_81 : decode cX10_findLeast 81 = .ok (.iload 4, 2) := by decide +kernel
theorem dX10_findLeast_83 : decode cX10_findLeast 83 = .ok (.iload_n 3, 1) := by decide +kernel
theorem dX10_findLeast_84 : decode cX10_findLeast 84 = .ok (.invokevirtual 33, 3) := by decide +kernel
theorem dX10_findLeast_87 : decode cX10_findLeast 87 = .ok (.invokevirtual 37, 3) := by decide +kernel
theorem dX10_findLeast_90 : decode cX10_findLeast 90 = .ok (.iinc 4 1, 3) := by decide +kernel
theorem dX10_findLeast_93 : decode cX10_findLeast 93 = .ok (.goto (-24), 3) := by decide +kernel
theorem dX10_findLeast_96 : decode cX10_findLeast 96 = .ok (.iinc 3 1, 3) := by decide +kernel
theorem dX10_findLeast_99 : decode cX10_findLeast 99 = .ok (.goto (-55), 3) := by decide +kernel
theorem dX10_findLeast_102 : decode cX10_findLeast 102 = .ok (.aload_n 0, 1) := by decide +kernel
theorem dX10_findLeast_103 : decode cX10_findLeast 103 = .ok (.aload_n 0, 1) := by decide +kernel
theorem dX10_findLeast_104 : decode cX10_findLeast 104 = .ok (.getfield 9, 3) := by decide +kernel
theorem dX10_findLeast_107 : decode cX10_findLeast 107 = .ok (.aload_n 1, 1) := by decide +kernel
theorem dX10_findLeast_108 : decode cX10_findLeast 108 = .ok (.getfield 28, 3) := by decide +kernel
theorem dX10_findLeast_111 : decode cX10_findLeast 111 = .ok (.iaload, 1) := by decide +kernel
theorem dX10_findLeast_112 : decode cX10_findLeast 112 = .ok (.putfield 21, 3) := by decide +kernel
theorem dX10_findLeast_115 : decode cX10_findLeast 115 = .ok (.aload_n 0, 1) := by decide +kernel
theorem dX10_findLeast_116 : decode cX10_findLeast 116 = .ok (.aload_n 0, 1) := by decide +kernel
theorem dX10_findLeast_117 : decode cX10_findLeast 117 = .ok (.getfield 15, 3) := by decide +kernel
theorem dX10_findLeast_120 : decode cX10_findLeast 120 = .ok (.aload_n 1, 1) := by decide +kernel
theorem dX10_findLeast_121 : decode cX10_findLeast 121 = .ok (.getfield 28, 3) := by decide +kernel
theorem dX10_findLeast_124 : decode cX10_findLeast 124 = .ok (.iaload, 1) := by decide +kernel
theorem dX10_findLeast_125 : decode cX10_findLeast 125 = .ok (.putfield 25, 3) := by decide +kernel
theorem dX10_findLeast_128 : decode cX10_findLeast 128 = .ok (.return_, 1) := by decide +kernel
theorem dX10_goOn_0 : decode cX10_goOn 0 = .ok (.iload_n 1, 1) := by decide +kernel
theorem dX10_goOn_1 : decode cX10_goOn 1 = .ok (.iconst 0, 1) := by decide +kernel
theorem dX10_goOn_2 : decode cX10_goOn 2 = .ok (.bipush 8, 2) := by decide +kernel
theorem dX10_goOn_4 : decode cX10_goOn 4 = .ok (.invokestatic 41, 3) := by decide +kernel
theorem dX10_goOn_7 : decode cX10_goOn 7 = .ok (.ifCond .eq 13, 3) := by decide +kernel
theorem dX10_goOn_10 : decode cX10_goOn 10 = .ok (.iload_n 2, 1) := by decide +kernel
theorem dX10_goOn_11 : decode cX10_goOn 11 = .ok (.iconst 0, 1) := by decide +kernel
theorem dX10_goOn_12 : decode cX10_goOn 12 = .ok (.bipush 8, 2) := by decide +kernel
theorem dX10_goOn_14 : decode cX10_goOn 14 = .ok (.invokestatic 41, 3) := by decide +kernel
theorem dX10_goOn_17 : decode cX10_goOn 17 = .ok (.ifCond .ne 4, 3) := by decide +kernel
theorem dX10_goOn_20 : decode cX10_goOn 20 = .ok (.return_, 1) := by decide +kernel
theorem dX10_goOn_21 : decode cX10_goOn 21 = .ok (.iload_n 3, 1) := by decide +kernel
theorem dX10_goOn_22 : decode cX10_goOn 22 = .ok (.ifCond .lt 13, 3) := by decide +kernel
theorem dX10_goOn_25 : decode cX10_goOn 25 = .ok (.aload_n 0, 1) := by decide +kernel
theorem dX10_goOn_26 : decode cX10_goOn 26 = .ok (.getfield 9, 3) := by decide +kernel
theorem dX10_goOn_29 : decode cX10_goOn 29 = .ok (.iload_n 1, 1) := by decide +kernel
theorem dX10_goOn_30 : decode cX10_goOn 30 = .ok (.iaload, 1) := by decide +kernel
theorem dX10_goOn_31 : decode cX10_goOn 31 = .ok (.iconst (-1), 1) := by decide +kernel
theorem dX10_goOn_32 : decode cX10_goOn 32 = .ok (.if_icmp .ne 4, 3) := by decide +kernel
theorem dX10_goOn_35 : decode cX10_goOn 35 = .ok (.return_, 1) := by decide +kernel
theorem dX10_goOn_36 : decode cX10_goOn 36 = .ok (.aload_n 0, 1) := by decide +kernel
theorem dX10_goOn_37 : decode cX10_goOn 37 = .ok (.getfield 9, 3) := by decide +kernel
theorem dX10_goOn_40 : decode cX10_goOn 40 = .ok (.iload_n 1, 1) := by decide +kernel
theorem dX10_goOn_41 : decode cX10_goOn 41 = .ok (.iaload, 1) := by decide +kernel
theorem dX10_goOn_42 : decode cX10_goOn 42 = .ok (.iload_n 3, 1) := by decide +kernel
theorem dX10_goOn_43 : decode cX10_goOn 43 = .ok (.iadd, 1) := by decide +kernel
theorem dX10_goOn_44 : decode cX10_goOn 44 = .ok (.istore 4, 2) := by decide +kernel
theorem dX10_goOn_46 : decode cX10_goOn 46 = .ok (.aload_n 0, 1) := by decide +kernel
theorem dX10_goOn_47 : decode cX10_goOn 47 = .ok (.getfield 9, 3) := by decide +kernel
theorem dX10_goOn_50 : decode cX10_goOn 50 = .ok (.iload_n 2, 1) := by decide +kernel
theorem dX10_goOn_51 : decode cX10_goOn 51 = .ok (.iaload, 1) := by decide +kernel
theorem dX10_goOn_52 : decode cX10_goOn 52 = .ok (.iconst (-1), 1) := by decide +kernel
theorem dX10_goOn_53 : decode cX10_goOn 53 = .ok (.if_icmp .eq 14, 3) := by decide +kernel
theorem dX10_goOn_56 : decode cX10_goOn 56 = .ok (.iload 4, 2) := by decide +kernel
theorem dX10_goOn_58 : decode cX10_goOn 58 = .ok (.aload_n 0, 1) := by decide +kernel
theorem dX10_goOn_59 : decode cX10_goOn 59 = .ok (.getfield 9, 3) := by decide +kernel
theorem dX10_goOn_62 : decode cX10_goOn 62 = .ok (.iload_n 2, 1) := by decide +kernel
theorem dX10_goOn_63 : decode cX10_goOn 63 = .ok (.iaload, 1) := by decide +kernel
theorem dX10_goOn_64 : decode cX10_goOn 64 = .ok (.if_icmp .ge 35, 3) := by decide +kernel
theorem dX10_goOn_67 : decode cX10_goOn 67 = .ok (.aload_n 0, 1) := by decide +kernel
theorem dX10_goOn_68 : decode cX10_goOn 68 = .ok (.getfield 9, 3) := by decide +kernel
theorem dX10_goOn_71 : decode cX10_goOn 71 = .ok (.iload_n 2, 1) := by decide +kernel
theorem dX10_goOn_72 : decode cX10_goOn 72 = .ok (.iload 4, 2) := by decide +kernel
theorem dX10_goOn_74 : decode cX10_goOn 74 = .ok (.iastore, 1) := by decide +kernel
theorem dX10_goOn_75 : decode cX10_goOn 75 = .ok (.aload_n 0, 1) := by decide +kernel
theorem dX10_goOn_76 : decode cX10_goOn 76 = .ok (.getfield 15, 3) := by decide +kernel
theorem dX10_goOn_79 : decode cX10_goOn 79 = .ok (.iload_n 2, 1) := by decide +kernel
theorem dX10_goOn_80 : decode cX10_goOn 80 = .ok (.iload_n 1, 1) := by decide +kernel
theorem dX10_goOn_81 : decode cX10_goOn 81 = .ok (.ifCond .ne 7, 3) := by decide +kernel
theorem dX10_goOn_84 : decode cX10_goOn 84 = .ok (.iconst 0, 1) := by decide +kernel
theorem dX10_goOn_85 : decode cX10_goOn 85 = .ok (.goto 13, 3) := by decide +kernel
theorem dX10_goOn_88 : decode cX10_goOn 88 = .ok (.aload_n 0, 1) := by decide +kernel
theorem dX10_goOn_89 : decode cX10_goOn 89 = .ok (.getfield 15, 3) := by decide +kernel
theorem dX10_goOn_92 : decode cX10_goOn 92 = .ok (.iload_n 1, 1) := by decide +kernel
theorem dX10_goOn_93 : decode cX10_goOn 93 = .ok (.iaload, 1) := by decide +kernel
theorem dX10_goOn_94 : decode cX10_goOn 94 = .ok (.iconst 1, 1) := by decide +kernel
theorem dX10_goOn_95 : decode cX10_goOn 95 = .ok (.iload_n 1, 1) := by decide +kernel
theorem dX10_goOn_96 : decode cX10_goOn 96 = .ok (.ishl, 1) := by decide +kernel
theorem dX10_goOn_97 : decode cX10_goOn 97 = .ok (.ior, 1) := by decide +kernel
theorem dX10_goOn_98 : decode cX10_goOn 98 = .ok (.iastore, 1) := by decide +kernel
theorem dX10_goOn_99 : decode cX10_goOn 99 = .ok (.return_, 1) := by decide +kernel
theorem dX10_leastOfAllSets_0 : decode cX10_leastOfAllSets 0 = .ok (.aload_n 1, 1) := by decide +kernel
theorem dX10_leastOfAllSets_1 : decode cX10_leastOfAllSets 1 = .ok (.getfield 28, 3) := by decide +kernel
theorem dX10_leastOfAllSets_4 : decode cX10_leastOfAllSets 4 = .ok (.istore_n 3, 1) := by decide +kernel
theorem dX10_leastOfAllSets_5 : decode cX10_leastOfAllSets 5 = .ok (.iload_n 3, 1) := by decide +kernel
theorem dX10_leastOfAllSets_6 : decode cX10_leastOfAllSets 6 = .ok (.iconst 1, 1) := by decide +kernel
theorem dX10_leastOfAllSets_7 : decode cX10_leastOfAllSets 7 = .ok (.if_icmp .lt 9, 3) := by decide +kernel
theorem dX10_leastOfAllSets_10 : decode cX10_leastOfAllSets 10 = .ok (.iload_n 3, 1) := by decide +kernel
theorem dX10_leastOfAllSets_11 : decode cX10_leastOfAllSets 11 = .ok (.bipush 9, 2) := by decide +kernel
theorem dX10_leastOfAllSets_13 : decode cX10_leastOfAllSets 13 = .ok (.if_icmp .lt 5, 3) := by decide +kernel
theorem dX10_leastOfAllSets_16 : decode cX10_leastOfAllSets 16 = .ok (.iconst (-1), 1) := by decide +kernel
theorem dX10_leastOfAllSets_17 : decode cX10_leastOfAllSets 17 = .ok (.ireturn, 1) := by decide +kernel
theorem dX10_leastOfAllSets_18 : decode cX10_leastOfAllSets 18 = .ok (.iconst 0, 1) := by decide +kernel
theorem dX10_leastOfAllSets_19 : decode cX10_leastOfAllSets 19 = .ok (.istore 4, 2) := by decide +kernel
theorem dX10_leastOfAllSets_21 : decode cX10_leastOfAllSets 21 = .ok (.iload 4, 2) := by decide +kernel
theorem dX10_leastOfAllSets_23 : decode cX10_leastOfAllSets 23 = .ok (.iload_n 3, 1) := by decide +kernel
theorem dX10_leastOfAllSets_24 : decode cX10_leastOfAllSets 24 = .ok (.if_icmp .ge 49, 3) := by decide +kernel
theorem dX10_leastOfAllSets_27 : decode cX10_leastOfAllSets 27 = .ok (.iload 4, 2) := by decide +kernel
theorem dX10_leastOfAllSets_29 : decode cX10_leastOfAllSets 29 = .ok (.iconst 1, 1) := by decide +kernel
theorem dX10_leastOfAllSets_30 : decode cX10_leastOfAllSets 30 = .ok (.iadd, 1) := by decide +kernel
theorem dX10_leastOfAllSets_31 : decode cX10_leastOfAllSets 31 = .ok (.istore 5, 2) := by decide +kernel
theorem dX10_leastOfAllSets_33 : decode cX10_leastOfAllSets 33 = .ok (.iload 5, 2) := by decide +kernel
theorem dX10_leastOfAllSets_35 : decode cX10_leastOfAllSets 35 = .ok (.iload_n 3, 1) := by decide +kernel
theorem dX10_leastOfAllSets_36 : decode cX10_leastOfAllSets 36 = .ok (.if_icmp .gt 31, 3) := by decide +kernel
theorem dX10_leastOfAllSets_39 : decode cX10_leastOfAllSets 39 = .ok (.aload_n 0, 1) := by decide +kernel
theorem dX10_leastOfAllSets_40 : decode cX10_leastOfAllSets 40 = .ok (.getfield 18, 3) := by decide +kernel
theorem dX10_leastOfAllSets_43 : decode cX10_leastOfAllSets 43 = .ok (.iload 4, 2) := by decide +kernel
theorem dX10_leastOfAllSets_45 : decode cX10_leastOfAllSets 45 = .ok (.bipush 9, 2) := by decide +kernel
theorem dX10_leastOfAllSets_47 : decode cX10_leastOfAllSets 47 = .ok (.imul, 1) := by decide +kernel
theorem dX10_leastOfAllSets_48 : decode cX10_leastOfAllSets 48 = .ok (.iload 5, 2) := by decide +kernel
theorem dX10_leastOfAllSets_50 : decode cX10_leastOfAllSets 50 = .ok (.iadd, 1) := by decide +kernel
theorem dX10_leastOfAllSets_51 : decode cX10_leastOfAllSets 51 = .ok (.aload_n 1, 1) := by decide +kernel
theorem dX10_leastOfAllSets_52 : decode cX10_leastOfAllSets 52 = .ok (.aload_n 2, 1) := by decide +kernel
theorem dX10_leastOfAllSets_53 : decode cX10_leastOfAllSets 53 = .ok (.iload 4, 2) := by decide +kernel
theorem dX10_leastOfAllSets_55 : decode cX10_leastOfAllSets 55 = .ok (.iload 5, 2) := by decide +kernel
theorem dX10_leastOfAllSets_57 : decode cX10_leastOfAllSets 57 = .ok (.invokevirtual 33, 3) := by decide +kernel
theorem dX10_leastOfAllSets_60 : decode cX10_leastOfAllSets 60 = .ok (.iastore, 1) := by decide +kernel
theorem dX10_leastOfAllSets_61 : decode cX10_leastOfAllSets 61 = .ok (.iinc 5 1, 3) := by decide +kernel
theorem dX10_leastOfAllSets_64 : decode cX10_leastOfAllSets 64 = .ok (.goto (-31), 3) := by decide +kernel
theorem dX10_leastOfAllSets_67 : decode cX10_leastOfAllSets 67 = .ok (.iinc 4 1, 3) := by decide +kernel
theorem dX10_leastOfAllSets_70 : decode cX10_leastOfAllSets 70 = .ok (.goto (-49), 3) := by decide +kernel
theorem dX10_leastOfAllSets_73 : decode cX10_leastOfAllSets 73 = .ok (.iconst (-1), 1) := by decide +kernel
theorem dX10_leastOfAllSets_74 : decode cX10_leastOfAllSets 74 = .ok (.istore 4, 2) := by decide +kernel
theorem dX10_leastOfAllSets_76 : decode cX10_leastOfAllSets 76 = .ok (.iconst 0, 1) := by decide +kernel
theorem dX10_leastOfAllSets_77 : decode cX10_leastOfAllSets 77 = .ok (.istore 5, 2) := by decide +kernel
theorem dX10_leastOfAllSets_79 : decode cX10_leastOfAllSets 79 = .ok (.iload 5, 2) := by decide +kernel
theorem dX10_leastOfAllSets_81 : decode cX10_leastOfAllSets 81 = .ok (.iconst 1, 1) := by decide +kernel
theorem dX10_leastOfAllSets_82 : decode cX10_leastOfAllSets 82 = .ok (.iload_n 3, 1) := by decide +kernel
theorem dX10_leastOfAllSets_83 : decode cX10_leastOfAllSets 83 = .ok (.ishl, 1) := by decide +kernel
theorem dX10_leastOfAllSets_84 : decode cX10_leastOfAllSets 84 = .ok (.if_icmp .ge 41, 3) := by decide +kernel
theorem dX10_leastOfAllSets_87 : decode cX10_leastOfAllSets 87 = .ok (.aload_n 0, 1) := by decide +kernel
theorem dX10_leastOfAllSets_88 : decode cX10_leastOfAllSets 88 = .ok (.iload 5, 2) := by decide +kernel
theorem dX10_leastOfAllSets_90 : decode cX10_leastOfAllSets 90 = .ok (.iload_n 3, 1) := by decide +kernel
theorem dX10_leastOfAllSets_91 : decode cX10_leastOfAllSets 91 = .ok (.invokevirtual 45, 3) := by decide +kernel
theorem dX10_leastOfAllSets_94 : decode cX10_leastOfAllSets 94 = .ok (.istore 6, 2) := by decide +kernel
theorem dX10_leastOfAllSets_96 : decode cX10_leastOfAllSets 96 = .ok (.iload 6, 2) := by decide +kernel
theorem dX10_leastOfAllSets_98 : decode cX10_leastOfAllSets 98 = .ok (.iconst (-1), 1) := by decide +kernel
theorem dX10_leastOfAllSets_99 : decode cX10_leastOfAllSets 99 = .ok (.if_icmp .eq 20, 3) := by decide +kernel
theorem dX10_leastOfAllSets_102 : decode cX10_leastOfAllSets 102 = .ok (.iload 4, 2) := by decide +kernel
theorem dX10_leastOfAllSets_104 : decode cX10_leastOfAllSets 104 = .ok (.iconst (-1), 1) := by decide +kernel
theorem dX10_leastOfAllSets_105 : decode cX10_leastOfAllSets 105 = .ok (.if_icmp .eq 10, 3) := by decide +kernel
theorem dX10_leastOfAllSets_108 : decode cX10_leastOfAllSets 108 = .ok (.iload 6, 2) := by decide +kernel
theorem dX10_leastOfAllSets_110 : decode cX10_leastOfAllSets 110 = .ok (.iload 4, 2) := by decide +kernel
theorem dX10_leastOfAllSets_112 : decode cX10_leastOfAllSets 112 = .ok (.if_icmp .ge 7, 3) := by decide +kernel
theorem dX10_leastOfAllSets_115 : decode cX10_leastOfAllSets 115 = .ok (.iload 6, 2) := by decide +kernel
theorem dX10_leastOfAllSets_117 : decode cX10_leastOfAllSets 117 = .ok (.istore 4, 2) := by decide +kernel
theorem dX10_leastOfAllSets_119 : decode cX10_leastOfAllSets 119 = .ok (.iinc 5 2, 3) := by decide +kernel
theorem dX10_leastOfAllSets_122 : decode cX10_leastOfAllSets 122 = .ok (.goto (-43), 3) := by decide +kernel
theorem dX10_leastOfAllSets_125 : decode cX10_leastOfAllSets 125 = .ok (.iload 4, 2) := by decide +kernel
theorem dX10_leastOfAllSets_127 : decode cX10_leastOfAllSets 127 = .ok (.ireturn, 1) := by decide +kernel
theorem dX10_sumOfSet_0 : decode cX10_sumOfSet 0 = .ok (.iconst 0, 1) := by decide +kernel
theorem dX10_sumOfSet_1 : decode cX10_sumOfSet 1 = .ok (.istore_n 3, 1) := by decide +kernel
theorem dX10_sumOfSet_2 : decode cX10_sumOfSet 2 = .ok (.iconst 0, 1) := by decide +kernel
theorem dX10_sumOfSet_3 : decode cX10_sumOfSet 3 = .ok (.istore 4, 2) := by decide +kernel
theorem dX10_sumOfSet_5 : decode cX10_sumOfSet 5 = .ok (.iconst 1, 1) := by decide +kernel
theorem dX10_sumOfSet_6 : decode cX10_sumOfSet 6 = .ok (.istore 5, 2) := by decide +kernel
theorem dX10_sumOfSet_8 : decode cX10_sumOfSet 8 = .ok (.iload 5, 2) := by decide +kernel
theorem dX10_sumOfSet_10 : decode cX10_sumOfSet 10 = .ok (.iload_n 2, 1) := by decide +kernel
theorem dX10_sumOfSet_11 : decode cX10_sumOfSet 11 = .ok (.if_icmp .gt 74, 3) := by decide +kernel
theorem dX10_sumOfSet_14 : decode cX10_sumOfSet 14 = .ok (.iload 5, 2) := by decide +kernel
theorem dX10_sumOfSet_16 : decode cX10_sumOfSet 16 = .ok (.iload_n 2, 1) := by decide +kernel
theorem dX10_sumOfSet_17 : decode cX10_sumOfSet 17 = .ok (.if_icmp .eq 13, 3) := by decide +kernel
theorem dX10_sumOfSet_20 : decode cX10_sumOfSet 20 = .ok (.iload_n 1, 1) := by decide +kernel
theorem dX10_sumOfSet_21 : decode cX10_sumOfSet 21 = .ok (.iload 5, 2) := by decide +kernel
theorem dX10_sumOfSet_23 : decode cX10_sumOfSet 23 = .ok (.ishr, 1) := by decide +kernel
theorem dX10_sumOfSet_24 : decode cX10_sumOfSet 24 = .ok (.iconst 1, 1) := by decide +kernel
theorem dX10_sumOfSet_25 : decode cX10_sumOfSet 25 = .ok (.iand, 1) := by decide +kernel
theorem dX10_sumOfSet_26 : decode cX10_sumOfSet 26 = .ok (.iconst 1, 1) := by decide +kernel
theorem dX10_sumOfSet_27 : decode cX10_sumOfSet 27 = .ok (.if_icmp .ne 52, 3) := by decide +kernel
theorem dX10_sumOfSet_30 : decode cX10_sumOfSet 30 = .ok (.iload 4, 2) := by decide +kernel
theorem dX10_sumOfSet_32 : decode cX10_sumOfSet 32 = .ok (.bipush 9, 2) := by decide +kernel
theorem dX10_sumOfSet_34 : decode cX10_sumOfSet 34 = .ok (.imul, 1) := by decide +kernel
theorem dX10_sumOfSet_35 : decode cX10_sumOfSet 35 = .ok (.iload 5, 2) := by decide +kernel
theorem dX10_sumOfSet_37 : decode cX10_sumOfSet 37 = .ok (.iadd, 1) := by decide +kernel
theorem dX10_sumOfSet_38 : decode cX10_sumOfSet 38 = .ok (.istore 6, 2) := by decide +kernel
theorem dX10_sumOfSet_40 : decode cX10_sumOfSet 40 = .ok (.iload 6, 2) := by decide +kernel
theorem dX10_sumOfSet_42 : decode cX10_sumOfSet 42 = .ok (.aload_n 0, 1) := by decide +kernel
theorem dX10_sumOfSet_43 : decode cX10_sumOfSet 43 = .ok (.getfield 18, 3) := by decide +kernel
theorem dX10_sumOfSet_46 : decode cX10_sumOfSet 46 = .ok (.arraylength, 1) := by decide +kernel
theorem dX10_sumOfSet_47 : decode cX10_sumOfSet 47 = .ok (.if_icmp .ge 13, 3) := by decide +kernel
theorem dX10_sumOfSet_50 : decode cX10_sumOfSet 50 = .ok (.aload_n 0, 1) := by decide +kernel
theorem dX10_sumOfSet_51 : decode cX10_sumOfSet 51 = .ok (.getfield 18, 3) := by decide +kernel
theorem dX10_sumOfSet_54 : decode cX10_sumOfSet 54 = .ok (.iload 6, 2) := by decide +kernel
theorem dX10_sumOfSet_56 : decode cX10_sumOfSet 56 = .ok (.iaload, 1) := by decide +kernel
theorem dX10_sumOfSet_57 : decode cX10_sumOfSet 57 = .ok (.goto 4, 3) := by decide +kernel
theorem dX10_sumOfSet_60 : decode cX10_sumOfSet 60 = .ok (.iconst (-1), 1) := by decide +kernel
theorem dX10_sumOfSet_61 : decode cX10_sumOfSet 61 = .ok (.istore 7, 2) := by decide +kernel
theorem dX10_sumOfSet_63 : decode cX10_sumOfSet 63 = .ok (.iload 7, 2) := by decide +kernel
theorem dX10_sumOfSet_65 : decode cX10_sumOfSet 65 = .ok (.ifCond .ge 5, 3) := by decide +kernel
theorem dX10_sumOfSet_68 : decode cX10_sumOfSet 68 = .ok (.iconst (-1), 1) := by decide +kernel
theorem dX10_sumOfSet_69 : decode cX10_sumOfSet 69 = .ok (.ireturn, 1) := by decide +kernel
theorem dX10_sumOfSet_70 : decode cX10_sumOfSet 70 = .ok (.iload_n 3, 1) := by decide +kernel
theorem dX10_sumOfSet_71 : decode cX10_sumOfSet 71 = .ok (.iload 7, 2) := by decide +kernel
theorem dX10_sumOfSet_73 : decode cX10_sumOfSet 73 = .ok (.iadd, 1) := by decide +kernel
theorem dX10_sumOfSet_74 : decode cX10_sumOfSet 74 = .ok (.istore_n 3, 1) := by decide +kernel
theorem dX10_sumOfSet_75 : decode cX10_sumOfSet 75 = .ok (.iload 5, 2) := by decide +kernel
theorem dX10_sumOfSet_77 : decode cX10_sumOfSet 77 = .ok (.istore 4, 2) := by decide +kernel
theorem dX10_sumOfSet_79 : decode cX10_sumOfSet 79 = .ok (.iinc 5 1, 3) := by decide +kernel
theorem dX10_sumOfSet_82 : decode cX10_sumOfSet 82 = .ok (.goto (-74), 3) := by decide +kernel
theorem dX10_sumOfSet_85 : decode cX10_sumOfSet 85 = .ok (.iload_n 3, 1) := by decide +kernel
theorem dX10_sumOfSet_86 : decode cX10_sumOfSet 86 = .ok (.ireturn, 1) := by decide +kernel
theorem dX11_init_0 : decode cX11_init 0 = .ok (.aload_n 0, 1) := by decide +kernel
theorem dX11_init_1 : decode cX11_init 1 = .ok (.invokespecial 3, 3) := by decide +kernel
theorem dX11_init_4 : decode cX11_init 4 = .ok (.aload_n 0, 1) := by decide +kernel
theorem dX11_init_5 : decode cX11_init 5 = .ok (.new 9, 3) := by decide +kernel
theorem dX11_init_8 : decode cX11_init 8 = .ok (.dup, 1) := by decide +kernel
theorem dX11_init_9 : decode cX11_init 9 = .ok (.invokespecial 11, 3) := by decide +kernel
theorem dX11_init_12 : decode cX11_init 12 = .ok (.putfield 12, 3) := by decide +kernel
theorem dX11_init_15 : decode cX11_init 15 = .ok (.aload_n 0, 1) := by decide +kernel
theorem dX11_init_16 : decode cX11_init 16 = .ok (.new 16, 3) := by decide +kernel
theorem dX11_init_19 : decode cX11_init 19 = .ok (.dup, 1) := by decide +kernel
theorem dX11_init_20 : decode cX11_init 20 = .ok (.invokespecial 18, 3) := by decide +kernel
theorem dX11_init_23 : decode cX11_init 23 = .ok (.putfield 19, 3) := by decide +kernel
theorem dX11_init_26 : decode cX11_init 26 = .ok (.aload_n 0, 1) := by decide +kernel
theorem dX11_init_27 : decode cX11_init 27 = .ok (.new 23, 3) := by decide +kernel
theorem dX11_init_30 : decode cX11_init 30 = .ok (.dup, 1) := by decide +kernel
theorem dX11_init_31 : decode cX11_init 31 = .ok (.invokespecial 25, 3) := by decide +kernel
theorem dX11_init_34 : decode cX11_init 34 = .ok (.putfield 26, 3) := by decide +kernel
theorem dX11_init_37 : decode cX11_init 37 = .ok (.aload_n 0, 1) := by decide +kernel
theorem dX11_init_38 : decode cX11_init 38 = .ok (.new 30, 3) := by decide +kernel
theorem dX11_init_41 : decode cX11_init 41 = .ok (.dup, 1) := by decide +kernel
theorem dX11_init_42 : decode cX11_init 42 = .ok (.invokespecial 32, 3) := by decide +kernel
theorem dX11_init_45 : decode cX11_init 45 = .ok (.putfield 33, 3) := by decide +kernel
theorem dX11_init_48 : decode cX11_init 48 = .ok (.aload_n 0, 1) := by decide +kernel
theorem dX11_init_49 : decode cX11_init 49 = .ok (.new 37, 3) := by decide +kernel
theorem dX11_init_52 : decode cX11_init 52 = .ok (.dup, 1) := by decide +kernel
theorem dX11_init_53 : decode cX11_init 53 = .ok (.invokespecial 39, 3) := by decide +kernel
theorem dX11_init_56 : decode cX11_init 56 = .ok (.putfield 40, 3) := by decide +kernel
theorem dX11_init_59 : decode cX11_init 59 = .ok (.aload_n 0, 1) := by decide +kernel
theorem dX11_init_60 : decode cX11_init 60 = .ok (.bipush 30, 2) := by decide +kernel
theorem dX11_init_62 : decode cX11_init 62 = .ok (.anewarray 44, 3) := by decide +kernel
theorem dX11_init_65 : decode cX11_init 65 = .ok (.putfield 46, 3) := by decide +kernel
theorem dX11_init_68 : decode cX11_init 68 = .ok (.aload_n 0, 1) := by decide +kernel
theorem dX11_init_69 : decode cX11_init 69 = .ok (.iconst 5, 1) := by decide +kernel
theorem dX11_init_70 : decode cX11_init 70 = .ok (.newarray .long, 2) := by decide +kernel
theorem dX11_init_72 : decode cX11_init 72 = .ok (.putfield 50, 3) := by decide +kernel
theorem dX11_init_75 : decode cX11_init 75 = .ok (.aload_n 0, 1) := by decide +kernel
theorem dX11_init_76 : decode cX11_init 76 = .ok (.bipush 10, 2) := by decide +kernel
theorem dX11_init_78 : decode cX11_init 78 = .ok (.newarray .long, 2) := by decide +kernel
theorem dX11_init_80 : decode cX11_init 80 = .ok (.putfield 54, 3) := by decide +kernel
theorem dX11_init_83 : decode cX11_init 83 = .ok (.return_, 1) := by decide +kernel
theorem dX11_miles_0 : decode cX11_miles 0 = .ok (.iload_n 1, 1) := by decide +kernel
theorem dX11_miles_1 : decode cX11_miles 1 = .ok (.invokestatic 57, 3) := by decide +kernel
theorem dX11_miles_4 : decode cX11_miles 4 = .ok (.ifCond .eq 10, 3) := by decide +kernel
theorem dX11_miles_7 : decode cX11_miles 7 = .ok (.iload_n 2, 1) := by decide +kernel
theorem dX11_miles_8 : decode cX11_miles 8 = .ok (.invokestatic 57, 3) := by decide +kernel
theorem dX11_miles_11 : decode cX11_miles 11 = .ok (.ifCond .ne 13, 3) := by decide +kernel
theorem dX11_miles_14 : decode cX11_miles 14 = .ok (.new 61, 3) := by decide +kernel
theorem dX11_miles_17 : decode cX11_miles 17 = .ok (.dup, 1) := by decide +kernel
theorem dX11_miles_18 : decode cX11_miles 18 = .ok (.ldc 63, 2) := by decide +kernel
theorem dX11_miles_20 : decode cX11_miles 20 = .ok (.invokespecial 65, 3) := by decide +kernel
theorem dX11_miles_23 : decode cX11_miles 23 = .ok (.athrow, 1) := by decide +kernel
theorem dX11_miles_24 : decode cX11_miles 24 = .ok (.iload_n 1, 1) := by decide +kernel
theorem dX11_miles_25 : decode cX11_miles 25 = .ok (.iload_n 2, 1) := by decide +kernel
theorem dX11_miles_26 : decode cX11_miles 26 = .ok (.if_icmp .eq 14, 3) := by decide +kernel
theorem dX11_miles_29 : decode cX11_miles 29 = .ok (.iload_n 3, 1) := by decide +kernel
theorem dX11_miles_30 : decode cX11_miles 30 = .ok (.iconst 1, 1) := by decide +kernel
theorem dX11_miles_31 : decode cX11_miles 31 = .ok (.sipush 9999, 3) := by decide +kernel
theorem dX11_miles_34 : decode cX11_miles 34 = .ok (.invokestatic 68, 3) := by decide +kernel
theorem dX11_miles_37 : decode cX11_miles 37 = .ok (.ifCond .ne 13, 3) := by decide +kernel
theorem dX11_miles_40 : decode cX11_miles 40 = .ok (.new 72, 3) := by decide +kernel
theorem dX11_miles_43 : decode cX11_miles 43 = .ok (.dup, 1) := by decide +kernel
theorem dX11_miles_44 : decode cX11_miles 44 = .ok (.ldc 74, 2) := by decide +kernel
theorem dX11_miles_46 : decode cX11_miles 46 = .ok (.invokespecial 76, 3) := by decide +kernel
theorem dX11_miles_49 : decode cX11_miles 49 = .ok (.athrow, 1) := by decide +kernel
theorem dX11_miles_50 : decode cX11_miles 50 = .ok (.aload_n 0, 1) := by decide +kernel
theorem dX11_miles_51 : decode cX11_miles 51 = .ok (.getfield 12, 3) := by decide +kernel
theorem dX11_miles_54 : decode cX11_miles 54 = .ok (.getfield 77, 3) := by decide +kernel
theorem dX11_miles_57 : decode cX11_miles 57 = .ok (.iload_n 1, 1) := by decide +kernel
theorem dX11_miles_58 : decode cX11_miles 58 = .ok (.iload_n 2, 1) := by decide +kernel
theorem dX11_miles_59 : decode cX11_miles 59 = .ok (.iload_n 3, 1) := by decide +kernel
theorem dX11_miles_60 : decode cX11_miles 60 = .ok (.invokevirtual 81, 3) := by decide +kernel
theorem dX11_miles_63 : decode cX11_miles 63 = .ok (.ireturn, 1) := by decide +kernel
theorem dX11_fare_0 : decode cX11_fare 0 = .ok (.iload_n 1, 1) := by decide +kernel
theorem dX11_fare_1 : decode cX11_fare 1 = .ok (.invokestatic 57, 3) := by decide +kernel
theorem dX11_fare_4 : decode cX11_fare 4 = .ok (.ifCond .eq 10, 3) := by decide +kernel
theorem dX11_fare_7 : decode cX11_fare 7 = .ok (.iload_n 2, 1) := by decide +kernel
theorem dX11_fare_8 : decode cX11_fare 8 = .ok (.invokestatic 57, 3) := by decide +kernel
theorem dX11_fare_11 : decode cX11_fare 11 = .ok (.ifCond .ne 13, 3) := by decide +kernel
theorem dX11_fare_14 : decode cX11_fare 14 = .ok (.new 61, 3) := by decide +kernel
theorem dX11_fare_17 : decode cX11_fare 17 = .ok (.dup, 1) := by decide +kernel
theorem dX11_fare_18 : decode cX11_fare 18 = .ok (.ldc 63, 2) := by decide +kernel
theorem dX11_fare_20 : decode cX11_fare 20 = .ok (.invokespecial 65, 3) := by decide +kernel
theorem dX11_fare_23 : decode cX11_fare 23 = .ok (.athrow, 1) := by decide +kernel
theorem dX11_fare_24 : decode cX11_fare 24 = .ok (.iload_n 1, 1) := by decide +kernel
theorem dX11_fare_25 : decode cX11_fare 25 = .ok (.iload_n 2, 1) := by decide +kernel
theorem dX11_fare_26 : decode cX11_fare 26 = .ok (.if_icmp .eq 49, 3) := by decide +kernel
theorem dX11_fare_29 : decode cX11_fare 29 = .ok (.iload_n 3, 1) := by decide +kernel
theorem dX11_fare_30 : decode cX11_fare 30 = .ok (.iconst 1, 1) := by decide +kernel
theorem dX11_fare_31 : decode cX11_fare 31 = .ok (.ldc 87, 2) := by decide +kernel
theorem dX11_fare_33 : decode cX11_fare 33 = .ok (.invokestatic 68, 3) := by decide +kernel
theorem dX11_fare_36 : decode cX11_fare 36 = .ok (.ifCond .eq 39, 3) := by decide +kernel
theorem dX11_fare_39 : decode cX11_fare 39 = .ok (.iload 4, 2) := by decide +kernel
theorem dX11_fare_41 : decode cX11_fare 41 = .ok (.iconst 0, 1) := by decide +kernel
theorem dX11_fare_42 : decode cX11_fare 42 = .ok (.sipush 999, 3) := by decide +kernel
theorem dX11_fare_45 : decode cX11_fare 45 = .ok (.invokestatic 68, 3) := by decide +kernel
theorem dX11_fare_48 : decode cX11_fare 48 = .ok (.ifCond .eq 27, 3) := by decide +kernel
theorem dX11_fare_51 : decode cX11_fare 51 = .ok (.iload 5, 2) := by decide +kernel
theorem dX11_fare_53 : decode cX11_fare 53 = .ok (.iload 4, 2) := by decide +kernel
theorem dX11_fare_55 : decode cX11_fare 55 = .ok (.sipush 999, 3) := by decide +kernel
theorem dX11_fare_58 : decode cX11_fare 58 = .ok (.invokestatic 68, 3) := by decide +kernel
theorem dX11_fare_61 : decode cX11_fare 61 = .ok (.ifCond .eq 14, 3) := by decide +kernel
theorem dX11_fare_64 : decode cX11_fare 64 = .ok (.iload 6, 2) := by decide +kernel
theorem dX11_fare_66 : decode cX11_fare 66 = .ok (.iconst 0, 1) := by decide +kernel
theorem dX11_fare_67 : decode cX11_fare 67 = .ok (.bipush 7, 2) := by decide +kernel
theorem dX11_fare_69 : decode cX11_fare 69 = .ok (.invokestatic 68, 3) := by decide +kernel
theorem dX11_fare_72 : decode cX11_fare 72 = .ok (.ifCond .ne 13, 3) := by decide +kernel
theorem dX11_fare_75 : decode cX11_fare 75 = .ok (.new 72, 3) := by decide +kernel
theorem dX11_fare_78 : decode cX11_fare 78 = .ok (.dup, 1) := by decide +kernel
theorem dX11_fare_79 : decode cX11_fare 79 = .ok (.ldc 88, 2) := by decide +kernel
theorem dX11_fare_81 : decode cX11_fare 81 = .ok (.invokespecial 76, 3) := by decide +kernel
theorem dX11_fare_84 : decode cX11_fare 84 = .ok (.athrow, 1) := by decide +kernel
theorem dX11_fare_85 : decode cX11_fare 85 = .ok (.aload_n 0, 1) := by decide +kernel
theorem dX11_fare_86 : decode cX11_fare 86 = .ok (.getfield 12, 3) := by decide +kernel
theorem dX11_fare_89 : decode cX11_fare 89 = .ok (.getfield 90, 3) := by decide +kernel
theorem dX11_fare_92 : decode cX11_fare 92 = .ok (.bipush 40, 2) := by decide +kernel
theorem dX11_fare_94 : decode cX11_fare 94 = .ok (.if_icmp .lt 13, 3) := by decide +kernel
theorem dX11_fare_97 : decode cX11_fare 97 = .ok (.new 94, 3) := by decide +kernel
theorem dX11_fare_100 : decode cX11_fare 100 = .ok (.dup, 1) := by decide +kernel
theorem dX11_fare_101 : decode cX11_fare 101 = .ok (.ldc 96, 2) := by decide +kernel
theorem dX11_fare_103 : decode cX11_fare 103 = .ok (.invokespecial 98, 3) := by decide +kernel
theorem dX11_fare_106 : decode cX11_fare 106 = .ok (.athrow, 1) := by decide +kernel
theorem dX11_fare_107 : decode cX11_fare 107 = .ok (.aload_n 0, 1) := by decide +kernel
theorem dX11_fare_108 : decode cX11_fare 108 = .ok (.getfield 12, 3) := by decide +kernel
theorem dX11_fare_111 : decode cX11_fare 111 = .ok (.new 99, 3) := by decide +kernel
theorem dX11_fare_114 : decode cX11_fare 114 = .ok (.dup, 1) := by decide +kernel
theorem dX11_fare_115 : decode cX11_fare 115 = .ok (.iload_n 1, 1) := by decide +kernel
theorem dX11_fare_116 : decode cX11_fare 116 = .ok (.iload_n 2, 1) := by decide +kernel
theorem dX11_fare_117 : decode cX11_fare 117 = .ok (.iload_n 3, 1) := by decide +kernel
theorem dX11_fare_118 : decode cX11_fare 118 = .ok (.iload 4, 2) := by decide +kernel
theorem dX11_fare_120 : decode cX11_fare 120 = .ok (.iload 5, 2) := by decide +kernel
theorem dX11_fare_122 : decode cX11_fare 122 = .ok (.iload 6, 2) := by decide +kernel
theorem dX11_fare_124 : decode cX11_fare 124 = .ok (.invokespecial 101, 3) := by decide +kernel
theorem dX11_fare_127 : decode cX11_fare 127 = .ok (.invokevirtual 104, 3) := by decide +kernel
theorem dX11_fare_130 : decode cX11_fare 130 = .ok (.ireturn, 1) := by decide +kernel
theorem dX11_unit_0 : decode cX11_unit 0 = .ok (.iload_n 1, 1) := by decide +kernel
theorem dX11_unit_1 : decode cX11_unit 1 = .ok (.iconst 1, 1) := by decide +kernel
theorem dX11_unit_2 : decode cX11_unit 2 = .ok (.sipush 1000, 3) := by decide +kernel
theorem dX11_unit_5 : decode cX11_unit 5 = .ok (.invokestatic 68, 3) := by decide +kernel
theorem dX11_unit_8 : decode cX11_unit 8 = .ok (.ifCond .ne 13, 3) := by decide +kernel
theorem dX11_unit_11 : decode cX11_unit 11 = .ok (.new 72, 3) := by decide +kernel
theorem dX11_unit_14 : decode cX11_unit 14 = .ok (.dup, 1) := by decide +kernel
theorem dX11_unit_15 : decode cX11_unit 15 = .ok (.ldc 120, 2) := by decide +kernel
theorem dX11_unit_17 : decode cX11_unit 17 = .ok (.invokespecial 76, 3) := by decide +kernel
theorem dX11_unit_20 : decode cX11_unit 20 = .ok (.athrow, 1) := by decide +kernel
theorem dX11_unit_21 : decode cX11_unit 21 = .ok (.aload_n 0, 1) := by decide +kernel
theorem dX11_unit_22 : decode cX11_unit 22 = .ok (.getfield 12, 3) := by decide +kernel
theorem dX11_unit_25 : decode cX11_unit 25 = .ok (.getfield 122, 3) := by decide +kernel
theorem dX11_unit_28 : decode cX11_unit 28 = .ok (.istore_n 2, 1) := by decide +kernel
theorem dX11_unit_29 : decode cX11_unit 29 = .ok (.aload_n 0, 1) := by decide +kernel
theorem dX11_unit_30 : decode cX11_unit 30 = .ok (.getfield 12, 3) := by decide +kernel
theorem dX11_unit_33 : decode cX11_unit 33 = .ok (.iload_n 1, 1) := by decide +kernel
theorem dX11_unit_34 : decode cX11_unit 34 = .ok (.putfield 122, 3) := by decide +kernel
theorem dX11_unit_37 : decode cX11_unit 37 = .ok (.iload_n 2, 1) := by decide +kernel
theorem dX11_unit_38 : decode cX11_unit 38 = .ok (.ireturn, 1) := by decide +kernel
theorem dX11_tax_0 : decode cX11_tax 0 = .ok (.iload_n 1, 1) := by decide +kernel
theorem dX11_tax_1 : decode cX11_tax 1 = .ok (.invokestatic 57, 3) := by decide +kernel
theorem dX11_tax_4 : decode cX11_tax 4 = .ok (.ifCond .ne 13, 3) := by decide +kernel
theorem dX11_tax_7 : decode cX11_tax 7 = .ok (.new 61, 3) := by decide +kernel
theorem dX11_tax_10 : decode cX11_tax 10 = .ok (.dup, 1) := by decide +kernel
theorem dX11_tax_11 : decode cX11_tax 11 = .ok (.ldc 63, 2) := by decide +kernel
theorem dX11_tax_13 : decode cX11_tax 13 = .ok (.invokespecial 65, 3) := by decide +kernel
theorem dX11_tax_16 : decode cX11_tax 16 = .ok (.athrow, 1) := by decide +kernel
theorem dX11_tax_17 : decode cX11_tax 17 = .ok (.iload_n 2, 1) := by decide +kernel
theorem dX11_tax_18 : decode cX11_tax 18 = .ok (.iconst 0, 1) := by decide +kernel
theorem dX11_tax_19 : decode cX11_tax 19 = .ok (.sipush 10000, 3) := by decide +kernel
theorem dX11_tax_22 : decode cX11_tax 22 = .ok (.invokestatic 68, 3) := by decide +kernel
theorem dX11_tax_25 : decode cX11_tax 25 = .ok (.ifCond .eq 14, 3) := by decide +kernel
theorem dX11_tax_28 : decode cX11_tax 28 = .ok (.iload_n 3, 1) := by decide +kernel
theorem dX11_tax_29 : decode cX11_tax 29 = .ok (.iconst 0, 1) := by decide +kernel
theorem dX11_tax_30 : decode cX11_tax 30 = .ok (.sipush 10000, 3) := by decide +kernel
theorem dX11_tax_33 : decode cX11_tax 33 = .ok (.invokestatic 68, 3) := by decide +kernel
theorem dX11_tax_36 : decode cX11_tax 36 = .ok (.ifCond .ne 13, 3) := by decide +kernel
theorem dX11_tax_39 : decode cX11_tax 39 = .ok (.new 72, 3) := by decide +kernel
theorem dX11_tax_42 : decode cX11_tax 42 = .ok (.dup, 1) := by decide +kernel
theorem dX11_tax_43 : decode cX11_tax 43 = .ok (.ldc 125, 2) := by decide +kernel
theorem dX11_tax_45 : decode cX11_tax 45 = .ok (.invokespecial 76, 3) := by decide +kernel
theorem dX11_tax_48 : decode cX11_tax 48 = .ok (.athrow, 1) := by decide +kernel
theorem dX11_tax_49 : decode cX11_tax 49 = .ok (.aload_n 0, 1) := by decide +kernel
theorem dX11_tax_50 : decode cX11_tax 50 = .ok (.getfield 12, 3) := by decide +kernel
theorem dX11_tax_53 : decode cX11_tax 53 = .ok (.iload_n 1, 1) := by decide +kernel
theorem dX11_tax_54 : decode cX11_tax 54 = .ok (.iload_n 2, 1) := by decide +kernel
theorem dX11_tax_55 : decode cX11_tax 55 = .ok (.iload_n 3, 1) := by decide +kernel
theorem dX11_tax_56 : decode cX11_tax 56 = .ok (.invokevirtual 127, 3) := by decide +kernel
theorem dX11_tax_59 : decode cX11_tax 59 = .ok (.return_, 1) := by decide +kernel
theorem dX11_weight_0 : decode cX11_weight 0 = .ok (.iload_n 1, 1) := by decide +kernel
theorem dX11_weight_1 : decode cX11_weight 1 = .ok (.invokestatic 57, 3) := by decide +kernel
theorem dX11_weight_4 : decode cX11_weight 4 = .ok (.ifCond .eq 10, 3) := by decide +kernel
theorem dX11_weight_7 : decode cX11_weight 7 = .ok (.iload_n 2, 1) := by decide +kernel
theorem dX11_weight_8 : decode cX11_weight 8 = .ok (.invokestatic 57, 3) := by decide +kernel
theorem dX11_weight_11 : decode cX11_weight 11 = .ok (.ifCond .ne 13, 3) := by decide +kernel
theorem dX11_weight_14 : decode cX11_weight 14 = .ok (.new 61, 3) := by decide +kernel
theorem dX11_weight_17 : decode cX11_weight 17 = .ok (.dup, 1) := by decide +kernel
theorem dX11_weight_18 : decode cX11_weight 18 = .ok (.ldc 63, 2) := by decide +kernel
theorem dX11_weight_20 : decode cX11_weight 20 = .ok (.invokespecial 65, 3) := by decide +kernel
theorem dX11_weight_23 : decode cX11_weight 23 = .ok (.athrow, 1) := by decide +kernel
theorem dX11_weight_24 : decode cX11_weight 24 = .ok (.iload_n 1, 1) := by decide +kernel
theorem dX11_weight_25 : decode cX11_weight 25 = .ok (.iload_n 2, 1) := by decide +kernel
theorem dX11_weight_26 : decode cX11_weight 26 = .ok (.if_icmp .eq 14, 3) := by decide +kernel
theorem dX11_weight_29 : decode cX11_weight 29 = .ok (.iload_n 3, 1) := by decide +kernel
theorem dX11_weight_30 : decode cX11_weight 30 = .ok (.iconst 0, 1) := by decide +kernel
theorem dX11_weight_31 : decode cX11_weight 31 = .ok (.sipush 9999, 3) := by decide +kernel
theorem dX11_weight_34 : decode cX11_weight 34 = .ok (.invokestatic 68, 3) := by decide +kernel
theorem dX11_weight_37 : decode cX11_weight 37 = .ok (.ifCond .ne 13, 3) := by decide +kernel
theorem dX11_weight_40 : decode cX11_weight 40 = .ok (.new 72, 3) := by decide +kernel
theorem dX11_weight_43 : decode cX11_weight 43 = .ok (.dup, 1) := by decide +kernel
theorem dX11_weight_44 : decode cX11_weight 44 = .ok (.ldc 131, 2) := by decide +kernel
theorem dX11_weight_46 : decode cX11_weight 46 = .ok (.invokespecial 76, 3) := by decide +kernel
theorem dX11_weight_49 : decode cX11_weight 49 = .ok (.athrow, 1) := by decide +kernel
theorem dX11_weight_50 : decode cX11_weight 50 = .ok (.aload_n 0, 1) := by decide +kernel
theorem dX11_weight_51 : decode cX11_weight 51 = .ok (.getfield 19, 3) := by decide +kernel
theorem dX11_weight_54 : decode cX11_weight 54 = .ok (.getfield 133, 3) := by decide +kernel
theorem dX11_weight_57 : decode cX11_weight 57 = .ok (.iload_n 1, 1) := by decide +kernel
theorem dX11_weight_58 : decode cX11_weight 58 = .ok (.iload_n 2, 1) := by decide +kernel
theorem dX11_weight_59 : decode cX11_weight 59 = .ok (.iload_n 3, 1) := by decide +kernel
theorem dX11_weight_60 : decode cX11_weight 60 = .ok (.invokevirtual 81, 3) := by decide +kernel
theorem dX11_weight_63 : decode cX11_weight 63 = .ok (.ireturn, 1) := by decide +kernel
theorem dX11_proviso_0 : decode cX11_proviso 0 = .ok (.iload_n 1, 1) := by decide +kernel
theorem dX11_proviso_1 : decode cX11_proviso 1 = .ok (.invokestatic 136, 3) := by decide +kernel
theorem dX11_proviso_4 : decode cX11_proviso 4 = .ok (.ifCond .eq 17, 3) := by decide +kernel
theorem dX11_proviso_7 : decode cX11_proviso 7 = .ok (.iload_n 2, 1) := by decide +kernel
theorem dX11_proviso_8 : decode cX11_proviso 8 = .ok (.invokestatic 57, 3) := by decide +kernel
theorem dX11_proviso_11 : decode cX11_proviso 11 = .ok (.ifCond .eq 10, 3) := by decide +kernel
theorem dX11_proviso_14 : decode cX11_proviso 14 = .ok (.iload_n 3, 1) := by decide +kernel
theorem dX11_proviso_15 : decode cX11_proviso 15 = .ok (.invokestatic 57, 3) := by decide +kernel
theorem dX11_proviso_18 : decode cX11_proviso 18 = .ok (.ifCond .ne 13, 3) := by decide +kernel
theorem dX11_proviso_21 : decode cX11_proviso 21 = .ok (.new 61, 3) := by decide +kernel
theorem dX11_proviso_24 : decode cX11_proviso 24 = .ok (.dup, 1) := by decide +kernel
theorem dX11_proviso_25 : decode cX11_proviso 25 = .ok (.ldc 139, 2) := by decide +kernel
theorem dX11_proviso_27 : decode cX11_proviso 27 = .ok (.invokespecial 65, 3) := by decide +kernel
theorem dX11_proviso_30 : decode cX11_proviso 30 = .ok (.athrow, 1) := by decide +kernel
theorem dX11_proviso_31 : decode cX11_proviso 31 = .ok (.iload_n 2, 1) := by decide +kernel
theorem dX11_proviso_32 : decode cX11_proviso 32 = .ok (.iload_n 3, 1) := by decide +kernel
theorem dX11_proviso_33 : decode cX11_proviso 33 = .ok (.if_icmp .eq 20, 3) := by decide +kernel
theorem dX11_proviso_36 : decode cX11_proviso 36 = .ok (.iload 4, 2) := by decide +kernel
theorem dX11_proviso_38 : decode cX11_proviso 38 = .ok (.iconst (-1), 1) := by decide +kernel
theorem dX11_proviso_39 : decode cX11_proviso 39 = .ok (.if_icmp .eq 24, 3) := by decide +kernel
theorem dX11_proviso_42 : decode cX11_proviso 42 = .ok (.iload 4, 2) := by decide +kernel
theorem dX11_proviso_44 : decode cX11_proviso 44 = .ok (.iconst 0, 1) := by decide +kernel
theorem dX11_proviso_45 : decode cX11_proviso 45 = .ok (.ldc 87, 2) := by decide +kernel
theorem dX11_proviso_47 : decode cX11_proviso 47 = .ok (.invokestatic 68, 3) := by decide +kernel
theorem dX11_proviso_50 : decode cX11_proviso 50 = .ok (.ifCond .ne 13, 3) := by decide +kernel
theorem dX11_proviso_53 : decode cX11_proviso 53 = .ok (.new 72, 3) := by decide +kernel
theorem dX11_proviso_56 : decode cX11_proviso 56 = .ok (.dup, 1) := by decide +kernel
theorem dX11_proviso_57 : decode cX11_proviso 57 = .ok (.ldc 141, 2) := by decide +kernel
theorem dX11_proviso_59 : decode cX11_proviso 59 = .ok (.invokespecial 76, 3) := by decide +kernel
theorem dX11_proviso_62 : decode cX11_proviso 62 = .ok (.athrow, 1) := by decide +kernel
theorem dX11_proviso_63 : decode cX11_proviso 63 = .ok (.aload_n 0, 1) := by decide +kernel
theorem dX11_proviso_64 : decode cX11_proviso 64 = .ok (.getfield 19, 3) := by decide +kernel
theorem dX11_proviso_67 : decode cX11_proviso 67 = .ok (.iload_n 1, 1) := by decide +kernel
theorem dX11_proviso_68 : decode cX11_proviso 68 = .ok (.iload_n 2, 1) := by decide +kernel
theorem dX11_proviso_69 : decode cX11_proviso 69 = .ok (.iload_n 3, 1) := by decide +kernel
theorem dX11_proviso_70 : decode cX11_proviso 70 = .ok (.iload 4, 2) := by decide +kernel
theorem dX11_proviso_72 : decode cX11_proviso 72 = .ok (.invokevirtual 143, 3) := by decide +kernel
theorem dX11_proviso_75 : decode cX11_proviso 75 = .ok (.ireturn, 1) := by decide +kernel
theorem dX11_penalty_0 : decode cX11_penalty 0 = .ok (.iload_n 1, 1) := by decide +kernel
theorem dX11_penalty_1 : decode cX11_penalty 1 = .ok (.iconst 0, 1) := by decide +kernel
theorem dX11_penalty_2 : decode cX11_penalty 2 = .ok (.bipush 100, 2) := by decide +kernel
theorem dX11_penalty_4 : decode cX11_penalty 4 = .ok (.invokestatic 68, 3) := by decide +kernel
theorem dX11_penalty_7 : decode cX11_penalty 7 = .ok (.ifCond .ne 13, 3) := by decide +kernel
theorem dX11_penalty_10 : decode cX11_penalty 10 = .ok (.new 72, 3) := by decide +kernel
theorem dX11_penalty_13 : decode cX11_penalty 13 = .ok (.dup, 1) := by decide +kernel
theorem dX11_penalty_14 : decode cX11_penalty 14 = .ok (.ldc 147, 2) := by decide +kernel
theorem dX11_penalty_16 : decode cX11_penalty 16 = .ok (.invokespecial 76, 3) := by decide +kernel
theorem dX11_penalty_19 : decode cX11_penalty 19 = .ok (.athrow, 1) := by decide +kernel
theorem dX11_penalty_20 : decode cX11_penalty 20 = .ok (.aload_n 0, 1) := by decide +kernel
theorem dX11_penalty_21 : decode cX11_penalty 21 = .ok (.getfield 149, 3) := by decide +kernel
theorem dX11_penalty_24 : decode cX11_penalty 24 = .ok (.istore_n 2, 1) := by decide +kernel
theorem dX11_penalty_25 : decode cX11_penalty 25 = .ok (.aload_n 0, 1) := by decide +kernel
theorem dX11_penalty_26 : decode cX11_penalty 26 = .ok (.iload_n 1, 1) := by decide +kernel
theorem dX11_penalty_27 : decode cX11_penalty 27 = .ok (.putfield 149, 3) := by decide +kernel
theorem dX11_penalty_30 : decode cX11_penalty 30 = .ok (.iload_n 2, 1) := by decide +kernel
theorem dX11_penalty_31 : decode cX11_penalty 31 = .ok (.ireturn, 1) := by decide +kernel
theorem dX11_leg_0 : decode cX11_leg 0 = .ok (.iload_n 1, 1) := by decide +kernel
theorem dX11_leg_1 : decode cX11_leg 1 = .ok (.invokestatic 57, 3) := by decide +kernel
theorem dX11_leg_4 : decode cX11_leg 4 = .ok (.ifCond .eq 17, 3) := by decide +kernel
theorem dX11_leg_7 : decode cX11_leg 7 = .ok (.iload_n 2, 1) := by decide +kernel
theorem dX11_leg_8 : decode cX11_leg 8 = .ok (.invokestatic 57, 3) := by decide +kernel
theorem dX11_leg_11 : decode cX11_leg 11 = .ok (.ifCond .eq 10, 3) := by decide +kernel
theorem dX11_leg_14 : decode cX11_leg 14 = .ok (.iload_n 3, 1) := by decide +kernel
theorem dX11_leg_15 : decode cX11_leg 15 = .ok (.invokestatic 136, 3) := by decide +kernel
theorem dX11_leg_18 : decode cX11_leg 18 = .ok (.ifCond .ne 13, 3) := by decide +kernel
theorem dX11_leg_21 : decode cX11_leg 21 = .ok (.new 61, 3) := by decide +kernel
theorem dX11_leg_24 : decode cX11_leg 24 = .ok (.dup, 1) := by decide +kernel
theorem dX11_leg_25 : decode cX11_leg 25 = .ok (.ldc 152, 2) := by decide +kernel
theorem dX11_leg_27 : decode cX11_leg 27 = .ok (.invokespecial 65, 3) := by decide +kernel
theorem dX11_leg_30 : decode cX11_leg 30 = .ok (.athrow, 1) := by decide +kernel
theorem dX11_leg_31 : decode cX11_leg 31 = .ok (.iload_n 1, 1) := by decide +kernel
theorem dX11_leg_32 : decode cX11_leg 32 = .ok (.iload_n 2, 1) := by decide +kernel
theorem dX11_leg_33 : decode cX11_leg 33 = .ok (.if_icmp .eq 21, 3) := by decide +kernel
theorem dX11_leg_36 : decode cX11_leg 36 = .ok (.iload 4, 2) := by decide +kernel
theorem dX11_leg_38 : decode cX11_leg 38 = .ok (.aload_n 0, 1) := by decide +kernel
theorem dX11_leg_39 : decode cX11_leg 39 = .ok (.getfield 12, 3) := by decide +kernel
theorem dX11_leg_42 : decode cX11_leg 42 = .ok (.getfield 154, 3) := by decide +kernel
theorem dX11_leg_45 : decode cX11_leg 45 = .ok (.sipush 999, 3) := by decide +kernel
theorem dX11_leg_48 : decode cX11_leg 48 = .ok (.invokestatic 68, 3) := by decide +kernel
theorem dX11_leg_51 : decode cX11_leg 51 = .ok (.ifCond .ne 13, 3) := by decide +kernel
theorem dX11_leg_54 : decode cX11_leg 54 = .ok (.new 72, 3) := by decide +kernel
theorem dX11_leg_57 : decode cX11_leg 57 = .ok (.dup, 1) := by decide +kernel
theorem dX11_leg_58 : decode cX11_leg 58 = .ok (.ldc 157, 2) := by decide +kernel
theorem dX11_leg_60 : decode cX11_leg 60 = .ok (.invokespecial 76, 3) := by decide +kernel
theorem dX11_leg_63 : decode cX11_leg 63 = .ok (.athrow, 1) := by decide +kernel
theorem dX11_leg_64 : decode cX11_leg 64 = .ok (.aload_n 0, 1) := by decide +kernel
theorem dX11_leg_65 : decode cX11_leg 65 = .ok (.getfield 26, 3) := by decide +kernel
theorem dX11_leg_68 : decode cX11_leg 68 = .ok (.iload_n 1, 1) := by decide +kernel
theorem dX11_leg_69 : decode cX11_leg 69 = .ok (.iload 4, 2) := by decide +kernel
theorem dX11_leg_71 : decode cX11_leg 71 = .ok (.invokevirtual 159, 3) := by decide +kernel
theorem dX11_leg_74 : decode cX11_leg 74 = .ok (.ifCond .eq 18, 3) := by decide +kernel
theorem dX11_leg_77 : decode cX11_leg 77 = .ok (.aload_n 0, 1) := by decide +kernel
theorem dX11_leg_78 : decode cX11_leg 78 = .ok (.getfield 12, 3) := by decide +kernel
theorem dX11_leg_81 : decode cX11_leg 81 = .ok (.getfield 77, 3) := by decide +kernel
theorem dX11_leg_84 : decode cX11_leg 84 = .ok (.iload_n 1, 1) := by decide +kernel
theorem dX11_leg_85 : decode cX11_leg 85 = .ok (.iload_n 2, 1) := by decide +kernel
theorem dX11_leg_86 : decode cX11_leg 86 = .ok (.invokevirtual 163, 3) := by decide +kernel
theorem dX11_leg_89 : decode cX11_leg 89 = .ok (.ifCond .ne 13, 3) := by decide +kernel
theorem dX11_leg_92 : decode cX11_leg 92 = .ok (.new 94, 3) := by decide +kernel
theorem dX11_leg_95 : decode cX11_leg 95 = .ok (.dup, 1) := by decide +kernel
theorem dX11_leg_96 : decode cX11_leg 96 = .ok (.ldc 167, 2) := by decide +kernel
theorem dX11_leg_98 : decode cX11_leg 98 = .ok (.invokespecial 98, 3) := by decide +kernel
theorem dX11_leg_101 : decode cX11_leg 101 = .ok (.athrow, 1) := by decide +kernel
theorem dX11_leg_102 : decode cX11_leg 102 = .ok (.aload_n 0, 1) := by decide +kernel
theorem dX11_leg_103 : decode cX11_leg 103 = .ok (.getfield 26, 3) := by decide +kernel
theorem dX11_leg_106 : decode cX11_leg 106 = .ok (.iload_n 1, 1) := by decide +kernel
theorem dX11_leg_107 : decode cX11_leg 107 = .ok (.iload_n 2, 1) := by decide +kernel
theorem dX11_leg_108 : decode cX11_leg 108 = .ok (.iload_n 3, 1) := by decide +kernel
theorem dX11_leg_109 : decode cX11_leg 109 = .ok (.iload 4, 2) := by decide +kernel
theorem dX11_leg_111 : decode cX11_leg 111 = .ok (.invokevirtual 169, 3) := by decide +kernel
theorem dX11_leg_114 : decode cX11_leg 114 = .ok (.ireturn, 1) := by decide +kernel
theorem dX11_part_0 : decode cX11_part 0 = .ok (.aload_n 0, 1) := by decide +kernel
theorem dX11_part_1 : decode cX11_part 1 = .ok (.getfield 26, 3) := by decide +kernel
theorem dX11_part_4 : decode cX11_part 4 = .ok (.iload_n 1, 1) := by decide +kernel
theorem dX11_part_5 : decode cX11_part 5 = .ok (.invokevirtual 176, 3) := by decide +kernel
theorem dX11_part_8 : decode cX11_part 8 = .ok (.ifCond .eq 14, 3) := by decide +kernel
theorem dX11_part_11 : decode cX11_part 11 = .ok (.aload_n 0, 1) := by decide +kernel
theorem dX11_part_12 : decode cX11_part 12 = .ok (.getfield 26, 3) := by decide +kernel
theorem dX11_part_15 : decode cX11_part 15 = .ok (.iload_n 2, 1) := by decide +kernel
theorem dX11_part_16 : decode cX11_part 16 = .ok (.invokevirtual 176, 3) := by decide +kernel
theorem dX11_part_19 : decode cX11_part 19 = .ok (.ifCond .ne 13, 3) := by decide +kernel
theorem dX11_part_22 : decode cX11_part 22 = .ok (.new 61, 3) := by decide +kernel
theorem dX11_part_25 : decode cX11_part 25 = .ok (.dup, 1) := by decide +kernel
theorem dX11_part_26 : decode cX11_part 26 = .ok (.ldc 179, 2) := by decide +kernel
theorem dX11_part_28 : decode cX11_part 28 = .ok (.invokespecial 65, 3) := by decide +kernel
theorem dX11_part_31 : decode cX11_part 31 = .ok (.athrow, 1) := by decide +kernel
theorem dX11_part_32 : decode cX11_part 32 = .ok (.iload_n 2, 1) := by decide +kernel
theorem dX11_part_33 : decode cX11_part 33 = .ok (.iload_n 1, 1) := by decide +kernel
theorem dX11_part_34 : decode cX11_part 34 = .ok (.if_icmp .gt 13, 3) := by decide +kernel
theorem dX11_part_37 : decode cX11_part 37 = .ok (.new 72, 3) := by decide +kernel
theorem dX11_part_40 : decode cX11_part 40 = .ok (.dup, 1) := by decide +kernel
theorem dX11_part_41 : decode cX11_part 41 = .ok (.ldc 181, 2) := by decide +kernel
theorem dX11_part_43 : decode cX11_part 43 = .ok (.invokespecial 76, 3) := by decide +kernel
theorem dX11_part_46 : decode cX11_part 46 = .ok (.athrow, 1) := by decide +kernel
theorem dX11_part_47 : decode cX11_part 47 = .ok (.aload_n 0, 1) := by decide +kernel
theorem dX11_part_48 : decode cX11_part 48 = .ok (.getfield 26, 3) := by decide +kernel
theorem dX11_part_51 : decode cX11_part 51 = .ok (.aload_n 0, 1) := by decide +kernel
theorem dX11_part_52 : decode cX11_part 52 = .ok (.getfield 12, 3) := by decide +kernel
theorem dX11_part_55 : decode cX11_part 55 = .ok (.iload_n 1, 1) := by decide +kernel
theorem dX11_part_56 : decode cX11_part 56 = .ok (.iload_n 2, 1) := by decide +kernel
theorem dX11_part_57 : decode cX11_part 57 = .ok (.invokevirtual 183, 3) := by decide +kernel
theorem dX11_part_60 : decode cX11_part 60 = .ok (.ireturn, 1) := by decide +kernel
theorem dX11_price_0 : decode cX11_price 0 = .ok (.aload_n 0, 1) := by decide +kernel
theorem dX11_price_1 : decode cX11_price 1 = .ok (.getfield 33, 3) := by decide +kernel
theorem dX11_price_4 : decode cX11_price 4 = .ok (.aload_n 0, 1) := by decide +kernel
theorem dX11_price_5 : decode cX11_price 5 = .ok (.getfield 26, 3) := by decide +kernel
theorem dX11_price_8 : decode cX11_price 8 = .ok (.aload_n 0, 1) := by decide +kernel
theorem dX11_price_9 : decode cX11_price 9 = .ok (.getfield 12, 3) := by decide +kernel
theorem dX11_price_12 : decode cX11_price 12 = .ok (.invokevirtual 187, 3) := by decide +kernel
theorem dX11_price_15 : decode cX11_price 15 = .ok (.aload_n 0, 1) := by decide +kernel
theorem dX11_price_16 : decode cX11_price 16 = .ok (.getfield 33, 3) := by decide +kernel
theorem dX11_price_19 : decode cX11_price 19 = .ok (.getfield 191, 3) := by decide +kernel
theorem dX11_price_22 : decode cX11_price 22 = .ok (.ireturn, 1) := by decide +kernel
theorem dX11_priceAnew_0 : decode cX11_priceAnew 0 = .ok (.aload_n 0, 1) := by decide +kernel
theorem dX11_priceAnew_1 : decode cX11_priceAnew 1 = .ok (.getfield 33, 3) := by decide +kernel
theorem dX11_priceAnew_4 : decode cX11_priceAnew 4 = .ok (.aload_n 0, 1) := by decide +kernel
theorem dX11_priceAnew_5 : decode cX11_priceAnew 5 = .ok (.getfield 26, 3) := by decide +kernel
theorem dX11_priceAnew_8 : decode cX11_priceAnew 8 = .ok (.aload_n 0, 1) := by decide +kernel
theorem dX11_priceAnew_9 : decode cX11_priceAnew 9 = .ok (.getfield 12, 3) := by decide +kernel
theorem dX11_priceAnew_12 : decode cX11_priceAnew 12 = .ok (.invokevirtual 194, 3) := by decide +kernel
theorem dX11_priceAnew_15 : decode cX11_priceAnew 15 = .ok (.ireturn, 1) := by decide +kernel
theorem dX11_cuts_0 : decode cX11_cuts 0 = .ok (.aload_n 0, 1) := by decide +kernel
theorem dX11_cuts_1 : decode cX11_cuts 1 = .ok (.getfield 33, 3) := by decide +kernel
theorem dX11_cuts_4 : decode cX11_cuts 4 = .ok (.aload_n 0, 1) := by decide +kernel
theorem dX11_cuts_5 : decode cX11_cuts 5 = .ok (.getfield 26, 3) := by decide +kernel
theorem dX11_cuts_8 : decode cX11_cuts 8 = .ok (.aload_n 0, 1) := by decide +kernel
theorem dX11_cuts_9 : decode cX11_cuts 9 = .ok (.getfield 12, 3) := by decide +kernel
theorem dX11_cuts_12 : decode cX11_cuts 12 = .ok (.invokevirtual 187, 3) := by decide +kernel
theorem dX11_cuts_15 : decode cX11_cuts 15 = .ok (.aload_n 0, 1) := by decide +kernel
theorem dX11_cuts_16 : decode cX11_cuts 16 = .ok (.getfield 33, 3) := by decide +kernel
theorem dX11_cuts_19 : decode cX11_cuts 19 = .ok (.getfield 198, 3) := by decide +kernel
theorem dX11_cuts_22 : decode cX11_cuts 22 = .ok (.ireturn, 1) := by decide +kernel
theorem dX11_issue_0 : decode cX11_issue 0 = .ok (.iload_n 1, 1) := by decide +kernel
theorem dX11_issue_1 : decode cX11_issue 1 = .ok (.invokestatic 136, 3) := by decide +kernel
theorem dX11_issue_4 : decode cX11_issue 4 = .ok (.ifCond .ne 13, 3) := by decide +kernel
theorem dX11_issue_7 : decode cX11_issue 7 = .ok (.new 61, 3) := by decide +kernel
theorem dX11_issue_10 : decode cX11_issue 10 = .ok (.dup, 1) := by decide +kernel
theorem dX11_issue_11 : decode cX11_issue 11 = .ok (.ldc 201, 2) := by decide +kernel
theorem dX11_issue_13 : decode cX11_issue 13 = .ok (.invokespecial 65, 3) := by decide +kernel
theorem dX11_issue_16 : decode cX11_issue 16 = .ok (.athrow, 1) := by decide +kernel
theorem dX11_issue_17 : decode cX11_issue 17 = .ok (.aload_n 0, 1) := by decide +kernel
theorem dX11_issue_18 : decode cX11_issue 18 = .ok (.getfield 33, 3) := by decide +kernel
theorem dX11_issue_21 : decode cX11_issue 21 = .ok (.aload_n 0, 1) := by decide +kernel
theorem dX11_issue_22 : decode cX11_issue 22 = .ok (.getfield 26, 3) := by decide +kernel
theorem dX11_issue_25 : decode cX11_issue 25 = .ok (.aload_n 0, 1) := by decide +kernel
theorem dX11_issue_26 : decode cX11_issue 26 = .ok (.getfield 12, 3) := by decide +kernel
theorem dX11_issue_29 : decode cX11_issue 29 = .ok (.invokevirtual 187, 3) := by decide +kernel
theorem dX11_issue_32 : decode cX11_issue 32 = .ok (.aload_n 0, 1) := by decide +kernel
theorem dX11_issue_33 : decode cX11_issue 33 = .ok (.invokevirtual 203, 3) := by decide +kernel
theorem dX11_issue_36 : decode cX11_issue 36 = .ok (.ifCond .ne 13, 3) := by decide +kernel
theorem dX11_issue_39 : decode cX11_issue 39 = .ok (.new 94, 3) := by decide +kernel
theorem dX11_issue_42 : decode cX11_issue 42 = .ok (.dup, 1) := by decide +kernel
theorem dX11_issue_43 : decode cX11_issue 43 = .ok (.ldc 207, 2) := by decide +kernel
theorem dX11_issue_45 : decode cX11_issue 45 = .ok (.invokespecial 98, 3) := by decide +kernel
theorem dX11_issue_48 : decode cX11_issue 48 = .ok (.athrow, 1) := by decide +kernel
theorem dX11_issue_49 : decode cX11_issue 49 = .ok (.aload_n 0, 1) := by decide +kernel
theorem dX11_issue_50 : decode cX11_issue 50 = .ok (.iload_n 1, 1) := by decide +kernel
theorem dX11_issue_51 : decode cX11_issue 51 = .ok (.invokevirtual 209, 3) := by decide +kernel
theorem dX11_issue_54 : decode cX11_issue 54 = .ok (.astore_n 2, 1) := by decide +kernel
theorem dX11_issue_55 : decode cX11_issue 55 = .ok (.aload_n 0, 1) := by decide +kernel
theorem dX11_issue_56 : decode cX11_issue 56 = .ok (.aload_n 2, 1) := by decide +kernel
theorem dX11_issue_57 : decode cX11_issue 57 = .ok (.aload_n 2, 1) := by decide +kernel
theorem dX11_issue_58 : decode cX11_issue 58 = .ok (.getfield 213, 3) := by decide +kernel
theorem dX11_issue_61 : decode cX11_issue 61 = .ok (.aload_n 2, 1) := by decide +kernel
theorem dX11_issue_62 : decode cX11_issue 62 = .ok (.getfield 216, 3) := by decide +kernel
theorem dX11_issue_65 : decode cX11_issue 65 = .ok (.iadd, 1) := by decide +kernel
theorem dX11_issue_66 : decode cX11_issue 66 = .ok (.invokevirtual 219, 3) := by decide +kernel
theorem dX11_issue_69 : decode cX11_issue 69 = .ok (.aload_n 0, 1) := by decide +kernel
theorem dX11_issue_70 : decode cX11_issue 70 = .ok (.getfield 223, 3) := by decide +kernel
theorem dX11_issue_73 : decode cX11_issue 73 = .ok (.iconst 1, 1) := by decide +kernel
theorem dX11_issue_74 : decode cX11_issue 74 = .ok (.isub, 1) := by decide +kernel
theorem dX11_issue_75 : decode cX11_issue 75 = .ok (.ireturn, 1) := by decide +kernel
theorem dX11_fly_0 : decode cX11_fly 0 = .ok (.aload_n 0, 1) := by decide +kernel
theorem dX11_fly_1 : decode cX11_fly 1 = .ok (.iload_n 1, 1) := by decide +kernel
theorem dX11_fly_2 : decode cX11_fly 2 = .ok (.invokevirtual 226, 3) := by decide +kernel
theorem dX11_fly_5 : decode cX11_fly 5 = .ok (.astore_n 3, 1) := by decide +kernel
theorem dX11_fly_6 : decode cX11_fly 6 = .ok (.aload_n 3, 1) := by decide +kernel
theorem dX11_fly_7 : decode cX11_fly 7 = .ok (.ifnonnull 7, 3) := by decide +kernel
theorem dX11_fly_10 : decode cX11_fly 10 = .ok (.aconst_null, 1) := by decide +kernel
theorem dX11_fly_11 : decode cX11_fly 11 = .ok (.goto 8, 3) := by decide +kernel
theorem dX11_fly_14 : decode cX11_fly 14 = .ok (.aload_n 3, 1) := by decide +kernel
theorem dX11_fly_15 : decode cX11_fly 15 = .ok (.iload_n 2, 1) := by decide +kernel
theorem dX11_fly_16 : decode cX11_fly 16 = .ok (.invokevirtual 229, 3) := by decide +kernel
theorem dX11_fly_19 : decode cX11_fly 19 = .ok (.astore 4, 2) := by decide +kernel
theorem dX11_fly_21 : decode cX11_fly 21 = .ok (.aload_n 3, 1) := by decide +kernel
theorem dX11_fly_22 : decode cX11_fly 22 = .ok (.ifnull 8, 3) := by decide +kernel
theorem dX11_fly_25 : decode cX11_fly 25 = .ok (.aload 4, 2) := by decide +kernel
theorem dX11_fly_27 : decode cX11_fly 27 = .ok (.ifnonnull 13, 3) := by decide +kernel
theorem dX11_fly_30 : decode cX11_fly 30 = .ok (.new 61, 3) := by decide +kernel
theorem dX11_fly_33 : decode cX11_fly 33 = .ok (.dup, 1) := by decide +kernel
theorem dX11_fly_34 : decode cX11_fly 34 = .ok (.ldc 233, 2) := by decide +kernel
theorem dX11_fly_36 : decode cX11_fly 36 = .ok (.invokespecial 65, 3) := by decide +kernel
theorem dX11_fly_39 : decode cX11_fly 39 = .ok (.athrow, 1) := by decide +kernel
theorem dX11_fly_40 : decode cX11_fly 40 = .ok (.aload 4, 2) := by decide +kernel
theorem dX11_fly_42 : decode cX11_fly 42 = .ok (.getfield 235, 3) := by decide +kernel
theorem dX11_fly_45 : decode cX11_fly 45 = .ok (.ifCond .ne 18, 3) := by decide +kernel
theorem dX11_fly_48 : decode cX11_fly 48 = .ok (.aload 4, 2) := by decide +kernel
theorem dX11_fly_50 : decode cX11_fly 50 = .ok (.getfield 240, 3) := by decide +kernel
theorem dX11_fly_53 : decode cX11_fly 53 = .ok (.aload_n 0, 1) := by decide +kernel
theorem dX11_fly_54 : decode cX11_fly 54 = .ok (.getfield 12, 3) := by decide +kernel
theorem dX11_fly_57 : decode cX11_fly 57 = .ok (.getfield 154, 3) := by decide +kernel
theorem dX11_fly_60 : decode cX11_fly 60 = .ok (.if_icmp .le 13, 3) := by decide +kernel
theorem dX11_fly_63 : decode cX11_fly 63 = .ok (.new 94, 3) := by decide +kernel
theorem dX11_fly_66 : decode cX11_fly 66 = .ok (.dup, 1) := by decide +kernel
theorem dX11_fly_67 : decode cX11_fly 67 = .ok (.ldc 243, 2) := by decide +kernel
theorem dX11_fly_69 : decode cX11_fly 69 = .ok (.invokespecial 98, 3) := by decide +kernel
theorem dX11_fly_72 : decode cX11_fly 72 = .ok (.athrow, 1) := by decide +kernel
theorem dX11_fly_73 : decode cX11_fly 73 = .ok (.aload 4, 2) := by decide +kernel
theorem dX11_fly_75 : decode cX11_fly 75 = .ok (.iconst 1, 1) := by decide +kernel
theorem dX11_fly_76 : decode cX11_fly 76 = .ok (.putfield 235, 3) := by decide +kernel
theorem dX11_fly_79 : decode cX11_fly 79 = .ok (.aload_n 3, 1) := by decide +kernel
theorem dX11_fly_80 : decode cX11_fly 80 = .ok (.iload_n 2, 1) := by decide +kernel
theorem dX11_fly_81 : decode cX11_fly 81 = .ok (.iconst 2, 1) := by decide +kernel
theorem dX11_fly_82 : decode cX11_fly 82 = .ok (.invokevirtual 245, 3) := by decide +kernel
theorem dX11_fly_85 : decode cX11_fly 85 = .ok (.aload_n 0, 1) := by decide +kernel
theorem dX11_fly_86 : decode cX11_fly 86 = .ok (.aload_n 3, 1) := by decide +kernel
theorem dX11_fly_87 : decode cX11_fly 87 = .ok (.getfield 249, 3) := by decide +kernel
theorem dX11_fly_90 : decode cX11_fly 90 = .ok (.aload 4, 2) := by decide +kernel
theorem dX11_fly_92 : decode cX11_fly 92 = .ok (.getfield 252, 3) := by decide +kernel
theorem dX11_fly_95 : decode cX11_fly 95 = .ok (.ineg, 1) := by decide +kernel
theorem dX11_fly_96 : decode cX11_fly 96 = .ok (.i2l, 1) := by decide +kernel
theorem dX11_fly_97 : decode cX11_fly 97 = .ok (.invokevirtual 255, 3) := by decide +kernel
theorem dX11_fly_100 : decode cX11_fly 100 = .ok (.aload 4, 2) := by decide +kernel
theorem dX11_fly_102 : decode cX11_fly 102 = .ok (.getfield 259, 3) := by decide +kernel
theorem dX11_fly_105 : decode cX11_fly 105 = .ok (.invokestatic 57, 3) := by decide +kernel
theorem dX11_fly_108 : decode cX11_fly 108 = .ok (.ifCond .eq 22, 3) := by decide +kernel
theorem dX11_fly_111 : decode cX11_fly 111 = .ok (.aload_n 0, 1) := by decide +kernel
theorem dX11_fly_112 : decode cX11_fly 112 = .ok (.getfield 54, 3) := by decide +kernel
theorem dX11_fly_115 : decode cX11_fly 115 = .ok (.aload 4, 2) := by decide +kernel
theorem dX11_fly_117 : decode cX11_fly 117 = .ok (.getfield 259, 3) := by decide +kernel
theorem dX11_fly_120 : decode cX11_fly 120 = .ok (.dup2, 1) := by decide +kernel
theorem dX11_fly_121 : decode cX11_fly 121 = .ok (.laload, 1) := by decide +kernel
theorem dX11_fly_122 : decode cX11_fly 122 = .ok (.aload 4, 2) := by decide +kernel
theorem dX11_fly_124 : decode cX11_fly 124 = .ok (.getfield 252, 3) := by decide +kernel
theorem dX11_fly_127 : decode cX11_fly 127 = .ok (.i2l, 1) := by decide +kernel
theorem dX11_fly_128 : decode cX11_fly 128 = .ok (.ladd, 1) := by decide +kernel
theorem dX11_fly_129 : decode cX11_fly 129 = .ok (.lastore, 1) := by decide +kernel
theorem dX11_fly_130 : decode cX11_fly 130 = .ok (.aload 4, 2) := by decide +kernel
theorem dX11_fly_132 : decode cX11_fly 132 = .ok (.getfield 262, 3) := by decide +kernel
theorem dX11_fly_135 : decode cX11_fly 135 = .ok (.aload_n 3, 1) := by decide +kernel
theorem dX11_fly_136 : decode cX11_fly 136 = .ok (.getfield 249, 3) := by decide +kernel
theorem dX11_fly_139 : decode cX11_fly 139 = .ok (.if_icmp .eq 29, 3) := by decide +kernel
theorem dX11_fly_142 : decode cX11_fly 142 = .ok (.aload 4, 2) := by decide +kernel
theorem dX11_fly_144 : decode cX11_fly 144 = .ok (.aload_n 0, 1) := by decide +kernel
theorem dX11_fly_145 : decode cX11_fly 145 = .ok (.getfield 40, 3) := by decide +kernel
theorem dX11_fly_148 : decode cX11_fly 148 = .ok (.aload_n 3, 1) := by decide +kernel
theorem dX11_fly_149 : decode cX11_fly 149 = .ok (.getfield 249, 3) := by decide +kernel
theorem dX11_fly_152 : decode cX11_fly 152 = .ok (.aload 4, 2) := by decide +kernel
theorem dX11_fly_154 : decode cX11_fly 154 = .ok (.getfield 262, 3) := by decide +kernel
theorem dX11_fly_157 : decode cX11_fly 157 = .ok (.aload 4, 2) := by decide +kernel
theorem dX11_fly_159 : decode cX11_fly 159 = .ok (.getfield 265, 3) := by decide +kernel
theorem dX11_fly_162 : decode cX11_fly 162 = .ok (.invokevirtual 268, 3) := by decide +kernel
theorem dX11_fly_165 : decode cX11_fly 165 = .ok (.putfield 271, 3) := by decide +kernel
theorem dX11_fly_168 : decode cX11_fly 168 = .ok (.aload 4, 2) := by decide +kernel
theorem dX11_fly_170 : decode cX11_fly 170 = .ok (.getfield 271, 3) := by decide +kernel
theorem dX11_fly_173 : decode cX11_fly 173 = .ok (.ireturn, 1) := by decide +kernel
theorem dX11_endorse_0 : decode cX11_endorse 0 = .ok (.aload_n 0, 1) := by decide +kernel
theorem dX11_endorse_1 : decode cX11_endorse 1 = .ok (.iload_n 1, 1) := by decide +kernel
theorem dX11_endorse_2 : decode cX11_endorse 2 = .ok (.invokevirtual 226, 3) := by decide +kernel
theorem dX11_endorse_5 : decode cX11_endorse 5 = .ok (.astore 4, 2) := by decide +kernel
theorem dX11_endorse_7 : decode cX11_endorse 7 = .ok (.aload 4, 2) := by decide +kernel
theorem dX11_endorse_9 : decode cX11_endorse 9 = .ok (.ifnonnull 7, 3) := by decide +kernel
theorem dX11_endorse_12 : decode cX11_endorse 12 = .ok (.aconst_null, 1) := by decide +kernel
theorem dX11_endorse_13 : decode cX11_endorse 13 = .ok (.goto 9, 3) := by decide +kernel
theorem dX11_endorse_16 : decode cX11_endorse 16 = .ok (.aload 4, 2) := by decide +kernel
theorem dX11_endorse_18 : decode cX11_endorse 18 = .ok (.iload_n 2, 1) := by decide +kernel
theorem dX11_endorse_19 : decode cX11_endorse 19 = .ok (.invokevirtual 229, 3) := by decide +kernel
theorem dX11_endorse_22 : decode cX11_endorse 22 = .ok (.astore 5, 2) := by decide +kernel
theorem dX11_endorse_24 : decode cX11_endorse 24 = .ok (.aload 5, 2) := by decide +kernel
theorem dX11_endorse_26 : decode cX11_endorse 26 = .ok (.ifnull 10, 3) := by decide +kernel
theorem dX11_endorse_29 : decode cX11_endorse 29 = .ok (.iload_n 3, 1) := by decide +kernel
theorem dX11_endorse_30 : decode cX11_endorse 30 = .ok (.invokestatic 136, 3) := by decide +kernel
theorem dX11_endorse_33 : decode cX11_endorse 33 = .ok (.ifCond .ne 14, 3) := by decide +kernel
theorem dX11_endorse_36 : decode cX11_endorse 36 = .ok (.new 61, 3) := by decide +kernel
theorem dX11_endorse_39 : decode cX11_endorse 39 = .ok (.dup, 1) := by decide +kernel
theorem dX11_endorse_40 : decode cX11_endorse 40 = .ok (.ldc_w 274, 3) := by decide +kernel
theorem dX11_endorse_43 : decode cX11_endorse 43 = .ok (.invokespecial 65, 3) := by decide +kernel
theorem dX11_endorse_46 : decode cX11_endorse 46 = .ok (.athrow, 1) := by decide +kernel
theorem dX11_endorse_47 : decode cX11_endorse 47 = .ok (.aload 5, 2) := by decide +kernel
theorem dX11_endorse_49 : decode cX11_endorse 49 = .ok (.getfield 235, 3) := by decide +kernel
theorem dX11_endorse_52 : decode cX11_endorse 52 = .ok (.ifCond .ne 12, 3) := by decide +kernel
theorem dX11_endorse_55 : decode cX11_endorse 55 = .ok (.aload 5, 2) := by decide +kernel
theorem dX11_endorse_57 : decode cX11_endorse 57 = .ok (.getfield 262, 3) := by decide +kernel
theorem dX11_endorse_60 : decode cX11_endorse 60 = .ok (.iload_n 3, 1) := by decide +kernel
theorem dX11_endorse_61 : decode cX11_endorse 61 = .ok (.if_icmp .ne 14, 3) := by decide +kernel
theorem dX11_endorse_64 : decode cX11_endorse 64 = .ok (.new 94, 3) := by decide +kernel
theorem dX11_endorse_67 : decode cX11_endorse 67 = .ok (.dup, 1) := by decide +kernel
theorem dX11_endorse_68 : decode cX11_endorse 68 = .ok (.ldc_w 276, 3) := by decide +kernel
theorem dX11_endorse_71 : decode cX11_endorse 71 = .ok (.invokespecial 98, 3) := by decide +kernel
theorem dX11_endorse_74 : decode cX11_endorse 74 = .ok (.athrow, 1) := by decide +kernel
theorem dX11_endorse_75 : decode cX11_endorse 75 = .ok (.aload 5, 2) := by decide +kernel
theorem dX11_endorse_77 : decode cX11_endorse 77 = .ok (.getfield 262, 3) := by decide +kernel
theorem dX11_endorse_80 : decode cX11_endorse 80 = .ok (.istore 6, 2) := by decide +kernel
theorem dX11_endorse_82 : decode cX11_endorse 82 = .ok (.aload 5, 2) := by decide +kernel
theorem dX11_endorse_84 : decode cX11_endorse 84 = .ok (.iload_n 3, 1) := by decide +kernel
theorem dX11_endorse_85 : decode cX11_endorse 85 = .ok (.putfield 262, 3) := by decide +kernel
theorem dX11_endorse_88 : decode cX11_endorse 88 = .ok (.iload 6, 2) := by decide +kernel
theorem dX11_endorse_90 : decode cX11_endorse 90 = .ok (.ireturn, 1) := by decide +kernel
theorem dX11_refund_0 : decode cX11_refund 0 = .ok (.aload_n 0, 1) := by decide +kernel
theorem dX11_refund_1 : decode cX11_refund 1 = .ok (.iload_n 1, 1) := by decide +kernel
theorem dX11_refund_2 : decode cX11_refund 2 = .ok (.invokevirtual 226, 3) := by decide +kernel
theorem dX11_refund_5 : decode cX11_refund 5 = .ok (.astore_n 2, 1) := by decide +kernel
theorem dX11_refund_6 : decode cX11_refund 6 = .ok (.aload_n 2, 1) := by decide +kernel
theorem dX11_refund_7 : decode cX11_refund 7 = .ok (.ifnonnull 14, 3) := by decide +kernel
theorem dX11_refund_10 : decode cX11_refund 10 = .ok (.new 61, 3) := by decide +kernel
theorem dX11_refund_13 : decode cX11_refund 13 = .ok (.dup, 1) := by decide +kernel
theorem dX11_refund_14 : decode cX11_refund 14 = .ok (.ldc_w 278, 3) := by decide +kernel
theorem dX11_refund_17 : decode cX11_refund 17 = .ok (.invokespecial 65, 3) := by decide +kernel
theorem dX11_refund_20 : decode cX11_refund 20 = .ok (.athrow, 1) := by decide +kernel
theorem dX11_refund_21 : decode cX11_refund 21 = .ok (.aload_n 2, 1) := by decide +kernel
theorem dX11_refund_22 : decode cX11_refund 22 = .ok (.invokevirtual 280, 3) := by decide +kernel
theorem dX11_refund_25 : decode cX11_refund 25 = .ok (.ifCond .ne 14, 3) := by decide +kernel
theorem dX11_refund_28 : decode cX11_refund 28 = .ok (.new 94, 3) := by decide +kernel
theorem dX11_refund_31 : decode cX11_refund 31 = .ok (.dup, 1) := by decide +kernel
theorem dX11_refund_32 : decode cX11_refund 32 = .ok (.ldc_w 283, 3) := by decide +kernel
theorem dX11_refund_35 : decode cX11_refund 35 = .ok (.invokespecial 98, 3) := by decide +kernel
theorem dX11_refund_38 : decode cX11_refund 38 = .ok (.athrow, 1) := by decide +kernel
theorem dX11_refund_39 : decode cX11_refund 39 = .ok (.aload_n 2, 1) := by decide +kernel
theorem dX11_refund_40 : decode cX11_refund 40 = .ok (.invokevirtual 285, 3) := by decide +kernel
theorem dX11_refund_43 : decode cX11_refund 43 = .ok (.istore_n 3, 1) := by decide +kernel
theorem dX11_refund_44 : decode cX11_refund 44 = .ok (.iload_n 3, 1) := by decide +kernel
theorem dX11_refund_45 : decode cX11_refund 45 = .ok (.i2l, 1) := by decide +kernel
theorem dX11_refund_46 : decode cX11_refund 46 = .ok (.aload_n 0, 1) := by decide +kernel
theorem dX11_refund_47 : decode cX11_refund 47 = .ok (.getfield 149, 3) := by decide +kernel
theorem dX11_refund_50 : decode cX11_refund 50 = .ok (.i2l, 1) := by decide +kernel
theorem dX11_refund_51 : decode cX11_refund 51 = .ok (.lmul, 1) := by decide +kernel
theorem dX11_refund_52 : decode cX11_refund 52 = .ok (.ldc2_w 288, 3) := by decide +kernel
theorem dX11_refund_55 : decode cX11_refund 55 = .ok (.ladd, 1) := by decide +kernel
theorem dX11_refund_56 : decode cX11_refund 56 = .ok (.lconst 1, 1) := by decide +kernel
theorem dX11_refund_57 : decode cX11_refund 57 = .ok (.lsub, 1) := by decide +kernel
theorem dX11_refund_58 : decode cX11_refund 58 = .ok (.ldc2_w 288, 3) := by decide +kernel
theorem dX11_refund_61 : decode cX11_refund 61 = .ok (.ldiv, 1) := by decide +kernel
theorem dX11_refund_62 : decode cX11_refund 62 = .ok (.l2i, 1) := by decide +kernel
theorem dX11_refund_63 : decode cX11_refund 63 = .ok (.istore 4, 2) := by decide +kernel
theorem dX11_refund_65 : decode cX11_refund 65 = .ok (.iload_n 3, 1) := by decide +kernel
theorem dX11_refund_66 : decode cX11_refund 66 = .ok (.iload 4, 2) := by decide +kernel
theorem dX11_refund_68 : decode cX11_refund 68 = .ok (.isub, 1) := by decide +kernel
theorem dX11_refund_69 : decode cX11_refund 69 = .ok (.aload_n 2, 1) := by decide +kernel
theorem dX11_refund_70 : decode cX11_refund 70 = .ok (.invokevirtual 290, 3) := by decide +kernel
theorem dX11_refund_73 : decode cX11_refund 73 = .ok (.iadd, 1) := by decide +kernel
theorem dX11_refund_74 : decode cX11_refund 74 = .ok (.istore 5, 2) := by decide +kernel
theorem dX11_refund_76 : decode cX11_refund 76 = .ok (.aload_n 2, 1) := by decide +kernel
theorem dX11_refund_77 : decode cX11_refund 77 = .ok (.aload_n 2, 1) := by decide +kernel
theorem dX11_refund_78 : decode cX11_refund 78 = .ok (.getfield 293, 3) := by decide +kernel
theorem dX11_refund_81 : decode cX11_refund 81 = .ok (.iconst 3, 1) := by decide +kernel
theorem dX11_refund_82 : decode cX11_refund 82 = .ok (.invokevirtual 245, 3) := by decide +kernel
theorem dX11_refund_85 : decode cX11_refund 85 = .ok (.aload_n 0, 1) := by decide +kernel
theorem dX11_refund_86 : decode cX11_refund 86 = .ok (.aload_n 2, 1) := by decide +kernel
theorem dX11_refund_87 : decode cX11_refund 87 = .ok (.iload 5, 2) := by decide +kernel
theorem dX11_refund_89 : decode cX11_refund 89 = .ok (.ineg, 1) := by decide +kernel
theorem dX11_refund_90 : decode cX11_refund 90 = .ok (.invokevirtual 219, 3) := by decide +kernel
theorem dX11_refund_93 : decode cX11_refund 93 = .ok (.iload 5, 2) := by decide +kernel
theorem dX11_refund_95 : decode cX11_refund 95 = .ok (.ireturn, 1) := by decide +kernel
theorem dX11_reissue_0 : decode cX11_reissue 0 = .ok (.aload_n 0, 1) := by decide +kernel
theorem dX11_reissue_1 : decode cX11_reissue 1 = .ok (.iload_n 1, 1) := by decide +kernel
theorem dX11_reissue_2 : decode cX11_reissue 2 = .ok (.invokevirtual 226, 3) := by decide +kernel
theorem dX11_reissue_5 : decode cX11_reissue 5 = .ok (.astore_n 2, 1) := by decide +kernel
theorem dX11_reissue_6 : decode cX11_reissue 6 = .ok (.aload_n 2, 1) := by decide +kernel
theorem dX11_reissue_7 : decode cX11_reissue 7 = .ok (.ifnonnull 14, 3) := by decide +kernel
theorem dX11_reissue_10 : decode cX11_reissue 10 = .ok (.new 61, 3) := by decide +kernel
theorem dX11_reissue_13 : decode cX11_reissue 13 = .ok (.dup, 1) := by decide +kernel
theorem dX11_reissue_14 : decode cX11_reissue 14 = .ok (.ldc_w 278, 3) := by decide +kernel
theorem dX11_reissue_17 : decode cX11_reissue 17 = .ok (.invokespecial 65, 3) := by decide +kernel
theorem dX11_reissue_20 : decode cX11_reissue 20 = .ok (.athrow, 1) := by decide +kernel
theorem dX11_reissue_21 : decode cX11_reissue 21 = .ok (.aload_n 0, 1) := by decide +kernel
theorem dX11_reissue_22 : decode cX11_reissue 22 = .ok (.getfield 33, 3) := by decide +kernel
theorem dX11_reissue_25 : decode cX11_reissue 25 = .ok (.aload_n 0, 1) := by decide +kernel
theorem dX11_reissue_26 : decode cX11_reissue 26 = .ok (.getfield 26, 3) := by decide +kernel
theorem dX11_reissue_29 : decode cX11_reissue 29 = .ok (.aload_n 0, 1) := by decide +kernel
theorem dX11_reissue_30 : decode cX11_reissue 30 = .ok (.getfield 12, 3) := by decide +kernel
theorem dX11_reissue_33 : decode cX11_reissue 33 = .ok (.invokevirtual 187, 3) := by decide +kernel
theorem dX11_reissue_36 : decode cX11_reissue 36 = .ok (.aload_n 2, 1) := by decide +kernel
theorem dX11_reissue_37 : decode cX11_reissue 37 = .ok (.invokevirtual 280, 3) := by decide +kernel
theorem dX11_reissue_40 : decode cX11_reissue 40 = .ok (.ifCond .eq 10, 3) := by decide +kernel
theorem dX11_reissue_43 : decode cX11_reissue 43 = .ok (.aload_n 0, 1) := by decide +kernel
theorem dX11_reissue_44 : decode cX11_reissue 44 = .ok (.invokevirtual 203, 3) := by decide +kernel
theorem dX11_reissue_47 : decode cX11_reissue 47 = .ok (.ifCond .ne 14, 3) := by decide +kernel
theorem dX11_reissue_50 : decode cX11_reissue 50 = .ok (.new 94, 3) := by decide +kernel
theorem dX11_reissue_53 : decode cX11_reissue 53 = .ok (.dup, 1) := by decide +kernel
theorem dX11_reissue_54 : decode cX11_reissue 54 = .ok (.ldc_w 296, 3) := by decide +kernel
theorem dX11_reissue_57 : decode cX11_reissue 57 = .ok (.invokespecial 98, 3) := by decide +kernel
theorem dX11_reissue_60 : decode cX11_reissue 60 = .ok (.athrow, 1) := by decide +kernel
theorem dX11_reissue_61 : decode cX11_reissue 61 = .ok (.aload_n 2, 1) := by decide +kernel
theorem dX11_reissue_62 : decode cX11_reissue 62 = .ok (.invokevirtual 285, 3) := by decide +kernel
theorem dX11_reissue_65 : decode cX11_reissue 65 = .ok (.aload_n 2, 1) := by decide +kernel
theorem dX11_reissue_66 : decode cX11_reissue 66 = .ok (.invokevirtual 290, 3) := by decide +kernel
theorem dX11_reissue_69 : decode cX11_reissue 69 = .ok (.iadd, 1) := by decide +kernel
theorem dX11_reissue_70 : decode cX11_reissue 70 = .ok (.istore_n 3, 1) := by decide +kernel
theorem dX11_reissue_71 : decode cX11_reissue 71 = .ok (.aload_n 2, 1) := by decide +kernel
theorem dX11_reissue_72 : decode cX11_reissue 72 = .ok (.aload_n 2, 1) := by decide +kernel
theorem dX11_reissue_73 : decode cX11_reissue 73 = .ok (.getfield 293, 3) := by decide +kernel
theorem dX11_reissue_76 : decode cX11_reissue 76 = .ok (.iconst 4, 1) := by decide +kernel
theorem dX11_reissue_77 : decode cX11_reissue 77 = .ok (.invokevirtual 245, 3) := by decide +kernel
theorem dX11_reissue_80 : decode cX11_reissue 80 = .ok (.aload_n 0, 1) := by decide +kernel
theorem dX11_reissue_81 : decode cX11_reissue 81 = .ok (.aload_n 2, 1) := by decide +kernel
theorem dX11_reissue_82 : decode cX11_reissue 82 = .ok (.getfield 249, 3) := by decide +kernel
theorem dX11_reissue_85 : decode cX11_reissue 85 = .ok (.invokevirtual 209, 3) := by decide +kernel
theorem dX11_reissue_88 : decode cX11_reissue 88 = .ok (.astore 4, 2) := by decide +kernel
theorem dX11_reissue_90 : decode cX11_reissue 90 = .ok (.aload 4, 2) := by decide +kernel
theorem dX11_reissue_92 : decode cX11_reissue 92 = .ok (.getfield 213, 3) := by decide +kernel
theorem dX11_reissue_95 : decode cX11_reissue 95 = .ok (.aload 4, 2) := by decide +kernel
theorem dX11_reissue_97 : decode cX11_reissue 97 = .ok (.getfield 216, 3) := by decide +kernel
theorem dX11_reissue_100 : decode cX11_reissue 100 = .ok (.iadd, 1) := by decide +kernel
theorem dX11_reissue_101 : decode cX11_reissue 101 = .ok (.iload_n 3, 1) := by decide +kernel
theorem dX11_reissue_102 : decode cX11_reissue 102 = .ok (.isub, 1) := by decide +kernel
theorem dX11_reissue_103 : decode cX11_reissue 103 = .ok (.istore 5, 2) := by decide +kernel
theorem dX11_reissue_105 : decode cX11_reissue 105 = .ok (.aload_n 0, 1) := by decide +kernel
theorem dX11_reissue_106 : decode cX11_reissue 106 = .ok (.aload 4, 2) := by decide +kernel
theorem dX11_reissue_108 : decode cX11_reissue 108 = .ok (.iload 5, 2) := by decide +kernel
theorem dX11_reissue_110 : decode cX11_reissue 110 = .ok (.invokevirtual 219, 3) := by decide +kernel
theorem dX11_reissue_113 : decode cX11_reissue 113 = .ok (.iload 5, 2) := by decide +kernel
theorem dX11_reissue_115 : decode cX11_reissue 115 = .ok (.ireturn, 1) := by decide +kernel
theorem dX11_pass_0 : decode cX11_pass 0 = .ok (.iload_n 1, 1) := by decide +kernel
theorem dX11_pass_1 : decode cX11_pass 1 = .ok (.iconst 1, 1) := by decide +kernel
theorem dX11_pass_2 : decode cX11_pass 2 = .ok (.bipush 100, 2) := by decide +kernel
theorem dX11_pass_4 : decode cX11_pass 4 = .ok (.invokestatic 68, 3) := by decide +kernel
theorem dX11_pass_7 : decode cX11_pass 7 = .ok (.ifCond .ne 14, 3) := by decide +kernel
theorem dX11_pass_10 : decode cX11_pass 10 = .ok (.new 72, 3) := by decide +kernel
theorem dX11_pass_13 : decode cX11_pass 13 = .ok (.dup, 1) := by decide +kernel
theorem dX11_pass_14 : decode cX11_pass 14 = .ok (.ldc_w 298, 3) := by decide +kernel
theorem dX11_pass_17 : decode cX11_pass 17 = .ok (.invokespecial 76, 3) := by decide +kernel
theorem dX11_pass_20 : decode cX11_pass 20 = .ok (.athrow, 1) := by decide +kernel
theorem dX11_pass_21 : decode cX11_pass 21 = .ok (.aload_n 0, 1) := by decide +kernel
theorem dX11_pass_22 : decode cX11_pass 22 = .ok (.getfield 12, 3) := by decide +kernel
theorem dX11_pass_25 : decode cX11_pass 25 = .ok (.getfield 154, 3) := by decide +kernel
theorem dX11_pass_28 : decode cX11_pass 28 = .ok (.iload_n 1, 1) := by decide +kernel
theorem dX11_pass_29 : decode cX11_pass 29 = .ok (.iadd, 1) := by decide +kernel
theorem dX11_pass_30 : decode cX11_pass 30 = .ok (.sipush 999, 3) := by decide +kernel
theorem dX11_pass_33 : decode cX11_pass 33 = .ok (.if_icmp .le 14, 3) := by decide +kernel
theorem dX11_pass_36 : decode cX11_pass 36 = .ok (.new 94, 3) := by decide +kernel
theorem dX11_pass_39 : decode cX11_pass 39 = .ok (.dup, 1) := by decide +kernel
theorem dX11_pass_40 : decode cX11_pass 40 = .ok (.ldc_w 300, 3) := by decide +kernel
theorem dX11_pass_43 : decode cX11_pass 43 = .ok (.invokespecial 98, 3) := by decide +kernel
theorem dX11_pass_46 : decode cX11_pass 46 = .ok (.athrow, 1) := by decide +kernel
theorem dX11_pass_47 : decode cX11_pass 47 = .ok (.aload_n 0, 1) := by decide +kernel
theorem dX11_pass_48 : decode cX11_pass 48 = .ok (.getfield 12, 3) := by decide +kernel
theorem dX11_pass_51 : decode cX11_pass 51 = .ok (.dup, 1) := by decide +kernel
theorem dX11_pass_52 : decode cX11_pass 52 = .ok (.getfield 154, 3) := by decide +kernel
theorem dX11_pass_55 : decode cX11_pass 55 = .ok (.iload_n 1, 1) := by decide +kernel
theorem dX11_pass_56 : decode cX11_pass 56 = .ok (.iadd, 1) := by decide +kernel
theorem dX11_pass_57 : decode cX11_pass 57 = .ok (.putfield 154, 3) := by decide +kernel
theorem dX11_pass_60 : decode cX11_pass 60 = .ok (.aload_n 0, 1) := by decide +kernel
theorem dX11_pass_61 : decode cX11_pass 61 = .ok (.getfield 12, 3) := by decide +kernel
theorem dX11_pass_64 : decode cX11_pass 64 = .ok (.getfield 154, 3) := by decide +kernel
theorem dX11_pass_67 : decode cX11_pass 67 = .ok (.ireturn, 1) := by decide +kernel
theorem dX11_clear_0 : decode cX11_clear 0 = .ok (.aload_n 0, 1) := by decide +kernel
theorem dX11_clear_1 : decode cX11_clear 1 = .ok (.getfield 40, 3) := by decide +kernel
theorem dX11_clear_4 : decode cX11_clear 4 = .ok (.invokevirtual 302, 3) := by decide +kernel
theorem dX11_clear_7 : decode cX11_clear 7 = .ok (.aload_n 0, 1) := by decide +kernel
theorem dX11_clear_8 : decode cX11_clear 8 = .ok (.invokevirtual 305, 3) := by decide +kernel
theorem dX11_clear_11 : decode cX11_clear 11 = .ok (.aload_n 0, 1) := by decide +kernel
theorem dX11_clear_12 : decode cX11_clear 12 = .ok (.getfield 40, 3) := by decide +kernel
theorem dX11_clear_15 : decode cX11_clear 15 = .ok (.invokevirtual 308, 3) := by decide +kernel
theorem dX11_clear_18 : decode cX11_clear 18 = .ok (.lreturn, 1) := by decide +kernel
theorem dX11_reject_0 : decode cX11_reject 0 = .ok (.aload_n 0, 1) := by decide +kernel
theorem dX11_reject_1 : decode cX11_reject 1 = .ok (.getfield 40, 3) := by decide +kernel
theorem dX11_reject_4 : decode cX11_reject 4 = .ok (.iload_n 1, 1) := by decide +kernel
theorem dX11_reject_5 : decode cX11_reject 5 = .ok (.invokevirtual 312, 3) := by decide +kernel
theorem dX11_reject_8 : decode cX11_reject 8 = .ok (.astore_n 2, 1) := by decide +kernel
theorem dX11_reject_9 : decode cX11_reject 9 = .ok (.aload_n 2, 1) := by decide +kernel
theorem dX11_reject_10 : decode cX11_reject 10 = .ok (.ifnonnull 14, 3) := by decide +kernel
theorem dX11_reject_13 : decode cX11_reject 13 = .ok (.new 61, 3) := by decide +kernel
theorem dX11_reject_16 : decode cX11_reject 16 = .ok (.dup, 1) := by decide +kernel
theorem dX11_reject_17 : decode cX11_reject 17 = .ok (.ldc_w 316, 3) := by decide +kernel
theorem dX11_reject_20 : decode cX11_reject 20 = .ok (.invokespecial 65, 3) := by decide +kernel
theorem dX11_reject_23 : decode cX11_reject 23 = .ok (.athrow, 1) := by decide +kernel
theorem dX11_reject_24 : decode cX11_reject 24 = .ok (.aload_n 2, 1) := by decide +kernel
theorem dX11_reject_25 : decode cX11_reject 25 = .ok (.getfield 318, 3) := by decide +kernel
theorem dX11_reject_28 : decode cX11_reject 28 = .ok (.iconst 1, 1) := by decide +kernel
theorem dX11_reject_29 : decode cX11_reject 29 = .ok (.if_icmp .ne 19, 3) := by decide +kernel
theorem dX11_reject_32 : decode cX11_reject 32 = .ok (.aload_n 2, 1) := by decide +kernel
theorem dX11_reject_33 : decode cX11_reject 33 = .ok (.getfield 321, 3) := by decide +kernel
theorem dX11_reject_36 : decode cX11_reject 36 = .ok (.aload_n 0, 1) := by decide +kernel
theorem dX11_reject_37 : decode cX11_reject 37 = .ok (.getfield 40, 3) := by decide +kernel
theorem dX11_reject_40 : decode cX11_reject 40 = .ok (.getfield 324, 3) := by decide +kernel
theorem dX11_reject_43 : decode cX11_reject 43 = .ok (.iconst 1, 1) := by decide +kernel
theorem dX11_reject_44 : decode cX11_reject 44 = .ok (.isub, 1) := by decide +kernel
theorem dX11_reject_45 : decode cX11_reject 45 = .ok (.if_icmp .ge 14, 3) := by decide +kernel
theorem dX11_reject_48 : decode cX11_reject 48 = .ok (.new 94, 3) := by decide +kernel
theorem dX11_reject_51 : decode cX11_reject 51 = .ok (.dup, 1) := by decide +kernel
theorem dX11_reject_52 : decode cX11_reject 52 = .ok (.ldc_w 327, 3) := by decide +kernel
theorem dX11_reject_55 : decode cX11_reject 55 = .ok (.invokespecial 98, 3) := by decide +kernel
theorem dX11_reject_58 : decode cX11_reject 58 = .ok (.athrow, 1) := by decide +kernel
theorem dX11_reject_59 : decode cX11_reject 59 = .ok (.aload_n 2, 1) := by decide +kernel
theorem dX11_reject_60 : decode cX11_reject 60 = .ok (.iconst 2, 1) := by decide +kernel
theorem dX11_reject_61 : decode cX11_reject 61 = .ok (.putfield 318, 3) := by decide +kernel
theorem dX11_reject_64 : decode cX11_reject 64 = .ok (.aload_n 2, 1) := by decide +kernel
theorem dX11_reject_65 : decode cX11_reject 65 = .ok (.dup, 1) := by decide +kernel
theorem dX11_reject_66 : decode cX11_reject 66 = .ok (.getfield 329, 3) := by decide +kernel
theorem dX11_reject_69 : decode cX11_reject 69 = .ok (.iconst 1, 1) := by decide +kernel
theorem dX11_reject_70 : decode cX11_reject 70 = .ok (.iadd, 1) := by decide +kernel
theorem dX11_reject_71 : decode cX11_reject 71 = .ok (.putfield 329, 3) := by decide +kernel
theorem dX11_reject_74 : decode cX11_reject 74 = .ok (.aload_n 2, 1) := by decide +kernel
theorem dX11_reject_75 : decode cX11_reject 75 = .ok (.getfield 329, 3) := by decide +kernel
theorem dX11_reject_78 : decode cX11_reject 78 = .ok (.ireturn, 1) := by decide +kernel
theorem dX11_rebill_0 : decode cX11_rebill 0 = .ok (.aload_n 0, 1) := by decide +kernel
theorem dX11_rebill_1 : decode cX11_rebill 1 = .ok (.getfield 40, 3) := by decide +kernel
theorem dX11_rebill_4 : decode cX11_rebill 4 = .ok (.iload_n 1, 1) := by decide +kernel
theorem dX11_rebill_5 : decode cX11_rebill 5 = .ok (.invokevirtual 312, 3) := by decide +kernel
theorem dX11_rebill_8 : decode cX11_rebill 8 = .ok (.astore_n 2, 1) := by decide +kernel
theorem dX11_rebill_9 : decode cX11_rebill 9 = .ok (.aload_n 2, 1) := by decide +kernel
theorem dX11_rebill_10 : decode cX11_rebill 10 = .ok (.ifnonnull 14, 3) := by decide +kernel
theorem dX11_rebill_13 : decode cX11_rebill 13 = .ok (.new 61, 3) := by decide +kernel
theorem dX11_rebill_16 : decode cX11_rebill 16 = .ok (.dup, 1) := by decide +kernel
theorem dX11_rebill_17 : decode cX11_rebill 17 = .ok (.ldc_w 316, 3) := by decide +kernel
theorem dX11_rebill_20 : decode cX11_rebill 20 = .ok (.invokespecial 65, 3) := by decide +kernel
theorem dX11_rebill_23 : decode cX11_rebill 23 = .ok (.athrow, 1) := by decide +kernel
theorem dX11_rebill_24 : decode cX11_rebill 24 = .ok (.aload_n 2, 1) := by decide +kernel
theorem dX11_rebill_25 : decode cX11_rebill 25 = .ok (.getfield 318, 3) := by decide +kernel
theorem dX11_rebill_28 : decode cX11_rebill 28 = .ok (.iconst 3, 1) := by decide +kernel
theorem dX11_rebill_29 : decode cX11_rebill 29 = .ok (.if_icmp .eq 14, 3) := by decide +kernel
theorem dX11_rebill_32 : decode cX11_rebill 32 = .ok (.new 94, 3) := by decide +kernel
theorem dX11_rebill_35 : decode cX11_rebill 35 = .ok (.dup, 1) := by decide +kernel
theorem dX11_rebill_36 : decode cX11_rebill 36 = .ok (.ldc_w 332, 3) := by decide +kernel
theorem dX11_rebill_39 : decode cX11_rebill 39 = .ok (.invokespecial 98, 3) := by decide +kernel
theorem dX11_rebill_42 : decode cX11_rebill 42 = .ok (.athrow, 1) := by decide +kernel
theorem dX11_rebill_43 : decode cX11_rebill 43 = .ok (.aload_n 2, 1) := by decide +kernel
theorem dX11_rebill_44 : decode cX11_rebill 44 = .ok (.iconst 0, 1) := by decide +kernel
theorem dX11_rebill_45 : decode cX11_rebill 45 = .ok (.putfield 318, 3) := by decide +kernel
theorem dX11_rebill_48 : decode cX11_rebill 48 = .ok (.return_, 1) := by decide +kernel
theorem dX11_fails_0 : decode cX11_fails 0 = .ok (.iload_n 1, 1) := by decide +kernel
theorem dX11_fails_1 : decode cX11_fails 1 = .ok (.invokestatic 136, 3) := by decide +kernel
theorem dX11_fails_4 : decode cX11_fails 4 = .ok (.ifCond .ne 13, 3) := by decide +kernel
theorem dX11_fails_7 : decode cX11_fails 7 = .ok (.new 61, 3) := by decide +kernel
theorem dX11_fails_10 : decode cX11_fails 10 = .ok (.dup, 1) := by decide +kernel
theorem dX11_fails_11 : decode cX11_fails 11 = .ok (.ldc 201, 2) := by decide +kernel
theorem dX11_fails_13 : decode cX11_fails 13 = .ok (.invokespecial 65, 3) := by decide +kernel
theorem dX11_fails_16 : decode cX11_fails 16 = .ok (.athrow, 1) := by decide +kernel
theorem dX11_fails_17 : decode cX11_fails 17 = .ok (.aload_n 0, 1) := by decide +kernel
theorem dX11_fails_18 : decode cX11_fails 18 = .ok (.getfield 40, 3) := by decide +kernel
theorem dX11_fails_21 : decode cX11_fails 21 = .ok (.iload_n 1, 1) := by decide +kernel
theorem dX11_fails_22 : decode cX11_fails 22 = .ok (.invokevirtual 334, 3) := by decide +kernel
theorem dX11_fails_25 : decode cX11_fails 25 = .ok (.istore_n 3, 1) := by decide +kernel
theorem dX11_fails_26 : decode cX11_fails 26 = .ok (.aload_n 0, 1) := by decide +kernel
theorem dX11_fails_27 : decode cX11_fails 27 = .ok (.getfield 40, 3) := by decide +kernel
theorem dX11_fails_30 : decode cX11_fails 30 = .ok (.iload_n 1, 1) := by decide +kernel
theorem dX11_fails_31 : decode cX11_fails 31 = .ok (.iload_n 2, 1) := by decide +kernel
theorem dX11_fails_32 : decode cX11_fails 32 = .ok (.invokevirtual 337, 3) := by decide +kernel
theorem dX11_fails_35 : decode cX11_fails 35 = .ok (.iload_n 3, 1) := by decide +kernel
theorem dX11_fails_36 : decode cX11_fails 36 = .ok (.ifCond .ne 7, 3) := by decide +kernel
theorem dX11_fails_39 : decode cX11_fails 39 = .ok (.iload_n 2, 1) := by decide +kernel
theorem dX11_fails_40 : decode cX11_fails 40 = .ok (.ifCond .ne 5, 3) := by decide +kernel
theorem dX11_fails_43 : decode cX11_fails 43 = .ok (.iconst 0, 1) := by decide +kernel
theorem dX11_fails_44 : decode cX11_fails 44 = .ok (.ireturn, 1) := by decide +kernel
theorem dX11_fails_45 : decode cX11_fails 45 = .ok (.aload_n 0, 1) := by decide +kernel
theorem dX11_fails_46 : decode cX11_fails 46 = .ok (.getfield 40, 3) := by decide +kernel
theorem dX11_fails_49 : decode cX11_fails 49 = .ok (.iload_n 1, 1) := by decide +kernel
theorem dX11_fails_50 : decode cX11_fails 50 = .ok (.invokevirtual 341, 3) := by decide +kernel
theorem dX11_fails_53 : decode cX11_fails 53 = .ok (.istore 4, 2) := by decide +kernel
theorem dX11_fails_55 : decode cX11_fails 55 = .ok (.aload_n 0, 1) := by decide +kernel
theorem dX11_fails_56 : decode cX11_fails 56 = .ok (.invokevirtual 305, 3) := by decide +kernel
theorem dX11_fails_59 : decode cX11_fails 59 = .ok (.iload 4, 2) := by decide +kernel
theorem dX11_fails_61 : decode cX11_fails 61 = .ok (.ireturn, 1) := by decide +kernel
theorem dX11_ofTicket_0 : decode cX11_ofTicket 0 = .ok (.aload_n 0, 1) := by decide +kernel
theorem dX11_ofTicket_1 : decode cX11_ofTicket 1 = .ok (.iload_n 1, 1) := by decide +kernel
theorem dX11_ofTicket_2 : decode cX11_ofTicket 2 = .ok (.invokevirtual 226, 3) := by decide +kernel
theorem dX11_ofTicket_5 : decode cX11_ofTicket 5 = .ok (.astore_n 3, 1) := by decide +kernel
theorem dX11_ofTicket_6 : decode cX11_ofTicket 6 = .ok (.aload_n 3, 1) := by decide +kernel
theorem dX11_ofTicket_7 : decode cX11_ofTicket 7 = .ok (.ifnonnull 14, 3) := by decide +kernel
theorem dX11_ofTicket_10 : decode cX11_ofTicket 10 = .ok (.new 61, 3) := by decide +kernel
theorem dX11_ofTicket_13 : decode cX11_ofTicket 13 = .ok (.dup, 1) := by decide +kernel
theorem dX11_ofTicket_14 : decode cX11_ofTicket 14 = .ok (.ldc_w 278, 3) := by decide +kernel
theorem dX11_ofTicket_17 : decode cX11_ofTicket 17 = .ok (.invokespecial 65, 3) := by decide +kernel
theorem dX11_ofTicket_20 : decode cX11_ofTicket 20 = .ok (.athrow, 1) := by decide +kernel
theorem dX11_ofTicket_21 : decode cX11_ofTicket 21 = .ok (.iload_n 2, 1) := by decide +kernel
theorem dX11_ofTicket_22 : decode cX11_ofTicket 22 = .ok (.tableswitch 68 0 5 #[38, 43, 48, 53, 58, 63], 38) := by decide +kernel
theorem dX11_ofTicket_60 : decode cX11_ofTicket 60 = .ok (.aload_n 3, 1) := by decide +kernel
theorem dX11_ofTicket_61 : decode cX11_ofTicket 61 = .ok (.getfield 213, 3) := by decide +kernel
theorem dX11_ofTicket_64 : decode cX11_ofTicket 64 = .ok (.ireturn, 1) := by decide +kernel
theorem dX11_ofTicket_65 : decode cX11_ofTicket 65 = .ok (.aload_n 3, 1) := by decide +kernel
theorem dX11_ofTicket_66 : decode cX11_ofTicket 66 = .ok (.getfield 216, 3) := by decide +kernel
theorem dX11_ofTicket_69 : decode cX11_ofTicket 69 = .ok (.ireturn, 1) := by decide +kernel
theorem dX11_ofTicket_70 : decode cX11_ofTicket 70 = .ok (.aload_n 3, 1) := by decide +kernel
theorem dX11_ofTicket_71 : decode cX11_ofTicket 71 = .ok (.getfield 249, 3) := by decide +kernel
theorem dX11_ofTicket_74 : decode cX11_ofTicket 74 = .ok (.ireturn, 1) := by decide +kernel
theorem dX11_ofTicket_75 : decode cX11_ofTicket 75 = .ok (.aload_n 3, 1) := by decide +kernel
theorem dX11_ofTicket_76 : decode cX11_ofTicket 76 = .ok (.getfield 293, 3) := by decide +kernel
theorem dX11_ofTicket_79 : decode cX11_ofTicket 79 = .ok (.ireturn, 1) := by decide +kernel
theorem dX11_ofTicket_80 : decode cX11_ofTicket 80 = .ok (.aload_n 3, 1) := by decide +kernel
theorem dX11_ofTicket_81 : decode cX11_ofTicket 81 = .ok (.getfield 345, 3) := by decide +kernel
theorem dX11_ofTicket_84 : decode cX11_ofTicket 84 = .ok (.ireturn, 1) := by decide +kernel
theorem dX11_ofTicket_85 : decode cX11_ofTicket 85 = .ok (.aload_n 3, 1) := by decide +kernel
theorem dX11_ofTicket_86 : decode cX11_ofTicket 86 = .ok (.getfield 348, 3) := by decide +kernel
theorem dX11_ofTicket_89 : decode cX11_ofTicket 89 = .ok (.ireturn, 1) := by decide +kernel
theorem dX11_ofTicket_90 : decode cX11_ofTicket 90 = .ok (.new 72, 3) := by decide +kernel
theorem dX11_ofTicket_93 : decode cX11_ofTicket 93 = .ok (.dup, 1) := by decide +kernel
theorem dX11_ofTicket_94 : decode cX11_ofTicket 94 = .ok (.ldc_w 351, 3) := by decide +kernel
theorem dX11_ofTicket_97 : decode cX11_ofTicket 97 = .ok (.invokespecial 76, 3) := by decide +kernel
theorem dX11_ofTicket_100 : decode cX11_ofTicket 100 = .ok (.athrow, 1) := by decide +kernel
theorem dX11_ofCoupon_0 : decode cX11_ofCoupon 0 = .ok (.aload_n 0, 1) := by decide +kernel
theorem dX11_ofCoupon_1 : decode cX11_ofCoupon 1 = .ok (.iload_n 1, 1) := by decide +kernel
theorem dX11_ofCoupon_2 : decode cX11_ofCoupon 2 = .ok (.invokevirtual 226, 3) := by decide +kernel
theorem dX11_ofCoupon_5 : decode cX11_ofCoupon 5 = .ok (.astore 4, 2) := by decide +kernel
theorem dX11_ofCoupon_7 : decode cX11_ofCoupon 7 = .ok (.aload 4, 2) := by decide +kernel
theorem dX11_ofCoupon_9 : decode cX11_ofCoupon 9 = .ok (.ifnonnull 7, 3) := by decide +kernel
theorem dX11_ofCoupon_12 : decode cX11_ofCoupon 12 = .ok (.aconst_null, 1) := by decide +kernel
theorem dX11_ofCoupon_13 : decode cX11_ofCoupon 13 = .ok (.goto 9, 3) := by decide +kernel
theorem dX11_ofCoupon_16 : decode cX11_ofCoupon 16 = .ok (.aload 4, 2) := by decide +kernel
theorem dX11_ofCoupon_18 : decode cX11_ofCoupon 18 = .ok (.iload_n 2, 1) := by decide +kernel
theorem dX11_ofCoupon_19 : decode cX11_ofCoupon 19 = .ok (.invokevirtual 229, 3) := by decide +kernel
theorem dX11_ofCoupon_22 : decode cX11_ofCoupon 22 = .ok (.astore 5, 2) := by decide +kernel
theorem dX11_ofCoupon_24 : decode cX11_ofCoupon 24 = .ok (.aload 5, 2) := by decide +kernel
theorem dX11_ofCoupon_26 : decode cX11_ofCoupon 26 = .ok (.ifnonnull 13, 3) := by decide +kernel
theorem dX11_ofCoupon_29 : decode cX11_ofCoupon 29 = .ok (.new 61, 3) := by decide +kernel
theorem dX11_ofCoupon_32 : decode cX11_ofCoupon 32 = .ok (.dup, 1) := by decide +kernel
theorem dX11_ofCoupon_33 : decode cX11_ofCoupon 33 = .ok (.ldc 233, 2) := by decide +kernel
theorem dX11_ofCoupon_35 : decode cX11_ofCoupon 35 = .ok (.invokespecial 65, 3) := by decide +kernel
theorem dX11_ofCoupon_38 : decode cX11_ofCoupon 38 = .ok (.athrow, 1) := by decide +kernel
theorem dX11_ofCoupon_39 : decode cX11_ofCoupon 39 = .ok (.iload_n 3, 1) := by decide +kernel
theorem dX11_ofCoupon_40 : decode cX11_ofCoupon 40 = .ok (.tableswitch 76 0 5 #[40, 46, 52, 58, 64, 70], 40) := by decide +kernel
theorem dX11_ofCoupon_80 : decode cX11_ofCoupon 80 = .ok (.aload 5, 2) := by decide +kernel
theorem dX11_ofCoupon_82 : decode cX11_ofCoupon 82 = .ok (.getfield 235, 3) := by decide +kernel
theorem dX11_ofCoupon_85 : decode cX11_ofCoupon 85 = .ok (.ireturn, 1) := by decide +kernel
theorem dX11_ofCoupon_86 : decode cX11_ofCoupon 86 = .ok (.aload 5, 2) := by decide +kernel
theorem dX11_ofCoupon_88 : decode cX11_ofCoupon 88 = .ok (.getfield 265, 3) := by decide +kernel
theorem dX11_ofCoupon_91 : decode cX11_ofCoupon 91 = .ok (.ireturn, 1) := by decide +kernel
theorem dX11_ofCoupon_92 : decode cX11_ofCoupon 92 = .ok (.aload 5, 2) := by decide +kernel
theorem dX11_ofCoupon_94 : decode cX11_ofCoupon 94 = .ok (.getfield 252, 3) := by decide +kernel
theorem dX11_ofCoupon_97 : decode cX11_ofCoupon 97 = .ok (.ireturn, 1) := by decide +kernel
theorem dX11_ofCoupon_98 : decode cX11_ofCoupon 98 = .ok (.aload 5, 2) := by decide +kernel
theorem dX11_ofCoupon_100 : decode cX11_ofCoupon 100 = .ok (.getfield 262, 3) := by decide +kernel
theorem dX11_ofCoupon_103 : decode cX11_ofCoupon 103 = .ok (.ireturn, 1) := by decide +kernel
theorem dX11_ofCoupon_104 : decode cX11_ofCoupon 104 = .ok (.aload 5, 2) := by decide +kernel
theorem dX11_ofCoupon_106 : decode cX11_ofCoupon 106 = .ok (.getfield 240, 3) := by decide +kernel
theorem dX11_ofCoupon_109 : decode cX11_ofCoupon 109 = .ok (.ireturn, 1) := by decide +kernel
theorem dX11_ofCoupon_110 : decode cX11_ofCoupon 110 = .ok (.aload 5, 2) := by decide +kernel
theorem dX11_ofCoupon_112 : decode cX11_ofCoupon 112 = .ok (.getfield 271, 3) := by decide +kernel
theorem dX11_ofCoupon_115 : decode cX11_ofCoupon 115 = .ok (.ireturn, 1) := by decide +kernel
theorem dX11_ofCoupon_116 : decode cX11_ofCoupon 116 = .ok (.new 72, 3) := by decide +kernel
theorem dX11_ofCoupon_119 : decode cX11_ofCoupon 119 = .ok (.dup, 1) := by decide +kernel
theorem dX11_ofCoupon_120 : decode cX11_ofCoupon 120 = .ok (.ldc_w 351, 3) := by decide +kernel
theorem dX11_ofCoupon_123 : decode cX11_ofCoupon 123 = .ok (.invokespecial 76, 3) := by decide +kernel
theorem dX11_ofCoupon_126 : decode cX11_ofCoupon 126 = .ok (.athrow, 1) := by decide +kernel
theorem dX11_ofBill_0 : decode cX11_ofBill 0 = .ok (.aload_n 0, 1) := by decide +kernel
theorem dX11_ofBill_1 : decode cX11_ofBill 1 = .ok (.getfield 40, 3) := by decide +kernel
theorem dX11_ofBill_4 : decode cX11_ofBill 4 = .ok (.iload_n 1, 1) := by decide +kernel
theorem dX11_ofBill_5 : decode cX11_ofBill 5 = .ok (.invokevirtual 312, 3) := by decide +kernel
theorem dX11_ofBill_8 : decode cX11_ofBill 8 = .ok (.astore_n 3, 1) := by decide +kernel
theorem dX11_ofBill_9 : decode cX11_ofBill 9 = .ok (.aload_n 3, 1) := by decide +kernel
theorem dX11_ofBill_10 : decode cX11_ofBill 10 = .ok (.ifnonnull 14, 3) := by decide +kernel
theorem dX11_ofBill_13 : decode cX11_ofBill 13 = .ok (.new 61, 3) := by decide +kernel
theorem dX11_ofBill_16 : decode cX11_ofBill 16 = .ok (.dup, 1) := by decide +kernel
theorem dX11_ofBill_17 : decode cX11_ofBill 17 = .ok (.ldc_w 316, 3) := by decide +kernel
theorem dX11_ofBill_20 : decode cX11_ofBill 20 = .ok (.invokespecial 65, 3) := by decide +kernel
theorem dX11_ofBill_23 : decode cX11_ofBill 23 = .ok (.athrow, 1) := by decide +kernel
theorem dX11_ofBill_24 : decode cX11_ofBill 24 = .ok (.iload_n 2, 1) := by decide +kernel
theorem dX11_ofBill_25 : decode cX11_ofBill 25 = .ok (.tableswitch 69 0 5 #[39, 44, 49, 54, 59, 64], 39) := by decide +kernel
theorem dX11_ofBill_64 : decode cX11_ofBill 64 = .ok (.aload_n 3, 1) := by decide +kernel
theorem dX11_ofBill_65 : decode cX11_ofBill 65 = .ok (.getfield 318, 3) := by decide +kernel
theorem dX11_ofBill_68 : decode cX11_ofBill 68 = .ok (.ireturn, 1) := by decide +kernel
theorem dX11_ofBill_69 : decode cX11_ofBill 69 = .ok (.aload_n 3, 1) := by decide +kernel
theorem dX11_ofBill_70 : decode cX11_ofBill 70 = .ok (.getfield 353, 3) := by decide +kernel
theorem dX11_ofBill_73 : decode cX11_ofBill 73 = .ok (.ireturn, 1) := by decide +kernel
theorem dX11_ofBill_74 : decode cX11_ofBill 74 = .ok (.aload_n 3, 1) := by decide +kernel
theorem dX11_ofBill_75 : decode cX11_ofBill 75 = .ok (.getfield 356, 3) := by decide +kernel
theorem dX11_ofBill_78 : decode cX11_ofBill 78 = .ok (.ireturn, 1) := by decide +kernel
theorem dX11_ofBill_79 : decode cX11_ofBill 79 = .ok (.aload_n 3, 1) := by decide +kernel
theorem dX11_ofBill_80 : decode cX11_ofBill 80 = .ok (.getfield 359, 3) := by decide +kernel
theorem dX11_ofBill_83 : decode cX11_ofBill 83 = .ok (.ireturn, 1) := by decide +kernel
theorem dX11_ofBill_84 : decode cX11_ofBill 84 = .ok (.aload_n 3, 1) := by decide +kernel
theorem dX11_ofBill_85 : decode cX11_ofBill 85 = .ok (.getfield 329, 3) := by decide +kernel
theorem dX11_ofBill_88 : decode cX11_ofBill 88 = .ok (.ireturn, 1) := by decide +kernel
theorem dX11_ofBill_89 : decode cX11_ofBill 89 = .ok (.aload_n 3, 1) := by decide +kernel
theorem dX11_ofBill_90 : decode cX11_ofBill 90 = .ok (.getfield 321, 3) := by decide +kernel
theorem dX11_ofBill_93 : decode cX11_ofBill 93 = .ok (.ireturn, 1) := by decide +kernel
theorem dX11_ofBill_94 : decode cX11_ofBill 94 = .ok (.new 72, 3) := by decide +kernel
theorem dX11_ofBill_97 : decode cX11_ofBill 97 = .ok (.dup, 1) := by decide +kernel
theorem dX11_ofBill_98 : decode cX11_ofBill 98 = .ok (.ldc_w 351, 3) := by decide +kernel
theorem dX11_ofBill_101 : decode cX11_ofBill 101 = .ok (.invokespecial 76, 3) := by decide +kernel
theorem dX11_ofBill_104 : decode cX11_ofBill 104 = .ok (.athrow, 1) := by decide +kernel
theorem dX11_cash_0 : decode cX11_cash 0 = .ok (.iload_n 1, 1) := by decide +kernel
theorem dX11_cash_1 : decode cX11_cash 1 = .ok (.invokestatic 136, 3) := by decide +kernel
theorem dX11_cash_4 : decode cX11_cash 4 = .ok (.ifCond .ne 13, 3) := by decide +kernel
theorem dX11_cash_7 : decode cX11_cash 7 = .ok (.new 61, 3) := by decide +kernel
theorem dX11_cash_10 : decode cX11_cash 10 = .ok (.dup, 1) := by decide +kernel
theorem dX11_cash_11 : decode cX11_cash 11 = .ok (.ldc 201, 2) := by decide +kernel
theorem dX11_cash_13 : decode cX11_cash 13 = .ok (.invokespecial 65, 3) := by decide +kernel
theorem dX11_cash_16 : decode cX11_cash 16 = .ok (.athrow, 1) := by decide +kernel
theorem dX11_cash_17 : decode cX11_cash 17 = .ok (.aload_n 0, 1) := by decide +kernel
theorem dX11_cash_18 : decode cX11_cash 18 = .ok (.getfield 50, 3) := by decide +kernel
theorem dX11_cash_21 : decode cX11_cash 21 = .ok (.iload_n 1, 1) := by decide +kernel
theorem dX11_cash_22 : decode cX11_cash 22 = .ok (.laload, 1) := by decide +kernel
theorem dX11_cash_23 : decode cX11_cash 23 = .ok (.lreturn, 1) := by decide +kernel
theorem dX11_cashAnew_0 : decode cX11_cashAnew 0 = .ok (.iload_n 1, 1) := by decide +kernel
theorem dX11_cashAnew_1 : decode cX11_cashAnew 1 = .ok (.invokestatic 136, 3) := by decide +kernel
theorem dX11_cashAnew_4 : decode cX11_cashAnew 4 = .ok (.ifCond .ne 13, 3) := by decide +kernel
theorem dX11_cashAnew_7 : decode cX11_cashAnew 7 = .ok (.new 61, 3) := by decide +kernel
theorem dX11_cashAnew_10 : decode cX11_cashAnew 10 = .ok (.dup, 1) := by decide +kernel
theorem dX11_cashAnew_11 : decode cX11_cashAnew 11 = .ok (.ldc 201, 2) := by decide +kernel
theorem dX11_cashAnew_13 : decode cX11_cashAnew 13 = .ok (.invokespecial 65, 3) := by decide +kernel
theorem dX11_cashAnew_16 : decode cX11_cashAnew 16 = .ok (.athrow, 1) := by decide +kernel
theorem dX11_cashAnew_17 : decode cX11_cashAnew 17 = .ok (.aload_n 0, 1) := by decide +kernel
theorem dX11_cashAnew_18 : decode cX11_cashAnew 18 = .ok (.getfield 40, 3) := by decide +kernel
theorem dX11_cashAnew_21 : decode cX11_cashAnew 21 = .ok (.iload_n 1, 1) := by decide +kernel
theorem dX11_cashAnew_22 : decode cX11_cashAnew 22 = .ok (.invokevirtual 362, 3) := by decide +kernel
theorem dX11_cashAnew_25 : decode cX11_cashAnew 25 = .ok (.lstore_n 2, 1) := by decide +kernel
theorem dX11_cashAnew_26 : decode cX11_cashAnew 26 = .ok (.iconst 0, 1) := by decide +kernel
theorem dX11_cashAnew_27 : decode cX11_cashAnew 27 = .ok (.istore 4, 2) := by decide +kernel
theorem dX11_cashAnew_29 : decode cX11_cashAnew 29 = .ok (.iload 4, 2) := by decide +kernel
theorem dX11_cashAnew_31 : decode cX11_cashAnew 31 = .ok (.aload_n 0, 1) := by decide +kernel
theorem dX11_cashAnew_32 : decode cX11_cashAnew 32 = .ok (.getfield 223, 3) := by decide +kernel
theorem dX11_cashAnew_35 : decode cX11_cashAnew 35 = .ok (.if_icmp .ge 46, 3) := by decide +kernel
theorem dX11_cashAnew_38 : decode cX11_cashAnew 38 = .ok (.aload_n 0, 1) := by decide +kernel
theorem dX11_cashAnew_39 : decode cX11_cashAnew 39 = .ok (.iload 4, 2) := by decide +kernel
theorem dX11_cashAnew_41 : decode cX11_cashAnew 41 = .ok (.invokevirtual 226, 3) := by decide +kernel
theorem dX11_cashAnew_44 : decode cX11_cashAnew 44 = .ok (.astore 5, 2) := by decide +kernel
theorem dX11_cashAnew_46 : decode cX11_cashAnew 46 = .ok (.aload 5, 2) := by decide +kernel
theorem dX11_cashAnew_48 : decode cX11_cashAnew 48 = .ok (.ifnull 27, 3) := by decide +kernel
theorem dX11_cashAnew_51 : decode cX11_cashAnew 51 = .ok (.aload 5, 2) := by decide +kernel
theorem dX11_cashAnew_53 : decode cX11_cashAnew 53 = .ok (.getfield 249, 3) := by decide +kernel
theorem dX11_cashAnew_56 : decode cX11_cashAnew 56 = .ok (.iload_n 1, 1) := by decide +kernel
theorem dX11_cashAnew_57 : decode cX11_cashAnew 57 = .ok (.if_icmp .ne 18, 3) := by decide +kernel
theorem dX11_cashAnew_60 : decode cX11_cashAnew 60 = .ok (.lload_n 2, 1) := by decide +kernel
theorem dX11_cashAnew_61 : decode cX11_cashAnew 61 = .ok (.aload 5, 2) := by decide +kernel
theorem dX11_cashAnew_63 : decode cX11_cashAnew 63 = .ok (.getfield 366, 3) := by decide +kernel
theorem dX11_cashAnew_66 : decode cX11_cashAnew 66 = .ok (.aload 5, 2) := by decide +kernel
theorem dX11_cashAnew_68 : decode cX11_cashAnew 68 = .ok (.invokevirtual 370, 3) := by decide +kernel
theorem dX11_cashAnew_71 : decode cX11_cashAnew 71 = .ok (.i2l, 1) := by decide +kernel
theorem dX11_cashAnew_72 : decode cX11_cashAnew 72 = .ok (.lsub, 1) := by decide +kernel
theorem dX11_cashAnew_73 : decode cX11_cashAnew 73 = .ok (.ladd, 1) := by decide +kernel
theorem dX11_cashAnew_74 : decode cX11_cashAnew 74 = .ok (.lstore_n 2, 1) := by decide +kernel
theorem dX11_cashAnew_75 : decode cX11_cashAnew 75 = .ok (.iinc 4 1, 3) := by decide +kernel
theorem dX11_cashAnew_78 : decode cX11_cashAnew 78 = .ok (.goto (-49), 3) := by decide +kernel
theorem dX11_cashAnew_81 : decode cX11_cashAnew 81 = .ok (.lload_n 2, 1) := by decide +kernel
theorem dX11_cashAnew_82 : decode cX11_cashAnew 82 = .ok (.lreturn, 1) := by decide +kernel
theorem dX11_state_0 : decode cX11_state 0 = .ok (.iload_n 1, 1) := by decide +kernel
theorem dX11_state_1 : decode cX11_state 1 = .ok (.invokestatic 57, 3) := by decide +kernel
theorem dX11_state_4 : decode cX11_state 4 = .ok (.ifCond .ne 13, 3) := by decide +kernel
theorem dX11_state_7 : decode cX11_state 7 = .ok (.new 61, 3) := by decide +kernel
theorem dX11_state_10 : decode cX11_state 10 = .ok (.dup, 1) := by decide +kernel
theorem dX11_state_11 : decode cX11_state 11 = .ok (.ldc 63, 2) := by decide +kernel
theorem dX11_state_13 : decode cX11_state 13 = .ok (.invokespecial 65, 3) := by decide +kernel
theorem dX11_state_16 : decode cX11_state 16 = .ok (.athrow, 1) := by decide +kernel
theorem dX11_state_17 : decode cX11_state 17 = .ok (.aload_n 0, 1) := by decide +kernel
theorem dX11_state_18 : decode cX11_state 18 = .ok (.getfield 54, 3) := by decide +kernel
theorem dX11_state_21 : decode cX11_state 21 = .ok (.iload_n 1, 1) := by decide +kernel
theorem dX11_state_22 : decode cX11_state 22 = .ok (.laload, 1) := by decide +kernel
theorem dX11_state_23 : decode cX11_state 23 = .ok (.lreturn, 1) := by decide +kernel
theorem dX11_paid_0 : decode cX11_paid 0 = .ok (.aload_n 0, 1) := by decide +kernel
theorem dX11_paid_1 : decode cX11_paid 1 = .ok (.getfield 373, 3) := by decide +kernel
theorem dX11_paid_4 : decode cX11_paid 4 = .ok (.lreturn, 1) := by decide +kernel
theorem dX11_of_0 : decode cX11_of 0 = .ok (.iload_n 1, 1) := by decide +kernel
theorem dX11_of_1 : decode cX11_of 1 = .ok (.tableswitch 84 0 5 #[39, 47, 55, 60, 68, 76], 39) := by decide +kernel
theorem dX11_of_40 : decode cX11_of 40 = .ok (.aload_n 0, 1) := by decide +kernel
theorem dX11_of_41 : decode cX11_of 41 = .ok (.getfield 12, 3) := by decide +kernel
theorem dX11_of_44 : decode cX11_of 44 = .ok (.getfield 154, 3) := by decide +kernel
theorem dX11_of_47 : decode cX11_of 47 = .ok (.ireturn, 1) := by decide +kernel
theorem dX11_of_48 : decode cX11_of 48 = .ok (.aload_n 0, 1) := by decide +kernel
theorem dX11_of_49 : decode cX11_of 49 = .ok (.getfield 26, 3) := by decide +kernel
theorem dX11_of_52 : decode cX11_of 52 = .ok (.getfield 376, 3) := by decide +kernel
theorem dX11_of_55 : decode cX11_of 55 = .ok (.ireturn, 1) := by decide +kernel
theorem dX11_of_56 : decode cX11_of 56 = .ok (.aload_n 0, 1) := by decide +kernel
theorem dX11_of_57 : decode cX11_of 57 = .ok (.getfield 223, 3) := by decide +kernel
theorem dX11_of_60 : decode cX11_of 60 = .ok (.ireturn, 1) := by decide +kernel
theorem dX11_of_61 : decode cX11_of 61 = .ok (.aload_n 0, 1) := by decide +kernel
theorem dX11_of_62 : decode cX11_of 62 = .ok (.getfield 40, 3) := by decide +kernel
theorem dX11_of_65 : decode cX11_of 65 = .ok (.getfield 377, 3) := by decide +kernel
theorem dX11_of_68 : decode cX11_of 68 = .ok (.ireturn, 1) := by decide +kernel
theorem dX11_of_69 : decode cX11_of 69 = .ok (.aload_n 0, 1) := by decide +kernel
theorem dX11_of_70 : decode cX11_of 70 = .ok (.getfield 40, 3) := by decide +kernel
theorem dX11_of_73 : decode cX11_of 73 = .ok (.getfield 324, 3) := by decide +kernel
theorem dX11_of_76 : decode cX11_of 76 = .ok (.ireturn, 1) := by decide +kernel
theorem dX11_of_77 : decode cX11_of 77 = .ok (.aload_n 0, 1) := by decide +kernel
theorem dX11_of_78 : decode cX11_of 78 = .ok (.getfield 40, 3) := by decide +kernel
theorem dX11_of_81 : decode cX11_of 81 = .ok (.getfield 378, 3) := by decide +kernel
theorem dX11_of_84 : decode cX11_of 84 = .ok (.ireturn, 1) := by decide +kernel
theorem dX11_of_85 : decode cX11_of 85 = .ok (.new 72, 3) := by decide +kernel
theorem dX11_of_88 : decode cX11_of 88 = .ok (.dup, 1) := by decide +kernel
theorem dX11_of_89 : decode cX11_of 89 = .ok (.ldc_w 351, 3) := by decide +kernel
theorem dX11_of_92 : decode cX11_of 92 = .ok (.invokespecial 76, 3) := by decide +kernel
theorem dX11_of_95 : decode cX11_of 95 = .ok (.athrow, 1) := by decide +kernel
theorem dX11_isWithin_0 : decode cX11_isWithin 0 = .ok (.iload_n 0, 1) := by decide +kernel
theorem dX11_isWithin_1 : decode cX11_isWithin 1 = .ok (.iload_n 1, 1) := by decide +kernel
theorem dX11_isWithin_2 : decode cX11_isWithin 2 = .ok (.if_icmp .lt 12, 3) := by decide +kernel
theorem dX11_isWithin_5 : decode cX11_isWithin 5 = .ok (.iload_n 0, 1) := by decide +kernel
theorem dX11_isWithin_6 : decode cX11_isWithin 6 = .ok (.iload_n 2, 1) := by decide +kernel
theorem dX11_isWithin_7 : decode cX11_isWithin 7 = .ok (.if_icmp .gt 7, 3) := by decide +kernel
theorem dX11_isWithin_10 : decode cX11_isWithin 10 = .ok (.iconst 1, 1) := by decide +kernel
theorem dX11_isWithin_11 : decode cX11_isWithin 11 = .ok (.goto 4, 3) := by decide +kernel
theorem dX11_isWithin_14 : decode cX11_isWithin 14 = .ok (.iconst 0, 1) := by decide +kernel
theorem dX11_isWithin_15 : decode cX11_isWithin 15 = .ok (.ireturn, 1) := by decide +kernel
theorem dX11_isPlace_0 : decode cX11_isPlace 0 = .ok (.iload_n 0, 1) := by decide +kernel
theorem dX11_isPlace_1 : decode cX11_isPlace 1 = .ok (.ifCond .lt 13, 3) := by decide +kernel
theorem dX11_isPlace_4 : decode cX11_isPlace 4 = .ok (.iload_n 0, 1) := by decide +kernel
theorem dX11_isPlace_5 : decode cX11_isPlace 5 = .ok (.bipush 10, 2) := by decide +kernel
theorem dX11_isPlace_7 : decode cX11_isPlace 7 = .ok (.if_icmp .ge 7, 3) := by decide +kernel
theorem dX11_isPlace_10 : decode cX11_isPlace 10 = .ok (.iconst 1, 1) := by decide +kernel
theorem dX11_isPlace_11 : decode cX11_isPlace 11 = .ok (.goto 4, 3) := by decide +kernel
theorem dX11_isPlace_14 : decode cX11_isPlace 14 = .ok (.iconst 0, 1) := by decide +kernel
theorem dX11_isPlace_15 : decode cX11_isPlace 15 = .ok (.ireturn, 1) := by decide +kernel
theorem dX11_isCarrier_0 : decode cX11_isCarrier 0 = .ok (.iload_n 0, 1) := by decide +kernel
theorem dX11_isCarrier_1 : decode cX11_isCarrier 1 = .ok (.ifCond .lt 12, 3) := by decide +kernel
theorem dX11_isCarrier_4 : decode cX11_isCarrier 4 = .ok (.iload_n 0, 1) := by decide +kernel
theorem dX11_isCarrier_5 : decode cX11_isCarrier 5 = .ok (.iconst 5, 1) := by decide +kernel
theorem dX11_isCarrier_6 : decode cX11_isCarrier 6 = .ok (.if_icmp .ge 7, 3) := by decide +kernel
theorem dX11_isCarrier_9 : decode cX11_isCarrier 9 = .ok (.iconst 1, 1) := by decide +kernel
theorem dX11_isCarrier_10 : decode cX11_isCarrier 10 = .ok (.goto 4, 3) := by decide +kernel
theorem dX11_isCarrier_13 : decode cX11_isCarrier 13 = .ok (.iconst 0, 1) := by decide +kernel
theorem dX11_isCarrier_14 : decode cX11_isCarrier 14 = .ok (.ireturn, 1) := by decide +kernel
theorem dX11_ticketAt_0 : decode cX11_ticketAt 0 = .ok (.iload_n 1, 1) := by decide +kernel
theorem dX11_ticketAt_1 : decode cX11_ticketAt 1 = .ok (.ifCond .lt 21, 3) := by decide +kernel
theorem dX11_ticketAt_4 : decode cX11_ticketAt 4 = .ok (.iload_n 1, 1) := by decide +kernel
theorem dX11_ticketAt_5 : decode cX11_ticketAt 5 = .ok (.aload_n 0, 1) := by decide +kernel
theorem dX11_ticketAt_6 : decode cX11_ticketAt 6 = .ok (.getfield 223, 3) := by decide +kernel
theorem dX11_ticketAt_9 : decode cX11_ticketAt 9 = .ok (.if_icmp .ge 13, 3) := by decide +kernel
theorem dX11_ticketAt_12 : decode cX11_ticketAt 12 = .ok (.iload_n 1, 1) := by decide +kernel
theorem dX11_ticketAt_13 : decode cX11_ticketAt 13 = .ok (.bipush 30, 2) := by decide +kernel
theorem dX11_ticketAt_15 : decode cX11_ticketAt 15 = .ok (.if_icmp .ge 7, 3) := by decide +kernel
theorem dX11_ticketAt_18 : decode cX11_ticketAt 18 = .ok (.iconst 1, 1) := by decide +kernel
theorem dX11_ticketAt_19 : decode cX11_ticketAt 19 = .ok (.goto 4, 3) := by decide +kernel
theorem dX11_ticketAt_22 : decode cX11_ticketAt 22 = .ok (.iconst 0, 1) := by decide +kernel
theorem dX11_ticketAt_23 : decode cX11_ticketAt 23 = .ok (.istore_n 2, 1) := by decide +kernel
theorem dX11_ticketAt_24 : decode cX11_ticketAt 24 = .ok (.iload_n 2, 1) := by decide +kernel
theorem dX11_ticketAt_25 : decode cX11_ticketAt 25 = .ok (.ifCond .eq 12, 3) := by decide +kernel
theorem dX11_ticketAt_28 : decode cX11_ticketAt 28 = .ok (.aload_n 0, 1) := by decide +kernel
theorem dX11_ticketAt_29 : decode cX11_ticketAt 29 = .ok (.getfield 46, 3) := by decide +kernel
theorem dX11_ticketAt_32 : decode cX11_ticketAt 32 = .ok (.iload_n 1, 1) := by decide +kernel
theorem dX11_ticketAt_33 : decode cX11_ticketAt 33 = .ok (.aaload, 1) := by decide +kernel
theorem dX11_ticketAt_34 : decode cX11_ticketAt 34 = .ok (.goto 4, 3) := by decide +kernel
theorem dX11_ticketAt_37 : decode cX11_ticketAt 37 = .ok (.aconst_null, 1) := by decide +kernel
theorem dX11_ticketAt_38 : decode cX11_ticketAt 38 = .ok (.areturn, 1) := by decide +kernel
theorem dX11_canBeIssued_0 : decode cX11_canBeIssued 0 = .ok (.aload_n 0, 1) := by decide +kernel
theorem dX11_canBeIssued_1 : decode cX11_canBeIssued 1 = .ok (.getfield 33, 3) := by decide +kernel
theorem dX11_canBeIssued_4 : decode cX11_canBeIssued 4 = .ok (.getfield 191, 3) := by decide +kernel
theorem dX11_canBeIssued_7 : decode cX11_canBeIssued 7 = .ok (.iconst (-1), 1) := by decide +kernel
theorem dX11_canBeIssued_8 : decode cX11_canBeIssued 8 = .ok (.if_icmp .eq 33, 3) := by decide +kernel
theorem dX11_canBeIssued_11 : decode cX11_canBeIssued 11 = .ok (.aload_n 0, 1) := by decide +kernel
theorem dX11_canBeIssued_12 : decode cX11_canBeIssued 12 = .ok (.getfield 26, 3) := by decide +kernel
theorem dX11_canBeIssued_15 : decode cX11_canBeIssued 15 = .ok (.aload_n 0, 1) := by decide +kernel
theorem dX11_canBeIssued_16 : decode cX11_canBeIssued 16 = .ok (.getfield 12, 3) := by decide +kernel
theorem dX11_canBeIssued_19 : decode cX11_canBeIssued 19 = .ok (.getfield 154, 3) := by decide +kernel
theorem dX11_canBeIssued_22 : decode cX11_canBeIssued 22 = .ok (.invokevirtual 381, 3) := by decide +kernel
theorem dX11_canBeIssued_25 : decode cX11_canBeIssued 25 = .ok (.ifCond .ne 16, 3) := by decide +kernel
theorem dX11_canBeIssued_28 : decode cX11_canBeIssued 28 = .ok (.aload_n 0, 1) := by decide +kernel
theorem dX11_canBeIssued_29 : decode cX11_canBeIssued 29 = .ok (.getfield 223, 3) := by decide +kernel
theorem dX11_canBeIssued_32 : decode cX11_canBeIssued 32 = .ok (.bipush 30, 2) := by decide +kernel
theorem dX11_canBeIssued_34 : decode cX11_canBeIssued 34 = .ok (.if_icmp .ge 7, 3) := by decide +kernel
theorem dX11_canBeIssued_37 : decode cX11_canBeIssued 37 = .ok (.iconst 1, 1) := by decide +kernel
theorem dX11_canBeIssued_38 : decode cX11_canBeIssued 38 = .ok (.goto 4, 3) := by decide +kernel
theorem dX11_canBeIssued_41 : decode cX11_canBeIssued 41 = .ok (.iconst 0, 1) := by decide +kernel
theorem dX11_canBeIssued_42 : decode cX11_canBeIssued 42 = .ok (.ireturn, 1) := by decide +kernel
theorem dX11_issued_0 : decode cX11_issued 0 = .ok (.new 44, 3) := by decide +kernel
theorem dX11_issued_3 : decode cX11_issued 3 = .ok (.dup, 1) := by decide +kernel
theorem dX11_issued_4 : decode cX11_issued 4 = .ok (.iload_n 1, 1) := by decide +kernel
theorem dX11_issued_5 : decode cX11_issued 5 = .ok (.aload_n 0, 1) := by decide +kernel
theorem dX11_issued_6 : decode cX11_issued 6 = .ok (.getfield 33, 3) := by decide +kernel
theorem dX11_issued_9 : decode cX11_issued 9 = .ok (.getfield 191, 3) := by decide +kernel
theorem dX11_issued_12 : decode cX11_issued 12 = .ok (.aload_n 0, 1) := by decide +kernel
theorem dX11_issued_13 : decode cX11_issued 13 = .ok (.getfield 33, 3) := by decide +kernel
theorem dX11_issued_16 : decode cX11_issued 16 = .ok (.getfield 198, 3) := by decide +kernel
theorem dX11_issued_19 : decode cX11_issued 19 = .ok (.invokespecial 384, 3) := by decide +kernel
theorem dX11_issued_22 : decode cX11_issued 22 = .ok (.astore_n 2, 1) := by decide +kernel
theorem dX11_issued_23 : decode cX11_issued 23 = .ok (.iconst 0, 1) := by decide +kernel
theorem dX11_issued_24 : decode cX11_issued 24 = .ok (.istore_n 3, 1) := by decide +kernel
theorem dX11_issued_25 : decode cX11_issued 25 = .ok (.iload_n 3, 1) := by decide +kernel
theorem dX11_issued_26 : decode cX11_issued 26 = .ok (.aload_n 0, 1) := by decide +kernel
theorem dX11_issued_27 : decode cX11_issued 27 = .ok (.getfield 26, 3) := by decide +kernel
theorem dX11_issued_30 : decode cX11_issued 30 = .ok (.getfield 376, 3) := by decide +kernel
theorem dX11_issued_33 : decode cX11_issued 33 = .ok (.if_icmp .ge 69, 3) := by decide +kernel
theorem dX11_issued_36 : decode cX11_issued 36 = .ok (.aload_n 0, 1) := by decide +kernel
theorem dX11_issued_37 : decode cX11_issued 37 = .ok (.getfield 26, 3) := by decide +kernel
theorem dX11_issued_40 : decode cX11_issued 40 = .ok (.iload_n 3, 1) := by decide +kernel
theorem dX11_issued_41 : decode cX11_issued 41 = .ok (.invokevirtual 386, 3) := by decide +kernel
theorem dX11_issued_44 : decode cX11_issued 44 = .ok (.astore 4, 2) := by decide +kernel
theorem dX11_issued_46 : decode cX11_issued 46 = .ok (.aload 4, 2) := by decide +kernel
theorem dX11_issued_48 : decode cX11_issued 48 = .ok (.ifnull 48, 3) := by decide +kernel
theorem dX11_issued_51 : decode cX11_issued 51 = .ok (.aload_n 2, 1) := by decide +kernel
theorem dX11_issued_52 : decode cX11_issued 52 = .ok (.new 236, 3) := by decide +kernel
theorem dX11_issued_55 : decode cX11_issued 55 = .ok (.dup, 1) := by decide +kernel
theorem dX11_issued_56 : decode cX11_issued 56 = .ok (.aload 4, 2) := by decide +kernel
theorem dX11_issued_58 : decode cX11_issued 58 = .ok (.aload_n 0, 1) := by decide +kernel
theorem dX11_issued_59 : decode cX11_issued 59 = .ok (.getfield 12, 3) := by decide +kernel
theorem dX11_issued_62 : decode cX11_issued 62 = .ok (.aload 4, 2) := by decide +kernel
theorem dX11_issued_64 : decode cX11_issued 64 = .ok (.getfield 390, 3) := by decide +kernel
theorem dX11_issued_67 : decode cX11_issued 67 = .ok (.iload_n 3, 1) := by decide +kernel
theorem dX11_issued_68 : decode cX11_issued 68 = .ok (.ifCond .eq 14, 3) := by decide +kernel
theorem dX11_issued_71 : decode cX11_issued 71 = .ok (.aload_n 0, 1) := by decide +kernel
theorem dX11_issued_72 : decode cX11_issued 72 = .ok (.getfield 26, 3) := by decide +kernel
theorem dX11_issued_75 : decode cX11_issued 75 = .ok (.iload_n 3, 1) := by decide +kernel
theorem dX11_issued_76 : decode cX11_issued 76 = .ok (.invokevirtual 393, 3) := by decide +kernel
theorem dX11_issued_79 : decode cX11_issued 79 = .ok (.ifCond .eq 7, 3) := by decide +kernel
theorem dX11_issued_82 : decode cX11_issued 82 = .ok (.iconst 1, 1) := by decide +kernel
theorem dX11_issued_83 : decode cX11_issued 83 = .ok (.goto 4, 3) := by decide +kernel
theorem dX11_issued_86 : decode cX11_issued 86 = .ok (.iconst 0, 1) := by decide +kernel
theorem dX11_issued_87 : decode cX11_issued 87 = .ok (.invokevirtual 396, 3) := by decide +kernel
theorem dX11_issued_90 : decode cX11_issued 90 = .ok (.invokespecial 400, 3) := by decide +kernel
theorem dX11_issued_93 : decode cX11_issued 93 = .ok (.invokevirtual 403, 3) := by decide +kernel
theorem dX11_issued_96 : decode cX11_issued 96 = .ok (.iinc 3 1, 3) := by decide +kernel
theorem dX11_issued_99 : decode cX11_issued 99 = .ok (.goto (-74), 3) := by decide +kernel
theorem dX11_issued_102 : decode cX11_issued 102 = .ok (.aload_n 0, 1) := by decide +kernel
theorem dX11_issued_103 : decode cX11_issued 103 = .ok (.aload_n 2, 1) := by decide +kernel
theorem dX11_issued_104 : decode cX11_issued 104 = .ok (.invokevirtual 406, 3) := by decide +kernel
theorem dX11_issued_107 : decode cX11_issued 107 = .ok (.aload_n 0, 1) := by decide +kernel
theorem dX11_issued_108 : decode cX11_issued 108 = .ok (.getfield 223, 3) := by decide +kernel
theorem dX11_issued_111 : decode cX11_issued 111 = .ok (.bipush 30, 2) := by decide +kernel
theorem dX11_issued_113 : decode cX11_issued 113 = .ok (.if_icmp .ge 23, 3) := by decide +kernel
theorem dX11_issued_116 : decode cX11_issued 116 = .ok (.aload_n 0, 1) := by decide +kernel
theorem dX11_issued_117 : decode cX11_issued 117 = .ok (.getfield 46, 3) := by decide +kernel
theorem dX11_issued_120 : decode cX11_issued 120 = .ok (.aload_n 0, 1) := by decide +kernel
theorem dX11_issued_121 : decode cX11_issued 121 = .ok (.getfield 223, 3) := by decide +kernel
theorem dX11_issued_124 : decode cX11_issued 124 = .ok (.aload_n 2, 1) := by decide +kernel
theorem dX11_issued_125 : decode cX11_issued 125 = .ok (.aastore, 1) := by decide +kernel
theorem dX11_issued_126 : decode cX11_issued 126 = .ok (.aload_n 0, 1) := by decide +kernel
theorem dX11_issued_127 : decode cX11_issued 127 = .ok (.dup, 1) := by decide +kernel
theorem dX11_issued_128 : decode cX11_issued 128 = .ok (.getfield 223, 3) := by decide +kernel
theorem dX11_issued_131 : decode cX11_issued 131 = .ok (.iconst 1, 1) := by decide +kernel
theorem dX11_issued_132 : decode cX11_issued 132 = .ok (.iadd, 1) := by decide +kernel
theorem dX11_issued_133 : decode cX11_issued 133 = .ok (.putfield 223, 3) := by decide +kernel
theorem dX11_issued_136 : decode cX11_issued 136 = .ok (.aload_n 0, 1) := by decide +kernel
theorem dX11_issued_137 : decode cX11_issued 137 = .ok (.getfield 26, 3) := by decide +kernel
theorem dX11_issued_140 : decode cX11_issued 140 = .ok (.invokevirtual 172, 3) := by decide +kernel
theorem dX11_issued_143 : decode cX11_issued 143 = .ok (.pop, 1) := by decide +kernel
theorem dX11_issued_144 : decode cX11_issued 144 = .ok (.aload_n 2, 1) := by decide +kernel
theorem dX11_issued_145 : decode cX11_issued 145 = .ok (.areturn, 1) := by decide +kernel
theorem dX11_shareOut_0 : decode cX11_shareOut 0 = .ok (.iconst 0, 1) := by decide +kernel
theorem dX11_shareOut_1 : decode cX11_shareOut 1 = .ok (.istore_n 2, 1) := by decide +kernel
theorem dX11_shareOut_2 : decode cX11_shareOut 2 = .ok (.iconst 1, 1) := by decide +kernel
theorem dX11_shareOut_3 : decode cX11_shareOut 3 = .ok (.istore_n 3, 1) := by decide +kernel
theorem dX11_shareOut_4 : decode cX11_shareOut 4 = .ok (.iload_n 3, 1) := by decide +kernel
theorem dX11_shareOut_5 : decode cX11_shareOut 5 = .ok (.aload_n 1, 1) := by decide +kernel
theorem dX11_shareOut_6 : decode cX11_shareOut 6 = .ok (.getfield 293, 3) := by decide +kernel
theorem dX11_shareOut_9 : decode cX11_shareOut 9 = .ok (.if_icmp .gt 74, 3) := by decide +kernel
theorem dX11_shareOut_12 : decode cX11_shareOut 12 = .ok (.iload_n 3, 1) := by decide +kernel
theorem dX11_shareOut_13 : decode cX11_shareOut 13 = .ok (.aload_n 1, 1) := by decide +kernel
theorem dX11_shareOut_14 : decode cX11_shareOut 14 = .ok (.getfield 293, 3) := by decide +kernel
theorem dX11_shareOut_17 : decode cX11_shareOut 17 = .ok (.if_icmp .eq 15, 3) := by decide +kernel
theorem dX11_shareOut_20 : decode cX11_shareOut 20 = .ok (.aload_n 1, 1) := by decide +kernel
theorem dX11_shareOut_21 : decode cX11_shareOut 21 = .ok (.getfield 345, 3) := by decide +kernel
theorem dX11_shareOut_24 : decode cX11_shareOut 24 = .ok (.iload_n 3, 1) := by decide +kernel
theorem dX11_shareOut_25 : decode cX11_shareOut 25 = .ok (.ishr, 1) := by decide +kernel
theorem dX11_shareOut_26 : decode cX11_shareOut 26 = .ok (.iconst 1, 1) := by decide +kernel
theorem dX11_shareOut_27 : decode cX11_shareOut 27 = .ok (.iand, 1) := by decide +kernel
theorem dX11_shareOut_28 : decode cX11_shareOut 28 = .ok (.iconst 1, 1) := by decide +kernel
theorem dX11_shareOut_29 : decode cX11_shareOut 29 = .ok (.if_icmp .ne 48, 3) := by decide +kernel
theorem dX11_shareOut_32 : decode cX11_shareOut 32 = .ok (.aload_n 0, 1) := by decide +kernel
theorem dX11_shareOut_33 : decode cX11_shareOut 33 = .ok (.getfield 26, 3) := by decide +kernel
theorem dX11_shareOut_36 : decode cX11_shareOut 36 = .ok (.aload_n 0, 1) := by decide +kernel
theorem dX11_shareOut_37 : decode cX11_shareOut 37 = .ok (.getfield 12, 3) := by decide +kernel
theorem dX11_shareOut_40 : decode cX11_shareOut 40 = .ok (.iload_n 2, 1) := by decide +kernel
theorem dX11_shareOut_41 : decode cX11_shareOut 41 = .ok (.iload_n 3, 1) := by decide +kernel
theorem dX11_shareOut_42 : decode cX11_shareOut 42 = .ok (.invokevirtual 183, 3) := by decide +kernel
theorem dX11_shareOut_45 : decode cX11_shareOut 45 = .ok (.istore 4, 2) := by decide +kernel
theorem dX11_shareOut_47 : decode cX11_shareOut 47 = .ok (.aload_n 1, 1) := by decide +kernel
theorem dX11_shareOut_48 : decode cX11_shareOut 48 = .ok (.dup, 1) := by decide +kernel
theorem dX11_shareOut_49 : decode cX11_shareOut 49 = .ok (.getfield 348, 3) := by decide +kernel
theorem dX11_shareOut_52 : decode cX11_shareOut 52 = .ok (.aload_n 0, 1) := by decide +kernel
theorem dX11_shareOut_53 : decode cX11_shareOut 53 = .ok (.getfield 19, 3) := by decide +kernel
theorem dX11_shareOut_56 : decode cX11_shareOut 56 = .ok (.aload_n 1, 1) := by decide +kernel
theorem dX11_shareOut_57 : decode cX11_shareOut 57 = .ok (.iload_n 2, 1) := by decide +kernel
theorem dX11_shareOut_58 : decode cX11_shareOut 58 = .ok (.iload_n 3, 1) := by decide +kernel
theorem dX11_shareOut_59 : decode cX11_shareOut 59 = .ok (.iload 4, 2) := by decide +kernel
theorem dX11_shareOut_61 : decode cX11_shareOut 61 = .ok (.aload_n 0, 1) := by decide +kernel
theorem dX11_shareOut_62 : decode cX11_shareOut 62 = .ok (.getfield 12, 3) := by decide +kernel
theorem dX11_shareOut_65 : decode cX11_shareOut 65 = .ok (.getfield 77, 3) := by decide +kernel
theorem dX11_shareOut_68 : decode cX11_shareOut 68 = .ok (.invokevirtual 410, 3) := by decide +kernel
theorem dX11_shareOut_71 : decode cX11_shareOut 71 = .ok (.iadd, 1) := by decide +kernel
theorem dX11_shareOut_72 : decode cX11_shareOut 72 = .ok (.putfield 348, 3) := by decide +kernel
theorem dX11_shareOut_75 : decode cX11_shareOut 75 = .ok (.iload_n 3, 1) := by decide +kernel
theorem dX11_shareOut_76 : decode cX11_shareOut 76 = .ok (.istore_n 2, 1) := by decide +kernel
theorem dX11_shareOut_77 : decode cX11_shareOut 77 = .ok (.iinc 3 1, 3) := by decide +kernel
theorem dX11_shareOut_80 : decode cX11_shareOut 80 = .ok (.goto (-76), 3) := by decide +kernel
theorem dX11_shareOut_83 : decode cX11_shareOut 83 = .ok (.return_, 1) := by decide +kernel
theorem dX11_receive_0 : decode cX11_receive 0 = .ok (.aload_n 1, 1) := by decide +kernel
theorem dX11_receive_1 : decode cX11_receive 1 = .ok (.dup, 1) := by decide +kernel
theorem dX11_receive_2 : decode cX11_receive 2 = .ok (.getfield 366, 3) := by decide +kernel
theorem dX11_receive_5 : decode cX11_receive 5 = .ok (.iload_n 2, 1) := by decide +kernel
theorem dX11_receive_6 : decode cX11_receive 6 = .ok (.i2l, 1) := by decide +kernel
theorem dX11_receive_7 : decode cX11_receive 7 = .ok (.ladd, 1) := by decide +kernel
theorem dX11_receive_8 : decode cX11_receive 8 = .ok (.putfield 366, 3) := by decide +kernel
theorem dX11_receive_11 : decode cX11_receive 11 = .ok (.aload_n 0, 1) := by decide +kernel
theorem dX11_receive_12 : decode cX11_receive 12 = .ok (.dup, 1) := by decide +kernel
theorem dX11_receive_13 : decode cX11_receive 13 = .ok (.getfield 373, 3) := by decide +kernel
theorem dX11_receive_16 : decode cX11_receive 16 = .ok (.iload_n 2, 1) := by decide +kernel
theorem dX11_receive_17 : decode cX11_receive 17 = .ok (.i2l, 1) := by decide +kernel
theorem dX11_receive_18 : decode cX11_receive 18 = .ok (.ladd, 1) := by decide +kernel
theorem dX11_receive_19 : decode cX11_receive 19 = .ok (.putfield 373, 3) := by decide +kernel
theorem dX11_receive_22 : decode cX11_receive 22 = .ok (.aload_n 0, 1) := by decide +kernel
theorem dX11_receive_23 : decode cX11_receive 23 = .ok (.aload_n 1, 1) := by decide +kernel
theorem dX11_receive_24 : decode cX11_receive 24 = .ok (.getfield 249, 3) := by decide +kernel
theorem dX11_receive_27 : decode cX11_receive 27 = .ok (.iload_n 2, 1) := by decide +kernel
theorem dX11_receive_28 : decode cX11_receive 28 = .ok (.i2l, 1) := by decide +kernel
theorem dX11_receive_29 : decode cX11_receive 29 = .ok (.invokevirtual 255, 3) := by decide +kernel
theorem dX11_receive_32 : decode cX11_receive 32 = .ok (.return_, 1) := by decide +kernel
theorem dX11_addCash_0 : decode cX11_addCash 0 = .ok (.iload_n 1, 1) := by decide +kernel
theorem dX11_addCash_1 : decode cX11_addCash 1 = .ok (.invokestatic 136, 3) := by decide +kernel
theorem dX11_addCash_4 : decode cX11_addCash 4 = .ok (.ifCond .eq 13, 3) := by decide +kernel
theorem dX11_addCash_7 : decode cX11_addCash 7 = .ok (.aload_n 0, 1) := by decide +kernel
theorem dX11_addCash_8 : decode cX11_addCash 8 = .ok (.getfield 50, 3) := by decide +kernel
theorem dX11_addCash_11 : decode cX11_addCash 11 = .ok (.iload_n 1, 1) := by decide +kernel
theorem dX11_addCash_12 : decode cX11_addCash 12 = .ok (.dup2, 1) := by decide +kernel
theorem dX11_addCash_13 : decode cX11_addCash 13 = .ok (.laload, 1) := by decide +kernel
theorem dX11_addCash_14 : decode cX11_addCash 14 = .ok (.lload_n 2, 1) := by decide +kernel
theorem dX11_addCash_15 : decode cX11_addCash 15 = .ok (.ladd, 1) := by decide +kernel
theorem dX11_addCash_16 : decode cX11_addCash 16 = .ok (.lastore, 1) := by decide +kernel
theorem dX11_addCash_17 : decode cX11_addCash 17 = .ok (.return_, 1) := by decide +kernel
theorem dX11_moveNets_0 : decode cX11_moveNets 0 = .ok (.iconst 0, 1) := by decide +kernel
theorem dX11_moveNets_1 : decode cX11_moveNets 1 = .ok (.istore_n 1, 1) := by decide +kernel
theorem dX11_moveNets_2 : decode cX11_moveNets 2 = .ok (.iload_n 1, 1) := by decide +kernel
theorem dX11_moveNets_3 : decode cX11_moveNets 3 = .ok (.iconst 5, 1) := by decide +kernel
theorem dX11_moveNets_4 : decode cX11_moveNets 4 = .ok (.if_icmp .ge 22, 3) := by decide +kernel
theorem dX11_moveNets_7 : decode cX11_moveNets 7 = .ok (.aload_n 0, 1) := by decide +kernel
theorem dX11_moveNets_8 : decode cX11_moveNets 8 = .ok (.iload_n 1, 1) := by decide +kernel
theorem dX11_moveNets_9 : decode cX11_moveNets 9 = .ok (.aload_n 0, 1) := by decide +kernel
theorem dX11_moveNets_10 : decode cX11_moveNets 10 = .ok (.getfield 40, 3) := by decide +kernel
theorem dX11_moveNets_13 : decode cX11_moveNets 13 = .ok (.iload_n 1, 1) := by decide +kernel
theorem dX11_moveNets_14 : decode cX11_moveNets 14 = .ok (.invokevirtual 413, 3) := by decide +kernel
theorem dX11_moveNets_17 : decode cX11_moveNets 17 = .ok (.invokevirtual 255, 3) := by decide +kernel
theorem dX11_moveNets_20 : decode cX11_moveNets 20 = .ok (.iinc 1 1, 3) := by decide +kernel
theorem dX11_moveNets_23 : decode cX11_moveNets 23 = .ok (.goto (-21), 3) := by decide +kernel
theorem dX11_moveNets_26 : decode cX11_moveNets 26 = .ok (.return_, 1) := by decide +kernel
theorem dJ9_max_7cf53_0 : decode cJ9_max_7cf53 0 = .ok (.iload_n 0, 1) := by decide +kernel
theorem dJ9_max_7cf53_1 : decode cJ9_max_7cf53 1 = .ok (.iload_n 1, 1) := by decide +kernel
theorem dJ9_max_7cf53_2 : decode cJ9_max_7cf53 2 = .ok (.if_icmp .lt 7, 3) := by decide +kernel
theorem dJ9_max_7cf53_5 : decode cJ9_max_7cf53 5 = .ok (.iload_n 0, 1) := by decide +kernel
theorem dJ9_max_7cf53_6 : decode cJ9_max_7cf53 6 = .ok (.goto 4, 3) := by decide +kernel
theorem dJ9_max_7cf53_9 : decode cJ9_max_7cf53 9 = .ok (.iload_n 1, 1) := by decide +kernel
theorem dJ9_max_7cf53_10 : decode cJ9_max_7cf53 10 = .ok (.ireturn, 1) := by decide +kernel
theorem dJ9_max_f86c9_0 : decode cJ9_max_f86c9 0 = .ok (.lload_n 0, 1) := by decide +kernel
theorem dJ9_max_f86c9_1 : decode cJ9_max_f86c9 1 = .ok (.lload_n 2, 1) := by decide +kernel
theorem dJ9_max_f86c9_2 : decode cJ9_max_f86c9 2 = .ok (.lcmp, 1) := by decide +kernel
theorem dJ9_max_f86c9_3 : decode cJ9_max_f86c9 3 = .ok (.ifCond .lt 7, 3) := by decide +kernel
theorem dJ9_max_f86c9_6 : decode cJ9_max_f86c9 6 = .ok (.lload_n 0, 1) := by decide +kernel
theorem dJ9_max_f86c9_7 : decode cJ9_max_f86c9 7 = .ok (.goto 4, 3) := by decide +kernel
theorem dJ9_max_f86c9_10 : decode cJ9_max_f86c9 10 = .ok (.lload_n 2, 1) := by decide +kernel
theorem dJ9_max_f86c9_11 : decode cJ9_max_f86c9 11 = .ok (.lreturn, 1) := by decide +kernel
theorem dJ9_min_7cf53_0 : decode cJ9_min_7cf53 0 = .ok (.iload_n 0, 1) := by decide +kernel
theorem dJ9_min_7cf53_1 : decode cJ9_min_7cf53 1 = .ok (.iload_n 1, 1) := by decide +kernel
theorem dJ9_min_7cf53_2 : decode cJ9_min_7cf53 2 = .ok (.if_icmp .gt 7, 3) := by decide +kernel
theorem dJ9_min_7cf53_5 : decode cJ9_min_7cf53 5 = .ok (.iload_n 0, 1) := by decide +kernel
theorem dJ9_min_7cf53_6 : decode cJ9_min_7cf53 6 = .ok (.goto 4, 3) := by decide +kernel
theorem dJ9_min_7cf53_9 : decode cJ9_min_7cf53 9 = .ok (.iload_n 1, 1) := by decide +kernel
theorem dJ9_min_7cf53_10 : decode cJ9_min_7cf53 10 = .ok (.ireturn, 1) := by decide +kernel
theorem dL_at_0 : decode cL_at 0 = .ok (.iload_n 1, 1) := by decide +kernel
theorem dL_at_1 : decode cL_at 1 = .ok (.aload_n 0, 1) := by decide +kernel
theorem dL_at_2 : decode cL_at 2 = .ok (.arraylength, 1) := by decide +kernel
theorem dL_at_3 : decode cL_at 3 = .ok (.if_icmp .ge 9, 3) := by decide +kernel
theorem dL_at_6 : decode cL_at 6 = .ok (.aload_n 0, 1) := by decide +kernel
theorem dL_at_7 : decode cL_at 7 = .ok (.iload_n 1, 1) := by decide +kernel
theorem dL_at_8 : decode cL_at 8 = .ok (.iaload, 1) := by decide +kernel
theorem dL_at_9 : decode cL_at 9 = .ok (.goto 12, 3) := by decide +kernel
theorem dL_at_12 : decode cL_at 12 = .ok (.ldc 7, 2) := by decide +kernel
theorem dL_at_14 : decode cL_at 14 = .ok (.iload_n 1, 1) := by decide +kernel
theorem dL_at_15 : decode cL_at 15 = .ok (.iconst 1, 1) := by decide +kernel
theorem dL_at_16 : decode cL_at 16 = .ok (.iadd, 1) := by decide +kernel
theorem dL_at_17 : decode cL_at 17 = .ok (.imul, 1) := by decide +kernel
theorem dL_at_18 : decode cL_at 18 = .ok (.ldc 8, 2) := by decide +kernel
theorem dL_at_20 : decode cL_at 20 = .ok (.iadd, 1) := by decide +kernel
theorem dL_at_21 : decode cL_at 21 = .ok (.ireturn, 1) := by decide +kernel
theorem dL_low_0 : decode cL_low 0 = .ok (.iload_n 0, 1) := by decide +kernel
theorem dL_low_1 : decode cL_low 1 = .ok (.ldc 9, 2) := by decide +kernel
theorem dL_low_3 : decode cL_low 3 = .ok (.iand, 1) := by decide +kernel
theorem dL_low_4 : decode cL_low 4 = .ok (.iload_n 1, 1) := by decide +kernel
theorem dL_low_5 : decode cL_low 5 = .ok (.irem, 1) := by decide +kernel
theorem dL_low_6 : decode cL_low 6 = .ok (.ireturn, 1) := by decide +kernel
theorem dL_miles_0 : decode cL_miles 0 = .ok (.aload_n 0, 1) := by decide +kernel
theorem dL_miles_1 : decode cL_miles 1 = .ok (.iload_n 1, 1) := by decide +kernel
theorem dL_miles_2 : decode cL_miles 2 = .ok (.iload_n 2, 1) := by decide +kernel
theorem dL_miles_3 : decode cL_miles 3 = .ok (.iload_n 3, 1) := by decide +kernel
theorem dL_miles_4 : decode cL_miles 4 = .ok (.invokevirtual 10, 3) := by decide +kernel
theorem dL_miles_7 : decode cL_miles 7 = .ok (.ireturn, 1) := by decide +kernel
theorem dL_miles_8 : decode cL_miles 8 = .ok (.astore 4, 2) := by decide +kernel
theorem dL_miles_10 : decode cL_miles 10 = .ok (.ldc 18, 2) := by decide +kernel
theorem dL_miles_12 : decode cL_miles 12 = .ok (.ireturn, 1) := by decide +kernel
theorem dL_miles_13 : decode cL_miles 13 = .ok (.astore 4, 2) := by decide +kernel
theorem dL_miles_15 : decode cL_miles 15 = .ok (.ldc 21, 2) := by decide +kernel
theorem dL_miles_17 : decode cL_miles 17 = .ok (.ireturn, 1) := by decide +kernel
theorem dL_fare_0 : decode cL_fare 0 = .ok (.aload_n 0, 1) := by decide +kernel
theorem dL_fare_1 : decode cL_fare 1 = .ok (.iload_n 1, 1) := by decide +kernel
theorem dL_fare_2 : decode cL_fare 2 = .ok (.iload_n 2, 1) := by decide +kernel
theorem dL_fare_3 : decode cL_fare 3 = .ok (.iload_n 3, 1) := by decide +kernel
theorem dL_fare_4 : decode cL_fare 4 = .ok (.iload 4, 2) := by decide +kernel
theorem dL_fare_6 : decode cL_fare 6 = .ok (.iload 5, 2) := by decide +kernel
theorem dL_fare_8 : decode cL_fare 8 = .ok (.iload 6, 2) := by decide +kernel
theorem dL_fare_10 : decode cL_fare 10 = .ok (.invokevirtual 22, 3) := by decide +kernel
theorem dL_fare_13 : decode cL_fare 13 = .ok (.ireturn, 1) := by decide +kernel
theorem dL_fare_14 : decode cL_fare 14 = .ok (.astore 7, 2) := by decide +kernel
theorem dL_fare_16 : decode cL_fare 16 = .ok (.ldc 18, 2) := by decide +kernel
theorem dL_fare_18 : decode cL_fare 18 = .ok (.ireturn, 1) := by decide +kernel
theorem dL_fare_19 : decode cL_fare 19 = .ok (.astore 7, 2) := by decide +kernel
theorem dL_fare_21 : decode cL_fare 21 = .ok (.ldc 21, 2) := by decide +kernel
theorem dL_fare_23 : decode cL_fare 23 = .ok (.ireturn, 1) := by decide +kernel
theorem dL_fare_24 : decode cL_fare 24 = .ok (.astore 7, 2) := by decide +kernel
theorem dL_fare_26 : decode cL_fare 26 = .ok (.ldc 28, 2) := by decide +kernel
theorem dL_fare_28 : decode cL_fare 28 = .ok (.ireturn, 1) := by decide +kernel
theorem dL_unit_0 : decode cL_unit 0 = .ok (.aload_n 0, 1) := by decide +kernel
theorem dL_unit_1 : decode cL_unit 1 = .ok (.iload_n 1, 1) := by decide +kernel
theorem dL_unit_2 : decode cL_unit 2 = .ok (.invokevirtual 33, 3) := by decide +kernel
theorem dL_unit_5 : decode cL_unit 5 = .ok (.ireturn, 1) := by decide +kernel
theorem dL_unit_6 : decode cL_unit 6 = .ok (.astore_n 2, 1) := by decide +kernel
theorem dL_unit_7 : decode cL_unit 7 = .ok (.ldc 21, 2) := by decide +kernel
theorem dL_unit_9 : decode cL_unit 9 = .ok (.ireturn, 1) := by decide +kernel
theorem dL_tax_0 : decode cL_tax 0 = .ok (.aload_n 0, 1) := by decide +kernel
theorem dL_tax_1 : decode cL_tax 1 = .ok (.iload_n 1, 1) := by decide +kernel
theorem dL_tax_2 : decode cL_tax 2 = .ok (.iload_n 2, 1) := by decide +kernel
theorem dL_tax_3 : decode cL_tax 3 = .ok (.iload_n 3, 1) := by decide +kernel
theorem dL_tax_4 : decode cL_tax 4 = .ok (.invokevirtual 37, 3) := by decide +kernel
theorem dL_tax_7 : decode cL_tax 7 = .ok (.iconst 0, 1) := by decide +kernel
theorem dL_tax_8 : decode cL_tax 8 = .ok (.ireturn, 1) := by decide +kernel
theorem dL_tax_9 : decode cL_tax 9 = .ok (.astore 4, 2) := by decide +kernel
theorem dL_tax_11 : decode cL_tax 11 = .ok (.ldc 18, 2) := by decide +kernel
theorem dL_tax_13 : decode cL_tax 13 = .ok (.ireturn, 1) := by decide +kernel
theorem dL_tax_14 : decode cL_tax 14 = .ok (.astore 4, 2) := by decide +kernel
theorem dL_tax_16 : decode cL_tax 16 = .ok (.ldc 21, 2) := by decide +kernel
theorem dL_tax_18 : decode cL_tax 18 = .ok (.ireturn, 1) := by decide +kernel
theorem dL_weight_0 : decode cL_weight 0 = .ok (.aload_n 0, 1) := by decide +kernel
theorem dL_weight_1 : decode cL_weight 1 = .ok (.iload_n 1, 1) := by decide +kernel
theorem dL_weight_2 : decode cL_weight 2 = .ok (.iload_n 2, 1) := by decide +kernel
theorem dL_weight_3 : decode cL_weight 3 = .ok (.iload_n 3, 1) := by decide +kernel
theorem dL_weight_4 : decode cL_weight 4 = .ok (.invokevirtual 41, 3) := by decide +kernel
theorem dL_weight_7 : decode cL_weight 7 = .ok (.ireturn, 1) := by decide +kernel
theorem dL_weight_8 : decode cL_weight 8 = .ok (.astore 4, 2) := by decide +kernel
theorem dL_weight_10 : decode cL_weight 10 = .ok (.ldc 18, 2) := by decide +kernel
theorem dL_weight_12 : decode cL_weight 12 = .ok (.ireturn, 1) := by decide +kernel
theorem dL_weight_13 : decode cL_weight 13 = .ok (.astore 4, 2) := by decide +kernel
theorem dL_weight_15 : decode cL_weight 15 = .ok (.ldc 21, 2) := by decide +kernel
theorem dL_weight_17 : decode cL_weight 17 = .ok (.ireturn, 1) := by decide +kernel
theorem dL_proviso_0 : decode cL_proviso 0 = .ok (.aload_n 0, 1) := by decide +kernel
theorem dL_proviso_1 : decode cL_proviso 1 = .ok (.iload_n 1, 1) := by decide +kernel
theorem dL_proviso_2 : decode cL_proviso 2 = .ok (.iload_n 2, 1) := by decide +kernel
theorem dL_proviso_3 : decode cL_proviso 3 = .ok (.iload_n 3, 1) := by decide +kernel
theorem dL_proviso_4 : decode cL_proviso 4 = .ok (.iload 4, 2) := by decide +kernel
theorem dL_proviso_6 : decode cL_proviso 6 = .ok (.invokevirtual 44, 3) := by decide +kernel
theorem dL_proviso_9 : decode cL_proviso 9 = .ok (.ireturn, 1) := by decide +kernel
theorem dL_proviso_10 : decode cL_proviso 10 = .ok (.astore 5, 2) := by decide +kernel
theorem dL_proviso_12 : decode cL_proviso 12 = .ok (.ldc 18, 2) := by decide +kernel
theorem dL_proviso_14 : decode cL_proviso 14 = .ok (.ireturn, 1) := by decide +kernel
theorem dL_proviso_15 : decode cL_proviso 15 = .ok (.astore 5, 2) := by decide +kernel
theorem dL_proviso_17 : decode cL_proviso 17 = .ok (.ldc 21, 2) := by decide +kernel
theorem dL_proviso_19 : decode cL_proviso 19 = .ok (.ireturn, 1) := by decide +kernel
theorem dL_penalty_0 : decode cL_penalty 0 = .ok (.aload_n 0, 1) := by decide +kernel
theorem dL_penalty_1 : decode cL_penalty 1 = .ok (.iload_n 1, 1) := by decide +kernel
theorem dL_penalty_2 : decode cL_penalty 2 = .ok (.invokevirtual 48, 3) := by decide +kernel
theorem dL_penalty_5 : decode cL_penalty 5 = .ok (.ireturn, 1) := by decide +kernel
theorem dL_penalty_6 : decode cL_penalty 6 = .ok (.astore_n 2, 1) := by decide +kernel
theorem dL_penalty_7 : decode cL_penalty 7 = .ok (.ldc 21, 2) := by decide +kernel
theorem dL_penalty_9 : decode cL_penalty 9 = .ok (.ireturn, 1) := by decide +kernel
theorem dL_leg_0 : decode cL_leg 0 = .ok (.aload_n 0, 1) := by decide +kernel
theorem dL_leg_1 : decode cL_leg 1 = .ok (.iload_n 1, 1) := by decide +kernel
theorem dL_leg_2 : decode cL_leg 2 = .ok (.iload_n 2, 1) := by decide +kernel
theorem dL_leg_3 : decode cL_leg 3 = .ok (.iload_n 3, 1) := by decide +kernel
theorem dL_leg_4 : decode cL_leg 4 = .ok (.iload 4, 2) := by decide +kernel
theorem dL_leg_6 : decode cL_leg 6 = .ok (.invokevirtual 51, 3) := by decide +kernel
theorem dL_leg_9 : decode cL_leg 9 = .ok (.ireturn, 1) := by decide +kernel
theorem dL_leg_10 : decode cL_leg 10 = .ok (.astore 5, 2) := by decide +kernel
theorem dL_leg_12 : decode cL_leg 12 = .ok (.ldc 18, 2) := by decide +kernel
theorem dL_leg_14 : decode cL_leg 14 = .ok (.ireturn, 1) := by decide +kernel
theorem dL_leg_15 : decode cL_leg 15 = .ok (.astore 5, 2) := by decide +kernel
theorem dL_leg_17 : decode cL_leg 17 = .ok (.ldc 21, 2) := by decide +kernel
theorem dL_leg_19 : decode cL_leg 19 = .ok (.ireturn, 1) := by decide +kernel
theorem dL_leg_20 : decode cL_leg 20 = .ok (.astore 5, 2) := by decide +kernel
theorem dL_leg_22 : decode cL_leg 22 = .ok (.ldc 28, 2) := by decide +kernel
theorem dL_leg_24 : decode cL_leg 24 = .ok (.ireturn, 1) := by decide +kernel
theorem dL_part_0 : decode cL_part 0 = .ok (.aload_n 0, 1) := by decide +kernel
theorem dL_part_1 : decode cL_part 1 = .ok (.iload_n 1, 1) := by decide +kernel
theorem dL_part_2 : decode cL_part 2 = .ok (.iload_n 2, 1) := by decide +kernel
theorem dL_part_3 : decode cL_part 3 = .ok (.invokevirtual 54, 3) := by decide +kernel
theorem dL_part_6 : decode cL_part 6 = .ok (.ireturn, 1) := by decide +kernel
theorem dL_part_7 : decode cL_part 7 = .ok (.astore_n 3, 1) := by decide +kernel
theorem dL_part_8 : decode cL_part 8 = .ok (.ldc 18, 2) := by decide +kernel
theorem dL_part_10 : decode cL_part 10 = .ok (.ireturn, 1) := by decide +kernel
theorem dL_part_11 : decode cL_part 11 = .ok (.astore_n 3, 1) := by decide +kernel
theorem dL_part_12 : decode cL_part 12 = .ok (.ldc 21, 2) := by decide +kernel
theorem dL_part_14 : decode cL_part 14 = .ok (.ireturn, 1) := by decide +kernel
theorem dL_issue_0 : decode cL_issue 0 = .ok (.aload_n 0, 1) := by decide +kernel
theorem dL_issue_1 : decode cL_issue 1 = .ok (.iload_n 1, 1) := by decide +kernel
theorem dL_issue_2 : decode cL_issue 2 = .ok (.invokevirtual 58, 3) := by decide +kernel
theorem dL_issue_5 : decode cL_issue 5 = .ok (.ireturn, 1) := by decide +kernel
theorem dL_issue_6 : decode cL_issue 6 = .ok (.astore_n 2, 1) := by decide +kernel
theorem dL_issue_7 : decode cL_issue 7 = .ok (.ldc 18, 2) := by decide +kernel
theorem dL_issue_9 : decode cL_issue 9 = .ok (.ireturn, 1) := by decide +kernel
theorem dL_issue_10 : decode cL_issue 10 = .ok (.astore_n 2, 1) := by decide +kernel
theorem dL_issue_11 : decode cL_issue 11 = .ok (.ldc 28, 2) := by decide +kernel
theorem dL_issue_13 : decode cL_issue 13 = .ok (.ireturn, 1) := by decide +kernel
theorem dL_fly_0 : decode cL_fly 0 = .ok (.aload_n 0, 1) := by decide +kernel
theorem dL_fly_1 : decode cL_fly 1 = .ok (.iload_n 1, 1) := by decide +kernel
theorem dL_fly_2 : decode cL_fly 2 = .ok (.iload_n 2, 1) := by decide +kernel
theorem dL_fly_3 : decode cL_fly 3 = .ok (.invokevirtual 61, 3) := by decide +kernel
theorem dL_fly_6 : decode cL_fly 6 = .ok (.ireturn, 1) := by decide +kernel
theorem dL_fly_7 : decode cL_fly 7 = .ok (.astore_n 3, 1) := by decide +kernel
theorem dL_fly_8 : decode cL_fly 8 = .ok (.ldc 18, 2) := by decide +kernel
theorem dL_fly_10 : decode cL_fly 10 = .ok (.ireturn, 1) := by decide +kernel
theorem dL_fly_11 : decode cL_fly 11 = .ok (.astore_n 3, 1) := by decide +kernel
theorem dL_fly_12 : decode cL_fly 12 = .ok (.ldc 28, 2) := by decide +kernel
theorem dL_fly_14 : decode cL_fly 14 = .ok (.ireturn, 1) := by decide +kernel
theorem dL_endorse_0 : decode cL_endorse 0 = .ok (.aload_n 0, 1) := by decide +kernel
theorem dL_endorse_1 : decode cL_endorse 1 = .ok (.iload_n 1, 1) := by decide +kernel
theorem dL_endorse_2 : decode cL_endorse 2 = .ok (.iload_n 2, 1) := by decide +kernel
theorem dL_endorse_3 : decode cL_endorse 3 = .ok (.iload_n 3, 1) := by decide +kernel
theorem dL_endorse_4 : decode cL_endorse 4 = .ok (.invokevirtual 64, 3) := by decide +kernel
theorem dL_endorse_7 : decode cL_endorse 7 = .ok (.ireturn, 1) := by decide +kernel
theorem dL_endorse_8 : decode cL_endorse 8 = .ok (.astore 4, 2) := by decide +kernel
theorem dL_endorse_10 : decode cL_endorse 10 = .ok (.ldc 18, 2) := by decide +kernel
theorem dL_endorse_12 : decode cL_endorse 12 = .ok (.ireturn, 1) := by decide +kernel
theorem dL_endorse_13 : decode cL_endorse 13 = .ok (.astore 4, 2) := by decide +kernel
theorem dL_endorse_15 : decode cL_endorse 15 = .ok (.ldc 28, 2) := by decide +kernel
theorem dL_endorse_17 : decode cL_endorse 17 = .ok (.ireturn, 1) := by decide +kernel
theorem dL_refund_0 : decode cL_refund 0 = .ok (.aload_n 0, 1) := by decide +kernel
theorem dL_refund_1 : decode cL_refund 1 = .ok (.iload_n 1, 1) := by decide +kernel
theorem dL_refund_2 : decode cL_refund 2 = .ok (.invokevirtual 67, 3) := by decide +kernel
theorem dL_refund_5 : decode cL_refund 5 = .ok (.ireturn, 1) := by decide +kernel
theorem dL_refund_6 : decode cL_refund 6 = .ok (.astore_n 2, 1) := by decide +kernel
theorem dL_refund_7 : decode cL_refund 7 = .ok (.ldc 18, 2) := by decide +kernel
theorem dL_refund_9 : decode cL_refund 9 = .ok (.ireturn, 1) := by decide +kernel
theorem dL_refund_10 : decode cL_refund 10 = .ok (.astore_n 2, 1) := by decide +kernel
theorem dL_refund_11 : decode cL_refund 11 = .ok (.ldc 28, 2) := by decide +kernel
theorem dL_refund_13 : decode cL_refund 13 = .ok (.ireturn, 1) := by decide +kernel
theorem dL_reissue_0 : decode cL_reissue 0 = .ok (.aload_n 0, 1) := by decide +kernel
theorem dL_reissue_1 : decode cL_reissue 1 = .ok (.iload_n 1, 1) := by decide +kernel
theorem dL_reissue_2 : decode cL_reissue 2 = .ok (.invokevirtual 70, 3) := by decide +kernel
theorem dL_reissue_5 : decode cL_reissue 5 = .ok (.ireturn, 1) := by decide +kernel
theorem dL_reissue_6 : decode cL_reissue 6 = .ok (.astore_n 2, 1) := by decide +kernel
theorem dL_reissue_7 : decode cL_reissue 7 = .ok (.ldc 18, 2) := by decide +kernel
theorem dL_reissue_9 : decode cL_reissue 9 = .ok (.ireturn, 1) := by decide +kernel
theorem dL_reissue_10 : decode cL_reissue 10 = .ok (.astore_n 2, 1) := by decide +kernel
theorem dL_reissue_11 : decode cL_reissue 11 = .ok (.ldc 28, 2) := by decide +kernel
theorem dL_reissue_13 : decode cL_reissue 13 = .ok (.ireturn, 1) := by decide +kernel
theorem dL_pass_0 : decode cL_pass 0 = .ok (.aload_n 0, 1) := by decide +kernel
theorem dL_pass_1 : decode cL_pass 1 = .ok (.iload_n 1, 1) := by decide +kernel
theorem dL_pass_2 : decode cL_pass 2 = .ok (.invokevirtual 73, 3) := by decide +kernel
theorem dL_pass_5 : decode cL_pass 5 = .ok (.ireturn, 1) := by decide +kernel
theorem dL_pass_6 : decode cL_pass 6 = .ok (.astore_n 2, 1) := by decide +kernel
theorem dL_pass_7 : decode cL_pass 7 = .ok (.ldc 21, 2) := by decide +kernel
theorem dL_pass_9 : decode cL_pass 9 = .ok (.ireturn, 1) := by decide +kernel
theorem dL_pass_10 : decode cL_pass 10 = .ok (.astore_n 2, 1) := by decide +kernel
theorem dL_pass_11 : decode cL_pass 11 = .ok (.ldc 28, 2) := by decide +kernel
theorem dL_pass_13 : decode cL_pass 13 = .ok (.ireturn, 1) := by decide +kernel
theorem dL_reject_0 : decode cL_reject 0 = .ok (.aload_n 0, 1) := by decide +kernel
theorem dL_reject_1 : decode cL_reject 1 = .ok (.iload_n 1, 1) := by decide +kernel
theorem dL_reject_2 : decode cL_reject 2 = .ok (.invokevirtual 76, 3) := by decide +kernel
theorem dL_reject_5 : decode cL_reject 5 = .ok (.ireturn, 1) := by decide +kernel
theorem dL_reject_6 : decode cL_reject 6 = .ok (.astore_n 2, 1) := by decide +kernel
theorem dL_reject_7 : decode cL_reject 7 = .ok (.ldc 18, 2) := by decide +kernel
theorem dL_reject_9 : decode cL_reject 9 = .ok (.ireturn, 1) := by decide +kernel
theorem dL_reject_10 : decode cL_reject 10 = .ok (.astore_n 2, 1) := by decide +kernel
theorem dL_reject_11 : decode cL_reject 11 = .ok (.ldc 28, 2) := by decide +kernel
theorem dL_reject_13 : decode cL_reject 13 = .ok (.ireturn, 1) := by decide +kernel
theorem dL_rebill_0 : decode cL_rebill 0 = .ok (.aload_n 0, 1) := by decide +kernel
theorem dL_rebill_1 : decode cL_rebill 1 = .ok (.iload_n 1, 1) := by decide +kernel
theorem dL_rebill_2 : decode cL_rebill 2 = .ok (.invokevirtual 79, 3) := by decide +kernel
theorem dL_rebill_5 : decode cL_rebill 5 = .ok (.iconst 0, 1) := by decide +kernel
theorem dL_rebill_6 : decode cL_rebill 6 = .ok (.ireturn, 1) := by decide +kernel
theorem dL_rebill_7 : decode cL_rebill 7 = .ok (.astore_n 2, 1) := by decide +kernel
theorem dL_rebill_8 : decode cL_rebill 8 = .ok (.ldc 18, 2) := by decide +kernel
theorem dL_rebill_10 : decode cL_rebill 10 = .ok (.ireturn, 1) := by decide +kernel
theorem dL_rebill_11 : decode cL_rebill 11 = .ok (.astore_n 2, 1) := by decide +kernel
theorem dL_rebill_12 : decode cL_rebill 12 = .ok (.ldc 28, 2) := by decide +kernel
theorem dL_rebill_14 : decode cL_rebill 14 = .ok (.ireturn, 1) := by decide +kernel
theorem dL_fails_0 : decode cL_fails 0 = .ok (.aload_n 0, 1) := by decide +kernel
theorem dL_fails_1 : decode cL_fails 1 = .ok (.iload_n 1, 1) := by decide +kernel
theorem dL_fails_2 : decode cL_fails 2 = .ok (.iload_n 2, 1) := by decide +kernel
theorem dL_fails_3 : decode cL_fails 3 = .ok (.invokevirtual 82, 3) := by decide +kernel
theorem dL_fails_6 : decode cL_fails 6 = .ok (.ireturn, 1) := by decide +kernel
theorem dL_fails_7 : decode cL_fails 7 = .ok (.astore_n 3, 1) := by decide +kernel
theorem dL_fails_8 : decode cL_fails 8 = .ok (.ldc 18, 2) := by decide +kernel
theorem dL_fails_10 : decode cL_fails 10 = .ok (.ireturn, 1) := by decide +kernel
theorem dL_ofTicket_0 : decode cL_ofTicket 0 = .ok (.aload_n 0, 1) := by decide +kernel
theorem dL_ofTicket_1 : decode cL_ofTicket 1 = .ok (.iload_n 1, 1) := by decide +kernel
theorem dL_ofTicket_2 : decode cL_ofTicket 2 = .ok (.iload_n 2, 1) := by decide +kernel
theorem dL_ofTicket_3 : decode cL_ofTicket 3 = .ok (.invokevirtual 86, 3) := by decide +kernel
theorem dL_ofTicket_6 : decode cL_ofTicket 6 = .ok (.ireturn, 1) := by decide +kernel
theorem dL_ofTicket_7 : decode cL_ofTicket 7 = .ok (.astore_n 3, 1) := by decide +kernel
theorem dL_ofTicket_8 : decode cL_ofTicket 8 = .ok (.ldc 18, 2) := by decide +kernel
theorem dL_ofTicket_10 : decode cL_ofTicket 10 = .ok (.ireturn, 1) := by decide +kernel
theorem dL_ofTicket_11 : decode cL_ofTicket 11 = .ok (.astore_n 3, 1) := by decide +kernel
theorem dL_ofTicket_12 : decode cL_ofTicket 12 = .ok (.ldc 21, 2) := by decide +kernel
theorem dL_ofTicket_14 : decode cL_ofTicket 14 = .ok (.ireturn, 1) := by decide +kernel
theorem dL_ofCoupon_0 : decode cL_ofCoupon 0 = .ok (.aload_n 0, 1) := by decide +kernel
theorem dL_ofCoupon_1 : decode cL_ofCoupon 1 = .ok (.iload_n 1, 1) := by decide +kernel
theorem dL_ofCoupon_2 : decode cL_ofCoupon 2 = .ok (.iload_n 2, 1) := by decide +kernel
theorem dL_ofCoupon_3 : decode cL_ofCoupon 3 = .ok (.iload_n 3, 1) := by decide +kernel
theorem dL_ofCoupon_4 : decode cL_ofCoupon 4 = .ok (.invokevirtual 89, 3) := by decide +kernel
theorem dL_ofCoupon_7 : decode cL_ofCoupon 7 = .ok (.ireturn, 1) := by decide +kernel
theorem dL_ofCoupon_8 : decode cL_ofCoupon 8 = .ok (.astore 4, 2) := by decide +kernel
theorem dL_ofCoupon_10 : decode cL_ofCoupon 10 = .ok (.ldc 18, 2) := by decide +kernel
theorem dL_ofCoupon_12 : decode cL_ofCoupon 12 = .ok (.ireturn, 1) := by decide +kernel
theorem dL_ofCoupon_13 : decode cL_ofCoupon 13 = .ok (.astore 4, 2) := by decide +kernel
theorem dL_ofCoupon_15 : decode cL_ofCoupon 15 = .ok (.ldc 21, 2) := by decide +kernel
theorem dL_ofCoupon_17 : decode cL_ofCoupon 17 = .ok (.ireturn, 1) := by decide +kernel
theorem dL_ofBill_0 : decode cL_ofBill 0 = .ok (.aload_n 0, 1) := by decide +kernel
theorem dL_ofBill_1 : decode cL_ofBill 1 = .ok (.iload_n 1, 1) := by decide +kernel
theorem dL_ofBill_2 : decode cL_ofBill 2 = .ok (.iload_n 2, 1) := by decide +kernel
theorem dL_ofBill_3 : decode cL_ofBill 3 = .ok (.invokevirtual 92, 3) := by decide +kernel
theorem dL_ofBill_6 : decode cL_ofBill 6 = .ok (.ireturn, 1) := by decide +kernel
theorem dL_ofBill_7 : decode cL_ofBill 7 = .ok (.astore_n 3, 1) := by decide +kernel
theorem dL_ofBill_8 : decode cL_ofBill 8 = .ok (.ldc 18, 2) := by decide +kernel
theorem dL_ofBill_10 : decode cL_ofBill 10 = .ok (.ireturn, 1) := by decide +kernel
theorem dL_ofBill_11 : decode cL_ofBill 11 = .ok (.astore_n 3, 1) := by decide +kernel
theorem dL_ofBill_12 : decode cL_ofBill 12 = .ok (.ldc 21, 2) := by decide +kernel
theorem dL_ofBill_14 : decode cL_ofBill 14 = .ok (.ireturn, 1) := by decide +kernel
theorem dL_cash_0 : decode cL_cash 0 = .ok (.aload_n 0, 1) := by decide +kernel
theorem dL_cash_1 : decode cL_cash 1 = .ok (.iload_n 1, 1) := by decide +kernel
theorem dL_cash_2 : decode cL_cash 2 = .ok (.invokevirtual 95, 3) := by decide +kernel
theorem dL_cash_5 : decode cL_cash 5 = .ok (.lreturn, 1) := by decide +kernel
theorem dL_cash_6 : decode cL_cash 6 = .ok (.astore_n 2, 1) := by decide +kernel
theorem dL_cash_7 : decode cL_cash 7 = .ok (.ldc2_w 99, 3) := by decide +kernel
theorem dL_cash_10 : decode cL_cash 10 = .ok (.lreturn, 1) := by decide +kernel
theorem dL_cashAnew_0 : decode cL_cashAnew 0 = .ok (.aload_n 0, 1) := by decide +kernel
theorem dL_cashAnew_1 : decode cL_cashAnew 1 = .ok (.iload_n 1, 1) := by decide +kernel
theorem dL_cashAnew_2 : decode cL_cashAnew 2 = .ok (.invokevirtual 101, 3) := by decide +kernel
theorem dL_cashAnew_5 : decode cL_cashAnew 5 = .ok (.lreturn, 1) := by decide +kernel
theorem dL_cashAnew_6 : decode cL_cashAnew 6 = .ok (.astore_n 2, 1) := by decide +kernel
theorem dL_cashAnew_7 : decode cL_cashAnew 7 = .ok (.ldc2_w 99, 3) := by decide +kernel
theorem dL_cashAnew_10 : decode cL_cashAnew 10 = .ok (.lreturn, 1) := by decide +kernel
theorem dL_state_0 : decode cL_state 0 = .ok (.aload_n 0, 1) := by decide +kernel
theorem dL_state_1 : decode cL_state 1 = .ok (.iload_n 1, 1) := by decide +kernel
theorem dL_state_2 : decode cL_state 2 = .ok (.invokevirtual 104, 3) := by decide +kernel
theorem dL_state_5 : decode cL_state 5 = .ok (.lreturn, 1) := by decide +kernel
theorem dL_state_6 : decode cL_state 6 = .ok (.astore_n 2, 1) := by decide +kernel
theorem dL_state_7 : decode cL_state 7 = .ok (.ldc2_w 99, 3) := by decide +kernel
theorem dL_state_10 : decode cL_state 10 = .ok (.lreturn, 1) := by decide +kernel
theorem dL_of_0 : decode cL_of 0 = .ok (.aload_n 0, 1) := by decide +kernel
theorem dL_of_1 : decode cL_of 1 = .ok (.iload_n 1, 1) := by decide +kernel
theorem dL_of_2 : decode cL_of 2 = .ok (.invokevirtual 107, 3) := by decide +kernel
theorem dL_of_5 : decode cL_of 5 = .ok (.ireturn, 1) := by decide +kernel
theorem dL_of_6 : decode cL_of 6 = .ok (.astore_n 2, 1) := by decide +kernel
theorem dL_of_7 : decode cL_of 7 = .ok (.ldc 21, 2) := by decide +kernel
theorem dL_of_9 : decode cL_of 9 = .ok (.ireturn, 1) := by decide +kernel
theorem dL_balances_0 : decode cL_balances 0 = .ok (.lconst 0, 1) := by decide +kernel
theorem dL_balances_1 : decode cL_balances 1 = .ok (.lstore_n 2, 1) := by decide +kernel
theorem dL_balances_2 : decode cL_balances 2 = .ok (.aload_n 0, 1) := by decide +kernel
theorem dL_balances_3 : decode cL_balances 3 = .ok (.iconst 5, 1) := by decide +kernel
theorem dL_balances_4 : decode cL_balances 4 = .ok (.invokestatic 110, 3) := by decide +kernel
theorem dL_balances_7 : decode cL_balances 7 = .ok (.ldc2_w 99, 3) := by decide +kernel
theorem dL_balances_10 : decode cL_balances 10 = .ok (.lcmp, 1) := by decide +kernel
theorem dL_balances_11 : decode cL_balances 11 = .ok (.ifCond .ne 31, 3) := by decide +kernel
theorem dL_balances_14 : decode cL_balances 14 = .ok (.aload_n 0, 1) := by decide +kernel
theorem dL_balances_15 : decode cL_balances 15 = .ok (.bipush 10, 2) := by decide +kernel
theorem dL_balances_17 : decode cL_balances 17 = .ok (.invokestatic 115, 3) := by decide +kernel
theorem dL_balances_20 : decode cL_balances 20 = .ok (.ldc2_w 99, 3) := by decide +kernel
theorem dL_balances_23 : decode cL_balances 23 = .ok (.lcmp, 1) := by decide +kernel
theorem dL_balances_24 : decode cL_balances 24 = .ok (.ifCond .ne 18, 3) := by decide +kernel
theorem dL_balances_27 : decode cL_balances 27 = .ok (.aload_n 0, 1) := by decide +kernel
theorem dL_balances_28 : decode cL_balances 28 = .ok (.bipush 6, 2) := by decide +kernel
theorem dL_balances_30 : decode cL_balances 30 = .ok (.invokestatic 117, 3) := by decide +kernel
theorem dL_balances_33 : decode cL_balances 33 = .ok (.ldc 21, 2) := by decide +kernel
theorem dL_balances_35 : decode cL_balances 35 = .ok (.if_icmp .ne 7, 3) := by decide +kernel
theorem dL_balances_38 : decode cL_balances 38 = .ok (.iconst 1, 1) := by decide +kernel
theorem dL_balances_39 : decode cL_balances 39 = .ok (.goto 4, 3) := by decide +kernel
theorem dL_balances_42 : decode cL_balances 42 = .ok (.iconst 0, 1) := by decide +kernel
theorem dL_balances_43 : decode cL_balances 43 = .ok (.istore 4, 2) := by decide +kernel
theorem dL_balances_45 : decode cL_balances 45 = .ok (.iconst 0, 1) := by decide +kernel
theorem dL_balances_46 : decode cL_balances 46 = .ok (.istore 5, 2) := by decide +kernel
theorem dL_balances_48 : decode cL_balances 48 = .ok (.iload 5, 2) := by decide +kernel
theorem dL_balances_50 : decode cL_balances 50 = .ok (.iconst 5, 1) := by decide +kernel
theorem dL_balances_51 : decode cL_balances 51 = .ok (.if_icmp .ge 46, 3) := by decide +kernel
theorem dL_balances_54 : decode cL_balances 54 = .ok (.iload 4, 2) := by decide +kernel
theorem dL_balances_56 : decode cL_balances 56 = .ok (.ifCond .eq 41, 3) := by decide +kernel
theorem dL_balances_59 : decode cL_balances 59 = .ok (.lload_n 2, 1) := by decide +kernel
theorem dL_balances_60 : decode cL_balances 60 = .ok (.aload_n 0, 1) := by decide +kernel
theorem dL_balances_61 : decode cL_balances 61 = .ok (.iload 5, 2) := by decide +kernel
theorem dL_balances_63 : decode cL_balances 63 = .ok (.invokestatic 110, 3) := by decide +kernel
theorem dL_balances_66 : decode cL_balances 66 = .ok (.ladd, 1) := by decide +kernel
theorem dL_balances_67 : decode cL_balances 67 = .ok (.lstore_n 2, 1) := by decide +kernel
theorem dL_balances_68 : decode cL_balances 68 = .ok (.aload_n 0, 1) := by decide +kernel
theorem dL_balances_69 : decode cL_balances 69 = .ok (.iload 5, 2) := by decide +kernel
theorem dL_balances_71 : decode cL_balances 71 = .ok (.invokestatic 110, 3) := by decide +kernel
theorem dL_balances_74 : decode cL_balances 74 = .ok (.aload_n 0, 1) := by decide +kernel
theorem dL_balances_75 : decode cL_balances 75 = .ok (.iload 5, 2) := by decide +kernel
theorem dL_balances_77 : decode cL_balances 77 = .ok (.invokestatic 120, 3) := by decide +kernel
theorem dL_balances_80 : decode cL_balances 80 = .ok (.lcmp, 1) := by decide +kernel
theorem dL_balances_81 : decode cL_balances 81 = .ok (.ifCond .ne 7, 3) := by decide +kernel
theorem dL_balances_84 : decode cL_balances 84 = .ok (.iconst 1, 1) := by decide +kernel
theorem dL_balances_85 : decode cL_balances 85 = .ok (.goto 4, 3) := by decide +kernel
theorem dL_balances_88 : decode cL_balances 88 = .ok (.iconst 0, 1) := by decide +kernel
theorem dL_balances_89 : decode cL_balances 89 = .ok (.istore 4, 2) := by decide +kernel
theorem dL_balances_91 : decode cL_balances 91 = .ok (.iinc 5 1, 3) := by decide +kernel
theorem dL_balances_94 : decode cL_balances 94 = .ok (.goto (-46), 3) := by decide +kernel
theorem dL_balances_97 : decode cL_balances 97 = .ok (.iconst 0, 1) := by decide +kernel
theorem dL_balances_98 : decode cL_balances 98 = .ok (.istore 5, 2) := by decide +kernel
theorem dL_balances_100 : decode cL_balances 100 = .ok (.iload 5, 2) := by decide +kernel
theorem dL_balances_102 : decode cL_balances 102 = .ok (.bipush 10, 2) := by decide +kernel
theorem dL_balances_104 : decode cL_balances 104 = .ok (.if_icmp .ge 41, 3) := by decide +kernel
theorem dL_balances_107 : decode cL_balances 107 = .ok (.iload 4, 2) := by decide +kernel
theorem dL_balances_109 : decode cL_balances 109 = .ok (.ifCond .eq 36, 3) := by decide +kernel
theorem dL_balances_112 : decode cL_balances 112 = .ok (.lload_n 2, 1) := by decide +kernel
theorem dL_balances_113 : decode cL_balances 113 = .ok (.aload_n 0, 1) := by decide +kernel
theorem dL_balances_114 : decode cL_balances 114 = .ok (.iload 5, 2) := by decide +kernel
theorem dL_balances_116 : decode cL_balances 116 = .ok (.invokestatic 115, 3) := by decide +kernel
theorem dL_balances_119 : decode cL_balances 119 = .ok (.ladd, 1) := by decide +kernel
theorem dL_balances_120 : decode cL_balances 120 = .ok (.lstore_n 2, 1) := by decide +kernel
theorem dL_balances_121 : decode cL_balances 121 = .ok (.aload_n 0, 1) := by decide +kernel
theorem dL_balances_122 : decode cL_balances 122 = .ok (.iload 5, 2) := by decide +kernel
theorem dL_balances_124 : decode cL_balances 124 = .ok (.invokestatic 115, 3) := by decide +kernel
theorem dL_balances_127 : decode cL_balances 127 = .ok (.lconst 0, 1) := by decide +kernel
theorem dL_balances_128 : decode cL_balances 128 = .ok (.lcmp, 1) := by decide +kernel
theorem dL_balances_129 : decode cL_balances 129 = .ok (.ifCond .lt 7, 3) := by decide +kernel
theorem dL_balances_132 : decode cL_balances 132 = .ok (.iconst 1, 1) := by decide +kernel
theorem dL_balances_133 : decode cL_balances 133 = .ok (.goto 4, 3) := by decide +kernel
theorem dL_balances_136 : decode cL_balances 136 = .ok (.iconst 0, 1) := by decide +kernel
theorem dL_balances_137 : decode cL_balances 137 = .ok (.istore 4, 2) := by decide +kernel
theorem dL_balances_139 : decode cL_balances 139 = .ok (.iinc 5 1, 3) := by decide +kernel
theorem dL_balances_142 : decode cL_balances 142 = .ok (.goto (-42), 3) := by decide +kernel
theorem dL_balances_145 : decode cL_balances 145 = .ok (.iload 4, 2) := by decide +kernel
theorem dL_balances_147 : decode cL_balances 147 = .ok (.ifCond .eq 89, 3) := by decide +kernel
theorem dL_balances_150 : decode cL_balances 150 = .ok (.lload_n 2, 1) := by decide +kernel
theorem dL_balances_151 : decode cL_balances 151 = .ok (.aload_n 0, 1) := by decide +kernel
theorem dL_balances_152 : decode cL_balances 152 = .ok (.invokevirtual 122, 3) := by decide +kernel
theorem dL_balances_155 : decode cL_balances 155 = .ok (.lcmp, 1) := by decide +kernel
theorem dL_balances_156 : decode cL_balances 156 = .ok (.ifCond .ne 80, 3) := by decide +kernel
theorem dL_balances_159 : decode cL_balances 159 = .ok (.aload_n 0, 1) := by decide +kernel
theorem dL_balances_160 : decode cL_balances 160 = .ok (.iconst 0, 1) := by decide +kernel
theorem dL_balances_161 : decode cL_balances 161 = .ok (.invokestatic 117, 3) := by decide +kernel
theorem dL_balances_164 : decode cL_balances 164 = .ok (.aload_n 1, 1) := by decide +kernel
theorem dL_balances_165 : decode cL_balances 165 = .ok (.iconst 0, 1) := by decide +kernel
theorem dL_balances_166 : decode cL_balances 166 = .ok (.iaload, 1) := by decide +kernel
theorem dL_balances_167 : decode cL_balances 167 = .ok (.if_icmp .ne 69, 3) := by decide +kernel
theorem dL_balances_170 : decode cL_balances 170 = .ok (.aload_n 0, 1) := by decide +kernel
theorem dL_balances_171 : decode cL_balances 171 = .ok (.iconst 1, 1) := by decide +kernel
theorem dL_balances_172 : decode cL_balances 172 = .ok (.invokestatic 117, 3) := by decide +kernel
theorem dL_balances_175 : decode cL_balances 175 = .ok (.aload_n 1, 1) := by decide +kernel
theorem dL_balances_176 : decode cL_balances 176 = .ok (.iconst 1, 1) := by decide +kernel
theorem dL_balances_177 : decode cL_balances 177 = .ok (.iaload, 1) := by decide +kernel
theorem dL_balances_178 : decode cL_balances 178 = .ok (.if_icmp .ne 58, 3) := by decide +kernel
theorem dL_balances_181 : decode cL_balances 181 = .ok (.aload_n 0, 1) := by decide +kernel
theorem dL_balances_182 : decode cL_balances 182 = .ok (.iconst 2, 1) := by decide +kernel
theorem dL_balances_183 : decode cL_balances 183 = .ok (.invokestatic 117, 3) := by decide +kernel
theorem dL_balances_186 : decode cL_balances 186 = .ok (.aload_n 1, 1) := by decide +kernel
theorem dL_balances_187 : decode cL_balances 187 = .ok (.iconst 2, 1) := by decide +kernel
theorem dL_balances_188 : decode cL_balances 188 = .ok (.iaload, 1) := by decide +kernel
theorem dL_balances_189 : decode cL_balances 189 = .ok (.if_icmp .ne 47, 3) := by decide +kernel
theorem dL_balances_192 : decode cL_balances 192 = .ok (.aload_n 0, 1) := by decide +kernel
theorem dL_balances_193 : decode cL_balances 193 = .ok (.iconst 3, 1) := by decide +kernel
theorem dL_balances_194 : decode cL_balances 194 = .ok (.invokestatic 117, 3) := by decide +kernel
theorem dL_balances_197 : decode cL_balances 197 = .ok (.aload_n 1, 1) := by decide +kernel
theorem dL_balances_198 : decode cL_balances 198 = .ok (.iconst 3, 1) := by decide +kernel
theorem dL_balances_199 : decode cL_balances 199 = .ok (.iaload, 1) := by decide +kernel
theorem dL_balances_200 : decode cL_balances 200 = .ok (.if_icmp .ne 36, 3) := by decide +kernel
theorem dL_balances_203 : decode cL_balances 203 = .ok (.aload_n 0, 1) := by decide +kernel
theorem dL_balances_204 : decode cL_balances 204 = .ok (.iconst 4, 1) := by decide +kernel
theorem dL_balances_205 : decode cL_balances 205 = .ok (.invokestatic 117, 3) := by decide +kernel
theorem dL_balances_208 : decode cL_balances 208 = .ok (.aload_n 1, 1) := by decide +kernel
theorem dL_balances_209 : decode cL_balances 209 = .ok (.iconst 4, 1) := by decide +kernel
theorem dL_balances_210 : decode cL_balances 210 = .ok (.iaload, 1) := by decide +kernel
theorem dL_balances_211 : decode cL_balances 211 = .ok (.if_icmp .ne 25, 3) := by decide +kernel
theorem dL_balances_214 : decode cL_balances 214 = .ok (.aload_n 0, 1) := by decide +kernel
theorem dL_balances_215 : decode cL_balances 215 = .ok (.iconst 5, 1) := by decide +kernel
theorem dL_balances_216 : decode cL_balances 216 = .ok (.invokestatic 117, 3) := by decide +kernel
theorem dL_balances_219 : decode cL_balances 219 = .ok (.ifCond .lt 17, 3) := by decide +kernel
theorem dL_balances_222 : decode cL_balances 222 = .ok (.aload_n 0, 1) := by decide +kernel
theorem dL_balances_223 : decode cL_balances 223 = .ok (.iconst 5, 1) := by decide +kernel
theorem dL_balances_224 : decode cL_balances 224 = .ok (.invokestatic 117, 3) := by decide +kernel
theorem dL_balances_227 : decode cL_balances 227 = .ok (.bipush 32, 2) := by decide +kernel
theorem dL_balances_229 : decode cL_balances 229 = .ok (.if_icmp .ge 7, 3) := by decide +kernel
theorem dL_balances_232 : decode cL_balances 232 = .ok (.iconst 1, 1) := by decide +kernel
theorem dL_balances_233 : decode cL_balances 233 = .ok (.goto 4, 3) := by decide +kernel
theorem dL_balances_236 : decode cL_balances 236 = .ok (.iconst 0, 1) := by decide +kernel
theorem dL_balances_237 : decode cL_balances 237 = .ok (.ireturn, 1) := by decide +kernel
theorem dL_isWay_0 : decode cL_isWay 0 = .ok (.aload_n 1, 1) := by decide +kernel
theorem dL_isWay_1 : decode cL_isWay 1 = .ok (.bipush 6, 2) := by decide +kernel
theorem dL_isWay_3 : decode cL_isWay 3 = .ok (.dup2, 1) := by decide +kernel
theorem dL_isWay_4 : decode cL_isWay 4 = .ok (.iaload, 1) := by decide +kernel
theorem dL_isWay_5 : decode cL_isWay 5 = .ok (.iconst 1, 1) := by decide +kernel
theorem dL_isWay_6 : decode cL_isWay 6 = .ok (.iadd, 1) := by decide +kernel
theorem dL_isWay_7 : decode cL_isWay 7 = .ok (.iastore, 1) := by decide +kernel
theorem dL_isWay_8 : decode cL_isWay 8 = .ok (.aload_n 1, 1) := by decide +kernel
theorem dL_isWay_9 : decode cL_isWay 9 = .ok (.bipush 6, 2) := by decide +kernel
theorem dL_isWay_11 : decode cL_isWay 11 = .ok (.iaload, 1) := by decide +kernel
theorem dL_isWay_12 : decode cL_isWay 12 = .ok (.bipush 24, 2) := by decide +kernel
theorem dL_isWay_14 : decode cL_isWay 14 = .ok (.if_icmp .le 5, 3) := by decide +kernel
theorem dL_isWay_17 : decode cL_isWay 17 = .ok (.iconst 1, 1) := by decide +kernel
theorem dL_isWay_18 : decode cL_isWay 18 = .ok (.ireturn, 1) := by decide +kernel
theorem dL_isWay_19 : decode cL_isWay 19 = .ok (.aload_n 0, 1) := by decide +kernel
theorem dL_isWay_20 : decode cL_isWay 20 = .ok (.invokevirtual 126, 3) := by decide +kernel
theorem dL_isWay_23 : decode cL_isWay 23 = .ok (.istore_n 2, 1) := by decide +kernel
theorem dL_isWay_24 : decode cL_isWay 24 = .ok (.aload_n 0, 1) := by decide +kernel
theorem dL_isWay_25 : decode cL_isWay 25 = .ok (.invokevirtual 130, 3) := by decide +kernel
theorem dL_isWay_28 : decode cL_isWay 28 = .ok (.istore_n 3, 1) := by decide +kernel
theorem dL_isWay_29 : decode cL_isWay 29 = .ok (.aload_n 1, 1) := by decide +kernel
theorem dL_isWay_30 : decode cL_isWay 30 = .ok (.iconst 1, 1) := by decide +kernel
theorem dL_isWay_31 : decode cL_isWay 31 = .ok (.iaload, 1) := by decide +kernel
theorem dL_isWay_32 : decode cL_isWay 32 = .ok (.ifCond .eq 7, 3) := by decide +kernel
theorem dL_isWay_35 : decode cL_isWay 35 = .ok (.iload_n 2, 1) := by decide +kernel
theorem dL_isWay_36 : decode cL_isWay 36 = .ok (.ifCond .ge 54, 3) := by decide +kernel
theorem dL_isWay_39 : decode cL_isWay 39 = .ok (.iload_n 2, 1) := by decide +kernel
theorem dL_isWay_40 : decode cL_isWay 40 = .ok (.iconst (-1), 1) := by decide +kernel
theorem dL_isWay_41 : decode cL_isWay 41 = .ok (.if_icmp .ne 47, 3) := by decide +kernel
theorem dL_isWay_44 : decode cL_isWay 44 = .ok (.iload_n 3, 1) := by decide +kernel
theorem dL_isWay_45 : decode cL_isWay 45 = .ok (.iconst (-1), 1) := by decide +kernel
theorem dL_isWay_46 : decode cL_isWay 46 = .ok (.if_icmp .ne 42, 3) := by decide +kernel
theorem dL_isWay_49 : decode cL_isWay 49 = .ok (.aload_n 0, 1) := by decide +kernel
theorem dL_isWay_50 : decode cL_isWay 50 = .ok (.invokevirtual 133, 3) := by decide +kernel
theorem dL_isWay_53 : decode cL_isWay 53 = .ok (.iconst (-1), 1) := by decide +kernel
theorem dL_isWay_54 : decode cL_isWay 54 = .ok (.if_icmp .ne 34, 3) := by decide +kernel
theorem dL_isWay_57 : decode cL_isWay 57 = .ok (.aload_n 1, 1) := by decide +kernel
theorem dL_isWay_58 : decode cL_isWay 58 = .ok (.iconst 1, 1) := by decide +kernel
theorem dL_isWay_59 : decode cL_isWay 59 = .ok (.iaload, 1) := by decide +kernel
theorem dL_isWay_60 : decode cL_isWay 60 = .ok (.ifCond .eq 14, 3) := by decide +kernel
theorem dL_isWay_63 : decode cL_isWay 63 = .ok (.aload_n 0, 1) := by decide +kernel
theorem dL_isWay_64 : decode cL_isWay 64 = .ok (.iconst 0, 1) := by decide +kernel
theorem dL_isWay_65 : decode cL_isWay 65 = .ok (.aload_n 1, 1) := by decide +kernel
theorem dL_isWay_66 : decode cL_isWay 66 = .ok (.iconst 1, 1) := by decide +kernel
theorem dL_isWay_67 : decode cL_isWay 67 = .ok (.iaload, 1) := by decide +kernel
theorem dL_isWay_68 : decode cL_isWay 68 = .ok (.invokestatic 136, 3) := by decide +kernel
theorem dL_isWay_71 : decode cL_isWay 71 = .ok (.ifCond .ge 17, 3) := by decide +kernel
theorem dL_isWay_74 : decode cL_isWay 74 = .ok (.aload_n 0, 1) := by decide +kernel
theorem dL_isWay_75 : decode cL_isWay 75 = .ok (.iconst 0, 1) := by decide +kernel
theorem dL_isWay_76 : decode cL_isWay 76 = .ok (.invokestatic 139, 3) := by decide +kernel
theorem dL_isWay_79 : decode cL_isWay 79 = .ok (.ldc 28, 2) := by decide +kernel
theorem dL_isWay_81 : decode cL_isWay 81 = .ok (.if_icmp .ne 7, 3) := by decide +kernel
theorem dL_isWay_84 : decode cL_isWay 84 = .ok (.iconst 1, 1) := by decide +kernel
theorem dL_isWay_85 : decode cL_isWay 85 = .ok (.goto 4, 3) := by decide +kernel
theorem dL_isWay_88 : decode cL_isWay 88 = .ok (.iconst 0, 1) := by decide +kernel
theorem dL_isWay_89 : decode cL_isWay 89 = .ok (.ireturn, 1) := by decide +kernel
theorem dL_isWay_90 : decode cL_isWay 90 = .ok (.iconst 0, 1) := by decide +kernel
theorem dL_isWay_91 : decode cL_isWay 91 = .ok (.istore 4, 2) := by decide +kernel
theorem dL_isWay_93 : decode cL_isWay 93 = .ok (.iconst 0, 1) := by decide +kernel
theorem dL_isWay_94 : decode cL_isWay 94 = .ok (.istore 5, 2) := by decide +kernel
theorem dL_isWay_96 : decode cL_isWay 96 = .ok (.iload_n 3, 1) := by decide +kernel
theorem dL_isWay_97 : decode cL_isWay 97 = .ok (.ifCond .lt 22, 3) := by decide +kernel
theorem dL_isWay_100 : decode cL_isWay 100 = .ok (.iload_n 3, 1) := by decide +kernel
theorem dL_isWay_101 : decode cL_isWay 101 = .ok (.iconst 2, 1) := by decide +kernel
theorem dL_isWay_102 : decode cL_isWay 102 = .ok (.irem, 1) := by decide +kernel
theorem dL_isWay_103 : decode cL_isWay 103 = .ok (.ifCond .ne 16, 3) := by decide +kernel
theorem dL_isWay_106 : decode cL_isWay 106 = .ok (.iload_n 3, 1) := by decide +kernel
theorem dL_isWay_107 : decode cL_isWay 107 = .ok (.iconst 1, 1) := by decide +kernel
theorem dL_isWay_108 : decode cL_isWay 108 = .ok (.aload_n 1, 1) := by decide +kernel
theorem dL_isWay_109 : decode cL_isWay 109 = .ok (.iconst 1, 1) := by decide +kernel
theorem dL_isWay_110 : decode cL_isWay 110 = .ok (.iaload, 1) := by decide +kernel
theorem dL_isWay_111 : decode cL_isWay 111 = .ok (.ishl, 1) := by decide +kernel
theorem dL_isWay_112 : decode cL_isWay 112 = .ok (.if_icmp .ge 7, 3) := by decide +kernel
theorem dL_isWay_115 : decode cL_isWay 115 = .ok (.iconst 1, 1) := by decide +kernel
theorem dL_isWay_116 : decode cL_isWay 116 = .ok (.goto 4, 3) := by decide +kernel
theorem dL_isWay_119 : decode cL_isWay 119 = .ok (.iconst 0, 1) := by decide +kernel
theorem dL_isWay_120 : decode cL_isWay 120 = .ok (.istore 6, 2) := by decide +kernel
theorem dL_isWay_122 : decode cL_isWay 122 = .ok (.iconst 1, 1) := by decide +kernel
theorem dL_isWay_123 : decode cL_isWay 123 = .ok (.istore 7, 2) := by decide +kernel
theorem dL_isWay_125 : decode cL_isWay 125 = .ok (.iload 7, 2) := by decide +kernel
theorem dL_isWay_127 : decode cL_isWay 127 = .ok (.aload_n 1, 1) := by decide +kernel
theorem dL_isWay_128 : decode cL_isWay 128 = .ok (.iconst 1, 1) := by decide +kernel
theorem dL_isWay_129 : decode cL_isWay 129 = .ok (.iaload, 1) := by decide +kernel
theorem dL_isWay_130 : decode cL_isWay 130 = .ok (.if_icmp .gt 65, 3) := by decide +kernel
theorem dL_isWay_133 : decode cL_isWay 133 = .ok (.iload 6, 2) := by decide +kernel
theorem dL_isWay_135 : decode cL_isWay 135 = .ok (.ifCond .eq 60, 3) := by decide +kernel
theorem dL_isWay_138 : decode cL_isWay 138 = .ok (.iload 7, 2) := by decide +kernel
theorem dL_isWay_140 : decode cL_isWay 140 = .ok (.aload_n 1, 1) := by decide +kernel
theorem dL_isWay_141 : decode cL_isWay 141 = .ok (.iconst 1, 1) := by decide +kernel
theorem dL_isWay_142 : decode cL_isWay 142 = .ok (.iaload, 1) := by decide +kernel
theorem dL_isWay_143 : decode cL_isWay 143 = .ok (.if_icmp .eq 13, 3) := by decide +kernel
theorem dL_isWay_146 : decode cL_isWay 146 = .ok (.iload_n 3, 1) := by decide +kernel
theorem dL_isWay_147 : decode cL_isWay 147 = .ok (.iload 7, 2) := by decide +kernel
theorem dL_isWay_149 : decode cL_isWay 149 = .ok (.ishr, 1) := by decide +kernel
theorem dL_isWay_150 : decode cL_isWay 150 = .ok (.iconst 1, 1) := by decide +kernel
theorem dL_isWay_151 : decode cL_isWay 151 = .ok (.iand, 1) := by decide +kernel
theorem dL_isWay_152 : decode cL_isWay 152 = .ok (.iconst 1, 1) := by decide +kernel
theorem dL_isWay_153 : decode cL_isWay 153 = .ok (.if_icmp .ne 36, 3) := by decide +kernel
theorem dL_isWay_156 : decode cL_isWay 156 = .ok (.aload_n 0, 1) := by decide +kernel
theorem dL_isWay_157 : decode cL_isWay 157 = .ok (.iload 5, 2) := by decide +kernel
theorem dL_isWay_159 : decode cL_isWay 159 = .ok (.iload 7, 2) := by decide +kernel
theorem dL_isWay_161 : decode cL_isWay 161 = .ok (.invokestatic 136, 3) := by decide +kernel
theorem dL_isWay_164 : decode cL_isWay 164 = .ok (.istore 8, 2) := by decide +kernel
theorem dL_isWay_166 : decode cL_isWay 166 = .ok (.iload 4, 2) := by decide +kernel
theorem dL_isWay_168 : decode cL_isWay 168 = .ok (.iload 8, 2) := by decide +kernel
theorem dL_isWay_170 : decode cL_isWay 170 = .ok (.iadd, 1) := by decide +kernel
theorem dL_isWay_171 : decode cL_isWay 171 = .ok (.istore 4, 2) := by decide +kernel
theorem dL_isWay_173 : decode cL_isWay 173 = .ok (.iload 7, 2) := by decide +kernel
theorem dL_isWay_175 : decode cL_isWay 175 = .ok (.istore 5, 2) := by decide +kernel
theorem dL_isWay_177 : decode cL_isWay 177 = .ok (.iload 8, 2) := by decide +kernel
theorem dL_isWay_179 : decode cL_isWay 179 = .ok (.ifCond .le 7, 3) := by decide +kernel
theorem dL_isWay_182 : decode cL_isWay 182 = .ok (.iconst 1, 1) := by decide +kernel
theorem dL_isWay_183 : decode cL_isWay 183 = .ok (.goto 4, 3) := by decide +kernel
theorem dL_isWay_186 : decode cL_isWay 186 = .ok (.iconst 0, 1) := by decide +kernel
theorem dL_isWay_187 : decode cL_isWay 187 = .ok (.istore 6, 2) := by decide +kernel
theorem dL_isWay_189 : decode cL_isWay 189 = .ok (.iinc 7 1, 3) := by decide +kernel
theorem dL_isWay_192 : decode cL_isWay 192 = .ok (.goto (-67), 3) := by decide +kernel
theorem dL_isWay_195 : decode cL_isWay 195 = .ok (.aload_n 0, 1) := by decide +kernel
theorem dL_isWay_196 : decode cL_isWay 196 = .ok (.iconst 0, 1) := by decide +kernel
theorem dL_isWay_197 : decode cL_isWay 197 = .ok (.aload_n 1, 1) := by decide +kernel
theorem dL_isWay_198 : decode cL_isWay 198 = .ok (.iconst 1, 1) := by decide +kernel
theorem dL_isWay_199 : decode cL_isWay 199 = .ok (.iaload, 1) := by decide +kernel
theorem dL_isWay_200 : decode cL_isWay 200 = .ok (.invokestatic 136, 3) := by decide +kernel
theorem dL_isWay_203 : decode cL_isWay 203 = .ok (.istore 7, 2) := by decide +kernel
theorem dL_isWay_205 : decode cL_isWay 205 = .ok (.iload 6, 2) := by decide +kernel
theorem dL_isWay_207 : decode cL_isWay 207 = .ok (.ifCond .eq 57, 3) := by decide +kernel
theorem dL_isWay_210 : decode cL_isWay 210 = .ok (.iload 4, 2) := by decide +kernel
theorem dL_isWay_212 : decode cL_isWay 212 = .ok (.iload_n 2, 1) := by decide +kernel
theorem dL_isWay_213 : decode cL_isWay 213 = .ok (.if_icmp .ne 51, 3) := by decide +kernel
theorem dL_isWay_216 : decode cL_isWay 216 = .ok (.aload_n 0, 1) := by decide +kernel
theorem dL_isWay_217 : decode cL_isWay 217 = .ok (.invokevirtual 133, 3) := by decide +kernel
theorem dL_isWay_220 : decode cL_isWay 220 = .ok (.iload_n 2, 1) := by decide +kernel
theorem dL_isWay_221 : decode cL_isWay 221 = .ok (.if_icmp .ne 43, 3) := by decide +kernel
theorem dL_isWay_224 : decode cL_isWay 224 = .ok (.iload 7, 2) := by decide +kernel
theorem dL_isWay_226 : decode cL_isWay 226 = .ok (.ifCond .ge 13, 3) := by decide +kernel
theorem dL_isWay_229 : decode cL_isWay 229 = .ok (.iload 7, 2) := by decide +kernel
theorem dL_isWay_231 : decode cL_isWay 231 = .ok (.bipush (-3), 2) := by decide +kernel
theorem dL_isWay_233 : decode cL_isWay 233 = .ok (.if_icmp .lt 31, 3) := by decide +kernel
theorem dL_isWay_236 : decode cL_isWay 236 = .ok (.goto 9, 3) := by decide +kernel
theorem dL_isWay_239 : decode cL_isWay 239 = .ok (.iload_n 2, 1) := by decide +kernel
theorem dL_isWay_240 : decode cL_isWay 240 = .ok (.iload 7, 2) := by decide +kernel
theorem dL_isWay_242 : decode cL_isWay 242 = .ok (.if_icmp .gt 22, 3) := by decide +kernel
theorem dL_isWay_245 : decode cL_isWay 245 = .ok (.aload_n 0, 1) := by decide +kernel
theorem dL_isWay_246 : decode cL_isWay 246 = .ok (.iconst 0, 1) := by decide +kernel
theorem dL_isWay_247 : decode cL_isWay 247 = .ok (.aload_n 1, 1) := by decide +kernel
theorem dL_isWay_248 : decode cL_isWay 248 = .ok (.iconst 1, 1) := by decide +kernel
theorem dL_isWay_249 : decode cL_isWay 249 = .ok (.iaload, 1) := by decide +kernel
theorem dL_isWay_250 : decode cL_isWay 250 = .ok (.iconst 1, 1) := by decide +kernel
theorem dL_isWay_251 : decode cL_isWay 251 = .ok (.iadd, 1) := by decide +kernel
theorem dL_isWay_252 : decode cL_isWay 252 = .ok (.invokestatic 136, 3) := by decide +kernel
theorem dL_isWay_255 : decode cL_isWay 255 = .ok (.ldc 18, 2) := by decide +kernel
theorem dL_isWay_257 : decode cL_isWay 257 = .ok (.if_icmp .ne 7, 3) := by decide +kernel
theorem dL_isWay_260 : decode cL_isWay 260 = .ok (.iconst 1, 1) := by decide +kernel
theorem dL_isWay_261 : decode cL_isWay 261 = .ok (.goto 4, 3) := by decide +kernel
theorem dL_isWay_264 : decode cL_isWay 264 = .ok (.iconst 0, 1) := by decide +kernel
theorem dL_isWay_265 : decode cL_isWay 265 = .ok (.ireturn, 1) := by decide +kernel
theorem dL_isTicket_0 : decode cL_isTicket 0 = .ok (.aload_n 0, 1) := by decide +kernel
theorem dL_isTicket_1 : decode cL_isTicket 1 = .ok (.iload_n 2, 1) := by decide +kernel
theorem dL_isTicket_2 : decode cL_isTicket 2 = .ok (.iconst 5, 1) := by decide +kernel
theorem dL_isTicket_3 : decode cL_isTicket 3 = .ok (.invokestatic 141, 3) := by decide +kernel
theorem dL_isTicket_6 : decode cL_isTicket 6 = .ok (.istore_n 3, 1) := by decide +kernel
theorem dL_isTicket_7 : decode cL_isTicket 7 = .ok (.iconst 0, 1) := by decide +kernel
theorem dL_isTicket_8 : decode cL_isTicket 8 = .ok (.istore 4, 2) := by decide +kernel
theorem dL_isTicket_10 : decode cL_isTicket 10 = .ok (.aload_n 0, 1) := by decide +kernel
theorem dL_isTicket_11 : decode cL_isTicket 11 = .ok (.iload_n 2, 1) := by decide +kernel
theorem dL_isTicket_12 : decode cL_isTicket 12 = .ok (.iconst 3, 1) := by decide +kernel
theorem dL_isTicket_13 : decode cL_isTicket 13 = .ok (.invokestatic 141, 3) := by decide +kernel
theorem dL_isTicket_16 : decode cL_isTicket 16 = .ok (.istore 5, 2) := by decide +kernel
theorem dL_isTicket_18 : decode cL_isTicket 18 = .ok (.iconst 0, 1) := by decide +kernel
theorem dL_isTicket_19 : decode cL_isTicket 19 = .ok (.istore 6, 2) := by decide +kernel
theorem dL_isTicket_21 : decode cL_isTicket 21 = .ok (.iload_n 3, 1) := by decide +kernel
theorem dL_isTicket_22 : decode cL_isTicket 22 = .ok (.ifCond .lt 44, 3) := by decide +kernel
theorem dL_isTicket_25 : decode cL_isTicket 25 = .ok (.iload 5, 2) := by decide +kernel
theorem dL_isTicket_27 : decode cL_isTicket 27 = .ok (.ifCond .le 39, 3) := by decide +kernel
theorem dL_isTicket_30 : decode cL_isTicket 30 = .ok (.iload 5, 2) := by decide +kernel
theorem dL_isTicket_32 : decode cL_isTicket 32 = .ok (.bipush 9, 2) := by decide +kernel
theorem dL_isTicket_34 : decode cL_isTicket 34 = .ok (.if_icmp .ge 32, 3) := by decide +kernel
theorem dL_isTicket_37 : decode cL_isTicket 37 = .ok (.aload_n 0, 1) := by decide +kernel
theorem dL_isTicket_38 : decode cL_isTicket 38 = .ok (.iload_n 2, 1) := by decide +kernel
theorem dL_isTicket_39 : decode cL_isTicket 39 = .ok (.bipush 6, 2) := by decide +kernel
theorem dL_isTicket_41 : decode cL_isTicket 41 = .ok (.invokestatic 141, 3) := by decide +kernel
theorem dL_isTicket_44 : decode cL_isTicket 44 = .ok (.ldc 21, 2) := by decide +kernel
theorem dL_isTicket_46 : decode cL_isTicket 46 = .ok (.if_icmp .ne 20, 3) := by decide +kernel
theorem dL_isTicket_49 : decode cL_isTicket 49 = .ok (.aload_n 0, 1) := by decide +kernel
theorem dL_isTicket_50 : decode cL_isTicket 50 = .ok (.iload_n 2, 1) := by decide +kernel
theorem dL_isTicket_51 : decode cL_isTicket 51 = .ok (.iload 5, 2) := by decide +kernel
theorem dL_isTicket_53 : decode cL_isTicket 53 = .ok (.iconst 0, 1) := by decide +kernel
theorem dL_isTicket_54 : decode cL_isTicket 54 = .ok (.invokestatic 143, 3) := by decide +kernel
theorem dL_isTicket_57 : decode cL_isTicket 57 = .ok (.ldc 18, 2) := by decide +kernel
theorem dL_isTicket_59 : decode cL_isTicket 59 = .ok (.if_icmp .ne 7, 3) := by decide +kernel
theorem dL_isTicket_62 : decode cL_isTicket 62 = .ok (.iconst 1, 1) := by decide +kernel
theorem dL_isTicket_63 : decode cL_isTicket 63 = .ok (.goto 4, 3) := by decide +kernel
theorem dL_isTicket_66 : decode cL_isTicket 66 = .ok (.iconst 0, 1) := by decide +kernel
theorem dL_isTicket_67 : decode cL_isTicket 67 = .ok (.istore 7, 2) := by decide +kernel
theorem dL_isTicket_69 : decode cL_isTicket 69 = .ok (.iload 5, 2) := by decide +kernel
theorem dL_isTicket_71 : decode cL_isTicket 71 = .ok (.iconst 1, 1) := by decide +kernel
theorem dL_isTicket_72 : decode cL_isTicket 72 = .ok (.isub, 1) := by decide +kernel
theorem dL_isTicket_73 : decode cL_isTicket 73 = .ok (.istore 8, 2) := by decide +kernel
theorem dL_isTicket_75 : decode cL_isTicket 75 = .ok (.iload 8, 2) := by decide +kernel
theorem dL_isTicket_77 : decode cL_isTicket 77 = .ok (.ifCond .lt 178, 3) := by decide +kernel
theorem dL_isTicket_80 : decode cL_isTicket 80 = .ok (.iload 7, 2) := by decide +kernel
theorem dL_isTicket_82 : decode cL_isTicket 82 = .ok (.ifCond .eq 173, 3) := by decide +kernel
theorem dL_isTicket_85 : decode cL_isTicket 85 = .ok (.aload_n 0, 1) := by decide +kernel
theorem dL_isTicket_86 : decode cL_isTicket 86 = .ok (.iload_n 2, 1) := by decide +kernel
theorem dL_isTicket_87 : decode cL_isTicket 87 = .ok (.iload 8, 2) := by decide +kernel
theorem dL_isTicket_89 : decode cL_isTicket 89 = .ok (.iconst 0, 1) := by decide +kernel
theorem dL_isTicket_90 : decode cL_isTicket 90 = .ok (.invokestatic 143, 3) := by decide +kernel
theorem dL_isTicket_93 : decode cL_isTicket 93 = .ok (.istore 9, 2) := by decide +kernel
theorem dL_isTicket_95 : decode cL_isTicket 95 = .ok (.aload_n 0, 1) := by decide +kernel
theorem dL_isTicket_96 : decode cL_isTicket 96 = .ok (.iload_n 2, 1) := by decide +kernel
theorem dL_isTicket_97 : decode cL_isTicket 97 = .ok (.iload 8, 2) := by decide +kernel
theorem dL_isTicket_99 : decode cL_isTicket 99 = .ok (.iconst 1, 1) := by decide +kernel
theorem dL_isTicket_100 : decode cL_isTicket 100 = .ok (.invokestatic 143, 3) := by decide +kernel
theorem dL_isTicket_103 : decode cL_isTicket 103 = .ok (.istore 10, 2) := by decide +kernel
theorem dL_isTicket_105 : decode cL_isTicket 105 = .ok (.aload_n 0, 1) := by decide +kernel
theorem dL_isTicket_106 : decode cL_isTicket 106 = .ok (.iload_n 2, 1) := by decide +kernel
theorem dL_isTicket_107 : decode cL_isTicket 107 = .ok (.iload 8, 2) := by decide +kernel
theorem dL_isTicket_109 : decode cL_isTicket 109 = .ok (.iconst 5, 1) := by decide +kernel
theorem dL_isTicket_110 : decode cL_isTicket 110 = .ok (.invokestatic 143, 3) := by decide +kernel
theorem dL_isTicket_113 : decode cL_isTicket 113 = .ok (.istore 11, 2) := by decide +kernel
theorem dL_isTicket_115 : decode cL_isTicket 115 = .ok (.iload_n 3, 1) := by decide +kernel
theorem dL_isTicket_116 : decode cL_isTicket 116 = .ok (.iload 10, 2) := by decide +kernel
theorem dL_isTicket_118 : decode cL_isTicket 118 = .ok (.iadd, 1) := by decide +kernel
theorem dL_isTicket_119 : decode cL_isTicket 119 = .ok (.istore_n 3, 1) := by decide +kernel
theorem dL_isTicket_120 : decode cL_isTicket 120 = .ok (.iload 4, 2) := by decide +kernel
theorem dL_isTicket_122 : decode cL_isTicket 122 = .ok (.aload_n 0, 1) := by decide +kernel
theorem dL_isTicket_123 : decode cL_isTicket 123 = .ok (.iload_n 2, 1) := by decide +kernel
theorem dL_isTicket_124 : decode cL_isTicket 124 = .ok (.iload 8, 2) := by decide +kernel
theorem dL_isTicket_126 : decode cL_isTicket 126 = .ok (.iconst 2, 1) := by decide +kernel
theorem dL_isTicket_127 : decode cL_isTicket 127 = .ok (.invokestatic 143, 3) := by decide +kernel
theorem dL_isTicket_130 : decode cL_isTicket 130 = .ok (.iadd, 1) := by decide +kernel
theorem dL_isTicket_131 : decode cL_isTicket 131 = .ok (.istore 4, 2) := by decide +kernel
theorem dL_isTicket_133 : decode cL_isTicket 133 = .ok (.iload 9, 2) := by decide +kernel
theorem dL_isTicket_135 : decode cL_isTicket 135 = .ok (.ifCond .lt 93, 3) := by decide +kernel
theorem dL_isTicket_138 : decode cL_isTicket 138 = .ok (.iload 9, 2) := by decide +kernel
theorem dL_isTicket_140 : decode cL_isTicket 140 = .ok (.iconst 5, 1) := by decide +kernel
theorem dL_isTicket_141 : decode cL_isTicket 141 = .ok (.if_icmp .ge 87, 3) := by decide +kernel
theorem dL_isTicket_144 : decode cL_isTicket 144 = .ok (.iload 10, 2) := by decide +kernel
theorem dL_isTicket_146 : decode cL_isTicket 146 = .ok (.ifCond .lt 82, 3) := by decide +kernel
theorem dL_isTicket_149 : decode cL_isTicket 149 = .ok (.iload 9, 2) := by decide +kernel
theorem dL_isTicket_151 : decode cL_isTicket 151 = .ok (.ifCond .ne 8, 3) := by decide +kernel
theorem dL_isTicket_154 : decode cL_isTicket 154 = .ok (.iload 6, 2) := by decide +kernel
theorem dL_isTicket_156 : decode cL_isTicket 156 = .ok (.ifCond .ne 72, 3) := by decide +kernel
theorem dL_isTicket_159 : decode cL_isTicket 159 = .ok (.iload 11, 2) := by decide +kernel
theorem dL_isTicket_161 : decode cL_isTicket 161 = .ok (.ifCond .lt 63, 3) := by decide +kernel
theorem dL_isTicket_164 : decode cL_isTicket 164 = .ok (.iload 9, 2) := by decide +kernel
theorem dL_isTicket_166 : decode cL_isTicket 166 = .ok (.iconst 1, 1) := by decide +kernel
theorem dL_isTicket_167 : decode cL_isTicket 167 = .ok (.if_icmp .ne 61, 3) := by decide +kernel
theorem dL_isTicket_170 : decode cL_isTicket 170 = .ok (.iload 11, 2) := by decide +kernel
theorem dL_isTicket_172 : decode cL_isTicket 172 = .ok (.aload_n 1, 1) := by decide +kernel
theorem dL_isTicket_173 : decode cL_isTicket 173 = .ok (.iconst 3, 1) := by decide +kernel
theorem dL_isTicket_174 : decode cL_isTicket 174 = .ok (.iaload, 1) := by decide +kernel
theorem dL_isTicket_175 : decode cL_isTicket 175 = .ok (.if_icmp .ge 53, 3) := by decide +kernel
theorem dL_isTicket_178 : decode cL_isTicket 178 = .ok (.aload_n 0, 1) := by decide +kernel
theorem dL_isTicket_179 : decode cL_isTicket 179 = .ok (.iload 11, 2) := by decide +kernel
theorem dL_isTicket_181 : decode cL_isTicket 181 = .ok (.iconst 1, 1) := by decide +kernel
theorem dL_isTicket_182 : decode cL_isTicket 182 = .ok (.invokestatic 146, 3) := by decide +kernel
theorem dL_isTicket_185 : decode cL_isTicket 185 = .ok (.iload 10, 2) := by decide +kernel
theorem dL_isTicket_187 : decode cL_isTicket 187 = .ok (.if_icmp .ne 41, 3) := by decide +kernel
theorem dL_isTicket_190 : decode cL_isTicket 190 = .ok (.aload_n 0, 1) := by decide +kernel
theorem dL_isTicket_191 : decode cL_isTicket 191 = .ok (.iload 11, 2) := by decide +kernel
theorem dL_isTicket_193 : decode cL_isTicket 193 = .ok (.iconst 2, 1) := by decide +kernel
theorem dL_isTicket_194 : decode cL_isTicket 194 = .ok (.invokestatic 146, 3) := by decide +kernel
theorem dL_isTicket_197 : decode cL_isTicket 197 = .ok (.aload_n 0, 1) := by decide +kernel
theorem dL_isTicket_198 : decode cL_isTicket 198 = .ok (.iload_n 2, 1) := by decide +kernel
theorem dL_isTicket_199 : decode cL_isTicket 199 = .ok (.iconst 2, 1) := by decide +kernel
theorem dL_isTicket_200 : decode cL_isTicket 200 = .ok (.invokestatic 141, 3) := by decide +kernel
theorem dL_isTicket_203 : decode cL_isTicket 203 = .ok (.if_icmp .ne 25, 3) := by decide +kernel
theorem dL_isTicket_206 : decode cL_isTicket 206 = .ok (.aload_n 0, 1) := by decide +kernel
theorem dL_isTicket_207 : decode cL_isTicket 207 = .ok (.iload 11, 2) := by decide +kernel
theorem dL_isTicket_209 : decode cL_isTicket 209 = .ok (.iconst 3, 1) := by decide +kernel
theorem dL_isTicket_210 : decode cL_isTicket 210 = .ok (.invokestatic 146, 3) := by decide +kernel
theorem dL_isTicket_213 : decode cL_isTicket 213 = .ok (.aload_n 0, 1) := by decide +kernel
theorem dL_isTicket_214 : decode cL_isTicket 214 = .ok (.iload_n 2, 1) := by decide +kernel
theorem dL_isTicket_215 : decode cL_isTicket 215 = .ok (.iload 8, 2) := by decide +kernel
theorem dL_isTicket_217 : decode cL_isTicket 217 = .ok (.iconst 3, 1) := by decide +kernel
theorem dL_isTicket_218 : decode cL_isTicket 218 = .ok (.invokestatic 143, 3) := by decide +kernel
theorem dL_isTicket_221 : decode cL_isTicket 221 = .ok (.if_icmp .ne 7, 3) := by decide +kernel
theorem dL_isTicket_224 : decode cL_isTicket 224 = .ok (.iconst 1, 1) := by decide +kernel
theorem dL_isTicket_225 : decode cL_isTicket 225 = .ok (.goto 4, 3) := by decide +kernel
theorem dL_isTicket_228 : decode cL_isTicket 228 = .ok (.iconst 0, 1) := by decide +kernel
theorem dL_isTicket_229 : decode cL_isTicket 229 = .ok (.istore 7, 2) := by decide +kernel
theorem dL_isTicket_231 : decode cL_isTicket 231 = .ok (.iload 6, 2) := by decide +kernel
theorem dL_isTicket_233 : decode cL_isTicket 233 = .ok (.ifCond .ne 9, 3) := by decide +kernel
theorem dL_isTicket_236 : decode cL_isTicket 236 = .ok (.iload 9, 2) := by decide +kernel
theorem dL_isTicket_238 : decode cL_isTicket 238 = .ok (.iconst 1, 1) := by decide +kernel
theorem dL_isTicket_239 : decode cL_isTicket 239 = .ok (.if_icmp .ne 7, 3) := by decide +kernel
theorem dL_isTicket_242 : decode cL_isTicket 242 = .ok (.iconst 1, 1) := by decide +kernel
theorem dL_isTicket_243 : decode cL_isTicket 243 = .ok (.goto 4, 3) := by decide +kernel
theorem dL_isTicket_246 : decode cL_isTicket 246 = .ok (.iconst 0, 1) := by decide +kernel
theorem dL_isTicket_247 : decode cL_isTicket 247 = .ok (.istore 6, 2) := by decide +kernel
theorem dL_isTicket_249 : decode cL_isTicket 249 = .ok (.iinc 8 (-1), 3) := by decide +kernel
theorem dL_isTicket_252 : decode cL_isTicket 252 = .ok (.goto (-177), 3) := by decide +kernel
theorem dL_isTicket_255 : decode cL_isTicket 255 = .ok (.iload 7, 2) := by decide +kernel
theorem dL_isTicket_257 : decode cL_isTicket 257 = .ok (.ifCond .eq 28, 3) := by decide +kernel
theorem dL_isTicket_260 : decode cL_isTicket 260 = .ok (.iload_n 3, 1) := by decide +kernel
theorem dL_isTicket_261 : decode cL_isTicket 261 = .ok (.aload_n 0, 1) := by decide +kernel
theorem dL_isTicket_262 : decode cL_isTicket 262 = .ok (.iload_n 2, 1) := by decide +kernel
theorem dL_isTicket_263 : decode cL_isTicket 263 = .ok (.iconst 0, 1) := by decide +kernel
theorem dL_isTicket_264 : decode cL_isTicket 264 = .ok (.invokestatic 141, 3) := by decide +kernel
theorem dL_isTicket_267 : decode cL_isTicket 267 = .ok (.if_icmp .ne 18, 3) := by decide +kernel
theorem dL_isTicket_270 : decode cL_isTicket 270 = .ok (.iload 4, 2) := by decide +kernel
theorem dL_isTicket_272 : decode cL_isTicket 272 = .ok (.aload_n 0, 1) := by decide +kernel
theorem dL_isTicket_273 : decode cL_isTicket 273 = .ok (.iload_n 2, 1) := by decide +kernel
theorem dL_isTicket_274 : decode cL_isTicket 274 = .ok (.iconst 1, 1) := by decide +kernel
theorem dL_isTicket_275 : decode cL_isTicket 275 = .ok (.invokestatic 141, 3) := by decide +kernel
theorem dL_isTicket_278 : decode cL_isTicket 278 = .ok (.if_icmp .ne 7, 3) := by decide +kernel
theorem dL_isTicket_281 : decode cL_isTicket 281 = .ok (.iconst 1, 1) := by decide +kernel
theorem dL_isTicket_282 : decode cL_isTicket 282 = .ok (.goto 4, 3) := by decide +kernel
theorem dL_isTicket_285 : decode cL_isTicket 285 = .ok (.iconst 0, 1) := by decide +kernel
theorem dL_isTicket_286 : decode cL_isTicket 286 = .ok (.ireturn, 1) := by decide +kernel
theorem dL_isBill_0 : decode cL_isBill 0 = .ok (.aload_n 0, 1) := by decide +kernel
theorem dL_isBill_1 : decode cL_isBill 1 = .ok (.iload_n 2, 1) := by decide +kernel
theorem dL_isBill_2 : decode cL_isBill 2 = .ok (.iconst 0, 1) := by decide +kernel
theorem dL_isBill_3 : decode cL_isBill 3 = .ok (.invokestatic 146, 3) := by decide +kernel
theorem dL_isBill_6 : decode cL_isBill 6 = .ok (.istore_n 3, 1) := by decide +kernel
theorem dL_isBill_7 : decode cL_isBill 7 = .ok (.aload_n 0, 1) := by decide +kernel
theorem dL_isBill_8 : decode cL_isBill 8 = .ok (.iload_n 2, 1) := by decide +kernel
theorem dL_isBill_9 : decode cL_isBill 9 = .ok (.iconst 4, 1) := by decide +kernel
theorem dL_isBill_10 : decode cL_isBill 10 = .ok (.invokestatic 146, 3) := by decide +kernel
theorem dL_isBill_13 : decode cL_isBill 13 = .ok (.istore 4, 2) := by decide +kernel
theorem dL_isBill_15 : decode cL_isBill 15 = .ok (.aload_n 0, 1) := by decide +kernel
theorem dL_isBill_16 : decode cL_isBill 16 = .ok (.iload_n 2, 1) := by decide +kernel
theorem dL_isBill_17 : decode cL_isBill 17 = .ok (.iconst 5, 1) := by decide +kernel
theorem dL_isBill_18 : decode cL_isBill 18 = .ok (.invokestatic 146, 3) := by decide +kernel
theorem dL_isBill_21 : decode cL_isBill 21 = .ok (.istore 5, 2) := by decide +kernel
theorem dL_isBill_23 : decode cL_isBill 23 = .ok (.iload_n 3, 1) := by decide +kernel
theorem dL_isBill_24 : decode cL_isBill 24 = .ok (.ifCond .lt 112, 3) := by decide +kernel
theorem dL_isBill_27 : decode cL_isBill 27 = .ok (.iload_n 3, 1) := by decide +kernel
theorem dL_isBill_28 : decode cL_isBill 28 = .ok (.iconst 5, 1) := by decide +kernel
theorem dL_isBill_29 : decode cL_isBill 29 = .ok (.if_icmp .ge 107, 3) := by decide +kernel
theorem dL_isBill_32 : decode cL_isBill 32 = .ok (.iload 4, 2) := by decide +kernel
theorem dL_isBill_34 : decode cL_isBill 34 = .ok (.ifCond .lt 102, 3) := by decide +kernel
theorem dL_isBill_37 : decode cL_isBill 37 = .ok (.iload 4, 2) := by decide +kernel
theorem dL_isBill_39 : decode cL_isBill 39 = .ok (.iconst 4, 1) := by decide +kernel
theorem dL_isBill_40 : decode cL_isBill 40 = .ok (.if_icmp .ge 96, 3) := by decide +kernel
theorem dL_isBill_43 : decode cL_isBill 43 = .ok (.iload 5, 2) := by decide +kernel
theorem dL_isBill_45 : decode cL_isBill 45 = .ok (.ifCond .lt 91, 3) := by decide +kernel
theorem dL_isBill_48 : decode cL_isBill 48 = .ok (.iload 5, 2) := by decide +kernel
theorem dL_isBill_50 : decode cL_isBill 50 = .ok (.aload_n 1, 1) := by decide +kernel
theorem dL_isBill_51 : decode cL_isBill 51 = .ok (.iconst 4, 1) := by decide +kernel
theorem dL_isBill_52 : decode cL_isBill 52 = .ok (.iaload, 1) := by decide +kernel
theorem dL_isBill_53 : decode cL_isBill 53 = .ok (.if_icmp .gt 83, 3) := by decide +kernel
theorem dL_isBill_56 : decode cL_isBill 56 = .ok (.iload_n 3, 1) := by decide +kernel
theorem dL_isBill_57 : decode cL_isBill 57 = .ok (.iconst 4, 1) := by decide +kernel
theorem dL_isBill_58 : decode cL_isBill 58 = .ok (.if_icmp .ne 9, 3) := by decide +kernel
theorem dL_isBill_61 : decode cL_isBill 61 = .ok (.iload 4, 2) := by decide +kernel
theorem dL_isBill_63 : decode cL_isBill 63 = .ok (.iconst 3, 1) := by decide +kernel
theorem dL_isBill_64 : decode cL_isBill 64 = .ok (.if_icmp .ne 72, 3) := by decide +kernel
theorem dL_isBill_67 : decode cL_isBill 67 = .ok (.iload_n 3, 1) := by decide +kernel
theorem dL_isBill_68 : decode cL_isBill 68 = .ok (.iconst 2, 1) := by decide +kernel
theorem dL_isBill_69 : decode cL_isBill 69 = .ok (.if_icmp .ne 8, 3) := by decide +kernel
theorem dL_isBill_72 : decode cL_isBill 72 = .ok (.iload 4, 2) := by decide +kernel
theorem dL_isBill_74 : decode cL_isBill 74 = .ok (.ifCond .le 62, 3) := by decide +kernel
theorem dL_isBill_77 : decode cL_isBill 77 = .ok (.iload_n 3, 1) := by decide +kernel
theorem dL_isBill_78 : decode cL_isBill 78 = .ok (.iconst 3, 1) := by decide +kernel
theorem dL_isBill_79 : decode cL_isBill 79 = .ok (.if_icmp .ne 14, 3) := by decide +kernel
theorem dL_isBill_82 : decode cL_isBill 82 = .ok (.iload 4, 2) := by decide +kernel
theorem dL_isBill_84 : decode cL_isBill 84 = .ok (.ifCond .le 52, 3) := by decide +kernel
theorem dL_isBill_87 : decode cL_isBill 87 = .ok (.iload 4, 2) := by decide +kernel
theorem dL_isBill_89 : decode cL_isBill 89 = .ok (.iconst 3, 1) := by decide +kernel
theorem dL_isBill_90 : decode cL_isBill 90 = .ok (.if_icmp .ge 46, 3) := by decide +kernel
theorem dL_isBill_93 : decode cL_isBill 93 = .ok (.iload_n 3, 1) := by decide +kernel
theorem dL_isBill_94 : decode cL_isBill 94 = .ok (.iconst 2, 1) := by decide +kernel
theorem dL_isBill_95 : decode cL_isBill 95 = .ok (.irem, 1) := by decide +kernel
theorem dL_isBill_96 : decode cL_isBill 96 = .ok (.ifCond .eq 8, 3) := by decide +kernel
theorem dL_isBill_99 : decode cL_isBill 99 = .ok (.iload 5, 2) := by decide +kernel
theorem dL_isBill_101 : decode cL_isBill 101 = .ok (.ifCond .le 35, 3) := by decide +kernel
theorem dL_isBill_104 : decode cL_isBill 104 = .ok (.aload_n 0, 1) := by decide +kernel
theorem dL_isBill_105 : decode cL_isBill 105 = .ok (.iload_n 2, 1) := by decide +kernel
theorem dL_isBill_106 : decode cL_isBill 106 = .ok (.iconst 2, 1) := by decide +kernel
theorem dL_isBill_107 : decode cL_isBill 107 = .ok (.invokestatic 146, 3) := by decide +kernel
theorem dL_isBill_110 : decode cL_isBill 110 = .ok (.aload_n 0, 1) := by decide +kernel
theorem dL_isBill_111 : decode cL_isBill 111 = .ok (.iload_n 2, 1) := by decide +kernel
theorem dL_isBill_112 : decode cL_isBill 112 = .ok (.iconst 3, 1) := by decide +kernel
theorem dL_isBill_113 : decode cL_isBill 113 = .ok (.invokestatic 146, 3) := by decide +kernel
theorem dL_isBill_116 : decode cL_isBill 116 = .ok (.if_icmp .eq 20, 3) := by decide +kernel
theorem dL_isBill_119 : decode cL_isBill 119 = .ok (.aload_n 0, 1) := by decide +kernel
theorem dL_isBill_120 : decode cL_isBill 120 = .ok (.aload_n 1, 1) := by decide +kernel
theorem dL_isBill_121 : decode cL_isBill 121 = .ok (.iconst 3, 1) := by decide +kernel
theorem dL_isBill_122 : decode cL_isBill 122 = .ok (.iaload, 1) := by decide +kernel
theorem dL_isBill_123 : decode cL_isBill 123 = .ok (.iconst 0, 1) := by decide +kernel
theorem dL_isBill_124 : decode cL_isBill 124 = .ok (.invokestatic 146, 3) := by decide +kernel
theorem dL_isBill_127 : decode cL_isBill 127 = .ok (.ldc 18, 2) := by decide +kernel
theorem dL_isBill_129 : decode cL_isBill 129 = .ok (.if_icmp .ne 7, 3) := by decide +kernel
theorem dL_isBill_132 : decode cL_isBill 132 = .ok (.iconst 1, 1) := by decide +kernel
theorem dL_isBill_133 : decode cL_isBill 133 = .ok (.goto 4, 3) := by decide +kernel
theorem dL_isBill_136 : decode cL_isBill 136 = .ok (.iconst 0, 1) := by decide +kernel
theorem dL_isBill_137 : decode cL_isBill 137 = .ok (.ireturn, 1) := by decide +kernel
theorem dL_tells_0 : decode cL_tells 0 = .ok (.iload_n 2, 1) := by decide +kernel
theorem dL_tells_1 : decode cL_tells 1 = .ok (.bipush 10, 2) := by decide +kernel
theorem dL_tells_3 : decode cL_tells 3 = .ok (.invokestatic 148, 3) := by decide +kernel
theorem dL_tells_6 : decode cL_tells 6 = .ok (.istore 4, 2) := by decide +kernel
theorem dL_tells_8 : decode cL_tells 8 = .ok (.iload_n 3, 1) := by decide +kernel
theorem dL_tells_9 : decode cL_tells 9 = .ok (.iconst 5, 1) := by decide +kernel
theorem dL_tells_10 : decode cL_tells 10 = .ok (.invokestatic 148, 3) := by decide +kernel
theorem dL_tells_13 : decode cL_tells 13 = .ok (.istore 5, 2) := by decide +kernel
theorem dL_tells_15 : decode cL_tells 15 = .ok (.iload 5, 2) := by decide +kernel
theorem dL_tells_17 : decode cL_tells 17 = .ok (.iconst 1, 1) := by decide +kernel
theorem dL_tells_18 : decode cL_tells 18 = .ok (.iadd, 1) := by decide +kernel
theorem dL_tells_19 : decode cL_tells 19 = .ok (.iload_n 3, 1) := by decide +kernel
theorem dL_tells_20 : decode cL_tells 20 = .ok (.iconst 3, 1) := by decide +kernel
theorem dL_tells_21 : decode cL_tells 21 = .ok (.ishr, 1) := by decide +kernel
theorem dL_tells_22 : decode cL_tells 22 = .ok (.iconst 4, 1) := by decide +kernel
theorem dL_tells_23 : decode cL_tells 23 = .ok (.invokestatic 148, 3) := by decide +kernel
theorem dL_tells_26 : decode cL_tells 26 = .ok (.iadd, 1) := by decide +kernel
theorem dL_tells_27 : decode cL_tells 27 = .ok (.iconst 5, 1) := by decide +kernel
theorem dL_tells_28 : decode cL_tells 28 = .ok (.irem, 1) := by decide +kernel
theorem dL_tells_29 : decode cL_tells 29 = .ok (.istore 6, 2) := by decide +kernel
theorem dL_tells_31 : decode cL_tells 31 = .ok (.iload 4, 2) := by decide +kernel
theorem dL_tells_33 : decode cL_tells 33 = .ok (.iconst 2, 1) := by decide +kernel
theorem dL_tells_34 : decode cL_tells 34 = .ok (.if_icmp .ge 57, 3) := by decide +kernel
theorem dL_tells_37 : decode cL_tells 37 = .ok (.sipush 200, 3) := by decide +kernel
theorem dL_tells_40 : decode cL_tells 40 = .ok (.iload_n 3, 1) := by decide +kernel
theorem dL_tells_41 : decode cL_tells 41 = .ok (.bipush 6, 2) := by decide +kernel
theorem dL_tells_43 : decode cL_tells 43 = .ok (.ishr, 1) := by decide +kernel
theorem dL_tells_44 : decode cL_tells 44 = .ok (.sipush 300, 3) := by decide +kernel
theorem dL_tells_47 : decode cL_tells 47 = .ok (.invokestatic 148, 3) := by decide +kernel
theorem dL_tells_50 : decode cL_tells 50 = .ok (.iadd, 1) := by decide +kernel
theorem dL_tells_51 : decode cL_tells 51 = .ok (.istore 7, 2) := by decide +kernel
theorem dL_tells_53 : decode cL_tells 53 = .ok (.aload_n 0, 1) := by decide +kernel
theorem dL_tells_54 : decode cL_tells 54 = .ok (.iload 5, 2) := by decide +kernel
theorem dL_tells_56 : decode cL_tells 56 = .ok (.iload 6, 2) := by decide +kernel
theorem dL_tells_58 : decode cL_tells 58 = .ok (.iload 7, 2) := by decide +kernel
theorem dL_tells_60 : decode cL_tells 60 = .ok (.invokestatic 151, 3) := by decide +kernel
theorem dL_tells_63 : decode cL_tells 63 = .ok (.istore 8, 2) := by decide +kernel
theorem dL_tells_65 : decode cL_tells 65 = .ok (.iload 8, 2) := by decide +kernel
theorem dL_tells_67 : decode cL_tells 67 = .ok (.ifCond .lt 22, 3) := by decide +kernel
theorem dL_tells_70 : decode cL_tells 70 = .ok (.aload_n 0, 1) := by decide +kernel
theorem dL_tells_71 : decode cL_tells 71 = .ok (.iload 6, 2) := by decide +kernel
theorem dL_tells_73 : decode cL_tells 73 = .ok (.iload 5, 2) := by decide +kernel
theorem dL_tells_75 : decode cL_tells 75 = .ok (.iload 7, 2) := by decide +kernel
theorem dL_tells_77 : decode cL_tells 77 = .ok (.invokestatic 151, 3) := by decide +kernel
theorem dL_tells_80 : decode cL_tells 80 = .ok (.iload 7, 2) := by decide +kernel
theorem dL_tells_82 : decode cL_tells 82 = .ok (.if_icmp .ne 7, 3) := by decide +kernel
theorem dL_tells_85 : decode cL_tells 85 = .ok (.iconst 1, 1) := by decide +kernel
theorem dL_tells_86 : decode cL_tells 86 = .ok (.goto 4, 3) := by decide +kernel
theorem dL_tells_89 : decode cL_tells 89 = .ok (.iconst 0, 1) := by decide +kernel
theorem dL_tells_90 : decode cL_tells 90 = .ok (.ireturn, 1) := by decide +kernel
theorem dL_tells_91 : decode cL_tells 91 = .ok (.iload 4, 2) := by decide +kernel
theorem dL_tells_93 : decode cL_tells 93 = .ok (.bipush 6, 2) := by decide +kernel
theorem dL_tells_95 : decode cL_tells 95 = .ok (.if_icmp .ge 111, 3) := by decide +kernel
theorem dL_tells_98 : decode cL_tells 98 = .ok (.iload_n 3, 1) := by decide +kernel
theorem dL_tells_99 : decode cL_tells 99 = .ok (.bipush 6, 2) := by decide +kernel
theorem dL_tells_101 : decode cL_tells 101 = .ok (.ishr, 1) := by decide +kernel
theorem dL_tells_102 : decode cL_tells 102 = .ok (.iconst 5, 1) := by decide +kernel
theorem dL_tells_103 : decode cL_tells 103 = .ok (.invokestatic 148, 3) := by decide +kernel
theorem dL_tells_106 : decode cL_tells 106 = .ok (.istore 7, 2) := by decide +kernel
theorem dL_tells_108 : decode cL_tells 108 = .ok (.aload_n 0, 1) := by decide +kernel
theorem dL_tells_109 : decode cL_tells 109 = .ok (.iload 5, 2) := by decide +kernel
theorem dL_tells_111 : decode cL_tells 111 = .ok (.iload 6, 2) := by decide +kernel
theorem dL_tells_113 : decode cL_tells 113 = .ok (.iconst 1, 1) := by decide +kernel
theorem dL_tells_114 : decode cL_tells 114 = .ok (.iload_n 3, 1) := by decide +kernel
theorem dL_tells_115 : decode cL_tells 115 = .ok (.bipush 9, 2) := by decide +kernel
theorem dL_tells_117 : decode cL_tells 117 = .ok (.ishr, 1) := by decide +kernel
theorem dL_tells_118 : decode cL_tells 118 = .ok (.ldc 153, 2) := by decide +kernel
theorem dL_tells_120 : decode cL_tells 120 = .ok (.invokestatic 148, 3) := by decide +kernel
theorem dL_tells_123 : decode cL_tells 123 = .ok (.iadd, 1) := by decide +kernel
theorem dL_tells_124 : decode cL_tells 124 = .ok (.iload 7, 2) := by decide +kernel
theorem dL_tells_126 : decode cL_tells 126 = .ok (.iload 7, 2) := by decide +kernel
theorem dL_tells_128 : decode cL_tells 128 = .ok (.iload_n 3, 1) := by decide +kernel
theorem dL_tells_129 : decode cL_tells 129 = .ok (.bipush 20, 2) := by decide +kernel
theorem dL_tells_131 : decode cL_tells 131 = .ok (.ishr, 1) := by decide +kernel
theorem dL_tells_132 : decode cL_tells 132 = .ok (.bipush 60, 2) := by decide +kernel
theorem dL_tells_134 : decode cL_tells 134 = .ok (.invokestatic 148, 3) := by decide +kernel
theorem dL_tells_137 : decode cL_tells 137 = .ok (.iadd, 1) := by decide +kernel
theorem dL_tells_138 : decode cL_tells 138 = .ok (.iload_n 3, 1) := by decide +kernel
theorem dL_tells_139 : decode cL_tells 139 = .ok (.bipush 26, 2) := by decide +kernel
theorem dL_tells_141 : decode cL_tells 141 = .ok (.ishr, 1) := by decide +kernel
theorem dL_tells_142 : decode cL_tells 142 = .ok (.bipush 8, 2) := by decide +kernel
theorem dL_tells_144 : decode cL_tells 144 = .ok (.invokestatic 148, 3) := by decide +kernel
theorem dL_tells_147 : decode cL_tells 147 = .ok (.iconst 5, 1) := by decide +kernel
theorem dL_tells_148 : decode cL_tells 148 = .ok (.irem, 1) := by decide +kernel
theorem dL_tells_149 : decode cL_tells 149 = .ok (.iload_n 2, 1) := by decide +kernel
theorem dL_tells_150 : decode cL_tells 150 = .ok (.iconst 4, 1) := by decide +kernel
theorem dL_tells_151 : decode cL_tells 151 = .ok (.ishr, 1) := by decide +kernel
theorem dL_tells_152 : decode cL_tells 152 = .ok (.iconst 4, 1) := by decide +kernel
theorem dL_tells_153 : decode cL_tells 153 = .ok (.invokestatic 148, 3) := by decide +kernel
theorem dL_tells_156 : decode cL_tells 156 = .ok (.iadd, 1) := by decide +kernel
theorem dL_tells_157 : decode cL_tells 157 = .ok (.invokestatic 154, 3) := by decide +kernel
theorem dL_tells_160 : decode cL_tells 160 = .ok (.istore 8, 2) := by decide +kernel
theorem dL_tells_162 : decode cL_tells 162 = .ok (.aload_n 1, 1) := by decide +kernel
theorem dL_tells_163 : decode cL_tells 163 = .ok (.iconst 5, 1) := by decide +kernel
theorem dL_tells_164 : decode cL_tells 164 = .ok (.iaload, 1) := by decide +kernel
theorem dL_tells_165 : decode cL_tells 165 = .ok (.bipush 40, 2) := by decide +kernel
theorem dL_tells_167 : decode cL_tells 167 = .ok (.if_icmp .ne 16, 3) := by decide +kernel
theorem dL_tells_170 : decode cL_tells 170 = .ok (.iload 8, 2) := by decide +kernel
theorem dL_tells_172 : decode cL_tells 172 = .ok (.ldc 28, 2) := by decide +kernel
theorem dL_tells_174 : decode cL_tells 174 = .ok (.if_icmp .ne 7, 3) := by decide +kernel
theorem dL_tells_177 : decode cL_tells 177 = .ok (.iconst 1, 1) := by decide +kernel
theorem dL_tells_178 : decode cL_tells 178 = .ok (.goto 4, 3) := by decide +kernel
theorem dL_tells_181 : decode cL_tells 181 = .ok (.iconst 0, 1) := by decide +kernel
theorem dL_tells_182 : decode cL_tells 182 = .ok (.ireturn, 1) := by decide +kernel
theorem dL_tells_183 : decode cL_tells 183 = .ok (.aload_n 1, 1) := by decide +kernel
theorem dL_tells_184 : decode cL_tells 184 = .ok (.iconst 5, 1) := by decide +kernel
theorem dL_tells_185 : decode cL_tells 185 = .ok (.dup2, 1) := by decide +kernel
theorem dL_tells_186 : decode cL_tells 186 = .ok (.iaload, 1) := by decide +kernel
theorem dL_tells_187 : decode cL_tells 187 = .ok (.iconst 1, 1) := by decide +kernel
theorem dL_tells_188 : decode cL_tells 188 = .ok (.iadd, 1) := by decide +kernel
theorem dL_tells_189 : decode cL_tells 189 = .ok (.iastore, 1) := by decide +kernel
theorem dL_tells_190 : decode cL_tells 190 = .ok (.iload 8, 2) := by decide +kernel
theorem dL_tells_192 : decode cL_tells 192 = .ok (.aload_n 1, 1) := by decide +kernel
theorem dL_tells_193 : decode cL_tells 193 = .ok (.iconst 5, 1) := by decide +kernel
theorem dL_tells_194 : decode cL_tells 194 = .ok (.iaload, 1) := by decide +kernel
theorem dL_tells_195 : decode cL_tells 195 = .ok (.iconst 1, 1) := by decide +kernel
theorem dL_tells_196 : decode cL_tells 196 = .ok (.isub, 1) := by decide +kernel
theorem dL_tells_197 : decode cL_tells 197 = .ok (.if_icmp .ne 7, 3) := by decide +kernel
theorem dL_tells_200 : decode cL_tells 200 = .ok (.iconst 1, 1) := by decide +kernel
theorem dL_tells_201 : decode cL_tells 201 = .ok (.goto 4, 3) := by decide +kernel
theorem dL_tells_204 : decode cL_tells 204 = .ok (.iconst 0, 1) := by decide +kernel
theorem dL_tells_205 : decode cL_tells 205 = .ok (.ireturn, 1) := by decide +kernel
theorem dL_tells_206 : decode cL_tells 206 = .ok (.iload 4, 2) := by decide +kernel
theorem dL_tells_208 : decode cL_tells 208 = .ok (.bipush 6, 2) := by decide +kernel
theorem dL_tells_210 : decode cL_tells 210 = .ok (.if_icmp .ne 37, 3) := by decide +kernel
theorem dL_tells_213 : decode cL_tells 213 = .ok (.aload_n 0, 1) := by decide +kernel
theorem dL_tells_214 : decode cL_tells 214 = .ok (.iload 5, 2) := by decide +kernel
theorem dL_tells_216 : decode cL_tells 216 = .ok (.iload_n 3, 1) := by decide +kernel
theorem dL_tells_217 : decode cL_tells 217 = .ok (.bipush 6, 2) := by decide +kernel
theorem dL_tells_219 : decode cL_tells 219 = .ok (.ishr, 1) := by decide +kernel
theorem dL_tells_220 : decode cL_tells 220 = .ok (.sipush 1000, 3) := by decide +kernel
theorem dL_tells_223 : decode cL_tells 223 = .ok (.invokestatic 148, 3) := by decide +kernel
theorem dL_tells_226 : decode cL_tells 226 = .ok (.iload_n 3, 1) := by decide +kernel
theorem dL_tells_227 : decode cL_tells 227 = .ok (.bipush 16, 2) := by decide +kernel
theorem dL_tells_229 : decode cL_tells 229 = .ok (.ishr, 1) := by decide +kernel
theorem dL_tells_230 : decode cL_tells 230 = .ok (.bipush 100, 2) := by decide +kernel
theorem dL_tells_232 : decode cL_tells 232 = .ok (.invokestatic 148, 3) := by decide +kernel
theorem dL_tells_235 : decode cL_tells 235 = .ok (.invokestatic 157, 3) := by decide +kernel
theorem dL_tells_238 : decode cL_tells 238 = .ok (.ifCond .ne 7, 3) := by decide +kernel
theorem dL_tells_241 : decode cL_tells 241 = .ok (.iconst 1, 1) := by decide +kernel
theorem dL_tells_242 : decode cL_tells 242 = .ok (.goto 4, 3) := by decide +kernel
theorem dL_tells_245 : decode cL_tells 245 = .ok (.iconst 0, 1) := by decide +kernel
theorem dL_tells_246 : decode cL_tells 246 = .ok (.ireturn, 1) := by decide +kernel
theorem dL_tells_247 : decode cL_tells 247 = .ok (.iload 4, 2) := by decide +kernel
theorem dL_tells_249 : decode cL_tells 249 = .ok (.bipush 7, 2) := by decide +kernel
theorem dL_tells_251 : decode cL_tells 251 = .ok (.if_icmp .ne 52, 3) := by decide +kernel
theorem dL_tells_254 : decode cL_tells 254 = .ok (.iload_n 3, 1) := by decide +kernel
theorem dL_tells_255 : decode cL_tells 255 = .ok (.bipush 6, 2) := by decide +kernel
theorem dL_tells_257 : decode cL_tells 257 = .ok (.ishr, 1) := by decide +kernel
theorem dL_tells_258 : decode cL_tells 258 = .ok (.bipush 50, 2) := by decide +kernel
theorem dL_tells_260 : decode cL_tells 260 = .ok (.invokestatic 148, 3) := by decide +kernel
theorem dL_tells_263 : decode cL_tells 263 = .ok (.istore 7, 2) := by decide +kernel
theorem dL_tells_265 : decode cL_tells 265 = .ok (.aload_n 0, 1) := by decide +kernel
theorem dL_tells_266 : decode cL_tells 266 = .ok (.iload 5, 2) := by decide +kernel
theorem dL_tells_268 : decode cL_tells 268 = .ok (.iload 6, 2) := by decide +kernel
theorem dL_tells_270 : decode cL_tells 270 = .ok (.iload 7, 2) := by decide +kernel
theorem dL_tells_272 : decode cL_tells 272 = .ok (.invokestatic 159, 3) := by decide +kernel
theorem dL_tells_275 : decode cL_tells 275 = .ok (.istore 8, 2) := by decide +kernel
theorem dL_tells_277 : decode cL_tells 277 = .ok (.iload 8, 2) := by decide +kernel
theorem dL_tells_279 : decode cL_tells 279 = .ok (.ifCond .lt 22, 3) := by decide +kernel
theorem dL_tells_282 : decode cL_tells 282 = .ok (.aload_n 0, 1) := by decide +kernel
theorem dL_tells_283 : decode cL_tells 283 = .ok (.iload 6, 2) := by decide +kernel
theorem dL_tells_285 : decode cL_tells 285 = .ok (.iload 5, 2) := by decide +kernel
theorem dL_tells_287 : decode cL_tells 287 = .ok (.iload 7, 2) := by decide +kernel
theorem dL_tells_289 : decode cL_tells 289 = .ok (.invokestatic 159, 3) := by decide +kernel
theorem dL_tells_292 : decode cL_tells 292 = .ok (.iload 7, 2) := by decide +kernel
theorem dL_tells_294 : decode cL_tells 294 = .ok (.if_icmp .ne 7, 3) := by decide +kernel
theorem dL_tells_297 : decode cL_tells 297 = .ok (.iconst 1, 1) := by decide +kernel
theorem dL_tells_298 : decode cL_tells 298 = .ok (.goto 4, 3) := by decide +kernel
theorem dL_tells_301 : decode cL_tells 301 = .ok (.iconst 0, 1) := by decide +kernel
theorem dL_tells_302 : decode cL_tells 302 = .ok (.ireturn, 1) := by decide +kernel
theorem dL_tells_303 : decode cL_tells 303 = .ok (.iload 4, 2) := by decide +kernel
theorem dL_tells_305 : decode cL_tells 305 = .ok (.bipush 8, 2) := by decide +kernel
theorem dL_tells_307 : decode cL_tells 307 = .ok (.if_icmp .ne 70, 3) := by decide +kernel
theorem dL_tells_310 : decode cL_tells 310 = .ok (.iload_n 3, 1) := by decide +kernel
theorem dL_tells_311 : decode cL_tells 311 = .ok (.bipush 6, 2) := by decide +kernel
theorem dL_tells_313 : decode cL_tells 313 = .ok (.ishr, 1) := by decide +kernel
theorem dL_tells_314 : decode cL_tells 314 = .ok (.sipush 4000, 3) := by decide +kernel
theorem dL_tells_317 : decode cL_tells 317 = .ok (.invokestatic 148, 3) := by decide +kernel
theorem dL_tells_320 : decode cL_tells 320 = .ok (.iconst 1, 1) := by decide +kernel
theorem dL_tells_321 : decode cL_tells 321 = .ok (.isub, 1) := by decide +kernel
theorem dL_tells_322 : decode cL_tells 322 = .ok (.istore 7, 2) := by decide +kernel
theorem dL_tells_324 : decode cL_tells 324 = .ok (.aload_n 0, 1) := by decide +kernel
theorem dL_tells_325 : decode cL_tells 325 = .ok (.iload_n 2, 1) := by decide +kernel
theorem dL_tells_326 : decode cL_tells 326 = .ok (.iconst 4, 1) := by decide +kernel
theorem dL_tells_327 : decode cL_tells 327 = .ok (.ishr, 1) := by decide +kernel
theorem dL_tells_328 : decode cL_tells 328 = .ok (.iconst 5, 1) := by decide +kernel
theorem dL_tells_329 : decode cL_tells 329 = .ok (.invokestatic 148, 3) := by decide +kernel
theorem dL_tells_332 : decode cL_tells 332 = .ok (.iload 5, 2) := by decide +kernel
theorem dL_tells_334 : decode cL_tells 334 = .ok (.iload 6, 2) := by decide +kernel
theorem dL_tells_336 : decode cL_tells 336 = .ok (.iload 7, 2) := by decide +kernel
theorem dL_tells_338 : decode cL_tells 338 = .ok (.invokestatic 161, 3) := by decide +kernel
theorem dL_tells_341 : decode cL_tells 341 = .ok (.istore 8, 2) := by decide +kernel
theorem dL_tells_343 : decode cL_tells 343 = .ok (.iload 8, 2) := by decide +kernel
theorem dL_tells_345 : decode cL_tells 345 = .ok (.iconst (-1), 1) := by decide +kernel
theorem dL_tells_346 : decode cL_tells 346 = .ok (.if_icmp .lt 29, 3) := by decide +kernel
theorem dL_tells_349 : decode cL_tells 349 = .ok (.aload_n 0, 1) := by decide +kernel
theorem dL_tells_350 : decode cL_tells 350 = .ok (.iload_n 2, 1) := by decide +kernel
theorem dL_tells_351 : decode cL_tells 351 = .ok (.iconst 4, 1) := by decide +kernel
theorem dL_tells_352 : decode cL_tells 352 = .ok (.ishr, 1) := by decide +kernel
theorem dL_tells_353 : decode cL_tells 353 = .ok (.iconst 5, 1) := by decide +kernel
theorem dL_tells_354 : decode cL_tells 354 = .ok (.invokestatic 148, 3) := by decide +kernel
theorem dL_tells_357 : decode cL_tells 357 = .ok (.iload 5, 2) := by decide +kernel
theorem dL_tells_359 : decode cL_tells 359 = .ok (.iload 6, 2) := by decide +kernel
theorem dL_tells_361 : decode cL_tells 361 = .ok (.iload 7, 2) := by decide +kernel
theorem dL_tells_363 : decode cL_tells 363 = .ok (.invokestatic 161, 3) := by decide +kernel
theorem dL_tells_366 : decode cL_tells 366 = .ok (.iload 7, 2) := by decide +kernel
theorem dL_tells_368 : decode cL_tells 368 = .ok (.if_icmp .ne 7, 3) := by decide +kernel
theorem dL_tells_371 : decode cL_tells 371 = .ok (.iconst 1, 1) := by decide +kernel
theorem dL_tells_372 : decode cL_tells 372 = .ok (.goto 4, 3) := by decide +kernel
theorem dL_tells_375 : decode cL_tells 375 = .ok (.iconst 0, 1) := by decide +kernel
theorem dL_tells_376 : decode cL_tells 376 = .ok (.ireturn, 1) := by decide +kernel
theorem dL_tells_377 : decode cL_tells 377 = .ok (.aload_n 0, 1) := by decide +kernel
theorem dL_tells_378 : decode cL_tells 378 = .ok (.iconst 1, 1) := by decide +kernel
theorem dL_tells_379 : decode cL_tells 379 = .ok (.iload_n 3, 1) := by decide +kernel
theorem dL_tells_380 : decode cL_tells 380 = .ok (.bipush 50, 2) := by decide +kernel
theorem dL_tells_382 : decode cL_tells 382 = .ok (.invokestatic 148, 3) := by decide +kernel
theorem dL_tells_385 : decode cL_tells 385 = .ok (.iadd, 1) := by decide +kernel
theorem dL_tells_386 : decode cL_tells 386 = .ok (.invokestatic 164, 3) := by decide +kernel
theorem dL_tells_389 : decode cL_tells 389 = .ok (.istore 7, 2) := by decide +kernel
theorem dL_tells_391 : decode cL_tells 391 = .ok (.aload_n 0, 1) := by decide +kernel
theorem dL_tells_392 : decode cL_tells 392 = .ok (.iload_n 3, 1) := by decide +kernel
theorem dL_tells_393 : decode cL_tells 393 = .ok (.bipush 6, 2) := by decide +kernel
theorem dL_tells_395 : decode cL_tells 395 = .ok (.ishr, 1) := by decide +kernel
theorem dL_tells_396 : decode cL_tells 396 = .ok (.bipush 101, 2) := by decide +kernel
theorem dL_tells_398 : decode cL_tells 398 = .ok (.invokestatic 148, 3) := by decide +kernel
theorem dL_tells_401 : decode cL_tells 401 = .ok (.invokestatic 166, 3) := by decide +kernel
theorem dL_tells_404 : decode cL_tells 404 = .ok (.istore 8, 2) := by decide +kernel
theorem dL_tells_406 : decode cL_tells 406 = .ok (.iload 7, 2) := by decide +kernel
theorem dL_tells_408 : decode cL_tells 408 = .ok (.ifCond .le 27, 3) := by decide +kernel
theorem dL_tells_411 : decode cL_tells 411 = .ok (.iload 7, 2) := by decide +kernel
theorem dL_tells_413 : decode cL_tells 413 = .ok (.sipush 1000, 3) := by decide +kernel
theorem dL_tells_416 : decode cL_tells 416 = .ok (.if_icmp .gt 19, 3) := by decide +kernel
theorem dL_tells_419 : decode cL_tells 419 = .ok (.iload 8, 2) := by decide +kernel
theorem dL_tells_421 : decode cL_tells 421 = .ok (.ifCond .lt 14, 3) := by decide +kernel
theorem dL_tells_424 : decode cL_tells 424 = .ok (.iload 8, 2) := by decide +kernel
theorem dL_tells_426 : decode cL_tells 426 = .ok (.bipush 100, 2) := by decide +kernel
theorem dL_tells_428 : decode cL_tells 428 = .ok (.if_icmp .gt 7, 3) := by decide +kernel
theorem dL_tells_431 : decode cL_tells 431 = .ok (.iconst 1, 1) := by decide +kernel
theorem dL_tells_432 : decode cL_tells 432 = .ok (.goto 4, 3) := by decide +kernel
theorem dL_tells_435 : decode cL_tells 435 = .ok (.iconst 0, 1) := by decide +kernel
theorem dL_tells_436 : decode cL_tells 436 = .ok (.ireturn, 1) := by decide +kernel
theorem dL_travels_0 : decode cL_travels 0 = .ok (.aload_n 1, 1) := by decide +kernel
theorem dL_travels_1 : decode cL_travels 1 = .ok (.iconst 1, 1) := by decide +kernel
theorem dL_travels_2 : decode cL_travels 2 = .ok (.iaload, 1) := by decide +kernel
theorem dL_travels_3 : decode cL_travels 3 = .ok (.ifCond .eq 12, 3) := by decide +kernel
theorem dL_travels_6 : decode cL_travels 6 = .ok (.iload_n 3, 1) := by decide +kernel
theorem dL_travels_7 : decode cL_travels 7 = .ok (.bipush 8, 2) := by decide +kernel
theorem dL_travels_9 : decode cL_travels 9 = .ok (.invokestatic 148, 3) := by decide +kernel
theorem dL_travels_12 : decode cL_travels 12 = .ok (.ifCond .ne 12, 3) := by decide +kernel
theorem dL_travels_15 : decode cL_travels 15 = .ok (.iload 4, 2) := by decide +kernel
theorem dL_travels_17 : decode cL_travels 17 = .ok (.iconst 5, 1) := by decide +kernel
theorem dL_travels_18 : decode cL_travels 18 = .ok (.invokestatic 148, 3) := by decide +kernel
theorem dL_travels_21 : decode cL_travels 21 = .ok (.goto 6, 3) := by decide +kernel
theorem dL_travels_24 : decode cL_travels 24 = .ok (.aload_n 2, 1) := by decide +kernel
theorem dL_travels_25 : decode cL_travels 25 = .ok (.iconst 0, 1) := by decide +kernel
theorem dL_travels_26 : decode cL_travels 26 = .ok (.iaload, 1) := by decide +kernel
theorem dL_travels_27 : decode cL_travels 27 = .ok (.istore 5, 2) := by decide +kernel
theorem dL_travels_29 : decode cL_travels 29 = .ok (.iload 5, 2) := by decide +kernel
theorem dL_travels_31 : decode cL_travels 31 = .ok (.iconst 1, 1) := by decide +kernel
theorem dL_travels_32 : decode cL_travels 32 = .ok (.iadd, 1) := by decide +kernel
theorem dL_travels_33 : decode cL_travels 33 = .ok (.iload 4, 2) := by decide +kernel
theorem dL_travels_35 : decode cL_travels 35 = .ok (.iconst 3, 1) := by decide +kernel
theorem dL_travels_36 : decode cL_travels 36 = .ok (.ishr, 1) := by decide +kernel
theorem dL_travels_37 : decode cL_travels 37 = .ok (.iconst 4, 1) := by decide +kernel
theorem dL_travels_38 : decode cL_travels 38 = .ok (.invokestatic 148, 3) := by decide +kernel
theorem dL_travels_41 : decode cL_travels 41 = .ok (.iadd, 1) := by decide +kernel
theorem dL_travels_42 : decode cL_travels 42 = .ok (.iconst 5, 1) := by decide +kernel
theorem dL_travels_43 : decode cL_travels 43 = .ok (.irem, 1) := by decide +kernel
theorem dL_travels_44 : decode cL_travels 44 = .ok (.istore 6, 2) := by decide +kernel
theorem dL_travels_46 : decode cL_travels 46 = .ok (.aload_n 1, 1) := by decide +kernel
theorem dL_travels_47 : decode cL_travels 47 = .ok (.iconst 0, 1) := by decide +kernel
theorem dL_travels_48 : decode cL_travels 48 = .ok (.iaload, 1) := by decide +kernel
theorem dL_travels_49 : decode cL_travels 49 = .ok (.iload 4, 2) := by decide +kernel
theorem dL_travels_51 : decode cL_travels 51 = .ok (.bipush 6, 2) := by decide +kernel
theorem dL_travels_53 : decode cL_travels 53 = .ok (.ishr, 1) := by decide +kernel
theorem dL_travels_54 : decode cL_travels 54 = .ok (.iconst 3, 1) := by decide +kernel
theorem dL_travels_55 : decode cL_travels 55 = .ok (.invokestatic 148, 3) := by decide +kernel
theorem dL_travels_58 : decode cL_travels 58 = .ok (.iadd, 1) := by decide +kernel
theorem dL_travels_59 : decode cL_travels 59 = .ok (.istore 7, 2) := by decide +kernel
theorem dL_travels_61 : decode cL_travels 61 = .ok (.aload_n 0, 1) := by decide +kernel
theorem dL_travels_62 : decode cL_travels 62 = .ok (.iload 5, 2) := by decide +kernel
theorem dL_travels_64 : decode cL_travels 64 = .ok (.iload 6, 2) := by decide +kernel
theorem dL_travels_66 : decode cL_travels 66 = .ok (.iload 4, 2) := by decide +kernel
theorem dL_travels_68 : decode cL_travels 68 = .ok (.bipush 9, 2) := by decide +kernel
theorem dL_travels_70 : decode cL_travels 70 = .ok (.ishr, 1) := by decide +kernel
theorem dL_travels_71 : decode cL_travels 71 = .ok (.iconst 5, 1) := by decide +kernel
theorem dL_travels_72 : decode cL_travels 72 = .ok (.invokestatic 148, 3) := by decide +kernel
theorem dL_travels_75 : decode cL_travels 75 = .ok (.iload 7, 2) := by decide +kernel
theorem dL_travels_77 : decode cL_travels 77 = .ok (.invokestatic 168, 3) := by decide +kernel
theorem dL_travels_80 : decode cL_travels 80 = .ok (.istore 8, 2) := by decide +kernel
theorem dL_travels_82 : decode cL_travels 82 = .ok (.aload_n 1, 1) := by decide +kernel
theorem dL_travels_83 : decode cL_travels 83 = .ok (.iconst 1, 1) := by decide +kernel
theorem dL_travels_84 : decode cL_travels 84 = .ok (.iaload, 1) := by decide +kernel
theorem dL_travels_85 : decode cL_travels 85 = .ok (.ifCond .eq 19, 3) := by decide +kernel
theorem dL_travels_88 : decode cL_travels 88 = .ok (.iload 5, 2) := by decide +kernel
theorem dL_travels_90 : decode cL_travels 90 = .ok (.aload_n 2, 1) := by decide +kernel
theorem dL_travels_91 : decode cL_travels 91 = .ok (.iconst 0, 1) := by decide +kernel
theorem dL_travels_92 : decode cL_travels 92 = .ok (.iaload, 1) := by decide +kernel
theorem dL_travels_93 : decode cL_travels 93 = .ok (.if_icmp .ne 15, 3) := by decide +kernel
theorem dL_travels_96 : decode cL_travels 96 = .ok (.iload 7, 2) := by decide +kernel
theorem dL_travels_98 : decode cL_travels 98 = .ok (.aload_n 2, 1) := by decide +kernel
theorem dL_travels_99 : decode cL_travels 99 = .ok (.iconst 1, 1) := by decide +kernel
theorem dL_travels_100 : decode cL_travels 100 = .ok (.iaload, 1) := by decide +kernel
theorem dL_travels_101 : decode cL_travels 101 = .ok (.if_icmp .lt 7, 3) := by decide +kernel
theorem dL_travels_104 : decode cL_travels 104 = .ok (.iconst 1, 1) := by decide +kernel
theorem dL_travels_105 : decode cL_travels 105 = .ok (.goto 4, 3) := by decide +kernel
theorem dL_travels_108 : decode cL_travels 108 = .ok (.iconst 0, 1) := by decide +kernel
theorem dL_travels_109 : decode cL_travels 109 = .ok (.istore 9, 2) := by decide +kernel
theorem dL_travels_111 : decode cL_travels 111 = .ok (.iload 8, 2) := by decide +kernel
theorem dL_travels_113 : decode cL_travels 113 = .ok (.ldc 28, 2) := by decide +kernel
theorem dL_travels_115 : decode cL_travels 115 = .ok (.if_icmp .ne 33, 3) := by decide +kernel
theorem dL_travels_118 : decode cL_travels 118 = .ok (.iload 9, 2) := by decide +kernel
theorem dL_travels_120 : decode cL_travels 120 = .ok (.ifCond .eq 22, 3) := by decide +kernel
theorem dL_travels_123 : decode cL_travels 123 = .ok (.aload_n 1, 1) := by decide +kernel
theorem dL_travels_124 : decode cL_travels 124 = .ok (.iconst 1, 1) := by decide +kernel
theorem dL_travels_125 : decode cL_travels 125 = .ok (.iaload, 1) := by decide +kernel
theorem dL_travels_126 : decode cL_travels 126 = .ok (.bipush 8, 2) := by decide +kernel
theorem dL_travels_128 : decode cL_travels 128 = .ok (.if_icmp .eq 14, 3) := by decide +kernel
theorem dL_travels_131 : decode cL_travels 131 = .ok (.aload_n 0, 1) := by decide +kernel
theorem dL_travels_132 : decode cL_travels 132 = .ok (.iconst 1, 1) := by decide +kernel
theorem dL_travels_133 : decode cL_travels 133 = .ok (.invokestatic 117, 3) := by decide +kernel
theorem dL_travels_136 : decode cL_travels 136 = .ok (.aload_n 1, 1) := by decide +kernel
theorem dL_travels_137 : decode cL_travels 137 = .ok (.iconst 1, 1) := by decide +kernel
theorem dL_travels_138 : decode cL_travels 138 = .ok (.iaload, 1) := by decide +kernel
theorem dL_travels_139 : decode cL_travels 139 = .ok (.if_icmp .ne 7, 3) := by decide +kernel
theorem dL_travels_142 : decode cL_travels 142 = .ok (.iconst 1, 1) := by decide +kernel
theorem dL_travels_143 : decode cL_travels 143 = .ok (.goto 4, 3) := by decide +kernel
theorem dL_travels_146 : decode cL_travels 146 = .ok (.iconst 0, 1) := by decide +kernel
theorem dL_travels_147 : decode cL_travels 147 = .ok (.ireturn, 1) := by decide +kernel
theorem dL_travels_148 : decode cL_travels 148 = .ok (.aload_n 1, 1) := by decide +kernel
theorem dL_travels_149 : decode cL_travels 149 = .ok (.iconst 1, 1) := by decide +kernel
theorem dL_travels_150 : decode cL_travels 150 = .ok (.dup2, 1) := by decide +kernel
theorem dL_travels_151 : decode cL_travels 151 = .ok (.iaload, 1) := by decide +kernel
theorem dL_travels_152 : decode cL_travels 152 = .ok (.iconst 1, 1) := by decide +kernel
theorem dL_travels_153 : decode cL_travels 153 = .ok (.iadd, 1) := by decide +kernel
theorem dL_travels_154 : decode cL_travels 154 = .ok (.iastore, 1) := by decide +kernel
theorem dL_travels_155 : decode cL_travels 155 = .ok (.aload_n 2, 1) := by decide +kernel
theorem dL_travels_156 : decode cL_travels 156 = .ok (.iconst 0, 1) := by decide +kernel
theorem dL_travels_157 : decode cL_travels 157 = .ok (.iload 6, 2) := by decide +kernel
theorem dL_travels_159 : decode cL_travels 159 = .ok (.iastore, 1) := by decide +kernel
theorem dL_travels_160 : decode cL_travels 160 = .ok (.aload_n 2, 1) := by decide +kernel
theorem dL_travels_161 : decode cL_travels 161 = .ok (.iconst 1, 1) := by decide +kernel
theorem dL_travels_162 : decode cL_travels 162 = .ok (.iload 7, 2) := by decide +kernel
theorem dL_travels_164 : decode cL_travels 164 = .ok (.iastore, 1) := by decide +kernel
theorem dL_travels_165 : decode cL_travels 165 = .ok (.iload 9, 2) := by decide +kernel
theorem dL_travels_167 : decode cL_travels 167 = .ok (.ifCond .eq 15, 3) := by decide +kernel
theorem dL_travels_170 : decode cL_travels 170 = .ok (.iload 8, 2) := by decide +kernel
theorem dL_travels_172 : decode cL_travels 172 = .ok (.aload_n 1, 1) := by decide +kernel
theorem dL_travels_173 : decode cL_travels 173 = .ok (.iconst 1, 1) := by decide +kernel
theorem dL_travels_174 : decode cL_travels 174 = .ok (.iaload, 1) := by decide +kernel
theorem dL_travels_175 : decode cL_travels 175 = .ok (.if_icmp .ne 7, 3) := by decide +kernel
theorem dL_travels_178 : decode cL_travels 178 = .ok (.iconst 1, 1) := by decide +kernel
theorem dL_travels_179 : decode cL_travels 179 = .ok (.goto 4, 3) := by decide +kernel
theorem dL_travels_182 : decode cL_travels 182 = .ok (.iconst 0, 1) := by decide +kernel
theorem dL_travels_183 : decode cL_travels 183 = .ok (.ireturn, 1) := by decide +kernel
theorem dL_sells_0 : decode cL_sells 0 = .ok (.aload_n 0, 1) := by decide +kernel
theorem dL_sells_1 : decode cL_sells 1 = .ok (.invokevirtual 122, 3) := by decide +kernel
theorem dL_sells_4 : decode cL_sells 4 = .ok (.lstore 4, 2) := by decide +kernel
theorem dL_sells_6 : decode cL_sells 6 = .ok (.aload_n 0, 1) := by decide +kernel
theorem dL_sells_7 : decode cL_sells 7 = .ok (.invokevirtual 126, 3) := by decide +kernel
theorem dL_sells_10 : decode cL_sells 10 = .ok (.istore 6, 2) := by decide +kernel
theorem dL_sells_12 : decode cL_sells 12 = .ok (.iload_n 3, 1) := by decide +kernel
theorem dL_sells_13 : decode cL_sells 13 = .ok (.iconst 5, 1) := by decide +kernel
theorem dL_sells_14 : decode cL_sells 14 = .ok (.invokestatic 148, 3) := by decide +kernel
theorem dL_sells_17 : decode cL_sells 17 = .ok (.istore 7, 2) := by decide +kernel
theorem dL_sells_19 : decode cL_sells 19 = .ok (.iload_n 2, 1) := by decide +kernel
theorem dL_sells_20 : decode cL_sells 20 = .ok (.iconst 3, 1) := by decide +kernel
theorem dL_sells_21 : decode cL_sells 21 = .ok (.invokestatic 148, 3) := by decide +kernel
theorem dL_sells_24 : decode cL_sells 24 = .ok (.ifCond .gt 9, 3) := by decide +kernel
theorem dL_sells_27 : decode cL_sells 27 = .ok (.aload_n 1, 1) := by decide +kernel
theorem dL_sells_28 : decode cL_sells 28 = .ok (.iconst 2, 1) := by decide +kernel
theorem dL_sells_29 : decode cL_sells 29 = .ok (.iaload, 1) := by decide +kernel
theorem dL_sells_30 : decode cL_sells 30 = .ok (.ifCond .ne 134, 3) := by decide +kernel
theorem dL_sells_33 : decode cL_sells 33 = .ok (.aload_n 0, 1) := by decide +kernel
theorem dL_sells_34 : decode cL_sells 34 = .ok (.iload 7, 2) := by decide +kernel
theorem dL_sells_36 : decode cL_sells 36 = .ok (.invokestatic 139, 3) := by decide +kernel
theorem dL_sells_39 : decode cL_sells 39 = .ok (.istore 8, 2) := by decide +kernel
theorem dL_sells_41 : decode cL_sells 41 = .ok (.iload 8, 2) := by decide +kernel
theorem dL_sells_43 : decode cL_sells 43 = .ok (.ldc 28, 2) := by decide +kernel
theorem dL_sells_45 : decode cL_sells 45 = .ok (.if_icmp .ne 30, 3) := by decide +kernel
theorem dL_sells_48 : decode cL_sells 48 = .ok (.aload_n 0, 1) := by decide +kernel
theorem dL_sells_49 : decode cL_sells 49 = .ok (.invokevirtual 122, 3) := by decide +kernel
theorem dL_sells_52 : decode cL_sells 52 = .ok (.lload 4, 2) := by decide +kernel
theorem dL_sells_54 : decode cL_sells 54 = .ok (.lcmp, 1) := by decide +kernel
theorem dL_sells_55 : decode cL_sells 55 = .ok (.ifCond .ne 18, 3) := by decide +kernel
theorem dL_sells_58 : decode cL_sells 58 = .ok (.aload_n 0, 1) := by decide +kernel
theorem dL_sells_59 : decode cL_sells 59 = .ok (.iconst 1, 1) := by decide +kernel
theorem dL_sells_60 : decode cL_sells 60 = .ok (.invokestatic 117, 3) := by decide +kernel
theorem dL_sells_63 : decode cL_sells 63 = .ok (.aload_n 1, 1) := by decide +kernel
theorem dL_sells_64 : decode cL_sells 64 = .ok (.iconst 1, 1) := by decide +kernel
theorem dL_sells_65 : decode cL_sells 65 = .ok (.iaload, 1) := by decide +kernel
theorem dL_sells_66 : decode cL_sells 66 = .ok (.if_icmp .ne 7, 3) := by decide +kernel
theorem dL_sells_69 : decode cL_sells 69 = .ok (.iconst 1, 1) := by decide +kernel
theorem dL_sells_70 : decode cL_sells 70 = .ok (.goto 4, 3) := by decide +kernel
theorem dL_sells_73 : decode cL_sells 73 = .ok (.iconst 0, 1) := by decide +kernel
theorem dL_sells_74 : decode cL_sells 74 = .ok (.ireturn, 1) := by decide +kernel
theorem dL_sells_75 : decode cL_sells 75 = .ok (.aload_n 1, 1) := by decide +kernel
theorem dL_sells_76 : decode cL_sells 76 = .ok (.iconst 1, 1) := by decide +kernel
theorem dL_sells_77 : decode cL_sells 77 = .ok (.iconst 0, 1) := by decide +kernel
theorem dL_sells_78 : decode cL_sells 78 = .ok (.iastore, 1) := by decide +kernel
theorem dL_sells_79 : decode cL_sells 79 = .ok (.aload_n 1, 1) := by decide +kernel
theorem dL_sells_80 : decode cL_sells 80 = .ok (.iconst 2, 1) := by decide +kernel
theorem dL_sells_81 : decode cL_sells 81 = .ok (.dup2, 1) := by decide +kernel
theorem dL_sells_82 : decode cL_sells 82 = .ok (.iaload, 1) := by decide +kernel
theorem dL_sells_83 : decode cL_sells 83 = .ok (.iconst 1, 1) := by decide +kernel
theorem dL_sells_84 : decode cL_sells 84 = .ok (.iadd, 1) := by decide +kernel
theorem dL_sells_85 : decode cL_sells 85 = .ok (.iastore, 1) := by decide +kernel
theorem dL_sells_86 : decode cL_sells 86 = .ok (.iload 6, 2) := by decide +kernel
theorem dL_sells_88 : decode cL_sells 88 = .ok (.ifCond .le 74, 3) := by decide +kernel
theorem dL_sells_91 : decode cL_sells 91 = .ok (.iload 8, 2) := by decide +kernel
theorem dL_sells_93 : decode cL_sells 93 = .ok (.aload_n 1, 1) := by decide +kernel
theorem dL_sells_94 : decode cL_sells 94 = .ok (.iconst 2, 1) := by decide +kernel
theorem dL_sells_95 : decode cL_sells 95 = .ok (.iaload, 1) := by decide +kernel
theorem dL_sells_96 : decode cL_sells 96 = .ok (.iconst 1, 1) := by decide +kernel
theorem dL_sells_97 : decode cL_sells 97 = .ok (.isub, 1) := by decide +kernel
theorem dL_sells_98 : decode cL_sells 98 = .ok (.if_icmp .ne 64, 3) := by decide +kernel
theorem dL_sells_101 : decode cL_sells 101 = .ok (.aload_n 0, 1) := by decide +kernel
theorem dL_sells_102 : decode cL_sells 102 = .ok (.iload 8, 2) := by decide +kernel
theorem dL_sells_104 : decode cL_sells 104 = .ok (.iconst 0, 1) := by decide +kernel
theorem dL_sells_105 : decode cL_sells 105 = .ok (.invokestatic 141, 3) := by decide +kernel
theorem dL_sells_108 : decode cL_sells 108 = .ok (.iload 6, 2) := by decide +kernel
theorem dL_sells_110 : decode cL_sells 110 = .ok (.if_icmp .ne 52, 3) := by decide +kernel
theorem dL_sells_113 : decode cL_sells 113 = .ok (.aload_n 0, 1) := by decide +kernel
theorem dL_sells_114 : decode cL_sells 114 = .ok (.iload 8, 2) := by decide +kernel
theorem dL_sells_116 : decode cL_sells 116 = .ok (.iconst 2, 1) := by decide +kernel
theorem dL_sells_117 : decode cL_sells 117 = .ok (.invokestatic 141, 3) := by decide +kernel
theorem dL_sells_120 : decode cL_sells 120 = .ok (.iload 7, 2) := by decide +kernel
theorem dL_sells_122 : decode cL_sells 122 = .ok (.if_icmp .ne 40, 3) := by decide +kernel
theorem dL_sells_125 : decode cL_sells 125 = .ok (.aload_n 0, 1) := by decide +kernel
theorem dL_sells_126 : decode cL_sells 126 = .ok (.invokevirtual 122, 3) := by decide +kernel
theorem dL_sells_129 : decode cL_sells 129 = .ok (.lload 4, 2) := by decide +kernel
theorem dL_sells_131 : decode cL_sells 131 = .ok (.iload 6, 2) := by decide +kernel
theorem dL_sells_133 : decode cL_sells 133 = .ok (.i2l, 1) := by decide +kernel
theorem dL_sells_134 : decode cL_sells 134 = .ok (.ladd, 1) := by decide +kernel
theorem dL_sells_135 : decode cL_sells 135 = .ok (.aload_n 0, 1) := by decide +kernel
theorem dL_sells_136 : decode cL_sells 136 = .ok (.iload 8, 2) := by decide +kernel
theorem dL_sells_138 : decode cL_sells 138 = .ok (.iconst 1, 1) := by decide +kernel
theorem dL_sells_139 : decode cL_sells 139 = .ok (.invokestatic 141, 3) := by decide +kernel
theorem dL_sells_142 : decode cL_sells 142 = .ok (.i2l, 1) := by decide +kernel
theorem dL_sells_143 : decode cL_sells 143 = .ok (.ladd, 1) := by decide +kernel
theorem dL_sells_144 : decode cL_sells 144 = .ok (.lcmp, 1) := by decide +kernel
theorem dL_sells_145 : decode cL_sells 145 = .ok (.ifCond .ne 17, 3) := by decide +kernel
theorem dL_sells_148 : decode cL_sells 148 = .ok (.aload_n 0, 1) := by decide +kernel
theorem dL_sells_149 : decode cL_sells 149 = .ok (.aload_n 1, 1) := by decide +kernel
theorem dL_sells_150 : decode cL_sells 150 = .ok (.iload 8, 2) := by decide +kernel
theorem dL_sells_152 : decode cL_sells 152 = .ok (.invokestatic 170, 3) := by decide +kernel
theorem dL_sells_155 : decode cL_sells 155 = .ok (.ifCond .eq 7, 3) := by decide +kernel
theorem dL_sells_158 : decode cL_sells 158 = .ok (.iconst 1, 1) := by decide +kernel
theorem dL_sells_159 : decode cL_sells 159 = .ok (.goto 4, 3) := by decide +kernel
theorem dL_sells_162 : decode cL_sells 162 = .ok (.iconst 0, 1) := by decide +kernel
theorem dL_sells_163 : decode cL_sells 163 = .ok (.ireturn, 1) := by decide +kernel
theorem dL_sells_164 : decode cL_sells 164 = .ok (.iload_n 3, 1) := by decide +kernel
theorem dL_sells_165 : decode cL_sells 165 = .ok (.iconst 3, 1) := by decide +kernel
theorem dL_sells_166 : decode cL_sells 166 = .ok (.ishr, 1) := by decide +kernel
theorem dL_sells_167 : decode cL_sells 167 = .ok (.aload_n 1, 1) := by decide +kernel
theorem dL_sells_168 : decode cL_sells 168 = .ok (.iconst 2, 1) := by decide +kernel
theorem dL_sells_169 : decode cL_sells 169 = .ok (.iaload, 1) := by decide +kernel
theorem dL_sells_170 : decode cL_sells 170 = .ok (.invokestatic 148, 3) := by decide +kernel
theorem dL_sells_173 : decode cL_sells 173 = .ok (.istore 8, 2) := by decide +kernel
theorem dL_sells_175 : decode cL_sells 175 = .ok (.iload_n 3, 1) := by decide +kernel
theorem dL_sells_176 : decode cL_sells 176 = .ok (.bipush 9, 2) := by decide +kernel
theorem dL_sells_178 : decode cL_sells 178 = .ok (.ishr, 1) := by decide +kernel
theorem dL_sells_179 : decode cL_sells 179 = .ok (.iconst 2, 1) := by decide +kernel
theorem dL_sells_180 : decode cL_sells 180 = .ok (.invokestatic 148, 3) := by decide +kernel
theorem dL_sells_183 : decode cL_sells 183 = .ok (.ifCond .ne 83, 3) := by decide +kernel
theorem dL_sells_186 : decode cL_sells 186 = .ok (.aload_n 0, 1) := by decide +kernel
theorem dL_sells_187 : decode cL_sells 187 = .ok (.iload 8, 2) := by decide +kernel
theorem dL_sells_189 : decode cL_sells 189 = .ok (.invokestatic 174, 3) := by decide +kernel
theorem dL_sells_192 : decode cL_sells 192 = .ok (.istore 9, 2) := by decide +kernel
theorem dL_sells_194 : decode cL_sells 194 = .ok (.iload 9, 2) := by decide +kernel
theorem dL_sells_196 : decode cL_sells 196 = .ok (.ldc 28, 2) := by decide +kernel
theorem dL_sells_198 : decode cL_sells 198 = .ok (.if_icmp .ne 21, 3) := by decide +kernel
theorem dL_sells_201 : decode cL_sells 201 = .ok (.aload_n 0, 1) := by decide +kernel
theorem dL_sells_202 : decode cL_sells 202 = .ok (.invokevirtual 122, 3) := by decide +kernel
theorem dL_sells_205 : decode cL_sells 205 = .ok (.lload 4, 2) := by decide +kernel
theorem dL_sells_207 : decode cL_sells 207 = .ok (.lcmp, 1) := by decide +kernel
theorem dL_sells_208 : decode cL_sells 208 = .ok (.ifCond .ne 7, 3) := by decide +kernel
theorem dL_sells_211 : decode cL_sells 211 = .ok (.iconst 1, 1) := by decide +kernel
theorem dL_sells_212 : decode cL_sells 212 = .ok (.goto 53, 3) := by decide +kernel
theorem dL_sells_215 : decode cL_sells 215 = .ok (.iconst 0, 1) := by decide +kernel
theorem dL_sells_216 : decode cL_sells 216 = .ok (.goto 49, 3) := by decide +kernel
theorem dL_sells_219 : decode cL_sells 219 = .ok (.iload 9, 2) := by decide +kernel
theorem dL_sells_221 : decode cL_sells 221 = .ok (.ifCond .lt 43, 3) := by decide +kernel
theorem dL_sells_224 : decode cL_sells 224 = .ok (.aload_n 0, 1) := by decide +kernel
theorem dL_sells_225 : decode cL_sells 225 = .ok (.invokevirtual 122, 3) := by decide +kernel
theorem dL_sells_228 : decode cL_sells 228 = .ok (.lload 4, 2) := by decide +kernel
theorem dL_sells_230 : decode cL_sells 230 = .ok (.iload 9, 2) := by decide +kernel
theorem dL_sells_232 : decode cL_sells 232 = .ok (.i2l, 1) := by decide +kernel
theorem dL_sells_233 : decode cL_sells 233 = .ok (.lsub, 1) := by decide +kernel
theorem dL_sells_234 : decode cL_sells 234 = .ok (.lcmp, 1) := by decide +kernel
theorem dL_sells_235 : decode cL_sells 235 = .ok (.ifCond .ne 29, 3) := by decide +kernel
theorem dL_sells_238 : decode cL_sells 238 = .ok (.aload_n 0, 1) := by decide +kernel
theorem dL_sells_239 : decode cL_sells 239 = .ok (.iload 8, 2) := by decide +kernel
theorem dL_sells_241 : decode cL_sells 241 = .ok (.invokestatic 174, 3) := by decide +kernel
theorem dL_sells_244 : decode cL_sells 244 = .ok (.ldc 28, 2) := by decide +kernel
theorem dL_sells_246 : decode cL_sells 246 = .ok (.if_icmp .ne 18, 3) := by decide +kernel
theorem dL_sells_249 : decode cL_sells 249 = .ok (.aload_n 0, 1) := by decide +kernel
theorem dL_sells_250 : decode cL_sells 250 = .ok (.iload 8, 2) := by decide +kernel
theorem dL_sells_252 : decode cL_sells 252 = .ok (.invokestatic 176, 3) := by decide +kernel
theorem dL_sells_255 : decode cL_sells 255 = .ok (.ldc 28, 2) := by decide +kernel
theorem dL_sells_257 : decode cL_sells 257 = .ok (.if_icmp .ne 7, 3) := by decide +kernel
theorem dL_sells_260 : decode cL_sells 260 = .ok (.iconst 1, 1) := by decide +kernel
theorem dL_sells_261 : decode cL_sells 261 = .ok (.goto 4, 3) := by decide +kernel
theorem dL_sells_264 : decode cL_sells 264 = .ok (.iconst 0, 1) := by decide +kernel
theorem dL_sells_265 : decode cL_sells 265 = .ok (.ireturn, 1) := by decide +kernel
theorem dL_sells_266 : decode cL_sells 266 = .ok (.aload_n 0, 1) := by decide +kernel
theorem dL_sells_267 : decode cL_sells 267 = .ok (.iload 8, 2) := by decide +kernel
theorem dL_sells_269 : decode cL_sells 269 = .ok (.invokestatic 176, 3) := by decide +kernel
theorem dL_sells_272 : decode cL_sells 272 = .ok (.istore 9, 2) := by decide +kernel
theorem dL_sells_274 : decode cL_sells 274 = .ok (.iload 9, 2) := by decide +kernel
theorem dL_sells_276 : decode cL_sells 276 = .ok (.ldc 28, 2) := by decide +kernel
theorem dL_sells_278 : decode cL_sells 278 = .ok (.if_icmp .ne 30, 3) := by decide +kernel
theorem dL_sells_281 : decode cL_sells 281 = .ok (.aload_n 0, 1) := by decide +kernel
theorem dL_sells_282 : decode cL_sells 282 = .ok (.invokevirtual 122, 3) := by decide +kernel
theorem dL_sells_285 : decode cL_sells 285 = .ok (.lload 4, 2) := by decide +kernel
theorem dL_sells_287 : decode cL_sells 287 = .ok (.lcmp, 1) := by decide +kernel
theorem dL_sells_288 : decode cL_sells 288 = .ok (.ifCond .ne 18, 3) := by decide +kernel
theorem dL_sells_291 : decode cL_sells 291 = .ok (.aload_n 0, 1) := by decide +kernel
theorem dL_sells_292 : decode cL_sells 292 = .ok (.iconst 1, 1) := by decide +kernel
theorem dL_sells_293 : decode cL_sells 293 = .ok (.invokestatic 117, 3) := by decide +kernel
theorem dL_sells_296 : decode cL_sells 296 = .ok (.aload_n 1, 1) := by decide +kernel
theorem dL_sells_297 : decode cL_sells 297 = .ok (.iconst 1, 1) := by decide +kernel
theorem dL_sells_298 : decode cL_sells 298 = .ok (.iaload, 1) := by decide +kernel
theorem dL_sells_299 : decode cL_sells 299 = .ok (.if_icmp .ne 7, 3) := by decide +kernel
theorem dL_sells_302 : decode cL_sells 302 = .ok (.iconst 1, 1) := by decide +kernel
theorem dL_sells_303 : decode cL_sells 303 = .ok (.goto 4, 3) := by decide +kernel
theorem dL_sells_306 : decode cL_sells 306 = .ok (.iconst 0, 1) := by decide +kernel
theorem dL_sells_307 : decode cL_sells 307 = .ok (.ireturn, 1) := by decide +kernel
theorem dL_sells_308 : decode cL_sells 308 = .ok (.aload_n 1, 1) := by decide +kernel
theorem dL_sells_309 : decode cL_sells 309 = .ok (.iconst 1, 1) := by decide +kernel
theorem dL_sells_310 : decode cL_sells 310 = .ok (.iconst 0, 1) := by decide +kernel
theorem dL_sells_311 : decode cL_sells 311 = .ok (.iastore, 1) := by decide +kernel
theorem dL_sells_312 : decode cL_sells 312 = .ok (.aload_n 1, 1) := by decide +kernel
theorem dL_sells_313 : decode cL_sells 313 = .ok (.iconst 2, 1) := by decide +kernel
theorem dL_sells_314 : decode cL_sells 314 = .ok (.dup2, 1) := by decide +kernel
theorem dL_sells_315 : decode cL_sells 315 = .ok (.iaload, 1) := by decide +kernel
theorem dL_sells_316 : decode cL_sells 316 = .ok (.iconst 1, 1) := by decide +kernel
theorem dL_sells_317 : decode cL_sells 317 = .ok (.iadd, 1) := by decide +kernel
theorem dL_sells_318 : decode cL_sells 318 = .ok (.iastore, 1) := by decide +kernel
theorem dL_sells_319 : decode cL_sells 319 = .ok (.aload_n 0, 1) := by decide +kernel
theorem dL_sells_320 : decode cL_sells 320 = .ok (.invokevirtual 122, 3) := by decide +kernel
theorem dL_sells_323 : decode cL_sells 323 = .ok (.lload 4, 2) := by decide +kernel
theorem dL_sells_325 : decode cL_sells 325 = .ok (.iload 9, 2) := by decide +kernel
theorem dL_sells_327 : decode cL_sells 327 = .ok (.i2l, 1) := by decide +kernel
theorem dL_sells_328 : decode cL_sells 328 = .ok (.ladd, 1) := by decide +kernel
theorem dL_sells_329 : decode cL_sells 329 = .ok (.lcmp, 1) := by decide +kernel
theorem dL_sells_330 : decode cL_sells 330 = .ok (.ifCond .ne 66, 3) := by decide +kernel
theorem dL_sells_333 : decode cL_sells 333 = .ok (.aload_n 0, 1) := by decide +kernel
theorem dL_sells_334 : decode cL_sells 334 = .ok (.aload_n 1, 1) := by decide +kernel
theorem dL_sells_335 : decode cL_sells 335 = .ok (.iconst 2, 1) := by decide +kernel
theorem dL_sells_336 : decode cL_sells 336 = .ok (.iaload, 1) := by decide +kernel
theorem dL_sells_337 : decode cL_sells 337 = .ok (.iconst 1, 1) := by decide +kernel
theorem dL_sells_338 : decode cL_sells 338 = .ok (.isub, 1) := by decide +kernel
theorem dL_sells_339 : decode cL_sells 339 = .ok (.iconst 0, 1) := by decide +kernel
theorem dL_sells_340 : decode cL_sells 340 = .ok (.invokestatic 141, 3) := by decide +kernel
theorem dL_sells_343 : decode cL_sells 343 = .ok (.iload 6, 2) := by decide +kernel
theorem dL_sells_345 : decode cL_sells 345 = .ok (.if_icmp .ne 51, 3) := by decide +kernel
theorem dL_sells_348 : decode cL_sells 348 = .ok (.aload_n 0, 1) := by decide +kernel
theorem dL_sells_349 : decode cL_sells 349 = .ok (.aload_n 1, 1) := by decide +kernel
theorem dL_sells_350 : decode cL_sells 350 = .ok (.iconst 2, 1) := by decide +kernel
theorem dL_sells_351 : decode cL_sells 351 = .ok (.iaload, 1) := by decide +kernel
theorem dL_sells_352 : decode cL_sells 352 = .ok (.iconst 1, 1) := by decide +kernel
theorem dL_sells_353 : decode cL_sells 353 = .ok (.isub, 1) := by decide +kernel
theorem dL_sells_354 : decode cL_sells 354 = .ok (.iconst 2, 1) := by decide +kernel
theorem dL_sells_355 : decode cL_sells 355 = .ok (.invokestatic 141, 3) := by decide +kernel
theorem dL_sells_358 : decode cL_sells 358 = .ok (.aload_n 0, 1) := by decide +kernel
theorem dL_sells_359 : decode cL_sells 359 = .ok (.iload 8, 2) := by decide +kernel
theorem dL_sells_361 : decode cL_sells 361 = .ok (.iconst 2, 1) := by decide +kernel
theorem dL_sells_362 : decode cL_sells 362 = .ok (.invokestatic 141, 3) := by decide +kernel
theorem dL_sells_365 : decode cL_sells 365 = .ok (.if_icmp .ne 31, 3) := by decide +kernel
theorem dL_sells_368 : decode cL_sells 368 = .ok (.aload_n 0, 1) := by decide +kernel
theorem dL_sells_369 : decode cL_sells 369 = .ok (.aload_n 1, 1) := by decide +kernel
theorem dL_sells_370 : decode cL_sells 370 = .ok (.aload_n 1, 1) := by decide +kernel
theorem dL_sells_371 : decode cL_sells 371 = .ok (.iconst 2, 1) := by decide +kernel
theorem dL_sells_372 : decode cL_sells 372 = .ok (.iaload, 1) := by decide +kernel
theorem dL_sells_373 : decode cL_sells 373 = .ok (.iconst 1, 1) := by decide +kernel
theorem dL_sells_374 : decode cL_sells 374 = .ok (.isub, 1) := by decide +kernel
theorem dL_sells_375 : decode cL_sells 375 = .ok (.invokestatic 170, 3) := by decide +kernel
theorem dL_sells_378 : decode cL_sells 378 = .ok (.ifCond .eq 18, 3) := by decide +kernel
theorem dL_sells_381 : decode cL_sells 381 = .ok (.aload_n 0, 1) := by decide +kernel
theorem dL_sells_382 : decode cL_sells 382 = .ok (.iload 8, 2) := by decide +kernel
theorem dL_sells_384 : decode cL_sells 384 = .ok (.invokestatic 174, 3) := by decide +kernel
theorem dL_sells_387 : decode cL_sells 387 = .ok (.ldc 28, 2) := by decide +kernel
theorem dL_sells_389 : decode cL_sells 389 = .ok (.if_icmp .ne 7, 3) := by decide +kernel
theorem dL_sells_392 : decode cL_sells 392 = .ok (.iconst 1, 1) := by decide +kernel
theorem dL_sells_393 : decode cL_sells 393 = .ok (.goto 4, 3) := by decide +kernel
theorem dL_sells_396 : decode cL_sells 396 = .ok (.iconst 0, 1) := by decide +kernel
theorem dL_sells_397 : decode cL_sells 397 = .ok (.ireturn, 1) := by decide +kernel
theorem dL_flies_0 : decode cL_flies 0 = .ok (.iload_n 2, 1) := by decide +kernel
theorem dL_flies_1 : decode cL_flies 1 = .ok (.aload_n 1, 1) := by decide +kernel
theorem dL_flies_2 : decode cL_flies 2 = .ok (.iconst 2, 1) := by decide +kernel
theorem dL_flies_3 : decode cL_flies 3 = .ok (.iaload, 1) := by decide +kernel
theorem dL_flies_4 : decode cL_flies 4 = .ok (.invokestatic 148, 3) := by decide +kernel
theorem dL_flies_7 : decode cL_flies 7 = .ok (.istore_n 3, 1) := by decide +kernel
theorem dL_flies_8 : decode cL_flies 8 = .ok (.iload_n 2, 1) := by decide +kernel
theorem dL_flies_9 : decode cL_flies 9 = .ok (.iconst 5, 1) := by decide +kernel
theorem dL_flies_10 : decode cL_flies 10 = .ok (.ishr, 1) := by decide +kernel
theorem dL_flies_11 : decode cL_flies 11 = .ok (.aload_n 0, 1) := by decide +kernel
theorem dL_flies_12 : decode cL_flies 12 = .ok (.iload_n 3, 1) := by decide +kernel
theorem dL_flies_13 : decode cL_flies 13 = .ok (.iconst 3, 1) := by decide +kernel
theorem dL_flies_14 : decode cL_flies 14 = .ok (.invokestatic 141, 3) := by decide +kernel
theorem dL_flies_17 : decode cL_flies 17 = .ok (.invokestatic 148, 3) := by decide +kernel
theorem dL_flies_20 : decode cL_flies 20 = .ok (.istore 4, 2) := by decide +kernel
theorem dL_flies_22 : decode cL_flies 22 = .ok (.aload_n 0, 1) := by decide +kernel
theorem dL_flies_23 : decode cL_flies 23 = .ok (.iload_n 3, 1) := by decide +kernel
theorem dL_flies_24 : decode cL_flies 24 = .ok (.iload 4, 2) := by decide +kernel
theorem dL_flies_26 : decode cL_flies 26 = .ok (.iconst 0, 1) := by decide +kernel
theorem dL_flies_27 : decode cL_flies 27 = .ok (.invokestatic 143, 3) := by decide +kernel
theorem dL_flies_30 : decode cL_flies 30 = .ok (.istore 5, 2) := by decide +kernel
theorem dL_flies_32 : decode cL_flies 32 = .ok (.aload_n 0, 1) := by decide +kernel
theorem dL_flies_33 : decode cL_flies 33 = .ok (.iload_n 3, 1) := by decide +kernel
theorem dL_flies_34 : decode cL_flies 34 = .ok (.iload 4, 2) := by decide +kernel
theorem dL_flies_36 : decode cL_flies 36 = .ok (.iconst 3, 1) := by decide +kernel
theorem dL_flies_37 : decode cL_flies 37 = .ok (.invokestatic 143, 3) := by decide +kernel
theorem dL_flies_40 : decode cL_flies 40 = .ok (.istore 6, 2) := by decide +kernel
theorem dL_flies_42 : decode cL_flies 42 = .ok (.iload_n 2, 1) := by decide +kernel
theorem dL_flies_43 : decode cL_flies 43 = .ok (.bipush 9, 2) := by decide +kernel
theorem dL_flies_45 : decode cL_flies 45 = .ok (.ishr, 1) := by decide +kernel
theorem dL_flies_46 : decode cL_flies 46 = .ok (.iconst 4, 1) := by decide +kernel
theorem dL_flies_47 : decode cL_flies 47 = .ok (.invokestatic 148, 3) := by decide +kernel
theorem dL_flies_50 : decode cL_flies 50 = .ok (.ifCond .ne 72, 3) := by decide +kernel
theorem dL_flies_53 : decode cL_flies 53 = .ok (.iload_n 2, 1) := by decide +kernel
theorem dL_flies_54 : decode cL_flies 54 = .ok (.bipush 11, 2) := by decide +kernel
theorem dL_flies_56 : decode cL_flies 56 = .ok (.ishr, 1) := by decide +kernel
theorem dL_flies_57 : decode cL_flies 57 = .ok (.iconst 5, 1) := by decide +kernel
theorem dL_flies_58 : decode cL_flies 58 = .ok (.invokestatic 148, 3) := by decide +kernel
theorem dL_flies_61 : decode cL_flies 61 = .ok (.istore 7, 2) := by decide +kernel
theorem dL_flies_63 : decode cL_flies 63 = .ok (.aload_n 0, 1) := by decide +kernel
theorem dL_flies_64 : decode cL_flies 64 = .ok (.iload_n 3, 1) := by decide +kernel
theorem dL_flies_65 : decode cL_flies 65 = .ok (.iload 4, 2) := by decide +kernel
theorem dL_flies_67 : decode cL_flies 67 = .ok (.iload 7, 2) := by decide +kernel
theorem dL_flies_69 : decode cL_flies 69 = .ok (.invokestatic 178, 3) := by decide +kernel
theorem dL_flies_72 : decode cL_flies 72 = .ok (.istore 8, 2) := by decide +kernel
theorem dL_flies_74 : decode cL_flies 74 = .ok (.iload 8, 2) := by decide +kernel
theorem dL_flies_76 : decode cL_flies 76 = .ok (.iload 5, 2) := by decide +kernel
theorem dL_flies_78 : decode cL_flies 78 = .ok (.ifCond .ne 15, 3) := by decide +kernel
theorem dL_flies_81 : decode cL_flies 81 = .ok (.iload 7, 2) := by decide +kernel
theorem dL_flies_83 : decode cL_flies 83 = .ok (.iload 6, 2) := by decide +kernel
theorem dL_flies_85 : decode cL_flies 85 = .ok (.if_icmp .eq 8, 3) := by decide +kernel
theorem dL_flies_88 : decode cL_flies 88 = .ok (.iload 6, 2) := by decide +kernel
theorem dL_flies_90 : decode cL_flies 90 = .ok (.goto 5, 3) := by decide +kernel
theorem dL_flies_93 : decode cL_flies 93 = .ok (.ldc 28, 2) := by decide +kernel
theorem dL_flies_95 : decode cL_flies 95 = .ok (.if_icmp .ne 25, 3) := by decide +kernel
theorem dL_flies_98 : decode cL_flies 98 = .ok (.iload 8, 2) := by decide +kernel
theorem dL_flies_100 : decode cL_flies 100 = .ok (.ifCond .lt 16, 3) := by decide +kernel
theorem dL_flies_103 : decode cL_flies 103 = .ok (.aload_n 0, 1) := by decide +kernel
theorem dL_flies_104 : decode cL_flies 104 = .ok (.iload_n 3, 1) := by decide +kernel
theorem dL_flies_105 : decode cL_flies 105 = .ok (.iload 4, 2) := by decide +kernel
theorem dL_flies_107 : decode cL_flies 107 = .ok (.iconst 3, 1) := by decide +kernel
theorem dL_flies_108 : decode cL_flies 108 = .ok (.invokestatic 143, 3) := by decide +kernel
theorem dL_flies_111 : decode cL_flies 111 = .ok (.iload 7, 2) := by decide +kernel
theorem dL_flies_113 : decode cL_flies 113 = .ok (.if_icmp .ne 7, 3) := by decide +kernel
theorem dL_flies_116 : decode cL_flies 116 = .ok (.iconst 1, 1) := by decide +kernel
theorem dL_flies_117 : decode cL_flies 117 = .ok (.goto 4, 3) := by decide +kernel
theorem dL_flies_120 : decode cL_flies 120 = .ok (.iconst 0, 1) := by decide +kernel
theorem dL_flies_121 : decode cL_flies 121 = .ok (.ireturn, 1) := by decide +kernel
theorem dL_flies_122 : decode cL_flies 122 = .ok (.aload_n 0, 1) := by decide +kernel
theorem dL_flies_123 : decode cL_flies 123 = .ok (.iload_n 3, 1) := by decide +kernel
theorem dL_flies_124 : decode cL_flies 124 = .ok (.iload 4, 2) := by decide +kernel
theorem dL_flies_126 : decode cL_flies 126 = .ok (.invokestatic 180, 3) := by decide +kernel
theorem dL_flies_129 : decode cL_flies 129 = .ok (.istore 7, 2) := by decide +kernel
theorem dL_flies_131 : decode cL_flies 131 = .ok (.iload 5, 2) := by decide +kernel
theorem dL_flies_133 : decode cL_flies 133 = .ok (.ifCond .ne 17, 3) := by decide +kernel
theorem dL_flies_136 : decode cL_flies 136 = .ok (.aload_n 0, 1) := by decide +kernel
theorem dL_flies_137 : decode cL_flies 137 = .ok (.iload_n 3, 1) := by decide +kernel
theorem dL_flies_138 : decode cL_flies 138 = .ok (.iload 4, 2) := by decide +kernel
theorem dL_flies_140 : decode cL_flies 140 = .ok (.iconst 4, 1) := by decide +kernel
theorem dL_flies_141 : decode cL_flies 141 = .ok (.invokestatic 143, 3) := by decide +kernel
theorem dL_flies_144 : decode cL_flies 144 = .ok (.aload_n 1, 1) := by decide +kernel
theorem dL_flies_145 : decode cL_flies 145 = .ok (.iconst 0, 1) := by decide +kernel
theorem dL_flies_146 : decode cL_flies 146 = .ok (.iaload, 1) := by decide +kernel
theorem dL_flies_147 : decode cL_flies 147 = .ok (.if_icmp .le 16, 3) := by decide +kernel
theorem dL_flies_150 : decode cL_flies 150 = .ok (.iload 7, 2) := by decide +kernel
theorem dL_flies_152 : decode cL_flies 152 = .ok (.ldc 28, 2) := by decide +kernel
theorem dL_flies_154 : decode cL_flies 154 = .ok (.if_icmp .ne 7, 3) := by decide +kernel
theorem dL_flies_157 : decode cL_flies 157 = .ok (.iconst 1, 1) := by decide +kernel
theorem dL_flies_158 : decode cL_flies 158 = .ok (.goto 4, 3) := by decide +kernel
theorem dL_flies_161 : decode cL_flies 161 = .ok (.iconst 0, 1) := by decide +kernel
theorem dL_flies_162 : decode cL_flies 162 = .ok (.ireturn, 1) := by decide +kernel
theorem dL_flies_163 : decode cL_flies 163 = .ok (.iload 6, 2) := by decide +kernel
theorem dL_flies_165 : decode cL_flies 165 = .ok (.aload_n 0, 1) := by decide +kernel
theorem dL_flies_166 : decode cL_flies 166 = .ok (.iload_n 3, 1) := by decide +kernel
theorem dL_flies_167 : decode cL_flies 167 = .ok (.iconst 2, 1) := by decide +kernel
theorem dL_flies_168 : decode cL_flies 168 = .ok (.invokestatic 141, 3) := by decide +kernel
theorem dL_flies_171 : decode cL_flies 171 = .ok (.if_icmp .ne 7, 3) := by decide +kernel
theorem dL_flies_174 : decode cL_flies 174 = .ok (.iconst 1, 1) := by decide +kernel
theorem dL_flies_175 : decode cL_flies 175 = .ok (.goto 4, 3) := by decide +kernel
theorem dL_flies_178 : decode cL_flies 178 = .ok (.iconst 0, 1) := by decide +kernel
theorem dL_flies_179 : decode cL_flies 179 = .ok (.istore 8, 2) := by decide +kernel
theorem dL_flies_181 : decode cL_flies 181 = .ok (.aload_n 1, 1) := by decide +kernel
theorem dL_flies_182 : decode cL_flies 182 = .ok (.iconst 3, 1) := by decide +kernel
theorem dL_flies_183 : decode cL_flies 183 = .ok (.dup2, 1) := by decide +kernel
theorem dL_flies_184 : decode cL_flies 184 = .ok (.iaload, 1) := by decide +kernel
theorem dL_flies_185 : decode cL_flies 185 = .ok (.iload 8, 2) := by decide +kernel
theorem dL_flies_187 : decode cL_flies 187 = .ok (.ifCond .eq 7, 3) := by decide +kernel
theorem dL_flies_190 : decode cL_flies 190 = .ok (.iconst 0, 1) := by decide +kernel
theorem dL_flies_191 : decode cL_flies 191 = .ok (.goto 4, 3) := by decide +kernel
theorem dL_flies_194 : decode cL_flies 194 = .ok (.iconst 1, 1) := by decide +kernel
theorem dL_flies_195 : decode cL_flies 195 = .ok (.iadd, 1) := by decide +kernel
theorem dL_flies_196 : decode cL_flies 196 = .ok (.iastore, 1) := by decide +kernel
theorem dL_flies_197 : decode cL_flies 197 = .ok (.iload 7, 2) := by decide +kernel
theorem dL_flies_199 : decode cL_flies 199 = .ok (.iload 8, 2) := by decide +kernel
theorem dL_flies_201 : decode cL_flies 201 = .ok (.ifCond .eq 7, 3) := by decide +kernel
theorem dL_flies_204 : decode cL_flies 204 = .ok (.iconst (-1), 1) := by decide +kernel
theorem dL_flies_205 : decode cL_flies 205 = .ok (.goto 8, 3) := by decide +kernel
theorem dL_flies_208 : decode cL_flies 208 = .ok (.aload_n 1, 1) := by decide +kernel
theorem dL_flies_209 : decode cL_flies 209 = .ok (.iconst 3, 1) := by decide +kernel
theorem dL_flies_210 : decode cL_flies 210 = .ok (.iaload, 1) := by decide +kernel
theorem dL_flies_211 : decode cL_flies 211 = .ok (.iconst 1, 1) := by decide +kernel
theorem dL_flies_212 : decode cL_flies 212 = .ok (.isub, 1) := by decide +kernel
theorem dL_flies_213 : decode cL_flies 213 = .ok (.if_icmp .ne 53, 3) := by decide +kernel
theorem dL_flies_216 : decode cL_flies 216 = .ok (.aload_n 0, 1) := by decide +kernel
theorem dL_flies_217 : decode cL_flies 217 = .ok (.iload_n 3, 1) := by decide +kernel
theorem dL_flies_218 : decode cL_flies 218 = .ok (.iload 4, 2) := by decide +kernel
theorem dL_flies_220 : decode cL_flies 220 = .ok (.iconst 0, 1) := by decide +kernel
theorem dL_flies_221 : decode cL_flies 221 = .ok (.invokestatic 143, 3) := by decide +kernel
theorem dL_flies_224 : decode cL_flies 224 = .ok (.iconst 1, 1) := by decide +kernel
theorem dL_flies_225 : decode cL_flies 225 = .ok (.if_icmp .ne 41, 3) := by decide +kernel
theorem dL_flies_228 : decode cL_flies 228 = .ok (.aload_n 0, 1) := by decide +kernel
theorem dL_flies_229 : decode cL_flies 229 = .ok (.iload_n 3, 1) := by decide +kernel
theorem dL_flies_230 : decode cL_flies 230 = .ok (.iload 4, 2) := by decide +kernel
theorem dL_flies_232 : decode cL_flies 232 = .ok (.iconst 5, 1) := by decide +kernel
theorem dL_flies_233 : decode cL_flies 233 = .ok (.invokestatic 143, 3) := by decide +kernel
theorem dL_flies_236 : decode cL_flies 236 = .ok (.iload 7, 2) := by decide +kernel
theorem dL_flies_238 : decode cL_flies 238 = .ok (.if_icmp .ne 28, 3) := by decide +kernel
theorem dL_flies_241 : decode cL_flies 241 = .ok (.aload_n 0, 1) := by decide +kernel
theorem dL_flies_242 : decode cL_flies 242 = .ok (.iload_n 3, 1) := by decide +kernel
theorem dL_flies_243 : decode cL_flies 243 = .ok (.iload 4, 2) := by decide +kernel
theorem dL_flies_245 : decode cL_flies 245 = .ok (.invokestatic 180, 3) := by decide +kernel
theorem dL_flies_248 : decode cL_flies 248 = .ok (.ldc 28, 2) := by decide +kernel
theorem dL_flies_250 : decode cL_flies 250 = .ok (.if_icmp .ne 16, 3) := by decide +kernel
theorem dL_flies_253 : decode cL_flies 253 = .ok (.aload_n 0, 1) := by decide +kernel
theorem dL_flies_254 : decode cL_flies 254 = .ok (.aload_n 1, 1) := by decide +kernel
theorem dL_flies_255 : decode cL_flies 255 = .ok (.iload_n 3, 1) := by decide +kernel
theorem dL_flies_256 : decode cL_flies 256 = .ok (.invokestatic 170, 3) := by decide +kernel
theorem dL_flies_259 : decode cL_flies 259 = .ok (.ifCond .eq 7, 3) := by decide +kernel
theorem dL_flies_262 : decode cL_flies 262 = .ok (.iconst 1, 1) := by decide +kernel
theorem dL_flies_263 : decode cL_flies 263 = .ok (.goto 4, 3) := by decide +kernel
theorem dL_flies_266 : decode cL_flies 266 = .ok (.iconst 0, 1) := by decide +kernel
theorem dL_flies_267 : decode cL_flies 267 = .ok (.ireturn, 1) := by decide +kernel
theorem dL_clears_0 : decode cL_clears 0 = .ok (.iload_n 2, 1) := by decide +kernel
theorem dL_clears_1 : decode cL_clears 1 = .ok (.iconst 5, 1) := by decide +kernel
theorem dL_clears_2 : decode cL_clears 2 = .ok (.invokestatic 148, 3) := by decide +kernel
theorem dL_clears_5 : decode cL_clears 5 = .ok (.istore 4, 2) := by decide +kernel
theorem dL_clears_7 : decode cL_clears 7 = .ok (.iload 4, 2) := by decide +kernel
theorem dL_clears_9 : decode cL_clears 9 = .ok (.iconst 2, 1) := by decide +kernel
theorem dL_clears_10 : decode cL_clears 10 = .ok (.if_icmp .ge 25, 3) := by decide +kernel
theorem dL_clears_13 : decode cL_clears 13 = .ok (.aload_n 1, 1) := by decide +kernel
theorem dL_clears_14 : decode cL_clears 14 = .ok (.iconst 4, 1) := by decide +kernel
theorem dL_clears_15 : decode cL_clears 15 = .ok (.dup2, 1) := by decide +kernel
theorem dL_clears_16 : decode cL_clears 16 = .ok (.iaload, 1) := by decide +kernel
theorem dL_clears_17 : decode cL_clears 17 = .ok (.iconst 1, 1) := by decide +kernel
theorem dL_clears_18 : decode cL_clears 18 = .ok (.iadd, 1) := by decide +kernel
theorem dL_clears_19 : decode cL_clears 19 = .ok (.iastore, 1) := by decide +kernel
theorem dL_clears_20 : decode cL_clears 20 = .ok (.aload_n 0, 1) := by decide +kernel
theorem dL_clears_21 : decode cL_clears 21 = .ok (.invokevirtual 182, 3) := by decide +kernel
theorem dL_clears_24 : decode cL_clears 24 = .ok (.lconst 0, 1) := by decide +kernel
theorem dL_clears_25 : decode cL_clears 25 = .ok (.lcmp, 1) := by decide +kernel
theorem dL_clears_26 : decode cL_clears 26 = .ok (.ifCond .lt 7, 3) := by decide +kernel
theorem dL_clears_29 : decode cL_clears 29 = .ok (.iconst 1, 1) := by decide +kernel
theorem dL_clears_30 : decode cL_clears 30 = .ok (.goto 4, 3) := by decide +kernel
theorem dL_clears_33 : decode cL_clears 33 = .ok (.iconst 0, 1) := by decide +kernel
theorem dL_clears_34 : decode cL_clears 34 = .ok (.ireturn, 1) := by decide +kernel
theorem dL_clears_35 : decode cL_clears 35 = .ok (.iload 4, 2) := by decide +kernel
theorem dL_clears_37 : decode cL_clears 37 = .ok (.iconst 2, 1) := by decide +kernel
theorem dL_clears_38 : decode cL_clears 38 = .ok (.if_icmp .ne 115, 3) := by decide +kernel
theorem dL_clears_41 : decode cL_clears 41 = .ok (.iload_n 3, 1) := by decide +kernel
theorem dL_clears_42 : decode cL_clears 42 = .ok (.iconst 5, 1) := by decide +kernel
theorem dL_clears_43 : decode cL_clears 43 = .ok (.invokestatic 148, 3) := by decide +kernel
theorem dL_clears_46 : decode cL_clears 46 = .ok (.istore 5, 2) := by decide +kernel
theorem dL_clears_48 : decode cL_clears 48 = .ok (.iload_n 3, 1) := by decide +kernel
theorem dL_clears_49 : decode cL_clears 49 = .ok (.iconst 3, 1) := by decide +kernel
theorem dL_clears_50 : decode cL_clears 50 = .ok (.ishr, 1) := by decide +kernel
theorem dL_clears_51 : decode cL_clears 51 = .ok (.iconst 3, 1) := by decide +kernel
theorem dL_clears_52 : decode cL_clears 52 = .ok (.invokestatic 148, 3) := by decide +kernel
theorem dL_clears_55 : decode cL_clears 55 = .ok (.ifCond .ne 7, 3) := by decide +kernel
theorem dL_clears_58 : decode cL_clears 58 = .ok (.iconst 1, 1) := by decide +kernel
theorem dL_clears_59 : decode cL_clears 59 = .ok (.goto 4, 3) := by decide +kernel
theorem dL_clears_62 : decode cL_clears 62 = .ok (.iconst 0, 1) := by decide +kernel
theorem dL_clears_63 : decode cL_clears 63 = .ok (.istore 6, 2) := by decide +kernel
theorem dL_clears_65 : decode cL_clears 65 = .ok (.aload_n 0, 1) := by decide +kernel
theorem dL_clears_66 : decode cL_clears 66 = .ok (.iconst 5, 1) := by decide +kernel
theorem dL_clears_67 : decode cL_clears 67 = .ok (.invokestatic 117, 3) := by decide +kernel
theorem dL_clears_70 : decode cL_clears 70 = .ok (.iload 5, 2) := by decide +kernel
theorem dL_clears_72 : decode cL_clears 72 = .ok (.ishr, 1) := by decide +kernel
theorem dL_clears_73 : decode cL_clears 73 = .ok (.iconst 1, 1) := by decide +kernel
theorem dL_clears_74 : decode cL_clears 74 = .ok (.iand, 1) := by decide +kernel
theorem dL_clears_75 : decode cL_clears 75 = .ok (.iconst 1, 1) := by decide +kernel
theorem dL_clears_76 : decode cL_clears 76 = .ok (.if_icmp .ne 7, 3) := by decide +kernel
theorem dL_clears_79 : decode cL_clears 79 = .ok (.iconst 1, 1) := by decide +kernel
theorem dL_clears_80 : decode cL_clears 80 = .ok (.goto 4, 3) := by decide +kernel
theorem dL_clears_83 : decode cL_clears 83 = .ok (.iconst 0, 1) := by decide +kernel
theorem dL_clears_84 : decode cL_clears 84 = .ok (.istore 7, 2) := by decide +kernel
theorem dL_clears_86 : decode cL_clears 86 = .ok (.aload_n 0, 1) := by decide +kernel
theorem dL_clears_87 : decode cL_clears 87 = .ok (.iload 5, 2) := by decide +kernel
theorem dL_clears_89 : decode cL_clears 89 = .ok (.iload 6, 2) := by decide +kernel
theorem dL_clears_91 : decode cL_clears 91 = .ok (.invokestatic 185, 3) := by decide +kernel
theorem dL_clears_94 : decode cL_clears 94 = .ok (.istore 8, 2) := by decide +kernel
theorem dL_clears_96 : decode cL_clears 96 = .ok (.iload 8, 2) := by decide +kernel
theorem dL_clears_98 : decode cL_clears 98 = .ok (.ifCond .lt 53, 3) := by decide +kernel
theorem dL_clears_101 : decode cL_clears 101 = .ok (.iload 8, 2) := by decide +kernel
theorem dL_clears_103 : decode cL_clears 103 = .ok (.aload_n 1, 1) := by decide +kernel
theorem dL_clears_104 : decode cL_clears 104 = .ok (.iconst 3, 1) := by decide +kernel
theorem dL_clears_105 : decode cL_clears 105 = .ok (.iaload, 1) := by decide +kernel
theorem dL_clears_106 : decode cL_clears 106 = .ok (.if_icmp .gt 45, 3) := by decide +kernel
theorem dL_clears_109 : decode cL_clears 109 = .ok (.iload 7, 2) := by decide +kernel
theorem dL_clears_111 : decode cL_clears 111 = .ok (.ifCond .ne 8, 3) := by decide +kernel
theorem dL_clears_114 : decode cL_clears 114 = .ok (.iload 6, 2) := by decide +kernel
theorem dL_clears_116 : decode cL_clears 116 = .ok (.ifCond .ne 8, 3) := by decide +kernel
theorem dL_clears_119 : decode cL_clears 119 = .ok (.iload 8, 2) := by decide +kernel
theorem dL_clears_121 : decode cL_clears 121 = .ok (.ifCond .ne 30, 3) := by decide +kernel
theorem dL_clears_124 : decode cL_clears 124 = .ok (.aload_n 0, 1) := by decide +kernel
theorem dL_clears_125 : decode cL_clears 125 = .ok (.iconst 5, 1) := by decide +kernel
theorem dL_clears_126 : decode cL_clears 126 = .ok (.invokestatic 117, 3) := by decide +kernel
theorem dL_clears_129 : decode cL_clears 129 = .ok (.iload 5, 2) := by decide +kernel
theorem dL_clears_131 : decode cL_clears 131 = .ok (.ishr, 1) := by decide +kernel
theorem dL_clears_132 : decode cL_clears 132 = .ok (.iconst 1, 1) := by decide +kernel
theorem dL_clears_133 : decode cL_clears 133 = .ok (.iand, 1) := by decide +kernel
theorem dL_clears_134 : decode cL_clears 134 = .ok (.iload 6, 2) := by decide +kernel
theorem dL_clears_136 : decode cL_clears 136 = .ok (.ifCond .eq 7, 3) := by decide +kernel
theorem dL_clears_139 : decode cL_clears 139 = .ok (.iconst 1, 1) := by decide +kernel
theorem dL_clears_140 : decode cL_clears 140 = .ok (.goto 4, 3) := by decide +kernel
theorem dL_clears_143 : decode cL_clears 143 = .ok (.iconst 0, 1) := by decide +kernel
theorem dL_clears_144 : decode cL_clears 144 = .ok (.if_icmp .ne 7, 3) := by decide +kernel
theorem dL_clears_147 : decode cL_clears 147 = .ok (.iconst 1, 1) := by decide +kernel
theorem dL_clears_148 : decode cL_clears 148 = .ok (.goto 4, 3) := by decide +kernel
theorem dL_clears_151 : decode cL_clears 151 = .ok (.iconst 0, 1) := by decide +kernel
theorem dL_clears_152 : decode cL_clears 152 = .ok (.ireturn, 1) := by decide +kernel
theorem dL_clears_153 : decode cL_clears 153 = .ok (.aload_n 1, 1) := by decide +kernel
theorem dL_clears_154 : decode cL_clears 154 = .ok (.iconst 3, 1) := by decide +kernel
theorem dL_clears_155 : decode cL_clears 155 = .ok (.iaload, 1) := by decide +kernel
theorem dL_clears_156 : decode cL_clears 156 = .ok (.ifCond .ne 29, 3) := by decide +kernel
theorem dL_clears_159 : decode cL_clears 159 = .ok (.aload_n 0, 1) := by decide +kernel
theorem dL_clears_160 : decode cL_clears 160 = .ok (.iconst 0, 1) := by decide +kernel
theorem dL_clears_161 : decode cL_clears 161 = .ok (.invokestatic 188, 3) := by decide +kernel
theorem dL_clears_164 : decode cL_clears 164 = .ok (.ldc 18, 2) := by decide +kernel
theorem dL_clears_166 : decode cL_clears 166 = .ok (.if_icmp .ne 17, 3) := by decide +kernel
theorem dL_clears_169 : decode cL_clears 169 = .ok (.aload_n 0, 1) := by decide +kernel
theorem dL_clears_170 : decode cL_clears 170 = .ok (.iconst 0, 1) := by decide +kernel
theorem dL_clears_171 : decode cL_clears 171 = .ok (.invokestatic 190, 3) := by decide +kernel
theorem dL_clears_174 : decode cL_clears 174 = .ok (.ldc 18, 2) := by decide +kernel
theorem dL_clears_176 : decode cL_clears 176 = .ok (.if_icmp .ne 7, 3) := by decide +kernel
theorem dL_clears_179 : decode cL_clears 179 = .ok (.iconst 1, 1) := by decide +kernel
theorem dL_clears_180 : decode cL_clears 180 = .ok (.goto 4, 3) := by decide +kernel
theorem dL_clears_183 : decode cL_clears 183 = .ok (.iconst 0, 1) := by decide +kernel
theorem dL_clears_184 : decode cL_clears 184 = .ok (.ireturn, 1) := by decide +kernel
theorem dL_clears_185 : decode cL_clears 185 = .ok (.iload_n 3, 1) := by decide +kernel
theorem dL_clears_186 : decode cL_clears 186 = .ok (.aload_n 1, 1) := by decide +kernel
theorem dL_clears_187 : decode cL_clears 187 = .ok (.iconst 3, 1) := by decide +kernel
theorem dL_clears_188 : decode cL_clears 188 = .ok (.iaload, 1) := by decide +kernel
theorem dL_clears_189 : decode cL_clears 189 = .ok (.invokestatic 148, 3) := by decide +kernel
theorem dL_clears_192 : decode cL_clears 192 = .ok (.istore 5, 2) := by decide +kernel
theorem dL_clears_194 : decode cL_clears 194 = .ok (.aload_n 0, 1) := by decide +kernel
theorem dL_clears_195 : decode cL_clears 195 = .ok (.iload 5, 2) := by decide +kernel
theorem dL_clears_197 : decode cL_clears 197 = .ok (.iconst 0, 1) := by decide +kernel
theorem dL_clears_198 : decode cL_clears 198 = .ok (.invokestatic 146, 3) := by decide +kernel
theorem dL_clears_201 : decode cL_clears 201 = .ok (.istore 6, 2) := by decide +kernel
theorem dL_clears_203 : decode cL_clears 203 = .ok (.iload 4, 2) := by decide +kernel
theorem dL_clears_205 : decode cL_clears 205 = .ok (.iconst 3, 1) := by decide +kernel
theorem dL_clears_206 : decode cL_clears 206 = .ok (.if_icmp .ne 88, 3) := by decide +kernel
theorem dL_clears_209 : decode cL_clears 209 = .ok (.aload_n 0, 1) := by decide +kernel
theorem dL_clears_210 : decode cL_clears 210 = .ok (.iload 5, 2) := by decide +kernel
theorem dL_clears_212 : decode cL_clears 212 = .ok (.invokestatic 188, 3) := by decide +kernel
theorem dL_clears_215 : decode cL_clears 215 = .ok (.istore 7, 2) := by decide +kernel
theorem dL_clears_217 : decode cL_clears 217 = .ok (.iload 6, 2) := by decide +kernel
theorem dL_clears_219 : decode cL_clears 219 = .ok (.iconst 1, 1) := by decide +kernel
theorem dL_clears_220 : decode cL_clears 220 = .ok (.if_icmp .ne 22, 3) := by decide +kernel
theorem dL_clears_223 : decode cL_clears 223 = .ok (.aload_n 0, 1) := by decide +kernel
theorem dL_clears_224 : decode cL_clears 224 = .ok (.iload 5, 2) := by decide +kernel
theorem dL_clears_226 : decode cL_clears 226 = .ok (.iconst 5, 1) := by decide +kernel
theorem dL_clears_227 : decode cL_clears 227 = .ok (.invokestatic 146, 3) := by decide +kernel
theorem dL_clears_230 : decode cL_clears 230 = .ok (.aload_n 1, 1) := by decide +kernel
theorem dL_clears_231 : decode cL_clears 231 = .ok (.iconst 4, 1) := by decide +kernel
theorem dL_clears_232 : decode cL_clears 232 = .ok (.iaload, 1) := by decide +kernel
theorem dL_clears_233 : decode cL_clears 233 = .ok (.iconst 1, 1) := by decide +kernel
theorem dL_clears_234 : decode cL_clears 234 = .ok (.isub, 1) := by decide +kernel
theorem dL_clears_235 : decode cL_clears 235 = .ok (.if_icmp .lt 7, 3) := by decide +kernel
theorem dL_clears_238 : decode cL_clears 238 = .ok (.iconst 1, 1) := by decide +kernel
theorem dL_clears_239 : decode cL_clears 239 = .ok (.goto 4, 3) := by decide +kernel
theorem dL_clears_242 : decode cL_clears 242 = .ok (.iconst 0, 1) := by decide +kernel
theorem dL_clears_243 : decode cL_clears 243 = .ok (.istore 8, 2) := by decide +kernel
theorem dL_clears_245 : decode cL_clears 245 = .ok (.iload 8, 2) := by decide +kernel
theorem dL_clears_247 : decode cL_clears 247 = .ok (.ifCond .eq 34, 3) := by decide +kernel
theorem dL_clears_250 : decode cL_clears 250 = .ok (.iload 7, 2) := by decide +kernel
theorem dL_clears_252 : decode cL_clears 252 = .ok (.aload_n 0, 1) := by decide +kernel
theorem dL_clears_253 : decode cL_clears 253 = .ok (.iload 5, 2) := by decide +kernel
theorem dL_clears_255 : decode cL_clears 255 = .ok (.iconst 4, 1) := by decide +kernel
theorem dL_clears_256 : decode cL_clears 256 = .ok (.invokestatic 146, 3) := by decide +kernel
theorem dL_clears_259 : decode cL_clears 259 = .ok (.if_icmp .ne 18, 3) := by decide +kernel
theorem dL_clears_262 : decode cL_clears 262 = .ok (.aload_n 0, 1) := by decide +kernel
theorem dL_clears_263 : decode cL_clears 263 = .ok (.iload 5, 2) := by decide +kernel
theorem dL_clears_265 : decode cL_clears 265 = .ok (.iconst 0, 1) := by decide +kernel
theorem dL_clears_266 : decode cL_clears 266 = .ok (.invokestatic 146, 3) := by decide +kernel
theorem dL_clears_269 : decode cL_clears 269 = .ok (.iconst 2, 1) := by decide +kernel
theorem dL_clears_270 : decode cL_clears 270 = .ok (.if_icmp .ne 7, 3) := by decide +kernel
theorem dL_clears_273 : decode cL_clears 273 = .ok (.iconst 1, 1) := by decide +kernel
theorem dL_clears_274 : decode cL_clears 274 = .ok (.goto 19, 3) := by decide +kernel
theorem dL_clears_277 : decode cL_clears 277 = .ok (.iconst 0, 1) := by decide +kernel
theorem dL_clears_278 : decode cL_clears 278 = .ok (.goto 15, 3) := by decide +kernel
theorem dL_clears_281 : decode cL_clears 281 = .ok (.iload 7, 2) := by decide +kernel
theorem dL_clears_283 : decode cL_clears 283 = .ok (.ldc 28, 2) := by decide +kernel
theorem dL_clears_285 : decode cL_clears 285 = .ok (.if_icmp .ne 7, 3) := by decide +kernel
theorem dL_clears_288 : decode cL_clears 288 = .ok (.iconst 1, 1) := by decide +kernel
theorem dL_clears_289 : decode cL_clears 289 = .ok (.goto 4, 3) := by decide +kernel
theorem dL_clears_292 : decode cL_clears 292 = .ok (.iconst 0, 1) := by decide +kernel
theorem dL_clears_293 : decode cL_clears 293 = .ok (.ireturn, 1) := by decide +kernel
theorem dL_clears_294 : decode cL_clears 294 = .ok (.aload_n 0, 1) := by decide +kernel
theorem dL_clears_295 : decode cL_clears 295 = .ok (.iload 5, 2) := by decide +kernel
theorem dL_clears_297 : decode cL_clears 297 = .ok (.invokestatic 190, 3) := by decide +kernel
theorem dL_clears_300 : decode cL_clears 300 = .ok (.iload 6, 2) := by decide +kernel
theorem dL_clears_302 : decode cL_clears 302 = .ok (.iconst 3, 1) := by decide +kernel
theorem dL_clears_303 : decode cL_clears 303 = .ok (.if_icmp .ne 7, 3) := by decide +kernel
theorem dL_clears_306 : decode cL_clears 306 = .ok (.iconst 0, 1) := by decide +kernel
theorem dL_clears_307 : decode cL_clears 307 = .ok (.goto 5, 3) := by decide +kernel
theorem dL_clears_310 : decode cL_clears 310 = .ok (.ldc 28, 2) := by decide +kernel
theorem dL_clears_312 : decode cL_clears 312 = .ok (.if_icmp .ne 17, 3) := by decide +kernel
theorem dL_clears_315 : decode cL_clears 315 = .ok (.aload_n 0, 1) := by decide +kernel
theorem dL_clears_316 : decode cL_clears 316 = .ok (.aload_n 1, 1) := by decide +kernel
theorem dL_clears_317 : decode cL_clears 317 = .ok (.iload 5, 2) := by decide +kernel
theorem dL_clears_319 : decode cL_clears 319 = .ok (.invokestatic 192, 3) := by decide +kernel
theorem dL_clears_322 : decode cL_clears 322 = .ok (.ifCond .eq 7, 3) := by decide +kernel
theorem dL_clears_325 : decode cL_clears 325 = .ok (.iconst 1, 1) := by decide +kernel
theorem dL_clears_326 : decode cL_clears 326 = .ok (.goto 4, 3) := by decide +kernel
theorem dL_clears_329 : decode cL_clears 329 = .ok (.iconst 0, 1) := by decide +kernel
theorem dL_clears_330 : decode cL_clears 330 = .ok (.ireturn, 1) := by decide +kernel
theorem dL_acts_0 : decode cL_acts 0 = .ok (.iload_n 3, 1) := by decide +kernel
theorem dL_acts_1 : decode cL_acts 1 = .ok (.bipush 16, 2) := by decide +kernel
theorem dL_acts_3 : decode cL_acts 3 = .ok (.invokestatic 148, 3) := by decide +kernel
theorem dL_acts_6 : decode cL_acts 6 = .ok (.istore 5, 2) := by decide +kernel
theorem dL_acts_8 : decode cL_acts 8 = .ok (.iload 5, 2) := by decide +kernel
theorem dL_acts_10 : decode cL_acts 10 = .ok (.iconst 4, 1) := by decide +kernel
theorem dL_acts_11 : decode cL_acts 11 = .ok (.if_icmp .ge 14, 3) := by decide +kernel
theorem dL_acts_14 : decode cL_acts 14 = .ok (.aload_n 0, 1) := by decide +kernel
theorem dL_acts_15 : decode cL_acts 15 = .ok (.aload_n 1, 1) := by decide +kernel
theorem dL_acts_16 : decode cL_acts 16 = .ok (.iload_n 3, 1) := by decide +kernel
theorem dL_acts_17 : decode cL_acts 17 = .ok (.iconst 4, 1) := by decide +kernel
theorem dL_acts_18 : decode cL_acts 18 = .ok (.ishr, 1) := by decide +kernel
theorem dL_acts_19 : decode cL_acts 19 = .ok (.iload 4, 2) := by decide +kernel
theorem dL_acts_21 : decode cL_acts 21 = .ok (.invokestatic 195, 3) := by decide +kernel
theorem dL_acts_24 : decode cL_acts 24 = .ok (.ireturn, 1) := by decide +kernel
theorem dL_acts_25 : decode cL_acts 25 = .ok (.iload 5, 2) := by decide +kernel
theorem dL_acts_27 : decode cL_acts 27 = .ok (.bipush 8, 2) := by decide +kernel
theorem dL_acts_29 : decode cL_acts 29 = .ok (.if_icmp .ge 15, 3) := by decide +kernel
theorem dL_acts_32 : decode cL_acts 32 = .ok (.aload_n 0, 1) := by decide +kernel
theorem dL_acts_33 : decode cL_acts 33 = .ok (.aload_n 1, 1) := by decide +kernel
theorem dL_acts_34 : decode cL_acts 34 = .ok (.aload_n 2, 1) := by decide +kernel
theorem dL_acts_35 : decode cL_acts 35 = .ok (.iload_n 3, 1) := by decide +kernel
theorem dL_acts_36 : decode cL_acts 36 = .ok (.iconst 4, 1) := by decide +kernel
theorem dL_acts_37 : decode cL_acts 37 = .ok (.ishr, 1) := by decide +kernel
theorem dL_acts_38 : decode cL_acts 38 = .ok (.iload 4, 2) := by decide +kernel
theorem dL_acts_40 : decode cL_acts 40 = .ok (.invokestatic 199, 3) := by decide +kernel
theorem dL_acts_43 : decode cL_acts 43 = .ok (.ireturn, 1) := by decide +kernel
theorem dL_acts_44 : decode cL_acts 44 = .ok (.iload 5, 2) := by decide +kernel
theorem dL_acts_46 : decode cL_acts 46 = .ok (.bipush 10, 2) := by decide +kernel
theorem dL_acts_48 : decode cL_acts 48 = .ok (.if_icmp .ge 30, 3) := by decide +kernel
theorem dL_acts_51 : decode cL_acts 51 = .ok (.aload_n 0, 1) := by decide +kernel
theorem dL_acts_52 : decode cL_acts 52 = .ok (.aload_n 1, 1) := by decide +kernel
theorem dL_acts_53 : decode cL_acts 53 = .ok (.invokestatic 203, 3) := by decide +kernel
theorem dL_acts_56 : decode cL_acts 56 = .ok (.ifCond .eq 20, 3) := by decide +kernel
theorem dL_acts_59 : decode cL_acts 59 = .ok (.aload_n 0, 1) := by decide +kernel
theorem dL_acts_60 : decode cL_acts 60 = .ok (.aload_n 1, 1) := by decide +kernel
theorem dL_acts_61 : decode cL_acts 61 = .ok (.iload_n 3, 1) := by decide +kernel
theorem dL_acts_62 : decode cL_acts 62 = .ok (.iconst 4, 1) := by decide +kernel
theorem dL_acts_63 : decode cL_acts 63 = .ok (.ishr, 1) := by decide +kernel
theorem dL_acts_64 : decode cL_acts 64 = .ok (.iload 4, 2) := by decide +kernel
theorem dL_acts_66 : decode cL_acts 66 = .ok (.invokestatic 207, 3) := by decide +kernel
theorem dL_acts_69 : decode cL_acts 69 = .ok (.ifCond .eq 7, 3) := by decide +kernel
theorem dL_acts_72 : decode cL_acts 72 = .ok (.iconst 1, 1) := by decide +kernel
theorem dL_acts_73 : decode cL_acts 73 = .ok (.goto 4, 3) := by decide +kernel
theorem dL_acts_76 : decode cL_acts 76 = .ok (.iconst 0, 1) := by decide +kernel
theorem dL_acts_77 : decode cL_acts 77 = .ok (.ireturn, 1) := by decide +kernel
theorem dL_acts_78 : decode cL_acts 78 = .ok (.iload 5, 2) := by decide +kernel
theorem dL_acts_80 : decode cL_acts 80 = .ok (.bipush 13, 2) := by decide +kernel
theorem dL_acts_82 : decode cL_acts 82 = .ok (.if_icmp .ge 17, 3) := by decide +kernel
theorem dL_acts_85 : decode cL_acts 85 = .ok (.aload_n 1, 1) := by decide +kernel
theorem dL_acts_86 : decode cL_acts 86 = .ok (.iconst 2, 1) := by decide +kernel
theorem dL_acts_87 : decode cL_acts 87 = .ok (.iaload, 1) := by decide +kernel
theorem dL_acts_88 : decode cL_acts 88 = .ok (.ifCond .le 11, 3) := by decide +kernel
theorem dL_acts_91 : decode cL_acts 91 = .ok (.aload_n 0, 1) := by decide +kernel
theorem dL_acts_92 : decode cL_acts 92 = .ok (.aload_n 1, 1) := by decide +kernel
theorem dL_acts_93 : decode cL_acts 93 = .ok (.iload 4, 2) := by decide +kernel
theorem dL_acts_95 : decode cL_acts 95 = .ok (.invokestatic 210, 3) := by decide +kernel
theorem dL_acts_98 : decode cL_acts 98 = .ok (.ireturn, 1) := by decide +kernel
theorem dL_acts_99 : decode cL_acts 99 = .ok (.iload 5, 2) := by decide +kernel
theorem dL_acts_101 : decode cL_acts 101 = .ok (.bipush 13, 2) := by decide +kernel
theorem dL_acts_103 : decode cL_acts 103 = .ok (.if_icmp .ne 14, 3) := by decide +kernel
theorem dL_acts_106 : decode cL_acts 106 = .ok (.aload_n 0, 1) := by decide +kernel
theorem dL_acts_107 : decode cL_acts 107 = .ok (.aload_n 1, 1) := by decide +kernel
theorem dL_acts_108 : decode cL_acts 108 = .ok (.iload_n 3, 1) := by decide +kernel
theorem dL_acts_109 : decode cL_acts 109 = .ok (.iconst 4, 1) := by decide +kernel
theorem dL_acts_110 : decode cL_acts 110 = .ok (.ishr, 1) := by decide +kernel
theorem dL_acts_111 : decode cL_acts 111 = .ok (.iload 4, 2) := by decide +kernel
theorem dL_acts_113 : decode cL_acts 113 = .ok (.invokestatic 213, 3) := by decide +kernel
theorem dL_acts_116 : decode cL_acts 116 = .ok (.ireturn, 1) := by decide +kernel
theorem dL_acts_117 : decode cL_acts 117 = .ok (.iload 5, 2) := by decide +kernel
theorem dL_acts_119 : decode cL_acts 119 = .ok (.bipush 14, 2) := by decide +kernel
theorem dL_acts_121 : decode cL_acts 121 = .ok (.if_icmp .ne 52, 3) := by decide +kernel
theorem dL_acts_124 : decode cL_acts 124 = .ok (.aload_n 1, 1) := by decide +kernel
theorem dL_acts_125 : decode cL_acts 125 = .ok (.iconst 3, 1) := by decide +kernel
theorem dL_acts_126 : decode cL_acts 126 = .ok (.iaload, 1) := by decide +kernel
theorem dL_acts_127 : decode cL_acts 127 = .ok (.ifCond .le 46, 3) := by decide +kernel
theorem dL_acts_130 : decode cL_acts 130 = .ok (.aload_n 0, 1) := by decide +kernel
theorem dL_acts_131 : decode cL_acts 131 = .ok (.aload_n 1, 1) := by decide +kernel
theorem dL_acts_132 : decode cL_acts 132 = .ok (.iload 4, 2) := by decide +kernel
theorem dL_acts_134 : decode cL_acts 134 = .ok (.aload_n 1, 1) := by decide +kernel
theorem dL_acts_135 : decode cL_acts 135 = .ok (.iconst 3, 1) := by decide +kernel
theorem dL_acts_136 : decode cL_acts 136 = .ok (.iaload, 1) := by decide +kernel
theorem dL_acts_137 : decode cL_acts 137 = .ok (.invokestatic 148, 3) := by decide +kernel
theorem dL_acts_140 : decode cL_acts 140 = .ok (.invokestatic 192, 3) := by decide +kernel
theorem dL_acts_143 : decode cL_acts 143 = .ok (.ifCond .eq 28, 3) := by decide +kernel
theorem dL_acts_146 : decode cL_acts 146 = .ok (.aload_n 0, 1) := by decide +kernel
theorem dL_acts_147 : decode cL_acts 147 = .ok (.aload_n 1, 1) := by decide +kernel
theorem dL_acts_148 : decode cL_acts 148 = .ok (.iconst 2, 1) := by decide +kernel
theorem dL_acts_149 : decode cL_acts 149 = .ok (.iload_n 3, 1) := by decide +kernel
theorem dL_acts_150 : decode cL_acts 150 = .ok (.iconst 4, 1) := by decide +kernel
theorem dL_acts_151 : decode cL_acts 151 = .ok (.ishr, 1) := by decide +kernel
theorem dL_acts_152 : decode cL_acts 152 = .ok (.iconst 3, 1) := by decide +kernel
theorem dL_acts_153 : decode cL_acts 153 = .ok (.invokestatic 148, 3) := by decide +kernel
theorem dL_acts_156 : decode cL_acts 156 = .ok (.iadd, 1) := by decide +kernel
theorem dL_acts_157 : decode cL_acts 157 = .ok (.iload 4, 2) := by decide +kernel
theorem dL_acts_159 : decode cL_acts 159 = .ok (.iconst 4, 1) := by decide +kernel
theorem dL_acts_160 : decode cL_acts 160 = .ok (.ishr, 1) := by decide +kernel
theorem dL_acts_161 : decode cL_acts 161 = .ok (.invokestatic 213, 3) := by decide +kernel
theorem dL_acts_164 : decode cL_acts 164 = .ok (.ifCond .eq 7, 3) := by decide +kernel
theorem dL_acts_167 : decode cL_acts 167 = .ok (.iconst 1, 1) := by decide +kernel
theorem dL_acts_168 : decode cL_acts 168 = .ok (.goto 4, 3) := by decide +kernel
theorem dL_acts_171 : decode cL_acts 171 = .ok (.iconst 0, 1) := by decide +kernel
theorem dL_acts_172 : decode cL_acts 172 = .ok (.ireturn, 1) := by decide +kernel
theorem dL_acts_173 : decode cL_acts 173 = .ok (.iconst 1, 1) := by decide +kernel
theorem dL_acts_174 : decode cL_acts 174 = .ok (.iload 4, 2) := by decide +kernel
theorem dL_acts_176 : decode cL_acts 176 = .ok (.iconst 2, 1) := by decide +kernel
theorem dL_acts_177 : decode cL_acts 177 = .ok (.invokestatic 148, 3) := by decide +kernel
theorem dL_acts_180 : decode cL_acts 180 = .ok (.iadd, 1) := by decide +kernel
theorem dL_acts_181 : decode cL_acts 181 = .ok (.istore 6, 2) := by decide +kernel
theorem dL_acts_183 : decode cL_acts 183 = .ok (.aload_n 1, 1) := by decide +kernel
theorem dL_acts_184 : decode cL_acts 184 = .ok (.iconst 0, 1) := by decide +kernel
theorem dL_acts_185 : decode cL_acts 185 = .ok (.dup2, 1) := by decide +kernel
theorem dL_acts_186 : decode cL_acts 186 = .ok (.iaload, 1) := by decide +kernel
theorem dL_acts_187 : decode cL_acts 187 = .ok (.iload 6, 2) := by decide +kernel
theorem dL_acts_189 : decode cL_acts 189 = .ok (.iadd, 1) := by decide +kernel
theorem dL_acts_190 : decode cL_acts 190 = .ok (.iastore, 1) := by decide +kernel
theorem dL_acts_191 : decode cL_acts 191 = .ok (.aload_n 0, 1) := by decide +kernel
theorem dL_acts_192 : decode cL_acts 192 = .ok (.iload 6, 2) := by decide +kernel
theorem dL_acts_194 : decode cL_acts 194 = .ok (.invokestatic 216, 3) := by decide +kernel
theorem dL_acts_197 : decode cL_acts 197 = .ok (.aload_n 1, 1) := by decide +kernel
theorem dL_acts_198 : decode cL_acts 198 = .ok (.iconst 0, 1) := by decide +kernel
theorem dL_acts_199 : decode cL_acts 199 = .ok (.iaload, 1) := by decide +kernel
theorem dL_acts_200 : decode cL_acts 200 = .ok (.if_icmp .ne 15, 3) := by decide +kernel
theorem dL_acts_203 : decode cL_acts 203 = .ok (.aload_n 0, 1) := by decide +kernel
theorem dL_acts_204 : decode cL_acts 204 = .ok (.aload_n 1, 1) := by decide +kernel
theorem dL_acts_205 : decode cL_acts 205 = .ok (.invokestatic 218, 3) := by decide +kernel
theorem dL_acts_208 : decode cL_acts 208 = .ok (.ifCond .eq 7, 3) := by decide +kernel
theorem dL_acts_211 : decode cL_acts 211 = .ok (.iconst 1, 1) := by decide +kernel
theorem dL_acts_212 : decode cL_acts 212 = .ok (.goto 4, 3) := by decide +kernel
theorem dL_acts_215 : decode cL_acts 215 = .ok (.iconst 0, 1) := by decide +kernel
theorem dL_acts_216 : decode cL_acts 216 = .ok (.ireturn, 1) := by decide +kernel
theorem dL_law_0 : decode cL_law 0 = .ok (.new 11, 3) := by decide +kernel
theorem dL_law_3 : decode cL_law 3 = .ok (.dup, 1) := by decide +kernel
theorem dL_law_4 : decode cL_law 4 = .ok (.invokespecial 221, 3) := by decide +kernel
theorem dL_law_7 : decode cL_law 7 = .ok (.astore_n 1, 1) := by decide +kernel
theorem dL_law_8 : decode cL_law 8 = .ok (.bipush 7, 2) := by decide +kernel
theorem dL_law_10 : decode cL_law 10 = .ok (.newarray .int, 2) := by decide +kernel
theorem dL_law_12 : decode cL_law 12 = .ok (.astore_n 2, 1) := by decide +kernel
theorem dL_law_13 : decode cL_law 13 = .ok (.iconst 2, 1) := by decide +kernel
theorem dL_law_14 : decode cL_law 14 = .ok (.newarray .int, 2) := by decide +kernel
theorem dL_law_16 : decode cL_law 16 = .ok (.astore_n 3, 1) := by decide +kernel
theorem dL_law_17 : decode cL_law 17 = .ok (.aload_n 1, 1) := by decide +kernel
theorem dL_law_18 : decode cL_law 18 = .ok (.aload_n 2, 1) := by decide +kernel
theorem dL_law_19 : decode cL_law 19 = .ok (.invokestatic 218, 3) := by decide +kernel
theorem dL_law_22 : decode cL_law 22 = .ok (.istore 4, 2) := by decide +kernel
theorem dL_law_24 : decode cL_law 24 = .ok (.iconst 0, 1) := by decide +kernel
theorem dL_law_25 : decode cL_law 25 = .ok (.istore 5, 2) := by decide +kernel
theorem dL_law_27 : decode cL_law 27 = .ok (.iload 5, 2) := by decide +kernel
theorem dL_law_29 : decode cL_law 29 = .ok (.bipush 20, 2) := by decide +kernel
theorem dL_law_31 : decode cL_law 31 = .ok (.if_icmp .ge 69, 3) := by decide +kernel
theorem dL_law_34 : decode cL_law 34 = .ok (.iload 4, 2) := by decide +kernel
theorem dL_law_36 : decode cL_law 36 = .ok (.ifCond .eq 64, 3) := by decide +kernel
theorem dL_law_39 : decode cL_law 39 = .ok (.iload 5, 2) := by decide +kernel
theorem dL_law_41 : decode cL_law 41 = .ok (.iconst 5, 1) := by decide +kernel
theorem dL_law_42 : decode cL_law 42 = .ok (.irem, 1) := by decide +kernel
theorem dL_law_43 : decode cL_law 43 = .ok (.istore 6, 2) := by decide +kernel
theorem dL_law_45 : decode cL_law 45 = .ok (.iload 5, 2) := by decide +kernel
theorem dL_law_47 : decode cL_law 47 = .ok (.iconst 5, 1) := by decide +kernel
theorem dL_law_48 : decode cL_law 48 = .ok (.idiv, 1) := by decide +kernel
theorem dL_law_49 : decode cL_law 49 = .ok (.iconst 1, 1) := by decide +kernel
theorem dL_law_50 : decode cL_law 50 = .ok (.iadd, 1) := by decide +kernel
theorem dL_law_51 : decode cL_law 51 = .ok (.iload 6, 2) := by decide +kernel
theorem dL_law_53 : decode cL_law 53 = .ok (.iadd, 1) := by decide +kernel
theorem dL_law_54 : decode cL_law 54 = .ok (.iconst 5, 1) := by decide +kernel
theorem dL_law_55 : decode cL_law 55 = .ok (.irem, 1) := by decide +kernel
theorem dL_law_56 : decode cL_law 56 = .ok (.istore 7, 2) := by decide +kernel
theorem dL_law_58 : decode cL_law 58 = .ok (.iload 6, 2) := by decide +kernel
theorem dL_law_60 : decode cL_law 60 = .ok (.iload 7, 2) := by decide +kernel
theorem dL_law_62 : decode cL_law 62 = .ok (.if_icmp .ge 25, 3) := by decide +kernel
theorem dL_law_65 : decode cL_law 65 = .ok (.aload_n 1, 1) := by decide +kernel
theorem dL_law_66 : decode cL_law 66 = .ok (.iload 6, 2) := by decide +kernel
theorem dL_law_68 : decode cL_law 68 = .ok (.iload 7, 2) := by decide +kernel
theorem dL_law_70 : decode cL_law 70 = .ok (.sipush 250, 3) := by decide +kernel
theorem dL_law_73 : decode cL_law 73 = .ok (.bipush 50, 2) := by decide +kernel
theorem dL_law_75 : decode cL_law 75 = .ok (.iload 5, 2) := by decide +kernel
theorem dL_law_77 : decode cL_law 77 = .ok (.iconst 4, 1) := by decide +kernel
theorem dL_law_78 : decode cL_law 78 = .ok (.irem, 1) := by decide +kernel
theorem dL_law_79 : decode cL_law 79 = .ok (.imul, 1) := by decide +kernel
theorem dL_law_80 : decode cL_law 80 = .ok (.iadd, 1) := by decide +kernel
theorem dL_law_81 : decode cL_law 81 = .ok (.invokestatic 151, 3) := by decide +kernel
theorem dL_law_84 : decode cL_law 84 = .ok (.ifCond .lt 7, 3) := by decide +kernel
theorem dL_law_87 : decode cL_law 87 = .ok (.iconst 1, 1) := by decide +kernel
theorem dL_law_88 : decode cL_law 88 = .ok (.goto 4, 3) := by decide +kernel
theorem dL_law_91 : decode cL_law 91 = .ok (.iconst 0, 1) := by decide +kernel
theorem dL_law_92 : decode cL_law 92 = .ok (.istore 4, 2) := by decide +kernel
theorem dL_law_94 : decode cL_law 94 = .ok (.iinc 5 1, 3) := by decide +kernel
theorem dL_law_97 : decode cL_law 97 = .ok (.goto (-70), 3) := by decide +kernel
theorem dL_law_100 : decode cL_law 100 = .ok (.iconst 0, 1) := by decide +kernel
theorem dL_law_101 : decode cL_law 101 = .ok (.istore 5, 2) := by decide +kernel
theorem dL_law_103 : decode cL_law 103 = .ok (.iload 5, 2) := by decide +kernel
theorem dL_law_105 : decode cL_law 105 = .ok (.bipush 8, 2) := by decide +kernel
theorem dL_law_107 : decode cL_law 107 = .ok (.if_icmp .ge 28, 3) := by decide +kernel
theorem dL_law_110 : decode cL_law 110 = .ok (.iload 4, 2) := by decide +kernel
theorem dL_law_112 : decode cL_law 112 = .ok (.ifCond .eq 23, 3) := by decide +kernel
theorem dL_law_115 : decode cL_law 115 = .ok (.aload_n 1, 1) := by decide +kernel
theorem dL_law_116 : decode cL_law 116 = .ok (.aload_n 2, 1) := by decide +kernel
theorem dL_law_117 : decode cL_law 117 = .ok (.iconst 2, 1) := by decide +kernel
theorem dL_law_118 : decode cL_law 118 = .ok (.aload_n 0, 1) := by decide +kernel
theorem dL_law_119 : decode cL_law 119 = .ok (.iload 5, 2) := by decide +kernel
theorem dL_law_121 : decode cL_law 121 = .ok (.invokestatic 222, 3) := by decide +kernel
theorem dL_law_124 : decode cL_law 124 = .ok (.invokestatic 195, 3) := by decide +kernel
theorem dL_law_127 : decode cL_law 127 = .ok (.istore 4, 2) := by decide +kernel
theorem dL_law_129 : decode cL_law 129 = .ok (.iinc 5 1, 3) := by decide +kernel
theorem dL_law_132 : decode cL_law 132 = .ok (.goto (-29), 3) := by decide +kernel
theorem dL_law_135 : decode cL_law 135 = .ok (.iconst 4, 1) := by decide +kernel
theorem dL_law_136 : decode cL_law 136 = .ok (.istore 5, 2) := by decide +kernel
theorem dL_law_138 : decode cL_law 138 = .ok (.iload 5, 2) := by decide +kernel
theorem dL_law_140 : decode cL_law 140 = .ok (.bipush 60, 2) := by decide +kernel
theorem dL_law_142 : decode cL_law 142 = .ok (.if_icmp .ge 40, 3) := by decide +kernel
theorem dL_law_145 : decode cL_law 145 = .ok (.iload 4, 2) := by decide +kernel
theorem dL_law_147 : decode cL_law 147 = .ok (.ifCond .eq 35, 3) := by decide +kernel
theorem dL_law_150 : decode cL_law 150 = .ok (.aload_n 1, 1) := by decide +kernel
theorem dL_law_151 : decode cL_law 151 = .ok (.aload_n 2, 1) := by decide +kernel
theorem dL_law_152 : decode cL_law 152 = .ok (.aload_n 3, 1) := by decide +kernel
theorem dL_law_153 : decode cL_law 153 = .ok (.aload_n 0, 1) := by decide +kernel
theorem dL_law_154 : decode cL_law 154 = .ok (.iconst 2, 1) := by decide +kernel
theorem dL_law_155 : decode cL_law 155 = .ok (.iload 5, 2) := by decide +kernel
theorem dL_law_157 : decode cL_law 157 = .ok (.imul, 1) := by decide +kernel
theorem dL_law_158 : decode cL_law 158 = .ok (.invokestatic 222, 3) := by decide +kernel
theorem dL_law_161 : decode cL_law 161 = .ok (.aload_n 0, 1) := by decide +kernel
theorem dL_law_162 : decode cL_law 162 = .ok (.iconst 2, 1) := by decide +kernel
theorem dL_law_163 : decode cL_law 163 = .ok (.iload 5, 2) := by decide +kernel
theorem dL_law_165 : decode cL_law 165 = .ok (.imul, 1) := by decide +kernel
theorem dL_law_166 : decode cL_law 166 = .ok (.iconst 1, 1) := by decide +kernel
theorem dL_law_167 : decode cL_law 167 = .ok (.iadd, 1) := by decide +kernel
theorem dL_law_168 : decode cL_law 168 = .ok (.invokestatic 222, 3) := by decide +kernel
theorem dL_law_171 : decode cL_law 171 = .ok (.invokestatic 226, 3) := by decide +kernel
theorem dL_law_174 : decode cL_law 174 = .ok (.istore 4, 2) := by decide +kernel
theorem dL_law_176 : decode cL_law 176 = .ok (.iinc 5 1, 3) := by decide +kernel
theorem dL_law_179 : decode cL_law 179 = .ok (.goto (-41), 3) := by decide +kernel
theorem dL_law_182 : decode cL_law 182 = .ok (.iconst 0, 1) := by decide +kernel
theorem dL_law_183 : decode cL_law 183 = .ok (.istore 5, 2) := by decide +kernel
theorem dL_law_185 : decode cL_law 185 = .ok (.iload 5, 2) := by decide +kernel
theorem dL_law_187 : decode cL_law 187 = .ok (.aload_n 2, 1) := by decide +kernel
theorem dL_law_188 : decode cL_law 188 = .ok (.iconst 2, 1) := by decide +kernel
theorem dL_law_189 : decode cL_law 189 = .ok (.iaload, 1) := by decide +kernel
theorem dL_law_190 : decode cL_law 190 = .ok (.if_icmp .ge 23, 3) := by decide +kernel
theorem dL_law_193 : decode cL_law 193 = .ok (.iload 4, 2) := by decide +kernel
theorem dL_law_195 : decode cL_law 195 = .ok (.ifCond .eq 18, 3) := by decide +kernel
theorem dL_law_198 : decode cL_law 198 = .ok (.aload_n 1, 1) := by decide +kernel
theorem dL_law_199 : decode cL_law 199 = .ok (.aload_n 2, 1) := by decide +kernel
theorem dL_law_200 : decode cL_law 200 = .ok (.iload 5, 2) := by decide +kernel
theorem dL_law_202 : decode cL_law 202 = .ok (.invokestatic 170, 3) := by decide +kernel
theorem dL_law_205 : decode cL_law 205 = .ok (.istore 4, 2) := by decide +kernel
theorem dL_law_207 : decode cL_law 207 = .ok (.iinc 5 1, 3) := by decide +kernel
theorem dL_law_210 : decode cL_law 210 = .ok (.goto (-25), 3) := by decide +kernel
theorem dL_law_213 : decode cL_law 213 = .ok (.iconst 0, 1) := by decide +kernel
theorem dL_law_214 : decode cL_law 214 = .ok (.istore 5, 2) := by decide +kernel
theorem dL_law_216 : decode cL_law 216 = .ok (.iload 5, 2) := by decide +kernel
theorem dL_law_218 : decode cL_law 218 = .ok (.aload_n 2, 1) := by decide +kernel
theorem dL_law_219 : decode cL_law 219 = .ok (.iconst 3, 1) := by decide +kernel
theorem dL_law_220 : decode cL_law 220 = .ok (.iaload, 1) := by decide +kernel
theorem dL_law_221 : decode cL_law 221 = .ok (.if_icmp .ge 23, 3) := by decide +kernel
theorem dL_law_224 : decode cL_law 224 = .ok (.iload 4, 2) := by decide +kernel
theorem dL_law_226 : decode cL_law 226 = .ok (.ifCond .eq 18, 3) := by decide +kernel
theorem dL_law_229 : decode cL_law 229 = .ok (.aload_n 1, 1) := by decide +kernel
theorem dL_law_230 : decode cL_law 230 = .ok (.aload_n 2, 1) := by decide +kernel
theorem dL_law_231 : decode cL_law 231 = .ok (.iload 5, 2) := by decide +kernel
theorem dL_law_233 : decode cL_law 233 = .ok (.invokestatic 192, 3) := by decide +kernel
theorem dL_law_236 : decode cL_law 236 = .ok (.istore 4, 2) := by decide +kernel
theorem dL_law_238 : decode cL_law 238 = .ok (.iinc 5 1, 3) := by decide +kernel
theorem dL_law_241 : decode cL_law 241 = .ok (.goto (-25), 3) := by decide +kernel
theorem dL_law_244 : decode cL_law 244 = .ok (.iload 4, 2) := by decide +kernel
theorem dL_law_246 : decode cL_law 246 = .ok (.ifCond .eq 15, 3) := by decide +kernel
theorem dL_law_249 : decode cL_law 249 = .ok (.aload_n 1, 1) := by decide +kernel
theorem dL_law_250 : decode cL_law 250 = .ok (.aload_n 2, 1) := by decide +kernel
theorem dL_law_251 : decode cL_law 251 = .ok (.invokestatic 218, 3) := by decide +kernel
theorem dL_law_254 : decode cL_law 254 = .ok (.ifCond .eq 7, 3) := by decide +kernel
theorem dL_law_257 : decode cL_law 257 = .ok (.iconst 1, 1) := by decide +kernel
theorem dL_law_258 : decode cL_law 258 = .ok (.goto 4, 3) := by decide +kernel
theorem dL_law_261 : decode cL_law 261 = .ok (.iconst 0, 1) := by decide +kernel
theorem dL_law_262 : decode cL_law 262 = .ok (.ireturn, 1) := by decide +kernel
end
section
/-! abstract heaps: cells by number from 1 on (0: null), what each is, and what it holds -/
abbrev AH : Type := Nat × (Nat → Nat) × (Nat → Nat) × (Nat → Nat → Int32) × (Nat → Nat → Int64) × (Nat → Nat → Nat)
def zN (σ : AH) : Nat := σ.1
def zK (σ : AH) (a : Nat) : Nat := σ.2.1 a
def zL (σ : AH) (a : Nat) : Nat := σ.2.2.1 a
def zI (σ : AH) (a k : Nat) : Int32 := σ.2.2.2.1 a k
def zJ (σ : AH) (a k : Nat) : Int64 := σ.2.2.2.2.1 a k
def zR (σ : AH) (a k : Nat) : Nat := σ.2.2.2.2.2 a k
def uI (σ : AH) (a k : Nat) (x : Int32) : AH := (zN σ, zK σ, zL σ, fun b j => if b = a ∧ j = k then x else zI σ b j, zJ σ, zR σ)
def uJ (σ : AH) (a k : Nat) (x : Int64) : AH := (zN σ, zK σ, zL σ, zI σ, fun b j => if b = a ∧ j = k then x else zJ σ b j, zR σ)
def uR (σ : AH) (a k : Nat) (x : Nat) : AH := (zN σ, zK σ, zL σ, zI σ, zJ σ, fun b j => if b = a ∧ j = k then x else zR σ b j)
def nw (σ : AH) (κ n : Nat) : AH := (zN σ + 1, fun b => if b = zN σ + 1 then κ else zK σ b, fun b => if b = zN σ + 1 then n else zL σ b, fun b j => if b = zN σ + 1 then 0 else zI σ b j, fun b j => if b = zN σ + 1 then 0 else zJ σ b j, fun b j => if b = zN σ + 1 then 0 else zR σ b j)
theorem zN_uI (σ : AH) (a k : Nat) (x : Int32) : zN (uI σ a k x) = zN σ := rfl
theorem zK_uI (σ : AH) (a k : Nat) (x : Int32) (b : Nat) : zK (uI σ a k x) b = zK σ b := rfl
theorem zL_uI (σ : AH) (a k : Nat) (x : Int32) (b : Nat) : zL (uI σ a k x) b = zL σ b := rfl
theorem zI_uI (σ : AH) (a k : Nat) (x : Int32) (b j : Nat) : zI (uI σ a k x) b j = if b = a ∧ j = k then x else zI σ b j := rfl
theorem zJ_uI (σ : AH) (a k : Nat) (x : Int32) (b j : Nat) : zJ (uI σ a k x) b j = zJ σ b j := rfl
theorem zR_uI (σ : AH) (a k : Nat) (x : Int32) (b j : Nat) : zR (uI σ a k x) b j = zR σ b j := rfl
theorem zN_uJ (σ : AH) (a k : Nat) (x : Int64) : zN (uJ σ a k x) = zN σ := rfl
theorem zK_uJ (σ : AH) (a k : Nat) (x : Int64) (b : Nat) : zK (uJ σ a k x) b = zK σ b := rfl
theorem zL_uJ (σ : AH) (a k : Nat) (x : Int64) (b : Nat) : zL (uJ σ a k x) b = zL σ b := rfl
theorem zI_uJ (σ : AH) (a k : Nat) (x : Int64) (b j : Nat) : zI (uJ σ a k x) b j = zI σ b j := rfl
theorem zJ_uJ (σ : AH) (a k : Nat) (x : Int64) (b j : Nat) : zJ (uJ σ a k x) b j = if b = a ∧ j = k then x else zJ σ b j := rfl
theorem zR_uJ (σ : AH) (a k : Nat) (x : Int64) (b j : Nat) : zR (uJ σ a k x) b j = zR σ b j := rfl
theorem zN_uR (σ : AH) (a k x : Nat) : zN (uR σ a k x) = zN σ := rfl
theorem zK_uR (σ : AH) (a k x : Nat) (b : Nat) : zK (uR σ a k x) b = zK σ b := rfl
theorem zL_uR (σ : AH) (a k x : Nat) (b : Nat) : zL (uR σ a k x) b = zL σ b := rfl
theorem zI_uR (σ : AH) (a k x : Nat) (b j : Nat) : zI (uR σ a k x) b j = zI σ b j := rfl
theorem zJ_uR (σ : AH) (a k x : Nat) (b j : Nat) : zJ (uR σ a k x) b j = zJ σ b j := rfl
theorem zR_uR (σ : AH) (a k x : Nat) (b j : Nat) : zR (uR σ a k x) b j = if b = a ∧ j = k then x else zR σ b j := rfl
theorem zN_nw (σ : AH) (κ n : Nat) : zN (nw σ κ n) = zN σ + 1 := rfl
theorem zK_nw (σ : AH) (κ n b : Nat) : zK (nw σ κ n) b = if b = zN σ + 1 then κ else zK σ b := rfl
theorem zL_nw (σ : AH) (κ n b : Nat) : zL (nw σ κ n) b = if b = zN σ + 1 then n else zL σ b := rfl
theorem zI_nw (σ : AH) (κ n b j : Nat) : zI (nw σ κ n) b j = if b = zN σ + 1 then 0 else zI σ b j := rfl
theorem zJ_nw (σ : AH) (κ n b j : Nat) : zJ (nw σ κ n) b j = if b = zN σ + 1 then 0 else zJ σ b j := rfl
theorem zR_nw (σ : AH) (κ n b j : Nat) : zR (nw σ κ n) b j = if b = zN σ + 1 then 0 else zR σ b j := rfl
/-- what an abstract value is on the machine -/
def cv (ρ : Nat → Nat) (v : Value) : Value := match v with
  | .ref a => if a = 0 then .null else .ref (ρ a)
  | v => v
def oref (ρ : Nat → Nat) (a : Nat) : Option Nat := if a = 0 then none else some (ρ a)
theorem cv_int (ρ : Nat → Nat) (x : Int32) : cv ρ (.int x) = .int x := rfl
theorem cv_long (ρ : Nat → Nat) (x : Int64) : cv ρ (.long x) = .long x := rfl
theorem cv_ref {ρ : Nat → Nat} {a : Nat} (h : a ≠ 0) : cv ρ (.ref a) = .ref (ρ a) := by simp [cv, h]
theorem cv_null (ρ : Nat → Nat) : cv ρ (.ref 0) = .null := rfl
theorem cv_rf (ρ : Nat → Nat) (a : Nat) : va_rf (oref ρ a) = cv ρ (.ref a) := by
  by_cases h : a = 0 <;> simp [cv, oref, va_rf, h]
theorem cv_cat (ρ : Nat → Nat) (v : Value) : (cv ρ v).category = v.category := by
  cases v with
  | ref a => by_cases h : a = 0 <;> simp [cv, h, Value.category]
  | _ => rfl
/-- a value's reference lies among n cells -/
def wv (n : Nat) (v : Value) : Prop := match v with
  | .ref a => a ≤ n
  | _ => True
theorem wv_mono {n m : Nat} (h : n ≤ m) {v : Value} (hv : wv n v) : wv m v := by
  cases v with
  | ref a => exact Nat.le_trans hv h
  | _ => trivial
theorem cv_agree {ρ ρ' : Nat → Nat} {n : Nat} (h : ∀ a, 1 ≤ a → a ≤ n → ρ' a = ρ a) {v : Value} (hv : wv n v) : cv ρ' v = cv ρ v := by
  cases v with
  | ref a =>
    by_cases h0 : a = 0
    · simp [cv, h0]
    · simp [cv, h0, h a (Nat.pos_of_ne_zero h0) hv]
  | _ => rfl
/-- the classes' fields: their types and number -/
def fT : Nat → Nat → FieldType := fun ci => match ci with
  | 0 => tyX0 | 1 => tyX1 | 2 => tyX2 | 3 => tyX3 | 4 => tyX4 | 5 => tyX5 | 6 => tyX6 | 7 => tyX7 | 8 => tyX8 | 9 => tyX9 | 10 => tyX10 | _ => tyX11
def fN : Nat → Nat := fun ci => match ci with
  | 0 => 6 | 1 => 5 | 2 => 9 | 3 => 7 | 4 => 2 | 5 => 4 | 6 => 1 | 7 => 2 | 8 => 7 | 9 => 8 | 10 => 5 | _ => 11
def fv (ρ : Nat → Nat) (σ : AH) (a : Nat) (ty : FieldType) (k : Nat) : Value := match ty with
  | .long => .long (zJ σ a k)
  | .object _ => cv ρ (.ref (zR σ a k))
  | .array _ => cv ρ (.ref (zR σ a k))
  | _ => .int (zI σ a k)
def ent (dA : Nat → ClassId) (ρ : Nat → Nat) (σ : AH) (a : Nat) : va_E :=
  if zK σ a < 13 then .inr (zK σ a, (List.range (fN (zK σ a))).map (fun k => fv ρ σ a (fT (zK σ a) k) k))
  else .inl (dA (if zK σ a = 23 then 20 else zK σ a), zL σ a, if zK σ a = 20 ∨ zK σ a = 22 ∨ zK σ a = 23 then .inl (zI σ a) else if zK σ a = 21 then .inr (.inl (zJ σ a)) else .inr (.inr (.inr (.inr (fun j => oref ρ (zR σ a j))))))
def wlp (σ : AH) (k : Nat) : Bool := !Nat.beq (zK σ (k + 1)) 19
theorem wlp_t {σ : AH} {k : Nat} (h : zK σ (k + 1) ≠ 19) : wlp σ k = true := by
  unfold wlp
  cases e : Nat.beq (zK σ (k + 1)) 19 with
  | false => rfl
  | true => exact absurd (Nat.eq_of_beq_eq_true e) h
/-- the cells that are there: all but the holes -/
def wl (dA : Nat → ClassId) (ρ : Nat → Nat) (σ : AH) : va_W := ((List.range (zN σ)).filter (wlp σ)).map (fun k => (ρ (k + 1), ent dA ρ σ (k + 1)))
/-- a cell's place among them -/
def ps (σ : AH) (a : Nat) : Nat := ((List.range (a - 1)).filter (wlp σ)).length
theorem rg_split {a n : Nat} (h0 : a ≠ 0) (h : a ≤ n) : List.range n = List.range (a - 1) ++ (a - 1) :: (List.range (n - a)).map (fun k => a + k) := by
  have e1 : n = (a - 1) + ((n - a) + 1) := by omega
  have e2 : List.range n = List.range (a - 1) ++ (List.range ((n - a) + 1)).map (fun k => (a - 1) + k) := by
    conv => lhs; rw [e1]
    exact List.range_add
  rw [e2, List.range_succ_eq_map, List.map_cons, List.map_map]
  congr 2
  apply List.map_congr_left
  intro k _
  show a - 1 + (k + 1) = a + k
  omega
theorem wl_split (dA : Nat → ClassId) (ρ : Nat → Nat) {σ : AH} {a : Nat} (h0 : a ≠ 0) (hk : zK σ a ≠ 19) (h : a ≤ zN σ) : wl dA ρ σ = ((List.range (a - 1)).filter (wlp σ)).map (fun k => (ρ (k + 1), ent dA ρ σ (k + 1))) ++ (ρ a, ent dA ρ σ a) :: ((((List.range (zN σ - a)).map (fun k => a + k)).filter (wlp σ)).map (fun k => (ρ (k + 1), ent dA ρ σ (k + 1)))) := by
  have e : a - 1 + 1 = a := by omega
  have hp : wlp σ (a - 1) = true := wlp_t (by rw [e]; exact hk)
  unfold wl
  rw [rg_split h0 h, List.filter_append, List.filter_cons_of_pos hp, List.map_append, List.map_cons, e]
theorem wl_get {dA : Nat → ClassId} {ρ : Nat → Nat} {σ : AH} {a : Nat} (h0 : a ≠ 0) (hk : zK σ a ≠ 19) (h : a ≤ zN σ) : (wl dA ρ σ)[ps σ a]? = some (ρ a, ent dA ρ σ a) := by
  rw [wl_split dA ρ h0 hk h, List.getElem?_append_right (by rw [List.length_map]; exact Nat.le_refl _), List.length_map, ps, Nat.sub_self]
  rfl
theorem wl_set {dA : Nat → ClassId} {ρ : Nat → Nat} {σ σ' : AH} {a : Nat} {e : va_E} (h0 : a ≠ 0) (hk : zK σ a ≠ 19) (h : a ≤ zN σ) (hn : zN σ' = zN σ) (hkk : ∀ b, zK σ' b = zK σ b) (hs : ∀ b, b ≠ a → ent dA ρ σ' b = ent dA ρ σ b) (he : ent dA ρ σ' a = e) : (wl dA ρ σ).set (ps σ a) (ρ a, e) = wl dA ρ σ' := by
  have hw : wlp σ' = wlp σ := funext fun k => by unfold wlp; rw [hkk]
  rw [wl_split dA ρ h0 hk h, wl_split dA ρ (σ := σ') h0 (by rw [hkk]; exact hk) (by rw [hn]; exact h), hn, hw, he]
  have hl : ps σ a = (((List.range (a - 1)).filter (wlp σ)).map (fun k => (ρ (k + 1), ent dA ρ σ (k + 1)))).length := by rw [List.length_map]; rfl
  rw [List.set_append_right _ _ (by rw [hl]; exact Nat.le_refl _), hl, Nat.sub_self, List.set_cons_zero]
  congr 1
  · apply List.map_congr_left
    intro k hk1
    have h1 := List.mem_range.mp (List.mem_filter.mp hk1).1
    rw [hs (k + 1) (by omega)]
  · congr 1
    apply List.map_congr_left
    intro k hk1
    obtain ⟨j, -, rfl⟩ := List.mem_map.mp (List.mem_filter.mp hk1).1
    rw [hs (a + j + 1) (by omega)]
def rup (ρ : Nat → Nat) (a q : Nat) : Nat → Nat := fun b => if b = a then q else ρ b
theorem oref_rup {ρ : Nat → Nat} {n q b : Nat} (h : b ≤ n) : oref (rup ρ (n + 1) q) b = oref ρ b := by
  by_cases h0 : b = 0
  · simp [oref, h0]
  · simp [oref, h0, rup, show ¬ b = n + 1 by omega]
theorem cv_rup {ρ : Nat → Nat} {n q b : Nat} (h : b ≤ n) : cv (rup ρ (n + 1) q) (.ref b) = cv ρ (.ref b) := by
  rw [← cv_rf, ← cv_rf, oref_rup h]
theorem ent_nw_old {dA : Nat → ClassId} {ρ : Nat → Nat} {σ : AH} {κ n q a : Nat} (hc : ∀ b j, zR σ b j ≤ zN σ) (ha : a ≤ zN σ) : ent dA (rup ρ (zN σ + 1) q) (nw σ κ n) a = ent dA ρ σ a := by
  have hne : ¬ a = zN σ + 1 := by omega
  have e1 : zK (nw σ κ n) a = zK σ a := by rw [zK_nw, if_neg hne]
  have e2 : zL (nw σ κ n) a = zL σ a := by rw [zL_nw, if_neg hne]
  have e3 : zI (nw σ κ n) a = zI σ a := by funext j; rw [zI_nw, if_neg hne]
  have e4 : zJ (nw σ κ n) a = zJ σ a := by funext j; rw [zJ_nw, if_neg hne]
  have e5 : zR (nw σ κ n) a = zR σ a := by funext j; rw [zR_nw, if_neg hne]
  have e6 : (fun j => oref (rup ρ (zN σ + 1) q) (zR (nw σ κ n) a j)) = fun j => oref ρ (zR σ a j) := by funext j; rw [e5, oref_rup (hc a j)]
  have e7 : ∀ ty k, fv (rup ρ (zN σ + 1) q) (nw σ κ n) a ty k = fv ρ σ a ty k := by
    intro ty k
    cases ty <;> simp only [fv, e3, e4, e5, cv_rup (hc a k)]
  unfold ent
  rw [e1, e2, e3, e4, e6]
  simp only [e7]
theorem wl_push {dA : Nat → ClassId} {ρ : Nat → Nat} {σ : AH} {κ n q : Nat} {e : va_E} (hκ : κ ≠ 19) (hc : ∀ b j, zR σ b j ≤ zN σ) (he : ent dA (rup ρ (zN σ + 1) q) (nw σ κ n) (zN σ + 1) = e) : wl dA ρ σ ++ [(q, e)] = wl dA (rup ρ (zN σ + 1) q) (nw σ κ n) := by
  unfold wl
  have hw : ∀ k, k < zN σ → wlp (nw σ κ n) k = wlp σ k := fun k hk => by unfold wlp; rw [zK_nw, if_neg (by omega)]
  have hp : wlp (nw σ κ n) (zN σ) = true := wlp_t (by rw [zK_nw, if_pos rfl]; exact hκ)
  rw [zN_nw, List.range_succ, List.filter_append, List.map_append, List.filter_cons_of_pos hp]
  have hf : (List.range (zN σ)).filter (wlp (nw σ κ n)) = (List.range (zN σ)).filter (wlp σ) := List.filter_congr fun k hk => hw k (List.mem_range.mp hk)
  rw [hf]
  congr 1
  · apply List.map_congr_left
    intro k hk
    have hk := List.mem_range.mp (List.mem_filter.mp hk).1
    rw [ent_nw_old hc (by omega)]
    simp [rup, show ¬ k = zN σ by omega]
  · show _ = [(rup ρ (zN σ + 1) q (zN σ + 1), ent dA (rup ρ (zN σ + 1) q) (nw σ κ n) (zN σ + 1))]
    rw [he]
    simp [rup]
/-- heaps that differ in holes alone: cells that are there have the same kinds and hold the same -/
theorem wl_gh {dA : Nat → ClassId} {ρ : Nat → Nat} {σ τ : AH} (hn : zN σ ≤ zN τ) (h1 : ∀ a, 1 ≤ a → a ≤ zN σ → zK τ a = zK σ a ∧ (zK σ a ≠ 19 → ent dA ρ τ a = ent dA ρ σ a)) (h2 : ∀ a, zN σ < a → a ≤ zN τ → zK τ a = 19) : wl dA ρ τ = wl dA ρ σ := by
  unfold wl
  have e1 : zN τ = zN σ + (zN τ - zN σ) := by omega
  have e2 : (List.range (zN τ)).filter (wlp τ) = (List.range (zN σ)).filter (wlp σ) := by
    rw [e1, List.range_add, List.filter_append]
    have e3 : ((List.range (zN τ - zN σ)).map (fun x => zN σ + x)).filter (wlp τ) = [] := by
      rw [List.filter_eq_nil_iff]
      intro k hk
      obtain ⟨j, hj, rfl⟩ := List.mem_map.mp hk
      have hj := List.mem_range.mp hj
      unfold wlp
      rw [h2 (zN σ + j + 1) (by omega) (by omega)]
      decide
    rw [e3, List.append_nil]
    exact List.filter_congr fun k hk => by
      have hk := List.mem_range.mp hk
      unfold wlp
      rw [(h1 (k + 1) (by omega) (by omega)).1]
  rw [e2]
  apply List.map_congr_left
  intro k hk
  obtain ⟨hk1, hk2⟩ := List.mem_filter.mp hk
  have hk1 := List.mem_range.mp hk1
  rw [(h1 (k + 1) (by omega) (by omega)).2 (fun q => by unfold wlp at hk2; rw [q] at hk2; exact absurd hk2 (by decide))]
theorem ent_obj {dA : Nat → ClassId} {ρ : Nat → Nat} {σ : AH} {a ci : Nat} (h : zK σ a = ci) (hc : ci < 13) : ent dA ρ σ a = .inr (ci, (List.range (fN ci)).map (fun k => fv ρ σ a (fT ci k) k)) := by
  unfold ent; rw [h, if_pos hc]
theorem ent_ia {dA : Nat → ClassId} {ρ : Nat → Nat} {σ : AH} {a : Nat} (h : zK σ a = 20) : ent dA ρ σ a = .inl (dA 20, zL σ a, .inl (zI σ a)) := by
  unfold ent; rw [h]; rfl
theorem ent_ga {dA : Nat → ClassId} {ρ : Nat → Nat} {σ : AH} {a : Nat} (h : zK σ a = 23) : ent dA ρ σ a = .inl (dA 20, zL σ a, .inl (zI σ a)) := by
  unfold ent; rw [h]; rfl
theorem ent_za {dA : Nat → ClassId} {ρ : Nat → Nat} {σ : AH} {a : Nat} (h : zK σ a = 22) : ent dA ρ σ a = .inl (dA 22, zL σ a, .inl (zI σ a)) := by
  unfold ent; rw [h]; rfl
theorem ent_ja {dA : Nat → ClassId} {ρ : Nat → Nat} {σ : AH} {a : Nat} (h : zK σ a = 21) : ent dA ρ σ a = .inl (dA 21, zL σ a, .inr (.inl (zJ σ a))) := by
  unfold ent; rw [h]; rfl
theorem ent_qa {dA : Nat → ClassId} {ρ : Nat → Nat} {σ : AH} {a κ : Nat} (h : zK σ a = κ) (hk : 30 ≤ κ) : ent dA ρ σ a = .inl (dA κ, zL σ a, .inr (.inr (.inr (.inr (fun j => oref ρ (zR σ a j)))))) := by
  unfold ent
  rw [h, if_neg (show ¬ κ < 13 by omega), if_neg (show ¬ κ = 23 by omega), if_neg (show ¬ (κ = 20 ∨ κ = 22 ∨ κ = 23) by omega), if_neg (show ¬ κ = 21 by omega)]
theorem fv_set {ρ : Nat → Nat} {σ σ' : AH} {a ci k : Nat} {v : Value} (hk : k < fN ci) (hs : ∀ j, j ≠ k → fv ρ σ' a (fT ci j) j = fv ρ σ a (fT ci j) j) (hv : fv ρ σ' a (fT ci k) k = v) : ((List.range (fN ci)).map (fun k => fv ρ σ a (fT ci k) k)).set k v = (List.range (fN ci)).map (fun k => fv ρ σ' a (fT ci k) k) := by
  apply List.ext_getElem?
  intro i
  by_cases hi : i = k
  · subst hi
    rw [List.getElem?_set_self (by simpa using hk)]
    simp [List.getElem?_range hk, hv]
  · rw [List.getElem?_set_ne (Ne.symm hi)]
    by_cases hl : i < fN ci
    · simp [List.getElem?_range hl, hs i hi]
    · rw [List.getElem?_eq_none (by simp; omega), List.getElem?_eq_none (by simp; omega)]
theorem fv_get {ρ : Nat → Nat} {σ : AH} {a ci k : Nat} (hk : k < fN ci) : ((List.range (fN ci)).map (fun k => fv ρ σ a (fT ci k) k))[k]? = some (fv ρ σ a (fT ci k) k) := by
  simp [List.getElem?_range hk]
theorem ent_uI {dA : Nat → ClassId} {ρ : Nat → Nat} {σ : AH} {a k b : Nat} {x : Int32} (h : b ≠ a) : ent dA ρ (uI σ a k x) b = ent dA ρ σ b := by
  have e3 : zI (uI σ a k x) b = zI σ b := by funext j; rw [zI_uI, if_neg (fun q => h q.1)]
  have e7 : ∀ ty j, fv ρ (uI σ a k x) b ty j = fv ρ σ b ty j := by
    intro ty j
    cases ty <;> simp only [fv, e3] <;> rfl
  unfold ent
  simp only [e7]
  rw [e3]
  rfl
theorem ent_uJ {dA : Nat → ClassId} {ρ : Nat → Nat} {σ : AH} {a k b : Nat} {x : Int64} (h : b ≠ a) : ent dA ρ (uJ σ a k x) b = ent dA ρ σ b := by
  have e3 : zJ (uJ σ a k x) b = zJ σ b := by funext j; rw [zJ_uJ, if_neg (fun q => h q.1)]
  have e7 : ∀ ty j, fv ρ (uJ σ a k x) b ty j = fv ρ σ b ty j := by
    intro ty j
    cases ty <;> simp only [fv, e3] <;> rfl
  unfold ent
  simp only [e7]
  rw [e3]
  rfl
theorem ent_uR {dA : Nat → ClassId} {ρ : Nat → Nat} {σ : AH} {a k b : Nat} {x : Nat} (h : b ≠ a) : ent dA ρ (uR σ a k x) b = ent dA ρ σ b := by
  have e3 : zR (uR σ a k x) b = zR σ b := by funext j; rw [zR_uR, if_neg (fun q => h q.1)]
  have e7 : ∀ ty j, fv ρ (uR σ a k x) b ty j = fv ρ σ b ty j := by
    intro ty j
    cases ty <;> simp only [fv, e3] <;> rfl
  unfold ent
  simp only [e7]
  rw [e3]
  rfl
end
section
/-! the run's own things: launch, class numbers, the numbers of array classes, the heap at the law's start -/
abbrev GP : Type := Launch × va_G × (Nat → ClassId) × Heap × (Nat × Nat × (Nat → Int32)) × Option AH
abbrev gB (g : GP) : Nat := g.2.2.2.2.1.1
abbrev gL (g : GP) : Nat := g.2.2.2.2.1.2.1
abbrev gX (g : GP) : Nat → Int32 := g.2.2.2.2.1.2.2
abbrev gG (g : GP) : Option AH := g.2.2.2.2.2
/-- the ghost rows, where they are frozen -/
def FZ (g : GP) (σ : AH) : Prop := ∀ G, gG g = some G → 74 ≤ zN σ ∧ ∀ a, 33 ≤ a → a ≤ 74 → (zK σ a = 19 ∨ zK σ a = 23) ∧ zK σ a = zK G a ∧ zL σ a = zL G a ∧ ∀ j, zI σ a j = zI G a j ∧ zJ σ a j = zJ G a j
abbrev MI : Type := MethodName × ByteArray × Nat × Option FieldType × List (Nat × Nat × Nat × Nat) × Room
def bs (Hb : Heap) : Nat → Prop := fun q => Hb.size ≤ q
def lw_good : List Cond := lw_tbl.filter goodWord
theorem lw_g {w : Cond} (i : Nat) (h : lw_tbl[i]? = some w) (hg : goodWord w = true) : w ∈ lw_good := List.mem_filter.mpr ⟨List.mem_of_getElem? h, hg⟩
theorem lw_goodIn (ws : List Cond) (h : ∀ w ∈ ws, w ∈ lw_good) : GoodIn lw_good ws := fun w hw => ⟨h w hw, good_of_word (List.mem_filter.mp (h w hw)).2⟩
def tysOf (dA : Nat → ClassId) : List (ClassId × FieldType) := [(dA 20, .int), (dA 21, .long), (dA 22, .boolean), (dA 30, .object RX0), (dA 32, .object RX2), (dA 33, .object RX3), (dA 35, .object RX5), (dA 39, .object RX9)]
def lw_nest : List (String × Nat × MethodName × String) := lw_tbl.filterMap fun w => match w with
  | .methodLinkNest a i x h => some (a, i, x, h)
  | _ => none
def lw_str : List (String × Nat × String) := lw_tbl.filterMap fun w => match w with
  | .stringRef a i x => some (a, i, x)
  | _ => none
def lw_decl : List MethodName := lw_tbl.filterMap fun w => match w with
  | .declares x => some x
  | _ => none
def lw_ao : List String := [RX0, RX2, RX3, RX5, RX9]
def lw_ex : List String := ["java/lang/IndexOutOfBoundsException", "java/lang/IllegalArgumentException", "java/lang/IllegalStateException"]
/-- what holds of the machine's tables, and of the heap at the law's start -/
def Amb (g : GP) (U : State) : Prop :=
  va_K g.2.1 vwCl (tysOf g.2.2.1) U ∧ (∀ q ∈ lw_nest, va_Nw (.methodLinkNest q.1 q.2.1 q.2.2.1 q.2.2.2) U) ∧ (∀ C ∈ lw_ao, va_AO C U) ∧ (∀ q ∈ lw_str, ∃ a, vk_R q.1 q.2.1 q.2.2 a U) ∧ (∀ C ∈ lw_ex, va_Nw (.castable C C) U) ∧ (∀ C ∈ lw_ex, ∀ C' ∈ lw_ex, C ≠ C' → va_Nc C C' U) ∧
    vx_Zq Bundle.tN "UNASSIGNED_STACK" Bundle.steD (bs g.2.2.2.1) U g.2.2.2.1 ∧ vx_Zq Bundle.tN "SUPPRESSED_SENTINEL" Bundle.listD (bs g.2.2.2.1) U g.2.2.2.1 ∧ (∀ x ∈ lw_decl, va_Nw (.declares x) U) ∧ va_X (gB g) (gL g) (gX g) U g.2.2.2.1 ∧ gB g < g.2.2.2.1.size ∧ gL g < 1073741824
theorem Amb.warm {g : GP} {s U : State} (hW : s.WarmedH U.vm) (h : Amb g s) : Amb g U := by
  obtain ⟨h1, h2, h3, h4, h5, h6, h7, h8, h9, h10, h11⟩ := h
  exact ⟨va_K.moved hW.alike h1, fun q hq => va_Nw.warmM hW (h2 q hq), fun C hC => va_AO.moved hW.alike (h3 C hC), fun q hq => (h4 q hq).imp fun a ha => vk_R.warm hW ha, fun C hC => va_Nw.warmC hW (h5 C hC), fun C hC C' hC' hn => va_Nc.moved hW.alike (h6 C hC C' hC' hn), vx_Zq.moved hW.alike h7, vx_Zq.moved hW.alike h8, fun x hx => va_Nw.warmD hW (h9 x hx), va_X.moved hW.alike h10, h11⟩
/-- the heap holds the abstract one -/
def Cn (g : GP) (ρ : Nat → Nat) (σ : AH) (H : Heap) : Prop :=
  va_P g.2.1 vwCl (wl g.2.2.1 ρ σ) H ∧ va_D (bs g.2.2.2.1) (wl g.2.2.1 ρ σ) ∧ g.2.2.2.1.size ≤ H.size ∧ (∀ q : Nat, q < g.2.2.2.1.size → H[q]? = g.2.2.2.1[q]?) ∧ (∀ a k, zR σ a k ≤ zN σ) ∧ 1 ≤ zN σ ∧ zK σ 1 = 19 ∧ ρ 1 = gB g ∧ FZ g σ
theorem ne9 {σ : AH} {a κ : Nat} (hK : zK σ a = κ) (hk : κ ≠ 19) : zK σ a ≠ 19 := by rw [hK]; exact hk
/-- what holds all along a call of a method -/
def Cx (g : GP) (μ : MI) (CX : State → Array Value → Prop) (p : Program) (s : State) (m : MethodId) (args : Array Value) (meth : Method) (c : Code) : Prop :=
  p.tables.exec = Jvm.exec ∧ c.code = μ.2.1 ∧ c.maxLocals = μ.2.2.1 ∧ s.vm.findClass μ.1.cls = some m.cls ∧ (∀ w ∈ lw_good, w.before args s = true) ∧ meth.locks = false ∧ meth.sig.returnType = μ.2.2.2.1 ∧ meth.name = μ.1.name ∧ c.exceptionTable.toList = tableOf μ.2.2.2.2.1 ∧ Amb g s ∧ g.2.2.2.1.size ≤ s.heap.size ∧ (∀ q : Nat, q < g.2.2.2.1.size → s.heap[q]? = g.2.2.2.1[q]?) ∧ g.1.stackTraces = false ∧ CX s args
def lcv (ρ : Nat → Nat) (ls : List (Nat × Value)) : List (Nat × Value) := ls.map (fun q => (q.1, cv ρ q.2))
/-- what holds at a point of it -/
def Pt1 (g : GP) (μ : MI) (s : State) (k n : Nat) (ls : List (Nat × Value)) (st : List Value) (σ : AH) (H : Heap) (locs : List Loc) (cells slots : Nat) (ρ ρ0 : Nat → Nat) (n0 : Nat) (lr : Array Slot) : Prop :=
  Cn g ρ σ H ∧ (∀ q ∈ locs, bs g.2.2.2.1 q.base) ∧ cells + k ≤ μ.2.2.2.2.2.cells ∧ slots + n ≤ μ.2.2.2.2.2.slots ∧ s.heap.size ≤ H.size ∧ (∀ a, 1 ≤ a → a ≤ n0 → ρ a = ρ0 a) ∧ n0 ≤ zN σ ∧ lv_has lr μ.2.2.1 (lcv ρ ls) ∧ (∀ q ∈ ls, wv (zN σ) q.2) ∧ ∀ v ∈ st, wv (zN σ) v
abbrev ET : Type := List Frame → Array Value → State → (Nat → Nat) → Nat → State → Prop
/-- from here, with k cells and n slots to spare, the method comes to its end E -/
def V (g : GP) (μ : MI) (E : ET) (CX : State → Array Value → Prop) (k n pc : Nat) (ls : List (Nat × Value)) (st : List Value) (σ : AH) : Prop :=
  ∀ (p : Program) (e : Env) (s : State) (m : MethodId) (args : Array Value) (below : List Frame) (meth : Method) (c : Code), Cx g μ CX p s m args meth c →
    ∀ (H : Heap) (locs : List Loc) (cells slots : Nat) (ρ ρ0 : Nat → Nat) (n0 : Nat) (lr : Array Slot), Pt1 g μ s k n ls st σ H locs cells slots ρ ρ0 n0 lr →
      W p g.1 e μ.2.2.2.2.2 s m args below meth c H locs cells slots (E below args s ρ0 n0) (F0 m pc lr (st.map (cv ρ)))
def Qe (g : GP) (ρ0 : Nat → Nat) (n0 : Nat) (Q : AH → Option Value → Prop) : Array Value → State → Outcome → State → Prop := fun _ st o t =>
  ∃ (ρ : Nat → Nat) (σ : AH) (rv : Option Value), o = .returned (rv.map (cv ρ)) ∧ Q σ rv ∧ Cn g ρ σ t.heap ∧ (∀ a, 1 ≤ a → a ≤ n0 → ρ a = ρ0 a) ∧ n0 ≤ zN σ ∧ (∀ v ∈ rv, wv (zN σ) v) ∧ st.heap.size ≤ t.heap.size
def Xe (g : GP) (ρ0 : Nat → Nat) (n0 : Nat) (X : AH → String → Prop) : String → State → State → Prop := fun E st t =>
  ∃ (ρ : Nat → Nat) (σ : AH), X σ E ∧ Cn g ρ σ t.heap ∧ (∀ a, 1 ≤ a → a ≤ n0 → ρ a = ρ0 a) ∧ n0 ≤ zN σ ∧ st.heap.size ≤ t.heap.size
/-- a method's end: an answer, or an exception -/
def Em (g : GP) (μ : MI) (Q : AH → Option Value → Prop) (X : AH → String → Prop) : ET := fun below args s ρ0 n0 =>
  vx_MQ below (Qe g ρ0 n0 Q) (Xe g ρ0 n0 X) args s μ.2.2.2.2.2.cells μ.2.2.2.2.2.slots (bs g.2.2.2.1)
abbrev CT : State → Array Value → Prop := fun _ _ => True

/-! ===== one instruction that leaves heap and locals ===== -/
section VR
variable {g : GP} {μ : MI} {E : ET} {CX : State → Array Value → Prop} {k n pc : Nat} {ls : List (Nat × Value)} {st : List Value} {σ : AH}
theorem mkS {p : Program} {s : State} {m : MethodId} {args : Array Value} {meth : Method} {c : Code} {H : Heap} {locs : List Loc} {cells slots : Nat} {ρ ρ0 : Nat → Nat} {n0 : Nat} {lr : Array Slot} (C : Cx g μ CX p s m args meth c) (P : Pt1 g μ s k n ls st σ H locs cells slots ρ ρ0 n0 lr) : va_S (bs g.2.2.2.1) s.heap H locs :=
  ⟨P.2.2.2.2.1, fun q _ h2 => by
    have hq : q < g.2.2.2.1.size := Nat.not_le.mp h2
    rw [P.1.2.2.2.1 q hq, C.2.2.2.2.2.2.2.2.2.2.2.1 q hq], P.2.1⟩
theorem V_step {pc' : Nat} {st0 st' : List Value} (hw : (∀ a k, zR σ a k ≤ zN σ) → (∀ q ∈ ls, wv (zN σ) q.2) → (∀ v ∈ st0, wv (zN σ) v) → ∀ v ∈ st', wv (zN σ) v)
    (h : ∀ (p : Program) (e : Env) (s : State) (m : MethodId) (args : Array Value) (below : List Frame) (meth : Method) (c : Code), Cx g μ CX p s m args meth c → ∀ (H : Heap) (locs : List Loc) (cells slots : Nat) (ρ : Nat → Nat) (lr : Array Slot) (Q : State → Prop), Cn g ρ σ H → lv_has lr μ.2.2.1 (lcv ρ ls) → (∀ v ∈ st0, wv (zN σ) v) → cells ≤ μ.2.2.2.2.2.cells ∧ slots ≤ μ.2.2.2.2.2.slots →
      W p g.1 e μ.2.2.2.2.2 s m args below meth c H locs cells slots Q (F0 m pc' lr (st'.map (cv ρ))) → W p g.1 e μ.2.2.2.2.2 s m args below meth c H locs cells slots Q (F0 m pc lr (st0.map (cv ρ))))
    (kk : V g μ E CX k n pc' ls st' σ) : V g μ E CX k n pc ls st0 σ := by
  intro p e s m args below meth c C H locs cells slots ρ ρ0 n0 lr P
  obtain ⟨p1, p2, p3, p4, p5, p6, p7, p8, p9, p10⟩ := P
  exact h p e s m args below meth c C H locs cells slots ρ lr _ p1 p8 p10 ⟨by omega, by omega⟩ (kk p e s m args below meth c C H locs cells slots ρ ρ0 n0 lr ⟨p1, p2, p3, p4, p5, p6, p7, p8, p9, hw p1.2.2.2.2.1 p9 p10⟩)
theorem V_br {tgt nx : Nat} {cond : Prop} {st0 st' : List Value} (hw : (∀ v ∈ st0, wv (zN σ) v) → ∀ v ∈ st', wv (zN σ) v)
    (h : ∀ (p : Program) (e : Env) (s : State) (m : MethodId) (args : Array Value) (below : List Frame) (meth : Method) (c : Code), Cx g μ CX p s m args meth c → ∀ (H : Heap) (locs : List Loc) (cells slots : Nat) (ρ : Nat → Nat) (lr : Array Slot) (Q : State → Prop),
      (cond → W p g.1 e μ.2.2.2.2.2 s m args below meth c H locs cells slots Q (F0 m tgt lr (st'.map (cv ρ)))) → (¬ cond → W p g.1 e μ.2.2.2.2.2 s m args below meth c H locs cells slots Q (F0 m nx lr (st'.map (cv ρ)))) → W p g.1 e μ.2.2.2.2.2 s m args below meth c H locs cells slots Q (F0 m pc lr (st0.map (cv ρ))))
    (kt : cond → V g μ E CX k n tgt ls st' σ) (kf : ¬ cond → V g μ E CX k n nx ls st' σ) : V g μ E CX k n pc ls st0 σ := by
  intro p e s m args below meth c C H locs cells slots ρ ρ0 n0 lr P
  obtain ⟨p1, p2, p3, p4, p5, p6, p7, p8, p9, p10⟩ := P
  exact h p e s m args below meth c C H locs cells slots ρ lr _ (fun q => kt q p e s m args below meth c C H locs cells slots ρ ρ0 n0 lr ⟨p1, p2, p3, p4, p5, p6, p7, p8, p9, hw p10⟩) (fun q => kf q p e s m args below meth c C H locs cells slots ρ ρ0 n0 lr ⟨p1, p2, p3, p4, p5, p6, p7, p8, p9, hw p10⟩)
/-- fewer locals, in another order; more room -/
theorem V_less {ls' : List (Nat × Value)} {k' n' : Nat} (hl : ∀ q ∈ ls', q ∈ ls) (hk : k' ≤ k) (hn : n' ≤ n) (kk : V g μ E CX k' n' pc ls' st σ) : V g μ E CX k n pc ls st σ := by
  intro p e s m args below meth c C H locs cells slots ρ ρ0 n0 lr P
  obtain ⟨p1, p2, p3, p4, p5, p6, p7, p8, p9, p10⟩ := P
  refine kk p e s m args below meth c C H locs cells slots ρ ρ0 n0 lr ⟨p1, p2, by omega, by omega, p5, p6, p7, ⟨p8.1, p8.2.1, fun q hq => ?_⟩, fun q hq => p9 q (hl q hq), p10⟩
  obtain ⟨z, hz, rfl⟩ := List.mem_map.mp hq
  exact p8.2.2 _ (List.mem_map.mpr ⟨z, hl z hz, rfl⟩)
theorem wv_i {N : Nat} {x : Int32} : wv N (.int x) := trivial
theorem wv_l {N : Nat} {x : Int64} : wv N (.long x) := trivial
theorem wv_tail {N : Nat} {v : Value} {st : List Value} (h : ∀ x ∈ v :: st, wv N x) : ∀ x ∈ st, wv N x := fun x hx => h x (List.mem_cons_of_mem _ hx)
theorem wv_hd {N : Nat} {v : Value} {st : List Value} (h : ∀ x ∈ v :: st, wv N x) : wv N v := h v List.mem_cons_self
theorem wv_tail2 {N : Nat} {v w : Value} {st : List Value} (h : ∀ x ∈ v :: w :: st, wv N x) : ∀ x ∈ st, wv N x := wv_tail (wv_tail h)
theorem wv_tail3 {N : Nat} {u v w : Value} {st : List Value} (h : ∀ x ∈ u :: v :: w :: st, wv N x) : ∀ x ∈ st, wv N x := wv_tail (wv_tail (wv_tail h))
theorem wv_cons {N : Nat} {v : Value} {st : List Value} (hv : wv N v) (h : ∀ x ∈ st, wv N x) : ∀ x ∈ v :: st, wv N x := fun x hx => (List.mem_cons.mp hx).elim (fun e => e ▸ hv) (h x)
theorem lcv_get {ρ : Nat → Nat} {lr : Array Slot} {nL i : Nat} {v : Value} {ls : List (Nat × Value)} (h : lv_has lr nL (lcv ρ ls)) (hl : (i, v) ∈ ls) : lr[i]? = some (.val (cv ρ v)) :=
  h.2.2 (i, cv ρ v) (List.mem_map.mpr ⟨(i, v), hl, rfl⟩)
/-- the local i, by its place in the list -/
def lat (i : Nat) : List (Nat × Value) → Option Value
  | [] => none
  | (j, v) :: l => bif Nat.beq i j then some v else lat i l
theorem lat_mem {i : Nat} {v : Value} : ∀ {ls : List (Nat × Value)}, lat i ls = some v → (i, v) ∈ ls
  | [], h => by cases h
  | (j, w) :: l, h => by
    unfold lat at h
    cases hb : Nat.beq i j with
    | true =>
      rw [hb] at h
      have e := Nat.eq_of_beq_eq_true hb
      cases h
      rw [e]; exact List.mem_cons_self
    | false =>
      rw [hb] at h
      exact List.mem_cons_of_mem _ (lat_mem h)
/-- the locals behind a store: kept by their numbers' order -/
def ldrp (i : Nat) (w : Bool) : List (Nat × Value) → List (Nat × Value)
  | [] => []
  | (j, u) :: l => bif Nat.beq j i || ((w && Nat.beq j (i + 1)) || (Nat.beq (j + 1) i && Nat.beq u.category 2)) then ldrp i w l else (j, u) :: ldrp i w l
def lins (i : Nat) (v : Value) : List (Nat × Value) → List (Nat × Value)
  | [] => [(i, v)]
  | (j, u) :: l => bif Nat.ble i j then (i, v) :: (j, u) :: l else (j, u) :: lins i v l
def lset (i : Nat) (v : Value) (ls : List (Nat × Value)) : List (Nat × Value) := lins i v (ldrp i (Nat.beq v.category 2) ls)
theorem lins_mem {i : Nat} {v : Value} {q : Nat × Value} : ∀ {l : List (Nat × Value)}, q ∈ lins i v l → q = (i, v) ∨ q ∈ l
  | [], h => by simp [lins] at h; exact Or.inl h
  | (j, u) :: l, h => by
    unfold lins at h
    cases hb : Nat.ble i j with
    | true => rw [hb] at h; exact List.mem_cons.mp h
    | false =>
      rw [hb] at h
      rcases List.mem_cons.mp h with h | h
      · exact Or.inr (h ▸ List.mem_cons_self)
      · exact (lins_mem h).imp id (List.mem_cons_of_mem _)
theorem ldrp_mem {i : Nat} {w : Bool} {q : Nat × Value} : ∀ {l : List (Nat × Value)}, q ∈ ldrp i w l → q ∈ l ∧ (Nat.beq q.1 i || ((w && Nat.beq q.1 (i + 1)) || (Nat.beq (q.1 + 1) i && Nat.beq q.2.category 2))) = false
  | [], h => by simp [ldrp] at h
  | (j, u) :: l, h => by
    unfold ldrp at h
    cases hb : (Nat.beq j i || ((w && Nat.beq j (i + 1)) || (Nat.beq (j + 1) i && Nat.beq u.category 2))) with
    | true => rw [hb] at h; exact ⟨List.mem_cons_of_mem _ (ldrp_mem h).1, (ldrp_mem h).2⟩
    | false =>
      rw [hb] at h
      rcases List.mem_cons.mp h with h | h
      · subst h; exact ⟨List.mem_cons_self, hb⟩
      · exact ⟨List.mem_cons_of_mem _ (ldrp_mem h).1, (ldrp_mem h).2⟩
theorem lset_mem {i : Nat} {v : Value} {ls : List (Nat × Value)} {q : Nat × Value} (h : q ∈ lset i v ls) : q = (i, v) ∨ q ∈ ls := (lins_mem h).imp id fun h => (ldrp_mem h).1
theorem nbq (a b : Nat) : (a == b) = Nat.beq a b := by
  rw [Bool.eq_iff_iff]; simp [Nat.beq_eq]
theorem lset_has1 {ρ : Nat → Nat} {i nL : Nat} {v : Value} {ls : List (Nat × Value)} {lr : Array Slot} (hc : v.category = 1) (h : lv_has lr nL ((i, cv ρ v) :: (lcv ρ ls).filter (fun q => !(q.1 == i) && !(q.1 + 1 == i && q.2.category == 2)))) : lv_has lr nL (lcv ρ (lset i v ls)) := by
  refine ⟨h.1, h.2.1, fun q hq => h.2.2 q ?_⟩
  obtain ⟨z, hz, rfl⟩ := List.mem_map.mp hq
  rcases lins_mem hz with rfl | hz
  · exact List.mem_cons_self
  · obtain ⟨h1, h2⟩ := ldrp_mem hz
    refine List.mem_cons_of_mem _ (List.mem_filter.mpr ⟨List.mem_map.mpr ⟨z, h1, rfl⟩, ?_⟩)
    simp only [hc, Bool.or_eq_false_iff, Bool.and_eq_false_iff] at h2
    obtain ⟨a1, a2, a3⟩ := h2
    simp only [cv_cat, nbq, Bool.and_eq_true, Bool.not_eq_true', Bool.and_eq_false_iff]
    exact ⟨a1, a3⟩
theorem lset_has2 {ρ : Nat → Nat} {i nL : Nat} {v : Value} {ls : List (Nat × Value)} {lr : Array Slot} (hc : v.category = 2) (h : lv_has lr nL ((i, cv ρ v) :: (lcv ρ ls).filter (fun q => !(q.1 == i) && (!(q.1 == i + 1) && !(q.1 + 1 == i && q.2.category == 2))))) : lv_has lr nL (lcv ρ (lset i v ls)) := by
  refine ⟨h.1, h.2.1, fun q hq => h.2.2 q ?_⟩
  obtain ⟨z, hz, rfl⟩ := List.mem_map.mp hq
  rcases lins_mem hz with rfl | hz
  · exact List.mem_cons_self
  · obtain ⟨h1, h2⟩ := ldrp_mem hz
    refine List.mem_cons_of_mem _ (List.mem_filter.mpr ⟨List.mem_map.mpr ⟨z, h1, rfl⟩, ?_⟩)
    simp only [hc, Bool.or_eq_false_iff, Bool.and_eq_false_iff] at h2
    obtain ⟨a1, a2, a3⟩ := h2
    simp only [cv_cat, nbq, Bool.and_eq_true, Bool.not_eq_true', Bool.and_eq_false_iff]
    refine ⟨a1, ?_, a3⟩
    rcases a2 with a2 | a2
    · exact absurd a2 (by decide)
    · exact a2
theorem lset_wv {N i : Nat} {v : Value} {ls : List (Nat × Value)} (hv : wv N v) (h : ∀ q ∈ ls, wv N q.2) : ∀ q ∈ lset i v ls, wv N q.2 := fun q hq => (lset_mem hq).elim (fun e => by rw [e]; exact hv) (h q)

theorem V_iconst {z : Int} (v : Int32) (hd : decode μ.2.1 pc = .ok (.iconst z, 1)) (hv : Int32.ofInt z = v) (kk : V g μ E CX k n (pc + 1) ls (.int v :: st) σ) : V g μ E CX k n pc ls (st) σ :=
  V_step (fun hcl hl h => wv_cons wv_i h) (fun _ _ _ _ _ _ _ _ C _ _ _ _ ρ lr _ hCn hlr hst _ k => lv_iconst C.1 C.2.1 hd hv k) kk
theorem V_bipush {z : Int} (v : Int32) (hd : decode μ.2.1 pc = .ok (.bipush z, 2)) (hv : (Int8.ofInt z).toInt32 = v) (kk : V g μ E CX k n (pc + 2) ls (.int v :: st) σ) : V g μ E CX k n pc ls (st) σ :=
  V_step (fun hcl hl h => wv_cons wv_i h) (fun _ _ _ _ _ _ _ _ C _ _ _ _ ρ lr _ hCn hlr hst _ k => lv_bipush C.1 C.2.1 hd hv k) kk
theorem V_sipush {z : Int} (v : Int32) (hd : decode μ.2.1 pc = .ok (.sipush z, 3)) (hv : (Int16.ofInt z).toInt32 = v) (kk : V g μ E CX k n (pc + 3) ls (.int v :: st) σ) : V g μ E CX k n pc ls (st) σ :=
  V_step (fun hcl hl h => wv_cons wv_i h) (fun _ _ _ _ _ _ _ _ C _ _ _ _ ρ lr _ hCn hlr hst _ k => lv_sipush C.1 C.2.1 hd hv k) kk
theorem V_lconst {z : Fin 2} (v : Int64) (hd : decode μ.2.1 pc = .ok (.lconst z, 1)) (hv : Int64.ofNat (z : Nat) = v) (kk : V g μ E CX k n (pc + 1) ls (.long v :: st) σ) : V g μ E CX k n pc ls (st) σ :=
  V_step (fun hcl hl h => wv_cons wv_l h) (fun _ _ _ _ _ _ _ _ C _ _ _ _ ρ lr _ hCn hlr hst _ k => lv_lconst C.1 C.2.1 hd hv k) kk
theorem V_null  (hd : decode μ.2.1 pc = .ok (.aconst_null, 1)) (kk : V g μ E CX k n (pc + 1) ls (.ref 0 :: st) σ) : V g μ E CX k n pc ls (st) σ :=
  V_step (fun hcl hl h => wv_cons (Nat.zero_le _) h) (fun _ _ _ _ _ _ _ _ C _ _ _ _ ρ lr _ hCn hlr hst _ k => lv_null C.1 C.2.1 hd k) kk
theorem V_iload_n {q : Fin 4} {x : Int32} (hd : decode μ.2.1 pc = .ok (.iload_n q, 1)) (hl : lat q ls = some (.int x)) (kk : V g μ E CX k n (pc + 1) ls (.int x :: st) σ) : V g μ E CX k n pc ls (st) σ :=
  V_step (fun hcl hl h => wv_cons wv_i h) (fun _ _ _ _ _ _ _ _ C _ _ _ _ ρ lr _ hCn hlr hst _ k => lv_iload_n C.1 C.2.1 hd rfl (lcv_get hlr (lat_mem hl)) k) kk
theorem V_iload {i : Nat} {x : Int32} (hd : decode μ.2.1 pc = .ok (.iload i, 2)) (hl : lat i ls = some (.int x)) (kk : V g μ E CX k n (pc + 2) ls (.int x :: st) σ) : V g μ E CX k n pc ls (st) σ :=
  V_step (fun hcl hl h => wv_cons wv_i h) (fun _ _ _ _ _ _ _ _ C _ _ _ _ ρ lr _ hCn hlr hst _ k => lv_iload C.1 C.2.1 hd (lcv_get hlr (lat_mem hl)) k) kk
theorem V_lload_n {q : Fin 4} {x : Int64} (hd : decode μ.2.1 pc = .ok (.lload_n q, 1)) (hl : lat q ls = some (.long x)) (kk : V g μ E CX k n (pc + 1) ls (.long x :: st) σ) : V g μ E CX k n pc ls (st) σ :=
  V_step (fun hcl hl h => wv_cons wv_l h) (fun _ _ _ _ _ _ _ _ C _ _ _ _ ρ lr _ hCn hlr hst _ k => lv_lload_n C.1 C.2.1 hd rfl (lcv_get hlr (lat_mem hl)) k) kk
theorem V_lload {i : Nat} {x : Int64} (hd : decode μ.2.1 pc = .ok (.lload i, 2)) (hl : lat i ls = some (.long x)) (kk : V g μ E CX k n (pc + 2) ls (.long x :: st) σ) : V g μ E CX k n pc ls (st) σ :=
  V_step (fun hcl hl h => wv_cons wv_l h) (fun _ _ _ _ _ _ _ _ C _ _ _ _ ρ lr _ hCn hlr hst _ k => lv_lload C.1 C.2.1 hd (lcv_get hlr (lat_mem hl)) k) kk
theorem V_iadd {x y : Int32} (hd : decode μ.2.1 pc = .ok (.iadd, 1)) (kk : V g μ E CX k n (pc + 1) ls (.int (x + y) :: st) σ) : V g μ E CX k n pc ls (.int y :: .int x :: st) σ :=
  V_step (fun hcl hl h => wv_cons wv_i (wv_tail2 h)) (fun _ _ _ _ _ _ _ _ C _ _ _ _ ρ lr _ hCn hlr hst _ k => lv_iadd C.1 C.2.1 hd k) kk
theorem V_isub {x y : Int32} (hd : decode μ.2.1 pc = .ok (.isub, 1)) (kk : V g μ E CX k n (pc + 1) ls (.int (x - y) :: st) σ) : V g μ E CX k n pc ls (.int y :: .int x :: st) σ :=
  V_step (fun hcl hl h => wv_cons wv_i (wv_tail2 h)) (fun _ _ _ _ _ _ _ _ C _ _ _ _ ρ lr _ hCn hlr hst _ k => lv_isub C.1 C.2.1 hd k) kk
theorem V_imul {x y : Int32} (hd : decode μ.2.1 pc = .ok (.imul, 1)) (kk : V g μ E CX k n (pc + 1) ls (.int (x * y) :: st) σ) : V g μ E CX k n pc ls (.int y :: .int x :: st) σ :=
  V_step (fun hcl hl h => wv_cons wv_i (wv_tail2 h)) (fun _ _ _ _ _ _ _ _ C _ _ _ _ ρ lr _ hCn hlr hst _ k => lv_imul C.1 C.2.1 hd k) kk
theorem V_iand {x y : Int32} (hd : decode μ.2.1 pc = .ok (.iand, 1)) (kk : V g μ E CX k n (pc + 1) ls (.int (x &&& y) :: st) σ) : V g μ E CX k n pc ls (.int y :: .int x :: st) σ :=
  V_step (fun hcl hl h => wv_cons wv_i (wv_tail2 h)) (fun _ _ _ _ _ _ _ _ C _ _ _ _ ρ lr _ hCn hlr hst _ k => lv_iand C.1 C.2.1 hd k) kk
theorem V_ior {x y : Int32} (hd : decode μ.2.1 pc = .ok (.ior, 1)) (kk : V g μ E CX k n (pc + 1) ls (.int (x ||| y) :: st) σ) : V g μ E CX k n pc ls (.int y :: .int x :: st) σ :=
  V_step (fun hcl hl h => wv_cons wv_i (wv_tail2 h)) (fun _ _ _ _ _ _ _ _ C _ _ _ _ ρ lr _ hCn hlr hst _ k => lv_ior C.1 C.2.1 hd k) kk
theorem V_ixor {x y : Int32} (hd : decode μ.2.1 pc = .ok (.ixor, 1)) (kk : V g μ E CX k n (pc + 1) ls (.int (x ^^^ y) :: st) σ) : V g μ E CX k n pc ls (.int y :: .int x :: st) σ :=
  V_step (fun hcl hl h => wv_cons wv_i (wv_tail2 h)) (fun _ _ _ _ _ _ _ _ C _ _ _ _ ρ lr _ hCn hlr hst _ k => lv_ixor C.1 C.2.1 hd k) kk
theorem V_ishl {x y : Int32} (hd : decode μ.2.1 pc = .ok (.ishl, 1)) (kk : V g μ E CX k n (pc + 1) ls (.int (x <<< (y &&& 31)) :: st) σ) : V g μ E CX k n pc ls (.int y :: .int x :: st) σ :=
  V_step (fun hcl hl h => wv_cons wv_i (wv_tail2 h)) (fun _ _ _ _ _ _ _ _ C _ _ _ _ ρ lr _ hCn hlr hst _ k => lv_ishl C.1 C.2.1 hd k) kk
theorem V_ishr {x y : Int32} (hd : decode μ.2.1 pc = .ok (.ishr, 1)) (kk : V g μ E CX k n (pc + 1) ls (.int (x >>> (y &&& 31)) :: st) σ) : V g μ E CX k n pc ls (.int y :: .int x :: st) σ :=
  V_step (fun hcl hl h => wv_cons wv_i (wv_tail2 h)) (fun _ _ _ _ _ _ _ _ C _ _ _ _ ρ lr _ hCn hlr hst _ k => lv_ishr C.1 C.2.1 hd k) kk
theorem V_ladd {x y : Int64} (hd : decode μ.2.1 pc = .ok (.ladd, 1)) (kk : V g μ E CX k n (pc + 1) ls (.long (x + y) :: st) σ) : V g μ E CX k n pc ls (.long y :: .long x :: st) σ :=
  V_step (fun hcl hl h => wv_cons wv_l (wv_tail2 h)) (fun _ _ _ _ _ _ _ _ C _ _ _ _ ρ lr _ hCn hlr hst _ k => lv_ladd C.1 C.2.1 hd k) kk
theorem V_lsub {x y : Int64} (hd : decode μ.2.1 pc = .ok (.lsub, 1)) (kk : V g μ E CX k n (pc + 1) ls (.long (x - y) :: st) σ) : V g μ E CX k n pc ls (.long y :: .long x :: st) σ :=
  V_step (fun hcl hl h => wv_cons wv_l (wv_tail2 h)) (fun _ _ _ _ _ _ _ _ C _ _ _ _ ρ lr _ hCn hlr hst _ k => lv_lsub C.1 C.2.1 hd k) kk
theorem V_lmul {x y : Int64} (hd : decode μ.2.1 pc = .ok (.lmul, 1)) (kk : V g μ E CX k n (pc + 1) ls (.long (x * y) :: st) σ) : V g μ E CX k n pc ls (.long y :: .long x :: st) σ :=
  V_step (fun hcl hl h => wv_cons wv_l (wv_tail2 h)) (fun _ _ _ _ _ _ _ _ C _ _ _ _ ρ lr _ hCn hlr hst _ k => lv_lmul C.1 C.2.1 hd k) kk
theorem V_idiv {x y : Int32} (hd : decode μ.2.1 pc = .ok (.idiv, 1)) (hne : ¬ y = 0) (kk : V g μ E CX k n (pc + 1) ls (.int (x / y) :: st) σ) : V g μ E CX k n pc ls (.int y :: .int x :: st) σ :=
  V_step (fun hcl hl h => wv_cons wv_i (wv_tail2 h)) (fun _ _ _ _ _ _ _ _ C _ _ _ _ ρ lr _ hCn hlr hst _ k => lv_idiv C.1 C.2.1 hd hne k) kk
theorem V_irem {x y : Int32} (hd : decode μ.2.1 pc = .ok (.irem, 1)) (hne : ¬ y = 0) (kk : V g μ E CX k n (pc + 1) ls (.int (x - x / y * y) :: st) σ) : V g μ E CX k n pc ls (.int y :: .int x :: st) σ :=
  V_step (fun hcl hl h => wv_cons wv_i (wv_tail2 h)) (fun _ _ _ _ _ _ _ _ C _ _ _ _ ρ lr _ hCn hlr hst _ k => lv_irem C.1 C.2.1 hd hne k) kk
theorem V_ldiv {x y : Int64} (hd : decode μ.2.1 pc = .ok (.ldiv, 1)) (hne : ¬ y = 0) (kk : V g μ E CX k n (pc + 1) ls (.long (x / y) :: st) σ) : V g μ E CX k n pc ls (.long y :: .long x :: st) σ :=
  V_step (fun hcl hl h => wv_cons wv_l (wv_tail2 h)) (fun _ _ _ _ _ _ _ _ C _ _ _ _ ρ lr _ hCn hlr hst _ k => lv_ldiv C.1 C.2.1 hd hne k) kk
theorem V_ineg {x : Int32} (hd : decode μ.2.1 pc = .ok (.ineg, 1)) (kk : V g μ E CX k n (pc + 1) ls (.int (-x) :: st) σ) : V g μ E CX k n pc ls (.int x :: st) σ :=
  V_step (fun hcl hl h => wv_cons wv_i (wv_tail h)) (fun _ _ _ _ _ _ _ _ C _ _ _ _ ρ lr _ hCn hlr hst _ k => lv_ineg C.1 C.2.1 hd k) kk
theorem V_i2l {x : Int32} (hd : decode μ.2.1 pc = .ok (.i2l, 1)) (kk : V g μ E CX k n (pc + 1) ls (.long x.toInt64 :: st) σ) : V g μ E CX k n pc ls (.int x :: st) σ :=
  V_step (fun hcl hl h => wv_cons wv_l (wv_tail h)) (fun _ _ _ _ _ _ _ _ C _ _ _ _ ρ lr _ hCn hlr hst _ k => lv_i2l C.1 C.2.1 hd rfl k) kk
theorem V_l2i {x : Int64} (hd : decode μ.2.1 pc = .ok (.l2i, 1)) (kk : V g μ E CX k n (pc + 1) ls (.int x.toInt32 :: st) σ) : V g μ E CX k n pc ls (.long x :: st) σ :=
  V_step (fun hcl hl h => wv_cons wv_i (wv_tail h)) (fun _ _ _ _ _ _ _ _ C _ _ _ _ ρ lr _ hCn hlr hst _ k => lv_l2i C.1 C.2.1 hd rfl k) kk
theorem V_lcmp {x y : Int64} (hd : decode μ.2.1 pc = .ok (.lcmp, 1)) (kk : V g μ E CX k n (pc + 1) ls (.int (lg_cmp x y) :: st) σ) : V g μ E CX k n pc ls (.long y :: .long x :: st) σ :=
  V_step (fun hcl hl h => wv_cons wv_i (wv_tail2 h)) (fun _ _ _ _ _ _ _ _ C _ _ _ _ ρ lr _ hCn hlr hst _ k => W.lcmp C.1 C.2.1 hd k) kk
theorem V_dup {v : Value} (hd : decode μ.2.1 pc = .ok (.dup, 1)) (hc : v.category = 1) (kk : V g μ E CX k n (pc + 1) ls (v :: v :: st) σ) : V g μ E CX k n pc ls (v :: st) σ :=
  V_step (fun hcl hl h => wv_cons (wv_hd h) h) (fun _ _ _ _ _ _ _ _ C _ _ _ _ ρ lr _ hCn hlr hst _ k => lv_dup C.1 C.2.1 hd (by rw [cv_cat]; exact hc) k) kk
theorem V_pop {v : Value} (hd : decode μ.2.1 pc = .ok (.pop, 1)) (hc : v.category = 1) (kk : V g μ E CX k n (pc + 1) ls (st) σ) : V g μ E CX k n pc ls (v :: st) σ :=
  V_step (fun hcl hl h => wv_tail h) (fun _ _ _ _ _ _ _ _ C _ _ _ _ ρ lr _ hCn hlr hst _ k => lv_pop C.1 C.2.1 hd (by rw [cv_cat]; exact hc) k) kk
theorem V_dup2 {v w : Value} (hd : decode μ.2.1 pc = .ok (.dup2, 1)) (hc : v.category = 1) (hd2 : w.category = 1) (kk : V g μ E CX k n (pc + 1) ls (v :: w :: v :: w :: st) σ) : V g μ E CX k n pc ls (v :: w :: st) σ :=
  V_step (fun hcl hl h => wv_cons (wv_hd h) (wv_cons (wv_hd (wv_tail h)) h)) (fun _ _ _ _ _ _ _ _ C _ _ _ _ ρ lr _ hCn hlr hst _ k => lv_dup2_11 C.1 C.2.1 hd (by rw [cv_cat]; exact hc) (by rw [cv_cat]; exact hd2) k) kk
theorem V_goto {off : Int} (tgt : Nat) (hd : decode μ.2.1 pc = .ok (.goto off, 3)) (ht : (pc : Int) + off = (tgt : Int)) (kk : V g μ E CX k n tgt ls st σ) : V g μ E CX k n pc ls st σ :=
  V_step (fun _ _ h => h) (fun _ _ _ _ _ _ _ _ C _ _ _ _ _ _ _ _ _ _ _ k => lv_goto C.1 C.2.1 hd ht k) kk
theorem V_if_eq {x : Int32} {off : Int} (tgt : Nat) (hd : decode μ.2.1 pc = .ok (.ifCond .eq off, 3)) (ht : (pc : Int) + off = (tgt : Int)) (kt : x = 0 → V g μ E CX k n tgt ls st σ) (kf : ¬ x = 0 → V g μ E CX k n (pc + 3) ls st σ) : V g μ E CX k n pc ls (.int x :: st) σ :=
  V_br (fun h => wv_tail h) (fun _ _ _ _ _ _ _ _ C _ _ _ _ _ _ _ k1 k2 => lv_if_eq C.1 C.2.1 hd ht k1 k2) kt kf
theorem V_if_ne {x : Int32} {off : Int} (tgt : Nat) (hd : decode μ.2.1 pc = .ok (.ifCond .ne off, 3)) (ht : (pc : Int) + off = (tgt : Int)) (kt : ¬ x = 0 → V g μ E CX k n tgt ls st σ) (kf : x = 0 → V g μ E CX k n (pc + 3) ls st σ) : V g μ E CX k n pc ls (.int x :: st) σ :=
  V_br (fun h => wv_tail h) (fun _ _ _ _ _ _ _ _ C _ _ _ _ _ _ _ k1 k2 => lv_if_ne C.1 C.2.1 hd ht k2 k1) kf kt
theorem V_if_lt {x : Int32} {off : Int} (tgt : Nat) (hd : decode μ.2.1 pc = .ok (.ifCond .lt off, 3)) (ht : (pc : Int) + off = (tgt : Int)) (kt : x < 0 → V g μ E CX k n tgt ls st σ) (kf : ¬ x < 0 → V g μ E CX k n (pc + 3) ls st σ) : V g μ E CX k n pc ls (.int x :: st) σ :=
  V_br (fun h => wv_tail h) (fun _ _ _ _ _ _ _ _ C _ _ _ _ _ _ _ k1 k2 => lv_if_lt C.1 C.2.1 hd ht k1 k2) kt kf
theorem V_if_ge {x : Int32} {off : Int} (tgt : Nat) (hd : decode μ.2.1 pc = .ok (.ifCond .ge off, 3)) (ht : (pc : Int) + off = (tgt : Int)) (kt : 0 ≤ x → V g μ E CX k n tgt ls st σ) (kf : ¬ 0 ≤ x → V g μ E CX k n (pc + 3) ls st σ) : V g μ E CX k n pc ls (.int x :: st) σ :=
  V_br (fun h => wv_tail h) (fun _ _ _ _ _ _ _ _ C _ _ _ _ _ _ _ k1 k2 => lv_if_ge C.1 C.2.1 hd ht k1 k2) kt kf
theorem V_if_gt {x : Int32} {off : Int} (tgt : Nat) (hd : decode μ.2.1 pc = .ok (.ifCond .gt off, 3)) (ht : (pc : Int) + off = (tgt : Int)) (kt : 0 < x → V g μ E CX k n tgt ls st σ) (kf : ¬ 0 < x → V g μ E CX k n (pc + 3) ls st σ) : V g μ E CX k n pc ls (.int x :: st) σ :=
  V_br (fun h => wv_tail h) (fun _ _ _ _ _ _ _ _ C _ _ _ _ _ _ _ k1 k2 => lv_if_gt C.1 C.2.1 hd ht k1 k2) kt kf
theorem V_if_le {x : Int32} {off : Int} (tgt : Nat) (hd : decode μ.2.1 pc = .ok (.ifCond .le off, 3)) (ht : (pc : Int) + off = (tgt : Int)) (kt : x ≤ 0 → V g μ E CX k n tgt ls st σ) (kf : ¬ x ≤ 0 → V g μ E CX k n (pc + 3) ls st σ) : V g μ E CX k n pc ls (.int x :: st) σ :=
  V_br (fun h => wv_tail h) (fun _ _ _ _ _ _ _ _ C _ _ _ _ _ _ _ k1 k2 => lv_if_le C.1 C.2.1 hd ht k1 k2) kt kf
theorem V_icmp_eq {x y : Int32} {off : Int} (tgt : Nat) (hd : decode μ.2.1 pc = .ok (.if_icmp .eq off, 3)) (ht : (pc : Int) + off = (tgt : Int)) (kt : x = y → V g μ E CX k n tgt ls st σ) (kf : ¬ x = y → V g μ E CX k n (pc + 3) ls st σ) : V g μ E CX k n pc ls (.int y :: .int x :: st) σ :=
  V_br (fun h => wv_tail2 h) (fun _ _ _ _ _ _ _ _ C _ _ _ _ _ _ _ k1 k2 => lv_icmp_eq C.1 C.2.1 hd ht k1 k2) kt kf
theorem V_icmp_ne {x y : Int32} {off : Int} (tgt : Nat) (hd : decode μ.2.1 pc = .ok (.if_icmp .ne off, 3)) (ht : (pc : Int) + off = (tgt : Int)) (kt : ¬ x = y → V g μ E CX k n tgt ls st σ) (kf : x = y → V g μ E CX k n (pc + 3) ls st σ) : V g μ E CX k n pc ls (.int y :: .int x :: st) σ :=
  V_br (fun h => wv_tail2 h) (fun _ _ _ _ _ _ _ _ C _ _ _ _ _ _ _ k1 k2 => lv_icmp_ne C.1 C.2.1 hd ht k2 k1) kf kt
theorem V_icmp_lt {x y : Int32} {off : Int} (tgt : Nat) (hd : decode μ.2.1 pc = .ok (.if_icmp .lt off, 3)) (ht : (pc : Int) + off = (tgt : Int)) (kt : x < y → V g μ E CX k n tgt ls st σ) (kf : ¬ x < y → V g μ E CX k n (pc + 3) ls st σ) : V g μ E CX k n pc ls (.int y :: .int x :: st) σ :=
  V_br (fun h => wv_tail2 h) (fun _ _ _ _ _ _ _ _ C _ _ _ _ _ _ _ k1 k2 => lv_icmp_lt C.1 C.2.1 hd ht k1 k2) kt kf
theorem V_icmp_ge {x y : Int32} {off : Int} (tgt : Nat) (hd : decode μ.2.1 pc = .ok (.if_icmp .ge off, 3)) (ht : (pc : Int) + off = (tgt : Int)) (kt : y ≤ x → V g μ E CX k n tgt ls st σ) (kf : ¬ y ≤ x → V g μ E CX k n (pc + 3) ls st σ) : V g μ E CX k n pc ls (.int y :: .int x :: st) σ :=
  V_br (fun h => wv_tail2 h) (fun _ _ _ _ _ _ _ _ C _ _ _ _ _ _ _ k1 k2 => lv_icmp_ge C.1 C.2.1 hd ht k1 k2) kt kf
theorem V_icmp_gt {x y : Int32} {off : Int} (tgt : Nat) (hd : decode μ.2.1 pc = .ok (.if_icmp .gt off, 3)) (ht : (pc : Int) + off = (tgt : Int)) (kt : y < x → V g μ E CX k n tgt ls st σ) (kf : ¬ y < x → V g μ E CX k n (pc + 3) ls st σ) : V g μ E CX k n pc ls (.int y :: .int x :: st) σ :=
  V_br (fun h => wv_tail2 h) (fun _ _ _ _ _ _ _ _ C _ _ _ _ _ _ _ k1 k2 => lv_icmp_gt C.1 C.2.1 hd ht k1 k2) kt kf
theorem V_icmp_le {x y : Int32} {off : Int} (tgt : Nat) (hd : decode μ.2.1 pc = .ok (.if_icmp .le off, 3)) (ht : (pc : Int) + off = (tgt : Int)) (kt : x ≤ y → V g μ E CX k n tgt ls st σ) (kf : ¬ x ≤ y → V g μ E CX k n (pc + 3) ls st σ) : V g μ E CX k n pc ls (.int y :: .int x :: st) σ :=
  V_br (fun h => wv_tail2 h) (fun _ _ _ _ _ _ _ _ C _ _ _ _ _ _ _ k1 k2 => lv_icmp_le C.1 C.2.1 hd ht k1 k2) kt kf
theorem V_tableIn {dflt lo hi : Int} {offs : Array Int} {x : Int32} {off : Int} {len : Nat} (tgt : Nat) (hd : decode μ.2.1 pc = .ok (.tableswitch dflt lo hi offs, len)) (h1 : ¬ x.toInt < lo) (h2 : ¬ hi < x.toInt) (ho : offs[(x.toInt - lo).toNat]? = some off) (ht : (pc : Int) + off = (tgt : Int)) (kk : V g μ E CX k n tgt ls st σ) : V g μ E CX k n pc ls (.int x :: st) σ :=
  V_step (fun _ _ h => wv_tail h) (fun _ _ _ _ _ _ _ _ C _ _ _ _ _ _ _ _ _ _ _ k => lv_tableIn C.1 C.2.1 hd h1 h2 ho ht k) kk
theorem V_tableOut {dflt lo hi : Int} {offs : Array Int} {x : Int32} {len : Nat} (tgt : Nat) (hd : decode μ.2.1 pc = .ok (.tableswitch dflt lo hi offs, len)) (h1 : x.toInt < lo ∨ hi < x.toInt) (ht : (pc : Int) + dflt = (tgt : Int)) (kk : V g μ E CX k n tgt ls st σ) : V g μ E CX k n pc ls (.int x :: st) σ :=
  V_step (fun _ _ h => wv_tail h) (fun _ _ _ _ _ _ _ _ C _ _ _ _ _ _ _ _ _ _ _ k => lv_tableOut C.1 C.2.1 hd h1 ht k) kk
theorem V_ldc {v : Int32} {i : Nat} (hw : Cond.constant μ.1.cls i v ∈ lw_good) (hd : decode μ.2.1 pc = .ok (.ldc i, 2)) (kk : V g μ E CX k n (pc + 2) ls (.int v :: st) σ) : V g μ E CX k n pc ls st σ :=
  V_step (fun _ _ h => wv_cons wv_i h) (fun _ _ _ _ _ _ _ _ C _ _ _ _ _ _ _ _ _ _ _ k => lv_ldc C.1 C.2.1 C.2.2.2.1 (C.2.2.2.2.1 _ hw) hd k) kk
theorem V_ldc2 {v : Int64} {i : Nat} (hw : Cond.constantLong μ.1.cls i v ∈ lw_good) (hd : decode μ.2.1 pc = .ok (.ldc2_w i, 3)) (kk : V g μ E CX k n (pc + 3) ls (.long v :: st) σ) : V g μ E CX k n pc ls st σ :=
  V_step (fun _ _ h => wv_cons wv_l h) (fun _ _ _ _ _ _ _ _ C _ _ _ _ _ _ _ _ _ _ _ k => lv_ldc2 C.1 C.2.1 C.2.2.2.1 (C.2.2.2.2.1 _ hw) hd k) kk
section REFS
variable {p : Program} {l : Launch} {e : Env} {R : Room} {s : State} {m : MethodId} {args : Array Value} {below : List Frame} {meth : Method} {c : Code} {H : Heap} {locs : List Loc} {cells slots : Nat} {Q : State → Prop}
variable {cc : ByteArray} {lr : Array Slot} {rest : List Value}
theorem la_aload_n (hexec : p.tables.exec = Jvm.exec) (hb : c.code = cc) {q : Fin 4} {v : Value} (hv : v.isRef = true) (hdg : decode cc pc = .ok (.aload_n q, 1)) (hl : lr[(q : Nat)]? = some (.val v))
    (k : W p l e R s m args below meth c H locs cells slots Q (F0 m (pc + 1) lr (v :: rest))) : W p l e R s m args below meth c H locs cells slots Q (F0 m pc lr rest) := by
  intro T hT X
  obtain ⟨t, a, b⟩ := k T hT X
  refine ⟨t, ?_, b⟩
  jvm_step X.here [X.here.top, hexec, hb, hdg, hl, hv]
  exact a
theorem la_aload (hexec : p.tables.exec = Jvm.exec) (hb : c.code = cc) {i : Nat} {v : Value} (hv : v.isRef = true) (hdg : decode cc pc = .ok (.aload i, 2)) (hl : lr[i]? = some (.val v))
    (k : W p l e R s m args below meth c H locs cells slots Q (F0 m (pc + 2) lr (v :: rest))) : W p l e R s m args below meth c H locs cells slots Q (F0 m pc lr rest) := by
  intro T hT X
  obtain ⟨t, a, b⟩ := k T hT X
  refine ⟨t, ?_, b⟩
  jvm_step X.here [X.here.top, hexec, hb, hdg, hl, hv]
  exact a
theorem la_astore_n (hexec : p.tables.exec = Jvm.exec) (hb : c.code = cc) {q : Fin 4} {nL : Nat} {v : Value} {lv : List (Nat × Value)} (hv : v.isRef = true) (hc : v.category = 1) (hdg : decode cc pc = .ok (.astore_n q, 1)) (h : lv_has lr nL lv) (hn : (q : Nat) < nL)
    (kk : ∀ ls' : Array Slot, lv_has ls' nL (((q : Nat), v) :: lv.filter (fun z => !(z.1 == (q : Nat)) && !(z.1 + 1 == (q : Nat) && z.2.category == 2))) → W p l e R s m args below meth c H locs cells slots Q (F0 m (pc + 1) ls' rest)) : W p l e R s m args below meth c H locs cells slots Q (F0 m pc lr (v :: rest)) := by
  obtain ⟨ls', e', h'⟩ := lv_store1 (v := v) h hn hc
  intro T hT X
  obtain ⟨t, a, b⟩ := kk ls' h' T hT X
  refine ⟨t, ?_, b⟩
  jvm_step X.here [X.here.top, ↓top_set X.here.top, hexec, hb, hdg, e', hv]
  exact a
theorem la_astore (hexec : p.tables.exec = Jvm.exec) (hb : c.code = cc) {i nL : Nat} {v : Value} {lv : List (Nat × Value)} (hv : v.isRef = true) (hc : v.category = 1) (hdg : decode cc pc = .ok (.astore i, 2)) (h : lv_has lr nL lv) (hn : i < nL)
    (kk : ∀ ls' : Array Slot, lv_has ls' nL ((i, v) :: lv.filter (fun z => !(z.1 == i) && !(z.1 + 1 == i && z.2.category == 2))) → W p l e R s m args below meth c H locs cells slots Q (F0 m (pc + 2) ls' rest)) : W p l e R s m args below meth c H locs cells slots Q (F0 m pc lr (v :: rest)) := by
  obtain ⟨ls', e', h'⟩ := lv_store1 (v := v) h hn hc
  intro T hT X
  obtain ⟨t, a, b⟩ := kk ls' h' T hT X
  refine ⟨t, ?_, b⟩
  jvm_step X.here [X.here.top, ↓top_set X.here.top, hexec, hb, hdg, e', hv]
  exact a
end REFS
theorem cv_isRef (ρ : Nat → Nat) (a : Nat) : (cv ρ (.ref a)).isRef = true := by
  by_cases h : a = 0 <;> simp [cv, h, Value.isRef]
theorem V_aload_n {q : Fin 4} {a : Nat} (hd : decode μ.2.1 pc = .ok (.aload_n q, 1)) (hl : lat q ls = some (.ref a)) (kk : V g μ E CX k n (pc + 1) ls (.ref a :: st) σ) : V g μ E CX k n pc ls st σ :=
  V_step (fun _ hl' h => wv_cons (hl' _ (lat_mem hl)) h) (fun _ _ _ _ _ _ _ _ C _ _ _ _ ρ lr _ _ hlr _ _ k => la_aload_n C.1 C.2.1 (cv_isRef ρ a) hd (lcv_get hlr (lat_mem hl)) k) kk
theorem V_aload {i : Nat} {a : Nat} (hd : decode μ.2.1 pc = .ok (.aload i, 2)) (hl : lat i ls = some (.ref a)) (kk : V g μ E CX k n (pc + 2) ls (.ref a :: st) σ) : V g μ E CX k n pc ls st σ :=
  V_step (fun _ hl' h => wv_cons (hl' _ (lat_mem hl)) h) (fun _ _ _ _ _ _ _ _ C _ _ _ _ ρ lr _ _ hlr _ _ k => la_aload C.1 C.2.1 (cv_isRef ρ a) hd (lcv_get hlr (lat_mem hl)) k) kk
theorem V_ifnull {off : Int} {a : Nat} (tgt : Nat) (hd : decode μ.2.1 pc = .ok (.ifnull off, 3)) (ht : (pc : Int) + off = (tgt : Int)) (kt : a = 0 → V g μ E CX k n tgt ls st σ) (kf : ¬ a = 0 → V g μ E CX k n (pc + 3) ls st σ) : V g μ E CX k n pc ls (.ref a :: st) σ :=
  V_br (fun h => wv_tail h) (fun _ _ _ _ _ _ _ _ C _ _ _ _ ρ _ _ k1 k2 => by
    by_cases h : a = 0
    · subst h; exact lv_ifnullN C.1 C.2.1 hd ht (k1 rfl)
    · rw [List.map_cons, cv_ref h]; exact lv_ifnull C.1 C.2.1 hd (k2 h)) kt kf
theorem V_ifnonnull {off : Int} {a : Nat} (tgt : Nat) (hd : decode μ.2.1 pc = .ok (.ifnonnull off, 3)) (ht : (pc : Int) + off = (tgt : Int)) (kt : ¬ a = 0 → V g μ E CX k n tgt ls st σ) (kf : a = 0 → V g μ E CX k n (pc + 3) ls st σ) : V g μ E CX k n pc ls (.ref a :: st) σ :=
  V_br (fun h => wv_tail h) (fun _ _ _ _ _ _ _ _ C _ _ _ _ ρ _ _ k1 k2 => by
    by_cases h : a = 0
    · subst h; exact lv_ifnonnullN C.1 C.2.1 hd (k1 rfl)
    · rw [List.map_cons, cv_ref h]; exact lv_ifnonnull C.1 C.2.1 hd ht (k2 h)) kf kt
/-- the locals change -/
theorem V_loc {pc' : Nat} {ls' : List (Nat × Value)} {st0 st' : List Value} (hw : (∀ v ∈ st0, wv (zN σ) v) → ∀ v ∈ st', wv (zN σ) v) (hwl : (∀ q ∈ ls, wv (zN σ) q.2) → (∀ v ∈ st0, wv (zN σ) v) → ∀ q ∈ ls', wv (zN σ) q.2)
    (h : ∀ (p : Program) (e : Env) (s : State) (m : MethodId) (args : Array Value) (below : List Frame) (meth : Method) (c : Code), Cx g μ CX p s m args meth c → ∀ (H : Heap) (locs : List Loc) (cells slots : Nat) (ρ : Nat → Nat) (lr : Array Slot) (Q : State → Prop), lv_has lr μ.2.2.1 (lcv ρ ls) →
      (∀ lr', lv_has lr' μ.2.2.1 (lcv ρ ls') → W p g.1 e μ.2.2.2.2.2 s m args below meth c H locs cells slots Q (F0 m pc' lr' (st'.map (cv ρ)))) → W p g.1 e μ.2.2.2.2.2 s m args below meth c H locs cells slots Q (F0 m pc lr (st0.map (cv ρ))))
    (kk : V g μ E CX k n pc' ls' st' σ) : V g μ E CX k n pc ls st0 σ := by
  intro p e s m args below meth c C H locs cells slots ρ ρ0 n0 lr P
  obtain ⟨p1, p2, p3, p4, p5, p6, p7, p8, p9, p10⟩ := P
  exact h p e s m args below meth c C H locs cells slots ρ lr _ p8 fun lr' h' => kk p e s m args below meth c C H locs cells slots ρ ρ0 n0 lr' ⟨p1, p2, p3, p4, p5, p6, p7, h', hwl p9 p10, hw p10⟩
theorem V_istore_n {q : Fin 4} {x : Int32} (ls' : List (Nat × Value)) (hd : decode μ.2.1 pc = .ok (.istore_n q, 1)) (hn : Nat.blt q μ.2.2.1 = true) (hl : lset q (.int x) ls = ls') (kk : V g μ E CX k n (pc + 1) ls' st σ) : V g μ E CX k n pc ls (.int x :: st) σ := by
  subst hl
  exact V_loc (fun h => wv_tail h) (fun h _ => lset_wv wv_i h) (fun _ _ _ _ _ _ _ _ C _ _ _ _ ρ lr _ hlr k => lv_istore_n C.1 C.2.1 hd rfl hlr (by simpa [Nat.blt_eq] using hn) rfl (fun lr' h' => k lr' (lset_has1 (v := .int x) rfl h'))) kk
theorem V_istore {i : Nat} {x : Int32} (ls' : List (Nat × Value)) (hd : decode μ.2.1 pc = .ok (.istore i, 2)) (hn : Nat.blt i μ.2.2.1 = true) (hl : lset i (.int x) ls = ls') (kk : V g μ E CX k n (pc + 2) ls' st σ) : V g μ E CX k n pc ls (.int x :: st) σ := by
  subst hl
  exact V_loc (fun h => wv_tail h) (fun h _ => lset_wv wv_i h) (fun _ _ _ _ _ _ _ _ C _ _ _ _ ρ lr _ hlr k => lv_istore C.1 C.2.1 hd hlr (by simpa [Nat.blt_eq] using hn) rfl (fun lr' h' => k lr' (lset_has1 (v := .int x) rfl h'))) kk
theorem V_lstore_n {q : Fin 4} {x : Int64} (ls' : List (Nat × Value)) (hd : decode μ.2.1 pc = .ok (.lstore_n q, 1)) (hn : Nat.blt ((q : Nat) + 1) μ.2.2.1 = true) (hl : lset q (.long x) ls = ls') (kk : V g μ E CX k n (pc + 1) ls' st σ) : V g μ E CX k n pc ls (.long x :: st) σ := by
  subst hl
  exact V_loc (fun h => wv_tail h) (fun h _ => lset_wv wv_l h) (fun _ _ _ _ _ _ _ _ C _ _ _ _ ρ lr _ hlr k => lv_lstore_n C.1 C.2.1 hd rfl hlr (by simpa [Nat.blt_eq] using hn) rfl (fun lr' h' => k lr' (lset_has2 (v := .long x) rfl h'))) kk
theorem V_lstore {i : Nat} {x : Int64} (ls' : List (Nat × Value)) (hd : decode μ.2.1 pc = .ok (.lstore i, 2)) (hn : Nat.blt (i + 1) μ.2.2.1 = true) (hl : lset i (.long x) ls = ls') (kk : V g μ E CX k n (pc + 2) ls' st σ) : V g μ E CX k n pc ls (.long x :: st) σ := by
  subst hl
  exact V_loc (fun h => wv_tail h) (fun h _ => lset_wv wv_l h) (fun _ _ _ _ _ _ _ _ C _ _ _ _ ρ lr _ hlr k => lv_lstore C.1 C.2.1 hd hlr (by simpa [Nat.blt_eq] using hn) rfl (fun lr' h' => k lr' (lset_has2 (v := .long x) rfl h'))) kk
theorem V_astore_n {q : Fin 4} {a : Nat} (ls' : List (Nat × Value)) (hd : decode μ.2.1 pc = .ok (.astore_n q, 1)) (hn : Nat.blt q μ.2.2.1 = true) (hl : lset q (.ref a) ls = ls') (kk : V g μ E CX k n (pc + 1) ls' st σ) : V g μ E CX k n pc ls (.ref a :: st) σ := by
  subst hl
  exact V_loc (fun h => wv_tail h) (fun h h2 => lset_wv (wv_hd h2) h) (fun _ _ _ _ _ _ _ _ C _ _ _ _ ρ lr _ hlr k => la_astore_n C.1 C.2.1 (cv_isRef ρ a) (by rw [cv_cat]; rfl) hd hlr (by simpa [Nat.blt_eq] using hn) (fun lr' h' => k lr' (lset_has1 (v := .ref a) rfl h'))) kk
theorem V_astore {i : Nat} {a : Nat} (ls' : List (Nat × Value)) (hd : decode μ.2.1 pc = .ok (.astore i, 2)) (hn : Nat.blt i μ.2.2.1 = true) (hl : lset i (.ref a) ls = ls') (kk : V g μ E CX k n (pc + 2) ls' st σ) : V g μ E CX k n pc ls (.ref a :: st) σ := by
  subst hl
  exact V_loc (fun h => wv_tail h) (fun h h2 => lset_wv (wv_hd h2) h) (fun _ _ _ _ _ _ _ _ C _ _ _ _ ρ lr _ hlr k => la_astore C.1 C.2.1 (cv_isRef ρ a) (by rw [cv_cat]; rfl) hd hlr (by simpa [Nat.blt_eq] using hn) (fun lr' h' => k lr' (lset_has1 (v := .ref a) rfl h'))) kk
theorem V_iinc {i : Nat} {z : Int} {x : Int32} (v : Int32) (ls' : List (Nat × Value)) (hd : decode μ.2.1 pc = .ok (.iinc i z, 3)) (hv : x + Int32.ofInt z = v) (hg : lat i ls = some (.int x)) (hn : Nat.blt i μ.2.2.1 = true) (hl : lset i (.int v) ls = ls') (kk : V g μ E CX k n (pc + 3) ls' st σ) : V g μ E CX k n pc ls st σ := by
  subst hl
  refine V_loc (fun h => h) (fun h _ => lset_wv wv_i h) (fun _ _ _ _ _ _ _ _ C _ _ _ _ ρ lr _ hlr k => ?_) kk
  obtain ⟨j, hj⟩ := List.getElem?_of_mem (List.mem_map.mpr ⟨_, lat_mem hg, rfl⟩ : (i, cv ρ (.int x)) ∈ lcv ρ ls)
  exact lv_iinc C.1 C.2.1 hd hlr hj hv (by simpa [Nat.blt_eq] using hn) rfl (fun lr' h' => k lr' (lset_has1 (v := .int v) rfl h'))
end VR
end
section
/-! ===== fields and arrays ===== -/
def fva (σ : AH) (a : Nat) (ty : FieldType) (k : Nat) : Value := match ty with
  | .long => .long (zJ σ a k)
  | .object _ => .ref (zR σ a k)
  | .array _ => .ref (zR σ a k)
  | _ => .int (zI σ a k)
theorem fv_fva (ρ : Nat → Nat) (σ : AH) (a : Nat) (ty : FieldType) (k : Nat) : fv ρ σ a ty k = cv ρ (fva σ a ty k) := by
  cases ty <;> rfl
theorem fva_wv {σ : AH} (hc : ∀ a k, zR σ a k ≤ zN σ) (a : Nat) (ty : FieldType) (k : Nat) : wv (zN σ) (fva σ a ty k) := by
  cases ty <;> first | exact hc a k | trivial
/-- what the tables say of a class: its row, its words, its fields' types and names -/
def KO (ci : Nat) (C : String) (T : u_T) : Prop := vwCl[ci]? = some (C, T, fN ci) ∧ (∀ w ∈ u_ws C T (fN ci), w ∈ lw_good) ∧ (∀ k, k < fN ci → parseFieldDescriptor (T k).2.2.1 = some (fT ci k)) ∧ (∀ a, a < fN ci → ∀ b, b < fN ci → a ≠ b → (T a).2.1 ≠ (T b).2.1) ∧ ci < 13
section VH
variable {g : GP} {μ : MI} {E : ET} {CX : State → Array Value → Prop} {k n pc : Nat} {ls : List (Nat × Value)} {st : List Value} {σ : AH}
theorem V_getf {ci fk idx a : Nat} {C : String} {T : u_T} (v : Value) (ko : KO ci C T) (hk : Nat.blt fk (fN ci) = true) (hlink : Cond.fieldLink μ.1.cls idx (T fk).1 (T fk).2.1 (T fk).2.2.1 ∈ lw_good) (hd : decode μ.2.1 pc = .ok (.getfield idx, 3)) (h0 : a ≠ 0) (hK : zK σ a = ci) (hv : fva σ a (fT ci fk) fk = v)
    (kk : V g μ E CX k n (pc + 3) ls (v :: st) σ) : V g μ E CX k n pc ls (.ref a :: st) σ := by
  subst hv
  refine V_step (fun hcl _ h => wv_cons (fva_wv hcl _ _ _) (wv_tail h)) (fun p e s m args below meth c C H locs cells slots ρ lr Q hCn hlr hst _ k => ?_) kk
  have hk' : fk < fN ci := by simpa [Nat.blt_eq] using hk
  rw [List.map_cons, cv_ref h0]
  refine va_get C.1 C.2.1 C.2.2.2.2.1 ko.2.1 C.2.2.2.1 C.2.2.2.2.2.2.2.2.2.1.1 hCn.1 (ps σ a) (by rw [wl_get h0 (ne9 hK (by have := ko.2.2.2.2; omega)) (wv_hd hst), ent_obj hK ko.2.2.2.2]) ko.1 fk hk' (C.2.2.2.2.1 _ hlink) (fun _ h => h) (fv_get hk') hd ?_
  rw [fv_fva]
  exact k
theorem FZ_wr {a : Nat} {σ' : AH} (hk19 : zK σ a ≠ 19) (hk23 : zK σ a = 23 → gG g = none) (hn : zN σ' = zN σ) (hkk : ∀ b, zK σ' b = zK σ b) (hll : ∀ b, zL σ' b = zL σ b) (hfz : ∀ b, b ≠ a → ∀ j, zI σ' b j = zI σ b j ∧ zJ σ' b j = zJ σ b j) (h : FZ g σ) : FZ g σ' := fun G hG => by
  obtain ⟨h1, h2⟩ := h G hG
  refine ⟨by rw [hn]; exact h1, fun b hb1 hb2 => ?_⟩
  obtain ⟨h3, h4, h5, h6⟩ := h2 b hb1 hb2
  rw [hkk, hll]
  refine ⟨h3, h4, h5, fun j => ?_⟩
  obtain ⟨h7, h8⟩ := hfz b (fun e => h3.elim (fun q => hk19 (e ▸ q)) (fun q => by rw [hk23 (e ▸ q)] at hG; cases hG)) j
  exact ⟨h7.trans (h6 j).1, h8.trans (h6 j).2⟩
theorem fz_uI {a k : Nat} {x : Int32} : ∀ b, b ≠ a → ∀ j, zI (uI σ a k x) b j = zI σ b j ∧ zJ (uI σ a k x) b j = zJ σ b j := fun b hb j => ⟨by rw [zI_uI, if_neg (fun q => hb q.1)], rfl⟩
theorem fz_uJ {a k : Nat} {x : Int64} : ∀ b, b ≠ a → ∀ j, zI (uJ σ a k x) b j = zI σ b j ∧ zJ (uJ σ a k x) b j = zJ σ b j := fun b hb j => ⟨rfl, by rw [zJ_uJ, if_neg (fun q => hb q.1)]⟩
theorem fz_uR {a k x : Nat} : ∀ b, b ≠ a → ∀ j, zI (uR σ a k x) b j = zI σ b j ∧ zJ (uR σ a k x) b j = zJ σ b j := fun _ _ _ => ⟨rfl, rfl⟩
/-- a write into one cell -/
theorem V_write {a pc' : Nat} {σ' : AH} {e' : (Nat → Nat) → va_E} {st0 st' : List Value} (h0 : a ≠ 0) (hk19 : zK σ a ≠ 19) (hkk : ∀ b, zK σ' b = zK σ b) (hk23 : zK σ a = 23 → gG g = none) (hll : ∀ b, zL σ' b = zL σ b) (hfz : ∀ b, b ≠ a → ∀ j, zI σ' b j = zI σ b j ∧ zJ σ' b j = zJ σ b j) (ha : (∀ v ∈ st0, wv (zN σ) v) → a ≤ zN σ) (hn : zN σ' = zN σ) (hs : ∀ ρ dA b, b ≠ a → ent dA ρ σ' b = ent dA ρ σ b) (he : ∀ ρ, ent g.2.2.1 ρ σ' a = e' ρ) (hcl : (∀ v ∈ st0, wv (zN σ) v) → (∀ b j, zR σ b j ≤ zN σ) → ∀ b j, zR σ' b j ≤ zN σ') (hw : (∀ v ∈ st0, wv (zN σ) v) → ∀ v ∈ st', wv (zN σ) v)
    (h : ∀ (p : Program) (e : Env) (s : State) (m : MethodId) (args : Array Value) (below : List Frame) (meth : Method) (c : Code), Cx g μ CX p s m args meth c → ∀ (H : Heap) (locs : List Loc) (cells slots : Nat) (ρ : Nat → Nat) (lr : Array Slot) (Q : State → Prop), Cn g ρ σ H → va_S (bs g.2.2.2.1) s.heap H locs → (∀ v ∈ st0, wv (zN σ) v) → (wl g.2.2.1 ρ σ)[ps σ a]? = some (ρ a, ent g.2.2.1 ρ σ a) →
      (∀ (H1 : Heap) (locs1 : List Loc), va_P g.2.1 vwCl ((wl g.2.2.1 ρ σ).set (ps σ a) (ρ a, e' ρ)) H1 → va_D (bs g.2.2.2.1) ((wl g.2.2.1 ρ σ).set (ps σ a) (ρ a, e' ρ)) → va_S (bs g.2.2.2.1) s.heap H1 locs1 → W p g.1 e μ.2.2.2.2.2 s m args below meth c H1 locs1 cells slots Q (F0 m pc' lr (st'.map (cv ρ)))) → W p g.1 e μ.2.2.2.2.2 s m args below meth c H locs cells slots Q (F0 m pc lr (st0.map (cv ρ))))
    (kk : V g μ E CX k n pc' ls st' σ') : V g μ E CX k n pc ls st0 σ := by
  intro p e s m args below meth c C H locs cells slots ρ ρ0 n0 lr P
  have hS := mkS C P
  obtain ⟨p1, p2, p3, p4, p5, p6, p7, p8, p9, p10⟩ := P
  refine h p e s m args below meth c C H locs cells slots ρ lr _ p1 hS p10 (wl_get h0 hk19 (ha p10)) fun H1 locs1 hP hD hS1 => ?_
  rw [wl_set h0 hk19 (ha p10) hn hkk (hs ρ _) (he ρ)] at hP hD
  refine kk p e s m args below meth c C H1 locs1 cells slots ρ ρ0 n0 lr ⟨⟨hP, hD, Nat.le_trans C.2.2.2.2.2.2.2.2.2.2.1 hS1.1, fun q hq => ?_, hcl p10 p1.2.2.2.2.1, by rw [hn]; exact p1.2.2.2.2.2.1, by rw [hkk]; exact p1.2.2.2.2.2.2.1, p1.2.2.2.2.2.2.2.1, FZ_wr hk19 hk23 hn hkk hll hfz p1.2.2.2.2.2.2.2.2⟩, hS1.2.2, p3, p4, hS1.1, p6, by rw [hn]; exact p7, p8, by rw [hn]; exact p9, by rw [hn]; exact hw p10⟩
  rw [hS1.2.1 q (Nat.lt_of_lt_of_le hq C.2.2.2.2.2.2.2.2.2.2.1) (Nat.not_le.mpr hq)]
  exact C.2.2.2.2.2.2.2.2.2.2.2.1 q hq
theorem wr_hc {σ : AH} {x a j0 : Nat} (hx : x ≤ zN σ) (h : ∀ b j, zR σ b j ≤ zN σ) : ∀ b j, zR (uR σ a j0 x) b j ≤ zN (uR σ a j0 x) := fun b j => by
  rw [zR_uR, zN_uR]
  split
  · exact hx
  · exact h b j
/-- putfield: the abstract heap behind it is σ' -/
theorem V_putf {ci fk idx a : Nat} {C : String} {T : u_T} {v : Value} {σ' : AH} (ko : KO ci C T) (hk : Nat.blt fk (fN ci) = true) (hlink : Cond.fieldLink μ.1.cls idx (T fk).1 (T fk).2.1 (T fk).2.2.1 ∈ lw_good) (hfin : (T fk).2.2.2 = false ∨ ((T fk).2.2.2 = true ∧ μ.1.name = "<init>" ∧ (T fk).1 = μ.1.cls)) (hd : decode μ.2.1 pc = .ok (.putfield idx, 3)) (h0 : a ≠ 0) (hK : zK σ a = ci)
    (hn : zN σ' = zN σ) (hkk : ∀ b, zK σ' b = zK σ b) (hll : ∀ b, zL σ' b = zL σ b) (hfz : ∀ b, b ≠ a → ∀ j, zI σ' b j = zI σ b j ∧ zJ σ' b j = zJ σ b j) (hK' : zK σ' a = ci) (hs : ∀ ρ dA b, b ≠ a → ent dA ρ σ' b = ent dA ρ σ b) (hf : ∀ j, j ≠ fk → fva σ' a (fT ci j) j = fva σ a (fT ci j) j) (hv : fva σ' a (fT ci fk) fk = v) (hcl : wv (zN σ) v → (∀ b j, zR σ b j ≤ zN σ) → ∀ b j, zR σ' b j ≤ zN σ')
    (hnar : ∀ ρ, narrow (fT ci fk) (cv ρ v) = cv ρ v) (hfit : ∀ ρ, fits (fT ci fk) (cv ρ v) = true)
    (kk : V g μ E CX k n (pc + 3) ls st σ') : V g μ E CX k n pc ls (v :: .ref a :: st) σ := by
  have hk' : fk < fN ci := by simpa [Nat.blt_eq] using hk
  refine V_write (a := a) (σ' := σ') (e' := fun ρ => .inr (ci, ((List.range (fN ci)).map (fun k => fv ρ σ a (fT ci k) k)).set fk (cv ρ v))) h0 (by rw [hK]; have := ko.2.2.2.2; omega) hkk (fun q => by rw [hK] at q; have := ko.2.2.2.2; omega) hll hfz (fun h => wv_hd (wv_tail h)) hn hs (fun ρ => ?_) (fun h hc => hcl (wv_hd h) hc) (fun h => wv_tail2 h) (fun p e s m args below meth c C H locs cells slots ρ lr Q hCn hS hst hg k => ?_) kk
  · rw [ent_obj hK' ko.2.2.2.2]
    refine congrArg _ (congrArg _ (fv_set hk' (fun j hj => ?_) ?_).symm)
    · rw [fv_fva, fv_fva, hf j hj]
    · rw [fv_fva, hv]
  · rw [List.map_cons, List.map_cons, cv_ref h0]
    rw [ent_obj hK ko.2.2.2.2] at hg
    rcases hfin with hfin | ⟨hfin, h1, h2⟩
    · exact va_put C.1 C.2.1 C.2.2.2.2.1 ko.2.1 (fT ci) ko.2.2.1 ko.2.2.2.1 C.2.2.2.1 C.2.2.2.2.2.2.2.2.2.1.1 hCn.1 hCn.2.1 hS (ps σ a) hg ko.1 fk hk' (C.2.2.2.2.1 _ hlink) (fun _ h => h) hfin (ko.2.2.1 fk hk') (hnar ρ) (hfit ρ) (by simpa using hk') hd k
    · exact va_putF C.1 C.2.1 C.2.2.2.2.1 ko.2.1 (fT ci) ko.2.2.1 ko.2.2.2.1 C.2.2.2.1 C.2.2.2.2.2.2.2.2.2.1.1 hCn.1 hCn.2.1 hS (ps σ a) hg ko.1 fk hk' (C.2.2.2.2.1 _ hlink) (fun _ h => h) hfin (C.2.2.2.2.2.2.2.1.trans h1) h2 (ko.2.2.1 fk hk') (hnar ρ) (hfit ρ) (by simpa using hk') hd k
theorem V_puti {ci fk idx a : Nat} {C : String} {T : u_T} {x : Int32} (ko : KO ci C T) (hk : Nat.blt fk (fN ci) = true) (hlink : Cond.fieldLink μ.1.cls idx (T fk).1 (T fk).2.1 (T fk).2.2.1 ∈ lw_good) (hfin : (T fk).2.2.2 = false ∨ ((T fk).2.2.2 = true ∧ μ.1.name = "<init>" ∧ (T fk).1 = μ.1.cls)) (hd : decode μ.2.1 pc = .ok (.putfield idx, 3)) (hty : fT ci fk = .int) (h0 : a ≠ 0) (hK : zK σ a = ci)
    (kk : V g μ E CX k n (pc + 3) ls st (uI σ a fk x)) : V g μ E CX k n pc ls (.int x :: .ref a :: st) σ := by
  refine V_putf (σ' := uI σ a fk x) ko hk hlink hfin hd h0 hK rfl (fun _ => rfl) (fun _ => rfl) fz_uI hK (fun ρ dA b hb => ent_uI hb) (fun j hj => ?_) (by rw [hty]; show Value.int _ = _; rw [zI_uI, if_pos ⟨rfl, rfl⟩]) (fun _ h => h) (fun _ => by rw [hty]; rfl) (fun _ => by rw [hty]; rfl) kk
  generalize fT ci j = t
  cases t <;> first | rfl | (show Value.int _ = Value.int _; rw [zI_uI, if_neg (fun q => hj q.2)])
theorem V_putz {ci fk idx a : Nat} {C : String} {T : u_T} {x : Int32} (ko : KO ci C T) (hk : Nat.blt fk (fN ci) = true) (hlink : Cond.fieldLink μ.1.cls idx (T fk).1 (T fk).2.1 (T fk).2.2.1 ∈ lw_good) (hfin : (T fk).2.2.2 = false ∨ ((T fk).2.2.2 = true ∧ μ.1.name = "<init>" ∧ (T fk).1 = μ.1.cls)) (hd : decode μ.2.1 pc = .ok (.putfield idx, 3)) (hty : fT ci fk = .boolean) (h0 : a ≠ 0) (hK : zK σ a = ci) (hx : narrow .boolean (.int x) = .int x) (hx2 : fits .boolean (.int x) = true)
    (kk : V g μ E CX k n (pc + 3) ls st (uI σ a fk x)) : V g μ E CX k n pc ls (.int x :: .ref a :: st) σ := by
  refine V_putf (σ' := uI σ a fk x) ko hk hlink hfin hd h0 hK rfl (fun _ => rfl) (fun _ => rfl) fz_uI hK (fun ρ dA b hb => ent_uI hb) (fun j hj => ?_) (by rw [hty]; show Value.int _ = _; rw [zI_uI, if_pos ⟨rfl, rfl⟩]) (fun _ h => h) (fun _ => by rw [hty]; exact hx) (fun _ => by rw [hty]; exact hx2) kk
  generalize fT ci j = t
  cases t <;> first | rfl | (show Value.int _ = Value.int _; rw [zI_uI, if_neg (fun q => hj q.2)])
theorem V_putl {ci fk idx a : Nat} {C : String} {T : u_T} {x : Int64} (ko : KO ci C T) (hk : Nat.blt fk (fN ci) = true) (hlink : Cond.fieldLink μ.1.cls idx (T fk).1 (T fk).2.1 (T fk).2.2.1 ∈ lw_good) (hfin : (T fk).2.2.2 = false ∨ ((T fk).2.2.2 = true ∧ μ.1.name = "<init>" ∧ (T fk).1 = μ.1.cls)) (hd : decode μ.2.1 pc = .ok (.putfield idx, 3)) (hty : fT ci fk = .long) (h0 : a ≠ 0) (hK : zK σ a = ci)
    (kk : V g μ E CX k n (pc + 3) ls st (uJ σ a fk x)) : V g μ E CX k n pc ls (.long x :: .ref a :: st) σ := by
  refine V_putf (σ' := uJ σ a fk x) ko hk hlink hfin hd h0 hK rfl (fun _ => rfl) (fun _ => rfl) fz_uJ hK (fun ρ dA b hb => ent_uJ hb) (fun j hj => ?_) (by rw [hty]; show Value.long _ = _; rw [zJ_uJ, if_pos ⟨rfl, rfl⟩]) (fun _ h => h) (fun _ => by rw [hty]; rfl) (fun _ => by rw [hty]; rfl) kk
  generalize fT ci j = t
  cases t <;> first | rfl | (show Value.long _ = Value.long _; rw [zJ_uJ, if_neg (fun q => hj q.2)])
theorem nar_ref {ty : FieldType} (h : ty.isReference = true) (ρ : Nat → Nat) (x : Nat) : narrow ty (cv ρ (.ref x)) = cv ρ (.ref x) ∧ fits ty (cv ρ (.ref x)) = true := by
  by_cases h0 : x = 0
  · subst h0
    cases ty <;> first | (exact absurd h (by decide)) | exact ⟨rfl, rfl⟩
  · rw [cv_ref h0]
    cases ty <;> first | (exact absurd h (by decide)) | exact ⟨rfl, rfl⟩
theorem V_putr {ci fk idx a x : Nat} {C : String} {T : u_T} (ko : KO ci C T) (hk : Nat.blt fk (fN ci) = true) (hlink : Cond.fieldLink μ.1.cls idx (T fk).1 (T fk).2.1 (T fk).2.2.1 ∈ lw_good) (hfin : (T fk).2.2.2 = false ∨ ((T fk).2.2.2 = true ∧ μ.1.name = "<init>" ∧ (T fk).1 = μ.1.cls)) (hd : decode μ.2.1 pc = .ok (.putfield idx, 3)) (hty : (fT ci fk).isReference = true) (h0 : a ≠ 0) (hK : zK σ a = ci)
    (kk : V g μ E CX k n (pc + 3) ls st (uR σ a fk x)) : V g μ E CX k n pc ls (.ref x :: .ref a :: st) σ := by
  refine V_putf (σ' := uR σ a fk x) ko hk hlink hfin hd h0 hK rfl (fun _ => rfl) (fun _ => rfl) fz_uR hK (fun ρ dA b hb => ent_uR hb) (fun j hj => ?_) ?_ (fun hx h => wr_hc hx h) (fun ρ => (nar_ref hty ρ x).1) (fun ρ => (nar_ref hty ρ x).2) kk
  · generalize fT ci j = t
    cases t <;> first | rfl | (show Value.ref _ = Value.ref _; rw [zR_uR, if_neg (fun q => hj q.2)])
  · revert hty
    generalize fT ci fk = t
    intro hty
    cases t <;> first | (exact absurd hty (by decide)) | (show Value.ref _ = _; rw [zR_uR, if_pos ⟨rfl, rfl⟩])
/-! arrays -/
theorem V_iald {a : Nat} {i : Int32} (hd : decode μ.2.1 pc = .ok (.iaload, 1)) (h0 : a ≠ 0) (hK : zK σ a = 20) (hi : vp_in i (zL σ a)) (kk : V g μ E CX k n (pc + 1) ls (.int (zI σ a i.toNatClampNeg) :: st) σ) : V g μ E CX k n pc ls (.int i :: .ref a :: st) σ := by
  refine V_step (fun hcl _ h => wv_cons wv_i (wv_tail2 h)) (fun p e s m args below meth c C H locs cells slots ρ lr Q hCn hlr hst _ k => ?_) kk
  rw [List.map_cons, List.map_cons, cv_ref h0]
  exact va_iald C.1 C.2.1 C.2.2.2.2.2.2.2.2.2.1.1 hCn.1 (ps σ a) 0 (by rw [wl_get h0 (ne9 hK (by decide)) (wv_hd (wv_tail hst)), ent_ia hK]) rfl hi hd k
theorem V_zald {a : Nat} {i : Int32} (hd : decode μ.2.1 pc = .ok (.baload, 1)) (h0 : a ≠ 0) (hK : zK σ a = 22) (hi : vp_in i (zL σ a)) (kk : V g μ E CX k n (pc + 1) ls (.int (zI σ a i.toNatClampNeg) :: st) σ) : V g μ E CX k n pc ls (.int i :: .ref a :: st) σ := by
  refine V_step (fun hcl _ h => wv_cons wv_i (wv_tail2 h)) (fun p e s m args below meth c C H locs cells slots ρ lr Q hCn hlr hst _ k => ?_) kk
  rw [List.map_cons, List.map_cons, cv_ref h0]
  exact va_zald C.1 C.2.1 C.2.2.2.2.2.2.2.2.2.1.1 hCn.1 (ps σ a) 2 (by rw [wl_get h0 (ne9 hK (by decide)) (wv_hd (wv_tail hst)), ent_za hK]) rfl hi hd k
theorem V_lald {a : Nat} {i : Int32} (hd : decode μ.2.1 pc = .ok (.laload, 1)) (h0 : a ≠ 0) (hK : zK σ a = 21) (hi : vp_in i (zL σ a)) (kk : V g μ E CX k n (pc + 1) ls (.long (zJ σ a i.toNatClampNeg) :: st) σ) : V g μ E CX k n pc ls (.int i :: .ref a :: st) σ := by
  refine V_step (fun hcl _ h => wv_cons wv_l (wv_tail2 h)) (fun p e s m args below meth c C H locs cells slots ρ lr Q hCn hlr hst _ k => ?_) kk
  rw [List.map_cons, List.map_cons, cv_ref h0]
  exact va_lald C.1 C.2.1 C.2.2.2.2.2.2.2.2.2.1.1 hCn.1 (ps σ a) 1 (by rw [wl_get h0 (ne9 hK (by decide)) (wv_hd (wv_tail hst)), ent_ja hK]) rfl hi hd k
/-- an array of references: of which class, by the kind; its place among the tables' words -/
def AO (κ : Nat) (C : String) (t0 : Nat) : Prop := 30 ≤ κ ∧ ∀ dA : Nat → ClassId, (tysOf dA)[t0]? = some (dA κ, .object C)
theorem ao_30 : AO 30 RX0 3 := ⟨by decide, fun _ => rfl⟩
theorem ao_32 : AO 32 RX2 4 := ⟨by decide, fun _ => rfl⟩
theorem ao_33 : AO 33 RX3 5 := ⟨by decide, fun _ => rfl⟩
theorem ao_35 : AO 35 RX5 6 := ⟨by decide, fun _ => rfl⟩
theorem ao_39 : AO 39 RX9 7 := ⟨by decide, fun _ => rfl⟩
theorem V_aald {a κ t0 : Nat} {C : String} {i : Int32} (ao : AO κ C t0) (hd : decode μ.2.1 pc = .ok (.aaload, 1)) (h0 : a ≠ 0) (hK : zK σ a = κ) (hi : vp_in i (zL σ a)) (kk : V g μ E CX k n (pc + 1) ls (.ref (zR σ a i.toNatClampNeg) :: st) σ) : V g μ E CX k n pc ls (.int i :: .ref a :: st) σ := by
  refine V_step (fun hcl _ h => wv_cons (show wv (zN σ) (.ref (zR σ a i.toNatClampNeg)) from hcl _ _) (wv_tail2 h)) (fun p e s m args below meth c C H locs cells slots ρ lr Q hCn hlr hst _ k => ?_) kk
  rw [List.map_cons, List.map_cons, cv_ref h0]
  refine va_aldq C.1 C.2.1 C.2.2.2.2.2.2.2.2.2.1.1 hCn.1 (ps σ a) t0 (by rw [wl_get h0 (ne9 hK (by have := ao.1; omega)) (wv_hd (wv_tail hst)), ent_qa hK ao.1]) (ao.2 _) hi hd ?_
  rw [cv_rf]
  exact k
theorem V_iast {a : Nat} {i x : Int32} (hd : decode μ.2.1 pc = .ok (.iastore, 1)) (h0 : a ≠ 0) (hK : zK σ a = 20) (hi : vp_in i (zL σ a)) (kk : V g μ E CX k n (pc + 1) ls st (uI σ a i.toNatClampNeg x)) : V g μ E CX k n pc ls (.int x :: .int i :: .ref a :: st) σ := by
  refine V_write (a := a) (σ' := uI σ a i.toNatClampNeg x) (e' := fun ρ => .inl (g.2.2.1 20, zL σ a, .inl (upd (zI σ a) i.toNatClampNeg x))) h0 (by rw [hK]; decide) (fun _ => rfl) (fun q => by rw [hK] at q; first | (have := ao.1; omega) | exact absurd q (by decide)) (fun _ => rfl) fz_uI (fun h => wv_hd (wv_tail2 h)) rfl (fun ρ dA b hb => ent_uI hb) (fun ρ => ?_) (fun _ h => h) (fun h => wv_tail3 h) (fun p e s m args below meth c C H locs cells slots ρ lr Q hCn hS hst hg k => ?_) kk
  · rw [ent_ia (by rw [zK_uI]; exact hK)]
    congr 3
    refine congrArg Sum.inl ?_
    funext j
    rw [zI_uI]
    simp [upd]
  · rw [List.map_cons, List.map_cons, List.map_cons, cv_ref h0]
    rw [ent_ia hK] at hg
    exact va_iast C.1 C.2.1 C.2.2.2.2.2.2.2.2.2.1.1 hCn.1 hCn.2.1 hS (ps σ a) 0 hg rfl hi hd k
theorem V_zast {a : Nat} {i x : Int32} (hd : decode μ.2.1 pc = .ok (.bastore, 1)) (h0 : a ≠ 0) (hK : zK σ a = 22) (hi : vp_in i (zL σ a)) (hx : vp_nar .boolean x = x) (kk : V g μ E CX k n (pc + 1) ls st (uI σ a i.toNatClampNeg x)) : V g μ E CX k n pc ls (.int x :: .int i :: .ref a :: st) σ := by
  refine V_write (a := a) (σ' := uI σ a i.toNatClampNeg x) (e' := fun ρ => .inl (g.2.2.1 22, zL σ a, .inl (upd (zI σ a) i.toNatClampNeg x))) h0 (by rw [hK]; decide) (fun _ => rfl) (fun q => by rw [hK] at q; first | (have := ao.1; omega) | exact absurd q (by decide)) (fun _ => rfl) fz_uI (fun h => wv_hd (wv_tail2 h)) rfl (fun ρ dA b hb => ent_uI hb) (fun ρ => ?_) (fun _ h => h) (fun h => wv_tail3 h) (fun p e s m args below meth c C H locs cells slots ρ lr Q hCn hS hst hg k => ?_) kk
  · rw [ent_za (by rw [zK_uI]; exact hK)]
    congr 3
    refine congrArg Sum.inl ?_
    funext j
    rw [zI_uI]
    simp [upd]
  · rw [List.map_cons, List.map_cons, List.map_cons, cv_ref h0]
    rw [ent_za hK] at hg
    refine va_zast C.1 C.2.1 C.2.2.2.2.2.2.2.2.2.1.1 hCn.1 hCn.2.1 hS (ps σ a) 2 hg rfl hi hd ?_
    rw [hx]
    exact k
theorem V_last {a : Nat} {i : Int32} {x : Int64} (hd : decode μ.2.1 pc = .ok (.lastore, 1)) (h0 : a ≠ 0) (hK : zK σ a = 21) (hi : vp_in i (zL σ a)) (kk : V g μ E CX k n (pc + 1) ls st (uJ σ a i.toNatClampNeg x)) : V g μ E CX k n pc ls (.long x :: .int i :: .ref a :: st) σ := by
  refine V_write (a := a) (σ' := uJ σ a i.toNatClampNeg x) (e' := fun ρ => .inl (g.2.2.1 21, zL σ a, .inr (.inl (vp_updL (zJ σ a) i.toNatClampNeg x)))) h0 (by rw [hK]; decide) (fun _ => rfl) (fun q => by rw [hK] at q; first | (have := ao.1; omega) | exact absurd q (by decide)) (fun _ => rfl) fz_uJ (fun h => wv_hd (wv_tail2 h)) rfl (fun ρ dA b hb => ent_uJ hb) (fun ρ => ?_) (fun _ h => h) (fun h => wv_tail3 h) (fun p e s m args below meth c C H locs cells slots ρ lr Q hCn hS hst hg k => ?_) kk
  · rw [ent_ja (by rw [zK_uJ]; exact hK)]
    congr 3
    refine congrArg _ (congrArg _ ?_)
    funext j
    rw [zJ_uJ]
    simp [vp_updL]
  · rw [List.map_cons, List.map_cons, List.map_cons, cv_ref h0]
    rw [ent_ja hK] at hg
    exact va_last C.1 C.2.1 C.2.2.2.2.2.2.2.2.2.1.1 hCn.1 hCn.2.1 hS (ps σ a) 1 hg rfl hi hd k
theorem V_aast {a κ t0 ci x : Nat} {C : String} {T : u_T} {i : Int32} (ao : AO κ C t0) (ko : KO ci C T) (hd : decode μ.2.1 pc = .ok (.aastore, 1)) (h0 : a ≠ 0) (hK : zK σ a = κ) (hi : vp_in i (zL σ a)) (hx0 : x ≠ 0) (hx : zK σ x = ci) (kk : V g μ E CX k n (pc + 1) ls st (uR σ a i.toNatClampNeg x)) : V g μ E CX k n pc ls (.ref x :: .int i :: .ref a :: st) σ := by
  refine V_write (a := a) (σ' := uR σ a i.toNatClampNeg x) (e' := fun ρ => .inl (g.2.2.1 κ, zL σ a, .inr (.inr (.inr (.inr (va_up (fun j => oref ρ (zR σ a j)) i.toNatClampNeg (some (ρ x)))))))) h0 (by rw [hK]; have := ao.1; omega) (fun _ => rfl) (fun q => by rw [hK] at q; first | (have := ao.1; omega) | exact absurd q (by decide)) (fun _ => rfl) fz_uR (fun h => wv_hd (wv_tail2 h)) rfl (fun ρ dA b hb => ent_uR hb) (fun ρ => ?_) (fun h hc => wr_hc (wv_hd h) hc) (fun h => wv_tail3 h) (fun p e s m args below meth c C H locs cells slots ρ lr Q hCn hS hst hg k => ?_) kk
  · rw [ent_qa (by rw [zK_uR]; exact hK) ao.1]
    congr 3
    refine congrArg _ (congrArg _ (congrArg _ (congrArg _ ?_)))
    funext j
    rw [zR_uR]
    by_cases hj : j = i.toNatClampNeg
    · rw [if_pos ⟨rfl, hj⟩]; simp [va_up, hj, oref, hx0]
    · rw [if_neg (fun q => hj q.2)]; simp [va_up, hj]
  · rw [List.map_cons, List.map_cons, List.map_cons, cv_ref h0, cv_ref hx0]
    rw [ent_qa hK ao.1] at hg
    exact va_astq C.1 C.2.1 C.2.2.2.2.2.2.2.2.2.1.1 hCn.1 hCn.2.1 hS (ps σ a) t0 (ps σ x) ci hg (ao.2 _) (by rw [wl_get hx0 (ne9 hx (by have := ko.2.2.2.2; omega)) (wv_hd hst), ent_obj hx ko.2.2.2.2]) ko.1 hi hd k
theorem V_alen {a κ : Nat} (hd : decode μ.2.1 pc = .ok (.arraylength, 1)) (h0 : a ≠ 0) (hK : zK σ a = 20) (kk : V g μ E CX k n (pc + 1) ls (.int (nI (zL σ a)) :: st) σ) : V g μ E CX k n pc ls (.ref a :: st) σ := by
  refine V_step (fun hcl _ h => wv_cons wv_i (wv_tail h)) (fun p e s m args below meth c C H locs cells slots ρ lr Q hCn hlr hst _ k => ?_) kk
  rw [List.map_cons, cv_ref h0]
  exact va_alen (x := (zL σ a, .inl (zI σ a))) (v := nI (zL σ a)) C.1 C.2.1 C.2.2.2.2.2.2.2.2.2.1.1 hCn.1 (ps σ a) 0 (by rw [wl_get h0 (ne9 hK (by decide)) (wv_hd hst), ent_ia hK]) rfl rfl hd k
/-! the law's own arrays: kind 23 -/
theorem V_gald {a : Nat} {i : Int32} (hd : decode μ.2.1 pc = .ok (.iaload, 1)) (h0 : a ≠ 0) (hK : zK σ a = 23) (hi : vp_in i (zL σ a)) (kk : V g μ E CX k n (pc + 1) ls (.int (zI σ a i.toNatClampNeg) :: st) σ) : V g μ E CX k n pc ls (.int i :: .ref a :: st) σ := by
  refine V_step (fun hcl _ h => wv_cons wv_i (wv_tail2 h)) (fun p e s m args below meth c C H locs cells slots ρ lr Q hCn hlr hst _ k => ?_) kk
  rw [List.map_cons, List.map_cons, cv_ref h0]
  exact va_iald C.1 C.2.1 C.2.2.2.2.2.2.2.2.2.1.1 hCn.1 (ps σ a) 0 (by rw [wl_get h0 (ne9 hK (by decide)) (wv_hd (wv_tail hst)), ent_ga hK]) rfl hi hd k
theorem V_gast {a : Nat} {i x : Int32} (hd : decode μ.2.1 pc = .ok (.iastore, 1)) (hg : gG g = none) (h0 : a ≠ 0) (hK : zK σ a = 23) (hi : vp_in i (zL σ a)) (kk : V g μ E CX k n (pc + 1) ls st (uI σ a i.toNatClampNeg x)) : V g μ E CX k n pc ls (.int x :: .int i :: .ref a :: st) σ := by
  refine V_write (a := a) (σ' := uI σ a i.toNatClampNeg x) (e' := fun ρ => .inl (g.2.2.1 20, zL σ a, .inl (upd (zI σ a) i.toNatClampNeg x))) h0 (by rw [hK]; decide) (fun _ => rfl) (fun _ => hg) (fun _ => rfl) fz_uI (fun h => wv_hd (wv_tail2 h)) rfl (fun ρ dA b hb => ent_uI hb) (fun ρ => ?_) (fun _ h => h) (fun h => wv_tail3 h) (fun p e s m args below meth c C H locs cells slots ρ lr Q hCn hS hst hg k => ?_) kk
  · rw [ent_ga (by rw [zK_uI]; exact hK)]
    congr 3
    refine congrArg Sum.inl ?_
    funext j
    rw [zI_uI]
    simp [upd]
  · rw [List.map_cons, List.map_cons, List.map_cons, cv_ref h0]
    rw [ent_ga hK] at hg
    exact va_iast C.1 C.2.1 C.2.2.2.2.2.2.2.2.2.1.1 hCn.1 hCn.2.1 hS (ps σ a) 0 hg rfl hi hd k
/-! the script, which is no cell -/
theorem V_sld {i : Nat} (hi : i < gL g) (hd : decode μ.2.1 pc = .ok (.iaload, 1)) (kk : V g μ E CX k n (pc + 1) ls (.int (gX g i) :: st) σ) : V g μ E CX k n pc ls (.int (nI i) :: .ref 1 :: st) σ := by
  intro p e s m args below meth c C H locs cells slots ρ ρ0 n0 lr P
  have hS := mkS C P
  obtain ⟨x3, x4, x5⟩ := C.2.2.2.2.2.2.2.2.2.1.2.2.2.2.2.2.2.2.2
  obtain ⟨p1, p2, p3, p4, p5, p6, p7, p8, p9, p10⟩ := P
  have hρ : ρ 1 = gB g := p1.2.2.2.2.2.2.2.1
  have K := kk p e s m args below meth c C H locs cells slots ρ ρ0 n0 lr ⟨p1, p2, p3, p4, p5, p6, p7, p8, p9, wv_cons wv_i (wv_tail2 p10)⟩
  have ci : (nI i).toNatClampNeg = i := nI_clamp (by omega)
  rw [List.map_cons, List.map_cons, cv_ref (by decide), hρ]
  have hb2 : gB g < s.heap.size := Nat.lt_of_lt_of_le x4 C.2.2.2.2.2.2.2.2.2.2.1
  refine va_sld (A := bs g.2.2.2.1) (i := nI i) C.1 C.2.1 (va_X.kept x3 (C.2.2.2.2.2.2.2.2.2.2.2.1 _ x4)) hb2 (Nat.not_le.mpr x4) hS (vp_in_nI hi (by omega)) hd ?_
  rw [ci]
  exact K
theorem V_slen (hd : decode μ.2.1 pc = .ok (.arraylength, 1)) (kk : V g μ E CX k n (pc + 1) ls (.int (nI (gL g)) :: st) σ) : V g μ E CX k n pc ls (.ref 1 :: st) σ := by
  intro p e s m args below meth c C H locs cells slots ρ ρ0 n0 lr P
  have hS := mkS C P
  obtain ⟨x3, x4, x5⟩ := C.2.2.2.2.2.2.2.2.2.1.2.2.2.2.2.2.2.2.2
  obtain ⟨p1, p2, p3, p4, p5, p6, p7, p8, p9, p10⟩ := P
  have hρ : ρ 1 = gB g := p1.2.2.2.2.2.2.2.1
  have K := kk p e s m args below meth c C H locs cells slots ρ ρ0 n0 lr ⟨p1, p2, p3, p4, p5, p6, p7, p8, p9, wv_cons wv_i (wv_tail p10)⟩
  rw [List.map_cons, cv_ref (by decide), hρ]
  have hb2 : gB g < s.heap.size := Nat.lt_of_lt_of_le x4 C.2.2.2.2.2.2.2.2.2.2.1
  exact va_slen (A := bs g.2.2.2.1) C.1 C.2.1 (va_X.kept x3 (C.2.2.2.2.2.2.2.2.2.2.2.1 _ x4)) hb2 (Nat.not_le.mpr x4) hS hd K
end VH
end
section
/-! ===== making cells ===== -/
def KD (ci : Nat) : Prop := ∀ k, k < fN ci → fT ci k ≠ .float ∧ fT ci k ≠ .double
section VA
variable {g : GP} {μ : MI} {E : ET} {CX : State → Array Value → Prop} {k n pc : Nat} {ls : List (Nat × Value)} {st : List Value} {σ : AH}
theorem lcv_agree {ρ ρ' : Nat → Nat} {N : Nat} (h : ∀ a, 1 ≤ a → a ≤ N → ρ' a = ρ a) {ls : List (Nat × Value)} (hw : ∀ q ∈ ls, wv N q.2) : lcv ρ' ls = lcv ρ ls :=
  List.map_congr_left fun q hq => by rw [cv_agree h (hw q hq)]
theorem st_agree {ρ ρ' : Nat → Nat} {N : Nat} (h : ∀ a, 1 ≤ a → a ≤ N → ρ' a = ρ a) {st : List Value} (hw : ∀ v ∈ st, wv N v) : st.map (cv ρ') = st.map (cv ρ) :=
  List.map_congr_left fun q hq => cv_agree h (hw q hq)
theorem rup_agree {ρ : Nat → Nat} {N q : Nat} : ∀ a, 1 ≤ a → a ≤ N → rup ρ (N + 1) q a = ρ a := fun a _ h => by
  unfold rup; rw [if_neg (by omega)]
theorem nw_hc {κ len : Nat} (h : ∀ b j, zR σ b j ≤ zN σ) : ∀ b j, zR (nw σ κ len) b j ≤ zN (nw σ κ len) := fun b j => by
  rw [zR_nw, zN_nw]
  split
  · omega
  · exact Nat.le_succ_of_le (h b j)
theorem FZ_nw {κ len : Nat} (h : FZ g σ) : FZ g (nw σ κ len) := fun G hG => by
  obtain ⟨h1, h2⟩ := h G hG
  refine ⟨by rw [zN_nw]; omega, fun b hb1 hb2 => ?_⟩
  obtain ⟨h3, h4, h5, h6⟩ := h2 b hb1 hb2
  rw [zK_nw, zL_nw, if_neg (by omega), if_neg (by omega)]
  refine ⟨h3, h4, h5, fun j => ?_⟩
  rw [zI_nw, zJ_nw, if_neg (by omega), if_neg (by omega)]
  exact h6 j
theorem V_alloc {κ len k' n' pc' : Nat} {e' : va_E} {st0 st' : List Value} (hκ : κ ≠ 19) (hk : Nat.ble (k' + 1) k = true) (hn : Nat.ble (n' + len) n = true) (hw : (∀ v ∈ st0, wv (zN σ) v) → ∀ v ∈ st', wv (zN σ) v) (he : ∀ ρ, ent g.2.2.1 ρ (nw σ κ len) (zN σ + 1) = e')
    (h : ∀ (p : Program) (e : Env) (s : State) (m : MethodId) (args : Array Value) (below : List Frame) (meth : Method) (c : Code), Cx g μ CX p s m args meth c → ∀ (H : Heap) (locs : List Loc) (cells slots : Nat) (ρ : Nat → Nat) (lr : Array Slot) (Q : State → Prop), Cn g ρ σ H → va_S (bs g.2.2.2.1) s.heap H locs → cells + 1 ≤ μ.2.2.2.2.2.cells → slots + len ≤ μ.2.2.2.2.2.slots →
      (∀ (q : Nat) (H1 : Heap), va_P g.2.1 vwCl (wl g.2.2.1 ρ σ ++ [(q, e')]) H1 → va_D (bs g.2.2.2.1) (wl g.2.2.1 ρ σ ++ [(q, e')]) → va_S (bs g.2.2.2.1) s.heap H1 locs → W p g.1 e μ.2.2.2.2.2 s m args below meth c H1 locs (cells + 1) (slots + len) Q (F0 m pc' lr (.ref q :: st'.map (cv ρ)))) → W p g.1 e μ.2.2.2.2.2 s m args below meth c H locs cells slots Q (F0 m pc lr (st0.map (cv ρ))))
    (kk : V g μ E CX k' n' pc' ls (.ref (zN σ + 1) :: st') (nw σ κ len)) : V g μ E CX k n pc ls st0 σ := by
  intro p e s m args below meth c C H locs cells slots ρ ρ0 n0 lr P
  have hS := mkS C P
  have hk := Nat.le_of_ble_eq_true hk
  have hn := Nat.le_of_ble_eq_true hn
  obtain ⟨p1, p2, p3, p4, p5, p6, p7, p8, p9, p10⟩ := P
  refine h p e s m args below meth c C H locs cells slots ρ lr _ p1 hS (by omega) (by omega) fun q H1 hP hD hS1 => ?_
  rw [wl_push hκ p1.2.2.2.2.1 (he _)] at hP hD
  have hw' := hw p10
  have key := kk p e s m args below meth c C H1 locs (cells + 1) (slots + len) (rup ρ (zN σ + 1) q) ρ0 n0 lr ⟨⟨hP, hD, Nat.le_trans C.2.2.2.2.2.2.2.2.2.2.1 hS1.1, fun z hz => ?_, nw_hc p1.2.2.2.2.1, Nat.le_succ_of_le p1.2.2.2.2.2.1, (zK_nw _ _ _ _).trans ((if_neg (by have := p1.2.2.2.2.2.1; omega)).trans p1.2.2.2.2.2.2.1), (rup_agree 1 (Nat.le_refl 1) p1.2.2.2.2.2.1).trans p1.2.2.2.2.2.2.2.1, FZ_nw p1.2.2.2.2.2.2.2.2⟩, hS1.2.2, by omega, by omega, hS1.1, fun a h1 h2 => ?_, Nat.le_succ_of_le p7, by rw [lcv_agree rup_agree p9]; exact p8, fun z hz => wv_mono (Nat.le_succ _) (p9 z hz), wv_cons (Nat.le_refl _) (fun v hv => wv_mono (Nat.le_succ _) (hw' v hv))⟩
  · rw [List.map_cons, cv_ref (by omega), st_agree rup_agree hw'] at key
    rw [show rup ρ (zN σ + 1) q (zN σ + 1) = q by simp [rup]] at key
    exact key
  · rw [hS1.2.1 z (Nat.lt_of_lt_of_le hz C.2.2.2.2.2.2.2.2.2.2.1) (Nat.not_le.mpr hz)]
    exact C.2.2.2.2.2.2.2.2.2.2.2.1 z hz
  · rw [rup_agree a h1 (Nat.le_trans h2 p7)]
    exact p6 a h1 h2
theorem zK_new {κ len : Nat} : zK (nw σ κ len) (zN σ + 1) = κ := by rw [zK_nw, if_pos rfl]
theorem V_new {ci idx k' n' : Nat} {C : String} {T : u_T} (ko : KO ci C T) (kd : KD ci) (hcl : Cond.classLink μ.1.cls idx C ∈ lw_good) (hins : Cond.instantiable C (fN ci) ∈ lw_good) (hini : Cond.initialized C ∈ lw_good) (hd : decode μ.2.1 pc = .ok (.new idx, 3)) (hk : Nat.ble (k' + 1) k = true) (hn : Nat.ble (n' + fN ci) n = true)
    (kk : V g μ E CX k' n' (pc + 3) ls (.ref (zN σ + 1) :: st) (nw σ ci (fN ci))) : V g μ E CX k n pc ls st σ := by
  refine V_alloc (e' := .inr (ci, (List.range (fN ci)).map (fun k => defaultValue (fT ci k)))) (by have := ko.2.2.2.2; omega) hk hn (fun h => h) (fun ρ => ?_) (fun p e s m args below meth c C H locs cells slots ρ lr Q hCn hS h1 h2 k => ?_) kk
  · rw [ent_obj zK_new ko.2.2.2.2]
    refine congrArg _ (congrArg _ (List.map_congr_left fun j hj => ?_))
    have hj := kd j (List.mem_range.mp hj)
    revert hj
    generalize fT ci j = t
    intro hj
    cases t <;> first | exact absurd rfl hj.1 | exact absurd rfl hj.2 | (simp only [fv, zI_nw, zJ_nw, zR_nw, if_pos]; rfl)
  · exact va_new C.1 C.2.1 C.2.2.2.2.1 ko.2.1 (fT ci) ko.2.2.1 C.2.2.2.1 (C.2.2.2.2.1 _ hcl) (C.2.2.2.2.1 _ hins) (C.2.2.2.2.1 _ hini) C.2.2.2.2.2.2.2.2.2.1.1 hCn.1 hCn.2.1 hS (fun q hq => Nat.le_trans C.2.2.2.2.2.2.2.2.2.2.1 hq) ko.1 (fun j hj => by simp [vp_V, List.getD, List.getElem?_range hj]) h1 h2 hd k
theorem ra_eq {D : va_G} {cl : List vw_C} {tys : List (ClassId × FieldType)} {cA : ClassId} {ty : FieldType} {s : State} (t0 : Nat) {cB : ClassId} (h1 : va_K D cl tys s) (ht : tys[t0]? = some (cB, ty)) (h2 : va_K D cl (tys ++ [(cA, ty)]) s) : cA = cB := by
  have a1 := (h1.2 t0 _ ht).2
  have a2 := (h2.2 tys.length (cA, ty) (by simp)).2
  cases ty with
  | object C =>
    obtain ⟨_, _, _, _, _, e1⟩ := a1
    obtain ⟨_, _, _, _, _, e2⟩ := a2
    exact Option.some.inj (e2.symm.trans e1)
  | _ => exact Option.some.inj (Eq.trans (Eq.symm a2) a1)
theorem V_newi {z : Int32} {len k' n' : Nat} (hw : Cond.arrayClass .int ∈ lw_good) (hd : decode μ.2.1 pc = .ok (.newarray .int, 2)) (hz : ¬ z < 0) (hlen : z.toNatClampNeg = len) (hb : Nat.ble len 100000 = true) (hk : Nat.ble (k' + 1) k = true) (hn : Nat.ble (n' + len) n = true)
    (kk : V g μ E CX k' n' (pc + 2) ls (.ref (zN σ + 1) :: st) (nw σ 20 len)) : V g μ E CX k n pc ls (.int z :: st) σ := by
  have hb := Nat.le_of_ble_eq_true hb
  refine V_alloc (e' := .inl (g.2.2.1 20, len, .inl (fun _ => 0))) (by decide) hk hn (fun h => wv_tail h) (fun ρ => ?_) (fun p e s m args below meth c C H locs cells slots ρ lr Q hCn hS h1 h2 k => ?_) kk
  · rw [ent_ia zK_new, zL_nw, if_pos rfl]
    refine congrArg _ (congrArg _ (congrArg _ (congrArg _ ?_)))
    funext j
    rw [zI_nw, if_pos rfl]
  · refine va_newa (atype := .int) (a0 := (len, .inl (fun _ => 0))) (ty := .int) C.1 C.2.1 (C.2.2.2.2.1 _ hw) rfl C.2.2.2.2.2.2.2.2.2.1.1 hCn.1 hCn.2.1 hS (fun q hq => Nat.le_trans C.2.2.2.2.2.2.2.2.2.2.1 hq) (fun cA => rfl) hz hlen (by show len * 4 ≤ _; omega) h1 h2 hd (fun q cA H1 hK1 hP hD hS1 => ?_)
    have e := ra_eq 0 C.2.2.2.2.2.2.2.2.2.1.1 rfl hK1
    subst e
    exact k q H1 hP hD hS1
theorem V_newz {z : Int32} {len k' n' : Nat} (hw : Cond.arrayClass .boolean ∈ lw_good) (hd : decode μ.2.1 pc = .ok (.newarray .boolean, 2)) (hz : ¬ z < 0) (hlen : z.toNatClampNeg = len) (hb : Nat.ble len 100000 = true) (hk : Nat.ble (k' + 1) k = true) (hn : Nat.ble (n' + len) n = true)
    (kk : V g μ E CX k' n' (pc + 2) ls (.ref (zN σ + 1) :: st) (nw σ 22 len)) : V g μ E CX k n pc ls (.int z :: st) σ := by
  have hb := Nat.le_of_ble_eq_true hb
  refine V_alloc (e' := .inl (g.2.2.1 22, len, .inl (fun _ => 0))) (by decide) hk hn (fun h => wv_tail h) (fun ρ => ?_) (fun p e s m args below meth c C H locs cells slots ρ lr Q hCn hS h1 h2 k => ?_) kk
  · rw [ent_za zK_new, zL_nw, if_pos rfl]
    refine congrArg _ (congrArg _ (congrArg _ (congrArg _ ?_)))
    funext j
    rw [zI_nw, if_pos rfl]
  · refine va_newa (atype := .boolean) (a0 := (len, .inl (fun _ => 0))) (ty := .boolean) C.1 C.2.1 (C.2.2.2.2.1 _ hw) rfl C.2.2.2.2.2.2.2.2.2.1.1 hCn.1 hCn.2.1 hS (fun q hq => Nat.le_trans C.2.2.2.2.2.2.2.2.2.2.1 hq) (fun cA => rfl) hz hlen (by show len * 1 ≤ _; omega) h1 h2 hd (fun q cA H1 hK1 hP hD hS1 => ?_)
    have e := ra_eq 2 C.2.2.2.2.2.2.2.2.2.1.1 rfl hK1
    subst e
    exact k q H1 hP hD hS1
theorem V_newl {z : Int32} {len k' n' : Nat} (hw : Cond.arrayClass .long ∈ lw_good) (hd : decode μ.2.1 pc = .ok (.newarray .long, 2)) (hz : ¬ z < 0) (hlen : z.toNatClampNeg = len) (hb : Nat.ble len 100000 = true) (hk : Nat.ble (k' + 1) k = true) (hn : Nat.ble (n' + len) n = true)
    (kk : V g μ E CX k' n' (pc + 2) ls (.ref (zN σ + 1) :: st) (nw σ 21 len)) : V g μ E CX k n pc ls (.int z :: st) σ := by
  have hb := Nat.le_of_ble_eq_true hb
  refine V_alloc (e' := .inl (g.2.2.1 21, len, .inr (.inl (fun _ => 0)))) (by decide) hk hn (fun h => wv_tail h) (fun ρ => ?_) (fun p e s m args below meth c C H locs cells slots ρ lr Q hCn hS h1 h2 k => ?_) kk
  · rw [ent_ja zK_new, zL_nw, if_pos rfl]
    refine congrArg _ (congrArg _ (congrArg _ (congrArg _ (congrArg _ ?_))))
    funext j
    rw [zJ_nw, if_pos rfl]
  · refine va_newa (atype := .long) (a0 := (len, .inr (.inl (fun _ => 0)))) (ty := .long) C.1 C.2.1 (C.2.2.2.2.1 _ hw) rfl C.2.2.2.2.2.2.2.2.2.1.1 hCn.1 hCn.2.1 hS (fun q hq => Nat.le_trans C.2.2.2.2.2.2.2.2.2.2.1 hq) (fun cA => rfl) hz hlen (by show len * 8 ≤ _; omega) h1 h2 hd (fun q cA H1 hK1 hP hD hS1 => ?_)
    have e := ra_eq 1 C.2.2.2.2.2.2.2.2.2.1.1 rfl hK1
    subst e
    exact k q H1 hP hD hS1
theorem V_newq {κ t0 idx : Nat} {CC : String} {z : Int32} {len k' n' : Nat} (ao : AO κ CC t0) (hao : CC ∈ lw_ao) (hcl : Cond.classLink μ.1.cls idx CC ∈ lw_good) (hd : decode μ.2.1 pc = .ok (.anewarray idx, 3)) (hz : ¬ z < 0) (hlen : z.toNatClampNeg = len) (hb : Nat.ble len 100000 = true) (hk : Nat.ble (k' + 1) k = true) (hn : Nat.ble (n' + len) n = true)
    (kk : V g μ E CX k' n' (pc + 3) ls (.ref (zN σ + 1) :: st) (nw σ κ len)) : V g μ E CX k n pc ls (.int z :: st) σ := by
  have hb := Nat.le_of_ble_eq_true hb
  refine V_alloc (e' := .inl (g.2.2.1 κ, len, .inr (.inr (.inr (.inr (fun _ => none)))))) (by have := ao.1; omega) hk hn (fun h => wv_tail h) (fun ρ => ?_) (fun p e s m args below meth c C H locs cells slots ρ lr Q hCn hS h1 h2 k => ?_) kk
  · rw [ent_qa zK_new ao.1, zL_nw, if_pos rfl]
    refine congrArg _ (congrArg _ (congrArg _ (congrArg _ (congrArg _ (congrArg _ (congrArg _ ?_))))))
    funext j
    rw [zR_nw, if_pos rfl]
    rfl
  · refine va_newq C.1 C.2.1 C.2.2.2.1 (C.2.2.2.2.1 _ hcl) (C.2.2.2.2.2.2.2.2.2.1.2.2.1 _ hao) C.2.2.2.2.2.2.2.2.2.1.1 hCn.1 hCn.2.1 hS (fun q hq => Nat.le_trans C.2.2.2.2.2.2.2.2.2.2.1 hq) hz hlen (by omega) h1 h2 hd (fun q cA H1 hK1 hP hD hS1 => ?_)
    have e := ra_eq t0 C.2.2.2.2.2.2.2.2.2.1.1 (ao.2 _) hK1
    subst e
    exact k q H1 hP hD hS1
/-! ===== ends ===== -/
theorem Pt_Qe {Q : AH → Option Value → Prop} {s : State} {H : Heap} {locs : List Loc} {cells slots : Nat} {ρ ρ0 : Nat → Nat} {n0 : Nat} {lr : Array Slot} (P : Pt1 g μ s k n ls st σ H locs cells slots ρ ρ0 n0 lr) {rv : Option Value} (hrv : ∀ v ∈ rv, wv (zN σ) v) (hQ : Q σ rv) (args : Array Value) (t : State) (ht : t.heap = H) : Qe g ρ0 n0 Q args s (.returned (rv.map (cv ρ))) t :=
  ⟨ρ, σ, rv, rfl, hQ, by rw [ht]; exact P.1, P.2.2.2.2.2.1, P.2.2.2.2.2.2.1, hrv, by rw [ht]; exact P.2.2.2.2.1⟩
theorem V_iret {Q : AH → Option Value → Prop} {X : AH → String → Prop} {x : Int32} (hr : μ.2.2.2.1 = some .int) (hd : decode μ.2.1 pc = .ok (.ireturn, 1)) (hQ : Q σ (some (.int x))) : V g μ (Em g μ Q X) CX k n pc ls [.int x] σ := by
  intro p e s m args below meth c C H locs cells slots ρ ρ0 n0 lr P
  refine W.widen (k := μ.2.2.2.2.2.cells) (n := μ.2.2.2.2.2.slots) (by have := P.2.2.1; omega) (by have := P.2.2.2.1; omega) (vx_ret ?_)
  exact W.iret C.1 C.2.1 (C.2.2.2.2.2.2.1.trans hr) (fun t ht _ => Pt_Qe P (rv := some (.int x)) (fun v hv => by cases hv; trivial) hQ args t ht) P.2.1 hd C.2.2.2.2.2.1
theorem V_zret {Q : AH → Option Value → Prop} {X : AH → String → Prop} {x : Int32} (hr : μ.2.2.2.1 = some .boolean) (hd : decode μ.2.1 pc = .ok (.ireturn, 1)) (hx : narrow .boolean (.int x) = .int x) (hQ : Q σ (some (.int x))) : V g μ (Em g μ Q X) CX k n pc ls [.int x] σ := by
  intro p e s m args below meth c C H locs cells slots ρ ρ0 n0 lr P
  refine W.widen (k := μ.2.2.2.2.2.cells) (n := μ.2.2.2.2.2.slots) (by have := P.2.2.1; omega) (by have := P.2.2.2.1; omega) (vx_ret ?_)
  exact W.zret C.1 C.2.1 (C.2.2.2.2.2.2.1.trans hr) hx (fun t ht _ => Pt_Qe P (rv := some (.int x)) (fun v hv => by cases hv; trivial) hQ args t ht) P.2.1 hd C.2.2.2.2.2.1
theorem V_lret {Q : AH → Option Value → Prop} {X : AH → String → Prop} {x : Int64} (hr : μ.2.2.2.1 = some .long) (hd : decode μ.2.1 pc = .ok (.lreturn, 1)) (hQ : Q σ (some (.long x))) : V g μ (Em g μ Q X) CX k n pc ls [.long x] σ := by
  intro p e s m args below meth c C H locs cells slots ρ ρ0 n0 lr P
  refine W.widen (k := μ.2.2.2.2.2.cells) (n := μ.2.2.2.2.2.slots) (by have := P.2.2.1; omega) (by have := P.2.2.2.1; omega) (vx_ret ?_)
  exact W.lret C.1 C.2.1 (C.2.2.2.2.2.2.1.trans hr) (fun t ht _ => Pt_Qe P (rv := some (.long x)) (fun v hv => by cases hv; trivial) hQ args t ht) P.2.1 hd C.2.2.2.2.2.1
theorem V_vret {Q : AH → Option Value → Prop} {X : AH → String → Prop} (hr : μ.2.2.2.1 = none) (hd : decode μ.2.1 pc = .ok (.return_, 1)) (hQ : Q σ none) : V g μ (Em g μ Q X) CX k n pc ls [] σ := by
  intro p e s m args below meth c C H locs cells slots ρ ρ0 n0 lr P
  refine W.widen (k := μ.2.2.2.2.2.cells) (n := μ.2.2.2.2.2.slots) (by have := P.2.2.1; omega) (by have := P.2.2.2.1; omega) (vx_ret ?_)
  exact W.vret C.1 C.2.1 (C.2.2.2.2.2.2.1.trans hr) (fun t ht _ => Pt_Qe P (rv := none) (fun v hv => by cases hv) hQ args t ht) P.2.1 hd C.2.2.2.2.2.1
theorem V_aret {Q : AH → Option Value → Prop} {X : AH → String → Prop} {a : Nat} {CC : String} (hr : μ.2.2.2.1 = some (.object CC)) (hd : decode μ.2.1 pc = .ok (.areturn, 1)) (hQ : Q σ (some (.ref a))) : V g μ (Em g μ Q X) CX k n pc ls [.ref a] σ := by
  intro p e s m args below meth c C H locs cells slots ρ ρ0 n0 lr P
  refine W.widen (k := μ.2.2.2.2.2.cells) (n := μ.2.2.2.2.2.slots) (by have := P.2.2.1; omega) (by have := P.2.2.2.1; omega) (vx_ret ?_)
  exact W.aret C.1 C.2.1 (C.2.2.2.2.2.2.1.trans hr) (Or.inl ⟨_, rfl⟩) (by by_cases h : a = 0 <;> simp [cv, h]) (fun t ht _ => Pt_Qe P (rv := some (.ref a)) (fun v hv => by cases hv; exact wv_hd P.2.2.2.2.2.2.2.2.2) hQ args t ht) P.2.1 hd C.2.2.2.2.2.1
theorem cats (ρ : Nat → Nat) (st : List Value) : ((st.map (cv ρ)).map fun v => v.category).sum = (st.map fun v => v.category).sum := by
  rw [List.map_map]
  refine congrArg _ (List.map_congr_left fun v _ => cv_cat ρ v)
/-- super() of Object -/
theorem V_objinit {idx a : Nat} (hl : Cond.methodLink μ.1.cls idx Lib.objectInit ∈ lw_good) (hi : Cond.instanceMethod Lib.objectInit ∈ lw_good) (hc : Cond.code Lib.objectInit ⟨#[0xb1]⟩ 1 none ∈ lw_good) (hd : decode μ.2.1 pc = .ok (.invokespecial idx, 3)) (h0 : a ≠ 0) (hf : Nat.ble 1 μ.2.2.2.2.2.frames = true) (hlo : Nat.ble ((st.map fun v => v.category).sum + 12) μ.2.2.2.2.2.locals = true)
    (kk : V g μ E CX k n (pc + 3) ls st σ) : V g μ E CX k n pc ls (.ref a :: st) σ := by
  refine V_step (fun _ _ h => wv_tail h) (fun p e s m args below meth c C H locs cells slots ρ lr Q hCn hlr hst _ k => ?_) kk
  rw [List.map_cons, cv_ref h0]
  refine W.objInit C.1 C.2.1 C.2.2.2.1 (C.2.2.2.2.1 _ hl) (C.2.2.2.2.1 _ hi) (C.2.2.2.2.1 _ hc) rfl (hlr.1.trans C.2.2.1.symm) rfl hd (Nat.le_of_ble_eq_true hf) ?_ k
  have := Nat.le_of_ble_eq_true hlo
  show 2 * 0 + ((st.map (cv ρ)).map fun v => v.category).sum + 12 ≤ _
  rw [cats]
  omega
end VA
end
section
/-! ===== contracts of methods ===== -/
def wsy (μ : MI) : List Cond := .code μ.1 μ.2.1 μ.2.2.1 μ.2.2.2.1 :: lw_good
def wsh (μ : MI) : List Cond := .codeWith μ.1 μ.2.1 μ.2.2.1 μ.2.2.2.1 μ.2.2.2.2.1 :: lw_good
def Pe (g : GP) (ρ : Nat → Nat) (as : List Value) (σ : AH) : Array Value → State → Prop := va_Pc (as.map (cv ρ)) (fun U => Cn g ρ σ U.heap ∧ Amb g U ∧ (∀ v ∈ as, wv (zN σ) v) ∧ g.1.stackTraces = false)
/-- it returns with Q -/
def Ct (g : GP) (μ : MI) (as : List Value) (σ : AH) (Q : AH → Option Value → Prop) : Prop := ∀ ρ, Met g.1 μ.1 (wsy μ) μ.2.2.2.2.2 (Pe g ρ as σ) (Qe g ρ (zN σ) Q) μ.2.2.2.2.2.cells μ.2.2.2.2.2.slots (bs g.2.2.2.1)
/-- it returns with Q or throws with X -/
def CtX (g : GP) (μ : MI) (as : List Value) (σ : AH) (Q : AH → Option Value → Prop) (X : AH → String → Prop) : Prop := ∀ ρ, vx_Met g.1 μ.1 (wsy μ) μ.2.2.2.2.2 (Pe g ρ as σ) (Qe g ρ (zN σ) Q) (Xe g ρ (zN σ) X) μ.2.2.2.2.2.cells μ.2.2.2.2.2.slots (bs g.2.2.2.1)
/-- the same, of a method with handlers -/
def CtH (g : GP) (μ : MI) (as : List Value) (σ : AH) (Q : AH → Option Value → Prop) : Prop := ∀ ρ, Met g.1 μ.1 (wsh μ) μ.2.2.2.2.2 (Pe g ρ as σ) (Qe g ρ (zN σ) Q) μ.2.2.2.2.2.cells μ.2.2.2.2.2.slots (bs g.2.2.2.1)
def NX : AH → String → Prop := fun _ _ => False
theorem Pe_blind (g : GP) (ρ : Nat → Nat) (as : List Value) (σ : AH) : FrameBlind (Pe g ρ as σ) := fun a U g' mk ⟨h1, h2, h3, h4⟩ => ⟨h1, h2, Amb.warm (s := U) (State.WarmedH.refl U) h3, h4⟩
theorem W.mono {p : Program} {l : Launch} {e : Env} {R : Room} {s : State} {m : MethodId} {args : Array Value} {below : List Frame} {meth : Method} {c : Code} {H : Heap} {locs : List Loc} {cells slots : Nat} {Q Q' : State → Prop} {f : JFrame} (h : ∀ t, Q t → Q' t) (k : W p l e R s m args below meth c H locs cells slots Q f) : W p l e R s m args below meth c H locs cells slots Q' f := fun T hT X => by
  obtain ⟨t, a, b⟩ := k T hT X
  exact ⟨t, a, h t b⟩
theorem Em_NX {g : GP} {μ : MI} {Q : AH → Option Value → Prop} {below : List Frame} {args : Array Value} {s : State} {ρ0 : Nat → Nat} {n0 : Nat} : ∀ t, Em g μ Q NX below args s ρ0 n0 t → MQ below (Qe g ρ0 n0 Q) args s μ.2.2.2.2.2.cells μ.2.2.2.2.2.slots (bs g.2.2.2.1) t := fun t ⟨o, h1, h2, h3⟩ => by
  rcases h3 with ⟨h3, h4⟩ | ⟨q, h3, E, ce, L, ⟨ρ, σ, hX, _⟩, _⟩
  · exact ⟨o, h1, h2, h3, h4⟩
  · exact hX.elim
/-- what is decided of a method by its numbers -/
def MOk (μ : MI) : Prop := plainName μ.1.cls = true ∧ (Nat.ble (lg_sl (List.replicate 0 Value.null)).length 0 = true)
theorem lg_sl_cv (ρ : Nat → Nat) (as : List Value) : (lg_sl (as.map (cv ρ))).length = (lg_sl as).length := by
  unfold lg_sl
  rw [List.length_flatMap, List.length_flatMap, List.map_map]
  refine congrArg _ (List.map_congr_left fun v _ => ?_)
  simp only [Function.comp, cv_cat]
  split <;> rfl
theorem lv_args_cv (ρ : Nat → Nat) : ∀ (as : List Value) (i : Nat), lv_args i (as.map (cv ρ)) = lcv ρ (lv_args i as)
  | [], _ => rfl
  | v :: t, i => by
    simp only [List.map_cons, lv_args, cv_cat, lcv]
    rw [lv_args_cv ρ t]
    rfl
theorem lv_args_wv {N : Nat} : ∀ (as : List Value) (i : Nat), (∀ v ∈ as, wv N v) → ∀ q ∈ lv_args i as, wv N q.2
  | [], _, _, q, h => by cases h
  | v :: t, i, h, q, hq => by
    rcases List.mem_cons.mp hq with rfl | hq
    · exact h v List.mem_cons_self
    · exact lv_args_wv t _ (fun x hx => h x (List.mem_cons_of_mem _ hx)) q hq
/-- from a method's entry -/
theorem V_enter {g : GP} {μ : MI} {E : ET} {as : List Value} {σ : AH} (hlen : Nat.ble (lg_sl as).length μ.2.2.1 = true)
    (kk : V g μ E CT μ.2.2.2.2.2.cells μ.2.2.2.2.2.slots 0 (lv_args 0 as) [] σ) {p : Program} {e : Env} {s : State} {m : MethodId} {args : Array Value} {below : List Frame} {meth : Method} {c : Code} {ρ : Nat → Nat}
    (C : Cx g μ CT p s m args meth c) (hP : Cn g ρ σ s.heap) (ha : args = (as.map (cv ρ)).toArray) (hw : ∀ v ∈ as, wv (zN σ) v) :
    W p g.1 e μ.2.2.2.2.2 s m args below meth c s.heap [] 0 0 (E below args s ρ (zN σ)) (entryFrame m args μ.2.2.1) := by
  have hl := lv_entry (as.map (cv ρ)) (n := μ.2.2.1) (by rw [lg_sl_cv]; exact Nat.le_of_ble_eq_true hlen)
  rw [ha, lg_entry_eq, ← ha]
  generalize (lg_sl (as.map (cv ρ)) ++ List.replicate (μ.2.2.1 - (lg_sl (as.map (cv ρ))).length) Slot.unset).toArray = lr at hl ⊢
  rw [lv_args_cv] at hl
  exact kk p e s m args below meth c C s.heap [] 0 0 ρ ρ (zN σ) lr ⟨hP, fun _ h => (by cases h), by omega, by omega, Nat.le_refl _, fun _ _ _ => rfl, Nat.le_refl _, hl, lv_args_wv as 0 hw, fun _ h => (by cases h)⟩
theorem CtX_of {g : GP} {μ : MI} {as : List Value} {σ : AH} {Q : AH → Option Value → Prop} {X : AH → String → Prop} (hy : plainName μ.1.cls = true) (hh : μ.2.2.2.2.1 = []) (hlen : Nat.ble (lg_sl as).length μ.2.2.1 = true)
    (kk : V g μ (Em g μ Q X) CT μ.2.2.2.2.2.cells μ.2.2.2.2.2.slots 0 (lv_args 0 as) [] σ) : CtX g μ as σ Q X := by
  intro ρ
  refine vx_ofW (cc := μ.2.1) (maxL := μ.2.2.1) (ret := μ.2.2.2.1) hy rfl ?_
  intro p e s m args below meth c s₁ B hml ht hv
  obtain ⟨ha, hP, hA, hw, hst⟩ := hv
  have hts := atoms_spec (ws := wsy μ) B.pre
  exact V_enter (E := Em g μ Q X) hlen kk ⟨B.exec, B.bytes, hml, findClass_of_methodNamed B.named, fun w hw => hts w (List.mem_cons_of_mem _ hw), B.notSynchronized, B.returns, (name_of_methodNamed B.named B.method).1, by
    rw [hh]
    cases h9 : c.exceptionTable.toList with
    | nil => rfl
    | cons x t => exact (ht x (by rw [h9]; exact List.mem_cons_self)).elim, hA, hP.2.2.1, hP.2.2.2.1, hst, trivial⟩ hP ha hw
theorem Ct_of {g : GP} {μ : MI} {as : List Value} {σ : AH} {Q : AH → Option Value → Prop} (hy : plainName μ.1.cls = true) (hh : μ.2.2.2.2.1 = []) (hlen : Nat.ble (lg_sl as).length μ.2.2.1 = true)
    (kk : V g μ (Em g μ Q NX) CT μ.2.2.2.2.2.cells μ.2.2.2.2.2.slots 0 (lv_args 0 as) [] σ) : Ct g μ as σ Q := by
  intro ρ
  refine Met.ofW (cc := μ.2.1) (maxL := μ.2.2.1) (ret := μ.2.2.2.1) hy rfl ?_
  intro p e s m args below meth c s₁ B hml hv
  obtain ⟨ha, hP, hA, hw, hst⟩ := hv
  have hts := atoms_spec (ws := wsy μ) B.pre
  refine W.mono Em_NX (V_enter (E := Em g μ Q NX) hlen kk ⟨B.exec, B.bytes, hml, findClass_of_methodNamed B.named, fun w hw => hts w (List.mem_cons_of_mem _ hw), B.notSynchronized, B.returns, (name_of_methodNamed B.named B.method).1, ?_, hA, hP.2.2.1, hP.2.2.2.1, hst, trivial⟩ hP ha hw)
  rw [hh]
  obtain ⟨meth9, c9, h1, h2, -, -, -, -, h7, -⟩ := Cond.code_spec B.named (hts _ List.mem_cons_self)
  cases Option.some.inj (h1.symm.trans B.method)
  cases Option.some.inj (h2.symm.trans (Stand.of_body B).code)
  rw [Array.isEmpty_iff.mp h7]
  rfl
theorem CtH_of {g : GP} {μ : MI} {as : List Value} {σ : AH} {Q : AH → Option Value → Prop} (hy : plainName μ.1.cls = true) (hlen : Nat.ble (lg_sl as).length μ.2.2.1 = true)
    (kk : V g μ (Em g μ Q NX) CT μ.2.2.2.2.2.cells μ.2.2.2.2.2.slots 0 (lv_args 0 as) [] σ) : CtH g μ as σ Q := by
  intro ρ
  refine MetFree.of_bodyS (code := μ.2.1) (maxLocals := μ.2.2.1) (ret := μ.2.2.2.1) hy ?_ ?_
  · intro args s m h hn
    obtain ⟨m9, meth, c, hn9, h1, h2, h3, h4, -, h5, h6, -⟩ := Cond.codeWith_spec (atoms_spec (ws := wsh μ) h _ List.mem_cons_self)
    cases hn.symm.trans hn9
    exact ⟨meth, c, h1, h2, h3, h4, h5, h6⟩
  · intro p e s m args below meth c s₁ B hml hv _
    obtain ⟨ha, hP, hA, hw, hst⟩ := hv
    have hts := atoms_spec (ws := wsh μ) B.pre
    have hh0 : s₁.heap = s.heap := by rw [B.state]; rfl
    have K := W.mono Em_NX (V_enter (E := Em g μ Q NX) (e := e) (below := below) hlen kk ⟨B.exec, B.bytes, hml, findClass_of_methodNamed B.named, fun w hw => hts w (List.mem_cons_of_mem _ hw), B.notSynchronized, B.returns, (name_of_methodNamed B.named B.method).1, vx_table (x := μ.1) B (hts _ List.mem_cons_self), hA, hP.2.2.1, hP.2.2.2.1, hst, trivial⟩ hP ha hw)
    obtain ⟨t, a1, o, b1, b2, b3⟩ := K s₁ hh0 (Stand.of_body B)
    exact ⟨t, o, a1, b1, b2, b3⟩
/-! ===== behind a call ===== -/
section VC
variable {g : GP} {μ z : MI} {E : ET} {CX : State → Array Value → Prop} {k n k' n' pc : Nat} {ls : List (Nat × Value)} {st as : List Value} {σ : AH} {Q : AH → Option Value → Prop} {X : AH → String → Prop}
/-- the numbers of a call: room for frames, locals, cells, slots -/
def RF (μ z : MI) (k n k' n' : Nat) (st : List Value) : Prop := Nat.ble (z.2.2.2.2.2.frames + 1) μ.2.2.2.2.2.frames = true ∧ Nat.ble (8 + (z.2.2.1 + 11) + z.2.2.2.2.2.locals) μ.2.2.2.2.2.locals = true ∧ Nat.ble (z.2.2.2.2.2.cells + k') k = true ∧ Nat.ble (z.2.2.2.2.2.slots + n') n = true ∧ Nat.ble (st.map fun v => v.category).sum 8 = true
theorem V_back {p : Program} {s : State} {m : MethodId} {args : Array Value} {meth : Method} {c : Code} (C : Cx g μ CX p s m args meth c) {H : Heap} {locs : List Loc} {cells slots : Nat} {ρ ρ0 : Nat → Nat} {n0 : Nat} {lr : Array Slot} {st0 : List Value} (P : Pt1 g μ s k n ls st0 σ H locs cells slots ρ ρ0 n0 lr) (hst : ∀ v ∈ st, wv (zN σ) v) {mc ms : Nat} (hk : mc + k' ≤ k) (hn : ms + n' ≤ n)
    {a : Array Value} {v : Option Value} {st₀ t T' : State} {L : List Loc} (h0 : st₀.heap = H) (hL : ∀ q ∈ L, bs g.2.2.2.1 q.base) (e1 : T'.heap = t.heap) (hq : Qe g ρ (zN σ) Q a st₀ (.returned v) t) :
    ∃ (ρ' : Nat → Nat) (σ' : AH) (rv : Option Value), v = rv.map (cv ρ') ∧ Q σ' rv ∧ Pt1 g μ s k' n' ls (rv.toList ++ st) σ' T'.heap (locs ++ L) (cells + mc) (slots + ms) ρ' ρ0 n0 lr ∧ (v.toList ++ st.map (cv ρ)) = (rv.toList ++ st).map (cv ρ') := by
  obtain ⟨ρ', σ', rv, hv, hQ, hC, hag, hn1, hrv, hsz⟩ := hq
  obtain ⟨p1, p2, p3, p4, p5, p6, p7, p8, p9, p10⟩ := P
  cases hv
  refine ⟨ρ', σ', rv, rfl, hQ, ⟨by rw [e1]; exact hC, fun q h => ?_, by omega, by omega, by rw [e1]; rw [h0] at hsz; omega, fun x h1 h2 => ?_, by omega, ?_, fun q h => wv_mono hn1 (p9 q h), fun x h => ?_⟩, ?_⟩
  · rcases List.mem_append.mp h with h | h
    · exact p2 q h
    · exact hL q h
  · rw [hag x h1 (by omega)]; exact p6 x h1 h2
  · rw [lcv_agree hag p9]; exact p8
  · rcases List.mem_append.mp h with h | h
    · exact hrv x (Option.mem_toList.mp h)
    · exact wv_mono hn1 (hst x h)
  · rw [List.map_append, st_agree hag hst]
    cases rv <;> rfl
theorem V_ret {p : Program} {e : Env} {s : State} {m : MethodId} {args : Array Value} {below : List Frame} {meth : Method} {c : Code} (C : Cx g μ CX p s m args meth c) {H : Heap} {locs : List Loc} {cells slots : Nat} {ρ ρ0 : Nat → Nat} {n0 : Nat} {lr : Array Slot} {st0 : List Value} (P : Pt1 g μ s k n ls st0 σ H locs cells slots ρ ρ0 n0 lr) (hst : ∀ v ∈ st, wv (zN σ) v) {mc ms : Nat} (hk : mc + k' ≤ k) (hn : ms + n' ≤ n)
    {a : Array Value} (hr : va_Run p g.1 e μ.2.2.2.2.2 s m args below meth c H locs cells slots mc ms (F0 m pc lr (st0.map (cv ρ))) (st.map (cv ρ)) (Qe g ρ (zN σ) Q a) (bs g.2.2.2.1))
    (kk : ∀ σ' rv, Q σ' rv → V g μ E CX k' n' (pc + 3) ls (rv.toList ++ st) σ') : W p g.1 e μ.2.2.2.2.2 s m args below meth c H locs cells slots (E below args s ρ0 n0) (F0 m pc lr (st0.map (cv ρ))) := by
  intro T hT X
  obtain ⟨v, st₀, t, T', L, h0, X', hL, e1, e2, hq, go⟩ := hr T hT X
  obtain ⟨ρ', σ', rv, hv, hQ, P', he⟩ := V_back C P hst hk hn h0 hL e1 hq
  obtain ⟨t2, a1, b1⟩ := kk σ' rv hQ p e s m args below meth c C T'.heap (locs ++ L) _ _ ρ' ρ0 n0 lr P' T' rfl X'
  refine ⟨t2, go t2 ?_, b1⟩
  rw [he]
  exact a1
theorem V_retX {p : Program} {e : Env} {s : State} {m : MethodId} {args : Array Value} {below : List Frame} {meth : Method} {c : Code} (C : Cx g μ CX p s m args meth c) {H : Heap} {locs : List Loc} {cells slots : Nat} {ρ ρ0 : Nat → Nat} {n0 : Nat} {lr : Array Slot} {st0 : List Value} (P : Pt1 g μ s k n ls st0 σ H locs cells slots ρ ρ0 n0 lr) (hst : ∀ v ∈ st, wv (zN σ) v) {mc ms : Nat} (hk : mc + k' ≤ k) (hn : ms + n' ≤ n)
    {a : Array Value} (hr : vx_Run p g.1 e μ.2.2.2.2.2 s m args below meth c H locs cells slots mc ms (F0 m pc lr (st0.map (cv ρ))) (st.map (cv ρ)) (Qe g ρ (zN σ) Q a) (Xe g ρ (zN σ) X) (bs g.2.2.2.1))
    (kk : ∀ σ' rv, Q σ' rv → V g μ E CX k' n' (pc + 3) ls (rv.toList ++ st) σ')
    (kx : ∀ (σ' : AH) (Ex : String) (q : Addr) (ce : Cell) (H1 : Heap) (locs1 : List Loc) (ρ' : Nat → Nat), X σ' Ex → Pt1 g μ s k' n' ls st σ' H1 locs1 (cells + mc) (slots + ms) ρ' ρ0 n0 lr → H1[q]? = some ce → ce.vm = .none → s.vm.findClass Ex = some ce.cls → vx_W p g.1 e μ.2.2.2.2.2 s m args below meth c H1 locs1 (cells + mc) (slots + ms) (E below args s ρ0 n0) (F0 m pc lr (st.map (cv ρ'))) q) : W p g.1 e μ.2.2.2.2.2 s m args below meth c H locs cells slots (E below args s ρ0 n0) (F0 m pc lr (st0.map (cv ρ))) := by
  intro T hT X
  rcases hr T hT X with ⟨v, st₀, t, T', L, h0, X', hL, e1, e2, hq, go⟩ | ⟨q, st₀, t, T', L, Ex, ce, h0, X', hL, e1, e2, ⟨ρ', σ', hX, hC, hag, hn1, hsz⟩, hce, hcv, hcl, st1⟩
  · obtain ⟨ρ', σ', rv, hv, hQ, P', he⟩ := V_back C P hst hk hn h0 hL e1 hq
    obtain ⟨t2, a1, b1⟩ := kk σ' rv hQ p e s m args below meth c C T'.heap (locs ++ L) _ _ ρ' ρ0 n0 lr P' T' rfl X'
    refine ⟨t2, go t2 ?_, b1⟩
    rw [he]
    exact a1
  · obtain ⟨p1, p2, p3, p4, p5, p6, p7, p8, p9, p10⟩ := P
    have P' : Pt1 g μ s k' n' ls st σ' T'.heap (locs ++ L) (cells + mc) (slots + ms) ρ' ρ0 n0 lr := by
      refine ⟨by rw [e1]; exact hC, fun q h => ?_, by omega, by omega, by rw [e1]; rw [h0] at hsz; omega, fun x h1 h2 => ?_, by omega, ?_, fun q h => wv_mono hn1 (p9 q h), fun x h => wv_mono hn1 (hst x h)⟩
      · rcases List.mem_append.mp h with h | h
        · exact p2 q h
        · exact hL q h
      · rw [hag x h1 (by omega)]; exact p6 x h1 h2
      · rw [lcv_agree hag p9]; exact p8
    obtain ⟨t2, a1, b1⟩ := kx σ' Ex q ce T'.heap (locs ++ L) ρ' hX P' (by rw [e1]; exact hce) hcv hcl T' rfl X'
    rw [st_agree hag hst] at a1
    exact ⟨t2, st1.trans a1, b1⟩
/-! ===== the words of a call ===== -/
def NoH (y : MethodName) : Prop := y.cls ≠ "java/lang/invoke/MethodHandle" ∧ y.cls ≠ "java/lang/invoke/VarHandle"
def Ar (y : MethodName) (n : Nat) : Prop := NoH y ∧ (parseMethodDescriptor y.desc).map (fun d => d.parameters.length) = some n
/-- a method's own words: its code, its class initialised -/
def MW (z : MI) : Prop := Cond.code z.1 z.2.1 z.2.2.1 z.2.2.2.1 ∈ lw_good ∧ Cond.initialized z.1.cls ∈ lw_good
theorem wsy_good (h : MW z) : GoodIn lw_good (wsy z) := lw_goodIn _ fun w hw => (List.mem_cons.mp hw).elim (fun e => e ▸ h.1) id
theorem cw_of {R : Room} {s : State} {args : Array Value} {own : String} {idx m : Nat} (hts : ∀ w ∈ lw_good, w.before args s = true) (hm : MW z) (hl : Cond.methodLink own idx z.1 ∈ lw_good) (ha : Ar z.1 m) (hf : z.2.2.2.2.2.frames + 1 ≤ R.frames) (hlo : 8 + (z.2.2.1 + 11) + z.2.2.2.2.2.locals ≤ R.locals) :
    CallB R s args own idx z.1 z.2.1 z.2.2.1 z.2.2.2.1 (wsy z) z.2.2.2.2.2 z.2.2.2.2.2.cells z.2.2.2.2.2.slots m :=
  callB_of m hts (wsy_good hm) rfl rfl rfl (hts _ hm.2) (hts _ hl) ⟨ha.1.1, ha.1.2, ha.2⟩ ⟨hf, hlo⟩
theorem cn_of {R : Room} {s : State} {args : Array Value} {own host : String} {idx m : Nat} (hts : ∀ w ∈ lw_good, w.before args s = true) (hA : Amb g s) (hm : MW z) (hl : (own, idx, z.1, host) ∈ lw_nest) (ha : Ar z.1 m) (hf : z.2.2.2.2.2.frames + 1 ≤ R.frames) (hlo : 8 + (z.2.2.1 + 11) + z.2.2.2.2.2.locals ≤ R.locals) :
    va_CN R s args own idx z.1 host z.2.1 z.2.2.1 z.2.2.2.1 (wsy z) z.2.2.2.2.2 z.2.2.2.2.2.cells z.2.2.2.2.2.slots m :=
  va_cnB m hts (wsy_good hm) rfl rfl rfl (hA.2.1 _ hl) (hts _ hm.2) ⟨ha.1.1, ha.1.2, ha.2⟩ ⟨hf, hlo⟩
theorem pe_of {p : Program} {s : State} {m : MethodId} {args : Array Value} {meth : Method} {c : Code} (C : Cx g μ CX p s m args meth c) {ρ : Nat → Nat} {H : Heap} (hC : Cn g ρ σ H) (hw : ∀ v ∈ as, wv (zN σ) v) : PreS s H (Pe g ρ as σ) (as.map (cv ρ)) :=
  ⟨Pe_blind g ρ as σ, fun U hU hW => ⟨rfl, by rw [hU]; exact hC, Amb.warm hW C.2.2.2.2.2.2.2.2.2.1, hw, C.2.2.2.2.2.2.2.2.2.2.2.2.1⟩⟩
theorem pv_of {p : Program} {s : State} {m : MethodId} {args : Array Value} {meth : Method} {c : Code} {ci a : Nat} {CC : String} {T : u_T} (C : Cx g μ CX p s m args meth c) {ρ : Nat → Nat} {H : Heap} (hC : Cn g ρ σ H) (ko : KO ci CC T) (h0 : a ≠ 0) (hK : zK σ a = ci) (hw : ∀ v ∈ .ref a :: as, wv (zN σ) v) : PreV s H CC (ρ a) (Pe g ρ (.ref a :: as) σ) (as.map (cv ρ)) := by
  refine ⟨Pe_blind g ρ _ σ, va_recv C.2.2.2.2.2.2.2.2.2.1.1 hC.1 (ci := ci) (q0 := ps σ a) ko.1 (by rw [wl_get h0 (ne9 hK (by have := ko.2.2.2.2; omega)) (wv_hd hw), ent_obj hK ko.2.2.2.2]), fun U hU hW => ⟨?_, by rw [hU]; exact hC, Amb.warm hW C.2.2.2.2.2.2.2.2.2.1, hw, C.2.2.2.2.2.2.2.2.2.2.2.2.1⟩⟩
  rw [List.map_cons, cv_ref h0]
theorem wv_args {N : Nat} {as st : List Value} (h : ∀ v ∈ as.reverse ++ st, wv N v) : (∀ v ∈ as, wv N v) ∧ ∀ v ∈ st, wv N v :=
  ⟨fun v hv => h v (List.mem_append_left _ (List.mem_reverse.mpr hv)), fun v hv => h v (List.mem_append_right _ hv)⟩
theorem wv_argsV {N a : Nat} {as st : List Value} (h : ∀ v ∈ as.reverse ++ .ref a :: st, wv N v) : (∀ v ∈ .ref a :: as, wv N v) ∧ ∀ v ∈ st, wv N v := by
  obtain ⟨h1, h2⟩ := wv_args h
  exact ⟨wv_cons (wv_hd h2) h1, wv_tail h2⟩
/-- a static call -/
theorem V_callS {idx m : Nat} (hc : Ct g z as σ Q) (hm : MW z) (hs : Cond.static z.1 ∈ lw_good) (hl : Cond.methodLink μ.1.cls idx z.1 ∈ lw_good) (ha : Ar z.1 as.length) (rf : RF μ z k n k' n' st) (hd : decode μ.2.1 pc = .ok (.invokestatic idx, 3))
    (kk : ∀ σ' rv, Q σ' rv → V g μ E CX k' n' (pc + 3) ls (rv.toList ++ st) σ') : V g μ E CX k n pc ls (as.reverse ++ st) σ := by
  intro p e s m args below meth c C H locs cells slots ρ ρ0 n0 lr P
  obtain ⟨w1, w2⟩ := wv_args P.2.2.2.2.2.2.2.2.2
  have r1 := Nat.le_of_ble_eq_true rf.1
  have r2 := Nat.le_of_ble_eq_true rf.2.1
  have r3 := Nat.le_of_ble_eq_true rf.2.2.1
  have r4 := Nat.le_of_ble_eq_true rf.2.2.2.1
  have r5 := Nat.le_of_ble_eq_true rf.2.2.2.2
  have q1 := P.2.2.1
  have q2 := P.2.2.2.1
  refine V_ret C P w2 r3 r4 (va_runS (As := as.map (cv ρ)) ⟨C.1, C.2.1, C.2.2.1, C.2.2.2.1, C.2.2.2.2.1⟩ (hc ρ) ⟨cw_of C.2.2.2.2.1 hm hl ha r1 r2, C.2.2.2.2.1 _ hs⟩ (pe_of C P.1 w1) rfl (by simp) P.2.2.2.2.2.2.2.1.1 (by simp [F0]) ?_ hd ⟨by omega, by omega⟩) kk
  exact lv_room (by rw [cats]; exact r5)
end VC
end
section
/-! ===== more calls ===== -/
section VD
variable {g : GP} {μ z : MI} {E : ET} {CX : State → Array Value → Prop} {k n k' n' pc : Nat} {ls : List (Nat × Value)} {st as : List Value} {σ : AH} {Q : AH → Option Value → Prop} {X : AH → String → Prop}
/-- a virtual call of a method of the receiver's own class -/
theorem V_callV {idx ci a : Nat} {CC : String} {T : u_T} (hc : Ct g z (.ref a :: as) σ Q) (hm : MW z) (ko : KO ci CC T) (hCC : z.1.cls = CC) (hi : Cond.instanceMethod z.1 ∈ lw_good) (hs : Cond.selects CC z.1 z.1 ∈ lw_good) (hl : Cond.methodLink μ.1.cls idx z.1 ∈ lw_good) (ha : Ar z.1 as.length) (rf : RF μ z k n k' n' st) (hd : decode μ.2.1 pc = .ok (.invokevirtual idx, 3)) (h0 : a ≠ 0) (hK : zK σ a = ci)
    (kk : ∀ σ' rv, Q σ' rv → V g μ E CX k' n' (pc + 3) ls (rv.toList ++ st) σ') : V g μ E CX k n pc ls (as.reverse ++ .ref a :: st) σ := by
  intro p e s m args below meth c C H locs cells slots ρ ρ0 n0 lr P
  obtain ⟨w1, w2⟩ := wv_argsV P.2.2.2.2.2.2.2.2.2
  have r1 := Nat.le_of_ble_eq_true rf.1
  have r2 := Nat.le_of_ble_eq_true rf.2.1
  have r3 := Nat.le_of_ble_eq_true rf.2.2.1
  have r4 := Nat.le_of_ble_eq_true rf.2.2.2.1
  have r5 := Nat.le_of_ble_eq_true rf.2.2.2.2
  have q1 := P.2.2.1
  have q2 := P.2.2.2.1
  have hM := hc ρ
  refine V_ret C P w2 r3 r4 (a := (Value.ref (ρ a) :: as.map (cv ρ)).toArray) (va_runV (C := CC) (b := ρ a) (As := as.map (cv ρ)) ⟨C.1, C.2.1, C.2.2.1, C.2.2.2.1, C.2.2.2.2.1⟩ hM ⟨cw_of C.2.2.2.2.1 hm hl ha r1 r2, C.2.2.2.2.1 _ hi, C.2.2.2.2.1 _ hs⟩ (pv_of C P.1 ko h0 hK w1) rfl (by simp) P.2.2.2.2.2.2.2.1.1 (by simp [F0, cv_ref h0]) ?_ hd ⟨by omega, by omega⟩) kk
  exact lv_room (by rw [cats]; exact r5)
/-- a constructor -/
theorem V_callI {idx a : Nat} (hc : Ct g z (.ref a :: as) σ Q) (hm : MW z) (hr : z.2.2.2.1 = none) (hn : z.1.name = "<init>") (hi : Cond.instanceMethod z.1 ∈ lw_good) (hl : Cond.methodLink μ.1.cls idx z.1 ∈ lw_good) (ha : Ar z.1 as.length) (rf : RF μ z k n k' n' st) (hd : decode μ.2.1 pc = .ok (.invokespecial idx, 3)) (h0 : a ≠ 0)
    (kk : ∀ σ' rv, Q σ' rv → V g μ E CX k' n' (pc + 3) ls (rv.toList ++ st) σ') : V g μ E CX k n pc ls (as.reverse ++ .ref a :: st) σ := by
  intro p e s m args below meth c C H locs cells slots ρ ρ0 n0 lr P
  obtain ⟨w1, w2⟩ := wv_argsV P.2.2.2.2.2.2.2.2.2
  have r1 := Nat.le_of_ble_eq_true rf.1
  have r2 := Nat.le_of_ble_eq_true rf.2.1
  have r3 := Nat.le_of_ble_eq_true rf.2.2.1
  have r4 := Nat.le_of_ble_eq_true rf.2.2.2.1
  have r5 := Nat.le_of_ble_eq_true rf.2.2.2.2
  have q1 := P.2.2.1
  have q2 := P.2.2.2.1
  have hM := hc ρ
  have hp := pe_of C P.1 w1
  rw [List.map_cons, cv_ref h0] at hp
  have hb := cw_of C.2.2.2.2.1 hm hl ha r1 r2
  rw [hr] at hb
  refine V_ret C P w2 r3 r4 (a := (Value.ref (ρ a) :: as.map (cv ρ)).toArray) (va_runI (b := ρ a) (As := as.map (cv ρ)) ⟨C.1, C.2.1, C.2.2.1, C.2.2.2.1, C.2.2.2.2.1⟩ hM ⟨hb, hn, C.2.2.2.2.1 _ hi⟩ hp rfl (by simp) P.2.2.2.2.2.2.2.1.1 (by simp [F0, cv_ref h0]) ?_ hd ⟨by omega, by omega⟩) kk
  exact lv_room (by rw [cats]; exact r5)
/-- a nest mate's private constructor -/
theorem V_callIN {idx a : Nat} {host : String} (hc : Ct g z (.ref a :: as) σ Q) (hm : MW z) (hr : z.2.2.2.1 = none) (hn : z.1.name = "<init>") (hi : Cond.instanceMethod z.1 ∈ lw_good) (hl : (μ.1.cls, idx, z.1, host) ∈ lw_nest) (ha : Ar z.1 as.length) (rf : RF μ z k n k' n' st) (hd : decode μ.2.1 pc = .ok (.invokespecial idx, 3)) (h0 : a ≠ 0)
    (kk : ∀ σ' rv, Q σ' rv → V g μ E CX k' n' (pc + 3) ls (rv.toList ++ st) σ') : V g μ E CX k n pc ls (as.reverse ++ .ref a :: st) σ := by
  intro p e s m args below meth c C H locs cells slots ρ ρ0 n0 lr P
  obtain ⟨w1, w2⟩ := wv_argsV P.2.2.2.2.2.2.2.2.2
  have r1 := Nat.le_of_ble_eq_true rf.1
  have r2 := Nat.le_of_ble_eq_true rf.2.1
  have r3 := Nat.le_of_ble_eq_true rf.2.2.1
  have r4 := Nat.le_of_ble_eq_true rf.2.2.2.1
  have r5 := Nat.le_of_ble_eq_true rf.2.2.2.2
  have q1 := P.2.2.1
  have q2 := P.2.2.2.1
  have hM := hc ρ
  have hp := pe_of C P.1 w1
  rw [List.map_cons, cv_ref h0] at hp
  have hb := cn_of C.2.2.2.2.1 C.2.2.2.2.2.2.2.2.2.1 hm hl ha r1 r2 (args := args)
  rw [hr] at hb
  refine V_ret C P w2 r3 r4 (a := (Value.ref (ρ a) :: as.map (cv ρ)).toArray) (va_runIN (b := ρ a) (As := as.map (cv ρ)) ⟨C.1, C.2.1, C.2.2.1, C.2.2.2.1, C.2.2.2.2.1⟩ hM ⟨hb, hn, C.2.2.2.2.1 _ hi⟩ hp rfl (by simp) P.2.2.2.2.2.2.2.1.1 (by simp [F0, cv_ref h0]) ?_ hd ⟨by omega, by omega⟩) kk
  exact lv_room (by rw [cats]; exact r5)
/-- a nest mate's private static method -/
theorem V_callSN {idx : Nat} {host : String} (hc : Ct g z as σ Q) (hm : MW z) (hs : Cond.static z.1 ∈ lw_good) (hl : (μ.1.cls, idx, z.1, host) ∈ lw_nest) (ha : Ar z.1 as.length) (rf : RF μ z k n k' n' st) (hd : decode μ.2.1 pc = .ok (.invokestatic idx, 3))
    (kk : ∀ σ' rv, Q σ' rv → V g μ E CX k' n' (pc + 3) ls (rv.toList ++ st) σ') : V g μ E CX k n pc ls (as.reverse ++ st) σ := by
  intro p e s m args below meth c C H locs cells slots ρ ρ0 n0 lr P
  obtain ⟨w1, w2⟩ := wv_args P.2.2.2.2.2.2.2.2.2
  have r1 := Nat.le_of_ble_eq_true rf.1
  have r2 := Nat.le_of_ble_eq_true rf.2.1
  have r3 := Nat.le_of_ble_eq_true rf.2.2.1
  have r4 := Nat.le_of_ble_eq_true rf.2.2.2.1
  have r5 := Nat.le_of_ble_eq_true rf.2.2.2.2
  have q1 := P.2.2.1
  have q2 := P.2.2.2.1
  refine V_ret C P w2 r3 r4 (va_runSN (As := as.map (cv ρ)) ⟨C.1, C.2.1, C.2.2.1, C.2.2.2.1, C.2.2.2.2.1⟩ (hc ρ) ⟨cn_of C.2.2.2.2.1 C.2.2.2.2.2.2.2.2.2.1 hm hl ha r1 r2, C.2.2.2.2.1 _ hs, trivial⟩ (pe_of C P.1 w1) rfl (by simp) P.2.2.2.2.2.2.2.1.1 (by simp [F0]) ?_ hd ⟨by omega, by omega⟩) kk
  exact lv_room (by rw [cats]; exact r5)
/-- a static call of a method with handlers -/
def MWh (z : MI) : Prop := Cond.codeWith z.1 z.2.1 z.2.2.1 z.2.2.2.1 z.2.2.2.2.1 ∈ lw_good ∧ Cond.initialized z.1.cls ∈ lw_good
theorem V_callSH {idx : Nat} (hc : CtH g z as σ Q) (hm : MWh z) (hs : Cond.static z.1 ∈ lw_good) (hl : Cond.methodLink μ.1.cls idx z.1 ∈ lw_good) (ha : Ar z.1 as.length) (rf : RF μ z k n k' n' st) (hd : decode μ.2.1 pc = .ok (.invokestatic idx, 3))
    (kk : ∀ σ' rv, Q σ' rv → V g μ E CX k' n' (pc + 3) ls (rv.toList ++ st) σ') : V g μ E CX k n pc ls (as.reverse ++ st) σ := by
  intro p e s m args below meth c C H locs cells slots ρ ρ0 n0 lr P
  obtain ⟨w1, w2⟩ := wv_args P.2.2.2.2.2.2.2.2.2
  have r1 := Nat.le_of_ble_eq_true rf.1
  have r2 := Nat.le_of_ble_eq_true rf.2.1
  have r3 := Nat.le_of_ble_eq_true rf.2.2.1
  have r4 := Nat.le_of_ble_eq_true rf.2.2.2.1
  have r5 := Nat.le_of_ble_eq_true rf.2.2.2.2
  have q1 := P.2.2.1
  have q2 := P.2.2.2.1
  have hG : GoodIn lw_good (va_wsS μ.1.cls idx z.1 (wsh z)) := lw_goodIn _ fun w hw => by
    rcases List.mem_append.mp hw with hw | hw
    · simp only [List.mem_cons, List.not_mem_nil, or_false] at hw
      rcases hw with rfl | rfl | rfl
      · exact hl
      · exact hs
      · exact hm.2
    · rcases List.mem_cons.mp hw with rfl | hw
      · exact hm.1
      · exact hw
  refine V_ret C P w2 r3 r4 (vx_runSW (As := as.map (cv ρ)) ⟨C.1, C.2.1, C.2.2.1, C.2.2.2.1, C.2.2.2.2.1⟩ (hc ρ) (vx_cwSW as.length C.2.2.2.2.1 hG rfl rfl rfl ⟨ha.1.1, ha.1.2, ha.2⟩ ⟨r1, r2⟩) (pe_of C P.1 w1) rfl (by simp) P.2.2.2.2.2.2.2.1.1 (by simp [F0]) ?_ hd ⟨by omega, by omega⟩) kk
  exact lv_room (by rw [cats]; exact r5)
/-- Math.max, Math.min of ints, Math.max of longs -/
theorem V_max {idx : Nat} {x y : Int32} (hl : Cond.methodLink μ.1.cls idx Lib.Math.max.name ∈ lw_good) (hs : Cond.static Lib.Math.max.name ∈ lw_good) (hi : Cond.initialized "java/lang/Math" ∈ lw_good) (hc : Cond.code Lib.Math.max.name Lib.Math.max.code 2 (some .int) ∈ lw_good) (hd : decode μ.2.1 pc = .ok (.invokestatic idx, 3)) (hf : Nat.ble 1 μ.2.2.2.2.2.frames = true) (hlo : Nat.ble ((st.map fun v => v.category).sum + 13) μ.2.2.2.2.2.locals = true)
    (kk : V g μ E CX k n (pc + 3) ls (.int (if x < y then y else x) :: st) σ) : V g μ E CX k n pc ls (.int y :: .int x :: st) σ :=
  V_step (fun _ _ h => wv_cons wv_i (wv_tail2 h)) (fun p e s m args below meth c C H locs cells slots ρ lr Q hCn hlr hst hr k => va_mmax C.1 C.2.1 (C.2.2.1.trans hlr.1.symm) C.2.2.2.1 (C.2.2.2.2.1 _ hl) (C.2.2.2.2.1 _ hs) (C.2.2.2.2.1 _ hi) (C.2.2.2.2.1 _ hc) (Nat.le_of_ble_eq_true hf) (by rw [cats]; exact Nat.le_of_ble_eq_true hlo) hr.1 hr.2 hd k) kk
theorem V_min {idx : Nat} {x y : Int32} (hl : Cond.methodLink μ.1.cls idx Lib.Math.min.name ∈ lw_good) (hs : Cond.static Lib.Math.min.name ∈ lw_good) (hi : Cond.initialized "java/lang/Math" ∈ lw_good) (hc : Cond.code Lib.Math.min.name Lib.Math.min.code 2 (some .int) ∈ lw_good) (hd : decode μ.2.1 pc = .ok (.invokestatic idx, 3)) (hf : Nat.ble 1 μ.2.2.2.2.2.frames = true) (hlo : Nat.ble ((st.map fun v => v.category).sum + 13) μ.2.2.2.2.2.locals = true)
    (kk : V g μ E CX k n (pc + 3) ls (.int (if y < x then y else x) :: st) σ) : V g μ E CX k n pc ls (.int y :: .int x :: st) σ :=
  V_step (fun _ _ h => wv_cons wv_i (wv_tail2 h)) (fun p e s m args below meth c C H locs cells slots ρ lr Q hCn hlr hst hr k => va_mmin C.1 C.2.1 (C.2.2.1.trans hlr.1.symm) C.2.2.2.1 (C.2.2.2.2.1 _ hl) (C.2.2.2.2.1 _ hs) (C.2.2.2.2.1 _ hi) (C.2.2.2.2.1 _ hc) (Nat.le_of_ble_eq_true hf) (by rw [cats]; exact Nat.le_of_ble_eq_true hlo) hr.1 hr.2 hd k) kk
theorem V_maxl {idx : Nat} {x y : Int64} (hl : Cond.methodLink μ.1.cls idx Lib.MathLoose.max_long.x ∈ lw_good) (hs : Cond.static Lib.MathLoose.max_long.x ∈ lw_good) (hi : Cond.initialized "java/lang/Math" ∈ lw_good) (hc : Cond.code Lib.MathLoose.max_long.x Lib.MathLoose.max_long.code 4 (some .long) ∈ lw_good) (hd : decode μ.2.1 pc = .ok (.invokestatic idx, 3)) (hf : Nat.ble 1 μ.2.2.2.2.2.frames = true) (hlo : Nat.ble ((st.map fun v => v.category).sum + 15) μ.2.2.2.2.2.locals = true)
    (kk : V g μ E CX k n (pc + 3) ls (.long (if y < x then x else y) :: st) σ) : V g μ E CX k n pc ls (.long y :: .long x :: st) σ :=
  V_step (fun _ _ h => wv_cons wv_l (wv_tail2 h)) (fun p e s m args below meth c C H locs cells slots ρ lr Q hCn hlr hst hr k => va_mmax_long C.1 C.2.1 (C.2.2.1.trans hlr.1.symm) C.2.2.2.1 (C.2.2.2.2.1 _ hl) (C.2.2.2.2.1 _ hs) (C.2.2.2.2.1 _ hi) (C.2.2.2.2.1 _ hc) (Nat.le_of_ble_eq_true hf) (by rw [cats]; exact Nat.le_of_ble_eq_true hlo) hr.1 hr.2 hd k) kk
/-! ===== throw new E("text") ===== -/
/-- the words of a throw -/
def TW (own : String) (ik ic : Nat) (cls : String) : Prop := Bundle.fit cls = true ∧ cls ∈ lw_ex ∧ Cond.classLink own ik cls ∈ lw_good ∧ Cond.initialized cls ∈ lw_good ∧ (∀ w ∈ vx_atS own ic cls ["java/lang/RuntimeException", "java/lang/Exception"], w ∈ lw_good ∨ w = .castable cls cls ∨ w ∈ lw_decl.map Cond.declares) ∧ (∀ w ∈ Cond.classLink own ik cls :: Cond.initialized cls :: vx_atS own ic cls ["java/lang/RuntimeException", "java/lang/Exception"], vx_ot w = true)
theorem vx_Zq_to {g : GP} {C n d : String} {s : State} (h : vx_Zq C n d (bs g.2.2.2.1) s g.2.2.2.1) (hq : ∀ q : Nat, q < g.2.2.2.1.size → s.heap[q]? = g.2.2.2.1[q]?) : vx_Zq C n d (bs g.2.2.2.1) s s.heap :=
  vx_Zq.kept h fun a ha _ => hq a ha
theorem V_throw {ik is ic : Nat} {cls text : String} (tw : TW μ.1.cls ik ic cls) (hstr : (μ.1.cls, is, text) ∈ lw_str) (d0 : decode μ.2.1 pc = .ok (.new ik, 3)) (d3 : decode μ.2.1 (pc + 3) = .ok (.dup, 1)) (d4 : decode μ.2.1 (pc + 4) = .ok (.ldc is, 2)) (d6 : decode μ.2.1 (pc + 6) = .ok (.invokespecial ic, 3)) (d9 : decode μ.2.1 (pc + 9) = .ok (.athrow, 1))
    (hh : μ.2.2.2.2.1 = []) (hf : Nat.blt 5 μ.2.2.2.2.2.frames = true) (hlo : Nat.ble ((st.map fun v => v.category).sum + 82) μ.2.2.2.2.2.locals = true) (hk : Nat.ble 1 k = true) (hn : Nat.ble 6 n = true) (hX : X σ cls) : V g μ (Em g μ Q X) CX k n pc ls st σ := by
  intro p e s m args below meth c C H locs cells slots ρ ρ0 n0 lr P
  obtain ⟨t1, t2, t3, t4, t5, t6⟩ := tw
  have hS := mkS C P
  obtain ⟨sa, hsa⟩ := C.2.2.2.2.2.2.2.2.2.1.2.2.2.1 _ hstr
  have hcast := C.2.2.2.2.2.2.2.2.2.1.2.2.2.2.1 _ t2
  have hk := Nat.le_of_ble_eq_true hk
  have hn := Nat.le_of_ble_eq_true hn
  obtain ⟨p1, p2, p3, p4, p5, p6, p7, p8, p9, p10⟩ := id P
  have hempty : ∀ x ∈ c.exceptionTable.toList, covers x (pc + 9) = false := by
    rw [C.2.2.2.2.2.2.2.2.1, hh]
    intro x hx
    cases hx
  refine vx_throwS (own := μ.1.cls) (text := text) (sa := sa) (names := ["java/lang/RuntimeException", "java/lang/Exception"]) C.1 C.2.1 C.2.2.2.2.2.2.2.2.2.2.2.2.1 C.2.2.2.1 t1 (by decide +kernel) (C.2.2.2.2.1 _ t3) (C.2.2.2.2.1 _ t4) hsa (fun w hw => ?_) t6 (vx_Zq_to C.2.2.2.2.2.2.2.2.2.1.2.2.2.2.2.2.1 C.2.2.2.2.2.2.2.2.2.2.2.1) (vx_Zq_to C.2.2.2.2.2.2.2.2.2.1.2.2.2.2.2.2.2.1 C.2.2.2.2.2.2.2.2.2.2.2.1) hS (p8.1.trans C.2.2.1.symm) d0 d3 d4 d6 d9 hempty (by simpa [Nat.blt_eq] using hf) ?_ (by omega) (by omega) C.2.2.2.2.2.1 ?_ p2 (by omega) (by omega)
  · rcases t5 w hw with h | rfl | h
    · exact C.2.2.2.2.1 _ h
    · exact va_Nw.use rfl hcast
    · obtain ⟨x, hx, rfl⟩ := List.mem_map.mp h
      exact va_Nw.use rfl (C.2.2.2.2.2.2.2.2.2.1.2.2.2.2.2.2.2.2.1 x hx)
  · rw [cats]
    exact Nat.le_of_ble_eq_true hlo
  · intro t hal hsz hold
    refine ⟨ρ, σ, hX, ⟨p1.1.kept fun k q hq => hold q.1 ((p1.1 k q hq).lt), p1.2.1, Nat.le_trans p1.2.2.1 hsz, fun q hq => ?_, p1.2.2.2.2⟩, p6, p7, Nat.le_trans p5 hsz⟩
    rw [hold q (Nat.lt_of_lt_of_le hq p1.2.2.1)]
    exact p1.2.2.2.1 q hq
end VD
end
section
/-! ===== a call that may throw, caught here; the handler: store it, answer a number ===== -/
section VE
variable {g : GP} {μ z : MI} {E : ET} {CX : State → Array Value → Prop} {k n k' n' pc : Nat} {ls : List (Nat × Value)} {st as : List Value} {σ : AH} {Q Q0 : AH → Option Value → Prop} {X : AH → String → Prop}
/-- the handler at h: it stores what was thrown, and answers r -/
def HC (μ : MI) (h : Nat) (r : Int32) : Prop :=
  (∃ (q : Fin 4) (w : Int), decode μ.2.1 h = .ok (.astore_n q, 1) ∧ (q : Nat) < μ.2.2.1 ∧ decode μ.2.1 (h + 1) = .ok (.iconst w, 1) ∧ Int32.ofInt w = r ∧ decode μ.2.1 (h + 1 + 1) = .ok (.ireturn, 1)) ∨
  (∃ (i : Nat) (w : Int), decode μ.2.1 h = .ok (.astore i, 2) ∧ i < μ.2.2.1 ∧ decode μ.2.1 (h + 2) = .ok (.iconst w, 1) ∧ Int32.ofInt w = r ∧ decode μ.2.1 (h + 2 + 1) = .ok (.ireturn, 1))
/-- what is thrown as Ex at pc comes to the handler that answers r -/
def HX (μ : MI) (pc : Nat) (Ex : String) (r : Int32) : Prop :=
  ∃ (pre : List ExceptionTableEntry) (x : ExceptionTableEntry) (suf : List ExceptionTableEntry), tableOf μ.2.2.2.2.1 = pre ++ x :: suf ∧ (∀ y ∈ pre, covers y pc = false ∨ (y.catchType ≠ 0 ∧ ∃ nm : String, Cond.classLink μ.1.cls y.catchType nm ∈ lw_good ∧ nm ∈ lw_ex ∧ Ex ≠ nm)) ∧ covers x pc = true ∧ x.catchType ≠ 0 ∧ Cond.classLink μ.1.cls x.catchType Ex ∈ lw_good ∧ Ex ∈ lw_ex ∧ HC μ x.handlerPc r
theorem hc_run {p : Program} {e : Env} {s : State} {m : MethodId} {args : Array Value} {below : List Frame} {meth : Method} {c : Code} (C : Cx g μ CX p s m args meth c) {H : Heap} {locs : List Loc} {cells slots : Nat} {ρ ρ0 : Nat → Nat} {n0 : Nat} {lr : Array Slot} (P : Pt1 g μ s k n ls st σ H locs cells slots ρ ρ0 n0 lr) {h : Nat} {r : Int32} (hh : HC μ h r) (hr : μ.2.2.2.1 = some .int) (hQ : Q0 σ (some (.int r))) {q : Addr} :
    W p g.1 e μ.2.2.2.2.2 s m args below meth c H locs cells slots (Em g μ Q0 X below args s ρ0 n0) (F0 m h lr [.ref q]) := by
  have fin : ∀ (pc : Nat) (lr' : Array Slot), decode μ.2.1 pc = .ok (.ireturn, 1) → W p g.1 e μ.2.2.2.2.2 s m args below meth c H locs cells slots (Em g μ Q0 X below args s ρ0 n0) (F0 m pc lr' [.int r]) := fun pc lr' hd => by
    refine W.widen (k := μ.2.2.2.2.2.cells) (n := μ.2.2.2.2.2.slots) (by have := P.2.2.1; omega) (by have := P.2.2.2.1; omega) (vx_ret ?_)
    exact W.iret C.1 C.2.1 (C.2.2.2.2.2.2.1.trans hr) (fun t ht _ => Pt_Qe P (rv := some (.int r)) (fun v hv => by cases hv; trivial) hQ args t ht) P.2.1 hd C.2.2.2.2.2.1
  rcases hh with ⟨i, w, h1, h2, h3, h4, h5⟩ | ⟨i, w, h1, h2, h3, h4, h5⟩
  · exact la_astore_n C.1 C.2.1 rfl rfl h1 P.2.2.2.2.2.2.2.1 h2 fun lr' _ => lv_iconst C.1 C.2.1 h3 h4 (fin _ lr' h5)
  · exact la_astore C.1 C.2.1 rfl rfl h1 P.2.2.2.2.2.2.2.1 h2 fun lr' _ => lv_iconst C.1 C.2.1 h3 h4 (fin _ lr' h5)
theorem V_callVX {idx ci a : Nat} {CC : String} {T : u_T} (hc : CtX g z (.ref a :: as) σ Q X) (hm : MW z) (ko : KO ci CC T) (hCC : z.1.cls = CC) (hi : Cond.instanceMethod z.1 ∈ lw_good) (hs : Cond.selects CC z.1 z.1 ∈ lw_good) (hl : Cond.methodLink μ.1.cls idx z.1 ∈ lw_good) (ha : Ar z.1 as.length) (rf : RF μ z k n k' n' st) (hd : decode μ.2.1 pc = .ok (.invokevirtual idx, 3)) (h0 : a ≠ 0) (hK : zK σ a = ci) (hr : μ.2.2.2.1 = some .int)
    (kk : ∀ σ' rv, Q σ' rv → V g μ (Em g μ Q0 NX) CX k' n' (pc + 3) ls (rv.toList ++ st) σ') (kx : ∀ σ' Ex, X σ' Ex → ∃ r, HX μ pc Ex r ∧ Q0 σ' (some (.int r))) : V g μ (Em g μ Q0 NX) CX k n pc ls (as.reverse ++ .ref a :: st) σ := by
  intro p e s m args below meth c C H locs cells slots ρ ρ0 n0 lr P
  obtain ⟨w1, w2⟩ := wv_argsV P.2.2.2.2.2.2.2.2.2
  have r1 := Nat.le_of_ble_eq_true rf.1
  have r2 := Nat.le_of_ble_eq_true rf.2.1
  have r3 := Nat.le_of_ble_eq_true rf.2.2.1
  have r4 := Nat.le_of_ble_eq_true rf.2.2.2.1
  have r5 := Nat.le_of_ble_eq_true rf.2.2.2.2
  have q1 := P.2.2.1
  have q2 := P.2.2.2.1
  have hM := hc ρ
  refine V_retX C P w2 r3 r4 (a := (Value.ref (ρ a) :: as.map (cv ρ)).toArray) (vx_runV (C := CC) (b := ρ a) (As := as.map (cv ρ)) ⟨C.1, C.2.1, C.2.2.1, C.2.2.2.1, C.2.2.2.2.1⟩ hM ⟨cw_of C.2.2.2.2.1 hm hl ha r1 r2, C.2.2.2.2.1 _ hi, C.2.2.2.2.1 _ hs⟩ (pv_of C P.1 ko h0 hK w1) rfl (by simp) P.2.2.2.2.2.2.2.1.1 (by simp [F0, cv_ref h0]) (lv_room (by rw [cats]; exact r5)) hd ⟨by omega, by omega⟩) kk ?_
  intro σ' Ex q ce H1 locs1 ρ' hX P' hce hcv hcl
  obtain ⟨r, ⟨pre, x, suf, e1, e2, e3, e4, e5, e6, e7⟩, hQ⟩ := kx σ' Ex hX
  refine vx_catch C.2.2.2.1 pre x suf (C.2.2.2.2.2.2.2.2.1.trans e1) (fun y hy => ?_) e3 e4 (C.2.2.2.2.1 _ e5) (va_Nw.use rfl (C.2.2.2.2.2.2.2.2.2.1.2.2.2.2.1 _ e6)) hce hcv hcl (hc_run C P' e7 hr hQ)
  rcases e2 y hy with h | ⟨h1, nm, h2, h3, h4⟩
  · exact Or.inl h
  · exact Or.inr ⟨h1, nm, C.2.2.2.2.1 _ h2, C.2.2.2.2.2.2.2.2.2.1.2.2.2.2.2.1 _ e6 _ h3 h4⟩
end VE
end
section
/-! ===== printed: words by their places; classes; methods ===== -/
theorem lw_gs {ws : List Cond} (ps : List Nat) (hp : ws = ps.filterMap (fun i => lw_tbl[i]?)) (h : ws.all goodWord = true) : ∀ w ∈ ws, w ∈ lw_good := fun w hw => List.mem_filter.mpr ⟨(goodIn_r ws ps hp h w hw).1, List.all_eq_true.mp h w hw⟩

theorem w_20 : Jvm.Cond.initialized "ProratehouseLaw" ∈ lw_good := lw_g 20 (by decide +kernel) (by decide +kernel)
theorem w_21 : Jvm.Cond.initialized "Proratehouse" ∈ lw_good := lw_g 21 (by decide +kernel) (by decide +kernel)
theorem w_22 : Jvm.Cond.initialized "Proratehouse$Tariff" ∈ lw_good := lw_g 22 (by decide +kernel) (by decide +kernel)
theorem w_23 : Jvm.Cond.initialized "Proratehouse$Pairs" ∈ lw_good := lw_g 23 (by decide +kernel) (by decide +kernel)
theorem w_24 : Jvm.Cond.initialized "Proratehouse$Proration" ∈ lw_good := lw_g 24 (by decide +kernel) (by decide +kernel)
theorem w_25 : Jvm.Cond.initialized "Proratehouse$Journey" ∈ lw_good := lw_g 25 (by decide +kernel) (by decide +kernel)
theorem w_26 : Jvm.Cond.initialized "Proratehouse$Leg" ∈ lw_good := lw_g 26 (by decide +kernel) (by decide +kernel)
theorem w_27 : Jvm.Cond.initialized "Proratehouse$Ways" ∈ lw_good := lw_g 27 (by decide +kernel) (by decide +kernel)
theorem w_28 : Jvm.Cond.initialized "Proratehouse$Clearing" ∈ lw_good := lw_g 28 (by decide +kernel) (by decide +kernel)
theorem w_29 : Jvm.Cond.initialized "java/lang/Throwable" ∈ lw_good := lw_g 29 (by decide +kernel) (by decide +kernel)
theorem w_30 : Jvm.Cond.initialized "java/lang/Exception" ∈ lw_good := lw_g 30 (by decide +kernel) (by decide +kernel)
theorem w_31 : Jvm.Cond.initialized "java/lang/RuntimeException" ∈ lw_good := lw_g 31 (by decide +kernel) (by decide +kernel)
theorem w_32 : Jvm.Cond.initialized "java/lang/IndexOutOfBoundsException" ∈ lw_good := lw_g 32 (by decide +kernel) (by decide +kernel)
theorem w_33 : Jvm.Cond.initialized "java/lang/IllegalArgumentException" ∈ lw_good := lw_g 33 (by decide +kernel) (by decide +kernel)
theorem w_34 : Jvm.Cond.initialized "java/lang/IllegalStateException" ∈ lw_good := lw_g 34 (by decide +kernel) (by decide +kernel)
theorem w_35 : Jvm.Cond.initialized "Proratehouse$Fare" ∈ lw_good := lw_g 35 (by decide +kernel) (by decide +kernel)
theorem w_36 : Jvm.Cond.initialized "java/lang/Math" ∈ lw_good := lw_g 36 (by decide +kernel) (by decide +kernel)
theorem w_37 : Jvm.Cond.initialized "Proratehouse$Ticket" ∈ lw_good := lw_g 37 (by decide +kernel) (by decide +kernel)
theorem w_38 : Jvm.Cond.initialized "Proratehouse$Coupon" ∈ lw_good := lw_g 38 (by decide +kernel) (by decide +kernel)
theorem w_39 : Jvm.Cond.initialized "Proratehouse$Bill" ∈ lw_good := lw_g 39 (by decide +kernel) (by decide +kernel)
theorem w_40 : Jvm.Cond.classLink "ProratehouseLaw" (11 : Nat) "Proratehouse" ∈ lw_good := lw_g 40 (by decide +kernel) (by decide +kernel)
theorem w_41 : Jvm.Cond.instantiable "Proratehouse" (11 : Nat) ∈ lw_good := lw_g 41 (by decide +kernel) (by decide +kernel)
theorem w_42 : Jvm.Cond.methodLink "ProratehouseLaw" (221 : Nat) ({ cls := "Proratehouse", name := "<init>", desc := "()V" } : Jvm.MethodName) ∈ lw_good := lw_g 42 (by decide +kernel) (by decide +kernel)
theorem w_43 : Jvm.Cond.instanceMethod ({ cls := "Proratehouse", name := "<init>", desc := "()V" } : Jvm.MethodName) ∈ lw_good := lw_g 43 (by decide +kernel) (by decide +kernel)
theorem w_44 : Jvm.Cond.code ({ cls := "Proratehouse", name := "<init>", desc := "()V" } : Jvm.MethodName) prog_1_method_1_code (1 : Nat) (Option.none : Option Jvm.ClassFile.FieldType) ∈ lw_good := lw_g 44 (by decide +kernel) (by decide +kernel)
theorem w_45 : Jvm.Cond.methodLink "Proratehouse" (3 : Nat) ({ cls := "java/lang/Object", name := "<init>", desc := "()V" } : Jvm.MethodName) ∈ lw_good := lw_g 45 (by decide +kernel) (by decide +kernel)
theorem w_46 : Jvm.Cond.instanceMethod ({ cls := "java/lang/Object", name := "<init>", desc := "()V" } : Jvm.MethodName) ∈ lw_good := lw_g 46 (by decide +kernel) (by decide +kernel)
theorem w_47 : Jvm.Cond.code ({ cls := "java/lang/Object", name := "<init>", desc := "()V" } : Jvm.MethodName) object_method_1_code (1 : Nat) (Option.none : Option Jvm.ClassFile.FieldType) ∈ lw_good := lw_g 47 (by decide +kernel) (by decide +kernel)
theorem w_48 : Jvm.Cond.classLink "Proratehouse" (9 : Nat) "Proratehouse$Tariff" ∈ lw_good := lw_g 48 (by decide +kernel) (by decide +kernel)
theorem w_49 : Jvm.Cond.instantiable "Proratehouse$Tariff" (7 : Nat) ∈ lw_good := lw_g 49 (by decide +kernel) (by decide +kernel)
theorem w_51 : Jvm.Cond.instanceMethod ({ cls := "Proratehouse$Tariff", name := "<init>", desc := "()V" } : Jvm.MethodName) ∈ lw_good := lw_g 51 (by decide +kernel) (by decide +kernel)
theorem w_52 : Jvm.Cond.code ({ cls := "Proratehouse$Tariff", name := "<init>", desc := "()V" } : Jvm.MethodName) prog_10_method_1_code (1 : Nat) (Option.none : Option Jvm.ClassFile.FieldType) ∈ lw_good := lw_g 52 (by decide +kernel) (by decide +kernel)
theorem w_53 : Jvm.Cond.methodLink "Proratehouse$Tariff" (3 : Nat) ({ cls := "java/lang/Object", name := "<init>", desc := "()V" } : Jvm.MethodName) ∈ lw_good := lw_g 53 (by decide +kernel) (by decide +kernel)
theorem w_54 : Jvm.Cond.classLink "Proratehouse$Tariff" (9 : Nat) "Proratehouse$Pairs" ∈ lw_good := lw_g 54 (by decide +kernel) (by decide +kernel)
theorem w_55 : Jvm.Cond.instantiable "Proratehouse$Pairs" (1 : Nat) ∈ lw_good := lw_g 55 (by decide +kernel) (by decide +kernel)
theorem w_57 : Jvm.Cond.instanceMethod ({ cls := "Proratehouse$Pairs", name := "<init>", desc := "()V" } : Jvm.MethodName) ∈ lw_good := lw_g 57 (by decide +kernel) (by decide +kernel)
theorem w_58 : Jvm.Cond.code ({ cls := "Proratehouse$Pairs", name := "<init>", desc := "()V" } : Jvm.MethodName) prog_8_method_1_code (1 : Nat) (Option.none : Option Jvm.ClassFile.FieldType) ∈ lw_good := lw_g 58 (by decide +kernel) (by decide +kernel)
theorem w_59 : Jvm.Cond.methodLink "Proratehouse$Pairs" (3 : Nat) ({ cls := "java/lang/Object", name := "<init>", desc := "()V" } : Jvm.MethodName) ∈ lw_good := lw_g 59 (by decide +kernel) (by decide +kernel)
theorem w_60 : Jvm.Cond.fieldLink "Proratehouse$Pairs" (9 : Nat) "Proratehouse$Pairs" "numbers" "[I" ∈ lw_good := lw_g 60 (by decide +kernel) (by decide +kernel)
theorem w_64 : Jvm.Cond.arrayClass Jvm.ClassFile.FieldType.int ∈ lw_good := lw_g 64 (by decide +kernel) (by decide +kernel)
theorem w_65 : Jvm.Cond.classLink "Proratehouse$Tariff" (18 : Nat) "Proratehouse$Fare" ∈ lw_good := lw_g 65 (by decide +kernel) (by decide +kernel)
theorem w_67 : Jvm.Cond.fieldLink "Proratehouse$Tariff" (12 : Nat) "Proratehouse$Tariff" "miles" "LProratehouse$Pairs;" ∈ lw_good := lw_g 67 (by decide +kernel) (by decide +kernel)
theorem w_68 : Jvm.Cond.fieldLink "Proratehouse" (77 : Nat) "Proratehouse$Tariff" "miles" "LProratehouse$Pairs;" ∈ lw_good := lw_g 68 (by decide +kernel) (by decide +kernel)
theorem w_69 : Jvm.Cond.fieldLink "Proratehouse$Journey" (56 : Nat) "Proratehouse$Tariff" "miles" "LProratehouse$Pairs;" ∈ lw_good := lw_g 69 (by decide +kernel) (by decide +kernel)
theorem w_70 : Jvm.Cond.fieldLink "Proratehouse$Tariff" (20 : Nat) "Proratehouse$Tariff" "fares" "[LProratehouse$Fare;" ∈ lw_good := lw_g 70 (by decide +kernel) (by decide +kernel)
theorem w_71 : Jvm.Cond.fieldLink "Proratehouse$Tariff" (24 : Nat) "Proratehouse$Tariff" "departTaxes" "[I" ∈ lw_good := lw_g 71 (by decide +kernel) (by decide +kernel)
theorem w_72 : Jvm.Cond.fieldLink "Proratehouse$Tariff" (28 : Nat) "Proratehouse$Tariff" "changeTaxes" "[I" ∈ lw_good := lw_g 72 (by decide +kernel) (by decide +kernel)
theorem w_73 : Jvm.Cond.fieldLink "Proratehouse$Tariff" (35 : Nat) "Proratehouse$Tariff" "fareCount" "I" ∈ lw_good := lw_g 73 (by decide +kernel) (by decide +kernel)
theorem w_74 : Jvm.Cond.fieldLink "Proratehouse" (90 : Nat) "Proratehouse$Tariff" "fareCount" "I" ∈ lw_good := lw_g 74 (by decide +kernel) (by decide +kernel)
theorem w_75 : Jvm.Cond.fieldLink "Proratehouse$Tariff" (31 : Nat) "Proratehouse$Tariff" "unit" "I" ∈ lw_good := lw_g 75 (by decide +kernel) (by decide +kernel)
theorem w_76 : Jvm.Cond.fieldLink "Proratehouse" (122 : Nat) "Proratehouse$Tariff" "unit" "I" ∈ lw_good := lw_g 76 (by decide +kernel) (by decide +kernel)
theorem w_77 : Jvm.Cond.fieldLink "Proratehouse$Tariff" (46 : Nat) "Proratehouse$Tariff" "today" "I" ∈ lw_good := lw_g 77 (by decide +kernel) (by decide +kernel)
theorem w_78 : Jvm.Cond.fieldLink "Proratehouse" (154 : Nat) "Proratehouse$Tariff" "today" "I" ∈ lw_good := lw_g 78 (by decide +kernel) (by decide +kernel)
theorem w_94 : Jvm.Cond.classLink "Proratehouse" (16 : Nat) "Proratehouse$Proration" ∈ lw_good := lw_g 94 (by decide +kernel) (by decide +kernel)
theorem w_95 : Jvm.Cond.instantiable "Proratehouse$Proration" (2 : Nat) ∈ lw_good := lw_g 95 (by decide +kernel) (by decide +kernel)
theorem w_96 : Jvm.Cond.methodLink "Proratehouse" (18 : Nat) ({ cls := "Proratehouse$Proration", name := "<init>", desc := "()V" } : Jvm.MethodName) ∈ lw_good := lw_g 96 (by decide +kernel) (by decide +kernel)
theorem w_97 : Jvm.Cond.instanceMethod ({ cls := "Proratehouse$Proration", name := "<init>", desc := "()V" } : Jvm.MethodName) ∈ lw_good := lw_g 97 (by decide +kernel) (by decide +kernel)
theorem w_98 : Jvm.Cond.code ({ cls := "Proratehouse$Proration", name := "<init>", desc := "()V" } : Jvm.MethodName) prog_9_method_1_code (2 : Nat) (Option.none : Option Jvm.ClassFile.FieldType) ∈ lw_good := lw_g 98 (by decide +kernel) (by decide +kernel)
theorem w_99 : Jvm.Cond.methodLink "Proratehouse$Proration" (3 : Nat) ({ cls := "java/lang/Object", name := "<init>", desc := "()V" } : Jvm.MethodName) ∈ lw_good := lw_g 99 (by decide +kernel) (by decide +kernel)
theorem w_100 : Jvm.Cond.classLink "Proratehouse$Proration" (9 : Nat) "Proratehouse$Pairs" ∈ lw_good := lw_g 100 (by decide +kernel) (by decide +kernel)
theorem w_102 : Jvm.Cond.fieldLink "Proratehouse$Proration" (12 : Nat) "Proratehouse$Proration" "weights" "LProratehouse$Pairs;" ∈ lw_good := lw_g 102 (by decide +kernel) (by decide +kernel)
theorem w_103 : Jvm.Cond.fieldLink "Proratehouse" (133 : Nat) "Proratehouse$Proration" "weights" "LProratehouse$Pairs;" ∈ lw_good := lw_g 103 (by decide +kernel) (by decide +kernel)
theorem w_104 : Jvm.Cond.fieldLink "Proratehouse$Proration" (18 : Nat) "Proratehouse$Proration" "provisos" "[I" ∈ lw_good := lw_g 104 (by decide +kernel) (by decide +kernel)
theorem w_110 : Jvm.Cond.classLink "Proratehouse" (23 : Nat) "Proratehouse$Journey" ∈ lw_good := lw_g 110 (by decide +kernel) (by decide +kernel)
theorem w_111 : Jvm.Cond.instantiable "Proratehouse$Journey" (2 : Nat) ∈ lw_good := lw_g 111 (by decide +kernel) (by decide +kernel)
theorem w_112 : Jvm.Cond.methodLink "Proratehouse" (25 : Nat) ({ cls := "Proratehouse$Journey", name := "<init>", desc := "()V" } : Jvm.MethodName) ∈ lw_good := lw_g 112 (by decide +kernel) (by decide +kernel)
theorem w_113 : Jvm.Cond.instanceMethod ({ cls := "Proratehouse$Journey", name := "<init>", desc := "()V" } : Jvm.MethodName) ∈ lw_good := lw_g 113 (by decide +kernel) (by decide +kernel)
theorem w_114 : Jvm.Cond.code ({ cls := "Proratehouse$Journey", name := "<init>", desc := "()V" } : Jvm.MethodName) prog_6_method_1_code (2 : Nat) (Option.none : Option Jvm.ClassFile.FieldType) ∈ lw_good := lw_g 114 (by decide +kernel) (by decide +kernel)
theorem w_115 : Jvm.Cond.methodLink "Proratehouse$Journey" (3 : Nat) ({ cls := "java/lang/Object", name := "<init>", desc := "()V" } : Jvm.MethodName) ∈ lw_good := lw_g 115 (by decide +kernel) (by decide +kernel)
theorem w_116 : Jvm.Cond.classLink "Proratehouse$Journey" (9 : Nat) "Proratehouse$Leg" ∈ lw_good := lw_g 116 (by decide +kernel) (by decide +kernel)
theorem w_118 : Jvm.Cond.instantiable "Proratehouse$Leg" (4 : Nat) ∈ lw_good := lw_g 118 (by decide +kernel) (by decide +kernel)
theorem w_120 : Jvm.Cond.instanceMethod ({ cls := "Proratehouse$Leg", name := "<init>", desc := "()V" } : Jvm.MethodName) ∈ lw_good := lw_g 120 (by decide +kernel) (by decide +kernel)
theorem w_121 : Jvm.Cond.code ({ cls := "Proratehouse$Leg", name := "<init>", desc := "()V" } : Jvm.MethodName) prog_7_method_1_code (1 : Nat) (Option.none : Option Jvm.ClassFile.FieldType) ∈ lw_good := lw_g 121 (by decide +kernel) (by decide +kernel)
theorem w_122 : Jvm.Cond.methodLink "Proratehouse$Leg" (1 : Nat) ({ cls := "java/lang/Object", name := "<init>", desc := "()V" } : Jvm.MethodName) ∈ lw_good := lw_g 122 (by decide +kernel) (by decide +kernel)
theorem w_123 : Jvm.Cond.fieldLink "Proratehouse$Coupon" (18 : Nat) "Proratehouse$Leg" "from" "I" ∈ lw_good := lw_g 123 (by decide +kernel) (by decide +kernel)
theorem w_124 : Jvm.Cond.fieldLink "Proratehouse$Journey" (32 : Nat) "Proratehouse$Leg" "from" "I" ∈ lw_good := lw_g 124 (by decide +kernel) (by decide +kernel)
theorem w_125 : Jvm.Cond.fieldLink "Proratehouse" (390 : Nat) "Proratehouse$Leg" "from" "I" ∈ lw_good := lw_g 125 (by decide +kernel) (by decide +kernel)
theorem w_126 : Jvm.Cond.fieldLink "Proratehouse$Coupon" (24 : Nat) "Proratehouse$Leg" "to" "I" ∈ lw_good := lw_g 126 (by decide +kernel) (by decide +kernel)
theorem w_127 : Jvm.Cond.fieldLink "Proratehouse$Journey" (26 : Nat) "Proratehouse$Leg" "to" "I" ∈ lw_good := lw_g 127 (by decide +kernel) (by decide +kernel)
theorem w_128 : Jvm.Cond.fieldLink "Proratehouse$Coupon" (32 : Nat) "Proratehouse$Leg" "carrier" "I" ∈ lw_good := lw_g 128 (by decide +kernel) (by decide +kernel)
theorem w_129 : Jvm.Cond.fieldLink "Proratehouse$Journey" (35 : Nat) "Proratehouse$Leg" "carrier" "I" ∈ lw_good := lw_g 129 (by decide +kernel) (by decide +kernel)
theorem w_130 : Jvm.Cond.fieldLink "Proratehouse$Coupon" (28 : Nat) "Proratehouse$Leg" "day" "I" ∈ lw_good := lw_g 130 (by decide +kernel) (by decide +kernel)
theorem w_131 : Jvm.Cond.fieldLink "Proratehouse$Journey" (29 : Nat) "Proratehouse$Leg" "day" "I" ∈ lw_good := lw_g 131 (by decide +kernel) (by decide +kernel)
theorem w_141 : Jvm.Cond.fieldLink "Proratehouse$Journey" (11 : Nat) "Proratehouse$Journey" "legs" "[LProratehouse$Leg;" ∈ lw_good := lw_g 141 (by decide +kernel) (by decide +kernel)
theorem w_142 : Jvm.Cond.fieldLink "Proratehouse$Journey" (18 : Nat) "Proratehouse$Journey" "count" "I" ∈ lw_good := lw_g 142 (by decide +kernel) (by decide +kernel)
theorem w_143 : Jvm.Cond.fieldLink "Proratehouse$Ways" (28 : Nat) "Proratehouse$Journey" "count" "I" ∈ lw_good := lw_g 143 (by decide +kernel) (by decide +kernel)
theorem w_144 : Jvm.Cond.fieldLink "Proratehouse" (376 : Nat) "Proratehouse$Journey" "count" "I" ∈ lw_good := lw_g 144 (by decide +kernel) (by decide +kernel)
theorem w_150 : Jvm.Cond.classLink "Proratehouse" (30 : Nat) "Proratehouse$Ways" ∈ lw_good := lw_g 150 (by decide +kernel) (by decide +kernel)
theorem w_151 : Jvm.Cond.instantiable "Proratehouse$Ways" (5 : Nat) ∈ lw_good := lw_g 151 (by decide +kernel) (by decide +kernel)
theorem w_153 : Jvm.Cond.instanceMethod ({ cls := "Proratehouse$Ways", name := "<init>", desc := "()V" } : Jvm.MethodName) ∈ lw_good := lw_g 153 (by decide +kernel) (by decide +kernel)
theorem w_154 : Jvm.Cond.code ({ cls := "Proratehouse$Ways", name := "<init>", desc := "()V" } : Jvm.MethodName) prog_12_method_1_code (1 : Nat) (Option.none : Option Jvm.ClassFile.FieldType) ∈ lw_good := lw_g 154 (by decide +kernel) (by decide +kernel)
theorem w_155 : Jvm.Cond.methodLink "Proratehouse$Ways" (3 : Nat) ({ cls := "java/lang/Object", name := "<init>", desc := "()V" } : Jvm.MethodName) ∈ lw_good := lw_g 155 (by decide +kernel) (by decide +kernel)
theorem w_156 : Jvm.Cond.fieldLink "Proratehouse$Ways" (9 : Nat) "Proratehouse$Ways" "sumsTo" "[I" ∈ lw_good := lw_g 156 (by decide +kernel) (by decide +kernel)
theorem w_157 : Jvm.Cond.fieldLink "Proratehouse$Ways" (15 : Nat) "Proratehouse$Ways" "cutsTo" "[I" ∈ lw_good := lw_g 157 (by decide +kernel) (by decide +kernel)
theorem w_158 : Jvm.Cond.fieldLink "Proratehouse$Ways" (18 : Nat) "Proratehouse$Ways" "partPrices" "[I" ∈ lw_good := lw_g 158 (by decide +kernel) (by decide +kernel)
theorem w_159 : Jvm.Cond.fieldLink "Proratehouse$Ways" (21 : Nat) "Proratehouse$Ways" "leastSum" "I" ∈ lw_good := lw_g 159 (by decide +kernel) (by decide +kernel)
theorem w_160 : Jvm.Cond.fieldLink "Proratehouse" (191 : Nat) "Proratehouse$Ways" "leastSum" "I" ∈ lw_good := lw_g 160 (by decide +kernel) (by decide +kernel)
theorem w_161 : Jvm.Cond.fieldLink "Proratehouse$Ways" (25 : Nat) "Proratehouse$Ways" "leastCuts" "I" ∈ lw_good := lw_g 161 (by decide +kernel) (by decide +kernel)
theorem w_162 : Jvm.Cond.fieldLink "Proratehouse" (198 : Nat) "Proratehouse$Ways" "leastCuts" "I" ∈ lw_good := lw_g 162 (by decide +kernel) (by decide +kernel)
theorem w_174 : Jvm.Cond.classLink "Proratehouse" (37 : Nat) "Proratehouse$Clearing" ∈ lw_good := lw_g 174 (by decide +kernel) (by decide +kernel)
theorem w_175 : Jvm.Cond.instantiable "Proratehouse$Clearing" (5 : Nat) ∈ lw_good := lw_g 175 (by decide +kernel) (by decide +kernel)
theorem w_177 : Jvm.Cond.instanceMethod ({ cls := "Proratehouse$Clearing", name := "<init>", desc := "()V" } : Jvm.MethodName) ∈ lw_good := lw_g 177 (by decide +kernel) (by decide +kernel)
theorem w_178 : Jvm.Cond.code ({ cls := "Proratehouse$Clearing", name := "<init>", desc := "()V" } : Jvm.MethodName) prog_3_method_1_code (1 : Nat) (Option.none : Option Jvm.ClassFile.FieldType) ∈ lw_good := lw_g 178 (by decide +kernel) (by decide +kernel)
theorem w_179 : Jvm.Cond.methodLink "Proratehouse$Clearing" (3 : Nat) ({ cls := "java/lang/Object", name := "<init>", desc := "()V" } : Jvm.MethodName) ∈ lw_good := lw_g 179 (by decide +kernel) (by decide +kernel)
theorem w_180 : Jvm.Cond.classLink "Proratehouse$Clearing" (9 : Nat) "Proratehouse$Bill" ∈ lw_good := lw_g 180 (by decide +kernel) (by decide +kernel)
theorem w_182 : Jvm.Cond.fieldLink "Proratehouse$Clearing" (11 : Nat) "Proratehouse$Clearing" "bills" "[LProratehouse$Bill;" ∈ lw_good := lw_g 182 (by decide +kernel) (by decide +kernel)
theorem w_183 : Jvm.Cond.fieldLink "Proratehouse$Clearing" (17 : Nat) "Proratehouse$Clearing" "nets" "[J" ∈ lw_good := lw_g 183 (by decide +kernel) (by decide +kernel)
theorem w_184 : Jvm.Cond.fieldLink "Proratehouse$Clearing" (21 : Nat) "Proratehouse$Clearing" "count" "I" ∈ lw_good := lw_g 184 (by decide +kernel) (by decide +kernel)
theorem w_185 : Jvm.Cond.fieldLink "Proratehouse" (377 : Nat) "Proratehouse$Clearing" "count" "I" ∈ lw_good := lw_g 185 (by decide +kernel) (by decide +kernel)
theorem w_186 : Jvm.Cond.fieldLink "Proratehouse$Clearing" (38 : Nat) "Proratehouse$Clearing" "number" "I" ∈ lw_good := lw_g 186 (by decide +kernel) (by decide +kernel)
theorem w_187 : Jvm.Cond.fieldLink "Proratehouse" (324 : Nat) "Proratehouse$Clearing" "number" "I" ∈ lw_good := lw_g 187 (by decide +kernel) (by decide +kernel)
theorem w_188 : Jvm.Cond.fieldLink "Proratehouse$Clearing" (32 : Nat) "Proratehouse$Clearing" "inDefault" "I" ∈ lw_good := lw_g 188 (by decide +kernel) (by decide +kernel)
theorem w_189 : Jvm.Cond.fieldLink "Proratehouse" (378 : Nat) "Proratehouse$Clearing" "inDefault" "I" ∈ lw_good := lw_g 189 (by decide +kernel) (by decide +kernel)
theorem w_201 : Jvm.Cond.arrayClass Jvm.ClassFile.FieldType.long ∈ lw_good := lw_g 201 (by decide +kernel) (by decide +kernel)
theorem w_202 : Jvm.Cond.classLink "Proratehouse" (44 : Nat) "Proratehouse$Ticket" ∈ lw_good := lw_g 202 (by decide +kernel) (by decide +kernel)
theorem w_204 : Jvm.Cond.fieldLink "Proratehouse" (12 : Nat) "Proratehouse" "tariff" "LProratehouse$Tariff;" ∈ lw_good := lw_g 204 (by decide +kernel) (by decide +kernel)
theorem w_205 : Jvm.Cond.fieldLink "Proratehouse" (19 : Nat) "Proratehouse" "proration" "LProratehouse$Proration;" ∈ lw_good := lw_g 205 (by decide +kernel) (by decide +kernel)
theorem w_206 : Jvm.Cond.fieldLink "Proratehouse" (26 : Nat) "Proratehouse" "journey" "LProratehouse$Journey;" ∈ lw_good := lw_g 206 (by decide +kernel) (by decide +kernel)
theorem w_207 : Jvm.Cond.fieldLink "Proratehouse" (33 : Nat) "Proratehouse" "ways" "LProratehouse$Ways;" ∈ lw_good := lw_g 207 (by decide +kernel) (by decide +kernel)
theorem w_208 : Jvm.Cond.fieldLink "Proratehouse" (40 : Nat) "Proratehouse" "clearing" "LProratehouse$Clearing;" ∈ lw_good := lw_g 208 (by decide +kernel) (by decide +kernel)
theorem w_209 : Jvm.Cond.fieldLink "Proratehouse" (46 : Nat) "Proratehouse" "tickets" "[LProratehouse$Ticket;" ∈ lw_good := lw_g 209 (by decide +kernel) (by decide +kernel)
theorem w_210 : Jvm.Cond.fieldLink "Proratehouse" (50 : Nat) "Proratehouse" "carrierCash" "[J" ∈ lw_good := lw_g 210 (by decide +kernel) (by decide +kernel)
theorem w_211 : Jvm.Cond.fieldLink "Proratehouse" (54 : Nat) "Proratehouse" "stateCash" "[J" ∈ lw_good := lw_g 211 (by decide +kernel) (by decide +kernel)
theorem w_212 : Jvm.Cond.fieldLink "Proratehouse" (223 : Nat) "Proratehouse" "ticketCount" "I" ∈ lw_good := lw_g 212 (by decide +kernel) (by decide +kernel)
theorem w_213 : Jvm.Cond.fieldLink "Proratehouse" (149 : Nat) "Proratehouse" "penaltyHundredths" "I" ∈ lw_good := lw_g 213 (by decide +kernel) (by decide +kernel)
theorem w_214 : Jvm.Cond.fieldLink "Proratehouse" (373 : Nat) "Proratehouse" "buyersPaid" "J" ∈ lw_good := lw_g 214 (by decide +kernel) (by decide +kernel)
theorem w_238 : Jvm.Cond.methodLink "ProratehouseLaw" (222 : Nat) ({ cls := "ProratehouseLaw", name := "at", desc := "([II)I" } : Jvm.MethodName) ∈ lw_good := lw_g 238 (by decide +kernel) (by decide +kernel)
theorem w_239 : Jvm.Cond.static ({ cls := "ProratehouseLaw", name := "at", desc := "([II)I" } : Jvm.MethodName) ∈ lw_good := lw_g 239 (by decide +kernel) (by decide +kernel)
theorem w_240 : Jvm.Cond.code ({ cls := "ProratehouseLaw", name := "at", desc := "([II)I" } : Jvm.MethodName) method_2_code (2 : Nat) (Option.some Jvm.ClassFile.FieldType.int) ∈ lw_good := lw_g 240 (by decide +kernel) (by decide +kernel)
theorem w_241 : Jvm.Cond.constant "ProratehouseLaw" (7 : Nat) (1944573377 : Int32) ∈ lw_good := lw_g 241 (by decide +kernel) (by decide +kernel)
theorem w_242 : Jvm.Cond.constant "ProratehouseLaw" (8 : Nat) (1035975139 : Int32) ∈ lw_good := lw_g 242 (by decide +kernel) (by decide +kernel)
theorem w_243 : Jvm.Cond.methodLink "ProratehouseLaw" (151 : Nat) ({ cls := "ProratehouseLaw", name := "miles", desc := "(LProratehouse;III)I" } : Jvm.MethodName) ∈ lw_good := lw_g 243 (by decide +kernel) (by decide +kernel)
theorem w_244 : Jvm.Cond.static ({ cls := "ProratehouseLaw", name := "miles", desc := "(LProratehouse;III)I" } : Jvm.MethodName) ∈ lw_good := lw_g 244 (by decide +kernel) (by decide +kernel)
theorem w_245 : Jvm.Cond.codeWith ({ cls := "ProratehouseLaw", name := "miles", desc := "(LProratehouse;III)I" } : Jvm.MethodName) method_4_code (5 : Nat) (Option.some Jvm.ClassFile.FieldType.int) [((0 : Nat), (7 : Nat), (8 : Nat), (16 : Nat)), ((0 : Nat), (7 : Nat), (13 : Nat), (19 : Nat))] ∈ lw_good := lw_g 245 (by decide +kernel) (by decide +kernel)
theorem w_246 : Jvm.Cond.classLink "ProratehouseLaw" (16 : Nat) "java/lang/IndexOutOfBoundsException" ∈ lw_good := lw_g 246 (by decide +kernel) (by decide +kernel)
theorem w_247 : Jvm.Cond.classLink "ProratehouseLaw" (19 : Nat) "java/lang/IllegalArgumentException" ∈ lw_good := lw_g 247 (by decide +kernel) (by decide +kernel)
theorem w_248 : Jvm.Cond.methodLink "ProratehouseLaw" (10 : Nat) ({ cls := "Proratehouse", name := "miles", desc := "(III)I" } : Jvm.MethodName) ∈ lw_good := lw_g 248 (by decide +kernel) (by decide +kernel)
theorem w_249 : Jvm.Cond.instanceMethod ({ cls := "Proratehouse", name := "miles", desc := "(III)I" } : Jvm.MethodName) ∈ lw_good := lw_g 249 (by decide +kernel) (by decide +kernel)
theorem w_250 : Jvm.Cond.selects "Proratehouse" ({ cls := "Proratehouse", name := "miles", desc := "(III)I" } : Jvm.MethodName) ({ cls := "Proratehouse", name := "miles", desc := "(III)I" } : Jvm.MethodName) ∈ lw_good := lw_g 250 (by decide +kernel) (by decide +kernel)
theorem w_251 : Jvm.Cond.code ({ cls := "Proratehouse", name := "miles", desc := "(III)I" } : Jvm.MethodName) prog_1_method_2_code (4 : Nat) (Option.some Jvm.ClassFile.FieldType.int) ∈ lw_good := lw_g 251 (by decide +kernel) (by decide +kernel)
theorem w_252 : Jvm.Cond.methodLink "Proratehouse" (57 : Nat) ({ cls := "Proratehouse", name := "isPlace", desc := "(I)Z" } : Jvm.MethodName) ∈ lw_good := lw_g 252 (by decide +kernel) (by decide +kernel)
theorem w_253 : Jvm.Cond.static ({ cls := "Proratehouse", name := "isPlace", desc := "(I)Z" } : Jvm.MethodName) ∈ lw_good := lw_g 253 (by decide +kernel) (by decide +kernel)
theorem w_254 : Jvm.Cond.code ({ cls := "Proratehouse", name := "isPlace", desc := "(I)Z" } : Jvm.MethodName) prog_1_method_35_code (1 : Nat) (Option.some Jvm.ClassFile.FieldType.boolean) ∈ lw_good := lw_g 254 (by decide +kernel) (by decide +kernel)
theorem w_255 : Jvm.Cond.classLink "Proratehouse" (61 : Nat) "java/lang/IndexOutOfBoundsException" ∈ lw_good := lw_g 255 (by decide +kernel) (by decide +kernel)
theorem w_256 : Jvm.Cond.instantiable "java/lang/IndexOutOfBoundsException" (6 : Nat) ∈ lw_good := lw_g 256 (by decide +kernel) (by decide +kernel)
theorem w_264 : Jvm.Cond.selects "java/lang/IndexOutOfBoundsException" ({ cls := "java/lang/Throwable", name := "fillInStackTrace", desc := "(I)Ljava/lang/Throwable;" } : Jvm.MethodName) ({ cls := "java/lang/Throwable", name := "fillInStackTrace", desc := "(I)Ljava/lang/Throwable;" } : Jvm.MethodName) ∈ lw_good := lw_g 264 (by decide +kernel) (by decide +kernel)
theorem w_265 : Jvm.Cond.selects "java/lang/IndexOutOfBoundsException" ({ cls := "java/lang/Throwable", name := "fillInStackTrace", desc := "()Ljava/lang/Throwable;" } : Jvm.MethodName) ({ cls := "java/lang/Throwable", name := "fillInStackTrace", desc := "()Ljava/lang/Throwable;" } : Jvm.MethodName) ∈ lw_good := lw_g 265 (by decide +kernel) (by decide +kernel)
theorem w_276 : Jvm.Cond.fieldLink "java/lang/Throwable" (198 : Nat) "java/lang/Throwable" "backtrace" "Ljava/lang/Object;" ∈ lw_good := lw_g 276 (by decide +kernel) (by decide +kernel)
theorem w_278 : Jvm.Cond.instanceMethod ({ cls := "java/lang/Throwable", name := "<init>", desc := "()V" } : Jvm.MethodName) ∈ lw_good := lw_g 278 (by decide +kernel) (by decide +kernel)
theorem w_279 : Jvm.Cond.code ({ cls := "java/lang/Throwable", name := "<init>", desc := "()V" } : Jvm.MethodName) prog_22_method_1_code (1 : Nat) (Option.none : Option Jvm.ClassFile.FieldType) ∈ lw_good := lw_g 279 (by decide +kernel) (by decide +kernel)
theorem w_280 : Jvm.Cond.methodLink "java/lang/Throwable" (1 : Nat) ({ cls := "java/lang/Object", name := "<init>", desc := "()V" } : Jvm.MethodName) ∈ lw_good := lw_g 280 (by decide +kernel) (by decide +kernel)
theorem w_281 : Jvm.Cond.fieldLink "java/lang/Throwable" (13 : Nat) "java/lang/Throwable" "UNASSIGNED_STACK" "[Ljava/lang/StackTraceElement;" ∈ lw_good := lw_g 281 (by decide +kernel) (by decide +kernel)
theorem w_283 : Jvm.Cond.fieldLink "java/lang/Throwable" (20 : Nat) "java/lang/Throwable" "SUPPRESSED_SENTINEL" "Ljava/util/List;" ∈ lw_good := lw_g 283 (by decide +kernel) (by decide +kernel)
theorem w_285 : Jvm.Cond.methodLink "java/lang/Throwable" (27 : Nat) ({ cls := "java/lang/Throwable", name := "fillInStackTrace", desc := "()Ljava/lang/Throwable;" } : Jvm.MethodName) ∈ lw_good := lw_g 285 (by decide +kernel) (by decide +kernel)
theorem w_286 : Jvm.Cond.instanceMethod ({ cls := "java/lang/Throwable", name := "fillInStackTrace", desc := "()Ljava/lang/Throwable;" } : Jvm.MethodName) ∈ lw_good := lw_g 286 (by decide +kernel) (by decide +kernel)
theorem w_288 : Jvm.Cond.selects "java/lang/IllegalArgumentException" ({ cls := "java/lang/Throwable", name := "fillInStackTrace", desc := "()Ljava/lang/Throwable;" } : Jvm.MethodName) ({ cls := "java/lang/Throwable", name := "fillInStackTrace", desc := "()Ljava/lang/Throwable;" } : Jvm.MethodName) ∈ lw_good := lw_g 288 (by decide +kernel) (by decide +kernel)
theorem w_289 : Jvm.Cond.selects "java/lang/IllegalStateException" ({ cls := "java/lang/Throwable", name := "fillInStackTrace", desc := "()Ljava/lang/Throwable;" } : Jvm.MethodName) ({ cls := "java/lang/Throwable", name := "fillInStackTrace", desc := "()Ljava/lang/Throwable;" } : Jvm.MethodName) ∈ lw_good := lw_g 289 (by decide +kernel) (by decide +kernel)
theorem w_291 : Jvm.Cond.methodLink "java/lang/Throwable" (202 : Nat) ({ cls := "java/lang/Throwable", name := "fillInStackTrace", desc := "(I)Ljava/lang/Throwable;" } : Jvm.MethodName) ∈ lw_good := lw_g 291 (by decide +kernel) (by decide +kernel)
theorem w_293 : Jvm.Cond.instanceMethod ({ cls := "java/lang/Throwable", name := "fillInStackTrace", desc := "(I)Ljava/lang/Throwable;" } : Jvm.MethodName) ∈ lw_good := lw_g 293 (by decide +kernel) (by decide +kernel)
theorem w_294 : Jvm.Cond.instantiable "java/lang/Throwable" (6 : Nat) ∈ lw_good := lw_g 294 (by decide +kernel) (by decide +kernel)
theorem w_297 : Jvm.Cond.methodLink "Proratehouse" (65 : Nat) ({ cls := "java/lang/IndexOutOfBoundsException", name := "<init>", desc := "(Ljava/lang/String;)V" } : Jvm.MethodName) ∈ lw_good := lw_g 297 (by decide +kernel) (by decide +kernel)
theorem w_298 : Jvm.Cond.instanceMethod ({ cls := "java/lang/IndexOutOfBoundsException", name := "<init>", desc := "(Ljava/lang/String;)V" } : Jvm.MethodName) ∈ lw_good := lw_g 298 (by decide +kernel) (by decide +kernel)
theorem w_299 : Jvm.Cond.code ({ cls := "java/lang/IndexOutOfBoundsException", name := "<init>", desc := "(Ljava/lang/String;)V" } : Jvm.MethodName) prog_18_method_2_code (2 : Nat) (Option.none : Option Jvm.ClassFile.FieldType) ∈ lw_good := lw_g 299 (by decide +kernel) (by decide +kernel)
theorem w_300 : Jvm.Cond.methodLink "java/lang/IndexOutOfBoundsException" (7 : Nat) ({ cls := "java/lang/RuntimeException", name := "<init>", desc := "(Ljava/lang/String;)V" } : Jvm.MethodName) ∈ lw_good := lw_g 300 (by decide +kernel) (by decide +kernel)
theorem w_301 : Jvm.Cond.instanceMethod ({ cls := "java/lang/RuntimeException", name := "<init>", desc := "(Ljava/lang/String;)V" } : Jvm.MethodName) ∈ lw_good := lw_g 301 (by decide +kernel) (by decide +kernel)
theorem w_302 : Jvm.Cond.code ({ cls := "java/lang/RuntimeException", name := "<init>", desc := "(Ljava/lang/String;)V" } : Jvm.MethodName) prog_20_method_2_code (2 : Nat) (Option.none : Option Jvm.ClassFile.FieldType) ∈ lw_good := lw_g 302 (by decide +kernel) (by decide +kernel)
theorem w_303 : Jvm.Cond.methodLink "java/lang/RuntimeException" (7 : Nat) ({ cls := "java/lang/Exception", name := "<init>", desc := "(Ljava/lang/String;)V" } : Jvm.MethodName) ∈ lw_good := lw_g 303 (by decide +kernel) (by decide +kernel)
theorem w_304 : Jvm.Cond.instanceMethod ({ cls := "java/lang/Exception", name := "<init>", desc := "(Ljava/lang/String;)V" } : Jvm.MethodName) ∈ lw_good := lw_g 304 (by decide +kernel) (by decide +kernel)
theorem w_305 : Jvm.Cond.code ({ cls := "java/lang/Exception", name := "<init>", desc := "(Ljava/lang/String;)V" } : Jvm.MethodName) prog_15_method_2_code (2 : Nat) (Option.none : Option Jvm.ClassFile.FieldType) ∈ lw_good := lw_g 305 (by decide +kernel) (by decide +kernel)
theorem w_306 : Jvm.Cond.methodLink "java/lang/Exception" (7 : Nat) ({ cls := "java/lang/Throwable", name := "<init>", desc := "(Ljava/lang/String;)V" } : Jvm.MethodName) ∈ lw_good := lw_g 306 (by decide +kernel) (by decide +kernel)
theorem w_307 : Jvm.Cond.instanceMethod ({ cls := "java/lang/Throwable", name := "<init>", desc := "(Ljava/lang/String;)V" } : Jvm.MethodName) ∈ lw_good := lw_g 307 (by decide +kernel) (by decide +kernel)
theorem w_308 : Jvm.Cond.code ({ cls := "java/lang/Throwable", name := "<init>", desc := "(Ljava/lang/String;)V" } : Jvm.MethodName) prog_22_method_2_code (2 : Nat) (Option.none : Option Jvm.ClassFile.FieldType) ∈ lw_good := lw_g 308 (by decide +kernel) (by decide +kernel)
theorem w_309 : Jvm.Cond.fieldLink "java/lang/Throwable" (198 : Nat) "java/lang/Throwable" "backtrace" "Ljava/lang/Object;" ∈ lw_good := lw_g 309 (by decide +kernel) (by decide +kernel)
theorem w_310 : Jvm.Cond.fieldLink "java/lang/Throwable" (31 : Nat) "java/lang/Throwable" "detailMessage" "Ljava/lang/String;" ∈ lw_good := lw_g 310 (by decide +kernel) (by decide +kernel)
theorem w_311 : Jvm.Cond.fieldLink "java/lang/Throwable" (7 : Nat) "java/lang/Throwable" "cause" "Ljava/lang/Throwable;" ∈ lw_good := lw_g 311 (by decide +kernel) (by decide +kernel)
theorem w_312 : Jvm.Cond.fieldLink "java/lang/Throwable" (17 : Nat) "java/lang/Throwable" "stackTrace" "[Ljava/lang/StackTraceElement;" ∈ lw_good := lw_g 312 (by decide +kernel) (by decide +kernel)
theorem w_313 : Jvm.Cond.fieldLink "java/lang/Throwable" (24 : Nat) "java/lang/Throwable" "suppressedExceptions" "Ljava/util/List;" ∈ lw_good := lw_g 313 (by decide +kernel) (by decide +kernel)
theorem w_322 : Jvm.Cond.arrayClass Jvm.ClassFile.FieldType.byte ∈ lw_good := lw_g 322 (by decide +kernel) (by decide +kernel)
theorem w_323 : Jvm.Cond.methodLink "Proratehouse" (68 : Nat) ({ cls := "Proratehouse", name := "isWithin", desc := "(III)Z" } : Jvm.MethodName) ∈ lw_good := lw_g 323 (by decide +kernel) (by decide +kernel)
theorem w_324 : Jvm.Cond.static ({ cls := "Proratehouse", name := "isWithin", desc := "(III)Z" } : Jvm.MethodName) ∈ lw_good := lw_g 324 (by decide +kernel) (by decide +kernel)
theorem w_325 : Jvm.Cond.code ({ cls := "Proratehouse", name := "isWithin", desc := "(III)Z" } : Jvm.MethodName) prog_1_method_34_code (3 : Nat) (Option.some Jvm.ClassFile.FieldType.boolean) ∈ lw_good := lw_g 325 (by decide +kernel) (by decide +kernel)
theorem w_326 : Jvm.Cond.classLink "Proratehouse" (72 : Nat) "java/lang/IllegalArgumentException" ∈ lw_good := lw_g 326 (by decide +kernel) (by decide +kernel)
theorem w_327 : Jvm.Cond.instantiable "java/lang/IllegalArgumentException" (6 : Nat) ∈ lw_good := lw_g 327 (by decide +kernel) (by decide +kernel)
theorem w_329 : Jvm.Cond.selects "java/lang/IllegalArgumentException" ({ cls := "java/lang/Throwable", name := "fillInStackTrace", desc := "(I)Ljava/lang/Throwable;" } : Jvm.MethodName) ({ cls := "java/lang/Throwable", name := "fillInStackTrace", desc := "(I)Ljava/lang/Throwable;" } : Jvm.MethodName) ∈ lw_good := lw_g 329 (by decide +kernel) (by decide +kernel)
theorem w_336 : Jvm.Cond.methodLink "Proratehouse" (76 : Nat) ({ cls := "java/lang/IllegalArgumentException", name := "<init>", desc := "(Ljava/lang/String;)V" } : Jvm.MethodName) ∈ lw_good := lw_g 336 (by decide +kernel) (by decide +kernel)
theorem w_337 : Jvm.Cond.instanceMethod ({ cls := "java/lang/IllegalArgumentException", name := "<init>", desc := "(Ljava/lang/String;)V" } : Jvm.MethodName) ∈ lw_good := lw_g 337 (by decide +kernel) (by decide +kernel)
theorem w_338 : Jvm.Cond.code ({ cls := "java/lang/IllegalArgumentException", name := "<init>", desc := "(Ljava/lang/String;)V" } : Jvm.MethodName) prog_16_method_2_code (2 : Nat) (Option.none : Option Jvm.ClassFile.FieldType) ∈ lw_good := lw_g 338 (by decide +kernel) (by decide +kernel)
theorem w_339 : Jvm.Cond.methodLink "java/lang/IllegalArgumentException" (7 : Nat) ({ cls := "java/lang/RuntimeException", name := "<init>", desc := "(Ljava/lang/String;)V" } : Jvm.MethodName) ∈ lw_good := lw_g 339 (by decide +kernel) (by decide +kernel)
theorem w_342 : Jvm.Cond.methodLink "Proratehouse" (81 : Nat) ({ cls := "Proratehouse$Pairs", name := "put", desc := "(III)I" } : Jvm.MethodName) ∈ lw_good := lw_g 342 (by decide +kernel) (by decide +kernel)
theorem w_343 : Jvm.Cond.instanceMethod ({ cls := "Proratehouse$Pairs", name := "put", desc := "(III)I" } : Jvm.MethodName) ∈ lw_good := lw_g 343 (by decide +kernel) (by decide +kernel)
theorem w_344 : Jvm.Cond.selects "Proratehouse$Pairs" ({ cls := "Proratehouse$Pairs", name := "put", desc := "(III)I" } : Jvm.MethodName) ({ cls := "Proratehouse$Pairs", name := "put", desc := "(III)I" } : Jvm.MethodName) ∈ lw_good := lw_g 344 (by decide +kernel) (by decide +kernel)
theorem w_345 : Jvm.Cond.code ({ cls := "Proratehouse$Pairs", name := "put", desc := "(III)I" } : Jvm.MethodName) prog_8_method_3_code (5 : Nat) (Option.some Jvm.ClassFile.FieldType.int) ∈ lw_good := lw_g 345 (by decide +kernel) (by decide +kernel)
theorem w_346 : Jvm.Cond.methodLink "Proratehouse$Pairs" (19 : Nat) ({ cls := "Proratehouse$Pairs", name := "get", desc := "(II)I" } : Jvm.MethodName) ∈ lw_good := lw_g 346 (by decide +kernel) (by decide +kernel)
theorem w_347 : Jvm.Cond.instanceMethod ({ cls := "Proratehouse$Pairs", name := "get", desc := "(II)I" } : Jvm.MethodName) ∈ lw_good := lw_g 347 (by decide +kernel) (by decide +kernel)
theorem w_348 : Jvm.Cond.selects "Proratehouse$Pairs" ({ cls := "Proratehouse$Pairs", name := "get", desc := "(II)I" } : Jvm.MethodName) ({ cls := "Proratehouse$Pairs", name := "get", desc := "(II)I" } : Jvm.MethodName) ∈ lw_good := lw_g 348 (by decide +kernel) (by decide +kernel)
theorem w_349 : Jvm.Cond.code ({ cls := "Proratehouse$Pairs", name := "get", desc := "(II)I" } : Jvm.MethodName) prog_8_method_2_code (3 : Nat) (Option.some Jvm.ClassFile.FieldType.int) ∈ lw_good := lw_g 349 (by decide +kernel) (by decide +kernel)
theorem w_351 : Jvm.Cond.constant "ProratehouseLaw" (18 : Nat) (-1000001 : Int32) ∈ lw_good := lw_g 351 (by decide +kernel) (by decide +kernel)
theorem w_352 : Jvm.Cond.constant "ProratehouseLaw" (21 : Nat) (-1000002 : Int32) ∈ lw_good := lw_g 352 (by decide +kernel) (by decide +kernel)
theorem w_353 : Jvm.Cond.methodLink "ProratehouseLaw" (218 : Nat) ({ cls := "ProratehouseLaw", name := "balances", desc := "(LProratehouse;[I)Z" } : Jvm.MethodName) ∈ lw_good := lw_g 353 (by decide +kernel) (by decide +kernel)
theorem w_354 : Jvm.Cond.static ({ cls := "ProratehouseLaw", name := "balances", desc := "(LProratehouse;[I)Z" } : Jvm.MethodName) ∈ lw_good := lw_g 354 (by decide +kernel) (by decide +kernel)
theorem w_355 : Jvm.Cond.code ({ cls := "ProratehouseLaw", name := "balances", desc := "(LProratehouse;[I)Z" } : Jvm.MethodName) method_30_code (6 : Nat) (Option.some Jvm.ClassFile.FieldType.boolean) ∈ lw_good := lw_g 355 (by decide +kernel) (by decide +kernel)
theorem w_356 : Jvm.Cond.methodLink "ProratehouseLaw" (110 : Nat) ({ cls := "ProratehouseLaw", name := "cash", desc := "(LProratehouse;I)J" } : Jvm.MethodName) ∈ lw_good := lw_g 356 (by decide +kernel) (by decide +kernel)
theorem w_357 : Jvm.Cond.static ({ cls := "ProratehouseLaw", name := "cash", desc := "(LProratehouse;I)J" } : Jvm.MethodName) ∈ lw_good := lw_g 357 (by decide +kernel) (by decide +kernel)
theorem w_358 : Jvm.Cond.codeWith ({ cls := "ProratehouseLaw", name := "cash", desc := "(LProratehouse;I)J" } : Jvm.MethodName) method_26_code (3 : Nat) (Option.some Jvm.ClassFile.FieldType.long) [((0 : Nat), (5 : Nat), (6 : Nat), (16 : Nat))] ∈ lw_good := lw_g 358 (by decide +kernel) (by decide +kernel)
theorem w_359 : Jvm.Cond.methodLink "ProratehouseLaw" (95 : Nat) ({ cls := "Proratehouse", name := "cash", desc := "(I)J" } : Jvm.MethodName) ∈ lw_good := lw_g 359 (by decide +kernel) (by decide +kernel)
theorem w_360 : Jvm.Cond.instanceMethod ({ cls := "Proratehouse", name := "cash", desc := "(I)J" } : Jvm.MethodName) ∈ lw_good := lw_g 360 (by decide +kernel) (by decide +kernel)
theorem w_361 : Jvm.Cond.selects "Proratehouse" ({ cls := "Proratehouse", name := "cash", desc := "(I)J" } : Jvm.MethodName) ({ cls := "Proratehouse", name := "cash", desc := "(I)J" } : Jvm.MethodName) ∈ lw_good := lw_g 361 (by decide +kernel) (by decide +kernel)
theorem w_362 : Jvm.Cond.code ({ cls := "Proratehouse", name := "cash", desc := "(I)J" } : Jvm.MethodName) prog_1_method_29_code (2 : Nat) (Option.some Jvm.ClassFile.FieldType.long) ∈ lw_good := lw_g 362 (by decide +kernel) (by decide +kernel)
theorem w_363 : Jvm.Cond.methodLink "Proratehouse" (136 : Nat) ({ cls := "Proratehouse", name := "isCarrier", desc := "(I)Z" } : Jvm.MethodName) ∈ lw_good := lw_g 363 (by decide +kernel) (by decide +kernel)
theorem w_364 : Jvm.Cond.static ({ cls := "Proratehouse", name := "isCarrier", desc := "(I)Z" } : Jvm.MethodName) ∈ lw_good := lw_g 364 (by decide +kernel) (by decide +kernel)
theorem w_365 : Jvm.Cond.code ({ cls := "Proratehouse", name := "isCarrier", desc := "(I)Z" } : Jvm.MethodName) prog_1_method_36_code (1 : Nat) (Option.some Jvm.ClassFile.FieldType.boolean) ∈ lw_good := lw_g 365 (by decide +kernel) (by decide +kernel)
theorem w_367 : Jvm.Cond.constantLong "ProratehouseLaw" (99 : Nat) (-1000001 : Int64) ∈ lw_good := lw_g 367 (by decide +kernel) (by decide +kernel)
theorem w_368 : Jvm.Cond.methodLink "ProratehouseLaw" (115 : Nat) ({ cls := "ProratehouseLaw", name := "state", desc := "(LProratehouse;I)J" } : Jvm.MethodName) ∈ lw_good := lw_g 368 (by decide +kernel) (by decide +kernel)
theorem w_369 : Jvm.Cond.static ({ cls := "ProratehouseLaw", name := "state", desc := "(LProratehouse;I)J" } : Jvm.MethodName) ∈ lw_good := lw_g 369 (by decide +kernel) (by decide +kernel)
theorem w_370 : Jvm.Cond.codeWith ({ cls := "ProratehouseLaw", name := "state", desc := "(LProratehouse;I)J" } : Jvm.MethodName) method_28_code (3 : Nat) (Option.some Jvm.ClassFile.FieldType.long) [((0 : Nat), (5 : Nat), (6 : Nat), (16 : Nat))] ∈ lw_good := lw_g 370 (by decide +kernel) (by decide +kernel)
theorem w_371 : Jvm.Cond.methodLink "ProratehouseLaw" (104 : Nat) ({ cls := "Proratehouse", name := "state", desc := "(I)J" } : Jvm.MethodName) ∈ lw_good := lw_g 371 (by decide +kernel) (by decide +kernel)
theorem w_372 : Jvm.Cond.instanceMethod ({ cls := "Proratehouse", name := "state", desc := "(I)J" } : Jvm.MethodName) ∈ lw_good := lw_g 372 (by decide +kernel) (by decide +kernel)
theorem w_373 : Jvm.Cond.selects "Proratehouse" ({ cls := "Proratehouse", name := "state", desc := "(I)J" } : Jvm.MethodName) ({ cls := "Proratehouse", name := "state", desc := "(I)J" } : Jvm.MethodName) ∈ lw_good := lw_g 373 (by decide +kernel) (by decide +kernel)
theorem w_374 : Jvm.Cond.code ({ cls := "Proratehouse", name := "state", desc := "(I)J" } : Jvm.MethodName) prog_1_method_31_code (2 : Nat) (Option.some Jvm.ClassFile.FieldType.long) ∈ lw_good := lw_g 374 (by decide +kernel) (by decide +kernel)
theorem w_375 : Jvm.Cond.methodLink "ProratehouseLaw" (117 : Nat) ({ cls := "ProratehouseLaw", name := "of", desc := "(LProratehouse;I)I" } : Jvm.MethodName) ∈ lw_good := lw_g 375 (by decide +kernel) (by decide +kernel)
theorem w_376 : Jvm.Cond.static ({ cls := "ProratehouseLaw", name := "of", desc := "(LProratehouse;I)I" } : Jvm.MethodName) ∈ lw_good := lw_g 376 (by decide +kernel) (by decide +kernel)
theorem w_377 : Jvm.Cond.codeWith ({ cls := "ProratehouseLaw", name := "of", desc := "(LProratehouse;I)I" } : Jvm.MethodName) method_29_code (3 : Nat) (Option.some Jvm.ClassFile.FieldType.int) [((0 : Nat), (5 : Nat), (6 : Nat), (19 : Nat))] ∈ lw_good := lw_g 377 (by decide +kernel) (by decide +kernel)
theorem w_378 : Jvm.Cond.methodLink "ProratehouseLaw" (107 : Nat) ({ cls := "Proratehouse", name := "of", desc := "(I)I" } : Jvm.MethodName) ∈ lw_good := lw_g 378 (by decide +kernel) (by decide +kernel)
theorem w_379 : Jvm.Cond.instanceMethod ({ cls := "Proratehouse", name := "of", desc := "(I)I" } : Jvm.MethodName) ∈ lw_good := lw_g 379 (by decide +kernel) (by decide +kernel)
theorem w_380 : Jvm.Cond.selects "Proratehouse" ({ cls := "Proratehouse", name := "of", desc := "(I)I" } : Jvm.MethodName) ({ cls := "Proratehouse", name := "of", desc := "(I)I" } : Jvm.MethodName) ∈ lw_good := lw_g 380 (by decide +kernel) (by decide +kernel)
theorem w_381 : Jvm.Cond.code ({ cls := "Proratehouse", name := "of", desc := "(I)I" } : Jvm.MethodName) prog_1_method_33_code (2 : Nat) (Option.some Jvm.ClassFile.FieldType.int) ∈ lw_good := lw_g 381 (by decide +kernel) (by decide +kernel)
theorem w_383 : Jvm.Cond.methodLink "ProratehouseLaw" (120 : Nat) ({ cls := "ProratehouseLaw", name := "cashAnew", desc := "(LProratehouse;I)J" } : Jvm.MethodName) ∈ lw_good := lw_g 383 (by decide +kernel) (by decide +kernel)
theorem w_384 : Jvm.Cond.static ({ cls := "ProratehouseLaw", name := "cashAnew", desc := "(LProratehouse;I)J" } : Jvm.MethodName) ∈ lw_good := lw_g 384 (by decide +kernel) (by decide +kernel)
theorem w_385 : Jvm.Cond.codeWith ({ cls := "ProratehouseLaw", name := "cashAnew", desc := "(LProratehouse;I)J" } : Jvm.MethodName) method_27_code (3 : Nat) (Option.some Jvm.ClassFile.FieldType.long) [((0 : Nat), (5 : Nat), (6 : Nat), (16 : Nat))] ∈ lw_good := lw_g 385 (by decide +kernel) (by decide +kernel)
theorem w_386 : Jvm.Cond.methodLink "ProratehouseLaw" (101 : Nat) ({ cls := "Proratehouse", name := "cashAnew", desc := "(I)J" } : Jvm.MethodName) ∈ lw_good := lw_g 386 (by decide +kernel) (by decide +kernel)
theorem w_387 : Jvm.Cond.instanceMethod ({ cls := "Proratehouse", name := "cashAnew", desc := "(I)J" } : Jvm.MethodName) ∈ lw_good := lw_g 387 (by decide +kernel) (by decide +kernel)
theorem w_388 : Jvm.Cond.selects "Proratehouse" ({ cls := "Proratehouse", name := "cashAnew", desc := "(I)J" } : Jvm.MethodName) ({ cls := "Proratehouse", name := "cashAnew", desc := "(I)J" } : Jvm.MethodName) ∈ lw_good := lw_g 388 (by decide +kernel) (by decide +kernel)
theorem w_389 : Jvm.Cond.code ({ cls := "Proratehouse", name := "cashAnew", desc := "(I)J" } : Jvm.MethodName) prog_1_method_30_code (6 : Nat) (Option.some Jvm.ClassFile.FieldType.long) ∈ lw_good := lw_g 389 (by decide +kernel) (by decide +kernel)
theorem w_390 : Jvm.Cond.methodLink "Proratehouse" (362 : Nat) ({ cls := "Proratehouse$Clearing", name := "gotBy", desc := "(I)J" } : Jvm.MethodName) ∈ lw_good := lw_g 390 (by decide +kernel) (by decide +kernel)
theorem w_391 : Jvm.Cond.instanceMethod ({ cls := "Proratehouse$Clearing", name := "gotBy", desc := "(I)J" } : Jvm.MethodName) ∈ lw_good := lw_g 391 (by decide +kernel) (by decide +kernel)
theorem w_392 : Jvm.Cond.selects "Proratehouse$Clearing" ({ cls := "Proratehouse$Clearing", name := "gotBy", desc := "(I)J" } : Jvm.MethodName) ({ cls := "Proratehouse$Clearing", name := "gotBy", desc := "(I)J" } : Jvm.MethodName) ∈ lw_good := lw_g 392 (by decide +kernel) (by decide +kernel)
theorem w_393 : Jvm.Cond.code ({ cls := "Proratehouse$Clearing", name := "gotBy", desc := "(I)J" } : Jvm.MethodName) prog_3_method_12_code (6 : Nat) (Option.some Jvm.ClassFile.FieldType.long) ∈ lw_good := lw_g 393 (by decide +kernel) (by decide +kernel)
theorem w_394 : Jvm.Cond.methodLink "Proratehouse$Clearing" (41 : Nat) ({ cls := "Proratehouse$Clearing", name := "billAt", desc := "(I)LProratehouse$Bill;" } : Jvm.MethodName) ∈ lw_good := lw_g 394 (by decide +kernel) (by decide +kernel)
theorem w_395 : Jvm.Cond.instanceMethod ({ cls := "Proratehouse$Clearing", name := "billAt", desc := "(I)LProratehouse$Bill;" } : Jvm.MethodName) ∈ lw_good := lw_g 395 (by decide +kernel) (by decide +kernel)
theorem w_396 : Jvm.Cond.selects "Proratehouse$Clearing" ({ cls := "Proratehouse$Clearing", name := "billAt", desc := "(I)LProratehouse$Bill;" } : Jvm.MethodName) ({ cls := "Proratehouse$Clearing", name := "billAt", desc := "(I)LProratehouse$Bill;" } : Jvm.MethodName) ∈ lw_good := lw_g 396 (by decide +kernel) (by decide +kernel)
theorem w_397 : Jvm.Cond.code ({ cls := "Proratehouse$Clearing", name := "billAt", desc := "(I)LProratehouse$Bill;" } : Jvm.MethodName) prog_3_method_3_code (2 : Nat) (Option.some (Jvm.ClassFile.FieldType.object "Proratehouse$Bill")) ∈ lw_good := lw_g 397 (by decide +kernel) (by decide +kernel)
theorem w_398 : Jvm.Cond.methodLink "Proratehouse$Clearing" (86 : Nat) ({ cls := "Proratehouse$Bill", name := "gotByPayee", desc := "()I" } : Jvm.MethodName) ∈ lw_good := lw_g 398 (by decide +kernel) (by decide +kernel)
theorem w_399 : Jvm.Cond.instanceMethod ({ cls := "Proratehouse$Bill", name := "gotByPayee", desc := "()I" } : Jvm.MethodName) ∈ lw_good := lw_g 399 (by decide +kernel) (by decide +kernel)
theorem w_400 : Jvm.Cond.selects "Proratehouse$Bill" ({ cls := "Proratehouse$Bill", name := "gotByPayee", desc := "()I" } : Jvm.MethodName) ({ cls := "Proratehouse$Bill", name := "gotByPayee", desc := "()I" } : Jvm.MethodName) ∈ lw_good := lw_g 400 (by decide +kernel) (by decide +kernel)
theorem w_401 : Jvm.Cond.code ({ cls := "Proratehouse$Bill", name := "gotByPayee", desc := "()I" } : Jvm.MethodName) prog_2_method_8_code (1 : Nat) (Option.some Jvm.ClassFile.FieldType.int) ∈ lw_good := lw_g 401 (by decide +kernel) (by decide +kernel)
theorem w_402 : Jvm.Cond.methodLink "Proratehouse" (226 : Nat) ({ cls := "Proratehouse", name := "ticketAt", desc := "(I)LProratehouse$Ticket;" } : Jvm.MethodName) ∈ lw_good := lw_g 402 (by decide +kernel) (by decide +kernel)
theorem w_404 : Jvm.Cond.instanceMethod ({ cls := "Proratehouse", name := "ticketAt", desc := "(I)LProratehouse$Ticket;" } : Jvm.MethodName) ∈ lw_good := lw_g 404 (by decide +kernel) (by decide +kernel)
theorem w_405 : Jvm.Cond.code ({ cls := "Proratehouse", name := "ticketAt", desc := "(I)LProratehouse$Ticket;" } : Jvm.MethodName) prog_1_method_37_code (3 : Nat) (Option.some (Jvm.ClassFile.FieldType.object "Proratehouse$Ticket")) ∈ lw_good := lw_g 405 (by decide +kernel) (by decide +kernel)
theorem w_406 : Jvm.Cond.methodLink "Proratehouse" (370 : Nat) ({ cls := "Proratehouse$Ticket", name := "flownTaxes", desc := "()I" } : Jvm.MethodName) ∈ lw_good := lw_g 406 (by decide +kernel) (by decide +kernel)
theorem w_407 : Jvm.Cond.instanceMethod ({ cls := "Proratehouse$Ticket", name := "flownTaxes", desc := "()I" } : Jvm.MethodName) ∈ lw_good := lw_g 407 (by decide +kernel) (by decide +kernel)
theorem w_408 : Jvm.Cond.selects "Proratehouse$Ticket" ({ cls := "Proratehouse$Ticket", name := "flownTaxes", desc := "()I" } : Jvm.MethodName) ({ cls := "Proratehouse$Ticket", name := "flownTaxes", desc := "()I" } : Jvm.MethodName) ∈ lw_good := lw_g 408 (by decide +kernel) (by decide +kernel)
theorem w_409 : Jvm.Cond.code ({ cls := "Proratehouse$Ticket", name := "flownTaxes", desc := "()I" } : Jvm.MethodName) prog_11_method_8_code (4 : Nat) (Option.some Jvm.ClassFile.FieldType.int) ∈ lw_good := lw_g 409 (by decide +kernel) (by decide +kernel)
theorem w_410 : Jvm.Cond.methodLink "Proratehouse$Ticket" (36 : Nat) ({ cls := "Proratehouse$Ticket", name := "couponAt", desc := "(I)LProratehouse$Coupon;" } : Jvm.MethodName) ∈ lw_good := lw_g 410 (by decide +kernel) (by decide +kernel)
theorem w_411 : Jvm.Cond.instanceMethod ({ cls := "Proratehouse$Ticket", name := "couponAt", desc := "(I)LProratehouse$Coupon;" } : Jvm.MethodName) ∈ lw_good := lw_g 411 (by decide +kernel) (by decide +kernel)
theorem w_412 : Jvm.Cond.selects "Proratehouse$Ticket" ({ cls := "Proratehouse$Ticket", name := "couponAt", desc := "(I)LProratehouse$Coupon;" } : Jvm.MethodName) ({ cls := "Proratehouse$Ticket", name := "couponAt", desc := "(I)LProratehouse$Coupon;" } : Jvm.MethodName) ∈ lw_good := lw_g 412 (by decide +kernel) (by decide +kernel)
theorem w_413 : Jvm.Cond.code ({ cls := "Proratehouse$Ticket", name := "couponAt", desc := "(I)LProratehouse$Coupon;" } : Jvm.MethodName) prog_11_method_3_code (2 : Nat) (Option.some (Jvm.ClassFile.FieldType.object "Proratehouse$Coupon")) ∈ lw_good := lw_g 413 (by decide +kernel) (by decide +kernel)
theorem w_414 : Jvm.Cond.methodLink "ProratehouseLaw" (122 : Nat) ({ cls := "Proratehouse", name := "paid", desc := "()J" } : Jvm.MethodName) ∈ lw_good := lw_g 414 (by decide +kernel) (by decide +kernel)
theorem w_415 : Jvm.Cond.instanceMethod ({ cls := "Proratehouse", name := "paid", desc := "()J" } : Jvm.MethodName) ∈ lw_good := lw_g 415 (by decide +kernel) (by decide +kernel)
theorem w_416 : Jvm.Cond.selects "Proratehouse" ({ cls := "Proratehouse", name := "paid", desc := "()J" } : Jvm.MethodName) ({ cls := "Proratehouse", name := "paid", desc := "()J" } : Jvm.MethodName) ∈ lw_good := lw_g 416 (by decide +kernel) (by decide +kernel)
theorem w_417 : Jvm.Cond.code ({ cls := "Proratehouse", name := "paid", desc := "()J" } : Jvm.MethodName) prog_1_method_32_code (1 : Nat) (Option.some Jvm.ClassFile.FieldType.long) ∈ lw_good := lw_g 417 (by decide +kernel) (by decide +kernel)
theorem w_418 : Jvm.Cond.methodLink "ProratehouseLaw" (170 : Nat) ({ cls := "ProratehouseLaw", name := "isTicket", desc := "(LProratehouse;[II)Z" } : Jvm.MethodName) ∈ lw_good := lw_g 418 (by decide +kernel) (by decide +kernel)
theorem w_419 : Jvm.Cond.static ({ cls := "ProratehouseLaw", name := "isTicket", desc := "(LProratehouse;[II)Z" } : Jvm.MethodName) ∈ lw_good := lw_g 419 (by decide +kernel) (by decide +kernel)
theorem w_420 : Jvm.Cond.code ({ cls := "ProratehouseLaw", name := "isTicket", desc := "(LProratehouse;[II)Z" } : Jvm.MethodName) method_32_code (12 : Nat) (Option.some Jvm.ClassFile.FieldType.boolean) ∈ lw_good := lw_g 420 (by decide +kernel) (by decide +kernel)
theorem w_421 : Jvm.Cond.methodLink "ProratehouseLaw" (141 : Nat) ({ cls := "ProratehouseLaw", name := "ofTicket", desc := "(LProratehouse;II)I" } : Jvm.MethodName) ∈ lw_good := lw_g 421 (by decide +kernel) (by decide +kernel)
theorem w_422 : Jvm.Cond.static ({ cls := "ProratehouseLaw", name := "ofTicket", desc := "(LProratehouse;II)I" } : Jvm.MethodName) ∈ lw_good := lw_g 422 (by decide +kernel) (by decide +kernel)
theorem w_423 : Jvm.Cond.codeWith ({ cls := "ProratehouseLaw", name := "ofTicket", desc := "(LProratehouse;II)I" } : Jvm.MethodName) method_23_code (4 : Nat) (Option.some Jvm.ClassFile.FieldType.int) [((0 : Nat), (6 : Nat), (7 : Nat), (16 : Nat)), ((0 : Nat), (6 : Nat), (11 : Nat), (19 : Nat))] ∈ lw_good := lw_g 423 (by decide +kernel) (by decide +kernel)
theorem w_424 : Jvm.Cond.methodLink "ProratehouseLaw" (86 : Nat) ({ cls := "Proratehouse", name := "ofTicket", desc := "(II)I" } : Jvm.MethodName) ∈ lw_good := lw_g 424 (by decide +kernel) (by decide +kernel)
theorem w_425 : Jvm.Cond.instanceMethod ({ cls := "Proratehouse", name := "ofTicket", desc := "(II)I" } : Jvm.MethodName) ∈ lw_good := lw_g 425 (by decide +kernel) (by decide +kernel)
theorem w_426 : Jvm.Cond.selects "Proratehouse" ({ cls := "Proratehouse", name := "ofTicket", desc := "(II)I" } : Jvm.MethodName) ({ cls := "Proratehouse", name := "ofTicket", desc := "(II)I" } : Jvm.MethodName) ∈ lw_good := lw_g 426 (by decide +kernel) (by decide +kernel)
theorem w_427 : Jvm.Cond.code ({ cls := "Proratehouse", name := "ofTicket", desc := "(II)I" } : Jvm.MethodName) prog_1_method_26_code (4 : Nat) (Option.some Jvm.ClassFile.FieldType.int) ∈ lw_good := lw_g 427 (by decide +kernel) (by decide +kernel)
theorem w_429 : Jvm.Cond.methodLink "ProratehouseLaw" (143 : Nat) ({ cls := "ProratehouseLaw", name := "ofCoupon", desc := "(LProratehouse;III)I" } : Jvm.MethodName) ∈ lw_good := lw_g 429 (by decide +kernel) (by decide +kernel)
theorem w_430 : Jvm.Cond.static ({ cls := "ProratehouseLaw", name := "ofCoupon", desc := "(LProratehouse;III)I" } : Jvm.MethodName) ∈ lw_good := lw_g 430 (by decide +kernel) (by decide +kernel)
theorem w_431 : Jvm.Cond.codeWith ({ cls := "ProratehouseLaw", name := "ofCoupon", desc := "(LProratehouse;III)I" } : Jvm.MethodName) method_24_code (5 : Nat) (Option.some Jvm.ClassFile.FieldType.int) [((0 : Nat), (7 : Nat), (8 : Nat), (16 : Nat)), ((0 : Nat), (7 : Nat), (13 : Nat), (19 : Nat))] ∈ lw_good := lw_g 431 (by decide +kernel) (by decide +kernel)
theorem w_432 : Jvm.Cond.methodLink "ProratehouseLaw" (89 : Nat) ({ cls := "Proratehouse", name := "ofCoupon", desc := "(III)I" } : Jvm.MethodName) ∈ lw_good := lw_g 432 (by decide +kernel) (by decide +kernel)
theorem w_433 : Jvm.Cond.instanceMethod ({ cls := "Proratehouse", name := "ofCoupon", desc := "(III)I" } : Jvm.MethodName) ∈ lw_good := lw_g 433 (by decide +kernel) (by decide +kernel)
theorem w_434 : Jvm.Cond.selects "Proratehouse" ({ cls := "Proratehouse", name := "ofCoupon", desc := "(III)I" } : Jvm.MethodName) ({ cls := "Proratehouse", name := "ofCoupon", desc := "(III)I" } : Jvm.MethodName) ∈ lw_good := lw_g 434 (by decide +kernel) (by decide +kernel)
theorem w_435 : Jvm.Cond.code ({ cls := "Proratehouse", name := "ofCoupon", desc := "(III)I" } : Jvm.MethodName) prog_1_method_27_code (6 : Nat) (Option.some Jvm.ClassFile.FieldType.int) ∈ lw_good := lw_g 435 (by decide +kernel) (by decide +kernel)
theorem w_436 : Jvm.Cond.methodLink "Proratehouse" (229 : Nat) ({ cls := "Proratehouse$Ticket", name := "couponAt", desc := "(I)LProratehouse$Coupon;" } : Jvm.MethodName) ∈ lw_good := lw_g 436 (by decide +kernel) (by decide +kernel)
theorem w_438 : Jvm.Cond.methodLink "ProratehouseLaw" (146 : Nat) ({ cls := "ProratehouseLaw", name := "ofBill", desc := "(LProratehouse;II)I" } : Jvm.MethodName) ∈ lw_good := lw_g 438 (by decide +kernel) (by decide +kernel)
theorem w_439 : Jvm.Cond.static ({ cls := "ProratehouseLaw", name := "ofBill", desc := "(LProratehouse;II)I" } : Jvm.MethodName) ∈ lw_good := lw_g 439 (by decide +kernel) (by decide +kernel)
theorem w_440 : Jvm.Cond.codeWith ({ cls := "ProratehouseLaw", name := "ofBill", desc := "(LProratehouse;II)I" } : Jvm.MethodName) method_25_code (4 : Nat) (Option.some Jvm.ClassFile.FieldType.int) [((0 : Nat), (6 : Nat), (7 : Nat), (16 : Nat)), ((0 : Nat), (6 : Nat), (11 : Nat), (19 : Nat))] ∈ lw_good := lw_g 440 (by decide +kernel) (by decide +kernel)
theorem w_441 : Jvm.Cond.methodLink "ProratehouseLaw" (92 : Nat) ({ cls := "Proratehouse", name := "ofBill", desc := "(II)I" } : Jvm.MethodName) ∈ lw_good := lw_g 441 (by decide +kernel) (by decide +kernel)
theorem w_442 : Jvm.Cond.instanceMethod ({ cls := "Proratehouse", name := "ofBill", desc := "(II)I" } : Jvm.MethodName) ∈ lw_good := lw_g 442 (by decide +kernel) (by decide +kernel)
theorem w_443 : Jvm.Cond.selects "Proratehouse" ({ cls := "Proratehouse", name := "ofBill", desc := "(II)I" } : Jvm.MethodName) ({ cls := "Proratehouse", name := "ofBill", desc := "(II)I" } : Jvm.MethodName) ∈ lw_good := lw_g 443 (by decide +kernel) (by decide +kernel)
theorem w_444 : Jvm.Cond.code ({ cls := "Proratehouse", name := "ofBill", desc := "(II)I" } : Jvm.MethodName) prog_1_method_28_code (4 : Nat) (Option.some Jvm.ClassFile.FieldType.int) ∈ lw_good := lw_g 444 (by decide +kernel) (by decide +kernel)
theorem w_445 : Jvm.Cond.methodLink "Proratehouse" (312 : Nat) ({ cls := "Proratehouse$Clearing", name := "billAt", desc := "(I)LProratehouse$Bill;" } : Jvm.MethodName) ∈ lw_good := lw_g 445 (by decide +kernel) (by decide +kernel)
theorem w_447 : Jvm.Cond.methodLink "ProratehouseLaw" (192 : Nat) ({ cls := "ProratehouseLaw", name := "isBill", desc := "(LProratehouse;[II)Z" } : Jvm.MethodName) ∈ lw_good := lw_g 447 (by decide +kernel) (by decide +kernel)
theorem w_448 : Jvm.Cond.static ({ cls := "ProratehouseLaw", name := "isBill", desc := "(LProratehouse;[II)Z" } : Jvm.MethodName) ∈ lw_good := lw_g 448 (by decide +kernel) (by decide +kernel)
theorem w_449 : Jvm.Cond.code ({ cls := "ProratehouseLaw", name := "isBill", desc := "(LProratehouse;[II)Z" } : Jvm.MethodName) method_33_code (6 : Nat) (Option.some Jvm.ClassFile.FieldType.boolean) ∈ lw_good := lw_g 449 (by decide +kernel) (by decide +kernel)
theorem w_450 : Jvm.Cond.methodLink "ProratehouseLaw" (195 : Nat) ({ cls := "ProratehouseLaw", name := "tells", desc := "(LProratehouse;[III)Z" } : Jvm.MethodName) ∈ lw_good := lw_g 450 (by decide +kernel) (by decide +kernel)
theorem w_451 : Jvm.Cond.static ({ cls := "ProratehouseLaw", name := "tells", desc := "(LProratehouse;[III)Z" } : Jvm.MethodName) ∈ lw_good := lw_g 451 (by decide +kernel) (by decide +kernel)
theorem w_452 : Jvm.Cond.code ({ cls := "ProratehouseLaw", name := "tells", desc := "(LProratehouse;[III)Z" } : Jvm.MethodName) method_34_code (9 : Nat) (Option.some Jvm.ClassFile.FieldType.boolean) ∈ lw_good := lw_g 452 (by decide +kernel) (by decide +kernel)
theorem w_453 : Jvm.Cond.methodLink "ProratehouseLaw" (148 : Nat) ({ cls := "ProratehouseLaw", name := "low", desc := "(II)I" } : Jvm.MethodName) ∈ lw_good := lw_g 453 (by decide +kernel) (by decide +kernel)
theorem w_454 : Jvm.Cond.static ({ cls := "ProratehouseLaw", name := "low", desc := "(II)I" } : Jvm.MethodName) ∈ lw_good := lw_g 454 (by decide +kernel) (by decide +kernel)
theorem w_455 : Jvm.Cond.code ({ cls := "ProratehouseLaw", name := "low", desc := "(II)I" } : Jvm.MethodName) method_3_code (2 : Nat) (Option.some Jvm.ClassFile.FieldType.int) ∈ lw_good := lw_g 455 (by decide +kernel) (by decide +kernel)
theorem w_456 : Jvm.Cond.constant "ProratehouseLaw" (9 : Nat) (2147483647 : Int32) ∈ lw_good := lw_g 456 (by decide +kernel) (by decide +kernel)
theorem w_457 : Jvm.Cond.constant "ProratehouseLaw" (153 : Nat) (50000 : Int32) ∈ lw_good := lw_g 457 (by decide +kernel) (by decide +kernel)
theorem w_458 : Jvm.Cond.methodLink "ProratehouseLaw" (154 : Nat) ({ cls := "ProratehouseLaw", name := "fare", desc := "(LProratehouse;IIIIII)I" } : Jvm.MethodName) ∈ lw_good := lw_g 458 (by decide +kernel) (by decide +kernel)
theorem w_459 : Jvm.Cond.static ({ cls := "ProratehouseLaw", name := "fare", desc := "(LProratehouse;IIIIII)I" } : Jvm.MethodName) ∈ lw_good := lw_g 459 (by decide +kernel) (by decide +kernel)
theorem w_460 : Jvm.Cond.codeWith ({ cls := "ProratehouseLaw", name := "fare", desc := "(LProratehouse;IIIIII)I" } : Jvm.MethodName) method_5_code (8 : Nat) (Option.some Jvm.ClassFile.FieldType.int) [((0 : Nat), (13 : Nat), (14 : Nat), (16 : Nat)), ((0 : Nat), (13 : Nat), (19 : Nat), (19 : Nat)), ((0 : Nat), (13 : Nat), (24 : Nat), (26 : Nat))] ∈ lw_good := lw_g 460 (by decide +kernel) (by decide +kernel)
theorem w_461 : Jvm.Cond.classLink "ProratehouseLaw" (26 : Nat) "java/lang/IllegalStateException" ∈ lw_good := lw_g 461 (by decide +kernel) (by decide +kernel)
theorem w_462 : Jvm.Cond.methodLink "ProratehouseLaw" (22 : Nat) ({ cls := "Proratehouse", name := "fare", desc := "(IIIIII)I" } : Jvm.MethodName) ∈ lw_good := lw_g 462 (by decide +kernel) (by decide +kernel)
theorem w_463 : Jvm.Cond.instanceMethod ({ cls := "Proratehouse", name := "fare", desc := "(IIIIII)I" } : Jvm.MethodName) ∈ lw_good := lw_g 463 (by decide +kernel) (by decide +kernel)
theorem w_464 : Jvm.Cond.selects "Proratehouse" ({ cls := "Proratehouse", name := "fare", desc := "(IIIIII)I" } : Jvm.MethodName) ({ cls := "Proratehouse", name := "fare", desc := "(IIIIII)I" } : Jvm.MethodName) ∈ lw_good := lw_g 464 (by decide +kernel) (by decide +kernel)
theorem w_465 : Jvm.Cond.code ({ cls := "Proratehouse", name := "fare", desc := "(IIIIII)I" } : Jvm.MethodName) prog_1_method_3_code (7 : Nat) (Option.some Jvm.ClassFile.FieldType.int) ∈ lw_good := lw_g 465 (by decide +kernel) (by decide +kernel)
theorem w_466 : Jvm.Cond.constant "Proratehouse" (87 : Nat) (1000000 : Int32) ∈ lw_good := lw_g 466 (by decide +kernel) (by decide +kernel)
theorem w_468 : Jvm.Cond.classLink "Proratehouse" (94 : Nat) "java/lang/IllegalStateException" ∈ lw_good := lw_g 468 (by decide +kernel) (by decide +kernel)
theorem w_469 : Jvm.Cond.instantiable "java/lang/IllegalStateException" (6 : Nat) ∈ lw_good := lw_g 469 (by decide +kernel) (by decide +kernel)
theorem w_471 : Jvm.Cond.selects "java/lang/IllegalStateException" ({ cls := "java/lang/Throwable", name := "fillInStackTrace", desc := "(I)Ljava/lang/Throwable;" } : Jvm.MethodName) ({ cls := "java/lang/Throwable", name := "fillInStackTrace", desc := "(I)Ljava/lang/Throwable;" } : Jvm.MethodName) ∈ lw_good := lw_g 471 (by decide +kernel) (by decide +kernel)
theorem w_478 : Jvm.Cond.methodLink "Proratehouse" (98 : Nat) ({ cls := "java/lang/IllegalStateException", name := "<init>", desc := "(Ljava/lang/String;)V" } : Jvm.MethodName) ∈ lw_good := lw_g 478 (by decide +kernel) (by decide +kernel)
theorem w_479 : Jvm.Cond.instanceMethod ({ cls := "java/lang/IllegalStateException", name := "<init>", desc := "(Ljava/lang/String;)V" } : Jvm.MethodName) ∈ lw_good := lw_g 479 (by decide +kernel) (by decide +kernel)
theorem w_480 : Jvm.Cond.code ({ cls := "java/lang/IllegalStateException", name := "<init>", desc := "(Ljava/lang/String;)V" } : Jvm.MethodName) prog_17_method_2_code (2 : Nat) (Option.none : Option Jvm.ClassFile.FieldType) ∈ lw_good := lw_g 480 (by decide +kernel) (by decide +kernel)
theorem w_481 : Jvm.Cond.methodLink "java/lang/IllegalStateException" (7 : Nat) ({ cls := "java/lang/RuntimeException", name := "<init>", desc := "(Ljava/lang/String;)V" } : Jvm.MethodName) ∈ lw_good := lw_g 481 (by decide +kernel) (by decide +kernel)
theorem w_484 : Jvm.Cond.classLink "Proratehouse" (99 : Nat) "Proratehouse$Fare" ∈ lw_good := lw_g 484 (by decide +kernel) (by decide +kernel)
theorem w_485 : Jvm.Cond.instantiable "Proratehouse$Fare" (7 : Nat) ∈ lw_good := lw_g 485 (by decide +kernel) (by decide +kernel)
theorem w_486 : Jvm.Cond.methodLink "Proratehouse" (101 : Nat) ({ cls := "Proratehouse$Fare", name := "<init>", desc := "(IIIIII)V" } : Jvm.MethodName) ∈ lw_good := lw_g 486 (by decide +kernel) (by decide +kernel)
theorem w_487 : Jvm.Cond.instanceMethod ({ cls := "Proratehouse$Fare", name := "<init>", desc := "(IIIIII)V" } : Jvm.MethodName) ∈ lw_good := lw_g 487 (by decide +kernel) (by decide +kernel)
theorem w_488 : Jvm.Cond.code ({ cls := "Proratehouse$Fare", name := "<init>", desc := "(IIIIII)V" } : Jvm.MethodName) prog_5_method_1_code (7 : Nat) (Option.none : Option Jvm.ClassFile.FieldType) ∈ lw_good := lw_g 488 (by decide +kernel) (by decide +kernel)
theorem w_489 : Jvm.Cond.methodLink "Proratehouse$Fare" (1 : Nat) ({ cls := "java/lang/Object", name := "<init>", desc := "()V" } : Jvm.MethodName) ∈ lw_good := lw_g 489 (by decide +kernel) (by decide +kernel)
theorem w_490 : Jvm.Cond.fieldLink "Proratehouse$Fare" (7 : Nat) "Proratehouse$Fare" "from" "I" ∈ lw_good := lw_g 490 (by decide +kernel) (by decide +kernel)
theorem w_491 : Jvm.Cond.fieldLink "Proratehouse$Fare" (13 : Nat) "Proratehouse$Fare" "to" "I" ∈ lw_good := lw_g 491 (by decide +kernel) (by decide +kernel)
theorem w_492 : Jvm.Cond.fieldLink "Proratehouse$Fare" (16 : Nat) "Proratehouse$Fare" "cents" "I" ∈ lw_good := lw_g 492 (by decide +kernel) (by decide +kernel)
theorem w_493 : Jvm.Cond.fieldLink "Proratehouse$Tariff" (56 : Nat) "Proratehouse$Fare" "cents" "I" ∈ lw_good := lw_g 493 (by decide +kernel) (by decide +kernel)
theorem w_494 : Jvm.Cond.fieldLink "Proratehouse$Fare" (19 : Nat) "Proratehouse$Fare" "first" "I" ∈ lw_good := lw_g 494 (by decide +kernel) (by decide +kernel)
theorem w_495 : Jvm.Cond.fieldLink "Proratehouse$Fare" (22 : Nat) "Proratehouse$Fare" "last" "I" ∈ lw_good := lw_g 495 (by decide +kernel) (by decide +kernel)
theorem w_496 : Jvm.Cond.fieldLink "Proratehouse$Fare" (25 : Nat) "Proratehouse$Fare" "stops" "I" ∈ lw_good := lw_g 496 (by decide +kernel) (by decide +kernel)
theorem w_497 : Jvm.Cond.fieldLink "Proratehouse$Tariff" (53 : Nat) "Proratehouse$Fare" "stops" "I" ∈ lw_good := lw_g 497 (by decide +kernel) (by decide +kernel)
theorem w_498 : Jvm.Cond.fieldLink "Proratehouse$Fare" (28 : Nat) "Proratehouse$Fare" "isWithdrawn" "Z" ∈ lw_good := lw_g 498 (by decide +kernel) (by decide +kernel)
theorem w_514 : Jvm.Cond.methodLink "Proratehouse" (104 : Nat) ({ cls := "Proratehouse$Tariff", name := "file", desc := "(LProratehouse$Fare;)I" } : Jvm.MethodName) ∈ lw_good := lw_g 514 (by decide +kernel) (by decide +kernel)
theorem w_515 : Jvm.Cond.instanceMethod ({ cls := "Proratehouse$Tariff", name := "file", desc := "(LProratehouse$Fare;)I" } : Jvm.MethodName) ∈ lw_good := lw_g 515 (by decide +kernel) (by decide +kernel)
theorem w_516 : Jvm.Cond.selects "Proratehouse$Tariff" ({ cls := "Proratehouse$Tariff", name := "file", desc := "(LProratehouse$Fare;)I" } : Jvm.MethodName) ({ cls := "Proratehouse$Tariff", name := "file", desc := "(LProratehouse$Fare;)I" } : Jvm.MethodName) ∈ lw_good := lw_g 516 (by decide +kernel) (by decide +kernel)
theorem w_517 : Jvm.Cond.code ({ cls := "Proratehouse$Tariff", name := "file", desc := "(LProratehouse$Fare;)I" } : Jvm.MethodName) prog_10_method_2_code (2 : Nat) (Option.some Jvm.ClassFile.FieldType.int) ∈ lw_good := lw_g 517 (by decide +kernel) (by decide +kernel)
theorem w_518 : Jvm.Cond.constant "ProratehouseLaw" (28 : Nat) (-1000003 : Int32) ∈ lw_good := lw_g 518 (by decide +kernel) (by decide +kernel)
theorem w_519 : Jvm.Cond.methodLink "ProratehouseLaw" (157 : Nat) ({ cls := "ProratehouseLaw", name := "tax", desc := "(LProratehouse;III)I" } : Jvm.MethodName) ∈ lw_good := lw_g 519 (by decide +kernel) (by decide +kernel)
theorem w_520 : Jvm.Cond.static ({ cls := "ProratehouseLaw", name := "tax", desc := "(LProratehouse;III)I" } : Jvm.MethodName) ∈ lw_good := lw_g 520 (by decide +kernel) (by decide +kernel)
theorem w_521 : Jvm.Cond.codeWith ({ cls := "ProratehouseLaw", name := "tax", desc := "(LProratehouse;III)I" } : Jvm.MethodName) method_8_code (5 : Nat) (Option.some Jvm.ClassFile.FieldType.int) [((0 : Nat), (8 : Nat), (9 : Nat), (16 : Nat)), ((0 : Nat), (8 : Nat), (14 : Nat), (19 : Nat))] ∈ lw_good := lw_g 521 (by decide +kernel) (by decide +kernel)
theorem w_522 : Jvm.Cond.methodLink "ProratehouseLaw" (37 : Nat) ({ cls := "Proratehouse", name := "tax", desc := "(III)V" } : Jvm.MethodName) ∈ lw_good := lw_g 522 (by decide +kernel) (by decide +kernel)
theorem w_523 : Jvm.Cond.instanceMethod ({ cls := "Proratehouse", name := "tax", desc := "(III)V" } : Jvm.MethodName) ∈ lw_good := lw_g 523 (by decide +kernel) (by decide +kernel)
theorem w_524 : Jvm.Cond.selects "Proratehouse" ({ cls := "Proratehouse", name := "tax", desc := "(III)V" } : Jvm.MethodName) ({ cls := "Proratehouse", name := "tax", desc := "(III)V" } : Jvm.MethodName) ∈ lw_good := lw_g 524 (by decide +kernel) (by decide +kernel)
theorem w_525 : Jvm.Cond.code ({ cls := "Proratehouse", name := "tax", desc := "(III)V" } : Jvm.MethodName) prog_1_method_6_code (4 : Nat) (Option.none : Option Jvm.ClassFile.FieldType) ∈ lw_good := lw_g 525 (by decide +kernel) (by decide +kernel)
theorem w_527 : Jvm.Cond.methodLink "Proratehouse" (127 : Nat) ({ cls := "Proratehouse$Tariff", name := "putTaxes", desc := "(III)V" } : Jvm.MethodName) ∈ lw_good := lw_g 527 (by decide +kernel) (by decide +kernel)
theorem w_528 : Jvm.Cond.instanceMethod ({ cls := "Proratehouse$Tariff", name := "putTaxes", desc := "(III)V" } : Jvm.MethodName) ∈ lw_good := lw_g 528 (by decide +kernel) (by decide +kernel)
theorem w_529 : Jvm.Cond.selects "Proratehouse$Tariff" ({ cls := "Proratehouse$Tariff", name := "putTaxes", desc := "(III)V" } : Jvm.MethodName) ({ cls := "Proratehouse$Tariff", name := "putTaxes", desc := "(III)V" } : Jvm.MethodName) ∈ lw_good := lw_g 529 (by decide +kernel) (by decide +kernel)
theorem w_530 : Jvm.Cond.code ({ cls := "Proratehouse$Tariff", name := "putTaxes", desc := "(III)V" } : Jvm.MethodName) prog_10_method_4_code (4 : Nat) (Option.none : Option Jvm.ClassFile.FieldType) ∈ lw_good := lw_g 530 (by decide +kernel) (by decide +kernel)
theorem w_532 : Jvm.Cond.methodLink "ProratehouseLaw" (159 : Nat) ({ cls := "ProratehouseLaw", name := "weight", desc := "(LProratehouse;III)I" } : Jvm.MethodName) ∈ lw_good := lw_g 532 (by decide +kernel) (by decide +kernel)
theorem w_533 : Jvm.Cond.static ({ cls := "ProratehouseLaw", name := "weight", desc := "(LProratehouse;III)I" } : Jvm.MethodName) ∈ lw_good := lw_g 533 (by decide +kernel) (by decide +kernel)
theorem w_534 : Jvm.Cond.codeWith ({ cls := "ProratehouseLaw", name := "weight", desc := "(LProratehouse;III)I" } : Jvm.MethodName) method_9_code (5 : Nat) (Option.some Jvm.ClassFile.FieldType.int) [((0 : Nat), (7 : Nat), (8 : Nat), (16 : Nat)), ((0 : Nat), (7 : Nat), (13 : Nat), (19 : Nat))] ∈ lw_good := lw_g 534 (by decide +kernel) (by decide +kernel)
theorem w_535 : Jvm.Cond.methodLink "ProratehouseLaw" (41 : Nat) ({ cls := "Proratehouse", name := "weight", desc := "(III)I" } : Jvm.MethodName) ∈ lw_good := lw_g 535 (by decide +kernel) (by decide +kernel)
theorem w_536 : Jvm.Cond.instanceMethod ({ cls := "Proratehouse", name := "weight", desc := "(III)I" } : Jvm.MethodName) ∈ lw_good := lw_g 536 (by decide +kernel) (by decide +kernel)
theorem w_537 : Jvm.Cond.selects "Proratehouse" ({ cls := "Proratehouse", name := "weight", desc := "(III)I" } : Jvm.MethodName) ({ cls := "Proratehouse", name := "weight", desc := "(III)I" } : Jvm.MethodName) ∈ lw_good := lw_g 537 (by decide +kernel) (by decide +kernel)
theorem w_538 : Jvm.Cond.code ({ cls := "Proratehouse", name := "weight", desc := "(III)I" } : Jvm.MethodName) prog_1_method_7_code (4 : Nat) (Option.some Jvm.ClassFile.FieldType.int) ∈ lw_good := lw_g 538 (by decide +kernel) (by decide +kernel)
theorem w_540 : Jvm.Cond.methodLink "ProratehouseLaw" (161 : Nat) ({ cls := "ProratehouseLaw", name := "proviso", desc := "(LProratehouse;IIII)I" } : Jvm.MethodName) ∈ lw_good := lw_g 540 (by decide +kernel) (by decide +kernel)
theorem w_541 : Jvm.Cond.static ({ cls := "ProratehouseLaw", name := "proviso", desc := "(LProratehouse;IIII)I" } : Jvm.MethodName) ∈ lw_good := lw_g 541 (by decide +kernel) (by decide +kernel)
theorem w_542 : Jvm.Cond.codeWith ({ cls := "ProratehouseLaw", name := "proviso", desc := "(LProratehouse;IIII)I" } : Jvm.MethodName) method_10_code (6 : Nat) (Option.some Jvm.ClassFile.FieldType.int) [((0 : Nat), (9 : Nat), (10 : Nat), (16 : Nat)), ((0 : Nat), (9 : Nat), (15 : Nat), (19 : Nat))] ∈ lw_good := lw_g 542 (by decide +kernel) (by decide +kernel)
theorem w_543 : Jvm.Cond.methodLink "ProratehouseLaw" (44 : Nat) ({ cls := "Proratehouse", name := "proviso", desc := "(IIII)I" } : Jvm.MethodName) ∈ lw_good := lw_g 543 (by decide +kernel) (by decide +kernel)
theorem w_544 : Jvm.Cond.instanceMethod ({ cls := "Proratehouse", name := "proviso", desc := "(IIII)I" } : Jvm.MethodName) ∈ lw_good := lw_g 544 (by decide +kernel) (by decide +kernel)
theorem w_545 : Jvm.Cond.selects "Proratehouse" ({ cls := "Proratehouse", name := "proviso", desc := "(IIII)I" } : Jvm.MethodName) ({ cls := "Proratehouse", name := "proviso", desc := "(IIII)I" } : Jvm.MethodName) ∈ lw_good := lw_g 545 (by decide +kernel) (by decide +kernel)
theorem w_546 : Jvm.Cond.code ({ cls := "Proratehouse", name := "proviso", desc := "(IIII)I" } : Jvm.MethodName) prog_1_method_8_code (5 : Nat) (Option.some Jvm.ClassFile.FieldType.int) ∈ lw_good := lw_g 546 (by decide +kernel) (by decide +kernel)
theorem w_549 : Jvm.Cond.methodLink "Proratehouse" (143 : Nat) ({ cls := "Proratehouse$Proration", name := "putProviso", desc := "(IIII)I" } : Jvm.MethodName) ∈ lw_good := lw_g 549 (by decide +kernel) (by decide +kernel)
theorem w_550 : Jvm.Cond.instanceMethod ({ cls := "Proratehouse$Proration", name := "putProviso", desc := "(IIII)I" } : Jvm.MethodName) ∈ lw_good := lw_g 550 (by decide +kernel) (by decide +kernel)
theorem w_551 : Jvm.Cond.selects "Proratehouse$Proration" ({ cls := "Proratehouse$Proration", name := "putProviso", desc := "(IIII)I" } : Jvm.MethodName) ({ cls := "Proratehouse$Proration", name := "putProviso", desc := "(IIII)I" } : Jvm.MethodName) ∈ lw_good := lw_g 551 (by decide +kernel) (by decide +kernel)
theorem w_552 : Jvm.Cond.code ({ cls := "Proratehouse$Proration", name := "putProviso", desc := "(IIII)I" } : Jvm.MethodName) prog_9_method_2_code (6 : Nat) (Option.some Jvm.ClassFile.FieldType.int) ∈ lw_good := lw_g 552 (by decide +kernel) (by decide +kernel)
theorem w_553 : Jvm.Cond.methodLink "Proratehouse$Proration" (22 : Nat) ({ cls := "Proratehouse$Proration", name := "provisoOf", desc := "(III)I" } : Jvm.MethodName) ∈ lw_good := lw_g 553 (by decide +kernel) (by decide +kernel)
theorem w_555 : Jvm.Cond.instanceMethod ({ cls := "Proratehouse$Proration", name := "provisoOf", desc := "(III)I" } : Jvm.MethodName) ∈ lw_good := lw_g 555 (by decide +kernel) (by decide +kernel)
theorem w_556 : Jvm.Cond.code ({ cls := "Proratehouse$Proration", name := "provisoOf", desc := "(III)I" } : Jvm.MethodName) prog_9_method_3_code (4 : Nat) (Option.some Jvm.ClassFile.FieldType.int) ∈ lw_good := lw_g 556 (by decide +kernel) (by decide +kernel)
theorem w_559 : Jvm.Cond.methodLink "ProratehouseLaw" (164 : Nat) ({ cls := "ProratehouseLaw", name := "unit", desc := "(LProratehouse;I)I" } : Jvm.MethodName) ∈ lw_good := lw_g 559 (by decide +kernel) (by decide +kernel)
theorem w_560 : Jvm.Cond.static ({ cls := "ProratehouseLaw", name := "unit", desc := "(LProratehouse;I)I" } : Jvm.MethodName) ∈ lw_good := lw_g 560 (by decide +kernel) (by decide +kernel)
theorem w_561 : Jvm.Cond.codeWith ({ cls := "ProratehouseLaw", name := "unit", desc := "(LProratehouse;I)I" } : Jvm.MethodName) method_7_code (3 : Nat) (Option.some Jvm.ClassFile.FieldType.int) [((0 : Nat), (5 : Nat), (6 : Nat), (19 : Nat))] ∈ lw_good := lw_g 561 (by decide +kernel) (by decide +kernel)
theorem w_562 : Jvm.Cond.methodLink "ProratehouseLaw" (33 : Nat) ({ cls := "Proratehouse", name := "unit", desc := "(I)I" } : Jvm.MethodName) ∈ lw_good := lw_g 562 (by decide +kernel) (by decide +kernel)
theorem w_563 : Jvm.Cond.instanceMethod ({ cls := "Proratehouse", name := "unit", desc := "(I)I" } : Jvm.MethodName) ∈ lw_good := lw_g 563 (by decide +kernel) (by decide +kernel)
theorem w_564 : Jvm.Cond.selects "Proratehouse" ({ cls := "Proratehouse", name := "unit", desc := "(I)I" } : Jvm.MethodName) ({ cls := "Proratehouse", name := "unit", desc := "(I)I" } : Jvm.MethodName) ∈ lw_good := lw_g 564 (by decide +kernel) (by decide +kernel)
theorem w_565 : Jvm.Cond.code ({ cls := "Proratehouse", name := "unit", desc := "(I)I" } : Jvm.MethodName) prog_1_method_5_code (3 : Nat) (Option.some Jvm.ClassFile.FieldType.int) ∈ lw_good := lw_g 565 (by decide +kernel) (by decide +kernel)
theorem w_567 : Jvm.Cond.methodLink "ProratehouseLaw" (166 : Nat) ({ cls := "ProratehouseLaw", name := "penalty", desc := "(LProratehouse;I)I" } : Jvm.MethodName) ∈ lw_good := lw_g 567 (by decide +kernel) (by decide +kernel)
theorem w_568 : Jvm.Cond.static ({ cls := "ProratehouseLaw", name := "penalty", desc := "(LProratehouse;I)I" } : Jvm.MethodName) ∈ lw_good := lw_g 568 (by decide +kernel) (by decide +kernel)
theorem w_569 : Jvm.Cond.codeWith ({ cls := "ProratehouseLaw", name := "penalty", desc := "(LProratehouse;I)I" } : Jvm.MethodName) method_11_code (3 : Nat) (Option.some Jvm.ClassFile.FieldType.int) [((0 : Nat), (5 : Nat), (6 : Nat), (19 : Nat))] ∈ lw_good := lw_g 569 (by decide +kernel) (by decide +kernel)
theorem w_570 : Jvm.Cond.methodLink "ProratehouseLaw" (48 : Nat) ({ cls := "Proratehouse", name := "penalty", desc := "(I)I" } : Jvm.MethodName) ∈ lw_good := lw_g 570 (by decide +kernel) (by decide +kernel)
theorem w_571 : Jvm.Cond.instanceMethod ({ cls := "Proratehouse", name := "penalty", desc := "(I)I" } : Jvm.MethodName) ∈ lw_good := lw_g 571 (by decide +kernel) (by decide +kernel)
theorem w_572 : Jvm.Cond.selects "Proratehouse" ({ cls := "Proratehouse", name := "penalty", desc := "(I)I" } : Jvm.MethodName) ({ cls := "Proratehouse", name := "penalty", desc := "(I)I" } : Jvm.MethodName) ∈ lw_good := lw_g 572 (by decide +kernel) (by decide +kernel)
theorem w_573 : Jvm.Cond.code ({ cls := "Proratehouse", name := "penalty", desc := "(I)I" } : Jvm.MethodName) prog_1_method_9_code (3 : Nat) (Option.some Jvm.ClassFile.FieldType.int) ∈ lw_good := lw_g 573 (by decide +kernel) (by decide +kernel)
theorem w_575 : Jvm.Cond.methodLink "ProratehouseLaw" (226 : Nat) ({ cls := "ProratehouseLaw", name := "acts", desc := "(LProratehouse;[I[III)Z" } : Jvm.MethodName) ∈ lw_good := lw_g 575 (by decide +kernel) (by decide +kernel)
theorem w_576 : Jvm.Cond.static ({ cls := "ProratehouseLaw", name := "acts", desc := "(LProratehouse;[I[III)Z" } : Jvm.MethodName) ∈ lw_good := lw_g 576 (by decide +kernel) (by decide +kernel)
theorem w_577 : Jvm.Cond.code ({ cls := "ProratehouseLaw", name := "acts", desc := "(LProratehouse;[I[III)Z" } : Jvm.MethodName) method_39_code (7 : Nat) (Option.some Jvm.ClassFile.FieldType.boolean) ∈ lw_good := lw_g 577 (by decide +kernel) (by decide +kernel)
theorem w_578 : Jvm.Cond.methodLink "ProratehouseLaw" (199 : Nat) ({ cls := "ProratehouseLaw", name := "travels", desc := "(LProratehouse;[I[III)Z" } : Jvm.MethodName) ∈ lw_good := lw_g 578 (by decide +kernel) (by decide +kernel)
theorem w_579 : Jvm.Cond.static ({ cls := "ProratehouseLaw", name := "travels", desc := "(LProratehouse;[I[III)Z" } : Jvm.MethodName) ∈ lw_good := lw_g 579 (by decide +kernel) (by decide +kernel)
theorem w_580 : Jvm.Cond.code ({ cls := "ProratehouseLaw", name := "travels", desc := "(LProratehouse;[I[III)Z" } : Jvm.MethodName) method_35_code (10 : Nat) (Option.some Jvm.ClassFile.FieldType.boolean) ∈ lw_good := lw_g 580 (by decide +kernel) (by decide +kernel)
theorem w_581 : Jvm.Cond.methodLink "ProratehouseLaw" (168 : Nat) ({ cls := "ProratehouseLaw", name := "leg", desc := "(LProratehouse;IIII)I" } : Jvm.MethodName) ∈ lw_good := lw_g 581 (by decide +kernel) (by decide +kernel)
theorem w_582 : Jvm.Cond.static ({ cls := "ProratehouseLaw", name := "leg", desc := "(LProratehouse;IIII)I" } : Jvm.MethodName) ∈ lw_good := lw_g 582 (by decide +kernel) (by decide +kernel)
theorem w_583 : Jvm.Cond.codeWith ({ cls := "ProratehouseLaw", name := "leg", desc := "(LProratehouse;IIII)I" } : Jvm.MethodName) method_12_code (6 : Nat) (Option.some Jvm.ClassFile.FieldType.int) [((0 : Nat), (9 : Nat), (10 : Nat), (16 : Nat)), ((0 : Nat), (9 : Nat), (15 : Nat), (19 : Nat)), ((0 : Nat), (9 : Nat), (20 : Nat), (26 : Nat))] ∈ lw_good := lw_g 583 (by decide +kernel) (by decide +kernel)
theorem w_584 : Jvm.Cond.methodLink "ProratehouseLaw" (51 : Nat) ({ cls := "Proratehouse", name := "leg", desc := "(IIII)I" } : Jvm.MethodName) ∈ lw_good := lw_g 584 (by decide +kernel) (by decide +kernel)
theorem w_585 : Jvm.Cond.instanceMethod ({ cls := "Proratehouse", name := "leg", desc := "(IIII)I" } : Jvm.MethodName) ∈ lw_good := lw_g 585 (by decide +kernel) (by decide +kernel)
theorem w_586 : Jvm.Cond.selects "Proratehouse" ({ cls := "Proratehouse", name := "leg", desc := "(IIII)I" } : Jvm.MethodName) ({ cls := "Proratehouse", name := "leg", desc := "(IIII)I" } : Jvm.MethodName) ∈ lw_good := lw_g 586 (by decide +kernel) (by decide +kernel)
theorem w_587 : Jvm.Cond.code ({ cls := "Proratehouse", name := "leg", desc := "(IIII)I" } : Jvm.MethodName) prog_1_method_10_code (5 : Nat) (Option.some Jvm.ClassFile.FieldType.int) ∈ lw_good := lw_g 587 (by decide +kernel) (by decide +kernel)
theorem w_590 : Jvm.Cond.methodLink "Proratehouse" (159 : Nat) ({ cls := "Proratehouse$Journey", name := "goesOn", desc := "(II)Z" } : Jvm.MethodName) ∈ lw_good := lw_g 590 (by decide +kernel) (by decide +kernel)
theorem w_591 : Jvm.Cond.instanceMethod ({ cls := "Proratehouse$Journey", name := "goesOn", desc := "(II)Z" } : Jvm.MethodName) ∈ lw_good := lw_g 591 (by decide +kernel) (by decide +kernel)
theorem w_592 : Jvm.Cond.selects "Proratehouse$Journey" ({ cls := "Proratehouse$Journey", name := "goesOn", desc := "(II)Z" } : Jvm.MethodName) ({ cls := "Proratehouse$Journey", name := "goesOn", desc := "(II)Z" } : Jvm.MethodName) ∈ lw_good := lw_g 592 (by decide +kernel) (by decide +kernel)
theorem w_593 : Jvm.Cond.code ({ cls := "Proratehouse$Journey", name := "goesOn", desc := "(II)Z" } : Jvm.MethodName) prog_6_method_3_code (4 : Nat) (Option.some Jvm.ClassFile.FieldType.boolean) ∈ lw_good := lw_g 593 (by decide +kernel) (by decide +kernel)
theorem w_594 : Jvm.Cond.methodLink "Proratehouse$Journey" (22 : Nat) ({ cls := "Proratehouse$Journey", name := "legAt", desc := "(I)LProratehouse$Leg;" } : Jvm.MethodName) ∈ lw_good := lw_g 594 (by decide +kernel) (by decide +kernel)
theorem w_595 : Jvm.Cond.instanceMethod ({ cls := "Proratehouse$Journey", name := "legAt", desc := "(I)LProratehouse$Leg;" } : Jvm.MethodName) ∈ lw_good := lw_g 595 (by decide +kernel) (by decide +kernel)
theorem w_596 : Jvm.Cond.selects "Proratehouse$Journey" ({ cls := "Proratehouse$Journey", name := "legAt", desc := "(I)LProratehouse$Leg;" } : Jvm.MethodName) ({ cls := "Proratehouse$Journey", name := "legAt", desc := "(I)LProratehouse$Leg;" } : Jvm.MethodName) ∈ lw_good := lw_g 596 (by decide +kernel) (by decide +kernel)
theorem w_597 : Jvm.Cond.code ({ cls := "Proratehouse$Journey", name := "legAt", desc := "(I)LProratehouse$Leg;" } : Jvm.MethodName) prog_6_method_2_code (2 : Nat) (Option.some (Jvm.ClassFile.FieldType.object "Proratehouse$Leg")) ∈ lw_good := lw_g 597 (by decide +kernel) (by decide +kernel)
theorem w_598 : Jvm.Cond.methodLink "Proratehouse" (163 : Nat) ({ cls := "Proratehouse$Pairs", name := "get", desc := "(II)I" } : Jvm.MethodName) ∈ lw_good := lw_g 598 (by decide +kernel) (by decide +kernel)
theorem w_600 : Jvm.Cond.methodLink "Proratehouse" (169 : Nat) ({ cls := "Proratehouse$Journey", name := "add", desc := "(IIII)I" } : Jvm.MethodName) ∈ lw_good := lw_g 600 (by decide +kernel) (by decide +kernel)
theorem w_601 : Jvm.Cond.instanceMethod ({ cls := "Proratehouse$Journey", name := "add", desc := "(IIII)I" } : Jvm.MethodName) ∈ lw_good := lw_g 601 (by decide +kernel) (by decide +kernel)
theorem w_602 : Jvm.Cond.selects "Proratehouse$Journey" ({ cls := "Proratehouse$Journey", name := "add", desc := "(IIII)I" } : Jvm.MethodName) ({ cls := "Proratehouse$Journey", name := "add", desc := "(IIII)I" } : Jvm.MethodName) ∈ lw_good := lw_g 602 (by decide +kernel) (by decide +kernel)
theorem w_603 : Jvm.Cond.code ({ cls := "Proratehouse$Journey", name := "add", desc := "(IIII)I" } : Jvm.MethodName) prog_6_method_4_code (6 : Nat) (Option.some Jvm.ClassFile.FieldType.int) ∈ lw_good := lw_g 603 (by decide +kernel) (by decide +kernel)
theorem w_604 : Jvm.Cond.methodLink "ProratehouseLaw" (203 : Nat) ({ cls := "ProratehouseLaw", name := "isWay", desc := "(LProratehouse;[I)Z" } : Jvm.MethodName) ∈ lw_good := lw_g 604 (by decide +kernel) (by decide +kernel)
theorem w_605 : Jvm.Cond.static ({ cls := "ProratehouseLaw", name := "isWay", desc := "(LProratehouse;[I)Z" } : Jvm.MethodName) ∈ lw_good := lw_g 605 (by decide +kernel) (by decide +kernel)
theorem w_606 : Jvm.Cond.code ({ cls := "ProratehouseLaw", name := "isWay", desc := "(LProratehouse;[I)Z" } : Jvm.MethodName) method_31_code (9 : Nat) (Option.some Jvm.ClassFile.FieldType.boolean) ∈ lw_good := lw_g 606 (by decide +kernel) (by decide +kernel)
theorem w_607 : Jvm.Cond.methodLink "ProratehouseLaw" (126 : Nat) ({ cls := "Proratehouse", name := "price", desc := "()I" } : Jvm.MethodName) ∈ lw_good := lw_g 607 (by decide +kernel) (by decide +kernel)
theorem w_608 : Jvm.Cond.instanceMethod ({ cls := "Proratehouse", name := "price", desc := "()I" } : Jvm.MethodName) ∈ lw_good := lw_g 608 (by decide +kernel) (by decide +kernel)
theorem w_609 : Jvm.Cond.selects "Proratehouse" ({ cls := "Proratehouse", name := "price", desc := "()I" } : Jvm.MethodName) ({ cls := "Proratehouse", name := "price", desc := "()I" } : Jvm.MethodName) ∈ lw_good := lw_g 609 (by decide +kernel) (by decide +kernel)
theorem w_610 : Jvm.Cond.code ({ cls := "Proratehouse", name := "price", desc := "()I" } : Jvm.MethodName) prog_1_method_13_code (1 : Nat) (Option.some Jvm.ClassFile.FieldType.int) ∈ lw_good := lw_g 610 (by decide +kernel) (by decide +kernel)
theorem w_611 : Jvm.Cond.methodLink "Proratehouse" (187 : Nat) ({ cls := "Proratehouse$Ways", name := "findLeast", desc := "(LProratehouse$Journey;LProratehouse$Tariff;)V" } : Jvm.MethodName) ∈ lw_good := lw_g 611 (by decide +kernel) (by decide +kernel)
theorem w_612 : Jvm.Cond.instanceMethod ({ cls := "Proratehouse$Ways", name := "findLeast", desc := "(LProratehouse$Journey;LProratehouse$Tariff;)V" } : Jvm.MethodName) ∈ lw_good := lw_g 612 (by decide +kernel) (by decide +kernel)
theorem w_613 : Jvm.Cond.selects "Proratehouse$Ways" ({ cls := "Proratehouse$Ways", name := "findLeast", desc := "(LProratehouse$Journey;LProratehouse$Tariff;)V" } : Jvm.MethodName) ({ cls := "Proratehouse$Ways", name := "findLeast", desc := "(LProratehouse$Journey;LProratehouse$Tariff;)V" } : Jvm.MethodName) ∈ lw_good := lw_g 613 (by decide +kernel) (by decide +kernel)
theorem w_614 : Jvm.Cond.code ({ cls := "Proratehouse$Ways", name := "findLeast", desc := "(LProratehouse$Journey;LProratehouse$Tariff;)V" } : Jvm.MethodName) prog_12_method_2_code (5 : Nat) (Option.none : Option Jvm.ClassFile.FieldType) ∈ lw_good := lw_g 614 (by decide +kernel) (by decide +kernel)
theorem w_615 : Jvm.Cond.methodLink "Proratehouse$Ways" (33 : Nat) ({ cls := "Proratehouse$Journey", name := "priceOfPart", desc := "(LProratehouse$Tariff;II)I" } : Jvm.MethodName) ∈ lw_good := lw_g 615 (by decide +kernel) (by decide +kernel)
theorem w_616 : Jvm.Cond.instanceMethod ({ cls := "Proratehouse$Journey", name := "priceOfPart", desc := "(LProratehouse$Tariff;II)I" } : Jvm.MethodName) ∈ lw_good := lw_g 616 (by decide +kernel) (by decide +kernel)
theorem w_617 : Jvm.Cond.selects "Proratehouse$Journey" ({ cls := "Proratehouse$Journey", name := "priceOfPart", desc := "(LProratehouse$Tariff;II)I" } : Jvm.MethodName) ({ cls := "Proratehouse$Journey", name := "priceOfPart", desc := "(LProratehouse$Tariff;II)I" } : Jvm.MethodName) ∈ lw_good := lw_g 617 (by decide +kernel) (by decide +kernel)
theorem w_618 : Jvm.Cond.code ({ cls := "Proratehouse$Journey", name := "priceOfPart", desc := "(LProratehouse$Tariff;II)I" } : Jvm.MethodName) prog_6_method_10_code (8 : Nat) (Option.some Jvm.ClassFile.FieldType.int) ∈ lw_good := lw_g 618 (by decide +kernel) (by decide +kernel)
theorem w_619 : Jvm.Cond.methodLink "Proratehouse$Journey" (42 : Nat) ({ cls := "Proratehouse$Journey", name := "placeAt", desc := "(I)I" } : Jvm.MethodName) ∈ lw_good := lw_g 619 (by decide +kernel) (by decide +kernel)
theorem w_620 : Jvm.Cond.instanceMethod ({ cls := "Proratehouse$Journey", name := "placeAt", desc := "(I)I" } : Jvm.MethodName) ∈ lw_good := lw_g 620 (by decide +kernel) (by decide +kernel)
theorem w_621 : Jvm.Cond.selects "Proratehouse$Journey" ({ cls := "Proratehouse$Journey", name := "placeAt", desc := "(I)I" } : Jvm.MethodName) ({ cls := "Proratehouse$Journey", name := "placeAt", desc := "(I)I" } : Jvm.MethodName) ∈ lw_good := lw_g 621 (by decide +kernel) (by decide +kernel)
theorem w_622 : Jvm.Cond.code ({ cls := "Proratehouse$Journey", name := "placeAt", desc := "(I)I" } : Jvm.MethodName) prog_6_method_8_code (3 : Nat) (Option.some Jvm.ClassFile.FieldType.int) ∈ lw_good := lw_g 622 (by decide +kernel) (by decide +kernel)
theorem w_623 : Jvm.Cond.methodLink "Proratehouse$Journey" (46 : Nat) ({ cls := "Proratehouse$Tariff", name := "lowestFare", desc := "(III)I" } : Jvm.MethodName) ∈ lw_good := lw_g 623 (by decide +kernel) (by decide +kernel)
theorem w_624 : Jvm.Cond.instanceMethod ({ cls := "Proratehouse$Tariff", name := "lowestFare", desc := "(III)I" } : Jvm.MethodName) ∈ lw_good := lw_g 624 (by decide +kernel) (by decide +kernel)
theorem w_625 : Jvm.Cond.selects "Proratehouse$Tariff" ({ cls := "Proratehouse$Tariff", name := "lowestFare", desc := "(III)I" } : Jvm.MethodName) ({ cls := "Proratehouse$Tariff", name := "lowestFare", desc := "(III)I" } : Jvm.MethodName) ∈ lw_good := lw_g 625 (by decide +kernel) (by decide +kernel)
theorem w_626 : Jvm.Cond.code ({ cls := "Proratehouse$Tariff", name := "lowestFare", desc := "(III)I" } : Jvm.MethodName) prog_10_method_6_code (7 : Nat) (Option.some Jvm.ClassFile.FieldType.int) ∈ lw_good := lw_g 626 (by decide +kernel) (by decide +kernel)
theorem w_627 : Jvm.Cond.methodLink "Proratehouse$Tariff" (42 : Nat) ({ cls := "Proratehouse$Tariff", name := "fareAt", desc := "(I)LProratehouse$Fare;" } : Jvm.MethodName) ∈ lw_good := lw_g 627 (by decide +kernel) (by decide +kernel)
theorem w_628 : Jvm.Cond.instanceMethod ({ cls := "Proratehouse$Tariff", name := "fareAt", desc := "(I)LProratehouse$Fare;" } : Jvm.MethodName) ∈ lw_good := lw_g 628 (by decide +kernel) (by decide +kernel)
theorem w_629 : Jvm.Cond.selects "Proratehouse$Tariff" ({ cls := "Proratehouse$Tariff", name := "fareAt", desc := "(I)LProratehouse$Fare;" } : Jvm.MethodName) ({ cls := "Proratehouse$Tariff", name := "fareAt", desc := "(I)LProratehouse$Fare;" } : Jvm.MethodName) ∈ lw_good := lw_g 629 (by decide +kernel) (by decide +kernel)
theorem w_630 : Jvm.Cond.code ({ cls := "Proratehouse$Tariff", name := "fareAt", desc := "(I)LProratehouse$Fare;" } : Jvm.MethodName) prog_10_method_3_code (3 : Nat) (Option.some (Jvm.ClassFile.FieldType.object "Proratehouse$Fare")) ∈ lw_good := lw_g 630 (by decide +kernel) (by decide +kernel)
theorem w_631 : Jvm.Cond.methodLink "Proratehouse$Tariff" (49 : Nat) ({ cls := "Proratehouse$Fare", name := "isFor", desc := "(III)Z" } : Jvm.MethodName) ∈ lw_good := lw_g 631 (by decide +kernel) (by decide +kernel)
theorem w_632 : Jvm.Cond.instanceMethod ({ cls := "Proratehouse$Fare", name := "isFor", desc := "(III)Z" } : Jvm.MethodName) ∈ lw_good := lw_g 632 (by decide +kernel) (by decide +kernel)
theorem w_633 : Jvm.Cond.selects "Proratehouse$Fare" ({ cls := "Proratehouse$Fare", name := "isFor", desc := "(III)Z" } : Jvm.MethodName) ({ cls := "Proratehouse$Fare", name := "isFor", desc := "(III)Z" } : Jvm.MethodName) ∈ lw_good := lw_g 633 (by decide +kernel) (by decide +kernel)
theorem w_634 : Jvm.Cond.code ({ cls := "Proratehouse$Fare", name := "isFor", desc := "(III)Z" } : Jvm.MethodName) prog_5_method_2_code (4 : Nat) (Option.some Jvm.ClassFile.FieldType.boolean) ∈ lw_good := lw_g 634 (by decide +kernel) (by decide +kernel)
theorem w_635 : Jvm.Cond.methodLink "Proratehouse$Journey" (52 : Nat) ({ cls := "Proratehouse$Journey", name := "stopsBetween", desc := "(II)I" } : Jvm.MethodName) ∈ lw_good := lw_g 635 (by decide +kernel) (by decide +kernel)
theorem w_637 : Jvm.Cond.instanceMethod ({ cls := "Proratehouse$Journey", name := "stopsBetween", desc := "(II)I" } : Jvm.MethodName) ∈ lw_good := lw_g 637 (by decide +kernel) (by decide +kernel)
theorem w_638 : Jvm.Cond.code ({ cls := "Proratehouse$Journey", name := "stopsBetween", desc := "(II)I" } : Jvm.MethodName) prog_6_method_11_code (5 : Nat) (Option.some Jvm.ClassFile.FieldType.int) ∈ lw_good := lw_g 638 (by decide +kernel) (by decide +kernel)
theorem w_639 : Jvm.Cond.methodLink "Proratehouse$Journey" (79 : Nat) ({ cls := "Proratehouse$Journey", name := "isStop", desc := "(I)Z" } : Jvm.MethodName) ∈ lw_good := lw_g 639 (by decide +kernel) (by decide +kernel)
theorem w_640 : Jvm.Cond.instanceMethod ({ cls := "Proratehouse$Journey", name := "isStop", desc := "(I)Z" } : Jvm.MethodName) ∈ lw_good := lw_g 640 (by decide +kernel) (by decide +kernel)
theorem w_641 : Jvm.Cond.selects "Proratehouse$Journey" ({ cls := "Proratehouse$Journey", name := "isStop", desc := "(I)Z" } : Jvm.MethodName) ({ cls := "Proratehouse$Journey", name := "isStop", desc := "(I)Z" } : Jvm.MethodName) ∈ lw_good := lw_g 641 (by decide +kernel) (by decide +kernel)
theorem w_642 : Jvm.Cond.code ({ cls := "Proratehouse$Journey", name := "isStop", desc := "(I)Z" } : Jvm.MethodName) prog_6_method_9_code (4 : Nat) (Option.some Jvm.ClassFile.FieldType.boolean) ∈ lw_good := lw_g 642 (by decide +kernel) (by decide +kernel)
theorem w_643 : Jvm.Cond.methodLink "Proratehouse$Journey" (60 : Nat) ({ cls := "Proratehouse$Journey", name := "milesOfLegs", desc := "(LProratehouse$Pairs;II)I" } : Jvm.MethodName) ∈ lw_good := lw_g 643 (by decide +kernel) (by decide +kernel)
theorem w_645 : Jvm.Cond.instanceMethod ({ cls := "Proratehouse$Journey", name := "milesOfLegs", desc := "(LProratehouse$Pairs;II)I" } : Jvm.MethodName) ∈ lw_good := lw_g 645 (by decide +kernel) (by decide +kernel)
theorem w_646 : Jvm.Cond.code ({ cls := "Proratehouse$Journey", name := "milesOfLegs", desc := "(LProratehouse$Pairs;II)I" } : Jvm.MethodName) prog_6_method_12_code (7 : Nat) (Option.some Jvm.ClassFile.FieldType.int) ∈ lw_good := lw_g 646 (by decide +kernel) (by decide +kernel)
theorem w_647 : Jvm.Cond.methodLink "Proratehouse$Journey" (83 : Nat) ({ cls := "Proratehouse$Pairs", name := "get", desc := "(II)I" } : Jvm.MethodName) ∈ lw_good := lw_g 647 (by decide +kernel) (by decide +kernel)
theorem w_648 : Jvm.Cond.methodLink "Proratehouse$Journey" (64 : Nat) ({ cls := "Proratehouse$Tariff", name := "surcharge", desc := "(III)I" } : Jvm.MethodName) ∈ lw_good := lw_g 648 (by decide +kernel) (by decide +kernel)
theorem w_649 : Jvm.Cond.instanceMethod ({ cls := "Proratehouse$Tariff", name := "surcharge", desc := "(III)I" } : Jvm.MethodName) ∈ lw_good := lw_g 649 (by decide +kernel) (by decide +kernel)
theorem w_650 : Jvm.Cond.selects "Proratehouse$Tariff" ({ cls := "Proratehouse$Tariff", name := "surcharge", desc := "(III)I" } : Jvm.MethodName) ({ cls := "Proratehouse$Tariff", name := "surcharge", desc := "(III)I" } : Jvm.MethodName) ∈ lw_good := lw_g 650 (by decide +kernel) (by decide +kernel)
theorem w_651 : Jvm.Cond.code ({ cls := "Proratehouse$Tariff", name := "surcharge", desc := "(III)I" } : Jvm.MethodName) prog_10_method_7_code (7 : Nat) (Option.some Jvm.ClassFile.FieldType.int) ∈ lw_good := lw_g 651 (by decide +kernel) (by decide +kernel)
theorem w_652 : Jvm.Cond.methodLink "Proratehouse$Tariff" (59 : Nat) ({ cls := "Proratehouse$Pairs", name := "get", desc := "(II)I" } : Jvm.MethodName) ∈ lw_good := lw_g 652 (by decide +kernel) (by decide +kernel)
theorem w_653 : Jvm.Cond.methodLink "Proratehouse$Journey" (67 : Nat) ({ cls := "Proratehouse$Journey", name := "highestBetween", desc := "(LProratehouse$Tariff;II)I" } : Jvm.MethodName) ∈ lw_good := lw_g 653 (by decide +kernel) (by decide +kernel)
theorem w_655 : Jvm.Cond.instanceMethod ({ cls := "Proratehouse$Journey", name := "highestBetween", desc := "(LProratehouse$Tariff;II)I" } : Jvm.MethodName) ∈ lw_good := lw_g 655 (by decide +kernel) (by decide +kernel)
theorem w_656 : Jvm.Cond.code ({ cls := "Proratehouse$Journey", name := "highestBetween", desc := "(LProratehouse$Tariff;II)I" } : Jvm.MethodName) prog_6_method_13_code (6 : Nat) (Option.some Jvm.ClassFile.FieldType.int) ∈ lw_good := lw_g 656 (by decide +kernel) (by decide +kernel)
theorem w_657 : Jvm.Cond.methodLink "Proratehouse$Journey" (71 : Nat) ({ cls := "java/lang/Math", name := "max", desc := "(II)I" } : Jvm.MethodName) ∈ lw_good := lw_g 657 (by decide +kernel) (by decide +kernel)
theorem w_658 : Jvm.Cond.static ({ cls := "java/lang/Math", name := "max", desc := "(II)I" } : Jvm.MethodName) ∈ lw_good := lw_g 658 (by decide +kernel) (by decide +kernel)
theorem w_659 : Jvm.Cond.code ({ cls := "java/lang/Math", name := "max", desc := "(II)I" } : Jvm.MethodName) prog_19_method_65_code (2 : Nat) (Option.some Jvm.ClassFile.FieldType.int) ∈ lw_good := lw_g 659 (by decide +kernel) (by decide +kernel)
theorem w_660 : Jvm.Cond.methodLink "Proratehouse$Journey" (76 : Nat) ({ cls := "Proratehouse$Tariff", name := "roundedUp", desc := "(II)I" } : Jvm.MethodName) ∈ lw_good := lw_g 660 (by decide +kernel) (by decide +kernel)
theorem w_661 : Jvm.Cond.instanceMethod ({ cls := "Proratehouse$Tariff", name := "roundedUp", desc := "(II)I" } : Jvm.MethodName) ∈ lw_good := lw_g 661 (by decide +kernel) (by decide +kernel)
theorem w_662 : Jvm.Cond.selects "Proratehouse$Tariff" ({ cls := "Proratehouse$Tariff", name := "roundedUp", desc := "(II)I" } : Jvm.MethodName) ({ cls := "Proratehouse$Tariff", name := "roundedUp", desc := "(II)I" } : Jvm.MethodName) ∈ lw_good := lw_g 662 (by decide +kernel) (by decide +kernel)
theorem w_663 : Jvm.Cond.code ({ cls := "Proratehouse$Tariff", name := "roundedUp", desc := "(II)I" } : Jvm.MethodName) prog_10_method_8_code (7 : Nat) (Option.some Jvm.ClassFile.FieldType.int) ∈ lw_good := lw_g 663 (by decide +kernel) (by decide +kernel)
theorem w_664 : Jvm.Cond.constantLong "Proratehouse$Tariff" (63 : Nat) (100 : Int64) ∈ lw_good := lw_g 664 (by decide +kernel) (by decide +kernel)
theorem w_665 : Jvm.Cond.methodLink "Proratehouse$Ways" (37 : Nat) ({ cls := "Proratehouse$Ways", name := "goOn", desc := "(III)V" } : Jvm.MethodName) ∈ lw_good := lw_g 665 (by decide +kernel) (by decide +kernel)
theorem w_667 : Jvm.Cond.instanceMethod ({ cls := "Proratehouse$Ways", name := "goOn", desc := "(III)V" } : Jvm.MethodName) ∈ lw_good := lw_g 667 (by decide +kernel) (by decide +kernel)
theorem w_668 : Jvm.Cond.code ({ cls := "Proratehouse$Ways", name := "goOn", desc := "(III)V" } : Jvm.MethodName) prog_12_method_3_code (5 : Nat) (Option.none : Option Jvm.ClassFile.FieldType) ∈ lw_good := lw_g 668 (by decide +kernel) (by decide +kernel)
theorem w_670 : Jvm.Cond.methodLink "ProratehouseLaw" (130 : Nat) ({ cls := "Proratehouse", name := "cuts", desc := "()I" } : Jvm.MethodName) ∈ lw_good := lw_g 670 (by decide +kernel) (by decide +kernel)
theorem w_671 : Jvm.Cond.instanceMethod ({ cls := "Proratehouse", name := "cuts", desc := "()I" } : Jvm.MethodName) ∈ lw_good := lw_g 671 (by decide +kernel) (by decide +kernel)
theorem w_672 : Jvm.Cond.selects "Proratehouse" ({ cls := "Proratehouse", name := "cuts", desc := "()I" } : Jvm.MethodName) ({ cls := "Proratehouse", name := "cuts", desc := "()I" } : Jvm.MethodName) ∈ lw_good := lw_g 672 (by decide +kernel) (by decide +kernel)
theorem w_673 : Jvm.Cond.code ({ cls := "Proratehouse", name := "cuts", desc := "()I" } : Jvm.MethodName) prog_1_method_15_code (1 : Nat) (Option.some Jvm.ClassFile.FieldType.int) ∈ lw_good := lw_g 673 (by decide +kernel) (by decide +kernel)
theorem w_674 : Jvm.Cond.methodLink "ProratehouseLaw" (133 : Nat) ({ cls := "Proratehouse", name := "priceAnew", desc := "()I" } : Jvm.MethodName) ∈ lw_good := lw_g 674 (by decide +kernel) (by decide +kernel)
theorem w_675 : Jvm.Cond.instanceMethod ({ cls := "Proratehouse", name := "priceAnew", desc := "()I" } : Jvm.MethodName) ∈ lw_good := lw_g 675 (by decide +kernel) (by decide +kernel)
theorem w_676 : Jvm.Cond.selects "Proratehouse" ({ cls := "Proratehouse", name := "priceAnew", desc := "()I" } : Jvm.MethodName) ({ cls := "Proratehouse", name := "priceAnew", desc := "()I" } : Jvm.MethodName) ∈ lw_good := lw_g 676 (by decide +kernel) (by decide +kernel)
theorem w_677 : Jvm.Cond.code ({ cls := "Proratehouse", name := "priceAnew", desc := "()I" } : Jvm.MethodName) prog_1_method_14_code (1 : Nat) (Option.some Jvm.ClassFile.FieldType.int) ∈ lw_good := lw_g 677 (by decide +kernel) (by decide +kernel)
theorem w_678 : Jvm.Cond.methodLink "Proratehouse" (194 : Nat) ({ cls := "Proratehouse$Ways", name := "leastOfAllSets", desc := "(LProratehouse$Journey;LProratehouse$Tariff;)I" } : Jvm.MethodName) ∈ lw_good := lw_g 678 (by decide +kernel) (by decide +kernel)
theorem w_679 : Jvm.Cond.instanceMethod ({ cls := "Proratehouse$Ways", name := "leastOfAllSets", desc := "(LProratehouse$Journey;LProratehouse$Tariff;)I" } : Jvm.MethodName) ∈ lw_good := lw_g 679 (by decide +kernel) (by decide +kernel)
theorem w_680 : Jvm.Cond.selects "Proratehouse$Ways" ({ cls := "Proratehouse$Ways", name := "leastOfAllSets", desc := "(LProratehouse$Journey;LProratehouse$Tariff;)I" } : Jvm.MethodName) ({ cls := "Proratehouse$Ways", name := "leastOfAllSets", desc := "(LProratehouse$Journey;LProratehouse$Tariff;)I" } : Jvm.MethodName) ∈ lw_good := lw_g 680 (by decide +kernel) (by decide +kernel)
theorem w_681 : Jvm.Cond.code ({ cls := "Proratehouse$Ways", name := "leastOfAllSets", desc := "(LProratehouse$Journey;LProratehouse$Tariff;)I" } : Jvm.MethodName) prog_12_method_4_code (7 : Nat) (Option.some Jvm.ClassFile.FieldType.int) ∈ lw_good := lw_g 681 (by decide +kernel) (by decide +kernel)
theorem w_682 : Jvm.Cond.methodLink "Proratehouse$Ways" (45 : Nat) ({ cls := "Proratehouse$Ways", name := "sumOfSet", desc := "(II)I" } : Jvm.MethodName) ∈ lw_good := lw_g 682 (by decide +kernel) (by decide +kernel)
theorem w_684 : Jvm.Cond.instanceMethod ({ cls := "Proratehouse$Ways", name := "sumOfSet", desc := "(II)I" } : Jvm.MethodName) ∈ lw_good := lw_g 684 (by decide +kernel) (by decide +kernel)
theorem w_685 : Jvm.Cond.code ({ cls := "Proratehouse$Ways", name := "sumOfSet", desc := "(II)I" } : Jvm.MethodName) prog_12_method_5_code (8 : Nat) (Option.some Jvm.ClassFile.FieldType.int) ∈ lw_good := lw_g 685 (by decide +kernel) (by decide +kernel)
theorem w_686 : Jvm.Cond.methodLink "ProratehouseLaw" (136 : Nat) ({ cls := "ProratehouseLaw", name := "part", desc := "(LProratehouse;II)I" } : Jvm.MethodName) ∈ lw_good := lw_g 686 (by decide +kernel) (by decide +kernel)
theorem w_687 : Jvm.Cond.static ({ cls := "ProratehouseLaw", name := "part", desc := "(LProratehouse;II)I" } : Jvm.MethodName) ∈ lw_good := lw_g 687 (by decide +kernel) (by decide +kernel)
theorem w_688 : Jvm.Cond.codeWith ({ cls := "ProratehouseLaw", name := "part", desc := "(LProratehouse;II)I" } : Jvm.MethodName) method_13_code (4 : Nat) (Option.some Jvm.ClassFile.FieldType.int) [((0 : Nat), (6 : Nat), (7 : Nat), (16 : Nat)), ((0 : Nat), (6 : Nat), (11 : Nat), (19 : Nat))] ∈ lw_good := lw_g 688 (by decide +kernel) (by decide +kernel)
theorem w_689 : Jvm.Cond.methodLink "ProratehouseLaw" (54 : Nat) ({ cls := "Proratehouse", name := "part", desc := "(II)I" } : Jvm.MethodName) ∈ lw_good := lw_g 689 (by decide +kernel) (by decide +kernel)
theorem w_690 : Jvm.Cond.instanceMethod ({ cls := "Proratehouse", name := "part", desc := "(II)I" } : Jvm.MethodName) ∈ lw_good := lw_g 690 (by decide +kernel) (by decide +kernel)
theorem w_691 : Jvm.Cond.selects "Proratehouse" ({ cls := "Proratehouse", name := "part", desc := "(II)I" } : Jvm.MethodName) ({ cls := "Proratehouse", name := "part", desc := "(II)I" } : Jvm.MethodName) ∈ lw_good := lw_g 691 (by decide +kernel) (by decide +kernel)
theorem w_692 : Jvm.Cond.code ({ cls := "Proratehouse", name := "part", desc := "(II)I" } : Jvm.MethodName) prog_1_method_12_code (3 : Nat) (Option.some Jvm.ClassFile.FieldType.int) ∈ lw_good := lw_g 692 (by decide +kernel) (by decide +kernel)
theorem w_693 : Jvm.Cond.methodLink "Proratehouse" (176 : Nat) ({ cls := "Proratehouse$Journey", name := "isPoint", desc := "(I)Z" } : Jvm.MethodName) ∈ lw_good := lw_g 693 (by decide +kernel) (by decide +kernel)
theorem w_694 : Jvm.Cond.instanceMethod ({ cls := "Proratehouse$Journey", name := "isPoint", desc := "(I)Z" } : Jvm.MethodName) ∈ lw_good := lw_g 694 (by decide +kernel) (by decide +kernel)
theorem w_695 : Jvm.Cond.selects "Proratehouse$Journey" ({ cls := "Proratehouse$Journey", name := "isPoint", desc := "(I)Z" } : Jvm.MethodName) ({ cls := "Proratehouse$Journey", name := "isPoint", desc := "(I)Z" } : Jvm.MethodName) ∈ lw_good := lw_g 695 (by decide +kernel) (by decide +kernel)
theorem w_696 : Jvm.Cond.code ({ cls := "Proratehouse$Journey", name := "isPoint", desc := "(I)Z" } : Jvm.MethodName) prog_6_method_7_code (2 : Nat) (Option.some Jvm.ClassFile.FieldType.boolean) ∈ lw_good := lw_g 696 (by decide +kernel) (by decide +kernel)
theorem w_700 : Jvm.Cond.methodLink "Proratehouse" (183 : Nat) ({ cls := "Proratehouse$Journey", name := "priceOfPart", desc := "(LProratehouse$Tariff;II)I" } : Jvm.MethodName) ∈ lw_good := lw_g 700 (by decide +kernel) (by decide +kernel)
theorem w_701 : Jvm.Cond.methodLink "ProratehouseLaw" (139 : Nat) ({ cls := "ProratehouseLaw", name := "issue", desc := "(LProratehouse;I)I" } : Jvm.MethodName) ∈ lw_good := lw_g 701 (by decide +kernel) (by decide +kernel)
theorem w_702 : Jvm.Cond.static ({ cls := "ProratehouseLaw", name := "issue", desc := "(LProratehouse;I)I" } : Jvm.MethodName) ∈ lw_good := lw_g 702 (by decide +kernel) (by decide +kernel)
theorem w_703 : Jvm.Cond.codeWith ({ cls := "ProratehouseLaw", name := "issue", desc := "(LProratehouse;I)I" } : Jvm.MethodName) method_14_code (3 : Nat) (Option.some Jvm.ClassFile.FieldType.int) [((0 : Nat), (5 : Nat), (6 : Nat), (16 : Nat)), ((0 : Nat), (5 : Nat), (10 : Nat), (26 : Nat))] ∈ lw_good := lw_g 703 (by decide +kernel) (by decide +kernel)
theorem w_704 : Jvm.Cond.methodLink "ProratehouseLaw" (58 : Nat) ({ cls := "Proratehouse", name := "issue", desc := "(I)I" } : Jvm.MethodName) ∈ lw_good := lw_g 704 (by decide +kernel) (by decide +kernel)
theorem w_705 : Jvm.Cond.instanceMethod ({ cls := "Proratehouse", name := "issue", desc := "(I)I" } : Jvm.MethodName) ∈ lw_good := lw_g 705 (by decide +kernel) (by decide +kernel)
theorem w_706 : Jvm.Cond.selects "Proratehouse" ({ cls := "Proratehouse", name := "issue", desc := "(I)I" } : Jvm.MethodName) ({ cls := "Proratehouse", name := "issue", desc := "(I)I" } : Jvm.MethodName) ∈ lw_good := lw_g 706 (by decide +kernel) (by decide +kernel)
theorem w_707 : Jvm.Cond.code ({ cls := "Proratehouse", name := "issue", desc := "(I)I" } : Jvm.MethodName) prog_1_method_16_code (3 : Nat) (Option.some Jvm.ClassFile.FieldType.int) ∈ lw_good := lw_g 707 (by decide +kernel) (by decide +kernel)
theorem w_708 : Jvm.Cond.methodLink "Proratehouse" (203 : Nat) ({ cls := "Proratehouse", name := "canBeIssued", desc := "()Z" } : Jvm.MethodName) ∈ lw_good := lw_g 708 (by decide +kernel) (by decide +kernel)
theorem w_710 : Jvm.Cond.instanceMethod ({ cls := "Proratehouse", name := "canBeIssued", desc := "()Z" } : Jvm.MethodName) ∈ lw_good := lw_g 710 (by decide +kernel) (by decide +kernel)
theorem w_711 : Jvm.Cond.code ({ cls := "Proratehouse", name := "canBeIssued", desc := "()Z" } : Jvm.MethodName) prog_1_method_38_code (1 : Nat) (Option.some Jvm.ClassFile.FieldType.boolean) ∈ lw_good := lw_g 711 (by decide +kernel) (by decide +kernel)
theorem w_712 : Jvm.Cond.methodLink "Proratehouse" (381 : Nat) ({ cls := "Proratehouse$Journey", name := "hasLegBefore", desc := "(I)Z" } : Jvm.MethodName) ∈ lw_good := lw_g 712 (by decide +kernel) (by decide +kernel)
theorem w_713 : Jvm.Cond.instanceMethod ({ cls := "Proratehouse$Journey", name := "hasLegBefore", desc := "(I)Z" } : Jvm.MethodName) ∈ lw_good := lw_g 713 (by decide +kernel) (by decide +kernel)
theorem w_714 : Jvm.Cond.selects "Proratehouse$Journey" ({ cls := "Proratehouse$Journey", name := "hasLegBefore", desc := "(I)Z" } : Jvm.MethodName) ({ cls := "Proratehouse$Journey", name := "hasLegBefore", desc := "(I)Z" } : Jvm.MethodName) ∈ lw_good := lw_g 714 (by decide +kernel) (by decide +kernel)
theorem w_715 : Jvm.Cond.code ({ cls := "Proratehouse$Journey", name := "hasLegBefore", desc := "(I)Z" } : Jvm.MethodName) prog_6_method_6_code (3 : Nat) (Option.some Jvm.ClassFile.FieldType.boolean) ∈ lw_good := lw_g 715 (by decide +kernel) (by decide +kernel)
theorem w_717 : Jvm.Cond.methodLink "Proratehouse" (209 : Nat) ({ cls := "Proratehouse", name := "issued", desc := "(I)LProratehouse$Ticket;" } : Jvm.MethodName) ∈ lw_good := lw_g 717 (by decide +kernel) (by decide +kernel)
theorem w_719 : Jvm.Cond.instanceMethod ({ cls := "Proratehouse", name := "issued", desc := "(I)LProratehouse$Ticket;" } : Jvm.MethodName) ∈ lw_good := lw_g 719 (by decide +kernel) (by decide +kernel)
theorem w_720 : Jvm.Cond.code ({ cls := "Proratehouse", name := "issued", desc := "(I)LProratehouse$Ticket;" } : Jvm.MethodName) prog_1_method_39_code (5 : Nat) (Option.some (Jvm.ClassFile.FieldType.object "Proratehouse$Ticket")) ∈ lw_good := lw_g 720 (by decide +kernel) (by decide +kernel)
theorem w_721 : Jvm.Cond.instantiable "Proratehouse$Ticket" (8 : Nat) ∈ lw_good := lw_g 721 (by decide +kernel) (by decide +kernel)
theorem w_722 : Jvm.Cond.methodLink "Proratehouse" (384 : Nat) ({ cls := "Proratehouse$Ticket", name := "<init>", desc := "(III)V" } : Jvm.MethodName) ∈ lw_good := lw_g 722 (by decide +kernel) (by decide +kernel)
theorem w_723 : Jvm.Cond.instanceMethod ({ cls := "Proratehouse$Ticket", name := "<init>", desc := "(III)V" } : Jvm.MethodName) ∈ lw_good := lw_g 723 (by decide +kernel) (by decide +kernel)
theorem w_724 : Jvm.Cond.code ({ cls := "Proratehouse$Ticket", name := "<init>", desc := "(III)V" } : Jvm.MethodName) prog_11_method_1_code (4 : Nat) (Option.none : Option Jvm.ClassFile.FieldType) ∈ lw_good := lw_g 724 (by decide +kernel) (by decide +kernel)
theorem w_725 : Jvm.Cond.methodLink "Proratehouse$Ticket" (3 : Nat) ({ cls := "java/lang/Object", name := "<init>", desc := "()V" } : Jvm.MethodName) ∈ lw_good := lw_g 725 (by decide +kernel) (by decide +kernel)
theorem w_726 : Jvm.Cond.classLink "Proratehouse$Ticket" (9 : Nat) "Proratehouse$Coupon" ∈ lw_good := lw_g 726 (by decide +kernel) (by decide +kernel)
theorem w_728 : Jvm.Cond.fieldLink "Proratehouse$Ticket" (17 : Nat) "Proratehouse$Ticket" "issuer" "I" ∈ lw_good := lw_g 728 (by decide +kernel) (by decide +kernel)
theorem w_729 : Jvm.Cond.fieldLink "Proratehouse" (249 : Nat) "Proratehouse$Ticket" "issuer" "I" ∈ lw_good := lw_g 729 (by decide +kernel) (by decide +kernel)
theorem w_730 : Jvm.Cond.fieldLink "Proratehouse$Ticket" (21 : Nat) "Proratehouse$Ticket" "price" "I" ∈ lw_good := lw_g 730 (by decide +kernel) (by decide +kernel)
theorem w_731 : Jvm.Cond.fieldLink "Proratehouse" (213 : Nat) "Proratehouse$Ticket" "price" "I" ∈ lw_good := lw_g 731 (by decide +kernel) (by decide +kernel)
theorem w_732 : Jvm.Cond.fieldLink "Proratehouse$Ticket" (24 : Nat) "Proratehouse$Ticket" "cutPoints" "I" ∈ lw_good := lw_g 732 (by decide +kernel) (by decide +kernel)
theorem w_733 : Jvm.Cond.fieldLink "Proratehouse" (345 : Nat) "Proratehouse$Ticket" "cutPoints" "I" ∈ lw_good := lw_g 733 (by decide +kernel) (by decide +kernel)
theorem w_734 : Jvm.Cond.fieldLink "Proratehouse$Ticket" (11 : Nat) "Proratehouse$Ticket" "coupons" "[LProratehouse$Coupon;" ∈ lw_good := lw_g 734 (by decide +kernel) (by decide +kernel)
theorem w_735 : Jvm.Cond.fieldLink "Proratehouse$Ticket" (27 : Nat) "Proratehouse$Ticket" "count" "I" ∈ lw_good := lw_g 735 (by decide +kernel) (by decide +kernel)
theorem w_736 : Jvm.Cond.fieldLink "Proratehouse" (293 : Nat) "Proratehouse$Ticket" "count" "I" ∈ lw_good := lw_g 736 (by decide +kernel) (by decide +kernel)
theorem w_737 : Jvm.Cond.fieldLink "Proratehouse$Ticket" (30 : Nat) "Proratehouse$Ticket" "taxes" "I" ∈ lw_good := lw_g 737 (by decide +kernel) (by decide +kernel)
theorem w_738 : Jvm.Cond.fieldLink "Proratehouse" (216 : Nat) "Proratehouse$Ticket" "taxes" "I" ∈ lw_good := lw_g 738 (by decide +kernel) (by decide +kernel)
theorem w_739 : Jvm.Cond.fieldLink "Proratehouse" (348 : Nat) "Proratehouse$Ticket" "unshared" "I" ∈ lw_good := lw_g 739 (by decide +kernel) (by decide +kernel)
theorem w_740 : Jvm.Cond.fieldLink "Proratehouse" (366 : Nat) "Proratehouse$Ticket" "received" "J" ∈ lw_good := lw_g 740 (by decide +kernel) (by decide +kernel)
theorem w_758 : Jvm.Cond.methodLink "Proratehouse" (386 : Nat) ({ cls := "Proratehouse$Journey", name := "legAt", desc := "(I)LProratehouse$Leg;" } : Jvm.MethodName) ∈ lw_good := lw_g 758 (by decide +kernel) (by decide +kernel)
theorem w_759 : Jvm.Cond.classLink "Proratehouse" (236 : Nat) "Proratehouse$Coupon" ∈ lw_good := lw_g 759 (by decide +kernel) (by decide +kernel)
theorem w_760 : Jvm.Cond.instantiable "Proratehouse$Coupon" (9 : Nat) ∈ lw_good := lw_g 760 (by decide +kernel) (by decide +kernel)
theorem w_761 : Jvm.Cond.methodLink "Proratehouse" (393 : Nat) ({ cls := "Proratehouse$Journey", name := "isStop", desc := "(I)Z" } : Jvm.MethodName) ∈ lw_good := lw_g 761 (by decide +kernel) (by decide +kernel)
theorem w_762 : Jvm.Cond.methodLink "Proratehouse" (396 : Nat) ({ cls := "Proratehouse$Tariff", name := "taxAt", desc := "(IZ)I" } : Jvm.MethodName) ∈ lw_good := lw_g 762 (by decide +kernel) (by decide +kernel)
theorem w_763 : Jvm.Cond.instanceMethod ({ cls := "Proratehouse$Tariff", name := "taxAt", desc := "(IZ)I" } : Jvm.MethodName) ∈ lw_good := lw_g 763 (by decide +kernel) (by decide +kernel)
theorem w_764 : Jvm.Cond.selects "Proratehouse$Tariff" ({ cls := "Proratehouse$Tariff", name := "taxAt", desc := "(IZ)I" } : Jvm.MethodName) ({ cls := "Proratehouse$Tariff", name := "taxAt", desc := "(IZ)I" } : Jvm.MethodName) ∈ lw_good := lw_g 764 (by decide +kernel) (by decide +kernel)
theorem w_765 : Jvm.Cond.code ({ cls := "Proratehouse$Tariff", name := "taxAt", desc := "(IZ)I" } : Jvm.MethodName) prog_10_method_5_code (3 : Nat) (Option.some Jvm.ClassFile.FieldType.int) ∈ lw_good := lw_g 765 (by decide +kernel) (by decide +kernel)
theorem w_766 : Jvm.Cond.methodLink "Proratehouse" (400 : Nat) ({ cls := "Proratehouse$Coupon", name := "<init>", desc := "(LProratehouse$Leg;I)V" } : Jvm.MethodName) ∈ lw_good := lw_g 766 (by decide +kernel) (by decide +kernel)
theorem w_767 : Jvm.Cond.instanceMethod ({ cls := "Proratehouse$Coupon", name := "<init>", desc := "(LProratehouse$Leg;I)V" } : Jvm.MethodName) ∈ lw_good := lw_g 767 (by decide +kernel) (by decide +kernel)
theorem w_768 : Jvm.Cond.code ({ cls := "Proratehouse$Coupon", name := "<init>", desc := "(LProratehouse$Leg;I)V" } : Jvm.MethodName) prog_4_method_1_code (3 : Nat) (Option.none : Option Jvm.ClassFile.FieldType) ∈ lw_good := lw_g 768 (by decide +kernel) (by decide +kernel)
theorem w_769 : Jvm.Cond.methodLink "Proratehouse$Coupon" (3 : Nat) ({ cls := "java/lang/Object", name := "<init>", desc := "()V" } : Jvm.MethodName) ∈ lw_good := lw_g 769 (by decide +kernel) (by decide +kernel)
theorem w_770 : Jvm.Cond.fieldLink "Proratehouse$Coupon" (23 : Nat) "Proratehouse$Coupon" "from" "I" ∈ lw_good := lw_g 770 (by decide +kernel) (by decide +kernel)
theorem w_771 : Jvm.Cond.fieldLink "Proratehouse$Proration" (33 : Nat) "Proratehouse$Coupon" "from" "I" ∈ lw_good := lw_g 771 (by decide +kernel) (by decide +kernel)
theorem w_772 : Jvm.Cond.fieldLink "Proratehouse" (259 : Nat) "Proratehouse$Coupon" "from" "I" ∈ lw_good := lw_g 772 (by decide +kernel) (by decide +kernel)
theorem w_773 : Jvm.Cond.fieldLink "Proratehouse$Coupon" (27 : Nat) "Proratehouse$Coupon" "to" "I" ∈ lw_good := lw_g 773 (by decide +kernel) (by decide +kernel)
theorem w_774 : Jvm.Cond.fieldLink "Proratehouse$Proration" (39 : Nat) "Proratehouse$Coupon" "to" "I" ∈ lw_good := lw_g 774 (by decide +kernel) (by decide +kernel)
theorem w_775 : Jvm.Cond.fieldLink "Proratehouse$Coupon" (31 : Nat) "Proratehouse$Coupon" "day" "I" ∈ lw_good := lw_g 775 (by decide +kernel) (by decide +kernel)
theorem w_776 : Jvm.Cond.fieldLink "Proratehouse" (240 : Nat) "Proratehouse$Coupon" "day" "I" ∈ lw_good := lw_g 776 (by decide +kernel) (by decide +kernel)
theorem w_777 : Jvm.Cond.fieldLink "Proratehouse$Coupon" (36 : Nat) "Proratehouse$Coupon" "tax" "I" ∈ lw_good := lw_g 777 (by decide +kernel) (by decide +kernel)
theorem w_778 : Jvm.Cond.fieldLink "Proratehouse$Ticket" (33 : Nat) "Proratehouse$Coupon" "tax" "I" ∈ lw_good := lw_g 778 (by decide +kernel) (by decide +kernel)
theorem w_779 : Jvm.Cond.fieldLink "Proratehouse" (252 : Nat) "Proratehouse$Coupon" "tax" "I" ∈ lw_good := lw_g 779 (by decide +kernel) (by decide +kernel)
theorem w_780 : Jvm.Cond.fieldLink "Proratehouse$Coupon" (35 : Nat) "Proratehouse$Coupon" "carrier" "I" ∈ lw_good := lw_g 780 (by decide +kernel) (by decide +kernel)
theorem w_781 : Jvm.Cond.fieldLink "Proratehouse$Proration" (52 : Nat) "Proratehouse$Coupon" "carrier" "I" ∈ lw_good := lw_g 781 (by decide +kernel) (by decide +kernel)
theorem w_782 : Jvm.Cond.fieldLink "Proratehouse" (262 : Nat) "Proratehouse$Coupon" "carrier" "I" ∈ lw_good := lw_g 782 (by decide +kernel) (by decide +kernel)
theorem w_783 : Jvm.Cond.fieldLink "Proratehouse$Proration" (59 : Nat) "Proratehouse$Coupon" "weight" "I" ∈ lw_good := lw_g 783 (by decide +kernel) (by decide +kernel)
theorem w_784 : Jvm.Cond.fieldLink "Proratehouse$Proration" (67 : Nat) "Proratehouse$Coupon" "share" "I" ∈ lw_good := lw_g 784 (by decide +kernel) (by decide +kernel)
theorem w_785 : Jvm.Cond.fieldLink "Proratehouse$Ticket" (46 : Nat) "Proratehouse$Coupon" "share" "I" ∈ lw_good := lw_g 785 (by decide +kernel) (by decide +kernel)
theorem w_786 : Jvm.Cond.fieldLink "Proratehouse" (265 : Nat) "Proratehouse$Coupon" "share" "I" ∈ lw_good := lw_g 786 (by decide +kernel) (by decide +kernel)
theorem w_787 : Jvm.Cond.fieldLink "Proratehouse$Coupon" (9 : Nat) "Proratehouse$Coupon" "status" "I" ∈ lw_good := lw_g 787 (by decide +kernel) (by decide +kernel)
theorem w_788 : Jvm.Cond.fieldLink "Proratehouse$Ticket" (40 : Nat) "Proratehouse$Coupon" "status" "I" ∈ lw_good := lw_g 788 (by decide +kernel) (by decide +kernel)
theorem w_789 : Jvm.Cond.fieldLink "Proratehouse" (235 : Nat) "Proratehouse$Coupon" "status" "I" ∈ lw_good := lw_g 789 (by decide +kernel) (by decide +kernel)
theorem w_790 : Jvm.Cond.fieldLink "Proratehouse$Coupon" (15 : Nat) "Proratehouse$Coupon" "bill" "I" ∈ lw_good := lw_g 790 (by decide +kernel) (by decide +kernel)
theorem w_791 : Jvm.Cond.fieldLink "Proratehouse" (271 : Nat) "Proratehouse$Coupon" "bill" "I" ∈ lw_good := lw_g 791 (by decide +kernel) (by decide +kernel)
theorem w_811 : Jvm.Cond.methodLink "Proratehouse" (403 : Nat) ({ cls := "Proratehouse$Ticket", name := "add", desc := "(LProratehouse$Coupon;)V" } : Jvm.MethodName) ∈ lw_good := lw_g 811 (by decide +kernel) (by decide +kernel)
theorem w_812 : Jvm.Cond.instanceMethod ({ cls := "Proratehouse$Ticket", name := "add", desc := "(LProratehouse$Coupon;)V" } : Jvm.MethodName) ∈ lw_good := lw_g 812 (by decide +kernel) (by decide +kernel)
theorem w_813 : Jvm.Cond.selects "Proratehouse$Ticket" ({ cls := "Proratehouse$Ticket", name := "add", desc := "(LProratehouse$Coupon;)V" } : Jvm.MethodName) ({ cls := "Proratehouse$Ticket", name := "add", desc := "(LProratehouse$Coupon;)V" } : Jvm.MethodName) ∈ lw_good := lw_g 813 (by decide +kernel) (by decide +kernel)
theorem w_814 : Jvm.Cond.code ({ cls := "Proratehouse$Ticket", name := "add", desc := "(LProratehouse$Coupon;)V" } : Jvm.MethodName) prog_11_method_2_code (2 : Nat) (Option.none : Option Jvm.ClassFile.FieldType) ∈ lw_good := lw_g 814 (by decide +kernel) (by decide +kernel)
theorem w_815 : Jvm.Cond.methodLink "Proratehouse" (406 : Nat) ({ cls := "Proratehouse", name := "shareOut", desc := "(LProratehouse$Ticket;)V" } : Jvm.MethodName) ∈ lw_good := lw_g 815 (by decide +kernel) (by decide +kernel)
theorem w_817 : Jvm.Cond.instanceMethod ({ cls := "Proratehouse", name := "shareOut", desc := "(LProratehouse$Ticket;)V" } : Jvm.MethodName) ∈ lw_good := lw_g 817 (by decide +kernel) (by decide +kernel)
theorem w_818 : Jvm.Cond.code ({ cls := "Proratehouse", name := "shareOut", desc := "(LProratehouse$Ticket;)V" } : Jvm.MethodName) prog_1_method_40_code (5 : Nat) (Option.none : Option Jvm.ClassFile.FieldType) ∈ lw_good := lw_g 818 (by decide +kernel) (by decide +kernel)
theorem w_819 : Jvm.Cond.methodLink "Proratehouse" (410 : Nat) ({ cls := "Proratehouse$Proration", name := "share", desc := "(LProratehouse$Ticket;IIILProratehouse$Pairs;)I" } : Jvm.MethodName) ∈ lw_good := lw_g 819 (by decide +kernel) (by decide +kernel)
theorem w_820 : Jvm.Cond.instanceMethod ({ cls := "Proratehouse$Proration", name := "share", desc := "(LProratehouse$Ticket;IIILProratehouse$Pairs;)I" } : Jvm.MethodName) ∈ lw_good := lw_g 820 (by decide +kernel) (by decide +kernel)
theorem w_821 : Jvm.Cond.selects "Proratehouse$Proration" ({ cls := "Proratehouse$Proration", name := "share", desc := "(LProratehouse$Ticket;IIILProratehouse$Pairs;)I" } : Jvm.MethodName) ({ cls := "Proratehouse$Proration", name := "share", desc := "(LProratehouse$Ticket;IIILProratehouse$Pairs;)I" } : Jvm.MethodName) ∈ lw_good := lw_g 821 (by decide +kernel) (by decide +kernel)
theorem w_822 : Jvm.Cond.code ({ cls := "Proratehouse$Proration", name := "share", desc := "(LProratehouse$Ticket;IIILProratehouse$Pairs;)I" } : Jvm.MethodName) prog_9_method_5_code (11 : Nat) (Option.some Jvm.ClassFile.FieldType.int) ∈ lw_good := lw_g 822 (by decide +kernel) (by decide +kernel)
theorem w_823 : Jvm.Cond.methodLink "Proratehouse$Proration" (46 : Nat) ({ cls := "Proratehouse$Ticket", name := "couponAt", desc := "(I)LProratehouse$Coupon;" } : Jvm.MethodName) ∈ lw_good := lw_g 823 (by decide +kernel) (by decide +kernel)
theorem w_824 : Jvm.Cond.methodLink "Proratehouse$Proration" (55 : Nat) ({ cls := "Proratehouse$Proration", name := "weightOf", desc := "(LProratehouse$Coupon;LProratehouse$Pairs;)I" } : Jvm.MethodName) ∈ lw_good := lw_g 824 (by decide +kernel) (by decide +kernel)
theorem w_826 : Jvm.Cond.instanceMethod ({ cls := "Proratehouse$Proration", name := "weightOf", desc := "(LProratehouse$Coupon;LProratehouse$Pairs;)I" } : Jvm.MethodName) ∈ lw_good := lw_g 826 (by decide +kernel) (by decide +kernel)
theorem w_827 : Jvm.Cond.code ({ cls := "Proratehouse$Proration", name := "weightOf", desc := "(LProratehouse$Coupon;LProratehouse$Pairs;)I" } : Jvm.MethodName) prog_9_method_4_code (4 : Nat) (Option.some Jvm.ClassFile.FieldType.int) ∈ lw_good := lw_g 827 (by decide +kernel) (by decide +kernel)
theorem w_828 : Jvm.Cond.methodLink "Proratehouse$Proration" (42 : Nat) ({ cls := "Proratehouse$Pairs", name := "get", desc := "(II)I" } : Jvm.MethodName) ∈ lw_good := lw_g 828 (by decide +kernel) (by decide +kernel)
theorem w_829 : Jvm.Cond.methodLink "Proratehouse$Proration" (62 : Nat) ({ cls := "java/lang/Math", name := "min", desc := "(II)I" } : Jvm.MethodName) ∈ lw_good := lw_g 829 (by decide +kernel) (by decide +kernel)
theorem w_830 : Jvm.Cond.static ({ cls := "java/lang/Math", name := "min", desc := "(II)I" } : Jvm.MethodName) ∈ lw_good := lw_g 830 (by decide +kernel) (by decide +kernel)
theorem w_831 : Jvm.Cond.code ({ cls := "java/lang/Math", name := "min", desc := "(II)I" } : Jvm.MethodName) prog_19_method_69_code (2 : Nat) (Option.some Jvm.ClassFile.FieldType.int) ∈ lw_good := lw_g 831 (by decide +kernel) (by decide +kernel)
theorem w_832 : Jvm.Cond.methodLink "Proratehouse$Proration" (70 : Nat) ({ cls := "Proratehouse$Proration", name := "shareByWeights", desc := "(LProratehouse$Ticket;IIII)V" } : Jvm.MethodName) ∈ lw_good := lw_g 832 (by decide +kernel) (by decide +kernel)
theorem w_834 : Jvm.Cond.instanceMethod ({ cls := "Proratehouse$Proration", name := "shareByWeights", desc := "(LProratehouse$Ticket;IIII)V" } : Jvm.MethodName) ∈ lw_good := lw_g 834 (by decide +kernel) (by decide +kernel)
theorem w_835 : Jvm.Cond.code ({ cls := "Proratehouse$Proration", name := "shareByWeights", desc := "(LProratehouse$Ticket;IIII)V" } : Jvm.MethodName) prog_9_method_6_code (10 : Nat) (Option.none : Option Jvm.ClassFile.FieldType) ∈ lw_good := lw_g 835 (by decide +kernel) (by decide +kernel)
theorem w_836 : Jvm.Cond.methodLink "Proratehouse" (172 : Nat) ({ cls := "Proratehouse$Journey", name := "beginAnew", desc := "()I" } : Jvm.MethodName) ∈ lw_good := lw_g 836 (by decide +kernel) (by decide +kernel)
theorem w_837 : Jvm.Cond.instanceMethod ({ cls := "Proratehouse$Journey", name := "beginAnew", desc := "()I" } : Jvm.MethodName) ∈ lw_good := lw_g 837 (by decide +kernel) (by decide +kernel)
theorem w_838 : Jvm.Cond.selects "Proratehouse$Journey" ({ cls := "Proratehouse$Journey", name := "beginAnew", desc := "()I" } : Jvm.MethodName) ({ cls := "Proratehouse$Journey", name := "beginAnew", desc := "()I" } : Jvm.MethodName) ∈ lw_good := lw_g 838 (by decide +kernel) (by decide +kernel)
theorem w_839 : Jvm.Cond.code ({ cls := "Proratehouse$Journey", name := "beginAnew", desc := "()I" } : Jvm.MethodName) prog_6_method_5_code (2 : Nat) (Option.some Jvm.ClassFile.FieldType.int) ∈ lw_good := lw_g 839 (by decide +kernel) (by decide +kernel)
theorem w_840 : Jvm.Cond.methodLink "Proratehouse" (219 : Nat) ({ cls := "Proratehouse", name := "receive", desc := "(LProratehouse$Ticket;I)V" } : Jvm.MethodName) ∈ lw_good := lw_g 840 (by decide +kernel) (by decide +kernel)
theorem w_842 : Jvm.Cond.instanceMethod ({ cls := "Proratehouse", name := "receive", desc := "(LProratehouse$Ticket;I)V" } : Jvm.MethodName) ∈ lw_good := lw_g 842 (by decide +kernel) (by decide +kernel)
theorem w_843 : Jvm.Cond.code ({ cls := "Proratehouse", name := "receive", desc := "(LProratehouse$Ticket;I)V" } : Jvm.MethodName) prog_1_method_41_code (3 : Nat) (Option.none : Option Jvm.ClassFile.FieldType) ∈ lw_good := lw_g 843 (by decide +kernel) (by decide +kernel)
theorem w_844 : Jvm.Cond.methodLink "Proratehouse" (255 : Nat) ({ cls := "Proratehouse", name := "addCash", desc := "(IJ)V" } : Jvm.MethodName) ∈ lw_good := lw_g 844 (by decide +kernel) (by decide +kernel)
theorem w_846 : Jvm.Cond.instanceMethod ({ cls := "Proratehouse", name := "addCash", desc := "(IJ)V" } : Jvm.MethodName) ∈ lw_good := lw_g 846 (by decide +kernel) (by decide +kernel)
theorem w_847 : Jvm.Cond.code ({ cls := "Proratehouse", name := "addCash", desc := "(IJ)V" } : Jvm.MethodName) prog_1_method_42_code (4 : Nat) (Option.none : Option Jvm.ClassFile.FieldType) ∈ lw_good := lw_g 847 (by decide +kernel) (by decide +kernel)
theorem w_848 : Jvm.Cond.methodLink "ProratehouseLaw" (207 : Nat) ({ cls := "ProratehouseLaw", name := "sells", desc := "(LProratehouse;[III)Z" } : Jvm.MethodName) ∈ lw_good := lw_g 848 (by decide +kernel) (by decide +kernel)
theorem w_849 : Jvm.Cond.static ({ cls := "ProratehouseLaw", name := "sells", desc := "(LProratehouse;[III)Z" } : Jvm.MethodName) ∈ lw_good := lw_g 849 (by decide +kernel) (by decide +kernel)
theorem w_850 : Jvm.Cond.code ({ cls := "ProratehouseLaw", name := "sells", desc := "(LProratehouse;[III)Z" } : Jvm.MethodName) method_36_code (10 : Nat) (Option.some Jvm.ClassFile.FieldType.boolean) ∈ lw_good := lw_g 850 (by decide +kernel) (by decide +kernel)
theorem w_851 : Jvm.Cond.methodLink "ProratehouseLaw" (174 : Nat) ({ cls := "ProratehouseLaw", name := "refund", desc := "(LProratehouse;I)I" } : Jvm.MethodName) ∈ lw_good := lw_g 851 (by decide +kernel) (by decide +kernel)
theorem w_852 : Jvm.Cond.static ({ cls := "ProratehouseLaw", name := "refund", desc := "(LProratehouse;I)I" } : Jvm.MethodName) ∈ lw_good := lw_g 852 (by decide +kernel) (by decide +kernel)
theorem w_853 : Jvm.Cond.codeWith ({ cls := "ProratehouseLaw", name := "refund", desc := "(LProratehouse;I)I" } : Jvm.MethodName) method_17_code (3 : Nat) (Option.some Jvm.ClassFile.FieldType.int) [((0 : Nat), (5 : Nat), (6 : Nat), (16 : Nat)), ((0 : Nat), (5 : Nat), (10 : Nat), (26 : Nat))] ∈ lw_good := lw_g 853 (by decide +kernel) (by decide +kernel)
theorem w_854 : Jvm.Cond.methodLink "ProratehouseLaw" (67 : Nat) ({ cls := "Proratehouse", name := "refund", desc := "(I)I" } : Jvm.MethodName) ∈ lw_good := lw_g 854 (by decide +kernel) (by decide +kernel)
theorem w_855 : Jvm.Cond.instanceMethod ({ cls := "Proratehouse", name := "refund", desc := "(I)I" } : Jvm.MethodName) ∈ lw_good := lw_g 855 (by decide +kernel) (by decide +kernel)
theorem w_856 : Jvm.Cond.selects "Proratehouse" ({ cls := "Proratehouse", name := "refund", desc := "(I)I" } : Jvm.MethodName) ({ cls := "Proratehouse", name := "refund", desc := "(I)I" } : Jvm.MethodName) ∈ lw_good := lw_g 856 (by decide +kernel) (by decide +kernel)
theorem w_857 : Jvm.Cond.code ({ cls := "Proratehouse", name := "refund", desc := "(I)I" } : Jvm.MethodName) prog_1_method_19_code (6 : Nat) (Option.some Jvm.ClassFile.FieldType.int) ∈ lw_good := lw_g 857 (by decide +kernel) (by decide +kernel)
theorem w_858 : Jvm.Cond.methodLink "Proratehouse" (280 : Nat) ({ cls := "Proratehouse$Ticket", name := "hasOpenOnes", desc := "()Z" } : Jvm.MethodName) ∈ lw_good := lw_g 858 (by decide +kernel) (by decide +kernel)
theorem w_859 : Jvm.Cond.instanceMethod ({ cls := "Proratehouse$Ticket", name := "hasOpenOnes", desc := "()Z" } : Jvm.MethodName) ∈ lw_good := lw_g 859 (by decide +kernel) (by decide +kernel)
theorem w_860 : Jvm.Cond.selects "Proratehouse$Ticket" ({ cls := "Proratehouse$Ticket", name := "hasOpenOnes", desc := "()Z" } : Jvm.MethodName) ({ cls := "Proratehouse$Ticket", name := "hasOpenOnes", desc := "()Z" } : Jvm.MethodName) ∈ lw_good := lw_g 860 (by decide +kernel) (by decide +kernel)
theorem w_861 : Jvm.Cond.code ({ cls := "Proratehouse$Ticket", name := "hasOpenOnes", desc := "()Z" } : Jvm.MethodName) prog_11_method_5_code (2 : Nat) (Option.some Jvm.ClassFile.FieldType.boolean) ∈ lw_good := lw_g 861 (by decide +kernel) (by decide +kernel)
theorem w_862 : Jvm.Cond.methodLink "Proratehouse$Ticket" (43 : Nat) ({ cls := "Proratehouse$Ticket", name := "openAt", desc := "(I)LProratehouse$Coupon;" } : Jvm.MethodName) ∈ lw_good := lw_g 862 (by decide +kernel) (by decide +kernel)
theorem w_864 : Jvm.Cond.instanceMethod ({ cls := "Proratehouse$Ticket", name := "openAt", desc := "(I)LProratehouse$Coupon;" } : Jvm.MethodName) ∈ lw_good := lw_g 864 (by decide +kernel) (by decide +kernel)
theorem w_865 : Jvm.Cond.code ({ cls := "Proratehouse$Ticket", name := "openAt", desc := "(I)LProratehouse$Coupon;" } : Jvm.MethodName) prog_11_method_4_code (3 : Nat) (Option.some (Jvm.ClassFile.FieldType.object "Proratehouse$Coupon")) ∈ lw_good := lw_g 865 (by decide +kernel) (by decide +kernel)
theorem w_867 : Jvm.Cond.methodLink "Proratehouse" (285 : Nat) ({ cls := "Proratehouse$Ticket", name := "openShares", desc := "()I" } : Jvm.MethodName) ∈ lw_good := lw_g 867 (by decide +kernel) (by decide +kernel)
theorem w_868 : Jvm.Cond.instanceMethod ({ cls := "Proratehouse$Ticket", name := "openShares", desc := "()I" } : Jvm.MethodName) ∈ lw_good := lw_g 868 (by decide +kernel) (by decide +kernel)
theorem w_869 : Jvm.Cond.selects "Proratehouse$Ticket" ({ cls := "Proratehouse$Ticket", name := "openShares", desc := "()I" } : Jvm.MethodName) ({ cls := "Proratehouse$Ticket", name := "openShares", desc := "()I" } : Jvm.MethodName) ∈ lw_good := lw_g 869 (by decide +kernel) (by decide +kernel)
theorem w_870 : Jvm.Cond.code ({ cls := "Proratehouse$Ticket", name := "openShares", desc := "()I" } : Jvm.MethodName) prog_11_method_6_code (4 : Nat) (Option.some Jvm.ClassFile.FieldType.int) ∈ lw_good := lw_g 870 (by decide +kernel) (by decide +kernel)
theorem w_871 : Jvm.Cond.constantLong "Proratehouse" (288 : Nat) (100 : Int64) ∈ lw_good := lw_g 871 (by decide +kernel) (by decide +kernel)
theorem w_872 : Jvm.Cond.methodLink "Proratehouse" (290 : Nat) ({ cls := "Proratehouse$Ticket", name := "openTaxes", desc := "()I" } : Jvm.MethodName) ∈ lw_good := lw_g 872 (by decide +kernel) (by decide +kernel)
theorem w_873 : Jvm.Cond.instanceMethod ({ cls := "Proratehouse$Ticket", name := "openTaxes", desc := "()I" } : Jvm.MethodName) ∈ lw_good := lw_g 873 (by decide +kernel) (by decide +kernel)
theorem w_874 : Jvm.Cond.selects "Proratehouse$Ticket" ({ cls := "Proratehouse$Ticket", name := "openTaxes", desc := "()I" } : Jvm.MethodName) ({ cls := "Proratehouse$Ticket", name := "openTaxes", desc := "()I" } : Jvm.MethodName) ∈ lw_good := lw_g 874 (by decide +kernel) (by decide +kernel)
theorem w_875 : Jvm.Cond.code ({ cls := "Proratehouse$Ticket", name := "openTaxes", desc := "()I" } : Jvm.MethodName) prog_11_method_7_code (4 : Nat) (Option.some Jvm.ClassFile.FieldType.int) ∈ lw_good := lw_g 875 (by decide +kernel) (by decide +kernel)
theorem w_876 : Jvm.Cond.methodLink "Proratehouse" (245 : Nat) ({ cls := "Proratehouse$Ticket", name := "turnOpenOnes", desc := "(II)V" } : Jvm.MethodName) ∈ lw_good := lw_g 876 (by decide +kernel) (by decide +kernel)
theorem w_877 : Jvm.Cond.instanceMethod ({ cls := "Proratehouse$Ticket", name := "turnOpenOnes", desc := "(II)V" } : Jvm.MethodName) ∈ lw_good := lw_g 877 (by decide +kernel) (by decide +kernel)
theorem w_878 : Jvm.Cond.selects "Proratehouse$Ticket" ({ cls := "Proratehouse$Ticket", name := "turnOpenOnes", desc := "(II)V" } : Jvm.MethodName) ({ cls := "Proratehouse$Ticket", name := "turnOpenOnes", desc := "(II)V" } : Jvm.MethodName) ∈ lw_good := lw_g 878 (by decide +kernel) (by decide +kernel)
theorem w_879 : Jvm.Cond.code ({ cls := "Proratehouse$Ticket", name := "turnOpenOnes", desc := "(II)V" } : Jvm.MethodName) prog_11_method_9_code (5 : Nat) (Option.none : Option Jvm.ClassFile.FieldType) ∈ lw_good := lw_g 879 (by decide +kernel) (by decide +kernel)
theorem w_880 : Jvm.Cond.methodLink "ProratehouseLaw" (176 : Nat) ({ cls := "ProratehouseLaw", name := "reissue", desc := "(LProratehouse;I)I" } : Jvm.MethodName) ∈ lw_good := lw_g 880 (by decide +kernel) (by decide +kernel)
theorem w_881 : Jvm.Cond.static ({ cls := "ProratehouseLaw", name := "reissue", desc := "(LProratehouse;I)I" } : Jvm.MethodName) ∈ lw_good := lw_g 881 (by decide +kernel) (by decide +kernel)
theorem w_882 : Jvm.Cond.codeWith ({ cls := "ProratehouseLaw", name := "reissue", desc := "(LProratehouse;I)I" } : Jvm.MethodName) method_18_code (3 : Nat) (Option.some Jvm.ClassFile.FieldType.int) [((0 : Nat), (5 : Nat), (6 : Nat), (16 : Nat)), ((0 : Nat), (5 : Nat), (10 : Nat), (26 : Nat))] ∈ lw_good := lw_g 882 (by decide +kernel) (by decide +kernel)
theorem w_883 : Jvm.Cond.methodLink "ProratehouseLaw" (70 : Nat) ({ cls := "Proratehouse", name := "reissue", desc := "(I)I" } : Jvm.MethodName) ∈ lw_good := lw_g 883 (by decide +kernel) (by decide +kernel)
theorem w_884 : Jvm.Cond.instanceMethod ({ cls := "Proratehouse", name := "reissue", desc := "(I)I" } : Jvm.MethodName) ∈ lw_good := lw_g 884 (by decide +kernel) (by decide +kernel)
theorem w_885 : Jvm.Cond.selects "Proratehouse" ({ cls := "Proratehouse", name := "reissue", desc := "(I)I" } : Jvm.MethodName) ({ cls := "Proratehouse", name := "reissue", desc := "(I)I" } : Jvm.MethodName) ∈ lw_good := lw_g 885 (by decide +kernel) (by decide +kernel)
theorem w_886 : Jvm.Cond.code ({ cls := "Proratehouse", name := "reissue", desc := "(I)I" } : Jvm.MethodName) prog_1_method_20_code (6 : Nat) (Option.some Jvm.ClassFile.FieldType.int) ∈ lw_good := lw_g 886 (by decide +kernel) (by decide +kernel)
theorem w_888 : Jvm.Cond.methodLink "ProratehouseLaw" (210 : Nat) ({ cls := "ProratehouseLaw", name := "flies", desc := "(LProratehouse;[II)Z" } : Jvm.MethodName) ∈ lw_good := lw_g 888 (by decide +kernel) (by decide +kernel)
theorem w_889 : Jvm.Cond.static ({ cls := "ProratehouseLaw", name := "flies", desc := "(LProratehouse;[II)Z" } : Jvm.MethodName) ∈ lw_good := lw_g 889 (by decide +kernel) (by decide +kernel)
theorem w_890 : Jvm.Cond.code ({ cls := "ProratehouseLaw", name := "flies", desc := "(LProratehouse;[II)Z" } : Jvm.MethodName) method_37_code (9 : Nat) (Option.some Jvm.ClassFile.FieldType.boolean) ∈ lw_good := lw_g 890 (by decide +kernel) (by decide +kernel)
theorem w_891 : Jvm.Cond.methodLink "ProratehouseLaw" (178 : Nat) ({ cls := "ProratehouseLaw", name := "endorse", desc := "(LProratehouse;III)I" } : Jvm.MethodName) ∈ lw_good := lw_g 891 (by decide +kernel) (by decide +kernel)
theorem w_892 : Jvm.Cond.static ({ cls := "ProratehouseLaw", name := "endorse", desc := "(LProratehouse;III)I" } : Jvm.MethodName) ∈ lw_good := lw_g 892 (by decide +kernel) (by decide +kernel)
theorem w_893 : Jvm.Cond.codeWith ({ cls := "ProratehouseLaw", name := "endorse", desc := "(LProratehouse;III)I" } : Jvm.MethodName) method_16_code (5 : Nat) (Option.some Jvm.ClassFile.FieldType.int) [((0 : Nat), (7 : Nat), (8 : Nat), (16 : Nat)), ((0 : Nat), (7 : Nat), (13 : Nat), (26 : Nat))] ∈ lw_good := lw_g 893 (by decide +kernel) (by decide +kernel)
theorem w_894 : Jvm.Cond.methodLink "ProratehouseLaw" (64 : Nat) ({ cls := "Proratehouse", name := "endorse", desc := "(III)I" } : Jvm.MethodName) ∈ lw_good := lw_g 894 (by decide +kernel) (by decide +kernel)
theorem w_895 : Jvm.Cond.instanceMethod ({ cls := "Proratehouse", name := "endorse", desc := "(III)I" } : Jvm.MethodName) ∈ lw_good := lw_g 895 (by decide +kernel) (by decide +kernel)
theorem w_896 : Jvm.Cond.selects "Proratehouse" ({ cls := "Proratehouse", name := "endorse", desc := "(III)I" } : Jvm.MethodName) ({ cls := "Proratehouse", name := "endorse", desc := "(III)I" } : Jvm.MethodName) ∈ lw_good := lw_g 896 (by decide +kernel) (by decide +kernel)
theorem w_897 : Jvm.Cond.code ({ cls := "Proratehouse", name := "endorse", desc := "(III)I" } : Jvm.MethodName) prog_1_method_18_code (7 : Nat) (Option.some Jvm.ClassFile.FieldType.int) ∈ lw_good := lw_g 897 (by decide +kernel) (by decide +kernel)
theorem w_900 : Jvm.Cond.methodLink "ProratehouseLaw" (180 : Nat) ({ cls := "ProratehouseLaw", name := "fly", desc := "(LProratehouse;II)I" } : Jvm.MethodName) ∈ lw_good := lw_g 900 (by decide +kernel) (by decide +kernel)
theorem w_901 : Jvm.Cond.static ({ cls := "ProratehouseLaw", name := "fly", desc := "(LProratehouse;II)I" } : Jvm.MethodName) ∈ lw_good := lw_g 901 (by decide +kernel) (by decide +kernel)
theorem w_902 : Jvm.Cond.codeWith ({ cls := "ProratehouseLaw", name := "fly", desc := "(LProratehouse;II)I" } : Jvm.MethodName) method_15_code (4 : Nat) (Option.some Jvm.ClassFile.FieldType.int) [((0 : Nat), (6 : Nat), (7 : Nat), (16 : Nat)), ((0 : Nat), (6 : Nat), (11 : Nat), (26 : Nat))] ∈ lw_good := lw_g 902 (by decide +kernel) (by decide +kernel)
theorem w_903 : Jvm.Cond.methodLink "ProratehouseLaw" (61 : Nat) ({ cls := "Proratehouse", name := "fly", desc := "(II)I" } : Jvm.MethodName) ∈ lw_good := lw_g 903 (by decide +kernel) (by decide +kernel)
theorem w_904 : Jvm.Cond.instanceMethod ({ cls := "Proratehouse", name := "fly", desc := "(II)I" } : Jvm.MethodName) ∈ lw_good := lw_g 904 (by decide +kernel) (by decide +kernel)
theorem w_905 : Jvm.Cond.selects "Proratehouse" ({ cls := "Proratehouse", name := "fly", desc := "(II)I" } : Jvm.MethodName) ({ cls := "Proratehouse", name := "fly", desc := "(II)I" } : Jvm.MethodName) ∈ lw_good := lw_g 905 (by decide +kernel) (by decide +kernel)
theorem w_906 : Jvm.Cond.code ({ cls := "Proratehouse", name := "fly", desc := "(II)I" } : Jvm.MethodName) prog_1_method_17_code (5 : Nat) (Option.some Jvm.ClassFile.FieldType.int) ∈ lw_good := lw_g 906 (by decide +kernel) (by decide +kernel)
theorem w_908 : Jvm.Cond.methodLink "Proratehouse" (268 : Nat) ({ cls := "Proratehouse$Clearing", name := "addBill", desc := "(III)I" } : Jvm.MethodName) ∈ lw_good := lw_g 908 (by decide +kernel) (by decide +kernel)
theorem w_909 : Jvm.Cond.instanceMethod ({ cls := "Proratehouse$Clearing", name := "addBill", desc := "(III)I" } : Jvm.MethodName) ∈ lw_good := lw_g 909 (by decide +kernel) (by decide +kernel)
theorem w_910 : Jvm.Cond.selects "Proratehouse$Clearing" ({ cls := "Proratehouse$Clearing", name := "addBill", desc := "(III)I" } : Jvm.MethodName) ({ cls := "Proratehouse$Clearing", name := "addBill", desc := "(III)I" } : Jvm.MethodName) ∈ lw_good := lw_g 910 (by decide +kernel) (by decide +kernel)
theorem w_911 : Jvm.Cond.code ({ cls := "Proratehouse$Clearing", name := "addBill", desc := "(III)I" } : Jvm.MethodName) prog_3_method_2_code (4 : Nat) (Option.some Jvm.ClassFile.FieldType.int) ∈ lw_good := lw_g 911 (by decide +kernel) (by decide +kernel)
theorem w_912 : Jvm.Cond.instantiable "Proratehouse$Bill" (6 : Nat) ∈ lw_good := lw_g 912 (by decide +kernel) (by decide +kernel)
theorem w_913 : Jvm.Cond.methodLink "Proratehouse$Clearing" (25 : Nat) ({ cls := "Proratehouse$Bill", name := "<init>", desc := "(III)V" } : Jvm.MethodName) ∈ lw_good := lw_g 913 (by decide +kernel) (by decide +kernel)
theorem w_914 : Jvm.Cond.instanceMethod ({ cls := "Proratehouse$Bill", name := "<init>", desc := "(III)V" } : Jvm.MethodName) ∈ lw_good := lw_g 914 (by decide +kernel) (by decide +kernel)
theorem w_915 : Jvm.Cond.code ({ cls := "Proratehouse$Bill", name := "<init>", desc := "(III)V" } : Jvm.MethodName) prog_2_method_1_code (4 : Nat) (Option.none : Option Jvm.ClassFile.FieldType) ∈ lw_good := lw_g 915 (by decide +kernel) (by decide +kernel)
theorem w_916 : Jvm.Cond.methodLink "Proratehouse$Bill" (3 : Nat) ({ cls := "java/lang/Object", name := "<init>", desc := "()V" } : Jvm.MethodName) ∈ lw_good := lw_g 916 (by decide +kernel) (by decide +kernel)
theorem w_917 : Jvm.Cond.fieldLink "Proratehouse$Bill" (15 : Nat) "Proratehouse$Bill" "payer" "I" ∈ lw_good := lw_g 917 (by decide +kernel) (by decide +kernel)
theorem w_918 : Jvm.Cond.fieldLink "Proratehouse$Clearing" (49 : Nat) "Proratehouse$Bill" "payer" "I" ∈ lw_good := lw_g 918 (by decide +kernel) (by decide +kernel)
theorem w_919 : Jvm.Cond.fieldLink "Proratehouse" (356 : Nat) "Proratehouse$Bill" "payer" "I" ∈ lw_good := lw_g 919 (by decide +kernel) (by decide +kernel)
theorem w_920 : Jvm.Cond.fieldLink "Proratehouse$Bill" (18 : Nat) "Proratehouse$Bill" "payee" "I" ∈ lw_good := lw_g 920 (by decide +kernel) (by decide +kernel)
theorem w_921 : Jvm.Cond.fieldLink "Proratehouse$Clearing" (55 : Nat) "Proratehouse$Bill" "payee" "I" ∈ lw_good := lw_g 921 (by decide +kernel) (by decide +kernel)
theorem w_922 : Jvm.Cond.fieldLink "Proratehouse" (359 : Nat) "Proratehouse$Bill" "payee" "I" ∈ lw_good := lw_g 922 (by decide +kernel) (by decide +kernel)
theorem w_923 : Jvm.Cond.fieldLink "Proratehouse$Bill" (21 : Nat) "Proratehouse$Bill" "amount" "I" ∈ lw_good := lw_g 923 (by decide +kernel) (by decide +kernel)
theorem w_924 : Jvm.Cond.fieldLink "Proratehouse" (353 : Nat) "Proratehouse$Bill" "amount" "I" ∈ lw_good := lw_g 924 (by decide +kernel) (by decide +kernel)
theorem w_925 : Jvm.Cond.fieldLink "Proratehouse$Bill" (9 : Nat) "Proratehouse$Bill" "status" "I" ∈ lw_good := lw_g 925 (by decide +kernel) (by decide +kernel)
theorem w_926 : Jvm.Cond.fieldLink "Proratehouse" (318 : Nat) "Proratehouse$Bill" "status" "I" ∈ lw_good := lw_g 926 (by decide +kernel) (by decide +kernel)
theorem w_927 : Jvm.Cond.fieldLink "Proratehouse$Bill" (31 : Nat) "Proratehouse$Bill" "rejections" "I" ∈ lw_good := lw_g 927 (by decide +kernel) (by decide +kernel)
theorem w_928 : Jvm.Cond.fieldLink "Proratehouse" (329 : Nat) "Proratehouse$Bill" "rejections" "I" ∈ lw_good := lw_g 928 (by decide +kernel) (by decide +kernel)
theorem w_929 : Jvm.Cond.fieldLink "Proratehouse$Bill" (24 : Nat) "Proratehouse$Bill" "settledBy" "I" ∈ lw_good := lw_g 929 (by decide +kernel) (by decide +kernel)
theorem w_930 : Jvm.Cond.fieldLink "Proratehouse" (321 : Nat) "Proratehouse$Bill" "settledBy" "I" ∈ lw_good := lw_g 930 (by decide +kernel) (by decide +kernel)
theorem w_944 : Jvm.Cond.methodLink "ProratehouseLaw" (213 : Nat) ({ cls := "ProratehouseLaw", name := "clears", desc := "(LProratehouse;[III)Z" } : Jvm.MethodName) ∈ lw_good := lw_g 944 (by decide +kernel) (by decide +kernel)
theorem w_945 : Jvm.Cond.static ({ cls := "ProratehouseLaw", name := "clears", desc := "(LProratehouse;[III)Z" } : Jvm.MethodName) ∈ lw_good := lw_g 945 (by decide +kernel) (by decide +kernel)
theorem w_946 : Jvm.Cond.code ({ cls := "ProratehouseLaw", name := "clears", desc := "(LProratehouse;[III)Z" } : Jvm.MethodName) method_38_code (9 : Nat) (Option.some Jvm.ClassFile.FieldType.boolean) ∈ lw_good := lw_g 946 (by decide +kernel) (by decide +kernel)
theorem w_947 : Jvm.Cond.methodLink "ProratehouseLaw" (182 : Nat) ({ cls := "Proratehouse", name := "clear", desc := "()J" } : Jvm.MethodName) ∈ lw_good := lw_g 947 (by decide +kernel) (by decide +kernel)
theorem w_948 : Jvm.Cond.instanceMethod ({ cls := "Proratehouse", name := "clear", desc := "()J" } : Jvm.MethodName) ∈ lw_good := lw_g 948 (by decide +kernel) (by decide +kernel)
theorem w_949 : Jvm.Cond.selects "Proratehouse" ({ cls := "Proratehouse", name := "clear", desc := "()J" } : Jvm.MethodName) ({ cls := "Proratehouse", name := "clear", desc := "()J" } : Jvm.MethodName) ∈ lw_good := lw_g 949 (by decide +kernel) (by decide +kernel)
theorem w_950 : Jvm.Cond.code ({ cls := "Proratehouse", name := "clear", desc := "()J" } : Jvm.MethodName) prog_1_method_22_code (1 : Nat) (Option.some Jvm.ClassFile.FieldType.long) ∈ lw_good := lw_g 950 (by decide +kernel) (by decide +kernel)
theorem w_951 : Jvm.Cond.methodLink "Proratehouse" (302 : Nat) ({ cls := "Proratehouse$Clearing", name := "settle", desc := "()V" } : Jvm.MethodName) ∈ lw_good := lw_g 951 (by decide +kernel) (by decide +kernel)
theorem w_952 : Jvm.Cond.instanceMethod ({ cls := "Proratehouse$Clearing", name := "settle", desc := "()V" } : Jvm.MethodName) ∈ lw_good := lw_g 952 (by decide +kernel) (by decide +kernel)
theorem w_953 : Jvm.Cond.selects "Proratehouse$Clearing" ({ cls := "Proratehouse$Clearing", name := "settle", desc := "()V" } : Jvm.MethodName) ({ cls := "Proratehouse$Clearing", name := "settle", desc := "()V" } : Jvm.MethodName) ∈ lw_good := lw_g 953 (by decide +kernel) (by decide +kernel)
theorem w_954 : Jvm.Cond.code ({ cls := "Proratehouse$Clearing", name := "settle", desc := "()V" } : Jvm.MethodName) prog_3_method_6_code (3 : Nat) (Option.none : Option Jvm.ClassFile.FieldType) ∈ lw_good := lw_g 954 (by decide +kernel) (by decide +kernel)
theorem w_955 : Jvm.Cond.methodLink "Proratehouse$Clearing" (35 : Nat) ({ cls := "Proratehouse$Clearing", name := "forgetNets", desc := "()V" } : Jvm.MethodName) ∈ lw_good := lw_g 955 (by decide +kernel) (by decide +kernel)
theorem w_957 : Jvm.Cond.instanceMethod ({ cls := "Proratehouse$Clearing", name := "forgetNets", desc := "()V" } : Jvm.MethodName) ∈ lw_good := lw_g 957 (by decide +kernel) (by decide +kernel)
theorem w_958 : Jvm.Cond.code ({ cls := "Proratehouse$Clearing", name := "forgetNets", desc := "()V" } : Jvm.MethodName) prog_3_method_8_code (2 : Nat) (Option.none : Option Jvm.ClassFile.FieldType) ∈ lw_good := lw_g 958 (by decide +kernel) (by decide +kernel)
theorem w_959 : Jvm.Cond.methodLink "Proratehouse$Clearing" (45 : Nat) ({ cls := "Proratehouse$Bill", name := "isToBeSettled", desc := "()Z" } : Jvm.MethodName) ∈ lw_good := lw_g 959 (by decide +kernel) (by decide +kernel)
theorem w_960 : Jvm.Cond.instanceMethod ({ cls := "Proratehouse$Bill", name := "isToBeSettled", desc := "()Z" } : Jvm.MethodName) ∈ lw_good := lw_g 960 (by decide +kernel) (by decide +kernel)
theorem w_961 : Jvm.Cond.selects "Proratehouse$Bill" ({ cls := "Proratehouse$Bill", name := "isToBeSettled", desc := "()Z" } : Jvm.MethodName) ({ cls := "Proratehouse$Bill", name := "isToBeSettled", desc := "()Z" } : Jvm.MethodName) ∈ lw_good := lw_g 961 (by decide +kernel) (by decide +kernel)
theorem w_962 : Jvm.Cond.code ({ cls := "Proratehouse$Bill", name := "isToBeSettled", desc := "()Z" } : Jvm.MethodName) prog_2_method_3_code (1 : Nat) (Option.some Jvm.ClassFile.FieldType.boolean) ∈ lw_good := lw_g 962 (by decide +kernel) (by decide +kernel)
theorem w_963 : Jvm.Cond.methodLink "Proratehouse$Clearing" (52 : Nat) ({ cls := "Proratehouse$Clearing", name := "isInDefault", desc := "(I)Z" } : Jvm.MethodName) ∈ lw_good := lw_g 963 (by decide +kernel) (by decide +kernel)
theorem w_964 : Jvm.Cond.instanceMethod ({ cls := "Proratehouse$Clearing", name := "isInDefault", desc := "(I)Z" } : Jvm.MethodName) ∈ lw_good := lw_g 964 (by decide +kernel) (by decide +kernel)
theorem w_965 : Jvm.Cond.selects "Proratehouse$Clearing" ({ cls := "Proratehouse$Clearing", name := "isInDefault", desc := "(I)Z" } : Jvm.MethodName) ({ cls := "Proratehouse$Clearing", name := "isInDefault", desc := "(I)Z" } : Jvm.MethodName) ∈ lw_good := lw_g 965 (by decide +kernel) (by decide +kernel)
theorem w_966 : Jvm.Cond.code ({ cls := "Proratehouse$Clearing", name := "isInDefault", desc := "(I)Z" } : Jvm.MethodName) prog_3_method_4_code (2 : Nat) (Option.some Jvm.ClassFile.FieldType.boolean) ∈ lw_good := lw_g 966 (by decide +kernel) (by decide +kernel)
theorem w_968 : Jvm.Cond.methodLink "Proratehouse$Clearing" (58 : Nat) ({ cls := "Proratehouse$Bill", name := "settle", desc := "(I)I" } : Jvm.MethodName) ∈ lw_good := lw_g 968 (by decide +kernel) (by decide +kernel)
theorem w_969 : Jvm.Cond.instanceMethod ({ cls := "Proratehouse$Bill", name := "settle", desc := "(I)I" } : Jvm.MethodName) ∈ lw_good := lw_g 969 (by decide +kernel) (by decide +kernel)
theorem w_970 : Jvm.Cond.selects "Proratehouse$Bill" ({ cls := "Proratehouse$Bill", name := "settle", desc := "(I)I" } : Jvm.MethodName) ({ cls := "Proratehouse$Bill", name := "settle", desc := "(I)I" } : Jvm.MethodName) ∈ lw_good := lw_g 970 (by decide +kernel) (by decide +kernel)
theorem w_971 : Jvm.Cond.code ({ cls := "Proratehouse$Bill", name := "settle", desc := "(I)I" } : Jvm.MethodName) prog_2_method_6_code (2 : Nat) (Option.some Jvm.ClassFile.FieldType.int) ∈ lw_good := lw_g 971 (by decide +kernel) (by decide +kernel)
theorem w_972 : Jvm.Cond.methodLink "Proratehouse$Bill" (34 : Nat) ({ cls := "Proratehouse$Bill", name := "amountBack", desc := "()I" } : Jvm.MethodName) ∈ lw_good := lw_g 972 (by decide +kernel) (by decide +kernel)
theorem w_974 : Jvm.Cond.instanceMethod ({ cls := "Proratehouse$Bill", name := "amountBack", desc := "()I" } : Jvm.MethodName) ∈ lw_good := lw_g 974 (by decide +kernel) (by decide +kernel)
theorem w_975 : Jvm.Cond.code ({ cls := "Proratehouse$Bill", name := "amountBack", desc := "()I" } : Jvm.MethodName) prog_2_method_5_code (1 : Nat) (Option.some Jvm.ClassFile.FieldType.int) ∈ lw_good := lw_g 975 (by decide +kernel) (by decide +kernel)
theorem w_976 : Jvm.Cond.methodLink "Proratehouse$Clearing" (62 : Nat) ({ cls := "Proratehouse$Clearing", name := "addToNets", desc := "(LProratehouse$Bill;I)V" } : Jvm.MethodName) ∈ lw_good := lw_g 976 (by decide +kernel) (by decide +kernel)
theorem w_978 : Jvm.Cond.instanceMethod ({ cls := "Proratehouse$Clearing", name := "addToNets", desc := "(LProratehouse$Bill;I)V" } : Jvm.MethodName) ∈ lw_good := lw_g 978 (by decide +kernel) (by decide +kernel)
theorem w_979 : Jvm.Cond.code ({ cls := "Proratehouse$Clearing", name := "addToNets", desc := "(LProratehouse$Bill;I)V" } : Jvm.MethodName) prog_3_method_9_code (3 : Nat) (Option.none : Option Jvm.ClassFile.FieldType) ∈ lw_good := lw_g 979 (by decide +kernel) (by decide +kernel)
theorem w_980 : Jvm.Cond.methodLink "Proratehouse" (305 : Nat) ({ cls := "Proratehouse", name := "moveNets", desc := "()V" } : Jvm.MethodName) ∈ lw_good := lw_g 980 (by decide +kernel) (by decide +kernel)
theorem w_982 : Jvm.Cond.instanceMethod ({ cls := "Proratehouse", name := "moveNets", desc := "()V" } : Jvm.MethodName) ∈ lw_good := lw_g 982 (by decide +kernel) (by decide +kernel)
theorem w_983 : Jvm.Cond.code ({ cls := "Proratehouse", name := "moveNets", desc := "()V" } : Jvm.MethodName) prog_1_method_43_code (2 : Nat) (Option.none : Option Jvm.ClassFile.FieldType) ∈ lw_good := lw_g 983 (by decide +kernel) (by decide +kernel)
theorem w_984 : Jvm.Cond.methodLink "Proratehouse" (413 : Nat) ({ cls := "Proratehouse$Clearing", name := "netOf", desc := "(I)J" } : Jvm.MethodName) ∈ lw_good := lw_g 984 (by decide +kernel) (by decide +kernel)
theorem w_985 : Jvm.Cond.instanceMethod ({ cls := "Proratehouse$Clearing", name := "netOf", desc := "(I)J" } : Jvm.MethodName) ∈ lw_good := lw_g 985 (by decide +kernel) (by decide +kernel)
theorem w_986 : Jvm.Cond.selects "Proratehouse$Clearing" ({ cls := "Proratehouse$Clearing", name := "netOf", desc := "(I)J" } : Jvm.MethodName) ({ cls := "Proratehouse$Clearing", name := "netOf", desc := "(I)J" } : Jvm.MethodName) ∈ lw_good := lw_g 986 (by decide +kernel) (by decide +kernel)
theorem w_987 : Jvm.Cond.code ({ cls := "Proratehouse$Clearing", name := "netOf", desc := "(I)J" } : Jvm.MethodName) prog_3_method_10_code (2 : Nat) (Option.some Jvm.ClassFile.FieldType.long) ∈ lw_good := lw_g 987 (by decide +kernel) (by decide +kernel)
theorem w_988 : Jvm.Cond.methodLink "Proratehouse" (308 : Nat) ({ cls := "Proratehouse$Clearing", name := "sumOfNetsAboveZero", desc := "()J" } : Jvm.MethodName) ∈ lw_good := lw_g 988 (by decide +kernel) (by decide +kernel)
theorem w_989 : Jvm.Cond.instanceMethod ({ cls := "Proratehouse$Clearing", name := "sumOfNetsAboveZero", desc := "()J" } : Jvm.MethodName) ∈ lw_good := lw_g 989 (by decide +kernel) (by decide +kernel)
theorem w_990 : Jvm.Cond.selects "Proratehouse$Clearing" ({ cls := "Proratehouse$Clearing", name := "sumOfNetsAboveZero", desc := "()J" } : Jvm.MethodName) ({ cls := "Proratehouse$Clearing", name := "sumOfNetsAboveZero", desc := "()J" } : Jvm.MethodName) ∈ lw_good := lw_g 990 (by decide +kernel) (by decide +kernel)
theorem w_991 : Jvm.Cond.code ({ cls := "Proratehouse$Clearing", name := "sumOfNetsAboveZero", desc := "()J" } : Jvm.MethodName) prog_3_method_11_code (4 : Nat) (Option.some Jvm.ClassFile.FieldType.long) ∈ lw_good := lw_g 991 (by decide +kernel) (by decide +kernel)
theorem w_992 : Jvm.Cond.methodLink "Proratehouse$Clearing" (76 : Nat) ({ cls := "Proratehouse$Clearing", name := "netOf", desc := "(I)J" } : Jvm.MethodName) ∈ lw_good := lw_g 992 (by decide +kernel) (by decide +kernel)
theorem w_993 : Jvm.Cond.methodLink "Proratehouse$Clearing" (80 : Nat) ({ cls := "java/lang/Math", name := "max", desc := "(JJ)J" } : Jvm.MethodName) ∈ lw_good := lw_g 993 (by decide +kernel) (by decide +kernel)
theorem w_994 : Jvm.Cond.static ({ cls := "java/lang/Math", name := "max", desc := "(JJ)J" } : Jvm.MethodName) ∈ lw_good := lw_g 994 (by decide +kernel) (by decide +kernel)
theorem w_995 : Jvm.Cond.code ({ cls := "java/lang/Math", name := "max", desc := "(JJ)J" } : Jvm.MethodName) prog_19_method_66_code (4 : Nat) (Option.some Jvm.ClassFile.FieldType.long) ∈ lw_good := lw_g 995 (by decide +kernel) (by decide +kernel)
theorem w_996 : Jvm.Cond.methodLink "ProratehouseLaw" (185 : Nat) ({ cls := "ProratehouseLaw", name := "fails", desc := "(LProratehouse;IZ)I" } : Jvm.MethodName) ∈ lw_good := lw_g 996 (by decide +kernel) (by decide +kernel)
theorem w_997 : Jvm.Cond.static ({ cls := "ProratehouseLaw", name := "fails", desc := "(LProratehouse;IZ)I" } : Jvm.MethodName) ∈ lw_good := lw_g 997 (by decide +kernel) (by decide +kernel)
theorem w_998 : Jvm.Cond.codeWith ({ cls := "ProratehouseLaw", name := "fails", desc := "(LProratehouse;IZ)I" } : Jvm.MethodName) method_22_code (4 : Nat) (Option.some Jvm.ClassFile.FieldType.int) [((0 : Nat), (6 : Nat), (7 : Nat), (16 : Nat))] ∈ lw_good := lw_g 998 (by decide +kernel) (by decide +kernel)
theorem w_999 : Jvm.Cond.methodLink "ProratehouseLaw" (82 : Nat) ({ cls := "Proratehouse", name := "fails", desc := "(IZ)I" } : Jvm.MethodName) ∈ lw_good := lw_g 999 (by decide +kernel) (by decide +kernel)
theorem w_1000 : Jvm.Cond.instanceMethod ({ cls := "Proratehouse", name := "fails", desc := "(IZ)I" } : Jvm.MethodName) ∈ lw_good := lw_g 1000 (by decide +kernel) (by decide +kernel)
theorem w_1001 : Jvm.Cond.selects "Proratehouse" ({ cls := "Proratehouse", name := "fails", desc := "(IZ)I" } : Jvm.MethodName) ({ cls := "Proratehouse", name := "fails", desc := "(IZ)I" } : Jvm.MethodName) ∈ lw_good := lw_g 1001 (by decide +kernel) (by decide +kernel)
theorem w_1002 : Jvm.Cond.code ({ cls := "Proratehouse", name := "fails", desc := "(IZ)I" } : Jvm.MethodName) prog_1_method_25_code (5 : Nat) (Option.some Jvm.ClassFile.FieldType.int) ∈ lw_good := lw_g 1002 (by decide +kernel) (by decide +kernel)
theorem w_1003 : Jvm.Cond.methodLink "Proratehouse" (334 : Nat) ({ cls := "Proratehouse$Clearing", name := "isInDefault", desc := "(I)Z" } : Jvm.MethodName) ∈ lw_good := lw_g 1003 (by decide +kernel) (by decide +kernel)
theorem w_1004 : Jvm.Cond.methodLink "Proratehouse" (337 : Nat) ({ cls := "Proratehouse$Clearing", name := "putDefault", desc := "(IZ)V" } : Jvm.MethodName) ∈ lw_good := lw_g 1004 (by decide +kernel) (by decide +kernel)
theorem w_1005 : Jvm.Cond.instanceMethod ({ cls := "Proratehouse$Clearing", name := "putDefault", desc := "(IZ)V" } : Jvm.MethodName) ∈ lw_good := lw_g 1005 (by decide +kernel) (by decide +kernel)
theorem w_1006 : Jvm.Cond.selects "Proratehouse$Clearing" ({ cls := "Proratehouse$Clearing", name := "putDefault", desc := "(IZ)V" } : Jvm.MethodName) ({ cls := "Proratehouse$Clearing", name := "putDefault", desc := "(IZ)V" } : Jvm.MethodName) ∈ lw_good := lw_g 1006 (by decide +kernel) (by decide +kernel)
theorem w_1007 : Jvm.Cond.code ({ cls := "Proratehouse$Clearing", name := "putDefault", desc := "(IZ)V" } : Jvm.MethodName) prog_3_method_5_code (3 : Nat) (Option.none : Option Jvm.ClassFile.FieldType) ∈ lw_good := lw_g 1007 (by decide +kernel) (by decide +kernel)
theorem w_1008 : Jvm.Cond.methodLink "Proratehouse" (341 : Nat) ({ cls := "Proratehouse$Clearing", name := "undo", desc := "(I)I" } : Jvm.MethodName) ∈ lw_good := lw_g 1008 (by decide +kernel) (by decide +kernel)
theorem w_1009 : Jvm.Cond.instanceMethod ({ cls := "Proratehouse$Clearing", name := "undo", desc := "(I)I" } : Jvm.MethodName) ∈ lw_good := lw_g 1009 (by decide +kernel) (by decide +kernel)
theorem w_1010 : Jvm.Cond.selects "Proratehouse$Clearing" ({ cls := "Proratehouse$Clearing", name := "undo", desc := "(I)I" } : Jvm.MethodName) ({ cls := "Proratehouse$Clearing", name := "undo", desc := "(I)I" } : Jvm.MethodName) ∈ lw_good := lw_g 1010 (by decide +kernel) (by decide +kernel)
theorem w_1011 : Jvm.Cond.code ({ cls := "Proratehouse$Clearing", name := "undo", desc := "(I)I" } : Jvm.MethodName) prog_3_method_7_code (5 : Nat) (Option.some Jvm.ClassFile.FieldType.int) ∈ lw_good := lw_g 1011 (by decide +kernel) (by decide +kernel)
theorem w_1012 : Jvm.Cond.methodLink "Proratehouse$Clearing" (66 : Nat) ({ cls := "Proratehouse$Bill", name := "isOf", desc := "(I)Z" } : Jvm.MethodName) ∈ lw_good := lw_g 1012 (by decide +kernel) (by decide +kernel)
theorem w_1013 : Jvm.Cond.instanceMethod ({ cls := "Proratehouse$Bill", name := "isOf", desc := "(I)Z" } : Jvm.MethodName) ∈ lw_good := lw_g 1013 (by decide +kernel) (by decide +kernel)
theorem w_1014 : Jvm.Cond.selects "Proratehouse$Bill" ({ cls := "Proratehouse$Bill", name := "isOf", desc := "(I)Z" } : Jvm.MethodName) ({ cls := "Proratehouse$Bill", name := "isOf", desc := "(I)Z" } : Jvm.MethodName) ∈ lw_good := lw_g 1014 (by decide +kernel) (by decide +kernel)
theorem w_1015 : Jvm.Cond.code ({ cls := "Proratehouse$Bill", name := "isOf", desc := "(I)Z" } : Jvm.MethodName) prog_2_method_2_code (2 : Nat) (Option.some Jvm.ClassFile.FieldType.boolean) ∈ lw_good := lw_g 1015 (by decide +kernel) (by decide +kernel)
theorem w_1016 : Jvm.Cond.methodLink "Proratehouse$Clearing" (69 : Nat) ({ cls := "Proratehouse$Bill", name := "isAsLeftBy", desc := "(I)Z" } : Jvm.MethodName) ∈ lw_good := lw_g 1016 (by decide +kernel) (by decide +kernel)
theorem w_1017 : Jvm.Cond.instanceMethod ({ cls := "Proratehouse$Bill", name := "isAsLeftBy", desc := "(I)Z" } : Jvm.MethodName) ∈ lw_good := lw_g 1017 (by decide +kernel) (by decide +kernel)
theorem w_1018 : Jvm.Cond.selects "Proratehouse$Bill" ({ cls := "Proratehouse$Bill", name := "isAsLeftBy", desc := "(I)Z" } : Jvm.MethodName) ({ cls := "Proratehouse$Bill", name := "isAsLeftBy", desc := "(I)Z" } : Jvm.MethodName) ∈ lw_good := lw_g 1018 (by decide +kernel) (by decide +kernel)
theorem w_1019 : Jvm.Cond.code ({ cls := "Proratehouse$Bill", name := "isAsLeftBy", desc := "(I)Z" } : Jvm.MethodName) prog_2_method_4_code (2 : Nat) (Option.some Jvm.ClassFile.FieldType.boolean) ∈ lw_good := lw_g 1019 (by decide +kernel) (by decide +kernel)
theorem w_1020 : Jvm.Cond.methodLink "Proratehouse$Bill" (27 : Nat) ({ cls := "Proratehouse$Bill", name := "isToBeSettled", desc := "()Z" } : Jvm.MethodName) ∈ lw_good := lw_g 1020 (by decide +kernel) (by decide +kernel)
theorem w_1021 : Jvm.Cond.methodLink "Proratehouse$Clearing" (72 : Nat) ({ cls := "Proratehouse$Bill", name := "undo", desc := "()I" } : Jvm.MethodName) ∈ lw_good := lw_g 1021 (by decide +kernel) (by decide +kernel)
theorem w_1022 : Jvm.Cond.instanceMethod ({ cls := "Proratehouse$Bill", name := "undo", desc := "()I" } : Jvm.MethodName) ∈ lw_good := lw_g 1022 (by decide +kernel) (by decide +kernel)
theorem w_1023 : Jvm.Cond.selects "Proratehouse$Bill" ({ cls := "Proratehouse$Bill", name := "undo", desc := "()I" } : Jvm.MethodName) ({ cls := "Proratehouse$Bill", name := "undo", desc := "()I" } : Jvm.MethodName) ∈ lw_good := lw_g 1023 (by decide +kernel) (by decide +kernel)
theorem w_1024 : Jvm.Cond.code ({ cls := "Proratehouse$Bill", name := "undo", desc := "()I" } : Jvm.MethodName) prog_2_method_7_code (1 : Nat) (Option.some Jvm.ClassFile.FieldType.int) ∈ lw_good := lw_g 1024 (by decide +kernel) (by decide +kernel)
theorem w_1025 : Jvm.Cond.methodLink "ProratehouseLaw" (188 : Nat) ({ cls := "ProratehouseLaw", name := "reject", desc := "(LProratehouse;I)I" } : Jvm.MethodName) ∈ lw_good := lw_g 1025 (by decide +kernel) (by decide +kernel)
theorem w_1026 : Jvm.Cond.static ({ cls := "ProratehouseLaw", name := "reject", desc := "(LProratehouse;I)I" } : Jvm.MethodName) ∈ lw_good := lw_g 1026 (by decide +kernel) (by decide +kernel)
theorem w_1027 : Jvm.Cond.codeWith ({ cls := "ProratehouseLaw", name := "reject", desc := "(LProratehouse;I)I" } : Jvm.MethodName) method_20_code (3 : Nat) (Option.some Jvm.ClassFile.FieldType.int) [((0 : Nat), (5 : Nat), (6 : Nat), (16 : Nat)), ((0 : Nat), (5 : Nat), (10 : Nat), (26 : Nat))] ∈ lw_good := lw_g 1027 (by decide +kernel) (by decide +kernel)
theorem w_1028 : Jvm.Cond.methodLink "ProratehouseLaw" (76 : Nat) ({ cls := "Proratehouse", name := "reject", desc := "(I)I" } : Jvm.MethodName) ∈ lw_good := lw_g 1028 (by decide +kernel) (by decide +kernel)
theorem w_1029 : Jvm.Cond.instanceMethod ({ cls := "Proratehouse", name := "reject", desc := "(I)I" } : Jvm.MethodName) ∈ lw_good := lw_g 1029 (by decide +kernel) (by decide +kernel)
theorem w_1030 : Jvm.Cond.selects "Proratehouse" ({ cls := "Proratehouse", name := "reject", desc := "(I)I" } : Jvm.MethodName) ({ cls := "Proratehouse", name := "reject", desc := "(I)I" } : Jvm.MethodName) ∈ lw_good := lw_g 1030 (by decide +kernel) (by decide +kernel)
theorem w_1031 : Jvm.Cond.code ({ cls := "Proratehouse", name := "reject", desc := "(I)I" } : Jvm.MethodName) prog_1_method_23_code (3 : Nat) (Option.some Jvm.ClassFile.FieldType.int) ∈ lw_good := lw_g 1031 (by decide +kernel) (by decide +kernel)
theorem w_1033 : Jvm.Cond.methodLink "ProratehouseLaw" (190 : Nat) ({ cls := "ProratehouseLaw", name := "rebill", desc := "(LProratehouse;I)I" } : Jvm.MethodName) ∈ lw_good := lw_g 1033 (by decide +kernel) (by decide +kernel)
theorem w_1034 : Jvm.Cond.static ({ cls := "ProratehouseLaw", name := "rebill", desc := "(LProratehouse;I)I" } : Jvm.MethodName) ∈ lw_good := lw_g 1034 (by decide +kernel) (by decide +kernel)
theorem w_1035 : Jvm.Cond.codeWith ({ cls := "ProratehouseLaw", name := "rebill", desc := "(LProratehouse;I)I" } : Jvm.MethodName) method_21_code (3 : Nat) (Option.some Jvm.ClassFile.FieldType.int) [((0 : Nat), (6 : Nat), (7 : Nat), (16 : Nat)), ((0 : Nat), (6 : Nat), (11 : Nat), (26 : Nat))] ∈ lw_good := lw_g 1035 (by decide +kernel) (by decide +kernel)
theorem w_1036 : Jvm.Cond.methodLink "ProratehouseLaw" (79 : Nat) ({ cls := "Proratehouse", name := "rebill", desc := "(I)V" } : Jvm.MethodName) ∈ lw_good := lw_g 1036 (by decide +kernel) (by decide +kernel)
theorem w_1037 : Jvm.Cond.instanceMethod ({ cls := "Proratehouse", name := "rebill", desc := "(I)V" } : Jvm.MethodName) ∈ lw_good := lw_g 1037 (by decide +kernel) (by decide +kernel)
theorem w_1038 : Jvm.Cond.selects "Proratehouse" ({ cls := "Proratehouse", name := "rebill", desc := "(I)V" } : Jvm.MethodName) ({ cls := "Proratehouse", name := "rebill", desc := "(I)V" } : Jvm.MethodName) ∈ lw_good := lw_g 1038 (by decide +kernel) (by decide +kernel)
theorem w_1039 : Jvm.Cond.code ({ cls := "Proratehouse", name := "rebill", desc := "(I)V" } : Jvm.MethodName) prog_1_method_24_code (3 : Nat) (Option.none : Option Jvm.ClassFile.FieldType) ∈ lw_good := lw_g 1039 (by decide +kernel) (by decide +kernel)
theorem w_1041 : Jvm.Cond.methodLink "ProratehouseLaw" (216 : Nat) ({ cls := "ProratehouseLaw", name := "pass", desc := "(LProratehouse;I)I" } : Jvm.MethodName) ∈ lw_good := lw_g 1041 (by decide +kernel) (by decide +kernel)
theorem w_1042 : Jvm.Cond.static ({ cls := "ProratehouseLaw", name := "pass", desc := "(LProratehouse;I)I" } : Jvm.MethodName) ∈ lw_good := lw_g 1042 (by decide +kernel) (by decide +kernel)
theorem w_1043 : Jvm.Cond.codeWith ({ cls := "ProratehouseLaw", name := "pass", desc := "(LProratehouse;I)I" } : Jvm.MethodName) method_19_code (3 : Nat) (Option.some Jvm.ClassFile.FieldType.int) [((0 : Nat), (5 : Nat), (6 : Nat), (19 : Nat)), ((0 : Nat), (5 : Nat), (10 : Nat), (26 : Nat))] ∈ lw_good := lw_g 1043 (by decide +kernel) (by decide +kernel)
theorem w_1044 : Jvm.Cond.methodLink "ProratehouseLaw" (73 : Nat) ({ cls := "Proratehouse", name := "pass", desc := "(I)I" } : Jvm.MethodName) ∈ lw_good := lw_g 1044 (by decide +kernel) (by decide +kernel)
theorem w_1045 : Jvm.Cond.instanceMethod ({ cls := "Proratehouse", name := "pass", desc := "(I)I" } : Jvm.MethodName) ∈ lw_good := lw_g 1045 (by decide +kernel) (by decide +kernel)
theorem w_1046 : Jvm.Cond.selects "Proratehouse" ({ cls := "Proratehouse", name := "pass", desc := "(I)I" } : Jvm.MethodName) ({ cls := "Proratehouse", name := "pass", desc := "(I)I" } : Jvm.MethodName) ∈ lw_good := lw_g 1046 (by decide +kernel) (by decide +kernel)
theorem w_1047 : Jvm.Cond.code ({ cls := "Proratehouse", name := "pass", desc := "(I)I" } : Jvm.MethodName) prog_1_method_21_code (2 : Nat) (Option.some Jvm.ClassFile.FieldType.int) ∈ lw_good := lw_g 1047 (by decide +kernel) (by decide +kernel)
theorem w_0 : Jvm.Cond.selects "java/lang/Throwable" ({ cls := "java/lang/Throwable", name := "fillInStackTrace", desc := "(I)Ljava/lang/Throwable;" } : Jvm.MethodName) ({ cls := "java/lang/Throwable", name := "fillInStackTrace", desc := "(I)Ljava/lang/Throwable;" } : Jvm.MethodName) ∈ lw_good := lw_g 0 (by decide +kernel) (by decide +kernel)
theorem w_1 : Jvm.Cond.selects "Proratehouse" ({ cls := "Proratehouse", name := "ticketAt", desc := "(I)LProratehouse$Ticket;" } : Jvm.MethodName) ({ cls := "Proratehouse", name := "ticketAt", desc := "(I)LProratehouse$Ticket;" } : Jvm.MethodName) ∈ lw_good := lw_g 1 (by decide +kernel) (by decide +kernel)
theorem w_2 : Jvm.Cond.selects "Proratehouse$Proration" ({ cls := "Proratehouse$Proration", name := "provisoOf", desc := "(III)I" } : Jvm.MethodName) ({ cls := "Proratehouse$Proration", name := "provisoOf", desc := "(III)I" } : Jvm.MethodName) ∈ lw_good := lw_g 2 (by decide +kernel) (by decide +kernel)
theorem w_3 : Jvm.Cond.selects "Proratehouse$Journey" ({ cls := "Proratehouse$Journey", name := "stopsBetween", desc := "(II)I" } : Jvm.MethodName) ({ cls := "Proratehouse$Journey", name := "stopsBetween", desc := "(II)I" } : Jvm.MethodName) ∈ lw_good := lw_g 3 (by decide +kernel) (by decide +kernel)
theorem w_4 : Jvm.Cond.selects "Proratehouse$Journey" ({ cls := "Proratehouse$Journey", name := "milesOfLegs", desc := "(LProratehouse$Pairs;II)I" } : Jvm.MethodName) ({ cls := "Proratehouse$Journey", name := "milesOfLegs", desc := "(LProratehouse$Pairs;II)I" } : Jvm.MethodName) ∈ lw_good := lw_g 4 (by decide +kernel) (by decide +kernel)
theorem w_5 : Jvm.Cond.selects "Proratehouse$Journey" ({ cls := "Proratehouse$Journey", name := "highestBetween", desc := "(LProratehouse$Tariff;II)I" } : Jvm.MethodName) ({ cls := "Proratehouse$Journey", name := "highestBetween", desc := "(LProratehouse$Tariff;II)I" } : Jvm.MethodName) ∈ lw_good := lw_g 5 (by decide +kernel) (by decide +kernel)
theorem w_6 : Jvm.Cond.selects "Proratehouse$Ways" ({ cls := "Proratehouse$Ways", name := "goOn", desc := "(III)V" } : Jvm.MethodName) ({ cls := "Proratehouse$Ways", name := "goOn", desc := "(III)V" } : Jvm.MethodName) ∈ lw_good := lw_g 6 (by decide +kernel) (by decide +kernel)
theorem w_7 : Jvm.Cond.selects "Proratehouse$Ways" ({ cls := "Proratehouse$Ways", name := "sumOfSet", desc := "(II)I" } : Jvm.MethodName) ({ cls := "Proratehouse$Ways", name := "sumOfSet", desc := "(II)I" } : Jvm.MethodName) ∈ lw_good := lw_g 7 (by decide +kernel) (by decide +kernel)
theorem w_8 : Jvm.Cond.selects "Proratehouse" ({ cls := "Proratehouse", name := "canBeIssued", desc := "()Z" } : Jvm.MethodName) ({ cls := "Proratehouse", name := "canBeIssued", desc := "()Z" } : Jvm.MethodName) ∈ lw_good := lw_g 8 (by decide +kernel) (by decide +kernel)
theorem w_9 : Jvm.Cond.selects "Proratehouse" ({ cls := "Proratehouse", name := "issued", desc := "(I)LProratehouse$Ticket;" } : Jvm.MethodName) ({ cls := "Proratehouse", name := "issued", desc := "(I)LProratehouse$Ticket;" } : Jvm.MethodName) ∈ lw_good := lw_g 9 (by decide +kernel) (by decide +kernel)
theorem w_10 : Jvm.Cond.selects "Proratehouse" ({ cls := "Proratehouse", name := "shareOut", desc := "(LProratehouse$Ticket;)V" } : Jvm.MethodName) ({ cls := "Proratehouse", name := "shareOut", desc := "(LProratehouse$Ticket;)V" } : Jvm.MethodName) ∈ lw_good := lw_g 10 (by decide +kernel) (by decide +kernel)
theorem w_11 : Jvm.Cond.selects "Proratehouse$Proration" ({ cls := "Proratehouse$Proration", name := "weightOf", desc := "(LProratehouse$Coupon;LProratehouse$Pairs;)I" } : Jvm.MethodName) ({ cls := "Proratehouse$Proration", name := "weightOf", desc := "(LProratehouse$Coupon;LProratehouse$Pairs;)I" } : Jvm.MethodName) ∈ lw_good := lw_g 11 (by decide +kernel) (by decide +kernel)
theorem w_12 : Jvm.Cond.selects "Proratehouse$Proration" ({ cls := "Proratehouse$Proration", name := "shareByWeights", desc := "(LProratehouse$Ticket;IIII)V" } : Jvm.MethodName) ({ cls := "Proratehouse$Proration", name := "shareByWeights", desc := "(LProratehouse$Ticket;IIII)V" } : Jvm.MethodName) ∈ lw_good := lw_g 12 (by decide +kernel) (by decide +kernel)
theorem w_13 : Jvm.Cond.selects "Proratehouse" ({ cls := "Proratehouse", name := "receive", desc := "(LProratehouse$Ticket;I)V" } : Jvm.MethodName) ({ cls := "Proratehouse", name := "receive", desc := "(LProratehouse$Ticket;I)V" } : Jvm.MethodName) ∈ lw_good := lw_g 13 (by decide +kernel) (by decide +kernel)
theorem w_14 : Jvm.Cond.selects "Proratehouse" ({ cls := "Proratehouse", name := "addCash", desc := "(IJ)V" } : Jvm.MethodName) ({ cls := "Proratehouse", name := "addCash", desc := "(IJ)V" } : Jvm.MethodName) ∈ lw_good := lw_g 14 (by decide +kernel) (by decide +kernel)
theorem w_15 : Jvm.Cond.selects "Proratehouse$Ticket" ({ cls := "Proratehouse$Ticket", name := "openAt", desc := "(I)LProratehouse$Coupon;" } : Jvm.MethodName) ({ cls := "Proratehouse$Ticket", name := "openAt", desc := "(I)LProratehouse$Coupon;" } : Jvm.MethodName) ∈ lw_good := lw_g 15 (by decide +kernel) (by decide +kernel)
theorem w_16 : Jvm.Cond.selects "Proratehouse$Clearing" ({ cls := "Proratehouse$Clearing", name := "forgetNets", desc := "()V" } : Jvm.MethodName) ({ cls := "Proratehouse$Clearing", name := "forgetNets", desc := "()V" } : Jvm.MethodName) ∈ lw_good := lw_g 16 (by decide +kernel) (by decide +kernel)
theorem w_17 : Jvm.Cond.selects "Proratehouse$Bill" ({ cls := "Proratehouse$Bill", name := "amountBack", desc := "()I" } : Jvm.MethodName) ({ cls := "Proratehouse$Bill", name := "amountBack", desc := "()I" } : Jvm.MethodName) ∈ lw_good := lw_g 17 (by decide +kernel) (by decide +kernel)
theorem w_18 : Jvm.Cond.selects "Proratehouse$Clearing" ({ cls := "Proratehouse$Clearing", name := "addToNets", desc := "(LProratehouse$Bill;I)V" } : Jvm.MethodName) ({ cls := "Proratehouse$Clearing", name := "addToNets", desc := "(LProratehouse$Bill;I)V" } : Jvm.MethodName) ∈ lw_good := lw_g 18 (by decide +kernel) (by decide +kernel)
theorem w_19 : Jvm.Cond.selects "Proratehouse" ({ cls := "Proratehouse", name := "moveNets", desc := "()V" } : Jvm.MethodName) ({ cls := "Proratehouse", name := "moveNets", desc := "()V" } : Jvm.MethodName) ∈ lw_good := lw_g 19 (by decide +kernel) (by decide +kernel)
theorem wn_50 : ("Proratehouse", 11, ({ cls := "Proratehouse$Tariff", name := "<init>", desc := "()V" } : Jvm.MethodName), "Proratehouse") ∈ lw_nest := List.mem_of_getElem? (i := 0) (by decide +kernel)
theorem wn_56 : ("Proratehouse$Tariff", 11, ({ cls := "Proratehouse$Pairs", name := "<init>", desc := "()V" } : Jvm.MethodName), "Proratehouse") ∈ lw_nest := List.mem_of_getElem? (i := 1) (by decide +kernel)
theorem wn_101 : ("Proratehouse$Proration", 11, ({ cls := "Proratehouse$Pairs", name := "<init>", desc := "()V" } : Jvm.MethodName), "Proratehouse") ∈ lw_nest := List.mem_of_getElem? (i := 2) (by decide +kernel)
theorem wn_119 : ("Proratehouse$Journey", 17, ({ cls := "Proratehouse$Leg", name := "<init>", desc := "()V" } : Jvm.MethodName), "Proratehouse") ∈ lw_nest := List.mem_of_getElem? (i := 3) (by decide +kernel)
theorem wn_152 : ("Proratehouse", 32, ({ cls := "Proratehouse$Ways", name := "<init>", desc := "()V" } : Jvm.MethodName), "Proratehouse") ∈ lw_nest := List.mem_of_getElem? (i := 4) (by decide +kernel)
theorem wn_176 : ("Proratehouse", 39, ({ cls := "Proratehouse$Clearing", name := "<init>", desc := "()V" } : Jvm.MethodName), "Proratehouse") ∈ lw_nest := List.mem_of_getElem? (i := 5) (by decide +kernel)
theorem wn_350 : ("Proratehouse$Pairs", 15, ({ cls := "Proratehouse", name := "isPlace", desc := "(I)Z" } : Jvm.MethodName), "Proratehouse") ∈ lw_nest := List.mem_of_getElem? (i := 6) (by decide +kernel)
theorem wn_531 : ("Proratehouse$Tariff", 38, ({ cls := "Proratehouse", name := "isPlace", desc := "(I)Z" } : Jvm.MethodName), "Proratehouse") ∈ lw_nest := List.mem_of_getElem? (i := 7) (by decide +kernel)
theorem wn_557 : ("Proratehouse$Proration", 26, ({ cls := "Proratehouse", name := "isCarrier", desc := "(I)Z" } : Jvm.MethodName), "Proratehouse") ∈ lw_nest := List.mem_of_getElem? (i := 8) (by decide +kernel)
theorem wn_558 : ("Proratehouse$Proration", 30, ({ cls := "Proratehouse", name := "isPlace", desc := "(I)Z" } : Jvm.MethodName), "Proratehouse") ∈ lw_nest := List.mem_of_getElem? (i := 9) (by decide +kernel)
theorem wn_669 : ("Proratehouse$Ways", 41, ({ cls := "Proratehouse", name := "isWithin", desc := "(III)Z" } : Jvm.MethodName), "Proratehouse") ∈ lw_nest := List.mem_of_getElem? (i := 10) (by decide +kernel)
theorem wn_697 : ("Proratehouse$Journey", 38, ({ cls := "Proratehouse", name := "isWithin", desc := "(III)Z" } : Jvm.MethodName), "Proratehouse") ∈ lw_nest := List.mem_of_getElem? (i := 11) (by decide +kernel)
theorem wn_967 : ("Proratehouse$Clearing", 28, ({ cls := "Proratehouse", name := "isCarrier", desc := "(I)Z" } : Jvm.MethodName), "Proratehouse") ∈ lw_nest := List.mem_of_getElem? (i := 12) (by decide +kernel)
theorem ws_296 : ("Proratehouse", 63, "no such place") ∈ lw_str := List.mem_of_getElem? (i := 0) (by decide +kernel)
theorem ws_335 : ("Proratehouse", 74, "the same place twice, or miles out of range") ∈ lw_str := List.mem_of_getElem? (i := 1) (by decide +kernel)
theorem ws_366 : ("Proratehouse", 201, "no such carrier") ∈ lw_str := List.mem_of_getElem? (i := 2) (by decide +kernel)
theorem ws_382 : ("Proratehouse", 351, "what is out of range") ∈ lw_str := List.mem_of_getElem? (i := 3) (by decide +kernel)
theorem ws_428 : ("Proratehouse", 278, "no such ticket") ∈ lw_str := List.mem_of_getElem? (i := 4) (by decide +kernel)
theorem ws_437 : ("Proratehouse", 233, "no such ticket or coupon") ∈ lw_str := List.mem_of_getElem? (i := 5) (by decide +kernel)
theorem ws_446 : ("Proratehouse", 316, "no such bill") ∈ lw_str := List.mem_of_getElem? (i := 6) (by decide +kernel)
theorem ws_467 : ("Proratehouse", 88, "the same place twice, or out of range") ∈ lw_str := List.mem_of_getElem? (i := 7) (by decide +kernel)
theorem ws_477 : ("Proratehouse", 96, "no more fares can be filed") ∈ lw_str := List.mem_of_getElem? (i := 8) (by decide +kernel)
theorem ws_526 : ("Proratehouse", 125, "tax out of range") ∈ lw_str := List.mem_of_getElem? (i := 9) (by decide +kernel)
theorem ws_539 : ("Proratehouse", 131, "the same place twice, or weight out of range") ∈ lw_str := List.mem_of_getElem? (i := 10) (by decide +kernel)
theorem ws_547 : ("Proratehouse", 139, "no such carrier or place") ∈ lw_str := List.mem_of_getElem? (i := 11) (by decide +kernel)
theorem ws_548 : ("Proratehouse", 141, "the same place twice, or cents out of range") ∈ lw_str := List.mem_of_getElem? (i := 12) (by decide +kernel)
theorem ws_566 : ("Proratehouse", 120, "unit out of range") ∈ lw_str := List.mem_of_getElem? (i := 13) (by decide +kernel)
theorem ws_574 : ("Proratehouse", 147, "hundredths out of range") ∈ lw_str := List.mem_of_getElem? (i := 14) (by decide +kernel)
theorem ws_588 : ("Proratehouse", 152, "no such place or carrier") ∈ lw_str := List.mem_of_getElem? (i := 15) (by decide +kernel)
theorem ws_589 : ("Proratehouse", 157, "the same place twice, or day out of range") ∈ lw_str := List.mem_of_getElem? (i := 16) (by decide +kernel)
theorem ws_599 : ("Proratehouse", 167, "the journey does not go on by this leg") ∈ lw_str := List.mem_of_getElem? (i := 17) (by decide +kernel)
theorem ws_698 : ("Proratehouse", 179, "no such point") ∈ lw_str := List.mem_of_getElem? (i := 18) (by decide +kernel)
theorem ws_699 : ("Proratehouse", 181, "a part ends at a later point") ∈ lw_str := List.mem_of_getElem? (i := 19) (by decide +kernel)
theorem ws_716 : ("Proratehouse", 207, "no ticket can be issued for the journey") ∈ lw_str := List.mem_of_getElem? (i := 20) (by decide +kernel)
theorem ws_866 : ("Proratehouse", 283, "the ticket has no OPEN coupon") ∈ lw_str := List.mem_of_getElem? (i := 21) (by decide +kernel)
theorem ws_887 : ("Proratehouse", 296, "the ticket can't be reissued for the journey") ∈ lw_str := List.mem_of_getElem? (i := 22) (by decide +kernel)
theorem ws_898 : ("Proratehouse", 274, "no such ticket, coupon or carrier") ∈ lw_str := List.mem_of_getElem? (i := 23) (by decide +kernel)
theorem ws_899 : ("Proratehouse", 276, "the coupon is not OPEN, or is by that carrier") ∈ lw_str := List.mem_of_getElem? (i := 24) (by decide +kernel)
theorem ws_907 : ("Proratehouse", 243, "the coupon is not OPEN, or its day is to come") ∈ lw_str := List.mem_of_getElem? (i := 25) (by decide +kernel)
theorem ws_1032 : ("Proratehouse", 327, "the bill is not PAID, or by an earlier clearing") ∈ lw_str := List.mem_of_getElem? (i := 26) (by decide +kernel)
theorem ws_1040 : ("Proratehouse", 332, "the bill is not RETURNED") ∈ lw_str := List.mem_of_getElem? (i := 27) (by decide +kernel)
theorem ws_1048 : ("Proratehouse", 298, "days out of range") ∈ lw_str := List.mem_of_getElem? (i := 28) (by decide +kernel)
theorem ws_1049 : ("Proratehouse", 300, "there is no such day") ∈ lw_str := List.mem_of_getElem? (i := 29) (by decide +kernel)
theorem ko_X0 : KO 0 RX0 TX0 := ⟨rfl, lw_gs [931, 933, 935, 937, 939, 941] (by decide +kernel) (by decide +kernel), tyX0_ok, nmX0, by decide⟩
theorem kd_X0 : KD 0 := by unfold KD; decide +kernel
theorem ko_X1 : KO 1 RX1 TX1 := ⟨rfl, lw_gs [190, 192, 194, 196, 198] (by decide +kernel) (by decide +kernel), tyX1_ok, nmX1, by decide⟩
theorem kd_X1 : KD 1 := by unfold KD; decide +kernel
theorem ko_X2 : KO 2 RX2 TX2 := ⟨rfl, lw_gs [792, 794, 796, 798, 800, 802, 804, 806, 808] (by decide +kernel) (by decide +kernel), tyX2_ok, nmX2, by decide⟩
theorem kd_X2 : KD 2 := by unfold KD; decide +kernel
theorem ko_X3 : KO 3 RX3 TX3 := ⟨rfl, lw_gs [499, 501, 503, 505, 507, 509, 511] (by decide +kernel) (by decide +kernel), tyX3_ok, nmX3, by decide⟩
theorem kd_X3 : KD 3 := by unfold KD; decide +kernel
theorem ko_X4 : KO 4 RX4 TX4 := ⟨rfl, lw_gs [145, 147] (by decide +kernel) (by decide +kernel), tyX4_ok, nmX4, by decide⟩
theorem kd_X4 : KD 4 := by unfold KD; decide +kernel
theorem ko_X5 : KO 5 RX5 TX5 := ⟨rfl, lw_gs [132, 134, 136, 138] (by decide +kernel) (by decide +kernel), tyX5_ok, nmX5, by decide⟩
theorem kd_X5 : KD 5 := by unfold KD; decide +kernel
theorem ko_X6 : KO 6 RX6 TX6 := ⟨rfl, lw_gs [61] (by decide +kernel) (by decide +kernel), tyX6_ok, nmX6, by decide⟩
theorem kd_X6 : KD 6 := by unfold KD; decide +kernel
theorem ko_X7 : KO 7 RX7 TX7 := ⟨rfl, lw_gs [105, 107] (by decide +kernel) (by decide +kernel), tyX7_ok, nmX7, by decide⟩
theorem kd_X7 : KD 7 := by unfold KD; decide +kernel
theorem ko_X8 : KO 8 RX8 TX8 := ⟨rfl, lw_gs [79, 81, 83, 85, 87, 89, 91] (by decide +kernel) (by decide +kernel), tyX8_ok, nmX8, by decide⟩
theorem kd_X8 : KD 8 := by unfold KD; decide +kernel
theorem ko_X9 : KO 9 RX9 TX9 := ⟨rfl, lw_gs [741, 743, 745, 747, 749, 751, 753, 755] (by decide +kernel) (by decide +kernel), tyX9_ok, nmX9, by decide⟩
theorem kd_X9 : KD 9 := by unfold KD; decide +kernel
theorem ko_X10 : KO 10 RX10 TX10 := ⟨rfl, lw_gs [163, 165, 167, 169, 171] (by decide +kernel) (by decide +kernel), tyX10_ok, nmX10, by decide⟩
theorem kd_X10 : KD 10 := by unfold KD; decide +kernel
theorem ko_X11 : KO 11 RX11 TX11 := ⟨rfl, lw_gs [215, 217, 219, 221, 223, 225, 227, 229, 231, 233, 235] (by decide +kernel) (by decide +kernel), tyX11_ok, nmX11, by decide⟩
theorem kd_X11 : KD 11 := by unfold KD; decide +kernel
def mX0_init : MI := (yX0_init, cX0_init, 4, none, [], { frames := 1, cells := 0, slots := 0, locals := 24 })
theorem mw_X0_init : MW mX0_init := ⟨w_915, w_39⟩
theorem ar_X0_init : Ar mX0_init.1 3 := ⟨⟨by decide +kernel, by decide +kernel⟩, by decide +kernel⟩
def mX0_isOf : MI := (yX0_isOf, cX0_isOf, 2, (Option.some Jvm.ClassFile.FieldType.boolean), [], { frames := 1, cells := 0, slots := 0, locals := 24 })
theorem mw_X0_isOf : MW mX0_isOf := ⟨w_1015, w_39⟩
theorem ar_X0_isOf : Ar mX0_isOf.1 1 := ⟨⟨by decide +kernel, by decide +kernel⟩, by decide +kernel⟩
def mX0_isToBeSettled : MI := (yX0_isToBeSettled, cX0_isToBeSettled, 1, (Option.some Jvm.ClassFile.FieldType.boolean), [], { frames := 1, cells := 0, slots := 0, locals := 24 })
theorem mw_X0_isToBeSettled : MW mX0_isToBeSettled := ⟨w_962, w_39⟩
theorem ar_X0_isToBeSettled : Ar mX0_isToBeSettled.1 0 := ⟨⟨by decide +kernel, by decide +kernel⟩, by decide +kernel⟩
def mX0_isAsLeftBy : MI := (yX0_isAsLeftBy, cX0_isAsLeftBy, 2, (Option.some Jvm.ClassFile.FieldType.boolean), [], { frames := 2, cells := 0, slots := 0, locals := 44 })
theorem mw_X0_isAsLeftBy : MW mX0_isAsLeftBy := ⟨w_1019, w_39⟩
theorem ar_X0_isAsLeftBy : Ar mX0_isAsLeftBy.1 1 := ⟨⟨by decide +kernel, by decide +kernel⟩, by decide +kernel⟩
def mX0_amountBack : MI := (yX0_amountBack, cX0_amountBack, 1, (Option.some Jvm.ClassFile.FieldType.int), [], { frames := 1, cells := 0, slots := 0, locals := 24 })
theorem mw_X0_amountBack : MW mX0_amountBack := ⟨w_975, w_39⟩
theorem ar_X0_amountBack : Ar mX0_amountBack.1 0 := ⟨⟨by decide +kernel, by decide +kernel⟩, by decide +kernel⟩
def mX0_settle : MI := (yX0_settle, cX0_settle, 2, (Option.some Jvm.ClassFile.FieldType.int), [], { frames := 2, cells := 0, slots := 0, locals := 44 })
theorem mw_X0_settle : MW mX0_settle := ⟨w_971, w_39⟩
theorem ar_X0_settle : Ar mX0_settle.1 1 := ⟨⟨by decide +kernel, by decide +kernel⟩, by decide +kernel⟩
def mX0_undo : MI := (yX0_undo, cX0_undo, 1, (Option.some Jvm.ClassFile.FieldType.int), [], { frames := 2, cells := 0, slots := 0, locals := 44 })
theorem mw_X0_undo : MW mX0_undo := ⟨w_1024, w_39⟩
theorem ar_X0_undo : Ar mX0_undo.1 0 := ⟨⟨by decide +kernel, by decide +kernel⟩, by decide +kernel⟩
def mX0_gotByPayee : MI := (yX0_gotByPayee, cX0_gotByPayee, 1, (Option.some Jvm.ClassFile.FieldType.int), [], { frames := 1, cells := 0, slots := 0, locals := 24 })
theorem mw_X0_gotByPayee : MW mX0_gotByPayee := ⟨w_401, w_39⟩
theorem ar_X0_gotByPayee : Ar mX0_gotByPayee.1 0 := ⟨⟨by decide +kernel, by decide +kernel⟩, by decide +kernel⟩
def mX1_init : MI := (yX1_init, cX1_init, 1, none, [], { frames := 1, cells := 2, slots := 245, locals := 24 })
theorem mw_X1_init : MW mX1_init := ⟨w_178, w_28⟩
theorem ar_X1_init : Ar mX1_init.1 0 := ⟨⟨by decide +kernel, by decide +kernel⟩, by decide +kernel⟩
def mX1_addBill : MI := (yX1_addBill, cX1_addBill, 4, (Option.some Jvm.ClassFile.FieldType.int), [], { frames := 2, cells := 1, slots := 6, locals := 47 })
theorem mw_X1_addBill : MW mX1_addBill := ⟨w_911, w_28⟩
theorem ar_X1_addBill : Ar mX1_addBill.1 3 := ⟨⟨by decide +kernel, by decide +kernel⟩, by decide +kernel⟩
def mX1_billAt : MI := (yX1_billAt, cX1_billAt, 2, (Option.some (Jvm.ClassFile.FieldType.object "Proratehouse$Bill")), [], { frames := 1, cells := 0, slots := 0, locals := 24 })
theorem mw_X1_billAt : MW mX1_billAt := ⟨w_397, w_28⟩
theorem ar_X1_billAt : Ar mX1_billAt.1 1 := ⟨⟨by decide +kernel, by decide +kernel⟩, by decide +kernel⟩
def mX11_isCarrier : MI := (yX11_isCarrier, cX11_isCarrier, 1, (Option.some Jvm.ClassFile.FieldType.boolean), [], { frames := 1, cells := 0, slots := 0, locals := 24 })
theorem mw_X11_isCarrier : MW mX11_isCarrier := ⟨w_365, w_21⟩
theorem ar_X11_isCarrier : Ar mX11_isCarrier.1 1 := ⟨⟨by decide +kernel, by decide +kernel⟩, by decide +kernel⟩
def mX1_isInDefault : MI := (yX1_isInDefault, cX1_isInDefault, 2, (Option.some Jvm.ClassFile.FieldType.boolean), [], { frames := 2, cells := 0, slots := 0, locals := 44 })
theorem mw_X1_isInDefault : MW mX1_isInDefault := ⟨w_966, w_28⟩
theorem ar_X1_isInDefault : Ar mX1_isInDefault.1 1 := ⟨⟨by decide +kernel, by decide +kernel⟩, by decide +kernel⟩
def mX1_putDefault : MI := (yX1_putDefault, cX1_putDefault, 3, none, [], { frames := 2, cells := 0, slots := 0, locals := 44 })
theorem mw_X1_putDefault : MW mX1_putDefault := ⟨w_1007, w_28⟩
theorem ar_X1_putDefault : Ar mX1_putDefault.1 2 := ⟨⟨by decide +kernel, by decide +kernel⟩, by decide +kernel⟩
def mX1_forgetNets : MI := (yX1_forgetNets, cX1_forgetNets, 2, none, [], { frames := 1, cells := 0, slots := 0, locals := 24 })
theorem mw_X1_forgetNets : MW mX1_forgetNets := ⟨w_958, w_28⟩
theorem ar_X1_forgetNets : Ar mX1_forgetNets.1 0 := ⟨⟨by decide +kernel, by decide +kernel⟩, by decide +kernel⟩
def mX1_addToNets : MI := (yX1_addToNets, cX1_addToNets, 3, none, [], { frames := 2, cells := 0, slots := 0, locals := 44 })
theorem mw_X1_addToNets : MW mX1_addToNets := ⟨w_979, w_28⟩
theorem ar_X1_addToNets : Ar mX1_addToNets.1 2 := ⟨⟨by decide +kernel, by decide +kernel⟩, by decide +kernel⟩
def mX1_settle : MI := (yX1_settle, cX1_settle, 3, none, [], { frames := 3, cells := 0, slots := 0, locals := 66 })
theorem mw_X1_settle : MW mX1_settle := ⟨w_954, w_28⟩
theorem ar_X1_settle : Ar mX1_settle.1 0 := ⟨⟨by decide +kernel, by decide +kernel⟩, by decide +kernel⟩
def mX1_undo : MI := (yX1_undo, cX1_undo, 5, (Option.some Jvm.ClassFile.FieldType.int), [], { frames := 3, cells := 0, slots := 0, locals := 66 })
theorem mw_X1_undo : MW mX1_undo := ⟨w_1011, w_28⟩
theorem ar_X1_undo : Ar mX1_undo.1 1 := ⟨⟨by decide +kernel, by decide +kernel⟩, by decide +kernel⟩
def mX1_netOf : MI := (yX1_netOf, cX1_netOf, 2, (Option.some Jvm.ClassFile.FieldType.long), [], { frames := 2, cells := 0, slots := 0, locals := 44 })
theorem mw_X1_netOf : MW mX1_netOf := ⟨w_987, w_28⟩
theorem ar_X1_netOf : Ar mX1_netOf.1 1 := ⟨⟨by decide +kernel, by decide +kernel⟩, by decide +kernel⟩
def mX1_sumOfNetsAboveZero : MI := (yX1_sumOfNetsAboveZero, cX1_sumOfNetsAboveZero, 4, (Option.some Jvm.ClassFile.FieldType.long), [], { frames := 3, cells := 0, slots := 0, locals := 65 })
theorem mw_X1_sumOfNetsAboveZero : MW mX1_sumOfNetsAboveZero := ⟨w_991, w_28⟩
theorem ar_X1_sumOfNetsAboveZero : Ar mX1_sumOfNetsAboveZero.1 0 := ⟨⟨by decide +kernel, by decide +kernel⟩, by decide +kernel⟩
def mX1_gotBy : MI := (yX1_gotBy, cX1_gotBy, 6, (Option.some Jvm.ClassFile.FieldType.long), [], { frames := 2, cells := 0, slots := 0, locals := 45 })
theorem mw_X1_gotBy : MW mX1_gotBy := ⟨w_393, w_28⟩
theorem ar_X1_gotBy : Ar mX1_gotBy.1 1 := ⟨⟨by decide +kernel, by decide +kernel⟩, by decide +kernel⟩
def mX2_init : MI := (yX2_init, cX2_init, 3, none, [], { frames := 1, cells := 0, slots := 0, locals := 24 })
theorem mw_X2_init : MW mX2_init := ⟨w_768, w_38⟩
theorem ar_X2_init : Ar mX2_init.1 2 := ⟨⟨by decide +kernel, by decide +kernel⟩, by decide +kernel⟩
def mX3_init : MI := (yX3_init, cX3_init, 7, none, [], { frames := 1, cells := 0, slots := 0, locals := 24 })
theorem mw_X3_init : MW mX3_init := ⟨w_488, w_35⟩
theorem ar_X3_init : Ar mX3_init.1 6 := ⟨⟨by decide +kernel, by decide +kernel⟩, by decide +kernel⟩
def mX3_isFor : MI := (yX3_isFor, cX3_isFor, 4, (Option.some Jvm.ClassFile.FieldType.boolean), [], { frames := 1, cells := 0, slots := 0, locals := 24 })
theorem mw_X3_isFor : MW mX3_isFor := ⟨w_634, w_35⟩
theorem ar_X3_isFor : Ar mX3_isFor.1 3 := ⟨⟨by decide +kernel, by decide +kernel⟩, by decide +kernel⟩
def mX5_init : MI := (yX5_init, cX5_init, 1, none, [], { frames := 1, cells := 0, slots := 0, locals := 24 })
theorem mw_X5_init : MW mX5_init := ⟨w_121, w_26⟩
theorem ar_X5_init : Ar mX5_init.1 0 := ⟨⟨by decide +kernel, by decide +kernel⟩, by decide +kernel⟩
def mX4_init : MI := (yX4_init, cX4_init, 2, none, [], { frames := 2, cells := 9, slots := 40, locals := 44 })
theorem mw_X4_init : MW mX4_init := ⟨w_114, w_25⟩
theorem ar_X4_init : Ar mX4_init.1 0 := ⟨⟨by decide +kernel, by decide +kernel⟩, by decide +kernel⟩
def mX4_legAt : MI := (yX4_legAt, cX4_legAt, 2, (Option.some (Jvm.ClassFile.FieldType.object "Proratehouse$Leg")), [], { frames := 1, cells := 0, slots := 0, locals := 24 })
theorem mw_X4_legAt : MW mX4_legAt := ⟨w_597, w_25⟩
theorem ar_X4_legAt : Ar mX4_legAt.1 1 := ⟨⟨by decide +kernel, by decide +kernel⟩, by decide +kernel⟩
def mX4_goesOn : MI := (yX4_goesOn, cX4_goesOn, 4, (Option.some Jvm.ClassFile.FieldType.boolean), [], { frames := 2, cells := 0, slots := 0, locals := 45 })
theorem mw_X4_goesOn : MW mX4_goesOn := ⟨w_593, w_25⟩
theorem ar_X4_goesOn : Ar mX4_goesOn.1 2 := ⟨⟨by decide +kernel, by decide +kernel⟩, by decide +kernel⟩
def mX4_add : MI := (yX4_add, cX4_add, 6, (Option.some Jvm.ClassFile.FieldType.int), [], { frames := 1, cells := 0, slots := 0, locals := 24 })
theorem mw_X4_add : MW mX4_add := ⟨w_603, w_25⟩
theorem ar_X4_add : Ar mX4_add.1 4 := ⟨⟨by decide +kernel, by decide +kernel⟩, by decide +kernel⟩
def mX4_beginAnew : MI := (yX4_beginAnew, cX4_beginAnew, 2, (Option.some Jvm.ClassFile.FieldType.int), [], { frames := 1, cells := 0, slots := 0, locals := 24 })
theorem mw_X4_beginAnew : MW mX4_beginAnew := ⟨w_839, w_25⟩
theorem ar_X4_beginAnew : Ar mX4_beginAnew.1 0 := ⟨⟨by decide +kernel, by decide +kernel⟩, by decide +kernel⟩
def mX4_hasLegBefore : MI := (yX4_hasLegBefore, cX4_hasLegBefore, 3, (Option.some Jvm.ClassFile.FieldType.boolean), [], { frames := 2, cells := 0, slots := 0, locals := 45 })
theorem mw_X4_hasLegBefore : MW mX4_hasLegBefore := ⟨w_715, w_25⟩
theorem ar_X4_hasLegBefore : Ar mX4_hasLegBefore.1 1 := ⟨⟨by decide +kernel, by decide +kernel⟩, by decide +kernel⟩
def mX11_isWithin : MI := (yX11_isWithin, cX11_isWithin, 3, (Option.some Jvm.ClassFile.FieldType.boolean), [], { frames := 1, cells := 0, slots := 0, locals := 24 })
theorem mw_X11_isWithin : MW mX11_isWithin := ⟨w_325, w_21⟩
theorem ar_X11_isWithin : Ar mX11_isWithin.1 3 := ⟨⟨by decide +kernel, by decide +kernel⟩, by decide +kernel⟩
def mX4_isPoint : MI := (yX4_isPoint, cX4_isPoint, 2, (Option.some Jvm.ClassFile.FieldType.boolean), [], { frames := 2, cells := 0, slots := 0, locals := 46 })
theorem mw_X4_isPoint : MW mX4_isPoint := ⟨w_696, w_25⟩
theorem ar_X4_isPoint : Ar mX4_isPoint.1 1 := ⟨⟨by decide +kernel, by decide +kernel⟩, by decide +kernel⟩
def mX4_placeAt : MI := (yX4_placeAt, cX4_placeAt, 3, (Option.some Jvm.ClassFile.FieldType.int), [], { frames := 2, cells := 0, slots := 0, locals := 45 })
theorem mw_X4_placeAt : MW mX4_placeAt := ⟨w_622, w_25⟩
theorem ar_X4_placeAt : Ar mX4_placeAt.1 1 := ⟨⟨by decide +kernel, by decide +kernel⟩, by decide +kernel⟩
def mX4_isStop : MI := (yX4_isStop, cX4_isStop, 4, (Option.some Jvm.ClassFile.FieldType.boolean), [], { frames := 2, cells := 0, slots := 0, locals := 45 })
theorem mw_X4_isStop : MW mX4_isStop := ⟨w_642, w_25⟩
theorem ar_X4_isStop : Ar mX4_isStop.1 1 := ⟨⟨by decide +kernel, by decide +kernel⟩, by decide +kernel⟩
def mX8_fareAt : MI := (yX8_fareAt, cX8_fareAt, 3, (Option.some (Jvm.ClassFile.FieldType.object "Proratehouse$Fare")), [], { frames := 1, cells := 0, slots := 0, locals := 24 })
theorem mw_X8_fareAt : MW mX8_fareAt := ⟨w_630, w_22⟩
theorem ar_X8_fareAt : Ar mX8_fareAt.1 1 := ⟨⟨by decide +kernel, by decide +kernel⟩, by decide +kernel⟩
def mX8_lowestFare : MI := (yX8_lowestFare, cX8_lowestFare, 7, (Option.some Jvm.ClassFile.FieldType.int), [], { frames := 2, cells := 0, slots := 0, locals := 47 })
theorem mw_X8_lowestFare : MW mX8_lowestFare := ⟨w_626, w_22⟩
theorem ar_X8_lowestFare : Ar mX8_lowestFare.1 3 := ⟨⟨by decide +kernel, by decide +kernel⟩, by decide +kernel⟩
def mX4_stopsBetween : MI := (yX4_stopsBetween, cX4_stopsBetween, 5, (Option.some Jvm.ClassFile.FieldType.int), [], { frames := 3, cells := 0, slots := 0, locals := 68 })
theorem mw_X4_stopsBetween : MW mX4_stopsBetween := ⟨w_638, w_25⟩
theorem ar_X4_stopsBetween : Ar mX4_stopsBetween.1 2 := ⟨⟨by decide +kernel, by decide +kernel⟩, by decide +kernel⟩
def mX11_isPlace : MI := (yX11_isPlace, cX11_isPlace, 1, (Option.some Jvm.ClassFile.FieldType.boolean), [], { frames := 1, cells := 0, slots := 0, locals := 24 })
theorem mw_X11_isPlace : MW mX11_isPlace := ⟨w_254, w_21⟩
theorem ar_X11_isPlace : Ar mX11_isPlace.1 1 := ⟨⟨by decide +kernel, by decide +kernel⟩, by decide +kernel⟩
def mX6_get : MI := (yX6_get, cX6_get, 3, (Option.some Jvm.ClassFile.FieldType.int), [], { frames := 2, cells := 0, slots := 0, locals := 44 })
theorem mw_X6_get : MW mX6_get := ⟨w_349, w_23⟩
theorem ar_X6_get : Ar mX6_get.1 2 := ⟨⟨by decide +kernel, by decide +kernel⟩, by decide +kernel⟩
def mX4_milesOfLegs : MI := (yX4_milesOfLegs, cX4_milesOfLegs, 7, (Option.some Jvm.ClassFile.FieldType.int), [], { frames := 3, cells := 0, slots := 0, locals := 66 })
theorem mw_X4_milesOfLegs : MW mX4_milesOfLegs := ⟨w_646, w_25⟩
theorem ar_X4_milesOfLegs : Ar mX4_milesOfLegs.1 3 := ⟨⟨by decide +kernel, by decide +kernel⟩, by decide +kernel⟩
def mX8_surcharge : MI := (yX8_surcharge, cX8_surcharge, 7, (Option.some Jvm.ClassFile.FieldType.int), [], { frames := 3, cells := 0, slots := 0, locals := 66 })
theorem mw_X8_surcharge : MW mX8_surcharge := ⟨w_651, w_22⟩
theorem ar_X8_surcharge : Ar mX8_surcharge.1 3 := ⟨⟨by decide +kernel, by decide +kernel⟩, by decide +kernel⟩
def mX4_highestBetween : MI := (yX4_highestBetween, cX4_highestBetween, 6, (Option.some Jvm.ClassFile.FieldType.int), [], { frames := 3, cells := 0, slots := 0, locals := 73 })
theorem mw_X4_highestBetween : MW mX4_highestBetween := ⟨w_656, w_25⟩
theorem ar_X4_highestBetween : Ar mX4_highestBetween.1 3 := ⟨⟨by decide +kernel, by decide +kernel⟩, by decide +kernel⟩
def mX8_roundedUp : MI := (yX8_roundedUp, cX8_roundedUp, 7, (Option.some Jvm.ClassFile.FieldType.int), [], { frames := 1, cells := 0, slots := 0, locals := 24 })
theorem mw_X8_roundedUp : MW mX8_roundedUp := ⟨w_663, w_22⟩
theorem ar_X8_roundedUp : Ar mX8_roundedUp.1 2 := ⟨⟨by decide +kernel, by decide +kernel⟩, by decide +kernel⟩
def mX4_priceOfPart : MI := (yX4_priceOfPart, cX4_priceOfPart, 8, (Option.some Jvm.ClassFile.FieldType.int), [], { frames := 4, cells := 0, slots := 0, locals := 98 })
theorem mw_X4_priceOfPart : MW mX4_priceOfPart := ⟨w_618, w_25⟩
theorem ar_X4_priceOfPart : Ar mX4_priceOfPart.1 3 := ⟨⟨by decide +kernel, by decide +kernel⟩, by decide +kernel⟩
def mX6_init : MI := (yX6_init, cX6_init, 1, none, [], { frames := 1, cells := 1, slots := 100, locals := 24 })
theorem mw_X6_init : MW mX6_init := ⟨w_58, w_23⟩
theorem ar_X6_init : Ar mX6_init.1 0 := ⟨⟨by decide +kernel, by decide +kernel⟩, by decide +kernel⟩
def mX6_put : MI := (yX6_put, cX6_put, 5, (Option.some Jvm.ClassFile.FieldType.int), [], { frames := 3, cells := 0, slots := 0, locals := 66 })
theorem mw_X6_put : MW mX6_put := ⟨w_345, w_23⟩
theorem ar_X6_put : Ar mX6_put.1 3 := ⟨⟨by decide +kernel, by decide +kernel⟩, by decide +kernel⟩
def mX7_init : MI := (yX7_init, cX7_init, 2, none, [], { frames := 2, cells := 3, slots := 601, locals := 44 })
theorem mw_X7_init : MW mX7_init := ⟨w_98, w_24⟩
theorem ar_X7_init : Ar mX7_init.1 0 := ⟨⟨by decide +kernel, by decide +kernel⟩, by decide +kernel⟩
def mX7_provisoOf : MI := (yX7_provisoOf, cX7_provisoOf, 4, (Option.some Jvm.ClassFile.FieldType.int), [], { frames := 2, cells := 0, slots := 0, locals := 44 })
theorem mw_X7_provisoOf : MW mX7_provisoOf := ⟨w_556, w_24⟩
theorem ar_X7_provisoOf : Ar mX7_provisoOf.1 3 := ⟨⟨by decide +kernel, by decide +kernel⟩, by decide +kernel⟩
def mX7_putProviso : MI := (yX7_putProviso, cX7_putProviso, 6, (Option.some Jvm.ClassFile.FieldType.int), [], { frames := 3, cells := 0, slots := 0, locals := 67 })
theorem mw_X7_putProviso : MW mX7_putProviso := ⟨w_552, w_24⟩
theorem ar_X7_putProviso : Ar mX7_putProviso.1 4 := ⟨⟨by decide +kernel, by decide +kernel⟩, by decide +kernel⟩
def mX7_weightOf : MI := (yX7_weightOf, cX7_weightOf, 4, (Option.some Jvm.ClassFile.FieldType.int), [], { frames := 3, cells := 0, slots := 0, locals := 66 })
theorem mw_X7_weightOf : MW mX7_weightOf := ⟨w_827, w_24⟩
theorem ar_X7_weightOf : Ar mX7_weightOf.1 2 := ⟨⟨by decide +kernel, by decide +kernel⟩, by decide +kernel⟩
def mX9_couponAt : MI := (yX9_couponAt, cX9_couponAt, 2, (Option.some (Jvm.ClassFile.FieldType.object "Proratehouse$Coupon")), [], { frames := 1, cells := 0, slots := 0, locals := 24 })
theorem mw_X9_couponAt : MW mX9_couponAt := ⟨w_413, w_37⟩
theorem ar_X9_couponAt : Ar mX9_couponAt.1 1 := ⟨⟨by decide +kernel, by decide +kernel⟩, by decide +kernel⟩
def mX7_shareByWeights : MI := (yX7_shareByWeights, cX7_shareByWeights, 10, none, [], { frames := 2, cells := 0, slots := 0, locals := 45 })
theorem mw_X7_shareByWeights : MW mX7_shareByWeights := ⟨w_835, w_24⟩
theorem ar_X7_shareByWeights : Ar mX7_shareByWeights.1 5 := ⟨⟨by decide +kernel, by decide +kernel⟩, by decide +kernel⟩
def mX7_share : MI := (yX7_share, cX7_share, 11, (Option.some Jvm.ClassFile.FieldType.int), [], { frames := 4, cells := 0, slots := 0, locals := 89 })
theorem mw_X7_share : MW mX7_share := ⟨w_822, w_24⟩
theorem ar_X7_share : Ar mX7_share.1 5 := ⟨⟨by decide +kernel, by decide +kernel⟩, by decide +kernel⟩
def mX8_init : MI := (yX8_init, cX8_init, 1, none, [], { frames := 2, cells := 5, slots := 161, locals := 44 })
theorem mw_X8_init : MW mX8_init := ⟨w_52, w_22⟩
theorem ar_X8_init : Ar mX8_init.1 0 := ⟨⟨by decide +kernel, by decide +kernel⟩, by decide +kernel⟩
def mX8_file : MI := (yX8_file, cX8_file, 2, (Option.some Jvm.ClassFile.FieldType.int), [], { frames := 1, cells := 0, slots := 0, locals := 24 })
theorem mw_X8_file : MW mX8_file := ⟨w_517, w_22⟩
theorem ar_X8_file : Ar mX8_file.1 1 := ⟨⟨by decide +kernel, by decide +kernel⟩, by decide +kernel⟩
def mX8_putTaxes : MI := (yX8_putTaxes, cX8_putTaxes, 4, none, [], { frames := 2, cells := 0, slots := 0, locals := 44 })
theorem mw_X8_putTaxes : MW mX8_putTaxes := ⟨w_530, w_22⟩
theorem ar_X8_putTaxes : Ar mX8_putTaxes.1 3 := ⟨⟨by decide +kernel, by decide +kernel⟩, by decide +kernel⟩
def mX8_taxAt : MI := (yX8_taxAt, cX8_taxAt, 3, (Option.some Jvm.ClassFile.FieldType.int), [], { frames := 2, cells := 0, slots := 0, locals := 44 })
theorem mw_X8_taxAt : MW mX8_taxAt := ⟨w_765, w_22⟩
theorem ar_X8_taxAt : Ar mX8_taxAt.1 2 := ⟨⟨by decide +kernel, by decide +kernel⟩, by decide +kernel⟩
def mX9_init : MI := (yX9_init, cX9_init, 4, none, [], { frames := 1, cells := 1, slots := 8, locals := 24 })
theorem mw_X9_init : MW mX9_init := ⟨w_724, w_37⟩
theorem ar_X9_init : Ar mX9_init.1 3 := ⟨⟨by decide +kernel, by decide +kernel⟩, by decide +kernel⟩
def mX9_add : MI := (yX9_add, cX9_add, 2, none, [], { frames := 1, cells := 0, slots := 0, locals := 24 })
theorem mw_X9_add : MW mX9_add := ⟨w_814, w_37⟩
theorem ar_X9_add : Ar mX9_add.1 1 := ⟨⟨by decide +kernel, by decide +kernel⟩, by decide +kernel⟩
def mX9_openAt : MI := (yX9_openAt, cX9_openAt, 3, (Option.some (Jvm.ClassFile.FieldType.object "Proratehouse$Coupon")), [], { frames := 2, cells := 0, slots := 0, locals := 45 })
theorem mw_X9_openAt : MW mX9_openAt := ⟨w_865, w_37⟩
theorem ar_X9_openAt : Ar mX9_openAt.1 1 := ⟨⟨by decide +kernel, by decide +kernel⟩, by decide +kernel⟩
def mX9_hasOpenOnes : MI := (yX9_hasOpenOnes, cX9_hasOpenOnes, 2, (Option.some Jvm.ClassFile.FieldType.boolean), [], { frames := 3, cells := 0, slots := 0, locals := 67 })
theorem mw_X9_hasOpenOnes : MW mX9_hasOpenOnes := ⟨w_861, w_37⟩
theorem ar_X9_hasOpenOnes : Ar mX9_hasOpenOnes.1 0 := ⟨⟨by decide +kernel, by decide +kernel⟩, by decide +kernel⟩
def mX9_openShares : MI := (yX9_openShares, cX9_openShares, 4, (Option.some Jvm.ClassFile.FieldType.int), [], { frames := 3, cells := 0, slots := 0, locals := 67 })
theorem mw_X9_openShares : MW mX9_openShares := ⟨w_870, w_37⟩
theorem ar_X9_openShares : Ar mX9_openShares.1 0 := ⟨⟨by decide +kernel, by decide +kernel⟩, by decide +kernel⟩
def mX9_openTaxes : MI := (yX9_openTaxes, cX9_openTaxes, 4, (Option.some Jvm.ClassFile.FieldType.int), [], { frames := 3, cells := 0, slots := 0, locals := 67 })
theorem mw_X9_openTaxes : MW mX9_openTaxes := ⟨w_875, w_37⟩
theorem ar_X9_openTaxes : Ar mX9_openTaxes.1 0 := ⟨⟨by decide +kernel, by decide +kernel⟩, by decide +kernel⟩
def mX9_flownTaxes : MI := (yX9_flownTaxes, cX9_flownTaxes, 4, (Option.some Jvm.ClassFile.FieldType.int), [], { frames := 2, cells := 0, slots := 0, locals := 45 })
theorem mw_X9_flownTaxes : MW mX9_flownTaxes := ⟨w_409, w_37⟩
theorem ar_X9_flownTaxes : Ar mX9_flownTaxes.1 0 := ⟨⟨by decide +kernel, by decide +kernel⟩, by decide +kernel⟩
def mX9_turnOpenOnes : MI := (yX9_turnOpenOnes, cX9_turnOpenOnes, 5, none, [], { frames := 3, cells := 0, slots := 0, locals := 67 })
theorem mw_X9_turnOpenOnes : MW mX9_turnOpenOnes := ⟨w_879, w_37⟩
theorem ar_X9_turnOpenOnes : Ar mX9_turnOpenOnes.1 2 := ⟨⟨by decide +kernel, by decide +kernel⟩, by decide +kernel⟩
def mX10_init : MI := (yX10_init, cX10_init, 1, none, [], { frames := 1, cells := 3, slots := 99, locals := 24 })
theorem mw_X10_init : MW mX10_init := ⟨w_154, w_27⟩
theorem ar_X10_init : Ar mX10_init.1 0 := ⟨⟨by decide +kernel, by decide +kernel⟩, by decide +kernel⟩
def mX10_goOn : MI := (yX10_goOn, cX10_goOn, 5, none, [], { frames := 2, cells := 0, slots := 0, locals := 46 })
theorem mw_X10_goOn : MW mX10_goOn := ⟨w_668, w_27⟩
theorem ar_X10_goOn : Ar mX10_goOn.1 3 := ⟨⟨by decide +kernel, by decide +kernel⟩, by decide +kernel⟩
def mX10_findLeast : MI := (yX10_findLeast, cX10_findLeast, 5, none, [], { frames := 5, cells := 0, slots := 0, locals := 125 })
theorem mw_X10_findLeast : MW mX10_findLeast := ⟨w_614, w_27⟩
theorem ar_X10_findLeast : Ar mX10_findLeast.1 2 := ⟨⟨by decide +kernel, by decide +kernel⟩, by decide +kernel⟩
def mX10_sumOfSet : MI := (yX10_sumOfSet, cX10_sumOfSet, 8, (Option.some Jvm.ClassFile.FieldType.int), [], { frames := 1, cells := 0, slots := 0, locals := 24 })
theorem mw_X10_sumOfSet : MW mX10_sumOfSet := ⟨w_685, w_27⟩
theorem ar_X10_sumOfSet : Ar mX10_sumOfSet.1 2 := ⟨⟨by decide +kernel, by decide +kernel⟩, by decide +kernel⟩
def mX10_leastOfAllSets : MI := (yX10_leastOfAllSets, cX10_leastOfAllSets, 7, (Option.some Jvm.ClassFile.FieldType.int), [], { frames := 5, cells := 0, slots := 0, locals := 125 })
theorem mw_X10_leastOfAllSets : MW mX10_leastOfAllSets := ⟨w_681, w_27⟩
theorem ar_X10_leastOfAllSets : Ar mX10_leastOfAllSets.1 2 := ⟨⟨by decide +kernel, by decide +kernel⟩, by decide +kernel⟩
def mX11_init : MI := (yX11_init, cX11_init, 1, none, [], { frames := 3, cells := 30, slots := 1212, locals := 65 })
theorem mw_X11_init : MW mX11_init := ⟨w_44, w_21⟩
theorem ar_X11_init : Ar mX11_init.1 0 := ⟨⟨by decide +kernel, by decide +kernel⟩, by decide +kernel⟩
def mX11_miles : MI := (yX11_miles, cX11_miles, 4, (Option.some Jvm.ClassFile.FieldType.int), [], { frames := 6, cells := 1, slots := 6, locals := 92 })
theorem mw_X11_miles : MW mX11_miles := ⟨w_251, w_21⟩
theorem ar_X11_miles : Ar mX11_miles.1 3 := ⟨⟨by decide +kernel, by decide +kernel⟩, by decide +kernel⟩
def mX11_fare : MI := (yX11_fare, cX11_fare, 7, (Option.some Jvm.ClassFile.FieldType.int), [], { frames := 6, cells := 2, slots := 13, locals := 92 })
theorem mw_X11_fare : MW mX11_fare := ⟨w_465, w_21⟩
theorem ar_X11_fare : Ar mX11_fare.1 6 := ⟨⟨by decide +kernel, by decide +kernel⟩, by decide +kernel⟩
def mX11_unit : MI := (yX11_unit, cX11_unit, 3, (Option.some Jvm.ClassFile.FieldType.int), [], { frames := 6, cells := 1, slots := 6, locals := 92 })
theorem mw_X11_unit : MW mX11_unit := ⟨w_565, w_21⟩
theorem ar_X11_unit : Ar mX11_unit.1 1 := ⟨⟨by decide +kernel, by decide +kernel⟩, by decide +kernel⟩
def mX11_tax : MI := (yX11_tax, cX11_tax, 4, none, [], { frames := 6, cells := 1, slots := 6, locals := 92 })
theorem mw_X11_tax : MW mX11_tax := ⟨w_525, w_21⟩
theorem ar_X11_tax : Ar mX11_tax.1 3 := ⟨⟨by decide +kernel, by decide +kernel⟩, by decide +kernel⟩
def mX11_weight : MI := (yX11_weight, cX11_weight, 4, (Option.some Jvm.ClassFile.FieldType.int), [], { frames := 6, cells := 1, slots := 6, locals := 92 })
theorem mw_X11_weight : MW mX11_weight := ⟨w_538, w_21⟩
theorem ar_X11_weight : Ar mX11_weight.1 3 := ⟨⟨by decide +kernel, by decide +kernel⟩, by decide +kernel⟩
def mX11_proviso : MI := (yX11_proviso, cX11_proviso, 5, (Option.some Jvm.ClassFile.FieldType.int), [], { frames := 6, cells := 1, slots := 6, locals := 92 })
theorem mw_X11_proviso : MW mX11_proviso := ⟨w_546, w_21⟩
theorem ar_X11_proviso : Ar mX11_proviso.1 4 := ⟨⟨by decide +kernel, by decide +kernel⟩, by decide +kernel⟩
def mX11_penalty : MI := (yX11_penalty, cX11_penalty, 3, (Option.some Jvm.ClassFile.FieldType.int), [], { frames := 6, cells := 1, slots := 6, locals := 92 })
theorem mw_X11_penalty : MW mX11_penalty := ⟨w_573, w_21⟩
theorem ar_X11_penalty : Ar mX11_penalty.1 1 := ⟨⟨by decide +kernel, by decide +kernel⟩, by decide +kernel⟩
def mX11_leg : MI := (yX11_leg, cX11_leg, 5, (Option.some Jvm.ClassFile.FieldType.int), [], { frames := 6, cells := 1, slots := 6, locals := 92 })
theorem mw_X11_leg : MW mX11_leg := ⟨w_587, w_21⟩
theorem ar_X11_leg : Ar mX11_leg.1 4 := ⟨⟨by decide +kernel, by decide +kernel⟩, by decide +kernel⟩
def mX11_part : MI := (yX11_part, cX11_part, 3, (Option.some Jvm.ClassFile.FieldType.int), [], { frames := 6, cells := 1, slots := 6, locals := 125 })
theorem mw_X11_part : MW mX11_part := ⟨w_692, w_21⟩
theorem ar_X11_part : Ar mX11_part.1 2 := ⟨⟨by decide +kernel, by decide +kernel⟩, by decide +kernel⟩
def mX11_price : MI := (yX11_price, cX11_price, 1, (Option.some Jvm.ClassFile.FieldType.int), [], { frames := 6, cells := 0, slots := 0, locals := 149 })
theorem mw_X11_price : MW mX11_price := ⟨w_610, w_21⟩
theorem ar_X11_price : Ar mX11_price.1 0 := ⟨⟨by decide +kernel, by decide +kernel⟩, by decide +kernel⟩
def mX11_priceAnew : MI := (yX11_priceAnew, cX11_priceAnew, 1, (Option.some Jvm.ClassFile.FieldType.int), [], { frames := 6, cells := 0, slots := 0, locals := 151 })
theorem mw_X11_priceAnew : MW mX11_priceAnew := ⟨w_677, w_21⟩
theorem ar_X11_priceAnew : Ar mX11_priceAnew.1 0 := ⟨⟨by decide +kernel, by decide +kernel⟩, by decide +kernel⟩
def mX11_cuts : MI := (yX11_cuts, cX11_cuts, 1, (Option.some Jvm.ClassFile.FieldType.int), [], { frames := 6, cells := 0, slots := 0, locals := 149 })
theorem mw_X11_cuts : MW mX11_cuts := ⟨w_673, w_21⟩
theorem ar_X11_cuts : Ar mX11_cuts.1 0 := ⟨⟨by decide +kernel, by decide +kernel⟩, by decide +kernel⟩
def mX11_canBeIssued : MI := (yX11_canBeIssued, cX11_canBeIssued, 1, (Option.some Jvm.ClassFile.FieldType.boolean), [], { frames := 3, cells := 0, slots := 0, locals := 67 })
theorem mw_X11_canBeIssued : MW mX11_canBeIssued := ⟨w_711, w_21⟩
theorem ar_X11_canBeIssued : Ar mX11_canBeIssued.1 0 := ⟨⟨by decide +kernel, by decide +kernel⟩, by decide +kernel⟩
def mX11_shareOut : MI := (yX11_shareOut, cX11_shareOut, 5, none, [], { frames := 5, cells := 0, slots := 0, locals := 125 })
theorem mw_X11_shareOut : MW mX11_shareOut := ⟨w_818, w_21⟩
theorem ar_X11_shareOut : Ar mX11_shareOut.1 1 := ⟨⟨by decide +kernel, by decide +kernel⟩, by decide +kernel⟩
def mX11_issued : MI := (yX11_issued, cX11_issued, 5, (Option.some (Jvm.ClassFile.FieldType.object "Proratehouse$Ticket")), [], { frames := 6, cells := 10, slots := 88, locals := 149 })
theorem mw_X11_issued : MW mX11_issued := ⟨w_720, w_21⟩
theorem ar_X11_issued : Ar mX11_issued.1 1 := ⟨⟨by decide +kernel, by decide +kernel⟩, by decide +kernel⟩
def mX11_addCash : MI := (yX11_addCash, cX11_addCash, 4, none, [], { frames := 2, cells := 0, slots := 0, locals := 44 })
theorem mw_X11_addCash : MW mX11_addCash := ⟨w_847, w_21⟩
theorem ar_X11_addCash : Ar mX11_addCash.1 2 := ⟨⟨by decide +kernel, by decide +kernel⟩, by decide +kernel⟩
def mX11_receive : MI := (yX11_receive, cX11_receive, 3, none, [], { frames := 3, cells := 0, slots := 0, locals := 67 })
theorem mw_X11_receive : MW mX11_receive := ⟨w_843, w_21⟩
theorem ar_X11_receive : Ar mX11_receive.1 2 := ⟨⟨by decide +kernel, by decide +kernel⟩, by decide +kernel⟩
def mX11_issue : MI := (yX11_issue, cX11_issue, 3, (Option.some Jvm.ClassFile.FieldType.int), [], { frames := 7, cells := 11, slots := 94, locals := 173 })
theorem mw_X11_issue : MW mX11_issue := ⟨w_707, w_21⟩
theorem ar_X11_issue : Ar mX11_issue.1 1 := ⟨⟨by decide +kernel, by decide +kernel⟩, by decide +kernel⟩
def mX11_ticketAt : MI := (yX11_ticketAt, cX11_ticketAt, 3, (Option.some (Jvm.ClassFile.FieldType.object "Proratehouse$Ticket")), [], { frames := 1, cells := 0, slots := 0, locals := 24 })
theorem mw_X11_ticketAt : MW mX11_ticketAt := ⟨w_405, w_21⟩
theorem ar_X11_ticketAt : Ar mX11_ticketAt.1 1 := ⟨⟨by decide +kernel, by decide +kernel⟩, by decide +kernel⟩
def mX11_fly : MI := (yX11_fly, cX11_fly, 5, (Option.some Jvm.ClassFile.FieldType.int), [], { frames := 6, cells := 2, slots := 12, locals := 92 })
theorem mw_X11_fly : MW mX11_fly := ⟨w_906, w_21⟩
theorem ar_X11_fly : Ar mX11_fly.1 2 := ⟨⟨by decide +kernel, by decide +kernel⟩, by decide +kernel⟩
def mX11_endorse : MI := (yX11_endorse, cX11_endorse, 7, (Option.some Jvm.ClassFile.FieldType.int), [], { frames := 6, cells := 1, slots := 6, locals := 92 })
theorem mw_X11_endorse : MW mX11_endorse := ⟨w_897, w_21⟩
theorem ar_X11_endorse : Ar mX11_endorse.1 3 := ⟨⟨by decide +kernel, by decide +kernel⟩, by decide +kernel⟩
def mX11_refund : MI := (yX11_refund, cX11_refund, 6, (Option.some Jvm.ClassFile.FieldType.int), [], { frames := 6, cells := 1, slots := 6, locals := 92 })
theorem mw_X11_refund : MW mX11_refund := ⟨w_857, w_21⟩
theorem ar_X11_refund : Ar mX11_refund.1 1 := ⟨⟨by decide +kernel, by decide +kernel⟩, by decide +kernel⟩
def mX11_reissue : MI := (yX11_reissue, cX11_reissue, 6, (Option.some Jvm.ClassFile.FieldType.int), [], { frames := 7, cells := 11, slots := 94, locals := 173 })
theorem mw_X11_reissue : MW mX11_reissue := ⟨w_886, w_21⟩
theorem ar_X11_reissue : Ar mX11_reissue.1 1 := ⟨⟨by decide +kernel, by decide +kernel⟩, by decide +kernel⟩
def mX11_pass : MI := (yX11_pass, cX11_pass, 2, (Option.some Jvm.ClassFile.FieldType.int), [], { frames := 6, cells := 1, slots := 6, locals := 92 })
theorem mw_X11_pass : MW mX11_pass := ⟨w_1047, w_21⟩
theorem ar_X11_pass : Ar mX11_pass.1 1 := ⟨⟨by decide +kernel, by decide +kernel⟩, by decide +kernel⟩
def mX11_moveNets : MI := (yX11_moveNets, cX11_moveNets, 2, none, [], { frames := 3, cells := 0, slots := 0, locals := 67 })
theorem mw_X11_moveNets : MW mX11_moveNets := ⟨w_983, w_21⟩
theorem ar_X11_moveNets : Ar mX11_moveNets.1 0 := ⟨⟨by decide +kernel, by decide +kernel⟩, by decide +kernel⟩
def mX11_clear : MI := (yX11_clear, cX11_clear, 1, (Option.some Jvm.ClassFile.FieldType.long), [], { frames := 4, cells := 0, slots := 0, locals := 88 })
theorem mw_X11_clear : MW mX11_clear := ⟨w_950, w_21⟩
theorem ar_X11_clear : Ar mX11_clear.1 0 := ⟨⟨by decide +kernel, by decide +kernel⟩, by decide +kernel⟩
def mX11_reject : MI := (yX11_reject, cX11_reject, 3, (Option.some Jvm.ClassFile.FieldType.int), [], { frames := 6, cells := 1, slots := 6, locals := 92 })
theorem mw_X11_reject : MW mX11_reject := ⟨w_1031, w_21⟩
theorem ar_X11_reject : Ar mX11_reject.1 1 := ⟨⟨by decide +kernel, by decide +kernel⟩, by decide +kernel⟩
def mX11_rebill : MI := (yX11_rebill, cX11_rebill, 3, none, [], { frames := 6, cells := 1, slots := 6, locals := 92 })
theorem mw_X11_rebill : MW mX11_rebill := ⟨w_1039, w_21⟩
theorem ar_X11_rebill : Ar mX11_rebill.1 1 := ⟨⟨by decide +kernel, by decide +kernel⟩, by decide +kernel⟩
def mX11_fails : MI := (yX11_fails, cX11_fails, 5, (Option.some Jvm.ClassFile.FieldType.int), [], { frames := 6, cells := 1, slots := 6, locals := 92 })
theorem mw_X11_fails : MW mX11_fails := ⟨w_1002, w_21⟩
theorem ar_X11_fails : Ar mX11_fails.1 2 := ⟨⟨by decide +kernel, by decide +kernel⟩, by decide +kernel⟩
def mX11_ofTicket : MI := (yX11_ofTicket, cX11_ofTicket, 4, (Option.some Jvm.ClassFile.FieldType.int), [], { frames := 6, cells := 1, slots := 6, locals := 92 })
theorem mw_X11_ofTicket : MW mX11_ofTicket := ⟨w_427, w_21⟩
theorem ar_X11_ofTicket : Ar mX11_ofTicket.1 2 := ⟨⟨by decide +kernel, by decide +kernel⟩, by decide +kernel⟩
def mX11_ofCoupon : MI := (yX11_ofCoupon, cX11_ofCoupon, 6, (Option.some Jvm.ClassFile.FieldType.int), [], { frames := 6, cells := 1, slots := 6, locals := 92 })
theorem mw_X11_ofCoupon : MW mX11_ofCoupon := ⟨w_435, w_21⟩
theorem ar_X11_ofCoupon : Ar mX11_ofCoupon.1 3 := ⟨⟨by decide +kernel, by decide +kernel⟩, by decide +kernel⟩
def mX11_ofBill : MI := (yX11_ofBill, cX11_ofBill, 4, (Option.some Jvm.ClassFile.FieldType.int), [], { frames := 6, cells := 1, slots := 6, locals := 92 })
theorem mw_X11_ofBill : MW mX11_ofBill := ⟨w_444, w_21⟩
theorem ar_X11_ofBill : Ar mX11_ofBill.1 2 := ⟨⟨by decide +kernel, by decide +kernel⟩, by decide +kernel⟩
def mX11_cash : MI := (yX11_cash, cX11_cash, 2, (Option.some Jvm.ClassFile.FieldType.long), [], { frames := 6, cells := 1, slots := 6, locals := 92 })
theorem mw_X11_cash : MW mX11_cash := ⟨w_362, w_21⟩
theorem ar_X11_cash : Ar mX11_cash.1 1 := ⟨⟨by decide +kernel, by decide +kernel⟩, by decide +kernel⟩
def mX11_cashAnew : MI := (yX11_cashAnew, cX11_cashAnew, 6, (Option.some Jvm.ClassFile.FieldType.long), [], { frames := 6, cells := 1, slots := 6, locals := 92 })
theorem mw_X11_cashAnew : MW mX11_cashAnew := ⟨w_389, w_21⟩
theorem ar_X11_cashAnew : Ar mX11_cashAnew.1 1 := ⟨⟨by decide +kernel, by decide +kernel⟩, by decide +kernel⟩
def mX11_state : MI := (yX11_state, cX11_state, 2, (Option.some Jvm.ClassFile.FieldType.long), [], { frames := 6, cells := 1, slots := 6, locals := 92 })
theorem mw_X11_state : MW mX11_state := ⟨w_374, w_21⟩
theorem ar_X11_state : Ar mX11_state.1 1 := ⟨⟨by decide +kernel, by decide +kernel⟩, by decide +kernel⟩
def mX11_paid : MI := (yX11_paid, cX11_paid, 1, (Option.some Jvm.ClassFile.FieldType.long), [], { frames := 1, cells := 0, slots := 0, locals := 24 })
theorem mw_X11_paid : MW mX11_paid := ⟨w_417, w_21⟩
theorem ar_X11_paid : Ar mX11_paid.1 0 := ⟨⟨by decide +kernel, by decide +kernel⟩, by decide +kernel⟩
def mX11_of : MI := (yX11_of, cX11_of, 2, (Option.some Jvm.ClassFile.FieldType.int), [], { frames := 6, cells := 1, slots := 6, locals := 92 })
theorem mw_X11_of : MW mX11_of := ⟨w_381, w_21⟩
theorem ar_X11_of : Ar mX11_of.1 1 := ⟨⟨by decide +kernel, by decide +kernel⟩, by decide +kernel⟩
def mL_at : MI := (yL_at, cL_at, 2, (Option.some Jvm.ClassFile.FieldType.int), [], { frames := 1, cells := 0, slots := 0, locals := 24 })
theorem mw_L_at : MW mL_at := ⟨w_240, w_20⟩
theorem ar_L_at : Ar mL_at.1 2 := ⟨⟨by decide +kernel, by decide +kernel⟩, by decide +kernel⟩
def mL_low : MI := (yL_low, cL_low, 2, (Option.some Jvm.ClassFile.FieldType.int), [], { frames := 1, cells := 0, slots := 0, locals := 24 })
theorem mw_L_low : MW mL_low := ⟨w_455, w_20⟩
theorem ar_L_low : Ar mL_low.1 2 := ⟨⟨by decide +kernel, by decide +kernel⟩, by decide +kernel⟩
def mL_miles : MI := (yL_miles, cL_miles, 5, (Option.some Jvm.ClassFile.FieldType.int), [(0, 7, 8, 16), (0, 7, 13, 19)], { frames := 7, cells := 1, slots := 6, locals := 115 })
theorem mw_L_miles : MWh mL_miles := ⟨w_245, w_20⟩
theorem ar_L_miles : Ar mL_miles.1 4 := ⟨⟨by decide +kernel, by decide +kernel⟩, by decide +kernel⟩
def mL_fare : MI := (yL_fare, cL_fare, 8, (Option.some Jvm.ClassFile.FieldType.int), [(0, 13, 14, 16), (0, 13, 19, 19), (0, 13, 24, 26)], { frames := 7, cells := 2, slots := 13, locals := 118 })
theorem mw_L_fare : MWh mL_fare := ⟨w_460, w_20⟩
theorem ar_L_fare : Ar mL_fare.1 7 := ⟨⟨by decide +kernel, by decide +kernel⟩, by decide +kernel⟩
def mL_unit : MI := (yL_unit, cL_unit, 3, (Option.some Jvm.ClassFile.FieldType.int), [(0, 5, 6, 19)], { frames := 7, cells := 1, slots := 6, locals := 114 })
theorem mw_L_unit : MWh mL_unit := ⟨w_561, w_20⟩
theorem ar_L_unit : Ar mL_unit.1 2 := ⟨⟨by decide +kernel, by decide +kernel⟩, by decide +kernel⟩
def mL_tax : MI := (yL_tax, cL_tax, 5, (Option.some Jvm.ClassFile.FieldType.int), [(0, 8, 9, 16), (0, 8, 14, 19)], { frames := 7, cells := 1, slots := 6, locals := 115 })
theorem mw_L_tax : MWh mL_tax := ⟨w_521, w_20⟩
theorem ar_L_tax : Ar mL_tax.1 4 := ⟨⟨by decide +kernel, by decide +kernel⟩, by decide +kernel⟩
def mL_weight : MI := (yL_weight, cL_weight, 5, (Option.some Jvm.ClassFile.FieldType.int), [(0, 7, 8, 16), (0, 7, 13, 19)], { frames := 7, cells := 1, slots := 6, locals := 115 })
theorem mw_L_weight : MWh mL_weight := ⟨w_534, w_20⟩
theorem ar_L_weight : Ar mL_weight.1 4 := ⟨⟨by decide +kernel, by decide +kernel⟩, by decide +kernel⟩
def mL_proviso : MI := (yL_proviso, cL_proviso, 6, (Option.some Jvm.ClassFile.FieldType.int), [(0, 9, 10, 16), (0, 9, 15, 19)], { frames := 7, cells := 1, slots := 6, locals := 116 })
theorem mw_L_proviso : MWh mL_proviso := ⟨w_542, w_20⟩
theorem ar_L_proviso : Ar mL_proviso.1 5 := ⟨⟨by decide +kernel, by decide +kernel⟩, by decide +kernel⟩
def mL_penalty : MI := (yL_penalty, cL_penalty, 3, (Option.some Jvm.ClassFile.FieldType.int), [(0, 5, 6, 19)], { frames := 7, cells := 1, slots := 6, locals := 114 })
theorem mw_L_penalty : MWh mL_penalty := ⟨w_569, w_20⟩
theorem ar_L_penalty : Ar mL_penalty.1 2 := ⟨⟨by decide +kernel, by decide +kernel⟩, by decide +kernel⟩
def mL_leg : MI := (yL_leg, cL_leg, 6, (Option.some Jvm.ClassFile.FieldType.int), [(0, 9, 10, 16), (0, 9, 15, 19), (0, 9, 20, 26)], { frames := 7, cells := 1, slots := 6, locals := 116 })
theorem mw_L_leg : MWh mL_leg := ⟨w_583, w_20⟩
theorem ar_L_leg : Ar mL_leg.1 5 := ⟨⟨by decide +kernel, by decide +kernel⟩, by decide +kernel⟩
def mL_part : MI := (yL_part, cL_part, 4, (Option.some Jvm.ClassFile.FieldType.int), [(0, 6, 7, 16), (0, 6, 11, 19)], { frames := 7, cells := 1, slots := 6, locals := 147 })
theorem mw_L_part : MWh mL_part := ⟨w_688, w_20⟩
theorem ar_L_part : Ar mL_part.1 3 := ⟨⟨by decide +kernel, by decide +kernel⟩, by decide +kernel⟩
def mL_issue : MI := (yL_issue, cL_issue, 3, (Option.some Jvm.ClassFile.FieldType.int), [(0, 5, 6, 16), (0, 5, 10, 26)], { frames := 8, cells := 11, slots := 94, locals := 195 })
theorem mw_L_issue : MWh mL_issue := ⟨w_703, w_20⟩
theorem ar_L_issue : Ar mL_issue.1 2 := ⟨⟨by decide +kernel, by decide +kernel⟩, by decide +kernel⟩
def mL_fly : MI := (yL_fly, cL_fly, 4, (Option.some Jvm.ClassFile.FieldType.int), [(0, 6, 7, 16), (0, 6, 11, 26)], { frames := 7, cells := 2, slots := 12, locals := 116 })
theorem mw_L_fly : MWh mL_fly := ⟨w_902, w_20⟩
theorem ar_L_fly : Ar mL_fly.1 3 := ⟨⟨by decide +kernel, by decide +kernel⟩, by decide +kernel⟩
def mL_endorse : MI := (yL_endorse, cL_endorse, 5, (Option.some Jvm.ClassFile.FieldType.int), [(0, 7, 8, 16), (0, 7, 13, 26)], { frames := 7, cells := 1, slots := 6, locals := 118 })
theorem mw_L_endorse : MWh mL_endorse := ⟨w_893, w_20⟩
theorem ar_L_endorse : Ar mL_endorse.1 4 := ⟨⟨by decide +kernel, by decide +kernel⟩, by decide +kernel⟩
def mL_refund : MI := (yL_refund, cL_refund, 3, (Option.some Jvm.ClassFile.FieldType.int), [(0, 5, 6, 16), (0, 5, 10, 26)], { frames := 7, cells := 1, slots := 6, locals := 117 })
theorem mw_L_refund : MWh mL_refund := ⟨w_853, w_20⟩
theorem ar_L_refund : Ar mL_refund.1 2 := ⟨⟨by decide +kernel, by decide +kernel⟩, by decide +kernel⟩
def mL_reissue : MI := (yL_reissue, cL_reissue, 3, (Option.some Jvm.ClassFile.FieldType.int), [(0, 5, 6, 16), (0, 5, 10, 26)], { frames := 8, cells := 11, slots := 94, locals := 198 })
theorem mw_L_reissue : MWh mL_reissue := ⟨w_882, w_20⟩
theorem ar_L_reissue : Ar mL_reissue.1 2 := ⟨⟨by decide +kernel, by decide +kernel⟩, by decide +kernel⟩
def mL_pass : MI := (yL_pass, cL_pass, 3, (Option.some Jvm.ClassFile.FieldType.int), [(0, 5, 6, 19), (0, 5, 10, 26)], { frames := 7, cells := 1, slots := 6, locals := 113 })
theorem mw_L_pass : MWh mL_pass := ⟨w_1043, w_20⟩
theorem ar_L_pass : Ar mL_pass.1 2 := ⟨⟨by decide +kernel, by decide +kernel⟩, by decide +kernel⟩
def mL_reject : MI := (yL_reject, cL_reject, 3, (Option.some Jvm.ClassFile.FieldType.int), [(0, 5, 6, 16), (0, 5, 10, 26)], { frames := 7, cells := 1, slots := 6, locals := 114 })
theorem mw_L_reject : MWh mL_reject := ⟨w_1027, w_20⟩
theorem ar_L_reject : Ar mL_reject.1 2 := ⟨⟨by decide +kernel, by decide +kernel⟩, by decide +kernel⟩
def mL_rebill : MI := (yL_rebill, cL_rebill, 3, (Option.some Jvm.ClassFile.FieldType.int), [(0, 6, 7, 16), (0, 6, 11, 26)], { frames := 7, cells := 1, slots := 6, locals := 114 })
theorem mw_L_rebill : MWh mL_rebill := ⟨w_1035, w_20⟩
theorem ar_L_rebill : Ar mL_rebill.1 2 := ⟨⟨by decide +kernel, by decide +kernel⟩, by decide +kernel⟩
def mL_fails : MI := (yL_fails, cL_fails, 4, (Option.some Jvm.ClassFile.FieldType.int), [(0, 6, 7, 16)], { frames := 7, cells := 1, slots := 6, locals := 116 })
theorem mw_L_fails : MWh mL_fails := ⟨w_998, w_20⟩
theorem ar_L_fails : Ar mL_fails.1 3 := ⟨⟨by decide +kernel, by decide +kernel⟩, by decide +kernel⟩
def mL_ofTicket : MI := (yL_ofTicket, cL_ofTicket, 4, (Option.some Jvm.ClassFile.FieldType.int), [(0, 6, 7, 16), (0, 6, 11, 19)], { frames := 7, cells := 1, slots := 6, locals := 115 })
theorem mw_L_ofTicket : MWh mL_ofTicket := ⟨w_423, w_20⟩
theorem ar_L_ofTicket : Ar mL_ofTicket.1 3 := ⟨⟨by decide +kernel, by decide +kernel⟩, by decide +kernel⟩
def mL_ofCoupon : MI := (yL_ofCoupon, cL_ofCoupon, 5, (Option.some Jvm.ClassFile.FieldType.int), [(0, 7, 8, 16), (0, 7, 13, 19)], { frames := 7, cells := 1, slots := 6, locals := 117 })
theorem mw_L_ofCoupon : MWh mL_ofCoupon := ⟨w_431, w_20⟩
theorem ar_L_ofCoupon : Ar mL_ofCoupon.1 4 := ⟨⟨by decide +kernel, by decide +kernel⟩, by decide +kernel⟩
def mL_ofBill : MI := (yL_ofBill, cL_ofBill, 4, (Option.some Jvm.ClassFile.FieldType.int), [(0, 6, 7, 16), (0, 6, 11, 19)], { frames := 7, cells := 1, slots := 6, locals := 115 })
theorem mw_L_ofBill : MWh mL_ofBill := ⟨w_440, w_20⟩
theorem ar_L_ofBill : Ar mL_ofBill.1 3 := ⟨⟨by decide +kernel, by decide +kernel⟩, by decide +kernel⟩
def mL_cash : MI := (yL_cash, cL_cash, 3, (Option.some Jvm.ClassFile.FieldType.long), [(0, 5, 6, 16)], { frames := 7, cells := 1, slots := 6, locals := 113 })
theorem mw_L_cash : MWh mL_cash := ⟨w_358, w_20⟩
theorem ar_L_cash : Ar mL_cash.1 2 := ⟨⟨by decide +kernel, by decide +kernel⟩, by decide +kernel⟩
def mL_cashAnew : MI := (yL_cashAnew, cL_cashAnew, 3, (Option.some Jvm.ClassFile.FieldType.long), [(0, 5, 6, 16)], { frames := 7, cells := 1, slots := 6, locals := 117 })
theorem mw_L_cashAnew : MWh mL_cashAnew := ⟨w_385, w_20⟩
theorem ar_L_cashAnew : Ar mL_cashAnew.1 2 := ⟨⟨by decide +kernel, by decide +kernel⟩, by decide +kernel⟩
def mL_state : MI := (yL_state, cL_state, 3, (Option.some Jvm.ClassFile.FieldType.long), [(0, 5, 6, 16)], { frames := 7, cells := 1, slots := 6, locals := 113 })
theorem mw_L_state : MWh mL_state := ⟨w_370, w_20⟩
theorem ar_L_state : Ar mL_state.1 2 := ⟨⟨by decide +kernel, by decide +kernel⟩, by decide +kernel⟩
def mL_of : MI := (yL_of, cL_of, 3, (Option.some Jvm.ClassFile.FieldType.int), [(0, 5, 6, 19)], { frames := 7, cells := 1, slots := 6, locals := 113 })
theorem mw_L_of : MWh mL_of := ⟨w_377, w_20⟩
theorem ar_L_of : Ar mL_of.1 2 := ⟨⟨by decide +kernel, by decide +kernel⟩, by decide +kernel⟩
def mL_balances : MI := (yL_balances, cL_balances, 6, (Option.some Jvm.ClassFile.FieldType.boolean), [], { frames := 8, cells := 45, slots := 270, locals := 139 })
theorem mw_L_balances : MW mL_balances := ⟨w_355, w_20⟩
theorem ar_L_balances : Ar mL_balances.1 2 := ⟨⟨by decide +kernel, by decide +kernel⟩, by decide +kernel⟩
def mL_isWay : MI := (yL_isWay, cL_isWay, 9, (Option.some Jvm.ClassFile.FieldType.boolean), [], { frames := 9, cells := 23, slots := 166, locals := 217 })
theorem mw_L_isWay : MW mL_isWay := ⟨w_606, w_20⟩
theorem ar_L_isWay : Ar mL_isWay.1 2 := ⟨⟨by decide +kernel, by decide +kernel⟩, by decide +kernel⟩
def mL_isTicket : MI := (yL_isTicket, cL_isTicket, 12, (Option.some Jvm.ClassFile.FieldType.boolean), [], { frames := 8, cells := 78, slots := 468, locals := 141 })
theorem mw_L_isTicket : MW mL_isTicket := ⟨w_420, w_20⟩
theorem ar_L_isTicket : Ar mL_isTicket.1 3 := ⟨⟨by decide +kernel, by decide +kernel⟩, by decide +kernel⟩
def mL_isBill : MI := (yL_isBill, cL_isBill, 6, (Option.some Jvm.ClassFile.FieldType.boolean), [], { frames := 8, cells := 6, slots := 36, locals := 138 })
theorem mw_L_isBill : MW mL_isBill := ⟨w_449, w_20⟩
theorem ar_L_isBill : Ar mL_isBill.1 3 := ⟨⟨by decide +kernel, by decide +kernel⟩, by decide +kernel⟩
def mL_tells : MI := (yL_tells, cL_tells, 9, (Option.some Jvm.ClassFile.FieldType.boolean), [], { frames := 8, cells := 11, slots := 67, locals := 145 })
theorem mw_L_tells : MW mL_tells := ⟨w_452, w_20⟩
theorem ar_L_tells : Ar mL_tells.1 4 := ⟨⟨by decide +kernel, by decide +kernel⟩, by decide +kernel⟩
def mL_travels : MI := (yL_travels, cL_travels, 10, (Option.some Jvm.ClassFile.FieldType.boolean), [], { frames := 8, cells := 2, slots := 12, locals := 141 })
theorem mw_L_travels : MW mL_travels := ⟨w_580, w_20⟩
theorem ar_L_travels : Ar mL_travels.1 5 := ⟨⟨by decide +kernel, by decide +kernel⟩, by decide +kernel⟩
def mL_sells : MI := (yL_sells, cL_sells, 10, (Option.some Jvm.ClassFile.FieldType.boolean), [], { frames := 9, cells := 200, slots := 1284, locals := 220 })
theorem mw_L_sells : MW mL_sells := ⟨w_850, w_20⟩
theorem ar_L_sells : Ar mL_sells.1 4 := ⟨⟨by decide +kernel, by decide +kernel⟩, by decide +kernel⟩
def mL_flies : MI := (yL_flies, cL_flies, 9, (Option.some Jvm.ClassFile.FieldType.boolean), [], { frames := 9, cells := 91, slots := 546, locals := 172 })
theorem mw_L_flies : MW mL_flies := ⟨w_890, w_20⟩
theorem ar_L_flies : Ar mL_flies.1 3 := ⟨⟨by decide +kernel, by decide +kernel⟩, by decide +kernel⟩
def mL_clears : MI := (yL_clears, cL_clears, 9, (Option.some Jvm.ClassFile.FieldType.boolean), [], { frames := 9, cells := 17, slots := 102, locals := 163 })
theorem mw_L_clears : MW mL_clears := ⟨w_946, w_20⟩
theorem ar_L_clears : Ar mL_clears.1 4 := ⟨⟨by decide +kernel, by decide +kernel⟩, by decide +kernel⟩
def mL_acts : MI := (yL_acts, cL_acts, 7, (Option.some Jvm.ClassFile.FieldType.boolean), [], { frames := 10, cells := 413, slots := 2591, locals := 249 })
theorem mw_L_acts : MW mL_acts := ⟨w_577, w_20⟩
theorem ar_L_acts : Ar mL_acts.1 5 := ⟨⟨by decide +kernel, by decide +kernel⟩, by decide +kernel⟩
theorem tw_X11_61 : TW RX11 61 65 "java/lang/IndexOutOfBoundsException" := ⟨by decide +kernel, by decide +kernel, w_255, w_32, by decide +kernel, by decide +kernel⟩
theorem tw_X11_72 : TW RX11 72 76 "java/lang/IllegalArgumentException" := ⟨by decide +kernel, by decide +kernel, w_326, w_33, by decide +kernel, by decide +kernel⟩
theorem tw_X11_94 : TW RX11 94 98 "java/lang/IllegalStateException" := ⟨by decide +kernel, by decide +kernel, w_468, w_34, by decide +kernel, by decide +kernel⟩
/-! calls of methods whose answer is told as a value -/
def FQ (σ1 : AH) (rv : Option Value) : AH → Option Value → Prop := fun σ' r => σ' = σ1 ∧ r = rv
section FC
variable {g : GP} {μ z : MI} {E : ET} {CX : State → Array Value → Prop} {k n k' n' pc : Nat} {ls : List (Nat × Value)} {st as : List Value} {σ σ1 : AH} {v : Value}
theorem V_callS1 {idx m : Nat} (hc : Ct g z as σ (FQ σ1 (some v))) (hm : MW z) (hs : Cond.static z.1 ∈ lw_good) (hl : Cond.methodLink μ.1.cls idx z.1 ∈ lw_good) (ha : Ar z.1 m) (hm2 : m = as.length) (rf : RF μ z k n k' n' st) (hd : decode μ.2.1 pc = .ok (.invokestatic idx, 3)) (kk : V g μ E CX k' n' (pc + 3) ls (v :: st) σ1) : V g μ E CX k n pc ls (as.reverse ++ st) σ :=
  V_callS (m := 0) hc hm hs hl (hm2 ▸ ha) rf hd (fun σ' rv h => by obtain ⟨rfl, rfl⟩ := h; exact kk)
theorem V_callSN1 {idx m : Nat} {host : String} (hc : Ct g z as σ (FQ σ1 (some v))) (hm : MW z) (hs : Cond.static z.1 ∈ lw_good) (hl : (μ.1.cls, idx, z.1, host) ∈ lw_nest) (ha : Ar z.1 m) (hm2 : m = as.length) (rf : RF μ z k n k' n' st) (hd : decode μ.2.1 pc = .ok (.invokestatic idx, 3)) (kk : V g μ E CX k' n' (pc + 3) ls (v :: st) σ1) : V g μ E CX k n pc ls (as.reverse ++ st) σ :=
  V_callSN hc hm hs hl (hm2 ▸ ha) rf hd (fun σ' rv h => by obtain ⟨rfl, rfl⟩ := h; exact kk)
theorem V_callV1 {idx ci a m : Nat} {CC : String} {T : u_T} (hc : Ct g z (.ref a :: as) σ (FQ σ1 (some v))) (hm : MW z) (ko : KO ci CC T) (hCC : z.1.cls = CC) (hi : Cond.instanceMethod z.1 ∈ lw_good) (hs : Cond.selects CC z.1 z.1 ∈ lw_good) (hl : Cond.methodLink μ.1.cls idx z.1 ∈ lw_good) (ha : Ar z.1 m) (hm2 : m = as.length) (rf : RF μ z k n k' n' st) (hd : decode μ.2.1 pc = .ok (.invokevirtual idx, 3)) (h0 : a ≠ 0) (hK : zK σ a = ci) (kk : V g μ E CX k' n' (pc + 3) ls (v :: st) σ1) : V g μ E CX k n pc ls (as.reverse ++ .ref a :: st) σ :=
  V_callV hc hm ko hCC hi hs hl (hm2 ▸ ha) rf hd h0 hK (fun σ' rv h => by obtain ⟨rfl, rfl⟩ := h; exact kk)
theorem V_callV0 {idx ci a m : Nat} {CC : String} {T : u_T} (hc : Ct g z (.ref a :: as) σ (FQ σ1 none)) (hm : MW z) (ko : KO ci CC T) (hCC : z.1.cls = CC) (hi : Cond.instanceMethod z.1 ∈ lw_good) (hs : Cond.selects CC z.1 z.1 ∈ lw_good) (hl : Cond.methodLink μ.1.cls idx z.1 ∈ lw_good) (ha : Ar z.1 m) (hm2 : m = as.length) (rf : RF μ z k n k' n' st) (hd : decode μ.2.1 pc = .ok (.invokevirtual idx, 3)) (h0 : a ≠ 0) (hK : zK σ a = ci) (kk : V g μ E CX k' n' (pc + 3) ls st σ1) : V g μ E CX k n pc ls (as.reverse ++ .ref a :: st) σ :=
  V_callV hc hm ko hCC hi hs hl (hm2 ▸ ha) rf hd h0 hK (fun σ' rv h => by obtain ⟨rfl, rfl⟩ := h; exact kk)
theorem V_callI0 {idx a m : Nat} (hc : Ct g z (.ref a :: as) σ (FQ σ1 none)) (hm : MW z) (hr : z.2.2.2.1 = none) (hn : z.1.name = "<init>") (hi : Cond.instanceMethod z.1 ∈ lw_good) (hl : Cond.methodLink μ.1.cls idx z.1 ∈ lw_good) (ha : Ar z.1 m) (hm2 : m = as.length) (rf : RF μ z k n k' n' st) (hd : decode μ.2.1 pc = .ok (.invokespecial idx, 3)) (h0 : a ≠ 0) (kk : V g μ E CX k' n' (pc + 3) ls st σ1) : V g μ E CX k n pc ls (as.reverse ++ .ref a :: st) σ :=
  V_callI hc hm hr hn hi hl (hm2 ▸ ha) rf hd h0 (fun σ' rv h => by obtain ⟨rfl, rfl⟩ := h; exact kk)
theorem V_callIN0 {idx a m : Nat} {host : String} (hc : Ct g z (.ref a :: as) σ (FQ σ1 none)) (hm : MW z) (hr : z.2.2.2.1 = none) (hn : z.1.name = "<init>") (hi : Cond.instanceMethod z.1 ∈ lw_good) (hl : (μ.1.cls, idx, z.1, host) ∈ lw_nest) (ha : Ar z.1 m) (hm2 : m = as.length) (rf : RF μ z k n k' n' st) (hd : decode μ.2.1 pc = .ok (.invokespecial idx, 3)) (h0 : a ≠ 0) (kk : V g μ E CX k' n' (pc + 3) ls st σ1) : V g μ E CX k n pc ls (as.reverse ++ .ref a :: st) σ :=
  V_callIN hc hm hr hn hi hl (hm2 ▸ ha) rf hd h0 (fun σ' rv h => by obtain ⟨rfl, rfl⟩ := h; exact kk)
end FC
theorem zI_self (σ : AH) (a k : Nat) (x : Int32) : zI (uI σ a k x) a k = x := by rw [zI_uI, if_pos ⟨rfl, rfl⟩]
theorem zI_oth (σ : AH) (a b k j : Nat) (x : Int32) (h : j ≠ k) : zI (uI σ a k x) b j = zI σ b j := by rw [zI_uI, if_neg (fun q => h q.2)]
theorem zJ_self (σ : AH) (a k : Nat) (x : Int64) : zJ (uJ σ a k x) a k = x := by rw [zJ_uJ, if_pos ⟨rfl, rfl⟩]
theorem zJ_oth (σ : AH) (a b k j : Nat) (x : Int64) (h : j ≠ k) : zJ (uJ σ a k x) b j = zJ σ b j := by rw [zJ_uJ, if_neg (fun q => h q.2)]
theorem zR_self (σ : AH) (a k x : Nat) : zR (uR σ a k x) a k = x := by rw [zR_uR, if_pos ⟨rfl, rfl⟩]
theorem zR_oth (σ : AH) (a b k j x : Nat) (h : j ≠ k) : zR (uR σ a k x) b j = zR σ b j := by rw [zR_uR, if_neg (fun q => h q.2)]
theorem mm_nil {ls : List (Nat × Value)} : ∀ q ∈ ([] : List (Nat × Value)), q ∈ ls := fun _ h => by cases h
theorem mm_keep {x : Nat × Value} {l l' : List (Nat × Value)} (h : ∀ q ∈ l', q ∈ l) : ∀ q ∈ x :: l', q ∈ x :: l := fun q hq => (List.mem_cons.mp hq).elim (fun e => e ▸ List.mem_cons_self) (fun h2 => List.mem_cons_of_mem _ (h q h2))
theorem mm_drop {x : Nat × Value} {l l' : List (Nat × Value)} (h : ∀ q ∈ l', q ∈ l) : ∀ q ∈ l', q ∈ x :: l := fun q hq => List.mem_cons_of_mem _ (h q hq)
end
section
/-! ===== the fixed cells: 1 the script, 2..32 the class, 33..72 holes: the ghost rows ===== -/
def shKl : List Nat := [0, 20, 11, 8, 6, 20, 33, 20, 20, 7, 6, 20, 20, 4, 35, 5, 5, 5, 5, 5, 5, 5, 5, 10, 20, 20, 20, 1, 30, 21, 39, 21, 21, 19, 19, 19, 19, 19, 19, 19, 19, 19, 19, 19, 19, 19, 19, 19, 19, 19, 19, 19, 19, 19, 19, 19, 19, 19, 19, 19, 19, 19, 19, 19, 19, 19, 19, 19, 19, 19, 19, 19, 19]
def shLl : List Nat := [0, 0, 11, 7, 1, 100, 40, 10, 10, 2, 1, 100, 500, 2, 8, 4, 4, 4, 4, 4, 4, 4, 4, 5, 9, 9, 81, 5, 240, 5, 30, 5, 10, 0, 0, 0, 0, 0, 0, 0, 0, 0, 0, 0, 0, 0, 0, 0, 0, 0, 0, 0, 0, 0, 0, 0, 0, 0, 0, 0, 0, 0, 0, 0, 0, 0, 0, 0, 0, 0, 0, 0, 0]
def shRl : List (Nat × Nat × Nat) := [(2, 0, 3), (2, 1, 9), (2, 2, 13), (2, 3, 23), (2, 4, 27), (2, 5, 30), (2, 6, 31), (2, 7, 32), (3, 0, 4), (3, 1, 6), (3, 2, 7), (3, 3, 8), (4, 0, 5), (9, 0, 10), (9, 1, 12), (10, 0, 11), (13, 0, 14), (14, 0, 15), (14, 1, 16), (14, 2, 17), (14, 3, 18), (14, 4, 19), (14, 5, 20), (14, 6, 21), (14, 7, 22), (23, 0, 24), (23, 1, 25), (23, 2, 26), (27, 0, 28), (27, 1, 29)]
def Sh (σ : AH) : Prop := 72 ≤ zN σ ∧ (∀ a, 2 ≤ a → a ≤ 72 → zK σ a = shKl.getD a 0 ∧ zL σ a = shLl.getD a 0) ∧ (∀ q ∈ shRl, zR σ q.1 q.2.1 = q.2.2) ∧ zK σ 1 = 19
theorem shk {σ : AH} (h : Sh σ) (a : Nat) {κ : Nat} (hk : (Nat.ble 2 a && (Nat.ble a 72 && Nat.beq (shKl.getD a 0) κ)) = true) : zK σ a = κ := by
  simp only [Bool.and_eq_true] at hk
  rw [(h.2.1 a (Nat.le_of_ble_eq_true hk.1) (Nat.le_of_ble_eq_true hk.2.1)).1, Nat.eq_of_beq_eq_true hk.2.2]
theorem shl {σ : AH} (h : Sh σ) (a : Nat) {n : Nat} (hk : (Nat.ble 2 a && (Nat.ble a 72 && Nat.beq (shLl.getD a 0) n)) = true) : zL σ a = n := by
  simp only [Bool.and_eq_true] at hk
  rw [(h.2.1 a (Nat.le_of_ble_eq_true hk.1) (Nat.le_of_ble_eq_true hk.2.1)).2, Nat.eq_of_beq_eq_true hk.2.2]
theorem shr {σ : AH} (h : Sh σ) (a k v : Nat) (hm : (a, k, v) ∈ shRl) : zR σ a k = v := h.2.2.1 _ hm
theorem vp_l {σ : AH} {a n : Nat} {i : Int32} (h : zL σ a = n) (hi : vp_in i n) : vp_in i (zL σ a) := by rw [h]; exact hi
theorem Sh_uI {σ : AH} {a k : Nat} {x : Int32} (h : Sh σ) : Sh (uI σ a k x) := h
theorem Sh_uJ {σ : AH} {a k : Nat} {x : Int64} (h : Sh σ) : Sh (uJ σ a k x) := h
theorem Sh_uR {σ : AH} {a k x : Nat} (ha : ∀ q ∈ shRl, q.1 ≠ a) (h : Sh σ) : Sh (uR σ a k x) := ⟨h.1, h.2.1, fun q hq => by
  rw [zR_uR, if_neg (fun e => ha q hq e.1)]; exact h.2.2.1 q hq, h.2.2.2⟩
theorem Sh_uRl {σ : AH} {a k x : Nat} (ha : (shRl.all fun q => !Nat.beq q.1 a) = true) (h : Sh σ) : Sh (uR σ a k x) := Sh_uR (fun q hq e => by
  have h1 := List.all_eq_true.mp ha q hq
  rw [e] at h1
  simp at h1) h
theorem Sh_uRg {σ : AH} {a k x : Nat} (ha : 72 < a) (h : Sh σ) : Sh (uR σ a k x) := Sh_uR (fun q hq e => by
  have h1 : (shRl.all fun q => Nat.ble q.1 72) = true := by decide
  have h2 := Nat.le_of_ble_eq_true (List.all_eq_true.mp h1 q hq)
  omega) h
theorem Sh_nw {σ : AH} {κ n : Nat} (h : Sh σ) : Sh (nw σ κ n) := by
  have h0 := h.1
  refine ⟨by rw [zN_nw]; omega, fun a h1 h2 => ?_, fun q hq => ?_, ?_⟩
  · rw [zK_nw, zL_nw, if_neg (by omega), if_neg (by omega)]; exact h.2.1 a h1 h2
  · have h1 : (shRl.all fun q => Nat.ble q.1 72) = true := by decide
    have h2 := Nat.le_of_ble_eq_true (List.all_eq_true.mp h1 q hq)
    rw [zR_nw, if_neg (by omega)]; exact h.2.2.1 q hq
  · rw [zK_nw, if_neg (by omega)]; exact h.2.2.2
theorem zK_oldN {σ : AH} {κ n a z : Nat} (h : zK σ a = z ∧ a ≤ zN σ) : zK (nw σ κ n) a = z ∧ a ≤ zN (nw σ κ n) := ⟨by rw [zK_nw, if_neg (by omega)]; exact h.1, by rw [zN_nw]; omega⟩
theorem ts_0_5 {x : Int32} (h0 : ¬ x = 0) (h1 : ¬ x = 1) (h2 : ¬ x = 2) (h3 : ¬ x = 3) (h4 : ¬ x = 4) (h5 : ¬ x = 5) : x.toInt < 0 ∨ 5 < x.toInt := by
  have e : ∀ k : Int32, ¬ x = k → ¬ x.toInt = k.toInt := fun k h q => h (Int32.toInt_inj.mp q)
  have a0 := e _ h0; have a1 := e _ h1; have a2 := e _ h2; have a3 := e _ h3; have a4 := e _ h4; have a5 := e _ h5
  change ¬ x.toInt = 0 at a0; change ¬ x.toInt = 1 at a1; change ¬ x.toInt = 2 at a2; change ¬ x.toInt = 3 at a3; change ¬ x.toInt = 4 at a4; change ¬ x.toInt = 5 at a5
  omega
theorem ts_1_4 {x : Int32} (h1 : ¬ x = 1) (h2 : ¬ x = 2) (h3 : ¬ x = 3) (h4 : ¬ x = 4) : x.toInt < 1 ∨ 4 < x.toInt := by
  have e : ∀ k : Int32, ¬ x = k → ¬ x.toInt = k.toInt := fun k h q => h (Int32.toInt_inj.mp q)
  have a1 := e _ h1; have a2 := e _ h2; have a3 := e _ h3; have a4 := e _ h4
  change ¬ x.toInt = 1 at a1; change ¬ x.toInt = 2 at a2; change ¬ x.toInt = 3 at a3; change ¬ x.toInt = 4 at a4
  omega
/-- throw new E("text"), the text by a wide index -/
theorem V_throwW {g : GP} {μ : MI} {CX : State → Array Value → Prop} {k n pc : Nat} {ls : List (Nat × Value)} {st : List Value} {σ : AH} {Q : AH → Option Value → Prop} {X : AH → String → Prop} {ik is ic : Nat} {cls text : String} (tw : TW μ.1.cls ik ic cls) (hstr : (μ.1.cls, is, text) ∈ lw_str) (d0 : decode μ.2.1 pc = .ok (.new ik, 3)) (d3 : decode μ.2.1 (pc + 3) = .ok (.dup, 1)) (d4 : decode μ.2.1 (pc + 4) = .ok (.ldc_w is, 3)) (d6 : decode μ.2.1 (pc + 7) = .ok (.invokespecial ic, 3)) (d9 : decode μ.2.1 (pc + 10) = .ok (.athrow, 1))
    (hh : μ.2.2.2.2.1 = []) (hf : Nat.blt 5 μ.2.2.2.2.2.frames = true) (hlo : Nat.ble ((st.map fun v => v.category).sum + 82) μ.2.2.2.2.2.locals = true) (hk : Nat.ble 1 k = true) (hn : Nat.ble 6 n = true) (hX : X σ cls) : V g μ (Em g μ Q X) CX k n pc ls st σ := by
  intro p e s m args below meth c C H locs cells slots ρ ρ0 n0 lr P
  obtain ⟨t1, t2, t3, t4, t5, t6⟩ := tw
  have hS := mkS C P
  obtain ⟨sa, hsa⟩ := C.2.2.2.2.2.2.2.2.2.1.2.2.2.1 _ hstr
  have hcast := C.2.2.2.2.2.2.2.2.2.1.2.2.2.2.1 _ t2
  have hk := Nat.le_of_ble_eq_true hk
  have hn := Nat.le_of_ble_eq_true hn
  obtain ⟨p1, p2, p3, p4, p5, p6, p7, p8, p9, p10⟩ := id P
  have hempty : ∀ x ∈ c.exceptionTable.toList, covers x (pc + 10) = false := by
    rw [C.2.2.2.2.2.2.2.2.1, hh]
    intro x hx
    cases hx
  refine vx_throwSW (own := μ.1.cls) (text := text) (sa := sa) (names := ["java/lang/RuntimeException", "java/lang/Exception"]) C.1 C.2.1 C.2.2.2.2.2.2.2.2.2.2.2.2.1 C.2.2.2.1 t1 (by decide +kernel) (C.2.2.2.2.1 _ t3) (C.2.2.2.2.1 _ t4) hsa (fun w hw => ?_) t6 (vx_Zq_to C.2.2.2.2.2.2.2.2.2.1.2.2.2.2.2.2.1 C.2.2.2.2.2.2.2.2.2.2.2.1) (vx_Zq_to C.2.2.2.2.2.2.2.2.2.1.2.2.2.2.2.2.2.1 C.2.2.2.2.2.2.2.2.2.2.2.1) hS (p8.1.trans C.2.2.1.symm) d0 d3 d4 d6 d9 hempty (by simpa [Nat.blt_eq] using hf) ?_ (by omega) (by omega) C.2.2.2.2.2.1 ?_ p2 (by omega) (by omega)
  · rcases t5 w hw with h | rfl | h
    · exact C.2.2.2.2.1 _ h
    · exact va_Nw.use rfl hcast
    · obtain ⟨x, hx, rfl⟩ := List.mem_map.mp h
      exact va_Nw.use rfl (C.2.2.2.2.2.2.2.2.2.1.2.2.2.2.2.2.2.2.1 x hx)
  · rw [cats]
    exact Nat.le_of_ble_eq_true hlo
  · intro t hal hsz hold
    refine ⟨ρ, σ, hX, ⟨p1.1.kept fun k q hq => hold q.1 ((p1.1 k q hq).lt), p1.2.1, Nat.le_trans p1.2.2.1 hsz, fun q hq => ?_, p1.2.2.2.2⟩, p6, p7, Nat.le_trans p5 hsz⟩
    rw [hold q (Nat.lt_of_lt_of_le hq p1.2.2.1)]
    exact p1.2.2.2.1 q hq
/-! small words -/
theorem V_cast {g : GP} {μ : MI} {E : ET} {CX : State → Array Value → Prop} {k n pc : Nat} {ls ls' : List (Nat × Value)} {st st' : List Value} {σ σ' : AH} (h1 : ls = ls') (h2 : st = st') (h3 : σ = σ') (kk : V g μ E CX k n pc ls' st' σ') : V g μ E CX k n pc ls st σ := by
  subst h1; subst h2; subst h3; exact kk
theorem cl0 {j : Nat} (h : j < 2 ^ 31) : Int32.toNatClampNeg (nI j) = j := nI_clamp h
end
