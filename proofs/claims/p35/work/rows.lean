section
-- ===== PART A: goes FIRST, ahead of the names: the tables' words, and 'selects' of the private methods out of them =====
/-- a private method of a class that the tables say can be made, by its rows of tables_1 -/
def lw_okq (q : MethodName × Nat) : Prop := (q.1.cls ≠ "java/lang/invoke/MethodHandle" ∧ q.1.cls ≠ "java/lang/invoke/VarHandle") ∧ Cond.instantiable q.1.cls q.2 ∈ tables_1 ∧ Cond.privateMethod q.1 ∈ tables_1 ∧ Cond.instanceMethod q.1 ∈ tables_1
theorem lw_p0 : lw_okq (⟨"java/lang/Throwable", "fillInStackTrace", "(I)Ljava/lang/Throwable;"⟩, 6) := ⟨⟨by decide +kernel, by decide +kernel⟩, List.mem_of_getElem? (i := 274) (by decide +kernel), List.mem_of_getElem? (i := 272) (by decide +kernel), List.mem_of_getElem? (i := 273) (by decide +kernel)⟩
theorem lw_p1 : lw_okq (⟨"Proratehouse", "ticketAt", "(I)LProratehouse$Ticket;"⟩, 11) := ⟨⟨by decide +kernel, by decide +kernel⟩, List.mem_of_getElem? (i := 21) (by decide +kernel), List.mem_of_getElem? (i := 383) (by decide +kernel), List.mem_of_getElem? (i := 384) (by decide +kernel)⟩
theorem lw_p2 : lw_okq (⟨"Proratehouse$Proration", "provisoOf", "(III)I"⟩, 2) := ⟨⟨by decide +kernel, by decide +kernel⟩, List.mem_of_getElem? (i := 75) (by decide +kernel), List.mem_of_getElem? (i := 534) (by decide +kernel), List.mem_of_getElem? (i := 535) (by decide +kernel)⟩
theorem lw_p3 : lw_okq (⟨"Proratehouse$Journey", "stopsBetween", "(II)I"⟩, 2) := ⟨⟨by decide +kernel, by decide +kernel⟩, List.mem_of_getElem? (i := 91) (by decide +kernel), List.mem_of_getElem? (i := 616) (by decide +kernel), List.mem_of_getElem? (i := 617) (by decide +kernel)⟩
theorem lw_p4 : lw_okq (⟨"Proratehouse$Journey", "milesOfLegs", "(LProratehouse$Pairs;II)I"⟩, 2) := ⟨⟨by decide +kernel, by decide +kernel⟩, List.mem_of_getElem? (i := 91) (by decide +kernel), List.mem_of_getElem? (i := 624) (by decide +kernel), List.mem_of_getElem? (i := 625) (by decide +kernel)⟩
theorem lw_p5 : lw_okq (⟨"Proratehouse$Journey", "highestBetween", "(LProratehouse$Tariff;II)I"⟩, 2) := ⟨⟨by decide +kernel, by decide +kernel⟩, List.mem_of_getElem? (i := 91) (by decide +kernel), List.mem_of_getElem? (i := 634) (by decide +kernel), List.mem_of_getElem? (i := 635) (by decide +kernel)⟩
theorem lw_p6 : lw_okq (⟨"Proratehouse$Ways", "goOn", "(III)V"⟩, 5) := ⟨⟨by decide +kernel, by decide +kernel⟩, List.mem_of_getElem? (i := 131) (by decide +kernel), List.mem_of_getElem? (i := 646) (by decide +kernel), List.mem_of_getElem? (i := 647) (by decide +kernel)⟩
theorem lw_p7 : lw_okq (⟨"Proratehouse$Ways", "sumOfSet", "(II)I"⟩, 5) := ⟨⟨by decide +kernel, by decide +kernel⟩, List.mem_of_getElem? (i := 131) (by decide +kernel), List.mem_of_getElem? (i := 663) (by decide +kernel), List.mem_of_getElem? (i := 664) (by decide +kernel)⟩
theorem lw_p8 : lw_okq (⟨"Proratehouse", "canBeIssued", "()Z"⟩, 11) := ⟨⟨by decide +kernel, by decide +kernel⟩, List.mem_of_getElem? (i := 21) (by decide +kernel), List.mem_of_getElem? (i := 689) (by decide +kernel), List.mem_of_getElem? (i := 690) (by decide +kernel)⟩
theorem lw_p9 : lw_okq (⟨"Proratehouse", "issued", "(I)LProratehouse$Ticket;"⟩, 11) := ⟨⟨by decide +kernel, by decide +kernel⟩, List.mem_of_getElem? (i := 21) (by decide +kernel), List.mem_of_getElem? (i := 698) (by decide +kernel), List.mem_of_getElem? (i := 699) (by decide +kernel)⟩
theorem lw_p10 : lw_okq (⟨"Proratehouse", "shareOut", "(LProratehouse$Ticket;)V"⟩, 11) := ⟨⟨by decide +kernel, by decide +kernel⟩, List.mem_of_getElem? (i := 21) (by decide +kernel), List.mem_of_getElem? (i := 796) (by decide +kernel), List.mem_of_getElem? (i := 797) (by decide +kernel)⟩
theorem lw_p11 : lw_okq (⟨"Proratehouse$Proration", "weightOf", "(LProratehouse$Coupon;LProratehouse$Pairs;)I"⟩, 2) := ⟨⟨by decide +kernel, by decide +kernel⟩, List.mem_of_getElem? (i := 75) (by decide +kernel), List.mem_of_getElem? (i := 805) (by decide +kernel), List.mem_of_getElem? (i := 806) (by decide +kernel)⟩
theorem lw_p12 : lw_okq (⟨"Proratehouse$Proration", "shareByWeights", "(LProratehouse$Ticket;IIII)V"⟩, 2) := ⟨⟨by decide +kernel, by decide +kernel⟩, List.mem_of_getElem? (i := 75) (by decide +kernel), List.mem_of_getElem? (i := 813) (by decide +kernel), List.mem_of_getElem? (i := 814) (by decide +kernel)⟩
theorem lw_p13 : lw_okq (⟨"Proratehouse", "receive", "(LProratehouse$Ticket;I)V"⟩, 11) := ⟨⟨by decide +kernel, by decide +kernel⟩, List.mem_of_getElem? (i := 21) (by decide +kernel), List.mem_of_getElem? (i := 821) (by decide +kernel), List.mem_of_getElem? (i := 822) (by decide +kernel)⟩
theorem lw_p14 : lw_okq (⟨"Proratehouse", "addCash", "(IJ)V"⟩, 11) := ⟨⟨by decide +kernel, by decide +kernel⟩, List.mem_of_getElem? (i := 21) (by decide +kernel), List.mem_of_getElem? (i := 825) (by decide +kernel), List.mem_of_getElem? (i := 826) (by decide +kernel)⟩
theorem lw_p15 : lw_okq (⟨"Proratehouse$Ticket", "openAt", "(I)LProratehouse$Coupon;"⟩, 8) := ⟨⟨by decide +kernel, by decide +kernel⟩, List.mem_of_getElem? (i := 701) (by decide +kernel), List.mem_of_getElem? (i := 843) (by decide +kernel), List.mem_of_getElem? (i := 844) (by decide +kernel)⟩
def lw_privs_1 : List (MethodName × Nat) := [(⟨"java/lang/Throwable", "fillInStackTrace", "(I)Ljava/lang/Throwable;"⟩, 6), (⟨"Proratehouse", "ticketAt", "(I)LProratehouse$Ticket;"⟩, 11), (⟨"Proratehouse$Proration", "provisoOf", "(III)I"⟩, 2), (⟨"Proratehouse$Journey", "stopsBetween", "(II)I"⟩, 2), (⟨"Proratehouse$Journey", "milesOfLegs", "(LProratehouse$Pairs;II)I"⟩, 2), (⟨"Proratehouse$Journey", "highestBetween", "(LProratehouse$Tariff;II)I"⟩, 2), (⟨"Proratehouse$Ways", "goOn", "(III)V"⟩, 5), (⟨"Proratehouse$Ways", "sumOfSet", "(II)I"⟩, 5), (⟨"Proratehouse", "canBeIssued", "()Z"⟩, 11), (⟨"Proratehouse", "issued", "(I)LProratehouse$Ticket;"⟩, 11), (⟨"Proratehouse", "shareOut", "(LProratehouse$Ticket;)V"⟩, 11), (⟨"Proratehouse$Proration", "weightOf", "(LProratehouse$Coupon;LProratehouse$Pairs;)I"⟩, 2), (⟨"Proratehouse$Proration", "shareByWeights", "(LProratehouse$Ticket;IIII)V"⟩, 2), (⟨"Proratehouse", "receive", "(LProratehouse$Ticket;I)V"⟩, 11), (⟨"Proratehouse", "addCash", "(IJ)V"⟩, 11), (⟨"Proratehouse$Ticket", "openAt", "(I)LProratehouse$Coupon;"⟩, 8)]
theorem lw_r1 : ∀ q ∈ lw_privs_1, lw_okq q := List.forall_mem_cons.mpr ⟨lw_p0, List.forall_mem_cons.mpr ⟨lw_p1, List.forall_mem_cons.mpr ⟨lw_p2, List.forall_mem_cons.mpr ⟨lw_p3, List.forall_mem_cons.mpr ⟨lw_p4, List.forall_mem_cons.mpr ⟨lw_p5, List.forall_mem_cons.mpr ⟨lw_p6, List.forall_mem_cons.mpr ⟨lw_p7, List.forall_mem_cons.mpr ⟨lw_p8, List.forall_mem_cons.mpr ⟨lw_p9, List.forall_mem_cons.mpr ⟨lw_p10, List.forall_mem_cons.mpr ⟨lw_p11, List.forall_mem_cons.mpr ⟨lw_p12, List.forall_mem_cons.mpr ⟨lw_p13, List.forall_mem_cons.mpr ⟨lw_p14, List.forall_mem_cons.mpr ⟨lw_p15, fun _ h => absurd h List.not_mem_nil⟩⟩⟩⟩⟩⟩⟩⟩⟩⟩⟩⟩⟩⟩⟩⟩
theorem lw_p16 : lw_okq (⟨"Proratehouse$Clearing", "forgetNets", "()V"⟩, 5) := ⟨⟨by decide +kernel, by decide +kernel⟩, List.mem_of_getElem? (i := 155) (by decide +kernel), List.mem_of_getElem? (i := 936) (by decide +kernel), List.mem_of_getElem? (i := 937) (by decide +kernel)⟩
theorem lw_p17 : lw_okq (⟨"Proratehouse$Bill", "amountBack", "()I"⟩, 6) := ⟨⟨by decide +kernel, by decide +kernel⟩, List.mem_of_getElem? (i := 892) (by decide +kernel), List.mem_of_getElem? (i := 953) (by decide +kernel), List.mem_of_getElem? (i := 954) (by decide +kernel)⟩
theorem lw_p18 : lw_okq (⟨"Proratehouse$Clearing", "addToNets", "(LProratehouse$Bill;I)V"⟩, 5) := ⟨⟨by decide +kernel, by decide +kernel⟩, List.mem_of_getElem? (i := 155) (by decide +kernel), List.mem_of_getElem? (i := 957) (by decide +kernel), List.mem_of_getElem? (i := 958) (by decide +kernel)⟩
theorem lw_p19 : lw_okq (⟨"Proratehouse", "moveNets", "()V"⟩, 11) := ⟨⟨by decide +kernel, by decide +kernel⟩, List.mem_of_getElem? (i := 21) (by decide +kernel), List.mem_of_getElem? (i := 961) (by decide +kernel), List.mem_of_getElem? (i := 962) (by decide +kernel)⟩
def lw_privs_2 : List (MethodName × Nat) := [(⟨"Proratehouse$Clearing", "forgetNets", "()V"⟩, 5), (⟨"Proratehouse$Bill", "amountBack", "()I"⟩, 6), (⟨"Proratehouse$Clearing", "addToNets", "(LProratehouse$Bill;I)V"⟩, 5), (⟨"Proratehouse", "moveNets", "()V"⟩, 11)]
theorem lw_r2 : ∀ q ∈ lw_privs_2, lw_okq q := List.forall_mem_cons.mpr ⟨lw_p16, List.forall_mem_cons.mpr ⟨lw_p17, List.forall_mem_cons.mpr ⟨lw_p18, List.forall_mem_cons.mpr ⟨lw_p19, fun _ h => absurd h List.not_mem_nil⟩⟩⟩⟩
def lw_privs : List (MethodName × Nat) := lw_privs_1 ++ (lw_privs_2)
def lw_tbl : List Cond := k2_sels lw_privs ++ tables_1
theorem lw_privs_ok : ∀ q ∈ lw_privs, lw_okq q := by
  show ∀ q ∈ lw_privs_1 ++ (lw_privs_2), lw_okq q
  exact List.forall_mem_append.mpr ⟨lw_r1, lw_r2⟩
-- ===== end of PART A; then your names; then what follows =====
end
section
/-! ===== BEGIN words of one list among another's, by their places ===== -/
theorem goodIn_r {big : List Cond} (ws : List Cond) (ps : List Nat) (hp : ws = ps.filterMap (fun i => big[i]?)) (h : ws.all goodWord = true) : GoodIn big ws := by
  intro w hw
  have h1 := List.all_eq_true.mp h w hw
  rw [hp] at hw
  obtain ⟨i, -, hi⟩ := List.mem_filterMap.mp hw
  have hm : w ∈ big := by first | exact List.mem_of_getElem? hi | exact List.getElem?_mem hi
  exact ⟨hm, good_of_word h1⟩
theorem goodIn_app {big a b : List Cond} (ha : GoodIn big a) (hb : GoodIn big b) : GoodIn big (a ++ b) := fun w h => (List.mem_append.mp h).elim (ha w) (hb w)
theorem goodIn_ca {big a b : List Cond} {c : Cond} (ha : GoodIn big (c :: a)) (hb : GoodIn big b) : GoodIn big (c :: (a ++ b)) := fun w h => (List.mem_cons.mp h).elim (fun e => ha w (List.mem_cons.mpr (Or.inl e))) (fun h => (List.mem_append.mp h).elim (fun h => ha w (List.mem_cons.mpr (Or.inr h))) (hb w))
theorem goodIn_sub {big ws : List Cond} (hm : ∀ w ∈ ws, w ∈ big) (h : ws.all goodWord = true) : GoodIn big ws := fun w hw => ⟨hm w hw, good_of_word (List.all_eq_true.mp h w hw)⟩
/-! ===== END ===== -/

/-! ===== BEGIN exceptions that leave a method, and their catching by the caller (launches without stack traces) ===== -/
section VXA
/-! The laws vx_back, vx_callV, vx_callS, vx_callSW, vx_throw0, vx_throwS follow proofs of the library, with one case more: JvmDerived/Free/Laws.lean (Back.of_free), Shelf42/LK1.lean (callV, callS), Shelf/KitTraced.lean (throwNew0V, throwNewS). -/
/-- where a method has thrown q: the class by its name, the cell, what was written, the world -/
def vx_T (XC : String → State → State → Prop) (st : State) (q : Addr) (t : State) (mc ms : Nat) (free : Addr → Prop) : Prop :=
  ∃ (E : String) (ce : Cell) (L : List Loc), XC E st t ∧ t.heap[q]? = some ce ∧ ce.vm = .none ∧ st.vm.findClass E = some ce.cls ∧ st.WarmedH t.vm ∧ st.sameButNew ({ t with vm := st.vm } : State) L mc ms ∧ ∀ z ∈ L, free z.base
def vx_Q (Qc : Array Value → State → Outcome → State → Prop) (XC : String → State → State → Prop) (mc ms : Nat) (free : Addr → Prop) : Array Value → State → Outcome → State → Prop := fun a st o t =>
  (Qc a st o t ∧ ∃ L, FrameEnd st o t L mc ms ∧ ∀ q ∈ L, free q.base) ∨ ∃ q, o = .threw q ∧ vx_T XC st q t mc ms free
/-- a callee that returns or throws -/
def vx_Met (l : Launch) (y : MethodName) (ws : List Cond) (rm : Room) (Pc : Array Value → State → Prop) (Qc : Array Value → State → Outcome → State → Prop) (XC : String → State → State → Prop) (mc ms : Nat) (free : Addr → Prop) : Prop :=
  MetFree l y (headSpec ws rm) Pc (fun _ _ _ _ _ => True) (vx_Q Qc XC mc ms free)
def vx_Post (XC : String → State → State → Prop) (mc ms : Nat) (free : Addr → Prop) : Pt → Array Value → Addr → Pt → Prop := fun A a q B =>
  ∃ (g : JFrame) (mk : MethodId) (t : State) (L : List Loc) (E : String) (ce : Cell), B.U.heap = t.heap ∧ B.U.vm = t.vm ∧ XC E (A.U.calling g mk a) t ∧ t.heap[q]? = some ce ∧ ce.vm = .none ∧ A.U.vm.findClass E = some ce.cls ∧ B.locs = A.locs ++ L ∧ (∀ z ∈ L, free z.base) ∧ B.cells = A.cells + mc ∧ B.slots = A.slots + ms
def vx_Back (l : Launch) (R : Room) (p : Program) (e : Env) (below : List Frame) (s : State) (sargs : Array Value) (y : MethodName) (len W9 : Nat)
    (Pre : Pt → Array Value → Prop) (Post : Pt → Array Value → Option Value → Pt → Prop) (PostX : Pt → Array Value → Addr → Pt → Prop) : Prop :=
  ∀ (m : MethodId) (meth : Method) (c : Code) (A : Pt) (g : JFrame) (ig : Instr) (mk : MethodId) (a : Array Value),
    Stand p l e R s m sargs below meth c A.U A.locs A.cells A.slots → g.method = m → g.locals.size = c.maxLocals → decode c.code g.pc = .ok (ig, len) →
    2 * g.monitorRoom + (g.stack.map fun v => v.category).sum ≤ W9 → A.U.methodNamed? y = some mk → Pre A a →
    (∃ (v : Option Value) (B : Pt), Stand p l e R s m sargs below meth c B.U B.locs B.cells B.slots ∧ Post A a v B ∧
      Steps p.tables e below (doInvoke e (A.U.setTop g) [] mk a).1 (B.U.setTop { g with pc := g.pc + len, stack := v.toList ++ g.stack })) ∨
    (∃ (q : Addr) (B : Pt), Stand p l e R s m sargs below meth c B.U B.locs B.cells B.slots ∧ PostX A a q B ∧
      Steps p.tables e below (doInvoke e (A.U.setTop g) [] mk a).1 ((B.U.setTop g).pushFrame (.throwing q)))
section Payer
variable {l : Launch} {R : Room} {p : Program} {e : Env} {below : List Frame} {s : State} {sargs : Array Value} {y : MethodName} {len W9 : Nat}
theorem vx_back {ws : List Cond} {rm : Room} {Pc : Array Value → State → Prop} {Qc : Array Value → State → Outcome → State → Prop} {XC : String → State → State → Prop} {mc ms : Nat} {free : Addr → Prop} {bytes : ByteArray} {maxL : Nat} {ret : Option FieldType}
    (hM : vx_Met l y ws rm Pc Qc XC mc ms free) (hblind : FrameBlind Pc) (hrc : rm.cells = mc) (hrs : rm.slots = ms)
    (hframes : rm.frames + 1 ≤ R.frames) (hlocals : W9 + (maxL + 11) + rm.locals ≤ R.locals)
    (hws : ∀ w ∈ ws, ∀ a' U, s.WarmedH U.vm → w.before a' U = true) (hcode : Cond.code y bytes maxL ret ∈ ws) (hinit : ∀ a' U, s.WarmedH U.vm → (Cond.initialized y.cls).before a' U = true) :
    vx_Back l R p e below s sargs y len W9 (PreOf R mc ms Pc) (PostOf Qc mc ms free) (vx_Post XC mc ms free) := by
  intro m meth c A g ig mk a X hg hsize hdg hW hn hp
  have h1 : (headSpec ws rm).pre.before a A.U = true := atoms_intro fun w hw => hws w hw _ _ X.warmed
  have h2 : (Cond.code y bytes maxL ret).before a A.U = true := hws _ hcode _ _ X.warmed
  have h3 : (Cond.initialized y.cls).before a A.U = true := hinit _ _ X.warmed
  have h4 : A.cells + (headSpec ws rm).room.cells ≤ R.cells := by rw [show (headSpec ws rm).room.cells = mc from hrc]; exact hp.1
  have h5 : A.slots + (headSpec ws rm).room.slots ≤ R.slots := by rw [show (headSpec ws rm).room.slots = ms from hrs]; exact hp.2.1
  have hPc : Pc a (A.U.calling g mk a) := hblind _ _ _ _ hp.2.2
  obtain ⟨U, Ls, c0, s0⟩ := A
  dsimp only [Pt.U, Pt.locs, Pt.cells, Pt.slots] at h1 h2 h3 h4 h5 X hn hPc ⊢
  obtain ⟨methY, cY, hmY, hcY, -, hlY, -, -, -, -⟩ := Cond.code_spec hn h2
  obtain ⟨kY, hkY, -⟩ := className_of_methodNamed hn
  have hinitY : kY.init = .initialized := Cond.initialized_spec (findClass_of_methodNamed hn) hkY h3
  have h : At U g.method c below := by rw [hg]; exact X.here
  have hlocals9 : W9 + (maxL + 11) + (headSpec ws rm).room.locals ≤ R.locals := hlocals
  have happ : (headSpec ws rm).appliesLoose y e.platform (U.calling g mk a) = true :=
    Spec.appliesLoose_calling (g := g) h hdg hn hkY hinitY
      (X.room_calling (g := g) (R' := (headSpec ws rm).room) hsize hmY hcY hframes (by rw [hlY]; omega) h4 h5) h1
  obtain ⟨mid, hmid⟩ := h.above
  have hfr : (U.setTop g).frames = (.java g :: mid) ++ below := by rw [State.frames_setTop' g h.top, hmid]; rfl
  obtain ⟨o, s₂, hsteps, -, hend, hq⟩ := Steps.callFree hM p X.admits X.cas X.clock (acts := []) hfr happ hPc trivial
  have hq' : vx_Q Qc XC mc ms free a (U.calling g mk a) o s₂ := hq
  rw [State.frames_setTop' g h.top] at hend
  obtain ⟨g₀, hg0⟩ := Option.isSome_iff_exists.mp h.top
  obtain ⟨r, hr⟩ := State.topJava?_eq_some.mp hg0
  have hr' : (({ U with heap := s₂.heap, slotsUsed := s₂.slotsUsed } : State).setVm s₂.vm).frames = .java g₀ :: r := hr
  rcases hq' with ⟨hqc, L, hfe, hL⟩ | ⟨q, rfl, E, ce, L, hx, hce, hcv, hcl, hW₂, hsm, hL⟩
  · obtain ⟨⟨v, rfl⟩, hW₂, e2, q2, q3, q4, q5, q6⟩ := id hfe
    have e3 : s₂ = ({ (U.calling g mk a).setFrames s₂.frames with heap := s₂.heap, slotsUsed := s₂.slotsUsed } : State).setVm s₂.vm := by
      have : s₂ = ({ s₂ with vm := (U.calling g mk a).vm } : State).setVm s₂.vm := rfl
      rw [e2] at this
      exact this
    obtain ⟨c₂, i₂, len₂, hc₂, hd₂, hf₂⟩ := hend
    have hW' : U.WarmedH s₂.vm := hW₂
    have hcc : c₂ = c := by
      have h1 : s₂.code? g.method = U.code? g.method := by
        rw [State.code?_eq, State.code?_eq, hW'.alike.method?]
      exact Option.some.inj (hc₂.symm.trans (h1.trans h.code))
    subst hcc
    have hlen : len₂ = len := by rw [hdg] at hd₂; cases hd₂; rfl
    subst hlen
    have hs₂ : s₂ = (({ U with heap := s₂.heap, slotsUsed := s₂.slotsUsed } : State).setVm s₂.vm).setTop { g with pc := g.pc + len₂, stack := v.toList ++ g.stack } := by
      refine e3.trans ?_
      rw [hf₂, State.calling_eq h.top, State.setFrames_setFrames, State.setTop_of_frames _ hr', hr]
      rfl
    have hsame : U.sameButNew ({ U with heap := s₂.heap, slotsUsed := s₂.slotsUsed } : State) L mc ms := by
      refine ⟨?_, q2, q3, q4, q5, q6⟩
      obtain ⟨t, ht, -⟩ := State.frames_cons hr
      show ({ U with heap := s₂.heap, slotsUsed := s₂.slotsUsed } : State) = { U.setFrames U.frames with heap := s₂.heap, slotsUsed := s₂.slotsUsed }
      rw [State.setFrames_self ht]
    subst hg
    refine Or.inl ⟨v, ⟨(({ U with heap := s₂.heap, slotsUsed := s₂.slotsUsed } : State).setVm s₂.vm), Ls ++ L, c0 + mc, s0 + ms⟩,
      ⟨X.admits, X.cas, X.clock, X.frames, X.room, X.hears, X.method, X.code, (X.here.setHeapUsed s₂.heap s₂.slotsUsed).setVm hW'.alike, X.tail, State.WarmedH.trans X.warmed hW', X.limits, X.bytes, X.same.trans (hsame.setVm s.vm)⟩,
      ⟨g, mk, s₂, L, rfl, rfl, hqc, rfl, hL, rfl, rfl⟩, ?_⟩
    show Steps p.tables e below _ ((({ U with heap := s₂.heap, slotsUsed := s₂.slotsUsed } : State).setVm s₂.vm).setTop { g with pc := g.pc + len₂, stack := v.toList ++ g.stack })
    rw [← hs₂]
    exact hsteps
  · obtain ⟨e2, q2, q3, q4, q5, q6⟩ := id hsm
    have e3 : s₂ = ({ (U.calling g mk a).setFrames s₂.frames with heap := s₂.heap, slotsUsed := s₂.slotsUsed } : State).setVm s₂.vm := by
      have : s₂ = ({ s₂ with vm := (U.calling g mk a).vm } : State).setVm s₂.vm := rfl
      rw [e2] at this
      exact this
    have hf₂ : s₂.frames = .throwing q :: .java g :: U.frames.tail := hend
    have hW' : U.WarmedH s₂.vm := hW₂
    have hs₂ : s₂ = ((({ U with heap := s₂.heap, slotsUsed := s₂.slotsUsed } : State).setVm s₂.vm).setTop g).pushFrame (.throwing q) := by
      refine e3.trans ?_
      rw [hf₂, State.calling_eq h.top, State.setFrames_setFrames, State.pushFrame, State.frames_setTop _ hr', State.setTop_of_frames _ hr', State.setFrames_setFrames, hr]
      rfl
    have hsame : U.sameButNew ({ U with heap := s₂.heap, slotsUsed := s₂.slotsUsed } : State) L mc ms := by
      refine ⟨?_, q2, q3, q4, q5, q6⟩
      obtain ⟨t, ht, -⟩ := State.frames_cons hr
      show ({ U with heap := s₂.heap, slotsUsed := s₂.slotsUsed } : State) = { U.setFrames U.frames with heap := s₂.heap, slotsUsed := s₂.slotsUsed }
      rw [State.setFrames_self ht]
    subst hg
    refine Or.inr ⟨q, ⟨(({ U with heap := s₂.heap, slotsUsed := s₂.slotsUsed } : State).setVm s₂.vm), Ls ++ L, c0 + mc, s0 + ms⟩,
      ⟨X.admits, X.cas, X.clock, X.frames, X.room, X.hears, X.method, X.code, (X.here.setHeapUsed s₂.heap s₂.slotsUsed).setVm hW'.alike, X.tail, State.WarmedH.trans X.warmed hW', X.limits, X.bytes, X.same.trans (hsame.setVm s.vm)⟩,
      ⟨g, mk, s₂, L, E, ce, rfl, rfl, hx, hce, hcv, hcl, rfl, hL, rfl, rfl⟩, ?_⟩
    show Steps p.tables e below _ (((({ U with heap := s₂.heap, slotsUsed := s₂.slotsUsed } : State).setVm s₂.vm).setTop g).pushFrame (.throwing q))
    rw [← hs₂]
    exact hsteps
end Payer
section Calls
variable {p : Program} {l : Launch} {e : Env} {R : Room} {s : State} {m : MethodId} {args : Array Value} {below : List Frame} {meth : Method} {c : Code} {T : State} {locs : List Loc} {cells slots : Nat}
theorem vx_callV (X : Stand p l e R s m args below meth c T locs cells slots) (hexec : p.tables.exec = Jvm.exec) {own C : String} {index : Nat} {y : MethodName} {bytes : ByteArray} {maxL : Nat} {ret : Option FieldType}
    (hown : s.vm.findClass own = some m.cls) (hlink : (Cond.methodLink own index y).before args s = true) (hinst : (Cond.instanceMethod y).before args s = true) (hsel : (Cond.selects C y y).before args s = true)
    (hcode : (Cond.code y bytes maxL ret).before args s = true) (hy : y.cls ≠ "java/lang/invoke/MethodHandle" ∧ y.cls ≠ "java/lang/invoke/VarHandle")
    {W9 : Nat} {Pre : Pt → Array Value → Prop} {Post : Pt → Array Value → Option Value → Pt → Prop} {PostX : Pt → Array Value → Addr → Pt → Prop} (hK : vx_Back l R p e below s args y 3 W9 Pre Post PostX)
    {b : Addr} {cellB : Cell} (hcell : T.heap[b]? = some cellB) (hobj : cellB.vm.isStatics = false) (hcls : s.vm.findClass C = some cellB.cls)
    {g : JFrame} (hg : g.method = m) (hsize : g.locals.size = c.maxLocals) {argsL rest : List Value} (hlen : ∀ sig, parseMethodDescriptor y.desc = some sig → argsL.length = sig.parameters.length)
    (hstack : g.stack = argsL.reverse ++ .ref b :: rest) (hW : 2 * g.monitorRoom + (rest.map fun v => v.category).sum ≤ W9) (hdg : decode c.code g.pc = .ok (.invokevirtual index, 3))
    (hpre : ∀ vm₁, s.WarmedH vm₁ → Pre ⟨T.setVm vm₁, locs, cells, slots⟩ (Value.ref b :: argsL).toArray) :
    (∃ (v : Option Value) (vm₁ : Vm) (B : Pt), s.WarmedH vm₁ ∧ Stand p l e R s m args below meth c B.U B.locs B.cells B.slots ∧ Post ⟨T.setVm vm₁, locs, cells, slots⟩ (Value.ref b :: argsL).toArray v B ∧
      ∀ target, Steps p.tables e below (B.U.setTop { g with pc := g.pc + 3, stack := v.toList ++ rest }) target → Steps p.tables e below (T.setTop g) target) ∨
    (∃ (q : Addr) (vm₁ : Vm) (B : Pt), s.WarmedH vm₁ ∧ Stand p l e R s m args below meth c B.U B.locs B.cells B.slots ∧ PostX ⟨T.setVm vm₁, locs, cells, slots⟩ (Value.ref b :: argsL).toArray q B ∧
      Steps p.tables e below (T.setTop g) ((B.U.setTop { g with stack := rest }).pushFrame (.throwing q))) := by
  obtain ⟨mk, methM, hnamed, hmethM, hstM, habM⟩ := Cond.instanceMethod_spec hinst
  obtain ⟨methM', cM, hmethM', -, -, -, -, -, -, hsigM⟩ := Cond.code_spec hnamed hcode
  cases hmethM.symm.trans hmethM'
  obtain ⟨c2, r2, m2, q1, q2, q3, q4, kP, hkP, hkPi⟩ := Cond.selects_spec hsel
  cases hcls.symm.trans q1
  cases (State.methodFound?_of_named hnamed hy).symm.trans q2
  cases hnamed.symm.trans q3
  have hselP : selectMethod e.platform s.vm cellB.cls mk = .method mk := by rw [Launch.admits_selectMethod X.admits]; exact q4
  obtain ⟨vm₁, X₁, hstep₁⟩ := X.invokevirtual hexec hown hlink hnamed hmethM hstM hkP hkPi hy (a := b) (cell := cellB) hcell
    (fun z h => by rw [h] at hobj; cases hobj) hselP hmethM habM hkP hkPi (g := g) hg (argsL := argsL) (rest := rest) (hlen _ hsigM) hstack hdg
  rcases hK m meth c ⟨T.setVm vm₁, locs, cells, slots⟩ { g with stack := rest } (.invokevirtual index) mk (Value.ref b :: argsL).toArray X₁ hg hsize hdg hW (X₁.named hnamed) (hpre vm₁ X₁.warmed) with ⟨v, B, X', hpost, hsteps⟩ | ⟨q, B, X', hpost, hsteps⟩
  · exact Or.inl ⟨v, vm₁, B, X₁.warmed, X', hpost, fun target h => hstep₁ _ fun acts => by rw [doInvoke_state]; exact hsteps.trans h⟩
  · exact Or.inr ⟨q, vm₁, B, X₁.warmed, X', hpost, hstep₁ _ fun acts => by rw [doInvoke_state]; exact hsteps⟩
theorem vx_callS (X : Stand p l e R s m args below meth c T locs cells slots) (hexec : p.tables.exec = Jvm.exec) {own : String} {index : Nat} {y : MethodName} {bytes : ByteArray} {maxL : Nat} {ret : Option FieldType}
    (hown : s.vm.findClass own = some m.cls) (hlink : (Cond.methodLink own index y).before args s = true) (hstat : (Cond.static y).before args s = true) (hinit : (Cond.initialized y.cls).before args s = true)
    (hcode : (Cond.code y bytes maxL ret).before args s = true) (hy : y.cls ≠ "java/lang/invoke/MethodHandle" ∧ y.cls ≠ "java/lang/invoke/VarHandle")
    {W9 : Nat} {Pre : Pt → Array Value → Prop} {Post : Pt → Array Value → Option Value → Pt → Prop} {PostX : Pt → Array Value → Addr → Pt → Prop} (hK : vx_Back l R p e below s args y 3 W9 Pre Post PostX)
    {g : JFrame} (hg : g.method = m) (hsize : g.locals.size = c.maxLocals) {argsL rest : List Value} (hlen : ∀ sig, parseMethodDescriptor y.desc = some sig → argsL.length = sig.parameters.length)
    (hstack : g.stack = argsL.reverse ++ rest) (hW : 2 * g.monitorRoom + (rest.map fun v => v.category).sum ≤ W9) (hdg : decode c.code g.pc = .ok (.invokestatic index, 3))
    (hpre : ∀ vm₁, s.WarmedH vm₁ → Pre ⟨T.setVm vm₁, locs, cells, slots⟩ argsL.toArray) :
    (∃ (v : Option Value) (vm₁ : Vm) (B : Pt), s.WarmedH vm₁ ∧ Stand p l e R s m args below meth c B.U B.locs B.cells B.slots ∧ Post ⟨T.setVm vm₁, locs, cells, slots⟩ argsL.toArray v B ∧
      ∀ target, Steps p.tables e below (B.U.setTop { g with pc := g.pc + 3, stack := v.toList ++ rest }) target → Steps p.tables e below (T.setTop g) target) ∨
    (∃ (q : Addr) (vm₁ : Vm) (B : Pt), s.WarmedH vm₁ ∧ Stand p l e R s m args below meth c B.U B.locs B.cells B.slots ∧ PostX ⟨T.setVm vm₁, locs, cells, slots⟩ argsL.toArray q B ∧
      Steps p.tables e below (T.setTop g) ((B.U.setTop { g with stack := rest }).pushFrame (.throwing q))) := by
  obtain ⟨mk, hnamed⟩ := Cond.code_named hcode
  obtain ⟨methM, cM, hmethM, -, -, -, -, -, -, hsigM⟩ := Cond.code_spec hnamed hcode
  have hstatic : methM.isStatic = true := Cond.static_spec hnamed hmethM hstat
  obtain ⟨kP, hkP, -⟩ := className_of_methodNamed hnamed
  have hinitP : kP.init = .initialized := Cond.initialized_spec (findClass_of_methodNamed hnamed) hkP hinit
  obtain ⟨vm₁, X₁, hstep₁⟩ := X.invokestatic hexec hown hlink hnamed hmethM hstatic hkP hinitP hy (g := g) hg (argsL := argsL) (rest := rest) (hlen _ hsigM) hstack hdg
  rcases hK m meth c ⟨T.setVm vm₁, locs, cells, slots⟩ { g with stack := rest } (.invokestatic index) mk argsL.toArray X₁ hg hsize hdg hW (X₁.named hnamed) (hpre vm₁ X₁.warmed) with ⟨v, B, X', hpost, hsteps⟩ | ⟨q, B, X', hpost, hsteps⟩
  · exact Or.inl ⟨v, vm₁, B, X₁.warmed, X', hpost, fun target h => hstep₁ _ fun acts => by rw [doInvoke_state]; exact hsteps.trans h⟩
  · exact Or.inr ⟨q, vm₁, B, X₁.warmed, X', hpost, hstep₁ _ fun acts => by rw [doInvoke_state]; exact hsteps⟩
end Calls
theorem vx_cls {s : State} {T : State} {vm₁ : Vm} {E : String} {k : ClassId} (hW : s.WarmedH vm₁) (h : (T.setVm vm₁).vm.findClass E = some k) : s.vm.findClass E = some k := by
  have h1 : vm₁.findClass E = some k := h
  rw [hW.alike.findClass] at h1
  exact h1
/-- the method's frame g, with q thrown over it -/
def vx_W (p : Program) (l : Launch) (e : Env) (R : Room) (s : State) (m : MethodId) (args : Array Value) (below : List Frame) (meth : Method) (c : Code) (H : Heap) (locs : List Loc) (cells slots : Nat) (Q : State → Prop) (g : JFrame) (q : Addr) : Prop :=
  ∀ T : State, T.heap = H → Stand p l e R s m args below meth c T locs cells slots → ∃ t, Steps p.tables e below ((T.setTop g).pushFrame (.throwing q)) t ∧ Q t
def vx_Run (p : Program) (l : Launch) (e : Env) (R : Room) (s : State) (m : MethodId) (args : Array Value) (below : List Frame) (meth : Method) (c : Code) (H : Heap) (locs : List Loc) (cells slots mc ms : Nat) (g : JFrame) (rest : List Value) (Qa : State → Outcome → State → Prop) (XC : String → State → State → Prop) (free : Addr → Prop) : Prop :=
  ∀ T : State, T.heap = H → Stand p l e R s m args below meth c T locs cells slots →
    (∃ (v : Option Value) (st₀ t T' : State) (L : List Loc), st₀.heap = H ∧ Stand p l e R s m args below meth c T' (locs ++ L) (cells + mc) (slots + ms) ∧ (∀ q ∈ L, free q.base) ∧ T'.heap = t.heap ∧ T'.vm = t.vm ∧ Qa st₀ (.returned v) t ∧
      Goes p e below T g T' { g with pc := g.pc + 3, stack := v.toList ++ rest }) ∨
    (∃ (q : Addr) (st₀ t T' : State) (L : List Loc) (E : String) (ce : Cell), st₀.heap = H ∧ Stand p l e R s m args below meth c T' (locs ++ L) (cells + mc) (slots + ms) ∧ (∀ z ∈ L, free z.base) ∧ T'.heap = t.heap ∧ T'.vm = t.vm ∧ XC E st₀ t ∧ t.heap[q]? = some ce ∧ ce.vm = .none ∧ s.vm.findClass E = some ce.cls ∧
      Steps p.tables e below (T.setTop g) ((T'.setTop { g with stack := rest }).pushFrame (.throwing q)))
def vx_X {S : Type} (px : S → Prop) (B : String → S → State → Prop) (A : Nat → Prop) : String → State → State → Prop := fun E st t => ∃ u : S, px u ∧ B E u t ∧ va_F A st t
section Runs
variable {p : Program} {l : Launch} {e : Env} {R : Room} {s : State} {m : MethodId} {args : Array Value} {below : List Frame} {meth : Method} {c : Code} {H : Heap} {locs : List Loc} {cells slots : Nat}
variable {y : MethodName} {bytes cc : ByteArray} {maxL nL mc ms n index : Nat} {ret : Option FieldType} {ws : List Cond} {rm : Room} {Pc : Array Value → State → Prop} {Qc : Array Value → State → Outcome → State → Prop} {XC : String → State → State → Prop} {free : Addr → Prop} {Ts : List Cond} {own C : String} {b : Addr} {As rest : List Value} {g : JFrame}
theorem vx_callBack (cb : CallB R s args own index y bytes maxL ret ws rm mc ms n) (hM : vx_Met l y ws rm Pc Qc XC mc ms free) (hbl : FrameBlind Pc) : vx_Back l R p e below s args y 3 8 (PreOf R mc ms Pc) (PostOf Qc mc ms free) (vx_Post XC mc ms free) := by
  obtain ⟨hrc, hrs, hfr, hlo, hws, hcw, -, hini, -⟩ := cb
  exact vx_back (bytes := bytes) (maxL := maxL) (ret := ret) hM hbl hrc hrs hfr hlo hws hcw (fun a' U hW => word_at hW (Or.inl (by first | rfl | simp [Cond.onTables, Cond.keeps, Cond.steady])) hini)
theorem vx_runV (S : CallFix p m c cc nL s args Ts own) (hM : vx_Met l y ws rm Pc Qc XC mc ms free) (cw : CallW R s args own C index y bytes maxL ret ws rm mc ms n) (hp : PreV s H C b Pc As)
    (hg : g.method = m) (hn : As.length = n) (hsize : g.locals.size = nL) (hstack : g.stack = As.reverse ++ .ref b :: rest) (hW : 2 * g.monitorRoom + (rest.map fun v => v.category).sum ≤ 8) (hdg : decode cc g.pc = .ok (.invokevirtual index, 3)) (hf : cells + mc ≤ R.cells ∧ slots + ms ≤ R.slots) :
    vx_Run p l e R s m args below meth c H locs cells slots mc ms g rest (Qc (Value.ref b :: As).toArray) XC free := by
  have hK : vx_Back l R p e below s args y 3 8 (PreOf R mc ms Pc) (PostOf Qc mc ms free) (vx_Post XC mc ms free) := vx_callBack cw.1 hM hp.1
  obtain ⟨⟨-, -, -, -, -, -, hcode, -, hy, hlen, hl⟩, hin, hse⟩ := cw
  obtain ⟨hx, hb, hml, ho, -⟩ := S
  obtain ⟨-, ⟨cellB, hcB, hoB, hclB⟩, hPc⟩ := hp
  intro T hT X
  rcases vx_callV X hx (C := C) (bytes := bytes) (maxL := maxL) (ret := ret) ho hl hin hse hcode hy hK (by rw [hT]; exact hcB) hoB hclB hg (hsize.trans hml.symm) (argsL := As) (rest := rest) (fun sig h => hn.trans (hlen sig h)) hstack hW (by rw [hb]; exact hdg)
    (fun vm₁ hW₁ => ⟨hf.1, hf.2, hPc (T.setVm vm₁) hT hW₁⟩) with ⟨v, vm₁, ⟨U', l2, c2, s2⟩, hW₁, X', ⟨g', mk, t, L, e1, e2, hq, h1, hL, h2, h3⟩, st⟩ | ⟨q, vm₁, ⟨U', l2, c2, s2⟩, hW₁, X', ⟨g', mk, t, L, E, ce, e1, e2, hq, hce, hcv, hcl, h1, hL, h2, h3⟩, st⟩
  · dsimp only [Pt.U, Pt.locs, Pt.cells, Pt.slots] at X' e1 e2 h1 h2 h3 st
    subst h1; subst h2; subst h3
    exact Or.inl ⟨v, (T.setVm vm₁).calling g' mk (Value.ref b :: As).toArray, t, U', L, hT, X', hL, e1, e2, hq, st⟩
  · dsimp only [Pt.U, Pt.locs, Pt.cells, Pt.slots] at X' e1 e2 h1 h2 h3 st hcl
    subst h1; subst h2; subst h3
    exact Or.inr ⟨q, (T.setVm vm₁).calling g' mk (Value.ref b :: As).toArray, t, U', L, E, ce, hT, X', hL, e1, e2, hq, hce, hcv, vx_cls hW₁ hcl, st⟩
theorem vx_runS (S : CallFix p m c cc nL s args Ts own) (hM : vx_Met l y ws rm Pc Qc XC mc ms free) (cw : CallB R s args own index y bytes maxL ret ws rm mc ms n ∧ (Cond.static y).before args s = true) (hp : PreS s H Pc As)
    (hg : g.method = m) (hn : As.length = n) (hsize : g.locals.size = nL) (hstack : g.stack = As.reverse ++ rest) (hW : 2 * g.monitorRoom + (rest.map fun v => v.category).sum ≤ 8) (hdg : decode cc g.pc = .ok (.invokestatic index, 3)) (hf : cells + mc ≤ R.cells ∧ slots + ms ≤ R.slots) :
    vx_Run p l e R s m args below meth c H locs cells slots mc ms g rest (Qc As.toArray) XC free := by
  have hK : vx_Back l R p e below s args y 3 8 (PreOf R mc ms Pc) (PostOf Qc mc ms free) (vx_Post XC mc ms free) := vx_callBack cw.1 hM hp.1
  obtain ⟨⟨-, -, -, -, -, -, hcode, hini, hy, hlen, hl⟩, hstt⟩ := cw
  obtain ⟨hx, hb, hml, ho, -⟩ := S
  intro T hT X
  rcases vx_callS X hx (bytes := bytes) (maxL := maxL) (ret := ret) ho hl hstt hini hcode hy hK hg (hsize.trans hml.symm) (argsL := As) (rest := rest) (fun sig h => hn.trans (hlen sig h)) hstack hW (by rw [hb]; exact hdg)
    (fun vm₁ hW₁ => ⟨hf.1, hf.2, hp.2 (T.setVm vm₁) hT hW₁⟩) with ⟨v, vm₁, ⟨U', l2, c2, s2⟩, hW₁, X', ⟨g', mk, t, L, e1, e2, hq, h1, hL, h2, h3⟩, st⟩ | ⟨q, vm₁, ⟨U', l2, c2, s2⟩, hW₁, X', ⟨g', mk, t, L, E, ce, e1, e2, hq, hce, hcv, hcl, h1, hL, h2, h3⟩, st⟩
  · dsimp only [Pt.U, Pt.locs, Pt.cells, Pt.slots] at X' e1 e2 h1 h2 h3 st
    subst h1; subst h2; subst h3
    exact Or.inl ⟨v, (T.setVm vm₁).calling g' mk As.toArray, t, U', L, hT, X', hL, e1, e2, hq, st⟩
  · dsimp only [Pt.U, Pt.locs, Pt.cells, Pt.slots] at X' e1 e2 h1 h2 h3 st hcl
    subst h1; subst h2; subst h3
    exact Or.inr ⟨q, (T.setVm vm₁).calling g' mk As.toArray, t, U', L, E, ce, hT, X', hL, e1, e2, hq, hce, hcv, vx_cls hW₁ hcl, st⟩
end Runs
section Rows
variable {p : Program} {l : Launch} {e : Env} {R : Room} {s : State} {m : MethodId} {args : Array Value} {below : List Frame} {meth : Method} {c : Code} {H : Heap} {locs : List Loc} {cells slots : Nat} {Q : State → Prop}
variable {mc ms : Nat} {free : Addr → Prop} {A0 A1 : Nat → Prop} {H0 : Heap} {a : Array Value} {pc : Nat} {ls : Array Slot} {st0 rest : List Value}
theorem vx_keep {st₀ t T' : State} {L : List Loc} (h0 : st₀.heap = H) (e1 : T'.heap = t.heap) (hS : va_S A0 H0 H locs) (hA : ∀ q, q < H.size → A1 q → A0 q) (hf : ∀ q, free q → A0 q) (hL : ∀ q ∈ L, free q.base) (hF : va_F A1 st₀ t) :
    H.size ≤ T'.heap.size ∧ (∀ q : Nat, q < H.size → ¬ A1 q → T'.heap[q]? = H[q]?) ∧ va_S A0 H0 T'.heap (locs ++ L) := by
  obtain ⟨hz, hk⟩ := hF
  rw [h0] at hz hk
  exact ⟨by rw [e1]; exact hz, fun q h1 h2 => by rw [e1]; exact hk q h1 h2,
    ⟨Nat.le_trans hS.1 (by rw [e1]; exact hz), fun q h1 h2 => by rw [e1, hk q (Nat.lt_of_lt_of_le h1 hS.1) (fun z => h2 (hA q (Nat.lt_of_lt_of_le h1 hS.1) z))]; exact hS.2.1 q h1 h2, fun q hq => by
      rcases List.mem_append.mp hq with h | h
      · exact hS.2.2 q h
      · exact hf _ (hL q h)⟩⟩
theorem vx_calli {S SX : Type} {post : Int32 → S → Prop} {px : SX → Prop} {B : S → State → Prop} {BX : String → SX → State → Prop} {AX : Nat → Prop} (hr : vx_Run p l e R s m args below meth c H locs cells slots mc ms (F0 m pc ls st0) rest (va_Qi post B A1 a) (vx_X px BX AX) free) (hS : va_S A0 H0 H locs) (hA : ∀ q, q < H.size → A1 q → A0 q) (hf : ∀ q, free q → A0 q) (hAX : ∀ q, q < H.size → AX q → A0 q)
    (kx : ∀ (E : String) (ce : Cell) (q9 : Addr) (u : SX) (t : State) (H1 : Heap) (locs1 : List Loc), t.heap = H1 → s.vm.Alike t.vm → px u → BX E u t → H.size ≤ H1.size → (∀ q : Nat, q < H.size → ¬ AX q → H1[q]? = H[q]?) → va_S A0 H0 H1 locs1 → H1[q9]? = some ce → ce.vm = .none → s.vm.findClass E = some ce.cls → vx_W p l e R s m args below meth c H1 locs1 (cells + mc) (slots + ms) Q (F0 m pc ls rest) q9)
    (kk : ∀ (r : Int32) (u : S) (t : State) (H1 : Heap) (locs1 : List Loc), t.heap = H1 → s.vm.Alike t.vm → post r u → B u t → H.size ≤ H1.size → (∀ q : Nat, q < H.size → ¬ A1 q → H1[q]? = H[q]?) → va_S A0 H0 H1 locs1 → W p l e R s m args below meth c H1 locs1 (cells + mc) (slots + ms) Q (F0 m (pc + 3) ls (.int r :: rest))) : W p l e R s m args below meth c H locs cells slots Q (F0 m pc ls st0) := by
  intro T hT X
  rcases hr T hT X with ⟨v, st₀, t, T', L, h0, X', hL, e1, e2, ⟨⟨r, u, hv, hp, hb⟩, hF⟩, st⟩ | ⟨q, st₀, t, T', L, E, ce, h0, X', hL, e1, e2, ⟨u, hp, hb, hF⟩, hce, hcv, hcl, st⟩
  · cases hv
    obtain ⟨k1, k2, k3⟩ := vx_keep h0 e1 hS hA hf hL hF
    obtain ⟨t2, a1, b1⟩ := kk r u t T'.heap (locs ++ L) e1.symm (by rw [← e2]; exact X'.warmed.alike) hp hb k1 k2 k3 T' rfl X'
    exact ⟨t2, st t2 a1, b1⟩
  · obtain ⟨k1, k2, k3⟩ := vx_keep h0 e1 hS hAX hf hL hF
    obtain ⟨t2, a1, b1⟩ := kx E ce q u t T'.heap (locs ++ L) e1.symm (by rw [← e2]; exact X'.warmed.alike) hp hb k1 k2 k3 (by rw [e1]; exact hce) hcv hcl T' rfl X'
    exact ⟨t2, st.trans a1, b1⟩
theorem vx_calll {S SX : Type} {post : Int64 → S → Prop} {px : SX → Prop} {B : S → State → Prop} {BX : String → SX → State → Prop} {AX : Nat → Prop} (hr : vx_Run p l e R s m args below meth c H locs cells slots mc ms (F0 m pc ls st0) rest (va_Ql post B A1 a) (vx_X px BX AX) free) (hS : va_S A0 H0 H locs) (hA : ∀ q, q < H.size → A1 q → A0 q) (hf : ∀ q, free q → A0 q) (hAX : ∀ q, q < H.size → AX q → A0 q)
    (kx : ∀ (E : String) (ce : Cell) (q9 : Addr) (u : SX) (t : State) (H1 : Heap) (locs1 : List Loc), t.heap = H1 → s.vm.Alike t.vm → px u → BX E u t → H.size ≤ H1.size → (∀ q : Nat, q < H.size → ¬ AX q → H1[q]? = H[q]?) → va_S A0 H0 H1 locs1 → H1[q9]? = some ce → ce.vm = .none → s.vm.findClass E = some ce.cls → vx_W p l e R s m args below meth c H1 locs1 (cells + mc) (slots + ms) Q (F0 m pc ls rest) q9)
    (kk : ∀ (r : Int64) (u : S) (t : State) (H1 : Heap) (locs1 : List Loc), t.heap = H1 → s.vm.Alike t.vm → post r u → B u t → H.size ≤ H1.size → (∀ q : Nat, q < H.size → ¬ A1 q → H1[q]? = H[q]?) → va_S A0 H0 H1 locs1 → W p l e R s m args below meth c H1 locs1 (cells + mc) (slots + ms) Q (F0 m (pc + 3) ls (.long r :: rest))) : W p l e R s m args below meth c H locs cells slots Q (F0 m pc ls st0) := by
  intro T hT X
  rcases hr T hT X with ⟨v, st₀, t, T', L, h0, X', hL, e1, e2, ⟨⟨r, u, hv, hp, hb⟩, hF⟩, st⟩ | ⟨q, st₀, t, T', L, E, ce, h0, X', hL, e1, e2, ⟨u, hp, hb, hF⟩, hce, hcv, hcl, st⟩
  · cases hv
    obtain ⟨k1, k2, k3⟩ := vx_keep h0 e1 hS hA hf hL hF
    obtain ⟨t2, a1, b1⟩ := kk r u t T'.heap (locs ++ L) e1.symm (by rw [← e2]; exact X'.warmed.alike) hp hb k1 k2 k3 T' rfl X'
    exact ⟨t2, st t2 a1, b1⟩
  · obtain ⟨k1, k2, k3⟩ := vx_keep h0 e1 hS hAX hf hL hF
    obtain ⟨t2, a1, b1⟩ := kx E ce q u t T'.heap (locs ++ L) e1.symm (by rw [← e2]; exact X'.warmed.alike) hp hb k1 k2 k3 (by rw [e1]; exact hce) hcv hcl T' rfl X'
    exact ⟨t2, st.trans a1, b1⟩
theorem vx_callf {S SX : Type} {post : UInt32 → S → Prop} {px : SX → Prop} {B : S → State → Prop} {BX : String → SX → State → Prop} {AX : Nat → Prop} (hr : vx_Run p l e R s m args below meth c H locs cells slots mc ms (F0 m pc ls st0) rest (va_Qf post B A1 a) (vx_X px BX AX) free) (hS : va_S A0 H0 H locs) (hA : ∀ q, q < H.size → A1 q → A0 q) (hf : ∀ q, free q → A0 q) (hAX : ∀ q, q < H.size → AX q → A0 q)
    (kx : ∀ (E : String) (ce : Cell) (q9 : Addr) (u : SX) (t : State) (H1 : Heap) (locs1 : List Loc), t.heap = H1 → s.vm.Alike t.vm → px u → BX E u t → H.size ≤ H1.size → (∀ q : Nat, q < H.size → ¬ AX q → H1[q]? = H[q]?) → va_S A0 H0 H1 locs1 → H1[q9]? = some ce → ce.vm = .none → s.vm.findClass E = some ce.cls → vx_W p l e R s m args below meth c H1 locs1 (cells + mc) (slots + ms) Q (F0 m pc ls rest) q9)
    (kk : ∀ (r : UInt32) (u : S) (t : State) (H1 : Heap) (locs1 : List Loc), t.heap = H1 → s.vm.Alike t.vm → post r u → B u t → H.size ≤ H1.size → (∀ q : Nat, q < H.size → ¬ A1 q → H1[q]? = H[q]?) → va_S A0 H0 H1 locs1 → W p l e R s m args below meth c H1 locs1 (cells + mc) (slots + ms) Q (F0 m (pc + 3) ls (.float r :: rest))) : W p l e R s m args below meth c H locs cells slots Q (F0 m pc ls st0) := by
  intro T hT X
  rcases hr T hT X with ⟨v, st₀, t, T', L, h0, X', hL, e1, e2, ⟨⟨r, u, hv, hp, hb⟩, hF⟩, st⟩ | ⟨q, st₀, t, T', L, E, ce, h0, X', hL, e1, e2, ⟨u, hp, hb, hF⟩, hce, hcv, hcl, st⟩
  · cases hv
    obtain ⟨k1, k2, k3⟩ := vx_keep h0 e1 hS hA hf hL hF
    obtain ⟨t2, a1, b1⟩ := kk r u t T'.heap (locs ++ L) e1.symm (by rw [← e2]; exact X'.warmed.alike) hp hb k1 k2 k3 T' rfl X'
    exact ⟨t2, st t2 a1, b1⟩
  · obtain ⟨k1, k2, k3⟩ := vx_keep h0 e1 hS hAX hf hL hF
    obtain ⟨t2, a1, b1⟩ := kx E ce q u t T'.heap (locs ++ L) e1.symm (by rw [← e2]; exact X'.warmed.alike) hp hb k1 k2 k3 (by rw [e1]; exact hce) hcv hcl T' rfl X'
    exact ⟨t2, st.trans a1, b1⟩
theorem vx_calld {S SX : Type} {post : UInt64 → S → Prop} {px : SX → Prop} {B : S → State → Prop} {BX : String → SX → State → Prop} {AX : Nat → Prop} (hr : vx_Run p l e R s m args below meth c H locs cells slots mc ms (F0 m pc ls st0) rest (va_Qd post B A1 a) (vx_X px BX AX) free) (hS : va_S A0 H0 H locs) (hA : ∀ q, q < H.size → A1 q → A0 q) (hf : ∀ q, free q → A0 q) (hAX : ∀ q, q < H.size → AX q → A0 q)
    (kx : ∀ (E : String) (ce : Cell) (q9 : Addr) (u : SX) (t : State) (H1 : Heap) (locs1 : List Loc), t.heap = H1 → s.vm.Alike t.vm → px u → BX E u t → H.size ≤ H1.size → (∀ q : Nat, q < H.size → ¬ AX q → H1[q]? = H[q]?) → va_S A0 H0 H1 locs1 → H1[q9]? = some ce → ce.vm = .none → s.vm.findClass E = some ce.cls → vx_W p l e R s m args below meth c H1 locs1 (cells + mc) (slots + ms) Q (F0 m pc ls rest) q9)
    (kk : ∀ (r : UInt64) (u : S) (t : State) (H1 : Heap) (locs1 : List Loc), t.heap = H1 → s.vm.Alike t.vm → post r u → B u t → H.size ≤ H1.size → (∀ q : Nat, q < H.size → ¬ A1 q → H1[q]? = H[q]?) → va_S A0 H0 H1 locs1 → W p l e R s m args below meth c H1 locs1 (cells + mc) (slots + ms) Q (F0 m (pc + 3) ls (.double r :: rest))) : W p l e R s m args below meth c H locs cells slots Q (F0 m pc ls st0) := by
  intro T hT X
  rcases hr T hT X with ⟨v, st₀, t, T', L, h0, X', hL, e1, e2, ⟨⟨r, u, hv, hp, hb⟩, hF⟩, st⟩ | ⟨q, st₀, t, T', L, E, ce, h0, X', hL, e1, e2, ⟨u, hp, hb, hF⟩, hce, hcv, hcl, st⟩
  · cases hv
    obtain ⟨k1, k2, k3⟩ := vx_keep h0 e1 hS hA hf hL hF
    obtain ⟨t2, a1, b1⟩ := kk r u t T'.heap (locs ++ L) e1.symm (by rw [← e2]; exact X'.warmed.alike) hp hb k1 k2 k3 T' rfl X'
    exact ⟨t2, st t2 a1, b1⟩
  · obtain ⟨k1, k2, k3⟩ := vx_keep h0 e1 hS hAX hf hL hF
    obtain ⟨t2, a1, b1⟩ := kx E ce q u t T'.heap (locs ++ L) e1.symm (by rw [← e2]; exact X'.warmed.alike) hp hb k1 k2 k3 (by rw [e1]; exact hce) hcv hcl T' rfl X'
    exact ⟨t2, st.trans a1, b1⟩
theorem vx_callv {S SX : Type} {post : S → Prop} {px : SX → Prop} {B : S → State → Prop} {BX : String → SX → State → Prop} {AX : Nat → Prop} (hr : vx_Run p l e R s m args below meth c H locs cells slots mc ms (F0 m pc ls st0) rest (va_Qv post B A1 a) (vx_X px BX AX) free) (hS : va_S A0 H0 H locs) (hA : ∀ q, q < H.size → A1 q → A0 q) (hf : ∀ q, free q → A0 q) (hAX : ∀ q, q < H.size → AX q → A0 q)
    (kx : ∀ (E : String) (ce : Cell) (q9 : Addr) (u : SX) (t : State) (H1 : Heap) (locs1 : List Loc), t.heap = H1 → s.vm.Alike t.vm → px u → BX E u t → H.size ≤ H1.size → (∀ q : Nat, q < H.size → ¬ AX q → H1[q]? = H[q]?) → va_S A0 H0 H1 locs1 → H1[q9]? = some ce → ce.vm = .none → s.vm.findClass E = some ce.cls → vx_W p l e R s m args below meth c H1 locs1 (cells + mc) (slots + ms) Q (F0 m pc ls rest) q9)
    (kk : ∀ (u : S) (t : State) (H1 : Heap) (locs1 : List Loc), t.heap = H1 → s.vm.Alike t.vm → post u → B u t → H.size ≤ H1.size → (∀ q : Nat, q < H.size → ¬ A1 q → H1[q]? = H[q]?) → va_S A0 H0 H1 locs1 → W p l e R s m args below meth c H1 locs1 (cells + mc) (slots + ms) Q (F0 m (pc + 3) ls (rest))) : W p l e R s m args below meth c H locs cells slots Q (F0 m pc ls st0) := by
  intro T hT X
  rcases hr T hT X with ⟨v, st₀, t, T', L, h0, X', hL, e1, e2, ⟨⟨u, hv, hp, hb⟩, hF⟩, st⟩ | ⟨q, st₀, t, T', L, E, ce, h0, X', hL, e1, e2, ⟨u, hp, hb, hF⟩, hce, hcv, hcl, st⟩
  · cases hv
    obtain ⟨k1, k2, k3⟩ := vx_keep h0 e1 hS hA hf hL hF
    obtain ⟨t2, a1, b1⟩ := kk u t T'.heap (locs ++ L) e1.symm (by rw [← e2]; exact X'.warmed.alike) hp hb k1 k2 k3 T' rfl X'
    exact ⟨t2, st t2 a1, b1⟩
  · obtain ⟨k1, k2, k3⟩ := vx_keep h0 e1 hS hAX hf hL hF
    obtain ⟨t2, a1, b1⟩ := kx E ce q u t T'.heap (locs ++ L) e1.symm (by rw [← e2]; exact X'.warmed.alike) hp hb k1 k2 k3 (by rw [e1]; exact hce) hcv hcl T' rfl X'
    exact ⟨t2, st.trans a1, b1⟩
/-- caught by the row x of this method's table; the rows ahead don't take it -/
theorem vx_catch {own name : String} {E : String} {ce : Cell} {q : Addr} (hown : s.vm.findClass own = some m.cls) (pre : List ExceptionTableEntry) (x : ExceptionTableEntry) (suf : List ExceptionTableEntry) (hsplit : c.exceptionTable.toList = pre ++ x :: suf)
    (hpass : ∀ z ∈ pre, covers z pc = false ∨ (z.catchType ≠ 0 ∧ ∃ nm : String, (Cond.classLink own z.catchType nm).before args s = true ∧ va_Nc E nm s)) (hx : covers x pc = true) (h0 : x.catchType ≠ 0)
    (hlink : (Cond.classLink own x.catchType name).before args s = true) (hcast : (Cond.castable E name).before args s = true) (hcell : H[q]? = some ce) (hv : ce.vm = .none) (hcl : s.vm.findClass E = some ce.cls)
    (kk : W p l e R s m args below meth c H locs cells slots Q (F0 m x.handlerPc ls [.ref q])) : vx_W p l e R s m args below meth c H locs cells slots Q (F0 m pc ls rest) q := by
  intro T hT X
  have hpl : e.platform.magicAccessors = ({} : Platform).magicAccessors := by rw [X.admits.platform]
  obtain ⟨c3, c4, hc3, hc4, hasg⟩ := Cond.castable_spec hcast
  cases Option.some.inj (hc3.symm.trans hcl)
  obtain ⟨c5, hc5, hcl5⟩ := Cond.classLink_spec hown hlink e.platform hpl
  cases Option.some.inj (hc4.symm.trans hc5)
  obtain ⟨vm', X', st⟩ := X.thenCaughtThrough q (g := F0 m pc ls rest) rfl (Steps.refl _) (by rw [hT]; exact hcell) (by rw [hv]; rfl) (by obtain ⟨k9, h9, -⟩ := Vm.findClass_spec hcl; exact ⟨k9, h9⟩) pre x suf hsplit
    (fun z hz => by
      rcases hpass z hz with h | ⟨hz0, nm, hl1, hn1⟩
      · exact Or.inl h
      · obtain ⟨c6, hc6, hcl6⟩ := Cond.classLink_spec hown hl1 e.platform hpl
        obtain ⟨a8, b8, h1, h2, h3⟩ := hn1
        cases Option.some.inj (h1.symm.trans hcl)
        cases Option.some.inj (h2.symm.trans hc6)
        exact Or.inr ⟨hz0, _, hcl6, h3⟩) hx (Or.inr ⟨h0, c4, hcl5, hasg⟩)
  obtain ⟨t, a1, b1⟩ := kk (T.setVm vm') hT X'
  exact ⟨t, st.trans a1, b1⟩
end Rows
section Ends
variable {p : Program} {l : Launch} {e : Env} {R : Room} {s : State} {m : MethodId} {args : Array Value} {below : List Frame} {meth : Method} {c : Code} {H : Heap} {locs : List Loc} {cells slots : Nat} {Q : State → Prop}
variable {mc ms : Nat} {free : Addr → Prop} {A0 A1 : Nat → Prop} {H0 : Heap} {a : Array Value} {ls : Array Slot} {st0 rest : List Value}
variable {Qc : Array Value → State → Outcome → State → Prop} {XC : String → State → State → Prop}
/-- what a body that may throw owes at its end -/
def vx_MQ (below : List Frame) (Qc : Array Value → State → Outcome → State → Prop) (XC : String → State → State → Prop) (a : Array Value) (s : State) (mc ms : Nat) (free : Addr → Prop) : State → Prop := fun t =>
  ∃ o, t.status = .running ∧ Ended t below o ∧ vx_Q Qc XC mc ms free a s o t
theorem vx_ret {g : JFrame} {mc ms : Nat} (k : W p l e R s m args below meth c H locs cells slots (MQ below Qc args s mc ms free) g) : W p l e R s m args below meth c H locs cells slots (vx_MQ below Qc XC args s mc ms free) g := by
  intro T hT X
  obtain ⟨t, a1, o, b1, b2, b3, b4⟩ := k T hT X
  exact ⟨t, a1, o, b1, b2, Or.inl ⟨b3, b4⟩⟩
/-- not caught here: it goes on to the caller -/
theorem vx_widen {g : JFrame} {q : Addr} {k n : Nat} (h1 : cells ≤ k) (h2 : slots ≤ n) (kk : vx_W p l e R s m args below meth c H locs k n Q g q) : vx_W p l e R s m args below meth c H locs cells slots Q g q := fun T hT X => kk T hT (stand_widen X h1 h2)
theorem vx_out {pc : Nat} {E : String} {ce : Cell} {q : Addr} {mc ms : Nat} (hout : ∀ x ∈ c.exceptionTable.toList, covers x pc = false) (hlocks : meth.locks = false) (hcell : H[q]? = some ce) (hv : ce.vm = .none) (hcl : s.vm.findClass E = some ce.cls)
    (hx : ∀ t : State, t.heap = H → s.vm.Alike t.vm → XC E s t) (hf : ∀ z ∈ locs, free z.base) (hc : cells ≤ mc) (hs : slots ≤ ms) :
    vx_W p l e R s m args below meth c H locs cells slots (vx_MQ below Qc XC args s mc ms free) (F0 m pc ls rest) q := by
  intro T hT X
  obtain ⟨st1, hrun, hend, hW, hsm⟩ := X.leaveThrown q (g := F0 m pc ls rest) rfl rfl rfl hout hlocks
  have hcell9 : (T.setFrames (.throwing q :: below)).heap[q]? = some ce := by
    show T.heap[q]? = some ce
    rw [hT]; exact hcell
  exact ⟨_, st1, .threw q, hrun, hend, Or.inr ⟨q, rfl, E, ce, locs, hx _ hT hW.alike, hcell9, hv, hcl, hW, hsm.mono hc hs, hf⟩⟩
theorem vx_frame {U : State} {k n : Nat} (h : s.sameButNew ({ U with vm := s.vm } : State) locs k n) : s.heap.size ≤ U.heap.size ∧ ∀ q : Nat, q < s.heap.size → (∀ z ∈ locs, z.base ≠ q) → U.heap[q]? = s.heap[q]? := by
  obtain ⟨-, h2, -, -, -, h6⟩ := h
  refine ⟨h2, fun q hq hz => ?_⟩
  obtain ⟨c9, e1, e2, e3, e4⟩ := h6 q _ (Array.getElem?_eq_getElem hq)
  have hs : c9.slots = (s.heap[q]).slots := Array.ext_getElem? fun i => e4 i fun hm => hz _ hm rfl
  have h9 : c9 = s.heap[q] := by
    rw [hs] at e2
    exact e2
  have e5 : U.heap[q]? = some c9 := e1
  rw [e5, h9, Array.getElem?_eq_getElem hq]
/-- the words of a throw but the four that speak of the heap -/
def vx_no (w : Cond) : Bool := decide (w ≠ .isRef (.static Bundle.tN "UNASSIGNED_STACK" Bundle.steD)) && decide (w ≠ .isRef (.static Bundle.tN "SUPPRESSED_SENTINEL" Bundle.listD)) && decide (w ≠ .laysStatic Bundle.tN "UNASSIGNED_STACK" Bundle.steD) && decide (w ≠ .laysStatic Bundle.tN "SUPPRESSED_SENTINEL" Bundle.listD)
def vx_at0 (own : String) (ic : Nat) (X : String) (names : List String) : List Cond := (Bundle.ownAtoms0 own ic X names).filter vx_no
def vx_atS (own : String) (ic : Nat) (X : String) (names : List String) : List Cond := (Bundle.ownAtoms own ic X names).filter vx_no
/-- a word that the tables alone decide, or a good one -/
def vx_ot (w : Cond) : Bool := w.onTables || goodWord w
theorem vx_ot_at {args a' : Array Value} {s U : State} {w : Cond} (hW : s.WarmedH U.vm) (hvm : s.vm = U.vm) (hg : vx_ot w = true) (h : w.before args s = true) : w.before a' U = true := by
  simp only [vx_ot, Bool.or_eq_true] at hg
  rcases hg with hg | hg
  · exact va_tabs hg hvm h
  · exact word_at hW (good_of_word hg) h
/-- a list's words: the good ones out of the method's own list, the others by premises of their own -/
theorem vx_hat {args : Array Value} {s : State} {L B : List Cond} (h1 : ∀ w ∈ L.filter goodWord, w.before args s = true) (h2 : ∀ w ∈ L.filter (fun w => !goodWord w), w ∈ B) (h3 : ∀ w ∈ B, w.before args s = true) : ∀ w ∈ L, w.before args s = true := by
  intro w hw
  by_cases g : goodWord w = true
  · exact h1 w (List.mem_filter.mpr ⟨hw, g⟩)
  · refine h3 w (h2 w (List.mem_filter.mpr ⟨hw, ?_⟩))
    show (!goodWord w) = true
    cases hgw : goodWord w
    · rfl
    · exact absurd hgw g
theorem vx_c {args : Array Value} {s : State} {w : Cond} {B : List Cond} (h : w.before args s = true) (t : ∀ w ∈ B, w.before args s = true) : ∀ w' ∈ w :: B, w'.before args s = true := fun w' h' => (List.mem_cons.mp h').elim (fun e => by rw [e]; exact h) (t w')
theorem vx_n {args : Array Value} {s : State} : ∀ w ∈ ([] : List Cond), w.before args s = true := fun _ h => nomatch h
theorem vx_own {args : Array Value} {s : State} {L : List Cond} (h1 : ∀ w ∈ L.filter vx_no, w.before args s = true)
    (hU : (Cond.isRef (.static Bundle.tN "UNASSIGNED_STACK" Bundle.steD)).before args s = true) (hN : (Cond.isRef (.static Bundle.tN "SUPPRESSED_SENTINEL" Bundle.listD)).before args s = true)
    (lU : (Cond.laysStatic Bundle.tN "UNASSIGNED_STACK" Bundle.steD).before args s = true) (lN : (Cond.laysStatic Bundle.tN "SUPPRESSED_SENTINEL" Bundle.listD).before args s = true) : ∀ w ∈ L, w.before args s = true := by
  intro w hw
  by_cases e1 : w = .isRef (.static Bundle.tN "UNASSIGNED_STACK" Bundle.steD)
  · rw [e1]; exact hU
  · by_cases e2 : w = .isRef (.static Bundle.tN "SUPPRESSED_SENTINEL" Bundle.listD)
    · rw [e2]; exact hN
    · by_cases e3 : w = .laysStatic Bundle.tN "UNASSIGNED_STACK" Bundle.steD
      · rw [e3]; exact lU
      · by_cases e4 : w = .laysStatic Bundle.tN "SUPPRESSED_SENTINEL" Bundle.listD
        · rw [e4]; exact lN
        · exact h1 w (List.mem_filter.mpr ⟨hw, by unfold vx_no; rw [decide_eq_true e1, decide_eq_true e2, decide_eq_true e3, decide_eq_true e4]; rfl⟩)
/-- where a static field lies, its class's statics cell in H -/
def vx_L (C n d : String) (A : Nat → Prop) (U : State) (H : Heap) : Prop := ∃ (c : ClassId) (k : Class) (i : Nat) (f : Field) (a : Nat) (cell : Cell), U.vm.findClass C = some c ∧ U.fieldFound? C n d = some (c, k, i, f) ∧ f.isStatic = true ∧ k.statics = some a ∧ H[a]? = some cell ∧ cell.vm.isStatics = true ∧ cell.cls = c ∧ f.slot < cell.slots.size ∧ k.staticTypes[f.slot]? = some f.type ∧ ¬ A a
theorem vx_L.moved {C n d : String} {A : Nat → Prop} {u U : State} {H : Heap} (hvm : u.vm.Alike U.vm) (h : vx_L C n d A u H) : vx_L C n d A U H := by
  obtain ⟨c, k, i, f, a, cell, h1, h2, h3, h4, h5, h6, h7, h8, h9, h10⟩ := h
  obtain ⟨k', hi', he⟩ := State.fieldFound?_setVm hvm h2
  exact ⟨c, k', i, f, a, cell, by rw [hvm.findClass]; exact h1, hi', h3, by rw [he]; exact h4, h5, h6, h7, h8, by rw [he]; exact h9, h10⟩
theorem vx_L.kept {C n d : String} {A : Nat → Prop} {U : State} {H H1 : Heap} (h : vx_L C n d A U H) (hq : ∀ a : Nat, a < H.size → ¬ A a → H1[a]? = H[a]?) : vx_L C n d A U H1 := by
  obtain ⟨c, k, i, f, a, cell, h1, h2, h3, h4, h5, h6, h7, h8, h9, h10⟩ := h
  exact ⟨c, k, i, f, a, cell, h1, h2, h3, h4, by rw [hq a (Array.getElem?_eq_some_iff.mp h5).1 h10]; exact h5, h6, h7, h8, h9, h10⟩
theorem vx_L.narrow {C n d : String} {A B : Nat → Prop} {U : State} {H : Heap} (h : vx_L C n d A U H) (hAB : ∀ q, B q → A q) : vx_L C n d B U H := by
  obtain ⟨c, k, i, f, a, cell, h1, h2, h3, h4, h5, h6, h7, h8, h9, h10⟩ := h
  exact ⟨c, k, i, f, a, cell, h1, h2, h3, h4, h5, h6, h7, h8, h9, fun z => h10 (hAB _ z)⟩
theorem vx_L.word {C n d : String} {A : Nat → Prop} {s : State} {args : Array Value} (h : vx_L C n d A s s.heap) : (Cond.laysStatic C n d).before args s = true := by
  obtain ⟨c, k, i, f, a, cell, h1, h2, h3, h4, h5, h6, h7, h8, h9, -⟩ := h
  show (Cond.laysStatic C n d).holds args s none s [] = true
  exact Cond.laysStatic_of h1 h2 h3 h4 h5 h6 h7 h8 h9
/-- .. and what it holds: null or some reference -/
def vx_Zq (C n d : String) (A : Nat → Prop) (U : State) (H : Heap) : Prop := va_Zq C n d A U H ∧ vx_L C n d A U H
theorem vx_Zq.moved {C n d : String} {A : Nat → Prop} {u U : State} {H : Heap} (hvm : u.vm.Alike U.vm) (h : vx_Zq C n d A u H) : vx_Zq C n d A U H := ⟨va_Zq.moved hvm h.1, vx_L.moved hvm h.2⟩
theorem vx_Zq.kept {C n d : String} {A : Nat → Prop} {U : State} {H H1 : Heap} (h : vx_Zq C n d A U H) (hq : ∀ a : Nat, a < H.size → ¬ A a → H1[a]? = H[a]?) : vx_Zq C n d A U H1 := ⟨va_Zq.kept h.1 hq, vx_L.kept h.2 hq⟩
theorem vx_Zq.narrow {C n d : String} {A B : Nat → Prop} {U : State} {H : Heap} (h : vx_Zq C n d A U H) (hAB : ∀ q, B q → A q) : vx_Zq C n d B U H := ⟨va_Zq.narrow h.1 hAB, vx_L.narrow h.2 hAB⟩
theorem vx_Zqof {args : Array Value} {s : State} {C n d : String} {A : Nat → Prop} (hl : (Cond.laysStatic C n d).before args s = true) (hini : (Cond.initialized C).before args s = true) (h : (Cond.isRef (.static C n d)).before args s = true) (hA : ∀ a : Nat, a < s.heap.size → ¬ A a) : vx_Zq C n d A s s.heap := by
  refine ⟨va_Zqof hl hini h hA, ?_⟩
  obtain ⟨c, k, i, f, a, cell, h1, h2, h3, h4, h5, h6, h7, h8, h9⟩ := Cond.laysStatic_spec hl
  exact ⟨c, k, i, f, a, cell, h1, h2, h3, h4, h5, h6, h7, h8, h9, hA a (Array.getElem?_eq_some_iff.mp h5).1⟩
theorem vx_isRef {C n d : String} {v : Value} {A : Nat → Prop} {s : State} {args : Array Value} (h : va_Z C n d v A s s.heap) (hv : v.isRef = true) : (Cond.isRef (.static C n d)).before args s = true := by
  obtain ⟨cf, kf, fi, f, a, cell, h1, h2, h3, h4, h5, h6, h7, -⟩ := h
  have he : (Term.static C n d).eval args s none [] s = some v := by
    simp [Term.eval, State.fieldNamed?, h1, h2, h4, h5, h6, h7]
  simp only [Cond.before, Cond.holds, Cond.value, he]
  cases v <;> simp_all [Value.isRef]
theorem vx_isRefq {C n d : String} {A : Nat → Prop} {s : State} {args : Array Value} (h : va_Zq C n d A s s.heap) : (Cond.isRef (.static C n d)).before args s = true := by
  rcases h with h | ⟨t, h⟩
  · exact vx_isRef h rfl
  · exact vx_isRef h rfl
/-- the same frame, seen from here: as if the method were called anew in this heap -/
theorem vx_rebase {T : State} (X : Stand p l e R s m args below meth c T locs cells slots) {R' : Room} (hf : R'.frames ≤ R.frames) (hl : R'.locals ≤ R.locals) (hc : cells + R'.cells ≤ R.cells) (hs : slots + R'.slots ≤ R.slots) :
    Stand p l e R' ((T.setVm s.vm).setFrames (.invoking m args :: below)) m args below meth c T [] 0 0 := by
  have htop : (T.setVm s.vm).topJava?.isSome := X.here.top
  have hF : ((T.setVm s.vm).setFrames (.invoking m args :: below)).frames = .invoking m args :: below := State.frames_setFrames _ (State.cur_lt_of_top htop)
  obtain ⟨g₀, hg0⟩ := Option.isSome_iff_exists.mp htop
  obtain ⟨r, hr⟩ := State.topJava?_eq_some.mp hg0
  have hl9 : e.platform.stackLimits (T.setVm s.vm).me = e.platform.stackLimits s.me := X.limits
  have hb9 : (T.setVm s.vm).me.stackBytes = s.me.stackBytes := X.bytes
  refine ⟨X.admits, X.cas, X.clock, hF, ?_, X.hears, X.method, X.code, X.here, X.tail, X.warmed, ?_, ?_, ?_⟩
  · have h := X.room
    have hU : ((T.setVm s.vm).setFrames (.invoking m args :: below)).localsInUse = s.localsInUse := by
      rw [State.localsInUse_invoking hF (meth := meth) (c := c) X.method X.code, State.localsInUse_invoking X.frames X.method X.code]
    simp only [State.hasRoom, Bool.and_eq_true, decide_eq_true_eq] at h ⊢
    obtain ⟨⟨⟨⟨h1, h2, h3, h4, h5, h6⟩, h7⟩, h8⟩, h9⟩ := h
    rw [X.frames, List.length_cons] at h2 h3
    have q1 := X.heapSize
    have q2 := X.used
    simp only [hF, hU, List.length_cons, State.stackLimits_setFrames, State.stackBytes_setFrames, hl9, hb9]
    refine ⟨⟨⟨⟨by omega, by omega, by omega, by omega, by omega, h6⟩, ?_⟩, ?_⟩, X.book⟩
    · show T.heap.size + R'.cells ≤ e.platform.maxCells
      omega
    · show T.slotsUsed + R'.slots ≤ e.platform.maxSlots
      omega
  · rw [State.stackLimits_setFrames]; rfl
  · rw [State.stackBytes_setFrames]; rfl
  · refine ⟨?_, Nat.le_refl _, Nat.le_refl _, ?_, ?_, fun a c9 h9 => ⟨c9, h9, rfl, rfl, fun _ _ => rfl⟩⟩
    · obtain ⟨t, ht, -⟩ := State.frames_cons hr
      show T.setVm s.vm = { ((T.setVm s.vm).setFrames (.invoking m args :: below)).setFrames (T.setVm s.vm).frames with heap := T.heap, slotsUsed := T.slotsUsed }
      rw [State.setFrames_setFrames, State.setFrames_self ht]
      rfl
    · show T.slotsUsed = T.slotsUsed + ((T.heap.toList.drop T.heap.size).map (·.slots.size)).sum
      rw [List.drop_eq_nil_of_le (Nat.le_of_eq Array.length_toList)]
      rfl
    · show ((T.heap.toList.drop T.heap.size).map (·.slots.size)).sum ≤ 0
      rw [List.drop_eq_nil_of_le (Nat.le_of_eq Array.length_toList)]
      exact Nat.le_refl _
/-- 'throw new E()': new; dup; invokespecial; athrow -/
theorem vx_throw0 {cc : ByteArray} {pc : Nat} (hexec : p.tables.exec = Jvm.exec) (hb : c.code = cc) (hl : l.stackTraces = false) {own cls : String} {names : List String} {ik ic mc ms : Nat} {A : Nat → Prop}
    (hown : s.vm.findClass own = some m.cls) (hcls : Bundle.fit cls = true) (hnames : ∀ n ∈ names, Bundle.fit n = true)
    (hk : (Cond.classLink own ik cls).before args s = true) (hini : (Cond.initialized cls).before args s = true) (hat : ∀ w ∈ vx_at0 own ic cls names, w.before args s = true)
    (hgood : ∀ w ∈ Cond.classLink own ik cls :: Cond.initialized cls :: vx_at0 own ic cls names, vx_ot w = true)
    (hU : vx_Zq Bundle.tN "UNASSIGNED_STACK" Bundle.steD A s s.heap) (hN : vx_Zq Bundle.tN "SUPPRESSED_SENTINEL" Bundle.listD A s s.heap) (hS : va_S A s.heap H locs) (hsize : ls.size = c.maxLocals)
    (d0 : decode cc pc = .ok (.new ik, 3)) (d3 : decode cc (pc + 3) = .ok (.dup, 1)) (d4 : decode cc (pc + 4) = .ok (.invokespecial ic, 3)) (d7 : decode cc (pc + 7) = .ok (.athrow, 1))
    (hout : ∀ x ∈ c.exceptionTable.toList, covers x (pc + 7) = false)
    (hRframes : names.length + 3 < R.frames) (hRlocals : (rest.map fun v => v.category).sum + (13 * (names.length + 1) + 42) ≤ R.locals) (hRcells : cells + 1 ≤ R.cells) (hRslots : slots + 6 ≤ R.slots) (hlocks : meth.locks = false)
    (hx : ∀ t : State, s.vm.Alike t.vm → H.size ≤ t.heap.size → (∀ q : Nat, q < H.size → t.heap[q]? = H[q]?) → XC cls s t)
    (hf : ∀ z ∈ locs, free z.base) (hc : cells + 1 ≤ mc) (hs : slots + 6 ≤ ms) :
    W p l e R s m args below meth c H locs cells slots (vx_MQ below Qc XC args s mc ms free) (F0 m pc ls rest) := by
  intro T hT X
  have htr : e.platform.stackTraces = false := (show e.platform.stackTraces = l.stackTraces by rw [X.admits.platform]).trans hl
  have Y := vx_rebase X (R' := { frames := R.frames, locals := R.locals, cells := 1, slots := 6 }) (Nat.le_refl _) (Nat.le_refl _) hRcells hRslots
  obtain ⟨s', hA⟩ : ∃ z, z = (T.setVm s.vm).setFrames (.invoking m args :: below) := ⟨_, rfl⟩
  rw [← hA] at Y
  have hvm : s'.vm = s.vm := by rw [hA]; rfl
  have hhp : s'.heap = H := by rw [hA]; exact hT
  have hW0 : s.WarmedH s'.vm := by rw [hvm]; exact State.WarmedH.refl s
  have hat' : ∀ w ∈ vx_at0 own ic cls names, w.before args s' = true := fun w hw => vx_ot_at hW0 hvm.symm (hgood w (List.mem_cons_of_mem _ (List.mem_cons_of_mem _ hw))) (hat w hw)
  have hk' : (Cond.classLink own ik cls).before args s' = true := vx_ot_at hW0 hvm.symm (hgood _ List.mem_cons_self) hk
  have hini' : (Cond.initialized cls).before args s' = true := vx_ot_at hW0 hvm.symm (hgood _ (List.mem_cons_of_mem _ List.mem_cons_self)) hini
  have hU' : vx_Zq Bundle.tN "UNASSIGNED_STACK" Bundle.steD A s' s'.heap := by rw [hhp]; exact vx_Zq.moved hW0.alike (hU.kept hS.2.1)
  have hN' : vx_Zq Bundle.tN "SUPPRESSED_SENTINEL" Bundle.listD A s' s'.heap := by rw [hhp]; exact vx_Zq.moved hW0.alike (hN.kept hS.2.1)
  have h : ∀ w ∈ Bundle.ownAtoms0 own ic cls names, w.before args s' = true := vx_own hat' (vx_isRefq hU'.1) (vx_isRefq hN'.1) hU'.2.word hN'.2.word
  have hown' : s'.vm.findClass own = some m.cls := by rw [hvm]; exact hown
  have hins : (Cond.instantiable cls 6).before args s' = true := h _ (by simp [Bundle.ownAtoms0])
  obtain ⟨vm₁, cX, kX, hfX, hkX, -, -, X₁, st1⟩ := Y.newCold hexec (own := own) (C := cls) (index := ik) (n := 6) hown' hk' hins hini'
    (g := F0 m pc ls rest) rfl (by rw [hb]; exact d0) (Nat.le_refl _) (Nat.le_refl _)
  generalize hT1 : (T.setVm vm₁).pushCell { cls := cX, slots := kX.instanceTypes.map defaultValue, vm := .none } = T1 at X₁ st1
  have hcat : (Value.ref T.heap.size).category = 1 := rfl
  have hcellA : T1.heap[T.heap.size]? = some (freshCell cX kX) := by rw [← hT1]; exact State.heap_pushCell_size _ _
  have d3' : decode c.code (pc + 3) = .ok (.dup, 1) := by rw [hb]; exact d3
  obtain ⟨U, hsteps, hrun, hend, hW, hsame, ce, hce, hO⟩ := X₁.ctorThrow0 hexec htr (own := own) (cls := cls) (names := names) (ic := ic) hown' hcls hnames h (fun x hx => nomatch hx) hfX hkX hcellA (by rw [hhp, hT]; exact Nat.le_refl _)
    (g := { method := m, pc := pc + 4, locals := ls, stack := .ref T.heap.size :: .ref T.heap.size :: rest, locked := none }) rfl hsize rfl rfl (rest := rest) rfl
    (by rw [hb]; exact d4) (by rw [hb]; exact d7) hout hRframes (by simp only [List.map_cons, List.sum_cons, hcat]; omega) hlocks
  obtain ⟨f1, f2⟩ := vx_frame hsame
  rw [hhp] at f1 f2
  have hWs : s.WarmedH U.vm := State.WarmedH.trans hW0 hW
  have hcl : s.vm.findClass cls = some ce.cls := by
    have h9 := hO.cls
    rw [hvm] at h9
    exact h9
  have hall : s.sameButNew ({ U with vm := s.vm } : State) locs mc ms := by
    subst hA
    obtain ⟨e1, e2⟩ := hsame
    rw [State.setFrames_setFrames] at e1
    have h2 : (T.setVm s.vm).sameButNew ({ U with vm := s.vm } : State) [] (0 + 1) (0 + 6) := ⟨e1, e2⟩
    have h3 := X.same.trans h2
    rw [List.append_nil] at h3
    exact h3.mono hc hs
  refine ⟨U, ?_, .threw T.heap.size, hrun, hend, Or.inr ⟨T.heap.size, rfl, cls, ce, locs, hx U hWs.alike f1 (fun q hq => f2 q hq (fun z hz => nomatch hz)), hce, hO.vm, hcl, hWs, hall, hf⟩⟩
  refine st1 _ ?_
  show Steps p.tables e below (T1.setTop { method := m, pc := pc + 3, locals := ls, stack := .ref T.heap.size :: rest, locked := none }) _
  jvm_step X₁.here [X₁.here.top, hexec, d3', Value.category]
  exact hsteps
/-- 'throw new E("text")': new; dup; ldc; invokespecial; athrow -/
theorem vx_throwS {cc : ByteArray} {pc : Nat} (hexec : p.tables.exec = Jvm.exec) (hb : c.code = cc) (hl : l.stackTraces = false) {own cls text : String} {names : List String} {ik is ic mc ms sa : Nat} {A : Nat → Prop}
    (hown : s.vm.findClass own = some m.cls) (hcls : Bundle.fit cls = true) (hnames : ∀ n ∈ names, Bundle.fit n = true)
    (hk : (Cond.classLink own ik cls).before args s = true) (hini : (Cond.initialized cls).before args s = true) (hstr : vk_R own is text sa s) (hat : ∀ w ∈ vx_atS own ic cls names, w.before args s = true)
    (hgood : ∀ w ∈ Cond.classLink own ik cls :: Cond.initialized cls :: vx_atS own ic cls names, vx_ot w = true)
    (hU : vx_Zq Bundle.tN "UNASSIGNED_STACK" Bundle.steD A s s.heap) (hN : vx_Zq Bundle.tN "SUPPRESSED_SENTINEL" Bundle.listD A s s.heap) (hS : va_S A s.heap H locs) (hsize : ls.size = c.maxLocals)
    (d0 : decode cc pc = .ok (.new ik, 3)) (d3 : decode cc (pc + 3) = .ok (.dup, 1)) (d4 : decode cc (pc + 4) = .ok (.ldc is, 2)) (d6 : decode cc (pc + 6) = .ok (.invokespecial ic, 3)) (d9 : decode cc (pc + 9) = .ok (.athrow, 1))
    (hout : ∀ x ∈ c.exceptionTable.toList, covers x (pc + 9) = false)
    (hRframes : names.length + 3 < R.frames) (hRlocals : (rest.map fun v => v.category).sum + (13 * (names.length + 1) + 43) ≤ R.locals) (hRcells : cells + 1 ≤ R.cells) (hRslots : slots + 6 ≤ R.slots) (hlocks : meth.locks = false)
    (hx : ∀ t : State, s.vm.Alike t.vm → H.size ≤ t.heap.size → (∀ q : Nat, q < H.size → t.heap[q]? = H[q]?) → XC cls s t)
    (hf : ∀ z ∈ locs, free z.base) (hc : cells + 1 ≤ mc) (hs : slots + 6 ≤ ms) :
    W p l e R s m args below meth c H locs cells slots (vx_MQ below Qc XC args s mc ms free) (F0 m pc ls rest) := by
  intro T hT X
  have htr : e.platform.stackTraces = false := (show e.platform.stackTraces = l.stackTraces by rw [X.admits.platform]).trans hl
  have Y := vx_rebase X (R' := { frames := R.frames, locals := R.locals, cells := 1, slots := 6 }) (Nat.le_refl _) (Nat.le_refl _) hRcells hRslots
  obtain ⟨s', hA⟩ : ∃ z, z = (T.setVm s.vm).setFrames (.invoking m args :: below) := ⟨_, rfl⟩
  rw [← hA] at Y
  have hvm : s'.vm = s.vm := by rw [hA]; rfl
  have hhp : s'.heap = H := by rw [hA]; exact hT
  have hW0 : s.WarmedH s'.vm := by rw [hvm]; exact State.WarmedH.refl s
  have hat' : ∀ w ∈ vx_atS own ic cls names, w.before args s' = true := fun w hw => vx_ot_at hW0 hvm.symm (hgood w (List.mem_cons_of_mem _ (List.mem_cons_of_mem _ hw))) (hat w hw)
  have hk' : (Cond.classLink own ik cls).before args s' = true := vx_ot_at hW0 hvm.symm (hgood _ List.mem_cons_self) hk
  have hini' : (Cond.initialized cls).before args s' = true := vx_ot_at hW0 hvm.symm (hgood _ (List.mem_cons_of_mem _ List.mem_cons_self)) hini
  have hU' : vx_Zq Bundle.tN "UNASSIGNED_STACK" Bundle.steD A s' s'.heap := by rw [hhp]; exact vx_Zq.moved hW0.alike (hU.kept hS.2.1)
  have hN' : vx_Zq Bundle.tN "SUPPRESSED_SENTINEL" Bundle.listD A s' s'.heap := by rw [hhp]; exact vx_Zq.moved hW0.alike (hN.kept hS.2.1)
  have h : ∀ w ∈ Bundle.ownAtoms own ic cls names, w.before args s' = true := vx_own hat' (vx_isRefq hU'.1) (vx_isRefq hN'.1) hU'.2.word hN'.2.word
  have hown' : s'.vm.findClass own = some m.cls := by rw [hvm]; exact hown
  have hins : (Cond.instantiable cls 6).before args s' = true := h _ (by simp [Bundle.ownAtoms])
  obtain ⟨vm₁, cX, kX, hfX, hkX, -, -, X₁, st1⟩ := Y.newCold hexec (own := own) (C := cls) (index := ik) (n := 6) hown' hk' hins hini'
    (g := F0 m pc ls rest) rfl (by rw [hb]; exact d0) (Nat.le_refl _) (Nat.le_refl _)
  generalize hT1 : (T.setVm vm₁).pushCell { cls := cX, slots := kX.instanceTypes.map defaultValue, vm := .none } = T1 at X₁ st1
  have hcat : (Value.ref T.heap.size).category = 1 := rfl
  have hcellA : T1.heap[T.heap.size]? = some (freshCell cX kX) := by rw [← hT1]; exact State.heap_pushCell_size _ _
  have d3' : decode c.code (pc + 3) = .ok (.dup, 1) := by rw [hb]; exact d3
  have d4' : decode c.code (pc + 4) = .ok (.ldc is, 2) := by rw [hb]; exact d4
  have hstr' : vk_R own is text sa s' := vk_R.warm hW0 hstr
  obtain ⟨U, hsteps, hrun, hend, hW, hsame, ce, hce, hO⟩ := X₁.ctorThrowS hexec htr (own := own) (cls := cls) (names := names) (ic := ic) hown' hcls hnames h (fun x hx => nomatch hx) hfX hkX hcellA (by rw [hhp, hT]; exact Nat.le_refl _) (msg := .ref sa) rfl
    (g := { method := m, pc := pc + 6, locals := ls, stack := .ref sa :: .ref T.heap.size :: .ref T.heap.size :: rest, locked := none }) rfl hsize rfl rfl (rest := rest) rfl
    (by rw [hb]; exact d6) (by rw [hb]; exact d9) hout hRframes (by simp only [List.map_cons, List.sum_cons, hcat]; omega) hlocks
  obtain ⟨f1, f2⟩ := vx_frame hsame
  rw [hhp] at f1 f2
  have hWs : s.WarmedH U.vm := State.WarmedH.trans hW0 hW
  have hcl : s.vm.findClass cls = some ce.cls := by
    have h9 := hO.cls
    rw [hvm] at h9
    exact h9
  have hall : s.sameButNew ({ U with vm := s.vm } : State) locs mc ms := by
    subst hA
    obtain ⟨e1, e2⟩ := hsame
    rw [State.setFrames_setFrames] at e1
    have h2 : (T.setVm s.vm).sameButNew ({ U with vm := s.vm } : State) [] (0 + 1) (0 + 6) := ⟨e1, e2⟩
    have h3 := X.same.trans h2
    rw [List.append_nil] at h3
    exact h3.mono hc hs
  refine ⟨U, ?_, .threw T.heap.size, hrun, hend, Or.inr ⟨T.heap.size, rfl, cls, ce, locs, hx U hWs.alike f1 (fun q hq => f2 q hq (fun z hz => nomatch hz)), hce, hO.vm, hcl, hWs, hall, hf⟩⟩
  refine st1 _ ?_
  show Steps p.tables e below (T1.setTop { method := m, pc := pc + 3, locals := ls, stack := .ref T.heap.size :: rest, locked := none }) _
  jvm_step X₁.here [X₁.here.top, hexec, d3', Value.category]
  exact X₁.ldcString hexec (own := own) (text := text) (index := is) (a := sa) hown' hstr'.1 hstr'.2
    (g := { method := m, pc := pc + 4, locals := ls, stack := .ref T.heap.size :: .ref T.heap.size :: rest, locked := none }) rfl d4' _ hsteps
/-- 'throw new E("text")', the text by a wide index -/
theorem vx_throwSW {cc : ByteArray} {pc : Nat} (hexec : p.tables.exec = Jvm.exec) (hb : c.code = cc) (hl : l.stackTraces = false) {own cls text : String} {names : List String} {ik is ic mc ms sa : Nat} {A : Nat → Prop}
    (hown : s.vm.findClass own = some m.cls) (hcls : Bundle.fit cls = true) (hnames : ∀ n ∈ names, Bundle.fit n = true)
    (hk : (Cond.classLink own ik cls).before args s = true) (hini : (Cond.initialized cls).before args s = true) (hstr : vk_R own is text sa s) (hat : ∀ w ∈ vx_atS own ic cls names, w.before args s = true)
    (hgood : ∀ w ∈ Cond.classLink own ik cls :: Cond.initialized cls :: vx_atS own ic cls names, vx_ot w = true)
    (hU : vx_Zq Bundle.tN "UNASSIGNED_STACK" Bundle.steD A s s.heap) (hN : vx_Zq Bundle.tN "SUPPRESSED_SENTINEL" Bundle.listD A s s.heap) (hS : va_S A s.heap H locs) (hsize : ls.size = c.maxLocals)
    (d0 : decode cc pc = .ok (.new ik, 3)) (d3 : decode cc (pc + 3) = .ok (.dup, 1)) (d4 : decode cc (pc + 4) = .ok (.ldc_w is, 3)) (d7 : decode cc (pc + 7) = .ok (.invokespecial ic, 3)) (d10 : decode cc (pc + 10) = .ok (.athrow, 1))
    (hout : ∀ x ∈ c.exceptionTable.toList, covers x (pc + 10) = false)
    (hRframes : names.length + 3 < R.frames) (hRlocals : (rest.map fun v => v.category).sum + (13 * (names.length + 1) + 43) ≤ R.locals) (hRcells : cells + 1 ≤ R.cells) (hRslots : slots + 6 ≤ R.slots) (hlocks : meth.locks = false)
    (hx : ∀ t : State, s.vm.Alike t.vm → H.size ≤ t.heap.size → (∀ q : Nat, q < H.size → t.heap[q]? = H[q]?) → XC cls s t)
    (hf : ∀ z ∈ locs, free z.base) (hc : cells + 1 ≤ mc) (hs : slots + 6 ≤ ms) :
    W p l e R s m args below meth c H locs cells slots (vx_MQ below Qc XC args s mc ms free) (F0 m pc ls rest) := by
  intro T hT X
  have htr : e.platform.stackTraces = false := (show e.platform.stackTraces = l.stackTraces by rw [X.admits.platform]).trans hl
  have Y := vx_rebase X (R' := { frames := R.frames, locals := R.locals, cells := 1, slots := 6 }) (Nat.le_refl _) (Nat.le_refl _) hRcells hRslots
  obtain ⟨s', hA⟩ : ∃ z, z = (T.setVm s.vm).setFrames (.invoking m args :: below) := ⟨_, rfl⟩
  rw [← hA] at Y
  have hvm : s'.vm = s.vm := by rw [hA]; rfl
  have hhp : s'.heap = H := by rw [hA]; exact hT
  have hW0 : s.WarmedH s'.vm := by rw [hvm]; exact State.WarmedH.refl s
  have hat' : ∀ w ∈ vx_atS own ic cls names, w.before args s' = true := fun w hw => vx_ot_at hW0 hvm.symm (hgood w (List.mem_cons_of_mem _ (List.mem_cons_of_mem _ hw))) (hat w hw)
  have hk' : (Cond.classLink own ik cls).before args s' = true := vx_ot_at hW0 hvm.symm (hgood _ List.mem_cons_self) hk
  have hini' : (Cond.initialized cls).before args s' = true := vx_ot_at hW0 hvm.symm (hgood _ (List.mem_cons_of_mem _ List.mem_cons_self)) hini
  have hU' : vx_Zq Bundle.tN "UNASSIGNED_STACK" Bundle.steD A s' s'.heap := by rw [hhp]; exact vx_Zq.moved hW0.alike (hU.kept hS.2.1)
  have hN' : vx_Zq Bundle.tN "SUPPRESSED_SENTINEL" Bundle.listD A s' s'.heap := by rw [hhp]; exact vx_Zq.moved hW0.alike (hN.kept hS.2.1)
  have h : ∀ w ∈ Bundle.ownAtoms own ic cls names, w.before args s' = true := vx_own hat' (vx_isRefq hU'.1) (vx_isRefq hN'.1) hU'.2.word hN'.2.word
  have hown' : s'.vm.findClass own = some m.cls := by rw [hvm]; exact hown
  have hins : (Cond.instantiable cls 6).before args s' = true := h _ (by simp [Bundle.ownAtoms])
  obtain ⟨vm₁, cX, kX, hfX, hkX, -, -, X₁, st1⟩ := Y.newCold hexec (own := own) (C := cls) (index := ik) (n := 6) hown' hk' hins hini'
    (g := F0 m pc ls rest) rfl (by rw [hb]; exact d0) (Nat.le_refl _) (Nat.le_refl _)
  generalize hT1 : (T.setVm vm₁).pushCell { cls := cX, slots := kX.instanceTypes.map defaultValue, vm := .none } = T1 at X₁ st1
  have hcat : (Value.ref T.heap.size).category = 1 := rfl
  have hcellA : T1.heap[T.heap.size]? = some (freshCell cX kX) := by rw [← hT1]; exact State.heap_pushCell_size _ _
  have d3' : decode c.code (pc + 3) = .ok (.dup, 1) := by rw [hb]; exact d3
  have d4' : decode c.code (pc + 4) = .ok (.ldc_w is, 3) := by rw [hb]; exact d4
  have hstr' : vk_R own is text sa s' := vk_R.warm hW0 hstr
  obtain ⟨U, hsteps, hrun, hend, hW, hsame, ce, hce, hO⟩ := X₁.ctorThrowS hexec htr (own := own) (cls := cls) (names := names) (ic := ic) hown' hcls hnames h (fun x hx => nomatch hx) hfX hkX hcellA (by rw [hhp, hT]; exact Nat.le_refl _) (msg := .ref sa) rfl
    (g := { method := m, pc := pc + 7, locals := ls, stack := .ref sa :: .ref T.heap.size :: .ref T.heap.size :: rest, locked := none }) rfl hsize rfl rfl (rest := rest) rfl
    (by rw [hb]; exact d7) (by rw [hb]; exact d10) hout hRframes (by simp only [List.map_cons, List.sum_cons, hcat]; omega) hlocks
  obtain ⟨f1, f2⟩ := vx_frame hsame
  rw [hhp] at f1 f2
  have hWs : s.WarmedH U.vm := State.WarmedH.trans hW0 hW
  have hcl : s.vm.findClass cls = some ce.cls := by
    have h9 := hO.cls
    rw [hvm] at h9
    exact h9
  have hall : s.sameButNew ({ U with vm := s.vm } : State) locs mc ms := by
    subst hA
    obtain ⟨e1, e2⟩ := hsame
    rw [State.setFrames_setFrames] at e1
    have h2 : (T.setVm s.vm).sameButNew ({ U with vm := s.vm } : State) [] (0 + 1) (0 + 6) := ⟨e1, e2⟩
    have h3 := X.same.trans h2
    rw [List.append_nil] at h3
    exact h3.mono hc hs
  refine ⟨U, ?_, .threw T.heap.size, hrun, hend, Or.inr ⟨T.heap.size, rfl, cls, ce, locs, hx U hWs.alike f1 (fun q hq => f2 q hq (fun z hz => nomatch hz)), hce, hO.vm, hcl, hWs, hall, hf⟩⟩
  refine st1 _ ?_
  show Steps p.tables e below (T1.setTop { method := m, pc := pc + 3, locals := ls, stack := .ref T.heap.size :: rest, locked := none }) _
  jvm_step X₁.here [X₁.here.top, hexec, d3', Value.category]
  exact X₁.ldcStringW hexec (own := own) (text := text) (index := is) (a := sa) hown' hstr'.1 hstr'.2
    (g := { method := m, pc := pc + 4, locals := ls, stack := .ref T.heap.size :: .ref T.heap.size :: rest, locked := none }) rfl d4' _ hsteps
end Ends
section Bodies
variable {l : Launch}
theorem vx_ofW {y : MethodName} {ws ws' : List Cond} {rm : Room} {Pc : Array Value → State → Prop} {Qc : Array Value → State → Outcome → State → Prop} {XC : String → State → State → Prop} {mc ms : Nat} {free : Addr → Prop} {cc : ByteArray} {maxL : Nat} {ret : Option FieldType}
    (hy : plainName y.cls = true) (hw : ws = Cond.code y cc maxL ret :: ws')
    (body : ∀ p e s m args below meth c s₁, BodyLoose p l y (headSpec ws rm) cc maxL ret e s m args below meth c s₁ → c.maxLocals = maxL → (∀ x ∈ c.exceptionTable.toList, False) → Pc args s →
      W p l e (headSpec ws rm).room s m args below meth c s.heap [] 0 0 (vx_MQ below Qc XC args s mc ms free) (entryFrame m args maxL)) : vx_Met l y ws rm Pc Qc XC mc ms free := by
  refine MetFree.of_bodyS (code := cc) (maxLocals := maxL) (ret := ret) hy ?_ ?_
  · intro args s m h hn
    obtain ⟨meth, c, h1, h2, h3, h4, h5, h6, -, -⟩ := Cond.code_spec hn (atoms_spec (ws := ws) h _ (by rw [hw]; exact List.mem_cons_self))
    exact ⟨meth, c, h1, h2, h3, h4, h5, h6⟩
  · intro p e s m args below meth c s₁ B hml hP _
    have hh0 : s₁.heap = s.heap := by rw [B.state]; rfl
    have ht : ∀ x ∈ c.exceptionTable.toList, False := by
      obtain ⟨meth9, c9, h1, h2, -, -, -, -, h7, -⟩ := Cond.code_spec B.named (atoms_spec (ws := ws) B.pre _ (by rw [hw]; exact List.mem_cons_self))
      cases Option.some.inj (h1.symm.trans B.method)
      cases Option.some.inj (h2.symm.trans (Stand.of_body B).code)
      intro x hx
      rw [Array.isEmpty_iff.mp h7] at hx
      cases hx
    obtain ⟨t, a1, o, b1, b2, b3⟩ := body p e s m args below meth c s₁ B hml ht hP s₁ hh0 (Stand.of_body B)
    exact ⟨t, o, a1, b1, b2, b3⟩
/-- the table of a body with handlers -/
theorem vx_table {p : Program} {x y : MethodName} {S : Spec} {cc bytes : ByteArray} {maxL maxL' : Nat} {ret ret' : Option FieldType} {e : Env} {s s₁ : State} {m : MethodId} {args : Array Value} {below : List Frame} {meth : Method} {c : Code} {hh : List (Nat × Nat × Nat × Nat)}
    (B : BodyLoose p l y S cc maxL ret e s m args below meth c s₁) (h : (Cond.codeWith y bytes maxL' ret' hh).before args s = true) : c.exceptionTable.toList = tableOf hh := by
  obtain ⟨m9, meth9, c9, hn9, h1, h2, -, -, h6, -⟩ := Cond.codeWith_spec h
  cases Option.some.inj (hn9.symm.trans B.named)
  cases Option.some.inj (h1.symm.trans B.method)
  cases Option.some.inj (h2.symm.trans (Stand.of_body B).code)
  rw [← h6, table_eq]
end Bodies
end VXA
/-! ===== END ===== -/
/-! ===== BEGIN a static call of a method with an exception table ===== -/
section VXS
variable {p : Program} {l : Launch} {e : Env} {R : Room} {s : State} {m : MethodId} {args : Array Value} {below : List Frame} {meth : Method} {c : Code} {T : State} {H : Heap} {locs : List Loc} {cells slots : Nat}
abbrev vx_CSW (R : Room) (s : State) (args : Array Value) (own : String) (index : Nat) (y : MethodName) (bytes : ByteArray) (maxL : Nat) (ret : Option FieldType) (hh : List (Nat × Nat × Nat × Nat)) (ws : List Cond) (rm : Room) (mc ms n : Nat) : Prop :=
  (rm.cells = mc ∧ rm.slots = ms ∧ rm.frames + 1 ≤ R.frames ∧ 8 + (maxL + 11) + rm.locals ≤ R.locals ∧ (∀ w ∈ ws, ∀ (a' : Array Value) (U : State), s.WarmedH U.vm → w.before a' U = true) ∧ Cond.codeWith y bytes maxL ret hh ∈ ws) ∧
  (Cond.codeWith y bytes maxL ret hh).before args s = true ∧ (Cond.initialized y.cls).before args s = true ∧ (y.cls ≠ "java/lang/invoke/MethodHandle" ∧ y.cls ≠ "java/lang/invoke/VarHandle") ∧
  (∀ sig, parseMethodDescriptor y.desc = some sig → n = sig.parameters.length) ∧ (Cond.methodLink own index y).before args s = true ∧ (Cond.static y).before args s = true
theorem vx_cwSW {own : String} {index maxL mc ms : Nat} {y : MethodName} {bytes : ByteArray} {ret : Option FieldType} {hh : List (Nat × Nat × Nat × Nat)} {Ts ws ws' : List Cond} {rm : Room} (n : Nat) (ht : ∀ w ∈ Ts, w.before args s = true) (hT : GoodIn Ts (va_wsS own index y ws)) (hw : ws = Cond.codeWith y bytes maxL ret hh :: ws') (hrc : rm.cells = mc) (hrs : rm.slots = ms)
    (hd : y.cls ≠ "java/lang/invoke/MethodHandle" ∧ y.cls ≠ "java/lang/invoke/VarHandle" ∧ (parseMethodDescriptor y.desc).map (fun d => d.parameters.length) = some n) (hR : rm.frames + 1 ≤ R.frames ∧ 8 + (maxL + 11) + rm.locals ≤ R.locals) :
    vx_CSW R s args own index y bytes maxL ret hh ws rm mc ms n := by
  have ok : ∀ w ∈ va_wsS own index y ws, w.before args s = true := fun w h => ht w (hT w h).1
  have hG : GoodIn Ts ws := fun w h => hT w (by unfold va_wsS; exact List.mem_append_right _ h)
  have hc : Cond.codeWith y bytes maxL ret hh ∈ ws := by rw [hw]; exact List.mem_cons_self
  refine ⟨⟨hrc, hrs, hR.1, hR.2, pay_in ht hG, hc⟩, ht _ (hG _ hc).1, ok _ (by simp [va_wsS]), ⟨hd.1, hd.2.1⟩, fun sig h => ?_, ok _ (by simp [va_wsS]), ok _ (by simp [va_wsS])⟩
  have h2 := hd.2.2
  rw [h] at h2
  exact (Option.some.inj h2).symm
theorem vx_callSW (X : Stand p l e R s m args below meth c T locs cells slots) (hexec : p.tables.exec = Jvm.exec) {own : String} {index : Nat} {y : MethodName} {bytes : ByteArray} {maxL : Nat} {ret : Option FieldType} {hh : List (Nat × Nat × Nat × Nat)}
    (hown : s.vm.findClass own = some m.cls) (hlink : (Cond.methodLink own index y).before args s = true) (hstat : (Cond.static y).before args s = true) (hinit : (Cond.initialized y.cls).before args s = true)
    (hcode : (Cond.codeWith y bytes maxL ret hh).before args s = true) (hy : y.cls ≠ "java/lang/invoke/MethodHandle" ∧ y.cls ≠ "java/lang/invoke/VarHandle")
    {W9 : Nat} {Pre : Pt → Array Value → Prop} {Post : Pt → Array Value → Option Value → Pt → Prop} (hK : Back l R p e below s args y 3 W9 Pre Post)
    {g : JFrame} (hg : g.method = m) (hsize : g.locals.size = c.maxLocals) {argsL rest : List Value} (hlen : ∀ sig, parseMethodDescriptor y.desc = some sig → argsL.length = sig.parameters.length)
    (hstack : g.stack = argsL.reverse ++ rest) (hW : 2 * g.monitorRoom + (rest.map fun v => v.category).sum ≤ W9) (hdg : decode c.code g.pc = .ok (.invokestatic index, 3))
    (hpre : ∀ vm₁, s.WarmedH vm₁ → Pre ⟨T.setVm vm₁, locs, cells, slots⟩ argsL.toArray) :
    ∃ (v : Option Value) (vm₁ : Vm) (B : Pt), s.WarmedH vm₁ ∧ Stand p l e R s m args below meth c B.U B.locs B.cells B.slots ∧ Post ⟨T.setVm vm₁, locs, cells, slots⟩ argsL.toArray v B ∧
      ∀ target, Steps p.tables e below (B.U.setTop { g with pc := g.pc + 3, stack := v.toList ++ rest }) target → Steps p.tables e below (T.setTop g) target := by
  obtain ⟨mk, methM, cM, hnamed, hmethM, -, -, -, -, -, -, hsigM⟩ := Cond.codeWith_spec hcode
  have hstatic : methM.isStatic = true := Cond.static_spec hnamed hmethM hstat
  obtain ⟨kP, hkP, -⟩ := className_of_methodNamed hnamed
  have hinitP : kP.init = .initialized := Cond.initialized_spec (findClass_of_methodNamed hnamed) hkP hinit
  obtain ⟨vm₁, X₁, hstep₁⟩ := X.invokestatic hexec hown hlink hnamed hmethM hstatic hkP hinitP hy (g := g) hg (argsL := argsL) (rest := rest) (hlen _ hsigM) hstack hdg
  obtain ⟨v, B, X', hpost, hsteps⟩ := hK m meth c ⟨T.setVm vm₁, locs, cells, slots⟩ { g with stack := rest } (.invokestatic index) mk argsL.toArray X₁ hg hsize hdg hW (X₁.named hnamed) (hpre vm₁ X₁.warmed)
  exact ⟨v, vm₁, B, X₁.warmed, X', hpost, fun target h => hstep₁ _ fun acts => by rw [doInvoke_state]; exact hsteps.trans h⟩
theorem vx_runSW {y : MethodName} {bytes cc : ByteArray} {maxL nL mc ms n index : Nat} {ret : Option FieldType} {hh : List (Nat × Nat × Nat × Nat)} {ws : List Cond} {rm : Room} {Pc : Array Value → State → Prop} {Qc : Array Value → State → Outcome → State → Prop} {free : Addr → Prop} {Ts : List Cond} {own : String} {As rest : List Value} {g : JFrame}
    (S : CallFix p m c cc nL s args Ts own) (hM : Met l y ws rm Pc Qc mc ms free) (cw : vx_CSW R s args own index y bytes maxL ret hh ws rm mc ms n) (hp : PreS s H Pc As)
    (hg : g.method = m) (hn : As.length = n) (hsize : g.locals.size = nL) (hstack : g.stack = As.reverse ++ rest) (hW : 2 * g.monitorRoom + (rest.map fun v => v.category).sum ≤ 8) (hdg : decode cc g.pc = .ok (.invokestatic index, 3)) (hf : cells + mc ≤ R.cells ∧ slots + ms ≤ R.slots) :
    va_Run p l e R s m args below meth c H locs cells slots mc ms g rest (Qc As.toArray) (free) := by
  obtain ⟨⟨hrc, hrs, hfr, hlo, hws, hcw⟩, hcode, hini, hy, hlen, hl, hstt⟩ := cw
  have hK : Back l R p e below s args y 3 8 (PreOf R mc ms Pc) (PostOf Qc mc ms free) := va_backW (hh := hh) (bytes := bytes) (maxL := maxL) (ret := ret) hM hp.1 hrc hrs hfr hlo hws hcw (fun a' U hW => word_at hW (Or.inl (by first | rfl | simp [Cond.onTables, Cond.keeps, Cond.steady])) hini)
  obtain ⟨hx, hb, hml, ho, -⟩ := S
  intro T hT X
  obtain ⟨v, vm₁, ⟨U', l2, c2, s2⟩, hW₁, X', ⟨g', mk, t, L, e1, e2, hq, h1, hL, h2, h3⟩, st⟩ := vx_callSW X hx (hh := hh) (bytes := bytes) (maxL := maxL) (ret := ret) ho hl hstt hini hcode hy hK hg (hsize.trans hml.symm) (argsL := As) (rest := rest) (fun sig h => hn.trans (hlen sig h)) hstack hW (by rw [hb]; exact hdg)
    (fun vm₁ hW₁ => ⟨hf.1, hf.2, hp.2 (T.setVm vm₁) hT hW₁⟩)
  dsimp only [Pt.U, Pt.locs, Pt.cells, Pt.slots] at X' e1 e2 h1 h2 h3 st
  subst h1; subst h2; subst h3
  exact ⟨v, (T.setVm vm₁).calling g' mk As.toArray, t, U', L, hT, X', hL, e1, e2, hq, st⟩
/-- not caught here, past rows that name other classes: it goes on to the caller -/
theorem vx_outP {p : Program} {l : Launch} {e : Env} {R : Room} {s : State} {m : MethodId} {args : Array Value} {below : List Frame} {meth : Method} {c : Code} {H : Heap} {locs : List Loc} {cells slots : Nat} {free : Addr → Prop} {ls : Array Slot} {rest : List Value} {Qc : Array Value → State → Outcome → State → Prop} {XC : String → State → State → Prop}
    {pc : Nat} {own E : String} {ce : Cell} {q : Addr} {mc ms : Nat} (hown : s.vm.findClass own = some m.cls) (hlocks : meth.locks = false)
    (hpass : ∀ z ∈ c.exceptionTable.toList, covers z pc = false ∨ (z.catchType ≠ 0 ∧ ∃ nm : String, (Cond.classLink own z.catchType nm).before args s = true ∧ va_Nc E nm s)) (hcell : H[q]? = some ce) (hv : ce.vm = .none) (hcl : s.vm.findClass E = some ce.cls)
    (hx : ∀ t : State, t.heap = H → s.vm.Alike t.vm → XC E s t) (hf : ∀ z ∈ locs, free z.base) (hc : cells ≤ mc) (hs : slots ≤ ms) :
    vx_W p l e R s m args below meth c H locs cells slots (vx_MQ below Qc XC args s mc ms free) (F0 m pc ls rest) q := by
  intro T hT X
  have hpl : e.platform.magicAccessors = ({} : Platform).magicAccessors := by rw [X.admits.platform]
  obtain ⟨vm', hW', X', st⟩ := X.outThrough hlocks q (g := F0 m pc ls rest) rfl rfl rfl (cell := ce) (by rw [hT]; exact hcell) (by rw [hv]; rfl)
    (by obtain ⟨k9, h9, -⟩ := Vm.findClass_spec hcl; exact ⟨k9, h9⟩) (fun z hz => by
      rcases hpass z hz with h | ⟨hz0, nm, hl1, hn1⟩
      · exact Or.inl h
      · obtain ⟨c6, hc6, hcl6⟩ := Cond.classLink_spec hown hl1 e.platform hpl
        obtain ⟨a8, b8, h1, h2, h3⟩ := hn1
        cases Option.some.inj (h1.symm.trans hcl)
        cases Option.some.inj (h2.symm.trans hc6)
        exact Or.inr ⟨hz0, _, hcl6, h3⟩)
  obtain ⟨g₀, hfr⟩ := X'.frames_eq
  have hcell9 : ((T.setVm vm').setFrames (.throwing q :: below)).heap[q]? = some ce := by
    show T.heap[q]? = some ce
    rw [hT]; exact hcell
  have hend : Ended ((T.setVm vm').setFrames (.throwing q :: below)) below (.threw q) := State.frames_setFrames _ (State.cur_lt_of_frames hfr)
  refine ⟨(T.setVm vm').setFrames (.throwing q :: below), ?_, .threw q, X'.here.running, hend, Or.inr ⟨q, rfl, E, ce, locs, hx _ hT (X'.ends _).1.alike, hcell9, hv, hcl, (X'.ends _).1, (X'.ends _).2.mono hc hs, hf⟩⟩
  rw [X.pushThrowing_eq]
  exact st
/-- a thing of a world lies in the heap -/
theorem vx_lt {D : va_G} {cl : List vw_C} {ws : va_W} {H1 : Heap} (h : va_P D cl ws H1) {k : Nat} {q : Nat × va_E} (hk : ws[k]? = some q) : q.1 < H1.size := (h k q hk).lt
end VXS
/-! ===== END ===== -/
/-! ===== BEGIN methods with a table of their own: called by a name, returning or throwing ===== -/
section VXH
/-! vx_backW, vx_callVX, vx_callSX, vx_callVW, vx_runVW, vx_runVX, vx_runSX, vx_ofWH follow the same proofs as their sisters above (Free/Laws.lean, Shelf42/LK1.lean); vx_outP calls Shelf42/NT130.lean (outThrough). -/
section
variable {l : Launch} {R : Room} {p : Program} {e : Env} {below : List Frame} {s : State} {sargs : Array Value} {y : MethodName} {len W9 : Nat}
theorem vx_backW {ws : List Cond} {rm : Room} {Pc : Array Value → State → Prop} {Qc : Array Value → State → Outcome → State → Prop} {XC : String → State → State → Prop} {mc ms : Nat} {free : Addr → Prop} {bytes : ByteArray} {maxL : Nat} {ret : Option FieldType} {hh : List (Nat × Nat × Nat × Nat)}
    (hM : vx_Met l y ws rm Pc Qc XC mc ms free) (hblind : FrameBlind Pc) (hrc : rm.cells = mc) (hrs : rm.slots = ms)
    (hframes : rm.frames + 1 ≤ R.frames) (hlocals : W9 + (maxL + 11) + rm.locals ≤ R.locals)
    (hws : ∀ w ∈ ws, ∀ a' U, s.WarmedH U.vm → w.before a' U = true) (hcode : Cond.codeWith y bytes maxL ret hh ∈ ws) (hinit : ∀ a' U, s.WarmedH U.vm → (Cond.initialized y.cls).before a' U = true) :
    vx_Back l R p e below s sargs y len W9 (PreOf R mc ms Pc) (PostOf Qc mc ms free) (vx_Post XC mc ms free) := by
  intro m meth c A g ig mk a X hg hsize hdg hW hn hp
  have h1 : (headSpec ws rm).pre.before a A.U = true := atoms_intro fun w hw => hws w hw _ _ X.warmed
  have h2 : (Cond.codeWith y bytes maxL ret hh).before a A.U = true := hws _ hcode _ _ X.warmed
  have h3 : (Cond.initialized y.cls).before a A.U = true := hinit _ _ X.warmed
  have h4 : A.cells + (headSpec ws rm).room.cells ≤ R.cells := by rw [show (headSpec ws rm).room.cells = mc from hrc]; exact hp.1
  have h5 : A.slots + (headSpec ws rm).room.slots ≤ R.slots := by rw [show (headSpec ws rm).room.slots = ms from hrs]; exact hp.2.1
  have hPc : Pc a (A.U.calling g mk a) := hblind _ _ _ _ hp.2.2
  obtain ⟨U, Ls, c0, s0⟩ := A
  dsimp only [Pt.U, Pt.locs, Pt.cells, Pt.slots] at h1 h2 h3 h4 h5 X hn hPc ⊢
  obtain ⟨m9, methY, cY, hn9, hmY, hcY, -, hlY, -⟩ := Cond.codeWith_spec h2
  cases Option.some.inj (hn9.symm.trans hn)
  obtain ⟨kY, hkY, -⟩ := className_of_methodNamed hn
  have hinitY : kY.init = .initialized := Cond.initialized_spec (findClass_of_methodNamed hn) hkY h3
  have h : At U g.method c below := by rw [hg]; exact X.here
  have hlocals9 : W9 + (maxL + 11) + (headSpec ws rm).room.locals ≤ R.locals := hlocals
  have happ : (headSpec ws rm).appliesLoose y e.platform (U.calling g mk a) = true :=
    Spec.appliesLoose_calling (g := g) h hdg hn hkY hinitY
      (X.room_calling (g := g) (R' := (headSpec ws rm).room) hsize hmY hcY hframes (by rw [hlY]; omega) h4 h5) h1
  obtain ⟨mid, hmid⟩ := h.above
  have hfr : (U.setTop g).frames = (.java g :: mid) ++ below := by rw [State.frames_setTop' g h.top, hmid]; rfl
  obtain ⟨o, s₂, hsteps, -, hend, hq⟩ := Steps.callFree hM p X.admits X.cas X.clock (acts := []) hfr happ hPc trivial
  have hq' : vx_Q Qc XC mc ms free a (U.calling g mk a) o s₂ := hq
  rw [State.frames_setTop' g h.top] at hend
  obtain ⟨g₀, hg0⟩ := Option.isSome_iff_exists.mp h.top
  obtain ⟨r, hr⟩ := State.topJava?_eq_some.mp hg0
  have hr' : (({ U with heap := s₂.heap, slotsUsed := s₂.slotsUsed } : State).setVm s₂.vm).frames = .java g₀ :: r := hr
  rcases hq' with ⟨hqc, L, hfe, hL⟩ | ⟨q, rfl, E, ce, L, hx, hce, hcv, hcl, hW₂, hsm, hL⟩
  · obtain ⟨⟨v, rfl⟩, hW₂, e2, q2, q3, q4, q5, q6⟩ := id hfe
    have e3 : s₂ = ({ (U.calling g mk a).setFrames s₂.frames with heap := s₂.heap, slotsUsed := s₂.slotsUsed } : State).setVm s₂.vm := by
      have : s₂ = ({ s₂ with vm := (U.calling g mk a).vm } : State).setVm s₂.vm := rfl
      rw [e2] at this
      exact this
    obtain ⟨c₂, i₂, len₂, hc₂, hd₂, hf₂⟩ := hend
    have hW' : U.WarmedH s₂.vm := hW₂
    have hcc : c₂ = c := by
      have h1 : s₂.code? g.method = U.code? g.method := by
        rw [State.code?_eq, State.code?_eq, hW'.alike.method?]
      exact Option.some.inj (hc₂.symm.trans (h1.trans h.code))
    subst hcc
    have hlen : len₂ = len := by rw [hdg] at hd₂; cases hd₂; rfl
    subst hlen
    have hs₂ : s₂ = (({ U with heap := s₂.heap, slotsUsed := s₂.slotsUsed } : State).setVm s₂.vm).setTop { g with pc := g.pc + len₂, stack := v.toList ++ g.stack } := by
      refine e3.trans ?_
      rw [hf₂, State.calling_eq h.top, State.setFrames_setFrames, State.setTop_of_frames _ hr', hr]
      rfl
    have hsame : U.sameButNew ({ U with heap := s₂.heap, slotsUsed := s₂.slotsUsed } : State) L mc ms := by
      refine ⟨?_, q2, q3, q4, q5, q6⟩
      obtain ⟨t, ht, -⟩ := State.frames_cons hr
      show ({ U with heap := s₂.heap, slotsUsed := s₂.slotsUsed } : State) = { U.setFrames U.frames with heap := s₂.heap, slotsUsed := s₂.slotsUsed }
      rw [State.setFrames_self ht]
    subst hg
    refine Or.inl ⟨v, ⟨(({ U with heap := s₂.heap, slotsUsed := s₂.slotsUsed } : State).setVm s₂.vm), Ls ++ L, c0 + mc, s0 + ms⟩,
      ⟨X.admits, X.cas, X.clock, X.frames, X.room, X.hears, X.method, X.code, (X.here.setHeapUsed s₂.heap s₂.slotsUsed).setVm hW'.alike, X.tail, State.WarmedH.trans X.warmed hW', X.limits, X.bytes, X.same.trans (hsame.setVm s.vm)⟩,
      ⟨g, mk, s₂, L, rfl, rfl, hqc, rfl, hL, rfl, rfl⟩, ?_⟩
    show Steps p.tables e below _ ((({ U with heap := s₂.heap, slotsUsed := s₂.slotsUsed } : State).setVm s₂.vm).setTop { g with pc := g.pc + len₂, stack := v.toList ++ g.stack })
    rw [← hs₂]
    exact hsteps
  · obtain ⟨e2, q2, q3, q4, q5, q6⟩ := id hsm
    have e3 : s₂ = ({ (U.calling g mk a).setFrames s₂.frames with heap := s₂.heap, slotsUsed := s₂.slotsUsed } : State).setVm s₂.vm := by
      have : s₂ = ({ s₂ with vm := (U.calling g mk a).vm } : State).setVm s₂.vm := rfl
      rw [e2] at this
      exact this
    have hf₂ : s₂.frames = .throwing q :: .java g :: U.frames.tail := hend
    have hW' : U.WarmedH s₂.vm := hW₂
    have hs₂ : s₂ = ((({ U with heap := s₂.heap, slotsUsed := s₂.slotsUsed } : State).setVm s₂.vm).setTop g).pushFrame (.throwing q) := by
      refine e3.trans ?_
      rw [hf₂, State.calling_eq h.top, State.setFrames_setFrames, State.pushFrame, State.frames_setTop _ hr', State.setTop_of_frames _ hr', State.setFrames_setFrames, hr]
      rfl
    have hsame : U.sameButNew ({ U with heap := s₂.heap, slotsUsed := s₂.slotsUsed } : State) L mc ms := by
      refine ⟨?_, q2, q3, q4, q5, q6⟩
      obtain ⟨t, ht, -⟩ := State.frames_cons hr
      show ({ U with heap := s₂.heap, slotsUsed := s₂.slotsUsed } : State) = { U.setFrames U.frames with heap := s₂.heap, slotsUsed := s₂.slotsUsed }
      rw [State.setFrames_self ht]
    subst hg
    refine Or.inr ⟨q, ⟨(({ U with heap := s₂.heap, slotsUsed := s₂.slotsUsed } : State).setVm s₂.vm), Ls ++ L, c0 + mc, s0 + ms⟩,
      ⟨X.admits, X.cas, X.clock, X.frames, X.room, X.hears, X.method, X.code, (X.here.setHeapUsed s₂.heap s₂.slotsUsed).setVm hW'.alike, X.tail, State.WarmedH.trans X.warmed hW', X.limits, X.bytes, X.same.trans (hsame.setVm s.vm)⟩,
      ⟨g, mk, s₂, L, E, ce, rfl, rfl, hx, hce, hcv, hcl, rfl, hL, rfl, rfl⟩, ?_⟩
    show Steps p.tables e below _ (((({ U with heap := s₂.heap, slotsUsed := s₂.slotsUsed } : State).setVm s₂.vm).setTop g).pushFrame (.throwing q))
    rw [← hs₂]
    exact hsteps
end
variable {p : Program} {l : Launch} {e : Env} {R : Room} {s : State} {m : MethodId} {args : Array Value} {below : List Frame} {meth : Method} {c : Code} {T : State} {H : Heap} {locs : List Loc} {cells slots : Nat}
theorem vx_callVX (X : Stand p l e R s m args below meth c T locs cells slots) (hexec : p.tables.exec = Jvm.exec) {own C : String} {index : Nat} {y : MethodName} {bytes : ByteArray} {maxL : Nat} {ret : Option FieldType} {hh : List (Nat × Nat × Nat × Nat)}
    (hown : s.vm.findClass own = some m.cls) (hlink : (Cond.methodLink own index y).before args s = true) (hinst : (Cond.instanceMethod y).before args s = true) (hsel : (Cond.selects C y y).before args s = true)
    (hcode : (Cond.codeWith y bytes maxL ret hh).before args s = true) (hy : y.cls ≠ "java/lang/invoke/MethodHandle" ∧ y.cls ≠ "java/lang/invoke/VarHandle")
    {W9 : Nat} {Pre : Pt → Array Value → Prop} {Post : Pt → Array Value → Option Value → Pt → Prop} {PostX : Pt → Array Value → Addr → Pt → Prop} (hK : vx_Back l R p e below s args y 3 W9 Pre Post PostX)
    {b : Addr} {cellB : Cell} (hcell : T.heap[b]? = some cellB) (hobj : cellB.vm.isStatics = false) (hcls : s.vm.findClass C = some cellB.cls)
    {g : JFrame} (hg : g.method = m) (hsize : g.locals.size = c.maxLocals) {argsL rest : List Value} (hlen : ∀ sig, parseMethodDescriptor y.desc = some sig → argsL.length = sig.parameters.length)
    (hstack : g.stack = argsL.reverse ++ .ref b :: rest) (hW : 2 * g.monitorRoom + (rest.map fun v => v.category).sum ≤ W9) (hdg : decode c.code g.pc = .ok (.invokevirtual index, 3))
    (hpre : ∀ vm₁, s.WarmedH vm₁ → Pre ⟨T.setVm vm₁, locs, cells, slots⟩ (Value.ref b :: argsL).toArray) :
    (∃ (v : Option Value) (vm₁ : Vm) (B : Pt), s.WarmedH vm₁ ∧ Stand p l e R s m args below meth c B.U B.locs B.cells B.slots ∧ Post ⟨T.setVm vm₁, locs, cells, slots⟩ (Value.ref b :: argsL).toArray v B ∧
      ∀ target, Steps p.tables e below (B.U.setTop { g with pc := g.pc + 3, stack := v.toList ++ rest }) target → Steps p.tables e below (T.setTop g) target) ∨
    (∃ (q : Addr) (vm₁ : Vm) (B : Pt), s.WarmedH vm₁ ∧ Stand p l e R s m args below meth c B.U B.locs B.cells B.slots ∧ PostX ⟨T.setVm vm₁, locs, cells, slots⟩ (Value.ref b :: argsL).toArray q B ∧
      Steps p.tables e below (T.setTop g) ((B.U.setTop { g with stack := rest }).pushFrame (.throwing q))) := by
  obtain ⟨mk, methM, hnamed, hmethM, hstM, habM⟩ := Cond.instanceMethod_spec hinst
  obtain ⟨m8, methM', cM, hn8, hmethM', -, -, -, -, -, -, hsigM⟩ := Cond.codeWith_spec hcode
  cases Option.some.inj (hn8.symm.trans hnamed)
  cases hmethM.symm.trans hmethM'
  obtain ⟨c2, r2, m2, q1, q2, q3, q4, kP, hkP, hkPi⟩ := Cond.selects_spec hsel
  cases hcls.symm.trans q1
  cases (State.methodFound?_of_named hnamed hy).symm.trans q2
  cases hnamed.symm.trans q3
  have hselP : selectMethod e.platform s.vm cellB.cls mk = .method mk := by rw [Launch.admits_selectMethod X.admits]; exact q4
  obtain ⟨vm₁, X₁, hstep₁⟩ := X.invokevirtual hexec hown hlink hnamed hmethM hstM hkP hkPi hy (a := b) (cell := cellB) hcell
    (fun z h => by rw [h] at hobj; cases hobj) hselP hmethM habM hkP hkPi (g := g) hg (argsL := argsL) (rest := rest) (hlen _ hsigM) hstack hdg
  rcases hK m meth c ⟨T.setVm vm₁, locs, cells, slots⟩ { g with stack := rest } (.invokevirtual index) mk (Value.ref b :: argsL).toArray X₁ hg hsize hdg hW (X₁.named hnamed) (hpre vm₁ X₁.warmed) with ⟨v, B, X', hpost, hsteps⟩ | ⟨q, B, X', hpost, hsteps⟩
  · exact Or.inl ⟨v, vm₁, B, X₁.warmed, X', hpost, fun target h => hstep₁ _ fun acts => by rw [doInvoke_state]; exact hsteps.trans h⟩
  · exact Or.inr ⟨q, vm₁, B, X₁.warmed, X', hpost, hstep₁ _ fun acts => by rw [doInvoke_state]; exact hsteps⟩
theorem vx_callSX (X : Stand p l e R s m args below meth c T locs cells slots) (hexec : p.tables.exec = Jvm.exec) {own : String} {index : Nat} {y : MethodName} {bytes : ByteArray} {maxL : Nat} {ret : Option FieldType} {hh : List (Nat × Nat × Nat × Nat)}
    (hown : s.vm.findClass own = some m.cls) (hlink : (Cond.methodLink own index y).before args s = true) (hstat : (Cond.static y).before args s = true) (hinit : (Cond.initialized y.cls).before args s = true)
    (hcode : (Cond.codeWith y bytes maxL ret hh).before args s = true) (hy : y.cls ≠ "java/lang/invoke/MethodHandle" ∧ y.cls ≠ "java/lang/invoke/VarHandle")
    {W9 : Nat} {Pre : Pt → Array Value → Prop} {Post : Pt → Array Value → Option Value → Pt → Prop} {PostX : Pt → Array Value → Addr → Pt → Prop} (hK : vx_Back l R p e below s args y 3 W9 Pre Post PostX)
    {g : JFrame} (hg : g.method = m) (hsize : g.locals.size = c.maxLocals) {argsL rest : List Value} (hlen : ∀ sig, parseMethodDescriptor y.desc = some sig → argsL.length = sig.parameters.length)
    (hstack : g.stack = argsL.reverse ++ rest) (hW : 2 * g.monitorRoom + (rest.map fun v => v.category).sum ≤ W9) (hdg : decode c.code g.pc = .ok (.invokestatic index, 3))
    (hpre : ∀ vm₁, s.WarmedH vm₁ → Pre ⟨T.setVm vm₁, locs, cells, slots⟩ argsL.toArray) :
    (∃ (v : Option Value) (vm₁ : Vm) (B : Pt), s.WarmedH vm₁ ∧ Stand p l e R s m args below meth c B.U B.locs B.cells B.slots ∧ Post ⟨T.setVm vm₁, locs, cells, slots⟩ argsL.toArray v B ∧
      ∀ target, Steps p.tables e below (B.U.setTop { g with pc := g.pc + 3, stack := v.toList ++ rest }) target → Steps p.tables e below (T.setTop g) target) ∨
    (∃ (q : Addr) (vm₁ : Vm) (B : Pt), s.WarmedH vm₁ ∧ Stand p l e R s m args below meth c B.U B.locs B.cells B.slots ∧ PostX ⟨T.setVm vm₁, locs, cells, slots⟩ argsL.toArray q B ∧
      Steps p.tables e below (T.setTop g) ((B.U.setTop { g with stack := rest }).pushFrame (.throwing q))) := by
  obtain ⟨mk, methM, cM, hnamed, hmethM, -, -, -, -, -, -, hsigM⟩ := Cond.codeWith_spec hcode
  have hstatic : methM.isStatic = true := Cond.static_spec hnamed hmethM hstat
  obtain ⟨kP, hkP, -⟩ := className_of_methodNamed hnamed
  have hinitP : kP.init = .initialized := Cond.initialized_spec (findClass_of_methodNamed hnamed) hkP hinit
  obtain ⟨vm₁, X₁, hstep₁⟩ := X.invokestatic hexec hown hlink hnamed hmethM hstatic hkP hinitP hy (g := g) hg (argsL := argsL) (rest := rest) (hlen _ hsigM) hstack hdg
  rcases hK m meth c ⟨T.setVm vm₁, locs, cells, slots⟩ { g with stack := rest } (.invokestatic index) mk argsL.toArray X₁ hg hsize hdg hW (X₁.named hnamed) (hpre vm₁ X₁.warmed) with ⟨v, B, X', hpost, hsteps⟩ | ⟨q, B, X', hpost, hsteps⟩
  · exact Or.inl ⟨v, vm₁, B, X₁.warmed, X', hpost, fun target h => hstep₁ _ fun acts => by rw [doInvoke_state]; exact hsteps.trans h⟩
  · exact Or.inr ⟨q, vm₁, B, X₁.warmed, X', hpost, hstep₁ _ fun acts => by rw [doInvoke_state]; exact hsteps⟩
theorem vx_callVW (X : Stand p l e R s m args below meth c T locs cells slots) (hexec : p.tables.exec = Jvm.exec) {own C : String} {index : Nat} {y : MethodName} {bytes : ByteArray} {maxL : Nat} {ret : Option FieldType} {hh : List (Nat × Nat × Nat × Nat)}
    (hown : s.vm.findClass own = some m.cls) (hlink : (Cond.methodLink own index y).before args s = true) (hinst : (Cond.instanceMethod y).before args s = true) (hsel : (Cond.selects C y y).before args s = true)
    (hcode : (Cond.codeWith y bytes maxL ret hh).before args s = true) (hy : y.cls ≠ "java/lang/invoke/MethodHandle" ∧ y.cls ≠ "java/lang/invoke/VarHandle")
    {W9 : Nat} {Pre : Pt → Array Value → Prop} {Post : Pt → Array Value → Option Value → Pt → Prop} (hK : Back l R p e below s args y 3 W9 Pre Post)
    {b : Addr} {cellB : Cell} (hcell : T.heap[b]? = some cellB) (hobj : cellB.vm.isStatics = false) (hcls : s.vm.findClass C = some cellB.cls)
    {g : JFrame} (hg : g.method = m) (hsize : g.locals.size = c.maxLocals) {argsL rest : List Value} (hlen : ∀ sig, parseMethodDescriptor y.desc = some sig → argsL.length = sig.parameters.length)
    (hstack : g.stack = argsL.reverse ++ .ref b :: rest) (hW : 2 * g.monitorRoom + (rest.map fun v => v.category).sum ≤ W9) (hdg : decode c.code g.pc = .ok (.invokevirtual index, 3))
    (hpre : ∀ vm₁, s.WarmedH vm₁ → Pre ⟨T.setVm vm₁, locs, cells, slots⟩ (Value.ref b :: argsL).toArray) :
    ∃ (v : Option Value) (vm₁ : Vm) (B : Pt), s.WarmedH vm₁ ∧ Stand p l e R s m args below meth c B.U B.locs B.cells B.slots ∧ Post ⟨T.setVm vm₁, locs, cells, slots⟩ (Value.ref b :: argsL).toArray v B ∧
      ∀ target, Steps p.tables e below (B.U.setTop { g with pc := g.pc + 3, stack := v.toList ++ rest }) target → Steps p.tables e below (T.setTop g) target := by
  obtain ⟨mk, methM, hnamed, hmethM, hstM, habM⟩ := Cond.instanceMethod_spec hinst
  obtain ⟨m8, methM', cM, hn8, hmethM', -, -, -, -, -, -, hsigM⟩ := Cond.codeWith_spec hcode
  cases Option.some.inj (hn8.symm.trans hnamed)
  cases hmethM.symm.trans hmethM'
  obtain ⟨c2, r2, m2, q1, q2, q3, q4, kP, hkP, hkPi⟩ := Cond.selects_spec hsel
  cases hcls.symm.trans q1
  cases (State.methodFound?_of_named hnamed hy).symm.trans q2
  cases hnamed.symm.trans q3
  have hselP : selectMethod e.platform s.vm cellB.cls mk = .method mk := by rw [Launch.admits_selectMethod X.admits]; exact q4
  obtain ⟨vm₁, X₁, hstep₁⟩ := X.invokevirtual hexec hown hlink hnamed hmethM hstM hkP hkPi hy (a := b) (cell := cellB) hcell
    (fun z h => by rw [h] at hobj; cases hobj) hselP hmethM habM hkP hkPi (g := g) hg (argsL := argsL) (rest := rest) (hlen _ hsigM) hstack hdg
  obtain ⟨v, B, X', hpost, hsteps⟩ := hK m meth c ⟨T.setVm vm₁, locs, cells, slots⟩ { g with stack := rest } (.invokevirtual index) mk (Value.ref b :: argsL).toArray X₁ hg hsize hdg hW (X₁.named hnamed) (hpre vm₁ X₁.warmed)
  exact ⟨v, vm₁, B, X₁.warmed, X', hpost, fun target h => hstep₁ _ fun acts => by rw [doInvoke_state]; exact hsteps.trans h⟩
abbrev vx_CVW (R : Room) (s : State) (args : Array Value) (own C : String) (index : Nat) (y : MethodName) (bytes : ByteArray) (maxL : Nat) (ret : Option FieldType) (hh : List (Nat × Nat × Nat × Nat)) (ws : List Cond) (rm : Room) (mc ms n : Nat) : Prop :=
  (rm.cells = mc ∧ rm.slots = ms ∧ rm.frames + 1 ≤ R.frames ∧ 8 + (maxL + 11) + rm.locals ≤ R.locals ∧ (∀ w ∈ ws, ∀ (a' : Array Value) (U : State), s.WarmedH U.vm → w.before a' U = true) ∧ Cond.codeWith y bytes maxL ret hh ∈ ws) ∧
  (Cond.codeWith y bytes maxL ret hh).before args s = true ∧ (Cond.initialized y.cls).before args s = true ∧ (y.cls ≠ "java/lang/invoke/MethodHandle" ∧ y.cls ≠ "java/lang/invoke/VarHandle") ∧
  (∀ sig, parseMethodDescriptor y.desc = some sig → n = sig.parameters.length) ∧ (Cond.methodLink own index y).before args s = true ∧ (Cond.instanceMethod y).before args s = true ∧ (Cond.selects C y y).before args s = true
theorem vx_cwVW {own C : String} {index maxL mc ms : Nat} {y : MethodName} {bytes : ByteArray} {ret : Option FieldType} {hh : List (Nat × Nat × Nat × Nat)} {Ts ws ws' : List Cond} {rm : Room} (n : Nat) (ht : ∀ w ∈ Ts, w.before args s = true) (hT : GoodIn Ts (wsV own index C y ws)) (hw : ws = Cond.codeWith y bytes maxL ret hh :: ws') (hrc : rm.cells = mc) (hrs : rm.slots = ms)
    (hd : y.cls = C ∧ y.cls ≠ "java/lang/invoke/MethodHandle" ∧ y.cls ≠ "java/lang/invoke/VarHandle" ∧ (parseMethodDescriptor y.desc).map (fun d => d.parameters.length) = some n) (hR : rm.frames + 1 ≤ R.frames ∧ 8 + (maxL + 11) + rm.locals ≤ R.locals) :
    vx_CVW R s args own C index y bytes maxL ret hh ws rm mc ms n := by
  obtain ⟨hC, hd⟩ := hd
  subst hC
  have ok : ∀ w ∈ wsV own index y.cls y ws, w.before args s = true := fun w h => ht w (hT w h).1
  have hG : GoodIn Ts ws := fun w h => hT w (by unfold wsV; exact List.mem_append_right _ h)
  have hc : Cond.codeWith y bytes maxL ret hh ∈ ws := by rw [hw]; exact List.mem_cons_self
  refine ⟨⟨hrc, hrs, hR.1, hR.2, pay_in ht hG, hc⟩, ht _ (hG _ hc).1, ok _ (by simp [wsV]), ⟨hd.1, hd.2.1⟩, fun sig h => ?_, ok _ (by simp [wsV]), ok _ (by simp [wsV]), ok _ (by simp [wsV])⟩
  have h2 := hd.2.2
  rw [h] at h2
  exact (Option.some.inj h2).symm
theorem vx_runVW {y : MethodName} {bytes cc : ByteArray} {maxL nL mc ms n index : Nat} {ret : Option FieldType} {hh : List (Nat × Nat × Nat × Nat)} {ws : List Cond} {rm : Room} {Pc : Array Value → State → Prop} {Qc : Array Value → State → Outcome → State → Prop} {free : Addr → Prop} {Ts : List Cond} {own C : String} {b : Addr} {As rest : List Value} {g : JFrame}
    (S : CallFix p m c cc nL s args Ts own) (hM : Met l y ws rm Pc Qc mc ms free) (cw : vx_CVW R s args own C index y bytes maxL ret hh ws rm mc ms n) (hp : PreV s H C b Pc As)
    (hg : g.method = m) (hn : As.length = n) (hsize : g.locals.size = nL) (hstack : g.stack = As.reverse ++ .ref b :: rest) (hW : 2 * g.monitorRoom + (rest.map fun v => v.category).sum ≤ 8) (hdg : decode cc g.pc = .ok (.invokevirtual index, 3)) (hf : cells + mc ≤ R.cells ∧ slots + ms ≤ R.slots) :
    va_Run p l e R s m args below meth c H locs cells slots mc ms g rest (Qc (Value.ref b :: As).toArray) free := by
  obtain ⟨⟨hrc, hrs, hfr, hlo, hws, hcw⟩, hcode, hini, hy, hlen, hl, hin, hse⟩ := cw
  have hK : Back l R p e below s args y 3 8 (PreOf R mc ms Pc) (PostOf Qc mc ms free) := va_backW (hh := hh) (bytes := bytes) (maxL := maxL) (ret := ret) hM hp.1 hrc hrs hfr hlo hws hcw (fun a' U hW => word_at hW (Or.inl (by first | rfl | simp [Cond.onTables, Cond.keeps, Cond.steady])) hini)
  obtain ⟨hx, hb, hml, ho, -⟩ := S
  obtain ⟨-, ⟨cellB, hcB, hoB, hclB⟩, hPc⟩ := hp
  intro T hT X
  obtain ⟨v, vm₁, ⟨U', l2, c2, s2⟩, hW₁, X', ⟨g', mk, t, L, e1, e2, hq, h1, hL, h2, h3⟩, st⟩ := vx_callVW X hx (C := C) (hh := hh) (bytes := bytes) (maxL := maxL) (ret := ret) ho hl hin hse hcode hy hK (by rw [hT]; exact hcB) hoB hclB hg (hsize.trans hml.symm) (argsL := As) (rest := rest) (fun sig h => hn.trans (hlen sig h)) hstack hW (by rw [hb]; exact hdg)
    (fun vm₁ hW₁ => ⟨hf.1, hf.2, hPc (T.setVm vm₁) hT hW₁⟩)
  dsimp only [Pt.U, Pt.locs, Pt.cells, Pt.slots] at X' e1 e2 h1 h2 h3 st
  subst h1; subst h2; subst h3
  exact ⟨v, (T.setVm vm₁).calling g' mk (Value.ref b :: As).toArray, t, U', L, hT, X', hL, e1, e2, hq, st⟩
section
variable {y : MethodName} {bytes cc : ByteArray} {maxL nL mc ms n index : Nat} {ret : Option FieldType} {ws : List Cond} {rm : Room} {Pc : Array Value → State → Prop} {Qc : Array Value → State → Outcome → State → Prop} {XC : String → State → State → Prop} {free : Addr → Prop} {Ts : List Cond} {own C : String} {b : Addr} {As rest : List Value} {g : JFrame}
theorem vx_runVX {hh : List (Nat × Nat × Nat × Nat)} (S : CallFix p m c cc nL s args Ts own) (hM : vx_Met l y ws rm Pc Qc XC mc ms free) (cw : vx_CVW R s args own C index y bytes maxL ret hh ws rm mc ms n) (hp : PreV s H C b Pc As)
    (hg : g.method = m) (hn : As.length = n) (hsize : g.locals.size = nL) (hstack : g.stack = As.reverse ++ .ref b :: rest) (hW : 2 * g.monitorRoom + (rest.map fun v => v.category).sum ≤ 8) (hdg : decode cc g.pc = .ok (.invokevirtual index, 3)) (hf : cells + mc ≤ R.cells ∧ slots + ms ≤ R.slots) :
    vx_Run p l e R s m args below meth c H locs cells slots mc ms g rest (Qc (Value.ref b :: As).toArray) XC free := by
  obtain ⟨⟨hrc, hrs, hfr, hlo, hws, hcw⟩, hcode, hini, hy, hlen, hl, hin, hse⟩ := cw
  have hK : vx_Back l R p e below s args y 3 8 (PreOf R mc ms Pc) (PostOf Qc mc ms free) (vx_Post XC mc ms free) := vx_backW (hh := hh) (bytes := bytes) (maxL := maxL) (ret := ret) hM hp.1 hrc hrs hfr hlo hws hcw (fun a' U hW => word_at hW (Or.inl (by first | rfl | simp [Cond.onTables, Cond.keeps, Cond.steady])) hini)
  obtain ⟨hx, hb, hml, ho, -⟩ := S
  obtain ⟨-, ⟨cellB, hcB, hoB, hclB⟩, hPc⟩ := hp
  intro T hT X
  rcases vx_callVX X hx (C := C) (hh := hh) (bytes := bytes) (maxL := maxL) (ret := ret) ho hl hin hse hcode hy hK (by rw [hT]; exact hcB) hoB hclB hg (hsize.trans hml.symm) (argsL := As) (rest := rest) (fun sig h => hn.trans (hlen sig h)) hstack hW (by rw [hb]; exact hdg)
    (fun vm₁ hW₁ => ⟨hf.1, hf.2, hPc (T.setVm vm₁) hT hW₁⟩) with ⟨v, vm₁, ⟨U', l2, c2, s2⟩, hW₁, X', ⟨g', mk, t, L, e1, e2, hq, h1, hL, h2, h3⟩, st⟩ | ⟨q, vm₁, ⟨U', l2, c2, s2⟩, hW₁, X', ⟨g', mk, t, L, E, ce, e1, e2, hq, hce, hcv, hcl, h1, hL, h2, h3⟩, st⟩
  · dsimp only [Pt.U, Pt.locs, Pt.cells, Pt.slots] at X' e1 e2 h1 h2 h3 st
    subst h1; subst h2; subst h3
    exact Or.inl ⟨v, (T.setVm vm₁).calling g' mk (Value.ref b :: As).toArray, t, U', L, hT, X', hL, e1, e2, hq, st⟩
  · dsimp only [Pt.U, Pt.locs, Pt.cells, Pt.slots] at X' e1 e2 h1 h2 h3 st hcl
    subst h1; subst h2; subst h3
    exact Or.inr ⟨q, (T.setVm vm₁).calling g' mk (Value.ref b :: As).toArray, t, U', L, E, ce, hT, X', hL, e1, e2, hq, hce, hcv, vx_cls hW₁ hcl, st⟩
theorem vx_runSX {hh : List (Nat × Nat × Nat × Nat)} (S : CallFix p m c cc nL s args Ts own) (hM : vx_Met l y ws rm Pc Qc XC mc ms free) (cw : vx_CSW R s args own index y bytes maxL ret hh ws rm mc ms n) (hp : PreS s H Pc As)
    (hg : g.method = m) (hn : As.length = n) (hsize : g.locals.size = nL) (hstack : g.stack = As.reverse ++ rest) (hW : 2 * g.monitorRoom + (rest.map fun v => v.category).sum ≤ 8) (hdg : decode cc g.pc = .ok (.invokestatic index, 3)) (hf : cells + mc ≤ R.cells ∧ slots + ms ≤ R.slots) :
    vx_Run p l e R s m args below meth c H locs cells slots mc ms g rest (Qc As.toArray) XC free := by
  obtain ⟨⟨hrc, hrs, hfr, hlo, hws, hcw⟩, hcode, hini, hy, hlen, hl, hstt⟩ := cw
  have hK : vx_Back l R p e below s args y 3 8 (PreOf R mc ms Pc) (PostOf Qc mc ms free) (vx_Post XC mc ms free) := vx_backW (hh := hh) (bytes := bytes) (maxL := maxL) (ret := ret) hM hp.1 hrc hrs hfr hlo hws hcw (fun a' U hW => word_at hW (Or.inl (by first | rfl | simp [Cond.onTables, Cond.keeps, Cond.steady])) hini)
  obtain ⟨hx, hb, hml, ho, -⟩ := S
  intro T hT X
  rcases vx_callSX X hx (hh := hh) (bytes := bytes) (maxL := maxL) (ret := ret) ho hl hstt hini hcode hy hK hg (hsize.trans hml.symm) (argsL := As) (rest := rest) (fun sig h => hn.trans (hlen sig h)) hstack hW (by rw [hb]; exact hdg)
    (fun vm₁ hW₁ => ⟨hf.1, hf.2, hp.2 (T.setVm vm₁) hT hW₁⟩) with ⟨v, vm₁, ⟨U', l2, c2, s2⟩, hW₁, X', ⟨g', mk, t, L, e1, e2, hq, h1, hL, h2, h3⟩, st⟩ | ⟨q, vm₁, ⟨U', l2, c2, s2⟩, hW₁, X', ⟨g', mk, t, L, E, ce, e1, e2, hq, hce, hcv, hcl, h1, hL, h2, h3⟩, st⟩
  · dsimp only [Pt.U, Pt.locs, Pt.cells, Pt.slots] at X' e1 e2 h1 h2 h3 st
    subst h1; subst h2; subst h3
    exact Or.inl ⟨v, (T.setVm vm₁).calling g' mk As.toArray, t, U', L, hT, X', hL, e1, e2, hq, st⟩
  · dsimp only [Pt.U, Pt.locs, Pt.cells, Pt.slots] at X' e1 e2 h1 h2 h3 st hcl
    subst h1; subst h2; subst h3
    exact Or.inr ⟨q, (T.setVm vm₁).calling g' mk As.toArray, t, U', L, E, ce, hT, X', hL, e1, e2, hq, hce, hcv, vx_cls hW₁ hcl, st⟩
end
end VXH
theorem vx_ofWH {l : Launch} {y : MethodName} {ws ws' : List Cond} {rm : Room} {Pc : Array Value → State → Prop} {Qc : Array Value → State → Outcome → State → Prop} {XC : String → State → State → Prop} {mc ms : Nat} {free : Addr → Prop} {cc : ByteArray} {maxL : Nat} {ret : Option FieldType} {hh : List (Nat × Nat × Nat × Nat)}
    (hy : plainName y.cls = true) (hw : ws = Cond.codeWith y cc maxL ret hh :: ws')
    (body : ∀ p e s m args below meth c s₁, BodyLoose p l y (headSpec ws rm) cc maxL ret e s m args below meth c s₁ → c.maxLocals = maxL → Pc args s →
      W p l e (headSpec ws rm).room s m args below meth c s.heap [] 0 0 (vx_MQ below Qc XC args s mc ms free) (entryFrame m args maxL)) : vx_Met l y ws rm Pc Qc XC mc ms free := by
  refine MetFree.of_bodyS (code := cc) (maxLocals := maxL) (ret := ret) hy ?_ ?_
  · intro args s m h hn
    obtain ⟨m9, meth, c, hn9, h1, h2, h3, h4, -, h5, h6, -⟩ := Cond.codeWith_spec (atoms_spec (ws := ws) h _ (by rw [hw]; exact List.mem_cons_self))
    cases hn.symm.trans hn9
    exact ⟨meth, c, h1, h2, h3, h4, h5, h6⟩
  · intro p e s m args below meth c s₁ B hml hP _
    have hh0 : s₁.heap = s.heap := by rw [B.state]; rfl
    obtain ⟨t, a1, o, b1, b2, b3⟩ := body p e s m args below meth c s₁ B hml hP s₁ hh0 (Stand.of_body B)
    exact ⟨t, o, a1, b1, b2, b3⟩
/-! ===== END ===== -/
end
section
/-! ===== BEGIN printed: names, fields, word lists, decode rows ===== -/
def RX0 : String := "Proratehouse$Bill"
def TX0 : u_T := fun k => match k with
  | 0 => ("Proratehouse$Bill", "payer", "I", true)
  | 1 => ("Proratehouse$Bill", "payee", "I", true)
  | 2 => ("Proratehouse$Bill", "amount", "I", true)
  | 3 => ("Proratehouse$Bill", "status", "I", false)
  | 4 => ("Proratehouse$Bill", "rejections", "I", false)
  | _ => ("Proratehouse$Bill", "settledBy", "I", false)
def tyX0 : Nat → FieldType := fun k => match k with
  | 0 => .int
  | 1 => .int
  | 2 => .int
  | 3 => .int
  | 4 => .int
  | _ => .int
abbrev wsX00 : List Cond := u_ws RX0 TX0 6
theorem nmX0 : ∀ a, a < 6 → ∀ b, b < 6 → a ≠ b → (TX0 a).2.1 ≠ (TX0 b).2.1 := by decide +kernel
theorem tyX0_ok : ∀ k, k < 6 → parseFieldDescriptor (TX0 k).2.2.1 = some (tyX0 k) := by decide +kernel
abbrev cX0_init : ByteArray := prog_2_method_1_code
def yX0_init : MethodName := ⟨RX0, "<init>", "(III)V"⟩
abbrev cX0_isOf : ByteArray := prog_2_method_2_code
def yX0_isOf : MethodName := ⟨RX0, "isOf", "(I)Z"⟩
abbrev cX0_isToBeSettled : ByteArray := prog_2_method_3_code
def yX0_isToBeSettled : MethodName := ⟨RX0, "isToBeSettled", "()Z"⟩
abbrev cX0_isAsLeftBy : ByteArray := prog_2_method_4_code
def yX0_isAsLeftBy : MethodName := ⟨RX0, "isAsLeftBy", "(I)Z"⟩
abbrev cX0_amountBack : ByteArray := prog_2_method_5_code
def yX0_amountBack : MethodName := ⟨RX0, "amountBack", "()I"⟩
abbrev cX0_settle : ByteArray := prog_2_method_6_code
def yX0_settle : MethodName := ⟨RX0, "settle", "(I)I"⟩
abbrev cX0_undo : ByteArray := prog_2_method_7_code
def yX0_undo : MethodName := ⟨RX0, "undo", "()I"⟩
abbrev cX0_gotByPayee : ByteArray := prog_2_method_8_code
def yX0_gotByPayee : MethodName := ⟨RX0, "gotByPayee", "()I"⟩
def RX1 : String := "Proratehouse$Clearing"
def TX1 : u_T := fun k => match k with
  | 0 => ("Proratehouse$Clearing", "bills", "[LProratehouse$Bill;", true)
  | 1 => ("Proratehouse$Clearing", "nets", "[J", true)
  | 2 => ("Proratehouse$Clearing", "count", "I", false)
  | 3 => ("Proratehouse$Clearing", "number", "I", false)
  | _ => ("Proratehouse$Clearing", "inDefault", "I", false)
def tyX1 : Nat → FieldType := fun k => match k with
  | 0 => .array (.object "Proratehouse$Bill")
  | 1 => .array .long
  | 2 => .int
  | 3 => .int
  | _ => .int
abbrev wsX10 : List Cond := u_ws RX1 TX1 5
theorem nmX1 : ∀ a, a < 5 → ∀ b, b < 5 → a ≠ b → (TX1 a).2.1 ≠ (TX1 b).2.1 := by decide +kernel
theorem tyX1_ok : ∀ k, k < 5 → parseFieldDescriptor (TX1 k).2.2.1 = some (tyX1 k) := by decide +kernel
abbrev cX1_init : ByteArray := prog_3_method_1_code
def yX1_init : MethodName := ⟨RX1, "<init>", "()V"⟩
abbrev cX1_addBill : ByteArray := prog_3_method_2_code
def yX1_addBill : MethodName := ⟨RX1, "addBill", "(III)I"⟩
abbrev cX1_billAt : ByteArray := prog_3_method_3_code
def yX1_billAt : MethodName := ⟨RX1, "billAt", "(I)LProratehouse$Bill;"⟩
abbrev cX1_isInDefault : ByteArray := prog_3_method_4_code
def yX1_isInDefault : MethodName := ⟨RX1, "isInDefault", "(I)Z"⟩
abbrev cX1_putDefault : ByteArray := prog_3_method_5_code
def yX1_putDefault : MethodName := ⟨RX1, "putDefault", "(IZ)V"⟩
abbrev cX1_settle : ByteArray := prog_3_method_6_code
def yX1_settle : MethodName := ⟨RX1, "settle", "()V"⟩
abbrev cX1_undo : ByteArray := prog_3_method_7_code
def yX1_undo : MethodName := ⟨RX1, "undo", "(I)I"⟩
abbrev cX1_forgetNets : ByteArray := prog_3_method_8_code
def yX1_forgetNets : MethodName := ⟨RX1, "forgetNets", "()V"⟩
abbrev cX1_addToNets : ByteArray := prog_3_method_9_code
def yX1_addToNets : MethodName := ⟨RX1, "addToNets", "(LProratehouse$Bill;I)V"⟩
abbrev cX1_netOf : ByteArray := prog_3_method_10_code
def yX1_netOf : MethodName := ⟨RX1, "netOf", "(I)J"⟩
abbrev cX1_sumOfNetsAboveZero : ByteArray := prog_3_method_11_code
def yX1_sumOfNetsAboveZero : MethodName := ⟨RX1, "sumOfNetsAboveZero", "()J"⟩
abbrev cX1_gotBy : ByteArray := prog_3_method_12_code
def yX1_gotBy : MethodName := ⟨RX1, "gotBy", "(I)J"⟩
def RX2 : String := "Proratehouse$Coupon"
def TX2 : u_T := fun k => match k with
  | 0 => ("Proratehouse$Coupon", "from", "I", true)
  | 1 => ("Proratehouse$Coupon", "to", "I", true)
  | 2 => ("Proratehouse$Coupon", "day", "I", true)
  | 3 => ("Proratehouse$Coupon", "tax", "I", true)
  | 4 => ("Proratehouse$Coupon", "carrier", "I", false)
  | 5 => ("Proratehouse$Coupon", "weight", "I", false)
  | 6 => ("Proratehouse$Coupon", "share", "I", false)
  | 7 => ("Proratehouse$Coupon", "status", "I", false)
  | _ => ("Proratehouse$Coupon", "bill", "I", false)
def tyX2 : Nat → FieldType := fun k => match k with
  | 0 => .int
  | 1 => .int
  | 2 => .int
  | 3 => .int
  | 4 => .int
  | 5 => .int
  | 6 => .int
  | 7 => .int
  | _ => .int
abbrev wsX20 : List Cond := u_ws RX2 TX2 9
theorem nmX2 : ∀ a, a < 9 → ∀ b, b < 9 → a ≠ b → (TX2 a).2.1 ≠ (TX2 b).2.1 := by decide +kernel
theorem tyX2_ok : ∀ k, k < 9 → parseFieldDescriptor (TX2 k).2.2.1 = some (tyX2 k) := by decide +kernel
abbrev cX2_init : ByteArray := prog_4_method_1_code
def yX2_init : MethodName := ⟨RX2, "<init>", "(LProratehouse$Leg;I)V"⟩
def RX3 : String := "Proratehouse$Fare"
def TX3 : u_T := fun k => match k with
  | 0 => ("Proratehouse$Fare", "from", "I", true)
  | 1 => ("Proratehouse$Fare", "to", "I", true)
  | 2 => ("Proratehouse$Fare", "cents", "I", true)
  | 3 => ("Proratehouse$Fare", "first", "I", true)
  | 4 => ("Proratehouse$Fare", "last", "I", true)
  | 5 => ("Proratehouse$Fare", "stops", "I", true)
  | _ => ("Proratehouse$Fare", "isWithdrawn", "Z", false)
def tyX3 : Nat → FieldType := fun k => match k with
  | 0 => .int
  | 1 => .int
  | 2 => .int
  | 3 => .int
  | 4 => .int
  | 5 => .int
  | _ => .boolean
abbrev wsX30 : List Cond := u_ws RX3 TX3 7
theorem nmX3 : ∀ a, a < 7 → ∀ b, b < 7 → a ≠ b → (TX3 a).2.1 ≠ (TX3 b).2.1 := by decide +kernel
theorem tyX3_ok : ∀ k, k < 7 → parseFieldDescriptor (TX3 k).2.2.1 = some (tyX3 k) := by decide +kernel
abbrev cX3_init : ByteArray := prog_5_method_1_code
def yX3_init : MethodName := ⟨RX3, "<init>", "(IIIIII)V"⟩
abbrev cX3_isFor : ByteArray := prog_5_method_2_code
def yX3_isFor : MethodName := ⟨RX3, "isFor", "(III)Z"⟩
def RX4 : String := "Proratehouse$Journey"
def TX4 : u_T := fun k => match k with
  | 0 => ("Proratehouse$Journey", "legs", "[LProratehouse$Leg;", true)
  | _ => ("Proratehouse$Journey", "count", "I", false)
def tyX4 : Nat → FieldType := fun k => match k with
  | 0 => .array (.object "Proratehouse$Leg")
  | _ => .int
abbrev wsX40 : List Cond := u_ws RX4 TX4 2
theorem nmX4 : ∀ a, a < 2 → ∀ b, b < 2 → a ≠ b → (TX4 a).2.1 ≠ (TX4 b).2.1 := by decide +kernel
theorem tyX4_ok : ∀ k, k < 2 → parseFieldDescriptor (TX4 k).2.2.1 = some (tyX4 k) := by decide +kernel
abbrev cX4_init : ByteArray := prog_6_method_1_code
def yX4_init : MethodName := ⟨RX4, "<init>", "()V"⟩
abbrev cX4_legAt : ByteArray := prog_6_method_2_code
def yX4_legAt : MethodName := ⟨RX4, "legAt", "(I)LProratehouse$Leg;"⟩
abbrev cX4_goesOn : ByteArray := prog_6_method_3_code
def yX4_goesOn : MethodName := ⟨RX4, "goesOn", "(II)Z"⟩
abbrev cX4_add : ByteArray := prog_6_method_4_code
def yX4_add : MethodName := ⟨RX4, "add", "(IIII)I"⟩
abbrev cX4_beginAnew : ByteArray := prog_6_method_5_code
def yX4_beginAnew : MethodName := ⟨RX4, "beginAnew", "()I"⟩
abbrev cX4_hasLegBefore : ByteArray := prog_6_method_6_code
def yX4_hasLegBefore : MethodName := ⟨RX4, "hasLegBefore", "(I)Z"⟩
abbrev cX4_isPoint : ByteArray := prog_6_method_7_code
def yX4_isPoint : MethodName := ⟨RX4, "isPoint", "(I)Z"⟩
abbrev cX4_placeAt : ByteArray := prog_6_method_8_code
def yX4_placeAt : MethodName := ⟨RX4, "placeAt", "(I)I"⟩
abbrev cX4_isStop : ByteArray := prog_6_method_9_code
def yX4_isStop : MethodName := ⟨RX4, "isStop", "(I)Z"⟩
abbrev cX4_priceOfPart : ByteArray := prog_6_method_10_code
def yX4_priceOfPart : MethodName := ⟨RX4, "priceOfPart", "(LProratehouse$Tariff;II)I"⟩
abbrev cX4_stopsBetween : ByteArray := prog_6_method_11_code
def yX4_stopsBetween : MethodName := ⟨RX4, "stopsBetween", "(II)I"⟩
abbrev cX4_milesOfLegs : ByteArray := prog_6_method_12_code
def yX4_milesOfLegs : MethodName := ⟨RX4, "milesOfLegs", "(LProratehouse$Pairs;II)I"⟩
abbrev cX4_highestBetween : ByteArray := prog_6_method_13_code
def yX4_highestBetween : MethodName := ⟨RX4, "highestBetween", "(LProratehouse$Tariff;II)I"⟩
def RX5 : String := "Proratehouse$Leg"
def TX5 : u_T := fun k => match k with
  | 0 => ("Proratehouse$Leg", "from", "I", false)
  | 1 => ("Proratehouse$Leg", "to", "I", false)
  | 2 => ("Proratehouse$Leg", "carrier", "I", false)
  | _ => ("Proratehouse$Leg", "day", "I", false)
def tyX5 : Nat → FieldType := fun k => match k with
  | 0 => .int
  | 1 => .int
  | 2 => .int
  | _ => .int
abbrev wsX50 : List Cond := u_ws RX5 TX5 4
theorem nmX5 : ∀ a, a < 4 → ∀ b, b < 4 → a ≠ b → (TX5 a).2.1 ≠ (TX5 b).2.1 := by decide +kernel
theorem tyX5_ok : ∀ k, k < 4 → parseFieldDescriptor (TX5 k).2.2.1 = some (tyX5 k) := by decide +kernel
abbrev cX5_init : ByteArray := prog_7_method_1_code
def yX5_init : MethodName := ⟨RX5, "<init>", "()V"⟩
def RX6 : String := "Proratehouse$Pairs"
def TX6 : u_T := fun k => match k with
  | _ => ("Proratehouse$Pairs", "numbers", "[I", true)
def tyX6 : Nat → FieldType := fun k => match k with
  | _ => .array .int
abbrev wsX60 : List Cond := u_ws RX6 TX6 1
theorem nmX6 : ∀ a, a < 1 → ∀ b, b < 1 → a ≠ b → (TX6 a).2.1 ≠ (TX6 b).2.1 := by decide +kernel
theorem tyX6_ok : ∀ k, k < 1 → parseFieldDescriptor (TX6 k).2.2.1 = some (tyX6 k) := by decide +kernel
abbrev cX6_init : ByteArray := prog_8_method_1_code
def yX6_init : MethodName := ⟨RX6, "<init>", "()V"⟩
abbrev cX6_get : ByteArray := prog_8_method_2_code
def yX6_get : MethodName := ⟨RX6, "get", "(II)I"⟩
abbrev cX6_put : ByteArray := prog_8_method_3_code
def yX6_put : MethodName := ⟨RX6, "put", "(III)I"⟩
def RX7 : String := "Proratehouse$Proration"
def TX7 : u_T := fun k => match k with
  | 0 => ("Proratehouse$Proration", "weights", "LProratehouse$Pairs;", true)
  | _ => ("Proratehouse$Proration", "provisos", "[I", true)
def tyX7 : Nat → FieldType := fun k => match k with
  | 0 => .object "Proratehouse$Pairs"
  | _ => .array .int
abbrev wsX70 : List Cond := u_ws RX7 TX7 2
theorem nmX7 : ∀ a, a < 2 → ∀ b, b < 2 → a ≠ b → (TX7 a).2.1 ≠ (TX7 b).2.1 := by decide +kernel
theorem tyX7_ok : ∀ k, k < 2 → parseFieldDescriptor (TX7 k).2.2.1 = some (tyX7 k) := by decide +kernel
abbrev cX7_init : ByteArray := prog_9_method_1_code
def yX7_init : MethodName := ⟨RX7, "<init>", "()V"⟩
abbrev cX7_putProviso : ByteArray := prog_9_method_2_code
def yX7_putProviso : MethodName := ⟨RX7, "putProviso", "(IIII)I"⟩
abbrev cX7_provisoOf : ByteArray := prog_9_method_3_code
def yX7_provisoOf : MethodName := ⟨RX7, "provisoOf", "(III)I"⟩
abbrev cX7_weightOf : ByteArray := prog_9_method_4_code
def yX7_weightOf : MethodName := ⟨RX7, "weightOf", "(LProratehouse$Coupon;LProratehouse$Pairs;)I"⟩
abbrev cX7_share : ByteArray := prog_9_method_5_code
def yX7_share : MethodName := ⟨RX7, "share", "(LProratehouse$Ticket;IIILProratehouse$Pairs;)I"⟩
abbrev cX7_shareByWeights : ByteArray := prog_9_method_6_code
def yX7_shareByWeights : MethodName := ⟨RX7, "shareByWeights", "(LProratehouse$Ticket;IIII)V"⟩
def RX8 : String := "Proratehouse$Tariff"
def TX8 : u_T := fun k => match k with
  | 0 => ("Proratehouse$Tariff", "miles", "LProratehouse$Pairs;", true)
  | 1 => ("Proratehouse$Tariff", "fares", "[LProratehouse$Fare;", true)
  | 2 => ("Proratehouse$Tariff", "departTaxes", "[I", true)
  | 3 => ("Proratehouse$Tariff", "changeTaxes", "[I", true)
  | 4 => ("Proratehouse$Tariff", "fareCount", "I", false)
  | 5 => ("Proratehouse$Tariff", "unit", "I", false)
  | _ => ("Proratehouse$Tariff", "today", "I", false)
def tyX8 : Nat → FieldType := fun k => match k with
  | 0 => .object "Proratehouse$Pairs"
  | 1 => .array (.object "Proratehouse$Fare")
  | 2 => .array .int
  | 3 => .array .int
  | 4 => .int
  | 5 => .int
  | _ => .int
abbrev wsX80 : List Cond := u_ws RX8 TX8 7
theorem nmX8 : ∀ a, a < 7 → ∀ b, b < 7 → a ≠ b → (TX8 a).2.1 ≠ (TX8 b).2.1 := by decide +kernel
theorem tyX8_ok : ∀ k, k < 7 → parseFieldDescriptor (TX8 k).2.2.1 = some (tyX8 k) := by decide +kernel
abbrev cX8_init : ByteArray := prog_10_method_1_code
def yX8_init : MethodName := ⟨RX8, "<init>", "()V"⟩
abbrev cX8_file : ByteArray := prog_10_method_2_code
def yX8_file : MethodName := ⟨RX8, "file", "(LProratehouse$Fare;)I"⟩
abbrev cX8_fareAt : ByteArray := prog_10_method_3_code
def yX8_fareAt : MethodName := ⟨RX8, "fareAt", "(I)LProratehouse$Fare;"⟩
abbrev cX8_putTaxes : ByteArray := prog_10_method_4_code
def yX8_putTaxes : MethodName := ⟨RX8, "putTaxes", "(III)V"⟩
abbrev cX8_taxAt : ByteArray := prog_10_method_5_code
def yX8_taxAt : MethodName := ⟨RX8, "taxAt", "(IZ)I"⟩
abbrev cX8_lowestFare : ByteArray := prog_10_method_6_code
def yX8_lowestFare : MethodName := ⟨RX8, "lowestFare", "(III)I"⟩
abbrev cX8_surcharge : ByteArray := prog_10_method_7_code
def yX8_surcharge : MethodName := ⟨RX8, "surcharge", "(III)I"⟩
abbrev cX8_roundedUp : ByteArray := prog_10_method_8_code
def yX8_roundedUp : MethodName := ⟨RX8, "roundedUp", "(II)I"⟩
def RX9 : String := "Proratehouse$Ticket"
def TX9 : u_T := fun k => match k with
  | 0 => ("Proratehouse$Ticket", "issuer", "I", true)
  | 1 => ("Proratehouse$Ticket", "price", "I", true)
  | 2 => ("Proratehouse$Ticket", "cutPoints", "I", true)
  | 3 => ("Proratehouse$Ticket", "coupons", "[LProratehouse$Coupon;", true)
  | 4 => ("Proratehouse$Ticket", "count", "I", false)
  | 5 => ("Proratehouse$Ticket", "taxes", "I", false)
  | 6 => ("Proratehouse$Ticket", "unshared", "I", false)
  | _ => ("Proratehouse$Ticket", "received", "J", false)
def tyX9 : Nat → FieldType := fun k => match k with
  | 0 => .int
  | 1 => .int
  | 2 => .int
  | 3 => .array (.object "Proratehouse$Coupon")
  | 4 => .int
  | 5 => .int
  | 6 => .int
  | _ => .long
abbrev wsX90 : List Cond := u_ws RX9 TX9 8
theorem nmX9 : ∀ a, a < 8 → ∀ b, b < 8 → a ≠ b → (TX9 a).2.1 ≠ (TX9 b).2.1 := by decide +kernel
theorem tyX9_ok : ∀ k, k < 8 → parseFieldDescriptor (TX9 k).2.2.1 = some (tyX9 k) := by decide +kernel
abbrev cX9_init : ByteArray := prog_11_method_1_code
def yX9_init : MethodName := ⟨RX9, "<init>", "(III)V"⟩
abbrev cX9_add : ByteArray := prog_11_method_2_code
def yX9_add : MethodName := ⟨RX9, "add", "(LProratehouse$Coupon;)V"⟩
abbrev cX9_couponAt : ByteArray := prog_11_method_3_code
def yX9_couponAt : MethodName := ⟨RX9, "couponAt", "(I)LProratehouse$Coupon;"⟩
abbrev cX9_openAt : ByteArray := prog_11_method_4_code
def yX9_openAt : MethodName := ⟨RX9, "openAt", "(I)LProratehouse$Coupon;"⟩
abbrev cX9_hasOpenOnes : ByteArray := prog_11_method_5_code
def yX9_hasOpenOnes : MethodName := ⟨RX9, "hasOpenOnes", "()Z"⟩
abbrev cX9_openShares : ByteArray := prog_11_method_6_code
def yX9_openShares : MethodName := ⟨RX9, "openShares", "()I"⟩
abbrev cX9_openTaxes : ByteArray := prog_11_method_7_code
def yX9_openTaxes : MethodName := ⟨RX9, "openTaxes", "()I"⟩
abbrev cX9_flownTaxes : ByteArray := prog_11_method_8_code
def yX9_flownTaxes : MethodName := ⟨RX9, "flownTaxes", "()I"⟩
abbrev cX9_turnOpenOnes : ByteArray := prog_11_method_9_code
def yX9_turnOpenOnes : MethodName := ⟨RX9, "turnOpenOnes", "(II)V"⟩
def RX10 : String := "Proratehouse$Ways"
def TX10 : u_T := fun k => match k with
  | 0 => ("Proratehouse$Ways", "sumsTo", "[I", true)
  | 1 => ("Proratehouse$Ways", "cutsTo", "[I", true)
  | 2 => ("Proratehouse$Ways", "partPrices", "[I", true)
  | 3 => ("Proratehouse$Ways", "leastSum", "I", false)
  | _ => ("Proratehouse$Ways", "leastCuts", "I", false)
def tyX10 : Nat → FieldType := fun k => match k with
  | 0 => .array .int
  | 1 => .array .int
  | 2 => .array .int
  | 3 => .int
  | _ => .int
abbrev wsX100 : List Cond := u_ws RX10 TX10 5
theorem nmX10 : ∀ a, a < 5 → ∀ b, b < 5 → a ≠ b → (TX10 a).2.1 ≠ (TX10 b).2.1 := by decide +kernel
theorem tyX10_ok : ∀ k, k < 5 → parseFieldDescriptor (TX10 k).2.2.1 = some (tyX10 k) := by decide +kernel
abbrev cX10_init : ByteArray := prog_12_method_1_code
def yX10_init : MethodName := ⟨RX10, "<init>", "()V"⟩
abbrev cX10_findLeast : ByteArray := prog_12_method_2_code
def yX10_findLeast : MethodName := ⟨RX10, "findLeast", "(LProratehouse$Journey;LProratehouse$Tariff;)V"⟩
abbrev cX10_goOn : ByteArray := prog_12_method_3_code
def yX10_goOn : MethodName := ⟨RX10, "goOn", "(III)V"⟩
abbrev cX10_leastOfAllSets : ByteArray := prog_12_method_4_code
def yX10_leastOfAllSets : MethodName := ⟨RX10, "leastOfAllSets", "(LProratehouse$Journey;LProratehouse$Tariff;)I"⟩
abbrev cX10_sumOfSet : ByteArray := prog_12_method_5_code
def yX10_sumOfSet : MethodName := ⟨RX10, "sumOfSet", "(II)I"⟩
def RX11 : String := "Proratehouse"
def TX11 : u_T := fun k => match k with
  | 0 => ("Proratehouse", "tariff", "LProratehouse$Tariff;", true)
  | 1 => ("Proratehouse", "proration", "LProratehouse$Proration;", true)
  | 2 => ("Proratehouse", "journey", "LProratehouse$Journey;", true)
  | 3 => ("Proratehouse", "ways", "LProratehouse$Ways;", true)
  | 4 => ("Proratehouse", "clearing", "LProratehouse$Clearing;", true)
  | 5 => ("Proratehouse", "tickets", "[LProratehouse$Ticket;", true)
  | 6 => ("Proratehouse", "carrierCash", "[J", true)
  | 7 => ("Proratehouse", "stateCash", "[J", true)
  | 8 => ("Proratehouse", "ticketCount", "I", false)
  | 9 => ("Proratehouse", "penaltyHundredths", "I", false)
  | _ => ("Proratehouse", "buyersPaid", "J", false)
def tyX11 : Nat → FieldType := fun k => match k with
  | 0 => .object "Proratehouse$Tariff"
  | 1 => .object "Proratehouse$Proration"
  | 2 => .object "Proratehouse$Journey"
  | 3 => .object "Proratehouse$Ways"
  | 4 => .object "Proratehouse$Clearing"
  | 5 => .array (.object "Proratehouse$Ticket")
  | 6 => .array .long
  | 7 => .array .long
  | 8 => .int
  | 9 => .int
  | _ => .long
abbrev wsX110 : List Cond := u_ws RX11 TX11 11
theorem nmX11 : ∀ a, a < 11 → ∀ b, b < 11 → a ≠ b → (TX11 a).2.1 ≠ (TX11 b).2.1 := by decide +kernel
theorem tyX11_ok : ∀ k, k < 11 → parseFieldDescriptor (TX11 k).2.2.1 = some (tyX11 k) := by decide +kernel
abbrev cX11_init : ByteArray := prog_1_method_1_code
def yX11_init : MethodName := ⟨RX11, "<init>", "()V"⟩
abbrev cX11_miles : ByteArray := prog_1_method_2_code
def yX11_miles : MethodName := ⟨RX11, "miles", "(III)I"⟩
abbrev cX11_fare : ByteArray := prog_1_method_3_code
def yX11_fare : MethodName := ⟨RX11, "fare", "(IIIIII)I"⟩
abbrev cX11_unit : ByteArray := prog_1_method_5_code
def yX11_unit : MethodName := ⟨RX11, "unit", "(I)I"⟩
abbrev cX11_tax : ByteArray := prog_1_method_6_code
def yX11_tax : MethodName := ⟨RX11, "tax", "(III)V"⟩
abbrev cX11_weight : ByteArray := prog_1_method_7_code
def yX11_weight : MethodName := ⟨RX11, "weight", "(III)I"⟩
abbrev cX11_proviso : ByteArray := prog_1_method_8_code
def yX11_proviso : MethodName := ⟨RX11, "proviso", "(IIII)I"⟩
abbrev cX11_penalty : ByteArray := prog_1_method_9_code
def yX11_penalty : MethodName := ⟨RX11, "penalty", "(I)I"⟩
abbrev cX11_leg : ByteArray := prog_1_method_10_code
def yX11_leg : MethodName := ⟨RX11, "leg", "(IIII)I"⟩
abbrev cX11_part : ByteArray := prog_1_method_12_code
def yX11_part : MethodName := ⟨RX11, "part", "(II)I"⟩
abbrev cX11_price : ByteArray := prog_1_method_13_code
def yX11_price : MethodName := ⟨RX11, "price", "()I"⟩
abbrev cX11_priceAnew : ByteArray := prog_1_method_14_code
def yX11_priceAnew : MethodName := ⟨RX11, "priceAnew", "()I"⟩
abbrev cX11_cuts : ByteArray := prog_1_method_15_code
def yX11_cuts : MethodName := ⟨RX11, "cuts", "()I"⟩
abbrev cX11_issue : ByteArray := prog_1_method_16_code
def yX11_issue : MethodName := ⟨RX11, "issue", "(I)I"⟩
abbrev cX11_fly : ByteArray := prog_1_method_17_code
def yX11_fly : MethodName := ⟨RX11, "fly", "(II)I"⟩
abbrev cX11_endorse : ByteArray := prog_1_method_18_code
def yX11_endorse : MethodName := ⟨RX11, "endorse", "(III)I"⟩
abbrev cX11_refund : ByteArray := prog_1_method_19_code
def yX11_refund : MethodName := ⟨RX11, "refund", "(I)I"⟩
abbrev cX11_reissue : ByteArray := prog_1_method_20_code
def yX11_reissue : MethodName := ⟨RX11, "reissue", "(I)I"⟩
abbrev cX11_pass : ByteArray := prog_1_method_21_code
def yX11_pass : MethodName := ⟨RX11, "pass", "(I)I"⟩
abbrev cX11_clear : ByteArray := prog_1_method_22_code
def yX11_clear : MethodName := ⟨RX11, "clear", "()J"⟩
abbrev cX11_reject : ByteArray := prog_1_method_23_code
def yX11_reject : MethodName := ⟨RX11, "reject", "(I)I"⟩
abbrev cX11_rebill : ByteArray := prog_1_method_24_code
def yX11_rebill : MethodName := ⟨RX11, "rebill", "(I)V"⟩
abbrev cX11_fails : ByteArray := prog_1_method_25_code
def yX11_fails : MethodName := ⟨RX11, "fails", "(IZ)I"⟩
abbrev cX11_ofTicket : ByteArray := prog_1_method_26_code
def yX11_ofTicket : MethodName := ⟨RX11, "ofTicket", "(II)I"⟩
abbrev cX11_ofCoupon : ByteArray := prog_1_method_27_code
def yX11_ofCoupon : MethodName := ⟨RX11, "ofCoupon", "(III)I"⟩
abbrev cX11_ofBill : ByteArray := prog_1_method_28_code
def yX11_ofBill : MethodName := ⟨RX11, "ofBill", "(II)I"⟩
abbrev cX11_cash : ByteArray := prog_1_method_29_code
def yX11_cash : MethodName := ⟨RX11, "cash", "(I)J"⟩
abbrev cX11_cashAnew : ByteArray := prog_1_method_30_code
def yX11_cashAnew : MethodName := ⟨RX11, "cashAnew", "(I)J"⟩
abbrev cX11_state : ByteArray := prog_1_method_31_code
def yX11_state : MethodName := ⟨RX11, "state", "(I)J"⟩
abbrev cX11_paid : ByteArray := prog_1_method_32_code
def yX11_paid : MethodName := ⟨RX11, "paid", "()J"⟩
abbrev cX11_of : ByteArray := prog_1_method_33_code
def yX11_of : MethodName := ⟨RX11, "of", "(I)I"⟩
abbrev cX11_isWithin : ByteArray := prog_1_method_34_code
def yX11_isWithin : MethodName := ⟨RX11, "isWithin", "(III)Z"⟩
abbrev cX11_isPlace : ByteArray := prog_1_method_35_code
def yX11_isPlace : MethodName := ⟨RX11, "isPlace", "(I)Z"⟩
abbrev cX11_isCarrier : ByteArray := prog_1_method_36_code
def yX11_isCarrier : MethodName := ⟨RX11, "isCarrier", "(I)Z"⟩
abbrev cX11_ticketAt : ByteArray := prog_1_method_37_code
def yX11_ticketAt : MethodName := ⟨RX11, "ticketAt", "(I)LProratehouse$Ticket;"⟩
abbrev cX11_canBeIssued : ByteArray := prog_1_method_38_code
def yX11_canBeIssued : MethodName := ⟨RX11, "canBeIssued", "()Z"⟩
abbrev cX11_issued : ByteArray := prog_1_method_39_code
def yX11_issued : MethodName := ⟨RX11, "issued", "(I)LProratehouse$Ticket;"⟩
abbrev cX11_shareOut : ByteArray := prog_1_method_40_code
def yX11_shareOut : MethodName := ⟨RX11, "shareOut", "(LProratehouse$Ticket;)V"⟩
abbrev cX11_receive : ByteArray := prog_1_method_41_code
def yX11_receive : MethodName := ⟨RX11, "receive", "(LProratehouse$Ticket;I)V"⟩
abbrev cX11_addCash : ByteArray := prog_1_method_42_code
def yX11_addCash : MethodName := ⟨RX11, "addCash", "(IJ)V"⟩
abbrev cX11_moveNets : ByteArray := prog_1_method_43_code
def yX11_moveNets : MethodName := ⟨RX11, "moveNets", "()V"⟩
def RX12 : String := "ProratehouseModel"
def TX12 : u_T := fun k => match k with
  | _ => ("", "", "", false)
def tyX12 : Nat → FieldType := fun k => match k with
  | _ => .int
abbrev wsX120 : List Cond := u_ws RX12 TX12 0
theorem nmX12 : ∀ a, a < 0 → ∀ b, b < 0 → a ≠ b → (TX12 a).2.1 ≠ (TX12 b).2.1 := by decide +kernel
theorem tyX12_ok : ∀ k, k < 0 → parseFieldDescriptor (TX12 k).2.2.1 = some (tyX12 k) := by decide +kernel
def RJ9 : String := "java/lang/Math"
def TJ9 : u_T := fun k => match k with
  | _ => ("", "", "", false)
def tyJ9 : Nat → FieldType := fun k => match k with
  | _ => .int
abbrev wsJ90 : List Cond := u_ws RJ9 TJ9 0
theorem nmJ9 : ∀ a, a < 0 → ∀ b, b < 0 → a ≠ b → (TJ9 a).2.1 ≠ (TJ9 b).2.1 := by decide +kernel
theorem tyJ9_ok : ∀ k, k < 0 → parseFieldDescriptor (TJ9 k).2.2.1 = some (tyJ9 k) := by decide +kernel
abbrev cJ9_max_7cf53 : ByteArray := prog_19_method_65_code
def yJ9_max_7cf53 : MethodName := ⟨RJ9, "max", "(II)I"⟩
abbrev cJ9_max_f86c9 : ByteArray := prog_19_method_66_code
def yJ9_max_f86c9 : MethodName := ⟨RJ9, "max", "(JJ)J"⟩
abbrev cJ9_min_7cf53 : ByteArray := prog_19_method_69_code
def yJ9_min_7cf53 : MethodName := ⟨RJ9, "min", "(II)I"⟩
def RJ0 : String := "java/lang/String"
def TJ0 : u_T := fun k => match k with
  | _ => ("", "", "", false)
def tyJ0 : Nat → FieldType := fun k => match k with
  | _ => .int
abbrev wsJ00 : List Cond := u_ws RJ0 TJ0 0
theorem nmJ0 : ∀ a, a < 0 → ∀ b, b < 0 → a ≠ b → (TJ0 a).2.1 ≠ (TJ0 b).2.1 := by decide +kernel
theorem tyJ0_ok : ∀ k, k < 0 → parseFieldDescriptor (TJ0 k).2.2.1 = some (tyJ0 k) := by decide +kernel
def RL : String := "ProratehouseLaw"
abbrev cL_at : ByteArray := method_2_code
def yL_at : MethodName := ⟨RL, "at", "([II)I"⟩
abbrev cL_low : ByteArray := method_3_code
def yL_low : MethodName := ⟨RL, "low", "(II)I"⟩
abbrev cL_miles : ByteArray := method_4_code
def yL_miles : MethodName := ⟨RL, "miles", "(LProratehouse;III)I"⟩
abbrev cL_fare : ByteArray := method_5_code
def yL_fare : MethodName := ⟨RL, "fare", "(LProratehouse;IIIIII)I"⟩
abbrev cL_unit : ByteArray := method_7_code
def yL_unit : MethodName := ⟨RL, "unit", "(LProratehouse;I)I"⟩
abbrev cL_tax : ByteArray := method_8_code
def yL_tax : MethodName := ⟨RL, "tax", "(LProratehouse;III)I"⟩
abbrev cL_weight : ByteArray := method_9_code
def yL_weight : MethodName := ⟨RL, "weight", "(LProratehouse;III)I"⟩
abbrev cL_proviso : ByteArray := method_10_code
def yL_proviso : MethodName := ⟨RL, "proviso", "(LProratehouse;IIII)I"⟩
abbrev cL_penalty : ByteArray := method_11_code
def yL_penalty : MethodName := ⟨RL, "penalty", "(LProratehouse;I)I"⟩
abbrev cL_leg : ByteArray := method_12_code
def yL_leg : MethodName := ⟨RL, "leg", "(LProratehouse;IIII)I"⟩
abbrev cL_part : ByteArray := method_13_code
def yL_part : MethodName := ⟨RL, "part", "(LProratehouse;II)I"⟩
abbrev cL_issue : ByteArray := method_14_code
def yL_issue : MethodName := ⟨RL, "issue", "(LProratehouse;I)I"⟩
abbrev cL_fly : ByteArray := method_15_code
def yL_fly : MethodName := ⟨RL, "fly", "(LProratehouse;II)I"⟩
abbrev cL_endorse : ByteArray := method_16_code
def yL_endorse : MethodName := ⟨RL, "endorse", "(LProratehouse;III)I"⟩
abbrev cL_refund : ByteArray := method_17_code
def yL_refund : MethodName := ⟨RL, "refund", "(LProratehouse;I)I"⟩
abbrev cL_reissue : ByteArray := method_18_code
def yL_reissue : MethodName := ⟨RL, "reissue", "(LProratehouse;I)I"⟩
abbrev cL_pass : ByteArray := method_19_code
def yL_pass : MethodName := ⟨RL, "pass", "(LProratehouse;I)I"⟩
abbrev cL_reject : ByteArray := method_20_code
def yL_reject : MethodName := ⟨RL, "reject", "(LProratehouse;I)I"⟩
abbrev cL_rebill : ByteArray := method_21_code
def yL_rebill : MethodName := ⟨RL, "rebill", "(LProratehouse;I)I"⟩
abbrev cL_fails : ByteArray := method_22_code
def yL_fails : MethodName := ⟨RL, "fails", "(LProratehouse;IZ)I"⟩
abbrev cL_ofTicket : ByteArray := method_23_code
def yL_ofTicket : MethodName := ⟨RL, "ofTicket", "(LProratehouse;II)I"⟩
abbrev cL_ofCoupon : ByteArray := method_24_code
def yL_ofCoupon : MethodName := ⟨RL, "ofCoupon", "(LProratehouse;III)I"⟩
abbrev cL_ofBill : ByteArray := method_25_code
def yL_ofBill : MethodName := ⟨RL, "ofBill", "(LProratehouse;II)I"⟩
abbrev cL_cash : ByteArray := method_26_code
def yL_cash : MethodName := ⟨RL, "cash", "(LProratehouse;I)J"⟩
abbrev cL_cashAnew : ByteArray := method_27_code
def yL_cashAnew : MethodName := ⟨RL, "cashAnew", "(LProratehouse;I)J"⟩
abbrev cL_state : ByteArray := method_28_code
def yL_state : MethodName := ⟨RL, "state", "(LProratehouse;I)J"⟩
abbrev cL_of : ByteArray := method_29_code
def yL_of : MethodName := ⟨RL, "of", "(LProratehouse;I)I"⟩
abbrev cL_balances : ByteArray := method_30_code
def yL_balances : MethodName := ⟨RL, "balances", "(LProratehouse;[I)Z"⟩
abbrev cL_isWay : ByteArray := method_31_code
def yL_isWay : MethodName := ⟨RL, "isWay", "(LProratehouse;[I)Z"⟩
abbrev cL_isTicket : ByteArray := method_32_code
def yL_isTicket : MethodName := ⟨RL, "isTicket", "(LProratehouse;[II)Z"⟩
abbrev cL_isBill : ByteArray := method_33_code
def yL_isBill : MethodName := ⟨RL, "isBill", "(LProratehouse;[II)Z"⟩
abbrev cL_tells : ByteArray := method_34_code
def yL_tells : MethodName := ⟨RL, "tells", "(LProratehouse;[III)Z"⟩
abbrev cL_travels : ByteArray := method_35_code
def yL_travels : MethodName := ⟨RL, "travels", "(LProratehouse;[I[III)Z"⟩
abbrev cL_sells : ByteArray := method_36_code
def yL_sells : MethodName := ⟨RL, "sells", "(LProratehouse;[III)Z"⟩
abbrev cL_flies : ByteArray := method_37_code
def yL_flies : MethodName := ⟨RL, "flies", "(LProratehouse;[II)Z"⟩
abbrev cL_clears : ByteArray := method_38_code
def yL_clears : MethodName := ⟨RL, "clears", "(LProratehouse;[III)Z"⟩
abbrev cL_acts : ByteArray := method_39_code
def yL_acts : MethodName := ⟨RL, "acts", "(LProratehouse;[I[III)Z"⟩
abbrev cL_law : ByteArray := code
def yL_law : MethodName := ⟨RL, "law", "([I)Z"⟩
abbrev vwCl : List vw_C := [(RX0, TX0, 6), (RX1, TX1, 5), (RX2, TX2, 9), (RX3, TX3, 7), (RX4, TX4, 2), (RX5, TX5, 4), (RX6, TX6, 1), (RX7, TX7, 2), (RX8, TX8, 7), (RX9, TX9, 8), (RX10, TX10, 5), (RX11, TX11, 11)]
end
section
/-! abstract heaps: cells by number from 1 on (0: null), what each is, and what it holds -/
abbrev AH : Type := Nat × (Nat → Nat) × (Nat → Nat) × (Nat → Nat → Int32) × (Nat → Nat → Int64) × (Nat → Nat → Nat)
def zN (σ : AH) : Nat := σ.1
def zK (σ : AH) (a : Nat) : Nat := σ.2.1 a
def zL (σ : AH) (a : Nat) : Nat := σ.2.2.1 a
def zI (σ : AH) (a k : Nat) : Int32 := σ.2.2.2.1 a k
def zJ (σ : AH) (a k : Nat) : Int64 := σ.2.2.2.2.1 a k
def zR (σ : AH) (a k : Nat) : Nat := σ.2.2.2.2.2 a k
def uI (σ : AH) (a k : Nat) (x : Int32) : AH := (zN σ, zK σ, zL σ, fun b j => if b = a ∧ j = k then x else zI σ b j, zJ σ, zR σ)
def uJ (σ : AH) (a k : Nat) (x : Int64) : AH := (zN σ, zK σ, zL σ, zI σ, fun b j => if b = a ∧ j = k then x else zJ σ b j, zR σ)
def uR (σ : AH) (a k : Nat) (x : Nat) : AH := (zN σ, zK σ, zL σ, zI σ, zJ σ, fun b j => if b = a ∧ j = k then x else zR σ b j)
def nw (σ : AH) (κ n : Nat) : AH := (zN σ + 1, fun b => if b = zN σ + 1 then κ else zK σ b, fun b => if b = zN σ + 1 then n else zL σ b, fun b j => if b = zN σ + 1 then 0 else zI σ b j, fun b j => if b = zN σ + 1 then 0 else zJ σ b j, fun b j => if b = zN σ + 1 then 0 else zR σ b j)
theorem zN_uI (σ : AH) (a k : Nat) (x : Int32) : zN (uI σ a k x) = zN σ := rfl
theorem zK_uI (σ : AH) (a k : Nat) (x : Int32) (b : Nat) : zK (uI σ a k x) b = zK σ b := rfl
theorem zL_uI (σ : AH) (a k : Nat) (x : Int32) (b : Nat) : zL (uI σ a k x) b = zL σ b := rfl
theorem zI_uI (σ : AH) (a k : Nat) (x : Int32) (b j : Nat) : zI (uI σ a k x) b j = if b = a ∧ j = k then x else zI σ b j := rfl
theorem zJ_uI (σ : AH) (a k : Nat) (x : Int32) (b j : Nat) : zJ (uI σ a k x) b j = zJ σ b j := rfl
theorem zR_uI (σ : AH) (a k : Nat) (x : Int32) (b j : Nat) : zR (uI σ a k x) b j = zR σ b j := rfl
theorem zN_uJ (σ : AH) (a k : Nat) (x : Int64) : zN (uJ σ a k x) = zN σ := rfl
theorem zK_uJ (σ : AH) (a k : Nat) (x : Int64) (b : Nat) : zK (uJ σ a k x) b = zK σ b := rfl
theorem zL_uJ (σ : AH) (a k : Nat) (x : Int64) (b : Nat) : zL (uJ σ a k x) b = zL σ b := rfl
theorem zI_uJ (σ : AH) (a k : Nat) (x : Int64) (b j : Nat) : zI (uJ σ a k x) b j = zI σ b j := rfl
theorem zJ_uJ (σ : AH) (a k : Nat) (x : Int64) (b j : Nat) : zJ (uJ σ a k x) b j = if b = a ∧ j = k then x else zJ σ b j := rfl
theorem zR_uJ (σ : AH) (a k : Nat) (x : Int64) (b j : Nat) : zR (uJ σ a k x) b j = zR σ b j := rfl
theorem zN_uR (σ : AH) (a k x : Nat) : zN (uR σ a k x) = zN σ := rfl
theorem zK_uR (σ : AH) (a k x : Nat) (b : Nat) : zK (uR σ a k x) b = zK σ b := rfl
theorem zL_uR (σ : AH) (a k x : Nat) (b : Nat) : zL (uR σ a k x) b = zL σ b := rfl
theorem zI_uR (σ : AH) (a k x : Nat) (b j : Nat) : zI (uR σ a k x) b j = zI σ b j := rfl
theorem zJ_uR (σ : AH) (a k x : Nat) (b j : Nat) : zJ (uR σ a k x) b j = zJ σ b j := rfl
theorem zR_uR (σ : AH) (a k x : Nat) (b j : Nat) : zR (uR σ a k x) b j = if b = a ∧ j = k then x else zR σ b j := rfl
theorem zN_nw (σ : AH) (κ n : Nat) : zN (nw σ κ n) = zN σ + 1 := rfl
theorem zK_nw (σ : AH) (κ n b : Nat) : zK (nw σ κ n) b = if b = zN σ + 1 then κ else zK σ b := rfl
theorem zL_nw (σ : AH) (κ n b : Nat) : zL (nw σ κ n) b = if b = zN σ + 1 then n else zL σ b := rfl
theorem zI_nw (σ : AH) (κ n b j : Nat) : zI (nw σ κ n) b j = if b = zN σ + 1 then 0 else zI σ b j := rfl
theorem zJ_nw (σ : AH) (κ n b j : Nat) : zJ (nw σ κ n) b j = if b = zN σ + 1 then 0 else zJ σ b j := rfl
theorem zR_nw (σ : AH) (κ n b j : Nat) : zR (nw σ κ n) b j = if b = zN σ + 1 then 0 else zR σ b j := rfl
/-- what an abstract value is on the machine -/
def cv (ρ : Nat → Nat) (v : Value) : Value := match v with
  | .ref a => if a = 0 then .null else .ref (ρ a)
  | v => v
def oref (ρ : Nat → Nat) (a : Nat) : Option Nat := if a = 0 then none else some (ρ a)
theorem cv_int (ρ : Nat → Nat) (x : Int32) : cv ρ (.int x) = .int x := rfl
theorem cv_long (ρ : Nat → Nat) (x : Int64) : cv ρ (.long x) = .long x := rfl
theorem cv_ref {ρ : Nat → Nat} {a : Nat} (h : a ≠ 0) : cv ρ (.ref a) = .ref (ρ a) := by simp [cv, h]
theorem cv_null (ρ : Nat → Nat) : cv ρ (.ref 0) = .null := rfl
theorem cv_rf (ρ : Nat → Nat) (a : Nat) : va_rf (oref ρ a) = cv ρ (.ref a) := by
  by_cases h : a = 0 <;> simp [cv, oref, va_rf, h]
theorem cv_cat (ρ : Nat → Nat) (v : Value) : (cv ρ v).category = v.category := by
  cases v with
  | ref a => by_cases h : a = 0 <;> simp [cv, h, Value.category]
  | _ => rfl
/-- a value's reference lies among n cells -/
def wv (n : Nat) (v : Value) : Prop := match v with
  | .ref a => a ≤ n
  | _ => True
theorem wv_mono {n m : Nat} (h : n ≤ m) {v : Value} (hv : wv n v) : wv m v := by
  cases v with
  | ref a => exact Nat.le_trans hv h
  | _ => trivial
theorem cv_agree {ρ ρ' : Nat → Nat} {n : Nat} (h : ∀ a, 1 ≤ a → a ≤ n → ρ' a = ρ a) {v : Value} (hv : wv n v) : cv ρ' v = cv ρ v := by
  cases v with
  | ref a =>
    by_cases h0 : a = 0
    · simp [cv, h0]
    · simp [cv, h0, h a (Nat.pos_of_ne_zero h0) hv]
  | _ => rfl
/-- the classes' fields: their types and number -/
def fT : Nat → Nat → FieldType := fun ci => match ci with
  | 0 => tyX0 | 1 => tyX1 | 2 => tyX2 | 3 => tyX3 | 4 => tyX4 | 5 => tyX5 | 6 => tyX6 | 7 => tyX7 | 8 => tyX8 | 9 => tyX9 | 10 => tyX10 | _ => tyX11
def fN : Nat → Nat := fun ci => match ci with
  | 0 => 6 | 1 => 5 | 2 => 9 | 3 => 7 | 4 => 2 | 5 => 4 | 6 => 1 | 7 => 2 | 8 => 7 | 9 => 8 | 10 => 5 | _ => 11
def fv (ρ : Nat → Nat) (σ : AH) (a : Nat) (ty : FieldType) (k : Nat) : Value := match ty with
  | .long => .long (zJ σ a k)
  | .object _ => cv ρ (.ref (zR σ a k))
  | .array _ => cv ρ (.ref (zR σ a k))
  | _ => .int (zI σ a k)
def ent (dA : Nat → ClassId) (ρ : Nat → Nat) (σ : AH) (a : Nat) : va_E :=
  if zK σ a < 13 then .inr (zK σ a, (List.range (fN (zK σ a))).map (fun k => fv ρ σ a (fT (zK σ a) k) k))
  else .inl (dA (if zK σ a = 23 then 20 else zK σ a), zL σ a, if zK σ a = 20 ∨ zK σ a = 22 ∨ zK σ a = 23 then .inl (zI σ a) else if zK σ a = 21 then .inr (.inl (zJ σ a)) else .inr (.inr (.inr (.inr (fun j => oref ρ (zR σ a j))))))
def wlp (σ : AH) (k : Nat) : Bool := !Nat.beq (zK σ (k + 1)) 19
theorem wlp_t {σ : AH} {k : Nat} (h : zK σ (k + 1) ≠ 19) : wlp σ k = true := by
  unfold wlp
  cases e : Nat.beq (zK σ (k + 1)) 19 with
  | false => rfl
  | true => exact absurd (Nat.eq_of_beq_eq_true e) h
/-- the cells that are there: all but the holes -/
def wl (dA : Nat → ClassId) (ρ : Nat → Nat) (σ : AH) : va_W := ((List.range (zN σ)).filter (wlp σ)).map (fun k => (ρ (k + 1), ent dA ρ σ (k + 1)))
/-- a cell's place among them -/
def ps (σ : AH) (a : Nat) : Nat := ((List.range (a - 1)).filter (wlp σ)).length
theorem rg_split {a n : Nat} (h0 : a ≠ 0) (h : a ≤ n) : List.range n = List.range (a - 1) ++ (a - 1) :: (List.range (n - a)).map (fun k => a + k) := by
  have e1 : n = (a - 1) + ((n - a) + 1) := by omega
  have e2 : List.range n = List.range (a - 1) ++ (List.range ((n - a) + 1)).map (fun k => (a - 1) + k) := by
    conv => lhs; rw [e1]
    exact List.range_add
  rw [e2, List.range_succ_eq_map, List.map_cons, List.map_map]
  congr 2
  apply List.map_congr_left
  intro k _
  show a - 1 + (k + 1) = a + k
  omega
theorem wl_split (dA : Nat → ClassId) (ρ : Nat → Nat) {σ : AH} {a : Nat} (h0 : a ≠ 0) (hk : zK σ a ≠ 19) (h : a ≤ zN σ) : wl dA ρ σ = ((List.range (a - 1)).filter (wlp σ)).map (fun k => (ρ (k + 1), ent dA ρ σ (k + 1))) ++ (ρ a, ent dA ρ σ a) :: ((((List.range (zN σ - a)).map (fun k => a + k)).filter (wlp σ)).map (fun k => (ρ (k + 1), ent dA ρ σ (k + 1)))) := by
  have e : a - 1 + 1 = a := by omega
  have hp : wlp σ (a - 1) = true := wlp_t (by rw [e]; exact hk)
  unfold wl
  rw [rg_split h0 h, List.filter_append, List.filter_cons_of_pos hp, List.map_append, List.map_cons, e]
theorem wl_get {dA : Nat → ClassId} {ρ : Nat → Nat} {σ : AH} {a : Nat} (h0 : a ≠ 0) (hk : zK σ a ≠ 19) (h : a ≤ zN σ) : (wl dA ρ σ)[ps σ a]? = some (ρ a, ent dA ρ σ a) := by
  rw [wl_split dA ρ h0 hk h, List.getElem?_append_right (by rw [List.length_map]; exact Nat.le_refl _), List.length_map, ps, Nat.sub_self]
  rfl
theorem wl_set {dA : Nat → ClassId} {ρ : Nat → Nat} {σ σ' : AH} {a : Nat} {e : va_E} (h0 : a ≠ 0) (hk : zK σ a ≠ 19) (h : a ≤ zN σ) (hn : zN σ' = zN σ) (hkk : ∀ b, zK σ' b = zK σ b) (hs : ∀ b, b ≠ a → ent dA ρ σ' b = ent dA ρ σ b) (he : ent dA ρ σ' a = e) : (wl dA ρ σ).set (ps σ a) (ρ a, e) = wl dA ρ σ' := by
  have hw : wlp σ' = wlp σ := funext fun k => by unfold wlp; rw [hkk]
  rw [wl_split dA ρ h0 hk h, wl_split dA ρ (σ := σ') h0 (by rw [hkk]; exact hk) (by rw [hn]; exact h), hn, hw, he]
  have hl : ps σ a = (((List.range (a - 1)).filter (wlp σ)).map (fun k => (ρ (k + 1), ent dA ρ σ (k + 1)))).length := by rw [List.length_map]; rfl
  rw [List.set_append_right _ _ (by rw [hl]; exact Nat.le_refl _), hl, Nat.sub_self, List.set_cons_zero]
  congr 1
  · apply List.map_congr_left
    intro k hk1
    have h1 := List.mem_range.mp (List.mem_filter.mp hk1).1
    rw [hs (k + 1) (by omega)]
  · congr 1
    apply List.map_congr_left
    intro k hk1
    obtain ⟨j, -, rfl⟩ := List.mem_map.mp (List.mem_filter.mp hk1).1
    rw [hs (a + j + 1) (by omega)]
def rup (ρ : Nat → Nat) (a q : Nat) : Nat → Nat := fun b => if b = a then q else ρ b
theorem oref_rup {ρ : Nat → Nat} {n q b : Nat} (h : b ≤ n) : oref (rup ρ (n + 1) q) b = oref ρ b := by
  by_cases h0 : b = 0
  · simp [oref, h0]
  · simp [oref, h0, rup, show ¬ b = n + 1 by omega]
theorem cv_rup {ρ : Nat → Nat} {n q b : Nat} (h : b ≤ n) : cv (rup ρ (n + 1) q) (.ref b) = cv ρ (.ref b) := by
  rw [← cv_rf, ← cv_rf, oref_rup h]
theorem ent_nw_old {dA : Nat → ClassId} {ρ : Nat → Nat} {σ : AH} {κ n q a : Nat} (hc : ∀ b j, zR σ b j ≤ zN σ) (ha : a ≤ zN σ) : ent dA (rup ρ (zN σ + 1) q) (nw σ κ n) a = ent dA ρ σ a := by
  have hne : ¬ a = zN σ + 1 := by omega
  have e1 : zK (nw σ κ n) a = zK σ a := by rw [zK_nw, if_neg hne]
  have e2 : zL (nw σ κ n) a = zL σ a := by rw [zL_nw, if_neg hne]
  have e3 : zI (nw σ κ n) a = zI σ a := by funext j; rw [zI_nw, if_neg hne]
  have e4 : zJ (nw σ κ n) a = zJ σ a := by funext j; rw [zJ_nw, if_neg hne]
  have e5 : zR (nw σ κ n) a = zR σ a := by funext j; rw [zR_nw, if_neg hne]
  have e6 : (fun j => oref (rup ρ (zN σ + 1) q) (zR (nw σ κ n) a j)) = fun j => oref ρ (zR σ a j) := by funext j; rw [e5, oref_rup (hc a j)]
  have e7 : ∀ ty k, fv (rup ρ (zN σ + 1) q) (nw σ κ n) a ty k = fv ρ σ a ty k := by
    intro ty k
    cases ty <;> simp only [fv, e3, e4, e5, cv_rup (hc a k)]
  unfold ent
  rw [e1, e2, e3, e4, e6]
  simp only [e7]
theorem wl_push {dA : Nat → ClassId} {ρ : Nat → Nat} {σ : AH} {κ n q : Nat} {e : va_E} (hκ : κ ≠ 19) (hc : ∀ b j, zR σ b j ≤ zN σ) (he : ent dA (rup ρ (zN σ + 1) q) (nw σ κ n) (zN σ + 1) = e) : wl dA ρ σ ++ [(q, e)] = wl dA (rup ρ (zN σ + 1) q) (nw σ κ n) := by
  unfold wl
  have hw : ∀ k, k < zN σ → wlp (nw σ κ n) k = wlp σ k := fun k hk => by unfold wlp; rw [zK_nw, if_neg (by omega)]
  have hp : wlp (nw σ κ n) (zN σ) = true := wlp_t (by rw [zK_nw, if_pos rfl]; exact hκ)
  rw [zN_nw, List.range_succ, List.filter_append, List.map_append, List.filter_cons_of_pos hp]
  have hf : (List.range (zN σ)).filter (wlp (nw σ κ n)) = (List.range (zN σ)).filter (wlp σ) := List.filter_congr fun k hk => hw k (List.mem_range.mp hk)
  rw [hf]
  congr 1
  · apply List.map_congr_left
    intro k hk
    have hk := List.mem_range.mp (List.mem_filter.mp hk).1
    rw [ent_nw_old hc (by omega)]
    simp [rup, show ¬ k = zN σ by omega]
  · show _ = [(rup ρ (zN σ + 1) q (zN σ + 1), ent dA (rup ρ (zN σ + 1) q) (nw σ κ n) (zN σ + 1))]
    rw [he]
    simp [rup]
/-- heaps that differ in holes alone: cells that are there have the same kinds and hold the same -/
theorem wl_gh {dA : Nat → ClassId} {ρ : Nat → Nat} {σ τ : AH} (hn : zN σ ≤ zN τ) (h1 : ∀ a, 1 ≤ a → a ≤ zN σ → zK τ a = zK σ a ∧ (zK σ a ≠ 19 → ent dA ρ τ a = ent dA ρ σ a)) (h2 : ∀ a, zN σ < a → a ≤ zN τ → zK τ a = 19) : wl dA ρ τ = wl dA ρ σ := by
  unfold wl
  have e1 : zN τ = zN σ + (zN τ - zN σ) := by omega
  have e2 : (List.range (zN τ)).filter (wlp τ) = (List.range (zN σ)).filter (wlp σ) := by
    rw [e1, List.range_add, List.filter_append]
    have e3 : ((List.range (zN τ - zN σ)).map (fun x => zN σ + x)).filter (wlp τ) = [] := by
      rw [List.filter_eq_nil_iff]
      intro k hk
      obtain ⟨j, hj, rfl⟩ := List.mem_map.mp hk
      have hj := List.mem_range.mp hj
      unfold wlp
      rw [h2 (zN σ + j + 1) (by omega) (by omega)]
      decide
    rw [e3, List.append_nil]
    exact List.filter_congr fun k hk => by
      have hk := List.mem_range.mp hk
      unfold wlp
      rw [(h1 (k + 1) (by omega) (by omega)).1]
  rw [e2]
  apply List.map_congr_left
  intro k hk
  obtain ⟨hk1, hk2⟩ := List.mem_filter.mp hk
  have hk1 := List.mem_range.mp hk1
  rw [(h1 (k + 1) (by omega) (by omega)).2 (fun q => by unfold wlp at hk2; rw [q] at hk2; exact absurd hk2 (by decide))]
theorem ent_obj {dA : Nat → ClassId} {ρ : Nat → Nat} {σ : AH} {a ci : Nat} (h : zK σ a = ci) (hc : ci < 13) : ent dA ρ σ a = .inr (ci, (List.range (fN ci)).map (fun k => fv ρ σ a (fT ci k) k)) := by
  unfold ent; rw [h, if_pos hc]
theorem ent_ia {dA : Nat → ClassId} {ρ : Nat → Nat} {σ : AH} {a : Nat} (h : zK σ a = 20) : ent dA ρ σ a = .inl (dA 20, zL σ a, .inl (zI σ a)) := by
  unfold ent; rw [h]; rfl
theorem ent_ga {dA : Nat → ClassId} {ρ : Nat → Nat} {σ : AH} {a : Nat} (h : zK σ a = 23) : ent dA ρ σ a = .inl (dA 20, zL σ a, .inl (zI σ a)) := by
  unfold ent; rw [h]; rfl
theorem ent_za {dA : Nat → ClassId} {ρ : Nat → Nat} {σ : AH} {a : Nat} (h : zK σ a = 22) : ent dA ρ σ a = .inl (dA 22, zL σ a, .inl (zI σ a)) := by
  unfold ent; rw [h]; rfl
theorem ent_ja {dA : Nat → ClassId} {ρ : Nat → Nat} {σ : AH} {a : Nat} (h : zK σ a = 21) : ent dA ρ σ a = .inl (dA 21, zL σ a, .inr (.inl (zJ σ a))) := by
  unfold ent; rw [h]; rfl
theorem ent_qa {dA : Nat → ClassId} {ρ : Nat → Nat} {σ : AH} {a κ : Nat} (h : zK σ a = κ) (hk : 30 ≤ κ) : ent dA ρ σ a = .inl (dA κ, zL σ a, .inr (.inr (.inr (.inr (fun j => oref ρ (zR σ a j)))))) := by
  unfold ent
  rw [h, if_neg (show ¬ κ < 13 by omega), if_neg (show ¬ κ = 23 by omega), if_neg (show ¬ (κ = 20 ∨ κ = 22 ∨ κ = 23) by omega), if_neg (show ¬ κ = 21 by omega)]
theorem fv_set {ρ : Nat → Nat} {σ σ' : AH} {a ci k : Nat} {v : Value} (hk : k < fN ci) (hs : ∀ j, j ≠ k → fv ρ σ' a (fT ci j) j = fv ρ σ a (fT ci j) j) (hv : fv ρ σ' a (fT ci k) k = v) : ((List.range (fN ci)).map (fun k => fv ρ σ a (fT ci k) k)).set k v = (List.range (fN ci)).map (fun k => fv ρ σ' a (fT ci k) k) := by
  apply List.ext_getElem?
  intro i
  by_cases hi : i = k
  · subst hi
    rw [List.getElem?_set_self (by simpa using hk)]
    simp [List.getElem?_range hk, hv]
  · rw [List.getElem?_set_ne (Ne.symm hi)]
    by_cases hl : i < fN ci
    · simp [List.getElem?_range hl, hs i hi]
    · rw [List.getElem?_eq_none (by simp; omega), List.getElem?_eq_none (by simp; omega)]
theorem fv_get {ρ : Nat → Nat} {σ : AH} {a ci k : Nat} (hk : k < fN ci) : ((List.range (fN ci)).map (fun k => fv ρ σ a (fT ci k) k))[k]? = some (fv ρ σ a (fT ci k) k) := by
  simp [List.getElem?_range hk]
theorem ent_uI {dA : Nat → ClassId} {ρ : Nat → Nat} {σ : AH} {a k b : Nat} {x : Int32} (h : b ≠ a) : ent dA ρ (uI σ a k x) b = ent dA ρ σ b := by
  have e3 : zI (uI σ a k x) b = zI σ b := by funext j; rw [zI_uI, if_neg (fun q => h q.1)]
  have e7 : ∀ ty j, fv ρ (uI σ a k x) b ty j = fv ρ σ b ty j := by
    intro ty j
    cases ty <;> simp only [fv, e3] <;> rfl
  unfold ent
  simp only [e7]
  rw [e3]
  rfl
theorem ent_uJ {dA : Nat → ClassId} {ρ : Nat → Nat} {σ : AH} {a k b : Nat} {x : Int64} (h : b ≠ a) : ent dA ρ (uJ σ a k x) b = ent dA ρ σ b := by
  have e3 : zJ (uJ σ a k x) b = zJ σ b := by funext j; rw [zJ_uJ, if_neg (fun q => h q.1)]
  have e7 : ∀ ty j, fv ρ (uJ σ a k x) b ty j = fv ρ σ b ty j := by
    intro ty j
    cases ty <;> simp only [fv, e3] <;> rfl
  unfold ent
  simp only [e7]
  rw [e3]
  rfl
theorem ent_uR {dA : Nat → ClassId} {ρ : Nat → Nat} {σ : AH} {a k b : Nat} {x : Nat} (h : b ≠ a) : ent dA ρ (uR σ a k x) b = ent dA ρ σ b := by
  have e3 : zR (uR σ a k x) b = zR σ b := by funext j; rw [zR_uR, if_neg (fun q => h q.1)]
  have e7 : ∀ ty j, fv ρ (uR σ a k x) b ty j = fv ρ σ b ty j := by
    intro ty j
    cases ty <;> simp only [fv, e3] <;> rfl
  unfold ent
  simp only [e7]
  rw [e3]
  rfl
end
section
/-! the run's own things: launch, class numbers, the numbers of array classes, the heap at the law's start -/
abbrev GP : Type := Launch × va_G × (Nat → ClassId) × Heap × (Nat × Nat × (Nat → Int32)) × Option AH
abbrev gB (g : GP) : Nat := g.2.2.2.2.1.1
abbrev gL (g : GP) : Nat := g.2.2.2.2.1.2.1
abbrev gX (g : GP) : Nat → Int32 := g.2.2.2.2.1.2.2
abbrev gG (g : GP) : Option AH := g.2.2.2.2.2
/-- the ghost rows, where they are frozen -/
def FZ (g : GP) (σ : AH) : Prop := ∀ G, gG g = some G → 74 ≤ zN σ ∧ ∀ a, 33 ≤ a → a ≤ 74 → (zK σ a = 19 ∨ zK σ a = 23) ∧ zK σ a = zK G a ∧ zL σ a = zL G a ∧ ∀ j, zI σ a j = zI G a j ∧ zJ σ a j = zJ G a j
abbrev MI : Type := MethodName × ByteArray × Nat × Option FieldType × List (Nat × Nat × Nat × Nat) × Room
def bs (Hb : Heap) : Nat → Prop := fun q => Hb.size ≤ q
def lw_good : List Cond := lw_tbl.filter goodWord
theorem lw_g {w : Cond} (i : Nat) (h : lw_tbl[i]? = some w) (hg : goodWord w = true) : w ∈ lw_good := List.mem_filter.mpr ⟨List.mem_of_getElem? h, hg⟩
theorem lw_goodIn (ws : List Cond) (h : ∀ w ∈ ws, w ∈ lw_good) : GoodIn lw_good ws := fun w hw => ⟨h w hw, good_of_word (List.mem_filter.mp (h w hw)).2⟩
def tysOf (dA : Nat → ClassId) : List (ClassId × FieldType) := [(dA 20, .int), (dA 21, .long), (dA 22, .boolean), (dA 30, .object RX0), (dA 32, .object RX2), (dA 33, .object RX3), (dA 35, .object RX5), (dA 39, .object RX9)]
def lw_nest : List (String × Nat × MethodName × String) := lw_tbl.filterMap fun w => match w with
  | .methodLinkNest a i x h => some (a, i, x, h)
  | _ => none
def lw_str : List (String × Nat × String) := lw_tbl.filterMap fun w => match w with
  | .stringRef a i x => some (a, i, x)
  | _ => none
def lw_decl : List MethodName := lw_tbl.filterMap fun w => match w with
  | .declares x => some x
  | _ => none
def lw_ao : List String := [RX0, RX2, RX3, RX5, RX9]
def lw_ex : List String := ["java/lang/IndexOutOfBoundsException", "java/lang/IllegalArgumentException", "java/lang/IllegalStateException"]
/-- what holds of the machine's tables, and of the heap at the law's start -/
def Amb (g : GP) (U : State) : Prop :=
  va_K g.2.1 vwCl (tysOf g.2.2.1) U ∧ (∀ q ∈ lw_nest, va_Nw (.methodLinkNest q.1 q.2.1 q.2.2.1 q.2.2.2) U) ∧ (∀ C ∈ lw_ao, va_AO C U) ∧ (∀ q ∈ lw_str, ∃ a, vk_R q.1 q.2.1 q.2.2 a U) ∧ (∀ C ∈ lw_ex, va_Nw (.castable C C) U) ∧ (∀ C ∈ lw_ex, ∀ C' ∈ lw_ex, C ≠ C' → va_Nc C C' U) ∧
    vx_Zq Bundle.tN "UNASSIGNED_STACK" Bundle.steD (bs g.2.2.2.1) U g.2.2.2.1 ∧ vx_Zq Bundle.tN "SUPPRESSED_SENTINEL" Bundle.listD (bs g.2.2.2.1) U g.2.2.2.1 ∧ (∀ x ∈ lw_decl, va_Nw (.declares x) U) ∧ va_X (gB g) (gL g) (gX g) U g.2.2.2.1 ∧ gB g < g.2.2.2.1.size ∧ gL g < 1073741824
theorem Amb.warm {g : GP} {s U : State} (hW : s.WarmedH U.vm) (h : Amb g s) : Amb g U := by
  obtain ⟨h1, h2, h3, h4, h5, h6, h7, h8, h9, h10, h11⟩ := h
  exact ⟨va_K.moved hW.alike h1, fun q hq => va_Nw.warmM hW (h2 q hq), fun C hC => va_AO.moved hW.alike (h3 C hC), fun q hq => (h4 q hq).imp fun a ha => vk_R.warm hW ha, fun C hC => va_Nw.warmC hW (h5 C hC), fun C hC C' hC' hn => va_Nc.moved hW.alike (h6 C hC C' hC' hn), vx_Zq.moved hW.alike h7, vx_Zq.moved hW.alike h8, fun x hx => va_Nw.warmD hW (h9 x hx), va_X.moved hW.alike h10, h11⟩
/-- the heap holds the abstract one -/
def Cn (g : GP) (ρ : Nat → Nat) (σ : AH) (H : Heap) : Prop :=
  va_P g.2.1 vwCl (wl g.2.2.1 ρ σ) H ∧ va_D (bs g.2.2.2.1) (wl g.2.2.1 ρ σ) ∧ g.2.2.2.1.size ≤ H.size ∧ (∀ q : Nat, q < g.2.2.2.1.size → H[q]? = g.2.2.2.1[q]?) ∧ (∀ a k, zR σ a k ≤ zN σ) ∧ 1 ≤ zN σ ∧ zK σ 1 = 19 ∧ ρ 1 = gB g ∧ FZ g σ
theorem ne9 {σ : AH} {a κ : Nat} (hK : zK σ a = κ) (hk : κ ≠ 19) : zK σ a ≠ 19 := by rw [hK]; exact hk
/-- what holds all along a call of a method -/
def Cx (g : GP) (μ : MI) (CX : State → Array Value → Prop) (p : Program) (s : State) (m : MethodId) (args : Array Value) (meth : Method) (c : Code) : Prop :=
  p.tables.exec = Jvm.exec ∧ c.code = μ.2.1 ∧ c.maxLocals = μ.2.2.1 ∧ s.vm.findClass μ.1.cls = some m.cls ∧ (∀ w ∈ lw_good, w.before args s = true) ∧ meth.locks = false ∧ meth.sig.returnType = μ.2.2.2.1 ∧ meth.name = μ.1.name ∧ c.exceptionTable.toList = tableOf μ.2.2.2.2.1 ∧ Amb g s ∧ g.2.2.2.1.size ≤ s.heap.size ∧ (∀ q : Nat, q < g.2.2.2.1.size → s.heap[q]? = g.2.2.2.1[q]?) ∧ g.1.stackTraces = false ∧ CX s args
def lcv (ρ : Nat → Nat) (ls : List (Nat × Value)) : List (Nat × Value) := ls.map (fun q => (q.1, cv ρ q.2))
/-- what holds at a point of it -/
def Pt1 (g : GP) (μ : MI) (s : State) (k n : Nat) (ls : List (Nat × Value)) (st : List Value) (σ : AH) (H : Heap) (locs : List Loc) (cells slots : Nat) (ρ ρ0 : Nat → Nat) (n0 : Nat) (lr : Array Slot) : Prop :=
  Cn g ρ σ H ∧ (∀ q ∈ locs, bs g.2.2.2.1 q.base) ∧ cells + k ≤ μ.2.2.2.2.2.cells ∧ slots + n ≤ μ.2.2.2.2.2.slots ∧ s.heap.size ≤ H.size ∧ (∀ a, 1 ≤ a → a ≤ n0 → ρ a = ρ0 a) ∧ n0 ≤ zN σ ∧ lv_has lr μ.2.2.1 (lcv ρ ls) ∧ (∀ q ∈ ls, wv (zN σ) q.2) ∧ ∀ v ∈ st, wv (zN σ) v
abbrev ET : Type := List Frame → Array Value → State → (Nat → Nat) → Nat → State → Prop
/-- from here, with k cells and n slots to spare, the method comes to its end E -/
def V (g : GP) (μ : MI) (E : ET) (CX : State → Array Value → Prop) (k n pc : Nat) (ls : List (Nat × Value)) (st : List Value) (σ : AH) : Prop :=
  ∀ (p : Program) (e : Env) (s : State) (m : MethodId) (args : Array Value) (below : List Frame) (meth : Method) (c : Code), Cx g μ CX p s m args meth c →
    ∀ (H : Heap) (locs : List Loc) (cells slots : Nat) (ρ ρ0 : Nat → Nat) (n0 : Nat) (lr : Array Slot), Pt1 g μ s k n ls st σ H locs cells slots ρ ρ0 n0 lr →
      W p g.1 e μ.2.2.2.2.2 s m args below meth c H locs cells slots (E below args s ρ0 n0) (F0 m pc lr (st.map (cv ρ)))
def Qe (g : GP) (ρ0 : Nat → Nat) (n0 : Nat) (Q : AH → Option Value → Prop) : Array Value → State → Outcome → State → Prop := fun _ st o t =>
  ∃ (ρ : Nat → Nat) (σ : AH) (rv : Option Value), o = .returned (rv.map (cv ρ)) ∧ Q σ rv ∧ Cn g ρ σ t.heap ∧ (∀ a, 1 ≤ a → a ≤ n0 → ρ a = ρ0 a) ∧ n0 ≤ zN σ ∧ (∀ v ∈ rv, wv (zN σ) v) ∧ st.heap.size ≤ t.heap.size
def Xe (g : GP) (ρ0 : Nat → Nat) (n0 : Nat) (X : AH → String → Prop) : String → State → State → Prop := fun E st t =>
  ∃ (ρ : Nat → Nat) (σ : AH), X σ E ∧ Cn g ρ σ t.heap ∧ (∀ a, 1 ≤ a → a ≤ n0 → ρ a = ρ0 a) ∧ n0 ≤ zN σ ∧ st.heap.size ≤ t.heap.size
/-- a method's end: an answer, or an exception -/
def Em (g : GP) (μ : MI) (Q : AH → Option Value → Prop) (X : AH → String → Prop) : ET := fun below args s ρ0 n0 =>
  vx_MQ below (Qe g ρ0 n0 Q) (Xe g ρ0 n0 X) args s μ.2.2.2.2.2.cells μ.2.2.2.2.2.slots (bs g.2.2.2.1)
abbrev CT : State → Array Value → Prop := fun _ _ => True

/-! ===== one instruction that leaves heap and locals ===== -/
section VR
variable {g : GP} {μ : MI} {E : ET} {CX : State → Array Value → Prop} {k n pc : Nat} {ls : List (Nat × Value)} {st : List Value} {σ : AH}
theorem mkS {p : Program} {s : State} {m : MethodId} {args : Array Value} {meth : Method} {c : Code} {H : Heap} {locs : List Loc} {cells slots : Nat} {ρ ρ0 : Nat → Nat} {n0 : Nat} {lr : Array Slot} (C : Cx g μ CX p s m args meth c) (P : Pt1 g μ s k n ls st σ H locs cells slots ρ ρ0 n0 lr) : va_S (bs g.2.2.2.1) s.heap H locs :=
  ⟨P.2.2.2.2.1, fun q _ h2 => by
    have hq : q < g.2.2.2.1.size := Nat.not_le.mp h2
    rw [P.1.2.2.2.1 q hq, C.2.2.2.2.2.2.2.2.2.2.2.1 q hq], P.2.1⟩
theorem V_step {pc' : Nat} {st0 st' : List Value} (hw : (∀ a k, zR σ a k ≤ zN σ) → (∀ q ∈ ls, wv (zN σ) q.2) → (∀ v ∈ st0, wv (zN σ) v) → ∀ v ∈ st', wv (zN σ) v)
    (h : ∀ (p : Program) (e : Env) (s : State) (m : MethodId) (args : Array Value) (below : List Frame) (meth : Method) (c : Code), Cx g μ CX p s m args meth c → ∀ (H : Heap) (locs : List Loc) (cells slots : Nat) (ρ : Nat → Nat) (lr : Array Slot) (Q : State → Prop), Cn g ρ σ H → lv_has lr μ.2.2.1 (lcv ρ ls) → (∀ v ∈ st0, wv (zN σ) v) → cells ≤ μ.2.2.2.2.2.cells ∧ slots ≤ μ.2.2.2.2.2.slots →
      W p g.1 e μ.2.2.2.2.2 s m args below meth c H locs cells slots Q (F0 m pc' lr (st'.map (cv ρ))) → W p g.1 e μ.2.2.2.2.2 s m args below meth c H locs cells slots Q (F0 m pc lr (st0.map (cv ρ))))
    (kk : V g μ E CX k n pc' ls st' σ) : V g μ E CX k n pc ls st0 σ := by
  intro p e s m args below meth c C H locs cells slots ρ ρ0 n0 lr P
  obtain ⟨p1, p2, p3, p4, p5, p6, p7, p8, p9, p10⟩ := P
  exact h p e s m args below meth c C H locs cells slots ρ lr _ p1 p8 p10 ⟨by omega, by omega⟩ (kk p e s m args below meth c C H locs cells slots ρ ρ0 n0 lr ⟨p1, p2, p3, p4, p5, p6, p7, p8, p9, hw p1.2.2.2.2.1 p9 p10⟩)
theorem V_br {tgt nx : Nat} {cond : Prop} {st0 st' : List Value} (hw : (∀ v ∈ st0, wv (zN σ) v) → ∀ v ∈ st', wv (zN σ) v)
    (h : ∀ (p : Program) (e : Env) (s : State) (m : MethodId) (args : Array Value) (below : List Frame) (meth : Method) (c : Code), Cx g μ CX p s m args meth c → ∀ (H : Heap) (locs : List Loc) (cells slots : Nat) (ρ : Nat → Nat) (lr : Array Slot) (Q : State → Prop),
      (cond → W p g.1 e μ.2.2.2.2.2 s m args below meth c H locs cells slots Q (F0 m tgt lr (st'.map (cv ρ)))) → (¬ cond → W p g.1 e μ.2.2.2.2.2 s m args below meth c H locs cells slots Q (F0 m nx lr (st'.map (cv ρ)))) → W p g.1 e μ.2.2.2.2.2 s m args below meth c H locs cells slots Q (F0 m pc lr (st0.map (cv ρ))))
    (kt : cond → V g μ E CX k n tgt ls st' σ) (kf : ¬ cond → V g μ E CX k n nx ls st' σ) : V g μ E CX k n pc ls st0 σ := by
  intro p e s m args below meth c C H locs cells slots ρ ρ0 n0 lr P
  obtain ⟨p1, p2, p3, p4, p5, p6, p7, p8, p9, p10⟩ := P
  exact h p e s m args below meth c C H locs cells slots ρ lr _ (fun q => kt q p e s m args below meth c C H locs cells slots ρ ρ0 n0 lr ⟨p1, p2, p3, p4, p5, p6, p7, p8, p9, hw p10⟩) (fun q => kf q p e s m args below meth c C H locs cells slots ρ ρ0 n0 lr ⟨p1, p2, p3, p4, p5, p6, p7, p8, p9, hw p10⟩)
/-- fewer locals, in another order; more room -/
theorem V_less {ls' : List (Nat × Value)} {k' n' : Nat} (hl : ∀ q ∈ ls', q ∈ ls) (hk : k' ≤ k) (hn : n' ≤ n) (kk : V g μ E CX k' n' pc ls' st σ) : V g μ E CX k n pc ls st σ := by
  intro p e s m args below meth c C H locs cells slots ρ ρ0 n0 lr P
  obtain ⟨p1, p2, p3, p4, p5, p6, p7, p8, p9, p10⟩ := P
  refine kk p e s m args below meth c C H locs cells slots ρ ρ0 n0 lr ⟨p1, p2, by omega, by omega, p5, p6, p7, ⟨p8.1, p8.2.1, fun q hq => ?_⟩, fun q hq => p9 q (hl q hq), p10⟩
  obtain ⟨z, hz, rfl⟩ := List.mem_map.mp hq
  exact p8.2.2 _ (List.mem_map.mpr ⟨z, hl z hz, rfl⟩)
theorem wv_i {N : Nat} {x : Int32} : wv N (.int x) := trivial
theorem wv_l {N : Nat} {x : Int64} : wv N (.long x) := trivial
theorem wv_tail {N : Nat} {v : Value} {st : List Value} (h : ∀ x ∈ v :: st, wv N x) : ∀ x ∈ st, wv N x := fun x hx => h x (List.mem_cons_of_mem _ hx)
theorem wv_hd {N : Nat} {v : Value} {st : List Value} (h : ∀ x ∈ v :: st, wv N x) : wv N v := h v List.mem_cons_self
theorem wv_tail2 {N : Nat} {v w : Value} {st : List Value} (h : ∀ x ∈ v :: w :: st, wv N x) : ∀ x ∈ st, wv N x := wv_tail (wv_tail h)
theorem wv_tail3 {N : Nat} {u v w : Value} {st : List Value} (h : ∀ x ∈ u :: v :: w :: st, wv N x) : ∀ x ∈ st, wv N x := wv_tail (wv_tail (wv_tail h))
theorem wv_cons {N : Nat} {v : Value} {st : List Value} (hv : wv N v) (h : ∀ x ∈ st, wv N x) : ∀ x ∈ v :: st, wv N x := fun x hx => (List.mem_cons.mp hx).elim (fun e => e ▸ hv) (h x)
theorem lcv_get {ρ : Nat → Nat} {lr : Array Slot} {nL i : Nat} {v : Value} {ls : List (Nat × Value)} (h : lv_has lr nL (lcv ρ ls)) (hl : (i, v) ∈ ls) : lr[i]? = some (.val (cv ρ v)) :=
  h.2.2 (i, cv ρ v) (List.mem_map.mpr ⟨(i, v), hl, rfl⟩)
/-- the local i, by its place in the list -/
def lat (i : Nat) : List (Nat × Value) → Option Value
  | [] => none
  | (j, v) :: l => bif Nat.beq i j then some v else lat i l
theorem lat_mem {i : Nat} {v : Value} : ∀ {ls : List (Nat × Value)}, lat i ls = some v → (i, v) ∈ ls
  | [], h => by cases h
  | (j, w) :: l, h => by
    unfold lat at h
    cases hb : Nat.beq i j with
    | true =>
      rw [hb] at h
      have e := Nat.eq_of_beq_eq_true hb
      cases h
      rw [e]; exact List.mem_cons_self
    | false =>
      rw [hb] at h
      exact List.mem_cons_of_mem _ (lat_mem h)
/-- the locals behind a store: kept by their numbers' order -/
def ldrp (i : Nat) (w : Bool) : List (Nat × Value) → List (Nat × Value)
  | [] => []
  | (j, u) :: l => bif Nat.beq j i || ((w && Nat.beq j (i + 1)) || (Nat.beq (j + 1) i && Nat.beq u.category 2)) then ldrp i w l else (j, u) :: ldrp i w l
def lins (i : Nat) (v : Value) : List (Nat × Value) → List (Nat × Value)
  | [] => [(i, v)]
  | (j, u) :: l => bif Nat.ble i j then (i, v) :: (j, u) :: l else (j, u) :: lins i v l
def lset (i : Nat) (v : Value) (ls : List (Nat × Value)) : List (Nat × Value) := lins i v (ldrp i (Nat.beq v.category 2) ls)
theorem lins_mem {i : Nat} {v : Value} {q : Nat × Value} : ∀ {l : List (Nat × Value)}, q ∈ lins i v l → q = (i, v) ∨ q ∈ l
  | [], h => by simp [lins] at h; exact Or.inl h
  | (j, u) :: l, h => by
    unfold lins at h
    cases hb : Nat.ble i j with
    | true => rw [hb] at h; exact List.mem_cons.mp h
    | false =>
      rw [hb] at h
      rcases List.mem_cons.mp h with h | h
      · exact Or.inr (h ▸ List.mem_cons_self)
      · exact (lins_mem h).imp id (List.mem_cons_of_mem _)
theorem ldrp_mem {i : Nat} {w : Bool} {q : Nat × Value} : ∀ {l : List (Nat × Value)}, q ∈ ldrp i w l → q ∈ l ∧ (Nat.beq q.1 i || ((w && Nat.beq q.1 (i + 1)) || (Nat.beq (q.1 + 1) i && Nat.beq q.2.category 2))) = false
  | [], h => by simp [ldrp] at h
  | (j, u) :: l, h => by
    unfold ldrp at h
    cases hb : (Nat.beq j i || ((w && Nat.beq j (i + 1)) || (Nat.beq (j + 1) i && Nat.beq u.category 2))) with
    | true => rw [hb] at h; exact ⟨List.mem_cons_of_mem _ (ldrp_mem h).1, (ldrp_mem h).2⟩
    | false =>
      rw [hb] at h
      rcases List.mem_cons.mp h with h | h
      · subst h; exact ⟨List.mem_cons_self, hb⟩
      · exact ⟨List.mem_cons_of_mem _ (ldrp_mem h).1, (ldrp_mem h).2⟩
theorem lset_mem {i : Nat} {v : Value} {ls : List (Nat × Value)} {q : Nat × Value} (h : q ∈ lset i v ls) : q = (i, v) ∨ q ∈ ls := (lins_mem h).imp id fun h => (ldrp_mem h).1
theorem nbq (a b : Nat) : (a == b) = Nat.beq a b := by
  rw [Bool.eq_iff_iff]; simp [Nat.beq_eq]
theorem lset_has1 {ρ : Nat → Nat} {i nL : Nat} {v : Value} {ls : List (Nat × Value)} {lr : Array Slot} (hc : v.category = 1) (h : lv_has lr nL ((i, cv ρ v) :: (lcv ρ ls).filter (fun q => !(q.1 == i) && !(q.1 + 1 == i && q.2.category == 2)))) : lv_has lr nL (lcv ρ (lset i v ls)) := by
  refine ⟨h.1, h.2.1, fun q hq => h.2.2 q ?_⟩
  obtain ⟨z, hz, rfl⟩ := List.mem_map.mp hq
  rcases lins_mem hz with rfl | hz
  · exact List.mem_cons_self
  · obtain ⟨h1, h2⟩ := ldrp_mem hz
    refine List.mem_cons_of_mem _ (List.mem_filter.mpr ⟨List.mem_map.mpr ⟨z, h1, rfl⟩, ?_⟩)
    simp only [hc, Bool.or_eq_false_iff, Bool.and_eq_false_iff] at h2
    obtain ⟨a1, a2, a3⟩ := h2
    simp only [cv_cat, nbq, Bool.and_eq_true, Bool.not_eq_true', Bool.and_eq_false_iff]
    exact ⟨a1, a3⟩
theorem lset_has2 {ρ : Nat → Nat} {i nL : Nat} {v : Value} {ls : List (Nat × Value)} {lr : Array Slot} (hc : v.category = 2) (h : lv_has lr nL ((i, cv ρ v) :: (lcv ρ ls).filter (fun q => !(q.1 == i) && (!(q.1 == i + 1) && !(q.1 + 1 == i && q.2.category == 2))))) : lv_has lr nL (lcv ρ (lset i v ls)) := by
  refine ⟨h.1, h.2.1, fun q hq => h.2.2 q ?_⟩
  obtain ⟨z, hz, rfl⟩ := List.mem_map.mp hq
  rcases lins_mem hz with rfl | hz
  · exact List.mem_cons_self
  · obtain ⟨h1, h2⟩ := ldrp_mem hz
    refine List.mem_cons_of_mem _ (List.mem_filter.mpr ⟨List.mem_map.mpr ⟨z, h1, rfl⟩, ?_⟩)
    simp only [hc, Bool.or_eq_false_iff, Bool.and_eq_false_iff] at h2
    obtain ⟨a1, a2, a3⟩ := h2
    simp only [cv_cat, nbq, Bool.and_eq_true, Bool.not_eq_true', Bool.and_eq_false_iff]
    refine ⟨a1, ?_, a3⟩
    rcases a2 with a2 | a2
    · exact absurd a2 (by decide)
    · exact a2
theorem lset_wv {N i : Nat} {v : Value} {ls : List (Nat × Value)} (hv : wv N v) (h : ∀ q ∈ ls, wv N q.2) : ∀ q ∈ lset i v ls, wv N q.2 := fun q hq => (lset_mem hq).elim (fun e => by rw [e]; exact hv) (h q)

theorem V_iconst {z : Int} (v : Int32) (hd : decode μ.2.1 pc = .ok (.iconst z, 1)) (hv : Int32.ofInt z = v) (kk : V g μ E CX k n (pc + 1) ls (.int v :: st) σ) : V g μ E CX k n pc ls (st) σ :=
  V_step (fun hcl hl h => wv_cons wv_i h) (fun _ _ _ _ _ _ _ _ C _ _ _ _ ρ lr _ hCn hlr hst _ k => lv_iconst C.1 C.2.1 hd hv k) kk
theorem V_bipush {z : Int} (v : Int32) (hd : decode μ.2.1 pc = .ok (.bipush z, 2)) (hv : (Int8.ofInt z).toInt32 = v) (kk : V g μ E CX k n (pc + 2) ls (.int v :: st) σ) : V g μ E CX k n pc ls (st) σ :=
  V_step (fun hcl hl h => wv_cons wv_i h) (fun _ _ _ _ _ _ _ _ C _ _ _ _ ρ lr _ hCn hlr hst _ k => lv_bipush C.1 C.2.1 hd hv k) kk
theorem V_sipush {z : Int} (v : Int32) (hd : decode μ.2.1 pc = .ok (.sipush z, 3)) (hv : (Int16.ofInt z).toInt32 = v) (kk : V g μ E CX k n (pc + 3) ls (.int v :: st) σ) : V g μ E CX k n pc ls (st) σ :=
  V_step (fun hcl hl h => wv_cons wv_i h) (fun _ _ _ _ _ _ _ _ C _ _ _ _ ρ lr _ hCn hlr hst _ k => lv_sipush C.1 C.2.1 hd hv k) kk
theorem V_lconst {z : Fin 2} (v : Int64) (hd : decode μ.2.1 pc = .ok (.lconst z, 1)) (hv : Int64.ofNat (z : Nat) = v) (kk : V g μ E CX k n (pc + 1) ls (.long v :: st) σ) : V g μ E CX k n pc ls (st) σ :=
  V_step (fun hcl hl h => wv_cons wv_l h) (fun _ _ _ _ _ _ _ _ C _ _ _ _ ρ lr _ hCn hlr hst _ k => lv_lconst C.1 C.2.1 hd hv k) kk
theorem V_null  (hd : decode μ.2.1 pc = .ok (.aconst_null, 1)) (kk : V g μ E CX k n (pc + 1) ls (.ref 0 :: st) σ) : V g μ E CX k n pc ls (st) σ :=
  V_step (fun hcl hl h => wv_cons (Nat.zero_le _) h) (fun _ _ _ _ _ _ _ _ C _ _ _ _ ρ lr _ hCn hlr hst _ k => lv_null C.1 C.2.1 hd k) kk
theorem V_iload_n {q : Fin 4} {x : Int32} (hd : decode μ.2.1 pc = .ok (.iload_n q, 1)) (hl : lat q ls = some (.int x)) (kk : V g μ E CX k n (pc + 1) ls (.int x :: st) σ) : V g μ E CX k n pc ls (st) σ :=
  V_step (fun hcl hl h => wv_cons wv_i h) (fun _ _ _ _ _ _ _ _ C _ _ _ _ ρ lr _ hCn hlr hst _ k => lv_iload_n C.1 C.2.1 hd rfl (lcv_get hlr (lat_mem hl)) k) kk
theorem V_iload {i : Nat} {x : Int32} (hd : decode μ.2.1 pc = .ok (.iload i, 2)) (hl : lat i ls = some (.int x)) (kk : V g μ E CX k n (pc + 2) ls (.int x :: st) σ) : V g μ E CX k n pc ls (st) σ :=
  V_step (fun hcl hl h => wv_cons wv_i h) (fun _ _ _ _ _ _ _ _ C _ _ _ _ ρ lr _ hCn hlr hst _ k => lv_iload C.1 C.2.1 hd (lcv_get hlr (lat_mem hl)) k) kk
theorem V_lload_n {q : Fin 4} {x : Int64} (hd : decode μ.2.1 pc = .ok (.lload_n q, 1)) (hl : lat q ls = some (.long x)) (kk : V g μ E CX k n (pc + 1) ls (.long x :: st) σ) : V g μ E CX k n pc ls (st) σ :=
  V_step (fun hcl hl h => wv_cons wv_l h) (fun _ _ _ _ _ _ _ _ C _ _ _ _ ρ lr _ hCn hlr hst _ k => lv_lload_n C.1 C.2.1 hd rfl (lcv_get hlr (lat_mem hl)) k) kk
theorem V_lload {i : Nat} {x : Int64} (hd : decode μ.2.1 pc = .ok (.lload i, 2)) (hl : lat i ls = some (.long x)) (kk : V g μ E CX k n (pc + 2) ls (.long x :: st) σ) : V g μ E CX k n pc ls (st) σ :=
  V_step (fun hcl hl h => wv_cons wv_l h) (fun _ _ _ _ _ _ _ _ C _ _ _ _ ρ lr _ hCn hlr hst _ k => lv_lload C.1 C.2.1 hd (lcv_get hlr (lat_mem hl)) k) kk
theorem V_iadd {x y : Int32} (hd : decode μ.2.1 pc = .ok (.iadd, 1)) (kk : V g μ E CX k n (pc + 1) ls (.int (x + y) :: st) σ) : V g μ E CX k n pc ls (.int y :: .int x :: st) σ :=
  V_step (fun hcl hl h => wv_cons wv_i (wv_tail2 h)) (fun _ _ _ _ _ _ _ _ C _ _ _ _ ρ lr _ hCn hlr hst _ k => lv_iadd C.1 C.2.1 hd k) kk
theorem V_isub {x y : Int32} (hd : decode μ.2.1 pc = .ok (.isub, 1)) (kk : V g μ E CX k n (pc + 1) ls (.int (x - y) :: st) σ) : V g μ E CX k n pc ls (.int y :: .int x :: st) σ :=
  V_step (fun hcl hl h => wv_cons wv_i (wv_tail2 h)) (fun _ _ _ _ _ _ _ _ C _ _ _ _ ρ lr _ hCn hlr hst _ k => lv_isub C.1 C.2.1 hd k) kk
theorem V_imul {x y : Int32} (hd : decode μ.2.1 pc = .ok (.imul, 1)) (kk : V g μ E CX k n (pc + 1) ls (.int (x * y) :: st) σ) : V g μ E CX k n pc ls (.int y :: .int x :: st) σ :=
  V_step (fun hcl hl h => wv_cons wv_i (wv_tail2 h)) (fun _ _ _ _ _ _ _ _ C _ _ _ _ ρ lr _ hCn hlr hst _ k => lv_imul C.1 C.2.1 hd k) kk
theorem V_iand {x y : Int32} (hd : decode μ.2.1 pc = .ok (.iand, 1)) (kk : V g μ E CX k n (pc + 1) ls (.int (x &&& y) :: st) σ) : V g μ E CX k n pc ls (.int y :: .int x :: st) σ :=
  V_step (fun hcl hl h => wv_cons wv_i (wv_tail2 h)) (fun _ _ _ _ _ _ _ _ C _ _ _ _ ρ lr _ hCn hlr hst _ k => lv_iand C.1 C.2.1 hd k) kk
theorem V_ior {x y : Int32} (hd : decode μ.2.1 pc = .ok (.ior, 1)) (kk : V g μ E CX k n (pc + 1) ls (.int (x ||| y) :: st) σ) : V g μ E CX k n pc ls (.int y :: .int x :: st) σ :=
  V_step (fun hcl hl h => wv_cons wv_i (wv_tail2 h)) (fun _ _ _ _ _ _ _ _ C _ _ _ _ ρ lr _ hCn hlr hst _ k => lv_ior C.1 C.2.1 hd k) kk
theorem V_ixor {x y : Int32} (hd : decode μ.2.1 pc = .ok (.ixor, 1)) (kk : V g μ E CX k n (pc + 1) ls (.int (x ^^^ y) :: st) σ) : V g μ E CX k n pc ls (.int y :: .int x :: st) σ :=
  V_step (fun hcl hl h => wv_cons wv_i (wv_tail2 h)) (fun _ _ _ _ _ _ _ _ C _ _ _ _ ρ lr _ hCn hlr hst _ k => lv_ixor C.1 C.2.1 hd k) kk
theorem V_ishl {x y : Int32} (hd : decode μ.2.1 pc = .ok (.ishl, 1)) (kk : V g μ E CX k n (pc + 1) ls (.int (x <<< (y &&& 31)) :: st) σ) : V g μ E CX k n pc ls (.int y :: .int x :: st) σ :=
  V_step (fun hcl hl h => wv_cons wv_i (wv_tail2 h)) (fun _ _ _ _ _ _ _ _ C _ _ _ _ ρ lr _ hCn hlr hst _ k => lv_ishl C.1 C.2.1 hd k) kk
theorem V_ishr {x y : Int32} (hd : decode μ.2.1 pc = .ok (.ishr, 1)) (kk : V g μ E CX k n (pc + 1) ls (.int (x >>> (y &&& 31)) :: st) σ) : V g μ E CX k n pc ls (.int y :: .int x :: st) σ :=
  V_step (fun hcl hl h => wv_cons wv_i (wv_tail2 h)) (fun _ _ _ _ _ _ _ _ C _ _ _ _ ρ lr _ hCn hlr hst _ k => lv_ishr C.1 C.2.1 hd k) kk
theorem V_ladd {x y : Int64} (hd : decode μ.2.1 pc = .ok (.ladd, 1)) (kk : V g μ E CX k n (pc + 1) ls (.long (x + y) :: st) σ) : V g μ E CX k n pc ls (.long y :: .long x :: st) σ :=
  V_step (fun hcl hl h => wv_cons wv_l (wv_tail2 h)) (fun _ _ _ _ _ _ _ _ C _ _ _ _ ρ lr _ hCn hlr hst _ k => lv_ladd C.1 C.2.1 hd k) kk
theorem V_lsub {x y : Int64} (hd : decode μ.2.1 pc = .ok (.lsub, 1)) (kk : V g μ E CX k n (pc + 1) ls (.long (x - y) :: st) σ) : V g μ E CX k n pc ls (.long y :: .long x :: st) σ :=
  V_step (fun hcl hl h => wv_cons wv_l (wv_tail2 h)) (fun _ _ _ _ _ _ _ _ C _ _ _ _ ρ lr _ hCn hlr hst _ k => lv_lsub C.1 C.2.1 hd k) kk
theorem V_lmul {x y : Int64} (hd : decode μ.2.1 pc = .ok (.lmul, 1)) (kk : V g μ E CX k n (pc + 1) ls (.long (x * y) :: st) σ) : V g μ E CX k n pc ls (.long y :: .long x :: st) σ :=
  V_step (fun hcl hl h => wv_cons wv_l (wv_tail2 h)) (fun _ _ _ _ _ _ _ _ C _ _ _ _ ρ lr _ hCn hlr hst _ k => lv_lmul C.1 C.2.1 hd k) kk
theorem V_idiv {x y : Int32} (hd : decode μ.2.1 pc = .ok (.idiv, 1)) (hne : ¬ y = 0) (kk : V g μ E CX k n (pc + 1) ls (.int (x / y) :: st) σ) : V g μ E CX k n pc ls (.int y :: .int x :: st) σ :=
  V_step (fun hcl hl h => wv_cons wv_i (wv_tail2 h)) (fun _ _ _ _ _ _ _ _ C _ _ _ _ ρ lr _ hCn hlr hst _ k => lv_idiv C.1 C.2.1 hd hne k) kk
theorem V_irem {x y : Int32} (hd : decode μ.2.1 pc = .ok (.irem, 1)) (hne : ¬ y = 0) (kk : V g μ E CX k n (pc + 1) ls (.int (x - x / y * y) :: st) σ) : V g μ E CX k n pc ls (.int y :: .int x :: st) σ :=
  V_step (fun hcl hl h => wv_cons wv_i (wv_tail2 h)) (fun _ _ _ _ _ _ _ _ C _ _ _ _ ρ lr _ hCn hlr hst _ k => lv_irem C.1 C.2.1 hd hne k) kk
theorem V_ldiv {x y : Int64} (hd : decode μ.2.1 pc = .ok (.ldiv, 1)) (hne : ¬ y = 0) (kk : V g μ E CX k n (pc + 1) ls (.long (x / y) :: st) σ) : V g μ E CX k n pc ls (.long y :: .long x :: st) σ :=
  V_step (fun hcl hl h => wv_cons wv_l (wv_tail2 h)) (fun _ _ _ _ _ _ _ _ C _ _ _ _ ρ lr _ hCn hlr hst _ k => lv_ldiv C.1 C.2.1 hd hne k) kk
theorem V_ineg {x : Int32} (hd : decode μ.2.1 pc = .ok (.ineg, 1)) (kk : V g μ E CX k n (pc + 1) ls (.int (-x) :: st) σ) : V g μ E CX k n pc ls (.int x :: st) σ :=
  V_step (fun hcl hl h => wv_cons wv_i (wv_tail h)) (fun _ _ _ _ _ _ _ _ C _ _ _ _ ρ lr _ hCn hlr hst _ k => lv_ineg C.1 C.2.1 hd k) kk
theorem V_i2l {x : Int32} (hd : decode μ.2.1 pc = .ok (.i2l, 1)) (kk : V g μ E CX k n (pc + 1) ls (.long x.toInt64 :: st) σ) : V g μ E CX k n pc ls (.int x :: st) σ :=
  V_step (fun hcl hl h => wv_cons wv_l (wv_tail h)) (fun _ _ _ _ _ _ _ _ C _ _ _ _ ρ lr _ hCn hlr hst _ k => lv_i2l C.1 C.2.1 hd rfl k) kk
theorem V_l2i {x : Int64} (hd : decode μ.2.1 pc = .ok (.l2i, 1)) (kk : V g μ E CX k n (pc + 1) ls (.int x.toInt32 :: st) σ) : V g μ E CX k n pc ls (.long x :: st) σ :=
  V_step (fun hcl hl h => wv_cons wv_i (wv_tail h)) (fun _ _ _ _ _ _ _ _ C _ _ _ _ ρ lr _ hCn hlr hst _ k => lv_l2i C.1 C.2.1 hd rfl k) kk
theorem V_lcmp {x y : Int64} (hd : decode μ.2.1 pc = .ok (.lcmp, 1)) (kk : V g μ E CX k n (pc + 1) ls (.int (lg_cmp x y) :: st) σ) : V g μ E CX k n pc ls (.long y :: .long x :: st) σ :=
  V_step (fun hcl hl h => wv_cons wv_i (wv_tail2 h)) (fun _ _ _ _ _ _ _ _ C _ _ _ _ ρ lr _ hCn hlr hst _ k => W.lcmp C.1 C.2.1 hd k) kk
theorem V_dup {v : Value} (hd : decode μ.2.1 pc = .ok (.dup, 1)) (hc : v.category = 1) (kk : V g μ E CX k n (pc + 1) ls (v :: v :: st) σ) : V g μ E CX k n pc ls (v :: st) σ :=
  V_step (fun hcl hl h => wv_cons (wv_hd h) h) (fun _ _ _ _ _ _ _ _ C _ _ _ _ ρ lr _ hCn hlr hst _ k => lv_dup C.1 C.2.1 hd (by rw [cv_cat]; exact hc) k) kk
theorem V_pop {v : Value} (hd : decode μ.2.1 pc = .ok (.pop, 1)) (hc : v.category = 1) (kk : V g μ E CX k n (pc + 1) ls (st) σ) : V g μ E CX k n pc ls (v :: st) σ :=
  V_step (fun hcl hl h => wv_tail h) (fun _ _ _ _ _ _ _ _ C _ _ _ _ ρ lr _ hCn hlr hst _ k => lv_pop C.1 C.2.1 hd (by rw [cv_cat]; exact hc) k) kk
theorem V_dup2 {v w : Value} (hd : decode μ.2.1 pc = .ok (.dup2, 1)) (hc : v.category = 1) (hd2 : w.category = 1) (kk : V g μ E CX k n (pc + 1) ls (v :: w :: v :: w :: st) σ) : V g μ E CX k n pc ls (v :: w :: st) σ :=
  V_step (fun hcl hl h => wv_cons (wv_hd h) (wv_cons (wv_hd (wv_tail h)) h)) (fun _ _ _ _ _ _ _ _ C _ _ _ _ ρ lr _ hCn hlr hst _ k => lv_dup2_11 C.1 C.2.1 hd (by rw [cv_cat]; exact hc) (by rw [cv_cat]; exact hd2) k) kk
theorem V_goto {off : Int} (tgt : Nat) (hd : decode μ.2.1 pc = .ok (.goto off, 3)) (ht : (pc : Int) + off = (tgt : Int)) (kk : V g μ E CX k n tgt ls st σ) : V g μ E CX k n pc ls st σ :=
  V_step (fun _ _ h => h) (fun _ _ _ _ _ _ _ _ C _ _ _ _ _ _ _ _ _ _ _ k => lv_goto C.1 C.2.1 hd ht k) kk
theorem V_if_eq {x : Int32} {off : Int} (tgt : Nat) (hd : decode μ.2.1 pc = .ok (.ifCond .eq off, 3)) (ht : (pc : Int) + off = (tgt : Int)) (kt : x = 0 → V g μ E CX k n tgt ls st σ) (kf : ¬ x = 0 → V g μ E CX k n (pc + 3) ls st σ) : V g μ E CX k n pc ls (.int x :: st) σ :=
  V_br (fun h => wv_tail h) (fun _ _ _ _ _ _ _ _ C _ _ _ _ _ _ _ k1 k2 => lv_if_eq C.1 C.2.1 hd ht k1 k2) kt kf
theorem V_if_ne {x : Int32} {off : Int} (tgt : Nat) (hd : decode μ.2.1 pc = .ok (.ifCond .ne off, 3)) (ht : (pc : Int) + off = (tgt : Int)) (kt : ¬ x = 0 → V g μ E CX k n tgt ls st σ) (kf : x = 0 → V g μ E CX k n (pc + 3) ls st σ) : V g μ E CX k n pc ls (.int x :: st) σ :=
  V_br (fun h => wv_tail h) (fun _ _ _ _ _ _ _ _ C _ _ _ _ _ _ _ k1 k2 => lv_if_ne C.1 C.2.1 hd ht k2 k1) kf kt
theorem V_if_lt {x : Int32} {off : Int} (tgt : Nat) (hd : decode μ.2.1 pc = .ok (.ifCond .lt off, 3)) (ht : (pc : Int) + off = (tgt : Int)) (kt : x < 0 → V g μ E CX k n tgt ls st σ) (kf : ¬ x < 0 → V g μ E CX k n (pc + 3) ls st σ) : V g μ E CX k n pc ls (.int x :: st) σ :=
  V_br (fun h => wv_tail h) (fun _ _ _ _ _ _ _ _ C _ _ _ _ _ _ _ k1 k2 => lv_if_lt C.1 C.2.1 hd ht k1 k2) kt kf
theorem V_if_ge {x : Int32} {off : Int} (tgt : Nat) (hd : decode μ.2.1 pc = .ok (.ifCond .ge off, 3)) (ht : (pc : Int) + off = (tgt : Int)) (kt : 0 ≤ x → V g μ E CX k n tgt ls st σ) (kf : ¬ 0 ≤ x → V g μ E CX k n (pc + 3) ls st σ) : V g μ E CX k n pc ls (.int x :: st) σ :=
  V_br (fun h => wv_tail h) (fun _ _ _ _ _ _ _ _ C _ _ _ _ _ _ _ k1 k2 => lv_if_ge C.1 C.2.1 hd ht k1 k2) kt kf
theorem V_if_gt {x : Int32} {off : Int} (tgt : Nat) (hd : decode μ.2.1 pc = .ok (.ifCond .gt off, 3)) (ht : (pc : Int) + off = (tgt : Int)) (kt : 0 < x → V g μ E CX k n tgt ls st σ) (kf : ¬ 0 < x → V g μ E CX k n (pc + 3) ls st σ) : V g μ E CX k n pc ls (.int x :: st) σ :=
  V_br (fun h => wv_tail h) (fun _ _ _ _ _ _ _ _ C _ _ _ _ _ _ _ k1 k2 => lv_if_gt C.1 C.2.1 hd ht k1 k2) kt kf
theorem V_if_le {x : Int32} {off : Int} (tgt : Nat) (hd : decode μ.2.1 pc = .ok (.ifCond .le off, 3)) (ht : (pc : Int) + off = (tgt : Int)) (kt : x ≤ 0 → V g μ E CX k n tgt ls st σ) (kf : ¬ x ≤ 0 → V g μ E CX k n (pc + 3) ls st σ) : V g μ E CX k n pc ls (.int x :: st) σ :=
  V_br (fun h => wv_tail h) (fun _ _ _ _ _ _ _ _ C _ _ _ _ _ _ _ k1 k2 => lv_if_le C.1 C.2.1 hd ht k1 k2) kt kf
theorem V_icmp_eq {x y : Int32} {off : Int} (tgt : Nat) (hd : decode μ.2.1 pc = .ok (.if_icmp .eq off, 3)) (ht : (pc : Int) + off = (tgt : Int)) (kt : x = y → V g μ E CX k n tgt ls st σ) (kf : ¬ x = y → V g μ E CX k n (pc + 3) ls st σ) : V g μ E CX k n pc ls (.int y :: .int x :: st) σ :=
  V_br (fun h => wv_tail2 h) (fun _ _ _ _ _ _ _ _ C _ _ _ _ _ _ _ k1 k2 => lv_icmp_eq C.1 C.2.1 hd ht k1 k2) kt kf
theorem V_icmp_ne {x y : Int32} {off : Int} (tgt : Nat) (hd : decode μ.2.1 pc = .ok (.if_icmp .ne off, 3)) (ht : (pc : Int) + off = (tgt : Int)) (kt : ¬ x = y → V g μ E CX k n tgt ls st σ) (kf : x = y → V g μ E CX k n (pc + 3) ls st σ) : V g μ E CX k n pc ls (.int y :: .int x :: st) σ :=
  V_br (fun h => wv_tail2 h) (fun _ _ _ _ _ _ _ _ C _ _ _ _ _ _ _ k1 k2 => lv_icmp_ne C.1 C.2.1 hd ht k2 k1) kf kt
theorem V_icmp_lt {x y : Int32} {off : Int} (tgt : Nat) (hd : decode μ.2.1 pc = .ok (.if_icmp .lt off, 3)) (ht : (pc : Int) + off = (tgt : Int)) (kt : x < y → V g μ E CX k n tgt ls st σ) (kf : ¬ x < y → V g μ E CX k n (pc + 3) ls st σ) : V g μ E CX k n pc ls (.int y :: .int x :: st) σ :=
  V_br (fun h => wv_tail2 h) (fun _ _ _ _ _ _ _ _ C _ _ _ _ _ _ _ k1 k2 => lv_icmp_lt C.1 C.2.1 hd ht k1 k2) kt kf
theorem V_icmp_ge {x y : Int32} {off : Int} (tgt : Nat) (hd : decode μ.2.1 pc = .ok (.if_icmp .ge off, 3)) (ht : (pc : Int) + off = (tgt : Int)) (kt : y ≤ x → V g μ E CX k n tgt ls st σ) (kf : ¬ y ≤ x → V g μ E CX k n (pc + 3) ls st σ) : V g μ E CX k n pc ls (.int y :: .int x :: st) σ :=
  V_br (fun h => wv_tail2 h) (fun _ _ _ _ _ _ _ _ C _ _ _ _ _ _ _ k1 k2 => lv_icmp_ge C.1 C.2.1 hd ht k1 k2) kt kf
theorem V_icmp_gt {x y : Int32} {off : Int} (tgt : Nat) (hd : decode μ.2.1 pc = .ok (.if_icmp .gt off, 3)) (ht : (pc : Int) + off = (tgt : Int)) (kt : y < x → V g μ E CX k n tgt ls st σ) (kf : ¬ y < x → V g μ E CX k n (pc + 3) ls st σ) : V g μ E CX k n pc ls (.int y :: .int x :: st) σ :=
  V_br (fun h => wv_tail2 h) (fun _ _ _ _ _ _ _ _ C _ _ _ _ _ _ _ k1 k2 => lv_icmp_gt C.1 C.2.1 hd ht k1 k2) kt kf
theorem V_icmp_le {x y : Int32} {off : Int} (tgt : Nat) (hd : decode μ.2.1 pc = .ok (.if_icmp .le off, 3)) (ht : (pc : Int) + off = (tgt : Int)) (kt : x ≤ y → V g μ E CX k n tgt ls st σ) (kf : ¬ x ≤ y → V g μ E CX k n (pc + 3) ls st σ) : V g μ E CX k n pc ls (.int y :: .int x :: st) σ :=
  V_br (fun h => wv_tail2 h) (fun _ _ _ _ _ _ _ _ C _ _ _ _ _ _ _ k1 k2 => lv_icmp_le C.1 C.2.1 hd ht k1 k2) kt kf
theorem V_tableIn {dflt lo hi : Int} {offs : Array Int} {x : Int32} {off : Int} {len : Nat} (tgt : Nat) (hd : decode μ.2.1 pc = .ok (.tableswitch dflt lo hi offs, len)) (h1 : ¬ x.toInt < lo) (h2 : ¬ hi < x.toInt) (ho : offs[(x.toInt - lo).toNat]? = some off) (ht : (pc : Int) + off = (tgt : Int)) (kk : V g μ E CX k n tgt ls st σ) : V g μ E CX k n pc ls (.int x :: st) σ :=
  V_step (fun _ _ h => wv_tail h) (fun _ _ _ _ _ _ _ _ C _ _ _ _ _ _ _ _ _ _ _ k => lv_tableIn C.1 C.2.1 hd h1 h2 ho ht k) kk
theorem V_tableOut {dflt lo hi : Int} {offs : Array Int} {x : Int32} {len : Nat} (tgt : Nat) (hd : decode μ.2.1 pc = .ok (.tableswitch dflt lo hi offs, len)) (h1 : x.toInt < lo ∨ hi < x.toInt) (ht : (pc : Int) + dflt = (tgt : Int)) (kk : V g μ E CX k n tgt ls st σ) : V g μ E CX k n pc ls (.int x :: st) σ :=
  V_step (fun _ _ h => wv_tail h) (fun _ _ _ _ _ _ _ _ C _ _ _ _ _ _ _ _ _ _ _ k => lv_tableOut C.1 C.2.1 hd h1 ht k) kk
theorem V_ldc {v : Int32} {i : Nat} (hw : Cond.constant μ.1.cls i v ∈ lw_good) (hd : decode μ.2.1 pc = .ok (.ldc i, 2)) (kk : V g μ E CX k n (pc + 2) ls (.int v :: st) σ) : V g μ E CX k n pc ls st σ :=
  V_step (fun _ _ h => wv_cons wv_i h) (fun _ _ _ _ _ _ _ _ C _ _ _ _ _ _ _ _ _ _ _ k => lv_ldc C.1 C.2.1 C.2.2.2.1 (C.2.2.2.2.1 _ hw) hd k) kk
theorem V_ldc2 {v : Int64} {i : Nat} (hw : Cond.constantLong μ.1.cls i v ∈ lw_good) (hd : decode μ.2.1 pc = .ok (.ldc2_w i, 3)) (kk : V g μ E CX k n (pc + 3) ls (.long v :: st) σ) : V g μ E CX k n pc ls st σ :=
  V_step (fun _ _ h => wv_cons wv_l h) (fun _ _ _ _ _ _ _ _ C _ _ _ _ _ _ _ _ _ _ _ k => lv_ldc2 C.1 C.2.1 C.2.2.2.1 (C.2.2.2.2.1 _ hw) hd k) kk
section REFS
variable {p : Program} {l : Launch} {e : Env} {R : Room} {s : State} {m : MethodId} {args : Array Value} {below : List Frame} {meth : Method} {c : Code} {H : Heap} {locs : List Loc} {cells slots : Nat} {Q : State → Prop}
variable {cc : ByteArray} {lr : Array Slot} {rest : List Value}
theorem la_aload_n (hexec : p.tables.exec = Jvm.exec) (hb : c.code = cc) {q : Fin 4} {v : Value} (hv : v.isRef = true) (hdg : decode cc pc = .ok (.aload_n q, 1)) (hl : lr[(q : Nat)]? = some (.val v))
    (k : W p l e R s m args below meth c H locs cells slots Q (F0 m (pc + 1) lr (v :: rest))) : W p l e R s m args below meth c H locs cells slots Q (F0 m pc lr rest) := by
  intro T hT X
  obtain ⟨t, a, b⟩ := k T hT X
  refine ⟨t, ?_, b⟩
  jvm_step X.here [X.here.top, hexec, hb, hdg, hl, hv]
  exact a
theorem la_aload (hexec : p.tables.exec = Jvm.exec) (hb : c.code = cc) {i : Nat} {v : Value} (hv : v.isRef = true) (hdg : decode cc pc = .ok (.aload i, 2)) (hl : lr[i]? = some (.val v))
    (k : W p l e R s m args below meth c H locs cells slots Q (F0 m (pc + 2) lr (v :: rest))) : W p l e R s m args below meth c H locs cells slots Q (F0 m pc lr rest) := by
  intro T hT X
  obtain ⟨t, a, b⟩ := k T hT X
  refine ⟨t, ?_, b⟩
  jvm_step X.here [X.here.top, hexec, hb, hdg, hl, hv]
  exact a
theorem la_astore_n (hexec : p.tables.exec = Jvm.exec) (hb : c.code = cc) {q : Fin 4} {nL : Nat} {v : Value} {lv : List (Nat × Value)} (hv : v.isRef = true) (hc : v.category = 1) (hdg : decode cc pc = .ok (.astore_n q, 1)) (h : lv_has lr nL lv) (hn : (q : Nat) < nL)
    (kk : ∀ ls' : Array Slot, lv_has ls' nL (((q : Nat), v) :: lv.filter (fun z => !(z.1 == (q : Nat)) && !(z.1 + 1 == (q : Nat) && z.2.category == 2))) → W p l e R s m args below meth c H locs cells slots Q (F0 m (pc + 1) ls' rest)) : W p l e R s m args below meth c H locs cells slots Q (F0 m pc lr (v :: rest)) := by
  obtain ⟨ls', e', h'⟩ := lv_store1 (v := v) h hn hc
  intro T hT X
  obtain ⟨t, a, b⟩ := kk ls' h' T hT X
  refine ⟨t, ?_, b⟩
  jvm_step X.here [X.here.top, ↓top_set X.here.top, hexec, hb, hdg, e', hv]
  exact a
theorem la_astore (hexec : p.tables.exec = Jvm.exec) (hb : c.code = cc) {i nL : Nat} {v : Value} {lv : List (Nat × Value)} (hv : v.isRef = true) (hc : v.category = 1) (hdg : decode cc pc = .ok (.astore i, 2)) (h : lv_has lr nL lv) (hn : i < nL)
    (kk : ∀ ls' : Array Slot, lv_has ls' nL ((i, v) :: lv.filter (fun z => !(z.1 == i) && !(z.1 + 1 == i && z.2.category == 2))) → W p l e R s m args below meth c H locs cells slots Q (F0 m (pc + 2) ls' rest)) : W p l e R s m args below meth c H locs cells slots Q (F0 m pc lr (v :: rest)) := by
  obtain ⟨ls', e', h'⟩ := lv_store1 (v := v) h hn hc
  intro T hT X
  obtain ⟨t, a, b⟩ := kk ls' h' T hT X
  refine ⟨t, ?_, b⟩
  jvm_step X.here [X.here.top, ↓top_set X.here.top, hexec, hb, hdg, e', hv]
  exact a
end REFS
theorem cv_isRef (ρ : Nat → Nat) (a : Nat) : (cv ρ (.ref a)).isRef = true := by
  by_cases h : a = 0 <;> simp [cv, h, Value.isRef]
theorem V_aload_n {q : Fin 4} {a : Nat} (hd : decode μ.2.1 pc = .ok (.aload_n q, 1)) (hl : lat q ls = some (.ref a)) (kk : V g μ E CX k n (pc + 1) ls (.ref a :: st) σ) : V g μ E CX k n pc ls st σ :=
  V_step (fun _ hl' h => wv_cons (hl' _ (lat_mem hl)) h) (fun _ _ _ _ _ _ _ _ C _ _ _ _ ρ lr _ _ hlr _ _ k => la_aload_n C.1 C.2.1 (cv_isRef ρ a) hd (lcv_get hlr (lat_mem hl)) k) kk
theorem V_aload {i : Nat} {a : Nat} (hd : decode μ.2.1 pc = .ok (.aload i, 2)) (hl : lat i ls = some (.ref a)) (kk : V g μ E CX k n (pc + 2) ls (.ref a :: st) σ) : V g μ E CX k n pc ls st σ :=
  V_step (fun _ hl' h => wv_cons (hl' _ (lat_mem hl)) h) (fun _ _ _ _ _ _ _ _ C _ _ _ _ ρ lr _ _ hlr _ _ k => la_aload C.1 C.2.1 (cv_isRef ρ a) hd (lcv_get hlr (lat_mem hl)) k) kk
theorem V_ifnull {off : Int} {a : Nat} (tgt : Nat) (hd : decode μ.2.1 pc = .ok (.ifnull off, 3)) (ht : (pc : Int) + off = (tgt : Int)) (kt : a = 0 → V g μ E CX k n tgt ls st σ) (kf : ¬ a = 0 → V g μ E CX k n (pc + 3) ls st σ) : V g μ E CX k n pc ls (.ref a :: st) σ :=
  V_br (fun h => wv_tail h) (fun _ _ _ _ _ _ _ _ C _ _ _ _ ρ _ _ k1 k2 => by
    by_cases h : a = 0
    · subst h; exact lv_ifnullN C.1 C.2.1 hd ht (k1 rfl)
    · rw [List.map_cons, cv_ref h]; exact lv_ifnull C.1 C.2.1 hd (k2 h)) kt kf
theorem V_ifnonnull {off : Int} {a : Nat} (tgt : Nat) (hd : decode μ.2.1 pc = .ok (.ifnonnull off, 3)) (ht : (pc : Int) + off = (tgt : Int)) (kt : ¬ a = 0 → V g μ E CX k n tgt ls st σ) (kf : a = 0 → V g μ E CX k n (pc + 3) ls st σ) : V g μ E CX k n pc ls (.ref a :: st) σ :=
  V_br (fun h => wv_tail h) (fun _ _ _ _ _ _ _ _ C _ _ _ _ ρ _ _ k1 k2 => by
    by_cases h : a = 0
    · subst h; exact lv_ifnonnullN C.1 C.2.1 hd (k1 rfl)
    · rw [List.map_cons, cv_ref h]; exact lv_ifnonnull C.1 C.2.1 hd ht (k2 h)) kf kt
/-- the locals change -/
theorem V_loc {pc' : Nat} {ls' : List (Nat × Value)} {st0 st' : List Value} (hw : (∀ v ∈ st0, wv (zN σ) v) → ∀ v ∈ st', wv (zN σ) v) (hwl : (∀ q ∈ ls, wv (zN σ) q.2) → (∀ v ∈ st0, wv (zN σ) v) → ∀ q ∈ ls', wv (zN σ) q.2)
    (h : ∀ (p : Program) (e : Env) (s : State) (m : MethodId) (args : Array Value) (below : List Frame) (meth : Method) (c : Code), Cx g μ CX p s m args meth c → ∀ (H : Heap) (locs : List Loc) (cells slots : Nat) (ρ : Nat → Nat) (lr : Array Slot) (Q : State → Prop), lv_has lr μ.2.2.1 (lcv ρ ls) →
      (∀ lr', lv_has lr' μ.2.2.1 (lcv ρ ls') → W p g.1 e μ.2.2.2.2.2 s m args below meth c H locs cells slots Q (F0 m pc' lr' (st'.map (cv ρ)))) → W p g.1 e μ.2.2.2.2.2 s m args below meth c H locs cells slots Q (F0 m pc lr (st0.map (cv ρ))))
    (kk : V g μ E CX k n pc' ls' st' σ) : V g μ E CX k n pc ls st0 σ := by
  intro p e s m args below meth c C H locs cells slots ρ ρ0 n0 lr P
  obtain ⟨p1, p2, p3, p4, p5, p6, p7, p8, p9, p10⟩ := P
  exact h p e s m args below meth c C H locs cells slots ρ lr _ p8 fun lr' h' => kk p e s m args below meth c C H locs cells slots ρ ρ0 n0 lr' ⟨p1, p2, p3, p4, p5, p6, p7, h', hwl p9 p10, hw p10⟩
theorem V_istore_n {q : Fin 4} {x : Int32} (ls' : List (Nat × Value)) (hd : decode μ.2.1 pc = .ok (.istore_n q, 1)) (hn : Nat.blt q μ.2.2.1 = true) (hl : lset q (.int x) ls = ls') (kk : V g μ E CX k n (pc + 1) ls' st σ) : V g μ E CX k n pc ls (.int x :: st) σ := by
  subst hl
  exact V_loc (fun h => wv_tail h) (fun h _ => lset_wv wv_i h) (fun _ _ _ _ _ _ _ _ C _ _ _ _ ρ lr _ hlr k => lv_istore_n C.1 C.2.1 hd rfl hlr (by simpa [Nat.blt_eq] using hn) rfl (fun lr' h' => k lr' (lset_has1 (v := .int x) rfl h'))) kk
theorem V_istore {i : Nat} {x : Int32} (ls' : List (Nat × Value)) (hd : decode μ.2.1 pc = .ok (.istore i, 2)) (hn : Nat.blt i μ.2.2.1 = true) (hl : lset i (.int x) ls = ls') (kk : V g μ E CX k n (pc + 2) ls' st σ) : V g μ E CX k n pc ls (.int x :: st) σ := by
  subst hl
  exact V_loc (fun h => wv_tail h) (fun h _ => lset_wv wv_i h) (fun _ _ _ _ _ _ _ _ C _ _ _ _ ρ lr _ hlr k => lv_istore C.1 C.2.1 hd hlr (by simpa [Nat.blt_eq] using hn) rfl (fun lr' h' => k lr' (lset_has1 (v := .int x) rfl h'))) kk
theorem V_lstore_n {q : Fin 4} {x : Int64} (ls' : List (Nat × Value)) (hd : decode μ.2.1 pc = .ok (.lstore_n q, 1)) (hn : Nat.blt ((q : Nat) + 1) μ.2.2.1 = true) (hl : lset q (.long x) ls = ls') (kk : V g μ E CX k n (pc + 1) ls' st σ) : V g μ E CX k n pc ls (.long x :: st) σ := by
  subst hl
  exact V_loc (fun h => wv_tail h) (fun h _ => lset_wv wv_l h) (fun _ _ _ _ _ _ _ _ C _ _ _ _ ρ lr _ hlr k => lv_lstore_n C.1 C.2.1 hd rfl hlr (by simpa [Nat.blt_eq] using hn) rfl (fun lr' h' => k lr' (lset_has2 (v := .long x) rfl h'))) kk
theorem V_lstore {i : Nat} {x : Int64} (ls' : List (Nat × Value)) (hd : decode μ.2.1 pc = .ok (.lstore i, 2)) (hn : Nat.blt (i + 1) μ.2.2.1 = true) (hl : lset i (.long x) ls = ls') (kk : V g μ E CX k n (pc + 2) ls' st σ) : V g μ E CX k n pc ls (.long x :: st) σ := by
  subst hl
  exact V_loc (fun h => wv_tail h) (fun h _ => lset_wv wv_l h) (fun _ _ _ _ _ _ _ _ C _ _ _ _ ρ lr _ hlr k => lv_lstore C.1 C.2.1 hd hlr (by simpa [Nat.blt_eq] using hn) rfl (fun lr' h' => k lr' (lset_has2 (v := .long x) rfl h'))) kk
theorem V_astore_n {q : Fin 4} {a : Nat} (ls' : List (Nat × Value)) (hd : decode μ.2.1 pc = .ok (.astore_n q, 1)) (hn : Nat.blt q μ.2.2.1 = true) (hl : lset q (.ref a) ls = ls') (kk : V g μ E CX k n (pc + 1) ls' st σ) : V g μ E CX k n pc ls (.ref a :: st) σ := by
  subst hl
  exact V_loc (fun h => wv_tail h) (fun h h2 => lset_wv (wv_hd h2) h) (fun _ _ _ _ _ _ _ _ C _ _ _ _ ρ lr _ hlr k => la_astore_n C.1 C.2.1 (cv_isRef ρ a) (by rw [cv_cat]; rfl) hd hlr (by simpa [Nat.blt_eq] using hn) (fun lr' h' => k lr' (lset_has1 (v := .ref a) rfl h'))) kk
theorem V_astore {i : Nat} {a : Nat} (ls' : List (Nat × Value)) (hd : decode μ.2.1 pc = .ok (.astore i, 2)) (hn : Nat.blt i μ.2.2.1 = true) (hl : lset i (.ref a) ls = ls') (kk : V g μ E CX k n (pc + 2) ls' st σ) : V g μ E CX k n pc ls (.ref a :: st) σ := by
  subst hl
  exact V_loc (fun h => wv_tail h) (fun h h2 => lset_wv (wv_hd h2) h) (fun _ _ _ _ _ _ _ _ C _ _ _ _ ρ lr _ hlr k => la_astore C.1 C.2.1 (cv_isRef ρ a) (by rw [cv_cat]; rfl) hd hlr (by simpa [Nat.blt_eq] using hn) (fun lr' h' => k lr' (lset_has1 (v := .ref a) rfl h'))) kk
theorem V_iinc {i : Nat} {z : Int} {x : Int32} (v : Int32) (ls' : List (Nat × Value)) (hd : decode μ.2.1 pc = .ok (.iinc i z, 3)) (hv : x + Int32.ofInt z = v) (hg : lat i ls = some (.int x)) (hn : Nat.blt i μ.2.2.1 = true) (hl : lset i (.int v) ls = ls') (kk : V g μ E CX k n (pc + 3) ls' st σ) : V g μ E CX k n pc ls st σ := by
  subst hl
  refine V_loc (fun h => h) (fun h _ => lset_wv wv_i h) (fun _ _ _ _ _ _ _ _ C _ _ _ _ ρ lr _ hlr k => ?_) kk
  obtain ⟨j, hj⟩ := List.getElem?_of_mem (List.mem_map.mpr ⟨_, lat_mem hg, rfl⟩ : (i, cv ρ (.int x)) ∈ lcv ρ ls)
  exact lv_iinc C.1 C.2.1 hd hlr hj hv (by simpa [Nat.blt_eq] using hn) rfl (fun lr' h' => k lr' (lset_has1 (v := .int v) rfl h'))
end VR
end
section
/-! ===== fields and arrays ===== -/
def fva (σ : AH) (a : Nat) (ty : FieldType) (k : Nat) : Value := match ty with
  | .long => .long (zJ σ a k)
  | .object _ => .ref (zR σ a k)
  | .array _ => .ref (zR σ a k)
  | _ => .int (zI σ a k)
theorem fv_fva (ρ : Nat → Nat) (σ : AH) (a : Nat) (ty : FieldType) (k : Nat) : fv ρ σ a ty k = cv ρ (fva σ a ty k) := by
  cases ty <;> rfl
theorem fva_wv {σ : AH} (hc : ∀ a k, zR σ a k ≤ zN σ) (a : Nat) (ty : FieldType) (k : Nat) : wv (zN σ) (fva σ a ty k) := by
  cases ty <;> first | exact hc a k | trivial
/-- what the tables say of a class: its row, its words, its fields' types and names -/
def KO (ci : Nat) (C : String) (T : u_T) : Prop := vwCl[ci]? = some (C, T, fN ci) ∧ (∀ w ∈ u_ws C T (fN ci), w ∈ lw_good) ∧ (∀ k, k < fN ci → parseFieldDescriptor (T k).2.2.1 = some (fT ci k)) ∧ (∀ a, a < fN ci → ∀ b, b < fN ci → a ≠ b → (T a).2.1 ≠ (T b).2.1) ∧ ci < 13
section VH
variable {g : GP} {μ : MI} {E : ET} {CX : State → Array Value → Prop} {k n pc : Nat} {ls : List (Nat × Value)} {st : List Value} {σ : AH}
theorem V_getf {ci fk idx a : Nat} {C : String} {T : u_T} (v : Value) (ko : KO ci C T) (hk : Nat.blt fk (fN ci) = true) (hlink : Cond.fieldLink μ.1.cls idx (T fk).1 (T fk).2.1 (T fk).2.2.1 ∈ lw_good) (hd : decode μ.2.1 pc = .ok (.getfield idx, 3)) (h0 : a ≠ 0) (hK : zK σ a = ci) (hv : fva σ a (fT ci fk) fk = v)
    (kk : V g μ E CX k n (pc + 3) ls (v :: st) σ) : V g μ E CX k n pc ls (.ref a :: st) σ := by
  subst hv
  refine V_step (fun hcl _ h => wv_cons (fva_wv hcl _ _ _) (wv_tail h)) (fun p e s m args below meth c C H locs cells slots ρ lr Q hCn hlr hst _ k => ?_) kk
  have hk' : fk < fN ci := by simpa [Nat.blt_eq] using hk
  rw [List.map_cons, cv_ref h0]
  refine va_get C.1 C.2.1 C.2.2.2.2.1 ko.2.1 C.2.2.2.1 C.2.2.2.2.2.2.2.2.2.1.1 hCn.1 (ps σ a) (by rw [wl_get h0 (ne9 hK (by have := ko.2.2.2.2; omega)) (wv_hd hst), ent_obj hK ko.2.2.2.2]) ko.1 fk hk' (C.2.2.2.2.1 _ hlink) (fun _ h => h) (fv_get hk') hd ?_
  rw [fv_fva]
  exact k
theorem FZ_wr {a : Nat} {σ' : AH} (hk19 : zK σ a ≠ 19) (hk23 : zK σ a = 23 → gG g = none) (hn : zN σ' = zN σ) (hkk : ∀ b, zK σ' b = zK σ b) (hll : ∀ b, zL σ' b = zL σ b) (hfz : ∀ b, b ≠ a → ∀ j, zI σ' b j = zI σ b j ∧ zJ σ' b j = zJ σ b j) (h : FZ g σ) : FZ g σ' := fun G hG => by
  obtain ⟨h1, h2⟩ := h G hG
  refine ⟨by rw [hn]; exact h1, fun b hb1 hb2 => ?_⟩
  obtain ⟨h3, h4, h5, h6⟩ := h2 b hb1 hb2
  rw [hkk, hll]
  refine ⟨h3, h4, h5, fun j => ?_⟩
  obtain ⟨h7, h8⟩ := hfz b (fun e => h3.elim (fun q => hk19 (e ▸ q)) (fun q => by rw [hk23 (e ▸ q)] at hG; cases hG)) j
  exact ⟨h7.trans (h6 j).1, h8.trans (h6 j).2⟩
theorem fz_uI {a k : Nat} {x : Int32} : ∀ b, b ≠ a → ∀ j, zI (uI σ a k x) b j = zI σ b j ∧ zJ (uI σ a k x) b j = zJ σ b j := fun b hb j => ⟨by rw [zI_uI, if_neg (fun q => hb q.1)], rfl⟩
theorem fz_uJ {a k : Nat} {x : Int64} : ∀ b, b ≠ a → ∀ j, zI (uJ σ a k x) b j = zI σ b j ∧ zJ (uJ σ a k x) b j = zJ σ b j := fun b hb j => ⟨rfl, by rw [zJ_uJ, if_neg (fun q => hb q.1)]⟩
theorem fz_uR {a k x : Nat} : ∀ b, b ≠ a → ∀ j, zI (uR σ a k x) b j = zI σ b j ∧ zJ (uR σ a k x) b j = zJ σ b j := fun _ _ _ => ⟨rfl, rfl⟩
/-- a write into one cell -/
theorem V_write {a pc' : Nat} {σ' : AH} {e' : (Nat → Nat) → va_E} {st0 st' : List Value} (h0 : a ≠ 0) (hk19 : zK σ a ≠ 19) (hkk : ∀ b, zK σ' b = zK σ b) (hk23 : zK σ a = 23 → gG g = none) (hll : ∀ b, zL σ' b = zL σ b) (hfz : ∀ b, b ≠ a → ∀ j, zI σ' b j = zI σ b j ∧ zJ σ' b j = zJ σ b j) (ha : (∀ v ∈ st0, wv (zN σ) v) → a ≤ zN σ) (hn : zN σ' = zN σ) (hs : ∀ ρ dA b, b ≠ a → ent dA ρ σ' b = ent dA ρ σ b) (he : ∀ ρ, ent g.2.2.1 ρ σ' a = e' ρ) (hcl : (∀ v ∈ st0, wv (zN σ) v) → (∀ b j, zR σ b j ≤ zN σ) → ∀ b j, zR σ' b j ≤ zN σ') (hw : (∀ v ∈ st0, wv (zN σ) v) → ∀ v ∈ st', wv (zN σ) v)
    (h : ∀ (p : Program) (e : Env) (s : State) (m : MethodId) (args : Array Value) (below : List Frame) (meth : Method) (c : Code), Cx g μ CX p s m args meth c → ∀ (H : Heap) (locs : List Loc) (cells slots : Nat) (ρ : Nat → Nat) (lr : Array Slot) (Q : State → Prop), Cn g ρ σ H → va_S (bs g.2.2.2.1) s.heap H locs → (∀ v ∈ st0, wv (zN σ) v) → (wl g.2.2.1 ρ σ)[ps σ a]? = some (ρ a, ent g.2.2.1 ρ σ a) →
      (∀ (H1 : Heap) (locs1 : List Loc), va_P g.2.1 vwCl ((wl g.2.2.1 ρ σ).set (ps σ a) (ρ a, e' ρ)) H1 → va_D (bs g.2.2.2.1) ((wl g.2.2.1 ρ σ).set (ps σ a) (ρ a, e' ρ)) → va_S (bs g.2.2.2.1) s.heap H1 locs1 → W p g.1 e μ.2.2.2.2.2 s m args below meth c H1 locs1 cells slots Q (F0 m pc' lr (st'.map (cv ρ)))) → W p g.1 e μ.2.2.2.2.2 s m args below meth c H locs cells slots Q (F0 m pc lr (st0.map (cv ρ))))
    (kk : V g μ E CX k n pc' ls st' σ') : V g μ E CX k n pc ls st0 σ := by
  intro p e s m args below meth c C H locs cells slots ρ ρ0 n0 lr P
  have hS := mkS C P
  obtain ⟨p1, p2, p3, p4, p5, p6, p7, p8, p9, p10⟩ := P
  refine h p e s m args below meth c C H locs cells slots ρ lr _ p1 hS p10 (wl_get h0 hk19 (ha p10)) fun H1 locs1 hP hD hS1 => ?_
  rw [wl_set h0 hk19 (ha p10) hn hkk (hs ρ _) (he ρ)] at hP hD
  refine kk p e s m args below meth c C H1 locs1 cells slots ρ ρ0 n0 lr ⟨⟨hP, hD, Nat.le_trans C.2.2.2.2.2.2.2.2.2.2.1 hS1.1, fun q hq => ?_, hcl p10 p1.2.2.2.2.1, by rw [hn]; exact p1.2.2.2.2.2.1, by rw [hkk]; exact p1.2.2.2.2.2.2.1, p1.2.2.2.2.2.2.2.1, FZ_wr hk19 hk23 hn hkk hll hfz p1.2.2.2.2.2.2.2.2⟩, hS1.2.2, p3, p4, hS1.1, p6, by rw [hn]; exact p7, p8, by rw [hn]; exact p9, by rw [hn]; exact hw p10⟩
  rw [hS1.2.1 q (Nat.lt_of_lt_of_le hq C.2.2.2.2.2.2.2.2.2.2.1) (Nat.not_le.mpr hq)]
  exact C.2.2.2.2.2.2.2.2.2.2.2.1 q hq
theorem wr_hc {σ : AH} {x a j0 : Nat} (hx : x ≤ zN σ) (h : ∀ b j, zR σ b j ≤ zN σ) : ∀ b j, zR (uR σ a j0 x) b j ≤ zN (uR σ a j0 x) := fun b j => by
  rw [zR_uR, zN_uR]
  split
  · exact hx
  · exact h b j
/-- putfield: the abstract heap behind it is σ' -/
theorem V_putf {ci fk idx a : Nat} {C : String} {T : u_T} {v : Value} {σ' : AH} (ko : KO ci C T) (hk : Nat.blt fk (fN ci) = true) (hlink : Cond.fieldLink μ.1.cls idx (T fk).1 (T fk).2.1 (T fk).2.2.1 ∈ lw_good) (hfin : (T fk).2.2.2 = false ∨ ((T fk).2.2.2 = true ∧ μ.1.name = "<init>" ∧ (T fk).1 = μ.1.cls)) (hd : decode μ.2.1 pc = .ok (.putfield idx, 3)) (h0 : a ≠ 0) (hK : zK σ a = ci)
    (hn : zN σ' = zN σ) (hkk : ∀ b, zK σ' b = zK σ b) (hll : ∀ b, zL σ' b = zL σ b) (hfz : ∀ b, b ≠ a → ∀ j, zI σ' b j = zI σ b j ∧ zJ σ' b j = zJ σ b j) (hK' : zK σ' a = ci) (hs : ∀ ρ dA b, b ≠ a → ent dA ρ σ' b = ent dA ρ σ b) (hf : ∀ j, j ≠ fk → fva σ' a (fT ci j) j = fva σ a (fT ci j) j) (hv : fva σ' a (fT ci fk) fk = v) (hcl : wv (zN σ) v → (∀ b j, zR σ b j ≤ zN σ) → ∀ b j, zR σ' b j ≤ zN σ')
    (hnar : ∀ ρ, narrow (fT ci fk) (cv ρ v) = cv ρ v) (hfit : ∀ ρ, fits (fT ci fk) (cv ρ v) = true)
    (kk : V g μ E CX k n (pc + 3) ls st σ') : V g μ E CX k n pc ls (v :: .ref a :: st) σ := by
  have hk' : fk < fN ci := by simpa [Nat.blt_eq] using hk
  refine V_write (a := a) (σ' := σ') (e' := fun ρ => .inr (ci, ((List.range (fN ci)).map (fun k => fv ρ σ a (fT ci k) k)).set fk (cv ρ v))) h0 (by rw [hK]; have := ko.2.2.2.2; omega) hkk (fun q => by rw [hK] at q; have := ko.2.2.2.2; omega) hll hfz (fun h => wv_hd (wv_tail h)) hn hs (fun ρ => ?_) (fun h hc => hcl (wv_hd h) hc) (fun h => wv_tail2 h) (fun p e s m args below meth c C H locs cells slots ρ lr Q hCn hS hst hg k => ?_) kk
  · rw [ent_obj hK' ko.2.2.2.2]
    refine congrArg _ (congrArg _ (fv_set hk' (fun j hj => ?_) ?_).symm)
    · rw [fv_fva, fv_fva, hf j hj]
    · rw [fv_fva, hv]
  · rw [List.map_cons, List.map_cons, cv_ref h0]
    rw [ent_obj hK ko.2.2.2.2] at hg
    rcases hfin with hfin | ⟨hfin, h1, h2⟩
    · exact va_put C.1 C.2.1 C.2.2.2.2.1 ko.2.1 (fT ci) ko.2.2.1 ko.2.2.2.1 C.2.2.2.1 C.2.2.2.2.2.2.2.2.2.1.1 hCn.1 hCn.2.1 hS (ps σ a) hg ko.1 fk hk' (C.2.2.2.2.1 _ hlink) (fun _ h => h) hfin (ko.2.2.1 fk hk') (hnar ρ) (hfit ρ) (by simpa using hk') hd k
    · exact va_putF C.1 C.2.1 C.2.2.2.2.1 ko.2.1 (fT ci) ko.2.2.1 ko.2.2.2.1 C.2.2.2.1 C.2.2.2.2.2.2.2.2.2.1.1 hCn.1 hCn.2.1 hS (ps σ a) hg ko.1 fk hk' (C.2.2.2.2.1 _ hlink) (fun _ h => h) hfin (C.2.2.2.2.2.2.2.1.trans h1) h2 (ko.2.2.1 fk hk') (hnar ρ) (hfit ρ) (by simpa using hk') hd k
theorem V_puti {ci fk idx a : Nat} {C : String} {T : u_T} {x : Int32} (ko : KO ci C T) (hk : Nat.blt fk (fN ci) = true) (hlink : Cond.fieldLink μ.1.cls idx (T fk).1 (T fk).2.1 (T fk).2.2.1 ∈ lw_good) (hfin : (T fk).2.2.2 = false ∨ ((T fk).2.2.2 = true ∧ μ.1.name = "<init>" ∧ (T fk).1 = μ.1.cls)) (hd : decode μ.2.1 pc = .ok (.putfield idx, 3)) (hty : fT ci fk = .int) (h0 : a ≠ 0) (hK : zK σ a = ci)
    (kk : V g μ E CX k n (pc + 3) ls st (uI σ a fk x)) : V g μ E CX k n pc ls (.int x :: .ref a :: st) σ := by
  refine V_putf (σ' := uI σ a fk x) ko hk hlink hfin hd h0 hK rfl (fun _ => rfl) (fun _ => rfl) fz_uI hK (fun ρ dA b hb => ent_uI hb) (fun j hj => ?_) (by rw [hty]; show Value.int _ = _; rw [zI_uI, if_pos ⟨rfl, rfl⟩]) (fun _ h => h) (fun _ => by rw [hty]; rfl) (fun _ => by rw [hty]; rfl) kk
  generalize fT ci j = t
  cases t <;> first | rfl | (show Value.int _ = Value.int _; rw [zI_uI, if_neg (fun q => hj q.2)])
theorem V_putz {ci fk idx a : Nat} {C : String} {T : u_T} {x : Int32} (ko : KO ci C T) (hk : Nat.blt fk (fN ci) = true) (hlink : Cond.fieldLink μ.1.cls idx (T fk).1 (T fk).2.1 (T fk).2.2.1 ∈ lw_good) (hfin : (T fk).2.2.2 = false ∨ ((T fk).2.2.2 = true ∧ μ.1.name = "<init>" ∧ (T fk).1 = μ.1.cls)) (hd : decode μ.2.1 pc = .ok (.putfield idx, 3)) (hty : fT ci fk = .boolean) (h0 : a ≠ 0) (hK : zK σ a = ci) (hx : narrow .boolean (.int x) = .int x) (hx2 : fits .boolean (.int x) = true)
    (kk : V g μ E CX k n (pc + 3) ls st (uI σ a fk x)) : V g μ E CX k n pc ls (.int x :: .ref a :: st) σ := by
  refine V_putf (σ' := uI σ a fk x) ko hk hlink hfin hd h0 hK rfl (fun _ => rfl) (fun _ => rfl) fz_uI hK (fun ρ dA b hb => ent_uI hb) (fun j hj => ?_) (by rw [hty]; show Value.int _ = _; rw [zI_uI, if_pos ⟨rfl, rfl⟩]) (fun _ h => h) (fun _ => by rw [hty]; exact hx) (fun _ => by rw [hty]; exact hx2) kk
  generalize fT ci j = t
  cases t <;> first | rfl | (show Value.int _ = Value.int _; rw [zI_uI, if_neg (fun q => hj q.2)])
theorem V_putl {ci fk idx a : Nat} {C : String} {T : u_T} {x : Int64} (ko : KO ci C T) (hk : Nat.blt fk (fN ci) = true) (hlink : Cond.fieldLink μ.1.cls idx (T fk).1 (T fk).2.1 (T fk).2.2.1 ∈ lw_good) (hfin : (T fk).2.2.2 = false ∨ ((T fk).2.2.2 = true ∧ μ.1.name = "<init>" ∧ (T fk).1 = μ.1.cls)) (hd : decode μ.2.1 pc = .ok (.putfield idx, 3)) (hty : fT ci fk = .long) (h0 : a ≠ 0) (hK : zK σ a = ci)
    (kk : V g μ E CX k n (pc + 3) ls st (uJ σ a fk x)) : V g μ E CX k n pc ls (.long x :: .ref a :: st) σ := by
  refine V_putf (σ' := uJ σ a fk x) ko hk hlink hfin hd h0 hK rfl (fun _ => rfl) (fun _ => rfl) fz_uJ hK (fun ρ dA b hb => ent_uJ hb) (fun j hj => ?_) (by rw [hty]; show Value.long _ = _; rw [zJ_uJ, if_pos ⟨rfl, rfl⟩]) (fun _ h => h) (fun _ => by rw [hty]; rfl) (fun _ => by rw [hty]; rfl) kk
  generalize fT ci j = t
  cases t <;> first | rfl | (show Value.long _ = Value.long _; rw [zJ_uJ, if_neg (fun q => hj q.2)])
theorem nar_ref {ty : FieldType} (h : ty.isReference = true) (ρ : Nat → Nat) (x : Nat) : narrow ty (cv ρ (.ref x)) = cv ρ (.ref x) ∧ fits ty (cv ρ (.ref x)) = true := by
  by_cases h0 : x = 0
  · subst h0
    cases ty <;> first | (exact absurd h (by decide)) | exact ⟨rfl, rfl⟩
  · rw [cv_ref h0]
    cases ty <;> first | (exact absurd h (by decide)) | exact ⟨rfl, rfl⟩
theorem V_putr {ci fk idx a x : Nat} {C : String} {T : u_T} (ko : KO ci C T) (hk : Nat.blt fk (fN ci) = true) (hlink : Cond.fieldLink μ.1.cls idx (T fk).1 (T fk).2.1 (T fk).2.2.1 ∈ lw_good) (hfin : (T fk).2.2.2 = false ∨ ((T fk).2.2.2 = true ∧ μ.1.name = "<init>" ∧ (T fk).1 = μ.1.cls)) (hd : decode μ.2.1 pc = .ok (.putfield idx, 3)) (hty : (fT ci fk).isReference = true) (h0 : a ≠ 0) (hK : zK σ a = ci)
    (kk : V g μ E CX k n (pc + 3) ls st (uR σ a fk x)) : V g μ E CX k n pc ls (.ref x :: .ref a :: st) σ := by
  refine V_putf (σ' := uR σ a fk x) ko hk hlink hfin hd h0 hK rfl (fun _ => rfl) (fun _ => rfl) fz_uR hK (fun ρ dA b hb => ent_uR hb) (fun j hj => ?_) ?_ (fun hx h => wr_hc hx h) (fun ρ => (nar_ref hty ρ x).1) (fun ρ => (nar_ref hty ρ x).2) kk
  · generalize fT ci j = t
    cases t <;> first | rfl | (show Value.ref _ = Value.ref _; rw [zR_uR, if_neg (fun q => hj q.2)])
  · revert hty
    generalize fT ci fk = t
    intro hty
    cases t <;> first | (exact absurd hty (by decide)) | (show Value.ref _ = _; rw [zR_uR, if_pos ⟨rfl, rfl⟩])
/-! arrays -/
theorem V_iald {a : Nat} {i : Int32} (hd : decode μ.2.1 pc = .ok (.iaload, 1)) (h0 : a ≠ 0) (hK : zK σ a = 20) (hi : vp_in i (zL σ a)) (kk : V g μ E CX k n (pc + 1) ls (.int (zI σ a i.toNatClampNeg) :: st) σ) : V g μ E CX k n pc ls (.int i :: .ref a :: st) σ := by
  refine V_step (fun hcl _ h => wv_cons wv_i (wv_tail2 h)) (fun p e s m args below meth c C H locs cells slots ρ lr Q hCn hlr hst _ k => ?_) kk
  rw [List.map_cons, List.map_cons, cv_ref h0]
  exact va_iald C.1 C.2.1 C.2.2.2.2.2.2.2.2.2.1.1 hCn.1 (ps σ a) 0 (by rw [wl_get h0 (ne9 hK (by decide)) (wv_hd (wv_tail hst)), ent_ia hK]) rfl hi hd k
theorem V_zald {a : Nat} {i : Int32} (hd : decode μ.2.1 pc = .ok (.baload, 1)) (h0 : a ≠ 0) (hK : zK σ a = 22) (hi : vp_in i (zL σ a)) (kk : V g μ E CX k n (pc + 1) ls (.int (zI σ a i.toNatClampNeg) :: st) σ) : V g μ E CX k n pc ls (.int i :: .ref a :: st) σ := by
  refine V_step (fun hcl _ h => wv_cons wv_i (wv_tail2 h)) (fun p e s m args below meth c C H locs cells slots ρ lr Q hCn hlr hst _ k => ?_) kk
  rw [List.map_cons, List.map_cons, cv_ref h0]
  exact va_zald C.1 C.2.1 C.2.2.2.2.2.2.2.2.2.1.1 hCn.1 (ps σ a) 2 (by rw [wl_get h0 (ne9 hK (by decide)) (wv_hd (wv_tail hst)), ent_za hK]) rfl hi hd k
theorem V_lald {a : Nat} {i : Int32} (hd : decode μ.2.1 pc = .ok (.laload, 1)) (h0 : a ≠ 0) (hK : zK σ a = 21) (hi : vp_in i (zL σ a)) (kk : V g μ E CX k n (pc + 1) ls (.long (zJ σ a i.toNatClampNeg) :: st) σ) : V g μ E CX k n pc ls (.int i :: .ref a :: st) σ := by
  refine V_step (fun hcl _ h => wv_cons wv_l (wv_tail2 h)) (fun p e s m args below meth c C H locs cells slots ρ lr Q hCn hlr hst _ k => ?_) kk
  rw [List.map_cons, List.map_cons, cv_ref h0]
  exact va_lald C.1 C.2.1 C.2.2.2.2.2.2.2.2.2.1.1 hCn.1 (ps σ a) 1 (by rw [wl_get h0 (ne9 hK (by decide)) (wv_hd (wv_tail hst)), ent_ja hK]) rfl hi hd k
/-- an array of references: of which class, by the kind; its place among the tables' words -/
def AO (κ : Nat) (C : String) (t0 : Nat) : Prop := 30 ≤ κ ∧ ∀ dA : Nat → ClassId, (tysOf dA)[t0]? = some (dA κ, .object C)
theorem ao_30 : AO 30 RX0 3 := ⟨by decide, fun _ => rfl⟩
theorem ao_32 : AO 32 RX2 4 := ⟨by decide, fun _ => rfl⟩
theorem ao_33 : AO 33 RX3 5 := ⟨by decide, fun _ => rfl⟩
theorem ao_35 : AO 35 RX5 6 := ⟨by decide, fun _ => rfl⟩
theorem ao_39 : AO 39 RX9 7 := ⟨by decide, fun _ => rfl⟩
theorem V_aald {a κ t0 : Nat} {C : String} {i : Int32} (ao : AO κ C t0) (hd : decode μ.2.1 pc = .ok (.aaload, 1)) (h0 : a ≠ 0) (hK : zK σ a = κ) (hi : vp_in i (zL σ a)) (kk : V g μ E CX k n (pc + 1) ls (.ref (zR σ a i.toNatClampNeg) :: st) σ) : V g μ E CX k n pc ls (.int i :: .ref a :: st) σ := by
  refine V_step (fun hcl _ h => wv_cons (show wv (zN σ) (.ref (zR σ a i.toNatClampNeg)) from hcl _ _) (wv_tail2 h)) (fun p e s m args below meth c C H locs cells slots ρ lr Q hCn hlr hst _ k => ?_) kk
  rw [List.map_cons, List.map_cons, cv_ref h0]
  refine va_aldq C.1 C.2.1 C.2.2.2.2.2.2.2.2.2.1.1 hCn.1 (ps σ a) t0 (by rw [wl_get h0 (ne9 hK (by have := ao.1; omega)) (wv_hd (wv_tail hst)), ent_qa hK ao.1]) (ao.2 _) hi hd ?_
  rw [cv_rf]
  exact k
theorem V_iast {a : Nat} {i x : Int32} (hd : decode μ.2.1 pc = .ok (.iastore, 1)) (h0 : a ≠ 0) (hK : zK σ a = 20) (hi : vp_in i (zL σ a)) (kk : V g μ E CX k n (pc + 1) ls st (uI σ a i.toNatClampNeg x)) : V g μ E CX k n pc ls (.int x :: .int i :: .ref a :: st) σ := by
  refine V_write (a := a) (σ' := uI σ a i.toNatClampNeg x) (e' := fun ρ => .inl (g.2.2.1 20, zL σ a, .inl (upd (zI σ a) i.toNatClampNeg x))) h0 (by rw [hK]; decide) (fun _ => rfl) (fun q => by rw [hK] at q; first | (have := ao.1; omega) | exact absurd q (by decide)) (fun _ => rfl) fz_uI (fun h => wv_hd (wv_tail2 h)) rfl (fun ρ dA b hb => ent_uI hb) (fun ρ => ?_) (fun _ h => h) (fun h => wv_tail3 h) (fun p e s m args below meth c C H locs cells slots ρ lr Q hCn hS hst hg k => ?_) kk
  · rw [ent_ia (by rw [zK_uI]; exact hK)]
    congr 3
    refine congrArg Sum.inl ?_
    funext j
    rw [zI_uI]
    simp [upd]
  · rw [List.map_cons, List.map_cons, List.map_cons, cv_ref h0]
    rw [ent_ia hK] at hg
    exact va_iast C.1 C.2.1 C.2.2.2.2.2.2.2.2.2.1.1 hCn.1 hCn.2.1 hS (ps σ a) 0 hg rfl hi hd k
theorem V_zast {a : Nat} {i x : Int32} (hd : decode μ.2.1 pc = .ok (.bastore, 1)) (h0 : a ≠ 0) (hK : zK σ a = 22) (hi : vp_in i (zL σ a)) (hx : vp_nar .boolean x = x) (kk : V g μ E CX k n (pc + 1) ls st (uI σ a i.toNatClampNeg x)) : V g μ E CX k n pc ls (.int x :: .int i :: .ref a :: st) σ := by
  refine V_write (a := a) (σ' := uI σ a i.toNatClampNeg x) (e' := fun ρ => .inl (g.2.2.1 22, zL σ a, .inl (upd (zI σ a) i.toNatClampNeg x))) h0 (by rw [hK]; decide) (fun _ => rfl) (fun q => by rw [hK] at q; first | (have := ao.1; omega) | exact absurd q (by decide)) (fun _ => rfl) fz_uI (fun h => wv_hd (wv_tail2 h)) rfl (fun ρ dA b hb => ent_uI hb) (fun ρ => ?_) (fun _ h => h) (fun h => wv_tail3 h) (fun p e s m args below meth c C H locs cells slots ρ lr Q hCn hS hst hg k => ?_) kk
  · rw [ent_za (by rw [zK_uI]; exact hK)]
    congr 3
    refine congrArg Sum.inl ?_
    funext j
    rw [zI_uI]
    simp [upd]
  · rw [List.map_cons, List.map_cons, List.map_cons, cv_ref h0]
    rw [ent_za hK] at hg
    refine va_zast C.1 C.2.1 C.2.2.2.2.2.2.2.2.2.1.1 hCn.1 hCn.2.1 hS (ps σ a) 2 hg rfl hi hd ?_
    rw [hx]
    exact k
theorem V_last {a : Nat} {i : Int32} {x : Int64} (hd : decode μ.2.1 pc = .ok (.lastore, 1)) (h0 : a ≠ 0) (hK : zK σ a = 21) (hi : vp_in i (zL σ a)) (kk : V g μ E CX k n (pc + 1) ls st (uJ σ a i.toNatClampNeg x)) : V g μ E CX k n pc ls (.long x :: .int i :: .ref a :: st) σ := by
  refine V_write (a := a) (σ' := uJ σ a i.toNatClampNeg x) (e' := fun ρ => .inl (g.2.2.1 21, zL σ a, .inr (.inl (vp_updL (zJ σ a) i.toNatClampNeg x)))) h0 (by rw [hK]; decide) (fun _ => rfl) (fun q => by rw [hK] at q; first | (have := ao.1; omega) | exact absurd q (by decide)) (fun _ => rfl) fz_uJ (fun h => wv_hd (wv_tail2 h)) rfl (fun ρ dA b hb => ent_uJ hb) (fun ρ => ?_) (fun _ h => h) (fun h => wv_tail3 h) (fun p e s m args below meth c C H locs cells slots ρ lr Q hCn hS hst hg k => ?_) kk
  · rw [ent_ja (by rw [zK_uJ]; exact hK)]
    congr 3
    refine congrArg _ (congrArg _ ?_)
    funext j
    rw [zJ_uJ]
    simp [vp_updL]
  · rw [List.map_cons, List.map_cons, List.map_cons, cv_ref h0]
    rw [ent_ja hK] at hg
    exact va_last C.1 C.2.1 C.2.2.2.2.2.2.2.2.2.1.1 hCn.1 hCn.2.1 hS (ps σ a) 1 hg rfl hi hd k
theorem V_aast {a κ t0 ci x : Nat} {C : String} {T : u_T} {i : Int32} (ao : AO κ C t0) (ko : KO ci C T) (hd : decode μ.2.1 pc = .ok (.aastore, 1)) (h0 : a ≠ 0) (hK : zK σ a = κ) (hi : vp_in i (zL σ a)) (hx0 : x ≠ 0) (hx : zK σ x = ci) (kk : V g μ E CX k n (pc + 1) ls st (uR σ a i.toNatClampNeg x)) : V g μ E CX k n pc ls (.ref x :: .int i :: .ref a :: st) σ := by
  refine V_write (a := a) (σ' := uR σ a i.toNatClampNeg x) (e' := fun ρ => .inl (g.2.2.1 κ, zL σ a, .inr (.inr (.inr (.inr (va_up (fun j => oref ρ (zR σ a j)) i.toNatClampNeg (some (ρ x)))))))) h0 (by rw [hK]; have := ao.1; omega) (fun _ => rfl) (fun q => by rw [hK] at q; first | (have := ao.1; omega) | exact absurd q (by decide)) (fun _ => rfl) fz_uR (fun h => wv_hd (wv_tail2 h)) rfl (fun ρ dA b hb => ent_uR hb) (fun ρ => ?_) (fun h hc => wr_hc (wv_hd h) hc) (fun h => wv_tail3 h) (fun p e s m args below meth c C H locs cells slots ρ lr Q hCn hS hst hg k => ?_) kk
  · rw [ent_qa (by rw [zK_uR]; exact hK) ao.1]
    congr 3
    refine congrArg _ (congrArg _ (congrArg _ (congrArg _ ?_)))
    funext j
    rw [zR_uR]
    by_cases hj : j = i.toNatClampNeg
    · rw [if_pos ⟨rfl, hj⟩]; simp [va_up, hj, oref, hx0]
    · rw [if_neg (fun q => hj q.2)]; simp [va_up, hj]
  · rw [List.map_cons, List.map_cons, List.map_cons, cv_ref h0, cv_ref hx0]
    rw [ent_qa hK ao.1] at hg
    exact va_astq C.1 C.2.1 C.2.2.2.2.2.2.2.2.2.1.1 hCn.1 hCn.2.1 hS (ps σ a) t0 (ps σ x) ci hg (ao.2 _) (by rw [wl_get hx0 (ne9 hx (by have := ko.2.2.2.2; omega)) (wv_hd hst), ent_obj hx ko.2.2.2.2]) ko.1 hi hd k
theorem V_alen {a κ : Nat} (hd : decode μ.2.1 pc = .ok (.arraylength, 1)) (h0 : a ≠ 0) (hK : zK σ a = 20) (kk : V g μ E CX k n (pc + 1) ls (.int (nI (zL σ a)) :: st) σ) : V g μ E CX k n pc ls (.ref a :: st) σ := by
  refine V_step (fun hcl _ h => wv_cons wv_i (wv_tail h)) (fun p e s m args below meth c C H locs cells slots ρ lr Q hCn hlr hst _ k => ?_) kk
  rw [List.map_cons, cv_ref h0]
  exact va_alen (x := (zL σ a, .inl (zI σ a))) (v := nI (zL σ a)) C.1 C.2.1 C.2.2.2.2.2.2.2.2.2.1.1 hCn.1 (ps σ a) 0 (by rw [wl_get h0 (ne9 hK (by decide)) (wv_hd hst), ent_ia hK]) rfl rfl hd k
/-! the law's own arrays: kind 23 -/
theorem V_gald {a : Nat} {i : Int32} (hd : decode μ.2.1 pc = .ok (.iaload, 1)) (h0 : a ≠ 0) (hK : zK σ a = 23) (hi : vp_in i (zL σ a)) (kk : V g μ E CX k n (pc + 1) ls (.int (zI σ a i.toNatClampNeg) :: st) σ) : V g μ E CX k n pc ls (.int i :: .ref a :: st) σ := by
  refine V_step (fun hcl _ h => wv_cons wv_i (wv_tail2 h)) (fun p e s m args below meth c C H locs cells slots ρ lr Q hCn hlr hst _ k => ?_) kk
  rw [List.map_cons, List.map_cons, cv_ref h0]
  exact va_iald C.1 C.2.1 C.2.2.2.2.2.2.2.2.2.1.1 hCn.1 (ps σ a) 0 (by rw [wl_get h0 (ne9 hK (by decide)) (wv_hd (wv_tail hst)), ent_ga hK]) rfl hi hd k
theorem V_gast {a : Nat} {i x : Int32} (hd : decode μ.2.1 pc = .ok (.iastore, 1)) (hg : gG g = none) (h0 : a ≠ 0) (hK : zK σ a = 23) (hi : vp_in i (zL σ a)) (kk : V g μ E CX k n (pc + 1) ls st (uI σ a i.toNatClampNeg x)) : V g μ E CX k n pc ls (.int x :: .int i :: .ref a :: st) σ := by
  refine V_write (a := a) (σ' := uI σ a i.toNatClampNeg x) (e' := fun ρ => .inl (g.2.2.1 20, zL σ a, .inl (upd (zI σ a) i.toNatClampNeg x))) h0 (by rw [hK]; decide) (fun _ => rfl) (fun _ => hg) (fun _ => rfl) fz_uI (fun h => wv_hd (wv_tail2 h)) rfl (fun ρ dA b hb => ent_uI hb) (fun ρ => ?_) (fun _ h => h) (fun h => wv_tail3 h) (fun p e s m args below meth c C H locs cells slots ρ lr Q hCn hS hst hg k => ?_) kk
  · rw [ent_ga (by rw [zK_uI]; exact hK)]
    congr 3
    refine congrArg Sum.inl ?_
    funext j
    rw [zI_uI]
    simp [upd]
  · rw [List.map_cons, List.map_cons, List.map_cons, cv_ref h0]
    rw [ent_ga hK] at hg
    exact va_iast C.1 C.2.1 C.2.2.2.2.2.2.2.2.2.1.1 hCn.1 hCn.2.1 hS (ps σ a) 0 hg rfl hi hd k
/-! the script, which is no cell -/
theorem V_sld {i : Nat} (hi : i < gL g) (hd : decode μ.2.1 pc = .ok (.iaload, 1)) (kk : V g μ E CX k n (pc + 1) ls (.int (gX g i) :: st) σ) : V g μ E CX k n pc ls (.int (nI i) :: .ref 1 :: st) σ := by
  intro p e s m args below meth c C H locs cells slots ρ ρ0 n0 lr P
  have hS := mkS C P
  obtain ⟨x3, x4, x5⟩ := C.2.2.2.2.2.2.2.2.2.1.2.2.2.2.2.2.2.2.2
  obtain ⟨p1, p2, p3, p4, p5, p6, p7, p8, p9, p10⟩ := P
  have hρ : ρ 1 = gB g := p1.2.2.2.2.2.2.2.1
  have K := kk p e s m args below meth c C H locs cells slots ρ ρ0 n0 lr ⟨p1, p2, p3, p4, p5, p6, p7, p8, p9, wv_cons wv_i (wv_tail2 p10)⟩
  have ci : (nI i).toNatClampNeg = i := nI_clamp (by omega)
  rw [List.map_cons, List.map_cons, cv_ref (by decide), hρ]
  have hb2 : gB g < s.heap.size := Nat.lt_of_lt_of_le x4 C.2.2.2.2.2.2.2.2.2.2.1
  refine va_sld (A := bs g.2.2.2.1) (i := nI i) C.1 C.2.1 (va_X.kept x3 (C.2.2.2.2.2.2.2.2.2.2.2.1 _ x4)) hb2 (Nat.not_le.mpr x4) hS (vp_in_nI hi (by omega)) hd ?_
  rw [ci]
  exact K
theorem V_slen (hd : decode μ.2.1 pc = .ok (.arraylength, 1)) (kk : V g μ E CX k n (pc + 1) ls (.int (nI (gL g)) :: st) σ) : V g μ E CX k n pc ls (.ref 1 :: st) σ := by
  intro p e s m args below meth c C H locs cells slots ρ ρ0 n0 lr P
  have hS := mkS C P
  obtain ⟨x3, x4, x5⟩ := C.2.2.2.2.2.2.2.2.2.1.2.2.2.2.2.2.2.2.2
  obtain ⟨p1, p2, p3, p4, p5, p6, p7, p8, p9, p10⟩ := P
  have hρ : ρ 1 = gB g := p1.2.2.2.2.2.2.2.1
  have K := kk p e s m args below meth c C H locs cells slots ρ ρ0 n0 lr ⟨p1, p2, p3, p4, p5, p6, p7, p8, p9, wv_cons wv_i (wv_tail p10)⟩
  rw [List.map_cons, cv_ref (by decide), hρ]
  have hb2 : gB g < s.heap.size := Nat.lt_of_lt_of_le x4 C.2.2.2.2.2.2.2.2.2.2.1
  exact va_slen (A := bs g.2.2.2.1) C.1 C.2.1 (va_X.kept x3 (C.2.2.2.2.2.2.2.2.2.2.2.1 _ x4)) hb2 (Nat.not_le.mpr x4) hS hd K
end VH
end
section
/-! ===== making cells ===== -/
def KD (ci : Nat) : Prop := ∀ k, k < fN ci → fT ci k ≠ .float ∧ fT ci k ≠ .double
section VA
variable {g : GP} {μ : MI} {E : ET} {CX : State → Array Value → Prop} {k n pc : Nat} {ls : List (Nat × Value)} {st : List Value} {σ : AH}
theorem lcv_agree {ρ ρ' : Nat → Nat} {N : Nat} (h : ∀ a, 1 ≤ a → a ≤ N → ρ' a = ρ a) {ls : List (Nat × Value)} (hw : ∀ q ∈ ls, wv N q.2) : lcv ρ' ls = lcv ρ ls :=
  List.map_congr_left fun q hq => by rw [cv_agree h (hw q hq)]
theorem st_agree {ρ ρ' : Nat → Nat} {N : Nat} (h : ∀ a, 1 ≤ a → a ≤ N → ρ' a = ρ a) {st : List Value} (hw : ∀ v ∈ st, wv N v) : st.map (cv ρ') = st.map (cv ρ) :=
  List.map_congr_left fun q hq => cv_agree h (hw q hq)
theorem rup_agree {ρ : Nat → Nat} {N q : Nat} : ∀ a, 1 ≤ a → a ≤ N → rup ρ (N + 1) q a = ρ a := fun a _ h => by
  unfold rup; rw [if_neg (by omega)]
theorem nw_hc {κ len : Nat} (h : ∀ b j, zR σ b j ≤ zN σ) : ∀ b j, zR (nw σ κ len) b j ≤ zN (nw σ κ len) := fun b j => by
  rw [zR_nw, zN_nw]
  split
  · omega
  · exact Nat.le_succ_of_le (h b j)
theorem FZ_nw {κ len : Nat} (h : FZ g σ) : FZ g (nw σ κ len) := fun G hG => by
  obtain ⟨h1, h2⟩ := h G hG
  refine ⟨by rw [zN_nw]; omega, fun b hb1 hb2 => ?_⟩
  obtain ⟨h3, h4, h5, h6⟩ := h2 b hb1 hb2
  rw [zK_nw, zL_nw, if_neg (by omega), if_neg (by omega)]
  refine ⟨h3, h4, h5, fun j => ?_⟩
  rw [zI_nw, zJ_nw, if_neg (by omega), if_neg (by omega)]
  exact h6 j
theorem V_alloc {κ len k' n' pc' : Nat} {e' : va_E} {st0 st' : List Value} (hκ : κ ≠ 19) (hk : Nat.ble (k' + 1) k = true) (hn : Nat.ble (n' + len) n = true) (hw : (∀ v ∈ st0, wv (zN σ) v) → ∀ v ∈ st', wv (zN σ) v) (he : ∀ ρ, ent g.2.2.1 ρ (nw σ κ len) (zN σ + 1) = e')
    (h : ∀ (p : Program) (e : Env) (s : State) (m : MethodId) (args : Array Value) (below : List Frame) (meth : Method) (c : Code), Cx g μ CX p s m args meth c → ∀ (H : Heap) (locs : List Loc) (cells slots : Nat) (ρ : Nat → Nat) (lr : Array Slot) (Q : State → Prop), Cn g ρ σ H → va_S (bs g.2.2.2.1) s.heap H locs → cells + 1 ≤ μ.2.2.2.2.2.cells → slots + len ≤ μ.2.2.2.2.2.slots →
      (∀ (q : Nat) (H1 : Heap), va_P g.2.1 vwCl (wl g.2.2.1 ρ σ ++ [(q, e')]) H1 → va_D (bs g.2.2.2.1) (wl g.2.2.1 ρ σ ++ [(q, e')]) → va_S (bs g.2.2.2.1) s.heap H1 locs → W p g.1 e μ.2.2.2.2.2 s m args below meth c H1 locs (cells + 1) (slots + len) Q (F0 m pc' lr (.ref q :: st'.map (cv ρ)))) → W p g.1 e μ.2.2.2.2.2 s m args below meth c H locs cells slots Q (F0 m pc lr (st0.map (cv ρ))))
    (kk : V g μ E CX k' n' pc' ls (.ref (zN σ + 1) :: st') (nw σ κ len)) : V g μ E CX k n pc ls st0 σ := by
  intro p e s m args below meth c C H locs cells slots ρ ρ0 n0 lr P
  have hS := mkS C P
  have hk := Nat.le_of_ble_eq_true hk
  have hn := Nat.le_of_ble_eq_true hn
  obtain ⟨p1, p2, p3, p4, p5, p6, p7, p8, p9, p10⟩ := P
  refine h p e s m args below meth c C H locs cells slots ρ lr _ p1 hS (by omega) (by omega) fun q H1 hP hD hS1 => ?_
  rw [wl_push hκ p1.2.2.2.2.1 (he _)] at hP hD
  have hw' := hw p10
  have key := kk p e s m args below meth c C H1 locs (cells + 1) (slots + len) (rup ρ (zN σ + 1) q) ρ0 n0 lr ⟨⟨hP, hD, Nat.le_trans C.2.2.2.2.2.2.2.2.2.2.1 hS1.1, fun z hz => ?_, nw_hc p1.2.2.2.2.1, Nat.le_succ_of_le p1.2.2.2.2.2.1, (zK_nw _ _ _ _).trans ((if_neg (by have := p1.2.2.2.2.2.1; omega)).trans p1.2.2.2.2.2.2.1), (rup_agree 1 (Nat.le_refl 1) p1.2.2.2.2.2.1).trans p1.2.2.2.2.2.2.2.1, FZ_nw p1.2.2.2.2.2.2.2.2⟩, hS1.2.2, by omega, by omega, hS1.1, fun a h1 h2 => ?_, Nat.le_succ_of_le p7, by rw [lcv_agree rup_agree p9]; exact p8, fun z hz => wv_mono (Nat.le_succ _) (p9 z hz), wv_cons (Nat.le_refl _) (fun v hv => wv_mono (Nat.le_succ _) (hw' v hv))⟩
  · rw [List.map_cons, cv_ref (by omega), st_agree rup_agree hw'] at key
    rw [show rup ρ (zN σ + 1) q (zN σ + 1) = q by simp [rup]] at key
    exact key
  · rw [hS1.2.1 z (Nat.lt_of_lt_of_le hz C.2.2.2.2.2.2.2.2.2.2.1) (Nat.not_le.mpr hz)]
    exact C.2.2.2.2.2.2.2.2.2.2.2.1 z hz
  · rw [rup_agree a h1 (Nat.le_trans h2 p7)]
    exact p6 a h1 h2
theorem zK_new {κ len : Nat} : zK (nw σ κ len) (zN σ + 1) = κ := by rw [zK_nw, if_pos rfl]
theorem V_new {ci idx k' n' : Nat} {C : String} {T : u_T} (ko : KO ci C T) (kd : KD ci) (hcl : Cond.classLink μ.1.cls idx C ∈ lw_good) (hins : Cond.instantiable C (fN ci) ∈ lw_good) (hini : Cond.initialized C ∈ lw_good) (hd : decode μ.2.1 pc = .ok (.new idx, 3)) (hk : Nat.ble (k' + 1) k = true) (hn : Nat.ble (n' + fN ci) n = true)
    (kk : V g μ E CX k' n' (pc + 3) ls (.ref (zN σ + 1) :: st) (nw σ ci (fN ci))) : V g μ E CX k n pc ls st σ := by
  refine V_alloc (e' := .inr (ci, (List.range (fN ci)).map (fun k => defaultValue (fT ci k)))) (by have := ko.2.2.2.2; omega) hk hn (fun h => h) (fun ρ => ?_) (fun p e s m args below meth c C H locs cells slots ρ lr Q hCn hS h1 h2 k => ?_) kk
  · rw [ent_obj zK_new ko.2.2.2.2]
    refine congrArg _ (congrArg _ (List.map_congr_left fun j hj => ?_))
    have hj := kd j (List.mem_range.mp hj)
    revert hj
    generalize fT ci j = t
    intro hj
    cases t <;> first | exact absurd rfl hj.1 | exact absurd rfl hj.2 | (simp only [fv, zI_nw, zJ_nw, zR_nw, if_pos]; rfl)
  · exact va_new C.1 C.2.1 C.2.2.2.2.1 ko.2.1 (fT ci) ko.2.2.1 C.2.2.2.1 (C.2.2.2.2.1 _ hcl) (C.2.2.2.2.1 _ hins) (C.2.2.2.2.1 _ hini) C.2.2.2.2.2.2.2.2.2.1.1 hCn.1 hCn.2.1 hS (fun q hq => Nat.le_trans C.2.2.2.2.2.2.2.2.2.2.1 hq) ko.1 (fun j hj => by simp [vp_V, List.getD, List.getElem?_range hj]) h1 h2 hd k
theorem ra_eq {D : va_G} {cl : List vw_C} {tys : List (ClassId × FieldType)} {cA : ClassId} {ty : FieldType} {s : State} (t0 : Nat) {cB : ClassId} (h1 : va_K D cl tys s) (ht : tys[t0]? = some (cB, ty)) (h2 : va_K D cl (tys ++ [(cA, ty)]) s) : cA = cB := by
  have a1 := (h1.2 t0 _ ht).2
  have a2 := (h2.2 tys.length (cA, ty) (by simp)).2
  cases ty with
  | object C =>
    obtain ⟨_, _, _, _, _, e1⟩ := a1
    obtain ⟨_, _, _, _, _, e2⟩ := a2
    exact Option.some.inj (e2.symm.trans e1)
  | _ => exact Option.some.inj (Eq.trans (Eq.symm a2) a1)
theorem V_newi {z : Int32} {len k' n' : Nat} (hw : Cond.arrayClass .int ∈ lw_good) (hd : decode μ.2.1 pc = .ok (.newarray .int, 2)) (hz : ¬ z < 0) (hlen : z.toNatClampNeg = len) (hb : Nat.ble len 100000 = true) (hk : Nat.ble (k' + 1) k = true) (hn : Nat.ble (n' + len) n = true)
    (kk : V g μ E CX k' n' (pc + 2) ls (.ref (zN σ + 1) :: st) (nw σ 20 len)) : V g μ E CX k n pc ls (.int z :: st) σ := by
  have hb := Nat.le_of_ble_eq_true hb
  refine V_alloc (e' := .inl (g.2.2.1 20, len, .inl (fun _ => 0))) (by decide) hk hn (fun h => wv_tail h) (fun ρ => ?_) (fun p e s m args below meth c C H locs cells slots ρ lr Q hCn hS h1 h2 k => ?_) kk
  · rw [ent_ia zK_new, zL_nw, if_pos rfl]
    refine congrArg _ (congrArg _ (congrArg _ (congrArg _ ?_)))
    funext j
    rw [zI_nw, if_pos rfl]
  · refine va_newa (atype := .int) (a0 := (len, .inl (fun _ => 0))) (ty := .int) C.1 C.2.1 (C.2.2.2.2.1 _ hw) rfl C.2.2.2.2.2.2.2.2.2.1.1 hCn.1 hCn.2.1 hS (fun q hq => Nat.le_trans C.2.2.2.2.2.2.2.2.2.2.1 hq) (fun cA => rfl) hz hlen (by show len * 4 ≤ _; omega) h1 h2 hd (fun q cA H1 hK1 hP hD hS1 => ?_)
    have e := ra_eq 0 C.2.2.2.2.2.2.2.2.2.1.1 rfl hK1
    subst e
    exact k q H1 hP hD hS1
theorem V_newz {z : Int32} {len k' n' : Nat} (hw : Cond.arrayClass .boolean ∈ lw_good) (hd : decode μ.2.1 pc = .ok (.newarray .boolean, 2)) (hz : ¬ z < 0) (hlen : z.toNatClampNeg = len) (hb : Nat.ble len 100000 = true) (hk : Nat.ble (k' + 1) k = true) (hn : Nat.ble (n' + len) n = true)
    (kk : V g μ E CX k' n' (pc + 2) ls (.ref (zN σ + 1) :: st) (nw σ 22 len)) : V g μ E CX k n pc ls (.int z :: st) σ := by
  have hb := Nat.le_of_ble_eq_true hb
  refine V_alloc (e' := .inl (g.2.2.1 22, len, .inl (fun _ => 0))) (by decide) hk hn (fun h => wv_tail h) (fun ρ => ?_) (fun p e s m args below meth c C H locs cells slots ρ lr Q hCn hS h1 h2 k => ?_) kk
  · rw [ent_za zK_new, zL_nw, if_pos rfl]
    refine congrArg _ (congrArg _ (congrArg _ (congrArg _ ?_)))
    funext j
    rw [zI_nw, if_pos rfl]
  · refine va_newa (atype := .boolean) (a0 := (len, .inl (fun _ => 0))) (ty := .boolean) C.1 C.2.1 (C.2.2.2.2.1 _ hw) rfl C.2.2.2.2.2.2.2.2.2.1.1 hCn.1 hCn.2.1 hS (fun q hq => Nat.le_trans C.2.2.2.2.2.2.2.2.2.2.1 hq) (fun cA => rfl) hz hlen (by show len * 1 ≤ _; omega) h1 h2 hd (fun q cA H1 hK1 hP hD hS1 => ?_)
    have e := ra_eq 2 C.2.2.2.2.2.2.2.2.2.1.1 rfl hK1
    subst e
    exact k q H1 hP hD hS1
theorem V_newl {z : Int32} {len k' n' : Nat} (hw : Cond.arrayClass .long ∈ lw_good) (hd : decode μ.2.1 pc = .ok (.newarray .long, 2)) (hz : ¬ z < 0) (hlen : z.toNatClampNeg = len) (hb : Nat.ble len 100000 = true) (hk : Nat.ble (k' + 1) k = true) (hn : Nat.ble (n' + len) n = true)
    (kk : V g μ E CX k' n' (pc + 2) ls (.ref (zN σ + 1) :: st) (nw σ 21 len)) : V g μ E CX k n pc ls (.int z :: st) σ := by
  have hb := Nat.le_of_ble_eq_true hb
  refine V_alloc (e' := .inl (g.2.2.1 21, len, .inr (.inl (fun _ => 0)))) (by decide) hk hn (fun h => wv_tail h) (fun ρ => ?_) (fun p e s m args below meth c C H locs cells slots ρ lr Q hCn hS h1 h2 k => ?_) kk
  · rw [ent_ja zK_new, zL_nw, if_pos rfl]
    refine congrArg _ (congrArg _ (congrArg _ (congrArg _ (congrArg _ ?_))))
    funext j
    rw [zJ_nw, if_pos rfl]
  · refine va_newa (atype := .long) (a0 := (len, .inr (.inl (fun _ => 0)))) (ty := .long) C.1 C.2.1 (C.2.2.2.2.1 _ hw) rfl C.2.2.2.2.2.2.2.2.2.1.1 hCn.1 hCn.2.1 hS (fun q hq => Nat.le_trans C.2.2.2.2.2.2.2.2.2.2.1 hq) (fun cA => rfl) hz hlen (by show len * 8 ≤ _; omega) h1 h2 hd (fun q cA H1 hK1 hP hD hS1 => ?_)
    have e := ra_eq 1 C.2.2.2.2.2.2.2.2.2.1.1 rfl hK1
    subst e
    exact k q H1 hP hD hS1
theorem V_newq {κ t0 idx : Nat} {CC : String} {z : Int32} {len k' n' : Nat} (ao : AO κ CC t0) (hao : CC ∈ lw_ao) (hcl : Cond.classLink μ.1.cls idx CC ∈ lw_good) (hd : decode μ.2.1 pc = .ok (.anewarray idx, 3)) (hz : ¬ z < 0) (hlen : z.toNatClampNeg = len) (hb : Nat.ble len 100000 = true) (hk : Nat.ble (k' + 1) k = true) (hn : Nat.ble (n' + len) n = true)
    (kk : V g μ E CX k' n' (pc + 3) ls (.ref (zN σ + 1) :: st) (nw σ κ len)) : V g μ E CX k n pc ls (.int z :: st) σ := by
  have hb := Nat.le_of_ble_eq_true hb
  refine V_alloc (e' := .inl (g.2.2.1 κ, len, .inr (.inr (.inr (.inr (fun _ => none)))))) (by have := ao.1; omega) hk hn (fun h => wv_tail h) (fun ρ => ?_) (fun p e s m args below meth c C H locs cells slots ρ lr Q hCn hS h1 h2 k => ?_) kk
  · rw [ent_qa zK_new ao.1, zL_nw, if_pos rfl]
    refine congrArg _ (congrArg _ (congrArg _ (congrArg _ (congrArg _ (congrArg _ (congrArg _ ?_))))))
    funext j
    rw [zR_nw, if_pos rfl]
    rfl
  · refine va_newq C.1 C.2.1 C.2.2.2.1 (C.2.2.2.2.1 _ hcl) (C.2.2.2.2.2.2.2.2.2.1.2.2.1 _ hao) C.2.2.2.2.2.2.2.2.2.1.1 hCn.1 hCn.2.1 hS (fun q hq => Nat.le_trans C.2.2.2.2.2.2.2.2.2.2.1 hq) hz hlen (by omega) h1 h2 hd (fun q cA H1 hK1 hP hD hS1 => ?_)
    have e := ra_eq t0 C.2.2.2.2.2.2.2.2.2.1.1 (ao.2 _) hK1
    subst e
    exact k q H1 hP hD hS1
/-! ===== ends ===== -/
theorem Pt_Qe {Q : AH → Option Value → Prop} {s : State} {H : Heap} {locs : List Loc} {cells slots : Nat} {ρ ρ0 : Nat → Nat} {n0 : Nat} {lr : Array Slot} (P : Pt1 g μ s k n ls st σ H locs cells slots ρ ρ0 n0 lr) {rv : Option Value} (hrv : ∀ v ∈ rv, wv (zN σ) v) (hQ : Q σ rv) (args : Array Value) (t : State) (ht : t.heap = H) : Qe g ρ0 n0 Q args s (.returned (rv.map (cv ρ))) t :=
  ⟨ρ, σ, rv, rfl, hQ, by rw [ht]; exact P.1, P.2.2.2.2.2.1, P.2.2.2.2.2.2.1, hrv, by rw [ht]; exact P.2.2.2.2.1⟩
theorem V_iret {Q : AH → Option Value → Prop} {X : AH → String → Prop} {x : Int32} (hr : μ.2.2.2.1 = some .int) (hd : decode μ.2.1 pc = .ok (.ireturn, 1)) (hQ : Q σ (some (.int x))) : V g μ (Em g μ Q X) CX k n pc ls [.int x] σ := by
  intro p e s m args below meth c C H locs cells slots ρ ρ0 n0 lr P
  refine W.widen (k := μ.2.2.2.2.2.cells) (n := μ.2.2.2.2.2.slots) (by have := P.2.2.1; omega) (by have := P.2.2.2.1; omega) (vx_ret ?_)
  exact W.iret C.1 C.2.1 (C.2.2.2.2.2.2.1.trans hr) (fun t ht _ => Pt_Qe P (rv := some (.int x)) (fun v hv => by cases hv; trivial) hQ args t ht) P.2.1 hd C.2.2.2.2.2.1
theorem V_zret {Q : AH → Option Value → Prop} {X : AH → String → Prop} {x : Int32} (hr : μ.2.2.2.1 = some .boolean) (hd : decode μ.2.1 pc = .ok (.ireturn, 1)) (hx : narrow .boolean (.int x) = .int x) (hQ : Q σ (some (.int x))) : V g μ (Em g μ Q X) CX k n pc ls [.int x] σ := by
  intro p e s m args below meth c C H locs cells slots ρ ρ0 n0 lr P
  refine W.widen (k := μ.2.2.2.2.2.cells) (n := μ.2.2.2.2.2.slots) (by have := P.2.2.1; omega) (by have := P.2.2.2.1; omega) (vx_ret ?_)
  exact W.zret C.1 C.2.1 (C.2.2.2.2.2.2.1.trans hr) hx (fun t ht _ => Pt_Qe P (rv := some (.int x)) (fun v hv => by cases hv; trivial) hQ args t ht) P.2.1 hd C.2.2.2.2.2.1
theorem V_lret {Q : AH → Option Value → Prop} {X : AH → String → Prop} {x : Int64} (hr : μ.2.2.2.1 = some .long) (hd : decode μ.2.1 pc = .ok (.lreturn, 1)) (hQ : Q σ (some (.long x))) : V g μ (Em g μ Q X) CX k n pc ls [.long x] σ := by
  intro p e s m args below meth c C H locs cells slots ρ ρ0 n0 lr P
  refine W.widen (k := μ.2.2.2.2.2.cells) (n := μ.2.2.2.2.2.slots) (by have := P.2.2.1; omega) (by have := P.2.2.2.1; omega) (vx_ret ?_)
  exact W.lret C.1 C.2.1 (C.2.2.2.2.2.2.1.trans hr) (fun t ht _ => Pt_Qe P (rv := some (.long x)) (fun v hv => by cases hv; trivial) hQ args t ht) P.2.1 hd C.2.2.2.2.2.1
theorem V_vret {Q : AH → Option Value → Prop} {X : AH → String → Prop} (hr : μ.2.2.2.1 = none) (hd : decode μ.2.1 pc = .ok (.return_, 1)) (hQ : Q σ none) : V g μ (Em g μ Q X) CX k n pc ls [] σ := by
  intro p e s m args below meth c C H locs cells slots ρ ρ0 n0 lr P
  refine W.widen (k := μ.2.2.2.2.2.cells) (n := μ.2.2.2.2.2.slots) (by have := P.2.2.1; omega) (by have := P.2.2.2.1; omega) (vx_ret ?_)
  exact W.vret C.1 C.2.1 (C.2.2.2.2.2.2.1.trans hr) (fun t ht _ => Pt_Qe P (rv := none) (fun v hv => by cases hv) hQ args t ht) P.2.1 hd C.2.2.2.2.2.1
theorem V_aret {Q : AH → Option Value → Prop} {X : AH → String → Prop} {a : Nat} {CC : String} (hr : μ.2.2.2.1 = some (.object CC)) (hd : decode μ.2.1 pc = .ok (.areturn, 1)) (hQ : Q σ (some (.ref a))) : V g μ (Em g μ Q X) CX k n pc ls [.ref a] σ := by
  intro p e s m args below meth c C H locs cells slots ρ ρ0 n0 lr P
  refine W.widen (k := μ.2.2.2.2.2.cells) (n := μ.2.2.2.2.2.slots) (by have := P.2.2.1; omega) (by have := P.2.2.2.1; omega) (vx_ret ?_)
  exact W.aret C.1 C.2.1 (C.2.2.2.2.2.2.1.trans hr) (Or.inl ⟨_, rfl⟩) (by by_cases h : a = 0 <;> simp [cv, h]) (fun t ht _ => Pt_Qe P (rv := some (.ref a)) (fun v hv => by cases hv; exact wv_hd P.2.2.2.2.2.2.2.2.2) hQ args t ht) P.2.1 hd C.2.2.2.2.2.1
theorem cats (ρ : Nat → Nat) (st : List Value) : ((st.map (cv ρ)).map fun v => v.category).sum = (st.map fun v => v.category).sum := by
  rw [List.map_map]
  refine congrArg _ (List.map_congr_left fun v _ => cv_cat ρ v)
/-- super() of Object -/
theorem V_objinit {idx a : Nat} (hl : Cond.methodLink μ.1.cls idx Lib.objectInit ∈ lw_good) (hi : Cond.instanceMethod Lib.objectInit ∈ lw_good) (hc : Cond.code Lib.objectInit ⟨#[0xb1]⟩ 1 none ∈ lw_good) (hd : decode μ.2.1 pc = .ok (.invokespecial idx, 3)) (h0 : a ≠ 0) (hf : Nat.ble 1 μ.2.2.2.2.2.frames = true) (hlo : Nat.ble ((st.map fun v => v.category).sum + 12) μ.2.2.2.2.2.locals = true)
    (kk : V g μ E CX k n (pc + 3) ls st σ) : V g μ E CX k n pc ls (.ref a :: st) σ := by
  refine V_step (fun _ _ h => wv_tail h) (fun p e s m args below meth c C H locs cells slots ρ lr Q hCn hlr hst _ k => ?_) kk
  rw [List.map_cons, cv_ref h0]
  refine W.objInit C.1 C.2.1 C.2.2.2.1 (C.2.2.2.2.1 _ hl) (C.2.2.2.2.1 _ hi) (C.2.2.2.2.1 _ hc) rfl (hlr.1.trans C.2.2.1.symm) rfl hd (Nat.le_of_ble_eq_true hf) ?_ k
  have := Nat.le_of_ble_eq_true hlo
  show 2 * 0 + ((st.map (cv ρ)).map fun v => v.category).sum + 12 ≤ _
  rw [cats]
  omega
end VA
end
section
/-! ===== contracts of methods ===== -/
def wsy (μ : MI) : List Cond := .code μ.1 μ.2.1 μ.2.2.1 μ.2.2.2.1 :: lw_good
def wsh (μ : MI) : List Cond := .codeWith μ.1 μ.2.1 μ.2.2.1 μ.2.2.2.1 μ.2.2.2.2.1 :: lw_good
def Pe (g : GP) (ρ : Nat → Nat) (as : List Value) (σ : AH) : Array Value → State → Prop := va_Pc (as.map (cv ρ)) (fun U => Cn g ρ σ U.heap ∧ Amb g U ∧ (∀ v ∈ as, wv (zN σ) v) ∧ g.1.stackTraces = false)
/-- it returns with Q -/
def Ct (g : GP) (μ : MI) (as : List Value) (σ : AH) (Q : AH → Option Value → Prop) : Prop := ∀ ρ, Met g.1 μ.1 (wsy μ) μ.2.2.2.2.2 (Pe g ρ as σ) (Qe g ρ (zN σ) Q) μ.2.2.2.2.2.cells μ.2.2.2.2.2.slots (bs g.2.2.2.1)
/-- it returns with Q or throws with X -/
def CtX (g : GP) (μ : MI) (as : List Value) (σ : AH) (Q : AH → Option Value → Prop) (X : AH → String → Prop) : Prop := ∀ ρ, vx_Met g.1 μ.1 (wsy μ) μ.2.2.2.2.2 (Pe g ρ as σ) (Qe g ρ (zN σ) Q) (Xe g ρ (zN σ) X) μ.2.2.2.2.2.cells μ.2.2.2.2.2.slots (bs g.2.2.2.1)
/-- the same, of a method with handlers -/
def CtH (g : GP) (μ : MI) (as : List Value) (σ : AH) (Q : AH → Option Value → Prop) : Prop := ∀ ρ, Met g.1 μ.1 (wsh μ) μ.2.2.2.2.2 (Pe g ρ as σ) (Qe g ρ (zN σ) Q) μ.2.2.2.2.2.cells μ.2.2.2.2.2.slots (bs g.2.2.2.1)
def NX : AH → String → Prop := fun _ _ => False
theorem Pe_blind (g : GP) (ρ : Nat → Nat) (as : List Value) (σ : AH) : FrameBlind (Pe g ρ as σ) := fun a U g' mk ⟨h1, h2, h3, h4⟩ => ⟨h1, h2, Amb.warm (s := U) (State.WarmedH.refl U) h3, h4⟩
theorem W.mono {p : Program} {l : Launch} {e : Env} {R : Room} {s : State} {m : MethodId} {args : Array Value} {below : List Frame} {meth : Method} {c : Code} {H : Heap} {locs : List Loc} {cells slots : Nat} {Q Q' : State → Prop} {f : JFrame} (h : ∀ t, Q t → Q' t) (k : W p l e R s m args below meth c H locs cells slots Q f) : W p l e R s m args below meth c H locs cells slots Q' f := fun T hT X => by
  obtain ⟨t, a, b⟩ := k T hT X
  exact ⟨t, a, h t b⟩
theorem Em_NX {g : GP} {μ : MI} {Q : AH → Option Value → Prop} {below : List Frame} {args : Array Value} {s : State} {ρ0 : Nat → Nat} {n0 : Nat} : ∀ t, Em g μ Q NX below args s ρ0 n0 t → MQ below (Qe g ρ0 n0 Q) args s μ.2.2.2.2.2.cells μ.2.2.2.2.2.slots (bs g.2.2.2.1) t := fun t ⟨o, h1, h2, h3⟩ => by
  rcases h3 with ⟨h3, h4⟩ | ⟨q, h3, E, ce, L, ⟨ρ, σ, hX, _⟩, _⟩
  · exact ⟨o, h1, h2, h3, h4⟩
  · exact hX.elim
/-- what is decided of a method by its numbers -/
def MOk (μ : MI) : Prop := plainName μ.1.cls = true ∧ (Nat.ble (lg_sl (List.replicate 0 Value.null)).length 0 = true)
theorem lg_sl_cv (ρ : Nat → Nat) (as : List Value) : (lg_sl (as.map (cv ρ))).length = (lg_sl as).length := by
  unfold lg_sl
  rw [List.length_flatMap, List.length_flatMap, List.map_map]
  refine congrArg _ (List.map_congr_left fun v _ => ?_)
  simp only [Function.comp, cv_cat]
  split <;> rfl
theorem lv_args_cv (ρ : Nat → Nat) : ∀ (as : List Value) (i : Nat), lv_args i (as.map (cv ρ)) = lcv ρ (lv_args i as)
  | [], _ => rfl
  | v :: t, i => by
    simp only [List.map_cons, lv_args, cv_cat, lcv]
    rw [lv_args_cv ρ t]
    rfl
theorem lv_args_wv {N : Nat} : ∀ (as : List Value) (i : Nat), (∀ v ∈ as, wv N v) → ∀ q ∈ lv_args i as, wv N q.2
  | [], _, _, q, h => by cases h
  | v :: t, i, h, q, hq => by
    rcases List.mem_cons.mp hq with rfl | hq
    · exact h v List.mem_cons_self
    · exact lv_args_wv t _ (fun x hx => h x (List.mem_cons_of_mem _ hx)) q hq
/-- from a method's entry -/
theorem V_enter {g : GP} {μ : MI} {E : ET} {as : List Value} {σ : AH} (hlen : Nat.ble (lg_sl as).length μ.2.2.1 = true)
    (kk : V g μ E CT μ.2.2.2.2.2.cells μ.2.2.2.2.2.slots 0 (lv_args 0 as) [] σ) {p : Program} {e : Env} {s : State} {m : MethodId} {args : Array Value} {below : List Frame} {meth : Method} {c : Code} {ρ : Nat → Nat}
    (C : Cx g μ CT p s m args meth c) (hP : Cn g ρ σ s.heap) (ha : args = (as.map (cv ρ)).toArray) (hw : ∀ v ∈ as, wv (zN σ) v) :
    W p g.1 e μ.2.2.2.2.2 s m args below meth c s.heap [] 0 0 (E below args s ρ (zN σ)) (entryFrame m args μ.2.2.1) := by
  have hl := lv_entry (as.map (cv ρ)) (n := μ.2.2.1) (by rw [lg_sl_cv]; exact Nat.le_of_ble_eq_true hlen)
  rw [ha, lg_entry_eq, ← ha]
  generalize (lg_sl (as.map (cv ρ)) ++ List.replicate (μ.2.2.1 - (lg_sl (as.map (cv ρ))).length) Slot.unset).toArray = lr at hl ⊢
  rw [lv_args_cv] at hl
  exact kk p e s m args below meth c C s.heap [] 0 0 ρ ρ (zN σ) lr ⟨hP, fun _ h => (by cases h), by omega, by omega, Nat.le_refl _, fun _ _ _ => rfl, Nat.le_refl _, hl, lv_args_wv as 0 hw, fun _ h => (by cases h)⟩
theorem CtX_of {g : GP} {μ : MI} {as : List Value} {σ : AH} {Q : AH → Option Value → Prop} {X : AH → String → Prop} (hy : plainName μ.1.cls = true) (hh : μ.2.2.2.2.1 = []) (hlen : Nat.ble (lg_sl as).length μ.2.2.1 = true)
    (kk : V g μ (Em g μ Q X) CT μ.2.2.2.2.2.cells μ.2.2.2.2.2.slots 0 (lv_args 0 as) [] σ) : CtX g μ as σ Q X := by
  intro ρ
  refine vx_ofW (cc := μ.2.1) (maxL := μ.2.2.1) (ret := μ.2.2.2.1) hy rfl ?_
  intro p e s m args below meth c s₁ B hml ht hv
  obtain ⟨ha, hP, hA, hw, hst⟩ := hv
  have hts := atoms_spec (ws := wsy μ) B.pre
  exact V_enter (E := Em g μ Q X) hlen kk ⟨B.exec, B.bytes, hml, findClass_of_methodNamed B.named, fun w hw => hts w (List.mem_cons_of_mem _ hw), B.notSynchronized, B.returns, (name_of_methodNamed B.named B.method).1, by
    rw [hh]
    cases h9 : c.exceptionTable.toList with
    | nil => rfl
    | cons x t => exact (ht x (by rw [h9]; exact List.mem_cons_self)).elim, hA, hP.2.2.1, hP.2.2.2.1, hst, trivial⟩ hP ha hw
theorem Ct_of {g : GP} {μ : MI} {as : List Value} {σ : AH} {Q : AH → Option Value → Prop} (hy : plainName μ.1.cls = true) (hh : μ.2.2.2.2.1 = []) (hlen : Nat.ble (lg_sl as).length μ.2.2.1 = true)
    (kk : V g μ (Em g μ Q NX) CT μ.2.2.2.2.2.cells μ.2.2.2.2.2.slots 0 (lv_args 0 as) [] σ) : Ct g μ as σ Q := by
  intro ρ
  refine Met.ofW (cc := μ.2.1) (maxL := μ.2.2.1) (ret := μ.2.2.2.1) hy rfl ?_
  intro p e s m args below meth c s₁ B hml hv
  obtain ⟨ha, hP, hA, hw, hst⟩ := hv
  have hts := atoms_spec (ws := wsy μ) B.pre
  refine W.mono Em_NX (V_enter (E := Em g μ Q NX) hlen kk ⟨B.exec, B.bytes, hml, findClass_of_methodNamed B.named, fun w hw => hts w (List.mem_cons_of_mem _ hw), B.notSynchronized, B.returns, (name_of_methodNamed B.named B.method).1, ?_, hA, hP.2.2.1, hP.2.2.2.1, hst, trivial⟩ hP ha hw)
  rw [hh]
  obtain ⟨meth9, c9, h1, h2, -, -, -, -, h7, -⟩ := Cond.code_spec B.named (hts _ List.mem_cons_self)
  cases Option.some.inj (h1.symm.trans B.method)
  cases Option.some.inj (h2.symm.trans (Stand.of_body B).code)
  rw [Array.isEmpty_iff.mp h7]
  rfl
theorem CtH_of {g : GP} {μ : MI} {as : List Value} {σ : AH} {Q : AH → Option Value → Prop} (hy : plainName μ.1.cls = true) (hlen : Nat.ble (lg_sl as).length μ.2.2.1 = true)
    (kk : V g μ (Em g μ Q NX) CT μ.2.2.2.2.2.cells μ.2.2.2.2.2.slots 0 (lv_args 0 as) [] σ) : CtH g μ as σ Q := by
  intro ρ
  refine MetFree.of_bodyS (code := μ.2.1) (maxLocals := μ.2.2.1) (ret := μ.2.2.2.1) hy ?_ ?_
  · intro args s m h hn
    obtain ⟨m9, meth, c, hn9, h1, h2, h3, h4, -, h5, h6, -⟩ := Cond.codeWith_spec (atoms_spec (ws := wsh μ) h _ List.mem_cons_self)
    cases hn.symm.trans hn9
    exact ⟨meth, c, h1, h2, h3, h4, h5, h6⟩
  · intro p e s m args below meth c s₁ B hml hv _
    obtain ⟨ha, hP, hA, hw, hst⟩ := hv
    have hts := atoms_spec (ws := wsh μ) B.pre
    have hh0 : s₁.heap = s.heap := by rw [B.state]; rfl
    have K := W.mono Em_NX (V_enter (E := Em g μ Q NX) (e := e) (below := below) hlen kk ⟨B.exec, B.bytes, hml, findClass_of_methodNamed B.named, fun w hw => hts w (List.mem_cons_of_mem _ hw), B.notSynchronized, B.returns, (name_of_methodNamed B.named B.method).1, vx_table (x := μ.1) B (hts _ List.mem_cons_self), hA, hP.2.2.1, hP.2.2.2.1, hst, trivial⟩ hP ha hw)
    obtain ⟨t, a1, o, b1, b2, b3⟩ := K s₁ hh0 (Stand.of_body B)
    exact ⟨t, o, a1, b1, b2, b3⟩
/-! ===== behind a call ===== -/
section VC
variable {g : GP} {μ z : MI} {E : ET} {CX : State → Array Value → Prop} {k n k' n' pc : Nat} {ls : List (Nat × Value)} {st as : List Value} {σ : AH} {Q : AH → Option Value → Prop} {X : AH → String → Prop}
/-- the numbers of a call: room for frames, locals, cells, slots -/
def RF (μ z : MI) (k n k' n' : Nat) (st : List Value) : Prop := Nat.ble (z.2.2.2.2.2.frames + 1) μ.2.2.2.2.2.frames = true ∧ Nat.ble (8 + (z.2.2.1 + 11) + z.2.2.2.2.2.locals) μ.2.2.2.2.2.locals = true ∧ Nat.ble (z.2.2.2.2.2.cells + k') k = true ∧ Nat.ble (z.2.2.2.2.2.slots + n') n = true ∧ Nat.ble (st.map fun v => v.category).sum 8 = true
theorem V_back {p : Program} {s : State} {m : MethodId} {args : Array Value} {meth : Method} {c : Code} (C : Cx g μ CX p s m args meth c) {H : Heap} {locs : List Loc} {cells slots : Nat} {ρ ρ0 : Nat → Nat} {n0 : Nat} {lr : Array Slot} {st0 : List Value} (P : Pt1 g μ s k n ls st0 σ H locs cells slots ρ ρ0 n0 lr) (hst : ∀ v ∈ st, wv (zN σ) v) {mc ms : Nat} (hk : mc + k' ≤ k) (hn : ms + n' ≤ n)
    {a : Array Value} {v : Option Value} {st₀ t T' : State} {L : List Loc} (h0 : st₀.heap = H) (hL : ∀ q ∈ L, bs g.2.2.2.1 q.base) (e1 : T'.heap = t.heap) (hq : Qe g ρ (zN σ) Q a st₀ (.returned v) t) :
    ∃ (ρ' : Nat → Nat) (σ' : AH) (rv : Option Value), v = rv.map (cv ρ') ∧ Q σ' rv ∧ Pt1 g μ s k' n' ls (rv.toList ++ st) σ' T'.heap (locs ++ L) (cells + mc) (slots + ms) ρ' ρ0 n0 lr ∧ (v.toList ++ st.map (cv ρ)) = (rv.toList ++ st).map (cv ρ') := by
  obtain ⟨ρ', σ', rv, hv, hQ, hC, hag, hn1, hrv, hsz⟩ := hq
  obtain ⟨p1, p2, p3, p4, p5, p6, p7, p8, p9, p10⟩ := P
  cases hv
  refine ⟨ρ', σ', rv, rfl, hQ, ⟨by rw [e1]; exact hC, fun q h => ?_, by omega, by omega, by rw [e1]; rw [h0] at hsz; omega, fun x h1 h2 => ?_, by omega, ?_, fun q h => wv_mono hn1 (p9 q h), fun x h => ?_⟩, ?_⟩
  · rcases List.mem_append.mp h with h | h
    · exact p2 q h
    · exact hL q h
  · rw [hag x h1 (by omega)]; exact p6 x h1 h2
  · rw [lcv_agree hag p9]; exact p8
  · rcases List.mem_append.mp h with h | h
    · exact hrv x (Option.mem_toList.mp h)
    · exact wv_mono hn1 (hst x h)
  · rw [List.map_append, st_agree hag hst]
    cases rv <;> rfl
theorem V_ret {p : Program} {e : Env} {s : State} {m : MethodId} {args : Array Value} {below : List Frame} {meth : Method} {c : Code} (C : Cx g μ CX p s m args meth c) {H : Heap} {locs : List Loc} {cells slots : Nat} {ρ ρ0 : Nat → Nat} {n0 : Nat} {lr : Array Slot} {st0 : List Value} (P : Pt1 g μ s k n ls st0 σ H locs cells slots ρ ρ0 n0 lr) (hst : ∀ v ∈ st, wv (zN σ) v) {mc ms : Nat} (hk : mc + k' ≤ k) (hn : ms + n' ≤ n)
    {a : Array Value} (hr : va_Run p g.1 e μ.2.2.2.2.2 s m args below meth c H locs cells slots mc ms (F0 m pc lr (st0.map (cv ρ))) (st.map (cv ρ)) (Qe g ρ (zN σ) Q a) (bs g.2.2.2.1))
    (kk : ∀ σ' rv, Q σ' rv → V g μ E CX k' n' (pc + 3) ls (rv.toList ++ st) σ') : W p g.1 e μ.2.2.2.2.2 s m args below meth c H locs cells slots (E below args s ρ0 n0) (F0 m pc lr (st0.map (cv ρ))) := by
  intro T hT X
  obtain ⟨v, st₀, t, T', L, h0, X', hL, e1, e2, hq, go⟩ := hr T hT X
  obtain ⟨ρ', σ', rv, hv, hQ, P', he⟩ := V_back C P hst hk hn h0 hL e1 hq
  obtain ⟨t2, a1, b1⟩ := kk σ' rv hQ p e s m args below meth c C T'.heap (locs ++ L) _ _ ρ' ρ0 n0 lr P' T' rfl X'
  refine ⟨t2, go t2 ?_, b1⟩
  rw [he]
  exact a1
theorem V_retX {p : Program} {e : Env} {s : State} {m : MethodId} {args : Array Value} {below : List Frame} {meth : Method} {c : Code} (C : Cx g μ CX p s m args meth c) {H : Heap} {locs : List Loc} {cells slots : Nat} {ρ ρ0 : Nat → Nat} {n0 : Nat} {lr : Array Slot} {st0 : List Value} (P : Pt1 g μ s k n ls st0 σ H locs cells slots ρ ρ0 n0 lr) (hst : ∀ v ∈ st, wv (zN σ) v) {mc ms : Nat} (hk : mc + k' ≤ k) (hn : ms + n' ≤ n)
    {a : Array Value} (hr : vx_Run p g.1 e μ.2.2.2.2.2 s m args below meth c H locs cells slots mc ms (F0 m pc lr (st0.map (cv ρ))) (st.map (cv ρ)) (Qe g ρ (zN σ) Q a) (Xe g ρ (zN σ) X) (bs g.2.2.2.1))
    (kk : ∀ σ' rv, Q σ' rv → V g μ E CX k' n' (pc + 3) ls (rv.toList ++ st) σ')
    (kx : ∀ (σ' : AH) (Ex : String) (q : Addr) (ce : Cell) (H1 : Heap) (locs1 : List Loc) (ρ' : Nat → Nat), X σ' Ex → Pt1 g μ s k' n' ls st σ' H1 locs1 (cells + mc) (slots + ms) ρ' ρ0 n0 lr → H1[q]? = some ce → ce.vm = .none → s.vm.findClass Ex = some ce.cls → vx_W p g.1 e μ.2.2.2.2.2 s m args below meth c H1 locs1 (cells + mc) (slots + ms) (E below args s ρ0 n0) (F0 m pc lr (st.map (cv ρ'))) q) : W p g.1 e μ.2.2.2.2.2 s m args below meth c H locs cells slots (E below args s ρ0 n0) (F0 m pc lr (st0.map (cv ρ))) := by
  intro T hT X
  rcases hr T hT X with ⟨v, st₀, t, T', L, h0, X', hL, e1, e2, hq, go⟩ | ⟨q, st₀, t, T', L, Ex, ce, h0, X', hL, e1, e2, ⟨ρ', σ', hX, hC, hag, hn1, hsz⟩, hce, hcv, hcl, st1⟩
  · obtain ⟨ρ', σ', rv, hv, hQ, P', he⟩ := V_back C P hst hk hn h0 hL e1 hq
    obtain ⟨t2, a1, b1⟩ := kk σ' rv hQ p e s m args below meth c C T'.heap (locs ++ L) _ _ ρ' ρ0 n0 lr P' T' rfl X'
    refine ⟨t2, go t2 ?_, b1⟩
    rw [he]
    exact a1
  · obtain ⟨p1, p2, p3, p4, p5, p6, p7, p8, p9, p10⟩ := P
    have P' : Pt1 g μ s k' n' ls st σ' T'.heap (locs ++ L) (cells + mc) (slots + ms) ρ' ρ0 n0 lr := by
      refine ⟨by rw [e1]; exact hC, fun q h => ?_, by omega, by omega, by rw [e1]; rw [h0] at hsz; omega, fun x h1 h2 => ?_, by omega, ?_, fun q h => wv_mono hn1 (p9 q h), fun x h => wv_mono hn1 (hst x h)⟩
      · rcases List.mem_append.mp h with h | h
        · exact p2 q h
        · exact hL q h
      · rw [hag x h1 (by omega)]; exact p6 x h1 h2
      · rw [lcv_agree hag p9]; exact p8
    obtain ⟨t2, a1, b1⟩ := kx σ' Ex q ce T'.heap (locs ++ L) ρ' hX P' (by rw [e1]; exact hce) hcv hcl T' rfl X'
    rw [st_agree hag hst] at a1
    exact ⟨t2, st1.trans a1, b1⟩
/-! ===== the words of a call ===== -/
def NoH (y : MethodName) : Prop := y.cls ≠ "java/lang/invoke/MethodHandle" ∧ y.cls ≠ "java/lang/invoke/VarHandle"
def Ar (y : MethodName) (n : Nat) : Prop := NoH y ∧ (parseMethodDescriptor y.desc).map (fun d => d.parameters.length) = some n
/-- a method's own words: its code, its class initialised -/
def MW (z : MI) : Prop := Cond.code z.1 z.2.1 z.2.2.1 z.2.2.2.1 ∈ lw_good ∧ Cond.initialized z.1.cls ∈ lw_good
theorem wsy_good (h : MW z) : GoodIn lw_good (wsy z) := lw_goodIn _ fun w hw => (List.mem_cons.mp hw).elim (fun e => e ▸ h.1) id
theorem cw_of {R : Room} {s : State} {args : Array Value} {own : String} {idx m : Nat} (hts : ∀ w ∈ lw_good, w.before args s = true) (hm : MW z) (hl : Cond.methodLink own idx z.1 ∈ lw_good) (ha : Ar z.1 m) (hf : z.2.2.2.2.2.frames + 1 ≤ R.frames) (hlo : 8 + (z.2.2.1 + 11) + z.2.2.2.2.2.locals ≤ R.locals) :
    CallB R s args own idx z.1 z.2.1 z.2.2.1 z.2.2.2.1 (wsy z) z.2.2.2.2.2 z.2.2.2.2.2.cells z.2.2.2.2.2.slots m :=
  callB_of m hts (wsy_good hm) rfl rfl rfl (hts _ hm.2) (hts _ hl) ⟨ha.1.1, ha.1.2, ha.2⟩ ⟨hf, hlo⟩
theorem cn_of {R : Room} {s : State} {args : Array Value} {own host : String} {idx m : Nat} (hts : ∀ w ∈ lw_good, w.before args s = true) (hA : Amb g s) (hm : MW z) (hl : (own, idx, z.1, host) ∈ lw_nest) (ha : Ar z.1 m) (hf : z.2.2.2.2.2.frames + 1 ≤ R.frames) (hlo : 8 + (z.2.2.1 + 11) + z.2.2.2.2.2.locals ≤ R.locals) :
    va_CN R s args own idx z.1 host z.2.1 z.2.2.1 z.2.2.2.1 (wsy z) z.2.2.2.2.2 z.2.2.2.2.2.cells z.2.2.2.2.2.slots m :=
  va_cnB m hts (wsy_good hm) rfl rfl rfl (hA.2.1 _ hl) (hts _ hm.2) ⟨ha.1.1, ha.1.2, ha.2⟩ ⟨hf, hlo⟩
theorem pe_of {p : Program} {s : State} {m : MethodId} {args : Array Value} {meth : Method} {c : Code} (C : Cx g μ CX p s m args meth c) {ρ : Nat → Nat} {H : Heap} (hC : Cn g ρ σ H) (hw : ∀ v ∈ as, wv (zN σ) v) : PreS s H (Pe g ρ as σ) (as.map (cv ρ)) :=
  ⟨Pe_blind g ρ as σ, fun U hU hW => ⟨rfl, by rw [hU]; exact hC, Amb.warm hW C.2.2.2.2.2.2.2.2.2.1, hw, C.2.2.2.2.2.2.2.2.2.2.2.2.1⟩⟩
theorem pv_of {p : Program} {s : State} {m : MethodId} {args : Array Value} {meth : Method} {c : Code} {ci a : Nat} {CC : String} {T : u_T} (C : Cx g μ CX p s m args meth c) {ρ : Nat → Nat} {H : Heap} (hC : Cn g ρ σ H) (ko : KO ci CC T) (h0 : a ≠ 0) (hK : zK σ a = ci) (hw : ∀ v ∈ .ref a :: as, wv (zN σ) v) : PreV s H CC (ρ a) (Pe g ρ (.ref a :: as) σ) (as.map (cv ρ)) := by
  refine ⟨Pe_blind g ρ _ σ, va_recv C.2.2.2.2.2.2.2.2.2.1.1 hC.1 (ci := ci) (q0 := ps σ a) ko.1 (by rw [wl_get h0 (ne9 hK (by have := ko.2.2.2.2; omega)) (wv_hd hw), ent_obj hK ko.2.2.2.2]), fun U hU hW => ⟨?_, by rw [hU]; exact hC, Amb.warm hW C.2.2.2.2.2.2.2.2.2.1, hw, C.2.2.2.2.2.2.2.2.2.2.2.2.1⟩⟩
  rw [List.map_cons, cv_ref h0]
theorem wv_args {N : Nat} {as st : List Value} (h : ∀ v ∈ as.reverse ++ st, wv N v) : (∀ v ∈ as, wv N v) ∧ ∀ v ∈ st, wv N v :=
  ⟨fun v hv => h v (List.mem_append_left _ (List.mem_reverse.mpr hv)), fun v hv => h v (List.mem_append_right _ hv)⟩
theorem wv_argsV {N a : Nat} {as st : List Value} (h : ∀ v ∈ as.reverse ++ .ref a :: st, wv N v) : (∀ v ∈ .ref a :: as, wv N v) ∧ ∀ v ∈ st, wv N v := by
  obtain ⟨h1, h2⟩ := wv_args h
  exact ⟨wv_cons (wv_hd h2) h1, wv_tail h2⟩
/-- a static call -/
theorem V_callS {idx m : Nat} (hc : Ct g z as σ Q) (hm : MW z) (hs : Cond.static z.1 ∈ lw_good) (hl : Cond.methodLink μ.1.cls idx z.1 ∈ lw_good) (ha : Ar z.1 as.length) (rf : RF μ z k n k' n' st) (hd : decode μ.2.1 pc = .ok (.invokestatic idx, 3))
    (kk : ∀ σ' rv, Q σ' rv → V g μ E CX k' n' (pc + 3) ls (rv.toList ++ st) σ') : V g μ E CX k n pc ls (as.reverse ++ st) σ := by
  intro p e s m args below meth c C H locs cells slots ρ ρ0 n0 lr P
  obtain ⟨w1, w2⟩ := wv_args P.2.2.2.2.2.2.2.2.2
  have r1 := Nat.le_of_ble_eq_true rf.1
  have r2 := Nat.le_of_ble_eq_true rf.2.1
  have r3 := Nat.le_of_ble_eq_true rf.2.2.1
  have r4 := Nat.le_of_ble_eq_true rf.2.2.2.1
  have r5 := Nat.le_of_ble_eq_true rf.2.2.2.2
  have q1 := P.2.2.1
  have q2 := P.2.2.2.1
  refine V_ret C P w2 r3 r4 (va_runS (As := as.map (cv ρ)) ⟨C.1, C.2.1, C.2.2.1, C.2.2.2.1, C.2.2.2.2.1⟩ (hc ρ) ⟨cw_of C.2.2.2.2.1 hm hl ha r1 r2, C.2.2.2.2.1 _ hs⟩ (pe_of C P.1 w1) rfl (by simp) P.2.2.2.2.2.2.2.1.1 (by simp [F0]) ?_ hd ⟨by omega, by omega⟩) kk
  exact lv_room (by rw [cats]; exact r5)
end VC
end
section
/-! ===== more calls ===== -/
section VD
variable {g : GP} {μ z : MI} {E : ET} {CX : State → Array Value → Prop} {k n k' n' pc : Nat} {ls : List (Nat × Value)} {st as : List Value} {σ : AH} {Q : AH → Option Value → Prop} {X : AH → String → Prop}
/-- a virtual call of a method of the receiver's own class -/
theorem V_callV {idx ci a : Nat} {CC : String} {T : u_T} (hc : Ct g z (.ref a :: as) σ Q) (hm : MW z) (ko : KO ci CC T) (hCC : z.1.cls = CC) (hi : Cond.instanceMethod z.1 ∈ lw_good) (hs : Cond.selects CC z.1 z.1 ∈ lw_good) (hl : Cond.methodLink μ.1.cls idx z.1 ∈ lw_good) (ha : Ar z.1 as.length) (rf : RF μ z k n k' n' st) (hd : decode μ.2.1 pc = .ok (.invokevirtual idx, 3)) (h0 : a ≠ 0) (hK : zK σ a = ci)
    (kk : ∀ σ' rv, Q σ' rv → V g μ E CX k' n' (pc + 3) ls (rv.toList ++ st) σ') : V g μ E CX k n pc ls (as.reverse ++ .ref a :: st) σ := by
  intro p e s m args below meth c C H locs cells slots ρ ρ0 n0 lr P
  obtain ⟨w1, w2⟩ := wv_argsV P.2.2.2.2.2.2.2.2.2
  have r1 := Nat.le_of_ble_eq_true rf.1
  have r2 := Nat.le_of_ble_eq_true rf.2.1
  have r3 := Nat.le_of_ble_eq_true rf.2.2.1
  have r4 := Nat.le_of_ble_eq_true rf.2.2.2.1
  have r5 := Nat.le_of_ble_eq_true rf.2.2.2.2
  have q1 := P.2.2.1
  have q2 := P.2.2.2.1
  have hM := hc ρ
  refine V_ret C P w2 r3 r4 (a := (Value.ref (ρ a) :: as.map (cv ρ)).toArray) (va_runV (C := CC) (b := ρ a) (As := as.map (cv ρ)) ⟨C.1, C.2.1, C.2.2.1, C.2.2.2.1, C.2.2.2.2.1⟩ hM ⟨cw_of C.2.2.2.2.1 hm hl ha r1 r2, C.2.2.2.2.1 _ hi, C.2.2.2.2.1 _ hs⟩ (pv_of C P.1 ko h0 hK w1) rfl (by simp) P.2.2.2.2.2.2.2.1.1 (by simp [F0, cv_ref h0]) ?_ hd ⟨by omega, by omega⟩) kk
  exact lv_room (by rw [cats]; exact r5)
/-- a constructor -/
theorem V_callI {idx a : Nat} (hc : Ct g z (.ref a :: as) σ Q) (hm : MW z) (hr : z.2.2.2.1 = none) (hn : z.1.name = "<init>") (hi : Cond.instanceMethod z.1 ∈ lw_good) (hl : Cond.methodLink μ.1.cls idx z.1 ∈ lw_good) (ha : Ar z.1 as.length) (rf : RF μ z k n k' n' st) (hd : decode μ.2.1 pc = .ok (.invokespecial idx, 3)) (h0 : a ≠ 0)
    (kk : ∀ σ' rv, Q σ' rv → V g μ E CX k' n' (pc + 3) ls (rv.toList ++ st) σ') : V g μ E CX k n pc ls (as.reverse ++ .ref a :: st) σ := by
  intro p e s m args below meth c C H locs cells slots ρ ρ0 n0 lr P
  obtain ⟨w1, w2⟩ := wv_argsV P.2.2.2.2.2.2.2.2.2
  have r1 := Nat.le_of_ble_eq_true rf.1
  have r2 := Nat.le_of_ble_eq_true rf.2.1
  have r3 := Nat.le_of_ble_eq_true rf.2.2.1
  have r4 := Nat.le_of_ble_eq_true rf.2.2.2.1
  have r5 := Nat.le_of_ble_eq_true rf.2.2.2.2
  have q1 := P.2.2.1
  have q2 := P.2.2.2.1
  have hM := hc ρ
  have hp := pe_of C P.1 w1
  rw [List.map_cons, cv_ref h0] at hp
  have hb := cw_of C.2.2.2.2.1 hm hl ha r1 r2
  rw [hr] at hb
  refine V_ret C P w2 r3 r4 (a := (Value.ref (ρ a) :: as.map (cv ρ)).toArray) (va_runI (b := ρ a) (As := as.map (cv ρ)) ⟨C.1, C.2.1, C.2.2.1, C.2.2.2.1, C.2.2.2.2.1⟩ hM ⟨hb, hn, C.2.2.2.2.1 _ hi⟩ hp rfl (by simp) P.2.2.2.2.2.2.2.1.1 (by simp [F0, cv_ref h0]) ?_ hd ⟨by omega, by omega⟩) kk
  exact lv_room (by rw [cats]; exact r5)
/-- a nest mate's private constructor -/
theorem V_callIN {idx a : Nat} {host : String} (hc : Ct g z (.ref a :: as) σ Q) (hm : MW z) (hr : z.2.2.2.1 = none) (hn : z.1.name = "<init>") (hi : Cond.instanceMethod z.1 ∈ lw_good) (hl : (μ.1.cls, idx, z.1, host) ∈ lw_nest) (ha : Ar z.1 as.length) (rf : RF μ z k n k' n' st) (hd : decode μ.2.1 pc = .ok (.invokespecial idx, 3)) (h0 : a ≠ 0)
    (kk : ∀ σ' rv, Q σ' rv → V g μ E CX k' n' (pc + 3) ls (rv.toList ++ st) σ') : V g μ E CX k n pc ls (as.reverse ++ .ref a :: st) σ := by
  intro p e s m args below meth c C H locs cells slots ρ ρ0 n0 lr P
  obtain ⟨w1, w2⟩ := wv_argsV P.2.2.2.2.2.2.2.2.2
  have r1 := Nat.le_of_ble_eq_true rf.1
  have r2 := Nat.le_of_ble_eq_true rf.2.1
  have r3 := Nat.le_of_ble_eq_true rf.2.2.1
  have r4 := Nat.le_of_ble_eq_true rf.2.2.2.1
  have r5 := Nat.le_of_ble_eq_true rf.2.2.2.2
  have q1 := P.2.2.1
  have q2 := P.2.2.2.1
  have hM := hc ρ
  have hp := pe_of C P.1 w1
  rw [List.map_cons, cv_ref h0] at hp
  have hb := cn_of C.2.2.2.2.1 C.2.2.2.2.2.2.2.2.2.1 hm hl ha r1 r2 (args := args)
  rw [hr] at hb
  refine V_ret C P w2 r3 r4 (a := (Value.ref (ρ a) :: as.map (cv ρ)).toArray) (va_runIN (b := ρ a) (As := as.map (cv ρ)) ⟨C.1, C.2.1, C.2.2.1, C.2.2.2.1, C.2.2.2.2.1⟩ hM ⟨hb, hn, C.2.2.2.2.1 _ hi⟩ hp rfl (by simp) P.2.2.2.2.2.2.2.1.1 (by simp [F0, cv_ref h0]) ?_ hd ⟨by omega, by omega⟩) kk
  exact lv_room (by rw [cats]; exact r5)
/-- a nest mate's private static method -/
theorem V_callSN {idx : Nat} {host : String} (hc : Ct g z as σ Q) (hm : MW z) (hs : Cond.static z.1 ∈ lw_good) (hl : (μ.1.cls, idx, z.1, host) ∈ lw_nest) (ha : Ar z.1 as.length) (rf : RF μ z k n k' n' st) (hd : decode μ.2.1 pc = .ok (.invokestatic idx, 3))
    (kk : ∀ σ' rv, Q σ' rv → V g μ E CX k' n' (pc + 3) ls (rv.toList ++ st) σ') : V g μ E CX k n pc ls (as.reverse ++ st) σ := by
  intro p e s m args below meth c C H locs cells slots ρ ρ0 n0 lr P
  obtain ⟨w1, w2⟩ := wv_args P.2.2.2.2.2.2.2.2.2
  have r1 := Nat.le_of_ble_eq_true rf.1
  have r2 := Nat.le_of_ble_eq_true rf.2.1
  have r3 := Nat.le_of_ble_eq_true rf.2.2.1
  have r4 := Nat.le_of_ble_eq_true rf.2.2.2.1
  have r5 := Nat.le_of_ble_eq_true rf.2.2.2.2
  have q1 := P.2.2.1
  have q2 := P.2.2.2.1
  refine V_ret C P w2 r3 r4 (va_runSN (As := as.map (cv ρ)) ⟨C.1, C.2.1, C.2.2.1, C.2.2.2.1, C.2.2.2.2.1⟩ (hc ρ) ⟨cn_of C.2.2.2.2.1 C.2.2.2.2.2.2.2.2.2.1 hm hl ha r1 r2, C.2.2.2.2.1 _ hs, trivial⟩ (pe_of C P.1 w1) rfl (by simp) P.2.2.2.2.2.2.2.1.1 (by simp [F0]) ?_ hd ⟨by omega, by omega⟩) kk
  exact lv_room (by rw [cats]; exact r5)
/-- a static call of a method with handlers -/
def MWh (z : MI) : Prop := Cond.codeWith z.1 z.2.1 z.2.2.1 z.2.2.2.1 z.2.2.2.2.1 ∈ lw_good ∧ Cond.initialized z.1.cls ∈ lw_good
theorem V_callSH {idx : Nat} (hc : CtH g z as σ Q) (hm : MWh z) (hs : Cond.static z.1 ∈ lw_good) (hl : Cond.methodLink μ.1.cls idx z.1 ∈ lw_good) (ha : Ar z.1 as.length) (rf : RF μ z k n k' n' st) (hd : decode μ.2.1 pc = .ok (.invokestatic idx, 3))
    (kk : ∀ σ' rv, Q σ' rv → V g μ E CX k' n' (pc + 3) ls (rv.toList ++ st) σ') : V g μ E CX k n pc ls (as.reverse ++ st) σ := by
  intro p e s m args below meth c C H locs cells slots ρ ρ0 n0 lr P
  obtain ⟨w1, w2⟩ := wv_args P.2.2.2.2.2.2.2.2.2
  have r1 := Nat.le_of_ble_eq_true rf.1
  have r2 := Nat.le_of_ble_eq_true rf.2.1
  have r3 := Nat.le_of_ble_eq_true rf.2.2.1
  have r4 := Nat.le_of_ble_eq_true rf.2.2.2.1
  have r5 := Nat.le_of_ble_eq_true rf.2.2.2.2
  have q1 := P.2.2.1
  have q2 := P.2.2.2.1
  have hG : GoodIn lw_good (va_wsS μ.1.cls idx z.1 (wsh z)) := lw_goodIn _ fun w hw => by
    rcases List.mem_append.mp hw with hw | hw
    · simp only [List.mem_cons, List.not_mem_nil, or_false] at hw
      rcases hw with rfl | rfl | rfl
      · exact hl
      · exact hs
      · exact hm.2
    · rcases List.mem_cons.mp hw with rfl | hw
      · exact hm.1
      · exact hw
  refine V_ret C P w2 r3 r4 (vx_runSW (As := as.map (cv ρ)) ⟨C.1, C.2.1, C.2.2.1, C.2.2.2.1, C.2.2.2.2.1⟩ (hc ρ) (vx_cwSW as.length C.2.2.2.2.1 hG rfl rfl rfl ⟨ha.1.1, ha.1.2, ha.2⟩ ⟨r1, r2⟩) (pe_of C P.1 w1) rfl (by simp) P.2.2.2.2.2.2.2.1.1 (by simp [F0]) ?_ hd ⟨by omega, by omega⟩) kk
  exact lv_room (by rw [cats]; exact r5)
/-- Math.max, Math.min of ints, Math.max of longs -/
theorem V_max {idx : Nat} {x y : Int32} (hl : Cond.methodLink μ.1.cls idx Lib.Math.max.name ∈ lw_good) (hs : Cond.static Lib.Math.max.name ∈ lw_good) (hi : Cond.initialized "java/lang/Math" ∈ lw_good) (hc : Cond.code Lib.Math.max.name Lib.Math.max.code 2 (some .int) ∈ lw_good) (hd : decode μ.2.1 pc = .ok (.invokestatic idx, 3)) (hf : Nat.ble 1 μ.2.2.2.2.2.frames = true) (hlo : Nat.ble ((st.map fun v => v.category).sum + 13) μ.2.2.2.2.2.locals = true)
    (kk : V g μ E CX k n (pc + 3) ls (.int (if x < y then y else x) :: st) σ) : V g μ E CX k n pc ls (.int y :: .int x :: st) σ :=
  V_step (fun _ _ h => wv_cons wv_i (wv_tail2 h)) (fun p e s m args below meth c C H locs cells slots ρ lr Q hCn hlr hst hr k => va_mmax C.1 C.2.1 (C.2.2.1.trans hlr.1.symm) C.2.2.2.1 (C.2.2.2.2.1 _ hl) (C.2.2.2.2.1 _ hs) (C.2.2.2.2.1 _ hi) (C.2.2.2.2.1 _ hc) (Nat.le_of_ble_eq_true hf) (by rw [cats]; exact Nat.le_of_ble_eq_true hlo) hr.1 hr.2 hd k) kk
theorem V_min {idx : Nat} {x y : Int32} (hl : Cond.methodLink μ.1.cls idx Lib.Math.min.name ∈ lw_good) (hs : Cond.static Lib.Math.min.name ∈ lw_good) (hi : Cond.initialized "java/lang/Math" ∈ lw_good) (hc : Cond.code Lib.Math.min.name Lib.Math.min.code 2 (some .int) ∈ lw_good) (hd : decode μ.2.1 pc = .ok (.invokestatic idx, 3)) (hf : Nat.ble 1 μ.2.2.2.2.2.frames = true) (hlo : Nat.ble ((st.map fun v => v.category).sum + 13) μ.2.2.2.2.2.locals = true)
    (kk : V g μ E CX k n (pc + 3) ls (.int (if y < x then y else x) :: st) σ) : V g μ E CX k n pc ls (.int y :: .int x :: st) σ :=
  V_step (fun _ _ h => wv_cons wv_i (wv_tail2 h)) (fun p e s m args below meth c C H locs cells slots ρ lr Q hCn hlr hst hr k => va_mmin C.1 C.2.1 (C.2.2.1.trans hlr.1.symm) C.2.2.2.1 (C.2.2.2.2.1 _ hl) (C.2.2.2.2.1 _ hs) (C.2.2.2.2.1 _ hi) (C.2.2.2.2.1 _ hc) (Nat.le_of_ble_eq_true hf) (by rw [cats]; exact Nat.le_of_ble_eq_true hlo) hr.1 hr.2 hd k) kk
theorem V_maxl {idx : Nat} {x y : Int64} (hl : Cond.methodLink μ.1.cls idx Lib.MathLoose.max_long.x ∈ lw_good) (hs : Cond.static Lib.MathLoose.max_long.x ∈ lw_good) (hi : Cond.initialized "java/lang/Math" ∈ lw_good) (hc : Cond.code Lib.MathLoose.max_long.x Lib.MathLoose.max_long.code 4 (some .long) ∈ lw_good) (hd : decode μ.2.1 pc = .ok (.invokestatic idx, 3)) (hf : Nat.ble 1 μ.2.2.2.2.2.frames = true) (hlo : Nat.ble ((st.map fun v => v.category).sum + 15) μ.2.2.2.2.2.locals = true)
    (kk : V g μ E CX k n (pc + 3) ls (.long (if y < x then x else y) :: st) σ) : V g μ E CX k n pc ls (.long y :: .long x :: st) σ :=
  V_step (fun _ _ h => wv_cons wv_l (wv_tail2 h)) (fun p e s m args below meth c C H locs cells slots ρ lr Q hCn hlr hst hr k => va_mmax_long C.1 C.2.1 (C.2.2.1.trans hlr.1.symm) C.2.2.2.1 (C.2.2.2.2.1 _ hl) (C.2.2.2.2.1 _ hs) (C.2.2.2.2.1 _ hi) (C.2.2.2.2.1 _ hc) (Nat.le_of_ble_eq_true hf) (by rw [cats]; exact Nat.le_of_ble_eq_true hlo) hr.1 hr.2 hd k) kk
/-! ===== throw new E("text") ===== -/
/-- the words of a throw -/
def TW (own : String) (ik ic : Nat) (cls : String) : Prop := Bundle.fit cls = true ∧ cls ∈ lw_ex ∧ Cond.classLink own ik cls ∈ lw_good ∧ Cond.initialized cls ∈ lw_good ∧ (∀ w ∈ vx_atS own ic cls ["java/lang/RuntimeException", "java/lang/Exception"], w ∈ lw_good ∨ w = .castable cls cls ∨ w ∈ lw_decl.map Cond.declares) ∧ (∀ w ∈ Cond.classLink own ik cls :: Cond.initialized cls :: vx_atS own ic cls ["java/lang/RuntimeException", "java/lang/Exception"], vx_ot w = true)
theorem vx_Zq_to {g : GP} {C n d : String} {s : State} (h : vx_Zq C n d (bs g.2.2.2.1) s g.2.2.2.1) (hq : ∀ q : Nat, q < g.2.2.2.1.size → s.heap[q]? = g.2.2.2.1[q]?) : vx_Zq C n d (bs g.2.2.2.1) s s.heap :=
  vx_Zq.kept h fun a ha _ => hq a ha
theorem V_throw {ik is ic : Nat} {cls text : String} (tw : TW μ.1.cls ik ic cls) (hstr : (μ.1.cls, is, text) ∈ lw_str) (d0 : decode μ.2.1 pc = .ok (.new ik, 3)) (d3 : decode μ.2.1 (pc + 3) = .ok (.dup, 1)) (d4 : decode μ.2.1 (pc + 4) = .ok (.ldc is, 2)) (d6 : decode μ.2.1 (pc + 6) = .ok (.invokespecial ic, 3)) (d9 : decode μ.2.1 (pc + 9) = .ok (.athrow, 1))
    (hh : μ.2.2.2.2.1 = []) (hf : Nat.blt 5 μ.2.2.2.2.2.frames = true) (hlo : Nat.ble ((st.map fun v => v.category).sum + 82) μ.2.2.2.2.2.locals = true) (hk : Nat.ble 1 k = true) (hn : Nat.ble 6 n = true) (hX : X σ cls) : V g μ (Em g μ Q X) CX k n pc ls st σ := by
  intro p e s m args below meth c C H locs cells slots ρ ρ0 n0 lr P
  obtain ⟨t1, t2, t3, t4, t5, t6⟩ := tw
  have hS := mkS C P
  obtain ⟨sa, hsa⟩ := C.2.2.2.2.2.2.2.2.2.1.2.2.2.1 _ hstr
  have hcast := C.2.2.2.2.2.2.2.2.2.1.2.2.2.2.1 _ t2
  have hk := Nat.le_of_ble_eq_true hk
  have hn := Nat.le_of_ble_eq_true hn
  obtain ⟨p1, p2, p3, p4, p5, p6, p7, p8, p9, p10⟩ := id P
  have hempty : ∀ x ∈ c.exceptionTable.toList, covers x (pc + 9) = false := by
    rw [C.2.2.2.2.2.2.2.2.1, hh]
    intro x hx
    cases hx
  refine vx_throwS (own := μ.1.cls) (text := text) (sa := sa) (names := ["java/lang/RuntimeException", "java/lang/Exception"]) C.1 C.2.1 C.2.2.2.2.2.2.2.2.2.2.2.2.1 C.2.2.2.1 t1 (by decide +kernel) (C.2.2.2.2.1 _ t3) (C.2.2.2.2.1 _ t4) hsa (fun w hw => ?_) t6 (vx_Zq_to C.2.2.2.2.2.2.2.2.2.1.2.2.2.2.2.2.1 C.2.2.2.2.2.2.2.2.2.2.2.1) (vx_Zq_to C.2.2.2.2.2.2.2.2.2.1.2.2.2.2.2.2.2.1 C.2.2.2.2.2.2.2.2.2.2.2.1) hS (p8.1.trans C.2.2.1.symm) d0 d3 d4 d6 d9 hempty (by simpa [Nat.blt_eq] using hf) ?_ (by omega) (by omega) C.2.2.2.2.2.1 ?_ p2 (by omega) (by omega)
  · rcases t5 w hw with h | rfl | h
    · exact C.2.2.2.2.1 _ h
    · exact va_Nw.use rfl hcast
    · obtain ⟨x, hx, rfl⟩ := List.mem_map.mp h
      exact va_Nw.use rfl (C.2.2.2.2.2.2.2.2.2.1.2.2.2.2.2.2.2.2.1 x hx)
  · rw [cats]
    exact Nat.le_of_ble_eq_true hlo
  · intro t hal hsz hold
    refine ⟨ρ, σ, hX, ⟨p1.1.kept fun k q hq => hold q.1 ((p1.1 k q hq).lt), p1.2.1, Nat.le_trans p1.2.2.1 hsz, fun q hq => ?_, p1.2.2.2.2⟩, p6, p7, Nat.le_trans p5 hsz⟩
    rw [hold q (Nat.lt_of_lt_of_le hq p1.2.2.1)]
    exact p1.2.2.2.1 q hq
end VD
end
section
/-! ===== a call that may throw, caught here; the handler: store it, answer a number ===== -/
section VE
variable {g : GP} {μ z : MI} {E : ET} {CX : State → Array Value → Prop} {k n k' n' pc : Nat} {ls : List (Nat × Value)} {st as : List Value} {σ : AH} {Q Q0 : AH → Option Value → Prop} {X : AH → String → Prop}
/-- the handler at h: it stores what was thrown, and answers r -/
def HC (μ : MI) (h : Nat) (r : Int32) : Prop :=
  (∃ (q : Fin 4) (w : Int), decode μ.2.1 h = .ok (.astore_n q, 1) ∧ (q : Nat) < μ.2.2.1 ∧ decode μ.2.1 (h + 1) = .ok (.iconst w, 1) ∧ Int32.ofInt w = r ∧ decode μ.2.1 (h + 1 + 1) = .ok (.ireturn, 1)) ∨
  (∃ (i : Nat) (w : Int), decode μ.2.1 h = .ok (.astore i, 2) ∧ i < μ.2.2.1 ∧ decode μ.2.1 (h + 2) = .ok (.iconst w, 1) ∧ Int32.ofInt w = r ∧ decode μ.2.1 (h + 2 + 1) = .ok (.ireturn, 1))
/-- what is thrown as Ex at pc comes to the handler that answers r -/
def HX (μ : MI) (pc : Nat) (Ex : String) (r : Int32) : Prop :=
  ∃ (pre : List ExceptionTableEntry) (x : ExceptionTableEntry) (suf : List ExceptionTableEntry), tableOf μ.2.2.2.2.1 = pre ++ x :: suf ∧ (∀ y ∈ pre, covers y pc = false ∨ (y.catchType ≠ 0 ∧ ∃ nm : String, Cond.classLink μ.1.cls y.catchType nm ∈ lw_good ∧ nm ∈ lw_ex ∧ Ex ≠ nm)) ∧ covers x pc = true ∧ x.catchType ≠ 0 ∧ Cond.classLink μ.1.cls x.catchType Ex ∈ lw_good ∧ Ex ∈ lw_ex ∧ HC μ x.handlerPc r
theorem hc_run {p : Program} {e : Env} {s : State} {m : MethodId} {args : Array Value} {below : List Frame} {meth : Method} {c : Code} (C : Cx g μ CX p s m args meth c) {H : Heap} {locs : List Loc} {cells slots : Nat} {ρ ρ0 : Nat → Nat} {n0 : Nat} {lr : Array Slot} (P : Pt1 g μ s k n ls st σ H locs cells slots ρ ρ0 n0 lr) {h : Nat} {r : Int32} (hh : HC μ h r) (hr : μ.2.2.2.1 = some .int) (hQ : Q0 σ (some (.int r))) {q : Addr} :
    W p g.1 e μ.2.2.2.2.2 s m args below meth c H locs cells slots (Em g μ Q0 X below args s ρ0 n0) (F0 m h lr [.ref q]) := by
  have fin : ∀ (pc : Nat) (lr' : Array Slot), decode μ.2.1 pc = .ok (.ireturn, 1) → W p g.1 e μ.2.2.2.2.2 s m args below meth c H locs cells slots (Em g μ Q0 X below args s ρ0 n0) (F0 m pc lr' [.int r]) := fun pc lr' hd => by
    refine W.widen (k := μ.2.2.2.2.2.cells) (n := μ.2.2.2.2.2.slots) (by have := P.2.2.1; omega) (by have := P.2.2.2.1; omega) (vx_ret ?_)
    exact W.iret C.1 C.2.1 (C.2.2.2.2.2.2.1.trans hr) (fun t ht _ => Pt_Qe P (rv := some (.int r)) (fun v hv => by cases hv; trivial) hQ args t ht) P.2.1 hd C.2.2.2.2.2.1
  rcases hh with ⟨i, w, h1, h2, h3, h4, h5⟩ | ⟨i, w, h1, h2, h3, h4, h5⟩
  · exact la_astore_n C.1 C.2.1 rfl rfl h1 P.2.2.2.2.2.2.2.1 h2 fun lr' _ => lv_iconst C.1 C.2.1 h3 h4 (fin _ lr' h5)
  · exact la_astore C.1 C.2.1 rfl rfl h1 P.2.2.2.2.2.2.2.1 h2 fun lr' _ => lv_iconst C.1 C.2.1 h3 h4 (fin _ lr' h5)
theorem V_callVX {idx ci a : Nat} {CC : String} {T : u_T} (hc : CtX g z (.ref a :: as) σ Q X) (hm : MW z) (ko : KO ci CC T) (hCC : z.1.cls = CC) (hi : Cond.instanceMethod z.1 ∈ lw_good) (hs : Cond.selects CC z.1 z.1 ∈ lw_good) (hl : Cond.methodLink μ.1.cls idx z.1 ∈ lw_good) (ha : Ar z.1 as.length) (rf : RF μ z k n k' n' st) (hd : decode μ.2.1 pc = .ok (.invokevirtual idx, 3)) (h0 : a ≠ 0) (hK : zK σ a = ci) (hr : μ.2.2.2.1 = some .int)
    (kk : ∀ σ' rv, Q σ' rv → V g μ (Em g μ Q0 NX) CX k' n' (pc + 3) ls (rv.toList ++ st) σ') (kx : ∀ σ' Ex, X σ' Ex → ∃ r, HX μ pc Ex r ∧ Q0 σ' (some (.int r))) : V g μ (Em g μ Q0 NX) CX k n pc ls (as.reverse ++ .ref a :: st) σ := by
  intro p e s m args below meth c C H locs cells slots ρ ρ0 n0 lr P
  obtain ⟨w1, w2⟩ := wv_argsV P.2.2.2.2.2.2.2.2.2
  have r1 := Nat.le_of_ble_eq_true rf.1
  have r2 := Nat.le_of_ble_eq_true rf.2.1
  have r3 := Nat.le_of_ble_eq_true rf.2.2.1
  have r4 := Nat.le_of_ble_eq_true rf.2.2.2.1
  have r5 := Nat.le_of_ble_eq_true rf.2.2.2.2
  have q1 := P.2.2.1
  have q2 := P.2.2.2.1
  have hM := hc ρ
  refine V_retX C P w2 r3 r4 (a := (Value.ref (ρ a) :: as.map (cv ρ)).toArray) (vx_runV (C := CC) (b := ρ a) (As := as.map (cv ρ)) ⟨C.1, C.2.1, C.2.2.1, C.2.2.2.1, C.2.2.2.2.1⟩ hM ⟨cw_of C.2.2.2.2.1 hm hl ha r1 r2, C.2.2.2.2.1 _ hi, C.2.2.2.2.1 _ hs⟩ (pv_of C P.1 ko h0 hK w1) rfl (by simp) P.2.2.2.2.2.2.2.1.1 (by simp [F0, cv_ref h0]) (lv_room (by rw [cats]; exact r5)) hd ⟨by omega, by omega⟩) kk ?_
  intro σ' Ex q ce H1 locs1 ρ' hX P' hce hcv hcl
  obtain ⟨r, ⟨pre, x, suf, e1, e2, e3, e4, e5, e6, e7⟩, hQ⟩ := kx σ' Ex hX
  refine vx_catch C.2.2.2.1 pre x suf (C.2.2.2.2.2.2.2.2.1.trans e1) (fun y hy => ?_) e3 e4 (C.2.2.2.2.1 _ e5) (va_Nw.use rfl (C.2.2.2.2.2.2.2.2.2.1.2.2.2.2.1 _ e6)) hce hcv hcl (hc_run C P' e7 hr hQ)
  rcases e2 y hy with h | ⟨h1, nm, h2, h3, h4⟩
  · exact Or.inl h
  · exact Or.inr ⟨h1, nm, C.2.2.2.2.1 _ h2, C.2.2.2.2.2.2.2.2.2.1.2.2.2.2.2.1 _ e6 _ h3 h4⟩
end VE
end
