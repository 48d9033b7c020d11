/-! ===== making cells ===== -/
def KD (ci : Nat) : Prop := ∀ k, k < fN ci → fT ci k ≠ .float ∧ fT ci k ≠ .double
section VA
variable {g : GP} {μ : MI} {E : ET} {CX : State → Array Value → Prop} {k n pc : Nat} {ls : List (Nat × Value)} {st : List Value} {σ : AH}
theorem lcv_agree {ρ ρ' : Nat → Nat} {N : Nat} (h : ∀ a, 1 ≤ a → a ≤ N → ρ' a = ρ a) {ls : List (Nat × Value)} (hw : ∀ q ∈ ls, wv N q.2) : lcv ρ' ls = lcv ρ ls :=
  List.map_congr_left fun q hq => by rw [cv_agree h (hw q hq)]
theorem st_agree {ρ ρ' : Nat → Nat} {N : Nat} (h : ∀ a, 1 ≤ a → a ≤ N → ρ' a = ρ a) {st : List Value} (hw : ∀ v ∈ st, wv N v) : st.map (cv ρ') = st.map (cv ρ) :=
  List.map_congr_left fun q hq => cv_agree h (hw q hq)
theorem rup_agree {ρ : Nat → Nat} {N q : Nat} : ∀ a, 1 ≤ a → a ≤ N → rup ρ (N + 1) q a = ρ a := fun a _ h => by
  unfold rup; rw [if_neg (by omega)]
theorem nw_hc {κ len : Nat} (h : ∀ b j, zR σ b j ≤ zN σ) : ∀ b j, zR (nw σ κ len) b j ≤ zN (nw σ κ len) := fun b j => by
  rw [zR_nw, zN_nw]
  split
  · omega
  · exact Nat.le_succ_of_le (h b j)
theorem FZ_nw {κ len : Nat} (h : FZ g σ) : FZ g (nw σ κ len) := fun G hG => by
  obtain ⟨h1, h2⟩ := h G hG
  refine ⟨by rw [zN_nw]; omega, fun b hb1 hb2 => ?_⟩
  obtain ⟨h3, h4, h5, h6⟩ := h2 b hb1 hb2
  rw [zK_nw, zL_nw, if_neg (by omega), if_neg (by omega)]
  refine ⟨h3, h4, h5, fun j => ?_⟩
  rw [zI_nw, zJ_nw, if_neg (by omega), if_neg (by omega)]
  exact h6 j
theorem V_alloc {κ len k' n' pc' : Nat} {e' : va_E} {st0 st' : List Value} (hκ : κ ≠ 19) (hk : Nat.ble (k' + 1) k = true) (hn : Nat.ble (n' + len) n = true) (hw : (∀ v ∈ st0, wv (zN σ) v) → ∀ v ∈ st', wv (zN σ) v) (he : ∀ ρ, ent g.2.2.1 ρ (nw σ κ len) (zN σ + 1) = e')
    (h : ∀ (p : Program) (e : Env) (s : State) (m : MethodId) (args : Array Value) (below : List Frame) (meth : Method) (c : Code), Cx g μ CX p s m args meth c → ∀ (H : Heap) (locs : List Loc) (cells slots : Nat) (ρ : Nat → Nat) (lr : Array Slot) (Q : State → Prop), Cn g ρ σ H → va_S (bs g.2.2.2.1) s.heap H locs → cells + 1 ≤ μ.2.2.2.2.2.cells → slots + len ≤ μ.2.2.2.2.2.slots →
      (∀ (q : Nat) (H1 : Heap), va_P g.2.1 vwCl (wl g.2.2.1 ρ σ ++ [(q, e')]) H1 → va_D (bs g.2.2.2.1) (wl g.2.2.1 ρ σ ++ [(q, e')]) → va_S (bs g.2.2.2.1) s.heap H1 locs → W p g.1 e μ.2.2.2.2.2 s m args below meth c H1 locs (cells + 1) (slots + len) Q (F0 m pc' lr (.ref q :: st'.map (cv ρ)))) → W p g.1 e μ.2.2.2.2.2 s m args below meth c H locs cells slots Q (F0 m pc lr (st0.map (cv ρ))))
    (kk : V g μ E CX k' n' pc' ls (.ref (zN σ + 1) :: st') (nw σ κ len)) : V g μ E CX k n pc ls st0 σ := by
  intro p e s m args below meth c C H locs cells slots ρ ρ0 n0 lr P
  have hS := mkS C P
  have hk := Nat.le_of_ble_eq_true hk
  have hn := Nat.le_of_ble_eq_true hn
  obtain ⟨p1, p2, p3, p4, p5, p6, p7, p8, p9, p10⟩ := P
  refine h p e s m args below meth c C H locs cells slots ρ lr _ p1 hS (by omega) (by omega) fun q H1 hP hD hS1 => ?_
  rw [wl_push hκ p1.2.2.2.2.1 (he _)] at hP hD
  have hw' := hw p10
  have key := kk p e s m args below meth c C H1 locs (cells + 1) (slots + len) (rup ρ (zN σ + 1) q) ρ0 n0 lr ⟨⟨hP, hD, Nat.le_trans C.2.2.2.2.2.2.2.2.2.2.1 hS1.1, fun z hz => ?_, nw_hc p1.2.2.2.2.1, Nat.le_succ_of_le p1.2.2.2.2.2.1, (zK_nw _ _ _ _).trans ((if_neg (by have := p1.2.2.2.2.2.1; omega)).trans p1.2.2.2.2.2.2.1), (rup_agree 1 (Nat.le_refl 1) p1.2.2.2.2.2.1).trans p1.2.2.2.2.2.2.2.1, FZ_nw p1.2.2.2.2.2.2.2.2⟩, hS1.2.2, by omega, by omega, hS1.1, fun a h1 h2 => ?_, Nat.le_succ_of_le p7, by rw [lcv_agree rup_agree p9]; exact p8, fun z hz => wv_mono (Nat.le_succ _) (p9 z hz), wv_cons (Nat.le_refl _) (fun v hv => wv_mono (Nat.le_succ _) (hw' v hv))⟩
  · rw [List.map_cons, cv_ref (by omega), st_agree rup_agree hw'] at key
    rw [show rup ρ (zN σ + 1) q (zN σ + 1) = q by simp [rup]] at key
    exact key
  · rw [hS1.2.1 z (Nat.lt_of_lt_of_le hz C.2.2.2.2.2.2.2.2.2.2.1) (Nat.not_le.mpr hz)]
    exact C.2.2.2.2.2.2.2.2.2.2.2.1 z hz
  · rw [rup_agree a h1 (Nat.le_trans h2 p7)]
    exact p6 a h1 h2
theorem zK_new {κ len : Nat} : zK (nw σ κ len) (zN σ + 1) = κ := by rw [zK_nw, if_pos rfl]
theorem V_new {ci idx k' n' : Nat} {C : String} {T : u_T} (ko : KO ci C T) (kd : KD ci) (hcl : Cond.classLink μ.1.cls idx C ∈ lw_good) (hins : Cond.instantiable C (fN ci) ∈ lw_good) (hini : Cond.initialized C ∈ lw_good) (hd : decode μ.2.1 pc = .ok (.new idx, 3)) (hk : Nat.ble (k' + 1) k = true) (hn : Nat.ble (n' + fN ci) n = true)
    (kk : V g μ E CX k' n' (pc + 3) ls (.ref (zN σ + 1) :: st) (nw σ ci (fN ci))) : V g μ E CX k n pc ls st σ := by
  refine V_alloc (e' := .inr (ci, (List.range (fN ci)).map (fun k => defaultValue (fT ci k)))) (by have := ko.2.2.2.2; omega) hk hn (fun h => h) (fun ρ => ?_) (fun p e s m args below meth c C H locs cells slots ρ lr Q hCn hS h1 h2 k => ?_) kk
  · rw [ent_obj zK_new ko.2.2.2.2]
    refine congrArg _ (congrArg _ (List.map_congr_left fun j hj => ?_))
    have hj := kd j (List.mem_range.mp hj)
    revert hj
    generalize fT ci j = t
    intro hj
    cases t <;> first | exact absurd rfl hj.1 | exact absurd rfl hj.2 | (simp only [fv, zI_nw, zJ_nw, zR_nw, if_pos]; rfl)
  · exact va_new C.1 C.2.1 C.2.2.2.2.1 ko.2.1 (fT ci) ko.2.2.1 C.2.2.2.1 (C.2.2.2.2.1 _ hcl) (C.2.2.2.2.1 _ hins) (C.2.2.2.2.1 _ hini) C.2.2.2.2.2.2.2.2.2.1.1 hCn.1 hCn.2.1 hS (fun q hq => Nat.le_trans C.2.2.2.2.2.2.2.2.2.2.1 hq) ko.1 (fun j hj => by simp [vp_V, List.getD, List.getElem?_range hj]) h1 h2 hd k
theorem ra_eq {D : va_G} {cl : List vw_C} {tys : List (ClassId × FieldType)} {cA : ClassId} {ty : FieldType} {s : State} (t0 : Nat) {cB : ClassId} (h1 : va_K D cl tys s) (ht : tys[t0]? = some (cB, ty)) (h2 : va_K D cl (tys ++ [(cA, ty)]) s) : cA = cB := by
  have a1 := (h1.2 t0 _ ht).2
  have a2 := (h2.2 tys.length (cA, ty) (by simp)).2
  cases ty with
  | object C =>
    obtain ⟨_, _, _, _, _, e1⟩ := a1
    obtain ⟨_, _, _, _, _, e2⟩ := a2
    exact Option.some.inj (e2.symm.trans e1)
  | _ => exact Option.some.inj (Eq.trans (Eq.symm a2) a1)
theorem V_newi {z : Int32} {len k' n' : Nat} (hw : Cond.arrayClass .int ∈ lw_good) (hd : decode μ.2.1 pc = .ok (.newarray .int, 2)) (hz : ¬ z < 0) (hlen : z.toNatClampNeg = len) (hb : Nat.ble len 100000 = true) (hk : Nat.ble (k' + 1) k = true) (hn : Nat.ble (n' + len) n = true)
    (kk : V g μ E CX k' n' (pc + 2) ls (.ref (zN σ + 1) :: st) (nw σ 20 len)) : V g μ E CX k n pc ls (.int z :: st) σ := by
  have hb := Nat.le_of_ble_eq_true hb
  refine V_alloc (e' := .inl (g.2.2.1 20, len, .inl (fun _ => 0))) (by decide) hk hn (fun h => wv_tail h) (fun ρ => ?_) (fun p e s m args below meth c C H locs cells slots ρ lr Q hCn hS h1 h2 k => ?_) kk
  · rw [ent_ia zK_new, zL_nw, if_pos rfl]
    refine congrArg _ (congrArg _ (congrArg _ (congrArg _ ?_)))
    funext j
    rw [zI_nw, if_pos rfl]
  · refine va_newa (atype := .int) (a0 := (len, .inl (fun _ => 0))) (ty := .int) C.1 C.2.1 (C.2.2.2.2.1 _ hw) rfl C.2.2.2.2.2.2.2.2.2.1.1 hCn.1 hCn.2.1 hS (fun q hq => Nat.le_trans C.2.2.2.2.2.2.2.2.2.2.1 hq) (fun cA => rfl) hz hlen (by show len * 4 ≤ _; omega) h1 h2 hd (fun q cA H1 hK1 hP hD hS1 => ?_)
    have e := ra_eq 0 C.2.2.2.2.2.2.2.2.2.1.1 rfl hK1
    subst e
    exact k q H1 hP hD hS1
theorem V_newl {z : Int32} {len k' n' : Nat} (hw : Cond.arrayClass .long ∈ lw_good) (hd : decode μ.2.1 pc = .ok (.newarray .long, 2)) (hz : ¬ z < 0) (hlen : z.toNatClampNeg = len) (hb : Nat.ble len 100000 = true) (hk : Nat.ble (k' + 1) k = true) (hn : Nat.ble (n' + len) n = true)
    (kk : V g μ E CX k' n' (pc + 2) ls (.ref (zN σ + 1) :: st) (nw σ 21 len)) : V g μ E CX k n pc ls (.int z :: st) σ := by
  have hb := Nat.le_of_ble_eq_true hb
  refine V_alloc (e' := .inl (g.2.2.1 21, len, .inr (.inl (fun _ => 0)))) (by decide) hk hn (fun h => wv_tail h) (fun ρ => ?_) (fun p e s m args below meth c C H locs cells slots ρ lr Q hCn hS h1 h2 k => ?_) kk
  · rw [ent_ja zK_new, zL_nw, if_pos rfl]
    refine congrArg _ (congrArg _ (congrArg _ (congrArg _ (congrArg _ ?_))))
    funext j
    rw [zJ_nw, if_pos rfl]
  · refine va_newa (atype := .long) (a0 := (len, .inr (.inl (fun _ => 0)))) (ty := .long) C.1 C.2.1 (C.2.2.2.2.1 _ hw) rfl C.2.2.2.2.2.2.2.2.2.1.1 hCn.1 hCn.2.1 hS (fun q hq => Nat.le_trans C.2.2.2.2.2.2.2.2.2.2.1 hq) (fun cA => rfl) hz hlen (by show len * 8 ≤ _; omega) h1 h2 hd (fun q cA H1 hK1 hP hD hS1 => ?_)
    have e := ra_eq 1 C.2.2.2.2.2.2.2.2.2.1.1 rfl hK1
    subst e
    exact k q H1 hP hD hS1
theorem V_newq {κ t0 idx : Nat} {CC : String} {z : Int32} {len k' n' : Nat} (ao : AO κ CC t0) (hao : CC ∈ lw_ao) (hcl : Cond.classLink μ.1.cls idx CC ∈ lw_good) (hd : decode μ.2.1 pc = .ok (.anewarray idx, 3)) (hz : ¬ z < 0) (hlen : z.toNatClampNeg = len) (hb : Nat.ble len 100000 = true) (hk : Nat.ble (k' + 1) k = true) (hn : Nat.ble (n' + len) n = true)
    (kk : V g μ E CX k' n' (pc + 3) ls (.ref (zN σ + 1) :: st) (nw σ κ len)) : V g μ E CX k n pc ls (.int z :: st) σ := by
  have hb := Nat.le_of_ble_eq_true hb
  refine V_alloc (e' := .inl (g.2.2.1 κ, len, .inr (.inr (.inr (.inr (fun _ => none)))))) (by have := ao.1; omega) hk hn (fun h => wv_tail h) (fun ρ => ?_) (fun p e s m args below meth c C H locs cells slots ρ lr Q hCn hS h1 h2 k => ?_) kk
  · rw [ent_qa zK_new ao.1, zL_nw, if_pos rfl]
    refine congrArg _ (congrArg _ (congrArg _ (congrArg _ (congrArg _ (congrArg _ (congrArg _ ?_))))))
    funext j
    rw [zR_nw, if_pos rfl]
    rfl
  · refine va_newq C.1 C.2.1 C.2.2.2.1 (C.2.2.2.2.1 _ hcl) (C.2.2.2.2.2.2.2.2.2.1.2.2.1 _ hao) C.2.2.2.2.2.2.2.2.2.1.1 hCn.1 hCn.2.1 hS (fun q hq => Nat.le_trans C.2.2.2.2.2.2.2.2.2.2.1 hq) hz hlen (by omega) h1 h2 hd (fun q cA H1 hK1 hP hD hS1 => ?_)
    have e := ra_eq t0 C.2.2.2.2.2.2.2.2.2.1.1 (ao.2 _) hK1
    subst e
    exact k q H1 hP hD hS1
/-! ===== ends ===== -/
theorem Pt_Qe {Q : AH → Option Value → Prop} {s : State} {H : Heap} {locs : List Loc} {cells slots : Nat} {ρ ρ0 : Nat → Nat} {n0 : Nat} {lr : Array Slot} (P : Pt1 g μ s k n ls st σ H locs cells slots ρ ρ0 n0 lr) {rv : Option Value} (hrv : ∀ v ∈ rv, wv (zN σ) v) (hQ : Q σ rv) (args : Array Value) (t : State) (ht : t.heap = H) : Qe g ρ0 n0 Q args s (.returned (rv.map (cv ρ))) t :=
  ⟨ρ, σ, rv, rfl, hQ, by rw [ht]; exact P.1, P.2.2.2.2.2.1, P.2.2.2.2.2.2.1, hrv, by rw [ht]; exact P.2.2.2.2.1⟩
theorem V_iret {Q : AH → Option Value → Prop} {X : AH → String → Prop} {x : Int32} (hr : μ.2.2.2.1 = some .int) (hd : decode μ.2.1 pc = .ok (.ireturn, 1)) (hQ : Q σ (some (.int x))) : V g μ (Em g μ Q X) CX k n pc ls [.int x] σ := by
  intro p e s m args below meth c C H locs cells slots ρ ρ0 n0 lr P
  refine W.widen (k := μ.2.2.2.2.2.cells) (n := μ.2.2.2.2.2.slots) (by have := P.2.2.1; omega) (by have := P.2.2.2.1; omega) (vx_ret ?_)
  exact W.iret C.1 C.2.1 (C.2.2.2.2.2.2.1.trans hr) (fun t ht _ => Pt_Qe P (rv := some (.int x)) (fun v hv => by cases hv; trivial) hQ args t ht) P.2.1 hd C.2.2.2.2.2.1
theorem V_zret {Q : AH → Option Value → Prop} {X : AH → String → Prop} {x : Int32} (hr : μ.2.2.2.1 = some .boolean) (hd : decode μ.2.1 pc = .ok (.ireturn, 1)) (hx : narrow .boolean (.int x) = .int x) (hQ : Q σ (some (.int x))) : V g μ (Em g μ Q X) CX k n pc ls [.int x] σ := by
  intro p e s m args below meth c C H locs cells slots ρ ρ0 n0 lr P
  refine W.widen (k := μ.2.2.2.2.2.cells) (n := μ.2.2.2.2.2.slots) (by have := P.2.2.1; omega) (by have := P.2.2.2.1; omega) (vx_ret ?_)
  exact W.zret C.1 C.2.1 (C.2.2.2.2.2.2.1.trans hr) hx (fun t ht _ => Pt_Qe P (rv := some (.int x)) (fun v hv => by cases hv; trivial) hQ args t ht) P.2.1 hd C.2.2.2.2.2.1
theorem V_lret {Q : AH → Option Value → Prop} {X : AH → String → Prop} {x : Int64} (hr : μ.2.2.2.1 = some .long) (hd : decode μ.2.1 pc = .ok (.lreturn, 1)) (hQ : Q σ (some (.long x))) : V g μ (Em g μ Q X) CX k n pc ls [.long x] σ := by
  intro p e s m args below meth c C H locs cells slots ρ ρ0 n0 lr P
  refine W.widen (k := μ.2.2.2.2.2.cells) (n := μ.2.2.2.2.2.slots) (by have := P.2.2.1; omega) (by have := P.2.2.2.1; omega) (vx_ret ?_)
  exact W.lret C.1 C.2.1 (C.2.2.2.2.2.2.1.trans hr) (fun t ht _ => Pt_Qe P (rv := some (.long x)) (fun v hv => by cases hv; trivial) hQ args t ht) P.2.1 hd C.2.2.2.2.2.1
theorem V_vret {Q : AH → Option Value → Prop} {X : AH → String → Prop} (hr : μ.2.2.2.1 = none) (hd : decode μ.2.1 pc = .ok (.return_, 1)) (hQ : Q σ none) : V g μ (Em g μ Q X) CX k n pc ls [] σ := by
  intro p e s m args below meth c C H locs cells slots ρ ρ0 n0 lr P
  refine W.widen (k := μ.2.2.2.2.2.cells) (n := μ.2.2.2.2.2.slots) (by have := P.2.2.1; omega) (by have := P.2.2.2.1; omega) (vx_ret ?_)
  exact W.vret C.1 C.2.1 (C.2.2.2.2.2.2.1.trans hr) (fun t ht _ => Pt_Qe P (rv := none) (fun v hv => by cases hv) hQ args t ht) P.2.1 hd C.2.2.2.2.2.1
theorem V_aret {Q : AH → Option Value → Prop} {X : AH → String → Prop} {a : Nat} {CC : String} (hr : μ.2.2.2.1 = some (.object CC)) (hd : decode μ.2.1 pc = .ok (.areturn, 1)) (hQ : Q σ (some (.ref a))) : V g μ (Em g μ Q X) CX k n pc ls [.ref a] σ := by
  intro p e s m args below meth c C H locs cells slots ρ ρ0 n0 lr P
  refine W.widen (k := μ.2.2.2.2.2.cells) (n := μ.2.2.2.2.2.slots) (by have := P.2.2.1; omega) (by have := P.2.2.2.1; omega) (vx_ret ?_)
  exact W.aret C.1 C.2.1 (C.2.2.2.2.2.2.1.trans hr) (Or.inl ⟨_, rfl⟩) (by by_cases h : a = 0 <;> simp [cv, h]) (fun t ht _ => Pt_Qe P (rv := some (.ref a)) (fun v hv => by cases hv; exact wv_hd P.2.2.2.2.2.2.2.2.2) hQ args t ht) P.2.1 hd C.2.2.2.2.2.1
theorem cats (ρ : Nat → Nat) (st : List Value) : ((st.map (cv ρ)).map fun v => v.category).sum = (st.map fun v => v.category).sum := by
  rw [List.map_map]
  refine congrArg _ (List.map_congr_left fun v _ => cv_cat ρ v)
/-- super() of Object -/
theorem V_objinit {idx a : Nat} (hl : Cond.methodLink μ.1.cls idx Lib.objectInit ∈ lw_good) (hi : Cond.instanceMethod Lib.objectInit ∈ lw_good) (hc : Cond.code Lib.objectInit ⟨#[0xb1]⟩ 1 none ∈ lw_good) (hd : decode μ.2.1 pc = .ok (.invokespecial idx, 3)) (h0 : a ≠ 0) (hf : Nat.ble 1 μ.2.2.2.2.2.frames = true) (hlo : Nat.ble ((st.map fun v => v.category).sum + 12) μ.2.2.2.2.2.locals = true)
    (kk : V g μ E CX k n (pc + 3) ls st σ) : V g μ E CX k n pc ls (.ref a :: st) σ := by
  refine V_step (fun _ _ h => wv_tail h) (fun p e s m args below meth c C H locs cells slots ρ lr Q hCn hlr hst _ k => ?_) kk
  rw [List.map_cons, cv_ref h0]
  refine W.objInit C.1 C.2.1 C.2.2.2.1 (C.2.2.2.2.1 _ hl) (C.2.2.2.2.1 _ hi) (C.2.2.2.2.1 _ hc) rfl (hlr.1.trans C.2.2.1.symm) rfl hd (Nat.le_of_ble_eq_true hf) ?_ k
  have := Nat.le_of_ble_eq_true hlo
  show 2 * 0 + ((st.map (cv ρ)).map fun v => v.category).sum + 12 ≤ _
  rw [cats]
  omega
end VA
