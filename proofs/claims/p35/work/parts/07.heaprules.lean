/-! ===== fields and arrays ===== -/
def fva (σ : AH) (a : Nat) (ty : FieldType) (k : Nat) : Value := match ty with
  | .long => .long (zJ σ a k)
  | .object _ => .ref (zR σ a k)
  | .array _ => .ref (zR σ a k)
  | _ => .int (zI σ a k)
theorem fv_fva (ρ : Nat → Nat) (σ : AH) (a : Nat) (ty : FieldType) (k : Nat) : fv ρ σ a ty k = cv ρ (fva σ a ty k) := by
  cases ty <;> rfl
theorem fva_wv {σ : AH} (hc : ∀ a k, zR σ a k ≤ zN σ) (a : Nat) (ty : FieldType) (k : Nat) : wv (zN σ) (fva σ a ty k) := by
  cases ty <;> first | exact hc a k | trivial
/-- what the tables say of a class: its row, its words, its fields' types and names -/
def KO (ci : Nat) (C : String) (T : u_T) : Prop := vwCl[ci]? = some (C, T, fN ci) ∧ (∀ w ∈ u_ws C T (fN ci), w ∈ lw_good) ∧ (∀ k, k < fN ci → parseFieldDescriptor (T k).2.2.1 = some (fT ci k)) ∧ (∀ a, a < fN ci → ∀ b, b < fN ci → a ≠ b → (T a).2.1 ≠ (T b).2.1) ∧ ci < 13
section VH
variable {g : GP} {μ : MI} {E : ET} {CX : State → Array Value → Prop} {k n pc : Nat} {ls : List (Nat × Value)} {st : List Value} {σ : AH}
theorem V_getf {ci fk idx a : Nat} {C : String} {T : u_T} (v : Value) (ko : KO ci C T) (hk : Nat.blt fk (fN ci) = true) (hlink : Cond.fieldLink μ.1.cls idx (T fk).1 (T fk).2.1 (T fk).2.2.1 ∈ lw_good) (hd : decode μ.2.1 pc = .ok (.getfield idx, 3)) (h0 : a ≠ 0) (hK : zK σ a = ci) (hv : fva σ a (fT ci fk) fk = v)
    (kk : V g μ E CX k n (pc + 3) ls (v :: st) σ) : V g μ E CX k n pc ls (.ref a :: st) σ := by
  subst hv
  refine V_step (fun hcl _ h => wv_cons (fva_wv hcl _ _ _) (wv_tail h)) (fun p e s m args below meth c C H locs cells slots ρ lr Q hCn hlr hst _ k => ?_) kk
  have hk' : fk < fN ci := by simpa [Nat.blt_eq] using hk
  rw [List.map_cons, cv_ref h0]
  refine va_get C.1 C.2.1 C.2.2.2.2.1 ko.2.1 C.2.2.2.1 C.2.2.2.2.2.2.2.2.2.1.1 hCn.1 (ps σ a) (by rw [wl_get h0 (ne9 hK (by have := ko.2.2.2.2; omega)) (wv_hd hst), ent_obj hK ko.2.2.2.2]) ko.1 fk hk' (C.2.2.2.2.1 _ hlink) (fun _ h => h) (fv_get hk') hd ?_
  rw [fv_fva]
  exact k
theorem FZ_wr {a : Nat} {σ' : AH} (hk19 : zK σ a ≠ 19) (hk23 : zK σ a = 23 → gG g = none) (hn : zN σ' = zN σ) (hkk : ∀ b, zK σ' b = zK σ b) (hll : ∀ b, zL σ' b = zL σ b) (hfz : ∀ b, b ≠ a → ∀ j, zI σ' b j = zI σ b j ∧ zJ σ' b j = zJ σ b j) (h : FZ g σ) : FZ g σ' := fun G hG => by
  obtain ⟨h1, h2⟩ := h G hG
  refine ⟨by rw [hn]; exact h1, fun b hb1 hb2 => ?_⟩
  obtain ⟨h3, h4, h5, h6⟩ := h2 b hb1 hb2
  rw [hkk, hll]
  refine ⟨h3, h4, h5, fun j => ?_⟩
  obtain ⟨h7, h8⟩ := hfz b (fun e => h3.elim (fun q => hk19 (e ▸ q)) (fun q => by rw [hk23 (e ▸ q)] at hG; cases hG)) j
  exact ⟨h7.trans (h6 j).1, h8.trans (h6 j).2⟩
theorem fz_uI {a k : Nat} {x : Int32} : ∀ b, b ≠ a → ∀ j, zI (uI σ a k x) b j = zI σ b j ∧ zJ (uI σ a k x) b j = zJ σ b j := fun b hb j => ⟨by rw [zI_uI, if_neg (fun q => hb q.1)], rfl⟩
theorem fz_uJ {a k : Nat} {x : Int64} : ∀ b, b ≠ a → ∀ j, zI (uJ σ a k x) b j = zI σ b j ∧ zJ (uJ σ a k x) b j = zJ σ b j := fun b hb j => ⟨rfl, by rw [zJ_uJ, if_neg (fun q => hb q.1)]⟩
theorem fz_uR {a k x : Nat} : ∀ b, b ≠ a → ∀ j, zI (uR σ a k x) b j = zI σ b j ∧ zJ (uR σ a k x) b j = zJ σ b j := fun _ _ _ => ⟨rfl, rfl⟩
/-- a write into one cell -/
theorem V_write {a pc' : Nat} {σ' : AH} {e' : (Nat → Nat) → va_E} {st0 st' : List Value} (h0 : a ≠ 0) (hk19 : zK σ a ≠ 19) (hkk : ∀ b, zK σ' b = zK σ b) (hk23 : zK σ a = 23 → gG g = none) (hll : ∀ b, zL σ' b = zL σ b) (hfz : ∀ b, b ≠ a → ∀ j, zI σ' b j = zI σ b j ∧ zJ σ' b j = zJ σ b j) (ha : (∀ v ∈ st0, wv (zN σ) v) → a ≤ zN σ) (hn : zN σ' = zN σ) (hs : ∀ ρ dA b, b ≠ a → ent dA ρ σ' b = ent dA ρ σ b) (he : ∀ ρ, ent g.2.2.1 ρ σ' a = e' ρ) (hcl : (∀ v ∈ st0, wv (zN σ) v) → (∀ b j, zR σ b j ≤ zN σ) → ∀ b j, zR σ' b j ≤ zN σ') (hw : (∀ v ∈ st0, wv (zN σ) v) → ∀ v ∈ st', wv (zN σ) v)
    (h : ∀ (p : Program) (e : Env) (s : State) (m : MethodId) (args : Array Value) (below : List Frame) (meth : Method) (c : Code), Cx g μ CX p s m args meth c → ∀ (H : Heap) (locs : List Loc) (cells slots : Nat) (ρ : Nat → Nat) (lr : Array Slot) (Q : State → Prop), Cn g ρ σ H → va_S (bs g.2.2.2.1) s.heap H locs → (∀ v ∈ st0, wv (zN σ) v) → (wl g.2.2.1 ρ σ)[ps σ a]? = some (ρ a, ent g.2.2.1 ρ σ a) →
      (∀ (H1 : Heap) (locs1 : List Loc), va_P g.2.1 vwCl ((wl g.2.2.1 ρ σ).set (ps σ a) (ρ a, e' ρ)) H1 → va_D (bs g.2.2.2.1) ((wl g.2.2.1 ρ σ).set (ps σ a) (ρ a, e' ρ)) → va_S (bs g.2.2.2.1) s.heap H1 locs1 → W p g.1 e μ.2.2.2.2.2 s m args below meth c H1 locs1 cells slots Q (F0 m pc' lr (st'.map (cv ρ)))) → W p g.1 e μ.2.2.2.2.2 s m args below meth c H locs cells slots Q (F0 m pc lr (st0.map (cv ρ))))
    (kk : V g μ E CX k n pc' ls st' σ') : V g μ E CX k n pc ls st0 σ := by
  intro p e s m args below meth c C H locs cells slots ρ ρ0 n0 lr P
  have hS := mkS C P
  obtain ⟨p1, p2, p3, p4, p5, p6, p7, p8, p9, p10⟩ := P
  refine h p e s m args below meth c C H locs cells slots ρ lr _ p1 hS p10 (wl_get h0 hk19 (ha p10)) fun H1 locs1 hP hD hS1 => ?_
  rw [wl_set h0 hk19 (ha p10) hn hkk (hs ρ _) (he ρ)] at hP hD
  refine kk p e s m args below meth c C H1 locs1 cells slots ρ ρ0 n0 lr ⟨⟨hP, hD, Nat.le_trans C.2.2.2.2.2.2.2.2.2.2.1 hS1.1, fun q hq => ?_, hcl p10 p1.2.2.2.2.1, by rw [hn]; exact p1.2.2.2.2.2.1, by rw [hkk]; exact p1.2.2.2.2.2.2.1, p1.2.2.2.2.2.2.2.1, FZ_wr hk19 hk23 hn hkk hll hfz p1.2.2.2.2.2.2.2.2⟩, hS1.2.2, p3, p4, hS1.1, p6, by rw [hn]; exact p7, p8, by rw [hn]; exact p9, by rw [hn]; exact hw p10⟩
  rw [hS1.2.1 q (Nat.lt_of_lt_of_le hq C.2.2.2.2.2.2.2.2.2.2.1) (Nat.not_le.mpr hq)]
  exact C.2.2.2.2.2.2.2.2.2.2.2.1 q hq
theorem wr_hc {σ : AH} {x a j0 : Nat} (hx : x ≤ zN σ) (h : ∀ b j, zR σ b j ≤ zN σ) : ∀ b j, zR (uR σ a j0 x) b j ≤ zN (uR σ a j0 x) := fun b j => by
  rw [zR_uR, zN_uR]
  split
  · exact hx
  · exact h b j
/-- putfield: the abstract heap behind it is σ' -/
theorem V_putf {ci fk idx a : Nat} {C : String} {T : u_T} {v : Value} {σ' : AH} (ko : KO ci C T) (hk : Nat.blt fk (fN ci) = true) (hlink : Cond.fieldLink μ.1.cls idx (T fk).1 (T fk).2.1 (T fk).2.2.1 ∈ lw_good) (hfin : (T fk).2.2.2 = false ∨ ((T fk).2.2.2 = true ∧ μ.1.name = "<init>" ∧ (T fk).1 = μ.1.cls)) (hd : decode μ.2.1 pc = .ok (.putfield idx, 3)) (h0 : a ≠ 0) (hK : zK σ a = ci)
    (hn : zN σ' = zN σ) (hkk : ∀ b, zK σ' b = zK σ b) (hll : ∀ b, zL σ' b = zL σ b) (hfz : ∀ b, b ≠ a → ∀ j, zI σ' b j = zI σ b j ∧ zJ σ' b j = zJ σ b j) (hK' : zK σ' a = ci) (hs : ∀ ρ dA b, b ≠ a → ent dA ρ σ' b = ent dA ρ σ b) (hf : ∀ j, j ≠ fk → fva σ' a (fT ci j) j = fva σ a (fT ci j) j) (hv : fva σ' a (fT ci fk) fk = v) (hcl : wv (zN σ) v → (∀ b j, zR σ b j ≤ zN σ) → ∀ b j, zR σ' b j ≤ zN σ')
    (hnar : ∀ ρ, narrow (fT ci fk) (cv ρ v) = cv ρ v) (hfit : ∀ ρ, fits (fT ci fk) (cv ρ v) = true)
    (kk : V g μ E CX k n (pc + 3) ls st σ') : V g μ E CX k n pc ls (v :: .ref a :: st) σ := by
  have hk' : fk < fN ci := by simpa [Nat.blt_eq] using hk
  refine V_write (a := a) (σ' := σ') (e' := fun ρ => .inr (ci, ((List.range (fN ci)).map (fun k => fv ρ σ a (fT ci k) k)).set fk (cv ρ v))) h0 (by rw [hK]; have := ko.2.2.2.2; omega) hkk (fun q => by rw [hK] at q; have := ko.2.2.2.2; omega) hll hfz (fun h => wv_hd (wv_tail h)) hn hs (fun ρ => ?_) (fun h hc => hcl (wv_hd h) hc) (fun h => wv_tail2 h) (fun p e s m args below meth c C H locs cells slots ρ lr Q hCn hS hst hg k => ?_) kk
  · rw [ent_obj hK' ko.2.2.2.2]
    refine congrArg _ (congrArg _ (fv_set hk' (fun j hj => ?_) ?_).symm)
    · rw [fv_fva, fv_fva, hf j hj]
    · rw [fv_fva, hv]
  · rw [List.map_cons, List.map_cons, cv_ref h0]
    rw [ent_obj hK ko.2.2.2.2] at hg
    rcases hfin with hfin | ⟨hfin, h1, h2⟩
    · exact va_put C.1 C.2.1 C.2.2.2.2.1 ko.2.1 (fT ci) ko.2.2.1 ko.2.2.2.1 C.2.2.2.1 C.2.2.2.2.2.2.2.2.2.1.1 hCn.1 hCn.2.1 hS (ps σ a) hg ko.1 fk hk' (C.2.2.2.2.1 _ hlink) (fun _ h => h) hfin (ko.2.2.1 fk hk') (hnar ρ) (hfit ρ) (by simpa using hk') hd k
    · exact va_putF C.1 C.2.1 C.2.2.2.2.1 ko.2.1 (fT ci) ko.2.2.1 ko.2.2.2.1 C.2.2.2.1 C.2.2.2.2.2.2.2.2.2.1.1 hCn.1 hCn.2.1 hS (ps σ a) hg ko.1 fk hk' (C.2.2.2.2.1 _ hlink) (fun _ h => h) hfin (C.2.2.2.2.2.2.2.1.trans h1) h2 (ko.2.2.1 fk hk') (hnar ρ) (hfit ρ) (by simpa using hk') hd k
theorem V_puti {ci fk idx a : Nat} {C : String} {T : u_T} {x : Int32} (ko : KO ci C T) (hk : Nat.blt fk (fN ci) = true) (hlink : Cond.fieldLink μ.1.cls idx (T fk).1 (T fk).2.1 (T fk).2.2.1 ∈ lw_good) (hfin : (T fk).2.2.2 = false ∨ ((T fk).2.2.2 = true ∧ μ.1.name = "<init>" ∧ (T fk).1 = μ.1.cls)) (hd : decode μ.2.1 pc = .ok (.putfield idx, 3)) (hty : fT ci fk = .int) (h0 : a ≠ 0) (hK : zK σ a = ci)
    (kk : V g μ E CX k n (pc + 3) ls st (uI σ a fk x)) : V g μ E CX k n pc ls (.int x :: .ref a :: st) σ := by
  refine V_putf (σ' := uI σ a fk x) ko hk hlink hfin hd h0 hK rfl (fun _ => rfl) (fun _ => rfl) fz_uI hK (fun ρ dA b hb => ent_uI hb) (fun j hj => ?_) (by rw [hty]; show Value.int _ = _; rw [zI_uI, if_pos ⟨rfl, rfl⟩]) (fun _ h => h) (fun _ => by rw [hty]; rfl) (fun _ => by rw [hty]; rfl) kk
  generalize fT ci j = t
  cases t <;> first | rfl | (show Value.int _ = Value.int _; rw [zI_uI, if_neg (fun q => hj q.2)])
theorem V_putz {ci fk idx a : Nat} {C : String} {T : u_T} {x : Int32} (ko : KO ci C T) (hk : Nat.blt fk (fN ci) = true) (hlink : Cond.fieldLink μ.1.cls idx (T fk).1 (T fk).2.1 (T fk).2.2.1 ∈ lw_good) (hfin : (T fk).2.2.2 = false ∨ ((T fk).2.2.2 = true ∧ μ.1.name = "<init>" ∧ (T fk).1 = μ.1.cls)) (hd : decode μ.2.1 pc = .ok (.putfield idx, 3)) (hty : fT ci fk = .boolean) (h0 : a ≠ 0) (hK : zK σ a = ci) (hx : narrow .boolean (.int x) = .int x) (hx2 : fits .boolean (.int x) = true)
    (kk : V g μ E CX k n (pc + 3) ls st (uI σ a fk x)) : V g μ E CX k n pc ls (.int x :: .ref a :: st) σ := by
  refine V_putf (σ' := uI σ a fk x) ko hk hlink hfin hd h0 hK rfl (fun _ => rfl) (fun _ => rfl) fz_uI hK (fun ρ dA b hb => ent_uI hb) (fun j hj => ?_) (by rw [hty]; show Value.int _ = _; rw [zI_uI, if_pos ⟨rfl, rfl⟩]) (fun _ h => h) (fun _ => by rw [hty]; exact hx) (fun _ => by rw [hty]; exact hx2) kk
  generalize fT ci j = t
  cases t <;> first | rfl | (show Value.int _ = Value.int _; rw [zI_uI, if_neg (fun q => hj q.2)])
theorem V_putl {ci fk idx a : Nat} {C : String} {T : u_T} {x : Int64} (ko : KO ci C T) (hk : Nat.blt fk (fN ci) = true) (hlink : Cond.fieldLink μ.1.cls idx (T fk).1 (T fk).2.1 (T fk).2.2.1 ∈ lw_good) (hfin : (T fk).2.2.2 = false ∨ ((T fk).2.2.2 = true ∧ μ.1.name = "<init>" ∧ (T fk).1 = μ.1.cls)) (hd : decode μ.2.1 pc = .ok (.putfield idx, 3)) (hty : fT ci fk = .long) (h0 : a ≠ 0) (hK : zK σ a = ci)
    (kk : V g μ E CX k n (pc + 3) ls st (uJ σ a fk x)) : V g μ E CX k n pc ls (.long x :: .ref a :: st) σ := by
  refine V_putf (σ' := uJ σ a fk x) ko hk hlink hfin hd h0 hK rfl (fun _ => rfl) (fun _ => rfl) fz_uJ hK (fun ρ dA b hb => ent_uJ hb) (fun j hj => ?_) (by rw [hty]; show Value.long _ = _; rw [zJ_uJ, if_pos ⟨rfl, rfl⟩]) (fun _ h => h) (fun _ => by rw [hty]; rfl) (fun _ => by rw [hty]; rfl) kk
  generalize fT ci j = t
  cases t <;> first | rfl | (show Value.long _ = Value.long _; rw [zJ_uJ, if_neg (fun q => hj q.2)])
theorem nar_ref {ty : FieldType} (h : ty.isReference = true) (ρ : Nat → Nat) (x : Nat) : narrow ty (cv ρ (.ref x)) = cv ρ (.ref x) ∧ fits ty (cv ρ (.ref x)) = true := by
  by_cases h0 : x = 0
  · subst h0
    cases ty <;> first | (exact absurd h (by decide)) | exact ⟨rfl, rfl⟩
  · rw [cv_ref h0]
    cases ty <;> first | (exact absurd h (by decide)) | exact ⟨rfl, rfl⟩
theorem V_putr {ci fk idx a x : Nat} {C : String} {T : u_T} (ko : KO ci C T) (hk : Nat.blt fk (fN ci) = true) (hlink : Cond.fieldLink μ.1.cls idx (T fk).1 (T fk).2.1 (T fk).2.2.1 ∈ lw_good) (hfin : (T fk).2.2.2 = false ∨ ((T fk).2.2.2 = true ∧ μ.1.name = "<init>" ∧ (T fk).1 = μ.1.cls)) (hd : decode μ.2.1 pc = .ok (.putfield idx, 3)) (hty : (fT ci fk).isReference = true) (h0 : a ≠ 0) (hK : zK σ a = ci)
    (kk : V g μ E CX k n (pc + 3) ls st (uR σ a fk x)) : V g μ E CX k n pc ls (.ref x :: .ref a :: st) σ := by
  refine V_putf (σ' := uR σ a fk x) ko hk hlink hfin hd h0 hK rfl (fun _ => rfl) (fun _ => rfl) fz_uR hK (fun ρ dA b hb => ent_uR hb) (fun j hj => ?_) ?_ (fun hx h => wr_hc hx h) (fun ρ => (nar_ref hty ρ x).1) (fun ρ => (nar_ref hty ρ x).2) kk
  · generalize fT ci j = t
    cases t <;> first | rfl | (show Value.ref _ = Value.ref _; rw [zR_uR, if_neg (fun q => hj q.2)])
  · revert hty
    generalize fT ci fk = t
    intro hty
    cases t <;> first | (exact absurd hty (by decide)) | (show Value.ref _ = _; rw [zR_uR, if_pos ⟨rfl, rfl⟩])
/-! arrays -/
theorem V_iald {a : Nat} {i : Int32} (hd : decode μ.2.1 pc = .ok (.iaload, 1)) (h0 : a ≠ 0) (hK : zK σ a = 20) (hi : vp_in i (zL σ a)) (kk : V g μ E CX k n (pc + 1) ls (.int (zI σ a i.toNatClampNeg) :: st) σ) : V g μ E CX k n pc ls (.int i :: .ref a :: st) σ := by
  refine V_step (fun hcl _ h => wv_cons wv_i (wv_tail2 h)) (fun p e s m args below meth c C H locs cells slots ρ lr Q hCn hlr hst _ k => ?_) kk
  rw [List.map_cons, List.map_cons, cv_ref h0]
  exact va_iald C.1 C.2.1 C.2.2.2.2.2.2.2.2.2.1.1 hCn.1 (ps σ a) 0 (by rw [wl_get h0 (ne9 hK (by decide)) (wv_hd (wv_tail hst)), ent_ia hK]) rfl hi hd k
theorem V_lald {a : Nat} {i : Int32} (hd : decode μ.2.1 pc = .ok (.laload, 1)) (h0 : a ≠ 0) (hK : zK σ a = 21) (hi : vp_in i (zL σ a)) (kk : V g μ E CX k n (pc + 1) ls (.long (zJ σ a i.toNatClampNeg) :: st) σ) : V g μ E CX k n pc ls (.int i :: .ref a :: st) σ := by
  refine V_step (fun hcl _ h => wv_cons wv_l (wv_tail2 h)) (fun p e s m args below meth c C H locs cells slots ρ lr Q hCn hlr hst _ k => ?_) kk
  rw [List.map_cons, List.map_cons, cv_ref h0]
  exact va_lald C.1 C.2.1 C.2.2.2.2.2.2.2.2.2.1.1 hCn.1 (ps σ a) 1 (by rw [wl_get h0 (ne9 hK (by decide)) (wv_hd (wv_tail hst)), ent_ja hK]) rfl hi hd k
/-- an array of references: of which class, by the kind; its place among the tables' words -/
def AO (κ : Nat) (C : String) (t0 : Nat) : Prop := 30 ≤ κ ∧ ∀ dA : Nat → ClassId, (tysOf dA)[t0]? = some (dA κ, .object C)
theorem ao_30 : AO 30 RX0 3 := ⟨by decide, fun _ => rfl⟩
theorem ao_32 : AO 32 RX2 4 := ⟨by decide, fun _ => rfl⟩
theorem ao_33 : AO 33 RX3 5 := ⟨by decide, fun _ => rfl⟩
theorem ao_35 : AO 35 RX5 6 := ⟨by decide, fun _ => rfl⟩
theorem ao_39 : AO 39 RX9 7 := ⟨by decide, fun _ => rfl⟩
theorem V_aald {a κ t0 : Nat} {C : String} {i : Int32} (ao : AO κ C t0) (hd : decode μ.2.1 pc = .ok (.aaload, 1)) (h0 : a ≠ 0) (hK : zK σ a = κ) (hi : vp_in i (zL σ a)) (kk : V g μ E CX k n (pc + 1) ls (.ref (zR σ a i.toNatClampNeg) :: st) σ) : V g μ E CX k n pc ls (.int i :: .ref a :: st) σ := by
  refine V_step (fun hcl _ h => wv_cons (show wv (zN σ) (.ref (zR σ a i.toNatClampNeg)) from hcl _ _) (wv_tail2 h)) (fun p e s m args below meth c C H locs cells slots ρ lr Q hCn hlr hst _ k => ?_) kk
  rw [List.map_cons, List.map_cons, cv_ref h0]
  refine va_aldq C.1 C.2.1 C.2.2.2.2.2.2.2.2.2.1.1 hCn.1 (ps σ a) t0 (by rw [wl_get h0 (ne9 hK (by have := ao.1; omega)) (wv_hd (wv_tail hst)), ent_qa hK ao.1]) (ao.2 _) hi hd ?_
  rw [cv_rf]
  exact k
theorem V_iast {a : Nat} {i x : Int32} (hd : decode μ.2.1 pc = .ok (.iastore, 1)) (h0 : a ≠ 0) (hK : zK σ a = 20) (hi : vp_in i (zL σ a)) (kk : V g μ E CX k n (pc + 1) ls st (uI σ a i.toNatClampNeg x)) : V g μ E CX k n pc ls (.int x :: .int i :: .ref a :: st) σ := by
  refine V_write (a := a) (σ' := uI σ a i.toNatClampNeg x) (e' := fun ρ => .inl (g.2.2.1 20, zL σ a, .inl (upd (zI σ a) i.toNatClampNeg x))) h0 (by rw [hK]; decide) (fun _ => rfl) (fun q => by rw [hK] at q; first | (have := ao.1; omega) | exact absurd q (by decide)) (fun _ => rfl) fz_uI (fun h => wv_hd (wv_tail2 h)) rfl (fun ρ dA b hb => ent_uI hb) (fun ρ => ?_) (fun _ h => h) (fun h => wv_tail3 h) (fun p e s m args below meth c C H locs cells slots ρ lr Q hCn hS hst hg k => ?_) kk
  · rw [ent_ia (by rw [zK_uI]; exact hK)]
    congr 3
    refine congrArg Sum.inl ?_
    funext j
    rw [zI_uI]
    simp [upd]
  · rw [List.map_cons, List.map_cons, List.map_cons, cv_ref h0]
    rw [ent_ia hK] at hg
    exact va_iast C.1 C.2.1 C.2.2.2.2.2.2.2.2.2.1.1 hCn.1 hCn.2.1 hS (ps σ a) 0 hg rfl hi hd k
theorem V_last {a : Nat} {i : Int32} {x : Int64} (hd : decode μ.2.1 pc = .ok (.lastore, 1)) (h0 : a ≠ 0) (hK : zK σ a = 21) (hi : vp_in i (zL σ a)) (kk : V g μ E CX k n (pc + 1) ls st (uJ σ a i.toNatClampNeg x)) : V g μ E CX k n pc ls (.long x :: .int i :: .ref a :: st) σ := by
  refine V_write (a := a) (σ' := uJ σ a i.toNatClampNeg x) (e' := fun ρ => .inl (g.2.2.1 21, zL σ a, .inr (.inl (vp_updL (zJ σ a) i.toNatClampNeg x)))) h0 (by rw [hK]; decide) (fun _ => rfl) (fun q => by rw [hK] at q; first | (have := ao.1; omega) | exact absurd q (by decide)) (fun _ => rfl) fz_uJ (fun h => wv_hd (wv_tail2 h)) rfl (fun ρ dA b hb => ent_uJ hb) (fun ρ => ?_) (fun _ h => h) (fun h => wv_tail3 h) (fun p e s m args below meth c C H locs cells slots ρ lr Q hCn hS hst hg k => ?_) kk
  · rw [ent_ja (by rw [zK_uJ]; exact hK)]
    congr 3
    refine congrArg _ (congrArg _ ?_)
    funext j
    rw [zJ_uJ]
    simp [vp_updL]
  · rw [List.map_cons, List.map_cons, List.map_cons, cv_ref h0]
    rw [ent_ja hK] at hg
    exact va_last C.1 C.2.1 C.2.2.2.2.2.2.2.2.2.1.1 hCn.1 hCn.2.1 hS (ps σ a) 1 hg rfl hi hd k
theorem V_aast {a κ t0 ci x : Nat} {C : String} {T : u_T} {i : Int32} (ao : AO κ C t0) (ko : KO ci C T) (hd : decode μ.2.1 pc = .ok (.aastore, 1)) (h0 : a ≠ 0) (hK : zK σ a = κ) (hi : vp_in i (zL σ a)) (hx0 : x ≠ 0) (hx : zK σ x = ci) (kk : V g μ E CX k n (pc + 1) ls st (uR σ a i.toNatClampNeg x)) : V g μ E CX k n pc ls (.ref x :: .int i :: .ref a :: st) σ := by
  refine V_write (a := a) (σ' := uR σ a i.toNatClampNeg x) (e' := fun ρ => .inl (g.2.2.1 κ, zL σ a, .inr (.inr (.inr (.inr (va_up (fun j => oref ρ (zR σ a j)) i.toNatClampNeg (some (ρ x)))))))) h0 (by rw [hK]; have := ao.1; omega) (fun _ => rfl) (fun q => by rw [hK] at q; first | (have := ao.1; omega) | exact absurd q (by decide)) (fun _ => rfl) fz_uR (fun h => wv_hd (wv_tail2 h)) rfl (fun ρ dA b hb => ent_uR hb) (fun ρ => ?_) (fun h hc => wr_hc (wv_hd h) hc) (fun h => wv_tail3 h) (fun p e s m args below meth c C H locs cells slots ρ lr Q hCn hS hst hg k => ?_) kk
  · rw [ent_qa (by rw [zK_uR]; exact hK) ao.1]
    congr 3
    refine congrArg _ (congrArg _ (congrArg _ (congrArg _ ?_)))
    funext j
    rw [zR_uR]
    by_cases hj : j = i.toNatClampNeg
    · rw [if_pos ⟨rfl, hj⟩]; simp [va_up, hj, oref, hx0]
    · rw [if_neg (fun q => hj q.2)]; simp [va_up, hj]
  · rw [List.map_cons, List.map_cons, List.map_cons, cv_ref h0, cv_ref hx0]
    rw [ent_qa hK ao.1] at hg
    exact va_astq C.1 C.2.1 C.2.2.2.2.2.2.2.2.2.1.1 hCn.1 hCn.2.1 hS (ps σ a) t0 (ps σ x) ci hg (ao.2 _) (by rw [wl_get hx0 (ne9 hx (by have := ko.2.2.2.2; omega)) (wv_hd hst), ent_obj hx ko.2.2.2.2]) ko.1 hi hd k
theorem V_alen {a κ : Nat} (hd : decode μ.2.1 pc = .ok (.arraylength, 1)) (h0 : a ≠ 0) (hK : zK σ a = 20) (kk : V g μ E CX k n (pc + 1) ls (.int (nI (zL σ a)) :: st) σ) : V g μ E CX k n pc ls (.ref a :: st) σ := by
  refine V_step (fun hcl _ h => wv_cons wv_i (wv_tail h)) (fun p e s m args below meth c C H locs cells slots ρ lr Q hCn hlr hst _ k => ?_) kk
  rw [List.map_cons, cv_ref h0]
  exact va_alen (x := (zL σ a, .inl (zI σ a))) (v := nI (zL σ a)) C.1 C.2.1 C.2.2.2.2.2.2.2.2.2.1.1 hCn.1 (ps σ a) 0 (by rw [wl_get h0 (ne9 hK (by decide)) (wv_hd hst), ent_ia hK]) rfl rfl hd k
/-! the law's own arrays: kind 23 -/
theorem V_gald {a : Nat} {i : Int32} (hd : decode μ.2.1 pc = .ok (.iaload, 1)) (h0 : a ≠ 0) (hK : zK σ a = 23) (hi : vp_in i (zL σ a)) (kk : V g μ E CX k n (pc + 1) ls (.int (zI σ a i.toNatClampNeg) :: st) σ) : V g μ E CX k n pc ls (.int i :: .ref a :: st) σ := by
  refine V_step (fun hcl _ h => wv_cons wv_i (wv_tail2 h)) (fun p e s m args below meth c C H locs cells slots ρ lr Q hCn hlr hst _ k => ?_) kk
  rw [List.map_cons, List.map_cons, cv_ref h0]
  exact va_iald C.1 C.2.1 C.2.2.2.2.2.2.2.2.2.1.1 hCn.1 (ps σ a) 0 (by rw [wl_get h0 (ne9 hK (by decide)) (wv_hd (wv_tail hst)), ent_ga hK]) rfl hi hd k
theorem V_gast {a : Nat} {i x : Int32} (hd : decode μ.2.1 pc = .ok (.iastore, 1)) (hg : gG g = none) (h0 : a ≠ 0) (hK : zK σ a = 23) (hi : vp_in i (zL σ a)) (kk : V g μ E CX k n (pc + 1) ls st (uI σ a i.toNatClampNeg x)) : V g μ E CX k n pc ls (.int x :: .int i :: .ref a :: st) σ := by
  refine V_write (a := a) (σ' := uI σ a i.toNatClampNeg x) (e' := fun ρ => .inl (g.2.2.1 20, zL σ a, .inl (upd (zI σ a) i.toNatClampNeg x))) h0 (by rw [hK]; decide) (fun _ => rfl) (fun _ => hg) (fun _ => rfl) fz_uI (fun h => wv_hd (wv_tail2 h)) rfl (fun ρ dA b hb => ent_uI hb) (fun ρ => ?_) (fun _ h => h) (fun h => wv_tail3 h) (fun p e s m args below meth c C H locs cells slots ρ lr Q hCn hS hst hg k => ?_) kk
  · rw [ent_ga (by rw [zK_uI]; exact hK)]
    congr 3
    refine congrArg Sum.inl ?_
    funext j
    rw [zI_uI]
    simp [upd]
  · rw [List.map_cons, List.map_cons, List.map_cons, cv_ref h0]
    rw [ent_ga hK] at hg
    exact va_iast C.1 C.2.1 C.2.2.2.2.2.2.2.2.2.1.1 hCn.1 hCn.2.1 hS (ps σ a) 0 hg rfl hi hd k
/-! the script, which is no cell -/
theorem V_sld {i : Nat} (hi : i < gL g) (hd : decode μ.2.1 pc = .ok (.iaload, 1)) (kk : V g μ E CX k n (pc + 1) ls (.int (gX g i) :: st) σ) : V g μ E CX k n pc ls (.int (nI i) :: .ref 1 :: st) σ := by
  intro p e s m args below meth c C H locs cells slots ρ ρ0 n0 lr P
  have hS := mkS C P
  obtain ⟨x3, x4, x5⟩ := C.2.2.2.2.2.2.2.2.2.1.2.2.2.2.2.2.2.2.2
  obtain ⟨p1, p2, p3, p4, p5, p6, p7, p8, p9, p10⟩ := P
  have hρ : ρ 1 = gB g := p1.2.2.2.2.2.2.2.1
  have K := kk p e s m args below meth c C H locs cells slots ρ ρ0 n0 lr ⟨p1, p2, p3, p4, p5, p6, p7, p8, p9, wv_cons wv_i (wv_tail2 p10)⟩
  have ci : (nI i).toNatClampNeg = i := nI_clamp (by omega)
  rw [List.map_cons, List.map_cons, cv_ref (by decide), hρ]
  have hb2 : gB g < s.heap.size := Nat.lt_of_lt_of_le x4 C.2.2.2.2.2.2.2.2.2.2.1
  refine va_sld (A := bs g.2.2.2.1) (i := nI i) C.1 C.2.1 (va_X.kept x3 (C.2.2.2.2.2.2.2.2.2.2.2.1 _ x4)) hb2 (Nat.not_le.mpr x4) hS (vp_in_nI hi (by omega)) hd ?_
  rw [ci]
  exact K
theorem V_slen (hd : decode μ.2.1 pc = .ok (.arraylength, 1)) (kk : V g μ E CX k n (pc + 1) ls (.int (nI (gL g)) :: st) σ) : V g μ E CX k n pc ls (.ref 1 :: st) σ := by
  intro p e s m args below meth c C H locs cells slots ρ ρ0 n0 lr P
  have hS := mkS C P
  obtain ⟨x3, x4, x5⟩ := C.2.2.2.2.2.2.2.2.2.1.2.2.2.2.2.2.2.2.2
  obtain ⟨p1, p2, p3, p4, p5, p6, p7, p8, p9, p10⟩ := P
  have hρ : ρ 1 = gB g := p1.2.2.2.2.2.2.2.1
  have K := kk p e s m args below meth c C H locs cells slots ρ ρ0 n0 lr ⟨p1, p2, p3, p4, p5, p6, p7, p8, p9, wv_cons wv_i (wv_tail p10)⟩
  rw [List.map_cons, cv_ref (by decide), hρ]
  have hb2 : gB g < s.heap.size := Nat.lt_of_lt_of_le x4 C.2.2.2.2.2.2.2.2.2.2.1
  exact va_slen (A := bs g.2.2.2.1) C.1 C.2.1 (va_X.kept x3 (C.2.2.2.2.2.2.2.2.2.2.2.1 _ x4)) hb2 (Nat.not_le.mpr x4) hS hd K
end VH
