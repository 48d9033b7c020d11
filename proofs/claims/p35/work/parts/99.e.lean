/-! ===== out of the skeleton: the end of the law ===== -/
def R_law : String := "ProratehouseLaw"
def lw_P (b : Addr) (xs : List Int32) (args : Array Value) (s : State) : Prop := args = #[.ref b] ∧ s.IntsAt b xs ∧ xs.length ≤ 260 ∧ (Jvm.Cond.and given_1 narrow_1).before args s = true
def lw_Q (_ : Array Value) (s : State) (o : Outcome) (t : State) : Prop := o = .returned (some (.int 1)) ∧ Framed s o t [] 600074 7301550
def lw_Z (below : List Frame) (a : Array Value) (s : State) : State → Prop := fun t => ∃ o, t.status = .running ∧ Ended t below o ∧ lw_Q a s o t
/-- the law's own end, with 1 on the stack, nothing written that was there before, its room as the claim has it -/
theorem lw_ret {p : Program} {l : Launch} {e : Env} {s : State} {m : MethodId} {below : List Frame} {meth : Method} {c : Code} {b : Nat} (hx : p.tables.exec = Jvm.exec) (hb : c.code = code) (hr : meth.sig.returnType = ret) (hlocks : meth.locks = false) {pc : Nat} {H : Heap} {ls : Array Slot} (hdg : decode code pc = .ok (.ireturn, 1)) : W p l e room_1 s m #[Value.ref b] below meth c H [] 600074 7301550 (lw_Z below #[Value.ref b] s) (F0 m pc ls [.int 1]) := by
  intro T hT X
  obtain ⟨fs, hret, hrun, hended, hW, hframe⟩ := X.leave (v := some (.int 1)) (hlocks := hlocks) (fun h => by rw [hr] at h; cases h)
  have hmeth' : T.vm.method? m = some meth := X.method'
  refine ⟨T.setFrames fs, ?_, .returned (some (.int 1)), hrun, hended, rfl, ⟨_, rfl⟩, hW, hframe⟩
  jvm_step X.here [X.here.top, hx, hb, hdg, hmeth', hr, ret, narrow_b1]
  (try refine ⟨rfl, ?_⟩); (try refine ⟨rfl, ?_⟩)
  first | (intro acts; rw [hret _ acts rfl rfl rfl]) | rw [hret _ _ rfl rfl rfl]
  exact Steps.refl _
/-! ===== the law: its judgement ===== -/
def mLaw : MI := (x, code, 8, ret, [], room_1)
def CXl (g : GP) (b : Nat) : State → Array Value → Prop := fun s args => args = #[Value.ref b] ∧ s.heap = g.2.2.2.1
def ELw (b : Nat) : ET := fun below _ s _ _ => lw_Z below #[Value.ref b] s
/-- the end: true -/
theorem V_true {g : GP} {b k n pc : Nat} {ls : List (Nat × Value)} {σ : AH} (hd : decode code pc = .ok (.ireturn, 1)) : V g mLaw (ELw b) (CXl g b) k n pc ls [.int 1] σ := by
  intro p e s m args below meth c C H locs cells slots ρ ρ0 n0 lr P
  obtain ⟨x1, x2⟩ := C.2.2.2.2.2.2.2.2.2.2.2.2.2
  obtain ⟨p1, p2, p3, p4, p5, p6, p7, p8, p9, p10⟩ := P
  subst x1
  refine va_forget (fun q hq => ?_) (W.widen (k := 600074) (n := 7301550) ?_ ?_ (lw_ret C.1 C.2.1 C.2.2.2.2.2.2.1 C.2.2.2.2.2.1 hd))
  · rw [x2]; exact p2 q hq
  · have : mLaw.2.2.2.2.2.cells = 600074 := rfl
    omega
  · have : mLaw.2.2.2.2.2.slots = 7301550 := rfl
    omega
theorem law_244 {g : GP} {b : Nat} {σ : AH} {s : Nat} (hg : gG g = none) (h : Co s σ) (hE : GE s σ) {c : Nat} {ω : AH} (Kω : Kp ω σ) : V g mLaw (ELw b) (CXl g b) 45 270 244 [(0, .ref 1), (1, .ref 2), (2, .ref 73), (3, .ref 74), (4, .int (1 : Int32)), (5, .int (nI c))] [] ω := by
  refine V_iload dW_244 rfl ?_
  refine V_if_eq 261 dW_246 rfl (fun z_ => absurd z_ (by decide)) (fun _ => ?_)
  refine V_aload_n dW_249 rfl ?_
  refine V_aload_n dW_250 rfl ?_
  refine V_cKs (as := [.ref 2, .ref 73]) (k' := 0) (n' := 0) (s_L_balances hg h hE Kω) mw_L_balances w_354 w_353 ar_L_balances ⟨rfl, rfl, rfl, rfl, rfl⟩ dW_251 (fun ω1 K1 => ?_)
  refine V_if_eq 261 dW_254 rfl (fun z_ => absurd z_ (by decide)) (fun _ => ?_)
  refine V_iconst (1 : Int32) dW_257 (by decide) ?_
  refine V_goto 262 dW_258 rfl ?_
  exact V_true dW_262
theorem law_216 {g : GP} {b : Nat} {σ : AH} {s : Nat} (hg : gG g = none) (h : Co s σ) (hE : GE s σ) {nb : Nat} (hb : zI σ 33 36 = nI nb) (b240 : nb ≤ 240) (g3 : zI σ 73 3 = nI nb) : ∀ r c ω, c + r = nb → Kp ω σ → V g mLaw (ELw b) (CXl g b) (6 * r + 45) (36 * r + 270) 216 [(0, .ref 1), (1, .ref 2), (2, .ref 73), (3, .ref 74), (4, .int (1 : Int32)), (5, .int (nI c))] [] ω := by
  intro r
  induction r with
  | zero =>
    intro c ω hc Kω
    refine V_iload dW_216 rfl ?_
    refine V_aload_n dW_218 rfl ?_
    refine V_iconst (3 : Int32) dW_219 (by decide) ?_
    refine V_gald dW_220 (by decide) (ga73 Kω.2.1).1 (vp_l (n := 7) (ga73 Kω.2.1).2 (vp_in_nI (n := 3) (by decide) (by decide))) ?_
    refine V_cast (st' := .int (zI ω 73 3) :: [.int (nI c)]) rfl rfl rfl ?_
    refine V_cast (st' := .int (nI nb) :: [.int (nI c)]) rfl (by rw [gk Kω.2.2 3, g3]) rfl ?_
    refine V_icmp_ge 244 dW_221 rfl (fun _ => ?_) (fun z_ => absurd (show (nI nb) ≤ (nI c) from c_le (by omega) (by omega)) z_)
    exact V_less (fun q hq => hq) (by omega) (by omega) (law_244 hg h hE Kω)
  | succ r ih =>
    intro c ω hc Kω
    have hcb : c < nb := by omega
    have IH := fun ω Kω => ih (c + 1) ω (by omega) Kω
    have ekk : 6 * (r + 1) + 45 = (6 * r + 45) + 6 ∧ 36 * (r + 1) + 270 = (36 * r + 270) + 36 := ⟨by omega, by omega⟩
    rw [ekk.1, ekk.2]
    generalize 6 * r + 45 = kk at IH ⊢
    generalize 36 * r + 270 = nn at IH ⊢
    refine V_iload dW_216 rfl ?_
    refine V_aload_n dW_218 rfl ?_
    refine V_iconst (3 : Int32) dW_219 (by decide) ?_
    refine V_gald dW_220 (by decide) (ga73 Kω.2.1).1 (vp_l (n := 7) (ga73 Kω.2.1).2 (vp_in_nI (n := 3) (by decide) (by decide))) ?_
    refine V_cast (st' := .int (zI ω 73 3) :: [.int (nI c)]) rfl rfl rfl ?_
    refine V_cast (st' := .int (nI nb) :: [.int (nI c)]) rfl (by rw [gk Kω.2.2 3, g3]) rfl ?_
    refine V_icmp_ge 244 dW_221 rfl (fun z_ => absurd z_ (show ¬ ((nI nb) ≤ (nI c)) from c_nle (by omega) (by omega))) (fun _ => ?_)
    refine V_iload dW_224 rfl ?_
    refine V_if_eq 244 dW_226 rfl (fun z_ => absurd z_ (by decide)) (fun _ => ?_)
    refine V_aload_n dW_229 rfl ?_
    refine V_aload_n dW_230 rfl ?_
    refine V_iload dW_231 rfl ?_
    refine V_cKs (as := [.ref 2, .ref 73, .int (nI c)]) (k' := kk + 0) (n' := nn + 0) (s_L_isBill hg h hE hb b240 hcb Kω) mw_L_isBill w_448 w_447 ar_L_isBill ⟨rfl, rfl, Nat.ble_eq_true_of_le (show 6 + (kk + 0) ≤ kk + 6 by omega), Nat.ble_eq_true_of_le (show 36 + (nn + 0) ≤ nn + 36 by omega), rfl⟩ dW_233 (fun ω1 K1 => ?_)
    refine V_istore [(0, .ref 1), (1, .ref 2), (2, .ref 73), (3, .ref 74), (4, .int (1 : Int32)), (5, .int (nI c))] dW_236 rfl rfl ?_
    refine V_iinc (nI (c + 1)) [(0, .ref 1), (1, .ref 2), (2, .ref 73), (3, .ref 74), (4, .int (1 : Int32)), (5, .int (nI (c + 1)))] dW_238 (nI_1 c) rfl rfl rfl ?_
    refine V_goto 216 dW_241 rfl ?_
    exact IH ω1 K1
theorem law_185 {g : GP} {b : Nat} {σ : AH} {s : Nat} (hg : gG g = none) (h : Co s σ) (hE : GE s σ) {nb : Nat} (hb : zI σ 33 36 = nI nb) (b240 : nb ≤ 240) (g3 : zI σ 73 3 = nI nb) {n : Nat} (hn : zI σ 33 23 = nI n) (n30 : n ≤ 30) (g2 : zI σ 73 2 = nI n) (htk : ∀ t, t < n → ∃ m, 1 ≤ m ∧ m ≤ 8 ∧ zI σ 52 t = nI m) : ∀ r c ω, c + r = n → Kp ω σ → V g mLaw (ELw b) (CXl g b) (78 * r + 1485) (468 * r + 8910) 185 [(0, .ref 1), (1, .ref 2), (2, .ref 73), (3, .ref 74), (4, .int (1 : Int32)), (5, .int (nI c))] [] ω := by
  intro r
  induction r with
  | zero =>
    intro c ω hc Kω
    refine V_iload dW_185 rfl ?_
    refine V_aload_n dW_187 rfl ?_
    refine V_iconst (2 : Int32) dW_188 (by decide) ?_
    refine V_gald dW_189 (by decide) (ga73 Kω.2.1).1 (vp_l (n := 7) (ga73 Kω.2.1).2 (vp_in_nI (n := 2) (by decide) (by decide))) ?_
    refine V_cast (st' := .int (zI ω 73 2) :: [.int (nI c)]) rfl rfl rfl ?_
    refine V_cast (st' := .int (nI n) :: [.int (nI c)]) rfl (by rw [gk Kω.2.2 2, g2]) rfl ?_
    refine V_icmp_ge 213 dW_190 rfl (fun _ => ?_) (fun z_ => absurd (show (nI n) ≤ (nI c) from c_le (by omega) (by omega)) z_)
    refine V_iconst (0 : Int32) dW_213 (by decide) ?_
    refine V_istore [(0, .ref 1), (1, .ref 2), (2, .ref 73), (3, .ref 74), (4, .int (1 : Int32)), (5, .int (0 : Int32))] dW_214 rfl rfl ?_
    exact V_less (k' := 6 * nb + 45) (n' := 36 * nb + 270) (fun q hq => hq) (by omega) (by omega) (law_216 hg h hE hb b240 g3 nb 0 ω (by omega) Kω)
  | succ r ih =>
    intro c ω hc Kω
    have hcb : c < n := by omega
    have IH := fun ω Kω => ih (c + 1) ω (by omega) Kω
    obtain ⟨m, m1, m8, hm⟩ := htk c hcb
    have ekk : 78 * (r + 1) + 1485 = (78 * r + 1485) + 78 ∧ 468 * (r + 1) + 8910 = (468 * r + 8910) + 468 := ⟨by omega, by omega⟩
    rw [ekk.1, ekk.2]
    generalize 78 * r + 1485 = kk at IH ⊢
    generalize 468 * r + 8910 = nn at IH ⊢
    refine V_iload dW_185 rfl ?_
    refine V_aload_n dW_187 rfl ?_
    refine V_iconst (2 : Int32) dW_188 (by decide) ?_
    refine V_gald dW_189 (by decide) (ga73 Kω.2.1).1 (vp_l (n := 7) (ga73 Kω.2.1).2 (vp_in_nI (n := 2) (by decide) (by decide))) ?_
    refine V_cast (st' := .int (zI ω 73 2) :: [.int (nI c)]) rfl rfl rfl ?_
    refine V_cast (st' := .int (nI n) :: [.int (nI c)]) rfl (by rw [gk Kω.2.2 2, g2]) rfl ?_
    refine V_icmp_ge 213 dW_190 rfl (fun z_ => absurd z_ (show ¬ ((nI n) ≤ (nI c)) from c_nle (by omega) (by omega))) (fun _ => ?_)
    refine V_iload dW_193 rfl ?_
    refine V_if_eq 213 dW_195 rfl (fun z_ => absurd z_ (by decide)) (fun _ => ?_)
    refine V_aload_n dW_198 rfl ?_
    refine V_aload_n dW_199 rfl ?_
    refine V_iload dW_200 rfl ?_
    refine V_cKs (as := [.ref 2, .ref 73, .int (nI c)]) (k' := kk + 0) (n' := nn + 0) (s_L_isTicket hg h hE hn n30 hcb hm m1 m8 Kω) mw_L_isTicket w_419 w_418 ar_L_isTicket ⟨rfl, rfl, Nat.ble_eq_true_of_le (show 78 + (kk + 0) ≤ kk + 78 by omega), Nat.ble_eq_true_of_le (show 468 + (nn + 0) ≤ nn + 468 by omega), rfl⟩ dW_202 (fun ω1 K1 => ?_)
    refine V_istore [(0, .ref 1), (1, .ref 2), (2, .ref 73), (3, .ref 74), (4, .int (1 : Int32)), (5, .int (nI c))] dW_205 rfl rfl ?_
    refine V_iinc (nI (c + 1)) [(0, .ref 1), (1, .ref 2), (2, .ref 73), (3, .ref 74), (4, .int (1 : Int32)), (5, .int (nI (c + 1)))] dW_207 (nI_1 c) rfl rfl rfl ?_
    refine V_goto 185 dW_210 rfl ?_
    exact IH ω1 K1
theorem law_138 {g : GP} {b : Nat} (hg : gG g = none) : ∀ r i s σ, i + r = 60 → s + 4 = i → Co s σ → GE s σ → V g mLaw (ELw b) (CXl g b) (413 * r + 3825) (2591 * r + 22950) 138 [(0, .ref 1), (1, .ref 2), (2, .ref 73), (3, .ref 74), (4, .int (1 : Int32)), (5, .int (nI i))] [] σ := by
  intro r
  induction r with
  | zero =>
    intro i s σ hi hs h hE
    obtain ⟨nb, b240, hb, -⟩ := Rel_bl h.2.1
    obtain ⟨n, n30, hn, htk⟩ := Rel_tk h.2.1
    refine V_iload dW_138 rfl ?_
    refine V_bipush (60 : Int32) dW_140 (by decide) ?_
    refine V_icmp_ge 182 dW_142 rfl (fun _ => ?_) (fun z_ => absurd (show (nI 60) ≤ (nI i) from c_le (by omega) (by omega)) z_)
    refine V_iconst (0 : Int32) dW_182 (by decide) ?_
    refine V_istore [(0, .ref 1), (1, .ref 2), (2, .ref 73), (3, .ref 74), (4, .int (1 : Int32)), (5, .int (0 : Int32))] dW_183 rfl rfl ?_
    exact V_less (k' := 78 * n + 1485) (n' := 468 * n + 8910) (fun q hq => hq) (by omega) (by omega) (law_185 hg h hE hb b240 (hE.2.2.2.1.trans hb) hn n30 (hE.2.2.1.trans hn) (fun t ht => (htk t ht).imp fun m hm => ⟨hm.1, hm.2.1, hm.2.2.1⟩) n 0 σ (by omega) (Co_Kp h))
  | succ r ih =>
    intro i s σ hi hs h hE
    have IH := fun ω Cω Gω => ih (i + 1) (s + 1) ω (by omega) (by omega) Cω Gω
    have ekk : 413 * (r + 1) + 3825 = (413 * r + 3825) + 413 ∧ 2591 * (r + 1) + 22950 = (2591 * r + 22950) + 2591 := ⟨by omega, by omega⟩
    rw [ekk.1, ekk.2]
    generalize 413 * r + 3825 = kk at IH ⊢
    generalize 2591 * r + 22950 = nn at IH ⊢
    refine V_iload dW_138 rfl ?_
    refine V_bipush (60 : Int32) dW_140 (by decide) ?_
    refine V_icmp_ge 182 dW_142 rfl (fun z_ => absurd z_ (show ¬ ((nI 60) ≤ (nI i)) from c_nle (by omega) (by omega))) (fun _ => ?_)
    refine V_iload dW_145 rfl ?_
    refine V_if_eq 182 dW_147 rfl (fun z_ => absurd z_ (by decide)) (fun _ => ?_)
    refine V_aload_n dW_150 rfl ?_
    refine V_aload_n dW_151 rfl ?_
    refine V_aload_n dW_152 rfl ?_
    refine V_aload_n dW_153 rfl ?_
    refine V_iconst (2 : Int32) dW_154 (by decide) ?_
    refine V_iload dW_155 rfl ?_
    refine V_imul dW_157 ?_
    refine V_cast (st' := .int (nI (2 * i)) :: [.ref 1, .ref 74, .ref 73, .ref 2]) rfl (by rw [show (2 : Int32) * nI i = nI (2 * i) from pk_mul 2 i]) rfl ?_
    refine V_cMs (as := [.ref 1, .int (nI (2 * i))]) (k' := kk + 413) (n' := nn + 2591) (P_at (k := 2 * i) (by omega)) mw_L_at w_239 w_238 ar_L_at ⟨rfl, rfl, Nat.ble_eq_true_of_le (show 0 + (kk + 413) ≤ kk + 413 by omega), Nat.ble_eq_true_of_le (show 0 + (nn + 2591) ≤ nn + 2591 by omega), rfl⟩ dW_158 (fun ω1 y1 K1 => ?_)
    rw [K1]
    refine V_aload_n dW_161 rfl ?_
    refine V_iconst (2 : Int32) dW_162 (by decide) ?_
    refine V_iload dW_163 rfl ?_
    refine V_imul dW_165 ?_
    refine V_cast (st' := .int (nI (2 * i)) :: [.ref 1, .int y1, .ref 74, .ref 73, .ref 2]) rfl (by rw [show (2 : Int32) * nI i = nI (2 * i) from pk_mul 2 i]) rfl ?_
    refine V_iconst (1 : Int32) dW_166 (by decide) ?_
    refine V_iadd dW_167 ?_
    refine V_cast (st' := .int (nI (2 * i + 1)) :: [.ref 1, .int y1, .ref 74, .ref 73, .ref 2]) rfl (by rw [nI_1]) rfl ?_
    refine V_cMs (as := [.ref 1, .int (nI (2 * i + 1))]) (k' := kk + 413) (n' := nn + 2591) (P_at (k := 2 * i + 1) (by omega)) mw_L_at w_239 w_238 ar_L_at ⟨rfl, rfl, Nat.ble_eq_true_of_le (show 0 + (kk + 413) ≤ kk + 413 by omega), Nat.ble_eq_true_of_le (show 0 + (nn + 2591) ≤ nn + 2591 by omega), rfl⟩ dW_168 (fun ω2 y2 K2 => ?_)
    rw [K2]
    refine V_cKs (as := [.ref 2, .ref 73, .ref 74, .int y1, .int y2]) (k' := kk + 0) (n' := nn + 0) (s_L_acts hg h (by omega) hE) mw_L_acts w_576 w_575 ar_L_acts ⟨rfl, rfl, Nat.ble_eq_true_of_le (show 413 + (kk + 0) ≤ kk + 413 by omega), Nat.ble_eq_true_of_le (show 2591 + (nn + 0) ≤ nn + 2591 by omega), rfl⟩ dW_171 (fun ω3 K3 => ?_)
    obtain ⟨Cω, Gω⟩ := K3
    refine V_istore [(0, .ref 1), (1, .ref 2), (2, .ref 73), (3, .ref 74), (4, .int (1 : Int32)), (5, .int (nI i))] dW_174 rfl rfl ?_
    refine V_iinc (nI (i + 1)) [(0, .ref 1), (1, .ref 2), (2, .ref 73), (3, .ref 74), (4, .int (1 : Int32)), (5, .int (nI (i + 1)))] dW_176 (nI_1 i) rfl rfl rfl ?_
    refine V_goto 138 dW_179 rfl ?_
    exact IH ω3 Cω Gω
theorem law_103 {g : GP} {b : Nat} (hg : gG g = none) : ∀ r i σ, i + r = 8 → Co 0 σ → GE 0 σ → V g mLaw (ELw b) (CXl g b) (11 * r + 26953) (67 * r + 168046) 103 [(0, .ref 1), (1, .ref 2), (2, .ref 73), (3, .ref 74), (4, .int (1 : Int32)), (5, .int (nI i))] [] σ := by
  intro r
  induction r with
  | zero =>
    intro i σ hi h hE
    refine V_iload dW_103 rfl ?_
    refine V_bipush (8 : Int32) dW_105 (by decide) ?_
    refine V_icmp_ge 135 dW_107 rfl (fun _ => ?_) (fun z_ => absurd (show (nI 8) ≤ (nI i) from c_le (by omega) (by omega)) z_)
    refine V_iconst (4 : Int32) dW_135 (by decide) ?_
    refine V_istore [(0, .ref 1), (1, .ref 2), (2, .ref 73), (3, .ref 74), (4, .int (1 : Int32)), (5, .int (4 : Int32))] dW_136 rfl rfl ?_
    exact V_less (k' := 413 * 56 + 3825) (n' := 2591 * 56 + 22950) (fun q hq => hq) (by omega) (by omega) (law_138 hg 56 4 0 σ rfl rfl h hE)
  | succ r ih =>
    intro i σ hi h hE
    have IH := fun ω Cω Gω => ih (i + 1) ω (by omega) Cω Gω
    have ekk : 11 * (r + 1) + 26953 = (11 * r + 26953) + 11 ∧ 67 * (r + 1) + 168046 = (67 * r + 168046) + 67 := ⟨by omega, by omega⟩
    rw [ekk.1, ekk.2]
    generalize 11 * r + 26953 = kk at IH ⊢
    generalize 67 * r + 168046 = nn at IH ⊢
    refine V_iload dW_103 rfl ?_
    refine V_bipush (8 : Int32) dW_105 (by decide) ?_
    refine V_icmp_ge 135 dW_107 rfl (fun z_ => absurd z_ (show ¬ ((nI 8) ≤ (nI i)) from c_nle (by omega) (by omega))) (fun _ => ?_)
    refine V_iload dW_110 rfl ?_
    refine V_if_eq 135 dW_112 rfl (fun z_ => absurd z_ (by decide)) (fun _ => ?_)
    refine V_aload_n dW_115 rfl ?_
    refine V_aload_n dW_116 rfl ?_
    refine V_iconst (2 : Int32) dW_117 (by decide) ?_
    refine V_aload_n dW_118 rfl ?_
    refine V_iload dW_119 rfl ?_
    refine V_cMs (as := [.ref 1, .int (nI i)]) (k' := kk + 11) (n' := nn + 67) (P_at (k := i) (by omega)) mw_L_at w_239 w_238 ar_L_at ⟨rfl, rfl, Nat.ble_eq_true_of_le (show 0 + (kk + 11) ≤ kk + 11 by omega), Nat.ble_eq_true_of_le (show 0 + (nn + 67) ≤ nn + 67 by omega), rfl⟩ dW_121 (fun ω1 y1 K1 => ?_)
    rw [K1]
    refine V_cKs (as := [.ref 2, .ref 73, .int (2 : Int32), .int y1]) (k' := kk + 0) (n' := nn + 0) (s_L_tells hg h hE) mw_L_tells w_451 w_450 ar_L_tells ⟨rfl, rfl, Nat.ble_eq_true_of_le (show 11 + (kk + 0) ≤ kk + 11 by omega), Nat.ble_eq_true_of_le (show 67 + (nn + 0) ≤ nn + 67 by omega), rfl⟩ dW_124 (fun ω2 K2 => ?_)
    obtain ⟨Cω, Gω⟩ := K2
    refine V_istore [(0, .ref 1), (1, .ref 2), (2, .ref 73), (3, .ref 74), (4, .int (1 : Int32)), (5, .int (nI i))] dW_127 rfl rfl ?_
    refine V_iinc (nI (i + 1)) [(0, .ref 1), (1, .ref 2), (2, .ref 73), (3, .ref 74), (4, .int (1 : Int32)), (5, .int (nI (i + 1)))] dW_129 (nI_1 i) rfl rfl rfl ?_
    refine V_goto 103 dW_132 rfl ?_
    exact IH ω2 Cω Gω
theorem law_27 {g : GP} {b : Nat} (hg : gG g = none) : ∀ r i σ, i + r = 20 → Co 0 σ → GE 0 σ → V g mLaw (ELw b) (CXl g b) (1 * r + 27041) (6 * r + 168582) 27 [(0, .ref 1), (1, .ref 2), (2, .ref 73), (3, .ref 74), (4, .int (1 : Int32)), (5, .int (nI i))] [] σ := by
  intro r
  induction r with
  | zero =>
    intro i σ hi h hE
    refine V_iload dW_27 rfl ?_
    refine V_bipush (20 : Int32) dW_29 (by decide) ?_
    refine V_icmp_ge 100 dW_31 rfl (fun _ => ?_) (fun z_ => absurd (show (nI 20) ≤ (nI i) from c_le (by omega) (by omega)) z_)
    refine V_iconst (0 : Int32) dW_100 (by decide) ?_
    refine V_istore [(0, .ref 1), (1, .ref 2), (2, .ref 73), (3, .ref 74), (4, .int (1 : Int32)), (5, .int (0 : Int32))] dW_101 rfl rfl ?_
    exact V_less (k' := 11 * 8 + 26953) (n' := 67 * 8 + 168046) (fun q hq => hq) (by omega) (by omega) (law_103 hg 8 0 σ rfl h hE)
  | succ r ih =>
    intro i σ hi h hE
    have IH := fun ω Cω Gω => ih (i + 1) ω (by omega) Cω Gω
    have ekk : 1 * (r + 1) + 27041 = (1 * r + 27041) + 1 ∧ 6 * (r + 1) + 168582 = (6 * r + 168582) + 6 := ⟨by omega, by omega⟩
    rw [ekk.1, ekk.2]
    generalize 1 * r + 27041 = kk at IH ⊢
    generalize 6 * r + 168582 = nn at IH ⊢
    refine V_iload dW_27 rfl ?_
    refine V_bipush (20 : Int32) dW_29 (by decide) ?_
    refine V_icmp_ge 100 dW_31 rfl (fun z_ => absurd z_ (show ¬ ((nI 20) ≤ (nI i)) from c_nle (by omega) (by omega))) (fun _ => ?_)
    refine V_iload dW_34 rfl ?_
    refine V_if_eq 100 dW_36 rfl (fun z_ => absurd z_ (by decide)) (fun _ => ?_)
    refine V_iload dW_39 rfl ?_
    refine V_iconst (5 : Int32) dW_41 (by decide) ?_
    refine V_irem dW_42 (by decide) ?_
    refine V_cast (st' := .int (nI (i % 5)) :: []) rfl (by rw [show nI i - nI i / (5 : Int32) * (5 : Int32) = nI (i % 5) from rem_n (by decide) (by decide) (by omega)]) rfl ?_
    refine V_istore [(0, .ref 1), (1, .ref 2), (2, .ref 73), (3, .ref 74), (4, .int (1 : Int32)), (5, .int (nI i)), (6, .int (nI (i % 5)))] dW_43 rfl rfl ?_
    refine V_iload dW_45 rfl ?_
    refine V_iconst (5 : Int32) dW_47 (by decide) ?_
    refine V_idiv dW_48 (by decide) ?_
    refine V_cast (st' := .int (nI (i / 5)) :: []) rfl (by rw [show nI i / (5 : Int32) = nI (i / 5) from pk_div (d := 5) (by omega) (by decide) (by decide)]) rfl ?_
    refine V_iconst (1 : Int32) dW_49 (by decide) ?_
    refine V_iadd dW_50 ?_
    refine V_cast (st' := .int (nI (i / 5 + 1)) :: []) rfl (by rw [nI_1]) rfl ?_
    refine V_iload dW_51 rfl ?_
    refine V_iadd dW_53 ?_
    refine V_cast (st' := .int (nI (i / 5 + 1 + i % 5)) :: []) rfl (by rw [nI_add]) rfl ?_
    refine V_iconst (5 : Int32) dW_54 (by decide) ?_
    refine V_irem dW_55 (by decide) ?_
    refine V_cast (st' := .int (nI ((i / 5 + 1 + i % 5) % 5)) :: []) rfl (by rw [show nI (i / 5 + 1 + i % 5) - nI (i / 5 + 1 + i % 5) / (5 : Int32) * (5 : Int32) = nI ((i / 5 + 1 + i % 5) % 5) from rem_n (by decide) (by decide) (by omega)]) rfl ?_
    refine V_istore [(0, .ref 1), (1, .ref 2), (2, .ref 73), (3, .ref 74), (4, .int (1 : Int32)), (5, .int (nI i)), (6, .int (nI (i % 5))), (7, .int (nI ((i / 5 + 1 + i % 5) % 5)))] dW_56 rfl rfl ?_
    refine V_iload dW_58 rfl ?_
    refine V_iload dW_60 rfl ?_
    refine V_icmp_ge 87 dW_62 rfl (fun c62 => ?_) (fun c62 => ?_)
    · refine V_iconst (1 : Int32) dW_87 (by decide) ?_
      refine V_goto 92 dW_88 rfl ?_
      refine V_istore [(0, .ref 1), (1, .ref 2), (2, .ref 73), (3, .ref 74), (4, .int (1 : Int32)), (5, .int (nI i)), (6, .int (nI (i % 5))), (7, .int (nI ((i / 5 + 1 + i % 5) % 5)))] dW_92 rfl rfl ?_
      refine V_iinc (nI (i + 1)) [(0, .ref 1), (1, .ref 2), (2, .ref 73), (3, .ref 74), (4, .int (1 : Int32)), (5, .int (nI (i + 1))), (6, .int (nI (i % 5))), (7, .int (nI ((i / 5 + 1 + i % 5) % 5)))] dW_94 (nI_1 i) rfl rfl rfl ?_
      refine V_goto 27 dW_97 rfl ?_
      exact V_less (ls' := [(0, .ref 1), (1, .ref 2), (2, .ref 73), (3, .ref 74), (4, .int (1 : Int32)), (5, .int (nI (i + 1)))]) (fun q hq => by simp only [List.mem_cons, List.not_mem_nil, or_false] at hq ⊢; rcases hq with z | z | z | z | z | z <;> simp [z]) (by omega) (by omega) (IH σ h hE)
    · refine V_aload_n dW_65 rfl ?_
      refine V_iload dW_66 rfl ?_
      refine V_iload dW_68 rfl ?_
      refine V_sipush (250 : Int32) dW_70 (by decide) ?_
      refine V_bipush (50 : Int32) dW_73 (by decide) ?_
      refine V_iload dW_75 rfl ?_
      refine V_iconst (4 : Int32) dW_77 (by decide) ?_
      refine V_irem dW_78 (by decide) ?_
      refine V_cast (st' := .int (nI (i % 4)) :: [.int (50 : Int32), .int (250 : Int32), .int (nI ((i / 5 + 1 + i % 5) % 5)), .int (nI (i % 5)), .ref 2]) rfl (by rw [show nI i - nI i / (4 : Int32) * (4 : Int32) = nI (i % 4) from rem_n (by decide) (by decide) (by omega)]) rfl ?_
      refine V_imul dW_79 ?_
      refine V_cast (st' := .int (nI (50 * (i % 4))) :: [.int (250 : Int32), .int (nI ((i / 5 + 1 + i % 5) % 5)), .int (nI (i % 5)), .ref 2]) rfl (by rw [show (50 : Int32) * nI (i % 4) = nI (50 * (i % 4)) from pk_mul 50 (i % 4)]) rfl ?_
      refine V_iadd dW_80 ?_
      refine V_cast (st' := .int (nI (250 + 50 * (i % 4))) :: [.int (nI ((i / 5 + 1 + i % 5) % 5)), .int (nI (i % 5)), .ref 2]) rfl (by rw [show (250 : Int32) + nI (50 * (i % 4)) = nI (250 + 50 * (i % 4)) from nI_add 250 (50 * (i % 4))]) rfl ?_
      refine V_cMh (as := [.ref 2, .int (nI (i % 5)), .int (nI ((i / 5 + 1 + i % 5) % 5)), .int (nI (250 + 50 * (i % 4)))]) (k' := kk + 0) (n' := nn + 0) (P_miles hg h (pl_lt (by omega)) (pl_lt (by omega)) (fun z => c62 (z ▸ Int32.le_refl _)) (show isWi (nI (250 + 50 * (i % 4))) (nI 1) (nI 9999) from wi_n (by omega) (by omega) (by decide))) mw_L_miles w_244 w_243 ar_L_miles ⟨rfl, rfl, Nat.ble_eq_true_of_le (show 1 + (kk + 0) ≤ kk + 1 by omega), Nat.ble_eq_true_of_le (show 6 + (nn + 0) ≤ nn + 6 by omega), rfl⟩ dW_81 (fun ω1 y1 K1 => ?_)
      obtain ⟨ey, Cω, hN, -⟩ := K1
      have Gω := GE_NW hN hE
      refine V_if_lt 91 dW_84 rfl (fun z_ => absurd z_ (fun z => by rw [ey] at z; exact nn_mi h.2.1 (p2n_lt (by omega) (by omega)) z)) (fun _ => ?_)
      refine V_iconst (1 : Int32) dW_87 (by decide) ?_
      refine V_goto 92 dW_88 rfl ?_
      refine V_istore [(0, .ref 1), (1, .ref 2), (2, .ref 73), (3, .ref 74), (4, .int (1 : Int32)), (5, .int (nI i)), (6, .int (nI (i % 5))), (7, .int (nI ((i / 5 + 1 + i % 5) % 5)))] dW_92 rfl rfl ?_
      refine V_iinc (nI (i + 1)) [(0, .ref 1), (1, .ref 2), (2, .ref 73), (3, .ref 74), (4, .int (1 : Int32)), (5, .int (nI (i + 1))), (6, .int (nI (i % 5))), (7, .int (nI ((i / 5 + 1 + i % 5) % 5)))] dW_94 (nI_1 i) rfl rfl rfl ?_
      refine V_goto 27 dW_97 rfl ?_
      exact V_less (ls' := [(0, .ref 1), (1, .ref 2), (2, .ref 73), (3, .ref 74), (4, .int (1 : Int32)), (5, .int (nI (i + 1)))]) (fun q hq => by simp only [List.mem_cons, List.not_mem_nil, or_false] at hq ⊢; rcases hq with z | z | z | z | z | z <;> simp [z]) (by omega) (by omega) (IH ω1 Cω Gω)
/-- the law from its start -/
theorem START {g : GP} {b : Nat} (hg : gG g = none) : V g mLaw (ELw b) (CXl g b) 600074 7301550 0 [(0, .ref 1)] [] hp0 := by
  refine V_new (k' := 600073) (n' := 7301539) ko_X11 kd_X11 w_40 w_41 w_21 dW_0 rfl rfl ?_
  refine V_cast (st' := [.ref 2]) (σ' := hpA) rfl rfl rfl ?_
  refine V_dup dW_3 rfl ?_
  refine V_callI0 (as := []) (st := [.ref 2]) (k' := 600043) (n' := 7300327) (s_X11_init (by decide) hp_K.1 (by rw [hpA_N]; exact Nat.le_refl _)) mw_X11_init rfl rfl w_43 w_42 ar_X11_init rfl ⟨rfl, rfl, rfl, rfl, rfl⟩ dW_4 (by decide) ?_
  rw [← hpB]
  refine V_gh hg hpB_N hp_K.2.2.1 hpB_h ?_
  rw [← hpG]
  refine V_astore_n [(0, .ref 1), (1, .ref 2)] dW_7 rfl rfl ?_
  refine V_bipush (7 : Int32) dW_8 (by decide) ?_
  refine V_newi (len := 7) (k' := 600042) (n' := 7300320) w_64 dW_10 (by decide) (by decide) rfl rfl rfl ?_
  refine V_lb hg hp_K.2.2.2.2 ?_
  rw [hpG_N, ← hpH]
  refine V_cast (st' := [.ref 73]) rfl rfl rfl ?_
  refine V_astore_n [(0, .ref 1), (1, .ref 2), (2, .ref 73)] dW_12 rfl rfl ?_
  refine V_iconst (2 : Int32) dW_13 (by decide) ?_
  refine V_newi (len := 2) (k' := 600041) (n' := 7300318) w_64 dW_14 (by decide) (by decide) rfl rfl rfl ?_
  refine V_lb hg Sh_E.2.2.2 ?_
  rw [hpH_N, ← hpE]
  refine V_cast (st' := [.ref 74]) rfl rfl rfl ?_
  refine V_astore_n [(0, .ref 1), (1, .ref 2), (2, .ref 73), (3, .ref 74)] dW_16 rfl rfl ?_
  refine V_aload_n dW_17 rfl ?_
  refine V_aload_n dW_18 rfl ?_
  refine V_cKs (as := [.ref 2, .ref 73]) (k' := 599996) (n' := 7300048) (s_L_balances hg Co_E GE_E (Co_Kp Co_E)) mw_L_balances w_354 w_353 ar_L_balances ⟨rfl, rfl, rfl, rfl, rfl⟩ dW_19 (fun ω1 K1 => ?_)
  refine V_istore [(0, .ref 1), (1, .ref 2), (2, .ref 73), (3, .ref 74), (4, .int (1 : Int32))] dW_22 rfl rfl ?_
  refine V_iconst (0 : Int32) dW_24 (by decide) ?_
  refine V_istore [(0, .ref 1), (1, .ref 2), (2, .ref 73), (3, .ref 74), (4, .int (1 : Int32)), (5, .int (0 : Int32))] dW_25 rfl rfl ?_
  have C1 : Co 0 ω1 := Co_K Co_E K1
  have G1 : GE 0 ω1 := GE_RO K1.2.2 GE_E
  have e1 : (0 : Nat) + 20 = 20 := by decide
  have L1 := law_27 (b := b) hg 20 0 ω1 e1 C1 G1
  exact V_less (fun q hq => hq) (Nat.le_of_ble_eq_true rfl) (Nat.le_of_ble_eq_true rfl) L1
