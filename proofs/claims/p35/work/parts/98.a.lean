/-! ===== the law's helpers: rules ===== -/
theorem ga73 {σ : AH} (h : GA4 σ) : zK σ 73 = 23 ∧ zL σ 73 = 7 := ⟨h.2.1, h.2.2.1⟩
theorem ga74 {σ : AH} (h : GA4 σ) : zK σ 74 = 23 ∧ zL σ 74 = 2 := ⟨h.2.2.2.1, h.2.2.2.2⟩
section VK
variable {g : GP} {μ z : MI} {E : ET} {CX : State → Array Value → Prop} {k n k' n' pc : Nat} {ls : List (Nat × Value)} {st as : List Value} {σ : AH} {R : AH → Prop} {Q' : AH → Int32 → Prop} {L' : AH → Int64 → Prop} {v : Value}
theorem V_cKh {idx m : Nat} (hc : CtH g z as σ (fun ω rv => rv = some v ∧ R ω)) (hm : MWh z) (hs : Cond.static z.1 ∈ lw_good) (hl : Cond.methodLink μ.1.cls idx z.1 ∈ lw_good) (ha : Ar z.1 m) (rf : RF μ z k n k' n' st) (hd : decode μ.2.1 pc = .ok (.invokestatic idx, 3)) (kk : ∀ ω, R ω → V g μ E CX k' n' (pc + 3) ls (v :: st) ω) (hm2 : m = as.length := by rfl) : V g μ E CX k n pc ls (as.reverse ++ st) σ :=
  V_callSH hc hm hs hl (hm2 ▸ ha) rf hd (fun σ' rv h => by obtain ⟨rfl, h⟩ := h; exact kk σ' h)
theorem V_cMh {idx m : Nat} (hc : CtH g z as σ (fun ω rv => ∃ y, rv = some (.int y) ∧ Q' ω y)) (hm : MWh z) (hs : Cond.static z.1 ∈ lw_good) (hl : Cond.methodLink μ.1.cls idx z.1 ∈ lw_good) (ha : Ar z.1 m) (rf : RF μ z k n k' n' st) (hd : decode μ.2.1 pc = .ok (.invokestatic idx, 3)) (kk : ∀ ω y, Q' ω y → V g μ E CX k' n' (pc + 3) ls (.int y :: st) ω) (hm2 : m = as.length := by rfl) : V g μ E CX k n pc ls (as.reverse ++ st) σ :=
  V_callSH hc hm hs hl (hm2 ▸ ha) rf hd (fun σ' rv h => by obtain ⟨y, rfl, h⟩ := h; exact kk σ' y h)
theorem V_cKs {idx m : Nat} (hc : Ct g z as σ (fun ω rv => rv = some v ∧ R ω)) (hm : MW z) (hs : Cond.static z.1 ∈ lw_good) (hl : Cond.methodLink μ.1.cls idx z.1 ∈ lw_good) (ha : Ar z.1 m) (rf : RF μ z k n k' n' st) (hd : decode μ.2.1 pc = .ok (.invokestatic idx, 3)) (kk : ∀ ω, R ω → V g μ E CX k' n' (pc + 3) ls (v :: st) ω) (hm2 : m = as.length := by rfl) : V g μ E CX k n pc ls (as.reverse ++ st) σ :=
  V_callS (m := 0) hc hm hs hl (hm2 ▸ ha) rf hd (fun σ' rv h => by obtain ⟨rfl, h⟩ := h; exact kk σ' h)
theorem V_cMs {idx m : Nat} (hc : Ct g z as σ (fun ω rv => ∃ y, rv = some (.int y) ∧ Q' ω y)) (hm : MW z) (hs : Cond.static z.1 ∈ lw_good) (hl : Cond.methodLink μ.1.cls idx z.1 ∈ lw_good) (ha : Ar z.1 m) (rf : RF μ z k n k' n' st) (hd : decode μ.2.1 pc = .ok (.invokestatic idx, 3)) (kk : ∀ ω y, Q' ω y → V g μ E CX k' n' (pc + 3) ls (.int y :: st) ω) (hm2 : m = as.length := by rfl) : V g μ E CX k n pc ls (as.reverse ++ st) σ :=
  V_callS (m := 0) hc hm hs hl (hm2 ▸ ha) rf hd (fun σ' rv h => by obtain ⟨y, rfl, h⟩ := h; exact kk σ' y h)
theorem V_cKv {idx ci a m : Nat} {CC : String} {T : u_T} (hc : Ct g z (.ref a :: as) σ (fun ω rv => rv = some v ∧ R ω)) (hm : MW z) (ko : KO ci CC T) (hCC : z.1.cls = CC) (hi : Cond.instanceMethod z.1 ∈ lw_good) (hs : Cond.selects CC z.1 z.1 ∈ lw_good) (hl : Cond.methodLink μ.1.cls idx z.1 ∈ lw_good) (ha : Ar z.1 m) (rf : RF μ z k n k' n' st) (hd : decode μ.2.1 pc = .ok (.invokevirtual idx, 3)) (h0 : a ≠ 0) (hK : zK σ a = ci) (kk : ∀ ω, R ω → V g μ E CX k' n' (pc + 3) ls (v :: st) ω) (hm2 : m = as.length := by rfl) : V g μ E CX k n pc ls (as.reverse ++ .ref a :: st) σ :=
  V_callV hc hm ko hCC hi hs hl (hm2 ▸ ha) rf hd h0 hK (fun σ' rv h => by obtain ⟨rfl, h⟩ := h; exact kk σ' h)
theorem V_cMv {idx ci a m : Nat} {CC : String} {T : u_T} (hc : Ct g z (.ref a :: as) σ (fun ω rv => ∃ y, rv = some (.long y) ∧ L' ω y)) (hm : MW z) (ko : KO ci CC T) (hCC : z.1.cls = CC) (hi : Cond.instanceMethod z.1 ∈ lw_good) (hs : Cond.selects CC z.1 z.1 ∈ lw_good) (hl : Cond.methodLink μ.1.cls idx z.1 ∈ lw_good) (ha : Ar z.1 m) (rf : RF μ z k n k' n' st) (hd : decode μ.2.1 pc = .ok (.invokevirtual idx, 3)) (h0 : a ≠ 0) (hK : zK σ a = ci) (kk : ∀ ω y, L' ω y → V g μ E CX k' n' (pc + 3) ls (.long y :: st) ω) (hm2 : m = as.length := by rfl) : V g μ E CX k n pc ls (as.reverse ++ .ref a :: st) σ :=
  V_callV hc hm ko hCC hi hs hl (hm2 ▸ ha) rf hd h0 hK (fun σ' rv h => by obtain ⟨y, rfl, h⟩ := h; exact kk σ' y h)
end VK
theorem c_lt {a b : Nat} (h : a < b) (hb : b < 2 ^ 30) : nI a < nI b := nI_lt h (by omega)
theorem c_nlt {a b : Nat} (h : b ≤ a) (hb : a < 2 ^ 30) : ¬ nI a < nI b := nI_nlt h (by omega)
theorem c_le {a b : Nat} (h : a ≤ b) (hb : b < 2 ^ 30) : nI a ≤ nI b := nI_le h (by omega)
theorem c_nle {a b : Nat} (h : b < a) (hb : a < 2 ^ 30) : ¬ nI a ≤ nI b := nI_ge h (by omega)
theorem c_ne {a b : Nat} (h : a ≠ b) (ha : a < 2 ^ 30) (hb : b < 2 ^ 30) : ¬ nI a = nI b := fun q => h ((nI_eq (by omega) (by omega)).mp q)
theorem c_nn {a b : Nat} (h : a = b) : ¬ ¬ nI a = nI b := fun q => q (by rw [h])
/-- a remainder of a drawn number -/
def loF (v n : Int32) : Int32 := (v &&& 2147483647) - (v &&& 2147483647) / n * n
theorem lo_nn (v : Int32) : ∃ a, a < 2147483648 ∧ (v &&& 2147483647) = nI a := by
  refine ⟨v.toBitVec.toNat % 2147483648, Nat.mod_lt _ (by decide), ?_⟩
  apply Int32.toBitVec_inj.mp
  apply BitVec.eq_of_toNat_eq
  have h1 : (2147483647 : Int32).toBitVec.toNat = 2147483647 := by decide
  have h2 : v.toBitVec.toNat % 2147483648 < 2147483648 := Nat.mod_lt _ (by decide)
  rw [Int32.toBitVec_and, BitVec.toNat_and, h1]
  have h3 : v.toBitVec.toNat &&& 2147483647 = v.toBitVec.toNat % 2147483648 := Nat.and_two_pow_sub_one_eq_mod _ 31
  rw [h3]
  generalize v.toBitVec.toNat % 2147483648 = j at *
  show j = (BitVec.ofNat 32 j).toNat
  rw [BitVec.toNat_ofNat, Nat.mod_eq_of_lt (by omega)]
theorem lo_n (v : Int32) {N : Nat} (h0 : 0 < N) (hN : N < 2 ^ 30) : ∃ j, j < N ∧ loF v (nI N) = nI j := by
  obtain ⟨a, ha, e⟩ := lo_nn v
  have hd := Nat.div_add_mod a N
  have hm : a % N < N := Nat.mod_lt _ h0
  refine ⟨a % N, hm, ?_⟩
  have e1 : nI a / nI N = nI (a / N) := pk_div (by omega) (by omega) (by omega)
  have hle : a / N * N ≤ a := Nat.div_mul_le_self a N
  have e3 : a - a / N * N = a % N := by rw [Nat.mul_comm]; omega
  rw [loF, e, e1, pk_mul, pk_sub hle, e3]
