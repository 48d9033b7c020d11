/-! ===== leaves: answers as values ===== -/
theorem zI_oa (σ : AH) (b j : Nat) (x : Int32) (a k : Nat) (h : a ≠ b) : zI (uI σ b j x) a k = zI σ a k := by rw [zI_uI, if_neg (fun q => h q.1)]
theorem zJ_oa (σ : AH) (b j : Nat) (x : Int64) (a k : Nat) (h : a ≠ b) : zJ (uJ σ b j x) a k = zJ σ a k := by rw [zJ_uJ, if_neg (fun q => h q.1)]
theorem zR_oa (σ : AH) (b j : Nat) (x : Nat) (a k : Nat) (h : a ≠ b) : zR (uR σ b j x) a k = zR σ a k := by rw [zR_uR, if_neg (fun q => h q.1)]
/-- a Java boolean -/
def jb (c : Prop) [Decidable c] : Int32 := if c then 1 else 0
theorem jb_t {c : Prop} [Decidable c] (h : c) : jb c = 1 := if_pos h
theorem jb_f {c : Prop} [Decidable c] (h : ¬ c) : jb c = 0 := if_neg h
theorem jb_1 {c : Prop} [Decidable c] : jb c = 1 ↔ c := by unfold jb; split <;> simp_all
theorem jb_0 {c : Prop} [Decidable c] : jb c = 0 ↔ ¬ c := by unfold jb; split <;> simp_all
theorem jb_n {c : Prop} [Decidable c] : ¬ jb c = 0 ↔ c := by unfold jb; split <;> simp_all
theorem jb_nar (c : Prop) [Decidable c] : narrow .boolean (.int (jb c)) = .int (jb c) := by unfold jb; split <;> decide
theorem fq {σ : AH} {rv : Option Value} : FQ σ rv σ rv := ⟨rfl, rfl⟩
theorem fq_i {σ : AH} {x y : Int32} (h : x = y) : FQ σ (some (.int y)) σ (some (.int x)) := ⟨rfl, by rw [h]⟩
theorem fq_l {σ : AH} {x y : Int64} (h : x = y) : FQ σ (some (.long y)) σ (some (.long x)) := ⟨rfl, by rw [h]⟩
theorem fq_r {σ : AH} {x y : Nat} (h : x = y) : FQ σ (some (.ref y)) σ (some (.ref x)) := ⟨rfl, by rw [h]⟩
theorem i_le {x y : Int32} : ¬ x < y ↔ y ≤ x := Int32.not_lt
theorem i_lt {x y : Int32} : ¬ x ≤ y ↔ y < x := Int32.not_le
abbrev isPl (x : Int32) : Prop := ¬ x < 0 ∧ ¬ 10 ≤ x
abbrev isCa (x : Int32) : Prop := ¬ x < 0 ∧ ¬ 5 ≤ x
abbrev isWi (x l m : Int32) : Prop := ¬ x < l ∧ ¬ m < x
set_option maxRecDepth 100000 in
set_option maxHeartbeats 4000000 in
theorem b_X11_isPlace_0 {g : GP} {CX : State → Array Value → Prop} {Q : AH → Option Value → Prop} {X : AH → String → Prop} {v0 : Int32} {σ : AH}
    (k1 : (v0 < 0) → Q σ (some (.int (0 : Int32))))
    (k2 : (¬ v0 < 0) → ((10 : Int32) ≤ v0) → Q σ (some (.int (0 : Int32))))
    (k3 : (¬ v0 < 0) → (¬ (10 : Int32) ≤ v0) → Q σ (some (.int (1 : Int32)))) :
    V g mX11_isPlace (Em g mX11_isPlace Q X) CX 0 0 0 [(0, .int v0)] [] σ := by
  refine V_iload_n dX11_isPlace_0 rfl ?_
  refine V_if_lt 14 dX11_isPlace_1 rfl (fun c1 => ?_) (fun c1 => ?_)
  · refine V_iconst (0 : Int32) dX11_isPlace_14 (by decide) ?_
    exact V_zret rfl dX11_isPlace_15 (by decide) (k1 c1)
  · refine V_iload_n dX11_isPlace_4 rfl ?_
    refine V_bipush (10 : Int32) dX11_isPlace_5 (by decide) ?_
    refine V_icmp_ge 14 dX11_isPlace_7 rfl (fun c2 => ?_) (fun c2 => ?_)
    · refine V_iconst (0 : Int32) dX11_isPlace_14 (by decide) ?_
      exact V_zret rfl dX11_isPlace_15 (by decide) (k2 c1 c2)
    · refine V_iconst (1 : Int32) dX11_isPlace_10 (by decide) ?_
      refine V_goto 15 dX11_isPlace_11 rfl ?_
      exact V_zret rfl dX11_isPlace_15 (by decide) (k3 c1 c2)

set_option maxRecDepth 100000 in
set_option maxHeartbeats 4000000 in
theorem b_X11_isCarrier_0 {g : GP} {CX : State → Array Value → Prop} {Q : AH → Option Value → Prop} {X : AH → String → Prop} {v0 : Int32} {σ : AH}
    (k1 : (v0 < 0) → Q σ (some (.int (0 : Int32))))
    (k2 : (¬ v0 < 0) → ((5 : Int32) ≤ v0) → Q σ (some (.int (0 : Int32))))
    (k3 : (¬ v0 < 0) → (¬ (5 : Int32) ≤ v0) → Q σ (some (.int (1 : Int32)))) :
    V g mX11_isCarrier (Em g mX11_isCarrier Q X) CX 0 0 0 [(0, .int v0)] [] σ := by
  refine V_iload_n dX11_isCarrier_0 rfl ?_
  refine V_if_lt 13 dX11_isCarrier_1 rfl (fun c1 => ?_) (fun c1 => ?_)
  · refine V_iconst (0 : Int32) dX11_isCarrier_13 (by decide) ?_
    exact V_zret rfl dX11_isCarrier_14 (by decide) (k1 c1)
  · refine V_iload_n dX11_isCarrier_4 rfl ?_
    refine V_iconst (5 : Int32) dX11_isCarrier_5 (by decide) ?_
    refine V_icmp_ge 13 dX11_isCarrier_6 rfl (fun c2 => ?_) (fun c2 => ?_)
    · refine V_iconst (0 : Int32) dX11_isCarrier_13 (by decide) ?_
      exact V_zret rfl dX11_isCarrier_14 (by decide) (k2 c1 c2)
    · refine V_iconst (1 : Int32) dX11_isCarrier_9 (by decide) ?_
      refine V_goto 14 dX11_isCarrier_10 rfl ?_
      exact V_zret rfl dX11_isCarrier_14 (by decide) (k3 c1 c2)

set_option maxRecDepth 100000 in
set_option maxHeartbeats 4000000 in
theorem b_X11_isWithin_0 {g : GP} {CX : State → Array Value → Prop} {Q : AH → Option Value → Prop} {X : AH → String → Prop} {v0 : Int32} {v1 : Int32} {v2 : Int32} {σ : AH}
    (k1 : (v0 < v1) → Q σ (some (.int (0 : Int32))))
    (k2 : (¬ v0 < v1) → (v2 < v0) → Q σ (some (.int (0 : Int32))))
    (k3 : (¬ v0 < v1) → (¬ v2 < v0) → Q σ (some (.int (1 : Int32)))) :
    V g mX11_isWithin (Em g mX11_isWithin Q X) CX 0 0 0 [(0, .int v0), (1, .int v1), (2, .int v2)] [] σ := by
  refine V_iload_n dX11_isWithin_0 rfl ?_
  refine V_iload_n dX11_isWithin_1 rfl ?_
  refine V_icmp_lt 14 dX11_isWithin_2 rfl (fun c1 => ?_) (fun c1 => ?_)
  · refine V_iconst (0 : Int32) dX11_isWithin_14 (by decide) ?_
    exact V_zret rfl dX11_isWithin_15 (by decide) (k1 c1)
  · refine V_iload_n dX11_isWithin_5 rfl ?_
    refine V_iload_n dX11_isWithin_6 rfl ?_
    refine V_icmp_gt 14 dX11_isWithin_7 rfl (fun c2 => ?_) (fun c2 => ?_)
    · refine V_iconst (0 : Int32) dX11_isWithin_14 (by decide) ?_
      exact V_zret rfl dX11_isWithin_15 (by decide) (k2 c1 c2)
    · refine V_iconst (1 : Int32) dX11_isWithin_10 (by decide) ?_
      refine V_goto 15 dX11_isWithin_11 rfl ?_
      exact V_zret rfl dX11_isWithin_15 (by decide) (k3 c1 c2)

theorem s_X11_isPlace {g : GP} {σ : AH} {x : Int32} : Ct g mX11_isPlace [.int x] σ (FQ σ (some (.int (jb (isPl x))))) :=
  Ct_of (by decide +kernel) rfl rfl (b_X11_isPlace_0 (fun h => fq_i (jb_f (fun q => q.1 h)).symm) (fun _ h => fq_i (jb_f (fun q => q.2 h)).symm) (fun h1 h2 => fq_i (jb_t ⟨h1, h2⟩).symm))
theorem s_X11_isCarrier {g : GP} {σ : AH} {x : Int32} : Ct g mX11_isCarrier [.int x] σ (FQ σ (some (.int (jb (isCa x))))) :=
  Ct_of (by decide +kernel) rfl rfl (b_X11_isCarrier_0 (fun h => fq_i (jb_f (fun q => q.1 h)).symm) (fun _ h => fq_i (jb_f (fun q => q.2 h)).symm) (fun h1 h2 => fq_i (jb_t ⟨h1, h2⟩).symm))
theorem s_X11_isWithin {g : GP} {σ : AH} {x l m : Int32} : Ct g mX11_isWithin [.int x, .int l, .int m] σ (FQ σ (some (.int (jb (isWi x l m))))) :=
  Ct_of (by decide +kernel) rfl rfl (b_X11_isWithin_0 (fun h => fq_i (jb_f (fun q => q.1 h)).symm) (fun _ h => fq_i (jb_f (fun q => q.2 h)).symm) (fun h1 h2 => fq_i (jb_t ⟨h1, h2⟩).symm))
theorem isPl_m {x : Int32} : isWi x 0 9 ↔ isPl x := by
  have e : (9 : Int32) < x ↔ 10 ≤ x := by rw [Int32.lt_iff_toInt_lt, Int32.le_iff_toInt_le]; change (9 : Int) < _ ↔ (10 : Int) ≤ _; omega
  unfold isWi isPl; rw [e]
theorem isCa_m {x : Int32} : isWi x 0 4 ↔ isCa x := by
  have e : (4 : Int32) < x ↔ 5 ≤ x := by rw [Int32.lt_iff_toInt_lt, Int32.le_iff_toInt_le]; change (4 : Int) < _ ↔ (5 : Int) ≤ _; omega
  unfold isWi isCa; rw [e]
theorem jb_c {c d : Prop} [Decidable c] [Decidable d] (h : c ↔ d) : jb c = jb d := by unfold jb; by_cases hc : c <;> simp [hc, ← h]
/-- which exception the reference notes -/
def goC (a b c : Int32) : Int32 := if a = 0 then 1 else if b = 0 then 2 else if c = 0 then 3 else 0
/-- the ghost rows are put anew as S says, and then Q holds -/
def Gh (S : AH → AH → Option Value → Prop) (σ : AH) (Q : AH → Option Value → Prop) : Prop := ∃ ω rv, S σ ω rv ∧ Q ω rv
theorem Gh_mono {S : AH → AH → Option Value → Prop} {σ : AH} {Q Q' : AH → Option Value → Prop} (h : Gh S σ Q) (hq : ∀ τ rv, Q τ rv → Q' τ rv) : Gh S σ Q' := by
  obtain ⟨ω, rv, h1, h2⟩ := h
  exact ⟨ω, rv, h1, hq ω rv h2⟩
