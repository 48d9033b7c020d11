/-! ===== what holds of the rows between the law's steps ===== -/
/-- a coupon -/
def CP (σ : AH) (t k : Nat) : Prop := bt (zI σ 55 (8 * t + k)) 0 4 ∧ bt (zI σ 56 (8 * t + k)) 0 126000 ∧ bt (zI σ 57 (8 * t + k)) 0 1000 ∧ (zI σ 55 (8 * t + k) = 1 → ∀ j, j < k → ¬ zI σ 55 (8 * t + j) = 0) ∧
  ((zI σ 61 (8 * t + k)).toInt < 0 ∨ (zI σ 55 (8 * t + k) = 1 ∧ ∃ b, b < ix (zI σ 33 36) ∧ zI σ 61 (8 * t + k) = nI b ∧ zI σ 63 b = zI σ 56 (8 * t + k) ∧ zI σ 64 b = zI σ 51 t ∧ zI σ 65 b = zI σ 58 (8 * t + k)))
/-- a ticket -/
def TK (σ : AH) (t : Nat) : Prop := smI (fun k => zI σ 56 (8 * t + k)) (ix (zI σ 52 t)) + zI σ 54 t = zI σ 50 t ∧ bt (zI σ 50 t) 0 504000 ∧ bt (zI σ 54 t) 0 504000 ∧ ∀ k, k < ix (zI σ 52 t) → CP σ t k
/-- bills -/
def BL (σ : AH) : Prop := ∀ b, b < ix (zI σ 33 36) → ¬ zI σ 64 b = zI σ 65 b ∧ (zI σ 67 b).toInt ≤ (zI σ 33 43).toInt ∧ (zI σ 62 b = 2 ∨ zI σ 62 b = 3 → 1 ≤ (zI σ 66 b).toInt)
def scT (f : Nat → Int64) : Nat → Int64
  | 0 => 0
  | n + 1 => scT f n + f n
/-- money -/
def MN (s : Nat) (σ : AH) : Prop := scT (zJ σ 70) 5 + scT (zJ σ 71) 10 = zJ σ 33 48 ∧ ∀ p, p < 10 → 0 ≤ (zJ σ 71 p).toInt ∧ (zJ σ 71 p).toInt ≤ 1000 * (s : Int)
def NM (s : Nat) (σ : AH) : Prop := (∃ q, q ≤ s ∧ zI σ 33 43 = nI q) ∧ (∃ b, b ≤ s ∧ zI σ 33 36 = nI b) ∧ bt (zI σ 33 0) 0 (2 * (s : Int))
def Cr (s : Nat) (σ : AH) : Prop := TB σ ∧ (∀ t, t < ix (zI σ 33 23) → TK σ t) ∧ BL σ ∧ MN s σ ∧ NM s σ
def Co (s : Nat) (σ : AH) : Prop := s ≤ 100 ∧ Rel 200 σ ∧ GA4 σ ∧ Cr s σ
/-- the law's own numbers -/
def GE (s : Nat) (σ : AH) : Prop := zI σ 73 0 = zI σ 33 0 ∧ zI σ 73 1 = zI σ 33 16 ∧ zI σ 73 2 = zI σ 33 23 ∧ zI σ 73 3 = zI σ 33 36 ∧ zI σ 73 4 = zI σ 33 43 ∧ zI σ 73 5 = zI σ 33 6 ∧ (∃ w, w ≤ s ∧ zI σ 73 6 = nI w) ∧ vp_in (zI σ 74 0) 5 ∧ ∀ L, L < 8 → zI σ 33 16 = nI (L + 1) → zI σ 74 0 = zI σ 47 L ∧ zI σ 74 1 = zI σ 49 L
theorem Cr_RO {s : Nat} {τ σ : AH} (hO : RO τ σ) (h : Cr s σ) : Cr s τ := by
  have e := fun a h1 h2 => RO_f hO a h1 h2
  have e3 := fun j hj => RO_3 hO j hj
  have j := fun a h1 h2 => RO_j hO a h1 h2
  unfold Cr TB TK CP BL MN NM at h ⊢
  rw [e3 6 (by decide), e3 14 (by decide), e3 23 (by decide), e3 36 (by decide), e3 43 (by decide), e3 0 (by decide), e 41 (by decide) (by decide), e 37 (by decide) (by decide), e 38 (by decide) (by decide), e 50 (by decide) (by decide), e 51 (by decide) (by decide), e 52 (by decide) (by decide), e 54 (by decide) (by decide), e 55 (by decide) (by decide), e 56 (by decide) (by decide), e 57 (by decide) (by decide), e 58 (by decide) (by decide), e 61 (by decide) (by decide), e 62 (by decide) (by decide), e 63 (by decide) (by decide), e 64 (by decide) (by decide), e 65 (by decide) (by decide), e 66 (by decide) (by decide), e 67 (by decide) (by decide), j 70 (by decide) (by decide), j 71 (by decide) (by decide), j 33 (by decide) (by decide)]
  exact h
theorem GE_RO {s : Nat} {τ σ : AH} (hO : RO τ σ) (h : GE s σ) : GE s τ := by
  have e : ∀ a, 34 ≤ a → a ≤ 74 → a ≠ 72 → zI τ a = zI σ a := fun a h1 h2 h3 => funext fun j => hO.1 a j (by omega) h2 h3 (by omega)
  have e3 := fun j hj => RO_3 hO j hj
  unfold GE at h ⊢
  rw [e3 6 (by decide), e3 16 (by decide), e3 23 (by decide), e3 36 (by decide), e3 43 (by decide), e3 0 (by decide), e 73 (by decide) (by decide) (by decide), e 74 (by decide) (by decide) (by decide), e 47 (by decide) (by decide) (by decide), e 49 (by decide) (by decide) (by decide)]
  exact h
theorem MN_s {s t : Nat} {σ : AH} (hs : s ≤ t) (h : MN s σ) : MN t σ := ⟨h.1, fun p hp => ⟨(h.2 p hp).1, by have := (h.2 p hp).2; omega⟩⟩
theorem NM_s {s t : Nat} {σ : AH} (hs : s ≤ t) (h : NM s σ) : NM t σ := by
  obtain ⟨⟨q, q1, q2⟩, ⟨b, b1, b2⟩, h3, h4⟩ := h
  exact ⟨⟨q, by omega, q2⟩, ⟨b, by omega, b2⟩, h3, by omega⟩
theorem Cr_s {s t : Nat} {σ : AH} (hs : s ≤ t) (h : Cr s σ) : Cr t σ := ⟨h.1, h.2.1, h.2.2.1, MN_s hs h.2.2.2.1, NM_s hs h.2.2.2.2⟩
theorem Co_s {s t : Nat} {σ : AH} (hs : s ≤ t) (ht : t ≤ 100) (h : Co s σ) : Co t σ := ⟨ht, h.2.1, h.2.2.1, Cr_s hs h.2.2.2⟩
theorem GE_s {s t : Nat} {σ : AH} (hs : s ≤ t) (h : GE s σ) : GE t σ := by
  obtain ⟨h1, h2, h3, h4, h5, h6, ⟨w, h7, h8⟩, h9⟩ := h
  exact ⟨h1, h2, h3, h4, h5, h6, ⟨w, by omega, h8⟩, h9⟩
theorem Co_Kp {s : Nat} {σ : AH} (h : Co s σ) : Kp σ σ := ⟨h.2.1, h.2.2.1, RO_refl σ⟩
theorem Co_K {s : Nat} {ω σ : AH} (h : Co s σ) (hK : Kp ω σ) : Co s ω := ⟨h.1, hK.1, hK.2.1, Cr_RO hK.2.2 h.2.2.2⟩
/-- the law writes into its own arrays -/
theorem Rel_g {i : Nat} {σ : AH} {a k : Nat} {x : Int32} (ha : a = 73 ∨ a = 74) (hA : GA4 σ) (h : Rel i σ) : Rel i (uI σ a k x) := by
  have hr := h
  obtain ⟨h0, hS, hT, hJ, hP, hK, hB, hC⟩ := h
  have hq : QX (fun b j => b = 73 ∨ b = 74) (uI σ a k x) σ := QX_uI QX_refl (Or.inr ha)
  have k73 : zK σ 73 = 23 := hA.2.1
  have k74 : zK σ 74 = 23 := hA.2.2.2.1
  have nk : ∀ b κ, b = 73 ∨ b = 74 → zK σ b = κ → κ = 23 := fun b κ hb e => by
    rcases hb with rfl | rfl
    · rw [← e, k73]
    · rw [← e, k74]
  have hR : Rel (i + 1) (uI σ a k x) → Rel i (uI σ a k x) := fun z => by
    obtain ⟨q, q1, q2⟩ := Rel_nm hr
    exact Rel_i z (by rw [zI_uI, if_neg (by omega)]; exact q2) q1 h0
  by_cases hi : i < 512
  · refine hR ⟨hi, QX_Sh hq hS, QX_RT hq (fun b j hf he => ?_) hS hT, QX_RJ hq (fun b j hf he => by omega) hJ, QX_RP hq (fun b j hf he => by omega) hP, QX_RK hq (fun b j hf he => ?_) hS hK, QX_RB hq (fun b j hf he => ?_) hS hB, QX_RC hq (fun b j hf he => by omega) hK hC⟩
    · have := nk b _ he rfl
      unfold FT at hf
      omega
    · have := nk b _ he rfl
      unfold FK at hf
      omega
    · have := nk b _ he rfl
      unfold FB at hf
      omega
  · have hi2 : i = 512 := by omega
    subst hi2
    refine ⟨h0, QX_Sh hq hS, QX_RT hq (fun b j hf he => ?_) hS hT, QX_RJ hq (fun b j hf he => by omega) hJ, QX_RP hq (fun b j hf he => by omega) hP, QX_RK hq (fun b j hf he => ?_) hS hK, RB_ag (QX_Gr hq) (fun b j _ hf => hq.2.2.2.2.1 _ _ (by unfold FB at hf; unfold QU; omega) (fun he => ?_)) (fun t => rfl) hS.1 hB, QX_RC hq (fun b j hf he => by omega) hK hC⟩
    · have := nk b _ he rfl
      unfold FT at hf
      omega
    · have := nk b _ he rfl
      unfold FK at hf
      omega
    · have := nk b _ he rfl
      unfold FB at hf
      omega
theorem GA_g {σ : AH} {a k : Nat} {x : Int32} (hA : GA4 σ) : GA4 (uI σ a k x) := hA
theorem Cr_g {s : Nat} {σ : AH} {a k : Nat} {x : Int32} (ha : a = 73 ∨ a = 74) (h : Cr s σ) : Cr s (uI σ a k x) := by
  have e : ∀ b, 33 ≤ b → b ≤ 71 → zI (uI σ a k x) b = zI σ b := fun b h1 h2 => funext fun j => by rw [zI_uI, if_neg (by omega)]
  unfold Cr TB TK CP BL MN NM at h ⊢
  rw [e 33 (by decide) (by decide), e 41 (by decide) (by decide), e 37 (by decide) (by decide), e 38 (by decide) (by decide), e 50 (by decide) (by decide), e 51 (by decide) (by decide), e 52 (by decide) (by decide), e 54 (by decide) (by decide), e 55 (by decide) (by decide), e 56 (by decide) (by decide), e 57 (by decide) (by decide), e 58 (by decide) (by decide), e 61 (by decide) (by decide), e 62 (by decide) (by decide), e 63 (by decide) (by decide), e 64 (by decide) (by decide), e 65 (by decide) (by decide), e 66 (by decide) (by decide), e 67 (by decide) (by decide)]
  exact h
theorem Co_g {s : Nat} {σ : AH} {a k : Nat} {x : Int32} (ha : a = 73 ∨ a = 74) (h : Co s σ) : Co s (uI σ a k x) := ⟨h.1, Rel_g ha h.2.2.1 h.2.1, h.2.2.1, Cr_g ha h.2.2.2⟩
/-! money: sums -/
theorem scT_c {f f' : Nat → Int64} : ∀ n, (∀ k, k < n → f' k = f k) → scT f' n = scT f n
  | 0, _ => rfl
  | n + 1, h => by rw [scT, scT, scT_c n (fun k hk => h k (by omega)), h n (by omega)]
theorem scT_add {f h : Nat → Int64} : ∀ n, scT (fun k => f k + h k) n = scT f n + scT h n
  | 0 => by
    rw [scT, scT, scT]
    grind
  | n + 1 => by
    rw [scT, scT, scT, scT_add n]
    grind
theorem scT_at {c : Nat} {x : Int64} : ∀ n, scT (fun k => if k = c then x else 0) n = if c < n then x else 0
  | 0 => by rw [if_neg (Nat.not_lt_zero _)]; rfl
  | n + 1 => by
    rw [scT, scT_at n]
    by_cases q : n = c
    · subst q
      rw [if_neg (Nat.lt_irrefl _), if_pos rfl, if_pos (Nat.lt_succ_self _)]
      grind
    · rw [if_neg q]
      by_cases q2 : c < n
      · rw [if_pos q2, if_pos (by omega)]; grind
      · rw [if_neg q2, if_neg (by omega)]; grind
theorem scT_one {f f' : Nat → Int64} {c n : Nat} {x : Int64} (hc : c < n) (h : ∀ k, k < n → f' k = if k = c then f k + x else f k) : scT f' n = scT f n + x := by
  have e : scT f' n = scT (fun k => f k + (if k = c then x else 0)) n := scT_c n (fun k hk => by
    rw [h k hk]
    by_cases q : k = c
    · rw [if_pos q, if_pos q]
    · rw [if_neg q, if_neg q]; grind)
  rw [e, scT_add, scT_at, if_pos hc]
