/-! ===== a coupon flown ===== -/
/-- a coupon's bill -/
def LK (σ : AH) (t k : Nat) : Prop := (zI σ 61 (8 * t + k)).toInt < 0 ∨ (zI σ 55 (8 * t + k) = 1 ∧ ∃ b, b < ix (zI σ 33 36) ∧ zI σ 61 (8 * t + k) = nI b ∧ zI σ 63 b = zI σ 56 (8 * t + k) ∧ zI σ 64 b = zI σ 51 t ∧ zI σ 65 b = zI σ 58 (8 * t + k))
theorem TK_fly {ω τ : AH} {t k n : Nat} (hn : zI τ 33 23 = nI n) (n30 : n ≤ 30) (h8 : ∀ u, u < n → ix (zI τ 52 u) ≤ 8) (ht : t < n) (hk : k < ix (zI τ 52 t)) (h55 : ∀ j, zI ω 55 j = if j = 8 * t + k then 1 else if 8 * t ≤ j ∧ j < 8 * t + k ∧ zI τ 55 j = 0 then 2 else zI τ 55 j)
    (h1 : ∀ a, a = 50 ∨ a = 51 ∨ a = 52 ∨ a = 54 ∨ a = 56 ∨ a = 57 → zI ω a = zI τ a) (hl : ∀ u j, u < n → j < ix (zI τ 52 u) → ¬ 8 * u + j = 8 * t + k → LK τ u j → LK ω u j) (hq : LK ω t k) {u : Nat} (hu : u < n) (h : TK τ u) : TK ω u := by
  obtain ⟨k1, k2, k3, k4⟩ := h
  unfold TK
  rw [h1 56 (by decide), h1 52 (by decide), h1 54 (by decide), h1 50 (by decide)]
  refine ⟨k1, k2, k3, fun j hj => ?_⟩
  obtain ⟨p1, p2, p3, p4, p5⟩ := k4 j hj
  have hj8 := h8 u hu
  have hk8 := h8 t ht
  have nz : ∀ i, ¬ zI τ 55 i = 0 → ¬ zI ω 55 i = 0 := fun i hi => by
    rw [h55]
    by_cases z : i = 8 * t + k
    · rw [if_pos z]; decide
    · rw [if_neg z]
      by_cases z2 : 8 * t ≤ i ∧ i < 8 * t + k ∧ zI τ 55 i = 0
      · rw [if_pos z2]; decide
      · rw [if_neg z2]; exact hi
  by_cases z : 8 * u + j = 8 * t + k
  · obtain ⟨rfl, rfl⟩ : u = t ∧ j = k := by omega
    have e1 : zI ω 55 (8 * u + j) = 1 := by rw [h55, if_pos rfl]
    unfold CP
    rw [h1 56 (by decide), h1 57 (by decide), e1]
    refine ⟨by decide, p2, p3, fun _ i hi => ?_, ?_⟩
    · by_cases z3 : zI τ 55 (8 * u + i) = 0
      · rw [h55, if_neg (by omega), if_pos ⟨by omega, by omega, z3⟩]; decide
      · exact nz _ z3
    · have := hq
      unfold LK at this
      rw [e1, h1 56 (by decide)] at this
      exact this
  · have e2 : zI ω 55 (8 * u + j) = zI τ 55 (8 * u + j) ∨ zI ω 55 (8 * u + j) = 2 := by
      rw [h55, if_neg z]
      by_cases z2 : 8 * t ≤ 8 * u + j ∧ 8 * u + j < 8 * t + k ∧ zI τ 55 (8 * u + j) = 0
      · rw [if_pos z2]; exact Or.inr rfl
      · rw [if_neg z2]; exact Or.inl rfl
    unfold CP
    rw [h1 56 (by decide), h1 57 (by decide)]
    refine ⟨?_, p2, p3, fun q i hi => ?_, ?_⟩
    · rcases e2 with e2 | e2
      · rw [e2]; exact p1
      · rw [e2]; decide
    · rcases e2 with e2 | e2
      · rw [e2] at q
        exact nz _ (p4 q i hi)
      · rw [e2] at q; exact absurd q (by decide)
    · have := hl u j hu hj z p5
      unfold LK at this
      rw [h1 56 (by decide)] at this
      exact this
/-- money from one's cash to a state -/
theorem MN_st {s : Nat} {ω τ : AH} {c p : Nat} {x : Int64} (hc : c < 5) (hp : p < 10) (hx0 : 0 ≤ x.toInt) (hx1 : x.toInt ≤ 1000) (hs : s ≤ 100) (h70 : ∀ k, k < 5 → zJ ω 70 k = if k = c then zJ τ 70 k - x else zJ τ 70 k) (h71 : ∀ k, k < 10 → zJ ω 71 k = if k = p then zJ τ 71 k + x else zJ τ 71 k) (h48 : zJ ω 33 48 = zJ τ 33 48) (h : MN s τ) : MN (s + 1) ω := by
  obtain ⟨h1, h2⟩ := h
  refine ⟨?_, fun k hk => ?_⟩
  · rw [scT_one (x := -x) (f := zJ τ 70) hc (fun k hk => by
      rw [h70 k hk]
      by_cases z : k = c
      · rw [if_pos z, if_pos z]; grind
      · rw [if_neg z, if_neg z]), scT_one hp h71, h48, ← h1]
    grind
  · obtain ⟨a1, a2⟩ := h2 k hk
    rw [h71 k hk]
    by_cases z : k = p
    · rw [if_pos z]
      have e : (zJ τ 71 k + x).toInt = (zJ τ 71 k).toInt + x.toInt := by
        rw [Int64.toInt_add, Int.bmod_def]
        split <;> omega
      rw [e]; omega
    · rw [if_neg z]; omega
theorem Rel_b0 {i n : Nat} {σ : AH} (h : Rel i σ) (hn : zI σ 33 36 = nI n) (n240 : n ≤ 240) : ∀ b, n ≤ b → zI σ 66 b = 0 ∧ zI σ 67 b = 0 := by
  obtain ⟨n', b1, b2, b3, b4, b5⟩ := h.2.2.2.2.2.2.1
  have en : n' = n := (nI_eq (by have := b1.1; omega) (by omega)).mp (b2.symm.trans hn)
  subst en
  exact b4
theorem flH_GW {τ : AH} {x y : Int32} (hc : isCp τ x y) : GW (flH τ x y) τ := by
  obtain ⟨e1, e2, e3, e4⟩ := flH_N (τ := τ) (x := x) (y := y)
  exact GW_of e1 e2 e3 e4 (fun a j ha => by rw [flH_Ir, if_neg (by omega), if_neg (by omega), if_neg (by omega)]) (fun a j ha => by rw [flH_Jr, if_neg (by omega), if_neg (by omega)])
theorem blH_GW {μ τ : AH} {c n : Nat} {sh pr pe bn : Int32} (h : GW μ τ) : GW (blH μ c n sh pr pe bn) τ := by
  obtain ⟨e1, e2, e3, e4⟩ := blH_4 (τ := μ) (c := c) (n := n) (sh := sh) (pr := pr) (pe := pe) (bn := bn)
  exact GW_tr (GW_of e1 e2 e3 e4 (fun a j ha => by rw [blH_I, if_neg (by omega), if_neg (by omega), if_neg (by omega), if_neg (by omega), if_neg (by omega), if_neg (by omega)]) (fun a j ha => by rw [blH_J])) h
section MU5
variable {g : GP} {σ : AH} {s : Nat}
theorem P_fly {t k n m : Nat} (hg : gG g = none) (h : Co s σ) (hs : s < 100) (hn : zI σ 33 23 = nI n) (n30 : n ≤ 30) (ht : t < n) (hm : zI σ 52 t = nI m) (m8 : m ≤ 8) (hk : k < m) : CtH g mL_fly [.ref 2, .int (nI t), .int (nI k)] σ (fun ω rv => ∃ y, rv = some (.int y) ∧ ((¬ (zI σ 55 (8 * t + k) = 0 ∧ ¬ zI σ 33 0 < zI σ 59 (8 * t + k)) ∧ y = -1000003 ∧ Kp ω σ) ∨ ((zI σ 55 (8 * t + k) = 0 ∧ ¬ zI σ 33 0 < zI σ 59 (8 * t + k)) ∧ Co (s + 1) ω ∧ zI ω 55 (8 * t + k) = 1 ∧ zI ω 61 (8 * t + k) = y ∧ zI ω 52 = zI σ 52 ∧ (zI ω 51 = zI σ 51 ∧ zI ω 58 = zI σ 58 ∧ zI ω 59 = zI σ 59) ∧ ((zI σ 58 (8 * t + k) = zI σ 51 t ∧ y = -1 ∧ NW N0 ω σ) ∨ (¬ zI σ 58 (8 * t + k) = zI σ 51 t ∧ y = zI σ 33 36 ∧ NW (fun j => j = 36) ω σ ∧ ∃ nb, nb < 240 ∧ zI σ 33 36 = nI nb ∧ zI ω 33 36 = nI (nb + 1)))))) := by
  have et : ix (nI t) = t := cl0 (by omega)
  have ek : ix (nI k) = k := cl0 (by omega)
  have eq8 : cpI (nI t) (nI k) = 8 * t + k := by rw [cpI, et, ek]
  have hi : isWi (nI t) 0 (zI σ 33 23 - 1) ∧ isWi (nI k) 0 (zI σ 52 (ix (nI t)) - 1) := by rw [hn, et, hm]; exact ⟨wi_lt ht (by omega), wi_lt hk (by omega)⟩
  have em : ix (zI σ 52 t) = m := by rw [hm]; exact cl0 (by omega)
  obtain ⟨n', r1, r2, r3⟩ := Rel_tk h.2.1
  have en : n' = n := (nI_eq (by omega) (by omega)).mp (r2.symm.trans hn)
  subst en
  obtain ⟨m', s1, s2, s3, s4, s5⟩ := r3 t ht
  have em' : m' = m := (nI_eq (by omega) (by omega)).mp (s3.symm.trans hm)
  subst em'
  obtain ⟨c60, c58, c57, c61⟩ := s5 k hk
  obtain ⟨cs, hcs, e51⟩ := vp_in_of (n := 5) s4 (by decide)
  obtain ⟨pl, hpl, e60⟩ := vp_in_of (n := 10) c60 (by decide)
  obtain ⟨nb, b1, b2, b3⟩ := Rel_bl h.2.1
  have nbs : nb ≤ s := by
    obtain ⟨-, ⟨b', q1, q2⟩, -⟩ := h.2.2.2.2.2.2.2
    have := (nI_eq (by omega) (by omega)).mp (q2.symm.trans b2)
    omega
  have b0 := Rel_b0 h.2.1 b2 b1
  have h8 : ∀ u, u < n' → ix (zI σ 52 u) ≤ 8 := fun u hu => by
    obtain ⟨mu, u1, u2, u3, -⟩ := r3 u hu
    rw [u3, ix, cl0 (by omega)]; exact u2
  have htax : bt (zI σ 57 (8 * t + k)) 0 1000 := by
    obtain ⟨-, -, -, k4⟩ := TK_at h (t := t) (by rw [hn, ix, cl0 (by omega)]; exact ht)
    exact (k4 k (by rw [em]; exact hk)).2.2.1
  refine mu_int hg h.2.1 h.2.2.1 (fun g' => R_fly (by decide) h.2.1) (fun τ ω rv hS => ?_) (fun τ ω b hO hS h49 hw hr hA => ?_) (fun τ ω rv j c hO hc hS h49 hw hr hA => ?_)
  · obtain ⟨q1, q2, q3, q⟩ := hS
    by_cases c1 : isCp τ (nI t) (nI k)
    · by_cases c : zI τ 55 (cpI (nI t) (nI k)) = 0 ∧ ¬ zI τ 33 0 < zI τ 59 (cpI (nI t) (nI k))
      · by_cases c3 : zI τ 58 (cpI (nI t) (nI k)) = zI τ 51 (ix (nI t))
        · obtain ⟨rfl, -⟩ := q3 c1 c c3
          exact ⟨flH_GW c1, by rw [flH_Jr, if_neg (by omega), if_neg (by omega)]⟩
        · obtain ⟨rfl, -⟩ := q c1 c c3
          exact ⟨blH_GW (flH_GW c1), by rw [blH_J, flH_Jr, if_neg (by omega), if_neg (by omega)]⟩
      · obtain ⟨rfl, -⟩ := q2 c1 c
        exact ⟨GW_uI (by decide) (GW_refl τ), rfl⟩
    · obtain ⟨rfl, -⟩ := q1 c1
      exact ⟨GW_uI (by decide) (GW_refl τ), rfl⟩
  · obtain ⟨q1, q2, q3, q⟩ := hS
    have f := fun a x1 x2 => RO_f hO a x1 x2
    have o3 := fun j hj => RO_3 hO j hj
    have c1 : isCp τ (nI t) (nI k) := by rw [isCp, o3 23 (by decide), f 52 (by decide) (by decide)]; exact hi
    rw [eq8, et] at q3 q
    rw [eq8] at q2
    have nτ : zI τ 33 23 = nI n' := (o3 23 (by decide)).trans hn
    have h8τ : ∀ u, u < n' → ix (zI τ 52 u) ≤ 8 := fun u hu => by rw [f 52 (by decide) (by decide)]; exact h8 u hu
    have hkτ : k < ix (zI τ 52 t) := by rw [f 52 (by decide) (by decide), em]; exact hk
    have hb61 : zI τ 55 (8 * t + k) = 0 → zI τ 61 (8 * t + k) = -1 := by rw [f 55 (by decide) (by decide), f 61 (by decide) (by decide)]; exact c61
    have tx0 : 0 ≤ (Int32.toInt64 (zI τ 57 (8 * t + k))).toInt ∧ (Int32.toInt64 (zI τ 57 (8 * t + k))).toInt ≤ 1000 := by
      rw [Int32.toInt_toInt64, f 57 (by decide) (by decide)]; exact htax
    by_cases c : zI τ 55 (8 * t + k) = 0 ∧ ¬ zI τ 33 0 < zI τ 59 (8 * t + k)
    · have cσ : zI σ 55 (8 * t + k) = 0 ∧ ¬ zI σ 33 0 < zI σ 59 (8 * t + k) := by
        rw [f 55 (by decide) (by decide), f 59 (by decide) (by decide), o3 0 (by decide)] at c; exact c
      -- readings of flH
      have F55 : ∀ j, zI (flH τ (nI t) (nI k)) 55 j = if j = 8 * t + k then 1 else if 8 * t ≤ j ∧ j < 8 * t + k ∧ zI τ 55 j = 0 then 2 else zI τ 55 j := fun j => by
        rw [flH_Ir, eq8, et, ek]
        by_cases z : j = 8 * t + k
        · rw [if_pos ⟨rfl, z⟩, if_pos z]
        · rw [if_neg (fun w => z w.2), if_neg z]
          by_cases z2 : 8 * t ≤ j ∧ j < 8 * t + k ∧ zI τ 55 j = 0
          · rw [if_pos ⟨rfl, z2⟩, if_pos z2]
          · rw [if_neg (fun w => z2 w.2), if_neg z2, if_neg (by omega)]
      have FI : ∀ a j, a ≠ 55 → ¬ (a = 33 ∧ j = 49) → zI (flH τ (nI t) (nI k)) a j = zI τ a j := fun a j z1 z2 => flH_I z1 z2
      have FJ : ∀ a j, zJ (flH τ (nI t) (nI k)) a j = if a = 71 ∧ j = pl then zJ τ 71 pl + Int32.toInt64 (zI τ 57 (8 * t + k)) else if a = 70 ∧ j = cs then zJ τ 70 cs - Int32.toInt64 (zI τ 57 (8 * t + k)) else zJ τ a j := fun a j => by
        rw [flH_Jr, eq8, et, f 60 (by decide) (by decide), e60, f 51 (by decide) (by decide), e51, ix, ix, cl0 (by omega), cl0 (by omega)]
      have F70 : ∀ j, j < 5 → zJ (flH τ (nI t) (nI k)) 70 j = if j = cs then zJ τ 70 j - Int32.toInt64 (zI τ 57 (8 * t + k)) else zJ τ 70 j := fun j _ => by
        rw [FJ, if_neg (by omega)]
        by_cases z : j = cs
        · rw [if_pos ⟨rfl, z⟩, if_pos z, z]
        · rw [if_neg (fun w => z w.2), if_neg z]
      have F71 : ∀ j, j < 10 → zJ (flH τ (nI t) (nI k)) 71 j = if j = pl then zJ τ 71 j + Int32.toInt64 (zI τ 57 (8 * t + k)) else zJ τ 71 j := fun j _ => by
        rw [FJ]
        by_cases z : j = pl
        · rw [if_pos ⟨rfl, z⟩, if_pos z, z]
        · rw [if_neg (fun w => z w.2), if_neg z, if_neg (by omega)]
      have F48 : zJ (flH τ (nI t) (nI k)) 33 48 = zJ τ 33 48 := by rw [FJ, if_neg (by omega), if_neg (by omega)]
      by_cases c3 : zI τ 58 (8 * t + k) = zI τ 51 t
      · obtain ⟨rfl, e⟩ := q3 c1 c c3
        cases e
        have rf : ∀ a, a ≠ 55 → a ≠ 33 → zI (flH τ (nI t) (nI k)) a = zI τ a := fun a z1 z2 => funext fun j => FI a j z1 (by omega)
        have c3σ : zI σ 58 (8 * t + k) = zI σ 51 t := by rw [f 58 (by decide) (by decide), f 51 (by decide) (by decide)] at c3; exact c3
        refine Or.inr ⟨cσ, Co_of h hO (by omega) (FI 33 43 (by decide) (by decide)) hr hA (fun hc => ?_), by rw [F55, if_pos rfl], by rw [FI 61 _ (by decide) (by omega)]; exact hb61 c.1, (rf 52 (by decide) (by decide)).trans (f 52 (by decide) (by decide)), ⟨(rf 51 (by decide) (by decide)).trans (f 51 (by decide) (by decide)), (rf 58 (by decide) (by decide)).trans (f 58 (by decide) (by decide)), (rf 59 (by decide) (by decide)).trans (f 59 (by decide) (by decide))⟩, Or.inl ⟨c3σ, rfl, NW_of hw hO (fun j hj _ => FI 33 j (by decide) (by omega)) (fun _ => ⟨rf 47 (by decide) (by decide), rf 49 (by decide) (by decide)⟩)⟩⟩
        obtain ⟨hT, hK, hB, hM, hN⟩ := hc
        refine ⟨?_, fun u hu => ?_, ?_, MN_st hcs hpl tx0.1 tx0.2 h.1 F70 F71 F48 hM, ?_⟩
        · unfold TB at hT ⊢
          rw [FI 33 6 (by decide) (by decide), FI 33 14 (by decide) (by decide), rf 41 (by decide) (by decide), rf 37 (by decide) (by decide), rf 38 (by decide) (by decide)]
          exact hT
        · rw [FI 33 23 (by decide) (by decide), nτ, ix, cl0 (by omega)] at hu
          refine TK_fly nτ n30 h8τ ht hkτ F55 (fun a ha => rf a (by omega) (by omega)) (fun u j hu hj z hl => ?_) (Or.inl ?_) hu (hK u (by rw [nτ, ix, cl0 (by omega)]; exact hu))
          · unfold LK at hl ⊢
            rw [rf 61 (by decide) (by decide), FI 33 36 (by decide) (by decide), rf 63 (by decide) (by decide), rf 64 (by decide) (by decide), rf 65 (by decide) (by decide), rf 56 (by decide) (by decide), rf 51 (by decide) (by decide), rf 58 (by decide) (by decide)]
            refine hl.imp_right (fun hl => ⟨?_, hl.2⟩)
            rw [F55, if_neg z, if_neg (fun w => by rw [hl.1] at w; exact absurd w.2.2 (by decide))]
            exact hl.1
          · rw [rf 61 (by decide) (by decide), hb61 c.1]; decide
        · unfold BL at hB ⊢
          rw [FI 33 36 (by decide) (by decide), FI 33 43 (by decide) (by decide), rf 62 (by decide) (by decide), rf 64 (by decide) (by decide), rf 65 (by decide) (by decide), rf 66 (by decide) (by decide), rf 67 (by decide) (by decide)]
          exact hB
        · have hN := NM_s (Nat.le_succ s) hN
          unfold NM at hN ⊢
          rw [FI 33 36 (by decide) (by decide), FI 33 43 (by decide) (by decide), FI 33 0 (by decide) (by decide)]
          exact hN
      · obtain ⟨rfl, e⟩ := q c1 c c3
        cases e
        have c3σ : ¬ zI σ 58 (8 * t + k) = zI σ 51 t := by rw [f 58 (by decide) (by decide), f 51 (by decide) (by decide)] at c3; exact c3
        have e36 : zI τ 33 36 = nI nb := (o3 36 (by decide)).trans b2
        have i36 : ix (zI τ 33 36) = nb := by rw [e36]; exact cl0 (by omega)
        generalize hω : blH (flH τ (nI t) (nI k)) (8 * t + k) (ix (zI τ 33 36)) (zI τ 56 (8 * t + k)) (zI τ 51 t) (zI τ 58 (8 * t + k)) (zI τ 33 36) = ω at *
        have BI : ∀ b j, zI ω b j = if b = 33 ∧ j = 36 then zI τ 33 36 + 1 else if b = 61 ∧ j = 8 * t + k then zI τ 33 36 else if b = 65 ∧ j = nb then zI τ 58 (8 * t + k) else if b = 64 ∧ j = nb then zI τ 51 t else if b = 63 ∧ j = nb then zI τ 56 (8 * t + k) else if b = 62 ∧ j = nb then 0 else zI (flH τ (nI t) (nI k)) b j := fun b j => by
          rw [← hω, blH_I, i36]
        have BJ : ∀ b j, zJ ω b j = zJ (flH τ (nI t) (nI k)) b j := fun b j => by rw [← hω, blH_J]
        have R : ∀ a j, a ≠ 55 → (a < 61 ∨ 65 < a) → ¬ (a = 33 ∧ (j = 49 ∨ j = 36)) → zI ω a j = zI τ a j := fun a j z1 z2 z3 => by
          rw [BI, if_neg (by omega), if_neg (by omega), if_neg (by omega), if_neg (by omega), if_neg (by omega), if_neg (by omega)]
          exact FI a j z1 (by omega)
        have rf : ∀ a, a ≠ 55 → (a < 61 ∨ 65 < a) → a ≠ 33 → zI ω a = zI τ a := fun a z1 z2 z3 => funext fun j => R a j z1 z2 (by omega)
        have r55 : ∀ j, zI ω 55 j = if j = 8 * t + k then 1 else if 8 * t ≤ j ∧ j < 8 * t + k ∧ zI τ 55 j = 0 then 2 else zI τ 55 j := fun j => by
          rw [BI, if_neg (by omega), if_neg (by omega), if_neg (by omega), if_neg (by omega), if_neg (by omega), if_neg (by omega)]
          exact F55 j
        have r36 : zI ω 33 36 = nI (nb + 1) := by rw [BI, if_pos ⟨rfl, rfl⟩, e36, nI_1]
        have r61 : zI ω 61 (8 * t + k) = zI τ 33 36 := by rw [BI, if_neg (by omega), if_pos ⟨rfl, rfl⟩]
        have r61o : ∀ j, ¬ j = 8 * t + k → zI ω 61 j = zI τ 61 j := fun j z => by
          rw [BI, if_neg (by omega), if_neg (fun w => z w.2), if_neg (by omega), if_neg (by omega), if_neg (by omega), if_neg (by omega)]
          exact FI 61 j (by decide) (by omega)
        have rB : ∀ a j, 62 ≤ a → a ≤ 67 → ¬ j = nb → zI ω a j = zI τ a j := fun a j z1 z2 z3 => by
          rw [BI, if_neg (by omega), if_neg (by omega), if_neg (by omega), if_neg (by omega), if_neg (by omega), if_neg (by omega)]
          exact FI a j (by omega) (by omega)
        have rn : zI ω 62 nb = 0 ∧ zI ω 63 nb = zI τ 56 (8 * t + k) ∧ zI ω 64 nb = zI τ 51 t ∧ zI ω 65 nb = zI τ 58 (8 * t + k) := by
          refine ⟨?_, ?_, ?_, ?_⟩
          · rw [BI, if_neg (by omega), if_neg (by omega), if_neg (by omega), if_neg (by omega), if_neg (by omega), if_pos ⟨rfl, rfl⟩]
          · rw [BI, if_neg (by omega), if_neg (by omega), if_neg (by omega), if_neg (by omega), if_pos ⟨rfl, rfl⟩]
          · rw [BI, if_neg (by omega), if_neg (by omega), if_neg (by omega), if_pos ⟨rfl, rfl⟩]
          · rw [BI, if_neg (by omega), if_neg (by omega), if_pos ⟨rfl, rfl⟩]
        have r67 : zI ω 67 nb = 0 := by
          rw [rf 67 (by decide) (by omega) (by decide), f 67 (by decide) (by decide)]
          exact (b0 nb (Nat.le_refl nb)).2
        refine Or.inr ⟨cσ, Co_of h hO (by omega) (R 33 43 (by decide) (by omega) (by decide)) hr hA (fun hc => ?_), by rw [r55, if_pos rfl], r61.trans (i11 _).symm, (rf 52 (by decide) (by omega) (by decide)).trans (f 52 (by decide) (by decide)), ⟨(rf 51 (by decide) (by omega) (by decide)).trans (f 51 (by decide) (by decide)), (rf 58 (by decide) (by omega) (by decide)).trans (f 58 (by decide) (by decide)), (rf 59 (by decide) (by omega) (by decide)).trans (f 59 (by decide) (by decide))⟩, Or.inr ⟨c3σ, (i11 _).trans (o3 36 (by decide)), NW_of hw hO (fun j hj hc => R 33 j (by decide) (by omega) (by omega)) (fun _ => ⟨rf 47 (by decide) (by omega) (by decide), rf 49 (by decide) (by omega) (by decide)⟩), nb, by omega, b2, r36⟩⟩
        obtain ⟨hT, hK, hB, hM, hN⟩ := hc
        refine ⟨?_, fun u hu => ?_, fun d hd => ?_, MN_st hcs hpl tx0.1 tx0.2 h.1 (fun j hj => by rw [BJ]; exact F70 j hj) (fun j hj => by rw [BJ]; exact F71 j hj) (by rw [BJ]; exact F48) hM, ?_⟩
        · unfold TB at hT ⊢
          rw [R 33 6 (by decide) (by omega) (by decide), R 33 14 (by decide) (by omega) (by decide), rf 41 (by decide) (by omega) (by decide), rf 37 (by decide) (by omega) (by decide), rf 38 (by decide) (by omega) (by decide)]
          exact hT
        · rw [R 33 23 (by decide) (by omega) (by decide), nτ, ix, cl0 (by omega)] at hu
          refine TK_fly nτ n30 h8τ ht hkτ r55 (fun a ha => rf a (by omega) (by omega) (by omega)) (fun u j hu hj z hl => ?_) (Or.inr ⟨by rw [r55, if_pos rfl], nb, ?_, ?_, ?_, ?_, ?_⟩) hu (hK u (by rw [nτ, ix, cl0 (by omega)]; exact hu))
          · unfold LK at hl ⊢
            rw [r61o _ z]
            refine hl.imp_right (fun hl => ?_)
            obtain ⟨l1, b, l2, l3, l4, l5, l6⟩ := hl
            rw [i36] at l2
            refine ⟨?_, b, by rw [r36, ix, cl0 (by omega)]; omega, l3, ?_, ?_, ?_⟩
            · rw [r55, if_neg z, if_neg (fun w => by rw [l1] at w; exact absurd w.2.2 (by decide))]
              exact l1
            · rw [rB 63 b (by decide) (by decide) (by omega), rf 56 (by decide) (by omega) (by decide)]; exact l4
            · rw [rB 64 b (by decide) (by decide) (by omega), rf 51 (by decide) (by omega) (by decide)]; exact l5
            · rw [rB 65 b (by decide) (by decide) (by omega), rf 58 (by decide) (by omega) (by decide)]; exact l6
          · rw [r36, ix, cl0 (by omega)]; omega
          · rw [r61, e36]
          · rw [rn.2.1, rf 56 (by decide) (by omega) (by decide)]
          · rw [rn.2.2.1, rf 51 (by decide) (by omega) (by decide)]
          · rw [rn.2.2.2, rf 58 (by decide) (by omega) (by decide)]
        · rw [r36, ix, cl0 (by omega)] at hd
          by_cases z : d = nb
          · subst z
            rw [rn.2.2.1, rn.2.2.2, r67, rn.1, R 33 43 (by decide) (by omega) (by decide)]
            refine ⟨fun w => c3 w.symm, ?_, fun w => by rcases w with w | w <;> exact absurd w (by decide)⟩
            obtain ⟨⟨q', q1', q2'⟩, -⟩ := hN
            rw [q2', nI_toInt (by omega), zero_toInt]; omega
          · rw [rB 64 d (by decide) (by decide) z, rB 65 d (by decide) (by decide) z, rB 67 d (by decide) (by decide) z, rB 62 d (by decide) (by decide) z, rB 66 d (by decide) (by decide) z, R 33 43 (by decide) (by omega) (by decide)]
            exact hB d (by rw [i36]; omega)
        · obtain ⟨⟨q', q1', q2'⟩, -, hd0, hd1⟩ := hN
          refine ⟨⟨q', by omega, by rw [R 33 43 (by decide) (by omega) (by decide)]; exact q2'⟩, ⟨nb + 1, by omega, r36⟩, ?_⟩
          unfold bt
          rw [R 33 0 (by decide) (by omega) (by decide)]
          omega
    · obtain ⟨rfl, e⟩ := q2 c1 c
      rw [i49] at h49
      exact absurd h49 (by decide)
  · obtain ⟨q1, q2, q3, q⟩ := hS
    have f := fun a x1 x2 => RO_f hO a x1 x2
    have o3 := fun j hj => RO_3 hO j hj
    have c1 : isCp τ (nI t) (nI k) := by rw [isCp, o3 23 (by decide), f 52 (by decide) (by decide)]; exact hi
    rw [eq8, et] at q3 q
    rw [eq8] at q2
    by_cases cc : zI τ 55 (8 * t + k) = 0 ∧ ¬ zI τ 33 0 < zI τ 59 (8 * t + k)
    · by_cases c3 : zI τ 58 (8 * t + k) = zI τ 51 t
      · obtain ⟨rfl, e⟩ := q3 c1 cc c3
        rw [flH_Ir, if_neg (by omega), if_neg (by omega), if_pos ⟨rfl, rfl⟩] at h49
        exact absurd h49 (no49 (by decide) hc)
      · obtain ⟨rfl, e⟩ := q c1 cc c3
        rw [blH_I, if_neg (by omega), if_neg (by omega), if_neg (by omega), if_neg (by omega), if_neg (by omega), if_neg (by omega), flH_Ir, if_neg (by omega), if_neg (by omega), if_pos ⟨rfl, rfl⟩] at h49
        exact absurd h49 (no49 (by decide) hc)
    · obtain ⟨rfl, e⟩ := q2 c1 cc
      rw [i49] at h49
      rw [f 55 (by decide) (by decide), f 59 (by decide) (by decide), o3 0 (by decide)] at cc
      exact Or.inl ⟨cc, (Option.some.inj (is49 (by decide) hc 1 (by decide) h49)).symm, Kp_no h.2.1 hO RW_49 hr hA⟩
end MU5
