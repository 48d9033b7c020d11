/-! ===== an endorsement, a rejection, a new billing ===== -/
theorem Rel_tk {i : Nat} {σ : AH} (h : Rel i σ) : ∃ n, n ≤ 30 ∧ zI σ 33 23 = nI n ∧ ∀ t, t < n → ∃ m, 1 ≤ m ∧ m ≤ 8 ∧ zI σ 52 t = nI m ∧ vp_in (zI σ 51 t) 5 ∧ ∀ k, k < m → vp_in (zI σ 60 (8 * t + k)) 10 ∧ vp_in (zI σ 58 (8 * t + k)) 5 ∧ bt (zI σ 57 (8 * t + k)) 0 10000 ∧ (zI σ 55 (8 * t + k) = 0 → zI σ 61 (8 * t + k) = -1) := by
  obtain ⟨n, h1, h2, h3, h4, -⟩ := h.2.2.2.2.2.1
  refine ⟨n, h1, h2, fun t ht => ?_⟩
  obtain ⟨m, t1, t2, t3, t4, t5, t6, t7, t8, t9, t10, t11⟩ := h4 t ht
  refine ⟨m, t1, t2.2.2.2.1, t3, t6.2, fun k hk => ?_⟩
  have c := t11 k hk
  exact ⟨c.2.1.2, c.2.2.2.2.1.2, c.2.2.2.1.2, c.2.2.2.2.2.2.2.2⟩
theorem Rel_bl {i : Nat} {σ : AH} (h : Rel i σ) : ∃ n, n ≤ 240 ∧ zI σ 33 36 = nI n ∧ ∀ b, b < n → vp_in (zI σ 64 b) 5 ∧ vp_in (zI σ 65 b) 5 ∧ bt (zI σ 63 b) (-1073741824) 1073741824 ∧ ∃ s r z, zI σ 62 b = nI s ∧ zI σ 66 b = nI r ∧ zI σ 67 b = nI z ∧ SS s r z := by
  have hB := h.2.2.2.2.2.2.1
  obtain ⟨n, b1, b2, -⟩ := id hB
  obtain ⟨-, c2, -⟩ := RB_c hB b1
  refine ⟨n, b1.1, b2, fun b hb => ?_⟩
  obtain ⟨r1, r2, r3⟩ := c2 b hb
  obtain ⟨-, -, -, r4, -, -, -, r5⟩ := r1
  exact ⟨r2, r3, r4.2, r5⟩
section MU3
variable {g : GP} {σ : AH} {s : Nat}
theorem q_inj {t k u j : Nat} (hk : k < 8) (hj : j < 8) (h : 8 * t + k = 8 * u + j) : t = u ∧ k = j := by omega
theorem P_endorse {t k n m : Nat} {v3 : Int32} (hg : gG g = none) (h : Co s σ) (hn : zI σ 33 23 = nI n) (n30 : n ≤ 30) (ht : t < n) (hm : zI σ 52 t = nI m) (m8 : m ≤ 8) (hk : k < m) (h3 : isCa v3) : CtH g mL_endorse [.ref 2, .int (nI t), .int (nI k), .int v3] σ (fun ω rv => ∃ y, rv = some (.int y) ∧ ((¬ (zI σ 55 (8 * t + k) = 0 ∧ ¬ zI σ 58 (8 * t + k) = v3) ∧ y = -1000003 ∧ Kp ω σ) ∨ ((zI σ 55 (8 * t + k) = 0 ∧ ¬ zI σ 58 (8 * t + k) = v3) ∧ y = zI σ 58 (8 * t + k) ∧ Co s ω ∧ NW N0 ω σ ∧ zI ω 58 (8 * t + k) = v3 ∧ zI ω 52 = zI σ 52))) := by
  have ei : ix (nI t) = t := cl0 (by omega)
  have hi : (isWi (nI t) 0 (zI σ 33 23 - 1) ∧ isWi (nI k) 0 (zI σ 52 (ix (nI t)) - 1)) ∧ isCa v3 := by rw [hn, ei, hm]; exact ⟨⟨wi_lt ht (by omega), wi_lt hk (by omega)⟩, h3⟩
  have e8 : ix (8 * nI t + nI k) = 8 * t + k := by rw [(cp_idx (by omega) (by omega)).1]; exact cl0 (by omega)
  have hbill : zI σ 55 (8 * t + k) = 0 → zI σ 61 (8 * t + k) = -1 := by
    obtain ⟨n', r1, r2, r3⟩ := Rel_tk h.2.1
    have en : n' = n := (nI_eq (by omega) (by omega)).mp (r2.symm.trans hn)
    subst en
    obtain ⟨m', s1, s2, s3, s4, s5⟩ := r3 t ht
    have em : m' = m := (nI_eq (by omega) (by omega)).mp (s3.symm.trans hm)
    subst em
    exact (s5 k hk).2.2.2
  refine mu_int hg h.2.1 h.2.2.1 (fun g' => R_endorse (by decide) h.2.1) (fun τ ω rv hS => ?_) (fun τ ω b hO hS h49 hw hr hA => ?_) (fun τ ω rv j c hO hc hS h49 hw hr hA => ?_)
  · obtain ⟨q1, q2, q⟩ := hS
    by_cases c1 : (isWi (nI t) 0 (zI τ 33 23 - 1) ∧ isWi (nI k) 0 (zI τ 52 (ix (nI t)) - 1)) ∧ isCa v3
    · by_cases c : zI τ 55 (ix (8 * nI t + nI k)) = 0 ∧ ¬ zI τ 58 (ix (8 * nI t + nI k)) = v3
      · obtain ⟨rfl, -⟩ := q c1 c
        exact ⟨GW_uI (by decide) (GW_uI (by decide) (GW_refl τ)), rfl⟩
      · obtain ⟨rfl, -⟩ := q2 c1 c
        exact ⟨GW_uI (by decide) (GW_refl τ), rfl⟩
    · obtain ⟨rfl, -⟩ := q1 c1
      exact ⟨GW_uI (by decide) (GW_refl τ), rfl⟩
  · obtain ⟨q1, q2, q⟩ := hS
    have c1 : (isWi (nI t) 0 (zI τ 33 23 - 1) ∧ isWi (nI k) 0 (zI τ 52 (ix (nI t)) - 1)) ∧ isCa v3 := by rw [RO_3 hO 23 (by decide), RO_f hO 52 (by decide) (by decide)]; exact hi
    rw [e8, RO_f hO 55 (by decide) (by decide), RO_f hO 58 (by decide) (by decide)] at q q2
    by_cases c : zI σ 55 (8 * t + k) = 0 ∧ ¬ zI σ 58 (8 * t + k) = v3
    · obtain ⟨rfl, e⟩ := q c1 c
      cases e
      have r : ∀ a j, ¬ (a = 58 ∧ j = 8 * t + k) → ¬ (a = 33 ∧ j = 49) → zI (uI (uI τ 33 49 0) 58 (8 * t + k) v3) a j = zI τ a j := fun a j z1 z2 => by
        rw [zI_uI, if_neg z1, zI_uI, if_neg z2]
      have rf : ∀ a, a ≠ 58 → a ≠ 33 → zI (uI (uI τ 33 49 0) 58 (8 * t + k) v3) a = zI τ a := fun a z1 z2 => funext fun j => r a j (by omega) (by omega)
      refine Or.inr ⟨c, rfl, Co_of h hO h.1 (r 33 43 (by omega) (by omega)) hr hA (fun hc => ?_), NW_of hw hO (fun j hj _ => r 33 j (by omega) (by omega)) (fun _ => ⟨rf 47 (by decide) (by decide), rf 49 (by decide) (by decide)⟩), by rw [zI_uI, if_pos ⟨rfl, rfl⟩], (rf 52 (by decide) (by decide)).trans (RO_f hO 52 (by decide) (by decide))⟩
      obtain ⟨hT, hK, hB, hM, hN⟩ := hc
      refine ⟨?_, fun u hu => ?_, ?_, hM, ?_⟩
      · unfold TB at hT ⊢
        rw [r 33 6 (by omega) (by omega), r 33 14 (by omega) (by omega), rf 41 (by decide) (by decide), rf 37 (by decide) (by decide), rf 38 (by decide) (by decide)]
        exact hT
      · rw [r 33 23 (by omega) (by omega)] at hu
        obtain ⟨k1, k2, k3, k4⟩ := hK u hu
        unfold TK
        rw [rf 56 (by decide) (by decide), rf 52 (by decide) (by decide), rf 54 (by decide) (by decide), rf 50 (by decide) (by decide)]
        refine ⟨k1, k2, k3, fun j hj => ?_⟩
        obtain ⟨p1, p2, p3, p4, p5⟩ := k4 j hj
        unfold CP
        rw [rf 55 (by decide) (by decide), rf 56 (by decide) (by decide), rf 57 (by decide) (by decide), rf 61 (by decide) (by decide), rf 63 (by decide) (by decide), rf 64 (by decide) (by decide), rf 65 (by decide) (by decide), rf 51 (by decide) (by decide), r 33 36 (by omega) (by omega)]
        refine ⟨p1, p2, p3, p4, ?_⟩
        by_cases z : 8 * u + j = 8 * t + k
        · left
          rw [z, RO_f hO 61 (by decide) (by decide), hbill c.1]
          decide
        · rw [r 58 (8 * u + j) (by omega) (by omega)]
          exact p5
      · unfold BL at hB ⊢
        rw [r 33 36 (by omega) (by omega), r 33 43 (by omega) (by omega), rf 62 (by decide) (by decide), rf 64 (by decide) (by decide), rf 65 (by decide) (by decide), rf 66 (by decide) (by decide), rf 67 (by decide) (by decide)]
        exact hB
      · unfold NM at hN ⊢
        rw [r 33 36 (by omega) (by omega), r 33 43 (by omega) (by omega), r 33 0 (by omega) (by omega)]
        exact hN
    · obtain ⟨rfl, e⟩ := q2 c1 c
      rw [i49] at h49
      exact absurd h49 (by decide)
  · obtain ⟨q1, q2, q⟩ := hS
    have c1 : (isWi (nI t) 0 (zI τ 33 23 - 1) ∧ isWi (nI k) 0 (zI τ 52 (ix (nI t)) - 1)) ∧ isCa v3 := by rw [RO_3 hO 23 (by decide), RO_f hO 52 (by decide) (by decide)]; exact hi
    rw [e8, RO_f hO 55 (by decide) (by decide), RO_f hO 58 (by decide) (by decide)] at q q2
    by_cases cc : zI σ 55 (8 * t + k) = 0 ∧ ¬ zI σ 58 (8 * t + k) = v3
    · obtain ⟨rfl, e⟩ := q c1 cc
      rw [zI_uI, if_neg (by omega), i49] at h49
      exact absurd h49 (no49 (by decide) hc)
    · obtain ⟨rfl, e⟩ := q2 c1 cc
      rw [i49] at h49
      exact Or.inl ⟨cc, (Option.some.inj (is49 (by decide) hc 1 (by decide) h49)).symm, Kp_no h.2.1 hO RW_49 hr hA⟩
/-- bills' rows put anew: what is wanted -/
theorem Cr_cgB {ω τ : AH} (hB : BL ω) (h1 : ∀ a j, a ≠ 62 → a ≠ 66 → a ≠ 67 → CI a → zI ω a j = zI τ a j) (h2 : ∀ j, j = 0 ∨ j = 6 ∨ j = 14 ∨ j = 23 ∨ j = 36 ∨ j = 43 → zI ω 33 j = zI τ 33 j) (h3 : ∀ a j, a = 70 ∨ a = 71 ∨ a = 33 → zJ ω a j = zJ τ a j) (h : Cr s τ) : Cr s ω := by
  have e : ∀ a, a ≠ 62 → a ≠ 66 → a ≠ 67 → CI a → zI ω a = zI τ a := fun a z1 z2 z3 ha => funext fun j => h1 a j z1 z2 z3 ha
  have j : ∀ a, a = 70 ∨ a = 71 ∨ a = 33 → zJ ω a = zJ τ a := fun a ha => funext fun j => h3 a j ha
  obtain ⟨hT, hK, -, hM, hN⟩ := h
  refine ⟨?_, ?_, hB, ?_, ?_⟩
  · unfold TB at hT ⊢
    rw [h2 6 (by decide), h2 14 (by decide), e 41 (by decide) (by decide) (by decide) (by unfold CI; omega), e 37 (by decide) (by decide) (by decide) (by unfold CI; omega), e 38 (by decide) (by decide) (by decide) (by unfold CI; omega)]
    exact hT
  · unfold TK CP at hK ⊢
    rw [h2 23 (by decide), h2 36 (by decide), e 50 (by decide) (by decide) (by decide) (by unfold CI; omega), e 51 (by decide) (by decide) (by decide) (by unfold CI; omega), e 52 (by decide) (by decide) (by decide) (by unfold CI; omega), e 54 (by decide) (by decide) (by decide) (by unfold CI; omega), e 55 (by decide) (by decide) (by decide) (by unfold CI; omega), e 56 (by decide) (by decide) (by decide) (by unfold CI; omega), e 57 (by decide) (by decide) (by decide) (by unfold CI; omega), e 58 (by decide) (by decide) (by decide) (by unfold CI; omega), e 61 (by decide) (by decide) (by decide) (by unfold CI; omega), e 63 (by decide) (by decide) (by decide) (by unfold CI; omega), e 64 (by decide) (by decide) (by decide) (by unfold CI; omega), e 65 (by decide) (by decide) (by decide) (by unfold CI; omega)]
    exact hK
  · unfold MN at hM ⊢
    rw [j 70 (by decide), j 71 (by decide), j 33 (by decide)]
    exact hM
  · unfold NM at hN ⊢
    rw [h2 0 (by decide), h2 36 (by decide), h2 43 (by decide)]
    exact hN
theorem P_reject {b n : Nat} (hg : gG g = none) (h : Co s σ) (hn : zI σ 33 36 = nI n) (n240 : n ≤ 240) (hb : b < n) : CtH g mL_reject [.ref 2, .int (nI b)] σ (fun ω rv => ∃ y, rv = some (.int y) ∧ ((¬ (zI σ 62 b = 1 ∧ ¬ zI σ 67 b < zI σ 33 43 - 1) ∧ y = -1000003 ∧ Kp ω σ) ∨ ((zI σ 62 b = 1 ∧ ¬ zI σ 67 b < zI σ 33 43 - 1) ∧ y = zI ω 66 b ∧ Co s ω ∧ NW N0 ω σ ∧ zI ω 62 b = 2 ∧ zI ω 67 = zI σ 67))) := by
  have hi : isWi (nI b) 0 (zI σ 33 36 - 1) := by rw [hn]; exact wi_lt hb (by omega)
  have ei : ix (nI b) = b := cl0 (by omega)
  have hss : zI σ 62 b = 1 → (zI σ 66 b + 1).toInt = (zI σ 66 b).toInt + 1 ∧ 0 ≤ (zI σ 66 b).toInt := by
    intro e1
    obtain ⟨n', r1, r2, r3⟩ := Rel_bl h.2.1
    have en : n' = n := (nI_eq (by omega) (by omega)).mp (r2.symm.trans hn)
    subst en
    obtain ⟨-, -, -, s', r, z, s1, s2, s3, s4⟩ := r3 b hb
    have hr : r ≤ 3 := by unfold SS at s4; omega
    rw [s2, nI_1, nI_toInt (by omega), nI_toInt (by omega)]
    omega
  refine mu_int hg h.2.1 h.2.2.1 (fun g' => R_reject (by decide) h.2.1) (fun τ ω rv hS => ?_) (fun τ ω bb hO hS h49 hw hr hA => ?_) (fun τ ω rv j c hO hc hS h49 hw hr hA => ?_)
  · obtain ⟨q1, q2, q⟩ := hS
    by_cases c1 : isWi (nI b) 0 (zI τ 33 36 - 1)
    · by_cases c : zI τ 62 (ix (nI b)) = 1 ∧ ¬ zI τ 67 (ix (nI b)) < zI τ 33 43 - 1
      · obtain ⟨rfl, -⟩ := q c1 c
        exact ⟨GW_uI (by decide) (GW_uI (by decide) (GW_uI (by decide) (GW_refl τ))), rfl⟩
      · obtain ⟨rfl, -⟩ := q2 c1 c
        exact ⟨GW_uI (by decide) (GW_refl τ), rfl⟩
    · obtain ⟨rfl, -⟩ := q1 c1
      exact ⟨GW_uI (by decide) (GW_refl τ), rfl⟩
  · obtain ⟨q1, q2, q⟩ := hS
    have c1 : isWi (nI b) 0 (zI τ 33 36 - 1) := by rw [RO_3 hO 36 (by decide)]; exact hi
    rw [ei] at q q2
    have o62 := RO_f hO 62 (by decide) (by decide)
    have o66 := RO_f hO 66 (by decide) (by decide)
    have o67 := RO_f hO 67 (by decide) (by decide)
    by_cases c : zI τ 62 b = 1 ∧ ¬ zI τ 67 b < zI τ 33 43 - 1
    · obtain ⟨rfl, e⟩ := q c1 c
      cases e
      have r : ∀ a j, ¬ (a = 62 ∧ j = b) → ¬ (a = 66 ∧ j = b) → ¬ (a = 33 ∧ j = 49) → zI (uI (uI (uI τ 33 49 0) 62 b 2) 66 b (zI τ 66 b + 1)) a j = zI τ a j := fun a j z1 z2 z3 => by
        rw [zI_uI, if_neg z2, zI_uI, if_neg z1, zI_uI, if_neg z3]
      have r62 : zI (uI (uI (uI τ 33 49 0) 62 b 2) 66 b (zI τ 66 b + 1)) 62 b = 2 := by rw [zI_uI, if_neg (by omega), zI_uI, if_pos ⟨rfl, rfl⟩]
      have r66 : zI (uI (uI (uI τ 33 49 0) 62 b 2) 66 b (zI τ 66 b + 1)) 66 b = zI τ 66 b + 1 := by rw [zI_uI, if_pos ⟨rfl, rfl⟩]
      have cσ : zI σ 62 b = 1 ∧ ¬ zI σ 67 b < zI σ 33 43 - 1 := by rw [o62, o67, RO_3 hO 43 (by decide)] at c; exact c
      refine Or.inr ⟨cσ, rfl, Co_of h hO h.1 (r 33 43 (by omega) (by omega) (by decide)) hr hA (fun hc => Cr_cgB (fun d hd => ?_) (fun a j z1 z2 z3 ha => r a j (by omega) (by omega) (by unfold CI at ha; omega)) (fun j hj => r 33 j (by omega) (by omega) (by omega)) (fun _ _ _ => rfl) hc), NW_of hw hO (fun j hj _ => r 33 j (by omega) (by omega) (by omega)) (fun _ => ⟨funext fun j => r 47 j (by omega) (by omega) (by omega), funext fun j => r 49 j (by omega) (by omega) (by omega)⟩), r62, funext fun j => (r 67 j (by omega) (by omega) (by omega)).trans (congrFun o67 j)⟩
      rw [r 33 36 (by omega) (by omega) (by decide)] at hd
      obtain ⟨b1, b2, b3⟩ := hc.2.2.1 d hd
      rw [r 64 d (by omega) (by omega) (by omega), r 65 d (by omega) (by omega) (by omega), r 67 d (by omega) (by omega) (by omega), r 33 43 (by omega) (by omega) (by omega)]
      refine ⟨b1, b2, fun z => ?_⟩
      by_cases zd : d = b
      · subst zd
        rw [r66, o66, (hss cσ.1).1]
        have := (hss cσ.1).2
        omega
      · rw [r 62 d (by omega) (by omega) (by omega)] at z
        rw [r 66 d (by omega) (by omega) (by omega)]
        exact b3 z
    · obtain ⟨rfl, e⟩ := q2 c1 c
      rw [i49] at h49
      exact absurd h49 (by decide)
  · obtain ⟨q1, q2, q⟩ := hS
    have c1 : isWi (nI b) 0 (zI τ 33 36 - 1) := by rw [RO_3 hO 36 (by decide)]; exact hi
    rw [ei, RO_f hO 62 (by decide) (by decide), RO_f hO 67 (by decide) (by decide), RO_3 hO 43 (by decide)] at q q2
    by_cases cc : zI σ 62 b = 1 ∧ ¬ zI σ 67 b < zI σ 33 43 - 1
    · obtain ⟨rfl, e⟩ := q c1 cc
      rw [zI_uI, if_neg (by omega), zI_uI, if_neg (by omega), i49] at h49
      exact absurd h49 (no49 (by decide) hc)
    · obtain ⟨rfl, e⟩ := q2 c1 cc
      rw [i49] at h49
      exact Or.inl ⟨cc, (Option.some.inj (is49 (by decide) hc 1 (by decide) h49)).symm, Kp_no h.2.1 hO RW_49 hr hA⟩
theorem P_rejectO (hg : gG g = none) (h : Co s σ) (hn : zI σ 33 36 = 0) : CtH g mL_reject [.ref 2, .int 0] σ (fun ω rv => rv = some (.int (-1000001)) ∧ Kp ω σ) := by
  have hi : ¬ isWi (0 : Int32) 0 (zI σ 33 36 - 1) := by rw [hn]; decide
  refine ro_int hg (Co_Kp h) (fun g' => R_reject (by decide) h.2.1) (fun τ ω b hO hS h49 => ?_) (fun τ ω rv j c hO hc hS h49 => ?_)
  · obtain ⟨s, -, -⟩ := hS
    obtain ⟨rfl, e⟩ := s (by rw [RO_3 hO 36 (by decide)]; exact hi)
    rw [i49] at h49
    exact absurd h49 (by decide)
  · obtain ⟨s, -, -⟩ := hS
    obtain ⟨rfl, e⟩ := s (by rw [RO_3 hO 36 (by decide)]; exact hi)
    rw [i49] at h49
    exact ⟨RW_49, (Option.some.inj (is49 (by decide) hc 0 (by decide) h49)).symm⟩
theorem P_rebill {b n : Nat} (hg : gG g = none) (h : Co s σ) (hn : zI σ 33 36 = nI n) (n240 : n ≤ 240) (hb : b < n) : CtH g mL_rebill [.ref 2, .int (nI b)] σ (fun ω rv => ∃ y, rv = some (.int y) ∧ ((¬ zI σ 62 b = 3 ∧ y = -1000003 ∧ Kp ω σ) ∨ (zI σ 62 b = 3 ∧ y = 0 ∧ Co s ω ∧ NW N0 ω σ))) := by
  have hi : isWi (nI b) 0 (zI σ 33 36 - 1) := by rw [hn]; exact wi_lt hb (by omega)
  have ei : ix (nI b) = b := cl0 (by omega)
  refine mu_v hg h.2.1 h.2.2.1 (fun g' => R_rebill (by decide) h.2.1) (fun τ ω rv hS => ?_) (fun τ ω rv hO hS h49 hw hr hA => ?_) (fun τ ω rv j c hO hc hS h49 hw hr hA => ?_)
  · obtain ⟨q1, q2, q⟩ := hS
    by_cases c1 : isWi (nI b) 0 (zI τ 33 36 - 1)
    · by_cases c : zI τ 62 (ix (nI b)) = 3
      · obtain ⟨rfl, -⟩ := q c1 c
        exact ⟨GW_uI (by decide) (GW_uI (by decide) (GW_refl τ)), rfl⟩
      · obtain ⟨rfl, -⟩ := q2 c1 c
        exact ⟨GW_uI (by decide) (GW_refl τ), rfl⟩
    · obtain ⟨rfl, -⟩ := q1 c1
      exact ⟨GW_uI (by decide) (GW_refl τ), rfl⟩
  · obtain ⟨q1, q2, q⟩ := hS
    have c1 : isWi (nI b) 0 (zI τ 33 36 - 1) := by rw [RO_3 hO 36 (by decide)]; exact hi
    rw [ei] at q q2
    have o62 := RO_f hO 62 (by decide) (by decide)
    by_cases c : zI τ 62 b = 3
    · obtain ⟨rfl, e⟩ := q c1 c
      have r : ∀ a j, ¬ (a = 62 ∧ j = b) → ¬ (a = 33 ∧ j = 49) → zI (uI (uI τ 33 49 0) 62 b 0) a j = zI τ a j := fun a j z1 z3 => by
        rw [zI_uI, if_neg z1, zI_uI, if_neg z3]
      have r62 : zI (uI (uI τ 33 49 0) 62 b 0) 62 b = 0 := by rw [zI_uI, if_pos ⟨rfl, rfl⟩]
      refine Or.inr ⟨by rw [o62] at c; exact c, rfl, Co_of h hO h.1 (r 33 43 (by omega) (by decide)) hr hA (fun hc => Cr_cgB (fun d hd => ?_) (fun a j z1 z2 z3 ha => r a j (by omega) (by unfold CI at ha; omega)) (fun j hj => r 33 j (by omega) (by omega)) (fun _ _ _ => rfl) hc), NW_of hw hO (fun j hj _ => r 33 j (by omega) (by omega)) (fun _ => ⟨funext fun j => r 47 j (by omega) (by omega), funext fun j => r 49 j (by omega) (by omega)⟩)⟩
      rw [r 33 36 (by omega) (by decide)] at hd
      obtain ⟨b1, b2, b3⟩ := hc.2.2.1 d hd
      rw [r 64 d (by omega) (by omega), r 65 d (by omega) (by omega), r 67 d (by omega) (by omega), r 33 43 (by omega) (by omega), r 66 d (by omega) (by omega)]
      refine ⟨b1, b2, fun z => ?_⟩
      by_cases zd : d = b
      · subst zd
        rw [r62] at z
        exact absurd z (by decide)
      · rw [r 62 d (by omega) (by omega)] at z
        exact b3 z
    · obtain ⟨rfl, e⟩ := q2 c1 c
      rw [i49] at h49
      exact absurd h49 (by decide)
  · obtain ⟨q1, q2, q⟩ := hS
    have c1 : isWi (nI b) 0 (zI τ 33 36 - 1) := by rw [RO_3 hO 36 (by decide)]; exact hi
    rw [ei, RO_f hO 62 (by decide) (by decide)] at q q2
    by_cases cc : zI σ 62 b = 3
    · obtain ⟨rfl, e⟩ := q c1 cc
      rw [zI_uI, if_neg (by omega), i49] at h49
      exact absurd h49 (no49 (by decide) hc)
    · obtain ⟨rfl, e⟩ := q2 c1 cc
      rw [i49] at h49
      exact Or.inl ⟨cc, (Option.some.inj (is49 (by decide) hc 1 (by decide) h49)).symm, Kp_no h.2.1 hO RW_49 hr hA⟩
theorem P_rebillO (hg : gG g = none) (h : Co s σ) (hn : zI σ 33 36 = 0) : CtH g mL_rebill [.ref 2, .int 0] σ (fun ω rv => ∃ y, rv = some (.int y) ∧ y = -1000001 ∧ Kp ω σ) := by
  have hi : ¬ isWi (0 : Int32) 0 (zI σ 33 36 - 1) := by rw [hn]; decide
  refine mu_v hg h.2.1 h.2.2.1 (fun g' => R_rebill (by decide) h.2.1) (fun τ ω rv hS => ?_) (fun τ ω rv hO hS h49 hw hr hA => ?_) (fun τ ω rv j c hO hc hS h49 hw hr hA => ?_)
  · obtain ⟨q1, q2, q⟩ := hS
    by_cases c1 : isWi (0 : Int32) 0 (zI τ 33 36 - 1)
    · by_cases c : zI τ 62 (ix 0) = 3
      · obtain ⟨rfl, -⟩ := q c1 c
        exact ⟨GW_uI (by decide) (GW_uI (by decide) (GW_refl τ)), rfl⟩
      · obtain ⟨rfl, -⟩ := q2 c1 c
        exact ⟨GW_uI (by decide) (GW_refl τ), rfl⟩
    · obtain ⟨rfl, -⟩ := q1 c1
      exact ⟨GW_uI (by decide) (GW_refl τ), rfl⟩
  · obtain ⟨s, -, -⟩ := hS
    obtain ⟨rfl, e⟩ := s (by rw [RO_3 hO 36 (by decide)]; exact hi)
    rw [i49] at h49
    exact absurd h49 (by decide)
  · obtain ⟨s, -, -⟩ := hS
    obtain ⟨rfl, e⟩ := s (by rw [RO_3 hO 36 (by decide)]; exact hi)
    rw [i49] at h49
    exact ⟨(Option.some.inj (is49 (by decide) hc 0 (by decide) h49)).symm, Kp_no h.2.1 hO RW_49 hr hA⟩
end MU3
