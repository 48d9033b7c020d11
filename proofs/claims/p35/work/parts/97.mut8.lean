/-! ===== clearing ===== -/
theorem scT_mv {x y : Nat} {m : Int64} (hx : x < 5) (hy : y < 5) : scT (fun c => (if c = x then m else 0) - (if c = y then m else 0)) 5 = 0 := by
  have e : scT (fun c => (if c = x then m else 0) - (if c = y then m else 0)) 5 = scT (fun c => (if c = x then m else 0) + (if c = y then -m else 0)) 5 := scT_c 5 (fun k _ => by
    by_cases z : k = y
    · rw [if_pos z, if_pos z]; grind
    · rw [if_neg z, if_neg z]; grind)
  rw [e, scT_add, scT_at, scT_at, if_pos hx, if_pos hy]
  grind
theorem scT_dl {C : Nat → Prop} {f : Nat → Nat → Int64} : ∀ d, (∀ b, b < d → scT (f b) 5 = 0) → scT (fun c => dlS C f d c) 5 = 0
  | 0, _ => by
    show scT (fun c => dlS C f 0 c) 5 = 0
    rw [show (fun c => dlS C f 0 c) = fun c => (if c = 5 then (0 : Int64) else 0) from funext fun c => by
      rw [dlS]; split <;> rfl, scT_at, if_neg (by decide)]
  | d + 1, h => by
    have ih := scT_dl (C := C) d (fun b hb => h b (by omega))
    by_cases c : C d
    · rw [show (fun k => dlS C f (d + 1) k) = fun k => dlS C f d k + f d k from funext fun k => dlS_y c, scT_add, ih, h d (by omega)]
      decide
    · rw [show (fun k => dlS C f (d + 1) k) = fun k => dlS C f d k from funext fun k => dlS_n c]
      exact ih
theorem dv_b {x y c : Nat} {m : Int64} (h1 : -2147483648 ≤ m.toInt) (h2 : m.toInt ≤ 2147483648) : -2147483648 ≤ ((if c = x then m else 0) - (if c = y then m else 0)).toInt ∧ ((if c = x then m else 0) - (if c = y then m else 0)).toInt ≤ 2147483648 := by
  have e0 : (0 : Int64).toInt = 0 := by decide
  by_cases q1 : c = x
  · rw [if_pos q1]
    by_cases q2 : c = y
    · rw [if_pos q2, Int64.toInt_sub, Int.bmod_def]; split <;> omega
    · rw [if_neg q2, Int64.toInt_sub, e0, Int.bmod_def]; split <;> omega
  · rw [if_neg q1]
    by_cases q2 : c = y
    · rw [if_pos q2, Int64.toInt_sub, e0, Int.bmod_def]; split <;> omega
    · rw [if_neg q2, Int64.toInt_sub, e0, Int.bmod_def]; split <;> omega
theorem i64_b (x : Int32) : -2147483648 ≤ (Int32.toInt64 x).toInt ∧ (Int32.toInt64 x).toInt ≤ 2147483648 := by
  rw [Int32.toInt_toInt64]
  have := Int32.le_toInt x
  have := Int32.toInt_lt x
  omega
theorem dlS_b {C : Nat → Prop} {f : Nat → Nat → Int64} {c : Nat} : ∀ d, d ≤ 240 → (∀ b, b < d → -2147483648 ≤ (f b c).toInt ∧ (f b c).toInt ≤ 2147483648) → -2147483648 * (d : Int) ≤ (dlS C f d c).toInt ∧ (dlS C f d c).toInt ≤ 2147483648 * (d : Int)
  | 0, _, _ => by
    rw [dlS]
    exact ⟨by decide, by decide⟩
  | d + 1, hd, h => by
    have ih := dlS_b (C := C) d (by omega) (fun b hb => h b (by omega))
    have hf := h d (by omega)
    by_cases q : C d
    · rw [dlS_y q, Int64.toInt_add, Int.bmod_def]
      split <;> omega
    · rw [dlS_n q]
      omega
theorem lg_pos {x : Int64} (h : ¬ lg_cmp x 0 ≤ 0) : 0 < x.toInt := by
  have e0 : (0 : Int64).toInt = 0 := by decide
  unfold lg_cmp at h
  by_cases h1 : x > 0
  · have := Int64.lt_iff_toInt_lt.mp h1
    omega
  · rw [if_neg h1] at h
    by_cases h2 : x = 0
    · rw [if_pos h2] at h; exact absurd (by decide) h
    · rw [if_neg h2] at h; exact absurd (by decide) h
theorem scS_b {f : Nat → Int64} : ∀ d, d ≤ 5 → (∀ c, c < d → (f c).toInt ≤ 1000000000000) → 0 ≤ (scS f d).toInt ∧ (scS f d).toInt ≤ 1000000000000 * (d : Int)
  | 0, _, _ => by
    rw [scS]
    exact ⟨by decide, by decide⟩
  | d + 1, hd, h => by
    have ih := scS_b d (by omega) (fun c hc => h c (by omega))
    have hf := h d (by omega)
    have e0 : (0 : Int64).toInt = 0 := by decide
    rw [scS]
    by_cases q : lg_cmp (f d) 0 ≤ 0
    · rw [if_pos q, Int64.toInt_add, e0, Int.bmod_def]
      split <;> omega
    · have := lg_pos q
      rw [if_neg q, Int64.toInt_add, Int.bmod_def]
      split <;> omega
theorem sdG_0 {σ : AH} {b : Nat} (hp : vp_in (zI σ 64 b) 5) (hq : vp_in (zI σ 65 b) 5) : scT (sdG σ b) 5 = 0 ∧ ∀ c, -2147483648 ≤ (sdG σ b c).toInt ∧ (sdG σ b c).toInt ≤ 2147483648 := by
  obtain ⟨x, hx, ex⟩ := vp_in_of hp (by decide)
  obtain ⟨y, hy, ey⟩ := vp_in_of hq (by decide)
  have e : ∀ c, sdG σ b c = if zI σ 62 b = 0 then (if c = y then Int32.toInt64 (zI σ 63 b) else 0) - (if c = x then Int32.toInt64 (zI σ 63 b) else 0) else (if c = x then Int32.toInt64 (bkF σ b) else 0) - (if c = y then Int32.toInt64 (bkF σ b) else 0) := fun c => by
    rw [sdG, ex, ey, ix, ix, cl0 (by omega), cl0 (by omega)]
  rw [show sdG σ b = _ from funext e]
  by_cases q : zI σ 62 b = 0
  · simp only [if_pos q]
    exact ⟨scT_mv hy hx, fun c => dv_b (i64_b _).1 (i64_b _).2⟩
  · simp only [if_neg q]
    exact ⟨scT_mv hx hy, fun c => dv_b (i64_b _).1 (i64_b _).2⟩
theorem udG_0 {σ : AH} {b : Nat} (hp : vp_in (zI σ 64 b) 5) (hq : vp_in (zI σ 65 b) 5) : scT (udG σ b) 5 = 0 := by
  obtain ⟨x, hx, ex⟩ := vp_in_of hp (by decide)
  obtain ⟨y, hy, ey⟩ := vp_in_of hq (by decide)
  have e : ∀ c, udG σ b c = if zI σ 62 b = 1 then (if c = x then Int32.toInt64 (zI σ 63 b) else 0) - (if c = y then Int32.toInt64 (zI σ 63 b) else 0) else (if c = y then Int32.toInt64 (bkF σ b) else 0) - (if c = x then Int32.toInt64 (bkF σ b) else 0) := fun c => by
    rw [udG, ex, ey, ix, ix, cl0 (by omega), cl0 (by omega)]
  rw [show udG σ b = _ from funext e]
  by_cases q : zI σ 62 b = 1
  · simp only [if_pos q]
    exact scT_mv hx hy
  · simp only [if_neg q]
    exact scT_mv hy hx
theorem MN_mv {s t : Nat} {ω τ : AH} {f : Nat → Int64} (hst : s ≤ t) (h0 : scT f 5 = 0) (h70 : ∀ k, k < 5 → zJ ω 70 k = zJ τ 70 k + f k) (h71 : ∀ k, k < 10 → zJ ω 71 k = zJ τ 71 k) (h48 : zJ ω 33 48 = zJ τ 33 48) (h : MN s τ) : MN t ω := by
  obtain ⟨h1, h2⟩ := h
  refine ⟨?_, fun p hp => by rw [h71 p hp]; exact ⟨(h2 p hp).1, by have := (h2 p hp).2; omega⟩⟩
  rw [scT_c (f := fun k => zJ τ 70 k + f k) 5 h70, scT_add, h0, scT_c 10 h71, h48, ← h1]
  grind
section MU8
variable {g : GP} {σ : AH} {s : Nat}
theorem P_clear (hg : gG g = none) (h : Co s σ) (hs : s < 100) : Ct g mX11_clear [.ref 2] σ (fun ω rv => ∃ y, rv = some (.long y) ∧ 0 ≤ y.toInt ∧ Co (s + 1) ω ∧ NW (fun j => j = 43) ω σ ∧ zI ω 33 43 = zI σ 33 43 + 1) := by
  obtain ⟨nb, b1, b2, b3⟩ := Rel_bl h.2.1
  refine Ct_gs hg (GA_GK h.2.1.2.1 h.2.2.1) (fun g' => R_clear (by decide) h.2.1) (fun τ rv hq hF => ?_)
  obtain ⟨b, rfl, hSτ, ω, rv', ⟨rfl, e⟩, rfl, hRel⟩ := hq
  cases e
  have hO := RO_F hF
  have hAτ := GA_F h.2.2.1 hF
  have f := fun a x1 x2 => RO_f hO a x1 x2
  have o3 := fun j hj => RO_3 hO j hj
  have e36 : zI τ 33 36 = nI nb := (o3 36 (by decide)).trans b2
  have i36 : ix (zI τ 33 36) = nb := by rw [e36]; exact cl0 (by omega)
  have hpq : ∀ b, b < nb → vp_in (zI τ 64 b) 5 ∧ vp_in (zI τ 65 b) 5 := fun b hb => by
    rw [f 64 (by decide) (by decide), f 65 (by decide) (by decide)]
    exact ⟨(b3 b hb).1, (b3 b hb).2.1⟩
  have RJ : ∀ a c, zJ (clE τ) a c = if a = 69 ∨ a = 70 then (if a = 69 ∧ c < 5 then 0 else zJ τ a c) + dlS (clC τ) (sdG τ) nb c else zJ τ a c := fun a c => by
    rw [clE, blS_J, clA_J, i36]
    by_cases q : a = 69 ∨ a = 70
    · rw [if_pos q, if_pos q]
    · rw [if_neg q, if_neg q, if_neg (by omega)]
  have RI : ∀ a j, ¬ ((a = 62 ∨ a = 67) ∧ j < nb) → ¬ (a = 33 ∧ (j = 43 ∨ j = 49)) → zI (clE τ) a j = zI τ a j := fun a j q1 q2 => by
    rw [clE, i36, blS_I q1, clA_I q2]
  have w : GW (clE τ) τ := by
    obtain ⟨e1, e2, e3, e4⟩ := blS_4 (σ := clA τ) (C := clC τ) (st := stS τ) (v := zI τ 33 43 + 1) (f := sdG τ) (d := ix (zI τ 33 36))
    obtain ⟨c1, c2, c3, c4⟩ := clA_4 (σ := τ)
    exact GW_of (e1.trans c1) (e2.trans c2) (e3.trans c3) (e4.trans c4) (fun a j ha => RI a j (by omega) (by omega)) (fun a j ha => by rw [RJ, if_neg (by omega)])
  obtain ⟨⟨q, q1, q2⟩, ⟨b', p1, p2⟩, d0, d1⟩ := h.2.2.2.2.2.2.2
  have r43 : zI (clE τ) 33 43 = zI σ 33 43 + 1 := by
    rw [clE, blS_I (by omega), clA_43, o3 43 (by decide)]
  have r43' : zI (clE τ) 33 43 = nI (q + 1) := by rw [r43, q2, nI_1]
  have rf : ∀ a, a ≠ 62 → a ≠ 67 → a ≠ 33 → zI (clE τ) a = zI τ a := fun a z1 z2 z3 => funext fun j => RI a j (by omega) (by omega)
  have hr : Rel 200 (clE τ) := Rel_i hRel r43' (by omega) (by decide)
  have hA := GA_W hAτ w
  refine ⟨clE τ, GW_GSh hSτ w, _, rfl, ?_, ⟨by omega, hr, hA, ?_⟩, NW_of w hO (fun j hj hc => RI 33 j (by omega) (by omega)) (fun _ => ⟨rf 47 (by decide) (by decide) (by decide), rf 49 (by decide) (by decide) (by decide)⟩), r43⟩
  · refine (scS_b 5 (Nat.le_refl 5) (fun c hc => ?_)).1
    rw [RJ, if_pos (Or.inl rfl), if_pos ⟨rfl, hc⟩]
    have := dlS_b (C := clC τ) (f := sdG τ) (c := c) nb b1 (fun b hb => (sdG_0 (hpq b hb).1 (hpq b hb).2).2 c)
    have e0 : (0 : Int64).toInt = 0 := by decide
    rw [Int64.toInt_add, e0, Int.bmod_def]
    split <;> omega
  · obtain ⟨hT, hK, hB, hM, hN⟩ := Cr_RO hO h.2.2.2
    refine ⟨?_, ?_, fun d hd => ?_, MN_mv (f := fun c => dlS (clC τ) (sdG τ) nb c) (Nat.le_succ s) (scT_dl nb (fun b hb => (sdG_0 (hpq b hb).1 (hpq b hb).2).1)) (fun k hk => ?_) (fun k hk => ?_) ?_ hM, ?_⟩
    · unfold TB at hT ⊢
      rw [RI 33 6 (by omega) (by decide), RI 33 14 (by omega) (by decide), rf 41 (by decide) (by decide) (by decide), rf 37 (by decide) (by decide) (by decide), rf 38 (by decide) (by decide) (by decide)]
      exact hT
    · unfold TK CP at hK ⊢
      rw [RI 33 23 (by omega) (by decide), RI 33 36 (by omega) (by decide), rf 50 (by decide) (by decide) (by decide), rf 51 (by decide) (by decide) (by decide), rf 52 (by decide) (by decide) (by decide), rf 54 (by decide) (by decide) (by decide), rf 55 (by decide) (by decide) (by decide), rf 56 (by decide) (by decide) (by decide), rf 57 (by decide) (by decide) (by decide), rf 58 (by decide) (by decide) (by decide), rf 61 (by decide) (by decide) (by decide), rf 63 (by decide) (by decide) (by decide), rf 64 (by decide) (by decide) (by decide), rf 65 (by decide) (by decide) (by decide)]
      exact hK
    · rw [RI 33 36 (by omega) (by decide), i36] at hd
      obtain ⟨h1, h2, h3⟩ := hB d (by rw [i36]; exact hd)
      rw [rf 64 (by decide) (by decide) (by decide), rf 65 (by decide) (by decide) (by decide), rf 66 (by decide) (by decide) (by decide), r43', nI_toInt (by omega)]
      rw [o3 43 (by decide), q2, nI_toInt (by omega)] at h2
      by_cases cd : clC τ d
      · obtain ⟨e62, e67⟩ := blS_62 (σ := clA τ) (st := stS τ) (v := zI τ 33 43 + 1) (f := sdG τ) hd cd
        rw [show blS (clA τ) (clC τ) (stS τ) (zI τ 33 43 + 1) (sdG τ) nb = clE τ by rw [clE, i36]] at e62 e67
        rw [e62, e67, o3 43 (by decide), q2, nI_1, nI_toInt (by omega)]
        refine ⟨h1, by omega, fun z => ?_⟩
        unfold stS at z
        by_cases z0 : zI τ 62 d = 0
        · rw [if_pos z0] at z; rcases z with z | z <;> exact absurd z (by decide)
        · exact h3 (Or.inl (cd.1.resolve_left z0))
      · have n62 : ∀ a, zI (clE τ) a d = zI (clA τ) a d := fun a => by rw [clE, blS_no (fun z => cd z.2)]
        rw [n62 67, n62 62, clA_I (by omega), clA_I (by omega)]
        exact ⟨h1, by omega, h3⟩
    · rw [RJ, if_pos (Or.inr rfl), if_neg (by omega)]
    · rw [RJ, if_neg (by omega)]
    · rw [RJ, if_neg (by omega)]
    · refine ⟨⟨q + 1, by omega, r43'⟩, ⟨b', by omega, ?_⟩, ?_⟩
      · rw [RI 33 36 (by omega) (by decide), o3 36 (by decide)]; exact p2
      · unfold bt
        rw [RI 33 0 (by omega) (by decide), o3 0 (by decide)]
        omega
theorem ctS_k {C : Nat → Prop} : ∀ d, ∃ k, k ≤ d ∧ ctS C d = nI k
  | 0 => ⟨0, Nat.le_refl 0, rfl⟩
  | d + 1 => by
    obtain ⟨k, h1, h2⟩ := ctS_k (C := C) d
    by_cases c : C d
    · exact ⟨k + 1, by omega, by rw [ctS_y c, h2, nI_1]⟩
    · exact ⟨k, by omega, by rw [ctS_n c, h2]⟩
theorem P_fails {c nb : Nat} {v : Int32} (hg : gG g = none) (h : Co s σ) (hc : c < 5) (hv : v = 0 ∨ v = 1) (hn : zI σ 33 36 = nI nb) (n240 : nb ≤ 240) : CtH g mL_fails [.ref 2, .int (nI c), .int v] σ (fun ω rv => ∃ y, rv = some (.int y) ∧ bt y 0 (nb : Int) ∧ ((v = 0 ∨ ¬ zI σ 68 c = 0) → y = 0) ∧ Co s ω ∧ NW N0 ω σ ∧ zI ω 68 c = v) := by
  have hca := ca_lt hc
  have ec : ix (nI c) = c := cl0 (by omega)
  obtain ⟨nb', b1, b2, b3⟩ := Rel_bl h.2.1
  have en : nb' = nb := (nI_eq (by omega) (by omega)).mp (b2.symm.trans hn)
  subst en
  refine mu_int hg h.2.1 h.2.2.1 (fun g' => R_fails hv (by decide) h.2.1) (fun τ ω rv hS => ?_) (fun τ ω b hO hS h49 hw hr hA => ?_) (fun τ ω rv j z hO hz hS h49 hw hr hA => ?_)
  · obtain ⟨q1, q2, q⟩ := hS
    by_cases c1 : v = 0 ∨ ¬ zI τ 68 (ix (nI c)) = 0
    · obtain ⟨rfl, -⟩ := q2 hca c1
      exact ⟨GW_uI (by decide) (GW_uI (by decide) (GW_refl τ)), rfl⟩
    · obtain ⟨rfl, -⟩ := q hca c1
      obtain ⟨e1, e2, e3, e4⟩ := faH_4 (τ := τ) (x := nI c)
      refine ⟨GW_uI (by decide) (GW_of e1 e2 e3 e4 (fun a j ha => by rw [faH, blS_I (by omega), zI_uI, if_neg (by omega)]) (fun a j ha => by rw [faH_J, if_neg (by omega)])), ?_⟩
      rw [zJ_uI, faH_J, if_neg (by omega)]
  · obtain ⟨q1, q2, q⟩ := hS
    have f := fun a x1 x2 => RO_f hO a x1 x2
    have o3 := fun j hj => RO_3 hO j hj
    have e36 : zI τ 33 36 = nI nb' := (o3 36 (by decide)).trans b2
    have i36 : ix (zI τ 33 36) = nb' := by rw [e36]; exact cl0 (by omega)
    rw [ec] at q q2
    have o68 := f 68 (by decide) (by decide)
    by_cases c1 : v = 0 ∨ ¬ zI τ 68 c = 0
    · obtain ⟨rfl, e⟩ := q2 hca c1
      cases e
      have r : ∀ a j, ¬ (a = 68 ∧ j = c) → ¬ (a = 33 ∧ j = 49) → zI (uI (uI τ 33 49 0) 68 c v) a j = zI τ a j := fun a j z1 z3 => by
        rw [zI_uI, if_neg z1, zI_uI, if_neg z3]
      exact ⟨⟨by decide, by rw [zero_toInt]; omega⟩, fun _ => rfl, Co_of h hO h.1 (r 33 43 (by omega) (by decide)) hr hA (Cr_cg (fun a j ha => r a j (by unfold CI at ha; omega) (by unfold CI at ha; omega)) (fun j hj => r 33 j (by omega) (by omega)) (fun _ _ _ => rfl)), NW_of hw hO (fun j hj _ => r 33 j (by omega) (by omega)) (fun _ => ⟨funext fun j => r 47 j (by omega) (by omega), funext fun j => r 49 j (by omega) (by omega)⟩), by rw [zI_uI, if_pos ⟨rfl, rfl⟩]⟩
    · obtain ⟨rfl, e⟩ := q hca c1
      cases e
      have hpq : ∀ b, b < nb' → vp_in (zI τ 64 b) 5 ∧ vp_in (zI τ 65 b) 5 := fun b hb => by
        rw [f 64 (by decide) (by decide), f 65 (by decide) (by decide)]
        exact ⟨(b3 b hb).1, (b3 b hb).2.1⟩
      have RI : ∀ a j, ¬ ((a = 62 ∨ a = 67) ∧ j < nb') → ¬ (a = 33 ∧ j = 49) → ¬ (a = 68 ∧ j = c) → zI (uI (faH τ (nI c)) 68 c v) a j = zI τ a j := fun a j z1 z2 z3 => by
        rw [zI_uI, if_neg z3, faH, i36, blS_I z1, zI_uI, if_neg z2]
      have RJ : ∀ a k, zJ (uI (faH τ (nI c)) 68 c v) a k = if a = 69 ∨ a = 70 then zJ τ a k + dlS (ufC τ (nI c)) (udG τ) nb' k else zJ τ a k := fun a k => by
        rw [zJ_uI, faH_J, i36]
      have rf : ∀ a, a ≠ 62 → a ≠ 67 → a ≠ 33 → a ≠ 68 → zI (uI (faH τ (nI c)) 68 c v) a = zI τ a := fun a z1 z2 z3 z4 => funext fun j => RI a j (by omega) (by omega) (by omega)
      obtain ⟨k, k1, k2⟩ := ctS_k (C := ufC τ (nI c)) nb'
      refine ⟨?_, fun z => absurd (by rw [o68]; exact z) c1, Co_of h hO h.1 (RI 33 43 (by omega) (by decide) (by omega)) hr hA (fun hc => ?_), NW_of hw hO (fun j hj _ => RI 33 j (by omega) (by omega) (by omega)) (fun _ => ⟨rf 47 (by decide) (by decide) (by decide) (by decide), rf 49 (by decide) (by decide) (by decide) (by decide)⟩), by rw [zI_uI, if_pos ⟨rfl, rfl⟩]⟩
      · unfold bt
        rw [i36, k2, nI_toInt (by omega)]
        omega
      · obtain ⟨hT, hK, hB, hM, hN⟩ := hc
        refine ⟨?_, ?_, fun d hd => ?_, MN_mv (f := fun c' => dlS (ufC τ (nI c)) (udG τ) nb' c') (Nat.le_refl s) (scT_dl nb' (fun b hb => udG_0 (hpq b hb).1 (hpq b hb).2)) (fun k hk => ?_) (fun k hk => ?_) ?_ hM, ?_⟩
        · unfold TB at hT ⊢
          rw [RI 33 6 (by omega) (by decide) (by omega), RI 33 14 (by omega) (by decide) (by omega), rf 41 (by decide) (by decide) (by decide) (by decide), rf 37 (by decide) (by decide) (by decide) (by decide), rf 38 (by decide) (by decide) (by decide) (by decide)]
          exact hT
        · unfold TK CP at hK ⊢
          rw [RI 33 23 (by omega) (by decide) (by omega), RI 33 36 (by omega) (by decide) (by omega), rf 50 (by decide) (by decide) (by decide) (by decide), rf 51 (by decide) (by decide) (by decide) (by decide), rf 52 (by decide) (by decide) (by decide) (by decide), rf 54 (by decide) (by decide) (by decide) (by decide), rf 55 (by decide) (by decide) (by decide) (by decide), rf 56 (by decide) (by decide) (by decide) (by decide), rf 57 (by decide) (by decide) (by decide) (by decide), rf 58 (by decide) (by decide) (by decide) (by decide), rf 61 (by decide) (by decide) (by decide) (by decide), rf 63 (by decide) (by decide) (by decide) (by decide), rf 64 (by decide) (by decide) (by decide) (by decide), rf 65 (by decide) (by decide) (by decide) (by decide)]
          exact hK
        · rw [RI 33 36 (by omega) (by decide) (by omega), i36] at hd
          obtain ⟨h1, h2, h3⟩ := hB d (by rw [i36]; exact hd)
          rw [rf 64 (by decide) (by decide) (by decide) (by decide), rf 65 (by decide) (by decide) (by decide) (by decide), rf 66 (by decide) (by decide) (by decide) (by decide), RI 33 43 (by omega) (by decide) (by omega)]
          by_cases cd : ufC τ (nI c) d
          · obtain ⟨e62, e67⟩ := blS_62 (σ := uI τ 33 49 0) (st := udS τ) (v := 0) (f := udG τ) hd cd
            have w62 : zI (uI (faH τ (nI c)) 68 c v) 62 d = udS τ d := by rw [zI_uI, if_neg (by omega), faH, i36]; exact e62
            have w67 : zI (uI (faH τ (nI c)) 68 c v) 67 d = 0 := by rw [zI_uI, if_neg (by omega), faH, i36]; exact e67
            rw [w62, w67, zero_toInt]
            obtain ⟨⟨q', q1', q2'⟩, -⟩ := hN
            refine ⟨h1, by rw [q2', nI_toInt (by have := h.1; omega)]; omega, fun z => ?_⟩
            unfold udS at z
            by_cases z1 : zI τ 62 d = 1
            · rw [if_pos z1] at z; rcases z with z | z <;> exact absurd z (by decide)
            · obtain ⟨-, -, -, s', r, zz, s1, s2, s3, s4⟩ := b3 d hd
              rw [f 62 (by decide) (by decide)] at z1 h3
              rw [f 66 (by decide) (by decide)] at h3 ⊢
              have c62 : ¬ zI σ 62 d = 0 ∧ ¬ zI σ 62 d = 2 := by
                have := cd.2.2.2
                rw [f 62 (by decide) (by decide)] at this
                exact this
              rw [s1] at z1 h3 c62
              by_cases s3' : s' = 3
              · exact h3 (Or.inr (by rw [s3']; rfl))
              · have : s' = 4 := by
                  have n0 : s' ≠ 0 := fun e => c62.1 (by rw [e]; rfl)
                  have n1 : s' ≠ 1 := fun e => z1 (by rw [e]; rfl)
                  have n2 : s' ≠ 2 := fun e => c62.2 (by rw [e]; rfl)
                  unfold SS at s4; omega
                have hr3 : r = 3 := by unfold SS at s4; omega
                rw [s2, hr3]; decide
          · have n6 : ∀ a, a ≠ 68 → zI (uI (faH τ (nI c)) 68 c v) a d = zI (uI τ 33 49 0) a d := fun a ha => by rw [zI_uI, if_neg (by omega), faH, blS_no (fun z => cd z.2)]
            rw [n6 67 (by decide), n6 62 (by decide), zI_uI, if_neg (by omega), zI_uI, if_neg (by omega)]
            exact ⟨h1, h2, h3⟩
        · rw [RJ, if_pos (Or.inr rfl)]
        · rw [RJ, if_neg (by omega)]
        · rw [RJ, if_neg (by omega)]
        · unfold NM at hN ⊢
          rw [RI 33 36 (by omega) (by decide) (by omega), RI 33 43 (by omega) (by decide) (by omega), RI 33 0 (by omega) (by decide) (by omega)]
          exact hN
  · obtain ⟨q1, q2, q⟩ := hS
    rw [ec] at q q2
    by_cases c1 : v = 0 ∨ ¬ zI τ 68 c = 0
    · obtain ⟨rfl, e⟩ := q2 hca c1
      rw [zI_uI, if_neg (by omega), i49] at h49
      exact absurd h49 (no49 (by decide) hz)
    · obtain ⟨rfl, e⟩ := q hca c1
      rw [zI_uI, if_neg (by omega), faH, blS_I (by omega), i49] at h49
      exact absurd h49 (no49 (by decide) hz)
end MU8
