/-! ===== a reissue ===== -/
theorem opF_RO {τ σ : AH} (hO : RO τ σ) {b d : Nat} : opF τ b d ↔ opF σ b d := by
  unfold opF
  rw [RO_f hO 55 (by decide) (by decide)]
section MU7
variable {g : GP} {σ : AH} {s : Nat}
theorem P_reissue {t n m : Nat} (hg : gG g = none) (h : Co s σ) (hn : zI σ 33 23 = nI n) (n30 : n ≤ 30) (ht : t < n) (hm : zI σ 52 t = nI m) (m8 : m ≤ 8) : CtH g mL_reissue [.ref 2, .int (nI t)] σ (fun ω rv => ∃ y, rv = some (.int y) ∧ ((y = -1000003 ∧ Kp ω σ) ∨ (∃ L, n < 30 ∧ 1 ≤ L ∧ L ≤ 8 ∧ zI σ 33 16 = nI L ∧ ¬ (wayF σ).1 = -1 ∧ opF σ (8 * t) m ∧ ¬ y = -1000003 ∧ Co s ω ∧ NW (fun j => j = 16 ∨ j = 23) ω σ ∧ zI ω 33 23 = nI (n + 1) ∧ zI ω 33 16 = 0 ∧ zI ω 50 n = (wayF σ).1 ∧ zI ω 51 n = zI σ 51 t ∧ zI ω 52 n = nI L ∧ zJ ω 33 48 = zJ σ 33 48 + Int32.toInt64 y ∧ ¬ opF ω (8 * t) m ∧ zI ω 52 t = nI m ∧ zI ω 51 t = zI σ 51 t))) := by
  have et : ix (nI t) = t := cl0 (by omega)
  have em : ix (zI σ 52 t) = m := by rw [hm]; exact cl0 (by omega)
  have hi : isWi (nI t) 0 (zI σ 33 23 - 1) := by rw [hn]; exact wi_lt ht (by omega)
  have his : vp_in (zI σ 51 t) 5 := by
    obtain ⟨n', r1, r2, r3⟩ := Rel_tk h.2.1
    have en : n' = n := (nI_eq (by omega) (by omega)).mp (r2.symm.trans hn)
    subst en
    obtain ⟨m', s1, s2, s3, s4, s5⟩ := r3 t ht
    exact s4
  obtain ⟨cs, hcs, e51⟩ := vp_in_of (n := 5) his (by decide)
  refine mu_int hg h.2.1 h.2.2.1 (fun g' => R_reissue (by decide) h.2.1) (fun τ ω rv hS => ?_) (fun τ ω b hO hS h49 hw hr hA => ?_) (fun τ ω rv j z hO hz hS h49 hw hr hA => ?_)
  · obtain ⟨q1, q2, q3, q⟩ := hS
    by_cases c1 : isWi (nI t) 0 (zI τ 33 23 - 1)
    · by_cases c : opF τ (8 * ix (nI t)) (ix (zI τ 52 (ix (nI t))))
      · by_cases c3 : cnF τ
        · obtain ⟨rfl, -⟩ := q c1 c c3
          have w := RW_GW (ciH_RW (τ := τ) (x := 0))
          have w1 : GW (riH τ (nI t)) τ := by
            obtain ⟨e1, e2, e3, e4, e5⟩ := trH_N (σ := uI (ciH τ) 33 49 0) (b := 8 * ix (nI t)) (w := 4) (ix (zI τ 52 (ix (nI t))))
            exact GW_tr (GW_of e1 e2 e3 e5 (fun a j ha => by rw [riH, trH_I, if_neg (by omega)]) (fun a j _ => by rw [riH, e4])) w
          have w2 : GW (nwH (riH τ (nI t)) (zI τ 51 (ix (nI t)))) τ := by
            obtain ⟨e1, e2, e3, e4, e5⟩ := nw_N (ρ := riH τ (nI t)) (y := zI τ 51 (ix (nI t)))
            exact GW_tr (GW_of e1 e2 e3 e5 (fun a j ha => nw_o rfl (by omega) (by omega) (by omega)) (fun a j _ => by rw [e4])) w1
          refine ⟨GW_uI (by decide) (byH_GW w2), ?_⟩
          rw [reH, zJ_uI, by_J, if_neg (by omega), if_neg (by omega), nw_N.2.2.2.1, riH, (trH_N _).2.2.2.1, zJ_uI, ciH_J]
        · obtain ⟨rfl, -⟩ := q3 c1 c c3
          exact ⟨RW_GW ciH_RW, by rw [zJ_uI, ciH_J]⟩
      · obtain ⟨rfl, -⟩ := q2 c1 c
        exact ⟨GW_uI (by decide) (GW_refl τ), rfl⟩
    · obtain ⟨rfl, -⟩ := q1 c1
      exact ⟨GW_uI (by decide) (GW_refl τ), rfl⟩
  · obtain ⟨q1, q2, q3, q⟩ := hS
    have c1 : isWi (nI t) 0 (zI τ 33 23 - 1) := by rw [RO_3 hO 23 (by decide)]; exact hi
    have o52 := RO_f hO 52 (by decide) (by decide)
    have emτ : ix (zI τ 52 t) = m := by rw [o52]; exact em
    rw [et, emτ] at q q2 q3
    by_cases c : opF τ (8 * t) m
    · by_cases c3 : cnF τ
      · obtain ⟨rfl, e⟩ := q c1 c c3
        cases e
        have eE : EqP τ σ := EqP_tr (τ := uI τ 33 49 0) (by
          refine ⟨?_, ?_, ?_, ?_, fun a k _ _ => ?_⟩ <;> (rw [zI_uI, if_neg (by omega)])) (RO_E hO)
        have c2 : cnF σ := (cnF_e eE (RO_3 hO 23 (by decide))).mp c3
        have n29 : n < 30 := by
          obtain ⟨n', n1, n2, -⟩ := cn_n h.2.1.2.2.2.2.2.1 c2
          have := (nI_eq (by omega) (by omega)).mp (n2.symm.trans hn)
          omega
        obtain ⟨L, l1, l2, l3⟩ := cn_L h.2.1.2.2.2.1 c2
        have n3 : zI τ 33 23 = nI n := (RO_3 hO 23 (by decide)).trans hn
        have o := RO_tr (RW_RO (ciH_RW (τ := τ) (x := 0))) hO
        have e51τ : zI τ 51 t = nI cs := by rw [RO_f hO 51 (by decide) (by decide)]; exact e51
        have κI : ∀ a j, 33 ≤ a → a ≤ 71 → a ≠ 55 → ¬ (a = 33 ∧ (j = 21 ∨ j = 22 ∨ j = 49)) → zI (riH τ (nI t)) a j = zI σ a j := fun a j q1 q2 q3 q4 => by
          rw [riH, trH_I, if_neg (fun w => q3 w.1)]
          exact o.1 a j q1 (by omega) (by omega) q4
        have κ55 : ∀ q, zI (riH τ (nI t)) 55 q = if 8 * t ≤ q ∧ q < 8 * t + m ∧ zI σ 55 q = 0 then 4 else zI σ 55 q := fun q => by
          have e9 : zI (uI (ciH τ) 33 49 0) 55 q = zI σ 55 q := o.1 55 q (by decide) (by decide) (by decide) (by omega)
          rw [riH, trH_I, et, emτ, e9]
          by_cases z : 8 * t ≤ q ∧ q < 8 * t + m ∧ zI σ 55 q = 0
          · rw [if_pos ⟨rfl, z⟩, if_pos z]
          · rw [if_neg (fun w => z w.2), if_neg z]
        obtain ⟨t1, t2, t3, t4, t5, t6, t7, t8, t9, t10, t11, t12, t13⟩ := new_rows (κ := riH τ (nI t)) (x := riG τ (nI t)) (z := zI τ 33 23 + 1) (c := cs) h n29 hn l1 l2 l3 c2.1.2 hcs (by rw [n3, nI_1]) κI (fun q => by
          rw [κ55]
          by_cases z : 8 * t ≤ q ∧ q < 8 * t + m ∧ zI σ 55 q = 0
          · rw [if_pos z]; exact Or.inr ⟨z.2.2, rfl⟩
          · rw [if_neg z]; exact Or.inl rfl) (fun a j q1 q2 => by rw [riH, (trH_N _).2.2.2.1]; exact o.2 a j q1 q2)
        rw [← e51τ] at t1 t2 t3 t4 t5 t6 t7 t8 t9 t10 t11 t12 t13
        have er : uI (byH (nwH (riH τ (nI t)) (zI τ 51 t)) (zI τ 51 t) (riG τ (nI t))) 33 23 (zI τ 33 23 + 1) = reH τ (nI t) := by rw [reH, et]
        rw [er] at t1 t2 t3 t4 t5 t6 t7 t8 t9 t10 t11 t12 t13
        obtain ⟨oA, oB⟩ := open_b (Cr_RO hO h.2.2.2) n3 n30 ht ((congrFun o52 t).trans hm) m8
        have hpr : bt (wayF σ).1 1 504000 := by
          have lσ : lgN σ = L := by rw [lgN, l3]; exact cl0 (by omega)
          rcases way_spec h.2.2.2.1 lσ l1 l2 with ⟨q, -⟩ | ⟨m, q1, q2, q3, q4, -⟩
          · exact absurd (by rw [q]) c2.1.2
          · exact q4
        have hyb : ¬ riG τ (nI t) = -1000003 := by
          intro hy
          have hy2 := congrArg Int32.toInt hy
          rw [riG, et, t12] at hy2
          have := oA.1; have := oA.2; have := oB.1; have := oB.2; have := t13.1; have := t13.2; have := hpr.1; have := hpr.2
          have e1 := i_add (x := rfA τ (nI t)) (y := rfB τ (nI t)) (by omega) (by omega)
          have e2 := i_add (x := (wayF σ).1) (y := smI (fun k => zI (reH τ (nI t)) 57 (8 * n + k)) L) (by omega) (by omega)
          have e3 := i_sub (x := (wayF σ).1 + smI (fun k => zI (reH τ (nI t)) 57 (8 * n + k)) L) (y := rfA τ (nI t) + rfB τ (nI t)) (by omega) (by omega)
          rw [e3, e1, e2] at hy2
          change _ = (-1000003 : Int) at hy2
          omega
        refine Or.inr ⟨L, n29, l1, l2, l3, c2.1.2, (opF_RO hO).mp c, hyb, ⟨h.1, Rel_sm h.2.1 hr (t8 43 (by decide)), hA, t1⟩, ⟨fun j hj hC => t8 j (by omega), fun _ => t9, ?_, ?_⟩, t2, t3, t4, ?_, t6, t7, ?_, ?_, (t10 t ht).2⟩
        · exact funext fun j => ((hw.2.2.2.2 73 (by omega) j).1).trans (hO.1 73 j (by omega) (by omega) (by omega) (by omega))
        · exact funext fun j => ((hw.2.2.2.2 74 (by omega) j).1).trans (hO.1 74 j (by omega) (by omega) (by omega) (by omega))
        · rw [t5, RO_f hO 51 (by decide) (by decide)]
        · rintro ⟨j, hj, q⟩
          rw [t11 t j ht (by omega), κ55] at q
          by_cases z : 8 * t ≤ 8 * t + j ∧ 8 * t + j < 8 * t + m ∧ zI σ 55 (8 * t + j) = 0
          · rw [if_pos z] at q; exact absurd q (by decide)
          · rw [if_neg z] at q
            exact z ⟨by omega, by omega, q⟩
        · rw [(t10 t ht).1]; exact hm
      · obtain ⟨rfl, e⟩ := q3 c1 c c3
        rw [i49] at h49
        exact absurd h49 (by decide)
    · obtain ⟨rfl, e⟩ := q2 c1 c
      rw [i49] at h49
      exact absurd h49 (by decide)
  · obtain ⟨q1, q2, q3, q⟩ := hS
    have c1 : isWi (nI t) 0 (zI τ 33 23 - 1) := by rw [RO_3 hO 23 (by decide)]; exact hi
    have o52 := RO_f hO 52 (by decide) (by decide)
    have emτ : ix (zI τ 52 t) = m := by rw [o52]; exact em
    rw [et, emτ] at q q2 q3
    by_cases c : opF τ (8 * t) m
    · by_cases c3 : cnF τ
      · obtain ⟨rfl, e⟩ := q c1 c c3
        rw [reH, zI_uI, if_neg (by omega), by_I, nw_o rfl (by omega) (by omega) (by omega), riH, trH_I, if_neg (by omega), i49] at h49
        exact absurd h49 (no49 (by decide) hz)
      · obtain ⟨rfl, e⟩ := q3 c1 c c3
        rw [i49] at h49
        exact Or.inl ⟨(Option.some.inj (is49 (by decide) hz 1 (by decide) h49)).symm, Kp_no h.2.1 hO ciH_RW hr hA⟩
    · obtain ⟨rfl, e⟩ := q2 c1 c
      rw [i49] at h49
      exact Or.inl ⟨(Option.some.inj (is49 (by decide) hz 1 (by decide) h49)).symm, Kp_no h.2.1 hO RW_49 hr hA⟩
end MU7
