/-! ===== calls: a ticket is reissued ===== -/
theorem toA_fl {σ : AH} {a d b j : Nat} {s : Int32} (hs : ¬ s = 0) (h72 : ∀ k, k < d → 72 < cA σ a k) (hq : ¬ QU b j) : zI (toA (flW σ) a s d) b j = zI (toA σ a s d) b j := by
  have hq4 := Q4_flW (Q4_refl σ)
  have eC : ∀ k, cA (flW σ) a k = cA σ a k := fun k => by rw [cA, cA, hq4.2.2.2.1]
  by_cases c : ∃ k, k < d ∧ b = cA σ a k ∧ j = 7
  · obtain ⟨k, hk, rfl, rfl⟩ := c
    have := h72 k hk
    have t := toA_c (σ := flW σ) (a := a) hs (k := k) d hk
    rw [eC, hq4.2.2.2.2.1 _ _ hq] at t
    rw [t, toA_c hs d hk]
  · rw [toA_o d (fun h7 k hk q => c ⟨k, hk, by rw [eC] at q; exact q, h7⟩), toA_o d (fun h7 k hk q => c ⟨k, hk, q, h7⟩)]
    exact hq4.2.2.2.2.1 _ _ hq
theorem rfA_cg {τ σ : AH} {x : Int32} (h : ∀ b j, 52 ≤ b → b ≤ 57 → zI τ b j = zI σ b j) : rfA τ x = rfA σ x ∧ rfB τ x = rfB σ x := by
  constructor
  · rw [rfA, rfA, h 52 _ (by decide) (by decide)]
    exact smI_c (fun k _ => by rw [ooF, ooF, h 55 _ (by decide) (by decide), h 56 _ (by decide) (by decide), h 57 _ (by decide) (by decide)])
  · rw [rfB, rfB, h 52 _ (by decide) (by decide)]
    exact smI_c (fun k _ => by rw [ooF, ooF, h 55 _ (by decide) (by decide), h 56 _ (by decide) (by decide), h 57 _ (by decide) (by decide)])
/-- both sides' coupons exchanged, no money moved -/
theorem Rel_exch {i : Nat} {σ : AH} {t d : Nat} (hi : i < 512) (h : Rel i σ) (ht : t < ix (zI σ 33 23)) (hd : ix (zI σ 52 t) = d) : ∃ σ', Rel (i + 1) σ' ∧ (zN σ' = zN σ ∧ zK σ' = zK σ ∧ zL σ' = zL σ ∧ zR σ' = zR σ) ∧ (∀ b j, ¬ QU b j → b ≠ 55 → zI σ' b j = zI (toA σ (tA σ t) 4 d) b j) ∧ (∀ j, zI σ' 55 j = if 8 * t ≤ j ∧ j < 8 * t + d ∧ zI σ 55 j = 0 then 4 else zI σ 55 j) ∧ ∀ b j, b ≠ 72 → zJ σ' b j = zJ σ b j := by
  have hK : RK σ := h.2.2.2.2.2.1
  have hTR := RK_t hK ht
  have L := (Rel_refund (s := 4) (y := 0) (w := 0) hi h ht hd (by decide) (by decide)).2.1
  have c2 : ∀ k, k < d → 72 < cA σ (tA σ t) k := fun k hk => (cC_2 hTR (k := k) (by rw [hd]; exact hk)).2.1.1
  have T55 : ∀ b j, b ≤ 72 → zI (toA σ (tA σ t) 4 d) b j = zI σ b j := fun b j hb => toA_o d (fun _ k hk q => by have := c2 k hk; omega)
  have h51 : zI (toA σ (tA σ t) 4 d) (tA σ t) 0 = zI σ 51 t := by
    rw [toA_o d (fun q => absurd q (by decide))]
    obtain ⟨m', r1, r2, r3, r4, r5, r6, -⟩ := hTR
    exact r6.1
  obtain ⟨n1, n2, n3, n4, n5⟩ := toA_N (σ := σ) (a := tA σ t) (s := 4) d
  have hz : Int32.toInt64 0 = 0 := by decide
  refine ⟨_, L, ⟨((trH_N (σ := uI (uJ (rcH (toA σ (tA σ t) 4 d) (tA σ t) 0) 72 0 0) 33 49 0) d).1).trans n1, ((trH_N (σ := uI (uJ (rcH (toA σ (tA σ t) 4 d) (tA σ t) 0) 72 0 0) 33 49 0) d).2.1).trans n2, ((trH_N (σ := uI (uJ (rcH (toA σ (tA σ t) 4 d) (tA σ t) 0) 72 0 0) 33 49 0) d).2.2.1).trans n3, ((trH_N (σ := uI (uJ (rcH (toA σ (tA σ t) 4 d) (tA σ t) 0) 72 0 0) 33 49 0) d).2.2.2.2).trans n5⟩, fun b j z1 z2 => ?_, fun j => ?_, fun b j z => ?_⟩
  · rw [turn_I, if_neg (fun q => z2 q.1), if_neg (fun q => z1 (Or.inr ⟨q.1, by omega⟩))]
  · rw [turn_I, T55 55 j (by decide), if_neg (show ¬ (55 = 33 ∧ j = 49) by omega)]
    by_cases q : 8 * t ≤ j ∧ j < 8 * t + d ∧ zI σ 55 j = 0
    · rw [if_pos ⟨rfl, q⟩, if_pos q]
    · rw [if_neg (fun x => q x.2), if_neg q]
  · have a72 := TR_72 hTR
    have zP := turn_P (y := 0) (w := 0) h51
    rw [by_J, zP, zP, zP, hz]
    have e1 : ∀ x : Int64, x + 0 = x := fun x => by simp
    rw [e1, e1, e1, e1, e1]
    by_cases q1 : b = 33 ∧ j = 48
    · rw [if_pos q1, if_neg (by omega), if_neg (by omega), if_neg (by omega), if_neg (by omega), q1.1, q1.2]
    · rw [if_neg q1]
      by_cases q2 : b = 70 ∧ j = ix (zI σ 51 t)
      · rw [if_pos q2, if_neg (by omega), if_neg (by omega), if_neg (by omega), if_neg (by omega), q2.1]
      · rw [if_neg q2, if_neg (by omega)]
        by_cases q3 : b = 31 ∧ j = ix (zI σ 51 t)
        · rw [if_pos q3, q3.1, q3.2]
        · rw [if_neg q3]
          by_cases q4 : b = 2 ∧ j = 10
          · rw [if_pos q4, q4.1, q4.2]
          · rw [if_neg q4]
            by_cases q5 : b = tA σ t ∧ j = 7
            · rw [if_pos q5, q5.1, q5.2]
            · rw [if_neg q5]
theorem reissueA {i n L t d : Nat} {σ κ X : AH} {x : Int32} (hi : i < 512) (h : Rel i σ) (ht : t < ix (zI σ 33 23)) (t30 : t < 30) (hd : ix (zI σ 52 t) = d) (cc : cnF σ) (n1 : n < 30) (n2 : zI σ 33 23 = nI n) (l1 : 1 ≤ L) (l2 : L ≤ 8) (l3 : zI σ 33 16 = nI L) (hop : opF σ (8 * t) d)
    (hκ : κ = toA (flW σ) (tA σ t) 4 d) (hX : XR κ (zI σ 51 t) n L (sgS (partF κ) (pvF κ) (wtF κ) (zI κ 23 4) L L) X) (hx : x = zI X (zN κ + 1) 1 + zI X (zN κ + 1) 5 - (rfA σ (nI t) + rfB σ (nI t))) :
    Gh (S12_reissue (nI t)) (uJ (rcH X (zN κ + 1) x) 72 0 (Int32.toInt64 x)) (RE i 0) := by
  have hr := h
  obtain ⟨h0, hS, hT, hJ, hP, hK, hB, hC⟩ := h
  have hTR := RK_t hK ht
  have hq4 := Q4_flW (Q4_refl σ)
  have xt : ix (nI t) = t := by rw [ix, cl0 (by omega)]
  have c2 : ∀ k, k < d → 72 < cA σ (tA σ t) k := fun k hk => (cC_2 hTR (k := k) (by rw [hd]; exact hk)).2.1.1
  obtain ⟨σ', s1, ⟨s2, s3, s4, s5⟩, s6, s7, s8⟩ := Rel_exch hi hr ht hd
  obtain ⟨f1, f2, f3, f4, f5⟩ := toA_N (σ := flW σ) (a := tA σ t) (s := 4) d
  rw [← hκ] at f1 f2 f3 f4 f5
  have κI : ∀ a j, ¬ QU a j → a ≠ 55 → zI κ a j = zI σ' a j := fun a j z1 z2 => by rw [hκ, toA_fl (by decide) c2 z1, s6 a j z1 z2]
  have κσ : ∀ a j, a ≤ 72 → ¬ QU a j → zI κ a j = zI σ a j := fun a j ha z1 => by rw [hκ, toA_fl (by decide) c2 z1, toA_o d (fun _ k hk q => by have := c2 k hk; omega)]
  have σσ : ∀ a j, a ≤ 72 → ¬ QU a j → a ≠ 55 → zI σ' a j = zI σ a j := fun a j ha z1 z2 => by rw [← κI a j z1 z2]; exact κσ a j ha z1
  have κ4 : zN κ = zN σ' ∧ zK κ = zK σ' ∧ zL κ = zL σ' ∧ zR κ = zR σ' := ⟨by rw [f1, hq4.1, s2], by rw [f2, hq4.2.1, s3], by rw [f3, hq4.2.2.1, s4], by rw [f5, hq4.2.2.2.1, s5]⟩
  have κJ : ∀ a j, a ≠ 29 → a ≠ 69 → a ≠ 72 → zJ κ a j = zJ σ' a j := fun a j z1 z2 z3 => by rw [f4, hq4.2.2.2.2.2 a j z1 z2 z3, s8 a j z3]
  have Eσ : EqP σ' σ := ⟨σσ 33 0 (by omega) (by unfold QU; omega) (by omega), σσ 33 6 (by omega) (by unfold QU; omega) (by omega), σσ 33 14 (by omega) (by unfold QU; omega) (by omega), σσ 33 16 (by omega) (by unfold QU; omega) (by omega), fun a k _ _ => σσ a k (by omega) (by unfold QU; omega) (by omega)⟩
  have w := flW_w hT hJ
  have κ23 : ∀ j, zI κ 23 j = zI (flW σ) 23 j := fun j => by
    rw [hκ]
    refine toA_o d (fun _ k hk q => ?_)
    have eC : cA (flW σ) (tA σ t) k = cA σ (tA σ t) k := by rw [cA, cA, hq4.2.2.2.1]
    rw [eC] at q
    have := c2 k hk
    omega
  have n2' : zI σ' 33 23 = nI n := (σσ 33 23 (by omega) (by unfold QU; omega) (by omega)).trans n2
  have l3' : zI σ' 33 16 = nI L := Eσ.2.2.2.1.trans l3
  have y5 := (TR_M hTR).2.1
  clear hκ f1 f2 f3 f4 f5
  have n72 : 72 ≤ zN κ := by rw [κ4.1, s2]; exact hS.1
  have XI : ∀ a j, a ≤ 72 → ¬ QU a j → ¬ (a = 13 ∧ j = 1) → ¬ (a = 2 ∧ j = 8) → zI X a j = zI σ a j := fun a j ha z1 z2 z3 => by
    rw [hX.2.2.2.2.1 a j (by omega), if_neg z2, if_neg z3, κσ a j ha z1]
  have hSX := hX.2.1
  have R := fun ρ => Rel_new (i := i + 1) (ρ := ρ) (x := x) (w := Int32.toInt64 x) s1 n2' n1 l3' l1 l2 y5 κ4 κI κJ (by rw [κ23, w.1, wayF_eq Eσ]) (by rw [κ23, w.2, wayF_eq Eσ]) hX
  have tI : ∀ a j, zI (uJ (rcH X (zN κ + 1) x) 72 0 (Int32.toInt64 x)) a j = zI X a j := fun a j => rc_I
  have t4 := rc_4 (X := X) (a := zN κ + 1) (x := x) (w := Int32.toInt64 x)
  have hSt : Sh (uJ (rcH X (zN κ + 1) x) 72 0 (Int32.toInt64 x)) := Sh_uJ (Sh_uJ (Sh_uJ (Sh_uJ hSX)))
  generalize uJ (rcH X (zN κ + 1) x) 72 0 (Int32.toInt64 x) = τ at *
  have e : ∀ a j, a ≤ 72 → ¬ QU a j → ¬ (a = 13 ∧ j = 1) → ¬ (a = 2 ∧ j = 8) → zI τ a j = zI σ a j := fun a j ha z1 z2 z3 => by
    rw [tI]; exact XI a j ha z1 z2 z3
  have E : EqP τ σ := ⟨e 33 0 (by omega) (by unfold QU; omega) (by omega) (by omega), e 33 6 (by omega) (by unfold QU; omega) (by omega) (by omega), e 33 14 (by omega) (by unfold QU; omega) (by omega) (by omega), e 33 16 (by omega) (by unfold QU; omega) (by omega) (by omega), fun a k _ _ => e a k (by omega) (by unfold QU; omega) (by omega) (by omega)⟩
  have e5 : ∀ a j, 50 ≤ a → a ≤ 61 → zI τ a j = zI σ a j := fun a j z1 z2 => e a j (by omega) (by unfold QU; omega) (by omega) (by omega)
  have e23 : zI τ 33 23 = nI n := (e 33 23 (by omega) (by unfold QU; omega) (by omega) (by omega)).trans n2
  have e52 : ix (zI τ 52 (ix (nI t))) = d := by rw [e5 52 _ (by decide) (by decide), xt, hd]
  have e51 : zI τ 51 (ix (nI t)) = zI σ 51 t := by rw [e5 51 _ (by decide) (by decide), xt]
  have rf := rfA_cg (τ := τ) (σ := σ) (x := nI t) (fun b j z1 z2 => e5 b j (by omega) (by omega))
  have hri : riH τ (nI t) = trH (uI (ciH τ) 33 49 0) (8 * t) 4 d := by rw [riH, e52, xt]
  have ρI : ∀ a j, zI (riH τ (nI t)) a j = if a = 55 ∧ 8 * t ≤ j ∧ j < 8 * t + d ∧ zI σ 55 j = 0 then 4 else if a = 33 ∧ j = 49 then 0 else zI (ciH τ) a j := fun a j => by
    rw [hri, trH_I, zI_uI, if_neg (show ¬ (55 = 33 ∧ j = 49) by omega), ciH_I (by omega), e5 55 j (by decide) (by decide), zI_uI]
  obtain ⟨r1, r2, r3, r4, r5⟩ := trH_N (σ := uI (ciH τ) 33 49 0) (b := 8 * t) (w := 4) d
  rw [← hri] at r1 r2 r3 r4 r5
  have ρ4 : zN (riH τ (nI t)) = zN X ∧ zK (riH τ (nI t)) = zK X ∧ zL (riH τ (nI t)) = zL X ∧ zR (riH τ (nI t)) = zR X := by
    obtain ⟨q1, q2, q3, q4, q5⟩ := ciH_N (σ := τ)
    have u := z4_uI (ciH τ) 33 49 0
    exact ⟨by rw [r1, u.1, q1, t4.1], by rw [r2, u.2.1, q2, t4.2.1], by rw [r3, u.2.2.1, q3, t4.2.2.1], by rw [r5, u.2.2.2, q5, t4.2.2.2]⟩
  have ρJ : ∀ a j, zJ (riH τ (nI t)) a j = zJ τ a j := fun a j => by rw [r4, zJ_uI, ciH_J]
  clear hri r1 r2 r3 r4 r5
  obtain ⟨R1, R2, R3, R4⟩ := R (riH τ (nI t)) ρ4 (fun a j z1 z2 => by rw [ρI, if_neg (fun q => z2 q.1), if_neg (fun q => z1 (Or.inr ⟨q.1, by omega⟩)), ciH_I (fun q => z1 (Or.inr ⟨q.1, by omega⟩)), tI]) (fun j => by
    rw [ρI, s7]
    by_cases q : 8 * t ≤ j ∧ j < 8 * t + d ∧ zI σ 55 j = 0
    · rw [if_pos ⟨rfl, q⟩, if_pos q]
    · rw [if_neg (fun x => q x.2), if_neg q, if_neg (by omega), ciH_I (by omega), e5 55 j (by decide) (by decide)]) (by rw [ρI, if_neg (by omega), if_pos ⟨rfl, rfl⟩]) ρJ
  have hG : riG τ (nI t) = x := by
    rw [riG, e51, R4, rf.1, rf.2, hx]
  have hwi : isWi (nI t) 0 (zI τ 33 23 - 1) := by
    rw [e23]
    rw [n2, ix, cl0 (by omega)] at ht
    rw [isWi_iff, pred_toInt (by omega), nI_toInt (by omega)]
    have e0 : (0 : Int32).toInt = 0 := by decide
    rw [e0]; omega
  have hopτ : opF τ (8 * ix (nI t)) (ix (zI τ 52 (ix (nI t)))) := by
    rw [xt] at *
    rw [e52]
    obtain ⟨j, j1, j2⟩ := hop
    exact ⟨j, j1, by rw [e5 55 _ (by decide) (by decide)]; exact j2⟩
  refine s_X12_reissue hSt (PO_eq E (R_PO hT hJ)) (CA_eq E (R_CA hJ)) (by rw [E.2.2.2.1]; exact R_L hJ) (NZ_eq E (R_NZ hT hJ hP)) (by rw [e23]; exact vp_in_nI (by omega) (by decide)) (fun _ => by rw [e51, e5 52 _ (by decide) (by decide), xt]; exact ⟨(TR_M hTR).1, y5⟩) (fun q => absurd hwi q) (fun _ q => absurd hopτ q) (fun _ _ q => absurd ((cnF_e E (e23.trans n2.symm)).mpr cc) q) (fun _ _ _ => ?_)
  rw [reH, hG, e51, e23]
  exact ⟨R1, R2, _, rfl, fun _ => R3⟩
theorem R_reissue {g : GP} {i : Nat} {σ : AH} {v1 : Int32} (hi : i < 512) (h : Rel i σ) : CtH g mL_reissue [.ref 2, .int v1] σ (RQ [-1000001, -1000003] (fun k τ => Gh (S12_reissue v1) τ (RE i k))) := by
  have hr := h
  obtain ⟨h0, hS, hT, hJ, hP, hK, hB, hC⟩ := h
  have hq4 := Q4_flW (Q4_refl σ)
  have hSf : Sh (flW σ) := Q4_Sh hq4 hS
  obtain ⟨-, -, hTf, hJf, hPf, hKf, -⟩ := Rel_q (Nat.le_refl i) (Nat.le_of_lt hi) hq4 hr
  have cb := cb_cn hT hJ hK
  have ef : ∀ a j, ¬ QU a j → zI (flW σ) a j = zI σ a j := hq4.2.2.2.2.1
  have eR := hq4.2.2.2.1
  have eC : ∀ a k, cA (flW σ) a k = cA σ a k := fun a k => by rw [cA, cA, eR]
  have ht0 : ¬ atR (zI σ 2 8) 30 v1 (zR σ 30 (ix v1)) = 0 → ∃ t, TR σ t ∧ v1 = nI t ∧ ix v1 = t ∧ atR (zI σ 2 8) 30 v1 (zR σ 30 (ix v1)) = tA σ t ∧ isWi v1 0 (zI σ 33 23 - 1) ∧ t < ix (zI σ 33 23) ∧ zI σ (tA σ t) 4 = zI σ 52 t ∧ t < 30 := fun c => by
    rcases tick_at hK v1 with ⟨a, t, e1, e2, e3, e4, e5⟩ | ⟨_, a⟩
    · exact ⟨t, e4, e1, by rw [e1, ix, cl0 (by omega)], e5, a, e3, (TR_M e4).2.2.2, e2⟩
    · exact absurd a c
  have ht1 : atR (zI σ 2 8) 30 v1 (zR σ 30 (ix v1)) = 0 → ¬ isWi v1 0 (zI σ 33 23 - 1) := fun c => by
    rcases tick_at hK v1 with ⟨a, t, e1, e2, e3, e4, e5⟩ | ⟨a, _⟩
    · have := TR_72 e4
      rw [e5] at c; omega
    · exact a
  have m1 : ¬ isWi v1 0 (zI σ 33 23 - 1) → Gh (S12_reissue v1) σ (RE i 1) := fun c => s_X12_reissue hS (R_PO hT hJ) (R_CA hJ) (R_L hJ) (R_NZ hT hJ hP) (RK_N hK) (RK_M hK v1) (fun _ => RE_no hi hr (Q4_refl σ) (by decide)) (fun q _ => absurd q c) (fun q _ _ => absurd q c) (fun q _ _ => absurd q c)
  have e23 : zI (flW σ) 33 23 = zI σ 33 23 := ef 33 23 (by unfold QU; omega)
  have eop : ∀ b d, opF (flW σ) b d ↔ opF σ b d := fun b d => by
    unfold opF
    refine exists_congr fun j => and_congr Iff.rfl ?_
    rw [ef 55 _ (by unfold QU; omega)]
  have m2 : isWi v1 0 (zI σ 33 23 - 1) → (¬ opF σ (8 * ix v1) (ix (zI σ 52 (ix v1))) ∨ ¬ cnF σ) → Gh (S12_reissue v1) (flW σ) (RE i 2) := fun c c2 => s_X12_reissue hSf (R_PO hTf hJf) (R_CA hJf) (R_L hJf) (R_NZ hTf hJf hPf) (RK_N hKf) (RK_M hKf v1) (fun q => absurd (by rw [e23]; exact c) q) (fun _ _ => RE_no hi hr hq4 (by decide)) (fun _ _ _ => RE_no hi hr (Q4_ciH hq4) (by decide)) (fun _ q1 q2 => by
    rw [ef 52 _ (by unfold QU; omega)] at q1
    exact (c2.elim (fun z => z ((eop _ _).mp q1)) (fun z => z ((cnF_e EqP_flW e23).mp q2))).elim)
  -- the heap when the coupons are turned
  have κF : ∀ t, TR σ t → t < ix (zI σ 33 23) → t < 30 → cnF σ → ∃ n L d, n < 30 ∧ zI σ 33 23 = nI n ∧ zI σ 33 16 = nI L ∧ 1 ≤ L ∧ L ≤ 8 ∧ ix (zI σ 52 t) = d ∧ ix (zI (flW σ) (tA σ t) 4) = d ∧ Sh (toA (flW σ) (tA σ t) 4 d) ∧ RT (toA (flW σ) (tA σ t) 4 d) ∧ RJ (toA (flW σ) (tA σ t) 4 d) ∧ RP (toA (flW σ) (tA σ t) 4 d) ∧ zI (toA (flW σ) (tA σ t) 4 d) 33 16 = nI L ∧ zI (toA (flW σ) (tA σ t) 4 d) 2 8 = nI n ∧ zI (toA (flW σ) (tA σ t) 4 d) (tA σ t) 0 = zI σ 51 t ∧ zK (toA (flW σ) (tA σ t) 4 d) (tA σ t) = 9 ∧ 72 ≤ zN (toA (flW σ) (tA σ t) 4 d) ∧ XR (toA (flW σ) (tA σ t) 4 d) (zI σ 51 t) n L (sgS (partF (toA (flW σ) (tA σ t) 4 d)) (pvF (toA (flW σ) (tA σ t) 4 d)) (wtF (toA (flW σ) (tA σ t) 4 d)) (zI (toA (flW σ) (tA σ t) 4 d) 23 4) L L) (isX (toA (flW σ) (tA σ t) 4 d) (zI σ 51 t)) := fun t hTR ht t30 cc => by
    obtain ⟨n, n1, n2, n3⟩ := cn_n hK cc
    obtain ⟨L, l1, l2, l3⟩ := cn_L hJ cc
    have c2 : ∀ k, k < ix (zI σ 52 t) → zK σ (cA σ (tA σ t) k) = 2 ∧ 72 < cA σ (tA σ t) k := fun k hk => ⟨(cC_2 hTR hk).1, (cC_2 hTR hk).2.1.1⟩
    have eC : ∀ k, cA (flW σ) (tA σ t) k = cA σ (tA σ t) k := fun k => by rw [cA, cA, eR]
    obtain ⟨f1, f2, f3, f4, f5⟩ := toA_N (σ := flW σ) (a := tA σ t) (s := 4) (ix (zI σ 52 t))
    have o : ∀ a j, ¬ (72 < a ∧ j = 7 ∧ zK (flW σ) a = 2) → zI (toA (flW σ) (tA σ t) 4 (ix (zI σ 52 t))) a j = zI (flW σ) a j := fun a j z => toA_o _ (fun h7 k hk q => z (by
      rw [eC] at q
      have := c2 k hk
      rw [hq4.2.1, q]
      exact ⟨this.2, h7, this.1⟩))
    obtain ⟨g1, g2, g3, g4⟩ := ag_T ⟨f1, f2, f3, f5⟩ (fun a j _ _ z => o a j z) hSf hTf hJf hPf
    have g16 : zI (toA (flW σ) (tA σ t) 4 (ix (zI σ 52 t))) 33 16 = nI L := by rw [o 33 16 (by omega), ef 33 16 (by unfold QU; omega)]; exact l3
    have g28 : zI (toA (flW σ) (tA σ t) 4 (ix (zI σ 52 t))) 2 8 = nI n := by rw [o 2 8 (by omega), ef 2 8 (by unfold QU; omega)]; exact n3
    have a72 := TR_72 hTR
    refine ⟨n, L, _, n1, n2, l3, l1, l2, rfl, by rw [ef _ _ (by unfold QU; omega), (TR_M hTR).2.2.2], g1, g2, g3, g4, g16, g28, ?_, by rw [f2, hq4.2.1]; exact tA_2 hTR, g1.1, isX_XR g1 g2 g3 g4 g16 l1 l2 g28 n1⟩
    rw [o _ 0 (by omega), ef _ _ (by unfold QU; omega)]
    obtain ⟨m', r1, r2, r3, r4, r5, r6, -⟩ := hTR
    exact r6.1
  have n16 : ∀ L, 1 ≤ L → L ≤ 8 → ¬ nI L = 0 := fun L a b q => by
    have := (nI_eq (b := 0) (by omega) (by decide)).mp q
    omega
  refine w_L_reissue (Q := QI (fun k τ => Gh (S12_reissue v1) τ (RE i k))) (X := X2 IOO ISE (fun k τ => Gh (S12_reissue v1) τ (RE i k))) hS (CtX_of (by decide +kernel) rfl rfl (b_X11_reissue_0 hS (fun _ => hT) (fun _ => hJ) (fun c => ?_) (fun c => ?_) (fun c c2 => Or.inr ⟨rfl, hSf, ?_⟩) (fun _ _ => hJf) (fun c _ _ => ?_) (fun c _ c3 => ?_) (fun c _ c3 => ?_) (fun c _ c3 => ?_) (fun c _ c3 => ?_) (fun c _ c3 => ?_) (fun c _ c3 => ?_) (fun c _ c3 => ?_) (fun c _ c3 => ?_) (fun c _ c3 => ?_) (fun c _ c3 => ?_) (fun c c2 c3 => ?_) (fun c c2 c3 => Or.inr ⟨rfl, hSf, ?_⟩) (fun c => Or.inl ⟨rfl, hS, m1 (ht1 c)⟩))) QI_q X2_q
  · obtain ⟨t, h1, h2, h3, h4, h5, h6, h7, h8⟩ := ht0 c
    have a72 := TR_72 h1
    rw [h4, ef _ _ (by unfold QU; omega), h7]
    exact TS_gr (ef _ _ (by unfold QU; omega)) (by rw [hq4.2.1]) (by rw [eR]) (by rw [hq4.2.1]) (by rw [hq4.2.2.1]) (fun k _ => ⟨by rw [eR], by rw [hq4.2.1]⟩) (TR_M h1).2.2.1
  · obtain ⟨t, h1, h2, h3, h4, h5, h6, h7, h8⟩ := ht0 c
    rw [h4, hq4.2.1]; exact tA_2 h1
  · obtain ⟨t, h1, h2, h3, h4, h5, h6, h7, h8⟩ := ht0 c
    have a72 := TR_72 h1
    rw [h4, ef _ 4 (by unfold QU; omega), h7] at c2
    refine m2 h5 (Or.inl (fun q => c2 ?_))
    rw [h3] at q
    obtain ⟨j, j1, j2⟩ := (op_iff h1).mpr q
    have q72 : 72 < cA σ (tA σ t) j := (cC_2 h1 j1).2.1.1
    exact ⟨j, j1, by rw [eC, ef _ _ (by unfold QU; omega)]; exact j2⟩
  · obtain ⟨t, h1, h2, h3, h4, h5, h6, h7, h8⟩ := ht0 c
    have a72 := TR_72 h1
    rw [h4, ef _ _ (by unfold QU; omega), h7]
    obtain ⟨m, hm9, hm⟩ := vp_in_of (TR_M h1).1 (by decide)
    exact ⟨_, _, TS_gr (ef _ _ (by unfold QU; omega)) (by rw [hq4.2.1]) (by rw [eR]) (by rw [hq4.2.1]) (by rw [hq4.2.2.1]) (fun k _ => ⟨by rw [eR], by rw [hq4.2.1]⟩) (TR_M h1).2.2.1, Nat.le_refl _, by rw [hm, ix, cl0 (by omega)]⟩
  all_goals
    obtain ⟨t, h1, h2, h3, h4, h5, h6, h7, h8⟩ := ht0 c
    have cc : cnF σ ∨ ¬ cnF σ := Classical.em _
    have a72 := TR_72 h1
  rotate_right
  · exact m2 h5 (Or.inr (fun q => c3 (cb.mpr q)))
  all_goals
    obtain ⟨n, L, d, n1, n2, l3, l1, l2, hd, hd2, k1, k2, k3, k4, k5, k6, k7, k8, k9, k10⟩ := κF t h1 h6 h8 (cb.mp c3)
    rw [h4]
    try rw [hd2]
  · exact k8
  · exact k2
  · exact k3
  · exact k4
  · rw [k5]; exact n16 L l1 l2
  · rw [k6]; exact vp_in_nI n1 (by decide)
  · omega
  · rw [k7]; exact k10.2.2.2.2.2.2.1.1
  · omega
  · rw [k7, k10.2.2.2.2.2.2.1.2.1]; exact vp_isCa (TR_M h1).2.1
  · rw [k7]
    have q72 : ∀ k, k < d → 72 < cA σ (tA σ t) k := fun k hk => (cC_2 h1 (by rw [hd]; exact hk)).2.1.1
    have eos : ∀ f, smI (osF (flW σ) (tA σ t) f) d = smI (osF σ (tA σ t) f) d := fun f => smI_c (fun k hk => by
      have := q72 k hk
      rw [osF, osF, eC, ef _ _ (by unfold QU; omega), ef _ _ (by unfold QU; omega)])
    have os := os_eq h1
    rw [hd] at os
    have hop : opF σ (8 * t) d := by
      rw [← hd]
      refine (op_iff h1).mp ?_
      rw [h4, hd2] at c2
      obtain ⟨j, j1, j2⟩ := c2
      rw [← hd] at j1
      have q72 : 72 < cA σ (tA σ t) j := (cC_2 h1 j1).2.1.1
      rw [eC, ef _ _ (by unfold QU; omega)] at j2
      exact ⟨j, j1, j2⟩
    have hg : smI (osF (flW σ) (tA σ t) 6) d + smI (osF (flW σ) (tA σ t) 3) d = rfA σ (nI t) + rfB σ (nI t) := by
      rw [eos, eos, os.1, os.2, rfA, rfB, show ix (nI t) = t by rw [ix, cl0 (by omega)], hd]
    rw [hg]
    subst h2
    refine ⟨_, rfl, Sh_uJ (Sh_uJ (Sh_uJ k10.2.1)), ?_⟩
    exact reissueA hi hr h6 h8 hd (cb.mp c3) n1 n2 l1 l2 l3 hop rfl k10 rfl
