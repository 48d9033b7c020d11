/-! ===== calls: flying, the class and both ===== -/
theorem blC_I {σ : AH} {x y z : Int32} {b j : Nat} : zI (blC σ x y z) b j = if b = 27 ∧ j = 2 then zI σ 27 2 + 1 else if b = zN σ + 1 ∧ j = 2 then z else if b = zN σ + 1 ∧ j = 1 then y else if b = zN σ + 1 ∧ j = 0 then x else if b = zN σ + 1 ∧ j = 3 then 0 else if b = zN σ + 1 then 0 else zI σ b j := by
  rw [blC, zI_uI, zI_uR, zI_uI, zI_uI, zI_uI, zI_uI, zI_nw]
theorem blC_R {σ : AH} {x y z : Int32} {b j : Nat} : zR (blC σ x y z) b j = if b = 28 ∧ j = ix (zI σ 27 2) then zN σ + 1 else if b = zN σ + 1 then 0 else zR σ b j := by
  rw [blC, zR_uI, zR_uR, zR_uI, zR_uI, zR_uI, zR_uI, zR_nw]
theorem blC_K {σ : AH} {x y z : Int32} {b : Nat} : zK (blC σ x y z) b = if b = zN σ + 1 then 0 else zK σ b := by
  rw [blC, zK_uI, zK_uR, zK_uI, zK_uI, zK_uI, zK_uI, zK_nw]
theorem blC_L {σ : AH} {x y z : Int32} {b : Nat} (h : b ≤ zN σ) : zL (blC σ x y z) b = zL σ b := by
  rw [blC, zL_uI, zL_uR, zL_uI, zL_uI, zL_uI, zL_uI, zL_nw, if_neg (by omega)]
theorem blC_J {σ : AH} {x y z : Int32} {b j : Nat} (h : b ≤ zN σ) : zJ (blC σ x y z) b j = zJ σ b j := by
  rw [blC, zJ_uI, zJ_uR, zJ_uI, zJ_uI, zJ_uI, zJ_uI, zJ_nw, if_neg (by omega)]
theorem blC_N {σ : AH} {x y z : Int32} : zN (blC σ x y z) = zN σ + 1 := by
  rw [blC, zN_uI, zN_uR, zN_uI, zN_uI, zN_uI, zN_uI, zN_nw]
theorem Sh_fyH {σ : AH} {t k : Nat} (hS : Sh σ) : Sh (fyH σ t k) := by
  rw [fyH]
  exact Sh_uJ (Sh_uJ (Sh_toA (Sh_uI hS) _))
theorem s_fly85 {g : GP} {CX : State → Array Value → Prop} {Q : AH → Option Value → Prop} {X : AH → String → Prop} {σ : AH} {t k : Nat} {v1 v2 : Int32} (hS : Sh σ) (hK : RK σ) (ht : t < ix (zI σ 33 23)) (hk : k < ix (zI σ 52 t))
    (kA : zI σ 58 (8 * t + k) = zI σ 51 t → Q (fyH σ t k) (some (.int (zI σ 61 (8 * t + k)))))
    (h240 : ¬ zI σ 58 (8 * t + k) = zI σ 51 t → vp_in (zI σ 27 2) 240)
    (kB : ¬ zI σ 58 (8 * t + k) = zI σ 51 t → Q (uI (blC (fyH σ t k) (zI σ 51 t) (zI σ 58 (8 * t + k)) (zI σ 56 (8 * t + k))) (cC σ t k) 8 (zI σ 27 2 + 1 - 1)) (some (.int (zI σ 27 2 + 1 - 1)))) :
    V g mX11_fly (Em g mX11_fly Q X) CX 2 12 85 [(0, .ref 2), (1, .int v1), (2, .int v2), (3, .ref (tA σ t)), (4, .ref (cC σ t k))] [] (fyT σ t k) := by
  have hTR := RK_t hK ht
  have a72 := TR_72 hTR
  have a9 := tA_2 hTR
  have q2 := cC_2 hTR hk
  obtain ⟨kc, r1, r2, r3, r4, r5, r6, r7, r8, r9⟩ := q2
  have a51 : zI σ (tA σ t) 0 = zI σ 51 t := by
    obtain ⟨m, s1, s2, s3, s4, s5, s6, -⟩ := hTR
    exact s6.1
  have To : ∀ b j, j ≠ 7 → zI (fyT σ t k) b j = zI σ b j := fun b j h => fyT_o hK ht hk (Or.inr (Or.inl h))
  have eK : zK (fyT σ t k) = zK σ := fyT_N.2.1
  have F : ∀ b j, j ≠ 7 → zI (fyH σ t k) b j = zI σ b j := fun b j h => by rw [fyH_I, To b j h]
  have last : V g mX11_fly (Em g mX11_fly Q X) CX 2 12 130 [(0, .ref 2), (1, .int v1), (2, .int v2), (3, .ref (tA σ t)), (4, .ref (cC σ t k))] [] (fyH σ t k) := by
    refine b_X11_fly_130 (Sh_fyH hS) (by omega) (by rw [fyH_N.2.1]; exact kc) (by omega) (by rw [fyH_N.2.1]; exact a9) (fun c => ?_) (fun c => ?_) (fun c => ?_) (fun c => ?_)
    · rw [F _ 4 (by decide), F _ 0 (by decide), r5.1, a51] at c
      rw [F _ 8 (by decide), r8]
      exact kA c
    · rw [F _ 4 (by decide), F _ 0 (by decide), r5.1, a51] at c
      rw [F _ 2 (by decide)]
      exact h240 c
    · rw [blC_K, fyH_N.1, if_neg (by omega), fyH_N.2.1]; exact kc
    · rw [F _ 4 (by decide), F _ 0 (by decide), r5.1, a51] at c
      rw [F _ 4 (by decide), F _ 0 (by decide), F _ 6 (by decide), F _ 2 (by decide), r5.1, a51, r6.1]
      exact kB c
  refine b_X11_fly_85 (Sh_toA (Sh_uI hS) _) (by omega) (by rw [eK]; exact a9) (by omega) (by rw [eK]; exact kc) ?_ ?_
  · rw [To _ 0 (by decide), a51]
    exact vp_isCa (TR_M hTR).2.1
  · rw [To _ 0 (by decide), To _ 3 (by decide), a51, r4.1, fyT_N.2.2.2.1]
    generalize hy : zJ σ 31 (ix (zI σ 51 t)) + Int32.toInt64 (-(zI σ 57 (8 * t + k))) = y
    refine b_X11_fly_100 (Sh_uJ (Sh_toA (Sh_uI hS) _)) (by omega) (by rw [zK_uJ, eK]; exact kc) (fun c => absurd ?_ c) (fun _ => ?_) (fun _ => ?_)
    · rw [zI_uJ, To _ 0 (by decide), r2.1]; exact vp_isPl r2.2
    · rw [zI_uJ, To _ 0 (by decide), r2.1]; exact r2.2
    · have e : fyH σ t k = uJ (uJ (fyT σ t k) 31 (ix (zI σ 51 t)) y) 32 (ix (zI σ 60 (8 * t + k))) (zJ σ 32 (ix (zI σ 60 (8 * t + k))) + Int32.toInt64 (zI σ 57 (8 * t + k))) := by rw [fyH, hy]
      rw [zI_uJ, zI_uJ, To _ 0 (by decide), To _ 3 (by decide), r2.1, r4.1, zJ_uJ, if_neg (by omega), fyT_N.2.2.2.1]
      rw [e] at last
      exact last

