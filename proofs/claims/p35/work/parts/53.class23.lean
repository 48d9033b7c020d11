/-! ===== the class: nets moved, bills added up ===== -/
theorem max0 {x : Int64} : (if (0 : Int64) < x then x else 0) = if lg_cmp x 0 ≤ 0 then 0 else x := by
  rw [lg_cmp]
  by_cases h : (0 : Int64) < x
  · rw [if_pos h, if_pos (show x > 0 from h), if_neg (by decide)]
  · rw [if_neg h, if_neg (show ¬ x > 0 from h)]
    by_cases h3 : x = 0
    · rw [if_pos h3, if_pos (by decide)]
    · rw [if_neg h3, if_pos (by decide)]
theorem s_X1_sumOfNetsAboveZero {g : GP} {σ : AH} (hS : Sh σ) : Ct g mX1_sumOfNetsAboveZero [.ref 27] σ (FQ σ (some (.long (scS (fun c => zJ σ 29 c) 5)))) := by
  refine Ct_of (by decide +kernel) rfl rfl (b_X1_sumOfNetsAboveZero_0 ?_)
  refine up_loop (P := fun d => V g mX1_sumOfNetsAboveZero (Em g mX1_sumOfNetsAboveZero (FQ σ (some (.long (scS (fun c => zJ σ 29 c) 5)))) NX) CT 0 0 4 [(0, .ref 27), (1, .long (scS (fun c => zJ σ 29 c) d)), (3, .int (nI d))] [] σ) 5 ?_ ?_ 0 (by decide)
  · have hle : (5 : Int32) ≤ nI 5 := Int32.le_refl _
    exact b_X1_sumOfNetsAboveZero_4 hS (fun _ => fq) (fun c => absurd hle c) (fun c => absurd hle c)
  · intro d hd ih
    have hlt : ¬ (5 : Int32) ≤ nI d := nI_ge (a := d) (b := 5) hd (by decide)
    have hc : (nI d).toNatClampNeg = d := cl0 (by omega)
    rw [← nI_1, scS] at ih
    refine b_X1_sumOfNetsAboveZero_4 hS (fun c => absurd c hlt) (fun _ => ⟨nI_nneg (by omega), hlt⟩) (fun _ => ?_)
    rw [max0, ix, hc]
    exact ih
/-- the nets moved into the cash, d of them -/
def mnH (σ : AH) (d : Nat) : AH := s2 σ (zI σ) (fun a c => if a = 31 ∧ c < d then zJ σ 31 c + zJ σ 29 c else zJ σ a c)
theorem s_X11_moveNets {g : GP} {σ : AH} (hS : Sh σ) : Ct g mX11_moveNets [.ref 2] σ (FQ (mnH σ 5) none) := by
  refine Ct_of (by decide +kernel) rfl rfl (b_X11_moveNets_0 ?_)
  have e0 : mnH σ 0 = σ := by
    refine Eq.trans ?_ (s2_self σ)
    exact s2_cg (fun _ _ => rfl) (fun a c => by rw [if_neg (by omega)])
  refine V_cast rfl rfl e0.symm ?_
  refine up_loop (P := fun d => V g mX11_moveNets (Em g mX11_moveNets (FQ (mnH σ 5) none) NX) CT 0 0 2 [(0, .ref 2), (1, .int (nI d))] [] (mnH σ d)) 5 ?_ ?_ 0 (by decide)
  · have hle : (5 : Int32) ≤ nI 5 := Int32.le_refl _
    exact b_X11_moveNets_2 (σ := mnH σ 5) (Sh_s2 hS) (fun _ => fq) (fun c => absurd hle c) (fun c => absurd hle c)
  · intro d hd ih
    have hlt : ¬ (5 : Int32) ≤ nI d := nI_ge (a := d) (b := 5) hd (by decide)
    have hc : (nI d).toNatClampNeg = d := cl0 (by omega)
    rw [← nI_1] at ih
    refine b_X11_moveNets_2 (σ := mnH σ d) (Sh_s2 hS) (fun c => absurd c hlt) (fun _ => ⟨nI_nneg (by omega), hlt⟩) (fun _ => ?_)
    rw [ix, hc]
    refine V_cast rfl rfl ?_ ih
    have r1 : zJ (mnH σ d) 31 d = zJ σ 31 d := by rw [mnH, zJ_s2, if_neg (by omega)]
    have r2 : zJ (mnH σ d) 29 d = zJ σ 29 d := by rw [mnH, zJ_s2, if_neg (by omega)]
    rw [r1, r2, mnH, mnH, uJ_s2]
    refine s2_cg (fun _ _ => rfl) (fun a c => ?_)
    by_cases h : a = 31 ∧ c = d
    · rw [if_pos h, if_pos (by omega), h.2]
    · rw [if_neg h]
      by_cases h2 : a = 31 ∧ c < d
      · rw [if_pos h2, if_pos (by omega)]
      · rw [if_neg h2, if_neg (by omega)]
/-- the heap with a bill more -/
def blC (σ : AH) (x y z : Int32) : AH := uI (uR (uI (uI (uI (uI (nw σ 0 6) (zN σ + 1) 3 0) (zN σ + 1) 0 x) (zN σ + 1) 1 y) (zN σ + 1) 2 z) 28 (ix (zI σ 27 2)) (zN σ + 1)) 27 2 (zI σ 27 2 + 1)
theorem s_X1_addBill {g : GP} {σ : AH} {x y z : Int32} (hS : Sh σ) (hn : vp_in (zI σ 27 2) 240) : Ct g mX1_addBill [.ref 27, .int x, .int y, .int z] σ (FQ (blC σ x y z) (some (.int (zI σ 27 2 + 1 - 1)))) := by
  obtain ⟨n, hlt, e⟩ := vp_in_of hn (by decide)
  have h72 := hS.1
  have hl : zI σ 27 2 < (240 : Int32) := by rw [e]; exact nI_lt (b := 240) hlt (by decide)
  have ne : ¬ 27 = zN σ + 1 := by omega
  have e2 : zI (uI (uI (uI (uI (nw σ 0 6) (zN σ + 1) 3 0) (zN σ + 1) 0 x) (zN σ + 1) 1 y) (zN σ + 1) 2 z) 27 2 = zI σ 27 2 := by
    rw [zI_uI, if_neg (fun q => ne q.1), zI_uI, if_neg (fun q => ne q.1), zI_uI, if_neg (fun q => ne q.1), zI_uI, if_neg (fun q => ne q.1), zI_nw, if_neg ne]
  refine Ct_of (by decide +kernel) rfl rfl (b_X1_addBill_0 hS (fun _ => ⟨Nat.succ_ne_zero _, by rw [zK_nw, if_pos rfl]⟩) (fun _ => hn) (fun _ => ?_) (fun c => absurd hl c))
  rw [e2]
  exact fq
theorem Sh_blC {σ : AH} {x y z : Int32} (h : Sh σ) : Sh (blC σ x y z) := Sh_uI (Sh_uRl (by decide) (Sh_uI (Sh_uI (Sh_uI (Sh_uI (Sh_nw h))))))
/-- what a carrier got by the first bills, less what it paid -/
def gbS (σ : AH) (c : Int32) : Nat → Int64
  | 0 => 0
  | d + 1 => (gbS σ c d + if zI σ (bA σ d) 1 = c then Int32.toInt64 (gpF σ (bA σ d)) else 0) - if zI σ (bA σ d) 0 = c then Int32.toInt64 (gpF σ (bA σ d)) else 0
theorem s_X1_gotBy {g : GP} {σ : AH} {c : Int32} {n : Nat} (hS : Sh σ) (hB : BS σ n) : Ct g mX1_gotBy [.ref 27, .int c] σ (FQ σ (some (.long (gbS σ c n)))) := by
  have hn := hB.1
  refine Ct_of (by decide +kernel) rfl rfl (b_X1_gotBy_0 ?_)
  refine up_loop (P := fun d => V g mX1_gotBy (Em g mX1_gotBy (FQ σ (some (.long (gbS σ c n)))) NX) CT 0 0 5 [(0, .ref 27), (1, .int c), (2, .long (gbS σ c d)), (4, .int (nI d))] [] σ) n ?_ ?_ 0 (Nat.zero_le _)
  · have hle : zI σ 27 2 ≤ nI n := by rw [hB.2.1]; exact Int32.le_refl _
    exact b_X1_gotBy_5 hS (fun _ => fq) (fun c => absurd hle c) (fun c => absurd hle c) (fun c => absurd hle c) (fun c => absurd hle c) (fun c => absurd hle c) (fun c => absurd hle c) (fun c => absurd hle c) (fun c => absurd hle c)
  · intro d hd ih
    have hlt : ¬ zI σ 27 2 ≤ nI d := by rw [hB.2.1]; exact nI_ge hd (by omega)
    have hat := BS_at hB hd
    have hrow := hB.2.2.1 d hd
    have bk : BK σ (bA σ d) := ⟨by omega, hrow.2.1⟩
    rw [← nI_1, gbS] at ih
    refine b_X1_gotBy_5 hS (fun c => absurd c hlt) (fun _ c => absurd (hat.symm.trans c) bk.1) (fun _ _ => by rw [hat]; exact bk.2) (fun _ _ c1 c2 => ?_) (fun _ _ _ _ => by rw [hat]; exact bk) (fun _ _ c1 c2 => ?_) (fun _ _ _ => by rw [hat]; exact bk) (fun _ _ c1 c2 => ?_) (fun _ _ c1 c2 => ?_)
    all_goals
      rw [hat] at c1 c2
      try rw [hat]
    · rw [if_neg c1, if_neg c2] at ih
      simpa using ih
    · rw [if_neg c1, if_pos c2] at ih
      simpa using ih
    · rw [if_pos c1, if_neg c2] at ih
      simpa using ih
    · rw [if_pos c1, if_pos c2] at ih
      exact ih
