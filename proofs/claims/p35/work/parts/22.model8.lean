/-! ===== the reference: what is done with tickets ===== -/
theorem mkH_33 {σ : AH} {t : Nat} {y : Int32} {j : Nat} (h : j ≠ 16 ∧ j ≠ 21 ∧ j ≠ 22) : zI (mkH σ t y) 33 j = zI σ 33 j := by
  rw [mkH, zI_uI, if_neg (fun q => h.1 q.2), zI_sI, mkF, if_pos rfl, if_neg h.2.1, if_neg h.2.2]
theorem mkH_T {σ : AH} {t : Nat} {y : Int32} {a : Nat} (h : 50 ≤ a ∧ a ≤ 54) : zI (mkH σ t y) a t = rwT σ y (lgN σ) a := by
  rw [mkH, zI_uI, if_neg (by omega), zI_sI, mkF, if_neg (by omega), if_pos h, if_pos rfl]
theorem mkH_o {σ : AH} {t : Nat} {y : Int32} {a j : Nat} (h : a < 50 ∨ 61 < a ∨ (50 ≤ a ∧ a ≤ 54 ∧ j ≠ t) ∨ (55 ≤ a ∧ j < 8 * t)) (h33 : a ≠ 33) : zI (mkH σ t y) a j = zI σ a j := by
  rw [mkH, zI_uI, if_neg (fun q => h33 q.1), zI_sI, mkF, if_neg h33]
  by_cases h1 : 50 ≤ a ∧ a ≤ 54
  · rw [if_pos h1, if_neg (by omega)]
  · rw [if_neg h1, if_neg (by omega)]
theorem mkH_N {σ : AH} {t : Nat} {y : Int32} : zN (mkH σ t y) = zN σ ∧ zK (mkH σ t y) = zK σ ∧ zL (mkH σ t y) = zL σ ∧ zJ (mkH σ t y) = zJ σ ∧ zR (mkH σ t y) = zR σ := ⟨rfl, rfl, rfl, rfl, rfl⟩
/-- money comes from buyers -/
abbrev byH (σ : AH) (x y : Int32) : AH := uJ (uJ σ 70 (ix x) (zJ σ 70 (ix x) + Int32.toInt64 y)) 33 48 (zJ σ 33 48 + Int32.toInt64 y)
def NZ (σ : AH) : Prop := ∀ b n d, b + n ≤ lgN σ → d < n → pvF σ (b + d) = -1 → ¬ Int32.toInt64 (alS (pvF σ) (wtF σ) b n) = 0
theorem NZ_eq {τ σ : AH} (h : EqP τ σ) (hN : NZ σ) : NZ τ := by
  have h1 : pvF τ = pvF σ := funext (pvF_eq h)
  have h2 : wtF τ = wtF σ := funext (wtF_eq h)
  have h3 : lgN τ = lgN σ := by rw [lgN, lgN, h.2.2.2.1]
  unfold NZ
  rw [h1, h2, h3]
  exact hN
/-- the heap when the reference has issued -/
noncomputable def nwH (σ : AH) (y : Int32) : AH := mkH σ (ix (zI σ 33 23)) y
noncomputable def nwP (σ : AH) (y : Int32) : Int32 := zI (nwH σ y) 50 (ix (zI σ 33 23)) + smI (fun k => zI (nwH σ y) 57 (8 * ix (zI σ 33 23) + k)) (ix (zI (nwH σ y) 52 (ix (zI σ 33 23))))
noncomputable def isH (σ : AH) (y : Int32) : AH := uI (byH (nwH (uI (ciH σ) 33 49 0) y) y (nwP (uI (ciH σ) 33 49 0) y)) 33 23 (zI σ 33 23 + 1)
/-- issue -/
def S12_issue (v1 : Int32) (σ ω : AH) (rv : Option Value) : Prop := (¬ isCa v1 → ω = uI (ciH σ) 33 49 (1 : Int32) ∧ rv = some (.int 0)) ∧ (isCa v1 → ¬ cnF σ → ω = uI (ciH σ) 33 49 (2 : Int32) ∧ rv = some (.int 0)) ∧ (isCa v1 → cnF σ → ω = isH σ v1 ∧ rv = some (.int (zI σ 33 23 + 1 - 1)))
theorem s_X12_issue {Q : AH → Option Value → Prop} {σ : AH} {v1 : Int32} (hS : Sh σ) (hP : PO σ) (hC : CA σ) (hL : vp_in (zI σ 33 16) 9) (hN : vp_in (zI σ 33 23) 31) (hA : NZ σ)
    (q1 : ¬ isCa v1 → Q (uI (ciH σ) 33 49 (1 : Int32)) (some (.int 0)))
    (q2 : isCa v1 → ¬ cnF σ → Q (uI (ciH σ) 33 49 (2 : Int32)) (some (.int 0)))
    (q0 : isCa v1 → cnF σ → Q (isH σ v1) (some (.int (zI σ 33 23 + 1 - 1)))) :
    Gh (S12_issue v1) σ Q := by
  by_cases a1 : isCa v1
  · by_cases a2 : cnF σ
    · exact ⟨_, _, ⟨fun h => absurd a1 h, fun _ h => absurd a2 h, fun _ _ => ⟨rfl, rfl⟩⟩, q0 a1 a2⟩
    · exact ⟨_, _, ⟨fun h => absurd a1 h, fun _ _ => ⟨rfl, rfl⟩, fun _ h => absurd h a2⟩, q2 a1 a2⟩
  · exact ⟨_, _, ⟨fun _ => ⟨rfl, rfl⟩, fun h => absurd h a1, fun h => absurd h a1⟩, q1 a1⟩
/-- endorse: what the ghost rows become, and the answer -/
def S12_endorse (v1 v2 v3 : Int32) (σ ω : AH) (rv : Option Value) : Prop := (¬ ((isWi v1 0 (zI σ 33 23 - 1) ∧ isWi v2 0 (zI σ 52 (ix v1) - 1)) ∧ isCa v3) → ω = uI σ 33 49 (1 : Int32) ∧ rv = (some (.int 0))) ∧ (((isWi v1 0 (zI σ 33 23 - 1) ∧ isWi v2 0 (zI σ 52 (ix v1) - 1)) ∧ isCa v3) → ¬ (zI σ 55 (ix (8 * v1 + v2)) = 0 ∧ ¬ zI σ 58 (ix (8 * v1 + v2)) = v3) → ω = uI σ 33 49 (2 : Int32) ∧ rv = (some (.int 0))) ∧ (((isWi v1 0 (zI σ 33 23 - 1) ∧ isWi v2 0 (zI σ 52 (ix v1) - 1)) ∧ isCa v3) → (zI σ 55 (ix (8 * v1 + v2)) = 0 ∧ ¬ zI σ 58 (ix (8 * v1 + v2)) = v3) → ω = uI (uI σ 33 49 0) 58 (ix (8 * v1 + v2)) v3 ∧ rv = (some (.int (zI σ 58 (ix (8 * v1 + v2))))))
theorem s_X12_endorse {Q : AH → Option Value → Prop} {v1 v2 v3 : Int32} {σ : AH} (hS : Sh σ) (hN : vp_in (zI σ 33 23) 31) (hv : isWi v1 0 (zI σ 33 23 - 1) ∧ isWi v2 0 (zI σ 52 (ix v1) - 1) → vp_in (8 * v1 + v2) 240)
    (q1 : ¬ ((isWi v1 0 (zI σ 33 23 - 1) ∧ isWi v2 0 (zI σ 52 (ix v1) - 1)) ∧ isCa v3) → Q (uI σ 33 49 (1 : Int32)) (some (.int 0)))
    (q2 : ((isWi v1 0 (zI σ 33 23 - 1) ∧ isWi v2 0 (zI σ 52 (ix v1) - 1)) ∧ isCa v3) → ¬ (zI σ 55 (ix (8 * v1 + v2)) = 0 ∧ ¬ zI σ 58 (ix (8 * v1 + v2)) = v3) → Q (uI σ 33 49 (2 : Int32)) (some (.int 0)))
    (q0 : ((isWi v1 0 (zI σ 33 23 - 1) ∧ isWi v2 0 (zI σ 52 (ix v1) - 1)) ∧ isCa v3) → (zI σ 55 (ix (8 * v1 + v2)) = 0 ∧ ¬ zI σ 58 (ix (8 * v1 + v2)) = v3) → Q (uI (uI σ 33 49 0) 58 (ix (8 * v1 + v2)) v3) (some (.int (zI σ 58 (ix (8 * v1 + v2)))))) : Gh (S12_endorse v1 v2 v3) σ Q := by
  by_cases a1 : (isWi v1 0 (zI σ 33 23 - 1) ∧ isWi v2 0 (zI σ 52 (ix v1) - 1)) ∧ isCa v3
  rotate_left
  · exact ⟨_, _, ⟨fun _ => ⟨rfl, rfl⟩, fun h _ => absurd h a1, fun h _ => absurd h a1⟩, q1 a1⟩
  by_cases a2 : zI σ 55 (ix (8 * v1 + v2)) = 0 ∧ ¬ zI σ 58 (ix (8 * v1 + v2)) = v3
  rotate_left
  · exact ⟨_, _, ⟨fun h => absurd a1 h, fun _ _ => ⟨rfl, rfl⟩, fun _ h => absurd h a2⟩, q2 a1 a2⟩
  exact ⟨_, _, ⟨fun h => absurd a1 h, fun _ h => absurd a2 h, fun _ _ => ⟨rfl, rfl⟩⟩, q0 a1 a2⟩
/-- what a refund leaves of the shares, and what it gives -/
def rfH (σ : AH) (x : Int32) : AH := trH (uI σ 33 49 0) (8 * ix x) 3 (ix (zI σ 52 (ix x)))
def rfA (σ : AH) (x : Int32) : Int32 := smI (ooF σ (8 * ix x) 0) (ix (zI σ 52 (ix x)))
def rfB (σ : AH) (x : Int32) : Int32 := smI (ooF σ (8 * ix x) 1) (ix (zI σ 52 (ix x)))
def rfG (σ : AH) (x : Int32) : Int32 := rfA σ x - Int64.toInt32 ((Int32.toInt64 (rfA σ x) * Int32.toInt64 (zI σ 33 15) + 99) / 100) + rfB σ x
/-- refund -/
def S12_refund (v1 : Int32) (σ ω : AH) (rv : Option Value) : Prop := (¬ isWi v1 0 (zI σ 33 23 - 1) → ω = uI σ 33 49 (1 : Int32) ∧ rv = some (.int 0)) ∧ (isWi v1 0 (zI σ 33 23 - 1) → ¬ opF σ (8 * ix v1) (ix (zI σ 52 (ix v1))) → ω = uI σ 33 49 (2 : Int32) ∧ rv = some (.int 0)) ∧ (isWi v1 0 (zI σ 33 23 - 1) → opF σ (8 * ix v1) (ix (zI σ 52 (ix v1))) → ω = byH (rfH σ v1) (zI σ 51 (ix v1)) (-(rfG σ v1)) ∧ rv = some (.int (rfG σ v1)))
theorem s_X12_refund {Q : AH → Option Value → Prop} {σ : AH} {v1 : Int32} (hS : Sh σ) (hN : vp_in (zI σ 33 23) 31) (hM : isWi v1 0 (zI σ 33 23 - 1) → vp_in (zI σ 52 (ix v1)) 9 ∧ vp_in (zI σ 51 (ix v1)) 5)
    (q1 : ¬ isWi v1 0 (zI σ 33 23 - 1) → Q (uI σ 33 49 (1 : Int32)) (some (.int 0)))
    (q2 : isWi v1 0 (zI σ 33 23 - 1) → ¬ opF σ (8 * ix v1) (ix (zI σ 52 (ix v1))) → Q (uI σ 33 49 (2 : Int32)) (some (.int 0)))
    (q0 : isWi v1 0 (zI σ 33 23 - 1) → opF σ (8 * ix v1) (ix (zI σ 52 (ix v1))) → Q (byH (rfH σ v1) (zI σ 51 (ix v1)) (-(rfG σ v1))) (some (.int (rfG σ v1)))) :
    Gh (S12_refund v1) σ Q := by
  by_cases a1 : isWi v1 0 (zI σ 33 23 - 1)
  · by_cases a2 : opF σ (8 * ix v1) (ix (zI σ 52 (ix v1)))
    · exact ⟨_, _, ⟨fun h => absurd a1 h, fun _ h => absurd a2 h, fun _ _ => ⟨rfl, rfl⟩⟩, q0 a1 a2⟩
    · exact ⟨_, _, ⟨fun h => absurd a1 h, fun _ _ => ⟨rfl, rfl⟩, fun _ h => absurd h a2⟩, q2 a1 a2⟩
  · exact ⟨_, _, ⟨fun _ => ⟨rfl, rfl⟩, fun h => absurd h a1, fun h => absurd h a1⟩, q1 a1⟩
/-- what a ticket that is reissued still had -/
def riH (σ : AH) (x : Int32) : AH := trH (uI (ciH σ) 33 49 0) (8 * ix x) 4 (ix (zI σ 52 (ix x)))
noncomputable def riG (σ : AH) (x : Int32) : Int32 := nwP (riH σ x) (zI σ 51 (ix x)) - (rfA σ x + rfB σ x)
noncomputable def reH (σ : AH) (x : Int32) : AH := uI (byH (nwH (riH σ x) (zI σ 51 (ix x))) (zI σ 51 (ix x)) (riG σ x)) 33 23 (zI σ 33 23 + 1)
/-- reissue -/
def S12_reissue (v1 : Int32) (σ ω : AH) (rv : Option Value) : Prop := (¬ isWi v1 0 (zI σ 33 23 - 1) → ω = uI σ 33 49 (1 : Int32) ∧ rv = some (.int 0)) ∧ (isWi v1 0 (zI σ 33 23 - 1) → ¬ opF σ (8 * ix v1) (ix (zI σ 52 (ix v1))) → ω = uI σ 33 49 (2 : Int32) ∧ rv = some (.int 0)) ∧ (isWi v1 0 (zI σ 33 23 - 1) → opF σ (8 * ix v1) (ix (zI σ 52 (ix v1))) → ¬ cnF σ → ω = uI (ciH σ) 33 49 (2 : Int32) ∧ rv = some (.int 0)) ∧ (isWi v1 0 (zI σ 33 23 - 1) → opF σ (8 * ix v1) (ix (zI σ 52 (ix v1))) → cnF σ → ω = reH σ v1 ∧ rv = some (.int (riG σ v1)))
theorem s_X12_reissue {Q : AH → Option Value → Prop} {σ : AH} {v1 : Int32} (hS : Sh σ) (hP : PO σ) (hC : CA σ) (hL : vp_in (zI σ 33 16) 9) (hA : NZ σ) (hN : vp_in (zI σ 33 23) 31) (hM : isWi v1 0 (zI σ 33 23 - 1) → vp_in (zI σ 52 (ix v1)) 9 ∧ vp_in (zI σ 51 (ix v1)) 5)
    (q1 : ¬ isWi v1 0 (zI σ 33 23 - 1) → Q (uI σ 33 49 (1 : Int32)) (some (.int 0)))
    (q2 : isWi v1 0 (zI σ 33 23 - 1) → ¬ opF σ (8 * ix v1) (ix (zI σ 52 (ix v1))) → Q (uI σ 33 49 (2 : Int32)) (some (.int 0)))
    (q3 : isWi v1 0 (zI σ 33 23 - 1) → opF σ (8 * ix v1) (ix (zI σ 52 (ix v1))) → ¬ cnF σ → Q (uI (ciH σ) 33 49 (2 : Int32)) (some (.int 0)))
    (q0 : isWi v1 0 (zI σ 33 23 - 1) → opF σ (8 * ix v1) (ix (zI σ 52 (ix v1))) → cnF σ → Q (reH σ v1) (some (.int (riG σ v1)))) :
    Gh (S12_reissue v1) σ Q := by
  by_cases a1 : isWi v1 0 (zI σ 33 23 - 1)
  · by_cases a2 : opF σ (8 * ix v1) (ix (zI σ 52 (ix v1)))
    · by_cases a3 : cnF σ
      · exact ⟨_, _, ⟨fun h => absurd a1 h, fun _ h => absurd a2 h, fun _ _ h => absurd a3 h, fun _ _ _ => ⟨rfl, rfl⟩⟩, q0 a1 a2 a3⟩
      · exact ⟨_, _, ⟨fun h => absurd a1 h, fun _ h => absurd a2 h, fun _ _ _ => ⟨rfl, rfl⟩, fun _ _ h => absurd h a3⟩, q3 a1 a2 a3⟩
    · exact ⟨_, _, ⟨fun h => absurd a1 h, fun _ _ => ⟨rfl, rfl⟩, fun _ h => absurd h a2, fun _ h => absurd h a2⟩, q2 a1 a2⟩
  · exact ⟨_, _, ⟨fun _ => ⟨rfl, rfl⟩, fun h => absurd h a1, fun h => absurd h a1, fun h => absurd h a1⟩, q1 a1⟩