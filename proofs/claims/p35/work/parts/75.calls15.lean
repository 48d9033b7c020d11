/-! ===== calls: clearing, in parts ===== -/
theorem idF_iff {σ : AH} {x : Int32} (h4 : zI σ 27 4 = dfS σ 5) (hb : ∀ c, c < 5 → zI σ 68 c = 0 ∨ zI σ 68 c = 1) (hx : vp_in x 5) : idF σ x ↔ ¬ zI σ 68 (ix x) = 0 := by
  obtain ⟨n, hn, rfl⟩ := vp_in_of hx (by decide)
  have e : ix (nI n) = n := by rw [ix, cl0 (by omega)]
  rw [e]
  unfold idF
  rw [h4]
  have q : n = 0 ∨ n = 1 ∨ n = 2 ∨ n = 3 ∨ n = 4 := by omega
  have d5 : dfS σ 5 = ((((0 ||| (if zI σ 68 0 = 0 then 0 else (1 : Int32) <<< (nI 0 &&& 31))) ||| (if zI σ 68 1 = 0 then 0 else (1 : Int32) <<< (nI 1 &&& 31))) ||| (if zI σ 68 2 = 0 then 0 else (1 : Int32) <<< (nI 2 &&& 31))) ||| (if zI σ 68 3 = 0 then 0 else (1 : Int32) <<< (nI 3 &&& 31))) ||| (if zI σ 68 4 = 0 then 0 else (1 : Int32) <<< (nI 4 &&& 31)) := rfl
  rw [d5]
  have h0 := hb 0 (by decide)
  have h1 := hb 1 (by decide)
  have h2 := hb 2 (by decide)
  have h3 := hb 3 (by decide)
  have h4' := hb 4 (by decide)
  rcases q with q | q | q | q | q <;> subst q <;> first
    | (generalize zI σ 68 0 = y0 at *; generalize zI σ 68 1 = y1 at *; generalize zI σ 68 2 = y2 at *; generalize zI σ 68 3 = y3 at *; generalize zI σ 68 4 = y4 at *; rcases h0 with h0 | h0 <;> rcases h1 with h1 | h1 <;> rcases h2 with h2 | h2 <;> rcases h3 with h3 | h3 <;> rcases h4' with h4' | h4' <;> subst h0 <;> subst h1 <;> subst h2 <;> subst h3 <;> subst h4' <;> decide)
/-- what carriers have by bills, when bills' money moved -/
theorem gbM_dl {ω σ : AH} {C : Nat → Prop} {f : Nat → Nat → Int64} {D : Nat → Int64} {c : Nat} (hc : c < 5) : ∀ d, (∀ b, b < d → zI ω 65 b = zI σ 65 b ∧ zI ω 64 b = zI σ 64 b ∧ vp_in (zI σ 65 b) 5 ∧ vp_in (zI σ 64 b) 5 ∧ Int32.toInt64 (gpM ω b) = Int32.toInt64 (gpM σ b) + D b ∧ (C b → f b c = (if c = ix (zI σ 65 b) then D b else 0) - (if c = ix (zI σ 64 b) then D b else 0)) ∧ (¬ C b → D b = 0)) → gbM ω (nI c) d = gbM σ (nI c) d + dlS C f d c
  | 0, _ => by rw [dlS]; simp [gbM]
  | d + 1, h => by
    obtain ⟨h1, h2, h3, h4, h5, h6, h7⟩ := h d (by omega)
    rw [gbM, gbM, gbM_dl hc d (fun b hb => h b (by omega)), h1, h2, h5]
    have iff5 : ∀ x : Int32, vp_in x 5 → (x = nI c ↔ c = ix x) := fun x hx => by
      obtain ⟨n, hn, rfl⟩ := vp_in_of hx (by decide)
      rw [ix, cl0 (by omega)]
      exact ⟨fun q => ((nI_eq (by omega) (by omega)).mp q).symm, fun q => by rw [q]⟩
    have i5 := iff5 _ h3
    have i4 := iff5 _ h4
    generalize Int32.toInt64 (gpM σ d) = x at *
    generalize gbM σ (nI c) d = y at *
    by_cases hC : C d
    · rw [dlS_y hC, h6 hC]
      generalize dlS C f d c = z at *
      by_cases p : zI σ 65 d = nI c <;> by_cases q : zI σ 64 d = nI c
      · rw [if_pos p, if_pos q, if_pos p, if_pos q, if_pos (i5.mp p), if_pos (i4.mp q)]; grind
      · rw [if_pos p, if_neg q, if_pos p, if_neg q, if_pos (i5.mp p), if_neg (fun t => q (i4.mpr t))]; grind
      · rw [if_neg p, if_pos q, if_neg p, if_pos q, if_neg (fun t => p (i5.mpr t)), if_pos (i4.mp q)]; grind
      · rw [if_neg p, if_neg q, if_neg p, if_neg q, if_neg (fun t => p (i5.mpr t)), if_neg (fun t => q (i4.mpr t))]; grind
    · rw [dlS_n hC, h7 hC]
      generalize dlS C f d c = z at *
      by_cases p : zI σ 65 d = nI c <;> by_cases q : zI σ 64 d = nI c
      · rw [if_pos p, if_pos q, if_pos p, if_pos q]; grind
      · rw [if_pos p, if_neg q, if_pos p, if_neg q]; grind
      · rw [if_neg p, if_pos q, if_neg p, if_pos q]; grind
      · rw [if_neg p, if_neg q, if_neg p, if_neg q]; grind

