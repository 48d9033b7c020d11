/-! ===== the reference: clearing ===== -/
/-- a heap with its ints and longs put anew -/
def s2 (σ : AH) (F : Nat → Nat → Int32) (G : Nat → Nat → Int64) : AH := (zN σ, zK σ, zL σ, F, G, zR σ)
theorem zI_s2 (σ : AH) (F : Nat → Nat → Int32) (G : Nat → Nat → Int64) (a k : Nat) : zI (s2 σ F G) a k = F a k := rfl
theorem zJ_s2 (σ : AH) (F : Nat → Nat → Int32) (G : Nat → Nat → Int64) (a k : Nat) : zJ (s2 σ F G) a k = G a k := rfl
theorem uI_s2 (σ : AH) (F : Nat → Nat → Int32) (G : Nat → Nat → Int64) (a k : Nat) (x : Int32) : uI (s2 σ F G) a k x = s2 σ (fun b j => if b = a ∧ j = k then x else F b j) G := rfl
theorem uJ_s2 (σ : AH) (F : Nat → Nat → Int32) (G : Nat → Nat → Int64) (a k : Nat) (x : Int64) : uJ (s2 σ F G) a k x = s2 σ F (fun b j => if b = a ∧ j = k then x else G b j) := rfl
theorem s2_self (σ : AH) : s2 σ (zI σ) (zJ σ) = σ := rfl
theorem Sh_s2 {σ : AH} {F : Nat → Nat → Int32} {G : Nat → Nat → Int64} (h : Sh σ) : Sh (s2 σ F G) := h
theorem s2_cg {σ : AH} {F F' : Nat → Nat → Int32} {G G' : Nat → Nat → Int64} (h : ∀ a k, F a k = F' a k) (h' : ∀ a k, G a k = G' a k) : s2 σ F G = s2 σ F' G' := by
  have e : F = F' := by funext a k; exact h a k
  have e' : G = G' := by funext a k; exact h' a k
  rw [e, e']
theorem j_ring (z d a b : Int64) : z + d - a + b = z + (d + (b - a)) := by grind
/-- money moves from one carrier to another -/
def mvG (σ : AH) (x y : Nat) (m : Int64) (a k : Nat) : Int64 := if a = 69 ∨ a = 70 then zJ σ a k - (if k = x then m else 0) + (if k = y then m else 0) else zJ σ a k
def mvH (σ : AH) (x y : Nat) (m : Int64) : AH := s2 σ (zI σ) (mvG σ x y m)
def bkF (σ : AH) (b : Nat) : Int32 := if zI σ 66 b = 3 then zI σ 63 b / 2 else zI σ 63 b
/-- a bill that is settled: how it stands then, what a carrier gets -/
def stS (σ : AH) (b : Nat) : Int32 := if zI σ 62 b = 0 then 1 else if zI σ 66 b = 3 then 4 else 3
def sdG (σ : AH) (b c : Nat) : Int64 :=
  if zI σ 62 b = 0 then (if c = ix (zI σ 65 b) then Int32.toInt64 (zI σ 63 b) else 0) - (if c = ix (zI σ 64 b) then Int32.toInt64 (zI σ 63 b) else 0)
  else (if c = ix (zI σ 64 b) then Int32.toInt64 (bkF σ b) else 0) - (if c = ix (zI σ 65 b) then Int32.toInt64 (bkF σ b) else 0)
def stH (σ : AH) (b : Nat) : AH := s2 σ (fun a j => if a = 67 ∧ j = b then zI σ 33 43 else if a = 62 ∧ j = b then stS σ b else zI σ a j) (fun a c => if a = 69 ∨ a = 70 then zJ σ a c + sdG σ b c else zJ σ a c)
theorem mv_eq {σ : AH} {x y b : Nat} {m : Int64} {u v : Int32} : uI (uI (mvH σ x y m) 62 b u) 67 b v = s2 σ (fun a j => if a = 67 ∧ j = b then v else if a = 62 ∧ j = b then u else zI σ a j) (fun a c => if a = 69 ∨ a = 70 then zJ σ a c + ((if c = y then m else 0) - (if c = x then m else 0)) else zJ σ a c) := by
  rw [mvH]
  simp only [uI_s2]
  refine s2_cg (fun _ _ => rfl) (fun a c => ?_)
  unfold mvG
  split
  · grind
  · rfl
def udS (σ : AH) (b : Nat) : Int32 := if zI σ 62 b = 1 then 0 else 2
def udG (σ : AH) (b c : Nat) : Int64 :=
  if zI σ 62 b = 1 then (if c = ix (zI σ 64 b) then Int32.toInt64 (zI σ 63 b) else 0) - (if c = ix (zI σ 65 b) then Int32.toInt64 (zI σ 63 b) else 0)
  else (if c = ix (zI σ 65 b) then Int32.toInt64 (bkF σ b) else 0) - (if c = ix (zI σ 64 b) then Int32.toInt64 (bkF σ b) else 0)
def udH (σ : AH) (b : Nat) : AH := s2 σ (fun a j => if a = 67 ∧ j = b then 0 else if a = 62 ∧ j = b then udS σ b else zI σ a j) (fun a c => if a = 69 ∨ a = 70 then zJ σ a c + udG σ b c else zJ σ a c)