/-! ===== the class: what is told ===== -/
set_option maxRecDepth 100000 in
set_option maxHeartbeats 4000000 in
theorem b_X6_put_0 {g : GP} {CX : State → Array Value → Prop} {Q : AH → Option Value → Prop} {X : AH → String → Prop} {v0 : Nat} {v1 : Int32} {v2 : Int32} {v3 : Int32} {σ : AH}
    (hS : Sh σ)
    (o1 : v0 = 4 ∨ v0 = 10)
    (o2 : v0 ≠ 0)
    (o3 : zK σ v0 = 6)
    (k1 : (¬ (isPl v1)) → Q σ (some (.int (prG σ v0 v1 v2))))
    (k2 : (isPl v1) → (¬ (isPl v2)) → Q σ (some (.int (prG σ v0 v1 v2))))
    (o4 : zR σ v0 0 ≠ 0)
    (o5 : zK σ (zR σ v0 0) = 20)
    (o6 : (isPl v1) → (isPl v2) → vp_in ((v1 * (10 : Int32)) + v2) (zL σ (zR σ v0 0)))
    (o7 : (isPl v1) → (isPl v2) → vp_in ((v2 * (10 : Int32)) + v1) (zL σ (zR σ v0 0)))
    (k3 : (isPl v1) → (isPl v2) → Q (uI (uI σ (zR σ v0 0) (Int32.toNatClampNeg ((v1 * (10 : Int32)) + v2)) v3) (zR σ v0 0) (Int32.toNatClampNeg ((v2 * (10 : Int32)) + v1)) v3) (some (.int (prG σ v0 v1 v2)))) :
    V g mX6_put (Em g mX6_put Q X) CX 0 0 0 [(0, .ref v0), (1, .int v1), (2, .int v2), (3, .int v3)] [] σ := by
  refine V_aload_n dX6_put_0 rfl ?_
  refine V_iload_n dX6_put_1 rfl ?_
  refine V_iload_n dX6_put_2 rfl ?_
  refine V_callV1 (as := [.int v1, .int v2]) (k' := 0) (n' := 0) (s_X6_get hS o1) mw_X6_get ko_X6 rfl w_347 w_348 w_346 ar_X6_get rfl ⟨rfl, rfl, rfl, rfl, rfl⟩ dX6_put_3 o2 o3 ?_
  refine V_istore [(0, .ref v0), (1, .int v1), (2, .int v2), (3, .int v3), (4, .int (prG σ v0 v1 v2))] dX6_put_6 rfl rfl ?_
  refine V_iload_n dX6_put_8 rfl ?_
  refine V_callSN1 (as := [.int v1]) (k' := 0) (n' := 0) (s_X11_isPlace) mw_X11_isPlace w_253 wn_350 ar_X11_isPlace rfl ⟨rfl, rfl, rfl, rfl, rfl⟩ dX6_put_9 ?_
  refine V_if_eq 46 dX6_put_12 rfl (fun c1 => ?_) (fun c1 => ?_)
  · replace c1 := jb_0.mp c1
    refine V_iload dX6_put_46 rfl ?_
    exact V_iret rfl dX6_put_48 (k1 c1)
  · replace c1 := jb_n.mp c1
    refine V_iload_n dX6_put_15 rfl ?_
    refine V_callSN1 (as := [.int v2]) (k' := 0) (n' := 0) (s_X11_isPlace) mw_X11_isPlace w_253 wn_350 ar_X11_isPlace rfl ⟨rfl, rfl, rfl, rfl, rfl⟩ dX6_put_16 ?_
    refine V_if_eq 46 dX6_put_19 rfl (fun c2 => ?_) (fun c2 => ?_)
    · replace c2 := jb_0.mp c2
      refine V_iload dX6_put_46 rfl ?_
      exact V_iret rfl dX6_put_48 (k2 c1 c2)
    · replace c2 := jb_n.mp c2
      refine V_aload_n dX6_put_22 rfl ?_
      refine V_getf (fk := 0) (Value.ref (zR σ v0 0)) ko_X6 rfl w_60 dX6_put_23 o2 o3 rfl ?_
      refine V_iload_n dX6_put_26 rfl ?_
      refine V_bipush (10 : Int32) dX6_put_27 (by decide) ?_
      refine V_imul dX6_put_29 ?_
      refine V_iload_n dX6_put_30 rfl ?_
      refine V_iadd dX6_put_31 ?_
      refine V_iload_n dX6_put_32 rfl ?_
      refine V_iast dX6_put_33 o4 o5 (o6 c1 c2) ?_
      refine V_aload_n dX6_put_34 rfl ?_
      refine V_getf (fk := 0) (Value.ref (zR σ v0 0)) ko_X6 rfl w_60 dX6_put_35 o2 o3 rfl ?_
      refine V_iload_n dX6_put_38 rfl ?_
      refine V_bipush (10 : Int32) dX6_put_39 (by decide) ?_
      refine V_imul dX6_put_41 ?_
      refine V_iload_n dX6_put_42 rfl ?_
      refine V_iadd dX6_put_43 ?_
      refine V_iload_n dX6_put_44 rfl ?_
      refine V_iast dX6_put_45 o4 o5 (o7 c1 c2) ?_
      refine V_iload dX6_put_46 rfl ?_
      exact V_iret rfl dX6_put_48 (k3 c1 c2)

set_option maxRecDepth 100000 in
set_option maxHeartbeats 4000000 in
theorem b_X8_putTaxes_0 {g : GP} {CX : State → Array Value → Prop} {Q : AH → Option Value → Prop} {X : AH → String → Prop} {v1 : Int32} {v2 : Int32} {v3 : Int32} {σ : AH}
    (hS : Sh σ)
    (k1 : (¬ (isPl v1)) → Q σ none)
    (o1 : (isPl v1) → vp_in v1 10)
    (k2 : (isPl v1) → Q (uI (uI σ 7 (Int32.toNatClampNeg v1) v2) 8 (Int32.toNatClampNeg v1) v3) none) :
    V g mX8_putTaxes (Em g mX8_putTaxes Q X) CX 0 0 0 [(0, .ref 3), (1, .int v1), (2, .int v2), (3, .int v3)] [] σ := by
  refine V_iload_n dX8_putTaxes_0 rfl ?_
  refine V_callSN1 (as := [.int v1]) (k' := 0) (n' := 0) (s_X11_isPlace) mw_X11_isPlace w_253 wn_531 ar_X11_isPlace rfl ⟨rfl, rfl, rfl, rfl, rfl⟩ dX8_putTaxes_1 ?_
  refine V_if_eq 21 dX8_putTaxes_4 rfl (fun c1 => ?_) (fun c1 => ?_)
  · replace c1 := jb_0.mp c1
    exact V_vret rfl dX8_putTaxes_21 (k1 c1)
  · replace c1 := jb_n.mp c1
    refine V_aload_n dX8_putTaxes_7 rfl ?_
    refine V_getf (fk := 2) (Value.ref 7) ko_X8 rfl w_71 dX8_putTaxes_8 (by decide) (shk hS 3 rfl) (congrArg Value.ref (shr hS 3 2 7 (by decide))) ?_
    refine V_iload_n dX8_putTaxes_11 rfl ?_
    refine V_iload_n dX8_putTaxes_12 rfl ?_
    refine V_iast dX8_putTaxes_13 (by decide) (shk hS 7 rfl) (vp_l (n := 10) (shl hS 7 rfl) (o1 c1)) ?_
    refine V_aload_n dX8_putTaxes_14 rfl ?_
    refine V_getf (fk := 3) (Value.ref 8) ko_X8 rfl w_72 dX8_putTaxes_15 (by decide) (shk (Sh_uI hS) 3 rfl) (congrArg Value.ref (shr (Sh_uI hS) 3 3 8 (by decide))) ?_
    refine V_iload_n dX8_putTaxes_18 rfl ?_
    refine V_iload_n dX8_putTaxes_19 rfl ?_
    refine V_iast dX8_putTaxes_20 (by decide) (shk (Sh_uI hS) 8 rfl) (vp_l (n := 10) (shl (Sh_uI hS) 8 rfl) (o1 c1)) ?_
    exact V_vret rfl dX8_putTaxes_21 (k2 c1)

set_option maxRecDepth 100000 in
set_option maxHeartbeats 4000000 in
theorem b_X7_provisoOf_0 {g : GP} {CX : State → Array Value → Prop} {Q : AH → Option Value → Prop} {X : AH → String → Prop} {v1 : Int32} {v2 : Int32} {v3 : Int32} {σ : AH}
    (hS : Sh σ)
    (k1 : (¬ (isCa v1)) → Q σ (some (.int (-1 : Int32))))
    (k2 : (isCa v1) → (¬ (isPl v2)) → Q σ (some (.int (-1 : Int32))))
    (o1 : (isCa v1) → (isPl v2) → (isPl v3) → vp_in ((((v1 * (10 : Int32)) + v2) * (10 : Int32)) + v3) 500)
    (k3 : (isCa v1) → (isPl v2) → (isPl v3) → Q σ (some (.int (zI σ 12 (Int32.toNatClampNeg ((((v1 * (10 : Int32)) + v2) * (10 : Int32)) + v3))))))
    (k4 : (isCa v1) → (isPl v2) → (¬ (isPl v3)) → Q σ (some (.int (-1 : Int32)))) :
    V g mX7_provisoOf (Em g mX7_provisoOf Q X) CX 0 0 0 [(0, .ref 9), (1, .int v1), (2, .int v2), (3, .int v3)] [] σ := by
  refine V_iload_n dX7_provisoOf_0 rfl ?_
  refine V_callSN1 (as := [.int v1]) (k' := 0) (n' := 0) (s_X11_isCarrier) mw_X11_isCarrier w_364 wn_557 ar_X11_isCarrier rfl ⟨rfl, rfl, rfl, rfl, rfl⟩ dX7_provisoOf_1 ?_
  refine V_if_eq 21 dX7_provisoOf_4 rfl (fun c1 => ?_) (fun c1 => ?_)
  · replace c1 := jb_0.mp c1
    refine V_iconst (-1 : Int32) dX7_provisoOf_21 (by decide) ?_
    exact V_iret rfl dX7_provisoOf_22 (k1 c1)
  · replace c1 := jb_n.mp c1
    refine V_iload_n dX7_provisoOf_7 rfl ?_
    refine V_callSN1 (as := [.int v2]) (k' := 0) (n' := 0) (s_X11_isPlace) mw_X11_isPlace w_253 wn_558 ar_X11_isPlace rfl ⟨rfl, rfl, rfl, rfl, rfl⟩ dX7_provisoOf_8 ?_
    refine V_if_eq 21 dX7_provisoOf_11 rfl (fun c2 => ?_) (fun c2 => ?_)
    · replace c2 := jb_0.mp c2
      refine V_iconst (-1 : Int32) dX7_provisoOf_21 (by decide) ?_
      exact V_iret rfl dX7_provisoOf_22 (k2 c1 c2)
    · replace c2 := jb_n.mp c2
      refine V_iload_n dX7_provisoOf_14 rfl ?_
      refine V_callSN1 (as := [.int v3]) (k' := 0) (n' := 0) (s_X11_isPlace) mw_X11_isPlace w_253 wn_558 ar_X11_isPlace rfl ⟨rfl, rfl, rfl, rfl, rfl⟩ dX7_provisoOf_15 ?_
      refine V_if_ne 23 dX7_provisoOf_18 rfl (fun c3 => ?_) (fun c3 => ?_)
      · replace c3 := jb_n.mp c3
        refine V_aload_n dX7_provisoOf_23 rfl ?_
        refine V_getf (fk := 1) (Value.ref 12) ko_X7 rfl w_104 dX7_provisoOf_24 (by decide) (shk hS 9 rfl) (congrArg Value.ref (shr hS 9 1 12 (by decide))) ?_
        refine V_iload_n dX7_provisoOf_27 rfl ?_
        refine V_bipush (10 : Int32) dX7_provisoOf_28 (by decide) ?_
        refine V_imul dX7_provisoOf_30 ?_
        refine V_iload_n dX7_provisoOf_31 rfl ?_
        refine V_iadd dX7_provisoOf_32 ?_
        refine V_bipush (10 : Int32) dX7_provisoOf_33 (by decide) ?_
        refine V_imul dX7_provisoOf_35 ?_
        refine V_iload_n dX7_provisoOf_36 rfl ?_
        refine V_iadd dX7_provisoOf_37 ?_
        refine V_iald dX7_provisoOf_38 (by decide) (shk hS 12 rfl) (vp_l (n := 500) (shl hS 12 rfl) (o1 c1 c2 c3)) ?_
        exact V_iret rfl dX7_provisoOf_39 (k3 c1 c2 c3)
      · replace c3 := jb_0.mp c3
        refine V_iconst (-1 : Int32) dX7_provisoOf_21 (by decide) ?_
        exact V_iret rfl dX7_provisoOf_22 (k4 c1 c2 c3)

/-- a pair's number put anew -/
abbrev puH (σ : AH) (a : Nat) (x y z : Int32) : AH := uI (uI σ a (p2 x y) z) a (p2 y x) z
theorem s_X6_put {g : GP} {σ : AH} {p : Nat} {x y z : Int32} (hS : Sh σ) (hp : p = 4 ∨ p = 10) (hx : isPl x) (hy : isPl y) : Ct g mX6_put [.ref p, .int x, .int y, .int z] σ (FQ (puH σ (p + 1) x y z) (some (.int (zI σ (p + 1) (p2 x y))))) := by
  have h1 : p ≠ 0 ∧ zK σ p = 6 ∧ zR σ p 0 = p + 1 ∧ zK σ (p + 1) = 20 ∧ zL σ (p + 1) = 100 := by
    rcases hp with rfl | rfl
    · exact ⟨by decide, shk hS 4 rfl, shr hS 4 0 5 (by decide), shk hS 5 rfl, shl hS 5 rfl⟩
    · exact ⟨by decide, shk hS 10 rfl, shr hS 10 0 11 (by decide), shk hS 11 rfl, shl hS 11 rfl⟩
  obtain ⟨a1, a2, a3, a4, a5⟩ := h1
  obtain ⟨m1, m2, m3⟩ := vp_mul (isPl_vp hx) (isPl_vp hy)
  obtain ⟨n1, n2, n3⟩ := vp_mul (isPl_vp hy) (isPl_vp hx)
  refine Ct_of (by decide +kernel) rfl rfl (b_X6_put_0 hS hp a1 a2 (fun c => absurd hx c) (fun _ c => absurd hy c) (by rw [a3]; omega) (by rw [a3]; exact a4) (fun _ _ => by rw [a3, a5, m3]; exact m1) (fun _ _ => by rw [a3, a5, n3]; exact n1) (fun _ _ => ?_))
  rw [a3, m3, n3, prG, if_pos ⟨hx, hy⟩, m3]
  exact fq
theorem s_X8_putTaxes {g : GP} {σ : AH} {x y z : Int32} (hS : Sh σ) (hx : isPl x) : Ct g mX8_putTaxes [.ref 3, .int x, .int y, .int z] σ (FQ (uI (uI σ 7 (ix x) y) 8 (ix x) z) none) :=
  Ct_of (by decide +kernel) rfl rfl (b_X8_putTaxes_0 hS (fun c => absurd hx c) (fun _ => isPl_vp hx) (fun _ => fq))
/-- a proviso as the class knows it -/
def pvG (σ : AH) (c x y : Int32) : Int32 := if isCa c ∧ isPl x ∧ isPl y then zI σ 12 (p3 c x y) else -1
theorem s_X7_provisoOf {g : GP} {σ : AH} {c x y : Int32} (hS : Sh σ) : Ct g mX7_provisoOf [.ref 9, .int c, .int x, .int y] σ (FQ σ (some (.int (pvG σ c x y)))) := by
  refine Ct_of (by decide +kernel) rfl rfl (b_X7_provisoOf_0 hS (fun q => fq_i ?_) (fun _ q => fq_i ?_) (fun q1 q2 q3 => ?_) (fun q1 q2 q3 => fq_i ?_) (fun _ _ q => fq_i ?_))
  · rw [pvG, if_neg (fun z => q z.1)]
  · rw [pvG, if_neg (fun z => q z.2.1)]
  · rw [(vp_mul3 (isCa_vp q1) (isPl_vp q2) (isPl_vp q3)).2.2]; exact (vp_mul3 (isCa_vp q1) (isPl_vp q2) (isPl_vp q3)).1
  · rw [pvG, if_pos ⟨q1, q2, q3⟩, (vp_mul3 (isCa_vp q1) (isPl_vp q2) (isPl_vp q3)).2.2]
  · rw [pvG, if_neg (fun z => q z.2.2)]
set_option maxRecDepth 100000 in
set_option maxHeartbeats 4000000 in
theorem b_X7_putProviso_0 {g : GP} {CX : State → Array Value → Prop} {Q : AH → Option Value → Prop} {X : AH → String → Prop} {v1 : Int32} {v2 : Int32} {v3 : Int32} {v4 : Int32} {σ : AH}
    (hS : Sh σ)
    (k1 : (¬ (isCa v1)) → Q σ (some (.int (pvG σ v1 v2 v3))))
    (k2 : (isCa v1) → (¬ (isPl v2)) → Q σ (some (.int (pvG σ v1 v2 v3))))
    (k3 : (isCa v1) → (isPl v2) → (¬ (isPl v3)) → Q σ (some (.int (pvG σ v1 v2 v3))))
    (o1 : (isCa v1) → (isPl v2) → (isPl v3) → vp_in ((((v1 * (10 : Int32)) + v2) * (10 : Int32)) + v3) 500)
    (k4 : (isCa v1) → (isPl v2) → (isPl v3) → Q (uI σ 12 (Int32.toNatClampNeg ((((v1 * (10 : Int32)) + v2) * (10 : Int32)) + v3)) v4) (some (.int (pvG σ v1 v2 v3)))) :
    V g mX7_putProviso (Em g mX7_putProviso Q X) CX 0 0 0 [(0, .ref 9), (1, .int v1), (2, .int v2), (3, .int v3), (4, .int v4)] [] σ := by
  refine V_aload_n dX7_putProviso_0 rfl ?_
  refine V_iload_n dX7_putProviso_1 rfl ?_
  refine V_iload_n dX7_putProviso_2 rfl ?_
  refine V_iload_n dX7_putProviso_3 rfl ?_
  refine V_callV1 (as := [.int v1, .int v2, .int v3]) (k' := 0) (n' := 0) (s_X7_provisoOf hS) mw_X7_provisoOf ko_X7 rfl w_555 w_2 w_553 ar_X7_provisoOf rfl ⟨rfl, rfl, rfl, rfl, rfl⟩ dX7_putProviso_4 (by decide) (shk hS 9 rfl) ?_
  refine V_istore [(0, .ref 9), (1, .int v1), (2, .int v2), (3, .int v3), (4, .int v4), (5, .int (pvG σ v1 v2 v3))] dX7_putProviso_7 rfl rfl ?_
  refine V_iload_n dX7_putProviso_9 rfl ?_
  refine V_callSN1 (as := [.int v1]) (k' := 0) (n' := 0) (s_X11_isCarrier) mw_X11_isCarrier w_364 wn_557 ar_X11_isCarrier rfl ⟨rfl, rfl, rfl, rfl, rfl⟩ dX7_putProviso_10 ?_
  refine V_if_eq 48 dX7_putProviso_13 rfl (fun c1 => ?_) (fun c1 => ?_)
  · replace c1 := jb_0.mp c1
    refine V_iload dX7_putProviso_48 rfl ?_
    exact V_iret rfl dX7_putProviso_50 (k1 c1)
  · replace c1 := jb_n.mp c1
    refine V_iload_n dX7_putProviso_16 rfl ?_
    refine V_callSN1 (as := [.int v2]) (k' := 0) (n' := 0) (s_X11_isPlace) mw_X11_isPlace w_253 wn_558 ar_X11_isPlace rfl ⟨rfl, rfl, rfl, rfl, rfl⟩ dX7_putProviso_17 ?_
    refine V_if_eq 48 dX7_putProviso_20 rfl (fun c2 => ?_) (fun c2 => ?_)
    · replace c2 := jb_0.mp c2
      refine V_iload dX7_putProviso_48 rfl ?_
      exact V_iret rfl dX7_putProviso_50 (k2 c1 c2)
    · replace c2 := jb_n.mp c2
      refine V_iload_n dX7_putProviso_23 rfl ?_
      refine V_callSN1 (as := [.int v3]) (k' := 0) (n' := 0) (s_X11_isPlace) mw_X11_isPlace w_253 wn_558 ar_X11_isPlace rfl ⟨rfl, rfl, rfl, rfl, rfl⟩ dX7_putProviso_24 ?_
      refine V_if_eq 48 dX7_putProviso_27 rfl (fun c3 => ?_) (fun c3 => ?_)
      · replace c3 := jb_0.mp c3
        refine V_iload dX7_putProviso_48 rfl ?_
        exact V_iret rfl dX7_putProviso_50 (k3 c1 c2 c3)
      · replace c3 := jb_n.mp c3
        refine V_aload_n dX7_putProviso_30 rfl ?_
        refine V_getf (fk := 1) (Value.ref 12) ko_X7 rfl w_104 dX7_putProviso_31 (by decide) (shk hS 9 rfl) (congrArg Value.ref (shr hS 9 1 12 (by decide))) ?_
        refine V_iload_n dX7_putProviso_34 rfl ?_
        refine V_bipush (10 : Int32) dX7_putProviso_35 (by decide) ?_
        refine V_imul dX7_putProviso_37 ?_
        refine V_iload_n dX7_putProviso_38 rfl ?_
        refine V_iadd dX7_putProviso_39 ?_
        refine V_bipush (10 : Int32) dX7_putProviso_40 (by decide) ?_
        refine V_imul dX7_putProviso_42 ?_
        refine V_iload_n dX7_putProviso_43 rfl ?_
        refine V_iadd dX7_putProviso_44 ?_
        refine V_iload dX7_putProviso_45 rfl ?_
        refine V_iast dX7_putProviso_47 (by decide) (shk hS 12 rfl) (vp_l (n := 500) (shl hS 12 rfl) (o1 c1 c2 c3)) ?_
        refine V_iload dX7_putProviso_48 rfl ?_
        exact V_iret rfl dX7_putProviso_50 (k4 c1 c2 c3)

theorem s_X7_putProviso {g : GP} {σ : AH} {c x y z : Int32} (hS : Sh σ) (hc : isCa c) (hx : isPl x) (hy : isPl y) : Ct g mX7_putProviso [.ref 9, .int c, .int x, .int y, .int z] σ (FQ (uI σ 12 (p3 c x y) z) (some (.int (zI σ 12 (p3 c x y))))) := by
  have m := vp_mul3 (isCa_vp hc) (isPl_vp hx) (isPl_vp hy)
  refine Ct_of (by decide +kernel) rfl rfl (b_X7_putProviso_0 hS (fun q => absurd hc q) (fun _ q => absurd hx q) (fun _ _ q => absurd hy q) (fun _ _ _ => by rw [m.2.2]; exact m.1) (fun _ _ _ => ?_))
  rw [m.2.2, pvG, if_pos ⟨hc, hx, hy⟩]
  exact fq
