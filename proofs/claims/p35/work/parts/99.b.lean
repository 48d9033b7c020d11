/-! ===== constructors: the house ===== -/
theorem pairsH_N {σ : AH} {a : Nat} : zN (pairsH σ a) = zN σ + 1 := by
  simp only [pairsH, zN_uI, zN_uR, zN_nw] <;> omega
theorem trfH_N {σ : AH} {a : Nat} : zN (trfH σ a) = zN σ + 5 := by
  simp only [trfH, pairsH, zN_uI, zN_uR, zN_nw] <;> omega
theorem waysH_N {σ : AH} {a : Nat} : zN (waysH σ a) = zN σ + 3 := by
  simp only [waysH, pairsH, zN_uI, zN_uR, zN_nw] <;> omega
theorem clrH_N {σ : AH} {a : Nat} : zN (clrH σ a) = zN σ + 2 := by
  simp only [clrH, pairsH, zN_uI, zN_uR, zN_nw] <;> omega
theorem prF_N {σ : AH} {a d : Nat} : zN (prF σ a d) = zN σ + 3 := by
  rw [prF_4.1, prB, zN_uR, zN_nw, zN_uR, pairsH_N, zN_nw]
theorem lgH_N {σ : AH} {a : Nat} : ∀ {d : Nat}, zN (lgH σ a d) = zN σ + 1 + d
  | 0 => rfl
  | d + 1 => by rw [lgH, zN_uR, zN_nw, lgH_N]; omega
set_option maxRecDepth 100000 in
set_option maxHeartbeats 4000000 in
theorem b_X11_init_0 {g : GP} {CX : State → Array Value → Prop} {Q : AH → Option Value → Prop} {X : AH → String → Prop} {v0 : Nat} {σ : AH}
    (o1 : v0 ≠ 0)
    (o2 : (zN σ + 1) ≠ 0)
    (o3 : zK (nw σ 8 7) (zN σ + 1) = 8)
    (o4 : (zN σ + 1) ≤ zN (nw σ 8 7))
    (o5 : zK σ v0 = 11)
    (o6 : v0 ≤ zN σ)
    (o7 : (zN σ + 7) ≠ 0)
    (o8 : zK (nw (uR (trfH (nw σ 8 7) (zN σ + 1)) v0 0 (zN σ + 1)) 7 2) (zN σ + 7) = 7)
    (o9 : (zN σ + 7) ≤ zN (nw (uR (trfH (nw σ 8 7) (zN σ + 1)) v0 0 (zN σ + 1)) 7 2))
    (o10 : (zN σ + 11) ≠ 0)
    (o11 : zK (nw (uR (prF (nw (uR (trfH (nw σ 8 7) (zN σ + 1)) v0 0 (zN σ + 1)) 7 2) (zN σ + 7) 500) v0 1 (zN σ + 7)) 4 2) (zN σ + 11) = 4)
    (o12 : (zN σ + 11) ≤ zN (nw (uR (prF (nw (uR (trfH (nw σ 8 7) (zN σ + 1)) v0 0 (zN σ + 1)) 7 2) (zN σ + 7) 500) v0 1 (zN σ + 7)) 4 2))
    (o13 : (zN σ + 21) ≠ 0)
    (o14 : zK (nw (uR (lgH (nw (uR (prF (nw (uR (trfH (nw σ 8 7) (zN σ + 1)) v0 0 (zN σ + 1)) 7 2) (zN σ + 7) 500) v0 1 (zN σ + 7)) 4 2) (zN σ + 11) 8) v0 2 (zN σ + 11)) 10 5) (zN σ + 21) = 10)
    (o15 : (zN σ + 21) ≤ zN (nw (uR (lgH (nw (uR (prF (nw (uR (trfH (nw σ 8 7) (zN σ + 1)) v0 0 (zN σ + 1)) 7 2) (zN σ + 7) 500) v0 1 (zN σ + 7)) 4 2) (zN σ + 11) 8) v0 2 (zN σ + 11)) 10 5))
    (o16 : (zN σ + 25) ≠ 0)
    (o17 : zK (nw (uR (waysH (nw (uR (lgH (nw (uR (prF (nw (uR (trfH (nw σ 8 7) (zN σ + 1)) v0 0 (zN σ + 1)) 7 2) (zN σ + 7) 500) v0 1 (zN σ + 7)) 4 2) (zN σ + 11) 8) v0 2 (zN σ + 11)) 10 5) (zN σ + 21)) v0 3 (zN σ + 21)) 1 5) (zN σ + 25) = 1)
    (o18 : (zN σ + 25) ≤ zN (nw (uR (waysH (nw (uR (lgH (nw (uR (prF (nw (uR (trfH (nw σ 8 7) (zN σ + 1)) v0 0 (zN σ + 1)) 7 2) (zN σ + 7) 500) v0 1 (zN σ + 7)) 4 2) (zN σ + 11) 8) v0 2 (zN σ + 11)) 10 5) (zN σ + 21)) v0 3 (zN σ + 21)) 1 5))
    (k1 : Q (uR (nw (uR (nw (uR (nw (uR (clrH (nw (uR (waysH (nw (uR (lgH (nw (uR (prF (nw (uR (trfH (nw σ 8 7) (zN σ + 1)) v0 0 (zN σ + 1)) 7 2) (zN σ + 7) 500) v0 1 (zN σ + 7)) 4 2) (zN σ + 11) 8) v0 2 (zN σ + 11)) 10 5) (zN σ + 21)) v0 3 (zN σ + 21)) 1 5) (zN σ + 25)) v0 4 (zN σ + 25)) 39 30) v0 5 (zN σ + 28)) 21 5) v0 6 (zN σ + 29)) 21 10) v0 7 (zN σ + 30)) none) :
    V g mX11_init (Em g mX11_init Q X) CX 30 1212 0 [(0, .ref v0)] [] σ := by
  refine V_aload_n dX11_init_0 rfl ?_
  refine V_objinit w_45 w_46 w_47 dX11_init_1 o1 rfl rfl ?_
  refine V_aload_n dX11_init_4 rfl ?_
  refine V_new (k' := 29) (n' := 1205) ko_X8 kd_X8 w_48 w_49 w_22 dX11_init_5 rfl rfl ?_
  refine V_dup dX11_init_8 rfl ?_
  refine V_callIN0 (as := []) (k' := 24) (n' := 1044) (s_X8_init o2 o3 o4) mw_X8_init rfl rfl w_51 wn_50 ar_X8_init rfl ⟨rfl, rfl, rfl, rfl, rfl⟩ dX11_init_9 (Nat.succ_ne_zero _) ?_
  refine V_putr (fk := 0) ko_X11 rfl w_204 (Or.inr ⟨rfl, rfl, rfl⟩) dX11_init_12 rfl o1 (KN_trfH (KN_nw ⟨o5, o6⟩)).1 ?_
  refine V_aload_n dX11_init_15 rfl ?_
  refine V_new (k' := 23) (n' := 1042) ko_X7 kd_X7 w_94 w_95 w_24 dX11_init_16 rfl rfl ?_
  refine V_cast (st' := [.ref (zN σ + 7), .ref v0]) rfl (congrArg (fun q_ : Nat => ([Value.ref q_, .ref v0] : List Value)) (show zN (uR (trfH (nw σ 8 7) (zN σ + 1)) v0 0 (zN σ + 1)) + 1 = zN σ + 7 from by rw [zN_uR, trfH_N, zN_nw])) rfl ?_
  refine V_dup dX11_init_19 rfl ?_
  refine V_callI0 (as := []) (k' := 20) (n' := 441) (s_X7_init o7 o8 o9) mw_X7_init rfl rfl w_97 w_96 ar_X7_init rfl ⟨rfl, rfl, rfl, rfl, rfl⟩ dX11_init_20 (Nat.succ_ne_zero _) ?_
  refine V_putr (fk := 1) ko_X11 rfl w_205 (Or.inr ⟨rfl, rfl, rfl⟩) dX11_init_23 rfl o1 (KN_prF (KN_nw (KN_uR (KN_trfH (KN_nw ⟨o5, o6⟩))))).1 ?_
  refine V_aload_n dX11_init_26 rfl ?_
  refine V_new (k' := 19) (n' := 439) ko_X4 kd_X4 w_110 w_111 w_25 dX11_init_27 rfl rfl ?_
  refine V_cast (st' := [.ref (zN σ + 11), .ref v0]) rfl (congrArg (fun q_ : Nat => ([Value.ref q_, .ref v0] : List Value)) (show zN (uR (prF (nw (uR (trfH (nw σ 8 7) (zN σ + 1)) v0 0 (zN σ + 1)) 7 2) (zN σ + 7) 500) v0 1 (zN σ + 7)) + 1 = zN σ + 11 from by rw [zN_uR, prF_N, zN_nw, zN_uR, trfH_N, zN_nw])) rfl ?_
  refine V_dup dX11_init_30 rfl ?_
  refine V_callI0 (as := []) (k' := 10) (n' := 399) (s_X4_init o10 o11 o12) mw_X4_init rfl rfl w_113 w_112 ar_X4_init rfl ⟨rfl, rfl, rfl, rfl, rfl⟩ dX11_init_31 (Nat.succ_ne_zero _) ?_
  refine V_putr (fk := 2) ko_X11 rfl w_206 (Or.inr ⟨rfl, rfl, rfl⟩) dX11_init_34 rfl o1 (KN_lgH (KN_nw (KN_uR (KN_prF (KN_nw (KN_uR (KN_trfH (KN_nw ⟨o5, o6⟩)))))))).1 ?_
  refine V_aload_n dX11_init_37 rfl ?_
  refine V_new (k' := 9) (n' := 394) ko_X10 kd_X10 w_150 w_151 w_27 dX11_init_38 rfl rfl ?_
  refine V_cast (st' := [.ref (zN σ + 21), .ref v0]) rfl (congrArg (fun q_ : Nat => ([Value.ref q_, .ref v0] : List Value)) (show zN (uR (lgH (nw (uR (prF (nw (uR (trfH (nw σ 8 7) (zN σ + 1)) v0 0 (zN σ + 1)) 7 2) (zN σ + 7) 500) v0 1 (zN σ + 7)) 4 2) (zN σ + 11) 8) v0 2 (zN σ + 11)) + 1 = zN σ + 21 from by rw [zN_uR, lgH_N, zN_nw, zN_uR, prF_N, zN_nw, zN_uR, trfH_N, zN_nw])) rfl ?_
  refine V_dup dX11_init_41 rfl ?_
  refine V_callIN0 (as := []) (k' := 6) (n' := 295) (s_X10_init o13 o14 o15) mw_X10_init rfl rfl w_153 wn_152 ar_X10_init rfl ⟨rfl, rfl, rfl, rfl, rfl⟩ dX11_init_42 (Nat.succ_ne_zero _) ?_
  refine V_putr (fk := 3) ko_X11 rfl w_207 (Or.inr ⟨rfl, rfl, rfl⟩) dX11_init_45 rfl o1 (KN_waysH (KN_nw (KN_uR (KN_lgH (KN_nw (KN_uR (KN_prF (KN_nw (KN_uR (KN_trfH (KN_nw ⟨o5, o6⟩))))))))))).1 ?_
  refine V_aload_n dX11_init_48 rfl ?_
  refine V_new (k' := 5) (n' := 290) ko_X1 kd_X1 w_174 w_175 w_28 dX11_init_49 rfl rfl ?_
  refine V_cast (st' := [.ref (zN σ + 25), .ref v0]) rfl (congrArg (fun q_ : Nat => ([Value.ref q_, .ref v0] : List Value)) (show zN (uR (waysH (nw (uR (lgH (nw (uR (prF (nw (uR (trfH (nw σ 8 7) (zN σ + 1)) v0 0 (zN σ + 1)) 7 2) (zN σ + 7) 500) v0 1 (zN σ + 7)) 4 2) (zN σ + 11) 8) v0 2 (zN σ + 11)) 10 5) (zN σ + 21)) v0 3 (zN σ + 21)) + 1 = zN σ + 25 from by rw [zN_uR, waysH_N, zN_nw, zN_uR, lgH_N, zN_nw, zN_uR, prF_N, zN_nw, zN_uR, trfH_N, zN_nw])) rfl ?_
  refine V_dup dX11_init_52 rfl ?_
  refine V_callIN0 (as := []) (k' := 3) (n' := 45) (s_X1_init o16 o17 o18) mw_X1_init rfl rfl w_177 wn_176 ar_X1_init rfl ⟨rfl, rfl, rfl, rfl, rfl⟩ dX11_init_53 (Nat.succ_ne_zero _) ?_
  refine V_putr (fk := 4) ko_X11 rfl w_208 (Or.inr ⟨rfl, rfl, rfl⟩) dX11_init_56 rfl o1 (KN_clrH (KN_nw (KN_uR (KN_waysH (KN_nw (KN_uR (KN_lgH (KN_nw (KN_uR (KN_prF (KN_nw (KN_uR (KN_trfH (KN_nw ⟨o5, o6⟩)))))))))))))).1 ?_
  refine V_aload_n dX11_init_59 rfl ?_
  refine V_bipush (30 : Int32) dX11_init_60 (by decide) ?_
  refine V_newq (len := 30) (k' := 2) (n' := 15) ao_39 (by decide +kernel) w_202 dX11_init_62 (by decide) (by decide) rfl rfl rfl ?_
  refine V_cast (st' := [.ref (zN σ + 28), .ref v0]) rfl (congrArg (fun q_ : Nat => ([Value.ref q_, .ref v0] : List Value)) (show zN (uR (clrH (nw (uR (waysH (nw (uR (lgH (nw (uR (prF (nw (uR (trfH (nw σ 8 7) (zN σ + 1)) v0 0 (zN σ + 1)) 7 2) (zN σ + 7) 500) v0 1 (zN σ + 7)) 4 2) (zN σ + 11) 8) v0 2 (zN σ + 11)) 10 5) (zN σ + 21)) v0 3 (zN σ + 21)) 1 5) (zN σ + 25)) v0 4 (zN σ + 25)) + 1 = zN σ + 28 from by rw [zN_uR, clrH_N, zN_nw, zN_uR, waysH_N, zN_nw, zN_uR, lgH_N, zN_nw, zN_uR, prF_N, zN_nw, zN_uR, trfH_N, zN_nw])) rfl ?_
  refine V_putr (fk := 5) ko_X11 rfl w_209 (Or.inr ⟨rfl, rfl, rfl⟩) dX11_init_65 rfl o1 (KN_nw (KN_uR (KN_clrH (KN_nw (KN_uR (KN_waysH (KN_nw (KN_uR (KN_lgH (KN_nw (KN_uR (KN_prF (KN_nw (KN_uR (KN_trfH (KN_nw ⟨o5, o6⟩)))))))))))))))).1 ?_
  refine V_aload_n dX11_init_68 rfl ?_
  refine V_iconst (5 : Int32) dX11_init_69 (by decide) ?_
  refine V_newl (len := 5) (k' := 1) (n' := 10) w_201 dX11_init_70 (by decide) (by decide) rfl rfl rfl ?_
  refine V_cast (st' := [.ref (zN σ + 29), .ref v0]) rfl (congrArg (fun q_ : Nat => ([Value.ref q_, .ref v0] : List Value)) (show zN (uR (nw (uR (clrH (nw (uR (waysH (nw (uR (lgH (nw (uR (prF (nw (uR (trfH (nw σ 8 7) (zN σ + 1)) v0 0 (zN σ + 1)) 7 2) (zN σ + 7) 500) v0 1 (zN σ + 7)) 4 2) (zN σ + 11) 8) v0 2 (zN σ + 11)) 10 5) (zN σ + 21)) v0 3 (zN σ + 21)) 1 5) (zN σ + 25)) v0 4 (zN σ + 25)) 39 30) v0 5 (zN σ + 28)) + 1 = zN σ + 29 from by rw [zN_uR, zN_nw, zN_uR, clrH_N, zN_nw, zN_uR, waysH_N, zN_nw, zN_uR, lgH_N, zN_nw, zN_uR, prF_N, zN_nw, zN_uR, trfH_N, zN_nw])) rfl ?_
  refine V_putr (fk := 6) ko_X11 rfl w_210 (Or.inr ⟨rfl, rfl, rfl⟩) dX11_init_72 rfl o1 (KN_nw (KN_uR (KN_nw (KN_uR (KN_clrH (KN_nw (KN_uR (KN_waysH (KN_nw (KN_uR (KN_lgH (KN_nw (KN_uR (KN_prF (KN_nw (KN_uR (KN_trfH (KN_nw ⟨o5, o6⟩)))))))))))))))))).1 ?_
  refine V_aload_n dX11_init_75 rfl ?_
  refine V_bipush (10 : Int32) dX11_init_76 (by decide) ?_
  refine V_newl (len := 10) (k' := 0) (n' := 0) w_201 dX11_init_78 (by decide) (by decide) rfl rfl rfl ?_
  refine V_cast (st' := [.ref (zN σ + 30), .ref v0]) rfl (congrArg (fun q_ : Nat => ([Value.ref q_, .ref v0] : List Value)) (show zN (uR (nw (uR (nw (uR (clrH (nw (uR (waysH (nw (uR (lgH (nw (uR (prF (nw (uR (trfH (nw σ 8 7) (zN σ + 1)) v0 0 (zN σ + 1)) 7 2) (zN σ + 7) 500) v0 1 (zN σ + 7)) 4 2) (zN σ + 11) 8) v0 2 (zN σ + 11)) 10 5) (zN σ + 21)) v0 3 (zN σ + 21)) 1 5) (zN σ + 25)) v0 4 (zN σ + 25)) 39 30) v0 5 (zN σ + 28)) 21 5) v0 6 (zN σ + 29)) + 1 = zN σ + 30 from by rw [zN_uR, zN_nw, zN_uR, zN_nw, zN_uR, clrH_N, zN_nw, zN_uR, waysH_N, zN_nw, zN_uR, lgH_N, zN_nw, zN_uR, prF_N, zN_nw, zN_uR, trfH_N, zN_nw])) rfl ?_
  refine V_putr (fk := 7) ko_X11 rfl w_211 (Or.inr ⟨rfl, rfl, rfl⟩) dX11_init_80 rfl o1 (KN_nw (KN_uR (KN_nw (KN_uR (KN_nw (KN_uR (KN_clrH (KN_nw (KN_uR (KN_waysH (KN_nw (KN_uR (KN_lgH (KN_nw (KN_uR (KN_prF (KN_nw (KN_uR (KN_trfH (KN_nw ⟨o5, o6⟩)))))))))))))))))))).1 ?_
  exact V_vret rfl dX11_init_83 k1

def hsH (σ : AH) (a : Nat) : AH := (uR (nw (uR (nw (uR (nw (uR (clrH (nw (uR (waysH (nw (uR (lgH (nw (uR (prF (nw (uR (trfH (nw σ 8 7) (zN σ + 1)) a 0 (zN σ + 1)) 7 2) (zN σ + 7) 500) a 1 (zN σ + 7)) 4 2) (zN σ + 11) 8) a 2 (zN σ + 11)) 10 5) (zN σ + 21)) a 3 (zN σ + 21)) 1 5) (zN σ + 25)) a 4 (zN σ + 25)) 39 30) a 5 (zN σ + 28)) 21 5) a 6 (zN σ + 29)) 21 10) a 7 (zN σ + 30))
theorem s_X11_init {g : GP} {σ : AH} {a : Nat} (h0 : a ≠ 0) (h1 : zK σ a = 11) (h2 : a ≤ zN σ) : Ct g mX11_init [.ref a] σ (FQ (hsH σ a) none) := Ct_of (by decide +kernel) rfl rfl (b_X11_init_0 h0 (Nat.succ_ne_zero _) (by rw [zK_nw]; exact if_pos (by rw [])) (by rw [zN_nw]; exact Nat.le_refl _) h1 h2 (Nat.succ_ne_zero _) (by rw [zK_nw]; exact if_pos (by rw [zN_uR, trfH_N, zN_nw])) (by rw [zN_nw, zN_uR, trfH_N, zN_nw]; exact Nat.le_refl _) (Nat.succ_ne_zero _) (by rw [zK_nw]; exact if_pos (by rw [zN_uR, prF_N, zN_nw, zN_uR, trfH_N, zN_nw])) (by rw [zN_nw, zN_uR, prF_N, zN_nw, zN_uR, trfH_N, zN_nw]; exact Nat.le_refl _) (Nat.succ_ne_zero _) (by rw [zK_nw]; exact if_pos (by rw [zN_uR, lgH_N, zN_nw, zN_uR, prF_N, zN_nw, zN_uR, trfH_N, zN_nw])) (by rw [zN_nw, zN_uR, lgH_N, zN_nw, zN_uR, prF_N, zN_nw, zN_uR, trfH_N, zN_nw]; exact Nat.le_refl _) (Nat.succ_ne_zero _) (by rw [zK_nw]; exact if_pos (by rw [zN_uR, waysH_N, zN_nw, zN_uR, lgH_N, zN_nw, zN_uR, prF_N, zN_nw, zN_uR, trfH_N, zN_nw])) (by rw [zN_nw, zN_uR, waysH_N, zN_nw, zN_uR, lgH_N, zN_nw, zN_uR, prF_N, zN_nw, zN_uR, trfH_N, zN_nw]; exact Nat.le_refl _) fq)
