/-! ===== what holds of the tables at the start ===== -/
theorem kn_all {s : State} {args : Array Value} (hts : ∀ w ∈ lw_good, w.before args s = true) : ∃ D : va_G, ∀ (c : Nat) (q : vw_C), vwCl[c]? = some q → u_Kn s q.1 q.2.1 q.2.2 (D.1 c) (D.2 c) := by
  obtain ⟨c0, i0, k0⟩ := u_known hts ko_X0.2.1 (hts _ w_912)
  obtain ⟨c1, i1, k1⟩ := u_known hts ko_X1.2.1 (hts _ w_175)
  obtain ⟨c2, i2, k2⟩ := u_known hts ko_X2.2.1 (hts _ w_760)
  obtain ⟨c3, i3, k3⟩ := u_known hts ko_X3.2.1 (hts _ w_485)
  obtain ⟨c4, i4, k4⟩ := u_known hts ko_X4.2.1 (hts _ w_111)
  obtain ⟨c5, i5, k5⟩ := u_known hts ko_X5.2.1 (hts _ w_118)
  obtain ⟨c6, i6, k6⟩ := u_known hts ko_X6.2.1 (hts _ w_55)
  obtain ⟨c7, i7, k7⟩ := u_known hts ko_X7.2.1 (hts _ w_95)
  obtain ⟨c8, i8, k8⟩ := u_known hts ko_X8.2.1 (hts _ w_49)
  obtain ⟨c9, i9, k9⟩ := u_known hts ko_X9.2.1 (hts _ w_721)
  obtain ⟨c10, i10, k10⟩ := u_known hts ko_X10.2.1 (hts _ w_151)
  obtain ⟨c11, i11, k11⟩ := u_known hts ko_X11.2.1 (hts _ w_41)
  refine ⟨(fun k => match k with | 0 => c0 | 1 => c1 | 2 => c2 | 3 => c3 | 4 => c4 | 5 => c5 | 6 => c6 | 7 => c7 | 8 => c8 | 9 => c9 | 10 => c10 | _ => c11, fun k => match k with | 0 => i0 | 1 => i1 | 2 => i2 | 3 => i3 | 4 => i4 | 5 => i5 | 6 => i6 | 7 => i7 | 8 => i8 | 9 => i9 | 10 => i10 | _ => i11), fun c q hq => ?_⟩
  match c, hq with
  | 0, hq => cases Option.some.inj (ko_X0.1.symm.trans hq); exact k0
  | 1, hq => cases Option.some.inj (ko_X1.1.symm.trans hq); exact k1
  | 2, hq => cases Option.some.inj (ko_X2.1.symm.trans hq); exact k2
  | 3, hq => cases Option.some.inj (ko_X3.1.symm.trans hq); exact k3
  | 4, hq => cases Option.some.inj (ko_X4.1.symm.trans hq); exact k4
  | 5, hq => cases Option.some.inj (ko_X5.1.symm.trans hq); exact k5
  | 6, hq => cases Option.some.inj (ko_X6.1.symm.trans hq); exact k6
  | 7, hq => cases Option.some.inj (ko_X7.1.symm.trans hq); exact k7
  | 8, hq => cases Option.some.inj (ko_X8.1.symm.trans hq); exact k8
  | 9, hq => cases Option.some.inj (ko_X9.1.symm.trans hq); exact k9
  | 10, hq => cases Option.some.inj (ko_X10.1.symm.trans hq); exact k10
  | 11, hq => cases Option.some.inj (ko_X11.1.symm.trans hq); exact k11
  | k + 12, hq => simp [vwCl] at hq
theorem arr_int {s : State} {args : Array Value} (h : (Cond.arrayClass .int).before args s = true) : ∃ c : ClassId, ArrOfT s c .int ∧ va_RA s c .int := by
  obtain ⟨c, k, comp, h1, h2, h3⟩ := Cond.arrayClass_spec h
  exact ⟨c, fun n z => ⟨fun k h => (by cases h), k, h2, comp, h3⟩, h1⟩
theorem arr_long {s : State} {args : Array Value} (h : (Cond.arrayClass .long).before args s = true) : ∃ c : ClassId, ArrOfT s c .long ∧ va_RA s c .long := by
  obtain ⟨c, k, comp, h1, h2, h3⟩ := Cond.arrayClass_spec h
  exact ⟨c, fun n z => ⟨fun k h => (by cases h), k, h2, comp, h3⟩, h1⟩
theorem arr_obj {C : String} {s : State} {args : Array Value} (h : (Cond.arrayOver (.object C)).before args s = true) : ∃ c : ClassId, ArrOfT s c (.object C) ∧ va_RA s c (.object C) := by
  obtain ⟨comp, c, k, h1, h2, h3, h4, h5⟩ := Cond.arrayOver_spec h
  exact ⟨c, fun n z => ⟨fun k h => (by cases h), k, h3, comp, h4⟩, k, comp, h3, h4, h1, h5⟩
theorem arr_all {s : State} {args : Array Value} (hts : ∀ w ∈ lw_tbl, w.before args s = true) : ∃ dA : Nat → ClassId, ∀ (k : Nat) (q : ClassId × FieldType), (tysOf dA)[k]? = some q → ArrOfT s q.1 q.2 ∧ va_RA s q.1 q.2 := by
  obtain ⟨aI, hI⟩ := arr_int (hts _ (List.mem_of_getElem? (i := 64) (by decide +kernel)))
  obtain ⟨aJ, hJ⟩ := arr_long (hts _ (List.mem_of_getElem? (i := 201) (by decide +kernel)))
  obtain ⟨a0, h0⟩ := arr_obj (C := RX0) (hts _ (List.mem_of_getElem? (i := 181) (by decide +kernel)))
  obtain ⟨a2, h2⟩ := arr_obj (C := RX2) (hts _ (List.mem_of_getElem? (i := 727) (by decide +kernel)))
  obtain ⟨a3, h3⟩ := arr_obj (C := RX3) (hts _ (List.mem_of_getElem? (i := 66) (by decide +kernel)))
  obtain ⟨a5, h5⟩ := arr_obj (C := RX5) (hts _ (List.mem_of_getElem? (i := 117) (by decide +kernel)))
  obtain ⟨a9, h9⟩ := arr_obj (C := RX9) (hts _ (List.mem_of_getElem? (i := 203) (by decide +kernel)))
  refine ⟨fun k => if k = 20 then aI else if k = 21 then aJ else if k = 30 then a0 else if k = 32 then a2 else if k = 33 then a3 else if k = 35 then a5 else a9, fun k q hq => ?_⟩
  match k, hq with
  | 0, hq => cases hq; exact hI
  | 1, hq => cases hq; exact hJ
  | 2, hq => cases hq; exact hJ
  | 3, hq => cases hq; exact h0
  | 4, hq => cases hq; exact h2
  | 5, hq => cases hq; exact h3
  | 6, hq => cases hq; exact h5
  | 7, hq => cases hq; exact h9
  | k + 8, hq => simp [tysOf] at hq
theorem vk_ex {own tx : String} {k : Nat} {s : State} {args : Array Value} (h : (Cond.stringRef own k tx).before args s = true) : ∃ a, vk_R own k tx a s := by
  have hcur : ∃ cur, s.vm.findClass own = some cur := by
    have h1 := h
    simp only [Cond.before, Cond.holds, Cond.value] at h1
    cases hc : s.vm.findClass own with
    | none => simp [hc] at h1
    | some cur => exact ⟨cur, rfl⟩
  obtain ⟨cur, hc⟩ := hcur
  obtain ⟨k', cf, i, a, -, -, -, -, -, he⟩ := Cond.stringRef_spec hc h
  exact ⟨a, vk_R.of h he⟩
theorem Amb_at {l : Launch} {s : State} {b L : Nat} {xs : Nat → Int32} (hX : va_X b L xs s s.heap) (hbl : b < s.heap.size) (hL : L < 1073741824) (hts : ∀ w ∈ lw_tbl, w.before #[Value.ref b] s = true) (hgv : (Jvm.Cond.and given_1 narrow_1).before #[Value.ref b] s = true) : ∃ (D : va_G) (dA : Nat → ClassId), Amb (l, D, dA, s.heap, (b, L, xs), none) s := by
  have htg : ∀ w ∈ lw_good, w.before #[Value.ref b] s = true := fun w hw => hts w (List.mem_filter.mp hw).1
  obtain ⟨D, hD⟩ := kn_all htg
  obtain ⟨dA, hA⟩ := arr_all hts
  have hfl := flat_of_before _ hgv
  have hbs : ∀ a : Nat, a < s.heap.size → ¬ bs s.heap a := fun a h => Nat.not_le.mpr h
  refine ⟨D, dA, ⟨hD, hA⟩, fun q hq => ?_, fun C hC => ?_, fun q hq => ?_, fun C hC => ?_, fun C hC C' hC' hn => ?_, ?_, ?_, fun y hy => ?_, hX, hbl, hL⟩
  · obtain ⟨w, hw, he⟩ := List.mem_filterMap.mp hq
    cases w <;> simp at he
    subst he
    exact va_Nw.of rfl (hts _ hw)
  · simp only [lw_ao, List.mem_cons, List.not_mem_nil, or_false] at hC
    rcases hC with rfl | rfl | rfl | rfl | rfl
    · exact va_AO.of (hts _ (List.mem_of_getElem? (i := 181) (by decide +kernel)))
    · exact va_AO.of (hts _ (List.mem_of_getElem? (i := 727) (by decide +kernel)))
    · exact va_AO.of (hts _ (List.mem_of_getElem? (i := 66) (by decide +kernel)))
    · exact va_AO.of (hts _ (List.mem_of_getElem? (i := 117) (by decide +kernel)))
    · exact va_AO.of (hts _ (List.mem_of_getElem? (i := 203) (by decide +kernel)))
  · obtain ⟨w, hw, he⟩ := List.mem_filterMap.mp hq
    cases w <;> simp at he
    subst he
    exact vk_ex (hts _ hw)
  · simp only [lw_ex, List.mem_cons, List.not_mem_nil, or_false] at hC
    rcases hC with rfl | rfl | rfl
    · exact va_Nw.of rfl (hts _ (List.mem_of_getElem? (i := 257) (by decide +kernel)))
    · exact va_Nw.of rfl (hts _ (List.mem_of_getElem? (i := 328) (by decide +kernel)))
    · exact va_Nw.of rfl (hts _ (List.mem_of_getElem? (i := 470) (by decide +kernel)))
  · simp only [lw_ex, List.mem_cons, List.not_mem_nil, or_false] at hC hC'
    rcases hC with rfl | rfl | rfl <;> rcases hC' with rfl | rfl | rfl <;> first | exact absurd rfl hn | exact va_Nc.of (hfl _ (by decide +kernel))
  · exact vx_Zqof (hts _ (List.mem_of_getElem? (i := 282) (by decide +kernel))) (hts _ (List.mem_of_getElem? (i := 29) (by decide +kernel))) (hfl _ (by decide +kernel)) hbs
  · exact vx_Zqof (hts _ (List.mem_of_getElem? (i := 284) (by decide +kernel))) (hts _ (List.mem_of_getElem? (i := 29) (by decide +kernel))) (hfl _ (by decide +kernel)) hbs
  · obtain ⟨w, hw, he⟩ := List.mem_filterMap.mp hy
    cases w <;> simp at he
    subst he
    exact va_Nw.of rfl (hts _ hw)
