set_option maxHeartbeats 4000000 in
set_option maxRecDepth 100000 in
theorem c_X4_copyFrom (l : Launch) (G : tm_G) (a0 : Nat) (a9 : Nat) (sz : Nat) (tk : Int32) (mo : Int32) (su : UInt64) (tk' : Int32) (mo' : Int32) (su' : UInt64) : Met l yX4_copyFrom wsX4_copyFrom ({ frames := 0, cells := 0, slots := 0, locals := 0 }) (va_Pc [.ref a0, .ref a9] (tm_B G [tc_X4 a0 tk mo su, tc_X4 a9 tk' mo' su'] sz)) (va_Qv (fun (_ : Unit) => True) (fun (_ : Unit) (t : State) => va_P G.1 vwCl [tc_X4 a0 tk' mo' su', tc_X4 a9 tk' mo' su'] t.heap ∧ va_D (va_A [tc_X4 a0 tk mo su, tc_X4 a9 tk' mo' su'] sz) [tc_X4 a0 tk' mo' su', tc_X4 a9 tk' mo' su']) (va_A [tc_X4 a0 tk mo su, tc_X4 a9 tk' mo' su'] sz)) 0 0 (va_A [tc_X4 a0 tk mo su, tc_X4 a9 tk' mo' su'] sz) := by
  refine Met.ofW (cc := cX4_copyFrom) (maxL := 2) (ret := none) (by decide) rfl ?_
  intro p e s m args below meth c s₁ B hml hv
  obtain ⟨rfl, hsz, hP, hK, hD0, hN, hV⟩ := hv
  have hx := B.exec
  have hb := B.bytes
  have hr := B.returns
  have hts := atoms_spec (ws := wsX4_copyFrom) B.pre
  have hown : s.vm.findClass RX4 = some m.cls := findClass_of_methodNamed B.named
  have hlocks := B.notSynchronized
  subst hsz
  have hiX4 : ∀ w ∈ u_ws RX4 TX4 3, w ∈ wsX4_copyFrom := fun _ h => List.mem_cons_of_mem _ (List.mem_append_right _ h)
  have hD := hD0.self (sz := s.heap.size)
  generalize hAe : va_A [tc_X4 a0 tk mo su, tc_X4 a9 tk' mo' su'] s.heap.size = A at hD hV ⊢
  have hA : ∀ q : Nat, s.heap.size ≤ q → A q := fun q h => by rw [← hAe]; exact Or.inr h
  have hS : va_S A s.heap s.heap [] := va_S.rf
  have hl := lv_entry ([.ref a0, .ref a9]) (n := 2) (Nat.le_of_ble_eq_true rfl)
  rw [lg_entry_eq]
  generalize (lg_sl ([.ref a0, .ref a9]) ++ List.replicate (2 - (lg_sl ([.ref a0, .ref a9])).length) Slot.unset).toArray = ls at hl ⊢
  have hl : lv_has ls 2 [(0, .ref a0), (1, .ref a9)] := hl
  refine lv_aload_n hx hb dX4_copyFrom_0 rfl (lv_at hl 0 rfl) ?_
  refine lv_aload_n hx hb dX4_copyFrom_1 rfl (lv_at hl 1 rfl) ?_
  refine va_get (D := G.1) (ci := 4) (v := .int tk') (C := RX4) (T := TX4) (N := 3) hx hb hts hiX4 hown hK hP 1 rfl rfl 0 (by decide) (hts (.fieldLink RX4 9 "TideMill$Sea" "tick" "I") (List.mem_of_getElem? (i := 1) rfl)) (fun _ h9 => h9) rfl dX4_copyFrom_2 ?_
  refine va_put (D := G.1) (ci := 4) (v := .int tk') (ty := .int) (C := RX4) (T := TX4) (N := 3) hx hb hts hiX4 tyX4 tyX4_ok nmX4 hown hK hP hD hS 0 rfl rfl 0 (by decide) (hts (.fieldLink RX4 9 "TideMill$Sea" "tick" "I") (List.mem_of_getElem? (i := 1) rfl)) (fun _ h9 => h9) rfl (by decide +kernel) rfl rfl (Nat.le_of_ble_eq_true rfl) dX4_copyFrom_5 (fun H locs hP hD hS => ?_)
  have hP : va_P G.1 vwCl [tc_X4 a0 tk' mo su, tc_X4 a9 tk' mo' su'] H := hP
  have hD : va_D A [tc_X4 a0 tk' mo su, tc_X4 a9 tk' mo' su'] := hD
  refine lv_aload_n hx hb dX4_copyFrom_8 rfl (lv_at hl 0 rfl) ?_
  refine lv_aload_n hx hb dX4_copyFrom_9 rfl (lv_at hl 1 rfl) ?_
  refine va_get (D := G.1) (ci := 4) (v := .int mo') (C := RX4) (T := TX4) (N := 3) hx hb hts hiX4 hown hK hP 1 rfl rfl 1 (by decide) (hts (.fieldLink RX4 15 "TideMill$Sea" "moon" "I") (List.mem_of_getElem? (i := 2) rfl)) (fun _ h9 => h9) rfl dX4_copyFrom_10 ?_
  refine va_put (D := G.1) (ci := 4) (v := .int mo') (ty := .int) (C := RX4) (T := TX4) (N := 3) hx hb hts hiX4 tyX4 tyX4_ok nmX4 hown hK hP hD hS 0 rfl rfl 1 (by decide) (hts (.fieldLink RX4 15 "TideMill$Sea" "moon" "I") (List.mem_of_getElem? (i := 2) rfl)) (fun _ h9 => h9) rfl (by decide +kernel) rfl rfl (Nat.le_of_ble_eq_true rfl) dX4_copyFrom_13 (fun H locs hP hD hS => ?_)
  have hP : va_P G.1 vwCl [tc_X4 a0 tk' mo' su, tc_X4 a9 tk' mo' su'] H := hP
  have hD : va_D A [tc_X4 a0 tk' mo' su, tc_X4 a9 tk' mo' su'] := hD
  refine lv_aload_n hx hb dX4_copyFrom_16 rfl (lv_at hl 0 rfl) ?_
  refine lv_aload_n hx hb dX4_copyFrom_17 rfl (lv_at hl 1 rfl) ?_
  refine va_get (D := G.1) (ci := 4) (v := .double su') (C := RX4) (T := TX4) (N := 3) hx hb hts hiX4 hown hK hP 1 rfl rfl 2 (by decide) (hts (.fieldLink RX4 18 "TideMill$Sea" "surge" "D") (List.mem_of_getElem? (i := 3) rfl)) (fun _ h9 => h9) rfl dX4_copyFrom_18 ?_
  refine va_put (D := G.1) (ci := 4) (v := .double su') (ty := .double) (C := RX4) (T := TX4) (N := 3) hx hb hts hiX4 tyX4 tyX4_ok nmX4 hown hK hP hD hS 0 rfl rfl 2 (by decide) (hts (.fieldLink RX4 18 "TideMill$Sea" "surge" "D") (List.mem_of_getElem? (i := 3) rfl)) (fun _ h9 => h9) rfl (by decide +kernel) rfl rfl (Nat.le_of_ble_eq_true rfl) dX4_copyFrom_21 (fun H locs hP hD hS => ?_)
  have hP : va_P G.1 vwCl [tc_X4 a0 tk' mo' su', tc_X4 a9 tk' mo' su'] H := hP
  have hD : va_D A [tc_X4 a0 tk' mo' su', tc_X4 a9 tk' mo' su'] := hD
  exact W.vret hx hb hr (fun t ht hW => ⟨⟨(), rfl, trivial, by rw [ht]; exact hP, hD⟩, hS.F ht⟩) hS.2.2 dX4_copyFrom_24
set_option maxHeartbeats 4000000 in
set_option maxRecDepth 100000 in
theorem c_X3_copyFrom (l : Launch) (G : tm_G) (a0 : Nat) (a9 : Nat) (sz : Nat) (lv : UInt64) (si : UInt32) (ga : Int32) (sl : Int32) (sc : Int32) (fo : UInt64) (lv' : UInt64) (si' : UInt32) (ga' : Int32) (sl' : Int32) (sc' : Int32) (fo' : UInt64) (hn : n_X3_copyFrom sc') : Met l yX3_copyFrom wsX3_copyFrom ({ frames := 0, cells := 0, slots := 0, locals := 0 }) (va_Pc [.ref a0, .ref a9] (tm_B G [tc_X3 a0 lv si ga sl sc fo, tc_X3 a9 lv' si' ga' sl' sc' fo'] sz)) (va_Qv (fun (_ : Unit) => True) (fun (_ : Unit) (t : State) => va_P G.1 vwCl [tc_X3 a0 lv' si' ga' sl' sc' fo', tc_X3 a9 lv' si' ga' sl' sc' fo'] t.heap ∧ va_D (va_A [tc_X3 a0 lv si ga sl sc fo, tc_X3 a9 lv' si' ga' sl' sc' fo'] sz) [tc_X3 a0 lv' si' ga' sl' sc' fo', tc_X3 a9 lv' si' ga' sl' sc' fo']) (va_A [tc_X3 a0 lv si ga sl sc fo, tc_X3 a9 lv' si' ga' sl' sc' fo'] sz)) 0 0 (va_A [tc_X3 a0 lv si ga sl sc fo, tc_X3 a9 lv' si' ga' sl' sc' fo'] sz) := by
  refine Met.ofW (cc := cX3_copyFrom) (maxL := 2) (ret := none) (by decide) rfl ?_
  intro p e s m args below meth c s₁ B hml hv
  obtain ⟨rfl, hsz, hP, hK, hD0, hN, hV⟩ := hv
  have hx := B.exec
  have hb := B.bytes
  have hr := B.returns
  have hts := atoms_spec (ws := wsX3_copyFrom) B.pre
  have hown : s.vm.findClass RX3 = some m.cls := findClass_of_methodNamed B.named
  have hlocks := B.notSynchronized
  subst hsz
  have n_1 := hn
  unfold n_X3_copyFrom at n_1
  have hiX3 : ∀ w ∈ u_ws RX3 TX3 6, w ∈ wsX3_copyFrom := fun _ h => List.mem_cons_of_mem _ (List.mem_append_right _ h)
  have hD := hD0.self (sz := s.heap.size)
  generalize hAe : va_A [tc_X3 a0 lv si ga sl sc fo, tc_X3 a9 lv' si' ga' sl' sc' fo'] s.heap.size = A at hD hV ⊢
  have hA : ∀ q : Nat, s.heap.size ≤ q → A q := fun q h => by rw [← hAe]; exact Or.inr h
  have hS : va_S A s.heap s.heap [] := va_S.rf
  have hl := lv_entry ([.ref a0, .ref a9]) (n := 2) (Nat.le_of_ble_eq_true rfl)
  rw [lg_entry_eq]
  generalize (lg_sl ([.ref a0, .ref a9]) ++ List.replicate (2 - (lg_sl ([.ref a0, .ref a9])).length) Slot.unset).toArray = ls at hl ⊢
  have hl : lv_has ls 2 [(0, .ref a0), (1, .ref a9)] := hl
  refine lv_aload_n hx hb dX3_copyFrom_0 rfl (lv_at hl 0 rfl) ?_
  refine lv_aload_n hx hb dX3_copyFrom_1 rfl (lv_at hl 1 rfl) ?_
  refine va_get (D := G.1) (ci := 3) (v := .double lv') (C := RX3) (T := TX3) (N := 6) hx hb hts hiX3 hown hK hP 1 rfl rfl 0 (by decide) (hts (.fieldLink RX3 7 "TideMill$Pond" "level" "D") (List.mem_of_getElem? (i := 1) rfl)) (fun _ h9 => h9) rfl dX3_copyFrom_2 ?_
  refine va_put (D := G.1) (ci := 3) (v := .double lv') (ty := .double) (C := RX3) (T := TX3) (N := 6) hx hb hts hiX3 tyX3 tyX3_ok nmX3 hown hK hP hD hS 0 rfl rfl 0 (by decide) (hts (.fieldLink RX3 7 "TideMill$Pond" "level" "D") (List.mem_of_getElem? (i := 1) rfl)) (fun _ h9 => h9) rfl (by decide +kernel) rfl rfl (Nat.le_of_ble_eq_true rfl) dX3_copyFrom_5 (fun H locs hP hD hS => ?_)
  have hP : va_P G.1 vwCl [tc_X3 a0 lv' si ga sl sc fo, tc_X3 a9 lv' si' ga' sl' sc' fo'] H := hP
  have hD : va_D A [tc_X3 a0 lv' si ga sl sc fo, tc_X3 a9 lv' si' ga' sl' sc' fo'] := hD
  refine lv_aload_n hx hb dX3_copyFrom_8 rfl (lv_at hl 0 rfl) ?_
  refine lv_aload_n hx hb dX3_copyFrom_9 rfl (lv_at hl 1 rfl) ?_
  refine va_get (D := G.1) (ci := 3) (v := .float si') (C := RX3) (T := TX3) (N := 6) hx hb hts hiX3 hown hK hP 1 rfl rfl 1 (by decide) (hts (.fieldLink RX3 13 "TideMill$Pond" "silt" "F") (List.mem_of_getElem? (i := 2) rfl)) (fun _ h9 => h9) rfl dX3_copyFrom_10 ?_
  refine va_put (D := G.1) (ci := 3) (v := .float si') (ty := .float) (C := RX3) (T := TX3) (N := 6) hx hb hts hiX3 tyX3 tyX3_ok nmX3 hown hK hP hD hS 0 rfl rfl 1 (by decide) (hts (.fieldLink RX3 13 "TideMill$Pond" "silt" "F") (List.mem_of_getElem? (i := 2) rfl)) (fun _ h9 => h9) rfl (by decide +kernel) rfl rfl (Nat.le_of_ble_eq_true rfl) dX3_copyFrom_13 (fun H locs hP hD hS => ?_)
  have hP : va_P G.1 vwCl [tc_X3 a0 lv' si' ga sl sc fo, tc_X3 a9 lv' si' ga' sl' sc' fo'] H := hP
  have hD : va_D A [tc_X3 a0 lv' si' ga sl sc fo, tc_X3 a9 lv' si' ga' sl' sc' fo'] := hD
  refine lv_aload_n hx hb dX3_copyFrom_16 rfl (lv_at hl 0 rfl) ?_
  refine lv_aload_n hx hb dX3_copyFrom_17 rfl (lv_at hl 1 rfl) ?_
  refine va_get (D := G.1) (ci := 3) (v := .int ga') (C := RX3) (T := TX3) (N := 6) hx hb hts hiX3 hown hK hP 1 rfl rfl 2 (by decide) (hts (.fieldLink RX3 17 "TideMill$Pond" "gates" "I") (List.mem_of_getElem? (i := 3) rfl)) (fun _ h9 => h9) rfl dX3_copyFrom_18 ?_
  refine va_put (D := G.1) (ci := 3) (v := .int ga') (ty := .int) (C := RX3) (T := TX3) (N := 6) hx hb hts hiX3 tyX3 tyX3_ok nmX3 hown hK hP hD hS 0 rfl rfl 2 (by decide) (hts (.fieldLink RX3 17 "TideMill$Pond" "gates" "I") (List.mem_of_getElem? (i := 3) rfl)) (fun _ h9 => h9) rfl (by decide +kernel) rfl rfl (Nat.le_of_ble_eq_true rfl) dX3_copyFrom_21 (fun H locs hP hD hS => ?_)
  have hP : va_P G.1 vwCl [tc_X3 a0 lv' si' ga' sl sc fo, tc_X3 a9 lv' si' ga' sl' sc' fo'] H := hP
  have hD : va_D A [tc_X3 a0 lv' si' ga' sl sc fo, tc_X3 a9 lv' si' ga' sl' sc' fo'] := hD
  refine lv_aload_n hx hb dX3_copyFrom_24 rfl (lv_at hl 0 rfl) ?_
  refine lv_aload_n hx hb dX3_copyFrom_25 rfl (lv_at hl 1 rfl) ?_
  refine va_get (D := G.1) (ci := 3) (v := .int sl') (C := RX3) (T := TX3) (N := 6) hx hb hts hiX3 hown hK hP 1 rfl rfl 3 (by decide) (hts (.fieldLink RX3 21 "TideMill$Pond" "sluice" "I") (List.mem_of_getElem? (i := 4) rfl)) (fun _ h9 => h9) rfl dX3_copyFrom_26 ?_
  refine va_put (D := G.1) (ci := 3) (v := .int sl') (ty := .int) (C := RX3) (T := TX3) (N := 6) hx hb hts hiX3 tyX3 tyX3_ok nmX3 hown hK hP hD hS 0 rfl rfl 3 (by decide) (hts (.fieldLink RX3 21 "TideMill$Pond" "sluice" "I") (List.mem_of_getElem? (i := 4) rfl)) (fun _ h9 => h9) rfl (by decide +kernel) rfl rfl (Nat.le_of_ble_eq_true rfl) dX3_copyFrom_29 (fun H locs hP hD hS => ?_)
  have hP : va_P G.1 vwCl [tc_X3 a0 lv' si' ga' sl' sc fo, tc_X3 a9 lv' si' ga' sl' sc' fo'] H := hP
  have hD : va_D A [tc_X3 a0 lv' si' ga' sl' sc fo, tc_X3 a9 lv' si' ga' sl' sc' fo'] := hD
  refine lv_aload_n hx hb dX3_copyFrom_32 rfl (lv_at hl 0 rfl) ?_
  refine lv_aload_n hx hb dX3_copyFrom_33 rfl (lv_at hl 1 rfl) ?_
  refine va_get (D := G.1) (ci := 3) (v := .int sc') (C := RX3) (T := TX3) (N := 6) hx hb hts hiX3 hown hK hP 1 rfl rfl 4 (by decide) (hts (.fieldLink RX3 24 "TideMill$Pond" "isScourOpen" "Z") (List.mem_of_getElem? (i := 5) rfl)) (fun _ h9 => h9) rfl dX3_copyFrom_34 ?_
  refine va_put (D := G.1) (ci := 3) (v := .int sc') (ty := .boolean) (C := RX3) (T := TX3) (N := 6) hx hb hts hiX3 tyX3 tyX3_ok nmX3 hown hK hP hD hS 0 rfl rfl 4 (by decide) (hts (.fieldLink RX3 24 "TideMill$Pond" "isScourOpen" "Z") (List.mem_of_getElem? (i := 5) rfl)) (fun _ h9 => h9) rfl (by decide +kernel) (tm_bool_n n_1) (tm_bool_f n_1) (Nat.le_of_ble_eq_true rfl) dX3_copyFrom_37 (fun H locs hP hD hS => ?_)
  have hP : va_P G.1 vwCl [tc_X3 a0 lv' si' ga' sl' sc' fo, tc_X3 a9 lv' si' ga' sl' sc' fo'] H := hP
  have hD : va_D A [tc_X3 a0 lv' si' ga' sl' sc' fo, tc_X3 a9 lv' si' ga' sl' sc' fo'] := hD
  refine lv_aload_n hx hb dX3_copyFrom_40 rfl (lv_at hl 0 rfl) ?_
  refine lv_aload_n hx hb dX3_copyFrom_41 rfl (lv_at hl 1 rfl) ?_
  refine va_get (D := G.1) (ci := 3) (v := .double fo') (C := RX3) (T := TX3) (N := 6) hx hb hts hiX3 hown hK hP 1 rfl rfl 5 (by decide) (hts (.fieldLink RX3 28 "TideMill$Pond" "force" "D") (List.mem_of_getElem? (i := 6) rfl)) (fun _ h9 => h9) rfl dX3_copyFrom_42 ?_
  refine va_put (D := G.1) (ci := 3) (v := .double fo') (ty := .double) (C := RX3) (T := TX3) (N := 6) hx hb hts hiX3 tyX3 tyX3_ok nmX3 hown hK hP hD hS 0 rfl rfl 5 (by decide) (hts (.fieldLink RX3 28 "TideMill$Pond" "force" "D") (List.mem_of_getElem? (i := 6) rfl)) (fun _ h9 => h9) rfl (by decide +kernel) rfl rfl (Nat.le_of_ble_eq_true rfl) dX3_copyFrom_45 (fun H locs hP hD hS => ?_)
  have hP : va_P G.1 vwCl [tc_X3 a0 lv' si' ga' sl' sc' fo', tc_X3 a9 lv' si' ga' sl' sc' fo'] H := hP
  have hD : va_D A [tc_X3 a0 lv' si' ga' sl' sc' fo', tc_X3 a9 lv' si' ga' sl' sc' fo'] := hD
  exact W.vret hx hb hr (fun t ht hW => ⟨⟨(), rfl, trivial, by rw [ht]; exact hP, hD⟩, hS.F ht⟩) hS.2.2 dX3_copyFrom_48
set_option maxHeartbeats 4000000 in
set_option maxRecDepth 100000 in
theorem c_X0_copyFrom (l : Launch) (G : tm_G) (a0 : Nat) (b0 : Nat) (b1 : Nat) (b2 : Nat) (b3 : Nat) (b4 : Nat) (b5 : Nat) (a9 : Nat) (b0' : Nat) (b1' : Nat) (b2' : Nat) (b3' : Nat) (b4' : Nat) (b5' : Nat) (sz : Nat) (ln : Int32) (ow : Nat → Int32) (gr : Nat → Int32) (we : Nat → Int32) (du : Nat → Int32) (sa : Nat → Int32) (le : Nat → UInt64) (ln' : Int32) (ow' : Nat → Int32) (gr' : Nat → Int32) (we' : Nat → Int32) (du' : Nat → Int32) (sa' : Nat → Int32) (le' : Nat → UInt64) : Met l yX0_copyFrom wsX0_copyFrom ({ frames := 1, cells := 0, slots := 0, locals := 40 }) (va_Pc [.ref a0, .ref a9] (tm_B G [tc_X0 a0 b0 b1 b2 b3 b4 b5 ln, tc_I G b0 10 ow, tc_I G b1 10 gr, tc_I G b2 10 we, tc_I G b3 10 du, tc_I G b4 10 sa, tc_D G b5 10 le, tc_X0 a9 b0' b1' b2' b3' b4' b5' ln', tc_I G b0' 10 ow', tc_I G b1' 10 gr', tc_I G b2' 10 we', tc_I G b3' 10 du', tc_I G b4' 10 sa', tc_D G b5' 10 le'] sz)) (va_Qv (fun (_ : Unit) => True) (fun (_ : Unit) (t : State) => va_P G.1 vwCl [tc_X0 a0 b0 b1 b2 b3 b4 b5 ln', tc_I G b0 10 ow', tc_I G b1 10 gr', tc_I G b2 10 we', tc_I G b3 10 du', tc_I G b4 10 sa', tc_D G b5 10 le', tc_X0 a9 b0' b1' b2' b3' b4' b5' ln', tc_I G b0' 10 ow', tc_I G b1' 10 gr', tc_I G b2' 10 we', tc_I G b3' 10 du', tc_I G b4' 10 sa', tc_D G b5' 10 le'] t.heap ∧ va_D (va_A [tc_X0 a0 b0 b1 b2 b3 b4 b5 ln, tc_I G b0 10 ow, tc_I G b1 10 gr, tc_I G b2 10 we, tc_I G b3 10 du, tc_I G b4 10 sa, tc_D G b5 10 le, tc_X0 a9 b0' b1' b2' b3' b4' b5' ln', tc_I G b0' 10 ow', tc_I G b1' 10 gr', tc_I G b2' 10 we', tc_I G b3' 10 du', tc_I G b4' 10 sa', tc_D G b5' 10 le'] sz) [tc_X0 a0 b0 b1 b2 b3 b4 b5 ln', tc_I G b0 10 ow', tc_I G b1 10 gr', tc_I G b2 10 we', tc_I G b3 10 du', tc_I G b4 10 sa', tc_D G b5 10 le', tc_X0 a9 b0' b1' b2' b3' b4' b5' ln', tc_I G b0' 10 ow', tc_I G b1' 10 gr', tc_I G b2' 10 we', tc_I G b3' 10 du', tc_I G b4' 10 sa', tc_D G b5' 10 le']) (va_A [tc_X0 a0 b0 b1 b2 b3 b4 b5 ln, tc_I G b0 10 ow, tc_I G b1 10 gr, tc_I G b2 10 we, tc_I G b3 10 du, tc_I G b4 10 sa, tc_D G b5 10 le, tc_X0 a9 b0' b1' b2' b3' b4' b5' ln', tc_I G b0' 10 ow', tc_I G b1' 10 gr', tc_I G b2' 10 we', tc_I G b3' 10 du', tc_I G b4' 10 sa', tc_D G b5' 10 le'] sz)) 0 0 (va_A [tc_X0 a0 b0 b1 b2 b3 b4 b5 ln, tc_I G b0 10 ow, tc_I G b1 10 gr, tc_I G b2 10 we, tc_I G b3 10 du, tc_I G b4 10 sa, tc_D G b5 10 le, tc_X0 a9 b0' b1' b2' b3' b4' b5' ln', tc_I G b0' 10 ow', tc_I G b1' 10 gr', tc_I G b2' 10 we', tc_I G b3' 10 du', tc_I G b4' 10 sa', tc_D G b5' 10 le'] sz) := by
  refine Met.ofW (cc := cX0_copyFrom) (maxL := 2) (ret := none) (by decide) rfl ?_
  intro p e s m args below meth c s₁ B hml hv
  obtain ⟨rfl, hsz, hP, hK, hD0, hN, hV⟩ := hv
  have hx := B.exec
  have hb := B.bytes
  have hr := B.returns
  have hts := atoms_spec (ws := wsX0_copyFrom) B.pre
  have hown : s.vm.findClass RX0 = some m.cls := findClass_of_methodNamed B.named
  have hlocks := B.notSynchronized
  subst hsz
  have hiX0 : ∀ w ∈ u_ws RX0 TX0 7, w ∈ wsX0_copyFrom := fun _ h => List.mem_cons_of_mem _ (List.mem_append_right _ h)
  have hD := hD0.self (sz := s.heap.size)
  generalize hAe : va_A [tc_X0 a0 b0 b1 b2 b3 b4 b5 ln, tc_I G b0 10 ow, tc_I G b1 10 gr, tc_I G b2 10 we, tc_I G b3 10 du, tc_I G b4 10 sa, tc_D G b5 10 le, tc_X0 a9 b0' b1' b2' b3' b4' b5' ln', tc_I G b0' 10 ow', tc_I G b1' 10 gr', tc_I G b2' 10 we', tc_I G b3' 10 du', tc_I G b4' 10 sa', tc_D G b5' 10 le'] s.heap.size = A at hD hV ⊢
  have hA : ∀ q : Nat, s.heap.size ≤ q → A q := fun q h => by rw [← hAe]; exact Or.inr h
  have hS : va_S A s.heap s.heap [] := va_S.rf
  have hl := lv_entry ([.ref a0, .ref a9]) (n := 2) (Nat.le_of_ble_eq_true rfl)
  rw [lg_entry_eq]
  generalize (lg_sl ([.ref a0, .ref a9]) ++ List.replicate (2 - (lg_sl ([.ref a0, .ref a9])).length) Slot.unset).toArray = ls at hl ⊢
  have hl : lv_has ls 2 [(0, .ref a0), (1, .ref a9)] := hl
  refine lv_aload_n hx hb dX0_copyFrom_0 rfl (lv_at hl 1 rfl) ?_
  refine va_get (D := G.1) (ci := 0) (v := .ref b0') (C := RX0) (T := TX0) (N := 7) hx hb hts hiX0 hown hK hP 7 rfl rfl 0 (by decide) (hts (.fieldLink RX0 9 "TideMill$Lots" "owner" "[I") (List.mem_of_getElem? (i := 1) rfl)) (fun _ h9 => h9) rfl dX0_copyFrom_1 ?_
  refine lv_iconst (v := 0) hx hb dX0_copyFrom_4 (by decide) ?_
  refine lv_aload_n hx hb dX0_copyFrom_5 rfl (lv_at hl 0 rfl) ?_
  refine va_get (D := G.1) (ci := 0) (v := .ref b0) (C := RX0) (T := TX0) (N := 7) hx hb hts hiX0 hown hK hP 0 rfl rfl 0 (by decide) (hts (.fieldLink RX0 9 "TideMill$Lots" "owner" "[I") (List.mem_of_getElem? (i := 1) rfl)) (fun _ h9 => h9) rfl dX0_copyFrom_6 ?_
  refine lv_iconst (v := 0) hx hb dX0_copyFrom_9 (by decide) ?_
  refine lv_bipush (v := 10) hx hb dX0_copyFrom_10 (by decide) ?_
  refine va_copyi hx hb (by rw [hml]; exact hl.1.symm) hown (hts (.methodLink RX0 31 arraycopyName) (List.mem_of_getElem? (i := 2) rfl)) (hts (.native arraycopyName) (List.mem_of_getElem? (i := 3) rfl)) (hts (.static arraycopyName) (List.mem_of_getElem? (i := 4) rfl)) (hts (.initialized "java/lang/System") (List.mem_of_getElem? (i := 5) rfl)) hK hP hD hS 8 1 0 0 rfl rfl rfl rfl rfl (by decide) (by decide) (by decide) (by decide) (by decide) (fun _ _ => rfl) (Nat.le_of_ble_eq_true rfl) (Nat.le_of_ble_eq_true rfl) dX0_copyFrom_12 (fun H locs hP hD hS => ?_)
  have hP := tm_cpP_i (f := ow') (g := ow) (q := 1) (sp := (0 : Int32).toNatClampNeg) (dp := (0 : Int32).toNatClampNeg) (k := (10 : Int32).toNatClampNeg) (Nat.le_of_ble_eq_true rfl) rfl rfl rfl hP
  have hD := tm_cpD (q := 1) (e := .inl (G.2.1, 10, .inl ow')) (Nat.le_of_ble_eq_true rfl) hD
  have hP : va_P G.1 vwCl [tc_X0 a0 b0 b1 b2 b3 b4 b5 ln, tc_I G b0 10 ow', tc_I G b1 10 gr, tc_I G b2 10 we, tc_I G b3 10 du, tc_I G b4 10 sa, tc_D G b5 10 le, tc_X0 a9 b0' b1' b2' b3' b4' b5' ln', tc_I G b0' 10 ow', tc_I G b1' 10 gr', tc_I G b2' 10 we', tc_I G b3' 10 du', tc_I G b4' 10 sa', tc_D G b5' 10 le'] H := hP
  have hD : va_D A [tc_X0 a0 b0 b1 b2 b3 b4 b5 ln, tc_I G b0 10 ow', tc_I G b1 10 gr, tc_I G b2 10 we, tc_I G b3 10 du, tc_I G b4 10 sa, tc_D G b5 10 le, tc_X0 a9 b0' b1' b2' b3' b4' b5' ln', tc_I G b0' 10 ow', tc_I G b1' 10 gr', tc_I G b2' 10 we', tc_I G b3' 10 du', tc_I G b4' 10 sa', tc_D G b5' 10 le'] := hD
  refine lv_aload_n hx hb dX0_copyFrom_15 rfl (lv_at hl 1 rfl) ?_
  refine va_get (D := G.1) (ci := 0) (v := .ref b1') (C := RX0) (T := TX0) (N := 7) hx hb hts hiX0 hown hK hP 7 rfl rfl 1 (by decide) (hts (.fieldLink RX0 15 "TideMill$Lots" "grain" "[I") (List.mem_of_getElem? (i := 6) rfl)) (fun _ h9 => h9) rfl dX0_copyFrom_16 ?_
  refine lv_iconst (v := 0) hx hb dX0_copyFrom_19 (by decide) ?_
  refine lv_aload_n hx hb dX0_copyFrom_20 rfl (lv_at hl 0 rfl) ?_
  refine va_get (D := G.1) (ci := 0) (v := .ref b1) (C := RX0) (T := TX0) (N := 7) hx hb hts hiX0 hown hK hP 0 rfl rfl 1 (by decide) (hts (.fieldLink RX0 15 "TideMill$Lots" "grain" "[I") (List.mem_of_getElem? (i := 6) rfl)) (fun _ h9 => h9) rfl dX0_copyFrom_21 ?_
  refine lv_iconst (v := 0) hx hb dX0_copyFrom_24 (by decide) ?_
  refine lv_bipush (v := 10) hx hb dX0_copyFrom_25 (by decide) ?_
  refine va_copyi hx hb (by rw [hml]; exact hl.1.symm) hown (hts (.methodLink RX0 31 arraycopyName) (List.mem_of_getElem? (i := 2) rfl)) (hts (.native arraycopyName) (List.mem_of_getElem? (i := 3) rfl)) (hts (.static arraycopyName) (List.mem_of_getElem? (i := 4) rfl)) (hts (.initialized "java/lang/System") (List.mem_of_getElem? (i := 5) rfl)) hK hP hD hS 9 2 0 0 rfl rfl rfl rfl rfl (by decide) (by decide) (by decide) (by decide) (by decide) (fun _ _ => rfl) (Nat.le_of_ble_eq_true rfl) (Nat.le_of_ble_eq_true rfl) dX0_copyFrom_27 (fun H locs hP hD hS => ?_)
  have hP := tm_cpP_i (f := gr') (g := gr) (q := 2) (sp := (0 : Int32).toNatClampNeg) (dp := (0 : Int32).toNatClampNeg) (k := (10 : Int32).toNatClampNeg) (Nat.le_of_ble_eq_true rfl) rfl rfl rfl hP
  have hD := tm_cpD (q := 2) (e := .inl (G.2.1, 10, .inl gr')) (Nat.le_of_ble_eq_true rfl) hD
  have hP : va_P G.1 vwCl [tc_X0 a0 b0 b1 b2 b3 b4 b5 ln, tc_I G b0 10 ow', tc_I G b1 10 gr', tc_I G b2 10 we, tc_I G b3 10 du, tc_I G b4 10 sa, tc_D G b5 10 le, tc_X0 a9 b0' b1' b2' b3' b4' b5' ln', tc_I G b0' 10 ow', tc_I G b1' 10 gr', tc_I G b2' 10 we', tc_I G b3' 10 du', tc_I G b4' 10 sa', tc_D G b5' 10 le'] H := hP
  have hD : va_D A [tc_X0 a0 b0 b1 b2 b3 b4 b5 ln, tc_I G b0 10 ow', tc_I G b1 10 gr', tc_I G b2 10 we, tc_I G b3 10 du, tc_I G b4 10 sa, tc_D G b5 10 le, tc_X0 a9 b0' b1' b2' b3' b4' b5' ln', tc_I G b0' 10 ow', tc_I G b1' 10 gr', tc_I G b2' 10 we', tc_I G b3' 10 du', tc_I G b4' 10 sa', tc_D G b5' 10 le'] := hD
  refine lv_aload_n hx hb dX0_copyFrom_30 rfl (lv_at hl 1 rfl) ?_
  refine va_get (D := G.1) (ci := 0) (v := .ref b2') (C := RX0) (T := TX0) (N := 7) hx hb hts hiX0 hown hK hP 7 rfl rfl 2 (by decide) (hts (.fieldLink RX0 18 "TideMill$Lots" "weight" "[I") (List.mem_of_getElem? (i := 7) rfl)) (fun _ h9 => h9) rfl dX0_copyFrom_31 ?_
  refine lv_iconst (v := 0) hx hb dX0_copyFrom_34 (by decide) ?_
  refine lv_aload_n hx hb dX0_copyFrom_35 rfl (lv_at hl 0 rfl) ?_
  refine va_get (D := G.1) (ci := 0) (v := .ref b2) (C := RX0) (T := TX0) (N := 7) hx hb hts hiX0 hown hK hP 0 rfl rfl 2 (by decide) (hts (.fieldLink RX0 18 "TideMill$Lots" "weight" "[I") (List.mem_of_getElem? (i := 7) rfl)) (fun _ h9 => h9) rfl dX0_copyFrom_36 ?_
  refine lv_iconst (v := 0) hx hb dX0_copyFrom_39 (by decide) ?_
  refine lv_bipush (v := 10) hx hb dX0_copyFrom_40 (by decide) ?_
  refine va_copyi hx hb (by rw [hml]; exact hl.1.symm) hown (hts (.methodLink RX0 31 arraycopyName) (List.mem_of_getElem? (i := 2) rfl)) (hts (.native arraycopyName) (List.mem_of_getElem? (i := 3) rfl)) (hts (.static arraycopyName) (List.mem_of_getElem? (i := 4) rfl)) (hts (.initialized "java/lang/System") (List.mem_of_getElem? (i := 5) rfl)) hK hP hD hS 10 3 0 0 rfl rfl rfl rfl rfl (by decide) (by decide) (by decide) (by decide) (by decide) (fun _ _ => rfl) (Nat.le_of_ble_eq_true rfl) (Nat.le_of_ble_eq_true rfl) dX0_copyFrom_42 (fun H locs hP hD hS => ?_)
  have hP := tm_cpP_i (f := we') (g := we) (q := 3) (sp := (0 : Int32).toNatClampNeg) (dp := (0 : Int32).toNatClampNeg) (k := (10 : Int32).toNatClampNeg) (Nat.le_of_ble_eq_true rfl) rfl rfl rfl hP
  have hD := tm_cpD (q := 3) (e := .inl (G.2.1, 10, .inl we')) (Nat.le_of_ble_eq_true rfl) hD
  have hP : va_P G.1 vwCl [tc_X0 a0 b0 b1 b2 b3 b4 b5 ln, tc_I G b0 10 ow', tc_I G b1 10 gr', tc_I G b2 10 we', tc_I G b3 10 du, tc_I G b4 10 sa, tc_D G b5 10 le, tc_X0 a9 b0' b1' b2' b3' b4' b5' ln', tc_I G b0' 10 ow', tc_I G b1' 10 gr', tc_I G b2' 10 we', tc_I G b3' 10 du', tc_I G b4' 10 sa', tc_D G b5' 10 le'] H := hP
  have hD : va_D A [tc_X0 a0 b0 b1 b2 b3 b4 b5 ln, tc_I G b0 10 ow', tc_I G b1 10 gr', tc_I G b2 10 we', tc_I G b3 10 du, tc_I G b4 10 sa, tc_D G b5 10 le, tc_X0 a9 b0' b1' b2' b3' b4' b5' ln', tc_I G b0' 10 ow', tc_I G b1' 10 gr', tc_I G b2' 10 we', tc_I G b3' 10 du', tc_I G b4' 10 sa', tc_D G b5' 10 le'] := hD
  refine lv_aload_n hx hb dX0_copyFrom_45 rfl (lv_at hl 1 rfl) ?_
  refine va_get (D := G.1) (ci := 0) (v := .ref b3') (C := RX0) (T := TX0) (N := 7) hx hb hts hiX0 hown hK hP 7 rfl rfl 3 (by decide) (hts (.fieldLink RX0 21 "TideMill$Lots" "dueDay" "[I") (List.mem_of_getElem? (i := 8) rfl)) (fun _ h9 => h9) rfl dX0_copyFrom_46 ?_
  refine lv_iconst (v := 0) hx hb dX0_copyFrom_49 (by decide) ?_
  refine lv_aload_n hx hb dX0_copyFrom_50 rfl (lv_at hl 0 rfl) ?_
  refine va_get (D := G.1) (ci := 0) (v := .ref b3) (C := RX0) (T := TX0) (N := 7) hx hb hts hiX0 hown hK hP 0 rfl rfl 3 (by decide) (hts (.fieldLink RX0 21 "TideMill$Lots" "dueDay" "[I") (List.mem_of_getElem? (i := 8) rfl)) (fun _ h9 => h9) rfl dX0_copyFrom_51 ?_
  refine lv_iconst (v := 0) hx hb dX0_copyFrom_54 (by decide) ?_
  refine lv_bipush (v := 10) hx hb dX0_copyFrom_55 (by decide) ?_
  refine va_copyi hx hb (by rw [hml]; exact hl.1.symm) hown (hts (.methodLink RX0 31 arraycopyName) (List.mem_of_getElem? (i := 2) rfl)) (hts (.native arraycopyName) (List.mem_of_getElem? (i := 3) rfl)) (hts (.static arraycopyName) (List.mem_of_getElem? (i := 4) rfl)) (hts (.initialized "java/lang/System") (List.mem_of_getElem? (i := 5) rfl)) hK hP hD hS 11 4 0 0 rfl rfl rfl rfl rfl (by decide) (by decide) (by decide) (by decide) (by decide) (fun _ _ => rfl) (Nat.le_of_ble_eq_true rfl) (Nat.le_of_ble_eq_true rfl) dX0_copyFrom_57 (fun H locs hP hD hS => ?_)
  have hP := tm_cpP_i (f := du') (g := du) (q := 4) (sp := (0 : Int32).toNatClampNeg) (dp := (0 : Int32).toNatClampNeg) (k := (10 : Int32).toNatClampNeg) (Nat.le_of_ble_eq_true rfl) rfl rfl rfl hP
  have hD := tm_cpD (q := 4) (e := .inl (G.2.1, 10, .inl du')) (Nat.le_of_ble_eq_true rfl) hD
  have hP : va_P G.1 vwCl [tc_X0 a0 b0 b1 b2 b3 b4 b5 ln, tc_I G b0 10 ow', tc_I G b1 10 gr', tc_I G b2 10 we', tc_I G b3 10 du', tc_I G b4 10 sa, tc_D G b5 10 le, tc_X0 a9 b0' b1' b2' b3' b4' b5' ln', tc_I G b0' 10 ow', tc_I G b1' 10 gr', tc_I G b2' 10 we', tc_I G b3' 10 du', tc_I G b4' 10 sa', tc_D G b5' 10 le'] H := hP
  have hD : va_D A [tc_X0 a0 b0 b1 b2 b3 b4 b5 ln, tc_I G b0 10 ow', tc_I G b1 10 gr', tc_I G b2 10 we', tc_I G b3 10 du', tc_I G b4 10 sa, tc_D G b5 10 le, tc_X0 a9 b0' b1' b2' b3' b4' b5' ln', tc_I G b0' 10 ow', tc_I G b1' 10 gr', tc_I G b2' 10 we', tc_I G b3' 10 du', tc_I G b4' 10 sa', tc_D G b5' 10 le'] := hD
  refine lv_aload_n hx hb dX0_copyFrom_60 rfl (lv_at hl 1 rfl) ?_
  refine va_get (D := G.1) (ci := 0) (v := .ref b4') (C := RX0) (T := TX0) (N := 7) hx hb hts hiX0 hown hK hP 7 rfl rfl 4 (by decide) (hts (.fieldLink RX0 24 "TideMill$Lots" "state" "[I") (List.mem_of_getElem? (i := 9) rfl)) (fun _ h9 => h9) rfl dX0_copyFrom_61 ?_
  refine lv_iconst (v := 0) hx hb dX0_copyFrom_64 (by decide) ?_
  refine lv_aload_n hx hb dX0_copyFrom_65 rfl (lv_at hl 0 rfl) ?_
  refine va_get (D := G.1) (ci := 0) (v := .ref b4) (C := RX0) (T := TX0) (N := 7) hx hb hts hiX0 hown hK hP 0 rfl rfl 4 (by decide) (hts (.fieldLink RX0 24 "TideMill$Lots" "state" "[I") (List.mem_of_getElem? (i := 9) rfl)) (fun _ h9 => h9) rfl dX0_copyFrom_66 ?_
  refine lv_iconst (v := 0) hx hb dX0_copyFrom_69 (by decide) ?_
  refine lv_bipush (v := 10) hx hb dX0_copyFrom_70 (by decide) ?_
  refine va_copyi hx hb (by rw [hml]; exact hl.1.symm) hown (hts (.methodLink RX0 31 arraycopyName) (List.mem_of_getElem? (i := 2) rfl)) (hts (.native arraycopyName) (List.mem_of_getElem? (i := 3) rfl)) (hts (.static arraycopyName) (List.mem_of_getElem? (i := 4) rfl)) (hts (.initialized "java/lang/System") (List.mem_of_getElem? (i := 5) rfl)) hK hP hD hS 12 5 0 0 rfl rfl rfl rfl rfl (by decide) (by decide) (by decide) (by decide) (by decide) (fun _ _ => rfl) (Nat.le_of_ble_eq_true rfl) (Nat.le_of_ble_eq_true rfl) dX0_copyFrom_72 (fun H locs hP hD hS => ?_)
  have hP := tm_cpP_i (f := sa') (g := sa) (q := 5) (sp := (0 : Int32).toNatClampNeg) (dp := (0 : Int32).toNatClampNeg) (k := (10 : Int32).toNatClampNeg) (Nat.le_of_ble_eq_true rfl) rfl rfl rfl hP
  have hD := tm_cpD (q := 5) (e := .inl (G.2.1, 10, .inl sa')) (Nat.le_of_ble_eq_true rfl) hD
  have hP : va_P G.1 vwCl [tc_X0 a0 b0 b1 b2 b3 b4 b5 ln, tc_I G b0 10 ow', tc_I G b1 10 gr', tc_I G b2 10 we', tc_I G b3 10 du', tc_I G b4 10 sa', tc_D G b5 10 le, tc_X0 a9 b0' b1' b2' b3' b4' b5' ln', tc_I G b0' 10 ow', tc_I G b1' 10 gr', tc_I G b2' 10 we', tc_I G b3' 10 du', tc_I G b4' 10 sa', tc_D G b5' 10 le'] H := hP
  have hD : va_D A [tc_X0 a0 b0 b1 b2 b3 b4 b5 ln, tc_I G b0 10 ow', tc_I G b1 10 gr', tc_I G b2 10 we', tc_I G b3 10 du', tc_I G b4 10 sa', tc_D G b5 10 le, tc_X0 a9 b0' b1' b2' b3' b4' b5' ln', tc_I G b0' 10 ow', tc_I G b1' 10 gr', tc_I G b2' 10 we', tc_I G b3' 10 du', tc_I G b4' 10 sa', tc_D G b5' 10 le'] := hD
  refine lv_aload_n hx hb dX0_copyFrom_75 rfl (lv_at hl 1 rfl) ?_
  refine va_get (D := G.1) (ci := 0) (v := .ref b5') (C := RX0) (T := TX0) (N := 7) hx hb hts hiX0 hown hK hP 7 rfl rfl 5 (by decide) (hts (.fieldLink RX0 27 "TideMill$Lots" "left" "[D") (List.mem_of_getElem? (i := 10) rfl)) (fun _ h9 => h9) rfl dX0_copyFrom_76 ?_
  refine lv_iconst (v := 0) hx hb dX0_copyFrom_79 (by decide) ?_
  refine lv_aload_n hx hb dX0_copyFrom_80 rfl (lv_at hl 0 rfl) ?_
  refine va_get (D := G.1) (ci := 0) (v := .ref b5) (C := RX0) (T := TX0) (N := 7) hx hb hts hiX0 hown hK hP 0 rfl rfl 5 (by decide) (hts (.fieldLink RX0 27 "TideMill$Lots" "left" "[D") (List.mem_of_getElem? (i := 10) rfl)) (fun _ h9 => h9) rfl dX0_copyFrom_81 ?_
  refine lv_iconst (v := 0) hx hb dX0_copyFrom_84 (by decide) ?_
  refine lv_bipush (v := 10) hx hb dX0_copyFrom_85 (by decide) ?_
  refine va_copyd hx hb (by rw [hml]; exact hl.1.symm) hown (hts (.methodLink RX0 31 arraycopyName) (List.mem_of_getElem? (i := 2) rfl)) (hts (.native arraycopyName) (List.mem_of_getElem? (i := 3) rfl)) (hts (.static arraycopyName) (List.mem_of_getElem? (i := 4) rfl)) (hts (.initialized "java/lang/System") (List.mem_of_getElem? (i := 5) rfl)) hK hP hD hS 13 6 1 1 rfl rfl rfl rfl rfl (by decide) (by decide) (by decide) (by decide) (by decide) (fun _ _ => rfl) (Nat.le_of_ble_eq_true rfl) (Nat.le_of_ble_eq_true rfl) dX0_copyFrom_87 (fun H locs hP hD hS => ?_)
  have hP := tm_cpP_d (f := le') (g := le) (q := 6) (sp := (0 : Int32).toNatClampNeg) (dp := (0 : Int32).toNatClampNeg) (k := (10 : Int32).toNatClampNeg) (Nat.le_of_ble_eq_true rfl) rfl rfl rfl hP
  have hD := tm_cpD (q := 6) (e := .inl (G.2.2.1, 10, .inr (.inr (.inr (.inl le'))))) (Nat.le_of_ble_eq_true rfl) hD
  have hP : va_P G.1 vwCl [tc_X0 a0 b0 b1 b2 b3 b4 b5 ln, tc_I G b0 10 ow', tc_I G b1 10 gr', tc_I G b2 10 we', tc_I G b3 10 du', tc_I G b4 10 sa', tc_D G b5 10 le', tc_X0 a9 b0' b1' b2' b3' b4' b5' ln', tc_I G b0' 10 ow', tc_I G b1' 10 gr', tc_I G b2' 10 we', tc_I G b3' 10 du', tc_I G b4' 10 sa', tc_D G b5' 10 le'] H := hP
  have hD : va_D A [tc_X0 a0 b0 b1 b2 b3 b4 b5 ln, tc_I G b0 10 ow', tc_I G b1 10 gr', tc_I G b2 10 we', tc_I G b3 10 du', tc_I G b4 10 sa', tc_D G b5 10 le', tc_X0 a9 b0' b1' b2' b3' b4' b5' ln', tc_I G b0' 10 ow', tc_I G b1' 10 gr', tc_I G b2' 10 we', tc_I G b3' 10 du', tc_I G b4' 10 sa', tc_D G b5' 10 le'] := hD
  refine lv_aload_n hx hb dX0_copyFrom_90 rfl (lv_at hl 0 rfl) ?_
  refine lv_aload_n hx hb dX0_copyFrom_91 rfl (lv_at hl 1 rfl) ?_
  refine va_get (D := G.1) (ci := 0) (v := .int ln') (C := RX0) (T := TX0) (N := 7) hx hb hts hiX0 hown hK hP 7 rfl rfl 6 (by decide) (hts (.fieldLink RX0 37 "TideMill$Lots" "count" "I") (List.mem_of_getElem? (i := 11) rfl)) (fun _ h9 => h9) rfl dX0_copyFrom_92 ?_
  refine va_put (D := G.1) (ci := 0) (v := .int ln') (ty := .int) (C := RX0) (T := TX0) (N := 7) hx hb hts hiX0 tyX0 tyX0_ok nmX0 hown hK hP hD hS 0 rfl rfl 6 (by decide) (hts (.fieldLink RX0 37 "TideMill$Lots" "count" "I") (List.mem_of_getElem? (i := 11) rfl)) (fun _ h9 => h9) rfl (by decide +kernel) rfl rfl (Nat.le_of_ble_eq_true rfl) dX0_copyFrom_95 (fun H locs hP hD hS => ?_)
  have hP : va_P G.1 vwCl [tc_X0 a0 b0 b1 b2 b3 b4 b5 ln', tc_I G b0 10 ow', tc_I G b1 10 gr', tc_I G b2 10 we', tc_I G b3 10 du', tc_I G b4 10 sa', tc_D G b5 10 le', tc_X0 a9 b0' b1' b2' b3' b4' b5' ln', tc_I G b0' 10 ow', tc_I G b1' 10 gr', tc_I G b2' 10 we', tc_I G b3' 10 du', tc_I G b4' 10 sa', tc_D G b5' 10 le'] H := hP
  have hD : va_D A [tc_X0 a0 b0 b1 b2 b3 b4 b5 ln', tc_I G b0 10 ow', tc_I G b1 10 gr', tc_I G b2 10 we', tc_I G b3 10 du', tc_I G b4 10 sa', tc_D G b5 10 le', tc_X0 a9 b0' b1' b2' b3' b4' b5' ln', tc_I G b0' 10 ow', tc_I G b1' 10 gr', tc_I G b2' 10 we', tc_I G b3' 10 du', tc_I G b4' 10 sa', tc_D G b5' 10 le'] := hD
  exact W.vret hx hb hr (fun t ht hW => ⟨⟨(), rfl, trivial, by rw [ht]; exact hP, hD⟩, hS.F ht⟩) hS.2.2 dX0_copyFrom_98
set_option maxHeartbeats 4000000 in
set_option maxRecDepth 100000 in
theorem c_X2_copyFrom (l : Launch) (G : tm_G) (a0 : Nat) (d0 : Nat) (d1 : Nat) (d2 : Nat) (d3 : Nat) (a9 : Nat) (d0' : Nat) (d1' : Nat) (d2' : Nat) (d3' : Nat) (sz : Nat) (pn : Int32) (dl : Nat → UInt32) (pl : Nat → Int32) (dr : Nat → Int32) (sp : Nat → Int32) (pn' : Int32) (dl' : Nat → UInt32) (pl' : Nat → Int32) (dr' : Nat → Int32) (sp' : Nat → Int32) : Met l yX2_copyFrom wsX2_copyFrom ({ frames := 1, cells := 0, slots := 0, locals := 40 }) (va_Pc [.ref a0, .ref a9] (tm_B G [tc_X2 a0 d0 d1 d2 d3 pn, tc_F G d0 3 dl, tc_I G d1 3 pl, tc_I G d2 3 dr, tc_I G d3 3 sp, tc_X2 a9 d0' d1' d2' d3' pn', tc_F G d0' 3 dl', tc_I G d1' 3 pl', tc_I G d2' 3 dr', tc_I G d3' 3 sp'] sz)) (va_Qv (fun (_ : Unit) => True) (fun (_ : Unit) (t : State) => va_P G.1 vwCl [tc_X2 a0 d0 d1 d2 d3 pn', tc_F G d0 3 dl', tc_I G d1 3 pl', tc_I G d2 3 dr', tc_I G d3 3 sp', tc_X2 a9 d0' d1' d2' d3' pn', tc_F G d0' 3 dl', tc_I G d1' 3 pl', tc_I G d2' 3 dr', tc_I G d3' 3 sp'] t.heap ∧ va_D (va_A [tc_X2 a0 d0 d1 d2 d3 pn, tc_F G d0 3 dl, tc_I G d1 3 pl, tc_I G d2 3 dr, tc_I G d3 3 sp, tc_X2 a9 d0' d1' d2' d3' pn', tc_F G d0' 3 dl', tc_I G d1' 3 pl', tc_I G d2' 3 dr', tc_I G d3' 3 sp'] sz) [tc_X2 a0 d0 d1 d2 d3 pn', tc_F G d0 3 dl', tc_I G d1 3 pl', tc_I G d2 3 dr', tc_I G d3 3 sp', tc_X2 a9 d0' d1' d2' d3' pn', tc_F G d0' 3 dl', tc_I G d1' 3 pl', tc_I G d2' 3 dr', tc_I G d3' 3 sp']) (va_A [tc_X2 a0 d0 d1 d2 d3 pn, tc_F G d0 3 dl, tc_I G d1 3 pl, tc_I G d2 3 dr, tc_I G d3 3 sp, tc_X2 a9 d0' d1' d2' d3' pn', tc_F G d0' 3 dl', tc_I G d1' 3 pl', tc_I G d2' 3 dr', tc_I G d3' 3 sp'] sz)) 0 0 (va_A [tc_X2 a0 d0 d1 d2 d3 pn, tc_F G d0 3 dl, tc_I G d1 3 pl, tc_I G d2 3 dr, tc_I G d3 3 sp, tc_X2 a9 d0' d1' d2' d3' pn', tc_F G d0' 3 dl', tc_I G d1' 3 pl', tc_I G d2' 3 dr', tc_I G d3' 3 sp'] sz) := by
  refine Met.ofW (cc := cX2_copyFrom) (maxL := 2) (ret := none) (by decide) rfl ?_
  intro p e s m args below meth c s₁ B hml hv
  obtain ⟨rfl, hsz, hP, hK, hD0, hN, hV⟩ := hv
  have hx := B.exec
  have hb := B.bytes
  have hr := B.returns
  have hts := atoms_spec (ws := wsX2_copyFrom) B.pre
  have hown : s.vm.findClass RX2 = some m.cls := findClass_of_methodNamed B.named
  have hlocks := B.notSynchronized
  subst hsz
  have hiX2 : ∀ w ∈ u_ws RX2 TX2 5, w ∈ wsX2_copyFrom := fun _ h => List.mem_cons_of_mem _ (List.mem_append_right _ h)
  have hD := hD0.self (sz := s.heap.size)
  generalize hAe : va_A [tc_X2 a0 d0 d1 d2 d3 pn, tc_F G d0 3 dl, tc_I G d1 3 pl, tc_I G d2 3 dr, tc_I G d3 3 sp, tc_X2 a9 d0' d1' d2' d3' pn', tc_F G d0' 3 dl', tc_I G d1' 3 pl', tc_I G d2' 3 dr', tc_I G d3' 3 sp'] s.heap.size = A at hD hV ⊢
  have hA : ∀ q : Nat, s.heap.size ≤ q → A q := fun q h => by rw [← hAe]; exact Or.inr h
  have hS : va_S A s.heap s.heap [] := va_S.rf
  have hl := lv_entry ([.ref a0, .ref a9]) (n := 2) (Nat.le_of_ble_eq_true rfl)
  rw [lg_entry_eq]
  generalize (lg_sl ([.ref a0, .ref a9]) ++ List.replicate (2 - (lg_sl ([.ref a0, .ref a9])).length) Slot.unset).toArray = ls at hl ⊢
  have hl : lv_has ls 2 [(0, .ref a0), (1, .ref a9)] := hl
  refine lv_aload_n hx hb dX2_copyFrom_0 rfl (lv_at hl 1 rfl) ?_
  refine va_get (D := G.1) (ci := 2) (v := .ref d0') (C := RX2) (T := TX2) (N := 5) hx hb hts hiX2 hown hK hP 5 rfl rfl 0 (by decide) (hts (.fieldLink RX2 9 "TideMill$Pairs" "dull" "[F") (List.mem_of_getElem? (i := 1) rfl)) (fun _ h9 => h9) rfl dX2_copyFrom_1 ?_
  refine lv_iconst (v := 0) hx hb dX2_copyFrom_4 (by decide) ?_
  refine lv_aload_n hx hb dX2_copyFrom_5 rfl (lv_at hl 0 rfl) ?_
  refine va_get (D := G.1) (ci := 2) (v := .ref d0) (C := RX2) (T := TX2) (N := 5) hx hb hts hiX2 hown hK hP 0 rfl rfl 0 (by decide) (hts (.fieldLink RX2 9 "TideMill$Pairs" "dull" "[F") (List.mem_of_getElem? (i := 1) rfl)) (fun _ h9 => h9) rfl dX2_copyFrom_6 ?_
  refine lv_iconst (v := 0) hx hb dX2_copyFrom_9 (by decide) ?_
  refine lv_iconst (v := 3) hx hb dX2_copyFrom_10 (by decide) ?_
  refine va_copyf hx hb (by rw [hml]; exact hl.1.symm) hown (hts (.methodLink RX2 25 arraycopyName) (List.mem_of_getElem? (i := 2) rfl)) (hts (.native arraycopyName) (List.mem_of_getElem? (i := 3) rfl)) (hts (.static arraycopyName) (List.mem_of_getElem? (i := 4) rfl)) (hts (.initialized "java/lang/System") (List.mem_of_getElem? (i := 5) rfl)) hK hP hD hS 6 1 2 2 rfl rfl rfl rfl rfl (by decide) (by decide) (by decide) (by decide) (by decide) (fun _ _ => rfl) (Nat.le_of_ble_eq_true rfl) (Nat.le_of_ble_eq_true rfl) dX2_copyFrom_11 (fun H locs hP hD hS => ?_)
  have hP := tm_cpP_f (f := dl') (g := dl) (q := 1) (sp := (0 : Int32).toNatClampNeg) (dp := (0 : Int32).toNatClampNeg) (k := (3 : Int32).toNatClampNeg) (Nat.le_of_ble_eq_true rfl) rfl rfl rfl hP
  have hD := tm_cpD (q := 1) (e := .inl (G.2.2.2.1, 3, .inr (.inr (.inl dl')))) (Nat.le_of_ble_eq_true rfl) hD
  have hP : va_P G.1 vwCl [tc_X2 a0 d0 d1 d2 d3 pn, tc_F G d0 3 dl', tc_I G d1 3 pl, tc_I G d2 3 dr, tc_I G d3 3 sp, tc_X2 a9 d0' d1' d2' d3' pn', tc_F G d0' 3 dl', tc_I G d1' 3 pl', tc_I G d2' 3 dr', tc_I G d3' 3 sp'] H := hP
  have hD : va_D A [tc_X2 a0 d0 d1 d2 d3 pn, tc_F G d0 3 dl', tc_I G d1 3 pl, tc_I G d2 3 dr, tc_I G d3 3 sp, tc_X2 a9 d0' d1' d2' d3' pn', tc_F G d0' 3 dl', tc_I G d1' 3 pl', tc_I G d2' 3 dr', tc_I G d3' 3 sp'] := hD
  refine lv_aload_n hx hb dX2_copyFrom_14 rfl (lv_at hl 1 rfl) ?_
  refine va_get (D := G.1) (ci := 2) (v := .ref d1') (C := RX2) (T := TX2) (N := 5) hx hb hts hiX2 hown hK hP 5 rfl rfl 1 (by decide) (hts (.fieldLink RX2 15 "TideMill$Pairs" "lot" "[I") (List.mem_of_getElem? (i := 6) rfl)) (fun _ h9 => h9) rfl dX2_copyFrom_15 ?_
  refine lv_iconst (v := 0) hx hb dX2_copyFrom_18 (by decide) ?_
  refine lv_aload_n hx hb dX2_copyFrom_19 rfl (lv_at hl 0 rfl) ?_
  refine va_get (D := G.1) (ci := 2) (v := .ref d1) (C := RX2) (T := TX2) (N := 5) hx hb hts hiX2 hown hK hP 0 rfl rfl 1 (by decide) (hts (.fieldLink RX2 15 "TideMill$Pairs" "lot" "[I") (List.mem_of_getElem? (i := 6) rfl)) (fun _ h9 => h9) rfl dX2_copyFrom_20 ?_
  refine lv_iconst (v := 0) hx hb dX2_copyFrom_23 (by decide) ?_
  refine lv_iconst (v := 3) hx hb dX2_copyFrom_24 (by decide) ?_
  refine va_copyi hx hb (by rw [hml]; exact hl.1.symm) hown (hts (.methodLink RX2 25 arraycopyName) (List.mem_of_getElem? (i := 2) rfl)) (hts (.native arraycopyName) (List.mem_of_getElem? (i := 3) rfl)) (hts (.static arraycopyName) (List.mem_of_getElem? (i := 4) rfl)) (hts (.initialized "java/lang/System") (List.mem_of_getElem? (i := 5) rfl)) hK hP hD hS 7 2 0 0 rfl rfl rfl rfl rfl (by decide) (by decide) (by decide) (by decide) (by decide) (fun _ _ => rfl) (Nat.le_of_ble_eq_true rfl) (Nat.le_of_ble_eq_true rfl) dX2_copyFrom_25 (fun H locs hP hD hS => ?_)
  have hP := tm_cpP_i (f := pl') (g := pl) (q := 2) (sp := (0 : Int32).toNatClampNeg) (dp := (0 : Int32).toNatClampNeg) (k := (3 : Int32).toNatClampNeg) (Nat.le_of_ble_eq_true rfl) rfl rfl rfl hP
  have hD := tm_cpD (q := 2) (e := .inl (G.2.1, 3, .inl pl')) (Nat.le_of_ble_eq_true rfl) hD
  have hP : va_P G.1 vwCl [tc_X2 a0 d0 d1 d2 d3 pn, tc_F G d0 3 dl', tc_I G d1 3 pl', tc_I G d2 3 dr, tc_I G d3 3 sp, tc_X2 a9 d0' d1' d2' d3' pn', tc_F G d0' 3 dl', tc_I G d1' 3 pl', tc_I G d2' 3 dr', tc_I G d3' 3 sp'] H := hP
  have hD : va_D A [tc_X2 a0 d0 d1 d2 d3 pn, tc_F G d0 3 dl', tc_I G d1 3 pl', tc_I G d2 3 dr, tc_I G d3 3 sp, tc_X2 a9 d0' d1' d2' d3' pn', tc_F G d0' 3 dl', tc_I G d1' 3 pl', tc_I G d2' 3 dr', tc_I G d3' 3 sp'] := hD
  refine lv_aload_n hx hb dX2_copyFrom_28 rfl (lv_at hl 1 rfl) ?_
  refine va_get (D := G.1) (ci := 2) (v := .ref d2') (C := RX2) (T := TX2) (N := 5) hx hb hts hiX2 hown hK hP 5 rfl rfl 2 (by decide) (hts (.fieldLink RX2 19 "TideMill$Pairs" "dressing" "[I") (List.mem_of_getElem? (i := 7) rfl)) (fun _ h9 => h9) rfl dX2_copyFrom_29 ?_
  refine lv_iconst (v := 0) hx hb dX2_copyFrom_32 (by decide) ?_
  refine lv_aload_n hx hb dX2_copyFrom_33 rfl (lv_at hl 0 rfl) ?_
  refine va_get (D := G.1) (ci := 2) (v := .ref d2) (C := RX2) (T := TX2) (N := 5) hx hb hts hiX2 hown hK hP 0 rfl rfl 2 (by decide) (hts (.fieldLink RX2 19 "TideMill$Pairs" "dressing" "[I") (List.mem_of_getElem? (i := 7) rfl)) (fun _ h9 => h9) rfl dX2_copyFrom_34 ?_
  refine lv_iconst (v := 0) hx hb dX2_copyFrom_37 (by decide) ?_
  refine lv_iconst (v := 3) hx hb dX2_copyFrom_38 (by decide) ?_
  refine va_copyi hx hb (by rw [hml]; exact hl.1.symm) hown (hts (.methodLink RX2 25 arraycopyName) (List.mem_of_getElem? (i := 2) rfl)) (hts (.native arraycopyName) (List.mem_of_getElem? (i := 3) rfl)) (hts (.static arraycopyName) (List.mem_of_getElem? (i := 4) rfl)) (hts (.initialized "java/lang/System") (List.mem_of_getElem? (i := 5) rfl)) hK hP hD hS 8 3 0 0 rfl rfl rfl rfl rfl (by decide) (by decide) (by decide) (by decide) (by decide) (fun _ _ => rfl) (Nat.le_of_ble_eq_true rfl) (Nat.le_of_ble_eq_true rfl) dX2_copyFrom_39 (fun H locs hP hD hS => ?_)
  have hP := tm_cpP_i (f := dr') (g := dr) (q := 3) (sp := (0 : Int32).toNatClampNeg) (dp := (0 : Int32).toNatClampNeg) (k := (3 : Int32).toNatClampNeg) (Nat.le_of_ble_eq_true rfl) rfl rfl rfl hP
  have hD := tm_cpD (q := 3) (e := .inl (G.2.1, 3, .inl dr')) (Nat.le_of_ble_eq_true rfl) hD
  have hP : va_P G.1 vwCl [tc_X2 a0 d0 d1 d2 d3 pn, tc_F G d0 3 dl', tc_I G d1 3 pl', tc_I G d2 3 dr', tc_I G d3 3 sp, tc_X2 a9 d0' d1' d2' d3' pn', tc_F G d0' 3 dl', tc_I G d1' 3 pl', tc_I G d2' 3 dr', tc_I G d3' 3 sp'] H := hP
  have hD : va_D A [tc_X2 a0 d0 d1 d2 d3 pn, tc_F G d0 3 dl', tc_I G d1 3 pl', tc_I G d2 3 dr', tc_I G d3 3 sp, tc_X2 a9 d0' d1' d2' d3' pn', tc_F G d0' 3 dl', tc_I G d1' 3 pl', tc_I G d2' 3 dr', tc_I G d3' 3 sp'] := hD
  refine lv_aload_n hx hb dX2_copyFrom_42 rfl (lv_at hl 1 rfl) ?_
  refine va_get (D := G.1) (ci := 2) (v := .ref d3') (C := RX2) (T := TX2) (N := 5) hx hb hts hiX2 hown hK hP 5 rfl rfl 3 (by decide) (hts (.fieldLink RX2 22 "TideMill$Pairs" "sparks" "[I") (List.mem_of_getElem? (i := 8) rfl)) (fun _ h9 => h9) rfl dX2_copyFrom_43 ?_
  refine lv_iconst (v := 0) hx hb dX2_copyFrom_46 (by decide) ?_
  refine lv_aload_n hx hb dX2_copyFrom_47 rfl (lv_at hl 0 rfl) ?_
  refine va_get (D := G.1) (ci := 2) (v := .ref d3) (C := RX2) (T := TX2) (N := 5) hx hb hts hiX2 hown hK hP 0 rfl rfl 3 (by decide) (hts (.fieldLink RX2 22 "TideMill$Pairs" "sparks" "[I") (List.mem_of_getElem? (i := 8) rfl)) (fun _ h9 => h9) rfl dX2_copyFrom_48 ?_
  refine lv_iconst (v := 0) hx hb dX2_copyFrom_51 (by decide) ?_
  refine lv_iconst (v := 3) hx hb dX2_copyFrom_52 (by decide) ?_
  refine va_copyi hx hb (by rw [hml]; exact hl.1.symm) hown (hts (.methodLink RX2 25 arraycopyName) (List.mem_of_getElem? (i := 2) rfl)) (hts (.native arraycopyName) (List.mem_of_getElem? (i := 3) rfl)) (hts (.static arraycopyName) (List.mem_of_getElem? (i := 4) rfl)) (hts (.initialized "java/lang/System") (List.mem_of_getElem? (i := 5) rfl)) hK hP hD hS 9 4 0 0 rfl rfl rfl rfl rfl (by decide) (by decide) (by decide) (by decide) (by decide) (fun _ _ => rfl) (Nat.le_of_ble_eq_true rfl) (Nat.le_of_ble_eq_true rfl) dX2_copyFrom_53 (fun H locs hP hD hS => ?_)
  have hP := tm_cpP_i (f := sp') (g := sp) (q := 4) (sp := (0 : Int32).toNatClampNeg) (dp := (0 : Int32).toNatClampNeg) (k := (3 : Int32).toNatClampNeg) (Nat.le_of_ble_eq_true rfl) rfl rfl rfl hP
  have hD := tm_cpD (q := 4) (e := .inl (G.2.1, 3, .inl sp')) (Nat.le_of_ble_eq_true rfl) hD
  have hP : va_P G.1 vwCl [tc_X2 a0 d0 d1 d2 d3 pn, tc_F G d0 3 dl', tc_I G d1 3 pl', tc_I G d2 3 dr', tc_I G d3 3 sp', tc_X2 a9 d0' d1' d2' d3' pn', tc_F G d0' 3 dl', tc_I G d1' 3 pl', tc_I G d2' 3 dr', tc_I G d3' 3 sp'] H := hP
  have hD : va_D A [tc_X2 a0 d0 d1 d2 d3 pn, tc_F G d0 3 dl', tc_I G d1 3 pl', tc_I G d2 3 dr', tc_I G d3 3 sp', tc_X2 a9 d0' d1' d2' d3' pn', tc_F G d0' 3 dl', tc_I G d1' 3 pl', tc_I G d2' 3 dr', tc_I G d3' 3 sp'] := hD
  refine lv_aload_n hx hb dX2_copyFrom_56 rfl (lv_at hl 0 rfl) ?_
  refine lv_aload_n hx hb dX2_copyFrom_57 rfl (lv_at hl 1 rfl) ?_
  refine va_get (D := G.1) (ci := 2) (v := .int pn') (C := RX2) (T := TX2) (N := 5) hx hb hts hiX2 hown hK hP 5 rfl rfl 4 (by decide) (hts (.fieldLink RX2 31 "TideMill$Pairs" "count" "I") (List.mem_of_getElem? (i := 9) rfl)) (fun _ h9 => h9) rfl dX2_copyFrom_58 ?_
  refine va_put (D := G.1) (ci := 2) (v := .int pn') (ty := .int) (C := RX2) (T := TX2) (N := 5) hx hb hts hiX2 tyX2 tyX2_ok nmX2 hown hK hP hD hS 0 rfl rfl 4 (by decide) (hts (.fieldLink RX2 31 "TideMill$Pairs" "count" "I") (List.mem_of_getElem? (i := 9) rfl)) (fun _ h9 => h9) rfl (by decide +kernel) rfl rfl (Nat.le_of_ble_eq_true rfl) dX2_copyFrom_61 (fun H locs hP hD hS => ?_)
  have hP : va_P G.1 vwCl [tc_X2 a0 d0 d1 d2 d3 pn', tc_F G d0 3 dl', tc_I G d1 3 pl', tc_I G d2 3 dr', tc_I G d3 3 sp', tc_X2 a9 d0' d1' d2' d3' pn', tc_F G d0' 3 dl', tc_I G d1' 3 pl', tc_I G d2' 3 dr', tc_I G d3' 3 sp'] H := hP
  have hD : va_D A [tc_X2 a0 d0 d1 d2 d3 pn', tc_F G d0 3 dl', tc_I G d1 3 pl', tc_I G d2 3 dr', tc_I G d3 3 sp', tc_X2 a9 d0' d1' d2' d3' pn', tc_F G d0' 3 dl', tc_I G d1' 3 pl', tc_I G d2' 3 dr', tc_I G d3' 3 sp'] := hD
  exact W.vret hx hb hr (fun t ht hW => ⟨⟨(), rfl, trivial, by rw [ht]; exact hP, hD⟩, hS.F ht⟩) hS.2.2 dX2_copyFrom_64
set_option maxHeartbeats 4000000 in
set_option maxRecDepth 100000 in
theorem c_X1_copyFrom (l : Launch) (G : tm_G) (a0 : Nat) (a1 : Nat) (a2 : Nat) (a3 : Nat) (a4 : Nat) (b0 : Nat) (b1 : Nat) (b2 : Nat) (b3 : Nat) (b4 : Nat) (b5 : Nat) (d0 : Nat) (d1 : Nat) (d2 : Nat) (d3 : Nat) (a9 : Nat) (a1' : Nat) (a2' : Nat) (a3' : Nat) (a4' : Nat) (b0' : Nat) (b1' : Nat) (b2' : Nat) (b3' : Nat) (b4' : Nat) (b5' : Nat) (d0' : Nat) (d1' : Nat) (d2' : Nat) (d3' : Nat) (sz : Nat) (fh : Int32) (lh : Int32) (ee : Int32) (tk : Int32) (mo : Int32) (su : UInt64) (lv : UInt64) (si : UInt32) (ga : Int32) (sl : Int32) (sc : Int32) (fo : UInt64) (ln : Int32) (ow : Nat → Int32) (gr : Nat → Int32) (we : Nat → Int32) (du : Nat → Int32) (sa : Nat → Int32) (le : Nat → UInt64) (pn : Int32) (dl : Nat → UInt32) (pl : Nat → Int32) (dr : Nat → Int32) (sp : Nat → Int32) (fh' : Int32) (lh' : Int32) (ee' : Int32) (tk' : Int32) (mo' : Int32) (su' : UInt64) (lv' : UInt64) (si' : UInt32) (ga' : Int32) (sl' : Int32) (sc' : Int32) (fo' : UInt64) (ln' : Int32) (ow' : Nat → Int32) (gr' : Nat → Int32) (we' : Nat → Int32) (du' : Nat → Int32) (sa' : Nat → Int32) (le' : Nat → UInt64) (pn' : Int32) (dl' : Nat → UInt32) (pl' : Nat → Int32) (dr' : Nat → Int32) (sp' : Nat → Int32) (hn : n_X1_copyFrom sc') : Met l yX1_copyFrom wsX1_copyFrom ({ frames := 2, cells := 0, slots := 0, locals := 61 }) (va_Pc [.ref a0, .ref a9] (tm_B G [tc_X1 a0 a1 a2 a3 a4 fh lh ee, tc_X4 a1 tk mo su, tc_X3 a2 lv si ga sl sc fo, tc_X0 a3 b0 b1 b2 b3 b4 b5 ln, tc_I G b0 10 ow, tc_I G b1 10 gr, tc_I G b2 10 we, tc_I G b3 10 du, tc_I G b4 10 sa, tc_D G b5 10 le, tc_X2 a4 d0 d1 d2 d3 pn, tc_F G d0 3 dl, tc_I G d1 3 pl, tc_I G d2 3 dr, tc_I G d3 3 sp, tc_X1 a9 a1' a2' a3' a4' fh' lh' ee', tc_X4 a1' tk' mo' su', tc_X3 a2' lv' si' ga' sl' sc' fo', tc_X0 a3' b0' b1' b2' b3' b4' b5' ln', tc_I G b0' 10 ow', tc_I G b1' 10 gr', tc_I G b2' 10 we', tc_I G b3' 10 du', tc_I G b4' 10 sa', tc_D G b5' 10 le', tc_X2 a4' d0' d1' d2' d3' pn', tc_F G d0' 3 dl', tc_I G d1' 3 pl', tc_I G d2' 3 dr', tc_I G d3' 3 sp'] sz)) (va_Qv (fun (_ : Unit) => True) (fun (_ : Unit) (t : State) => va_P G.1 vwCl [tc_X1 a0 a1 a2 a3 a4 fh' lh' ee', tc_X1 a9 a1' a2' a3' a4' fh' lh' ee', tc_X4 a1 tk' mo' su', tc_X4 a1' tk' mo' su', tc_X3 a2 lv' si' ga' sl' sc' fo', tc_X3 a2' lv' si' ga' sl' sc' fo', tc_X0 a3 b0 b1 b2 b3 b4 b5 ln', tc_I G b0 10 ow', tc_I G b1 10 gr', tc_I G b2 10 we', tc_I G b3 10 du', tc_I G b4 10 sa', tc_D G b5 10 le', tc_X0 a3' b0' b1' b2' b3' b4' b5' ln', tc_I G b0' 10 ow', tc_I G b1' 10 gr', tc_I G b2' 10 we', tc_I G b3' 10 du', tc_I G b4' 10 sa', tc_D G b5' 10 le', tc_X2 a4 d0 d1 d2 d3 pn', tc_F G d0 3 dl', tc_I G d1 3 pl', tc_I G d2 3 dr', tc_I G d3 3 sp', tc_X2 a4' d0' d1' d2' d3' pn', tc_F G d0' 3 dl', tc_I G d1' 3 pl', tc_I G d2' 3 dr', tc_I G d3' 3 sp'] t.heap ∧ va_D (va_A [tc_X1 a0 a1 a2 a3 a4 fh lh ee, tc_X4 a1 tk mo su, tc_X3 a2 lv si ga sl sc fo, tc_X0 a3 b0 b1 b2 b3 b4 b5 ln, tc_I G b0 10 ow, tc_I G b1 10 gr, tc_I G b2 10 we, tc_I G b3 10 du, tc_I G b4 10 sa, tc_D G b5 10 le, tc_X2 a4 d0 d1 d2 d3 pn, tc_F G d0 3 dl, tc_I G d1 3 pl, tc_I G d2 3 dr, tc_I G d3 3 sp, tc_X1 a9 a1' a2' a3' a4' fh' lh' ee', tc_X4 a1' tk' mo' su', tc_X3 a2' lv' si' ga' sl' sc' fo', tc_X0 a3' b0' b1' b2' b3' b4' b5' ln', tc_I G b0' 10 ow', tc_I G b1' 10 gr', tc_I G b2' 10 we', tc_I G b3' 10 du', tc_I G b4' 10 sa', tc_D G b5' 10 le', tc_X2 a4' d0' d1' d2' d3' pn', tc_F G d0' 3 dl', tc_I G d1' 3 pl', tc_I G d2' 3 dr', tc_I G d3' 3 sp'] sz) [tc_X1 a0 a1 a2 a3 a4 fh' lh' ee', tc_X1 a9 a1' a2' a3' a4' fh' lh' ee', tc_X4 a1 tk' mo' su', tc_X4 a1' tk' mo' su', tc_X3 a2 lv' si' ga' sl' sc' fo', tc_X3 a2' lv' si' ga' sl' sc' fo', tc_X0 a3 b0 b1 b2 b3 b4 b5 ln', tc_I G b0 10 ow', tc_I G b1 10 gr', tc_I G b2 10 we', tc_I G b3 10 du', tc_I G b4 10 sa', tc_D G b5 10 le', tc_X0 a3' b0' b1' b2' b3' b4' b5' ln', tc_I G b0' 10 ow', tc_I G b1' 10 gr', tc_I G b2' 10 we', tc_I G b3' 10 du', tc_I G b4' 10 sa', tc_D G b5' 10 le', tc_X2 a4 d0 d1 d2 d3 pn', tc_F G d0 3 dl', tc_I G d1 3 pl', tc_I G d2 3 dr', tc_I G d3 3 sp', tc_X2 a4' d0' d1' d2' d3' pn', tc_F G d0' 3 dl', tc_I G d1' 3 pl', tc_I G d2' 3 dr', tc_I G d3' 3 sp']) (va_A [tc_X1 a0 a1 a2 a3 a4 fh lh ee, tc_X4 a1 tk mo su, tc_X3 a2 lv si ga sl sc fo, tc_X0 a3 b0 b1 b2 b3 b4 b5 ln, tc_I G b0 10 ow, tc_I G b1 10 gr, tc_I G b2 10 we, tc_I G b3 10 du, tc_I G b4 10 sa, tc_D G b5 10 le, tc_X2 a4 d0 d1 d2 d3 pn, tc_F G d0 3 dl, tc_I G d1 3 pl, tc_I G d2 3 dr, tc_I G d3 3 sp, tc_X1 a9 a1' a2' a3' a4' fh' lh' ee', tc_X4 a1' tk' mo' su', tc_X3 a2' lv' si' ga' sl' sc' fo', tc_X0 a3' b0' b1' b2' b3' b4' b5' ln', tc_I G b0' 10 ow', tc_I G b1' 10 gr', tc_I G b2' 10 we', tc_I G b3' 10 du', tc_I G b4' 10 sa', tc_D G b5' 10 le', tc_X2 a4' d0' d1' d2' d3' pn', tc_F G d0' 3 dl', tc_I G d1' 3 pl', tc_I G d2' 3 dr', tc_I G d3' 3 sp'] sz)) 0 0 (va_A [tc_X1 a0 a1 a2 a3 a4 fh lh ee, tc_X4 a1 tk mo su, tc_X3 a2 lv si ga sl sc fo, tc_X0 a3 b0 b1 b2 b3 b4 b5 ln, tc_I G b0 10 ow, tc_I G b1 10 gr, tc_I G b2 10 we, tc_I G b3 10 du, tc_I G b4 10 sa, tc_D G b5 10 le, tc_X2 a4 d0 d1 d2 d3 pn, tc_F G d0 3 dl, tc_I G d1 3 pl, tc_I G d2 3 dr, tc_I G d3 3 sp, tc_X1 a9 a1' a2' a3' a4' fh' lh' ee', tc_X4 a1' tk' mo' su', tc_X3 a2' lv' si' ga' sl' sc' fo', tc_X0 a3' b0' b1' b2' b3' b4' b5' ln', tc_I G b0' 10 ow', tc_I G b1' 10 gr', tc_I G b2' 10 we', tc_I G b3' 10 du', tc_I G b4' 10 sa', tc_D G b5' 10 le', tc_X2 a4' d0' d1' d2' d3' pn', tc_F G d0' 3 dl', tc_I G d1' 3 pl', tc_I G d2' 3 dr', tc_I G d3' 3 sp'] sz) := by
  refine Met.ofW (cc := cX1_copyFrom) (maxL := 2) (ret := none) (by decide) rfl ?_
  intro p e s m args below meth c s₁ B hml hv
  obtain ⟨rfl, hsz, hP, hK, hD0, hN, hV⟩ := hv
  have hx := B.exec
  have hb := B.bytes
  have hr := B.returns
  have hts := atoms_spec (ws := wsX1_copyFrom) B.pre
  have hown : s.vm.findClass RX1 = some m.cls := findClass_of_methodNamed B.named
  have hlocks := B.notSynchronized
  subst hsz
  have n_2 := hn
  unfold n_X1_copyFrom at n_2
  have hiX1 : ∀ w ∈ u_ws RX1 TX1 7, w ∈ wsX1_copyFrom := fun _ h => List.mem_cons_of_mem _ (List.mem_append_left _ (List.mem_append_left _ (List.mem_append_left _ (List.mem_append_left _ (List.mem_append_right _ h)))))
  have hD := hD0.self (sz := s.heap.size)
  generalize hAe : va_A [tc_X1 a0 a1 a2 a3 a4 fh lh ee, tc_X4 a1 tk mo su, tc_X3 a2 lv si ga sl sc fo, tc_X0 a3 b0 b1 b2 b3 b4 b5 ln, tc_I G b0 10 ow, tc_I G b1 10 gr, tc_I G b2 10 we, tc_I G b3 10 du, tc_I G b4 10 sa, tc_D G b5 10 le, tc_X2 a4 d0 d1 d2 d3 pn, tc_F G d0 3 dl, tc_I G d1 3 pl, tc_I G d2 3 dr, tc_I G d3 3 sp, tc_X1 a9 a1' a2' a3' a4' fh' lh' ee', tc_X4 a1' tk' mo' su', tc_X3 a2' lv' si' ga' sl' sc' fo', tc_X0 a3' b0' b1' b2' b3' b4' b5' ln', tc_I G b0' 10 ow', tc_I G b1' 10 gr', tc_I G b2' 10 we', tc_I G b3' 10 du', tc_I G b4' 10 sa', tc_D G b5' 10 le', tc_X2 a4' d0' d1' d2' d3' pn', tc_F G d0' 3 dl', tc_I G d1' 3 pl', tc_I G d2' 3 dr', tc_I G d3' 3 sp'] s.heap.size = A at hD hV ⊢
  have hA : ∀ q : Nat, s.heap.size ≤ q → A q := fun q h => by rw [← hAe]; exact Or.inr h
  have hS : va_S A s.heap s.heap [] := va_S.rf
  have hl := lv_entry ([.ref a0, .ref a9]) (n := 2) (Nat.le_of_ble_eq_true rfl)
  rw [lg_entry_eq]
  generalize (lg_sl ([.ref a0, .ref a9]) ++ List.replicate (2 - (lg_sl ([.ref a0, .ref a9])).length) Slot.unset).toArray = ls at hl ⊢
  have hl : lv_has ls 2 [(0, .ref a0), (1, .ref a9)] := hl
  refine lv_aload_n hx hb dX1_copyFrom_0 rfl (lv_at hl 0 rfl) ?_
  refine va_get (D := G.1) (ci := 1) (v := .ref a1) (C := RX1) (T := TX1) (N := 7) hx hb hts hiX1 hown hK hP 0 rfl rfl 0 (by decide) (hts (.fieldLink RX1 12 "TideMill$Mill" "sea" "LTideMill$Sea;") (List.mem_of_getElem? (i := 1) rfl)) (fun _ h9 => h9) rfl dX1_copyFrom_1 ?_
  refine lv_aload_n hx hb dX1_copyFrom_4 rfl (lv_at hl 1 rfl) ?_
  refine va_get (D := G.1) (ci := 1) (v := .ref a1') (C := RX1) (T := TX1) (N := 7) hx hb hts hiX1 hown hK hP 15 rfl rfl 0 (by decide) (hts (.fieldLink RX1 12 "TideMill$Mill" "sea" "LTideMill$Sea;") (List.mem_of_getElem? (i := 1) rfl)) (fun _ h9 => h9) rfl dX1_copyFrom_5 ?_
  have hPc := hP.sub (ws' := [tc_X4 a1 tk mo su, tc_X4 a1' tk' mo' su']) [1, 16] rfl
  have hDc := hD.sub (ws' := [tc_X4 a1 tk mo su, tc_X4 a1' tk' mo' su']) [1, 16] (by decide) rfl
  have hFc := va_free (wc := [tc_X4 a1 tk mo su, tc_X4 a1' tk' mo' su']) hD hS hA [1, 16] rfl
  refine va_callv (va_runV (As := [.ref a1']) (rest := []) ⟨hx, hb, hml, hown, hts⟩ (c_X4_copyFrom l G a1 a1' s.heap.size tk mo su tk' mo' su' ) (cwV 1 hts gX1_copyFrom_X4_copyFrom rfl rfl rfl (by decide +kernel) ⟨(Nat.le_of_ble_eq_true rfl), (Nat.le_of_ble_eq_true rfl)⟩) (tm_preV hK hN hV hS hPc hDc hFc (va_recv hK hPc (ci := 4) (q0 := 0) rfl rfl)) rfl rfl hl.1 rfl (lv_room (Nat.le_of_ble_eq_true rfl)) dX1_copyFrom_8 ⟨(Nat.le_of_ble_eq_true rfl), (Nat.le_of_ble_eq_true rfl)⟩) hS (fun q _ h => hFc q h) hFc (fun u t H locs ht hvm hw_1 hB hz1 hk1 hS => ?_)
  obtain ⟨hP1, hD1⟩ := hB
  rw [ht] at hP1
  obtain ⟨hP, hD⟩ := va_join (wr := [tc_X1 a0 a1 a2 a3 a4 fh lh ee, tc_X3 a2 lv si ga sl sc fo, tc_X0 a3 b0 b1 b2 b3 b4 b5 ln, tc_I G b0 10 ow, tc_I G b1 10 gr, tc_I G b2 10 we, tc_I G b3 10 du, tc_I G b4 10 sa, tc_D G b5 10 le, tc_X2 a4 d0 d1 d2 d3 pn, tc_F G d0 3 dl, tc_I G d1 3 pl, tc_I G d2 3 dr, tc_I G d3 3 sp, tc_X1 a9 a1' a2' a3' a4' fh' lh' ee', tc_X3 a2' lv' si' ga' sl' sc' fo', tc_X0 a3' b0' b1' b2' b3' b4' b5' ln', tc_I G b0' 10 ow', tc_I G b1' 10 gr', tc_I G b2' 10 we', tc_I G b3' 10 du', tc_I G b4' 10 sa', tc_D G b5' 10 le', tc_X2 a4' d0' d1' d2' d3' pn', tc_F G d0' 3 dl', tc_I G d1' 3 pl', tc_I G d2' 3 dr', tc_I G d3' 3 sp']) (w1 := [tc_X4 a1 tk' mo' su', tc_X4 a1' tk' mo' su']) hP hD [1, 16] [0, 2, 3, 4, 5, 6, 7, 8, 9, 10, 11, 12, 13, 14, 15, 17, 18, 19, 20, 21, 22, 23, 24, 25, 26, 27, 28, 29] rfl rfl (by decide) (by decide) hk1 hFc hP1 hD1
  have hP : va_P G.1 vwCl [tc_X1 a0 a1 a2 a3 a4 fh lh ee, tc_X3 a2 lv si ga sl sc fo, tc_X0 a3 b0 b1 b2 b3 b4 b5 ln, tc_I G b0 10 ow, tc_I G b1 10 gr, tc_I G b2 10 we, tc_I G b3 10 du, tc_I G b4 10 sa, tc_D G b5 10 le, tc_X2 a4 d0 d1 d2 d3 pn, tc_F G d0 3 dl, tc_I G d1 3 pl, tc_I G d2 3 dr, tc_I G d3 3 sp, tc_X1 a9 a1' a2' a3' a4' fh' lh' ee', tc_X3 a2' lv' si' ga' sl' sc' fo', tc_X0 a3' b0' b1' b2' b3' b4' b5' ln', tc_I G b0' 10 ow', tc_I G b1' 10 gr', tc_I G b2' 10 we', tc_I G b3' 10 du', tc_I G b4' 10 sa', tc_D G b5' 10 le', tc_X2 a4' d0' d1' d2' d3' pn', tc_F G d0' 3 dl', tc_I G d1' 3 pl', tc_I G d2' 3 dr', tc_I G d3' 3 sp', tc_X4 a1 tk' mo' su', tc_X4 a1' tk' mo' su'] H := hP
  have hD : va_D A [tc_X1 a0 a1 a2 a3 a4 fh lh ee, tc_X3 a2 lv si ga sl sc fo, tc_X0 a3 b0 b1 b2 b3 b4 b5 ln, tc_I G b0 10 ow, tc_I G b1 10 gr, tc_I G b2 10 we, tc_I G b3 10 du, tc_I G b4 10 sa, tc_D G b5 10 le, tc_X2 a4 d0 d1 d2 d3 pn, tc_F G d0 3 dl, tc_I G d1 3 pl, tc_I G d2 3 dr, tc_I G d3 3 sp, tc_X1 a9 a1' a2' a3' a4' fh' lh' ee', tc_X3 a2' lv' si' ga' sl' sc' fo', tc_X0 a3' b0' b1' b2' b3' b4' b5' ln', tc_I G b0' 10 ow', tc_I G b1' 10 gr', tc_I G b2' 10 we', tc_I G b3' 10 du', tc_I G b4' 10 sa', tc_D G b5' 10 le', tc_X2 a4' d0' d1' d2' d3' pn', tc_F G d0' 3 dl', tc_I G d1' 3 pl', tc_I G d2' 3 dr', tc_I G d3' 3 sp', tc_X4 a1 tk' mo' su', tc_X4 a1' tk' mo' su'] := hD
  refine lv_aload_n hx hb dX1_copyFrom_11 rfl (lv_at hl 0 rfl) ?_
  refine va_get (D := G.1) (ci := 1) (v := .ref a2) (C := RX1) (T := TX1) (N := 7) hx hb hts hiX1 hown hK hP 0 rfl rfl 1 (by decide) (hts (.fieldLink RX1 21 "TideMill$Mill" "pond" "LTideMill$Pond;") (List.mem_of_getElem? (i := 2) rfl)) (fun _ h9 => h9) rfl dX1_copyFrom_12 ?_
  refine lv_aload_n hx hb dX1_copyFrom_15 rfl (lv_at hl 1 rfl) ?_
  refine va_get (D := G.1) (ci := 1) (v := .ref a2') (C := RX1) (T := TX1) (N := 7) hx hb hts hiX1 hown hK hP 14 rfl rfl 1 (by decide) (hts (.fieldLink RX1 21 "TideMill$Mill" "pond" "LTideMill$Pond;") (List.mem_of_getElem? (i := 2) rfl)) (fun _ h9 => h9) rfl dX1_copyFrom_16 ?_
  have hPc := hP.sub (ws' := [tc_X3 a2 lv si ga sl sc fo, tc_X3 a2' lv' si' ga' sl' sc' fo']) [1, 15] rfl
  have hDc := hD.sub (ws' := [tc_X3 a2 lv si ga sl sc fo, tc_X3 a2' lv' si' ga' sl' sc' fo']) [1, 15] (by decide) rfl
  have hFc := va_free (wc := [tc_X3 a2 lv si ga sl sc fo, tc_X3 a2' lv' si' ga' sl' sc' fo']) hD hS hA [1, 15] rfl
  refine va_callv (va_runV (As := [.ref a2']) (rest := []) ⟨hx, hb, hml, hown, hts⟩ (c_X3_copyFrom l G a2 a2' H.size lv si ga sl sc fo lv' si' ga' sl' sc' fo' n_2) (cwV 1 hts gX1_copyFrom_X3_copyFrom rfl rfl rfl (by decide +kernel) ⟨(Nat.le_of_ble_eq_true rfl), (Nat.le_of_ble_eq_true rfl)⟩) (tm_preV hK hN hV hS hPc hDc hFc (va_recv hK hPc (ci := 3) (q0 := 0) rfl rfl)) rfl rfl hl.1 rfl (lv_room (Nat.le_of_ble_eq_true rfl)) dX1_copyFrom_19 ⟨(Nat.le_of_ble_eq_true rfl), (Nat.le_of_ble_eq_true rfl)⟩) hS (fun q _ h => hFc q h) hFc (fun u t H locs ht hvm hw_3 hB hz1 hk1 hS => ?_)
  obtain ⟨hP1, hD1⟩ := hB
  rw [ht] at hP1
  obtain ⟨hP, hD⟩ := va_join (wr := [tc_X1 a0 a1 a2 a3 a4 fh lh ee, tc_X0 a3 b0 b1 b2 b3 b4 b5 ln, tc_I G b0 10 ow, tc_I G b1 10 gr, tc_I G b2 10 we, tc_I G b3 10 du, tc_I G b4 10 sa, tc_D G b5 10 le, tc_X2 a4 d0 d1 d2 d3 pn, tc_F G d0 3 dl, tc_I G d1 3 pl, tc_I G d2 3 dr, tc_I G d3 3 sp, tc_X1 a9 a1' a2' a3' a4' fh' lh' ee', tc_X0 a3' b0' b1' b2' b3' b4' b5' ln', tc_I G b0' 10 ow', tc_I G b1' 10 gr', tc_I G b2' 10 we', tc_I G b3' 10 du', tc_I G b4' 10 sa', tc_D G b5' 10 le', tc_X2 a4' d0' d1' d2' d3' pn', tc_F G d0' 3 dl', tc_I G d1' 3 pl', tc_I G d2' 3 dr', tc_I G d3' 3 sp', tc_X4 a1 tk' mo' su', tc_X4 a1' tk' mo' su']) (w1 := [tc_X3 a2 lv' si' ga' sl' sc' fo', tc_X3 a2' lv' si' ga' sl' sc' fo']) hP hD [1, 15] [0, 2, 3, 4, 5, 6, 7, 8, 9, 10, 11, 12, 13, 14, 16, 17, 18, 19, 20, 21, 22, 23, 24, 25, 26, 27, 28, 29] rfl rfl (by decide) (by decide) hk1 hFc hP1 hD1
  have hP : va_P G.1 vwCl [tc_X1 a0 a1 a2 a3 a4 fh lh ee, tc_X0 a3 b0 b1 b2 b3 b4 b5 ln, tc_I G b0 10 ow, tc_I G b1 10 gr, tc_I G b2 10 we, tc_I G b3 10 du, tc_I G b4 10 sa, tc_D G b5 10 le, tc_X2 a4 d0 d1 d2 d3 pn, tc_F G d0 3 dl, tc_I G d1 3 pl, tc_I G d2 3 dr, tc_I G d3 3 sp, tc_X1 a9 a1' a2' a3' a4' fh' lh' ee', tc_X0 a3' b0' b1' b2' b3' b4' b5' ln', tc_I G b0' 10 ow', tc_I G b1' 10 gr', tc_I G b2' 10 we', tc_I G b3' 10 du', tc_I G b4' 10 sa', tc_D G b5' 10 le', tc_X2 a4' d0' d1' d2' d3' pn', tc_F G d0' 3 dl', tc_I G d1' 3 pl', tc_I G d2' 3 dr', tc_I G d3' 3 sp', tc_X4 a1 tk' mo' su', tc_X4 a1' tk' mo' su', tc_X3 a2 lv' si' ga' sl' sc' fo', tc_X3 a2' lv' si' ga' sl' sc' fo'] H := hP
  have hD : va_D A [tc_X1 a0 a1 a2 a3 a4 fh lh ee, tc_X0 a3 b0 b1 b2 b3 b4 b5 ln, tc_I G b0 10 ow, tc_I G b1 10 gr, tc_I G b2 10 we, tc_I G b3 10 du, tc_I G b4 10 sa, tc_D G b5 10 le, tc_X2 a4 d0 d1 d2 d3 pn, tc_F G d0 3 dl, tc_I G d1 3 pl, tc_I G d2 3 dr, tc_I G d3 3 sp, tc_X1 a9 a1' a2' a3' a4' fh' lh' ee', tc_X0 a3' b0' b1' b2' b3' b4' b5' ln', tc_I G b0' 10 ow', tc_I G b1' 10 gr', tc_I G b2' 10 we', tc_I G b3' 10 du', tc_I G b4' 10 sa', tc_D G b5' 10 le', tc_X2 a4' d0' d1' d2' d3' pn', tc_F G d0' 3 dl', tc_I G d1' 3 pl', tc_I G d2' 3 dr', tc_I G d3' 3 sp', tc_X4 a1 tk' mo' su', tc_X4 a1' tk' mo' su', tc_X3 a2 lv' si' ga' sl' sc' fo', tc_X3 a2' lv' si' ga' sl' sc' fo'] := hD
  refine lv_aload_n hx hb dX1_copyFrom_22 rfl (lv_at hl 0 rfl) ?_
  refine va_get (D := G.1) (ci := 1) (v := .ref a3) (C := RX1) (T := TX1) (N := 7) hx hb hts hiX1 hown hK hP 0 rfl rfl 2 (by decide) (hts (.fieldLink RX1 28 "TideMill$Mill" "lots" "LTideMill$Lots;") (List.mem_of_getElem? (i := 3) rfl)) (fun _ h9 => h9) rfl dX1_copyFrom_23 ?_
  refine lv_aload_n hx hb dX1_copyFrom_26 rfl (lv_at hl 1 rfl) ?_
  refine va_get (D := G.1) (ci := 1) (v := .ref a3') (C := RX1) (T := TX1) (N := 7) hx hb hts hiX1 hown hK hP 13 rfl rfl 2 (by decide) (hts (.fieldLink RX1 28 "TideMill$Mill" "lots" "LTideMill$Lots;") (List.mem_of_getElem? (i := 3) rfl)) (fun _ h9 => h9) rfl dX1_copyFrom_27 ?_
  have hPc := hP.sub (ws' := [tc_X0 a3 b0 b1 b2 b3 b4 b5 ln, tc_I G b0 10 ow, tc_I G b1 10 gr, tc_I G b2 10 we, tc_I G b3 10 du, tc_I G b4 10 sa, tc_D G b5 10 le, tc_X0 a3' b0' b1' b2' b3' b4' b5' ln', tc_I G b0' 10 ow', tc_I G b1' 10 gr', tc_I G b2' 10 we', tc_I G b3' 10 du', tc_I G b4' 10 sa', tc_D G b5' 10 le']) [1, 2, 3, 4, 5, 6, 7, 14, 15, 16, 17, 18, 19, 20] rfl
  have hDc := hD.sub (ws' := [tc_X0 a3 b0 b1 b2 b3 b4 b5 ln, tc_I G b0 10 ow, tc_I G b1 10 gr, tc_I G b2 10 we, tc_I G b3 10 du, tc_I G b4 10 sa, tc_D G b5 10 le, tc_X0 a3' b0' b1' b2' b3' b4' b5' ln', tc_I G b0' 10 ow', tc_I G b1' 10 gr', tc_I G b2' 10 we', tc_I G b3' 10 du', tc_I G b4' 10 sa', tc_D G b5' 10 le']) [1, 2, 3, 4, 5, 6, 7, 14, 15, 16, 17, 18, 19, 20] (by decide) rfl
  have hFc := va_free (wc := [tc_X0 a3 b0 b1 b2 b3 b4 b5 ln, tc_I G b0 10 ow, tc_I G b1 10 gr, tc_I G b2 10 we, tc_I G b3 10 du, tc_I G b4 10 sa, tc_D G b5 10 le, tc_X0 a3' b0' b1' b2' b3' b4' b5' ln', tc_I G b0' 10 ow', tc_I G b1' 10 gr', tc_I G b2' 10 we', tc_I G b3' 10 du', tc_I G b4' 10 sa', tc_D G b5' 10 le']) hD hS hA [1, 2, 3, 4, 5, 6, 7, 14, 15, 16, 17, 18, 19, 20] rfl
  refine va_callv (va_runV (As := [.ref a3']) (rest := []) ⟨hx, hb, hml, hown, hts⟩ (c_X0_copyFrom l G a3 b0 b1 b2 b3 b4 b5 a3' b0' b1' b2' b3' b4' b5' H.size ln ow gr we du sa le ln' ow' gr' we' du' sa' le' ) (cwV 1 hts gX1_copyFrom_X0_copyFrom rfl rfl rfl (by decide +kernel) ⟨(Nat.le_of_ble_eq_true rfl), (Nat.le_of_ble_eq_true rfl)⟩) (tm_preV hK hN hV hS hPc hDc hFc (va_recv hK hPc (ci := 0) (q0 := 0) rfl rfl)) rfl rfl hl.1 rfl (lv_room (Nat.le_of_ble_eq_true rfl)) dX1_copyFrom_30 ⟨(Nat.le_of_ble_eq_true rfl), (Nat.le_of_ble_eq_true rfl)⟩) hS (fun q _ h => hFc q h) hFc (fun u t H locs ht hvm hw_4 hB hz1 hk1 hS => ?_)
  obtain ⟨hP1, hD1⟩ := hB
  rw [ht] at hP1
  obtain ⟨hP, hD⟩ := va_join (wr := [tc_X1 a0 a1 a2 a3 a4 fh lh ee, tc_X2 a4 d0 d1 d2 d3 pn, tc_F G d0 3 dl, tc_I G d1 3 pl, tc_I G d2 3 dr, tc_I G d3 3 sp, tc_X1 a9 a1' a2' a3' a4' fh' lh' ee', tc_X2 a4' d0' d1' d2' d3' pn', tc_F G d0' 3 dl', tc_I G d1' 3 pl', tc_I G d2' 3 dr', tc_I G d3' 3 sp', tc_X4 a1 tk' mo' su', tc_X4 a1' tk' mo' su', tc_X3 a2 lv' si' ga' sl' sc' fo', tc_X3 a2' lv' si' ga' sl' sc' fo']) (w1 := [tc_X0 a3 b0 b1 b2 b3 b4 b5 ln', tc_I G b0 10 ow', tc_I G b1 10 gr', tc_I G b2 10 we', tc_I G b3 10 du', tc_I G b4 10 sa', tc_D G b5 10 le', tc_X0 a3' b0' b1' b2' b3' b4' b5' ln', tc_I G b0' 10 ow', tc_I G b1' 10 gr', tc_I G b2' 10 we', tc_I G b3' 10 du', tc_I G b4' 10 sa', tc_D G b5' 10 le']) hP hD [1, 2, 3, 4, 5, 6, 7, 14, 15, 16, 17, 18, 19, 20] [0, 8, 9, 10, 11, 12, 13, 21, 22, 23, 24, 25, 26, 27, 28, 29] rfl rfl (by decide) (by decide) hk1 hFc hP1 hD1
  have hP : va_P G.1 vwCl [tc_X1 a0 a1 a2 a3 a4 fh lh ee, tc_X2 a4 d0 d1 d2 d3 pn, tc_F G d0 3 dl, tc_I G d1 3 pl, tc_I G d2 3 dr, tc_I G d3 3 sp, tc_X1 a9 a1' a2' a3' a4' fh' lh' ee', tc_X2 a4' d0' d1' d2' d3' pn', tc_F G d0' 3 dl', tc_I G d1' 3 pl', tc_I G d2' 3 dr', tc_I G d3' 3 sp', tc_X4 a1 tk' mo' su', tc_X4 a1' tk' mo' su', tc_X3 a2 lv' si' ga' sl' sc' fo', tc_X3 a2' lv' si' ga' sl' sc' fo', tc_X0 a3 b0 b1 b2 b3 b4 b5 ln', tc_I G b0 10 ow', tc_I G b1 10 gr', tc_I G b2 10 we', tc_I G b3 10 du', tc_I G b4 10 sa', tc_D G b5 10 le', tc_X0 a3' b0' b1' b2' b3' b4' b5' ln', tc_I G b0' 10 ow', tc_I G b1' 10 gr', tc_I G b2' 10 we', tc_I G b3' 10 du', tc_I G b4' 10 sa', tc_D G b5' 10 le'] H := hP
  have hD : va_D A [tc_X1 a0 a1 a2 a3 a4 fh lh ee, tc_X2 a4 d0 d1 d2 d3 pn, tc_F G d0 3 dl, tc_I G d1 3 pl, tc_I G d2 3 dr, tc_I G d3 3 sp, tc_X1 a9 a1' a2' a3' a4' fh' lh' ee', tc_X2 a4' d0' d1' d2' d3' pn', tc_F G d0' 3 dl', tc_I G d1' 3 pl', tc_I G d2' 3 dr', tc_I G d3' 3 sp', tc_X4 a1 tk' mo' su', tc_X4 a1' tk' mo' su', tc_X3 a2 lv' si' ga' sl' sc' fo', tc_X3 a2' lv' si' ga' sl' sc' fo', tc_X0 a3 b0 b1 b2 b3 b4 b5 ln', tc_I G b0 10 ow', tc_I G b1 10 gr', tc_I G b2 10 we', tc_I G b3 10 du', tc_I G b4 10 sa', tc_D G b5 10 le', tc_X0 a3' b0' b1' b2' b3' b4' b5' ln', tc_I G b0' 10 ow', tc_I G b1' 10 gr', tc_I G b2' 10 we', tc_I G b3' 10 du', tc_I G b4' 10 sa', tc_D G b5' 10 le'] := hD
  refine lv_aload_n hx hb dX1_copyFrom_33 rfl (lv_at hl 0 rfl) ?_
  refine va_get (D := G.1) (ci := 1) (v := .ref a4) (C := RX1) (T := TX1) (N := 7) hx hb hts hiX1 hown hK hP 0 rfl rfl 3 (by decide) (hts (.fieldLink RX1 35 "TideMill$Mill" "pairs" "LTideMill$Pairs;") (List.mem_of_getElem? (i := 4) rfl)) (fun _ h9 => h9) rfl dX1_copyFrom_34 ?_
  refine lv_aload_n hx hb dX1_copyFrom_37 rfl (lv_at hl 1 rfl) ?_
  refine va_get (D := G.1) (ci := 1) (v := .ref a4') (C := RX1) (T := TX1) (N := 7) hx hb hts hiX1 hown hK hP 6 rfl rfl 3 (by decide) (hts (.fieldLink RX1 35 "TideMill$Mill" "pairs" "LTideMill$Pairs;") (List.mem_of_getElem? (i := 4) rfl)) (fun _ h9 => h9) rfl dX1_copyFrom_38 ?_
  have hPc := hP.sub (ws' := [tc_X2 a4 d0 d1 d2 d3 pn, tc_F G d0 3 dl, tc_I G d1 3 pl, tc_I G d2 3 dr, tc_I G d3 3 sp, tc_X2 a4' d0' d1' d2' d3' pn', tc_F G d0' 3 dl', tc_I G d1' 3 pl', tc_I G d2' 3 dr', tc_I G d3' 3 sp']) [1, 2, 3, 4, 5, 7, 8, 9, 10, 11] rfl
  have hDc := hD.sub (ws' := [tc_X2 a4 d0 d1 d2 d3 pn, tc_F G d0 3 dl, tc_I G d1 3 pl, tc_I G d2 3 dr, tc_I G d3 3 sp, tc_X2 a4' d0' d1' d2' d3' pn', tc_F G d0' 3 dl', tc_I G d1' 3 pl', tc_I G d2' 3 dr', tc_I G d3' 3 sp']) [1, 2, 3, 4, 5, 7, 8, 9, 10, 11] (by decide) rfl
  have hFc := va_free (wc := [tc_X2 a4 d0 d1 d2 d3 pn, tc_F G d0 3 dl, tc_I G d1 3 pl, tc_I G d2 3 dr, tc_I G d3 3 sp, tc_X2 a4' d0' d1' d2' d3' pn', tc_F G d0' 3 dl', tc_I G d1' 3 pl', tc_I G d2' 3 dr', tc_I G d3' 3 sp']) hD hS hA [1, 2, 3, 4, 5, 7, 8, 9, 10, 11] rfl
  refine va_callv (va_runV (As := [.ref a4']) (rest := []) ⟨hx, hb, hml, hown, hts⟩ (c_X2_copyFrom l G a4 d0 d1 d2 d3 a4' d0' d1' d2' d3' H.size pn dl pl dr sp pn' dl' pl' dr' sp' ) (cwV 1 hts gX1_copyFrom_X2_copyFrom rfl rfl rfl (by decide +kernel) ⟨(Nat.le_of_ble_eq_true rfl), (Nat.le_of_ble_eq_true rfl)⟩) (tm_preV hK hN hV hS hPc hDc hFc (va_recv hK hPc (ci := 2) (q0 := 0) rfl rfl)) rfl rfl hl.1 rfl (lv_room (Nat.le_of_ble_eq_true rfl)) dX1_copyFrom_41 ⟨(Nat.le_of_ble_eq_true rfl), (Nat.le_of_ble_eq_true rfl)⟩) hS (fun q _ h => hFc q h) hFc (fun u t H locs ht hvm hw_5 hB hz1 hk1 hS => ?_)
  obtain ⟨hP1, hD1⟩ := hB
  rw [ht] at hP1
  obtain ⟨hP, hD⟩ := va_join (wr := [tc_X1 a0 a1 a2 a3 a4 fh lh ee, tc_X1 a9 a1' a2' a3' a4' fh' lh' ee', tc_X4 a1 tk' mo' su', tc_X4 a1' tk' mo' su', tc_X3 a2 lv' si' ga' sl' sc' fo', tc_X3 a2' lv' si' ga' sl' sc' fo', tc_X0 a3 b0 b1 b2 b3 b4 b5 ln', tc_I G b0 10 ow', tc_I G b1 10 gr', tc_I G b2 10 we', tc_I G b3 10 du', tc_I G b4 10 sa', tc_D G b5 10 le', tc_X0 a3' b0' b1' b2' b3' b4' b5' ln', tc_I G b0' 10 ow', tc_I G b1' 10 gr', tc_I G b2' 10 we', tc_I G b3' 10 du', tc_I G b4' 10 sa', tc_D G b5' 10 le']) (w1 := [tc_X2 a4 d0 d1 d2 d3 pn', tc_F G d0 3 dl', tc_I G d1 3 pl', tc_I G d2 3 dr', tc_I G d3 3 sp', tc_X2 a4' d0' d1' d2' d3' pn', tc_F G d0' 3 dl', tc_I G d1' 3 pl', tc_I G d2' 3 dr', tc_I G d3' 3 sp']) hP hD [1, 2, 3, 4, 5, 7, 8, 9, 10, 11] [0, 6, 12, 13, 14, 15, 16, 17, 18, 19, 20, 21, 22, 23, 24, 25, 26, 27, 28, 29] rfl rfl (by decide) (by decide) hk1 hFc hP1 hD1
  have hP : va_P G.1 vwCl [tc_X1 a0 a1 a2 a3 a4 fh lh ee, tc_X1 a9 a1' a2' a3' a4' fh' lh' ee', tc_X4 a1 tk' mo' su', tc_X4 a1' tk' mo' su', tc_X3 a2 lv' si' ga' sl' sc' fo', tc_X3 a2' lv' si' ga' sl' sc' fo', tc_X0 a3 b0 b1 b2 b3 b4 b5 ln', tc_I G b0 10 ow', tc_I G b1 10 gr', tc_I G b2 10 we', tc_I G b3 10 du', tc_I G b4 10 sa', tc_D G b5 10 le', tc_X0 a3' b0' b1' b2' b3' b4' b5' ln', tc_I G b0' 10 ow', tc_I G b1' 10 gr', tc_I G b2' 10 we', tc_I G b3' 10 du', tc_I G b4' 10 sa', tc_D G b5' 10 le', tc_X2 a4 d0 d1 d2 d3 pn', tc_F G d0 3 dl', tc_I G d1 3 pl', tc_I G d2 3 dr', tc_I G d3 3 sp', tc_X2 a4' d0' d1' d2' d3' pn', tc_F G d0' 3 dl', tc_I G d1' 3 pl', tc_I G d2' 3 dr', tc_I G d3' 3 sp'] H := hP
  have hD : va_D A [tc_X1 a0 a1 a2 a3 a4 fh lh ee, tc_X1 a9 a1' a2' a3' a4' fh' lh' ee', tc_X4 a1 tk' mo' su', tc_X4 a1' tk' mo' su', tc_X3 a2 lv' si' ga' sl' sc' fo', tc_X3 a2' lv' si' ga' sl' sc' fo', tc_X0 a3 b0 b1 b2 b3 b4 b5 ln', tc_I G b0 10 ow', tc_I G b1 10 gr', tc_I G b2 10 we', tc_I G b3 10 du', tc_I G b4 10 sa', tc_D G b5 10 le', tc_X0 a3' b0' b1' b2' b3' b4' b5' ln', tc_I G b0' 10 ow', tc_I G b1' 10 gr', tc_I G b2' 10 we', tc_I G b3' 10 du', tc_I G b4' 10 sa', tc_D G b5' 10 le', tc_X2 a4 d0 d1 d2 d3 pn', tc_F G d0 3 dl', tc_I G d1 3 pl', tc_I G d2 3 dr', tc_I G d3 3 sp', tc_X2 a4' d0' d1' d2' d3' pn', tc_F G d0' 3 dl', tc_I G d1' 3 pl', tc_I G d2' 3 dr', tc_I G d3' 3 sp'] := hD
  refine lv_aload_n hx hb dX1_copyFrom_44 rfl (lv_at hl 0 rfl) ?_
  refine lv_aload_n hx hb dX1_copyFrom_45 rfl (lv_at hl 1 rfl) ?_
  refine va_get (D := G.1) (ci := 1) (v := .int fh') (C := RX1) (T := TX1) (N := 7) hx hb hts hiX1 hown hK hP 1 rfl rfl 4 (by decide) (hts (.fieldLink RX1 39 "TideMill$Mill" "firstHour" "I") (List.mem_of_getElem? (i := 5) rfl)) (fun _ h9 => h9) rfl dX1_copyFrom_46 ?_
  refine va_put (D := G.1) (ci := 1) (v := .int fh') (ty := .int) (C := RX1) (T := TX1) (N := 7) hx hb hts hiX1 tyX1 tyX1_ok nmX1 hown hK hP hD hS 0 rfl rfl 4 (by decide) (hts (.fieldLink RX1 39 "TideMill$Mill" "firstHour" "I") (List.mem_of_getElem? (i := 5) rfl)) (fun _ h9 => h9) rfl (by decide +kernel) rfl rfl (Nat.le_of_ble_eq_true rfl) dX1_copyFrom_49 (fun H locs hP hD hS => ?_)
  have hP : va_P G.1 vwCl [tc_X1 a0 a1 a2 a3 a4 fh' lh ee, tc_X1 a9 a1' a2' a3' a4' fh' lh' ee', tc_X4 a1 tk' mo' su', tc_X4 a1' tk' mo' su', tc_X3 a2 lv' si' ga' sl' sc' fo', tc_X3 a2' lv' si' ga' sl' sc' fo', tc_X0 a3 b0 b1 b2 b3 b4 b5 ln', tc_I G b0 10 ow', tc_I G b1 10 gr', tc_I G b2 10 we', tc_I G b3 10 du', tc_I G b4 10 sa', tc_D G b5 10 le', tc_X0 a3' b0' b1' b2' b3' b4' b5' ln', tc_I G b0' 10 ow', tc_I G b1' 10 gr', tc_I G b2' 10 we', tc_I G b3' 10 du', tc_I G b4' 10 sa', tc_D G b5' 10 le', tc_X2 a4 d0 d1 d2 d3 pn', tc_F G d0 3 dl', tc_I G d1 3 pl', tc_I G d2 3 dr', tc_I G d3 3 sp', tc_X2 a4' d0' d1' d2' d3' pn', tc_F G d0' 3 dl', tc_I G d1' 3 pl', tc_I G d2' 3 dr', tc_I G d3' 3 sp'] H := hP
  have hD : va_D A [tc_X1 a0 a1 a2 a3 a4 fh' lh ee, tc_X1 a9 a1' a2' a3' a4' fh' lh' ee', tc_X4 a1 tk' mo' su', tc_X4 a1' tk' mo' su', tc_X3 a2 lv' si' ga' sl' sc' fo', tc_X3 a2' lv' si' ga' sl' sc' fo', tc_X0 a3 b0 b1 b2 b3 b4 b5 ln', tc_I G b0 10 ow', tc_I G b1 10 gr', tc_I G b2 10 we', tc_I G b3 10 du', tc_I G b4 10 sa', tc_D G b5 10 le', tc_X0 a3' b0' b1' b2' b3' b4' b5' ln', tc_I G b0' 10 ow', tc_I G b1' 10 gr', tc_I G b2' 10 we', tc_I G b3' 10 du', tc_I G b4' 10 sa', tc_D G b5' 10 le', tc_X2 a4 d0 d1 d2 d3 pn', tc_F G d0 3 dl', tc_I G d1 3 pl', tc_I G d2 3 dr', tc_I G d3 3 sp', tc_X2 a4' d0' d1' d2' d3' pn', tc_F G d0' 3 dl', tc_I G d1' 3 pl', tc_I G d2' 3 dr', tc_I G d3' 3 sp'] := hD
  refine lv_aload_n hx hb dX1_copyFrom_52 rfl (lv_at hl 0 rfl) ?_
  refine lv_aload_n hx hb dX1_copyFrom_53 rfl (lv_at hl 1 rfl) ?_
  refine va_get (D := G.1) (ci := 1) (v := .int lh') (C := RX1) (T := TX1) (N := 7) hx hb hts hiX1 hown hK hP 1 rfl rfl 5 (by decide) (hts (.fieldLink RX1 43 "TideMill$Mill" "lastHour" "I") (List.mem_of_getElem? (i := 6) rfl)) (fun _ h9 => h9) rfl dX1_copyFrom_54 ?_
  refine va_put (D := G.1) (ci := 1) (v := .int lh') (ty := .int) (C := RX1) (T := TX1) (N := 7) hx hb hts hiX1 tyX1 tyX1_ok nmX1 hown hK hP hD hS 0 rfl rfl 5 (by decide) (hts (.fieldLink RX1 43 "TideMill$Mill" "lastHour" "I") (List.mem_of_getElem? (i := 6) rfl)) (fun _ h9 => h9) rfl (by decide +kernel) rfl rfl (Nat.le_of_ble_eq_true rfl) dX1_copyFrom_57 (fun H locs hP hD hS => ?_)
  have hP : va_P G.1 vwCl [tc_X1 a0 a1 a2 a3 a4 fh' lh' ee, tc_X1 a9 a1' a2' a3' a4' fh' lh' ee', tc_X4 a1 tk' mo' su', tc_X4 a1' tk' mo' su', tc_X3 a2 lv' si' ga' sl' sc' fo', tc_X3 a2' lv' si' ga' sl' sc' fo', tc_X0 a3 b0 b1 b2 b3 b4 b5 ln', tc_I G b0 10 ow', tc_I G b1 10 gr', tc_I G b2 10 we', tc_I G b3 10 du', tc_I G b4 10 sa', tc_D G b5 10 le', tc_X0 a3' b0' b1' b2' b3' b4' b5' ln', tc_I G b0' 10 ow', tc_I G b1' 10 gr', tc_I G b2' 10 we', tc_I G b3' 10 du', tc_I G b4' 10 sa', tc_D G b5' 10 le', tc_X2 a4 d0 d1 d2 d3 pn', tc_F G d0 3 dl', tc_I G d1 3 pl', tc_I G d2 3 dr', tc_I G d3 3 sp', tc_X2 a4' d0' d1' d2' d3' pn', tc_F G d0' 3 dl', tc_I G d1' 3 pl', tc_I G d2' 3 dr', tc_I G d3' 3 sp'] H := hP
  have hD : va_D A [tc_X1 a0 a1 a2 a3 a4 fh' lh' ee, tc_X1 a9 a1' a2' a3' a4' fh' lh' ee', tc_X4 a1 tk' mo' su', tc_X4 a1' tk' mo' su', tc_X3 a2 lv' si' ga' sl' sc' fo', tc_X3 a2' lv' si' ga' sl' sc' fo', tc_X0 a3 b0 b1 b2 b3 b4 b5 ln', tc_I G b0 10 ow', tc_I G b1 10 gr', tc_I G b2 10 we', tc_I G b3 10 du', tc_I G b4 10 sa', tc_D G b5 10 le', tc_X0 a3' b0' b1' b2' b3' b4' b5' ln', tc_I G b0' 10 ow', tc_I G b1' 10 gr', tc_I G b2' 10 we', tc_I G b3' 10 du', tc_I G b4' 10 sa', tc_D G b5' 10 le', tc_X2 a4 d0 d1 d2 d3 pn', tc_F G d0 3 dl', tc_I G d1 3 pl', tc_I G d2 3 dr', tc_I G d3 3 sp', tc_X2 a4' d0' d1' d2' d3' pn', tc_F G d0' 3 dl', tc_I G d1' 3 pl', tc_I G d2' 3 dr', tc_I G d3' 3 sp'] := hD
  refine lv_aload_n hx hb dX1_copyFrom_60 rfl (lv_at hl 0 rfl) ?_
  refine lv_aload_n hx hb dX1_copyFrom_61 rfl (lv_at hl 1 rfl) ?_
  refine va_get (D := G.1) (ci := 1) (v := .int ee') (C := RX1) (T := TX1) (N := 7) hx hb hts hiX1 hown hK hP 1 rfl rfl 6 (by decide) (hts (.fieldLink RX1 59 "TideMill$Mill" "eels" "I") (List.mem_of_getElem? (i := 7) rfl)) (fun _ h9 => h9) rfl dX1_copyFrom_62 ?_
  refine va_put (D := G.1) (ci := 1) (v := .int ee') (ty := .int) (C := RX1) (T := TX1) (N := 7) hx hb hts hiX1 tyX1 tyX1_ok nmX1 hown hK hP hD hS 0 rfl rfl 6 (by decide) (hts (.fieldLink RX1 59 "TideMill$Mill" "eels" "I") (List.mem_of_getElem? (i := 7) rfl)) (fun _ h9 => h9) rfl (by decide +kernel) rfl rfl (Nat.le_of_ble_eq_true rfl) dX1_copyFrom_65 (fun H locs hP hD hS => ?_)
  have hP : va_P G.1 vwCl [tc_X1 a0 a1 a2 a3 a4 fh' lh' ee', tc_X1 a9 a1' a2' a3' a4' fh' lh' ee', tc_X4 a1 tk' mo' su', tc_X4 a1' tk' mo' su', tc_X3 a2 lv' si' ga' sl' sc' fo', tc_X3 a2' lv' si' ga' sl' sc' fo', tc_X0 a3 b0 b1 b2 b3 b4 b5 ln', tc_I G b0 10 ow', tc_I G b1 10 gr', tc_I G b2 10 we', tc_I G b3 10 du', tc_I G b4 10 sa', tc_D G b5 10 le', tc_X0 a3' b0' b1' b2' b3' b4' b5' ln', tc_I G b0' 10 ow', tc_I G b1' 10 gr', tc_I G b2' 10 we', tc_I G b3' 10 du', tc_I G b4' 10 sa', tc_D G b5' 10 le', tc_X2 a4 d0 d1 d2 d3 pn', tc_F G d0 3 dl', tc_I G d1 3 pl', tc_I G d2 3 dr', tc_I G d3 3 sp', tc_X2 a4' d0' d1' d2' d3' pn', tc_F G d0' 3 dl', tc_I G d1' 3 pl', tc_I G d2' 3 dr', tc_I G d3' 3 sp'] H := hP
  have hD : va_D A [tc_X1 a0 a1 a2 a3 a4 fh' lh' ee', tc_X1 a9 a1' a2' a3' a4' fh' lh' ee', tc_X4 a1 tk' mo' su', tc_X4 a1' tk' mo' su', tc_X3 a2 lv' si' ga' sl' sc' fo', tc_X3 a2' lv' si' ga' sl' sc' fo', tc_X0 a3 b0 b1 b2 b3 b4 b5 ln', tc_I G b0 10 ow', tc_I G b1 10 gr', tc_I G b2 10 we', tc_I G b3 10 du', tc_I G b4 10 sa', tc_D G b5 10 le', tc_X0 a3' b0' b1' b2' b3' b4' b5' ln', tc_I G b0' 10 ow', tc_I G b1' 10 gr', tc_I G b2' 10 we', tc_I G b3' 10 du', tc_I G b4' 10 sa', tc_D G b5' 10 le', tc_X2 a4 d0 d1 d2 d3 pn', tc_F G d0 3 dl', tc_I G d1 3 pl', tc_I G d2 3 dr', tc_I G d3 3 sp', tc_X2 a4' d0' d1' d2' d3' pn', tc_F G d0' 3 dl', tc_I G d1' 3 pl', tc_I G d2' 3 dr', tc_I G d3' 3 sp'] := hD
  exact W.vret hx hb hr (fun t ht hW => ⟨⟨(), rfl, trivial, by rw [ht]; exact hP, hD⟩, hS.F ht⟩) hS.2.2 dX1_copyFrom_68
set_option maxHeartbeats 4000000 in
set_option maxRecDepth 100000 in
theorem c_X1_isAwake (l : Launch) (G : tm_G) (a0 : Nat) (a1 : Nat) (a2 : Nat) (a3 : Nat) (a4 : Nat) (sz : Nat) (fh : Int32) (lh : Int32) (ee : Int32) (tk : Int32) (mo : Int32) (su : UInt64) : Met l yX1_isAwake wsX1_isAwake ({ frames := 1, cells := 0, slots := 0, locals := 20 }) (va_Pc [.ref a0] (tm_B G [tc_X1 a0 a1 a2 a3 a4 fh lh ee, tc_X4 a1 tk mo su] sz)) (va_Qi (fun (r : Int32) (u : Unit) => r = f_X1_isAwake fh lh tk) (fun (u : Unit) (t : State) => va_P G.1 vwCl [tc_X1 a0 a1 a2 a3 a4 fh lh ee, tc_X4 a1 tk mo su] t.heap ∧ va_D (va_A [tc_X1 a0 a1 a2 a3 a4 fh lh ee, tc_X4 a1 tk mo su] sz) [tc_X1 a0 a1 a2 a3 a4 fh lh ee, tc_X4 a1 tk mo su]) (va_A [tc_X1 a0 a1 a2 a3 a4 fh lh ee, tc_X4 a1 tk mo su] sz)) 0 0 (va_A [tc_X1 a0 a1 a2 a3 a4 fh lh ee, tc_X4 a1 tk mo su] sz) := by
  refine Met.ofW (cc := cX1_isAwake) (maxL := 2) (ret := (some .boolean)) (by decide) rfl ?_
  intro p e s m args below meth c s₁ B hml hv
  obtain ⟨rfl, hsz, hP, hK, hD0, hN, hV⟩ := hv
  have hx := B.exec
  have hb := B.bytes
  have hr := B.returns
  have hts := atoms_spec (ws := wsX1_isAwake) B.pre
  have hown : s.vm.findClass RX1 = some m.cls := findClass_of_methodNamed B.named
  have hlocks := B.notSynchronized
  subst hsz
  have hiX1 : ∀ w ∈ u_ws RX1 TX1 7, w ∈ wsX1_isAwake := fun _ h => List.mem_cons_of_mem _ (List.mem_append_left _ (List.mem_append_right _ h))
  have hD := hD0.self (sz := s.heap.size)
  generalize hAe : va_A [tc_X1 a0 a1 a2 a3 a4 fh lh ee, tc_X4 a1 tk mo su] s.heap.size = A at hD hV ⊢
  have hA : ∀ q : Nat, s.heap.size ≤ q → A q := fun q h => by rw [← hAe]; exact Or.inr h
  have hS : va_S A s.heap s.heap [] := va_S.rf
  have hl := lv_entry ([.ref a0]) (n := 2) (Nat.le_of_ble_eq_true rfl)
  rw [lg_entry_eq]
  generalize (lg_sl ([.ref a0]) ++ List.replicate (2 - (lg_sl ([.ref a0])).length) Slot.unset).toArray = ls at hl ⊢
  have hl : lv_has ls 2 [(0, .ref a0)] := hl
  refine lv_aload_n hx hb dX1_isAwake_0 rfl (lv_at hl 0 rfl) ?_
  refine va_get (D := G.1) (ci := 1) (v := .ref a1) (C := RX1) (T := TX1) (N := 7) hx hb hts hiX1 hown hK hP 0 rfl rfl 0 (by decide) (hts (.fieldLink RX1 12 "TideMill$Mill" "sea" "LTideMill$Sea;") (List.mem_of_getElem? (i := 1) rfl)) (fun _ h9 => h9) rfl dX1_isAwake_1 ?_
  have hPc := hP.sub (ws' := [tc_X4 a1 tk mo su]) [1] rfl
  have hDc := hD.sub (ws' := [tc_X4 a1 tk mo su]) [1] (by decide) rfl
  have hFc := va_free (wc := [tc_X4 a1 tk mo su]) hD hS hA [1] rfl
  refine va_calli (va_runV (As := []) (rest := []) ⟨hx, hb, hml, hown, hts⟩ (c_X4_hourNow l G a1 s.heap.size tk mo su ) (cwV 0 hts gX1_isAwake_X4_hourNow rfl rfl rfl (by decide +kernel) ⟨(Nat.le_of_ble_eq_true rfl), (Nat.le_of_ble_eq_true rfl)⟩) (tm_preV hK hN hV hS hPc hDc hFc (va_recv hK hPc (ci := 4) (q0 := 0) rfl rfl)) rfl rfl hl.1 rfl (lv_room (Nat.le_of_ble_eq_true rfl)) dX1_isAwake_4 ⟨(Nat.le_of_ble_eq_true rfl), (Nat.le_of_ble_eq_true rfl)⟩) hS (fun q _ h => hFc q h) hFc (fun r_1 u t H locs ht hvm hw_1 hB hz1 hk1 hS => ?_)
  obtain ⟨hP1, hD1⟩ := hB
  rw [ht] at hP1
  try dsimp only at hw_1
  obtain ⟨hP, hD⟩ := va_join (wr := [tc_X1 a0 a1 a2 a3 a4 fh lh ee]) (w1 := [tc_X4 a1 tk mo su]) hP hD [1] [0] rfl rfl (by decide) (by decide) hk1 hFc hP1 hD1
  have hP : va_P G.1 vwCl [tc_X1 a0 a1 a2 a3 a4 fh lh ee, tc_X4 a1 tk mo su] H := hP
  have hD : va_D A [tc_X1 a0 a1 a2 a3 a4 fh lh ee, tc_X4 a1 tk mo su] := hD
  subst hw_1
  refine lv_istore_n (lv' := [(1, .int (f_X4_hourNow tk)), (0, .ref a0)]) hx hb dX1_isAwake_7 rfl hl (by decide) rfl (fun ls hl => ?_)
  refine lv_aload_n hx hb dX1_isAwake_8 rfl (lv_at hl 1 rfl) ?_
  refine va_get (D := G.1) (ci := 1) (v := .int fh) (C := RX1) (T := TX1) (N := 7) hx hb hts hiX1 hown hK hP 0 rfl rfl 4 (by decide) (hts (.fieldLink RX1 39 "TideMill$Mill" "firstHour" "I") (List.mem_of_getElem? (i := 2) rfl)) (fun _ h9 => h9) rfl dX1_isAwake_9 ?_
  refine lv_aload_n hx hb dX1_isAwake_12 rfl (lv_at hl 1 rfl) ?_
  refine va_get (D := G.1) (ci := 1) (v := .int lh) (C := RX1) (T := TX1) (N := 7) hx hb hts hiX1 hown hK hP 0 rfl rfl 5 (by decide) (hts (.fieldLink RX1 43 "TideMill$Mill" "lastHour" "I") (List.mem_of_getElem? (i := 3) rfl)) (fun _ h9 => h9) rfl dX1_isAwake_13 ?_
  refine lv_icmp_le (tgt := 41) hx hb dX1_isAwake_16 (by decide) (fun c_2 => ?_) (fun c_2 => ?_)
  · refine lv_iload_n hx hb dX1_isAwake_41 rfl (lv_at hl 0 rfl) ?_
    refine lv_aload_n hx hb dX1_isAwake_42 rfl (lv_at hl 1 rfl) ?_
    refine va_get (D := G.1) (ci := 1) (v := .int fh) (C := RX1) (T := TX1) (N := 7) hx hb hts hiX1 hown hK hP 0 rfl rfl 4 (by decide) (hts (.fieldLink RX1 39 "TideMill$Mill" "firstHour" "I") (List.mem_of_getElem? (i := 2) rfl)) (fun _ h9 => h9) rfl dX1_isAwake_43 ?_
    refine lv_icmp_lt (tgt := 61) hx hb dX1_isAwake_46 (by decide) (fun c_3 => ?_) (fun c_3 => ?_)
    · refine lv_iconst (v := 0) hx hb dX1_isAwake_61 (by decide) ?_
      have hP9 := hP.sub (ws' := [tc_X1 a0 a1 a2 a3 a4 fh lh ee, tc_X4 a1 tk mo su]) [0, 1] rfl
      have hD9 := hD.sub (ws' := [tc_X1 a0 a1 a2 a3 a4 fh lh ee, tc_X4 a1 tk mo su]) [0, 1] (by decide) rfl
      exact W.zret (v := 0) hx hb hr rfl (fun t ht hW => ⟨⟨0, (), rfl, by unfold f_X1_isAwake; all_goals (rw [if_pos c_2]); all_goals (rw [if_pos c_3]); all_goals rfl, by rw [ht]; exact hP9, hD9⟩, hS.F ht⟩) hS.2.2 dX1_isAwake_62
    · refine lv_iload_n hx hb dX1_isAwake_49 rfl (lv_at hl 0 rfl) ?_
      refine lv_aload_n hx hb dX1_isAwake_50 rfl (lv_at hl 1 rfl) ?_
      refine va_get (D := G.1) (ci := 1) (v := .int lh) (C := RX1) (T := TX1) (N := 7) hx hb hts hiX1 hown hK hP 0 rfl rfl 5 (by decide) (hts (.fieldLink RX1 43 "TideMill$Mill" "lastHour" "I") (List.mem_of_getElem? (i := 3) rfl)) (fun _ h9 => h9) rfl dX1_isAwake_51 ?_
      refine lv_icmp_gt (tgt := 61) hx hb dX1_isAwake_54 (by decide) (fun c_4 => ?_) (fun c_4 => ?_)
      · refine lv_iconst (v := 0) hx hb dX1_isAwake_61 (by decide) ?_
        have hP9 := hP.sub (ws' := [tc_X1 a0 a1 a2 a3 a4 fh lh ee, tc_X4 a1 tk mo su]) [0, 1] rfl
        have hD9 := hD.sub (ws' := [tc_X1 a0 a1 a2 a3 a4 fh lh ee, tc_X4 a1 tk mo su]) [0, 1] (by decide) rfl
        exact W.zret (v := 0) hx hb hr rfl (fun t ht hW => ⟨⟨0, (), rfl, by unfold f_X1_isAwake; all_goals (rw [if_pos c_2]); all_goals (rw [if_neg c_3]); all_goals (rw [if_pos c_4]); all_goals rfl, by rw [ht]; exact hP9, hD9⟩, hS.F ht⟩) hS.2.2 dX1_isAwake_62
      · refine lv_iconst (v := 1) hx hb dX1_isAwake_57 (by decide) ?_
        refine lv_goto (tgt := 62) hx hb dX1_isAwake_58 (by decide) ?_
        have hP9 := hP.sub (ws' := [tc_X1 a0 a1 a2 a3 a4 fh lh ee, tc_X4 a1 tk mo su]) [0, 1] rfl
        have hD9 := hD.sub (ws' := [tc_X1 a0 a1 a2 a3 a4 fh lh ee, tc_X4 a1 tk mo su]) [0, 1] (by decide) rfl
        exact W.zret (v := 1) hx hb hr rfl (fun t ht hW => ⟨⟨1, (), rfl, by unfold f_X1_isAwake; all_goals (rw [if_pos c_2]); all_goals (rw [if_neg c_3]); all_goals (rw [if_neg c_4]); all_goals rfl, by rw [ht]; exact hP9, hD9⟩, hS.F ht⟩) hS.2.2 dX1_isAwake_62
  · refine lv_iload_n hx hb dX1_isAwake_19 rfl (lv_at hl 0 rfl) ?_
    refine lv_aload_n hx hb dX1_isAwake_20 rfl (lv_at hl 1 rfl) ?_
    refine va_get (D := G.1) (ci := 1) (v := .int fh) (C := RX1) (T := TX1) (N := 7) hx hb hts hiX1 hown hK hP 0 rfl rfl 4 (by decide) (hts (.fieldLink RX1 39 "TideMill$Mill" "firstHour" "I") (List.mem_of_getElem? (i := 2) rfl)) (fun _ h9 => h9) rfl dX1_isAwake_21 ?_
    refine lv_icmp_ge (tgt := 35) hx hb dX1_isAwake_24 (by decide) (fun c_5 => ?_) (fun c_5 => ?_)
    · refine lv_iconst (v := 1) hx hb dX1_isAwake_35 (by decide) ?_
      refine lv_goto (tgt := 40) hx hb dX1_isAwake_36 (by decide) ?_
      have hP9 := hP.sub (ws' := [tc_X1 a0 a1 a2 a3 a4 fh lh ee, tc_X4 a1 tk mo su]) [0, 1] rfl
      have hD9 := hD.sub (ws' := [tc_X1 a0 a1 a2 a3 a4 fh lh ee, tc_X4 a1 tk mo su]) [0, 1] (by decide) rfl
      exact W.zret (v := 1) hx hb hr rfl (fun t ht hW => ⟨⟨1, (), rfl, by unfold f_X1_isAwake; all_goals (rw [if_neg c_2]); all_goals (rw [if_pos c_5]); all_goals rfl, by rw [ht]; exact hP9, hD9⟩, hS.F ht⟩) hS.2.2 dX1_isAwake_40
    · refine lv_iload_n hx hb dX1_isAwake_27 rfl (lv_at hl 0 rfl) ?_
      refine lv_aload_n hx hb dX1_isAwake_28 rfl (lv_at hl 1 rfl) ?_
      refine va_get (D := G.1) (ci := 1) (v := .int lh) (C := RX1) (T := TX1) (N := 7) hx hb hts hiX1 hown hK hP 0 rfl rfl 5 (by decide) (hts (.fieldLink RX1 43 "TideMill$Mill" "lastHour" "I") (List.mem_of_getElem? (i := 3) rfl)) (fun _ h9 => h9) rfl dX1_isAwake_29 ?_
      refine lv_icmp_gt (tgt := 39) hx hb dX1_isAwake_32 (by decide) (fun c_6 => ?_) (fun c_6 => ?_)
      · refine lv_iconst (v := 0) hx hb dX1_isAwake_39 (by decide) ?_
        have hP9 := hP.sub (ws' := [tc_X1 a0 a1 a2 a3 a4 fh lh ee, tc_X4 a1 tk mo su]) [0, 1] rfl
        have hD9 := hD.sub (ws' := [tc_X1 a0 a1 a2 a3 a4 fh lh ee, tc_X4 a1 tk mo su]) [0, 1] (by decide) rfl
        exact W.zret (v := 0) hx hb hr rfl (fun t ht hW => ⟨⟨0, (), rfl, by unfold f_X1_isAwake; all_goals (rw [if_neg c_2]); all_goals (rw [if_neg c_5]); all_goals (rw [if_pos c_6]); all_goals rfl, by rw [ht]; exact hP9, hD9⟩, hS.F ht⟩) hS.2.2 dX1_isAwake_40
      · refine lv_iconst (v := 1) hx hb dX1_isAwake_35 (by decide) ?_
        refine lv_goto (tgt := 40) hx hb dX1_isAwake_36 (by decide) ?_
        have hP9 := hP.sub (ws' := [tc_X1 a0 a1 a2 a3 a4 fh lh ee, tc_X4 a1 tk mo su]) [0, 1] rfl
        have hD9 := hD.sub (ws' := [tc_X1 a0 a1 a2 a3 a4 fh lh ee, tc_X4 a1 tk mo su]) [0, 1] (by decide) rfl
        exact W.zret (v := 1) hx hb hr rfl (fun t ht hW => ⟨⟨1, (), rfl, by unfold f_X1_isAwake; all_goals (rw [if_neg c_2]); all_goals (rw [if_neg c_5]); all_goals (rw [if_neg c_6]); all_goals rfl, by rw [ht]; exact hP9, hD9⟩, hS.F ht⟩) hS.2.2 dX1_isAwake_40
set_option maxHeartbeats 4000000 in
set_option maxRecDepth 100000 in
theorem c_X1_areEelsAbout (l : Launch) (G : tm_G) (a0 : Nat) (a1 : Nat) (a2 : Nat) (a3 : Nat) (a4 : Nat) (sz : Nat) (fh : Int32) (lh : Int32) (ee : Int32) (tk : Int32) (mo : Int32) (su : UInt64) : Met l yX1_areEelsAbout wsX1_areEelsAbout ({ frames := 1, cells := 0, slots := 0, locals := 21 }) (va_Pc [.ref a0] (tm_B G [tc_X1 a0 a1 a2 a3 a4 fh lh ee, tc_X4 a1 tk mo su] sz)) (va_Qi (fun (r : Int32) (u : Unit) => r = f_X1_areEelsAbout tk mo) (fun (u : Unit) (t : State) => va_P G.1 vwCl [tc_X1 a0 a1 a2 a3 a4 fh lh ee, tc_X4 a1 tk mo su] t.heap ∧ va_D (va_A [tc_X1 a0 a1 a2 a3 a4 fh lh ee, tc_X4 a1 tk mo su] sz) [tc_X1 a0 a1 a2 a3 a4 fh lh ee, tc_X4 a1 tk mo su]) (va_A [tc_X1 a0 a1 a2 a3 a4 fh lh ee, tc_X4 a1 tk mo su] sz)) 0 0 (va_A [tc_X1 a0 a1 a2 a3 a4 fh lh ee, tc_X4 a1 tk mo su] sz) := by
  refine Met.ofW (cc := cX1_areEelsAbout) (maxL := 3) (ret := (some .boolean)) (by decide) rfl ?_
  intro p e s m args below meth c s₁ B hml hv
  obtain ⟨rfl, hsz, hP, hK, hD0, hN, hV⟩ := hv
  have hx := B.exec
  have hb := B.bytes
  have hr := B.returns
  have hts := atoms_spec (ws := wsX1_areEelsAbout) B.pre
  have hown : s.vm.findClass RX1 = some m.cls := findClass_of_methodNamed B.named
  have hlocks := B.notSynchronized
  subst hsz
  have hiX1 : ∀ w ∈ u_ws RX1 TX1 7, w ∈ wsX1_areEelsAbout := fun _ h => List.mem_cons_of_mem _ (List.mem_append_left _ (List.mem_append_right _ h))
  have hiX4 : ∀ w ∈ u_ws RX4 TX4 3, w ∈ wsX1_areEelsAbout := fun _ h => List.mem_cons_of_mem _ (List.mem_append_right _ h)
  have hD := hD0.self (sz := s.heap.size)
  generalize hAe : va_A [tc_X1 a0 a1 a2 a3 a4 fh lh ee, tc_X4 a1 tk mo su] s.heap.size = A at hD hV ⊢
  have hA : ∀ q : Nat, s.heap.size ≤ q → A q := fun q h => by rw [← hAe]; exact Or.inr h
  have hS : va_S A s.heap s.heap [] := va_S.rf
  have hl := lv_entry ([.ref a0]) (n := 3) (Nat.le_of_ble_eq_true rfl)
  rw [lg_entry_eq]
  generalize (lg_sl ([.ref a0]) ++ List.replicate (3 - (lg_sl ([.ref a0])).length) Slot.unset).toArray = ls at hl ⊢
  have hl : lv_has ls 3 [(0, .ref a0)] := hl
  refine lv_aload_n hx hb dX1_areEelsAbout_0 rfl (lv_at hl 0 rfl) ?_
  refine va_get (D := G.1) (ci := 1) (v := .ref a1) (C := RX1) (T := TX1) (N := 7) hx hb hts hiX1 hown hK hP 0 rfl rfl 0 (by decide) (hts (.fieldLink RX1 12 "TideMill$Mill" "sea" "LTideMill$Sea;") (List.mem_of_getElem? (i := 1) rfl)) (fun _ h9 => h9) rfl dX1_areEelsAbout_1 ?_
  refine lv_aload_n hx hb dX1_areEelsAbout_4 rfl (lv_at hl 0 rfl) ?_
  refine va_get (D := G.1) (ci := 1) (v := .ref a1) (C := RX1) (T := TX1) (N := 7) hx hb hts hiX1 hown hK hP 0 rfl rfl 0 (by decide) (hts (.fieldLink RX1 12 "TideMill$Mill" "sea" "LTideMill$Sea;") (List.mem_of_getElem? (i := 1) rfl)) (fun _ h9 => h9) rfl dX1_areEelsAbout_5 ?_
  refine va_get (D := G.1) (ci := 4) (v := .int tk) (C := RX4) (T := TX4) (N := 3) hx hb hts hiX4 hown hK hP 1 rfl rfl 0 (by decide) (hts (.fieldLink RX1 69 "TideMill$Sea" "tick" "I") (List.mem_of_getElem? (i := 2) rfl)) (fun _ h9 => h9) rfl dX1_areEelsAbout_8 ?_
  have hPc := hP.sub (ws' := [tc_X4 a1 tk mo su]) [1] rfl
  have hDc := hD.sub (ws' := [tc_X4 a1 tk mo su]) [1] (by decide) rfl
  have hFc := va_free (wc := [tc_X4 a1 tk mo su]) hD hS hA [1] rfl
  refine va_calli (va_runV (As := [.int tk]) (rest := []) ⟨hx, hb, hml, hown, hts⟩ (c_X4_ageOn l G a1 s.heap.size tk mo su tk ) (cwV 1 hts gX1_areEelsAbout_X4_ageOn rfl rfl rfl (by decide +kernel) ⟨(Nat.le_of_ble_eq_true rfl), (Nat.le_of_ble_eq_true rfl)⟩) (tm_preV hK hN hV hS hPc hDc hFc (va_recv hK hPc (ci := 4) (q0 := 0) rfl rfl)) rfl rfl hl.1 rfl (lv_room (Nat.le_of_ble_eq_true rfl)) dX1_areEelsAbout_11 ⟨(Nat.le_of_ble_eq_true rfl), (Nat.le_of_ble_eq_true rfl)⟩) hS (fun q _ h => hFc q h) hFc (fun r_1 u t H locs ht hvm hw_1 hB hz1 hk1 hS => ?_)
  obtain ⟨hP1, hD1⟩ := hB
  rw [ht] at hP1
  try dsimp only at hw_1
  obtain ⟨hP, hD⟩ := va_join (wr := [tc_X1 a0 a1 a2 a3 a4 fh lh ee]) (w1 := [tc_X4 a1 tk mo su]) hP hD [1] [0] rfl rfl (by decide) (by decide) hk1 hFc hP1 hD1
  have hP : va_P G.1 vwCl [tc_X1 a0 a1 a2 a3 a4 fh lh ee, tc_X4 a1 tk mo su] H := hP
  have hD : va_D A [tc_X1 a0 a1 a2 a3 a4 fh lh ee, tc_X4 a1 tk mo su] := hD
  subst hw_1
  refine lv_istore_n (lv' := [(1, .int (f_X4_ageOn mo tk)), (0, .ref a0)]) hx hb dX1_areEelsAbout_14 rfl hl (by decide) rfl (fun ls hl => ?_)
  refine lv_aload_n hx hb dX1_areEelsAbout_15 rfl (lv_at hl 1 rfl) ?_
  refine va_get (D := G.1) (ci := 1) (v := .ref a1) (C := RX1) (T := TX1) (N := 7) hx hb hts hiX1 hown hK hP 0 rfl rfl 0 (by decide) (hts (.fieldLink RX1 12 "TideMill$Mill" "sea" "LTideMill$Sea;") (List.mem_of_getElem? (i := 1) rfl)) (fun _ h9 => h9) rfl dX1_areEelsAbout_16 ?_
  have hPc := hP.sub (ws' := [tc_X4 a1 tk mo su]) [1] rfl
  have hDc := hD.sub (ws' := [tc_X4 a1 tk mo su]) [1] (by decide) rfl
  have hFc := va_free (wc := [tc_X4 a1 tk mo su]) hD hS hA [1] rfl
  refine va_calli (va_runV (As := []) (rest := []) ⟨hx, hb, hml, hown, hts⟩ (c_X4_hourNow l G a1 H.size tk mo su ) (cwV 0 hts gX1_areEelsAbout_X4_hourNow rfl rfl rfl (by decide +kernel) ⟨(Nat.le_of_ble_eq_true rfl), (Nat.le_of_ble_eq_true rfl)⟩) (tm_preV hK hN hV hS hPc hDc hFc (va_recv hK hPc (ci := 4) (q0 := 0) rfl rfl)) rfl rfl hl.1 rfl (lv_room (Nat.le_of_ble_eq_true rfl)) dX1_areEelsAbout_19 ⟨(Nat.le_of_ble_eq_true rfl), (Nat.le_of_ble_eq_true rfl)⟩) hS (fun q _ h => hFc q h) hFc (fun r_2 u t H locs ht hvm hw_2 hB hz1 hk1 hS => ?_)
  obtain ⟨hP1, hD1⟩ := hB
  rw [ht] at hP1
  try dsimp only at hw_2
  obtain ⟨hP, hD⟩ := va_join (wr := [tc_X1 a0 a1 a2 a3 a4 fh lh ee]) (w1 := [tc_X4 a1 tk mo su]) hP hD [1] [0] rfl rfl (by decide) (by decide) hk1 hFc hP1 hD1
  have hP : va_P G.1 vwCl [tc_X1 a0 a1 a2 a3 a4 fh lh ee, tc_X4 a1 tk mo su] H := hP
  have hD : va_D A [tc_X1 a0 a1 a2 a3 a4 fh lh ee, tc_X4 a1 tk mo su] := hD
  subst hw_2
  refine lv_istore_n (lv' := [(2, .int (f_X4_hourNow tk)), (1, .int (f_X4_ageOn mo tk)), (0, .ref a0)]) hx hb dX1_areEelsAbout_22 rfl hl (by decide) rfl (fun ls hl => ?_)
  refine lv_iload_n hx hb dX1_areEelsAbout_23 rfl (lv_at hl 1 rfl) ?_
  refine lv_bipush (v := 13) hx hb dX1_areEelsAbout_24 (by decide) ?_
  refine lv_icmp_lt (tgt := 51) hx hb dX1_areEelsAbout_26 (by decide) (fun c_3 => ?_) (fun c_3 => ?_)
  · refine lv_iconst (v := 0) hx hb dX1_areEelsAbout_51 (by decide) ?_
    have hP9 := hP.sub (ws' := [tc_X1 a0 a1 a2 a3 a4 fh lh ee, tc_X4 a1 tk mo su]) [0, 1] rfl
    have hD9 := hD.sub (ws' := [tc_X1 a0 a1 a2 a3 a4 fh lh ee, tc_X4 a1 tk mo su]) [0, 1] (by decide) rfl
    exact W.zret (v := 0) hx hb hr rfl (fun t ht hW => ⟨⟨0, (), rfl, by unfold f_X1_areEelsAbout; all_goals (rw [if_pos c_3]); all_goals rfl, by rw [ht]; exact hP9, hD9⟩, hS.F ht⟩) hS.2.2 dX1_areEelsAbout_52
  · refine lv_iload_n hx hb dX1_areEelsAbout_29 rfl (lv_at hl 1 rfl) ?_
    refine lv_bipush (v := 17) hx hb dX1_areEelsAbout_30 (by decide) ?_
    refine lv_icmp_gt (tgt := 51) hx hb dX1_areEelsAbout_32 (by decide) (fun c_4 => ?_) (fun c_4 => ?_)
    · refine lv_iconst (v := 0) hx hb dX1_areEelsAbout_51 (by decide) ?_
      have hP9 := hP.sub (ws' := [tc_X1 a0 a1 a2 a3 a4 fh lh ee, tc_X4 a1 tk mo su]) [0, 1] rfl
      have hD9 := hD.sub (ws' := [tc_X1 a0 a1 a2 a3 a4 fh lh ee, tc_X4 a1 tk mo su]) [0, 1] (by decide) rfl
      exact W.zret (v := 0) hx hb hr rfl (fun t ht hW => ⟨⟨0, (), rfl, by unfold f_X1_areEelsAbout; all_goals (rw [if_neg c_3]); all_goals (rw [if_pos c_4]); all_goals rfl, by rw [ht]; exact hP9, hD9⟩, hS.F ht⟩) hS.2.2 dX1_areEelsAbout_52
    · refine lv_iload_n hx hb dX1_areEelsAbout_35 rfl (lv_at hl 0 rfl) ?_
      refine lv_bipush (v := 12) hx hb dX1_areEelsAbout_36 (by decide) ?_
      refine lv_icmp_lt (tgt := 47) hx hb dX1_areEelsAbout_38 (by decide) (fun c_5 => ?_) (fun c_5 => ?_)
      · refine lv_iconst (v := 1) hx hb dX1_areEelsAbout_47 (by decide) ?_
        refine lv_goto (tgt := 52) hx hb dX1_areEelsAbout_48 (by decide) ?_
        have hP9 := hP.sub (ws' := [tc_X1 a0 a1 a2 a3 a4 fh lh ee, tc_X4 a1 tk mo su]) [0, 1] rfl
        have hD9 := hD.sub (ws' := [tc_X1 a0 a1 a2 a3 a4 fh lh ee, tc_X4 a1 tk mo su]) [0, 1] (by decide) rfl
        exact W.zret (v := 1) hx hb hr rfl (fun t ht hW => ⟨⟨1, (), rfl, by unfold f_X1_areEelsAbout; all_goals (rw [if_neg c_3]); all_goals (rw [if_neg c_4]); all_goals (rw [if_pos c_5]); all_goals rfl, by rw [ht]; exact hP9, hD9⟩, hS.F ht⟩) hS.2.2 dX1_areEelsAbout_52
      · refine lv_iload_n hx hb dX1_areEelsAbout_41 rfl (lv_at hl 0 rfl) ?_
        refine lv_bipush (v := 35) hx hb dX1_areEelsAbout_42 (by decide) ?_
        refine lv_icmp_le (tgt := 51) hx hb dX1_areEelsAbout_44 (by decide) (fun c_6 => ?_) (fun c_6 => ?_)
        · refine lv_iconst (v := 0) hx hb dX1_areEelsAbout_51 (by decide) ?_
          have hP9 := hP.sub (ws' := [tc_X1 a0 a1 a2 a3 a4 fh lh ee, tc_X4 a1 tk mo su]) [0, 1] rfl
          have hD9 := hD.sub (ws' := [tc_X1 a0 a1 a2 a3 a4 fh lh ee, tc_X4 a1 tk mo su]) [0, 1] (by decide) rfl
          exact W.zret (v := 0) hx hb hr rfl (fun t ht hW => ⟨⟨0, (), rfl, by unfold f_X1_areEelsAbout; all_goals (rw [if_neg c_3]); all_goals (rw [if_neg c_4]); all_goals (rw [if_neg c_5]); all_goals (rw [if_pos c_6]); all_goals rfl, by rw [ht]; exact hP9, hD9⟩, hS.F ht⟩) hS.2.2 dX1_areEelsAbout_52
        · refine lv_iconst (v := 1) hx hb dX1_areEelsAbout_47 (by decide) ?_
          refine lv_goto (tgt := 52) hx hb dX1_areEelsAbout_48 (by decide) ?_
          have hP9 := hP.sub (ws' := [tc_X1 a0 a1 a2 a3 a4 fh lh ee, tc_X4 a1 tk mo su]) [0, 1] rfl
          have hD9 := hD.sub (ws' := [tc_X1 a0 a1 a2 a3 a4 fh lh ee, tc_X4 a1 tk mo su]) [0, 1] (by decide) rfl
          exact W.zret (v := 1) hx hb hr rfl (fun t ht hW => ⟨⟨1, (), rfl, by unfold f_X1_areEelsAbout; all_goals (rw [if_neg c_3]); all_goals (rw [if_neg c_4]); all_goals (rw [if_neg c_5]); all_goals (rw [if_neg c_6]); all_goals rfl, by rw [ht]; exact hP9, hD9⟩, hS.F ht⟩) hS.2.2 dX1_areEelsAbout_52
set_option maxHeartbeats 4000000 in
set_option maxRecDepth 100000 in
theorem c_X4_ticksToHigh (l : Launch) (G : tm_G) (a0 : Nat) (sz : Nat) (tk : Int32) (mo : Int32) (su : UInt64) (hn : n_X4_ticksToHigh tk) : Met l yX4_ticksToHigh wsX4_ticksToHigh ({ frames := 1, cells := 0, slots := 0, locals := 21 }) (va_Pc [.ref a0] (tm_B G [tc_X4 a0 tk mo su] sz)) (va_Qi (fun (r : Int32) (u : Unit) => r = f_X4_ticksToHigh tk) (fun (u : Unit) (t : State) => va_P G.1 vwCl [tc_X4 a0 tk mo su] t.heap ∧ va_D (va_A [tc_X4 a0 tk mo su] sz) [tc_X4 a0 tk mo su]) (va_A [tc_X4 a0 tk mo su] sz)) 0 0 (va_A [tc_X4 a0 tk mo su] sz) := by
  refine Met.ofW (cc := cX4_ticksToHigh) (maxL := 4) (ret := (some .int)) (by decide) rfl ?_
  intro p e s m args below meth c s₁ B hml hv
  obtain ⟨rfl, hsz, hP, hK, hD0, hN, hV⟩ := hv
  have hx := B.exec
  have hb := B.bytes
  have hr := B.returns
  have hts := atoms_spec (ws := wsX4_ticksToHigh) B.pre
  have hown : s.vm.findClass RX4 = some m.cls := findClass_of_methodNamed B.named
  have hlocks := B.notSynchronized
  subst hsz
  have n_8 := hn
  unfold n_X4_ticksToHigh at n_8
  have hiX4 : ∀ w ∈ u_ws RX4 TX4 3, w ∈ wsX4_ticksToHigh := fun _ h => List.mem_cons_of_mem _ (List.mem_append_right _ h)
  have hD := hD0.self (sz := s.heap.size)
  generalize hAe : va_A [tc_X4 a0 tk mo su] s.heap.size = A at hD hV ⊢
  have hA : ∀ q : Nat, s.heap.size ≤ q → A q := fun q h => by rw [← hAe]; exact Or.inr h
  have hS : va_S A s.heap s.heap [] := va_S.rf
  have hl := lv_entry ([.ref a0]) (n := 4) (Nat.le_of_ble_eq_true rfl)
  rw [lg_entry_eq]
  generalize (lg_sl ([.ref a0]) ++ List.replicate (4 - (lg_sl ([.ref a0])).length) Slot.unset).toArray = ls at hl ⊢
  have hl : lv_has ls 4 [(0, .ref a0)] := hl
  refine lv_iconst (v := 0) hx hb dX4_ticksToHigh_0 (by decide) ?_
  refine lv_istore_n (lv' := [(1, .int 0), (0, .ref a0)]) hx hb dX4_ticksToHigh_1 rfl hl (by decide) rfl (fun ls hl => ?_)
  have L_2 : ∀ (fuel : Nat) (x2_0 : Int32), n_X4_ticksToHigh_2 tk fuel x2_0 → f_X4_ticksToHigh tk = f_X4_ticksToHigh_2 tk fuel x2_0 → ∀ (H : Heap) (locs : List Loc), va_P G.1 vwCl [tc_X4 a0 tk mo su] H → va_D A [tc_X4 a0 tk mo su] → va_S A s.heap H locs → ∀ ls : Array Slot, lv_has ls 4 [(1, .int x2_0), (0, .ref a0)] → W p l e (headSpec wsX4_ticksToHigh ({ frames := 1, cells := 0, slots := 0, locals := 21 } : Room)).room s m ([.ref a0] : List Value).toArray below meth c H locs 0 0 (MQ below (va_Qi (fun (r : Int32) (u : Unit) => r = f_X4_ticksToHigh tk) (fun (u : Unit) (t : State) => va_P G.1 vwCl [tc_X4 a0 tk mo su] t.heap ∧ va_D A [tc_X4 a0 tk mo su]) A) ([.ref a0] : List Value).toArray s 0 0 A) (F0 m 2 ls []) := by
    intro fuel
    induction fuel with
    | zero =>
      intro x2_0 hnl; exact absurd hnl (by simp [n_X4_ticksToHigh_2])
    | succ fuel ih =>
      intro x2_0 hnl hE H locs hP hD hS ls hl
      rw [n_X4_ticksToHigh_2] at hnl
      obtain ⟨n_2, n_5, n_7⟩ := hnl
      refine lv_iload_n hx hb dX4_ticksToHigh_2 rfl (lv_at hl 0 rfl) ?_
      refine lv_bipush (v := 25) hx hb dX4_ticksToHigh_3 (by decide) ?_
      refine lv_icmp_ge (tgt := 43) hx hb dX4_ticksToHigh_5 (by decide) (fun c_1 => ?_) (fun c_1 => ?_)
      · refine lv_iconst (v := (-1)) hx hb dX4_ticksToHigh_43 (by decide) ?_
        have hP9 := hP.sub (ws' := [tc_X4 a0 tk mo su]) [0] rfl
        have hD9 := hD.sub (ws' := [tc_X4 a0 tk mo su]) [0] (by decide) rfl
        exact W.iret (v := (-1)) hx hb hr (fun t ht hW => ⟨⟨(-1), (), rfl, by rw [hE, f_X4_ticksToHigh_2]; all_goals (rw [if_pos c_1]); all_goals rfl, by rw [ht]; exact hP9, hD9⟩, hS.F ht⟩) hS.2.2 dX4_ticksToHigh_44
      · refine lv_aload_n hx hb dX4_ticksToHigh_8 rfl (lv_at hl 1 rfl) ?_
        refine lv_aload_n hx hb dX4_ticksToHigh_9 rfl (lv_at hl 1 rfl) ?_
        refine va_get (D := G.1) (ci := 4) (v := .int tk) (C := RX4) (T := TX4) (N := 3) hx hb hts hiX4 hown hK hP 0 rfl rfl 0 (by decide) (hts (.fieldLink RX4 9 "TideMill$Sea" "tick" "I") (List.mem_of_getElem? (i := 1) rfl)) (fun _ h9 => h9) rfl dX4_ticksToHigh_10 ?_
        refine lv_iload_n hx hb dX4_ticksToHigh_13 rfl (lv_at hl 0 rfl) ?_
        refine lv_iadd hx hb dX4_ticksToHigh_14 ?_
        have hPc := hP.sub (ws' := [tc_X4 a0 tk mo su]) [0] rfl
        have hDc := hD.sub (ws' := [tc_X4 a0 tk mo su]) [0] (by decide) rfl
        have hFc := va_free (wc := [tc_X4 a0 tk mo su]) hD hS hA [0] rfl
        refine va_calld (va_runV (As := [.int (tk + x2_0)]) (rest := []) ⟨hx, hb, hml, hown, hts⟩ (c_X4_phaseOn l G a0 H.size tk mo su (tk + x2_0) (n_2 c_1)) (cwV 1 hts gX4_ticksToHigh_X4_phaseOn rfl rfl rfl (by decide +kernel) ⟨(Nat.le_of_ble_eq_true rfl), (Nat.le_of_ble_eq_true rfl)⟩) (tm_preV hK hN hV hS hPc hDc hFc (va_recv hK hPc (ci := 4) (q0 := 0) rfl rfl)) rfl rfl hl.1 rfl (lv_room (Nat.le_of_ble_eq_true rfl)) dX4_ticksToHigh_15 ⟨(Nat.le_of_ble_eq_true rfl), (Nat.le_of_ble_eq_true rfl)⟩) hS (fun q _ h => hFc q h) hFc (fun r_3 u t H locs ht hvm hw_3 hB hz1 hk1 hS => ?_)
        obtain ⟨hP1, hD1⟩ := hB
        rw [ht] at hP1
        try dsimp only at hw_3
        obtain ⟨hP, hD⟩ := va_join (wr := []) (w1 := [tc_X4 a0 tk mo su]) hP hD [0] [] rfl rfl (by decide) (by decide) hk1 hFc hP1 hD1
        have hP : va_P G.1 vwCl [tc_X4 a0 tk mo su] H := hP
        have hD : va_D A [tc_X4 a0 tk mo su] := hD
        subst hw_3
        refine lv_dstore_n (lv' := [(2, .double (f_X4_phaseOn (tk + x2_0))), (1, .int x2_0), (0, .ref a0)]) hx hb dX4_ticksToHigh_18 rfl hl (by decide) rfl (fun ls hl => ?_)
        refine lv_dload_n hx hb dX4_ticksToHigh_19 rfl (lv_at hl 0 rfl) ?_
        refine lv_ldc2d hx hb hown (hts (.constantDouble RX4 49 (4622945017495814144)) (List.mem_of_getElem? (i := 2) rfl)) dX4_ticksToHigh_20 ?_
        refine lv_dcmp hx hb dX4_ticksToHigh_23 ?_
        refine lv_if_lt (tgt := 37) hx hb dX4_ticksToHigh_24 (by decide) (fun c_4 => ?_) (fun c_4 => ?_)
        · refine lv_iinc (v := x2_0 + 1) (lv' := [(1, .int (x2_0 + 1)), (2, .double (f_X4_phaseOn (tk + x2_0))), (0, .ref a0)]) hx hb dX4_ticksToHigh_37 hl (k := 1) rfl rfl (by decide) rfl (fun ls hl => ?_)
          refine lv_goto (tgt := 2) hx hb dX4_ticksToHigh_40 (by decide) ?_
          have hP9 := hP.sub (ws' := [tc_X4 a0 tk mo su]) [0] rfl
          have hD9 := hD.sub (ws' := [tc_X4 a0 tk mo su]) [0] (by decide) rfl
          exact ih (x2_0 + 1) (n_5 c_1 c_4) (by rw [hE, f_X4_ticksToHigh_2]; all_goals (rw [if_neg c_1]); all_goals (rw [if_pos c_4]); all_goals rfl) _ _ hP9 hD9 hS _ (lv_sub hl [0, 2] rfl)
        · refine lv_dload_n hx hb dX4_ticksToHigh_27 rfl (lv_at hl 0 rfl) ?_
          refine lv_ldc2d hx hb hown (hts (.constantDouble RX4 57 (4623507967449235456)) (List.mem_of_getElem? (i := 3) rfl)) dX4_ticksToHigh_28 ?_
          refine lv_dcmp hx hb dX4_ticksToHigh_31 ?_
          refine lv_if_ge (tgt := 37) hx hb dX4_ticksToHigh_32 (by decide) (fun c_6 => ?_) (fun c_6 => ?_)
          · refine lv_iinc (v := x2_0 + 1) (lv' := [(1, .int (x2_0 + 1)), (2, .double (f_X4_phaseOn (tk + x2_0))), (0, .ref a0)]) hx hb dX4_ticksToHigh_37 hl (k := 1) rfl rfl (by decide) rfl (fun ls hl => ?_)
            refine lv_goto (tgt := 2) hx hb dX4_ticksToHigh_40 (by decide) ?_
            have hP9 := hP.sub (ws' := [tc_X4 a0 tk mo su]) [0] rfl
            have hD9 := hD.sub (ws' := [tc_X4 a0 tk mo su]) [0] (by decide) rfl
            exact ih (x2_0 + 1) (n_7 c_1 c_4 c_6) (by rw [hE, f_X4_ticksToHigh_2]; all_goals (rw [if_neg c_1]); all_goals (rw [if_neg c_4]); all_goals (rw [if_pos c_6]); all_goals rfl) _ _ hP9 hD9 hS _ (lv_sub hl [0, 2] rfl)
          · refine lv_iload_n hx hb dX4_ticksToHigh_35 rfl (lv_at hl 1 rfl) ?_
            have hP9 := hP.sub (ws' := [tc_X4 a0 tk mo su]) [0] rfl
            have hD9 := hD.sub (ws' := [tc_X4 a0 tk mo su]) [0] (by decide) rfl
            exact W.iret (v := x2_0) hx hb hr (fun t ht hW => ⟨⟨x2_0, (), rfl, by rw [hE, f_X4_ticksToHigh_2]; all_goals (rw [if_neg c_1]); all_goals (rw [if_neg c_4]); all_goals (rw [if_neg c_6]); all_goals rfl, by rw [ht]; exact hP9, hD9⟩, hS.F ht⟩) hS.2.2 dX4_ticksToHigh_36
  have hP9 := hP.sub (ws' := [tc_X4 a0 tk mo su]) [0] rfl
  have hD9 := hD.sub (ws' := [tc_X4 a0 tk mo su]) [0] (by decide) rfl
  exact L_2 27 0 n_8 (by unfold f_X4_ticksToHigh; all_goals rfl) _ _ hP9 hD9 hS _ (lv_sub hl [0, 1] rfl)
set_option maxHeartbeats 4000000 in
set_option maxRecDepth 100000 in
theorem c_X1_goBy (l : Launch) (G : tm_G) (a0 : Nat) (a1 : Nat) (a2 : Nat) (a3 : Nat) (a4 : Nat) (b0 : Nat) (b1 : Nat) (b2 : Nat) (b3 : Nat) (b4 : Nat) (b5 : Nat) (d0 : Nat) (d1 : Nat) (d2 : Nat) (d3 : Nat) (sz : Nat) (fh : Int32) (lh : Int32) (ee : Int32) (tk : Int32) (mo : Int32) (su : UInt64) (lv : UInt64) (si : UInt32) (ga : Int32) (sl : Int32) (sc : Int32) (fo : UInt64) (ln : Int32) (ow : Nat → Int32) (gr : Nat → Int32) (we : Nat → Int32) (du : Nat → Int32) (sa : Nat → Int32) (le : Nat → UInt64) (pn : Int32) (dl : Nat → UInt32) (pl : Nat → Int32) (dr : Nat → Int32) (sp : Nat → Int32) (hn : n_X1_goBy fh lh tk mo su lv si ga sl sc ln gr sa le pn dl pl dr sp) : Met l yX1_goBy wsX1_goBy ({ frames := 4, cells := 0, slots := 0, locals := 103 }) (va_Pc [.ref a0] (tm_B G [tc_X1 a0 a1 a2 a3 a4 fh lh ee, tc_X4 a1 tk mo su, tc_X3 a2 lv si ga sl sc fo, tc_X0 a3 b0 b1 b2 b3 b4 b5 ln, tc_I G b0 10 ow, tc_I G b1 10 gr, tc_I G b2 10 we, tc_I G b3 10 du, tc_I G b4 10 sa, tc_D G b5 10 le, tc_X2 a4 d0 d1 d2 d3 pn, tc_F G d0 3 dl, tc_I G d1 3 pl, tc_I G d2 3 dr, tc_I G d3 3 sp] sz)) (va_Qv (fun (u : Int32 × Int32 × UInt64 × UInt32 × UInt64 × (Nat → Int32) × (Nat → UInt64) × (Nat → UInt32) × (Nat → Int32) × (Nat → Int32) × (Nat → Int32)) => u = f_X1_goBy fh lh ee tk mo su lv si ga sl sc ln gr sa le pn dl pl dr sp) (fun (u : Int32 × Int32 × UInt64 × UInt32 × UInt64 × (Nat → Int32) × (Nat → UInt64) × (Nat → UInt32) × (Nat → Int32) × (Nat → Int32) × (Nat → Int32)) (t : State) => va_P G.1 vwCl [tc_X1 a0 a1 a2 a3 a4 fh lh u.1, tc_X4 a1 u.2.1 mo su, tc_X3 a2 u.2.2.1 u.2.2.2.1 ga sl sc u.2.2.2.2.1, tc_X0 a3 b0 b1 b2 b3 b4 b5 ln, tc_I G b0 10 ow, tc_I G b1 10 gr, tc_I G b2 10 we, tc_I G b3 10 du, tc_I G b4 10 u.2.2.2.2.2.1, tc_D G b5 10 u.2.2.2.2.2.2.1, tc_X2 a4 d0 d1 d2 d3 pn, tc_F G d0 3 u.2.2.2.2.2.2.2.1, tc_I G d1 3 u.2.2.2.2.2.2.2.2.1, tc_I G d2 3 u.2.2.2.2.2.2.2.2.2.1, tc_I G d3 3 u.2.2.2.2.2.2.2.2.2.2] t.heap ∧ va_D (va_A [tc_X1 a0 a1 a2 a3 a4 fh lh ee, tc_X4 a1 tk mo su, tc_X3 a2 lv si ga sl sc fo, tc_X0 a3 b0 b1 b2 b3 b4 b5 ln, tc_I G b0 10 ow, tc_I G b1 10 gr, tc_I G b2 10 we, tc_I G b3 10 du, tc_I G b4 10 sa, tc_D G b5 10 le, tc_X2 a4 d0 d1 d2 d3 pn, tc_F G d0 3 dl, tc_I G d1 3 pl, tc_I G d2 3 dr, tc_I G d3 3 sp] sz) [tc_X1 a0 a1 a2 a3 a4 fh lh u.1, tc_X4 a1 u.2.1 mo su, tc_X3 a2 u.2.2.1 u.2.2.2.1 ga sl sc u.2.2.2.2.1, tc_X0 a3 b0 b1 b2 b3 b4 b5 ln, tc_I G b0 10 ow, tc_I G b1 10 gr, tc_I G b2 10 we, tc_I G b3 10 du, tc_I G b4 10 u.2.2.2.2.2.1, tc_D G b5 10 u.2.2.2.2.2.2.1, tc_X2 a4 d0 d1 d2 d3 pn, tc_F G d0 3 u.2.2.2.2.2.2.2.1, tc_I G d1 3 u.2.2.2.2.2.2.2.2.1, tc_I G d2 3 u.2.2.2.2.2.2.2.2.2.1, tc_I G d3 3 u.2.2.2.2.2.2.2.2.2.2]) (va_A [tc_X1 a0 a1 a2 a3 a4 fh lh ee, tc_X4 a1 tk mo su, tc_X3 a2 lv si ga sl sc fo, tc_X0 a3 b0 b1 b2 b3 b4 b5 ln, tc_I G b0 10 ow, tc_I G b1 10 gr, tc_I G b2 10 we, tc_I G b3 10 du, tc_I G b4 10 sa, tc_D G b5 10 le, tc_X2 a4 d0 d1 d2 d3 pn, tc_F G d0 3 dl, tc_I G d1 3 pl, tc_I G d2 3 dr, tc_I G d3 3 sp] sz)) 0 0 (va_A [tc_X1 a0 a1 a2 a3 a4 fh lh ee, tc_X4 a1 tk mo su, tc_X3 a2 lv si ga sl sc fo, tc_X0 a3 b0 b1 b2 b3 b4 b5 ln, tc_I G b0 10 ow, tc_I G b1 10 gr, tc_I G b2 10 we, tc_I G b3 10 du, tc_I G b4 10 sa, tc_D G b5 10 le, tc_X2 a4 d0 d1 d2 d3 pn, tc_F G d0 3 dl, tc_I G d1 3 pl, tc_I G d2 3 dr, tc_I G d3 3 sp] sz) := by
  refine Met.ofW (cc := cX1_goBy) (maxL := 1) (ret := none) (by decide) rfl ?_
  intro p e s m args below meth c s₁ B hml hv
  obtain ⟨rfl, hsz, hP, hK, hD0, hN, hV⟩ := hv
  have hx := B.exec
  have hb := B.bytes
  have hr := B.returns
  have hts := atoms_spec (ws := wsX1_goBy) B.pre
  have hown : s.vm.findClass RX1 = some m.cls := findClass_of_methodNamed B.named
  have hlocks := B.notSynchronized
  subst hsz
  obtain ⟨n_1, n_3, n_9⟩ := hn
  have hiX1 : ∀ w ∈ u_ws RX1 TX1 7, w ∈ wsX1_goBy := fun _ h => List.mem_cons_of_mem _ (List.mem_append_left _ (List.mem_append_left _ (List.mem_append_left _ (List.mem_append_left _ (List.mem_append_right _ h)))))
  have hiX3 : ∀ w ∈ u_ws RX3 TX3 6, w ∈ wsX1_goBy := fun _ h => List.mem_cons_of_mem _ (List.mem_append_left _ (List.mem_append_left _ (List.mem_append_right _ h)))
  have hiX4 : ∀ w ∈ u_ws RX4 TX4 3, w ∈ wsX1_goBy := fun _ h => List.mem_cons_of_mem _ (List.mem_append_left _ (List.mem_append_left _ (List.mem_append_left _ (List.mem_append_right _ h))))
  have hD := hD0.self (sz := s.heap.size)
  generalize hAe : va_A [tc_X1 a0 a1 a2 a3 a4 fh lh ee, tc_X4 a1 tk mo su, tc_X3 a2 lv si ga sl sc fo, tc_X0 a3 b0 b1 b2 b3 b4 b5 ln, tc_I G b0 10 ow, tc_I G b1 10 gr, tc_I G b2 10 we, tc_I G b3 10 du, tc_I G b4 10 sa, tc_D G b5 10 le, tc_X2 a4 d0 d1 d2 d3 pn, tc_F G d0 3 dl, tc_I G d1 3 pl, tc_I G d2 3 dr, tc_I G d3 3 sp] s.heap.size = A at hD hV ⊢
  have hA : ∀ q : Nat, s.heap.size ≤ q → A q := fun q h => by rw [← hAe]; exact Or.inr h
  have hS : va_S A s.heap s.heap [] := va_S.rf
  have hl := lv_entry ([.ref a0]) (n := 1) (Nat.le_of_ble_eq_true rfl)
  rw [lg_entry_eq]
  generalize (lg_sl ([.ref a0]) ++ List.replicate (1 - (lg_sl ([.ref a0])).length) Slot.unset).toArray = ls at hl ⊢
  have hl : lv_has ls 1 [(0, .ref a0)] := hl
  refine lv_aload_n hx hb dX1_goBy_0 rfl (lv_at hl 0 rfl) ?_
  refine va_get (D := G.1) (ci := 1) (v := .ref a2) (C := RX1) (T := TX1) (N := 7) hx hb hts hiX1 hown hK hP 0 rfl rfl 1 (by decide) (hts (.fieldLink RX1 21 "TideMill$Mill" "pond" "LTideMill$Pond;") (List.mem_of_getElem? (i := 1) rfl)) (fun _ h9 => h9) rfl dX1_goBy_1 ?_
  refine lv_aload_n hx hb dX1_goBy_4 rfl (lv_at hl 0 rfl) ?_
  refine va_get (D := G.1) (ci := 1) (v := .ref a1) (C := RX1) (T := TX1) (N := 7) hx hb hts hiX1 hown hK hP 0 rfl rfl 0 (by decide) (hts (.fieldLink RX1 12 "TideMill$Mill" "sea" "LTideMill$Sea;") (List.mem_of_getElem? (i := 2) rfl)) (fun _ h9 => h9) rfl dX1_goBy_5 ?_
  refine lv_aload_n hx hb dX1_goBy_8 rfl (lv_at hl 0 rfl) ?_
  refine va_get (D := G.1) (ci := 1) (v := .ref a1) (C := RX1) (T := TX1) (N := 7) hx hb hts hiX1 hown hK hP 0 rfl rfl 0 (by decide) (hts (.fieldLink RX1 12 "TideMill$Mill" "sea" "LTideMill$Sea;") (List.mem_of_getElem? (i := 2) rfl)) (fun _ h9 => h9) rfl dX1_goBy_9 ?_
  refine va_get (D := G.1) (ci := 4) (v := .int tk) (C := RX4) (T := TX4) (N := 3) hx hb hts hiX4 hown hK hP 1 rfl rfl 0 (by decide) (hts (.fieldLink RX1 69 "TideMill$Sea" "tick" "I") (List.mem_of_getElem? (i := 3) rfl)) (fun _ h9 => h9) rfl dX1_goBy_12 ?_
  have hPc := hP.sub (ws' := [tc_X4 a1 tk mo su]) [1] rfl
  have hDc := hD.sub (ws' := [tc_X4 a1 tk mo su]) [1] (by decide) rfl
  have hFc := va_free (wc := [tc_X4 a1 tk mo su]) hD hS hA [1] rfl
  refine va_calld (va_runV (As := [.int tk]) (rest := [.ref a2]) ⟨hx, hb, hml, hown, hts⟩ (c_X4_heightOn l G a1 s.heap.size tk mo su tk n_1) (cwV 1 hts gX1_goBy_X4_heightOn rfl rfl rfl (by decide +kernel) ⟨(Nat.le_of_ble_eq_true rfl), (Nat.le_of_ble_eq_true rfl)⟩) (tm_preV hK hN hV hS hPc hDc hFc (va_recv hK hPc (ci := 4) (q0 := 0) rfl rfl)) rfl rfl hl.1 rfl (lv_room (Nat.le_of_ble_eq_true rfl)) dX1_goBy_15 ⟨(Nat.le_of_ble_eq_true rfl), (Nat.le_of_ble_eq_true rfl)⟩) hS (fun q _ h => hFc q h) hFc (fun r_2 u t H locs ht hvm hw_2 hB hz1 hk1 hS => ?_)
  obtain ⟨hP1, hD1⟩ := hB
  rw [ht] at hP1
  try dsimp only at hw_2
  obtain ⟨hP, hD⟩ := va_join (wr := [tc_X1 a0 a1 a2 a3 a4 fh lh ee, tc_X3 a2 lv si ga sl sc fo, tc_X0 a3 b0 b1 b2 b3 b4 b5 ln, tc_I G b0 10 ow, tc_I G b1 10 gr, tc_I G b2 10 we, tc_I G b3 10 du, tc_I G b4 10 sa, tc_D G b5 10 le, tc_X2 a4 d0 d1 d2 d3 pn, tc_F G d0 3 dl, tc_I G d1 3 pl, tc_I G d2 3 dr, tc_I G d3 3 sp]) (w1 := [tc_X4 a1 tk mo su]) hP hD [1] [0, 2, 3, 4, 5, 6, 7, 8, 9, 10, 11, 12, 13, 14] rfl rfl (by decide) (by decide) hk1 hFc hP1 hD1
  have hP : va_P G.1 vwCl [tc_X1 a0 a1 a2 a3 a4 fh lh ee, tc_X3 a2 lv si ga sl sc fo, tc_X0 a3 b0 b1 b2 b3 b4 b5 ln, tc_I G b0 10 ow, tc_I G b1 10 gr, tc_I G b2 10 we, tc_I G b3 10 du, tc_I G b4 10 sa, tc_D G b5 10 le, tc_X2 a4 d0 d1 d2 d3 pn, tc_F G d0 3 dl, tc_I G d1 3 pl, tc_I G d2 3 dr, tc_I G d3 3 sp, tc_X4 a1 tk mo su] H := hP
  have hD : va_D A [tc_X1 a0 a1 a2 a3 a4 fh lh ee, tc_X3 a2 lv si ga sl sc fo, tc_X0 a3 b0 b1 b2 b3 b4 b5 ln, tc_I G b0 10 ow, tc_I G b1 10 gr, tc_I G b2 10 we, tc_I G b3 10 du, tc_I G b4 10 sa, tc_D G b5 10 le, tc_X2 a4 d0 d1 d2 d3 pn, tc_F G d0 3 dl, tc_I G d1 3 pl, tc_I G d2 3 dr, tc_I G d3 3 sp, tc_X4 a1 tk mo su] := hD
  subst hw_2
  have hPc := hP.sub (ws' := [tc_X3 a2 lv si ga sl sc fo]) [1] rfl
  have hDc := hD.sub (ws' := [tc_X3 a2 lv si ga sl sc fo]) [1] (by decide) rfl
  have hFc := va_free (wc := [tc_X3 a2 lv si ga sl sc fo]) hD hS hA [1] rfl
  refine va_callv (va_runV (As := [.double (f_X4_heightOn mo su tk)]) (rest := []) ⟨hx, hb, hml, hown, hts⟩ (c_X3_goBy l G a2 H.size lv si ga sl sc fo (f_X4_heightOn mo su tk) n_3) (cwV 1 hts gX1_goBy_X3_goBy rfl rfl rfl (by decide +kernel) ⟨(Nat.le_of_ble_eq_true rfl), (Nat.le_of_ble_eq_true rfl)⟩) (tm_preV hK hN hV hS hPc hDc hFc (va_recv hK hPc (ci := 3) (q0 := 0) rfl rfl)) rfl rfl hl.1 rfl (lv_room (Nat.le_of_ble_eq_true rfl)) dX1_goBy_18 ⟨(Nat.le_of_ble_eq_true rfl), (Nat.le_of_ble_eq_true rfl)⟩) hS (fun q _ h => hFc q h) hFc (fun u t H locs ht hvm hw_4 hB hz1 hk1 hS => ?_)
  obtain ⟨u_5, u_6, u_7⟩ := u
  obtain ⟨hP1, hD1⟩ := hB
  rw [ht] at hP1
  try dsimp only at hw_4
  obtain ⟨hP, hD⟩ := va_join (wr := [tc_X1 a0 a1 a2 a3 a4 fh lh ee, tc_X0 a3 b0 b1 b2 b3 b4 b5 ln, tc_I G b0 10 ow, tc_I G b1 10 gr, tc_I G b2 10 we, tc_I G b3 10 du, tc_I G b4 10 sa, tc_D G b5 10 le, tc_X2 a4 d0 d1 d2 d3 pn, tc_F G d0 3 dl, tc_I G d1 3 pl, tc_I G d2 3 dr, tc_I G d3 3 sp, tc_X4 a1 tk mo su]) (w1 := [tc_X3 a2 u_5 u_6 ga sl sc u_7]) hP hD [1] [0, 2, 3, 4, 5, 6, 7, 8, 9, 10, 11, 12, 13, 14] rfl rfl (by decide) (by decide) hk1 hFc hP1 hD1
  have hP : va_P G.1 vwCl [tc_X1 a0 a1 a2 a3 a4 fh lh ee, tc_X0 a3 b0 b1 b2 b3 b4 b5 ln, tc_I G b0 10 ow, tc_I G b1 10 gr, tc_I G b2 10 we, tc_I G b3 10 du, tc_I G b4 10 sa, tc_D G b5 10 le, tc_X2 a4 d0 d1 d2 d3 pn, tc_F G d0 3 dl, tc_I G d1 3 pl, tc_I G d2 3 dr, tc_I G d3 3 sp, tc_X4 a1 tk mo su, tc_X3 a2 u_5 u_6 ga sl sc u_7] H := hP
  have hD : va_D A [tc_X1 a0 a1 a2 a3 a4 fh lh ee, tc_X0 a3 b0 b1 b2 b3 b4 b5 ln, tc_I G b0 10 ow, tc_I G b1 10 gr, tc_I G b2 10 we, tc_I G b3 10 du, tc_I G b4 10 sa, tc_D G b5 10 le, tc_X2 a4 d0 d1 d2 d3 pn, tc_F G d0 3 dl, tc_I G d1 3 pl, tc_I G d2 3 dr, tc_I G d3 3 sp, tc_X4 a1 tk mo su, tc_X3 a2 u_5 u_6 ga sl sc u_7] := hD
  refine lv_aload_n hx hb dX1_goBy_21 rfl (lv_at hl 0 rfl) ?_
  refine va_get (D := G.1) (ci := 1) (v := .ref a4) (C := RX1) (T := TX1) (N := 7) hx hb hts hiX1 hown hK hP 0 rfl rfl 3 (by decide) (hts (.fieldLink RX1 35 "TideMill$Mill" "pairs" "LTideMill$Pairs;") (List.mem_of_getElem? (i := 4) rfl)) (fun _ h9 => h9) rfl dX1_goBy_22 ?_
  refine lv_aload_n hx hb dX1_goBy_25 rfl (lv_at hl 0 rfl) ?_
  refine va_get (D := G.1) (ci := 1) (v := .ref a2) (C := RX1) (T := TX1) (N := 7) hx hb hts hiX1 hown hK hP 0 rfl rfl 1 (by decide) (hts (.fieldLink RX1 21 "TideMill$Mill" "pond" "LTideMill$Pond;") (List.mem_of_getElem? (i := 1) rfl)) (fun _ h9 => h9) rfl dX1_goBy_26 ?_
  refine va_get (D := G.1) (ci := 3) (v := .double u_7) (C := RX3) (T := TX3) (N := 6) hx hb hts hiX3 hown hK hP 14 rfl rfl 5 (by decide) (hts (.fieldLink RX1 79 "TideMill$Pond" "force" "D") (List.mem_of_getElem? (i := 5) rfl)) (fun _ h9 => h9) rfl dX1_goBy_29 ?_
  refine lv_aload_n hx hb dX1_goBy_32 rfl (lv_at hl 0 rfl) ?_
  have hPc := hP.sub (ws' := [tc_X1 a0 a1 a2 a3 a4 fh lh ee, tc_X4 a1 tk mo su]) [0, 13] rfl
  have hDc := hD.sub (ws' := [tc_X1 a0 a1 a2 a3 a4 fh lh ee, tc_X4 a1 tk mo su]) [0, 13] (by decide) rfl
  have hFc := va_free (wc := [tc_X1 a0 a1 a2 a3 a4 fh lh ee, tc_X4 a1 tk mo su]) hD hS hA [0, 13] rfl
  refine va_calli (va_runV (As := []) (rest := [.double u_7, .ref a4]) ⟨hx, hb, hml, hown, hts⟩ (c_X1_isAwake l G a0 a1 a2 a3 a4 H.size fh lh ee tk mo su ) (cwV 0 hts gX1_goBy_X1_isAwake rfl rfl rfl (by decide +kernel) ⟨(Nat.le_of_ble_eq_true rfl), (Nat.le_of_ble_eq_true rfl)⟩) (tm_preV hK hN hV hS hPc hDc hFc (va_recv hK hPc (ci := 1) (q0 := 0) rfl rfl)) rfl rfl hl.1 rfl (lv_room (Nat.le_of_ble_eq_true rfl)) dX1_goBy_33 ⟨(Nat.le_of_ble_eq_true rfl), (Nat.le_of_ble_eq_true rfl)⟩) hS (fun q _ h => hFc q h) hFc (fun r_8 u t H locs ht hvm hw_8 hB hz1 hk1 hS => ?_)
  obtain ⟨hP1, hD1⟩ := hB
  rw [ht] at hP1
  try dsimp only at hw_8
  obtain ⟨hP, hD⟩ := va_join (wr := [tc_X0 a3 b0 b1 b2 b3 b4 b5 ln, tc_I G b0 10 ow, tc_I G b1 10 gr, tc_I G b2 10 we, tc_I G b3 10 du, tc_I G b4 10 sa, tc_D G b5 10 le, tc_X2 a4 d0 d1 d2 d3 pn, tc_F G d0 3 dl, tc_I G d1 3 pl, tc_I G d2 3 dr, tc_I G d3 3 sp, tc_X3 a2 u_5 u_6 ga sl sc u_7]) (w1 := [tc_X1 a0 a1 a2 a3 a4 fh lh ee, tc_X4 a1 tk mo su]) hP hD [0, 13] [1, 2, 3, 4, 5, 6, 7, 8, 9, 10, 11, 12, 14] rfl rfl (by decide) (by decide) hk1 hFc hP1 hD1
  have hP : va_P G.1 vwCl [tc_X0 a3 b0 b1 b2 b3 b4 b5 ln, tc_I G b0 10 ow, tc_I G b1 10 gr, tc_I G b2 10 we, tc_I G b3 10 du, tc_I G b4 10 sa, tc_D G b5 10 le, tc_X2 a4 d0 d1 d2 d3 pn, tc_F G d0 3 dl, tc_I G d1 3 pl, tc_I G d2 3 dr, tc_I G d3 3 sp, tc_X3 a2 u_5 u_6 ga sl sc u_7, tc_X1 a0 a1 a2 a3 a4 fh lh ee, tc_X4 a1 tk mo su] H := hP
  have hD : va_D A [tc_X0 a3 b0 b1 b2 b3 b4 b5 ln, tc_I G b0 10 ow, tc_I G b1 10 gr, tc_I G b2 10 we, tc_I G b3 10 du, tc_I G b4 10 sa, tc_D G b5 10 le, tc_X2 a4 d0 d1 d2 d3 pn, tc_F G d0 3 dl, tc_I G d1 3 pl, tc_I G d2 3 dr, tc_I G d3 3 sp, tc_X3 a2 u_5 u_6 ga sl sc u_7, tc_X1 a0 a1 a2 a3 a4 fh lh ee, tc_X4 a1 tk mo su] := hD
  subst hw_8
  refine lv_aload_n hx hb dX1_goBy_36 rfl (lv_at hl 0 rfl) ?_
  refine va_get (D := G.1) (ci := 1) (v := .ref a3) (C := RX1) (T := TX1) (N := 7) hx hb hts hiX1 hown hK hP 13 rfl rfl 2 (by decide) (hts (.fieldLink RX1 28 "TideMill$Mill" "lots" "LTideMill$Lots;") (List.mem_of_getElem? (i := 6) rfl)) (fun _ h9 => h9) rfl dX1_goBy_37 ?_
  have hPc := hP.sub (ws' := [tc_X2 a4 d0 d1 d2 d3 pn, tc_F G d0 3 dl, tc_I G d1 3 pl, tc_I G d2 3 dr, tc_I G d3 3 sp, tc_X0 a3 b0 b1 b2 b3 b4 b5 ln, tc_I G b0 10 ow, tc_I G b1 10 gr, tc_I G b2 10 we, tc_I G b3 10 du, tc_I G b4 10 sa, tc_D G b5 10 le]) [7, 8, 9, 10, 11, 0, 1, 2, 3, 4, 5, 6] rfl
  have hDc := hD.sub (ws' := [tc_X2 a4 d0 d1 d2 d3 pn, tc_F G d0 3 dl, tc_I G d1 3 pl, tc_I G d2 3 dr, tc_I G d3 3 sp, tc_X0 a3 b0 b1 b2 b3 b4 b5 ln, tc_I G b0 10 ow, tc_I G b1 10 gr, tc_I G b2 10 we, tc_I G b3 10 du, tc_I G b4 10 sa, tc_D G b5 10 le]) [7, 8, 9, 10, 11, 0, 1, 2, 3, 4, 5, 6] (by decide) rfl
  have hFc := va_free (wc := [tc_X2 a4 d0 d1 d2 d3 pn, tc_F G d0 3 dl, tc_I G d1 3 pl, tc_I G d2 3 dr, tc_I G d3 3 sp, tc_X0 a3 b0 b1 b2 b3 b4 b5 ln, tc_I G b0 10 ow, tc_I G b1 10 gr, tc_I G b2 10 we, tc_I G b3 10 du, tc_I G b4 10 sa, tc_D G b5 10 le]) hD hS hA [7, 8, 9, 10, 11, 0, 1, 2, 3, 4, 5, 6] rfl
  refine va_callv (va_runV (As := [.double u_7, .int (f_X1_isAwake fh lh tk), .ref a3]) (rest := []) ⟨hx, hb, hml, hown, hts⟩ (c_X2_goBy l G a4 d0 d1 d2 d3 a3 b0 b1 b2 b3 b4 b5 H.size pn dl pl dr sp ln ow gr we du sa le u_7 (f_X1_isAwake fh lh tk) (n_9 u_5 u_6 u_7 hw_4)) (cwV 3 hts gX1_goBy_X2_goBy rfl rfl rfl (by decide +kernel) ⟨(Nat.le_of_ble_eq_true rfl), (Nat.le_of_ble_eq_true rfl)⟩) (tm_preV hK hN hV hS hPc hDc hFc (va_recv hK hPc (ci := 2) (q0 := 0) rfl rfl)) rfl rfl hl.1 rfl (lv_room (Nat.le_of_ble_eq_true rfl)) dX1_goBy_40 ⟨(Nat.le_of_ble_eq_true rfl), (Nat.le_of_ble_eq_true rfl)⟩) hS (fun q _ h => hFc q h) hFc (fun u t H locs ht hvm hw_10 hB hz1 hk1 hS => ?_)
  obtain ⟨u_11, u_12, u_13, u_14, u_15, u_16⟩ := u
  obtain ⟨hP1, hD1⟩ := hB
  rw [ht] at hP1
  try dsimp only at hw_10
  obtain ⟨hP, hD⟩ := va_join (wr := [tc_X3 a2 u_5 u_6 ga sl sc u_7, tc_X1 a0 a1 a2 a3 a4 fh lh ee, tc_X4 a1 tk mo su]) (w1 := [tc_X2 a4 d0 d1 d2 d3 pn, tc_F G d0 3 u_11, tc_I G d1 3 u_12, tc_I G d2 3 u_13, tc_I G d3 3 u_14, tc_X0 a3 b0 b1 b2 b3 b4 b5 ln, tc_I G b0 10 ow, tc_I G b1 10 gr, tc_I G b2 10 we, tc_I G b3 10 du, tc_I G b4 10 u_15, tc_D G b5 10 u_16]) hP hD [7, 8, 9, 10, 11, 0, 1, 2, 3, 4, 5, 6] [12, 13, 14] rfl rfl (by decide) (by decide) hk1 hFc hP1 hD1
  have hP : va_P G.1 vwCl [tc_X3 a2 u_5 u_6 ga sl sc u_7, tc_X1 a0 a1 a2 a3 a4 fh lh ee, tc_X4 a1 tk mo su, tc_X2 a4 d0 d1 d2 d3 pn, tc_F G d0 3 u_11, tc_I G d1 3 u_12, tc_I G d2 3 u_13, tc_I G d3 3 u_14, tc_X0 a3 b0 b1 b2 b3 b4 b5 ln, tc_I G b0 10 ow, tc_I G b1 10 gr, tc_I G b2 10 we, tc_I G b3 10 du, tc_I G b4 10 u_15, tc_D G b5 10 u_16] H := hP
  have hD : va_D A [tc_X3 a2 u_5 u_6 ga sl sc u_7, tc_X1 a0 a1 a2 a3 a4 fh lh ee, tc_X4 a1 tk mo su, tc_X2 a4 d0 d1 d2 d3 pn, tc_F G d0 3 u_11, tc_I G d1 3 u_12, tc_I G d2 3 u_13, tc_I G d3 3 u_14, tc_X0 a3 b0 b1 b2 b3 b4 b5 ln, tc_I G b0 10 ow, tc_I G b1 10 gr, tc_I G b2 10 we, tc_I G b3 10 du, tc_I G b4 10 u_15, tc_D G b5 10 u_16] := hD
  refine lv_aload_n hx hb dX1_goBy_43 rfl (lv_at hl 0 rfl) ?_
  refine va_get (D := G.1) (ci := 1) (v := .ref a2) (C := RX1) (T := TX1) (N := 7) hx hb hts hiX1 hown hK hP 1 rfl rfl 1 (by decide) (hts (.fieldLink RX1 21 "TideMill$Mill" "pond" "LTideMill$Pond;") (List.mem_of_getElem? (i := 1) rfl)) (fun _ h9 => h9) rfl dX1_goBy_44 ?_
  refine va_get (D := G.1) (ci := 3) (v := .double u_7) (C := RX3) (T := TX3) (N := 6) hx hb hts hiX3 hown hK hP 0 rfl rfl 5 (by decide) (hts (.fieldLink RX1 79 "TideMill$Pond" "force" "D") (List.mem_of_getElem? (i := 5) rfl)) (fun _ h9 => h9) rfl dX1_goBy_47 ?_
  refine lv_dconst0 hx hb dX1_goBy_50 ?_
  refine lv_dcmp hx hb dX1_goBy_51 ?_
  refine lv_if_le (tgt := 78) hx hb dX1_goBy_52 (by decide) (fun c_17 => ?_) (fun c_17 => ?_)
  · refine lv_aload_n hx hb dX1_goBy_78 rfl (lv_at hl 0 rfl) ?_
    refine va_get (D := G.1) (ci := 1) (v := .ref a1) (C := RX1) (T := TX1) (N := 7) hx hb hts hiX1 hown hK hP 1 rfl rfl 0 (by decide) (hts (.fieldLink RX1 12 "TideMill$Mill" "sea" "LTideMill$Sea;") (List.mem_of_getElem? (i := 2) rfl)) (fun _ h9 => h9) rfl dX1_goBy_79 ?_
    refine lv_dup hx hb dX1_goBy_82 rfl ?_
    refine va_get (D := G.1) (ci := 4) (v := .int tk) (C := RX4) (T := TX4) (N := 3) hx hb hts hiX4 hown hK hP 2 rfl rfl 0 (by decide) (hts (.fieldLink RX1 69 "TideMill$Sea" "tick" "I") (List.mem_of_getElem? (i := 3) rfl)) (fun _ h9 => h9) rfl dX1_goBy_83 ?_
    refine lv_iconst (v := 1) hx hb dX1_goBy_86 (by decide) ?_
    refine lv_iadd hx hb dX1_goBy_87 ?_
    refine va_put (D := G.1) (ci := 4) (v := .int (tk + 1)) (ty := .int) (C := RX4) (T := TX4) (N := 3) hx hb hts hiX4 tyX4 tyX4_ok nmX4 hown hK hP hD hS 2 rfl rfl 0 (by decide) (hts (.fieldLink RX1 69 "TideMill$Sea" "tick" "I") (List.mem_of_getElem? (i := 3) rfl)) (fun _ h9 => h9) rfl (by decide +kernel) rfl rfl (Nat.le_of_ble_eq_true rfl) dX1_goBy_88 (fun H locs hP hD hS => ?_)
    have hP : va_P G.1 vwCl [tc_X3 a2 u_5 u_6 ga sl sc u_7, tc_X1 a0 a1 a2 a3 a4 fh lh ee, tc_X4 a1 (tk + 1) mo su, tc_X2 a4 d0 d1 d2 d3 pn, tc_F G d0 3 u_11, tc_I G d1 3 u_12, tc_I G d2 3 u_13, tc_I G d3 3 u_14, tc_X0 a3 b0 b1 b2 b3 b4 b5 ln, tc_I G b0 10 ow, tc_I G b1 10 gr, tc_I G b2 10 we, tc_I G b3 10 du, tc_I G b4 10 u_15, tc_D G b5 10 u_16] H := hP
    have hD : va_D A [tc_X3 a2 u_5 u_6 ga sl sc u_7, tc_X1 a0 a1 a2 a3 a4 fh lh ee, tc_X4 a1 (tk + 1) mo su, tc_X2 a4 d0 d1 d2 d3 pn, tc_F G d0 3 u_11, tc_I G d1 3 u_12, tc_I G d2 3 u_13, tc_I G d3 3 u_14, tc_X0 a3 b0 b1 b2 b3 b4 b5 ln, tc_I G b0 10 ow, tc_I G b1 10 gr, tc_I G b2 10 we, tc_I G b3 10 du, tc_I G b4 10 u_15, tc_D G b5 10 u_16] := hD
    have hP9 := hP.sub (ws' := [tc_X1 a0 a1 a2 a3 a4 fh lh ee, tc_X4 a1 (tk + 1) mo su, tc_X3 a2 u_5 u_6 ga sl sc u_7, tc_X0 a3 b0 b1 b2 b3 b4 b5 ln, tc_I G b0 10 ow, tc_I G b1 10 gr, tc_I G b2 10 we, tc_I G b3 10 du, tc_I G b4 10 u_15, tc_D G b5 10 u_16, tc_X2 a4 d0 d1 d2 d3 pn, tc_F G d0 3 u_11, tc_I G d1 3 u_12, tc_I G d2 3 u_13, tc_I G d3 3 u_14]) [1, 2, 0, 8, 9, 10, 11, 12, 13, 14, 3, 4, 5, 6, 7] rfl
    have hD9 := hD.sub (ws' := [tc_X1 a0 a1 a2 a3 a4 fh lh ee, tc_X4 a1 (tk + 1) mo su, tc_X3 a2 u_5 u_6 ga sl sc u_7, tc_X0 a3 b0 b1 b2 b3 b4 b5 ln, tc_I G b0 10 ow, tc_I G b1 10 gr, tc_I G b2 10 we, tc_I G b3 10 du, tc_I G b4 10 u_15, tc_D G b5 10 u_16, tc_X2 a4 d0 d1 d2 d3 pn, tc_F G d0 3 u_11, tc_I G d1 3 u_12, tc_I G d2 3 u_13, tc_I G d3 3 u_14]) [1, 2, 0, 8, 9, 10, 11, 12, 13, 14, 3, 4, 5, 6, 7] (by decide) rfl
    exact W.vret hx hb hr (fun t ht hW => ⟨⟨(ee, tk + 1, u_5, u_6, u_7, u_15, u_16, u_11, u_12, u_13, u_14), rfl, by unfold f_X1_goBy; all_goals (rw [← hw_4]); all_goals (dsimp only); all_goals (rw [← hw_10]); all_goals (dsimp only); all_goals (rw [if_pos c_17]); all_goals rfl, by rw [ht]; exact hP9, hD9⟩, hS.F ht⟩) hS.2.2 dX1_goBy_91
  · refine lv_aload_n hx hb dX1_goBy_55 rfl (lv_at hl 0 rfl) ?_
    have hPc := hP.sub (ws' := [tc_X1 a0 a1 a2 a3 a4 fh lh ee, tc_X4 a1 tk mo su]) [1, 2] rfl
    have hDc := hD.sub (ws' := [tc_X1 a0 a1 a2 a3 a4 fh lh ee, tc_X4 a1 tk mo su]) [1, 2] (by decide) rfl
    have hFc := va_free (wc := [tc_X1 a0 a1 a2 a3 a4 fh lh ee, tc_X4 a1 tk mo su]) hD hS hA [1, 2] rfl
    refine va_calli (va_runV (As := []) (rest := []) ⟨hx, hb, hml, hown, hts⟩ (c_X1_areEelsAbout l G a0 a1 a2 a3 a4 H.size fh lh ee tk mo su ) (cwV 0 hts gX1_goBy_X1_areEelsAbout rfl rfl rfl (by decide +kernel) ⟨(Nat.le_of_ble_eq_true rfl), (Nat.le_of_ble_eq_true rfl)⟩) (tm_preV hK hN hV hS hPc hDc hFc (va_recv hK hPc (ci := 1) (q0 := 0) rfl rfl)) rfl rfl hl.1 rfl (lv_room (Nat.le_of_ble_eq_true rfl)) dX1_goBy_56 ⟨(Nat.le_of_ble_eq_true rfl), (Nat.le_of_ble_eq_true rfl)⟩) hS (fun q _ h => hFc q h) hFc (fun r_18 u t H locs ht hvm hw_18 hB hz1 hk1 hS => ?_)
    obtain ⟨hP1, hD1⟩ := hB
    rw [ht] at hP1
    try dsimp only at hw_18
    obtain ⟨hP, hD⟩ := va_join (wr := [tc_X3 a2 u_5 u_6 ga sl sc u_7, tc_X2 a4 d0 d1 d2 d3 pn, tc_F G d0 3 u_11, tc_I G d1 3 u_12, tc_I G d2 3 u_13, tc_I G d3 3 u_14, tc_X0 a3 b0 b1 b2 b3 b4 b5 ln, tc_I G b0 10 ow, tc_I G b1 10 gr, tc_I G b2 10 we, tc_I G b3 10 du, tc_I G b4 10 u_15, tc_D G b5 10 u_16]) (w1 := [tc_X1 a0 a1 a2 a3 a4 fh lh ee, tc_X4 a1 tk mo su]) hP hD [1, 2] [0, 3, 4, 5, 6, 7, 8, 9, 10, 11, 12, 13, 14] rfl rfl (by decide) (by decide) hk1 hFc hP1 hD1
    have hP : va_P G.1 vwCl [tc_X3 a2 u_5 u_6 ga sl sc u_7, tc_X2 a4 d0 d1 d2 d3 pn, tc_F G d0 3 u_11, tc_I G d1 3 u_12, tc_I G d2 3 u_13, tc_I G d3 3 u_14, tc_X0 a3 b0 b1 b2 b3 b4 b5 ln, tc_I G b0 10 ow, tc_I G b1 10 gr, tc_I G b2 10 we, tc_I G b3 10 du, tc_I G b4 10 u_15, tc_D G b5 10 u_16, tc_X1 a0 a1 a2 a3 a4 fh lh ee, tc_X4 a1 tk mo su] H := hP
    have hD : va_D A [tc_X3 a2 u_5 u_6 ga sl sc u_7, tc_X2 a4 d0 d1 d2 d3 pn, tc_F G d0 3 u_11, tc_I G d1 3 u_12, tc_I G d2 3 u_13, tc_I G d3 3 u_14, tc_X0 a3 b0 b1 b2 b3 b4 b5 ln, tc_I G b0 10 ow, tc_I G b1 10 gr, tc_I G b2 10 we, tc_I G b3 10 du, tc_I G b4 10 u_15, tc_D G b5 10 u_16, tc_X1 a0 a1 a2 a3 a4 fh lh ee, tc_X4 a1 tk mo su] := hD
    subst hw_18
    refine lv_if_eq (tgt := 78) hx hb dX1_goBy_59 (by decide) (fun c_19 => ?_) (fun c_19 => ?_)
    · refine lv_aload_n hx hb dX1_goBy_78 rfl (lv_at hl 0 rfl) ?_
      refine va_get (D := G.1) (ci := 1) (v := .ref a1) (C := RX1) (T := TX1) (N := 7) hx hb hts hiX1 hown hK hP 13 rfl rfl 0 (by decide) (hts (.fieldLink RX1 12 "TideMill$Mill" "sea" "LTideMill$Sea;") (List.mem_of_getElem? (i := 2) rfl)) (fun _ h9 => h9) rfl dX1_goBy_79 ?_
      refine lv_dup hx hb dX1_goBy_82 rfl ?_
      refine va_get (D := G.1) (ci := 4) (v := .int tk) (C := RX4) (T := TX4) (N := 3) hx hb hts hiX4 hown hK hP 14 rfl rfl 0 (by decide) (hts (.fieldLink RX1 69 "TideMill$Sea" "tick" "I") (List.mem_of_getElem? (i := 3) rfl)) (fun _ h9 => h9) rfl dX1_goBy_83 ?_
      refine lv_iconst (v := 1) hx hb dX1_goBy_86 (by decide) ?_
      refine lv_iadd hx hb dX1_goBy_87 ?_
      refine va_put (D := G.1) (ci := 4) (v := .int (tk + 1)) (ty := .int) (C := RX4) (T := TX4) (N := 3) hx hb hts hiX4 tyX4 tyX4_ok nmX4 hown hK hP hD hS 14 rfl rfl 0 (by decide) (hts (.fieldLink RX1 69 "TideMill$Sea" "tick" "I") (List.mem_of_getElem? (i := 3) rfl)) (fun _ h9 => h9) rfl (by decide +kernel) rfl rfl (Nat.le_of_ble_eq_true rfl) dX1_goBy_88 (fun H locs hP hD hS => ?_)
      have hP : va_P G.1 vwCl [tc_X3 a2 u_5 u_6 ga sl sc u_7, tc_X2 a4 d0 d1 d2 d3 pn, tc_F G d0 3 u_11, tc_I G d1 3 u_12, tc_I G d2 3 u_13, tc_I G d3 3 u_14, tc_X0 a3 b0 b1 b2 b3 b4 b5 ln, tc_I G b0 10 ow, tc_I G b1 10 gr, tc_I G b2 10 we, tc_I G b3 10 du, tc_I G b4 10 u_15, tc_D G b5 10 u_16, tc_X1 a0 a1 a2 a3 a4 fh lh ee, tc_X4 a1 (tk + 1) mo su] H := hP
      have hD : va_D A [tc_X3 a2 u_5 u_6 ga sl sc u_7, tc_X2 a4 d0 d1 d2 d3 pn, tc_F G d0 3 u_11, tc_I G d1 3 u_12, tc_I G d2 3 u_13, tc_I G d3 3 u_14, tc_X0 a3 b0 b1 b2 b3 b4 b5 ln, tc_I G b0 10 ow, tc_I G b1 10 gr, tc_I G b2 10 we, tc_I G b3 10 du, tc_I G b4 10 u_15, tc_D G b5 10 u_16, tc_X1 a0 a1 a2 a3 a4 fh lh ee, tc_X4 a1 (tk + 1) mo su] := hD
      have hP9 := hP.sub (ws' := [tc_X1 a0 a1 a2 a3 a4 fh lh ee, tc_X4 a1 (tk + 1) mo su, tc_X3 a2 u_5 u_6 ga sl sc u_7, tc_X0 a3 b0 b1 b2 b3 b4 b5 ln, tc_I G b0 10 ow, tc_I G b1 10 gr, tc_I G b2 10 we, tc_I G b3 10 du, tc_I G b4 10 u_15, tc_D G b5 10 u_16, tc_X2 a4 d0 d1 d2 d3 pn, tc_F G d0 3 u_11, tc_I G d1 3 u_12, tc_I G d2 3 u_13, tc_I G d3 3 u_14]) [13, 14, 0, 6, 7, 8, 9, 10, 11, 12, 1, 2, 3, 4, 5] rfl
      have hD9 := hD.sub (ws' := [tc_X1 a0 a1 a2 a3 a4 fh lh ee, tc_X4 a1 (tk + 1) mo su, tc_X3 a2 u_5 u_6 ga sl sc u_7, tc_X0 a3 b0 b1 b2 b3 b4 b5 ln, tc_I G b0 10 ow, tc_I G b1 10 gr, tc_I G b2 10 we, tc_I G b3 10 du, tc_I G b4 10 u_15, tc_D G b5 10 u_16, tc_X2 a4 d0 d1 d2 d3 pn, tc_F G d0 3 u_11, tc_I G d1 3 u_12, tc_I G d2 3 u_13, tc_I G d3 3 u_14]) [13, 14, 0, 6, 7, 8, 9, 10, 11, 12, 1, 2, 3, 4, 5] (by decide) rfl
      exact W.vret hx hb hr (fun t ht hW => ⟨⟨(ee, tk + 1, u_5, u_6, u_7, u_15, u_16, u_11, u_12, u_13, u_14), rfl, by unfold f_X1_goBy; all_goals (rw [← hw_4]); all_goals (dsimp only); all_goals (rw [← hw_10]); all_goals (dsimp only); all_goals (rw [if_neg c_17]); all_goals (rw [if_pos c_19]); all_goals rfl, by rw [ht]; exact hP9, hD9⟩, hS.F ht⟩) hS.2.2 dX1_goBy_91
    · refine lv_aload_n hx hb dX1_goBy_62 rfl (lv_at hl 0 rfl) ?_
      refine lv_dup hx hb dX1_goBy_63 rfl ?_
      refine va_get (D := G.1) (ci := 1) (v := .int ee) (C := RX1) (T := TX1) (N := 7) hx hb hts hiX1 hown hK hP 13 rfl rfl 6 (by decide) (hts (.fieldLink RX1 59 "TideMill$Mill" "eels" "I") (List.mem_of_getElem? (i := 7) rfl)) (fun _ h9 => h9) rfl dX1_goBy_64 ?_
      refine lv_aload_n hx hb dX1_goBy_67 rfl (lv_at hl 0 rfl) ?_
      refine va_get (D := G.1) (ci := 1) (v := .ref a2) (C := RX1) (T := TX1) (N := 7) hx hb hts hiX1 hown hK hP 13 rfl rfl 1 (by decide) (hts (.fieldLink RX1 21 "TideMill$Mill" "pond" "LTideMill$Pond;") (List.mem_of_getElem? (i := 1) rfl)) (fun _ h9 => h9) rfl dX1_goBy_68 ?_
      refine va_get (D := G.1) (ci := 3) (v := .int sl) (C := RX3) (T := TX3) (N := 6) hx hb hts hiX3 hown hK hP 0 rfl rfl 3 (by decide) (hts (.fieldLink RX1 93 "TideMill$Pond" "sluice" "I") (List.mem_of_getElem? (i := 8) rfl)) (fun _ h9 => h9) rfl dX1_goBy_71 ?_
      refine lv_iadd hx hb dX1_goBy_74 ?_
      refine va_put (D := G.1) (ci := 1) (v := .int (ee + sl)) (ty := .int) (C := RX1) (T := TX1) (N := 7) hx hb hts hiX1 tyX1 tyX1_ok nmX1 hown hK hP hD hS 13 rfl rfl 6 (by decide) (hts (.fieldLink RX1 59 "TideMill$Mill" "eels" "I") (List.mem_of_getElem? (i := 7) rfl)) (fun _ h9 => h9) rfl (by decide +kernel) rfl rfl (Nat.le_of_ble_eq_true rfl) dX1_goBy_75 (fun H locs hP hD hS => ?_)
      have hP : va_P G.1 vwCl [tc_X3 a2 u_5 u_6 ga sl sc u_7, tc_X2 a4 d0 d1 d2 d3 pn, tc_F G d0 3 u_11, tc_I G d1 3 u_12, tc_I G d2 3 u_13, tc_I G d3 3 u_14, tc_X0 a3 b0 b1 b2 b3 b4 b5 ln, tc_I G b0 10 ow, tc_I G b1 10 gr, tc_I G b2 10 we, tc_I G b3 10 du, tc_I G b4 10 u_15, tc_D G b5 10 u_16, tc_X1 a0 a1 a2 a3 a4 fh lh (ee + sl), tc_X4 a1 tk mo su] H := hP
      have hD : va_D A [tc_X3 a2 u_5 u_6 ga sl sc u_7, tc_X2 a4 d0 d1 d2 d3 pn, tc_F G d0 3 u_11, tc_I G d1 3 u_12, tc_I G d2 3 u_13, tc_I G d3 3 u_14, tc_X0 a3 b0 b1 b2 b3 b4 b5 ln, tc_I G b0 10 ow, tc_I G b1 10 gr, tc_I G b2 10 we, tc_I G b3 10 du, tc_I G b4 10 u_15, tc_D G b5 10 u_16, tc_X1 a0 a1 a2 a3 a4 fh lh (ee + sl), tc_X4 a1 tk mo su] := hD
      refine lv_aload_n hx hb dX1_goBy_78 rfl (lv_at hl 0 rfl) ?_
      refine va_get (D := G.1) (ci := 1) (v := .ref a1) (C := RX1) (T := TX1) (N := 7) hx hb hts hiX1 hown hK hP 13 rfl rfl 0 (by decide) (hts (.fieldLink RX1 12 "TideMill$Mill" "sea" "LTideMill$Sea;") (List.mem_of_getElem? (i := 2) rfl)) (fun _ h9 => h9) rfl dX1_goBy_79 ?_
      refine lv_dup hx hb dX1_goBy_82 rfl ?_
      refine va_get (D := G.1) (ci := 4) (v := .int tk) (C := RX4) (T := TX4) (N := 3) hx hb hts hiX4 hown hK hP 14 rfl rfl 0 (by decide) (hts (.fieldLink RX1 69 "TideMill$Sea" "tick" "I") (List.mem_of_getElem? (i := 3) rfl)) (fun _ h9 => h9) rfl dX1_goBy_83 ?_
      refine lv_iconst (v := 1) hx hb dX1_goBy_86 (by decide) ?_
      refine lv_iadd hx hb dX1_goBy_87 ?_
      refine va_put (D := G.1) (ci := 4) (v := .int (tk + 1)) (ty := .int) (C := RX4) (T := TX4) (N := 3) hx hb hts hiX4 tyX4 tyX4_ok nmX4 hown hK hP hD hS 14 rfl rfl 0 (by decide) (hts (.fieldLink RX1 69 "TideMill$Sea" "tick" "I") (List.mem_of_getElem? (i := 3) rfl)) (fun _ h9 => h9) rfl (by decide +kernel) rfl rfl (Nat.le_of_ble_eq_true rfl) dX1_goBy_88 (fun H locs hP hD hS => ?_)
      have hP : va_P G.1 vwCl [tc_X3 a2 u_5 u_6 ga sl sc u_7, tc_X2 a4 d0 d1 d2 d3 pn, tc_F G d0 3 u_11, tc_I G d1 3 u_12, tc_I G d2 3 u_13, tc_I G d3 3 u_14, tc_X0 a3 b0 b1 b2 b3 b4 b5 ln, tc_I G b0 10 ow, tc_I G b1 10 gr, tc_I G b2 10 we, tc_I G b3 10 du, tc_I G b4 10 u_15, tc_D G b5 10 u_16, tc_X1 a0 a1 a2 a3 a4 fh lh (ee + sl), tc_X4 a1 (tk + 1) mo su] H := hP
      have hD : va_D A [tc_X3 a2 u_5 u_6 ga sl sc u_7, tc_X2 a4 d0 d1 d2 d3 pn, tc_F G d0 3 u_11, tc_I G d1 3 u_12, tc_I G d2 3 u_13, tc_I G d3 3 u_14, tc_X0 a3 b0 b1 b2 b3 b4 b5 ln, tc_I G b0 10 ow, tc_I G b1 10 gr, tc_I G b2 10 we, tc_I G b3 10 du, tc_I G b4 10 u_15, tc_D G b5 10 u_16, tc_X1 a0 a1 a2 a3 a4 fh lh (ee + sl), tc_X4 a1 (tk + 1) mo su] := hD
      have hP9 := hP.sub (ws' := [tc_X1 a0 a1 a2 a3 a4 fh lh (ee + sl), tc_X4 a1 (tk + 1) mo su, tc_X3 a2 u_5 u_6 ga sl sc u_7, tc_X0 a3 b0 b1 b2 b3 b4 b5 ln, tc_I G b0 10 ow, tc_I G b1 10 gr, tc_I G b2 10 we, tc_I G b3 10 du, tc_I G b4 10 u_15, tc_D G b5 10 u_16, tc_X2 a4 d0 d1 d2 d3 pn, tc_F G d0 3 u_11, tc_I G d1 3 u_12, tc_I G d2 3 u_13, tc_I G d3 3 u_14]) [13, 14, 0, 6, 7, 8, 9, 10, 11, 12, 1, 2, 3, 4, 5] rfl
      have hD9 := hD.sub (ws' := [tc_X1 a0 a1 a2 a3 a4 fh lh (ee + sl), tc_X4 a1 (tk + 1) mo su, tc_X3 a2 u_5 u_6 ga sl sc u_7, tc_X0 a3 b0 b1 b2 b3 b4 b5 ln, tc_I G b0 10 ow, tc_I G b1 10 gr, tc_I G b2 10 we, tc_I G b3 10 du, tc_I G b4 10 u_15, tc_D G b5 10 u_16, tc_X2 a4 d0 d1 d2 d3 pn, tc_F G d0 3 u_11, tc_I G d1 3 u_12, tc_I G d2 3 u_13, tc_I G d3 3 u_14]) [13, 14, 0, 6, 7, 8, 9, 10, 11, 12, 1, 2, 3, 4, 5] (by decide) rfl
      exact W.vret hx hb hr (fun t ht hW => ⟨⟨(ee + sl, tk + 1, u_5, u_6, u_7, u_15, u_16, u_11, u_12, u_13, u_14), rfl, by unfold f_X1_goBy; all_goals (rw [← hw_4]); all_goals (dsimp only); all_goals (rw [← hw_10]); all_goals (dsimp only); all_goals (rw [if_neg c_17]); all_goals (rw [if_neg c_19]); all_goals rfl, by rw [ht]; exact hP9, hD9⟩, hS.F ht⟩) hS.2.2 dX1_goBy_91
set_option maxHeartbeats 4000000 in
set_option maxRecDepth 100000 in
theorem c_X1_letGoBy (l : Launch) (G : tm_G) (a0 : Nat) (a1 : Nat) (a2 : Nat) (a3 : Nat) (a4 : Nat) (b0 : Nat) (b1 : Nat) (b2 : Nat) (b3 : Nat) (b4 : Nat) (b5 : Nat) (d0 : Nat) (d1 : Nat) (d2 : Nat) (d3 : Nat) (sz : Nat) (fh : Int32) (lh : Int32) (ee : Int32) (tk : Int32) (mo : Int32) (su : UInt64) (lv : UInt64) (si : UInt32) (ga : Int32) (sl : Int32) (sc : Int32) (fo : UInt64) (ln : Int32) (ow : Nat → Int32) (gr : Nat → Int32) (we : Nat → Int32) (du : Nat → Int32) (sa : Nat → Int32) (le : Nat → UInt64) (pn : Int32) (dl : Nat → UInt32) (pl : Nat → Int32) (dr : Nat → Int32) (sp : Nat → Int32) (p1 : Int32) (hn : n_X1_letGoBy fh lh ee tk mo su lv si ga sl sc fo ln gr sa le pn dl pl dr sp p1) : Met l yX1_letGoBy wsX1_letGoBy ({ frames := 5, cells := 0, slots := 0, locals := 123 }) (va_Pc [.ref a0, .int p1] (tm_B G [tc_X1 a0 a1 a2 a3 a4 fh lh ee, tc_X4 a1 tk mo su, tc_X3 a2 lv si ga sl sc fo, tc_X0 a3 b0 b1 b2 b3 b4 b5 ln, tc_I G b0 10 ow, tc_I G b1 10 gr, tc_I G b2 10 we, tc_I G b3 10 du, tc_I G b4 10 sa, tc_D G b5 10 le, tc_X2 a4 d0 d1 d2 d3 pn, tc_F G d0 3 dl, tc_I G d1 3 pl, tc_I G d2 3 dr, tc_I G d3 3 sp] sz)) (va_Qv (fun (u : Int32 × Int32 × UInt64 × UInt32 × UInt64 × (Nat → Int32) × (Nat → UInt64) × (Nat → UInt32) × (Nat → Int32) × (Nat → Int32) × (Nat → Int32)) => u = f_X1_letGoBy fh lh ee tk mo su lv si ga sl sc fo ln gr sa le pn dl pl dr sp p1) (fun (u : Int32 × Int32 × UInt64 × UInt32 × UInt64 × (Nat → Int32) × (Nat → UInt64) × (Nat → UInt32) × (Nat → Int32) × (Nat → Int32) × (Nat → Int32)) (t : State) => va_P G.1 vwCl [tc_X1 a0 a1 a2 a3 a4 fh lh u.1, tc_X4 a1 u.2.1 mo su, tc_X3 a2 u.2.2.1 u.2.2.2.1 ga sl sc u.2.2.2.2.1, tc_X0 a3 b0 b1 b2 b3 b4 b5 ln, tc_I G b0 10 ow, tc_I G b1 10 gr, tc_I G b2 10 we, tc_I G b3 10 du, tc_I G b4 10 u.2.2.2.2.2.1, tc_D G b5 10 u.2.2.2.2.2.2.1, tc_X2 a4 d0 d1 d2 d3 pn, tc_F G d0 3 u.2.2.2.2.2.2.2.1, tc_I G d1 3 u.2.2.2.2.2.2.2.2.1, tc_I G d2 3 u.2.2.2.2.2.2.2.2.2.1, tc_I G d3 3 u.2.2.2.2.2.2.2.2.2.2] t.heap ∧ va_D (va_A [tc_X1 a0 a1 a2 a3 a4 fh lh ee, tc_X4 a1 tk mo su, tc_X3 a2 lv si ga sl sc fo, tc_X0 a3 b0 b1 b2 b3 b4 b5 ln, tc_I G b0 10 ow, tc_I G b1 10 gr, tc_I G b2 10 we, tc_I G b3 10 du, tc_I G b4 10 sa, tc_D G b5 10 le, tc_X2 a4 d0 d1 d2 d3 pn, tc_F G d0 3 dl, tc_I G d1 3 pl, tc_I G d2 3 dr, tc_I G d3 3 sp] sz) [tc_X1 a0 a1 a2 a3 a4 fh lh u.1, tc_X4 a1 u.2.1 mo su, tc_X3 a2 u.2.2.1 u.2.2.2.1 ga sl sc u.2.2.2.2.1, tc_X0 a3 b0 b1 b2 b3 b4 b5 ln, tc_I G b0 10 ow, tc_I G b1 10 gr, tc_I G b2 10 we, tc_I G b3 10 du, tc_I G b4 10 u.2.2.2.2.2.1, tc_D G b5 10 u.2.2.2.2.2.2.1, tc_X2 a4 d0 d1 d2 d3 pn, tc_F G d0 3 u.2.2.2.2.2.2.2.1, tc_I G d1 3 u.2.2.2.2.2.2.2.2.1, tc_I G d2 3 u.2.2.2.2.2.2.2.2.2.1, tc_I G d3 3 u.2.2.2.2.2.2.2.2.2.2]) (va_A [tc_X1 a0 a1 a2 a3 a4 fh lh ee, tc_X4 a1 tk mo su, tc_X3 a2 lv si ga sl sc fo, tc_X0 a3 b0 b1 b2 b3 b4 b5 ln, tc_I G b0 10 ow, tc_I G b1 10 gr, tc_I G b2 10 we, tc_I G b3 10 du, tc_I G b4 10 sa, tc_D G b5 10 le, tc_X2 a4 d0 d1 d2 d3 pn, tc_F G d0 3 dl, tc_I G d1 3 pl, tc_I G d2 3 dr, tc_I G d3 3 sp] sz)) 0 0 (va_A [tc_X1 a0 a1 a2 a3 a4 fh lh ee, tc_X4 a1 tk mo su, tc_X3 a2 lv si ga sl sc fo, tc_X0 a3 b0 b1 b2 b3 b4 b5 ln, tc_I G b0 10 ow, tc_I G b1 10 gr, tc_I G b2 10 we, tc_I G b3 10 du, tc_I G b4 10 sa, tc_D G b5 10 le, tc_X2 a4 d0 d1 d2 d3 pn, tc_F G d0 3 dl, tc_I G d1 3 pl, tc_I G d2 3 dr, tc_I G d3 3 sp] sz) := by
  refine Met.ofW (cc := cX1_letGoBy) (maxL := 3) (ret := none) (by decide) rfl ?_
  intro p e s m args below meth c s₁ B hml hv
  obtain ⟨rfl, hsz, hP, hK, hD0, hN, hV⟩ := hv
  have hx := B.exec
  have hb := B.bytes
  have hr := B.returns
  have hts := atoms_spec (ws := wsX1_letGoBy) B.pre
  have hown : s.vm.findClass RX1 = some m.cls := findClass_of_methodNamed B.named
  have hlocks := B.notSynchronized
  subst hsz
  have n_16 := hn
  unfold n_X1_letGoBy at n_16
  have hD := hD0.self (sz := s.heap.size)
  generalize hAe : va_A [tc_X1 a0 a1 a2 a3 a4 fh lh ee, tc_X4 a1 tk mo su, tc_X3 a2 lv si ga sl sc fo, tc_X0 a3 b0 b1 b2 b3 b4 b5 ln, tc_I G b0 10 ow, tc_I G b1 10 gr, tc_I G b2 10 we, tc_I G b3 10 du, tc_I G b4 10 sa, tc_D G b5 10 le, tc_X2 a4 d0 d1 d2 d3 pn, tc_F G d0 3 dl, tc_I G d1 3 pl, tc_I G d2 3 dr, tc_I G d3 3 sp] s.heap.size = A at hD hV ⊢
  have hA : ∀ q : Nat, s.heap.size ≤ q → A q := fun q h => by rw [← hAe]; exact Or.inr h
  have hS : va_S A s.heap s.heap [] := va_S.rf
  have hl := lv_entry ([.ref a0, .int p1]) (n := 3) (Nat.le_of_ble_eq_true rfl)
  rw [lg_entry_eq]
  generalize (lg_sl ([.ref a0, .int p1]) ++ List.replicate (3 - (lg_sl ([.ref a0, .int p1])).length) Slot.unset).toArray = ls at hl ⊢
  have hl : lv_has ls 3 [(0, .ref a0), (1, .int p1)] := hl
  refine lv_iconst (v := 0) hx hb dX1_letGoBy_0 (by decide) ?_
  refine lv_istore_n (lv' := [(2, .int 0), (0, .ref a0), (1, .int p1)]) hx hb dX1_letGoBy_1 rfl hl (by decide) rfl (fun ls hl => ?_)
  have L_2 : ∀ (fuel : Nat) (x2_0 : Int32) (x2_1 : Int32) (x2_2 : Int32) (x2_3 : UInt64) (x2_4 : UInt32) (x2_5 : UInt64) (x2_6 : Nat → Int32) (x2_7 : Nat → UInt64) (x2_8 : Nat → UInt32) (x2_9 : Nat → Int32) (x2_10 : Nat → Int32) (x2_11 : Nat → Int32), n_X1_letGoBy_2 fh lh mo su ga sl sc ln gr pn p1 fuel x2_0 x2_1 x2_2 x2_3 x2_4 x2_5 x2_6 x2_7 x2_8 x2_9 x2_10 x2_11 → f_X1_letGoBy fh lh ee tk mo su lv si ga sl sc fo ln gr sa le pn dl pl dr sp p1 = f_X1_letGoBy_2 fh lh mo su ga sl sc ln gr pn p1 fuel x2_0 x2_1 x2_2 x2_3 x2_4 x2_5 x2_6 x2_7 x2_8 x2_9 x2_10 x2_11 → ∀ (H : Heap) (locs : List Loc), va_P G.1 vwCl [tc_X1 a0 a1 a2 a3 a4 fh lh x2_1, tc_X4 a1 x2_2 mo su, tc_X3 a2 x2_3 x2_4 ga sl sc x2_5, tc_X0 a3 b0 b1 b2 b3 b4 b5 ln, tc_I G b0 10 ow, tc_I G b1 10 gr, tc_I G b2 10 we, tc_I G b3 10 du, tc_I G b4 10 x2_6, tc_D G b5 10 x2_7, tc_X2 a4 d0 d1 d2 d3 pn, tc_F G d0 3 x2_8, tc_I G d1 3 x2_9, tc_I G d2 3 x2_10, tc_I G d3 3 x2_11] H → va_D A [tc_X1 a0 a1 a2 a3 a4 fh lh x2_1, tc_X4 a1 x2_2 mo su, tc_X3 a2 x2_3 x2_4 ga sl sc x2_5, tc_X0 a3 b0 b1 b2 b3 b4 b5 ln, tc_I G b0 10 ow, tc_I G b1 10 gr, tc_I G b2 10 we, tc_I G b3 10 du, tc_I G b4 10 x2_6, tc_D G b5 10 x2_7, tc_X2 a4 d0 d1 d2 d3 pn, tc_F G d0 3 x2_8, tc_I G d1 3 x2_9, tc_I G d2 3 x2_10, tc_I G d3 3 x2_11] → va_S A s.heap H locs → ∀ ls : Array Slot, lv_has ls 3 [(2, .int x2_0), (0, .ref a0), (1, .int p1)] → W p l e (headSpec wsX1_letGoBy ({ frames := 5, cells := 0, slots := 0, locals := 123 } : Room)).room s m ([.ref a0, .int p1] : List Value).toArray below meth c H locs 0 0 (MQ below (va_Qv (fun (u : Int32 × Int32 × UInt64 × UInt32 × UInt64 × (Nat → Int32) × (Nat → UInt64) × (Nat → UInt32) × (Nat → Int32) × (Nat → Int32) × (Nat → Int32)) => u = f_X1_letGoBy fh lh ee tk mo su lv si ga sl sc fo ln gr sa le pn dl pl dr sp p1) (fun (u : Int32 × Int32 × UInt64 × UInt32 × UInt64 × (Nat → Int32) × (Nat → UInt64) × (Nat → UInt32) × (Nat → Int32) × (Nat → Int32) × (Nat → Int32)) (t : State) => va_P G.1 vwCl [tc_X1 a0 a1 a2 a3 a4 fh lh u.1, tc_X4 a1 u.2.1 mo su, tc_X3 a2 u.2.2.1 u.2.2.2.1 ga sl sc u.2.2.2.2.1, tc_X0 a3 b0 b1 b2 b3 b4 b5 ln, tc_I G b0 10 ow, tc_I G b1 10 gr, tc_I G b2 10 we, tc_I G b3 10 du, tc_I G b4 10 u.2.2.2.2.2.1, tc_D G b5 10 u.2.2.2.2.2.2.1, tc_X2 a4 d0 d1 d2 d3 pn, tc_F G d0 3 u.2.2.2.2.2.2.2.1, tc_I G d1 3 u.2.2.2.2.2.2.2.2.1, tc_I G d2 3 u.2.2.2.2.2.2.2.2.2.1, tc_I G d3 3 u.2.2.2.2.2.2.2.2.2.2] t.heap ∧ va_D A [tc_X1 a0 a1 a2 a3 a4 fh lh u.1, tc_X4 a1 u.2.1 mo su, tc_X3 a2 u.2.2.1 u.2.2.2.1 ga sl sc u.2.2.2.2.1, tc_X0 a3 b0 b1 b2 b3 b4 b5 ln, tc_I G b0 10 ow, tc_I G b1 10 gr, tc_I G b2 10 we, tc_I G b3 10 du, tc_I G b4 10 u.2.2.2.2.2.1, tc_D G b5 10 u.2.2.2.2.2.2.1, tc_X2 a4 d0 d1 d2 d3 pn, tc_F G d0 3 u.2.2.2.2.2.2.2.1, tc_I G d1 3 u.2.2.2.2.2.2.2.2.1, tc_I G d2 3 u.2.2.2.2.2.2.2.2.2.1, tc_I G d3 3 u.2.2.2.2.2.2.2.2.2.2]) A) ([.ref a0, .int p1] : List Value).toArray s 0 0 A) (F0 m 2 ls []) := by
    intro fuel
    induction fuel with
    | zero =>
      intro x2_0 x2_1 x2_2 x2_3 x2_4 x2_5 x2_6 x2_7 x2_8 x2_9 x2_10 x2_11 hnl; exact absurd hnl (by simp [n_X1_letGoBy_2])
    | succ fuel ih =>
      intro x2_0 x2_1 x2_2 x2_3 x2_4 x2_5 x2_6 x2_7 x2_8 x2_9 x2_10 x2_11 hnl hE H locs hP hD hS ls hl
      rw [n_X1_letGoBy_2] at hnl
      obtain ⟨n_2, n_15⟩ := hnl
      refine lv_iload_n hx hb dX1_letGoBy_2 rfl (lv_at hl 0 rfl) ?_
      refine lv_iload_n hx hb dX1_letGoBy_3 rfl (lv_at hl 2 rfl) ?_
      refine lv_icmp_ge (tgt := 17) hx hb dX1_letGoBy_4 (by decide) (fun c_1 => ?_) (fun c_1 => ?_)
      · have hP9 := hP.sub (ws' := [tc_X1 a0 a1 a2 a3 a4 fh lh x2_1, tc_X4 a1 x2_2 mo su, tc_X3 a2 x2_3 x2_4 ga sl sc x2_5, tc_X0 a3 b0 b1 b2 b3 b4 b5 ln, tc_I G b0 10 ow, tc_I G b1 10 gr, tc_I G b2 10 we, tc_I G b3 10 du, tc_I G b4 10 x2_6, tc_D G b5 10 x2_7, tc_X2 a4 d0 d1 d2 d3 pn, tc_F G d0 3 x2_8, tc_I G d1 3 x2_9, tc_I G d2 3 x2_10, tc_I G d3 3 x2_11]) [0, 1, 2, 3, 4, 5, 6, 7, 8, 9, 10, 11, 12, 13, 14] rfl
        have hD9 := hD.sub (ws' := [tc_X1 a0 a1 a2 a3 a4 fh lh x2_1, tc_X4 a1 x2_2 mo su, tc_X3 a2 x2_3 x2_4 ga sl sc x2_5, tc_X0 a3 b0 b1 b2 b3 b4 b5 ln, tc_I G b0 10 ow, tc_I G b1 10 gr, tc_I G b2 10 we, tc_I G b3 10 du, tc_I G b4 10 x2_6, tc_D G b5 10 x2_7, tc_X2 a4 d0 d1 d2 d3 pn, tc_F G d0 3 x2_8, tc_I G d1 3 x2_9, tc_I G d2 3 x2_10, tc_I G d3 3 x2_11]) [0, 1, 2, 3, 4, 5, 6, 7, 8, 9, 10, 11, 12, 13, 14] (by decide) rfl
        exact W.vret hx hb hr (fun t ht hW => ⟨⟨(x2_1, x2_2, x2_3, x2_4, x2_5, x2_6, x2_7, x2_8, x2_9, x2_10, x2_11), rfl, by rw [hE, f_X1_letGoBy_2]; all_goals (rw [if_pos c_1]); all_goals rfl, by rw [ht]; exact hP9, hD9⟩, hS.F ht⟩) hS.2.2 dX1_letGoBy_17
      · refine lv_aload_n hx hb dX1_letGoBy_7 rfl (lv_at hl 1 rfl) ?_
        have hPc := hP.sub (ws' := [tc_X1 a0 a1 a2 a3 a4 fh lh x2_1, tc_X4 a1 x2_2 mo su, tc_X3 a2 x2_3 x2_4 ga sl sc x2_5, tc_X0 a3 b0 b1 b2 b3 b4 b5 ln, tc_I G b0 10 ow, tc_I G b1 10 gr, tc_I G b2 10 we, tc_I G b3 10 du, tc_I G b4 10 x2_6, tc_D G b5 10 x2_7, tc_X2 a4 d0 d1 d2 d3 pn, tc_F G d0 3 x2_8, tc_I G d1 3 x2_9, tc_I G d2 3 x2_10, tc_I G d3 3 x2_11]) [0, 1, 2, 3, 4, 5, 6, 7, 8, 9, 10, 11, 12, 13, 14] rfl
        have hDc := hD.sub (ws' := [tc_X1 a0 a1 a2 a3 a4 fh lh x2_1, tc_X4 a1 x2_2 mo su, tc_X3 a2 x2_3 x2_4 ga sl sc x2_5, tc_X0 a3 b0 b1 b2 b3 b4 b5 ln, tc_I G b0 10 ow, tc_I G b1 10 gr, tc_I G b2 10 we, tc_I G b3 10 du, tc_I G b4 10 x2_6, tc_D G b5 10 x2_7, tc_X2 a4 d0 d1 d2 d3 pn, tc_F G d0 3 x2_8, tc_I G d1 3 x2_9, tc_I G d2 3 x2_10, tc_I G d3 3 x2_11]) [0, 1, 2, 3, 4, 5, 6, 7, 8, 9, 10, 11, 12, 13, 14] (by decide) rfl
        have hFc := va_free (wc := [tc_X1 a0 a1 a2 a3 a4 fh lh x2_1, tc_X4 a1 x2_2 mo su, tc_X3 a2 x2_3 x2_4 ga sl sc x2_5, tc_X0 a3 b0 b1 b2 b3 b4 b5 ln, tc_I G b0 10 ow, tc_I G b1 10 gr, tc_I G b2 10 we, tc_I G b3 10 du, tc_I G b4 10 x2_6, tc_D G b5 10 x2_7, tc_X2 a4 d0 d1 d2 d3 pn, tc_F G d0 3 x2_8, tc_I G d1 3 x2_9, tc_I G d2 3 x2_10, tc_I G d3 3 x2_11]) hD hS hA [0, 1, 2, 3, 4, 5, 6, 7, 8, 9, 10, 11, 12, 13, 14] rfl
        refine va_callv (va_runV (As := []) (rest := []) ⟨hx, hb, hml, hown, hts⟩ (c_X1_goBy l G a0 a1 a2 a3 a4 b0 b1 b2 b3 b4 b5 d0 d1 d2 d3 H.size fh lh x2_1 x2_2 mo su x2_3 x2_4 ga sl sc x2_5 ln ow gr we du x2_6 x2_7 pn x2_8 x2_9 x2_10 x2_11 (n_2 c_1)) (cwV 0 hts gX1_letGoBy_X1_goBy rfl rfl rfl (by decide +kernel) ⟨(Nat.le_of_ble_eq_true rfl), (Nat.le_of_ble_eq_true rfl)⟩) (tm_preV hK hN hV hS hPc hDc hFc (va_recv hK hPc (ci := 1) (q0 := 0) rfl rfl)) rfl rfl hl.1 rfl (lv_room (Nat.le_of_ble_eq_true rfl)) dX1_letGoBy_8 ⟨(Nat.le_of_ble_eq_true rfl), (Nat.le_of_ble_eq_true rfl)⟩) hS (fun q _ h => hFc q h) hFc (fun u t H locs ht hvm hw_3 hB hz1 hk1 hS => ?_)
        obtain ⟨u_4, u_5, u_6, u_7, u_8, u_9, u_10, u_11, u_12, u_13, u_14⟩ := u
        obtain ⟨hP1, hD1⟩ := hB
        rw [ht] at hP1
        try dsimp only at hw_3
        obtain ⟨hP, hD⟩ := va_join (wr := []) (w1 := [tc_X1 a0 a1 a2 a3 a4 fh lh u_4, tc_X4 a1 u_5 mo su, tc_X3 a2 u_6 u_7 ga sl sc u_8, tc_X0 a3 b0 b1 b2 b3 b4 b5 ln, tc_I G b0 10 ow, tc_I G b1 10 gr, tc_I G b2 10 we, tc_I G b3 10 du, tc_I G b4 10 u_9, tc_D G b5 10 u_10, tc_X2 a4 d0 d1 d2 d3 pn, tc_F G d0 3 u_11, tc_I G d1 3 u_12, tc_I G d2 3 u_13, tc_I G d3 3 u_14]) hP hD [0, 1, 2, 3, 4, 5, 6, 7, 8, 9, 10, 11, 12, 13, 14] [] rfl rfl (by decide) (by decide) hk1 hFc hP1 hD1
        have hP : va_P G.1 vwCl [tc_X1 a0 a1 a2 a3 a4 fh lh u_4, tc_X4 a1 u_5 mo su, tc_X3 a2 u_6 u_7 ga sl sc u_8, tc_X0 a3 b0 b1 b2 b3 b4 b5 ln, tc_I G b0 10 ow, tc_I G b1 10 gr, tc_I G b2 10 we, tc_I G b3 10 du, tc_I G b4 10 u_9, tc_D G b5 10 u_10, tc_X2 a4 d0 d1 d2 d3 pn, tc_F G d0 3 u_11, tc_I G d1 3 u_12, tc_I G d2 3 u_13, tc_I G d3 3 u_14] H := hP
        have hD : va_D A [tc_X1 a0 a1 a2 a3 a4 fh lh u_4, tc_X4 a1 u_5 mo su, tc_X3 a2 u_6 u_7 ga sl sc u_8, tc_X0 a3 b0 b1 b2 b3 b4 b5 ln, tc_I G b0 10 ow, tc_I G b1 10 gr, tc_I G b2 10 we, tc_I G b3 10 du, tc_I G b4 10 u_9, tc_D G b5 10 u_10, tc_X2 a4 d0 d1 d2 d3 pn, tc_F G d0 3 u_11, tc_I G d1 3 u_12, tc_I G d2 3 u_13, tc_I G d3 3 u_14] := hD
        refine lv_iinc (v := x2_0 + 1) (lv' := [(2, .int (x2_0 + 1)), (0, .ref a0), (1, .int p1)]) hx hb dX1_letGoBy_11 hl (k := 0) rfl rfl (by decide) rfl (fun ls hl => ?_)
        refine lv_goto (tgt := 2) hx hb dX1_letGoBy_14 (by decide) ?_
        have hP9 := hP.sub (ws' := [tc_X1 a0 a1 a2 a3 a4 fh lh u_4, tc_X4 a1 u_5 mo su, tc_X3 a2 u_6 u_7 ga sl sc u_8, tc_X0 a3 b0 b1 b2 b3 b4 b5 ln, tc_I G b0 10 ow, tc_I G b1 10 gr, tc_I G b2 10 we, tc_I G b3 10 du, tc_I G b4 10 u_9, tc_D G b5 10 u_10, tc_X2 a4 d0 d1 d2 d3 pn, tc_F G d0 3 u_11, tc_I G d1 3 u_12, tc_I G d2 3 u_13, tc_I G d3 3 u_14]) [0, 1, 2, 3, 4, 5, 6, 7, 8, 9, 10, 11, 12, 13, 14] rfl
        have hD9 := hD.sub (ws' := [tc_X1 a0 a1 a2 a3 a4 fh lh u_4, tc_X4 a1 u_5 mo su, tc_X3 a2 u_6 u_7 ga sl sc u_8, tc_X0 a3 b0 b1 b2 b3 b4 b5 ln, tc_I G b0 10 ow, tc_I G b1 10 gr, tc_I G b2 10 we, tc_I G b3 10 du, tc_I G b4 10 u_9, tc_D G b5 10 u_10, tc_X2 a4 d0 d1 d2 d3 pn, tc_F G d0 3 u_11, tc_I G d1 3 u_12, tc_I G d2 3 u_13, tc_I G d3 3 u_14]) [0, 1, 2, 3, 4, 5, 6, 7, 8, 9, 10, 11, 12, 13, 14] (by decide) rfl
        exact ih (x2_0 + 1) u_4 u_5 u_6 u_7 u_8 u_9 u_10 u_11 u_12 u_13 u_14 (n_15 c_1 u_4 u_5 u_6 u_7 u_8 u_9 u_10 u_11 u_12 u_13 u_14 hw_3) (by rw [hE, f_X1_letGoBy_2]; all_goals (rw [if_neg c_1]); all_goals (rw [← hw_3]); all_goals (dsimp only); all_goals rfl) _ _ hP9 hD9 hS _ (lv_sub hl [0, 1, 2] rfl)
  have hP9 := hP.sub (ws' := [tc_X1 a0 a1 a2 a3 a4 fh lh ee, tc_X4 a1 tk mo su, tc_X3 a2 lv si ga sl sc fo, tc_X0 a3 b0 b1 b2 b3 b4 b5 ln, tc_I G b0 10 ow, tc_I G b1 10 gr, tc_I G b2 10 we, tc_I G b3 10 du, tc_I G b4 10 sa, tc_D G b5 10 le, tc_X2 a4 d0 d1 d2 d3 pn, tc_F G d0 3 dl, tc_I G d1 3 pl, tc_I G d2 3 dr, tc_I G d3 3 sp]) [0, 1, 2, 3, 4, 5, 6, 7, 8, 9, 10, 11, 12, 13, 14] rfl
  have hD9 := hD.sub (ws' := [tc_X1 a0 a1 a2 a3 a4 fh lh ee, tc_X4 a1 tk mo su, tc_X3 a2 lv si ga sl sc fo, tc_X0 a3 b0 b1 b2 b3 b4 b5 ln, tc_I G b0 10 ow, tc_I G b1 10 gr, tc_I G b2 10 we, tc_I G b3 10 du, tc_I G b4 10 sa, tc_D G b5 10 le, tc_X2 a4 d0 d1 d2 d3 pn, tc_F G d0 3 dl, tc_I G d1 3 pl, tc_I G d2 3 dr, tc_I G d3 3 sp]) [0, 1, 2, 3, 4, 5, 6, 7, 8, 9, 10, 11, 12, 13, 14] (by decide) rfl
  exact L_2 102 0 ee tk lv si fo sa le dl pl dr sp n_16 (by unfold f_X1_letGoBy; all_goals rfl) _ _ hP9 hD9 hS _ (lv_sub hl [0, 1, 2] rfl)
