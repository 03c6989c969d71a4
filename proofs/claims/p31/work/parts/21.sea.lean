set_option maxHeartbeats 4000000 in
set_option maxRecDepth 100000 in
theorem c_X4_today (l : Launch) (G : tm_G) (a0 : Nat) (sz : Nat) (tk : Int32) (mo : Int32) (su : UInt64) : Met l yX4_today wsX4_today ({ frames := 0, cells := 0, slots := 0, locals := 0 }) (va_Pc [.ref a0] (tm_B G [tc_X4 a0 tk mo su] sz)) (va_Qi (fun (r : Int32) (u : Unit) => r = f_X4_today tk) (fun (u : Unit) (t : State) => va_P G.1 vwCl [tc_X4 a0 tk mo su] t.heap ∧ va_D (va_A [tc_X4 a0 tk mo su] sz) [tc_X4 a0 tk mo su]) (va_A [tc_X4 a0 tk mo su] sz)) 0 0 (va_A [tc_X4 a0 tk mo su] sz) := by
  refine Met.ofW (cc := cX4_today) (maxL := 1) (ret := (some .int)) (by decide) rfl ?_
  intro p e s m args below meth c s₁ B hml hv
  obtain ⟨rfl, hsz, hP, hK, hD0, hN, hV⟩ := hv
  have hx := B.exec
  have hb := B.bytes
  have hr := B.returns
  have hts := atoms_spec (ws := wsX4_today) B.pre
  have hown : s.vm.findClass RX4 = some m.cls := findClass_of_methodNamed B.named
  have hlocks := B.notSynchronized
  subst hsz
  have hiX4 : ∀ w ∈ u_ws RX4 TX4 3, w ∈ wsX4_today := fun _ h => List.mem_cons_of_mem _ (List.mem_append_right _ h)
  have hD := hD0.self (sz := s.heap.size)
  generalize hAe : va_A [tc_X4 a0 tk mo su] s.heap.size = A at hD hV ⊢
  have hA : ∀ q : Nat, s.heap.size ≤ q → A q := fun q h => by rw [← hAe]; exact Or.inr h
  have hS : va_S A s.heap s.heap [] := va_S.rf
  have hl := lv_entry ([.ref a0]) (n := 1) (Nat.le_of_ble_eq_true rfl)
  rw [lg_entry_eq]
  generalize (lg_sl ([.ref a0]) ++ List.replicate (1 - (lg_sl ([.ref a0])).length) Slot.unset).toArray = ls at hl ⊢
  have hl : lv_has ls 1 [(0, .ref a0)] := hl
  refine lv_aload_n hx hb dX4_today_0 rfl (lv_at hl 0 rfl) ?_
  refine va_get (D := G.1) (ci := 4) (v := .int tk) (C := RX4) (T := TX4) (N := 3) hx hb hts hiX4 hown hK hP 0 rfl rfl 0 (by decide) (hts (.fieldLink RX4 9 "TideMill$Sea" "tick" "I") (List.mem_of_getElem? (i := 1) rfl)) (fun _ h9 => h9) rfl dX4_today_1 ?_
  refine lv_bipush (v := 48) hx hb dX4_today_4 (by decide) ?_
  refine lv_idiv hx hb dX4_today_6 (by decide) ?_
  have hP9 := hP.sub (ws' := [tc_X4 a0 tk mo su]) [0] rfl
  have hD9 := hD.sub (ws' := [tc_X4 a0 tk mo su]) [0] (by decide) rfl
  exact W.iret (v := tk / 48) hx hb hr (fun t ht hW => ⟨⟨tk / 48, (), rfl, by unfold f_X4_today; all_goals rfl, by rw [ht]; exact hP9, hD9⟩, hS.F ht⟩) hS.2.2 dX4_today_7
set_option maxHeartbeats 4000000 in
set_option maxRecDepth 100000 in
theorem c_X4_hourNow (l : Launch) (G : tm_G) (a0 : Nat) (sz : Nat) (tk : Int32) (mo : Int32) (su : UInt64) : Met l yX4_hourNow wsX4_hourNow ({ frames := 0, cells := 0, slots := 0, locals := 0 }) (va_Pc [.ref a0] (tm_B G [tc_X4 a0 tk mo su] sz)) (va_Qi (fun (r : Int32) (u : Unit) => r = f_X4_hourNow tk) (fun (u : Unit) (t : State) => va_P G.1 vwCl [tc_X4 a0 tk mo su] t.heap ∧ va_D (va_A [tc_X4 a0 tk mo su] sz) [tc_X4 a0 tk mo su]) (va_A [tc_X4 a0 tk mo su] sz)) 0 0 (va_A [tc_X4 a0 tk mo su] sz) := by
  refine Met.ofW (cc := cX4_hourNow) (maxL := 1) (ret := (some .int)) (by decide) rfl ?_
  intro p e s m args below meth c s₁ B hml hv
  obtain ⟨rfl, hsz, hP, hK, hD0, hN, hV⟩ := hv
  have hx := B.exec
  have hb := B.bytes
  have hr := B.returns
  have hts := atoms_spec (ws := wsX4_hourNow) B.pre
  have hown : s.vm.findClass RX4 = some m.cls := findClass_of_methodNamed B.named
  have hlocks := B.notSynchronized
  subst hsz
  have hiX4 : ∀ w ∈ u_ws RX4 TX4 3, w ∈ wsX4_hourNow := fun _ h => List.mem_cons_of_mem _ (List.mem_append_right _ h)
  have hD := hD0.self (sz := s.heap.size)
  generalize hAe : va_A [tc_X4 a0 tk mo su] s.heap.size = A at hD hV ⊢
  have hA : ∀ q : Nat, s.heap.size ≤ q → A q := fun q h => by rw [← hAe]; exact Or.inr h
  have hS : va_S A s.heap s.heap [] := va_S.rf
  have hl := lv_entry ([.ref a0]) (n := 1) (Nat.le_of_ble_eq_true rfl)
  rw [lg_entry_eq]
  generalize (lg_sl ([.ref a0]) ++ List.replicate (1 - (lg_sl ([.ref a0])).length) Slot.unset).toArray = ls at hl ⊢
  have hl : lv_has ls 1 [(0, .ref a0)] := hl
  refine lv_aload_n hx hb dX4_hourNow_0 rfl (lv_at hl 0 rfl) ?_
  refine va_get (D := G.1) (ci := 4) (v := .int tk) (C := RX4) (T := TX4) (N := 3) hx hb hts hiX4 hown hK hP 0 rfl rfl 0 (by decide) (hts (.fieldLink RX4 9 "TideMill$Sea" "tick" "I") (List.mem_of_getElem? (i := 1) rfl)) (fun _ h9 => h9) rfl dX4_hourNow_1 ?_
  refine lv_bipush (v := 48) hx hb dX4_hourNow_4 (by decide) ?_
  refine lv_irem hx hb dX4_hourNow_6 (by decide) ?_
  have hP9 := hP.sub (ws' := [tc_X4 a0 tk mo su]) [0] rfl
  have hD9 := hD.sub (ws' := [tc_X4 a0 tk mo su]) [0] (by decide) rfl
  exact W.iret (v := tk - tk / 48 * 48) hx hb hr (fun t ht hW => ⟨⟨tk - tk / 48 * 48, (), rfl, by unfold f_X4_hourNow; all_goals rfl, by rw [ht]; exact hP9, hD9⟩, hS.F ht⟩) hS.2.2 dX4_hourNow_7
set_option maxHeartbeats 4000000 in
set_option maxRecDepth 100000 in
theorem c_X4_ageOn (l : Launch) (G : tm_G) (a0 : Nat) (sz : Nat) (tk : Int32) (mo : Int32) (su : UInt64) (p1 : Int32) : Met l yX4_ageOn wsX4_ageOn ({ frames := 0, cells := 0, slots := 0, locals := 0 }) (va_Pc [.ref a0, .int p1] (tm_B G [tc_X4 a0 tk mo su] sz)) (va_Qi (fun (r : Int32) (u : Unit) => r = f_X4_ageOn mo p1) (fun (u : Unit) (t : State) => va_P G.1 vwCl [tc_X4 a0 tk mo su] t.heap ∧ va_D (va_A [tc_X4 a0 tk mo su] sz) [tc_X4 a0 tk mo su]) (va_A [tc_X4 a0 tk mo su] sz)) 0 0 (va_A [tc_X4 a0 tk mo su] sz) := by
  refine Met.ofW (cc := cX4_ageOn) (maxL := 2) (ret := (some .int)) (by decide) rfl ?_
  intro p e s m args below meth c s₁ B hml hv
  obtain ⟨rfl, hsz, hP, hK, hD0, hN, hV⟩ := hv
  have hx := B.exec
  have hb := B.bytes
  have hr := B.returns
  have hts := atoms_spec (ws := wsX4_ageOn) B.pre
  have hown : s.vm.findClass RX4 = some m.cls := findClass_of_methodNamed B.named
  have hlocks := B.notSynchronized
  subst hsz
  have hiX4 : ∀ w ∈ u_ws RX4 TX4 3, w ∈ wsX4_ageOn := fun _ h => List.mem_cons_of_mem _ (List.mem_append_right _ h)
  have hD := hD0.self (sz := s.heap.size)
  generalize hAe : va_A [tc_X4 a0 tk mo su] s.heap.size = A at hD hV ⊢
  have hA : ∀ q : Nat, s.heap.size ≤ q → A q := fun q h => by rw [← hAe]; exact Or.inr h
  have hS : va_S A s.heap s.heap [] := va_S.rf
  have hl := lv_entry ([.ref a0, .int p1]) (n := 2) (Nat.le_of_ble_eq_true rfl)
  rw [lg_entry_eq]
  generalize (lg_sl ([.ref a0, .int p1]) ++ List.replicate (2 - (lg_sl ([.ref a0, .int p1])).length) Slot.unset).toArray = ls at hl ⊢
  have hl : lv_has ls 2 [(0, .ref a0), (1, .int p1)] := hl
  refine lv_aload_n hx hb dX4_ageOn_0 rfl (lv_at hl 0 rfl) ?_
  refine va_get (D := G.1) (ci := 4) (v := .int mo) (C := RX4) (T := TX4) (N := 3) hx hb hts hiX4 hown hK hP 0 rfl rfl 1 (by decide) (hts (.fieldLink RX4 15 "TideMill$Sea" "moon" "I") (List.mem_of_getElem? (i := 1) rfl)) (fun _ h9 => h9) rfl dX4_ageOn_1 ?_
  refine lv_iload_n hx hb dX4_ageOn_4 rfl (lv_at hl 1 rfl) ?_
  refine lv_bipush (v := 48) hx hb dX4_ageOn_5 (by decide) ?_
  refine lv_idiv hx hb dX4_ageOn_7 (by decide) ?_
  refine lv_iadd hx hb dX4_ageOn_8 ?_
  refine lv_bipush (v := 30) hx hb dX4_ageOn_9 (by decide) ?_
  refine lv_irem hx hb dX4_ageOn_11 (by decide) ?_
  have hP9 := hP.sub (ws' := [tc_X4 a0 tk mo su]) [0] rfl
  have hD9 := hD.sub (ws' := [tc_X4 a0 tk mo su]) [0] (by decide) rfl
  exact W.iret (v := (mo + (p1 / 48)) - (mo + (p1 / 48)) / 30 * 30) hx hb hr (fun t ht hW => ⟨⟨(mo + (p1 / 48)) - (mo + (p1 / 48)) / 30 * 30, (), rfl, by unfold f_X4_ageOn; all_goals rfl, by rw [ht]; exact hP9, hD9⟩, hS.F ht⟩) hS.2.2 dX4_ageOn_12
set_option maxHeartbeats 4000000 in
set_option maxRecDepth 100000 in
theorem c_X4_springOf (l : Launch) (G : tm_G) (a0 : Nat) (sz : Nat) (tk : Int32) (mo : Int32) (su : UInt64) (p1 : Int32) : Met l yX4_springOf wsX4_springOf ({ frames := 1, cells := 0, slots := 0, locals := 24 }) (va_Pc [.ref a0, .int p1] (tm_B G [tc_X4 a0 tk mo su] sz)) (va_Qi (fun (r : Int32) (u : Unit) => r = f_X4_springOf p1) (fun (u : Unit) (t : State) => va_P G.1 vwCl [tc_X4 a0 tk mo su] t.heap ∧ va_D (va_A [tc_X4 a0 tk mo su] sz) [tc_X4 a0 tk mo su]) (va_A [tc_X4 a0 tk mo su] sz)) 0 0 (va_A [tc_X4 a0 tk mo su] sz) := by
  refine Met.ofW (cc := cX4_springOf) (maxL := 3) (ret := (some .int)) (by decide) rfl ?_
  intro p e s m args below meth c s₁ B hml hv
  obtain ⟨rfl, hsz, hP, hK, hD0, hN, hV⟩ := hv
  have hx := B.exec
  have hb := B.bytes
  have hr := B.returns
  have hts := atoms_spec (ws := wsX4_springOf) B.pre
  have hown : s.vm.findClass RX4 = some m.cls := findClass_of_methodNamed B.named
  have hlocks := B.notSynchronized
  subst hsz
  have hD := hD0.self (sz := s.heap.size)
  generalize hAe : va_A [tc_X4 a0 tk mo su] s.heap.size = A at hD hV ⊢
  have hA : ∀ q : Nat, s.heap.size ≤ q → A q := fun q h => by rw [← hAe]; exact Or.inr h
  have hS : va_S A s.heap s.heap [] := va_S.rf
  have hl := lv_entry ([.ref a0, .int p1]) (n := 3) (Nat.le_of_ble_eq_true rfl)
  rw [lg_entry_eq]
  generalize (lg_sl ([.ref a0, .int p1]) ++ List.replicate (3 - (lg_sl ([.ref a0, .int p1])).length) Slot.unset).toArray = ls at hl ⊢
  have hl : lv_has ls 3 [(0, .ref a0), (1, .int p1)] := hl
  refine lv_iload_n hx hb dX4_springOf_0 rfl (lv_at hl 1 rfl) ?_
  refine lv_bipush (v := 15) hx hb dX4_springOf_1 (by decide) ?_
  refine lv_isub hx hb dX4_springOf_3 ?_
  refine va_mabs hx hb (by rw [hml]; exact hl.1.symm) hown (hts (.methodLink RX4 22 Lib.Math.abs.name) (List.mem_of_getElem? (i := 1) rfl)) (hts (.static Lib.Math.abs.name) (List.mem_of_getElem? (i := 2) rfl)) (hts (.initialized "java/lang/Math") (List.mem_of_getElem? (i := 3) rfl)) (hts (.code Lib.Math.abs.name Lib.Math.abs.code 1 (some .int)) (List.mem_of_getElem? (i := 4) rfl)) (Nat.le_of_ble_eq_true rfl) (Nat.le_of_ble_eq_true rfl) (Nat.le_of_ble_eq_true rfl) (Nat.le_of_ble_eq_true rfl) dX4_springOf_4 ?_
  refine lv_istore_n (lv' := [(2, .int (if 0 ≤ (p1 - 15) then (p1 - 15) else 0 - (p1 - 15))), (0, .ref a0), (1, .int p1)]) hx hb dX4_springOf_7 rfl hl (by decide) rfl (fun ls hl => ?_)
  refine lv_iload_n hx hb dX4_springOf_8 rfl (lv_at hl 2 rfl) ?_
  refine lv_bipush (v := 30) hx hb dX4_springOf_9 (by decide) ?_
  refine lv_iload_n hx hb dX4_springOf_11 rfl (lv_at hl 2 rfl) ?_
  refine lv_isub hx hb dX4_springOf_12 ?_
  refine va_mmin hx hb (by rw [hml]; exact hl.1.symm) hown (hts (.methodLink RX4 28 Lib.Math.min.name) (List.mem_of_getElem? (i := 5) rfl)) (hts (.static Lib.Math.min.name) (List.mem_of_getElem? (i := 6) rfl)) (hts (.initialized "java/lang/Math") (List.mem_of_getElem? (i := 3) rfl)) (hts (.code Lib.Math.min.name Lib.Math.min.code 2 (some .int)) (List.mem_of_getElem? (i := 7) rfl)) (Nat.le_of_ble_eq_true rfl) (Nat.le_of_ble_eq_true rfl) (Nat.le_of_ble_eq_true rfl) (Nat.le_of_ble_eq_true rfl) dX4_springOf_13 ?_
  refine lv_iload_n hx hb dX4_springOf_16 rfl (lv_at hl 0 rfl) ?_
  refine va_mmin hx hb (by rw [hml]; exact hl.1.symm) hown (hts (.methodLink RX4 28 Lib.Math.min.name) (List.mem_of_getElem? (i := 5) rfl)) (hts (.static Lib.Math.min.name) (List.mem_of_getElem? (i := 6) rfl)) (hts (.initialized "java/lang/Math") (List.mem_of_getElem? (i := 3) rfl)) (hts (.code Lib.Math.min.name Lib.Math.min.code 2 (some .int)) (List.mem_of_getElem? (i := 7) rfl)) (Nat.le_of_ble_eq_true rfl) (Nat.le_of_ble_eq_true rfl) (Nat.le_of_ble_eq_true rfl) (Nat.le_of_ble_eq_true rfl) dX4_springOf_17 ?_
  have hP9 := hP.sub (ws' := [tc_X4 a0 tk mo su]) [0] rfl
  have hD9 := hD.sub (ws' := [tc_X4 a0 tk mo su]) [0] (by decide) rfl
  exact W.iret (v := if (if 0 ≤ (p1 - 15) then (p1 - 15) else 0 - (p1 - 15)) < (if (30 - p1) < p1 then (30 - p1) else p1) then (if 0 ≤ (p1 - 15) then (p1 - 15) else 0 - (p1 - 15)) else (if (30 - p1) < p1 then (30 - p1) else p1)) hx hb hr (fun t ht hW => ⟨⟨if (if 0 ≤ (p1 - 15) then (p1 - 15) else 0 - (p1 - 15)) < (if (30 - p1) < p1 then (30 - p1) else p1) then (if 0 ≤ (p1 - 15) then (p1 - 15) else 0 - (p1 - 15)) else (if (30 - p1) < p1 then (30 - p1) else p1), (), rfl, by unfold f_X4_springOf; all_goals rfl, by rw [ht]; exact hP9, hD9⟩, hS.F ht⟩) hS.2.2 dX4_springOf_20
set_option maxHeartbeats 4000000 in
set_option maxRecDepth 100000 in
theorem c_X4_rangeOn (l : Launch) (G : tm_G) (a0 : Nat) (sz : Nat) (tk : Int32) (mo : Int32) (su : UInt64) (p1 : Int32) (hn : n_X4_rangeOn mo p1) : Met l yX4_rangeOn wsX4_rangeOn ({ frames := 2, cells := 0, slots := 0, locals := 46 }) (va_Pc [.ref a0, .int p1] (tm_B G [tc_X4 a0 tk mo su] sz)) (va_Qd (fun (r : UInt64) (u : Unit) => r = f_X4_rangeOn mo p1) (fun (u : Unit) (t : State) => va_P G.1 vwCl [tc_X4 a0 tk mo su] t.heap ∧ va_D (va_A [tc_X4 a0 tk mo su] sz) [tc_X4 a0 tk mo su]) (va_A [tc_X4 a0 tk mo su] sz)) 0 0 (va_A [tc_X4 a0 tk mo su] sz) := by
  refine Met.ofW (cc := cX4_rangeOn) (maxL := 2) (ret := (some .double)) (by decide) rfl ?_
  intro p e s m args below meth c s₁ B hml hv
  obtain ⟨rfl, hsz, hP, hK, hD0, hN, hV⟩ := hv
  have hx := B.exec
  have hb := B.bytes
  have hr := B.returns
  have hts := atoms_spec (ws := wsX4_rangeOn) B.pre
  have hown : s.vm.findClass RX4 = some m.cls := findClass_of_methodNamed B.named
  have hlocks := B.notSynchronized
  subst hsz
  obtain ⟨n_3, n_4⟩ := hn
  have hD := hD0.self (sz := s.heap.size)
  generalize hAe : va_A [tc_X4 a0 tk mo su] s.heap.size = A at hD hV ⊢
  have hA : ∀ q : Nat, s.heap.size ≤ q → A q := fun q h => by rw [← hAe]; exact Or.inr h
  have hS : va_S A s.heap s.heap [] := va_S.rf
  have hl := lv_entry ([.ref a0, .int p1]) (n := 2) (Nat.le_of_ble_eq_true rfl)
  rw [lg_entry_eq]
  generalize (lg_sl ([.ref a0, .int p1]) ++ List.replicate (2 - (lg_sl ([.ref a0, .int p1])).length) Slot.unset).toArray = ls at hl ⊢
  have hl : lv_has ls 2 [(0, .ref a0), (1, .int p1)] := hl
  refine lv_ldc2d hx hb hown (hts (.constantDouble RX4 32 (4616189618054758400)) (List.mem_of_getElem? (i := 1) rfl)) dX4_rangeOn_0 ?_
  refine lv_ldc2d hx hb hown (hts (.constantDouble RX4 34 (4598175219545276416)) (List.mem_of_getElem? (i := 2) rfl)) dX4_rangeOn_3 ?_
  refine lv_aload_n hx hb dX4_rangeOn_6 rfl (lv_at hl 0 rfl) ?_
  refine lv_aload_n hx hb dX4_rangeOn_7 rfl (lv_at hl 0 rfl) ?_
  refine lv_iload_n hx hb dX4_rangeOn_8 rfl (lv_at hl 1 rfl) ?_
  have hPc := hP.sub (ws' := [tc_X4 a0 tk mo su]) [0] rfl
  have hDc := hD.sub (ws' := [tc_X4 a0 tk mo su]) [0] (by decide) rfl
  have hFc := va_free (wc := [tc_X4 a0 tk mo su]) hD hS hA [0] rfl
  refine va_calli (va_runV (As := [.int p1]) (rest := [.ref a0, .double 4598175219545276416, .double 4616189618054758400]) ⟨hx, hb, hml, hown, hts⟩ (c_X4_ageOn l G a0 s.heap.size tk mo su p1 ) (cwV 1 hts gX4_rangeOn_X4_ageOn rfl rfl rfl (by decide +kernel) ⟨(Nat.le_of_ble_eq_true rfl), (Nat.le_of_ble_eq_true rfl)⟩) (tm_preV hK hN hV hS hPc hDc hFc (va_recv hK hPc (ci := 4) (q0 := 0) rfl rfl)) rfl rfl hl.1 rfl (lv_room (Nat.le_of_ble_eq_true rfl)) dX4_rangeOn_9 ⟨(Nat.le_of_ble_eq_true rfl), (Nat.le_of_ble_eq_true rfl)⟩) hS (fun q _ h => hFc q h) hFc (fun r_1 u t H locs ht hvm hw_1 hB hz1 hk1 hS => ?_)
  obtain ⟨hP1, hD1⟩ := hB
  rw [ht] at hP1
  try dsimp only at hw_1
  obtain ⟨hP, hD⟩ := va_join (wr := []) (w1 := [tc_X4 a0 tk mo su]) hP hD [0] [] rfl rfl (by decide) (by decide) hk1 hFc hP1 hD1
  have hP : va_P G.1 vwCl [tc_X4 a0 tk mo su] H := hP
  have hD : va_D A [tc_X4 a0 tk mo su] := hD
  subst hw_1
  have hPc := hP.sub (ws' := [tc_X4 a0 tk mo su]) [0] rfl
  have hDc := hD.sub (ws' := [tc_X4 a0 tk mo su]) [0] (by decide) rfl
  have hFc := va_free (wc := [tc_X4 a0 tk mo su]) hD hS hA [0] rfl
  refine va_calli (va_runV (As := [.int (f_X4_ageOn mo p1)]) (rest := [.double 4598175219545276416, .double 4616189618054758400]) ⟨hx, hb, hml, hown, hts⟩ (c_X4_springOf l G a0 H.size tk mo su (f_X4_ageOn mo p1) ) (cwV 1 hts gX4_rangeOn_X4_springOf rfl rfl rfl (by decide +kernel) ⟨(Nat.le_of_ble_eq_true rfl), (Nat.le_of_ble_eq_true rfl)⟩) (tm_preV hK hN hV hS hPc hDc hFc (va_recv hK hPc (ci := 4) (q0 := 0) rfl rfl)) rfl rfl hl.1 rfl (lv_room (Nat.le_of_ble_eq_true rfl)) dX4_rangeOn_12 ⟨(Nat.le_of_ble_eq_true rfl), (Nat.le_of_ble_eq_true rfl)⟩) hS (fun q _ h => hFc q h) hFc (fun r_2 u t H locs ht hvm hw_2 hB hz1 hk1 hS => ?_)
  obtain ⟨hP1, hD1⟩ := hB
  rw [ht] at hP1
  try dsimp only at hw_2
  obtain ⟨hP, hD⟩ := va_join (wr := []) (w1 := [tc_X4 a0 tk mo su]) hP hD [0] [] rfl rfl (by decide) (by decide) hk1 hFc hP1 hD1
  have hP : va_P G.1 vwCl [tc_X4 a0 tk mo su] H := hP
  have hD : va_D A [tc_X4 a0 tk mo su] := hD
  subst hw_2
  refine lv_i2d hx hb dX4_rangeOn_15 ?_
  refine lv_dmul hx hb dX4_rangeOn_16 n_3 ?_
  refine lv_dsub hx hb dX4_rangeOn_17 n_4 ?_
  have hP9 := hP.sub (ws' := [tc_X4 a0 tk mo su]) [0] rfl
  have hD9 := hD.sub (ws' := [tc_X4 a0 tk mo su]) [0] (by decide) rfl
  exact W.dret (v := FP.dsub 4616189618054758400 (FP.dmul 4598175219545276416 (FP.i2d (f_X4_springOf (f_X4_ageOn mo p1))))) hx hb hr (fun t ht hW => ⟨⟨FP.dsub 4616189618054758400 (FP.dmul 4598175219545276416 (FP.i2d (f_X4_springOf (f_X4_ageOn mo p1)))), (), rfl, by unfold f_X4_rangeOn; all_goals rfl, by rw [ht]; exact hP9, hD9⟩, hS.F ht⟩) hS.2.2 dX4_rangeOn_18
set_option maxHeartbeats 4000000 in
set_option maxRecDepth 100000 in
theorem c_X4_phaseOn (l : Launch) (G : tm_G) (a0 : Nat) (sz : Nat) (tk : Int32) (mo : Int32) (su : UInt64) (p1 : Int32) (hn : n_X4_phaseOn p1) : Met l yX4_phaseOn wsX4_phaseOn ({ frames := 0, cells := 0, slots := 0, locals := 0 }) (va_Pc [.ref a0, .int p1] (tm_B G [tc_X4 a0 tk mo su] sz)) (va_Qd (fun (r : UInt64) (u : Unit) => r = f_X4_phaseOn p1) (fun (u : Unit) (t : State) => va_P G.1 vwCl [tc_X4 a0 tk mo su] t.heap ∧ va_D (va_A [tc_X4 a0 tk mo su] sz) [tc_X4 a0 tk mo su]) (va_A [tc_X4 a0 tk mo su] sz)) 0 0 (va_A [tc_X4 a0 tk mo su] sz) := by
  refine Met.ofW (cc := cX4_phaseOn) (maxL := 2) (ret := (some .double)) (by decide) rfl ?_
  intro p e s m args below meth c s₁ B hml hv
  obtain ⟨rfl, hsz, hP, hK, hD0, hN, hV⟩ := hv
  have hx := B.exec
  have hb := B.bytes
  have hr := B.returns
  have hts := atoms_spec (ws := wsX4_phaseOn) B.pre
  have hown : s.vm.findClass RX4 = some m.cls := findClass_of_methodNamed B.named
  have hlocks := B.notSynchronized
  subst hsz
  have n_1 := hn
  unfold n_X4_phaseOn at n_1
  have hD := hD0.self (sz := s.heap.size)
  generalize hAe : va_A [tc_X4 a0 tk mo su] s.heap.size = A at hD hV ⊢
  have hA : ∀ q : Nat, s.heap.size ≤ q → A q := fun q h => by rw [← hAe]; exact Or.inr h
  have hS : va_S A s.heap s.heap [] := va_S.rf
  have hl := lv_entry ([.ref a0, .int p1]) (n := 2) (Nat.le_of_ble_eq_true rfl)
  rw [lg_entry_eq]
  generalize (lg_sl ([.ref a0, .int p1]) ++ List.replicate (2 - (lg_sl ([.ref a0, .int p1])).length) Slot.unset).toArray = ls at hl ⊢
  have hl : lv_has ls 2 [(0, .ref a0), (1, .int p1)] := hl
  refine lv_iload_n hx hb dX4_phaseOn_0 rfl (lv_at hl 1 rfl) ?_
  refine lv_iconst (v := 4) hx hb dX4_phaseOn_1 (by decide) ?_
  refine lv_imul hx hb dX4_phaseOn_2 ?_
  refine lv_bipush (v := 99) hx hb dX4_phaseOn_3 (by decide) ?_
  refine lv_irem hx hb dX4_phaseOn_5 (by decide) ?_
  refine lv_i2d hx hb dX4_phaseOn_6 ?_
  refine lv_ldc2d hx hb hown (hts (.constantDouble RX4 32 (4616189618054758400)) (List.mem_of_getElem? (i := 1) rfl)) dX4_phaseOn_7 ?_
  refine lv_ddiv hx hb dX4_phaseOn_10 n_1 ?_
  have hP9 := hP.sub (ws' := [tc_X4 a0 tk mo su]) [0] rfl
  have hD9 := hD.sub (ws' := [tc_X4 a0 tk mo su]) [0] (by decide) rfl
  exact W.dret (v := FP.ddiv (FP.i2d ((p1 * 4) - (p1 * 4) / 99 * 99)) 4616189618054758400) hx hb hr (fun t ht hW => ⟨⟨FP.ddiv (FP.i2d ((p1 * 4) - (p1 * 4) / 99 * 99)) 4616189618054758400, (), rfl, by unfold f_X4_phaseOn; all_goals rfl, by rw [ht]; exact hP9, hD9⟩, hS.F ht⟩) hS.2.2 dX4_phaseOn_11
set_option maxHeartbeats 4000000 in
set_option maxRecDepth 100000 in
theorem c_X4_heightOn (l : Launch) (G : tm_G) (a0 : Nat) (sz : Nat) (tk : Int32) (mo : Int32) (su : UInt64) (p1 : Int32) (hn : n_X4_heightOn mo su p1) : Met l yX4_heightOn wsX4_heightOn ({ frames := 3, cells := 0, slots := 0, locals := 67 }) (va_Pc [.ref a0, .int p1] (tm_B G [tc_X4 a0 tk mo su] sz)) (va_Qd (fun (r : UInt64) (u : Unit) => r = f_X4_heightOn mo su p1) (fun (u : Unit) (t : State) => va_P G.1 vwCl [tc_X4 a0 tk mo su] t.heap ∧ va_D (va_A [tc_X4 a0 tk mo su] sz) [tc_X4 a0 tk mo su]) (va_A [tc_X4 a0 tk mo su] sz)) 0 0 (va_A [tc_X4 a0 tk mo su] sz) := by
  refine Met.ofW (cc := cX4_heightOn) (maxL := 8) (ret := (some .double)) (by decide) rfl ?_
  intro p e s m args below meth c s₁ B hml hv
  obtain ⟨rfl, hsz, hP, hK, hD0, hN, hV⟩ := hv
  have hx := B.exec
  have hb := B.bytes
  have hr := B.returns
  have hts := atoms_spec (ws := wsX4_heightOn) B.pre
  have hown : s.vm.findClass RX4 = some m.cls := findClass_of_methodNamed B.named
  have hlocks := B.notSynchronized
  subst hsz
  obtain ⟨n_1, n_3, n_6, n_7, n_8, n_9, n_10, n_11, n_12, n_13, n_14, n_15, n_16⟩ := hn
  have hiX4 : ∀ w ∈ u_ws RX4 TX4 3, w ∈ wsX4_heightOn := fun _ h => List.mem_cons_of_mem _ (List.mem_append_right _ h)
  have hD := hD0.self (sz := s.heap.size)
  generalize hAe : va_A [tc_X4 a0 tk mo su] s.heap.size = A at hD hV ⊢
  have hA : ∀ q : Nat, s.heap.size ≤ q → A q := fun q h => by rw [← hAe]; exact Or.inr h
  have hS : va_S A s.heap s.heap [] := va_S.rf
  have hl := lv_entry ([.ref a0, .int p1]) (n := 8) (Nat.le_of_ble_eq_true rfl)
  rw [lg_entry_eq]
  generalize (lg_sl ([.ref a0, .int p1]) ++ List.replicate (8 - (lg_sl ([.ref a0, .int p1])).length) Slot.unset).toArray = ls at hl ⊢
  have hl : lv_has ls 8 [(0, .ref a0), (1, .int p1)] := hl
  refine lv_aload_n hx hb dX4_heightOn_0 rfl (lv_at hl 0 rfl) ?_
  refine lv_iload_n hx hb dX4_heightOn_1 rfl (lv_at hl 1 rfl) ?_
  have hPc := hP.sub (ws' := [tc_X4 a0 tk mo su]) [0] rfl
  have hDc := hD.sub (ws' := [tc_X4 a0 tk mo su]) [0] (by decide) rfl
  have hFc := va_free (wc := [tc_X4 a0 tk mo su]) hD hS hA [0] rfl
  refine va_calld (va_runV (As := [.int p1]) (rest := []) ⟨hx, hb, hml, hown, hts⟩ (c_X4_rangeOn l G a0 s.heap.size tk mo su p1 n_1) (cwV 1 hts gX4_heightOn_X4_rangeOn rfl rfl rfl (by decide +kernel) ⟨(Nat.le_of_ble_eq_true rfl), (Nat.le_of_ble_eq_true rfl)⟩) (tm_preV hK hN hV hS hPc hDc hFc (va_recv hK hPc (ci := 4) (q0 := 0) rfl rfl)) rfl rfl hl.1 rfl (lv_room (Nat.le_of_ble_eq_true rfl)) dX4_heightOn_2 ⟨(Nat.le_of_ble_eq_true rfl), (Nat.le_of_ble_eq_true rfl)⟩) hS (fun q _ h => hFc q h) hFc (fun r_2 u t H locs ht hvm hw_2 hB hz1 hk1 hS => ?_)
  obtain ⟨hP1, hD1⟩ := hB
  rw [ht] at hP1
  try dsimp only at hw_2
  obtain ⟨hP, hD⟩ := va_join (wr := []) (w1 := [tc_X4 a0 tk mo su]) hP hD [0] [] rfl rfl (by decide) (by decide) hk1 hFc hP1 hD1
  have hP : va_P G.1 vwCl [tc_X4 a0 tk mo su] H := hP
  have hD : va_D A [tc_X4 a0 tk mo su] := hD
  subst hw_2
  refine lv_dstore_n (lv' := [(2, .double (f_X4_rangeOn mo p1)), (0, .ref a0), (1, .int p1)]) hx hb dX4_heightOn_5 rfl hl (by decide) rfl (fun ls hl => ?_)
  refine lv_aload_n hx hb dX4_heightOn_6 rfl (lv_at hl 1 rfl) ?_
  refine lv_iload_n hx hb dX4_heightOn_7 rfl (lv_at hl 2 rfl) ?_
  have hPc := hP.sub (ws' := [tc_X4 a0 tk mo su]) [0] rfl
  have hDc := hD.sub (ws' := [tc_X4 a0 tk mo su]) [0] (by decide) rfl
  have hFc := va_free (wc := [tc_X4 a0 tk mo su]) hD hS hA [0] rfl
  refine va_calld (va_runV (As := [.int p1]) (rest := []) ⟨hx, hb, hml, hown, hts⟩ (c_X4_phaseOn l G a0 H.size tk mo su p1 n_3) (cwV 1 hts gX4_heightOn_X4_phaseOn rfl rfl rfl (by decide +kernel) ⟨(Nat.le_of_ble_eq_true rfl), (Nat.le_of_ble_eq_true rfl)⟩) (tm_preV hK hN hV hS hPc hDc hFc (va_recv hK hPc (ci := 4) (q0 := 0) rfl rfl)) rfl rfl hl.1 rfl (lv_room (Nat.le_of_ble_eq_true rfl)) dX4_heightOn_8 ⟨(Nat.le_of_ble_eq_true rfl), (Nat.le_of_ble_eq_true rfl)⟩) hS (fun q _ h => hFc q h) hFc (fun r_4 u t H locs ht hvm hw_4 hB hz1 hk1 hS => ?_)
  obtain ⟨hP1, hD1⟩ := hB
  rw [ht] at hP1
  try dsimp only at hw_4
  obtain ⟨hP, hD⟩ := va_join (wr := []) (w1 := [tc_X4 a0 tk mo su]) hP hD [0] [] rfl rfl (by decide) (by decide) hk1 hFc hP1 hD1
  have hP : va_P G.1 vwCl [tc_X4 a0 tk mo su] H := hP
  have hD : va_D A [tc_X4 a0 tk mo su] := hD
  subst hw_4
  refine lv_dstore (lv' := [(4, .double (f_X4_phaseOn p1)), (2, .double (f_X4_rangeOn mo p1)), (0, .ref a0), (1, .int p1)]) hx hb dX4_heightOn_11 hl (by decide) rfl (fun ls hl => ?_)
  refine lv_dload hx hb dX4_heightOn_13 (lv_at hl 0 rfl) ?_
  refine lv_ldc2d hx hb hown (hts (.constantDouble RX4 49 (4622945017495814144)) (List.mem_of_getElem? (i := 1) rfl)) dX4_heightOn_15 ?_
  refine lv_dcmp hx hb dX4_heightOn_18 ?_
  refine lv_if_ge (tgt := 31) hx hb dX4_heightOn_19 (by decide) (fun c_5 => ?_) (fun c_5 => ?_)
  · refine lv_ldc2d hx hb hown (hts (.constantDouble RX4 51 (4627659723355717632)) (List.mem_of_getElem? (i := 2) rfl)) dX4_heightOn_31 ?_
    refine lv_dload hx hb dX4_heightOn_34 (lv_at hl 0 rfl) ?_
    refine lv_dsub hx hb dX4_heightOn_36 (n_6 c_5) ?_
    refine lv_ldc2d hx hb hown (hts (.constantDouble RX4 53 (4623367229960880128)) (List.mem_of_getElem? (i := 3) rfl)) dX4_heightOn_37 ?_
    refine lv_ddiv hx hb dX4_heightOn_40 (n_7 c_5) ?_
    refine lv_dstore (lv' := [(6, .double (FP.ddiv (FP.dsub 4627659723355717632 (f_X4_phaseOn p1)) 4623367229960880128)), (4, .double (f_X4_phaseOn p1)), (2, .double (f_X4_rangeOn mo p1)), (0, .ref a0), (1, .int p1)]) hx hb dX4_heightOn_41 hl (by decide) rfl (fun ls hl => ?_)
    refine lv_aload_n hx hb dX4_heightOn_43 rfl (lv_at hl 3 rfl) ?_
    refine va_get (D := G.1) (ci := 4) (v := .double su) (C := RX4) (T := TX4) (N := 3) hx hb hts hiX4 hown hK hP 0 rfl rfl 2 (by decide) (hts (.fieldLink RX4 18 "TideMill$Sea" "surge" "D") (List.mem_of_getElem? (i := 4) rfl)) (fun _ h9 => h9) rfl dX4_heightOn_44 ?_
    refine lv_dload_n hx hb dX4_heightOn_47 rfl (lv_at hl 2 rfl) ?_
    refine lv_dload hx hb dX4_heightOn_48 (lv_at hl 0 rfl) ?_
    refine lv_dmul hx hb dX4_heightOn_50 (n_8 c_5) ?_
    refine lv_dadd hx hb dX4_heightOn_51 (n_9 c_5) ?_
    refine lv_dload_n hx hb dX4_heightOn_52 rfl (lv_at hl 2 rfl) ?_
    refine lv_ldc2d hx hb hown (hts (.constantDouble RX4 55 (4602678819172646912)) (List.mem_of_getElem? (i := 5) rfl)) dX4_heightOn_53 ?_
    refine lv_dmul hx hb dX4_heightOn_56 (n_10 c_5) ?_
    refine lv_dsub hx hb dX4_heightOn_57 (n_11 c_5) ?_
    have hP9 := hP.sub (ws' := [tc_X4 a0 tk mo su]) [0] rfl
    have hD9 := hD.sub (ws' := [tc_X4 a0 tk mo su]) [0] (by decide) rfl
    exact W.dret (v := FP.dsub (FP.dadd su (FP.dmul (f_X4_rangeOn mo p1) (FP.ddiv (FP.dsub 4627659723355717632 (f_X4_phaseOn p1)) 4623367229960880128))) (FP.dmul (f_X4_rangeOn mo p1) 4602678819172646912)) hx hb hr (fun t ht hW => ⟨⟨FP.dsub (FP.dadd su (FP.dmul (f_X4_rangeOn mo p1) (FP.ddiv (FP.dsub 4627659723355717632 (f_X4_phaseOn p1)) 4623367229960880128))) (FP.dmul (f_X4_rangeOn mo p1) 4602678819172646912), (), rfl, by unfold f_X4_heightOn; all_goals (rw [if_pos c_5]); all_goals rfl, by rw [ht]; exact hP9, hD9⟩, hS.F ht⟩) hS.2.2 dX4_heightOn_58
  · refine lv_dload hx hb dX4_heightOn_22 (lv_at hl 0 rfl) ?_
    refine lv_ldc2d hx hb hown (hts (.constantDouble RX4 49 (4622945017495814144)) (List.mem_of_getElem? (i := 1) rfl)) dX4_heightOn_24 ?_
    refine lv_ddiv hx hb dX4_heightOn_27 (n_12 c_5) ?_
    refine lv_goto (tgt := 41) hx hb dX4_heightOn_28 (by decide) ?_
    refine lv_dstore (lv' := [(6, .double (FP.ddiv (f_X4_phaseOn p1) 4622945017495814144)), (4, .double (f_X4_phaseOn p1)), (2, .double (f_X4_rangeOn mo p1)), (0, .ref a0), (1, .int p1)]) hx hb dX4_heightOn_41 hl (by decide) rfl (fun ls hl => ?_)
    refine lv_aload_n hx hb dX4_heightOn_43 rfl (lv_at hl 3 rfl) ?_
    refine va_get (D := G.1) (ci := 4) (v := .double su) (C := RX4) (T := TX4) (N := 3) hx hb hts hiX4 hown hK hP 0 rfl rfl 2 (by decide) (hts (.fieldLink RX4 18 "TideMill$Sea" "surge" "D") (List.mem_of_getElem? (i := 4) rfl)) (fun _ h9 => h9) rfl dX4_heightOn_44 ?_
    refine lv_dload_n hx hb dX4_heightOn_47 rfl (lv_at hl 2 rfl) ?_
    refine lv_dload hx hb dX4_heightOn_48 (lv_at hl 0 rfl) ?_
    refine lv_dmul hx hb dX4_heightOn_50 (n_13 c_5) ?_
    refine lv_dadd hx hb dX4_heightOn_51 (n_14 c_5) ?_
    refine lv_dload_n hx hb dX4_heightOn_52 rfl (lv_at hl 2 rfl) ?_
    refine lv_ldc2d hx hb hown (hts (.constantDouble RX4 55 (4602678819172646912)) (List.mem_of_getElem? (i := 5) rfl)) dX4_heightOn_53 ?_
    refine lv_dmul hx hb dX4_heightOn_56 (n_15 c_5) ?_
    refine lv_dsub hx hb dX4_heightOn_57 (n_16 c_5) ?_
    have hP9 := hP.sub (ws' := [tc_X4 a0 tk mo su]) [0] rfl
    have hD9 := hD.sub (ws' := [tc_X4 a0 tk mo su]) [0] (by decide) rfl
    exact W.dret (v := FP.dsub (FP.dadd su (FP.dmul (f_X4_rangeOn mo p1) (FP.ddiv (f_X4_phaseOn p1) 4622945017495814144))) (FP.dmul (f_X4_rangeOn mo p1) 4602678819172646912)) hx hb hr (fun t ht hW => ⟨⟨FP.dsub (FP.dadd su (FP.dmul (f_X4_rangeOn mo p1) (FP.ddiv (f_X4_phaseOn p1) 4622945017495814144))) (FP.dmul (f_X4_rangeOn mo p1) 4602678819172646912), (), rfl, by unfold f_X4_heightOn; all_goals (rw [if_neg c_5]); all_goals rfl, by rw [ht]; exact hP9, hD9⟩, hS.F ht⟩) hS.2.2 dX4_heightOn_58
