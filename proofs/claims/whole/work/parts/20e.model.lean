set_option maxHeartbeats 4000000 in
set_option maxRecDepth 100000 in
theorem c_X6_age (l : Launch) (G : tm_G) (a0 : Nat) (e0 : Nat) (e1 : Nat) (e2 : Nat) (e3 : Nat) (e4 : Nat) (e5 : Nat) (mm : Nat) (sz : Nat) (tk : Int32) (mo : Int32) (su : UInt64) (lv : UInt64) (si : UInt32) (ga : Int32) (sl : Int32) (sc : Int32) (fh : Int32) (lh : Int32) (fo : UInt64) (ee : Int32) (pn : Int32) (p1 : Int32) : Met l yX6_age wsX6_age ({ frames := 0, cells := 0, slots := 0, locals := 0 }) (va_Pc [.ref a0, .int p1] (tm_B G [tc_X6 a0 tk mo su lv si ga sl sc fh lh fo ee pn e0 e1 e2 e3 e4 e5 mm] sz)) (va_Qi (fun (r : Int32) (u : Unit) => r = f_X6_age mo p1) (fun (u : Unit) (t : State) => va_P G.1 vwCl [tc_X6 a0 tk mo su lv si ga sl sc fh lh fo ee pn e0 e1 e2 e3 e4 e5 mm] t.heap ∧ va_D (va_A [tc_X6 a0 tk mo su lv si ga sl sc fh lh fo ee pn e0 e1 e2 e3 e4 e5 mm] sz) [tc_X6 a0 tk mo su lv si ga sl sc fh lh fo ee pn e0 e1 e2 e3 e4 e5 mm]) (va_A [tc_X6 a0 tk mo su lv si ga sl sc fh lh fo ee pn e0 e1 e2 e3 e4 e5 mm] sz)) 0 0 (va_A [tc_X6 a0 tk mo su lv si ga sl sc fh lh fo ee pn e0 e1 e2 e3 e4 e5 mm] sz) := by
  refine Met.ofW (cc := cX6_age) (maxL := 2) (ret := (some .int)) (by decide) rfl ?_
  intro p e s m args below meth c s₁ B hml hv
  obtain ⟨rfl, hsz, hP, hK, hD0, hN, hV⟩ := hv
  have hx := B.exec
  have hb := B.bytes
  have hr := B.returns
  have hts := atoms_spec (ws := wsX6_age) B.pre
  have hown : s.vm.findClass RX6 = some m.cls := findClass_of_methodNamed B.named
  have hlocks := B.notSynchronized
  subst hsz
  have hiX6 : ∀ w ∈ u_ws RX6 TX6 20, w ∈ wsX6_age := fun _ h => List.mem_cons_of_mem _ (List.mem_append_right _ h)
  have hD := hD0.self (sz := s.heap.size)
  generalize hAe : va_A [tc_X6 a0 tk mo su lv si ga sl sc fh lh fo ee pn e0 e1 e2 e3 e4 e5 mm] s.heap.size = A at hD hV ⊢
  have hA : ∀ q : Nat, s.heap.size ≤ q → A q := fun q h => by rw [← hAe]; exact Or.inr h
  have hS : va_S A s.heap s.heap [] := va_S.rf
  have hl := lv_entry ([.ref a0, .int p1]) (n := 2) (Nat.le_of_ble_eq_true rfl)
  rw [lg_entry_eq]
  generalize (lg_sl ([.ref a0, .int p1]) ++ List.replicate (2 - (lg_sl ([.ref a0, .int p1])).length) Slot.unset).toArray = ls at hl ⊢
  have hl : lv_has ls 2 [(0, .ref a0), (1, .int p1)] := hl
  refine lv_aload_n hx hb dX6_age_0 rfl (lv_at hl 0 rfl) ?_
  refine va_get (D := G.1) (ci := 7) (v := .int mo) (C := RX6) (T := TX6) (N := 20) hx hb hts hiX6 hown hK hP 0 rfl rfl 1 (by decide) (hts (.fieldLink RX6 47 "TideMillModel$Mill" "moon" "I") (List.mem_of_getElem? (i := 1) rfl)) (fun _ h9 => h9) rfl dX6_age_1 ?_
  refine lv_iload_n hx hb dX6_age_4 rfl (lv_at hl 1 rfl) ?_
  refine lv_bipush (v := 48) hx hb dX6_age_5 (by decide) ?_
  refine lv_idiv hx hb dX6_age_7 (by decide) ?_
  refine lv_iadd hx hb dX6_age_8 ?_
  refine lv_bipush (v := 30) hx hb dX6_age_9 (by decide) ?_
  refine lv_irem hx hb dX6_age_11 (by decide) ?_
  have hP9 := hP.sub (ws' := [tc_X6 a0 tk mo su lv si ga sl sc fh lh fo ee pn e0 e1 e2 e3 e4 e5 mm]) [0] rfl
  have hD9 := hD.sub (ws' := [tc_X6 a0 tk mo su lv si ga sl sc fh lh fo ee pn e0 e1 e2 e3 e4 e5 mm]) [0] (by decide) rfl
  exact W.iret (v := (mo + (p1 / 48)) - (mo + (p1 / 48)) / 30 * 30) hx hb hr (fun t ht hW => ⟨⟨(mo + (p1 / 48)) - (mo + (p1 / 48)) / 30 * 30, (), rfl, by unfold f_X6_age; all_goals rfl, by rw [ht]; exact hP9, hD9⟩, hS.F ht⟩) hS.2.2 dX6_age_12
set_option maxHeartbeats 4000000 in
set_option maxRecDepth 100000 in
theorem c_X6_spring (l : Launch) (G : tm_G) (a0 : Nat) (e0 : Nat) (e1 : Nat) (e2 : Nat) (e3 : Nat) (e4 : Nat) (e5 : Nat) (mm : Nat) (sz : Nat) (tk : Int32) (mo : Int32) (su : UInt64) (lv : UInt64) (si : UInt32) (ga : Int32) (sl : Int32) (sc : Int32) (fh : Int32) (lh : Int32) (fo : UInt64) (ee : Int32) (pn : Int32) (p1 : Int32) : Met l yX6_spring wsX6_spring ({ frames := 1, cells := 0, slots := 0, locals := 24 }) (va_Pc [.ref a0, .int p1] (tm_B G [tc_X6 a0 tk mo su lv si ga sl sc fh lh fo ee pn e0 e1 e2 e3 e4 e5 mm] sz)) (va_Qi (fun (r : Int32) (u : Unit) => r = f_X6_spring mo p1) (fun (u : Unit) (t : State) => va_P G.1 vwCl [tc_X6 a0 tk mo su lv si ga sl sc fh lh fo ee pn e0 e1 e2 e3 e4 e5 mm] t.heap ∧ va_D (va_A [tc_X6 a0 tk mo su lv si ga sl sc fh lh fo ee pn e0 e1 e2 e3 e4 e5 mm] sz) [tc_X6 a0 tk mo su lv si ga sl sc fh lh fo ee pn e0 e1 e2 e3 e4 e5 mm]) (va_A [tc_X6 a0 tk mo su lv si ga sl sc fh lh fo ee pn e0 e1 e2 e3 e4 e5 mm] sz)) 0 0 (va_A [tc_X6 a0 tk mo su lv si ga sl sc fh lh fo ee pn e0 e1 e2 e3 e4 e5 mm] sz) := by
  refine Met.ofW (cc := cX6_spring) (maxL := 3) (ret := (some .int)) (by decide) rfl ?_
  intro p e s m args below meth c s₁ B hml hv
  obtain ⟨rfl, hsz, hP, hK, hD0, hN, hV⟩ := hv
  have hx := B.exec
  have hb := B.bytes
  have hr := B.returns
  have hts := atoms_spec (ws := wsX6_spring) B.pre
  have hown : s.vm.findClass RX6 = some m.cls := findClass_of_methodNamed B.named
  have hlocks := B.notSynchronized
  subst hsz
  have hD := hD0.self (sz := s.heap.size)
  generalize hAe : va_A [tc_X6 a0 tk mo su lv si ga sl sc fh lh fo ee pn e0 e1 e2 e3 e4 e5 mm] s.heap.size = A at hD hV ⊢
  have hA : ∀ q : Nat, s.heap.size ≤ q → A q := fun q h => by rw [← hAe]; exact Or.inr h
  have hS : va_S A s.heap s.heap [] := va_S.rf
  have hl := lv_entry ([.ref a0, .int p1]) (n := 3) (Nat.le_of_ble_eq_true rfl)
  rw [lg_entry_eq]
  generalize (lg_sl ([.ref a0, .int p1]) ++ List.replicate (3 - (lg_sl ([.ref a0, .int p1])).length) Slot.unset).toArray = ls at hl ⊢
  have hl : lv_has ls 3 [(0, .ref a0), (1, .int p1)] := hl
  refine lv_aload_n hx hb dX6_spring_0 rfl (lv_at hl 0 rfl) ?_
  refine lv_iload_n hx hb dX6_spring_1 rfl (lv_at hl 1 rfl) ?_
  have hPc := hP.sub (ws' := [tc_X6 a0 tk mo su lv si ga sl sc fh lh fo ee pn e0 e1 e2 e3 e4 e5 mm]) [0] rfl
  have hDc := hD.sub (ws' := [tc_X6 a0 tk mo su lv si ga sl sc fh lh fo ee pn e0 e1 e2 e3 e4 e5 mm]) [0] (by decide) rfl
  have hFc := va_free (wc := [tc_X6 a0 tk mo su lv si ga sl sc fh lh fo ee pn e0 e1 e2 e3 e4 e5 mm]) hD hS hA [0] rfl
  refine va_calli (va_runV (As := [.int p1]) (rest := []) ⟨hx, hb, hml, hown, hts⟩ (c_X6_age l G a0 e0 e1 e2 e3 e4 e5 mm s.heap.size tk mo su lv si ga sl sc fh lh fo ee pn p1 ) (cwV 1 hts gX6_spring_X6_age rfl rfl rfl (by decide +kernel) ⟨(Nat.le_of_ble_eq_true rfl), (Nat.le_of_ble_eq_true rfl)⟩) (tm_preV hK hN hV hS hPc hDc hFc (va_recv hK hPc (ci := 7) (q0 := 0) rfl rfl)) rfl rfl hl.1 rfl (lv_room (Nat.le_of_ble_eq_true rfl)) dX6_spring_2 ⟨(Nat.le_of_ble_eq_true rfl), (Nat.le_of_ble_eq_true rfl)⟩) hS (fun q _ h => hFc q h) hFc (fun r_1 u t H locs ht hvm hw_1 hB hz1 hk1 hS => ?_)
  obtain ⟨hP1, hD1⟩ := hB
  rw [ht] at hP1
  try dsimp only at hw_1
  obtain ⟨hP, hD⟩ := va_join (wr := []) (w1 := [tc_X6 a0 tk mo su lv si ga sl sc fh lh fo ee pn e0 e1 e2 e3 e4 e5 mm]) hP hD [0] [] rfl rfl (by decide) (by decide) hk1 hFc hP1 hD1
  have hP : va_P G.1 vwCl [tc_X6 a0 tk mo su lv si ga sl sc fh lh fo ee pn e0 e1 e2 e3 e4 e5 mm] H := hP
  have hD : va_D A [tc_X6 a0 tk mo su lv si ga sl sc fh lh fo ee pn e0 e1 e2 e3 e4 e5 mm] := hD
  subst r_1
  refine lv_istore_n (lv' := [(2, .int (f_X6_age mo p1)), (0, .ref a0), (1, .int p1)]) hx hb dX6_spring_5 rfl hl (by decide) rfl (fun ls hl => ?_)
  refine lv_iload_n hx hb dX6_spring_6 rfl (lv_at hl 0 rfl) ?_
  refine lv_bipush (v := 30) hx hb dX6_spring_7 (by decide) ?_
  refine lv_iload_n hx hb dX6_spring_9 rfl (lv_at hl 0 rfl) ?_
  refine lv_isub hx hb dX6_spring_10 ?_
  refine va_mmin hx hb (by rw [hml]; exact hl.1.symm) hown (hts (.methodLink RX6 87 Lib.Math.min.name) (List.mem_of_getElem? (i := 1) rfl)) (hts (.static Lib.Math.min.name) (List.mem_of_getElem? (i := 2) rfl)) (hts (.initialized "java/lang/Math") (List.mem_of_getElem? (i := 3) rfl)) (hts (.code Lib.Math.min.name Lib.Math.min.code 2 (some .int)) (List.mem_of_getElem? (i := 4) rfl)) (Nat.le_of_ble_eq_true rfl) (Nat.le_of_ble_eq_true rfl) (Nat.le_of_ble_eq_true rfl) (Nat.le_of_ble_eq_true rfl) dX6_spring_11 ?_
  refine lv_iload_n hx hb dX6_spring_14 rfl (lv_at hl 0 rfl) ?_
  refine lv_bipush (v := 15) hx hb dX6_spring_15 (by decide) ?_
  refine lv_isub hx hb dX6_spring_17 ?_
  refine va_mabs hx hb (by rw [hml]; exact hl.1.symm) hown (hts (.methodLink RX6 93 Lib.Math.abs.name) (List.mem_of_getElem? (i := 5) rfl)) (hts (.static Lib.Math.abs.name) (List.mem_of_getElem? (i := 6) rfl)) (hts (.initialized "java/lang/Math") (List.mem_of_getElem? (i := 3) rfl)) (hts (.code Lib.Math.abs.name Lib.Math.abs.code 1 (some .int)) (List.mem_of_getElem? (i := 7) rfl)) (Nat.le_of_ble_eq_true rfl) (Nat.le_of_ble_eq_true rfl) (Nat.le_of_ble_eq_true rfl) (Nat.le_of_ble_eq_true rfl) dX6_spring_18 ?_
  refine va_mmin hx hb (by rw [hml]; exact hl.1.symm) hown (hts (.methodLink RX6 87 Lib.Math.min.name) (List.mem_of_getElem? (i := 1) rfl)) (hts (.static Lib.Math.min.name) (List.mem_of_getElem? (i := 2) rfl)) (hts (.initialized "java/lang/Math") (List.mem_of_getElem? (i := 3) rfl)) (hts (.code Lib.Math.min.name Lib.Math.min.code 2 (some .int)) (List.mem_of_getElem? (i := 4) rfl)) (Nat.le_of_ble_eq_true rfl) (Nat.le_of_ble_eq_true rfl) (Nat.le_of_ble_eq_true rfl) (Nat.le_of_ble_eq_true rfl) dX6_spring_21 ?_
  have hP9 := hP.sub (ws' := [tc_X6 a0 tk mo su lv si ga sl sc fh lh fo ee pn e0 e1 e2 e3 e4 e5 mm]) [0] rfl
  have hD9 := hD.sub (ws' := [tc_X6 a0 tk mo su lv si ga sl sc fh lh fo ee pn e0 e1 e2 e3 e4 e5 mm]) [0] (by decide) rfl
  exact W.iret (v := if (if 0 ≤ ((f_X6_age mo p1) - 15) then ((f_X6_age mo p1) - 15) else 0 - ((f_X6_age mo p1) - 15)) < (if (30 - (f_X6_age mo p1)) < (f_X6_age mo p1) then (30 - (f_X6_age mo p1)) else (f_X6_age mo p1)) then (if 0 ≤ ((f_X6_age mo p1) - 15) then ((f_X6_age mo p1) - 15) else 0 - ((f_X6_age mo p1) - 15)) else (if (30 - (f_X6_age mo p1)) < (f_X6_age mo p1) then (30 - (f_X6_age mo p1)) else (f_X6_age mo p1))) hx hb hr (fun t ht hW => ⟨⟨if (if 0 ≤ ((f_X6_age mo p1) - 15) then ((f_X6_age mo p1) - 15) else 0 - ((f_X6_age mo p1) - 15)) < (if (30 - (f_X6_age mo p1)) < (f_X6_age mo p1) then (30 - (f_X6_age mo p1)) else (f_X6_age mo p1)) then (if 0 ≤ ((f_X6_age mo p1) - 15) then ((f_X6_age mo p1) - 15) else 0 - ((f_X6_age mo p1) - 15)) else (if (30 - (f_X6_age mo p1)) < (f_X6_age mo p1) then (30 - (f_X6_age mo p1)) else (f_X6_age mo p1)), (), rfl, by unfold f_X6_spring; all_goals rfl, by rw [ht]; exact hP9, hD9⟩, hS.F ht⟩) hS.2.2 dX6_spring_24
set_option maxHeartbeats 4000000 in
set_option maxRecDepth 100000 in
theorem c_X6_range (l : Launch) (G : tm_G) (a0 : Nat) (e0 : Nat) (e1 : Nat) (e2 : Nat) (e3 : Nat) (e4 : Nat) (e5 : Nat) (mm : Nat) (sz : Nat) (tk : Int32) (mo : Int32) (su : UInt64) (lv : UInt64) (si : UInt32) (ga : Int32) (sl : Int32) (sc : Int32) (fh : Int32) (lh : Int32) (fo : UInt64) (ee : Int32) (pn : Int32) (p1 : Int32) (hn : n_X6_range mo p1) : Met l yX6_range wsX6_range ({ frames := 2, cells := 0, slots := 0, locals := 46 }) (va_Pc [.ref a0, .int p1] (tm_B G [tc_X6 a0 tk mo su lv si ga sl sc fh lh fo ee pn e0 e1 e2 e3 e4 e5 mm] sz)) (va_Qd (fun (r : UInt64) (u : Unit) => r = f_X6_range mo p1) (fun (u : Unit) (t : State) => va_P G.1 vwCl [tc_X6 a0 tk mo su lv si ga sl sc fh lh fo ee pn e0 e1 e2 e3 e4 e5 mm] t.heap ∧ va_D (va_A [tc_X6 a0 tk mo su lv si ga sl sc fh lh fo ee pn e0 e1 e2 e3 e4 e5 mm] sz) [tc_X6 a0 tk mo su lv si ga sl sc fh lh fo ee pn e0 e1 e2 e3 e4 e5 mm]) (va_A [tc_X6 a0 tk mo su lv si ga sl sc fh lh fo ee pn e0 e1 e2 e3 e4 e5 mm] sz)) 0 0 (va_A [tc_X6 a0 tk mo su lv si ga sl sc fh lh fo ee pn e0 e1 e2 e3 e4 e5 mm] sz) := by
  refine Met.ofW (cc := cX6_range) (maxL := 2) (ret := (some .double)) (by decide) rfl ?_
  intro p e s m args below meth c s₁ B hml hv
  obtain ⟨rfl, hsz, hP, hK, hD0, hN, hV⟩ := hv
  have hx := B.exec
  have hb := B.bytes
  have hr := B.returns
  have hts := atoms_spec (ws := wsX6_range) B.pre
  have hown : s.vm.findClass RX6 = some m.cls := findClass_of_methodNamed B.named
  have hlocks := B.notSynchronized
  subst hsz
  obtain ⟨n_2, n_3⟩ := hn
  have hD := hD0.self (sz := s.heap.size)
  generalize hAe : va_A [tc_X6 a0 tk mo su lv si ga sl sc fh lh fo ee pn e0 e1 e2 e3 e4 e5 mm] s.heap.size = A at hD hV ⊢
  have hA : ∀ q : Nat, s.heap.size ≤ q → A q := fun q h => by rw [← hAe]; exact Or.inr h
  have hS : va_S A s.heap s.heap [] := va_S.rf
  have hl := lv_entry ([.ref a0, .int p1]) (n := 2) (Nat.le_of_ble_eq_true rfl)
  rw [lg_entry_eq]
  generalize (lg_sl ([.ref a0, .int p1]) ++ List.replicate (2 - (lg_sl ([.ref a0, .int p1])).length) Slot.unset).toArray = ls at hl ⊢
  have hl : lv_has ls 2 [(0, .ref a0), (1, .int p1)] := hl
  refine lv_ldc2d hx hb hown (hts (.constantDouble RX6 96 (4616189618054758400)) (List.mem_of_getElem? (i := 1) rfl)) dX6_range_0 ?_
  refine lv_ldc2d hx hb hown (hts (.constantDouble RX6 98 (4598175219545276416)) (List.mem_of_getElem? (i := 2) rfl)) dX6_range_3 ?_
  refine lv_aload_n hx hb dX6_range_6 rfl (lv_at hl 0 rfl) ?_
  refine lv_iload_n hx hb dX6_range_7 rfl (lv_at hl 1 rfl) ?_
  have hPc := hP.sub (ws' := [tc_X6 a0 tk mo su lv si ga sl sc fh lh fo ee pn e0 e1 e2 e3 e4 e5 mm]) [0] rfl
  have hDc := hD.sub (ws' := [tc_X6 a0 tk mo su lv si ga sl sc fh lh fo ee pn e0 e1 e2 e3 e4 e5 mm]) [0] (by decide) rfl
  have hFc := va_free (wc := [tc_X6 a0 tk mo su lv si ga sl sc fh lh fo ee pn e0 e1 e2 e3 e4 e5 mm]) hD hS hA [0] rfl
  refine va_calli (va_runV (As := [.int p1]) (rest := [.double 4598175219545276416, .double 4616189618054758400]) ⟨hx, hb, hml, hown, hts⟩ (c_X6_spring l G a0 e0 e1 e2 e3 e4 e5 mm s.heap.size tk mo su lv si ga sl sc fh lh fo ee pn p1 ) (cwV 1 hts gX6_range_X6_spring rfl rfl rfl (by decide +kernel) ⟨(Nat.le_of_ble_eq_true rfl), (Nat.le_of_ble_eq_true rfl)⟩) (tm_preV hK hN hV hS hPc hDc hFc (va_recv hK hPc (ci := 7) (q0 := 0) rfl rfl)) rfl rfl hl.1 rfl (lv_room (Nat.le_of_ble_eq_true rfl)) dX6_range_8 ⟨(Nat.le_of_ble_eq_true rfl), (Nat.le_of_ble_eq_true rfl)⟩) hS (fun q _ h => hFc q h) hFc (fun r_1 u t H locs ht hvm hw_1 hB hz1 hk1 hS => ?_)
  obtain ⟨hP1, hD1⟩ := hB
  rw [ht] at hP1
  try dsimp only at hw_1
  obtain ⟨hP, hD⟩ := va_join (wr := []) (w1 := [tc_X6 a0 tk mo su lv si ga sl sc fh lh fo ee pn e0 e1 e2 e3 e4 e5 mm]) hP hD [0] [] rfl rfl (by decide) (by decide) hk1 hFc hP1 hD1
  have hP : va_P G.1 vwCl [tc_X6 a0 tk mo su lv si ga sl sc fh lh fo ee pn e0 e1 e2 e3 e4 e5 mm] H := hP
  have hD : va_D A [tc_X6 a0 tk mo su lv si ga sl sc fh lh fo ee pn e0 e1 e2 e3 e4 e5 mm] := hD
  subst r_1
  refine lv_i2d hx hb dX6_range_11 ?_
  refine lv_dmul hx hb dX6_range_12 n_2 ?_
  refine lv_dsub hx hb dX6_range_13 n_3 ?_
  have hP9 := hP.sub (ws' := [tc_X6 a0 tk mo su lv si ga sl sc fh lh fo ee pn e0 e1 e2 e3 e4 e5 mm]) [0] rfl
  have hD9 := hD.sub (ws' := [tc_X6 a0 tk mo su lv si ga sl sc fh lh fo ee pn e0 e1 e2 e3 e4 e5 mm]) [0] (by decide) rfl
  exact W.dret (v := FP.dsub 4616189618054758400 (FP.dmul 4598175219545276416 (FP.i2d (f_X6_spring mo p1)))) hx hb hr (fun t ht hW => ⟨⟨FP.dsub 4616189618054758400 (FP.dmul 4598175219545276416 (FP.i2d (f_X6_spring mo p1))), (), rfl, by unfold f_X6_range; all_goals rfl, by rw [ht]; exact hP9, hD9⟩, hS.F ht⟩) hS.2.2 dX6_range_14
set_option maxHeartbeats 4000000 in
set_option maxRecDepth 100000 in
theorem c_X6_sea (l : Launch) (G : tm_G) (a0 : Nat) (e0 : Nat) (e1 : Nat) (e2 : Nat) (e3 : Nat) (e4 : Nat) (e5 : Nat) (mm : Nat) (sz : Nat) (tk : Int32) (mo : Int32) (su : UInt64) (lv : UInt64) (si : UInt32) (ga : Int32) (sl : Int32) (sc : Int32) (fh : Int32) (lh : Int32) (fo : UInt64) (ee : Int32) (pn : Int32) (p1 : Int32) (hn : n_X6_sea mo su p1) : Met l yX6_sea wsX6_sea ({ frames := 3, cells := 0, slots := 0, locals := 67 }) (va_Pc [.ref a0, .int p1] (tm_B G [tc_X6 a0 tk mo su lv si ga sl sc fh lh fo ee pn e0 e1 e2 e3 e4 e5 mm] sz)) (va_Qd (fun (r : UInt64) (u : Unit) => r = f_X6_sea mo su p1) (fun (u : Unit) (t : State) => va_P G.1 vwCl [tc_X6 a0 tk mo su lv si ga sl sc fh lh fo ee pn e0 e1 e2 e3 e4 e5 mm] t.heap ∧ va_D (va_A [tc_X6 a0 tk mo su lv si ga sl sc fh lh fo ee pn e0 e1 e2 e3 e4 e5 mm] sz) [tc_X6 a0 tk mo su lv si ga sl sc fh lh fo ee pn e0 e1 e2 e3 e4 e5 mm]) (va_A [tc_X6 a0 tk mo su lv si ga sl sc fh lh fo ee pn e0 e1 e2 e3 e4 e5 mm] sz)) 0 0 (va_A [tc_X6 a0 tk mo su lv si ga sl sc fh lh fo ee pn e0 e1 e2 e3 e4 e5 mm] sz) := by
  refine Met.ofW (cc := cX6_sea) (maxL := 8) (ret := (some .double)) (by decide) rfl ?_
  intro p e s m args below meth c s₁ B hml hv
  obtain ⟨rfl, hsz, hP, hK, hD0, hN, hV⟩ := hv
  have hx := B.exec
  have hb := B.bytes
  have hr := B.returns
  have hts := atoms_spec (ws := wsX6_sea) B.pre
  have hown : s.vm.findClass RX6 = some m.cls := findClass_of_methodNamed B.named
  have hlocks := B.notSynchronized
  subst hsz
  obtain ⟨n_1, n_3, n_4, n_5, n_7, n_8, n_9, n_10, n_11, n_12, n_14, n_15, n_16, n_17⟩ := hn
  have hiX6 : ∀ w ∈ u_ws RX6 TX6 20, w ∈ wsX6_sea := fun _ h => List.mem_cons_of_mem _ (List.mem_append_right _ h)
  have hD := hD0.self (sz := s.heap.size)
  generalize hAe : va_A [tc_X6 a0 tk mo su lv si ga sl sc fh lh fo ee pn e0 e1 e2 e3 e4 e5 mm] s.heap.size = A at hD hV ⊢
  have hA : ∀ q : Nat, s.heap.size ≤ q → A q := fun q h => by rw [← hAe]; exact Or.inr h
  have hS : va_S A s.heap s.heap [] := va_S.rf
  have hl := lv_entry ([.ref a0, .int p1]) (n := 8) (Nat.le_of_ble_eq_true rfl)
  rw [lg_entry_eq]
  generalize (lg_sl ([.ref a0, .int p1]) ++ List.replicate (8 - (lg_sl ([.ref a0, .int p1])).length) Slot.unset).toArray = ls at hl ⊢
  have hl : lv_has ls 8 [(0, .ref a0), (1, .int p1)] := hl
  refine lv_iload_n hx hb dX6_sea_0 rfl (lv_at hl 1 rfl) ?_
  refine lv_i2d hx hb dX6_sea_1 ?_
  refine lv_ldc2d hx hb hown (hts (.constantDouble RX6 103 (4627659723355717632)) (List.mem_of_getElem? (i := 1) rfl)) dX6_sea_2 ?_
  refine lv_drem hx hb dX6_sea_5 n_1 ?_
  refine lv_dstore_n (lv' := [(2, .double (FP.drem (FP.i2d p1) 4627659723355717632)), (0, .ref a0), (1, .int p1)]) hx hb dX6_sea_6 rfl hl (by decide) rfl (fun ls hl => ?_)
  refine lv_dload_n hx hb dX6_sea_7 rfl (lv_at hl 0 rfl) ?_
  refine lv_ldc2d hx hb hown (hts (.constantDouble RX6 105 (4622945017495814144)) (List.mem_of_getElem? (i := 2) rfl)) dX6_sea_8 ?_
  refine lv_dcmp hx hb dX6_sea_11 ?_
  refine lv_if_ge (tgt := 23) hx hb dX6_sea_12 (by decide) (fun c_2 => ?_) (fun c_2 => ?_)
  · refine lv_ldc2d hx hb hown (hts (.constantDouble RX6 103 (4627659723355717632)) (List.mem_of_getElem? (i := 1) rfl)) dX6_sea_23 ?_
    refine lv_dload_n hx hb dX6_sea_26 rfl (lv_at hl 0 rfl) ?_
    refine lv_dsub hx hb dX6_sea_27 (n_3 c_2) ?_
    refine lv_ldc2d hx hb hown (hts (.constantDouble RX6 107 (4623367229960880128)) (List.mem_of_getElem? (i := 3) rfl)) dX6_sea_28 ?_
    refine lv_ddiv hx hb dX6_sea_31 (n_4 c_2) ?_
    refine lv_dstore (lv' := [(4, .double (FP.ddiv (FP.dsub 4627659723355717632 (FP.drem (FP.i2d p1) 4627659723355717632)) 4623367229960880128)), (2, .double (FP.drem (FP.i2d p1) 4627659723355717632)), (0, .ref a0), (1, .int p1)]) hx hb dX6_sea_32 hl (by decide) rfl (fun ls hl => ?_)
    refine lv_aload_n hx hb dX6_sea_34 rfl (lv_at hl 2 rfl) ?_
    refine lv_iload_n hx hb dX6_sea_35 rfl (lv_at hl 3 rfl) ?_
    have hPc := hP.sub (ws' := [tc_X6 a0 tk mo su lv si ga sl sc fh lh fo ee pn e0 e1 e2 e3 e4 e5 mm]) [0] rfl
    have hDc := hD.sub (ws' := [tc_X6 a0 tk mo su lv si ga sl sc fh lh fo ee pn e0 e1 e2 e3 e4 e5 mm]) [0] (by decide) rfl
    have hFc := va_free (wc := [tc_X6 a0 tk mo su lv si ga sl sc fh lh fo ee pn e0 e1 e2 e3 e4 e5 mm]) hD hS hA [0] rfl
    refine va_calld (va_runV (As := [.int p1]) (rest := []) ⟨hx, hb, hml, hown, hts⟩ (c_X6_range l G a0 e0 e1 e2 e3 e4 e5 mm s.heap.size tk mo su lv si ga sl sc fh lh fo ee pn p1 (n_5 c_2)) (cwV 1 hts gX6_sea_X6_range rfl rfl rfl (by decide +kernel) ⟨(Nat.le_of_ble_eq_true rfl), (Nat.le_of_ble_eq_true rfl)⟩) (tm_preV hK hN hV hS hPc hDc hFc (va_recv hK hPc (ci := 7) (q0 := 0) rfl rfl)) rfl rfl hl.1 rfl (lv_room (Nat.le_of_ble_eq_true rfl)) dX6_sea_36 ⟨(Nat.le_of_ble_eq_true rfl), (Nat.le_of_ble_eq_true rfl)⟩) hS (fun q _ h => hFc q h) hFc (fun r_6 u t H locs ht hvm hw_6 hB hz1 hk1 hS => ?_)
    obtain ⟨hP1, hD1⟩ := hB
    rw [ht] at hP1
    try dsimp only at hw_6
    obtain ⟨hP, hD⟩ := va_join (wr := []) (w1 := [tc_X6 a0 tk mo su lv si ga sl sc fh lh fo ee pn e0 e1 e2 e3 e4 e5 mm]) hP hD [0] [] rfl rfl (by decide) (by decide) hk1 hFc hP1 hD1
    have hP : va_P G.1 vwCl [tc_X6 a0 tk mo su lv si ga sl sc fh lh fo ee pn e0 e1 e2 e3 e4 e5 mm] H := hP
    have hD : va_D A [tc_X6 a0 tk mo su lv si ga sl sc fh lh fo ee pn e0 e1 e2 e3 e4 e5 mm] := hD
    subst r_6
    refine lv_dstore (lv' := [(6, .double (f_X6_range mo p1)), (4, .double (FP.ddiv (FP.dsub 4627659723355717632 (FP.drem (FP.i2d p1) 4627659723355717632)) 4623367229960880128)), (2, .double (FP.drem (FP.i2d p1) 4627659723355717632)), (0, .ref a0), (1, .int p1)]) hx hb dX6_sea_39 hl (by decide) rfl (fun ls hl => ?_)
    refine lv_aload_n hx hb dX6_sea_41 rfl (lv_at hl 3 rfl) ?_
    refine va_get (D := G.1) (ci := 7) (v := .double su) (C := RX6) (T := TX6) (N := 20) hx hb hts hiX6 hown hK hP 0 rfl rfl 2 (by decide) (hts (.fieldLink RX6 50 "TideMillModel$Mill" "surge" "D") (List.mem_of_getElem? (i := 4) rfl)) (fun _ h9 => h9) rfl dX6_sea_42 ?_
    refine lv_dload hx hb dX6_sea_45 (lv_at hl 0 rfl) ?_
    refine lv_dload hx hb dX6_sea_47 (lv_at hl 1 rfl) ?_
    refine lv_dmul hx hb dX6_sea_49 (n_7 c_2) ?_
    refine lv_dadd hx hb dX6_sea_50 (n_8 c_2) ?_
    refine lv_dload hx hb dX6_sea_51 (lv_at hl 0 rfl) ?_
    refine lv_ldc2d hx hb hown (hts (.constantDouble RX6 113 (4602678819172646912)) (List.mem_of_getElem? (i := 5) rfl)) dX6_sea_53 ?_
    refine lv_dmul hx hb dX6_sea_56 (n_9 c_2) ?_
    refine lv_dsub hx hb dX6_sea_57 (n_10 c_2) ?_
    have hP9 := hP.sub (ws' := [tc_X6 a0 tk mo su lv si ga sl sc fh lh fo ee pn e0 e1 e2 e3 e4 e5 mm]) [0] rfl
    have hD9 := hD.sub (ws' := [tc_X6 a0 tk mo su lv si ga sl sc fh lh fo ee pn e0 e1 e2 e3 e4 e5 mm]) [0] (by decide) rfl
    exact W.dret (v := FP.dsub (FP.dadd su (FP.dmul (f_X6_range mo p1) (FP.ddiv (FP.dsub 4627659723355717632 (FP.drem (FP.i2d p1) 4627659723355717632)) 4623367229960880128))) (FP.dmul (f_X6_range mo p1) 4602678819172646912)) hx hb hr (fun t ht hW => ⟨⟨FP.dsub (FP.dadd su (FP.dmul (f_X6_range mo p1) (FP.ddiv (FP.dsub 4627659723355717632 (FP.drem (FP.i2d p1) 4627659723355717632)) 4623367229960880128))) (FP.dmul (f_X6_range mo p1) 4602678819172646912), (), rfl, by unfold f_X6_sea; all_goals (rw [if_pos c_2]); all_goals rfl, by rw [ht]; exact hP9, hD9⟩, hS.F ht⟩) hS.2.2 dX6_sea_58
  · refine lv_dload_n hx hb dX6_sea_15 rfl (lv_at hl 0 rfl) ?_
    refine lv_ldc2d hx hb hown (hts (.constantDouble RX6 105 (4622945017495814144)) (List.mem_of_getElem? (i := 2) rfl)) dX6_sea_16 ?_
    refine lv_ddiv hx hb dX6_sea_19 (n_11 c_2) ?_
    refine lv_goto (tgt := 32) hx hb dX6_sea_20 (by decide) ?_
    refine lv_dstore (lv' := [(4, .double (FP.ddiv (FP.drem (FP.i2d p1) 4627659723355717632) 4622945017495814144)), (2, .double (FP.drem (FP.i2d p1) 4627659723355717632)), (0, .ref a0), (1, .int p1)]) hx hb dX6_sea_32 hl (by decide) rfl (fun ls hl => ?_)
    refine lv_aload_n hx hb dX6_sea_34 rfl (lv_at hl 2 rfl) ?_
    refine lv_iload_n hx hb dX6_sea_35 rfl (lv_at hl 3 rfl) ?_
    have hPc := hP.sub (ws' := [tc_X6 a0 tk mo su lv si ga sl sc fh lh fo ee pn e0 e1 e2 e3 e4 e5 mm]) [0] rfl
    have hDc := hD.sub (ws' := [tc_X6 a0 tk mo su lv si ga sl sc fh lh fo ee pn e0 e1 e2 e3 e4 e5 mm]) [0] (by decide) rfl
    have hFc := va_free (wc := [tc_X6 a0 tk mo su lv si ga sl sc fh lh fo ee pn e0 e1 e2 e3 e4 e5 mm]) hD hS hA [0] rfl
    refine va_calld (va_runV (As := [.int p1]) (rest := []) ⟨hx, hb, hml, hown, hts⟩ (c_X6_range l G a0 e0 e1 e2 e3 e4 e5 mm s.heap.size tk mo su lv si ga sl sc fh lh fo ee pn p1 (n_12 c_2)) (cwV 1 hts gX6_sea_X6_range rfl rfl rfl (by decide +kernel) ⟨(Nat.le_of_ble_eq_true rfl), (Nat.le_of_ble_eq_true rfl)⟩) (tm_preV hK hN hV hS hPc hDc hFc (va_recv hK hPc (ci := 7) (q0 := 0) rfl rfl)) rfl rfl hl.1 rfl (lv_room (Nat.le_of_ble_eq_true rfl)) dX6_sea_36 ⟨(Nat.le_of_ble_eq_true rfl), (Nat.le_of_ble_eq_true rfl)⟩) hS (fun q _ h => hFc q h) hFc (fun r_13 u t H locs ht hvm hw_13 hB hz1 hk1 hS => ?_)
    obtain ⟨hP1, hD1⟩ := hB
    rw [ht] at hP1
    try dsimp only at hw_13
    obtain ⟨hP, hD⟩ := va_join (wr := []) (w1 := [tc_X6 a0 tk mo su lv si ga sl sc fh lh fo ee pn e0 e1 e2 e3 e4 e5 mm]) hP hD [0] [] rfl rfl (by decide) (by decide) hk1 hFc hP1 hD1
    have hP : va_P G.1 vwCl [tc_X6 a0 tk mo su lv si ga sl sc fh lh fo ee pn e0 e1 e2 e3 e4 e5 mm] H := hP
    have hD : va_D A [tc_X6 a0 tk mo su lv si ga sl sc fh lh fo ee pn e0 e1 e2 e3 e4 e5 mm] := hD
    subst r_13
    refine lv_dstore (lv' := [(6, .double (f_X6_range mo p1)), (4, .double (FP.ddiv (FP.drem (FP.i2d p1) 4627659723355717632) 4622945017495814144)), (2, .double (FP.drem (FP.i2d p1) 4627659723355717632)), (0, .ref a0), (1, .int p1)]) hx hb dX6_sea_39 hl (by decide) rfl (fun ls hl => ?_)
    refine lv_aload_n hx hb dX6_sea_41 rfl (lv_at hl 3 rfl) ?_
    refine va_get (D := G.1) (ci := 7) (v := .double su) (C := RX6) (T := TX6) (N := 20) hx hb hts hiX6 hown hK hP 0 rfl rfl 2 (by decide) (hts (.fieldLink RX6 50 "TideMillModel$Mill" "surge" "D") (List.mem_of_getElem? (i := 4) rfl)) (fun _ h9 => h9) rfl dX6_sea_42 ?_
    refine lv_dload hx hb dX6_sea_45 (lv_at hl 0 rfl) ?_
    refine lv_dload hx hb dX6_sea_47 (lv_at hl 1 rfl) ?_
    refine lv_dmul hx hb dX6_sea_49 (n_14 c_2) ?_
    refine lv_dadd hx hb dX6_sea_50 (n_15 c_2) ?_
    refine lv_dload hx hb dX6_sea_51 (lv_at hl 0 rfl) ?_
    refine lv_ldc2d hx hb hown (hts (.constantDouble RX6 113 (4602678819172646912)) (List.mem_of_getElem? (i := 5) rfl)) dX6_sea_53 ?_
    refine lv_dmul hx hb dX6_sea_56 (n_16 c_2) ?_
    refine lv_dsub hx hb dX6_sea_57 (n_17 c_2) ?_
    have hP9 := hP.sub (ws' := [tc_X6 a0 tk mo su lv si ga sl sc fh lh fo ee pn e0 e1 e2 e3 e4 e5 mm]) [0] rfl
    have hD9 := hD.sub (ws' := [tc_X6 a0 tk mo su lv si ga sl sc fh lh fo ee pn e0 e1 e2 e3 e4 e5 mm]) [0] (by decide) rfl
    exact W.dret (v := FP.dsub (FP.dadd su (FP.dmul (f_X6_range mo p1) (FP.ddiv (FP.drem (FP.i2d p1) 4627659723355717632) 4622945017495814144))) (FP.dmul (f_X6_range mo p1) 4602678819172646912)) hx hb hr (fun t ht hW => ⟨⟨FP.dsub (FP.dadd su (FP.dmul (f_X6_range mo p1) (FP.ddiv (FP.drem (FP.i2d p1) 4627659723355717632) 4622945017495814144))) (FP.dmul (f_X6_range mo p1) 4602678819172646912), (), rfl, by unfold f_X6_sea; all_goals (rw [if_neg c_2]); all_goals rfl, by rw [ht]; exact hP9, hD9⟩, hS.F ht⟩) hS.2.2 dX6_sea_58
set_option maxHeartbeats 4000000 in
set_option maxRecDepth 100000 in
theorem c_X6_area (l : Launch) (G : tm_G) (a0 : Nat) (e0 : Nat) (e1 : Nat) (e2 : Nat) (e3 : Nat) (e4 : Nat) (e5 : Nat) (mm : Nat) (sz : Nat) (tk : Int32) (mo : Int32) (su : UInt64) (lv : UInt64) (si : UInt32) (ga : Int32) (sl : Int32) (sc : Int32) (fh : Int32) (lh : Int32) (fo : UInt64) (ee : Int32) (pn : Int32) (hn : n_X6_area si) : Met l yX6_area wsX6_area ({ frames := 0, cells := 0, slots := 0, locals := 0 }) (va_Pc [.ref a0] (tm_B G [tc_X6 a0 tk mo su lv si ga sl sc fh lh fo ee pn e0 e1 e2 e3 e4 e5 mm] sz)) (va_Qd (fun (r : UInt64) (u : Unit) => r = f_X6_area si) (fun (u : Unit) (t : State) => va_P G.1 vwCl [tc_X6 a0 tk mo su lv si ga sl sc fh lh fo ee pn e0 e1 e2 e3 e4 e5 mm] t.heap ∧ va_D (va_A [tc_X6 a0 tk mo su lv si ga sl sc fh lh fo ee pn e0 e1 e2 e3 e4 e5 mm] sz) [tc_X6 a0 tk mo su lv si ga sl sc fh lh fo ee pn e0 e1 e2 e3 e4 e5 mm]) (va_A [tc_X6 a0 tk mo su lv si ga sl sc fh lh fo ee pn e0 e1 e2 e3 e4 e5 mm] sz)) 0 0 (va_A [tc_X6 a0 tk mo su lv si ga sl sc fh lh fo ee pn e0 e1 e2 e3 e4 e5 mm] sz) := by
  refine Met.ofW (cc := cX6_area) (maxL := 1) (ret := (some .double)) (by decide) rfl ?_
  intro p e s m args below meth c s₁ B hml hv
  obtain ⟨rfl, hsz, hP, hK, hD0, hN, hV⟩ := hv
  have hx := B.exec
  have hb := B.bytes
  have hr := B.returns
  have hts := atoms_spec (ws := wsX6_area) B.pre
  have hown : s.vm.findClass RX6 = some m.cls := findClass_of_methodNamed B.named
  have hlocks := B.notSynchronized
  subst hsz
  obtain ⟨n_1, n_2⟩ := hn
  have hiX6 : ∀ w ∈ u_ws RX6 TX6 20, w ∈ wsX6_area := fun _ h => List.mem_cons_of_mem _ (List.mem_append_right _ h)
  have hD := hD0.self (sz := s.heap.size)
  generalize hAe : va_A [tc_X6 a0 tk mo su lv si ga sl sc fh lh fo ee pn e0 e1 e2 e3 e4 e5 mm] s.heap.size = A at hD hV ⊢
  have hA : ∀ q : Nat, s.heap.size ≤ q → A q := fun q h => by rw [← hAe]; exact Or.inr h
  have hS : va_S A s.heap s.heap [] := va_S.rf
  have hl := lv_entry ([.ref a0]) (n := 1) (Nat.le_of_ble_eq_true rfl)
  rw [lg_entry_eq]
  generalize (lg_sl ([.ref a0]) ++ List.replicate (1 - (lg_sl ([.ref a0])).length) Slot.unset).toArray = ls at hl ⊢
  have hl : lv_has ls 1 [(0, .ref a0)] := hl
  refine lv_ldc2d hx hb hown (hts (.constantDouble RX6 115 (4620693217682128896)) (List.mem_of_getElem? (i := 1) rfl)) dX6_area_0 ?_
  refine lv_aload_n hx hb dX6_area_3 rfl (lv_at hl 0 rfl) ?_
  refine va_get (D := G.1) (ci := 7) (v := .float si) (C := RX6) (T := TX6) (N := 20) hx hb hts hiX6 hown hK hP 0 rfl rfl 4 (by decide) (hts (.fieldLink RX6 57 "TideMillModel$Mill" "silt" "F") (List.mem_of_getElem? (i := 2) rfl)) (fun _ h9 => h9) rfl dX6_area_4 ?_
  refine lv_f2d hx hb dX6_area_7 n_1 ?_
  refine lv_dsub hx hb dX6_area_8 n_2 ?_
  have hP9 := hP.sub (ws' := [tc_X6 a0 tk mo su lv si ga sl sc fh lh fo ee pn e0 e1 e2 e3 e4 e5 mm]) [0] rfl
  have hD9 := hD.sub (ws' := [tc_X6 a0 tk mo su lv si ga sl sc fh lh fo ee pn e0 e1 e2 e3 e4 e5 mm]) [0] (by decide) rfl
  exact W.dret (v := FP.dsub 4620693217682128896 (FP.f2d si)) hx hb hr (fun t ht hW => ⟨⟨FP.dsub 4620693217682128896 (FP.f2d si), (), rfl, by unfold f_X6_area; all_goals rfl, by rw [ht]; exact hP9, hD9⟩, hS.F ht⟩) hS.2.2 dX6_area_9
set_option maxHeartbeats 4000000 in
set_option maxRecDepth 100000 in
theorem c_X6_isAwake (l : Launch) (G : tm_G) (a0 : Nat) (e0 : Nat) (e1 : Nat) (e2 : Nat) (e3 : Nat) (e4 : Nat) (e5 : Nat) (mm : Nat) (sz : Nat) (tk : Int32) (mo : Int32) (su : UInt64) (lv : UInt64) (si : UInt32) (ga : Int32) (sl : Int32) (sc : Int32) (fh : Int32) (lh : Int32) (fo : UInt64) (ee : Int32) (pn : Int32) : Met l yX6_isAwake wsX6_isAwake ({ frames := 0, cells := 0, slots := 0, locals := 0 }) (va_Pc [.ref a0] (tm_B G [tc_X6 a0 tk mo su lv si ga sl sc fh lh fo ee pn e0 e1 e2 e3 e4 e5 mm] sz)) (va_Qi (fun (r : Int32) (u : Unit) => r = f_X6_isAwake tk fh lh) (fun (u : Unit) (t : State) => va_P G.1 vwCl [tc_X6 a0 tk mo su lv si ga sl sc fh lh fo ee pn e0 e1 e2 e3 e4 e5 mm] t.heap ∧ va_D (va_A [tc_X6 a0 tk mo su lv si ga sl sc fh lh fo ee pn e0 e1 e2 e3 e4 e5 mm] sz) [tc_X6 a0 tk mo su lv si ga sl sc fh lh fo ee pn e0 e1 e2 e3 e4 e5 mm]) (va_A [tc_X6 a0 tk mo su lv si ga sl sc fh lh fo ee pn e0 e1 e2 e3 e4 e5 mm] sz)) 0 0 (va_A [tc_X6 a0 tk mo su lv si ga sl sc fh lh fo ee pn e0 e1 e2 e3 e4 e5 mm] sz) := by
  refine Met.ofW (cc := cX6_isAwake) (maxL := 2) (ret := (some .boolean)) (by decide) rfl ?_
  intro p e s m args below meth c s₁ B hml hv
  obtain ⟨rfl, hsz, hP, hK, hD0, hN, hV⟩ := hv
  have hx := B.exec
  have hb := B.bytes
  have hr := B.returns
  have hts := atoms_spec (ws := wsX6_isAwake) B.pre
  have hown : s.vm.findClass RX6 = some m.cls := findClass_of_methodNamed B.named
  have hlocks := B.notSynchronized
  subst hsz
  have hiX6 : ∀ w ∈ u_ws RX6 TX6 20, w ∈ wsX6_isAwake := fun _ h => List.mem_cons_of_mem _ (List.mem_append_right _ h)
  have hD := hD0.self (sz := s.heap.size)
  generalize hAe : va_A [tc_X6 a0 tk mo su lv si ga sl sc fh lh fo ee pn e0 e1 e2 e3 e4 e5 mm] s.heap.size = A at hD hV ⊢
  have hA : ∀ q : Nat, s.heap.size ≤ q → A q := fun q h => by rw [← hAe]; exact Or.inr h
  have hS : va_S A s.heap s.heap [] := va_S.rf
  have hl := lv_entry ([.ref a0]) (n := 2) (Nat.le_of_ble_eq_true rfl)
  rw [lg_entry_eq]
  generalize (lg_sl ([.ref a0]) ++ List.replicate (2 - (lg_sl ([.ref a0])).length) Slot.unset).toArray = ls at hl ⊢
  have hl : lv_has ls 2 [(0, .ref a0)] := hl
  refine lv_aload_n hx hb dX6_isAwake_0 rfl (lv_at hl 0 rfl) ?_
  refine va_get (D := G.1) (ci := 7) (v := .int tk) (C := RX6) (T := TX6) (N := 20) hx hb hts hiX6 hown hK hP 0 rfl rfl 0 (by decide) (hts (.fieldLink RX6 44 "TideMillModel$Mill" "tick" "I") (List.mem_of_getElem? (i := 1) rfl)) (fun _ h9 => h9) rfl dX6_isAwake_1 ?_
  refine lv_bipush (v := 48) hx hb dX6_isAwake_4 (by decide) ?_
  refine lv_irem hx hb dX6_isAwake_6 (by decide) ?_
  refine lv_istore_n (lv' := [(1, .int (tk - tk / 48 * 48)), (0, .ref a0)]) hx hb dX6_isAwake_7 rfl hl (by decide) rfl (fun ls hl => ?_)
  refine lv_aload_n hx hb dX6_isAwake_8 rfl (lv_at hl 1 rfl) ?_
  refine va_get (D := G.1) (ci := 7) (v := .int fh) (C := RX6) (T := TX6) (N := 20) hx hb hts hiX6 hown hK hP 0 rfl rfl 8 (by decide) (hts (.fieldLink RX6 71 "TideMillModel$Mill" "from" "I") (List.mem_of_getElem? (i := 2) rfl)) (fun _ h9 => h9) rfl dX6_isAwake_9 ?_
  refine lv_aload_n hx hb dX6_isAwake_12 rfl (lv_at hl 1 rfl) ?_
  refine va_get (D := G.1) (ci := 7) (v := .int lh) (C := RX6) (T := TX6) (N := 20) hx hb hts hiX6 hown hK hP 0 rfl rfl 9 (by decide) (hts (.fieldLink RX6 15 "TideMillModel$Mill" "to" "I") (List.mem_of_getElem? (i := 3) rfl)) (fun _ h9 => h9) rfl dX6_isAwake_13 ?_
  refine lv_icmp_gt (tgt := 43) hx hb dX6_isAwake_16 (by decide) (fun c_1 => ?_) (fun c_1 => ?_)
  · refine lv_iload_n hx hb dX6_isAwake_43 rfl (lv_at hl 0 rfl) ?_
    refine lv_aload_n hx hb dX6_isAwake_44 rfl (lv_at hl 1 rfl) ?_
    refine va_get (D := G.1) (ci := 7) (v := .int fh) (C := RX6) (T := TX6) (N := 20) hx hb hts hiX6 hown hK hP 0 rfl rfl 8 (by decide) (hts (.fieldLink RX6 71 "TideMillModel$Mill" "from" "I") (List.mem_of_getElem? (i := 2) rfl)) (fun _ h9 => h9) rfl dX6_isAwake_45 ?_
    refine lv_icmp_ge (tgt := 59) hx hb dX6_isAwake_48 (by decide) (fun c_2 => ?_) (fun c_2 => ?_)
    · refine lv_iconst (v := 1) hx hb dX6_isAwake_59 (by decide) ?_
      refine lv_goto (tgt := 64) hx hb dX6_isAwake_60 (by decide) ?_
      have hP9 := hP.sub (ws' := [tc_X6 a0 tk mo su lv si ga sl sc fh lh fo ee pn e0 e1 e2 e3 e4 e5 mm]) [0] rfl
      have hD9 := hD.sub (ws' := [tc_X6 a0 tk mo su lv si ga sl sc fh lh fo ee pn e0 e1 e2 e3 e4 e5 mm]) [0] (by decide) rfl
      exact W.zret (v := 1) hx hb hr rfl (fun t ht hW => ⟨⟨1, (), rfl, by unfold f_X6_isAwake; all_goals (rw [if_pos c_1]); all_goals (rw [if_pos c_2]); all_goals rfl, by rw [ht]; exact hP9, hD9⟩, hS.F ht⟩) hS.2.2 dX6_isAwake_64
    · refine lv_iload_n hx hb dX6_isAwake_51 rfl (lv_at hl 0 rfl) ?_
      refine lv_aload_n hx hb dX6_isAwake_52 rfl (lv_at hl 1 rfl) ?_
      refine va_get (D := G.1) (ci := 7) (v := .int lh) (C := RX6) (T := TX6) (N := 20) hx hb hts hiX6 hown hK hP 0 rfl rfl 9 (by decide) (hts (.fieldLink RX6 15 "TideMillModel$Mill" "to" "I") (List.mem_of_getElem? (i := 3) rfl)) (fun _ h9 => h9) rfl dX6_isAwake_53 ?_
      refine lv_icmp_gt (tgt := 63) hx hb dX6_isAwake_56 (by decide) (fun c_3 => ?_) (fun c_3 => ?_)
      · refine lv_iconst (v := 0) hx hb dX6_isAwake_63 (by decide) ?_
        have hP9 := hP.sub (ws' := [tc_X6 a0 tk mo su lv si ga sl sc fh lh fo ee pn e0 e1 e2 e3 e4 e5 mm]) [0] rfl
        have hD9 := hD.sub (ws' := [tc_X6 a0 tk mo su lv si ga sl sc fh lh fo ee pn e0 e1 e2 e3 e4 e5 mm]) [0] (by decide) rfl
        exact W.zret (v := 0) hx hb hr rfl (fun t ht hW => ⟨⟨0, (), rfl, by unfold f_X6_isAwake; all_goals (rw [if_pos c_1]); all_goals (rw [if_neg c_2]); all_goals (rw [if_pos c_3]); all_goals rfl, by rw [ht]; exact hP9, hD9⟩, hS.F ht⟩) hS.2.2 dX6_isAwake_64
      · refine lv_iconst (v := 1) hx hb dX6_isAwake_59 (by decide) ?_
        refine lv_goto (tgt := 64) hx hb dX6_isAwake_60 (by decide) ?_
        have hP9 := hP.sub (ws' := [tc_X6 a0 tk mo su lv si ga sl sc fh lh fo ee pn e0 e1 e2 e3 e4 e5 mm]) [0] rfl
        have hD9 := hD.sub (ws' := [tc_X6 a0 tk mo su lv si ga sl sc fh lh fo ee pn e0 e1 e2 e3 e4 e5 mm]) [0] (by decide) rfl
        exact W.zret (v := 1) hx hb hr rfl (fun t ht hW => ⟨⟨1, (), rfl, by unfold f_X6_isAwake; all_goals (rw [if_pos c_1]); all_goals (rw [if_neg c_2]); all_goals (rw [if_neg c_3]); all_goals rfl, by rw [ht]; exact hP9, hD9⟩, hS.F ht⟩) hS.2.2 dX6_isAwake_64
  · refine lv_iload_n hx hb dX6_isAwake_19 rfl (lv_at hl 0 rfl) ?_
    refine lv_aload_n hx hb dX6_isAwake_20 rfl (lv_at hl 1 rfl) ?_
    refine va_get (D := G.1) (ci := 7) (v := .int fh) (C := RX6) (T := TX6) (N := 20) hx hb hts hiX6 hown hK hP 0 rfl rfl 8 (by decide) (hts (.fieldLink RX6 71 "TideMillModel$Mill" "from" "I") (List.mem_of_getElem? (i := 2) rfl)) (fun _ h9 => h9) rfl dX6_isAwake_21 ?_
    refine lv_icmp_lt (tgt := 39) hx hb dX6_isAwake_24 (by decide) (fun c_4 => ?_) (fun c_4 => ?_)
    · refine lv_iconst (v := 0) hx hb dX6_isAwake_39 (by decide) ?_
      refine lv_goto (tgt := 64) hx hb dX6_isAwake_40 (by decide) ?_
      have hP9 := hP.sub (ws' := [tc_X6 a0 tk mo su lv si ga sl sc fh lh fo ee pn e0 e1 e2 e3 e4 e5 mm]) [0] rfl
      have hD9 := hD.sub (ws' := [tc_X6 a0 tk mo su lv si ga sl sc fh lh fo ee pn e0 e1 e2 e3 e4 e5 mm]) [0] (by decide) rfl
      exact W.zret (v := 0) hx hb hr rfl (fun t ht hW => ⟨⟨0, (), rfl, by unfold f_X6_isAwake; all_goals (rw [if_neg c_1]); all_goals (rw [if_pos c_4]); all_goals rfl, by rw [ht]; exact hP9, hD9⟩, hS.F ht⟩) hS.2.2 dX6_isAwake_64
    · refine lv_iload_n hx hb dX6_isAwake_27 rfl (lv_at hl 0 rfl) ?_
      refine lv_aload_n hx hb dX6_isAwake_28 rfl (lv_at hl 1 rfl) ?_
      refine va_get (D := G.1) (ci := 7) (v := .int lh) (C := RX6) (T := TX6) (N := 20) hx hb hts hiX6 hown hK hP 0 rfl rfl 9 (by decide) (hts (.fieldLink RX6 15 "TideMillModel$Mill" "to" "I") (List.mem_of_getElem? (i := 3) rfl)) (fun _ h9 => h9) rfl dX6_isAwake_29 ?_
      refine lv_icmp_gt (tgt := 39) hx hb dX6_isAwake_32 (by decide) (fun c_5 => ?_) (fun c_5 => ?_)
      · refine lv_iconst (v := 0) hx hb dX6_isAwake_39 (by decide) ?_
        refine lv_goto (tgt := 64) hx hb dX6_isAwake_40 (by decide) ?_
        have hP9 := hP.sub (ws' := [tc_X6 a0 tk mo su lv si ga sl sc fh lh fo ee pn e0 e1 e2 e3 e4 e5 mm]) [0] rfl
        have hD9 := hD.sub (ws' := [tc_X6 a0 tk mo su lv si ga sl sc fh lh fo ee pn e0 e1 e2 e3 e4 e5 mm]) [0] (by decide) rfl
        exact W.zret (v := 0) hx hb hr rfl (fun t ht hW => ⟨⟨0, (), rfl, by unfold f_X6_isAwake; all_goals (rw [if_neg c_1]); all_goals (rw [if_neg c_4]); all_goals (rw [if_pos c_5]); all_goals rfl, by rw [ht]; exact hP9, hD9⟩, hS.F ht⟩) hS.2.2 dX6_isAwake_64
      · refine lv_iconst (v := 1) hx hb dX6_isAwake_35 (by decide) ?_
        refine lv_goto (tgt := 64) hx hb dX6_isAwake_36 (by decide) ?_
        have hP9 := hP.sub (ws' := [tc_X6 a0 tk mo su lv si ga sl sc fh lh fo ee pn e0 e1 e2 e3 e4 e5 mm]) [0] rfl
        have hD9 := hD.sub (ws' := [tc_X6 a0 tk mo su lv si ga sl sc fh lh fo ee pn e0 e1 e2 e3 e4 e5 mm]) [0] (by decide) rfl
        exact W.zret (v := 1) hx hb hr rfl (fun t ht hW => ⟨⟨1, (), rfl, by unfold f_X6_isAwake; all_goals (rw [if_neg c_1]); all_goals (rw [if_neg c_4]); all_goals (rw [if_neg c_5]); all_goals rfl, by rw [ht]; exact hP9, hD9⟩, hS.F ht⟩) hS.2.2 dX6_isAwake_64
set_option maxHeartbeats 4000000 in
set_option maxRecDepth 100000 in
theorem c_X6_pairOf (l : Launch) (G : tm_G) (a0 : Nat) (e0 : Nat) (e1 : Nat) (e2 : Nat) (e3 : Nat) (e4 : Nat) (e5 : Nat) (mm : Nat) (sz : Nat) (tk : Int32) (mo : Int32) (su : UInt64) (lv : UInt64) (si : UInt32) (ga : Int32) (sl : Int32) (sc : Int32) (fh : Int32) (lh : Int32) (fo : UInt64) (ee : Int32) (pn : Int32) (pl : Nat → Int32) (p1 : Int32) (hn : n_X6_pairOf pn pl p1) : Met l yX6_pairOf wsX6_pairOf ({ frames := 0, cells := 0, slots := 0, locals := 0 }) (va_Pc [.ref a0, .int p1] (tm_B G [tc_X6 a0 tk mo su lv si ga sl sc fh lh fo ee pn e0 e1 e2 e3 e4 e5 mm, tc_I G e1 3 pl] sz)) (va_Qi (fun (r : Int32) (u : Unit) => r = f_X6_pairOf pn pl p1) (fun (u : Unit) (t : State) => va_P G.1 vwCl [tc_X6 a0 tk mo su lv si ga sl sc fh lh fo ee pn e0 e1 e2 e3 e4 e5 mm, tc_I G e1 3 pl] t.heap ∧ va_D (va_A [tc_X6 a0 tk mo su lv si ga sl sc fh lh fo ee pn e0 e1 e2 e3 e4 e5 mm, tc_I G e1 3 pl] sz) [tc_X6 a0 tk mo su lv si ga sl sc fh lh fo ee pn e0 e1 e2 e3 e4 e5 mm, tc_I G e1 3 pl]) (va_A [tc_X6 a0 tk mo su lv si ga sl sc fh lh fo ee pn e0 e1 e2 e3 e4 e5 mm, tc_I G e1 3 pl] sz)) 0 0 (va_A [tc_X6 a0 tk mo su lv si ga sl sc fh lh fo ee pn e0 e1 e2 e3 e4 e5 mm, tc_I G e1 3 pl] sz) := by
  refine Met.ofW (cc := cX6_pairOf) (maxL := 3) (ret := (some .int)) (by decide) rfl ?_
  intro p e s m args below meth c s₁ B hml hv
  obtain ⟨rfl, hsz, hP, hK, hD0, hN, hV⟩ := hv
  have hx := B.exec
  have hb := B.bytes
  have hr := B.returns
  have hts := atoms_spec (ws := wsX6_pairOf) B.pre
  have hown : s.vm.findClass RX6 = some m.cls := findClass_of_methodNamed B.named
  have hlocks := B.notSynchronized
  subst hsz
  have n_5 := hn
  unfold n_X6_pairOf at n_5
  have hiX6 : ∀ w ∈ u_ws RX6 TX6 20, w ∈ wsX6_pairOf := fun _ h => List.mem_cons_of_mem _ (List.mem_append_right _ h)
  have hD := hD0.self (sz := s.heap.size)
  generalize hAe : va_A [tc_X6 a0 tk mo su lv si ga sl sc fh lh fo ee pn e0 e1 e2 e3 e4 e5 mm, tc_I G e1 3 pl] s.heap.size = A at hD hV ⊢
  have hA : ∀ q : Nat, s.heap.size ≤ q → A q := fun q h => by rw [← hAe]; exact Or.inr h
  have hS : va_S A s.heap s.heap [] := va_S.rf
  have hl := lv_entry ([.ref a0, .int p1]) (n := 3) (Nat.le_of_ble_eq_true rfl)
  rw [lg_entry_eq]
  generalize (lg_sl ([.ref a0, .int p1]) ++ List.replicate (3 - (lg_sl ([.ref a0, .int p1])).length) Slot.unset).toArray = ls at hl ⊢
  have hl : lv_has ls 3 [(0, .ref a0), (1, .int p1)] := hl
  refine lv_iconst (v := 0) hx hb dX6_pairOf_0 (by decide) ?_
  refine lv_istore_n (lv' := [(2, .int 0), (0, .ref a0), (1, .int p1)]) hx hb dX6_pairOf_1 rfl hl (by decide) rfl (fun ls hl => ?_)
  have L_2 : ∀ (fuel : Nat) (x2_0 : Int32), n_X6_pairOf_2 pn pl p1 fuel x2_0 → f_X6_pairOf pn pl p1 = f_X6_pairOf_2 pn pl p1 fuel x2_0 → ∀ (H : Heap) (locs : List Loc), va_P G.1 vwCl [tc_X6 a0 tk mo su lv si ga sl sc fh lh fo ee pn e0 e1 e2 e3 e4 e5 mm, tc_I G e1 3 pl] H → va_D A [tc_X6 a0 tk mo su lv si ga sl sc fh lh fo ee pn e0 e1 e2 e3 e4 e5 mm, tc_I G e1 3 pl] → va_S A s.heap H locs → ∀ ls : Array Slot, lv_has ls 3 [(2, .int x2_0), (0, .ref a0), (1, .int p1)] → W p l e (headSpec wsX6_pairOf ({ frames := 0, cells := 0, slots := 0, locals := 0 } : Room)).room s m ([.ref a0, .int p1] : List Value).toArray below meth c H locs 0 0 (MQ below (va_Qi (fun (r : Int32) (u : Unit) => r = f_X6_pairOf pn pl p1) (fun (u : Unit) (t : State) => va_P G.1 vwCl [tc_X6 a0 tk mo su lv si ga sl sc fh lh fo ee pn e0 e1 e2 e3 e4 e5 mm, tc_I G e1 3 pl] t.heap ∧ va_D A [tc_X6 a0 tk mo su lv si ga sl sc fh lh fo ee pn e0 e1 e2 e3 e4 e5 mm, tc_I G e1 3 pl]) A) ([.ref a0, .int p1] : List Value).toArray s 0 0 A) (F0 m 2 ls []) := by
    intro fuel
    induction fuel with
    | zero =>
      intro x2_0 hnl; exact absurd hnl (by simp [n_X6_pairOf_2])
    | succ fuel ih =>
      intro x2_0 hnl hE H locs hP hD hS ls hl
      rw [n_X6_pairOf_2] at hnl
      obtain ⟨n_2, n_4⟩ := hnl
      refine lv_iload_n hx hb dX6_pairOf_2 rfl (lv_at hl 0 rfl) ?_
      refine lv_aload_n hx hb dX6_pairOf_3 rfl (lv_at hl 1 rfl) ?_
      refine va_get (D := G.1) (ci := 7) (v := .int pn) (C := RX6) (T := TX6) (N := 20) hx hb hts hiX6 hown hK hP 0 rfl rfl 12 (by decide) (hts (.fieldLink RX6 74 "TideMillModel$Mill" "pairs" "I") (List.mem_of_getElem? (i := 1) rfl)) (fun _ h9 => h9) rfl dX6_pairOf_4 ?_
      refine lv_icmp_ge (tgt := 28) hx hb dX6_pairOf_7 (by decide) (fun c_1 => ?_) (fun c_1 => ?_)
      · refine lv_iconst (v := (-1)) hx hb dX6_pairOf_28 (by decide) ?_
        have hP9 := hP.sub (ws' := [tc_X6 a0 tk mo su lv si ga sl sc fh lh fo ee pn e0 e1 e2 e3 e4 e5 mm, tc_I G e1 3 pl]) [0, 1] rfl
        have hD9 := hD.sub (ws' := [tc_X6 a0 tk mo su lv si ga sl sc fh lh fo ee pn e0 e1 e2 e3 e4 e5 mm, tc_I G e1 3 pl]) [0, 1] (by decide) rfl
        exact W.iret (v := (-1)) hx hb hr (fun t ht hW => ⟨⟨(-1), (), rfl, by rw [hE, f_X6_pairOf_2]; all_goals (rw [if_pos c_1]); all_goals rfl, by rw [ht]; exact hP9, hD9⟩, hS.F ht⟩) hS.2.2 dX6_pairOf_29
      · refine lv_aload_n hx hb dX6_pairOf_10 rfl (lv_at hl 1 rfl) ?_
        refine va_get (D := G.1) (ci := 7) (v := .ref e1) (C := RX6) (T := TX6) (N := 20) hx hb hts hiX6 hown hK hP 0 rfl rfl 14 (by decide) (hts (.fieldLink RX6 23 "TideMillModel$Mill" "lot" "[I") (List.mem_of_getElem? (i := 2) rfl)) (fun _ h9 => h9) rfl dX6_pairOf_11 ?_
        refine lv_iload_n hx hb dX6_pairOf_14 rfl (lv_at hl 0 rfl) ?_
        refine va_iald (n := 3) (f := pl) hx hb hK hP 1 0 rfl rfl (n_2 c_1) dX6_pairOf_15 ?_
        refine lv_iload_n hx hb dX6_pairOf_16 rfl (lv_at hl 2 rfl) ?_
        refine lv_icmp_ne (tgt := 22) hx hb dX6_pairOf_17 (by decide) (fun c_3 => ?_) (fun c_3 => ?_)
        · refine lv_iinc (v := x2_0 + 1) (lv' := [(2, .int (x2_0 + 1)), (0, .ref a0), (1, .int p1)]) hx hb dX6_pairOf_22 hl (k := 0) rfl rfl (by decide) rfl (fun ls hl => ?_)
          refine lv_goto (tgt := 2) hx hb dX6_pairOf_25 (by decide) ?_
          have hP9 := hP.sub (ws' := [tc_X6 a0 tk mo su lv si ga sl sc fh lh fo ee pn e0 e1 e2 e3 e4 e5 mm, tc_I G e1 3 pl]) [0, 1] rfl
          have hD9 := hD.sub (ws' := [tc_X6 a0 tk mo su lv si ga sl sc fh lh fo ee pn e0 e1 e2 e3 e4 e5 mm, tc_I G e1 3 pl]) [0, 1] (by decide) rfl
          exact ih (x2_0 + 1) (n_4 c_1 c_3) (by rw [hE, f_X6_pairOf_2]; all_goals (rw [if_neg c_1]); all_goals (rw [if_neg c_3]); all_goals rfl) _ _ hP9 hD9 hS _ (lv_sub hl [0, 1, 2] rfl)
        · refine lv_iload_n hx hb dX6_pairOf_20 rfl (lv_at hl 0 rfl) ?_
          have hP9 := hP.sub (ws' := [tc_X6 a0 tk mo su lv si ga sl sc fh lh fo ee pn e0 e1 e2 e3 e4 e5 mm, tc_I G e1 3 pl]) [0, 1] rfl
          have hD9 := hD.sub (ws' := [tc_X6 a0 tk mo su lv si ga sl sc fh lh fo ee pn e0 e1 e2 e3 e4 e5 mm, tc_I G e1 3 pl]) [0, 1] (by decide) rfl
          exact W.iret (v := x2_0) hx hb hr (fun t ht hW => ⟨⟨x2_0, (), rfl, by rw [hE, f_X6_pairOf_2]; all_goals (rw [if_neg c_1]); all_goals (rw [if_pos c_3]); all_goals rfl, by rw [ht]; exact hP9, hD9⟩, hS.F ht⟩) hS.2.2 dX6_pairOf_21
  have hP9 := hP.sub (ws' := [tc_X6 a0 tk mo su lv si ga sl sc fh lh fo ee pn e0 e1 e2 e3 e4 e5 mm, tc_I G e1 3 pl]) [0, 1] rfl
  have hD9 := hD.sub (ws' := [tc_X6 a0 tk mo su lv si ga sl sc fh lh fo ee pn e0 e1 e2 e3 e4 e5 mm, tc_I G e1 3 pl]) [0, 1] (by decide) rfl
  exact L_2 5 0 n_5 (by unfold f_X6_pairOf; all_goals rfl) _ _ hP9 hD9 hS _ (lv_sub hl [0, 1, 2] rfl)
set_option maxHeartbeats 4000000 in
set_option maxRecDepth 100000 in
theorem c_X7_in (l : Launch) (G : tm_G)  (sz : Nat) (p1 : Int32) (p2 : Int32) (p3 : Int32) : Met l yX7_in wsX7_in ({ frames := 0, cells := 0, slots := 0, locals := 0 }) (va_Pc [.int p1, .int p2, .int p3] (tm_B G [] sz)) (va_Qi (fun (r : Int32) (u : Unit) => r = f_X7_in p1 p2 p3) (fun (u : Unit) (t : State) => va_P G.1 vwCl [] t.heap ∧ va_D (va_A [] sz) []) (va_A [] sz)) 0 0 (va_A [] sz) := by
  refine Met.ofW (cc := cX7_in) (maxL := 3) (ret := (some .boolean)) (by decide) rfl ?_
  intro p e s m args below meth c s₁ B hml hv
  obtain ⟨rfl, hsz, hP, hK, hD0, hN, hV⟩ := hv
  have hx := B.exec
  have hb := B.bytes
  have hr := B.returns
  have hts := atoms_spec (ws := wsX7_in) B.pre
  have hown : s.vm.findClass RX7 = some m.cls := findClass_of_methodNamed B.named
  have hlocks := B.notSynchronized
  subst hsz
  have hD := hD0.self (sz := s.heap.size)
  generalize hAe : va_A [] s.heap.size = A at hD hV ⊢
  have hA : ∀ q : Nat, s.heap.size ≤ q → A q := fun q h => by rw [← hAe]; exact Or.inr h
  have hS : va_S A s.heap s.heap [] := va_S.rf
  have hl := lv_entry ([.int p1, .int p2, .int p3]) (n := 3) (Nat.le_of_ble_eq_true rfl)
  rw [lg_entry_eq]
  generalize (lg_sl ([.int p1, .int p2, .int p3]) ++ List.replicate (3 - (lg_sl ([.int p1, .int p2, .int p3])).length) Slot.unset).toArray = ls at hl ⊢
  have hl : lv_has ls 3 [(0, .int p1), (1, .int p2), (2, .int p3)] := hl
  refine lv_iload_n hx hb dX7_in_0 rfl (lv_at hl 0 rfl) ?_
  refine lv_iload_n hx hb dX7_in_1 rfl (lv_at hl 1 rfl) ?_
  refine lv_icmp_lt (tgt := 14) hx hb dX7_in_2 (by decide) (fun c_1 => ?_) (fun c_1 => ?_)
  · refine lv_iconst (v := 0) hx hb dX7_in_14 (by decide) ?_
    have hP9 := hP.sub (ws' := []) [] rfl
    have hD9 := hD.sub (ws' := []) [] (by decide) rfl
    exact W.zret (v := 0) hx hb hr rfl (fun t ht hW => ⟨⟨0, (), rfl, by unfold f_X7_in; all_goals (rw [if_pos c_1]); all_goals rfl, by rw [ht]; exact hP9, hD9⟩, hS.F ht⟩) hS.2.2 dX7_in_15
  · refine lv_iload_n hx hb dX7_in_5 rfl (lv_at hl 0 rfl) ?_
    refine lv_iload_n hx hb dX7_in_6 rfl (lv_at hl 2 rfl) ?_
    refine lv_icmp_gt (tgt := 14) hx hb dX7_in_7 (by decide) (fun c_2 => ?_) (fun c_2 => ?_)
    · refine lv_iconst (v := 0) hx hb dX7_in_14 (by decide) ?_
      have hP9 := hP.sub (ws' := []) [] rfl
      have hD9 := hD.sub (ws' := []) [] (by decide) rfl
      exact W.zret (v := 0) hx hb hr rfl (fun t ht hW => ⟨⟨0, (), rfl, by unfold f_X7_in; all_goals (rw [if_neg c_1]); all_goals (rw [if_pos c_2]); all_goals rfl, by rw [ht]; exact hP9, hD9⟩, hS.F ht⟩) hS.2.2 dX7_in_15
    · refine lv_iconst (v := 1) hx hb dX7_in_10 (by decide) ?_
      refine lv_goto (tgt := 15) hx hb dX7_in_11 (by decide) ?_
      have hP9 := hP.sub (ws' := []) [] rfl
      have hD9 := hD.sub (ws' := []) [] (by decide) rfl
      exact W.zret (v := 1) hx hb hr rfl (fun t ht hW => ⟨⟨1, (), rfl, by unfold f_X7_in; all_goals (rw [if_neg c_1]); all_goals (rw [if_neg c_2]); all_goals rfl, by rw [ht]; exact hP9, hD9⟩, hS.F ht⟩) hS.2.2 dX7_in_15
