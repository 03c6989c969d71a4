set_option maxHeartbeats 4000000 in
set_option maxRecDepth 100000 in
theorem c_X4_init (l : Launch) (G : tm_G) (a0 : Nat) (sz : Nat)  : Met l yX4_init wsX4_init ({ frames := 1, cells := 0, slots := 0, locals := 24 }) (va_Pc [.ref a0] (tm_B G [tc_X4 a0 0 0 0] sz)) (va_Qv (fun (u : Unit) => True) (fun (u : Unit) (t : State) => va_P G.1 vwCl [tc_X4 a0 0 0 0] t.heap ∧ va_D (va_A [tc_X4 a0 0 0 0] sz) [tc_X4 a0 0 0 0]) (va_A [tc_X4 a0 0 0 0] sz)) 0 0 (va_A [tc_X4 a0 0 0 0] sz) := by
  refine Met.ofW (cc := cX4_init) (maxL := 1) (ret := none) (by decide) rfl ?_
  intro p e s m args below meth c s₁ B hml hv
  obtain ⟨rfl, hsz, hP, hK, hD0, hN, hV⟩ := hv
  have hx := B.exec
  have hb := B.bytes
  have hr := B.returns
  have hts := atoms_spec (ws := wsX4_init) B.pre
  have hown : s.vm.findClass RX4 = some m.cls := findClass_of_methodNamed B.named
  have hlocks := B.notSynchronized
  have hin : meth.name = "<init>" := (name_of_methodNamed B.named B.method).1
  subst hsz
  have hD := hD0.self (sz := s.heap.size)
  generalize hAe : va_A [tc_X4 a0 0 0 0] s.heap.size = A at hD hV ⊢
  have hA : ∀ q : Nat, s.heap.size ≤ q → A q := fun q h => by rw [← hAe]; exact Or.inr h
  have hS : va_S A s.heap s.heap [] := va_S.rf
  have hl := lv_entry ([.ref a0]) (n := 1) (Nat.le_of_ble_eq_true rfl)
  rw [lg_entry_eq]
  generalize (lg_sl ([.ref a0]) ++ List.replicate (1 - (lg_sl ([.ref a0])).length) Slot.unset).toArray = ls at hl ⊢
  have hl : lv_has ls 1 [(0, .ref a0)] := hl
  refine lv_aload_n hx hb dX4_init_0 rfl (lv_at hl 0 rfl) ?_
  refine W.objInit hx hb hown (hts (.methodLink RX4 3 objectInit) (List.mem_of_getElem? (i := 1) rfl)) (hts (.instanceMethod objectInit) (List.mem_of_getElem? (i := 2) rfl)) (hts _ (List.mem_of_getElem? (i := 3) rfl)) rfl (by rw [hml]; exact hl.1) rfl dX4_init_1 (Nat.le_of_ble_eq_true rfl) (Nat.le_of_ble_eq_true rfl) ?_
  refine W.eq (g2 := F0 m 4 ls []) rfl ?_
  have hP9 := hP.sub (ws' := [tc_X4 a0 0 0 0]) [0] rfl
  have hD9 := hD.sub (ws' := [tc_X4 a0 0 0 0]) [0] (by decide) rfl
  exact W.vret hx hb hr (fun t ht hW => ⟨⟨(), rfl, trivial, by rw [ht]; exact hP9, hD9⟩, hS.F ht⟩) hS.2.2 dX4_init_4
set_option maxHeartbeats 4000000 in
set_option maxRecDepth 100000 in
theorem c_X3_init (l : Launch) (G : tm_G) (a0 : Nat) (sz : Nat)  : Met l yX3_init wsX3_init ({ frames := 1, cells := 0, slots := 0, locals := 24 }) (va_Pc [.ref a0] (tm_B G [tc_X3 a0 0 0 0 0 0 0] sz)) (va_Qv (fun (u : Unit) => True) (fun (u : Unit) (t : State) => va_P G.1 vwCl [tc_X3 a0 0 0 0 0 0 0] t.heap ∧ va_D (va_A [tc_X3 a0 0 0 0 0 0 0] sz) [tc_X3 a0 0 0 0 0 0 0]) (va_A [tc_X3 a0 0 0 0 0 0 0] sz)) 0 0 (va_A [tc_X3 a0 0 0 0 0 0 0] sz) := by
  refine Met.ofW (cc := cX3_init) (maxL := 1) (ret := none) (by decide) rfl ?_
  intro p e s m args below meth c s₁ B hml hv
  obtain ⟨rfl, hsz, hP, hK, hD0, hN, hV⟩ := hv
  have hx := B.exec
  have hb := B.bytes
  have hr := B.returns
  have hts := atoms_spec (ws := wsX3_init) B.pre
  have hown : s.vm.findClass RX3 = some m.cls := findClass_of_methodNamed B.named
  have hlocks := B.notSynchronized
  have hin : meth.name = "<init>" := (name_of_methodNamed B.named B.method).1
  subst hsz
  have hD := hD0.self (sz := s.heap.size)
  generalize hAe : va_A [tc_X3 a0 0 0 0 0 0 0] s.heap.size = A at hD hV ⊢
  have hA : ∀ q : Nat, s.heap.size ≤ q → A q := fun q h => by rw [← hAe]; exact Or.inr h
  have hS : va_S A s.heap s.heap [] := va_S.rf
  have hl := lv_entry ([.ref a0]) (n := 1) (Nat.le_of_ble_eq_true rfl)
  rw [lg_entry_eq]
  generalize (lg_sl ([.ref a0]) ++ List.replicate (1 - (lg_sl ([.ref a0])).length) Slot.unset).toArray = ls at hl ⊢
  have hl : lv_has ls 1 [(0, .ref a0)] := hl
  refine lv_aload_n hx hb dX3_init_0 rfl (lv_at hl 0 rfl) ?_
  refine W.objInit hx hb hown (hts (.methodLink RX3 1 objectInit) (List.mem_of_getElem? (i := 1) rfl)) (hts (.instanceMethod objectInit) (List.mem_of_getElem? (i := 2) rfl)) (hts _ (List.mem_of_getElem? (i := 3) rfl)) rfl (by rw [hml]; exact hl.1) rfl dX3_init_1 (Nat.le_of_ble_eq_true rfl) (Nat.le_of_ble_eq_true rfl) ?_
  refine W.eq (g2 := F0 m 4 ls []) rfl ?_
  have hP9 := hP.sub (ws' := [tc_X3 a0 0 0 0 0 0 0]) [0] rfl
  have hD9 := hD.sub (ws' := [tc_X3 a0 0 0 0 0 0 0]) [0] (by decide) rfl
  exact W.vret hx hb hr (fun t ht hW => ⟨⟨(), rfl, trivial, by rw [ht]; exact hP9, hD9⟩, hS.F ht⟩) hS.2.2 dX3_init_4
set_option maxHeartbeats 4000000 in
set_option maxRecDepth 100000 in
theorem c_X0_init (l : Launch) (G : tm_G) (a0 : Nat) (sz : Nat)  : Met l yX0_init wsX0_init ({ frames := 1, cells := 6, slots := 60, locals := 24 }) (va_Pc [.ref a0] (tm_B G [(a0, .inr (0, [.null, .null, .null, .null, .null, .null, .int 0]))] sz)) (va_Qv (fun (_ : Unit) => True) (fun (_ : Unit) (t : State) => ∃ (q_1 q_2 q_3 q_4 q_5 q_6 : Nat), va_P G.1 vwCl [tc_X0 a0 q_1 q_2 q_3 q_4 q_5 q_6 0, tc_I G q_1 10 (fun _ => (0 : Int32)), tc_I G q_2 10 (fun _ => (0 : Int32)), tc_I G q_3 10 (fun _ => (0 : Int32)), tc_I G q_4 10 (fun _ => (0 : Int32)), tc_I G q_5 10 (fun _ => (0 : Int32)), tc_D G q_6 10 (fun _ => (0 : UInt64))] t.heap ∧ va_D (va_A [(a0, .inr (0, [.null, .null, .null, .null, .null, .null, .int 0]))] sz) [tc_X0 a0 q_1 q_2 q_3 q_4 q_5 q_6 0, tc_I G q_1 10 (fun _ => (0 : Int32)), tc_I G q_2 10 (fun _ => (0 : Int32)), tc_I G q_3 10 (fun _ => (0 : Int32)), tc_I G q_4 10 (fun _ => (0 : Int32)), tc_I G q_5 10 (fun _ => (0 : Int32)), tc_D G q_6 10 (fun _ => (0 : UInt64))]) (va_A [(a0, .inr (0, [.null, .null, .null, .null, .null, .null, .int 0]))] sz)) 6 60 (va_A [(a0, .inr (0, [.null, .null, .null, .null, .null, .null, .int 0]))] sz) := by
  refine Met.ofW (cc := cX0_init) (maxL := 1) (ret := none) (by decide) rfl ?_
  intro p e s m args below meth c s₁ B hml hv
  obtain ⟨rfl, hsz, hP, hK, hD0, hN, hV⟩ := hv
  have hx := B.exec
  have hb := B.bytes
  have hr := B.returns
  have hts := atoms_spec (ws := wsX0_init) B.pre
  have hown : s.vm.findClass RX0 = some m.cls := findClass_of_methodNamed B.named
  have hlocks := B.notSynchronized
  have hin : meth.name = "<init>" := (name_of_methodNamed B.named B.method).1
  subst hsz
  have hiX0 : ∀ w ∈ u_ws RX0 TX0 7, w ∈ wsX0_init := fun _ h => List.mem_cons_of_mem _ (List.mem_append_right _ h)
  have hD := hD0.self (sz := s.heap.size)
  generalize hAe : va_A [(a0, .inr (0, [.null, .null, .null, .null, .null, .null, .int 0]))] s.heap.size = A at hD hV ⊢
  have hA : ∀ q : Nat, s.heap.size ≤ q → A q := fun q h => by rw [← hAe]; exact Or.inr h
  have hS : va_S A s.heap s.heap [] := va_S.rf
  have hl := lv_entry ([.ref a0]) (n := 1) (Nat.le_of_ble_eq_true rfl)
  rw [lg_entry_eq]
  generalize (lg_sl ([.ref a0]) ++ List.replicate (1 - (lg_sl ([.ref a0])).length) Slot.unset).toArray = ls at hl ⊢
  have hl : lv_has ls 1 [(0, .ref a0)] := hl
  refine lv_aload_n hx hb dX0_init_0 rfl (lv_at hl 0 rfl) ?_
  refine W.objInit hx hb hown (hts (.methodLink RX0 3 objectInit) (List.mem_of_getElem? (i := 1) rfl)) (hts (.instanceMethod objectInit) (List.mem_of_getElem? (i := 2) rfl)) (hts _ (List.mem_of_getElem? (i := 3) rfl)) rfl (by rw [hml]; exact hl.1) rfl dX0_init_1 (Nat.le_of_ble_eq_true rfl) (Nat.le_of_ble_eq_true rfl) ?_
  refine W.eq (g2 := F0 m 4 ls []) rfl ?_
  refine lv_aload_n hx hb dX0_init_4 rfl (lv_at hl 0 rfl) ?_
  refine lv_bipush (v := 10) hx hb dX0_init_5 (by decide) ?_
  refine va_newa (atype := .int) hx hb (hts (.arrayClass .int) (List.mem_of_getElem? (i := 4) rfl)) (ty := .int) rfl hK hP hD hS hA (N' := 10) (a0 := (10, .inl (fun _ => (0 : Int32)))) (fun _ => rfl) (by decide) (by decide) (Nat.le_of_ble_eq_true rfl) (Nat.le_of_ble_eq_true rfl) (Nat.le_of_ble_eq_true rfl) dX0_init_7 (fun q_1 cA H hK9 hP hD hS => ?_)
  obtain rfl : cA = G.2.1 := tm_cA_I hK9
  have hP : va_P G.1 vwCl [(a0, .inr (0, [.null, .null, .null, .null, .null, .null, .int 0])), tc_I G q_1 10 (fun _ => (0 : Int32))] H := hP
  have hD : va_D A [(a0, .inr (0, [.null, .null, .null, .null, .null, .null, .int 0])), tc_I G q_1 10 (fun _ => (0 : Int32))] := hD
  refine W.widen (k := 1) (n := 10) (Nat.le_of_ble_eq_true rfl) (Nat.le_of_ble_eq_true rfl) ?_
  refine va_putF (D := G.1) (ci := 0) (v := .ref q_1) (ty := .array .int) (C := RX0) (T := TX0) (N := 7) hx hb hts hiX0 tyX0 tyX0_ok nmX0 hown hK hP hD hS 0 rfl rfl 0 (by decide) (hts (.fieldLink RX0 9 "TideMill$Lots" "owner" "[I") (List.mem_of_getElem? (i := 5) rfl)) (fun _ h9 => h9) rfl hin rfl (by decide +kernel) rfl rfl (Nat.le_of_ble_eq_true rfl) dX0_init_9 (fun H locs hP hD hS => ?_)
  have hP : va_P G.1 vwCl [(a0, .inr (0, [.ref q_1, .null, .null, .null, .null, .null, .int 0])), tc_I G q_1 10 (fun _ => (0 : Int32))] H := hP
  have hD : va_D A [(a0, .inr (0, [.ref q_1, .null, .null, .null, .null, .null, .int 0])), tc_I G q_1 10 (fun _ => (0 : Int32))] := hD
  refine lv_aload_n hx hb dX0_init_12 rfl (lv_at hl 0 rfl) ?_
  refine lv_bipush (v := 10) hx hb dX0_init_13 (by decide) ?_
  refine va_newa (atype := .int) hx hb (hts (.arrayClass .int) (List.mem_of_getElem? (i := 4) rfl)) (ty := .int) rfl hK hP hD hS hA (N' := 10) (a0 := (10, .inl (fun _ => (0 : Int32)))) (fun _ => rfl) (by decide) (by decide) (Nat.le_of_ble_eq_true rfl) (Nat.le_of_ble_eq_true rfl) (Nat.le_of_ble_eq_true rfl) dX0_init_15 (fun q_2 cA H hK9 hP hD hS => ?_)
  obtain rfl : cA = G.2.1 := tm_cA_I hK9
  have hP : va_P G.1 vwCl [(a0, .inr (0, [.ref q_1, .null, .null, .null, .null, .null, .int 0])), tc_I G q_1 10 (fun _ => (0 : Int32)), tc_I G q_2 10 (fun _ => (0 : Int32))] H := hP
  have hD : va_D A [(a0, .inr (0, [.ref q_1, .null, .null, .null, .null, .null, .int 0])), tc_I G q_1 10 (fun _ => (0 : Int32)), tc_I G q_2 10 (fun _ => (0 : Int32))] := hD
  refine W.widen (k := 2) (n := 20) (Nat.le_of_ble_eq_true rfl) (Nat.le_of_ble_eq_true rfl) ?_
  refine va_putF (D := G.1) (ci := 0) (v := .ref q_2) (ty := .array .int) (C := RX0) (T := TX0) (N := 7) hx hb hts hiX0 tyX0 tyX0_ok nmX0 hown hK hP hD hS 0 rfl rfl 1 (by decide) (hts (.fieldLink RX0 15 "TideMill$Lots" "grain" "[I") (List.mem_of_getElem? (i := 6) rfl)) (fun _ h9 => h9) rfl hin rfl (by decide +kernel) rfl rfl (Nat.le_of_ble_eq_true rfl) dX0_init_17 (fun H locs hP hD hS => ?_)
  have hP : va_P G.1 vwCl [(a0, .inr (0, [.ref q_1, .ref q_2, .null, .null, .null, .null, .int 0])), tc_I G q_1 10 (fun _ => (0 : Int32)), tc_I G q_2 10 (fun _ => (0 : Int32))] H := hP
  have hD : va_D A [(a0, .inr (0, [.ref q_1, .ref q_2, .null, .null, .null, .null, .int 0])), tc_I G q_1 10 (fun _ => (0 : Int32)), tc_I G q_2 10 (fun _ => (0 : Int32))] := hD
  refine lv_aload_n hx hb dX0_init_20 rfl (lv_at hl 0 rfl) ?_
  refine lv_bipush (v := 10) hx hb dX0_init_21 (by decide) ?_
  refine va_newa (atype := .int) hx hb (hts (.arrayClass .int) (List.mem_of_getElem? (i := 4) rfl)) (ty := .int) rfl hK hP hD hS hA (N' := 10) (a0 := (10, .inl (fun _ => (0 : Int32)))) (fun _ => rfl) (by decide) (by decide) (Nat.le_of_ble_eq_true rfl) (Nat.le_of_ble_eq_true rfl) (Nat.le_of_ble_eq_true rfl) dX0_init_23 (fun q_3 cA H hK9 hP hD hS => ?_)
  obtain rfl : cA = G.2.1 := tm_cA_I hK9
  have hP : va_P G.1 vwCl [(a0, .inr (0, [.ref q_1, .ref q_2, .null, .null, .null, .null, .int 0])), tc_I G q_1 10 (fun _ => (0 : Int32)), tc_I G q_2 10 (fun _ => (0 : Int32)), tc_I G q_3 10 (fun _ => (0 : Int32))] H := hP
  have hD : va_D A [(a0, .inr (0, [.ref q_1, .ref q_2, .null, .null, .null, .null, .int 0])), tc_I G q_1 10 (fun _ => (0 : Int32)), tc_I G q_2 10 (fun _ => (0 : Int32)), tc_I G q_3 10 (fun _ => (0 : Int32))] := hD
  refine W.widen (k := 3) (n := 30) (Nat.le_of_ble_eq_true rfl) (Nat.le_of_ble_eq_true rfl) ?_
  refine va_putF (D := G.1) (ci := 0) (v := .ref q_3) (ty := .array .int) (C := RX0) (T := TX0) (N := 7) hx hb hts hiX0 tyX0 tyX0_ok nmX0 hown hK hP hD hS 0 rfl rfl 2 (by decide) (hts (.fieldLink RX0 18 "TideMill$Lots" "weight" "[I") (List.mem_of_getElem? (i := 7) rfl)) (fun _ h9 => h9) rfl hin rfl (by decide +kernel) rfl rfl (Nat.le_of_ble_eq_true rfl) dX0_init_25 (fun H locs hP hD hS => ?_)
  have hP : va_P G.1 vwCl [(a0, .inr (0, [.ref q_1, .ref q_2, .ref q_3, .null, .null, .null, .int 0])), tc_I G q_1 10 (fun _ => (0 : Int32)), tc_I G q_2 10 (fun _ => (0 : Int32)), tc_I G q_3 10 (fun _ => (0 : Int32))] H := hP
  have hD : va_D A [(a0, .inr (0, [.ref q_1, .ref q_2, .ref q_3, .null, .null, .null, .int 0])), tc_I G q_1 10 (fun _ => (0 : Int32)), tc_I G q_2 10 (fun _ => (0 : Int32)), tc_I G q_3 10 (fun _ => (0 : Int32))] := hD
  refine lv_aload_n hx hb dX0_init_28 rfl (lv_at hl 0 rfl) ?_
  refine lv_bipush (v := 10) hx hb dX0_init_29 (by decide) ?_
  refine va_newa (atype := .int) hx hb (hts (.arrayClass .int) (List.mem_of_getElem? (i := 4) rfl)) (ty := .int) rfl hK hP hD hS hA (N' := 10) (a0 := (10, .inl (fun _ => (0 : Int32)))) (fun _ => rfl) (by decide) (by decide) (Nat.le_of_ble_eq_true rfl) (Nat.le_of_ble_eq_true rfl) (Nat.le_of_ble_eq_true rfl) dX0_init_31 (fun q_4 cA H hK9 hP hD hS => ?_)
  obtain rfl : cA = G.2.1 := tm_cA_I hK9
  have hP : va_P G.1 vwCl [(a0, .inr (0, [.ref q_1, .ref q_2, .ref q_3, .null, .null, .null, .int 0])), tc_I G q_1 10 (fun _ => (0 : Int32)), tc_I G q_2 10 (fun _ => (0 : Int32)), tc_I G q_3 10 (fun _ => (0 : Int32)), tc_I G q_4 10 (fun _ => (0 : Int32))] H := hP
  have hD : va_D A [(a0, .inr (0, [.ref q_1, .ref q_2, .ref q_3, .null, .null, .null, .int 0])), tc_I G q_1 10 (fun _ => (0 : Int32)), tc_I G q_2 10 (fun _ => (0 : Int32)), tc_I G q_3 10 (fun _ => (0 : Int32)), tc_I G q_4 10 (fun _ => (0 : Int32))] := hD
  refine W.widen (k := 4) (n := 40) (Nat.le_of_ble_eq_true rfl) (Nat.le_of_ble_eq_true rfl) ?_
  refine va_putF (D := G.1) (ci := 0) (v := .ref q_4) (ty := .array .int) (C := RX0) (T := TX0) (N := 7) hx hb hts hiX0 tyX0 tyX0_ok nmX0 hown hK hP hD hS 0 rfl rfl 3 (by decide) (hts (.fieldLink RX0 21 "TideMill$Lots" "dueDay" "[I") (List.mem_of_getElem? (i := 8) rfl)) (fun _ h9 => h9) rfl hin rfl (by decide +kernel) rfl rfl (Nat.le_of_ble_eq_true rfl) dX0_init_33 (fun H locs hP hD hS => ?_)
  have hP : va_P G.1 vwCl [(a0, .inr (0, [.ref q_1, .ref q_2, .ref q_3, .ref q_4, .null, .null, .int 0])), tc_I G q_1 10 (fun _ => (0 : Int32)), tc_I G q_2 10 (fun _ => (0 : Int32)), tc_I G q_3 10 (fun _ => (0 : Int32)), tc_I G q_4 10 (fun _ => (0 : Int32))] H := hP
  have hD : va_D A [(a0, .inr (0, [.ref q_1, .ref q_2, .ref q_3, .ref q_4, .null, .null, .int 0])), tc_I G q_1 10 (fun _ => (0 : Int32)), tc_I G q_2 10 (fun _ => (0 : Int32)), tc_I G q_3 10 (fun _ => (0 : Int32)), tc_I G q_4 10 (fun _ => (0 : Int32))] := hD
  refine lv_aload_n hx hb dX0_init_36 rfl (lv_at hl 0 rfl) ?_
  refine lv_bipush (v := 10) hx hb dX0_init_37 (by decide) ?_
  refine va_newa (atype := .int) hx hb (hts (.arrayClass .int) (List.mem_of_getElem? (i := 4) rfl)) (ty := .int) rfl hK hP hD hS hA (N' := 10) (a0 := (10, .inl (fun _ => (0 : Int32)))) (fun _ => rfl) (by decide) (by decide) (Nat.le_of_ble_eq_true rfl) (Nat.le_of_ble_eq_true rfl) (Nat.le_of_ble_eq_true rfl) dX0_init_39 (fun q_5 cA H hK9 hP hD hS => ?_)
  obtain rfl : cA = G.2.1 := tm_cA_I hK9
  have hP : va_P G.1 vwCl [(a0, .inr (0, [.ref q_1, .ref q_2, .ref q_3, .ref q_4, .null, .null, .int 0])), tc_I G q_1 10 (fun _ => (0 : Int32)), tc_I G q_2 10 (fun _ => (0 : Int32)), tc_I G q_3 10 (fun _ => (0 : Int32)), tc_I G q_4 10 (fun _ => (0 : Int32)), tc_I G q_5 10 (fun _ => (0 : Int32))] H := hP
  have hD : va_D A [(a0, .inr (0, [.ref q_1, .ref q_2, .ref q_3, .ref q_4, .null, .null, .int 0])), tc_I G q_1 10 (fun _ => (0 : Int32)), tc_I G q_2 10 (fun _ => (0 : Int32)), tc_I G q_3 10 (fun _ => (0 : Int32)), tc_I G q_4 10 (fun _ => (0 : Int32)), tc_I G q_5 10 (fun _ => (0 : Int32))] := hD
  refine W.widen (k := 5) (n := 50) (Nat.le_of_ble_eq_true rfl) (Nat.le_of_ble_eq_true rfl) ?_
  refine va_putF (D := G.1) (ci := 0) (v := .ref q_5) (ty := .array .int) (C := RX0) (T := TX0) (N := 7) hx hb hts hiX0 tyX0 tyX0_ok nmX0 hown hK hP hD hS 0 rfl rfl 4 (by decide) (hts (.fieldLink RX0 24 "TideMill$Lots" "state" "[I") (List.mem_of_getElem? (i := 9) rfl)) (fun _ h9 => h9) rfl hin rfl (by decide +kernel) rfl rfl (Nat.le_of_ble_eq_true rfl) dX0_init_41 (fun H locs hP hD hS => ?_)
  have hP : va_P G.1 vwCl [(a0, .inr (0, [.ref q_1, .ref q_2, .ref q_3, .ref q_4, .ref q_5, .null, .int 0])), tc_I G q_1 10 (fun _ => (0 : Int32)), tc_I G q_2 10 (fun _ => (0 : Int32)), tc_I G q_3 10 (fun _ => (0 : Int32)), tc_I G q_4 10 (fun _ => (0 : Int32)), tc_I G q_5 10 (fun _ => (0 : Int32))] H := hP
  have hD : va_D A [(a0, .inr (0, [.ref q_1, .ref q_2, .ref q_3, .ref q_4, .ref q_5, .null, .int 0])), tc_I G q_1 10 (fun _ => (0 : Int32)), tc_I G q_2 10 (fun _ => (0 : Int32)), tc_I G q_3 10 (fun _ => (0 : Int32)), tc_I G q_4 10 (fun _ => (0 : Int32)), tc_I G q_5 10 (fun _ => (0 : Int32))] := hD
  refine lv_aload_n hx hb dX0_init_44 rfl (lv_at hl 0 rfl) ?_
  refine lv_bipush (v := 10) hx hb dX0_init_45 (by decide) ?_
  refine va_newa (atype := .double) hx hb (hts (.arrayClass .double) (List.mem_of_getElem? (i := 10) rfl)) (ty := .double) rfl hK hP hD hS hA (N' := 10) (a0 := (10, .inr (.inr (.inr (.inl (fun _ => (0 : UInt64))))))) (fun _ => rfl) (by decide) (by decide) (Nat.le_of_ble_eq_true rfl) (Nat.le_of_ble_eq_true rfl) (Nat.le_of_ble_eq_true rfl) dX0_init_47 (fun q_6 cA H hK9 hP hD hS => ?_)
  obtain rfl : cA = G.2.2.1 := tm_cA_D hK9
  have hP : va_P G.1 vwCl [(a0, .inr (0, [.ref q_1, .ref q_2, .ref q_3, .ref q_4, .ref q_5, .null, .int 0])), tc_I G q_1 10 (fun _ => (0 : Int32)), tc_I G q_2 10 (fun _ => (0 : Int32)), tc_I G q_3 10 (fun _ => (0 : Int32)), tc_I G q_4 10 (fun _ => (0 : Int32)), tc_I G q_5 10 (fun _ => (0 : Int32)), tc_D G q_6 10 (fun _ => (0 : UInt64))] H := hP
  have hD : va_D A [(a0, .inr (0, [.ref q_1, .ref q_2, .ref q_3, .ref q_4, .ref q_5, .null, .int 0])), tc_I G q_1 10 (fun _ => (0 : Int32)), tc_I G q_2 10 (fun _ => (0 : Int32)), tc_I G q_3 10 (fun _ => (0 : Int32)), tc_I G q_4 10 (fun _ => (0 : Int32)), tc_I G q_5 10 (fun _ => (0 : Int32)), tc_D G q_6 10 (fun _ => (0 : UInt64))] := hD
  refine W.widen (k := 6) (n := 60) (Nat.le_of_ble_eq_true rfl) (Nat.le_of_ble_eq_true rfl) ?_
  refine va_putF (D := G.1) (ci := 0) (v := .ref q_6) (ty := .array .double) (C := RX0) (T := TX0) (N := 7) hx hb hts hiX0 tyX0 tyX0_ok nmX0 hown hK hP hD hS 0 rfl rfl 5 (by decide) (hts (.fieldLink RX0 27 "TideMill$Lots" "left" "[D") (List.mem_of_getElem? (i := 11) rfl)) (fun _ h9 => h9) rfl hin rfl (by decide +kernel) rfl rfl (Nat.le_of_ble_eq_true rfl) dX0_init_49 (fun H locs hP hD hS => ?_)
  have hP : va_P G.1 vwCl [tc_X0 a0 q_1 q_2 q_3 q_4 q_5 q_6 0, tc_I G q_1 10 (fun _ => (0 : Int32)), tc_I G q_2 10 (fun _ => (0 : Int32)), tc_I G q_3 10 (fun _ => (0 : Int32)), tc_I G q_4 10 (fun _ => (0 : Int32)), tc_I G q_5 10 (fun _ => (0 : Int32)), tc_D G q_6 10 (fun _ => (0 : UInt64))] H := hP
  have hD : va_D A [tc_X0 a0 q_1 q_2 q_3 q_4 q_5 q_6 0, tc_I G q_1 10 (fun _ => (0 : Int32)), tc_I G q_2 10 (fun _ => (0 : Int32)), tc_I G q_3 10 (fun _ => (0 : Int32)), tc_I G q_4 10 (fun _ => (0 : Int32)), tc_I G q_5 10 (fun _ => (0 : Int32)), tc_D G q_6 10 (fun _ => (0 : UInt64))] := hD
  exact W.vret hx hb hr (fun t ht hW => ⟨⟨(), rfl, trivial, q_1, q_2, q_3, q_4, q_5, q_6, by rw [ht]; exact hP, hD⟩, hS.F ht⟩) hS.2.2 dX0_init_52
set_option maxHeartbeats 4000000 in
set_option maxRecDepth 100000 in
theorem c_X2_init (l : Launch) (G : tm_G) (a0 : Nat) (sz : Nat)  : Met l yX2_init wsX2_init ({ frames := 1, cells := 4, slots := 12, locals := 24 }) (va_Pc [.ref a0] (tm_B G [(a0, .inr (2, [.null, .null, .null, .null, .int 0]))] sz)) (va_Qv (fun (_ : Unit) => True) (fun (_ : Unit) (t : State) => ∃ (q_1 q_2 q_3 q_4 : Nat), va_P G.1 vwCl [tc_X2 a0 q_1 q_2 q_3 q_4 0, tc_F G q_1 3 (fun _ => (0 : UInt32)), tc_I G q_2 3 (fun _ => (0 : Int32)), tc_I G q_3 3 (fun _ => (0 : Int32)), tc_I G q_4 3 (fun _ => (0 : Int32))] t.heap ∧ va_D (va_A [(a0, .inr (2, [.null, .null, .null, .null, .int 0]))] sz) [tc_X2 a0 q_1 q_2 q_3 q_4 0, tc_F G q_1 3 (fun _ => (0 : UInt32)), tc_I G q_2 3 (fun _ => (0 : Int32)), tc_I G q_3 3 (fun _ => (0 : Int32)), tc_I G q_4 3 (fun _ => (0 : Int32))]) (va_A [(a0, .inr (2, [.null, .null, .null, .null, .int 0]))] sz)) 4 12 (va_A [(a0, .inr (2, [.null, .null, .null, .null, .int 0]))] sz) := by
  refine Met.ofW (cc := cX2_init) (maxL := 1) (ret := none) (by decide) rfl ?_
  intro p e s m args below meth c s₁ B hml hv
  obtain ⟨rfl, hsz, hP, hK, hD0, hN, hV⟩ := hv
  have hx := B.exec
  have hb := B.bytes
  have hr := B.returns
  have hts := atoms_spec (ws := wsX2_init) B.pre
  have hown : s.vm.findClass RX2 = some m.cls := findClass_of_methodNamed B.named
  have hlocks := B.notSynchronized
  have hin : meth.name = "<init>" := (name_of_methodNamed B.named B.method).1
  subst hsz
  have hiX2 : ∀ w ∈ u_ws RX2 TX2 5, w ∈ wsX2_init := fun _ h => List.mem_cons_of_mem _ (List.mem_append_right _ h)
  have hD := hD0.self (sz := s.heap.size)
  generalize hAe : va_A [(a0, .inr (2, [.null, .null, .null, .null, .int 0]))] s.heap.size = A at hD hV ⊢
  have hA : ∀ q : Nat, s.heap.size ≤ q → A q := fun q h => by rw [← hAe]; exact Or.inr h
  have hS : va_S A s.heap s.heap [] := va_S.rf
  have hl := lv_entry ([.ref a0]) (n := 1) (Nat.le_of_ble_eq_true rfl)
  rw [lg_entry_eq]
  generalize (lg_sl ([.ref a0]) ++ List.replicate (1 - (lg_sl ([.ref a0])).length) Slot.unset).toArray = ls at hl ⊢
  have hl : lv_has ls 1 [(0, .ref a0)] := hl
  refine lv_aload_n hx hb dX2_init_0 rfl (lv_at hl 0 rfl) ?_
  refine W.objInit hx hb hown (hts (.methodLink RX2 3 objectInit) (List.mem_of_getElem? (i := 1) rfl)) (hts (.instanceMethod objectInit) (List.mem_of_getElem? (i := 2) rfl)) (hts _ (List.mem_of_getElem? (i := 3) rfl)) rfl (by rw [hml]; exact hl.1) rfl dX2_init_1 (Nat.le_of_ble_eq_true rfl) (Nat.le_of_ble_eq_true rfl) ?_
  refine W.eq (g2 := F0 m 4 ls []) rfl ?_
  refine lv_aload_n hx hb dX2_init_4 rfl (lv_at hl 0 rfl) ?_
  refine lv_iconst (v := 3) hx hb dX2_init_5 (by decide) ?_
  refine va_newa (atype := .float) hx hb (hts (.arrayClass .float) (List.mem_of_getElem? (i := 4) rfl)) (ty := .float) rfl hK hP hD hS hA (N' := 3) (a0 := (3, .inr (.inr (.inl (fun _ => (0 : UInt32)))))) (fun _ => rfl) (by decide) (by decide) (Nat.le_of_ble_eq_true rfl) (Nat.le_of_ble_eq_true rfl) (Nat.le_of_ble_eq_true rfl) dX2_init_6 (fun q_1 cA H hK9 hP hD hS => ?_)
  obtain rfl : cA = G.2.2.2.1 := tm_cA_F hK9
  have hP : va_P G.1 vwCl [(a0, .inr (2, [.null, .null, .null, .null, .int 0])), tc_F G q_1 3 (fun _ => (0 : UInt32))] H := hP
  have hD : va_D A [(a0, .inr (2, [.null, .null, .null, .null, .int 0])), tc_F G q_1 3 (fun _ => (0 : UInt32))] := hD
  refine W.widen (k := 1) (n := 3) (Nat.le_of_ble_eq_true rfl) (Nat.le_of_ble_eq_true rfl) ?_
  refine va_putF (D := G.1) (ci := 2) (v := .ref q_1) (ty := .array .float) (C := RX2) (T := TX2) (N := 5) hx hb hts hiX2 tyX2 tyX2_ok nmX2 hown hK hP hD hS 0 rfl rfl 0 (by decide) (hts (.fieldLink RX2 9 "TideMill$Pairs" "dull" "[F") (List.mem_of_getElem? (i := 5) rfl)) (fun _ h9 => h9) rfl hin rfl (by decide +kernel) rfl rfl (Nat.le_of_ble_eq_true rfl) dX2_init_8 (fun H locs hP hD hS => ?_)
  have hP : va_P G.1 vwCl [(a0, .inr (2, [.ref q_1, .null, .null, .null, .int 0])), tc_F G q_1 3 (fun _ => (0 : UInt32))] H := hP
  have hD : va_D A [(a0, .inr (2, [.ref q_1, .null, .null, .null, .int 0])), tc_F G q_1 3 (fun _ => (0 : UInt32))] := hD
  refine lv_aload_n hx hb dX2_init_11 rfl (lv_at hl 0 rfl) ?_
  refine lv_iconst (v := 3) hx hb dX2_init_12 (by decide) ?_
  refine va_newa (atype := .int) hx hb (hts (.arrayClass .int) (List.mem_of_getElem? (i := 6) rfl)) (ty := .int) rfl hK hP hD hS hA (N' := 3) (a0 := (3, .inl (fun _ => (0 : Int32)))) (fun _ => rfl) (by decide) (by decide) (Nat.le_of_ble_eq_true rfl) (Nat.le_of_ble_eq_true rfl) (Nat.le_of_ble_eq_true rfl) dX2_init_13 (fun q_2 cA H hK9 hP hD hS => ?_)
  obtain rfl : cA = G.2.1 := tm_cA_I hK9
  have hP : va_P G.1 vwCl [(a0, .inr (2, [.ref q_1, .null, .null, .null, .int 0])), tc_F G q_1 3 (fun _ => (0 : UInt32)), tc_I G q_2 3 (fun _ => (0 : Int32))] H := hP
  have hD : va_D A [(a0, .inr (2, [.ref q_1, .null, .null, .null, .int 0])), tc_F G q_1 3 (fun _ => (0 : UInt32)), tc_I G q_2 3 (fun _ => (0 : Int32))] := hD
  refine W.widen (k := 2) (n := 6) (Nat.le_of_ble_eq_true rfl) (Nat.le_of_ble_eq_true rfl) ?_
  refine va_putF (D := G.1) (ci := 2) (v := .ref q_2) (ty := .array .int) (C := RX2) (T := TX2) (N := 5) hx hb hts hiX2 tyX2 tyX2_ok nmX2 hown hK hP hD hS 0 rfl rfl 1 (by decide) (hts (.fieldLink RX2 15 "TideMill$Pairs" "lot" "[I") (List.mem_of_getElem? (i := 7) rfl)) (fun _ h9 => h9) rfl hin rfl (by decide +kernel) rfl rfl (Nat.le_of_ble_eq_true rfl) dX2_init_15 (fun H locs hP hD hS => ?_)
  have hP : va_P G.1 vwCl [(a0, .inr (2, [.ref q_1, .ref q_2, .null, .null, .int 0])), tc_F G q_1 3 (fun _ => (0 : UInt32)), tc_I G q_2 3 (fun _ => (0 : Int32))] H := hP
  have hD : va_D A [(a0, .inr (2, [.ref q_1, .ref q_2, .null, .null, .int 0])), tc_F G q_1 3 (fun _ => (0 : UInt32)), tc_I G q_2 3 (fun _ => (0 : Int32))] := hD
  refine lv_aload_n hx hb dX2_init_18 rfl (lv_at hl 0 rfl) ?_
  refine lv_iconst (v := 3) hx hb dX2_init_19 (by decide) ?_
  refine va_newa (atype := .int) hx hb (hts (.arrayClass .int) (List.mem_of_getElem? (i := 6) rfl)) (ty := .int) rfl hK hP hD hS hA (N' := 3) (a0 := (3, .inl (fun _ => (0 : Int32)))) (fun _ => rfl) (by decide) (by decide) (Nat.le_of_ble_eq_true rfl) (Nat.le_of_ble_eq_true rfl) (Nat.le_of_ble_eq_true rfl) dX2_init_20 (fun q_3 cA H hK9 hP hD hS => ?_)
  obtain rfl : cA = G.2.1 := tm_cA_I hK9
  have hP : va_P G.1 vwCl [(a0, .inr (2, [.ref q_1, .ref q_2, .null, .null, .int 0])), tc_F G q_1 3 (fun _ => (0 : UInt32)), tc_I G q_2 3 (fun _ => (0 : Int32)), tc_I G q_3 3 (fun _ => (0 : Int32))] H := hP
  have hD : va_D A [(a0, .inr (2, [.ref q_1, .ref q_2, .null, .null, .int 0])), tc_F G q_1 3 (fun _ => (0 : UInt32)), tc_I G q_2 3 (fun _ => (0 : Int32)), tc_I G q_3 3 (fun _ => (0 : Int32))] := hD
  refine W.widen (k := 3) (n := 9) (Nat.le_of_ble_eq_true rfl) (Nat.le_of_ble_eq_true rfl) ?_
  refine va_putF (D := G.1) (ci := 2) (v := .ref q_3) (ty := .array .int) (C := RX2) (T := TX2) (N := 5) hx hb hts hiX2 tyX2 tyX2_ok nmX2 hown hK hP hD hS 0 rfl rfl 2 (by decide) (hts (.fieldLink RX2 19 "TideMill$Pairs" "dressing" "[I") (List.mem_of_getElem? (i := 8) rfl)) (fun _ h9 => h9) rfl hin rfl (by decide +kernel) rfl rfl (Nat.le_of_ble_eq_true rfl) dX2_init_22 (fun H locs hP hD hS => ?_)
  have hP : va_P G.1 vwCl [(a0, .inr (2, [.ref q_1, .ref q_2, .ref q_3, .null, .int 0])), tc_F G q_1 3 (fun _ => (0 : UInt32)), tc_I G q_2 3 (fun _ => (0 : Int32)), tc_I G q_3 3 (fun _ => (0 : Int32))] H := hP
  have hD : va_D A [(a0, .inr (2, [.ref q_1, .ref q_2, .ref q_3, .null, .int 0])), tc_F G q_1 3 (fun _ => (0 : UInt32)), tc_I G q_2 3 (fun _ => (0 : Int32)), tc_I G q_3 3 (fun _ => (0 : Int32))] := hD
  refine lv_aload_n hx hb dX2_init_25 rfl (lv_at hl 0 rfl) ?_
  refine lv_iconst (v := 3) hx hb dX2_init_26 (by decide) ?_
  refine va_newa (atype := .int) hx hb (hts (.arrayClass .int) (List.mem_of_getElem? (i := 6) rfl)) (ty := .int) rfl hK hP hD hS hA (N' := 3) (a0 := (3, .inl (fun _ => (0 : Int32)))) (fun _ => rfl) (by decide) (by decide) (Nat.le_of_ble_eq_true rfl) (Nat.le_of_ble_eq_true rfl) (Nat.le_of_ble_eq_true rfl) dX2_init_27 (fun q_4 cA H hK9 hP hD hS => ?_)
  obtain rfl : cA = G.2.1 := tm_cA_I hK9
  have hP : va_P G.1 vwCl [(a0, .inr (2, [.ref q_1, .ref q_2, .ref q_3, .null, .int 0])), tc_F G q_1 3 (fun _ => (0 : UInt32)), tc_I G q_2 3 (fun _ => (0 : Int32)), tc_I G q_3 3 (fun _ => (0 : Int32)), tc_I G q_4 3 (fun _ => (0 : Int32))] H := hP
  have hD : va_D A [(a0, .inr (2, [.ref q_1, .ref q_2, .ref q_3, .null, .int 0])), tc_F G q_1 3 (fun _ => (0 : UInt32)), tc_I G q_2 3 (fun _ => (0 : Int32)), tc_I G q_3 3 (fun _ => (0 : Int32)), tc_I G q_4 3 (fun _ => (0 : Int32))] := hD
  refine W.widen (k := 4) (n := 12) (Nat.le_of_ble_eq_true rfl) (Nat.le_of_ble_eq_true rfl) ?_
  refine va_putF (D := G.1) (ci := 2) (v := .ref q_4) (ty := .array .int) (C := RX2) (T := TX2) (N := 5) hx hb hts hiX2 tyX2 tyX2_ok nmX2 hown hK hP hD hS 0 rfl rfl 3 (by decide) (hts (.fieldLink RX2 22 "TideMill$Pairs" "sparks" "[I") (List.mem_of_getElem? (i := 9) rfl)) (fun _ h9 => h9) rfl hin rfl (by decide +kernel) rfl rfl (Nat.le_of_ble_eq_true rfl) dX2_init_29 (fun H locs hP hD hS => ?_)
  have hP : va_P G.1 vwCl [tc_X2 a0 q_1 q_2 q_3 q_4 0, tc_F G q_1 3 (fun _ => (0 : UInt32)), tc_I G q_2 3 (fun _ => (0 : Int32)), tc_I G q_3 3 (fun _ => (0 : Int32)), tc_I G q_4 3 (fun _ => (0 : Int32))] H := hP
  have hD : va_D A [tc_X2 a0 q_1 q_2 q_3 q_4 0, tc_F G q_1 3 (fun _ => (0 : UInt32)), tc_I G q_2 3 (fun _ => (0 : Int32)), tc_I G q_3 3 (fun _ => (0 : Int32)), tc_I G q_4 3 (fun _ => (0 : Int32))] := hD
  exact W.vret hx hb hr (fun t ht hW => ⟨⟨(), rfl, trivial, q_1, q_2, q_3, q_4, by rw [ht]; exact hP, hD⟩, hS.F ht⟩) hS.2.2 dX2_init_32
set_option maxHeartbeats 4000000 in
set_option maxRecDepth 100000 in
theorem c_X1_init (l : Launch) (G : tm_G) (a0 : Nat) (sz : Nat)  : Met l yX1_init wsX1_init ({ frames := 2, cells := 14, slots := 93, locals := 44 }) (va_Pc [.ref a0] (tm_B G [(a0, .inr (1, [.null, .null, .null, .null, .int 0, .int 0, .int 0]))] sz)) (va_Qv (fun (_ : Unit) => True) (fun (_ : Unit) (t : State) => ∃ (q_1 q_3 q_5 q_7 q_8 q_9 q_10 q_11 q_12 q_13 q_15 q_16 q_17 q_18 : Nat), va_P G.1 vwCl [tc_X1 a0 q_1 q_3 q_5 q_13 0 47 0, tc_X4 q_1 0 0 0, tc_X3 q_3 0 0 0 0 0 0, tc_X0 q_5 q_7 q_8 q_9 q_10 q_11 q_12 0, tc_I G q_7 10 (fun _ => (0 : Int32)), tc_I G q_8 10 (fun _ => (0 : Int32)), tc_I G q_9 10 (fun _ => (0 : Int32)), tc_I G q_10 10 (fun _ => (0 : Int32)), tc_I G q_11 10 (fun _ => (0 : Int32)), tc_D G q_12 10 (fun _ => (0 : UInt64)), tc_X2 q_13 q_15 q_16 q_17 q_18 0, tc_F G q_15 3 (fun _ => (0 : UInt32)), tc_I G q_16 3 (fun _ => (0 : Int32)), tc_I G q_17 3 (fun _ => (0 : Int32)), tc_I G q_18 3 (fun _ => (0 : Int32))] t.heap ∧ va_D (va_A [(a0, .inr (1, [.null, .null, .null, .null, .int 0, .int 0, .int 0]))] sz) [tc_X1 a0 q_1 q_3 q_5 q_13 0 47 0, tc_X4 q_1 0 0 0, tc_X3 q_3 0 0 0 0 0 0, tc_X0 q_5 q_7 q_8 q_9 q_10 q_11 q_12 0, tc_I G q_7 10 (fun _ => (0 : Int32)), tc_I G q_8 10 (fun _ => (0 : Int32)), tc_I G q_9 10 (fun _ => (0 : Int32)), tc_I G q_10 10 (fun _ => (0 : Int32)), tc_I G q_11 10 (fun _ => (0 : Int32)), tc_D G q_12 10 (fun _ => (0 : UInt64)), tc_X2 q_13 q_15 q_16 q_17 q_18 0, tc_F G q_15 3 (fun _ => (0 : UInt32)), tc_I G q_16 3 (fun _ => (0 : Int32)), tc_I G q_17 3 (fun _ => (0 : Int32)), tc_I G q_18 3 (fun _ => (0 : Int32))]) (va_A [(a0, .inr (1, [.null, .null, .null, .null, .int 0, .int 0, .int 0]))] sz)) 14 93 (va_A [(a0, .inr (1, [.null, .null, .null, .null, .int 0, .int 0, .int 0]))] sz) := by
  refine Met.ofW (cc := cX1_init) (maxL := 1) (ret := none) (by decide) rfl ?_
  intro p e s m args below meth c s₁ B hml hv
  obtain ⟨rfl, hsz, hP, hK, hD0, hN, hV⟩ := hv
  have hx := B.exec
  have hb := B.bytes
  have hr := B.returns
  have hts := atoms_spec (ws := wsX1_init) B.pre
  have hown : s.vm.findClass RX1 = some m.cls := findClass_of_methodNamed B.named
  have hlocks := B.notSynchronized
  have hin : meth.name = "<init>" := (name_of_methodNamed B.named B.method).1
  subst hsz
  have hiX0 : ∀ w ∈ u_ws RX0 TX0 7, w ∈ wsX1_init := fun _ h => List.mem_cons_of_mem _ (List.mem_append_left _ (List.mem_append_right _ h))
  have hiX1 : ∀ w ∈ u_ws RX1 TX1 7, w ∈ wsX1_init := fun _ h => List.mem_cons_of_mem _ (List.mem_append_left _ (List.mem_append_left _ (List.mem_append_left _ (List.mem_append_right _ h))))
  have hiX2 : ∀ w ∈ u_ws RX2 TX2 5, w ∈ wsX1_init := fun _ h => List.mem_cons_of_mem _ (List.mem_append_right _ h)
  have hiX3 : ∀ w ∈ u_ws RX3 TX3 6, w ∈ wsX1_init := fun _ h => List.mem_cons_of_mem _ (List.mem_append_left _ (List.mem_append_left _ (List.mem_append_right _ h)))
  have hiX4 : ∀ w ∈ u_ws RX4 TX4 3, w ∈ wsX1_init := fun _ h => List.mem_cons_of_mem _ (List.mem_append_left _ (List.mem_append_left _ (List.mem_append_left _ (List.mem_append_left _ (List.mem_append_right _ h)))))
  have hD := hD0.self (sz := s.heap.size)
  generalize hAe : va_A [(a0, .inr (1, [.null, .null, .null, .null, .int 0, .int 0, .int 0]))] s.heap.size = A at hD hV ⊢
  have hA : ∀ q : Nat, s.heap.size ≤ q → A q := fun q h => by rw [← hAe]; exact Or.inr h
  have hS : va_S A s.heap s.heap [] := va_S.rf
  have hl := lv_entry ([.ref a0]) (n := 1) (Nat.le_of_ble_eq_true rfl)
  rw [lg_entry_eq]
  generalize (lg_sl ([.ref a0]) ++ List.replicate (1 - (lg_sl ([.ref a0])).length) Slot.unset).toArray = ls at hl ⊢
  have hl : lv_has ls 1 [(0, .ref a0)] := hl
  refine lv_aload_n hx hb dX1_init_0 rfl (lv_at hl 0 rfl) ?_
  refine W.objInit hx hb hown (hts (.methodLink RX1 3 objectInit) (List.mem_of_getElem? (i := 1) rfl)) (hts (.instanceMethod objectInit) (List.mem_of_getElem? (i := 2) rfl)) (hts _ (List.mem_of_getElem? (i := 3) rfl)) rfl (by rw [hml]; exact hl.1) rfl dX1_init_1 (Nat.le_of_ble_eq_true rfl) (Nat.le_of_ble_eq_true rfl) ?_
  refine W.eq (g2 := F0 m 4 ls []) rfl ?_
  refine lv_aload_n hx hb dX1_init_4 rfl (lv_at hl 0 rfl) ?_
  refine va_new (ci := 4) (fs := [.int 0, .int 0, .double 0]) (C := RX4) (T := TX4) (N := 3) hx hb hts hiX4 tyX4 tyX4_ok hown (hts (.classLink RX1 9 RX4) (List.mem_of_getElem? (i := 4) rfl)) (hts (.instantiable RX4 3) (List.mem_of_getElem? (i := 5) rfl)) (hts (.initialized RX4) (List.mem_of_getElem? (i := 6) rfl)) hK hP hD hS hA rfl (fun j hj => by rcases (show j = 0 ∨ j = 1 ∨ j = 2 by omega) with rfl | rfl | rfl <;> rfl) (Nat.le_of_ble_eq_true rfl) (Nat.le_of_ble_eq_true rfl) dX1_init_5 (fun q_1 H hP hD hS => ?_)
  have hP : va_P G.1 vwCl [(a0, .inr (1, [.null, .null, .null, .null, .int 0, .int 0, .int 0])), tc_X4 q_1 0 0 0] H := hP
  have hD : va_D A [(a0, .inr (1, [.null, .null, .null, .null, .int 0, .int 0, .int 0])), tc_X4 q_1 0 0 0] := hD
  refine W.widen (k := 1) (n := 3) (Nat.le_of_ble_eq_true rfl) (Nat.le_of_ble_eq_true rfl) ?_
  refine lv_dup hx hb dX1_init_8 rfl ?_
  have hPc := hP.sub (ws' := [tc_X4 q_1 0 0 0]) [1] rfl
  have hDc := hD.sub (ws' := [tc_X4 q_1 0 0 0]) [1] (by decide) rfl
  have hFc := va_free (wc := [tc_X4 q_1 0 0 0]) hD hS hA [1] rfl
  refine va_callv (va_runIN (As := []) (rest := [.ref q_1, .ref a0]) ⟨hx, hb, hml, hown, hts⟩ (c_X4_init l G q_1 H.size  ) ⟨va_cnB 0 hts gX1_init_X4_init_n11 rfl rfl rfl (tm_N_X1_11 hN) (hts (.initialized RX4) (List.mem_of_getElem? (i := 6) rfl)) (by decide +kernel) ⟨(Nat.le_of_ble_eq_true rfl), (Nat.le_of_ble_eq_true rfl)⟩, rfl, (hts (.instanceMethod yX4_init) (List.mem_of_getElem? (i := 22) rfl))⟩ (tm_preS hK hN hV hS hPc hDc hFc) rfl rfl hl.1 rfl (lv_room (Nat.le_of_ble_eq_true rfl)) dX1_init_9 ⟨(Nat.le_of_ble_eq_true rfl), (Nat.le_of_ble_eq_true rfl)⟩) hS (fun q _ h => hFc q h) hFc (fun u t H locs ht hvm hw_2 hB hz1 hk1 hS => ?_)
  obtain ⟨hP1, hD1⟩ := hB
  rw [ht] at hP1
  try dsimp only at hw_2
  obtain ⟨hP, hD⟩ := va_join (wr := [(a0, .inr (1, [.null, .null, .null, .null, .int 0, .int 0, .int 0]))]) (w1 := [tc_X4 q_1 0 0 0]) hP hD [1] [0] rfl rfl (by decide) (by decide) hk1 hFc hP1 hD1
  have hP : va_P G.1 vwCl [(a0, .inr (1, [.null, .null, .null, .null, .int 0, .int 0, .int 0])), tc_X4 q_1 0 0 0] H := hP
  have hD : va_D A [(a0, .inr (1, [.null, .null, .null, .null, .int 0, .int 0, .int 0])), tc_X4 q_1 0 0 0] := hD
  refine va_putF (D := G.1) (ci := 1) (v := .ref q_1) (ty := .object "TideMill$Sea") (C := RX1) (T := TX1) (N := 7) hx hb hts hiX1 tyX1 tyX1_ok nmX1 hown hK hP hD hS 0 rfl rfl 0 (by decide) (hts (.fieldLink RX1 12 "TideMill$Mill" "sea" "LTideMill$Sea;") (List.mem_of_getElem? (i := 7) rfl)) (fun _ h9 => h9) rfl hin rfl (by decide +kernel) rfl rfl (Nat.le_of_ble_eq_true rfl) dX1_init_12 (fun H locs hP hD hS => ?_)
  have hP : va_P G.1 vwCl [(a0, .inr (1, [.ref q_1, .null, .null, .null, .int 0, .int 0, .int 0])), tc_X4 q_1 0 0 0] H := hP
  have hD : va_D A [(a0, .inr (1, [.ref q_1, .null, .null, .null, .int 0, .int 0, .int 0])), tc_X4 q_1 0 0 0] := hD
  refine lv_aload_n hx hb dX1_init_15 rfl (lv_at hl 0 rfl) ?_
  refine va_new (ci := 3) (fs := [.double 0, .float 0, .int 0, .int 0, .int 0, .double 0]) (C := RX3) (T := TX3) (N := 6) hx hb hts hiX3 tyX3 tyX3_ok hown (hts (.classLink RX1 18 RX3) (List.mem_of_getElem? (i := 8) rfl)) (hts (.instantiable RX3 6) (List.mem_of_getElem? (i := 9) rfl)) (hts (.initialized RX3) (List.mem_of_getElem? (i := 10) rfl)) hK hP hD hS hA rfl (fun j hj => by rcases (show j = 0 ∨ j = 1 ∨ j = 2 ∨ j = 3 ∨ j = 4 ∨ j = 5 by omega) with rfl | rfl | rfl | rfl | rfl | rfl <;> rfl) (Nat.le_of_ble_eq_true rfl) (Nat.le_of_ble_eq_true rfl) dX1_init_16 (fun q_3 H hP hD hS => ?_)
  have hP : va_P G.1 vwCl [(a0, .inr (1, [.ref q_1, .null, .null, .null, .int 0, .int 0, .int 0])), tc_X4 q_1 0 0 0, tc_X3 q_3 0 0 0 0 0 0] H := hP
  have hD : va_D A [(a0, .inr (1, [.ref q_1, .null, .null, .null, .int 0, .int 0, .int 0])), tc_X4 q_1 0 0 0, tc_X3 q_3 0 0 0 0 0 0] := hD
  refine W.widen (k := 2) (n := 9) (Nat.le_of_ble_eq_true rfl) (Nat.le_of_ble_eq_true rfl) ?_
  refine lv_dup hx hb dX1_init_19 rfl ?_
  have hPc := hP.sub (ws' := [tc_X3 q_3 0 0 0 0 0 0]) [2] rfl
  have hDc := hD.sub (ws' := [tc_X3 q_3 0 0 0 0 0 0]) [2] (by decide) rfl
  have hFc := va_free (wc := [tc_X3 q_3 0 0 0 0 0 0]) hD hS hA [2] rfl
  refine va_callv (va_runIN (As := []) (rest := [.ref q_3, .ref a0]) ⟨hx, hb, hml, hown, hts⟩ (c_X3_init l G q_3 H.size  ) ⟨va_cnB 0 hts gX1_init_X3_init_n20 rfl rfl rfl (tm_N_X1_20 hN) (hts (.initialized RX3) (List.mem_of_getElem? (i := 10) rfl)) (by decide +kernel) ⟨(Nat.le_of_ble_eq_true rfl), (Nat.le_of_ble_eq_true rfl)⟩, rfl, (hts (.instanceMethod yX3_init) (List.mem_of_getElem? (i := 25) rfl))⟩ (tm_preS hK hN hV hS hPc hDc hFc) rfl rfl hl.1 rfl (lv_room (Nat.le_of_ble_eq_true rfl)) dX1_init_20 ⟨(Nat.le_of_ble_eq_true rfl), (Nat.le_of_ble_eq_true rfl)⟩) hS (fun q _ h => hFc q h) hFc (fun u t H locs ht hvm hw_4 hB hz1 hk1 hS => ?_)
  obtain ⟨hP1, hD1⟩ := hB
  rw [ht] at hP1
  try dsimp only at hw_4
  obtain ⟨hP, hD⟩ := va_join (wr := [(a0, .inr (1, [.ref q_1, .null, .null, .null, .int 0, .int 0, .int 0])), tc_X4 q_1 0 0 0]) (w1 := [tc_X3 q_3 0 0 0 0 0 0]) hP hD [2] [0, 1] rfl rfl (by decide) (by decide) hk1 hFc hP1 hD1
  have hP : va_P G.1 vwCl [(a0, .inr (1, [.ref q_1, .null, .null, .null, .int 0, .int 0, .int 0])), tc_X4 q_1 0 0 0, tc_X3 q_3 0 0 0 0 0 0] H := hP
  have hD : va_D A [(a0, .inr (1, [.ref q_1, .null, .null, .null, .int 0, .int 0, .int 0])), tc_X4 q_1 0 0 0, tc_X3 q_3 0 0 0 0 0 0] := hD
  refine va_putF (D := G.1) (ci := 1) (v := .ref q_3) (ty := .object "TideMill$Pond") (C := RX1) (T := TX1) (N := 7) hx hb hts hiX1 tyX1 tyX1_ok nmX1 hown hK hP hD hS 0 rfl rfl 1 (by decide) (hts (.fieldLink RX1 21 "TideMill$Mill" "pond" "LTideMill$Pond;") (List.mem_of_getElem? (i := 11) rfl)) (fun _ h9 => h9) rfl hin rfl (by decide +kernel) rfl rfl (Nat.le_of_ble_eq_true rfl) dX1_init_23 (fun H locs hP hD hS => ?_)
  have hP : va_P G.1 vwCl [(a0, .inr (1, [.ref q_1, .ref q_3, .null, .null, .int 0, .int 0, .int 0])), tc_X4 q_1 0 0 0, tc_X3 q_3 0 0 0 0 0 0] H := hP
  have hD : va_D A [(a0, .inr (1, [.ref q_1, .ref q_3, .null, .null, .int 0, .int 0, .int 0])), tc_X4 q_1 0 0 0, tc_X3 q_3 0 0 0 0 0 0] := hD
  refine lv_aload_n hx hb dX1_init_26 rfl (lv_at hl 0 rfl) ?_
  refine va_new (ci := 0) (fs := [.null, .null, .null, .null, .null, .null, .int 0]) (C := RX0) (T := TX0) (N := 7) hx hb hts hiX0 tyX0 tyX0_ok hown (hts (.classLink RX1 25 RX0) (List.mem_of_getElem? (i := 12) rfl)) (hts (.instantiable RX0 7) (List.mem_of_getElem? (i := 13) rfl)) (hts (.initialized RX0) (List.mem_of_getElem? (i := 14) rfl)) hK hP hD hS hA rfl (fun j hj => by rcases (show j = 0 ∨ j = 1 ∨ j = 2 ∨ j = 3 ∨ j = 4 ∨ j = 5 ∨ j = 6 by omega) with rfl | rfl | rfl | rfl | rfl | rfl | rfl <;> rfl) (Nat.le_of_ble_eq_true rfl) (Nat.le_of_ble_eq_true rfl) dX1_init_27 (fun q_5 H hP hD hS => ?_)
  have hP : va_P G.1 vwCl [(a0, .inr (1, [.ref q_1, .ref q_3, .null, .null, .int 0, .int 0, .int 0])), tc_X4 q_1 0 0 0, tc_X3 q_3 0 0 0 0 0 0, (q_5, .inr (0, [.null, .null, .null, .null, .null, .null, .int 0]))] H := hP
  have hD : va_D A [(a0, .inr (1, [.ref q_1, .ref q_3, .null, .null, .int 0, .int 0, .int 0])), tc_X4 q_1 0 0 0, tc_X3 q_3 0 0 0 0 0 0, (q_5, .inr (0, [.null, .null, .null, .null, .null, .null, .int 0]))] := hD
  refine W.widen (k := 3) (n := 16) (Nat.le_of_ble_eq_true rfl) (Nat.le_of_ble_eq_true rfl) ?_
  refine lv_dup hx hb dX1_init_30 rfl ?_
  have hPc := hP.sub (ws' := [(q_5, .inr (0, [.null, .null, .null, .null, .null, .null, .int 0]))]) [3] rfl
  have hDc := hD.sub (ws' := [(q_5, .inr (0, [.null, .null, .null, .null, .null, .null, .int 0]))]) [3] (by decide) rfl
  have hFc := va_free (wc := [(q_5, .inr (0, [.null, .null, .null, .null, .null, .null, .int 0]))]) hD hS hA [3] rfl
  refine va_callv (va_runIN (As := []) (rest := [.ref q_5, .ref a0]) ⟨hx, hb, hml, hown, hts⟩ (c_X0_init l G q_5 H.size  ) ⟨va_cnB 0 hts gX1_init_X0_init_n27 rfl rfl rfl (tm_N_X1_27 hN) (hts (.initialized RX0) (List.mem_of_getElem? (i := 14) rfl)) (by decide +kernel) ⟨(Nat.le_of_ble_eq_true rfl), (Nat.le_of_ble_eq_true rfl)⟩, rfl, (hts (.instanceMethod yX0_init) (List.mem_of_getElem? (i := 28) rfl))⟩ (tm_preS hK hN hV hS hPc hDc hFc) rfl rfl hl.1 rfl (lv_room (Nat.le_of_ble_eq_true rfl)) dX1_init_31 ⟨(Nat.le_of_ble_eq_true rfl), (Nat.le_of_ble_eq_true rfl)⟩) hS (fun q _ h => hFc q h) hFc (fun u t H locs ht hvm hw_6 hB hz1 hk1 hS => ?_)
  obtain ⟨q_7, q_8, q_9, q_10, q_11, q_12, hP1, hD1⟩ := hB
  rw [ht] at hP1
  obtain ⟨hP, hD⟩ := va_join (wr := [(a0, .inr (1, [.ref q_1, .ref q_3, .null, .null, .int 0, .int 0, .int 0])), tc_X4 q_1 0 0 0, tc_X3 q_3 0 0 0 0 0 0]) (w1 := [tc_X0 q_5 q_7 q_8 q_9 q_10 q_11 q_12 0, tc_I G q_7 10 (fun _ => (0 : Int32)), tc_I G q_8 10 (fun _ => (0 : Int32)), tc_I G q_9 10 (fun _ => (0 : Int32)), tc_I G q_10 10 (fun _ => (0 : Int32)), tc_I G q_11 10 (fun _ => (0 : Int32)), tc_D G q_12 10 (fun _ => (0 : UInt64))]) hP hD [3] [0, 1, 2] rfl rfl (by decide) (by decide) hk1 hFc hP1 hD1
  have hP : va_P G.1 vwCl [(a0, .inr (1, [.ref q_1, .ref q_3, .null, .null, .int 0, .int 0, .int 0])), tc_X4 q_1 0 0 0, tc_X3 q_3 0 0 0 0 0 0, tc_X0 q_5 q_7 q_8 q_9 q_10 q_11 q_12 0, tc_I G q_7 10 (fun _ => (0 : Int32)), tc_I G q_8 10 (fun _ => (0 : Int32)), tc_I G q_9 10 (fun _ => (0 : Int32)), tc_I G q_10 10 (fun _ => (0 : Int32)), tc_I G q_11 10 (fun _ => (0 : Int32)), tc_D G q_12 10 (fun _ => (0 : UInt64))] H := hP
  have hD : va_D A [(a0, .inr (1, [.ref q_1, .ref q_3, .null, .null, .int 0, .int 0, .int 0])), tc_X4 q_1 0 0 0, tc_X3 q_3 0 0 0 0 0 0, tc_X0 q_5 q_7 q_8 q_9 q_10 q_11 q_12 0, tc_I G q_7 10 (fun _ => (0 : Int32)), tc_I G q_8 10 (fun _ => (0 : Int32)), tc_I G q_9 10 (fun _ => (0 : Int32)), tc_I G q_10 10 (fun _ => (0 : Int32)), tc_I G q_11 10 (fun _ => (0 : Int32)), tc_D G q_12 10 (fun _ => (0 : UInt64))] := hD
  refine W.widen (k := 9) (n := 76) (Nat.le_of_ble_eq_true rfl) (Nat.le_of_ble_eq_true rfl) ?_
  refine va_putF (D := G.1) (ci := 1) (v := .ref q_5) (ty := .object "TideMill$Lots") (C := RX1) (T := TX1) (N := 7) hx hb hts hiX1 tyX1 tyX1_ok nmX1 hown hK hP hD hS 0 rfl rfl 2 (by decide) (hts (.fieldLink RX1 28 "TideMill$Mill" "lots" "LTideMill$Lots;") (List.mem_of_getElem? (i := 15) rfl)) (fun _ h9 => h9) rfl hin rfl (by decide +kernel) rfl rfl (Nat.le_of_ble_eq_true rfl) dX1_init_34 (fun H locs hP hD hS => ?_)
  have hP : va_P G.1 vwCl [(a0, .inr (1, [.ref q_1, .ref q_3, .ref q_5, .null, .int 0, .int 0, .int 0])), tc_X4 q_1 0 0 0, tc_X3 q_3 0 0 0 0 0 0, tc_X0 q_5 q_7 q_8 q_9 q_10 q_11 q_12 0, tc_I G q_7 10 (fun _ => (0 : Int32)), tc_I G q_8 10 (fun _ => (0 : Int32)), tc_I G q_9 10 (fun _ => (0 : Int32)), tc_I G q_10 10 (fun _ => (0 : Int32)), tc_I G q_11 10 (fun _ => (0 : Int32)), tc_D G q_12 10 (fun _ => (0 : UInt64))] H := hP
  have hD : va_D A [(a0, .inr (1, [.ref q_1, .ref q_3, .ref q_5, .null, .int 0, .int 0, .int 0])), tc_X4 q_1 0 0 0, tc_X3 q_3 0 0 0 0 0 0, tc_X0 q_5 q_7 q_8 q_9 q_10 q_11 q_12 0, tc_I G q_7 10 (fun _ => (0 : Int32)), tc_I G q_8 10 (fun _ => (0 : Int32)), tc_I G q_9 10 (fun _ => (0 : Int32)), tc_I G q_10 10 (fun _ => (0 : Int32)), tc_I G q_11 10 (fun _ => (0 : Int32)), tc_D G q_12 10 (fun _ => (0 : UInt64))] := hD
  refine lv_aload_n hx hb dX1_init_37 rfl (lv_at hl 0 rfl) ?_
  refine va_new (ci := 2) (fs := [.null, .null, .null, .null, .int 0]) (C := RX2) (T := TX2) (N := 5) hx hb hts hiX2 tyX2 tyX2_ok hown (hts (.classLink RX1 32 RX2) (List.mem_of_getElem? (i := 16) rfl)) (hts (.instantiable RX2 5) (List.mem_of_getElem? (i := 17) rfl)) (hts (.initialized RX2) (List.mem_of_getElem? (i := 18) rfl)) hK hP hD hS hA rfl (fun j hj => by rcases (show j = 0 ∨ j = 1 ∨ j = 2 ∨ j = 3 ∨ j = 4 by omega) with rfl | rfl | rfl | rfl | rfl <;> rfl) (Nat.le_of_ble_eq_true rfl) (Nat.le_of_ble_eq_true rfl) dX1_init_38 (fun q_13 H hP hD hS => ?_)
  have hP : va_P G.1 vwCl [(a0, .inr (1, [.ref q_1, .ref q_3, .ref q_5, .null, .int 0, .int 0, .int 0])), tc_X4 q_1 0 0 0, tc_X3 q_3 0 0 0 0 0 0, tc_X0 q_5 q_7 q_8 q_9 q_10 q_11 q_12 0, tc_I G q_7 10 (fun _ => (0 : Int32)), tc_I G q_8 10 (fun _ => (0 : Int32)), tc_I G q_9 10 (fun _ => (0 : Int32)), tc_I G q_10 10 (fun _ => (0 : Int32)), tc_I G q_11 10 (fun _ => (0 : Int32)), tc_D G q_12 10 (fun _ => (0 : UInt64)), (q_13, .inr (2, [.null, .null, .null, .null, .int 0]))] H := hP
  have hD : va_D A [(a0, .inr (1, [.ref q_1, .ref q_3, .ref q_5, .null, .int 0, .int 0, .int 0])), tc_X4 q_1 0 0 0, tc_X3 q_3 0 0 0 0 0 0, tc_X0 q_5 q_7 q_8 q_9 q_10 q_11 q_12 0, tc_I G q_7 10 (fun _ => (0 : Int32)), tc_I G q_8 10 (fun _ => (0 : Int32)), tc_I G q_9 10 (fun _ => (0 : Int32)), tc_I G q_10 10 (fun _ => (0 : Int32)), tc_I G q_11 10 (fun _ => (0 : Int32)), tc_D G q_12 10 (fun _ => (0 : UInt64)), (q_13, .inr (2, [.null, .null, .null, .null, .int 0]))] := hD
  refine W.widen (k := 10) (n := 81) (Nat.le_of_ble_eq_true rfl) (Nat.le_of_ble_eq_true rfl) ?_
  refine lv_dup hx hb dX1_init_41 rfl ?_
  have hPc := hP.sub (ws' := [(q_13, .inr (2, [.null, .null, .null, .null, .int 0]))]) [10] rfl
  have hDc := hD.sub (ws' := [(q_13, .inr (2, [.null, .null, .null, .null, .int 0]))]) [10] (by decide) rfl
  have hFc := va_free (wc := [(q_13, .inr (2, [.null, .null, .null, .null, .int 0]))]) hD hS hA [10] rfl
  refine va_callv (va_runIN (As := []) (rest := [.ref q_13, .ref a0]) ⟨hx, hb, hml, hown, hts⟩ (c_X2_init l G q_13 H.size  ) ⟨va_cnB 0 hts gX1_init_X2_init_n34 rfl rfl rfl (tm_N_X1_34 hN) (hts (.initialized RX2) (List.mem_of_getElem? (i := 18) rfl)) (by decide +kernel) ⟨(Nat.le_of_ble_eq_true rfl), (Nat.le_of_ble_eq_true rfl)⟩, rfl, (hts (.instanceMethod yX2_init) (List.mem_of_getElem? (i := 39) rfl))⟩ (tm_preS hK hN hV hS hPc hDc hFc) rfl rfl hl.1 rfl (lv_room (Nat.le_of_ble_eq_true rfl)) dX1_init_42 ⟨(Nat.le_of_ble_eq_true rfl), (Nat.le_of_ble_eq_true rfl)⟩) hS (fun q _ h => hFc q h) hFc (fun u t H locs ht hvm hw_14 hB hz1 hk1 hS => ?_)
  obtain ⟨q_15, q_16, q_17, q_18, hP1, hD1⟩ := hB
  rw [ht] at hP1
  obtain ⟨hP, hD⟩ := va_join (wr := [(a0, .inr (1, [.ref q_1, .ref q_3, .ref q_5, .null, .int 0, .int 0, .int 0])), tc_X4 q_1 0 0 0, tc_X3 q_3 0 0 0 0 0 0, tc_X0 q_5 q_7 q_8 q_9 q_10 q_11 q_12 0, tc_I G q_7 10 (fun _ => (0 : Int32)), tc_I G q_8 10 (fun _ => (0 : Int32)), tc_I G q_9 10 (fun _ => (0 : Int32)), tc_I G q_10 10 (fun _ => (0 : Int32)), tc_I G q_11 10 (fun _ => (0 : Int32)), tc_D G q_12 10 (fun _ => (0 : UInt64))]) (w1 := [tc_X2 q_13 q_15 q_16 q_17 q_18 0, tc_F G q_15 3 (fun _ => (0 : UInt32)), tc_I G q_16 3 (fun _ => (0 : Int32)), tc_I G q_17 3 (fun _ => (0 : Int32)), tc_I G q_18 3 (fun _ => (0 : Int32))]) hP hD [10] [0, 1, 2, 3, 4, 5, 6, 7, 8, 9] rfl rfl (by decide) (by decide) hk1 hFc hP1 hD1
  have hP : va_P G.1 vwCl [(a0, .inr (1, [.ref q_1, .ref q_3, .ref q_5, .null, .int 0, .int 0, .int 0])), tc_X4 q_1 0 0 0, tc_X3 q_3 0 0 0 0 0 0, tc_X0 q_5 q_7 q_8 q_9 q_10 q_11 q_12 0, tc_I G q_7 10 (fun _ => (0 : Int32)), tc_I G q_8 10 (fun _ => (0 : Int32)), tc_I G q_9 10 (fun _ => (0 : Int32)), tc_I G q_10 10 (fun _ => (0 : Int32)), tc_I G q_11 10 (fun _ => (0 : Int32)), tc_D G q_12 10 (fun _ => (0 : UInt64)), tc_X2 q_13 q_15 q_16 q_17 q_18 0, tc_F G q_15 3 (fun _ => (0 : UInt32)), tc_I G q_16 3 (fun _ => (0 : Int32)), tc_I G q_17 3 (fun _ => (0 : Int32)), tc_I G q_18 3 (fun _ => (0 : Int32))] H := hP
  have hD : va_D A [(a0, .inr (1, [.ref q_1, .ref q_3, .ref q_5, .null, .int 0, .int 0, .int 0])), tc_X4 q_1 0 0 0, tc_X3 q_3 0 0 0 0 0 0, tc_X0 q_5 q_7 q_8 q_9 q_10 q_11 q_12 0, tc_I G q_7 10 (fun _ => (0 : Int32)), tc_I G q_8 10 (fun _ => (0 : Int32)), tc_I G q_9 10 (fun _ => (0 : Int32)), tc_I G q_10 10 (fun _ => (0 : Int32)), tc_I G q_11 10 (fun _ => (0 : Int32)), tc_D G q_12 10 (fun _ => (0 : UInt64)), tc_X2 q_13 q_15 q_16 q_17 q_18 0, tc_F G q_15 3 (fun _ => (0 : UInt32)), tc_I G q_16 3 (fun _ => (0 : Int32)), tc_I G q_17 3 (fun _ => (0 : Int32)), tc_I G q_18 3 (fun _ => (0 : Int32))] := hD
  refine W.widen (k := 14) (n := 93) (Nat.le_of_ble_eq_true rfl) (Nat.le_of_ble_eq_true rfl) ?_
  refine va_putF (D := G.1) (ci := 1) (v := .ref q_13) (ty := .object "TideMill$Pairs") (C := RX1) (T := TX1) (N := 7) hx hb hts hiX1 tyX1 tyX1_ok nmX1 hown hK hP hD hS 0 rfl rfl 3 (by decide) (hts (.fieldLink RX1 35 "TideMill$Mill" "pairs" "LTideMill$Pairs;") (List.mem_of_getElem? (i := 19) rfl)) (fun _ h9 => h9) rfl hin rfl (by decide +kernel) rfl rfl (Nat.le_of_ble_eq_true rfl) dX1_init_45 (fun H locs hP hD hS => ?_)
  have hP : va_P G.1 vwCl [tc_X1 a0 q_1 q_3 q_5 q_13 0 0 0, tc_X4 q_1 0 0 0, tc_X3 q_3 0 0 0 0 0 0, tc_X0 q_5 q_7 q_8 q_9 q_10 q_11 q_12 0, tc_I G q_7 10 (fun _ => (0 : Int32)), tc_I G q_8 10 (fun _ => (0 : Int32)), tc_I G q_9 10 (fun _ => (0 : Int32)), tc_I G q_10 10 (fun _ => (0 : Int32)), tc_I G q_11 10 (fun _ => (0 : Int32)), tc_D G q_12 10 (fun _ => (0 : UInt64)), tc_X2 q_13 q_15 q_16 q_17 q_18 0, tc_F G q_15 3 (fun _ => (0 : UInt32)), tc_I G q_16 3 (fun _ => (0 : Int32)), tc_I G q_17 3 (fun _ => (0 : Int32)), tc_I G q_18 3 (fun _ => (0 : Int32))] H := hP
  have hD : va_D A [tc_X1 a0 q_1 q_3 q_5 q_13 0 0 0, tc_X4 q_1 0 0 0, tc_X3 q_3 0 0 0 0 0 0, tc_X0 q_5 q_7 q_8 q_9 q_10 q_11 q_12 0, tc_I G q_7 10 (fun _ => (0 : Int32)), tc_I G q_8 10 (fun _ => (0 : Int32)), tc_I G q_9 10 (fun _ => (0 : Int32)), tc_I G q_10 10 (fun _ => (0 : Int32)), tc_I G q_11 10 (fun _ => (0 : Int32)), tc_D G q_12 10 (fun _ => (0 : UInt64)), tc_X2 q_13 q_15 q_16 q_17 q_18 0, tc_F G q_15 3 (fun _ => (0 : UInt32)), tc_I G q_16 3 (fun _ => (0 : Int32)), tc_I G q_17 3 (fun _ => (0 : Int32)), tc_I G q_18 3 (fun _ => (0 : Int32))] := hD
  refine lv_aload_n hx hb dX1_init_48 rfl (lv_at hl 0 rfl) ?_
  refine lv_iconst (v := 0) hx hb dX1_init_49 (by decide) ?_
  refine va_put (D := G.1) (ci := 1) (v := .int 0) (ty := .int) (C := RX1) (T := TX1) (N := 7) hx hb hts hiX1 tyX1 tyX1_ok nmX1 hown hK hP hD hS 0 rfl rfl 4 (by decide) (hts (.fieldLink RX1 39 "TideMill$Mill" "firstHour" "I") (List.mem_of_getElem? (i := 20) rfl)) (fun _ h9 => h9) rfl (by decide +kernel) rfl rfl (Nat.le_of_ble_eq_true rfl) dX1_init_50 (fun H locs hP hD hS => ?_)
  have hP : va_P G.1 vwCl [tc_X1 a0 q_1 q_3 q_5 q_13 0 0 0, tc_X4 q_1 0 0 0, tc_X3 q_3 0 0 0 0 0 0, tc_X0 q_5 q_7 q_8 q_9 q_10 q_11 q_12 0, tc_I G q_7 10 (fun _ => (0 : Int32)), tc_I G q_8 10 (fun _ => (0 : Int32)), tc_I G q_9 10 (fun _ => (0 : Int32)), tc_I G q_10 10 (fun _ => (0 : Int32)), tc_I G q_11 10 (fun _ => (0 : Int32)), tc_D G q_12 10 (fun _ => (0 : UInt64)), tc_X2 q_13 q_15 q_16 q_17 q_18 0, tc_F G q_15 3 (fun _ => (0 : UInt32)), tc_I G q_16 3 (fun _ => (0 : Int32)), tc_I G q_17 3 (fun _ => (0 : Int32)), tc_I G q_18 3 (fun _ => (0 : Int32))] H := hP
  have hD : va_D A [tc_X1 a0 q_1 q_3 q_5 q_13 0 0 0, tc_X4 q_1 0 0 0, tc_X3 q_3 0 0 0 0 0 0, tc_X0 q_5 q_7 q_8 q_9 q_10 q_11 q_12 0, tc_I G q_7 10 (fun _ => (0 : Int32)), tc_I G q_8 10 (fun _ => (0 : Int32)), tc_I G q_9 10 (fun _ => (0 : Int32)), tc_I G q_10 10 (fun _ => (0 : Int32)), tc_I G q_11 10 (fun _ => (0 : Int32)), tc_D G q_12 10 (fun _ => (0 : UInt64)), tc_X2 q_13 q_15 q_16 q_17 q_18 0, tc_F G q_15 3 (fun _ => (0 : UInt32)), tc_I G q_16 3 (fun _ => (0 : Int32)), tc_I G q_17 3 (fun _ => (0 : Int32)), tc_I G q_18 3 (fun _ => (0 : Int32))] := hD
  refine lv_aload_n hx hb dX1_init_53 rfl (lv_at hl 0 rfl) ?_
  refine lv_bipush (v := 47) hx hb dX1_init_54 (by decide) ?_
  refine va_put (D := G.1) (ci := 1) (v := .int 47) (ty := .int) (C := RX1) (T := TX1) (N := 7) hx hb hts hiX1 tyX1 tyX1_ok nmX1 hown hK hP hD hS 0 rfl rfl 5 (by decide) (hts (.fieldLink RX1 43 "TideMill$Mill" "lastHour" "I") (List.mem_of_getElem? (i := 21) rfl)) (fun _ h9 => h9) rfl (by decide +kernel) rfl rfl (Nat.le_of_ble_eq_true rfl) dX1_init_56 (fun H locs hP hD hS => ?_)
  have hP : va_P G.1 vwCl [tc_X1 a0 q_1 q_3 q_5 q_13 0 47 0, tc_X4 q_1 0 0 0, tc_X3 q_3 0 0 0 0 0 0, tc_X0 q_5 q_7 q_8 q_9 q_10 q_11 q_12 0, tc_I G q_7 10 (fun _ => (0 : Int32)), tc_I G q_8 10 (fun _ => (0 : Int32)), tc_I G q_9 10 (fun _ => (0 : Int32)), tc_I G q_10 10 (fun _ => (0 : Int32)), tc_I G q_11 10 (fun _ => (0 : Int32)), tc_D G q_12 10 (fun _ => (0 : UInt64)), tc_X2 q_13 q_15 q_16 q_17 q_18 0, tc_F G q_15 3 (fun _ => (0 : UInt32)), tc_I G q_16 3 (fun _ => (0 : Int32)), tc_I G q_17 3 (fun _ => (0 : Int32)), tc_I G q_18 3 (fun _ => (0 : Int32))] H := hP
  have hD : va_D A [tc_X1 a0 q_1 q_3 q_5 q_13 0 47 0, tc_X4 q_1 0 0 0, tc_X3 q_3 0 0 0 0 0 0, tc_X0 q_5 q_7 q_8 q_9 q_10 q_11 q_12 0, tc_I G q_7 10 (fun _ => (0 : Int32)), tc_I G q_8 10 (fun _ => (0 : Int32)), tc_I G q_9 10 (fun _ => (0 : Int32)), tc_I G q_10 10 (fun _ => (0 : Int32)), tc_I G q_11 10 (fun _ => (0 : Int32)), tc_D G q_12 10 (fun _ => (0 : UInt64)), tc_X2 q_13 q_15 q_16 q_17 q_18 0, tc_F G q_15 3 (fun _ => (0 : UInt32)), tc_I G q_16 3 (fun _ => (0 : Int32)), tc_I G q_17 3 (fun _ => (0 : Int32)), tc_I G q_18 3 (fun _ => (0 : Int32))] := hD
  exact W.vret hx hb hr (fun t ht hW => ⟨⟨(), rfl, trivial, q_1, q_3, q_5, q_7, q_8, q_9, q_10, q_11, q_12, q_13, q_15, q_16, q_17, q_18, by rw [ht]; exact hP, hD⟩, hS.F ht⟩) hS.2.2 dX1_init_59
set_option maxHeartbeats 4000000 in
set_option maxRecDepth 100000 in
theorem c_X5_init (l : Launch) (G : tm_G) (a0 : Nat) (sz : Nat)  : Met l yX5_init wsX5_init ({ frames := 3, cells := 30, slots := 200, locals := 64 }) (va_Pc [.ref a0] (tm_B G [(a0, .inr (5, [.null, .null, .int 0, .int 0, .int 0, .double 0]))] sz)) (va_Qv (fun (_ : Unit) => True) (fun (_ : Unit) (t : State) => ∃ (q_1 q_3 q_4 q_5 q_6 q_7 q_8 q_9 q_10 q_11 q_12 q_13 q_14 q_15 q_16 q_17 q_19 q_20 q_21 q_22 q_23 q_24 q_25 q_26 q_27 q_28 q_29 q_30 q_31 q_32 : Nat), va_P G.1 vwCl [tc_X5 a0 q_1 q_17 0 0 0 0, tc_X1 q_1 q_3 q_4 q_5 q_12 0 47 0, tc_X4 q_3 0 0 0, tc_X3 q_4 0 0 0 0 0 0, tc_X0 q_5 q_6 q_7 q_8 q_9 q_10 q_11 0, tc_I G q_6 10 (fun _ => (0 : Int32)), tc_I G q_7 10 (fun _ => (0 : Int32)), tc_I G q_8 10 (fun _ => (0 : Int32)), tc_I G q_9 10 (fun _ => (0 : Int32)), tc_I G q_10 10 (fun _ => (0 : Int32)), tc_D G q_11 10 (fun _ => (0 : UInt64)), tc_X2 q_12 q_13 q_14 q_15 q_16 0, tc_F G q_13 3 (fun _ => (0 : UInt32)), tc_I G q_14 3 (fun _ => (0 : Int32)), tc_I G q_15 3 (fun _ => (0 : Int32)), tc_I G q_16 3 (fun _ => (0 : Int32)), tc_X1 q_17 q_19 q_20 q_21 q_28 0 47 0, tc_X4 q_19 0 0 0, tc_X3 q_20 0 0 0 0 0 0, tc_X0 q_21 q_22 q_23 q_24 q_25 q_26 q_27 0, tc_I G q_22 10 (fun _ => (0 : Int32)), tc_I G q_23 10 (fun _ => (0 : Int32)), tc_I G q_24 10 (fun _ => (0 : Int32)), tc_I G q_25 10 (fun _ => (0 : Int32)), tc_I G q_26 10 (fun _ => (0 : Int32)), tc_D G q_27 10 (fun _ => (0 : UInt64)), tc_X2 q_28 q_29 q_30 q_31 q_32 0, tc_F G q_29 3 (fun _ => (0 : UInt32)), tc_I G q_30 3 (fun _ => (0 : Int32)), tc_I G q_31 3 (fun _ => (0 : Int32)), tc_I G q_32 3 (fun _ => (0 : Int32))] t.heap ∧ va_D (va_A [(a0, .inr (5, [.null, .null, .int 0, .int 0, .int 0, .double 0]))] sz) [tc_X5 a0 q_1 q_17 0 0 0 0, tc_X1 q_1 q_3 q_4 q_5 q_12 0 47 0, tc_X4 q_3 0 0 0, tc_X3 q_4 0 0 0 0 0 0, tc_X0 q_5 q_6 q_7 q_8 q_9 q_10 q_11 0, tc_I G q_6 10 (fun _ => (0 : Int32)), tc_I G q_7 10 (fun _ => (0 : Int32)), tc_I G q_8 10 (fun _ => (0 : Int32)), tc_I G q_9 10 (fun _ => (0 : Int32)), tc_I G q_10 10 (fun _ => (0 : Int32)), tc_D G q_11 10 (fun _ => (0 : UInt64)), tc_X2 q_12 q_13 q_14 q_15 q_16 0, tc_F G q_13 3 (fun _ => (0 : UInt32)), tc_I G q_14 3 (fun _ => (0 : Int32)), tc_I G q_15 3 (fun _ => (0 : Int32)), tc_I G q_16 3 (fun _ => (0 : Int32)), tc_X1 q_17 q_19 q_20 q_21 q_28 0 47 0, tc_X4 q_19 0 0 0, tc_X3 q_20 0 0 0 0 0 0, tc_X0 q_21 q_22 q_23 q_24 q_25 q_26 q_27 0, tc_I G q_22 10 (fun _ => (0 : Int32)), tc_I G q_23 10 (fun _ => (0 : Int32)), tc_I G q_24 10 (fun _ => (0 : Int32)), tc_I G q_25 10 (fun _ => (0 : Int32)), tc_I G q_26 10 (fun _ => (0 : Int32)), tc_D G q_27 10 (fun _ => (0 : UInt64)), tc_X2 q_28 q_29 q_30 q_31 q_32 0, tc_F G q_29 3 (fun _ => (0 : UInt32)), tc_I G q_30 3 (fun _ => (0 : Int32)), tc_I G q_31 3 (fun _ => (0 : Int32)), tc_I G q_32 3 (fun _ => (0 : Int32))]) (va_A [(a0, .inr (5, [.null, .null, .int 0, .int 0, .int 0, .double 0]))] sz)) 30 200 (va_A [(a0, .inr (5, [.null, .null, .int 0, .int 0, .int 0, .double 0]))] sz) := by
  refine Met.ofW (cc := cX5_init) (maxL := 1) (ret := none) (by decide) rfl ?_
  intro p e s m args below meth c s₁ B hml hv
  obtain ⟨rfl, hsz, hP, hK, hD0, hN, hV⟩ := hv
  have hx := B.exec
  have hb := B.bytes
  have hr := B.returns
  have hts := atoms_spec (ws := wsX5_init) B.pre
  have hown : s.vm.findClass RX5 = some m.cls := findClass_of_methodNamed B.named
  have hlocks := B.notSynchronized
  have hin : meth.name = "<init>" := (name_of_methodNamed B.named B.method).1
  subst hsz
  have hiX1 : ∀ w ∈ u_ws RX1 TX1 7, w ∈ wsX5_init := fun _ h => List.mem_cons_of_mem _ (List.mem_append_left _ (List.mem_append_left _ (List.mem_append_left _ (List.mem_append_left _ (List.mem_append_left _ (List.mem_append_right _ h))))))
  have hiX5 : ∀ w ∈ u_ws RX5 TX5 6, w ∈ wsX5_init := fun _ h => List.mem_cons_of_mem _ (List.mem_append_left _ (List.mem_append_left _ (List.mem_append_left _ (List.mem_append_left _ (List.mem_append_right _ h)))))
  have hD := hD0.self (sz := s.heap.size)
  generalize hAe : va_A [(a0, .inr (5, [.null, .null, .int 0, .int 0, .int 0, .double 0]))] s.heap.size = A at hD hV ⊢
  have hA : ∀ q : Nat, s.heap.size ≤ q → A q := fun q h => by rw [← hAe]; exact Or.inr h
  have hS : va_S A s.heap s.heap [] := va_S.rf
  have hl := lv_entry ([.ref a0]) (n := 1) (Nat.le_of_ble_eq_true rfl)
  rw [lg_entry_eq]
  generalize (lg_sl ([.ref a0]) ++ List.replicate (1 - (lg_sl ([.ref a0])).length) Slot.unset).toArray = ls at hl ⊢
  have hl : lv_has ls 1 [(0, .ref a0)] := hl
  refine lv_aload_n hx hb dX5_init_0 rfl (lv_at hl 0 rfl) ?_
  refine W.objInit hx hb hown (hts (.methodLink RX5 1 objectInit) (List.mem_of_getElem? (i := 1) rfl)) (hts (.instanceMethod objectInit) (List.mem_of_getElem? (i := 2) rfl)) (hts _ (List.mem_of_getElem? (i := 3) rfl)) rfl (by rw [hml]; exact hl.1) rfl dX5_init_1 (Nat.le_of_ble_eq_true rfl) (Nat.le_of_ble_eq_true rfl) ?_
  refine W.eq (g2 := F0 m 4 ls []) rfl ?_
  refine lv_aload_n hx hb dX5_init_4 rfl (lv_at hl 0 rfl) ?_
  refine va_new (ci := 1) (fs := [.null, .null, .null, .null, .int 0, .int 0, .int 0]) (C := RX1) (T := TX1) (N := 7) hx hb hts hiX1 tyX1 tyX1_ok hown (hts (.classLink RX5 7 RX1) (List.mem_of_getElem? (i := 4) rfl)) (hts (.instantiable RX1 7) (List.mem_of_getElem? (i := 5) rfl)) (hts (.initialized RX1) (List.mem_of_getElem? (i := 6) rfl)) hK hP hD hS hA rfl (fun j hj => by rcases (show j = 0 ∨ j = 1 ∨ j = 2 ∨ j = 3 ∨ j = 4 ∨ j = 5 ∨ j = 6 by omega) with rfl | rfl | rfl | rfl | rfl | rfl | rfl <;> rfl) (Nat.le_of_ble_eq_true rfl) (Nat.le_of_ble_eq_true rfl) dX5_init_5 (fun q_1 H hP hD hS => ?_)
  have hP : va_P G.1 vwCl [(a0, .inr (5, [.null, .null, .int 0, .int 0, .int 0, .double 0])), (q_1, .inr (1, [.null, .null, .null, .null, .int 0, .int 0, .int 0]))] H := hP
  have hD : va_D A [(a0, .inr (5, [.null, .null, .int 0, .int 0, .int 0, .double 0])), (q_1, .inr (1, [.null, .null, .null, .null, .int 0, .int 0, .int 0]))] := hD
  refine W.widen (k := 1) (n := 7) (Nat.le_of_ble_eq_true rfl) (Nat.le_of_ble_eq_true rfl) ?_
  refine lv_dup hx hb dX5_init_8 rfl ?_
  have hPc := hP.sub (ws' := [(q_1, .inr (1, [.null, .null, .null, .null, .int 0, .int 0, .int 0]))]) [1] rfl
  have hDc := hD.sub (ws' := [(q_1, .inr (1, [.null, .null, .null, .null, .int 0, .int 0, .int 0]))]) [1] (by decide) rfl
  have hFc := va_free (wc := [(q_1, .inr (1, [.null, .null, .null, .null, .int 0, .int 0, .int 0]))]) hD hS hA [1] rfl
  refine va_callv (va_runIN (As := []) (rest := [.ref q_1, .ref a0]) ⟨hx, hb, hml, hown, hts⟩ (c_X1_init l G q_1 H.size  ) ⟨va_cnB 0 hts gX5_init_X1_init_n9 rfl rfl rfl (tm_N_X5_9 hN) (hts (.initialized RX1) (List.mem_of_getElem? (i := 6) rfl)) (by decide +kernel) ⟨(Nat.le_of_ble_eq_true rfl), (Nat.le_of_ble_eq_true rfl)⟩, rfl, (hts (.instanceMethod yX1_init) (List.mem_of_getElem? (i := 9) rfl))⟩ (tm_preS hK hN hV hS hPc hDc hFc) rfl rfl hl.1 rfl (lv_room (Nat.le_of_ble_eq_true rfl)) dX5_init_9 ⟨(Nat.le_of_ble_eq_true rfl), (Nat.le_of_ble_eq_true rfl)⟩) hS (fun q _ h => hFc q h) hFc (fun u t H locs ht hvm hw_2 hB hz1 hk1 hS => ?_)
  obtain ⟨q_3, q_4, q_5, q_6, q_7, q_8, q_9, q_10, q_11, q_12, q_13, q_14, q_15, q_16, hP1, hD1⟩ := hB
  rw [ht] at hP1
  obtain ⟨hP, hD⟩ := va_join (wr := [(a0, .inr (5, [.null, .null, .int 0, .int 0, .int 0, .double 0]))]) (w1 := [tc_X1 q_1 q_3 q_4 q_5 q_12 0 47 0, tc_X4 q_3 0 0 0, tc_X3 q_4 0 0 0 0 0 0, tc_X0 q_5 q_6 q_7 q_8 q_9 q_10 q_11 0, tc_I G q_6 10 (fun _ => (0 : Int32)), tc_I G q_7 10 (fun _ => (0 : Int32)), tc_I G q_8 10 (fun _ => (0 : Int32)), tc_I G q_9 10 (fun _ => (0 : Int32)), tc_I G q_10 10 (fun _ => (0 : Int32)), tc_D G q_11 10 (fun _ => (0 : UInt64)), tc_X2 q_12 q_13 q_14 q_15 q_16 0, tc_F G q_13 3 (fun _ => (0 : UInt32)), tc_I G q_14 3 (fun _ => (0 : Int32)), tc_I G q_15 3 (fun _ => (0 : Int32)), tc_I G q_16 3 (fun _ => (0 : Int32))]) hP hD [1] [0] rfl rfl (by decide) (by decide) hk1 hFc hP1 hD1
  have hP : va_P G.1 vwCl [(a0, .inr (5, [.null, .null, .int 0, .int 0, .int 0, .double 0])), tc_X1 q_1 q_3 q_4 q_5 q_12 0 47 0, tc_X4 q_3 0 0 0, tc_X3 q_4 0 0 0 0 0 0, tc_X0 q_5 q_6 q_7 q_8 q_9 q_10 q_11 0, tc_I G q_6 10 (fun _ => (0 : Int32)), tc_I G q_7 10 (fun _ => (0 : Int32)), tc_I G q_8 10 (fun _ => (0 : Int32)), tc_I G q_9 10 (fun _ => (0 : Int32)), tc_I G q_10 10 (fun _ => (0 : Int32)), tc_D G q_11 10 (fun _ => (0 : UInt64)), tc_X2 q_12 q_13 q_14 q_15 q_16 0, tc_F G q_13 3 (fun _ => (0 : UInt32)), tc_I G q_14 3 (fun _ => (0 : Int32)), tc_I G q_15 3 (fun _ => (0 : Int32)), tc_I G q_16 3 (fun _ => (0 : Int32))] H := hP
  have hD : va_D A [(a0, .inr (5, [.null, .null, .int 0, .int 0, .int 0, .double 0])), tc_X1 q_1 q_3 q_4 q_5 q_12 0 47 0, tc_X4 q_3 0 0 0, tc_X3 q_4 0 0 0 0 0 0, tc_X0 q_5 q_6 q_7 q_8 q_9 q_10 q_11 0, tc_I G q_6 10 (fun _ => (0 : Int32)), tc_I G q_7 10 (fun _ => (0 : Int32)), tc_I G q_8 10 (fun _ => (0 : Int32)), tc_I G q_9 10 (fun _ => (0 : Int32)), tc_I G q_10 10 (fun _ => (0 : Int32)), tc_D G q_11 10 (fun _ => (0 : UInt64)), tc_X2 q_12 q_13 q_14 q_15 q_16 0, tc_F G q_13 3 (fun _ => (0 : UInt32)), tc_I G q_14 3 (fun _ => (0 : Int32)), tc_I G q_15 3 (fun _ => (0 : Int32)), tc_I G q_16 3 (fun _ => (0 : Int32))] := hD
  refine W.widen (k := 15) (n := 100) (Nat.le_of_ble_eq_true rfl) (Nat.le_of_ble_eq_true rfl) ?_
  refine va_putF (D := G.1) (ci := 5) (v := .ref q_1) (ty := .object "TideMill$Mill") (C := RX5) (T := TX5) (N := 6) hx hb hts hiX5 tyX5 tyX5_ok nmX5 hown hK hP hD hS 0 rfl rfl 0 (by decide) (hts (.fieldLink RX5 10 "TideMill" "mill" "LTideMill$Mill;") (List.mem_of_getElem? (i := 7) rfl)) (fun _ h9 => h9) rfl hin rfl (by decide +kernel) rfl rfl (Nat.le_of_ble_eq_true rfl) dX5_init_12 (fun H locs hP hD hS => ?_)
  have hP : va_P G.1 vwCl [(a0, .inr (5, [.ref q_1, .null, .int 0, .int 0, .int 0, .double 0])), tc_X1 q_1 q_3 q_4 q_5 q_12 0 47 0, tc_X4 q_3 0 0 0, tc_X3 q_4 0 0 0 0 0 0, tc_X0 q_5 q_6 q_7 q_8 q_9 q_10 q_11 0, tc_I G q_6 10 (fun _ => (0 : Int32)), tc_I G q_7 10 (fun _ => (0 : Int32)), tc_I G q_8 10 (fun _ => (0 : Int32)), tc_I G q_9 10 (fun _ => (0 : Int32)), tc_I G q_10 10 (fun _ => (0 : Int32)), tc_D G q_11 10 (fun _ => (0 : UInt64)), tc_X2 q_12 q_13 q_14 q_15 q_16 0, tc_F G q_13 3 (fun _ => (0 : UInt32)), tc_I G q_14 3 (fun _ => (0 : Int32)), tc_I G q_15 3 (fun _ => (0 : Int32)), tc_I G q_16 3 (fun _ => (0 : Int32))] H := hP
  have hD : va_D A [(a0, .inr (5, [.ref q_1, .null, .int 0, .int 0, .int 0, .double 0])), tc_X1 q_1 q_3 q_4 q_5 q_12 0 47 0, tc_X4 q_3 0 0 0, tc_X3 q_4 0 0 0 0 0 0, tc_X0 q_5 q_6 q_7 q_8 q_9 q_10 q_11 0, tc_I G q_6 10 (fun _ => (0 : Int32)), tc_I G q_7 10 (fun _ => (0 : Int32)), tc_I G q_8 10 (fun _ => (0 : Int32)), tc_I G q_9 10 (fun _ => (0 : Int32)), tc_I G q_10 10 (fun _ => (0 : Int32)), tc_D G q_11 10 (fun _ => (0 : UInt64)), tc_X2 q_12 q_13 q_14 q_15 q_16 0, tc_F G q_13 3 (fun _ => (0 : UInt32)), tc_I G q_14 3 (fun _ => (0 : Int32)), tc_I G q_15 3 (fun _ => (0 : Int32)), tc_I G q_16 3 (fun _ => (0 : Int32))] := hD
  refine lv_aload_n hx hb dX5_init_15 rfl (lv_at hl 0 rfl) ?_
  refine va_new (ci := 1) (fs := [.null, .null, .null, .null, .int 0, .int 0, .int 0]) (C := RX1) (T := TX1) (N := 7) hx hb hts hiX1 tyX1 tyX1_ok hown (hts (.classLink RX5 7 RX1) (List.mem_of_getElem? (i := 4) rfl)) (hts (.instantiable RX1 7) (List.mem_of_getElem? (i := 5) rfl)) (hts (.initialized RX1) (List.mem_of_getElem? (i := 6) rfl)) hK hP hD hS hA rfl (fun j hj => by rcases (show j = 0 ∨ j = 1 ∨ j = 2 ∨ j = 3 ∨ j = 4 ∨ j = 5 ∨ j = 6 by omega) with rfl | rfl | rfl | rfl | rfl | rfl | rfl <;> rfl) (Nat.le_of_ble_eq_true rfl) (Nat.le_of_ble_eq_true rfl) dX5_init_16 (fun q_17 H hP hD hS => ?_)
  have hP : va_P G.1 vwCl [(a0, .inr (5, [.ref q_1, .null, .int 0, .int 0, .int 0, .double 0])), tc_X1 q_1 q_3 q_4 q_5 q_12 0 47 0, tc_X4 q_3 0 0 0, tc_X3 q_4 0 0 0 0 0 0, tc_X0 q_5 q_6 q_7 q_8 q_9 q_10 q_11 0, tc_I G q_6 10 (fun _ => (0 : Int32)), tc_I G q_7 10 (fun _ => (0 : Int32)), tc_I G q_8 10 (fun _ => (0 : Int32)), tc_I G q_9 10 (fun _ => (0 : Int32)), tc_I G q_10 10 (fun _ => (0 : Int32)), tc_D G q_11 10 (fun _ => (0 : UInt64)), tc_X2 q_12 q_13 q_14 q_15 q_16 0, tc_F G q_13 3 (fun _ => (0 : UInt32)), tc_I G q_14 3 (fun _ => (0 : Int32)), tc_I G q_15 3 (fun _ => (0 : Int32)), tc_I G q_16 3 (fun _ => (0 : Int32)), (q_17, .inr (1, [.null, .null, .null, .null, .int 0, .int 0, .int 0]))] H := hP
  have hD : va_D A [(a0, .inr (5, [.ref q_1, .null, .int 0, .int 0, .int 0, .double 0])), tc_X1 q_1 q_3 q_4 q_5 q_12 0 47 0, tc_X4 q_3 0 0 0, tc_X3 q_4 0 0 0 0 0 0, tc_X0 q_5 q_6 q_7 q_8 q_9 q_10 q_11 0, tc_I G q_6 10 (fun _ => (0 : Int32)), tc_I G q_7 10 (fun _ => (0 : Int32)), tc_I G q_8 10 (fun _ => (0 : Int32)), tc_I G q_9 10 (fun _ => (0 : Int32)), tc_I G q_10 10 (fun _ => (0 : Int32)), tc_D G q_11 10 (fun _ => (0 : UInt64)), tc_X2 q_12 q_13 q_14 q_15 q_16 0, tc_F G q_13 3 (fun _ => (0 : UInt32)), tc_I G q_14 3 (fun _ => (0 : Int32)), tc_I G q_15 3 (fun _ => (0 : Int32)), tc_I G q_16 3 (fun _ => (0 : Int32)), (q_17, .inr (1, [.null, .null, .null, .null, .int 0, .int 0, .int 0]))] := hD
  refine W.widen (k := 16) (n := 107) (Nat.le_of_ble_eq_true rfl) (Nat.le_of_ble_eq_true rfl) ?_
  refine lv_dup hx hb dX5_init_19 rfl ?_
  have hPc := hP.sub (ws' := [(q_17, .inr (1, [.null, .null, .null, .null, .int 0, .int 0, .int 0]))]) [16] rfl
  have hDc := hD.sub (ws' := [(q_17, .inr (1, [.null, .null, .null, .null, .int 0, .int 0, .int 0]))]) [16] (by decide) rfl
  have hFc := va_free (wc := [(q_17, .inr (1, [.null, .null, .null, .null, .int 0, .int 0, .int 0]))]) hD hS hA [16] rfl
  refine va_callv (va_runIN (As := []) (rest := [.ref q_17, .ref a0]) ⟨hx, hb, hml, hown, hts⟩ (c_X1_init l G q_17 H.size  ) ⟨va_cnB 0 hts gX5_init_X1_init_n9 rfl rfl rfl (tm_N_X5_9 hN) (hts (.initialized RX1) (List.mem_of_getElem? (i := 6) rfl)) (by decide +kernel) ⟨(Nat.le_of_ble_eq_true rfl), (Nat.le_of_ble_eq_true rfl)⟩, rfl, (hts (.instanceMethod yX1_init) (List.mem_of_getElem? (i := 9) rfl))⟩ (tm_preS hK hN hV hS hPc hDc hFc) rfl rfl hl.1 rfl (lv_room (Nat.le_of_ble_eq_true rfl)) dX5_init_20 ⟨(Nat.le_of_ble_eq_true rfl), (Nat.le_of_ble_eq_true rfl)⟩) hS (fun q _ h => hFc q h) hFc (fun u t H locs ht hvm hw_18 hB hz1 hk1 hS => ?_)
  obtain ⟨q_19, q_20, q_21, q_22, q_23, q_24, q_25, q_26, q_27, q_28, q_29, q_30, q_31, q_32, hP1, hD1⟩ := hB
  rw [ht] at hP1
  obtain ⟨hP, hD⟩ := va_join (wr := [(a0, .inr (5, [.ref q_1, .null, .int 0, .int 0, .int 0, .double 0])), tc_X1 q_1 q_3 q_4 q_5 q_12 0 47 0, tc_X4 q_3 0 0 0, tc_X3 q_4 0 0 0 0 0 0, tc_X0 q_5 q_6 q_7 q_8 q_9 q_10 q_11 0, tc_I G q_6 10 (fun _ => (0 : Int32)), tc_I G q_7 10 (fun _ => (0 : Int32)), tc_I G q_8 10 (fun _ => (0 : Int32)), tc_I G q_9 10 (fun _ => (0 : Int32)), tc_I G q_10 10 (fun _ => (0 : Int32)), tc_D G q_11 10 (fun _ => (0 : UInt64)), tc_X2 q_12 q_13 q_14 q_15 q_16 0, tc_F G q_13 3 (fun _ => (0 : UInt32)), tc_I G q_14 3 (fun _ => (0 : Int32)), tc_I G q_15 3 (fun _ => (0 : Int32)), tc_I G q_16 3 (fun _ => (0 : Int32))]) (w1 := [tc_X1 q_17 q_19 q_20 q_21 q_28 0 47 0, tc_X4 q_19 0 0 0, tc_X3 q_20 0 0 0 0 0 0, tc_X0 q_21 q_22 q_23 q_24 q_25 q_26 q_27 0, tc_I G q_22 10 (fun _ => (0 : Int32)), tc_I G q_23 10 (fun _ => (0 : Int32)), tc_I G q_24 10 (fun _ => (0 : Int32)), tc_I G q_25 10 (fun _ => (0 : Int32)), tc_I G q_26 10 (fun _ => (0 : Int32)), tc_D G q_27 10 (fun _ => (0 : UInt64)), tc_X2 q_28 q_29 q_30 q_31 q_32 0, tc_F G q_29 3 (fun _ => (0 : UInt32)), tc_I G q_30 3 (fun _ => (0 : Int32)), tc_I G q_31 3 (fun _ => (0 : Int32)), tc_I G q_32 3 (fun _ => (0 : Int32))]) hP hD [16] [0, 1, 2, 3, 4, 5, 6, 7, 8, 9, 10, 11, 12, 13, 14, 15] rfl rfl (by decide) (by decide) hk1 hFc hP1 hD1
  have hP : va_P G.1 vwCl [(a0, .inr (5, [.ref q_1, .null, .int 0, .int 0, .int 0, .double 0])), tc_X1 q_1 q_3 q_4 q_5 q_12 0 47 0, tc_X4 q_3 0 0 0, tc_X3 q_4 0 0 0 0 0 0, tc_X0 q_5 q_6 q_7 q_8 q_9 q_10 q_11 0, tc_I G q_6 10 (fun _ => (0 : Int32)), tc_I G q_7 10 (fun _ => (0 : Int32)), tc_I G q_8 10 (fun _ => (0 : Int32)), tc_I G q_9 10 (fun _ => (0 : Int32)), tc_I G q_10 10 (fun _ => (0 : Int32)), tc_D G q_11 10 (fun _ => (0 : UInt64)), tc_X2 q_12 q_13 q_14 q_15 q_16 0, tc_F G q_13 3 (fun _ => (0 : UInt32)), tc_I G q_14 3 (fun _ => (0 : Int32)), tc_I G q_15 3 (fun _ => (0 : Int32)), tc_I G q_16 3 (fun _ => (0 : Int32)), tc_X1 q_17 q_19 q_20 q_21 q_28 0 47 0, tc_X4 q_19 0 0 0, tc_X3 q_20 0 0 0 0 0 0, tc_X0 q_21 q_22 q_23 q_24 q_25 q_26 q_27 0, tc_I G q_22 10 (fun _ => (0 : Int32)), tc_I G q_23 10 (fun _ => (0 : Int32)), tc_I G q_24 10 (fun _ => (0 : Int32)), tc_I G q_25 10 (fun _ => (0 : Int32)), tc_I G q_26 10 (fun _ => (0 : Int32)), tc_D G q_27 10 (fun _ => (0 : UInt64)), tc_X2 q_28 q_29 q_30 q_31 q_32 0, tc_F G q_29 3 (fun _ => (0 : UInt32)), tc_I G q_30 3 (fun _ => (0 : Int32)), tc_I G q_31 3 (fun _ => (0 : Int32)), tc_I G q_32 3 (fun _ => (0 : Int32))] H := hP
  have hD : va_D A [(a0, .inr (5, [.ref q_1, .null, .int 0, .int 0, .int 0, .double 0])), tc_X1 q_1 q_3 q_4 q_5 q_12 0 47 0, tc_X4 q_3 0 0 0, tc_X3 q_4 0 0 0 0 0 0, tc_X0 q_5 q_6 q_7 q_8 q_9 q_10 q_11 0, tc_I G q_6 10 (fun _ => (0 : Int32)), tc_I G q_7 10 (fun _ => (0 : Int32)), tc_I G q_8 10 (fun _ => (0 : Int32)), tc_I G q_9 10 (fun _ => (0 : Int32)), tc_I G q_10 10 (fun _ => (0 : Int32)), tc_D G q_11 10 (fun _ => (0 : UInt64)), tc_X2 q_12 q_13 q_14 q_15 q_16 0, tc_F G q_13 3 (fun _ => (0 : UInt32)), tc_I G q_14 3 (fun _ => (0 : Int32)), tc_I G q_15 3 (fun _ => (0 : Int32)), tc_I G q_16 3 (fun _ => (0 : Int32)), tc_X1 q_17 q_19 q_20 q_21 q_28 0 47 0, tc_X4 q_19 0 0 0, tc_X3 q_20 0 0 0 0 0 0, tc_X0 q_21 q_22 q_23 q_24 q_25 q_26 q_27 0, tc_I G q_22 10 (fun _ => (0 : Int32)), tc_I G q_23 10 (fun _ => (0 : Int32)), tc_I G q_24 10 (fun _ => (0 : Int32)), tc_I G q_25 10 (fun _ => (0 : Int32)), tc_I G q_26 10 (fun _ => (0 : Int32)), tc_D G q_27 10 (fun _ => (0 : UInt64)), tc_X2 q_28 q_29 q_30 q_31 q_32 0, tc_F G q_29 3 (fun _ => (0 : UInt32)), tc_I G q_30 3 (fun _ => (0 : Int32)), tc_I G q_31 3 (fun _ => (0 : Int32)), tc_I G q_32 3 (fun _ => (0 : Int32))] := hD
  refine W.widen (k := 30) (n := 200) (Nat.le_of_ble_eq_true rfl) (Nat.le_of_ble_eq_true rfl) ?_
  refine va_putF (D := G.1) (ci := 5) (v := .ref q_17) (ty := .object "TideMill$Mill") (C := RX5) (T := TX5) (N := 6) hx hb hts hiX5 tyX5 tyX5_ok nmX5 hown hK hP hD hS 0 rfl rfl 1 (by decide) (hts (.fieldLink RX5 16 "TideMill" "trial" "LTideMill$Mill;") (List.mem_of_getElem? (i := 8) rfl)) (fun _ h9 => h9) rfl hin rfl (by decide +kernel) rfl rfl (Nat.le_of_ble_eq_true rfl) dX5_init_23 (fun H locs hP hD hS => ?_)
  have hP : va_P G.1 vwCl [tc_X5 a0 q_1 q_17 0 0 0 0, tc_X1 q_1 q_3 q_4 q_5 q_12 0 47 0, tc_X4 q_3 0 0 0, tc_X3 q_4 0 0 0 0 0 0, tc_X0 q_5 q_6 q_7 q_8 q_9 q_10 q_11 0, tc_I G q_6 10 (fun _ => (0 : Int32)), tc_I G q_7 10 (fun _ => (0 : Int32)), tc_I G q_8 10 (fun _ => (0 : Int32)), tc_I G q_9 10 (fun _ => (0 : Int32)), tc_I G q_10 10 (fun _ => (0 : Int32)), tc_D G q_11 10 (fun _ => (0 : UInt64)), tc_X2 q_12 q_13 q_14 q_15 q_16 0, tc_F G q_13 3 (fun _ => (0 : UInt32)), tc_I G q_14 3 (fun _ => (0 : Int32)), tc_I G q_15 3 (fun _ => (0 : Int32)), tc_I G q_16 3 (fun _ => (0 : Int32)), tc_X1 q_17 q_19 q_20 q_21 q_28 0 47 0, tc_X4 q_19 0 0 0, tc_X3 q_20 0 0 0 0 0 0, tc_X0 q_21 q_22 q_23 q_24 q_25 q_26 q_27 0, tc_I G q_22 10 (fun _ => (0 : Int32)), tc_I G q_23 10 (fun _ => (0 : Int32)), tc_I G q_24 10 (fun _ => (0 : Int32)), tc_I G q_25 10 (fun _ => (0 : Int32)), tc_I G q_26 10 (fun _ => (0 : Int32)), tc_D G q_27 10 (fun _ => (0 : UInt64)), tc_X2 q_28 q_29 q_30 q_31 q_32 0, tc_F G q_29 3 (fun _ => (0 : UInt32)), tc_I G q_30 3 (fun _ => (0 : Int32)), tc_I G q_31 3 (fun _ => (0 : Int32)), tc_I G q_32 3 (fun _ => (0 : Int32))] H := hP
  have hD : va_D A [tc_X5 a0 q_1 q_17 0 0 0 0, tc_X1 q_1 q_3 q_4 q_5 q_12 0 47 0, tc_X4 q_3 0 0 0, tc_X3 q_4 0 0 0 0 0 0, tc_X0 q_5 q_6 q_7 q_8 q_9 q_10 q_11 0, tc_I G q_6 10 (fun _ => (0 : Int32)), tc_I G q_7 10 (fun _ => (0 : Int32)), tc_I G q_8 10 (fun _ => (0 : Int32)), tc_I G q_9 10 (fun _ => (0 : Int32)), tc_I G q_10 10 (fun _ => (0 : Int32)), tc_D G q_11 10 (fun _ => (0 : UInt64)), tc_X2 q_12 q_13 q_14 q_15 q_16 0, tc_F G q_13 3 (fun _ => (0 : UInt32)), tc_I G q_14 3 (fun _ => (0 : Int32)), tc_I G q_15 3 (fun _ => (0 : Int32)), tc_I G q_16 3 (fun _ => (0 : Int32)), tc_X1 q_17 q_19 q_20 q_21 q_28 0 47 0, tc_X4 q_19 0 0 0, tc_X3 q_20 0 0 0 0 0 0, tc_X0 q_21 q_22 q_23 q_24 q_25 q_26 q_27 0, tc_I G q_22 10 (fun _ => (0 : Int32)), tc_I G q_23 10 (fun _ => (0 : Int32)), tc_I G q_24 10 (fun _ => (0 : Int32)), tc_I G q_25 10 (fun _ => (0 : Int32)), tc_I G q_26 10 (fun _ => (0 : Int32)), tc_D G q_27 10 (fun _ => (0 : UInt64)), tc_X2 q_28 q_29 q_30 q_31 q_32 0, tc_F G q_29 3 (fun _ => (0 : UInt32)), tc_I G q_30 3 (fun _ => (0 : Int32)), tc_I G q_31 3 (fun _ => (0 : Int32)), tc_I G q_32 3 (fun _ => (0 : Int32))] := hD
  exact W.vret hx hb hr (fun t ht hW => ⟨⟨(), rfl, trivial, q_1, q_3, q_4, q_5, q_6, q_7, q_8, q_9, q_10, q_11, q_12, q_13, q_14, q_15, q_16, q_17, q_19, q_20, q_21, q_22, q_23, q_24, q_25, q_26, q_27, q_28, q_29, q_30, q_31, q_32, by rw [ht]; exact hP, hD⟩, hS.F ht⟩) hS.2.2 dX5_init_26
