set_option maxHeartbeats 4000000 in
set_option maxRecDepth 100000 in
theorem c_Jxa1e45_init_da8c8 (l : Launch) (G : tm_G) (a0 : Nat) (sz : Nat)  : Met l yJxa1e45_init_da8c8 wsJxa1e45_init_da8c8 ({ frames := 1, cells := 0, slots := 0, locals := 24 }) (va_Pc [.ref a0] (tm_B G [(a0, .inr (0, [.int 0, .null, .int 0]))] sz)) (va_Qv (fun (_ : Unit) => True) (fun (_ : Unit) (t : State) => va_P G.1 vwCl [(a0, .inr (0, [.int 0, .null, .int 0]))] t.heap ∧ va_D (va_A [(a0, .inr (0, [.int 0, .null, .int 0]))] sz) [(a0, .inr (0, [.int 0, .null, .int 0]))]) (va_A [(a0, .inr (0, [.int 0, .null, .int 0]))] sz)) 0 0 (va_A [(a0, .inr (0, [.int 0, .null, .int 0]))] sz) := by
  refine Met.ofW (cc := cJxa1e45_init_da8c8) (maxL := 1) (ret := none) (by decide) rfl ?_
  intro p e s m args below meth c s₁ B hml hv
  obtain ⟨rfl, hsz, hP, hK, hD0, hN, hV⟩ := hv
  have hx := B.exec
  have hb := B.bytes
  have hr := B.returns
  have hts := atoms_spec (ws := wsJxa1e45_init_da8c8) B.pre
  have hown : s.vm.findClass RJxa1e45 = some m.cls := findClass_of_methodNamed B.named
  have hlocks := B.notSynchronized
  have hin : meth.name = "<init>" := (name_of_methodNamed B.named B.method).1
  subst hsz
  have hD := hD0.self (sz := s.heap.size)
  generalize hAe : va_A [(a0, .inr (0, [.int 0, .null, .int 0]))] s.heap.size = A at hD hV ⊢
  have hA : ∀ q : Nat, s.heap.size ≤ q → A q := fun q h => by rw [← hAe]; exact Or.inr h
  have hS : va_S A s.heap s.heap [] := va_S.rf
  have hl := lv_entry ([.ref a0]) (n := 1) (Nat.le_of_ble_eq_true rfl)
  rw [lg_entry_eq]
  generalize (lg_sl ([.ref a0]) ++ List.replicate (1 - (lg_sl ([.ref a0])).length) Slot.unset).toArray = ls at hl ⊢
  have hl : lv_has ls 1 [(0, .ref a0)] := hl
  refine lv_aload_n hx hb dJxa1e45_init_da8c8_0 rfl (lv_at hl 0 rfl) ?_
  refine W.objInit hx hb hown (hts (.methodLink RJxa1e45 1 objectInit) (List.mem_of_getElem? (i := 1) rfl)) (hts (.instanceMethod objectInit) (List.mem_of_getElem? (i := 2) rfl)) (hts _ (List.mem_of_getElem? (i := 3) rfl)) rfl (by rw [hml]; exact hl.1) rfl dJxa1e45_init_da8c8_1 (Nat.le_of_ble_eq_true rfl) (Nat.le_of_ble_eq_true rfl) ?_
  refine W.eq (g2 := F0 m 4 ls []) rfl ?_
  exact W.vret hx hb hr (fun t ht hW => ⟨⟨(), rfl, trivial, by rw [ht]; exact hP, hD⟩, hS.F ht⟩) hS.2.2 dJxa1e45_init_da8c8_4
set_option maxHeartbeats 4000000 in
set_option maxRecDepth 100000 in
theorem c_Jxc12de_init_da8c8 (l : Launch) (G : tm_G) (a0 : Nat) (sz : Nat)  : Met l yJxc12de_init_da8c8 wsJxc12de_init_da8c8 ({ frames := 2, cells := 0, slots := 0, locals := 44 }) (va_Pc [.ref a0] (tm_B G [(a0, .inr (0, [.int 0, .null, .int 0]))] sz)) (va_Qv (fun (_ : Unit) => True) (fun (_ : Unit) (t : State) => va_P G.1 vwCl [(a0, .inr (0, [.int 0, .null, .int 0]))] t.heap ∧ va_D (va_A [(a0, .inr (0, [.int 0, .null, .int 0]))] sz) [(a0, .inr (0, [.int 0, .null, .int 0]))]) (va_A [(a0, .inr (0, [.int 0, .null, .int 0]))] sz)) 0 0 (va_A [(a0, .inr (0, [.int 0, .null, .int 0]))] sz) := by
  refine Met.ofW (cc := cJxc12de_init_da8c8) (maxL := 1) (ret := none) (by decide) rfl ?_
  intro p e s m args below meth c s₁ B hml hv
  obtain ⟨rfl, hsz, hP, hK, hD0, hN, hV⟩ := hv
  have hx := B.exec
  have hb := B.bytes
  have hr := B.returns
  have hts := atoms_spec (ws := wsJxc12de_init_da8c8) B.pre
  have hown : s.vm.findClass RJxc12de = some m.cls := findClass_of_methodNamed B.named
  have hlocks := B.notSynchronized
  have hin : meth.name = "<init>" := (name_of_methodNamed B.named B.method).1
  subst hsz
  have hiJx4a65c : ∀ w ∈ u_ws RJx4a65c TJx4a65c 3, w ∈ wsJxc12de_init_da8c8 := fun _ h => List.mem_cons_of_mem _ (List.mem_append_right _ h)
  have hD := hD0.self (sz := s.heap.size)
  generalize hAe : va_A [(a0, .inr (0, [.int 0, .null, .int 0]))] s.heap.size = A at hD hV ⊢
  have hA : ∀ q : Nat, s.heap.size ≤ q → A q := fun q h => by rw [← hAe]; exact Or.inr h
  have hS : va_S A s.heap s.heap [] := va_S.rf
  have hl := lv_entry ([.ref a0]) (n := 1) (Nat.le_of_ble_eq_true rfl)
  rw [lg_entry_eq]
  generalize (lg_sl ([.ref a0]) ++ List.replicate (1 - (lg_sl ([.ref a0])).length) Slot.unset).toArray = ls at hl ⊢
  have hl : lv_has ls 1 [(0, .ref a0)] := hl
  refine lv_aload_n hx hb dJxc12de_init_da8c8_0 rfl (lv_at hl 0 rfl) ?_
  have hPc := hP.sub (ws' := [(a0, .inr (0, [.int 0, .null, .int 0]))]) [0] rfl
  have hDc := hD.sub (ws' := [(a0, .inr (0, [.int 0, .null, .int 0]))]) [0] (by decide) rfl
  have hFc := va_free (wc := [(a0, .inr (0, [.int 0, .null, .int 0]))]) hD hS hA [0] rfl
  refine va_callv (va_runI (As := []) (rest := []) ⟨hx, hb, hml, hown, hts⟩ (c_Jxa1e45_init_da8c8 l G a0 s.heap.size  ) (cwI 0 hts gJxc12de_init_da8c8_Jxa1e45_init_da8c8 rfl rfl rfl (hts (.initialized RJxa1e45) (List.mem_of_getElem? (i := 4) rfl)) (hts (.methodLink RJxc12de 1 yJxa1e45_init_da8c8) (List.mem_of_getElem? (i := 2) rfl)) (hts (.instanceMethod yJxa1e45_init_da8c8) (List.mem_of_getElem? (i := 3) rfl)) rfl (by decide +kernel) ⟨(Nat.le_of_ble_eq_true rfl), (Nat.le_of_ble_eq_true rfl)⟩) (tm_preS hK hN hV hS hPc hDc hFc) rfl rfl hl.1 rfl (lv_room (Nat.le_of_ble_eq_true rfl)) dJxc12de_init_da8c8_1 ⟨(Nat.le_of_ble_eq_true rfl), (Nat.le_of_ble_eq_true rfl)⟩) hS (fun q _ h => hFc q h) hFc (fun u t H locs ht hvm hw_1 hB hz1 hk1 hS => ?_)
  obtain ⟨hP1, hD1⟩ := hB
  rw [ht] at hP1
  obtain ⟨hP, hD⟩ := va_join (wr := []) (w1 := [(a0, .inr (0, [.int 0, .null, .int 0]))]) hP hD [0] [] rfl rfl (by decide) (by decide) hk1 hFc hP1 hD1
  have hP : va_P G.1 vwCl [(a0, .inr (0, [.int 0, .null, .int 0]))] H := hP
  have hD : va_D A [(a0, .inr (0, [.int 0, .null, .int 0]))] := hD
  refine lv_aload_n hx hb dJxc12de_init_da8c8_4 rfl (lv_at hl 0 rfl) ?_
  refine lv_iconst (v := 0) hx hb dJxc12de_init_da8c8_5 (by decide) ?_
  refine va_put (D := G.1) (ci := 0) (v := .int 0) (ty := .int) (C := RJx4a65c) (T := TJx4a65c) (N := 3) hx hb hts hiJx4a65c tyJx4a65c tyJx4a65c_ok nmJx4a65c hown hK hP hD hS 0 rfl rfl 0 (by decide) (hts (.fieldLink RJxc12de 7 "java/util/AbstractList" "modCount" "I") (List.mem_of_getElem? (i := 1) rfl)) (fun _ h9 => h9) rfl (by decide +kernel) rfl rfl (Nat.le_of_ble_eq_true rfl) dJxc12de_init_da8c8_6 (fun H locs hP hD hS => ?_)
  have hP : va_P G.1 vwCl [(a0, .inr (0, [.int 0, .null, .int 0]))] H := hP
  have hD : va_D A [(a0, .inr (0, [.int 0, .null, .int 0]))] := hD
  exact W.vret hx hb hr (fun t ht hW => ⟨⟨(), rfl, trivial, by rw [ht]; exact hP, hD⟩, hS.F ht⟩) hS.2.2 dJxc12de_init_da8c8_9
set_option maxHeartbeats 4000000 in
set_option maxRecDepth 100000 in
theorem c_Jx4a65c_init_da8c8 (l : Launch) (G : tm_G) (a0 : Nat) (sz : Nat)  : Met l yJx4a65c_init_da8c8 wsJx4a65c_init_da8c8 ({ frames := 3, cells := 0, slots := 0, locals := 64 }) (va_Pc [.ref a0] (tm_B G [(a0, .inr (0, [.int 0, .null, .int 0]))] sz)) (va_Qv (fun (_ : Unit) => True) (fun (_ : Unit) (t : State) => va_P G.1 vwCl [tc_Jx4a65c a0 0 G.2.2.2.2.2.2.2 0] t.heap ∧ va_D (va_A [(a0, .inr (0, [.int 0, .null, .int 0]))] sz) [tc_Jx4a65c a0 0 G.2.2.2.2.2.2.2 0]) (va_A [(a0, .inr (0, [.int 0, .null, .int 0]))] sz)) 0 0 (va_A [(a0, .inr (0, [.int 0, .null, .int 0]))] sz) := by
  refine Met.ofW (cc := cJx4a65c_init_da8c8) (maxL := 1) (ret := none) (by decide) rfl ?_
  intro p e s m args below meth c s₁ B hml hv
  obtain ⟨rfl, hsz, hP, hK, hD0, hN, hV⟩ := hv
  have hx := B.exec
  have hb := B.bytes
  have hr := B.returns
  have hts := atoms_spec (ws := wsJx4a65c_init_da8c8) B.pre
  have hown : s.vm.findClass RJx4a65c = some m.cls := findClass_of_methodNamed B.named
  have hlocks := B.notSynchronized
  have hin : meth.name = "<init>" := (name_of_methodNamed B.named B.method).1
  subst hsz
  have hiJx4a65c : ∀ w ∈ u_ws RJx4a65c TJx4a65c 3, w ∈ wsJx4a65c_init_da8c8 := fun _ h => List.mem_cons_of_mem _ (List.mem_append_right _ h)
  have hD := hD0.self (sz := s.heap.size)
  generalize hAe : va_A [(a0, .inr (0, [.int 0, .null, .int 0]))] s.heap.size = A at hD hV ⊢
  have hA : ∀ q : Nat, s.heap.size ≤ q → A q := fun q h => by rw [← hAe]; exact Or.inr h
  have hS : va_S A s.heap s.heap [] := va_S.rf
  have hl := lv_entry ([.ref a0]) (n := 1) (Nat.le_of_ble_eq_true rfl)
  rw [lg_entry_eq]
  generalize (lg_sl ([.ref a0]) ++ List.replicate (1 - (lg_sl ([.ref a0])).length) Slot.unset).toArray = ls at hl ⊢
  have hl : lv_has ls 1 [(0, .ref a0)] := hl
  refine lv_aload_n hx hb dJx4a65c_init_da8c8_0 rfl (lv_at hl 0 rfl) ?_
  have hPc := hP.sub (ws' := [(a0, .inr (0, [.int 0, .null, .int 0]))]) [0] rfl
  have hDc := hD.sub (ws' := [(a0, .inr (0, [.int 0, .null, .int 0]))]) [0] (by decide) rfl
  have hFc := va_free (wc := [(a0, .inr (0, [.int 0, .null, .int 0]))]) hD hS hA [0] rfl
  refine va_callv (va_runI (As := []) (rest := []) ⟨hx, hb, hml, hown, hts⟩ (c_Jxc12de_init_da8c8 l G a0 s.heap.size  ) (cwI 0 hts gJx4a65c_init_da8c8_Jxc12de_init_da8c8 rfl rfl rfl (hts (.initialized RJxc12de) (List.mem_of_getElem? (i := 5) rfl)) (hts (.methodLink RJx4a65c 1 yJxc12de_init_da8c8) (List.mem_of_getElem? (i := 3) rfl)) (hts (.instanceMethod yJxc12de_init_da8c8) (List.mem_of_getElem? (i := 4) rfl)) rfl (by decide +kernel) ⟨(Nat.le_of_ble_eq_true rfl), (Nat.le_of_ble_eq_true rfl)⟩) (tm_preS hK hN hV hS hPc hDc hFc) rfl rfl hl.1 rfl (lv_room (Nat.le_of_ble_eq_true rfl)) dJx4a65c_init_da8c8_1 ⟨(Nat.le_of_ble_eq_true rfl), (Nat.le_of_ble_eq_true rfl)⟩) hS (fun q _ h => hFc q h) hFc (fun u t H locs ht hvm hw_1 hB hz1 hk1 hS => ?_)
  obtain ⟨hP1, hD1⟩ := hB
  rw [ht] at hP1
  obtain ⟨hP, hD⟩ := va_join (wr := []) (w1 := [(a0, .inr (0, [.int 0, .null, .int 0]))]) hP hD [0] [] rfl rfl (by decide) (by decide) hk1 hFc hP1 hD1
  have hP : va_P G.1 vwCl [(a0, .inr (0, [.int 0, .null, .int 0]))] H := hP
  have hD : va_D A [(a0, .inr (0, [.int 0, .null, .int 0]))] := hD
  refine lv_aload_n hx hb dJx4a65c_init_da8c8_4 rfl (lv_at hl 0 rfl) ?_
  refine va_gets hx hb hV.1.2.1 hS hown (hts (.fieldLink RJx4a65c 39 "java/util/ArrayList" "DEFAULTCAPACITY_EMPTY_ELEMENTDATA" "[Ljava/lang/Object;") (List.mem_of_getElem? (i := 1) rfl)) (fun _ h => h) dJx4a65c_init_da8c8_5 ?_
  refine va_put (D := G.1) (ci := 0) (v := .ref G.2.2.2.2.2.2.2) (ty := .array (.object "java/lang/Object")) (C := RJx4a65c) (T := TJx4a65c) (N := 3) hx hb hts hiJx4a65c tyJx4a65c tyJx4a65c_ok nmJx4a65c hown hK hP hD hS 0 rfl rfl 1 (by decide) (hts (.fieldLink RJx4a65c 9 "java/util/ArrayList" "elementData" "[Ljava/lang/Object;") (List.mem_of_getElem? (i := 2) rfl)) (fun _ h9 => h9) rfl (by decide +kernel) rfl rfl (Nat.le_of_ble_eq_true rfl) dJx4a65c_init_da8c8_8 (fun H locs hP hD hS => ?_)
  have hP : va_P G.1 vwCl [tc_Jx4a65c a0 0 G.2.2.2.2.2.2.2 0] H := hP
  have hD : va_D A [tc_Jx4a65c a0 0 G.2.2.2.2.2.2.2 0] := hD
  exact W.vret hx hb hr (fun t ht hW => ⟨⟨(), rfl, trivial, by rw [ht]; exact hP, hD⟩, hS.F ht⟩) hS.2.2 dJx4a65c_init_da8c8_11
set_option maxHeartbeats 4000000 in
set_option maxRecDepth 100000 in
theorem c_X7_init (l : Launch) (G : tm_G) (a0 : Nat) (sz : Nat)  : Met l yX7_init wsX7_init ({ frames := 4, cells := 8, slots := 55, locals := 84 }) (va_Pc [.ref a0] (tm_B G [(a0, .inr (8, [.int 0, .null, .int 0, .int 0, .int 0, .double 0, .null]))] sz)) (va_Qv (fun (_ : Unit) => True) (fun (_ : Unit) (t : State) => ∃ (q_1 q_3 q_4 q_5 q_6 q_7 q_8 q_9 : Nat), va_P G.1 vwCl [tc_X7 a0 0 q_1 0 0 0 0 q_9, tc_X6 q_1 0 0 0 0 0 0 0 0 0 47 0 0 0 q_3 q_4 q_5 q_6 q_7 q_8 a0, tc_F G q_3 3 (fun _ => (0 : UInt32)), tc_I G q_4 3 (fun _ => (0 : Int32)), tc_I G q_5 3 (fun _ => (0 : Int32)), tc_I G q_6 3 (fun _ => (0 : Int32)), tc_D G q_7 10 (fun _ => (0 : UInt64)), tc_Z G q_8 10 (fun _ => (0 : Int32)), tc_Jx4a65c q_9 0 G.2.2.2.2.2.2.2 0] t.heap ∧ va_D (va_A [(a0, .inr (8, [.int 0, .null, .int 0, .int 0, .int 0, .double 0, .null]))] sz) [tc_X7 a0 0 q_1 0 0 0 0 q_9, tc_X6 q_1 0 0 0 0 0 0 0 0 0 47 0 0 0 q_3 q_4 q_5 q_6 q_7 q_8 a0, tc_F G q_3 3 (fun _ => (0 : UInt32)), tc_I G q_4 3 (fun _ => (0 : Int32)), tc_I G q_5 3 (fun _ => (0 : Int32)), tc_I G q_6 3 (fun _ => (0 : Int32)), tc_D G q_7 10 (fun _ => (0 : UInt64)), tc_Z G q_8 10 (fun _ => (0 : Int32)), tc_Jx4a65c q_9 0 G.2.2.2.2.2.2.2 0]) (va_A [(a0, .inr (8, [.int 0, .null, .int 0, .int 0, .int 0, .double 0, .null]))] sz)) 8 55 (va_A [(a0, .inr (8, [.int 0, .null, .int 0, .int 0, .int 0, .double 0, .null]))] sz) := by
  refine Met.ofW (cc := cX7_init) (maxL := 1) (ret := none) (by decide) rfl ?_
  intro p e s m args below meth c s₁ B hml hv
  obtain ⟨rfl, hsz, hP, hK, hD0, hN, hV⟩ := hv
  have hx := B.exec
  have hb := B.bytes
  have hr := B.returns
  have hts := atoms_spec (ws := wsX7_init) B.pre
  have hown : s.vm.findClass RX7 = some m.cls := findClass_of_methodNamed B.named
  have hlocks := B.notSynchronized
  have hin : meth.name = "<init>" := (name_of_methodNamed B.named B.method).1
  subst hsz
  have hiJx4a65c : ∀ w ∈ u_ws RJx4a65c TJx4a65c 3, w ∈ wsX7_init := fun _ h => List.mem_cons_of_mem _ (List.mem_append_right _ h)
  have hiX6 : ∀ w ∈ u_ws RX6 TX6 20, w ∈ wsX7_init := fun _ h => List.mem_cons_of_mem _ (List.mem_append_left _ (List.mem_append_left _ (List.mem_append_right _ h)))
  have hiX7 : ∀ w ∈ u_ws RX7 TX7 7, w ∈ wsX7_init := fun _ h => List.mem_cons_of_mem _ (List.mem_append_left _ (List.mem_append_right _ h))
  have hD := hD0.self (sz := s.heap.size)
  generalize hAe : va_A [(a0, .inr (8, [.int 0, .null, .int 0, .int 0, .int 0, .double 0, .null]))] s.heap.size = A at hD hV ⊢
  have hA : ∀ q : Nat, s.heap.size ≤ q → A q := fun q h => by rw [← hAe]; exact Or.inr h
  have hS : va_S A s.heap s.heap [] := va_S.rf
  have hl := lv_entry ([.ref a0]) (n := 1) (Nat.le_of_ble_eq_true rfl)
  rw [lg_entry_eq]
  generalize (lg_sl ([.ref a0]) ++ List.replicate (1 - (lg_sl ([.ref a0])).length) Slot.unset).toArray = ls at hl ⊢
  have hl : lv_has ls 1 [(0, .ref a0)] := hl
  refine lv_aload_n hx hb dX7_init_0 rfl (lv_at hl 0 rfl) ?_
  refine W.objInit hx hb hown (hts (.methodLink RX7 1 objectInit) (List.mem_of_getElem? (i := 1) rfl)) (hts (.instanceMethod objectInit) (List.mem_of_getElem? (i := 2) rfl)) (hts _ (List.mem_of_getElem? (i := 3) rfl)) rfl (by rw [hml]; exact hl.1) rfl dX7_init_1 (Nat.le_of_ble_eq_true rfl) (Nat.le_of_ble_eq_true rfl) ?_
  refine W.eq (g2 := F0 m 4 ls []) rfl ?_
  refine lv_aload_n hx hb dX7_init_4 rfl (lv_at hl 0 rfl) ?_
  refine va_new (ci := 7) (fs := [.int 0, .int 0, .double 0, .double 0, .float 0, .int 0, .int 0, .int 0, .int 0, .int 0, .double 0, .int 0, .int 0, .null, .null, .null, .null, .null, .null, .null]) (C := RX6) (T := TX6) (N := 20) hx hb hts hiX6 tyX6 tyX6_ok hown (hts (.classLink RX7 7 RX6) (List.mem_of_getElem? (i := 4) rfl)) (hts (.instantiable RX6 20) (List.mem_of_getElem? (i := 5) rfl)) (hts (.initialized RX6) (List.mem_of_getElem? (i := 6) rfl)) hK hP hD hS hA rfl (fun j hj => by rcases (show j = 0 ∨ j = 1 ∨ j = 2 ∨ j = 3 ∨ j = 4 ∨ j = 5 ∨ j = 6 ∨ j = 7 ∨ j = 8 ∨ j = 9 ∨ j = 10 ∨ j = 11 ∨ j = 12 ∨ j = 13 ∨ j = 14 ∨ j = 15 ∨ j = 16 ∨ j = 17 ∨ j = 18 ∨ j = 19 by omega) with rfl | rfl | rfl | rfl | rfl | rfl | rfl | rfl | rfl | rfl | rfl | rfl | rfl | rfl | rfl | rfl | rfl | rfl | rfl | rfl <;> rfl) (Nat.le_of_ble_eq_true rfl) (Nat.le_of_ble_eq_true rfl) dX7_init_5 (fun q_1 H hP hD hS => ?_)
  have hP : va_P G.1 vwCl [(a0, .inr (8, [.int 0, .null, .int 0, .int 0, .int 0, .double 0, .null])), (q_1, .inr (7, [.int 0, .int 0, .double 0, .double 0, .float 0, .int 0, .int 0, .int 0, .int 0, .int 0, .double 0, .int 0, .int 0, .null, .null, .null, .null, .null, .null, .null]))] H := hP
  have hD : va_D A [(a0, .inr (8, [.int 0, .null, .int 0, .int 0, .int 0, .double 0, .null])), (q_1, .inr (7, [.int 0, .int 0, .double 0, .double 0, .float 0, .int 0, .int 0, .int 0, .int 0, .int 0, .double 0, .int 0, .int 0, .null, .null, .null, .null, .null, .null, .null]))] := hD
  refine W.widen (k := 1) (n := 20) (Nat.le_of_ble_eq_true rfl) (Nat.le_of_ble_eq_true rfl) ?_
  refine lv_dup hx hb dX7_init_8 rfl ?_
  refine lv_aload_n hx hb dX7_init_9 rfl (lv_at hl 0 rfl) ?_
  have hPc := hP.sub (ws' := [(q_1, .inr (7, [.int 0, .int 0, .double 0, .double 0, .float 0, .int 0, .int 0, .int 0, .int 0, .int 0, .double 0, .int 0, .int 0, .null, .null, .null, .null, .null, .null, .null]))]) [1] rfl
  have hDc := hD.sub (ws' := [(q_1, .inr (7, [.int 0, .int 0, .double 0, .double 0, .float 0, .int 0, .int 0, .int 0, .int 0, .int 0, .double 0, .int 0, .int 0, .null, .null, .null, .null, .null, .null, .null]))]) [1] (by decide) rfl
  have hFc := va_free (wc := [(q_1, .inr (7, [.int 0, .int 0, .double 0, .double 0, .float 0, .int 0, .int 0, .int 0, .int 0, .int 0, .double 0, .int 0, .int 0, .null, .null, .null, .null, .null, .null, .null]))]) hD hS hA [1] rfl
  refine va_callv (va_runIN (As := [.ref a0]) (rest := [.ref q_1, .ref a0]) ⟨hx, hb, hml, hown, hts⟩ (c_X6_init l G q_1 a0 H.size  ) ⟨va_cnB 1 hts gX7_init_X6_init_n9 rfl rfl rfl (tm_N_X7_9 hN) (hts (.initialized RX6) (List.mem_of_getElem? (i := 6) rfl)) (by decide +kernel) ⟨(Nat.le_of_ble_eq_true rfl), (Nat.le_of_ble_eq_true rfl)⟩, rfl, (hts (.instanceMethod yX6_init) (List.mem_of_getElem? (i := 12) rfl))⟩ (tm_preS hK hN hV hS hPc hDc hFc) rfl rfl hl.1 rfl (lv_room (Nat.le_of_ble_eq_true rfl)) dX7_init_10 ⟨(Nat.le_of_ble_eq_true rfl), (Nat.le_of_ble_eq_true rfl)⟩) hS (fun q _ h => hFc q h) hFc (fun u t H locs ht hvm hw_2 hB hz1 hk1 hS => ?_)
  obtain ⟨q_3, q_4, q_5, q_6, q_7, q_8, hP1, hD1⟩ := hB
  rw [ht] at hP1
  obtain ⟨hP, hD⟩ := va_join (wr := [(a0, .inr (8, [.int 0, .null, .int 0, .int 0, .int 0, .double 0, .null]))]) (w1 := [tc_X6 q_1 0 0 0 0 0 0 0 0 0 47 0 0 0 q_3 q_4 q_5 q_6 q_7 q_8 a0, tc_F G q_3 3 (fun _ => (0 : UInt32)), tc_I G q_4 3 (fun _ => (0 : Int32)), tc_I G q_5 3 (fun _ => (0 : Int32)), tc_I G q_6 3 (fun _ => (0 : Int32)), tc_D G q_7 10 (fun _ => (0 : UInt64)), tc_Z G q_8 10 (fun _ => (0 : Int32))]) hP hD [1] [0] rfl rfl (by decide) (by decide) hk1 hFc hP1 hD1
  have hP : va_P G.1 vwCl [(a0, .inr (8, [.int 0, .null, .int 0, .int 0, .int 0, .double 0, .null])), tc_X6 q_1 0 0 0 0 0 0 0 0 0 47 0 0 0 q_3 q_4 q_5 q_6 q_7 q_8 a0, tc_F G q_3 3 (fun _ => (0 : UInt32)), tc_I G q_4 3 (fun _ => (0 : Int32)), tc_I G q_5 3 (fun _ => (0 : Int32)), tc_I G q_6 3 (fun _ => (0 : Int32)), tc_D G q_7 10 (fun _ => (0 : UInt64)), tc_Z G q_8 10 (fun _ => (0 : Int32))] H := hP
  have hD : va_D A [(a0, .inr (8, [.int 0, .null, .int 0, .int 0, .int 0, .double 0, .null])), tc_X6 q_1 0 0 0 0 0 0 0 0 0 47 0 0 0 q_3 q_4 q_5 q_6 q_7 q_8 a0, tc_F G q_3 3 (fun _ => (0 : UInt32)), tc_I G q_4 3 (fun _ => (0 : Int32)), tc_I G q_5 3 (fun _ => (0 : Int32)), tc_I G q_6 3 (fun _ => (0 : Int32)), tc_D G q_7 10 (fun _ => (0 : UInt64)), tc_Z G q_8 10 (fun _ => (0 : Int32))] := hD
  refine W.widen (k := 7) (n := 52) (Nat.le_of_ble_eq_true rfl) (Nat.le_of_ble_eq_true rfl) ?_
  refine va_put (D := G.1) (ci := 8) (v := .ref q_1) (ty := .object "TideMillModel$Mill") (C := RX7) (T := TX7) (N := 7) hx hb hts hiX7 tyX7 tyX7_ok nmX7 hown hK hP hD hS 0 rfl rfl 1 (by decide) (hts (.fieldLink RX7 12 "TideMillModel" "mill" "LTideMillModel$Mill;") (List.mem_of_getElem? (i := 7) rfl)) (fun _ h9 => h9) rfl (by decide +kernel) rfl rfl (Nat.le_of_ble_eq_true rfl) dX7_init_13 (fun H locs hP hD hS => ?_)
  have hP : va_P G.1 vwCl [(a0, .inr (8, [.int 0, .ref q_1, .int 0, .int 0, .int 0, .double 0, .null])), tc_X6 q_1 0 0 0 0 0 0 0 0 0 47 0 0 0 q_3 q_4 q_5 q_6 q_7 q_8 a0, tc_F G q_3 3 (fun _ => (0 : UInt32)), tc_I G q_4 3 (fun _ => (0 : Int32)), tc_I G q_5 3 (fun _ => (0 : Int32)), tc_I G q_6 3 (fun _ => (0 : Int32)), tc_D G q_7 10 (fun _ => (0 : UInt64)), tc_Z G q_8 10 (fun _ => (0 : Int32))] H := hP
  have hD : va_D A [(a0, .inr (8, [.int 0, .ref q_1, .int 0, .int 0, .int 0, .double 0, .null])), tc_X6 q_1 0 0 0 0 0 0 0 0 0 47 0 0 0 q_3 q_4 q_5 q_6 q_7 q_8 a0, tc_F G q_3 3 (fun _ => (0 : UInt32)), tc_I G q_4 3 (fun _ => (0 : Int32)), tc_I G q_5 3 (fun _ => (0 : Int32)), tc_I G q_6 3 (fun _ => (0 : Int32)), tc_D G q_7 10 (fun _ => (0 : UInt64)), tc_Z G q_8 10 (fun _ => (0 : Int32))] := hD
  refine lv_aload_n hx hb dX7_init_16 rfl (lv_at hl 0 rfl) ?_
  refine va_new (ci := 0) (fs := [.int 0, .null, .int 0]) (C := RJx4a65c) (T := TJx4a65c) (N := 3) hx hb hts hiJx4a65c tyJx4a65c tyJx4a65c_ok hown (hts (.classLink RX7 18 RJx4a65c) (List.mem_of_getElem? (i := 8) rfl)) (hts (.instantiable RJx4a65c 3) (List.mem_of_getElem? (i := 9) rfl)) (hts (.initialized RJx4a65c) (List.mem_of_getElem? (i := 10) rfl)) hK hP hD hS hA rfl (fun j hj => by rcases (show j = 0 ∨ j = 1 ∨ j = 2 by omega) with rfl | rfl | rfl <;> rfl) (Nat.le_of_ble_eq_true rfl) (Nat.le_of_ble_eq_true rfl) dX7_init_17 (fun q_9 H hP hD hS => ?_)
  have hP : va_P G.1 vwCl [(a0, .inr (8, [.int 0, .ref q_1, .int 0, .int 0, .int 0, .double 0, .null])), tc_X6 q_1 0 0 0 0 0 0 0 0 0 47 0 0 0 q_3 q_4 q_5 q_6 q_7 q_8 a0, tc_F G q_3 3 (fun _ => (0 : UInt32)), tc_I G q_4 3 (fun _ => (0 : Int32)), tc_I G q_5 3 (fun _ => (0 : Int32)), tc_I G q_6 3 (fun _ => (0 : Int32)), tc_D G q_7 10 (fun _ => (0 : UInt64)), tc_Z G q_8 10 (fun _ => (0 : Int32)), (q_9, .inr (0, [.int 0, .null, .int 0]))] H := hP
  have hD : va_D A [(a0, .inr (8, [.int 0, .ref q_1, .int 0, .int 0, .int 0, .double 0, .null])), tc_X6 q_1 0 0 0 0 0 0 0 0 0 47 0 0 0 q_3 q_4 q_5 q_6 q_7 q_8 a0, tc_F G q_3 3 (fun _ => (0 : UInt32)), tc_I G q_4 3 (fun _ => (0 : Int32)), tc_I G q_5 3 (fun _ => (0 : Int32)), tc_I G q_6 3 (fun _ => (0 : Int32)), tc_D G q_7 10 (fun _ => (0 : UInt64)), tc_Z G q_8 10 (fun _ => (0 : Int32)), (q_9, .inr (0, [.int 0, .null, .int 0]))] := hD
  refine W.widen (k := 8) (n := 55) (Nat.le_of_ble_eq_true rfl) (Nat.le_of_ble_eq_true rfl) ?_
  refine lv_dup hx hb dX7_init_20 rfl ?_
  have hPc := hP.sub (ws' := [(q_9, .inr (0, [.int 0, .null, .int 0]))]) [8] rfl
  have hDc := hD.sub (ws' := [(q_9, .inr (0, [.int 0, .null, .int 0]))]) [8] (by decide) rfl
  have hFc := va_free (wc := [(q_9, .inr (0, [.int 0, .null, .int 0]))]) hD hS hA [8] rfl
  refine va_callv (va_runI (As := []) (rest := [.ref q_9, .ref a0]) ⟨hx, hb, hml, hown, hts⟩ (c_Jx4a65c_init_da8c8 l G q_9 H.size  ) (cwI 0 hts gX7_init_Jx4a65c_init_da8c8 rfl rfl rfl (hts (.initialized RJx4a65c) (List.mem_of_getElem? (i := 10) rfl)) (hts (.methodLink RX7 20 yJx4a65c_init_da8c8) (List.mem_of_getElem? (i := 27) rfl)) (hts (.instanceMethod yJx4a65c_init_da8c8) (List.mem_of_getElem? (i := 28) rfl)) rfl (by decide +kernel) ⟨(Nat.le_of_ble_eq_true rfl), (Nat.le_of_ble_eq_true rfl)⟩) (tm_preS hK hN hV hS hPc hDc hFc) rfl rfl hl.1 rfl (lv_room (Nat.le_of_ble_eq_true rfl)) dX7_init_21 ⟨(Nat.le_of_ble_eq_true rfl), (Nat.le_of_ble_eq_true rfl)⟩) hS (fun q _ h => hFc q h) hFc (fun u t H locs ht hvm hw_10 hB hz1 hk1 hS => ?_)
  obtain ⟨hP1, hD1⟩ := hB
  rw [ht] at hP1
  obtain ⟨hP, hD⟩ := va_join (wr := [(a0, .inr (8, [.int 0, .ref q_1, .int 0, .int 0, .int 0, .double 0, .null])), tc_X6 q_1 0 0 0 0 0 0 0 0 0 47 0 0 0 q_3 q_4 q_5 q_6 q_7 q_8 a0, tc_F G q_3 3 (fun _ => (0 : UInt32)), tc_I G q_4 3 (fun _ => (0 : Int32)), tc_I G q_5 3 (fun _ => (0 : Int32)), tc_I G q_6 3 (fun _ => (0 : Int32)), tc_D G q_7 10 (fun _ => (0 : UInt64)), tc_Z G q_8 10 (fun _ => (0 : Int32))]) (w1 := [tc_Jx4a65c q_9 0 G.2.2.2.2.2.2.2 0]) hP hD [8] [0, 1, 2, 3, 4, 5, 6, 7] rfl rfl (by decide) (by decide) hk1 hFc hP1 hD1
  have hP : va_P G.1 vwCl [(a0, .inr (8, [.int 0, .ref q_1, .int 0, .int 0, .int 0, .double 0, .null])), tc_X6 q_1 0 0 0 0 0 0 0 0 0 47 0 0 0 q_3 q_4 q_5 q_6 q_7 q_8 a0, tc_F G q_3 3 (fun _ => (0 : UInt32)), tc_I G q_4 3 (fun _ => (0 : Int32)), tc_I G q_5 3 (fun _ => (0 : Int32)), tc_I G q_6 3 (fun _ => (0 : Int32)), tc_D G q_7 10 (fun _ => (0 : UInt64)), tc_Z G q_8 10 (fun _ => (0 : Int32)), tc_Jx4a65c q_9 0 G.2.2.2.2.2.2.2 0] H := hP
  have hD : va_D A [(a0, .inr (8, [.int 0, .ref q_1, .int 0, .int 0, .int 0, .double 0, .null])), tc_X6 q_1 0 0 0 0 0 0 0 0 0 47 0 0 0 q_3 q_4 q_5 q_6 q_7 q_8 a0, tc_F G q_3 3 (fun _ => (0 : UInt32)), tc_I G q_4 3 (fun _ => (0 : Int32)), tc_I G q_5 3 (fun _ => (0 : Int32)), tc_I G q_6 3 (fun _ => (0 : Int32)), tc_D G q_7 10 (fun _ => (0 : UInt64)), tc_Z G q_8 10 (fun _ => (0 : Int32)), tc_Jx4a65c q_9 0 G.2.2.2.2.2.2.2 0] := hD
  refine va_putF (D := G.1) (ci := 8) (v := .ref q_9) (ty := .object "java/util/List") (C := RX7) (T := TX7) (N := 7) hx hb hts hiX7 tyX7 tyX7_ok nmX7 hown hK hP hD hS 0 rfl rfl 6 (by decide) (hts (.fieldLink RX7 21 "TideMillModel" "lots" "Ljava/util/List;") (List.mem_of_getElem? (i := 11) rfl)) (fun _ h9 => h9) rfl hin rfl (by decide +kernel) rfl rfl (Nat.le_of_ble_eq_true rfl) dX7_init_24 (fun H locs hP hD hS => ?_)
  have hP : va_P G.1 vwCl [tc_X7 a0 0 q_1 0 0 0 0 q_9, tc_X6 q_1 0 0 0 0 0 0 0 0 0 47 0 0 0 q_3 q_4 q_5 q_6 q_7 q_8 a0, tc_F G q_3 3 (fun _ => (0 : UInt32)), tc_I G q_4 3 (fun _ => (0 : Int32)), tc_I G q_5 3 (fun _ => (0 : Int32)), tc_I G q_6 3 (fun _ => (0 : Int32)), tc_D G q_7 10 (fun _ => (0 : UInt64)), tc_Z G q_8 10 (fun _ => (0 : Int32)), tc_Jx4a65c q_9 0 G.2.2.2.2.2.2.2 0] H := hP
  have hD : va_D A [tc_X7 a0 0 q_1 0 0 0 0 q_9, tc_X6 q_1 0 0 0 0 0 0 0 0 0 47 0 0 0 q_3 q_4 q_5 q_6 q_7 q_8 a0, tc_F G q_3 3 (fun _ => (0 : UInt32)), tc_I G q_4 3 (fun _ => (0 : Int32)), tc_I G q_5 3 (fun _ => (0 : Int32)), tc_I G q_6 3 (fun _ => (0 : Int32)), tc_D G q_7 10 (fun _ => (0 : UInt64)), tc_Z G q_8 10 (fun _ => (0 : Int32)), tc_Jx4a65c q_9 0 G.2.2.2.2.2.2.2 0] := hD
  exact W.vret hx hb hr (fun t ht hW => ⟨⟨(), rfl, trivial, q_1, q_3, q_4, q_5, q_6, q_7, q_8, q_9, by rw [ht]; exact hP, hD⟩, hS.F ht⟩) hS.2.2 dX7_init_27
