set_option maxHeartbeats 4000000 in
set_option maxRecDepth 100000 in
theorem c_X6_init (l : Launch) (G : tm_G) (a0 : Nat) (a9 : Nat) (sz : Nat)  : Met l yX6_init wsX6_init ({ frames := 1, cells := 6, slots := 32, locals := 24 }) (va_Pc [.ref a0, .ref a9] (tm_B G [(a0, .inr (7, [.int 0, .int 0, .double 0, .double 0, .float 0, .int 0, .int 0, .int 0, .int 0, .int 0, .double 0, .int 0, .int 0, .null, .null, .null, .null, .null, .null, .null]))] sz)) (va_Qv (fun (_ : Unit) => True) (fun (_ : Unit) (t : State) => ∃ (q_1 q_2 q_3 q_4 q_5 q_6 : Nat), va_P G.1 vwCl [tc_X6 a0 0 0 0 0 0 0 0 0 0 47 0 0 0 q_1 q_2 q_3 q_4 q_5 q_6 a9, tc_F G q_1 3 (fun _ => (0 : UInt32)), tc_I G q_2 3 (fun _ => (0 : Int32)), tc_I G q_3 3 (fun _ => (0 : Int32)), tc_I G q_4 3 (fun _ => (0 : Int32)), tc_D G q_5 10 (fun _ => (0 : UInt64)), tc_Z G q_6 10 (fun _ => (0 : Int32))] t.heap ∧ va_D (va_A [(a0, .inr (7, [.int 0, .int 0, .double 0, .double 0, .float 0, .int 0, .int 0, .int 0, .int 0, .int 0, .double 0, .int 0, .int 0, .null, .null, .null, .null, .null, .null, .null]))] sz) [tc_X6 a0 0 0 0 0 0 0 0 0 0 47 0 0 0 q_1 q_2 q_3 q_4 q_5 q_6 a9, tc_F G q_1 3 (fun _ => (0 : UInt32)), tc_I G q_2 3 (fun _ => (0 : Int32)), tc_I G q_3 3 (fun _ => (0 : Int32)), tc_I G q_4 3 (fun _ => (0 : Int32)), tc_D G q_5 10 (fun _ => (0 : UInt64)), tc_Z G q_6 10 (fun _ => (0 : Int32))]) (va_A [(a0, .inr (7, [.int 0, .int 0, .double 0, .double 0, .float 0, .int 0, .int 0, .int 0, .int 0, .int 0, .double 0, .int 0, .int 0, .null, .null, .null, .null, .null, .null, .null]))] sz)) 6 32 (va_A [(a0, .inr (7, [.int 0, .int 0, .double 0, .double 0, .float 0, .int 0, .int 0, .int 0, .int 0, .int 0, .double 0, .int 0, .int 0, .null, .null, .null, .null, .null, .null, .null]))] sz) := by
  refine Met.ofW (cc := cX6_init) (maxL := 2) (ret := none) (by decide) rfl ?_
  intro p e s m args below meth c s₁ B hml hv
  obtain ⟨rfl, hsz, hP, hK, hD0, hN, hV⟩ := hv
  have hx := B.exec
  have hb := B.bytes
  have hr := B.returns
  have hts := atoms_spec (ws := wsX6_init) B.pre
  have hown : s.vm.findClass RX6 = some m.cls := findClass_of_methodNamed B.named
  have hlocks := B.notSynchronized
  have hin : meth.name = "<init>" := (name_of_methodNamed B.named B.method).1
  subst hsz
  have hiX6 : ∀ w ∈ u_ws RX6 TX6 20, w ∈ wsX6_init := fun _ h => List.mem_cons_of_mem _ (List.mem_append_right _ h)
  have hD := hD0.self (sz := s.heap.size)
  generalize hAe : va_A [(a0, .inr (7, [.int 0, .int 0, .double 0, .double 0, .float 0, .int 0, .int 0, .int 0, .int 0, .int 0, .double 0, .int 0, .int 0, .null, .null, .null, .null, .null, .null, .null]))] s.heap.size = A at hD hV ⊢
  have hA : ∀ q : Nat, s.heap.size ≤ q → A q := fun q h => by rw [← hAe]; exact Or.inr h
  have hS : va_S A s.heap s.heap [] := va_S.rf
  have hl := lv_entry ([.ref a0, .ref a9]) (n := 2) (Nat.le_of_ble_eq_true rfl)
  rw [lg_entry_eq]
  generalize (lg_sl ([.ref a0, .ref a9]) ++ List.replicate (2 - (lg_sl ([.ref a0, .ref a9])).length) Slot.unset).toArray = ls at hl ⊢
  have hl : lv_has ls 2 [(0, .ref a0), (1, .ref a9)] := hl
  refine lv_aload_n hx hb dX6_init_0 rfl (lv_at hl 0 rfl) ?_
  refine lv_aload_n hx hb dX6_init_1 rfl (lv_at hl 1 rfl) ?_
  refine va_putF (D := G.1) (ci := 7) (v := .ref a9) (ty := .object "TideMillModel") (C := RX6) (T := TX6) (N := 20) hx hb hts hiX6 tyX6 tyX6_ok nmX6 hown hK hP hD hS 0 rfl rfl 19 (by decide) (hts (.fieldLink RX6 3 "TideMillModel$Mill" "this$0" "LTideMillModel;") (List.mem_of_getElem? (i := 1) rfl)) (fun _ h9 => h9) rfl hin rfl (by decide +kernel) rfl rfl (Nat.le_of_ble_eq_true rfl) dX6_init_2 (fun H locs hP hD hS => ?_)
  have hP : va_P G.1 vwCl [(a0, .inr (7, [.int 0, .int 0, .double 0, .double 0, .float 0, .int 0, .int 0, .int 0, .int 0, .int 0, .double 0, .int 0, .int 0, .null, .null, .null, .null, .null, .null, .ref a9]))] H := hP
  have hD : va_D A [(a0, .inr (7, [.int 0, .int 0, .double 0, .double 0, .float 0, .int 0, .int 0, .int 0, .int 0, .int 0, .double 0, .int 0, .int 0, .null, .null, .null, .null, .null, .null, .ref a9]))] := hD
  refine lv_aload_n hx hb dX6_init_5 rfl (lv_at hl 0 rfl) ?_
  refine W.objInit hx hb hown (hts (.methodLink RX6 9 objectInit) (List.mem_of_getElem? (i := 2) rfl)) (hts (.instanceMethod objectInit) (List.mem_of_getElem? (i := 3) rfl)) (hts _ (List.mem_of_getElem? (i := 4) rfl)) rfl (by rw [hml]; exact hl.1) rfl dX6_init_6 (Nat.le_of_ble_eq_true rfl) (Nat.le_of_ble_eq_true rfl) ?_
  refine W.eq (g2 := F0 m 9 ls []) rfl ?_
  refine lv_aload_n hx hb dX6_init_9 rfl (lv_at hl 0 rfl) ?_
  refine lv_bipush (v := 47) hx hb dX6_init_10 (by decide) ?_
  refine va_put (D := G.1) (ci := 7) (v := .int 47) (ty := .int) (C := RX6) (T := TX6) (N := 20) hx hb hts hiX6 tyX6 tyX6_ok nmX6 hown hK hP hD hS 0 rfl rfl 9 (by decide) (hts (.fieldLink RX6 15 "TideMillModel$Mill" "to" "I") (List.mem_of_getElem? (i := 5) rfl)) (fun _ h9 => h9) rfl (by decide +kernel) rfl rfl (Nat.le_of_ble_eq_true rfl) dX6_init_12 (fun H locs hP hD hS => ?_)
  have hP : va_P G.1 vwCl [(a0, .inr (7, [.int 0, .int 0, .double 0, .double 0, .float 0, .int 0, .int 0, .int 0, .int 0, .int 47, .double 0, .int 0, .int 0, .null, .null, .null, .null, .null, .null, .ref a9]))] H := hP
  have hD : va_D A [(a0, .inr (7, [.int 0, .int 0, .double 0, .double 0, .float 0, .int 0, .int 0, .int 0, .int 0, .int 47, .double 0, .int 0, .int 0, .null, .null, .null, .null, .null, .null, .ref a9]))] := hD
  refine lv_aload_n hx hb dX6_init_15 rfl (lv_at hl 0 rfl) ?_
  refine lv_iconst (v := 3) hx hb dX6_init_16 (by decide) ?_
  refine va_newa (atype := .float) hx hb (hts (.arrayClass .float) (List.mem_of_getElem? (i := 6) rfl)) (ty := .float) rfl hK hP hD hS hA (N' := 3) (a0 := (3, .inr (.inr (.inl (fun _ => (0 : UInt32)))))) (fun _ => rfl) (by decide) (by decide) (Nat.le_of_ble_eq_true rfl) (Nat.le_of_ble_eq_true rfl) (Nat.le_of_ble_eq_true rfl) dX6_init_17 (fun q_1 cA H hK9 hP hD hS => ?_)
  obtain rfl : cA = G.2.2.2.1 := tm_cA_F hK9
  have hP : va_P G.1 vwCl [(a0, .inr (7, [.int 0, .int 0, .double 0, .double 0, .float 0, .int 0, .int 0, .int 0, .int 0, .int 47, .double 0, .int 0, .int 0, .null, .null, .null, .null, .null, .null, .ref a9])), tc_F G q_1 3 (fun _ => (0 : UInt32))] H := hP
  have hD : va_D A [(a0, .inr (7, [.int 0, .int 0, .double 0, .double 0, .float 0, .int 0, .int 0, .int 0, .int 0, .int 47, .double 0, .int 0, .int 0, .null, .null, .null, .null, .null, .null, .ref a9])), tc_F G q_1 3 (fun _ => (0 : UInt32))] := hD
  refine W.widen (k := 1) (n := 3) (Nat.le_of_ble_eq_true rfl) (Nat.le_of_ble_eq_true rfl) ?_
  refine va_putF (D := G.1) (ci := 7) (v := .ref q_1) (ty := .array .float) (C := RX6) (T := TX6) (N := 20) hx hb hts hiX6 tyX6 tyX6_ok nmX6 hown hK hP hD hS 0 rfl rfl 13 (by decide) (hts (.fieldLink RX6 19 "TideMillModel$Mill" "dull" "[F") (List.mem_of_getElem? (i := 7) rfl)) (fun _ h9 => h9) rfl hin rfl (by decide +kernel) rfl rfl (Nat.le_of_ble_eq_true rfl) dX6_init_19 (fun H locs hP hD hS => ?_)
  have hP : va_P G.1 vwCl [(a0, .inr (7, [.int 0, .int 0, .double 0, .double 0, .float 0, .int 0, .int 0, .int 0, .int 0, .int 47, .double 0, .int 0, .int 0, .ref q_1, .null, .null, .null, .null, .null, .ref a9])), tc_F G q_1 3 (fun _ => (0 : UInt32))] H := hP
  have hD : va_D A [(a0, .inr (7, [.int 0, .int 0, .double 0, .double 0, .float 0, .int 0, .int 0, .int 0, .int 0, .int 47, .double 0, .int 0, .int 0, .ref q_1, .null, .null, .null, .null, .null, .ref a9])), tc_F G q_1 3 (fun _ => (0 : UInt32))] := hD
  refine lv_aload_n hx hb dX6_init_22 rfl (lv_at hl 0 rfl) ?_
  refine lv_iconst (v := 3) hx hb dX6_init_23 (by decide) ?_
  refine va_newa (atype := .int) hx hb (hts (.arrayClass .int) (List.mem_of_getElem? (i := 8) rfl)) (ty := .int) rfl hK hP hD hS hA (N' := 3) (a0 := (3, .inl (fun _ => (0 : Int32)))) (fun _ => rfl) (by decide) (by decide) (Nat.le_of_ble_eq_true rfl) (Nat.le_of_ble_eq_true rfl) (Nat.le_of_ble_eq_true rfl) dX6_init_24 (fun q_2 cA H hK9 hP hD hS => ?_)
  obtain rfl : cA = G.2.1 := tm_cA_I hK9
  have hP : va_P G.1 vwCl [(a0, .inr (7, [.int 0, .int 0, .double 0, .double 0, .float 0, .int 0, .int 0, .int 0, .int 0, .int 47, .double 0, .int 0, .int 0, .ref q_1, .null, .null, .null, .null, .null, .ref a9])), tc_F G q_1 3 (fun _ => (0 : UInt32)), tc_I G q_2 3 (fun _ => (0 : Int32))] H := hP
  have hD : va_D A [(a0, .inr (7, [.int 0, .int 0, .double 0, .double 0, .float 0, .int 0, .int 0, .int 0, .int 0, .int 47, .double 0, .int 0, .int 0, .ref q_1, .null, .null, .null, .null, .null, .ref a9])), tc_F G q_1 3 (fun _ => (0 : UInt32)), tc_I G q_2 3 (fun _ => (0 : Int32))] := hD
  refine W.widen (k := 2) (n := 6) (Nat.le_of_ble_eq_true rfl) (Nat.le_of_ble_eq_true rfl) ?_
  refine va_putF (D := G.1) (ci := 7) (v := .ref q_2) (ty := .array .int) (C := RX6) (T := TX6) (N := 20) hx hb hts hiX6 tyX6 tyX6_ok nmX6 hown hK hP hD hS 0 rfl rfl 14 (by decide) (hts (.fieldLink RX6 23 "TideMillModel$Mill" "lot" "[I") (List.mem_of_getElem? (i := 9) rfl)) (fun _ h9 => h9) rfl hin rfl (by decide +kernel) rfl rfl (Nat.le_of_ble_eq_true rfl) dX6_init_26 (fun H locs hP hD hS => ?_)
  have hP : va_P G.1 vwCl [(a0, .inr (7, [.int 0, .int 0, .double 0, .double 0, .float 0, .int 0, .int 0, .int 0, .int 0, .int 47, .double 0, .int 0, .int 0, .ref q_1, .ref q_2, .null, .null, .null, .null, .ref a9])), tc_F G q_1 3 (fun _ => (0 : UInt32)), tc_I G q_2 3 (fun _ => (0 : Int32))] H := hP
  have hD : va_D A [(a0, .inr (7, [.int 0, .int 0, .double 0, .double 0, .float 0, .int 0, .int 0, .int 0, .int 0, .int 47, .double 0, .int 0, .int 0, .ref q_1, .ref q_2, .null, .null, .null, .null, .ref a9])), tc_F G q_1 3 (fun _ => (0 : UInt32)), tc_I G q_2 3 (fun _ => (0 : Int32))] := hD
  refine lv_aload_n hx hb dX6_init_29 rfl (lv_at hl 0 rfl) ?_
  refine lv_iconst (v := 3) hx hb dX6_init_30 (by decide) ?_
  refine va_newa (atype := .int) hx hb (hts (.arrayClass .int) (List.mem_of_getElem? (i := 8) rfl)) (ty := .int) rfl hK hP hD hS hA (N' := 3) (a0 := (3, .inl (fun _ => (0 : Int32)))) (fun _ => rfl) (by decide) (by decide) (Nat.le_of_ble_eq_true rfl) (Nat.le_of_ble_eq_true rfl) (Nat.le_of_ble_eq_true rfl) dX6_init_31 (fun q_3 cA H hK9 hP hD hS => ?_)
  obtain rfl : cA = G.2.1 := tm_cA_I hK9
  have hP : va_P G.1 vwCl [(a0, .inr (7, [.int 0, .int 0, .double 0, .double 0, .float 0, .int 0, .int 0, .int 0, .int 0, .int 47, .double 0, .int 0, .int 0, .ref q_1, .ref q_2, .null, .null, .null, .null, .ref a9])), tc_F G q_1 3 (fun _ => (0 : UInt32)), tc_I G q_2 3 (fun _ => (0 : Int32)), tc_I G q_3 3 (fun _ => (0 : Int32))] H := hP
  have hD : va_D A [(a0, .inr (7, [.int 0, .int 0, .double 0, .double 0, .float 0, .int 0, .int 0, .int 0, .int 0, .int 47, .double 0, .int 0, .int 0, .ref q_1, .ref q_2, .null, .null, .null, .null, .ref a9])), tc_F G q_1 3 (fun _ => (0 : UInt32)), tc_I G q_2 3 (fun _ => (0 : Int32)), tc_I G q_3 3 (fun _ => (0 : Int32))] := hD
  refine W.widen (k := 3) (n := 9) (Nat.le_of_ble_eq_true rfl) (Nat.le_of_ble_eq_true rfl) ?_
  refine va_putF (D := G.1) (ci := 7) (v := .ref q_3) (ty := .array .int) (C := RX6) (T := TX6) (N := 20) hx hb hts hiX6 tyX6 tyX6_ok nmX6 hown hK hP hD hS 0 rfl rfl 15 (by decide) (hts (.fieldLink RX6 27 "TideMillModel$Mill" "dressing" "[I") (List.mem_of_getElem? (i := 10) rfl)) (fun _ h9 => h9) rfl hin rfl (by decide +kernel) rfl rfl (Nat.le_of_ble_eq_true rfl) dX6_init_33 (fun H locs hP hD hS => ?_)
  have hP : va_P G.1 vwCl [(a0, .inr (7, [.int 0, .int 0, .double 0, .double 0, .float 0, .int 0, .int 0, .int 0, .int 0, .int 47, .double 0, .int 0, .int 0, .ref q_1, .ref q_2, .ref q_3, .null, .null, .null, .ref a9])), tc_F G q_1 3 (fun _ => (0 : UInt32)), tc_I G q_2 3 (fun _ => (0 : Int32)), tc_I G q_3 3 (fun _ => (0 : Int32))] H := hP
  have hD : va_D A [(a0, .inr (7, [.int 0, .int 0, .double 0, .double 0, .float 0, .int 0, .int 0, .int 0, .int 0, .int 47, .double 0, .int 0, .int 0, .ref q_1, .ref q_2, .ref q_3, .null, .null, .null, .ref a9])), tc_F G q_1 3 (fun _ => (0 : UInt32)), tc_I G q_2 3 (fun _ => (0 : Int32)), tc_I G q_3 3 (fun _ => (0 : Int32))] := hD
  refine lv_aload_n hx hb dX6_init_36 rfl (lv_at hl 0 rfl) ?_
  refine lv_iconst (v := 3) hx hb dX6_init_37 (by decide) ?_
  refine va_newa (atype := .int) hx hb (hts (.arrayClass .int) (List.mem_of_getElem? (i := 8) rfl)) (ty := .int) rfl hK hP hD hS hA (N' := 3) (a0 := (3, .inl (fun _ => (0 : Int32)))) (fun _ => rfl) (by decide) (by decide) (Nat.le_of_ble_eq_true rfl) (Nat.le_of_ble_eq_true rfl) (Nat.le_of_ble_eq_true rfl) dX6_init_38 (fun q_4 cA H hK9 hP hD hS => ?_)
  obtain rfl : cA = G.2.1 := tm_cA_I hK9
  have hP : va_P G.1 vwCl [(a0, .inr (7, [.int 0, .int 0, .double 0, .double 0, .float 0, .int 0, .int 0, .int 0, .int 0, .int 47, .double 0, .int 0, .int 0, .ref q_1, .ref q_2, .ref q_3, .null, .null, .null, .ref a9])), tc_F G q_1 3 (fun _ => (0 : UInt32)), tc_I G q_2 3 (fun _ => (0 : Int32)), tc_I G q_3 3 (fun _ => (0 : Int32)), tc_I G q_4 3 (fun _ => (0 : Int32))] H := hP
  have hD : va_D A [(a0, .inr (7, [.int 0, .int 0, .double 0, .double 0, .float 0, .int 0, .int 0, .int 0, .int 0, .int 47, .double 0, .int 0, .int 0, .ref q_1, .ref q_2, .ref q_3, .null, .null, .null, .ref a9])), tc_F G q_1 3 (fun _ => (0 : UInt32)), tc_I G q_2 3 (fun _ => (0 : Int32)), tc_I G q_3 3 (fun _ => (0 : Int32)), tc_I G q_4 3 (fun _ => (0 : Int32))] := hD
  refine W.widen (k := 4) (n := 12) (Nat.le_of_ble_eq_true rfl) (Nat.le_of_ble_eq_true rfl) ?_
  refine va_putF (D := G.1) (ci := 7) (v := .ref q_4) (ty := .array .int) (C := RX6) (T := TX6) (N := 20) hx hb hts hiX6 tyX6 tyX6_ok nmX6 hown hK hP hD hS 0 rfl rfl 16 (by decide) (hts (.fieldLink RX6 30 "TideMillModel$Mill" "sparks" "[I") (List.mem_of_getElem? (i := 11) rfl)) (fun _ h9 => h9) rfl hin rfl (by decide +kernel) rfl rfl (Nat.le_of_ble_eq_true rfl) dX6_init_40 (fun H locs hP hD hS => ?_)
  have hP : va_P G.1 vwCl [(a0, .inr (7, [.int 0, .int 0, .double 0, .double 0, .float 0, .int 0, .int 0, .int 0, .int 0, .int 47, .double 0, .int 0, .int 0, .ref q_1, .ref q_2, .ref q_3, .ref q_4, .null, .null, .ref a9])), tc_F G q_1 3 (fun _ => (0 : UInt32)), tc_I G q_2 3 (fun _ => (0 : Int32)), tc_I G q_3 3 (fun _ => (0 : Int32)), tc_I G q_4 3 (fun _ => (0 : Int32))] H := hP
  have hD : va_D A [(a0, .inr (7, [.int 0, .int 0, .double 0, .double 0, .float 0, .int 0, .int 0, .int 0, .int 0, .int 47, .double 0, .int 0, .int 0, .ref q_1, .ref q_2, .ref q_3, .ref q_4, .null, .null, .ref a9])), tc_F G q_1 3 (fun _ => (0 : UInt32)), tc_I G q_2 3 (fun _ => (0 : Int32)), tc_I G q_3 3 (fun _ => (0 : Int32)), tc_I G q_4 3 (fun _ => (0 : Int32))] := hD
  refine lv_aload_n hx hb dX6_init_43 rfl (lv_at hl 0 rfl) ?_
  refine lv_bipush (v := 10) hx hb dX6_init_44 (by decide) ?_
  refine va_newa (atype := .double) hx hb (hts (.arrayClass .double) (List.mem_of_getElem? (i := 12) rfl)) (ty := .double) rfl hK hP hD hS hA (N' := 10) (a0 := (10, .inr (.inr (.inr (.inl (fun _ => (0 : UInt64))))))) (fun _ => rfl) (by decide) (by decide) (Nat.le_of_ble_eq_true rfl) (Nat.le_of_ble_eq_true rfl) (Nat.le_of_ble_eq_true rfl) dX6_init_46 (fun q_5 cA H hK9 hP hD hS => ?_)
  obtain rfl : cA = G.2.2.1 := tm_cA_D hK9
  have hP : va_P G.1 vwCl [(a0, .inr (7, [.int 0, .int 0, .double 0, .double 0, .float 0, .int 0, .int 0, .int 0, .int 0, .int 47, .double 0, .int 0, .int 0, .ref q_1, .ref q_2, .ref q_3, .ref q_4, .null, .null, .ref a9])), tc_F G q_1 3 (fun _ => (0 : UInt32)), tc_I G q_2 3 (fun _ => (0 : Int32)), tc_I G q_3 3 (fun _ => (0 : Int32)), tc_I G q_4 3 (fun _ => (0 : Int32)), tc_D G q_5 10 (fun _ => (0 : UInt64))] H := hP
  have hD : va_D A [(a0, .inr (7, [.int 0, .int 0, .double 0, .double 0, .float 0, .int 0, .int 0, .int 0, .int 0, .int 47, .double 0, .int 0, .int 0, .ref q_1, .ref q_2, .ref q_3, .ref q_4, .null, .null, .ref a9])), tc_F G q_1 3 (fun _ => (0 : UInt32)), tc_I G q_2 3 (fun _ => (0 : Int32)), tc_I G q_3 3 (fun _ => (0 : Int32)), tc_I G q_4 3 (fun _ => (0 : Int32)), tc_D G q_5 10 (fun _ => (0 : UInt64))] := hD
  refine W.widen (k := 5) (n := 22) (Nat.le_of_ble_eq_true rfl) (Nat.le_of_ble_eq_true rfl) ?_
  refine va_putF (D := G.1) (ci := 7) (v := .ref q_5) (ty := .array .double) (C := RX6) (T := TX6) (N := 20) hx hb hts hiX6 tyX6 tyX6_ok nmX6 hown hK hP hD hS 0 rfl rfl 17 (by decide) (hts (.fieldLink RX6 33 "TideMillModel$Mill" "left" "[D") (List.mem_of_getElem? (i := 13) rfl)) (fun _ h9 => h9) rfl hin rfl (by decide +kernel) rfl rfl (Nat.le_of_ble_eq_true rfl) dX6_init_48 (fun H locs hP hD hS => ?_)
  have hP : va_P G.1 vwCl [(a0, .inr (7, [.int 0, .int 0, .double 0, .double 0, .float 0, .int 0, .int 0, .int 0, .int 0, .int 47, .double 0, .int 0, .int 0, .ref q_1, .ref q_2, .ref q_3, .ref q_4, .ref q_5, .null, .ref a9])), tc_F G q_1 3 (fun _ => (0 : UInt32)), tc_I G q_2 3 (fun _ => (0 : Int32)), tc_I G q_3 3 (fun _ => (0 : Int32)), tc_I G q_4 3 (fun _ => (0 : Int32)), tc_D G q_5 10 (fun _ => (0 : UInt64))] H := hP
  have hD : va_D A [(a0, .inr (7, [.int 0, .int 0, .double 0, .double 0, .float 0, .int 0, .int 0, .int 0, .int 0, .int 47, .double 0, .int 0, .int 0, .ref q_1, .ref q_2, .ref q_3, .ref q_4, .ref q_5, .null, .ref a9])), tc_F G q_1 3 (fun _ => (0 : UInt32)), tc_I G q_2 3 (fun _ => (0 : Int32)), tc_I G q_3 3 (fun _ => (0 : Int32)), tc_I G q_4 3 (fun _ => (0 : Int32)), tc_D G q_5 10 (fun _ => (0 : UInt64))] := hD
  refine lv_aload_n hx hb dX6_init_51 rfl (lv_at hl 0 rfl) ?_
  refine lv_bipush (v := 10) hx hb dX6_init_52 (by decide) ?_
  refine va_newa (atype := .boolean) hx hb (hts (.arrayClass .boolean) (List.mem_of_getElem? (i := 14) rfl)) (ty := .boolean) rfl hK hP hD hS hA (N' := 10) (a0 := (10, .inl (fun _ => (0 : Int32)))) (fun _ => rfl) (by decide) (by decide) (Nat.le_of_ble_eq_true rfl) (Nat.le_of_ble_eq_true rfl) (Nat.le_of_ble_eq_true rfl) dX6_init_54 (fun q_6 cA H hK9 hP hD hS => ?_)
  obtain rfl : cA = G.2.2.2.2.1 := tm_cA_Z hK9
  have hP : va_P G.1 vwCl [(a0, .inr (7, [.int 0, .int 0, .double 0, .double 0, .float 0, .int 0, .int 0, .int 0, .int 0, .int 47, .double 0, .int 0, .int 0, .ref q_1, .ref q_2, .ref q_3, .ref q_4, .ref q_5, .null, .ref a9])), tc_F G q_1 3 (fun _ => (0 : UInt32)), tc_I G q_2 3 (fun _ => (0 : Int32)), tc_I G q_3 3 (fun _ => (0 : Int32)), tc_I G q_4 3 (fun _ => (0 : Int32)), tc_D G q_5 10 (fun _ => (0 : UInt64)), tc_Z G q_6 10 (fun _ => (0 : Int32))] H := hP
  have hD : va_D A [(a0, .inr (7, [.int 0, .int 0, .double 0, .double 0, .float 0, .int 0, .int 0, .int 0, .int 0, .int 47, .double 0, .int 0, .int 0, .ref q_1, .ref q_2, .ref q_3, .ref q_4, .ref q_5, .null, .ref a9])), tc_F G q_1 3 (fun _ => (0 : UInt32)), tc_I G q_2 3 (fun _ => (0 : Int32)), tc_I G q_3 3 (fun _ => (0 : Int32)), tc_I G q_4 3 (fun _ => (0 : Int32)), tc_D G q_5 10 (fun _ => (0 : UInt64)), tc_Z G q_6 10 (fun _ => (0 : Int32))] := hD
  refine W.widen (k := 6) (n := 32) (Nat.le_of_ble_eq_true rfl) (Nat.le_of_ble_eq_true rfl) ?_
  refine va_putF (D := G.1) (ci := 7) (v := .ref q_6) (ty := .array .boolean) (C := RX6) (T := TX6) (N := 20) hx hb hts hiX6 tyX6 tyX6_ok nmX6 hown hK hP hD hS 0 rfl rfl 18 (by decide) (hts (.fieldLink RX6 37 "TideMillModel$Mill" "done" "[Z") (List.mem_of_getElem? (i := 15) rfl)) (fun _ h9 => h9) rfl hin rfl (by decide +kernel) rfl rfl (Nat.le_of_ble_eq_true rfl) dX6_init_56 (fun H locs hP hD hS => ?_)
  have hP : va_P G.1 vwCl [tc_X6 a0 0 0 0 0 0 0 0 0 0 47 0 0 0 q_1 q_2 q_3 q_4 q_5 q_6 a9, tc_F G q_1 3 (fun _ => (0 : UInt32)), tc_I G q_2 3 (fun _ => (0 : Int32)), tc_I G q_3 3 (fun _ => (0 : Int32)), tc_I G q_4 3 (fun _ => (0 : Int32)), tc_D G q_5 10 (fun _ => (0 : UInt64)), tc_Z G q_6 10 (fun _ => (0 : Int32))] H := hP
  have hD : va_D A [tc_X6 a0 0 0 0 0 0 0 0 0 0 47 0 0 0 q_1 q_2 q_3 q_4 q_5 q_6 a9, tc_F G q_1 3 (fun _ => (0 : UInt32)), tc_I G q_2 3 (fun _ => (0 : Int32)), tc_I G q_3 3 (fun _ => (0 : Int32)), tc_I G q_4 3 (fun _ => (0 : Int32)), tc_D G q_5 10 (fun _ => (0 : UInt64)), tc_Z G q_6 10 (fun _ => (0 : Int32))] := hD
  exact W.vret hx hb hr (fun t ht hW => ⟨⟨(), rfl, trivial, q_1, q_2, q_3, q_4, q_5, q_6, by rw [ht]; exact hP, hD⟩, hS.F ht⟩) hS.2.2 dX6_init_59
set_option maxHeartbeats 4000000 in
set_option maxRecDepth 100000 in
theorem c_X6_copy (l : Launch) (G : tm_G) (a0 : Nat) (e0 : Nat) (e1 : Nat) (e2 : Nat) (e3 : Nat) (e4 : Nat) (e5 : Nat) (mm : Nat) (sz : Nat) (tk : Int32) (mo : Int32) (su : UInt64) (lv : UInt64) (si : UInt32) (ga : Int32) (sl : Int32) (sc : Int32) (fh : Int32) (lh : Int32) (fo : UInt64) (ee : Int32) (pn : Int32) (dl : Nat → UInt32) (pl : Nat → Int32) (dr : Nat → Int32) (sp : Nat → Int32) (le : Nat → UInt64) (dn : Nat → Int32) (hn : n_X6_copy sc dn) : Met l yX6_copy wsX6_copy ({ frames := 2, cells := 7, slots := 52, locals := 45 }) (va_Pc [.ref a0] (tm_B G [tc_X6 a0 tk mo su lv si ga sl sc fh lh fo ee pn e0 e1 e2 e3 e4 e5 mm, tc_F G e0 3 dl, tc_I G e1 3 pl, tc_I G e2 3 dr, tc_I G e3 3 sp, tc_D G e4 10 le, tc_Z G e5 10 dn] sz)) (va_Qr (fun (_ : Unit) => True) (fun (_ : Unit) (ra : Nat) (t : State) => ∃ (q_3 q_4 q_5 q_6 q_7 q_8 : Nat), va_P G.1 vwCl [tc_X6 a0 tk mo su lv si ga sl sc fh lh fo ee pn e0 e1 e2 e3 e4 e5 mm, tc_F G e0 3 dl, tc_I G e1 3 pl, tc_I G e2 3 dr, tc_I G e3 3 sp, tc_D G e4 10 le, tc_Z G e5 10 dn, tc_X6 ra tk mo su lv si ga sl sc fh lh 0 0 pn q_3 q_4 q_5 q_6 q_7 q_8 mm, tc_F G q_3 3 dl, tc_I G q_4 3 pl, tc_I G q_5 3 dr, tc_I G q_6 3 (fun _ => (0 : Int32)), tc_D G q_7 10 le, tc_Z G q_8 10 dn] t.heap ∧ va_D (va_A [tc_X6 a0 tk mo su lv si ga sl sc fh lh fo ee pn e0 e1 e2 e3 e4 e5 mm, tc_F G e0 3 dl, tc_I G e1 3 pl, tc_I G e2 3 dr, tc_I G e3 3 sp, tc_D G e4 10 le, tc_Z G e5 10 dn] sz) [tc_X6 a0 tk mo su lv si ga sl sc fh lh fo ee pn e0 e1 e2 e3 e4 e5 mm, tc_F G e0 3 dl, tc_I G e1 3 pl, tc_I G e2 3 dr, tc_I G e3 3 sp, tc_D G e4 10 le, tc_Z G e5 10 dn, tc_X6 ra tk mo su lv si ga sl sc fh lh 0 0 pn q_3 q_4 q_5 q_6 q_7 q_8 mm, tc_F G q_3 3 dl, tc_I G q_4 3 pl, tc_I G q_5 3 dr, tc_I G q_6 3 (fun _ => (0 : Int32)), tc_D G q_7 10 le, tc_Z G q_8 10 dn]) (va_A [tc_X6 a0 tk mo su lv si ga sl sc fh lh fo ee pn e0 e1 e2 e3 e4 e5 mm, tc_F G e0 3 dl, tc_I G e1 3 pl, tc_I G e2 3 dr, tc_I G e3 3 sp, tc_D G e4 10 le, tc_Z G e5 10 dn] sz)) 7 52 (va_A [tc_X6 a0 tk mo su lv si ga sl sc fh lh fo ee pn e0 e1 e2 e3 e4 e5 mm, tc_F G e0 3 dl, tc_I G e1 3 pl, tc_I G e2 3 dr, tc_I G e3 3 sp, tc_D G e4 10 le, tc_Z G e5 10 dn] sz) := by
  refine Met.ofW (cc := cX6_copy) (maxL := 2) (ret := (some (.object "TideMillModel$Mill"))) (by decide) rfl ?_
  intro p e s m args below meth c s₁ B hml hv
  obtain ⟨rfl, hsz, hP, hK, hD0, hN, hV⟩ := hv
  have hx := B.exec
  have hb := B.bytes
  have hr := B.returns
  have hts := atoms_spec (ws := wsX6_copy) B.pre
  have hown : s.vm.findClass RX6 = some m.cls := findClass_of_methodNamed B.named
  have hlocks := B.notSynchronized
  subst hsz
  obtain ⟨n_9, n_10⟩ := hn
  have hiX6 : ∀ w ∈ u_ws RX6 TX6 20, w ∈ wsX6_copy := fun _ h => List.mem_cons_of_mem _ (List.mem_append_right _ h)
  have hD := hD0.self (sz := s.heap.size)
  generalize hAe : va_A [tc_X6 a0 tk mo su lv si ga sl sc fh lh fo ee pn e0 e1 e2 e3 e4 e5 mm, tc_F G e0 3 dl, tc_I G e1 3 pl, tc_I G e2 3 dr, tc_I G e3 3 sp, tc_D G e4 10 le, tc_Z G e5 10 dn] s.heap.size = A at hD hV ⊢
  have hA : ∀ q : Nat, s.heap.size ≤ q → A q := fun q h => by rw [← hAe]; exact Or.inr h
  have hS : va_S A s.heap s.heap [] := va_S.rf
  have hl := lv_entry ([.ref a0]) (n := 2) (Nat.le_of_ble_eq_true rfl)
  rw [lg_entry_eq]
  generalize (lg_sl ([.ref a0]) ++ List.replicate (2 - (lg_sl ([.ref a0])).length) Slot.unset).toArray = ls at hl ⊢
  have hl : lv_has ls 2 [(0, .ref a0)] := hl
  refine va_new (ci := 7) (fs := [.int 0, .int 0, .double 0, .double 0, .float 0, .int 0, .int 0, .int 0, .int 0, .int 0, .double 0, .int 0, .int 0, .null, .null, .null, .null, .null, .null, .null]) (C := RX6) (T := TX6) (N := 20) hx hb hts hiX6 tyX6 tyX6_ok hown (hts (.classLink RX6 4 RX6) (List.mem_of_getElem? (i := 1) rfl)) (hts (.instantiable RX6 20) (List.mem_of_getElem? (i := 2) rfl)) (hts (.initialized RX6) (List.mem_of_getElem? (i := 3) rfl)) hK hP hD hS hA rfl (fun j hj => by rcases (show j = 0 ∨ j = 1 ∨ j = 2 ∨ j = 3 ∨ j = 4 ∨ j = 5 ∨ j = 6 ∨ j = 7 ∨ j = 8 ∨ j = 9 ∨ j = 10 ∨ j = 11 ∨ j = 12 ∨ j = 13 ∨ j = 14 ∨ j = 15 ∨ j = 16 ∨ j = 17 ∨ j = 18 ∨ j = 19 by omega) with rfl | rfl | rfl | rfl | rfl | rfl | rfl | rfl | rfl | rfl | rfl | rfl | rfl | rfl | rfl | rfl | rfl | rfl | rfl | rfl <;> rfl) (Nat.le_of_ble_eq_true rfl) (Nat.le_of_ble_eq_true rfl) dX6_copy_0 (fun q_1 H hP hD hS => ?_)
  have hP : va_P G.1 vwCl [tc_X6 a0 tk mo su lv si ga sl sc fh lh fo ee pn e0 e1 e2 e3 e4 e5 mm, tc_F G e0 3 dl, tc_I G e1 3 pl, tc_I G e2 3 dr, tc_I G e3 3 sp, tc_D G e4 10 le, tc_Z G e5 10 dn, (q_1, .inr (7, [.int 0, .int 0, .double 0, .double 0, .float 0, .int 0, .int 0, .int 0, .int 0, .int 0, .double 0, .int 0, .int 0, .null, .null, .null, .null, .null, .null, .null]))] H := hP
  have hD : va_D A [tc_X6 a0 tk mo su lv si ga sl sc fh lh fo ee pn e0 e1 e2 e3 e4 e5 mm, tc_F G e0 3 dl, tc_I G e1 3 pl, tc_I G e2 3 dr, tc_I G e3 3 sp, tc_D G e4 10 le, tc_Z G e5 10 dn, (q_1, .inr (7, [.int 0, .int 0, .double 0, .double 0, .float 0, .int 0, .int 0, .int 0, .int 0, .int 0, .double 0, .int 0, .int 0, .null, .null, .null, .null, .null, .null, .null]))] := hD
  refine W.widen (k := 1) (n := 20) (Nat.le_of_ble_eq_true rfl) (Nat.le_of_ble_eq_true rfl) ?_
  refine lv_dup hx hb dX6_copy_3 rfl ?_
  refine lv_aload_n hx hb dX6_copy_4 rfl (lv_at hl 0 rfl) ?_
  refine va_get (D := G.1) (ci := 7) (v := .ref mm) (C := RX6) (T := TX6) (N := 20) hx hb hts hiX6 hown hK hP 0 rfl rfl 19 (by decide) (hts (.fieldLink RX6 3 "TideMillModel$Mill" "this$0" "LTideMillModel;") (List.mem_of_getElem? (i := 4) rfl)) (fun _ h9 => h9) rfl dX6_copy_5 ?_
  have hPc := hP.sub (ws' := [(q_1, .inr (7, [.int 0, .int 0, .double 0, .double 0, .float 0, .int 0, .int 0, .int 0, .int 0, .int 0, .double 0, .int 0, .int 0, .null, .null, .null, .null, .null, .null, .null]))]) [7] rfl
  have hDc := hD.sub (ws' := [(q_1, .inr (7, [.int 0, .int 0, .double 0, .double 0, .float 0, .int 0, .int 0, .int 0, .int 0, .int 0, .double 0, .int 0, .int 0, .null, .null, .null, .null, .null, .null, .null]))]) [7] (by decide) rfl
  have hFc := va_free (wc := [(q_1, .inr (7, [.int 0, .int 0, .double 0, .double 0, .float 0, .int 0, .int 0, .int 0, .int 0, .int 0, .double 0, .int 0, .int 0, .null, .null, .null, .null, .null, .null, .null]))]) hD hS hA [7] rfl
  refine va_callv (va_runI (As := [.ref mm]) (rest := [.ref q_1]) ⟨hx, hb, hml, hown, hts⟩ (c_X6_init l G q_1 mm H.size  ) (cwI 1 hts gX6_copy_X6_init rfl rfl rfl (hts (.initialized RX6) (List.mem_of_getElem? (i := 3) rfl)) (hts (.methodLink RX6 41 yX6_init) (List.mem_of_getElem? (i := 25) rfl)) (hts (.instanceMethod yX6_init) (List.mem_of_getElem? (i := 26) rfl)) rfl (by decide +kernel) ⟨(Nat.le_of_ble_eq_true rfl), (Nat.le_of_ble_eq_true rfl)⟩) (tm_preS hK hN hV hS hPc hDc hFc) rfl rfl hl.1 rfl (lv_room (Nat.le_of_ble_eq_true rfl)) dX6_copy_8 ⟨(Nat.le_of_ble_eq_true rfl), (Nat.le_of_ble_eq_true rfl)⟩) hS (fun q _ h => hFc q h) hFc (fun u t H locs ht hvm hw_2 hB hz1 hk1 hS => ?_)
  obtain ⟨q_3, q_4, q_5, q_6, q_7, q_8, hP1, hD1⟩ := hB
  rw [ht] at hP1
  obtain ⟨hP, hD⟩ := va_join (wr := [tc_X6 a0 tk mo su lv si ga sl sc fh lh fo ee pn e0 e1 e2 e3 e4 e5 mm, tc_F G e0 3 dl, tc_I G e1 3 pl, tc_I G e2 3 dr, tc_I G e3 3 sp, tc_D G e4 10 le, tc_Z G e5 10 dn]) (w1 := [tc_X6 q_1 0 0 0 0 0 0 0 0 0 47 0 0 0 q_3 q_4 q_5 q_6 q_7 q_8 mm, tc_F G q_3 3 (fun _ => (0 : UInt32)), tc_I G q_4 3 (fun _ => (0 : Int32)), tc_I G q_5 3 (fun _ => (0 : Int32)), tc_I G q_6 3 (fun _ => (0 : Int32)), tc_D G q_7 10 (fun _ => (0 : UInt64)), tc_Z G q_8 10 (fun _ => (0 : Int32))]) hP hD [7] [0, 1, 2, 3, 4, 5, 6] rfl rfl (by decide) (by decide) hk1 hFc hP1 hD1
  have hP : va_P G.1 vwCl [tc_X6 a0 tk mo su lv si ga sl sc fh lh fo ee pn e0 e1 e2 e3 e4 e5 mm, tc_F G e0 3 dl, tc_I G e1 3 pl, tc_I G e2 3 dr, tc_I G e3 3 sp, tc_D G e4 10 le, tc_Z G e5 10 dn, tc_X6 q_1 0 0 0 0 0 0 0 0 0 47 0 0 0 q_3 q_4 q_5 q_6 q_7 q_8 mm, tc_F G q_3 3 (fun _ => (0 : UInt32)), tc_I G q_4 3 (fun _ => (0 : Int32)), tc_I G q_5 3 (fun _ => (0 : Int32)), tc_I G q_6 3 (fun _ => (0 : Int32)), tc_D G q_7 10 (fun _ => (0 : UInt64)), tc_Z G q_8 10 (fun _ => (0 : Int32))] H := hP
  have hD : va_D A [tc_X6 a0 tk mo su lv si ga sl sc fh lh fo ee pn e0 e1 e2 e3 e4 e5 mm, tc_F G e0 3 dl, tc_I G e1 3 pl, tc_I G e2 3 dr, tc_I G e3 3 sp, tc_D G e4 10 le, tc_Z G e5 10 dn, tc_X6 q_1 0 0 0 0 0 0 0 0 0 47 0 0 0 q_3 q_4 q_5 q_6 q_7 q_8 mm, tc_F G q_3 3 (fun _ => (0 : UInt32)), tc_I G q_4 3 (fun _ => (0 : Int32)), tc_I G q_5 3 (fun _ => (0 : Int32)), tc_I G q_6 3 (fun _ => (0 : Int32)), tc_D G q_7 10 (fun _ => (0 : UInt64)), tc_Z G q_8 10 (fun _ => (0 : Int32))] := hD
  refine W.widen (k := 7) (n := 52) (Nat.le_of_ble_eq_true rfl) (Nat.le_of_ble_eq_true rfl) ?_
  refine lv_astore_n (lv' := [(1, .ref q_1), (0, .ref a0)]) hx hb dX6_copy_11 rfl hl (by decide) rfl (fun ls hl => ?_)
  refine lv_aload_n hx hb dX6_copy_12 rfl (lv_at hl 0 rfl) ?_
  refine lv_aload_n hx hb dX6_copy_13 rfl (lv_at hl 1 rfl) ?_
  refine va_get (D := G.1) (ci := 7) (v := .int tk) (C := RX6) (T := TX6) (N := 20) hx hb hts hiX6 hown hK hP 0 rfl rfl 0 (by decide) (hts (.fieldLink RX6 44 "TideMillModel$Mill" "tick" "I") (List.mem_of_getElem? (i := 5) rfl)) (fun _ h9 => h9) rfl dX6_copy_14 ?_
  refine va_put (D := G.1) (ci := 7) (v := .int tk) (ty := .int) (C := RX6) (T := TX6) (N := 20) hx hb hts hiX6 tyX6 tyX6_ok nmX6 hown hK hP hD hS 7 rfl rfl 0 (by decide) (hts (.fieldLink RX6 44 "TideMillModel$Mill" "tick" "I") (List.mem_of_getElem? (i := 5) rfl)) (fun _ h9 => h9) rfl (by decide +kernel) rfl rfl (Nat.le_of_ble_eq_true rfl) dX6_copy_17 (fun H locs hP hD hS => ?_)
  have hP : va_P G.1 vwCl [tc_X6 a0 tk mo su lv si ga sl sc fh lh fo ee pn e0 e1 e2 e3 e4 e5 mm, tc_F G e0 3 dl, tc_I G e1 3 pl, tc_I G e2 3 dr, tc_I G e3 3 sp, tc_D G e4 10 le, tc_Z G e5 10 dn, tc_X6 q_1 tk 0 0 0 0 0 0 0 0 47 0 0 0 q_3 q_4 q_5 q_6 q_7 q_8 mm, tc_F G q_3 3 (fun _ => (0 : UInt32)), tc_I G q_4 3 (fun _ => (0 : Int32)), tc_I G q_5 3 (fun _ => (0 : Int32)), tc_I G q_6 3 (fun _ => (0 : Int32)), tc_D G q_7 10 (fun _ => (0 : UInt64)), tc_Z G q_8 10 (fun _ => (0 : Int32))] H := hP
  have hD : va_D A [tc_X6 a0 tk mo su lv si ga sl sc fh lh fo ee pn e0 e1 e2 e3 e4 e5 mm, tc_F G e0 3 dl, tc_I G e1 3 pl, tc_I G e2 3 dr, tc_I G e3 3 sp, tc_D G e4 10 le, tc_Z G e5 10 dn, tc_X6 q_1 tk 0 0 0 0 0 0 0 0 47 0 0 0 q_3 q_4 q_5 q_6 q_7 q_8 mm, tc_F G q_3 3 (fun _ => (0 : UInt32)), tc_I G q_4 3 (fun _ => (0 : Int32)), tc_I G q_5 3 (fun _ => (0 : Int32)), tc_I G q_6 3 (fun _ => (0 : Int32)), tc_D G q_7 10 (fun _ => (0 : UInt64)), tc_Z G q_8 10 (fun _ => (0 : Int32))] := hD
  refine lv_aload_n hx hb dX6_copy_20 rfl (lv_at hl 0 rfl) ?_
  refine lv_aload_n hx hb dX6_copy_21 rfl (lv_at hl 1 rfl) ?_
  refine va_get (D := G.1) (ci := 7) (v := .int mo) (C := RX6) (T := TX6) (N := 20) hx hb hts hiX6 hown hK hP 0 rfl rfl 1 (by decide) (hts (.fieldLink RX6 47 "TideMillModel$Mill" "moon" "I") (List.mem_of_getElem? (i := 6) rfl)) (fun _ h9 => h9) rfl dX6_copy_22 ?_
  refine va_put (D := G.1) (ci := 7) (v := .int mo) (ty := .int) (C := RX6) (T := TX6) (N := 20) hx hb hts hiX6 tyX6 tyX6_ok nmX6 hown hK hP hD hS 7 rfl rfl 1 (by decide) (hts (.fieldLink RX6 47 "TideMillModel$Mill" "moon" "I") (List.mem_of_getElem? (i := 6) rfl)) (fun _ h9 => h9) rfl (by decide +kernel) rfl rfl (Nat.le_of_ble_eq_true rfl) dX6_copy_25 (fun H locs hP hD hS => ?_)
  have hP : va_P G.1 vwCl [tc_X6 a0 tk mo su lv si ga sl sc fh lh fo ee pn e0 e1 e2 e3 e4 e5 mm, tc_F G e0 3 dl, tc_I G e1 3 pl, tc_I G e2 3 dr, tc_I G e3 3 sp, tc_D G e4 10 le, tc_Z G e5 10 dn, tc_X6 q_1 tk mo 0 0 0 0 0 0 0 47 0 0 0 q_3 q_4 q_5 q_6 q_7 q_8 mm, tc_F G q_3 3 (fun _ => (0 : UInt32)), tc_I G q_4 3 (fun _ => (0 : Int32)), tc_I G q_5 3 (fun _ => (0 : Int32)), tc_I G q_6 3 (fun _ => (0 : Int32)), tc_D G q_7 10 (fun _ => (0 : UInt64)), tc_Z G q_8 10 (fun _ => (0 : Int32))] H := hP
  have hD : va_D A [tc_X6 a0 tk mo su lv si ga sl sc fh lh fo ee pn e0 e1 e2 e3 e4 e5 mm, tc_F G e0 3 dl, tc_I G e1 3 pl, tc_I G e2 3 dr, tc_I G e3 3 sp, tc_D G e4 10 le, tc_Z G e5 10 dn, tc_X6 q_1 tk mo 0 0 0 0 0 0 0 47 0 0 0 q_3 q_4 q_5 q_6 q_7 q_8 mm, tc_F G q_3 3 (fun _ => (0 : UInt32)), tc_I G q_4 3 (fun _ => (0 : Int32)), tc_I G q_5 3 (fun _ => (0 : Int32)), tc_I G q_6 3 (fun _ => (0 : Int32)), tc_D G q_7 10 (fun _ => (0 : UInt64)), tc_Z G q_8 10 (fun _ => (0 : Int32))] := hD
  refine lv_aload_n hx hb dX6_copy_28 rfl (lv_at hl 0 rfl) ?_
  refine lv_aload_n hx hb dX6_copy_29 rfl (lv_at hl 1 rfl) ?_
  refine va_get (D := G.1) (ci := 7) (v := .double su) (C := RX6) (T := TX6) (N := 20) hx hb hts hiX6 hown hK hP 0 rfl rfl 2 (by decide) (hts (.fieldLink RX6 50 "TideMillModel$Mill" "surge" "D") (List.mem_of_getElem? (i := 7) rfl)) (fun _ h9 => h9) rfl dX6_copy_30 ?_
  refine va_put (D := G.1) (ci := 7) (v := .double su) (ty := .double) (C := RX6) (T := TX6) (N := 20) hx hb hts hiX6 tyX6 tyX6_ok nmX6 hown hK hP hD hS 7 rfl rfl 2 (by decide) (hts (.fieldLink RX6 50 "TideMillModel$Mill" "surge" "D") (List.mem_of_getElem? (i := 7) rfl)) (fun _ h9 => h9) rfl (by decide +kernel) rfl rfl (Nat.le_of_ble_eq_true rfl) dX6_copy_33 (fun H locs hP hD hS => ?_)
  have hP : va_P G.1 vwCl [tc_X6 a0 tk mo su lv si ga sl sc fh lh fo ee pn e0 e1 e2 e3 e4 e5 mm, tc_F G e0 3 dl, tc_I G e1 3 pl, tc_I G e2 3 dr, tc_I G e3 3 sp, tc_D G e4 10 le, tc_Z G e5 10 dn, tc_X6 q_1 tk mo su 0 0 0 0 0 0 47 0 0 0 q_3 q_4 q_5 q_6 q_7 q_8 mm, tc_F G q_3 3 (fun _ => (0 : UInt32)), tc_I G q_4 3 (fun _ => (0 : Int32)), tc_I G q_5 3 (fun _ => (0 : Int32)), tc_I G q_6 3 (fun _ => (0 : Int32)), tc_D G q_7 10 (fun _ => (0 : UInt64)), tc_Z G q_8 10 (fun _ => (0 : Int32))] H := hP
  have hD : va_D A [tc_X6 a0 tk mo su lv si ga sl sc fh lh fo ee pn e0 e1 e2 e3 e4 e5 mm, tc_F G e0 3 dl, tc_I G e1 3 pl, tc_I G e2 3 dr, tc_I G e3 3 sp, tc_D G e4 10 le, tc_Z G e5 10 dn, tc_X6 q_1 tk mo su 0 0 0 0 0 0 47 0 0 0 q_3 q_4 q_5 q_6 q_7 q_8 mm, tc_F G q_3 3 (fun _ => (0 : UInt32)), tc_I G q_4 3 (fun _ => (0 : Int32)), tc_I G q_5 3 (fun _ => (0 : Int32)), tc_I G q_6 3 (fun _ => (0 : Int32)), tc_D G q_7 10 (fun _ => (0 : UInt64)), tc_Z G q_8 10 (fun _ => (0 : Int32))] := hD
  refine lv_aload_n hx hb dX6_copy_36 rfl (lv_at hl 0 rfl) ?_
  refine lv_aload_n hx hb dX6_copy_37 rfl (lv_at hl 1 rfl) ?_
  refine va_get (D := G.1) (ci := 7) (v := .double lv) (C := RX6) (T := TX6) (N := 20) hx hb hts hiX6 hown hK hP 0 rfl rfl 3 (by decide) (hts (.fieldLink RX6 54 "TideMillModel$Mill" "level" "D") (List.mem_of_getElem? (i := 8) rfl)) (fun _ h9 => h9) rfl dX6_copy_38 ?_
  refine va_put (D := G.1) (ci := 7) (v := .double lv) (ty := .double) (C := RX6) (T := TX6) (N := 20) hx hb hts hiX6 tyX6 tyX6_ok nmX6 hown hK hP hD hS 7 rfl rfl 3 (by decide) (hts (.fieldLink RX6 54 "TideMillModel$Mill" "level" "D") (List.mem_of_getElem? (i := 8) rfl)) (fun _ h9 => h9) rfl (by decide +kernel) rfl rfl (Nat.le_of_ble_eq_true rfl) dX6_copy_41 (fun H locs hP hD hS => ?_)
  have hP : va_P G.1 vwCl [tc_X6 a0 tk mo su lv si ga sl sc fh lh fo ee pn e0 e1 e2 e3 e4 e5 mm, tc_F G e0 3 dl, tc_I G e1 3 pl, tc_I G e2 3 dr, tc_I G e3 3 sp, tc_D G e4 10 le, tc_Z G e5 10 dn, tc_X6 q_1 tk mo su lv 0 0 0 0 0 47 0 0 0 q_3 q_4 q_5 q_6 q_7 q_8 mm, tc_F G q_3 3 (fun _ => (0 : UInt32)), tc_I G q_4 3 (fun _ => (0 : Int32)), tc_I G q_5 3 (fun _ => (0 : Int32)), tc_I G q_6 3 (fun _ => (0 : Int32)), tc_D G q_7 10 (fun _ => (0 : UInt64)), tc_Z G q_8 10 (fun _ => (0 : Int32))] H := hP
  have hD : va_D A [tc_X6 a0 tk mo su lv si ga sl sc fh lh fo ee pn e0 e1 e2 e3 e4 e5 mm, tc_F G e0 3 dl, tc_I G e1 3 pl, tc_I G e2 3 dr, tc_I G e3 3 sp, tc_D G e4 10 le, tc_Z G e5 10 dn, tc_X6 q_1 tk mo su lv 0 0 0 0 0 47 0 0 0 q_3 q_4 q_5 q_6 q_7 q_8 mm, tc_F G q_3 3 (fun _ => (0 : UInt32)), tc_I G q_4 3 (fun _ => (0 : Int32)), tc_I G q_5 3 (fun _ => (0 : Int32)), tc_I G q_6 3 (fun _ => (0 : Int32)), tc_D G q_7 10 (fun _ => (0 : UInt64)), tc_Z G q_8 10 (fun _ => (0 : Int32))] := hD
  refine lv_aload_n hx hb dX6_copy_44 rfl (lv_at hl 0 rfl) ?_
  refine lv_aload_n hx hb dX6_copy_45 rfl (lv_at hl 1 rfl) ?_
  refine va_get (D := G.1) (ci := 7) (v := .float si) (C := RX6) (T := TX6) (N := 20) hx hb hts hiX6 hown hK hP 0 rfl rfl 4 (by decide) (hts (.fieldLink RX6 57 "TideMillModel$Mill" "silt" "F") (List.mem_of_getElem? (i := 9) rfl)) (fun _ h9 => h9) rfl dX6_copy_46 ?_
  refine va_put (D := G.1) (ci := 7) (v := .float si) (ty := .float) (C := RX6) (T := TX6) (N := 20) hx hb hts hiX6 tyX6 tyX6_ok nmX6 hown hK hP hD hS 7 rfl rfl 4 (by decide) (hts (.fieldLink RX6 57 "TideMillModel$Mill" "silt" "F") (List.mem_of_getElem? (i := 9) rfl)) (fun _ h9 => h9) rfl (by decide +kernel) rfl rfl (Nat.le_of_ble_eq_true rfl) dX6_copy_49 (fun H locs hP hD hS => ?_)
  have hP : va_P G.1 vwCl [tc_X6 a0 tk mo su lv si ga sl sc fh lh fo ee pn e0 e1 e2 e3 e4 e5 mm, tc_F G e0 3 dl, tc_I G e1 3 pl, tc_I G e2 3 dr, tc_I G e3 3 sp, tc_D G e4 10 le, tc_Z G e5 10 dn, tc_X6 q_1 tk mo su lv si 0 0 0 0 47 0 0 0 q_3 q_4 q_5 q_6 q_7 q_8 mm, tc_F G q_3 3 (fun _ => (0 : UInt32)), tc_I G q_4 3 (fun _ => (0 : Int32)), tc_I G q_5 3 (fun _ => (0 : Int32)), tc_I G q_6 3 (fun _ => (0 : Int32)), tc_D G q_7 10 (fun _ => (0 : UInt64)), tc_Z G q_8 10 (fun _ => (0 : Int32))] H := hP
  have hD : va_D A [tc_X6 a0 tk mo su lv si ga sl sc fh lh fo ee pn e0 e1 e2 e3 e4 e5 mm, tc_F G e0 3 dl, tc_I G e1 3 pl, tc_I G e2 3 dr, tc_I G e3 3 sp, tc_D G e4 10 le, tc_Z G e5 10 dn, tc_X6 q_1 tk mo su lv si 0 0 0 0 47 0 0 0 q_3 q_4 q_5 q_6 q_7 q_8 mm, tc_F G q_3 3 (fun _ => (0 : UInt32)), tc_I G q_4 3 (fun _ => (0 : Int32)), tc_I G q_5 3 (fun _ => (0 : Int32)), tc_I G q_6 3 (fun _ => (0 : Int32)), tc_D G q_7 10 (fun _ => (0 : UInt64)), tc_Z G q_8 10 (fun _ => (0 : Int32))] := hD
  refine lv_aload_n hx hb dX6_copy_52 rfl (lv_at hl 0 rfl) ?_
  refine lv_aload_n hx hb dX6_copy_53 rfl (lv_at hl 1 rfl) ?_
  refine va_get (D := G.1) (ci := 7) (v := .int ga) (C := RX6) (T := TX6) (N := 20) hx hb hts hiX6 hown hK hP 0 rfl rfl 5 (by decide) (hts (.fieldLink RX6 61 "TideMillModel$Mill" "gates" "I") (List.mem_of_getElem? (i := 10) rfl)) (fun _ h9 => h9) rfl dX6_copy_54 ?_
  refine va_put (D := G.1) (ci := 7) (v := .int ga) (ty := .int) (C := RX6) (T := TX6) (N := 20) hx hb hts hiX6 tyX6 tyX6_ok nmX6 hown hK hP hD hS 7 rfl rfl 5 (by decide) (hts (.fieldLink RX6 61 "TideMillModel$Mill" "gates" "I") (List.mem_of_getElem? (i := 10) rfl)) (fun _ h9 => h9) rfl (by decide +kernel) rfl rfl (Nat.le_of_ble_eq_true rfl) dX6_copy_57 (fun H locs hP hD hS => ?_)
  have hP : va_P G.1 vwCl [tc_X6 a0 tk mo su lv si ga sl sc fh lh fo ee pn e0 e1 e2 e3 e4 e5 mm, tc_F G e0 3 dl, tc_I G e1 3 pl, tc_I G e2 3 dr, tc_I G e3 3 sp, tc_D G e4 10 le, tc_Z G e5 10 dn, tc_X6 q_1 tk mo su lv si ga 0 0 0 47 0 0 0 q_3 q_4 q_5 q_6 q_7 q_8 mm, tc_F G q_3 3 (fun _ => (0 : UInt32)), tc_I G q_4 3 (fun _ => (0 : Int32)), tc_I G q_5 3 (fun _ => (0 : Int32)), tc_I G q_6 3 (fun _ => (0 : Int32)), tc_D G q_7 10 (fun _ => (0 : UInt64)), tc_Z G q_8 10 (fun _ => (0 : Int32))] H := hP
  have hD : va_D A [tc_X6 a0 tk mo su lv si ga sl sc fh lh fo ee pn e0 e1 e2 e3 e4 e5 mm, tc_F G e0 3 dl, tc_I G e1 3 pl, tc_I G e2 3 dr, tc_I G e3 3 sp, tc_D G e4 10 le, tc_Z G e5 10 dn, tc_X6 q_1 tk mo su lv si ga 0 0 0 47 0 0 0 q_3 q_4 q_5 q_6 q_7 q_8 mm, tc_F G q_3 3 (fun _ => (0 : UInt32)), tc_I G q_4 3 (fun _ => (0 : Int32)), tc_I G q_5 3 (fun _ => (0 : Int32)), tc_I G q_6 3 (fun _ => (0 : Int32)), tc_D G q_7 10 (fun _ => (0 : UInt64)), tc_Z G q_8 10 (fun _ => (0 : Int32))] := hD
  refine lv_aload_n hx hb dX6_copy_60 rfl (lv_at hl 0 rfl) ?_
  refine lv_aload_n hx hb dX6_copy_61 rfl (lv_at hl 1 rfl) ?_
  refine va_get (D := G.1) (ci := 7) (v := .int sl) (C := RX6) (T := TX6) (N := 20) hx hb hts hiX6 hown hK hP 0 rfl rfl 6 (by decide) (hts (.fieldLink RX6 64 "TideMillModel$Mill" "sluice" "I") (List.mem_of_getElem? (i := 11) rfl)) (fun _ h9 => h9) rfl dX6_copy_62 ?_
  refine va_put (D := G.1) (ci := 7) (v := .int sl) (ty := .int) (C := RX6) (T := TX6) (N := 20) hx hb hts hiX6 tyX6 tyX6_ok nmX6 hown hK hP hD hS 7 rfl rfl 6 (by decide) (hts (.fieldLink RX6 64 "TideMillModel$Mill" "sluice" "I") (List.mem_of_getElem? (i := 11) rfl)) (fun _ h9 => h9) rfl (by decide +kernel) rfl rfl (Nat.le_of_ble_eq_true rfl) dX6_copy_65 (fun H locs hP hD hS => ?_)
  have hP : va_P G.1 vwCl [tc_X6 a0 tk mo su lv si ga sl sc fh lh fo ee pn e0 e1 e2 e3 e4 e5 mm, tc_F G e0 3 dl, tc_I G e1 3 pl, tc_I G e2 3 dr, tc_I G e3 3 sp, tc_D G e4 10 le, tc_Z G e5 10 dn, tc_X6 q_1 tk mo su lv si ga sl 0 0 47 0 0 0 q_3 q_4 q_5 q_6 q_7 q_8 mm, tc_F G q_3 3 (fun _ => (0 : UInt32)), tc_I G q_4 3 (fun _ => (0 : Int32)), tc_I G q_5 3 (fun _ => (0 : Int32)), tc_I G q_6 3 (fun _ => (0 : Int32)), tc_D G q_7 10 (fun _ => (0 : UInt64)), tc_Z G q_8 10 (fun _ => (0 : Int32))] H := hP
  have hD : va_D A [tc_X6 a0 tk mo su lv si ga sl sc fh lh fo ee pn e0 e1 e2 e3 e4 e5 mm, tc_F G e0 3 dl, tc_I G e1 3 pl, tc_I G e2 3 dr, tc_I G e3 3 sp, tc_D G e4 10 le, tc_Z G e5 10 dn, tc_X6 q_1 tk mo su lv si ga sl 0 0 47 0 0 0 q_3 q_4 q_5 q_6 q_7 q_8 mm, tc_F G q_3 3 (fun _ => (0 : UInt32)), tc_I G q_4 3 (fun _ => (0 : Int32)), tc_I G q_5 3 (fun _ => (0 : Int32)), tc_I G q_6 3 (fun _ => (0 : Int32)), tc_D G q_7 10 (fun _ => (0 : UInt64)), tc_Z G q_8 10 (fun _ => (0 : Int32))] := hD
  refine lv_aload_n hx hb dX6_copy_68 rfl (lv_at hl 0 rfl) ?_
  refine lv_aload_n hx hb dX6_copy_69 rfl (lv_at hl 1 rfl) ?_
  refine va_get (D := G.1) (ci := 7) (v := .int sc) (C := RX6) (T := TX6) (N := 20) hx hb hts hiX6 hown hK hP 0 rfl rfl 7 (by decide) (hts (.fieldLink RX6 67 "TideMillModel$Mill" "isScouring" "Z") (List.mem_of_getElem? (i := 12) rfl)) (fun _ h9 => h9) rfl dX6_copy_70 ?_
  refine va_put (D := G.1) (ci := 7) (v := .int sc) (ty := .boolean) (C := RX6) (T := TX6) (N := 20) hx hb hts hiX6 tyX6 tyX6_ok nmX6 hown hK hP hD hS 7 rfl rfl 7 (by decide) (hts (.fieldLink RX6 67 "TideMillModel$Mill" "isScouring" "Z") (List.mem_of_getElem? (i := 12) rfl)) (fun _ h9 => h9) rfl (by decide +kernel) (tm_bool_n n_9) (tm_bool_f n_9) (Nat.le_of_ble_eq_true rfl) dX6_copy_73 (fun H locs hP hD hS => ?_)
  have hP : va_P G.1 vwCl [tc_X6 a0 tk mo su lv si ga sl sc fh lh fo ee pn e0 e1 e2 e3 e4 e5 mm, tc_F G e0 3 dl, tc_I G e1 3 pl, tc_I G e2 3 dr, tc_I G e3 3 sp, tc_D G e4 10 le, tc_Z G e5 10 dn, tc_X6 q_1 tk mo su lv si ga sl sc 0 47 0 0 0 q_3 q_4 q_5 q_6 q_7 q_8 mm, tc_F G q_3 3 (fun _ => (0 : UInt32)), tc_I G q_4 3 (fun _ => (0 : Int32)), tc_I G q_5 3 (fun _ => (0 : Int32)), tc_I G q_6 3 (fun _ => (0 : Int32)), tc_D G q_7 10 (fun _ => (0 : UInt64)), tc_Z G q_8 10 (fun _ => (0 : Int32))] H := hP
  have hD : va_D A [tc_X6 a0 tk mo su lv si ga sl sc fh lh fo ee pn e0 e1 e2 e3 e4 e5 mm, tc_F G e0 3 dl, tc_I G e1 3 pl, tc_I G e2 3 dr, tc_I G e3 3 sp, tc_D G e4 10 le, tc_Z G e5 10 dn, tc_X6 q_1 tk mo su lv si ga sl sc 0 47 0 0 0 q_3 q_4 q_5 q_6 q_7 q_8 mm, tc_F G q_3 3 (fun _ => (0 : UInt32)), tc_I G q_4 3 (fun _ => (0 : Int32)), tc_I G q_5 3 (fun _ => (0 : Int32)), tc_I G q_6 3 (fun _ => (0 : Int32)), tc_D G q_7 10 (fun _ => (0 : UInt64)), tc_Z G q_8 10 (fun _ => (0 : Int32))] := hD
  refine lv_aload_n hx hb dX6_copy_76 rfl (lv_at hl 0 rfl) ?_
  refine lv_aload_n hx hb dX6_copy_77 rfl (lv_at hl 1 rfl) ?_
  refine va_get (D := G.1) (ci := 7) (v := .int fh) (C := RX6) (T := TX6) (N := 20) hx hb hts hiX6 hown hK hP 0 rfl rfl 8 (by decide) (hts (.fieldLink RX6 71 "TideMillModel$Mill" "from" "I") (List.mem_of_getElem? (i := 13) rfl)) (fun _ h9 => h9) rfl dX6_copy_78 ?_
  refine va_put (D := G.1) (ci := 7) (v := .int fh) (ty := .int) (C := RX6) (T := TX6) (N := 20) hx hb hts hiX6 tyX6 tyX6_ok nmX6 hown hK hP hD hS 7 rfl rfl 8 (by decide) (hts (.fieldLink RX6 71 "TideMillModel$Mill" "from" "I") (List.mem_of_getElem? (i := 13) rfl)) (fun _ h9 => h9) rfl (by decide +kernel) rfl rfl (Nat.le_of_ble_eq_true rfl) dX6_copy_81 (fun H locs hP hD hS => ?_)
  have hP : va_P G.1 vwCl [tc_X6 a0 tk mo su lv si ga sl sc fh lh fo ee pn e0 e1 e2 e3 e4 e5 mm, tc_F G e0 3 dl, tc_I G e1 3 pl, tc_I G e2 3 dr, tc_I G e3 3 sp, tc_D G e4 10 le, tc_Z G e5 10 dn, tc_X6 q_1 tk mo su lv si ga sl sc fh 47 0 0 0 q_3 q_4 q_5 q_6 q_7 q_8 mm, tc_F G q_3 3 (fun _ => (0 : UInt32)), tc_I G q_4 3 (fun _ => (0 : Int32)), tc_I G q_5 3 (fun _ => (0 : Int32)), tc_I G q_6 3 (fun _ => (0 : Int32)), tc_D G q_7 10 (fun _ => (0 : UInt64)), tc_Z G q_8 10 (fun _ => (0 : Int32))] H := hP
  have hD : va_D A [tc_X6 a0 tk mo su lv si ga sl sc fh lh fo ee pn e0 e1 e2 e3 e4 e5 mm, tc_F G e0 3 dl, tc_I G e1 3 pl, tc_I G e2 3 dr, tc_I G e3 3 sp, tc_D G e4 10 le, tc_Z G e5 10 dn, tc_X6 q_1 tk mo su lv si ga sl sc fh 47 0 0 0 q_3 q_4 q_5 q_6 q_7 q_8 mm, tc_F G q_3 3 (fun _ => (0 : UInt32)), tc_I G q_4 3 (fun _ => (0 : Int32)), tc_I G q_5 3 (fun _ => (0 : Int32)), tc_I G q_6 3 (fun _ => (0 : Int32)), tc_D G q_7 10 (fun _ => (0 : UInt64)), tc_Z G q_8 10 (fun _ => (0 : Int32))] := hD
  refine lv_aload_n hx hb dX6_copy_84 rfl (lv_at hl 0 rfl) ?_
  refine lv_aload_n hx hb dX6_copy_85 rfl (lv_at hl 1 rfl) ?_
  refine va_get (D := G.1) (ci := 7) (v := .int lh) (C := RX6) (T := TX6) (N := 20) hx hb hts hiX6 hown hK hP 0 rfl rfl 9 (by decide) (hts (.fieldLink RX6 15 "TideMillModel$Mill" "to" "I") (List.mem_of_getElem? (i := 14) rfl)) (fun _ h9 => h9) rfl dX6_copy_86 ?_
  refine va_put (D := G.1) (ci := 7) (v := .int lh) (ty := .int) (C := RX6) (T := TX6) (N := 20) hx hb hts hiX6 tyX6 tyX6_ok nmX6 hown hK hP hD hS 7 rfl rfl 9 (by decide) (hts (.fieldLink RX6 15 "TideMillModel$Mill" "to" "I") (List.mem_of_getElem? (i := 14) rfl)) (fun _ h9 => h9) rfl (by decide +kernel) rfl rfl (Nat.le_of_ble_eq_true rfl) dX6_copy_89 (fun H locs hP hD hS => ?_)
  have hP : va_P G.1 vwCl [tc_X6 a0 tk mo su lv si ga sl sc fh lh fo ee pn e0 e1 e2 e3 e4 e5 mm, tc_F G e0 3 dl, tc_I G e1 3 pl, tc_I G e2 3 dr, tc_I G e3 3 sp, tc_D G e4 10 le, tc_Z G e5 10 dn, tc_X6 q_1 tk mo su lv si ga sl sc fh lh 0 0 0 q_3 q_4 q_5 q_6 q_7 q_8 mm, tc_F G q_3 3 (fun _ => (0 : UInt32)), tc_I G q_4 3 (fun _ => (0 : Int32)), tc_I G q_5 3 (fun _ => (0 : Int32)), tc_I G q_6 3 (fun _ => (0 : Int32)), tc_D G q_7 10 (fun _ => (0 : UInt64)), tc_Z G q_8 10 (fun _ => (0 : Int32))] H := hP
  have hD : va_D A [tc_X6 a0 tk mo su lv si ga sl sc fh lh fo ee pn e0 e1 e2 e3 e4 e5 mm, tc_F G e0 3 dl, tc_I G e1 3 pl, tc_I G e2 3 dr, tc_I G e3 3 sp, tc_D G e4 10 le, tc_Z G e5 10 dn, tc_X6 q_1 tk mo su lv si ga sl sc fh lh 0 0 0 q_3 q_4 q_5 q_6 q_7 q_8 mm, tc_F G q_3 3 (fun _ => (0 : UInt32)), tc_I G q_4 3 (fun _ => (0 : Int32)), tc_I G q_5 3 (fun _ => (0 : Int32)), tc_I G q_6 3 (fun _ => (0 : Int32)), tc_D G q_7 10 (fun _ => (0 : UInt64)), tc_Z G q_8 10 (fun _ => (0 : Int32))] := hD
  refine lv_aload_n hx hb dX6_copy_92 rfl (lv_at hl 0 rfl) ?_
  refine lv_aload_n hx hb dX6_copy_93 rfl (lv_at hl 1 rfl) ?_
  refine va_get (D := G.1) (ci := 7) (v := .int pn) (C := RX6) (T := TX6) (N := 20) hx hb hts hiX6 hown hK hP 0 rfl rfl 12 (by decide) (hts (.fieldLink RX6 74 "TideMillModel$Mill" "pairs" "I") (List.mem_of_getElem? (i := 15) rfl)) (fun _ h9 => h9) rfl dX6_copy_94 ?_
  refine va_put (D := G.1) (ci := 7) (v := .int pn) (ty := .int) (C := RX6) (T := TX6) (N := 20) hx hb hts hiX6 tyX6 tyX6_ok nmX6 hown hK hP hD hS 7 rfl rfl 12 (by decide) (hts (.fieldLink RX6 74 "TideMillModel$Mill" "pairs" "I") (List.mem_of_getElem? (i := 15) rfl)) (fun _ h9 => h9) rfl (by decide +kernel) rfl rfl (Nat.le_of_ble_eq_true rfl) dX6_copy_97 (fun H locs hP hD hS => ?_)
  have hP : va_P G.1 vwCl [tc_X6 a0 tk mo su lv si ga sl sc fh lh fo ee pn e0 e1 e2 e3 e4 e5 mm, tc_F G e0 3 dl, tc_I G e1 3 pl, tc_I G e2 3 dr, tc_I G e3 3 sp, tc_D G e4 10 le, tc_Z G e5 10 dn, tc_X6 q_1 tk mo su lv si ga sl sc fh lh 0 0 pn q_3 q_4 q_5 q_6 q_7 q_8 mm, tc_F G q_3 3 (fun _ => (0 : UInt32)), tc_I G q_4 3 (fun _ => (0 : Int32)), tc_I G q_5 3 (fun _ => (0 : Int32)), tc_I G q_6 3 (fun _ => (0 : Int32)), tc_D G q_7 10 (fun _ => (0 : UInt64)), tc_Z G q_8 10 (fun _ => (0 : Int32))] H := hP
  have hD : va_D A [tc_X6 a0 tk mo su lv si ga sl sc fh lh fo ee pn e0 e1 e2 e3 e4 e5 mm, tc_F G e0 3 dl, tc_I G e1 3 pl, tc_I G e2 3 dr, tc_I G e3 3 sp, tc_D G e4 10 le, tc_Z G e5 10 dn, tc_X6 q_1 tk mo su lv si ga sl sc fh lh 0 0 pn q_3 q_4 q_5 q_6 q_7 q_8 mm, tc_F G q_3 3 (fun _ => (0 : UInt32)), tc_I G q_4 3 (fun _ => (0 : Int32)), tc_I G q_5 3 (fun _ => (0 : Int32)), tc_I G q_6 3 (fun _ => (0 : Int32)), tc_D G q_7 10 (fun _ => (0 : UInt64)), tc_Z G q_8 10 (fun _ => (0 : Int32))] := hD
  refine lv_aload_n hx hb dX6_copy_100 rfl (lv_at hl 1 rfl) ?_
  refine va_get (D := G.1) (ci := 7) (v := .ref e0) (C := RX6) (T := TX6) (N := 20) hx hb hts hiX6 hown hK hP 0 rfl rfl 13 (by decide) (hts (.fieldLink RX6 19 "TideMillModel$Mill" "dull" "[F") (List.mem_of_getElem? (i := 16) rfl)) (fun _ h9 => h9) rfl dX6_copy_101 ?_
  refine lv_iconst (v := 0) hx hb dX6_copy_104 (by decide) ?_
  refine lv_aload_n hx hb dX6_copy_105 rfl (lv_at hl 0 rfl) ?_
  refine va_get (D := G.1) (ci := 7) (v := .ref q_3) (C := RX6) (T := TX6) (N := 20) hx hb hts hiX6 hown hK hP 7 rfl rfl 13 (by decide) (hts (.fieldLink RX6 19 "TideMillModel$Mill" "dull" "[F") (List.mem_of_getElem? (i := 16) rfl)) (fun _ h9 => h9) rfl dX6_copy_106 ?_
  refine lv_iconst (v := 0) hx hb dX6_copy_109 (by decide) ?_
  refine lv_iconst (v := 3) hx hb dX6_copy_110 (by decide) ?_
  refine va_copyf hx hb (by rw [hml]; exact hl.1.symm) hown (hts (.methodLink RX6 77 arraycopyName) (List.mem_of_getElem? (i := 17) rfl)) (hts (.native arraycopyName) (List.mem_of_getElem? (i := 18) rfl)) (hts (.static arraycopyName) (List.mem_of_getElem? (i := 19) rfl)) (hts (.initialized "java/lang/System") (List.mem_of_getElem? (i := 20) rfl)) hK hP hD hS 1 8 2 2 rfl rfl rfl rfl rfl (by decide) (by decide) (by decide) (by decide) (by decide) (fun _ _ => rfl) (Nat.le_of_ble_eq_true rfl) (Nat.le_of_ble_eq_true rfl) dX6_copy_111 (fun H locs hP hD hS => ?_)
  have hP := tm_cpP_f (f := dl) (g := fun _ => (0 : UInt32)) (q := 8) (sp := (0 : Int32).toNatClampNeg) (dp := (0 : Int32).toNatClampNeg) (k := (3 : Int32).toNatClampNeg) (Nat.le_of_ble_eq_true rfl) rfl rfl rfl hP
  have hD := tm_cpD (q := 8) (e := .inl (G.2.2.2.1, 3, .inr (.inr (.inl dl)))) (Nat.le_of_ble_eq_true rfl) hD
  have hP : va_P G.1 vwCl [tc_X6 a0 tk mo su lv si ga sl sc fh lh fo ee pn e0 e1 e2 e3 e4 e5 mm, tc_F G e0 3 dl, tc_I G e1 3 pl, tc_I G e2 3 dr, tc_I G e3 3 sp, tc_D G e4 10 le, tc_Z G e5 10 dn, tc_X6 q_1 tk mo su lv si ga sl sc fh lh 0 0 pn q_3 q_4 q_5 q_6 q_7 q_8 mm, tc_F G q_3 3 dl, tc_I G q_4 3 (fun _ => (0 : Int32)), tc_I G q_5 3 (fun _ => (0 : Int32)), tc_I G q_6 3 (fun _ => (0 : Int32)), tc_D G q_7 10 (fun _ => (0 : UInt64)), tc_Z G q_8 10 (fun _ => (0 : Int32))] H := hP
  have hD : va_D A [tc_X6 a0 tk mo su lv si ga sl sc fh lh fo ee pn e0 e1 e2 e3 e4 e5 mm, tc_F G e0 3 dl, tc_I G e1 3 pl, tc_I G e2 3 dr, tc_I G e3 3 sp, tc_D G e4 10 le, tc_Z G e5 10 dn, tc_X6 q_1 tk mo su lv si ga sl sc fh lh 0 0 pn q_3 q_4 q_5 q_6 q_7 q_8 mm, tc_F G q_3 3 dl, tc_I G q_4 3 (fun _ => (0 : Int32)), tc_I G q_5 3 (fun _ => (0 : Int32)), tc_I G q_6 3 (fun _ => (0 : Int32)), tc_D G q_7 10 (fun _ => (0 : UInt64)), tc_Z G q_8 10 (fun _ => (0 : Int32))] := hD
  refine lv_aload_n hx hb dX6_copy_114 rfl (lv_at hl 1 rfl) ?_
  refine va_get (D := G.1) (ci := 7) (v := .ref e1) (C := RX6) (T := TX6) (N := 20) hx hb hts hiX6 hown hK hP 0 rfl rfl 14 (by decide) (hts (.fieldLink RX6 23 "TideMillModel$Mill" "lot" "[I") (List.mem_of_getElem? (i := 21) rfl)) (fun _ h9 => h9) rfl dX6_copy_115 ?_
  refine lv_iconst (v := 0) hx hb dX6_copy_118 (by decide) ?_
  refine lv_aload_n hx hb dX6_copy_119 rfl (lv_at hl 0 rfl) ?_
  refine va_get (D := G.1) (ci := 7) (v := .ref q_4) (C := RX6) (T := TX6) (N := 20) hx hb hts hiX6 hown hK hP 7 rfl rfl 14 (by decide) (hts (.fieldLink RX6 23 "TideMillModel$Mill" "lot" "[I") (List.mem_of_getElem? (i := 21) rfl)) (fun _ h9 => h9) rfl dX6_copy_120 ?_
  refine lv_iconst (v := 0) hx hb dX6_copy_123 (by decide) ?_
  refine lv_iconst (v := 3) hx hb dX6_copy_124 (by decide) ?_
  refine va_copyi hx hb (by rw [hml]; exact hl.1.symm) hown (hts (.methodLink RX6 77 arraycopyName) (List.mem_of_getElem? (i := 17) rfl)) (hts (.native arraycopyName) (List.mem_of_getElem? (i := 18) rfl)) (hts (.static arraycopyName) (List.mem_of_getElem? (i := 19) rfl)) (hts (.initialized "java/lang/System") (List.mem_of_getElem? (i := 20) rfl)) hK hP hD hS 2 9 0 0 rfl rfl rfl rfl rfl (by decide) (by decide) (by decide) (by decide) (by decide) (fun _ _ => rfl) (Nat.le_of_ble_eq_true rfl) (Nat.le_of_ble_eq_true rfl) dX6_copy_125 (fun H locs hP hD hS => ?_)
  have hP := tm_cpP_i (f := pl) (g := fun _ => (0 : Int32)) (q := 9) (sp := (0 : Int32).toNatClampNeg) (dp := (0 : Int32).toNatClampNeg) (k := (3 : Int32).toNatClampNeg) (Nat.le_of_ble_eq_true rfl) rfl rfl rfl hP
  have hD := tm_cpD (q := 9) (e := .inl (G.2.1, 3, .inl pl)) (Nat.le_of_ble_eq_true rfl) hD
  have hP : va_P G.1 vwCl [tc_X6 a0 tk mo su lv si ga sl sc fh lh fo ee pn e0 e1 e2 e3 e4 e5 mm, tc_F G e0 3 dl, tc_I G e1 3 pl, tc_I G e2 3 dr, tc_I G e3 3 sp, tc_D G e4 10 le, tc_Z G e5 10 dn, tc_X6 q_1 tk mo su lv si ga sl sc fh lh 0 0 pn q_3 q_4 q_5 q_6 q_7 q_8 mm, tc_F G q_3 3 dl, tc_I G q_4 3 pl, tc_I G q_5 3 (fun _ => (0 : Int32)), tc_I G q_6 3 (fun _ => (0 : Int32)), tc_D G q_7 10 (fun _ => (0 : UInt64)), tc_Z G q_8 10 (fun _ => (0 : Int32))] H := hP
  have hD : va_D A [tc_X6 a0 tk mo su lv si ga sl sc fh lh fo ee pn e0 e1 e2 e3 e4 e5 mm, tc_F G e0 3 dl, tc_I G e1 3 pl, tc_I G e2 3 dr, tc_I G e3 3 sp, tc_D G e4 10 le, tc_Z G e5 10 dn, tc_X6 q_1 tk mo su lv si ga sl sc fh lh 0 0 pn q_3 q_4 q_5 q_6 q_7 q_8 mm, tc_F G q_3 3 dl, tc_I G q_4 3 pl, tc_I G q_5 3 (fun _ => (0 : Int32)), tc_I G q_6 3 (fun _ => (0 : Int32)), tc_D G q_7 10 (fun _ => (0 : UInt64)), tc_Z G q_8 10 (fun _ => (0 : Int32))] := hD
  refine lv_aload_n hx hb dX6_copy_128 rfl (lv_at hl 1 rfl) ?_
  refine va_get (D := G.1) (ci := 7) (v := .ref e2) (C := RX6) (T := TX6) (N := 20) hx hb hts hiX6 hown hK hP 0 rfl rfl 15 (by decide) (hts (.fieldLink RX6 27 "TideMillModel$Mill" "dressing" "[I") (List.mem_of_getElem? (i := 22) rfl)) (fun _ h9 => h9) rfl dX6_copy_129 ?_
  refine lv_iconst (v := 0) hx hb dX6_copy_132 (by decide) ?_
  refine lv_aload_n hx hb dX6_copy_133 rfl (lv_at hl 0 rfl) ?_
  refine va_get (D := G.1) (ci := 7) (v := .ref q_5) (C := RX6) (T := TX6) (N := 20) hx hb hts hiX6 hown hK hP 7 rfl rfl 15 (by decide) (hts (.fieldLink RX6 27 "TideMillModel$Mill" "dressing" "[I") (List.mem_of_getElem? (i := 22) rfl)) (fun _ h9 => h9) rfl dX6_copy_134 ?_
  refine lv_iconst (v := 0) hx hb dX6_copy_137 (by decide) ?_
  refine lv_iconst (v := 3) hx hb dX6_copy_138 (by decide) ?_
  refine va_copyi hx hb (by rw [hml]; exact hl.1.symm) hown (hts (.methodLink RX6 77 arraycopyName) (List.mem_of_getElem? (i := 17) rfl)) (hts (.native arraycopyName) (List.mem_of_getElem? (i := 18) rfl)) (hts (.static arraycopyName) (List.mem_of_getElem? (i := 19) rfl)) (hts (.initialized "java/lang/System") (List.mem_of_getElem? (i := 20) rfl)) hK hP hD hS 3 10 0 0 rfl rfl rfl rfl rfl (by decide) (by decide) (by decide) (by decide) (by decide) (fun _ _ => rfl) (Nat.le_of_ble_eq_true rfl) (Nat.le_of_ble_eq_true rfl) dX6_copy_139 (fun H locs hP hD hS => ?_)
  have hP := tm_cpP_i (f := dr) (g := fun _ => (0 : Int32)) (q := 10) (sp := (0 : Int32).toNatClampNeg) (dp := (0 : Int32).toNatClampNeg) (k := (3 : Int32).toNatClampNeg) (Nat.le_of_ble_eq_true rfl) rfl rfl rfl hP
  have hD := tm_cpD (q := 10) (e := .inl (G.2.1, 3, .inl dr)) (Nat.le_of_ble_eq_true rfl) hD
  have hP : va_P G.1 vwCl [tc_X6 a0 tk mo su lv si ga sl sc fh lh fo ee pn e0 e1 e2 e3 e4 e5 mm, tc_F G e0 3 dl, tc_I G e1 3 pl, tc_I G e2 3 dr, tc_I G e3 3 sp, tc_D G e4 10 le, tc_Z G e5 10 dn, tc_X6 q_1 tk mo su lv si ga sl sc fh lh 0 0 pn q_3 q_4 q_5 q_6 q_7 q_8 mm, tc_F G q_3 3 dl, tc_I G q_4 3 pl, tc_I G q_5 3 dr, tc_I G q_6 3 (fun _ => (0 : Int32)), tc_D G q_7 10 (fun _ => (0 : UInt64)), tc_Z G q_8 10 (fun _ => (0 : Int32))] H := hP
  have hD : va_D A [tc_X6 a0 tk mo su lv si ga sl sc fh lh fo ee pn e0 e1 e2 e3 e4 e5 mm, tc_F G e0 3 dl, tc_I G e1 3 pl, tc_I G e2 3 dr, tc_I G e3 3 sp, tc_D G e4 10 le, tc_Z G e5 10 dn, tc_X6 q_1 tk mo su lv si ga sl sc fh lh 0 0 pn q_3 q_4 q_5 q_6 q_7 q_8 mm, tc_F G q_3 3 dl, tc_I G q_4 3 pl, tc_I G q_5 3 dr, tc_I G q_6 3 (fun _ => (0 : Int32)), tc_D G q_7 10 (fun _ => (0 : UInt64)), tc_Z G q_8 10 (fun _ => (0 : Int32))] := hD
  refine lv_aload_n hx hb dX6_copy_142 rfl (lv_at hl 1 rfl) ?_
  refine va_get (D := G.1) (ci := 7) (v := .ref e4) (C := RX6) (T := TX6) (N := 20) hx hb hts hiX6 hown hK hP 0 rfl rfl 17 (by decide) (hts (.fieldLink RX6 33 "TideMillModel$Mill" "left" "[D") (List.mem_of_getElem? (i := 23) rfl)) (fun _ h9 => h9) rfl dX6_copy_143 ?_
  refine lv_iconst (v := 0) hx hb dX6_copy_146 (by decide) ?_
  refine lv_aload_n hx hb dX6_copy_147 rfl (lv_at hl 0 rfl) ?_
  refine va_get (D := G.1) (ci := 7) (v := .ref q_7) (C := RX6) (T := TX6) (N := 20) hx hb hts hiX6 hown hK hP 7 rfl rfl 17 (by decide) (hts (.fieldLink RX6 33 "TideMillModel$Mill" "left" "[D") (List.mem_of_getElem? (i := 23) rfl)) (fun _ h9 => h9) rfl dX6_copy_148 ?_
  refine lv_iconst (v := 0) hx hb dX6_copy_151 (by decide) ?_
  refine lv_bipush (v := 10) hx hb dX6_copy_152 (by decide) ?_
  refine va_copyd hx hb (by rw [hml]; exact hl.1.symm) hown (hts (.methodLink RX6 77 arraycopyName) (List.mem_of_getElem? (i := 17) rfl)) (hts (.native arraycopyName) (List.mem_of_getElem? (i := 18) rfl)) (hts (.static arraycopyName) (List.mem_of_getElem? (i := 19) rfl)) (hts (.initialized "java/lang/System") (List.mem_of_getElem? (i := 20) rfl)) hK hP hD hS 5 12 1 1 rfl rfl rfl rfl rfl (by decide) (by decide) (by decide) (by decide) (by decide) (fun _ _ => rfl) (Nat.le_of_ble_eq_true rfl) (Nat.le_of_ble_eq_true rfl) dX6_copy_154 (fun H locs hP hD hS => ?_)
  have hP := tm_cpP_d (f := le) (g := fun _ => (0 : UInt64)) (q := 12) (sp := (0 : Int32).toNatClampNeg) (dp := (0 : Int32).toNatClampNeg) (k := (10 : Int32).toNatClampNeg) (Nat.le_of_ble_eq_true rfl) rfl rfl rfl hP
  have hD := tm_cpD (q := 12) (e := .inl (G.2.2.1, 10, .inr (.inr (.inr (.inl le))))) (Nat.le_of_ble_eq_true rfl) hD
  have hP : va_P G.1 vwCl [tc_X6 a0 tk mo su lv si ga sl sc fh lh fo ee pn e0 e1 e2 e3 e4 e5 mm, tc_F G e0 3 dl, tc_I G e1 3 pl, tc_I G e2 3 dr, tc_I G e3 3 sp, tc_D G e4 10 le, tc_Z G e5 10 dn, tc_X6 q_1 tk mo su lv si ga sl sc fh lh 0 0 pn q_3 q_4 q_5 q_6 q_7 q_8 mm, tc_F G q_3 3 dl, tc_I G q_4 3 pl, tc_I G q_5 3 dr, tc_I G q_6 3 (fun _ => (0 : Int32)), tc_D G q_7 10 le, tc_Z G q_8 10 (fun _ => (0 : Int32))] H := hP
  have hD : va_D A [tc_X6 a0 tk mo su lv si ga sl sc fh lh fo ee pn e0 e1 e2 e3 e4 e5 mm, tc_F G e0 3 dl, tc_I G e1 3 pl, tc_I G e2 3 dr, tc_I G e3 3 sp, tc_D G e4 10 le, tc_Z G e5 10 dn, tc_X6 q_1 tk mo su lv si ga sl sc fh lh 0 0 pn q_3 q_4 q_5 q_6 q_7 q_8 mm, tc_F G q_3 3 dl, tc_I G q_4 3 pl, tc_I G q_5 3 dr, tc_I G q_6 3 (fun _ => (0 : Int32)), tc_D G q_7 10 le, tc_Z G q_8 10 (fun _ => (0 : Int32))] := hD
  refine lv_aload_n hx hb dX6_copy_157 rfl (lv_at hl 1 rfl) ?_
  refine va_get (D := G.1) (ci := 7) (v := .ref e5) (C := RX6) (T := TX6) (N := 20) hx hb hts hiX6 hown hK hP 0 rfl rfl 18 (by decide) (hts (.fieldLink RX6 37 "TideMillModel$Mill" "done" "[Z") (List.mem_of_getElem? (i := 24) rfl)) (fun _ h9 => h9) rfl dX6_copy_158 ?_
  refine lv_iconst (v := 0) hx hb dX6_copy_161 (by decide) ?_
  refine lv_aload_n hx hb dX6_copy_162 rfl (lv_at hl 0 rfl) ?_
  refine va_get (D := G.1) (ci := 7) (v := .ref q_8) (C := RX6) (T := TX6) (N := 20) hx hb hts hiX6 hown hK hP 7 rfl rfl 18 (by decide) (hts (.fieldLink RX6 37 "TideMillModel$Mill" "done" "[Z") (List.mem_of_getElem? (i := 24) rfl)) (fun _ h9 => h9) rfl dX6_copy_163 ?_
  refine lv_iconst (v := 0) hx hb dX6_copy_166 (by decide) ?_
  refine lv_bipush (v := 10) hx hb dX6_copy_167 (by decide) ?_
  refine va_copyi hx hb (by rw [hml]; exact hl.1.symm) hown (hts (.methodLink RX6 77 arraycopyName) (List.mem_of_getElem? (i := 17) rfl)) (hts (.native arraycopyName) (List.mem_of_getElem? (i := 18) rfl)) (hts (.static arraycopyName) (List.mem_of_getElem? (i := 19) rfl)) (hts (.initialized "java/lang/System") (List.mem_of_getElem? (i := 20) rfl)) hK hP hD hS 6 13 3 3 rfl rfl rfl rfl rfl (by decide) (by decide) (by decide) (by decide) (by decide) (fun i _ => tm_bool_f (n_10 _)) (Nat.le_of_ble_eq_true rfl) (Nat.le_of_ble_eq_true rfl) dX6_copy_169 (fun H locs hP hD hS => ?_)
  have hP := tm_cpP_i (f := dn) (g := fun _ => (0 : Int32)) (q := 13) (sp := (0 : Int32).toNatClampNeg) (dp := (0 : Int32).toNatClampNeg) (k := (10 : Int32).toNatClampNeg) (Nat.le_of_ble_eq_true rfl) rfl rfl rfl hP
  have hD := tm_cpD (q := 13) (e := .inl (G.2.2.2.2.1, 10, .inl dn)) (Nat.le_of_ble_eq_true rfl) hD
  have hP : va_P G.1 vwCl [tc_X6 a0 tk mo su lv si ga sl sc fh lh fo ee pn e0 e1 e2 e3 e4 e5 mm, tc_F G e0 3 dl, tc_I G e1 3 pl, tc_I G e2 3 dr, tc_I G e3 3 sp, tc_D G e4 10 le, tc_Z G e5 10 dn, tc_X6 q_1 tk mo su lv si ga sl sc fh lh 0 0 pn q_3 q_4 q_5 q_6 q_7 q_8 mm, tc_F G q_3 3 dl, tc_I G q_4 3 pl, tc_I G q_5 3 dr, tc_I G q_6 3 (fun _ => (0 : Int32)), tc_D G q_7 10 le, tc_Z G q_8 10 dn] H := hP
  have hD : va_D A [tc_X6 a0 tk mo su lv si ga sl sc fh lh fo ee pn e0 e1 e2 e3 e4 e5 mm, tc_F G e0 3 dl, tc_I G e1 3 pl, tc_I G e2 3 dr, tc_I G e3 3 sp, tc_D G e4 10 le, tc_Z G e5 10 dn, tc_X6 q_1 tk mo su lv si ga sl sc fh lh 0 0 pn q_3 q_4 q_5 q_6 q_7 q_8 mm, tc_F G q_3 3 dl, tc_I G q_4 3 pl, tc_I G q_5 3 dr, tc_I G q_6 3 (fun _ => (0 : Int32)), tc_D G q_7 10 le, tc_Z G q_8 10 dn] := hD
  refine lv_aload_n hx hb dX6_copy_172 rfl (lv_at hl 0 rfl) ?_
  exact W.aret (v := .ref q_1) hx hb hr (Or.inl ⟨_, rfl⟩) (Or.inr ⟨_, rfl⟩) (fun t ht hW => ⟨⟨(), q_1, rfl, trivial, q_3, q_4, q_5, q_6, q_7, q_8, by rw [ht]; exact hP, hD⟩, hS.F ht⟩) hS.2.2 dX6_copy_173
set_option maxHeartbeats 4000000 in
set_option maxRecDepth 100000 in
theorem c_X7_thrown (l : Launch) (G : tm_G) (a0 : Nat) (ma : Nat) (lo : Nat) (sz : Nat) (th : Int32) (rf : Int32) (lk : Int32) (pu : Int32) (tl : UInt64) : Met l yX7_thrown wsX7_thrown ({ frames := 0, cells := 0, slots := 0, locals := 0 }) (va_Pc [.ref a0] (tm_B G [tc_X7 a0 th ma rf lk pu tl lo] sz)) (va_Qi (fun (r : Int32) (u : Unit) => r = f_X7_thrown th) (fun (u : Unit) (t : State) => va_P G.1 vwCl [tc_X7 a0 th ma rf lk pu tl lo] t.heap ∧ va_D (va_A [tc_X7 a0 th ma rf lk pu tl lo] sz) [tc_X7 a0 th ma rf lk pu tl lo]) (va_A [tc_X7 a0 th ma rf lk pu tl lo] sz)) 0 0 (va_A [tc_X7 a0 th ma rf lk pu tl lo] sz) := by
  refine Met.ofW (cc := cX7_thrown) (maxL := 1) (ret := (some .int)) (by decide) rfl ?_
  intro p e s m args below meth c s₁ B hml hv
  obtain ⟨rfl, hsz, hP, hK, hD0, hN, hV⟩ := hv
  have hx := B.exec
  have hb := B.bytes
  have hr := B.returns
  have hts := atoms_spec (ws := wsX7_thrown) B.pre
  have hown : s.vm.findClass RX7 = some m.cls := findClass_of_methodNamed B.named
  have hlocks := B.notSynchronized
  subst hsz
  have hiX7 : ∀ w ∈ u_ws RX7 TX7 7, w ∈ wsX7_thrown := fun _ h => List.mem_cons_of_mem _ (List.mem_append_right _ h)
  have hD := hD0.self (sz := s.heap.size)
  generalize hAe : va_A [tc_X7 a0 th ma rf lk pu tl lo] s.heap.size = A at hD hV ⊢
  have hA : ∀ q : Nat, s.heap.size ≤ q → A q := fun q h => by rw [← hAe]; exact Or.inr h
  have hS : va_S A s.heap s.heap [] := va_S.rf
  have hl := lv_entry ([.ref a0]) (n := 1) (Nat.le_of_ble_eq_true rfl)
  rw [lg_entry_eq]
  generalize (lg_sl ([.ref a0]) ++ List.replicate (1 - (lg_sl ([.ref a0])).length) Slot.unset).toArray = ls at hl ⊢
  have hl : lv_has ls 1 [(0, .ref a0)] := hl
  refine lv_aload_n hx hb dX7_thrown_0 rfl (lv_at hl 0 rfl) ?_
  refine va_get (D := G.1) (ci := 8) (v := .int th) (C := RX7) (T := TX7) (N := 7) hx hb hts hiX7 hown hK hP 0 rfl rfl 0 (by decide) (hts (.fieldLink RX7 25 "TideMillModel" "thrown" "I") (List.mem_of_getElem? (i := 1) rfl)) (fun _ h9 => h9) rfl dX7_thrown_1 ?_
  have hP9 := hP.sub (ws' := [tc_X7 a0 th ma rf lk pu tl lo]) [0] rfl
  have hD9 := hD.sub (ws' := [tc_X7 a0 th ma rf lk pu tl lo]) [0] (by decide) rfl
  exact W.iret (v := th) hx hb hr (fun t ht hW => ⟨⟨th, (), rfl, by unfold f_X7_thrown; all_goals rfl, by rw [ht]; exact hP9, hD9⟩, hS.F ht⟩) hS.2.2 dX7_thrown_4
set_option maxHeartbeats 4000000 in
set_option maxRecDepth 100000 in
theorem c_X7_no (l : Launch) (G : tm_G) (a0 : Nat) (ma : Nat) (lo : Nat) (sz : Nat) (th : Int32) (rf : Int32) (lk : Int32) (pu : Int32) (tl : UInt64) (p1 : Int32) : Met l yX7_no wsX7_no ({ frames := 0, cells := 0, slots := 0, locals := 0 }) (va_Pc [.ref a0, .int p1] (tm_B G [tc_X7 a0 th ma rf lk pu tl lo] sz)) (va_Qi (fun (r : Int32) (u : Int32) => (r, u) = f_X7_no p1) (fun (u : Int32) (t : State) => va_P G.1 vwCl [tc_X7 a0 u ma rf lk pu tl lo] t.heap ∧ va_D (va_A [tc_X7 a0 th ma rf lk pu tl lo] sz) [tc_X7 a0 u ma rf lk pu tl lo]) (va_A [tc_X7 a0 th ma rf lk pu tl lo] sz)) 0 0 (va_A [tc_X7 a0 th ma rf lk pu tl lo] sz) := by
  refine Met.ofW (cc := cX7_no) (maxL := 2) (ret := (some .int)) (by decide) rfl ?_
  intro p e s m args below meth c s₁ B hml hv
  obtain ⟨rfl, hsz, hP, hK, hD0, hN, hV⟩ := hv
  have hx := B.exec
  have hb := B.bytes
  have hr := B.returns
  have hts := atoms_spec (ws := wsX7_no) B.pre
  have hown : s.vm.findClass RX7 = some m.cls := findClass_of_methodNamed B.named
  have hlocks := B.notSynchronized
  subst hsz
  have hiX7 : ∀ w ∈ u_ws RX7 TX7 7, w ∈ wsX7_no := fun _ h => List.mem_cons_of_mem _ (List.mem_append_right _ h)
  have hD := hD0.self (sz := s.heap.size)
  generalize hAe : va_A [tc_X7 a0 th ma rf lk pu tl lo] s.heap.size = A at hD hV ⊢
  have hA : ∀ q : Nat, s.heap.size ≤ q → A q := fun q h => by rw [← hAe]; exact Or.inr h
  have hS : va_S A s.heap s.heap [] := va_S.rf
  have hl := lv_entry ([.ref a0, .int p1]) (n := 2) (Nat.le_of_ble_eq_true rfl)
  rw [lg_entry_eq]
  generalize (lg_sl ([.ref a0, .int p1]) ++ List.replicate (2 - (lg_sl ([.ref a0, .int p1])).length) Slot.unset).toArray = ls at hl ⊢
  have hl : lv_has ls 2 [(0, .ref a0), (1, .int p1)] := hl
  refine lv_aload_n hx hb dX7_no_0 rfl (lv_at hl 0 rfl) ?_
  refine lv_iload_n hx hb dX7_no_1 rfl (lv_at hl 1 rfl) ?_
  refine va_put (D := G.1) (ci := 8) (v := .int p1) (ty := .int) (C := RX7) (T := TX7) (N := 7) hx hb hts hiX7 tyX7 tyX7_ok nmX7 hown hK hP hD hS 0 rfl rfl 0 (by decide) (hts (.fieldLink RX7 25 "TideMillModel" "thrown" "I") (List.mem_of_getElem? (i := 1) rfl)) (fun _ h9 => h9) rfl (by decide +kernel) rfl rfl (Nat.le_of_ble_eq_true rfl) dX7_no_2 (fun H locs hP hD hS => ?_)
  have hP : va_P G.1 vwCl [tc_X7 a0 p1 ma rf lk pu tl lo] H := hP
  have hD : va_D A [tc_X7 a0 p1 ma rf lk pu tl lo] := hD
  refine lv_iconst (v := 0) hx hb dX7_no_5 (by decide) ?_
  have hP9 := hP.sub (ws' := [tc_X7 a0 p1 ma rf lk pu tl lo]) [0] rfl
  have hD9 := hD.sub (ws' := [tc_X7 a0 p1 ma rf lk pu tl lo]) [0] (by decide) rfl
  exact W.iret (v := 0) hx hb hr (fun t ht hW => ⟨⟨0, (p1), rfl, by unfold f_X7_no; all_goals rfl, by rw [ht]; exact hP9, hD9⟩, hS.F ht⟩) hS.2.2 dX7_no_6
set_option maxHeartbeats 4000000 in
set_option maxRecDepth 100000 in
theorem c_X7_isPair (l : Launch) (G : tm_G) (a0 : Nat) (ma : Nat) (lo : Nat) (e0 : Nat) (e1 : Nat) (e2 : Nat) (e3 : Nat) (e4 : Nat) (e5 : Nat) (sz : Nat) (th : Int32) (rf : Int32) (lk : Int32) (pu : Int32) (tl : UInt64) (tk : Int32) (mo : Int32) (su : UInt64) (lv : UInt64) (si : UInt32) (ga : Int32) (sl : Int32) (sc : Int32) (fh : Int32) (lh : Int32) (fo : UInt64) (ee : Int32) (pn : Int32) (p1 : Int32) (hn : n_X7_isPair pn p1) : Met l yX7_isPair wsX7_isPair ({ frames := 1, cells := 0, slots := 0, locals := 22 }) (va_Pc [.ref a0, .int p1] (tm_B G [tc_X7 a0 th ma rf lk pu tl lo, tc_X6 ma tk mo su lv si ga sl sc fh lh fo ee pn e0 e1 e2 e3 e4 e5 a0] sz)) (va_Qi (fun (r : Int32) (u : Unit) => r = f_X7_isPair pn p1) (fun (u : Unit) (t : State) => va_P G.1 vwCl [tc_X7 a0 th ma rf lk pu tl lo, tc_X6 ma tk mo su lv si ga sl sc fh lh fo ee pn e0 e1 e2 e3 e4 e5 a0] t.heap ∧ va_D (va_A [tc_X7 a0 th ma rf lk pu tl lo, tc_X6 ma tk mo su lv si ga sl sc fh lh fo ee pn e0 e1 e2 e3 e4 e5 a0] sz) [tc_X7 a0 th ma rf lk pu tl lo, tc_X6 ma tk mo su lv si ga sl sc fh lh fo ee pn e0 e1 e2 e3 e4 e5 a0]) (va_A [tc_X7 a0 th ma rf lk pu tl lo, tc_X6 ma tk mo su lv si ga sl sc fh lh fo ee pn e0 e1 e2 e3 e4 e5 a0] sz)) 0 0 (va_A [tc_X7 a0 th ma rf lk pu tl lo, tc_X6 ma tk mo su lv si ga sl sc fh lh fo ee pn e0 e1 e2 e3 e4 e5 a0] sz) := by
  refine Met.ofW (cc := cX7_isPair) (maxL := 2) (ret := (some .boolean)) (by decide) rfl ?_
  intro p e s m args below meth c s₁ B hml hv
  obtain ⟨rfl, hsz, hP, hK, hD0, hN, hV⟩ := hv
  have hx := B.exec
  have hb := B.bytes
  have hr := B.returns
  have hts := atoms_spec (ws := wsX7_isPair) B.pre
  have hown : s.vm.findClass RX7 = some m.cls := findClass_of_methodNamed B.named
  have hlocks := B.notSynchronized
  subst hsz
  have n_2 := hn
  unfold n_X7_isPair at n_2
  have hiX6 : ∀ w ∈ u_ws RX6 TX6 20, w ∈ wsX7_isPair := fun _ h => List.mem_cons_of_mem _ (List.mem_append_right _ h)
  have hiX7 : ∀ w ∈ u_ws RX7 TX7 7, w ∈ wsX7_isPair := fun _ h => List.mem_cons_of_mem _ (List.mem_append_left _ (List.mem_append_right _ h))
  have hD := hD0.self (sz := s.heap.size)
  generalize hAe : va_A [tc_X7 a0 th ma rf lk pu tl lo, tc_X6 ma tk mo su lv si ga sl sc fh lh fo ee pn e0 e1 e2 e3 e4 e5 a0] s.heap.size = A at hD hV ⊢
  have hA : ∀ q : Nat, s.heap.size ≤ q → A q := fun q h => by rw [← hAe]; exact Or.inr h
  have hS : va_S A s.heap s.heap [] := va_S.rf
  have hl := lv_entry ([.ref a0, .int p1]) (n := 2) (Nat.le_of_ble_eq_true rfl)
  rw [lg_entry_eq]
  generalize (lg_sl ([.ref a0, .int p1]) ++ List.replicate (2 - (lg_sl ([.ref a0, .int p1])).length) Slot.unset).toArray = ls at hl ⊢
  have hl : lv_has ls 2 [(0, .ref a0), (1, .int p1)] := hl
  refine lv_iload_n hx hb dX7_isPair_0 rfl (lv_at hl 1 rfl) ?_
  refine lv_iconst (v := 0) hx hb dX7_isPair_1 (by decide) ?_
  refine lv_aload_n hx hb dX7_isPair_2 rfl (lv_at hl 0 rfl) ?_
  refine va_get (D := G.1) (ci := 8) (v := .ref ma) (C := RX7) (T := TX7) (N := 7) hx hb hts hiX7 hown hK hP 0 rfl rfl 1 (by decide) (hts (.fieldLink RX7 12 "TideMillModel" "mill" "LTideMillModel$Mill;") (List.mem_of_getElem? (i := 1) rfl)) (fun _ h9 => h9) rfl dX7_isPair_3 ?_
  refine va_get (D := G.1) (ci := 7) (v := .int pn) (C := RX6) (T := TX6) (N := 20) hx hb hts hiX6 hown hK hP 1 rfl rfl 12 (by decide) (hts (.fieldLink RX7 45 "TideMillModel$Mill" "pairs" "I") (List.mem_of_getElem? (i := 2) rfl)) (fun _ h9 => h9) rfl dX7_isPair_6 ?_
  refine lv_iconst (v := 1) hx hb dX7_isPair_9 (by decide) ?_
  refine lv_isub hx hb dX7_isPair_10 ?_
  have hPc := hP.sub (ws' := []) [] rfl
  have hDc := hD.sub (ws' := []) [] (by decide) rfl
  have hFc := va_free (wc := []) hD hS hA [] rfl
  refine va_calli (va_runS (As := [.int p1, .int 0, .int (pn - 1)]) (rest := []) ⟨hx, hb, hml, hown, hts⟩ (c_X7_in l G  s.heap.size p1 0 (pn - 1) ) (cwS 3 hts gX7_isPair_X7_in rfl rfl rfl (by decide +kernel) ⟨(Nat.le_of_ble_eq_true rfl), (Nat.le_of_ble_eq_true rfl)⟩) (tm_preS hK hN hV hS hPc hDc hFc) rfl rfl hl.1 rfl (lv_room (Nat.le_of_ble_eq_true rfl)) dX7_isPair_11 ⟨(Nat.le_of_ble_eq_true rfl), (Nat.le_of_ble_eq_true rfl)⟩) hS (fun q _ h => hFc q h) hFc (fun r_1 u t H locs ht hvm hw_1 hB hz1 hk1 hS => ?_)
  obtain ⟨hP1, hD1⟩ := hB
  rw [ht] at hP1
  try dsimp only at hw_1
  obtain ⟨hP, hD⟩ := va_join (wr := [tc_X7 a0 th ma rf lk pu tl lo, tc_X6 ma tk mo su lv si ga sl sc fh lh fo ee pn e0 e1 e2 e3 e4 e5 a0]) (w1 := []) hP hD [] [0, 1] rfl rfl (by decide) (by decide) hk1 hFc hP1 hD1
  have hP : va_P G.1 vwCl [tc_X7 a0 th ma rf lk pu tl lo, tc_X6 ma tk mo su lv si ga sl sc fh lh fo ee pn e0 e1 e2 e3 e4 e5 a0] H := hP
  have hD : va_D A [tc_X7 a0 th ma rf lk pu tl lo, tc_X6 ma tk mo su lv si ga sl sc fh lh fo ee pn e0 e1 e2 e3 e4 e5 a0] := hD
  subst r_1
  have hP9 := hP.sub (ws' := [tc_X7 a0 th ma rf lk pu tl lo, tc_X6 ma tk mo su lv si ga sl sc fh lh fo ee pn e0 e1 e2 e3 e4 e5 a0]) [0, 1] rfl
  have hD9 := hD.sub (ws' := [tc_X7 a0 th ma rf lk pu tl lo, tc_X6 ma tk mo su lv si ga sl sc fh lh fo ee pn e0 e1 e2 e3 e4 e5 a0]) [0, 1] (by decide) rfl
  exact W.zret (v := f_X7_in p1 0 (pn - 1)) hx hb hr (tm_bool_n n_2) (fun t ht hW => ⟨⟨f_X7_in p1 0 (pn - 1), (), rfl, by unfold f_X7_isPair; all_goals rfl, by rw [ht]; exact hP9, hD9⟩, hS.F ht⟩) hS.2.2 dX7_isPair_14
set_option maxHeartbeats 4000000 in
set_option maxRecDepth 100000 in
theorem c_X7_isLot (l : Launch) (G : tm_G) (a0 : Nat) (ma : Nat) (lo : Nat) (ed : Nat) (sz : Nat) (th : Int32) (rf : Int32) (lk : Int32) (pu : Int32) (tl : UInt64) (mc : Int32) (p1 : Int32) (n : Nat) (ad : Nat → Nat) (rc : Nat → Nat → Int32) (hn : n_X7_isLot p1 n) : Met l yX7_isLot wsX7_isLot ({ frames := 1, cells := 0, slots := 0, locals := 22 }) (va_Pc [.ref a0, .int p1] (tm_B G ([tc_X7 a0 th ma rf lk pu tl lo, tc_Jx4a65c lo mc ed (nI n)] ++ tm_L G ed n ad rc) sz)) (va_Qi (fun (r : Int32) (u : Unit) => r = f_X7_isLot p1 n) (fun (u : Unit) (t : State) => va_P G.1 vwCl ([tc_X7 a0 th ma rf lk pu tl lo, tc_Jx4a65c lo mc ed (nI n)] ++ tm_L G ed n ad rc) t.heap ∧ va_D (va_A ([tc_X7 a0 th ma rf lk pu tl lo, tc_Jx4a65c lo mc ed (nI n)] ++ tm_L G ed n ad rc) sz) ([tc_X7 a0 th ma rf lk pu tl lo, tc_Jx4a65c lo mc ed (nI n)] ++ tm_L G ed n ad rc)) (va_A ([tc_X7 a0 th ma rf lk pu tl lo, tc_Jx4a65c lo mc ed (nI n)] ++ tm_L G ed n ad rc) sz)) 0 0 (va_A ([tc_X7 a0 th ma rf lk pu tl lo, tc_Jx4a65c lo mc ed (nI n)] ++ tm_L G ed n ad rc) sz) := by
  refine Met.ofW (cc := cX7_isLot) (maxL := 2) (ret := (some .boolean)) (by decide) rfl ?_
  intro p e s m args below meth c s₁ B hml hv
  obtain ⟨rfl, hsz, hP, hK, hD0, hN, hV⟩ := hv
  have hx := B.exec
  have hb := B.bytes
  have hr := B.returns
  have hts := atoms_spec (ws := wsX7_isLot) B.pre
  have hown : s.vm.findClass RX7 = some m.cls := findClass_of_methodNamed B.named
  have hlocks := B.notSynchronized
  subst hsz
  have n_3 := hn
  unfold n_X7_isLot at n_3
  have hiX7 : ∀ w ∈ u_ws RX7 TX7 7, w ∈ wsX7_isLot := fun _ h => List.mem_cons_of_mem _ (List.mem_append_left _ (List.mem_append_right _ h))
  have hD := hD0.self (sz := s.heap.size)
  generalize hAe : va_A ([tc_X7 a0 th ma rf lk pu tl lo, tc_Jx4a65c lo mc ed (nI n)] ++ tm_L G ed n ad rc) s.heap.size = A at hD hV ⊢
  have hA : ∀ q : Nat, s.heap.size ≤ q → A q := fun q h => by rw [← hAe]; exact Or.inr h
  have hS : va_S A s.heap s.heap [] := va_S.rf
  have hl := lv_entry ([.ref a0, .int p1]) (n := 2) (Nat.le_of_ble_eq_true rfl)
  rw [lg_entry_eq]
  generalize (lg_sl ([.ref a0, .int p1]) ++ List.replicate (2 - (lg_sl ([.ref a0, .int p1])).length) Slot.unset).toArray = ls at hl ⊢
  have hl : lv_has ls 2 [(0, .ref a0), (1, .int p1)] := hl
  refine lv_iload_n hx hb dX7_isLot_0 rfl (lv_at hl 1 rfl) ?_
  refine lv_iconst (v := 0) hx hb dX7_isLot_1 (by decide) ?_
  refine lv_aload_n hx hb dX7_isLot_2 rfl (lv_at hl 0 rfl) ?_
  refine va_get (D := G.1) (ci := 8) (v := .ref lo) (C := RX7) (T := TX7) (N := 7) hx hb hts hiX7 hown hK hP 0 rfl rfl 6 (by decide) (hts (.fieldLink RX7 21 "TideMillModel" "lots" "Ljava/util/List;") (List.mem_of_getElem? (i := 1) rfl)) (fun _ h9 => h9) rfl dX7_isLot_3 ?_
  have hPc := hP.sub (ws' := [tc_Jx4a65c lo mc ed (nI n)]) [1] rfl
  have hDc := hD.sub (ws' := [tc_Jx4a65c lo mc ed (nI n)]) [1] (by decide) rfl
  have hFc := va_free (wc := [tc_Jx4a65c lo mc ed (nI n)]) hD hS hA [1] rfl
  refine va_callFi (va_runF (As := []) (rest := [.int 0, .int p1]) (hK.1 0 (RJx4a65c, TJx4a65c, 3) rfl).2 ⟨hx, hb, hml, hown, hts⟩ (c_Jx4a65c_size_8abf5 l G lo ed s.heap.size mc (nI n) ) (va_cwF 0 hts gX7_isLot_Jx4a65c_size_8abf5_f29Jx4a65c rfl rfl rfl (hN.2.2.2.2.1 (⟨"java/util/List", "size", "()I"⟩, yJx4a65c_size_8abf5) (List.mem_of_getElem? (i := 0) rfl)) (by decide +kernel) ⟨(Nat.le_of_ble_eq_true rfl), (Nat.le_of_ble_eq_true rfl)⟩) (tm_preV hK hN hV hS hPc hDc hFc (va_recv hK hPc (ci := 0) (q0 := 0) rfl rfl)) rfl rfl hl.1 rfl (lv_room (Nat.le_of_ble_eq_true rfl)) dX7_isLot_6 ⟨(Nat.le_of_ble_eq_true rfl), (Nat.le_of_ble_eq_true rfl)⟩) hS (fun q _ h => hFc q h) hFc (fun r_1 u t H locs ht hvm hw_1 hB hz1 hk1 hS => ?_)
  obtain ⟨hP1, hD1⟩ := hB
  rw [ht] at hP1
  try dsimp only at hw_1
  obtain ⟨hP, hD⟩ := va_joinQ (X := [tc_X7 a0 th ma rf lk pu tl lo, tc_Jx4a65c lo mc ed (nI n)]) (cx := [tc_Jx4a65c lo mc ed (nI n)]) (wr := [tc_X7 a0 th ma rf lk pu tl lo]) (w1 := [tc_Jx4a65c lo mc ed (nI n)]) (pl := tm_L G ed n ad rc) hP hD [1] [0] rfl rfl (by decide) (by decide) hk1 hFc hP1 hD1
  have hP : va_P G.1 vwCl ([tc_X7 a0 th ma rf lk pu tl lo, tc_Jx4a65c lo mc ed (nI n)] ++ tm_L G ed n ad rc) H := hP
  have hD : va_D A ([tc_X7 a0 th ma rf lk pu tl lo, tc_Jx4a65c lo mc ed (nI n)] ++ tm_L G ed n ad rc) := hD
  subst r_1
  refine lv_iconst (v := 1) hx hb dX7_isLot_11 (by decide) ?_
  refine lv_isub hx hb dX7_isLot_12 ?_
  have hPc := hP.sub (ws' := []) [] rfl
  have hDc := hD.sub (ws' := []) [] (by decide) rfl
  have hFc := va_free (wc := []) hD hS hA [] rfl
  refine va_calli (va_runS (As := [.int p1, .int 0, .int ((f_Jx4a65c_size_8abf5 (nI n)) - 1)]) (rest := []) ⟨hx, hb, hml, hown, hts⟩ (c_X7_in l G  H.size p1 0 ((f_Jx4a65c_size_8abf5 (nI n)) - 1) ) (cwS 3 hts gX7_isLot_X7_in rfl rfl rfl (by decide +kernel) ⟨(Nat.le_of_ble_eq_true rfl), (Nat.le_of_ble_eq_true rfl)⟩) (tm_preS hK hN hV hS hPc hDc hFc) rfl rfl hl.1 rfl (lv_room (Nat.le_of_ble_eq_true rfl)) dX7_isLot_13 ⟨(Nat.le_of_ble_eq_true rfl), (Nat.le_of_ble_eq_true rfl)⟩) hS (fun q _ h => hFc q h) hFc (fun r_2 u t H locs ht hvm hw_2 hB hz1 hk1 hS => ?_)
  obtain ⟨hP1, hD1⟩ := hB
  rw [ht] at hP1
  try dsimp only at hw_2
  obtain ⟨hP, hD⟩ := va_joinQ (X := [tc_X7 a0 th ma rf lk pu tl lo, tc_Jx4a65c lo mc ed (nI n)]) (cx := []) (wr := [tc_X7 a0 th ma rf lk pu tl lo, tc_Jx4a65c lo mc ed (nI n)]) (w1 := []) (pl := tm_L G ed n ad rc) hP hD [] [0, 1] rfl rfl (by decide) (by decide) hk1 hFc hP1 hD1
  have hP : va_P G.1 vwCl ([tc_X7 a0 th ma rf lk pu tl lo, tc_Jx4a65c lo mc ed (nI n)] ++ tm_L G ed n ad rc) H := hP
  have hD : va_D A ([tc_X7 a0 th ma rf lk pu tl lo, tc_Jx4a65c lo mc ed (nI n)] ++ tm_L G ed n ad rc) := hD
  subst r_2
  have hP9 := va_P.part (X := [tc_X7 a0 th ma rf lk pu tl lo, tc_Jx4a65c lo mc ed (nI n)]) (cx := [tc_X7 a0 th ma rf lk pu tl lo, tc_Jx4a65c lo mc ed (nI n)]) (pl := tm_L G ed n ad rc) hP [0, 1] rfl
  have hD9 := va_D.part (X := [tc_X7 a0 th ma rf lk pu tl lo, tc_Jx4a65c lo mc ed (nI n)]) (cx := [tc_X7 a0 th ma rf lk pu tl lo, tc_Jx4a65c lo mc ed (nI n)]) (pl := tm_L G ed n ad rc) hD [0, 1] (by decide) rfl
  exact W.zret (v := f_X7_in p1 0 ((f_Jx4a65c_size_8abf5 (nI n)) - 1)) hx hb hr (tm_bool_n n_3) (fun t ht hW => ⟨⟨f_X7_in p1 0 ((f_Jx4a65c_size_8abf5 (nI n)) - 1), (), rfl, by unfold f_X7_isLot; all_goals rfl, by rw [ht]; exact hP9, hD9⟩, hS.F ht⟩) hS.2.2 dX7_isLot_16
set_option maxHeartbeats 4000000 in
set_option maxRecDepth 100000 in
theorem c_X7_count (l : Launch) (G : tm_G) (a0 : Nat) (ma : Nat) (lo : Nat) (ed : Nat) (sz : Nat) (th : Int32) (rf : Int32) (lk : Int32) (pu : Int32) (tl : UInt64) (mc : Int32) (p1 : Int32) (n : Nat) (ad : Nat → Nat) (rc : Nat → Nat → Int32) (hn : n_X7_count p1 n rc) : Met l yX7_count wsX7_count ({ frames := 3, cells := 0, slots := 0, locals := 64 }) (va_Pc [.ref a0, .int p1] (tm_B G ([tc_X7 a0 th ma rf lk pu tl lo, tc_Jx4a65c lo mc ed (nI n)] ++ tm_L G ed n ad rc) sz)) (va_Qi (fun (r : Int32) (u : Unit) => r = f_X7_count p1 n rc) (fun (u : Unit) (t : State) => va_P G.1 vwCl ([tc_X7 a0 th ma rf lk pu tl lo, tc_Jx4a65c lo mc ed (nI n)] ++ tm_L G ed n ad rc) t.heap ∧ va_D (va_A ([tc_X7 a0 th ma rf lk pu tl lo, tc_Jx4a65c lo mc ed (nI n)] ++ tm_L G ed n ad rc) sz) ([tc_X7 a0 th ma rf lk pu tl lo, tc_Jx4a65c lo mc ed (nI n)] ++ tm_L G ed n ad rc)) (va_A ([tc_X7 a0 th ma rf lk pu tl lo, tc_Jx4a65c lo mc ed (nI n)] ++ tm_L G ed n ad rc) sz)) 0 0 (va_A ([tc_X7 a0 th ma rf lk pu tl lo, tc_Jx4a65c lo mc ed (nI n)] ++ tm_L G ed n ad rc) sz) := by
  refine Met.ofW (cc := cX7_count) (maxL := 4) (ret := (some .int)) (by decide) rfl ?_
  intro p e s m args below meth c s₁ B hml hv
  obtain ⟨rfl, hsz, hP, hK, hD0, hN, hV⟩ := hv
  have hx := B.exec
  have hb := B.bytes
  have hr := B.returns
  have hts := atoms_spec (ws := wsX7_count) B.pre
  have hown : s.vm.findClass RX7 = some m.cls := findClass_of_methodNamed B.named
  have hlocks := B.notSynchronized
  subst hsz
  have n_10 := hn
  unfold n_X7_count at n_10
  have hiX7 : ∀ w ∈ u_ws RX7 TX7 7, w ∈ wsX7_count := fun _ h => List.mem_cons_of_mem _ (List.mem_append_left _ (List.mem_append_right _ h))
  have hD := hD0.self (sz := s.heap.size)
  generalize hAe : va_A ([tc_X7 a0 th ma rf lk pu tl lo, tc_Jx4a65c lo mc ed (nI n)] ++ tm_L G ed n ad rc) s.heap.size = A at hD hV ⊢
  have hA : ∀ q : Nat, s.heap.size ≤ q → A q := fun q h => by rw [← hAe]; exact Or.inr h
  have hS : va_S A s.heap s.heap [] := va_S.rf
  have hl := lv_entry ([.ref a0, .int p1]) (n := 4) (Nat.le_of_ble_eq_true rfl)
  rw [lg_entry_eq]
  generalize (lg_sl ([.ref a0, .int p1]) ++ List.replicate (4 - (lg_sl ([.ref a0, .int p1])).length) Slot.unset).toArray = ls at hl ⊢
  have hl : lv_has ls 4 [(0, .ref a0), (1, .int p1)] := hl
  refine lv_iconst (v := 0) hx hb dX7_count_0 (by decide) ?_
  refine lv_istore_n (lv' := [(2, .int 0), (0, .ref a0), (1, .int p1)]) hx hb dX7_count_1 rfl hl (by decide) rfl (fun ls hl => ?_)
  refine lv_iconst (v := 0) hx hb dX7_count_2 (by decide) ?_
  refine lv_istore_n (lv' := [(3, .int 0), (2, .int 0), (0, .ref a0), (1, .int p1)]) hx hb dX7_count_3 rfl hl (by decide) rfl (fun ls hl => ?_)
  have L_4 : ∀ (fuel : Nat) (x4_0 : Int32) (x4_1 : Int32), n_X7_count_4 p1 n rc fuel x4_0 x4_1 → f_X7_count p1 n rc = f_X7_count_4 p1 n rc fuel x4_0 x4_1 → ∀ (H : Heap) (locs : List Loc), va_P G.1 vwCl ([tc_X7 a0 th ma rf lk pu tl lo, tc_Jx4a65c lo mc ed (nI n)] ++ tm_L G ed n ad rc) H → va_D A ([tc_X7 a0 th ma rf lk pu tl lo, tc_Jx4a65c lo mc ed (nI n)] ++ tm_L G ed n ad rc) → va_S A s.heap H locs → ∀ ls : Array Slot, lv_has ls 4 [(3, .int x4_1), (2, .int x4_0), (0, .ref a0), (1, .int p1)] → W p l e (headSpec wsX7_count ({ frames := 3, cells := 0, slots := 0, locals := 64 } : Room)).room s m ([.ref a0, .int p1] : List Value).toArray below meth c H locs 0 0 (MQ below (va_Qi (fun (r : Int32) (u : Unit) => r = f_X7_count p1 n rc) (fun (u : Unit) (t : State) => va_P G.1 vwCl ([tc_X7 a0 th ma rf lk pu tl lo, tc_Jx4a65c lo mc ed (nI n)] ++ tm_L G ed n ad rc) t.heap ∧ va_D A ([tc_X7 a0 th ma rf lk pu tl lo, tc_Jx4a65c lo mc ed (nI n)] ++ tm_L G ed n ad rc)) A) ([.ref a0, .int p1] : List Value).toArray s 0 0 A) (F0 m 4 ls []) := by
    intro fuel
    induction fuel with
    | zero =>
      intro x4_0 x4_1 hnl; exact absurd hnl (by simp [n_X7_count_4])
    | succ fuel ih =>
      intro x4_0 x4_1 hnl hE H locs hP hD hS ls hl
      rw [n_X7_count_4] at hnl
      obtain ⟨n_3, n_5, n_6, n_8, n_9⟩ := hnl
      refine lv_iload_n hx hb dX7_count_4 rfl (lv_at hl 0 rfl) ?_
      refine lv_aload_n hx hb dX7_count_5 rfl (lv_at hl 2 rfl) ?_
      refine va_get (D := G.1) (ci := 8) (v := .ref lo) (C := RX7) (T := TX7) (N := 7) hx hb hts hiX7 hown hK hP 0 rfl rfl 6 (by decide) (hts (.fieldLink RX7 21 "TideMillModel" "lots" "Ljava/util/List;") (List.mem_of_getElem? (i := 1) rfl)) (fun _ h9 => h9) rfl dX7_count_6 ?_
      have hPc := hP.sub (ws' := [tc_Jx4a65c lo mc ed (nI n)]) [1] rfl
      have hDc := hD.sub (ws' := [tc_Jx4a65c lo mc ed (nI n)]) [1] (by decide) rfl
      have hFc := va_free (wc := [tc_Jx4a65c lo mc ed (nI n)]) hD hS hA [1] rfl
      refine va_callFi (va_runF (As := []) (rest := [.int x4_1]) (hK.1 0 (RJx4a65c, TJx4a65c, 3) rfl).2 ⟨hx, hb, hml, hown, hts⟩ (c_Jx4a65c_size_8abf5 l G lo ed H.size mc (nI n) ) (va_cwF 0 hts gX7_count_Jx4a65c_size_8abf5_f29Jx4a65c rfl rfl rfl (hN.2.2.2.2.1 (⟨"java/util/List", "size", "()I"⟩, yJx4a65c_size_8abf5) (List.mem_of_getElem? (i := 0) rfl)) (by decide +kernel) ⟨(Nat.le_of_ble_eq_true rfl), (Nat.le_of_ble_eq_true rfl)⟩) (tm_preV hK hN hV hS hPc hDc hFc (va_recv hK hPc (ci := 0) (q0 := 0) rfl rfl)) rfl rfl hl.1 rfl (lv_room (Nat.le_of_ble_eq_true rfl)) dX7_count_9 ⟨(Nat.le_of_ble_eq_true rfl), (Nat.le_of_ble_eq_true rfl)⟩) hS (fun q _ h => hFc q h) hFc (fun r_1 u t H locs ht hvm hw_1 hB hz1 hk1 hS => ?_)
      obtain ⟨hP1, hD1⟩ := hB
      rw [ht] at hP1
      try dsimp only at hw_1
      obtain ⟨hP, hD⟩ := va_joinQ (X := [tc_X7 a0 th ma rf lk pu tl lo, tc_Jx4a65c lo mc ed (nI n)]) (cx := [tc_Jx4a65c lo mc ed (nI n)]) (wr := [tc_X7 a0 th ma rf lk pu tl lo]) (w1 := [tc_Jx4a65c lo mc ed (nI n)]) (pl := tm_L G ed n ad rc) hP hD [1] [0] rfl rfl (by decide) (by decide) hk1 hFc hP1 hD1
      have hP : va_P G.1 vwCl ([tc_X7 a0 th ma rf lk pu tl lo, tc_Jx4a65c lo mc ed (nI n)] ++ tm_L G ed n ad rc) H := hP
      have hD : va_D A ([tc_X7 a0 th ma rf lk pu tl lo, tc_Jx4a65c lo mc ed (nI n)] ++ tm_L G ed n ad rc) := hD
      subst r_1
      refine lv_icmp_ge (tgt := 50) hx hb dX7_count_14 (by decide) (fun c_2 => ?_) (fun c_2 => ?_)
      · refine lv_iload_n hx hb dX7_count_50 rfl (lv_at hl 1 rfl) ?_
        have hP9 := va_P.part (X := [tc_X7 a0 th ma rf lk pu tl lo, tc_Jx4a65c lo mc ed (nI n)]) (cx := [tc_X7 a0 th ma rf lk pu tl lo, tc_Jx4a65c lo mc ed (nI n)]) (pl := tm_L G ed n ad rc) hP [0, 1] rfl
        have hD9 := va_D.part (X := [tc_X7 a0 th ma rf lk pu tl lo, tc_Jx4a65c lo mc ed (nI n)]) (cx := [tc_X7 a0 th ma rf lk pu tl lo, tc_Jx4a65c lo mc ed (nI n)]) (pl := tm_L G ed n ad rc) hD [0, 1] (by decide) rfl
        exact W.iret (v := x4_0) hx hb hr (fun t ht hW => ⟨⟨x4_0, (), rfl, by rw [hE, f_X7_count_4]; all_goals (rw [if_pos c_2]); all_goals rfl, by rw [ht]; exact hP9, hD9⟩, hS.F ht⟩) hS.2.2 dX7_count_51
      · refine lv_iload_n hx hb dX7_count_17 rfl (lv_at hl 1 rfl) ?_
        refine lv_aload_n hx hb dX7_count_18 rfl (lv_at hl 2 rfl) ?_
        refine va_get (D := G.1) (ci := 8) (v := .ref lo) (C := RX7) (T := TX7) (N := 7) hx hb hts hiX7 hown hK hP 0 rfl rfl 6 (by decide) (hts (.fieldLink RX7 21 "TideMillModel" "lots" "Ljava/util/List;") (List.mem_of_getElem? (i := 1) rfl)) (fun _ h9 => h9) rfl dX7_count_19 ?_
        refine lv_iload_n hx hb dX7_count_22 rfl (lv_at hl 0 rfl) ?_
        have hPc := va_P.part (X := [tc_X7 a0 th ma rf lk pu tl lo, tc_Jx4a65c lo mc ed (nI n)]) (cx := [tc_Jx4a65c lo mc ed (nI n)]) (pl := tm_L G ed n ad rc) hP [1] rfl
        have hDc := va_D.part (X := [tc_X7 a0 th ma rf lk pu tl lo, tc_Jx4a65c lo mc ed (nI n)]) (cx := [tc_Jx4a65c lo mc ed (nI n)]) (pl := tm_L G ed n ad rc) hD [1] (by decide) rfl
        have hFc := va_freeP (X := [tc_X7 a0 th ma rf lk pu tl lo, tc_Jx4a65c lo mc ed (nI n)]) (cx := [tc_Jx4a65c lo mc ed (nI n)]) (pl := tm_L G ed n ad rc) hD hS hA [1] rfl
        refine va_callFr (va_runF (As := [.int x4_1]) (rest := [.int x4_0]) (hK.1 0 (RJx4a65c, TJx4a65c, 3) rfl).2 ⟨hx, hb, hml, hown, hts⟩ (c_Jx4a65c_get_915e3 l G lo ed H.size mc x4_1 n ad rc (n_3 c_2)) (va_cwF 1 hts gX7_count_Jx4a65c_get_915e3_f39Jx4a65c rfl rfl rfl (hN.2.2.2.2.1 (⟨"java/util/List", "get", "(I)Ljava/lang/Object;"⟩, yJx4a65c_get_915e3) (List.mem_of_getElem? (i := 1) rfl)) (by decide +kernel) ⟨(Nat.le_of_ble_eq_true rfl), (Nat.le_of_ble_eq_true rfl)⟩) (tm_preV hK hN hV hS hPc hDc hFc (va_recv hK hPc (ci := 0) (q0 := 0) rfl rfl)) rfl rfl hl.1 rfl (lv_room (Nat.le_of_ble_eq_true rfl)) dX7_count_23 ⟨(Nat.le_of_ble_eq_true rfl), (Nat.le_of_ble_eq_true rfl)⟩) hS (fun q _ h => hFc q h) hFc (fun u ra t H locs ht hvm hw_4 hB hz1 hk1 hS => ?_)
        obtain ⟨rfl, hP1, hD1⟩ := hB
        rw [ht] at hP1
        obtain ⟨hP, hD⟩ := va_joinP (X := [tc_X7 a0 th ma rf lk pu tl lo, tc_Jx4a65c lo mc ed (nI n)]) (cx := [tc_Jx4a65c lo mc ed (nI n)]) (wr := [tc_X7 a0 th ma rf lk pu tl lo]) (rx := [tc_Jx4a65c lo mc ed (nI n)]) (pl := tm_L G ed n ad rc) (pl1 := tm_L G ed n ad rc) hP hD [1] [0] rfl rfl (by decide) (by decide) hk1 hFc hP1 hD1
        have hP : va_P G.1 vwCl ([tc_X7 a0 th ma rf lk pu tl lo, tc_Jx4a65c lo mc ed (nI n)] ++ tm_L G ed n ad rc) H := hP
        have hD : va_D A ([tc_X7 a0 th ma rf lk pu tl lo, tc_Jx4a65c lo mc ed (nI n)] ++ tm_L G ed n ad rc) := hD
        refine va_castA hx hb hown (hts (.classLink RX7 43 "[I") (List.mem_of_getElem? (i := 2) rfl)) hP _ (tm_L_get (tm_lt (n_5 c_2))) (hK.2 0 (G.2.1, .int) rfl).2 dX7_count_28 ?_
        refine lv_iconst (v := 4) hx hb dX7_count_31 (by decide) ?_
        refine va_iald (n := 5) (f := rc x4_1.toNatClampNeg) hx hb hK hP _ 0 (tm_L_get (tm_lt (n_5 c_2))) rfl (n_6 c_2) dX7_count_32 ?_
        refine lv_iload_n hx hb dX7_count_33 rfl (lv_at hl 3 rfl) ?_
        refine lv_icmp_ne (tgt := 41) hx hb dX7_count_34 (by decide) (fun c_7 => ?_) (fun c_7 => ?_)
        · refine lv_iconst (v := 0) hx hb dX7_count_41 (by decide) ?_
          refine lv_iadd hx hb dX7_count_42 ?_
          refine lv_istore_n (lv' := [(2, .int (x4_0 + 0)), (3, .int x4_1), (0, .ref a0), (1, .int p1)]) hx hb dX7_count_43 rfl hl (by decide) rfl (fun ls hl => ?_)
          refine lv_iinc (v := x4_1 + 1) (lv' := [(3, .int (x4_1 + 1)), (2, .int (x4_0 + 0)), (0, .ref a0), (1, .int p1)]) hx hb dX7_count_44 hl (k := 1) rfl rfl (by decide) rfl (fun ls hl => ?_)
          refine lv_goto (tgt := 4) hx hb dX7_count_47 (by decide) ?_
          have hP9 := va_P.part (X := [tc_X7 a0 th ma rf lk pu tl lo, tc_Jx4a65c lo mc ed (nI n)]) (cx := [tc_X7 a0 th ma rf lk pu tl lo, tc_Jx4a65c lo mc ed (nI n)]) (pl := tm_L G ed n ad rc) hP [0, 1] rfl
          have hD9 := va_D.part (X := [tc_X7 a0 th ma rf lk pu tl lo, tc_Jx4a65c lo mc ed (nI n)]) (cx := [tc_X7 a0 th ma rf lk pu tl lo, tc_Jx4a65c lo mc ed (nI n)]) (pl := tm_L G ed n ad rc) hD [0, 1] (by decide) rfl
          exact ih (x4_0 + 0) (x4_1 + 1) (n_8 c_2 c_7) (by rw [hE, f_X7_count_4]; all_goals (rw [if_neg c_2]); all_goals (rw [if_neg c_7]); all_goals rfl) _ _ hP9 hD9 hS _ (lv_sub hl [0, 1, 2, 3] rfl)
        · refine lv_iconst (v := 1) hx hb dX7_count_37 (by decide) ?_
          refine lv_goto (tgt := 42) hx hb dX7_count_38 (by decide) ?_
          refine lv_iadd hx hb dX7_count_42 ?_
          refine lv_istore_n (lv' := [(2, .int (x4_0 + 1)), (3, .int x4_1), (0, .ref a0), (1, .int p1)]) hx hb dX7_count_43 rfl hl (by decide) rfl (fun ls hl => ?_)
          refine lv_iinc (v := x4_1 + 1) (lv' := [(3, .int (x4_1 + 1)), (2, .int (x4_0 + 1)), (0, .ref a0), (1, .int p1)]) hx hb dX7_count_44 hl (k := 1) rfl rfl (by decide) rfl (fun ls hl => ?_)
          refine lv_goto (tgt := 4) hx hb dX7_count_47 (by decide) ?_
          have hP9 := va_P.part (X := [tc_X7 a0 th ma rf lk pu tl lo, tc_Jx4a65c lo mc ed (nI n)]) (cx := [tc_X7 a0 th ma rf lk pu tl lo, tc_Jx4a65c lo mc ed (nI n)]) (pl := tm_L G ed n ad rc) hP [0, 1] rfl
          have hD9 := va_D.part (X := [tc_X7 a0 th ma rf lk pu tl lo, tc_Jx4a65c lo mc ed (nI n)]) (cx := [tc_X7 a0 th ma rf lk pu tl lo, tc_Jx4a65c lo mc ed (nI n)]) (pl := tm_L G ed n ad rc) hD [0, 1] (by decide) rfl
          exact ih (x4_0 + 1) (x4_1 + 1) (n_9 c_2 c_7) (by rw [hE, f_X7_count_4]; all_goals (rw [if_neg c_2]); all_goals (rw [if_pos c_7]); all_goals rfl) _ _ hP9 hD9 hS _ (lv_sub hl [0, 1, 2, 3] rfl)
  have hP9 := va_P.part (X := [tc_X7 a0 th ma rf lk pu tl lo, tc_Jx4a65c lo mc ed (nI n)]) (cx := [tc_X7 a0 th ma rf lk pu tl lo, tc_Jx4a65c lo mc ed (nI n)]) (pl := tm_L G ed n ad rc) hP [0, 1] rfl
  have hD9 := va_D.part (X := [tc_X7 a0 th ma rf lk pu tl lo, tc_Jx4a65c lo mc ed (nI n)]) (cx := [tc_X7 a0 th ma rf lk pu tl lo, tc_Jx4a65c lo mc ed (nI n)]) (pl := tm_L G ed n ad rc) hD [0, 1] (by decide) rfl
  exact L_4 12 0 0 n_10 (by unfold f_X7_count; all_goals rfl) _ _ hP9 hD9 hS _ (lv_sub hl [0, 1, 2, 3] rfl)
set_option maxHeartbeats 4000000 in
set_option maxRecDepth 100000 in
theorem c_X7_settle (l : Launch) (G : tm_G) (a0 : Nat) (ma : Nat) (lo : Nat) (e0 : Nat) (e1 : Nat) (e2 : Nat) (e3 : Nat) (e4 : Nat) (e5 : Nat) (ed : Nat) (sz : Nat) (th : Int32) (rf : Int32) (lk : Int32) (pu : Int32) (tl : UInt64) (tk : Int32) (mo : Int32) (su : UInt64) (lv : UInt64) (si : UInt32) (ga : Int32) (sl : Int32) (sc : Int32) (fh : Int32) (lh : Int32) (fo : UInt64) (ee : Int32) (pn : Int32) (dn : Nat → Int32) (mc : Int32) (n : Nat) (ad : Nat → Nat) (rc : Nat → Nat → Int32) (hn : n_X7_settle dn n rc) : Met l yX7_settle wsX7_settle ({ frames := 3, cells := 0, slots := 0, locals := 64 }) (va_Pc [.ref a0] (tm_B G ([tc_X7 a0 th ma rf lk pu tl lo, tc_X6 ma tk mo su lv si ga sl sc fh lh fo ee pn e0 e1 e2 e3 e4 e5 a0, tc_Z G e5 10 dn, tc_Jx4a65c lo mc ed (nI n)] ++ tm_L G ed n ad rc) sz)) (va_Qv (fun (u : (Nat → Nat → Int32)) => u = f_X7_settle dn n rc) (fun (u : (Nat → Nat → Int32)) (t : State) => va_P G.1 vwCl ([tc_X7 a0 th ma rf lk pu tl lo, tc_X6 ma tk mo su lv si ga sl sc fh lh fo ee pn e0 e1 e2 e3 e4 e5 a0, tc_Z G e5 10 dn, tc_Jx4a65c lo mc ed (nI n)] ++ tm_L G ed n ad u) t.heap ∧ va_D (va_A ([tc_X7 a0 th ma rf lk pu tl lo, tc_X6 ma tk mo su lv si ga sl sc fh lh fo ee pn e0 e1 e2 e3 e4 e5 a0, tc_Z G e5 10 dn, tc_Jx4a65c lo mc ed (nI n)] ++ tm_L G ed n ad rc) sz) ([tc_X7 a0 th ma rf lk pu tl lo, tc_X6 ma tk mo su lv si ga sl sc fh lh fo ee pn e0 e1 e2 e3 e4 e5 a0, tc_Z G e5 10 dn, tc_Jx4a65c lo mc ed (nI n)] ++ tm_L G ed n ad u)) (va_A ([tc_X7 a0 th ma rf lk pu tl lo, tc_X6 ma tk mo su lv si ga sl sc fh lh fo ee pn e0 e1 e2 e3 e4 e5 a0, tc_Z G e5 10 dn, tc_Jx4a65c lo mc ed (nI n)] ++ tm_L G ed n ad rc) sz)) 0 0 (va_A ([tc_X7 a0 th ma rf lk pu tl lo, tc_X6 ma tk mo su lv si ga sl sc fh lh fo ee pn e0 e1 e2 e3 e4 e5 a0, tc_Z G e5 10 dn, tc_Jx4a65c lo mc ed (nI n)] ++ tm_L G ed n ad rc) sz) := by
  refine Met.ofW (cc := cX7_settle) (maxL := 2) (ret := none) (by decide) rfl ?_
  intro p e s m args below meth c s₁ B hml hv
  obtain ⟨rfl, hsz, hP, hK, hD0, hN, hV⟩ := hv
  have hx := B.exec
  have hb := B.bytes
  have hr := B.returns
  have hts := atoms_spec (ws := wsX7_settle) B.pre
  have hown : s.vm.findClass RX7 = some m.cls := findClass_of_methodNamed B.named
  have hlocks := B.notSynchronized
  subst hsz
  have n_14 := hn
  unfold n_X7_settle at n_14
  have hiX6 : ∀ w ∈ u_ws RX6 TX6 20, w ∈ wsX7_settle := fun _ h => List.mem_cons_of_mem _ (List.mem_append_left _ (List.mem_append_right _ h))
  have hiX7 : ∀ w ∈ u_ws RX7 TX7 7, w ∈ wsX7_settle := fun _ h => List.mem_cons_of_mem _ (List.mem_append_left _ (List.mem_append_left _ (List.mem_append_right _ h)))
  have hD := hD0.self (sz := s.heap.size)
  generalize hAe : va_A ([tc_X7 a0 th ma rf lk pu tl lo, tc_X6 ma tk mo su lv si ga sl sc fh lh fo ee pn e0 e1 e2 e3 e4 e5 a0, tc_Z G e5 10 dn, tc_Jx4a65c lo mc ed (nI n)] ++ tm_L G ed n ad rc) s.heap.size = A at hD hV ⊢
  have hA : ∀ q : Nat, s.heap.size ≤ q → A q := fun q h => by rw [← hAe]; exact Or.inr h
  have hS : va_S A s.heap s.heap [] := va_S.rf
  have hl := lv_entry ([.ref a0]) (n := 2) (Nat.le_of_ble_eq_true rfl)
  rw [lg_entry_eq]
  generalize (lg_sl ([.ref a0]) ++ List.replicate (2 - (lg_sl ([.ref a0])).length) Slot.unset).toArray = ls at hl ⊢
  have hl : lv_has ls 2 [(0, .ref a0)] := hl
  refine lv_iconst (v := 0) hx hb dX7_settle_0 (by decide) ?_
  refine lv_istore_n (lv' := [(1, .int 0), (0, .ref a0)]) hx hb dX7_settle_1 rfl hl (by decide) rfl (fun ls hl => ?_)
  have L_2 : ∀ (fuel : Nat) (x2_0 : Int32) (x2_1 : Nat → Nat → Int32), n_X7_settle_2 dn n fuel x2_0 x2_1 → f_X7_settle dn n rc = f_X7_settle_2 dn n fuel x2_0 x2_1 → ∀ (H : Heap) (locs : List Loc), va_P G.1 vwCl ([tc_X7 a0 th ma rf lk pu tl lo, tc_X6 ma tk mo su lv si ga sl sc fh lh fo ee pn e0 e1 e2 e3 e4 e5 a0, tc_Z G e5 10 dn, tc_Jx4a65c lo mc ed (nI n)] ++ tm_L G ed n ad x2_1) H → va_D A ([tc_X7 a0 th ma rf lk pu tl lo, tc_X6 ma tk mo su lv si ga sl sc fh lh fo ee pn e0 e1 e2 e3 e4 e5 a0, tc_Z G e5 10 dn, tc_Jx4a65c lo mc ed (nI n)] ++ tm_L G ed n ad x2_1) → va_S A s.heap H locs → ∀ ls : Array Slot, lv_has ls 2 [(1, .int x2_0), (0, .ref a0)] → W p l e (headSpec wsX7_settle ({ frames := 3, cells := 0, slots := 0, locals := 64 } : Room)).room s m ([.ref a0] : List Value).toArray below meth c H locs 0 0 (MQ below (va_Qv (fun (u : (Nat → Nat → Int32)) => u = f_X7_settle dn n rc) (fun (u : (Nat → Nat → Int32)) (t : State) => va_P G.1 vwCl ([tc_X7 a0 th ma rf lk pu tl lo, tc_X6 ma tk mo su lv si ga sl sc fh lh fo ee pn e0 e1 e2 e3 e4 e5 a0, tc_Z G e5 10 dn, tc_Jx4a65c lo mc ed (nI n)] ++ tm_L G ed n ad u) t.heap ∧ va_D A ([tc_X7 a0 th ma rf lk pu tl lo, tc_X6 ma tk mo su lv si ga sl sc fh lh fo ee pn e0 e1 e2 e3 e4 e5 a0, tc_Z G e5 10 dn, tc_Jx4a65c lo mc ed (nI n)] ++ tm_L G ed n ad u)) A) ([.ref a0] : List Value).toArray s 0 0 A) (F0 m 2 ls []) := by
    intro fuel
    induction fuel with
    | zero =>
      intro x2_0 x2_1 hnl; exact absurd hnl (by simp [n_X7_settle_2])
    | succ fuel ih =>
      intro x2_0 x2_1 hnl hE H locs hP hD hS ls hl
      rw [n_X7_settle_2] at hnl
      obtain ⟨n_3, n_5, n_6, n_8, n_9, n_11, n_13⟩ := hnl
      refine lv_iload_n hx hb dX7_settle_2 rfl (lv_at hl 0 rfl) ?_
      refine lv_aload_n hx hb dX7_settle_3 rfl (lv_at hl 1 rfl) ?_
      refine va_get (D := G.1) (ci := 8) (v := .ref lo) (C := RX7) (T := TX7) (N := 7) hx hb hts hiX7 hown hK hP 0 rfl rfl 6 (by decide) (hts (.fieldLink RX7 21 "TideMillModel" "lots" "Ljava/util/List;") (List.mem_of_getElem? (i := 1) rfl)) (fun _ h9 => h9) rfl dX7_settle_4 ?_
      have hPc := hP.sub (ws' := [tc_Jx4a65c lo mc ed (nI n)]) [3] rfl
      have hDc := hD.sub (ws' := [tc_Jx4a65c lo mc ed (nI n)]) [3] (by decide) rfl
      have hFc := va_free (wc := [tc_Jx4a65c lo mc ed (nI n)]) hD hS hA [3] rfl
      refine va_callFi (va_runF (As := []) (rest := [.int x2_0]) (hK.1 0 (RJx4a65c, TJx4a65c, 3) rfl).2 ⟨hx, hb, hml, hown, hts⟩ (c_Jx4a65c_size_8abf5 l G lo ed H.size mc (nI n) ) (va_cwF 0 hts gX7_settle_Jx4a65c_size_8abf5_f29Jx4a65c rfl rfl rfl (hN.2.2.2.2.1 (⟨"java/util/List", "size", "()I"⟩, yJx4a65c_size_8abf5) (List.mem_of_getElem? (i := 0) rfl)) (by decide +kernel) ⟨(Nat.le_of_ble_eq_true rfl), (Nat.le_of_ble_eq_true rfl)⟩) (tm_preV hK hN hV hS hPc hDc hFc (va_recv hK hPc (ci := 0) (q0 := 0) rfl rfl)) rfl rfl hl.1 rfl (lv_room (Nat.le_of_ble_eq_true rfl)) dX7_settle_7 ⟨(Nat.le_of_ble_eq_true rfl), (Nat.le_of_ble_eq_true rfl)⟩) hS (fun q _ h => hFc q h) hFc (fun r_1 u t H locs ht hvm hw_1 hB hz1 hk1 hS => ?_)
      obtain ⟨hP1, hD1⟩ := hB
      rw [ht] at hP1
      try dsimp only at hw_1
      obtain ⟨hP, hD⟩ := va_joinQ (X := [tc_X7 a0 th ma rf lk pu tl lo, tc_X6 ma tk mo su lv si ga sl sc fh lh fo ee pn e0 e1 e2 e3 e4 e5 a0, tc_Z G e5 10 dn, tc_Jx4a65c lo mc ed (nI n)]) (cx := [tc_Jx4a65c lo mc ed (nI n)]) (wr := [tc_X7 a0 th ma rf lk pu tl lo, tc_X6 ma tk mo su lv si ga sl sc fh lh fo ee pn e0 e1 e2 e3 e4 e5 a0, tc_Z G e5 10 dn]) (w1 := [tc_Jx4a65c lo mc ed (nI n)]) (pl := tm_L G ed n ad x2_1) hP hD [3] [0, 1, 2] rfl rfl (by decide) (by decide) hk1 hFc hP1 hD1
      have hP : va_P G.1 vwCl ([tc_X7 a0 th ma rf lk pu tl lo, tc_X6 ma tk mo su lv si ga sl sc fh lh fo ee pn e0 e1 e2 e3 e4 e5 a0, tc_Z G e5 10 dn, tc_Jx4a65c lo mc ed (nI n)] ++ tm_L G ed n ad x2_1) H := hP
      have hD : va_D A ([tc_X7 a0 th ma rf lk pu tl lo, tc_X6 ma tk mo su lv si ga sl sc fh lh fo ee pn e0 e1 e2 e3 e4 e5 a0, tc_Z G e5 10 dn, tc_Jx4a65c lo mc ed (nI n)] ++ tm_L G ed n ad x2_1) := hD
      subst r_1
      refine lv_icmp_ge (tgt := 68) hx hb dX7_settle_12 (by decide) (fun c_2 => ?_) (fun c_2 => ?_)
      · have hP9 := va_P.part (X := [tc_X7 a0 th ma rf lk pu tl lo, tc_X6 ma tk mo su lv si ga sl sc fh lh fo ee pn e0 e1 e2 e3 e4 e5 a0, tc_Z G e5 10 dn, tc_Jx4a65c lo mc ed (nI n)]) (cx := [tc_X7 a0 th ma rf lk pu tl lo, tc_X6 ma tk mo su lv si ga sl sc fh lh fo ee pn e0 e1 e2 e3 e4 e5 a0, tc_Z G e5 10 dn, tc_Jx4a65c lo mc ed (nI n)]) (pl := tm_L G ed n ad x2_1) hP [0, 1, 2, 3] rfl
        have hD9 := va_D.part (X := [tc_X7 a0 th ma rf lk pu tl lo, tc_X6 ma tk mo su lv si ga sl sc fh lh fo ee pn e0 e1 e2 e3 e4 e5 a0, tc_Z G e5 10 dn, tc_Jx4a65c lo mc ed (nI n)]) (cx := [tc_X7 a0 th ma rf lk pu tl lo, tc_X6 ma tk mo su lv si ga sl sc fh lh fo ee pn e0 e1 e2 e3 e4 e5 a0, tc_Z G e5 10 dn, tc_Jx4a65c lo mc ed (nI n)]) (pl := tm_L G ed n ad x2_1) hD [0, 1, 2, 3] (by decide) rfl
        exact W.vret hx hb hr (fun t ht hW => ⟨⟨(x2_1), rfl, by rw [hE, f_X7_settle_2]; all_goals (rw [if_pos c_2]); all_goals rfl, by rw [ht]; exact hP9, hD9⟩, hS.F ht⟩) hS.2.2 dX7_settle_68
      · refine lv_aload_n hx hb dX7_settle_15 rfl (lv_at hl 1 rfl) ?_
        refine va_get (D := G.1) (ci := 8) (v := .ref ma) (C := RX7) (T := TX7) (N := 7) hx hb hts hiX7 hown hK hP 0 rfl rfl 1 (by decide) (hts (.fieldLink RX7 12 "TideMillModel" "mill" "LTideMillModel$Mill;") (List.mem_of_getElem? (i := 2) rfl)) (fun _ h9 => h9) rfl dX7_settle_16 ?_
        refine va_get (D := G.1) (ci := 7) (v := .ref e5) (C := RX6) (T := TX6) (N := 20) hx hb hts hiX6 hown hK hP 1 rfl rfl 18 (by decide) (hts (.fieldLink RX7 35 "TideMillModel$Mill" "done" "[Z") (List.mem_of_getElem? (i := 3) rfl)) (fun _ h9 => h9) rfl dX7_settle_19 ?_
        refine lv_iload_n hx hb dX7_settle_22 rfl (lv_at hl 0 rfl) ?_
        refine va_zald (n := 10) (f := dn) hx hb hK hP 2 3 rfl rfl (n_3 c_2) dX7_settle_23 ?_
        refine lv_if_eq (tgt := 62) hx hb dX7_settle_24 (by decide) (fun c_4 => ?_) (fun c_4 => ?_)
        · refine lv_iinc (v := x2_0 + 1) (lv' := [(1, .int (x2_0 + 1)), (0, .ref a0)]) hx hb dX7_settle_62 hl (k := 0) rfl rfl (by decide) rfl (fun ls hl => ?_)
          refine lv_goto (tgt := 2) hx hb dX7_settle_65 (by decide) ?_
          have hP9 := va_P.part (X := [tc_X7 a0 th ma rf lk pu tl lo, tc_X6 ma tk mo su lv si ga sl sc fh lh fo ee pn e0 e1 e2 e3 e4 e5 a0, tc_Z G e5 10 dn, tc_Jx4a65c lo mc ed (nI n)]) (cx := [tc_X7 a0 th ma rf lk pu tl lo, tc_X6 ma tk mo su lv si ga sl sc fh lh fo ee pn e0 e1 e2 e3 e4 e5 a0, tc_Z G e5 10 dn, tc_Jx4a65c lo mc ed (nI n)]) (pl := tm_L G ed n ad x2_1) hP [0, 1, 2, 3] rfl
          have hD9 := va_D.part (X := [tc_X7 a0 th ma rf lk pu tl lo, tc_X6 ma tk mo su lv si ga sl sc fh lh fo ee pn e0 e1 e2 e3 e4 e5 a0, tc_Z G e5 10 dn, tc_Jx4a65c lo mc ed (nI n)]) (cx := [tc_X7 a0 th ma rf lk pu tl lo, tc_X6 ma tk mo su lv si ga sl sc fh lh fo ee pn e0 e1 e2 e3 e4 e5 a0, tc_Z G e5 10 dn, tc_Jx4a65c lo mc ed (nI n)]) (pl := tm_L G ed n ad x2_1) hD [0, 1, 2, 3] (by decide) rfl
          exact ih (x2_0 + 1) x2_1 (n_5 c_2 c_4) (by rw [hE, f_X7_settle_2]; all_goals (rw [if_neg c_2]); all_goals (rw [if_pos c_4]); all_goals rfl) _ _ hP9 hD9 hS _ (lv_sub hl [0, 1] rfl)
        · refine lv_aload_n hx hb dX7_settle_27 rfl (lv_at hl 1 rfl) ?_
          refine va_get (D := G.1) (ci := 8) (v := .ref lo) (C := RX7) (T := TX7) (N := 7) hx hb hts hiX7 hown hK hP 0 rfl rfl 6 (by decide) (hts (.fieldLink RX7 21 "TideMillModel" "lots" "Ljava/util/List;") (List.mem_of_getElem? (i := 1) rfl)) (fun _ h9 => h9) rfl dX7_settle_28 ?_
          refine lv_iload_n hx hb dX7_settle_31 rfl (lv_at hl 0 rfl) ?_
          have hPc := va_P.part (X := [tc_X7 a0 th ma rf lk pu tl lo, tc_X6 ma tk mo su lv si ga sl sc fh lh fo ee pn e0 e1 e2 e3 e4 e5 a0, tc_Z G e5 10 dn, tc_Jx4a65c lo mc ed (nI n)]) (cx := [tc_Jx4a65c lo mc ed (nI n)]) (pl := tm_L G ed n ad x2_1) hP [3] rfl
          have hDc := va_D.part (X := [tc_X7 a0 th ma rf lk pu tl lo, tc_X6 ma tk mo su lv si ga sl sc fh lh fo ee pn e0 e1 e2 e3 e4 e5 a0, tc_Z G e5 10 dn, tc_Jx4a65c lo mc ed (nI n)]) (cx := [tc_Jx4a65c lo mc ed (nI n)]) (pl := tm_L G ed n ad x2_1) hD [3] (by decide) rfl
          have hFc := va_freeP (X := [tc_X7 a0 th ma rf lk pu tl lo, tc_X6 ma tk mo su lv si ga sl sc fh lh fo ee pn e0 e1 e2 e3 e4 e5 a0, tc_Z G e5 10 dn, tc_Jx4a65c lo mc ed (nI n)]) (cx := [tc_Jx4a65c lo mc ed (nI n)]) (pl := tm_L G ed n ad x2_1) hD hS hA [3] rfl
          refine va_callFr (va_runF (As := [.int x2_0]) (rest := []) (hK.1 0 (RJx4a65c, TJx4a65c, 3) rfl).2 ⟨hx, hb, hml, hown, hts⟩ (c_Jx4a65c_get_915e3 l G lo ed H.size mc x2_0 n ad x2_1 (n_6 c_2 c_4)) (va_cwF 1 hts gX7_settle_Jx4a65c_get_915e3_f39Jx4a65c rfl rfl rfl (hN.2.2.2.2.1 (⟨"java/util/List", "get", "(I)Ljava/lang/Object;"⟩, yJx4a65c_get_915e3) (List.mem_of_getElem? (i := 1) rfl)) (by decide +kernel) ⟨(Nat.le_of_ble_eq_true rfl), (Nat.le_of_ble_eq_true rfl)⟩) (tm_preV hK hN hV hS hPc hDc hFc (va_recv hK hPc (ci := 0) (q0 := 0) rfl rfl)) rfl rfl hl.1 rfl (lv_room (Nat.le_of_ble_eq_true rfl)) dX7_settle_32 ⟨(Nat.le_of_ble_eq_true rfl), (Nat.le_of_ble_eq_true rfl)⟩) hS (fun q _ h => hFc q h) hFc (fun u ra t H locs ht hvm hw_7 hB hz1 hk1 hS => ?_)
          obtain ⟨rfl, hP1, hD1⟩ := hB
          rw [ht] at hP1
          obtain ⟨hP, hD⟩ := va_joinP (X := [tc_X7 a0 th ma rf lk pu tl lo, tc_X6 ma tk mo su lv si ga sl sc fh lh fo ee pn e0 e1 e2 e3 e4 e5 a0, tc_Z G e5 10 dn, tc_Jx4a65c lo mc ed (nI n)]) (cx := [tc_Jx4a65c lo mc ed (nI n)]) (wr := [tc_X7 a0 th ma rf lk pu tl lo, tc_X6 ma tk mo su lv si ga sl sc fh lh fo ee pn e0 e1 e2 e3 e4 e5 a0, tc_Z G e5 10 dn]) (rx := [tc_Jx4a65c lo mc ed (nI n)]) (pl := tm_L G ed n ad x2_1) (pl1 := tm_L G ed n ad x2_1) hP hD [3] [0, 1, 2] rfl rfl (by decide) (by decide) hk1 hFc hP1 hD1
          have hP : va_P G.1 vwCl ([tc_X7 a0 th ma rf lk pu tl lo, tc_X6 ma tk mo su lv si ga sl sc fh lh fo ee pn e0 e1 e2 e3 e4 e5 a0, tc_Z G e5 10 dn, tc_Jx4a65c lo mc ed (nI n)] ++ tm_L G ed n ad x2_1) H := hP
          have hD : va_D A ([tc_X7 a0 th ma rf lk pu tl lo, tc_X6 ma tk mo su lv si ga sl sc fh lh fo ee pn e0 e1 e2 e3 e4 e5 a0, tc_Z G e5 10 dn, tc_Jx4a65c lo mc ed (nI n)] ++ tm_L G ed n ad x2_1) := hD
          refine va_castA hx hb hown (hts (.classLink RX7 43 "[I") (List.mem_of_getElem? (i := 4) rfl)) hP _ (tm_L_get (tm_lt (n_8 c_2 c_4))) (hK.2 0 (G.2.1, .int) rfl).2 dX7_settle_37 ?_
          refine lv_iconst (v := 4) hx hb dX7_settle_40 (by decide) ?_
          refine va_iald (n := 5) (f := x2_1 x2_0.toNatClampNeg) hx hb hK hP _ 0 (tm_L_get (tm_lt (n_8 c_2 c_4))) rfl (n_9 c_2 c_4) dX7_settle_41 ?_
          refine lv_iconst (v := 1) hx hb dX7_settle_42 (by decide) ?_
          refine lv_icmp_ne (tgt := 62) hx hb dX7_settle_43 (by decide) (fun c_10 => ?_) (fun c_10 => ?_)
          · refine lv_iinc (v := x2_0 + 1) (lv' := [(1, .int (x2_0 + 1)), (0, .ref a0)]) hx hb dX7_settle_62 hl (k := 0) rfl rfl (by decide) rfl (fun ls hl => ?_)
            refine lv_goto (tgt := 2) hx hb dX7_settle_65 (by decide) ?_
            have hP9 := va_P.part (X := [tc_X7 a0 th ma rf lk pu tl lo, tc_X6 ma tk mo su lv si ga sl sc fh lh fo ee pn e0 e1 e2 e3 e4 e5 a0, tc_Z G e5 10 dn, tc_Jx4a65c lo mc ed (nI n)]) (cx := [tc_X7 a0 th ma rf lk pu tl lo, tc_X6 ma tk mo su lv si ga sl sc fh lh fo ee pn e0 e1 e2 e3 e4 e5 a0, tc_Z G e5 10 dn, tc_Jx4a65c lo mc ed (nI n)]) (pl := tm_L G ed n ad x2_1) hP [0, 1, 2, 3] rfl
            have hD9 := va_D.part (X := [tc_X7 a0 th ma rf lk pu tl lo, tc_X6 ma tk mo su lv si ga sl sc fh lh fo ee pn e0 e1 e2 e3 e4 e5 a0, tc_Z G e5 10 dn, tc_Jx4a65c lo mc ed (nI n)]) (cx := [tc_X7 a0 th ma rf lk pu tl lo, tc_X6 ma tk mo su lv si ga sl sc fh lh fo ee pn e0 e1 e2 e3 e4 e5 a0, tc_Z G e5 10 dn, tc_Jx4a65c lo mc ed (nI n)]) (pl := tm_L G ed n ad x2_1) hD [0, 1, 2, 3] (by decide) rfl
            exact ih (x2_0 + 1) x2_1 (n_11 c_2 c_4 c_10) (by rw [hE, f_X7_settle_2]; all_goals (rw [if_neg c_2]); all_goals (rw [if_neg c_4]); all_goals (rw [if_neg c_10]); all_goals rfl) _ _ hP9 hD9 hS _ (lv_sub hl [0, 1] rfl)
          · refine lv_aload_n hx hb dX7_settle_46 rfl (lv_at hl 1 rfl) ?_
            refine va_get (D := G.1) (ci := 8) (v := .ref lo) (C := RX7) (T := TX7) (N := 7) hx hb hts hiX7 hown hK hP 0 rfl rfl 6 (by decide) (hts (.fieldLink RX7 21 "TideMillModel" "lots" "Ljava/util/List;") (List.mem_of_getElem? (i := 1) rfl)) (fun _ h9 => h9) rfl dX7_settle_47 ?_
            refine lv_iload_n hx hb dX7_settle_50 rfl (lv_at hl 0 rfl) ?_
            have hPc := va_P.part (X := [tc_X7 a0 th ma rf lk pu tl lo, tc_X6 ma tk mo su lv si ga sl sc fh lh fo ee pn e0 e1 e2 e3 e4 e5 a0, tc_Z G e5 10 dn, tc_Jx4a65c lo mc ed (nI n)]) (cx := [tc_Jx4a65c lo mc ed (nI n)]) (pl := tm_L G ed n ad x2_1) hP [3] rfl
            have hDc := va_D.part (X := [tc_X7 a0 th ma rf lk pu tl lo, tc_X6 ma tk mo su lv si ga sl sc fh lh fo ee pn e0 e1 e2 e3 e4 e5 a0, tc_Z G e5 10 dn, tc_Jx4a65c lo mc ed (nI n)]) (cx := [tc_Jx4a65c lo mc ed (nI n)]) (pl := tm_L G ed n ad x2_1) hD [3] (by decide) rfl
            have hFc := va_freeP (X := [tc_X7 a0 th ma rf lk pu tl lo, tc_X6 ma tk mo su lv si ga sl sc fh lh fo ee pn e0 e1 e2 e3 e4 e5 a0, tc_Z G e5 10 dn, tc_Jx4a65c lo mc ed (nI n)]) (cx := [tc_Jx4a65c lo mc ed (nI n)]) (pl := tm_L G ed n ad x2_1) hD hS hA [3] rfl
            refine va_callFr (va_runF (As := [.int x2_0]) (rest := []) (hK.1 0 (RJx4a65c, TJx4a65c, 3) rfl).2 ⟨hx, hb, hml, hown, hts⟩ (c_Jx4a65c_get_915e3 l G lo ed H.size mc x2_0 n ad x2_1 (n_6 c_2 c_4)) (va_cwF 1 hts gX7_settle_Jx4a65c_get_915e3_f39Jx4a65c rfl rfl rfl (hN.2.2.2.2.1 (⟨"java/util/List", "get", "(I)Ljava/lang/Object;"⟩, yJx4a65c_get_915e3) (List.mem_of_getElem? (i := 1) rfl)) (by decide +kernel) ⟨(Nat.le_of_ble_eq_true rfl), (Nat.le_of_ble_eq_true rfl)⟩) (tm_preV hK hN hV hS hPc hDc hFc (va_recv hK hPc (ci := 0) (q0 := 0) rfl rfl)) rfl rfl hl.1 rfl (lv_room (Nat.le_of_ble_eq_true rfl)) dX7_settle_51 ⟨(Nat.le_of_ble_eq_true rfl), (Nat.le_of_ble_eq_true rfl)⟩) hS (fun q _ h => hFc q h) hFc (fun u ra t H locs ht hvm hw_12 hB hz1 hk1 hS => ?_)
            obtain ⟨rfl, hP1, hD1⟩ := hB
            rw [ht] at hP1
            obtain ⟨hP, hD⟩ := va_joinP (X := [tc_X7 a0 th ma rf lk pu tl lo, tc_X6 ma tk mo su lv si ga sl sc fh lh fo ee pn e0 e1 e2 e3 e4 e5 a0, tc_Z G e5 10 dn, tc_Jx4a65c lo mc ed (nI n)]) (cx := [tc_Jx4a65c lo mc ed (nI n)]) (wr := [tc_X7 a0 th ma rf lk pu tl lo, tc_X6 ma tk mo su lv si ga sl sc fh lh fo ee pn e0 e1 e2 e3 e4 e5 a0, tc_Z G e5 10 dn]) (rx := [tc_Jx4a65c lo mc ed (nI n)]) (pl := tm_L G ed n ad x2_1) (pl1 := tm_L G ed n ad x2_1) hP hD [3] [0, 1, 2] rfl rfl (by decide) (by decide) hk1 hFc hP1 hD1
            have hP : va_P G.1 vwCl ([tc_X7 a0 th ma rf lk pu tl lo, tc_X6 ma tk mo su lv si ga sl sc fh lh fo ee pn e0 e1 e2 e3 e4 e5 a0, tc_Z G e5 10 dn, tc_Jx4a65c lo mc ed (nI n)] ++ tm_L G ed n ad x2_1) H := hP
            have hD : va_D A ([tc_X7 a0 th ma rf lk pu tl lo, tc_X6 ma tk mo su lv si ga sl sc fh lh fo ee pn e0 e1 e2 e3 e4 e5 a0, tc_Z G e5 10 dn, tc_Jx4a65c lo mc ed (nI n)] ++ tm_L G ed n ad x2_1) := hD
            refine va_castA hx hb hown (hts (.classLink RX7 43 "[I") (List.mem_of_getElem? (i := 4) rfl)) hP _ (tm_L_get (tm_lt (n_8 c_2 c_4))) (hK.2 0 (G.2.1, .int) rfl).2 dX7_settle_56 ?_
            refine lv_iconst (v := 4) hx hb dX7_settle_59 (by decide) ?_
            refine lv_iconst (v := 2) hx hb dX7_settle_60 (by decide) ?_
            refine va_iast (n := 5) (f := x2_1 x2_0.toNatClampNeg) hx hb hK hP hD hS _ 0 (tm_L_get (tm_lt (n_8 c_2 c_4))) rfl (n_9 c_2 c_4) dX7_settle_61 (fun H locs hP hD hS => ?_)
            rw [tm_L_set (tm_lt (n_8 c_2 c_4))] at hP hD
            have hP : va_P G.1 vwCl ([tc_X7 a0 th ma rf lk pu tl lo, tc_X6 ma tk mo su lv si ga sl sc fh lh fo ee pn e0 e1 e2 e3 e4 e5 a0, tc_Z G e5 10 dn, tc_Jx4a65c lo mc ed (nI n)] ++ tm_L G ed n ad (vf_upd x2_1 x2_0.toNatClampNeg (upd (x2_1 x2_0.toNatClampNeg) (4 : Int32).toNatClampNeg 2))) H := hP
            have hD : va_D A ([tc_X7 a0 th ma rf lk pu tl lo, tc_X6 ma tk mo su lv si ga sl sc fh lh fo ee pn e0 e1 e2 e3 e4 e5 a0, tc_Z G e5 10 dn, tc_Jx4a65c lo mc ed (nI n)] ++ tm_L G ed n ad (vf_upd x2_1 x2_0.toNatClampNeg (upd (x2_1 x2_0.toNatClampNeg) (4 : Int32).toNatClampNeg 2))) := hD
            refine lv_iinc (v := x2_0 + 1) (lv' := [(1, .int (x2_0 + 1)), (0, .ref a0)]) hx hb dX7_settle_62 hl (k := 0) rfl rfl (by decide) rfl (fun ls hl => ?_)
            refine lv_goto (tgt := 2) hx hb dX7_settle_65 (by decide) ?_
            have hP9 := va_P.part (X := [tc_X7 a0 th ma rf lk pu tl lo, tc_X6 ma tk mo su lv si ga sl sc fh lh fo ee pn e0 e1 e2 e3 e4 e5 a0, tc_Z G e5 10 dn, tc_Jx4a65c lo mc ed (nI n)]) (cx := [tc_X7 a0 th ma rf lk pu tl lo, tc_X6 ma tk mo su lv si ga sl sc fh lh fo ee pn e0 e1 e2 e3 e4 e5 a0, tc_Z G e5 10 dn, tc_Jx4a65c lo mc ed (nI n)]) (pl := tm_L G ed n ad (vf_upd x2_1 x2_0.toNatClampNeg (upd (x2_1 x2_0.toNatClampNeg) (4 : Int32).toNatClampNeg 2))) hP [0, 1, 2, 3] rfl
            have hD9 := va_D.part (X := [tc_X7 a0 th ma rf lk pu tl lo, tc_X6 ma tk mo su lv si ga sl sc fh lh fo ee pn e0 e1 e2 e3 e4 e5 a0, tc_Z G e5 10 dn, tc_Jx4a65c lo mc ed (nI n)]) (cx := [tc_X7 a0 th ma rf lk pu tl lo, tc_X6 ma tk mo su lv si ga sl sc fh lh fo ee pn e0 e1 e2 e3 e4 e5 a0, tc_Z G e5 10 dn, tc_Jx4a65c lo mc ed (nI n)]) (pl := tm_L G ed n ad (vf_upd x2_1 x2_0.toNatClampNeg (upd (x2_1 x2_0.toNatClampNeg) (4 : Int32).toNatClampNeg 2))) hD [0, 1, 2, 3] (by decide) rfl
            exact ih (x2_0 + 1) (vf_upd x2_1 x2_0.toNatClampNeg (upd (x2_1 x2_0.toNatClampNeg) (4 : Int32).toNatClampNeg 2)) (n_13 c_2 c_4 c_10) (by rw [hE, f_X7_settle_2]; all_goals (rw [if_neg c_2]); all_goals (rw [if_neg c_4]); all_goals (rw [if_pos c_10]); all_goals rfl) _ _ hP9 hD9 hS _ (lv_sub hl [0, 1] rfl)
  have hP9 := va_P.part (X := [tc_X7 a0 th ma rf lk pu tl lo, tc_X6 ma tk mo su lv si ga sl sc fh lh fo ee pn e0 e1 e2 e3 e4 e5 a0, tc_Z G e5 10 dn, tc_Jx4a65c lo mc ed (nI n)]) (cx := [tc_X7 a0 th ma rf lk pu tl lo, tc_X6 ma tk mo su lv si ga sl sc fh lh fo ee pn e0 e1 e2 e3 e4 e5 a0, tc_Z G e5 10 dn, tc_Jx4a65c lo mc ed (nI n)]) (pl := tm_L G ed n ad rc) hP [0, 1, 2, 3] rfl
  have hD9 := va_D.part (X := [tc_X7 a0 th ma rf lk pu tl lo, tc_X6 ma tk mo su lv si ga sl sc fh lh fo ee pn e0 e1 e2 e3 e4 e5 a0, tc_Z G e5 10 dn, tc_Jx4a65c lo mc ed (nI n)]) (cx := [tc_X7 a0 th ma rf lk pu tl lo, tc_X6 ma tk mo su lv si ga sl sc fh lh fo ee pn e0 e1 e2 e3 e4 e5 a0, tc_Z G e5 10 dn, tc_Jx4a65c lo mc ed (nI n)]) (pl := tm_L G ed n ad rc) hD [0, 1, 2, 3] (by decide) rfl
  exact L_2 12 0 rc n_14 (by unfold f_X7_settle; all_goals rfl) _ _ hP9 hD9 hS _ (lv_sub hl [0, 1] rfl)
set_option maxHeartbeats 4000000 in
set_option maxRecDepth 100000 in
theorem c_X7_moon (l : Launch) (G : tm_G) (a0 : Nat) (ma : Nat) (lo : Nat) (e0 : Nat) (e1 : Nat) (e2 : Nat) (e3 : Nat) (e4 : Nat) (e5 : Nat) (sz : Nat) (th : Int32) (rf : Int32) (lk : Int32) (pu : Int32) (tl : UInt64) (tk : Int32) (mo : Int32) (su : UInt64) (lv : UInt64) (si : UInt32) (ga : Int32) (sl : Int32) (sc : Int32) (fh : Int32) (lh : Int32) (fo : UInt64) (ee : Int32) (pn : Int32) (p1 : Int32) : Met l yX7_moon wsX7_moon ({ frames := 1, cells := 0, slots := 0, locals := 22 }) (va_Pc [.ref a0, .int p1] (tm_B G [tc_X7 a0 th ma rf lk pu tl lo, tc_X6 ma tk mo su lv si ga sl sc fh lh fo ee pn e0 e1 e2 e3 e4 e5 a0] sz)) (va_Qi (fun (r : Int32) (u : Int32 × Int32) => (r, u) = f_X7_moon tk mo p1) (fun (u : Int32 × Int32) (t : State) => va_P G.1 vwCl [tc_X7 a0 u.1 ma rf lk pu tl lo, tc_X6 ma tk u.2 su lv si ga sl sc fh lh fo ee pn e0 e1 e2 e3 e4 e5 a0] t.heap ∧ va_D (va_A [tc_X7 a0 th ma rf lk pu tl lo, tc_X6 ma tk mo su lv si ga sl sc fh lh fo ee pn e0 e1 e2 e3 e4 e5 a0] sz) [tc_X7 a0 u.1 ma rf lk pu tl lo, tc_X6 ma tk u.2 su lv si ga sl sc fh lh fo ee pn e0 e1 e2 e3 e4 e5 a0]) (va_A [tc_X7 a0 th ma rf lk pu tl lo, tc_X6 ma tk mo su lv si ga sl sc fh lh fo ee pn e0 e1 e2 e3 e4 e5 a0] sz)) 0 0 (va_A [tc_X7 a0 th ma rf lk pu tl lo, tc_X6 ma tk mo su lv si ga sl sc fh lh fo ee pn e0 e1 e2 e3 e4 e5 a0] sz) := by
  refine Met.ofW (cc := cX7_moon) (maxL := 2) (ret := (some .int)) (by decide) rfl ?_
  intro p e s m args below meth c s₁ B hml hv
  obtain ⟨rfl, hsz, hP, hK, hD0, hN, hV⟩ := hv
  have hx := B.exec
  have hb := B.bytes
  have hr := B.returns
  have hts := atoms_spec (ws := wsX7_moon) B.pre
  have hown : s.vm.findClass RX7 = some m.cls := findClass_of_methodNamed B.named
  have hlocks := B.notSynchronized
  subst hsz
  have hiX6 : ∀ w ∈ u_ws RX6 TX6 20, w ∈ wsX7_moon := fun _ h => List.mem_cons_of_mem _ (List.mem_append_right _ h)
  have hiX7 : ∀ w ∈ u_ws RX7 TX7 7, w ∈ wsX7_moon := fun _ h => List.mem_cons_of_mem _ (List.mem_append_left _ (List.mem_append_right _ h))
  have hD := hD0.self (sz := s.heap.size)
  generalize hAe : va_A [tc_X7 a0 th ma rf lk pu tl lo, tc_X6 ma tk mo su lv si ga sl sc fh lh fo ee pn e0 e1 e2 e3 e4 e5 a0] s.heap.size = A at hD hV ⊢
  have hA : ∀ q : Nat, s.heap.size ≤ q → A q := fun q h => by rw [← hAe]; exact Or.inr h
  have hS : va_S A s.heap s.heap [] := va_S.rf
  have hl := lv_entry ([.ref a0, .int p1]) (n := 2) (Nat.le_of_ble_eq_true rfl)
  rw [lg_entry_eq]
  generalize (lg_sl ([.ref a0, .int p1]) ++ List.replicate (2 - (lg_sl ([.ref a0, .int p1])).length) Slot.unset).toArray = ls at hl ⊢
  have hl : lv_has ls 2 [(0, .ref a0), (1, .int p1)] := hl
  refine lv_aload_n hx hb dX7_moon_0 rfl (lv_at hl 0 rfl) ?_
  refine lv_iconst (v := 0) hx hb dX7_moon_1 (by decide) ?_
  refine va_put (D := G.1) (ci := 8) (v := .int 0) (ty := .int) (C := RX7) (T := TX7) (N := 7) hx hb hts hiX7 tyX7 tyX7_ok nmX7 hown hK hP hD hS 0 rfl rfl 0 (by decide) (hts (.fieldLink RX7 25 "TideMillModel" "thrown" "I") (List.mem_of_getElem? (i := 1) rfl)) (fun _ h9 => h9) rfl (by decide +kernel) rfl rfl (Nat.le_of_ble_eq_true rfl) dX7_moon_2 (fun H locs hP hD hS => ?_)
  have hP : va_P G.1 vwCl [tc_X7 a0 0 ma rf lk pu tl lo, tc_X6 ma tk mo su lv si ga sl sc fh lh fo ee pn e0 e1 e2 e3 e4 e5 a0] H := hP
  have hD : va_D A [tc_X7 a0 0 ma rf lk pu tl lo, tc_X6 ma tk mo su lv si ga sl sc fh lh fo ee pn e0 e1 e2 e3 e4 e5 a0] := hD
  refine lv_iload_n hx hb dX7_moon_5 rfl (lv_at hl 1 rfl) ?_
  refine lv_iconst (v := 0) hx hb dX7_moon_6 (by decide) ?_
  refine lv_bipush (v := 29) hx hb dX7_moon_7 (by decide) ?_
  have hPc := hP.sub (ws' := []) [] rfl
  have hDc := hD.sub (ws' := []) [] (by decide) rfl
  have hFc := va_free (wc := []) hD hS hA [] rfl
  refine va_calli (va_runS (As := [.int p1, .int 0, .int 29]) (rest := []) ⟨hx, hb, hml, hown, hts⟩ (c_X7_in l G  H.size p1 0 29 ) (cwS 3 hts gX7_moon_X7_in rfl rfl rfl (by decide +kernel) ⟨(Nat.le_of_ble_eq_true rfl), (Nat.le_of_ble_eq_true rfl)⟩) (tm_preS hK hN hV hS hPc hDc hFc) rfl rfl hl.1 rfl (lv_room (Nat.le_of_ble_eq_true rfl)) dX7_moon_9 ⟨(Nat.le_of_ble_eq_true rfl), (Nat.le_of_ble_eq_true rfl)⟩) hS (fun q _ h => hFc q h) hFc (fun r_1 u t H locs ht hvm hw_1 hB hz1 hk1 hS => ?_)
  obtain ⟨hP1, hD1⟩ := hB
  rw [ht] at hP1
  try dsimp only at hw_1
  obtain ⟨hP, hD⟩ := va_join (wr := [tc_X7 a0 0 ma rf lk pu tl lo, tc_X6 ma tk mo su lv si ga sl sc fh lh fo ee pn e0 e1 e2 e3 e4 e5 a0]) (w1 := []) hP hD [] [0, 1] rfl rfl (by decide) (by decide) hk1 hFc hP1 hD1
  have hP : va_P G.1 vwCl [tc_X7 a0 0 ma rf lk pu tl lo, tc_X6 ma tk mo su lv si ga sl sc fh lh fo ee pn e0 e1 e2 e3 e4 e5 a0] H := hP
  have hD : va_D A [tc_X7 a0 0 ma rf lk pu tl lo, tc_X6 ma tk mo su lv si ga sl sc fh lh fo ee pn e0 e1 e2 e3 e4 e5 a0] := hD
  subst r_1
  refine lv_if_ne (tgt := 21) hx hb dX7_moon_12 (by decide) (fun c_2 => ?_) (fun c_2 => ?_)
  · refine lv_aload_n hx hb dX7_moon_21 rfl (lv_at hl 0 rfl) ?_
    refine va_get (D := G.1) (ci := 8) (v := .ref ma) (C := RX7) (T := TX7) (N := 7) hx hb hts hiX7 hown hK hP 0 rfl rfl 1 (by decide) (hts (.fieldLink RX7 12 "TideMillModel" "mill" "LTideMillModel$Mill;") (List.mem_of_getElem? (i := 2) rfl)) (fun _ h9 => h9) rfl dX7_moon_22 ?_
    refine lv_iload_n hx hb dX7_moon_25 rfl (lv_at hl 1 rfl) ?_
    refine va_put (D := G.1) (ci := 7) (v := .int p1) (ty := .int) (C := RX6) (T := TX6) (N := 20) hx hb hts hiX6 tyX6 tyX6_ok nmX6 hown hK hP hD hS 1 rfl rfl 1 (by decide) (hts (.fieldLink RX7 56 "TideMillModel$Mill" "moon" "I") (List.mem_of_getElem? (i := 3) rfl)) (fun _ h9 => h9) rfl (by decide +kernel) rfl rfl (Nat.le_of_ble_eq_true rfl) dX7_moon_26 (fun H locs hP hD hS => ?_)
    have hP : va_P G.1 vwCl [tc_X7 a0 0 ma rf lk pu tl lo, tc_X6 ma tk p1 su lv si ga sl sc fh lh fo ee pn e0 e1 e2 e3 e4 e5 a0] H := hP
    have hD : va_D A [tc_X7 a0 0 ma rf lk pu tl lo, tc_X6 ma tk p1 su lv si ga sl sc fh lh fo ee pn e0 e1 e2 e3 e4 e5 a0] := hD
    refine lv_aload_n hx hb dX7_moon_29 rfl (lv_at hl 0 rfl) ?_
    refine va_get (D := G.1) (ci := 8) (v := .ref ma) (C := RX7) (T := TX7) (N := 7) hx hb hts hiX7 hown hK hP 0 rfl rfl 1 (by decide) (hts (.fieldLink RX7 12 "TideMillModel" "mill" "LTideMillModel$Mill;") (List.mem_of_getElem? (i := 2) rfl)) (fun _ h9 => h9) rfl dX7_moon_30 ?_
    refine lv_aload_n hx hb dX7_moon_33 rfl (lv_at hl 0 rfl) ?_
    refine va_get (D := G.1) (ci := 8) (v := .ref ma) (C := RX7) (T := TX7) (N := 7) hx hb hts hiX7 hown hK hP 0 rfl rfl 1 (by decide) (hts (.fieldLink RX7 12 "TideMillModel" "mill" "LTideMillModel$Mill;") (List.mem_of_getElem? (i := 2) rfl)) (fun _ h9 => h9) rfl dX7_moon_34 ?_
    refine va_get (D := G.1) (ci := 7) (v := .int tk) (C := RX6) (T := TX6) (N := 20) hx hb hts hiX6 hown hK hP 1 rfl rfl 0 (by decide) (hts (.fieldLink RX7 59 "TideMillModel$Mill" "tick" "I") (List.mem_of_getElem? (i := 4) rfl)) (fun _ h9 => h9) rfl dX7_moon_37 ?_
    have hPc := hP.sub (ws' := [tc_X6 ma tk p1 su lv si ga sl sc fh lh fo ee pn e0 e1 e2 e3 e4 e5 a0]) [1] rfl
    have hDc := hD.sub (ws' := [tc_X6 ma tk p1 su lv si ga sl sc fh lh fo ee pn e0 e1 e2 e3 e4 e5 a0]) [1] (by decide) rfl
    have hFc := va_free (wc := [tc_X6 ma tk p1 su lv si ga sl sc fh lh fo ee pn e0 e1 e2 e3 e4 e5 a0]) hD hS hA [1] rfl
    refine va_calli (va_runV (As := [.int tk]) (rest := []) ⟨hx, hb, hml, hown, hts⟩ (c_X6_age l G ma e0 e1 e2 e3 e4 e5 a0 H.size tk p1 su lv si ga sl sc fh lh fo ee pn tk ) (cwV 1 hts gX7_moon_X6_age rfl rfl rfl (by decide +kernel) ⟨(Nat.le_of_ble_eq_true rfl), (Nat.le_of_ble_eq_true rfl)⟩) (tm_preV hK hN hV hS hPc hDc hFc (va_recv hK hPc (ci := 7) (q0 := 0) rfl rfl)) rfl rfl hl.1 rfl (lv_room (Nat.le_of_ble_eq_true rfl)) dX7_moon_40 ⟨(Nat.le_of_ble_eq_true rfl), (Nat.le_of_ble_eq_true rfl)⟩) hS (fun q _ h => hFc q h) hFc (fun r_3 u t H locs ht hvm hw_3 hB hz1 hk1 hS => ?_)
    obtain ⟨hP1, hD1⟩ := hB
    rw [ht] at hP1
    try dsimp only at hw_3
    obtain ⟨hP, hD⟩ := va_join (wr := [tc_X7 a0 0 ma rf lk pu tl lo]) (w1 := [tc_X6 ma tk p1 su lv si ga sl sc fh lh fo ee pn e0 e1 e2 e3 e4 e5 a0]) hP hD [1] [0] rfl rfl (by decide) (by decide) hk1 hFc hP1 hD1
    have hP : va_P G.1 vwCl [tc_X7 a0 0 ma rf lk pu tl lo, tc_X6 ma tk p1 su lv si ga sl sc fh lh fo ee pn e0 e1 e2 e3 e4 e5 a0] H := hP
    have hD : va_D A [tc_X7 a0 0 ma rf lk pu tl lo, tc_X6 ma tk p1 su lv si ga sl sc fh lh fo ee pn e0 e1 e2 e3 e4 e5 a0] := hD
    subst r_3
    have hP9 := hP.sub (ws' := [tc_X7 a0 0 ma rf lk pu tl lo, tc_X6 ma tk p1 su lv si ga sl sc fh lh fo ee pn e0 e1 e2 e3 e4 e5 a0]) [0, 1] rfl
    have hD9 := hD.sub (ws' := [tc_X7 a0 0 ma rf lk pu tl lo, tc_X6 ma tk p1 su lv si ga sl sc fh lh fo ee pn e0 e1 e2 e3 e4 e5 a0]) [0, 1] (by decide) rfl
    exact W.iret (v := f_X6_age p1 tk) hx hb hr (fun t ht hW => ⟨⟨f_X6_age p1 tk, (0, p1), rfl, by unfold f_X7_moon; all_goals (rw [if_neg c_2]); all_goals rfl, by rw [ht]; exact hP9, hD9⟩, hS.F ht⟩) hS.2.2 dX7_moon_43
  · refine lv_aload_n hx hb dX7_moon_15 rfl (lv_at hl 0 rfl) ?_
    refine lv_iconst (v := 1) hx hb dX7_moon_16 (by decide) ?_
    have hPc := hP.sub (ws' := [tc_X7 a0 0 ma rf lk pu tl lo]) [0] rfl
    have hDc := hD.sub (ws' := [tc_X7 a0 0 ma rf lk pu tl lo]) [0] (by decide) rfl
    have hFc := va_free (wc := [tc_X7 a0 0 ma rf lk pu tl lo]) hD hS hA [0] rfl
    refine va_calli (va_runV (As := [.int 1]) (rest := []) ⟨hx, hb, hml, hown, hts⟩ (c_X7_no l G a0 ma lo H.size 0 rf lk pu tl 1 ) (cwV 1 hts gX7_moon_X7_no rfl rfl rfl (by decide +kernel) ⟨(Nat.le_of_ble_eq_true rfl), (Nat.le_of_ble_eq_true rfl)⟩) (tm_preV hK hN hV hS hPc hDc hFc (va_recv hK hPc (ci := 8) (q0 := 0) rfl rfl)) rfl rfl hl.1 rfl (lv_room (Nat.le_of_ble_eq_true rfl)) dX7_moon_17 ⟨(Nat.le_of_ble_eq_true rfl), (Nat.le_of_ble_eq_true rfl)⟩) hS (fun q _ h => hFc q h) hFc (fun r_4 u t H locs ht hvm hw_4 hB hz1 hk1 hS => ?_)
    obtain ⟨u_5, rfl⟩ : ∃ z, z = u := ⟨_, rfl⟩
    obtain ⟨hP1, hD1⟩ := hB
    rw [ht] at hP1
    try dsimp only at hw_4
    obtain ⟨hP, hD⟩ := va_join (wr := [tc_X6 ma tk mo su lv si ga sl sc fh lh fo ee pn e0 e1 e2 e3 e4 e5 a0]) (w1 := [tc_X7 a0 u_5 ma rf lk pu tl lo]) hP hD [0] [1] rfl rfl (by decide) (by decide) hk1 hFc hP1 hD1
    have hP : va_P G.1 vwCl [tc_X6 ma tk mo su lv si ga sl sc fh lh fo ee pn e0 e1 e2 e3 e4 e5 a0, tc_X7 a0 u_5 ma rf lk pu tl lo] H := hP
    have hD : va_D A [tc_X6 ma tk mo su lv si ga sl sc fh lh fo ee pn e0 e1 e2 e3 e4 e5 a0, tc_X7 a0 u_5 ma rf lk pu tl lo] := hD
    have hP9 := hP.sub (ws' := [tc_X7 a0 u_5 ma rf lk pu tl lo, tc_X6 ma tk mo su lv si ga sl sc fh lh fo ee pn e0 e1 e2 e3 e4 e5 a0]) [1, 0] rfl
    have hD9 := hD.sub (ws' := [tc_X7 a0 u_5 ma rf lk pu tl lo, tc_X6 ma tk mo su lv si ga sl sc fh lh fo ee pn e0 e1 e2 e3 e4 e5 a0]) [1, 0] (by decide) rfl
    exact W.iret (v := r_4) hx hb hr (fun t ht hW => ⟨⟨r_4, (u_5, mo), rfl, by unfold f_X7_moon; all_goals (rw [if_pos c_2]); all_goals (rw [← hw_4]); all_goals (dsimp only); all_goals rfl, by rw [ht]; exact hP9, hD9⟩, hS.F ht⟩) hS.2.2 dX7_moon_20
set_option maxHeartbeats 4000000 in
set_option maxRecDepth 100000 in
theorem c_X7_surge (l : Launch) (G : tm_G) (a0 : Nat) (ma : Nat) (lo : Nat) (e0 : Nat) (e1 : Nat) (e2 : Nat) (e3 : Nat) (e4 : Nat) (e5 : Nat) (sz : Nat) (th : Int32) (rf : Int32) (lk : Int32) (pu : Int32) (tl : UInt64) (tk : Int32) (mo : Int32) (su : UInt64) (lv : UInt64) (si : UInt32) (ga : Int32) (sl : Int32) (sc : Int32) (fh : Int32) (lh : Int32) (fo : UInt64) (ee : Int32) (pn : Int32) (p1 : Int32) (hn : n_X7_surge tk mo p1) : Met l yX7_surge wsX7_surge ({ frames := 4, cells := 0, slots := 0, locals := 94 }) (va_Pc [.ref a0, .int p1] (tm_B G [tc_X7 a0 th ma rf lk pu tl lo, tc_X6 ma tk mo su lv si ga sl sc fh lh fo ee pn e0 e1 e2 e3 e4 e5 a0] sz)) (va_Qd (fun (r : UInt64) (u : Int32 × UInt64) => (r, u) = f_X7_surge tk mo su p1) (fun (u : Int32 × UInt64) (t : State) => va_P G.1 vwCl [tc_X7 a0 u.1 ma rf lk pu tl lo, tc_X6 ma tk mo u.2 lv si ga sl sc fh lh fo ee pn e0 e1 e2 e3 e4 e5 a0] t.heap ∧ va_D (va_A [tc_X7 a0 th ma rf lk pu tl lo, tc_X6 ma tk mo su lv si ga sl sc fh lh fo ee pn e0 e1 e2 e3 e4 e5 a0] sz) [tc_X7 a0 u.1 ma rf lk pu tl lo, tc_X6 ma tk mo u.2 lv si ga sl sc fh lh fo ee pn e0 e1 e2 e3 e4 e5 a0]) (va_A [tc_X7 a0 th ma rf lk pu tl lo, tc_X6 ma tk mo su lv si ga sl sc fh lh fo ee pn e0 e1 e2 e3 e4 e5 a0] sz)) 0 0 (va_A [tc_X7 a0 th ma rf lk pu tl lo, tc_X6 ma tk mo su lv si ga sl sc fh lh fo ee pn e0 e1 e2 e3 e4 e5 a0] sz) := by
  refine Met.ofW (cc := cX7_surge) (maxL := 2) (ret := (some .double)) (by decide) rfl ?_
  intro p e s m args below meth c s₁ B hml hv
  obtain ⟨rfl, hsz, hP, hK, hD0, hN, hV⟩ := hv
  have hx := B.exec
  have hb := B.bytes
  have hr := B.returns
  have hts := atoms_spec (ws := wsX7_surge) B.pre
  have hown : s.vm.findClass RX7 = some m.cls := findClass_of_methodNamed B.named
  have hlocks := B.notSynchronized
  subst hsz
  obtain ⟨n_3, n_4⟩ := hn
  have hiX6 : ∀ w ∈ u_ws RX6 TX6 20, w ∈ wsX7_surge := fun _ h => List.mem_cons_of_mem _ (List.mem_append_right _ h)
  have hiX7 : ∀ w ∈ u_ws RX7 TX7 7, w ∈ wsX7_surge := fun _ h => List.mem_cons_of_mem _ (List.mem_append_left _ (List.mem_append_right _ h))
  have hD := hD0.self (sz := s.heap.size)
  generalize hAe : va_A [tc_X7 a0 th ma rf lk pu tl lo, tc_X6 ma tk mo su lv si ga sl sc fh lh fo ee pn e0 e1 e2 e3 e4 e5 a0] s.heap.size = A at hD hV ⊢
  have hA : ∀ q : Nat, s.heap.size ≤ q → A q := fun q h => by rw [← hAe]; exact Or.inr h
  have hS : va_S A s.heap s.heap [] := va_S.rf
  have hl := lv_entry ([.ref a0, .int p1]) (n := 2) (Nat.le_of_ble_eq_true rfl)
  rw [lg_entry_eq]
  generalize (lg_sl ([.ref a0, .int p1]) ++ List.replicate (2 - (lg_sl ([.ref a0, .int p1])).length) Slot.unset).toArray = ls at hl ⊢
  have hl : lv_has ls 2 [(0, .ref a0), (1, .int p1)] := hl
  refine lv_aload_n hx hb dX7_surge_0 rfl (lv_at hl 0 rfl) ?_
  refine lv_iconst (v := 0) hx hb dX7_surge_1 (by decide) ?_
  refine va_put (D := G.1) (ci := 8) (v := .int 0) (ty := .int) (C := RX7) (T := TX7) (N := 7) hx hb hts hiX7 tyX7 tyX7_ok nmX7 hown hK hP hD hS 0 rfl rfl 0 (by decide) (hts (.fieldLink RX7 25 "TideMillModel" "thrown" "I") (List.mem_of_getElem? (i := 1) rfl)) (fun _ h9 => h9) rfl (by decide +kernel) rfl rfl (Nat.le_of_ble_eq_true rfl) dX7_surge_2 (fun H locs hP hD hS => ?_)
  have hP : va_P G.1 vwCl [tc_X7 a0 0 ma rf lk pu tl lo, tc_X6 ma tk mo su lv si ga sl sc fh lh fo ee pn e0 e1 e2 e3 e4 e5 a0] H := hP
  have hD : va_D A [tc_X7 a0 0 ma rf lk pu tl lo, tc_X6 ma tk mo su lv si ga sl sc fh lh fo ee pn e0 e1 e2 e3 e4 e5 a0] := hD
  refine lv_iload_n hx hb dX7_surge_5 rfl (lv_at hl 1 rfl) ?_
  refine lv_bipush (v := (-8)) hx hb dX7_surge_6 (by decide) ?_
  refine lv_bipush (v := 8) hx hb dX7_surge_8 (by decide) ?_
  have hPc := hP.sub (ws' := []) [] rfl
  have hDc := hD.sub (ws' := []) [] (by decide) rfl
  have hFc := va_free (wc := []) hD hS hA [] rfl
  refine va_calli (va_runS (As := [.int p1, .int (-8), .int 8]) (rest := []) ⟨hx, hb, hml, hown, hts⟩ (c_X7_in l G  H.size p1 (-8) 8 ) (cwS 3 hts gX7_surge_X7_in rfl rfl rfl (by decide +kernel) ⟨(Nat.le_of_ble_eq_true rfl), (Nat.le_of_ble_eq_true rfl)⟩) (tm_preS hK hN hV hS hPc hDc hFc) rfl rfl hl.1 rfl (lv_room (Nat.le_of_ble_eq_true rfl)) dX7_surge_10 ⟨(Nat.le_of_ble_eq_true rfl), (Nat.le_of_ble_eq_true rfl)⟩) hS (fun q _ h => hFc q h) hFc (fun r_1 u t H locs ht hvm hw_1 hB hz1 hk1 hS => ?_)
  obtain ⟨hP1, hD1⟩ := hB
  rw [ht] at hP1
  try dsimp only at hw_1
  obtain ⟨hP, hD⟩ := va_join (wr := [tc_X7 a0 0 ma rf lk pu tl lo, tc_X6 ma tk mo su lv si ga sl sc fh lh fo ee pn e0 e1 e2 e3 e4 e5 a0]) (w1 := []) hP hD [] [0, 1] rfl rfl (by decide) (by decide) hk1 hFc hP1 hD1
  have hP : va_P G.1 vwCl [tc_X7 a0 0 ma rf lk pu tl lo, tc_X6 ma tk mo su lv si ga sl sc fh lh fo ee pn e0 e1 e2 e3 e4 e5 a0] H := hP
  have hD : va_D A [tc_X7 a0 0 ma rf lk pu tl lo, tc_X6 ma tk mo su lv si ga sl sc fh lh fo ee pn e0 e1 e2 e3 e4 e5 a0] := hD
  subst r_1
  refine lv_if_ne (tgt := 23) hx hb dX7_surge_13 (by decide) (fun c_2 => ?_) (fun c_2 => ?_)
  · refine lv_aload_n hx hb dX7_surge_23 rfl (lv_at hl 0 rfl) ?_
    refine va_get (D := G.1) (ci := 8) (v := .ref ma) (C := RX7) (T := TX7) (N := 7) hx hb hts hiX7 hown hK hP 0 rfl rfl 1 (by decide) (hts (.fieldLink RX7 12 "TideMillModel" "mill" "LTideMillModel$Mill;") (List.mem_of_getElem? (i := 2) rfl)) (fun _ h9 => h9) rfl dX7_surge_24 ?_
    refine lv_iload_n hx hb dX7_surge_27 rfl (lv_at hl 1 rfl) ?_
    refine lv_i2d hx hb dX7_surge_28 ?_
    refine lv_ldc2d hx hb hown (hts (.constantDouble RX7 65 (4616189618054758400)) (List.mem_of_getElem? (i := 3) rfl)) dX7_surge_29 ?_
    refine lv_ddiv hx hb dX7_surge_32 (n_3 c_2) ?_
    refine va_put (D := G.1) (ci := 7) (v := .double (FP.ddiv (FP.i2d p1) 4616189618054758400)) (ty := .double) (C := RX6) (T := TX6) (N := 20) hx hb hts hiX6 tyX6 tyX6_ok nmX6 hown hK hP hD hS 1 rfl rfl 2 (by decide) (hts (.fieldLink RX7 67 "TideMillModel$Mill" "surge" "D") (List.mem_of_getElem? (i := 4) rfl)) (fun _ h9 => h9) rfl (by decide +kernel) rfl rfl (Nat.le_of_ble_eq_true rfl) dX7_surge_33 (fun H locs hP hD hS => ?_)
    have hP : va_P G.1 vwCl [tc_X7 a0 0 ma rf lk pu tl lo, tc_X6 ma tk mo (FP.ddiv (FP.i2d p1) 4616189618054758400) lv si ga sl sc fh lh fo ee pn e0 e1 e2 e3 e4 e5 a0] H := hP
    have hD : va_D A [tc_X7 a0 0 ma rf lk pu tl lo, tc_X6 ma tk mo (FP.ddiv (FP.i2d p1) 4616189618054758400) lv si ga sl sc fh lh fo ee pn e0 e1 e2 e3 e4 e5 a0] := hD
    refine lv_aload_n hx hb dX7_surge_36 rfl (lv_at hl 0 rfl) ?_
    refine va_get (D := G.1) (ci := 8) (v := .ref ma) (C := RX7) (T := TX7) (N := 7) hx hb hts hiX7 hown hK hP 0 rfl rfl 1 (by decide) (hts (.fieldLink RX7 12 "TideMillModel" "mill" "LTideMillModel$Mill;") (List.mem_of_getElem? (i := 2) rfl)) (fun _ h9 => h9) rfl dX7_surge_37 ?_
    refine lv_aload_n hx hb dX7_surge_40 rfl (lv_at hl 0 rfl) ?_
    refine va_get (D := G.1) (ci := 8) (v := .ref ma) (C := RX7) (T := TX7) (N := 7) hx hb hts hiX7 hown hK hP 0 rfl rfl 1 (by decide) (hts (.fieldLink RX7 12 "TideMillModel" "mill" "LTideMillModel$Mill;") (List.mem_of_getElem? (i := 2) rfl)) (fun _ h9 => h9) rfl dX7_surge_41 ?_
    refine va_get (D := G.1) (ci := 7) (v := .int tk) (C := RX6) (T := TX6) (N := 20) hx hb hts hiX6 hown hK hP 1 rfl rfl 0 (by decide) (hts (.fieldLink RX7 59 "TideMillModel$Mill" "tick" "I") (List.mem_of_getElem? (i := 5) rfl)) (fun _ h9 => h9) rfl dX7_surge_44 ?_
    have hPc := hP.sub (ws' := [tc_X6 ma tk mo (FP.ddiv (FP.i2d p1) 4616189618054758400) lv si ga sl sc fh lh fo ee pn e0 e1 e2 e3 e4 e5 a0]) [1] rfl
    have hDc := hD.sub (ws' := [tc_X6 ma tk mo (FP.ddiv (FP.i2d p1) 4616189618054758400) lv si ga sl sc fh lh fo ee pn e0 e1 e2 e3 e4 e5 a0]) [1] (by decide) rfl
    have hFc := va_free (wc := [tc_X6 ma tk mo (FP.ddiv (FP.i2d p1) 4616189618054758400) lv si ga sl sc fh lh fo ee pn e0 e1 e2 e3 e4 e5 a0]) hD hS hA [1] rfl
    refine va_calld (va_runV (As := [.int tk]) (rest := []) ⟨hx, hb, hml, hown, hts⟩ (c_X6_sea l G ma e0 e1 e2 e3 e4 e5 a0 H.size tk mo (FP.ddiv (FP.i2d p1) 4616189618054758400) lv si ga sl sc fh lh fo ee pn tk (n_4 c_2)) (cwV 1 hts gX7_surge_X6_sea rfl rfl rfl (by decide +kernel) ⟨(Nat.le_of_ble_eq_true rfl), (Nat.le_of_ble_eq_true rfl)⟩) (tm_preV hK hN hV hS hPc hDc hFc (va_recv hK hPc (ci := 7) (q0 := 0) rfl rfl)) rfl rfl hl.1 rfl (lv_room (Nat.le_of_ble_eq_true rfl)) dX7_surge_47 ⟨(Nat.le_of_ble_eq_true rfl), (Nat.le_of_ble_eq_true rfl)⟩) hS (fun q _ h => hFc q h) hFc (fun r_5 u t H locs ht hvm hw_5 hB hz1 hk1 hS => ?_)
    obtain ⟨hP1, hD1⟩ := hB
    rw [ht] at hP1
    try dsimp only at hw_5
    obtain ⟨hP, hD⟩ := va_join (wr := [tc_X7 a0 0 ma rf lk pu tl lo]) (w1 := [tc_X6 ma tk mo (FP.ddiv (FP.i2d p1) 4616189618054758400) lv si ga sl sc fh lh fo ee pn e0 e1 e2 e3 e4 e5 a0]) hP hD [1] [0] rfl rfl (by decide) (by decide) hk1 hFc hP1 hD1
    have hP : va_P G.1 vwCl [tc_X7 a0 0 ma rf lk pu tl lo, tc_X6 ma tk mo (FP.ddiv (FP.i2d p1) 4616189618054758400) lv si ga sl sc fh lh fo ee pn e0 e1 e2 e3 e4 e5 a0] H := hP
    have hD : va_D A [tc_X7 a0 0 ma rf lk pu tl lo, tc_X6 ma tk mo (FP.ddiv (FP.i2d p1) 4616189618054758400) lv si ga sl sc fh lh fo ee pn e0 e1 e2 e3 e4 e5 a0] := hD
    subst r_5
    have hP9 := hP.sub (ws' := [tc_X7 a0 0 ma rf lk pu tl lo, tc_X6 ma tk mo (FP.ddiv (FP.i2d p1) 4616189618054758400) lv si ga sl sc fh lh fo ee pn e0 e1 e2 e3 e4 e5 a0]) [0, 1] rfl
    have hD9 := hD.sub (ws' := [tc_X7 a0 0 ma rf lk pu tl lo, tc_X6 ma tk mo (FP.ddiv (FP.i2d p1) 4616189618054758400) lv si ga sl sc fh lh fo ee pn e0 e1 e2 e3 e4 e5 a0]) [0, 1] (by decide) rfl
    exact W.dret (v := f_X6_sea mo (FP.ddiv (FP.i2d p1) 4616189618054758400) tk) hx hb hr (fun t ht hW => ⟨⟨f_X6_sea mo (FP.ddiv (FP.i2d p1) 4616189618054758400) tk, (0, FP.ddiv (FP.i2d p1) 4616189618054758400), rfl, by unfold f_X7_surge; all_goals (rw [if_neg c_2]); all_goals rfl, by rw [ht]; exact hP9, hD9⟩, hS.F ht⟩) hS.2.2 dX7_surge_50
  · refine lv_aload_n hx hb dX7_surge_16 rfl (lv_at hl 0 rfl) ?_
    refine lv_iconst (v := 1) hx hb dX7_surge_17 (by decide) ?_
    have hPc := hP.sub (ws' := [tc_X7 a0 0 ma rf lk pu tl lo]) [0] rfl
    have hDc := hD.sub (ws' := [tc_X7 a0 0 ma rf lk pu tl lo]) [0] (by decide) rfl
    have hFc := va_free (wc := [tc_X7 a0 0 ma rf lk pu tl lo]) hD hS hA [0] rfl
    refine va_calli (va_runV (As := [.int 1]) (rest := []) ⟨hx, hb, hml, hown, hts⟩ (c_X7_no l G a0 ma lo H.size 0 rf lk pu tl 1 ) (cwV 1 hts gX7_surge_X7_no rfl rfl rfl (by decide +kernel) ⟨(Nat.le_of_ble_eq_true rfl), (Nat.le_of_ble_eq_true rfl)⟩) (tm_preV hK hN hV hS hPc hDc hFc (va_recv hK hPc (ci := 8) (q0 := 0) rfl rfl)) rfl rfl hl.1 rfl (lv_room (Nat.le_of_ble_eq_true rfl)) dX7_surge_18 ⟨(Nat.le_of_ble_eq_true rfl), (Nat.le_of_ble_eq_true rfl)⟩) hS (fun q _ h => hFc q h) hFc (fun r_6 u t H locs ht hvm hw_6 hB hz1 hk1 hS => ?_)
    obtain ⟨u_7, rfl⟩ : ∃ z, z = u := ⟨_, rfl⟩
    obtain ⟨hP1, hD1⟩ := hB
    rw [ht] at hP1
    try dsimp only at hw_6
    obtain ⟨hP, hD⟩ := va_join (wr := [tc_X6 ma tk mo su lv si ga sl sc fh lh fo ee pn e0 e1 e2 e3 e4 e5 a0]) (w1 := [tc_X7 a0 u_7 ma rf lk pu tl lo]) hP hD [0] [1] rfl rfl (by decide) (by decide) hk1 hFc hP1 hD1
    have hP : va_P G.1 vwCl [tc_X6 ma tk mo su lv si ga sl sc fh lh fo ee pn e0 e1 e2 e3 e4 e5 a0, tc_X7 a0 u_7 ma rf lk pu tl lo] H := hP
    have hD : va_D A [tc_X6 ma tk mo su lv si ga sl sc fh lh fo ee pn e0 e1 e2 e3 e4 e5 a0, tc_X7 a0 u_7 ma rf lk pu tl lo] := hD
    refine lv_i2d hx hb dX7_surge_21 ?_
    have hP9 := hP.sub (ws' := [tc_X7 a0 u_7 ma rf lk pu tl lo, tc_X6 ma tk mo su lv si ga sl sc fh lh fo ee pn e0 e1 e2 e3 e4 e5 a0]) [1, 0] rfl
    have hD9 := hD.sub (ws' := [tc_X7 a0 u_7 ma rf lk pu tl lo, tc_X6 ma tk mo su lv si ga sl sc fh lh fo ee pn e0 e1 e2 e3 e4 e5 a0]) [1, 0] (by decide) rfl
    exact W.dret (v := FP.i2d r_6) hx hb hr (fun t ht hW => ⟨⟨FP.i2d r_6, (u_7, su), rfl, by unfold f_X7_surge; all_goals (rw [if_pos c_2]); all_goals (rw [← hw_6]); all_goals (dsimp only); all_goals rfl, by rw [ht]; exact hP9, hD9⟩, hS.F ht⟩) hS.2.2 dX7_surge_22
set_option maxHeartbeats 4000000 in
set_option maxRecDepth 100000 in
theorem c_X7_gates (l : Launch) (G : tm_G) (a0 : Nat) (ma : Nat) (lo : Nat) (e0 : Nat) (e1 : Nat) (e2 : Nat) (e3 : Nat) (e4 : Nat) (e5 : Nat) (sz : Nat) (th : Int32) (rf : Int32) (lk : Int32) (pu : Int32) (tl : UInt64) (tk : Int32) (mo : Int32) (su : UInt64) (lv : UInt64) (si : UInt32) (ga : Int32) (sl : Int32) (sc : Int32) (fh : Int32) (lh : Int32) (fo : UInt64) (ee : Int32) (pn : Int32) (p1 : Int32) : Met l yX7_gates wsX7_gates ({ frames := 1, cells := 0, slots := 0, locals := 22 }) (va_Pc [.ref a0, .int p1] (tm_B G [tc_X7 a0 th ma rf lk pu tl lo, tc_X6 ma tk mo su lv si ga sl sc fh lh fo ee pn e0 e1 e2 e3 e4 e5 a0] sz)) (va_Qi (fun (r : Int32) (u : Int32 × Int32) => (r, u) = f_X7_gates lk ga p1) (fun (u : Int32 × Int32) (t : State) => va_P G.1 vwCl [tc_X7 a0 u.1 ma rf lk pu tl lo, tc_X6 ma tk mo su lv si u.2 sl sc fh lh fo ee pn e0 e1 e2 e3 e4 e5 a0] t.heap ∧ va_D (va_A [tc_X7 a0 th ma rf lk pu tl lo, tc_X6 ma tk mo su lv si ga sl sc fh lh fo ee pn e0 e1 e2 e3 e4 e5 a0] sz) [tc_X7 a0 u.1 ma rf lk pu tl lo, tc_X6 ma tk mo su lv si u.2 sl sc fh lh fo ee pn e0 e1 e2 e3 e4 e5 a0]) (va_A [tc_X7 a0 th ma rf lk pu tl lo, tc_X6 ma tk mo su lv si ga sl sc fh lh fo ee pn e0 e1 e2 e3 e4 e5 a0] sz)) 0 0 (va_A [tc_X7 a0 th ma rf lk pu tl lo, tc_X6 ma tk mo su lv si ga sl sc fh lh fo ee pn e0 e1 e2 e3 e4 e5 a0] sz) := by
  refine Met.ofW (cc := cX7_gates) (maxL := 3) (ret := (some .int)) (by decide) rfl ?_
  intro p e s m args below meth c s₁ B hml hv
  obtain ⟨rfl, hsz, hP, hK, hD0, hN, hV⟩ := hv
  have hx := B.exec
  have hb := B.bytes
  have hr := B.returns
  have hts := atoms_spec (ws := wsX7_gates) B.pre
  have hown : s.vm.findClass RX7 = some m.cls := findClass_of_methodNamed B.named
  have hlocks := B.notSynchronized
  subst hsz
  have hiX6 : ∀ w ∈ u_ws RX6 TX6 20, w ∈ wsX7_gates := fun _ h => List.mem_cons_of_mem _ (List.mem_append_right _ h)
  have hiX7 : ∀ w ∈ u_ws RX7 TX7 7, w ∈ wsX7_gates := fun _ h => List.mem_cons_of_mem _ (List.mem_append_left _ (List.mem_append_right _ h))
  have hD := hD0.self (sz := s.heap.size)
  generalize hAe : va_A [tc_X7 a0 th ma rf lk pu tl lo, tc_X6 ma tk mo su lv si ga sl sc fh lh fo ee pn e0 e1 e2 e3 e4 e5 a0] s.heap.size = A at hD hV ⊢
  have hA : ∀ q : Nat, s.heap.size ≤ q → A q := fun q h => by rw [← hAe]; exact Or.inr h
  have hS : va_S A s.heap s.heap [] := va_S.rf
  have hl := lv_entry ([.ref a0, .int p1]) (n := 3) (Nat.le_of_ble_eq_true rfl)
  rw [lg_entry_eq]
  generalize (lg_sl ([.ref a0, .int p1]) ++ List.replicate (3 - (lg_sl ([.ref a0, .int p1])).length) Slot.unset).toArray = ls at hl ⊢
  have hl : lv_has ls 3 [(0, .ref a0), (1, .int p1)] := hl
  refine lv_aload_n hx hb dX7_gates_0 rfl (lv_at hl 0 rfl) ?_
  refine lv_iconst (v := 0) hx hb dX7_gates_1 (by decide) ?_
  refine va_put (D := G.1) (ci := 8) (v := .int 0) (ty := .int) (C := RX7) (T := TX7) (N := 7) hx hb hts hiX7 tyX7 tyX7_ok nmX7 hown hK hP hD hS 0 rfl rfl 0 (by decide) (hts (.fieldLink RX7 25 "TideMillModel" "thrown" "I") (List.mem_of_getElem? (i := 1) rfl)) (fun _ h9 => h9) rfl (by decide +kernel) rfl rfl (Nat.le_of_ble_eq_true rfl) dX7_gates_2 (fun H locs hP hD hS => ?_)
  have hP : va_P G.1 vwCl [tc_X7 a0 0 ma rf lk pu tl lo, tc_X6 ma tk mo su lv si ga sl sc fh lh fo ee pn e0 e1 e2 e3 e4 e5 a0] H := hP
  have hD : va_D A [tc_X7 a0 0 ma rf lk pu tl lo, tc_X6 ma tk mo su lv si ga sl sc fh lh fo ee pn e0 e1 e2 e3 e4 e5 a0] := hD
  refine lv_iload_n hx hb dX7_gates_5 rfl (lv_at hl 1 rfl) ?_
  refine lv_iconst (v := 0) hx hb dX7_gates_6 (by decide) ?_
  refine lv_iconst (v := 3) hx hb dX7_gates_7 (by decide) ?_
  have hPc := hP.sub (ws' := []) [] rfl
  have hDc := hD.sub (ws' := []) [] (by decide) rfl
  have hFc := va_free (wc := []) hD hS hA [] rfl
  refine va_calli (va_runS (As := [.int p1, .int 0, .int 3]) (rest := []) ⟨hx, hb, hml, hown, hts⟩ (c_X7_in l G  H.size p1 0 3 ) (cwS 3 hts gX7_gates_X7_in rfl rfl rfl (by decide +kernel) ⟨(Nat.le_of_ble_eq_true rfl), (Nat.le_of_ble_eq_true rfl)⟩) (tm_preS hK hN hV hS hPc hDc hFc) rfl rfl hl.1 rfl (lv_room (Nat.le_of_ble_eq_true rfl)) dX7_gates_8 ⟨(Nat.le_of_ble_eq_true rfl), (Nat.le_of_ble_eq_true rfl)⟩) hS (fun q _ h => hFc q h) hFc (fun r_1 u t H locs ht hvm hw_1 hB hz1 hk1 hS => ?_)
  obtain ⟨hP1, hD1⟩ := hB
  rw [ht] at hP1
  try dsimp only at hw_1
  obtain ⟨hP, hD⟩ := va_join (wr := [tc_X7 a0 0 ma rf lk pu tl lo, tc_X6 ma tk mo su lv si ga sl sc fh lh fo ee pn e0 e1 e2 e3 e4 e5 a0]) (w1 := []) hP hD [] [0, 1] rfl rfl (by decide) (by decide) hk1 hFc hP1 hD1
  have hP : va_P G.1 vwCl [tc_X7 a0 0 ma rf lk pu tl lo, tc_X6 ma tk mo su lv si ga sl sc fh lh fo ee pn e0 e1 e2 e3 e4 e5 a0] H := hP
  have hD : va_D A [tc_X7 a0 0 ma rf lk pu tl lo, tc_X6 ma tk mo su lv si ga sl sc fh lh fo ee pn e0 e1 e2 e3 e4 e5 a0] := hD
  subst r_1
  refine lv_if_ne (tgt := 20) hx hb dX7_gates_11 (by decide) (fun c_2 => ?_) (fun c_2 => ?_)
  · refine lv_aload_n hx hb dX7_gates_20 rfl (lv_at hl 0 rfl) ?_
    refine va_get (D := G.1) (ci := 8) (v := .int lk) (C := RX7) (T := TX7) (N := 7) hx hb hts hiX7 hown hK hP 0 rfl rfl 3 (by decide) (hts (.fieldLink RX7 75 "TideMillModel" "isLocked" "Z") (List.mem_of_getElem? (i := 2) rfl)) (fun _ h9 => h9) rfl dX7_gates_21 ?_
    refine lv_if_eq (tgt := 33) hx hb dX7_gates_24 (by decide) (fun c_3 => ?_) (fun c_3 => ?_)
    · refine lv_aload_n hx hb dX7_gates_33 rfl (lv_at hl 0 rfl) ?_
      refine va_get (D := G.1) (ci := 8) (v := .ref ma) (C := RX7) (T := TX7) (N := 7) hx hb hts hiX7 hown hK hP 0 rfl rfl 1 (by decide) (hts (.fieldLink RX7 12 "TideMillModel" "mill" "LTideMillModel$Mill;") (List.mem_of_getElem? (i := 3) rfl)) (fun _ h9 => h9) rfl dX7_gates_34 ?_
      refine va_get (D := G.1) (ci := 7) (v := .int ga) (C := RX6) (T := TX6) (N := 20) hx hb hts hiX6 hown hK hP 1 rfl rfl 5 (by decide) (hts (.fieldLink RX7 79 "TideMillModel$Mill" "gates" "I") (List.mem_of_getElem? (i := 4) rfl)) (fun _ h9 => h9) rfl dX7_gates_37 ?_
      refine lv_istore_n (lv' := [(2, .int ga), (0, .ref a0), (1, .int p1)]) hx hb dX7_gates_40 rfl hl (by decide) rfl (fun ls hl => ?_)
      refine lv_aload_n hx hb dX7_gates_41 rfl (lv_at hl 1 rfl) ?_
      refine va_get (D := G.1) (ci := 8) (v := .ref ma) (C := RX7) (T := TX7) (N := 7) hx hb hts hiX7 hown hK hP 0 rfl rfl 1 (by decide) (hts (.fieldLink RX7 12 "TideMillModel" "mill" "LTideMillModel$Mill;") (List.mem_of_getElem? (i := 3) rfl)) (fun _ h9 => h9) rfl dX7_gates_42 ?_
      refine lv_iload_n hx hb dX7_gates_45 rfl (lv_at hl 2 rfl) ?_
      refine va_put (D := G.1) (ci := 7) (v := .int p1) (ty := .int) (C := RX6) (T := TX6) (N := 20) hx hb hts hiX6 tyX6 tyX6_ok nmX6 hown hK hP hD hS 1 rfl rfl 5 (by decide) (hts (.fieldLink RX7 79 "TideMillModel$Mill" "gates" "I") (List.mem_of_getElem? (i := 4) rfl)) (fun _ h9 => h9) rfl (by decide +kernel) rfl rfl (Nat.le_of_ble_eq_true rfl) dX7_gates_46 (fun H locs hP hD hS => ?_)
      have hP : va_P G.1 vwCl [tc_X7 a0 0 ma rf lk pu tl lo, tc_X6 ma tk mo su lv si p1 sl sc fh lh fo ee pn e0 e1 e2 e3 e4 e5 a0] H := hP
      have hD : va_D A [tc_X7 a0 0 ma rf lk pu tl lo, tc_X6 ma tk mo su lv si p1 sl sc fh lh fo ee pn e0 e1 e2 e3 e4 e5 a0] := hD
      refine lv_iload_n hx hb dX7_gates_49 rfl (lv_at hl 0 rfl) ?_
      have hP9 := hP.sub (ws' := [tc_X7 a0 0 ma rf lk pu tl lo, tc_X6 ma tk mo su lv si p1 sl sc fh lh fo ee pn e0 e1 e2 e3 e4 e5 a0]) [0, 1] rfl
      have hD9 := hD.sub (ws' := [tc_X7 a0 0 ma rf lk pu tl lo, tc_X6 ma tk mo su lv si p1 sl sc fh lh fo ee pn e0 e1 e2 e3 e4 e5 a0]) [0, 1] (by decide) rfl
      exact W.iret (v := ga) hx hb hr (fun t ht hW => ⟨⟨ga, (0, p1), rfl, by unfold f_X7_gates; all_goals (rw [if_neg c_2]); all_goals (rw [if_pos c_3]); all_goals rfl, by rw [ht]; exact hP9, hD9⟩, hS.F ht⟩) hS.2.2 dX7_gates_50
    · refine lv_aload_n hx hb dX7_gates_27 rfl (lv_at hl 0 rfl) ?_
      refine lv_iconst (v := 2) hx hb dX7_gates_28 (by decide) ?_
      have hPc := hP.sub (ws' := [tc_X7 a0 0 ma rf lk pu tl lo]) [0] rfl
      have hDc := hD.sub (ws' := [tc_X7 a0 0 ma rf lk pu tl lo]) [0] (by decide) rfl
      have hFc := va_free (wc := [tc_X7 a0 0 ma rf lk pu tl lo]) hD hS hA [0] rfl
      refine va_calli (va_runV (As := [.int 2]) (rest := []) ⟨hx, hb, hml, hown, hts⟩ (c_X7_no l G a0 ma lo H.size 0 rf lk pu tl 2 ) (cwV 1 hts gX7_gates_X7_no rfl rfl rfl (by decide +kernel) ⟨(Nat.le_of_ble_eq_true rfl), (Nat.le_of_ble_eq_true rfl)⟩) (tm_preV hK hN hV hS hPc hDc hFc (va_recv hK hPc (ci := 8) (q0 := 0) rfl rfl)) rfl rfl hl.1 rfl (lv_room (Nat.le_of_ble_eq_true rfl)) dX7_gates_29 ⟨(Nat.le_of_ble_eq_true rfl), (Nat.le_of_ble_eq_true rfl)⟩) hS (fun q _ h => hFc q h) hFc (fun r_4 u t H locs ht hvm hw_4 hB hz1 hk1 hS => ?_)
      obtain ⟨u_5, rfl⟩ : ∃ z, z = u := ⟨_, rfl⟩
      obtain ⟨hP1, hD1⟩ := hB
      rw [ht] at hP1
      try dsimp only at hw_4
      obtain ⟨hP, hD⟩ := va_join (wr := [tc_X6 ma tk mo su lv si ga sl sc fh lh fo ee pn e0 e1 e2 e3 e4 e5 a0]) (w1 := [tc_X7 a0 u_5 ma rf lk pu tl lo]) hP hD [0] [1] rfl rfl (by decide) (by decide) hk1 hFc hP1 hD1
      have hP : va_P G.1 vwCl [tc_X6 ma tk mo su lv si ga sl sc fh lh fo ee pn e0 e1 e2 e3 e4 e5 a0, tc_X7 a0 u_5 ma rf lk pu tl lo] H := hP
      have hD : va_D A [tc_X6 ma tk mo su lv si ga sl sc fh lh fo ee pn e0 e1 e2 e3 e4 e5 a0, tc_X7 a0 u_5 ma rf lk pu tl lo] := hD
      have hP9 := hP.sub (ws' := [tc_X7 a0 u_5 ma rf lk pu tl lo, tc_X6 ma tk mo su lv si ga sl sc fh lh fo ee pn e0 e1 e2 e3 e4 e5 a0]) [1, 0] rfl
      have hD9 := hD.sub (ws' := [tc_X7 a0 u_5 ma rf lk pu tl lo, tc_X6 ma tk mo su lv si ga sl sc fh lh fo ee pn e0 e1 e2 e3 e4 e5 a0]) [1, 0] (by decide) rfl
      exact W.iret (v := r_4) hx hb hr (fun t ht hW => ⟨⟨r_4, (u_5, ga), rfl, by unfold f_X7_gates; all_goals (rw [if_neg c_2]); all_goals (rw [if_neg c_3]); all_goals (rw [← hw_4]); all_goals (dsimp only); all_goals rfl, by rw [ht]; exact hP9, hD9⟩, hS.F ht⟩) hS.2.2 dX7_gates_32
  · refine lv_aload_n hx hb dX7_gates_14 rfl (lv_at hl 0 rfl) ?_
    refine lv_iconst (v := 1) hx hb dX7_gates_15 (by decide) ?_
    have hPc := hP.sub (ws' := [tc_X7 a0 0 ma rf lk pu tl lo]) [0] rfl
    have hDc := hD.sub (ws' := [tc_X7 a0 0 ma rf lk pu tl lo]) [0] (by decide) rfl
    have hFc := va_free (wc := [tc_X7 a0 0 ma rf lk pu tl lo]) hD hS hA [0] rfl
    refine va_calli (va_runV (As := [.int 1]) (rest := []) ⟨hx, hb, hml, hown, hts⟩ (c_X7_no l G a0 ma lo H.size 0 rf lk pu tl 1 ) (cwV 1 hts gX7_gates_X7_no rfl rfl rfl (by decide +kernel) ⟨(Nat.le_of_ble_eq_true rfl), (Nat.le_of_ble_eq_true rfl)⟩) (tm_preV hK hN hV hS hPc hDc hFc (va_recv hK hPc (ci := 8) (q0 := 0) rfl rfl)) rfl rfl hl.1 rfl (lv_room (Nat.le_of_ble_eq_true rfl)) dX7_gates_16 ⟨(Nat.le_of_ble_eq_true rfl), (Nat.le_of_ble_eq_true rfl)⟩) hS (fun q _ h => hFc q h) hFc (fun r_6 u t H locs ht hvm hw_6 hB hz1 hk1 hS => ?_)
    obtain ⟨u_7, rfl⟩ : ∃ z, z = u := ⟨_, rfl⟩
    obtain ⟨hP1, hD1⟩ := hB
    rw [ht] at hP1
    try dsimp only at hw_6
    obtain ⟨hP, hD⟩ := va_join (wr := [tc_X6 ma tk mo su lv si ga sl sc fh lh fo ee pn e0 e1 e2 e3 e4 e5 a0]) (w1 := [tc_X7 a0 u_7 ma rf lk pu tl lo]) hP hD [0] [1] rfl rfl (by decide) (by decide) hk1 hFc hP1 hD1
    have hP : va_P G.1 vwCl [tc_X6 ma tk mo su lv si ga sl sc fh lh fo ee pn e0 e1 e2 e3 e4 e5 a0, tc_X7 a0 u_7 ma rf lk pu tl lo] H := hP
    have hD : va_D A [tc_X6 ma tk mo su lv si ga sl sc fh lh fo ee pn e0 e1 e2 e3 e4 e5 a0, tc_X7 a0 u_7 ma rf lk pu tl lo] := hD
    have hP9 := hP.sub (ws' := [tc_X7 a0 u_7 ma rf lk pu tl lo, tc_X6 ma tk mo su lv si ga sl sc fh lh fo ee pn e0 e1 e2 e3 e4 e5 a0]) [1, 0] rfl
    have hD9 := hD.sub (ws' := [tc_X7 a0 u_7 ma rf lk pu tl lo, tc_X6 ma tk mo su lv si ga sl sc fh lh fo ee pn e0 e1 e2 e3 e4 e5 a0]) [1, 0] (by decide) rfl
    exact W.iret (v := r_6) hx hb hr (fun t ht hW => ⟨⟨r_6, (u_7, ga), rfl, by unfold f_X7_gates; all_goals (rw [if_pos c_2]); all_goals (rw [← hw_6]); all_goals (dsimp only); all_goals rfl, by rw [ht]; exact hP9, hD9⟩, hS.F ht⟩) hS.2.2 dX7_gates_19
set_option maxHeartbeats 4000000 in
set_option maxRecDepth 100000 in
theorem c_X7_sluice (l : Launch) (G : tm_G) (a0 : Nat) (ma : Nat) (lo : Nat) (e0 : Nat) (e1 : Nat) (e2 : Nat) (e3 : Nat) (e4 : Nat) (e5 : Nat) (sz : Nat) (th : Int32) (rf : Int32) (lk : Int32) (pu : Int32) (tl : UInt64) (tk : Int32) (mo : Int32) (su : UInt64) (lv : UInt64) (si : UInt32) (ga : Int32) (sl : Int32) (sc : Int32) (fh : Int32) (lh : Int32) (fo : UInt64) (ee : Int32) (pn : Int32) (p1 : Int32) : Met l yX7_sluice wsX7_sluice ({ frames := 1, cells := 0, slots := 0, locals := 22 }) (va_Pc [.ref a0, .int p1] (tm_B G [tc_X7 a0 th ma rf lk pu tl lo, tc_X6 ma tk mo su lv si ga sl sc fh lh fo ee pn e0 e1 e2 e3 e4 e5 a0] sz)) (va_Qi (fun (r : Int32) (u : Int32 × Int32) => (r, u) = f_X7_sluice sl p1) (fun (u : Int32 × Int32) (t : State) => va_P G.1 vwCl [tc_X7 a0 u.1 ma rf lk pu tl lo, tc_X6 ma tk mo su lv si ga u.2 sc fh lh fo ee pn e0 e1 e2 e3 e4 e5 a0] t.heap ∧ va_D (va_A [tc_X7 a0 th ma rf lk pu tl lo, tc_X6 ma tk mo su lv si ga sl sc fh lh fo ee pn e0 e1 e2 e3 e4 e5 a0] sz) [tc_X7 a0 u.1 ma rf lk pu tl lo, tc_X6 ma tk mo su lv si ga u.2 sc fh lh fo ee pn e0 e1 e2 e3 e4 e5 a0]) (va_A [tc_X7 a0 th ma rf lk pu tl lo, tc_X6 ma tk mo su lv si ga sl sc fh lh fo ee pn e0 e1 e2 e3 e4 e5 a0] sz)) 0 0 (va_A [tc_X7 a0 th ma rf lk pu tl lo, tc_X6 ma tk mo su lv si ga sl sc fh lh fo ee pn e0 e1 e2 e3 e4 e5 a0] sz) := by
  refine Met.ofW (cc := cX7_sluice) (maxL := 3) (ret := (some .int)) (by decide) rfl ?_
  intro p e s m args below meth c s₁ B hml hv
  obtain ⟨rfl, hsz, hP, hK, hD0, hN, hV⟩ := hv
  have hx := B.exec
  have hb := B.bytes
  have hr := B.returns
  have hts := atoms_spec (ws := wsX7_sluice) B.pre
  have hown : s.vm.findClass RX7 = some m.cls := findClass_of_methodNamed B.named
  have hlocks := B.notSynchronized
  subst hsz
  have hiX6 : ∀ w ∈ u_ws RX6 TX6 20, w ∈ wsX7_sluice := fun _ h => List.mem_cons_of_mem _ (List.mem_append_right _ h)
  have hiX7 : ∀ w ∈ u_ws RX7 TX7 7, w ∈ wsX7_sluice := fun _ h => List.mem_cons_of_mem _ (List.mem_append_left _ (List.mem_append_right _ h))
  have hD := hD0.self (sz := s.heap.size)
  generalize hAe : va_A [tc_X7 a0 th ma rf lk pu tl lo, tc_X6 ma tk mo su lv si ga sl sc fh lh fo ee pn e0 e1 e2 e3 e4 e5 a0] s.heap.size = A at hD hV ⊢
  have hA : ∀ q : Nat, s.heap.size ≤ q → A q := fun q h => by rw [← hAe]; exact Or.inr h
  have hS : va_S A s.heap s.heap [] := va_S.rf
  have hl := lv_entry ([.ref a0, .int p1]) (n := 3) (Nat.le_of_ble_eq_true rfl)
  rw [lg_entry_eq]
  generalize (lg_sl ([.ref a0, .int p1]) ++ List.replicate (3 - (lg_sl ([.ref a0, .int p1])).length) Slot.unset).toArray = ls at hl ⊢
  have hl : lv_has ls 3 [(0, .ref a0), (1, .int p1)] := hl
  refine lv_aload_n hx hb dX7_sluice_0 rfl (lv_at hl 0 rfl) ?_
  refine lv_iconst (v := 0) hx hb dX7_sluice_1 (by decide) ?_
  refine va_put (D := G.1) (ci := 8) (v := .int 0) (ty := .int) (C := RX7) (T := TX7) (N := 7) hx hb hts hiX7 tyX7 tyX7_ok nmX7 hown hK hP hD hS 0 rfl rfl 0 (by decide) (hts (.fieldLink RX7 25 "TideMillModel" "thrown" "I") (List.mem_of_getElem? (i := 1) rfl)) (fun _ h9 => h9) rfl (by decide +kernel) rfl rfl (Nat.le_of_ble_eq_true rfl) dX7_sluice_2 (fun H locs hP hD hS => ?_)
  have hP : va_P G.1 vwCl [tc_X7 a0 0 ma rf lk pu tl lo, tc_X6 ma tk mo su lv si ga sl sc fh lh fo ee pn e0 e1 e2 e3 e4 e5 a0] H := hP
  have hD : va_D A [tc_X7 a0 0 ma rf lk pu tl lo, tc_X6 ma tk mo su lv si ga sl sc fh lh fo ee pn e0 e1 e2 e3 e4 e5 a0] := hD
  refine lv_iload_n hx hb dX7_sluice_5 rfl (lv_at hl 1 rfl) ?_
  refine lv_iconst (v := 0) hx hb dX7_sluice_6 (by decide) ?_
  refine lv_iconst (v := 4) hx hb dX7_sluice_7 (by decide) ?_
  have hPc := hP.sub (ws' := []) [] rfl
  have hDc := hD.sub (ws' := []) [] (by decide) rfl
  have hFc := va_free (wc := []) hD hS hA [] rfl
  refine va_calli (va_runS (As := [.int p1, .int 0, .int 4]) (rest := []) ⟨hx, hb, hml, hown, hts⟩ (c_X7_in l G  H.size p1 0 4 ) (cwS 3 hts gX7_sluice_X7_in rfl rfl rfl (by decide +kernel) ⟨(Nat.le_of_ble_eq_true rfl), (Nat.le_of_ble_eq_true rfl)⟩) (tm_preS hK hN hV hS hPc hDc hFc) rfl rfl hl.1 rfl (lv_room (Nat.le_of_ble_eq_true rfl)) dX7_sluice_8 ⟨(Nat.le_of_ble_eq_true rfl), (Nat.le_of_ble_eq_true rfl)⟩) hS (fun q _ h => hFc q h) hFc (fun r_1 u t H locs ht hvm hw_1 hB hz1 hk1 hS => ?_)
  obtain ⟨hP1, hD1⟩ := hB
  rw [ht] at hP1
  try dsimp only at hw_1
  obtain ⟨hP, hD⟩ := va_join (wr := [tc_X7 a0 0 ma rf lk pu tl lo, tc_X6 ma tk mo su lv si ga sl sc fh lh fo ee pn e0 e1 e2 e3 e4 e5 a0]) (w1 := []) hP hD [] [0, 1] rfl rfl (by decide) (by decide) hk1 hFc hP1 hD1
  have hP : va_P G.1 vwCl [tc_X7 a0 0 ma rf lk pu tl lo, tc_X6 ma tk mo su lv si ga sl sc fh lh fo ee pn e0 e1 e2 e3 e4 e5 a0] H := hP
  have hD : va_D A [tc_X7 a0 0 ma rf lk pu tl lo, tc_X6 ma tk mo su lv si ga sl sc fh lh fo ee pn e0 e1 e2 e3 e4 e5 a0] := hD
  subst r_1
  refine lv_if_ne (tgt := 20) hx hb dX7_sluice_11 (by decide) (fun c_2 => ?_) (fun c_2 => ?_)
  · refine lv_aload_n hx hb dX7_sluice_20 rfl (lv_at hl 0 rfl) ?_
    refine va_get (D := G.1) (ci := 8) (v := .ref ma) (C := RX7) (T := TX7) (N := 7) hx hb hts hiX7 hown hK hP 0 rfl rfl 1 (by decide) (hts (.fieldLink RX7 12 "TideMillModel" "mill" "LTideMillModel$Mill;") (List.mem_of_getElem? (i := 2) rfl)) (fun _ h9 => h9) rfl dX7_sluice_21 ?_
    refine va_get (D := G.1) (ci := 7) (v := .int sl) (C := RX6) (T := TX6) (N := 20) hx hb hts hiX6 hown hK hP 1 rfl rfl 6 (by decide) (hts (.fieldLink RX7 82 "TideMillModel$Mill" "sluice" "I") (List.mem_of_getElem? (i := 3) rfl)) (fun _ h9 => h9) rfl dX7_sluice_24 ?_
    refine lv_istore_n (lv' := [(2, .int sl), (0, .ref a0), (1, .int p1)]) hx hb dX7_sluice_27 rfl hl (by decide) rfl (fun ls hl => ?_)
    refine lv_aload_n hx hb dX7_sluice_28 rfl (lv_at hl 1 rfl) ?_
    refine va_get (D := G.1) (ci := 8) (v := .ref ma) (C := RX7) (T := TX7) (N := 7) hx hb hts hiX7 hown hK hP 0 rfl rfl 1 (by decide) (hts (.fieldLink RX7 12 "TideMillModel" "mill" "LTideMillModel$Mill;") (List.mem_of_getElem? (i := 2) rfl)) (fun _ h9 => h9) rfl dX7_sluice_29 ?_
    refine lv_iload_n hx hb dX7_sluice_32 rfl (lv_at hl 2 rfl) ?_
    refine va_put (D := G.1) (ci := 7) (v := .int p1) (ty := .int) (C := RX6) (T := TX6) (N := 20) hx hb hts hiX6 tyX6 tyX6_ok nmX6 hown hK hP hD hS 1 rfl rfl 6 (by decide) (hts (.fieldLink RX7 82 "TideMillModel$Mill" "sluice" "I") (List.mem_of_getElem? (i := 3) rfl)) (fun _ h9 => h9) rfl (by decide +kernel) rfl rfl (Nat.le_of_ble_eq_true rfl) dX7_sluice_33 (fun H locs hP hD hS => ?_)
    have hP : va_P G.1 vwCl [tc_X7 a0 0 ma rf lk pu tl lo, tc_X6 ma tk mo su lv si ga p1 sc fh lh fo ee pn e0 e1 e2 e3 e4 e5 a0] H := hP
    have hD : va_D A [tc_X7 a0 0 ma rf lk pu tl lo, tc_X6 ma tk mo su lv si ga p1 sc fh lh fo ee pn e0 e1 e2 e3 e4 e5 a0] := hD
    refine lv_iload_n hx hb dX7_sluice_36 rfl (lv_at hl 0 rfl) ?_
    have hP9 := hP.sub (ws' := [tc_X7 a0 0 ma rf lk pu tl lo, tc_X6 ma tk mo su lv si ga p1 sc fh lh fo ee pn e0 e1 e2 e3 e4 e5 a0]) [0, 1] rfl
    have hD9 := hD.sub (ws' := [tc_X7 a0 0 ma rf lk pu tl lo, tc_X6 ma tk mo su lv si ga p1 sc fh lh fo ee pn e0 e1 e2 e3 e4 e5 a0]) [0, 1] (by decide) rfl
    exact W.iret (v := sl) hx hb hr (fun t ht hW => ⟨⟨sl, (0, p1), rfl, by unfold f_X7_sluice; all_goals (rw [if_neg c_2]); all_goals rfl, by rw [ht]; exact hP9, hD9⟩, hS.F ht⟩) hS.2.2 dX7_sluice_37
  · refine lv_aload_n hx hb dX7_sluice_14 rfl (lv_at hl 0 rfl) ?_
    refine lv_iconst (v := 1) hx hb dX7_sluice_15 (by decide) ?_
    have hPc := hP.sub (ws' := [tc_X7 a0 0 ma rf lk pu tl lo]) [0] rfl
    have hDc := hD.sub (ws' := [tc_X7 a0 0 ma rf lk pu tl lo]) [0] (by decide) rfl
    have hFc := va_free (wc := [tc_X7 a0 0 ma rf lk pu tl lo]) hD hS hA [0] rfl
    refine va_calli (va_runV (As := [.int 1]) (rest := []) ⟨hx, hb, hml, hown, hts⟩ (c_X7_no l G a0 ma lo H.size 0 rf lk pu tl 1 ) (cwV 1 hts gX7_sluice_X7_no rfl rfl rfl (by decide +kernel) ⟨(Nat.le_of_ble_eq_true rfl), (Nat.le_of_ble_eq_true rfl)⟩) (tm_preV hK hN hV hS hPc hDc hFc (va_recv hK hPc (ci := 8) (q0 := 0) rfl rfl)) rfl rfl hl.1 rfl (lv_room (Nat.le_of_ble_eq_true rfl)) dX7_sluice_16 ⟨(Nat.le_of_ble_eq_true rfl), (Nat.le_of_ble_eq_true rfl)⟩) hS (fun q _ h => hFc q h) hFc (fun r_3 u t H locs ht hvm hw_3 hB hz1 hk1 hS => ?_)
    obtain ⟨u_4, rfl⟩ : ∃ z, z = u := ⟨_, rfl⟩
    obtain ⟨hP1, hD1⟩ := hB
    rw [ht] at hP1
    try dsimp only at hw_3
    obtain ⟨hP, hD⟩ := va_join (wr := [tc_X6 ma tk mo su lv si ga sl sc fh lh fo ee pn e0 e1 e2 e3 e4 e5 a0]) (w1 := [tc_X7 a0 u_4 ma rf lk pu tl lo]) hP hD [0] [1] rfl rfl (by decide) (by decide) hk1 hFc hP1 hD1
    have hP : va_P G.1 vwCl [tc_X6 ma tk mo su lv si ga sl sc fh lh fo ee pn e0 e1 e2 e3 e4 e5 a0, tc_X7 a0 u_4 ma rf lk pu tl lo] H := hP
    have hD : va_D A [tc_X6 ma tk mo su lv si ga sl sc fh lh fo ee pn e0 e1 e2 e3 e4 e5 a0, tc_X7 a0 u_4 ma rf lk pu tl lo] := hD
    have hP9 := hP.sub (ws' := [tc_X7 a0 u_4 ma rf lk pu tl lo, tc_X6 ma tk mo su lv si ga sl sc fh lh fo ee pn e0 e1 e2 e3 e4 e5 a0]) [1, 0] rfl
    have hD9 := hD.sub (ws' := [tc_X7 a0 u_4 ma rf lk pu tl lo, tc_X6 ma tk mo su lv si ga sl sc fh lh fo ee pn e0 e1 e2 e3 e4 e5 a0]) [1, 0] (by decide) rfl
    exact W.iret (v := r_3) hx hb hr (fun t ht hW => ⟨⟨r_3, (u_4, sl), rfl, by unfold f_X7_sluice; all_goals (rw [if_pos c_2]); all_goals (rw [← hw_3]); all_goals (dsimp only); all_goals rfl, by rw [ht]; exact hP9, hD9⟩, hS.F ht⟩) hS.2.2 dX7_sluice_19
set_option maxHeartbeats 4000000 in
set_option maxRecDepth 100000 in
theorem c_X7_scour (l : Launch) (G : tm_G) (a0 : Nat) (ma : Nat) (lo : Nat) (e0 : Nat) (e1 : Nat) (e2 : Nat) (e3 : Nat) (e4 : Nat) (e5 : Nat) (sz : Nat) (th : Int32) (rf : Int32) (lk : Int32) (pu : Int32) (tl : UInt64) (tk : Int32) (mo : Int32) (su : UInt64) (lv : UInt64) (si : UInt32) (ga : Int32) (sl : Int32) (sc : Int32) (fh : Int32) (lh : Int32) (fo : UInt64) (ee : Int32) (pn : Int32) (p1 : Int32) (hn : n_X7_scour sc p1) : Met l yX7_scour wsX7_scour ({ frames := 0, cells := 0, slots := 0, locals := 0 }) (va_Pc [.ref a0, .int p1] (tm_B G [tc_X7 a0 th ma rf lk pu tl lo, tc_X6 ma tk mo su lv si ga sl sc fh lh fo ee pn e0 e1 e2 e3 e4 e5 a0] sz)) (va_Qi (fun (r : Int32) (u : Int32 × Int32) => (r, u) = f_X7_scour sc p1) (fun (u : Int32 × Int32) (t : State) => va_P G.1 vwCl [tc_X7 a0 u.1 ma rf lk pu tl lo, tc_X6 ma tk mo su lv si ga sl u.2 fh lh fo ee pn e0 e1 e2 e3 e4 e5 a0] t.heap ∧ va_D (va_A [tc_X7 a0 th ma rf lk pu tl lo, tc_X6 ma tk mo su lv si ga sl sc fh lh fo ee pn e0 e1 e2 e3 e4 e5 a0] sz) [tc_X7 a0 u.1 ma rf lk pu tl lo, tc_X6 ma tk mo su lv si ga sl u.2 fh lh fo ee pn e0 e1 e2 e3 e4 e5 a0]) (va_A [tc_X7 a0 th ma rf lk pu tl lo, tc_X6 ma tk mo su lv si ga sl sc fh lh fo ee pn e0 e1 e2 e3 e4 e5 a0] sz)) 0 0 (va_A [tc_X7 a0 th ma rf lk pu tl lo, tc_X6 ma tk mo su lv si ga sl sc fh lh fo ee pn e0 e1 e2 e3 e4 e5 a0] sz) := by
  refine Met.ofW (cc := cX7_scour) (maxL := 3) (ret := (some .boolean)) (by decide) rfl ?_
  intro p e s m args below meth c s₁ B hml hv
  obtain ⟨rfl, hsz, hP, hK, hD0, hN, hV⟩ := hv
  have hx := B.exec
  have hb := B.bytes
  have hr := B.returns
  have hts := atoms_spec (ws := wsX7_scour) B.pre
  have hown : s.vm.findClass RX7 = some m.cls := findClass_of_methodNamed B.named
  have hlocks := B.notSynchronized
  subst hsz
  obtain ⟨n_1, n_2⟩ := hn
  have hiX6 : ∀ w ∈ u_ws RX6 TX6 20, w ∈ wsX7_scour := fun _ h => List.mem_cons_of_mem _ (List.mem_append_right _ h)
  have hiX7 : ∀ w ∈ u_ws RX7 TX7 7, w ∈ wsX7_scour := fun _ h => List.mem_cons_of_mem _ (List.mem_append_left _ (List.mem_append_right _ h))
  have hD := hD0.self (sz := s.heap.size)
  generalize hAe : va_A [tc_X7 a0 th ma rf lk pu tl lo, tc_X6 ma tk mo su lv si ga sl sc fh lh fo ee pn e0 e1 e2 e3 e4 e5 a0] s.heap.size = A at hD hV ⊢
  have hA : ∀ q : Nat, s.heap.size ≤ q → A q := fun q h => by rw [← hAe]; exact Or.inr h
  have hS : va_S A s.heap s.heap [] := va_S.rf
  have hl := lv_entry ([.ref a0, .int p1]) (n := 3) (Nat.le_of_ble_eq_true rfl)
  rw [lg_entry_eq]
  generalize (lg_sl ([.ref a0, .int p1]) ++ List.replicate (3 - (lg_sl ([.ref a0, .int p1])).length) Slot.unset).toArray = ls at hl ⊢
  have hl : lv_has ls 3 [(0, .ref a0), (1, .int p1)] := hl
  refine lv_aload_n hx hb dX7_scour_0 rfl (lv_at hl 0 rfl) ?_
  refine lv_iconst (v := 0) hx hb dX7_scour_1 (by decide) ?_
  refine va_put (D := G.1) (ci := 8) (v := .int 0) (ty := .int) (C := RX7) (T := TX7) (N := 7) hx hb hts hiX7 tyX7 tyX7_ok nmX7 hown hK hP hD hS 0 rfl rfl 0 (by decide) (hts (.fieldLink RX7 25 "TideMillModel" "thrown" "I") (List.mem_of_getElem? (i := 1) rfl)) (fun _ h9 => h9) rfl (by decide +kernel) rfl rfl (Nat.le_of_ble_eq_true rfl) dX7_scour_2 (fun H locs hP hD hS => ?_)
  have hP : va_P G.1 vwCl [tc_X7 a0 0 ma rf lk pu tl lo, tc_X6 ma tk mo su lv si ga sl sc fh lh fo ee pn e0 e1 e2 e3 e4 e5 a0] H := hP
  have hD : va_D A [tc_X7 a0 0 ma rf lk pu tl lo, tc_X6 ma tk mo su lv si ga sl sc fh lh fo ee pn e0 e1 e2 e3 e4 e5 a0] := hD
  refine lv_aload_n hx hb dX7_scour_5 rfl (lv_at hl 0 rfl) ?_
  refine va_get (D := G.1) (ci := 8) (v := .ref ma) (C := RX7) (T := TX7) (N := 7) hx hb hts hiX7 hown hK hP 0 rfl rfl 1 (by decide) (hts (.fieldLink RX7 12 "TideMillModel" "mill" "LTideMillModel$Mill;") (List.mem_of_getElem? (i := 2) rfl)) (fun _ h9 => h9) rfl dX7_scour_6 ?_
  refine va_get (D := G.1) (ci := 7) (v := .int sc) (C := RX6) (T := TX6) (N := 20) hx hb hts hiX6 hown hK hP 1 rfl rfl 7 (by decide) (hts (.fieldLink RX7 85 "TideMillModel$Mill" "isScouring" "Z") (List.mem_of_getElem? (i := 3) rfl)) (fun _ h9 => h9) rfl dX7_scour_9 ?_
  refine lv_istore_n (lv' := [(2, .int sc), (0, .ref a0), (1, .int p1)]) hx hb dX7_scour_12 rfl hl (by decide) rfl (fun ls hl => ?_)
  refine lv_aload_n hx hb dX7_scour_13 rfl (lv_at hl 1 rfl) ?_
  refine va_get (D := G.1) (ci := 8) (v := .ref ma) (C := RX7) (T := TX7) (N := 7) hx hb hts hiX7 hown hK hP 0 rfl rfl 1 (by decide) (hts (.fieldLink RX7 12 "TideMillModel" "mill" "LTideMillModel$Mill;") (List.mem_of_getElem? (i := 2) rfl)) (fun _ h9 => h9) rfl dX7_scour_14 ?_
  refine lv_iload_n hx hb dX7_scour_17 rfl (lv_at hl 2 rfl) ?_
  refine va_put (D := G.1) (ci := 7) (v := .int p1) (ty := .boolean) (C := RX6) (T := TX6) (N := 20) hx hb hts hiX6 tyX6 tyX6_ok nmX6 hown hK hP hD hS 1 rfl rfl 7 (by decide) (hts (.fieldLink RX7 85 "TideMillModel$Mill" "isScouring" "Z") (List.mem_of_getElem? (i := 3) rfl)) (fun _ h9 => h9) rfl (by decide +kernel) (tm_bool_n n_1) (tm_bool_f n_1) (Nat.le_of_ble_eq_true rfl) dX7_scour_18 (fun H locs hP hD hS => ?_)
  have hP : va_P G.1 vwCl [tc_X7 a0 0 ma rf lk pu tl lo, tc_X6 ma tk mo su lv si ga sl p1 fh lh fo ee pn e0 e1 e2 e3 e4 e5 a0] H := hP
  have hD : va_D A [tc_X7 a0 0 ma rf lk pu tl lo, tc_X6 ma tk mo su lv si ga sl p1 fh lh fo ee pn e0 e1 e2 e3 e4 e5 a0] := hD
  refine lv_iload_n hx hb dX7_scour_21 rfl (lv_at hl 0 rfl) ?_
  have hP9 := hP.sub (ws' := [tc_X7 a0 0 ma rf lk pu tl lo, tc_X6 ma tk mo su lv si ga sl p1 fh lh fo ee pn e0 e1 e2 e3 e4 e5 a0]) [0, 1] rfl
  have hD9 := hD.sub (ws' := [tc_X7 a0 0 ma rf lk pu tl lo, tc_X6 ma tk mo su lv si ga sl p1 fh lh fo ee pn e0 e1 e2 e3 e4 e5 a0]) [0, 1] (by decide) rfl
  exact W.zret (v := sc) hx hb hr (tm_bool_n n_2) (fun t ht hW => ⟨⟨sc, (0, p1), rfl, by unfold f_X7_scour; all_goals rfl, by rw [ht]; exact hP9, hD9⟩, hS.F ht⟩) hS.2.2 dX7_scour_22
set_option maxHeartbeats 4000000 in
set_option maxRecDepth 100000 in
theorem c_X7_hours (l : Launch) (G : tm_G) (a0 : Nat) (ma : Nat) (lo : Nat) (e0 : Nat) (e1 : Nat) (e2 : Nat) (e3 : Nat) (e4 : Nat) (e5 : Nat) (sz : Nat) (th : Int32) (rf : Int32) (lk : Int32) (pu : Int32) (tl : UInt64) (tk : Int32) (mo : Int32) (su : UInt64) (lv : UInt64) (si : UInt32) (ga : Int32) (sl : Int32) (sc : Int32) (fh : Int32) (lh : Int32) (fo : UInt64) (ee : Int32) (pn : Int32) (p1 : Int32) (p2 : Int32) (hn : n_X7_hours tk p1 p2) : Met l yX7_hours wsX7_hours ({ frames := 1, cells := 0, slots := 0, locals := 22 }) (va_Pc [.ref a0, .int p1, .int p2] (tm_B G [tc_X7 a0 th ma rf lk pu tl lo, tc_X6 ma tk mo su lv si ga sl sc fh lh fo ee pn e0 e1 e2 e3 e4 e5 a0] sz)) (va_Qi (fun (r : Int32) (u : Int32 × Int32 × Int32) => (r, u) = f_X7_hours tk fh lh p1 p2) (fun (u : Int32 × Int32 × Int32) (t : State) => va_P G.1 vwCl [tc_X7 a0 u.1 ma rf lk pu tl lo, tc_X6 ma tk mo su lv si ga sl sc u.2.1 u.2.2 fo ee pn e0 e1 e2 e3 e4 e5 a0] t.heap ∧ va_D (va_A [tc_X7 a0 th ma rf lk pu tl lo, tc_X6 ma tk mo su lv si ga sl sc fh lh fo ee pn e0 e1 e2 e3 e4 e5 a0] sz) [tc_X7 a0 u.1 ma rf lk pu tl lo, tc_X6 ma tk mo su lv si ga sl sc u.2.1 u.2.2 fo ee pn e0 e1 e2 e3 e4 e5 a0]) (va_A [tc_X7 a0 th ma rf lk pu tl lo, tc_X6 ma tk mo su lv si ga sl sc fh lh fo ee pn e0 e1 e2 e3 e4 e5 a0] sz)) 0 0 (va_A [tc_X7 a0 th ma rf lk pu tl lo, tc_X6 ma tk mo su lv si ga sl sc fh lh fo ee pn e0 e1 e2 e3 e4 e5 a0] sz) := by
  refine Met.ofW (cc := cX7_hours) (maxL := 3) (ret := (some .boolean)) (by decide) rfl ?_
  intro p e s m args below meth c s₁ B hml hv
  obtain ⟨rfl, hsz, hP, hK, hD0, hN, hV⟩ := hv
  have hx := B.exec
  have hb := B.bytes
  have hr := B.returns
  have hts := atoms_spec (ws := wsX7_hours) B.pre
  have hown : s.vm.findClass RX7 = some m.cls := findClass_of_methodNamed B.named
  have hlocks := B.notSynchronized
  subst hsz
  have n_9 := hn
  unfold n_X7_hours at n_9
  have hiX6 : ∀ w ∈ u_ws RX6 TX6 20, w ∈ wsX7_hours := fun _ h => List.mem_cons_of_mem _ (List.mem_append_right _ h)
  have hiX7 : ∀ w ∈ u_ws RX7 TX7 7, w ∈ wsX7_hours := fun _ h => List.mem_cons_of_mem _ (List.mem_append_left _ (List.mem_append_right _ h))
  have hD := hD0.self (sz := s.heap.size)
  generalize hAe : va_A [tc_X7 a0 th ma rf lk pu tl lo, tc_X6 ma tk mo su lv si ga sl sc fh lh fo ee pn e0 e1 e2 e3 e4 e5 a0] s.heap.size = A at hD hV ⊢
  have hA : ∀ q : Nat, s.heap.size ≤ q → A q := fun q h => by rw [← hAe]; exact Or.inr h
  have hS : va_S A s.heap s.heap [] := va_S.rf
  have hl := lv_entry ([.ref a0, .int p1, .int p2]) (n := 3) (Nat.le_of_ble_eq_true rfl)
  rw [lg_entry_eq]
  generalize (lg_sl ([.ref a0, .int p1, .int p2]) ++ List.replicate (3 - (lg_sl ([.ref a0, .int p1, .int p2])).length) Slot.unset).toArray = ls at hl ⊢
  have hl : lv_has ls 3 [(0, .ref a0), (1, .int p1), (2, .int p2)] := hl
  refine lv_aload_n hx hb dX7_hours_0 rfl (lv_at hl 0 rfl) ?_
  refine lv_iconst (v := 0) hx hb dX7_hours_1 (by decide) ?_
  refine va_put (D := G.1) (ci := 8) (v := .int 0) (ty := .int) (C := RX7) (T := TX7) (N := 7) hx hb hts hiX7 tyX7 tyX7_ok nmX7 hown hK hP hD hS 0 rfl rfl 0 (by decide) (hts (.fieldLink RX7 25 "TideMillModel" "thrown" "I") (List.mem_of_getElem? (i := 1) rfl)) (fun _ h9 => h9) rfl (by decide +kernel) rfl rfl (Nat.le_of_ble_eq_true rfl) dX7_hours_2 (fun H locs hP hD hS => ?_)
  have hP : va_P G.1 vwCl [tc_X7 a0 0 ma rf lk pu tl lo, tc_X6 ma tk mo su lv si ga sl sc fh lh fo ee pn e0 e1 e2 e3 e4 e5 a0] H := hP
  have hD : va_D A [tc_X7 a0 0 ma rf lk pu tl lo, tc_X6 ma tk mo su lv si ga sl sc fh lh fo ee pn e0 e1 e2 e3 e4 e5 a0] := hD
  refine lv_iload_n hx hb dX7_hours_5 rfl (lv_at hl 1 rfl) ?_
  refine lv_iconst (v := 0) hx hb dX7_hours_6 (by decide) ?_
  refine lv_bipush (v := 47) hx hb dX7_hours_7 (by decide) ?_
  have hPc := hP.sub (ws' := []) [] rfl
  have hDc := hD.sub (ws' := []) [] (by decide) rfl
  have hFc := va_free (wc := []) hD hS hA [] rfl
  refine va_calli (va_runS (As := [.int p1, .int 0, .int 47]) (rest := []) ⟨hx, hb, hml, hown, hts⟩ (c_X7_in l G  H.size p1 0 47 ) (cwS 3 hts gX7_hours_X7_in rfl rfl rfl (by decide +kernel) ⟨(Nat.le_of_ble_eq_true rfl), (Nat.le_of_ble_eq_true rfl)⟩) (tm_preS hK hN hV hS hPc hDc hFc) rfl rfl hl.1 rfl (lv_room (Nat.le_of_ble_eq_true rfl)) dX7_hours_9 ⟨(Nat.le_of_ble_eq_true rfl), (Nat.le_of_ble_eq_true rfl)⟩) hS (fun q _ h => hFc q h) hFc (fun r_1 u t H locs ht hvm hw_1 hB hz1 hk1 hS => ?_)
  obtain ⟨hP1, hD1⟩ := hB
  rw [ht] at hP1
  try dsimp only at hw_1
  obtain ⟨hP, hD⟩ := va_join (wr := [tc_X7 a0 0 ma rf lk pu tl lo, tc_X6 ma tk mo su lv si ga sl sc fh lh fo ee pn e0 e1 e2 e3 e4 e5 a0]) (w1 := []) hP hD [] [0, 1] rfl rfl (by decide) (by decide) hk1 hFc hP1 hD1
  have hP : va_P G.1 vwCl [tc_X7 a0 0 ma rf lk pu tl lo, tc_X6 ma tk mo su lv si ga sl sc fh lh fo ee pn e0 e1 e2 e3 e4 e5 a0] H := hP
  have hD : va_D A [tc_X7 a0 0 ma rf lk pu tl lo, tc_X6 ma tk mo su lv si ga sl sc fh lh fo ee pn e0 e1 e2 e3 e4 e5 a0] := hD
  subst r_1
  refine lv_if_eq (tgt := 25) hx hb dX7_hours_12 (by decide) (fun c_2 => ?_) (fun c_2 => ?_)
  · refine lv_aload_n hx hb dX7_hours_25 rfl (lv_at hl 0 rfl) ?_
    refine lv_iconst (v := 1) hx hb dX7_hours_26 (by decide) ?_
    have hPc := hP.sub (ws' := [tc_X7 a0 0 ma rf lk pu tl lo]) [0] rfl
    have hDc := hD.sub (ws' := [tc_X7 a0 0 ma rf lk pu tl lo]) [0] (by decide) rfl
    have hFc := va_free (wc := [tc_X7 a0 0 ma rf lk pu tl lo]) hD hS hA [0] rfl
    refine va_calli (va_runV (As := [.int 1]) (rest := []) ⟨hx, hb, hml, hown, hts⟩ (c_X7_no l G a0 ma lo H.size 0 rf lk pu tl 1 ) (cwV 1 hts gX7_hours_X7_no rfl rfl rfl (by decide +kernel) ⟨(Nat.le_of_ble_eq_true rfl), (Nat.le_of_ble_eq_true rfl)⟩) (tm_preV hK hN hV hS hPc hDc hFc (va_recv hK hPc (ci := 8) (q0 := 0) rfl rfl)) rfl rfl hl.1 rfl (lv_room (Nat.le_of_ble_eq_true rfl)) dX7_hours_27 ⟨(Nat.le_of_ble_eq_true rfl), (Nat.le_of_ble_eq_true rfl)⟩) hS (fun q _ h => hFc q h) hFc (fun r_3 u t H locs ht hvm hw_3 hB hz1 hk1 hS => ?_)
    obtain ⟨u_4, rfl⟩ : ∃ z, z = u := ⟨_, rfl⟩
    obtain ⟨hP1, hD1⟩ := hB
    rw [ht] at hP1
    try dsimp only at hw_3
    obtain ⟨hP, hD⟩ := va_join (wr := [tc_X6 ma tk mo su lv si ga sl sc fh lh fo ee pn e0 e1 e2 e3 e4 e5 a0]) (w1 := [tc_X7 a0 u_4 ma rf lk pu tl lo]) hP hD [0] [1] rfl rfl (by decide) (by decide) hk1 hFc hP1 hD1
    have hP : va_P G.1 vwCl [tc_X6 ma tk mo su lv si ga sl sc fh lh fo ee pn e0 e1 e2 e3 e4 e5 a0, tc_X7 a0 u_4 ma rf lk pu tl lo] H := hP
    have hD : va_D A [tc_X6 ma tk mo su lv si ga sl sc fh lh fo ee pn e0 e1 e2 e3 e4 e5 a0, tc_X7 a0 u_4 ma rf lk pu tl lo] := hD
    refine lv_if_le (tgt := 37) hx hb dX7_hours_30 (by decide) (fun c_5 => ?_) (fun c_5 => ?_)
    · refine lv_iconst (v := 0) hx hb dX7_hours_37 (by decide) ?_
      have hP9 := hP.sub (ws' := [tc_X7 a0 u_4 ma rf lk pu tl lo, tc_X6 ma tk mo su lv si ga sl sc fh lh fo ee pn e0 e1 e2 e3 e4 e5 a0]) [1, 0] rfl
      have hD9 := hD.sub (ws' := [tc_X7 a0 u_4 ma rf lk pu tl lo, tc_X6 ma tk mo su lv si ga sl sc fh lh fo ee pn e0 e1 e2 e3 e4 e5 a0]) [1, 0] (by decide) rfl
      exact W.zret (v := 0) hx hb hr rfl (fun t ht hW => ⟨⟨0, (u_4, fh, lh), rfl, by unfold f_X7_hours; all_goals (rw [if_pos c_2]); all_goals (rw [← hw_3]); all_goals (dsimp only); all_goals (rw [if_pos c_5]); all_goals rfl, by rw [ht]; exact hP9, hD9⟩, hS.F ht⟩) hS.2.2 dX7_hours_38
    · refine lv_iconst (v := 1) hx hb dX7_hours_33 (by decide) ?_
      refine lv_goto (tgt := 38) hx hb dX7_hours_34 (by decide) ?_
      have hP9 := hP.sub (ws' := [tc_X7 a0 u_4 ma rf lk pu tl lo, tc_X6 ma tk mo su lv si ga sl sc fh lh fo ee pn e0 e1 e2 e3 e4 e5 a0]) [1, 0] rfl
      have hD9 := hD.sub (ws' := [tc_X7 a0 u_4 ma rf lk pu tl lo, tc_X6 ma tk mo su lv si ga sl sc fh lh fo ee pn e0 e1 e2 e3 e4 e5 a0]) [1, 0] (by decide) rfl
      exact W.zret (v := 1) hx hb hr rfl (fun t ht hW => ⟨⟨1, (u_4, fh, lh), rfl, by unfold f_X7_hours; all_goals (rw [if_pos c_2]); all_goals (rw [← hw_3]); all_goals (dsimp only); all_goals (rw [if_neg c_5]); all_goals rfl, by rw [ht]; exact hP9, hD9⟩, hS.F ht⟩) hS.2.2 dX7_hours_38
  · refine lv_iload_n hx hb dX7_hours_15 rfl (lv_at hl 2 rfl) ?_
    refine lv_iconst (v := 0) hx hb dX7_hours_16 (by decide) ?_
    refine lv_bipush (v := 47) hx hb dX7_hours_17 (by decide) ?_
    have hPc := hP.sub (ws' := []) [] rfl
    have hDc := hD.sub (ws' := []) [] (by decide) rfl
    have hFc := va_free (wc := []) hD hS hA [] rfl
    refine va_calli (va_runS (As := [.int p2, .int 0, .int 47]) (rest := []) ⟨hx, hb, hml, hown, hts⟩ (c_X7_in l G  H.size p2 0 47 ) (cwS 3 hts gX7_hours_X7_in rfl rfl rfl (by decide +kernel) ⟨(Nat.le_of_ble_eq_true rfl), (Nat.le_of_ble_eq_true rfl)⟩) (tm_preS hK hN hV hS hPc hDc hFc) rfl rfl hl.1 rfl (lv_room (Nat.le_of_ble_eq_true rfl)) dX7_hours_19 ⟨(Nat.le_of_ble_eq_true rfl), (Nat.le_of_ble_eq_true rfl)⟩) hS (fun q _ h => hFc q h) hFc (fun r_6 u t H locs ht hvm hw_6 hB hz1 hk1 hS => ?_)
    obtain ⟨hP1, hD1⟩ := hB
    rw [ht] at hP1
    try dsimp only at hw_6
    obtain ⟨hP, hD⟩ := va_join (wr := [tc_X7 a0 0 ma rf lk pu tl lo, tc_X6 ma tk mo su lv si ga sl sc fh lh fo ee pn e0 e1 e2 e3 e4 e5 a0]) (w1 := []) hP hD [] [0, 1] rfl rfl (by decide) (by decide) hk1 hFc hP1 hD1
    have hP : va_P G.1 vwCl [tc_X7 a0 0 ma rf lk pu tl lo, tc_X6 ma tk mo su lv si ga sl sc fh lh fo ee pn e0 e1 e2 e3 e4 e5 a0] H := hP
    have hD : va_D A [tc_X7 a0 0 ma rf lk pu tl lo, tc_X6 ma tk mo su lv si ga sl sc fh lh fo ee pn e0 e1 e2 e3 e4 e5 a0] := hD
    subst r_6
    refine lv_if_ne (tgt := 39) hx hb dX7_hours_22 (by decide) (fun c_7 => ?_) (fun c_7 => ?_)
    · refine lv_aload_n hx hb dX7_hours_39 rfl (lv_at hl 0 rfl) ?_
      refine va_get (D := G.1) (ci := 8) (v := .ref ma) (C := RX7) (T := TX7) (N := 7) hx hb hts hiX7 hown hK hP 0 rfl rfl 1 (by decide) (hts (.fieldLink RX7 12 "TideMillModel" "mill" "LTideMillModel$Mill;") (List.mem_of_getElem? (i := 2) rfl)) (fun _ h9 => h9) rfl dX7_hours_40 ?_
      refine lv_iload_n hx hb dX7_hours_43 rfl (lv_at hl 1 rfl) ?_
      refine va_put (D := G.1) (ci := 7) (v := .int p1) (ty := .int) (C := RX6) (T := TX6) (N := 20) hx hb hts hiX6 tyX6 tyX6_ok nmX6 hown hK hP hD hS 1 rfl rfl 8 (by decide) (hts (.fieldLink RX7 88 "TideMillModel$Mill" "from" "I") (List.mem_of_getElem? (i := 3) rfl)) (fun _ h9 => h9) rfl (by decide +kernel) rfl rfl (Nat.le_of_ble_eq_true rfl) dX7_hours_44 (fun H locs hP hD hS => ?_)
      have hP : va_P G.1 vwCl [tc_X7 a0 0 ma rf lk pu tl lo, tc_X6 ma tk mo su lv si ga sl sc p1 lh fo ee pn e0 e1 e2 e3 e4 e5 a0] H := hP
      have hD : va_D A [tc_X7 a0 0 ma rf lk pu tl lo, tc_X6 ma tk mo su lv si ga sl sc p1 lh fo ee pn e0 e1 e2 e3 e4 e5 a0] := hD
      refine lv_aload_n hx hb dX7_hours_47 rfl (lv_at hl 0 rfl) ?_
      refine va_get (D := G.1) (ci := 8) (v := .ref ma) (C := RX7) (T := TX7) (N := 7) hx hb hts hiX7 hown hK hP 0 rfl rfl 1 (by decide) (hts (.fieldLink RX7 12 "TideMillModel" "mill" "LTideMillModel$Mill;") (List.mem_of_getElem? (i := 2) rfl)) (fun _ h9 => h9) rfl dX7_hours_48 ?_
      refine lv_iload_n hx hb dX7_hours_51 rfl (lv_at hl 2 rfl) ?_
      refine va_put (D := G.1) (ci := 7) (v := .int p2) (ty := .int) (C := RX6) (T := TX6) (N := 20) hx hb hts hiX6 tyX6 tyX6_ok nmX6 hown hK hP hD hS 1 rfl rfl 9 (by decide) (hts (.fieldLink RX7 91 "TideMillModel$Mill" "to" "I") (List.mem_of_getElem? (i := 4) rfl)) (fun _ h9 => h9) rfl (by decide +kernel) rfl rfl (Nat.le_of_ble_eq_true rfl) dX7_hours_52 (fun H locs hP hD hS => ?_)
      have hP : va_P G.1 vwCl [tc_X7 a0 0 ma rf lk pu tl lo, tc_X6 ma tk mo su lv si ga sl sc p1 p2 fo ee pn e0 e1 e2 e3 e4 e5 a0] H := hP
      have hD : va_D A [tc_X7 a0 0 ma rf lk pu tl lo, tc_X6 ma tk mo su lv si ga sl sc p1 p2 fo ee pn e0 e1 e2 e3 e4 e5 a0] := hD
      refine lv_aload_n hx hb dX7_hours_55 rfl (lv_at hl 0 rfl) ?_
      refine va_get (D := G.1) (ci := 8) (v := .ref ma) (C := RX7) (T := TX7) (N := 7) hx hb hts hiX7 hown hK hP 0 rfl rfl 1 (by decide) (hts (.fieldLink RX7 12 "TideMillModel" "mill" "LTideMillModel$Mill;") (List.mem_of_getElem? (i := 2) rfl)) (fun _ h9 => h9) rfl dX7_hours_56 ?_
      have hPc := hP.sub (ws' := [tc_X6 ma tk mo su lv si ga sl sc p1 p2 fo ee pn e0 e1 e2 e3 e4 e5 a0]) [1] rfl
      have hDc := hD.sub (ws' := [tc_X6 ma tk mo su lv si ga sl sc p1 p2 fo ee pn e0 e1 e2 e3 e4 e5 a0]) [1] (by decide) rfl
      have hFc := va_free (wc := [tc_X6 ma tk mo su lv si ga sl sc p1 p2 fo ee pn e0 e1 e2 e3 e4 e5 a0]) hD hS hA [1] rfl
      refine va_calli (va_runV (As := []) (rest := []) ⟨hx, hb, hml, hown, hts⟩ (c_X6_isAwake l G ma e0 e1 e2 e3 e4 e5 a0 H.size tk mo su lv si ga sl sc p1 p2 fo ee pn ) (cwV 0 hts gX7_hours_X6_isAwake rfl rfl rfl (by decide +kernel) ⟨(Nat.le_of_ble_eq_true rfl), (Nat.le_of_ble_eq_true rfl)⟩) (tm_preV hK hN hV hS hPc hDc hFc (va_recv hK hPc (ci := 7) (q0 := 0) rfl rfl)) rfl rfl hl.1 rfl (lv_room (Nat.le_of_ble_eq_true rfl)) dX7_hours_59 ⟨(Nat.le_of_ble_eq_true rfl), (Nat.le_of_ble_eq_true rfl)⟩) hS (fun q _ h => hFc q h) hFc (fun r_8 u t H locs ht hvm hw_8 hB hz1 hk1 hS => ?_)
      obtain ⟨hP1, hD1⟩ := hB
      rw [ht] at hP1
      try dsimp only at hw_8
      obtain ⟨hP, hD⟩ := va_join (wr := [tc_X7 a0 0 ma rf lk pu tl lo]) (w1 := [tc_X6 ma tk mo su lv si ga sl sc p1 p2 fo ee pn e0 e1 e2 e3 e4 e5 a0]) hP hD [1] [0] rfl rfl (by decide) (by decide) hk1 hFc hP1 hD1
      have hP : va_P G.1 vwCl [tc_X7 a0 0 ma rf lk pu tl lo, tc_X6 ma tk mo su lv si ga sl sc p1 p2 fo ee pn e0 e1 e2 e3 e4 e5 a0] H := hP
      have hD : va_D A [tc_X7 a0 0 ma rf lk pu tl lo, tc_X6 ma tk mo su lv si ga sl sc p1 p2 fo ee pn e0 e1 e2 e3 e4 e5 a0] := hD
      subst r_8
      have hP9 := hP.sub (ws' := [tc_X7 a0 0 ma rf lk pu tl lo, tc_X6 ma tk mo su lv si ga sl sc p1 p2 fo ee pn e0 e1 e2 e3 e4 e5 a0]) [0, 1] rfl
      have hD9 := hD.sub (ws' := [tc_X7 a0 0 ma rf lk pu tl lo, tc_X6 ma tk mo su lv si ga sl sc p1 p2 fo ee pn e0 e1 e2 e3 e4 e5 a0]) [0, 1] (by decide) rfl
      exact W.zret (v := f_X6_isAwake tk p1 p2) hx hb hr (tm_bool_n (n_9 c_2 c_7)) (fun t ht hW => ⟨⟨f_X6_isAwake tk p1 p2, (0, p1, p2), rfl, by unfold f_X7_hours; all_goals (rw [if_neg c_2]); all_goals (rw [if_neg c_7]); all_goals rfl, by rw [ht]; exact hP9, hD9⟩, hS.F ht⟩) hS.2.2 dX7_hours_62
    · refine lv_aload_n hx hb dX7_hours_25 rfl (lv_at hl 0 rfl) ?_
      refine lv_iconst (v := 1) hx hb dX7_hours_26 (by decide) ?_
      have hPc := hP.sub (ws' := [tc_X7 a0 0 ma rf lk pu tl lo]) [0] rfl
      have hDc := hD.sub (ws' := [tc_X7 a0 0 ma rf lk pu tl lo]) [0] (by decide) rfl
      have hFc := va_free (wc := [tc_X7 a0 0 ma rf lk pu tl lo]) hD hS hA [0] rfl
      refine va_calli (va_runV (As := [.int 1]) (rest := []) ⟨hx, hb, hml, hown, hts⟩ (c_X7_no l G a0 ma lo H.size 0 rf lk pu tl 1 ) (cwV 1 hts gX7_hours_X7_no rfl rfl rfl (by decide +kernel) ⟨(Nat.le_of_ble_eq_true rfl), (Nat.le_of_ble_eq_true rfl)⟩) (tm_preV hK hN hV hS hPc hDc hFc (va_recv hK hPc (ci := 8) (q0 := 0) rfl rfl)) rfl rfl hl.1 rfl (lv_room (Nat.le_of_ble_eq_true rfl)) dX7_hours_27 ⟨(Nat.le_of_ble_eq_true rfl), (Nat.le_of_ble_eq_true rfl)⟩) hS (fun q _ h => hFc q h) hFc (fun r_10 u t H locs ht hvm hw_10 hB hz1 hk1 hS => ?_)
      obtain ⟨u_11, rfl⟩ : ∃ z, z = u := ⟨_, rfl⟩
      obtain ⟨hP1, hD1⟩ := hB
      rw [ht] at hP1
      try dsimp only at hw_10
      obtain ⟨hP, hD⟩ := va_join (wr := [tc_X6 ma tk mo su lv si ga sl sc fh lh fo ee pn e0 e1 e2 e3 e4 e5 a0]) (w1 := [tc_X7 a0 u_11 ma rf lk pu tl lo]) hP hD [0] [1] rfl rfl (by decide) (by decide) hk1 hFc hP1 hD1
      have hP : va_P G.1 vwCl [tc_X6 ma tk mo su lv si ga sl sc fh lh fo ee pn e0 e1 e2 e3 e4 e5 a0, tc_X7 a0 u_11 ma rf lk pu tl lo] H := hP
      have hD : va_D A [tc_X6 ma tk mo su lv si ga sl sc fh lh fo ee pn e0 e1 e2 e3 e4 e5 a0, tc_X7 a0 u_11 ma rf lk pu tl lo] := hD
      refine lv_if_le (tgt := 37) hx hb dX7_hours_30 (by decide) (fun c_12 => ?_) (fun c_12 => ?_)
      · refine lv_iconst (v := 0) hx hb dX7_hours_37 (by decide) ?_
        have hP9 := hP.sub (ws' := [tc_X7 a0 u_11 ma rf lk pu tl lo, tc_X6 ma tk mo su lv si ga sl sc fh lh fo ee pn e0 e1 e2 e3 e4 e5 a0]) [1, 0] rfl
        have hD9 := hD.sub (ws' := [tc_X7 a0 u_11 ma rf lk pu tl lo, tc_X6 ma tk mo su lv si ga sl sc fh lh fo ee pn e0 e1 e2 e3 e4 e5 a0]) [1, 0] (by decide) rfl
        exact W.zret (v := 0) hx hb hr rfl (fun t ht hW => ⟨⟨0, (u_11, fh, lh), rfl, by unfold f_X7_hours; all_goals (rw [if_neg c_2]); all_goals (rw [if_pos c_7]); all_goals (rw [← hw_10]); all_goals (dsimp only); all_goals (rw [if_pos c_12]); all_goals rfl, by rw [ht]; exact hP9, hD9⟩, hS.F ht⟩) hS.2.2 dX7_hours_38
      · refine lv_iconst (v := 1) hx hb dX7_hours_33 (by decide) ?_
        refine lv_goto (tgt := 38) hx hb dX7_hours_34 (by decide) ?_
        have hP9 := hP.sub (ws' := [tc_X7 a0 u_11 ma rf lk pu tl lo, tc_X6 ma tk mo su lv si ga sl sc fh lh fo ee pn e0 e1 e2 e3 e4 e5 a0]) [1, 0] rfl
        have hD9 := hD.sub (ws' := [tc_X7 a0 u_11 ma rf lk pu tl lo, tc_X6 ma tk mo su lv si ga sl sc fh lh fo ee pn e0 e1 e2 e3 e4 e5 a0]) [1, 0] (by decide) rfl
        exact W.zret (v := 1) hx hb hr rfl (fun t ht hW => ⟨⟨1, (u_11, fh, lh), rfl, by unfold f_X7_hours; all_goals (rw [if_neg c_2]); all_goals (rw [if_pos c_7]); all_goals (rw [← hw_10]); all_goals (dsimp only); all_goals (rw [if_neg c_12]); all_goals rfl, by rw [ht]; exact hP9, hD9⟩, hS.F ht⟩) hS.2.2 dX7_hours_38
set_option maxHeartbeats 4000000 in
set_option maxRecDepth 100000 in
theorem c_X7_lock (l : Launch) (G : tm_G) (a0 : Nat) (ma : Nat) (lo : Nat) (sz : Nat) (th : Int32) (rf : Int32) (lk : Int32) (pu : Int32) (tl : UInt64) (p1 : Int32) (hn : n_X7_lock lk p1) : Met l yX7_lock wsX7_lock ({ frames := 0, cells := 0, slots := 0, locals := 0 }) (va_Pc [.ref a0, .int p1] (tm_B G [tc_X7 a0 th ma rf lk pu tl lo] sz)) (va_Qi (fun (r : Int32) (u : Int32 × Int32) => (r, u) = f_X7_lock lk p1) (fun (u : Int32 × Int32) (t : State) => va_P G.1 vwCl [tc_X7 a0 u.1 ma rf u.2 pu tl lo] t.heap ∧ va_D (va_A [tc_X7 a0 th ma rf lk pu tl lo] sz) [tc_X7 a0 u.1 ma rf u.2 pu tl lo]) (va_A [tc_X7 a0 th ma rf lk pu tl lo] sz)) 0 0 (va_A [tc_X7 a0 th ma rf lk pu tl lo] sz) := by
  refine Met.ofW (cc := cX7_lock) (maxL := 3) (ret := (some .boolean)) (by decide) rfl ?_
  intro p e s m args below meth c s₁ B hml hv
  obtain ⟨rfl, hsz, hP, hK, hD0, hN, hV⟩ := hv
  have hx := B.exec
  have hb := B.bytes
  have hr := B.returns
  have hts := atoms_spec (ws := wsX7_lock) B.pre
  have hown : s.vm.findClass RX7 = some m.cls := findClass_of_methodNamed B.named
  have hlocks := B.notSynchronized
  subst hsz
  obtain ⟨n_1, n_2⟩ := hn
  have hiX7 : ∀ w ∈ u_ws RX7 TX7 7, w ∈ wsX7_lock := fun _ h => List.mem_cons_of_mem _ (List.mem_append_right _ h)
  have hD := hD0.self (sz := s.heap.size)
  generalize hAe : va_A [tc_X7 a0 th ma rf lk pu tl lo] s.heap.size = A at hD hV ⊢
  have hA : ∀ q : Nat, s.heap.size ≤ q → A q := fun q h => by rw [← hAe]; exact Or.inr h
  have hS : va_S A s.heap s.heap [] := va_S.rf
  have hl := lv_entry ([.ref a0, .int p1]) (n := 3) (Nat.le_of_ble_eq_true rfl)
  rw [lg_entry_eq]
  generalize (lg_sl ([.ref a0, .int p1]) ++ List.replicate (3 - (lg_sl ([.ref a0, .int p1])).length) Slot.unset).toArray = ls at hl ⊢
  have hl : lv_has ls 3 [(0, .ref a0), (1, .int p1)] := hl
  refine lv_aload_n hx hb dX7_lock_0 rfl (lv_at hl 0 rfl) ?_
  refine lv_iconst (v := 0) hx hb dX7_lock_1 (by decide) ?_
  refine va_put (D := G.1) (ci := 8) (v := .int 0) (ty := .int) (C := RX7) (T := TX7) (N := 7) hx hb hts hiX7 tyX7 tyX7_ok nmX7 hown hK hP hD hS 0 rfl rfl 0 (by decide) (hts (.fieldLink RX7 25 "TideMillModel" "thrown" "I") (List.mem_of_getElem? (i := 1) rfl)) (fun _ h9 => h9) rfl (by decide +kernel) rfl rfl (Nat.le_of_ble_eq_true rfl) dX7_lock_2 (fun H locs hP hD hS => ?_)
  have hP : va_P G.1 vwCl [tc_X7 a0 0 ma rf lk pu tl lo] H := hP
  have hD : va_D A [tc_X7 a0 0 ma rf lk pu tl lo] := hD
  refine lv_aload_n hx hb dX7_lock_5 rfl (lv_at hl 0 rfl) ?_
  refine va_get (D := G.1) (ci := 8) (v := .int lk) (C := RX7) (T := TX7) (N := 7) hx hb hts hiX7 hown hK hP 0 rfl rfl 3 (by decide) (hts (.fieldLink RX7 75 "TideMillModel" "isLocked" "Z") (List.mem_of_getElem? (i := 2) rfl)) (fun _ h9 => h9) rfl dX7_lock_6 ?_
  refine lv_istore_n (lv' := [(2, .int lk), (0, .ref a0), (1, .int p1)]) hx hb dX7_lock_9 rfl hl (by decide) rfl (fun ls hl => ?_)
  refine lv_aload_n hx hb dX7_lock_10 rfl (lv_at hl 1 rfl) ?_
  refine lv_iload_n hx hb dX7_lock_11 rfl (lv_at hl 2 rfl) ?_
  refine va_put (D := G.1) (ci := 8) (v := .int p1) (ty := .boolean) (C := RX7) (T := TX7) (N := 7) hx hb hts hiX7 tyX7 tyX7_ok nmX7 hown hK hP hD hS 0 rfl rfl 3 (by decide) (hts (.fieldLink RX7 75 "TideMillModel" "isLocked" "Z") (List.mem_of_getElem? (i := 2) rfl)) (fun _ h9 => h9) rfl (by decide +kernel) (tm_bool_n n_1) (tm_bool_f n_1) (Nat.le_of_ble_eq_true rfl) dX7_lock_12 (fun H locs hP hD hS => ?_)
  have hP : va_P G.1 vwCl [tc_X7 a0 0 ma rf p1 pu tl lo] H := hP
  have hD : va_D A [tc_X7 a0 0 ma rf p1 pu tl lo] := hD
  refine lv_iload_n hx hb dX7_lock_15 rfl (lv_at hl 0 rfl) ?_
  have hP9 := hP.sub (ws' := [tc_X7 a0 0 ma rf p1 pu tl lo]) [0] rfl
  have hD9 := hD.sub (ws' := [tc_X7 a0 0 ma rf p1 pu tl lo]) [0] (by decide) rfl
  exact W.zret (v := lk) hx hb hr (tm_bool_n n_2) (fun t ht hW => ⟨⟨lk, (0, p1), rfl, by unfold f_X7_lock; all_goals rfl, by rw [ht]; exact hP9, hD9⟩, hS.F ht⟩) hS.2.2 dX7_lock_16
set_option maxHeartbeats 4000000 in
set_option maxRecDepth 100000 in
theorem c_X7_bell (l : Launch) (G : tm_G) (a0 : Nat) (ma : Nat) (lo : Nat) (sz : Nat) (th : Int32) (rf : Int32) (lk : Int32) (pu : Int32) (tl : UInt64) : Met l yX7_bell wsX7_bell ({ frames := 0, cells := 0, slots := 0, locals := 0 }) (va_Pc [.ref a0] (tm_B G [tc_X7 a0 th ma rf lk pu tl lo] sz)) (va_Qi (fun (r : Int32) (u : Int32 × Int32) => (r, u) = f_X7_bell rf) (fun (u : Int32 × Int32) (t : State) => va_P G.1 vwCl [tc_X7 a0 u.1 ma u.2 lk pu tl lo] t.heap ∧ va_D (va_A [tc_X7 a0 th ma rf lk pu tl lo] sz) [tc_X7 a0 u.1 ma u.2 lk pu tl lo]) (va_A [tc_X7 a0 th ma rf lk pu tl lo] sz)) 0 0 (va_A [tc_X7 a0 th ma rf lk pu tl lo] sz) := by
  refine Met.ofW (cc := cX7_bell) (maxL := 1) (ret := (some .int)) (by decide) rfl ?_
  intro p e s m args below meth c s₁ B hml hv
  obtain ⟨rfl, hsz, hP, hK, hD0, hN, hV⟩ := hv
  have hx := B.exec
  have hb := B.bytes
  have hr := B.returns
  have hts := atoms_spec (ws := wsX7_bell) B.pre
  have hown : s.vm.findClass RX7 = some m.cls := findClass_of_methodNamed B.named
  have hlocks := B.notSynchronized
  subst hsz
  have hiX7 : ∀ w ∈ u_ws RX7 TX7 7, w ∈ wsX7_bell := fun _ h => List.mem_cons_of_mem _ (List.mem_append_right _ h)
  have hD := hD0.self (sz := s.heap.size)
  generalize hAe : va_A [tc_X7 a0 th ma rf lk pu tl lo] s.heap.size = A at hD hV ⊢
  have hA : ∀ q : Nat, s.heap.size ≤ q → A q := fun q h => by rw [← hAe]; exact Or.inr h
  have hS : va_S A s.heap s.heap [] := va_S.rf
  have hl := lv_entry ([.ref a0]) (n := 1) (Nat.le_of_ble_eq_true rfl)
  rw [lg_entry_eq]
  generalize (lg_sl ([.ref a0]) ++ List.replicate (1 - (lg_sl ([.ref a0])).length) Slot.unset).toArray = ls at hl ⊢
  have hl : lv_has ls 1 [(0, .ref a0)] := hl
  refine lv_aload_n hx hb dX7_bell_0 rfl (lv_at hl 0 rfl) ?_
  refine lv_iconst (v := 0) hx hb dX7_bell_1 (by decide) ?_
  refine va_put (D := G.1) (ci := 8) (v := .int 0) (ty := .int) (C := RX7) (T := TX7) (N := 7) hx hb hts hiX7 tyX7 tyX7_ok nmX7 hown hK hP hD hS 0 rfl rfl 0 (by decide) (hts (.fieldLink RX7 25 "TideMillModel" "thrown" "I") (List.mem_of_getElem? (i := 1) rfl)) (fun _ h9 => h9) rfl (by decide +kernel) rfl rfl (Nat.le_of_ble_eq_true rfl) dX7_bell_2 (fun H locs hP hD hS => ?_)
  have hP : va_P G.1 vwCl [tc_X7 a0 0 ma rf lk pu tl lo] H := hP
  have hD : va_D A [tc_X7 a0 0 ma rf lk pu tl lo] := hD
  refine lv_aload_n hx hb dX7_bell_5 rfl (lv_at hl 0 rfl) ?_
  refine lv_dup hx hb dX7_bell_6 rfl ?_
  refine va_get (D := G.1) (ci := 8) (v := .int rf) (C := RX7) (T := TX7) (N := 7) hx hb hts hiX7 hown hK hP 0 rfl rfl 2 (by decide) (hts (.fieldLink RX7 98 "TideMillModel" "refused" "I") (List.mem_of_getElem? (i := 2) rfl)) (fun _ h9 => h9) rfl dX7_bell_7 ?_
  refine lv_iconst (v := 1) hx hb dX7_bell_10 (by decide) ?_
  refine lv_iadd hx hb dX7_bell_11 ?_
  refine va_put (D := G.1) (ci := 8) (v := .int (rf + 1)) (ty := .int) (C := RX7) (T := TX7) (N := 7) hx hb hts hiX7 tyX7 tyX7_ok nmX7 hown hK hP hD hS 0 rfl rfl 2 (by decide) (hts (.fieldLink RX7 98 "TideMillModel" "refused" "I") (List.mem_of_getElem? (i := 2) rfl)) (fun _ h9 => h9) rfl (by decide +kernel) rfl rfl (Nat.le_of_ble_eq_true rfl) dX7_bell_12 (fun H locs hP hD hS => ?_)
  have hP : va_P G.1 vwCl [tc_X7 a0 0 ma (rf + 1) lk pu tl lo] H := hP
  have hD : va_D A [tc_X7 a0 0 ma (rf + 1) lk pu tl lo] := hD
  refine lv_aload_n hx hb dX7_bell_15 rfl (lv_at hl 0 rfl) ?_
  refine va_get (D := G.1) (ci := 8) (v := .int (rf + 1)) (C := RX7) (T := TX7) (N := 7) hx hb hts hiX7 hown hK hP 0 rfl rfl 2 (by decide) (hts (.fieldLink RX7 98 "TideMillModel" "refused" "I") (List.mem_of_getElem? (i := 2) rfl)) (fun _ h9 => h9) rfl dX7_bell_16 ?_
  have hP9 := hP.sub (ws' := [tc_X7 a0 0 ma (rf + 1) lk pu tl lo]) [0] rfl
  have hD9 := hD.sub (ws' := [tc_X7 a0 0 ma (rf + 1) lk pu tl lo]) [0] (by decide) rfl
  exact W.iret (v := rf + 1) hx hb hr (fun t ht hW => ⟨⟨rf + 1, (0, rf + 1), rfl, by unfold f_X7_bell; all_goals rfl, by rw [ht]; exact hP9, hD9⟩, hS.F ht⟩) hS.2.2 dX7_bell_19
set_option maxHeartbeats 4000000 in
set_option maxRecDepth 100000 in
theorem c_X7_pair (l : Launch) (G : tm_G) (a0 : Nat) (ma : Nat) (lo : Nat) (e0 : Nat) (e1 : Nat) (e2 : Nat) (e3 : Nat) (e4 : Nat) (e5 : Nat) (sz : Nat) (th : Int32) (rf : Int32) (lk : Int32) (pu : Int32) (tl : UInt64) (tk : Int32) (mo : Int32) (su : UInt64) (lv : UInt64) (si : UInt32) (ga : Int32) (sl : Int32) (sc : Int32) (fh : Int32) (lh : Int32) (fo : UInt64) (ee : Int32) (pn : Int32) (pl : Nat → Int32) (hn : n_X7_pair pn) : Met l yX7_pair wsX7_pair ({ frames := 1, cells := 0, slots := 0, locals := 21 }) (va_Pc [.ref a0] (tm_B G [tc_X7 a0 th ma rf lk pu tl lo, tc_X6 ma tk mo su lv si ga sl sc fh lh fo ee pn e0 e1 e2 e3 e4 e5 a0, tc_I G e1 3 pl] sz)) (va_Qi (fun (r : Int32) (u : Int32 × Int32 × (Nat → Int32)) => (r, u) = f_X7_pair pn pl) (fun (u : Int32 × Int32 × (Nat → Int32)) (t : State) => va_P G.1 vwCl [tc_X7 a0 u.1 ma rf lk pu tl lo, tc_X6 ma tk mo su lv si ga sl sc fh lh fo ee u.2.1 e0 e1 e2 e3 e4 e5 a0, tc_I G e1 3 u.2.2] t.heap ∧ va_D (va_A [tc_X7 a0 th ma rf lk pu tl lo, tc_X6 ma tk mo su lv si ga sl sc fh lh fo ee pn e0 e1 e2 e3 e4 e5 a0, tc_I G e1 3 pl] sz) [tc_X7 a0 u.1 ma rf lk pu tl lo, tc_X6 ma tk mo su lv si ga sl sc fh lh fo ee u.2.1 e0 e1 e2 e3 e4 e5 a0, tc_I G e1 3 u.2.2]) (va_A [tc_X7 a0 th ma rf lk pu tl lo, tc_X6 ma tk mo su lv si ga sl sc fh lh fo ee pn e0 e1 e2 e3 e4 e5 a0, tc_I G e1 3 pl] sz)) 0 0 (va_A [tc_X7 a0 th ma rf lk pu tl lo, tc_X6 ma tk mo su lv si ga sl sc fh lh fo ee pn e0 e1 e2 e3 e4 e5 a0, tc_I G e1 3 pl] sz) := by
  refine Met.ofW (cc := cX7_pair) (maxL := 1) (ret := (some .int)) (by decide) rfl ?_
  intro p e s m args below meth c s₁ B hml hv
  obtain ⟨rfl, hsz, hP, hK, hD0, hN, hV⟩ := hv
  have hx := B.exec
  have hb := B.bytes
  have hr := B.returns
  have hts := atoms_spec (ws := wsX7_pair) B.pre
  have hown : s.vm.findClass RX7 = some m.cls := findClass_of_methodNamed B.named
  have hlocks := B.notSynchronized
  subst hsz
  have n_2 := hn
  unfold n_X7_pair at n_2
  have hiX6 : ∀ w ∈ u_ws RX6 TX6 20, w ∈ wsX7_pair := fun _ h => List.mem_cons_of_mem _ (List.mem_append_right _ h)
  have hiX7 : ∀ w ∈ u_ws RX7 TX7 7, w ∈ wsX7_pair := fun _ h => List.mem_cons_of_mem _ (List.mem_append_left _ (List.mem_append_right _ h))
  have hD := hD0.self (sz := s.heap.size)
  generalize hAe : va_A [tc_X7 a0 th ma rf lk pu tl lo, tc_X6 ma tk mo su lv si ga sl sc fh lh fo ee pn e0 e1 e2 e3 e4 e5 a0, tc_I G e1 3 pl] s.heap.size = A at hD hV ⊢
  have hA : ∀ q : Nat, s.heap.size ≤ q → A q := fun q h => by rw [← hAe]; exact Or.inr h
  have hS : va_S A s.heap s.heap [] := va_S.rf
  have hl := lv_entry ([.ref a0]) (n := 1) (Nat.le_of_ble_eq_true rfl)
  rw [lg_entry_eq]
  generalize (lg_sl ([.ref a0]) ++ List.replicate (1 - (lg_sl ([.ref a0])).length) Slot.unset).toArray = ls at hl ⊢
  have hl : lv_has ls 1 [(0, .ref a0)] := hl
  refine lv_aload_n hx hb dX7_pair_0 rfl (lv_at hl 0 rfl) ?_
  refine lv_iconst (v := 0) hx hb dX7_pair_1 (by decide) ?_
  refine va_put (D := G.1) (ci := 8) (v := .int 0) (ty := .int) (C := RX7) (T := TX7) (N := 7) hx hb hts hiX7 tyX7 tyX7_ok nmX7 hown hK hP hD hS 0 rfl rfl 0 (by decide) (hts (.fieldLink RX7 25 "TideMillModel" "thrown" "I") (List.mem_of_getElem? (i := 1) rfl)) (fun _ h9 => h9) rfl (by decide +kernel) rfl rfl (Nat.le_of_ble_eq_true rfl) dX7_pair_2 (fun H locs hP hD hS => ?_)
  have hP : va_P G.1 vwCl [tc_X7 a0 0 ma rf lk pu tl lo, tc_X6 ma tk mo su lv si ga sl sc fh lh fo ee pn e0 e1 e2 e3 e4 e5 a0, tc_I G e1 3 pl] H := hP
  have hD : va_D A [tc_X7 a0 0 ma rf lk pu tl lo, tc_X6 ma tk mo su lv si ga sl sc fh lh fo ee pn e0 e1 e2 e3 e4 e5 a0, tc_I G e1 3 pl] := hD
  refine lv_aload_n hx hb dX7_pair_5 rfl (lv_at hl 0 rfl) ?_
  refine va_get (D := G.1) (ci := 8) (v := .ref ma) (C := RX7) (T := TX7) (N := 7) hx hb hts hiX7 hown hK hP 0 rfl rfl 1 (by decide) (hts (.fieldLink RX7 12 "TideMillModel" "mill" "LTideMillModel$Mill;") (List.mem_of_getElem? (i := 2) rfl)) (fun _ h9 => h9) rfl dX7_pair_6 ?_
  refine va_get (D := G.1) (ci := 7) (v := .int pn) (C := RX6) (T := TX6) (N := 20) hx hb hts hiX6 hown hK hP 1 rfl rfl 12 (by decide) (hts (.fieldLink RX7 45 "TideMillModel$Mill" "pairs" "I") (List.mem_of_getElem? (i := 3) rfl)) (fun _ h9 => h9) rfl dX7_pair_9 ?_
  refine lv_iconst (v := 3) hx hb dX7_pair_12 (by decide) ?_
  refine lv_icmp_ne (tgt := 22) hx hb dX7_pair_13 (by decide) (fun c_1 => ?_) (fun c_1 => ?_)
  · refine lv_aload_n hx hb dX7_pair_22 rfl (lv_at hl 0 rfl) ?_
    refine va_get (D := G.1) (ci := 8) (v := .ref ma) (C := RX7) (T := TX7) (N := 7) hx hb hts hiX7 hown hK hP 0 rfl rfl 1 (by decide) (hts (.fieldLink RX7 12 "TideMillModel" "mill" "LTideMillModel$Mill;") (List.mem_of_getElem? (i := 2) rfl)) (fun _ h9 => h9) rfl dX7_pair_23 ?_
    refine va_get (D := G.1) (ci := 7) (v := .ref e1) (C := RX6) (T := TX6) (N := 20) hx hb hts hiX6 hown hK hP 1 rfl rfl 14 (by decide) (hts (.fieldLink RX7 101 "TideMillModel$Mill" "lot" "[I") (List.mem_of_getElem? (i := 4) rfl)) (fun _ h9 => h9) rfl dX7_pair_26 ?_
    refine lv_aload_n hx hb dX7_pair_29 rfl (lv_at hl 0 rfl) ?_
    refine va_get (D := G.1) (ci := 8) (v := .ref ma) (C := RX7) (T := TX7) (N := 7) hx hb hts hiX7 hown hK hP 0 rfl rfl 1 (by decide) (hts (.fieldLink RX7 12 "TideMillModel" "mill" "LTideMillModel$Mill;") (List.mem_of_getElem? (i := 2) rfl)) (fun _ h9 => h9) rfl dX7_pair_30 ?_
    refine va_get (D := G.1) (ci := 7) (v := .int pn) (C := RX6) (T := TX6) (N := 20) hx hb hts hiX6 hown hK hP 1 rfl rfl 12 (by decide) (hts (.fieldLink RX7 45 "TideMillModel$Mill" "pairs" "I") (List.mem_of_getElem? (i := 3) rfl)) (fun _ h9 => h9) rfl dX7_pair_33 ?_
    refine lv_iconst (v := (-1)) hx hb dX7_pair_36 (by decide) ?_
    refine va_iast (n := 3) (f := pl) hx hb hK hP hD hS 2 0 rfl rfl (n_2 c_1) dX7_pair_37 (fun H locs hP hD hS => ?_)
    have hP : va_P G.1 vwCl [tc_X7 a0 0 ma rf lk pu tl lo, tc_X6 ma tk mo su lv si ga sl sc fh lh fo ee pn e0 e1 e2 e3 e4 e5 a0, tc_I G e1 3 (upd pl pn.toNatClampNeg (-1))] H := hP
    have hD : va_D A [tc_X7 a0 0 ma rf lk pu tl lo, tc_X6 ma tk mo su lv si ga sl sc fh lh fo ee pn e0 e1 e2 e3 e4 e5 a0, tc_I G e1 3 (upd pl pn.toNatClampNeg (-1))] := hD
    refine lv_aload_n hx hb dX7_pair_38 rfl (lv_at hl 0 rfl) ?_
    refine va_get (D := G.1) (ci := 8) (v := .ref ma) (C := RX7) (T := TX7) (N := 7) hx hb hts hiX7 hown hK hP 0 rfl rfl 1 (by decide) (hts (.fieldLink RX7 12 "TideMillModel" "mill" "LTideMillModel$Mill;") (List.mem_of_getElem? (i := 2) rfl)) (fun _ h9 => h9) rfl dX7_pair_39 ?_
    refine lv_dup hx hb dX7_pair_42 rfl ?_
    refine va_get (D := G.1) (ci := 7) (v := .int pn) (C := RX6) (T := TX6) (N := 20) hx hb hts hiX6 hown hK hP 1 rfl rfl 12 (by decide) (hts (.fieldLink RX7 45 "TideMillModel$Mill" "pairs" "I") (List.mem_of_getElem? (i := 3) rfl)) (fun _ h9 => h9) rfl dX7_pair_43 ?_
    refine lv_iconst (v := 1) hx hb dX7_pair_46 (by decide) ?_
    refine lv_iadd hx hb dX7_pair_47 ?_
    refine va_put (D := G.1) (ci := 7) (v := .int (pn + 1)) (ty := .int) (C := RX6) (T := TX6) (N := 20) hx hb hts hiX6 tyX6 tyX6_ok nmX6 hown hK hP hD hS 1 rfl rfl 12 (by decide) (hts (.fieldLink RX7 45 "TideMillModel$Mill" "pairs" "I") (List.mem_of_getElem? (i := 3) rfl)) (fun _ h9 => h9) rfl (by decide +kernel) rfl rfl (Nat.le_of_ble_eq_true rfl) dX7_pair_48 (fun H locs hP hD hS => ?_)
    have hP : va_P G.1 vwCl [tc_X7 a0 0 ma rf lk pu tl lo, tc_X6 ma tk mo su lv si ga sl sc fh lh fo ee (pn + 1) e0 e1 e2 e3 e4 e5 a0, tc_I G e1 3 (upd pl pn.toNatClampNeg (-1))] H := hP
    have hD : va_D A [tc_X7 a0 0 ma rf lk pu tl lo, tc_X6 ma tk mo su lv si ga sl sc fh lh fo ee (pn + 1) e0 e1 e2 e3 e4 e5 a0, tc_I G e1 3 (upd pl pn.toNatClampNeg (-1))] := hD
    refine lv_aload_n hx hb dX7_pair_51 rfl (lv_at hl 0 rfl) ?_
    refine va_get (D := G.1) (ci := 8) (v := .ref ma) (C := RX7) (T := TX7) (N := 7) hx hb hts hiX7 hown hK hP 0 rfl rfl 1 (by decide) (hts (.fieldLink RX7 12 "TideMillModel" "mill" "LTideMillModel$Mill;") (List.mem_of_getElem? (i := 2) rfl)) (fun _ h9 => h9) rfl dX7_pair_52 ?_
    refine va_get (D := G.1) (ci := 7) (v := .int (pn + 1)) (C := RX6) (T := TX6) (N := 20) hx hb hts hiX6 hown hK hP 1 rfl rfl 12 (by decide) (hts (.fieldLink RX7 45 "TideMillModel$Mill" "pairs" "I") (List.mem_of_getElem? (i := 3) rfl)) (fun _ h9 => h9) rfl dX7_pair_55 ?_
    refine lv_iconst (v := 1) hx hb dX7_pair_58 (by decide) ?_
    refine lv_isub hx hb dX7_pair_59 ?_
    have hP9 := hP.sub (ws' := [tc_X7 a0 0 ma rf lk pu tl lo, tc_X6 ma tk mo su lv si ga sl sc fh lh fo ee (pn + 1) e0 e1 e2 e3 e4 e5 a0, tc_I G e1 3 (upd pl pn.toNatClampNeg (-1))]) [0, 1, 2] rfl
    have hD9 := hD.sub (ws' := [tc_X7 a0 0 ma rf lk pu tl lo, tc_X6 ma tk mo su lv si ga sl sc fh lh fo ee (pn + 1) e0 e1 e2 e3 e4 e5 a0, tc_I G e1 3 (upd pl pn.toNatClampNeg (-1))]) [0, 1, 2] (by decide) rfl
    exact W.iret (v := (pn + 1) - 1) hx hb hr (fun t ht hW => ⟨⟨(pn + 1) - 1, (0, pn + 1, upd pl pn.toNatClampNeg (-1)), rfl, by unfold f_X7_pair; all_goals (rw [if_neg c_1]); all_goals rfl, by rw [ht]; exact hP9, hD9⟩, hS.F ht⟩) hS.2.2 dX7_pair_60
  · refine lv_aload_n hx hb dX7_pair_16 rfl (lv_at hl 0 rfl) ?_
    refine lv_iconst (v := 1) hx hb dX7_pair_17 (by decide) ?_
    have hPc := hP.sub (ws' := [tc_X7 a0 0 ma rf lk pu tl lo]) [0] rfl
    have hDc := hD.sub (ws' := [tc_X7 a0 0 ma rf lk pu tl lo]) [0] (by decide) rfl
    have hFc := va_free (wc := [tc_X7 a0 0 ma rf lk pu tl lo]) hD hS hA [0] rfl
    refine va_calli (va_runV (As := [.int 1]) (rest := []) ⟨hx, hb, hml, hown, hts⟩ (c_X7_no l G a0 ma lo H.size 0 rf lk pu tl 1 ) (cwV 1 hts gX7_pair_X7_no rfl rfl rfl (by decide +kernel) ⟨(Nat.le_of_ble_eq_true rfl), (Nat.le_of_ble_eq_true rfl)⟩) (tm_preV hK hN hV hS hPc hDc hFc (va_recv hK hPc (ci := 8) (q0 := 0) rfl rfl)) rfl rfl hl.1 rfl (lv_room (Nat.le_of_ble_eq_true rfl)) dX7_pair_18 ⟨(Nat.le_of_ble_eq_true rfl), (Nat.le_of_ble_eq_true rfl)⟩) hS (fun q _ h => hFc q h) hFc (fun r_3 u t H locs ht hvm hw_3 hB hz1 hk1 hS => ?_)
    obtain ⟨u_4, rfl⟩ : ∃ z, z = u := ⟨_, rfl⟩
    obtain ⟨hP1, hD1⟩ := hB
    rw [ht] at hP1
    try dsimp only at hw_3
    obtain ⟨hP, hD⟩ := va_join (wr := [tc_X6 ma tk mo su lv si ga sl sc fh lh fo ee pn e0 e1 e2 e3 e4 e5 a0, tc_I G e1 3 pl]) (w1 := [tc_X7 a0 u_4 ma rf lk pu tl lo]) hP hD [0] [1, 2] rfl rfl (by decide) (by decide) hk1 hFc hP1 hD1
    have hP : va_P G.1 vwCl [tc_X6 ma tk mo su lv si ga sl sc fh lh fo ee pn e0 e1 e2 e3 e4 e5 a0, tc_I G e1 3 pl, tc_X7 a0 u_4 ma rf lk pu tl lo] H := hP
    have hD : va_D A [tc_X6 ma tk mo su lv si ga sl sc fh lh fo ee pn e0 e1 e2 e3 e4 e5 a0, tc_I G e1 3 pl, tc_X7 a0 u_4 ma rf lk pu tl lo] := hD
    have hP9 := hP.sub (ws' := [tc_X7 a0 u_4 ma rf lk pu tl lo, tc_X6 ma tk mo su lv si ga sl sc fh lh fo ee pn e0 e1 e2 e3 e4 e5 a0, tc_I G e1 3 pl]) [2, 0, 1] rfl
    have hD9 := hD.sub (ws' := [tc_X7 a0 u_4 ma rf lk pu tl lo, tc_X6 ma tk mo su lv si ga sl sc fh lh fo ee pn e0 e1 e2 e3 e4 e5 a0, tc_I G e1 3 pl]) [2, 0, 1] (by decide) rfl
    exact W.iret (v := r_3) hx hb hr (fun t ht hW => ⟨⟨r_3, (u_4, pn, pl), rfl, by unfold f_X7_pair; all_goals (rw [if_pos c_1]); all_goals (rw [← hw_3]); all_goals (dsimp only); all_goals rfl, by rw [ht]; exact hP9, hD9⟩, hS.F ht⟩) hS.2.2 dX7_pair_21
set_option maxHeartbeats 4000000 in
set_option maxRecDepth 100000 in
theorem c_X7_feed (l : Launch) (G : tm_G) (a0 : Nat) (ma : Nat) (lo : Nat) (e0 : Nat) (e1 : Nat) (e2 : Nat) (e3 : Nat) (e4 : Nat) (e5 : Nat) (ed : Nat) (sz : Nat) (th : Int32) (rf : Int32) (lk : Int32) (pu : Int32) (tl : UInt64) (tk : Int32) (mo : Int32) (su : UInt64) (lv : UInt64) (si : UInt32) (ga : Int32) (sl : Int32) (sc : Int32) (fh : Int32) (lh : Int32) (fo : UInt64) (ee : Int32) (pn : Int32) (pl : Nat → Int32) (dr : Nat → Int32) (mc : Int32) (p1 : Int32) (p2 : Int32) (n : Nat) (ad : Nat → Nat) (rc : Nat → Nat → Int32) (hn : n_X7_feed pn pl dr p1 p2 n rc) : Met l yX7_feed wsX7_feed ({ frames := 4, cells := 0, slots := 0, locals := 87 }) (va_Pc [.ref a0, .int p1, .int p2] (tm_B G ([tc_X7 a0 th ma rf lk pu tl lo, tc_X6 ma tk mo su lv si ga sl sc fh lh fo ee pn e0 e1 e2 e3 e4 e5 a0, tc_I G e1 3 pl, tc_I G e2 3 dr, tc_Jx4a65c lo mc ed (nI n)] ++ tm_L G ed n ad rc) sz)) (va_Qi (fun (r : Int32) (u : (Nat → Nat → Int32) × Int32 × (Nat → Int32)) => (r, u) = f_X7_feed pn pl dr p1 p2 n rc) (fun (u : (Nat → Nat → Int32) × Int32 × (Nat → Int32)) (t : State) => va_P G.1 vwCl ([tc_X7 a0 u.2.1 ma rf lk pu tl lo, tc_X6 ma tk mo su lv si ga sl sc fh lh fo ee pn e0 e1 e2 e3 e4 e5 a0, tc_I G e1 3 u.2.2, tc_I G e2 3 dr, tc_Jx4a65c lo mc ed (nI n)] ++ tm_L G ed n ad u.1) t.heap ∧ va_D (va_A ([tc_X7 a0 th ma rf lk pu tl lo, tc_X6 ma tk mo su lv si ga sl sc fh lh fo ee pn e0 e1 e2 e3 e4 e5 a0, tc_I G e1 3 pl, tc_I G e2 3 dr, tc_Jx4a65c lo mc ed (nI n)] ++ tm_L G ed n ad rc) sz) ([tc_X7 a0 u.2.1 ma rf lk pu tl lo, tc_X6 ma tk mo su lv si ga sl sc fh lh fo ee pn e0 e1 e2 e3 e4 e5 a0, tc_I G e1 3 u.2.2, tc_I G e2 3 dr, tc_Jx4a65c lo mc ed (nI n)] ++ tm_L G ed n ad u.1)) (va_A ([tc_X7 a0 th ma rf lk pu tl lo, tc_X6 ma tk mo su lv si ga sl sc fh lh fo ee pn e0 e1 e2 e3 e4 e5 a0, tc_I G e1 3 pl, tc_I G e2 3 dr, tc_Jx4a65c lo mc ed (nI n)] ++ tm_L G ed n ad rc) sz)) 0 0 (va_A ([tc_X7 a0 th ma rf lk pu tl lo, tc_X6 ma tk mo su lv si ga sl sc fh lh fo ee pn e0 e1 e2 e3 e4 e5 a0, tc_I G e1 3 pl, tc_I G e2 3 dr, tc_Jx4a65c lo mc ed (nI n)] ++ tm_L G ed n ad rc) sz) := by
  refine Met.ofW (cc := cX7_feed) (maxL := 3) (ret := (some .int)) (by decide) rfl ?_
  intro p e s m args below meth c s₁ B hml hv
  obtain ⟨rfl, hsz, hP, hK, hD0, hN, hV⟩ := hv
  have hx := B.exec
  have hb := B.bytes
  have hr := B.returns
  have hts := atoms_spec (ws := wsX7_feed) B.pre
  have hown : s.vm.findClass RX7 = some m.cls := findClass_of_methodNamed B.named
  have hlocks := B.notSynchronized
  subst hsz
  obtain ⟨n_1, n_6, n_9, n_11, n_12, n_16, n_22⟩ := hn
  have hiX6 : ∀ w ∈ u_ws RX6 TX6 20, w ∈ wsX7_feed := fun _ h => List.mem_cons_of_mem _ (List.mem_append_left _ (List.mem_append_right _ h))
  have hiX7 : ∀ w ∈ u_ws RX7 TX7 7, w ∈ wsX7_feed := fun _ h => List.mem_cons_of_mem _ (List.mem_append_left _ (List.mem_append_left _ (List.mem_append_right _ h)))
  have hD := hD0.self (sz := s.heap.size)
  generalize hAe : va_A ([tc_X7 a0 th ma rf lk pu tl lo, tc_X6 ma tk mo su lv si ga sl sc fh lh fo ee pn e0 e1 e2 e3 e4 e5 a0, tc_I G e1 3 pl, tc_I G e2 3 dr, tc_Jx4a65c lo mc ed (nI n)] ++ tm_L G ed n ad rc) s.heap.size = A at hD hV ⊢
  have hA : ∀ q : Nat, s.heap.size ≤ q → A q := fun q h => by rw [← hAe]; exact Or.inr h
  have hS : va_S A s.heap s.heap [] := va_S.rf
  have hl := lv_entry ([.ref a0, .int p1, .int p2]) (n := 3) (Nat.le_of_ble_eq_true rfl)
  rw [lg_entry_eq]
  generalize (lg_sl ([.ref a0, .int p1, .int p2]) ++ List.replicate (3 - (lg_sl ([.ref a0, .int p1, .int p2])).length) Slot.unset).toArray = ls at hl ⊢
  have hl : lv_has ls 3 [(0, .ref a0), (1, .int p1), (2, .int p2)] := hl
  refine lv_aload_n hx hb dX7_feed_0 rfl (lv_at hl 0 rfl) ?_
  refine lv_iconst (v := 0) hx hb dX7_feed_1 (by decide) ?_
  refine va_put (D := G.1) (ci := 8) (v := .int 0) (ty := .int) (C := RX7) (T := TX7) (N := 7) hx hb hts hiX7 tyX7 tyX7_ok nmX7 hown hK hP hD hS 0 rfl rfl 0 (by decide) (hts (.fieldLink RX7 25 "TideMillModel" "thrown" "I") (List.mem_of_getElem? (i := 1) rfl)) (fun _ h9 => h9) rfl (by decide +kernel) rfl rfl (Nat.le_of_ble_eq_true rfl) dX7_feed_2 (fun H locs hP hD hS => ?_)
  have hP : va_P G.1 vwCl ([tc_X7 a0 0 ma rf lk pu tl lo, tc_X6 ma tk mo su lv si ga sl sc fh lh fo ee pn e0 e1 e2 e3 e4 e5 a0, tc_I G e1 3 pl, tc_I G e2 3 dr, tc_Jx4a65c lo mc ed (nI n)] ++ tm_L G ed n ad rc) H := hP
  have hD : va_D A ([tc_X7 a0 0 ma rf lk pu tl lo, tc_X6 ma tk mo su lv si ga sl sc fh lh fo ee pn e0 e1 e2 e3 e4 e5 a0, tc_I G e1 3 pl, tc_I G e2 3 dr, tc_Jx4a65c lo mc ed (nI n)] ++ tm_L G ed n ad rc) := hD
  refine lv_aload_n hx hb dX7_feed_5 rfl (lv_at hl 0 rfl) ?_
  refine lv_iload_n hx hb dX7_feed_6 rfl (lv_at hl 1 rfl) ?_
  have hPc := hP.sub (ws' := [tc_X7 a0 0 ma rf lk pu tl lo, tc_X6 ma tk mo su lv si ga sl sc fh lh fo ee pn e0 e1 e2 e3 e4 e5 a0]) [0, 1] rfl
  have hDc := hD.sub (ws' := [tc_X7 a0 0 ma rf lk pu tl lo, tc_X6 ma tk mo su lv si ga sl sc fh lh fo ee pn e0 e1 e2 e3 e4 e5 a0]) [0, 1] (by decide) rfl
  have hFc := va_free (wc := [tc_X7 a0 0 ma rf lk pu tl lo, tc_X6 ma tk mo su lv si ga sl sc fh lh fo ee pn e0 e1 e2 e3 e4 e5 a0]) hD hS hA [0, 1] rfl
  refine va_calli (va_runV (As := [.int p1]) (rest := []) ⟨hx, hb, hml, hown, hts⟩ (c_X7_isPair l G a0 ma lo e0 e1 e2 e3 e4 e5 H.size 0 rf lk pu tl tk mo su lv si ga sl sc fh lh fo ee pn p1 n_1) (cwV 1 hts gX7_feed_X7_isPair rfl rfl rfl (by decide +kernel) ⟨(Nat.le_of_ble_eq_true rfl), (Nat.le_of_ble_eq_true rfl)⟩) (tm_preV hK hN hV hS hPc hDc hFc (va_recv hK hPc (ci := 8) (q0 := 0) rfl rfl)) rfl rfl hl.1 rfl (lv_room (Nat.le_of_ble_eq_true rfl)) dX7_feed_7 ⟨(Nat.le_of_ble_eq_true rfl), (Nat.le_of_ble_eq_true rfl)⟩) hS (fun q _ h => hFc q h) hFc (fun r_2 u t H locs ht hvm hw_2 hB hz1 hk1 hS => ?_)
  obtain ⟨hP1, hD1⟩ := hB
  rw [ht] at hP1
  try dsimp only at hw_2
  obtain ⟨hP, hD⟩ := va_joinQ (X := [tc_X7 a0 0 ma rf lk pu tl lo, tc_X6 ma tk mo su lv si ga sl sc fh lh fo ee pn e0 e1 e2 e3 e4 e5 a0, tc_I G e1 3 pl, tc_I G e2 3 dr, tc_Jx4a65c lo mc ed (nI n)]) (cx := [tc_X7 a0 0 ma rf lk pu tl lo, tc_X6 ma tk mo su lv si ga sl sc fh lh fo ee pn e0 e1 e2 e3 e4 e5 a0]) (wr := [tc_I G e1 3 pl, tc_I G e2 3 dr, tc_Jx4a65c lo mc ed (nI n)]) (w1 := [tc_X7 a0 0 ma rf lk pu tl lo, tc_X6 ma tk mo su lv si ga sl sc fh lh fo ee pn e0 e1 e2 e3 e4 e5 a0]) (pl := tm_L G ed n ad rc) hP hD [0, 1] [2, 3, 4] rfl rfl (by decide) (by decide) hk1 hFc hP1 hD1
  have hP : va_P G.1 vwCl ([tc_I G e1 3 pl, tc_I G e2 3 dr, tc_Jx4a65c lo mc ed (nI n), tc_X7 a0 0 ma rf lk pu tl lo, tc_X6 ma tk mo su lv si ga sl sc fh lh fo ee pn e0 e1 e2 e3 e4 e5 a0] ++ tm_L G ed n ad rc) H := hP
  have hD : va_D A ([tc_I G e1 3 pl, tc_I G e2 3 dr, tc_Jx4a65c lo mc ed (nI n), tc_X7 a0 0 ma rf lk pu tl lo, tc_X6 ma tk mo su lv si ga sl sc fh lh fo ee pn e0 e1 e2 e3 e4 e5 a0] ++ tm_L G ed n ad rc) := hD
  subst r_2
  refine lv_if_eq (tgt := 21) hx hb dX7_feed_10 (by decide) (fun c_3 => ?_) (fun c_3 => ?_)
  · refine lv_aload_n hx hb dX7_feed_21 rfl (lv_at hl 0 rfl) ?_
    refine lv_iconst (v := 1) hx hb dX7_feed_22 (by decide) ?_
    have hPc := hP.sub (ws' := [tc_X7 a0 0 ma rf lk pu tl lo]) [3] rfl
    have hDc := hD.sub (ws' := [tc_X7 a0 0 ma rf lk pu tl lo]) [3] (by decide) rfl
    have hFc := va_free (wc := [tc_X7 a0 0 ma rf lk pu tl lo]) hD hS hA [3] rfl
    refine va_calli (va_runV (As := [.int 1]) (rest := []) ⟨hx, hb, hml, hown, hts⟩ (c_X7_no l G a0 ma lo H.size 0 rf lk pu tl 1 ) (cwV 1 hts gX7_feed_X7_no rfl rfl rfl (by decide +kernel) ⟨(Nat.le_of_ble_eq_true rfl), (Nat.le_of_ble_eq_true rfl)⟩) (tm_preV hK hN hV hS hPc hDc hFc (va_recv hK hPc (ci := 8) (q0 := 0) rfl rfl)) rfl rfl hl.1 rfl (lv_room (Nat.le_of_ble_eq_true rfl)) dX7_feed_23 ⟨(Nat.le_of_ble_eq_true rfl), (Nat.le_of_ble_eq_true rfl)⟩) hS (fun q _ h => hFc q h) hFc (fun r_4 u t H locs ht hvm hw_4 hB hz1 hk1 hS => ?_)
    obtain ⟨u_5, rfl⟩ : ∃ z, z = u := ⟨_, rfl⟩
    obtain ⟨hP1, hD1⟩ := hB
    rw [ht] at hP1
    try dsimp only at hw_4
    obtain ⟨hP, hD⟩ := va_joinQ (X := [tc_I G e1 3 pl, tc_I G e2 3 dr, tc_Jx4a65c lo mc ed (nI n), tc_X7 a0 0 ma rf lk pu tl lo, tc_X6 ma tk mo su lv si ga sl sc fh lh fo ee pn e0 e1 e2 e3 e4 e5 a0]) (cx := [tc_X7 a0 0 ma rf lk pu tl lo]) (wr := [tc_I G e1 3 pl, tc_I G e2 3 dr, tc_Jx4a65c lo mc ed (nI n), tc_X6 ma tk mo su lv si ga sl sc fh lh fo ee pn e0 e1 e2 e3 e4 e5 a0]) (w1 := [tc_X7 a0 u_5 ma rf lk pu tl lo]) (pl := tm_L G ed n ad rc) hP hD [3] [0, 1, 2, 4] rfl rfl (by decide) (by decide) hk1 hFc hP1 hD1
    have hP : va_P G.1 vwCl ([tc_I G e1 3 pl, tc_I G e2 3 dr, tc_Jx4a65c lo mc ed (nI n), tc_X6 ma tk mo su lv si ga sl sc fh lh fo ee pn e0 e1 e2 e3 e4 e5 a0, tc_X7 a0 u_5 ma rf lk pu tl lo] ++ tm_L G ed n ad rc) H := hP
    have hD : va_D A ([tc_I G e1 3 pl, tc_I G e2 3 dr, tc_Jx4a65c lo mc ed (nI n), tc_X6 ma tk mo su lv si ga sl sc fh lh fo ee pn e0 e1 e2 e3 e4 e5 a0, tc_X7 a0 u_5 ma rf lk pu tl lo] ++ tm_L G ed n ad rc) := hD
    have hP9 := va_P.part (X := [tc_I G e1 3 pl, tc_I G e2 3 dr, tc_Jx4a65c lo mc ed (nI n), tc_X6 ma tk mo su lv si ga sl sc fh lh fo ee pn e0 e1 e2 e3 e4 e5 a0, tc_X7 a0 u_5 ma rf lk pu tl lo]) (cx := [tc_X7 a0 u_5 ma rf lk pu tl lo, tc_X6 ma tk mo su lv si ga sl sc fh lh fo ee pn e0 e1 e2 e3 e4 e5 a0, tc_I G e1 3 pl, tc_I G e2 3 dr, tc_Jx4a65c lo mc ed (nI n)]) (pl := tm_L G ed n ad rc) hP [4, 3, 0, 1, 2] rfl
    have hD9 := va_D.part (X := [tc_I G e1 3 pl, tc_I G e2 3 dr, tc_Jx4a65c lo mc ed (nI n), tc_X6 ma tk mo su lv si ga sl sc fh lh fo ee pn e0 e1 e2 e3 e4 e5 a0, tc_X7 a0 u_5 ma rf lk pu tl lo]) (cx := [tc_X7 a0 u_5 ma rf lk pu tl lo, tc_X6 ma tk mo su lv si ga sl sc fh lh fo ee pn e0 e1 e2 e3 e4 e5 a0, tc_I G e1 3 pl, tc_I G e2 3 dr, tc_Jx4a65c lo mc ed (nI n)]) (pl := tm_L G ed n ad rc) hD [4, 3, 0, 1, 2] (by decide) rfl
    exact W.iret (v := r_4) hx hb hr (fun t ht hW => ⟨⟨r_4, (rc, u_5, pl), rfl, by unfold f_X7_feed; all_goals (rw [if_pos c_3]); all_goals (rw [← hw_4]); all_goals (dsimp only); all_goals rfl, by rw [ht]; exact hP9, hD9⟩, hS.F ht⟩) hS.2.2 dX7_feed_26
  · refine lv_aload_n hx hb dX7_feed_13 rfl (lv_at hl 0 rfl) ?_
    refine lv_iload_n hx hb dX7_feed_14 rfl (lv_at hl 2 rfl) ?_
    have hPc := va_P.part (X := [tc_I G e1 3 pl, tc_I G e2 3 dr, tc_Jx4a65c lo mc ed (nI n), tc_X7 a0 0 ma rf lk pu tl lo, tc_X6 ma tk mo su lv si ga sl sc fh lh fo ee pn e0 e1 e2 e3 e4 e5 a0]) (cx := [tc_X7 a0 0 ma rf lk pu tl lo, tc_Jx4a65c lo mc ed (nI n)]) (pl := tm_L G ed n ad rc) hP [3, 2] rfl
    have hDc := va_D.part (X := [tc_I G e1 3 pl, tc_I G e2 3 dr, tc_Jx4a65c lo mc ed (nI n), tc_X7 a0 0 ma rf lk pu tl lo, tc_X6 ma tk mo su lv si ga sl sc fh lh fo ee pn e0 e1 e2 e3 e4 e5 a0]) (cx := [tc_X7 a0 0 ma rf lk pu tl lo, tc_Jx4a65c lo mc ed (nI n)]) (pl := tm_L G ed n ad rc) hD [3, 2] (by decide) rfl
    have hFc := va_freeP (X := [tc_I G e1 3 pl, tc_I G e2 3 dr, tc_Jx4a65c lo mc ed (nI n), tc_X7 a0 0 ma rf lk pu tl lo, tc_X6 ma tk mo su lv si ga sl sc fh lh fo ee pn e0 e1 e2 e3 e4 e5 a0]) (cx := [tc_X7 a0 0 ma rf lk pu tl lo, tc_Jx4a65c lo mc ed (nI n)]) (pl := tm_L G ed n ad rc) hD hS hA [3, 2] rfl
    refine va_calli (va_runV (As := [.int p2]) (rest := []) ⟨hx, hb, hml, hown, hts⟩ (c_X7_isLot l G a0 ma lo ed H.size 0 rf lk pu tl mc p2 n ad rc (n_6 c_3)) (cwV 1 hts gX7_feed_X7_isLot rfl rfl rfl (by decide +kernel) ⟨(Nat.le_of_ble_eq_true rfl), (Nat.le_of_ble_eq_true rfl)⟩) (tm_preV hK hN hV hS hPc hDc hFc (va_recv hK hPc (ci := 8) (q0 := 0) rfl rfl)) rfl rfl hl.1 rfl (lv_room (Nat.le_of_ble_eq_true rfl)) dX7_feed_15 ⟨(Nat.le_of_ble_eq_true rfl), (Nat.le_of_ble_eq_true rfl)⟩) hS (fun q _ h => hFc q h) hFc (fun r_7 u t H locs ht hvm hw_7 hB hz1 hk1 hS => ?_)
    obtain ⟨hP1, hD1⟩ := hB
    rw [ht] at hP1
    try dsimp only at hw_7
    obtain ⟨hP, hD⟩ := va_joinP (X := [tc_I G e1 3 pl, tc_I G e2 3 dr, tc_Jx4a65c lo mc ed (nI n), tc_X7 a0 0 ma rf lk pu tl lo, tc_X6 ma tk mo su lv si ga sl sc fh lh fo ee pn e0 e1 e2 e3 e4 e5 a0]) (cx := [tc_X7 a0 0 ma rf lk pu tl lo, tc_Jx4a65c lo mc ed (nI n)]) (wr := [tc_I G e1 3 pl, tc_I G e2 3 dr, tc_X6 ma tk mo su lv si ga sl sc fh lh fo ee pn e0 e1 e2 e3 e4 e5 a0]) (rx := [tc_X7 a0 0 ma rf lk pu tl lo, tc_Jx4a65c lo mc ed (nI n)]) (pl := tm_L G ed n ad rc) (pl1 := tm_L G ed n ad rc) hP hD [3, 2] [0, 1, 4] rfl rfl (by decide) (by decide) hk1 hFc hP1 hD1
    have hP : va_P G.1 vwCl ([tc_I G e1 3 pl, tc_I G e2 3 dr, tc_X6 ma tk mo su lv si ga sl sc fh lh fo ee pn e0 e1 e2 e3 e4 e5 a0, tc_X7 a0 0 ma rf lk pu tl lo, tc_Jx4a65c lo mc ed (nI n)] ++ tm_L G ed n ad rc) H := hP
    have hD : va_D A ([tc_I G e1 3 pl, tc_I G e2 3 dr, tc_X6 ma tk mo su lv si ga sl sc fh lh fo ee pn e0 e1 e2 e3 e4 e5 a0, tc_X7 a0 0 ma rf lk pu tl lo, tc_Jx4a65c lo mc ed (nI n)] ++ tm_L G ed n ad rc) := hD
    subst r_7
    refine lv_if_ne (tgt := 27) hx hb dX7_feed_18 (by decide) (fun c_8 => ?_) (fun c_8 => ?_)
    · refine lv_aload_n hx hb dX7_feed_27 rfl (lv_at hl 0 rfl) ?_
      refine va_get (D := G.1) (ci := 8) (v := .ref lo) (C := RX7) (T := TX7) (N := 7) hx hb hts hiX7 hown hK hP 3 rfl rfl 6 (by decide) (hts (.fieldLink RX7 21 "TideMillModel" "lots" "Ljava/util/List;") (List.mem_of_getElem? (i := 2) rfl)) (fun _ h9 => h9) rfl dX7_feed_28 ?_
      refine lv_iload_n hx hb dX7_feed_31 rfl (lv_at hl 2 rfl) ?_
      have hPc := va_P.part (X := [tc_I G e1 3 pl, tc_I G e2 3 dr, tc_X6 ma tk mo su lv si ga sl sc fh lh fo ee pn e0 e1 e2 e3 e4 e5 a0, tc_X7 a0 0 ma rf lk pu tl lo, tc_Jx4a65c lo mc ed (nI n)]) (cx := [tc_Jx4a65c lo mc ed (nI n)]) (pl := tm_L G ed n ad rc) hP [4] rfl
      have hDc := va_D.part (X := [tc_I G e1 3 pl, tc_I G e2 3 dr, tc_X6 ma tk mo su lv si ga sl sc fh lh fo ee pn e0 e1 e2 e3 e4 e5 a0, tc_X7 a0 0 ma rf lk pu tl lo, tc_Jx4a65c lo mc ed (nI n)]) (cx := [tc_Jx4a65c lo mc ed (nI n)]) (pl := tm_L G ed n ad rc) hD [4] (by decide) rfl
      have hFc := va_freeP (X := [tc_I G e1 3 pl, tc_I G e2 3 dr, tc_X6 ma tk mo su lv si ga sl sc fh lh fo ee pn e0 e1 e2 e3 e4 e5 a0, tc_X7 a0 0 ma rf lk pu tl lo, tc_Jx4a65c lo mc ed (nI n)]) (cx := [tc_Jx4a65c lo mc ed (nI n)]) (pl := tm_L G ed n ad rc) hD hS hA [4] rfl
      refine va_callFr (va_runF (As := [.int p2]) (rest := []) (hK.1 0 (RJx4a65c, TJx4a65c, 3) rfl).2 ⟨hx, hb, hml, hown, hts⟩ (c_Jx4a65c_get_915e3 l G lo ed H.size mc p2 n ad rc (n_9 c_3 c_8)) (va_cwF 1 hts gX7_feed_Jx4a65c_get_915e3_f39Jx4a65c rfl rfl rfl (hN.2.2.2.2.1 (⟨"java/util/List", "get", "(I)Ljava/lang/Object;"⟩, yJx4a65c_get_915e3) (List.mem_of_getElem? (i := 1) rfl)) (by decide +kernel) ⟨(Nat.le_of_ble_eq_true rfl), (Nat.le_of_ble_eq_true rfl)⟩) (tm_preV hK hN hV hS hPc hDc hFc (va_recv hK hPc (ci := 0) (q0 := 0) rfl rfl)) rfl rfl hl.1 rfl (lv_room (Nat.le_of_ble_eq_true rfl)) dX7_feed_32 ⟨(Nat.le_of_ble_eq_true rfl), (Nat.le_of_ble_eq_true rfl)⟩) hS (fun q _ h => hFc q h) hFc (fun u ra t H locs ht hvm hw_10 hB hz1 hk1 hS => ?_)
      obtain ⟨rfl, hP1, hD1⟩ := hB
      rw [ht] at hP1
      obtain ⟨hP, hD⟩ := va_joinP (X := [tc_I G e1 3 pl, tc_I G e2 3 dr, tc_X6 ma tk mo su lv si ga sl sc fh lh fo ee pn e0 e1 e2 e3 e4 e5 a0, tc_X7 a0 0 ma rf lk pu tl lo, tc_Jx4a65c lo mc ed (nI n)]) (cx := [tc_Jx4a65c lo mc ed (nI n)]) (wr := [tc_I G e1 3 pl, tc_I G e2 3 dr, tc_X6 ma tk mo su lv si ga sl sc fh lh fo ee pn e0 e1 e2 e3 e4 e5 a0, tc_X7 a0 0 ma rf lk pu tl lo]) (rx := [tc_Jx4a65c lo mc ed (nI n)]) (pl := tm_L G ed n ad rc) (pl1 := tm_L G ed n ad rc) hP hD [4] [0, 1, 2, 3] rfl rfl (by decide) (by decide) hk1 hFc hP1 hD1
      have hP : va_P G.1 vwCl ([tc_I G e1 3 pl, tc_I G e2 3 dr, tc_X6 ma tk mo su lv si ga sl sc fh lh fo ee pn e0 e1 e2 e3 e4 e5 a0, tc_X7 a0 0 ma rf lk pu tl lo, tc_Jx4a65c lo mc ed (nI n)] ++ tm_L G ed n ad rc) H := hP
      have hD : va_D A ([tc_I G e1 3 pl, tc_I G e2 3 dr, tc_X6 ma tk mo su lv si ga sl sc fh lh fo ee pn e0 e1 e2 e3 e4 e5 a0, tc_X7 a0 0 ma rf lk pu tl lo, tc_Jx4a65c lo mc ed (nI n)] ++ tm_L G ed n ad rc) := hD
      refine va_castA hx hb hown (hts (.classLink RX7 43 "[I") (List.mem_of_getElem? (i := 3) rfl)) hP _ (tm_L_get (tm_lt (n_11 c_3 c_8))) (hK.2 0 (G.2.1, .int) rfl).2 dX7_feed_37 ?_
      refine lv_iconst (v := 4) hx hb dX7_feed_40 (by decide) ?_
      refine va_iald (n := 5) (f := rc p2.toNatClampNeg) hx hb hK hP _ 0 (tm_L_get (tm_lt (n_11 c_3 c_8))) rfl (n_12 c_3 c_8) dX7_feed_41 ?_
      refine lv_if_ne (tgt := 70) hx hb dX7_feed_42 (by decide) (fun c_13 => ?_) (fun c_13 => ?_)
      · refine lv_aload_n hx hb dX7_feed_70 rfl (lv_at hl 0 rfl) ?_
        refine lv_iconst (v := 2) hx hb dX7_feed_71 (by decide) ?_
        have hPc := hP.sub (ws' := [tc_X7 a0 0 ma rf lk pu tl lo]) [3] rfl
        have hDc := hD.sub (ws' := [tc_X7 a0 0 ma rf lk pu tl lo]) [3] (by decide) rfl
        have hFc := va_free (wc := [tc_X7 a0 0 ma rf lk pu tl lo]) hD hS hA [3] rfl
        refine va_calli (va_runV (As := [.int 2]) (rest := []) ⟨hx, hb, hml, hown, hts⟩ (c_X7_no l G a0 ma lo H.size 0 rf lk pu tl 2 ) (cwV 1 hts gX7_feed_X7_no rfl rfl rfl (by decide +kernel) ⟨(Nat.le_of_ble_eq_true rfl), (Nat.le_of_ble_eq_true rfl)⟩) (tm_preV hK hN hV hS hPc hDc hFc (va_recv hK hPc (ci := 8) (q0 := 0) rfl rfl)) rfl rfl hl.1 rfl (lv_room (Nat.le_of_ble_eq_true rfl)) dX7_feed_72 ⟨(Nat.le_of_ble_eq_true rfl), (Nat.le_of_ble_eq_true rfl)⟩) hS (fun q _ h => hFc q h) hFc (fun r_14 u t H locs ht hvm hw_14 hB hz1 hk1 hS => ?_)
        obtain ⟨u_15, rfl⟩ : ∃ z, z = u := ⟨_, rfl⟩
        obtain ⟨hP1, hD1⟩ := hB
        rw [ht] at hP1
        try dsimp only at hw_14
        obtain ⟨hP, hD⟩ := va_joinQ (X := [tc_I G e1 3 pl, tc_I G e2 3 dr, tc_X6 ma tk mo su lv si ga sl sc fh lh fo ee pn e0 e1 e2 e3 e4 e5 a0, tc_X7 a0 0 ma rf lk pu tl lo, tc_Jx4a65c lo mc ed (nI n)]) (cx := [tc_X7 a0 0 ma rf lk pu tl lo]) (wr := [tc_I G e1 3 pl, tc_I G e2 3 dr, tc_X6 ma tk mo su lv si ga sl sc fh lh fo ee pn e0 e1 e2 e3 e4 e5 a0, tc_Jx4a65c lo mc ed (nI n)]) (w1 := [tc_X7 a0 u_15 ma rf lk pu tl lo]) (pl := tm_L G ed n ad rc) hP hD [3] [0, 1, 2, 4] rfl rfl (by decide) (by decide) hk1 hFc hP1 hD1
        have hP : va_P G.1 vwCl ([tc_I G e1 3 pl, tc_I G e2 3 dr, tc_X6 ma tk mo su lv si ga sl sc fh lh fo ee pn e0 e1 e2 e3 e4 e5 a0, tc_Jx4a65c lo mc ed (nI n), tc_X7 a0 u_15 ma rf lk pu tl lo] ++ tm_L G ed n ad rc) H := hP
        have hD : va_D A ([tc_I G e1 3 pl, tc_I G e2 3 dr, tc_X6 ma tk mo su lv si ga sl sc fh lh fo ee pn e0 e1 e2 e3 e4 e5 a0, tc_Jx4a65c lo mc ed (nI n), tc_X7 a0 u_15 ma rf lk pu tl lo] ++ tm_L G ed n ad rc) := hD
        have hP9 := va_P.part (X := [tc_I G e1 3 pl, tc_I G e2 3 dr, tc_X6 ma tk mo su lv si ga sl sc fh lh fo ee pn e0 e1 e2 e3 e4 e5 a0, tc_Jx4a65c lo mc ed (nI n), tc_X7 a0 u_15 ma rf lk pu tl lo]) (cx := [tc_X7 a0 u_15 ma rf lk pu tl lo, tc_X6 ma tk mo su lv si ga sl sc fh lh fo ee pn e0 e1 e2 e3 e4 e5 a0, tc_I G e1 3 pl, tc_I G e2 3 dr, tc_Jx4a65c lo mc ed (nI n)]) (pl := tm_L G ed n ad rc) hP [4, 2, 0, 1, 3] rfl
        have hD9 := va_D.part (X := [tc_I G e1 3 pl, tc_I G e2 3 dr, tc_X6 ma tk mo su lv si ga sl sc fh lh fo ee pn e0 e1 e2 e3 e4 e5 a0, tc_Jx4a65c lo mc ed (nI n), tc_X7 a0 u_15 ma rf lk pu tl lo]) (cx := [tc_X7 a0 u_15 ma rf lk pu tl lo, tc_X6 ma tk mo su lv si ga sl sc fh lh fo ee pn e0 e1 e2 e3 e4 e5 a0, tc_I G e1 3 pl, tc_I G e2 3 dr, tc_Jx4a65c lo mc ed (nI n)]) (pl := tm_L G ed n ad rc) hD [4, 2, 0, 1, 3] (by decide) rfl
        exact W.iret (v := r_14) hx hb hr (fun t ht hW => ⟨⟨r_14, (rc, u_15, pl), rfl, by unfold f_X7_feed; all_goals (rw [if_neg c_3]); all_goals (rw [if_neg c_8]); all_goals (rw [if_neg c_13]); all_goals (rw [← hw_14]); all_goals (dsimp only); all_goals rfl, by rw [ht]; exact hP9, hD9⟩, hS.F ht⟩) hS.2.2 dX7_feed_75
      · refine lv_aload_n hx hb dX7_feed_45 rfl (lv_at hl 0 rfl) ?_
        refine va_get (D := G.1) (ci := 8) (v := .ref ma) (C := RX7) (T := TX7) (N := 7) hx hb hts hiX7 hown hK hP 3 rfl rfl 1 (by decide) (hts (.fieldLink RX7 12 "TideMillModel" "mill" "LTideMillModel$Mill;") (List.mem_of_getElem? (i := 4) rfl)) (fun _ h9 => h9) rfl dX7_feed_46 ?_
        refine va_get (D := G.1) (ci := 7) (v := .ref e1) (C := RX6) (T := TX6) (N := 20) hx hb hts hiX6 hown hK hP 2 rfl rfl 14 (by decide) (hts (.fieldLink RX7 101 "TideMillModel$Mill" "lot" "[I") (List.mem_of_getElem? (i := 5) rfl)) (fun _ h9 => h9) rfl dX7_feed_49 ?_
        refine lv_iload_n hx hb dX7_feed_52 rfl (lv_at hl 1 rfl) ?_
        refine va_iald (n := 3) (f := pl) hx hb hK hP 0 0 rfl rfl (n_16 c_3 c_8 c_13) dX7_feed_53 ?_
        refine lv_iconst (v := (-1)) hx hb dX7_feed_54 (by decide) ?_
        refine lv_icmp_ne (tgt := 70) hx hb dX7_feed_55 (by decide) (fun c_17 => ?_) (fun c_17 => ?_)
        · refine lv_aload_n hx hb dX7_feed_70 rfl (lv_at hl 0 rfl) ?_
          refine lv_iconst (v := 2) hx hb dX7_feed_71 (by decide) ?_
          have hPc := hP.sub (ws' := [tc_X7 a0 0 ma rf lk pu tl lo]) [3] rfl
          have hDc := hD.sub (ws' := [tc_X7 a0 0 ma rf lk pu tl lo]) [3] (by decide) rfl
          have hFc := va_free (wc := [tc_X7 a0 0 ma rf lk pu tl lo]) hD hS hA [3] rfl
          refine va_calli (va_runV (As := [.int 2]) (rest := []) ⟨hx, hb, hml, hown, hts⟩ (c_X7_no l G a0 ma lo H.size 0 rf lk pu tl 2 ) (cwV 1 hts gX7_feed_X7_no rfl rfl rfl (by decide +kernel) ⟨(Nat.le_of_ble_eq_true rfl), (Nat.le_of_ble_eq_true rfl)⟩) (tm_preV hK hN hV hS hPc hDc hFc (va_recv hK hPc (ci := 8) (q0 := 0) rfl rfl)) rfl rfl hl.1 rfl (lv_room (Nat.le_of_ble_eq_true rfl)) dX7_feed_72 ⟨(Nat.le_of_ble_eq_true rfl), (Nat.le_of_ble_eq_true rfl)⟩) hS (fun q _ h => hFc q h) hFc (fun r_18 u t H locs ht hvm hw_18 hB hz1 hk1 hS => ?_)
          obtain ⟨u_19, rfl⟩ : ∃ z, z = u := ⟨_, rfl⟩
          obtain ⟨hP1, hD1⟩ := hB
          rw [ht] at hP1
          try dsimp only at hw_18
          obtain ⟨hP, hD⟩ := va_joinQ (X := [tc_I G e1 3 pl, tc_I G e2 3 dr, tc_X6 ma tk mo su lv si ga sl sc fh lh fo ee pn e0 e1 e2 e3 e4 e5 a0, tc_X7 a0 0 ma rf lk pu tl lo, tc_Jx4a65c lo mc ed (nI n)]) (cx := [tc_X7 a0 0 ma rf lk pu tl lo]) (wr := [tc_I G e1 3 pl, tc_I G e2 3 dr, tc_X6 ma tk mo su lv si ga sl sc fh lh fo ee pn e0 e1 e2 e3 e4 e5 a0, tc_Jx4a65c lo mc ed (nI n)]) (w1 := [tc_X7 a0 u_19 ma rf lk pu tl lo]) (pl := tm_L G ed n ad rc) hP hD [3] [0, 1, 2, 4] rfl rfl (by decide) (by decide) hk1 hFc hP1 hD1
          have hP : va_P G.1 vwCl ([tc_I G e1 3 pl, tc_I G e2 3 dr, tc_X6 ma tk mo su lv si ga sl sc fh lh fo ee pn e0 e1 e2 e3 e4 e5 a0, tc_Jx4a65c lo mc ed (nI n), tc_X7 a0 u_19 ma rf lk pu tl lo] ++ tm_L G ed n ad rc) H := hP
          have hD : va_D A ([tc_I G e1 3 pl, tc_I G e2 3 dr, tc_X6 ma tk mo su lv si ga sl sc fh lh fo ee pn e0 e1 e2 e3 e4 e5 a0, tc_Jx4a65c lo mc ed (nI n), tc_X7 a0 u_19 ma rf lk pu tl lo] ++ tm_L G ed n ad rc) := hD
          have hP9 := va_P.part (X := [tc_I G e1 3 pl, tc_I G e2 3 dr, tc_X6 ma tk mo su lv si ga sl sc fh lh fo ee pn e0 e1 e2 e3 e4 e5 a0, tc_Jx4a65c lo mc ed (nI n), tc_X7 a0 u_19 ma rf lk pu tl lo]) (cx := [tc_X7 a0 u_19 ma rf lk pu tl lo, tc_X6 ma tk mo su lv si ga sl sc fh lh fo ee pn e0 e1 e2 e3 e4 e5 a0, tc_I G e1 3 pl, tc_I G e2 3 dr, tc_Jx4a65c lo mc ed (nI n)]) (pl := tm_L G ed n ad rc) hP [4, 2, 0, 1, 3] rfl
          have hD9 := va_D.part (X := [tc_I G e1 3 pl, tc_I G e2 3 dr, tc_X6 ma tk mo su lv si ga sl sc fh lh fo ee pn e0 e1 e2 e3 e4 e5 a0, tc_Jx4a65c lo mc ed (nI n), tc_X7 a0 u_19 ma rf lk pu tl lo]) (cx := [tc_X7 a0 u_19 ma rf lk pu tl lo, tc_X6 ma tk mo su lv si ga sl sc fh lh fo ee pn e0 e1 e2 e3 e4 e5 a0, tc_I G e1 3 pl, tc_I G e2 3 dr, tc_Jx4a65c lo mc ed (nI n)]) (pl := tm_L G ed n ad rc) hD [4, 2, 0, 1, 3] (by decide) rfl
          exact W.iret (v := r_18) hx hb hr (fun t ht hW => ⟨⟨r_18, (rc, u_19, pl), rfl, by unfold f_X7_feed; all_goals (rw [if_neg c_3]); all_goals (rw [if_neg c_8]); all_goals (rw [if_pos c_13]); all_goals (rw [if_neg c_17]); all_goals (rw [← hw_18]); all_goals (dsimp only); all_goals rfl, by rw [ht]; exact hP9, hD9⟩, hS.F ht⟩) hS.2.2 dX7_feed_75
        · refine lv_aload_n hx hb dX7_feed_58 rfl (lv_at hl 0 rfl) ?_
          refine va_get (D := G.1) (ci := 8) (v := .ref ma) (C := RX7) (T := TX7) (N := 7) hx hb hts hiX7 hown hK hP 3 rfl rfl 1 (by decide) (hts (.fieldLink RX7 12 "TideMillModel" "mill" "LTideMillModel$Mill;") (List.mem_of_getElem? (i := 4) rfl)) (fun _ h9 => h9) rfl dX7_feed_59 ?_
          refine va_get (D := G.1) (ci := 7) (v := .ref e2) (C := RX6) (T := TX6) (N := 20) hx hb hts hiX6 hown hK hP 2 rfl rfl 15 (by decide) (hts (.fieldLink RX7 119 "TideMillModel$Mill" "dressing" "[I") (List.mem_of_getElem? (i := 6) rfl)) (fun _ h9 => h9) rfl dX7_feed_62 ?_
          refine lv_iload_n hx hb dX7_feed_65 rfl (lv_at hl 1 rfl) ?_
          refine va_iald (n := 3) (f := dr) hx hb hK hP 1 0 rfl rfl (n_16 c_3 c_8 c_13) dX7_feed_66 ?_
          refine lv_if_le (tgt := 76) hx hb dX7_feed_67 (by decide) (fun c_20 => ?_) (fun c_20 => ?_)
          · refine lv_aload_n hx hb dX7_feed_76 rfl (lv_at hl 0 rfl) ?_
            refine va_get (D := G.1) (ci := 8) (v := .ref ma) (C := RX7) (T := TX7) (N := 7) hx hb hts hiX7 hown hK hP 3 rfl rfl 1 (by decide) (hts (.fieldLink RX7 12 "TideMillModel" "mill" "LTideMillModel$Mill;") (List.mem_of_getElem? (i := 4) rfl)) (fun _ h9 => h9) rfl dX7_feed_77 ?_
            refine va_get (D := G.1) (ci := 7) (v := .ref e1) (C := RX6) (T := TX6) (N := 20) hx hb hts hiX6 hown hK hP 2 rfl rfl 14 (by decide) (hts (.fieldLink RX7 101 "TideMillModel$Mill" "lot" "[I") (List.mem_of_getElem? (i := 5) rfl)) (fun _ h9 => h9) rfl dX7_feed_80 ?_
            refine lv_iload_n hx hb dX7_feed_83 rfl (lv_at hl 1 rfl) ?_
            refine lv_iload_n hx hb dX7_feed_84 rfl (lv_at hl 2 rfl) ?_
            refine va_iast (n := 3) (f := pl) hx hb hK hP hD hS 0 0 rfl rfl (n_16 c_3 c_8 c_13) dX7_feed_85 (fun H locs hP hD hS => ?_)
            have hP : va_P G.1 vwCl ([tc_I G e1 3 (upd pl p1.toNatClampNeg p2), tc_I G e2 3 dr, tc_X6 ma tk mo su lv si ga sl sc fh lh fo ee pn e0 e1 e2 e3 e4 e5 a0, tc_X7 a0 0 ma rf lk pu tl lo, tc_Jx4a65c lo mc ed (nI n)] ++ tm_L G ed n ad rc) H := hP
            have hD : va_D A ([tc_I G e1 3 (upd pl p1.toNatClampNeg p2), tc_I G e2 3 dr, tc_X6 ma tk mo su lv si ga sl sc fh lh fo ee pn e0 e1 e2 e3 e4 e5 a0, tc_X7 a0 0 ma rf lk pu tl lo, tc_Jx4a65c lo mc ed (nI n)] ++ tm_L G ed n ad rc) := hD
            refine lv_aload_n hx hb dX7_feed_86 rfl (lv_at hl 0 rfl) ?_
            refine va_get (D := G.1) (ci := 8) (v := .ref lo) (C := RX7) (T := TX7) (N := 7) hx hb hts hiX7 hown hK hP 3 rfl rfl 6 (by decide) (hts (.fieldLink RX7 21 "TideMillModel" "lots" "Ljava/util/List;") (List.mem_of_getElem? (i := 2) rfl)) (fun _ h9 => h9) rfl dX7_feed_87 ?_
            refine lv_iload_n hx hb dX7_feed_90 rfl (lv_at hl 2 rfl) ?_
            have hPc := va_P.part (X := [tc_I G e1 3 (upd pl p1.toNatClampNeg p2), tc_I G e2 3 dr, tc_X6 ma tk mo su lv si ga sl sc fh lh fo ee pn e0 e1 e2 e3 e4 e5 a0, tc_X7 a0 0 ma rf lk pu tl lo, tc_Jx4a65c lo mc ed (nI n)]) (cx := [tc_Jx4a65c lo mc ed (nI n)]) (pl := tm_L G ed n ad rc) hP [4] rfl
            have hDc := va_D.part (X := [tc_I G e1 3 (upd pl p1.toNatClampNeg p2), tc_I G e2 3 dr, tc_X6 ma tk mo su lv si ga sl sc fh lh fo ee pn e0 e1 e2 e3 e4 e5 a0, tc_X7 a0 0 ma rf lk pu tl lo, tc_Jx4a65c lo mc ed (nI n)]) (cx := [tc_Jx4a65c lo mc ed (nI n)]) (pl := tm_L G ed n ad rc) hD [4] (by decide) rfl
            have hFc := va_freeP (X := [tc_I G e1 3 (upd pl p1.toNatClampNeg p2), tc_I G e2 3 dr, tc_X6 ma tk mo su lv si ga sl sc fh lh fo ee pn e0 e1 e2 e3 e4 e5 a0, tc_X7 a0 0 ma rf lk pu tl lo, tc_Jx4a65c lo mc ed (nI n)]) (cx := [tc_Jx4a65c lo mc ed (nI n)]) (pl := tm_L G ed n ad rc) hD hS hA [4] rfl
            refine va_callFr (va_runF (As := [.int p2]) (rest := []) (hK.1 0 (RJx4a65c, TJx4a65c, 3) rfl).2 ⟨hx, hb, hml, hown, hts⟩ (c_Jx4a65c_get_915e3 l G lo ed H.size mc p2 n ad rc (n_9 c_3 c_8)) (va_cwF 1 hts gX7_feed_Jx4a65c_get_915e3_f39Jx4a65c rfl rfl rfl (hN.2.2.2.2.1 (⟨"java/util/List", "get", "(I)Ljava/lang/Object;"⟩, yJx4a65c_get_915e3) (List.mem_of_getElem? (i := 1) rfl)) (by decide +kernel) ⟨(Nat.le_of_ble_eq_true rfl), (Nat.le_of_ble_eq_true rfl)⟩) (tm_preV hK hN hV hS hPc hDc hFc (va_recv hK hPc (ci := 0) (q0 := 0) rfl rfl)) rfl rfl hl.1 rfl (lv_room (Nat.le_of_ble_eq_true rfl)) dX7_feed_91 ⟨(Nat.le_of_ble_eq_true rfl), (Nat.le_of_ble_eq_true rfl)⟩) hS (fun q _ h => hFc q h) hFc (fun u ra t H locs ht hvm hw_21 hB hz1 hk1 hS => ?_)
            obtain ⟨rfl, hP1, hD1⟩ := hB
            rw [ht] at hP1
            obtain ⟨hP, hD⟩ := va_joinP (X := [tc_I G e1 3 (upd pl p1.toNatClampNeg p2), tc_I G e2 3 dr, tc_X6 ma tk mo su lv si ga sl sc fh lh fo ee pn e0 e1 e2 e3 e4 e5 a0, tc_X7 a0 0 ma rf lk pu tl lo, tc_Jx4a65c lo mc ed (nI n)]) (cx := [tc_Jx4a65c lo mc ed (nI n)]) (wr := [tc_I G e1 3 (upd pl p1.toNatClampNeg p2), tc_I G e2 3 dr, tc_X6 ma tk mo su lv si ga sl sc fh lh fo ee pn e0 e1 e2 e3 e4 e5 a0, tc_X7 a0 0 ma rf lk pu tl lo]) (rx := [tc_Jx4a65c lo mc ed (nI n)]) (pl := tm_L G ed n ad rc) (pl1 := tm_L G ed n ad rc) hP hD [4] [0, 1, 2, 3] rfl rfl (by decide) (by decide) hk1 hFc hP1 hD1
            have hP : va_P G.1 vwCl ([tc_I G e1 3 (upd pl p1.toNatClampNeg p2), tc_I G e2 3 dr, tc_X6 ma tk mo su lv si ga sl sc fh lh fo ee pn e0 e1 e2 e3 e4 e5 a0, tc_X7 a0 0 ma rf lk pu tl lo, tc_Jx4a65c lo mc ed (nI n)] ++ tm_L G ed n ad rc) H := hP
            have hD : va_D A ([tc_I G e1 3 (upd pl p1.toNatClampNeg p2), tc_I G e2 3 dr, tc_X6 ma tk mo su lv si ga sl sc fh lh fo ee pn e0 e1 e2 e3 e4 e5 a0, tc_X7 a0 0 ma rf lk pu tl lo, tc_Jx4a65c lo mc ed (nI n)] ++ tm_L G ed n ad rc) := hD
            refine va_castA hx hb hown (hts (.classLink RX7 43 "[I") (List.mem_of_getElem? (i := 3) rfl)) hP _ (tm_L_get (tm_lt (n_11 c_3 c_8))) (hK.2 0 (G.2.1, .int) rfl).2 dX7_feed_96 ?_
            refine lv_iconst (v := 4) hx hb dX7_feed_99 (by decide) ?_
            refine lv_iconst (v := 1) hx hb dX7_feed_100 (by decide) ?_
            refine va_iast (n := 5) (f := rc p2.toNatClampNeg) hx hb hK hP hD hS _ 0 (tm_L_get (tm_lt (n_11 c_3 c_8))) rfl (n_12 c_3 c_8) dX7_feed_101 (fun H locs hP hD hS => ?_)
            rw [tm_L_set (tm_lt (n_11 c_3 c_8))] at hP hD
            have hP : va_P G.1 vwCl ([tc_I G e1 3 (upd pl p1.toNatClampNeg p2), tc_I G e2 3 dr, tc_X6 ma tk mo su lv si ga sl sc fh lh fo ee pn e0 e1 e2 e3 e4 e5 a0, tc_X7 a0 0 ma rf lk pu tl lo, tc_Jx4a65c lo mc ed (nI n)] ++ tm_L G ed n ad (vf_upd rc p2.toNatClampNeg (upd (rc p2.toNatClampNeg) (4 : Int32).toNatClampNeg 1))) H := hP
            have hD : va_D A ([tc_I G e1 3 (upd pl p1.toNatClampNeg p2), tc_I G e2 3 dr, tc_X6 ma tk mo su lv si ga sl sc fh lh fo ee pn e0 e1 e2 e3 e4 e5 a0, tc_X7 a0 0 ma rf lk pu tl lo, tc_Jx4a65c lo mc ed (nI n)] ++ tm_L G ed n ad (vf_upd rc p2.toNatClampNeg (upd (rc p2.toNatClampNeg) (4 : Int32).toNatClampNeg 1))) := hD
            refine lv_aload_n hx hb dX7_feed_102 rfl (lv_at hl 0 rfl) ?_
            refine lv_iconst (v := 0) hx hb dX7_feed_103 (by decide) ?_
            have hPc := va_P.part (X := [tc_I G e1 3 (upd pl p1.toNatClampNeg p2), tc_I G e2 3 dr, tc_X6 ma tk mo su lv si ga sl sc fh lh fo ee pn e0 e1 e2 e3 e4 e5 a0, tc_X7 a0 0 ma rf lk pu tl lo, tc_Jx4a65c lo mc ed (nI n)]) (cx := [tc_X7 a0 0 ma rf lk pu tl lo, tc_Jx4a65c lo mc ed (nI n)]) (pl := tm_L G ed n ad (vf_upd rc p2.toNatClampNeg (upd (rc p2.toNatClampNeg) (4 : Int32).toNatClampNeg 1))) hP [3, 4] rfl
            have hDc := va_D.part (X := [tc_I G e1 3 (upd pl p1.toNatClampNeg p2), tc_I G e2 3 dr, tc_X6 ma tk mo su lv si ga sl sc fh lh fo ee pn e0 e1 e2 e3 e4 e5 a0, tc_X7 a0 0 ma rf lk pu tl lo, tc_Jx4a65c lo mc ed (nI n)]) (cx := [tc_X7 a0 0 ma rf lk pu tl lo, tc_Jx4a65c lo mc ed (nI n)]) (pl := tm_L G ed n ad (vf_upd rc p2.toNatClampNeg (upd (rc p2.toNatClampNeg) (4 : Int32).toNatClampNeg 1))) hD [3, 4] (by decide) rfl
            have hFc := va_freeP (X := [tc_I G e1 3 (upd pl p1.toNatClampNeg p2), tc_I G e2 3 dr, tc_X6 ma tk mo su lv si ga sl sc fh lh fo ee pn e0 e1 e2 e3 e4 e5 a0, tc_X7 a0 0 ma rf lk pu tl lo, tc_Jx4a65c lo mc ed (nI n)]) (cx := [tc_X7 a0 0 ma rf lk pu tl lo, tc_Jx4a65c lo mc ed (nI n)]) (pl := tm_L G ed n ad (vf_upd rc p2.toNatClampNeg (upd (rc p2.toNatClampNeg) (4 : Int32).toNatClampNeg 1))) hD hS hA [3, 4] rfl
            refine va_calli (va_runV (As := [.int 0]) (rest := []) ⟨hx, hb, hml, hown, hts⟩ (c_X7_count l G a0 ma lo ed H.size 0 rf lk pu tl mc 0 n ad (vf_upd rc p2.toNatClampNeg (upd (rc p2.toNatClampNeg) (4 : Int32).toNatClampNeg 1)) (n_22 c_3 c_8 c_13 c_17 c_20)) (cwV 1 hts gX7_feed_X7_count rfl rfl rfl (by decide +kernel) ⟨(Nat.le_of_ble_eq_true rfl), (Nat.le_of_ble_eq_true rfl)⟩) (tm_preV hK hN hV hS hPc hDc hFc (va_recv hK hPc (ci := 8) (q0 := 0) rfl rfl)) rfl rfl hl.1 rfl (lv_room (Nat.le_of_ble_eq_true rfl)) dX7_feed_104 ⟨(Nat.le_of_ble_eq_true rfl), (Nat.le_of_ble_eq_true rfl)⟩) hS (fun q _ h => hFc q h) hFc (fun r_23 u t H locs ht hvm hw_23 hB hz1 hk1 hS => ?_)
            obtain ⟨hP1, hD1⟩ := hB
            rw [ht] at hP1
            try dsimp only at hw_23
            obtain ⟨hP, hD⟩ := va_joinP (X := [tc_I G e1 3 (upd pl p1.toNatClampNeg p2), tc_I G e2 3 dr, tc_X6 ma tk mo su lv si ga sl sc fh lh fo ee pn e0 e1 e2 e3 e4 e5 a0, tc_X7 a0 0 ma rf lk pu tl lo, tc_Jx4a65c lo mc ed (nI n)]) (cx := [tc_X7 a0 0 ma rf lk pu tl lo, tc_Jx4a65c lo mc ed (nI n)]) (wr := [tc_I G e1 3 (upd pl p1.toNatClampNeg p2), tc_I G e2 3 dr, tc_X6 ma tk mo su lv si ga sl sc fh lh fo ee pn e0 e1 e2 e3 e4 e5 a0]) (rx := [tc_X7 a0 0 ma rf lk pu tl lo, tc_Jx4a65c lo mc ed (nI n)]) (pl := tm_L G ed n ad (vf_upd rc p2.toNatClampNeg (upd (rc p2.toNatClampNeg) (4 : Int32).toNatClampNeg 1))) (pl1 := tm_L G ed n ad (vf_upd rc p2.toNatClampNeg (upd (rc p2.toNatClampNeg) (4 : Int32).toNatClampNeg 1))) hP hD [3, 4] [0, 1, 2] rfl rfl (by decide) (by decide) hk1 hFc hP1 hD1
            have hP : va_P G.1 vwCl ([tc_I G e1 3 (upd pl p1.toNatClampNeg p2), tc_I G e2 3 dr, tc_X6 ma tk mo su lv si ga sl sc fh lh fo ee pn e0 e1 e2 e3 e4 e5 a0, tc_X7 a0 0 ma rf lk pu tl lo, tc_Jx4a65c lo mc ed (nI n)] ++ tm_L G ed n ad (vf_upd rc p2.toNatClampNeg (upd (rc p2.toNatClampNeg) (4 : Int32).toNatClampNeg 1))) H := hP
            have hD : va_D A ([tc_I G e1 3 (upd pl p1.toNatClampNeg p2), tc_I G e2 3 dr, tc_X6 ma tk mo su lv si ga sl sc fh lh fo ee pn e0 e1 e2 e3 e4 e5 a0, tc_X7 a0 0 ma rf lk pu tl lo, tc_Jx4a65c lo mc ed (nI n)] ++ tm_L G ed n ad (vf_upd rc p2.toNatClampNeg (upd (rc p2.toNatClampNeg) (4 : Int32).toNatClampNeg 1))) := hD
            subst r_23
            have hP9 := va_P.part (X := [tc_I G e1 3 (upd pl p1.toNatClampNeg p2), tc_I G e2 3 dr, tc_X6 ma tk mo su lv si ga sl sc fh lh fo ee pn e0 e1 e2 e3 e4 e5 a0, tc_X7 a0 0 ma rf lk pu tl lo, tc_Jx4a65c lo mc ed (nI n)]) (cx := [tc_X7 a0 0 ma rf lk pu tl lo, tc_X6 ma tk mo su lv si ga sl sc fh lh fo ee pn e0 e1 e2 e3 e4 e5 a0, tc_I G e1 3 (upd pl p1.toNatClampNeg p2), tc_I G e2 3 dr, tc_Jx4a65c lo mc ed (nI n)]) (pl := tm_L G ed n ad (vf_upd rc p2.toNatClampNeg (upd (rc p2.toNatClampNeg) (4 : Int32).toNatClampNeg 1))) hP [3, 2, 0, 1, 4] rfl
            have hD9 := va_D.part (X := [tc_I G e1 3 (upd pl p1.toNatClampNeg p2), tc_I G e2 3 dr, tc_X6 ma tk mo su lv si ga sl sc fh lh fo ee pn e0 e1 e2 e3 e4 e5 a0, tc_X7 a0 0 ma rf lk pu tl lo, tc_Jx4a65c lo mc ed (nI n)]) (cx := [tc_X7 a0 0 ma rf lk pu tl lo, tc_X6 ma tk mo su lv si ga sl sc fh lh fo ee pn e0 e1 e2 e3 e4 e5 a0, tc_I G e1 3 (upd pl p1.toNatClampNeg p2), tc_I G e2 3 dr, tc_Jx4a65c lo mc ed (nI n)]) (pl := tm_L G ed n ad (vf_upd rc p2.toNatClampNeg (upd (rc p2.toNatClampNeg) (4 : Int32).toNatClampNeg 1))) hD [3, 2, 0, 1, 4] (by decide) rfl
            exact W.iret (v := f_X7_count 0 n (vf_upd rc p2.toNatClampNeg (upd (rc p2.toNatClampNeg) (4 : Int32).toNatClampNeg 1))) hx hb hr (fun t ht hW => ⟨⟨f_X7_count 0 n (vf_upd rc p2.toNatClampNeg (upd (rc p2.toNatClampNeg) (4 : Int32).toNatClampNeg 1)), (vf_upd rc p2.toNatClampNeg (upd (rc p2.toNatClampNeg) (4 : Int32).toNatClampNeg 1), 0, upd pl p1.toNatClampNeg p2), rfl, by unfold f_X7_feed; all_goals (rw [if_neg c_3]); all_goals (rw [if_neg c_8]); all_goals (rw [if_pos c_13]); all_goals (rw [if_pos c_17]); all_goals (rw [if_pos c_20]); all_goals rfl, by rw [ht]; exact hP9, hD9⟩, hS.F ht⟩) hS.2.2 dX7_feed_107
          · refine lv_aload_n hx hb dX7_feed_70 rfl (lv_at hl 0 rfl) ?_
            refine lv_iconst (v := 2) hx hb dX7_feed_71 (by decide) ?_
            have hPc := hP.sub (ws' := [tc_X7 a0 0 ma rf lk pu tl lo]) [3] rfl
            have hDc := hD.sub (ws' := [tc_X7 a0 0 ma rf lk pu tl lo]) [3] (by decide) rfl
            have hFc := va_free (wc := [tc_X7 a0 0 ma rf lk pu tl lo]) hD hS hA [3] rfl
            refine va_calli (va_runV (As := [.int 2]) (rest := []) ⟨hx, hb, hml, hown, hts⟩ (c_X7_no l G a0 ma lo H.size 0 rf lk pu tl 2 ) (cwV 1 hts gX7_feed_X7_no rfl rfl rfl (by decide +kernel) ⟨(Nat.le_of_ble_eq_true rfl), (Nat.le_of_ble_eq_true rfl)⟩) (tm_preV hK hN hV hS hPc hDc hFc (va_recv hK hPc (ci := 8) (q0 := 0) rfl rfl)) rfl rfl hl.1 rfl (lv_room (Nat.le_of_ble_eq_true rfl)) dX7_feed_72 ⟨(Nat.le_of_ble_eq_true rfl), (Nat.le_of_ble_eq_true rfl)⟩) hS (fun q _ h => hFc q h) hFc (fun r_24 u t H locs ht hvm hw_24 hB hz1 hk1 hS => ?_)
            obtain ⟨u_25, rfl⟩ : ∃ z, z = u := ⟨_, rfl⟩
            obtain ⟨hP1, hD1⟩ := hB
            rw [ht] at hP1
            try dsimp only at hw_24
            obtain ⟨hP, hD⟩ := va_joinQ (X := [tc_I G e1 3 pl, tc_I G e2 3 dr, tc_X6 ma tk mo su lv si ga sl sc fh lh fo ee pn e0 e1 e2 e3 e4 e5 a0, tc_X7 a0 0 ma rf lk pu tl lo, tc_Jx4a65c lo mc ed (nI n)]) (cx := [tc_X7 a0 0 ma rf lk pu tl lo]) (wr := [tc_I G e1 3 pl, tc_I G e2 3 dr, tc_X6 ma tk mo su lv si ga sl sc fh lh fo ee pn e0 e1 e2 e3 e4 e5 a0, tc_Jx4a65c lo mc ed (nI n)]) (w1 := [tc_X7 a0 u_25 ma rf lk pu tl lo]) (pl := tm_L G ed n ad rc) hP hD [3] [0, 1, 2, 4] rfl rfl (by decide) (by decide) hk1 hFc hP1 hD1
            have hP : va_P G.1 vwCl ([tc_I G e1 3 pl, tc_I G e2 3 dr, tc_X6 ma tk mo su lv si ga sl sc fh lh fo ee pn e0 e1 e2 e3 e4 e5 a0, tc_Jx4a65c lo mc ed (nI n), tc_X7 a0 u_25 ma rf lk pu tl lo] ++ tm_L G ed n ad rc) H := hP
            have hD : va_D A ([tc_I G e1 3 pl, tc_I G e2 3 dr, tc_X6 ma tk mo su lv si ga sl sc fh lh fo ee pn e0 e1 e2 e3 e4 e5 a0, tc_Jx4a65c lo mc ed (nI n), tc_X7 a0 u_25 ma rf lk pu tl lo] ++ tm_L G ed n ad rc) := hD
            have hP9 := va_P.part (X := [tc_I G e1 3 pl, tc_I G e2 3 dr, tc_X6 ma tk mo su lv si ga sl sc fh lh fo ee pn e0 e1 e2 e3 e4 e5 a0, tc_Jx4a65c lo mc ed (nI n), tc_X7 a0 u_25 ma rf lk pu tl lo]) (cx := [tc_X7 a0 u_25 ma rf lk pu tl lo, tc_X6 ma tk mo su lv si ga sl sc fh lh fo ee pn e0 e1 e2 e3 e4 e5 a0, tc_I G e1 3 pl, tc_I G e2 3 dr, tc_Jx4a65c lo mc ed (nI n)]) (pl := tm_L G ed n ad rc) hP [4, 2, 0, 1, 3] rfl
            have hD9 := va_D.part (X := [tc_I G e1 3 pl, tc_I G e2 3 dr, tc_X6 ma tk mo su lv si ga sl sc fh lh fo ee pn e0 e1 e2 e3 e4 e5 a0, tc_Jx4a65c lo mc ed (nI n), tc_X7 a0 u_25 ma rf lk pu tl lo]) (cx := [tc_X7 a0 u_25 ma rf lk pu tl lo, tc_X6 ma tk mo su lv si ga sl sc fh lh fo ee pn e0 e1 e2 e3 e4 e5 a0, tc_I G e1 3 pl, tc_I G e2 3 dr, tc_Jx4a65c lo mc ed (nI n)]) (pl := tm_L G ed n ad rc) hD [4, 2, 0, 1, 3] (by decide) rfl
            exact W.iret (v := r_24) hx hb hr (fun t ht hW => ⟨⟨r_24, (rc, u_25, pl), rfl, by unfold f_X7_feed; all_goals (rw [if_neg c_3]); all_goals (rw [if_neg c_8]); all_goals (rw [if_pos c_13]); all_goals (rw [if_pos c_17]); all_goals (rw [if_neg c_20]); all_goals (rw [← hw_24]); all_goals (dsimp only); all_goals rfl, by rw [ht]; exact hP9, hD9⟩, hS.F ht⟩) hS.2.2 dX7_feed_75
    · refine lv_aload_n hx hb dX7_feed_21 rfl (lv_at hl 0 rfl) ?_
      refine lv_iconst (v := 1) hx hb dX7_feed_22 (by decide) ?_
      have hPc := hP.sub (ws' := [tc_X7 a0 0 ma rf lk pu tl lo]) [3] rfl
      have hDc := hD.sub (ws' := [tc_X7 a0 0 ma rf lk pu tl lo]) [3] (by decide) rfl
      have hFc := va_free (wc := [tc_X7 a0 0 ma rf lk pu tl lo]) hD hS hA [3] rfl
      refine va_calli (va_runV (As := [.int 1]) (rest := []) ⟨hx, hb, hml, hown, hts⟩ (c_X7_no l G a0 ma lo H.size 0 rf lk pu tl 1 ) (cwV 1 hts gX7_feed_X7_no rfl rfl rfl (by decide +kernel) ⟨(Nat.le_of_ble_eq_true rfl), (Nat.le_of_ble_eq_true rfl)⟩) (tm_preV hK hN hV hS hPc hDc hFc (va_recv hK hPc (ci := 8) (q0 := 0) rfl rfl)) rfl rfl hl.1 rfl (lv_room (Nat.le_of_ble_eq_true rfl)) dX7_feed_23 ⟨(Nat.le_of_ble_eq_true rfl), (Nat.le_of_ble_eq_true rfl)⟩) hS (fun q _ h => hFc q h) hFc (fun r_26 u t H locs ht hvm hw_26 hB hz1 hk1 hS => ?_)
      obtain ⟨u_27, rfl⟩ : ∃ z, z = u := ⟨_, rfl⟩
      obtain ⟨hP1, hD1⟩ := hB
      rw [ht] at hP1
      try dsimp only at hw_26
      obtain ⟨hP, hD⟩ := va_joinQ (X := [tc_I G e1 3 pl, tc_I G e2 3 dr, tc_X6 ma tk mo su lv si ga sl sc fh lh fo ee pn e0 e1 e2 e3 e4 e5 a0, tc_X7 a0 0 ma rf lk pu tl lo, tc_Jx4a65c lo mc ed (nI n)]) (cx := [tc_X7 a0 0 ma rf lk pu tl lo]) (wr := [tc_I G e1 3 pl, tc_I G e2 3 dr, tc_X6 ma tk mo su lv si ga sl sc fh lh fo ee pn e0 e1 e2 e3 e4 e5 a0, tc_Jx4a65c lo mc ed (nI n)]) (w1 := [tc_X7 a0 u_27 ma rf lk pu tl lo]) (pl := tm_L G ed n ad rc) hP hD [3] [0, 1, 2, 4] rfl rfl (by decide) (by decide) hk1 hFc hP1 hD1
      have hP : va_P G.1 vwCl ([tc_I G e1 3 pl, tc_I G e2 3 dr, tc_X6 ma tk mo su lv si ga sl sc fh lh fo ee pn e0 e1 e2 e3 e4 e5 a0, tc_Jx4a65c lo mc ed (nI n), tc_X7 a0 u_27 ma rf lk pu tl lo] ++ tm_L G ed n ad rc) H := hP
      have hD : va_D A ([tc_I G e1 3 pl, tc_I G e2 3 dr, tc_X6 ma tk mo su lv si ga sl sc fh lh fo ee pn e0 e1 e2 e3 e4 e5 a0, tc_Jx4a65c lo mc ed (nI n), tc_X7 a0 u_27 ma rf lk pu tl lo] ++ tm_L G ed n ad rc) := hD
      have hP9 := va_P.part (X := [tc_I G e1 3 pl, tc_I G e2 3 dr, tc_X6 ma tk mo su lv si ga sl sc fh lh fo ee pn e0 e1 e2 e3 e4 e5 a0, tc_Jx4a65c lo mc ed (nI n), tc_X7 a0 u_27 ma rf lk pu tl lo]) (cx := [tc_X7 a0 u_27 ma rf lk pu tl lo, tc_X6 ma tk mo su lv si ga sl sc fh lh fo ee pn e0 e1 e2 e3 e4 e5 a0, tc_I G e1 3 pl, tc_I G e2 3 dr, tc_Jx4a65c lo mc ed (nI n)]) (pl := tm_L G ed n ad rc) hP [4, 2, 0, 1, 3] rfl
      have hD9 := va_D.part (X := [tc_I G e1 3 pl, tc_I G e2 3 dr, tc_X6 ma tk mo su lv si ga sl sc fh lh fo ee pn e0 e1 e2 e3 e4 e5 a0, tc_Jx4a65c lo mc ed (nI n), tc_X7 a0 u_27 ma rf lk pu tl lo]) (cx := [tc_X7 a0 u_27 ma rf lk pu tl lo, tc_X6 ma tk mo su lv si ga sl sc fh lh fo ee pn e0 e1 e2 e3 e4 e5 a0, tc_I G e1 3 pl, tc_I G e2 3 dr, tc_Jx4a65c lo mc ed (nI n)]) (pl := tm_L G ed n ad rc) hD [4, 2, 0, 1, 3] (by decide) rfl
      exact W.iret (v := r_26) hx hb hr (fun t ht hW => ⟨⟨r_26, (rc, u_27, pl), rfl, by unfold f_X7_feed; all_goals (rw [if_neg c_3]); all_goals (rw [if_pos c_8]); all_goals (rw [← hw_26]); all_goals (dsimp only); all_goals rfl, by rw [ht]; exact hP9, hD9⟩, hS.F ht⟩) hS.2.2 dX7_feed_26
set_option maxHeartbeats 4000000 in
set_option maxRecDepth 100000 in
theorem c_X7_take (l : Launch) (G : tm_G) (a0 : Nat) (ma : Nat) (lo : Nat) (e0 : Nat) (e1 : Nat) (e2 : Nat) (e3 : Nat) (e4 : Nat) (e5 : Nat) (ed : Nat) (sz : Nat) (th : Int32) (rf : Int32) (lk : Int32) (pu : Int32) (tl : UInt64) (tk : Int32) (mo : Int32) (su : UInt64) (lv : UInt64) (si : UInt32) (ga : Int32) (sl : Int32) (sc : Int32) (fh : Int32) (lh : Int32) (fo : UInt64) (ee : Int32) (pn : Int32) (pl : Nat → Int32) (dr : Nat → Int32) (mc : Int32) (p1 : Int32) (n : Nat) (ad : Nat → Nat) (rc : Nat → Nat → Int32) (hn : n_X7_take pn pl p1 n) : Met l yX7_take wsX7_take ({ frames := 3, cells := 0, slots := 0, locals := 64 }) (va_Pc [.ref a0, .int p1] (tm_B G ([tc_X7 a0 th ma rf lk pu tl lo, tc_X6 ma tk mo su lv si ga sl sc fh lh fo ee pn e0 e1 e2 e3 e4 e5 a0, tc_I G e1 3 pl, tc_I G e2 3 dr, tc_Jx4a65c lo mc ed (nI n)] ++ tm_L G ed n ad rc) sz)) (va_Qi (fun (r : Int32) (u : (Nat → Nat → Int32) × Int32 × (Nat → Int32)) => (r, u) = f_X7_take pn pl p1 rc) (fun (u : (Nat → Nat → Int32) × Int32 × (Nat → Int32)) (t : State) => va_P G.1 vwCl ([tc_X7 a0 u.2.1 ma rf lk pu tl lo, tc_X6 ma tk mo su lv si ga sl sc fh lh fo ee pn e0 e1 e2 e3 e4 e5 a0, tc_I G e1 3 u.2.2, tc_I G e2 3 dr, tc_Jx4a65c lo mc ed (nI n)] ++ tm_L G ed n ad u.1) t.heap ∧ va_D (va_A ([tc_X7 a0 th ma rf lk pu tl lo, tc_X6 ma tk mo su lv si ga sl sc fh lh fo ee pn e0 e1 e2 e3 e4 e5 a0, tc_I G e1 3 pl, tc_I G e2 3 dr, tc_Jx4a65c lo mc ed (nI n)] ++ tm_L G ed n ad rc) sz) ([tc_X7 a0 u.2.1 ma rf lk pu tl lo, tc_X6 ma tk mo su lv si ga sl sc fh lh fo ee pn e0 e1 e2 e3 e4 e5 a0, tc_I G e1 3 u.2.2, tc_I G e2 3 dr, tc_Jx4a65c lo mc ed (nI n)] ++ tm_L G ed n ad u.1)) (va_A ([tc_X7 a0 th ma rf lk pu tl lo, tc_X6 ma tk mo su lv si ga sl sc fh lh fo ee pn e0 e1 e2 e3 e4 e5 a0, tc_I G e1 3 pl, tc_I G e2 3 dr, tc_Jx4a65c lo mc ed (nI n)] ++ tm_L G ed n ad rc) sz)) 0 0 (va_A ([tc_X7 a0 th ma rf lk pu tl lo, tc_X6 ma tk mo su lv si ga sl sc fh lh fo ee pn e0 e1 e2 e3 e4 e5 a0, tc_I G e1 3 pl, tc_I G e2 3 dr, tc_Jx4a65c lo mc ed (nI n)] ++ tm_L G ed n ad rc) sz) := by
  refine Met.ofW (cc := cX7_take) (maxL := 3) (ret := (some .int)) (by decide) rfl ?_
  intro p e s m args below meth c s₁ B hml hv
  obtain ⟨rfl, hsz, hP, hK, hD0, hN, hV⟩ := hv
  have hx := B.exec
  have hb := B.bytes
  have hr := B.returns
  have hts := atoms_spec (ws := wsX7_take) B.pre
  have hown : s.vm.findClass RX7 = some m.cls := findClass_of_methodNamed B.named
  have hlocks := B.notSynchronized
  subst hsz
  obtain ⟨n_1, n_4, n_6, n_8, n_9⟩ := hn
  have hiX6 : ∀ w ∈ u_ws RX6 TX6 20, w ∈ wsX7_take := fun _ h => List.mem_cons_of_mem _ (List.mem_append_left _ (List.mem_append_right _ h))
  have hiX7 : ∀ w ∈ u_ws RX7 TX7 7, w ∈ wsX7_take := fun _ h => List.mem_cons_of_mem _ (List.mem_append_left _ (List.mem_append_left _ (List.mem_append_right _ h)))
  have hD := hD0.self (sz := s.heap.size)
  generalize hAe : va_A ([tc_X7 a0 th ma rf lk pu tl lo, tc_X6 ma tk mo su lv si ga sl sc fh lh fo ee pn e0 e1 e2 e3 e4 e5 a0, tc_I G e1 3 pl, tc_I G e2 3 dr, tc_Jx4a65c lo mc ed (nI n)] ++ tm_L G ed n ad rc) s.heap.size = A at hD hV ⊢
  have hA : ∀ q : Nat, s.heap.size ≤ q → A q := fun q h => by rw [← hAe]; exact Or.inr h
  have hS : va_S A s.heap s.heap [] := va_S.rf
  have hl := lv_entry ([.ref a0, .int p1]) (n := 3) (Nat.le_of_ble_eq_true rfl)
  rw [lg_entry_eq]
  generalize (lg_sl ([.ref a0, .int p1]) ++ List.replicate (3 - (lg_sl ([.ref a0, .int p1])).length) Slot.unset).toArray = ls at hl ⊢
  have hl : lv_has ls 3 [(0, .ref a0), (1, .int p1)] := hl
  refine lv_aload_n hx hb dX7_take_0 rfl (lv_at hl 0 rfl) ?_
  refine lv_iconst (v := 0) hx hb dX7_take_1 (by decide) ?_
  refine va_put (D := G.1) (ci := 8) (v := .int 0) (ty := .int) (C := RX7) (T := TX7) (N := 7) hx hb hts hiX7 tyX7 tyX7_ok nmX7 hown hK hP hD hS 0 rfl rfl 0 (by decide) (hts (.fieldLink RX7 25 "TideMillModel" "thrown" "I") (List.mem_of_getElem? (i := 1) rfl)) (fun _ h9 => h9) rfl (by decide +kernel) rfl rfl (Nat.le_of_ble_eq_true rfl) dX7_take_2 (fun H locs hP hD hS => ?_)
  have hP : va_P G.1 vwCl ([tc_X7 a0 0 ma rf lk pu tl lo, tc_X6 ma tk mo su lv si ga sl sc fh lh fo ee pn e0 e1 e2 e3 e4 e5 a0, tc_I G e1 3 pl, tc_I G e2 3 dr, tc_Jx4a65c lo mc ed (nI n)] ++ tm_L G ed n ad rc) H := hP
  have hD : va_D A ([tc_X7 a0 0 ma rf lk pu tl lo, tc_X6 ma tk mo su lv si ga sl sc fh lh fo ee pn e0 e1 e2 e3 e4 e5 a0, tc_I G e1 3 pl, tc_I G e2 3 dr, tc_Jx4a65c lo mc ed (nI n)] ++ tm_L G ed n ad rc) := hD
  refine lv_aload_n hx hb dX7_take_5 rfl (lv_at hl 0 rfl) ?_
  refine lv_iload_n hx hb dX7_take_6 rfl (lv_at hl 1 rfl) ?_
  have hPc := hP.sub (ws' := [tc_X7 a0 0 ma rf lk pu tl lo, tc_X6 ma tk mo su lv si ga sl sc fh lh fo ee pn e0 e1 e2 e3 e4 e5 a0]) [0, 1] rfl
  have hDc := hD.sub (ws' := [tc_X7 a0 0 ma rf lk pu tl lo, tc_X6 ma tk mo su lv si ga sl sc fh lh fo ee pn e0 e1 e2 e3 e4 e5 a0]) [0, 1] (by decide) rfl
  have hFc := va_free (wc := [tc_X7 a0 0 ma rf lk pu tl lo, tc_X6 ma tk mo su lv si ga sl sc fh lh fo ee pn e0 e1 e2 e3 e4 e5 a0]) hD hS hA [0, 1] rfl
  refine va_calli (va_runV (As := [.int p1]) (rest := []) ⟨hx, hb, hml, hown, hts⟩ (c_X7_isPair l G a0 ma lo e0 e1 e2 e3 e4 e5 H.size 0 rf lk pu tl tk mo su lv si ga sl sc fh lh fo ee pn p1 n_1) (cwV 1 hts gX7_take_X7_isPair rfl rfl rfl (by decide +kernel) ⟨(Nat.le_of_ble_eq_true rfl), (Nat.le_of_ble_eq_true rfl)⟩) (tm_preV hK hN hV hS hPc hDc hFc (va_recv hK hPc (ci := 8) (q0 := 0) rfl rfl)) rfl rfl hl.1 rfl (lv_room (Nat.le_of_ble_eq_true rfl)) dX7_take_7 ⟨(Nat.le_of_ble_eq_true rfl), (Nat.le_of_ble_eq_true rfl)⟩) hS (fun q _ h => hFc q h) hFc (fun r_2 u t H locs ht hvm hw_2 hB hz1 hk1 hS => ?_)
  obtain ⟨hP1, hD1⟩ := hB
  rw [ht] at hP1
  try dsimp only at hw_2
  obtain ⟨hP, hD⟩ := va_joinQ (X := [tc_X7 a0 0 ma rf lk pu tl lo, tc_X6 ma tk mo su lv si ga sl sc fh lh fo ee pn e0 e1 e2 e3 e4 e5 a0, tc_I G e1 3 pl, tc_I G e2 3 dr, tc_Jx4a65c lo mc ed (nI n)]) (cx := [tc_X7 a0 0 ma rf lk pu tl lo, tc_X6 ma tk mo su lv si ga sl sc fh lh fo ee pn e0 e1 e2 e3 e4 e5 a0]) (wr := [tc_I G e1 3 pl, tc_I G e2 3 dr, tc_Jx4a65c lo mc ed (nI n)]) (w1 := [tc_X7 a0 0 ma rf lk pu tl lo, tc_X6 ma tk mo su lv si ga sl sc fh lh fo ee pn e0 e1 e2 e3 e4 e5 a0]) (pl := tm_L G ed n ad rc) hP hD [0, 1] [2, 3, 4] rfl rfl (by decide) (by decide) hk1 hFc hP1 hD1
  have hP : va_P G.1 vwCl ([tc_I G e1 3 pl, tc_I G e2 3 dr, tc_Jx4a65c lo mc ed (nI n), tc_X7 a0 0 ma rf lk pu tl lo, tc_X6 ma tk mo su lv si ga sl sc fh lh fo ee pn e0 e1 e2 e3 e4 e5 a0] ++ tm_L G ed n ad rc) H := hP
  have hD : va_D A ([tc_I G e1 3 pl, tc_I G e2 3 dr, tc_Jx4a65c lo mc ed (nI n), tc_X7 a0 0 ma rf lk pu tl lo, tc_X6 ma tk mo su lv si ga sl sc fh lh fo ee pn e0 e1 e2 e3 e4 e5 a0] ++ tm_L G ed n ad rc) := hD
  subst r_2
  refine lv_if_ne (tgt := 19) hx hb dX7_take_10 (by decide) (fun c_3 => ?_) (fun c_3 => ?_)
  · refine lv_aload_n hx hb dX7_take_19 rfl (lv_at hl 0 rfl) ?_
    refine va_get (D := G.1) (ci := 8) (v := .ref ma) (C := RX7) (T := TX7) (N := 7) hx hb hts hiX7 hown hK hP 3 rfl rfl 1 (by decide) (hts (.fieldLink RX7 12 "TideMillModel" "mill" "LTideMillModel$Mill;") (List.mem_of_getElem? (i := 2) rfl)) (fun _ h9 => h9) rfl dX7_take_20 ?_
    refine va_get (D := G.1) (ci := 7) (v := .ref e1) (C := RX6) (T := TX6) (N := 20) hx hb hts hiX6 hown hK hP 4 rfl rfl 14 (by decide) (hts (.fieldLink RX7 101 "TideMillModel$Mill" "lot" "[I") (List.mem_of_getElem? (i := 3) rfl)) (fun _ h9 => h9) rfl dX7_take_23 ?_
    refine lv_iload_n hx hb dX7_take_26 rfl (lv_at hl 1 rfl) ?_
    refine va_iald (n := 3) (f := pl) hx hb hK hP 0 0 rfl rfl (n_4 c_3) dX7_take_27 ?_
    refine lv_istore_n (lv' := [(2, .int (pl p1.toNatClampNeg)), (0, .ref a0), (1, .int p1)]) hx hb dX7_take_28 rfl hl (by decide) rfl (fun ls hl => ?_)
    refine lv_iload_n hx hb dX7_take_29 rfl (lv_at hl 0 rfl) ?_
    refine lv_iconst (v := (-1)) hx hb dX7_take_30 (by decide) ?_
    refine lv_icmp_ne (tgt := 40) hx hb dX7_take_31 (by decide) (fun c_5 => ?_) (fun c_5 => ?_)
    · refine lv_aload_n hx hb dX7_take_40 rfl (lv_at hl 1 rfl) ?_
      refine va_get (D := G.1) (ci := 8) (v := .ref ma) (C := RX7) (T := TX7) (N := 7) hx hb hts hiX7 hown hK hP 3 rfl rfl 1 (by decide) (hts (.fieldLink RX7 12 "TideMillModel" "mill" "LTideMillModel$Mill;") (List.mem_of_getElem? (i := 2) rfl)) (fun _ h9 => h9) rfl dX7_take_41 ?_
      refine va_get (D := G.1) (ci := 7) (v := .ref e1) (C := RX6) (T := TX6) (N := 20) hx hb hts hiX6 hown hK hP 4 rfl rfl 14 (by decide) (hts (.fieldLink RX7 101 "TideMillModel$Mill" "lot" "[I") (List.mem_of_getElem? (i := 3) rfl)) (fun _ h9 => h9) rfl dX7_take_44 ?_
      refine lv_iload_n hx hb dX7_take_47 rfl (lv_at hl 2 rfl) ?_
      refine lv_iconst (v := (-1)) hx hb dX7_take_48 (by decide) ?_
      refine va_iast (n := 3) (f := pl) hx hb hK hP hD hS 0 0 rfl rfl (n_4 c_3) dX7_take_49 (fun H locs hP hD hS => ?_)
      have hP : va_P G.1 vwCl ([tc_I G e1 3 (upd pl p1.toNatClampNeg (-1)), tc_I G e2 3 dr, tc_Jx4a65c lo mc ed (nI n), tc_X7 a0 0 ma rf lk pu tl lo, tc_X6 ma tk mo su lv si ga sl sc fh lh fo ee pn e0 e1 e2 e3 e4 e5 a0] ++ tm_L G ed n ad rc) H := hP
      have hD : va_D A ([tc_I G e1 3 (upd pl p1.toNatClampNeg (-1)), tc_I G e2 3 dr, tc_Jx4a65c lo mc ed (nI n), tc_X7 a0 0 ma rf lk pu tl lo, tc_X6 ma tk mo su lv si ga sl sc fh lh fo ee pn e0 e1 e2 e3 e4 e5 a0] ++ tm_L G ed n ad rc) := hD
      refine lv_aload_n hx hb dX7_take_50 rfl (lv_at hl 1 rfl) ?_
      refine va_get (D := G.1) (ci := 8) (v := .ref lo) (C := RX7) (T := TX7) (N := 7) hx hb hts hiX7 hown hK hP 3 rfl rfl 6 (by decide) (hts (.fieldLink RX7 21 "TideMillModel" "lots" "Ljava/util/List;") (List.mem_of_getElem? (i := 4) rfl)) (fun _ h9 => h9) rfl dX7_take_51 ?_
      refine lv_iload_n hx hb dX7_take_54 rfl (lv_at hl 0 rfl) ?_
      have hPc := va_P.part (X := [tc_I G e1 3 (upd pl p1.toNatClampNeg (-1)), tc_I G e2 3 dr, tc_Jx4a65c lo mc ed (nI n), tc_X7 a0 0 ma rf lk pu tl lo, tc_X6 ma tk mo su lv si ga sl sc fh lh fo ee pn e0 e1 e2 e3 e4 e5 a0]) (cx := [tc_Jx4a65c lo mc ed (nI n)]) (pl := tm_L G ed n ad rc) hP [2] rfl
      have hDc := va_D.part (X := [tc_I G e1 3 (upd pl p1.toNatClampNeg (-1)), tc_I G e2 3 dr, tc_Jx4a65c lo mc ed (nI n), tc_X7 a0 0 ma rf lk pu tl lo, tc_X6 ma tk mo su lv si ga sl sc fh lh fo ee pn e0 e1 e2 e3 e4 e5 a0]) (cx := [tc_Jx4a65c lo mc ed (nI n)]) (pl := tm_L G ed n ad rc) hD [2] (by decide) rfl
      have hFc := va_freeP (X := [tc_I G e1 3 (upd pl p1.toNatClampNeg (-1)), tc_I G e2 3 dr, tc_Jx4a65c lo mc ed (nI n), tc_X7 a0 0 ma rf lk pu tl lo, tc_X6 ma tk mo su lv si ga sl sc fh lh fo ee pn e0 e1 e2 e3 e4 e5 a0]) (cx := [tc_Jx4a65c lo mc ed (nI n)]) (pl := tm_L G ed n ad rc) hD hS hA [2] rfl
      refine va_callFr (va_runF (As := [.int (pl p1.toNatClampNeg)]) (rest := []) (hK.1 0 (RJx4a65c, TJx4a65c, 3) rfl).2 ⟨hx, hb, hml, hown, hts⟩ (c_Jx4a65c_get_915e3 l G lo ed H.size mc (pl p1.toNatClampNeg) n ad rc (n_6 c_3 c_5)) (va_cwF 1 hts gX7_take_Jx4a65c_get_915e3_f39Jx4a65c rfl rfl rfl (hN.2.2.2.2.1 (⟨"java/util/List", "get", "(I)Ljava/lang/Object;"⟩, yJx4a65c_get_915e3) (List.mem_of_getElem? (i := 1) rfl)) (by decide +kernel) ⟨(Nat.le_of_ble_eq_true rfl), (Nat.le_of_ble_eq_true rfl)⟩) (tm_preV hK hN hV hS hPc hDc hFc (va_recv hK hPc (ci := 0) (q0 := 0) rfl rfl)) rfl rfl hl.1 rfl (lv_room (Nat.le_of_ble_eq_true rfl)) dX7_take_55 ⟨(Nat.le_of_ble_eq_true rfl), (Nat.le_of_ble_eq_true rfl)⟩) hS (fun q _ h => hFc q h) hFc (fun u ra t H locs ht hvm hw_7 hB hz1 hk1 hS => ?_)
      obtain ⟨rfl, hP1, hD1⟩ := hB
      rw [ht] at hP1
      obtain ⟨hP, hD⟩ := va_joinP (X := [tc_I G e1 3 (upd pl p1.toNatClampNeg (-1)), tc_I G e2 3 dr, tc_Jx4a65c lo mc ed (nI n), tc_X7 a0 0 ma rf lk pu tl lo, tc_X6 ma tk mo su lv si ga sl sc fh lh fo ee pn e0 e1 e2 e3 e4 e5 a0]) (cx := [tc_Jx4a65c lo mc ed (nI n)]) (wr := [tc_I G e1 3 (upd pl p1.toNatClampNeg (-1)), tc_I G e2 3 dr, tc_X7 a0 0 ma rf lk pu tl lo, tc_X6 ma tk mo su lv si ga sl sc fh lh fo ee pn e0 e1 e2 e3 e4 e5 a0]) (rx := [tc_Jx4a65c lo mc ed (nI n)]) (pl := tm_L G ed n ad rc) (pl1 := tm_L G ed n ad rc) hP hD [2] [0, 1, 3, 4] rfl rfl (by decide) (by decide) hk1 hFc hP1 hD1
      have hP : va_P G.1 vwCl ([tc_I G e1 3 (upd pl p1.toNatClampNeg (-1)), tc_I G e2 3 dr, tc_X7 a0 0 ma rf lk pu tl lo, tc_X6 ma tk mo su lv si ga sl sc fh lh fo ee pn e0 e1 e2 e3 e4 e5 a0, tc_Jx4a65c lo mc ed (nI n)] ++ tm_L G ed n ad rc) H := hP
      have hD : va_D A ([tc_I G e1 3 (upd pl p1.toNatClampNeg (-1)), tc_I G e2 3 dr, tc_X7 a0 0 ma rf lk pu tl lo, tc_X6 ma tk mo su lv si ga sl sc fh lh fo ee pn e0 e1 e2 e3 e4 e5 a0, tc_Jx4a65c lo mc ed (nI n)] ++ tm_L G ed n ad rc) := hD
      refine va_castA hx hb hown (hts (.classLink RX7 43 "[I") (List.mem_of_getElem? (i := 5) rfl)) hP _ (tm_L_get (tm_lt (n_8 c_3 c_5))) (hK.2 0 (G.2.1, .int) rfl).2 dX7_take_60 ?_
      refine lv_iconst (v := 4) hx hb dX7_take_63 (by decide) ?_
      refine lv_iconst (v := 0) hx hb dX7_take_64 (by decide) ?_
      refine va_iast (n := 5) (f := rc ((pl p1.toNatClampNeg).toNatClampNeg)) hx hb hK hP hD hS _ 0 (tm_L_get (tm_lt (n_8 c_3 c_5))) rfl (n_9 c_3 c_5) dX7_take_65 (fun H locs hP hD hS => ?_)
      rw [tm_L_set (tm_lt (n_8 c_3 c_5))] at hP hD
      have hP : va_P G.1 vwCl ([tc_I G e1 3 (upd pl p1.toNatClampNeg (-1)), tc_I G e2 3 dr, tc_X7 a0 0 ma rf lk pu tl lo, tc_X6 ma tk mo su lv si ga sl sc fh lh fo ee pn e0 e1 e2 e3 e4 e5 a0, tc_Jx4a65c lo mc ed (nI n)] ++ tm_L G ed n ad (vf_upd rc ((pl p1.toNatClampNeg).toNatClampNeg) (upd (rc ((pl p1.toNatClampNeg).toNatClampNeg)) (4 : Int32).toNatClampNeg 0))) H := hP
      have hD : va_D A ([tc_I G e1 3 (upd pl p1.toNatClampNeg (-1)), tc_I G e2 3 dr, tc_X7 a0 0 ma rf lk pu tl lo, tc_X6 ma tk mo su lv si ga sl sc fh lh fo ee pn e0 e1 e2 e3 e4 e5 a0, tc_Jx4a65c lo mc ed (nI n)] ++ tm_L G ed n ad (vf_upd rc ((pl p1.toNatClampNeg).toNatClampNeg) (upd (rc ((pl p1.toNatClampNeg).toNatClampNeg)) (4 : Int32).toNatClampNeg 0))) := hD
      refine lv_iload_n hx hb dX7_take_66 rfl (lv_at hl 0 rfl) ?_
      have hP9 := va_P.part (X := [tc_I G e1 3 (upd pl p1.toNatClampNeg (-1)), tc_I G e2 3 dr, tc_X7 a0 0 ma rf lk pu tl lo, tc_X6 ma tk mo su lv si ga sl sc fh lh fo ee pn e0 e1 e2 e3 e4 e5 a0, tc_Jx4a65c lo mc ed (nI n)]) (cx := [tc_X7 a0 0 ma rf lk pu tl lo, tc_X6 ma tk mo su lv si ga sl sc fh lh fo ee pn e0 e1 e2 e3 e4 e5 a0, tc_I G e1 3 (upd pl p1.toNatClampNeg (-1)), tc_I G e2 3 dr, tc_Jx4a65c lo mc ed (nI n)]) (pl := tm_L G ed n ad (vf_upd rc ((pl p1.toNatClampNeg).toNatClampNeg) (upd (rc ((pl p1.toNatClampNeg).toNatClampNeg)) (4 : Int32).toNatClampNeg 0))) hP [2, 3, 0, 1, 4] rfl
      have hD9 := va_D.part (X := [tc_I G e1 3 (upd pl p1.toNatClampNeg (-1)), tc_I G e2 3 dr, tc_X7 a0 0 ma rf lk pu tl lo, tc_X6 ma tk mo su lv si ga sl sc fh lh fo ee pn e0 e1 e2 e3 e4 e5 a0, tc_Jx4a65c lo mc ed (nI n)]) (cx := [tc_X7 a0 0 ma rf lk pu tl lo, tc_X6 ma tk mo su lv si ga sl sc fh lh fo ee pn e0 e1 e2 e3 e4 e5 a0, tc_I G e1 3 (upd pl p1.toNatClampNeg (-1)), tc_I G e2 3 dr, tc_Jx4a65c lo mc ed (nI n)]) (pl := tm_L G ed n ad (vf_upd rc ((pl p1.toNatClampNeg).toNatClampNeg) (upd (rc ((pl p1.toNatClampNeg).toNatClampNeg)) (4 : Int32).toNatClampNeg 0))) hD [2, 3, 0, 1, 4] (by decide) rfl
      exact W.iret (v := pl p1.toNatClampNeg) hx hb hr (fun t ht hW => ⟨⟨pl p1.toNatClampNeg, (vf_upd rc ((pl p1.toNatClampNeg).toNatClampNeg) (upd (rc ((pl p1.toNatClampNeg).toNatClampNeg)) (4 : Int32).toNatClampNeg 0), 0, upd pl p1.toNatClampNeg (-1)), rfl, by unfold f_X7_take; all_goals (rw [if_neg c_3]); all_goals (rw [if_neg c_5]); all_goals rfl, by rw [ht]; exact hP9, hD9⟩, hS.F ht⟩) hS.2.2 dX7_take_67
    · refine lv_aload_n hx hb dX7_take_34 rfl (lv_at hl 1 rfl) ?_
      refine lv_iconst (v := 2) hx hb dX7_take_35 (by decide) ?_
      have hPc := hP.sub (ws' := [tc_X7 a0 0 ma rf lk pu tl lo]) [3] rfl
      have hDc := hD.sub (ws' := [tc_X7 a0 0 ma rf lk pu tl lo]) [3] (by decide) rfl
      have hFc := va_free (wc := [tc_X7 a0 0 ma rf lk pu tl lo]) hD hS hA [3] rfl
      refine va_calli (va_runV (As := [.int 2]) (rest := []) ⟨hx, hb, hml, hown, hts⟩ (c_X7_no l G a0 ma lo H.size 0 rf lk pu tl 2 ) (cwV 1 hts gX7_take_X7_no rfl rfl rfl (by decide +kernel) ⟨(Nat.le_of_ble_eq_true rfl), (Nat.le_of_ble_eq_true rfl)⟩) (tm_preV hK hN hV hS hPc hDc hFc (va_recv hK hPc (ci := 8) (q0 := 0) rfl rfl)) rfl rfl hl.1 rfl (lv_room (Nat.le_of_ble_eq_true rfl)) dX7_take_36 ⟨(Nat.le_of_ble_eq_true rfl), (Nat.le_of_ble_eq_true rfl)⟩) hS (fun q _ h => hFc q h) hFc (fun r_10 u t H locs ht hvm hw_10 hB hz1 hk1 hS => ?_)
      obtain ⟨u_11, rfl⟩ : ∃ z, z = u := ⟨_, rfl⟩
      obtain ⟨hP1, hD1⟩ := hB
      rw [ht] at hP1
      try dsimp only at hw_10
      obtain ⟨hP, hD⟩ := va_joinQ (X := [tc_I G e1 3 pl, tc_I G e2 3 dr, tc_Jx4a65c lo mc ed (nI n), tc_X7 a0 0 ma rf lk pu tl lo, tc_X6 ma tk mo su lv si ga sl sc fh lh fo ee pn e0 e1 e2 e3 e4 e5 a0]) (cx := [tc_X7 a0 0 ma rf lk pu tl lo]) (wr := [tc_I G e1 3 pl, tc_I G e2 3 dr, tc_Jx4a65c lo mc ed (nI n), tc_X6 ma tk mo su lv si ga sl sc fh lh fo ee pn e0 e1 e2 e3 e4 e5 a0]) (w1 := [tc_X7 a0 u_11 ma rf lk pu tl lo]) (pl := tm_L G ed n ad rc) hP hD [3] [0, 1, 2, 4] rfl rfl (by decide) (by decide) hk1 hFc hP1 hD1
      have hP : va_P G.1 vwCl ([tc_I G e1 3 pl, tc_I G e2 3 dr, tc_Jx4a65c lo mc ed (nI n), tc_X6 ma tk mo su lv si ga sl sc fh lh fo ee pn e0 e1 e2 e3 e4 e5 a0, tc_X7 a0 u_11 ma rf lk pu tl lo] ++ tm_L G ed n ad rc) H := hP
      have hD : va_D A ([tc_I G e1 3 pl, tc_I G e2 3 dr, tc_Jx4a65c lo mc ed (nI n), tc_X6 ma tk mo su lv si ga sl sc fh lh fo ee pn e0 e1 e2 e3 e4 e5 a0, tc_X7 a0 u_11 ma rf lk pu tl lo] ++ tm_L G ed n ad rc) := hD
      have hP9 := va_P.part (X := [tc_I G e1 3 pl, tc_I G e2 3 dr, tc_Jx4a65c lo mc ed (nI n), tc_X6 ma tk mo su lv si ga sl sc fh lh fo ee pn e0 e1 e2 e3 e4 e5 a0, tc_X7 a0 u_11 ma rf lk pu tl lo]) (cx := [tc_X7 a0 u_11 ma rf lk pu tl lo, tc_X6 ma tk mo su lv si ga sl sc fh lh fo ee pn e0 e1 e2 e3 e4 e5 a0, tc_I G e1 3 pl, tc_I G e2 3 dr, tc_Jx4a65c lo mc ed (nI n)]) (pl := tm_L G ed n ad rc) hP [4, 3, 0, 1, 2] rfl
      have hD9 := va_D.part (X := [tc_I G e1 3 pl, tc_I G e2 3 dr, tc_Jx4a65c lo mc ed (nI n), tc_X6 ma tk mo su lv si ga sl sc fh lh fo ee pn e0 e1 e2 e3 e4 e5 a0, tc_X7 a0 u_11 ma rf lk pu tl lo]) (cx := [tc_X7 a0 u_11 ma rf lk pu tl lo, tc_X6 ma tk mo su lv si ga sl sc fh lh fo ee pn e0 e1 e2 e3 e4 e5 a0, tc_I G e1 3 pl, tc_I G e2 3 dr, tc_Jx4a65c lo mc ed (nI n)]) (pl := tm_L G ed n ad rc) hD [4, 3, 0, 1, 2] (by decide) rfl
      exact W.iret (v := r_10) hx hb hr (fun t ht hW => ⟨⟨r_10, (rc, u_11, pl), rfl, by unfold f_X7_take; all_goals (rw [if_neg c_3]); all_goals (rw [if_pos c_5]); all_goals (rw [← hw_10]); all_goals (dsimp only); all_goals rfl, by rw [ht]; exact hP9, hD9⟩, hS.F ht⟩) hS.2.2 dX7_take_39
  · refine lv_aload_n hx hb dX7_take_13 rfl (lv_at hl 0 rfl) ?_
    refine lv_iconst (v := 1) hx hb dX7_take_14 (by decide) ?_
    have hPc := hP.sub (ws' := [tc_X7 a0 0 ma rf lk pu tl lo]) [3] rfl
    have hDc := hD.sub (ws' := [tc_X7 a0 0 ma rf lk pu tl lo]) [3] (by decide) rfl
    have hFc := va_free (wc := [tc_X7 a0 0 ma rf lk pu tl lo]) hD hS hA [3] rfl
    refine va_calli (va_runV (As := [.int 1]) (rest := []) ⟨hx, hb, hml, hown, hts⟩ (c_X7_no l G a0 ma lo H.size 0 rf lk pu tl 1 ) (cwV 1 hts gX7_take_X7_no rfl rfl rfl (by decide +kernel) ⟨(Nat.le_of_ble_eq_true rfl), (Nat.le_of_ble_eq_true rfl)⟩) (tm_preV hK hN hV hS hPc hDc hFc (va_recv hK hPc (ci := 8) (q0 := 0) rfl rfl)) rfl rfl hl.1 rfl (lv_room (Nat.le_of_ble_eq_true rfl)) dX7_take_15 ⟨(Nat.le_of_ble_eq_true rfl), (Nat.le_of_ble_eq_true rfl)⟩) hS (fun q _ h => hFc q h) hFc (fun r_12 u t H locs ht hvm hw_12 hB hz1 hk1 hS => ?_)
    obtain ⟨u_13, rfl⟩ : ∃ z, z = u := ⟨_, rfl⟩
    obtain ⟨hP1, hD1⟩ := hB
    rw [ht] at hP1
    try dsimp only at hw_12
    obtain ⟨hP, hD⟩ := va_joinQ (X := [tc_I G e1 3 pl, tc_I G e2 3 dr, tc_Jx4a65c lo mc ed (nI n), tc_X7 a0 0 ma rf lk pu tl lo, tc_X6 ma tk mo su lv si ga sl sc fh lh fo ee pn e0 e1 e2 e3 e4 e5 a0]) (cx := [tc_X7 a0 0 ma rf lk pu tl lo]) (wr := [tc_I G e1 3 pl, tc_I G e2 3 dr, tc_Jx4a65c lo mc ed (nI n), tc_X6 ma tk mo su lv si ga sl sc fh lh fo ee pn e0 e1 e2 e3 e4 e5 a0]) (w1 := [tc_X7 a0 u_13 ma rf lk pu tl lo]) (pl := tm_L G ed n ad rc) hP hD [3] [0, 1, 2, 4] rfl rfl (by decide) (by decide) hk1 hFc hP1 hD1
    have hP : va_P G.1 vwCl ([tc_I G e1 3 pl, tc_I G e2 3 dr, tc_Jx4a65c lo mc ed (nI n), tc_X6 ma tk mo su lv si ga sl sc fh lh fo ee pn e0 e1 e2 e3 e4 e5 a0, tc_X7 a0 u_13 ma rf lk pu tl lo] ++ tm_L G ed n ad rc) H := hP
    have hD : va_D A ([tc_I G e1 3 pl, tc_I G e2 3 dr, tc_Jx4a65c lo mc ed (nI n), tc_X6 ma tk mo su lv si ga sl sc fh lh fo ee pn e0 e1 e2 e3 e4 e5 a0, tc_X7 a0 u_13 ma rf lk pu tl lo] ++ tm_L G ed n ad rc) := hD
    have hP9 := va_P.part (X := [tc_I G e1 3 pl, tc_I G e2 3 dr, tc_Jx4a65c lo mc ed (nI n), tc_X6 ma tk mo su lv si ga sl sc fh lh fo ee pn e0 e1 e2 e3 e4 e5 a0, tc_X7 a0 u_13 ma rf lk pu tl lo]) (cx := [tc_X7 a0 u_13 ma rf lk pu tl lo, tc_X6 ma tk mo su lv si ga sl sc fh lh fo ee pn e0 e1 e2 e3 e4 e5 a0, tc_I G e1 3 pl, tc_I G e2 3 dr, tc_Jx4a65c lo mc ed (nI n)]) (pl := tm_L G ed n ad rc) hP [4, 3, 0, 1, 2] rfl
    have hD9 := va_D.part (X := [tc_I G e1 3 pl, tc_I G e2 3 dr, tc_Jx4a65c lo mc ed (nI n), tc_X6 ma tk mo su lv si ga sl sc fh lh fo ee pn e0 e1 e2 e3 e4 e5 a0, tc_X7 a0 u_13 ma rf lk pu tl lo]) (cx := [tc_X7 a0 u_13 ma rf lk pu tl lo, tc_X6 ma tk mo su lv si ga sl sc fh lh fo ee pn e0 e1 e2 e3 e4 e5 a0, tc_I G e1 3 pl, tc_I G e2 3 dr, tc_Jx4a65c lo mc ed (nI n)]) (pl := tm_L G ed n ad rc) hD [4, 3, 0, 1, 2] (by decide) rfl
    exact W.iret (v := r_12) hx hb hr (fun t ht hW => ⟨⟨r_12, (rc, u_13, pl), rfl, by unfold f_X7_take; all_goals (rw [if_pos c_3]); all_goals (rw [← hw_12]); all_goals (dsimp only); all_goals rfl, by rw [ht]; exact hP9, hD9⟩, hS.F ht⟩) hS.2.2 dX7_take_18
set_option maxHeartbeats 4000000 in
set_option maxRecDepth 100000 in
theorem c_X7_give (l : Launch) (G : tm_G) (a0 : Nat) (ma : Nat) (lo : Nat) (e0 : Nat) (e1 : Nat) (e2 : Nat) (e3 : Nat) (e4 : Nat) (e5 : Nat) (ed : Nat) (sz : Nat) (th : Int32) (rf : Int32) (lk : Int32) (pu : Int32) (tl : UInt64) (tk : Int32) (mo : Int32) (su : UInt64) (lv : UInt64) (si : UInt32) (ga : Int32) (sl : Int32) (sc : Int32) (fh : Int32) (lh : Int32) (fo : UInt64) (ee : Int32) (pn : Int32) (mc : Int32) (p1 : Int32) (n : Nat) (ad : Nat → Nat) (rc : Nat → Nat → Int32) (hn : n_X7_give tl p1 n rc) : Met l yX7_give wsX7_give ({ frames := 3, cells := 0, slots := 0, locals := 64 }) (va_Pc [.ref a0, .int p1] (tm_B G ([tc_X7 a0 th ma rf lk pu tl lo, tc_X6 ma tk mo su lv si ga sl sc fh lh fo ee pn e0 e1 e2 e3 e4 e5 a0, tc_Jx4a65c lo mc ed (nI n)] ++ tm_L G ed n ad rc) sz)) (va_Qi (fun (r : Int32) (u : (Nat → Nat → Int32) × Int32 × Int32 × UInt64) => (r, u) = f_X7_give pu tl tk p1 n rc) (fun (u : (Nat → Nat → Int32) × Int32 × Int32 × UInt64) (t : State) => va_P G.1 vwCl ([tc_X7 a0 u.2.1 ma rf lk u.2.2.1 u.2.2.2 lo, tc_X6 ma tk mo su lv si ga sl sc fh lh fo ee pn e0 e1 e2 e3 e4 e5 a0, tc_Jx4a65c lo mc ed (nI n)] ++ tm_L G ed n ad u.1) t.heap ∧ va_D (va_A ([tc_X7 a0 th ma rf lk pu tl lo, tc_X6 ma tk mo su lv si ga sl sc fh lh fo ee pn e0 e1 e2 e3 e4 e5 a0, tc_Jx4a65c lo mc ed (nI n)] ++ tm_L G ed n ad rc) sz) ([tc_X7 a0 u.2.1 ma rf lk u.2.2.1 u.2.2.2 lo, tc_X6 ma tk mo su lv si ga sl sc fh lh fo ee pn e0 e1 e2 e3 e4 e5 a0, tc_Jx4a65c lo mc ed (nI n)] ++ tm_L G ed n ad u.1)) (va_A ([tc_X7 a0 th ma rf lk pu tl lo, tc_X6 ma tk mo su lv si ga sl sc fh lh fo ee pn e0 e1 e2 e3 e4 e5 a0, tc_Jx4a65c lo mc ed (nI n)] ++ tm_L G ed n ad rc) sz)) 0 0 (va_A ([tc_X7 a0 th ma rf lk pu tl lo, tc_X6 ma tk mo su lv si ga sl sc fh lh fo ee pn e0 e1 e2 e3 e4 e5 a0, tc_Jx4a65c lo mc ed (nI n)] ++ tm_L G ed n ad rc) sz) := by
  refine Met.ofW (cc := cX7_give) (maxL := 4) (ret := (some .int)) (by decide) rfl ?_
  intro p e s m args below meth c s₁ B hml hv
  obtain ⟨rfl, hsz, hP, hK, hD0, hN, hV⟩ := hv
  have hx := B.exec
  have hb := B.bytes
  have hr := B.returns
  have hts := atoms_spec (ws := wsX7_give) B.pre
  have hown : s.vm.findClass RX7 = some m.cls := findClass_of_methodNamed B.named
  have hlocks := B.notSynchronized
  subst hsz
  obtain ⟨n_1, n_4, n_6, n_7, n_9, n_10, n_11, n_12, n_13⟩ := hn
  have hiX6 : ∀ w ∈ u_ws RX6 TX6 20, w ∈ wsX7_give := fun _ h => List.mem_cons_of_mem _ (List.mem_append_left _ (List.mem_append_right _ h))
  have hiX7 : ∀ w ∈ u_ws RX7 TX7 7, w ∈ wsX7_give := fun _ h => List.mem_cons_of_mem _ (List.mem_append_left _ (List.mem_append_left _ (List.mem_append_right _ h)))
  have hD := hD0.self (sz := s.heap.size)
  generalize hAe : va_A ([tc_X7 a0 th ma rf lk pu tl lo, tc_X6 ma tk mo su lv si ga sl sc fh lh fo ee pn e0 e1 e2 e3 e4 e5 a0, tc_Jx4a65c lo mc ed (nI n)] ++ tm_L G ed n ad rc) s.heap.size = A at hD hV ⊢
  have hA : ∀ q : Nat, s.heap.size ≤ q → A q := fun q h => by rw [← hAe]; exact Or.inr h
  have hS : va_S A s.heap s.heap [] := va_S.rf
  have hl := lv_entry ([.ref a0, .int p1]) (n := 4) (Nat.le_of_ble_eq_true rfl)
  rw [lg_entry_eq]
  generalize (lg_sl ([.ref a0, .int p1]) ++ List.replicate (4 - (lg_sl ([.ref a0, .int p1])).length) Slot.unset).toArray = ls at hl ⊢
  have hl : lv_has ls 4 [(0, .ref a0), (1, .int p1)] := hl
  refine lv_aload_n hx hb dX7_give_0 rfl (lv_at hl 0 rfl) ?_
  refine lv_iconst (v := 0) hx hb dX7_give_1 (by decide) ?_
  refine va_put (D := G.1) (ci := 8) (v := .int 0) (ty := .int) (C := RX7) (T := TX7) (N := 7) hx hb hts hiX7 tyX7 tyX7_ok nmX7 hown hK hP hD hS 0 rfl rfl 0 (by decide) (hts (.fieldLink RX7 25 "TideMillModel" "thrown" "I") (List.mem_of_getElem? (i := 1) rfl)) (fun _ h9 => h9) rfl (by decide +kernel) rfl rfl (Nat.le_of_ble_eq_true rfl) dX7_give_2 (fun H locs hP hD hS => ?_)
  have hP : va_P G.1 vwCl ([tc_X7 a0 0 ma rf lk pu tl lo, tc_X6 ma tk mo su lv si ga sl sc fh lh fo ee pn e0 e1 e2 e3 e4 e5 a0, tc_Jx4a65c lo mc ed (nI n)] ++ tm_L G ed n ad rc) H := hP
  have hD : va_D A ([tc_X7 a0 0 ma rf lk pu tl lo, tc_X6 ma tk mo su lv si ga sl sc fh lh fo ee pn e0 e1 e2 e3 e4 e5 a0, tc_Jx4a65c lo mc ed (nI n)] ++ tm_L G ed n ad rc) := hD
  refine lv_aload_n hx hb dX7_give_5 rfl (lv_at hl 0 rfl) ?_
  refine lv_iload_n hx hb dX7_give_6 rfl (lv_at hl 1 rfl) ?_
  have hPc := va_P.part (X := [tc_X7 a0 0 ma rf lk pu tl lo, tc_X6 ma tk mo su lv si ga sl sc fh lh fo ee pn e0 e1 e2 e3 e4 e5 a0, tc_Jx4a65c lo mc ed (nI n)]) (cx := [tc_X7 a0 0 ma rf lk pu tl lo, tc_Jx4a65c lo mc ed (nI n)]) (pl := tm_L G ed n ad rc) hP [0, 2] rfl
  have hDc := va_D.part (X := [tc_X7 a0 0 ma rf lk pu tl lo, tc_X6 ma tk mo su lv si ga sl sc fh lh fo ee pn e0 e1 e2 e3 e4 e5 a0, tc_Jx4a65c lo mc ed (nI n)]) (cx := [tc_X7 a0 0 ma rf lk pu tl lo, tc_Jx4a65c lo mc ed (nI n)]) (pl := tm_L G ed n ad rc) hD [0, 2] (by decide) rfl
  have hFc := va_freeP (X := [tc_X7 a0 0 ma rf lk pu tl lo, tc_X6 ma tk mo su lv si ga sl sc fh lh fo ee pn e0 e1 e2 e3 e4 e5 a0, tc_Jx4a65c lo mc ed (nI n)]) (cx := [tc_X7 a0 0 ma rf lk pu tl lo, tc_Jx4a65c lo mc ed (nI n)]) (pl := tm_L G ed n ad rc) hD hS hA [0, 2] rfl
  refine va_calli (va_runV (As := [.int p1]) (rest := []) ⟨hx, hb, hml, hown, hts⟩ (c_X7_isLot l G a0 ma lo ed H.size 0 rf lk pu tl mc p1 n ad rc n_1) (cwV 1 hts gX7_give_X7_isLot rfl rfl rfl (by decide +kernel) ⟨(Nat.le_of_ble_eq_true rfl), (Nat.le_of_ble_eq_true rfl)⟩) (tm_preV hK hN hV hS hPc hDc hFc (va_recv hK hPc (ci := 8) (q0 := 0) rfl rfl)) rfl rfl hl.1 rfl (lv_room (Nat.le_of_ble_eq_true rfl)) dX7_give_7 ⟨(Nat.le_of_ble_eq_true rfl), (Nat.le_of_ble_eq_true rfl)⟩) hS (fun q _ h => hFc q h) hFc (fun r_2 u t H locs ht hvm hw_2 hB hz1 hk1 hS => ?_)
  obtain ⟨hP1, hD1⟩ := hB
  rw [ht] at hP1
  try dsimp only at hw_2
  obtain ⟨hP, hD⟩ := va_joinP (X := [tc_X7 a0 0 ma rf lk pu tl lo, tc_X6 ma tk mo su lv si ga sl sc fh lh fo ee pn e0 e1 e2 e3 e4 e5 a0, tc_Jx4a65c lo mc ed (nI n)]) (cx := [tc_X7 a0 0 ma rf lk pu tl lo, tc_Jx4a65c lo mc ed (nI n)]) (wr := [tc_X6 ma tk mo su lv si ga sl sc fh lh fo ee pn e0 e1 e2 e3 e4 e5 a0]) (rx := [tc_X7 a0 0 ma rf lk pu tl lo, tc_Jx4a65c lo mc ed (nI n)]) (pl := tm_L G ed n ad rc) (pl1 := tm_L G ed n ad rc) hP hD [0, 2] [1] rfl rfl (by decide) (by decide) hk1 hFc hP1 hD1
  have hP : va_P G.1 vwCl ([tc_X6 ma tk mo su lv si ga sl sc fh lh fo ee pn e0 e1 e2 e3 e4 e5 a0, tc_X7 a0 0 ma rf lk pu tl lo, tc_Jx4a65c lo mc ed (nI n)] ++ tm_L G ed n ad rc) H := hP
  have hD : va_D A ([tc_X6 ma tk mo su lv si ga sl sc fh lh fo ee pn e0 e1 e2 e3 e4 e5 a0, tc_X7 a0 0 ma rf lk pu tl lo, tc_Jx4a65c lo mc ed (nI n)] ++ tm_L G ed n ad rc) := hD
  subst r_2
  refine lv_if_ne (tgt := 19) hx hb dX7_give_10 (by decide) (fun c_3 => ?_) (fun c_3 => ?_)
  · refine lv_aload_n hx hb dX7_give_19 rfl (lv_at hl 0 rfl) ?_
    refine va_get (D := G.1) (ci := 8) (v := .ref lo) (C := RX7) (T := TX7) (N := 7) hx hb hts hiX7 hown hK hP 1 rfl rfl 6 (by decide) (hts (.fieldLink RX7 21 "TideMillModel" "lots" "Ljava/util/List;") (List.mem_of_getElem? (i := 2) rfl)) (fun _ h9 => h9) rfl dX7_give_20 ?_
    refine lv_iload_n hx hb dX7_give_23 rfl (lv_at hl 1 rfl) ?_
    have hPc := va_P.part (X := [tc_X6 ma tk mo su lv si ga sl sc fh lh fo ee pn e0 e1 e2 e3 e4 e5 a0, tc_X7 a0 0 ma rf lk pu tl lo, tc_Jx4a65c lo mc ed (nI n)]) (cx := [tc_Jx4a65c lo mc ed (nI n)]) (pl := tm_L G ed n ad rc) hP [2] rfl
    have hDc := va_D.part (X := [tc_X6 ma tk mo su lv si ga sl sc fh lh fo ee pn e0 e1 e2 e3 e4 e5 a0, tc_X7 a0 0 ma rf lk pu tl lo, tc_Jx4a65c lo mc ed (nI n)]) (cx := [tc_Jx4a65c lo mc ed (nI n)]) (pl := tm_L G ed n ad rc) hD [2] (by decide) rfl
    have hFc := va_freeP (X := [tc_X6 ma tk mo su lv si ga sl sc fh lh fo ee pn e0 e1 e2 e3 e4 e5 a0, tc_X7 a0 0 ma rf lk pu tl lo, tc_Jx4a65c lo mc ed (nI n)]) (cx := [tc_Jx4a65c lo mc ed (nI n)]) (pl := tm_L G ed n ad rc) hD hS hA [2] rfl
    refine va_callFr (va_runF (As := [.int p1]) (rest := []) (hK.1 0 (RJx4a65c, TJx4a65c, 3) rfl).2 ⟨hx, hb, hml, hown, hts⟩ (c_Jx4a65c_get_915e3 l G lo ed H.size mc p1 n ad rc (n_4 c_3)) (va_cwF 1 hts gX7_give_Jx4a65c_get_915e3_f39Jx4a65c rfl rfl rfl (hN.2.2.2.2.1 (⟨"java/util/List", "get", "(I)Ljava/lang/Object;"⟩, yJx4a65c_get_915e3) (List.mem_of_getElem? (i := 1) rfl)) (by decide +kernel) ⟨(Nat.le_of_ble_eq_true rfl), (Nat.le_of_ble_eq_true rfl)⟩) (tm_preV hK hN hV hS hPc hDc hFc (va_recv hK hPc (ci := 0) (q0 := 0) rfl rfl)) rfl rfl hl.1 rfl (lv_room (Nat.le_of_ble_eq_true rfl)) dX7_give_24 ⟨(Nat.le_of_ble_eq_true rfl), (Nat.le_of_ble_eq_true rfl)⟩) hS (fun q _ h => hFc q h) hFc (fun u ra t H locs ht hvm hw_5 hB hz1 hk1 hS => ?_)
    obtain ⟨rfl, hP1, hD1⟩ := hB
    rw [ht] at hP1
    obtain ⟨hP, hD⟩ := va_joinP (X := [tc_X6 ma tk mo su lv si ga sl sc fh lh fo ee pn e0 e1 e2 e3 e4 e5 a0, tc_X7 a0 0 ma rf lk pu tl lo, tc_Jx4a65c lo mc ed (nI n)]) (cx := [tc_Jx4a65c lo mc ed (nI n)]) (wr := [tc_X6 ma tk mo su lv si ga sl sc fh lh fo ee pn e0 e1 e2 e3 e4 e5 a0, tc_X7 a0 0 ma rf lk pu tl lo]) (rx := [tc_Jx4a65c lo mc ed (nI n)]) (pl := tm_L G ed n ad rc) (pl1 := tm_L G ed n ad rc) hP hD [2] [0, 1] rfl rfl (by decide) (by decide) hk1 hFc hP1 hD1
    have hP : va_P G.1 vwCl ([tc_X6 ma tk mo su lv si ga sl sc fh lh fo ee pn e0 e1 e2 e3 e4 e5 a0, tc_X7 a0 0 ma rf lk pu tl lo, tc_Jx4a65c lo mc ed (nI n)] ++ tm_L G ed n ad rc) H := hP
    have hD : va_D A ([tc_X6 ma tk mo su lv si ga sl sc fh lh fo ee pn e0 e1 e2 e3 e4 e5 a0, tc_X7 a0 0 ma rf lk pu tl lo, tc_Jx4a65c lo mc ed (nI n)] ++ tm_L G ed n ad rc) := hD
    refine va_castA hx hb hown (hts (.classLink RX7 43 "[I") (List.mem_of_getElem? (i := 3) rfl)) hP _ (tm_L_get (tm_lt (n_6 c_3))) (hK.2 0 (G.2.1, .int) rfl).2 dX7_give_29 ?_
    refine lv_astore_n (lv' := [(2, .ref (ad p1.toNatClampNeg)), (0, .ref a0), (1, .int p1)]) hx hb dX7_give_32 rfl hl (by decide) rfl (fun ls hl => ?_)
    refine lv_aload_n hx hb dX7_give_33 rfl (lv_at hl 0 rfl) ?_
    refine lv_iconst (v := 4) hx hb dX7_give_34 (by decide) ?_
    refine va_iald (n := 5) (f := rc p1.toNatClampNeg) hx hb hK hP _ 0 (tm_L_get (tm_lt (n_6 c_3))) rfl (n_7 c_3) dX7_give_35 ?_
    refine lv_iconst (v := 2) hx hb dX7_give_36 (by decide) ?_
    refine lv_icmp_eq (tgt := 46) hx hb dX7_give_37 (by decide) (fun c_8 => ?_) (fun c_8 => ?_)
    · refine lv_aload_n hx hb dX7_give_46 rfl (lv_at hl 0 rfl) ?_
      refine lv_iconst (v := 4) hx hb dX7_give_47 (by decide) ?_
      refine lv_iconst (v := 3) hx hb dX7_give_48 (by decide) ?_
      refine va_iast (n := 5) (f := rc p1.toNatClampNeg) hx hb hK hP hD hS _ 0 (tm_L_get (tm_lt (n_6 c_3))) rfl (n_7 c_3) dX7_give_49 (fun H locs hP hD hS => ?_)
      rw [tm_L_set (tm_lt (n_6 c_3))] at hP hD
      have hP : va_P G.1 vwCl ([tc_X6 ma tk mo su lv si ga sl sc fh lh fo ee pn e0 e1 e2 e3 e4 e5 a0, tc_X7 a0 0 ma rf lk pu tl lo, tc_Jx4a65c lo mc ed (nI n)] ++ tm_L G ed n ad (vf_upd rc p1.toNatClampNeg (upd (rc p1.toNatClampNeg) (4 : Int32).toNatClampNeg 3))) H := hP
      have hD : va_D A ([tc_X6 ma tk mo su lv si ga sl sc fh lh fo ee pn e0 e1 e2 e3 e4 e5 a0, tc_X7 a0 0 ma rf lk pu tl lo, tc_Jx4a65c lo mc ed (nI n)] ++ tm_L G ed n ad (vf_upd rc p1.toNatClampNeg (upd (rc p1.toNatClampNeg) (4 : Int32).toNatClampNeg 3))) := hD
      refine lv_aload_n hx hb dX7_give_50 rfl (lv_at hl 1 rfl) ?_
      refine lv_dup hx hb dX7_give_51 rfl ?_
      refine va_get (D := G.1) (ci := 8) (v := .double tl) (C := RX7) (T := TX7) (N := 7) hx hb hts hiX7 hown hK hP 1 rfl rfl 5 (by decide) (hts (.fieldLink RX7 137 "TideMillModel" "toll" "D") (List.mem_of_getElem? (i := 4) rfl)) (fun _ h9 => h9) rfl dX7_give_52 ?_
      refine lv_aload_n hx hb dX7_give_55 rfl (lv_at hl 0 rfl) ?_
      refine lv_iconst (v := 2) hx hb dX7_give_56 (by decide) ?_
      refine va_iald (n := 5) (f := (vf_upd rc p1.toNatClampNeg (upd (rc p1.toNatClampNeg) (4 : Int32).toNatClampNeg 3)) p1.toNatClampNeg) hx hb hK hP _ 0 (tm_L_get (tm_lt (n_6 c_3))) rfl (n_9 c_3 c_8) dX7_give_57 ?_
      refine lv_i2d hx hb dX7_give_58 ?_
      refine lv_ldc2d hx hb hown (hts (.constantDouble RX7 140 (4625196817309499392)) (List.mem_of_getElem? (i := 5) rfl)) dX7_give_59 ?_
      refine lv_ddiv hx hb dX7_give_62 (n_10 c_3 c_8) ?_
      refine lv_dadd hx hb dX7_give_63 (n_11 c_3 c_8) ?_
      refine va_put (D := G.1) (ci := 8) (v := .double (FP.dadd tl (FP.ddiv (FP.i2d ((vf_upd rc p1.toNatClampNeg (upd (rc p1.toNatClampNeg) (4 : Int32).toNatClampNeg 3)) p1.toNatClampNeg (2 : Int32).toNatClampNeg)) 4625196817309499392))) (ty := .double) (C := RX7) (T := TX7) (N := 7) hx hb hts hiX7 tyX7 tyX7_ok nmX7 hown hK hP hD hS 1 rfl rfl 5 (by decide) (hts (.fieldLink RX7 137 "TideMillModel" "toll" "D") (List.mem_of_getElem? (i := 4) rfl)) (fun _ h9 => h9) rfl (by decide +kernel) rfl rfl (Nat.le_of_ble_eq_true rfl) dX7_give_64 (fun H locs hP hD hS => ?_)
      have hP : va_P G.1 vwCl ([tc_X6 ma tk mo su lv si ga sl sc fh lh fo ee pn e0 e1 e2 e3 e4 e5 a0, tc_X7 a0 0 ma rf lk pu (FP.dadd tl (FP.ddiv (FP.i2d ((vf_upd rc p1.toNatClampNeg (upd (rc p1.toNatClampNeg) (4 : Int32).toNatClampNeg 3)) p1.toNatClampNeg (2 : Int32).toNatClampNeg)) 4625196817309499392)) lo, tc_Jx4a65c lo mc ed (nI n)] ++ tm_L G ed n ad (vf_upd rc p1.toNatClampNeg (upd (rc p1.toNatClampNeg) (4 : Int32).toNatClampNeg 3))) H := hP
      have hD : va_D A ([tc_X6 ma tk mo su lv si ga sl sc fh lh fo ee pn e0 e1 e2 e3 e4 e5 a0, tc_X7 a0 0 ma rf lk pu (FP.dadd tl (FP.ddiv (FP.i2d ((vf_upd rc p1.toNatClampNeg (upd (rc p1.toNatClampNeg) (4 : Int32).toNatClampNeg 3)) p1.toNatClampNeg (2 : Int32).toNatClampNeg)) 4625196817309499392)) lo, tc_Jx4a65c lo mc ed (nI n)] ++ tm_L G ed n ad (vf_upd rc p1.toNatClampNeg (upd (rc p1.toNatClampNeg) (4 : Int32).toNatClampNeg 3))) := hD
      refine lv_aload_n hx hb dX7_give_67 rfl (lv_at hl 0 rfl) ?_
      refine lv_iconst (v := 2) hx hb dX7_give_68 (by decide) ?_
      refine va_iald (n := 5) (f := (vf_upd rc p1.toNatClampNeg (upd (rc p1.toNatClampNeg) (4 : Int32).toNatClampNeg 3)) p1.toNatClampNeg) hx hb hK hP _ 0 (tm_L_get (tm_lt (n_6 c_3))) rfl (n_9 c_3 c_8) dX7_give_69 ?_
      refine lv_iconst (v := 3) hx hb dX7_give_70 (by decide) ?_
      refine lv_aload_n hx hb dX7_give_71 rfl (lv_at hl 0 rfl) ?_
      refine lv_iconst (v := 1) hx hb dX7_give_72 (by decide) ?_
      refine va_iald (n := 5) (f := (vf_upd rc p1.toNatClampNeg (upd (rc p1.toNatClampNeg) (4 : Int32).toNatClampNeg 3)) p1.toNatClampNeg) hx hb hK hP _ 0 (tm_L_get (tm_lt (n_6 c_3))) rfl (n_12 c_3 c_8) dX7_give_73 ?_
      refine lv_isub hx hb dX7_give_74 ?_
      refine lv_imul hx hb dX7_give_75 ?_
      refine lv_iconst (v := 4) hx hb dX7_give_76 (by decide) ?_
      refine lv_idiv hx hb dX7_give_77 (by decide) ?_
      refine lv_iconst (v := 0) hx hb dX7_give_78 (by decide) ?_
      refine lv_aload_n hx hb dX7_give_79 rfl (lv_at hl 1 rfl) ?_
      refine va_get (D := G.1) (ci := 8) (v := .ref ma) (C := RX7) (T := TX7) (N := 7) hx hb hts hiX7 hown hK hP 1 rfl rfl 1 (by decide) (hts (.fieldLink RX7 12 "TideMillModel" "mill" "LTideMillModel$Mill;") (List.mem_of_getElem? (i := 6) rfl)) (fun _ h9 => h9) rfl dX7_give_80 ?_
      refine va_get (D := G.1) (ci := 7) (v := .int tk) (C := RX6) (T := TX6) (N := 20) hx hb hts hiX6 hown hK hP 0 rfl rfl 0 (by decide) (hts (.fieldLink RX7 59 "TideMillModel$Mill" "tick" "I") (List.mem_of_getElem? (i := 7) rfl)) (fun _ h9 => h9) rfl dX7_give_83 ?_
      refine lv_bipush (v := 48) hx hb dX7_give_86 (by decide) ?_
      refine lv_idiv hx hb dX7_give_88 (by decide) ?_
      refine lv_aload_n hx hb dX7_give_89 rfl (lv_at hl 0 rfl) ?_
      refine lv_iconst (v := 3) hx hb dX7_give_90 (by decide) ?_
      refine va_iald (n := 5) (f := (vf_upd rc p1.toNatClampNeg (upd (rc p1.toNatClampNeg) (4 : Int32).toNatClampNeg 3)) p1.toNatClampNeg) hx hb hK hP _ 0 (tm_L_get (tm_lt (n_6 c_3))) rfl (n_13 c_3 c_8) dX7_give_91 ?_
      refine lv_isub hx hb dX7_give_92 ?_
      refine va_mmax hx hb (by rw [hml]; exact hl.1.symm) hown (hts (.methodLink RX7 142 Lib.Math.max.name) (List.mem_of_getElem? (i := 8) rfl)) (hts (.static Lib.Math.max.name) (List.mem_of_getElem? (i := 9) rfl)) (hts (.initialized "java/lang/Math") (List.mem_of_getElem? (i := 10) rfl)) (hts (.code Lib.Math.max.name Lib.Math.max.code 2 (some .int)) (List.mem_of_getElem? (i := 11) rfl)) (Nat.le_of_ble_eq_true rfl) (Nat.le_of_ble_eq_true rfl) (Nat.le_of_ble_eq_true rfl) (Nat.le_of_ble_eq_true rfl) dX7_give_93 ?_
      refine lv_isub hx hb dX7_give_96 ?_
      refine lv_istore_n (lv' := [(3, .int (((((vf_upd rc p1.toNatClampNeg (upd (rc p1.toNatClampNeg) (4 : Int32).toNatClampNeg 3)) p1.toNatClampNeg (2 : Int32).toNatClampNeg) * (3 - ((vf_upd rc p1.toNatClampNeg (upd (rc p1.toNatClampNeg) (4 : Int32).toNatClampNeg 3)) p1.toNatClampNeg (1 : Int32).toNatClampNeg))) / 4) - (if 0 < ((tk / 48) - ((vf_upd rc p1.toNatClampNeg (upd (rc p1.toNatClampNeg) (4 : Int32).toNatClampNeg 3)) p1.toNatClampNeg (3 : Int32).toNatClampNeg)) then ((tk / 48) - ((vf_upd rc p1.toNatClampNeg (upd (rc p1.toNatClampNeg) (4 : Int32).toNatClampNeg 3)) p1.toNatClampNeg (3 : Int32).toNatClampNeg)) else 0))), (2, .ref (ad p1.toNatClampNeg)), (0, .ref a0), (1, .int p1)]) hx hb dX7_give_97 rfl hl (by decide) rfl (fun ls hl => ?_)
      refine lv_aload_n hx hb dX7_give_98 rfl (lv_at hl 2 rfl) ?_
      refine lv_dup hx hb dX7_give_99 rfl ?_
      refine va_get (D := G.1) (ci := 8) (v := .int pu) (C := RX7) (T := TX7) (N := 7) hx hb hts hiX7 hown hK hP 1 rfl rfl 4 (by decide) (hts (.fieldLink RX7 146 "TideMillModel" "purse" "I") (List.mem_of_getElem? (i := 12) rfl)) (fun _ h9 => h9) rfl dX7_give_100 ?_
      refine lv_iload_n hx hb dX7_give_103 rfl (lv_at hl 0 rfl) ?_
      refine lv_iadd hx hb dX7_give_104 ?_
      refine va_put (D := G.1) (ci := 8) (v := .int (pu + (((((vf_upd rc p1.toNatClampNeg (upd (rc p1.toNatClampNeg) (4 : Int32).toNatClampNeg 3)) p1.toNatClampNeg (2 : Int32).toNatClampNeg) * (3 - ((vf_upd rc p1.toNatClampNeg (upd (rc p1.toNatClampNeg) (4 : Int32).toNatClampNeg 3)) p1.toNatClampNeg (1 : Int32).toNatClampNeg))) / 4) - (if 0 < ((tk / 48) - ((vf_upd rc p1.toNatClampNeg (upd (rc p1.toNatClampNeg) (4 : Int32).toNatClampNeg 3)) p1.toNatClampNeg (3 : Int32).toNatClampNeg)) then ((tk / 48) - ((vf_upd rc p1.toNatClampNeg (upd (rc p1.toNatClampNeg) (4 : Int32).toNatClampNeg 3)) p1.toNatClampNeg (3 : Int32).toNatClampNeg)) else 0)))) (ty := .int) (C := RX7) (T := TX7) (N := 7) hx hb hts hiX7 tyX7 tyX7_ok nmX7 hown hK hP hD hS 1 rfl rfl 4 (by decide) (hts (.fieldLink RX7 146 "TideMillModel" "purse" "I") (List.mem_of_getElem? (i := 12) rfl)) (fun _ h9 => h9) rfl (by decide +kernel) rfl rfl (Nat.le_of_ble_eq_true rfl) dX7_give_105 (fun H locs hP hD hS => ?_)
      have hP : va_P G.1 vwCl ([tc_X6 ma tk mo su lv si ga sl sc fh lh fo ee pn e0 e1 e2 e3 e4 e5 a0, tc_X7 a0 0 ma rf lk (pu + (((((vf_upd rc p1.toNatClampNeg (upd (rc p1.toNatClampNeg) (4 : Int32).toNatClampNeg 3)) p1.toNatClampNeg (2 : Int32).toNatClampNeg) * (3 - ((vf_upd rc p1.toNatClampNeg (upd (rc p1.toNatClampNeg) (4 : Int32).toNatClampNeg 3)) p1.toNatClampNeg (1 : Int32).toNatClampNeg))) / 4) - (if 0 < ((tk / 48) - ((vf_upd rc p1.toNatClampNeg (upd (rc p1.toNatClampNeg) (4 : Int32).toNatClampNeg 3)) p1.toNatClampNeg (3 : Int32).toNatClampNeg)) then ((tk / 48) - ((vf_upd rc p1.toNatClampNeg (upd (rc p1.toNatClampNeg) (4 : Int32).toNatClampNeg 3)) p1.toNatClampNeg (3 : Int32).toNatClampNeg)) else 0))) (FP.dadd tl (FP.ddiv (FP.i2d ((vf_upd rc p1.toNatClampNeg (upd (rc p1.toNatClampNeg) (4 : Int32).toNatClampNeg 3)) p1.toNatClampNeg (2 : Int32).toNatClampNeg)) 4625196817309499392)) lo, tc_Jx4a65c lo mc ed (nI n)] ++ tm_L G ed n ad (vf_upd rc p1.toNatClampNeg (upd (rc p1.toNatClampNeg) (4 : Int32).toNatClampNeg 3))) H := hP
      have hD : va_D A ([tc_X6 ma tk mo su lv si ga sl sc fh lh fo ee pn e0 e1 e2 e3 e4 e5 a0, tc_X7 a0 0 ma rf lk (pu + (((((vf_upd rc p1.toNatClampNeg (upd (rc p1.toNatClampNeg) (4 : Int32).toNatClampNeg 3)) p1.toNatClampNeg (2 : Int32).toNatClampNeg) * (3 - ((vf_upd rc p1.toNatClampNeg (upd (rc p1.toNatClampNeg) (4 : Int32).toNatClampNeg 3)) p1.toNatClampNeg (1 : Int32).toNatClampNeg))) / 4) - (if 0 < ((tk / 48) - ((vf_upd rc p1.toNatClampNeg (upd (rc p1.toNatClampNeg) (4 : Int32).toNatClampNeg 3)) p1.toNatClampNeg (3 : Int32).toNatClampNeg)) then ((tk / 48) - ((vf_upd rc p1.toNatClampNeg (upd (rc p1.toNatClampNeg) (4 : Int32).toNatClampNeg 3)) p1.toNatClampNeg (3 : Int32).toNatClampNeg)) else 0))) (FP.dadd tl (FP.ddiv (FP.i2d ((vf_upd rc p1.toNatClampNeg (upd (rc p1.toNatClampNeg) (4 : Int32).toNatClampNeg 3)) p1.toNatClampNeg (2 : Int32).toNatClampNeg)) 4625196817309499392)) lo, tc_Jx4a65c lo mc ed (nI n)] ++ tm_L G ed n ad (vf_upd rc p1.toNatClampNeg (upd (rc p1.toNatClampNeg) (4 : Int32).toNatClampNeg 3))) := hD
      refine lv_iload_n hx hb dX7_give_108 rfl (lv_at hl 0 rfl) ?_
      have hP9 := va_P.part (X := [tc_X6 ma tk mo su lv si ga sl sc fh lh fo ee pn e0 e1 e2 e3 e4 e5 a0, tc_X7 a0 0 ma rf lk (pu + (((((vf_upd rc p1.toNatClampNeg (upd (rc p1.toNatClampNeg) (4 : Int32).toNatClampNeg 3)) p1.toNatClampNeg (2 : Int32).toNatClampNeg) * (3 - ((vf_upd rc p1.toNatClampNeg (upd (rc p1.toNatClampNeg) (4 : Int32).toNatClampNeg 3)) p1.toNatClampNeg (1 : Int32).toNatClampNeg))) / 4) - (if 0 < ((tk / 48) - ((vf_upd rc p1.toNatClampNeg (upd (rc p1.toNatClampNeg) (4 : Int32).toNatClampNeg 3)) p1.toNatClampNeg (3 : Int32).toNatClampNeg)) then ((tk / 48) - ((vf_upd rc p1.toNatClampNeg (upd (rc p1.toNatClampNeg) (4 : Int32).toNatClampNeg 3)) p1.toNatClampNeg (3 : Int32).toNatClampNeg)) else 0))) (FP.dadd tl (FP.ddiv (FP.i2d ((vf_upd rc p1.toNatClampNeg (upd (rc p1.toNatClampNeg) (4 : Int32).toNatClampNeg 3)) p1.toNatClampNeg (2 : Int32).toNatClampNeg)) 4625196817309499392)) lo, tc_Jx4a65c lo mc ed (nI n)]) (cx := [tc_X7 a0 0 ma rf lk (pu + (((((vf_upd rc p1.toNatClampNeg (upd (rc p1.toNatClampNeg) (4 : Int32).toNatClampNeg 3)) p1.toNatClampNeg (2 : Int32).toNatClampNeg) * (3 - ((vf_upd rc p1.toNatClampNeg (upd (rc p1.toNatClampNeg) (4 : Int32).toNatClampNeg 3)) p1.toNatClampNeg (1 : Int32).toNatClampNeg))) / 4) - (if 0 < ((tk / 48) - ((vf_upd rc p1.toNatClampNeg (upd (rc p1.toNatClampNeg) (4 : Int32).toNatClampNeg 3)) p1.toNatClampNeg (3 : Int32).toNatClampNeg)) then ((tk / 48) - ((vf_upd rc p1.toNatClampNeg (upd (rc p1.toNatClampNeg) (4 : Int32).toNatClampNeg 3)) p1.toNatClampNeg (3 : Int32).toNatClampNeg)) else 0))) (FP.dadd tl (FP.ddiv (FP.i2d ((vf_upd rc p1.toNatClampNeg (upd (rc p1.toNatClampNeg) (4 : Int32).toNatClampNeg 3)) p1.toNatClampNeg (2 : Int32).toNatClampNeg)) 4625196817309499392)) lo, tc_X6 ma tk mo su lv si ga sl sc fh lh fo ee pn e0 e1 e2 e3 e4 e5 a0, tc_Jx4a65c lo mc ed (nI n)]) (pl := tm_L G ed n ad (vf_upd rc p1.toNatClampNeg (upd (rc p1.toNatClampNeg) (4 : Int32).toNatClampNeg 3))) hP [1, 0, 2] rfl
      have hD9 := va_D.part (X := [tc_X6 ma tk mo su lv si ga sl sc fh lh fo ee pn e0 e1 e2 e3 e4 e5 a0, tc_X7 a0 0 ma rf lk (pu + (((((vf_upd rc p1.toNatClampNeg (upd (rc p1.toNatClampNeg) (4 : Int32).toNatClampNeg 3)) p1.toNatClampNeg (2 : Int32).toNatClampNeg) * (3 - ((vf_upd rc p1.toNatClampNeg (upd (rc p1.toNatClampNeg) (4 : Int32).toNatClampNeg 3)) p1.toNatClampNeg (1 : Int32).toNatClampNeg))) / 4) - (if 0 < ((tk / 48) - ((vf_upd rc p1.toNatClampNeg (upd (rc p1.toNatClampNeg) (4 : Int32).toNatClampNeg 3)) p1.toNatClampNeg (3 : Int32).toNatClampNeg)) then ((tk / 48) - ((vf_upd rc p1.toNatClampNeg (upd (rc p1.toNatClampNeg) (4 : Int32).toNatClampNeg 3)) p1.toNatClampNeg (3 : Int32).toNatClampNeg)) else 0))) (FP.dadd tl (FP.ddiv (FP.i2d ((vf_upd rc p1.toNatClampNeg (upd (rc p1.toNatClampNeg) (4 : Int32).toNatClampNeg 3)) p1.toNatClampNeg (2 : Int32).toNatClampNeg)) 4625196817309499392)) lo, tc_Jx4a65c lo mc ed (nI n)]) (cx := [tc_X7 a0 0 ma rf lk (pu + (((((vf_upd rc p1.toNatClampNeg (upd (rc p1.toNatClampNeg) (4 : Int32).toNatClampNeg 3)) p1.toNatClampNeg (2 : Int32).toNatClampNeg) * (3 - ((vf_upd rc p1.toNatClampNeg (upd (rc p1.toNatClampNeg) (4 : Int32).toNatClampNeg 3)) p1.toNatClampNeg (1 : Int32).toNatClampNeg))) / 4) - (if 0 < ((tk / 48) - ((vf_upd rc p1.toNatClampNeg (upd (rc p1.toNatClampNeg) (4 : Int32).toNatClampNeg 3)) p1.toNatClampNeg (3 : Int32).toNatClampNeg)) then ((tk / 48) - ((vf_upd rc p1.toNatClampNeg (upd (rc p1.toNatClampNeg) (4 : Int32).toNatClampNeg 3)) p1.toNatClampNeg (3 : Int32).toNatClampNeg)) else 0))) (FP.dadd tl (FP.ddiv (FP.i2d ((vf_upd rc p1.toNatClampNeg (upd (rc p1.toNatClampNeg) (4 : Int32).toNatClampNeg 3)) p1.toNatClampNeg (2 : Int32).toNatClampNeg)) 4625196817309499392)) lo, tc_X6 ma tk mo su lv si ga sl sc fh lh fo ee pn e0 e1 e2 e3 e4 e5 a0, tc_Jx4a65c lo mc ed (nI n)]) (pl := tm_L G ed n ad (vf_upd rc p1.toNatClampNeg (upd (rc p1.toNatClampNeg) (4 : Int32).toNatClampNeg 3))) hD [1, 0, 2] (by decide) rfl
      exact W.iret (v := ((((vf_upd rc p1.toNatClampNeg (upd (rc p1.toNatClampNeg) (4 : Int32).toNatClampNeg 3)) p1.toNatClampNeg (2 : Int32).toNatClampNeg) * (3 - ((vf_upd rc p1.toNatClampNeg (upd (rc p1.toNatClampNeg) (4 : Int32).toNatClampNeg 3)) p1.toNatClampNeg (1 : Int32).toNatClampNeg))) / 4) - (if 0 < ((tk / 48) - ((vf_upd rc p1.toNatClampNeg (upd (rc p1.toNatClampNeg) (4 : Int32).toNatClampNeg 3)) p1.toNatClampNeg (3 : Int32).toNatClampNeg)) then ((tk / 48) - ((vf_upd rc p1.toNatClampNeg (upd (rc p1.toNatClampNeg) (4 : Int32).toNatClampNeg 3)) p1.toNatClampNeg (3 : Int32).toNatClampNeg)) else 0)) hx hb hr (fun t ht hW => ⟨⟨((((vf_upd rc p1.toNatClampNeg (upd (rc p1.toNatClampNeg) (4 : Int32).toNatClampNeg 3)) p1.toNatClampNeg (2 : Int32).toNatClampNeg) * (3 - ((vf_upd rc p1.toNatClampNeg (upd (rc p1.toNatClampNeg) (4 : Int32).toNatClampNeg 3)) p1.toNatClampNeg (1 : Int32).toNatClampNeg))) / 4) - (if 0 < ((tk / 48) - ((vf_upd rc p1.toNatClampNeg (upd (rc p1.toNatClampNeg) (4 : Int32).toNatClampNeg 3)) p1.toNatClampNeg (3 : Int32).toNatClampNeg)) then ((tk / 48) - ((vf_upd rc p1.toNatClampNeg (upd (rc p1.toNatClampNeg) (4 : Int32).toNatClampNeg 3)) p1.toNatClampNeg (3 : Int32).toNatClampNeg)) else 0), (vf_upd rc p1.toNatClampNeg (upd (rc p1.toNatClampNeg) (4 : Int32).toNatClampNeg 3), 0, pu + (((((vf_upd rc p1.toNatClampNeg (upd (rc p1.toNatClampNeg) (4 : Int32).toNatClampNeg 3)) p1.toNatClampNeg (2 : Int32).toNatClampNeg) * (3 - ((vf_upd rc p1.toNatClampNeg (upd (rc p1.toNatClampNeg) (4 : Int32).toNatClampNeg 3)) p1.toNatClampNeg (1 : Int32).toNatClampNeg))) / 4) - (if 0 < ((tk / 48) - ((vf_upd rc p1.toNatClampNeg (upd (rc p1.toNatClampNeg) (4 : Int32).toNatClampNeg 3)) p1.toNatClampNeg (3 : Int32).toNatClampNeg)) then ((tk / 48) - ((vf_upd rc p1.toNatClampNeg (upd (rc p1.toNatClampNeg) (4 : Int32).toNatClampNeg 3)) p1.toNatClampNeg (3 : Int32).toNatClampNeg)) else 0)), FP.dadd tl (FP.ddiv (FP.i2d ((vf_upd rc p1.toNatClampNeg (upd (rc p1.toNatClampNeg) (4 : Int32).toNatClampNeg 3)) p1.toNatClampNeg (2 : Int32).toNatClampNeg)) 4625196817309499392)), rfl, by unfold f_X7_give; all_goals (rw [if_neg c_3]); all_goals (rw [if_pos c_8]); all_goals rfl, by rw [ht]; exact hP9, hD9⟩, hS.F ht⟩) hS.2.2 dX7_give_109
    · refine lv_aload_n hx hb dX7_give_40 rfl (lv_at hl 1 rfl) ?_
      refine lv_iconst (v := 2) hx hb dX7_give_41 (by decide) ?_
      have hPc := hP.sub (ws' := [tc_X7 a0 0 ma rf lk pu tl lo]) [1] rfl
      have hDc := hD.sub (ws' := [tc_X7 a0 0 ma rf lk pu tl lo]) [1] (by decide) rfl
      have hFc := va_free (wc := [tc_X7 a0 0 ma rf lk pu tl lo]) hD hS hA [1] rfl
      refine va_calli (va_runV (As := [.int 2]) (rest := []) ⟨hx, hb, hml, hown, hts⟩ (c_X7_no l G a0 ma lo H.size 0 rf lk pu tl 2 ) (cwV 1 hts gX7_give_X7_no rfl rfl rfl (by decide +kernel) ⟨(Nat.le_of_ble_eq_true rfl), (Nat.le_of_ble_eq_true rfl)⟩) (tm_preV hK hN hV hS hPc hDc hFc (va_recv hK hPc (ci := 8) (q0 := 0) rfl rfl)) rfl rfl hl.1 rfl (lv_room (Nat.le_of_ble_eq_true rfl)) dX7_give_42 ⟨(Nat.le_of_ble_eq_true rfl), (Nat.le_of_ble_eq_true rfl)⟩) hS (fun q _ h => hFc q h) hFc (fun r_14 u t H locs ht hvm hw_14 hB hz1 hk1 hS => ?_)
      obtain ⟨u_15, rfl⟩ : ∃ z, z = u := ⟨_, rfl⟩
      obtain ⟨hP1, hD1⟩ := hB
      rw [ht] at hP1
      try dsimp only at hw_14
      obtain ⟨hP, hD⟩ := va_joinQ (X := [tc_X6 ma tk mo su lv si ga sl sc fh lh fo ee pn e0 e1 e2 e3 e4 e5 a0, tc_X7 a0 0 ma rf lk pu tl lo, tc_Jx4a65c lo mc ed (nI n)]) (cx := [tc_X7 a0 0 ma rf lk pu tl lo]) (wr := [tc_X6 ma tk mo su lv si ga sl sc fh lh fo ee pn e0 e1 e2 e3 e4 e5 a0, tc_Jx4a65c lo mc ed (nI n)]) (w1 := [tc_X7 a0 u_15 ma rf lk pu tl lo]) (pl := tm_L G ed n ad rc) hP hD [1] [0, 2] rfl rfl (by decide) (by decide) hk1 hFc hP1 hD1
      have hP : va_P G.1 vwCl ([tc_X6 ma tk mo su lv si ga sl sc fh lh fo ee pn e0 e1 e2 e3 e4 e5 a0, tc_Jx4a65c lo mc ed (nI n), tc_X7 a0 u_15 ma rf lk pu tl lo] ++ tm_L G ed n ad rc) H := hP
      have hD : va_D A ([tc_X6 ma tk mo su lv si ga sl sc fh lh fo ee pn e0 e1 e2 e3 e4 e5 a0, tc_Jx4a65c lo mc ed (nI n), tc_X7 a0 u_15 ma rf lk pu tl lo] ++ tm_L G ed n ad rc) := hD
      have hP9 := va_P.part (X := [tc_X6 ma tk mo su lv si ga sl sc fh lh fo ee pn e0 e1 e2 e3 e4 e5 a0, tc_Jx4a65c lo mc ed (nI n), tc_X7 a0 u_15 ma rf lk pu tl lo]) (cx := [tc_X7 a0 u_15 ma rf lk pu tl lo, tc_X6 ma tk mo su lv si ga sl sc fh lh fo ee pn e0 e1 e2 e3 e4 e5 a0, tc_Jx4a65c lo mc ed (nI n)]) (pl := tm_L G ed n ad rc) hP [2, 0, 1] rfl
      have hD9 := va_D.part (X := [tc_X6 ma tk mo su lv si ga sl sc fh lh fo ee pn e0 e1 e2 e3 e4 e5 a0, tc_Jx4a65c lo mc ed (nI n), tc_X7 a0 u_15 ma rf lk pu tl lo]) (cx := [tc_X7 a0 u_15 ma rf lk pu tl lo, tc_X6 ma tk mo su lv si ga sl sc fh lh fo ee pn e0 e1 e2 e3 e4 e5 a0, tc_Jx4a65c lo mc ed (nI n)]) (pl := tm_L G ed n ad rc) hD [2, 0, 1] (by decide) rfl
      exact W.iret (v := r_14) hx hb hr (fun t ht hW => ⟨⟨r_14, (rc, u_15, pu, tl), rfl, by unfold f_X7_give; all_goals (rw [if_neg c_3]); all_goals (rw [if_neg c_8]); all_goals (rw [← hw_14]); all_goals (dsimp only); all_goals rfl, by rw [ht]; exact hP9, hD9⟩, hS.F ht⟩) hS.2.2 dX7_give_45
  · refine lv_aload_n hx hb dX7_give_13 rfl (lv_at hl 0 rfl) ?_
    refine lv_iconst (v := 1) hx hb dX7_give_14 (by decide) ?_
    have hPc := hP.sub (ws' := [tc_X7 a0 0 ma rf lk pu tl lo]) [1] rfl
    have hDc := hD.sub (ws' := [tc_X7 a0 0 ma rf lk pu tl lo]) [1] (by decide) rfl
    have hFc := va_free (wc := [tc_X7 a0 0 ma rf lk pu tl lo]) hD hS hA [1] rfl
    refine va_calli (va_runV (As := [.int 1]) (rest := []) ⟨hx, hb, hml, hown, hts⟩ (c_X7_no l G a0 ma lo H.size 0 rf lk pu tl 1 ) (cwV 1 hts gX7_give_X7_no rfl rfl rfl (by decide +kernel) ⟨(Nat.le_of_ble_eq_true rfl), (Nat.le_of_ble_eq_true rfl)⟩) (tm_preV hK hN hV hS hPc hDc hFc (va_recv hK hPc (ci := 8) (q0 := 0) rfl rfl)) rfl rfl hl.1 rfl (lv_room (Nat.le_of_ble_eq_true rfl)) dX7_give_15 ⟨(Nat.le_of_ble_eq_true rfl), (Nat.le_of_ble_eq_true rfl)⟩) hS (fun q _ h => hFc q h) hFc (fun r_16 u t H locs ht hvm hw_16 hB hz1 hk1 hS => ?_)
    obtain ⟨u_17, rfl⟩ : ∃ z, z = u := ⟨_, rfl⟩
    obtain ⟨hP1, hD1⟩ := hB
    rw [ht] at hP1
    try dsimp only at hw_16
    obtain ⟨hP, hD⟩ := va_joinQ (X := [tc_X6 ma tk mo su lv si ga sl sc fh lh fo ee pn e0 e1 e2 e3 e4 e5 a0, tc_X7 a0 0 ma rf lk pu tl lo, tc_Jx4a65c lo mc ed (nI n)]) (cx := [tc_X7 a0 0 ma rf lk pu tl lo]) (wr := [tc_X6 ma tk mo su lv si ga sl sc fh lh fo ee pn e0 e1 e2 e3 e4 e5 a0, tc_Jx4a65c lo mc ed (nI n)]) (w1 := [tc_X7 a0 u_17 ma rf lk pu tl lo]) (pl := tm_L G ed n ad rc) hP hD [1] [0, 2] rfl rfl (by decide) (by decide) hk1 hFc hP1 hD1
    have hP : va_P G.1 vwCl ([tc_X6 ma tk mo su lv si ga sl sc fh lh fo ee pn e0 e1 e2 e3 e4 e5 a0, tc_Jx4a65c lo mc ed (nI n), tc_X7 a0 u_17 ma rf lk pu tl lo] ++ tm_L G ed n ad rc) H := hP
    have hD : va_D A ([tc_X6 ma tk mo su lv si ga sl sc fh lh fo ee pn e0 e1 e2 e3 e4 e5 a0, tc_Jx4a65c lo mc ed (nI n), tc_X7 a0 u_17 ma rf lk pu tl lo] ++ tm_L G ed n ad rc) := hD
    have hP9 := va_P.part (X := [tc_X6 ma tk mo su lv si ga sl sc fh lh fo ee pn e0 e1 e2 e3 e4 e5 a0, tc_Jx4a65c lo mc ed (nI n), tc_X7 a0 u_17 ma rf lk pu tl lo]) (cx := [tc_X7 a0 u_17 ma rf lk pu tl lo, tc_X6 ma tk mo su lv si ga sl sc fh lh fo ee pn e0 e1 e2 e3 e4 e5 a0, tc_Jx4a65c lo mc ed (nI n)]) (pl := tm_L G ed n ad rc) hP [2, 0, 1] rfl
    have hD9 := va_D.part (X := [tc_X6 ma tk mo su lv si ga sl sc fh lh fo ee pn e0 e1 e2 e3 e4 e5 a0, tc_Jx4a65c lo mc ed (nI n), tc_X7 a0 u_17 ma rf lk pu tl lo]) (cx := [tc_X7 a0 u_17 ma rf lk pu tl lo, tc_X6 ma tk mo su lv si ga sl sc fh lh fo ee pn e0 e1 e2 e3 e4 e5 a0, tc_Jx4a65c lo mc ed (nI n)]) (pl := tm_L G ed n ad rc) hD [2, 0, 1] (by decide) rfl
    exact W.iret (v := r_16) hx hb hr (fun t ht hW => ⟨⟨r_16, (rc, u_17, pu, tl), rfl, by unfold f_X7_give; all_goals (rw [if_pos c_3]); all_goals (rw [← hw_16]); all_goals (dsimp only); all_goals rfl, by rw [ht]; exact hP9, hD9⟩, hS.F ht⟩) hS.2.2 dX7_give_18
set_option maxHeartbeats 4000000 in
set_option maxRecDepth 100000 in
theorem c_X7_pass (l : Launch) (G : tm_G) (a0 : Nat) (ma : Nat) (lo : Nat) (e0 : Nat) (e1 : Nat) (e2 : Nat) (e3 : Nat) (e4 : Nat) (e5 : Nat) (ed : Nat) (sz : Nat) (th : Int32) (rf : Int32) (lk : Int32) (pu : Int32) (tl : UInt64) (tk : Int32) (mo : Int32) (su : UInt64) (lv : UInt64) (si : UInt32) (ga : Int32) (sl : Int32) (sc : Int32) (fh : Int32) (lh : Int32) (fo : UInt64) (ee : Int32) (pn : Int32) (dl : Nat → UInt32) (pl : Nat → Int32) (dr : Nat → Int32) (sp : Nat → Int32) (le : Nat → UInt64) (dn : Nat → Int32) (mc : Int32) (p1 : Int32) (n : Nat) (ad : Nat → Nat) (rc : Nat → Nat → Int32) (hn : n_X7_pass tk mo su lv si ga sl sc fh lh fo ee pn dl pl dr sp le dn p1 n rc) : Met l yX7_pass wsX7_pass ({ frames := 6, cells := 0, slots := 0, locals := 145 }) (va_Pc [.ref a0, .int p1] (tm_B G ([tc_X7 a0 th ma rf lk pu tl lo, tc_X6 ma tk mo su lv si ga sl sc fh lh fo ee pn e0 e1 e2 e3 e4 e5 a0, tc_F G e0 3 dl, tc_I G e1 3 pl, tc_I G e2 3 dr, tc_I G e3 3 sp, tc_D G e4 10 le, tc_Z G e5 10 dn, tc_Jx4a65c lo mc ed (nI n)] ++ tm_L G ed n ad rc) sz)) (va_Qi (fun (r : Int32) (u : (Nat → Nat → Int32) × Int32 × Int32 × UInt64 × UInt32 × UInt64 × Int32 × (Nat → UInt32) × (Nat → Int32) × (Nat → Int32) × (Nat → Int32) × (Nat → UInt64) × (Nat → Int32)) => (r, u) = f_X7_pass tk mo su lv si ga sl sc fh lh fo ee pn dl pl dr sp le dn p1 n rc) (fun (u : (Nat → Nat → Int32) × Int32 × Int32 × UInt64 × UInt32 × UInt64 × Int32 × (Nat → UInt32) × (Nat → Int32) × (Nat → Int32) × (Nat → Int32) × (Nat → UInt64) × (Nat → Int32)) (t : State) => va_P G.1 vwCl ([tc_X7 a0 u.2.1 ma rf lk pu tl lo, tc_X6 ma u.2.2.1 mo su u.2.2.2.1 u.2.2.2.2.1 ga sl sc fh lh u.2.2.2.2.2.1 u.2.2.2.2.2.2.1 pn e0 e1 e2 e3 e4 e5 a0, tc_F G e0 3 u.2.2.2.2.2.2.2.1, tc_I G e1 3 u.2.2.2.2.2.2.2.2.1, tc_I G e2 3 u.2.2.2.2.2.2.2.2.2.1, tc_I G e3 3 u.2.2.2.2.2.2.2.2.2.2.1, tc_D G e4 10 u.2.2.2.2.2.2.2.2.2.2.2.1, tc_Z G e5 10 u.2.2.2.2.2.2.2.2.2.2.2.2, tc_Jx4a65c lo mc ed (nI n)] ++ tm_L G ed n ad u.1) t.heap ∧ va_D (va_A ([tc_X7 a0 th ma rf lk pu tl lo, tc_X6 ma tk mo su lv si ga sl sc fh lh fo ee pn e0 e1 e2 e3 e4 e5 a0, tc_F G e0 3 dl, tc_I G e1 3 pl, tc_I G e2 3 dr, tc_I G e3 3 sp, tc_D G e4 10 le, tc_Z G e5 10 dn, tc_Jx4a65c lo mc ed (nI n)] ++ tm_L G ed n ad rc) sz) ([tc_X7 a0 u.2.1 ma rf lk pu tl lo, tc_X6 ma u.2.2.1 mo su u.2.2.2.1 u.2.2.2.2.1 ga sl sc fh lh u.2.2.2.2.2.1 u.2.2.2.2.2.2.1 pn e0 e1 e2 e3 e4 e5 a0, tc_F G e0 3 u.2.2.2.2.2.2.2.1, tc_I G e1 3 u.2.2.2.2.2.2.2.2.1, tc_I G e2 3 u.2.2.2.2.2.2.2.2.2.1, tc_I G e3 3 u.2.2.2.2.2.2.2.2.2.2.1, tc_D G e4 10 u.2.2.2.2.2.2.2.2.2.2.2.1, tc_Z G e5 10 u.2.2.2.2.2.2.2.2.2.2.2.2, tc_Jx4a65c lo mc ed (nI n)] ++ tm_L G ed n ad u.1)) (va_A ([tc_X7 a0 th ma rf lk pu tl lo, tc_X6 ma tk mo su lv si ga sl sc fh lh fo ee pn e0 e1 e2 e3 e4 e5 a0, tc_F G e0 3 dl, tc_I G e1 3 pl, tc_I G e2 3 dr, tc_I G e3 3 sp, tc_D G e4 10 le, tc_Z G e5 10 dn, tc_Jx4a65c lo mc ed (nI n)] ++ tm_L G ed n ad rc) sz)) 0 0 (va_A ([tc_X7 a0 th ma rf lk pu tl lo, tc_X6 ma tk mo su lv si ga sl sc fh lh fo ee pn e0 e1 e2 e3 e4 e5 a0, tc_F G e0 3 dl, tc_I G e1 3 pl, tc_I G e2 3 dr, tc_I G e3 3 sp, tc_D G e4 10 le, tc_Z G e5 10 dn, tc_Jx4a65c lo mc ed (nI n)] ++ tm_L G ed n ad rc) sz) := by
  refine Met.ofW (cc := cX7_pass) (maxL := 3) (ret := (some .int)) (by decide) rfl ?_
  intro p e s m args below meth c s₁ B hml hv
  obtain ⟨rfl, hsz, hP, hK, hD0, hN, hV⟩ := hv
  have hx := B.exec
  have hb := B.bytes
  have hr := B.returns
  have hts := atoms_spec (ws := wsX7_pass) B.pre
  have hown : s.vm.findClass RX7 = some m.cls := findClass_of_methodNamed B.named
  have hlocks := B.notSynchronized
  subst hsz
  obtain ⟨n_19, n_32, n_35⟩ := hn
  have hiX6 : ∀ w ∈ u_ws RX6 TX6 20, w ∈ wsX7_pass := fun _ h => List.mem_cons_of_mem _ (List.mem_append_left _ (List.mem_append_right _ h))
  have hiX7 : ∀ w ∈ u_ws RX7 TX7 7, w ∈ wsX7_pass := fun _ h => List.mem_cons_of_mem _ (List.mem_append_left _ (List.mem_append_left _ (List.mem_append_right _ h)))
  have hD := hD0.self (sz := s.heap.size)
  generalize hAe : va_A ([tc_X7 a0 th ma rf lk pu tl lo, tc_X6 ma tk mo su lv si ga sl sc fh lh fo ee pn e0 e1 e2 e3 e4 e5 a0, tc_F G e0 3 dl, tc_I G e1 3 pl, tc_I G e2 3 dr, tc_I G e3 3 sp, tc_D G e4 10 le, tc_Z G e5 10 dn, tc_Jx4a65c lo mc ed (nI n)] ++ tm_L G ed n ad rc) s.heap.size = A at hD hV ⊢
  have hA : ∀ q : Nat, s.heap.size ≤ q → A q := fun q h => by rw [← hAe]; exact Or.inr h
  have hS : va_S A s.heap s.heap [] := va_S.rf
  have hl := lv_entry ([.ref a0, .int p1]) (n := 3) (Nat.le_of_ble_eq_true rfl)
  rw [lg_entry_eq]
  generalize (lg_sl ([.ref a0, .int p1]) ++ List.replicate (3 - (lg_sl ([.ref a0, .int p1])).length) Slot.unset).toArray = ls at hl ⊢
  have hl : lv_has ls 3 [(0, .ref a0), (1, .int p1)] := hl
  refine lv_aload_n hx hb dX7_pass_0 rfl (lv_at hl 0 rfl) ?_
  refine lv_iconst (v := 0) hx hb dX7_pass_1 (by decide) ?_
  refine va_put (D := G.1) (ci := 8) (v := .int 0) (ty := .int) (C := RX7) (T := TX7) (N := 7) hx hb hts hiX7 tyX7 tyX7_ok nmX7 hown hK hP hD hS 0 rfl rfl 0 (by decide) (hts (.fieldLink RX7 25 "TideMillModel" "thrown" "I") (List.mem_of_getElem? (i := 1) rfl)) (fun _ h9 => h9) rfl (by decide +kernel) rfl rfl (Nat.le_of_ble_eq_true rfl) dX7_pass_2 (fun H locs hP hD hS => ?_)
  have hP : va_P G.1 vwCl ([tc_X7 a0 0 ma rf lk pu tl lo, tc_X6 ma tk mo su lv si ga sl sc fh lh fo ee pn e0 e1 e2 e3 e4 e5 a0, tc_F G e0 3 dl, tc_I G e1 3 pl, tc_I G e2 3 dr, tc_I G e3 3 sp, tc_D G e4 10 le, tc_Z G e5 10 dn, tc_Jx4a65c lo mc ed (nI n)] ++ tm_L G ed n ad rc) H := hP
  have hD : va_D A ([tc_X7 a0 0 ma rf lk pu tl lo, tc_X6 ma tk mo su lv si ga sl sc fh lh fo ee pn e0 e1 e2 e3 e4 e5 a0, tc_F G e0 3 dl, tc_I G e1 3 pl, tc_I G e2 3 dr, tc_I G e3 3 sp, tc_D G e4 10 le, tc_Z G e5 10 dn, tc_Jx4a65c lo mc ed (nI n)] ++ tm_L G ed n ad rc) := hD
  refine lv_iload_n hx hb dX7_pass_5 rfl (lv_at hl 1 rfl) ?_
  refine lv_iconst (v := 1) hx hb dX7_pass_6 (by decide) ?_
  refine lv_bipush (v := 100) hx hb dX7_pass_7 (by decide) ?_
  have hPc := hP.sub (ws' := []) [] rfl
  have hDc := hD.sub (ws' := []) [] (by decide) rfl
  have hFc := va_free (wc := []) hD hS hA [] rfl
  refine va_calli (va_runS (As := [.int p1, .int 1, .int 100]) (rest := []) ⟨hx, hb, hml, hown, hts⟩ (c_X7_in l G  H.size p1 1 100 ) (cwS 3 hts gX7_pass_X7_in rfl rfl rfl (by decide +kernel) ⟨(Nat.le_of_ble_eq_true rfl), (Nat.le_of_ble_eq_true rfl)⟩) (tm_preS hK hN hV hS hPc hDc hFc) rfl rfl hl.1 rfl (lv_room (Nat.le_of_ble_eq_true rfl)) dX7_pass_9 ⟨(Nat.le_of_ble_eq_true rfl), (Nat.le_of_ble_eq_true rfl)⟩) hS (fun q _ h => hFc q h) hFc (fun r_1 u t H locs ht hvm hw_1 hB hz1 hk1 hS => ?_)
  obtain ⟨hP1, hD1⟩ := hB
  rw [ht] at hP1
  try dsimp only at hw_1
  obtain ⟨hP, hD⟩ := va_joinQ (X := [tc_X7 a0 0 ma rf lk pu tl lo, tc_X6 ma tk mo su lv si ga sl sc fh lh fo ee pn e0 e1 e2 e3 e4 e5 a0, tc_F G e0 3 dl, tc_I G e1 3 pl, tc_I G e2 3 dr, tc_I G e3 3 sp, tc_D G e4 10 le, tc_Z G e5 10 dn, tc_Jx4a65c lo mc ed (nI n)]) (cx := []) (wr := [tc_X7 a0 0 ma rf lk pu tl lo, tc_X6 ma tk mo su lv si ga sl sc fh lh fo ee pn e0 e1 e2 e3 e4 e5 a0, tc_F G e0 3 dl, tc_I G e1 3 pl, tc_I G e2 3 dr, tc_I G e3 3 sp, tc_D G e4 10 le, tc_Z G e5 10 dn, tc_Jx4a65c lo mc ed (nI n)]) (w1 := []) (pl := tm_L G ed n ad rc) hP hD [] [0, 1, 2, 3, 4, 5, 6, 7, 8] rfl rfl (by decide) (by decide) hk1 hFc hP1 hD1
  have hP : va_P G.1 vwCl ([tc_X7 a0 0 ma rf lk pu tl lo, tc_X6 ma tk mo su lv si ga sl sc fh lh fo ee pn e0 e1 e2 e3 e4 e5 a0, tc_F G e0 3 dl, tc_I G e1 3 pl, tc_I G e2 3 dr, tc_I G e3 3 sp, tc_D G e4 10 le, tc_Z G e5 10 dn, tc_Jx4a65c lo mc ed (nI n)] ++ tm_L G ed n ad rc) H := hP
  have hD : va_D A ([tc_X7 a0 0 ma rf lk pu tl lo, tc_X6 ma tk mo su lv si ga sl sc fh lh fo ee pn e0 e1 e2 e3 e4 e5 a0, tc_F G e0 3 dl, tc_I G e1 3 pl, tc_I G e2 3 dr, tc_I G e3 3 sp, tc_D G e4 10 le, tc_Z G e5 10 dn, tc_Jx4a65c lo mc ed (nI n)] ++ tm_L G ed n ad rc) := hD
  subst r_1
  refine lv_if_ne (tgt := 21) hx hb dX7_pass_12 (by decide) (fun c_2 => ?_) (fun c_2 => ?_)
  · refine lv_aload_n hx hb dX7_pass_21 rfl (lv_at hl 0 rfl) ?_
    refine va_get (D := G.1) (ci := 8) (v := .ref ma) (C := RX7) (T := TX7) (N := 7) hx hb hts hiX7 hown hK hP 0 rfl rfl 1 (by decide) (hts (.fieldLink RX7 12 "TideMillModel" "mill" "LTideMillModel$Mill;") (List.mem_of_getElem? (i := 2) rfl)) (fun _ h9 => h9) rfl dX7_pass_22 ?_
    refine va_get (D := G.1) (ci := 7) (v := .int tk) (C := RX6) (T := TX6) (N := 20) hx hb hts hiX6 hown hK hP 1 rfl rfl 0 (by decide) (hts (.fieldLink RX7 59 "TideMillModel$Mill" "tick" "I") (List.mem_of_getElem? (i := 3) rfl)) (fun _ h9 => h9) rfl dX7_pass_25 ?_
    refine lv_iload_n hx hb dX7_pass_28 rfl (lv_at hl 1 rfl) ?_
    refine lv_iadd hx hb dX7_pass_29 ?_
    refine lv_sipush (v := 5000) hx hb dX7_pass_30 (by decide) ?_
    refine lv_icmp_le (tgt := 42) hx hb dX7_pass_33 (by decide) (fun c_3 => ?_) (fun c_3 => ?_)
    · refine lv_iconst (v := 0) hx hb dX7_pass_42 (by decide) ?_
      refine lv_istore_n (lv' := [(2, .int 0), (0, .ref a0), (1, .int p1)]) hx hb dX7_pass_43 rfl hl (by decide) rfl (fun ls hl => ?_)
      have L_44 : ∀ (fuel : Nat) (x44_0 : Int32) (x44_1 : Nat → UInt32) (x44_2 : Nat → Int32) (x44_3 : Nat → Int32) (x44_4 : Nat → Int32) (x44_5 : Nat → UInt64) (x44_6 : Nat → Int32) (x44_7 : Int32) (x44_8 : UInt64) (x44_9 : UInt32) (x44_10 : UInt64) (x44_11 : Int32), n_X7_pass_44 mo su ga sl sc fh lh pn p1 n rc fuel x44_0 x44_1 x44_2 x44_3 x44_4 x44_5 x44_6 x44_7 x44_8 x44_9 x44_10 x44_11 → ∀ (H : Heap) (locs : List Loc), va_P G.1 vwCl ([tc_X7 a0 0 ma rf lk pu tl lo, tc_X6 ma x44_7 mo su x44_8 x44_9 ga sl sc fh lh x44_10 x44_11 pn e0 e1 e2 e3 e4 e5 a0, tc_F G e0 3 x44_1, tc_I G e1 3 x44_2, tc_I G e2 3 x44_3, tc_I G e3 3 x44_4, tc_D G e4 10 x44_5, tc_Z G e5 10 x44_6, tc_Jx4a65c lo mc ed (nI n)] ++ tm_L G ed n ad rc) H → va_D A ([tc_X7 a0 0 ma rf lk pu tl lo, tc_X6 ma x44_7 mo su x44_8 x44_9 ga sl sc fh lh x44_10 x44_11 pn e0 e1 e2 e3 e4 e5 a0, tc_F G e0 3 x44_1, tc_I G e1 3 x44_2, tc_I G e2 3 x44_3, tc_I G e3 3 x44_4, tc_D G e4 10 x44_5, tc_Z G e5 10 x44_6, tc_Jx4a65c lo mc ed (nI n)] ++ tm_L G ed n ad rc) → va_S A s.heap H locs → ∀ ls : Array Slot, lv_has ls 3 [(2, .int x44_0), (0, .ref a0), (1, .int p1)] → (∀ (x44e_20 : Int32) (x44e_21 : Nat → UInt32) (x44e_22 : Nat → Int32) (x44e_23 : Nat → Int32) (x44e_24 : Nat → Int32) (x44e_25 : Nat → UInt64) (x44e_26 : Nat → Int32) (x44e_27 : Int32) (x44e_28 : UInt64) (x44e_29 : UInt32) (x44e_30 : UInt64) (x44e_31 : Int32), ∀ (H : Heap) (locs : List Loc), va_P G.1 vwCl ([tc_X7 a0 0 ma rf lk pu tl lo, tc_X6 ma x44e_27 mo su x44e_28 x44e_29 ga sl sc fh lh x44e_30 x44e_31 pn e0 e1 e2 e3 e4 e5 a0, tc_F G e0 3 x44e_21, tc_I G e1 3 x44e_22, tc_I G e2 3 x44e_23, tc_I G e3 3 x44e_24, tc_D G e4 10 x44e_25, tc_Z G e5 10 x44e_26, tc_Jx4a65c lo mc ed (nI n)] ++ tm_L G ed n ad rc) H → va_D A ([tc_X7 a0 0 ma rf lk pu tl lo, tc_X6 ma x44e_27 mo su x44e_28 x44e_29 ga sl sc fh lh x44e_30 x44e_31 pn e0 e1 e2 e3 e4 e5 a0, tc_F G e0 3 x44e_21, tc_I G e1 3 x44e_22, tc_I G e2 3 x44e_23, tc_I G e3 3 x44e_24, tc_D G e4 10 x44e_25, tc_Z G e5 10 x44e_26, tc_Jx4a65c lo mc ed (nI n)] ++ tm_L G ed n ad rc) → va_S A s.heap H locs → ∀ ls : Array Slot, lv_has ls 3 [(2, .int x44e_20), (0, .ref a0), (1, .int p1)] → (x44e_20, x44e_21, x44e_22, x44e_23, x44e_24, x44e_25, x44e_26, x44e_27, x44e_28, x44e_29, x44e_30, x44e_31) = f_X7_pass_44 mo su ga sl sc fh lh pn p1 rc fuel x44_0 x44_1 x44_2 x44_3 x44_4 x44_5 x44_6 x44_7 x44_8 x44_9 x44_10 x44_11 → W p l e (headSpec wsX7_pass ({ frames := 6, cells := 0, slots := 0, locals := 145 } : Room)).room s m ([.ref a0, .int p1] : List Value).toArray below meth c H locs 0 0 (MQ below (va_Qi (fun (r : Int32) (u : (Nat → Nat → Int32) × Int32 × Int32 × UInt64 × UInt32 × UInt64 × Int32 × (Nat → UInt32) × (Nat → Int32) × (Nat → Int32) × (Nat → Int32) × (Nat → UInt64) × (Nat → Int32)) => (r, u) = f_X7_pass tk mo su lv si ga sl sc fh lh fo ee pn dl pl dr sp le dn p1 n rc) (fun (u : (Nat → Nat → Int32) × Int32 × Int32 × UInt64 × UInt32 × UInt64 × Int32 × (Nat → UInt32) × (Nat → Int32) × (Nat → Int32) × (Nat → Int32) × (Nat → UInt64) × (Nat → Int32)) (t : State) => va_P G.1 vwCl ([tc_X7 a0 u.2.1 ma rf lk pu tl lo, tc_X6 ma u.2.2.1 mo su u.2.2.2.1 u.2.2.2.2.1 ga sl sc fh lh u.2.2.2.2.2.1 u.2.2.2.2.2.2.1 pn e0 e1 e2 e3 e4 e5 a0, tc_F G e0 3 u.2.2.2.2.2.2.2.1, tc_I G e1 3 u.2.2.2.2.2.2.2.2.1, tc_I G e2 3 u.2.2.2.2.2.2.2.2.2.1, tc_I G e3 3 u.2.2.2.2.2.2.2.2.2.2.1, tc_D G e4 10 u.2.2.2.2.2.2.2.2.2.2.2.1, tc_Z G e5 10 u.2.2.2.2.2.2.2.2.2.2.2.2, tc_Jx4a65c lo mc ed (nI n)] ++ tm_L G ed n ad u.1) t.heap ∧ va_D A ([tc_X7 a0 u.2.1 ma rf lk pu tl lo, tc_X6 ma u.2.2.1 mo su u.2.2.2.1 u.2.2.2.2.1 ga sl sc fh lh u.2.2.2.2.2.1 u.2.2.2.2.2.2.1 pn e0 e1 e2 e3 e4 e5 a0, tc_F G e0 3 u.2.2.2.2.2.2.2.1, tc_I G e1 3 u.2.2.2.2.2.2.2.2.1, tc_I G e2 3 u.2.2.2.2.2.2.2.2.2.1, tc_I G e3 3 u.2.2.2.2.2.2.2.2.2.2.1, tc_D G e4 10 u.2.2.2.2.2.2.2.2.2.2.2.1, tc_Z G e5 10 u.2.2.2.2.2.2.2.2.2.2.2.2, tc_Jx4a65c lo mc ed (nI n)] ++ tm_L G ed n ad u.1)) A) ([.ref a0, .int p1] : List Value).toArray s 0 0 A) (F0 m 62 ls [])) → W p l e (headSpec wsX7_pass ({ frames := 6, cells := 0, slots := 0, locals := 145 } : Room)).room s m ([.ref a0, .int p1] : List Value).toArray below meth c H locs 0 0 (MQ below (va_Qi (fun (r : Int32) (u : (Nat → Nat → Int32) × Int32 × Int32 × UInt64 × UInt32 × UInt64 × Int32 × (Nat → UInt32) × (Nat → Int32) × (Nat → Int32) × (Nat → Int32) × (Nat → UInt64) × (Nat → Int32)) => (r, u) = f_X7_pass tk mo su lv si ga sl sc fh lh fo ee pn dl pl dr sp le dn p1 n rc) (fun (u : (Nat → Nat → Int32) × Int32 × Int32 × UInt64 × UInt32 × UInt64 × Int32 × (Nat → UInt32) × (Nat → Int32) × (Nat → Int32) × (Nat → Int32) × (Nat → UInt64) × (Nat → Int32)) (t : State) => va_P G.1 vwCl ([tc_X7 a0 u.2.1 ma rf lk pu tl lo, tc_X6 ma u.2.2.1 mo su u.2.2.2.1 u.2.2.2.2.1 ga sl sc fh lh u.2.2.2.2.2.1 u.2.2.2.2.2.2.1 pn e0 e1 e2 e3 e4 e5 a0, tc_F G e0 3 u.2.2.2.2.2.2.2.1, tc_I G e1 3 u.2.2.2.2.2.2.2.2.1, tc_I G e2 3 u.2.2.2.2.2.2.2.2.2.1, tc_I G e3 3 u.2.2.2.2.2.2.2.2.2.2.1, tc_D G e4 10 u.2.2.2.2.2.2.2.2.2.2.2.1, tc_Z G e5 10 u.2.2.2.2.2.2.2.2.2.2.2.2, tc_Jx4a65c lo mc ed (nI n)] ++ tm_L G ed n ad u.1) t.heap ∧ va_D A ([tc_X7 a0 u.2.1 ma rf lk pu tl lo, tc_X6 ma u.2.2.1 mo su u.2.2.2.1 u.2.2.2.2.1 ga sl sc fh lh u.2.2.2.2.2.1 u.2.2.2.2.2.2.1 pn e0 e1 e2 e3 e4 e5 a0, tc_F G e0 3 u.2.2.2.2.2.2.2.1, tc_I G e1 3 u.2.2.2.2.2.2.2.2.1, tc_I G e2 3 u.2.2.2.2.2.2.2.2.2.1, tc_I G e3 3 u.2.2.2.2.2.2.2.2.2.2.1, tc_D G e4 10 u.2.2.2.2.2.2.2.2.2.2.2.1, tc_Z G e5 10 u.2.2.2.2.2.2.2.2.2.2.2.2, tc_Jx4a65c lo mc ed (nI n)] ++ tm_L G ed n ad u.1)) A) ([.ref a0, .int p1] : List Value).toArray s 0 0 A) (F0 m 44 ls []) := by
        intro fuel
        induction fuel with
        | zero =>
          intro x44_0 x44_1 x44_2 x44_3 x44_4 x44_5 x44_6 x44_7 x44_8 x44_9 x44_10 x44_11 hnl; exact absurd hnl (by simp [n_X7_pass_44])
        | succ fuel ih =>
          intro x44_0 x44_1 x44_2 x44_3 x44_4 x44_5 x44_6 x44_7 x44_8 x44_9 x44_10 x44_11 hnl H locs hP hD hS ls hl kk
          rw [n_X7_pass_44] at hnl
          obtain ⟨n_5, n_18⟩ := hnl
          refine lv_iload_n hx hb dX7_pass_44 rfl (lv_at hl 0 rfl) ?_
          refine lv_iload_n hx hb dX7_pass_45 rfl (lv_at hl 2 rfl) ?_
          refine lv_icmp_ge (tgt := 62) hx hb dX7_pass_46 (by decide) (fun c_4 => ?_) (fun c_4 => ?_)
          · have hP9 := va_P.part (X := [tc_X7 a0 0 ma rf lk pu tl lo, tc_X6 ma x44_7 mo su x44_8 x44_9 ga sl sc fh lh x44_10 x44_11 pn e0 e1 e2 e3 e4 e5 a0, tc_F G e0 3 x44_1, tc_I G e1 3 x44_2, tc_I G e2 3 x44_3, tc_I G e3 3 x44_4, tc_D G e4 10 x44_5, tc_Z G e5 10 x44_6, tc_Jx4a65c lo mc ed (nI n)]) (cx := [tc_X7 a0 0 ma rf lk pu tl lo, tc_X6 ma x44_7 mo su x44_8 x44_9 ga sl sc fh lh x44_10 x44_11 pn e0 e1 e2 e3 e4 e5 a0, tc_F G e0 3 x44_1, tc_I G e1 3 x44_2, tc_I G e2 3 x44_3, tc_I G e3 3 x44_4, tc_D G e4 10 x44_5, tc_Z G e5 10 x44_6, tc_Jx4a65c lo mc ed (nI n)]) (pl := tm_L G ed n ad rc) hP [0, 1, 2, 3, 4, 5, 6, 7, 8] rfl
            have hD9 := va_D.part (X := [tc_X7 a0 0 ma rf lk pu tl lo, tc_X6 ma x44_7 mo su x44_8 x44_9 ga sl sc fh lh x44_10 x44_11 pn e0 e1 e2 e3 e4 e5 a0, tc_F G e0 3 x44_1, tc_I G e1 3 x44_2, tc_I G e2 3 x44_3, tc_I G e3 3 x44_4, tc_D G e4 10 x44_5, tc_Z G e5 10 x44_6, tc_Jx4a65c lo mc ed (nI n)]) (cx := [tc_X7 a0 0 ma rf lk pu tl lo, tc_X6 ma x44_7 mo su x44_8 x44_9 ga sl sc fh lh x44_10 x44_11 pn e0 e1 e2 e3 e4 e5 a0, tc_F G e0 3 x44_1, tc_I G e1 3 x44_2, tc_I G e2 3 x44_3, tc_I G e3 3 x44_4, tc_D G e4 10 x44_5, tc_Z G e5 10 x44_6, tc_Jx4a65c lo mc ed (nI n)]) (pl := tm_L G ed n ad rc) hD [0, 1, 2, 3, 4, 5, 6, 7, 8] (by decide) rfl
            exact kk x44_0 x44_1 x44_2 x44_3 x44_4 x44_5 x44_6 x44_7 x44_8 x44_9 x44_10 x44_11 _ _ hP9 hD9 hS _ (lv_sub hl [0, 1, 2] rfl) (by rw [f_X7_pass_44]; all_goals (rw [if_pos c_4]); all_goals rfl)
          · refine lv_aload_n hx hb dX7_pass_49 rfl (lv_at hl 1 rfl) ?_
            refine va_get (D := G.1) (ci := 8) (v := .ref ma) (C := RX7) (T := TX7) (N := 7) hx hb hts hiX7 hown hK hP 0 rfl rfl 1 (by decide) (hts (.fieldLink RX7 12 "TideMillModel" "mill" "LTideMillModel$Mill;") (List.mem_of_getElem? (i := 2) rfl)) (fun _ h9 => h9) rfl dX7_pass_50 ?_
            have hPc := va_P.part (X := [tc_X7 a0 0 ma rf lk pu tl lo, tc_X6 ma x44_7 mo su x44_8 x44_9 ga sl sc fh lh x44_10 x44_11 pn e0 e1 e2 e3 e4 e5 a0, tc_F G e0 3 x44_1, tc_I G e1 3 x44_2, tc_I G e2 3 x44_3, tc_I G e3 3 x44_4, tc_D G e4 10 x44_5, tc_Z G e5 10 x44_6, tc_Jx4a65c lo mc ed (nI n)]) (cx := [tc_X6 ma x44_7 mo su x44_8 x44_9 ga sl sc fh lh x44_10 x44_11 pn e0 e1 e2 e3 e4 e5 a0, tc_F G e0 3 x44_1, tc_I G e1 3 x44_2, tc_I G e2 3 x44_3, tc_I G e3 3 x44_4, tc_D G e4 10 x44_5, tc_Z G e5 10 x44_6, tc_X7 a0 0 ma rf lk pu tl lo, tc_Jx4a65c lo mc ed (nI n)]) (pl := tm_L G ed n ad rc) hP [1, 2, 3, 4, 5, 6, 7, 0, 8] rfl
            have hDc := va_D.part (X := [tc_X7 a0 0 ma rf lk pu tl lo, tc_X6 ma x44_7 mo su x44_8 x44_9 ga sl sc fh lh x44_10 x44_11 pn e0 e1 e2 e3 e4 e5 a0, tc_F G e0 3 x44_1, tc_I G e1 3 x44_2, tc_I G e2 3 x44_3, tc_I G e3 3 x44_4, tc_D G e4 10 x44_5, tc_Z G e5 10 x44_6, tc_Jx4a65c lo mc ed (nI n)]) (cx := [tc_X6 ma x44_7 mo su x44_8 x44_9 ga sl sc fh lh x44_10 x44_11 pn e0 e1 e2 e3 e4 e5 a0, tc_F G e0 3 x44_1, tc_I G e1 3 x44_2, tc_I G e2 3 x44_3, tc_I G e3 3 x44_4, tc_D G e4 10 x44_5, tc_Z G e5 10 x44_6, tc_X7 a0 0 ma rf lk pu tl lo, tc_Jx4a65c lo mc ed (nI n)]) (pl := tm_L G ed n ad rc) hD [1, 2, 3, 4, 5, 6, 7, 0, 8] (by decide) rfl
            have hFc := va_freeP (X := [tc_X7 a0 0 ma rf lk pu tl lo, tc_X6 ma x44_7 mo su x44_8 x44_9 ga sl sc fh lh x44_10 x44_11 pn e0 e1 e2 e3 e4 e5 a0, tc_F G e0 3 x44_1, tc_I G e1 3 x44_2, tc_I G e2 3 x44_3, tc_I G e3 3 x44_4, tc_D G e4 10 x44_5, tc_Z G e5 10 x44_6, tc_Jx4a65c lo mc ed (nI n)]) (cx := [tc_X6 ma x44_7 mo su x44_8 x44_9 ga sl sc fh lh x44_10 x44_11 pn e0 e1 e2 e3 e4 e5 a0, tc_F G e0 3 x44_1, tc_I G e1 3 x44_2, tc_I G e2 3 x44_3, tc_I G e3 3 x44_4, tc_D G e4 10 x44_5, tc_Z G e5 10 x44_6, tc_X7 a0 0 ma rf lk pu tl lo, tc_Jx4a65c lo mc ed (nI n)]) (pl := tm_L G ed n ad rc) hD hS hA [1, 2, 3, 4, 5, 6, 7, 0, 8] rfl
            refine va_callv (va_runV (As := []) (rest := []) ⟨hx, hb, hml, hown, hts⟩ (c_X6_tick l G ma e0 e1 e2 e3 e4 e5 a0 ma lo ed H.size x44_7 mo su x44_8 x44_9 ga sl sc fh lh x44_10 x44_11 pn x44_1 x44_2 x44_3 x44_4 x44_5 x44_6 0 rf lk pu tl mc n ad rc (n_5 c_4)) (cwV 0 hts gX7_pass_X6_tick rfl rfl rfl (by decide +kernel) ⟨(Nat.le_of_ble_eq_true rfl), (Nat.le_of_ble_eq_true rfl)⟩) (tm_preV hK hN hV hS hPc hDc hFc (va_recv hK hPc (ci := 7) (q0 := 0) rfl rfl)) rfl rfl hl.1 rfl (lv_room (Nat.le_of_ble_eq_true rfl)) dX7_pass_53 ⟨(Nat.le_of_ble_eq_true rfl), (Nat.le_of_ble_eq_true rfl)⟩) hS (fun q _ h => hFc q h) hFc (fun u t H locs ht hvm hw_6 hB hz1 hk1 hS => ?_)
            obtain ⟨u_7, u_8, u_9, u_10, u_11, u_12, u_13, u_14, u_15, u_16, u_17⟩ := u
            obtain ⟨hP1, hD1⟩ := hB
            rw [ht] at hP1
            try dsimp only at hw_6
            obtain ⟨hP, hD⟩ := va_joinP (X := [tc_X7 a0 0 ma rf lk pu tl lo, tc_X6 ma x44_7 mo su x44_8 x44_9 ga sl sc fh lh x44_10 x44_11 pn e0 e1 e2 e3 e4 e5 a0, tc_F G e0 3 x44_1, tc_I G e1 3 x44_2, tc_I G e2 3 x44_3, tc_I G e3 3 x44_4, tc_D G e4 10 x44_5, tc_Z G e5 10 x44_6, tc_Jx4a65c lo mc ed (nI n)]) (cx := [tc_X6 ma x44_7 mo su x44_8 x44_9 ga sl sc fh lh x44_10 x44_11 pn e0 e1 e2 e3 e4 e5 a0, tc_F G e0 3 x44_1, tc_I G e1 3 x44_2, tc_I G e2 3 x44_3, tc_I G e3 3 x44_4, tc_D G e4 10 x44_5, tc_Z G e5 10 x44_6, tc_X7 a0 0 ma rf lk pu tl lo, tc_Jx4a65c lo mc ed (nI n)]) (wr := []) (rx := [tc_X6 ma u_7 mo su u_8 u_9 ga sl sc fh lh u_10 u_11 pn e0 e1 e2 e3 e4 e5 a0, tc_F G e0 3 u_12, tc_I G e1 3 u_13, tc_I G e2 3 u_14, tc_I G e3 3 u_15, tc_D G e4 10 u_16, tc_Z G e5 10 u_17, tc_X7 a0 0 ma rf lk pu tl lo, tc_Jx4a65c lo mc ed (nI n)]) (pl := tm_L G ed n ad rc) (pl1 := tm_L G ed n ad rc) hP hD [1, 2, 3, 4, 5, 6, 7, 0, 8] [] rfl rfl (by decide) (by decide) hk1 hFc hP1 hD1
            have hP : va_P G.1 vwCl ([tc_X6 ma u_7 mo su u_8 u_9 ga sl sc fh lh u_10 u_11 pn e0 e1 e2 e3 e4 e5 a0, tc_F G e0 3 u_12, tc_I G e1 3 u_13, tc_I G e2 3 u_14, tc_I G e3 3 u_15, tc_D G e4 10 u_16, tc_Z G e5 10 u_17, tc_X7 a0 0 ma rf lk pu tl lo, tc_Jx4a65c lo mc ed (nI n)] ++ tm_L G ed n ad rc) H := hP
            have hD : va_D A ([tc_X6 ma u_7 mo su u_8 u_9 ga sl sc fh lh u_10 u_11 pn e0 e1 e2 e3 e4 e5 a0, tc_F G e0 3 u_12, tc_I G e1 3 u_13, tc_I G e2 3 u_14, tc_I G e3 3 u_15, tc_D G e4 10 u_16, tc_Z G e5 10 u_17, tc_X7 a0 0 ma rf lk pu tl lo, tc_Jx4a65c lo mc ed (nI n)] ++ tm_L G ed n ad rc) := hD
            refine lv_iinc (v := x44_0 + 1) (lv' := [(2, .int (x44_0 + 1)), (0, .ref a0), (1, .int p1)]) hx hb dX7_pass_56 hl (k := 0) rfl rfl (by decide) rfl (fun ls hl => ?_)
            refine lv_goto (tgt := 44) hx hb dX7_pass_59 (by decide) ?_
            have hP9 := va_P.part (X := [tc_X6 ma u_7 mo su u_8 u_9 ga sl sc fh lh u_10 u_11 pn e0 e1 e2 e3 e4 e5 a0, tc_F G e0 3 u_12, tc_I G e1 3 u_13, tc_I G e2 3 u_14, tc_I G e3 3 u_15, tc_D G e4 10 u_16, tc_Z G e5 10 u_17, tc_X7 a0 0 ma rf lk pu tl lo, tc_Jx4a65c lo mc ed (nI n)]) (cx := [tc_X7 a0 0 ma rf lk pu tl lo, tc_X6 ma u_7 mo su u_8 u_9 ga sl sc fh lh u_10 u_11 pn e0 e1 e2 e3 e4 e5 a0, tc_F G e0 3 u_12, tc_I G e1 3 u_13, tc_I G e2 3 u_14, tc_I G e3 3 u_15, tc_D G e4 10 u_16, tc_Z G e5 10 u_17, tc_Jx4a65c lo mc ed (nI n)]) (pl := tm_L G ed n ad rc) hP [7, 0, 1, 2, 3, 4, 5, 6, 8] rfl
            have hD9 := va_D.part (X := [tc_X6 ma u_7 mo su u_8 u_9 ga sl sc fh lh u_10 u_11 pn e0 e1 e2 e3 e4 e5 a0, tc_F G e0 3 u_12, tc_I G e1 3 u_13, tc_I G e2 3 u_14, tc_I G e3 3 u_15, tc_D G e4 10 u_16, tc_Z G e5 10 u_17, tc_X7 a0 0 ma rf lk pu tl lo, tc_Jx4a65c lo mc ed (nI n)]) (cx := [tc_X7 a0 0 ma rf lk pu tl lo, tc_X6 ma u_7 mo su u_8 u_9 ga sl sc fh lh u_10 u_11 pn e0 e1 e2 e3 e4 e5 a0, tc_F G e0 3 u_12, tc_I G e1 3 u_13, tc_I G e2 3 u_14, tc_I G e3 3 u_15, tc_D G e4 10 u_16, tc_Z G e5 10 u_17, tc_Jx4a65c lo mc ed (nI n)]) (pl := tm_L G ed n ad rc) hD [7, 0, 1, 2, 3, 4, 5, 6, 8] (by decide) rfl
            exact ih (x44_0 + 1) u_12 u_13 u_14 u_15 u_16 u_17 u_7 u_8 u_9 u_10 u_11 (n_18 c_4 u_7 u_8 u_9 u_10 u_11 u_12 u_13 u_14 u_15 u_16 u_17 hw_6) _ _ hP9 hD9 hS _ (lv_sub hl [0, 1, 2] rfl) (fun x44e_20 x44e_21 x44e_22 x44e_23 x44e_24 x44e_25 x44e_26 x44e_27 x44e_28 x44e_29 x44e_30 x44e_31 H locs hP hD hS ls hl hw => kk x44e_20 x44e_21 x44e_22 x44e_23 x44e_24 x44e_25 x44e_26 x44e_27 x44e_28 x44e_29 x44e_30 x44e_31 H locs hP hD hS ls hl (hw.trans (by symm; rw [f_X7_pass_44]; all_goals (rw [if_neg c_4]); all_goals (rw [← hw_6]); all_goals (dsimp only); all_goals rfl)))
      have hP9 := va_P.part (X := [tc_X7 a0 0 ma rf lk pu tl lo, tc_X6 ma tk mo su lv si ga sl sc fh lh fo ee pn e0 e1 e2 e3 e4 e5 a0, tc_F G e0 3 dl, tc_I G e1 3 pl, tc_I G e2 3 dr, tc_I G e3 3 sp, tc_D G e4 10 le, tc_Z G e5 10 dn, tc_Jx4a65c lo mc ed (nI n)]) (cx := [tc_X7 a0 0 ma rf lk pu tl lo, tc_X6 ma tk mo su lv si ga sl sc fh lh fo ee pn e0 e1 e2 e3 e4 e5 a0, tc_F G e0 3 dl, tc_I G e1 3 pl, tc_I G e2 3 dr, tc_I G e3 3 sp, tc_D G e4 10 le, tc_Z G e5 10 dn, tc_Jx4a65c lo mc ed (nI n)]) (pl := tm_L G ed n ad rc) hP [0, 1, 2, 3, 4, 5, 6, 7, 8] rfl
      have hD9 := va_D.part (X := [tc_X7 a0 0 ma rf lk pu tl lo, tc_X6 ma tk mo su lv si ga sl sc fh lh fo ee pn e0 e1 e2 e3 e4 e5 a0, tc_F G e0 3 dl, tc_I G e1 3 pl, tc_I G e2 3 dr, tc_I G e3 3 sp, tc_D G e4 10 le, tc_Z G e5 10 dn, tc_Jx4a65c lo mc ed (nI n)]) (cx := [tc_X7 a0 0 ma rf lk pu tl lo, tc_X6 ma tk mo su lv si ga sl sc fh lh fo ee pn e0 e1 e2 e3 e4 e5 a0, tc_F G e0 3 dl, tc_I G e1 3 pl, tc_I G e2 3 dr, tc_I G e3 3 sp, tc_D G e4 10 le, tc_Z G e5 10 dn, tc_Jx4a65c lo mc ed (nI n)]) (pl := tm_L G ed n ad rc) hD [0, 1, 2, 3, 4, 5, 6, 7, 8] (by decide) rfl
      refine L_44 102 0 dl pl dr sp le dn tk lv si fo ee (n_19 c_2 c_3) _ _ hP9 hD9 hS _ (lv_sub hl [0, 1, 2] rfl) (fun x44e_20 x44e_21 x44e_22 x44e_23 x44e_24 x44e_25 x44e_26 x44e_27 x44e_28 x44e_29 x44e_30 x44e_31 H locs hP hD hS ls hl hw_31 => ?_)
      refine lv_aload_n hx hb dX7_pass_62 rfl (lv_at hl 1 rfl) ?_
      have hPc := va_P.part (X := [tc_X7 a0 0 ma rf lk pu tl lo, tc_X6 ma x44e_27 mo su x44e_28 x44e_29 ga sl sc fh lh x44e_30 x44e_31 pn e0 e1 e2 e3 e4 e5 a0, tc_F G e0 3 x44e_21, tc_I G e1 3 x44e_22, tc_I G e2 3 x44e_23, tc_I G e3 3 x44e_24, tc_D G e4 10 x44e_25, tc_Z G e5 10 x44e_26, tc_Jx4a65c lo mc ed (nI n)]) (cx := [tc_X7 a0 0 ma rf lk pu tl lo, tc_X6 ma x44e_27 mo su x44e_28 x44e_29 ga sl sc fh lh x44e_30 x44e_31 pn e0 e1 e2 e3 e4 e5 a0, tc_Z G e5 10 x44e_26, tc_Jx4a65c lo mc ed (nI n)]) (pl := tm_L G ed n ad rc) hP [0, 1, 7, 8] rfl
      have hDc := va_D.part (X := [tc_X7 a0 0 ma rf lk pu tl lo, tc_X6 ma x44e_27 mo su x44e_28 x44e_29 ga sl sc fh lh x44e_30 x44e_31 pn e0 e1 e2 e3 e4 e5 a0, tc_F G e0 3 x44e_21, tc_I G e1 3 x44e_22, tc_I G e2 3 x44e_23, tc_I G e3 3 x44e_24, tc_D G e4 10 x44e_25, tc_Z G e5 10 x44e_26, tc_Jx4a65c lo mc ed (nI n)]) (cx := [tc_X7 a0 0 ma rf lk pu tl lo, tc_X6 ma x44e_27 mo su x44e_28 x44e_29 ga sl sc fh lh x44e_30 x44e_31 pn e0 e1 e2 e3 e4 e5 a0, tc_Z G e5 10 x44e_26, tc_Jx4a65c lo mc ed (nI n)]) (pl := tm_L G ed n ad rc) hD [0, 1, 7, 8] (by decide) rfl
      have hFc := va_freeP (X := [tc_X7 a0 0 ma rf lk pu tl lo, tc_X6 ma x44e_27 mo su x44e_28 x44e_29 ga sl sc fh lh x44e_30 x44e_31 pn e0 e1 e2 e3 e4 e5 a0, tc_F G e0 3 x44e_21, tc_I G e1 3 x44e_22, tc_I G e2 3 x44e_23, tc_I G e3 3 x44e_24, tc_D G e4 10 x44e_25, tc_Z G e5 10 x44e_26, tc_Jx4a65c lo mc ed (nI n)]) (cx := [tc_X7 a0 0 ma rf lk pu tl lo, tc_X6 ma x44e_27 mo su x44e_28 x44e_29 ga sl sc fh lh x44e_30 x44e_31 pn e0 e1 e2 e3 e4 e5 a0, tc_Z G e5 10 x44e_26, tc_Jx4a65c lo mc ed (nI n)]) (pl := tm_L G ed n ad rc) hD hS hA [0, 1, 7, 8] rfl
      refine va_callv (va_runV (As := []) (rest := []) ⟨hx, hb, hml, hown, hts⟩ (c_X7_settle l G a0 ma lo e0 e1 e2 e3 e4 e5 ed H.size 0 rf lk pu tl x44e_27 mo su x44e_28 x44e_29 ga sl sc fh lh x44e_30 x44e_31 pn x44e_26 mc n ad rc (n_32 c_2 c_3 x44e_20 x44e_21 x44e_22 x44e_23 x44e_24 x44e_25 x44e_26 x44e_27 x44e_28 x44e_29 x44e_30 x44e_31 hw_31)) (cwV 0 hts gX7_pass_X7_settle rfl rfl rfl (by decide +kernel) ⟨(Nat.le_of_ble_eq_true rfl), (Nat.le_of_ble_eq_true rfl)⟩) (tm_preV hK hN hV hS hPc hDc hFc (va_recv hK hPc (ci := 8) (q0 := 0) rfl rfl)) rfl rfl hl.1 rfl (lv_room (Nat.le_of_ble_eq_true rfl)) dX7_pass_63 ⟨(Nat.le_of_ble_eq_true rfl), (Nat.le_of_ble_eq_true rfl)⟩) hS (fun q _ h => hFc q h) hFc (fun u t H locs ht hvm hw_33 hB hz1 hk1 hS => ?_)
      obtain ⟨u_34, rfl⟩ : ∃ z, z = u := ⟨_, rfl⟩
      obtain ⟨hP1, hD1⟩ := hB
      rw [ht] at hP1
      try dsimp only at hw_33
      obtain ⟨hP, hD⟩ := va_joinP (X := [tc_X7 a0 0 ma rf lk pu tl lo, tc_X6 ma x44e_27 mo su x44e_28 x44e_29 ga sl sc fh lh x44e_30 x44e_31 pn e0 e1 e2 e3 e4 e5 a0, tc_F G e0 3 x44e_21, tc_I G e1 3 x44e_22, tc_I G e2 3 x44e_23, tc_I G e3 3 x44e_24, tc_D G e4 10 x44e_25, tc_Z G e5 10 x44e_26, tc_Jx4a65c lo mc ed (nI n)]) (cx := [tc_X7 a0 0 ma rf lk pu tl lo, tc_X6 ma x44e_27 mo su x44e_28 x44e_29 ga sl sc fh lh x44e_30 x44e_31 pn e0 e1 e2 e3 e4 e5 a0, tc_Z G e5 10 x44e_26, tc_Jx4a65c lo mc ed (nI n)]) (wr := [tc_F G e0 3 x44e_21, tc_I G e1 3 x44e_22, tc_I G e2 3 x44e_23, tc_I G e3 3 x44e_24, tc_D G e4 10 x44e_25]) (rx := [tc_X7 a0 0 ma rf lk pu tl lo, tc_X6 ma x44e_27 mo su x44e_28 x44e_29 ga sl sc fh lh x44e_30 x44e_31 pn e0 e1 e2 e3 e4 e5 a0, tc_Z G e5 10 x44e_26, tc_Jx4a65c lo mc ed (nI n)]) (pl := tm_L G ed n ad rc) (pl1 := tm_L G ed n ad u_34) hP hD [0, 1, 7, 8] [2, 3, 4, 5, 6] rfl rfl (by decide) (by decide) hk1 hFc hP1 hD1
      have hP : va_P G.1 vwCl ([tc_F G e0 3 x44e_21, tc_I G e1 3 x44e_22, tc_I G e2 3 x44e_23, tc_I G e3 3 x44e_24, tc_D G e4 10 x44e_25, tc_X7 a0 0 ma rf lk pu tl lo, tc_X6 ma x44e_27 mo su x44e_28 x44e_29 ga sl sc fh lh x44e_30 x44e_31 pn e0 e1 e2 e3 e4 e5 a0, tc_Z G e5 10 x44e_26, tc_Jx4a65c lo mc ed (nI n)] ++ tm_L G ed n ad u_34) H := hP
      have hD : va_D A ([tc_F G e0 3 x44e_21, tc_I G e1 3 x44e_22, tc_I G e2 3 x44e_23, tc_I G e3 3 x44e_24, tc_D G e4 10 x44e_25, tc_X7 a0 0 ma rf lk pu tl lo, tc_X6 ma x44e_27 mo su x44e_28 x44e_29 ga sl sc fh lh x44e_30 x44e_31 pn e0 e1 e2 e3 e4 e5 a0, tc_Z G e5 10 x44e_26, tc_Jx4a65c lo mc ed (nI n)] ++ tm_L G ed n ad u_34) := hD
      subst u_34
      refine lv_aload_n hx hb dX7_pass_66 rfl (lv_at hl 1 rfl) ?_
      refine lv_iconst (v := 2) hx hb dX7_pass_67 (by decide) ?_
      have hPc := va_P.part (X := [tc_F G e0 3 x44e_21, tc_I G e1 3 x44e_22, tc_I G e2 3 x44e_23, tc_I G e3 3 x44e_24, tc_D G e4 10 x44e_25, tc_X7 a0 0 ma rf lk pu tl lo, tc_X6 ma x44e_27 mo su x44e_28 x44e_29 ga sl sc fh lh x44e_30 x44e_31 pn e0 e1 e2 e3 e4 e5 a0, tc_Z G e5 10 x44e_26, tc_Jx4a65c lo mc ed (nI n)]) (cx := [tc_X7 a0 0 ma rf lk pu tl lo, tc_Jx4a65c lo mc ed (nI n)]) (pl := tm_L G ed n ad (f_X7_settle x44e_26 n rc)) hP [5, 8] rfl
      have hDc := va_D.part (X := [tc_F G e0 3 x44e_21, tc_I G e1 3 x44e_22, tc_I G e2 3 x44e_23, tc_I G e3 3 x44e_24, tc_D G e4 10 x44e_25, tc_X7 a0 0 ma rf lk pu tl lo, tc_X6 ma x44e_27 mo su x44e_28 x44e_29 ga sl sc fh lh x44e_30 x44e_31 pn e0 e1 e2 e3 e4 e5 a0, tc_Z G e5 10 x44e_26, tc_Jx4a65c lo mc ed (nI n)]) (cx := [tc_X7 a0 0 ma rf lk pu tl lo, tc_Jx4a65c lo mc ed (nI n)]) (pl := tm_L G ed n ad (f_X7_settle x44e_26 n rc)) hD [5, 8] (by decide) rfl
      have hFc := va_freeP (X := [tc_F G e0 3 x44e_21, tc_I G e1 3 x44e_22, tc_I G e2 3 x44e_23, tc_I G e3 3 x44e_24, tc_D G e4 10 x44e_25, tc_X7 a0 0 ma rf lk pu tl lo, tc_X6 ma x44e_27 mo su x44e_28 x44e_29 ga sl sc fh lh x44e_30 x44e_31 pn e0 e1 e2 e3 e4 e5 a0, tc_Z G e5 10 x44e_26, tc_Jx4a65c lo mc ed (nI n)]) (cx := [tc_X7 a0 0 ma rf lk pu tl lo, tc_Jx4a65c lo mc ed (nI n)]) (pl := tm_L G ed n ad (f_X7_settle x44e_26 n rc)) hD hS hA [5, 8] rfl
      refine va_calli (va_runV (As := [.int 2]) (rest := []) ⟨hx, hb, hml, hown, hts⟩ (c_X7_count l G a0 ma lo ed H.size 0 rf lk pu tl mc 2 n ad (f_X7_settle x44e_26 n rc) (n_35 c_2 c_3 x44e_20 x44e_21 x44e_22 x44e_23 x44e_24 x44e_25 x44e_26 x44e_27 x44e_28 x44e_29 x44e_30 x44e_31 hw_31)) (cwV 1 hts gX7_pass_X7_count rfl rfl rfl (by decide +kernel) ⟨(Nat.le_of_ble_eq_true rfl), (Nat.le_of_ble_eq_true rfl)⟩) (tm_preV hK hN hV hS hPc hDc hFc (va_recv hK hPc (ci := 8) (q0 := 0) rfl rfl)) rfl rfl hl.1 rfl (lv_room (Nat.le_of_ble_eq_true rfl)) dX7_pass_68 ⟨(Nat.le_of_ble_eq_true rfl), (Nat.le_of_ble_eq_true rfl)⟩) hS (fun q _ h => hFc q h) hFc (fun r_36 u t H locs ht hvm hw_36 hB hz1 hk1 hS => ?_)
      obtain ⟨hP1, hD1⟩ := hB
      rw [ht] at hP1
      try dsimp only at hw_36
      obtain ⟨hP, hD⟩ := va_joinP (X := [tc_F G e0 3 x44e_21, tc_I G e1 3 x44e_22, tc_I G e2 3 x44e_23, tc_I G e3 3 x44e_24, tc_D G e4 10 x44e_25, tc_X7 a0 0 ma rf lk pu tl lo, tc_X6 ma x44e_27 mo su x44e_28 x44e_29 ga sl sc fh lh x44e_30 x44e_31 pn e0 e1 e2 e3 e4 e5 a0, tc_Z G e5 10 x44e_26, tc_Jx4a65c lo mc ed (nI n)]) (cx := [tc_X7 a0 0 ma rf lk pu tl lo, tc_Jx4a65c lo mc ed (nI n)]) (wr := [tc_F G e0 3 x44e_21, tc_I G e1 3 x44e_22, tc_I G e2 3 x44e_23, tc_I G e3 3 x44e_24, tc_D G e4 10 x44e_25, tc_X6 ma x44e_27 mo su x44e_28 x44e_29 ga sl sc fh lh x44e_30 x44e_31 pn e0 e1 e2 e3 e4 e5 a0, tc_Z G e5 10 x44e_26]) (rx := [tc_X7 a0 0 ma rf lk pu tl lo, tc_Jx4a65c lo mc ed (nI n)]) (pl := tm_L G ed n ad (f_X7_settle x44e_26 n rc)) (pl1 := tm_L G ed n ad (f_X7_settle x44e_26 n rc)) hP hD [5, 8] [0, 1, 2, 3, 4, 6, 7] rfl rfl (by decide) (by decide) hk1 hFc hP1 hD1
      have hP : va_P G.1 vwCl ([tc_F G e0 3 x44e_21, tc_I G e1 3 x44e_22, tc_I G e2 3 x44e_23, tc_I G e3 3 x44e_24, tc_D G e4 10 x44e_25, tc_X6 ma x44e_27 mo su x44e_28 x44e_29 ga sl sc fh lh x44e_30 x44e_31 pn e0 e1 e2 e3 e4 e5 a0, tc_Z G e5 10 x44e_26, tc_X7 a0 0 ma rf lk pu tl lo, tc_Jx4a65c lo mc ed (nI n)] ++ tm_L G ed n ad (f_X7_settle x44e_26 n rc)) H := hP
      have hD : va_D A ([tc_F G e0 3 x44e_21, tc_I G e1 3 x44e_22, tc_I G e2 3 x44e_23, tc_I G e3 3 x44e_24, tc_D G e4 10 x44e_25, tc_X6 ma x44e_27 mo su x44e_28 x44e_29 ga sl sc fh lh x44e_30 x44e_31 pn e0 e1 e2 e3 e4 e5 a0, tc_Z G e5 10 x44e_26, tc_X7 a0 0 ma rf lk pu tl lo, tc_Jx4a65c lo mc ed (nI n)] ++ tm_L G ed n ad (f_X7_settle x44e_26 n rc)) := hD
      subst r_36
      have hP9 := va_P.part (X := [tc_F G e0 3 x44e_21, tc_I G e1 3 x44e_22, tc_I G e2 3 x44e_23, tc_I G e3 3 x44e_24, tc_D G e4 10 x44e_25, tc_X6 ma x44e_27 mo su x44e_28 x44e_29 ga sl sc fh lh x44e_30 x44e_31 pn e0 e1 e2 e3 e4 e5 a0, tc_Z G e5 10 x44e_26, tc_X7 a0 0 ma rf lk pu tl lo, tc_Jx4a65c lo mc ed (nI n)]) (cx := [tc_X7 a0 0 ma rf lk pu tl lo, tc_X6 ma x44e_27 mo su x44e_28 x44e_29 ga sl sc fh lh x44e_30 x44e_31 pn e0 e1 e2 e3 e4 e5 a0, tc_F G e0 3 x44e_21, tc_I G e1 3 x44e_22, tc_I G e2 3 x44e_23, tc_I G e3 3 x44e_24, tc_D G e4 10 x44e_25, tc_Z G e5 10 x44e_26, tc_Jx4a65c lo mc ed (nI n)]) (pl := tm_L G ed n ad (f_X7_settle x44e_26 n rc)) hP [7, 5, 0, 1, 2, 3, 4, 6, 8] rfl
      have hD9 := va_D.part (X := [tc_F G e0 3 x44e_21, tc_I G e1 3 x44e_22, tc_I G e2 3 x44e_23, tc_I G e3 3 x44e_24, tc_D G e4 10 x44e_25, tc_X6 ma x44e_27 mo su x44e_28 x44e_29 ga sl sc fh lh x44e_30 x44e_31 pn e0 e1 e2 e3 e4 e5 a0, tc_Z G e5 10 x44e_26, tc_X7 a0 0 ma rf lk pu tl lo, tc_Jx4a65c lo mc ed (nI n)]) (cx := [tc_X7 a0 0 ma rf lk pu tl lo, tc_X6 ma x44e_27 mo su x44e_28 x44e_29 ga sl sc fh lh x44e_30 x44e_31 pn e0 e1 e2 e3 e4 e5 a0, tc_F G e0 3 x44e_21, tc_I G e1 3 x44e_22, tc_I G e2 3 x44e_23, tc_I G e3 3 x44e_24, tc_D G e4 10 x44e_25, tc_Z G e5 10 x44e_26, tc_Jx4a65c lo mc ed (nI n)]) (pl := tm_L G ed n ad (f_X7_settle x44e_26 n rc)) hD [7, 5, 0, 1, 2, 3, 4, 6, 8] (by decide) rfl
      exact W.iret (v := f_X7_count 2 n (f_X7_settle x44e_26 n rc)) hx hb hr (fun t ht hW => ⟨⟨f_X7_count 2 n (f_X7_settle x44e_26 n rc), (f_X7_settle x44e_26 n rc, 0, x44e_27, x44e_28, x44e_29, x44e_30, x44e_31, x44e_21, x44e_22, x44e_23, x44e_24, x44e_25, x44e_26), rfl, by unfold f_X7_pass; all_goals (rw [if_neg c_2]); all_goals (rw [if_pos c_3]); all_goals (rw [← hw_31]); all_goals (dsimp only); all_goals rfl, by rw [ht]; exact hP9, hD9⟩, hS.F ht⟩) hS.2.2 dX7_pass_71
    · refine lv_aload_n hx hb dX7_pass_36 rfl (lv_at hl 0 rfl) ?_
      refine lv_iconst (v := 2) hx hb dX7_pass_37 (by decide) ?_
      have hPc := hP.sub (ws' := [tc_X7 a0 0 ma rf lk pu tl lo]) [0] rfl
      have hDc := hD.sub (ws' := [tc_X7 a0 0 ma rf lk pu tl lo]) [0] (by decide) rfl
      have hFc := va_free (wc := [tc_X7 a0 0 ma rf lk pu tl lo]) hD hS hA [0] rfl
      refine va_calli (va_runV (As := [.int 2]) (rest := []) ⟨hx, hb, hml, hown, hts⟩ (c_X7_no l G a0 ma lo H.size 0 rf lk pu tl 2 ) (cwV 1 hts gX7_pass_X7_no rfl rfl rfl (by decide +kernel) ⟨(Nat.le_of_ble_eq_true rfl), (Nat.le_of_ble_eq_true rfl)⟩) (tm_preV hK hN hV hS hPc hDc hFc (va_recv hK hPc (ci := 8) (q0 := 0) rfl rfl)) rfl rfl hl.1 rfl (lv_room (Nat.le_of_ble_eq_true rfl)) dX7_pass_38 ⟨(Nat.le_of_ble_eq_true rfl), (Nat.le_of_ble_eq_true rfl)⟩) hS (fun q _ h => hFc q h) hFc (fun r_37 u t H locs ht hvm hw_37 hB hz1 hk1 hS => ?_)
      obtain ⟨u_38, rfl⟩ : ∃ z, z = u := ⟨_, rfl⟩
      obtain ⟨hP1, hD1⟩ := hB
      rw [ht] at hP1
      try dsimp only at hw_37
      obtain ⟨hP, hD⟩ := va_joinQ (X := [tc_X7 a0 0 ma rf lk pu tl lo, tc_X6 ma tk mo su lv si ga sl sc fh lh fo ee pn e0 e1 e2 e3 e4 e5 a0, tc_F G e0 3 dl, tc_I G e1 3 pl, tc_I G e2 3 dr, tc_I G e3 3 sp, tc_D G e4 10 le, tc_Z G e5 10 dn, tc_Jx4a65c lo mc ed (nI n)]) (cx := [tc_X7 a0 0 ma rf lk pu tl lo]) (wr := [tc_X6 ma tk mo su lv si ga sl sc fh lh fo ee pn e0 e1 e2 e3 e4 e5 a0, tc_F G e0 3 dl, tc_I G e1 3 pl, tc_I G e2 3 dr, tc_I G e3 3 sp, tc_D G e4 10 le, tc_Z G e5 10 dn, tc_Jx4a65c lo mc ed (nI n)]) (w1 := [tc_X7 a0 u_38 ma rf lk pu tl lo]) (pl := tm_L G ed n ad rc) hP hD [0] [1, 2, 3, 4, 5, 6, 7, 8] rfl rfl (by decide) (by decide) hk1 hFc hP1 hD1
      have hP : va_P G.1 vwCl ([tc_X6 ma tk mo su lv si ga sl sc fh lh fo ee pn e0 e1 e2 e3 e4 e5 a0, tc_F G e0 3 dl, tc_I G e1 3 pl, tc_I G e2 3 dr, tc_I G e3 3 sp, tc_D G e4 10 le, tc_Z G e5 10 dn, tc_Jx4a65c lo mc ed (nI n), tc_X7 a0 u_38 ma rf lk pu tl lo] ++ tm_L G ed n ad rc) H := hP
      have hD : va_D A ([tc_X6 ma tk mo su lv si ga sl sc fh lh fo ee pn e0 e1 e2 e3 e4 e5 a0, tc_F G e0 3 dl, tc_I G e1 3 pl, tc_I G e2 3 dr, tc_I G e3 3 sp, tc_D G e4 10 le, tc_Z G e5 10 dn, tc_Jx4a65c lo mc ed (nI n), tc_X7 a0 u_38 ma rf lk pu tl lo] ++ tm_L G ed n ad rc) := hD
      have hP9 := va_P.part (X := [tc_X6 ma tk mo su lv si ga sl sc fh lh fo ee pn e0 e1 e2 e3 e4 e5 a0, tc_F G e0 3 dl, tc_I G e1 3 pl, tc_I G e2 3 dr, tc_I G e3 3 sp, tc_D G e4 10 le, tc_Z G e5 10 dn, tc_Jx4a65c lo mc ed (nI n), tc_X7 a0 u_38 ma rf lk pu tl lo]) (cx := [tc_X7 a0 u_38 ma rf lk pu tl lo, tc_X6 ma tk mo su lv si ga sl sc fh lh fo ee pn e0 e1 e2 e3 e4 e5 a0, tc_F G e0 3 dl, tc_I G e1 3 pl, tc_I G e2 3 dr, tc_I G e3 3 sp, tc_D G e4 10 le, tc_Z G e5 10 dn, tc_Jx4a65c lo mc ed (nI n)]) (pl := tm_L G ed n ad rc) hP [8, 0, 1, 2, 3, 4, 5, 6, 7] rfl
      have hD9 := va_D.part (X := [tc_X6 ma tk mo su lv si ga sl sc fh lh fo ee pn e0 e1 e2 e3 e4 e5 a0, tc_F G e0 3 dl, tc_I G e1 3 pl, tc_I G e2 3 dr, tc_I G e3 3 sp, tc_D G e4 10 le, tc_Z G e5 10 dn, tc_Jx4a65c lo mc ed (nI n), tc_X7 a0 u_38 ma rf lk pu tl lo]) (cx := [tc_X7 a0 u_38 ma rf lk pu tl lo, tc_X6 ma tk mo su lv si ga sl sc fh lh fo ee pn e0 e1 e2 e3 e4 e5 a0, tc_F G e0 3 dl, tc_I G e1 3 pl, tc_I G e2 3 dr, tc_I G e3 3 sp, tc_D G e4 10 le, tc_Z G e5 10 dn, tc_Jx4a65c lo mc ed (nI n)]) (pl := tm_L G ed n ad rc) hD [8, 0, 1, 2, 3, 4, 5, 6, 7] (by decide) rfl
      exact W.iret (v := r_37) hx hb hr (fun t ht hW => ⟨⟨r_37, (rc, u_38, tk, lv, si, fo, ee, dl, pl, dr, sp, le, dn), rfl, by unfold f_X7_pass; all_goals (rw [if_neg c_2]); all_goals (rw [if_neg c_3]); all_goals (rw [← hw_37]); all_goals (dsimp only); all_goals rfl, by rw [ht]; exact hP9, hD9⟩, hS.F ht⟩) hS.2.2 dX7_pass_41
  · refine lv_aload_n hx hb dX7_pass_15 rfl (lv_at hl 0 rfl) ?_
    refine lv_iconst (v := 1) hx hb dX7_pass_16 (by decide) ?_
    have hPc := hP.sub (ws' := [tc_X7 a0 0 ma rf lk pu tl lo]) [0] rfl
    have hDc := hD.sub (ws' := [tc_X7 a0 0 ma rf lk pu tl lo]) [0] (by decide) rfl
    have hFc := va_free (wc := [tc_X7 a0 0 ma rf lk pu tl lo]) hD hS hA [0] rfl
    refine va_calli (va_runV (As := [.int 1]) (rest := []) ⟨hx, hb, hml, hown, hts⟩ (c_X7_no l G a0 ma lo H.size 0 rf lk pu tl 1 ) (cwV 1 hts gX7_pass_X7_no rfl rfl rfl (by decide +kernel) ⟨(Nat.le_of_ble_eq_true rfl), (Nat.le_of_ble_eq_true rfl)⟩) (tm_preV hK hN hV hS hPc hDc hFc (va_recv hK hPc (ci := 8) (q0 := 0) rfl rfl)) rfl rfl hl.1 rfl (lv_room (Nat.le_of_ble_eq_true rfl)) dX7_pass_17 ⟨(Nat.le_of_ble_eq_true rfl), (Nat.le_of_ble_eq_true rfl)⟩) hS (fun q _ h => hFc q h) hFc (fun r_39 u t H locs ht hvm hw_39 hB hz1 hk1 hS => ?_)
    obtain ⟨u_40, rfl⟩ : ∃ z, z = u := ⟨_, rfl⟩
    obtain ⟨hP1, hD1⟩ := hB
    rw [ht] at hP1
    try dsimp only at hw_39
    obtain ⟨hP, hD⟩ := va_joinQ (X := [tc_X7 a0 0 ma rf lk pu tl lo, tc_X6 ma tk mo su lv si ga sl sc fh lh fo ee pn e0 e1 e2 e3 e4 e5 a0, tc_F G e0 3 dl, tc_I G e1 3 pl, tc_I G e2 3 dr, tc_I G e3 3 sp, tc_D G e4 10 le, tc_Z G e5 10 dn, tc_Jx4a65c lo mc ed (nI n)]) (cx := [tc_X7 a0 0 ma rf lk pu tl lo]) (wr := [tc_X6 ma tk mo su lv si ga sl sc fh lh fo ee pn e0 e1 e2 e3 e4 e5 a0, tc_F G e0 3 dl, tc_I G e1 3 pl, tc_I G e2 3 dr, tc_I G e3 3 sp, tc_D G e4 10 le, tc_Z G e5 10 dn, tc_Jx4a65c lo mc ed (nI n)]) (w1 := [tc_X7 a0 u_40 ma rf lk pu tl lo]) (pl := tm_L G ed n ad rc) hP hD [0] [1, 2, 3, 4, 5, 6, 7, 8] rfl rfl (by decide) (by decide) hk1 hFc hP1 hD1
    have hP : va_P G.1 vwCl ([tc_X6 ma tk mo su lv si ga sl sc fh lh fo ee pn e0 e1 e2 e3 e4 e5 a0, tc_F G e0 3 dl, tc_I G e1 3 pl, tc_I G e2 3 dr, tc_I G e3 3 sp, tc_D G e4 10 le, tc_Z G e5 10 dn, tc_Jx4a65c lo mc ed (nI n), tc_X7 a0 u_40 ma rf lk pu tl lo] ++ tm_L G ed n ad rc) H := hP
    have hD : va_D A ([tc_X6 ma tk mo su lv si ga sl sc fh lh fo ee pn e0 e1 e2 e3 e4 e5 a0, tc_F G e0 3 dl, tc_I G e1 3 pl, tc_I G e2 3 dr, tc_I G e3 3 sp, tc_D G e4 10 le, tc_Z G e5 10 dn, tc_Jx4a65c lo mc ed (nI n), tc_X7 a0 u_40 ma rf lk pu tl lo] ++ tm_L G ed n ad rc) := hD
    have hP9 := va_P.part (X := [tc_X6 ma tk mo su lv si ga sl sc fh lh fo ee pn e0 e1 e2 e3 e4 e5 a0, tc_F G e0 3 dl, tc_I G e1 3 pl, tc_I G e2 3 dr, tc_I G e3 3 sp, tc_D G e4 10 le, tc_Z G e5 10 dn, tc_Jx4a65c lo mc ed (nI n), tc_X7 a0 u_40 ma rf lk pu tl lo]) (cx := [tc_X7 a0 u_40 ma rf lk pu tl lo, tc_X6 ma tk mo su lv si ga sl sc fh lh fo ee pn e0 e1 e2 e3 e4 e5 a0, tc_F G e0 3 dl, tc_I G e1 3 pl, tc_I G e2 3 dr, tc_I G e3 3 sp, tc_D G e4 10 le, tc_Z G e5 10 dn, tc_Jx4a65c lo mc ed (nI n)]) (pl := tm_L G ed n ad rc) hP [8, 0, 1, 2, 3, 4, 5, 6, 7] rfl
    have hD9 := va_D.part (X := [tc_X6 ma tk mo su lv si ga sl sc fh lh fo ee pn e0 e1 e2 e3 e4 e5 a0, tc_F G e0 3 dl, tc_I G e1 3 pl, tc_I G e2 3 dr, tc_I G e3 3 sp, tc_D G e4 10 le, tc_Z G e5 10 dn, tc_Jx4a65c lo mc ed (nI n), tc_X7 a0 u_40 ma rf lk pu tl lo]) (cx := [tc_X7 a0 u_40 ma rf lk pu tl lo, tc_X6 ma tk mo su lv si ga sl sc fh lh fo ee pn e0 e1 e2 e3 e4 e5 a0, tc_F G e0 3 dl, tc_I G e1 3 pl, tc_I G e2 3 dr, tc_I G e3 3 sp, tc_D G e4 10 le, tc_Z G e5 10 dn, tc_Jx4a65c lo mc ed (nI n)]) (pl := tm_L G ed n ad rc) hD [8, 0, 1, 2, 3, 4, 5, 6, 7] (by decide) rfl
    exact W.iret (v := r_39) hx hb hr (fun t ht hW => ⟨⟨r_39, (rc, u_40, tk, lv, si, fo, ee, dl, pl, dr, sp, le, dn), rfl, by unfold f_X7_pass; all_goals (rw [if_pos c_2]); all_goals (rw [← hw_39]); all_goals (dsimp only); all_goals rfl, by rw [ht]; exact hP9, hD9⟩, hS.F ht⟩) hS.2.2 dX7_pass_20
set_option maxHeartbeats 4000000 in
set_option maxRecDepth 100000 in
theorem c_X7_sea (l : Launch) (G : tm_G) (a0 : Nat) (ma : Nat) (lo : Nat) (e0 : Nat) (e1 : Nat) (e2 : Nat) (e3 : Nat) (e4 : Nat) (e5 : Nat) (sz : Nat) (th : Int32) (rf : Int32) (lk : Int32) (pu : Int32) (tl : UInt64) (tk : Int32) (mo : Int32) (su : UInt64) (lv : UInt64) (si : UInt32) (ga : Int32) (sl : Int32) (sc : Int32) (fh : Int32) (lh : Int32) (fo : UInt64) (ee : Int32) (pn : Int32) (p1 : Int32) (hn : n_X7_sea tk mo su p1) : Met l yX7_sea wsX7_sea ({ frames := 4, cells := 0, slots := 0, locals := 94 }) (va_Pc [.ref a0, .int p1] (tm_B G [tc_X7 a0 th ma rf lk pu tl lo, tc_X6 ma tk mo su lv si ga sl sc fh lh fo ee pn e0 e1 e2 e3 e4 e5 a0] sz)) (va_Qd (fun (r : UInt64) (u : Int32) => (r, u) = f_X7_sea tk mo su p1) (fun (u : Int32) (t : State) => va_P G.1 vwCl [tc_X7 a0 u ma rf lk pu tl lo, tc_X6 ma tk mo su lv si ga sl sc fh lh fo ee pn e0 e1 e2 e3 e4 e5 a0] t.heap ∧ va_D (va_A [tc_X7 a0 th ma rf lk pu tl lo, tc_X6 ma tk mo su lv si ga sl sc fh lh fo ee pn e0 e1 e2 e3 e4 e5 a0] sz) [tc_X7 a0 u ma rf lk pu tl lo, tc_X6 ma tk mo su lv si ga sl sc fh lh fo ee pn e0 e1 e2 e3 e4 e5 a0]) (va_A [tc_X7 a0 th ma rf lk pu tl lo, tc_X6 ma tk mo su lv si ga sl sc fh lh fo ee pn e0 e1 e2 e3 e4 e5 a0] sz)) 0 0 (va_A [tc_X7 a0 th ma rf lk pu tl lo, tc_X6 ma tk mo su lv si ga sl sc fh lh fo ee pn e0 e1 e2 e3 e4 e5 a0] sz) := by
  refine Met.ofW (cc := cX7_sea) (maxL := 2) (ret := (some .double)) (by decide) rfl ?_
  intro p e s m args below meth c s₁ B hml hv
  obtain ⟨rfl, hsz, hP, hK, hD0, hN, hV⟩ := hv
  have hx := B.exec
  have hb := B.bytes
  have hr := B.returns
  have hts := atoms_spec (ws := wsX7_sea) B.pre
  have hown : s.vm.findClass RX7 = some m.cls := findClass_of_methodNamed B.named
  have hlocks := B.notSynchronized
  subst hsz
  have n_3 := hn
  unfold n_X7_sea at n_3
  have hiX6 : ∀ w ∈ u_ws RX6 TX6 20, w ∈ wsX7_sea := fun _ h => List.mem_cons_of_mem _ (List.mem_append_right _ h)
  have hiX7 : ∀ w ∈ u_ws RX7 TX7 7, w ∈ wsX7_sea := fun _ h => List.mem_cons_of_mem _ (List.mem_append_left _ (List.mem_append_right _ h))
  have hD := hD0.self (sz := s.heap.size)
  generalize hAe : va_A [tc_X7 a0 th ma rf lk pu tl lo, tc_X6 ma tk mo su lv si ga sl sc fh lh fo ee pn e0 e1 e2 e3 e4 e5 a0] s.heap.size = A at hD hV ⊢
  have hA : ∀ q : Nat, s.heap.size ≤ q → A q := fun q h => by rw [← hAe]; exact Or.inr h
  have hS : va_S A s.heap s.heap [] := va_S.rf
  have hl := lv_entry ([.ref a0, .int p1]) (n := 2) (Nat.le_of_ble_eq_true rfl)
  rw [lg_entry_eq]
  generalize (lg_sl ([.ref a0, .int p1]) ++ List.replicate (2 - (lg_sl ([.ref a0, .int p1])).length) Slot.unset).toArray = ls at hl ⊢
  have hl : lv_has ls 2 [(0, .ref a0), (1, .int p1)] := hl
  refine lv_aload_n hx hb dX7_sea_0 rfl (lv_at hl 0 rfl) ?_
  refine lv_iconst (v := 0) hx hb dX7_sea_1 (by decide) ?_
  refine va_put (D := G.1) (ci := 8) (v := .int 0) (ty := .int) (C := RX7) (T := TX7) (N := 7) hx hb hts hiX7 tyX7 tyX7_ok nmX7 hown hK hP hD hS 0 rfl rfl 0 (by decide) (hts (.fieldLink RX7 25 "TideMillModel" "thrown" "I") (List.mem_of_getElem? (i := 1) rfl)) (fun _ h9 => h9) rfl (by decide +kernel) rfl rfl (Nat.le_of_ble_eq_true rfl) dX7_sea_2 (fun H locs hP hD hS => ?_)
  have hP : va_P G.1 vwCl [tc_X7 a0 0 ma rf lk pu tl lo, tc_X6 ma tk mo su lv si ga sl sc fh lh fo ee pn e0 e1 e2 e3 e4 e5 a0] H := hP
  have hD : va_D A [tc_X7 a0 0 ma rf lk pu tl lo, tc_X6 ma tk mo su lv si ga sl sc fh lh fo ee pn e0 e1 e2 e3 e4 e5 a0] := hD
  refine lv_iload_n hx hb dX7_sea_5 rfl (lv_at hl 1 rfl) ?_
  refine lv_iconst (v := 0) hx hb dX7_sea_6 (by decide) ?_
  refine lv_sipush (v := 1000) hx hb dX7_sea_7 (by decide) ?_
  have hPc := hP.sub (ws' := []) [] rfl
  have hDc := hD.sub (ws' := []) [] (by decide) rfl
  have hFc := va_free (wc := []) hD hS hA [] rfl
  refine va_calli (va_runS (As := [.int p1, .int 0, .int 1000]) (rest := []) ⟨hx, hb, hml, hown, hts⟩ (c_X7_in l G  H.size p1 0 1000 ) (cwS 3 hts gX7_sea_X7_in rfl rfl rfl (by decide +kernel) ⟨(Nat.le_of_ble_eq_true rfl), (Nat.le_of_ble_eq_true rfl)⟩) (tm_preS hK hN hV hS hPc hDc hFc) rfl rfl hl.1 rfl (lv_room (Nat.le_of_ble_eq_true rfl)) dX7_sea_10 ⟨(Nat.le_of_ble_eq_true rfl), (Nat.le_of_ble_eq_true rfl)⟩) hS (fun q _ h => hFc q h) hFc (fun r_1 u t H locs ht hvm hw_1 hB hz1 hk1 hS => ?_)
  obtain ⟨hP1, hD1⟩ := hB
  rw [ht] at hP1
  try dsimp only at hw_1
  obtain ⟨hP, hD⟩ := va_join (wr := [tc_X7 a0 0 ma rf lk pu tl lo, tc_X6 ma tk mo su lv si ga sl sc fh lh fo ee pn e0 e1 e2 e3 e4 e5 a0]) (w1 := []) hP hD [] [0, 1] rfl rfl (by decide) (by decide) hk1 hFc hP1 hD1
  have hP : va_P G.1 vwCl [tc_X7 a0 0 ma rf lk pu tl lo, tc_X6 ma tk mo su lv si ga sl sc fh lh fo ee pn e0 e1 e2 e3 e4 e5 a0] H := hP
  have hD : va_D A [tc_X7 a0 0 ma rf lk pu tl lo, tc_X6 ma tk mo su lv si ga sl sc fh lh fo ee pn e0 e1 e2 e3 e4 e5 a0] := hD
  subst r_1
  refine lv_if_ne (tgt := 23) hx hb dX7_sea_13 (by decide) (fun c_2 => ?_) (fun c_2 => ?_)
  · refine lv_aload_n hx hb dX7_sea_23 rfl (lv_at hl 0 rfl) ?_
    refine va_get (D := G.1) (ci := 8) (v := .ref ma) (C := RX7) (T := TX7) (N := 7) hx hb hts hiX7 hown hK hP 0 rfl rfl 1 (by decide) (hts (.fieldLink RX7 12 "TideMillModel" "mill" "LTideMillModel$Mill;") (List.mem_of_getElem? (i := 2) rfl)) (fun _ h9 => h9) rfl dX7_sea_24 ?_
    refine lv_aload_n hx hb dX7_sea_27 rfl (lv_at hl 0 rfl) ?_
    refine va_get (D := G.1) (ci := 8) (v := .ref ma) (C := RX7) (T := TX7) (N := 7) hx hb hts hiX7 hown hK hP 0 rfl rfl 1 (by decide) (hts (.fieldLink RX7 12 "TideMillModel" "mill" "LTideMillModel$Mill;") (List.mem_of_getElem? (i := 2) rfl)) (fun _ h9 => h9) rfl dX7_sea_28 ?_
    refine va_get (D := G.1) (ci := 7) (v := .int tk) (C := RX6) (T := TX6) (N := 20) hx hb hts hiX6 hown hK hP 1 rfl rfl 0 (by decide) (hts (.fieldLink RX7 59 "TideMillModel$Mill" "tick" "I") (List.mem_of_getElem? (i := 3) rfl)) (fun _ h9 => h9) rfl dX7_sea_31 ?_
    refine lv_iload_n hx hb dX7_sea_34 rfl (lv_at hl 1 rfl) ?_
    refine lv_iadd hx hb dX7_sea_35 ?_
    have hPc := hP.sub (ws' := [tc_X6 ma tk mo su lv si ga sl sc fh lh fo ee pn e0 e1 e2 e3 e4 e5 a0]) [1] rfl
    have hDc := hD.sub (ws' := [tc_X6 ma tk mo su lv si ga sl sc fh lh fo ee pn e0 e1 e2 e3 e4 e5 a0]) [1] (by decide) rfl
    have hFc := va_free (wc := [tc_X6 ma tk mo su lv si ga sl sc fh lh fo ee pn e0 e1 e2 e3 e4 e5 a0]) hD hS hA [1] rfl
    refine va_calld (va_runV (As := [.int (tk + p1)]) (rest := []) ⟨hx, hb, hml, hown, hts⟩ (c_X6_sea l G ma e0 e1 e2 e3 e4 e5 a0 H.size tk mo su lv si ga sl sc fh lh fo ee pn (tk + p1) (n_3 c_2)) (cwV 1 hts gX7_sea_X6_sea rfl rfl rfl (by decide +kernel) ⟨(Nat.le_of_ble_eq_true rfl), (Nat.le_of_ble_eq_true rfl)⟩) (tm_preV hK hN hV hS hPc hDc hFc (va_recv hK hPc (ci := 7) (q0 := 0) rfl rfl)) rfl rfl hl.1 rfl (lv_room (Nat.le_of_ble_eq_true rfl)) dX7_sea_36 ⟨(Nat.le_of_ble_eq_true rfl), (Nat.le_of_ble_eq_true rfl)⟩) hS (fun q _ h => hFc q h) hFc (fun r_4 u t H locs ht hvm hw_4 hB hz1 hk1 hS => ?_)
    obtain ⟨hP1, hD1⟩ := hB
    rw [ht] at hP1
    try dsimp only at hw_4
    obtain ⟨hP, hD⟩ := va_join (wr := [tc_X7 a0 0 ma rf lk pu tl lo]) (w1 := [tc_X6 ma tk mo su lv si ga sl sc fh lh fo ee pn e0 e1 e2 e3 e4 e5 a0]) hP hD [1] [0] rfl rfl (by decide) (by decide) hk1 hFc hP1 hD1
    have hP : va_P G.1 vwCl [tc_X7 a0 0 ma rf lk pu tl lo, tc_X6 ma tk mo su lv si ga sl sc fh lh fo ee pn e0 e1 e2 e3 e4 e5 a0] H := hP
    have hD : va_D A [tc_X7 a0 0 ma rf lk pu tl lo, tc_X6 ma tk mo su lv si ga sl sc fh lh fo ee pn e0 e1 e2 e3 e4 e5 a0] := hD
    subst r_4
    have hP9 := hP.sub (ws' := [tc_X7 a0 0 ma rf lk pu tl lo, tc_X6 ma tk mo su lv si ga sl sc fh lh fo ee pn e0 e1 e2 e3 e4 e5 a0]) [0, 1] rfl
    have hD9 := hD.sub (ws' := [tc_X7 a0 0 ma rf lk pu tl lo, tc_X6 ma tk mo su lv si ga sl sc fh lh fo ee pn e0 e1 e2 e3 e4 e5 a0]) [0, 1] (by decide) rfl
    exact W.dret (v := f_X6_sea mo su (tk + p1)) hx hb hr (fun t ht hW => ⟨⟨f_X6_sea mo su (tk + p1), (0), rfl, by unfold f_X7_sea; all_goals (rw [if_neg c_2]); all_goals rfl, by rw [ht]; exact hP9, hD9⟩, hS.F ht⟩) hS.2.2 dX7_sea_39
  · refine lv_aload_n hx hb dX7_sea_16 rfl (lv_at hl 0 rfl) ?_
    refine lv_iconst (v := 1) hx hb dX7_sea_17 (by decide) ?_
    have hPc := hP.sub (ws' := [tc_X7 a0 0 ma rf lk pu tl lo]) [0] rfl
    have hDc := hD.sub (ws' := [tc_X7 a0 0 ma rf lk pu tl lo]) [0] (by decide) rfl
    have hFc := va_free (wc := [tc_X7 a0 0 ma rf lk pu tl lo]) hD hS hA [0] rfl
    refine va_calli (va_runV (As := [.int 1]) (rest := []) ⟨hx, hb, hml, hown, hts⟩ (c_X7_no l G a0 ma lo H.size 0 rf lk pu tl 1 ) (cwV 1 hts gX7_sea_X7_no rfl rfl rfl (by decide +kernel) ⟨(Nat.le_of_ble_eq_true rfl), (Nat.le_of_ble_eq_true rfl)⟩) (tm_preV hK hN hV hS hPc hDc hFc (va_recv hK hPc (ci := 8) (q0 := 0) rfl rfl)) rfl rfl hl.1 rfl (lv_room (Nat.le_of_ble_eq_true rfl)) dX7_sea_18 ⟨(Nat.le_of_ble_eq_true rfl), (Nat.le_of_ble_eq_true rfl)⟩) hS (fun q _ h => hFc q h) hFc (fun r_5 u t H locs ht hvm hw_5 hB hz1 hk1 hS => ?_)
    obtain ⟨u_6, rfl⟩ : ∃ z, z = u := ⟨_, rfl⟩
    obtain ⟨hP1, hD1⟩ := hB
    rw [ht] at hP1
    try dsimp only at hw_5
    obtain ⟨hP, hD⟩ := va_join (wr := [tc_X6 ma tk mo su lv si ga sl sc fh lh fo ee pn e0 e1 e2 e3 e4 e5 a0]) (w1 := [tc_X7 a0 u_6 ma rf lk pu tl lo]) hP hD [0] [1] rfl rfl (by decide) (by decide) hk1 hFc hP1 hD1
    have hP : va_P G.1 vwCl [tc_X6 ma tk mo su lv si ga sl sc fh lh fo ee pn e0 e1 e2 e3 e4 e5 a0, tc_X7 a0 u_6 ma rf lk pu tl lo] H := hP
    have hD : va_D A [tc_X6 ma tk mo su lv si ga sl sc fh lh fo ee pn e0 e1 e2 e3 e4 e5 a0, tc_X7 a0 u_6 ma rf lk pu tl lo] := hD
    refine lv_i2d hx hb dX7_sea_21 ?_
    have hP9 := hP.sub (ws' := [tc_X7 a0 u_6 ma rf lk pu tl lo, tc_X6 ma tk mo su lv si ga sl sc fh lh fo ee pn e0 e1 e2 e3 e4 e5 a0]) [1, 0] rfl
    have hD9 := hD.sub (ws' := [tc_X7 a0 u_6 ma rf lk pu tl lo, tc_X6 ma tk mo su lv si ga sl sc fh lh fo ee pn e0 e1 e2 e3 e4 e5 a0]) [1, 0] (by decide) rfl
    exact W.dret (v := FP.i2d r_5) hx hb hr (fun t ht hW => ⟨⟨FP.i2d r_5, (u_6), rfl, by unfold f_X7_sea; all_goals (rw [if_pos c_2]); all_goals (rw [← hw_5]); all_goals (dsimp only); all_goals rfl, by rw [ht]; exact hP9, hD9⟩, hS.F ht⟩) hS.2.2 dX7_sea_22
set_option maxHeartbeats 4000000 in
set_option maxRecDepth 100000 in
theorem c_X7_pondNow (l : Launch) (G : tm_G) (a0 : Nat) (ma : Nat) (lo : Nat) (e0 : Nat) (e1 : Nat) (e2 : Nat) (e3 : Nat) (e4 : Nat) (e5 : Nat) (sz : Nat) (th : Int32) (rf : Int32) (lk : Int32) (pu : Int32) (tl : UInt64) (tk : Int32) (mo : Int32) (su : UInt64) (lv : UInt64) (si : UInt32) (ga : Int32) (sl : Int32) (sc : Int32) (fh : Int32) (lh : Int32) (fo : UInt64) (ee : Int32) (pn : Int32) (p1 : Int32) (hn : n_X7_pondNow tk mo si p1) : Met l yX7_pondNow wsX7_pondNow ({ frames := 3, cells := 0, slots := 0, locals := 67 }) (va_Pc [.ref a0, .int p1] (tm_B G [tc_X7 a0 th ma rf lk pu tl lo, tc_X6 ma tk mo su lv si ga sl sc fh lh fo ee pn e0 e1 e2 e3 e4 e5 a0] sz)) (va_Qd (fun (r : UInt64) (u : Unit) => r = f_X7_pondNow tl tk mo lv si fo p1) (fun (u : Unit) (t : State) => va_P G.1 vwCl [tc_X7 a0 th ma rf lk pu tl lo, tc_X6 ma tk mo su lv si ga sl sc fh lh fo ee pn e0 e1 e2 e3 e4 e5 a0] t.heap ∧ va_D (va_A [tc_X7 a0 th ma rf lk pu tl lo, tc_X6 ma tk mo su lv si ga sl sc fh lh fo ee pn e0 e1 e2 e3 e4 e5 a0] sz) [tc_X7 a0 th ma rf lk pu tl lo, tc_X6 ma tk mo su lv si ga sl sc fh lh fo ee pn e0 e1 e2 e3 e4 e5 a0]) (va_A [tc_X7 a0 th ma rf lk pu tl lo, tc_X6 ma tk mo su lv si ga sl sc fh lh fo ee pn e0 e1 e2 e3 e4 e5 a0] sz)) 0 0 (va_A [tc_X7 a0 th ma rf lk pu tl lo, tc_X6 ma tk mo su lv si ga sl sc fh lh fo ee pn e0 e1 e2 e3 e4 e5 a0] sz) := by
  refine Met.ofW (cc := cX7_pondNow) (maxL := 2) (ret := (some .double)) (by decide) rfl ?_
  intro p e s m args below meth c s₁ B hml hv
  obtain ⟨rfl, hsz, hP, hK, hD0, hN, hV⟩ := hv
  have hx := B.exec
  have hb := B.bytes
  have hr := B.returns
  have hts := atoms_spec (ws := wsX7_pondNow) B.pre
  have hown : s.vm.findClass RX7 = some m.cls := findClass_of_methodNamed B.named
  have hlocks := B.notSynchronized
  subst hsz
  obtain ⟨n_3, n_5, n_9⟩ := hn
  have hiX6 : ∀ w ∈ u_ws RX6 TX6 20, w ∈ wsX7_pondNow := fun _ h => List.mem_cons_of_mem _ (List.mem_append_right _ h)
  have hiX7 : ∀ w ∈ u_ws RX7 TX7 7, w ∈ wsX7_pondNow := fun _ h => List.mem_cons_of_mem _ (List.mem_append_left _ (List.mem_append_right _ h))
  have hD := hD0.self (sz := s.heap.size)
  generalize hAe : va_A [tc_X7 a0 th ma rf lk pu tl lo, tc_X6 ma tk mo su lv si ga sl sc fh lh fo ee pn e0 e1 e2 e3 e4 e5 a0] s.heap.size = A at hD hV ⊢
  have hA : ∀ q : Nat, s.heap.size ≤ q → A q := fun q h => by rw [← hAe]; exact Or.inr h
  have hS : va_S A s.heap s.heap [] := va_S.rf
  have hl := lv_entry ([.ref a0, .int p1]) (n := 2) (Nat.le_of_ble_eq_true rfl)
  rw [lg_entry_eq]
  generalize (lg_sl ([.ref a0, .int p1]) ++ List.replicate (2 - (lg_sl ([.ref a0, .int p1])).length) Slot.unset).toArray = ls at hl ⊢
  have hl : lv_has ls 2 [(0, .ref a0), (1, .int p1)] := hl
  refine lv_iload_n hx hb dX7_pondNow_0 rfl (lv_at hl 1 rfl) ?_
  by_cases c_1 : p1 = 0
  · refine lv_tableIn (off := 35) (tgt := 36) hx hb dX7_pondNow_1 (by rw [c_1]; decide) (by rw [c_1]; decide) (by rw [c_1]; rfl) (by decide) ?_
    refine lv_aload_n hx hb dX7_pondNow_36 rfl (lv_at hl 0 rfl) ?_
    refine va_get (D := G.1) (ci := 8) (v := .ref ma) (C := RX7) (T := TX7) (N := 7) hx hb hts hiX7 hown hK hP 0 rfl rfl 1 (by decide) (hts (.fieldLink RX7 12 "TideMillModel" "mill" "LTideMillModel$Mill;") (List.mem_of_getElem? (i := 1) rfl)) (fun _ h9 => h9) rfl dX7_pondNow_37 ?_
    refine va_get (D := G.1) (ci := 7) (v := .double lv) (C := RX6) (T := TX6) (N := 20) hx hb hts hiX6 hown hK hP 1 rfl rfl 3 (by decide) (hts (.fieldLink RX7 154 "TideMillModel$Mill" "level" "D") (List.mem_of_getElem? (i := 2) rfl)) (fun _ h9 => h9) rfl dX7_pondNow_40 ?_
    have hP9 := hP.sub (ws' := [tc_X7 a0 th ma rf lk pu tl lo, tc_X6 ma tk mo su lv si ga sl sc fh lh fo ee pn e0 e1 e2 e3 e4 e5 a0]) [0, 1] rfl
    have hD9 := hD.sub (ws' := [tc_X7 a0 th ma rf lk pu tl lo, tc_X6 ma tk mo su lv si ga sl sc fh lh fo ee pn e0 e1 e2 e3 e4 e5 a0]) [0, 1] (by decide) rfl
    exact W.dret (v := lv) hx hb hr (fun t ht hW => ⟨⟨lv, (), rfl, by unfold f_X7_pondNow; all_goals (rw [if_pos c_1]); all_goals rfl, by rw [ht]; exact hP9, hD9⟩, hS.F ht⟩) hS.2.2 dX7_pondNow_43
  · by_cases c_2 : p1 = 1
    · refine lv_tableIn (off := 43) (tgt := 44) hx hb dX7_pondNow_1 (by rw [c_2]; decide) (by rw [c_2]; decide) (by rw [c_2]; rfl) (by decide) ?_
      refine lv_aload_n hx hb dX7_pondNow_44 rfl (lv_at hl 0 rfl) ?_
      refine va_get (D := G.1) (ci := 8) (v := .ref ma) (C := RX7) (T := TX7) (N := 7) hx hb hts hiX7 hown hK hP 0 rfl rfl 1 (by decide) (hts (.fieldLink RX7 12 "TideMillModel" "mill" "LTideMillModel$Mill;") (List.mem_of_getElem? (i := 1) rfl)) (fun _ h9 => h9) rfl dX7_pondNow_45 ?_
      refine va_get (D := G.1) (ci := 7) (v := .float si) (C := RX6) (T := TX6) (N := 20) hx hb hts hiX6 hown hK hP 1 rfl rfl 4 (by decide) (hts (.fieldLink RX7 157 "TideMillModel$Mill" "silt" "F") (List.mem_of_getElem? (i := 3) rfl)) (fun _ h9 => h9) rfl dX7_pondNow_48 ?_
      refine lv_f2d hx hb dX7_pondNow_51 (n_3 c_1 c_2) ?_
      have hP9 := hP.sub (ws' := [tc_X7 a0 th ma rf lk pu tl lo, tc_X6 ma tk mo su lv si ga sl sc fh lh fo ee pn e0 e1 e2 e3 e4 e5 a0]) [0, 1] rfl
      have hD9 := hD.sub (ws' := [tc_X7 a0 th ma rf lk pu tl lo, tc_X6 ma tk mo su lv si ga sl sc fh lh fo ee pn e0 e1 e2 e3 e4 e5 a0]) [0, 1] (by decide) rfl
      exact W.dret (v := FP.f2d si) hx hb hr (fun t ht hW => ⟨⟨FP.f2d si, (), rfl, by unfold f_X7_pondNow; all_goals (rw [if_neg c_1]); all_goals (rw [if_pos c_2]); all_goals rfl, by rw [ht]; exact hP9, hD9⟩, hS.F ht⟩) hS.2.2 dX7_pondNow_52
    · by_cases c_4 : p1 = 2
      · refine lv_tableIn (off := 52) (tgt := 53) hx hb dX7_pondNow_1 (by rw [c_4]; decide) (by rw [c_4]; decide) (by rw [c_4]; rfl) (by decide) ?_
        refine lv_aload_n hx hb dX7_pondNow_53 rfl (lv_at hl 0 rfl) ?_
        refine va_get (D := G.1) (ci := 8) (v := .ref ma) (C := RX7) (T := TX7) (N := 7) hx hb hts hiX7 hown hK hP 0 rfl rfl 1 (by decide) (hts (.fieldLink RX7 12 "TideMillModel" "mill" "LTideMillModel$Mill;") (List.mem_of_getElem? (i := 1) rfl)) (fun _ h9 => h9) rfl dX7_pondNow_54 ?_
        have hPc := hP.sub (ws' := [tc_X6 ma tk mo su lv si ga sl sc fh lh fo ee pn e0 e1 e2 e3 e4 e5 a0]) [1] rfl
        have hDc := hD.sub (ws' := [tc_X6 ma tk mo su lv si ga sl sc fh lh fo ee pn e0 e1 e2 e3 e4 e5 a0]) [1] (by decide) rfl
        have hFc := va_free (wc := [tc_X6 ma tk mo su lv si ga sl sc fh lh fo ee pn e0 e1 e2 e3 e4 e5 a0]) hD hS hA [1] rfl
        refine va_calld (va_runV (As := []) (rest := []) ⟨hx, hb, hml, hown, hts⟩ (c_X6_area l G ma e0 e1 e2 e3 e4 e5 a0 s.heap.size tk mo su lv si ga sl sc fh lh fo ee pn (n_5 c_1 c_2 c_4)) (cwV 0 hts gX7_pondNow_X6_area rfl rfl rfl (by decide +kernel) ⟨(Nat.le_of_ble_eq_true rfl), (Nat.le_of_ble_eq_true rfl)⟩) (tm_preV hK hN hV hS hPc hDc hFc (va_recv hK hPc (ci := 7) (q0 := 0) rfl rfl)) rfl rfl hl.1 rfl (lv_room (Nat.le_of_ble_eq_true rfl)) dX7_pondNow_57 ⟨(Nat.le_of_ble_eq_true rfl), (Nat.le_of_ble_eq_true rfl)⟩) hS (fun q _ h => hFc q h) hFc (fun r_6 u t H locs ht hvm hw_6 hB hz1 hk1 hS => ?_)
        obtain ⟨hP1, hD1⟩ := hB
        rw [ht] at hP1
        try dsimp only at hw_6
        obtain ⟨hP, hD⟩ := va_join (wr := [tc_X7 a0 th ma rf lk pu tl lo]) (w1 := [tc_X6 ma tk mo su lv si ga sl sc fh lh fo ee pn e0 e1 e2 e3 e4 e5 a0]) hP hD [1] [0] rfl rfl (by decide) (by decide) hk1 hFc hP1 hD1
        have hP : va_P G.1 vwCl [tc_X7 a0 th ma rf lk pu tl lo, tc_X6 ma tk mo su lv si ga sl sc fh lh fo ee pn e0 e1 e2 e3 e4 e5 a0] H := hP
        have hD : va_D A [tc_X7 a0 th ma rf lk pu tl lo, tc_X6 ma tk mo su lv si ga sl sc fh lh fo ee pn e0 e1 e2 e3 e4 e5 a0] := hD
        subst r_6
        have hP9 := hP.sub (ws' := [tc_X7 a0 th ma rf lk pu tl lo, tc_X6 ma tk mo su lv si ga sl sc fh lh fo ee pn e0 e1 e2 e3 e4 e5 a0]) [0, 1] rfl
        have hD9 := hD.sub (ws' := [tc_X7 a0 th ma rf lk pu tl lo, tc_X6 ma tk mo su lv si ga sl sc fh lh fo ee pn e0 e1 e2 e3 e4 e5 a0]) [0, 1] (by decide) rfl
        exact W.dret (v := f_X6_area si) hx hb hr (fun t ht hW => ⟨⟨f_X6_area si, (), rfl, by unfold f_X7_pondNow; all_goals (rw [if_neg c_1]); all_goals (rw [if_neg c_2]); all_goals (rw [if_pos c_4]); all_goals rfl, by rw [ht]; exact hP9, hD9⟩, hS.F ht⟩) hS.2.2 dX7_pondNow_60
      · by_cases c_7 : p1 = 3
        · refine lv_tableIn (off := 60) (tgt := 61) hx hb dX7_pondNow_1 (by rw [c_7]; decide) (by rw [c_7]; decide) (by rw [c_7]; rfl) (by decide) ?_
          refine lv_aload_n hx hb dX7_pondNow_61 rfl (lv_at hl 0 rfl) ?_
          refine va_get (D := G.1) (ci := 8) (v := .ref ma) (C := RX7) (T := TX7) (N := 7) hx hb hts hiX7 hown hK hP 0 rfl rfl 1 (by decide) (hts (.fieldLink RX7 12 "TideMillModel" "mill" "LTideMillModel$Mill;") (List.mem_of_getElem? (i := 1) rfl)) (fun _ h9 => h9) rfl dX7_pondNow_62 ?_
          refine va_get (D := G.1) (ci := 7) (v := .double fo) (C := RX6) (T := TX6) (N := 20) hx hb hts hiX6 hown hK hP 1 rfl rfl 10 (by decide) (hts (.fieldLink RX7 165 "TideMillModel$Mill" "force" "D") (List.mem_of_getElem? (i := 4) rfl)) (fun _ h9 => h9) rfl dX7_pondNow_65 ?_
          have hP9 := hP.sub (ws' := [tc_X7 a0 th ma rf lk pu tl lo, tc_X6 ma tk mo su lv si ga sl sc fh lh fo ee pn e0 e1 e2 e3 e4 e5 a0]) [0, 1] rfl
          have hD9 := hD.sub (ws' := [tc_X7 a0 th ma rf lk pu tl lo, tc_X6 ma tk mo su lv si ga sl sc fh lh fo ee pn e0 e1 e2 e3 e4 e5 a0]) [0, 1] (by decide) rfl
          exact W.dret (v := fo) hx hb hr (fun t ht hW => ⟨⟨fo, (), rfl, by unfold f_X7_pondNow; all_goals (rw [if_neg c_1]); all_goals (rw [if_neg c_2]); all_goals (rw [if_neg c_4]); all_goals (rw [if_pos c_7]); all_goals rfl, by rw [ht]; exact hP9, hD9⟩, hS.F ht⟩) hS.2.2 dX7_pondNow_68
        · by_cases c_8 : p1 = 4
          · refine lv_tableIn (off := 68) (tgt := 69) hx hb dX7_pondNow_1 (by rw [c_8]; decide) (by rw [c_8]; decide) (by rw [c_8]; rfl) (by decide) ?_
            refine lv_aload_n hx hb dX7_pondNow_69 rfl (lv_at hl 0 rfl) ?_
            refine va_get (D := G.1) (ci := 8) (v := .double tl) (C := RX7) (T := TX7) (N := 7) hx hb hts hiX7 hown hK hP 0 rfl rfl 5 (by decide) (hts (.fieldLink RX7 137 "TideMillModel" "toll" "D") (List.mem_of_getElem? (i := 5) rfl)) (fun _ h9 => h9) rfl dX7_pondNow_70 ?_
            have hP9 := hP.sub (ws' := [tc_X7 a0 th ma rf lk pu tl lo, tc_X6 ma tk mo su lv si ga sl sc fh lh fo ee pn e0 e1 e2 e3 e4 e5 a0]) [0, 1] rfl
            have hD9 := hD.sub (ws' := [tc_X7 a0 th ma rf lk pu tl lo, tc_X6 ma tk mo su lv si ga sl sc fh lh fo ee pn e0 e1 e2 e3 e4 e5 a0]) [0, 1] (by decide) rfl
            exact W.dret (v := tl) hx hb hr (fun t ht hW => ⟨⟨tl, (), rfl, by unfold f_X7_pondNow; all_goals (rw [if_neg c_1]); all_goals (rw [if_neg c_2]); all_goals (rw [if_neg c_4]); all_goals (rw [if_neg c_7]); all_goals (rw [if_pos c_8]); all_goals rfl, by rw [ht]; exact hP9, hD9⟩, hS.F ht⟩) hS.2.2 dX7_pondNow_73
          · have hsw : (p1).toInt < 0 ∨ 4 < (p1).toInt := tm_sw 4 (tm_no4 c_1 c_2 c_4 c_7 c_8)
            refine lv_tableOut (tgt := 74) hx hb dX7_pondNow_1 hsw (by decide) ?_
            refine lv_aload_n hx hb dX7_pondNow_74 rfl (lv_at hl 0 rfl) ?_
            refine va_get (D := G.1) (ci := 8) (v := .ref ma) (C := RX7) (T := TX7) (N := 7) hx hb hts hiX7 hown hK hP 0 rfl rfl 1 (by decide) (hts (.fieldLink RX7 12 "TideMillModel" "mill" "LTideMillModel$Mill;") (List.mem_of_getElem? (i := 1) rfl)) (fun _ h9 => h9) rfl dX7_pondNow_75 ?_
            refine lv_aload_n hx hb dX7_pondNow_78 rfl (lv_at hl 0 rfl) ?_
            refine va_get (D := G.1) (ci := 8) (v := .ref ma) (C := RX7) (T := TX7) (N := 7) hx hb hts hiX7 hown hK hP 0 rfl rfl 1 (by decide) (hts (.fieldLink RX7 12 "TideMillModel" "mill" "LTideMillModel$Mill;") (List.mem_of_getElem? (i := 1) rfl)) (fun _ h9 => h9) rfl dX7_pondNow_79 ?_
            refine va_get (D := G.1) (ci := 7) (v := .int tk) (C := RX6) (T := TX6) (N := 20) hx hb hts hiX6 hown hK hP 1 rfl rfl 0 (by decide) (hts (.fieldLink RX7 59 "TideMillModel$Mill" "tick" "I") (List.mem_of_getElem? (i := 6) rfl)) (fun _ h9 => h9) rfl dX7_pondNow_82 ?_
            have hPc := hP.sub (ws' := [tc_X6 ma tk mo su lv si ga sl sc fh lh fo ee pn e0 e1 e2 e3 e4 e5 a0]) [1] rfl
            have hDc := hD.sub (ws' := [tc_X6 ma tk mo su lv si ga sl sc fh lh fo ee pn e0 e1 e2 e3 e4 e5 a0]) [1] (by decide) rfl
            have hFc := va_free (wc := [tc_X6 ma tk mo su lv si ga sl sc fh lh fo ee pn e0 e1 e2 e3 e4 e5 a0]) hD hS hA [1] rfl
            refine va_calld (va_runV (As := [.int tk]) (rest := []) ⟨hx, hb, hml, hown, hts⟩ (c_X6_range l G ma e0 e1 e2 e3 e4 e5 a0 s.heap.size tk mo su lv si ga sl sc fh lh fo ee pn tk (n_9 c_1 c_2 c_4 c_7 c_8)) (cwV 1 hts gX7_pondNow_X6_range rfl rfl rfl (by decide +kernel) ⟨(Nat.le_of_ble_eq_true rfl), (Nat.le_of_ble_eq_true rfl)⟩) (tm_preV hK hN hV hS hPc hDc hFc (va_recv hK hPc (ci := 7) (q0 := 0) rfl rfl)) rfl rfl hl.1 rfl (lv_room (Nat.le_of_ble_eq_true rfl)) dX7_pondNow_85 ⟨(Nat.le_of_ble_eq_true rfl), (Nat.le_of_ble_eq_true rfl)⟩) hS (fun q _ h => hFc q h) hFc (fun r_10 u t H locs ht hvm hw_10 hB hz1 hk1 hS => ?_)
            obtain ⟨hP1, hD1⟩ := hB
            rw [ht] at hP1
            try dsimp only at hw_10
            obtain ⟨hP, hD⟩ := va_join (wr := [tc_X7 a0 th ma rf lk pu tl lo]) (w1 := [tc_X6 ma tk mo su lv si ga sl sc fh lh fo ee pn e0 e1 e2 e3 e4 e5 a0]) hP hD [1] [0] rfl rfl (by decide) (by decide) hk1 hFc hP1 hD1
            have hP : va_P G.1 vwCl [tc_X7 a0 th ma rf lk pu tl lo, tc_X6 ma tk mo su lv si ga sl sc fh lh fo ee pn e0 e1 e2 e3 e4 e5 a0] H := hP
            have hD : va_D A [tc_X7 a0 th ma rf lk pu tl lo, tc_X6 ma tk mo su lv si ga sl sc fh lh fo ee pn e0 e1 e2 e3 e4 e5 a0] := hD
            subst r_10
            have hP9 := hP.sub (ws' := [tc_X7 a0 th ma rf lk pu tl lo, tc_X6 ma tk mo su lv si ga sl sc fh lh fo ee pn e0 e1 e2 e3 e4 e5 a0]) [0, 1] rfl
            have hD9 := hD.sub (ws' := [tc_X7 a0 th ma rf lk pu tl lo, tc_X6 ma tk mo su lv si ga sl sc fh lh fo ee pn e0 e1 e2 e3 e4 e5 a0]) [0, 1] (by decide) rfl
            exact W.dret (v := f_X6_range mo tk) hx hb hr (fun t ht hW => ⟨⟨f_X6_range mo tk, (), rfl, by unfold f_X7_pondNow; all_goals (rw [if_neg c_1]); all_goals (rw [if_neg c_2]); all_goals (rw [if_neg c_4]); all_goals (rw [if_neg c_7]); all_goals (rw [if_neg c_8]); all_goals rfl, by rw [ht]; exact hP9, hD9⟩, hS.F ht⟩) hS.2.2 dX7_pondNow_88
set_option maxHeartbeats 4000000 in
set_option maxRecDepth 100000 in
theorem c_X7_pond (l : Launch) (G : tm_G) (a0 : Nat) (ma : Nat) (lo : Nat) (e0 : Nat) (e1 : Nat) (e2 : Nat) (e3 : Nat) (e4 : Nat) (e5 : Nat) (sz : Nat) (th : Int32) (rf : Int32) (lk : Int32) (pu : Int32) (tl : UInt64) (tk : Int32) (mo : Int32) (su : UInt64) (lv : UInt64) (si : UInt32) (ga : Int32) (sl : Int32) (sc : Int32) (fh : Int32) (lh : Int32) (fo : UInt64) (ee : Int32) (pn : Int32) (p1 : Int32) (hn : n_X7_pond tk mo si p1) : Met l yX7_pond wsX7_pond ({ frames := 4, cells := 0, slots := 0, locals := 88 }) (va_Pc [.ref a0, .int p1] (tm_B G [tc_X7 a0 th ma rf lk pu tl lo, tc_X6 ma tk mo su lv si ga sl sc fh lh fo ee pn e0 e1 e2 e3 e4 e5 a0] sz)) (va_Qd (fun (r : UInt64) (u : Int32) => (r, u) = f_X7_pond tl tk mo lv si fo p1) (fun (u : Int32) (t : State) => va_P G.1 vwCl [tc_X7 a0 u ma rf lk pu tl lo, tc_X6 ma tk mo su lv si ga sl sc fh lh fo ee pn e0 e1 e2 e3 e4 e5 a0] t.heap ∧ va_D (va_A [tc_X7 a0 th ma rf lk pu tl lo, tc_X6 ma tk mo su lv si ga sl sc fh lh fo ee pn e0 e1 e2 e3 e4 e5 a0] sz) [tc_X7 a0 u ma rf lk pu tl lo, tc_X6 ma tk mo su lv si ga sl sc fh lh fo ee pn e0 e1 e2 e3 e4 e5 a0]) (va_A [tc_X7 a0 th ma rf lk pu tl lo, tc_X6 ma tk mo su lv si ga sl sc fh lh fo ee pn e0 e1 e2 e3 e4 e5 a0] sz)) 0 0 (va_A [tc_X7 a0 th ma rf lk pu tl lo, tc_X6 ma tk mo su lv si ga sl sc fh lh fo ee pn e0 e1 e2 e3 e4 e5 a0] sz) := by
  refine Met.ofW (cc := cX7_pond) (maxL := 2) (ret := (some .double)) (by decide) rfl ?_
  intro p e s m args below meth c s₁ B hml hv
  obtain ⟨rfl, hsz, hP, hK, hD0, hN, hV⟩ := hv
  have hx := B.exec
  have hb := B.bytes
  have hr := B.returns
  have hts := atoms_spec (ws := wsX7_pond) B.pre
  have hown : s.vm.findClass RX7 = some m.cls := findClass_of_methodNamed B.named
  have hlocks := B.notSynchronized
  subst hsz
  have n_3 := hn
  unfold n_X7_pond at n_3
  have hiX7 : ∀ w ∈ u_ws RX7 TX7 7, w ∈ wsX7_pond := fun _ h => List.mem_cons_of_mem _ (List.mem_append_left _ (List.mem_append_right _ h))
  have hD := hD0.self (sz := s.heap.size)
  generalize hAe : va_A [tc_X7 a0 th ma rf lk pu tl lo, tc_X6 ma tk mo su lv si ga sl sc fh lh fo ee pn e0 e1 e2 e3 e4 e5 a0] s.heap.size = A at hD hV ⊢
  have hA : ∀ q : Nat, s.heap.size ≤ q → A q := fun q h => by rw [← hAe]; exact Or.inr h
  have hS : va_S A s.heap s.heap [] := va_S.rf
  have hl := lv_entry ([.ref a0, .int p1]) (n := 2) (Nat.le_of_ble_eq_true rfl)
  rw [lg_entry_eq]
  generalize (lg_sl ([.ref a0, .int p1]) ++ List.replicate (2 - (lg_sl ([.ref a0, .int p1])).length) Slot.unset).toArray = ls at hl ⊢
  have hl : lv_has ls 2 [(0, .ref a0), (1, .int p1)] := hl
  refine lv_aload_n hx hb dX7_pond_0 rfl (lv_at hl 0 rfl) ?_
  refine lv_iconst (v := 0) hx hb dX7_pond_1 (by decide) ?_
  refine va_put (D := G.1) (ci := 8) (v := .int 0) (ty := .int) (C := RX7) (T := TX7) (N := 7) hx hb hts hiX7 tyX7 tyX7_ok nmX7 hown hK hP hD hS 0 rfl rfl 0 (by decide) (hts (.fieldLink RX7 25 "TideMillModel" "thrown" "I") (List.mem_of_getElem? (i := 1) rfl)) (fun _ h9 => h9) rfl (by decide +kernel) rfl rfl (Nat.le_of_ble_eq_true rfl) dX7_pond_2 (fun H locs hP hD hS => ?_)
  have hP : va_P G.1 vwCl [tc_X7 a0 0 ma rf lk pu tl lo, tc_X6 ma tk mo su lv si ga sl sc fh lh fo ee pn e0 e1 e2 e3 e4 e5 a0] H := hP
  have hD : va_D A [tc_X7 a0 0 ma rf lk pu tl lo, tc_X6 ma tk mo su lv si ga sl sc fh lh fo ee pn e0 e1 e2 e3 e4 e5 a0] := hD
  refine lv_iload_n hx hb dX7_pond_5 rfl (lv_at hl 1 rfl) ?_
  refine lv_iconst (v := 0) hx hb dX7_pond_6 (by decide) ?_
  refine lv_iconst (v := 5) hx hb dX7_pond_7 (by decide) ?_
  have hPc := hP.sub (ws' := []) [] rfl
  have hDc := hD.sub (ws' := []) [] (by decide) rfl
  have hFc := va_free (wc := []) hD hS hA [] rfl
  refine va_calli (va_runS (As := [.int p1, .int 0, .int 5]) (rest := []) ⟨hx, hb, hml, hown, hts⟩ (c_X7_in l G  H.size p1 0 5 ) (cwS 3 hts gX7_pond_X7_in rfl rfl rfl (by decide +kernel) ⟨(Nat.le_of_ble_eq_true rfl), (Nat.le_of_ble_eq_true rfl)⟩) (tm_preS hK hN hV hS hPc hDc hFc) rfl rfl hl.1 rfl (lv_room (Nat.le_of_ble_eq_true rfl)) dX7_pond_8 ⟨(Nat.le_of_ble_eq_true rfl), (Nat.le_of_ble_eq_true rfl)⟩) hS (fun q _ h => hFc q h) hFc (fun r_1 u t H locs ht hvm hw_1 hB hz1 hk1 hS => ?_)
  obtain ⟨hP1, hD1⟩ := hB
  rw [ht] at hP1
  try dsimp only at hw_1
  obtain ⟨hP, hD⟩ := va_join (wr := [tc_X7 a0 0 ma rf lk pu tl lo, tc_X6 ma tk mo su lv si ga sl sc fh lh fo ee pn e0 e1 e2 e3 e4 e5 a0]) (w1 := []) hP hD [] [0, 1] rfl rfl (by decide) (by decide) hk1 hFc hP1 hD1
  have hP : va_P G.1 vwCl [tc_X7 a0 0 ma rf lk pu tl lo, tc_X6 ma tk mo su lv si ga sl sc fh lh fo ee pn e0 e1 e2 e3 e4 e5 a0] H := hP
  have hD : va_D A [tc_X7 a0 0 ma rf lk pu tl lo, tc_X6 ma tk mo su lv si ga sl sc fh lh fo ee pn e0 e1 e2 e3 e4 e5 a0] := hD
  subst r_1
  refine lv_if_ne (tgt := 21) hx hb dX7_pond_11 (by decide) (fun c_2 => ?_) (fun c_2 => ?_)
  · refine lv_aload_n hx hb dX7_pond_21 rfl (lv_at hl 0 rfl) ?_
    refine lv_iload_n hx hb dX7_pond_22 rfl (lv_at hl 1 rfl) ?_
    have hPc := hP.sub (ws' := [tc_X7 a0 0 ma rf lk pu tl lo, tc_X6 ma tk mo su lv si ga sl sc fh lh fo ee pn e0 e1 e2 e3 e4 e5 a0]) [0, 1] rfl
    have hDc := hD.sub (ws' := [tc_X7 a0 0 ma rf lk pu tl lo, tc_X6 ma tk mo su lv si ga sl sc fh lh fo ee pn e0 e1 e2 e3 e4 e5 a0]) [0, 1] (by decide) rfl
    have hFc := va_free (wc := [tc_X7 a0 0 ma rf lk pu tl lo, tc_X6 ma tk mo su lv si ga sl sc fh lh fo ee pn e0 e1 e2 e3 e4 e5 a0]) hD hS hA [0, 1] rfl
    refine va_calld (va_runV (As := [.int p1]) (rest := []) ⟨hx, hb, hml, hown, hts⟩ (c_X7_pondNow l G a0 ma lo e0 e1 e2 e3 e4 e5 H.size 0 rf lk pu tl tk mo su lv si ga sl sc fh lh fo ee pn p1 (n_3 c_2)) (cwV 1 hts gX7_pond_X7_pondNow rfl rfl rfl (by decide +kernel) ⟨(Nat.le_of_ble_eq_true rfl), (Nat.le_of_ble_eq_true rfl)⟩) (tm_preV hK hN hV hS hPc hDc hFc (va_recv hK hPc (ci := 8) (q0 := 0) rfl rfl)) rfl rfl hl.1 rfl (lv_room (Nat.le_of_ble_eq_true rfl)) dX7_pond_23 ⟨(Nat.le_of_ble_eq_true rfl), (Nat.le_of_ble_eq_true rfl)⟩) hS (fun q _ h => hFc q h) hFc (fun r_4 u t H locs ht hvm hw_4 hB hz1 hk1 hS => ?_)
    obtain ⟨hP1, hD1⟩ := hB
    rw [ht] at hP1
    try dsimp only at hw_4
    obtain ⟨hP, hD⟩ := va_join (wr := []) (w1 := [tc_X7 a0 0 ma rf lk pu tl lo, tc_X6 ma tk mo su lv si ga sl sc fh lh fo ee pn e0 e1 e2 e3 e4 e5 a0]) hP hD [0, 1] [] rfl rfl (by decide) (by decide) hk1 hFc hP1 hD1
    have hP : va_P G.1 vwCl [tc_X7 a0 0 ma rf lk pu tl lo, tc_X6 ma tk mo su lv si ga sl sc fh lh fo ee pn e0 e1 e2 e3 e4 e5 a0] H := hP
    have hD : va_D A [tc_X7 a0 0 ma rf lk pu tl lo, tc_X6 ma tk mo su lv si ga sl sc fh lh fo ee pn e0 e1 e2 e3 e4 e5 a0] := hD
    subst r_4
    have hP9 := hP.sub (ws' := [tc_X7 a0 0 ma rf lk pu tl lo, tc_X6 ma tk mo su lv si ga sl sc fh lh fo ee pn e0 e1 e2 e3 e4 e5 a0]) [0, 1] rfl
    have hD9 := hD.sub (ws' := [tc_X7 a0 0 ma rf lk pu tl lo, tc_X6 ma tk mo su lv si ga sl sc fh lh fo ee pn e0 e1 e2 e3 e4 e5 a0]) [0, 1] (by decide) rfl
    exact W.dret (v := f_X7_pondNow tl tk mo lv si fo p1) hx hb hr (fun t ht hW => ⟨⟨f_X7_pondNow tl tk mo lv si fo p1, (0), rfl, by unfold f_X7_pond; all_goals (rw [if_neg c_2]); all_goals rfl, by rw [ht]; exact hP9, hD9⟩, hS.F ht⟩) hS.2.2 dX7_pond_26
  · refine lv_aload_n hx hb dX7_pond_14 rfl (lv_at hl 0 rfl) ?_
    refine lv_iconst (v := 1) hx hb dX7_pond_15 (by decide) ?_
    have hPc := hP.sub (ws' := [tc_X7 a0 0 ma rf lk pu tl lo]) [0] rfl
    have hDc := hD.sub (ws' := [tc_X7 a0 0 ma rf lk pu tl lo]) [0] (by decide) rfl
    have hFc := va_free (wc := [tc_X7 a0 0 ma rf lk pu tl lo]) hD hS hA [0] rfl
    refine va_calli (va_runV (As := [.int 1]) (rest := []) ⟨hx, hb, hml, hown, hts⟩ (c_X7_no l G a0 ma lo H.size 0 rf lk pu tl 1 ) (cwV 1 hts gX7_pond_X7_no rfl rfl rfl (by decide +kernel) ⟨(Nat.le_of_ble_eq_true rfl), (Nat.le_of_ble_eq_true rfl)⟩) (tm_preV hK hN hV hS hPc hDc hFc (va_recv hK hPc (ci := 8) (q0 := 0) rfl rfl)) rfl rfl hl.1 rfl (lv_room (Nat.le_of_ble_eq_true rfl)) dX7_pond_16 ⟨(Nat.le_of_ble_eq_true rfl), (Nat.le_of_ble_eq_true rfl)⟩) hS (fun q _ h => hFc q h) hFc (fun r_5 u t H locs ht hvm hw_5 hB hz1 hk1 hS => ?_)
    obtain ⟨u_6, rfl⟩ : ∃ z, z = u := ⟨_, rfl⟩
    obtain ⟨hP1, hD1⟩ := hB
    rw [ht] at hP1
    try dsimp only at hw_5
    obtain ⟨hP, hD⟩ := va_join (wr := [tc_X6 ma tk mo su lv si ga sl sc fh lh fo ee pn e0 e1 e2 e3 e4 e5 a0]) (w1 := [tc_X7 a0 u_6 ma rf lk pu tl lo]) hP hD [0] [1] rfl rfl (by decide) (by decide) hk1 hFc hP1 hD1
    have hP : va_P G.1 vwCl [tc_X6 ma tk mo su lv si ga sl sc fh lh fo ee pn e0 e1 e2 e3 e4 e5 a0, tc_X7 a0 u_6 ma rf lk pu tl lo] H := hP
    have hD : va_D A [tc_X6 ma tk mo su lv si ga sl sc fh lh fo ee pn e0 e1 e2 e3 e4 e5 a0, tc_X7 a0 u_6 ma rf lk pu tl lo] := hD
    refine lv_i2d hx hb dX7_pond_19 ?_
    have hP9 := hP.sub (ws' := [tc_X7 a0 u_6 ma rf lk pu tl lo, tc_X6 ma tk mo su lv si ga sl sc fh lh fo ee pn e0 e1 e2 e3 e4 e5 a0]) [1, 0] rfl
    have hD9 := hD.sub (ws' := [tc_X7 a0 u_6 ma rf lk pu tl lo, tc_X6 ma tk mo su lv si ga sl sc fh lh fo ee pn e0 e1 e2 e3 e4 e5 a0]) [1, 0] (by decide) rfl
    exact W.dret (v := FP.i2d r_5) hx hb hr (fun t ht hW => ⟨⟨FP.i2d r_5, (u_6), rfl, by unfold f_X7_pond; all_goals (rw [if_pos c_2]); all_goals (rw [← hw_5]); all_goals (dsimp only); all_goals rfl, by rw [ht]; exact hP9, hD9⟩, hS.F ht⟩) hS.2.2 dX7_pond_20
set_option maxHeartbeats 4000000 in
set_option maxRecDepth 100000 in
theorem c_X7_pairNow (l : Launch) (G : tm_G) (a0 : Nat) (ma : Nat) (lo : Nat) (e0 : Nat) (e1 : Nat) (e2 : Nat) (e3 : Nat) (e4 : Nat) (e5 : Nat) (sz : Nat) (th : Int32) (rf : Int32) (lk : Int32) (pu : Int32) (tl : UInt64) (tk : Int32) (mo : Int32) (su : UInt64) (lv : UInt64) (si : UInt32) (ga : Int32) (sl : Int32) (sc : Int32) (fh : Int32) (lh : Int32) (fo : UInt64) (ee : Int32) (pn : Int32) (pl : Nat → Int32) (dr : Nat → Int32) (sp : Nat → Int32) (p1 : Int32) (p2 : Int32) (hn : n_X7_pairNow p1 p2) : Met l yX7_pairNow wsX7_pairNow ({ frames := 0, cells := 0, slots := 0, locals := 0 }) (va_Pc [.ref a0, .int p1, .int p2] (tm_B G [tc_X7 a0 th ma rf lk pu tl lo, tc_X6 ma tk mo su lv si ga sl sc fh lh fo ee pn e0 e1 e2 e3 e4 e5 a0, tc_I G e1 3 pl, tc_I G e2 3 dr, tc_I G e3 3 sp] sz)) (va_Qi (fun (r : Int32) (u : Unit) => r = f_X7_pairNow pl dr sp p1 p2) (fun (u : Unit) (t : State) => va_P G.1 vwCl [tc_X7 a0 th ma rf lk pu tl lo, tc_X6 ma tk mo su lv si ga sl sc fh lh fo ee pn e0 e1 e2 e3 e4 e5 a0, tc_I G e1 3 pl, tc_I G e2 3 dr, tc_I G e3 3 sp] t.heap ∧ va_D (va_A [tc_X7 a0 th ma rf lk pu tl lo, tc_X6 ma tk mo su lv si ga sl sc fh lh fo ee pn e0 e1 e2 e3 e4 e5 a0, tc_I G e1 3 pl, tc_I G e2 3 dr, tc_I G e3 3 sp] sz) [tc_X7 a0 th ma rf lk pu tl lo, tc_X6 ma tk mo su lv si ga sl sc fh lh fo ee pn e0 e1 e2 e3 e4 e5 a0, tc_I G e1 3 pl, tc_I G e2 3 dr, tc_I G e3 3 sp]) (va_A [tc_X7 a0 th ma rf lk pu tl lo, tc_X6 ma tk mo su lv si ga sl sc fh lh fo ee pn e0 e1 e2 e3 e4 e5 a0, tc_I G e1 3 pl, tc_I G e2 3 dr, tc_I G e3 3 sp] sz)) 0 0 (va_A [tc_X7 a0 th ma rf lk pu tl lo, tc_X6 ma tk mo su lv si ga sl sc fh lh fo ee pn e0 e1 e2 e3 e4 e5 a0, tc_I G e1 3 pl, tc_I G e2 3 dr, tc_I G e3 3 sp] sz) := by
  refine Met.ofW (cc := cX7_pairNow) (maxL := 3) (ret := (some .int)) (by decide) rfl ?_
  intro p e s m args below meth c s₁ B hml hv
  obtain ⟨rfl, hsz, hP, hK, hD0, hN, hV⟩ := hv
  have hx := B.exec
  have hb := B.bytes
  have hr := B.returns
  have hts := atoms_spec (ws := wsX7_pairNow) B.pre
  have hown : s.vm.findClass RX7 = some m.cls := findClass_of_methodNamed B.named
  have hlocks := B.notSynchronized
  subst hsz
  obtain ⟨n_3, n_4, n_5⟩ := hn
  have hiX6 : ∀ w ∈ u_ws RX6 TX6 20, w ∈ wsX7_pairNow := fun _ h => List.mem_cons_of_mem _ (List.mem_append_right _ h)
  have hiX7 : ∀ w ∈ u_ws RX7 TX7 7, w ∈ wsX7_pairNow := fun _ h => List.mem_cons_of_mem _ (List.mem_append_left _ (List.mem_append_right _ h))
  have hD := hD0.self (sz := s.heap.size)
  generalize hAe : va_A [tc_X7 a0 th ma rf lk pu tl lo, tc_X6 ma tk mo su lv si ga sl sc fh lh fo ee pn e0 e1 e2 e3 e4 e5 a0, tc_I G e1 3 pl, tc_I G e2 3 dr, tc_I G e3 3 sp] s.heap.size = A at hD hV ⊢
  have hA : ∀ q : Nat, s.heap.size ≤ q → A q := fun q h => by rw [← hAe]; exact Or.inr h
  have hS : va_S A s.heap s.heap [] := va_S.rf
  have hl := lv_entry ([.ref a0, .int p1, .int p2]) (n := 3) (Nat.le_of_ble_eq_true rfl)
  rw [lg_entry_eq]
  generalize (lg_sl ([.ref a0, .int p1, .int p2]) ++ List.replicate (3 - (lg_sl ([.ref a0, .int p1, .int p2])).length) Slot.unset).toArray = ls at hl ⊢
  have hl : lv_has ls 3 [(0, .ref a0), (1, .int p1), (2, .int p2)] := hl
  refine lv_iload_n hx hb dX7_pairNow_0 rfl (lv_at hl 2 rfl) ?_
  refine lv_if_ne (tgt := 16) hx hb dX7_pairNow_1 (by decide) (fun c_1 => ?_) (fun c_1 => ?_)
  · refine lv_iload_n hx hb dX7_pairNow_16 rfl (lv_at hl 2 rfl) ?_
    refine lv_iconst (v := 1) hx hb dX7_pairNow_17 (by decide) ?_
    refine lv_icmp_ne (tgt := 33) hx hb dX7_pairNow_18 (by decide) (fun c_2 => ?_) (fun c_2 => ?_)
    · refine lv_aload_n hx hb dX7_pairNow_33 rfl (lv_at hl 0 rfl) ?_
      refine va_get (D := G.1) (ci := 8) (v := .ref ma) (C := RX7) (T := TX7) (N := 7) hx hb hts hiX7 hown hK hP 0 rfl rfl 1 (by decide) (hts (.fieldLink RX7 12 "TideMillModel" "mill" "LTideMillModel$Mill;") (List.mem_of_getElem? (i := 1) rfl)) (fun _ h9 => h9) rfl dX7_pairNow_34 ?_
      refine va_get (D := G.1) (ci := 7) (v := .ref e3) (C := RX6) (T := TX6) (N := 20) hx hb hts hiX6 hown hK hP 1 rfl rfl 16 (by decide) (hts (.fieldLink RX7 174 "TideMillModel$Mill" "sparks" "[I") (List.mem_of_getElem? (i := 4) rfl)) (fun _ h9 => h9) rfl dX7_pairNow_37 ?_
      refine lv_iload_n hx hb dX7_pairNow_40 rfl (lv_at hl 1 rfl) ?_
      refine va_iald (n := 3) (f := sp) hx hb hK hP 4 0 rfl rfl (n_3 c_1 c_2) dX7_pairNow_41 ?_
      have hP9 := hP.sub (ws' := [tc_X7 a0 th ma rf lk pu tl lo, tc_X6 ma tk mo su lv si ga sl sc fh lh fo ee pn e0 e1 e2 e3 e4 e5 a0, tc_I G e1 3 pl, tc_I G e2 3 dr, tc_I G e3 3 sp]) [0, 1, 2, 3, 4] rfl
      have hD9 := hD.sub (ws' := [tc_X7 a0 th ma rf lk pu tl lo, tc_X6 ma tk mo su lv si ga sl sc fh lh fo ee pn e0 e1 e2 e3 e4 e5 a0, tc_I G e1 3 pl, tc_I G e2 3 dr, tc_I G e3 3 sp]) [0, 1, 2, 3, 4] (by decide) rfl
      exact W.iret (v := sp p1.toNatClampNeg) hx hb hr (fun t ht hW => ⟨⟨sp p1.toNatClampNeg, (), rfl, by unfold f_X7_pairNow; all_goals (rw [if_neg c_1]); all_goals (rw [if_neg c_2]); all_goals rfl, by rw [ht]; exact hP9, hD9⟩, hS.F ht⟩) hS.2.2 dX7_pairNow_42
    · refine lv_aload_n hx hb dX7_pairNow_21 rfl (lv_at hl 0 rfl) ?_
      refine va_get (D := G.1) (ci := 8) (v := .ref ma) (C := RX7) (T := TX7) (N := 7) hx hb hts hiX7 hown hK hP 0 rfl rfl 1 (by decide) (hts (.fieldLink RX7 12 "TideMillModel" "mill" "LTideMillModel$Mill;") (List.mem_of_getElem? (i := 1) rfl)) (fun _ h9 => h9) rfl dX7_pairNow_22 ?_
      refine va_get (D := G.1) (ci := 7) (v := .ref e2) (C := RX6) (T := TX6) (N := 20) hx hb hts hiX6 hown hK hP 1 rfl rfl 15 (by decide) (hts (.fieldLink RX7 119 "TideMillModel$Mill" "dressing" "[I") (List.mem_of_getElem? (i := 3) rfl)) (fun _ h9 => h9) rfl dX7_pairNow_25 ?_
      refine lv_iload_n hx hb dX7_pairNow_28 rfl (lv_at hl 1 rfl) ?_
      refine va_iald (n := 3) (f := dr) hx hb hK hP 3 0 rfl rfl (n_4 c_1 c_2) dX7_pairNow_29 ?_
      refine lv_goto (tgt := 42) hx hb dX7_pairNow_30 (by decide) ?_
      have hP9 := hP.sub (ws' := [tc_X7 a0 th ma rf lk pu tl lo, tc_X6 ma tk mo su lv si ga sl sc fh lh fo ee pn e0 e1 e2 e3 e4 e5 a0, tc_I G e1 3 pl, tc_I G e2 3 dr, tc_I G e3 3 sp]) [0, 1, 2, 3, 4] rfl
      have hD9 := hD.sub (ws' := [tc_X7 a0 th ma rf lk pu tl lo, tc_X6 ma tk mo su lv si ga sl sc fh lh fo ee pn e0 e1 e2 e3 e4 e5 a0, tc_I G e1 3 pl, tc_I G e2 3 dr, tc_I G e3 3 sp]) [0, 1, 2, 3, 4] (by decide) rfl
      exact W.iret (v := dr p1.toNatClampNeg) hx hb hr (fun t ht hW => ⟨⟨dr p1.toNatClampNeg, (), rfl, by unfold f_X7_pairNow; all_goals (rw [if_neg c_1]); all_goals (rw [if_pos c_2]); all_goals rfl, by rw [ht]; exact hP9, hD9⟩, hS.F ht⟩) hS.2.2 dX7_pairNow_42
  · refine lv_aload_n hx hb dX7_pairNow_4 rfl (lv_at hl 0 rfl) ?_
    refine va_get (D := G.1) (ci := 8) (v := .ref ma) (C := RX7) (T := TX7) (N := 7) hx hb hts hiX7 hown hK hP 0 rfl rfl 1 (by decide) (hts (.fieldLink RX7 12 "TideMillModel" "mill" "LTideMillModel$Mill;") (List.mem_of_getElem? (i := 1) rfl)) (fun _ h9 => h9) rfl dX7_pairNow_5 ?_
    refine va_get (D := G.1) (ci := 7) (v := .ref e1) (C := RX6) (T := TX6) (N := 20) hx hb hts hiX6 hown hK hP 1 rfl rfl 14 (by decide) (hts (.fieldLink RX7 101 "TideMillModel$Mill" "lot" "[I") (List.mem_of_getElem? (i := 2) rfl)) (fun _ h9 => h9) rfl dX7_pairNow_8 ?_
    refine lv_iload_n hx hb dX7_pairNow_11 rfl (lv_at hl 1 rfl) ?_
    refine va_iald (n := 3) (f := pl) hx hb hK hP 2 0 rfl rfl (n_5 c_1) dX7_pairNow_12 ?_
    refine lv_goto (tgt := 42) hx hb dX7_pairNow_13 (by decide) ?_
    have hP9 := hP.sub (ws' := [tc_X7 a0 th ma rf lk pu tl lo, tc_X6 ma tk mo su lv si ga sl sc fh lh fo ee pn e0 e1 e2 e3 e4 e5 a0, tc_I G e1 3 pl, tc_I G e2 3 dr, tc_I G e3 3 sp]) [0, 1, 2, 3, 4] rfl
    have hD9 := hD.sub (ws' := [tc_X7 a0 th ma rf lk pu tl lo, tc_X6 ma tk mo su lv si ga sl sc fh lh fo ee pn e0 e1 e2 e3 e4 e5 a0, tc_I G e1 3 pl, tc_I G e2 3 dr, tc_I G e3 3 sp]) [0, 1, 2, 3, 4] (by decide) rfl
    exact W.iret (v := pl p1.toNatClampNeg) hx hb hr (fun t ht hW => ⟨⟨pl p1.toNatClampNeg, (), rfl, by unfold f_X7_pairNow; all_goals (rw [if_pos c_1]); all_goals rfl, by rw [ht]; exact hP9, hD9⟩, hS.F ht⟩) hS.2.2 dX7_pairNow_42
set_option maxHeartbeats 4000000 in
set_option maxRecDepth 100000 in
theorem c_X7_ofPair (l : Launch) (G : tm_G) (a0 : Nat) (ma : Nat) (lo : Nat) (e0 : Nat) (e1 : Nat) (e2 : Nat) (e3 : Nat) (e4 : Nat) (e5 : Nat) (sz : Nat) (th : Int32) (rf : Int32) (lk : Int32) (pu : Int32) (tl : UInt64) (tk : Int32) (mo : Int32) (su : UInt64) (lv : UInt64) (si : UInt32) (ga : Int32) (sl : Int32) (sc : Int32) (fh : Int32) (lh : Int32) (fo : UInt64) (ee : Int32) (pn : Int32) (pl : Nat → Int32) (dr : Nat → Int32) (sp : Nat → Int32) (p1 : Int32) (p2 : Int32) (hn : n_X7_ofPair pn p1 p2) : Met l yX7_ofPair wsX7_ofPair ({ frames := 2, cells := 0, slots := 0, locals := 43 }) (va_Pc [.ref a0, .int p1, .int p2] (tm_B G [tc_X7 a0 th ma rf lk pu tl lo, tc_X6 ma tk mo su lv si ga sl sc fh lh fo ee pn e0 e1 e2 e3 e4 e5 a0, tc_I G e1 3 pl, tc_I G e2 3 dr, tc_I G e3 3 sp] sz)) (va_Qi (fun (r : Int32) (u : Int32) => (r, u) = f_X7_ofPair pn pl dr sp p1 p2) (fun (u : Int32) (t : State) => va_P G.1 vwCl [tc_X7 a0 u ma rf lk pu tl lo, tc_X6 ma tk mo su lv si ga sl sc fh lh fo ee pn e0 e1 e2 e3 e4 e5 a0, tc_I G e1 3 pl, tc_I G e2 3 dr, tc_I G e3 3 sp] t.heap ∧ va_D (va_A [tc_X7 a0 th ma rf lk pu tl lo, tc_X6 ma tk mo su lv si ga sl sc fh lh fo ee pn e0 e1 e2 e3 e4 e5 a0, tc_I G e1 3 pl, tc_I G e2 3 dr, tc_I G e3 3 sp] sz) [tc_X7 a0 u ma rf lk pu tl lo, tc_X6 ma tk mo su lv si ga sl sc fh lh fo ee pn e0 e1 e2 e3 e4 e5 a0, tc_I G e1 3 pl, tc_I G e2 3 dr, tc_I G e3 3 sp]) (va_A [tc_X7 a0 th ma rf lk pu tl lo, tc_X6 ma tk mo su lv si ga sl sc fh lh fo ee pn e0 e1 e2 e3 e4 e5 a0, tc_I G e1 3 pl, tc_I G e2 3 dr, tc_I G e3 3 sp] sz)) 0 0 (va_A [tc_X7 a0 th ma rf lk pu tl lo, tc_X6 ma tk mo su lv si ga sl sc fh lh fo ee pn e0 e1 e2 e3 e4 e5 a0, tc_I G e1 3 pl, tc_I G e2 3 dr, tc_I G e3 3 sp] sz) := by
  refine Met.ofW (cc := cX7_ofPair) (maxL := 3) (ret := (some .int)) (by decide) rfl ?_
  intro p e s m args below meth c s₁ B hml hv
  obtain ⟨rfl, hsz, hP, hK, hD0, hN, hV⟩ := hv
  have hx := B.exec
  have hb := B.bytes
  have hr := B.returns
  have hts := atoms_spec (ws := wsX7_ofPair) B.pre
  have hown : s.vm.findClass RX7 = some m.cls := findClass_of_methodNamed B.named
  have hlocks := B.notSynchronized
  subst hsz
  obtain ⟨n_1, n_6⟩ := hn
  have hiX7 : ∀ w ∈ u_ws RX7 TX7 7, w ∈ wsX7_ofPair := fun _ h => List.mem_cons_of_mem _ (List.mem_append_left _ (List.mem_append_right _ h))
  have hD := hD0.self (sz := s.heap.size)
  generalize hAe : va_A [tc_X7 a0 th ma rf lk pu tl lo, tc_X6 ma tk mo su lv si ga sl sc fh lh fo ee pn e0 e1 e2 e3 e4 e5 a0, tc_I G e1 3 pl, tc_I G e2 3 dr, tc_I G e3 3 sp] s.heap.size = A at hD hV ⊢
  have hA : ∀ q : Nat, s.heap.size ≤ q → A q := fun q h => by rw [← hAe]; exact Or.inr h
  have hS : va_S A s.heap s.heap [] := va_S.rf
  have hl := lv_entry ([.ref a0, .int p1, .int p2]) (n := 3) (Nat.le_of_ble_eq_true rfl)
  rw [lg_entry_eq]
  generalize (lg_sl ([.ref a0, .int p1, .int p2]) ++ List.replicate (3 - (lg_sl ([.ref a0, .int p1, .int p2])).length) Slot.unset).toArray = ls at hl ⊢
  have hl : lv_has ls 3 [(0, .ref a0), (1, .int p1), (2, .int p2)] := hl
  refine lv_aload_n hx hb dX7_ofPair_0 rfl (lv_at hl 0 rfl) ?_
  refine lv_iconst (v := 0) hx hb dX7_ofPair_1 (by decide) ?_
  refine va_put (D := G.1) (ci := 8) (v := .int 0) (ty := .int) (C := RX7) (T := TX7) (N := 7) hx hb hts hiX7 tyX7 tyX7_ok nmX7 hown hK hP hD hS 0 rfl rfl 0 (by decide) (hts (.fieldLink RX7 25 "TideMillModel" "thrown" "I") (List.mem_of_getElem? (i := 1) rfl)) (fun _ h9 => h9) rfl (by decide +kernel) rfl rfl (Nat.le_of_ble_eq_true rfl) dX7_ofPair_2 (fun H locs hP hD hS => ?_)
  have hP : va_P G.1 vwCl [tc_X7 a0 0 ma rf lk pu tl lo, tc_X6 ma tk mo su lv si ga sl sc fh lh fo ee pn e0 e1 e2 e3 e4 e5 a0, tc_I G e1 3 pl, tc_I G e2 3 dr, tc_I G e3 3 sp] H := hP
  have hD : va_D A [tc_X7 a0 0 ma rf lk pu tl lo, tc_X6 ma tk mo su lv si ga sl sc fh lh fo ee pn e0 e1 e2 e3 e4 e5 a0, tc_I G e1 3 pl, tc_I G e2 3 dr, tc_I G e3 3 sp] := hD
  refine lv_aload_n hx hb dX7_ofPair_5 rfl (lv_at hl 0 rfl) ?_
  refine lv_iload_n hx hb dX7_ofPair_6 rfl (lv_at hl 1 rfl) ?_
  have hPc := hP.sub (ws' := [tc_X7 a0 0 ma rf lk pu tl lo, tc_X6 ma tk mo su lv si ga sl sc fh lh fo ee pn e0 e1 e2 e3 e4 e5 a0]) [0, 1] rfl
  have hDc := hD.sub (ws' := [tc_X7 a0 0 ma rf lk pu tl lo, tc_X6 ma tk mo su lv si ga sl sc fh lh fo ee pn e0 e1 e2 e3 e4 e5 a0]) [0, 1] (by decide) rfl
  have hFc := va_free (wc := [tc_X7 a0 0 ma rf lk pu tl lo, tc_X6 ma tk mo su lv si ga sl sc fh lh fo ee pn e0 e1 e2 e3 e4 e5 a0]) hD hS hA [0, 1] rfl
  refine va_calli (va_runV (As := [.int p1]) (rest := []) ⟨hx, hb, hml, hown, hts⟩ (c_X7_isPair l G a0 ma lo e0 e1 e2 e3 e4 e5 H.size 0 rf lk pu tl tk mo su lv si ga sl sc fh lh fo ee pn p1 n_1) (cwV 1 hts gX7_ofPair_X7_isPair rfl rfl rfl (by decide +kernel) ⟨(Nat.le_of_ble_eq_true rfl), (Nat.le_of_ble_eq_true rfl)⟩) (tm_preV hK hN hV hS hPc hDc hFc (va_recv hK hPc (ci := 8) (q0 := 0) rfl rfl)) rfl rfl hl.1 rfl (lv_room (Nat.le_of_ble_eq_true rfl)) dX7_ofPair_7 ⟨(Nat.le_of_ble_eq_true rfl), (Nat.le_of_ble_eq_true rfl)⟩) hS (fun q _ h => hFc q h) hFc (fun r_2 u t H locs ht hvm hw_2 hB hz1 hk1 hS => ?_)
  obtain ⟨hP1, hD1⟩ := hB
  rw [ht] at hP1
  try dsimp only at hw_2
  obtain ⟨hP, hD⟩ := va_join (wr := [tc_I G e1 3 pl, tc_I G e2 3 dr, tc_I G e3 3 sp]) (w1 := [tc_X7 a0 0 ma rf lk pu tl lo, tc_X6 ma tk mo su lv si ga sl sc fh lh fo ee pn e0 e1 e2 e3 e4 e5 a0]) hP hD [0, 1] [2, 3, 4] rfl rfl (by decide) (by decide) hk1 hFc hP1 hD1
  have hP : va_P G.1 vwCl [tc_I G e1 3 pl, tc_I G e2 3 dr, tc_I G e3 3 sp, tc_X7 a0 0 ma rf lk pu tl lo, tc_X6 ma tk mo su lv si ga sl sc fh lh fo ee pn e0 e1 e2 e3 e4 e5 a0] H := hP
  have hD : va_D A [tc_I G e1 3 pl, tc_I G e2 3 dr, tc_I G e3 3 sp, tc_X7 a0 0 ma rf lk pu tl lo, tc_X6 ma tk mo su lv si ga sl sc fh lh fo ee pn e0 e1 e2 e3 e4 e5 a0] := hD
  subst r_2
  refine lv_if_ne (tgt := 19) hx hb dX7_ofPair_10 (by decide) (fun c_3 => ?_) (fun c_3 => ?_)
  · refine lv_iload_n hx hb dX7_ofPair_19 rfl (lv_at hl 2 rfl) ?_
    refine lv_iconst (v := 0) hx hb dX7_ofPair_20 (by decide) ?_
    refine lv_iconst (v := 2) hx hb dX7_ofPair_21 (by decide) ?_
    have hPc := hP.sub (ws' := []) [] rfl
    have hDc := hD.sub (ws' := []) [] (by decide) rfl
    have hFc := va_free (wc := []) hD hS hA [] rfl
    refine va_calli (va_runS (As := [.int p2, .int 0, .int 2]) (rest := []) ⟨hx, hb, hml, hown, hts⟩ (c_X7_in l G  H.size p2 0 2 ) (cwS 3 hts gX7_ofPair_X7_in rfl rfl rfl (by decide +kernel) ⟨(Nat.le_of_ble_eq_true rfl), (Nat.le_of_ble_eq_true rfl)⟩) (tm_preS hK hN hV hS hPc hDc hFc) rfl rfl hl.1 rfl (lv_room (Nat.le_of_ble_eq_true rfl)) dX7_ofPair_22 ⟨(Nat.le_of_ble_eq_true rfl), (Nat.le_of_ble_eq_true rfl)⟩) hS (fun q _ h => hFc q h) hFc (fun r_4 u t H locs ht hvm hw_4 hB hz1 hk1 hS => ?_)
    obtain ⟨hP1, hD1⟩ := hB
    rw [ht] at hP1
    try dsimp only at hw_4
    obtain ⟨hP, hD⟩ := va_join (wr := [tc_I G e1 3 pl, tc_I G e2 3 dr, tc_I G e3 3 sp, tc_X7 a0 0 ma rf lk pu tl lo, tc_X6 ma tk mo su lv si ga sl sc fh lh fo ee pn e0 e1 e2 e3 e4 e5 a0]) (w1 := []) hP hD [] [0, 1, 2, 3, 4] rfl rfl (by decide) (by decide) hk1 hFc hP1 hD1
    have hP : va_P G.1 vwCl [tc_I G e1 3 pl, tc_I G e2 3 dr, tc_I G e3 3 sp, tc_X7 a0 0 ma rf lk pu tl lo, tc_X6 ma tk mo su lv si ga sl sc fh lh fo ee pn e0 e1 e2 e3 e4 e5 a0] H := hP
    have hD : va_D A [tc_I G e1 3 pl, tc_I G e2 3 dr, tc_I G e3 3 sp, tc_X7 a0 0 ma rf lk pu tl lo, tc_X6 ma tk mo su lv si ga sl sc fh lh fo ee pn e0 e1 e2 e3 e4 e5 a0] := hD
    subst r_4
    refine lv_if_ne (tgt := 34) hx hb dX7_ofPair_25 (by decide) (fun c_5 => ?_) (fun c_5 => ?_)
    · refine lv_aload_n hx hb dX7_ofPair_34 rfl (lv_at hl 0 rfl) ?_
      refine lv_iload_n hx hb dX7_ofPair_35 rfl (lv_at hl 1 rfl) ?_
      refine lv_iload_n hx hb dX7_ofPair_36 rfl (lv_at hl 2 rfl) ?_
      have hPc := hP.sub (ws' := [tc_X7 a0 0 ma rf lk pu tl lo, tc_X6 ma tk mo su lv si ga sl sc fh lh fo ee pn e0 e1 e2 e3 e4 e5 a0, tc_I G e1 3 pl, tc_I G e2 3 dr, tc_I G e3 3 sp]) [3, 4, 0, 1, 2] rfl
      have hDc := hD.sub (ws' := [tc_X7 a0 0 ma rf lk pu tl lo, tc_X6 ma tk mo su lv si ga sl sc fh lh fo ee pn e0 e1 e2 e3 e4 e5 a0, tc_I G e1 3 pl, tc_I G e2 3 dr, tc_I G e3 3 sp]) [3, 4, 0, 1, 2] (by decide) rfl
      have hFc := va_free (wc := [tc_X7 a0 0 ma rf lk pu tl lo, tc_X6 ma tk mo su lv si ga sl sc fh lh fo ee pn e0 e1 e2 e3 e4 e5 a0, tc_I G e1 3 pl, tc_I G e2 3 dr, tc_I G e3 3 sp]) hD hS hA [3, 4, 0, 1, 2] rfl
      refine va_calli (va_runV (As := [.int p1, .int p2]) (rest := []) ⟨hx, hb, hml, hown, hts⟩ (c_X7_pairNow l G a0 ma lo e0 e1 e2 e3 e4 e5 H.size 0 rf lk pu tl tk mo su lv si ga sl sc fh lh fo ee pn pl dr sp p1 p2 (n_6 c_3 c_5)) (cwV 2 hts gX7_ofPair_X7_pairNow rfl rfl rfl (by decide +kernel) ⟨(Nat.le_of_ble_eq_true rfl), (Nat.le_of_ble_eq_true rfl)⟩) (tm_preV hK hN hV hS hPc hDc hFc (va_recv hK hPc (ci := 8) (q0 := 0) rfl rfl)) rfl rfl hl.1 rfl (lv_room (Nat.le_of_ble_eq_true rfl)) dX7_ofPair_37 ⟨(Nat.le_of_ble_eq_true rfl), (Nat.le_of_ble_eq_true rfl)⟩) hS (fun q _ h => hFc q h) hFc (fun r_7 u t H locs ht hvm hw_7 hB hz1 hk1 hS => ?_)
      obtain ⟨hP1, hD1⟩ := hB
      rw [ht] at hP1
      try dsimp only at hw_7
      obtain ⟨hP, hD⟩ := va_join (wr := []) (w1 := [tc_X7 a0 0 ma rf lk pu tl lo, tc_X6 ma tk mo su lv si ga sl sc fh lh fo ee pn e0 e1 e2 e3 e4 e5 a0, tc_I G e1 3 pl, tc_I G e2 3 dr, tc_I G e3 3 sp]) hP hD [3, 4, 0, 1, 2] [] rfl rfl (by decide) (by decide) hk1 hFc hP1 hD1
      have hP : va_P G.1 vwCl [tc_X7 a0 0 ma rf lk pu tl lo, tc_X6 ma tk mo su lv si ga sl sc fh lh fo ee pn e0 e1 e2 e3 e4 e5 a0, tc_I G e1 3 pl, tc_I G e2 3 dr, tc_I G e3 3 sp] H := hP
      have hD : va_D A [tc_X7 a0 0 ma rf lk pu tl lo, tc_X6 ma tk mo su lv si ga sl sc fh lh fo ee pn e0 e1 e2 e3 e4 e5 a0, tc_I G e1 3 pl, tc_I G e2 3 dr, tc_I G e3 3 sp] := hD
      subst r_7
      have hP9 := hP.sub (ws' := [tc_X7 a0 0 ma rf lk pu tl lo, tc_X6 ma tk mo su lv si ga sl sc fh lh fo ee pn e0 e1 e2 e3 e4 e5 a0, tc_I G e1 3 pl, tc_I G e2 3 dr, tc_I G e3 3 sp]) [0, 1, 2, 3, 4] rfl
      have hD9 := hD.sub (ws' := [tc_X7 a0 0 ma rf lk pu tl lo, tc_X6 ma tk mo su lv si ga sl sc fh lh fo ee pn e0 e1 e2 e3 e4 e5 a0, tc_I G e1 3 pl, tc_I G e2 3 dr, tc_I G e3 3 sp]) [0, 1, 2, 3, 4] (by decide) rfl
      exact W.iret (v := f_X7_pairNow pl dr sp p1 p2) hx hb hr (fun t ht hW => ⟨⟨f_X7_pairNow pl dr sp p1 p2, (0), rfl, by unfold f_X7_ofPair; all_goals (rw [if_neg c_3]); all_goals (rw [if_neg c_5]); all_goals rfl, by rw [ht]; exact hP9, hD9⟩, hS.F ht⟩) hS.2.2 dX7_ofPair_40
    · refine lv_aload_n hx hb dX7_ofPair_28 rfl (lv_at hl 0 rfl) ?_
      refine lv_iconst (v := 2) hx hb dX7_ofPair_29 (by decide) ?_
      have hPc := hP.sub (ws' := [tc_X7 a0 0 ma rf lk pu tl lo]) [3] rfl
      have hDc := hD.sub (ws' := [tc_X7 a0 0 ma rf lk pu tl lo]) [3] (by decide) rfl
      have hFc := va_free (wc := [tc_X7 a0 0 ma rf lk pu tl lo]) hD hS hA [3] rfl
      refine va_calli (va_runV (As := [.int 2]) (rest := []) ⟨hx, hb, hml, hown, hts⟩ (c_X7_no l G a0 ma lo H.size 0 rf lk pu tl 2 ) (cwV 1 hts gX7_ofPair_X7_no rfl rfl rfl (by decide +kernel) ⟨(Nat.le_of_ble_eq_true rfl), (Nat.le_of_ble_eq_true rfl)⟩) (tm_preV hK hN hV hS hPc hDc hFc (va_recv hK hPc (ci := 8) (q0 := 0) rfl rfl)) rfl rfl hl.1 rfl (lv_room (Nat.le_of_ble_eq_true rfl)) dX7_ofPair_30 ⟨(Nat.le_of_ble_eq_true rfl), (Nat.le_of_ble_eq_true rfl)⟩) hS (fun q _ h => hFc q h) hFc (fun r_8 u t H locs ht hvm hw_8 hB hz1 hk1 hS => ?_)
      obtain ⟨u_9, rfl⟩ : ∃ z, z = u := ⟨_, rfl⟩
      obtain ⟨hP1, hD1⟩ := hB
      rw [ht] at hP1
      try dsimp only at hw_8
      obtain ⟨hP, hD⟩ := va_join (wr := [tc_I G e1 3 pl, tc_I G e2 3 dr, tc_I G e3 3 sp, tc_X6 ma tk mo su lv si ga sl sc fh lh fo ee pn e0 e1 e2 e3 e4 e5 a0]) (w1 := [tc_X7 a0 u_9 ma rf lk pu tl lo]) hP hD [3] [0, 1, 2, 4] rfl rfl (by decide) (by decide) hk1 hFc hP1 hD1
      have hP : va_P G.1 vwCl [tc_I G e1 3 pl, tc_I G e2 3 dr, tc_I G e3 3 sp, tc_X6 ma tk mo su lv si ga sl sc fh lh fo ee pn e0 e1 e2 e3 e4 e5 a0, tc_X7 a0 u_9 ma rf lk pu tl lo] H := hP
      have hD : va_D A [tc_I G e1 3 pl, tc_I G e2 3 dr, tc_I G e3 3 sp, tc_X6 ma tk mo su lv si ga sl sc fh lh fo ee pn e0 e1 e2 e3 e4 e5 a0, tc_X7 a0 u_9 ma rf lk pu tl lo] := hD
      have hP9 := hP.sub (ws' := [tc_X7 a0 u_9 ma rf lk pu tl lo, tc_X6 ma tk mo su lv si ga sl sc fh lh fo ee pn e0 e1 e2 e3 e4 e5 a0, tc_I G e1 3 pl, tc_I G e2 3 dr, tc_I G e3 3 sp]) [4, 3, 0, 1, 2] rfl
      have hD9 := hD.sub (ws' := [tc_X7 a0 u_9 ma rf lk pu tl lo, tc_X6 ma tk mo su lv si ga sl sc fh lh fo ee pn e0 e1 e2 e3 e4 e5 a0, tc_I G e1 3 pl, tc_I G e2 3 dr, tc_I G e3 3 sp]) [4, 3, 0, 1, 2] (by decide) rfl
      exact W.iret (v := r_8) hx hb hr (fun t ht hW => ⟨⟨r_8, (u_9), rfl, by unfold f_X7_ofPair; all_goals (rw [if_neg c_3]); all_goals (rw [if_pos c_5]); all_goals (rw [← hw_8]); all_goals (dsimp only); all_goals rfl, by rw [ht]; exact hP9, hD9⟩, hS.F ht⟩) hS.2.2 dX7_ofPair_33
  · refine lv_aload_n hx hb dX7_ofPair_13 rfl (lv_at hl 0 rfl) ?_
    refine lv_iconst (v := 1) hx hb dX7_ofPair_14 (by decide) ?_
    have hPc := hP.sub (ws' := [tc_X7 a0 0 ma rf lk pu tl lo]) [3] rfl
    have hDc := hD.sub (ws' := [tc_X7 a0 0 ma rf lk pu tl lo]) [3] (by decide) rfl
    have hFc := va_free (wc := [tc_X7 a0 0 ma rf lk pu tl lo]) hD hS hA [3] rfl
    refine va_calli (va_runV (As := [.int 1]) (rest := []) ⟨hx, hb, hml, hown, hts⟩ (c_X7_no l G a0 ma lo H.size 0 rf lk pu tl 1 ) (cwV 1 hts gX7_ofPair_X7_no rfl rfl rfl (by decide +kernel) ⟨(Nat.le_of_ble_eq_true rfl), (Nat.le_of_ble_eq_true rfl)⟩) (tm_preV hK hN hV hS hPc hDc hFc (va_recv hK hPc (ci := 8) (q0 := 0) rfl rfl)) rfl rfl hl.1 rfl (lv_room (Nat.le_of_ble_eq_true rfl)) dX7_ofPair_15 ⟨(Nat.le_of_ble_eq_true rfl), (Nat.le_of_ble_eq_true rfl)⟩) hS (fun q _ h => hFc q h) hFc (fun r_10 u t H locs ht hvm hw_10 hB hz1 hk1 hS => ?_)
    obtain ⟨u_11, rfl⟩ : ∃ z, z = u := ⟨_, rfl⟩
    obtain ⟨hP1, hD1⟩ := hB
    rw [ht] at hP1
    try dsimp only at hw_10
    obtain ⟨hP, hD⟩ := va_join (wr := [tc_I G e1 3 pl, tc_I G e2 3 dr, tc_I G e3 3 sp, tc_X6 ma tk mo su lv si ga sl sc fh lh fo ee pn e0 e1 e2 e3 e4 e5 a0]) (w1 := [tc_X7 a0 u_11 ma rf lk pu tl lo]) hP hD [3] [0, 1, 2, 4] rfl rfl (by decide) (by decide) hk1 hFc hP1 hD1
    have hP : va_P G.1 vwCl [tc_I G e1 3 pl, tc_I G e2 3 dr, tc_I G e3 3 sp, tc_X6 ma tk mo su lv si ga sl sc fh lh fo ee pn e0 e1 e2 e3 e4 e5 a0, tc_X7 a0 u_11 ma rf lk pu tl lo] H := hP
    have hD : va_D A [tc_I G e1 3 pl, tc_I G e2 3 dr, tc_I G e3 3 sp, tc_X6 ma tk mo su lv si ga sl sc fh lh fo ee pn e0 e1 e2 e3 e4 e5 a0, tc_X7 a0 u_11 ma rf lk pu tl lo] := hD
    have hP9 := hP.sub (ws' := [tc_X7 a0 u_11 ma rf lk pu tl lo, tc_X6 ma tk mo su lv si ga sl sc fh lh fo ee pn e0 e1 e2 e3 e4 e5 a0, tc_I G e1 3 pl, tc_I G e2 3 dr, tc_I G e3 3 sp]) [4, 3, 0, 1, 2] rfl
    have hD9 := hD.sub (ws' := [tc_X7 a0 u_11 ma rf lk pu tl lo, tc_X6 ma tk mo su lv si ga sl sc fh lh fo ee pn e0 e1 e2 e3 e4 e5 a0, tc_I G e1 3 pl, tc_I G e2 3 dr, tc_I G e3 3 sp]) [4, 3, 0, 1, 2] (by decide) rfl
    exact W.iret (v := r_10) hx hb hr (fun t ht hW => ⟨⟨r_10, (u_11), rfl, by unfold f_X7_ofPair; all_goals (rw [if_pos c_3]); all_goals (rw [← hw_10]); all_goals (dsimp only); all_goals rfl, by rw [ht]; exact hP9, hD9⟩, hS.F ht⟩) hS.2.2 dX7_ofPair_18
set_option maxHeartbeats 4000000 in
set_option maxRecDepth 100000 in
theorem c_X7_dull (l : Launch) (G : tm_G) (a0 : Nat) (ma : Nat) (lo : Nat) (e0 : Nat) (e1 : Nat) (e2 : Nat) (e3 : Nat) (e4 : Nat) (e5 : Nat) (sz : Nat) (th : Int32) (rf : Int32) (lk : Int32) (pu : Int32) (tl : UInt64) (tk : Int32) (mo : Int32) (su : UInt64) (lv : UInt64) (si : UInt32) (ga : Int32) (sl : Int32) (sc : Int32) (fh : Int32) (lh : Int32) (fo : UInt64) (ee : Int32) (pn : Int32) (dl : Nat → UInt32) (p1 : Int32) (hn : n_X7_dull pn dl p1) : Met l yX7_dull wsX7_dull ({ frames := 2, cells := 0, slots := 0, locals := 43 }) (va_Pc [.ref a0, .int p1] (tm_B G [tc_X7 a0 th ma rf lk pu tl lo, tc_X6 ma tk mo su lv si ga sl sc fh lh fo ee pn e0 e1 e2 e3 e4 e5 a0, tc_F G e0 3 dl] sz)) (va_Qd (fun (r : UInt64) (u : Int32) => (r, u) = f_X7_dull pn dl p1) (fun (u : Int32) (t : State) => va_P G.1 vwCl [tc_X7 a0 u ma rf lk pu tl lo, tc_X6 ma tk mo su lv si ga sl sc fh lh fo ee pn e0 e1 e2 e3 e4 e5 a0, tc_F G e0 3 dl] t.heap ∧ va_D (va_A [tc_X7 a0 th ma rf lk pu tl lo, tc_X6 ma tk mo su lv si ga sl sc fh lh fo ee pn e0 e1 e2 e3 e4 e5 a0, tc_F G e0 3 dl] sz) [tc_X7 a0 u ma rf lk pu tl lo, tc_X6 ma tk mo su lv si ga sl sc fh lh fo ee pn e0 e1 e2 e3 e4 e5 a0, tc_F G e0 3 dl]) (va_A [tc_X7 a0 th ma rf lk pu tl lo, tc_X6 ma tk mo su lv si ga sl sc fh lh fo ee pn e0 e1 e2 e3 e4 e5 a0, tc_F G e0 3 dl] sz)) 0 0 (va_A [tc_X7 a0 th ma rf lk pu tl lo, tc_X6 ma tk mo su lv si ga sl sc fh lh fo ee pn e0 e1 e2 e3 e4 e5 a0, tc_F G e0 3 dl] sz) := by
  refine Met.ofW (cc := cX7_dull) (maxL := 2) (ret := (some .double)) (by decide) rfl ?_
  intro p e s m args below meth c s₁ B hml hv
  obtain ⟨rfl, hsz, hP, hK, hD0, hN, hV⟩ := hv
  have hx := B.exec
  have hb := B.bytes
  have hr := B.returns
  have hts := atoms_spec (ws := wsX7_dull) B.pre
  have hown : s.vm.findClass RX7 = some m.cls := findClass_of_methodNamed B.named
  have hlocks := B.notSynchronized
  subst hsz
  obtain ⟨n_1, n_4, n_5⟩ := hn
  have hiX6 : ∀ w ∈ u_ws RX6 TX6 20, w ∈ wsX7_dull := fun _ h => List.mem_cons_of_mem _ (List.mem_append_right _ h)
  have hiX7 : ∀ w ∈ u_ws RX7 TX7 7, w ∈ wsX7_dull := fun _ h => List.mem_cons_of_mem _ (List.mem_append_left _ (List.mem_append_right _ h))
  have hD := hD0.self (sz := s.heap.size)
  generalize hAe : va_A [tc_X7 a0 th ma rf lk pu tl lo, tc_X6 ma tk mo su lv si ga sl sc fh lh fo ee pn e0 e1 e2 e3 e4 e5 a0, tc_F G e0 3 dl] s.heap.size = A at hD hV ⊢
  have hA : ∀ q : Nat, s.heap.size ≤ q → A q := fun q h => by rw [← hAe]; exact Or.inr h
  have hS : va_S A s.heap s.heap [] := va_S.rf
  have hl := lv_entry ([.ref a0, .int p1]) (n := 2) (Nat.le_of_ble_eq_true rfl)
  rw [lg_entry_eq]
  generalize (lg_sl ([.ref a0, .int p1]) ++ List.replicate (2 - (lg_sl ([.ref a0, .int p1])).length) Slot.unset).toArray = ls at hl ⊢
  have hl : lv_has ls 2 [(0, .ref a0), (1, .int p1)] := hl
  refine lv_aload_n hx hb dX7_dull_0 rfl (lv_at hl 0 rfl) ?_
  refine lv_iconst (v := 0) hx hb dX7_dull_1 (by decide) ?_
  refine va_put (D := G.1) (ci := 8) (v := .int 0) (ty := .int) (C := RX7) (T := TX7) (N := 7) hx hb hts hiX7 tyX7 tyX7_ok nmX7 hown hK hP hD hS 0 rfl rfl 0 (by decide) (hts (.fieldLink RX7 25 "TideMillModel" "thrown" "I") (List.mem_of_getElem? (i := 1) rfl)) (fun _ h9 => h9) rfl (by decide +kernel) rfl rfl (Nat.le_of_ble_eq_true rfl) dX7_dull_2 (fun H locs hP hD hS => ?_)
  have hP : va_P G.1 vwCl [tc_X7 a0 0 ma rf lk pu tl lo, tc_X6 ma tk mo su lv si ga sl sc fh lh fo ee pn e0 e1 e2 e3 e4 e5 a0, tc_F G e0 3 dl] H := hP
  have hD : va_D A [tc_X7 a0 0 ma rf lk pu tl lo, tc_X6 ma tk mo su lv si ga sl sc fh lh fo ee pn e0 e1 e2 e3 e4 e5 a0, tc_F G e0 3 dl] := hD
  refine lv_aload_n hx hb dX7_dull_5 rfl (lv_at hl 0 rfl) ?_
  refine lv_iload_n hx hb dX7_dull_6 rfl (lv_at hl 1 rfl) ?_
  have hPc := hP.sub (ws' := [tc_X7 a0 0 ma rf lk pu tl lo, tc_X6 ma tk mo su lv si ga sl sc fh lh fo ee pn e0 e1 e2 e3 e4 e5 a0]) [0, 1] rfl
  have hDc := hD.sub (ws' := [tc_X7 a0 0 ma rf lk pu tl lo, tc_X6 ma tk mo su lv si ga sl sc fh lh fo ee pn e0 e1 e2 e3 e4 e5 a0]) [0, 1] (by decide) rfl
  have hFc := va_free (wc := [tc_X7 a0 0 ma rf lk pu tl lo, tc_X6 ma tk mo su lv si ga sl sc fh lh fo ee pn e0 e1 e2 e3 e4 e5 a0]) hD hS hA [0, 1] rfl
  refine va_calli (va_runV (As := [.int p1]) (rest := []) ⟨hx, hb, hml, hown, hts⟩ (c_X7_isPair l G a0 ma lo e0 e1 e2 e3 e4 e5 H.size 0 rf lk pu tl tk mo su lv si ga sl sc fh lh fo ee pn p1 n_1) (cwV 1 hts gX7_dull_X7_isPair rfl rfl rfl (by decide +kernel) ⟨(Nat.le_of_ble_eq_true rfl), (Nat.le_of_ble_eq_true rfl)⟩) (tm_preV hK hN hV hS hPc hDc hFc (va_recv hK hPc (ci := 8) (q0 := 0) rfl rfl)) rfl rfl hl.1 rfl (lv_room (Nat.le_of_ble_eq_true rfl)) dX7_dull_7 ⟨(Nat.le_of_ble_eq_true rfl), (Nat.le_of_ble_eq_true rfl)⟩) hS (fun q _ h => hFc q h) hFc (fun r_2 u t H locs ht hvm hw_2 hB hz1 hk1 hS => ?_)
  obtain ⟨hP1, hD1⟩ := hB
  rw [ht] at hP1
  try dsimp only at hw_2
  obtain ⟨hP, hD⟩ := va_join (wr := [tc_F G e0 3 dl]) (w1 := [tc_X7 a0 0 ma rf lk pu tl lo, tc_X6 ma tk mo su lv si ga sl sc fh lh fo ee pn e0 e1 e2 e3 e4 e5 a0]) hP hD [0, 1] [2] rfl rfl (by decide) (by decide) hk1 hFc hP1 hD1
  have hP : va_P G.1 vwCl [tc_F G e0 3 dl, tc_X7 a0 0 ma rf lk pu tl lo, tc_X6 ma tk mo su lv si ga sl sc fh lh fo ee pn e0 e1 e2 e3 e4 e5 a0] H := hP
  have hD : va_D A [tc_F G e0 3 dl, tc_X7 a0 0 ma rf lk pu tl lo, tc_X6 ma tk mo su lv si ga sl sc fh lh fo ee pn e0 e1 e2 e3 e4 e5 a0] := hD
  subst r_2
  refine lv_if_ne (tgt := 20) hx hb dX7_dull_10 (by decide) (fun c_3 => ?_) (fun c_3 => ?_)
  · refine lv_aload_n hx hb dX7_dull_20 rfl (lv_at hl 0 rfl) ?_
    refine va_get (D := G.1) (ci := 8) (v := .ref ma) (C := RX7) (T := TX7) (N := 7) hx hb hts hiX7 hown hK hP 1 rfl rfl 1 (by decide) (hts (.fieldLink RX7 12 "TideMillModel" "mill" "LTideMillModel$Mill;") (List.mem_of_getElem? (i := 2) rfl)) (fun _ h9 => h9) rfl dX7_dull_21 ?_
    refine va_get (D := G.1) (ci := 7) (v := .ref e0) (C := RX6) (T := TX6) (N := 20) hx hb hts hiX6 hown hK hP 2 rfl rfl 13 (by decide) (hts (.fieldLink RX7 127 "TideMillModel$Mill" "dull" "[F") (List.mem_of_getElem? (i := 3) rfl)) (fun _ h9 => h9) rfl dX7_dull_24 ?_
    refine lv_iload_n hx hb dX7_dull_27 rfl (lv_at hl 1 rfl) ?_
    refine va_fald (n := 3) (f := dl) hx hb hK hP 0 2 rfl rfl (n_4 c_3) dX7_dull_28 ?_
    refine lv_f2d hx hb dX7_dull_29 (n_5 c_3) ?_
    have hP9 := hP.sub (ws' := [tc_X7 a0 0 ma rf lk pu tl lo, tc_X6 ma tk mo su lv si ga sl sc fh lh fo ee pn e0 e1 e2 e3 e4 e5 a0, tc_F G e0 3 dl]) [1, 2, 0] rfl
    have hD9 := hD.sub (ws' := [tc_X7 a0 0 ma rf lk pu tl lo, tc_X6 ma tk mo su lv si ga sl sc fh lh fo ee pn e0 e1 e2 e3 e4 e5 a0, tc_F G e0 3 dl]) [1, 2, 0] (by decide) rfl
    exact W.dret (v := FP.f2d (dl p1.toNatClampNeg)) hx hb hr (fun t ht hW => ⟨⟨FP.f2d (dl p1.toNatClampNeg), (0), rfl, by unfold f_X7_dull; all_goals (rw [if_neg c_3]); all_goals rfl, by rw [ht]; exact hP9, hD9⟩, hS.F ht⟩) hS.2.2 dX7_dull_30
  · refine lv_aload_n hx hb dX7_dull_13 rfl (lv_at hl 0 rfl) ?_
    refine lv_iconst (v := 1) hx hb dX7_dull_14 (by decide) ?_
    have hPc := hP.sub (ws' := [tc_X7 a0 0 ma rf lk pu tl lo]) [1] rfl
    have hDc := hD.sub (ws' := [tc_X7 a0 0 ma rf lk pu tl lo]) [1] (by decide) rfl
    have hFc := va_free (wc := [tc_X7 a0 0 ma rf lk pu tl lo]) hD hS hA [1] rfl
    refine va_calli (va_runV (As := [.int 1]) (rest := []) ⟨hx, hb, hml, hown, hts⟩ (c_X7_no l G a0 ma lo H.size 0 rf lk pu tl 1 ) (cwV 1 hts gX7_dull_X7_no rfl rfl rfl (by decide +kernel) ⟨(Nat.le_of_ble_eq_true rfl), (Nat.le_of_ble_eq_true rfl)⟩) (tm_preV hK hN hV hS hPc hDc hFc (va_recv hK hPc (ci := 8) (q0 := 0) rfl rfl)) rfl rfl hl.1 rfl (lv_room (Nat.le_of_ble_eq_true rfl)) dX7_dull_15 ⟨(Nat.le_of_ble_eq_true rfl), (Nat.le_of_ble_eq_true rfl)⟩) hS (fun q _ h => hFc q h) hFc (fun r_6 u t H locs ht hvm hw_6 hB hz1 hk1 hS => ?_)
    obtain ⟨u_7, rfl⟩ : ∃ z, z = u := ⟨_, rfl⟩
    obtain ⟨hP1, hD1⟩ := hB
    rw [ht] at hP1
    try dsimp only at hw_6
    obtain ⟨hP, hD⟩ := va_join (wr := [tc_F G e0 3 dl, tc_X6 ma tk mo su lv si ga sl sc fh lh fo ee pn e0 e1 e2 e3 e4 e5 a0]) (w1 := [tc_X7 a0 u_7 ma rf lk pu tl lo]) hP hD [1] [0, 2] rfl rfl (by decide) (by decide) hk1 hFc hP1 hD1
    have hP : va_P G.1 vwCl [tc_F G e0 3 dl, tc_X6 ma tk mo su lv si ga sl sc fh lh fo ee pn e0 e1 e2 e3 e4 e5 a0, tc_X7 a0 u_7 ma rf lk pu tl lo] H := hP
    have hD : va_D A [tc_F G e0 3 dl, tc_X6 ma tk mo su lv si ga sl sc fh lh fo ee pn e0 e1 e2 e3 e4 e5 a0, tc_X7 a0 u_7 ma rf lk pu tl lo] := hD
    refine lv_i2d hx hb dX7_dull_18 ?_
    have hP9 := hP.sub (ws' := [tc_X7 a0 u_7 ma rf lk pu tl lo, tc_X6 ma tk mo su lv si ga sl sc fh lh fo ee pn e0 e1 e2 e3 e4 e5 a0, tc_F G e0 3 dl]) [2, 1, 0] rfl
    have hD9 := hD.sub (ws' := [tc_X7 a0 u_7 ma rf lk pu tl lo, tc_X6 ma tk mo su lv si ga sl sc fh lh fo ee pn e0 e1 e2 e3 e4 e5 a0, tc_F G e0 3 dl]) [2, 1, 0] (by decide) rfl
    exact W.dret (v := FP.i2d r_6) hx hb hr (fun t ht hW => ⟨⟨FP.i2d r_6, (u_7), rfl, by unfold f_X7_dull; all_goals (rw [if_pos c_3]); all_goals (rw [← hw_6]); all_goals (dsimp only); all_goals rfl, by rw [ht]; exact hP9, hD9⟩, hS.F ht⟩) hS.2.2 dX7_dull_19
set_option maxHeartbeats 4000000 in
set_option maxRecDepth 100000 in
theorem c_X7_lotNow (l : Launch) (G : tm_G) (a0 : Nat) (ma : Nat) (lo : Nat) (e0 : Nat) (e1 : Nat) (e2 : Nat) (e3 : Nat) (e4 : Nat) (e5 : Nat) (ed : Nat) (sz : Nat) (th : Int32) (rf : Int32) (lk : Int32) (pu : Int32) (tl : UInt64) (tk : Int32) (mo : Int32) (su : UInt64) (lv : UInt64) (si : UInt32) (ga : Int32) (sl : Int32) (sc : Int32) (fh : Int32) (lh : Int32) (fo : UInt64) (ee : Int32) (pn : Int32) (pl : Nat → Int32) (mc : Int32) (p1 : Int32) (p2 : Int32) (n : Nat) (ad : Nat → Nat) (rc : Nat → Nat → Int32) (hn : n_X7_lotNow pn pl p1 p2 n) : Met l yX7_lotNow wsX7_lotNow ({ frames := 3, cells := 0, slots := 0, locals := 64 }) (va_Pc [.ref a0, .int p1, .int p2] (tm_B G ([tc_X7 a0 th ma rf lk pu tl lo, tc_X6 ma tk mo su lv si ga sl sc fh lh fo ee pn e0 e1 e2 e3 e4 e5 a0, tc_I G e1 3 pl, tc_Jx4a65c lo mc ed (nI n)] ++ tm_L G ed n ad rc) sz)) (va_Qi (fun (r : Int32) (u : Unit) => r = f_X7_lotNow pn pl p1 p2 rc) (fun (u : Unit) (t : State) => va_P G.1 vwCl ([tc_X7 a0 th ma rf lk pu tl lo, tc_X6 ma tk mo su lv si ga sl sc fh lh fo ee pn e0 e1 e2 e3 e4 e5 a0, tc_I G e1 3 pl, tc_Jx4a65c lo mc ed (nI n)] ++ tm_L G ed n ad rc) t.heap ∧ va_D (va_A ([tc_X7 a0 th ma rf lk pu tl lo, tc_X6 ma tk mo su lv si ga sl sc fh lh fo ee pn e0 e1 e2 e3 e4 e5 a0, tc_I G e1 3 pl, tc_Jx4a65c lo mc ed (nI n)] ++ tm_L G ed n ad rc) sz) ([tc_X7 a0 th ma rf lk pu tl lo, tc_X6 ma tk mo su lv si ga sl sc fh lh fo ee pn e0 e1 e2 e3 e4 e5 a0, tc_I G e1 3 pl, tc_Jx4a65c lo mc ed (nI n)] ++ tm_L G ed n ad rc)) (va_A ([tc_X7 a0 th ma rf lk pu tl lo, tc_X6 ma tk mo su lv si ga sl sc fh lh fo ee pn e0 e1 e2 e3 e4 e5 a0, tc_I G e1 3 pl, tc_Jx4a65c lo mc ed (nI n)] ++ tm_L G ed n ad rc) sz)) 0 0 (va_A ([tc_X7 a0 th ma rf lk pu tl lo, tc_X6 ma tk mo su lv si ga sl sc fh lh fo ee pn e0 e1 e2 e3 e4 e5 a0, tc_I G e1 3 pl, tc_Jx4a65c lo mc ed (nI n)] ++ tm_L G ed n ad rc) sz) := by
  refine Met.ofW (cc := cX7_lotNow) (maxL := 3) (ret := (some .int)) (by decide) rfl ?_
  intro p e s m args below meth c s₁ B hml hv
  obtain ⟨rfl, hsz, hP, hK, hD0, hN, hV⟩ := hv
  have hx := B.exec
  have hb := B.bytes
  have hr := B.returns
  have hts := atoms_spec (ws := wsX7_lotNow) B.pre
  have hown : s.vm.findClass RX7 = some m.cls := findClass_of_methodNamed B.named
  have hlocks := B.notSynchronized
  subst hsz
  obtain ⟨n_2, n_4, n_5, n_6⟩ := hn
  have hiX7 : ∀ w ∈ u_ws RX7 TX7 7, w ∈ wsX7_lotNow := fun _ h => List.mem_cons_of_mem _ (List.mem_append_left _ (List.mem_append_left _ (List.mem_append_right _ h)))
  have hD := hD0.self (sz := s.heap.size)
  generalize hAe : va_A ([tc_X7 a0 th ma rf lk pu tl lo, tc_X6 ma tk mo su lv si ga sl sc fh lh fo ee pn e0 e1 e2 e3 e4 e5 a0, tc_I G e1 3 pl, tc_Jx4a65c lo mc ed (nI n)] ++ tm_L G ed n ad rc) s.heap.size = A at hD hV ⊢
  have hA : ∀ q : Nat, s.heap.size ≤ q → A q := fun q h => by rw [← hAe]; exact Or.inr h
  have hS : va_S A s.heap s.heap [] := va_S.rf
  have hl := lv_entry ([.ref a0, .int p1, .int p2]) (n := 3) (Nat.le_of_ble_eq_true rfl)
  rw [lg_entry_eq]
  generalize (lg_sl ([.ref a0, .int p1, .int p2]) ++ List.replicate (3 - (lg_sl ([.ref a0, .int p1, .int p2])).length) Slot.unset).toArray = ls at hl ⊢
  have hl : lv_has ls 3 [(0, .ref a0), (1, .int p1), (2, .int p2)] := hl
  refine lv_iload_n hx hb dX7_lotNow_0 rfl (lv_at hl 2 rfl) ?_
  refine lv_iconst (v := 5) hx hb dX7_lotNow_1 (by decide) ?_
  refine lv_icmp_ne (tgt := 16) hx hb dX7_lotNow_2 (by decide) (fun c_1 => ?_) (fun c_1 => ?_)
  · refine lv_aload_n hx hb dX7_lotNow_16 rfl (lv_at hl 0 rfl) ?_
    refine va_get (D := G.1) (ci := 8) (v := .ref lo) (C := RX7) (T := TX7) (N := 7) hx hb hts hiX7 hown hK hP 0 rfl rfl 6 (by decide) (hts (.fieldLink RX7 21 "TideMillModel" "lots" "Ljava/util/List;") (List.mem_of_getElem? (i := 2) rfl)) (fun _ h9 => h9) rfl dX7_lotNow_17 ?_
    refine lv_iload_n hx hb dX7_lotNow_20 rfl (lv_at hl 1 rfl) ?_
    have hPc := va_P.part (X := [tc_X7 a0 th ma rf lk pu tl lo, tc_X6 ma tk mo su lv si ga sl sc fh lh fo ee pn e0 e1 e2 e3 e4 e5 a0, tc_I G e1 3 pl, tc_Jx4a65c lo mc ed (nI n)]) (cx := [tc_Jx4a65c lo mc ed (nI n)]) (pl := tm_L G ed n ad rc) hP [3] rfl
    have hDc := va_D.part (X := [tc_X7 a0 th ma rf lk pu tl lo, tc_X6 ma tk mo su lv si ga sl sc fh lh fo ee pn e0 e1 e2 e3 e4 e5 a0, tc_I G e1 3 pl, tc_Jx4a65c lo mc ed (nI n)]) (cx := [tc_Jx4a65c lo mc ed (nI n)]) (pl := tm_L G ed n ad rc) hD [3] (by decide) rfl
    have hFc := va_freeP (X := [tc_X7 a0 th ma rf lk pu tl lo, tc_X6 ma tk mo su lv si ga sl sc fh lh fo ee pn e0 e1 e2 e3 e4 e5 a0, tc_I G e1 3 pl, tc_Jx4a65c lo mc ed (nI n)]) (cx := [tc_Jx4a65c lo mc ed (nI n)]) (pl := tm_L G ed n ad rc) hD hS hA [3] rfl
    refine va_callFr (va_runF (As := [.int p1]) (rest := []) (hK.1 0 (RJx4a65c, TJx4a65c, 3) rfl).2 ⟨hx, hb, hml, hown, hts⟩ (c_Jx4a65c_get_915e3 l G lo ed s.heap.size mc p1 n ad rc (n_2 c_1)) (va_cwF 1 hts gX7_lotNow_Jx4a65c_get_915e3_f39Jx4a65c rfl rfl rfl (hN.2.2.2.2.1 (⟨"java/util/List", "get", "(I)Ljava/lang/Object;"⟩, yJx4a65c_get_915e3) (List.mem_of_getElem? (i := 1) rfl)) (by decide +kernel) ⟨(Nat.le_of_ble_eq_true rfl), (Nat.le_of_ble_eq_true rfl)⟩) (tm_preV hK hN hV hS hPc hDc hFc (va_recv hK hPc (ci := 0) (q0 := 0) rfl rfl)) rfl rfl hl.1 rfl (lv_room (Nat.le_of_ble_eq_true rfl)) dX7_lotNow_21 ⟨(Nat.le_of_ble_eq_true rfl), (Nat.le_of_ble_eq_true rfl)⟩) hS (fun q _ h => hFc q h) hFc (fun u ra t H locs ht hvm hw_3 hB hz1 hk1 hS => ?_)
    obtain ⟨rfl, hP1, hD1⟩ := hB
    rw [ht] at hP1
    obtain ⟨hP, hD⟩ := va_joinP (X := [tc_X7 a0 th ma rf lk pu tl lo, tc_X6 ma tk mo su lv si ga sl sc fh lh fo ee pn e0 e1 e2 e3 e4 e5 a0, tc_I G e1 3 pl, tc_Jx4a65c lo mc ed (nI n)]) (cx := [tc_Jx4a65c lo mc ed (nI n)]) (wr := [tc_X7 a0 th ma rf lk pu tl lo, tc_X6 ma tk mo su lv si ga sl sc fh lh fo ee pn e0 e1 e2 e3 e4 e5 a0, tc_I G e1 3 pl]) (rx := [tc_Jx4a65c lo mc ed (nI n)]) (pl := tm_L G ed n ad rc) (pl1 := tm_L G ed n ad rc) hP hD [3] [0, 1, 2] rfl rfl (by decide) (by decide) hk1 hFc hP1 hD1
    have hP : va_P G.1 vwCl ([tc_X7 a0 th ma rf lk pu tl lo, tc_X6 ma tk mo su lv si ga sl sc fh lh fo ee pn e0 e1 e2 e3 e4 e5 a0, tc_I G e1 3 pl, tc_Jx4a65c lo mc ed (nI n)] ++ tm_L G ed n ad rc) H := hP
    have hD : va_D A ([tc_X7 a0 th ma rf lk pu tl lo, tc_X6 ma tk mo su lv si ga sl sc fh lh fo ee pn e0 e1 e2 e3 e4 e5 a0, tc_I G e1 3 pl, tc_Jx4a65c lo mc ed (nI n)] ++ tm_L G ed n ad rc) := hD
    refine va_castA hx hb hown (hts (.classLink RX7 43 "[I") (List.mem_of_getElem? (i := 3) rfl)) hP _ (tm_L_get (tm_lt (n_4 c_1))) (hK.2 0 (G.2.1, .int) rfl).2 dX7_lotNow_26 ?_
    refine lv_iload_n hx hb dX7_lotNow_29 rfl (lv_at hl 2 rfl) ?_
    refine va_iald (n := 5) (f := rc p1.toNatClampNeg) hx hb hK hP _ 0 (tm_L_get (tm_lt (n_4 c_1))) rfl (n_5 c_1) dX7_lotNow_30 ?_
    have hP9 := va_P.part (X := [tc_X7 a0 th ma rf lk pu tl lo, tc_X6 ma tk mo su lv si ga sl sc fh lh fo ee pn e0 e1 e2 e3 e4 e5 a0, tc_I G e1 3 pl, tc_Jx4a65c lo mc ed (nI n)]) (cx := [tc_X7 a0 th ma rf lk pu tl lo, tc_X6 ma tk mo su lv si ga sl sc fh lh fo ee pn e0 e1 e2 e3 e4 e5 a0, tc_I G e1 3 pl, tc_Jx4a65c lo mc ed (nI n)]) (pl := tm_L G ed n ad rc) hP [0, 1, 2, 3] rfl
    have hD9 := va_D.part (X := [tc_X7 a0 th ma rf lk pu tl lo, tc_X6 ma tk mo su lv si ga sl sc fh lh fo ee pn e0 e1 e2 e3 e4 e5 a0, tc_I G e1 3 pl, tc_Jx4a65c lo mc ed (nI n)]) (cx := [tc_X7 a0 th ma rf lk pu tl lo, tc_X6 ma tk mo su lv si ga sl sc fh lh fo ee pn e0 e1 e2 e3 e4 e5 a0, tc_I G e1 3 pl, tc_Jx4a65c lo mc ed (nI n)]) (pl := tm_L G ed n ad rc) hD [0, 1, 2, 3] (by decide) rfl
    exact W.iret (v := rc p1.toNatClampNeg p2.toNatClampNeg) hx hb hr (fun t ht hW => ⟨⟨rc p1.toNatClampNeg p2.toNatClampNeg, (), rfl, by unfold f_X7_lotNow; all_goals (rw [if_neg c_1]); all_goals rfl, by rw [ht]; exact hP9, hD9⟩, hS.F ht⟩) hS.2.2 dX7_lotNow_31
  · refine lv_aload_n hx hb dX7_lotNow_5 rfl (lv_at hl 0 rfl) ?_
    refine va_get (D := G.1) (ci := 8) (v := .ref ma) (C := RX7) (T := TX7) (N := 7) hx hb hts hiX7 hown hK hP 0 rfl rfl 1 (by decide) (hts (.fieldLink RX7 12 "TideMillModel" "mill" "LTideMillModel$Mill;") (List.mem_of_getElem? (i := 1) rfl)) (fun _ h9 => h9) rfl dX7_lotNow_6 ?_
    refine lv_iload_n hx hb dX7_lotNow_9 rfl (lv_at hl 1 rfl) ?_
    have hPc := hP.sub (ws' := [tc_X6 ma tk mo su lv si ga sl sc fh lh fo ee pn e0 e1 e2 e3 e4 e5 a0, tc_I G e1 3 pl]) [1, 2] rfl
    have hDc := hD.sub (ws' := [tc_X6 ma tk mo su lv si ga sl sc fh lh fo ee pn e0 e1 e2 e3 e4 e5 a0, tc_I G e1 3 pl]) [1, 2] (by decide) rfl
    have hFc := va_free (wc := [tc_X6 ma tk mo su lv si ga sl sc fh lh fo ee pn e0 e1 e2 e3 e4 e5 a0, tc_I G e1 3 pl]) hD hS hA [1, 2] rfl
    refine va_calli (va_runV (As := [.int p1]) (rest := []) ⟨hx, hb, hml, hown, hts⟩ (c_X6_pairOf l G ma e0 e1 e2 e3 e4 e5 a0 s.heap.size tk mo su lv si ga sl sc fh lh fo ee pn pl p1 (n_6 c_1)) (cwV 1 hts gX7_lotNow_X6_pairOf rfl rfl rfl (by decide +kernel) ⟨(Nat.le_of_ble_eq_true rfl), (Nat.le_of_ble_eq_true rfl)⟩) (tm_preV hK hN hV hS hPc hDc hFc (va_recv hK hPc (ci := 7) (q0 := 0) rfl rfl)) rfl rfl hl.1 rfl (lv_room (Nat.le_of_ble_eq_true rfl)) dX7_lotNow_10 ⟨(Nat.le_of_ble_eq_true rfl), (Nat.le_of_ble_eq_true rfl)⟩) hS (fun q _ h => hFc q h) hFc (fun r_7 u t H locs ht hvm hw_7 hB hz1 hk1 hS => ?_)
    obtain ⟨hP1, hD1⟩ := hB
    rw [ht] at hP1
    try dsimp only at hw_7
    obtain ⟨hP, hD⟩ := va_joinQ (X := [tc_X7 a0 th ma rf lk pu tl lo, tc_X6 ma tk mo su lv si ga sl sc fh lh fo ee pn e0 e1 e2 e3 e4 e5 a0, tc_I G e1 3 pl, tc_Jx4a65c lo mc ed (nI n)]) (cx := [tc_X6 ma tk mo su lv si ga sl sc fh lh fo ee pn e0 e1 e2 e3 e4 e5 a0, tc_I G e1 3 pl]) (wr := [tc_X7 a0 th ma rf lk pu tl lo, tc_Jx4a65c lo mc ed (nI n)]) (w1 := [tc_X6 ma tk mo su lv si ga sl sc fh lh fo ee pn e0 e1 e2 e3 e4 e5 a0, tc_I G e1 3 pl]) (pl := tm_L G ed n ad rc) hP hD [1, 2] [0, 3] rfl rfl (by decide) (by decide) hk1 hFc hP1 hD1
    have hP : va_P G.1 vwCl ([tc_X7 a0 th ma rf lk pu tl lo, tc_Jx4a65c lo mc ed (nI n), tc_X6 ma tk mo su lv si ga sl sc fh lh fo ee pn e0 e1 e2 e3 e4 e5 a0, tc_I G e1 3 pl] ++ tm_L G ed n ad rc) H := hP
    have hD : va_D A ([tc_X7 a0 th ma rf lk pu tl lo, tc_Jx4a65c lo mc ed (nI n), tc_X6 ma tk mo su lv si ga sl sc fh lh fo ee pn e0 e1 e2 e3 e4 e5 a0, tc_I G e1 3 pl] ++ tm_L G ed n ad rc) := hD
    subst r_7
    refine lv_goto (tgt := 31) hx hb dX7_lotNow_13 (by decide) ?_
    have hP9 := va_P.part (X := [tc_X7 a0 th ma rf lk pu tl lo, tc_Jx4a65c lo mc ed (nI n), tc_X6 ma tk mo su lv si ga sl sc fh lh fo ee pn e0 e1 e2 e3 e4 e5 a0, tc_I G e1 3 pl]) (cx := [tc_X7 a0 th ma rf lk pu tl lo, tc_X6 ma tk mo su lv si ga sl sc fh lh fo ee pn e0 e1 e2 e3 e4 e5 a0, tc_I G e1 3 pl, tc_Jx4a65c lo mc ed (nI n)]) (pl := tm_L G ed n ad rc) hP [0, 2, 3, 1] rfl
    have hD9 := va_D.part (X := [tc_X7 a0 th ma rf lk pu tl lo, tc_Jx4a65c lo mc ed (nI n), tc_X6 ma tk mo su lv si ga sl sc fh lh fo ee pn e0 e1 e2 e3 e4 e5 a0, tc_I G e1 3 pl]) (cx := [tc_X7 a0 th ma rf lk pu tl lo, tc_X6 ma tk mo su lv si ga sl sc fh lh fo ee pn e0 e1 e2 e3 e4 e5 a0, tc_I G e1 3 pl, tc_Jx4a65c lo mc ed (nI n)]) (pl := tm_L G ed n ad rc) hD [0, 2, 3, 1] (by decide) rfl
    exact W.iret (v := f_X6_pairOf pn pl p1) hx hb hr (fun t ht hW => ⟨⟨f_X6_pairOf pn pl p1, (), rfl, by unfold f_X7_lotNow; all_goals (rw [if_pos c_1]); all_goals rfl, by rw [ht]; exact hP9, hD9⟩, hS.F ht⟩) hS.2.2 dX7_lotNow_31
set_option maxHeartbeats 4000000 in
set_option maxRecDepth 100000 in
theorem c_X7_ofLot (l : Launch) (G : tm_G) (a0 : Nat) (ma : Nat) (lo : Nat) (e0 : Nat) (e1 : Nat) (e2 : Nat) (e3 : Nat) (e4 : Nat) (e5 : Nat) (ed : Nat) (sz : Nat) (th : Int32) (rf : Int32) (lk : Int32) (pu : Int32) (tl : UInt64) (tk : Int32) (mo : Int32) (su : UInt64) (lv : UInt64) (si : UInt32) (ga : Int32) (sl : Int32) (sc : Int32) (fh : Int32) (lh : Int32) (fo : UInt64) (ee : Int32) (pn : Int32) (pl : Nat → Int32) (mc : Int32) (p1 : Int32) (p2 : Int32) (n : Nat) (ad : Nat → Nat) (rc : Nat → Nat → Int32) (hn : n_X7_ofLot pn pl p1 p2 n) : Met l yX7_ofLot wsX7_ofLot ({ frames := 4, cells := 0, slots := 0, locals := 86 }) (va_Pc [.ref a0, .int p1, .int p2] (tm_B G ([tc_X7 a0 th ma rf lk pu tl lo, tc_X6 ma tk mo su lv si ga sl sc fh lh fo ee pn e0 e1 e2 e3 e4 e5 a0, tc_I G e1 3 pl, tc_Jx4a65c lo mc ed (nI n)] ++ tm_L G ed n ad rc) sz)) (va_Qi (fun (r : Int32) (u : Int32) => (r, u) = f_X7_ofLot pn pl p1 p2 n rc) (fun (u : Int32) (t : State) => va_P G.1 vwCl ([tc_X7 a0 u ma rf lk pu tl lo, tc_X6 ma tk mo su lv si ga sl sc fh lh fo ee pn e0 e1 e2 e3 e4 e5 a0, tc_I G e1 3 pl, tc_Jx4a65c lo mc ed (nI n)] ++ tm_L G ed n ad rc) t.heap ∧ va_D (va_A ([tc_X7 a0 th ma rf lk pu tl lo, tc_X6 ma tk mo su lv si ga sl sc fh lh fo ee pn e0 e1 e2 e3 e4 e5 a0, tc_I G e1 3 pl, tc_Jx4a65c lo mc ed (nI n)] ++ tm_L G ed n ad rc) sz) ([tc_X7 a0 u ma rf lk pu tl lo, tc_X6 ma tk mo su lv si ga sl sc fh lh fo ee pn e0 e1 e2 e3 e4 e5 a0, tc_I G e1 3 pl, tc_Jx4a65c lo mc ed (nI n)] ++ tm_L G ed n ad rc)) (va_A ([tc_X7 a0 th ma rf lk pu tl lo, tc_X6 ma tk mo su lv si ga sl sc fh lh fo ee pn e0 e1 e2 e3 e4 e5 a0, tc_I G e1 3 pl, tc_Jx4a65c lo mc ed (nI n)] ++ tm_L G ed n ad rc) sz)) 0 0 (va_A ([tc_X7 a0 th ma rf lk pu tl lo, tc_X6 ma tk mo su lv si ga sl sc fh lh fo ee pn e0 e1 e2 e3 e4 e5 a0, tc_I G e1 3 pl, tc_Jx4a65c lo mc ed (nI n)] ++ tm_L G ed n ad rc) sz) := by
  refine Met.ofW (cc := cX7_ofLot) (maxL := 3) (ret := (some .int)) (by decide) rfl ?_
  intro p e s m args below meth c s₁ B hml hv
  obtain ⟨rfl, hsz, hP, hK, hD0, hN, hV⟩ := hv
  have hx := B.exec
  have hb := B.bytes
  have hr := B.returns
  have hts := atoms_spec (ws := wsX7_ofLot) B.pre
  have hown : s.vm.findClass RX7 = some m.cls := findClass_of_methodNamed B.named
  have hlocks := B.notSynchronized
  subst hsz
  obtain ⟨n_1, n_6⟩ := hn
  have hiX7 : ∀ w ∈ u_ws RX7 TX7 7, w ∈ wsX7_ofLot := fun _ h => List.mem_cons_of_mem _ (List.mem_append_left _ (List.mem_append_left _ (List.mem_append_right _ h)))
  have hD := hD0.self (sz := s.heap.size)
  generalize hAe : va_A ([tc_X7 a0 th ma rf lk pu tl lo, tc_X6 ma tk mo su lv si ga sl sc fh lh fo ee pn e0 e1 e2 e3 e4 e5 a0, tc_I G e1 3 pl, tc_Jx4a65c lo mc ed (nI n)] ++ tm_L G ed n ad rc) s.heap.size = A at hD hV ⊢
  have hA : ∀ q : Nat, s.heap.size ≤ q → A q := fun q h => by rw [← hAe]; exact Or.inr h
  have hS : va_S A s.heap s.heap [] := va_S.rf
  have hl := lv_entry ([.ref a0, .int p1, .int p2]) (n := 3) (Nat.le_of_ble_eq_true rfl)
  rw [lg_entry_eq]
  generalize (lg_sl ([.ref a0, .int p1, .int p2]) ++ List.replicate (3 - (lg_sl ([.ref a0, .int p1, .int p2])).length) Slot.unset).toArray = ls at hl ⊢
  have hl : lv_has ls 3 [(0, .ref a0), (1, .int p1), (2, .int p2)] := hl
  refine lv_aload_n hx hb dX7_ofLot_0 rfl (lv_at hl 0 rfl) ?_
  refine lv_iconst (v := 0) hx hb dX7_ofLot_1 (by decide) ?_
  refine va_put (D := G.1) (ci := 8) (v := .int 0) (ty := .int) (C := RX7) (T := TX7) (N := 7) hx hb hts hiX7 tyX7 tyX7_ok nmX7 hown hK hP hD hS 0 rfl rfl 0 (by decide) (hts (.fieldLink RX7 25 "TideMillModel" "thrown" "I") (List.mem_of_getElem? (i := 1) rfl)) (fun _ h9 => h9) rfl (by decide +kernel) rfl rfl (Nat.le_of_ble_eq_true rfl) dX7_ofLot_2 (fun H locs hP hD hS => ?_)
  have hP : va_P G.1 vwCl ([tc_X7 a0 0 ma rf lk pu tl lo, tc_X6 ma tk mo su lv si ga sl sc fh lh fo ee pn e0 e1 e2 e3 e4 e5 a0, tc_I G e1 3 pl, tc_Jx4a65c lo mc ed (nI n)] ++ tm_L G ed n ad rc) H := hP
  have hD : va_D A ([tc_X7 a0 0 ma rf lk pu tl lo, tc_X6 ma tk mo su lv si ga sl sc fh lh fo ee pn e0 e1 e2 e3 e4 e5 a0, tc_I G e1 3 pl, tc_Jx4a65c lo mc ed (nI n)] ++ tm_L G ed n ad rc) := hD
  refine lv_aload_n hx hb dX7_ofLot_5 rfl (lv_at hl 0 rfl) ?_
  refine lv_iload_n hx hb dX7_ofLot_6 rfl (lv_at hl 1 rfl) ?_
  have hPc := va_P.part (X := [tc_X7 a0 0 ma rf lk pu tl lo, tc_X6 ma tk mo su lv si ga sl sc fh lh fo ee pn e0 e1 e2 e3 e4 e5 a0, tc_I G e1 3 pl, tc_Jx4a65c lo mc ed (nI n)]) (cx := [tc_X7 a0 0 ma rf lk pu tl lo, tc_Jx4a65c lo mc ed (nI n)]) (pl := tm_L G ed n ad rc) hP [0, 3] rfl
  have hDc := va_D.part (X := [tc_X7 a0 0 ma rf lk pu tl lo, tc_X6 ma tk mo su lv si ga sl sc fh lh fo ee pn e0 e1 e2 e3 e4 e5 a0, tc_I G e1 3 pl, tc_Jx4a65c lo mc ed (nI n)]) (cx := [tc_X7 a0 0 ma rf lk pu tl lo, tc_Jx4a65c lo mc ed (nI n)]) (pl := tm_L G ed n ad rc) hD [0, 3] (by decide) rfl
  have hFc := va_freeP (X := [tc_X7 a0 0 ma rf lk pu tl lo, tc_X6 ma tk mo su lv si ga sl sc fh lh fo ee pn e0 e1 e2 e3 e4 e5 a0, tc_I G e1 3 pl, tc_Jx4a65c lo mc ed (nI n)]) (cx := [tc_X7 a0 0 ma rf lk pu tl lo, tc_Jx4a65c lo mc ed (nI n)]) (pl := tm_L G ed n ad rc) hD hS hA [0, 3] rfl
  refine va_calli (va_runV (As := [.int p1]) (rest := []) ⟨hx, hb, hml, hown, hts⟩ (c_X7_isLot l G a0 ma lo ed H.size 0 rf lk pu tl mc p1 n ad rc n_1) (cwV 1 hts gX7_ofLot_X7_isLot rfl rfl rfl (by decide +kernel) ⟨(Nat.le_of_ble_eq_true rfl), (Nat.le_of_ble_eq_true rfl)⟩) (tm_preV hK hN hV hS hPc hDc hFc (va_recv hK hPc (ci := 8) (q0 := 0) rfl rfl)) rfl rfl hl.1 rfl (lv_room (Nat.le_of_ble_eq_true rfl)) dX7_ofLot_7 ⟨(Nat.le_of_ble_eq_true rfl), (Nat.le_of_ble_eq_true rfl)⟩) hS (fun q _ h => hFc q h) hFc (fun r_2 u t H locs ht hvm hw_2 hB hz1 hk1 hS => ?_)
  obtain ⟨hP1, hD1⟩ := hB
  rw [ht] at hP1
  try dsimp only at hw_2
  obtain ⟨hP, hD⟩ := va_joinP (X := [tc_X7 a0 0 ma rf lk pu tl lo, tc_X6 ma tk mo su lv si ga sl sc fh lh fo ee pn e0 e1 e2 e3 e4 e5 a0, tc_I G e1 3 pl, tc_Jx4a65c lo mc ed (nI n)]) (cx := [tc_X7 a0 0 ma rf lk pu tl lo, tc_Jx4a65c lo mc ed (nI n)]) (wr := [tc_X6 ma tk mo su lv si ga sl sc fh lh fo ee pn e0 e1 e2 e3 e4 e5 a0, tc_I G e1 3 pl]) (rx := [tc_X7 a0 0 ma rf lk pu tl lo, tc_Jx4a65c lo mc ed (nI n)]) (pl := tm_L G ed n ad rc) (pl1 := tm_L G ed n ad rc) hP hD [0, 3] [1, 2] rfl rfl (by decide) (by decide) hk1 hFc hP1 hD1
  have hP : va_P G.1 vwCl ([tc_X6 ma tk mo su lv si ga sl sc fh lh fo ee pn e0 e1 e2 e3 e4 e5 a0, tc_I G e1 3 pl, tc_X7 a0 0 ma rf lk pu tl lo, tc_Jx4a65c lo mc ed (nI n)] ++ tm_L G ed n ad rc) H := hP
  have hD : va_D A ([tc_X6 ma tk mo su lv si ga sl sc fh lh fo ee pn e0 e1 e2 e3 e4 e5 a0, tc_I G e1 3 pl, tc_X7 a0 0 ma rf lk pu tl lo, tc_Jx4a65c lo mc ed (nI n)] ++ tm_L G ed n ad rc) := hD
  subst r_2
  refine lv_if_ne (tgt := 19) hx hb dX7_ofLot_10 (by decide) (fun c_3 => ?_) (fun c_3 => ?_)
  · refine lv_iload_n hx hb dX7_ofLot_19 rfl (lv_at hl 2 rfl) ?_
    refine lv_iconst (v := 0) hx hb dX7_ofLot_20 (by decide) ?_
    refine lv_iconst (v := 5) hx hb dX7_ofLot_21 (by decide) ?_
    have hPc := hP.sub (ws' := []) [] rfl
    have hDc := hD.sub (ws' := []) [] (by decide) rfl
    have hFc := va_free (wc := []) hD hS hA [] rfl
    refine va_calli (va_runS (As := [.int p2, .int 0, .int 5]) (rest := []) ⟨hx, hb, hml, hown, hts⟩ (c_X7_in l G  H.size p2 0 5 ) (cwS 3 hts gX7_ofLot_X7_in rfl rfl rfl (by decide +kernel) ⟨(Nat.le_of_ble_eq_true rfl), (Nat.le_of_ble_eq_true rfl)⟩) (tm_preS hK hN hV hS hPc hDc hFc) rfl rfl hl.1 rfl (lv_room (Nat.le_of_ble_eq_true rfl)) dX7_ofLot_22 ⟨(Nat.le_of_ble_eq_true rfl), (Nat.le_of_ble_eq_true rfl)⟩) hS (fun q _ h => hFc q h) hFc (fun r_4 u t H locs ht hvm hw_4 hB hz1 hk1 hS => ?_)
    obtain ⟨hP1, hD1⟩ := hB
    rw [ht] at hP1
    try dsimp only at hw_4
    obtain ⟨hP, hD⟩ := va_joinQ (X := [tc_X6 ma tk mo su lv si ga sl sc fh lh fo ee pn e0 e1 e2 e3 e4 e5 a0, tc_I G e1 3 pl, tc_X7 a0 0 ma rf lk pu tl lo, tc_Jx4a65c lo mc ed (nI n)]) (cx := []) (wr := [tc_X6 ma tk mo su lv si ga sl sc fh lh fo ee pn e0 e1 e2 e3 e4 e5 a0, tc_I G e1 3 pl, tc_X7 a0 0 ma rf lk pu tl lo, tc_Jx4a65c lo mc ed (nI n)]) (w1 := []) (pl := tm_L G ed n ad rc) hP hD [] [0, 1, 2, 3] rfl rfl (by decide) (by decide) hk1 hFc hP1 hD1
    have hP : va_P G.1 vwCl ([tc_X6 ma tk mo su lv si ga sl sc fh lh fo ee pn e0 e1 e2 e3 e4 e5 a0, tc_I G e1 3 pl, tc_X7 a0 0 ma rf lk pu tl lo, tc_Jx4a65c lo mc ed (nI n)] ++ tm_L G ed n ad rc) H := hP
    have hD : va_D A ([tc_X6 ma tk mo su lv si ga sl sc fh lh fo ee pn e0 e1 e2 e3 e4 e5 a0, tc_I G e1 3 pl, tc_X7 a0 0 ma rf lk pu tl lo, tc_Jx4a65c lo mc ed (nI n)] ++ tm_L G ed n ad rc) := hD
    subst r_4
    refine lv_if_ne (tgt := 34) hx hb dX7_ofLot_25 (by decide) (fun c_5 => ?_) (fun c_5 => ?_)
    · refine lv_aload_n hx hb dX7_ofLot_34 rfl (lv_at hl 0 rfl) ?_
      refine lv_iload_n hx hb dX7_ofLot_35 rfl (lv_at hl 1 rfl) ?_
      refine lv_iload_n hx hb dX7_ofLot_36 rfl (lv_at hl 2 rfl) ?_
      have hPc := va_P.part (X := [tc_X6 ma tk mo su lv si ga sl sc fh lh fo ee pn e0 e1 e2 e3 e4 e5 a0, tc_I G e1 3 pl, tc_X7 a0 0 ma rf lk pu tl lo, tc_Jx4a65c lo mc ed (nI n)]) (cx := [tc_X7 a0 0 ma rf lk pu tl lo, tc_X6 ma tk mo su lv si ga sl sc fh lh fo ee pn e0 e1 e2 e3 e4 e5 a0, tc_I G e1 3 pl, tc_Jx4a65c lo mc ed (nI n)]) (pl := tm_L G ed n ad rc) hP [2, 0, 1, 3] rfl
      have hDc := va_D.part (X := [tc_X6 ma tk mo su lv si ga sl sc fh lh fo ee pn e0 e1 e2 e3 e4 e5 a0, tc_I G e1 3 pl, tc_X7 a0 0 ma rf lk pu tl lo, tc_Jx4a65c lo mc ed (nI n)]) (cx := [tc_X7 a0 0 ma rf lk pu tl lo, tc_X6 ma tk mo su lv si ga sl sc fh lh fo ee pn e0 e1 e2 e3 e4 e5 a0, tc_I G e1 3 pl, tc_Jx4a65c lo mc ed (nI n)]) (pl := tm_L G ed n ad rc) hD [2, 0, 1, 3] (by decide) rfl
      have hFc := va_freeP (X := [tc_X6 ma tk mo su lv si ga sl sc fh lh fo ee pn e0 e1 e2 e3 e4 e5 a0, tc_I G e1 3 pl, tc_X7 a0 0 ma rf lk pu tl lo, tc_Jx4a65c lo mc ed (nI n)]) (cx := [tc_X7 a0 0 ma rf lk pu tl lo, tc_X6 ma tk mo su lv si ga sl sc fh lh fo ee pn e0 e1 e2 e3 e4 e5 a0, tc_I G e1 3 pl, tc_Jx4a65c lo mc ed (nI n)]) (pl := tm_L G ed n ad rc) hD hS hA [2, 0, 1, 3] rfl
      refine va_calli (va_runV (As := [.int p1, .int p2]) (rest := []) ⟨hx, hb, hml, hown, hts⟩ (c_X7_lotNow l G a0 ma lo e0 e1 e2 e3 e4 e5 ed H.size 0 rf lk pu tl tk mo su lv si ga sl sc fh lh fo ee pn pl mc p1 p2 n ad rc (n_6 c_3 c_5)) (cwV 2 hts gX7_ofLot_X7_lotNow rfl rfl rfl (by decide +kernel) ⟨(Nat.le_of_ble_eq_true rfl), (Nat.le_of_ble_eq_true rfl)⟩) (tm_preV hK hN hV hS hPc hDc hFc (va_recv hK hPc (ci := 8) (q0 := 0) rfl rfl)) rfl rfl hl.1 rfl (lv_room (Nat.le_of_ble_eq_true rfl)) dX7_ofLot_37 ⟨(Nat.le_of_ble_eq_true rfl), (Nat.le_of_ble_eq_true rfl)⟩) hS (fun q _ h => hFc q h) hFc (fun r_7 u t H locs ht hvm hw_7 hB hz1 hk1 hS => ?_)
      obtain ⟨hP1, hD1⟩ := hB
      rw [ht] at hP1
      try dsimp only at hw_7
      obtain ⟨hP, hD⟩ := va_joinP (X := [tc_X6 ma tk mo su lv si ga sl sc fh lh fo ee pn e0 e1 e2 e3 e4 e5 a0, tc_I G e1 3 pl, tc_X7 a0 0 ma rf lk pu tl lo, tc_Jx4a65c lo mc ed (nI n)]) (cx := [tc_X7 a0 0 ma rf lk pu tl lo, tc_X6 ma tk mo su lv si ga sl sc fh lh fo ee pn e0 e1 e2 e3 e4 e5 a0, tc_I G e1 3 pl, tc_Jx4a65c lo mc ed (nI n)]) (wr := []) (rx := [tc_X7 a0 0 ma rf lk pu tl lo, tc_X6 ma tk mo su lv si ga sl sc fh lh fo ee pn e0 e1 e2 e3 e4 e5 a0, tc_I G e1 3 pl, tc_Jx4a65c lo mc ed (nI n)]) (pl := tm_L G ed n ad rc) (pl1 := tm_L G ed n ad rc) hP hD [2, 0, 1, 3] [] rfl rfl (by decide) (by decide) hk1 hFc hP1 hD1
      have hP : va_P G.1 vwCl ([tc_X7 a0 0 ma rf lk pu tl lo, tc_X6 ma tk mo su lv si ga sl sc fh lh fo ee pn e0 e1 e2 e3 e4 e5 a0, tc_I G e1 3 pl, tc_Jx4a65c lo mc ed (nI n)] ++ tm_L G ed n ad rc) H := hP
      have hD : va_D A ([tc_X7 a0 0 ma rf lk pu tl lo, tc_X6 ma tk mo su lv si ga sl sc fh lh fo ee pn e0 e1 e2 e3 e4 e5 a0, tc_I G e1 3 pl, tc_Jx4a65c lo mc ed (nI n)] ++ tm_L G ed n ad rc) := hD
      subst r_7
      have hP9 := va_P.part (X := [tc_X7 a0 0 ma rf lk pu tl lo, tc_X6 ma tk mo su lv si ga sl sc fh lh fo ee pn e0 e1 e2 e3 e4 e5 a0, tc_I G e1 3 pl, tc_Jx4a65c lo mc ed (nI n)]) (cx := [tc_X7 a0 0 ma rf lk pu tl lo, tc_X6 ma tk mo su lv si ga sl sc fh lh fo ee pn e0 e1 e2 e3 e4 e5 a0, tc_I G e1 3 pl, tc_Jx4a65c lo mc ed (nI n)]) (pl := tm_L G ed n ad rc) hP [0, 1, 2, 3] rfl
      have hD9 := va_D.part (X := [tc_X7 a0 0 ma rf lk pu tl lo, tc_X6 ma tk mo su lv si ga sl sc fh lh fo ee pn e0 e1 e2 e3 e4 e5 a0, tc_I G e1 3 pl, tc_Jx4a65c lo mc ed (nI n)]) (cx := [tc_X7 a0 0 ma rf lk pu tl lo, tc_X6 ma tk mo su lv si ga sl sc fh lh fo ee pn e0 e1 e2 e3 e4 e5 a0, tc_I G e1 3 pl, tc_Jx4a65c lo mc ed (nI n)]) (pl := tm_L G ed n ad rc) hD [0, 1, 2, 3] (by decide) rfl
      exact W.iret (v := f_X7_lotNow pn pl p1 p2 rc) hx hb hr (fun t ht hW => ⟨⟨f_X7_lotNow pn pl p1 p2 rc, (0), rfl, by unfold f_X7_ofLot; all_goals (rw [if_neg c_3]); all_goals (rw [if_neg c_5]); all_goals rfl, by rw [ht]; exact hP9, hD9⟩, hS.F ht⟩) hS.2.2 dX7_ofLot_40
    · refine lv_aload_n hx hb dX7_ofLot_28 rfl (lv_at hl 0 rfl) ?_
      refine lv_iconst (v := 2) hx hb dX7_ofLot_29 (by decide) ?_
      have hPc := hP.sub (ws' := [tc_X7 a0 0 ma rf lk pu tl lo]) [2] rfl
      have hDc := hD.sub (ws' := [tc_X7 a0 0 ma rf lk pu tl lo]) [2] (by decide) rfl
      have hFc := va_free (wc := [tc_X7 a0 0 ma rf lk pu tl lo]) hD hS hA [2] rfl
      refine va_calli (va_runV (As := [.int 2]) (rest := []) ⟨hx, hb, hml, hown, hts⟩ (c_X7_no l G a0 ma lo H.size 0 rf lk pu tl 2 ) (cwV 1 hts gX7_ofLot_X7_no rfl rfl rfl (by decide +kernel) ⟨(Nat.le_of_ble_eq_true rfl), (Nat.le_of_ble_eq_true rfl)⟩) (tm_preV hK hN hV hS hPc hDc hFc (va_recv hK hPc (ci := 8) (q0 := 0) rfl rfl)) rfl rfl hl.1 rfl (lv_room (Nat.le_of_ble_eq_true rfl)) dX7_ofLot_30 ⟨(Nat.le_of_ble_eq_true rfl), (Nat.le_of_ble_eq_true rfl)⟩) hS (fun q _ h => hFc q h) hFc (fun r_8 u t H locs ht hvm hw_8 hB hz1 hk1 hS => ?_)
      obtain ⟨u_9, rfl⟩ : ∃ z, z = u := ⟨_, rfl⟩
      obtain ⟨hP1, hD1⟩ := hB
      rw [ht] at hP1
      try dsimp only at hw_8
      obtain ⟨hP, hD⟩ := va_joinQ (X := [tc_X6 ma tk mo su lv si ga sl sc fh lh fo ee pn e0 e1 e2 e3 e4 e5 a0, tc_I G e1 3 pl, tc_X7 a0 0 ma rf lk pu tl lo, tc_Jx4a65c lo mc ed (nI n)]) (cx := [tc_X7 a0 0 ma rf lk pu tl lo]) (wr := [tc_X6 ma tk mo su lv si ga sl sc fh lh fo ee pn e0 e1 e2 e3 e4 e5 a0, tc_I G e1 3 pl, tc_Jx4a65c lo mc ed (nI n)]) (w1 := [tc_X7 a0 u_9 ma rf lk pu tl lo]) (pl := tm_L G ed n ad rc) hP hD [2] [0, 1, 3] rfl rfl (by decide) (by decide) hk1 hFc hP1 hD1
      have hP : va_P G.1 vwCl ([tc_X6 ma tk mo su lv si ga sl sc fh lh fo ee pn e0 e1 e2 e3 e4 e5 a0, tc_I G e1 3 pl, tc_Jx4a65c lo mc ed (nI n), tc_X7 a0 u_9 ma rf lk pu tl lo] ++ tm_L G ed n ad rc) H := hP
      have hD : va_D A ([tc_X6 ma tk mo su lv si ga sl sc fh lh fo ee pn e0 e1 e2 e3 e4 e5 a0, tc_I G e1 3 pl, tc_Jx4a65c lo mc ed (nI n), tc_X7 a0 u_9 ma rf lk pu tl lo] ++ tm_L G ed n ad rc) := hD
      have hP9 := va_P.part (X := [tc_X6 ma tk mo su lv si ga sl sc fh lh fo ee pn e0 e1 e2 e3 e4 e5 a0, tc_I G e1 3 pl, tc_Jx4a65c lo mc ed (nI n), tc_X7 a0 u_9 ma rf lk pu tl lo]) (cx := [tc_X7 a0 u_9 ma rf lk pu tl lo, tc_X6 ma tk mo su lv si ga sl sc fh lh fo ee pn e0 e1 e2 e3 e4 e5 a0, tc_I G e1 3 pl, tc_Jx4a65c lo mc ed (nI n)]) (pl := tm_L G ed n ad rc) hP [3, 0, 1, 2] rfl
      have hD9 := va_D.part (X := [tc_X6 ma tk mo su lv si ga sl sc fh lh fo ee pn e0 e1 e2 e3 e4 e5 a0, tc_I G e1 3 pl, tc_Jx4a65c lo mc ed (nI n), tc_X7 a0 u_9 ma rf lk pu tl lo]) (cx := [tc_X7 a0 u_9 ma rf lk pu tl lo, tc_X6 ma tk mo su lv si ga sl sc fh lh fo ee pn e0 e1 e2 e3 e4 e5 a0, tc_I G e1 3 pl, tc_Jx4a65c lo mc ed (nI n)]) (pl := tm_L G ed n ad rc) hD [3, 0, 1, 2] (by decide) rfl
      exact W.iret (v := r_8) hx hb hr (fun t ht hW => ⟨⟨r_8, (u_9), rfl, by unfold f_X7_ofLot; all_goals (rw [if_neg c_3]); all_goals (rw [if_pos c_5]); all_goals (rw [← hw_8]); all_goals (dsimp only); all_goals rfl, by rw [ht]; exact hP9, hD9⟩, hS.F ht⟩) hS.2.2 dX7_ofLot_33
  · refine lv_aload_n hx hb dX7_ofLot_13 rfl (lv_at hl 0 rfl) ?_
    refine lv_iconst (v := 1) hx hb dX7_ofLot_14 (by decide) ?_
    have hPc := hP.sub (ws' := [tc_X7 a0 0 ma rf lk pu tl lo]) [2] rfl
    have hDc := hD.sub (ws' := [tc_X7 a0 0 ma rf lk pu tl lo]) [2] (by decide) rfl
    have hFc := va_free (wc := [tc_X7 a0 0 ma rf lk pu tl lo]) hD hS hA [2] rfl
    refine va_calli (va_runV (As := [.int 1]) (rest := []) ⟨hx, hb, hml, hown, hts⟩ (c_X7_no l G a0 ma lo H.size 0 rf lk pu tl 1 ) (cwV 1 hts gX7_ofLot_X7_no rfl rfl rfl (by decide +kernel) ⟨(Nat.le_of_ble_eq_true rfl), (Nat.le_of_ble_eq_true rfl)⟩) (tm_preV hK hN hV hS hPc hDc hFc (va_recv hK hPc (ci := 8) (q0 := 0) rfl rfl)) rfl rfl hl.1 rfl (lv_room (Nat.le_of_ble_eq_true rfl)) dX7_ofLot_15 ⟨(Nat.le_of_ble_eq_true rfl), (Nat.le_of_ble_eq_true rfl)⟩) hS (fun q _ h => hFc q h) hFc (fun r_10 u t H locs ht hvm hw_10 hB hz1 hk1 hS => ?_)
    obtain ⟨u_11, rfl⟩ : ∃ z, z = u := ⟨_, rfl⟩
    obtain ⟨hP1, hD1⟩ := hB
    rw [ht] at hP1
    try dsimp only at hw_10
    obtain ⟨hP, hD⟩ := va_joinQ (X := [tc_X6 ma tk mo su lv si ga sl sc fh lh fo ee pn e0 e1 e2 e3 e4 e5 a0, tc_I G e1 3 pl, tc_X7 a0 0 ma rf lk pu tl lo, tc_Jx4a65c lo mc ed (nI n)]) (cx := [tc_X7 a0 0 ma rf lk pu tl lo]) (wr := [tc_X6 ma tk mo su lv si ga sl sc fh lh fo ee pn e0 e1 e2 e3 e4 e5 a0, tc_I G e1 3 pl, tc_Jx4a65c lo mc ed (nI n)]) (w1 := [tc_X7 a0 u_11 ma rf lk pu tl lo]) (pl := tm_L G ed n ad rc) hP hD [2] [0, 1, 3] rfl rfl (by decide) (by decide) hk1 hFc hP1 hD1
    have hP : va_P G.1 vwCl ([tc_X6 ma tk mo su lv si ga sl sc fh lh fo ee pn e0 e1 e2 e3 e4 e5 a0, tc_I G e1 3 pl, tc_Jx4a65c lo mc ed (nI n), tc_X7 a0 u_11 ma rf lk pu tl lo] ++ tm_L G ed n ad rc) H := hP
    have hD : va_D A ([tc_X6 ma tk mo su lv si ga sl sc fh lh fo ee pn e0 e1 e2 e3 e4 e5 a0, tc_I G e1 3 pl, tc_Jx4a65c lo mc ed (nI n), tc_X7 a0 u_11 ma rf lk pu tl lo] ++ tm_L G ed n ad rc) := hD
    have hP9 := va_P.part (X := [tc_X6 ma tk mo su lv si ga sl sc fh lh fo ee pn e0 e1 e2 e3 e4 e5 a0, tc_I G e1 3 pl, tc_Jx4a65c lo mc ed (nI n), tc_X7 a0 u_11 ma rf lk pu tl lo]) (cx := [tc_X7 a0 u_11 ma rf lk pu tl lo, tc_X6 ma tk mo su lv si ga sl sc fh lh fo ee pn e0 e1 e2 e3 e4 e5 a0, tc_I G e1 3 pl, tc_Jx4a65c lo mc ed (nI n)]) (pl := tm_L G ed n ad rc) hP [3, 0, 1, 2] rfl
    have hD9 := va_D.part (X := [tc_X6 ma tk mo su lv si ga sl sc fh lh fo ee pn e0 e1 e2 e3 e4 e5 a0, tc_I G e1 3 pl, tc_Jx4a65c lo mc ed (nI n), tc_X7 a0 u_11 ma rf lk pu tl lo]) (cx := [tc_X7 a0 u_11 ma rf lk pu tl lo, tc_X6 ma tk mo su lv si ga sl sc fh lh fo ee pn e0 e1 e2 e3 e4 e5 a0, tc_I G e1 3 pl, tc_Jx4a65c lo mc ed (nI n)]) (pl := tm_L G ed n ad rc) hD [3, 0, 1, 2] (by decide) rfl
    exact W.iret (v := r_10) hx hb hr (fun t ht hW => ⟨⟨r_10, (u_11), rfl, by unfold f_X7_ofLot; all_goals (rw [if_pos c_3]); all_goals (rw [← hw_10]); all_goals (dsimp only); all_goals rfl, by rw [ht]; exact hP9, hD9⟩, hS.F ht⟩) hS.2.2 dX7_ofLot_18
set_option maxHeartbeats 4000000 in
set_option maxRecDepth 100000 in
theorem c_X7_left (l : Launch) (G : tm_G) (a0 : Nat) (ma : Nat) (lo : Nat) (e0 : Nat) (e1 : Nat) (e2 : Nat) (e3 : Nat) (e4 : Nat) (e5 : Nat) (ed : Nat) (sz : Nat) (th : Int32) (rf : Int32) (lk : Int32) (pu : Int32) (tl : UInt64) (tk : Int32) (mo : Int32) (su : UInt64) (lv : UInt64) (si : UInt32) (ga : Int32) (sl : Int32) (sc : Int32) (fh : Int32) (lh : Int32) (fo : UInt64) (ee : Int32) (pn : Int32) (le : Nat → UInt64) (mc : Int32) (p1 : Int32) (n : Nat) (ad : Nat → Nat) (rc : Nat → Nat → Int32) (hn : n_X7_left p1 n) : Met l yX7_left wsX7_left ({ frames := 2, cells := 0, slots := 0, locals := 43 }) (va_Pc [.ref a0, .int p1] (tm_B G ([tc_X7 a0 th ma rf lk pu tl lo, tc_X6 ma tk mo su lv si ga sl sc fh lh fo ee pn e0 e1 e2 e3 e4 e5 a0, tc_D G e4 10 le, tc_Jx4a65c lo mc ed (nI n)] ++ tm_L G ed n ad rc) sz)) (va_Qd (fun (r : UInt64) (u : Int32) => (r, u) = f_X7_left le p1 n) (fun (u : Int32) (t : State) => va_P G.1 vwCl ([tc_X7 a0 u ma rf lk pu tl lo, tc_X6 ma tk mo su lv si ga sl sc fh lh fo ee pn e0 e1 e2 e3 e4 e5 a0, tc_D G e4 10 le, tc_Jx4a65c lo mc ed (nI n)] ++ tm_L G ed n ad rc) t.heap ∧ va_D (va_A ([tc_X7 a0 th ma rf lk pu tl lo, tc_X6 ma tk mo su lv si ga sl sc fh lh fo ee pn e0 e1 e2 e3 e4 e5 a0, tc_D G e4 10 le, tc_Jx4a65c lo mc ed (nI n)] ++ tm_L G ed n ad rc) sz) ([tc_X7 a0 u ma rf lk pu tl lo, tc_X6 ma tk mo su lv si ga sl sc fh lh fo ee pn e0 e1 e2 e3 e4 e5 a0, tc_D G e4 10 le, tc_Jx4a65c lo mc ed (nI n)] ++ tm_L G ed n ad rc)) (va_A ([tc_X7 a0 th ma rf lk pu tl lo, tc_X6 ma tk mo su lv si ga sl sc fh lh fo ee pn e0 e1 e2 e3 e4 e5 a0, tc_D G e4 10 le, tc_Jx4a65c lo mc ed (nI n)] ++ tm_L G ed n ad rc) sz)) 0 0 (va_A ([tc_X7 a0 th ma rf lk pu tl lo, tc_X6 ma tk mo su lv si ga sl sc fh lh fo ee pn e0 e1 e2 e3 e4 e5 a0, tc_D G e4 10 le, tc_Jx4a65c lo mc ed (nI n)] ++ tm_L G ed n ad rc) sz) := by
  refine Met.ofW (cc := cX7_left) (maxL := 2) (ret := (some .double)) (by decide) rfl ?_
  intro p e s m args below meth c s₁ B hml hv
  obtain ⟨rfl, hsz, hP, hK, hD0, hN, hV⟩ := hv
  have hx := B.exec
  have hb := B.bytes
  have hr := B.returns
  have hts := atoms_spec (ws := wsX7_left) B.pre
  have hown : s.vm.findClass RX7 = some m.cls := findClass_of_methodNamed B.named
  have hlocks := B.notSynchronized
  subst hsz
  obtain ⟨n_1, n_4⟩ := hn
  have hiX6 : ∀ w ∈ u_ws RX6 TX6 20, w ∈ wsX7_left := fun _ h => List.mem_cons_of_mem _ (List.mem_append_left _ (List.mem_append_right _ h))
  have hiX7 : ∀ w ∈ u_ws RX7 TX7 7, w ∈ wsX7_left := fun _ h => List.mem_cons_of_mem _ (List.mem_append_left _ (List.mem_append_left _ (List.mem_append_right _ h)))
  have hD := hD0.self (sz := s.heap.size)
  generalize hAe : va_A ([tc_X7 a0 th ma rf lk pu tl lo, tc_X6 ma tk mo su lv si ga sl sc fh lh fo ee pn e0 e1 e2 e3 e4 e5 a0, tc_D G e4 10 le, tc_Jx4a65c lo mc ed (nI n)] ++ tm_L G ed n ad rc) s.heap.size = A at hD hV ⊢
  have hA : ∀ q : Nat, s.heap.size ≤ q → A q := fun q h => by rw [← hAe]; exact Or.inr h
  have hS : va_S A s.heap s.heap [] := va_S.rf
  have hl := lv_entry ([.ref a0, .int p1]) (n := 2) (Nat.le_of_ble_eq_true rfl)
  rw [lg_entry_eq]
  generalize (lg_sl ([.ref a0, .int p1]) ++ List.replicate (2 - (lg_sl ([.ref a0, .int p1])).length) Slot.unset).toArray = ls at hl ⊢
  have hl : lv_has ls 2 [(0, .ref a0), (1, .int p1)] := hl
  refine lv_aload_n hx hb dX7_left_0 rfl (lv_at hl 0 rfl) ?_
  refine lv_iconst (v := 0) hx hb dX7_left_1 (by decide) ?_
  refine va_put (D := G.1) (ci := 8) (v := .int 0) (ty := .int) (C := RX7) (T := TX7) (N := 7) hx hb hts hiX7 tyX7 tyX7_ok nmX7 hown hK hP hD hS 0 rfl rfl 0 (by decide) (hts (.fieldLink RX7 25 "TideMillModel" "thrown" "I") (List.mem_of_getElem? (i := 1) rfl)) (fun _ h9 => h9) rfl (by decide +kernel) rfl rfl (Nat.le_of_ble_eq_true rfl) dX7_left_2 (fun H locs hP hD hS => ?_)
  have hP : va_P G.1 vwCl ([tc_X7 a0 0 ma rf lk pu tl lo, tc_X6 ma tk mo su lv si ga sl sc fh lh fo ee pn e0 e1 e2 e3 e4 e5 a0, tc_D G e4 10 le, tc_Jx4a65c lo mc ed (nI n)] ++ tm_L G ed n ad rc) H := hP
  have hD : va_D A ([tc_X7 a0 0 ma rf lk pu tl lo, tc_X6 ma tk mo su lv si ga sl sc fh lh fo ee pn e0 e1 e2 e3 e4 e5 a0, tc_D G e4 10 le, tc_Jx4a65c lo mc ed (nI n)] ++ tm_L G ed n ad rc) := hD
  refine lv_aload_n hx hb dX7_left_5 rfl (lv_at hl 0 rfl) ?_
  refine lv_iload_n hx hb dX7_left_6 rfl (lv_at hl 1 rfl) ?_
  have hPc := va_P.part (X := [tc_X7 a0 0 ma rf lk pu tl lo, tc_X6 ma tk mo su lv si ga sl sc fh lh fo ee pn e0 e1 e2 e3 e4 e5 a0, tc_D G e4 10 le, tc_Jx4a65c lo mc ed (nI n)]) (cx := [tc_X7 a0 0 ma rf lk pu tl lo, tc_Jx4a65c lo mc ed (nI n)]) (pl := tm_L G ed n ad rc) hP [0, 3] rfl
  have hDc := va_D.part (X := [tc_X7 a0 0 ma rf lk pu tl lo, tc_X6 ma tk mo su lv si ga sl sc fh lh fo ee pn e0 e1 e2 e3 e4 e5 a0, tc_D G e4 10 le, tc_Jx4a65c lo mc ed (nI n)]) (cx := [tc_X7 a0 0 ma rf lk pu tl lo, tc_Jx4a65c lo mc ed (nI n)]) (pl := tm_L G ed n ad rc) hD [0, 3] (by decide) rfl
  have hFc := va_freeP (X := [tc_X7 a0 0 ma rf lk pu tl lo, tc_X6 ma tk mo su lv si ga sl sc fh lh fo ee pn e0 e1 e2 e3 e4 e5 a0, tc_D G e4 10 le, tc_Jx4a65c lo mc ed (nI n)]) (cx := [tc_X7 a0 0 ma rf lk pu tl lo, tc_Jx4a65c lo mc ed (nI n)]) (pl := tm_L G ed n ad rc) hD hS hA [0, 3] rfl
  refine va_calli (va_runV (As := [.int p1]) (rest := []) ⟨hx, hb, hml, hown, hts⟩ (c_X7_isLot l G a0 ma lo ed H.size 0 rf lk pu tl mc p1 n ad rc n_1) (cwV 1 hts gX7_left_X7_isLot rfl rfl rfl (by decide +kernel) ⟨(Nat.le_of_ble_eq_true rfl), (Nat.le_of_ble_eq_true rfl)⟩) (tm_preV hK hN hV hS hPc hDc hFc (va_recv hK hPc (ci := 8) (q0 := 0) rfl rfl)) rfl rfl hl.1 rfl (lv_room (Nat.le_of_ble_eq_true rfl)) dX7_left_7 ⟨(Nat.le_of_ble_eq_true rfl), (Nat.le_of_ble_eq_true rfl)⟩) hS (fun q _ h => hFc q h) hFc (fun r_2 u t H locs ht hvm hw_2 hB hz1 hk1 hS => ?_)
  obtain ⟨hP1, hD1⟩ := hB
  rw [ht] at hP1
  try dsimp only at hw_2
  obtain ⟨hP, hD⟩ := va_joinP (X := [tc_X7 a0 0 ma rf lk pu tl lo, tc_X6 ma tk mo su lv si ga sl sc fh lh fo ee pn e0 e1 e2 e3 e4 e5 a0, tc_D G e4 10 le, tc_Jx4a65c lo mc ed (nI n)]) (cx := [tc_X7 a0 0 ma rf lk pu tl lo, tc_Jx4a65c lo mc ed (nI n)]) (wr := [tc_X6 ma tk mo su lv si ga sl sc fh lh fo ee pn e0 e1 e2 e3 e4 e5 a0, tc_D G e4 10 le]) (rx := [tc_X7 a0 0 ma rf lk pu tl lo, tc_Jx4a65c lo mc ed (nI n)]) (pl := tm_L G ed n ad rc) (pl1 := tm_L G ed n ad rc) hP hD [0, 3] [1, 2] rfl rfl (by decide) (by decide) hk1 hFc hP1 hD1
  have hP : va_P G.1 vwCl ([tc_X6 ma tk mo su lv si ga sl sc fh lh fo ee pn e0 e1 e2 e3 e4 e5 a0, tc_D G e4 10 le, tc_X7 a0 0 ma rf lk pu tl lo, tc_Jx4a65c lo mc ed (nI n)] ++ tm_L G ed n ad rc) H := hP
  have hD : va_D A ([tc_X6 ma tk mo su lv si ga sl sc fh lh fo ee pn e0 e1 e2 e3 e4 e5 a0, tc_D G e4 10 le, tc_X7 a0 0 ma rf lk pu tl lo, tc_Jx4a65c lo mc ed (nI n)] ++ tm_L G ed n ad rc) := hD
  subst r_2
  refine lv_if_ne (tgt := 20) hx hb dX7_left_10 (by decide) (fun c_3 => ?_) (fun c_3 => ?_)
  · refine lv_aload_n hx hb dX7_left_20 rfl (lv_at hl 0 rfl) ?_
    refine va_get (D := G.1) (ci := 8) (v := .ref ma) (C := RX7) (T := TX7) (N := 7) hx hb hts hiX7 hown hK hP 2 rfl rfl 1 (by decide) (hts (.fieldLink RX7 12 "TideMillModel" "mill" "LTideMillModel$Mill;") (List.mem_of_getElem? (i := 2) rfl)) (fun _ h9 => h9) rfl dX7_left_21 ?_
    refine va_get (D := G.1) (ci := 7) (v := .ref e4) (C := RX6) (T := TX6) (N := 20) hx hb hts hiX6 hown hK hP 0 rfl rfl 17 (by decide) (hts (.fieldLink RX7 104 "TideMillModel$Mill" "left" "[D") (List.mem_of_getElem? (i := 3) rfl)) (fun _ h9 => h9) rfl dX7_left_24 ?_
    refine lv_iload_n hx hb dX7_left_27 rfl (lv_at hl 1 rfl) ?_
    refine va_dald (n := 10) (f := le) hx hb hK hP 1 1 rfl rfl (n_4 c_3) dX7_left_28 ?_
    have hP9 := va_P.part (X := [tc_X6 ma tk mo su lv si ga sl sc fh lh fo ee pn e0 e1 e2 e3 e4 e5 a0, tc_D G e4 10 le, tc_X7 a0 0 ma rf lk pu tl lo, tc_Jx4a65c lo mc ed (nI n)]) (cx := [tc_X7 a0 0 ma rf lk pu tl lo, tc_X6 ma tk mo su lv si ga sl sc fh lh fo ee pn e0 e1 e2 e3 e4 e5 a0, tc_D G e4 10 le, tc_Jx4a65c lo mc ed (nI n)]) (pl := tm_L G ed n ad rc) hP [2, 0, 1, 3] rfl
    have hD9 := va_D.part (X := [tc_X6 ma tk mo su lv si ga sl sc fh lh fo ee pn e0 e1 e2 e3 e4 e5 a0, tc_D G e4 10 le, tc_X7 a0 0 ma rf lk pu tl lo, tc_Jx4a65c lo mc ed (nI n)]) (cx := [tc_X7 a0 0 ma rf lk pu tl lo, tc_X6 ma tk mo su lv si ga sl sc fh lh fo ee pn e0 e1 e2 e3 e4 e5 a0, tc_D G e4 10 le, tc_Jx4a65c lo mc ed (nI n)]) (pl := tm_L G ed n ad rc) hD [2, 0, 1, 3] (by decide) rfl
    exact W.dret (v := le p1.toNatClampNeg) hx hb hr (fun t ht hW => ⟨⟨le p1.toNatClampNeg, (0), rfl, by unfold f_X7_left; all_goals (rw [if_neg c_3]); all_goals rfl, by rw [ht]; exact hP9, hD9⟩, hS.F ht⟩) hS.2.2 dX7_left_29
  · refine lv_aload_n hx hb dX7_left_13 rfl (lv_at hl 0 rfl) ?_
    refine lv_iconst (v := 1) hx hb dX7_left_14 (by decide) ?_
    have hPc := hP.sub (ws' := [tc_X7 a0 0 ma rf lk pu tl lo]) [2] rfl
    have hDc := hD.sub (ws' := [tc_X7 a0 0 ma rf lk pu tl lo]) [2] (by decide) rfl
    have hFc := va_free (wc := [tc_X7 a0 0 ma rf lk pu tl lo]) hD hS hA [2] rfl
    refine va_calli (va_runV (As := [.int 1]) (rest := []) ⟨hx, hb, hml, hown, hts⟩ (c_X7_no l G a0 ma lo H.size 0 rf lk pu tl 1 ) (cwV 1 hts gX7_left_X7_no rfl rfl rfl (by decide +kernel) ⟨(Nat.le_of_ble_eq_true rfl), (Nat.le_of_ble_eq_true rfl)⟩) (tm_preV hK hN hV hS hPc hDc hFc (va_recv hK hPc (ci := 8) (q0 := 0) rfl rfl)) rfl rfl hl.1 rfl (lv_room (Nat.le_of_ble_eq_true rfl)) dX7_left_15 ⟨(Nat.le_of_ble_eq_true rfl), (Nat.le_of_ble_eq_true rfl)⟩) hS (fun q _ h => hFc q h) hFc (fun r_5 u t H locs ht hvm hw_5 hB hz1 hk1 hS => ?_)
    obtain ⟨u_6, rfl⟩ : ∃ z, z = u := ⟨_, rfl⟩
    obtain ⟨hP1, hD1⟩ := hB
    rw [ht] at hP1
    try dsimp only at hw_5
    obtain ⟨hP, hD⟩ := va_joinQ (X := [tc_X6 ma tk mo su lv si ga sl sc fh lh fo ee pn e0 e1 e2 e3 e4 e5 a0, tc_D G e4 10 le, tc_X7 a0 0 ma rf lk pu tl lo, tc_Jx4a65c lo mc ed (nI n)]) (cx := [tc_X7 a0 0 ma rf lk pu tl lo]) (wr := [tc_X6 ma tk mo su lv si ga sl sc fh lh fo ee pn e0 e1 e2 e3 e4 e5 a0, tc_D G e4 10 le, tc_Jx4a65c lo mc ed (nI n)]) (w1 := [tc_X7 a0 u_6 ma rf lk pu tl lo]) (pl := tm_L G ed n ad rc) hP hD [2] [0, 1, 3] rfl rfl (by decide) (by decide) hk1 hFc hP1 hD1
    have hP : va_P G.1 vwCl ([tc_X6 ma tk mo su lv si ga sl sc fh lh fo ee pn e0 e1 e2 e3 e4 e5 a0, tc_D G e4 10 le, tc_Jx4a65c lo mc ed (nI n), tc_X7 a0 u_6 ma rf lk pu tl lo] ++ tm_L G ed n ad rc) H := hP
    have hD : va_D A ([tc_X6 ma tk mo su lv si ga sl sc fh lh fo ee pn e0 e1 e2 e3 e4 e5 a0, tc_D G e4 10 le, tc_Jx4a65c lo mc ed (nI n), tc_X7 a0 u_6 ma rf lk pu tl lo] ++ tm_L G ed n ad rc) := hD
    refine lv_i2d hx hb dX7_left_18 ?_
    have hP9 := va_P.part (X := [tc_X6 ma tk mo su lv si ga sl sc fh lh fo ee pn e0 e1 e2 e3 e4 e5 a0, tc_D G e4 10 le, tc_Jx4a65c lo mc ed (nI n), tc_X7 a0 u_6 ma rf lk pu tl lo]) (cx := [tc_X7 a0 u_6 ma rf lk pu tl lo, tc_X6 ma tk mo su lv si ga sl sc fh lh fo ee pn e0 e1 e2 e3 e4 e5 a0, tc_D G e4 10 le, tc_Jx4a65c lo mc ed (nI n)]) (pl := tm_L G ed n ad rc) hP [3, 0, 1, 2] rfl
    have hD9 := va_D.part (X := [tc_X6 ma tk mo su lv si ga sl sc fh lh fo ee pn e0 e1 e2 e3 e4 e5 a0, tc_D G e4 10 le, tc_Jx4a65c lo mc ed (nI n), tc_X7 a0 u_6 ma rf lk pu tl lo]) (cx := [tc_X7 a0 u_6 ma rf lk pu tl lo, tc_X6 ma tk mo su lv si ga sl sc fh lh fo ee pn e0 e1 e2 e3 e4 e5 a0, tc_D G e4 10 le, tc_Jx4a65c lo mc ed (nI n)]) (pl := tm_L G ed n ad rc) hD [3, 0, 1, 2] (by decide) rfl
    exact W.dret (v := FP.i2d r_5) hx hb hr (fun t ht hW => ⟨⟨FP.i2d r_5, (u_6), rfl, by unfold f_X7_left; all_goals (rw [if_pos c_3]); all_goals (rw [← hw_5]); all_goals (dsimp only); all_goals rfl, by rw [ht]; exact hP9, hD9⟩, hS.F ht⟩) hS.2.2 dX7_left_19
set_option maxHeartbeats 4000000 in
set_option maxRecDepth 100000 in
theorem c_X7_manyNow (l : Launch) (G : tm_G) (a0 : Nat) (ma : Nat) (lo : Nat) (e0 : Nat) (e1 : Nat) (e2 : Nat) (e3 : Nat) (e4 : Nat) (e5 : Nat) (ed : Nat) (sz : Nat) (th : Int32) (rf : Int32) (lk : Int32) (pu : Int32) (tl : UInt64) (tk : Int32) (mo : Int32) (su : UInt64) (lv : UInt64) (si : UInt32) (ga : Int32) (sl : Int32) (sc : Int32) (fh : Int32) (lh : Int32) (fo : UInt64) (ee : Int32) (pn : Int32) (sp : Nat → Int32) (mc : Int32) (p1 : Int32) (n : Nat) (ad : Nat → Nat) (rc : Nat → Nat → Int32) (hn : n_X7_manyNow lk tk fh lh p1 n rc) : Met l yX7_manyNow wsX7_manyNow ({ frames := 4, cells := 1, slots := 17, locals := 87 }) (va_Pc [.ref a0, .int p1] (tm_B G ([tc_X7 a0 th ma rf lk pu tl lo, tc_X6 ma tk mo su lv si ga sl sc fh lh fo ee pn e0 e1 e2 e3 e4 e5 a0, tc_I G e3 3 sp, tc_Jx4a65c lo mc ed (nI n)] ++ tm_L G ed n ad rc) sz)) (va_Qi (fun (r : Int32) (u : Unit) => r = f_X7_manyNow rf lk pu tk mo ga sl fh lh ee pn sp p1 n rc) (fun (u : Unit) (t : State) => va_P G.1 vwCl ([tc_X7 a0 th ma rf lk pu tl lo, tc_X6 ma tk mo su lv si ga sl sc fh lh fo ee pn e0 e1 e2 e3 e4 e5 a0, tc_I G e3 3 sp, tc_Jx4a65c lo mc ed (nI n)] ++ tm_L G ed n ad rc) t.heap ∧ va_D (va_A ([tc_X7 a0 th ma rf lk pu tl lo, tc_X6 ma tk mo su lv si ga sl sc fh lh fo ee pn e0 e1 e2 e3 e4 e5 a0, tc_I G e3 3 sp, tc_Jx4a65c lo mc ed (nI n)] ++ tm_L G ed n ad rc) sz) ([tc_X7 a0 th ma rf lk pu tl lo, tc_X6 ma tk mo su lv si ga sl sc fh lh fo ee pn e0 e1 e2 e3 e4 e5 a0, tc_I G e3 3 sp, tc_Jx4a65c lo mc ed (nI n)] ++ tm_L G ed n ad rc)) (va_A ([tc_X7 a0 th ma rf lk pu tl lo, tc_X6 ma tk mo su lv si ga sl sc fh lh fo ee pn e0 e1 e2 e3 e4 e5 a0, tc_I G e3 3 sp, tc_Jx4a65c lo mc ed (nI n)] ++ tm_L G ed n ad rc) sz)) 1 17 (va_A ([tc_X7 a0 th ma rf lk pu tl lo, tc_X6 ma tk mo su lv si ga sl sc fh lh fo ee pn e0 e1 e2 e3 e4 e5 a0, tc_I G e3 3 sp, tc_Jx4a65c lo mc ed (nI n)] ++ tm_L G ed n ad rc) sz) := by
  refine Met.ofW (cc := cX7_manyNow) (maxL := 4) (ret := (some .int)) (by decide) rfl ?_
  intro p e s m args below meth c s₁ B hml hv
  obtain ⟨rfl, hsz, hP, hK, hD0, hN, hV⟩ := hv
  have hx := B.exec
  have hb := B.bytes
  have hr := B.returns
  have hts := atoms_spec (ws := wsX7_manyNow) B.pre
  have hown : s.vm.findClass RX7 = some m.cls := findClass_of_methodNamed B.named
  have hlocks := B.notSynchronized
  subst hsz
  obtain ⟨n_1, n_2, n_3, n_5, n_6, n_8, n_10, n_11, n_12, n_13, n_15, n_16, n_18, n_19, n_21, n_22, n_24, n_25, n_26, n_27, n_30, n_31, n_33, n_34, n_35, n_36, n_37, n_38, n_40, n_41, n_42, n_43⟩ := hn
  have hiX6 : ∀ w ∈ u_ws RX6 TX6 20, w ∈ wsX7_manyNow := fun _ h => List.mem_cons_of_mem _ (List.mem_append_left _ (List.mem_append_right _ h))
  have hiX7 : ∀ w ∈ u_ws RX7 TX7 7, w ∈ wsX7_manyNow := fun _ h => List.mem_cons_of_mem _ (List.mem_append_left _ (List.mem_append_left _ (List.mem_append_right _ h)))
  have hD := hD0.self (sz := s.heap.size)
  generalize hAe : va_A ([tc_X7 a0 th ma rf lk pu tl lo, tc_X6 ma tk mo su lv si ga sl sc fh lh fo ee pn e0 e1 e2 e3 e4 e5 a0, tc_I G e3 3 sp, tc_Jx4a65c lo mc ed (nI n)] ++ tm_L G ed n ad rc) s.heap.size = A at hD hV ⊢
  have hA : ∀ q : Nat, s.heap.size ≤ q → A q := fun q h => by rw [← hAe]; exact Or.inr h
  have hS : va_S A s.heap s.heap [] := va_S.rf
  have hl := lv_entry ([.ref a0, .int p1]) (n := 4) (Nat.le_of_ble_eq_true rfl)
  rw [lg_entry_eq]
  generalize (lg_sl ([.ref a0, .int p1]) ++ List.replicate (4 - (lg_sl ([.ref a0, .int p1])).length) Slot.unset).toArray = ls at hl ⊢
  have hl : lv_has ls 4 [(0, .ref a0), (1, .int p1)] := hl
  refine lv_aload_n hx hb dX7_manyNow_0 rfl (lv_at hl 0 rfl) ?_
  refine va_get (D := G.1) (ci := 8) (v := .ref ma) (C := RX7) (T := TX7) (N := 7) hx hb hts hiX7 hown hK hP 0 rfl rfl 1 (by decide) (hts (.fieldLink RX7 12 "TideMillModel" "mill" "LTideMillModel$Mill;") (List.mem_of_getElem? (i := 1) rfl)) (fun _ h9 => h9) rfl dX7_manyNow_1 ?_
  refine va_get (D := G.1) (ci := 7) (v := .ref e3) (C := RX6) (T := TX6) (N := 20) hx hb hts hiX6 hown hK hP 1 rfl rfl 16 (by decide) (hts (.fieldLink RX7 174 "TideMillModel$Mill" "sparks" "[I") (List.mem_of_getElem? (i := 2) rfl)) (fun _ h9 => h9) rfl dX7_manyNow_4 ?_
  refine lv_iconst (v := 0) hx hb dX7_manyNow_7 (by decide) ?_
  refine va_iald (n := 3) (f := sp) hx hb hK hP 2 0 rfl rfl n_1 dX7_manyNow_8 ?_
  refine lv_aload_n hx hb dX7_manyNow_9 rfl (lv_at hl 0 rfl) ?_
  refine va_get (D := G.1) (ci := 8) (v := .ref ma) (C := RX7) (T := TX7) (N := 7) hx hb hts hiX7 hown hK hP 0 rfl rfl 1 (by decide) (hts (.fieldLink RX7 12 "TideMillModel" "mill" "LTideMillModel$Mill;") (List.mem_of_getElem? (i := 1) rfl)) (fun _ h9 => h9) rfl dX7_manyNow_10 ?_
  refine va_get (D := G.1) (ci := 7) (v := .ref e3) (C := RX6) (T := TX6) (N := 20) hx hb hts hiX6 hown hK hP 1 rfl rfl 16 (by decide) (hts (.fieldLink RX7 174 "TideMillModel$Mill" "sparks" "[I") (List.mem_of_getElem? (i := 2) rfl)) (fun _ h9 => h9) rfl dX7_manyNow_13 ?_
  refine lv_iconst (v := 1) hx hb dX7_manyNow_16 (by decide) ?_
  refine va_iald (n := 3) (f := sp) hx hb hK hP 2 0 rfl rfl n_2 dX7_manyNow_17 ?_
  refine lv_iadd hx hb dX7_manyNow_18 ?_
  refine lv_aload_n hx hb dX7_manyNow_19 rfl (lv_at hl 0 rfl) ?_
  refine va_get (D := G.1) (ci := 8) (v := .ref ma) (C := RX7) (T := TX7) (N := 7) hx hb hts hiX7 hown hK hP 0 rfl rfl 1 (by decide) (hts (.fieldLink RX7 12 "TideMillModel" "mill" "LTideMillModel$Mill;") (List.mem_of_getElem? (i := 1) rfl)) (fun _ h9 => h9) rfl dX7_manyNow_20 ?_
  refine va_get (D := G.1) (ci := 7) (v := .ref e3) (C := RX6) (T := TX6) (N := 20) hx hb hts hiX6 hown hK hP 1 rfl rfl 16 (by decide) (hts (.fieldLink RX7 174 "TideMillModel$Mill" "sparks" "[I") (List.mem_of_getElem? (i := 2) rfl)) (fun _ h9 => h9) rfl dX7_manyNow_23 ?_
  refine lv_iconst (v := 2) hx hb dX7_manyNow_26 (by decide) ?_
  refine va_iald (n := 3) (f := sp) hx hb hK hP 2 0 rfl rfl n_3 dX7_manyNow_27 ?_
  refine lv_iadd hx hb dX7_manyNow_28 ?_
  refine lv_istore_n (lv' := [(2, .int (((sp (0 : Int32).toNatClampNeg) + (sp (1 : Int32).toNatClampNeg)) + (sp (2 : Int32).toNatClampNeg))), (0, .ref a0), (1, .int p1)]) hx hb dX7_manyNow_29 rfl hl (by decide) rfl (fun ls hl => ?_)
  refine lv_bipush (v := 17) hx hb dX7_manyNow_30 (by decide) ?_
  refine va_newa (atype := .int) hx hb (hts (.arrayClass .int) (List.mem_of_getElem? (i := 3) rfl)) (ty := .int) rfl hK hP hD hS hA (N' := 17) (a0 := (17, .inl (fun _ => (0 : Int32)))) (fun _ => rfl) (by decide) (by decide) (Nat.le_of_ble_eq_true rfl) (Nat.le_of_ble_eq_true rfl) (Nat.le_of_ble_eq_true rfl) dX7_manyNow_32 (fun q_4 cA H hK9 hP hD hS => ?_)
  obtain rfl : cA = G.2.1 := tm_cA_I hK9
  replace hP := tm_swapP hP; replace hD := tm_swapD hD
  have hP : va_P G.1 vwCl ([tc_X7 a0 th ma rf lk pu tl lo, tc_X6 ma tk mo su lv si ga sl sc fh lh fo ee pn e0 e1 e2 e3 e4 e5 a0, tc_I G e3 3 sp, tc_Jx4a65c lo mc ed (nI n), tc_I G q_4 17 (fun _ => (0 : Int32))] ++ tm_L G ed n ad rc) H := hP
  have hD : va_D A ([tc_X7 a0 th ma rf lk pu tl lo, tc_X6 ma tk mo su lv si ga sl sc fh lh fo ee pn e0 e1 e2 e3 e4 e5 a0, tc_I G e3 3 sp, tc_Jx4a65c lo mc ed (nI n), tc_I G q_4 17 (fun _ => (0 : Int32))] ++ tm_L G ed n ad rc) := hD
  refine W.widen (k := 1) (n := 17) (Nat.le_of_ble_eq_true rfl) (Nat.le_of_ble_eq_true rfl) ?_
  refine lv_dup hx hb dX7_manyNow_34 rfl ?_
  refine lv_iconst (v := 0) hx hb dX7_manyNow_35 (by decide) ?_
  refine lv_aload_n hx hb dX7_manyNow_36 rfl (lv_at hl 1 rfl) ?_
  refine va_get (D := G.1) (ci := 8) (v := .ref ma) (C := RX7) (T := TX7) (N := 7) hx hb hts hiX7 hown hK hP 0 rfl rfl 1 (by decide) (hts (.fieldLink RX7 12 "TideMillModel" "mill" "LTideMillModel$Mill;") (List.mem_of_getElem? (i := 1) rfl)) (fun _ h9 => h9) rfl dX7_manyNow_37 ?_
  refine va_get (D := G.1) (ci := 7) (v := .int tk) (C := RX6) (T := TX6) (N := 20) hx hb hts hiX6 hown hK hP 1 rfl rfl 0 (by decide) (hts (.fieldLink RX7 59 "TideMillModel$Mill" "tick" "I") (List.mem_of_getElem? (i := 4) rfl)) (fun _ h9 => h9) rfl dX7_manyNow_40 ?_
  refine va_iast (n := 17) (f := fun _ => (0 : Int32)) hx hb hK hP hD hS 4 0 rfl rfl n_5 dX7_manyNow_43 (fun H locs hP hD hS => ?_)
  have hP : va_P G.1 vwCl ([tc_X7 a0 th ma rf lk pu tl lo, tc_X6 ma tk mo su lv si ga sl sc fh lh fo ee pn e0 e1 e2 e3 e4 e5 a0, tc_I G e3 3 sp, tc_Jx4a65c lo mc ed (nI n), tc_I G q_4 17 (upd (fun _ => (0 : Int32)) (0 : Int32).toNatClampNeg tk)] ++ tm_L G ed n ad rc) H := hP
  have hD : va_D A ([tc_X7 a0 th ma rf lk pu tl lo, tc_X6 ma tk mo su lv si ga sl sc fh lh fo ee pn e0 e1 e2 e3 e4 e5 a0, tc_I G e3 3 sp, tc_Jx4a65c lo mc ed (nI n), tc_I G q_4 17 (upd (fun _ => (0 : Int32)) (0 : Int32).toNatClampNeg tk)] ++ tm_L G ed n ad rc) := hD
  refine lv_dup hx hb dX7_manyNow_44 rfl ?_
  refine lv_iconst (v := 1) hx hb dX7_manyNow_45 (by decide) ?_
  refine lv_aload_n hx hb dX7_manyNow_46 rfl (lv_at hl 1 rfl) ?_
  refine va_get (D := G.1) (ci := 8) (v := .ref ma) (C := RX7) (T := TX7) (N := 7) hx hb hts hiX7 hown hK hP 0 rfl rfl 1 (by decide) (hts (.fieldLink RX7 12 "TideMillModel" "mill" "LTideMillModel$Mill;") (List.mem_of_getElem? (i := 1) rfl)) (fun _ h9 => h9) rfl dX7_manyNow_47 ?_
  refine va_get (D := G.1) (ci := 7) (v := .int tk) (C := RX6) (T := TX6) (N := 20) hx hb hts hiX6 hown hK hP 1 rfl rfl 0 (by decide) (hts (.fieldLink RX7 59 "TideMillModel$Mill" "tick" "I") (List.mem_of_getElem? (i := 4) rfl)) (fun _ h9 => h9) rfl dX7_manyNow_50 ?_
  refine lv_bipush (v := 48) hx hb dX7_manyNow_53 (by decide) ?_
  refine lv_idiv hx hb dX7_manyNow_55 (by decide) ?_
  refine va_iast (n := 17) (f := upd (fun _ => (0 : Int32)) (0 : Int32).toNatClampNeg tk) hx hb hK hP hD hS 4 0 rfl rfl n_6 dX7_manyNow_56 (fun H locs hP hD hS => ?_)
  have hP : va_P G.1 vwCl ([tc_X7 a0 th ma rf lk pu tl lo, tc_X6 ma tk mo su lv si ga sl sc fh lh fo ee pn e0 e1 e2 e3 e4 e5 a0, tc_I G e3 3 sp, tc_Jx4a65c lo mc ed (nI n), tc_I G q_4 17 (upd (upd (fun _ => (0 : Int32)) (0 : Int32).toNatClampNeg tk) (1 : Int32).toNatClampNeg (tk / 48))] ++ tm_L G ed n ad rc) H := hP
  have hD : va_D A ([tc_X7 a0 th ma rf lk pu tl lo, tc_X6 ma tk mo su lv si ga sl sc fh lh fo ee pn e0 e1 e2 e3 e4 e5 a0, tc_I G e3 3 sp, tc_Jx4a65c lo mc ed (nI n), tc_I G q_4 17 (upd (upd (fun _ => (0 : Int32)) (0 : Int32).toNatClampNeg tk) (1 : Int32).toNatClampNeg (tk / 48))] ++ tm_L G ed n ad rc) := hD
  refine lv_dup hx hb dX7_manyNow_57 rfl ?_
  refine lv_iconst (v := 2) hx hb dX7_manyNow_58 (by decide) ?_
  refine lv_aload_n hx hb dX7_manyNow_59 rfl (lv_at hl 1 rfl) ?_
  refine va_get (D := G.1) (ci := 8) (v := .ref ma) (C := RX7) (T := TX7) (N := 7) hx hb hts hiX7 hown hK hP 0 rfl rfl 1 (by decide) (hts (.fieldLink RX7 12 "TideMillModel" "mill" "LTideMillModel$Mill;") (List.mem_of_getElem? (i := 1) rfl)) (fun _ h9 => h9) rfl dX7_manyNow_60 ?_
  refine lv_aload_n hx hb dX7_manyNow_63 rfl (lv_at hl 1 rfl) ?_
  refine va_get (D := G.1) (ci := 8) (v := .ref ma) (C := RX7) (T := TX7) (N := 7) hx hb hts hiX7 hown hK hP 0 rfl rfl 1 (by decide) (hts (.fieldLink RX7 12 "TideMillModel" "mill" "LTideMillModel$Mill;") (List.mem_of_getElem? (i := 1) rfl)) (fun _ h9 => h9) rfl dX7_manyNow_64 ?_
  refine va_get (D := G.1) (ci := 7) (v := .int tk) (C := RX6) (T := TX6) (N := 20) hx hb hts hiX6 hown hK hP 1 rfl rfl 0 (by decide) (hts (.fieldLink RX7 59 "TideMillModel$Mill" "tick" "I") (List.mem_of_getElem? (i := 4) rfl)) (fun _ h9 => h9) rfl dX7_manyNow_67 ?_
  have hPc := hP.sub (ws' := [tc_X6 ma tk mo su lv si ga sl sc fh lh fo ee pn e0 e1 e2 e3 e4 e5 a0]) [1] rfl
  have hDc := hD.sub (ws' := [tc_X6 ma tk mo su lv si ga sl sc fh lh fo ee pn e0 e1 e2 e3 e4 e5 a0]) [1] (by decide) rfl
  have hFc := va_free (wc := [tc_X6 ma tk mo su lv si ga sl sc fh lh fo ee pn e0 e1 e2 e3 e4 e5 a0]) hD hS hA [1] rfl
  refine va_calli (va_runV (As := [.int tk]) (rest := [.int 2, .ref q_4, .ref q_4]) ⟨hx, hb, hml, hown, hts⟩ (c_X6_age l G ma e0 e1 e2 e3 e4 e5 a0 H.size tk mo su lv si ga sl sc fh lh fo ee pn tk ) (cwV 1 hts gX7_manyNow_X6_age rfl rfl rfl (by decide +kernel) ⟨(Nat.le_of_ble_eq_true rfl), (Nat.le_of_ble_eq_true rfl)⟩) (tm_preV hK hN hV hS hPc hDc hFc (va_recv hK hPc (ci := 7) (q0 := 0) rfl rfl)) rfl rfl hl.1 rfl (lv_room (Nat.le_of_ble_eq_true rfl)) dX7_manyNow_70 ⟨(Nat.le_of_ble_eq_true rfl), (Nat.le_of_ble_eq_true rfl)⟩) hS (fun q _ h => hFc q h) hFc (fun r_7 u t H locs ht hvm hw_7 hB hz1 hk1 hS => ?_)
  obtain ⟨hP1, hD1⟩ := hB
  rw [ht] at hP1
  try dsimp only at hw_7
  obtain ⟨hP, hD⟩ := va_joinQ (X := [tc_X7 a0 th ma rf lk pu tl lo, tc_X6 ma tk mo su lv si ga sl sc fh lh fo ee pn e0 e1 e2 e3 e4 e5 a0, tc_I G e3 3 sp, tc_Jx4a65c lo mc ed (nI n), tc_I G q_4 17 (upd (upd (fun _ => (0 : Int32)) (0 : Int32).toNatClampNeg tk) (1 : Int32).toNatClampNeg (tk / 48))]) (cx := [tc_X6 ma tk mo su lv si ga sl sc fh lh fo ee pn e0 e1 e2 e3 e4 e5 a0]) (wr := [tc_X7 a0 th ma rf lk pu tl lo, tc_I G e3 3 sp, tc_Jx4a65c lo mc ed (nI n), tc_I G q_4 17 (upd (upd (fun _ => (0 : Int32)) (0 : Int32).toNatClampNeg tk) (1 : Int32).toNatClampNeg (tk / 48))]) (w1 := [tc_X6 ma tk mo su lv si ga sl sc fh lh fo ee pn e0 e1 e2 e3 e4 e5 a0]) (pl := tm_L G ed n ad rc) hP hD [1] [0, 2, 3, 4] rfl rfl (by decide) (by decide) hk1 hFc hP1 hD1
  have hP : va_P G.1 vwCl ([tc_X7 a0 th ma rf lk pu tl lo, tc_I G e3 3 sp, tc_Jx4a65c lo mc ed (nI n), tc_I G q_4 17 (upd (upd (fun _ => (0 : Int32)) (0 : Int32).toNatClampNeg tk) (1 : Int32).toNatClampNeg (tk / 48)), tc_X6 ma tk mo su lv si ga sl sc fh lh fo ee pn e0 e1 e2 e3 e4 e5 a0] ++ tm_L G ed n ad rc) H := hP
  have hD : va_D A ([tc_X7 a0 th ma rf lk pu tl lo, tc_I G e3 3 sp, tc_Jx4a65c lo mc ed (nI n), tc_I G q_4 17 (upd (upd (fun _ => (0 : Int32)) (0 : Int32).toNatClampNeg tk) (1 : Int32).toNatClampNeg (tk / 48)), tc_X6 ma tk mo su lv si ga sl sc fh lh fo ee pn e0 e1 e2 e3 e4 e5 a0] ++ tm_L G ed n ad rc) := hD
  subst r_7
  refine va_iast (n := 17) (f := upd (upd (fun _ => (0 : Int32)) (0 : Int32).toNatClampNeg tk) (1 : Int32).toNatClampNeg (tk / 48)) hx hb hK hP hD hS 3 0 rfl rfl n_8 dX7_manyNow_73 (fun H locs hP hD hS => ?_)
  have hP : va_P G.1 vwCl ([tc_X7 a0 th ma rf lk pu tl lo, tc_I G e3 3 sp, tc_Jx4a65c lo mc ed (nI n), tc_I G q_4 17 (upd (upd (upd (fun _ => (0 : Int32)) (0 : Int32).toNatClampNeg tk) (1 : Int32).toNatClampNeg (tk / 48)) (2 : Int32).toNatClampNeg (f_X6_age mo tk)), tc_X6 ma tk mo su lv si ga sl sc fh lh fo ee pn e0 e1 e2 e3 e4 e5 a0] ++ tm_L G ed n ad rc) H := hP
  have hD : va_D A ([tc_X7 a0 th ma rf lk pu tl lo, tc_I G e3 3 sp, tc_Jx4a65c lo mc ed (nI n), tc_I G q_4 17 (upd (upd (upd (fun _ => (0 : Int32)) (0 : Int32).toNatClampNeg tk) (1 : Int32).toNatClampNeg (tk / 48)) (2 : Int32).toNatClampNeg (f_X6_age mo tk)), tc_X6 ma tk mo su lv si ga sl sc fh lh fo ee pn e0 e1 e2 e3 e4 e5 a0] ++ tm_L G ed n ad rc) := hD
  refine lv_dup hx hb dX7_manyNow_74 rfl ?_
  refine lv_iconst (v := 3) hx hb dX7_manyNow_75 (by decide) ?_
  refine lv_aload_n hx hb dX7_manyNow_76 rfl (lv_at hl 1 rfl) ?_
  refine va_get (D := G.1) (ci := 8) (v := .ref ma) (C := RX7) (T := TX7) (N := 7) hx hb hts hiX7 hown hK hP 0 rfl rfl 1 (by decide) (hts (.fieldLink RX7 12 "TideMillModel" "mill" "LTideMillModel$Mill;") (List.mem_of_getElem? (i := 1) rfl)) (fun _ h9 => h9) rfl dX7_manyNow_77 ?_
  refine lv_aload_n hx hb dX7_manyNow_80 rfl (lv_at hl 1 rfl) ?_
  refine va_get (D := G.1) (ci := 8) (v := .ref ma) (C := RX7) (T := TX7) (N := 7) hx hb hts hiX7 hown hK hP 0 rfl rfl 1 (by decide) (hts (.fieldLink RX7 12 "TideMillModel" "mill" "LTideMillModel$Mill;") (List.mem_of_getElem? (i := 1) rfl)) (fun _ h9 => h9) rfl dX7_manyNow_81 ?_
  refine va_get (D := G.1) (ci := 7) (v := .int tk) (C := RX6) (T := TX6) (N := 20) hx hb hts hiX6 hown hK hP 4 rfl rfl 0 (by decide) (hts (.fieldLink RX7 59 "TideMillModel$Mill" "tick" "I") (List.mem_of_getElem? (i := 4) rfl)) (fun _ h9 => h9) rfl dX7_manyNow_84 ?_
  have hPc := hP.sub (ws' := [tc_X6 ma tk mo su lv si ga sl sc fh lh fo ee pn e0 e1 e2 e3 e4 e5 a0]) [4] rfl
  have hDc := hD.sub (ws' := [tc_X6 ma tk mo su lv si ga sl sc fh lh fo ee pn e0 e1 e2 e3 e4 e5 a0]) [4] (by decide) rfl
  have hFc := va_free (wc := [tc_X6 ma tk mo su lv si ga sl sc fh lh fo ee pn e0 e1 e2 e3 e4 e5 a0]) hD hS hA [4] rfl
  refine va_calli (va_runV (As := [.int tk]) (rest := [.int 3, .ref q_4, .ref q_4]) ⟨hx, hb, hml, hown, hts⟩ (c_X6_spring l G ma e0 e1 e2 e3 e4 e5 a0 H.size tk mo su lv si ga sl sc fh lh fo ee pn tk ) (cwV 1 hts gX7_manyNow_X6_spring rfl rfl rfl (by decide +kernel) ⟨(Nat.le_of_ble_eq_true rfl), (Nat.le_of_ble_eq_true rfl)⟩) (tm_preV hK hN hV hS hPc hDc hFc (va_recv hK hPc (ci := 7) (q0 := 0) rfl rfl)) rfl rfl hl.1 rfl (lv_room (Nat.le_of_ble_eq_true rfl)) dX7_manyNow_87 ⟨(Nat.le_of_ble_eq_true rfl), (Nat.le_of_ble_eq_true rfl)⟩) hS (fun q _ h => hFc q h) hFc (fun r_9 u t H locs ht hvm hw_9 hB hz1 hk1 hS => ?_)
  obtain ⟨hP1, hD1⟩ := hB
  rw [ht] at hP1
  try dsimp only at hw_9
  obtain ⟨hP, hD⟩ := va_joinQ (X := [tc_X7 a0 th ma rf lk pu tl lo, tc_I G e3 3 sp, tc_Jx4a65c lo mc ed (nI n), tc_I G q_4 17 (upd (upd (upd (fun _ => (0 : Int32)) (0 : Int32).toNatClampNeg tk) (1 : Int32).toNatClampNeg (tk / 48)) (2 : Int32).toNatClampNeg (f_X6_age mo tk)), tc_X6 ma tk mo su lv si ga sl sc fh lh fo ee pn e0 e1 e2 e3 e4 e5 a0]) (cx := [tc_X6 ma tk mo su lv si ga sl sc fh lh fo ee pn e0 e1 e2 e3 e4 e5 a0]) (wr := [tc_X7 a0 th ma rf lk pu tl lo, tc_I G e3 3 sp, tc_Jx4a65c lo mc ed (nI n), tc_I G q_4 17 (upd (upd (upd (fun _ => (0 : Int32)) (0 : Int32).toNatClampNeg tk) (1 : Int32).toNatClampNeg (tk / 48)) (2 : Int32).toNatClampNeg (f_X6_age mo tk))]) (w1 := [tc_X6 ma tk mo su lv si ga sl sc fh lh fo ee pn e0 e1 e2 e3 e4 e5 a0]) (pl := tm_L G ed n ad rc) hP hD [4] [0, 1, 2, 3] rfl rfl (by decide) (by decide) hk1 hFc hP1 hD1
  have hP : va_P G.1 vwCl ([tc_X7 a0 th ma rf lk pu tl lo, tc_I G e3 3 sp, tc_Jx4a65c lo mc ed (nI n), tc_I G q_4 17 (upd (upd (upd (fun _ => (0 : Int32)) (0 : Int32).toNatClampNeg tk) (1 : Int32).toNatClampNeg (tk / 48)) (2 : Int32).toNatClampNeg (f_X6_age mo tk)), tc_X6 ma tk mo su lv si ga sl sc fh lh fo ee pn e0 e1 e2 e3 e4 e5 a0] ++ tm_L G ed n ad rc) H := hP
  have hD : va_D A ([tc_X7 a0 th ma rf lk pu tl lo, tc_I G e3 3 sp, tc_Jx4a65c lo mc ed (nI n), tc_I G q_4 17 (upd (upd (upd (fun _ => (0 : Int32)) (0 : Int32).toNatClampNeg tk) (1 : Int32).toNatClampNeg (tk / 48)) (2 : Int32).toNatClampNeg (f_X6_age mo tk)), tc_X6 ma tk mo su lv si ga sl sc fh lh fo ee pn e0 e1 e2 e3 e4 e5 a0] ++ tm_L G ed n ad rc) := hD
  subst r_9
  refine va_iast (n := 17) (f := upd (upd (upd (fun _ => (0 : Int32)) (0 : Int32).toNatClampNeg tk) (1 : Int32).toNatClampNeg (tk / 48)) (2 : Int32).toNatClampNeg (f_X6_age mo tk)) hx hb hK hP hD hS 3 0 rfl rfl n_10 dX7_manyNow_90 (fun H locs hP hD hS => ?_)
  have hP : va_P G.1 vwCl ([tc_X7 a0 th ma rf lk pu tl lo, tc_I G e3 3 sp, tc_Jx4a65c lo mc ed (nI n), tc_I G q_4 17 (upd (upd (upd (upd (fun _ => (0 : Int32)) (0 : Int32).toNatClampNeg tk) (1 : Int32).toNatClampNeg (tk / 48)) (2 : Int32).toNatClampNeg (f_X6_age mo tk)) (3 : Int32).toNatClampNeg (f_X6_spring mo tk)), tc_X6 ma tk mo su lv si ga sl sc fh lh fo ee pn e0 e1 e2 e3 e4 e5 a0] ++ tm_L G ed n ad rc) H := hP
  have hD : va_D A ([tc_X7 a0 th ma rf lk pu tl lo, tc_I G e3 3 sp, tc_Jx4a65c lo mc ed (nI n), tc_I G q_4 17 (upd (upd (upd (upd (fun _ => (0 : Int32)) (0 : Int32).toNatClampNeg tk) (1 : Int32).toNatClampNeg (tk / 48)) (2 : Int32).toNatClampNeg (f_X6_age mo tk)) (3 : Int32).toNatClampNeg (f_X6_spring mo tk)), tc_X6 ma tk mo su lv si ga sl sc fh lh fo ee pn e0 e1 e2 e3 e4 e5 a0] ++ tm_L G ed n ad rc) := hD
  refine lv_dup hx hb dX7_manyNow_91 rfl ?_
  refine lv_iconst (v := 4) hx hb dX7_manyNow_92 (by decide) ?_
  refine lv_aload_n hx hb dX7_manyNow_93 rfl (lv_at hl 1 rfl) ?_
  refine va_get (D := G.1) (ci := 8) (v := .ref ma) (C := RX7) (T := TX7) (N := 7) hx hb hts hiX7 hown hK hP 0 rfl rfl 1 (by decide) (hts (.fieldLink RX7 12 "TideMillModel" "mill" "LTideMillModel$Mill;") (List.mem_of_getElem? (i := 1) rfl)) (fun _ h9 => h9) rfl dX7_manyNow_94 ?_
  refine va_get (D := G.1) (ci := 7) (v := .int ga) (C := RX6) (T := TX6) (N := 20) hx hb hts hiX6 hown hK hP 4 rfl rfl 5 (by decide) (hts (.fieldLink RX7 79 "TideMillModel$Mill" "gates" "I") (List.mem_of_getElem? (i := 5) rfl)) (fun _ h9 => h9) rfl dX7_manyNow_97 ?_
  refine va_iast (n := 17) (f := upd (upd (upd (upd (fun _ => (0 : Int32)) (0 : Int32).toNatClampNeg tk) (1 : Int32).toNatClampNeg (tk / 48)) (2 : Int32).toNatClampNeg (f_X6_age mo tk)) (3 : Int32).toNatClampNeg (f_X6_spring mo tk)) hx hb hK hP hD hS 3 0 rfl rfl n_11 dX7_manyNow_100 (fun H locs hP hD hS => ?_)
  have hP : va_P G.1 vwCl ([tc_X7 a0 th ma rf lk pu tl lo, tc_I G e3 3 sp, tc_Jx4a65c lo mc ed (nI n), tc_I G q_4 17 (upd (upd (upd (upd (upd (fun _ => (0 : Int32)) (0 : Int32).toNatClampNeg tk) (1 : Int32).toNatClampNeg (tk / 48)) (2 : Int32).toNatClampNeg (f_X6_age mo tk)) (3 : Int32).toNatClampNeg (f_X6_spring mo tk)) (4 : Int32).toNatClampNeg ga), tc_X6 ma tk mo su lv si ga sl sc fh lh fo ee pn e0 e1 e2 e3 e4 e5 a0] ++ tm_L G ed n ad rc) H := hP
  have hD : va_D A ([tc_X7 a0 th ma rf lk pu tl lo, tc_I G e3 3 sp, tc_Jx4a65c lo mc ed (nI n), tc_I G q_4 17 (upd (upd (upd (upd (upd (fun _ => (0 : Int32)) (0 : Int32).toNatClampNeg tk) (1 : Int32).toNatClampNeg (tk / 48)) (2 : Int32).toNatClampNeg (f_X6_age mo tk)) (3 : Int32).toNatClampNeg (f_X6_spring mo tk)) (4 : Int32).toNatClampNeg ga), tc_X6 ma tk mo su lv si ga sl sc fh lh fo ee pn e0 e1 e2 e3 e4 e5 a0] ++ tm_L G ed n ad rc) := hD
  refine lv_dup hx hb dX7_manyNow_101 rfl ?_
  refine lv_iconst (v := 5) hx hb dX7_manyNow_102 (by decide) ?_
  refine lv_aload_n hx hb dX7_manyNow_103 rfl (lv_at hl 1 rfl) ?_
  refine va_get (D := G.1) (ci := 8) (v := .ref ma) (C := RX7) (T := TX7) (N := 7) hx hb hts hiX7 hown hK hP 0 rfl rfl 1 (by decide) (hts (.fieldLink RX7 12 "TideMillModel" "mill" "LTideMillModel$Mill;") (List.mem_of_getElem? (i := 1) rfl)) (fun _ h9 => h9) rfl dX7_manyNow_104 ?_
  refine va_get (D := G.1) (ci := 7) (v := .int sl) (C := RX6) (T := TX6) (N := 20) hx hb hts hiX6 hown hK hP 4 rfl rfl 6 (by decide) (hts (.fieldLink RX7 82 "TideMillModel$Mill" "sluice" "I") (List.mem_of_getElem? (i := 6) rfl)) (fun _ h9 => h9) rfl dX7_manyNow_107 ?_
  refine va_iast (n := 17) (f := upd (upd (upd (upd (upd (fun _ => (0 : Int32)) (0 : Int32).toNatClampNeg tk) (1 : Int32).toNatClampNeg (tk / 48)) (2 : Int32).toNatClampNeg (f_X6_age mo tk)) (3 : Int32).toNatClampNeg (f_X6_spring mo tk)) (4 : Int32).toNatClampNeg ga) hx hb hK hP hD hS 3 0 rfl rfl n_12 dX7_manyNow_110 (fun H locs hP hD hS => ?_)
  have hP : va_P G.1 vwCl ([tc_X7 a0 th ma rf lk pu tl lo, tc_I G e3 3 sp, tc_Jx4a65c lo mc ed (nI n), tc_I G q_4 17 (upd (upd (upd (upd (upd (upd (fun _ => (0 : Int32)) (0 : Int32).toNatClampNeg tk) (1 : Int32).toNatClampNeg (tk / 48)) (2 : Int32).toNatClampNeg (f_X6_age mo tk)) (3 : Int32).toNatClampNeg (f_X6_spring mo tk)) (4 : Int32).toNatClampNeg ga) (5 : Int32).toNatClampNeg sl), tc_X6 ma tk mo su lv si ga sl sc fh lh fo ee pn e0 e1 e2 e3 e4 e5 a0] ++ tm_L G ed n ad rc) H := hP
  have hD : va_D A ([tc_X7 a0 th ma rf lk pu tl lo, tc_I G e3 3 sp, tc_Jx4a65c lo mc ed (nI n), tc_I G q_4 17 (upd (upd (upd (upd (upd (upd (fun _ => (0 : Int32)) (0 : Int32).toNatClampNeg tk) (1 : Int32).toNatClampNeg (tk / 48)) (2 : Int32).toNatClampNeg (f_X6_age mo tk)) (3 : Int32).toNatClampNeg (f_X6_spring mo tk)) (4 : Int32).toNatClampNeg ga) (5 : Int32).toNatClampNeg sl), tc_X6 ma tk mo su lv si ga sl sc fh lh fo ee pn e0 e1 e2 e3 e4 e5 a0] ++ tm_L G ed n ad rc) := hD
  refine lv_dup hx hb dX7_manyNow_111 rfl ?_
  refine lv_bipush (v := 6) hx hb dX7_manyNow_112 (by decide) ?_
  refine lv_aload_n hx hb dX7_manyNow_114 rfl (lv_at hl 1 rfl) ?_
  refine va_get (D := G.1) (ci := 8) (v := .ref ma) (C := RX7) (T := TX7) (N := 7) hx hb hts hiX7 hown hK hP 0 rfl rfl 1 (by decide) (hts (.fieldLink RX7 12 "TideMillModel" "mill" "LTideMillModel$Mill;") (List.mem_of_getElem? (i := 1) rfl)) (fun _ h9 => h9) rfl dX7_manyNow_115 ?_
  refine va_get (D := G.1) (ci := 7) (v := .int pn) (C := RX6) (T := TX6) (N := 20) hx hb hts hiX6 hown hK hP 4 rfl rfl 12 (by decide) (hts (.fieldLink RX7 45 "TideMillModel$Mill" "pairs" "I") (List.mem_of_getElem? (i := 7) rfl)) (fun _ h9 => h9) rfl dX7_manyNow_118 ?_
  refine va_iast (n := 17) (f := upd (upd (upd (upd (upd (upd (fun _ => (0 : Int32)) (0 : Int32).toNatClampNeg tk) (1 : Int32).toNatClampNeg (tk / 48)) (2 : Int32).toNatClampNeg (f_X6_age mo tk)) (3 : Int32).toNatClampNeg (f_X6_spring mo tk)) (4 : Int32).toNatClampNeg ga) (5 : Int32).toNatClampNeg sl) hx hb hK hP hD hS 3 0 rfl rfl n_13 dX7_manyNow_121 (fun H locs hP hD hS => ?_)
  have hP : va_P G.1 vwCl ([tc_X7 a0 th ma rf lk pu tl lo, tc_I G e3 3 sp, tc_Jx4a65c lo mc ed (nI n), tc_I G q_4 17 (upd (upd (upd (upd (upd (upd (upd (fun _ => (0 : Int32)) (0 : Int32).toNatClampNeg tk) (1 : Int32).toNatClampNeg (tk / 48)) (2 : Int32).toNatClampNeg (f_X6_age mo tk)) (3 : Int32).toNatClampNeg (f_X6_spring mo tk)) (4 : Int32).toNatClampNeg ga) (5 : Int32).toNatClampNeg sl) (6 : Int32).toNatClampNeg pn), tc_X6 ma tk mo su lv si ga sl sc fh lh fo ee pn e0 e1 e2 e3 e4 e5 a0] ++ tm_L G ed n ad rc) H := hP
  have hD : va_D A ([tc_X7 a0 th ma rf lk pu tl lo, tc_I G e3 3 sp, tc_Jx4a65c lo mc ed (nI n), tc_I G q_4 17 (upd (upd (upd (upd (upd (upd (upd (fun _ => (0 : Int32)) (0 : Int32).toNatClampNeg tk) (1 : Int32).toNatClampNeg (tk / 48)) (2 : Int32).toNatClampNeg (f_X6_age mo tk)) (3 : Int32).toNatClampNeg (f_X6_spring mo tk)) (4 : Int32).toNatClampNeg ga) (5 : Int32).toNatClampNeg sl) (6 : Int32).toNatClampNeg pn), tc_X6 ma tk mo su lv si ga sl sc fh lh fo ee pn e0 e1 e2 e3 e4 e5 a0] ++ tm_L G ed n ad rc) := hD
  refine lv_dup hx hb dX7_manyNow_122 rfl ?_
  refine lv_bipush (v := 7) hx hb dX7_manyNow_123 (by decide) ?_
  refine lv_aload_n hx hb dX7_manyNow_125 rfl (lv_at hl 1 rfl) ?_
  refine va_get (D := G.1) (ci := 8) (v := .ref lo) (C := RX7) (T := TX7) (N := 7) hx hb hts hiX7 hown hK hP 0 rfl rfl 6 (by decide) (hts (.fieldLink RX7 21 "TideMillModel" "lots" "Ljava/util/List;") (List.mem_of_getElem? (i := 8) rfl)) (fun _ h9 => h9) rfl dX7_manyNow_126 ?_
  have hPc := hP.sub (ws' := [tc_Jx4a65c lo mc ed (nI n)]) [2] rfl
  have hDc := hD.sub (ws' := [tc_Jx4a65c lo mc ed (nI n)]) [2] (by decide) rfl
  have hFc := va_free (wc := [tc_Jx4a65c lo mc ed (nI n)]) hD hS hA [2] rfl
  refine va_callFi (va_runF (As := []) (rest := [.int 7, .ref q_4, .ref q_4]) (hK.1 0 (RJx4a65c, TJx4a65c, 3) rfl).2 ⟨hx, hb, hml, hown, hts⟩ (c_Jx4a65c_size_8abf5 l G lo ed H.size mc (nI n) ) (va_cwF 0 hts gX7_manyNow_Jx4a65c_size_8abf5_f29Jx4a65c rfl rfl rfl (hN.2.2.2.2.1 (⟨"java/util/List", "size", "()I"⟩, yJx4a65c_size_8abf5) (List.mem_of_getElem? (i := 0) rfl)) (by decide +kernel) ⟨(Nat.le_of_ble_eq_true rfl), (Nat.le_of_ble_eq_true rfl)⟩) (tm_preV hK hN hV hS hPc hDc hFc (va_recv hK hPc (ci := 0) (q0 := 0) rfl rfl)) rfl rfl hl.1 rfl (lv_room (Nat.le_of_ble_eq_true rfl)) dX7_manyNow_129 ⟨(Nat.le_of_ble_eq_true rfl), (Nat.le_of_ble_eq_true rfl)⟩) hS (fun q _ h => hFc q h) hFc (fun r_14 u t H locs ht hvm hw_14 hB hz1 hk1 hS => ?_)
  obtain ⟨hP1, hD1⟩ := hB
  rw [ht] at hP1
  try dsimp only at hw_14
  obtain ⟨hP, hD⟩ := va_joinQ (X := [tc_X7 a0 th ma rf lk pu tl lo, tc_I G e3 3 sp, tc_Jx4a65c lo mc ed (nI n), tc_I G q_4 17 (upd (upd (upd (upd (upd (upd (upd (fun _ => (0 : Int32)) (0 : Int32).toNatClampNeg tk) (1 : Int32).toNatClampNeg (tk / 48)) (2 : Int32).toNatClampNeg (f_X6_age mo tk)) (3 : Int32).toNatClampNeg (f_X6_spring mo tk)) (4 : Int32).toNatClampNeg ga) (5 : Int32).toNatClampNeg sl) (6 : Int32).toNatClampNeg pn), tc_X6 ma tk mo su lv si ga sl sc fh lh fo ee pn e0 e1 e2 e3 e4 e5 a0]) (cx := [tc_Jx4a65c lo mc ed (nI n)]) (wr := [tc_X7 a0 th ma rf lk pu tl lo, tc_I G e3 3 sp, tc_I G q_4 17 (upd (upd (upd (upd (upd (upd (upd (fun _ => (0 : Int32)) (0 : Int32).toNatClampNeg tk) (1 : Int32).toNatClampNeg (tk / 48)) (2 : Int32).toNatClampNeg (f_X6_age mo tk)) (3 : Int32).toNatClampNeg (f_X6_spring mo tk)) (4 : Int32).toNatClampNeg ga) (5 : Int32).toNatClampNeg sl) (6 : Int32).toNatClampNeg pn), tc_X6 ma tk mo su lv si ga sl sc fh lh fo ee pn e0 e1 e2 e3 e4 e5 a0]) (w1 := [tc_Jx4a65c lo mc ed (nI n)]) (pl := tm_L G ed n ad rc) hP hD [2] [0, 1, 3, 4] rfl rfl (by decide) (by decide) hk1 hFc hP1 hD1
  have hP : va_P G.1 vwCl ([tc_X7 a0 th ma rf lk pu tl lo, tc_I G e3 3 sp, tc_I G q_4 17 (upd (upd (upd (upd (upd (upd (upd (fun _ => (0 : Int32)) (0 : Int32).toNatClampNeg tk) (1 : Int32).toNatClampNeg (tk / 48)) (2 : Int32).toNatClampNeg (f_X6_age mo tk)) (3 : Int32).toNatClampNeg (f_X6_spring mo tk)) (4 : Int32).toNatClampNeg ga) (5 : Int32).toNatClampNeg sl) (6 : Int32).toNatClampNeg pn), tc_X6 ma tk mo su lv si ga sl sc fh lh fo ee pn e0 e1 e2 e3 e4 e5 a0, tc_Jx4a65c lo mc ed (nI n)] ++ tm_L G ed n ad rc) H := hP
  have hD : va_D A ([tc_X7 a0 th ma rf lk pu tl lo, tc_I G e3 3 sp, tc_I G q_4 17 (upd (upd (upd (upd (upd (upd (upd (fun _ => (0 : Int32)) (0 : Int32).toNatClampNeg tk) (1 : Int32).toNatClampNeg (tk / 48)) (2 : Int32).toNatClampNeg (f_X6_age mo tk)) (3 : Int32).toNatClampNeg (f_X6_spring mo tk)) (4 : Int32).toNatClampNeg ga) (5 : Int32).toNatClampNeg sl) (6 : Int32).toNatClampNeg pn), tc_X6 ma tk mo su lv si ga sl sc fh lh fo ee pn e0 e1 e2 e3 e4 e5 a0, tc_Jx4a65c lo mc ed (nI n)] ++ tm_L G ed n ad rc) := hD
  subst r_14
  refine va_iast (n := 17) (f := upd (upd (upd (upd (upd (upd (upd (fun _ => (0 : Int32)) (0 : Int32).toNatClampNeg tk) (1 : Int32).toNatClampNeg (tk / 48)) (2 : Int32).toNatClampNeg (f_X6_age mo tk)) (3 : Int32).toNatClampNeg (f_X6_spring mo tk)) (4 : Int32).toNatClampNeg ga) (5 : Int32).toNatClampNeg sl) (6 : Int32).toNatClampNeg pn) hx hb hK hP hD hS 2 0 rfl rfl n_15 dX7_manyNow_134 (fun H locs hP hD hS => ?_)
  have hP : va_P G.1 vwCl ([tc_X7 a0 th ma rf lk pu tl lo, tc_I G e3 3 sp, tc_I G q_4 17 (upd (upd (upd (upd (upd (upd (upd (upd (fun _ => (0 : Int32)) (0 : Int32).toNatClampNeg tk) (1 : Int32).toNatClampNeg (tk / 48)) (2 : Int32).toNatClampNeg (f_X6_age mo tk)) (3 : Int32).toNatClampNeg (f_X6_spring mo tk)) (4 : Int32).toNatClampNeg ga) (5 : Int32).toNatClampNeg sl) (6 : Int32).toNatClampNeg pn) (7 : Int32).toNatClampNeg (f_Jx4a65c_size_8abf5 (nI n))), tc_X6 ma tk mo su lv si ga sl sc fh lh fo ee pn e0 e1 e2 e3 e4 e5 a0, tc_Jx4a65c lo mc ed (nI n)] ++ tm_L G ed n ad rc) H := hP
  have hD : va_D A ([tc_X7 a0 th ma rf lk pu tl lo, tc_I G e3 3 sp, tc_I G q_4 17 (upd (upd (upd (upd (upd (upd (upd (upd (fun _ => (0 : Int32)) (0 : Int32).toNatClampNeg tk) (1 : Int32).toNatClampNeg (tk / 48)) (2 : Int32).toNatClampNeg (f_X6_age mo tk)) (3 : Int32).toNatClampNeg (f_X6_spring mo tk)) (4 : Int32).toNatClampNeg ga) (5 : Int32).toNatClampNeg sl) (6 : Int32).toNatClampNeg pn) (7 : Int32).toNatClampNeg (f_Jx4a65c_size_8abf5 (nI n))), tc_X6 ma tk mo su lv si ga sl sc fh lh fo ee pn e0 e1 e2 e3 e4 e5 a0, tc_Jx4a65c lo mc ed (nI n)] ++ tm_L G ed n ad rc) := hD
  refine lv_dup hx hb dX7_manyNow_135 rfl ?_
  refine lv_bipush (v := 8) hx hb dX7_manyNow_136 (by decide) ?_
  refine lv_aload_n hx hb dX7_manyNow_138 rfl (lv_at hl 1 rfl) ?_
  refine lv_iconst (v := 0) hx hb dX7_manyNow_139 (by decide) ?_
  have hPc := va_P.part (X := [tc_X7 a0 th ma rf lk pu tl lo, tc_I G e3 3 sp, tc_I G q_4 17 (upd (upd (upd (upd (upd (upd (upd (upd (fun _ => (0 : Int32)) (0 : Int32).toNatClampNeg tk) (1 : Int32).toNatClampNeg (tk / 48)) (2 : Int32).toNatClampNeg (f_X6_age mo tk)) (3 : Int32).toNatClampNeg (f_X6_spring mo tk)) (4 : Int32).toNatClampNeg ga) (5 : Int32).toNatClampNeg sl) (6 : Int32).toNatClampNeg pn) (7 : Int32).toNatClampNeg (f_Jx4a65c_size_8abf5 (nI n))), tc_X6 ma tk mo su lv si ga sl sc fh lh fo ee pn e0 e1 e2 e3 e4 e5 a0, tc_Jx4a65c lo mc ed (nI n)]) (cx := [tc_X7 a0 th ma rf lk pu tl lo, tc_Jx4a65c lo mc ed (nI n)]) (pl := tm_L G ed n ad rc) hP [0, 4] rfl
  have hDc := va_D.part (X := [tc_X7 a0 th ma rf lk pu tl lo, tc_I G e3 3 sp, tc_I G q_4 17 (upd (upd (upd (upd (upd (upd (upd (upd (fun _ => (0 : Int32)) (0 : Int32).toNatClampNeg tk) (1 : Int32).toNatClampNeg (tk / 48)) (2 : Int32).toNatClampNeg (f_X6_age mo tk)) (3 : Int32).toNatClampNeg (f_X6_spring mo tk)) (4 : Int32).toNatClampNeg ga) (5 : Int32).toNatClampNeg sl) (6 : Int32).toNatClampNeg pn) (7 : Int32).toNatClampNeg (f_Jx4a65c_size_8abf5 (nI n))), tc_X6 ma tk mo su lv si ga sl sc fh lh fo ee pn e0 e1 e2 e3 e4 e5 a0, tc_Jx4a65c lo mc ed (nI n)]) (cx := [tc_X7 a0 th ma rf lk pu tl lo, tc_Jx4a65c lo mc ed (nI n)]) (pl := tm_L G ed n ad rc) hD [0, 4] (by decide) rfl
  have hFc := va_freeP (X := [tc_X7 a0 th ma rf lk pu tl lo, tc_I G e3 3 sp, tc_I G q_4 17 (upd (upd (upd (upd (upd (upd (upd (upd (fun _ => (0 : Int32)) (0 : Int32).toNatClampNeg tk) (1 : Int32).toNatClampNeg (tk / 48)) (2 : Int32).toNatClampNeg (f_X6_age mo tk)) (3 : Int32).toNatClampNeg (f_X6_spring mo tk)) (4 : Int32).toNatClampNeg ga) (5 : Int32).toNatClampNeg sl) (6 : Int32).toNatClampNeg pn) (7 : Int32).toNatClampNeg (f_Jx4a65c_size_8abf5 (nI n))), tc_X6 ma tk mo su lv si ga sl sc fh lh fo ee pn e0 e1 e2 e3 e4 e5 a0, tc_Jx4a65c lo mc ed (nI n)]) (cx := [tc_X7 a0 th ma rf lk pu tl lo, tc_Jx4a65c lo mc ed (nI n)]) (pl := tm_L G ed n ad rc) hD hS hA [0, 4] rfl
  refine va_calli (va_runV (As := [.int 0]) (rest := [.int 8, .ref q_4, .ref q_4]) ⟨hx, hb, hml, hown, hts⟩ (c_X7_count l G a0 ma lo ed H.size th rf lk pu tl mc 0 n ad rc n_16) (cwV 1 hts gX7_manyNow_X7_count rfl rfl rfl (by decide +kernel) ⟨(Nat.le_of_ble_eq_true rfl), (Nat.le_of_ble_eq_true rfl)⟩) (tm_preV hK hN hV hS hPc hDc hFc (va_recv hK hPc (ci := 8) (q0 := 0) rfl rfl)) rfl rfl hl.1 rfl (lv_room (Nat.le_of_ble_eq_true rfl)) dX7_manyNow_140 ⟨(Nat.le_of_ble_eq_true rfl), (Nat.le_of_ble_eq_true rfl)⟩) hS (fun q _ h => hFc q h) hFc (fun r_17 u t H locs ht hvm hw_17 hB hz1 hk1 hS => ?_)
  obtain ⟨hP1, hD1⟩ := hB
  rw [ht] at hP1
  try dsimp only at hw_17
  obtain ⟨hP, hD⟩ := va_joinP (X := [tc_X7 a0 th ma rf lk pu tl lo, tc_I G e3 3 sp, tc_I G q_4 17 (upd (upd (upd (upd (upd (upd (upd (upd (fun _ => (0 : Int32)) (0 : Int32).toNatClampNeg tk) (1 : Int32).toNatClampNeg (tk / 48)) (2 : Int32).toNatClampNeg (f_X6_age mo tk)) (3 : Int32).toNatClampNeg (f_X6_spring mo tk)) (4 : Int32).toNatClampNeg ga) (5 : Int32).toNatClampNeg sl) (6 : Int32).toNatClampNeg pn) (7 : Int32).toNatClampNeg (f_Jx4a65c_size_8abf5 (nI n))), tc_X6 ma tk mo su lv si ga sl sc fh lh fo ee pn e0 e1 e2 e3 e4 e5 a0, tc_Jx4a65c lo mc ed (nI n)]) (cx := [tc_X7 a0 th ma rf lk pu tl lo, tc_Jx4a65c lo mc ed (nI n)]) (wr := [tc_I G e3 3 sp, tc_I G q_4 17 (upd (upd (upd (upd (upd (upd (upd (upd (fun _ => (0 : Int32)) (0 : Int32).toNatClampNeg tk) (1 : Int32).toNatClampNeg (tk / 48)) (2 : Int32).toNatClampNeg (f_X6_age mo tk)) (3 : Int32).toNatClampNeg (f_X6_spring mo tk)) (4 : Int32).toNatClampNeg ga) (5 : Int32).toNatClampNeg sl) (6 : Int32).toNatClampNeg pn) (7 : Int32).toNatClampNeg (f_Jx4a65c_size_8abf5 (nI n))), tc_X6 ma tk mo su lv si ga sl sc fh lh fo ee pn e0 e1 e2 e3 e4 e5 a0]) (rx := [tc_X7 a0 th ma rf lk pu tl lo, tc_Jx4a65c lo mc ed (nI n)]) (pl := tm_L G ed n ad rc) (pl1 := tm_L G ed n ad rc) hP hD [0, 4] [1, 2, 3] rfl rfl (by decide) (by decide) hk1 hFc hP1 hD1
  have hP : va_P G.1 vwCl ([tc_I G e3 3 sp, tc_I G q_4 17 (upd (upd (upd (upd (upd (upd (upd (upd (fun _ => (0 : Int32)) (0 : Int32).toNatClampNeg tk) (1 : Int32).toNatClampNeg (tk / 48)) (2 : Int32).toNatClampNeg (f_X6_age mo tk)) (3 : Int32).toNatClampNeg (f_X6_spring mo tk)) (4 : Int32).toNatClampNeg ga) (5 : Int32).toNatClampNeg sl) (6 : Int32).toNatClampNeg pn) (7 : Int32).toNatClampNeg (f_Jx4a65c_size_8abf5 (nI n))), tc_X6 ma tk mo su lv si ga sl sc fh lh fo ee pn e0 e1 e2 e3 e4 e5 a0, tc_X7 a0 th ma rf lk pu tl lo, tc_Jx4a65c lo mc ed (nI n)] ++ tm_L G ed n ad rc) H := hP
  have hD : va_D A ([tc_I G e3 3 sp, tc_I G q_4 17 (upd (upd (upd (upd (upd (upd (upd (upd (fun _ => (0 : Int32)) (0 : Int32).toNatClampNeg tk) (1 : Int32).toNatClampNeg (tk / 48)) (2 : Int32).toNatClampNeg (f_X6_age mo tk)) (3 : Int32).toNatClampNeg (f_X6_spring mo tk)) (4 : Int32).toNatClampNeg ga) (5 : Int32).toNatClampNeg sl) (6 : Int32).toNatClampNeg pn) (7 : Int32).toNatClampNeg (f_Jx4a65c_size_8abf5 (nI n))), tc_X6 ma tk mo su lv si ga sl sc fh lh fo ee pn e0 e1 e2 e3 e4 e5 a0, tc_X7 a0 th ma rf lk pu tl lo, tc_Jx4a65c lo mc ed (nI n)] ++ tm_L G ed n ad rc) := hD
  subst r_17
  refine va_iast (n := 17) (f := upd (upd (upd (upd (upd (upd (upd (upd (fun _ => (0 : Int32)) (0 : Int32).toNatClampNeg tk) (1 : Int32).toNatClampNeg (tk / 48)) (2 : Int32).toNatClampNeg (f_X6_age mo tk)) (3 : Int32).toNatClampNeg (f_X6_spring mo tk)) (4 : Int32).toNatClampNeg ga) (5 : Int32).toNatClampNeg sl) (6 : Int32).toNatClampNeg pn) (7 : Int32).toNatClampNeg (f_Jx4a65c_size_8abf5 (nI n))) hx hb hK hP hD hS 1 0 rfl rfl n_18 dX7_manyNow_143 (fun H locs hP hD hS => ?_)
  have hP : va_P G.1 vwCl ([tc_I G e3 3 sp, tc_I G q_4 17 (upd (upd (upd (upd (upd (upd (upd (upd (upd (fun _ => (0 : Int32)) (0 : Int32).toNatClampNeg tk) (1 : Int32).toNatClampNeg (tk / 48)) (2 : Int32).toNatClampNeg (f_X6_age mo tk)) (3 : Int32).toNatClampNeg (f_X6_spring mo tk)) (4 : Int32).toNatClampNeg ga) (5 : Int32).toNatClampNeg sl) (6 : Int32).toNatClampNeg pn) (7 : Int32).toNatClampNeg (f_Jx4a65c_size_8abf5 (nI n))) (8 : Int32).toNatClampNeg (f_X7_count 0 n rc)), tc_X6 ma tk mo su lv si ga sl sc fh lh fo ee pn e0 e1 e2 e3 e4 e5 a0, tc_X7 a0 th ma rf lk pu tl lo, tc_Jx4a65c lo mc ed (nI n)] ++ tm_L G ed n ad rc) H := hP
  have hD : va_D A ([tc_I G e3 3 sp, tc_I G q_4 17 (upd (upd (upd (upd (upd (upd (upd (upd (upd (fun _ => (0 : Int32)) (0 : Int32).toNatClampNeg tk) (1 : Int32).toNatClampNeg (tk / 48)) (2 : Int32).toNatClampNeg (f_X6_age mo tk)) (3 : Int32).toNatClampNeg (f_X6_spring mo tk)) (4 : Int32).toNatClampNeg ga) (5 : Int32).toNatClampNeg sl) (6 : Int32).toNatClampNeg pn) (7 : Int32).toNatClampNeg (f_Jx4a65c_size_8abf5 (nI n))) (8 : Int32).toNatClampNeg (f_X7_count 0 n rc)), tc_X6 ma tk mo su lv si ga sl sc fh lh fo ee pn e0 e1 e2 e3 e4 e5 a0, tc_X7 a0 th ma rf lk pu tl lo, tc_Jx4a65c lo mc ed (nI n)] ++ tm_L G ed n ad rc) := hD
  refine lv_dup hx hb dX7_manyNow_144 rfl ?_
  refine lv_bipush (v := 9) hx hb dX7_manyNow_145 (by decide) ?_
  refine lv_aload_n hx hb dX7_manyNow_147 rfl (lv_at hl 1 rfl) ?_
  refine lv_iconst (v := 2) hx hb dX7_manyNow_148 (by decide) ?_
  have hPc := va_P.part (X := [tc_I G e3 3 sp, tc_I G q_4 17 (upd (upd (upd (upd (upd (upd (upd (upd (upd (fun _ => (0 : Int32)) (0 : Int32).toNatClampNeg tk) (1 : Int32).toNatClampNeg (tk / 48)) (2 : Int32).toNatClampNeg (f_X6_age mo tk)) (3 : Int32).toNatClampNeg (f_X6_spring mo tk)) (4 : Int32).toNatClampNeg ga) (5 : Int32).toNatClampNeg sl) (6 : Int32).toNatClampNeg pn) (7 : Int32).toNatClampNeg (f_Jx4a65c_size_8abf5 (nI n))) (8 : Int32).toNatClampNeg (f_X7_count 0 n rc)), tc_X6 ma tk mo su lv si ga sl sc fh lh fo ee pn e0 e1 e2 e3 e4 e5 a0, tc_X7 a0 th ma rf lk pu tl lo, tc_Jx4a65c lo mc ed (nI n)]) (cx := [tc_X7 a0 th ma rf lk pu tl lo, tc_Jx4a65c lo mc ed (nI n)]) (pl := tm_L G ed n ad rc) hP [3, 4] rfl
  have hDc := va_D.part (X := [tc_I G e3 3 sp, tc_I G q_4 17 (upd (upd (upd (upd (upd (upd (upd (upd (upd (fun _ => (0 : Int32)) (0 : Int32).toNatClampNeg tk) (1 : Int32).toNatClampNeg (tk / 48)) (2 : Int32).toNatClampNeg (f_X6_age mo tk)) (3 : Int32).toNatClampNeg (f_X6_spring mo tk)) (4 : Int32).toNatClampNeg ga) (5 : Int32).toNatClampNeg sl) (6 : Int32).toNatClampNeg pn) (7 : Int32).toNatClampNeg (f_Jx4a65c_size_8abf5 (nI n))) (8 : Int32).toNatClampNeg (f_X7_count 0 n rc)), tc_X6 ma tk mo su lv si ga sl sc fh lh fo ee pn e0 e1 e2 e3 e4 e5 a0, tc_X7 a0 th ma rf lk pu tl lo, tc_Jx4a65c lo mc ed (nI n)]) (cx := [tc_X7 a0 th ma rf lk pu tl lo, tc_Jx4a65c lo mc ed (nI n)]) (pl := tm_L G ed n ad rc) hD [3, 4] (by decide) rfl
  have hFc := va_freeP (X := [tc_I G e3 3 sp, tc_I G q_4 17 (upd (upd (upd (upd (upd (upd (upd (upd (upd (fun _ => (0 : Int32)) (0 : Int32).toNatClampNeg tk) (1 : Int32).toNatClampNeg (tk / 48)) (2 : Int32).toNatClampNeg (f_X6_age mo tk)) (3 : Int32).toNatClampNeg (f_X6_spring mo tk)) (4 : Int32).toNatClampNeg ga) (5 : Int32).toNatClampNeg sl) (6 : Int32).toNatClampNeg pn) (7 : Int32).toNatClampNeg (f_Jx4a65c_size_8abf5 (nI n))) (8 : Int32).toNatClampNeg (f_X7_count 0 n rc)), tc_X6 ma tk mo su lv si ga sl sc fh lh fo ee pn e0 e1 e2 e3 e4 e5 a0, tc_X7 a0 th ma rf lk pu tl lo, tc_Jx4a65c lo mc ed (nI n)]) (cx := [tc_X7 a0 th ma rf lk pu tl lo, tc_Jx4a65c lo mc ed (nI n)]) (pl := tm_L G ed n ad rc) hD hS hA [3, 4] rfl
  refine va_calli (va_runV (As := [.int 2]) (rest := [.int 9, .ref q_4, .ref q_4]) ⟨hx, hb, hml, hown, hts⟩ (c_X7_count l G a0 ma lo ed H.size th rf lk pu tl mc 2 n ad rc n_19) (cwV 1 hts gX7_manyNow_X7_count rfl rfl rfl (by decide +kernel) ⟨(Nat.le_of_ble_eq_true rfl), (Nat.le_of_ble_eq_true rfl)⟩) (tm_preV hK hN hV hS hPc hDc hFc (va_recv hK hPc (ci := 8) (q0 := 0) rfl rfl)) rfl rfl hl.1 rfl (lv_room (Nat.le_of_ble_eq_true rfl)) dX7_manyNow_149 ⟨(Nat.le_of_ble_eq_true rfl), (Nat.le_of_ble_eq_true rfl)⟩) hS (fun q _ h => hFc q h) hFc (fun r_20 u t H locs ht hvm hw_20 hB hz1 hk1 hS => ?_)
  obtain ⟨hP1, hD1⟩ := hB
  rw [ht] at hP1
  try dsimp only at hw_20
  obtain ⟨hP, hD⟩ := va_joinP (X := [tc_I G e3 3 sp, tc_I G q_4 17 (upd (upd (upd (upd (upd (upd (upd (upd (upd (fun _ => (0 : Int32)) (0 : Int32).toNatClampNeg tk) (1 : Int32).toNatClampNeg (tk / 48)) (2 : Int32).toNatClampNeg (f_X6_age mo tk)) (3 : Int32).toNatClampNeg (f_X6_spring mo tk)) (4 : Int32).toNatClampNeg ga) (5 : Int32).toNatClampNeg sl) (6 : Int32).toNatClampNeg pn) (7 : Int32).toNatClampNeg (f_Jx4a65c_size_8abf5 (nI n))) (8 : Int32).toNatClampNeg (f_X7_count 0 n rc)), tc_X6 ma tk mo su lv si ga sl sc fh lh fo ee pn e0 e1 e2 e3 e4 e5 a0, tc_X7 a0 th ma rf lk pu tl lo, tc_Jx4a65c lo mc ed (nI n)]) (cx := [tc_X7 a0 th ma rf lk pu tl lo, tc_Jx4a65c lo mc ed (nI n)]) (wr := [tc_I G e3 3 sp, tc_I G q_4 17 (upd (upd (upd (upd (upd (upd (upd (upd (upd (fun _ => (0 : Int32)) (0 : Int32).toNatClampNeg tk) (1 : Int32).toNatClampNeg (tk / 48)) (2 : Int32).toNatClampNeg (f_X6_age mo tk)) (3 : Int32).toNatClampNeg (f_X6_spring mo tk)) (4 : Int32).toNatClampNeg ga) (5 : Int32).toNatClampNeg sl) (6 : Int32).toNatClampNeg pn) (7 : Int32).toNatClampNeg (f_Jx4a65c_size_8abf5 (nI n))) (8 : Int32).toNatClampNeg (f_X7_count 0 n rc)), tc_X6 ma tk mo su lv si ga sl sc fh lh fo ee pn e0 e1 e2 e3 e4 e5 a0]) (rx := [tc_X7 a0 th ma rf lk pu tl lo, tc_Jx4a65c lo mc ed (nI n)]) (pl := tm_L G ed n ad rc) (pl1 := tm_L G ed n ad rc) hP hD [3, 4] [0, 1, 2] rfl rfl (by decide) (by decide) hk1 hFc hP1 hD1
  have hP : va_P G.1 vwCl ([tc_I G e3 3 sp, tc_I G q_4 17 (upd (upd (upd (upd (upd (upd (upd (upd (upd (fun _ => (0 : Int32)) (0 : Int32).toNatClampNeg tk) (1 : Int32).toNatClampNeg (tk / 48)) (2 : Int32).toNatClampNeg (f_X6_age mo tk)) (3 : Int32).toNatClampNeg (f_X6_spring mo tk)) (4 : Int32).toNatClampNeg ga) (5 : Int32).toNatClampNeg sl) (6 : Int32).toNatClampNeg pn) (7 : Int32).toNatClampNeg (f_Jx4a65c_size_8abf5 (nI n))) (8 : Int32).toNatClampNeg (f_X7_count 0 n rc)), tc_X6 ma tk mo su lv si ga sl sc fh lh fo ee pn e0 e1 e2 e3 e4 e5 a0, tc_X7 a0 th ma rf lk pu tl lo, tc_Jx4a65c lo mc ed (nI n)] ++ tm_L G ed n ad rc) H := hP
  have hD : va_D A ([tc_I G e3 3 sp, tc_I G q_4 17 (upd (upd (upd (upd (upd (upd (upd (upd (upd (fun _ => (0 : Int32)) (0 : Int32).toNatClampNeg tk) (1 : Int32).toNatClampNeg (tk / 48)) (2 : Int32).toNatClampNeg (f_X6_age mo tk)) (3 : Int32).toNatClampNeg (f_X6_spring mo tk)) (4 : Int32).toNatClampNeg ga) (5 : Int32).toNatClampNeg sl) (6 : Int32).toNatClampNeg pn) (7 : Int32).toNatClampNeg (f_Jx4a65c_size_8abf5 (nI n))) (8 : Int32).toNatClampNeg (f_X7_count 0 n rc)), tc_X6 ma tk mo su lv si ga sl sc fh lh fo ee pn e0 e1 e2 e3 e4 e5 a0, tc_X7 a0 th ma rf lk pu tl lo, tc_Jx4a65c lo mc ed (nI n)] ++ tm_L G ed n ad rc) := hD
  subst r_20
  refine va_iast (n := 17) (f := upd (upd (upd (upd (upd (upd (upd (upd (upd (fun _ => (0 : Int32)) (0 : Int32).toNatClampNeg tk) (1 : Int32).toNatClampNeg (tk / 48)) (2 : Int32).toNatClampNeg (f_X6_age mo tk)) (3 : Int32).toNatClampNeg (f_X6_spring mo tk)) (4 : Int32).toNatClampNeg ga) (5 : Int32).toNatClampNeg sl) (6 : Int32).toNatClampNeg pn) (7 : Int32).toNatClampNeg (f_Jx4a65c_size_8abf5 (nI n))) (8 : Int32).toNatClampNeg (f_X7_count 0 n rc)) hx hb hK hP hD hS 1 0 rfl rfl n_21 dX7_manyNow_152 (fun H locs hP hD hS => ?_)
  have hP : va_P G.1 vwCl ([tc_I G e3 3 sp, tc_I G q_4 17 (upd (upd (upd (upd (upd (upd (upd (upd (upd (upd (fun _ => (0 : Int32)) (0 : Int32).toNatClampNeg tk) (1 : Int32).toNatClampNeg (tk / 48)) (2 : Int32).toNatClampNeg (f_X6_age mo tk)) (3 : Int32).toNatClampNeg (f_X6_spring mo tk)) (4 : Int32).toNatClampNeg ga) (5 : Int32).toNatClampNeg sl) (6 : Int32).toNatClampNeg pn) (7 : Int32).toNatClampNeg (f_Jx4a65c_size_8abf5 (nI n))) (8 : Int32).toNatClampNeg (f_X7_count 0 n rc)) (9 : Int32).toNatClampNeg (f_X7_count 2 n rc)), tc_X6 ma tk mo su lv si ga sl sc fh lh fo ee pn e0 e1 e2 e3 e4 e5 a0, tc_X7 a0 th ma rf lk pu tl lo, tc_Jx4a65c lo mc ed (nI n)] ++ tm_L G ed n ad rc) H := hP
  have hD : va_D A ([tc_I G e3 3 sp, tc_I G q_4 17 (upd (upd (upd (upd (upd (upd (upd (upd (upd (upd (fun _ => (0 : Int32)) (0 : Int32).toNatClampNeg tk) (1 : Int32).toNatClampNeg (tk / 48)) (2 : Int32).toNatClampNeg (f_X6_age mo tk)) (3 : Int32).toNatClampNeg (f_X6_spring mo tk)) (4 : Int32).toNatClampNeg ga) (5 : Int32).toNatClampNeg sl) (6 : Int32).toNatClampNeg pn) (7 : Int32).toNatClampNeg (f_Jx4a65c_size_8abf5 (nI n))) (8 : Int32).toNatClampNeg (f_X7_count 0 n rc)) (9 : Int32).toNatClampNeg (f_X7_count 2 n rc)), tc_X6 ma tk mo su lv si ga sl sc fh lh fo ee pn e0 e1 e2 e3 e4 e5 a0, tc_X7 a0 th ma rf lk pu tl lo, tc_Jx4a65c lo mc ed (nI n)] ++ tm_L G ed n ad rc) := hD
  refine lv_dup hx hb dX7_manyNow_153 rfl ?_
  refine lv_bipush (v := 10) hx hb dX7_manyNow_154 (by decide) ?_
  refine lv_aload_n hx hb dX7_manyNow_156 rfl (lv_at hl 1 rfl) ?_
  refine lv_iconst (v := 3) hx hb dX7_manyNow_157 (by decide) ?_
  have hPc := va_P.part (X := [tc_I G e3 3 sp, tc_I G q_4 17 (upd (upd (upd (upd (upd (upd (upd (upd (upd (upd (fun _ => (0 : Int32)) (0 : Int32).toNatClampNeg tk) (1 : Int32).toNatClampNeg (tk / 48)) (2 : Int32).toNatClampNeg (f_X6_age mo tk)) (3 : Int32).toNatClampNeg (f_X6_spring mo tk)) (4 : Int32).toNatClampNeg ga) (5 : Int32).toNatClampNeg sl) (6 : Int32).toNatClampNeg pn) (7 : Int32).toNatClampNeg (f_Jx4a65c_size_8abf5 (nI n))) (8 : Int32).toNatClampNeg (f_X7_count 0 n rc)) (9 : Int32).toNatClampNeg (f_X7_count 2 n rc)), tc_X6 ma tk mo su lv si ga sl sc fh lh fo ee pn e0 e1 e2 e3 e4 e5 a0, tc_X7 a0 th ma rf lk pu tl lo, tc_Jx4a65c lo mc ed (nI n)]) (cx := [tc_X7 a0 th ma rf lk pu tl lo, tc_Jx4a65c lo mc ed (nI n)]) (pl := tm_L G ed n ad rc) hP [3, 4] rfl
  have hDc := va_D.part (X := [tc_I G e3 3 sp, tc_I G q_4 17 (upd (upd (upd (upd (upd (upd (upd (upd (upd (upd (fun _ => (0 : Int32)) (0 : Int32).toNatClampNeg tk) (1 : Int32).toNatClampNeg (tk / 48)) (2 : Int32).toNatClampNeg (f_X6_age mo tk)) (3 : Int32).toNatClampNeg (f_X6_spring mo tk)) (4 : Int32).toNatClampNeg ga) (5 : Int32).toNatClampNeg sl) (6 : Int32).toNatClampNeg pn) (7 : Int32).toNatClampNeg (f_Jx4a65c_size_8abf5 (nI n))) (8 : Int32).toNatClampNeg (f_X7_count 0 n rc)) (9 : Int32).toNatClampNeg (f_X7_count 2 n rc)), tc_X6 ma tk mo su lv si ga sl sc fh lh fo ee pn e0 e1 e2 e3 e4 e5 a0, tc_X7 a0 th ma rf lk pu tl lo, tc_Jx4a65c lo mc ed (nI n)]) (cx := [tc_X7 a0 th ma rf lk pu tl lo, tc_Jx4a65c lo mc ed (nI n)]) (pl := tm_L G ed n ad rc) hD [3, 4] (by decide) rfl
  have hFc := va_freeP (X := [tc_I G e3 3 sp, tc_I G q_4 17 (upd (upd (upd (upd (upd (upd (upd (upd (upd (upd (fun _ => (0 : Int32)) (0 : Int32).toNatClampNeg tk) (1 : Int32).toNatClampNeg (tk / 48)) (2 : Int32).toNatClampNeg (f_X6_age mo tk)) (3 : Int32).toNatClampNeg (f_X6_spring mo tk)) (4 : Int32).toNatClampNeg ga) (5 : Int32).toNatClampNeg sl) (6 : Int32).toNatClampNeg pn) (7 : Int32).toNatClampNeg (f_Jx4a65c_size_8abf5 (nI n))) (8 : Int32).toNatClampNeg (f_X7_count 0 n rc)) (9 : Int32).toNatClampNeg (f_X7_count 2 n rc)), tc_X6 ma tk mo su lv si ga sl sc fh lh fo ee pn e0 e1 e2 e3 e4 e5 a0, tc_X7 a0 th ma rf lk pu tl lo, tc_Jx4a65c lo mc ed (nI n)]) (cx := [tc_X7 a0 th ma rf lk pu tl lo, tc_Jx4a65c lo mc ed (nI n)]) (pl := tm_L G ed n ad rc) hD hS hA [3, 4] rfl
  refine va_calli (va_runV (As := [.int 3]) (rest := [.int 10, .ref q_4, .ref q_4]) ⟨hx, hb, hml, hown, hts⟩ (c_X7_count l G a0 ma lo ed H.size th rf lk pu tl mc 3 n ad rc n_22) (cwV 1 hts gX7_manyNow_X7_count rfl rfl rfl (by decide +kernel) ⟨(Nat.le_of_ble_eq_true rfl), (Nat.le_of_ble_eq_true rfl)⟩) (tm_preV hK hN hV hS hPc hDc hFc (va_recv hK hPc (ci := 8) (q0 := 0) rfl rfl)) rfl rfl hl.1 rfl (lv_room (Nat.le_of_ble_eq_true rfl)) dX7_manyNow_158 ⟨(Nat.le_of_ble_eq_true rfl), (Nat.le_of_ble_eq_true rfl)⟩) hS (fun q _ h => hFc q h) hFc (fun r_23 u t H locs ht hvm hw_23 hB hz1 hk1 hS => ?_)
  obtain ⟨hP1, hD1⟩ := hB
  rw [ht] at hP1
  try dsimp only at hw_23
  obtain ⟨hP, hD⟩ := va_joinP (X := [tc_I G e3 3 sp, tc_I G q_4 17 (upd (upd (upd (upd (upd (upd (upd (upd (upd (upd (fun _ => (0 : Int32)) (0 : Int32).toNatClampNeg tk) (1 : Int32).toNatClampNeg (tk / 48)) (2 : Int32).toNatClampNeg (f_X6_age mo tk)) (3 : Int32).toNatClampNeg (f_X6_spring mo tk)) (4 : Int32).toNatClampNeg ga) (5 : Int32).toNatClampNeg sl) (6 : Int32).toNatClampNeg pn) (7 : Int32).toNatClampNeg (f_Jx4a65c_size_8abf5 (nI n))) (8 : Int32).toNatClampNeg (f_X7_count 0 n rc)) (9 : Int32).toNatClampNeg (f_X7_count 2 n rc)), tc_X6 ma tk mo su lv si ga sl sc fh lh fo ee pn e0 e1 e2 e3 e4 e5 a0, tc_X7 a0 th ma rf lk pu tl lo, tc_Jx4a65c lo mc ed (nI n)]) (cx := [tc_X7 a0 th ma rf lk pu tl lo, tc_Jx4a65c lo mc ed (nI n)]) (wr := [tc_I G e3 3 sp, tc_I G q_4 17 (upd (upd (upd (upd (upd (upd (upd (upd (upd (upd (fun _ => (0 : Int32)) (0 : Int32).toNatClampNeg tk) (1 : Int32).toNatClampNeg (tk / 48)) (2 : Int32).toNatClampNeg (f_X6_age mo tk)) (3 : Int32).toNatClampNeg (f_X6_spring mo tk)) (4 : Int32).toNatClampNeg ga) (5 : Int32).toNatClampNeg sl) (6 : Int32).toNatClampNeg pn) (7 : Int32).toNatClampNeg (f_Jx4a65c_size_8abf5 (nI n))) (8 : Int32).toNatClampNeg (f_X7_count 0 n rc)) (9 : Int32).toNatClampNeg (f_X7_count 2 n rc)), tc_X6 ma tk mo su lv si ga sl sc fh lh fo ee pn e0 e1 e2 e3 e4 e5 a0]) (rx := [tc_X7 a0 th ma rf lk pu tl lo, tc_Jx4a65c lo mc ed (nI n)]) (pl := tm_L G ed n ad rc) (pl1 := tm_L G ed n ad rc) hP hD [3, 4] [0, 1, 2] rfl rfl (by decide) (by decide) hk1 hFc hP1 hD1
  have hP : va_P G.1 vwCl ([tc_I G e3 3 sp, tc_I G q_4 17 (upd (upd (upd (upd (upd (upd (upd (upd (upd (upd (fun _ => (0 : Int32)) (0 : Int32).toNatClampNeg tk) (1 : Int32).toNatClampNeg (tk / 48)) (2 : Int32).toNatClampNeg (f_X6_age mo tk)) (3 : Int32).toNatClampNeg (f_X6_spring mo tk)) (4 : Int32).toNatClampNeg ga) (5 : Int32).toNatClampNeg sl) (6 : Int32).toNatClampNeg pn) (7 : Int32).toNatClampNeg (f_Jx4a65c_size_8abf5 (nI n))) (8 : Int32).toNatClampNeg (f_X7_count 0 n rc)) (9 : Int32).toNatClampNeg (f_X7_count 2 n rc)), tc_X6 ma tk mo su lv si ga sl sc fh lh fo ee pn e0 e1 e2 e3 e4 e5 a0, tc_X7 a0 th ma rf lk pu tl lo, tc_Jx4a65c lo mc ed (nI n)] ++ tm_L G ed n ad rc) H := hP
  have hD : va_D A ([tc_I G e3 3 sp, tc_I G q_4 17 (upd (upd (upd (upd (upd (upd (upd (upd (upd (upd (fun _ => (0 : Int32)) (0 : Int32).toNatClampNeg tk) (1 : Int32).toNatClampNeg (tk / 48)) (2 : Int32).toNatClampNeg (f_X6_age mo tk)) (3 : Int32).toNatClampNeg (f_X6_spring mo tk)) (4 : Int32).toNatClampNeg ga) (5 : Int32).toNatClampNeg sl) (6 : Int32).toNatClampNeg pn) (7 : Int32).toNatClampNeg (f_Jx4a65c_size_8abf5 (nI n))) (8 : Int32).toNatClampNeg (f_X7_count 0 n rc)) (9 : Int32).toNatClampNeg (f_X7_count 2 n rc)), tc_X6 ma tk mo su lv si ga sl sc fh lh fo ee pn e0 e1 e2 e3 e4 e5 a0, tc_X7 a0 th ma rf lk pu tl lo, tc_Jx4a65c lo mc ed (nI n)] ++ tm_L G ed n ad rc) := hD
  subst r_23
  refine va_iast (n := 17) (f := upd (upd (upd (upd (upd (upd (upd (upd (upd (upd (fun _ => (0 : Int32)) (0 : Int32).toNatClampNeg tk) (1 : Int32).toNatClampNeg (tk / 48)) (2 : Int32).toNatClampNeg (f_X6_age mo tk)) (3 : Int32).toNatClampNeg (f_X6_spring mo tk)) (4 : Int32).toNatClampNeg ga) (5 : Int32).toNatClampNeg sl) (6 : Int32).toNatClampNeg pn) (7 : Int32).toNatClampNeg (f_Jx4a65c_size_8abf5 (nI n))) (8 : Int32).toNatClampNeg (f_X7_count 0 n rc)) (9 : Int32).toNatClampNeg (f_X7_count 2 n rc)) hx hb hK hP hD hS 1 0 rfl rfl n_24 dX7_manyNow_161 (fun H locs hP hD hS => ?_)
  have hP : va_P G.1 vwCl ([tc_I G e3 3 sp, tc_I G q_4 17 (upd (upd (upd (upd (upd (upd (upd (upd (upd (upd (upd (fun _ => (0 : Int32)) (0 : Int32).toNatClampNeg tk) (1 : Int32).toNatClampNeg (tk / 48)) (2 : Int32).toNatClampNeg (f_X6_age mo tk)) (3 : Int32).toNatClampNeg (f_X6_spring mo tk)) (4 : Int32).toNatClampNeg ga) (5 : Int32).toNatClampNeg sl) (6 : Int32).toNatClampNeg pn) (7 : Int32).toNatClampNeg (f_Jx4a65c_size_8abf5 (nI n))) (8 : Int32).toNatClampNeg (f_X7_count 0 n rc)) (9 : Int32).toNatClampNeg (f_X7_count 2 n rc)) (10 : Int32).toNatClampNeg (f_X7_count 3 n rc)), tc_X6 ma tk mo su lv si ga sl sc fh lh fo ee pn e0 e1 e2 e3 e4 e5 a0, tc_X7 a0 th ma rf lk pu tl lo, tc_Jx4a65c lo mc ed (nI n)] ++ tm_L G ed n ad rc) H := hP
  have hD : va_D A ([tc_I G e3 3 sp, tc_I G q_4 17 (upd (upd (upd (upd (upd (upd (upd (upd (upd (upd (upd (fun _ => (0 : Int32)) (0 : Int32).toNatClampNeg tk) (1 : Int32).toNatClampNeg (tk / 48)) (2 : Int32).toNatClampNeg (f_X6_age mo tk)) (3 : Int32).toNatClampNeg (f_X6_spring mo tk)) (4 : Int32).toNatClampNeg ga) (5 : Int32).toNatClampNeg sl) (6 : Int32).toNatClampNeg pn) (7 : Int32).toNatClampNeg (f_Jx4a65c_size_8abf5 (nI n))) (8 : Int32).toNatClampNeg (f_X7_count 0 n rc)) (9 : Int32).toNatClampNeg (f_X7_count 2 n rc)) (10 : Int32).toNatClampNeg (f_X7_count 3 n rc)), tc_X6 ma tk mo su lv si ga sl sc fh lh fo ee pn e0 e1 e2 e3 e4 e5 a0, tc_X7 a0 th ma rf lk pu tl lo, tc_Jx4a65c lo mc ed (nI n)] ++ tm_L G ed n ad rc) := hD
  refine lv_dup hx hb dX7_manyNow_162 rfl ?_
  refine lv_bipush (v := 11) hx hb dX7_manyNow_163 (by decide) ?_
  refine lv_aload_n hx hb dX7_manyNow_165 rfl (lv_at hl 1 rfl) ?_
  refine va_get (D := G.1) (ci := 8) (v := .ref ma) (C := RX7) (T := TX7) (N := 7) hx hb hts hiX7 hown hK hP 3 rfl rfl 1 (by decide) (hts (.fieldLink RX7 12 "TideMillModel" "mill" "LTideMillModel$Mill;") (List.mem_of_getElem? (i := 1) rfl)) (fun _ h9 => h9) rfl dX7_manyNow_166 ?_
  refine va_get (D := G.1) (ci := 7) (v := .int ee) (C := RX6) (T := TX6) (N := 20) hx hb hts hiX6 hown hK hP 2 rfl rfl 11 (by decide) (hts (.fieldLink RX7 189 "TideMillModel$Mill" "eels" "I") (List.mem_of_getElem? (i := 9) rfl)) (fun _ h9 => h9) rfl dX7_manyNow_169 ?_
  refine va_iast (n := 17) (f := upd (upd (upd (upd (upd (upd (upd (upd (upd (upd (upd (fun _ => (0 : Int32)) (0 : Int32).toNatClampNeg tk) (1 : Int32).toNatClampNeg (tk / 48)) (2 : Int32).toNatClampNeg (f_X6_age mo tk)) (3 : Int32).toNatClampNeg (f_X6_spring mo tk)) (4 : Int32).toNatClampNeg ga) (5 : Int32).toNatClampNeg sl) (6 : Int32).toNatClampNeg pn) (7 : Int32).toNatClampNeg (f_Jx4a65c_size_8abf5 (nI n))) (8 : Int32).toNatClampNeg (f_X7_count 0 n rc)) (9 : Int32).toNatClampNeg (f_X7_count 2 n rc)) (10 : Int32).toNatClampNeg (f_X7_count 3 n rc)) hx hb hK hP hD hS 1 0 rfl rfl n_25 dX7_manyNow_172 (fun H locs hP hD hS => ?_)
  have hP : va_P G.1 vwCl ([tc_I G e3 3 sp, tc_I G q_4 17 (upd (upd (upd (upd (upd (upd (upd (upd (upd (upd (upd (upd (fun _ => (0 : Int32)) (0 : Int32).toNatClampNeg tk) (1 : Int32).toNatClampNeg (tk / 48)) (2 : Int32).toNatClampNeg (f_X6_age mo tk)) (3 : Int32).toNatClampNeg (f_X6_spring mo tk)) (4 : Int32).toNatClampNeg ga) (5 : Int32).toNatClampNeg sl) (6 : Int32).toNatClampNeg pn) (7 : Int32).toNatClampNeg (f_Jx4a65c_size_8abf5 (nI n))) (8 : Int32).toNatClampNeg (f_X7_count 0 n rc)) (9 : Int32).toNatClampNeg (f_X7_count 2 n rc)) (10 : Int32).toNatClampNeg (f_X7_count 3 n rc)) (11 : Int32).toNatClampNeg ee), tc_X6 ma tk mo su lv si ga sl sc fh lh fo ee pn e0 e1 e2 e3 e4 e5 a0, tc_X7 a0 th ma rf lk pu tl lo, tc_Jx4a65c lo mc ed (nI n)] ++ tm_L G ed n ad rc) H := hP
  have hD : va_D A ([tc_I G e3 3 sp, tc_I G q_4 17 (upd (upd (upd (upd (upd (upd (upd (upd (upd (upd (upd (upd (fun _ => (0 : Int32)) (0 : Int32).toNatClampNeg tk) (1 : Int32).toNatClampNeg (tk / 48)) (2 : Int32).toNatClampNeg (f_X6_age mo tk)) (3 : Int32).toNatClampNeg (f_X6_spring mo tk)) (4 : Int32).toNatClampNeg ga) (5 : Int32).toNatClampNeg sl) (6 : Int32).toNatClampNeg pn) (7 : Int32).toNatClampNeg (f_Jx4a65c_size_8abf5 (nI n))) (8 : Int32).toNatClampNeg (f_X7_count 0 n rc)) (9 : Int32).toNatClampNeg (f_X7_count 2 n rc)) (10 : Int32).toNatClampNeg (f_X7_count 3 n rc)) (11 : Int32).toNatClampNeg ee), tc_X6 ma tk mo su lv si ga sl sc fh lh fo ee pn e0 e1 e2 e3 e4 e5 a0, tc_X7 a0 th ma rf lk pu tl lo, tc_Jx4a65c lo mc ed (nI n)] ++ tm_L G ed n ad rc) := hD
  refine lv_dup hx hb dX7_manyNow_173 rfl ?_
  refine lv_bipush (v := 12) hx hb dX7_manyNow_174 (by decide) ?_
  refine lv_aload_n hx hb dX7_manyNow_176 rfl (lv_at hl 1 rfl) ?_
  refine va_get (D := G.1) (ci := 8) (v := .int pu) (C := RX7) (T := TX7) (N := 7) hx hb hts hiX7 hown hK hP 3 rfl rfl 4 (by decide) (hts (.fieldLink RX7 146 "TideMillModel" "purse" "I") (List.mem_of_getElem? (i := 10) rfl)) (fun _ h9 => h9) rfl dX7_manyNow_177 ?_
  refine va_iast (n := 17) (f := upd (upd (upd (upd (upd (upd (upd (upd (upd (upd (upd (upd (fun _ => (0 : Int32)) (0 : Int32).toNatClampNeg tk) (1 : Int32).toNatClampNeg (tk / 48)) (2 : Int32).toNatClampNeg (f_X6_age mo tk)) (3 : Int32).toNatClampNeg (f_X6_spring mo tk)) (4 : Int32).toNatClampNeg ga) (5 : Int32).toNatClampNeg sl) (6 : Int32).toNatClampNeg pn) (7 : Int32).toNatClampNeg (f_Jx4a65c_size_8abf5 (nI n))) (8 : Int32).toNatClampNeg (f_X7_count 0 n rc)) (9 : Int32).toNatClampNeg (f_X7_count 2 n rc)) (10 : Int32).toNatClampNeg (f_X7_count 3 n rc)) (11 : Int32).toNatClampNeg ee) hx hb hK hP hD hS 1 0 rfl rfl n_26 dX7_manyNow_180 (fun H locs hP hD hS => ?_)
  have hP : va_P G.1 vwCl ([tc_I G e3 3 sp, tc_I G q_4 17 (upd (upd (upd (upd (upd (upd (upd (upd (upd (upd (upd (upd (upd (fun _ => (0 : Int32)) (0 : Int32).toNatClampNeg tk) (1 : Int32).toNatClampNeg (tk / 48)) (2 : Int32).toNatClampNeg (f_X6_age mo tk)) (3 : Int32).toNatClampNeg (f_X6_spring mo tk)) (4 : Int32).toNatClampNeg ga) (5 : Int32).toNatClampNeg sl) (6 : Int32).toNatClampNeg pn) (7 : Int32).toNatClampNeg (f_Jx4a65c_size_8abf5 (nI n))) (8 : Int32).toNatClampNeg (f_X7_count 0 n rc)) (9 : Int32).toNatClampNeg (f_X7_count 2 n rc)) (10 : Int32).toNatClampNeg (f_X7_count 3 n rc)) (11 : Int32).toNatClampNeg ee) (12 : Int32).toNatClampNeg pu), tc_X6 ma tk mo su lv si ga sl sc fh lh fo ee pn e0 e1 e2 e3 e4 e5 a0, tc_X7 a0 th ma rf lk pu tl lo, tc_Jx4a65c lo mc ed (nI n)] ++ tm_L G ed n ad rc) H := hP
  have hD : va_D A ([tc_I G e3 3 sp, tc_I G q_4 17 (upd (upd (upd (upd (upd (upd (upd (upd (upd (upd (upd (upd (upd (fun _ => (0 : Int32)) (0 : Int32).toNatClampNeg tk) (1 : Int32).toNatClampNeg (tk / 48)) (2 : Int32).toNatClampNeg (f_X6_age mo tk)) (3 : Int32).toNatClampNeg (f_X6_spring mo tk)) (4 : Int32).toNatClampNeg ga) (5 : Int32).toNatClampNeg sl) (6 : Int32).toNatClampNeg pn) (7 : Int32).toNatClampNeg (f_Jx4a65c_size_8abf5 (nI n))) (8 : Int32).toNatClampNeg (f_X7_count 0 n rc)) (9 : Int32).toNatClampNeg (f_X7_count 2 n rc)) (10 : Int32).toNatClampNeg (f_X7_count 3 n rc)) (11 : Int32).toNatClampNeg ee) (12 : Int32).toNatClampNeg pu), tc_X6 ma tk mo su lv si ga sl sc fh lh fo ee pn e0 e1 e2 e3 e4 e5 a0, tc_X7 a0 th ma rf lk pu tl lo, tc_Jx4a65c lo mc ed (nI n)] ++ tm_L G ed n ad rc) := hD
  refine lv_dup hx hb dX7_manyNow_181 rfl ?_
  refine lv_bipush (v := 13) hx hb dX7_manyNow_182 (by decide) ?_
  refine lv_iload_n hx hb dX7_manyNow_184 rfl (lv_at hl 0 rfl) ?_
  refine va_iast (n := 17) (f := upd (upd (upd (upd (upd (upd (upd (upd (upd (upd (upd (upd (upd (fun _ => (0 : Int32)) (0 : Int32).toNatClampNeg tk) (1 : Int32).toNatClampNeg (tk / 48)) (2 : Int32).toNatClampNeg (f_X6_age mo tk)) (3 : Int32).toNatClampNeg (f_X6_spring mo tk)) (4 : Int32).toNatClampNeg ga) (5 : Int32).toNatClampNeg sl) (6 : Int32).toNatClampNeg pn) (7 : Int32).toNatClampNeg (f_Jx4a65c_size_8abf5 (nI n))) (8 : Int32).toNatClampNeg (f_X7_count 0 n rc)) (9 : Int32).toNatClampNeg (f_X7_count 2 n rc)) (10 : Int32).toNatClampNeg (f_X7_count 3 n rc)) (11 : Int32).toNatClampNeg ee) (12 : Int32).toNatClampNeg pu) hx hb hK hP hD hS 1 0 rfl rfl n_27 dX7_manyNow_185 (fun H locs hP hD hS => ?_)
  have hP : va_P G.1 vwCl ([tc_I G e3 3 sp, tc_I G q_4 17 (upd (upd (upd (upd (upd (upd (upd (upd (upd (upd (upd (upd (upd (upd (fun _ => (0 : Int32)) (0 : Int32).toNatClampNeg tk) (1 : Int32).toNatClampNeg (tk / 48)) (2 : Int32).toNatClampNeg (f_X6_age mo tk)) (3 : Int32).toNatClampNeg (f_X6_spring mo tk)) (4 : Int32).toNatClampNeg ga) (5 : Int32).toNatClampNeg sl) (6 : Int32).toNatClampNeg pn) (7 : Int32).toNatClampNeg (f_Jx4a65c_size_8abf5 (nI n))) (8 : Int32).toNatClampNeg (f_X7_count 0 n rc)) (9 : Int32).toNatClampNeg (f_X7_count 2 n rc)) (10 : Int32).toNatClampNeg (f_X7_count 3 n rc)) (11 : Int32).toNatClampNeg ee) (12 : Int32).toNatClampNeg pu) (13 : Int32).toNatClampNeg (((sp (0 : Int32).toNatClampNeg) + (sp (1 : Int32).toNatClampNeg)) + (sp (2 : Int32).toNatClampNeg))), tc_X6 ma tk mo su lv si ga sl sc fh lh fo ee pn e0 e1 e2 e3 e4 e5 a0, tc_X7 a0 th ma rf lk pu tl lo, tc_Jx4a65c lo mc ed (nI n)] ++ tm_L G ed n ad rc) H := hP
  have hD : va_D A ([tc_I G e3 3 sp, tc_I G q_4 17 (upd (upd (upd (upd (upd (upd (upd (upd (upd (upd (upd (upd (upd (upd (fun _ => (0 : Int32)) (0 : Int32).toNatClampNeg tk) (1 : Int32).toNatClampNeg (tk / 48)) (2 : Int32).toNatClampNeg (f_X6_age mo tk)) (3 : Int32).toNatClampNeg (f_X6_spring mo tk)) (4 : Int32).toNatClampNeg ga) (5 : Int32).toNatClampNeg sl) (6 : Int32).toNatClampNeg pn) (7 : Int32).toNatClampNeg (f_Jx4a65c_size_8abf5 (nI n))) (8 : Int32).toNatClampNeg (f_X7_count 0 n rc)) (9 : Int32).toNatClampNeg (f_X7_count 2 n rc)) (10 : Int32).toNatClampNeg (f_X7_count 3 n rc)) (11 : Int32).toNatClampNeg ee) (12 : Int32).toNatClampNeg pu) (13 : Int32).toNatClampNeg (((sp (0 : Int32).toNatClampNeg) + (sp (1 : Int32).toNatClampNeg)) + (sp (2 : Int32).toNatClampNeg))), tc_X6 ma tk mo su lv si ga sl sc fh lh fo ee pn e0 e1 e2 e3 e4 e5 a0, tc_X7 a0 th ma rf lk pu tl lo, tc_Jx4a65c lo mc ed (nI n)] ++ tm_L G ed n ad rc) := hD
  refine lv_dup hx hb dX7_manyNow_186 rfl ?_
  refine lv_bipush (v := 14) hx hb dX7_manyNow_187 (by decide) ?_
  refine lv_aload_n hx hb dX7_manyNow_189 rfl (lv_at hl 1 rfl) ?_
  refine va_get (D := G.1) (ci := 8) (v := .ref ma) (C := RX7) (T := TX7) (N := 7) hx hb hts hiX7 hown hK hP 3 rfl rfl 1 (by decide) (hts (.fieldLink RX7 12 "TideMillModel" "mill" "LTideMillModel$Mill;") (List.mem_of_getElem? (i := 1) rfl)) (fun _ h9 => h9) rfl dX7_manyNow_190 ?_
  have hPc := hP.sub (ws' := [tc_X6 ma tk mo su lv si ga sl sc fh lh fo ee pn e0 e1 e2 e3 e4 e5 a0]) [2] rfl
  have hDc := hD.sub (ws' := [tc_X6 ma tk mo su lv si ga sl sc fh lh fo ee pn e0 e1 e2 e3 e4 e5 a0]) [2] (by decide) rfl
  have hFc := va_free (wc := [tc_X6 ma tk mo su lv si ga sl sc fh lh fo ee pn e0 e1 e2 e3 e4 e5 a0]) hD hS hA [2] rfl
  refine va_calli (va_runV (As := []) (rest := [.int 14, .ref q_4, .ref q_4]) ⟨hx, hb, hml, hown, hts⟩ (c_X6_isAwake l G ma e0 e1 e2 e3 e4 e5 a0 H.size tk mo su lv si ga sl sc fh lh fo ee pn ) (cwV 0 hts gX7_manyNow_X6_isAwake rfl rfl rfl (by decide +kernel) ⟨(Nat.le_of_ble_eq_true rfl), (Nat.le_of_ble_eq_true rfl)⟩) (tm_preV hK hN hV hS hPc hDc hFc (va_recv hK hPc (ci := 7) (q0 := 0) rfl rfl)) rfl rfl hl.1 rfl (lv_room (Nat.le_of_ble_eq_true rfl)) dX7_manyNow_193 ⟨(Nat.le_of_ble_eq_true rfl), (Nat.le_of_ble_eq_true rfl)⟩) hS (fun q _ h => hFc q h) hFc (fun r_28 u t H locs ht hvm hw_28 hB hz1 hk1 hS => ?_)
  obtain ⟨hP1, hD1⟩ := hB
  rw [ht] at hP1
  try dsimp only at hw_28
  obtain ⟨hP, hD⟩ := va_joinQ (X := [tc_I G e3 3 sp, tc_I G q_4 17 (upd (upd (upd (upd (upd (upd (upd (upd (upd (upd (upd (upd (upd (upd (fun _ => (0 : Int32)) (0 : Int32).toNatClampNeg tk) (1 : Int32).toNatClampNeg (tk / 48)) (2 : Int32).toNatClampNeg (f_X6_age mo tk)) (3 : Int32).toNatClampNeg (f_X6_spring mo tk)) (4 : Int32).toNatClampNeg ga) (5 : Int32).toNatClampNeg sl) (6 : Int32).toNatClampNeg pn) (7 : Int32).toNatClampNeg (f_Jx4a65c_size_8abf5 (nI n))) (8 : Int32).toNatClampNeg (f_X7_count 0 n rc)) (9 : Int32).toNatClampNeg (f_X7_count 2 n rc)) (10 : Int32).toNatClampNeg (f_X7_count 3 n rc)) (11 : Int32).toNatClampNeg ee) (12 : Int32).toNatClampNeg pu) (13 : Int32).toNatClampNeg (((sp (0 : Int32).toNatClampNeg) + (sp (1 : Int32).toNatClampNeg)) + (sp (2 : Int32).toNatClampNeg))), tc_X6 ma tk mo su lv si ga sl sc fh lh fo ee pn e0 e1 e2 e3 e4 e5 a0, tc_X7 a0 th ma rf lk pu tl lo, tc_Jx4a65c lo mc ed (nI n)]) (cx := [tc_X6 ma tk mo su lv si ga sl sc fh lh fo ee pn e0 e1 e2 e3 e4 e5 a0]) (wr := [tc_I G e3 3 sp, tc_I G q_4 17 (upd (upd (upd (upd (upd (upd (upd (upd (upd (upd (upd (upd (upd (upd (fun _ => (0 : Int32)) (0 : Int32).toNatClampNeg tk) (1 : Int32).toNatClampNeg (tk / 48)) (2 : Int32).toNatClampNeg (f_X6_age mo tk)) (3 : Int32).toNatClampNeg (f_X6_spring mo tk)) (4 : Int32).toNatClampNeg ga) (5 : Int32).toNatClampNeg sl) (6 : Int32).toNatClampNeg pn) (7 : Int32).toNatClampNeg (f_Jx4a65c_size_8abf5 (nI n))) (8 : Int32).toNatClampNeg (f_X7_count 0 n rc)) (9 : Int32).toNatClampNeg (f_X7_count 2 n rc)) (10 : Int32).toNatClampNeg (f_X7_count 3 n rc)) (11 : Int32).toNatClampNeg ee) (12 : Int32).toNatClampNeg pu) (13 : Int32).toNatClampNeg (((sp (0 : Int32).toNatClampNeg) + (sp (1 : Int32).toNatClampNeg)) + (sp (2 : Int32).toNatClampNeg))), tc_X7 a0 th ma rf lk pu tl lo, tc_Jx4a65c lo mc ed (nI n)]) (w1 := [tc_X6 ma tk mo su lv si ga sl sc fh lh fo ee pn e0 e1 e2 e3 e4 e5 a0]) (pl := tm_L G ed n ad rc) hP hD [2] [0, 1, 3, 4] rfl rfl (by decide) (by decide) hk1 hFc hP1 hD1
  have hP : va_P G.1 vwCl ([tc_I G e3 3 sp, tc_I G q_4 17 (upd (upd (upd (upd (upd (upd (upd (upd (upd (upd (upd (upd (upd (upd (fun _ => (0 : Int32)) (0 : Int32).toNatClampNeg tk) (1 : Int32).toNatClampNeg (tk / 48)) (2 : Int32).toNatClampNeg (f_X6_age mo tk)) (3 : Int32).toNatClampNeg (f_X6_spring mo tk)) (4 : Int32).toNatClampNeg ga) (5 : Int32).toNatClampNeg sl) (6 : Int32).toNatClampNeg pn) (7 : Int32).toNatClampNeg (f_Jx4a65c_size_8abf5 (nI n))) (8 : Int32).toNatClampNeg (f_X7_count 0 n rc)) (9 : Int32).toNatClampNeg (f_X7_count 2 n rc)) (10 : Int32).toNatClampNeg (f_X7_count 3 n rc)) (11 : Int32).toNatClampNeg ee) (12 : Int32).toNatClampNeg pu) (13 : Int32).toNatClampNeg (((sp (0 : Int32).toNatClampNeg) + (sp (1 : Int32).toNatClampNeg)) + (sp (2 : Int32).toNatClampNeg))), tc_X7 a0 th ma rf lk pu tl lo, tc_Jx4a65c lo mc ed (nI n), tc_X6 ma tk mo su lv si ga sl sc fh lh fo ee pn e0 e1 e2 e3 e4 e5 a0] ++ tm_L G ed n ad rc) H := hP
  have hD : va_D A ([tc_I G e3 3 sp, tc_I G q_4 17 (upd (upd (upd (upd (upd (upd (upd (upd (upd (upd (upd (upd (upd (upd (fun _ => (0 : Int32)) (0 : Int32).toNatClampNeg tk) (1 : Int32).toNatClampNeg (tk / 48)) (2 : Int32).toNatClampNeg (f_X6_age mo tk)) (3 : Int32).toNatClampNeg (f_X6_spring mo tk)) (4 : Int32).toNatClampNeg ga) (5 : Int32).toNatClampNeg sl) (6 : Int32).toNatClampNeg pn) (7 : Int32).toNatClampNeg (f_Jx4a65c_size_8abf5 (nI n))) (8 : Int32).toNatClampNeg (f_X7_count 0 n rc)) (9 : Int32).toNatClampNeg (f_X7_count 2 n rc)) (10 : Int32).toNatClampNeg (f_X7_count 3 n rc)) (11 : Int32).toNatClampNeg ee) (12 : Int32).toNatClampNeg pu) (13 : Int32).toNatClampNeg (((sp (0 : Int32).toNatClampNeg) + (sp (1 : Int32).toNatClampNeg)) + (sp (2 : Int32).toNatClampNeg))), tc_X7 a0 th ma rf lk pu tl lo, tc_Jx4a65c lo mc ed (nI n), tc_X6 ma tk mo su lv si ga sl sc fh lh fo ee pn e0 e1 e2 e3 e4 e5 a0] ++ tm_L G ed n ad rc) := hD
  subst r_28
  refine lv_if_eq (tgt := 203) hx hb dX7_manyNow_196 (by decide) (fun c_29 => ?_) (fun c_29 => ?_)
  · refine lv_iconst (v := 0) hx hb dX7_manyNow_203 (by decide) ?_
    refine va_iast (n := 17) (f := upd (upd (upd (upd (upd (upd (upd (upd (upd (upd (upd (upd (upd (upd (fun _ => (0 : Int32)) (0 : Int32).toNatClampNeg tk) (1 : Int32).toNatClampNeg (tk / 48)) (2 : Int32).toNatClampNeg (f_X6_age mo tk)) (3 : Int32).toNatClampNeg (f_X6_spring mo tk)) (4 : Int32).toNatClampNeg ga) (5 : Int32).toNatClampNeg sl) (6 : Int32).toNatClampNeg pn) (7 : Int32).toNatClampNeg (f_Jx4a65c_size_8abf5 (nI n))) (8 : Int32).toNatClampNeg (f_X7_count 0 n rc)) (9 : Int32).toNatClampNeg (f_X7_count 2 n rc)) (10 : Int32).toNatClampNeg (f_X7_count 3 n rc)) (11 : Int32).toNatClampNeg ee) (12 : Int32).toNatClampNeg pu) (13 : Int32).toNatClampNeg (((sp (0 : Int32).toNatClampNeg) + (sp (1 : Int32).toNatClampNeg)) + (sp (2 : Int32).toNatClampNeg))) hx hb hK hP hD hS 1 0 rfl rfl (n_30 c_29) dX7_manyNow_204 (fun H locs hP hD hS => ?_)
    have hP : va_P G.1 vwCl ([tc_I G e3 3 sp, tc_I G q_4 17 (upd (upd (upd (upd (upd (upd (upd (upd (upd (upd (upd (upd (upd (upd (upd (fun _ => (0 : Int32)) (0 : Int32).toNatClampNeg tk) (1 : Int32).toNatClampNeg (tk / 48)) (2 : Int32).toNatClampNeg (f_X6_age mo tk)) (3 : Int32).toNatClampNeg (f_X6_spring mo tk)) (4 : Int32).toNatClampNeg ga) (5 : Int32).toNatClampNeg sl) (6 : Int32).toNatClampNeg pn) (7 : Int32).toNatClampNeg (f_Jx4a65c_size_8abf5 (nI n))) (8 : Int32).toNatClampNeg (f_X7_count 0 n rc)) (9 : Int32).toNatClampNeg (f_X7_count 2 n rc)) (10 : Int32).toNatClampNeg (f_X7_count 3 n rc)) (11 : Int32).toNatClampNeg ee) (12 : Int32).toNatClampNeg pu) (13 : Int32).toNatClampNeg (((sp (0 : Int32).toNatClampNeg) + (sp (1 : Int32).toNatClampNeg)) + (sp (2 : Int32).toNatClampNeg))) (14 : Int32).toNatClampNeg 0), tc_X7 a0 th ma rf lk pu tl lo, tc_Jx4a65c lo mc ed (nI n), tc_X6 ma tk mo su lv si ga sl sc fh lh fo ee pn e0 e1 e2 e3 e4 e5 a0] ++ tm_L G ed n ad rc) H := hP
    have hD : va_D A ([tc_I G e3 3 sp, tc_I G q_4 17 (upd (upd (upd (upd (upd (upd (upd (upd (upd (upd (upd (upd (upd (upd (upd (fun _ => (0 : Int32)) (0 : Int32).toNatClampNeg tk) (1 : Int32).toNatClampNeg (tk / 48)) (2 : Int32).toNatClampNeg (f_X6_age mo tk)) (3 : Int32).toNatClampNeg (f_X6_spring mo tk)) (4 : Int32).toNatClampNeg ga) (5 : Int32).toNatClampNeg sl) (6 : Int32).toNatClampNeg pn) (7 : Int32).toNatClampNeg (f_Jx4a65c_size_8abf5 (nI n))) (8 : Int32).toNatClampNeg (f_X7_count 0 n rc)) (9 : Int32).toNatClampNeg (f_X7_count 2 n rc)) (10 : Int32).toNatClampNeg (f_X7_count 3 n rc)) (11 : Int32).toNatClampNeg ee) (12 : Int32).toNatClampNeg pu) (13 : Int32).toNatClampNeg (((sp (0 : Int32).toNatClampNeg) + (sp (1 : Int32).toNatClampNeg)) + (sp (2 : Int32).toNatClampNeg))) (14 : Int32).toNatClampNeg 0), tc_X7 a0 th ma rf lk pu tl lo, tc_Jx4a65c lo mc ed (nI n), tc_X6 ma tk mo su lv si ga sl sc fh lh fo ee pn e0 e1 e2 e3 e4 e5 a0] ++ tm_L G ed n ad rc) := hD
    refine lv_dup hx hb dX7_manyNow_205 rfl ?_
    refine lv_bipush (v := 15) hx hb dX7_manyNow_206 (by decide) ?_
    refine lv_aload_n hx hb dX7_manyNow_208 rfl (lv_at hl 1 rfl) ?_
    refine va_get (D := G.1) (ci := 8) (v := .int rf) (C := RX7) (T := TX7) (N := 7) hx hb hts hiX7 hown hK hP 2 rfl rfl 2 (by decide) (hts (.fieldLink RX7 98 "TideMillModel" "refused" "I") (List.mem_of_getElem? (i := 11) rfl)) (fun _ h9 => h9) rfl dX7_manyNow_209 ?_
    refine va_iast (n := 17) (f := upd (upd (upd (upd (upd (upd (upd (upd (upd (upd (upd (upd (upd (upd (upd (fun _ => (0 : Int32)) (0 : Int32).toNatClampNeg tk) (1 : Int32).toNatClampNeg (tk / 48)) (2 : Int32).toNatClampNeg (f_X6_age mo tk)) (3 : Int32).toNatClampNeg (f_X6_spring mo tk)) (4 : Int32).toNatClampNeg ga) (5 : Int32).toNatClampNeg sl) (6 : Int32).toNatClampNeg pn) (7 : Int32).toNatClampNeg (f_Jx4a65c_size_8abf5 (nI n))) (8 : Int32).toNatClampNeg (f_X7_count 0 n rc)) (9 : Int32).toNatClampNeg (f_X7_count 2 n rc)) (10 : Int32).toNatClampNeg (f_X7_count 3 n rc)) (11 : Int32).toNatClampNeg ee) (12 : Int32).toNatClampNeg pu) (13 : Int32).toNatClampNeg (((sp (0 : Int32).toNatClampNeg) + (sp (1 : Int32).toNatClampNeg)) + (sp (2 : Int32).toNatClampNeg))) (14 : Int32).toNatClampNeg 0) hx hb hK hP hD hS 1 0 rfl rfl (n_31 c_29) dX7_manyNow_212 (fun H locs hP hD hS => ?_)
    have hP : va_P G.1 vwCl ([tc_I G e3 3 sp, tc_I G q_4 17 (upd (upd (upd (upd (upd (upd (upd (upd (upd (upd (upd (upd (upd (upd (upd (upd (fun _ => (0 : Int32)) (0 : Int32).toNatClampNeg tk) (1 : Int32).toNatClampNeg (tk / 48)) (2 : Int32).toNatClampNeg (f_X6_age mo tk)) (3 : Int32).toNatClampNeg (f_X6_spring mo tk)) (4 : Int32).toNatClampNeg ga) (5 : Int32).toNatClampNeg sl) (6 : Int32).toNatClampNeg pn) (7 : Int32).toNatClampNeg (f_Jx4a65c_size_8abf5 (nI n))) (8 : Int32).toNatClampNeg (f_X7_count 0 n rc)) (9 : Int32).toNatClampNeg (f_X7_count 2 n rc)) (10 : Int32).toNatClampNeg (f_X7_count 3 n rc)) (11 : Int32).toNatClampNeg ee) (12 : Int32).toNatClampNeg pu) (13 : Int32).toNatClampNeg (((sp (0 : Int32).toNatClampNeg) + (sp (1 : Int32).toNatClampNeg)) + (sp (2 : Int32).toNatClampNeg))) (14 : Int32).toNatClampNeg 0) (15 : Int32).toNatClampNeg rf), tc_X7 a0 th ma rf lk pu tl lo, tc_Jx4a65c lo mc ed (nI n), tc_X6 ma tk mo su lv si ga sl sc fh lh fo ee pn e0 e1 e2 e3 e4 e5 a0] ++ tm_L G ed n ad rc) H := hP
    have hD : va_D A ([tc_I G e3 3 sp, tc_I G q_4 17 (upd (upd (upd (upd (upd (upd (upd (upd (upd (upd (upd (upd (upd (upd (upd (upd (fun _ => (0 : Int32)) (0 : Int32).toNatClampNeg tk) (1 : Int32).toNatClampNeg (tk / 48)) (2 : Int32).toNatClampNeg (f_X6_age mo tk)) (3 : Int32).toNatClampNeg (f_X6_spring mo tk)) (4 : Int32).toNatClampNeg ga) (5 : Int32).toNatClampNeg sl) (6 : Int32).toNatClampNeg pn) (7 : Int32).toNatClampNeg (f_Jx4a65c_size_8abf5 (nI n))) (8 : Int32).toNatClampNeg (f_X7_count 0 n rc)) (9 : Int32).toNatClampNeg (f_X7_count 2 n rc)) (10 : Int32).toNatClampNeg (f_X7_count 3 n rc)) (11 : Int32).toNatClampNeg ee) (12 : Int32).toNatClampNeg pu) (13 : Int32).toNatClampNeg (((sp (0 : Int32).toNatClampNeg) + (sp (1 : Int32).toNatClampNeg)) + (sp (2 : Int32).toNatClampNeg))) (14 : Int32).toNatClampNeg 0) (15 : Int32).toNatClampNeg rf), tc_X7 a0 th ma rf lk pu tl lo, tc_Jx4a65c lo mc ed (nI n), tc_X6 ma tk mo su lv si ga sl sc fh lh fo ee pn e0 e1 e2 e3 e4 e5 a0] ++ tm_L G ed n ad rc) := hD
    refine lv_dup hx hb dX7_manyNow_213 rfl ?_
    refine lv_bipush (v := 16) hx hb dX7_manyNow_214 (by decide) ?_
    refine lv_aload_n hx hb dX7_manyNow_216 rfl (lv_at hl 1 rfl) ?_
    refine va_get (D := G.1) (ci := 8) (v := .int lk) (C := RX7) (T := TX7) (N := 7) hx hb hts hiX7 hown hK hP 2 rfl rfl 3 (by decide) (hts (.fieldLink RX7 75 "TideMillModel" "isLocked" "Z") (List.mem_of_getElem? (i := 12) rfl)) (fun _ h9 => h9) rfl dX7_manyNow_217 ?_
    refine lv_if_eq (tgt := 227) hx hb dX7_manyNow_220 (by decide) (fun c_32 => ?_) (fun c_32 => ?_)
    · refine lv_iconst (v := 0) hx hb dX7_manyNow_227 (by decide) ?_
      refine va_iast (n := 17) (f := upd (upd (upd (upd (upd (upd (upd (upd (upd (upd (upd (upd (upd (upd (upd (upd (fun _ => (0 : Int32)) (0 : Int32).toNatClampNeg tk) (1 : Int32).toNatClampNeg (tk / 48)) (2 : Int32).toNatClampNeg (f_X6_age mo tk)) (3 : Int32).toNatClampNeg (f_X6_spring mo tk)) (4 : Int32).toNatClampNeg ga) (5 : Int32).toNatClampNeg sl) (6 : Int32).toNatClampNeg pn) (7 : Int32).toNatClampNeg (f_Jx4a65c_size_8abf5 (nI n))) (8 : Int32).toNatClampNeg (f_X7_count 0 n rc)) (9 : Int32).toNatClampNeg (f_X7_count 2 n rc)) (10 : Int32).toNatClampNeg (f_X7_count 3 n rc)) (11 : Int32).toNatClampNeg ee) (12 : Int32).toNatClampNeg pu) (13 : Int32).toNatClampNeg (((sp (0 : Int32).toNatClampNeg) + (sp (1 : Int32).toNatClampNeg)) + (sp (2 : Int32).toNatClampNeg))) (14 : Int32).toNatClampNeg 0) (15 : Int32).toNatClampNeg rf) hx hb hK hP hD hS 1 0 rfl rfl (n_33 c_29 c_32) dX7_manyNow_228 (fun H locs hP hD hS => ?_)
      have hP : va_P G.1 vwCl ([tc_I G e3 3 sp, tc_I G q_4 17 (upd (upd (upd (upd (upd (upd (upd (upd (upd (upd (upd (upd (upd (upd (upd (upd (upd (fun _ => (0 : Int32)) (0 : Int32).toNatClampNeg tk) (1 : Int32).toNatClampNeg (tk / 48)) (2 : Int32).toNatClampNeg (f_X6_age mo tk)) (3 : Int32).toNatClampNeg (f_X6_spring mo tk)) (4 : Int32).toNatClampNeg ga) (5 : Int32).toNatClampNeg sl) (6 : Int32).toNatClampNeg pn) (7 : Int32).toNatClampNeg (f_Jx4a65c_size_8abf5 (nI n))) (8 : Int32).toNatClampNeg (f_X7_count 0 n rc)) (9 : Int32).toNatClampNeg (f_X7_count 2 n rc)) (10 : Int32).toNatClampNeg (f_X7_count 3 n rc)) (11 : Int32).toNatClampNeg ee) (12 : Int32).toNatClampNeg pu) (13 : Int32).toNatClampNeg (((sp (0 : Int32).toNatClampNeg) + (sp (1 : Int32).toNatClampNeg)) + (sp (2 : Int32).toNatClampNeg))) (14 : Int32).toNatClampNeg 0) (15 : Int32).toNatClampNeg rf) (16 : Int32).toNatClampNeg 0), tc_X7 a0 th ma rf lk pu tl lo, tc_Jx4a65c lo mc ed (nI n), tc_X6 ma tk mo su lv si ga sl sc fh lh fo ee pn e0 e1 e2 e3 e4 e5 a0] ++ tm_L G ed n ad rc) H := hP
      have hD : va_D A ([tc_I G e3 3 sp, tc_I G q_4 17 (upd (upd (upd (upd (upd (upd (upd (upd (upd (upd (upd (upd (upd (upd (upd (upd (upd (fun _ => (0 : Int32)) (0 : Int32).toNatClampNeg tk) (1 : Int32).toNatClampNeg (tk / 48)) (2 : Int32).toNatClampNeg (f_X6_age mo tk)) (3 : Int32).toNatClampNeg (f_X6_spring mo tk)) (4 : Int32).toNatClampNeg ga) (5 : Int32).toNatClampNeg sl) (6 : Int32).toNatClampNeg pn) (7 : Int32).toNatClampNeg (f_Jx4a65c_size_8abf5 (nI n))) (8 : Int32).toNatClampNeg (f_X7_count 0 n rc)) (9 : Int32).toNatClampNeg (f_X7_count 2 n rc)) (10 : Int32).toNatClampNeg (f_X7_count 3 n rc)) (11 : Int32).toNatClampNeg ee) (12 : Int32).toNatClampNeg pu) (13 : Int32).toNatClampNeg (((sp (0 : Int32).toNatClampNeg) + (sp (1 : Int32).toNatClampNeg)) + (sp (2 : Int32).toNatClampNeg))) (14 : Int32).toNatClampNeg 0) (15 : Int32).toNatClampNeg rf) (16 : Int32).toNatClampNeg 0), tc_X7 a0 th ma rf lk pu tl lo, tc_Jx4a65c lo mc ed (nI n), tc_X6 ma tk mo su lv si ga sl sc fh lh fo ee pn e0 e1 e2 e3 e4 e5 a0] ++ tm_L G ed n ad rc) := hD
      refine lv_astore_n (lv' := [(3, .ref q_4), (2, .int (((sp (0 : Int32).toNatClampNeg) + (sp (1 : Int32).toNatClampNeg)) + (sp (2 : Int32).toNatClampNeg))), (0, .ref a0), (1, .int p1)]) hx hb dX7_manyNow_229 rfl hl (by decide) rfl (fun ls hl => ?_)
      refine lv_aload_n hx hb dX7_manyNow_230 rfl (lv_at hl 0 rfl) ?_
      refine lv_iload_n hx hb dX7_manyNow_231 rfl (lv_at hl 3 rfl) ?_
      refine va_iald (n := 17) (f := upd (upd (upd (upd (upd (upd (upd (upd (upd (upd (upd (upd (upd (upd (upd (upd (upd (fun _ => (0 : Int32)) (0 : Int32).toNatClampNeg tk) (1 : Int32).toNatClampNeg (tk / 48)) (2 : Int32).toNatClampNeg (f_X6_age mo tk)) (3 : Int32).toNatClampNeg (f_X6_spring mo tk)) (4 : Int32).toNatClampNeg ga) (5 : Int32).toNatClampNeg sl) (6 : Int32).toNatClampNeg pn) (7 : Int32).toNatClampNeg (f_Jx4a65c_size_8abf5 (nI n))) (8 : Int32).toNatClampNeg (f_X7_count 0 n rc)) (9 : Int32).toNatClampNeg (f_X7_count 2 n rc)) (10 : Int32).toNatClampNeg (f_X7_count 3 n rc)) (11 : Int32).toNatClampNeg ee) (12 : Int32).toNatClampNeg pu) (13 : Int32).toNatClampNeg (((sp (0 : Int32).toNatClampNeg) + (sp (1 : Int32).toNatClampNeg)) + (sp (2 : Int32).toNatClampNeg))) (14 : Int32).toNatClampNeg 0) (15 : Int32).toNatClampNeg rf) (16 : Int32).toNatClampNeg 0) hx hb hK hP 1 0 rfl rfl (n_34 c_29 c_32) dX7_manyNow_232 ?_
      have hP9 := va_P.part (X := [tc_I G e3 3 sp, tc_I G q_4 17 (upd (upd (upd (upd (upd (upd (upd (upd (upd (upd (upd (upd (upd (upd (upd (upd (upd (fun _ => (0 : Int32)) (0 : Int32).toNatClampNeg tk) (1 : Int32).toNatClampNeg (tk / 48)) (2 : Int32).toNatClampNeg (f_X6_age mo tk)) (3 : Int32).toNatClampNeg (f_X6_spring mo tk)) (4 : Int32).toNatClampNeg ga) (5 : Int32).toNatClampNeg sl) (6 : Int32).toNatClampNeg pn) (7 : Int32).toNatClampNeg (f_Jx4a65c_size_8abf5 (nI n))) (8 : Int32).toNatClampNeg (f_X7_count 0 n rc)) (9 : Int32).toNatClampNeg (f_X7_count 2 n rc)) (10 : Int32).toNatClampNeg (f_X7_count 3 n rc)) (11 : Int32).toNatClampNeg ee) (12 : Int32).toNatClampNeg pu) (13 : Int32).toNatClampNeg (((sp (0 : Int32).toNatClampNeg) + (sp (1 : Int32).toNatClampNeg)) + (sp (2 : Int32).toNatClampNeg))) (14 : Int32).toNatClampNeg 0) (15 : Int32).toNatClampNeg rf) (16 : Int32).toNatClampNeg 0), tc_X7 a0 th ma rf lk pu tl lo, tc_Jx4a65c lo mc ed (nI n), tc_X6 ma tk mo su lv si ga sl sc fh lh fo ee pn e0 e1 e2 e3 e4 e5 a0]) (cx := [tc_X7 a0 th ma rf lk pu tl lo, tc_X6 ma tk mo su lv si ga sl sc fh lh fo ee pn e0 e1 e2 e3 e4 e5 a0, tc_I G e3 3 sp, tc_Jx4a65c lo mc ed (nI n)]) (pl := tm_L G ed n ad rc) hP [2, 4, 0, 3] rfl
      have hD9 := va_D.part (X := [tc_I G e3 3 sp, tc_I G q_4 17 (upd (upd (upd (upd (upd (upd (upd (upd (upd (upd (upd (upd (upd (upd (upd (upd (upd (fun _ => (0 : Int32)) (0 : Int32).toNatClampNeg tk) (1 : Int32).toNatClampNeg (tk / 48)) (2 : Int32).toNatClampNeg (f_X6_age mo tk)) (3 : Int32).toNatClampNeg (f_X6_spring mo tk)) (4 : Int32).toNatClampNeg ga) (5 : Int32).toNatClampNeg sl) (6 : Int32).toNatClampNeg pn) (7 : Int32).toNatClampNeg (f_Jx4a65c_size_8abf5 (nI n))) (8 : Int32).toNatClampNeg (f_X7_count 0 n rc)) (9 : Int32).toNatClampNeg (f_X7_count 2 n rc)) (10 : Int32).toNatClampNeg (f_X7_count 3 n rc)) (11 : Int32).toNatClampNeg ee) (12 : Int32).toNatClampNeg pu) (13 : Int32).toNatClampNeg (((sp (0 : Int32).toNatClampNeg) + (sp (1 : Int32).toNatClampNeg)) + (sp (2 : Int32).toNatClampNeg))) (14 : Int32).toNatClampNeg 0) (15 : Int32).toNatClampNeg rf) (16 : Int32).toNatClampNeg 0), tc_X7 a0 th ma rf lk pu tl lo, tc_Jx4a65c lo mc ed (nI n), tc_X6 ma tk mo su lv si ga sl sc fh lh fo ee pn e0 e1 e2 e3 e4 e5 a0]) (cx := [tc_X7 a0 th ma rf lk pu tl lo, tc_X6 ma tk mo su lv si ga sl sc fh lh fo ee pn e0 e1 e2 e3 e4 e5 a0, tc_I G e3 3 sp, tc_Jx4a65c lo mc ed (nI n)]) (pl := tm_L G ed n ad rc) hD [2, 4, 0, 3] (by decide) rfl
      refine W.widen (k := 1) (n := 17) (Nat.le_of_ble_eq_true rfl) (Nat.le_of_ble_eq_true rfl) ?_
      exact W.iret (v := (upd (upd (upd (upd (upd (upd (upd (upd (upd (upd (upd (upd (upd (upd (upd (upd (upd (fun _ => (0 : Int32)) (0 : Int32).toNatClampNeg tk) (1 : Int32).toNatClampNeg (tk / 48)) (2 : Int32).toNatClampNeg (f_X6_age mo tk)) (3 : Int32).toNatClampNeg (f_X6_spring mo tk)) (4 : Int32).toNatClampNeg ga) (5 : Int32).toNatClampNeg sl) (6 : Int32).toNatClampNeg pn) (7 : Int32).toNatClampNeg (f_Jx4a65c_size_8abf5 (nI n))) (8 : Int32).toNatClampNeg (f_X7_count 0 n rc)) (9 : Int32).toNatClampNeg (f_X7_count 2 n rc)) (10 : Int32).toNatClampNeg (f_X7_count 3 n rc)) (11 : Int32).toNatClampNeg ee) (12 : Int32).toNatClampNeg pu) (13 : Int32).toNatClampNeg (((sp (0 : Int32).toNatClampNeg) + (sp (1 : Int32).toNatClampNeg)) + (sp (2 : Int32).toNatClampNeg))) (14 : Int32).toNatClampNeg 0) (15 : Int32).toNatClampNeg rf) (16 : Int32).toNatClampNeg 0) p1.toNatClampNeg) hx hb hr (fun t ht hW => ⟨⟨(upd (upd (upd (upd (upd (upd (upd (upd (upd (upd (upd (upd (upd (upd (upd (upd (upd (fun _ => (0 : Int32)) (0 : Int32).toNatClampNeg tk) (1 : Int32).toNatClampNeg (tk / 48)) (2 : Int32).toNatClampNeg (f_X6_age mo tk)) (3 : Int32).toNatClampNeg (f_X6_spring mo tk)) (4 : Int32).toNatClampNeg ga) (5 : Int32).toNatClampNeg sl) (6 : Int32).toNatClampNeg pn) (7 : Int32).toNatClampNeg (f_Jx4a65c_size_8abf5 (nI n))) (8 : Int32).toNatClampNeg (f_X7_count 0 n rc)) (9 : Int32).toNatClampNeg (f_X7_count 2 n rc)) (10 : Int32).toNatClampNeg (f_X7_count 3 n rc)) (11 : Int32).toNatClampNeg ee) (12 : Int32).toNatClampNeg pu) (13 : Int32).toNatClampNeg (((sp (0 : Int32).toNatClampNeg) + (sp (1 : Int32).toNatClampNeg)) + (sp (2 : Int32).toNatClampNeg))) (14 : Int32).toNatClampNeg 0) (15 : Int32).toNatClampNeg rf) (16 : Int32).toNatClampNeg 0) p1.toNatClampNeg, (), rfl, by unfold f_X7_manyNow; all_goals (rw [if_pos c_29]); all_goals (rw [if_pos c_32]); all_goals rfl, by rw [ht]; exact hP9, hD9⟩, hS.F ht⟩) hS.2.2 dX7_manyNow_233
    · refine lv_iconst (v := 1) hx hb dX7_manyNow_223 (by decide) ?_
      refine lv_goto (tgt := 228) hx hb dX7_manyNow_224 (by decide) ?_
      refine va_iast (n := 17) (f := upd (upd (upd (upd (upd (upd (upd (upd (upd (upd (upd (upd (upd (upd (upd (upd (fun _ => (0 : Int32)) (0 : Int32).toNatClampNeg tk) (1 : Int32).toNatClampNeg (tk / 48)) (2 : Int32).toNatClampNeg (f_X6_age mo tk)) (3 : Int32).toNatClampNeg (f_X6_spring mo tk)) (4 : Int32).toNatClampNeg ga) (5 : Int32).toNatClampNeg sl) (6 : Int32).toNatClampNeg pn) (7 : Int32).toNatClampNeg (f_Jx4a65c_size_8abf5 (nI n))) (8 : Int32).toNatClampNeg (f_X7_count 0 n rc)) (9 : Int32).toNatClampNeg (f_X7_count 2 n rc)) (10 : Int32).toNatClampNeg (f_X7_count 3 n rc)) (11 : Int32).toNatClampNeg ee) (12 : Int32).toNatClampNeg pu) (13 : Int32).toNatClampNeg (((sp (0 : Int32).toNatClampNeg) + (sp (1 : Int32).toNatClampNeg)) + (sp (2 : Int32).toNatClampNeg))) (14 : Int32).toNatClampNeg 0) (15 : Int32).toNatClampNeg rf) hx hb hK hP hD hS 1 0 rfl rfl (n_35 c_29 c_32) dX7_manyNow_228 (fun H locs hP hD hS => ?_)
      have hP : va_P G.1 vwCl ([tc_I G e3 3 sp, tc_I G q_4 17 (upd (upd (upd (upd (upd (upd (upd (upd (upd (upd (upd (upd (upd (upd (upd (upd (upd (fun _ => (0 : Int32)) (0 : Int32).toNatClampNeg tk) (1 : Int32).toNatClampNeg (tk / 48)) (2 : Int32).toNatClampNeg (f_X6_age mo tk)) (3 : Int32).toNatClampNeg (f_X6_spring mo tk)) (4 : Int32).toNatClampNeg ga) (5 : Int32).toNatClampNeg sl) (6 : Int32).toNatClampNeg pn) (7 : Int32).toNatClampNeg (f_Jx4a65c_size_8abf5 (nI n))) (8 : Int32).toNatClampNeg (f_X7_count 0 n rc)) (9 : Int32).toNatClampNeg (f_X7_count 2 n rc)) (10 : Int32).toNatClampNeg (f_X7_count 3 n rc)) (11 : Int32).toNatClampNeg ee) (12 : Int32).toNatClampNeg pu) (13 : Int32).toNatClampNeg (((sp (0 : Int32).toNatClampNeg) + (sp (1 : Int32).toNatClampNeg)) + (sp (2 : Int32).toNatClampNeg))) (14 : Int32).toNatClampNeg 0) (15 : Int32).toNatClampNeg rf) (16 : Int32).toNatClampNeg 1), tc_X7 a0 th ma rf lk pu tl lo, tc_Jx4a65c lo mc ed (nI n), tc_X6 ma tk mo su lv si ga sl sc fh lh fo ee pn e0 e1 e2 e3 e4 e5 a0] ++ tm_L G ed n ad rc) H := hP
      have hD : va_D A ([tc_I G e3 3 sp, tc_I G q_4 17 (upd (upd (upd (upd (upd (upd (upd (upd (upd (upd (upd (upd (upd (upd (upd (upd (upd (fun _ => (0 : Int32)) (0 : Int32).toNatClampNeg tk) (1 : Int32).toNatClampNeg (tk / 48)) (2 : Int32).toNatClampNeg (f_X6_age mo tk)) (3 : Int32).toNatClampNeg (f_X6_spring mo tk)) (4 : Int32).toNatClampNeg ga) (5 : Int32).toNatClampNeg sl) (6 : Int32).toNatClampNeg pn) (7 : Int32).toNatClampNeg (f_Jx4a65c_size_8abf5 (nI n))) (8 : Int32).toNatClampNeg (f_X7_count 0 n rc)) (9 : Int32).toNatClampNeg (f_X7_count 2 n rc)) (10 : Int32).toNatClampNeg (f_X7_count 3 n rc)) (11 : Int32).toNatClampNeg ee) (12 : Int32).toNatClampNeg pu) (13 : Int32).toNatClampNeg (((sp (0 : Int32).toNatClampNeg) + (sp (1 : Int32).toNatClampNeg)) + (sp (2 : Int32).toNatClampNeg))) (14 : Int32).toNatClampNeg 0) (15 : Int32).toNatClampNeg rf) (16 : Int32).toNatClampNeg 1), tc_X7 a0 th ma rf lk pu tl lo, tc_Jx4a65c lo mc ed (nI n), tc_X6 ma tk mo su lv si ga sl sc fh lh fo ee pn e0 e1 e2 e3 e4 e5 a0] ++ tm_L G ed n ad rc) := hD
      refine lv_astore_n (lv' := [(3, .ref q_4), (2, .int (((sp (0 : Int32).toNatClampNeg) + (sp (1 : Int32).toNatClampNeg)) + (sp (2 : Int32).toNatClampNeg))), (0, .ref a0), (1, .int p1)]) hx hb dX7_manyNow_229 rfl hl (by decide) rfl (fun ls hl => ?_)
      refine lv_aload_n hx hb dX7_manyNow_230 rfl (lv_at hl 0 rfl) ?_
      refine lv_iload_n hx hb dX7_manyNow_231 rfl (lv_at hl 3 rfl) ?_
      refine va_iald (n := 17) (f := upd (upd (upd (upd (upd (upd (upd (upd (upd (upd (upd (upd (upd (upd (upd (upd (upd (fun _ => (0 : Int32)) (0 : Int32).toNatClampNeg tk) (1 : Int32).toNatClampNeg (tk / 48)) (2 : Int32).toNatClampNeg (f_X6_age mo tk)) (3 : Int32).toNatClampNeg (f_X6_spring mo tk)) (4 : Int32).toNatClampNeg ga) (5 : Int32).toNatClampNeg sl) (6 : Int32).toNatClampNeg pn) (7 : Int32).toNatClampNeg (f_Jx4a65c_size_8abf5 (nI n))) (8 : Int32).toNatClampNeg (f_X7_count 0 n rc)) (9 : Int32).toNatClampNeg (f_X7_count 2 n rc)) (10 : Int32).toNatClampNeg (f_X7_count 3 n rc)) (11 : Int32).toNatClampNeg ee) (12 : Int32).toNatClampNeg pu) (13 : Int32).toNatClampNeg (((sp (0 : Int32).toNatClampNeg) + (sp (1 : Int32).toNatClampNeg)) + (sp (2 : Int32).toNatClampNeg))) (14 : Int32).toNatClampNeg 0) (15 : Int32).toNatClampNeg rf) (16 : Int32).toNatClampNeg 1) hx hb hK hP 1 0 rfl rfl (n_36 c_29 c_32) dX7_manyNow_232 ?_
      have hP9 := va_P.part (X := [tc_I G e3 3 sp, tc_I G q_4 17 (upd (upd (upd (upd (upd (upd (upd (upd (upd (upd (upd (upd (upd (upd (upd (upd (upd (fun _ => (0 : Int32)) (0 : Int32).toNatClampNeg tk) (1 : Int32).toNatClampNeg (tk / 48)) (2 : Int32).toNatClampNeg (f_X6_age mo tk)) (3 : Int32).toNatClampNeg (f_X6_spring mo tk)) (4 : Int32).toNatClampNeg ga) (5 : Int32).toNatClampNeg sl) (6 : Int32).toNatClampNeg pn) (7 : Int32).toNatClampNeg (f_Jx4a65c_size_8abf5 (nI n))) (8 : Int32).toNatClampNeg (f_X7_count 0 n rc)) (9 : Int32).toNatClampNeg (f_X7_count 2 n rc)) (10 : Int32).toNatClampNeg (f_X7_count 3 n rc)) (11 : Int32).toNatClampNeg ee) (12 : Int32).toNatClampNeg pu) (13 : Int32).toNatClampNeg (((sp (0 : Int32).toNatClampNeg) + (sp (1 : Int32).toNatClampNeg)) + (sp (2 : Int32).toNatClampNeg))) (14 : Int32).toNatClampNeg 0) (15 : Int32).toNatClampNeg rf) (16 : Int32).toNatClampNeg 1), tc_X7 a0 th ma rf lk pu tl lo, tc_Jx4a65c lo mc ed (nI n), tc_X6 ma tk mo su lv si ga sl sc fh lh fo ee pn e0 e1 e2 e3 e4 e5 a0]) (cx := [tc_X7 a0 th ma rf lk pu tl lo, tc_X6 ma tk mo su lv si ga sl sc fh lh fo ee pn e0 e1 e2 e3 e4 e5 a0, tc_I G e3 3 sp, tc_Jx4a65c lo mc ed (nI n)]) (pl := tm_L G ed n ad rc) hP [2, 4, 0, 3] rfl
      have hD9 := va_D.part (X := [tc_I G e3 3 sp, tc_I G q_4 17 (upd (upd (upd (upd (upd (upd (upd (upd (upd (upd (upd (upd (upd (upd (upd (upd (upd (fun _ => (0 : Int32)) (0 : Int32).toNatClampNeg tk) (1 : Int32).toNatClampNeg (tk / 48)) (2 : Int32).toNatClampNeg (f_X6_age mo tk)) (3 : Int32).toNatClampNeg (f_X6_spring mo tk)) (4 : Int32).toNatClampNeg ga) (5 : Int32).toNatClampNeg sl) (6 : Int32).toNatClampNeg pn) (7 : Int32).toNatClampNeg (f_Jx4a65c_size_8abf5 (nI n))) (8 : Int32).toNatClampNeg (f_X7_count 0 n rc)) (9 : Int32).toNatClampNeg (f_X7_count 2 n rc)) (10 : Int32).toNatClampNeg (f_X7_count 3 n rc)) (11 : Int32).toNatClampNeg ee) (12 : Int32).toNatClampNeg pu) (13 : Int32).toNatClampNeg (((sp (0 : Int32).toNatClampNeg) + (sp (1 : Int32).toNatClampNeg)) + (sp (2 : Int32).toNatClampNeg))) (14 : Int32).toNatClampNeg 0) (15 : Int32).toNatClampNeg rf) (16 : Int32).toNatClampNeg 1), tc_X7 a0 th ma rf lk pu tl lo, tc_Jx4a65c lo mc ed (nI n), tc_X6 ma tk mo su lv si ga sl sc fh lh fo ee pn e0 e1 e2 e3 e4 e5 a0]) (cx := [tc_X7 a0 th ma rf lk pu tl lo, tc_X6 ma tk mo su lv si ga sl sc fh lh fo ee pn e0 e1 e2 e3 e4 e5 a0, tc_I G e3 3 sp, tc_Jx4a65c lo mc ed (nI n)]) (pl := tm_L G ed n ad rc) hD [2, 4, 0, 3] (by decide) rfl
      refine W.widen (k := 1) (n := 17) (Nat.le_of_ble_eq_true rfl) (Nat.le_of_ble_eq_true rfl) ?_
      exact W.iret (v := (upd (upd (upd (upd (upd (upd (upd (upd (upd (upd (upd (upd (upd (upd (upd (upd (upd (fun _ => (0 : Int32)) (0 : Int32).toNatClampNeg tk) (1 : Int32).toNatClampNeg (tk / 48)) (2 : Int32).toNatClampNeg (f_X6_age mo tk)) (3 : Int32).toNatClampNeg (f_X6_spring mo tk)) (4 : Int32).toNatClampNeg ga) (5 : Int32).toNatClampNeg sl) (6 : Int32).toNatClampNeg pn) (7 : Int32).toNatClampNeg (f_Jx4a65c_size_8abf5 (nI n))) (8 : Int32).toNatClampNeg (f_X7_count 0 n rc)) (9 : Int32).toNatClampNeg (f_X7_count 2 n rc)) (10 : Int32).toNatClampNeg (f_X7_count 3 n rc)) (11 : Int32).toNatClampNeg ee) (12 : Int32).toNatClampNeg pu) (13 : Int32).toNatClampNeg (((sp (0 : Int32).toNatClampNeg) + (sp (1 : Int32).toNatClampNeg)) + (sp (2 : Int32).toNatClampNeg))) (14 : Int32).toNatClampNeg 0) (15 : Int32).toNatClampNeg rf) (16 : Int32).toNatClampNeg 1) p1.toNatClampNeg) hx hb hr (fun t ht hW => ⟨⟨(upd (upd (upd (upd (upd (upd (upd (upd (upd (upd (upd (upd (upd (upd (upd (upd (upd (fun _ => (0 : Int32)) (0 : Int32).toNatClampNeg tk) (1 : Int32).toNatClampNeg (tk / 48)) (2 : Int32).toNatClampNeg (f_X6_age mo tk)) (3 : Int32).toNatClampNeg (f_X6_spring mo tk)) (4 : Int32).toNatClampNeg ga) (5 : Int32).toNatClampNeg sl) (6 : Int32).toNatClampNeg pn) (7 : Int32).toNatClampNeg (f_Jx4a65c_size_8abf5 (nI n))) (8 : Int32).toNatClampNeg (f_X7_count 0 n rc)) (9 : Int32).toNatClampNeg (f_X7_count 2 n rc)) (10 : Int32).toNatClampNeg (f_X7_count 3 n rc)) (11 : Int32).toNatClampNeg ee) (12 : Int32).toNatClampNeg pu) (13 : Int32).toNatClampNeg (((sp (0 : Int32).toNatClampNeg) + (sp (1 : Int32).toNatClampNeg)) + (sp (2 : Int32).toNatClampNeg))) (14 : Int32).toNatClampNeg 0) (15 : Int32).toNatClampNeg rf) (16 : Int32).toNatClampNeg 1) p1.toNatClampNeg, (), rfl, by unfold f_X7_manyNow; all_goals (rw [if_pos c_29]); all_goals (rw [if_neg c_32]); all_goals rfl, by rw [ht]; exact hP9, hD9⟩, hS.F ht⟩) hS.2.2 dX7_manyNow_233
  · refine lv_iconst (v := 1) hx hb dX7_manyNow_199 (by decide) ?_
    refine lv_goto (tgt := 204) hx hb dX7_manyNow_200 (by decide) ?_
    refine va_iast (n := 17) (f := upd (upd (upd (upd (upd (upd (upd (upd (upd (upd (upd (upd (upd (upd (fun _ => (0 : Int32)) (0 : Int32).toNatClampNeg tk) (1 : Int32).toNatClampNeg (tk / 48)) (2 : Int32).toNatClampNeg (f_X6_age mo tk)) (3 : Int32).toNatClampNeg (f_X6_spring mo tk)) (4 : Int32).toNatClampNeg ga) (5 : Int32).toNatClampNeg sl) (6 : Int32).toNatClampNeg pn) (7 : Int32).toNatClampNeg (f_Jx4a65c_size_8abf5 (nI n))) (8 : Int32).toNatClampNeg (f_X7_count 0 n rc)) (9 : Int32).toNatClampNeg (f_X7_count 2 n rc)) (10 : Int32).toNatClampNeg (f_X7_count 3 n rc)) (11 : Int32).toNatClampNeg ee) (12 : Int32).toNatClampNeg pu) (13 : Int32).toNatClampNeg (((sp (0 : Int32).toNatClampNeg) + (sp (1 : Int32).toNatClampNeg)) + (sp (2 : Int32).toNatClampNeg))) hx hb hK hP hD hS 1 0 rfl rfl (n_37 c_29) dX7_manyNow_204 (fun H locs hP hD hS => ?_)
    have hP : va_P G.1 vwCl ([tc_I G e3 3 sp, tc_I G q_4 17 (upd (upd (upd (upd (upd (upd (upd (upd (upd (upd (upd (upd (upd (upd (upd (fun _ => (0 : Int32)) (0 : Int32).toNatClampNeg tk) (1 : Int32).toNatClampNeg (tk / 48)) (2 : Int32).toNatClampNeg (f_X6_age mo tk)) (3 : Int32).toNatClampNeg (f_X6_spring mo tk)) (4 : Int32).toNatClampNeg ga) (5 : Int32).toNatClampNeg sl) (6 : Int32).toNatClampNeg pn) (7 : Int32).toNatClampNeg (f_Jx4a65c_size_8abf5 (nI n))) (8 : Int32).toNatClampNeg (f_X7_count 0 n rc)) (9 : Int32).toNatClampNeg (f_X7_count 2 n rc)) (10 : Int32).toNatClampNeg (f_X7_count 3 n rc)) (11 : Int32).toNatClampNeg ee) (12 : Int32).toNatClampNeg pu) (13 : Int32).toNatClampNeg (((sp (0 : Int32).toNatClampNeg) + (sp (1 : Int32).toNatClampNeg)) + (sp (2 : Int32).toNatClampNeg))) (14 : Int32).toNatClampNeg 1), tc_X7 a0 th ma rf lk pu tl lo, tc_Jx4a65c lo mc ed (nI n), tc_X6 ma tk mo su lv si ga sl sc fh lh fo ee pn e0 e1 e2 e3 e4 e5 a0] ++ tm_L G ed n ad rc) H := hP
    have hD : va_D A ([tc_I G e3 3 sp, tc_I G q_4 17 (upd (upd (upd (upd (upd (upd (upd (upd (upd (upd (upd (upd (upd (upd (upd (fun _ => (0 : Int32)) (0 : Int32).toNatClampNeg tk) (1 : Int32).toNatClampNeg (tk / 48)) (2 : Int32).toNatClampNeg (f_X6_age mo tk)) (3 : Int32).toNatClampNeg (f_X6_spring mo tk)) (4 : Int32).toNatClampNeg ga) (5 : Int32).toNatClampNeg sl) (6 : Int32).toNatClampNeg pn) (7 : Int32).toNatClampNeg (f_Jx4a65c_size_8abf5 (nI n))) (8 : Int32).toNatClampNeg (f_X7_count 0 n rc)) (9 : Int32).toNatClampNeg (f_X7_count 2 n rc)) (10 : Int32).toNatClampNeg (f_X7_count 3 n rc)) (11 : Int32).toNatClampNeg ee) (12 : Int32).toNatClampNeg pu) (13 : Int32).toNatClampNeg (((sp (0 : Int32).toNatClampNeg) + (sp (1 : Int32).toNatClampNeg)) + (sp (2 : Int32).toNatClampNeg))) (14 : Int32).toNatClampNeg 1), tc_X7 a0 th ma rf lk pu tl lo, tc_Jx4a65c lo mc ed (nI n), tc_X6 ma tk mo su lv si ga sl sc fh lh fo ee pn e0 e1 e2 e3 e4 e5 a0] ++ tm_L G ed n ad rc) := hD
    refine lv_dup hx hb dX7_manyNow_205 rfl ?_
    refine lv_bipush (v := 15) hx hb dX7_manyNow_206 (by decide) ?_
    refine lv_aload_n hx hb dX7_manyNow_208 rfl (lv_at hl 1 rfl) ?_
    refine va_get (D := G.1) (ci := 8) (v := .int rf) (C := RX7) (T := TX7) (N := 7) hx hb hts hiX7 hown hK hP 2 rfl rfl 2 (by decide) (hts (.fieldLink RX7 98 "TideMillModel" "refused" "I") (List.mem_of_getElem? (i := 11) rfl)) (fun _ h9 => h9) rfl dX7_manyNow_209 ?_
    refine va_iast (n := 17) (f := upd (upd (upd (upd (upd (upd (upd (upd (upd (upd (upd (upd (upd (upd (upd (fun _ => (0 : Int32)) (0 : Int32).toNatClampNeg tk) (1 : Int32).toNatClampNeg (tk / 48)) (2 : Int32).toNatClampNeg (f_X6_age mo tk)) (3 : Int32).toNatClampNeg (f_X6_spring mo tk)) (4 : Int32).toNatClampNeg ga) (5 : Int32).toNatClampNeg sl) (6 : Int32).toNatClampNeg pn) (7 : Int32).toNatClampNeg (f_Jx4a65c_size_8abf5 (nI n))) (8 : Int32).toNatClampNeg (f_X7_count 0 n rc)) (9 : Int32).toNatClampNeg (f_X7_count 2 n rc)) (10 : Int32).toNatClampNeg (f_X7_count 3 n rc)) (11 : Int32).toNatClampNeg ee) (12 : Int32).toNatClampNeg pu) (13 : Int32).toNatClampNeg (((sp (0 : Int32).toNatClampNeg) + (sp (1 : Int32).toNatClampNeg)) + (sp (2 : Int32).toNatClampNeg))) (14 : Int32).toNatClampNeg 1) hx hb hK hP hD hS 1 0 rfl rfl (n_38 c_29) dX7_manyNow_212 (fun H locs hP hD hS => ?_)
    have hP : va_P G.1 vwCl ([tc_I G e3 3 sp, tc_I G q_4 17 (upd (upd (upd (upd (upd (upd (upd (upd (upd (upd (upd (upd (upd (upd (upd (upd (fun _ => (0 : Int32)) (0 : Int32).toNatClampNeg tk) (1 : Int32).toNatClampNeg (tk / 48)) (2 : Int32).toNatClampNeg (f_X6_age mo tk)) (3 : Int32).toNatClampNeg (f_X6_spring mo tk)) (4 : Int32).toNatClampNeg ga) (5 : Int32).toNatClampNeg sl) (6 : Int32).toNatClampNeg pn) (7 : Int32).toNatClampNeg (f_Jx4a65c_size_8abf5 (nI n))) (8 : Int32).toNatClampNeg (f_X7_count 0 n rc)) (9 : Int32).toNatClampNeg (f_X7_count 2 n rc)) (10 : Int32).toNatClampNeg (f_X7_count 3 n rc)) (11 : Int32).toNatClampNeg ee) (12 : Int32).toNatClampNeg pu) (13 : Int32).toNatClampNeg (((sp (0 : Int32).toNatClampNeg) + (sp (1 : Int32).toNatClampNeg)) + (sp (2 : Int32).toNatClampNeg))) (14 : Int32).toNatClampNeg 1) (15 : Int32).toNatClampNeg rf), tc_X7 a0 th ma rf lk pu tl lo, tc_Jx4a65c lo mc ed (nI n), tc_X6 ma tk mo su lv si ga sl sc fh lh fo ee pn e0 e1 e2 e3 e4 e5 a0] ++ tm_L G ed n ad rc) H := hP
    have hD : va_D A ([tc_I G e3 3 sp, tc_I G q_4 17 (upd (upd (upd (upd (upd (upd (upd (upd (upd (upd (upd (upd (upd (upd (upd (upd (fun _ => (0 : Int32)) (0 : Int32).toNatClampNeg tk) (1 : Int32).toNatClampNeg (tk / 48)) (2 : Int32).toNatClampNeg (f_X6_age mo tk)) (3 : Int32).toNatClampNeg (f_X6_spring mo tk)) (4 : Int32).toNatClampNeg ga) (5 : Int32).toNatClampNeg sl) (6 : Int32).toNatClampNeg pn) (7 : Int32).toNatClampNeg (f_Jx4a65c_size_8abf5 (nI n))) (8 : Int32).toNatClampNeg (f_X7_count 0 n rc)) (9 : Int32).toNatClampNeg (f_X7_count 2 n rc)) (10 : Int32).toNatClampNeg (f_X7_count 3 n rc)) (11 : Int32).toNatClampNeg ee) (12 : Int32).toNatClampNeg pu) (13 : Int32).toNatClampNeg (((sp (0 : Int32).toNatClampNeg) + (sp (1 : Int32).toNatClampNeg)) + (sp (2 : Int32).toNatClampNeg))) (14 : Int32).toNatClampNeg 1) (15 : Int32).toNatClampNeg rf), tc_X7 a0 th ma rf lk pu tl lo, tc_Jx4a65c lo mc ed (nI n), tc_X6 ma tk mo su lv si ga sl sc fh lh fo ee pn e0 e1 e2 e3 e4 e5 a0] ++ tm_L G ed n ad rc) := hD
    refine lv_dup hx hb dX7_manyNow_213 rfl ?_
    refine lv_bipush (v := 16) hx hb dX7_manyNow_214 (by decide) ?_
    refine lv_aload_n hx hb dX7_manyNow_216 rfl (lv_at hl 1 rfl) ?_
    refine va_get (D := G.1) (ci := 8) (v := .int lk) (C := RX7) (T := TX7) (N := 7) hx hb hts hiX7 hown hK hP 2 rfl rfl 3 (by decide) (hts (.fieldLink RX7 75 "TideMillModel" "isLocked" "Z") (List.mem_of_getElem? (i := 12) rfl)) (fun _ h9 => h9) rfl dX7_manyNow_217 ?_
    refine lv_if_eq (tgt := 227) hx hb dX7_manyNow_220 (by decide) (fun c_39 => ?_) (fun c_39 => ?_)
    · refine lv_iconst (v := 0) hx hb dX7_manyNow_227 (by decide) ?_
      refine va_iast (n := 17) (f := upd (upd (upd (upd (upd (upd (upd (upd (upd (upd (upd (upd (upd (upd (upd (upd (fun _ => (0 : Int32)) (0 : Int32).toNatClampNeg tk) (1 : Int32).toNatClampNeg (tk / 48)) (2 : Int32).toNatClampNeg (f_X6_age mo tk)) (3 : Int32).toNatClampNeg (f_X6_spring mo tk)) (4 : Int32).toNatClampNeg ga) (5 : Int32).toNatClampNeg sl) (6 : Int32).toNatClampNeg pn) (7 : Int32).toNatClampNeg (f_Jx4a65c_size_8abf5 (nI n))) (8 : Int32).toNatClampNeg (f_X7_count 0 n rc)) (9 : Int32).toNatClampNeg (f_X7_count 2 n rc)) (10 : Int32).toNatClampNeg (f_X7_count 3 n rc)) (11 : Int32).toNatClampNeg ee) (12 : Int32).toNatClampNeg pu) (13 : Int32).toNatClampNeg (((sp (0 : Int32).toNatClampNeg) + (sp (1 : Int32).toNatClampNeg)) + (sp (2 : Int32).toNatClampNeg))) (14 : Int32).toNatClampNeg 1) (15 : Int32).toNatClampNeg rf) hx hb hK hP hD hS 1 0 rfl rfl (n_40 c_29 c_39) dX7_manyNow_228 (fun H locs hP hD hS => ?_)
      have hP : va_P G.1 vwCl ([tc_I G e3 3 sp, tc_I G q_4 17 (upd (upd (upd (upd (upd (upd (upd (upd (upd (upd (upd (upd (upd (upd (upd (upd (upd (fun _ => (0 : Int32)) (0 : Int32).toNatClampNeg tk) (1 : Int32).toNatClampNeg (tk / 48)) (2 : Int32).toNatClampNeg (f_X6_age mo tk)) (3 : Int32).toNatClampNeg (f_X6_spring mo tk)) (4 : Int32).toNatClampNeg ga) (5 : Int32).toNatClampNeg sl) (6 : Int32).toNatClampNeg pn) (7 : Int32).toNatClampNeg (f_Jx4a65c_size_8abf5 (nI n))) (8 : Int32).toNatClampNeg (f_X7_count 0 n rc)) (9 : Int32).toNatClampNeg (f_X7_count 2 n rc)) (10 : Int32).toNatClampNeg (f_X7_count 3 n rc)) (11 : Int32).toNatClampNeg ee) (12 : Int32).toNatClampNeg pu) (13 : Int32).toNatClampNeg (((sp (0 : Int32).toNatClampNeg) + (sp (1 : Int32).toNatClampNeg)) + (sp (2 : Int32).toNatClampNeg))) (14 : Int32).toNatClampNeg 1) (15 : Int32).toNatClampNeg rf) (16 : Int32).toNatClampNeg 0), tc_X7 a0 th ma rf lk pu tl lo, tc_Jx4a65c lo mc ed (nI n), tc_X6 ma tk mo su lv si ga sl sc fh lh fo ee pn e0 e1 e2 e3 e4 e5 a0] ++ tm_L G ed n ad rc) H := hP
      have hD : va_D A ([tc_I G e3 3 sp, tc_I G q_4 17 (upd (upd (upd (upd (upd (upd (upd (upd (upd (upd (upd (upd (upd (upd (upd (upd (upd (fun _ => (0 : Int32)) (0 : Int32).toNatClampNeg tk) (1 : Int32).toNatClampNeg (tk / 48)) (2 : Int32).toNatClampNeg (f_X6_age mo tk)) (3 : Int32).toNatClampNeg (f_X6_spring mo tk)) (4 : Int32).toNatClampNeg ga) (5 : Int32).toNatClampNeg sl) (6 : Int32).toNatClampNeg pn) (7 : Int32).toNatClampNeg (f_Jx4a65c_size_8abf5 (nI n))) (8 : Int32).toNatClampNeg (f_X7_count 0 n rc)) (9 : Int32).toNatClampNeg (f_X7_count 2 n rc)) (10 : Int32).toNatClampNeg (f_X7_count 3 n rc)) (11 : Int32).toNatClampNeg ee) (12 : Int32).toNatClampNeg pu) (13 : Int32).toNatClampNeg (((sp (0 : Int32).toNatClampNeg) + (sp (1 : Int32).toNatClampNeg)) + (sp (2 : Int32).toNatClampNeg))) (14 : Int32).toNatClampNeg 1) (15 : Int32).toNatClampNeg rf) (16 : Int32).toNatClampNeg 0), tc_X7 a0 th ma rf lk pu tl lo, tc_Jx4a65c lo mc ed (nI n), tc_X6 ma tk mo su lv si ga sl sc fh lh fo ee pn e0 e1 e2 e3 e4 e5 a0] ++ tm_L G ed n ad rc) := hD
      refine lv_astore_n (lv' := [(3, .ref q_4), (2, .int (((sp (0 : Int32).toNatClampNeg) + (sp (1 : Int32).toNatClampNeg)) + (sp (2 : Int32).toNatClampNeg))), (0, .ref a0), (1, .int p1)]) hx hb dX7_manyNow_229 rfl hl (by decide) rfl (fun ls hl => ?_)
      refine lv_aload_n hx hb dX7_manyNow_230 rfl (lv_at hl 0 rfl) ?_
      refine lv_iload_n hx hb dX7_manyNow_231 rfl (lv_at hl 3 rfl) ?_
      refine va_iald (n := 17) (f := upd (upd (upd (upd (upd (upd (upd (upd (upd (upd (upd (upd (upd (upd (upd (upd (upd (fun _ => (0 : Int32)) (0 : Int32).toNatClampNeg tk) (1 : Int32).toNatClampNeg (tk / 48)) (2 : Int32).toNatClampNeg (f_X6_age mo tk)) (3 : Int32).toNatClampNeg (f_X6_spring mo tk)) (4 : Int32).toNatClampNeg ga) (5 : Int32).toNatClampNeg sl) (6 : Int32).toNatClampNeg pn) (7 : Int32).toNatClampNeg (f_Jx4a65c_size_8abf5 (nI n))) (8 : Int32).toNatClampNeg (f_X7_count 0 n rc)) (9 : Int32).toNatClampNeg (f_X7_count 2 n rc)) (10 : Int32).toNatClampNeg (f_X7_count 3 n rc)) (11 : Int32).toNatClampNeg ee) (12 : Int32).toNatClampNeg pu) (13 : Int32).toNatClampNeg (((sp (0 : Int32).toNatClampNeg) + (sp (1 : Int32).toNatClampNeg)) + (sp (2 : Int32).toNatClampNeg))) (14 : Int32).toNatClampNeg 1) (15 : Int32).toNatClampNeg rf) (16 : Int32).toNatClampNeg 0) hx hb hK hP 1 0 rfl rfl (n_41 c_29 c_39) dX7_manyNow_232 ?_
      have hP9 := va_P.part (X := [tc_I G e3 3 sp, tc_I G q_4 17 (upd (upd (upd (upd (upd (upd (upd (upd (upd (upd (upd (upd (upd (upd (upd (upd (upd (fun _ => (0 : Int32)) (0 : Int32).toNatClampNeg tk) (1 : Int32).toNatClampNeg (tk / 48)) (2 : Int32).toNatClampNeg (f_X6_age mo tk)) (3 : Int32).toNatClampNeg (f_X6_spring mo tk)) (4 : Int32).toNatClampNeg ga) (5 : Int32).toNatClampNeg sl) (6 : Int32).toNatClampNeg pn) (7 : Int32).toNatClampNeg (f_Jx4a65c_size_8abf5 (nI n))) (8 : Int32).toNatClampNeg (f_X7_count 0 n rc)) (9 : Int32).toNatClampNeg (f_X7_count 2 n rc)) (10 : Int32).toNatClampNeg (f_X7_count 3 n rc)) (11 : Int32).toNatClampNeg ee) (12 : Int32).toNatClampNeg pu) (13 : Int32).toNatClampNeg (((sp (0 : Int32).toNatClampNeg) + (sp (1 : Int32).toNatClampNeg)) + (sp (2 : Int32).toNatClampNeg))) (14 : Int32).toNatClampNeg 1) (15 : Int32).toNatClampNeg rf) (16 : Int32).toNatClampNeg 0), tc_X7 a0 th ma rf lk pu tl lo, tc_Jx4a65c lo mc ed (nI n), tc_X6 ma tk mo su lv si ga sl sc fh lh fo ee pn e0 e1 e2 e3 e4 e5 a0]) (cx := [tc_X7 a0 th ma rf lk pu tl lo, tc_X6 ma tk mo su lv si ga sl sc fh lh fo ee pn e0 e1 e2 e3 e4 e5 a0, tc_I G e3 3 sp, tc_Jx4a65c lo mc ed (nI n)]) (pl := tm_L G ed n ad rc) hP [2, 4, 0, 3] rfl
      have hD9 := va_D.part (X := [tc_I G e3 3 sp, tc_I G q_4 17 (upd (upd (upd (upd (upd (upd (upd (upd (upd (upd (upd (upd (upd (upd (upd (upd (upd (fun _ => (0 : Int32)) (0 : Int32).toNatClampNeg tk) (1 : Int32).toNatClampNeg (tk / 48)) (2 : Int32).toNatClampNeg (f_X6_age mo tk)) (3 : Int32).toNatClampNeg (f_X6_spring mo tk)) (4 : Int32).toNatClampNeg ga) (5 : Int32).toNatClampNeg sl) (6 : Int32).toNatClampNeg pn) (7 : Int32).toNatClampNeg (f_Jx4a65c_size_8abf5 (nI n))) (8 : Int32).toNatClampNeg (f_X7_count 0 n rc)) (9 : Int32).toNatClampNeg (f_X7_count 2 n rc)) (10 : Int32).toNatClampNeg (f_X7_count 3 n rc)) (11 : Int32).toNatClampNeg ee) (12 : Int32).toNatClampNeg pu) (13 : Int32).toNatClampNeg (((sp (0 : Int32).toNatClampNeg) + (sp (1 : Int32).toNatClampNeg)) + (sp (2 : Int32).toNatClampNeg))) (14 : Int32).toNatClampNeg 1) (15 : Int32).toNatClampNeg rf) (16 : Int32).toNatClampNeg 0), tc_X7 a0 th ma rf lk pu tl lo, tc_Jx4a65c lo mc ed (nI n), tc_X6 ma tk mo su lv si ga sl sc fh lh fo ee pn e0 e1 e2 e3 e4 e5 a0]) (cx := [tc_X7 a0 th ma rf lk pu tl lo, tc_X6 ma tk mo su lv si ga sl sc fh lh fo ee pn e0 e1 e2 e3 e4 e5 a0, tc_I G e3 3 sp, tc_Jx4a65c lo mc ed (nI n)]) (pl := tm_L G ed n ad rc) hD [2, 4, 0, 3] (by decide) rfl
      refine W.widen (k := 1) (n := 17) (Nat.le_of_ble_eq_true rfl) (Nat.le_of_ble_eq_true rfl) ?_
      exact W.iret (v := (upd (upd (upd (upd (upd (upd (upd (upd (upd (upd (upd (upd (upd (upd (upd (upd (upd (fun _ => (0 : Int32)) (0 : Int32).toNatClampNeg tk) (1 : Int32).toNatClampNeg (tk / 48)) (2 : Int32).toNatClampNeg (f_X6_age mo tk)) (3 : Int32).toNatClampNeg (f_X6_spring mo tk)) (4 : Int32).toNatClampNeg ga) (5 : Int32).toNatClampNeg sl) (6 : Int32).toNatClampNeg pn) (7 : Int32).toNatClampNeg (f_Jx4a65c_size_8abf5 (nI n))) (8 : Int32).toNatClampNeg (f_X7_count 0 n rc)) (9 : Int32).toNatClampNeg (f_X7_count 2 n rc)) (10 : Int32).toNatClampNeg (f_X7_count 3 n rc)) (11 : Int32).toNatClampNeg ee) (12 : Int32).toNatClampNeg pu) (13 : Int32).toNatClampNeg (((sp (0 : Int32).toNatClampNeg) + (sp (1 : Int32).toNatClampNeg)) + (sp (2 : Int32).toNatClampNeg))) (14 : Int32).toNatClampNeg 1) (15 : Int32).toNatClampNeg rf) (16 : Int32).toNatClampNeg 0) p1.toNatClampNeg) hx hb hr (fun t ht hW => ⟨⟨(upd (upd (upd (upd (upd (upd (upd (upd (upd (upd (upd (upd (upd (upd (upd (upd (upd (fun _ => (0 : Int32)) (0 : Int32).toNatClampNeg tk) (1 : Int32).toNatClampNeg (tk / 48)) (2 : Int32).toNatClampNeg (f_X6_age mo tk)) (3 : Int32).toNatClampNeg (f_X6_spring mo tk)) (4 : Int32).toNatClampNeg ga) (5 : Int32).toNatClampNeg sl) (6 : Int32).toNatClampNeg pn) (7 : Int32).toNatClampNeg (f_Jx4a65c_size_8abf5 (nI n))) (8 : Int32).toNatClampNeg (f_X7_count 0 n rc)) (9 : Int32).toNatClampNeg (f_X7_count 2 n rc)) (10 : Int32).toNatClampNeg (f_X7_count 3 n rc)) (11 : Int32).toNatClampNeg ee) (12 : Int32).toNatClampNeg pu) (13 : Int32).toNatClampNeg (((sp (0 : Int32).toNatClampNeg) + (sp (1 : Int32).toNatClampNeg)) + (sp (2 : Int32).toNatClampNeg))) (14 : Int32).toNatClampNeg 1) (15 : Int32).toNatClampNeg rf) (16 : Int32).toNatClampNeg 0) p1.toNatClampNeg, (), rfl, by unfold f_X7_manyNow; all_goals (rw [if_neg c_29]); all_goals (rw [if_pos c_39]); all_goals rfl, by rw [ht]; exact hP9, hD9⟩, hS.F ht⟩) hS.2.2 dX7_manyNow_233
    · refine lv_iconst (v := 1) hx hb dX7_manyNow_223 (by decide) ?_
      refine lv_goto (tgt := 228) hx hb dX7_manyNow_224 (by decide) ?_
      refine va_iast (n := 17) (f := upd (upd (upd (upd (upd (upd (upd (upd (upd (upd (upd (upd (upd (upd (upd (upd (fun _ => (0 : Int32)) (0 : Int32).toNatClampNeg tk) (1 : Int32).toNatClampNeg (tk / 48)) (2 : Int32).toNatClampNeg (f_X6_age mo tk)) (3 : Int32).toNatClampNeg (f_X6_spring mo tk)) (4 : Int32).toNatClampNeg ga) (5 : Int32).toNatClampNeg sl) (6 : Int32).toNatClampNeg pn) (7 : Int32).toNatClampNeg (f_Jx4a65c_size_8abf5 (nI n))) (8 : Int32).toNatClampNeg (f_X7_count 0 n rc)) (9 : Int32).toNatClampNeg (f_X7_count 2 n rc)) (10 : Int32).toNatClampNeg (f_X7_count 3 n rc)) (11 : Int32).toNatClampNeg ee) (12 : Int32).toNatClampNeg pu) (13 : Int32).toNatClampNeg (((sp (0 : Int32).toNatClampNeg) + (sp (1 : Int32).toNatClampNeg)) + (sp (2 : Int32).toNatClampNeg))) (14 : Int32).toNatClampNeg 1) (15 : Int32).toNatClampNeg rf) hx hb hK hP hD hS 1 0 rfl rfl (n_42 c_29 c_39) dX7_manyNow_228 (fun H locs hP hD hS => ?_)
      have hP : va_P G.1 vwCl ([tc_I G e3 3 sp, tc_I G q_4 17 (upd (upd (upd (upd (upd (upd (upd (upd (upd (upd (upd (upd (upd (upd (upd (upd (upd (fun _ => (0 : Int32)) (0 : Int32).toNatClampNeg tk) (1 : Int32).toNatClampNeg (tk / 48)) (2 : Int32).toNatClampNeg (f_X6_age mo tk)) (3 : Int32).toNatClampNeg (f_X6_spring mo tk)) (4 : Int32).toNatClampNeg ga) (5 : Int32).toNatClampNeg sl) (6 : Int32).toNatClampNeg pn) (7 : Int32).toNatClampNeg (f_Jx4a65c_size_8abf5 (nI n))) (8 : Int32).toNatClampNeg (f_X7_count 0 n rc)) (9 : Int32).toNatClampNeg (f_X7_count 2 n rc)) (10 : Int32).toNatClampNeg (f_X7_count 3 n rc)) (11 : Int32).toNatClampNeg ee) (12 : Int32).toNatClampNeg pu) (13 : Int32).toNatClampNeg (((sp (0 : Int32).toNatClampNeg) + (sp (1 : Int32).toNatClampNeg)) + (sp (2 : Int32).toNatClampNeg))) (14 : Int32).toNatClampNeg 1) (15 : Int32).toNatClampNeg rf) (16 : Int32).toNatClampNeg 1), tc_X7 a0 th ma rf lk pu tl lo, tc_Jx4a65c lo mc ed (nI n), tc_X6 ma tk mo su lv si ga sl sc fh lh fo ee pn e0 e1 e2 e3 e4 e5 a0] ++ tm_L G ed n ad rc) H := hP
      have hD : va_D A ([tc_I G e3 3 sp, tc_I G q_4 17 (upd (upd (upd (upd (upd (upd (upd (upd (upd (upd (upd (upd (upd (upd (upd (upd (upd (fun _ => (0 : Int32)) (0 : Int32).toNatClampNeg tk) (1 : Int32).toNatClampNeg (tk / 48)) (2 : Int32).toNatClampNeg (f_X6_age mo tk)) (3 : Int32).toNatClampNeg (f_X6_spring mo tk)) (4 : Int32).toNatClampNeg ga) (5 : Int32).toNatClampNeg sl) (6 : Int32).toNatClampNeg pn) (7 : Int32).toNatClampNeg (f_Jx4a65c_size_8abf5 (nI n))) (8 : Int32).toNatClampNeg (f_X7_count 0 n rc)) (9 : Int32).toNatClampNeg (f_X7_count 2 n rc)) (10 : Int32).toNatClampNeg (f_X7_count 3 n rc)) (11 : Int32).toNatClampNeg ee) (12 : Int32).toNatClampNeg pu) (13 : Int32).toNatClampNeg (((sp (0 : Int32).toNatClampNeg) + (sp (1 : Int32).toNatClampNeg)) + (sp (2 : Int32).toNatClampNeg))) (14 : Int32).toNatClampNeg 1) (15 : Int32).toNatClampNeg rf) (16 : Int32).toNatClampNeg 1), tc_X7 a0 th ma rf lk pu tl lo, tc_Jx4a65c lo mc ed (nI n), tc_X6 ma tk mo su lv si ga sl sc fh lh fo ee pn e0 e1 e2 e3 e4 e5 a0] ++ tm_L G ed n ad rc) := hD
      refine lv_astore_n (lv' := [(3, .ref q_4), (2, .int (((sp (0 : Int32).toNatClampNeg) + (sp (1 : Int32).toNatClampNeg)) + (sp (2 : Int32).toNatClampNeg))), (0, .ref a0), (1, .int p1)]) hx hb dX7_manyNow_229 rfl hl (by decide) rfl (fun ls hl => ?_)
      refine lv_aload_n hx hb dX7_manyNow_230 rfl (lv_at hl 0 rfl) ?_
      refine lv_iload_n hx hb dX7_manyNow_231 rfl (lv_at hl 3 rfl) ?_
      refine va_iald (n := 17) (f := upd (upd (upd (upd (upd (upd (upd (upd (upd (upd (upd (upd (upd (upd (upd (upd (upd (fun _ => (0 : Int32)) (0 : Int32).toNatClampNeg tk) (1 : Int32).toNatClampNeg (tk / 48)) (2 : Int32).toNatClampNeg (f_X6_age mo tk)) (3 : Int32).toNatClampNeg (f_X6_spring mo tk)) (4 : Int32).toNatClampNeg ga) (5 : Int32).toNatClampNeg sl) (6 : Int32).toNatClampNeg pn) (7 : Int32).toNatClampNeg (f_Jx4a65c_size_8abf5 (nI n))) (8 : Int32).toNatClampNeg (f_X7_count 0 n rc)) (9 : Int32).toNatClampNeg (f_X7_count 2 n rc)) (10 : Int32).toNatClampNeg (f_X7_count 3 n rc)) (11 : Int32).toNatClampNeg ee) (12 : Int32).toNatClampNeg pu) (13 : Int32).toNatClampNeg (((sp (0 : Int32).toNatClampNeg) + (sp (1 : Int32).toNatClampNeg)) + (sp (2 : Int32).toNatClampNeg))) (14 : Int32).toNatClampNeg 1) (15 : Int32).toNatClampNeg rf) (16 : Int32).toNatClampNeg 1) hx hb hK hP 1 0 rfl rfl (n_43 c_29 c_39) dX7_manyNow_232 ?_
      have hP9 := va_P.part (X := [tc_I G e3 3 sp, tc_I G q_4 17 (upd (upd (upd (upd (upd (upd (upd (upd (upd (upd (upd (upd (upd (upd (upd (upd (upd (fun _ => (0 : Int32)) (0 : Int32).toNatClampNeg tk) (1 : Int32).toNatClampNeg (tk / 48)) (2 : Int32).toNatClampNeg (f_X6_age mo tk)) (3 : Int32).toNatClampNeg (f_X6_spring mo tk)) (4 : Int32).toNatClampNeg ga) (5 : Int32).toNatClampNeg sl) (6 : Int32).toNatClampNeg pn) (7 : Int32).toNatClampNeg (f_Jx4a65c_size_8abf5 (nI n))) (8 : Int32).toNatClampNeg (f_X7_count 0 n rc)) (9 : Int32).toNatClampNeg (f_X7_count 2 n rc)) (10 : Int32).toNatClampNeg (f_X7_count 3 n rc)) (11 : Int32).toNatClampNeg ee) (12 : Int32).toNatClampNeg pu) (13 : Int32).toNatClampNeg (((sp (0 : Int32).toNatClampNeg) + (sp (1 : Int32).toNatClampNeg)) + (sp (2 : Int32).toNatClampNeg))) (14 : Int32).toNatClampNeg 1) (15 : Int32).toNatClampNeg rf) (16 : Int32).toNatClampNeg 1), tc_X7 a0 th ma rf lk pu tl lo, tc_Jx4a65c lo mc ed (nI n), tc_X6 ma tk mo su lv si ga sl sc fh lh fo ee pn e0 e1 e2 e3 e4 e5 a0]) (cx := [tc_X7 a0 th ma rf lk pu tl lo, tc_X6 ma tk mo su lv si ga sl sc fh lh fo ee pn e0 e1 e2 e3 e4 e5 a0, tc_I G e3 3 sp, tc_Jx4a65c lo mc ed (nI n)]) (pl := tm_L G ed n ad rc) hP [2, 4, 0, 3] rfl
      have hD9 := va_D.part (X := [tc_I G e3 3 sp, tc_I G q_4 17 (upd (upd (upd (upd (upd (upd (upd (upd (upd (upd (upd (upd (upd (upd (upd (upd (upd (fun _ => (0 : Int32)) (0 : Int32).toNatClampNeg tk) (1 : Int32).toNatClampNeg (tk / 48)) (2 : Int32).toNatClampNeg (f_X6_age mo tk)) (3 : Int32).toNatClampNeg (f_X6_spring mo tk)) (4 : Int32).toNatClampNeg ga) (5 : Int32).toNatClampNeg sl) (6 : Int32).toNatClampNeg pn) (7 : Int32).toNatClampNeg (f_Jx4a65c_size_8abf5 (nI n))) (8 : Int32).toNatClampNeg (f_X7_count 0 n rc)) (9 : Int32).toNatClampNeg (f_X7_count 2 n rc)) (10 : Int32).toNatClampNeg (f_X7_count 3 n rc)) (11 : Int32).toNatClampNeg ee) (12 : Int32).toNatClampNeg pu) (13 : Int32).toNatClampNeg (((sp (0 : Int32).toNatClampNeg) + (sp (1 : Int32).toNatClampNeg)) + (sp (2 : Int32).toNatClampNeg))) (14 : Int32).toNatClampNeg 1) (15 : Int32).toNatClampNeg rf) (16 : Int32).toNatClampNeg 1), tc_X7 a0 th ma rf lk pu tl lo, tc_Jx4a65c lo mc ed (nI n), tc_X6 ma tk mo su lv si ga sl sc fh lh fo ee pn e0 e1 e2 e3 e4 e5 a0]) (cx := [tc_X7 a0 th ma rf lk pu tl lo, tc_X6 ma tk mo su lv si ga sl sc fh lh fo ee pn e0 e1 e2 e3 e4 e5 a0, tc_I G e3 3 sp, tc_Jx4a65c lo mc ed (nI n)]) (pl := tm_L G ed n ad rc) hD [2, 4, 0, 3] (by decide) rfl
      refine W.widen (k := 1) (n := 17) (Nat.le_of_ble_eq_true rfl) (Nat.le_of_ble_eq_true rfl) ?_
      exact W.iret (v := (upd (upd (upd (upd (upd (upd (upd (upd (upd (upd (upd (upd (upd (upd (upd (upd (upd (fun _ => (0 : Int32)) (0 : Int32).toNatClampNeg tk) (1 : Int32).toNatClampNeg (tk / 48)) (2 : Int32).toNatClampNeg (f_X6_age mo tk)) (3 : Int32).toNatClampNeg (f_X6_spring mo tk)) (4 : Int32).toNatClampNeg ga) (5 : Int32).toNatClampNeg sl) (6 : Int32).toNatClampNeg pn) (7 : Int32).toNatClampNeg (f_Jx4a65c_size_8abf5 (nI n))) (8 : Int32).toNatClampNeg (f_X7_count 0 n rc)) (9 : Int32).toNatClampNeg (f_X7_count 2 n rc)) (10 : Int32).toNatClampNeg (f_X7_count 3 n rc)) (11 : Int32).toNatClampNeg ee) (12 : Int32).toNatClampNeg pu) (13 : Int32).toNatClampNeg (((sp (0 : Int32).toNatClampNeg) + (sp (1 : Int32).toNatClampNeg)) + (sp (2 : Int32).toNatClampNeg))) (14 : Int32).toNatClampNeg 1) (15 : Int32).toNatClampNeg rf) (16 : Int32).toNatClampNeg 1) p1.toNatClampNeg) hx hb hr (fun t ht hW => ⟨⟨(upd (upd (upd (upd (upd (upd (upd (upd (upd (upd (upd (upd (upd (upd (upd (upd (upd (fun _ => (0 : Int32)) (0 : Int32).toNatClampNeg tk) (1 : Int32).toNatClampNeg (tk / 48)) (2 : Int32).toNatClampNeg (f_X6_age mo tk)) (3 : Int32).toNatClampNeg (f_X6_spring mo tk)) (4 : Int32).toNatClampNeg ga) (5 : Int32).toNatClampNeg sl) (6 : Int32).toNatClampNeg pn) (7 : Int32).toNatClampNeg (f_Jx4a65c_size_8abf5 (nI n))) (8 : Int32).toNatClampNeg (f_X7_count 0 n rc)) (9 : Int32).toNatClampNeg (f_X7_count 2 n rc)) (10 : Int32).toNatClampNeg (f_X7_count 3 n rc)) (11 : Int32).toNatClampNeg ee) (12 : Int32).toNatClampNeg pu) (13 : Int32).toNatClampNeg (((sp (0 : Int32).toNatClampNeg) + (sp (1 : Int32).toNatClampNeg)) + (sp (2 : Int32).toNatClampNeg))) (14 : Int32).toNatClampNeg 1) (15 : Int32).toNatClampNeg rf) (16 : Int32).toNatClampNeg 1) p1.toNatClampNeg, (), rfl, by unfold f_X7_manyNow; all_goals (rw [if_neg c_29]); all_goals (rw [if_neg c_39]); all_goals rfl, by rw [ht]; exact hP9, hD9⟩, hS.F ht⟩) hS.2.2 dX7_manyNow_233
set_option maxHeartbeats 4000000 in
set_option maxRecDepth 100000 in
theorem c_X7_many (l : Launch) (G : tm_G) (a0 : Nat) (ma : Nat) (lo : Nat) (e0 : Nat) (e1 : Nat) (e2 : Nat) (e3 : Nat) (e4 : Nat) (e5 : Nat) (ed : Nat) (sz : Nat) (th : Int32) (rf : Int32) (lk : Int32) (pu : Int32) (tl : UInt64) (tk : Int32) (mo : Int32) (su : UInt64) (lv : UInt64) (si : UInt32) (ga : Int32) (sl : Int32) (sc : Int32) (fh : Int32) (lh : Int32) (fo : UInt64) (ee : Int32) (pn : Int32) (sp : Nat → Int32) (mc : Int32) (p1 : Int32) (n : Nat) (ad : Nat → Nat) (rc : Nat → Nat → Int32) (hn : n_X7_many lk tk fh lh p1 n rc) : Met l yX7_many wsX7_many ({ frames := 5, cells := 1, slots := 17, locals := 110 }) (va_Pc [.ref a0, .int p1] (tm_B G ([tc_X7 a0 th ma rf lk pu tl lo, tc_X6 ma tk mo su lv si ga sl sc fh lh fo ee pn e0 e1 e2 e3 e4 e5 a0, tc_I G e3 3 sp, tc_Jx4a65c lo mc ed (nI n)] ++ tm_L G ed n ad rc) sz)) (va_Qi (fun (r : Int32) (u : Int32) => (r, u) = f_X7_many rf lk pu tk mo ga sl fh lh ee pn sp p1 n rc) (fun (u : Int32) (t : State) => va_P G.1 vwCl ([tc_X7 a0 u ma rf lk pu tl lo, tc_X6 ma tk mo su lv si ga sl sc fh lh fo ee pn e0 e1 e2 e3 e4 e5 a0, tc_I G e3 3 sp, tc_Jx4a65c lo mc ed (nI n)] ++ tm_L G ed n ad rc) t.heap ∧ va_D (va_A ([tc_X7 a0 th ma rf lk pu tl lo, tc_X6 ma tk mo su lv si ga sl sc fh lh fo ee pn e0 e1 e2 e3 e4 e5 a0, tc_I G e3 3 sp, tc_Jx4a65c lo mc ed (nI n)] ++ tm_L G ed n ad rc) sz) ([tc_X7 a0 u ma rf lk pu tl lo, tc_X6 ma tk mo su lv si ga sl sc fh lh fo ee pn e0 e1 e2 e3 e4 e5 a0, tc_I G e3 3 sp, tc_Jx4a65c lo mc ed (nI n)] ++ tm_L G ed n ad rc)) (va_A ([tc_X7 a0 th ma rf lk pu tl lo, tc_X6 ma tk mo su lv si ga sl sc fh lh fo ee pn e0 e1 e2 e3 e4 e5 a0, tc_I G e3 3 sp, tc_Jx4a65c lo mc ed (nI n)] ++ tm_L G ed n ad rc) sz)) 1 17 (va_A ([tc_X7 a0 th ma rf lk pu tl lo, tc_X6 ma tk mo su lv si ga sl sc fh lh fo ee pn e0 e1 e2 e3 e4 e5 a0, tc_I G e3 3 sp, tc_Jx4a65c lo mc ed (nI n)] ++ tm_L G ed n ad rc) sz) := by
  refine Met.ofW (cc := cX7_many) (maxL := 2) (ret := (some .int)) (by decide) rfl ?_
  intro p e s m args below meth c s₁ B hml hv
  obtain ⟨rfl, hsz, hP, hK, hD0, hN, hV⟩ := hv
  have hx := B.exec
  have hb := B.bytes
  have hr := B.returns
  have hts := atoms_spec (ws := wsX7_many) B.pre
  have hown : s.vm.findClass RX7 = some m.cls := findClass_of_methodNamed B.named
  have hlocks := B.notSynchronized
  subst hsz
  have n_3 := hn
  unfold n_X7_many at n_3
  have hiX7 : ∀ w ∈ u_ws RX7 TX7 7, w ∈ wsX7_many := fun _ h => List.mem_cons_of_mem _ (List.mem_append_left _ (List.mem_append_left _ (List.mem_append_right _ h)))
  have hD := hD0.self (sz := s.heap.size)
  generalize hAe : va_A ([tc_X7 a0 th ma rf lk pu tl lo, tc_X6 ma tk mo su lv si ga sl sc fh lh fo ee pn e0 e1 e2 e3 e4 e5 a0, tc_I G e3 3 sp, tc_Jx4a65c lo mc ed (nI n)] ++ tm_L G ed n ad rc) s.heap.size = A at hD hV ⊢
  have hA : ∀ q : Nat, s.heap.size ≤ q → A q := fun q h => by rw [← hAe]; exact Or.inr h
  have hS : va_S A s.heap s.heap [] := va_S.rf
  have hl := lv_entry ([.ref a0, .int p1]) (n := 2) (Nat.le_of_ble_eq_true rfl)
  rw [lg_entry_eq]
  generalize (lg_sl ([.ref a0, .int p1]) ++ List.replicate (2 - (lg_sl ([.ref a0, .int p1])).length) Slot.unset).toArray = ls at hl ⊢
  have hl : lv_has ls 2 [(0, .ref a0), (1, .int p1)] := hl
  refine lv_aload_n hx hb dX7_many_0 rfl (lv_at hl 0 rfl) ?_
  refine lv_iconst (v := 0) hx hb dX7_many_1 (by decide) ?_
  refine va_put (D := G.1) (ci := 8) (v := .int 0) (ty := .int) (C := RX7) (T := TX7) (N := 7) hx hb hts hiX7 tyX7 tyX7_ok nmX7 hown hK hP hD hS 0 rfl rfl 0 (by decide) (hts (.fieldLink RX7 25 "TideMillModel" "thrown" "I") (List.mem_of_getElem? (i := 1) rfl)) (fun _ h9 => h9) rfl (by decide +kernel) rfl rfl (Nat.le_of_ble_eq_true rfl) dX7_many_2 (fun H locs hP hD hS => ?_)
  have hP : va_P G.1 vwCl ([tc_X7 a0 0 ma rf lk pu tl lo, tc_X6 ma tk mo su lv si ga sl sc fh lh fo ee pn e0 e1 e2 e3 e4 e5 a0, tc_I G e3 3 sp, tc_Jx4a65c lo mc ed (nI n)] ++ tm_L G ed n ad rc) H := hP
  have hD : va_D A ([tc_X7 a0 0 ma rf lk pu tl lo, tc_X6 ma tk mo su lv si ga sl sc fh lh fo ee pn e0 e1 e2 e3 e4 e5 a0, tc_I G e3 3 sp, tc_Jx4a65c lo mc ed (nI n)] ++ tm_L G ed n ad rc) := hD
  refine lv_iload_n hx hb dX7_many_5 rfl (lv_at hl 1 rfl) ?_
  refine lv_iconst (v := 0) hx hb dX7_many_6 (by decide) ?_
  refine lv_bipush (v := 16) hx hb dX7_many_7 (by decide) ?_
  have hPc := hP.sub (ws' := []) [] rfl
  have hDc := hD.sub (ws' := []) [] (by decide) rfl
  have hFc := va_free (wc := []) hD hS hA [] rfl
  refine va_calli (va_runS (As := [.int p1, .int 0, .int 16]) (rest := []) ⟨hx, hb, hml, hown, hts⟩ (c_X7_in l G  H.size p1 0 16 ) (cwS 3 hts gX7_many_X7_in rfl rfl rfl (by decide +kernel) ⟨(Nat.le_of_ble_eq_true rfl), (Nat.le_of_ble_eq_true rfl)⟩) (tm_preS hK hN hV hS hPc hDc hFc) rfl rfl hl.1 rfl (lv_room (Nat.le_of_ble_eq_true rfl)) dX7_many_9 ⟨(Nat.le_of_ble_eq_true rfl), (Nat.le_of_ble_eq_true rfl)⟩) hS (fun q _ h => hFc q h) hFc (fun r_1 u t H locs ht hvm hw_1 hB hz1 hk1 hS => ?_)
  obtain ⟨hP1, hD1⟩ := hB
  rw [ht] at hP1
  try dsimp only at hw_1
  obtain ⟨hP, hD⟩ := va_joinQ (X := [tc_X7 a0 0 ma rf lk pu tl lo, tc_X6 ma tk mo su lv si ga sl sc fh lh fo ee pn e0 e1 e2 e3 e4 e5 a0, tc_I G e3 3 sp, tc_Jx4a65c lo mc ed (nI n)]) (cx := []) (wr := [tc_X7 a0 0 ma rf lk pu tl lo, tc_X6 ma tk mo su lv si ga sl sc fh lh fo ee pn e0 e1 e2 e3 e4 e5 a0, tc_I G e3 3 sp, tc_Jx4a65c lo mc ed (nI n)]) (w1 := []) (pl := tm_L G ed n ad rc) hP hD [] [0, 1, 2, 3] rfl rfl (by decide) (by decide) hk1 hFc hP1 hD1
  have hP : va_P G.1 vwCl ([tc_X7 a0 0 ma rf lk pu tl lo, tc_X6 ma tk mo su lv si ga sl sc fh lh fo ee pn e0 e1 e2 e3 e4 e5 a0, tc_I G e3 3 sp, tc_Jx4a65c lo mc ed (nI n)] ++ tm_L G ed n ad rc) H := hP
  have hD : va_D A ([tc_X7 a0 0 ma rf lk pu tl lo, tc_X6 ma tk mo su lv si ga sl sc fh lh fo ee pn e0 e1 e2 e3 e4 e5 a0, tc_I G e3 3 sp, tc_Jx4a65c lo mc ed (nI n)] ++ tm_L G ed n ad rc) := hD
  subst r_1
  refine lv_if_ne (tgt := 21) hx hb dX7_many_12 (by decide) (fun c_2 => ?_) (fun c_2 => ?_)
  · refine lv_aload_n hx hb dX7_many_21 rfl (lv_at hl 0 rfl) ?_
    refine lv_iload_n hx hb dX7_many_22 rfl (lv_at hl 1 rfl) ?_
    have hPc := va_P.part (X := [tc_X7 a0 0 ma rf lk pu tl lo, tc_X6 ma tk mo su lv si ga sl sc fh lh fo ee pn e0 e1 e2 e3 e4 e5 a0, tc_I G e3 3 sp, tc_Jx4a65c lo mc ed (nI n)]) (cx := [tc_X7 a0 0 ma rf lk pu tl lo, tc_X6 ma tk mo su lv si ga sl sc fh lh fo ee pn e0 e1 e2 e3 e4 e5 a0, tc_I G e3 3 sp, tc_Jx4a65c lo mc ed (nI n)]) (pl := tm_L G ed n ad rc) hP [0, 1, 2, 3] rfl
    have hDc := va_D.part (X := [tc_X7 a0 0 ma rf lk pu tl lo, tc_X6 ma tk mo su lv si ga sl sc fh lh fo ee pn e0 e1 e2 e3 e4 e5 a0, tc_I G e3 3 sp, tc_Jx4a65c lo mc ed (nI n)]) (cx := [tc_X7 a0 0 ma rf lk pu tl lo, tc_X6 ma tk mo su lv si ga sl sc fh lh fo ee pn e0 e1 e2 e3 e4 e5 a0, tc_I G e3 3 sp, tc_Jx4a65c lo mc ed (nI n)]) (pl := tm_L G ed n ad rc) hD [0, 1, 2, 3] (by decide) rfl
    have hFc := va_freeP (X := [tc_X7 a0 0 ma rf lk pu tl lo, tc_X6 ma tk mo su lv si ga sl sc fh lh fo ee pn e0 e1 e2 e3 e4 e5 a0, tc_I G e3 3 sp, tc_Jx4a65c lo mc ed (nI n)]) (cx := [tc_X7 a0 0 ma rf lk pu tl lo, tc_X6 ma tk mo su lv si ga sl sc fh lh fo ee pn e0 e1 e2 e3 e4 e5 a0, tc_I G e3 3 sp, tc_Jx4a65c lo mc ed (nI n)]) (pl := tm_L G ed n ad rc) hD hS hA [0, 1, 2, 3] rfl
    refine va_calli (va_runV (As := [.int p1]) (rest := []) ⟨hx, hb, hml, hown, hts⟩ (c_X7_manyNow l G a0 ma lo e0 e1 e2 e3 e4 e5 ed H.size 0 rf lk pu tl tk mo su lv si ga sl sc fh lh fo ee pn sp mc p1 n ad rc (n_3 c_2)) (cwV 1 hts gX7_many_X7_manyNow rfl rfl rfl (by decide +kernel) ⟨(Nat.le_of_ble_eq_true rfl), (Nat.le_of_ble_eq_true rfl)⟩) (tm_preV hK hN hV hS hPc hDc hFc (va_recv hK hPc (ci := 8) (q0 := 0) rfl rfl)) rfl rfl hl.1 rfl (lv_room (Nat.le_of_ble_eq_true rfl)) dX7_many_23 ⟨(Nat.le_of_ble_eq_true rfl), (Nat.le_of_ble_eq_true rfl)⟩) hS (fun q _ h => hFc q h) hFc (fun r_4 u t H locs ht hvm hw_4 hB hz1 hk1 hS => ?_)
    obtain ⟨hP1, hD1⟩ := hB
    rw [ht] at hP1
    try dsimp only at hw_4
    obtain ⟨hP, hD⟩ := va_joinP (X := [tc_X7 a0 0 ma rf lk pu tl lo, tc_X6 ma tk mo su lv si ga sl sc fh lh fo ee pn e0 e1 e2 e3 e4 e5 a0, tc_I G e3 3 sp, tc_Jx4a65c lo mc ed (nI n)]) (cx := [tc_X7 a0 0 ma rf lk pu tl lo, tc_X6 ma tk mo su lv si ga sl sc fh lh fo ee pn e0 e1 e2 e3 e4 e5 a0, tc_I G e3 3 sp, tc_Jx4a65c lo mc ed (nI n)]) (wr := []) (rx := [tc_X7 a0 0 ma rf lk pu tl lo, tc_X6 ma tk mo su lv si ga sl sc fh lh fo ee pn e0 e1 e2 e3 e4 e5 a0, tc_I G e3 3 sp, tc_Jx4a65c lo mc ed (nI n)]) (pl := tm_L G ed n ad rc) (pl1 := tm_L G ed n ad rc) hP hD [0, 1, 2, 3] [] rfl rfl (by decide) (by decide) hk1 hFc hP1 hD1
    have hP : va_P G.1 vwCl ([tc_X7 a0 0 ma rf lk pu tl lo, tc_X6 ma tk mo su lv si ga sl sc fh lh fo ee pn e0 e1 e2 e3 e4 e5 a0, tc_I G e3 3 sp, tc_Jx4a65c lo mc ed (nI n)] ++ tm_L G ed n ad rc) H := hP
    have hD : va_D A ([tc_X7 a0 0 ma rf lk pu tl lo, tc_X6 ma tk mo su lv si ga sl sc fh lh fo ee pn e0 e1 e2 e3 e4 e5 a0, tc_I G e3 3 sp, tc_Jx4a65c lo mc ed (nI n)] ++ tm_L G ed n ad rc) := hD
    refine W.widen (k := 1) (n := 17) (Nat.le_of_ble_eq_true rfl) (Nat.le_of_ble_eq_true rfl) ?_
    subst r_4
    have hP9 := va_P.part (X := [tc_X7 a0 0 ma rf lk pu tl lo, tc_X6 ma tk mo su lv si ga sl sc fh lh fo ee pn e0 e1 e2 e3 e4 e5 a0, tc_I G e3 3 sp, tc_Jx4a65c lo mc ed (nI n)]) (cx := [tc_X7 a0 0 ma rf lk pu tl lo, tc_X6 ma tk mo su lv si ga sl sc fh lh fo ee pn e0 e1 e2 e3 e4 e5 a0, tc_I G e3 3 sp, tc_Jx4a65c lo mc ed (nI n)]) (pl := tm_L G ed n ad rc) hP [0, 1, 2, 3] rfl
    have hD9 := va_D.part (X := [tc_X7 a0 0 ma rf lk pu tl lo, tc_X6 ma tk mo su lv si ga sl sc fh lh fo ee pn e0 e1 e2 e3 e4 e5 a0, tc_I G e3 3 sp, tc_Jx4a65c lo mc ed (nI n)]) (cx := [tc_X7 a0 0 ma rf lk pu tl lo, tc_X6 ma tk mo su lv si ga sl sc fh lh fo ee pn e0 e1 e2 e3 e4 e5 a0, tc_I G e3 3 sp, tc_Jx4a65c lo mc ed (nI n)]) (pl := tm_L G ed n ad rc) hD [0, 1, 2, 3] (by decide) rfl
    refine W.widen (k := 1) (n := 17) (Nat.le_of_ble_eq_true rfl) (Nat.le_of_ble_eq_true rfl) ?_
    exact W.iret (v := f_X7_manyNow rf lk pu tk mo ga sl fh lh ee pn sp p1 n rc) hx hb hr (fun t ht hW => ⟨⟨f_X7_manyNow rf lk pu tk mo ga sl fh lh ee pn sp p1 n rc, (0), rfl, by unfold f_X7_many; all_goals (rw [if_neg c_2]); all_goals rfl, by rw [ht]; exact hP9, hD9⟩, hS.F ht⟩) hS.2.2 dX7_many_26
  · refine lv_aload_n hx hb dX7_many_15 rfl (lv_at hl 0 rfl) ?_
    refine lv_iconst (v := 1) hx hb dX7_many_16 (by decide) ?_
    have hPc := hP.sub (ws' := [tc_X7 a0 0 ma rf lk pu tl lo]) [0] rfl
    have hDc := hD.sub (ws' := [tc_X7 a0 0 ma rf lk pu tl lo]) [0] (by decide) rfl
    have hFc := va_free (wc := [tc_X7 a0 0 ma rf lk pu tl lo]) hD hS hA [0] rfl
    refine va_calli (va_runV (As := [.int 1]) (rest := []) ⟨hx, hb, hml, hown, hts⟩ (c_X7_no l G a0 ma lo H.size 0 rf lk pu tl 1 ) (cwV 1 hts gX7_many_X7_no rfl rfl rfl (by decide +kernel) ⟨(Nat.le_of_ble_eq_true rfl), (Nat.le_of_ble_eq_true rfl)⟩) (tm_preV hK hN hV hS hPc hDc hFc (va_recv hK hPc (ci := 8) (q0 := 0) rfl rfl)) rfl rfl hl.1 rfl (lv_room (Nat.le_of_ble_eq_true rfl)) dX7_many_17 ⟨(Nat.le_of_ble_eq_true rfl), (Nat.le_of_ble_eq_true rfl)⟩) hS (fun q _ h => hFc q h) hFc (fun r_5 u t H locs ht hvm hw_5 hB hz1 hk1 hS => ?_)
    obtain ⟨u_6, rfl⟩ : ∃ z, z = u := ⟨_, rfl⟩
    obtain ⟨hP1, hD1⟩ := hB
    rw [ht] at hP1
    try dsimp only at hw_5
    obtain ⟨hP, hD⟩ := va_joinQ (X := [tc_X7 a0 0 ma rf lk pu tl lo, tc_X6 ma tk mo su lv si ga sl sc fh lh fo ee pn e0 e1 e2 e3 e4 e5 a0, tc_I G e3 3 sp, tc_Jx4a65c lo mc ed (nI n)]) (cx := [tc_X7 a0 0 ma rf lk pu tl lo]) (wr := [tc_X6 ma tk mo su lv si ga sl sc fh lh fo ee pn e0 e1 e2 e3 e4 e5 a0, tc_I G e3 3 sp, tc_Jx4a65c lo mc ed (nI n)]) (w1 := [tc_X7 a0 u_6 ma rf lk pu tl lo]) (pl := tm_L G ed n ad rc) hP hD [0] [1, 2, 3] rfl rfl (by decide) (by decide) hk1 hFc hP1 hD1
    have hP : va_P G.1 vwCl ([tc_X6 ma tk mo su lv si ga sl sc fh lh fo ee pn e0 e1 e2 e3 e4 e5 a0, tc_I G e3 3 sp, tc_Jx4a65c lo mc ed (nI n), tc_X7 a0 u_6 ma rf lk pu tl lo] ++ tm_L G ed n ad rc) H := hP
    have hD : va_D A ([tc_X6 ma tk mo su lv si ga sl sc fh lh fo ee pn e0 e1 e2 e3 e4 e5 a0, tc_I G e3 3 sp, tc_Jx4a65c lo mc ed (nI n), tc_X7 a0 u_6 ma rf lk pu tl lo] ++ tm_L G ed n ad rc) := hD
    have hP9 := va_P.part (X := [tc_X6 ma tk mo su lv si ga sl sc fh lh fo ee pn e0 e1 e2 e3 e4 e5 a0, tc_I G e3 3 sp, tc_Jx4a65c lo mc ed (nI n), tc_X7 a0 u_6 ma rf lk pu tl lo]) (cx := [tc_X7 a0 u_6 ma rf lk pu tl lo, tc_X6 ma tk mo su lv si ga sl sc fh lh fo ee pn e0 e1 e2 e3 e4 e5 a0, tc_I G e3 3 sp, tc_Jx4a65c lo mc ed (nI n)]) (pl := tm_L G ed n ad rc) hP [3, 0, 1, 2] rfl
    have hD9 := va_D.part (X := [tc_X6 ma tk mo su lv si ga sl sc fh lh fo ee pn e0 e1 e2 e3 e4 e5 a0, tc_I G e3 3 sp, tc_Jx4a65c lo mc ed (nI n), tc_X7 a0 u_6 ma rf lk pu tl lo]) (cx := [tc_X7 a0 u_6 ma rf lk pu tl lo, tc_X6 ma tk mo su lv si ga sl sc fh lh fo ee pn e0 e1 e2 e3 e4 e5 a0, tc_I G e3 3 sp, tc_Jx4a65c lo mc ed (nI n)]) (pl := tm_L G ed n ad rc) hD [3, 0, 1, 2] (by decide) rfl
    refine W.widen (k := 1) (n := 17) (Nat.le_of_ble_eq_true rfl) (Nat.le_of_ble_eq_true rfl) ?_
    exact W.iret (v := r_5) hx hb hr (fun t ht hW => ⟨⟨r_5, (u_6), rfl, by unfold f_X7_many; all_goals (rw [if_pos c_2]); all_goals (rw [← hw_5]); all_goals (dsimp only); all_goals rfl, by rw [ht]; exact hP9, hD9⟩, hS.F ht⟩) hS.2.2 dX7_many_20
set_option maxHeartbeats 4000000 in
set_option maxRecDepth 100000 in
theorem c_X7_ownerNow (l : Launch) (G : tm_G) (a0 : Nat) (ma : Nat) (lo : Nat) (ed : Nat) (sz : Nat) (th : Int32) (rf : Int32) (lk : Int32) (pu : Int32) (tl : UInt64) (mc : Int32) (p1 : Int32) (p2 : Int32) (n : Nat) (ad : Nat → Nat) (rc : Nat → Nat → Int32) (hn : n_X7_ownerNow p1 p2 n rc) : Met l yX7_ownerNow wsX7_ownerNow ({ frames := 3, cells := 0, slots := 0, locals := 64 }) (va_Pc [.ref a0, .int p1, .int p2] (tm_B G ([tc_X7 a0 th ma rf lk pu tl lo, tc_Jx4a65c lo mc ed (nI n)] ++ tm_L G ed n ad rc) sz)) (va_Qi (fun (r : Int32) (u : Unit) => r = f_X7_ownerNow p1 p2 n rc) (fun (u : Unit) (t : State) => va_P G.1 vwCl ([tc_X7 a0 th ma rf lk pu tl lo, tc_Jx4a65c lo mc ed (nI n)] ++ tm_L G ed n ad rc) t.heap ∧ va_D (va_A ([tc_X7 a0 th ma rf lk pu tl lo, tc_Jx4a65c lo mc ed (nI n)] ++ tm_L G ed n ad rc) sz) ([tc_X7 a0 th ma rf lk pu tl lo, tc_Jx4a65c lo mc ed (nI n)] ++ tm_L G ed n ad rc)) (va_A ([tc_X7 a0 th ma rf lk pu tl lo, tc_Jx4a65c lo mc ed (nI n)] ++ tm_L G ed n ad rc) sz)) 0 0 (va_A ([tc_X7 a0 th ma rf lk pu tl lo, tc_Jx4a65c lo mc ed (nI n)] ++ tm_L G ed n ad rc) sz) := by
  refine Met.ofW (cc := cX7_ownerNow) (maxL := 5) (ret := (some .int)) (by decide) rfl ?_
  intro p e s m args below meth c s₁ B hml hv
  obtain ⟨rfl, hsz, hP, hK, hD0, hN, hV⟩ := hv
  have hx := B.exec
  have hb := B.bytes
  have hr := B.returns
  have hts := atoms_spec (ws := wsX7_ownerNow) B.pre
  have hown : s.vm.findClass RX7 = some m.cls := findClass_of_methodNamed B.named
  have hlocks := B.notSynchronized
  subst hsz
  have n_20 := hn
  unfold n_X7_ownerNow at n_20
  have hiX7 : ∀ w ∈ u_ws RX7 TX7 7, w ∈ wsX7_ownerNow := fun _ h => List.mem_cons_of_mem _ (List.mem_append_left _ (List.mem_append_right _ h))
  have hD := hD0.self (sz := s.heap.size)
  generalize hAe : va_A ([tc_X7 a0 th ma rf lk pu tl lo, tc_Jx4a65c lo mc ed (nI n)] ++ tm_L G ed n ad rc) s.heap.size = A at hD hV ⊢
  have hA : ∀ q : Nat, s.heap.size ≤ q → A q := fun q h => by rw [← hAe]; exact Or.inr h
  have hS : va_S A s.heap s.heap [] := va_S.rf
  have hl := lv_entry ([.ref a0, .int p1, .int p2]) (n := 5) (Nat.le_of_ble_eq_true rfl)
  rw [lg_entry_eq]
  generalize (lg_sl ([.ref a0, .int p1, .int p2]) ++ List.replicate (5 - (lg_sl ([.ref a0, .int p1, .int p2])).length) Slot.unset).toArray = ls at hl ⊢
  have hl : lv_has ls 5 [(0, .ref a0), (1, .int p1), (2, .int p2)] := hl
  refine lv_iconst (v := 0) hx hb dX7_ownerNow_0 (by decide) ?_
  refine lv_istore_n (lv' := [(3, .int 0), (0, .ref a0), (1, .int p1), (2, .int p2)]) hx hb dX7_ownerNow_1 rfl hl (by decide) rfl (fun ls hl => ?_)
  refine lv_iconst (v := 0) hx hb dX7_ownerNow_2 (by decide) ?_
  refine lv_istore (lv' := [(4, .int 0), (3, .int 0), (0, .ref a0), (1, .int p1), (2, .int p2)]) hx hb dX7_ownerNow_3 hl (by decide) rfl (fun ls hl => ?_)
  have L_5 : ∀ (fuel : Nat) (x5_0 : Int32) (x5_1 : Int32), n_X7_ownerNow_5 p1 p2 n rc fuel x5_0 x5_1 → f_X7_ownerNow p1 p2 n rc = f_X7_ownerNow_5 p1 p2 n rc fuel x5_0 x5_1 → ∀ (H : Heap) (locs : List Loc), va_P G.1 vwCl ([tc_X7 a0 th ma rf lk pu tl lo, tc_Jx4a65c lo mc ed (nI n)] ++ tm_L G ed n ad rc) H → va_D A ([tc_X7 a0 th ma rf lk pu tl lo, tc_Jx4a65c lo mc ed (nI n)] ++ tm_L G ed n ad rc) → va_S A s.heap H locs → ∀ ls : Array Slot, lv_has ls 5 [(4, .int x5_1), (3, .int x5_0), (0, .ref a0), (1, .int p1), (2, .int p2)] → W p l e (headSpec wsX7_ownerNow ({ frames := 3, cells := 0, slots := 0, locals := 64 } : Room)).room s m ([.ref a0, .int p1, .int p2] : List Value).toArray below meth c H locs 0 0 (MQ below (va_Qi (fun (r : Int32) (u : Unit) => r = f_X7_ownerNow p1 p2 n rc) (fun (u : Unit) (t : State) => va_P G.1 vwCl ([tc_X7 a0 th ma rf lk pu tl lo, tc_Jx4a65c lo mc ed (nI n)] ++ tm_L G ed n ad rc) t.heap ∧ va_D A ([tc_X7 a0 th ma rf lk pu tl lo, tc_Jx4a65c lo mc ed (nI n)] ++ tm_L G ed n ad rc)) A) ([.ref a0, .int p1, .int p2] : List Value).toArray s 0 0 A) (F0 m 5 ls []) := by
    intro fuel
    induction fuel with
    | zero =>
      intro x5_0 x5_1 hnl; exact absurd hnl (by simp [n_X7_ownerNow_5])
    | succ fuel ih =>
      intro x5_0 x5_1 hnl hE H locs hP hD hS ls hl
      rw [n_X7_ownerNow_5] at hnl
      obtain ⟨n_3, n_5, n_6, n_8, n_11, n_12, n_14, n_16, n_18, n_19⟩ := hnl
      refine lv_iload hx hb dX7_ownerNow_5 (lv_at hl 0 rfl) ?_
      refine lv_aload_n hx hb dX7_ownerNow_7 rfl (lv_at hl 2 rfl) ?_
      refine va_get (D := G.1) (ci := 8) (v := .ref lo) (C := RX7) (T := TX7) (N := 7) hx hb hts hiX7 hown hK hP 0 rfl rfl 6 (by decide) (hts (.fieldLink RX7 21 "TideMillModel" "lots" "Ljava/util/List;") (List.mem_of_getElem? (i := 1) rfl)) (fun _ h9 => h9) rfl dX7_ownerNow_8 ?_
      have hPc := hP.sub (ws' := [tc_Jx4a65c lo mc ed (nI n)]) [1] rfl
      have hDc := hD.sub (ws' := [tc_Jx4a65c lo mc ed (nI n)]) [1] (by decide) rfl
      have hFc := va_free (wc := [tc_Jx4a65c lo mc ed (nI n)]) hD hS hA [1] rfl
      refine va_callFi (va_runF (As := []) (rest := [.int x5_1]) (hK.1 0 (RJx4a65c, TJx4a65c, 3) rfl).2 ⟨hx, hb, hml, hown, hts⟩ (c_Jx4a65c_size_8abf5 l G lo ed H.size mc (nI n) ) (va_cwF 0 hts gX7_ownerNow_Jx4a65c_size_8abf5_f29Jx4a65c rfl rfl rfl (hN.2.2.2.2.1 (⟨"java/util/List", "size", "()I"⟩, yJx4a65c_size_8abf5) (List.mem_of_getElem? (i := 0) rfl)) (by decide +kernel) ⟨(Nat.le_of_ble_eq_true rfl), (Nat.le_of_ble_eq_true rfl)⟩) (tm_preV hK hN hV hS hPc hDc hFc (va_recv hK hPc (ci := 0) (q0 := 0) rfl rfl)) rfl rfl hl.1 rfl (lv_room (Nat.le_of_ble_eq_true rfl)) dX7_ownerNow_11 ⟨(Nat.le_of_ble_eq_true rfl), (Nat.le_of_ble_eq_true rfl)⟩) hS (fun q _ h => hFc q h) hFc (fun r_1 u t H locs ht hvm hw_1 hB hz1 hk1 hS => ?_)
      obtain ⟨hP1, hD1⟩ := hB
      rw [ht] at hP1
      try dsimp only at hw_1
      obtain ⟨hP, hD⟩ := va_joinQ (X := [tc_X7 a0 th ma rf lk pu tl lo, tc_Jx4a65c lo mc ed (nI n)]) (cx := [tc_Jx4a65c lo mc ed (nI n)]) (wr := [tc_X7 a0 th ma rf lk pu tl lo]) (w1 := [tc_Jx4a65c lo mc ed (nI n)]) (pl := tm_L G ed n ad rc) hP hD [1] [0] rfl rfl (by decide) (by decide) hk1 hFc hP1 hD1
      have hP : va_P G.1 vwCl ([tc_X7 a0 th ma rf lk pu tl lo, tc_Jx4a65c lo mc ed (nI n)] ++ tm_L G ed n ad rc) H := hP
      have hD : va_D A ([tc_X7 a0 th ma rf lk pu tl lo, tc_Jx4a65c lo mc ed (nI n)] ++ tm_L G ed n ad rc) := hD
      subst r_1
      refine lv_icmp_ge (tgt := 92) hx hb dX7_ownerNow_16 (by decide) (fun c_2 => ?_) (fun c_2 => ?_)
      · refine lv_iload_n hx hb dX7_ownerNow_92 rfl (lv_at hl 1 rfl) ?_
        have hP9 := va_P.part (X := [tc_X7 a0 th ma rf lk pu tl lo, tc_Jx4a65c lo mc ed (nI n)]) (cx := [tc_X7 a0 th ma rf lk pu tl lo, tc_Jx4a65c lo mc ed (nI n)]) (pl := tm_L G ed n ad rc) hP [0, 1] rfl
        have hD9 := va_D.part (X := [tc_X7 a0 th ma rf lk pu tl lo, tc_Jx4a65c lo mc ed (nI n)]) (cx := [tc_X7 a0 th ma rf lk pu tl lo, tc_Jx4a65c lo mc ed (nI n)]) (pl := tm_L G ed n ad rc) hD [0, 1] (by decide) rfl
        exact W.iret (v := x5_0) hx hb hr (fun t ht hW => ⟨⟨x5_0, (), rfl, by rw [hE, f_X7_ownerNow_5]; all_goals (rw [if_pos c_2]); all_goals rfl, by rw [ht]; exact hP9, hD9⟩, hS.F ht⟩) hS.2.2 dX7_ownerNow_93
      · refine lv_iload_n hx hb dX7_ownerNow_19 rfl (lv_at hl 1 rfl) ?_
        refine lv_aload_n hx hb dX7_ownerNow_20 rfl (lv_at hl 2 rfl) ?_
        refine va_get (D := G.1) (ci := 8) (v := .ref lo) (C := RX7) (T := TX7) (N := 7) hx hb hts hiX7 hown hK hP 0 rfl rfl 6 (by decide) (hts (.fieldLink RX7 21 "TideMillModel" "lots" "Ljava/util/List;") (List.mem_of_getElem? (i := 1) rfl)) (fun _ h9 => h9) rfl dX7_ownerNow_21 ?_
        refine lv_iload hx hb dX7_ownerNow_24 (lv_at hl 0 rfl) ?_
        have hPc := va_P.part (X := [tc_X7 a0 th ma rf lk pu tl lo, tc_Jx4a65c lo mc ed (nI n)]) (cx := [tc_Jx4a65c lo mc ed (nI n)]) (pl := tm_L G ed n ad rc) hP [1] rfl
        have hDc := va_D.part (X := [tc_X7 a0 th ma rf lk pu tl lo, tc_Jx4a65c lo mc ed (nI n)]) (cx := [tc_Jx4a65c lo mc ed (nI n)]) (pl := tm_L G ed n ad rc) hD [1] (by decide) rfl
        have hFc := va_freeP (X := [tc_X7 a0 th ma rf lk pu tl lo, tc_Jx4a65c lo mc ed (nI n)]) (cx := [tc_Jx4a65c lo mc ed (nI n)]) (pl := tm_L G ed n ad rc) hD hS hA [1] rfl
        refine va_callFr (va_runF (As := [.int x5_1]) (rest := [.int x5_0]) (hK.1 0 (RJx4a65c, TJx4a65c, 3) rfl).2 ⟨hx, hb, hml, hown, hts⟩ (c_Jx4a65c_get_915e3 l G lo ed H.size mc x5_1 n ad rc (n_3 c_2)) (va_cwF 1 hts gX7_ownerNow_Jx4a65c_get_915e3_f39Jx4a65c rfl rfl rfl (hN.2.2.2.2.1 (⟨"java/util/List", "get", "(I)Ljava/lang/Object;"⟩, yJx4a65c_get_915e3) (List.mem_of_getElem? (i := 1) rfl)) (by decide +kernel) ⟨(Nat.le_of_ble_eq_true rfl), (Nat.le_of_ble_eq_true rfl)⟩) (tm_preV hK hN hV hS hPc hDc hFc (va_recv hK hPc (ci := 0) (q0 := 0) rfl rfl)) rfl rfl hl.1 rfl (lv_room (Nat.le_of_ble_eq_true rfl)) dX7_ownerNow_26 ⟨(Nat.le_of_ble_eq_true rfl), (Nat.le_of_ble_eq_true rfl)⟩) hS (fun q _ h => hFc q h) hFc (fun u ra t H locs ht hvm hw_4 hB hz1 hk1 hS => ?_)
        obtain ⟨rfl, hP1, hD1⟩ := hB
        rw [ht] at hP1
        obtain ⟨hP, hD⟩ := va_joinP (X := [tc_X7 a0 th ma rf lk pu tl lo, tc_Jx4a65c lo mc ed (nI n)]) (cx := [tc_Jx4a65c lo mc ed (nI n)]) (wr := [tc_X7 a0 th ma rf lk pu tl lo]) (rx := [tc_Jx4a65c lo mc ed (nI n)]) (pl := tm_L G ed n ad rc) (pl1 := tm_L G ed n ad rc) hP hD [1] [0] rfl rfl (by decide) (by decide) hk1 hFc hP1 hD1
        have hP : va_P G.1 vwCl ([tc_X7 a0 th ma rf lk pu tl lo, tc_Jx4a65c lo mc ed (nI n)] ++ tm_L G ed n ad rc) H := hP
        have hD : va_D A ([tc_X7 a0 th ma rf lk pu tl lo, tc_Jx4a65c lo mc ed (nI n)] ++ tm_L G ed n ad rc) := hD
        refine va_castA hx hb hown (hts (.classLink RX7 43 "[I") (List.mem_of_getElem? (i := 2) rfl)) hP _ (tm_L_get (tm_lt (n_5 c_2))) (hK.2 0 (G.2.1, .int) rfl).2 dX7_ownerNow_31 ?_
        refine lv_iconst (v := 0) hx hb dX7_ownerNow_34 (by decide) ?_
        refine va_iald (n := 5) (f := rc x5_1.toNatClampNeg) hx hb hK hP _ 0 (tm_L_get (tm_lt (n_5 c_2))) rfl (n_6 c_2) dX7_ownerNow_35 ?_
        refine lv_iload_n hx hb dX7_ownerNow_36 rfl (lv_at hl 3 rfl) ?_
        refine lv_icmp_ne (tgt := 83) hx hb dX7_ownerNow_37 (by decide) (fun c_7 => ?_) (fun c_7 => ?_)
        · refine lv_iconst (v := 0) hx hb dX7_ownerNow_83 (by decide) ?_
          refine lv_iadd hx hb dX7_ownerNow_84 ?_
          refine lv_istore_n (lv' := [(3, .int (x5_0 + 0)), (4, .int x5_1), (0, .ref a0), (1, .int p1), (2, .int p2)]) hx hb dX7_ownerNow_85 rfl hl (by decide) rfl (fun ls hl => ?_)
          refine lv_iinc (v := x5_1 + 1) (lv' := [(4, .int (x5_1 + 1)), (3, .int (x5_0 + 0)), (0, .ref a0), (1, .int p1), (2, .int p2)]) hx hb dX7_ownerNow_86 hl (k := 1) rfl rfl (by decide) rfl (fun ls hl => ?_)
          refine lv_goto (tgt := 5) hx hb dX7_ownerNow_89 (by decide) ?_
          have hP9 := va_P.part (X := [tc_X7 a0 th ma rf lk pu tl lo, tc_Jx4a65c lo mc ed (nI n)]) (cx := [tc_X7 a0 th ma rf lk pu tl lo, tc_Jx4a65c lo mc ed (nI n)]) (pl := tm_L G ed n ad rc) hP [0, 1] rfl
          have hD9 := va_D.part (X := [tc_X7 a0 th ma rf lk pu tl lo, tc_Jx4a65c lo mc ed (nI n)]) (cx := [tc_X7 a0 th ma rf lk pu tl lo, tc_Jx4a65c lo mc ed (nI n)]) (pl := tm_L G ed n ad rc) hD [0, 1] (by decide) rfl
          exact ih (x5_0 + 0) (x5_1 + 1) (n_8 c_2 c_7) (by rw [hE, f_X7_ownerNow_5]; all_goals (rw [if_neg c_2]); all_goals (rw [if_neg c_7]); all_goals rfl) _ _ hP9 hD9 hS _ (lv_sub hl [0, 1, 2, 3, 4] rfl)
        · refine lv_iload_n hx hb dX7_ownerNow_40 rfl (lv_at hl 4 rfl) ?_
          refine lv_if_ne (tgt := 64) hx hb dX7_ownerNow_41 (by decide) (fun c_9 => ?_) (fun c_9 => ?_)
          · refine lv_aload_n hx hb dX7_ownerNow_64 rfl (lv_at hl 2 rfl) ?_
            refine va_get (D := G.1) (ci := 8) (v := .ref lo) (C := RX7) (T := TX7) (N := 7) hx hb hts hiX7 hown hK hP 0 rfl rfl 6 (by decide) (hts (.fieldLink RX7 21 "TideMillModel" "lots" "Ljava/util/List;") (List.mem_of_getElem? (i := 1) rfl)) (fun _ h9 => h9) rfl dX7_ownerNow_65 ?_
            refine lv_iload hx hb dX7_ownerNow_68 (lv_at hl 0 rfl) ?_
            have hPc := va_P.part (X := [tc_X7 a0 th ma rf lk pu tl lo, tc_Jx4a65c lo mc ed (nI n)]) (cx := [tc_Jx4a65c lo mc ed (nI n)]) (pl := tm_L G ed n ad rc) hP [1] rfl
            have hDc := va_D.part (X := [tc_X7 a0 th ma rf lk pu tl lo, tc_Jx4a65c lo mc ed (nI n)]) (cx := [tc_Jx4a65c lo mc ed (nI n)]) (pl := tm_L G ed n ad rc) hD [1] (by decide) rfl
            have hFc := va_freeP (X := [tc_X7 a0 th ma rf lk pu tl lo, tc_Jx4a65c lo mc ed (nI n)]) (cx := [tc_Jx4a65c lo mc ed (nI n)]) (pl := tm_L G ed n ad rc) hD hS hA [1] rfl
            refine va_callFr (va_runF (As := [.int x5_1]) (rest := [.int x5_0]) (hK.1 0 (RJx4a65c, TJx4a65c, 3) rfl).2 ⟨hx, hb, hml, hown, hts⟩ (c_Jx4a65c_get_915e3 l G lo ed H.size mc x5_1 n ad rc (n_3 c_2)) (va_cwF 1 hts gX7_ownerNow_Jx4a65c_get_915e3_f39Jx4a65c rfl rfl rfl (hN.2.2.2.2.1 (⟨"java/util/List", "get", "(I)Ljava/lang/Object;"⟩, yJx4a65c_get_915e3) (List.mem_of_getElem? (i := 1) rfl)) (by decide +kernel) ⟨(Nat.le_of_ble_eq_true rfl), (Nat.le_of_ble_eq_true rfl)⟩) (tm_preV hK hN hV hS hPc hDc hFc (va_recv hK hPc (ci := 0) (q0 := 0) rfl rfl)) rfl rfl hl.1 rfl (lv_room (Nat.le_of_ble_eq_true rfl)) dX7_ownerNow_70 ⟨(Nat.le_of_ble_eq_true rfl), (Nat.le_of_ble_eq_true rfl)⟩) hS (fun q _ h => hFc q h) hFc (fun u ra t H locs ht hvm hw_10 hB hz1 hk1 hS => ?_)
            obtain ⟨rfl, hP1, hD1⟩ := hB
            rw [ht] at hP1
            obtain ⟨hP, hD⟩ := va_joinP (X := [tc_X7 a0 th ma rf lk pu tl lo, tc_Jx4a65c lo mc ed (nI n)]) (cx := [tc_Jx4a65c lo mc ed (nI n)]) (wr := [tc_X7 a0 th ma rf lk pu tl lo]) (rx := [tc_Jx4a65c lo mc ed (nI n)]) (pl := tm_L G ed n ad rc) (pl1 := tm_L G ed n ad rc) hP hD [1] [0] rfl rfl (by decide) (by decide) hk1 hFc hP1 hD1
            have hP : va_P G.1 vwCl ([tc_X7 a0 th ma rf lk pu tl lo, tc_Jx4a65c lo mc ed (nI n)] ++ tm_L G ed n ad rc) H := hP
            have hD : va_D A ([tc_X7 a0 th ma rf lk pu tl lo, tc_Jx4a65c lo mc ed (nI n)] ++ tm_L G ed n ad rc) := hD
            refine va_castA hx hb hown (hts (.classLink RX7 43 "[I") (List.mem_of_getElem? (i := 2) rfl)) hP _ (tm_L_get (tm_lt (n_5 c_2))) (hK.2 0 (G.2.1, .int) rfl).2 dX7_ownerNow_75 ?_
            refine lv_iconst (v := 2) hx hb dX7_ownerNow_78 (by decide) ?_
            refine va_iald (n := 5) (f := rc x5_1.toNatClampNeg) hx hb hK hP _ 0 (tm_L_get (tm_lt (n_5 c_2))) rfl (n_11 c_2 c_7 c_9) dX7_ownerNow_79 ?_
            refine lv_goto (tgt := 84) hx hb dX7_ownerNow_80 (by decide) ?_
            refine lv_iadd hx hb dX7_ownerNow_84 ?_
            refine lv_istore_n (lv' := [(3, .int (x5_0 + (rc x5_1.toNatClampNeg (2 : Int32).toNatClampNeg))), (4, .int x5_1), (0, .ref a0), (1, .int p1), (2, .int p2)]) hx hb dX7_ownerNow_85 rfl hl (by decide) rfl (fun ls hl => ?_)
            refine lv_iinc (v := x5_1 + 1) (lv' := [(4, .int (x5_1 + 1)), (3, .int (x5_0 + (rc x5_1.toNatClampNeg (2 : Int32).toNatClampNeg))), (0, .ref a0), (1, .int p1), (2, .int p2)]) hx hb dX7_ownerNow_86 hl (k := 1) rfl rfl (by decide) rfl (fun ls hl => ?_)
            refine lv_goto (tgt := 5) hx hb dX7_ownerNow_89 (by decide) ?_
            have hP9 := va_P.part (X := [tc_X7 a0 th ma rf lk pu tl lo, tc_Jx4a65c lo mc ed (nI n)]) (cx := [tc_X7 a0 th ma rf lk pu tl lo, tc_Jx4a65c lo mc ed (nI n)]) (pl := tm_L G ed n ad rc) hP [0, 1] rfl
            have hD9 := va_D.part (X := [tc_X7 a0 th ma rf lk pu tl lo, tc_Jx4a65c lo mc ed (nI n)]) (cx := [tc_X7 a0 th ma rf lk pu tl lo, tc_Jx4a65c lo mc ed (nI n)]) (pl := tm_L G ed n ad rc) hD [0, 1] (by decide) rfl
            exact ih (x5_0 + (rc x5_1.toNatClampNeg (2 : Int32).toNatClampNeg)) (x5_1 + 1) (n_12 c_2 c_7 c_9) (by rw [hE, f_X7_ownerNow_5]; all_goals (rw [if_neg c_2]); all_goals (rw [if_pos c_7]); all_goals (rw [if_neg c_9]); all_goals rfl) _ _ hP9 hD9 hS _ (lv_sub hl [0, 1, 2, 3, 4] rfl)
          · refine lv_aload_n hx hb dX7_ownerNow_44 rfl (lv_at hl 2 rfl) ?_
            refine va_get (D := G.1) (ci := 8) (v := .ref lo) (C := RX7) (T := TX7) (N := 7) hx hb hts hiX7 hown hK hP 0 rfl rfl 6 (by decide) (hts (.fieldLink RX7 21 "TideMillModel" "lots" "Ljava/util/List;") (List.mem_of_getElem? (i := 1) rfl)) (fun _ h9 => h9) rfl dX7_ownerNow_45 ?_
            refine lv_iload hx hb dX7_ownerNow_48 (lv_at hl 0 rfl) ?_
            have hPc := va_P.part (X := [tc_X7 a0 th ma rf lk pu tl lo, tc_Jx4a65c lo mc ed (nI n)]) (cx := [tc_Jx4a65c lo mc ed (nI n)]) (pl := tm_L G ed n ad rc) hP [1] rfl
            have hDc := va_D.part (X := [tc_X7 a0 th ma rf lk pu tl lo, tc_Jx4a65c lo mc ed (nI n)]) (cx := [tc_Jx4a65c lo mc ed (nI n)]) (pl := tm_L G ed n ad rc) hD [1] (by decide) rfl
            have hFc := va_freeP (X := [tc_X7 a0 th ma rf lk pu tl lo, tc_Jx4a65c lo mc ed (nI n)]) (cx := [tc_Jx4a65c lo mc ed (nI n)]) (pl := tm_L G ed n ad rc) hD hS hA [1] rfl
            refine va_callFr (va_runF (As := [.int x5_1]) (rest := [.int x5_0]) (hK.1 0 (RJx4a65c, TJx4a65c, 3) rfl).2 ⟨hx, hb, hml, hown, hts⟩ (c_Jx4a65c_get_915e3 l G lo ed H.size mc x5_1 n ad rc (n_3 c_2)) (va_cwF 1 hts gX7_ownerNow_Jx4a65c_get_915e3_f39Jx4a65c rfl rfl rfl (hN.2.2.2.2.1 (⟨"java/util/List", "get", "(I)Ljava/lang/Object;"⟩, yJx4a65c_get_915e3) (List.mem_of_getElem? (i := 1) rfl)) (by decide +kernel) ⟨(Nat.le_of_ble_eq_true rfl), (Nat.le_of_ble_eq_true rfl)⟩) (tm_preV hK hN hV hS hPc hDc hFc (va_recv hK hPc (ci := 0) (q0 := 0) rfl rfl)) rfl rfl hl.1 rfl (lv_room (Nat.le_of_ble_eq_true rfl)) dX7_ownerNow_50 ⟨(Nat.le_of_ble_eq_true rfl), (Nat.le_of_ble_eq_true rfl)⟩) hS (fun q _ h => hFc q h) hFc (fun u ra t H locs ht hvm hw_13 hB hz1 hk1 hS => ?_)
            obtain ⟨rfl, hP1, hD1⟩ := hB
            rw [ht] at hP1
            obtain ⟨hP, hD⟩ := va_joinP (X := [tc_X7 a0 th ma rf lk pu tl lo, tc_Jx4a65c lo mc ed (nI n)]) (cx := [tc_Jx4a65c lo mc ed (nI n)]) (wr := [tc_X7 a0 th ma rf lk pu tl lo]) (rx := [tc_Jx4a65c lo mc ed (nI n)]) (pl := tm_L G ed n ad rc) (pl1 := tm_L G ed n ad rc) hP hD [1] [0] rfl rfl (by decide) (by decide) hk1 hFc hP1 hD1
            have hP : va_P G.1 vwCl ([tc_X7 a0 th ma rf lk pu tl lo, tc_Jx4a65c lo mc ed (nI n)] ++ tm_L G ed n ad rc) H := hP
            have hD : va_D A ([tc_X7 a0 th ma rf lk pu tl lo, tc_Jx4a65c lo mc ed (nI n)] ++ tm_L G ed n ad rc) := hD
            refine va_castA hx hb hown (hts (.classLink RX7 43 "[I") (List.mem_of_getElem? (i := 2) rfl)) hP _ (tm_L_get (tm_lt (n_5 c_2))) (hK.2 0 (G.2.1, .int) rfl).2 dX7_ownerNow_55 ?_
            refine lv_iconst (v := 4) hx hb dX7_ownerNow_58 (by decide) ?_
            refine va_iald (n := 5) (f := rc x5_1.toNatClampNeg) hx hb hK hP _ 0 (tm_L_get (tm_lt (n_5 c_2))) rfl (n_14 c_2 c_7 c_9) dX7_ownerNow_59 ?_
            refine lv_iconst (v := 3) hx hb dX7_ownerNow_60 (by decide) ?_
            refine lv_icmp_eq (tgt := 83) hx hb dX7_ownerNow_61 (by decide) (fun c_15 => ?_) (fun c_15 => ?_)
            · refine lv_iconst (v := 0) hx hb dX7_ownerNow_83 (by decide) ?_
              refine lv_iadd hx hb dX7_ownerNow_84 ?_
              refine lv_istore_n (lv' := [(3, .int (x5_0 + 0)), (4, .int x5_1), (0, .ref a0), (1, .int p1), (2, .int p2)]) hx hb dX7_ownerNow_85 rfl hl (by decide) rfl (fun ls hl => ?_)
              refine lv_iinc (v := x5_1 + 1) (lv' := [(4, .int (x5_1 + 1)), (3, .int (x5_0 + 0)), (0, .ref a0), (1, .int p1), (2, .int p2)]) hx hb dX7_ownerNow_86 hl (k := 1) rfl rfl (by decide) rfl (fun ls hl => ?_)
              refine lv_goto (tgt := 5) hx hb dX7_ownerNow_89 (by decide) ?_
              have hP9 := va_P.part (X := [tc_X7 a0 th ma rf lk pu tl lo, tc_Jx4a65c lo mc ed (nI n)]) (cx := [tc_X7 a0 th ma rf lk pu tl lo, tc_Jx4a65c lo mc ed (nI n)]) (pl := tm_L G ed n ad rc) hP [0, 1] rfl
              have hD9 := va_D.part (X := [tc_X7 a0 th ma rf lk pu tl lo, tc_Jx4a65c lo mc ed (nI n)]) (cx := [tc_X7 a0 th ma rf lk pu tl lo, tc_Jx4a65c lo mc ed (nI n)]) (pl := tm_L G ed n ad rc) hD [0, 1] (by decide) rfl
              exact ih (x5_0 + 0) (x5_1 + 1) (n_16 c_2 c_7 c_9 c_15) (by rw [hE, f_X7_ownerNow_5]; all_goals (rw [if_neg c_2]); all_goals (rw [if_pos c_7]); all_goals (rw [if_pos c_9]); all_goals (rw [if_pos c_15]); all_goals rfl) _ _ hP9 hD9 hS _ (lv_sub hl [0, 1, 2, 3, 4] rfl)
            · refine lv_aload_n hx hb dX7_ownerNow_64 rfl (lv_at hl 2 rfl) ?_
              refine va_get (D := G.1) (ci := 8) (v := .ref lo) (C := RX7) (T := TX7) (N := 7) hx hb hts hiX7 hown hK hP 0 rfl rfl 6 (by decide) (hts (.fieldLink RX7 21 "TideMillModel" "lots" "Ljava/util/List;") (List.mem_of_getElem? (i := 1) rfl)) (fun _ h9 => h9) rfl dX7_ownerNow_65 ?_
              refine lv_iload hx hb dX7_ownerNow_68 (lv_at hl 0 rfl) ?_
              have hPc := va_P.part (X := [tc_X7 a0 th ma rf lk pu tl lo, tc_Jx4a65c lo mc ed (nI n)]) (cx := [tc_Jx4a65c lo mc ed (nI n)]) (pl := tm_L G ed n ad rc) hP [1] rfl
              have hDc := va_D.part (X := [tc_X7 a0 th ma rf lk pu tl lo, tc_Jx4a65c lo mc ed (nI n)]) (cx := [tc_Jx4a65c lo mc ed (nI n)]) (pl := tm_L G ed n ad rc) hD [1] (by decide) rfl
              have hFc := va_freeP (X := [tc_X7 a0 th ma rf lk pu tl lo, tc_Jx4a65c lo mc ed (nI n)]) (cx := [tc_Jx4a65c lo mc ed (nI n)]) (pl := tm_L G ed n ad rc) hD hS hA [1] rfl
              refine va_callFr (va_runF (As := [.int x5_1]) (rest := [.int x5_0]) (hK.1 0 (RJx4a65c, TJx4a65c, 3) rfl).2 ⟨hx, hb, hml, hown, hts⟩ (c_Jx4a65c_get_915e3 l G lo ed H.size mc x5_1 n ad rc (n_3 c_2)) (va_cwF 1 hts gX7_ownerNow_Jx4a65c_get_915e3_f39Jx4a65c rfl rfl rfl (hN.2.2.2.2.1 (⟨"java/util/List", "get", "(I)Ljava/lang/Object;"⟩, yJx4a65c_get_915e3) (List.mem_of_getElem? (i := 1) rfl)) (by decide +kernel) ⟨(Nat.le_of_ble_eq_true rfl), (Nat.le_of_ble_eq_true rfl)⟩) (tm_preV hK hN hV hS hPc hDc hFc (va_recv hK hPc (ci := 0) (q0 := 0) rfl rfl)) rfl rfl hl.1 rfl (lv_room (Nat.le_of_ble_eq_true rfl)) dX7_ownerNow_70 ⟨(Nat.le_of_ble_eq_true rfl), (Nat.le_of_ble_eq_true rfl)⟩) hS (fun q _ h => hFc q h) hFc (fun u ra t H locs ht hvm hw_17 hB hz1 hk1 hS => ?_)
              obtain ⟨rfl, hP1, hD1⟩ := hB
              rw [ht] at hP1
              obtain ⟨hP, hD⟩ := va_joinP (X := [tc_X7 a0 th ma rf lk pu tl lo, tc_Jx4a65c lo mc ed (nI n)]) (cx := [tc_Jx4a65c lo mc ed (nI n)]) (wr := [tc_X7 a0 th ma rf lk pu tl lo]) (rx := [tc_Jx4a65c lo mc ed (nI n)]) (pl := tm_L G ed n ad rc) (pl1 := tm_L G ed n ad rc) hP hD [1] [0] rfl rfl (by decide) (by decide) hk1 hFc hP1 hD1
              have hP : va_P G.1 vwCl ([tc_X7 a0 th ma rf lk pu tl lo, tc_Jx4a65c lo mc ed (nI n)] ++ tm_L G ed n ad rc) H := hP
              have hD : va_D A ([tc_X7 a0 th ma rf lk pu tl lo, tc_Jx4a65c lo mc ed (nI n)] ++ tm_L G ed n ad rc) := hD
              refine va_castA hx hb hown (hts (.classLink RX7 43 "[I") (List.mem_of_getElem? (i := 2) rfl)) hP _ (tm_L_get (tm_lt (n_5 c_2))) (hK.2 0 (G.2.1, .int) rfl).2 dX7_ownerNow_75 ?_
              refine lv_iconst (v := 2) hx hb dX7_ownerNow_78 (by decide) ?_
              refine va_iald (n := 5) (f := rc x5_1.toNatClampNeg) hx hb hK hP _ 0 (tm_L_get (tm_lt (n_5 c_2))) rfl (n_18 c_2 c_7 c_9 c_15) dX7_ownerNow_79 ?_
              refine lv_goto (tgt := 84) hx hb dX7_ownerNow_80 (by decide) ?_
              refine lv_iadd hx hb dX7_ownerNow_84 ?_
              refine lv_istore_n (lv' := [(3, .int (x5_0 + (rc x5_1.toNatClampNeg (2 : Int32).toNatClampNeg))), (4, .int x5_1), (0, .ref a0), (1, .int p1), (2, .int p2)]) hx hb dX7_ownerNow_85 rfl hl (by decide) rfl (fun ls hl => ?_)
              refine lv_iinc (v := x5_1 + 1) (lv' := [(4, .int (x5_1 + 1)), (3, .int (x5_0 + (rc x5_1.toNatClampNeg (2 : Int32).toNatClampNeg))), (0, .ref a0), (1, .int p1), (2, .int p2)]) hx hb dX7_ownerNow_86 hl (k := 1) rfl rfl (by decide) rfl (fun ls hl => ?_)
              refine lv_goto (tgt := 5) hx hb dX7_ownerNow_89 (by decide) ?_
              have hP9 := va_P.part (X := [tc_X7 a0 th ma rf lk pu tl lo, tc_Jx4a65c lo mc ed (nI n)]) (cx := [tc_X7 a0 th ma rf lk pu tl lo, tc_Jx4a65c lo mc ed (nI n)]) (pl := tm_L G ed n ad rc) hP [0, 1] rfl
              have hD9 := va_D.part (X := [tc_X7 a0 th ma rf lk pu tl lo, tc_Jx4a65c lo mc ed (nI n)]) (cx := [tc_X7 a0 th ma rf lk pu tl lo, tc_Jx4a65c lo mc ed (nI n)]) (pl := tm_L G ed n ad rc) hD [0, 1] (by decide) rfl
              exact ih (x5_0 + (rc x5_1.toNatClampNeg (2 : Int32).toNatClampNeg)) (x5_1 + 1) (n_19 c_2 c_7 c_9 c_15) (by rw [hE, f_X7_ownerNow_5]; all_goals (rw [if_neg c_2]); all_goals (rw [if_pos c_7]); all_goals (rw [if_pos c_9]); all_goals (rw [if_neg c_15]); all_goals rfl) _ _ hP9 hD9 hS _ (lv_sub hl [0, 1, 2, 3, 4] rfl)
  have hP9 := va_P.part (X := [tc_X7 a0 th ma rf lk pu tl lo, tc_Jx4a65c lo mc ed (nI n)]) (cx := [tc_X7 a0 th ma rf lk pu tl lo, tc_Jx4a65c lo mc ed (nI n)]) (pl := tm_L G ed n ad rc) hP [0, 1] rfl
  have hD9 := va_D.part (X := [tc_X7 a0 th ma rf lk pu tl lo, tc_Jx4a65c lo mc ed (nI n)]) (cx := [tc_X7 a0 th ma rf lk pu tl lo, tc_Jx4a65c lo mc ed (nI n)]) (pl := tm_L G ed n ad rc) hD [0, 1] (by decide) rfl
  exact L_5 12 0 0 n_20 (by unfold f_X7_ownerNow; all_goals rfl) _ _ hP9 hD9 hS _ (lv_sub hl [0, 1, 2, 3, 4] rfl)
set_option maxHeartbeats 4000000 in
set_option maxRecDepth 100000 in
theorem c_X7_ofOwner (l : Launch) (G : tm_G) (a0 : Nat) (ma : Nat) (lo : Nat) (ed : Nat) (sz : Nat) (th : Int32) (rf : Int32) (lk : Int32) (pu : Int32) (tl : UInt64) (mc : Int32) (p1 : Int32) (p2 : Int32) (n : Nat) (ad : Nat → Nat) (rc : Nat → Nat → Int32) (hn : n_X7_ofOwner p1 p2 n rc) : Met l yX7_ofOwner wsX7_ofOwner ({ frames := 4, cells := 0, slots := 0, locals := 88 }) (va_Pc [.ref a0, .int p1, .int p2] (tm_B G ([tc_X7 a0 th ma rf lk pu tl lo, tc_Jx4a65c lo mc ed (nI n)] ++ tm_L G ed n ad rc) sz)) (va_Qi (fun (r : Int32) (u : Int32) => (r, u) = f_X7_ofOwner p1 p2 n rc) (fun (u : Int32) (t : State) => va_P G.1 vwCl ([tc_X7 a0 u ma rf lk pu tl lo, tc_Jx4a65c lo mc ed (nI n)] ++ tm_L G ed n ad rc) t.heap ∧ va_D (va_A ([tc_X7 a0 th ma rf lk pu tl lo, tc_Jx4a65c lo mc ed (nI n)] ++ tm_L G ed n ad rc) sz) ([tc_X7 a0 u ma rf lk pu tl lo, tc_Jx4a65c lo mc ed (nI n)] ++ tm_L G ed n ad rc)) (va_A ([tc_X7 a0 th ma rf lk pu tl lo, tc_Jx4a65c lo mc ed (nI n)] ++ tm_L G ed n ad rc) sz)) 0 0 (va_A ([tc_X7 a0 th ma rf lk pu tl lo, tc_Jx4a65c lo mc ed (nI n)] ++ tm_L G ed n ad rc) sz) := by
  refine Met.ofW (cc := cX7_ofOwner) (maxL := 3) (ret := (some .int)) (by decide) rfl ?_
  intro p e s m args below meth c s₁ B hml hv
  obtain ⟨rfl, hsz, hP, hK, hD0, hN, hV⟩ := hv
  have hx := B.exec
  have hb := B.bytes
  have hr := B.returns
  have hts := atoms_spec (ws := wsX7_ofOwner) B.pre
  have hown : s.vm.findClass RX7 = some m.cls := findClass_of_methodNamed B.named
  have hlocks := B.notSynchronized
  subst hsz
  have n_3 := hn
  unfold n_X7_ofOwner at n_3
  have hiX7 : ∀ w ∈ u_ws RX7 TX7 7, w ∈ wsX7_ofOwner := fun _ h => List.mem_cons_of_mem _ (List.mem_append_left _ (List.mem_append_right _ h))
  have hD := hD0.self (sz := s.heap.size)
  generalize hAe : va_A ([tc_X7 a0 th ma rf lk pu tl lo, tc_Jx4a65c lo mc ed (nI n)] ++ tm_L G ed n ad rc) s.heap.size = A at hD hV ⊢
  have hA : ∀ q : Nat, s.heap.size ≤ q → A q := fun q h => by rw [← hAe]; exact Or.inr h
  have hS : va_S A s.heap s.heap [] := va_S.rf
  have hl := lv_entry ([.ref a0, .int p1, .int p2]) (n := 3) (Nat.le_of_ble_eq_true rfl)
  rw [lg_entry_eq]
  generalize (lg_sl ([.ref a0, .int p1, .int p2]) ++ List.replicate (3 - (lg_sl ([.ref a0, .int p1, .int p2])).length) Slot.unset).toArray = ls at hl ⊢
  have hl : lv_has ls 3 [(0, .ref a0), (1, .int p1), (2, .int p2)] := hl
  refine lv_aload_n hx hb dX7_ofOwner_0 rfl (lv_at hl 0 rfl) ?_
  refine lv_iconst (v := 0) hx hb dX7_ofOwner_1 (by decide) ?_
  refine va_put (D := G.1) (ci := 8) (v := .int 0) (ty := .int) (C := RX7) (T := TX7) (N := 7) hx hb hts hiX7 tyX7 tyX7_ok nmX7 hown hK hP hD hS 0 rfl rfl 0 (by decide) (hts (.fieldLink RX7 25 "TideMillModel" "thrown" "I") (List.mem_of_getElem? (i := 1) rfl)) (fun _ h9 => h9) rfl (by decide +kernel) rfl rfl (Nat.le_of_ble_eq_true rfl) dX7_ofOwner_2 (fun H locs hP hD hS => ?_)
  have hP : va_P G.1 vwCl ([tc_X7 a0 0 ma rf lk pu tl lo, tc_Jx4a65c lo mc ed (nI n)] ++ tm_L G ed n ad rc) H := hP
  have hD : va_D A ([tc_X7 a0 0 ma rf lk pu tl lo, tc_Jx4a65c lo mc ed (nI n)] ++ tm_L G ed n ad rc) := hD
  refine lv_iload_n hx hb dX7_ofOwner_5 rfl (lv_at hl 1 rfl) ?_
  refine lv_iconst (v := 0) hx hb dX7_ofOwner_6 (by decide) ?_
  refine lv_iconst (v := 3) hx hb dX7_ofOwner_7 (by decide) ?_
  have hPc := hP.sub (ws' := []) [] rfl
  have hDc := hD.sub (ws' := []) [] (by decide) rfl
  have hFc := va_free (wc := []) hD hS hA [] rfl
  refine va_calli (va_runS (As := [.int p1, .int 0, .int 3]) (rest := []) ⟨hx, hb, hml, hown, hts⟩ (c_X7_in l G  H.size p1 0 3 ) (cwS 3 hts gX7_ofOwner_X7_in rfl rfl rfl (by decide +kernel) ⟨(Nat.le_of_ble_eq_true rfl), (Nat.le_of_ble_eq_true rfl)⟩) (tm_preS hK hN hV hS hPc hDc hFc) rfl rfl hl.1 rfl (lv_room (Nat.le_of_ble_eq_true rfl)) dX7_ofOwner_8 ⟨(Nat.le_of_ble_eq_true rfl), (Nat.le_of_ble_eq_true rfl)⟩) hS (fun q _ h => hFc q h) hFc (fun r_1 u t H locs ht hvm hw_1 hB hz1 hk1 hS => ?_)
  obtain ⟨hP1, hD1⟩ := hB
  rw [ht] at hP1
  try dsimp only at hw_1
  obtain ⟨hP, hD⟩ := va_joinQ (X := [tc_X7 a0 0 ma rf lk pu tl lo, tc_Jx4a65c lo mc ed (nI n)]) (cx := []) (wr := [tc_X7 a0 0 ma rf lk pu tl lo, tc_Jx4a65c lo mc ed (nI n)]) (w1 := []) (pl := tm_L G ed n ad rc) hP hD [] [0, 1] rfl rfl (by decide) (by decide) hk1 hFc hP1 hD1
  have hP : va_P G.1 vwCl ([tc_X7 a0 0 ma rf lk pu tl lo, tc_Jx4a65c lo mc ed (nI n)] ++ tm_L G ed n ad rc) H := hP
  have hD : va_D A ([tc_X7 a0 0 ma rf lk pu tl lo, tc_Jx4a65c lo mc ed (nI n)] ++ tm_L G ed n ad rc) := hD
  subst r_1
  refine lv_if_ne (tgt := 20) hx hb dX7_ofOwner_11 (by decide) (fun c_2 => ?_) (fun c_2 => ?_)
  · refine lv_aload_n hx hb dX7_ofOwner_20 rfl (lv_at hl 0 rfl) ?_
    refine lv_iload_n hx hb dX7_ofOwner_21 rfl (lv_at hl 1 rfl) ?_
    refine lv_iload_n hx hb dX7_ofOwner_22 rfl (lv_at hl 2 rfl) ?_
    have hPc := va_P.part (X := [tc_X7 a0 0 ma rf lk pu tl lo, tc_Jx4a65c lo mc ed (nI n)]) (cx := [tc_X7 a0 0 ma rf lk pu tl lo, tc_Jx4a65c lo mc ed (nI n)]) (pl := tm_L G ed n ad rc) hP [0, 1] rfl
    have hDc := va_D.part (X := [tc_X7 a0 0 ma rf lk pu tl lo, tc_Jx4a65c lo mc ed (nI n)]) (cx := [tc_X7 a0 0 ma rf lk pu tl lo, tc_Jx4a65c lo mc ed (nI n)]) (pl := tm_L G ed n ad rc) hD [0, 1] (by decide) rfl
    have hFc := va_freeP (X := [tc_X7 a0 0 ma rf lk pu tl lo, tc_Jx4a65c lo mc ed (nI n)]) (cx := [tc_X7 a0 0 ma rf lk pu tl lo, tc_Jx4a65c lo mc ed (nI n)]) (pl := tm_L G ed n ad rc) hD hS hA [0, 1] rfl
    refine va_calli (va_runV (As := [.int p1, .int p2]) (rest := []) ⟨hx, hb, hml, hown, hts⟩ (c_X7_ownerNow l G a0 ma lo ed H.size 0 rf lk pu tl mc p1 p2 n ad rc (n_3 c_2)) (cwV 2 hts gX7_ofOwner_X7_ownerNow rfl rfl rfl (by decide +kernel) ⟨(Nat.le_of_ble_eq_true rfl), (Nat.le_of_ble_eq_true rfl)⟩) (tm_preV hK hN hV hS hPc hDc hFc (va_recv hK hPc (ci := 8) (q0 := 0) rfl rfl)) rfl rfl hl.1 rfl (lv_room (Nat.le_of_ble_eq_true rfl)) dX7_ofOwner_23 ⟨(Nat.le_of_ble_eq_true rfl), (Nat.le_of_ble_eq_true rfl)⟩) hS (fun q _ h => hFc q h) hFc (fun r_4 u t H locs ht hvm hw_4 hB hz1 hk1 hS => ?_)
    obtain ⟨hP1, hD1⟩ := hB
    rw [ht] at hP1
    try dsimp only at hw_4
    obtain ⟨hP, hD⟩ := va_joinP (X := [tc_X7 a0 0 ma rf lk pu tl lo, tc_Jx4a65c lo mc ed (nI n)]) (cx := [tc_X7 a0 0 ma rf lk pu tl lo, tc_Jx4a65c lo mc ed (nI n)]) (wr := []) (rx := [tc_X7 a0 0 ma rf lk pu tl lo, tc_Jx4a65c lo mc ed (nI n)]) (pl := tm_L G ed n ad rc) (pl1 := tm_L G ed n ad rc) hP hD [0, 1] [] rfl rfl (by decide) (by decide) hk1 hFc hP1 hD1
    have hP : va_P G.1 vwCl ([tc_X7 a0 0 ma rf lk pu tl lo, tc_Jx4a65c lo mc ed (nI n)] ++ tm_L G ed n ad rc) H := hP
    have hD : va_D A ([tc_X7 a0 0 ma rf lk pu tl lo, tc_Jx4a65c lo mc ed (nI n)] ++ tm_L G ed n ad rc) := hD
    subst r_4
    have hP9 := va_P.part (X := [tc_X7 a0 0 ma rf lk pu tl lo, tc_Jx4a65c lo mc ed (nI n)]) (cx := [tc_X7 a0 0 ma rf lk pu tl lo, tc_Jx4a65c lo mc ed (nI n)]) (pl := tm_L G ed n ad rc) hP [0, 1] rfl
    have hD9 := va_D.part (X := [tc_X7 a0 0 ma rf lk pu tl lo, tc_Jx4a65c lo mc ed (nI n)]) (cx := [tc_X7 a0 0 ma rf lk pu tl lo, tc_Jx4a65c lo mc ed (nI n)]) (pl := tm_L G ed n ad rc) hD [0, 1] (by decide) rfl
    exact W.iret (v := f_X7_ownerNow p1 p2 n rc) hx hb hr (fun t ht hW => ⟨⟨f_X7_ownerNow p1 p2 n rc, (0), rfl, by unfold f_X7_ofOwner; all_goals (rw [if_neg c_2]); all_goals rfl, by rw [ht]; exact hP9, hD9⟩, hS.F ht⟩) hS.2.2 dX7_ofOwner_26
  · refine lv_aload_n hx hb dX7_ofOwner_14 rfl (lv_at hl 0 rfl) ?_
    refine lv_iconst (v := 1) hx hb dX7_ofOwner_15 (by decide) ?_
    have hPc := hP.sub (ws' := [tc_X7 a0 0 ma rf lk pu tl lo]) [0] rfl
    have hDc := hD.sub (ws' := [tc_X7 a0 0 ma rf lk pu tl lo]) [0] (by decide) rfl
    have hFc := va_free (wc := [tc_X7 a0 0 ma rf lk pu tl lo]) hD hS hA [0] rfl
    refine va_calli (va_runV (As := [.int 1]) (rest := []) ⟨hx, hb, hml, hown, hts⟩ (c_X7_no l G a0 ma lo H.size 0 rf lk pu tl 1 ) (cwV 1 hts gX7_ofOwner_X7_no rfl rfl rfl (by decide +kernel) ⟨(Nat.le_of_ble_eq_true rfl), (Nat.le_of_ble_eq_true rfl)⟩) (tm_preV hK hN hV hS hPc hDc hFc (va_recv hK hPc (ci := 8) (q0 := 0) rfl rfl)) rfl rfl hl.1 rfl (lv_room (Nat.le_of_ble_eq_true rfl)) dX7_ofOwner_16 ⟨(Nat.le_of_ble_eq_true rfl), (Nat.le_of_ble_eq_true rfl)⟩) hS (fun q _ h => hFc q h) hFc (fun r_5 u t H locs ht hvm hw_5 hB hz1 hk1 hS => ?_)
    obtain ⟨u_6, rfl⟩ : ∃ z, z = u := ⟨_, rfl⟩
    obtain ⟨hP1, hD1⟩ := hB
    rw [ht] at hP1
    try dsimp only at hw_5
    obtain ⟨hP, hD⟩ := va_joinQ (X := [tc_X7 a0 0 ma rf lk pu tl lo, tc_Jx4a65c lo mc ed (nI n)]) (cx := [tc_X7 a0 0 ma rf lk pu tl lo]) (wr := [tc_Jx4a65c lo mc ed (nI n)]) (w1 := [tc_X7 a0 u_6 ma rf lk pu tl lo]) (pl := tm_L G ed n ad rc) hP hD [0] [1] rfl rfl (by decide) (by decide) hk1 hFc hP1 hD1
    have hP : va_P G.1 vwCl ([tc_Jx4a65c lo mc ed (nI n), tc_X7 a0 u_6 ma rf lk pu tl lo] ++ tm_L G ed n ad rc) H := hP
    have hD : va_D A ([tc_Jx4a65c lo mc ed (nI n), tc_X7 a0 u_6 ma rf lk pu tl lo] ++ tm_L G ed n ad rc) := hD
    have hP9 := va_P.part (X := [tc_Jx4a65c lo mc ed (nI n), tc_X7 a0 u_6 ma rf lk pu tl lo]) (cx := [tc_X7 a0 u_6 ma rf lk pu tl lo, tc_Jx4a65c lo mc ed (nI n)]) (pl := tm_L G ed n ad rc) hP [1, 0] rfl
    have hD9 := va_D.part (X := [tc_Jx4a65c lo mc ed (nI n), tc_X7 a0 u_6 ma rf lk pu tl lo]) (cx := [tc_X7 a0 u_6 ma rf lk pu tl lo, tc_Jx4a65c lo mc ed (nI n)]) (pl := tm_L G ed n ad rc) hD [1, 0] (by decide) rfl
    exact W.iret (v := r_5) hx hb hr (fun t ht hW => ⟨⟨r_5, (u_6), rfl, by unfold f_X7_ofOwner; all_goals (rw [if_pos c_2]); all_goals (rw [← hw_5]); all_goals (dsimp only); all_goals rfl, by rw [ht]; exact hP9, hD9⟩, hS.F ht⟩) hS.2.2 dX7_ofOwner_19
