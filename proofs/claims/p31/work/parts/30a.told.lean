set_option maxHeartbeats 4000000 in
set_option maxRecDepth 100000 in
theorem c_L_below (l : Launch) (G : tm_G)  (sz : Nat) (p1 : Int32) (p2 : Int32) (hn : n_L_below p2) : Met l yL_below wsL_below ({ frames := 0, cells := 0, slots := 0, locals := 0 }) (va_Pc [.int p1, .int p2] (tm_B G [] sz)) (va_Qi (fun (r : Int32) (u : Unit) => r = f_L_below p1 p2) (fun (u : Unit) (t : State) => va_P G.1 vwCl [] t.heap ∧ va_D (va_A [] sz) []) (va_A [] sz)) 0 0 (va_A [] sz) := by
  refine Met.ofW (cc := cL_below) (maxL := 2) (ret := (some .int)) (by decide) rfl ?_
  intro p e s m args below meth c s₁ B hml hv
  obtain ⟨rfl, hsz, hP, hK, hD0, hN, hV⟩ := hv
  have hx := B.exec
  have hb := B.bytes
  have hr := B.returns
  have hts := atoms_spec (ws := wsL_below) B.pre
  have hown : s.vm.findClass RL = some m.cls := findClass_of_methodNamed B.named
  have hlocks := B.notSynchronized
  subst hsz
  have n_1 := hn
  unfold n_L_below at n_1
  have hD := hD0.self (sz := s.heap.size)
  generalize hAe : va_A [] s.heap.size = A at hD hV ⊢
  have hA : ∀ q : Nat, s.heap.size ≤ q → A q := fun q h => by rw [← hAe]; exact Or.inr h
  have hS : va_S A s.heap s.heap [] := va_S.rf
  have hl := lv_entry ([.int p1, .int p2]) (n := 2) (Nat.le_of_ble_eq_true rfl)
  rw [lg_entry_eq]
  generalize (lg_sl ([.int p1, .int p2]) ++ List.replicate (2 - (lg_sl ([.int p1, .int p2])).length) Slot.unset).toArray = ls at hl ⊢
  have hl : lv_has ls 2 [(0, .int p1), (1, .int p2)] := hl
  refine lv_iload_n hx hb dL_below_0 rfl (lv_at hl 0 rfl) ?_
  refine lv_ldc hx hb hown (hts (.constant RL 7 (2147483647)) (List.mem_of_getElem? (i := 1) rfl)) dL_below_1 ?_
  refine lv_iand hx hb dL_below_3 ?_
  refine lv_iload_n hx hb dL_below_4 rfl (lv_at hl 1 rfl) ?_
  refine lv_irem hx hb dL_below_5 n_1 ?_
  have hP9 := hP.sub (ws' := []) [] rfl
  have hD9 := hD.sub (ws' := []) [] (by decide) rfl
  exact W.iret (v := (p1 &&& 2147483647) - (p1 &&& 2147483647) / p2 * p2) hx hb hr (fun t ht hW => ⟨⟨(p1 &&& 2147483647) - (p1 &&& 2147483647) / p2 * p2, (), rfl, by unfold f_L_below; all_goals rfl, by rw [ht]; exact hP9, hD9⟩, hS.F ht⟩) hS.2.2 dL_below_6
set_option maxHeartbeats 4000000 in
set_option maxRecDepth 100000 in
theorem c_L_cell (l : Launch) (G : tm_G)  (sz : Nat) (p2 : Int32) (hn : n_L_cell p2 (tm_sL G)) : Met l yL_cell wsL_cell ({ frames := 0, cells := 0, slots := 0, locals := 0 }) (va_Pc [.ref (tm_sb G), .int p2] (tm_B G [] sz)) (va_Qi (fun (r : Int32) (u : Unit) => r = f_L_cell p2 (tm_sL G) (tm_xs G)) (fun (u : Unit) (t : State) => va_P G.1 vwCl [] t.heap ∧ va_D (va_A [] sz) []) (va_A [] sz)) 0 0 (va_A [] sz) := by
  refine Met.ofW (cc := cL_cell) (maxL := 2) (ret := (some .int)) (by decide) rfl ?_
  intro p e s m args below meth c s₁ B hml hv
  obtain ⟨rfl, hsz, hP, hK, hD0, hN, hV⟩ := hv
  have hx := B.exec
  have hb := B.bytes
  have hr := B.returns
  have hts := atoms_spec (ws := wsL_cell) B.pre
  have hown : s.vm.findClass RL = some m.cls := findClass_of_methodNamed B.named
  have hlocks := B.notSynchronized
  subst hsz
  have n_2 := hn
  unfold n_L_cell at n_2
  have hD := hD0.self (sz := s.heap.size)
  generalize hAe : va_A [] s.heap.size = A at hD hV ⊢
  have hA : ∀ q : Nat, s.heap.size ≤ q → A q := fun q h => by rw [← hAe]; exact Or.inr h
  have hS : va_S A s.heap s.heap [] := va_S.rf
  have hl := lv_entry ([.ref (tm_sb G), .int p2]) (n := 2) (Nat.le_of_ble_eq_true rfl)
  rw [lg_entry_eq]
  generalize (lg_sl ([.ref (tm_sb G), .int p2]) ++ List.replicate (2 - (lg_sl ([.ref (tm_sb G), .int p2])).length) Slot.unset).toArray = ls at hl ⊢
  have hl : lv_has ls 2 [(0, .ref (tm_sb G)), (1, .int p2)] := hl
  refine lv_iload_n hx hb dL_cell_0 rfl (lv_at hl 1 rfl) ?_
  refine lv_aload_n hx hb dL_cell_1 rfl (lv_at hl 0 rfl) ?_
  refine va_tlen (v := Int32.ofNat (tm_sL G)) hx hb hV.1 hS rfl dL_cell_2 ?_
  refine lv_icmp_ge (tgt := 12) hx hb dL_cell_3 (by decide) (fun c_1 => ?_) (fun c_1 => ?_)
  · refine lv_ldc hx hb hown (hts (.constant RL 8 (790386105)) (List.mem_of_getElem? (i := 1) rfl)) dL_cell_12 ?_
    refine lv_iload_n hx hb dL_cell_14 rfl (lv_at hl 1 rfl) ?_
    refine lv_iconst (v := 3) hx hb dL_cell_15 (by decide) ?_
    refine lv_iadd hx hb dL_cell_16 ?_
    refine lv_imul hx hb dL_cell_17 ?_
    have hP9 := hP.sub (ws' := []) [] rfl
    have hD9 := hD.sub (ws' := []) [] (by decide) rfl
    exact W.iret (v := 790386105 * (p2 + 3)) hx hb hr (fun t ht hW => ⟨⟨790386105 * (p2 + 3), (), rfl, by unfold f_L_cell; all_goals (rw [if_pos c_1]); all_goals rfl, by rw [ht]; exact hP9, hD9⟩, hS.F ht⟩) hS.2.2 dL_cell_18
  · refine lv_aload_n hx hb dL_cell_6 rfl (lv_at hl 0 rfl) ?_
    refine lv_iload_n hx hb dL_cell_7 rfl (lv_at hl 1 rfl) ?_
    refine va_ti (v := .int ((tm_xs G) p2.toNatClampNeg)) hx hb hV.1 hS (n_2 c_1) rfl dL_cell_8 ?_
    refine lv_goto (tgt := 18) hx hb dL_cell_9 (by decide) ?_
    have hP9 := hP.sub (ws' := []) [] rfl
    have hD9 := hD.sub (ws' := []) [] (by decide) rfl
    exact W.iret (v := (tm_xs G) p2.toNatClampNeg) hx hb hr (fun t ht hW => ⟨⟨(tm_xs G) p2.toNatClampNeg, (), rfl, by unfold f_L_cell; all_goals (rw [if_neg c_1]); all_goals rfl, by rw [ht]; exact hP9, hD9⟩, hS.F ht⟩) hS.2.2 dL_cell_18
set_option maxHeartbeats 4000000 in
set_option maxRecDepth 100000 in
theorem c_X6_draw (l : Launch) (G : tm_G) (o0 : Nat) (a0 : Nat) (pd : Nat) (o1 : Nat) (ed : Nat) (o2 : Nat) (sz : Nat) (dw : Int32) (ttk : Int32) (tmo : Int32) (tsu : UInt64) (tlv : UInt64) (tsi : UInt32) (tga : Int32) (tsl : Int32) (tsc : Int32) (tfh : Int32) (tlh : Int32) (tfo : UInt64) (tee : Int32) (tlk : Int32) (trf : Int32) (tpu : Int32) (tto : UInt64) (p1 : Int32) (hn : n_X6_draw dw p1 (tm_sL G)) : Met l yX6_draw wsX6_draw ({ frames := 1, cells := 0, slots := 0, locals := 21 }) (va_Pc [.ref o0, .int p1] (tm_B G [tc_X6 o0 a0 (tm_sb G) dw ttk tmo tsu tlv tsi tga tsl tsc tfh tlh tfo tee tlk trf pd o1 ed o2 tpu tto] sz)) (va_Qi (fun (r : Int32) (u : Int32) => (r, u) = f_X6_draw dw p1 (tm_sL G) (tm_xs G)) (fun (u : Int32) (t : State) => va_P G.1 vwCl [tc_X6 o0 a0 (tm_sb G) u ttk tmo tsu tlv tsi tga tsl tsc tfh tlh tfo tee tlk trf pd o1 ed o2 tpu tto] t.heap ∧ va_D (va_A [tc_X6 o0 a0 (tm_sb G) dw ttk tmo tsu tlv tsi tga tsl tsc tfh tlh tfo tee tlk trf pd o1 ed o2 tpu tto] sz) [tc_X6 o0 a0 (tm_sb G) u ttk tmo tsu tlv tsi tga tsl tsc tfh tlh tfo tee tlk trf pd o1 ed o2 tpu tto]) (va_A [tc_X6 o0 a0 (tm_sb G) dw ttk tmo tsu tlv tsi tga tsl tsc tfh tlh tfo tee tlk trf pd o1 ed o2 tpu tto] sz)) 0 0 (va_A [tc_X6 o0 a0 (tm_sb G) dw ttk tmo tsu tlv tsi tga tsl tsc tfh tlh tfo tee tlk trf pd o1 ed o2 tpu tto] sz) := by
  refine Met.ofW (cc := cX6_draw) (maxL := 3) (ret := (some .int)) (by decide) rfl ?_
  intro p e s m args below meth c s₁ B hml hv
  obtain ⟨rfl, hsz, hP, hK, hD0, hN, hV⟩ := hv
  have hx := B.exec
  have hb := B.bytes
  have hr := B.returns
  have hts := atoms_spec (ws := wsX6_draw) B.pre
  have hown : s.vm.findClass RX6 = some m.cls := findClass_of_methodNamed B.named
  have hlocks := B.notSynchronized
  subst hsz
  obtain ⟨n_1, n_3⟩ := hn
  have hiX6 : ∀ w ∈ u_ws RX6 TX6 23, w ∈ wsX6_draw := fun _ h => List.mem_cons_of_mem _ (List.mem_append_right _ h)
  have hD := hD0.self (sz := s.heap.size)
  generalize hAe : va_A [tc_X6 o0 a0 (tm_sb G) dw ttk tmo tsu tlv tsi tga tsl tsc tfh tlh tfo tee tlk trf pd o1 ed o2 tpu tto] s.heap.size = A at hD hV ⊢
  have hA : ∀ q : Nat, s.heap.size ≤ q → A q := fun q h => by rw [← hAe]; exact Or.inr h
  have hS : va_S A s.heap s.heap [] := va_S.rf
  have hl := lv_entry ([.ref o0, .int p1]) (n := 3) (Nat.le_of_ble_eq_true rfl)
  rw [lg_entry_eq]
  generalize (lg_sl ([.ref o0, .int p1]) ++ List.replicate (3 - (lg_sl ([.ref o0, .int p1])).length) Slot.unset).toArray = ls at hl ⊢
  have hl : lv_has ls 3 [(0, .ref o0), (1, .int p1)] := hl
  refine lv_aload_n hx hb dX6_draw_0 rfl (lv_at hl 0 rfl) ?_
  refine va_get (D := G.1) (ci := 6) (v := .ref (tm_sb G)) (C := RX6) (T := TX6) (N := 23) hx hb hts hiX6 hown hK hP 0 rfl rfl 1 (by decide) (hts (.fieldLink RX6 37 "TideMillLaw$Told" "s" "[I") (List.mem_of_getElem? (i := 1) rfl)) (fun _ h9 => h9) rfl dX6_draw_1 ?_
  refine lv_aload_n hx hb dX6_draw_4 rfl (lv_at hl 0 rfl) ?_
  refine va_get (D := G.1) (ci := 6) (v := .int dw) (C := RX6) (T := TX6) (N := 23) hx hb hts hiX6 hown hK hP 0 rfl rfl 2 (by decide) (hts (.fieldLink RX6 40 "TideMillLaw$Told" "draws" "I") (List.mem_of_getElem? (i := 2) rfl)) (fun _ h9 => h9) rfl dX6_draw_5 ?_
  refine lv_bipush (v := 24) hx hb dX6_draw_8 (by decide) ?_
  refine lv_irem hx hb dX6_draw_10 (by decide) ?_
  have hPc := hP.sub (ws' := []) [] rfl
  have hDc := hD.sub (ws' := []) [] (by decide) rfl
  have hFc := va_free (wc := []) hD hS hA [] rfl
  refine va_calli (va_runSN (As := [.ref (tm_sb G), .int (dw - dw / 24 * 24)]) (rest := []) ⟨hx, hb, hml, hown, hts⟩ (c_L_cell l G  s.heap.size (dw - dw / 24 * 24) n_1) ⟨va_cnB 2 hts gX6_draw_L_cell_n43 rfl rfl rfl (tm_N_X6_43 hN) (hts (.initialized RL) (List.mem_of_getElem? (i := 4) rfl)) (by decide +kernel) ⟨(Nat.le_of_ble_eq_true rfl), (Nat.le_of_ble_eq_true rfl)⟩, (hts (.static yL_cell) (List.mem_of_getElem? (i := 3) rfl)), trivial⟩ (tm_preS hK hN hV hS hPc hDc hFc) rfl rfl hl.1 rfl (lv_room (Nat.le_of_ble_eq_true rfl)) dX6_draw_11 ⟨(Nat.le_of_ble_eq_true rfl), (Nat.le_of_ble_eq_true rfl)⟩) hS (fun q _ h => hFc q h) hFc (fun r_2 u t H locs ht hvm hw_2 hB hz1 hk1 hS => ?_)
  obtain ⟨hP1, hD1⟩ := hB
  rw [ht] at hP1
  try dsimp only at hw_2
  obtain ⟨hP, hD⟩ := va_join (wr := [tc_X6 o0 a0 (tm_sb G) dw ttk tmo tsu tlv tsi tga tsl tsc tfh tlh tfo tee tlk trf pd o1 ed o2 tpu tto]) (w1 := []) hP hD [] [0] rfl rfl (by decide) (by decide) hk1 hFc hP1 hD1
  have hP : va_P G.1 vwCl [tc_X6 o0 a0 (tm_sb G) dw ttk tmo tsu tlv tsi tga tsl tsc tfh tlh tfo tee tlk trf pd o1 ed o2 tpu tto] H := hP
  have hD : va_D A [tc_X6 o0 a0 (tm_sb G) dw ttk tmo tsu tlv tsi tga tsl tsc tfh tlh tfo tee tlk trf pd o1 ed o2 tpu tto] := hD
  subst r_2
  refine lv_aload_n hx hb dX6_draw_14 rfl (lv_at hl 0 rfl) ?_
  refine va_get (D := G.1) (ci := 6) (v := .int dw) (C := RX6) (T := TX6) (N := 23) hx hb hts hiX6 hown hK hP 0 rfl rfl 2 (by decide) (hts (.fieldLink RX6 40 "TideMillLaw$Told" "draws" "I") (List.mem_of_getElem? (i := 2) rfl)) (fun _ h9 => h9) rfl dX6_draw_15 ?_
  refine lv_bipush (v := 24) hx hb dX6_draw_18 (by decide) ?_
  refine lv_idiv hx hb dX6_draw_20 (by decide) ?_
  refine lv_bipush (v := 8) hx hb dX6_draw_21 (by decide) ?_
  refine lv_irem hx hb dX6_draw_23 (by decide) ?_
  refine lv_ishr hx hb dX6_draw_24 ?_
  refine lv_sipush (v := 419) hx hb dX6_draw_25 (by decide) ?_
  refine lv_aload_n hx hb dX6_draw_28 rfl (lv_at hl 0 rfl) ?_
  refine va_get (D := G.1) (ci := 6) (v := .int dw) (C := RX6) (T := TX6) (N := 23) hx hb hts hiX6 hown hK hP 0 rfl rfl 2 (by decide) (hts (.fieldLink RX6 40 "TideMillLaw$Told" "draws" "I") (List.mem_of_getElem? (i := 2) rfl)) (fun _ h9 => h9) rfl dX6_draw_29 ?_
  refine lv_imul hx hb dX6_draw_32 ?_
  refine lv_iadd hx hb dX6_draw_33 ?_
  refine lv_iload_n hx hb dX6_draw_34 rfl (lv_at hl 1 rfl) ?_
  have hPc := hP.sub (ws' := []) [] rfl
  have hDc := hD.sub (ws' := []) [] (by decide) rfl
  have hFc := va_free (wc := []) hD hS hA [] rfl
  refine va_calli (va_runSN (As := [.int (((f_L_cell (dw - dw / 24 * 24) (tm_sL G) (tm_xs G)) >>> (((dw / 24) - (dw / 24) / 8 * 8) &&& 31)) + (419 * dw)), .int p1]) (rest := []) ⟨hx, hb, hml, hown, hts⟩ (c_L_below l G  H.size (((f_L_cell (dw - dw / 24 * 24) (tm_sL G) (tm_xs G)) >>> (((dw / 24) - (dw / 24) / 8 * 8) &&& 31)) + (419 * dw)) p1 n_3) ⟨va_cnB 2 hts gX6_draw_L_below_n49 rfl rfl rfl (tm_N_X6_49 hN) (hts (.initialized RL) (List.mem_of_getElem? (i := 4) rfl)) (by decide +kernel) ⟨(Nat.le_of_ble_eq_true rfl), (Nat.le_of_ble_eq_true rfl)⟩, (hts (.static yL_below) (List.mem_of_getElem? (i := 7) rfl)), trivial⟩ (tm_preS hK hN hV hS hPc hDc hFc) rfl rfl hl.1 rfl (lv_room (Nat.le_of_ble_eq_true rfl)) dX6_draw_35 ⟨(Nat.le_of_ble_eq_true rfl), (Nat.le_of_ble_eq_true rfl)⟩) hS (fun q _ h => hFc q h) hFc (fun r_4 u t H locs ht hvm hw_4 hB hz1 hk1 hS => ?_)
  obtain ⟨hP1, hD1⟩ := hB
  rw [ht] at hP1
  try dsimp only at hw_4
  obtain ⟨hP, hD⟩ := va_join (wr := [tc_X6 o0 a0 (tm_sb G) dw ttk tmo tsu tlv tsi tga tsl tsc tfh tlh tfo tee tlk trf pd o1 ed o2 tpu tto]) (w1 := []) hP hD [] [0] rfl rfl (by decide) (by decide) hk1 hFc hP1 hD1
  have hP : va_P G.1 vwCl [tc_X6 o0 a0 (tm_sb G) dw ttk tmo tsu tlv tsi tga tsl tsc tfh tlh tfo tee tlk trf pd o1 ed o2 tpu tto] H := hP
  have hD : va_D A [tc_X6 o0 a0 (tm_sb G) dw ttk tmo tsu tlv tsi tga tsl tsc tfh tlh tfo tee tlk trf pd o1 ed o2 tpu tto] := hD
  subst r_4
  refine lv_istore_n (lv' := [(2, .int (f_L_below (((f_L_cell (dw - dw / 24 * 24) (tm_sL G) (tm_xs G)) >>> (((dw / 24) - (dw / 24) / 8 * 8) &&& 31)) + (419 * dw)) p1)), (0, .ref o0), (1, .int p1)]) hx hb dX6_draw_38 rfl hl (by decide) rfl (fun ls hl => ?_)
  refine lv_aload_n hx hb dX6_draw_39 rfl (lv_at hl 1 rfl) ?_
  refine lv_dup hx hb dX6_draw_40 rfl ?_
  refine va_get (D := G.1) (ci := 6) (v := .int dw) (C := RX6) (T := TX6) (N := 23) hx hb hts hiX6 hown hK hP 0 rfl rfl 2 (by decide) (hts (.fieldLink RX6 40 "TideMillLaw$Told" "draws" "I") (List.mem_of_getElem? (i := 2) rfl)) (fun _ h9 => h9) rfl dX6_draw_41 ?_
  refine lv_iconst (v := 1) hx hb dX6_draw_44 (by decide) ?_
  refine lv_iadd hx hb dX6_draw_45 ?_
  refine va_put (D := G.1) (ci := 6) (v := .int (dw + 1)) (ty := .int) (C := RX6) (T := TX6) (N := 23) hx hb hts hiX6 tyX6 tyX6_ok nmX6 hown hK hP hD hS 0 rfl rfl 2 (by decide) (hts (.fieldLink RX6 40 "TideMillLaw$Told" "draws" "I") (List.mem_of_getElem? (i := 2) rfl)) (fun _ h9 => h9) rfl (by decide +kernel) rfl rfl (Nat.le_of_ble_eq_true rfl) dX6_draw_46 (fun H locs hP hD hS => ?_)
  have hP : va_P G.1 vwCl [tc_X6 o0 a0 (tm_sb G) (dw + 1) ttk tmo tsu tlv tsi tga tsl tsc tfh tlh tfo tee tlk trf pd o1 ed o2 tpu tto] H := hP
  have hD : va_D A [tc_X6 o0 a0 (tm_sb G) (dw + 1) ttk tmo tsu tlv tsi tga tsl tsc tfh tlh tfo tee tlk trf pd o1 ed o2 tpu tto] := hD
  refine lv_iload_n hx hb dX6_draw_49 rfl (lv_at hl 0 rfl) ?_
  have hP9 := hP.sub (ws' := [tc_X6 o0 a0 (tm_sb G) (dw + 1) ttk tmo tsu tlv tsi tga tsl tsc tfh tlh tfo tee tlk trf pd o1 ed o2 tpu tto]) [0] rfl
  have hD9 := hD.sub (ws' := [tc_X6 o0 a0 (tm_sb G) (dw + 1) ttk tmo tsu tlv tsi tga tsl tsc tfh tlh tfo tee tlk trf pd o1 ed o2 tpu tto]) [0] (by decide) rfl
  exact W.iret (v := f_L_below (((f_L_cell (dw - dw / 24 * 24) (tm_sL G) (tm_xs G)) >>> (((dw / 24) - (dw / 24) / 8 * 8) &&& 31)) + (419 * dw)) p1) hx hb hr (fun t ht hW => ⟨⟨f_L_below (((f_L_cell (dw - dw / 24 * 24) (tm_sL G) (tm_xs G)) >>> (((dw / 24) - (dw / 24) / 8 * 8) &&& 31)) + (419 * dw)) p1, (dw + 1), rfl, by unfold f_X6_draw; all_goals rfl, by rw [ht]; exact hP9, hD9⟩, hS.F ht⟩) hS.2.2 dX6_draw_50
set_option maxHeartbeats 4000000 in
set_option maxRecDepth 100000 in
theorem c_X6_age (l : Launch) (G : tm_G) (o0 : Nat) (a0 : Nat) (pd : Nat) (o1 : Nat) (ed : Nat) (o2 : Nat) (sz : Nat) (dw : Int32) (ttk : Int32) (tmo : Int32) (tsu : UInt64) (tlv : UInt64) (tsi : UInt32) (tga : Int32) (tsl : Int32) (tsc : Int32) (tfh : Int32) (tlh : Int32) (tfo : UInt64) (tee : Int32) (tlk : Int32) (trf : Int32) (tpu : Int32) (tto : UInt64) (p1 : Int32) : Met l yX6_age wsX6_age ({ frames := 0, cells := 0, slots := 0, locals := 0 }) (va_Pc [.ref o0, .int p1] (tm_B G [tc_X6 o0 a0 (tm_sb G) dw ttk tmo tsu tlv tsi tga tsl tsc tfh tlh tfo tee tlk trf pd o1 ed o2 tpu tto] sz)) (va_Qi (fun (r : Int32) (u : Unit) => r = f_X6_age tmo p1) (fun (u : Unit) (t : State) => va_P G.1 vwCl [tc_X6 o0 a0 (tm_sb G) dw ttk tmo tsu tlv tsi tga tsl tsc tfh tlh tfo tee tlk trf pd o1 ed o2 tpu tto] t.heap ∧ va_D (va_A [tc_X6 o0 a0 (tm_sb G) dw ttk tmo tsu tlv tsi tga tsl tsc tfh tlh tfo tee tlk trf pd o1 ed o2 tpu tto] sz) [tc_X6 o0 a0 (tm_sb G) dw ttk tmo tsu tlv tsi tga tsl tsc tfh tlh tfo tee tlk trf pd o1 ed o2 tpu tto]) (va_A [tc_X6 o0 a0 (tm_sb G) dw ttk tmo tsu tlv tsi tga tsl tsc tfh tlh tfo tee tlk trf pd o1 ed o2 tpu tto] sz)) 0 0 (va_A [tc_X6 o0 a0 (tm_sb G) dw ttk tmo tsu tlv tsi tga tsl tsc tfh tlh tfo tee tlk trf pd o1 ed o2 tpu tto] sz) := by
  refine Met.ofW (cc := cX6_age) (maxL := 2) (ret := (some .int)) (by decide) rfl ?_
  intro p e s m args below meth c s₁ B hml hv
  obtain ⟨rfl, hsz, hP, hK, hD0, hN, hV⟩ := hv
  have hx := B.exec
  have hb := B.bytes
  have hr := B.returns
  have hts := atoms_spec (ws := wsX6_age) B.pre
  have hown : s.vm.findClass RX6 = some m.cls := findClass_of_methodNamed B.named
  have hlocks := B.notSynchronized
  subst hsz
  have hiX6 : ∀ w ∈ u_ws RX6 TX6 23, w ∈ wsX6_age := fun _ h => List.mem_cons_of_mem _ (List.mem_append_right _ h)
  have hD := hD0.self (sz := s.heap.size)
  generalize hAe : va_A [tc_X6 o0 a0 (tm_sb G) dw ttk tmo tsu tlv tsi tga tsl tsc tfh tlh tfo tee tlk trf pd o1 ed o2 tpu tto] s.heap.size = A at hD hV ⊢
  have hA : ∀ q : Nat, s.heap.size ≤ q → A q := fun q h => by rw [← hAe]; exact Or.inr h
  have hS : va_S A s.heap s.heap [] := va_S.rf
  have hl := lv_entry ([.ref o0, .int p1]) (n := 2) (Nat.le_of_ble_eq_true rfl)
  rw [lg_entry_eq]
  generalize (lg_sl ([.ref o0, .int p1]) ++ List.replicate (2 - (lg_sl ([.ref o0, .int p1])).length) Slot.unset).toArray = ls at hl ⊢
  have hl : lv_has ls 2 [(0, .ref o0), (1, .int p1)] := hl
  refine lv_iload_n hx hb dX6_age_0 rfl (lv_at hl 1 rfl) ?_
  refine lv_bipush (v := 48) hx hb dX6_age_1 (by decide) ?_
  refine lv_idiv hx hb dX6_age_3 (by decide) ?_
  refine lv_aload_n hx hb dX6_age_4 rfl (lv_at hl 0 rfl) ?_
  refine va_get (D := G.1) (ci := 6) (v := .int tmo) (C := RX6) (T := TX6) (N := 23) hx hb hts hiX6 hown hK hP 0 rfl rfl 4 (by decide) (hts (.fieldLink RX6 59 "TideMillLaw$Told" "moon" "I") (List.mem_of_getElem? (i := 1) rfl)) (fun _ h9 => h9) rfl dX6_age_5 ?_
  refine lv_iadd hx hb dX6_age_8 ?_
  refine lv_bipush (v := 30) hx hb dX6_age_9 (by decide) ?_
  refine lv_irem hx hb dX6_age_11 (by decide) ?_
  have hP9 := hP.sub (ws' := [tc_X6 o0 a0 (tm_sb G) dw ttk tmo tsu tlv tsi tga tsl tsc tfh tlh tfo tee tlk trf pd o1 ed o2 tpu tto]) [0] rfl
  have hD9 := hD.sub (ws' := [tc_X6 o0 a0 (tm_sb G) dw ttk tmo tsu tlv tsi tga tsl tsc tfh tlh tfo tee tlk trf pd o1 ed o2 tpu tto]) [0] (by decide) rfl
  exact W.iret (v := ((p1 / 48) + tmo) - ((p1 / 48) + tmo) / 30 * 30) hx hb hr (fun t ht hW => ⟨⟨((p1 / 48) + tmo) - ((p1 / 48) + tmo) / 30 * 30, (), rfl, by unfold f_X6_age; all_goals rfl, by rw [ht]; exact hP9, hD9⟩, hS.F ht⟩) hS.2.2 dX6_age_12
set_option maxHeartbeats 4000000 in
set_option maxRecDepth 100000 in
theorem c_X6_spring (l : Launch) (G : tm_G) (o0 : Nat) (a0 : Nat) (pd : Nat) (o1 : Nat) (ed : Nat) (o2 : Nat) (sz : Nat) (dw : Int32) (ttk : Int32) (tmo : Int32) (tsu : UInt64) (tlv : UInt64) (tsi : UInt32) (tga : Int32) (tsl : Int32) (tsc : Int32) (tfh : Int32) (tlh : Int32) (tfo : UInt64) (tee : Int32) (tlk : Int32) (trf : Int32) (tpu : Int32) (tto : UInt64) (p1 : Int32) : Met l yX6_spring wsX6_spring ({ frames := 1, cells := 0, slots := 0, locals := 21 }) (va_Pc [.ref o0, .int p1] (tm_B G [tc_X6 o0 a0 (tm_sb G) dw ttk tmo tsu tlv tsi tga tsl tsc tfh tlh tfo tee tlk trf pd o1 ed o2 tpu tto] sz)) (va_Qi (fun (r : Int32) (u : Unit) => r = f_X6_spring tmo p1) (fun (u : Unit) (t : State) => va_P G.1 vwCl [tc_X6 o0 a0 (tm_sb G) dw ttk tmo tsu tlv tsi tga tsl tsc tfh tlh tfo tee tlk trf pd o1 ed o2 tpu tto] t.heap ∧ va_D (va_A [tc_X6 o0 a0 (tm_sb G) dw ttk tmo tsu tlv tsi tga tsl tsc tfh tlh tfo tee tlk trf pd o1 ed o2 tpu tto] sz) [tc_X6 o0 a0 (tm_sb G) dw ttk tmo tsu tlv tsi tga tsl tsc tfh tlh tfo tee tlk trf pd o1 ed o2 tpu tto]) (va_A [tc_X6 o0 a0 (tm_sb G) dw ttk tmo tsu tlv tsi tga tsl tsc tfh tlh tfo tee tlk trf pd o1 ed o2 tpu tto] sz)) 0 0 (va_A [tc_X6 o0 a0 (tm_sb G) dw ttk tmo tsu tlv tsi tga tsl tsc tfh tlh tfo tee tlk trf pd o1 ed o2 tpu tto] sz) := by
  refine Met.ofW (cc := cX6_spring) (maxL := 4) (ret := (some .int)) (by decide) rfl ?_
  intro p e s m args below meth c s₁ B hml hv
  obtain ⟨rfl, hsz, hP, hK, hD0, hN, hV⟩ := hv
  have hx := B.exec
  have hb := B.bytes
  have hr := B.returns
  have hts := atoms_spec (ws := wsX6_spring) B.pre
  have hown : s.vm.findClass RX6 = some m.cls := findClass_of_methodNamed B.named
  have hlocks := B.notSynchronized
  subst hsz
  have hD := hD0.self (sz := s.heap.size)
  generalize hAe : va_A [tc_X6 o0 a0 (tm_sb G) dw ttk tmo tsu tlv tsi tga tsl tsc tfh tlh tfo tee tlk trf pd o1 ed o2 tpu tto] s.heap.size = A at hD hV ⊢
  have hA : ∀ q : Nat, s.heap.size ≤ q → A q := fun q h => by rw [← hAe]; exact Or.inr h
  have hS : va_S A s.heap s.heap [] := va_S.rf
  have hl := lv_entry ([.ref o0, .int p1]) (n := 4) (Nat.le_of_ble_eq_true rfl)
  rw [lg_entry_eq]
  generalize (lg_sl ([.ref o0, .int p1]) ++ List.replicate (4 - (lg_sl ([.ref o0, .int p1])).length) Slot.unset).toArray = ls at hl ⊢
  have hl : lv_has ls 4 [(0, .ref o0), (1, .int p1)] := hl
  refine lv_aload_n hx hb dX6_spring_0 rfl (lv_at hl 0 rfl) ?_
  refine lv_iload_n hx hb dX6_spring_1 rfl (lv_at hl 1 rfl) ?_
  have hPc := hP.sub (ws' := [tc_X6 o0 a0 (tm_sb G) dw ttk tmo tsu tlv tsi tga tsl tsc tfh tlh tfo tee tlk trf pd o1 ed o2 tpu tto]) [0] rfl
  have hDc := hD.sub (ws' := [tc_X6 o0 a0 (tm_sb G) dw ttk tmo tsu tlv tsi tga tsl tsc tfh tlh tfo tee tlk trf pd o1 ed o2 tpu tto]) [0] (by decide) rfl
  have hFc := va_free (wc := [tc_X6 o0 a0 (tm_sb G) dw ttk tmo tsu tlv tsi tga tsl tsc tfh tlh tfo tee tlk trf pd o1 ed o2 tpu tto]) hD hS hA [0] rfl
  refine va_calli (va_runV (As := [.int p1]) (rest := []) ⟨hx, hb, hml, hown, hts⟩ (c_X6_age l G o0 a0 pd o1 ed o2 s.heap.size dw ttk tmo tsu tlv tsi tga tsl tsc tfh tlh tfo tee tlk trf tpu tto p1 ) (cwV 1 hts gX6_spring_X6_age rfl rfl rfl (by decide +kernel) ⟨(Nat.le_of_ble_eq_true rfl), (Nat.le_of_ble_eq_true rfl)⟩) (tm_preV hK hN hV hS hPc hDc hFc (va_recv hK hPc (ci := 6) (q0 := 0) rfl rfl)) rfl rfl hl.1 rfl (lv_room (Nat.le_of_ble_eq_true rfl)) dX6_spring_2 ⟨(Nat.le_of_ble_eq_true rfl), (Nat.le_of_ble_eq_true rfl)⟩) hS (fun q _ h => hFc q h) hFc (fun r_1 u t H locs ht hvm hw_1 hB hz1 hk1 hS => ?_)
  obtain ⟨hP1, hD1⟩ := hB
  rw [ht] at hP1
  try dsimp only at hw_1
  obtain ⟨hP, hD⟩ := va_join (wr := []) (w1 := [tc_X6 o0 a0 (tm_sb G) dw ttk tmo tsu tlv tsi tga tsl tsc tfh tlh tfo tee tlk trf pd o1 ed o2 tpu tto]) hP hD [0] [] rfl rfl (by decide) (by decide) hk1 hFc hP1 hD1
  have hP : va_P G.1 vwCl [tc_X6 o0 a0 (tm_sb G) dw ttk tmo tsu tlv tsi tga tsl tsc tfh tlh tfo tee tlk trf pd o1 ed o2 tpu tto] H := hP
  have hD : va_D A [tc_X6 o0 a0 (tm_sb G) dw ttk tmo tsu tlv tsi tga tsl tsc tfh tlh tfo tee tlk trf pd o1 ed o2 tpu tto] := hD
  subst r_1
  refine lv_istore_n (lv' := [(2, .int (f_X6_age tmo p1)), (0, .ref o0), (1, .int p1)]) hx hb dX6_spring_5 rfl hl (by decide) rfl (fun ls hl => ?_)
  refine lv_iload_n hx hb dX6_spring_6 rfl (lv_at hl 0 rfl) ?_
  refine lv_bipush (v := 15) hx hb dX6_spring_7 (by decide) ?_
  refine lv_icmp_le (tgt := 19) hx hb dX6_spring_9 (by decide) (fun c_2 => ?_) (fun c_2 => ?_)
  · refine lv_bipush (v := 15) hx hb dX6_spring_19 (by decide) ?_
    refine lv_iload_n hx hb dX6_spring_21 rfl (lv_at hl 0 rfl) ?_
    refine lv_isub hx hb dX6_spring_22 ?_
    refine lv_istore_n (lv' := [(3, .int (15 - (f_X6_age tmo p1))), (2, .int (f_X6_age tmo p1)), (0, .ref o0), (1, .int p1)]) hx hb dX6_spring_23 rfl hl (by decide) rfl (fun ls hl => ?_)
    refine lv_iload_n hx hb dX6_spring_24 rfl (lv_at hl 0 rfl) ?_
    refine lv_bipush (v := 8) hx hb dX6_spring_25 (by decide) ?_
    refine lv_icmp_ge (tgt := 34) hx hb dX6_spring_27 (by decide) (fun c_3 => ?_) (fun c_3 => ?_)
    · refine lv_iload_n hx hb dX6_spring_34 rfl (lv_at hl 1 rfl) ?_
      refine lv_bipush (v := 15) hx hb dX6_spring_35 (by decide) ?_
      refine lv_icmp_ge (tgt := 44) hx hb dX6_spring_37 (by decide) (fun c_4 => ?_) (fun c_4 => ?_)
      · refine lv_bipush (v := 30) hx hb dX6_spring_44 (by decide) ?_
        refine lv_iload_n hx hb dX6_spring_46 rfl (lv_at hl 1 rfl) ?_
        refine lv_isub hx hb dX6_spring_47 ?_
        have hP9 := hP.sub (ws' := [tc_X6 o0 a0 (tm_sb G) dw ttk tmo tsu tlv tsi tga tsl tsc tfh tlh tfo tee tlk trf pd o1 ed o2 tpu tto]) [0] rfl
        have hD9 := hD.sub (ws' := [tc_X6 o0 a0 (tm_sb G) dw ttk tmo tsu tlv tsi tga tsl tsc tfh tlh tfo tee tlk trf pd o1 ed o2 tpu tto]) [0] (by decide) rfl
        exact W.iret (v := 30 - (f_X6_age tmo p1)) hx hb hr (fun t ht hW => ⟨⟨30 - (f_X6_age tmo p1), (), rfl, by unfold f_X6_spring; all_goals (rw [if_pos c_2]); all_goals (rw [if_pos c_3]); all_goals (rw [if_pos c_4]); all_goals rfl, by rw [ht]; exact hP9, hD9⟩, hS.F ht⟩) hS.2.2 dX6_spring_48
      · refine lv_iload_n hx hb dX6_spring_40 rfl (lv_at hl 1 rfl) ?_
        refine lv_goto (tgt := 48) hx hb dX6_spring_41 (by decide) ?_
        have hP9 := hP.sub (ws' := [tc_X6 o0 a0 (tm_sb G) dw ttk tmo tsu tlv tsi tga tsl tsc tfh tlh tfo tee tlk trf pd o1 ed o2 tpu tto]) [0] rfl
        have hD9 := hD.sub (ws' := [tc_X6 o0 a0 (tm_sb G) dw ttk tmo tsu tlv tsi tga tsl tsc tfh tlh tfo tee tlk trf pd o1 ed o2 tpu tto]) [0] (by decide) rfl
        exact W.iret (v := f_X6_age tmo p1) hx hb hr (fun t ht hW => ⟨⟨f_X6_age tmo p1, (), rfl, by unfold f_X6_spring; all_goals (rw [if_pos c_2]); all_goals (rw [if_pos c_3]); all_goals (rw [if_neg c_4]); all_goals rfl, by rw [ht]; exact hP9, hD9⟩, hS.F ht⟩) hS.2.2 dX6_spring_48
    · refine lv_iload_n hx hb dX6_spring_30 rfl (lv_at hl 0 rfl) ?_
      refine lv_goto (tgt := 48) hx hb dX6_spring_31 (by decide) ?_
      have hP9 := hP.sub (ws' := [tc_X6 o0 a0 (tm_sb G) dw ttk tmo tsu tlv tsi tga tsl tsc tfh tlh tfo tee tlk trf pd o1 ed o2 tpu tto]) [0] rfl
      have hD9 := hD.sub (ws' := [tc_X6 o0 a0 (tm_sb G) dw ttk tmo tsu tlv tsi tga tsl tsc tfh tlh tfo tee tlk trf pd o1 ed o2 tpu tto]) [0] (by decide) rfl
      exact W.iret (v := 15 - (f_X6_age tmo p1)) hx hb hr (fun t ht hW => ⟨⟨15 - (f_X6_age tmo p1), (), rfl, by unfold f_X6_spring; all_goals (rw [if_pos c_2]); all_goals (rw [if_neg c_3]); all_goals rfl, by rw [ht]; exact hP9, hD9⟩, hS.F ht⟩) hS.2.2 dX6_spring_48
  · refine lv_iload_n hx hb dX6_spring_12 rfl (lv_at hl 0 rfl) ?_
    refine lv_bipush (v := 15) hx hb dX6_spring_13 (by decide) ?_
    refine lv_isub hx hb dX6_spring_15 ?_
    refine lv_goto (tgt := 23) hx hb dX6_spring_16 (by decide) ?_
    refine lv_istore_n (lv' := [(3, .int ((f_X6_age tmo p1) - 15)), (2, .int (f_X6_age tmo p1)), (0, .ref o0), (1, .int p1)]) hx hb dX6_spring_23 rfl hl (by decide) rfl (fun ls hl => ?_)
    refine lv_iload_n hx hb dX6_spring_24 rfl (lv_at hl 0 rfl) ?_
    refine lv_bipush (v := 8) hx hb dX6_spring_25 (by decide) ?_
    refine lv_icmp_ge (tgt := 34) hx hb dX6_spring_27 (by decide) (fun c_5 => ?_) (fun c_5 => ?_)
    · refine lv_iload_n hx hb dX6_spring_34 rfl (lv_at hl 1 rfl) ?_
      refine lv_bipush (v := 15) hx hb dX6_spring_35 (by decide) ?_
      refine lv_icmp_ge (tgt := 44) hx hb dX6_spring_37 (by decide) (fun c_6 => ?_) (fun c_6 => ?_)
      · refine lv_bipush (v := 30) hx hb dX6_spring_44 (by decide) ?_
        refine lv_iload_n hx hb dX6_spring_46 rfl (lv_at hl 1 rfl) ?_
        refine lv_isub hx hb dX6_spring_47 ?_
        have hP9 := hP.sub (ws' := [tc_X6 o0 a0 (tm_sb G) dw ttk tmo tsu tlv tsi tga tsl tsc tfh tlh tfo tee tlk trf pd o1 ed o2 tpu tto]) [0] rfl
        have hD9 := hD.sub (ws' := [tc_X6 o0 a0 (tm_sb G) dw ttk tmo tsu tlv tsi tga tsl tsc tfh tlh tfo tee tlk trf pd o1 ed o2 tpu tto]) [0] (by decide) rfl
        exact W.iret (v := 30 - (f_X6_age tmo p1)) hx hb hr (fun t ht hW => ⟨⟨30 - (f_X6_age tmo p1), (), rfl, by unfold f_X6_spring; all_goals (rw [if_neg c_2]); all_goals (rw [if_pos c_5]); all_goals (rw [if_pos c_6]); all_goals rfl, by rw [ht]; exact hP9, hD9⟩, hS.F ht⟩) hS.2.2 dX6_spring_48
      · refine lv_iload_n hx hb dX6_spring_40 rfl (lv_at hl 1 rfl) ?_
        refine lv_goto (tgt := 48) hx hb dX6_spring_41 (by decide) ?_
        have hP9 := hP.sub (ws' := [tc_X6 o0 a0 (tm_sb G) dw ttk tmo tsu tlv tsi tga tsl tsc tfh tlh tfo tee tlk trf pd o1 ed o2 tpu tto]) [0] rfl
        have hD9 := hD.sub (ws' := [tc_X6 o0 a0 (tm_sb G) dw ttk tmo tsu tlv tsi tga tsl tsc tfh tlh tfo tee tlk trf pd o1 ed o2 tpu tto]) [0] (by decide) rfl
        exact W.iret (v := f_X6_age tmo p1) hx hb hr (fun t ht hW => ⟨⟨f_X6_age tmo p1, (), rfl, by unfold f_X6_spring; all_goals (rw [if_neg c_2]); all_goals (rw [if_pos c_5]); all_goals (rw [if_neg c_6]); all_goals rfl, by rw [ht]; exact hP9, hD9⟩, hS.F ht⟩) hS.2.2 dX6_spring_48
    · refine lv_iload_n hx hb dX6_spring_30 rfl (lv_at hl 0 rfl) ?_
      refine lv_goto (tgt := 48) hx hb dX6_spring_31 (by decide) ?_
      have hP9 := hP.sub (ws' := [tc_X6 o0 a0 (tm_sb G) dw ttk tmo tsu tlv tsi tga tsl tsc tfh tlh tfo tee tlk trf pd o1 ed o2 tpu tto]) [0] rfl
      have hD9 := hD.sub (ws' := [tc_X6 o0 a0 (tm_sb G) dw ttk tmo tsu tlv tsi tga tsl tsc tfh tlh tfo tee tlk trf pd o1 ed o2 tpu tto]) [0] (by decide) rfl
      exact W.iret (v := (f_X6_age tmo p1) - 15) hx hb hr (fun t ht hW => ⟨⟨(f_X6_age tmo p1) - 15, (), rfl, by unfold f_X6_spring; all_goals (rw [if_neg c_2]); all_goals (rw [if_neg c_5]); all_goals rfl, by rw [ht]; exact hP9, hD9⟩, hS.F ht⟩) hS.2.2 dX6_spring_48
set_option maxHeartbeats 4000000 in
set_option maxRecDepth 100000 in
theorem c_X6_sea (l : Launch) (G : tm_G) (o0 : Nat) (a0 : Nat) (pd : Nat) (o1 : Nat) (ed : Nat) (o2 : Nat) (sz : Nat) (dw : Int32) (ttk : Int32) (tmo : Int32) (tsu : UInt64) (tlv : UInt64) (tsi : UInt32) (tga : Int32) (tsl : Int32) (tsc : Int32) (tfh : Int32) (tlh : Int32) (tfo : UInt64) (tee : Int32) (tlk : Int32) (trf : Int32) (tpu : Int32) (tto : UInt64) (p1 : Int32) (hn : n_X6_sea tmo tsu p1) : Met l yX6_sea wsX6_sea ({ frames := 2, cells := 0, slots := 0, locals := 44 }) (va_Pc [.ref o0, .int p1] (tm_B G [tc_X6 o0 a0 (tm_sb G) dw ttk tmo tsu tlv tsi tga tsl tsc tfh tlh tfo tee tlk trf pd o1 ed o2 tpu tto] sz)) (va_Qd (fun (r : UInt64) (u : Unit) => r = f_X6_sea tmo tsu p1) (fun (u : Unit) (t : State) => va_P G.1 vwCl [tc_X6 o0 a0 (tm_sb G) dw ttk tmo tsu tlv tsi tga tsl tsc tfh tlh tfo tee tlk trf pd o1 ed o2 tpu tto] t.heap ∧ va_D (va_A [tc_X6 o0 a0 (tm_sb G) dw ttk tmo tsu tlv tsi tga tsl tsc tfh tlh tfo tee tlk trf pd o1 ed o2 tpu tto] sz) [tc_X6 o0 a0 (tm_sb G) dw ttk tmo tsu tlv tsi tga tsl tsc tfh tlh tfo tee tlk trf pd o1 ed o2 tpu tto]) (va_A [tc_X6 o0 a0 (tm_sb G) dw ttk tmo tsu tlv tsi tga tsl tsc tfh tlh tfo tee tlk trf pd o1 ed o2 tpu tto] sz)) 0 0 (va_A [tc_X6 o0 a0 (tm_sb G) dw ttk tmo tsu tlv tsi tga tsl tsc tfh tlh tfo tee tlk trf pd o1 ed o2 tpu tto] sz) := by
  refine Met.ofW (cc := cX6_sea) (maxL := 10) (ret := (some .double)) (by decide) rfl ?_
  intro p e s m args below meth c s₁ B hml hv
  obtain ⟨rfl, hsz, hP, hK, hD0, hN, hV⟩ := hv
  have hx := B.exec
  have hb := B.bytes
  have hr := B.returns
  have hts := atoms_spec (ws := wsX6_sea) B.pre
  have hown : s.vm.findClass RX6 = some m.cls := findClass_of_methodNamed B.named
  have hlocks := B.notSynchronized
  subst hsz
  obtain ⟨n_2, n_3, n_7, n_9, n_10, n_12, n_13, n_14, n_15, n_16, n_17, n_18, n_19, n_20⟩ := hn
  have hiX6 : ∀ w ∈ u_ws RX6 TX6 23, w ∈ wsX6_sea := fun _ h => List.mem_cons_of_mem _ (List.mem_append_right _ h)
  have hD := hD0.self (sz := s.heap.size)
  generalize hAe : va_A [tc_X6 o0 a0 (tm_sb G) dw ttk tmo tsu tlv tsi tga tsl tsc tfh tlh tfo tee tlk trf pd o1 ed o2 tpu tto] s.heap.size = A at hD hV ⊢
  have hA : ∀ q : Nat, s.heap.size ≤ q → A q := fun q h => by rw [← hAe]; exact Or.inr h
  have hS : va_S A s.heap s.heap [] := va_S.rf
  have hl := lv_entry ([.ref o0, .int p1]) (n := 10) (Nat.le_of_ble_eq_true rfl)
  rw [lg_entry_eq]
  generalize (lg_sl ([.ref o0, .int p1]) ++ List.replicate (10 - (lg_sl ([.ref o0, .int p1])).length) Slot.unset).toArray = ls at hl ⊢
  have hl : lv_has ls 10 [(0, .ref o0), (1, .int p1)] := hl
  refine lv_ldc2d hx hb hown (hts (.constantDouble RX6 66 (4616189618054758400)) (List.mem_of_getElem? (i := 1) rfl)) dX6_sea_0 ?_
  refine lv_ldc2d hx hb hown (hts (.constantDouble RX6 68 (4598175219545276416)) (List.mem_of_getElem? (i := 2) rfl)) dX6_sea_3 ?_
  refine lv_aload_n hx hb dX6_sea_6 rfl (lv_at hl 0 rfl) ?_
  refine lv_iload_n hx hb dX6_sea_7 rfl (lv_at hl 1 rfl) ?_
  have hPc := hP.sub (ws' := [tc_X6 o0 a0 (tm_sb G) dw ttk tmo tsu tlv tsi tga tsl tsc tfh tlh tfo tee tlk trf pd o1 ed o2 tpu tto]) [0] rfl
  have hDc := hD.sub (ws' := [tc_X6 o0 a0 (tm_sb G) dw ttk tmo tsu tlv tsi tga tsl tsc tfh tlh tfo tee tlk trf pd o1 ed o2 tpu tto]) [0] (by decide) rfl
  have hFc := va_free (wc := [tc_X6 o0 a0 (tm_sb G) dw ttk tmo tsu tlv tsi tga tsl tsc tfh tlh tfo tee tlk trf pd o1 ed o2 tpu tto]) hD hS hA [0] rfl
  refine va_calli (va_runV (As := [.int p1]) (rest := [.double 4598175219545276416, .double 4616189618054758400]) ⟨hx, hb, hml, hown, hts⟩ (c_X6_spring l G o0 a0 pd o1 ed o2 s.heap.size dw ttk tmo tsu tlv tsi tga tsl tsc tfh tlh tfo tee tlk trf tpu tto p1 ) (cwV 1 hts gX6_sea_X6_spring rfl rfl rfl (by decide +kernel) ⟨(Nat.le_of_ble_eq_true rfl), (Nat.le_of_ble_eq_true rfl)⟩) (tm_preV hK hN hV hS hPc hDc hFc (va_recv hK hPc (ci := 6) (q0 := 0) rfl rfl)) rfl rfl hl.1 rfl (lv_room (Nat.le_of_ble_eq_true rfl)) dX6_sea_8 ⟨(Nat.le_of_ble_eq_true rfl), (Nat.le_of_ble_eq_true rfl)⟩) hS (fun q _ h => hFc q h) hFc (fun r_1 u t H locs ht hvm hw_1 hB hz1 hk1 hS => ?_)
  obtain ⟨hP1, hD1⟩ := hB
  rw [ht] at hP1
  try dsimp only at hw_1
  obtain ⟨hP, hD⟩ := va_join (wr := []) (w1 := [tc_X6 o0 a0 (tm_sb G) dw ttk tmo tsu tlv tsi tga tsl tsc tfh tlh tfo tee tlk trf pd o1 ed o2 tpu tto]) hP hD [0] [] rfl rfl (by decide) (by decide) hk1 hFc hP1 hD1
  have hP : va_P G.1 vwCl [tc_X6 o0 a0 (tm_sb G) dw ttk tmo tsu tlv tsi tga tsl tsc tfh tlh tfo tee tlk trf pd o1 ed o2 tpu tto] H := hP
  have hD : va_D A [tc_X6 o0 a0 (tm_sb G) dw ttk tmo tsu tlv tsi tga tsl tsc tfh tlh tfo tee tlk trf pd o1 ed o2 tpu tto] := hD
  subst r_1
  refine lv_i2d hx hb dX6_sea_11 ?_
  refine lv_dmul hx hb dX6_sea_12 n_2 ?_
  refine lv_dsub hx hb dX6_sea_13 n_3 ?_
  refine lv_dstore_n (lv' := [(2, .double (FP.dsub 4616189618054758400 (FP.dmul 4598175219545276416 (FP.i2d (f_X6_spring tmo p1))))), (0, .ref o0), (1, .int p1)]) hx hb dX6_sea_14 rfl hl (by decide) rfl (fun ls hl => ?_)
  refine lv_iload_n hx hb dX6_sea_15 rfl (lv_at hl 2 rfl) ?_
  refine lv_i2d hx hb dX6_sea_16 ?_
  refine lv_dstore (lv' := [(4, .double (FP.i2d p1)), (2, .double (FP.dsub 4616189618054758400 (FP.dmul 4598175219545276416 (FP.i2d (f_X6_spring tmo p1))))), (0, .ref o0), (1, .int p1)]) hx hb dX6_sea_17 hl (by decide) rfl (fun ls hl => ?_)
  have L_19 : ∀ (fuel : Nat) (x19_0 : UInt64), n_X6_sea_19 fuel x19_0 → ∀ (H : Heap) (locs : List Loc), va_P G.1 vwCl [tc_X6 o0 a0 (tm_sb G) dw ttk tmo tsu tlv tsi tga tsl tsc tfh tlh tfo tee tlk trf pd o1 ed o2 tpu tto] H → va_D A [tc_X6 o0 a0 (tm_sb G) dw ttk tmo tsu tlv tsi tga tsl tsc tfh tlh tfo tee tlk trf pd o1 ed o2 tpu tto] → va_S A s.heap H locs → ∀ ls : Array Slot, lv_has ls 10 [(4, .double x19_0), (2, .double (FP.dsub 4616189618054758400 (FP.dmul 4598175219545276416 (FP.i2d (f_X6_spring tmo p1))))), (0, .ref o0), (1, .int p1)] → (∀ (x19e_8 : UInt64), ∀ (H : Heap) (locs : List Loc), va_P G.1 vwCl [tc_X6 o0 a0 (tm_sb G) dw ttk tmo tsu tlv tsi tga tsl tsc tfh tlh tfo tee tlk trf pd o1 ed o2 tpu tto] H → va_D A [tc_X6 o0 a0 (tm_sb G) dw ttk tmo tsu tlv tsi tga tsl tsc tfh tlh tfo tee tlk trf pd o1 ed o2 tpu tto] → va_S A s.heap H locs → ∀ ls : Array Slot, lv_has ls 10 [(4, .double x19e_8), (2, .double (FP.dsub 4616189618054758400 (FP.dmul 4598175219545276416 (FP.i2d (f_X6_spring tmo p1))))), (0, .ref o0), (1, .int p1)] → x19e_8 = f_X6_sea_19 fuel x19_0 → W p l e (headSpec wsX6_sea ({ frames := 2, cells := 0, slots := 0, locals := 44 } : Room)).room s m ([.ref o0, .int p1] : List Value).toArray below meth c H locs 0 0 (MQ below (va_Qd (fun (r : UInt64) (u : Unit) => r = f_X6_sea tmo tsu p1) (fun (u : Unit) (t : State) => va_P G.1 vwCl [tc_X6 o0 a0 (tm_sb G) dw ttk tmo tsu tlv tsi tga tsl tsc tfh tlh tfo tee tlk trf pd o1 ed o2 tpu tto] t.heap ∧ va_D A [tc_X6 o0 a0 (tm_sb G) dw ttk tmo tsu tlv tsi tga tsl tsc tfh tlh tfo tee tlk trf pd o1 ed o2 tpu tto]) A) ([.ref o0, .int p1] : List Value).toArray s 0 0 A) (F0 m 39 ls [])) → W p l e (headSpec wsX6_sea ({ frames := 2, cells := 0, slots := 0, locals := 44 } : Room)).room s m ([.ref o0, .int p1] : List Value).toArray below meth c H locs 0 0 (MQ below (va_Qd (fun (r : UInt64) (u : Unit) => r = f_X6_sea tmo tsu p1) (fun (u : Unit) (t : State) => va_P G.1 vwCl [tc_X6 o0 a0 (tm_sb G) dw ttk tmo tsu tlv tsi tga tsl tsc tfh tlh tfo tee tlk trf pd o1 ed o2 tpu tto] t.heap ∧ va_D A [tc_X6 o0 a0 (tm_sb G) dw ttk tmo tsu tlv tsi tga tsl tsc tfh tlh tfo tee tlk trf pd o1 ed o2 tpu tto]) A) ([.ref o0, .int p1] : List Value).toArray s 0 0 A) (F0 m 19 ls []) := by
    intro fuel
    induction fuel with
    | zero =>
      intro x19_0 hnl; exact absurd hnl (by simp [n_X6_sea_19])
    | succ fuel ih =>
      intro x19_0 hnl H locs hP hD hS ls hl kk
      rw [n_X6_sea_19] at hnl
      obtain ⟨n_5, n_6⟩ := hnl
      refine lv_dload hx hb dX6_sea_19 (lv_at hl 0 rfl) ?_
      refine lv_ldc2d hx hb hown (hts (.constantDouble RX6 73 (4627659723355717632)) (List.mem_of_getElem? (i := 3) rfl)) dX6_sea_21 ?_
      refine lv_dcmp hx hb dX6_sea_24 ?_
      refine lv_if_lt (tgt := 39) hx hb dX6_sea_25 (by decide) (fun c_4 => ?_) (fun c_4 => ?_)
      · have hP9 := hP.sub (ws' := [tc_X6 o0 a0 (tm_sb G) dw ttk tmo tsu tlv tsi tga tsl tsc tfh tlh tfo tee tlk trf pd o1 ed o2 tpu tto]) [0] rfl
        have hD9 := hD.sub (ws' := [tc_X6 o0 a0 (tm_sb G) dw ttk tmo tsu tlv tsi tga tsl tsc tfh tlh tfo tee tlk trf pd o1 ed o2 tpu tto]) [0] (by decide) rfl
        exact kk x19_0 _ _ hP9 hD9 hS _ (lv_sub hl [0, 1, 2, 3] rfl) (by rw [f_X6_sea_19]; all_goals (rw [if_pos c_4]); all_goals rfl)
      · refine lv_dload hx hb dX6_sea_28 (lv_at hl 0 rfl) ?_
        refine lv_ldc2d hx hb hown (hts (.constantDouble RX6 73 (4627659723355717632)) (List.mem_of_getElem? (i := 3) rfl)) dX6_sea_30 ?_
        refine lv_dsub hx hb dX6_sea_33 (n_5 c_4) ?_
        refine lv_dstore (lv' := [(4, .double (FP.dsub x19_0 4627659723355717632)), (2, .double (FP.dsub 4616189618054758400 (FP.dmul 4598175219545276416 (FP.i2d (f_X6_spring tmo p1))))), (0, .ref o0), (1, .int p1)]) hx hb dX6_sea_34 hl (by decide) rfl (fun ls hl => ?_)
        refine lv_goto (tgt := 19) hx hb dX6_sea_36 (by decide) ?_
        have hP9 := hP.sub (ws' := [tc_X6 o0 a0 (tm_sb G) dw ttk tmo tsu tlv tsi tga tsl tsc tfh tlh tfo tee tlk trf pd o1 ed o2 tpu tto]) [0] rfl
        have hD9 := hD.sub (ws' := [tc_X6 o0 a0 (tm_sb G) dw ttk tmo tsu tlv tsi tga tsl tsc tfh tlh tfo tee tlk trf pd o1 ed o2 tpu tto]) [0] (by decide) rfl
        exact ih (FP.dsub x19_0 4627659723355717632) (n_6 c_4) _ _ hP9 hD9 hS _ (lv_sub hl [0, 1, 2, 3] rfl) (fun x19e_8 H locs hP hD hS ls hl hw => kk x19e_8 H locs hP hD hS ls hl (hw.trans (by symm; rw [f_X6_sea_19]; all_goals (rw [if_neg c_4]); all_goals rfl)))
  have hP9 := hP.sub (ws' := [tc_X6 o0 a0 (tm_sb G) dw ttk tmo tsu tlv tsi tga tsl tsc tfh tlh tfo tee tlk trf pd o1 ed o2 tpu tto]) [0] rfl
  have hD9 := hD.sub (ws' := [tc_X6 o0 a0 (tm_sb G) dw ttk tmo tsu tlv tsi tga tsl tsc tfh tlh tfo tee tlk trf pd o1 ed o2 tpu tto]) [0] (by decide) rfl
  refine L_19 400 (FP.i2d p1) n_7 _ _ hP9 hD9 hS _ (lv_sub hl [0, 1, 2, 3] rfl) (fun x19e_8 H locs hP hD hS ls hl hw_8 => ?_)
  refine lv_ldc2d hx hb hown (hts (.constantDouble RX6 73 (4627659723355717632)) (List.mem_of_getElem? (i := 3) rfl)) dX6_sea_39 ?_
  refine lv_dload hx hb dX6_sea_42 (lv_at hl 0 rfl) ?_
  refine lv_dsub hx hb dX6_sea_44 (n_9 x19e_8 hw_8) ?_
  refine lv_ldc2d hx hb hown (hts (.constantDouble RX6 75 (4623367229960880128)) (List.mem_of_getElem? (i := 4) rfl)) dX6_sea_45 ?_
  refine lv_ddiv hx hb dX6_sea_48 (n_10 x19e_8 hw_8) ?_
  refine lv_dstore (lv' := [(6, .double (FP.ddiv (FP.dsub 4627659723355717632 x19e_8) 4623367229960880128)), (4, .double x19e_8), (2, .double (FP.dsub 4616189618054758400 (FP.dmul 4598175219545276416 (FP.i2d (f_X6_spring tmo p1))))), (0, .ref o0), (1, .int p1)]) hx hb dX6_sea_49 hl (by decide) rfl (fun ls hl => ?_)
  refine lv_dload hx hb dX6_sea_51 (lv_at hl 1 rfl) ?_
  refine lv_ldc2d hx hb hown (hts (.constantDouble RX6 77 (4622945017495814144)) (List.mem_of_getElem? (i := 5) rfl)) dX6_sea_53 ?_
  refine lv_dcmp hx hb dX6_sea_56 ?_
  refine lv_if_ge (tgt := 68) hx hb dX6_sea_57 (by decide) (fun c_11 => ?_) (fun c_11 => ?_)
  · refine lv_aload_n hx hb dX6_sea_68 rfl (lv_at hl 3 rfl) ?_
    refine va_get (D := G.1) (ci := 6) (v := .double tsu) (C := RX6) (T := TX6) (N := 23) hx hb hts hiX6 hown hK hP 0 rfl rfl 5 (by decide) (hts (.fieldLink RX6 79 "TideMillLaw$Told" "surge" "D") (List.mem_of_getElem? (i := 6) rfl)) (fun _ h9 => h9) rfl dX6_sea_69 ?_
    refine lv_dload_n hx hb dX6_sea_72 rfl (lv_at hl 2 rfl) ?_
    refine lv_dload hx hb dX6_sea_73 (lv_at hl 0 rfl) ?_
    refine lv_dmul hx hb dX6_sea_75 (n_12 x19e_8 hw_8 c_11) ?_
    refine lv_dadd hx hb dX6_sea_76 (n_13 x19e_8 hw_8 c_11) ?_
    refine lv_dstore (lv' := [(8, .double (FP.dadd tsu (FP.dmul (FP.dsub 4616189618054758400 (FP.dmul 4598175219545276416 (FP.i2d (f_X6_spring tmo p1)))) (FP.ddiv (FP.dsub 4627659723355717632 x19e_8) 4623367229960880128)))), (6, .double (FP.ddiv (FP.dsub 4627659723355717632 x19e_8) 4623367229960880128)), (4, .double x19e_8), (2, .double (FP.dsub 4616189618054758400 (FP.dmul 4598175219545276416 (FP.i2d (f_X6_spring tmo p1))))), (0, .ref o0), (1, .int p1)]) hx hb dX6_sea_77 hl (by decide) rfl (fun ls hl => ?_)
    refine lv_dload hx hb dX6_sea_79 (lv_at hl 0 rfl) ?_
    refine lv_dload_n hx hb dX6_sea_81 rfl (lv_at hl 3 rfl) ?_
    refine lv_ldc2d hx hb hown (hts (.constantDouble RX6 83 (4602678819172646912)) (List.mem_of_getElem? (i := 7) rfl)) dX6_sea_82 ?_
    refine lv_dmul hx hb dX6_sea_85 (n_14 x19e_8 hw_8 c_11) ?_
    refine lv_dsub hx hb dX6_sea_86 (n_15 x19e_8 hw_8 c_11) ?_
    have hP9 := hP.sub (ws' := [tc_X6 o0 a0 (tm_sb G) dw ttk tmo tsu tlv tsi tga tsl tsc tfh tlh tfo tee tlk trf pd o1 ed o2 tpu tto]) [0] rfl
    have hD9 := hD.sub (ws' := [tc_X6 o0 a0 (tm_sb G) dw ttk tmo tsu tlv tsi tga tsl tsc tfh tlh tfo tee tlk trf pd o1 ed o2 tpu tto]) [0] (by decide) rfl
    exact W.dret (v := FP.dsub (FP.dadd tsu (FP.dmul (FP.dsub 4616189618054758400 (FP.dmul 4598175219545276416 (FP.i2d (f_X6_spring tmo p1)))) (FP.ddiv (FP.dsub 4627659723355717632 x19e_8) 4623367229960880128))) (FP.dmul (FP.dsub 4616189618054758400 (FP.dmul 4598175219545276416 (FP.i2d (f_X6_spring tmo p1)))) 4602678819172646912)) hx hb hr (fun t ht hW => ⟨⟨FP.dsub (FP.dadd tsu (FP.dmul (FP.dsub 4616189618054758400 (FP.dmul 4598175219545276416 (FP.i2d (f_X6_spring tmo p1)))) (FP.ddiv (FP.dsub 4627659723355717632 x19e_8) 4623367229960880128))) (FP.dmul (FP.dsub 4616189618054758400 (FP.dmul 4598175219545276416 (FP.i2d (f_X6_spring tmo p1)))) 4602678819172646912), (), rfl, by unfold f_X6_sea; all_goals (rw [← hw_8]); all_goals (dsimp only); all_goals (rw [if_pos c_11]); all_goals rfl, by rw [ht]; exact hP9, hD9⟩, hS.F ht⟩) hS.2.2 dX6_sea_87
  · refine lv_dload hx hb dX6_sea_60 (lv_at hl 1 rfl) ?_
    refine lv_ldc2d hx hb hown (hts (.constantDouble RX6 77 (4622945017495814144)) (List.mem_of_getElem? (i := 5) rfl)) dX6_sea_62 ?_
    refine lv_ddiv hx hb dX6_sea_65 (n_16 x19e_8 hw_8 c_11) ?_
    refine lv_dstore (lv' := [(6, .double (FP.ddiv x19e_8 4622945017495814144)), (4, .double x19e_8), (2, .double (FP.dsub 4616189618054758400 (FP.dmul 4598175219545276416 (FP.i2d (f_X6_spring tmo p1))))), (0, .ref o0), (1, .int p1)]) hx hb dX6_sea_66 hl (by decide) rfl (fun ls hl => ?_)
    refine lv_aload_n hx hb dX6_sea_68 rfl (lv_at hl 3 rfl) ?_
    refine va_get (D := G.1) (ci := 6) (v := .double tsu) (C := RX6) (T := TX6) (N := 23) hx hb hts hiX6 hown hK hP 0 rfl rfl 5 (by decide) (hts (.fieldLink RX6 79 "TideMillLaw$Told" "surge" "D") (List.mem_of_getElem? (i := 6) rfl)) (fun _ h9 => h9) rfl dX6_sea_69 ?_
    refine lv_dload_n hx hb dX6_sea_72 rfl (lv_at hl 2 rfl) ?_
    refine lv_dload hx hb dX6_sea_73 (lv_at hl 0 rfl) ?_
    refine lv_dmul hx hb dX6_sea_75 (n_17 x19e_8 hw_8 c_11) ?_
    refine lv_dadd hx hb dX6_sea_76 (n_18 x19e_8 hw_8 c_11) ?_
    refine lv_dstore (lv' := [(8, .double (FP.dadd tsu (FP.dmul (FP.dsub 4616189618054758400 (FP.dmul 4598175219545276416 (FP.i2d (f_X6_spring tmo p1)))) (FP.ddiv x19e_8 4622945017495814144)))), (6, .double (FP.ddiv x19e_8 4622945017495814144)), (4, .double x19e_8), (2, .double (FP.dsub 4616189618054758400 (FP.dmul 4598175219545276416 (FP.i2d (f_X6_spring tmo p1))))), (0, .ref o0), (1, .int p1)]) hx hb dX6_sea_77 hl (by decide) rfl (fun ls hl => ?_)
    refine lv_dload hx hb dX6_sea_79 (lv_at hl 0 rfl) ?_
    refine lv_dload_n hx hb dX6_sea_81 rfl (lv_at hl 3 rfl) ?_
    refine lv_ldc2d hx hb hown (hts (.constantDouble RX6 83 (4602678819172646912)) (List.mem_of_getElem? (i := 7) rfl)) dX6_sea_82 ?_
    refine lv_dmul hx hb dX6_sea_85 (n_19 x19e_8 hw_8 c_11) ?_
    refine lv_dsub hx hb dX6_sea_86 (n_20 x19e_8 hw_8 c_11) ?_
    have hP9 := hP.sub (ws' := [tc_X6 o0 a0 (tm_sb G) dw ttk tmo tsu tlv tsi tga tsl tsc tfh tlh tfo tee tlk trf pd o1 ed o2 tpu tto]) [0] rfl
    have hD9 := hD.sub (ws' := [tc_X6 o0 a0 (tm_sb G) dw ttk tmo tsu tlv tsi tga tsl tsc tfh tlh tfo tee tlk trf pd o1 ed o2 tpu tto]) [0] (by decide) rfl
    exact W.dret (v := FP.dsub (FP.dadd tsu (FP.dmul (FP.dsub 4616189618054758400 (FP.dmul 4598175219545276416 (FP.i2d (f_X6_spring tmo p1)))) (FP.ddiv x19e_8 4622945017495814144))) (FP.dmul (FP.dsub 4616189618054758400 (FP.dmul 4598175219545276416 (FP.i2d (f_X6_spring tmo p1)))) 4602678819172646912)) hx hb hr (fun t ht hW => ⟨⟨FP.dsub (FP.dadd tsu (FP.dmul (FP.dsub 4616189618054758400 (FP.dmul 4598175219545276416 (FP.i2d (f_X6_spring tmo p1)))) (FP.ddiv x19e_8 4622945017495814144))) (FP.dmul (FP.dsub 4616189618054758400 (FP.dmul 4598175219545276416 (FP.i2d (f_X6_spring tmo p1)))) 4602678819172646912), (), rfl, by unfold f_X6_sea; all_goals (rw [← hw_8]); all_goals (dsimp only); all_goals (rw [if_neg c_11]); all_goals rfl, by rw [ht]; exact hP9, hD9⟩, hS.F ht⟩) hS.2.2 dX6_sea_87
set_option maxHeartbeats 4000000 in
set_option maxRecDepth 100000 in
theorem c_X6_area (l : Launch) (G : tm_G) (o0 : Nat) (a0 : Nat) (pd : Nat) (o1 : Nat) (ed : Nat) (o2 : Nat) (sz : Nat) (dw : Int32) (ttk : Int32) (tmo : Int32) (tsu : UInt64) (tlv : UInt64) (tsi : UInt32) (tga : Int32) (tsl : Int32) (tsc : Int32) (tfh : Int32) (tlh : Int32) (tfo : UInt64) (tee : Int32) (tlk : Int32) (trf : Int32) (tpu : Int32) (tto : UInt64) (hn : n_X6_area tsi) : Met l yX6_area wsX6_area ({ frames := 0, cells := 0, slots := 0, locals := 0 }) (va_Pc [.ref o0] (tm_B G [tc_X6 o0 a0 (tm_sb G) dw ttk tmo tsu tlv tsi tga tsl tsc tfh tlh tfo tee tlk trf pd o1 ed o2 tpu tto] sz)) (va_Qd (fun (r : UInt64) (u : Unit) => r = f_X6_area tsi) (fun (u : Unit) (t : State) => va_P G.1 vwCl [tc_X6 o0 a0 (tm_sb G) dw ttk tmo tsu tlv tsi tga tsl tsc tfh tlh tfo tee tlk trf pd o1 ed o2 tpu tto] t.heap ∧ va_D (va_A [tc_X6 o0 a0 (tm_sb G) dw ttk tmo tsu tlv tsi tga tsl tsc tfh tlh tfo tee tlk trf pd o1 ed o2 tpu tto] sz) [tc_X6 o0 a0 (tm_sb G) dw ttk tmo tsu tlv tsi tga tsl tsc tfh tlh tfo tee tlk trf pd o1 ed o2 tpu tto]) (va_A [tc_X6 o0 a0 (tm_sb G) dw ttk tmo tsu tlv tsi tga tsl tsc tfh tlh tfo tee tlk trf pd o1 ed o2 tpu tto] sz)) 0 0 (va_A [tc_X6 o0 a0 (tm_sb G) dw ttk tmo tsu tlv tsi tga tsl tsc tfh tlh tfo tee tlk trf pd o1 ed o2 tpu tto] sz) := by
  refine Met.ofW (cc := cX6_area) (maxL := 1) (ret := (some .double)) (by decide) rfl ?_
  intro p e s m args below meth c s₁ B hml hv
  obtain ⟨rfl, hsz, hP, hK, hD0, hN, hV⟩ := hv
  have hx := B.exec
  have hb := B.bytes
  have hr := B.returns
  have hts := atoms_spec (ws := wsX6_area) B.pre
  have hown : s.vm.findClass RX6 = some m.cls := findClass_of_methodNamed B.named
  have hlocks := B.notSynchronized
  subst hsz
  obtain ⟨n_1, n_2⟩ := hn
  have hiX6 : ∀ w ∈ u_ws RX6 TX6 23, w ∈ wsX6_area := fun _ h => List.mem_cons_of_mem _ (List.mem_append_right _ h)
  have hD := hD0.self (sz := s.heap.size)
  generalize hAe : va_A [tc_X6 o0 a0 (tm_sb G) dw ttk tmo tsu tlv tsi tga tsl tsc tfh tlh tfo tee tlk trf pd o1 ed o2 tpu tto] s.heap.size = A at hD hV ⊢
  have hA : ∀ q : Nat, s.heap.size ≤ q → A q := fun q h => by rw [← hAe]; exact Or.inr h
  have hS : va_S A s.heap s.heap [] := va_S.rf
  have hl := lv_entry ([.ref o0]) (n := 1) (Nat.le_of_ble_eq_true rfl)
  rw [lg_entry_eq]
  generalize (lg_sl ([.ref o0]) ++ List.replicate (1 - (lg_sl ([.ref o0])).length) Slot.unset).toArray = ls at hl ⊢
  have hl : lv_has ls 1 [(0, .ref o0)] := hl
  refine lv_ldc2d hx hb hown (hts (.constantDouble RX6 85 (4620693217682128896)) (List.mem_of_getElem? (i := 1) rfl)) dX6_area_0 ?_
  refine lv_aload_n hx hb dX6_area_3 rfl (lv_at hl 0 rfl) ?_
  refine va_get (D := G.1) (ci := 6) (v := .float tsi) (C := RX6) (T := TX6) (N := 23) hx hb hts hiX6 hown hK hP 0 rfl rfl 7 (by decide) (hts (.fieldLink RX6 87 "TideMillLaw$Told" "silt" "F") (List.mem_of_getElem? (i := 2) rfl)) (fun _ h9 => h9) rfl dX6_area_4 ?_
  refine lv_f2d hx hb dX6_area_7 n_1 ?_
  refine lv_dsub hx hb dX6_area_8 n_2 ?_
  have hP9 := hP.sub (ws' := [tc_X6 o0 a0 (tm_sb G) dw ttk tmo tsu tlv tsi tga tsl tsc tfh tlh tfo tee tlk trf pd o1 ed o2 tpu tto]) [0] rfl
  have hD9 := hD.sub (ws' := [tc_X6 o0 a0 (tm_sb G) dw ttk tmo tsu tlv tsi tga tsl tsc tfh tlh tfo tee tlk trf pd o1 ed o2 tpu tto]) [0] (by decide) rfl
  exact W.dret (v := FP.dsub 4620693217682128896 (FP.f2d tsi)) hx hb hr (fun t ht hW => ⟨⟨FP.dsub 4620693217682128896 (FP.f2d tsi), (), rfl, by unfold f_X6_area; all_goals rfl, by rw [ht]; exact hP9, hD9⟩, hS.F ht⟩) hS.2.2 dX6_area_9
set_option maxHeartbeats 4000000 in
set_option maxRecDepth 100000 in
theorem c_X6_isAwake (l : Launch) (G : tm_G) (o0 : Nat) (a0 : Nat) (pd : Nat) (o1 : Nat) (ed : Nat) (o2 : Nat) (sz : Nat) (dw : Int32) (ttk : Int32) (tmo : Int32) (tsu : UInt64) (tlv : UInt64) (tsi : UInt32) (tga : Int32) (tsl : Int32) (tsc : Int32) (tfh : Int32) (tlh : Int32) (tfo : UInt64) (tee : Int32) (tlk : Int32) (trf : Int32) (tpu : Int32) (tto : UInt64) (hn : n_X6_isAwake ttk tfh tlh) : Met l yX6_isAwake wsX6_isAwake ({ frames := 0, cells := 0, slots := 0, locals := 0 }) (va_Pc [.ref o0] (tm_B G [tc_X6 o0 a0 (tm_sb G) dw ttk tmo tsu tlv tsi tga tsl tsc tfh tlh tfo tee tlk trf pd o1 ed o2 tpu tto] sz)) (va_Qi (fun (r : Int32) (u : Unit) => r = f_X6_isAwake ttk tfh tlh) (fun (u : Unit) (t : State) => va_P G.1 vwCl [tc_X6 o0 a0 (tm_sb G) dw ttk tmo tsu tlv tsi tga tsl tsc tfh tlh tfo tee tlk trf pd o1 ed o2 tpu tto] t.heap ∧ va_D (va_A [tc_X6 o0 a0 (tm_sb G) dw ttk tmo tsu tlv tsi tga tsl tsc tfh tlh tfo tee tlk trf pd o1 ed o2 tpu tto] sz) [tc_X6 o0 a0 (tm_sb G) dw ttk tmo tsu tlv tsi tga tsl tsc tfh tlh tfo tee tlk trf pd o1 ed o2 tpu tto]) (va_A [tc_X6 o0 a0 (tm_sb G) dw ttk tmo tsu tlv tsi tga tsl tsc tfh tlh tfo tee tlk trf pd o1 ed o2 tpu tto] sz)) 0 0 (va_A [tc_X6 o0 a0 (tm_sb G) dw ttk tmo tsu tlv tsi tga tsl tsc tfh tlh tfo tee tlk trf pd o1 ed o2 tpu tto] sz) := by
  refine Met.ofW (cc := cX6_isAwake) (maxL := 3) (ret := (some .boolean)) (by decide) rfl ?_
  intro p e s m args below meth c s₁ B hml hv
  obtain ⟨rfl, hsz, hP, hK, hD0, hN, hV⟩ := hv
  have hx := B.exec
  have hb := B.bytes
  have hr := B.returns
  have hts := atoms_spec (ws := wsX6_isAwake) B.pre
  have hown : s.vm.findClass RX6 = some m.cls := findClass_of_methodNamed B.named
  have hlocks := B.notSynchronized
  subst hsz
  have n_4 := hn
  unfold n_X6_isAwake at n_4
  have hiX6 : ∀ w ∈ u_ws RX6 TX6 23, w ∈ wsX6_isAwake := fun _ h => List.mem_cons_of_mem _ (List.mem_append_right _ h)
  have hD := hD0.self (sz := s.heap.size)
  generalize hAe : va_A [tc_X6 o0 a0 (tm_sb G) dw ttk tmo tsu tlv tsi tga tsl tsc tfh tlh tfo tee tlk trf pd o1 ed o2 tpu tto] s.heap.size = A at hD hV ⊢
  have hA : ∀ q : Nat, s.heap.size ≤ q → A q := fun q h => by rw [← hAe]; exact Or.inr h
  have hS : va_S A s.heap s.heap [] := va_S.rf
  have hl := lv_entry ([.ref o0]) (n := 3) (Nat.le_of_ble_eq_true rfl)
  rw [lg_entry_eq]
  generalize (lg_sl ([.ref o0]) ++ List.replicate (3 - (lg_sl ([.ref o0])).length) Slot.unset).toArray = ls at hl ⊢
  have hl : lv_has ls 3 [(0, .ref o0)] := hl
  refine lv_aload_n hx hb dX6_isAwake_0 rfl (lv_at hl 0 rfl) ?_
  refine va_get (D := G.1) (ci := 6) (v := .int ttk) (C := RX6) (T := TX6) (N := 23) hx hb hts hiX6 hown hK hP 0 rfl rfl 3 (by decide) (hts (.fieldLink RX6 91 "TideMillLaw$Told" "tick" "I") (List.mem_of_getElem? (i := 1) rfl)) (fun _ h9 => h9) rfl dX6_isAwake_1 ?_
  refine lv_bipush (v := 48) hx hb dX6_isAwake_4 (by decide) ?_
  refine lv_irem hx hb dX6_isAwake_6 (by decide) ?_
  refine lv_istore_n (lv' := [(1, .int (ttk - ttk / 48 * 48)), (0, .ref o0)]) hx hb dX6_isAwake_7 rfl hl (by decide) rfl (fun ls hl => ?_)
  refine lv_aload_n hx hb dX6_isAwake_8 rfl (lv_at hl 1 rfl) ?_
  refine va_get (D := G.1) (ci := 6) (v := .int tfh) (C := RX6) (T := TX6) (N := 23) hx hb hts hiX6 hown hK hP 0 rfl rfl 11 (by decide) (hts (.fieldLink RX6 94 "TideMillLaw$Told" "from" "I") (List.mem_of_getElem? (i := 2) rfl)) (fun _ h9 => h9) rfl dX6_isAwake_9 ?_
  refine lv_istore_n (lv' := [(2, .int tfh), (1, .int (ttk - ttk / 48 * 48)), (0, .ref o0)]) hx hb dX6_isAwake_12 rfl hl (by decide) rfl (fun ls hl => ?_)
  have L_13 : ∀ (fuel : Nat) (x13_0 : Int32), n_X6_isAwake_13 ttk tlh fuel x13_0 → f_X6_isAwake ttk tfh tlh = f_X6_isAwake_13 ttk tlh fuel x13_0 → ∀ (H : Heap) (locs : List Loc), va_P G.1 vwCl [tc_X6 o0 a0 (tm_sb G) dw ttk tmo tsu tlv tsi tga tsl tsc tfh tlh tfo tee tlk trf pd o1 ed o2 tpu tto] H → va_D A [tc_X6 o0 a0 (tm_sb G) dw ttk tmo tsu tlv tsi tga tsl tsc tfh tlh tfo tee tlk trf pd o1 ed o2 tpu tto] → va_S A s.heap H locs → ∀ ls : Array Slot, lv_has ls 3 [(2, .int x13_0), (1, .int (ttk - ttk / 48 * 48)), (0, .ref o0)] → W p l e (headSpec wsX6_isAwake ({ frames := 0, cells := 0, slots := 0, locals := 0 } : Room)).room s m ([.ref o0] : List Value).toArray below meth c H locs 0 0 (MQ below (va_Qi (fun (r : Int32) (u : Unit) => r = f_X6_isAwake ttk tfh tlh) (fun (u : Unit) (t : State) => va_P G.1 vwCl [tc_X6 o0 a0 (tm_sb G) dw ttk tmo tsu tlv tsi tga tsl tsc tfh tlh tfo tee tlk trf pd o1 ed o2 tpu tto] t.heap ∧ va_D A [tc_X6 o0 a0 (tm_sb G) dw ttk tmo tsu tlv tsi tga tsl tsc tfh tlh tfo tee tlk trf pd o1 ed o2 tpu tto]) A) ([.ref o0] : List Value).toArray s 0 0 A) (F0 m 13 ls []) := by
    intro fuel
    induction fuel with
    | zero =>
      intro x13_0 hnl; exact absurd hnl (by simp [n_X6_isAwake_13])
    | succ fuel ih =>
      intro x13_0 hnl hE H locs hP hD hS ls hl
      rw [n_X6_isAwake_13] at hnl
      have n_3 := hnl
      refine lv_iload_n hx hb dX6_isAwake_13 rfl (lv_at hl 0 rfl) ?_
      refine lv_iload_n hx hb dX6_isAwake_14 rfl (lv_at hl 1 rfl) ?_
      refine lv_icmp_ne (tgt := 20) hx hb dX6_isAwake_15 (by decide) (fun c_1 => ?_) (fun c_1 => ?_)
      · refine lv_iload_n hx hb dX6_isAwake_20 rfl (lv_at hl 0 rfl) ?_
        refine lv_aload_n hx hb dX6_isAwake_21 rfl (lv_at hl 2 rfl) ?_
        refine va_get (D := G.1) (ci := 6) (v := .int tlh) (C := RX6) (T := TX6) (N := 23) hx hb hts hiX6 hown hK hP 0 rfl rfl 12 (by decide) (hts (.fieldLink RX6 16 "TideMillLaw$Told" "to" "I") (List.mem_of_getElem? (i := 3) rfl)) (fun _ h9 => h9) rfl dX6_isAwake_22 ?_
        refine lv_icmp_ne (tgt := 30) hx hb dX6_isAwake_25 (by decide) (fun c_2 => ?_) (fun c_2 => ?_)
        · refine lv_iload_n hx hb dX6_isAwake_30 rfl (lv_at hl 0 rfl) ?_
          refine lv_iconst (v := 1) hx hb dX6_isAwake_31 (by decide) ?_
          refine lv_iadd hx hb dX6_isAwake_32 ?_
          refine lv_bipush (v := 48) hx hb dX6_isAwake_33 (by decide) ?_
          refine lv_irem hx hb dX6_isAwake_35 (by decide) ?_
          refine lv_istore_n (lv' := [(2, .int ((x13_0 + 1) - (x13_0 + 1) / 48 * 48)), (1, .int (ttk - ttk / 48 * 48)), (0, .ref o0)]) hx hb dX6_isAwake_36 rfl hl (by decide) rfl (fun ls hl => ?_)
          refine lv_goto (tgt := 13) hx hb dX6_isAwake_37 (by decide) ?_
          have hP9 := hP.sub (ws' := [tc_X6 o0 a0 (tm_sb G) dw ttk tmo tsu tlv tsi tga tsl tsc tfh tlh tfo tee tlk trf pd o1 ed o2 tpu tto]) [0] rfl
          have hD9 := hD.sub (ws' := [tc_X6 o0 a0 (tm_sb G) dw ttk tmo tsu tlv tsi tga tsl tsc tfh tlh tfo tee tlk trf pd o1 ed o2 tpu tto]) [0] (by decide) rfl
          exact ih ((x13_0 + 1) - (x13_0 + 1) / 48 * 48) (n_3 c_1 c_2) (by rw [hE, f_X6_isAwake_13]; all_goals (rw [if_neg c_1]); all_goals (rw [if_neg c_2]); all_goals rfl) _ _ hP9 hD9 hS _ (lv_sub hl [0, 1, 2] rfl)
        · refine lv_iconst (v := 0) hx hb dX6_isAwake_28 (by decide) ?_
          have hP9 := hP.sub (ws' := [tc_X6 o0 a0 (tm_sb G) dw ttk tmo tsu tlv tsi tga tsl tsc tfh tlh tfo tee tlk trf pd o1 ed o2 tpu tto]) [0] rfl
          have hD9 := hD.sub (ws' := [tc_X6 o0 a0 (tm_sb G) dw ttk tmo tsu tlv tsi tga tsl tsc tfh tlh tfo tee tlk trf pd o1 ed o2 tpu tto]) [0] (by decide) rfl
          exact W.zret (v := 0) hx hb hr rfl (fun t ht hW => ⟨⟨0, (), rfl, by rw [hE, f_X6_isAwake_13]; all_goals (rw [if_neg c_1]); all_goals (rw [if_pos c_2]); all_goals rfl, by rw [ht]; exact hP9, hD9⟩, hS.F ht⟩) hS.2.2 dX6_isAwake_29
      · refine lv_iconst (v := 1) hx hb dX6_isAwake_18 (by decide) ?_
        have hP9 := hP.sub (ws' := [tc_X6 o0 a0 (tm_sb G) dw ttk tmo tsu tlv tsi tga tsl tsc tfh tlh tfo tee tlk trf pd o1 ed o2 tpu tto]) [0] rfl
        have hD9 := hD.sub (ws' := [tc_X6 o0 a0 (tm_sb G) dw ttk tmo tsu tlv tsi tga tsl tsc tfh tlh tfo tee tlk trf pd o1 ed o2 tpu tto]) [0] (by decide) rfl
        exact W.zret (v := 1) hx hb hr rfl (fun t ht hW => ⟨⟨1, (), rfl, by rw [hE, f_X6_isAwake_13]; all_goals (rw [if_pos c_1]); all_goals rfl, by rw [ht]; exact hP9, hD9⟩, hS.F ht⟩) hS.2.2 dX6_isAwake_19
  have hP9 := hP.sub (ws' := [tc_X6 o0 a0 (tm_sb G) dw ttk tmo tsu tlv tsi tga tsl tsc tfh tlh tfo tee tlk trf pd o1 ed o2 tpu tto]) [0] rfl
  have hD9 := hD.sub (ws' := [tc_X6 o0 a0 (tm_sb G) dw ttk tmo tsu tlv tsi tga tsl tsc tfh tlh tfo tee tlk trf pd o1 ed o2 tpu tto]) [0] (by decide) rfl
  exact L_13 49 tfh n_4 (by unfold f_X6_isAwake; all_goals rfl) _ _ hP9 hD9 hS _ (lv_sub hl [0, 1, 2] rfl)
set_option maxHeartbeats 4000000 in
set_option maxRecDepth 100000 in
theorem c_X6_count (l : Launch) (G : tm_G) (o0 : Nat) (a0 : Nat) (pd : Nat) (o1 : Nat) (ed : Nat) (o2 : Nat) (sz : Nat) (dw : Int32) (ttk : Int32) (tmo : Int32) (tsu : UInt64) (tlv : UInt64) (tsi : UInt32) (tga : Int32) (tsl : Int32) (tsc : Int32) (tfh : Int32) (tlh : Int32) (tfo : UInt64) (tee : Int32) (tlk : Int32) (trf : Int32) (tpu : Int32) (tto : UInt64) (p1 : Int32) (np : Nat) (pa : Nat → Nat) (pr : Nat → Nat → Int32) (n : Nat) (ad : Nat → Nat) (rc : Nat → Nat → Int32) (Z : va_W) (hn : n_X6_count p1 n rc) : Met l yX6_count wsX6_count ({ frames := 0, cells := 0, slots := 0, locals := 0 }) (va_Pc [.ref o0, .int p1] (tm_B G ([tc_X6 o0 a0 (tm_sb G) dw ttk tmo tsu tlv tsi tga tsl tsc tfh tlh tfo tee tlk trf pd o1 ed o2 tpu tto] ++ (tl_L G pd np pa 3 pr ++ (tl_L G ed n ad 5 rc ++ Z))) sz)) (va_Qi (fun (r : Int32) (u : Unit) => r = f_X6_count p1 n rc) (fun (u : Unit) (t : State) => va_P G.1 vwCl ([tc_X6 o0 a0 (tm_sb G) dw ttk tmo tsu tlv tsi tga tsl tsc tfh tlh tfo tee tlk trf pd o1 ed o2 tpu tto] ++ (tl_L G pd np pa 3 pr ++ (tl_L G ed n ad 5 rc ++ Z))) t.heap ∧ va_D (va_A ([tc_X6 o0 a0 (tm_sb G) dw ttk tmo tsu tlv tsi tga tsl tsc tfh tlh tfo tee tlk trf pd o1 ed o2 tpu tto] ++ (tl_L G pd np pa 3 pr ++ (tl_L G ed n ad 5 rc ++ Z))) sz) ([tc_X6 o0 a0 (tm_sb G) dw ttk tmo tsu tlv tsi tga tsl tsc tfh tlh tfo tee tlk trf pd o1 ed o2 tpu tto] ++ (tl_L G pd np pa 3 pr ++ (tl_L G ed n ad 5 rc ++ Z)))) (va_A ([tc_X6 o0 a0 (tm_sb G) dw ttk tmo tsu tlv tsi tga tsl tsc tfh tlh tfo tee tlk trf pd o1 ed o2 tpu tto] ++ (tl_L G pd np pa 3 pr ++ (tl_L G ed n ad 5 rc ++ Z))) sz)) 0 0 (va_A ([tc_X6 o0 a0 (tm_sb G) dw ttk tmo tsu tlv tsi tga tsl tsc tfh tlh tfo tee tlk trf pd o1 ed o2 tpu tto] ++ (tl_L G pd np pa 3 pr ++ (tl_L G ed n ad 5 rc ++ Z))) sz) := by
  refine Met.ofW (cc := cX6_count) (maxL := 7) (ret := (some .int)) (by decide) rfl ?_
  intro p e s m args below meth c s₁ B hml hv
  obtain ⟨rfl, hsz, hP, hK, hD0, hN, hV⟩ := hv
  have hx := B.exec
  have hb := B.bytes
  have hr := B.returns
  have hts := atoms_spec (ws := wsX6_count) B.pre
  have hown : s.vm.findClass RX6 = some m.cls := findClass_of_methodNamed B.named
  have hlocks := B.notSynchronized
  subst hsz
  have n_7 := hn
  unfold n_X6_count at n_7
  have hiX6 : ∀ w ∈ u_ws RX6 TX6 23, w ∈ wsX6_count := fun _ h => List.mem_cons_of_mem _ (List.mem_append_right _ h)
  have hD := hD0.self (sz := s.heap.size)
  generalize hAe : va_A ([tc_X6 o0 a0 (tm_sb G) dw ttk tmo tsu tlv tsi tga tsl tsc tfh tlh tfo tee tlk trf pd o1 ed o2 tpu tto] ++ (tl_L G pd np pa 3 pr ++ (tl_L G ed n ad 5 rc ++ Z))) s.heap.size = A at hD hV ⊢
  have hA : ∀ q : Nat, s.heap.size ≤ q → A q := fun q h => by rw [← hAe]; exact Or.inr h
  have hS : va_S A s.heap s.heap [] := va_S.rf
  have hl := lv_entry ([.ref o0, .int p1]) (n := 7) (Nat.le_of_ble_eq_true rfl)
  rw [lg_entry_eq]
  generalize (lg_sl ([.ref o0, .int p1]) ++ List.replicate (7 - (lg_sl ([.ref o0, .int p1])).length) Slot.unset).toArray = ls at hl ⊢
  have hl : lv_has ls 7 [(0, .ref o0), (1, .int p1)] := hl
  refine lv_iconst (v := 0) hx hb dX6_count_0 (by decide) ?_
  refine lv_istore_n (lv' := [(2, .int 0), (0, .ref o0), (1, .int p1)]) hx hb dX6_count_1 rfl hl (by decide) rfl (fun ls hl => ?_)
  refine lv_aload_n hx hb dX6_count_2 rfl (lv_at hl 1 rfl) ?_
  refine va_get (D := G.1) (ci := 6) (v := .ref ed) (C := RX6) (T := TX6) (N := 23) hx hb hts hiX6 hown hK hP 0 rfl rfl 19 (by decide) (hts (.fieldLink RX6 30 "TideMillLaw$Told" "lots" "[[I") (List.mem_of_getElem? (i := 1) rfl)) (fun _ h9 => h9) rfl dX6_count_3 ?_
  refine lv_astore_n (lv' := [(3, .ref ed), (2, .int 0), (0, .ref o0), (1, .int p1)]) hx hb dX6_count_6 rfl hl (by decide) rfl (fun ls hl => ?_)
  refine lv_aload_n hx hb dX6_count_7 rfl (lv_at hl 0 rfl) ?_
  refine va_alen (v := nI n) hx hb hK hP _ 3 tl_Q_hd rfl rfl dX6_count_8 ?_
  refine lv_istore (lv' := [(4, .int (nI n)), (3, .ref ed), (2, .int 0), (0, .ref o0), (1, .int p1)]) hx hb dX6_count_9 hl (by decide) rfl (fun ls hl => ?_)
  refine lv_iconst (v := 0) hx hb dX6_count_11 (by decide) ?_
  refine lv_istore (lv' := [(5, .int 0), (4, .int (nI n)), (3, .ref ed), (2, .int 0), (0, .ref o0), (1, .int p1)]) hx hb dX6_count_12 hl (by decide) rfl (fun ls hl => ?_)
  have L_14 : ∀ (fuel : Nat) (x14_0 : Int32) (x14_1 : Int32), n_X6_count_14 p1 n rc fuel x14_0 x14_1 → f_X6_count p1 n rc = f_X6_count_14 p1 n rc fuel x14_0 x14_1 → ∀ (H : Heap) (locs : List Loc), va_P G.1 vwCl ([tc_X6 o0 a0 (tm_sb G) dw ttk tmo tsu tlv tsi tga tsl tsc tfh tlh tfo tee tlk trf pd o1 ed o2 tpu tto] ++ (tl_L G pd np pa 3 pr ++ (tl_L G ed n ad 5 rc ++ Z))) H → va_D A ([tc_X6 o0 a0 (tm_sb G) dw ttk tmo tsu tlv tsi tga tsl tsc tfh tlh tfo tee tlk trf pd o1 ed o2 tpu tto] ++ (tl_L G pd np pa 3 pr ++ (tl_L G ed n ad 5 rc ++ Z))) → va_S A s.heap H locs → ∀ ls : Array Slot, lv_has ls 7 [(5, .int x14_1), (4, .int (nI n)), (3, .ref ed), (2, .int x14_0), (0, .ref o0), (1, .int p1)] → W p l e (headSpec wsX6_count ({ frames := 0, cells := 0, slots := 0, locals := 0 } : Room)).room s m ([.ref o0, .int p1] : List Value).toArray below meth c H locs 0 0 (MQ below (va_Qi (fun (r : Int32) (u : Unit) => r = f_X6_count p1 n rc) (fun (u : Unit) (t : State) => va_P G.1 vwCl ([tc_X6 o0 a0 (tm_sb G) dw ttk tmo tsu tlv tsi tga tsl tsc tfh tlh tfo tee tlk trf pd o1 ed o2 tpu tto] ++ (tl_L G pd np pa 3 pr ++ (tl_L G ed n ad 5 rc ++ Z))) t.heap ∧ va_D A ([tc_X6 o0 a0 (tm_sb G) dw ttk tmo tsu tlv tsi tga tsl tsc tfh tlh tfo tee tlk trf pd o1 ed o2 tpu tto] ++ (tl_L G pd np pa 3 pr ++ (tl_L G ed n ad 5 rc ++ Z)))) A) ([.ref o0, .int p1] : List Value).toArray s 0 0 A) (F0 m 14 ls []) := by
    intro fuel
    induction fuel with
    | zero =>
      intro x14_0 x14_1 hnl; exact absurd hnl (by simp [n_X6_count_14])
    | succ fuel ih =>
      intro x14_0 x14_1 hnl hE H locs hP hD hS ls hl
      rw [n_X6_count_14] at hnl
      obtain ⟨n_2, n_3, n_5, n_6⟩ := hnl
      refine lv_iload hx hb dX6_count_14 (lv_at hl 0 rfl) ?_
      refine lv_iload hx hb dX6_count_16 (lv_at hl 1 rfl) ?_
      refine lv_icmp_ge (tgt := 49) hx hb dX6_count_18 (by decide) (fun c_1 => ?_) (fun c_1 => ?_)
      · refine lv_iload_n hx hb dX6_count_49 rfl (lv_at hl 3 rfl) ?_
        have hP9 := va_P.part (X := [tc_X6 o0 a0 (tm_sb G) dw ttk tmo tsu tlv tsi tga tsl tsc tfh tlh tfo tee tlk trf pd o1 ed o2 tpu tto]) (cx := [tc_X6 o0 a0 (tm_sb G) dw ttk tmo tsu tlv tsi tga tsl tsc tfh tlh tfo tee tlk trf pd o1 ed o2 tpu tto]) (pl := (tl_L G pd np pa 3 pr ++ (tl_L G ed n ad 5 rc ++ Z))) hP [0] rfl
        have hD9 := va_D.part (X := [tc_X6 o0 a0 (tm_sb G) dw ttk tmo tsu tlv tsi tga tsl tsc tfh tlh tfo tee tlk trf pd o1 ed o2 tpu tto]) (cx := [tc_X6 o0 a0 (tm_sb G) dw ttk tmo tsu tlv tsi tga tsl tsc tfh tlh tfo tee tlk trf pd o1 ed o2 tpu tto]) (pl := (tl_L G pd np pa 3 pr ++ (tl_L G ed n ad 5 rc ++ Z))) hD [0] (by decide) rfl
        exact W.iret (v := x14_0) hx hb hr (fun t ht hW => ⟨⟨x14_0, (), rfl, by rw [hE, f_X6_count_14]; all_goals (rw [if_pos c_1]); all_goals rfl, by rw [ht]; exact hP9, hD9⟩, hS.F ht⟩) hS.2.2 dX6_count_50
      · refine lv_aload_n hx hb dX6_count_21 rfl (lv_at hl 2 rfl) ?_
        refine lv_iload hx hb dX6_count_22 (lv_at hl 0 rfl) ?_
        refine tl_ald (n := n) (f := fun k => if k < n then some (ad k) else none) hx hb hK hP _ 3 tl_Q_hd rfl (n_2 c_1) dX6_count_24 ?_
        rw [tl_rf (tm_lt (n_2 c_1))]
        refine lv_astore (lv' := [(6, .ref (ad x14_1.toNatClampNeg)), (5, .int x14_1), (4, .int (nI n)), (3, .ref ed), (2, .int x14_0), (0, .ref o0), (1, .int p1)]) hx hb dX6_count_25 hl (by decide) rfl (fun ls hl => ?_)
        refine lv_iload_n hx hb dX6_count_27 rfl (lv_at hl 4 rfl) ?_
        refine lv_aload hx hb dX6_count_28 (lv_at hl 0 rfl) ?_
        refine lv_iconst (v := 4) hx hb dX6_count_30 (by decide) ?_
        refine va_iald (n := 5) (f := rc x14_1.toNatClampNeg) hx hb hK hP _ 0 (tl_Q_get (tm_lt (n_2 c_1))) rfl (n_3 c_1) dX6_count_31 ?_
        refine lv_iload_n hx hb dX6_count_32 rfl (lv_at hl 6 rfl) ?_
        refine lv_icmp_ne (tgt := 40) hx hb dX6_count_33 (by decide) (fun c_4 => ?_) (fun c_4 => ?_)
        · refine lv_iconst (v := 0) hx hb dX6_count_40 (by decide) ?_
          refine lv_iadd hx hb dX6_count_41 ?_
          refine lv_istore_n (lv' := [(2, .int (x14_0 + 0)), (6, .ref (ad x14_1.toNatClampNeg)), (5, .int x14_1), (4, .int (nI n)), (3, .ref ed), (0, .ref o0), (1, .int p1)]) hx hb dX6_count_42 rfl hl (by decide) rfl (fun ls hl => ?_)
          refine lv_iinc (v := x14_1 + 1) (lv' := [(5, .int (x14_1 + 1)), (2, .int (x14_0 + 0)), (6, .ref (ad x14_1.toNatClampNeg)), (4, .int (nI n)), (3, .ref ed), (0, .ref o0), (1, .int p1)]) hx hb dX6_count_43 hl (k := 2) rfl rfl (by decide) rfl (fun ls hl => ?_)
          refine lv_goto (tgt := 14) hx hb dX6_count_46 (by decide) ?_
          have hP9 := va_P.part (X := [tc_X6 o0 a0 (tm_sb G) dw ttk tmo tsu tlv tsi tga tsl tsc tfh tlh tfo tee tlk trf pd o1 ed o2 tpu tto]) (cx := [tc_X6 o0 a0 (tm_sb G) dw ttk tmo tsu tlv tsi tga tsl tsc tfh tlh tfo tee tlk trf pd o1 ed o2 tpu tto]) (pl := (tl_L G pd np pa 3 pr ++ (tl_L G ed n ad 5 rc ++ Z))) hP [0] rfl
          have hD9 := va_D.part (X := [tc_X6 o0 a0 (tm_sb G) dw ttk tmo tsu tlv tsi tga tsl tsc tfh tlh tfo tee tlk trf pd o1 ed o2 tpu tto]) (cx := [tc_X6 o0 a0 (tm_sb G) dw ttk tmo tsu tlv tsi tga tsl tsc tfh tlh tfo tee tlk trf pd o1 ed o2 tpu tto]) (pl := (tl_L G pd np pa 3 pr ++ (tl_L G ed n ad 5 rc ++ Z))) hD [0] (by decide) rfl
          exact ih (x14_0 + 0) (x14_1 + 1) (n_5 c_1 c_4) (by rw [hE, f_X6_count_14]; all_goals (rw [if_neg c_1]); all_goals (rw [if_neg c_4]); all_goals rfl) _ _ hP9 hD9 hS _ (lv_sub hl [0, 3, 4, 1, 5, 6] rfl)
        · refine lv_iconst (v := 1) hx hb dX6_count_36 (by decide) ?_
          refine lv_goto (tgt := 41) hx hb dX6_count_37 (by decide) ?_
          refine lv_iadd hx hb dX6_count_41 ?_
          refine lv_istore_n (lv' := [(2, .int (x14_0 + 1)), (6, .ref (ad x14_1.toNatClampNeg)), (5, .int x14_1), (4, .int (nI n)), (3, .ref ed), (0, .ref o0), (1, .int p1)]) hx hb dX6_count_42 rfl hl (by decide) rfl (fun ls hl => ?_)
          refine lv_iinc (v := x14_1 + 1) (lv' := [(5, .int (x14_1 + 1)), (2, .int (x14_0 + 1)), (6, .ref (ad x14_1.toNatClampNeg)), (4, .int (nI n)), (3, .ref ed), (0, .ref o0), (1, .int p1)]) hx hb dX6_count_43 hl (k := 2) rfl rfl (by decide) rfl (fun ls hl => ?_)
          refine lv_goto (tgt := 14) hx hb dX6_count_46 (by decide) ?_
          have hP9 := va_P.part (X := [tc_X6 o0 a0 (tm_sb G) dw ttk tmo tsu tlv tsi tga tsl tsc tfh tlh tfo tee tlk trf pd o1 ed o2 tpu tto]) (cx := [tc_X6 o0 a0 (tm_sb G) dw ttk tmo tsu tlv tsi tga tsl tsc tfh tlh tfo tee tlk trf pd o1 ed o2 tpu tto]) (pl := (tl_L G pd np pa 3 pr ++ (tl_L G ed n ad 5 rc ++ Z))) hP [0] rfl
          have hD9 := va_D.part (X := [tc_X6 o0 a0 (tm_sb G) dw ttk tmo tsu tlv tsi tga tsl tsc tfh tlh tfo tee tlk trf pd o1 ed o2 tpu tto]) (cx := [tc_X6 o0 a0 (tm_sb G) dw ttk tmo tsu tlv tsi tga tsl tsc tfh tlh tfo tee tlk trf pd o1 ed o2 tpu tto]) (pl := (tl_L G pd np pa 3 pr ++ (tl_L G ed n ad 5 rc ++ Z))) hD [0] (by decide) rfl
          exact ih (x14_0 + 1) (x14_1 + 1) (n_6 c_1 c_4) (by rw [hE, f_X6_count_14]; all_goals (rw [if_neg c_1]); all_goals (rw [if_pos c_4]); all_goals rfl) _ _ hP9 hD9 hS _ (lv_sub hl [0, 3, 4, 1, 5, 6] rfl)
  have hP9 := va_P.part (X := [tc_X6 o0 a0 (tm_sb G) dw ttk tmo tsu tlv tsi tga tsl tsc tfh tlh tfo tee tlk trf pd o1 ed o2 tpu tto]) (cx := [tc_X6 o0 a0 (tm_sb G) dw ttk tmo tsu tlv tsi tga tsl tsc tfh tlh tfo tee tlk trf pd o1 ed o2 tpu tto]) (pl := (tl_L G pd np pa 3 pr ++ (tl_L G ed n ad 5 rc ++ Z))) hP [0] rfl
  have hD9 := va_D.part (X := [tc_X6 o0 a0 (tm_sb G) dw ttk tmo tsu tlv tsi tga tsl tsc tfh tlh tfo tee tlk trf pd o1 ed o2 tpu tto]) (cx := [tc_X6 o0 a0 (tm_sb G) dw ttk tmo tsu tlv tsi tga tsl tsc tfh tlh tfo tee tlk trf pd o1 ed o2 tpu tto]) (pl := (tl_L G pd np pa 3 pr ++ (tl_L G ed n ad 5 rc ++ Z))) hD [0] (by decide) rfl
  exact L_14 12 0 0 n_7 (by unfold f_X6_count; all_goals rfl) _ _ hP9 hD9 hS _ (lv_sub hl [0, 1, 2, 3, 4, 5] rfl)
set_option maxHeartbeats 4000000 in
set_option maxRecDepth 100000 in
theorem c_X6_moon (l : Launch) (G : tm_G) (o0 : Nat) (a0 : Nat) (pd : Nat) (o1 : Nat) (ed : Nat) (o2 : Nat) (ma0 : Nat) (ta0 : Nat) (ma1 : Nat) (ma2 : Nat) (ma3 : Nat) (ma4 : Nat) (sz : Nat) (dw : Int32) (ttk : Int32) (tmo : Int32) (tsu : UInt64) (tlv : UInt64) (tsi : UInt32) (tga : Int32) (tsl : Int32) (tsc : Int32) (tfh : Int32) (tlh : Int32) (tfo : UInt64) (tee : Int32) (tlk : Int32) (trf : Int32) (tpu : Int32) (tto : UInt64) (lk : Int32) (rf : Int32) (pu : Int32) (to : UInt64) (fh : Int32) (lh : Int32) (ee : Int32) (tk : Int32) (mo : Int32) (su : UInt64) (hn : n_X6_moon dw ttk tk (tm_sL G) (tm_xs G)) : Met l yX6_moon wsX6_moon ({ frames := 2, cells := 0, slots := 0, locals := 43 }) (va_Pc [.ref o0] (tm_B G [tc_X6 o0 a0 (tm_sb G) dw ttk tmo tsu tlv tsi tga tsl tsc tfh tlh tfo tee tlk trf pd o1 ed o2 tpu tto, tc_X5 a0 ma0 ta0 lk rf pu to, tc_X1 ma0 ma1 ma2 ma3 ma4 fh lh ee, tc_X4 ma1 tk mo su] sz)) (va_Qi (fun (r : Int32) (u : Int32 × Int32 × Int32) => r = 1 ∧ u = f_X6_moon dw tk (tm_sL G) (tm_xs G)) (fun (u : Int32 × Int32 × Int32) (t : State) => va_P G.1 vwCl [tc_X6 o0 a0 (tm_sb G) u.1 ttk u.2.1 tsu tlv tsi tga tsl tsc tfh tlh tfo tee tlk trf pd o1 ed o2 tpu tto, tc_X5 a0 ma0 ta0 lk rf pu to, tc_X1 ma0 ma1 ma2 ma3 ma4 fh lh ee, tc_X4 ma1 tk u.2.2 su] t.heap ∧ va_D (va_A [tc_X6 o0 a0 (tm_sb G) dw ttk tmo tsu tlv tsi tga tsl tsc tfh tlh tfo tee tlk trf pd o1 ed o2 tpu tto, tc_X5 a0 ma0 ta0 lk rf pu to, tc_X1 ma0 ma1 ma2 ma3 ma4 fh lh ee, tc_X4 ma1 tk mo su] sz) [tc_X6 o0 a0 (tm_sb G) u.1 ttk u.2.1 tsu tlv tsi tga tsl tsc tfh tlh tfo tee tlk trf pd o1 ed o2 tpu tto, tc_X5 a0 ma0 ta0 lk rf pu to, tc_X1 ma0 ma1 ma2 ma3 ma4 fh lh ee, tc_X4 ma1 tk u.2.2 su]) (va_A [tc_X6 o0 a0 (tm_sb G) dw ttk tmo tsu tlv tsi tga tsl tsc tfh tlh tfo tee tlk trf pd o1 ed o2 tpu tto, tc_X5 a0 ma0 ta0 lk rf pu to, tc_X1 ma0 ma1 ma2 ma3 ma4 fh lh ee, tc_X4 ma1 tk mo su] sz)) 0 0 (va_A [tc_X6 o0 a0 (tm_sb G) dw ttk tmo tsu tlv tsi tga tsl tsc tfh tlh tfo tee tlk trf pd o1 ed o2 tpu tto, tc_X5 a0 ma0 ta0 lk rf pu to, tc_X1 ma0 ma1 ma2 ma3 ma4 fh lh ee, tc_X4 ma1 tk mo su] sz) := by
  refine Met.ofW (cc := cX6_moon) (maxL := 1) (ret := (some .boolean)) (by decide) rfl ?_
  intro p e s m args below meth c s₁ B hml hv
  obtain ⟨rfl, hsz, hP, hK, hD0, hN, hV⟩ := hv
  have hx := B.exec
  have hb := B.bytes
  have hr := B.returns
  have hts := atoms_spec (ws := wsX6_moon) B.pre
  have hown : s.vm.findClass RX6 = some m.cls := findClass_of_methodNamed B.named
  have hlocks := B.notSynchronized
  subst hsz
  obtain ⟨n_1, n_5, n_8, n_13, n_14, n_17, n_22⟩ := hn
  have hiX6 : ∀ w ∈ u_ws RX6 TX6 23, w ∈ wsX6_moon := fun _ h => List.mem_cons_of_mem _ (List.mem_append_left _ (List.mem_append_left _ (List.mem_append_left _ (List.mem_append_left _ (List.mem_append_right _ h)))))
  have hD := hD0.self (sz := s.heap.size)
  generalize hAe : va_A [tc_X6 o0 a0 (tm_sb G) dw ttk tmo tsu tlv tsi tga tsl tsc tfh tlh tfo tee tlk trf pd o1 ed o2 tpu tto, tc_X5 a0 ma0 ta0 lk rf pu to, tc_X1 ma0 ma1 ma2 ma3 ma4 fh lh ee, tc_X4 ma1 tk mo su] s.heap.size = A at hD hV ⊢
  have hA : ∀ q : Nat, s.heap.size ≤ q → A q := fun q h => by rw [← hAe]; exact Or.inr h
  have hS : va_S A s.heap s.heap [] := va_S.rf
  have hl := lv_entry ([.ref o0]) (n := 1) (Nat.le_of_ble_eq_true rfl)
  rw [lg_entry_eq]
  generalize (lg_sl ([.ref o0]) ++ List.replicate (1 - (lg_sl ([.ref o0])).length) Slot.unset).toArray = ls at hl ⊢
  have hl : lv_has ls 1 [(0, .ref o0)] := hl
  refine lv_aload_n hx hb dX6_moon_0 rfl (lv_at hl 0 rfl) ?_
  refine lv_aload_n hx hb dX6_moon_1 rfl (lv_at hl 0 rfl) ?_
  refine lv_iconst (v := 3) hx hb dX6_moon_2 (by decide) ?_
  have hPc := hP.sub (ws' := [tc_X6 o0 a0 (tm_sb G) dw ttk tmo tsu tlv tsi tga tsl tsc tfh tlh tfo tee tlk trf pd o1 ed o2 tpu tto]) [0] rfl
  have hDc := hD.sub (ws' := [tc_X6 o0 a0 (tm_sb G) dw ttk tmo tsu tlv tsi tga tsl tsc tfh tlh tfo tee tlk trf pd o1 ed o2 tpu tto]) [0] (by decide) rfl
  have hFc := va_free (wc := [tc_X6 o0 a0 (tm_sb G) dw ttk tmo tsu tlv tsi tga tsl tsc tfh tlh tfo tee tlk trf pd o1 ed o2 tpu tto]) hD hS hA [0] rfl
  refine va_calli (va_runV (As := [.int 3]) (rest := [.ref o0]) ⟨hx, hb, hml, hown, hts⟩ (c_X6_draw l G o0 a0 pd o1 ed o2 s.heap.size dw ttk tmo tsu tlv tsi tga tsl tsc tfh tlh tfo tee tlk trf tpu tto 3 n_1) (cwV 1 hts gX6_moon_X6_draw rfl rfl rfl (by decide +kernel) ⟨(Nat.le_of_ble_eq_true rfl), (Nat.le_of_ble_eq_true rfl)⟩) (tm_preV hK hN hV hS hPc hDc hFc (va_recv hK hPc (ci := 6) (q0 := 0) rfl rfl)) rfl rfl hl.1 rfl (lv_room (Nat.le_of_ble_eq_true rfl)) dX6_moon_3 ⟨(Nat.le_of_ble_eq_true rfl), (Nat.le_of_ble_eq_true rfl)⟩) hS (fun q _ h => hFc q h) hFc (fun r_2 u t H locs ht hvm hw_2 hB hz1 hk1 hS => ?_)
  obtain ⟨u_3, rfl⟩ : ∃ z, z = u := ⟨_, rfl⟩
  obtain ⟨hP1, hD1⟩ := hB
  rw [ht] at hP1
  try dsimp only at hw_2
  obtain ⟨hP, hD⟩ := va_join (wr := [tc_X5 a0 ma0 ta0 lk rf pu to, tc_X1 ma0 ma1 ma2 ma3 ma4 fh lh ee, tc_X4 ma1 tk mo su]) (w1 := [tc_X6 o0 a0 (tm_sb G) u_3 ttk tmo tsu tlv tsi tga tsl tsc tfh tlh tfo tee tlk trf pd o1 ed o2 tpu tto]) hP hD [0] [1, 2, 3] rfl rfl (by decide) (by decide) hk1 hFc hP1 hD1
  have hP : va_P G.1 vwCl [tc_X5 a0 ma0 ta0 lk rf pu to, tc_X1 ma0 ma1 ma2 ma3 ma4 fh lh ee, tc_X4 ma1 tk mo su, tc_X6 o0 a0 (tm_sb G) u_3 ttk tmo tsu tlv tsi tga tsl tsc tfh tlh tfo tee tlk trf pd o1 ed o2 tpu tto] H := hP
  have hD : va_D A [tc_X5 a0 ma0 ta0 lk rf pu to, tc_X1 ma0 ma1 ma2 ma3 ma4 fh lh ee, tc_X4 ma1 tk mo su, tc_X6 o0 a0 (tm_sb G) u_3 ttk tmo tsu tlv tsi tga tsl tsc tfh tlh tfo tee tlk trf pd o1 ed o2 tpu tto] := hD
  have e_r_2 : r_2 = (f_X6_draw dw 3 (tm_sL G) (tm_xs G)).1 := congrArg (fun z => z.1) hw_2
  have e_u_3 : u_3 = dw + 1 := congrArg (fun z => z.2) hw_2
  subst e_r_2
  subst e_u_3
  have hP : va_P G.1 vwCl [tc_X5 a0 ma0 ta0 lk rf pu to, tc_X1 ma0 ma1 ma2 ma3 ma4 fh lh ee, tc_X4 ma1 tk mo su, tc_X6 o0 a0 (tm_sb G) (dw + 1) ttk tmo tsu tlv tsi tga tsl tsc tfh tlh tfo tee tlk trf pd o1 ed o2 tpu tto] H := hP
  have hD : va_D A [tc_X5 a0 ma0 ta0 lk rf pu to, tc_X1 ma0 ma1 ma2 ma3 ma4 fh lh ee, tc_X4 ma1 tk mo su, tc_X6 o0 a0 (tm_sb G) (dw + 1) ttk tmo tsu tlv tsi tga tsl tsc tfh tlh tfo tee tlk trf pd o1 ed o2 tpu tto] := hD
  refine lv_if_ne (tgt := 20) hx hb dX6_moon_6 (by decide) (fun c_4 => ?_) (fun c_4 => ?_)
  · refine lv_aload_n hx hb dX6_moon_20 rfl (lv_at hl 0 rfl) ?_
    refine lv_bipush (v := 30) hx hb dX6_moon_21 (by decide) ?_
    have hPc := hP.sub (ws' := [tc_X6 o0 a0 (tm_sb G) (dw + 1) ttk tmo tsu tlv tsi tga tsl tsc tfh tlh tfo tee tlk trf pd o1 ed o2 tpu tto]) [3] rfl
    have hDc := hD.sub (ws' := [tc_X6 o0 a0 (tm_sb G) (dw + 1) ttk tmo tsu tlv tsi tga tsl tsc tfh tlh tfo tee tlk trf pd o1 ed o2 tpu tto]) [3] (by decide) rfl
    have hFc := va_free (wc := [tc_X6 o0 a0 (tm_sb G) (dw + 1) ttk tmo tsu tlv tsi tga tsl tsc tfh tlh tfo tee tlk trf pd o1 ed o2 tpu tto]) hD hS hA [3] rfl
    refine va_calli (va_runV (As := [.int 30]) (rest := [.ref o0]) ⟨hx, hb, hml, hown, hts⟩ (c_X6_draw l G o0 a0 pd o1 ed o2 H.size (dw + 1) ttk tmo tsu tlv tsi tga tsl tsc tfh tlh tfo tee tlk trf tpu tto 30 (n_5 c_4)) (cwV 1 hts gX6_moon_X6_draw rfl rfl rfl (by decide +kernel) ⟨(Nat.le_of_ble_eq_true rfl), (Nat.le_of_ble_eq_true rfl)⟩) (tm_preV hK hN hV hS hPc hDc hFc (va_recv hK hPc (ci := 6) (q0 := 0) rfl rfl)) rfl rfl hl.1 rfl (lv_room (Nat.le_of_ble_eq_true rfl)) dX6_moon_23 ⟨(Nat.le_of_ble_eq_true rfl), (Nat.le_of_ble_eq_true rfl)⟩) hS (fun q _ h => hFc q h) hFc (fun r_6 u t H locs ht hvm hw_6 hB hz1 hk1 hS => ?_)
    obtain ⟨u_7, rfl⟩ : ∃ z, z = u := ⟨_, rfl⟩
    obtain ⟨hP1, hD1⟩ := hB
    rw [ht] at hP1
    try dsimp only at hw_6
    obtain ⟨hP, hD⟩ := va_join (wr := [tc_X5 a0 ma0 ta0 lk rf pu to, tc_X1 ma0 ma1 ma2 ma3 ma4 fh lh ee, tc_X4 ma1 tk mo su]) (w1 := [tc_X6 o0 a0 (tm_sb G) u_7 ttk tmo tsu tlv tsi tga tsl tsc tfh tlh tfo tee tlk trf pd o1 ed o2 tpu tto]) hP hD [3] [0, 1, 2] rfl rfl (by decide) (by decide) hk1 hFc hP1 hD1
    have hP : va_P G.1 vwCl [tc_X5 a0 ma0 ta0 lk rf pu to, tc_X1 ma0 ma1 ma2 ma3 ma4 fh lh ee, tc_X4 ma1 tk mo su, tc_X6 o0 a0 (tm_sb G) u_7 ttk tmo tsu tlv tsi tga tsl tsc tfh tlh tfo tee tlk trf pd o1 ed o2 tpu tto] H := hP
    have hD : va_D A [tc_X5 a0 ma0 ta0 lk rf pu to, tc_X1 ma0 ma1 ma2 ma3 ma4 fh lh ee, tc_X4 ma1 tk mo su, tc_X6 o0 a0 (tm_sb G) u_7 ttk tmo tsu tlv tsi tga tsl tsc tfh tlh tfo tee tlk trf pd o1 ed o2 tpu tto] := hD
    have e_r_6 : r_6 = (f_X6_draw (dw + 1) 30 (tm_sL G) (tm_xs G)).1 := congrArg (fun z => z.1) hw_6
    have e_u_7 : u_7 = (dw + 1) + 1 := congrArg (fun z => z.2) hw_6
    subst e_r_6
    subst e_u_7
    have hP : va_P G.1 vwCl [tc_X5 a0 ma0 ta0 lk rf pu to, tc_X1 ma0 ma1 ma2 ma3 ma4 fh lh ee, tc_X4 ma1 tk mo su, tc_X6 o0 a0 (tm_sb G) ((dw + 1) + 1) ttk tmo tsu tlv tsi tga tsl tsc tfh tlh tfo tee tlk trf pd o1 ed o2 tpu tto] H := hP
    have hD : va_D A [tc_X5 a0 ma0 ta0 lk rf pu to, tc_X1 ma0 ma1 ma2 ma3 ma4 fh lh ee, tc_X4 ma1 tk mo su, tc_X6 o0 a0 (tm_sb G) ((dw + 1) + 1) ttk tmo tsu tlv tsi tga tsl tsc tfh tlh tfo tee tlk trf pd o1 ed o2 tpu tto] := hD
    refine va_put (D := G.1) (ci := 6) (v := .int ((f_X6_draw (dw + 1) 30 (tm_sL G) (tm_xs G)).1)) (ty := .int) (C := RX6) (T := TX6) (N := 23) hx hb hts hiX6 tyX6 tyX6_ok nmX6 hown hK hP hD hS 3 rfl rfl 4 (by decide) (hts (.fieldLink RX6 59 "TideMillLaw$Told" "moon" "I") (List.mem_of_getElem? (i := 1) rfl)) (fun _ h9 => h9) rfl (by decide +kernel) rfl rfl (Nat.le_of_ble_eq_true rfl) dX6_moon_26 (fun H locs hP hD hS => ?_)
    have hP : va_P G.1 vwCl [tc_X5 a0 ma0 ta0 lk rf pu to, tc_X1 ma0 ma1 ma2 ma3 ma4 fh lh ee, tc_X4 ma1 tk mo su, tc_X6 o0 a0 (tm_sb G) ((dw + 1) + 1) ttk ((f_X6_draw (dw + 1) 30 (tm_sL G) (tm_xs G)).1) tsu tlv tsi tga tsl tsc tfh tlh tfo tee tlk trf pd o1 ed o2 tpu tto] H := hP
    have hD : va_D A [tc_X5 a0 ma0 ta0 lk rf pu to, tc_X1 ma0 ma1 ma2 ma3 ma4 fh lh ee, tc_X4 ma1 tk mo su, tc_X6 o0 a0 (tm_sb G) ((dw + 1) + 1) ttk ((f_X6_draw (dw + 1) 30 (tm_sL G) (tm_xs G)).1) tsu tlv tsi tga tsl tsc tfh tlh tfo tee tlk trf pd o1 ed o2 tpu tto] := hD
    refine lv_aload_n hx hb dX6_moon_29 rfl (lv_at hl 0 rfl) ?_
    refine va_get (D := G.1) (ci := 6) (v := .ref a0) (C := RX6) (T := TX6) (N := 23) hx hb hts hiX6 hown hK hP 3 rfl rfl 0 (by decide) (hts (.fieldLink RX6 10 "TideMillLaw$Told" "m" "LTideMill;") (List.mem_of_getElem? (i := 2) rfl)) (fun _ h9 => h9) rfl dX6_moon_30 ?_
    refine lv_aload_n hx hb dX6_moon_33 rfl (lv_at hl 0 rfl) ?_
    refine va_get (D := G.1) (ci := 6) (v := .int ((f_X6_draw (dw + 1) 30 (tm_sL G) (tm_xs G)).1)) (C := RX6) (T := TX6) (N := 23) hx hb hts hiX6 hown hK hP 3 rfl rfl 4 (by decide) (hts (.fieldLink RX6 59 "TideMillLaw$Told" "moon" "I") (List.mem_of_getElem? (i := 1) rfl)) (fun _ h9 => h9) rfl dX6_moon_34 ?_
    have hPc := hP.sub (ws' := [tc_X5 a0 ma0 ta0 lk rf pu to, tc_X1 ma0 ma1 ma2 ma3 ma4 fh lh ee, tc_X4 ma1 tk mo su]) [0, 1, 2] rfl
    have hDc := hD.sub (ws' := [tc_X5 a0 ma0 ta0 lk rf pu to, tc_X1 ma0 ma1 ma2 ma3 ma4 fh lh ee, tc_X4 ma1 tk mo su]) [0, 1, 2] (by decide) rfl
    have hFc := va_free (wc := [tc_X5 a0 ma0 ta0 lk rf pu to, tc_X1 ma0 ma1 ma2 ma3 ma4 fh lh ee, tc_X4 ma1 tk mo su]) hD hS hA [0, 1, 2] rfl
    refine va_calli (va_runV (As := [.int ((f_X6_draw (dw + 1) 30 (tm_sL G) (tm_xs G)).1)]) (rest := []) ⟨hx, hb, hml, hown, hts⟩ (c_X5_moon l G a0 ma0 ta0 ma1 ma2 ma3 ma4 H.size lk rf pu to fh lh ee tk mo su ((f_X6_draw (dw + 1) 30 (tm_sL G) (tm_xs G)).1) (n_8 c_4)) (cwV 1 hts gX6_moon_X5_moon rfl rfl rfl (by decide +kernel) ⟨(Nat.le_of_ble_eq_true rfl), (Nat.le_of_ble_eq_true rfl)⟩) (tm_preV hK hN hV hS hPc hDc hFc (va_recv hK hPc (ci := 5) (q0 := 0) rfl rfl)) rfl rfl hl.1 rfl (lv_room (Nat.le_of_ble_eq_true rfl)) dX6_moon_37 ⟨(Nat.le_of_ble_eq_true rfl), (Nat.le_of_ble_eq_true rfl)⟩) hS (fun q _ h => hFc q h) hFc (fun r_9 u t H locs ht hvm hw_9 hB hz1 hk1 hS => ?_)
    obtain ⟨u_10, rfl⟩ : ∃ z, z = u := ⟨_, rfl⟩
    obtain ⟨hP1, hD1⟩ := hB
    rw [ht] at hP1
    try dsimp only at hw_9
    obtain ⟨hP, hD⟩ := va_join (wr := [tc_X6 o0 a0 (tm_sb G) ((dw + 1) + 1) ttk ((f_X6_draw (dw + 1) 30 (tm_sL G) (tm_xs G)).1) tsu tlv tsi tga tsl tsc tfh tlh tfo tee tlk trf pd o1 ed o2 tpu tto]) (w1 := [tc_X5 a0 ma0 ta0 lk rf pu to, tc_X1 ma0 ma1 ma2 ma3 ma4 fh lh ee, tc_X4 ma1 tk u_10 su]) hP hD [0, 1, 2] [3] rfl rfl (by decide) (by decide) hk1 hFc hP1 hD1
    have hP : va_P G.1 vwCl [tc_X6 o0 a0 (tm_sb G) ((dw + 1) + 1) ttk ((f_X6_draw (dw + 1) 30 (tm_sL G) (tm_xs G)).1) tsu tlv tsi tga tsl tsc tfh tlh tfo tee tlk trf pd o1 ed o2 tpu tto, tc_X5 a0 ma0 ta0 lk rf pu to, tc_X1 ma0 ma1 ma2 ma3 ma4 fh lh ee, tc_X4 ma1 tk u_10 su] H := hP
    have hD : va_D A [tc_X6 o0 a0 (tm_sb G) ((dw + 1) + 1) ttk ((f_X6_draw (dw + 1) 30 (tm_sL G) (tm_xs G)).1) tsu tlv tsi tga tsl tsc tfh tlh tfo tee tlk trf pd o1 ed o2 tpu tto, tc_X5 a0 ma0 ta0 lk rf pu to, tc_X1 ma0 ma1 ma2 ma3 ma4 fh lh ee, tc_X4 ma1 tk u_10 su] := hD
    refine lv_aload_n hx hb dX6_moon_40 rfl (lv_at hl 0 rfl) ?_
    refine lv_aload_n hx hb dX6_moon_41 rfl (lv_at hl 0 rfl) ?_
    refine va_get (D := G.1) (ci := 6) (v := .int ttk) (C := RX6) (T := TX6) (N := 23) hx hb hts hiX6 hown hK hP 0 rfl rfl 3 (by decide) (hts (.fieldLink RX6 91 "TideMillLaw$Told" "tick" "I") (List.mem_of_getElem? (i := 3) rfl)) (fun _ h9 => h9) rfl dX6_moon_42 ?_
    have hPc := hP.sub (ws' := [tc_X6 o0 a0 (tm_sb G) ((dw + 1) + 1) ttk ((f_X6_draw (dw + 1) 30 (tm_sL G) (tm_xs G)).1) tsu tlv tsi tga tsl tsc tfh tlh tfo tee tlk trf pd o1 ed o2 tpu tto]) [0] rfl
    have hDc := hD.sub (ws' := [tc_X6 o0 a0 (tm_sb G) ((dw + 1) + 1) ttk ((f_X6_draw (dw + 1) 30 (tm_sL G) (tm_xs G)).1) tsu tlv tsi tga tsl tsc tfh tlh tfo tee tlk trf pd o1 ed o2 tpu tto]) [0] (by decide) rfl
    have hFc := va_free (wc := [tc_X6 o0 a0 (tm_sb G) ((dw + 1) + 1) ttk ((f_X6_draw (dw + 1) 30 (tm_sL G) (tm_xs G)).1) tsu tlv tsi tga tsl tsc tfh tlh tfo tee tlk trf pd o1 ed o2 tpu tto]) hD hS hA [0] rfl
    refine va_calli (va_runV (As := [.int ttk]) (rest := [.int r_9]) ⟨hx, hb, hml, hown, hts⟩ (c_X6_age l G o0 a0 pd o1 ed o2 H.size ((dw + 1) + 1) ttk ((f_X6_draw (dw + 1) 30 (tm_sL G) (tm_xs G)).1) tsu tlv tsi tga tsl tsc tfh tlh tfo tee tlk trf tpu tto ttk ) (cwV 1 hts gX6_moon_X6_age rfl rfl rfl (by decide +kernel) ⟨(Nat.le_of_ble_eq_true rfl), (Nat.le_of_ble_eq_true rfl)⟩) (tm_preV hK hN hV hS hPc hDc hFc (va_recv hK hPc (ci := 6) (q0 := 0) rfl rfl)) rfl rfl hl.1 rfl (lv_room (Nat.le_of_ble_eq_true rfl)) dX6_moon_45 ⟨(Nat.le_of_ble_eq_true rfl), (Nat.le_of_ble_eq_true rfl)⟩) hS (fun q _ h => hFc q h) hFc (fun r_11 u t H locs ht hvm hw_11 hB hz1 hk1 hS => ?_)
    obtain ⟨hP1, hD1⟩ := hB
    rw [ht] at hP1
    try dsimp only at hw_11
    obtain ⟨hP, hD⟩ := va_join (wr := [tc_X5 a0 ma0 ta0 lk rf pu to, tc_X1 ma0 ma1 ma2 ma3 ma4 fh lh ee, tc_X4 ma1 tk u_10 su]) (w1 := [tc_X6 o0 a0 (tm_sb G) ((dw + 1) + 1) ttk ((f_X6_draw (dw + 1) 30 (tm_sL G) (tm_xs G)).1) tsu tlv tsi tga tsl tsc tfh tlh tfo tee tlk trf pd o1 ed o2 tpu tto]) hP hD [0] [1, 2, 3] rfl rfl (by decide) (by decide) hk1 hFc hP1 hD1
    have hP : va_P G.1 vwCl [tc_X5 a0 ma0 ta0 lk rf pu to, tc_X1 ma0 ma1 ma2 ma3 ma4 fh lh ee, tc_X4 ma1 tk u_10 su, tc_X6 o0 a0 (tm_sb G) ((dw + 1) + 1) ttk ((f_X6_draw (dw + 1) 30 (tm_sL G) (tm_xs G)).1) tsu tlv tsi tga tsl tsc tfh tlh tfo tee tlk trf pd o1 ed o2 tpu tto] H := hP
    have hD : va_D A [tc_X5 a0 ma0 ta0 lk rf pu to, tc_X1 ma0 ma1 ma2 ma3 ma4 fh lh ee, tc_X4 ma1 tk u_10 su, tc_X6 o0 a0 (tm_sb G) ((dw + 1) + 1) ttk ((f_X6_draw (dw + 1) 30 (tm_sL G) (tm_xs G)).1) tsu tlv tsi tga tsl tsc tfh tlh tfo tee tlk trf pd o1 ed o2 tpu tto] := hD
    subst r_11
    refine lv_icmp_ne (tgt := 55) hx hb dX6_moon_48 (by decide) (fun c_12 => ?_) (fun c_12 => ?_)
    · exact absurd (n_13 c_4 r_9 u_10 hw_9) c_12
    · refine lv_iconst (v := 1) hx hb dX6_moon_51 (by decide) ?_
      refine lv_goto (tgt := 56) hx hb dX6_moon_52 (by decide) ?_
      have hP9 := hP.sub (ws' := [tc_X6 o0 a0 (tm_sb G) ((dw + 1) + 1) ttk ((f_X6_draw (dw + 1) 30 (tm_sL G) (tm_xs G)).1) tsu tlv tsi tga tsl tsc tfh tlh tfo tee tlk trf pd o1 ed o2 tpu tto, tc_X5 a0 ma0 ta0 lk rf pu to, tc_X1 ma0 ma1 ma2 ma3 ma4 fh lh ee, tc_X4 ma1 tk u_10 su]) [3, 0, 1, 2] rfl
      have hD9 := hD.sub (ws' := [tc_X6 o0 a0 (tm_sb G) ((dw + 1) + 1) ttk ((f_X6_draw (dw + 1) 30 (tm_sL G) (tm_xs G)).1) tsu tlv tsi tga tsl tsc tfh tlh tfo tee tlk trf pd o1 ed o2 tpu tto, tc_X5 a0 ma0 ta0 lk rf pu to, tc_X1 ma0 ma1 ma2 ma3 ma4 fh lh ee, tc_X4 ma1 tk u_10 su]) [3, 0, 1, 2] (by decide) rfl
      exact W.zret (v := 1) hx hb hr rfl (fun t ht hW => ⟨⟨1, ((dw + 1) + 1, (f_X6_draw (dw + 1) 30 (tm_sL G) (tm_xs G)).1, u_10), rfl, ⟨rfl, by unfold f_X6_moon; all_goals (rw [if_neg c_4]); all_goals (rw [← hw_9]); all_goals (dsimp only); all_goals rfl⟩, by rw [ht]; exact hP9, hD9⟩, hS.F ht⟩) hS.2.2 dX6_moon_56
  · refine lv_bipush (v := 13) hx hb dX6_moon_9 (by decide) ?_
    refine lv_aload_n hx hb dX6_moon_11 rfl (lv_at hl 0 rfl) ?_
    refine lv_iconst (v := 5) hx hb dX6_moon_12 (by decide) ?_
    have hPc := hP.sub (ws' := [tc_X6 o0 a0 (tm_sb G) (dw + 1) ttk tmo tsu tlv tsi tga tsl tsc tfh tlh tfo tee tlk trf pd o1 ed o2 tpu tto]) [3] rfl
    have hDc := hD.sub (ws' := [tc_X6 o0 a0 (tm_sb G) (dw + 1) ttk tmo tsu tlv tsi tga tsl tsc tfh tlh tfo tee tlk trf pd o1 ed o2 tpu tto]) [3] (by decide) rfl
    have hFc := va_free (wc := [tc_X6 o0 a0 (tm_sb G) (dw + 1) ttk tmo tsu tlv tsi tga tsl tsc tfh tlh tfo tee tlk trf pd o1 ed o2 tpu tto]) hD hS hA [3] rfl
    refine va_calli (va_runV (As := [.int 5]) (rest := [.int 13, .ref o0]) ⟨hx, hb, hml, hown, hts⟩ (c_X6_draw l G o0 a0 pd o1 ed o2 H.size (dw + 1) ttk tmo tsu tlv tsi tga tsl tsc tfh tlh tfo tee tlk trf tpu tto 5 (n_14 c_4)) (cwV 1 hts gX6_moon_X6_draw rfl rfl rfl (by decide +kernel) ⟨(Nat.le_of_ble_eq_true rfl), (Nat.le_of_ble_eq_true rfl)⟩) (tm_preV hK hN hV hS hPc hDc hFc (va_recv hK hPc (ci := 6) (q0 := 0) rfl rfl)) rfl rfl hl.1 rfl (lv_room (Nat.le_of_ble_eq_true rfl)) dX6_moon_13 ⟨(Nat.le_of_ble_eq_true rfl), (Nat.le_of_ble_eq_true rfl)⟩) hS (fun q _ h => hFc q h) hFc (fun r_15 u t H locs ht hvm hw_15 hB hz1 hk1 hS => ?_)
    obtain ⟨u_16, rfl⟩ : ∃ z, z = u := ⟨_, rfl⟩
    obtain ⟨hP1, hD1⟩ := hB
    rw [ht] at hP1
    try dsimp only at hw_15
    obtain ⟨hP, hD⟩ := va_join (wr := [tc_X5 a0 ma0 ta0 lk rf pu to, tc_X1 ma0 ma1 ma2 ma3 ma4 fh lh ee, tc_X4 ma1 tk mo su]) (w1 := [tc_X6 o0 a0 (tm_sb G) u_16 ttk tmo tsu tlv tsi tga tsl tsc tfh tlh tfo tee tlk trf pd o1 ed o2 tpu tto]) hP hD [3] [0, 1, 2] rfl rfl (by decide) (by decide) hk1 hFc hP1 hD1
    have hP : va_P G.1 vwCl [tc_X5 a0 ma0 ta0 lk rf pu to, tc_X1 ma0 ma1 ma2 ma3 ma4 fh lh ee, tc_X4 ma1 tk mo su, tc_X6 o0 a0 (tm_sb G) u_16 ttk tmo tsu tlv tsi tga tsl tsc tfh tlh tfo tee tlk trf pd o1 ed o2 tpu tto] H := hP
    have hD : va_D A [tc_X5 a0 ma0 ta0 lk rf pu to, tc_X1 ma0 ma1 ma2 ma3 ma4 fh lh ee, tc_X4 ma1 tk mo su, tc_X6 o0 a0 (tm_sb G) u_16 ttk tmo tsu tlv tsi tga tsl tsc tfh tlh tfo tee tlk trf pd o1 ed o2 tpu tto] := hD
    have e_r_15 : r_15 = (f_X6_draw (dw + 1) 5 (tm_sL G) (tm_xs G)).1 := congrArg (fun z => z.1) hw_15
    have e_u_16 : u_16 = (dw + 1) + 1 := congrArg (fun z => z.2) hw_15
    subst e_r_15
    subst e_u_16
    have hP : va_P G.1 vwCl [tc_X5 a0 ma0 ta0 lk rf pu to, tc_X1 ma0 ma1 ma2 ma3 ma4 fh lh ee, tc_X4 ma1 tk mo su, tc_X6 o0 a0 (tm_sb G) ((dw + 1) + 1) ttk tmo tsu tlv tsi tga tsl tsc tfh tlh tfo tee tlk trf pd o1 ed o2 tpu tto] H := hP
    have hD : va_D A [tc_X5 a0 ma0 ta0 lk rf pu to, tc_X1 ma0 ma1 ma2 ma3 ma4 fh lh ee, tc_X4 ma1 tk mo su, tc_X6 o0 a0 (tm_sb G) ((dw + 1) + 1) ttk tmo tsu tlv tsi tga tsl tsc tfh tlh tfo tee tlk trf pd o1 ed o2 tpu tto] := hD
    refine lv_iadd hx hb dX6_moon_16 ?_
    refine lv_goto (tgt := 26) hx hb dX6_moon_17 (by decide) ?_
    refine va_put (D := G.1) (ci := 6) (v := .int (13 + ((f_X6_draw (dw + 1) 5 (tm_sL G) (tm_xs G)).1))) (ty := .int) (C := RX6) (T := TX6) (N := 23) hx hb hts hiX6 tyX6 tyX6_ok nmX6 hown hK hP hD hS 3 rfl rfl 4 (by decide) (hts (.fieldLink RX6 59 "TideMillLaw$Told" "moon" "I") (List.mem_of_getElem? (i := 1) rfl)) (fun _ h9 => h9) rfl (by decide +kernel) rfl rfl (Nat.le_of_ble_eq_true rfl) dX6_moon_26 (fun H locs hP hD hS => ?_)
    have hP : va_P G.1 vwCl [tc_X5 a0 ma0 ta0 lk rf pu to, tc_X1 ma0 ma1 ma2 ma3 ma4 fh lh ee, tc_X4 ma1 tk mo su, tc_X6 o0 a0 (tm_sb G) ((dw + 1) + 1) ttk (13 + ((f_X6_draw (dw + 1) 5 (tm_sL G) (tm_xs G)).1)) tsu tlv tsi tga tsl tsc tfh tlh tfo tee tlk trf pd o1 ed o2 tpu tto] H := hP
    have hD : va_D A [tc_X5 a0 ma0 ta0 lk rf pu to, tc_X1 ma0 ma1 ma2 ma3 ma4 fh lh ee, tc_X4 ma1 tk mo su, tc_X6 o0 a0 (tm_sb G) ((dw + 1) + 1) ttk (13 + ((f_X6_draw (dw + 1) 5 (tm_sL G) (tm_xs G)).1)) tsu tlv tsi tga tsl tsc tfh tlh tfo tee tlk trf pd o1 ed o2 tpu tto] := hD
    refine lv_aload_n hx hb dX6_moon_29 rfl (lv_at hl 0 rfl) ?_
    refine va_get (D := G.1) (ci := 6) (v := .ref a0) (C := RX6) (T := TX6) (N := 23) hx hb hts hiX6 hown hK hP 3 rfl rfl 0 (by decide) (hts (.fieldLink RX6 10 "TideMillLaw$Told" "m" "LTideMill;") (List.mem_of_getElem? (i := 2) rfl)) (fun _ h9 => h9) rfl dX6_moon_30 ?_
    refine lv_aload_n hx hb dX6_moon_33 rfl (lv_at hl 0 rfl) ?_
    refine va_get (D := G.1) (ci := 6) (v := .int (13 + ((f_X6_draw (dw + 1) 5 (tm_sL G) (tm_xs G)).1))) (C := RX6) (T := TX6) (N := 23) hx hb hts hiX6 hown hK hP 3 rfl rfl 4 (by decide) (hts (.fieldLink RX6 59 "TideMillLaw$Told" "moon" "I") (List.mem_of_getElem? (i := 1) rfl)) (fun _ h9 => h9) rfl dX6_moon_34 ?_
    have hPc := hP.sub (ws' := [tc_X5 a0 ma0 ta0 lk rf pu to, tc_X1 ma0 ma1 ma2 ma3 ma4 fh lh ee, tc_X4 ma1 tk mo su]) [0, 1, 2] rfl
    have hDc := hD.sub (ws' := [tc_X5 a0 ma0 ta0 lk rf pu to, tc_X1 ma0 ma1 ma2 ma3 ma4 fh lh ee, tc_X4 ma1 tk mo su]) [0, 1, 2] (by decide) rfl
    have hFc := va_free (wc := [tc_X5 a0 ma0 ta0 lk rf pu to, tc_X1 ma0 ma1 ma2 ma3 ma4 fh lh ee, tc_X4 ma1 tk mo su]) hD hS hA [0, 1, 2] rfl
    refine va_calli (va_runV (As := [.int (13 + ((f_X6_draw (dw + 1) 5 (tm_sL G) (tm_xs G)).1))]) (rest := []) ⟨hx, hb, hml, hown, hts⟩ (c_X5_moon l G a0 ma0 ta0 ma1 ma2 ma3 ma4 H.size lk rf pu to fh lh ee tk mo su (13 + ((f_X6_draw (dw + 1) 5 (tm_sL G) (tm_xs G)).1)) (n_17 c_4)) (cwV 1 hts gX6_moon_X5_moon rfl rfl rfl (by decide +kernel) ⟨(Nat.le_of_ble_eq_true rfl), (Nat.le_of_ble_eq_true rfl)⟩) (tm_preV hK hN hV hS hPc hDc hFc (va_recv hK hPc (ci := 5) (q0 := 0) rfl rfl)) rfl rfl hl.1 rfl (lv_room (Nat.le_of_ble_eq_true rfl)) dX6_moon_37 ⟨(Nat.le_of_ble_eq_true rfl), (Nat.le_of_ble_eq_true rfl)⟩) hS (fun q _ h => hFc q h) hFc (fun r_18 u t H locs ht hvm hw_18 hB hz1 hk1 hS => ?_)
    obtain ⟨u_19, rfl⟩ : ∃ z, z = u := ⟨_, rfl⟩
    obtain ⟨hP1, hD1⟩ := hB
    rw [ht] at hP1
    try dsimp only at hw_18
    obtain ⟨hP, hD⟩ := va_join (wr := [tc_X6 o0 a0 (tm_sb G) ((dw + 1) + 1) ttk (13 + ((f_X6_draw (dw + 1) 5 (tm_sL G) (tm_xs G)).1)) tsu tlv tsi tga tsl tsc tfh tlh tfo tee tlk trf pd o1 ed o2 tpu tto]) (w1 := [tc_X5 a0 ma0 ta0 lk rf pu to, tc_X1 ma0 ma1 ma2 ma3 ma4 fh lh ee, tc_X4 ma1 tk u_19 su]) hP hD [0, 1, 2] [3] rfl rfl (by decide) (by decide) hk1 hFc hP1 hD1
    have hP : va_P G.1 vwCl [tc_X6 o0 a0 (tm_sb G) ((dw + 1) + 1) ttk (13 + ((f_X6_draw (dw + 1) 5 (tm_sL G) (tm_xs G)).1)) tsu tlv tsi tga tsl tsc tfh tlh tfo tee tlk trf pd o1 ed o2 tpu tto, tc_X5 a0 ma0 ta0 lk rf pu to, tc_X1 ma0 ma1 ma2 ma3 ma4 fh lh ee, tc_X4 ma1 tk u_19 su] H := hP
    have hD : va_D A [tc_X6 o0 a0 (tm_sb G) ((dw + 1) + 1) ttk (13 + ((f_X6_draw (dw + 1) 5 (tm_sL G) (tm_xs G)).1)) tsu tlv tsi tga tsl tsc tfh tlh tfo tee tlk trf pd o1 ed o2 tpu tto, tc_X5 a0 ma0 ta0 lk rf pu to, tc_X1 ma0 ma1 ma2 ma3 ma4 fh lh ee, tc_X4 ma1 tk u_19 su] := hD
    refine lv_aload_n hx hb dX6_moon_40 rfl (lv_at hl 0 rfl) ?_
    refine lv_aload_n hx hb dX6_moon_41 rfl (lv_at hl 0 rfl) ?_
    refine va_get (D := G.1) (ci := 6) (v := .int ttk) (C := RX6) (T := TX6) (N := 23) hx hb hts hiX6 hown hK hP 0 rfl rfl 3 (by decide) (hts (.fieldLink RX6 91 "TideMillLaw$Told" "tick" "I") (List.mem_of_getElem? (i := 3) rfl)) (fun _ h9 => h9) rfl dX6_moon_42 ?_
    have hPc := hP.sub (ws' := [tc_X6 o0 a0 (tm_sb G) ((dw + 1) + 1) ttk (13 + ((f_X6_draw (dw + 1) 5 (tm_sL G) (tm_xs G)).1)) tsu tlv tsi tga tsl tsc tfh tlh tfo tee tlk trf pd o1 ed o2 tpu tto]) [0] rfl
    have hDc := hD.sub (ws' := [tc_X6 o0 a0 (tm_sb G) ((dw + 1) + 1) ttk (13 + ((f_X6_draw (dw + 1) 5 (tm_sL G) (tm_xs G)).1)) tsu tlv tsi tga tsl tsc tfh tlh tfo tee tlk trf pd o1 ed o2 tpu tto]) [0] (by decide) rfl
    have hFc := va_free (wc := [tc_X6 o0 a0 (tm_sb G) ((dw + 1) + 1) ttk (13 + ((f_X6_draw (dw + 1) 5 (tm_sL G) (tm_xs G)).1)) tsu tlv tsi tga tsl tsc tfh tlh tfo tee tlk trf pd o1 ed o2 tpu tto]) hD hS hA [0] rfl
    refine va_calli (va_runV (As := [.int ttk]) (rest := [.int r_18]) ⟨hx, hb, hml, hown, hts⟩ (c_X6_age l G o0 a0 pd o1 ed o2 H.size ((dw + 1) + 1) ttk (13 + ((f_X6_draw (dw + 1) 5 (tm_sL G) (tm_xs G)).1)) tsu tlv tsi tga tsl tsc tfh tlh tfo tee tlk trf tpu tto ttk ) (cwV 1 hts gX6_moon_X6_age rfl rfl rfl (by decide +kernel) ⟨(Nat.le_of_ble_eq_true rfl), (Nat.le_of_ble_eq_true rfl)⟩) (tm_preV hK hN hV hS hPc hDc hFc (va_recv hK hPc (ci := 6) (q0 := 0) rfl rfl)) rfl rfl hl.1 rfl (lv_room (Nat.le_of_ble_eq_true rfl)) dX6_moon_45 ⟨(Nat.le_of_ble_eq_true rfl), (Nat.le_of_ble_eq_true rfl)⟩) hS (fun q _ h => hFc q h) hFc (fun r_20 u t H locs ht hvm hw_20 hB hz1 hk1 hS => ?_)
    obtain ⟨hP1, hD1⟩ := hB
    rw [ht] at hP1
    try dsimp only at hw_20
    obtain ⟨hP, hD⟩ := va_join (wr := [tc_X5 a0 ma0 ta0 lk rf pu to, tc_X1 ma0 ma1 ma2 ma3 ma4 fh lh ee, tc_X4 ma1 tk u_19 su]) (w1 := [tc_X6 o0 a0 (tm_sb G) ((dw + 1) + 1) ttk (13 + ((f_X6_draw (dw + 1) 5 (tm_sL G) (tm_xs G)).1)) tsu tlv tsi tga tsl tsc tfh tlh tfo tee tlk trf pd o1 ed o2 tpu tto]) hP hD [0] [1, 2, 3] rfl rfl (by decide) (by decide) hk1 hFc hP1 hD1
    have hP : va_P G.1 vwCl [tc_X5 a0 ma0 ta0 lk rf pu to, tc_X1 ma0 ma1 ma2 ma3 ma4 fh lh ee, tc_X4 ma1 tk u_19 su, tc_X6 o0 a0 (tm_sb G) ((dw + 1) + 1) ttk (13 + ((f_X6_draw (dw + 1) 5 (tm_sL G) (tm_xs G)).1)) tsu tlv tsi tga tsl tsc tfh tlh tfo tee tlk trf pd o1 ed o2 tpu tto] H := hP
    have hD : va_D A [tc_X5 a0 ma0 ta0 lk rf pu to, tc_X1 ma0 ma1 ma2 ma3 ma4 fh lh ee, tc_X4 ma1 tk u_19 su, tc_X6 o0 a0 (tm_sb G) ((dw + 1) + 1) ttk (13 + ((f_X6_draw (dw + 1) 5 (tm_sL G) (tm_xs G)).1)) tsu tlv tsi tga tsl tsc tfh tlh tfo tee tlk trf pd o1 ed o2 tpu tto] := hD
    subst r_20
    refine lv_icmp_ne (tgt := 55) hx hb dX6_moon_48 (by decide) (fun c_21 => ?_) (fun c_21 => ?_)
    · exact absurd (n_22 c_4 r_18 u_19 hw_18) c_21
    · refine lv_iconst (v := 1) hx hb dX6_moon_51 (by decide) ?_
      refine lv_goto (tgt := 56) hx hb dX6_moon_52 (by decide) ?_
      have hP9 := hP.sub (ws' := [tc_X6 o0 a0 (tm_sb G) ((dw + 1) + 1) ttk (13 + ((f_X6_draw (dw + 1) 5 (tm_sL G) (tm_xs G)).1)) tsu tlv tsi tga tsl tsc tfh tlh tfo tee tlk trf pd o1 ed o2 tpu tto, tc_X5 a0 ma0 ta0 lk rf pu to, tc_X1 ma0 ma1 ma2 ma3 ma4 fh lh ee, tc_X4 ma1 tk u_19 su]) [3, 0, 1, 2] rfl
      have hD9 := hD.sub (ws' := [tc_X6 o0 a0 (tm_sb G) ((dw + 1) + 1) ttk (13 + ((f_X6_draw (dw + 1) 5 (tm_sL G) (tm_xs G)).1)) tsu tlv tsi tga tsl tsc tfh tlh tfo tee tlk trf pd o1 ed o2 tpu tto, tc_X5 a0 ma0 ta0 lk rf pu to, tc_X1 ma0 ma1 ma2 ma3 ma4 fh lh ee, tc_X4 ma1 tk u_19 su]) [3, 0, 1, 2] (by decide) rfl
      exact W.zret (v := 1) hx hb hr rfl (fun t ht hW => ⟨⟨1, ((dw + 1) + 1, 13 + ((f_X6_draw (dw + 1) 5 (tm_sL G) (tm_xs G)).1), u_19), rfl, ⟨rfl, by unfold f_X6_moon; all_goals (rw [if_pos c_4]); all_goals (rw [← hw_18]); all_goals (dsimp only); all_goals rfl⟩, by rw [ht]; exact hP9, hD9⟩, hS.F ht⟩) hS.2.2 dX6_moon_56
set_option maxHeartbeats 4000000 in
set_option maxRecDepth 100000 in
theorem c_X6_surge (l : Launch) (G : tm_G) (o0 : Nat) (a0 : Nat) (pd : Nat) (o1 : Nat) (ed : Nat) (o2 : Nat) (ma0 : Nat) (ta0 : Nat) (ma1 : Nat) (ma2 : Nat) (ma3 : Nat) (ma4 : Nat) (sz : Nat) (dw : Int32) (ttk : Int32) (tmo : Int32) (tsu : UInt64) (tlv : UInt64) (tsi : UInt32) (tga : Int32) (tsl : Int32) (tsc : Int32) (tfh : Int32) (tlh : Int32) (tfo : UInt64) (tee : Int32) (tlk : Int32) (trf : Int32) (tpu : Int32) (tto : UInt64) (lk : Int32) (rf : Int32) (pu : Int32) (to : UInt64) (fh : Int32) (lh : Int32) (ee : Int32) (tk : Int32) (mo : Int32) (su : UInt64) (hn : n_X6_surge dw ttk tmo tk mo (tm_sL G) (tm_xs G)) : Met l yX6_surge wsX6_surge ({ frames := 5, cells := 0, slots := 0, locals := 115 }) (va_Pc [.ref o0] (tm_B G [tc_X6 o0 a0 (tm_sb G) dw ttk tmo tsu tlv tsi tga tsl tsc tfh tlh tfo tee tlk trf pd o1 ed o2 tpu tto, tc_X5 a0 ma0 ta0 lk rf pu to, tc_X1 ma0 ma1 ma2 ma3 ma4 fh lh ee, tc_X4 ma1 tk mo su] sz)) (va_Qi (fun (r : Int32) (u : Int32 × UInt64 × UInt64) => r = 1 ∧ u = f_X6_surge dw tk mo (tm_sL G) (tm_xs G)) (fun (u : Int32 × UInt64 × UInt64) (t : State) => va_P G.1 vwCl [tc_X6 o0 a0 (tm_sb G) u.1 ttk tmo u.2.1 tlv tsi tga tsl tsc tfh tlh tfo tee tlk trf pd o1 ed o2 tpu tto, tc_X5 a0 ma0 ta0 lk rf pu to, tc_X1 ma0 ma1 ma2 ma3 ma4 fh lh ee, tc_X4 ma1 tk mo u.2.2] t.heap ∧ va_D (va_A [tc_X6 o0 a0 (tm_sb G) dw ttk tmo tsu tlv tsi tga tsl tsc tfh tlh tfo tee tlk trf pd o1 ed o2 tpu tto, tc_X5 a0 ma0 ta0 lk rf pu to, tc_X1 ma0 ma1 ma2 ma3 ma4 fh lh ee, tc_X4 ma1 tk mo su] sz) [tc_X6 o0 a0 (tm_sb G) u.1 ttk tmo u.2.1 tlv tsi tga tsl tsc tfh tlh tfo tee tlk trf pd o1 ed o2 tpu tto, tc_X5 a0 ma0 ta0 lk rf pu to, tc_X1 ma0 ma1 ma2 ma3 ma4 fh lh ee, tc_X4 ma1 tk mo u.2.2]) (va_A [tc_X6 o0 a0 (tm_sb G) dw ttk tmo tsu tlv tsi tga tsl tsc tfh tlh tfo tee tlk trf pd o1 ed o2 tpu tto, tc_X5 a0 ma0 ta0 lk rf pu to, tc_X1 ma0 ma1 ma2 ma3 ma4 fh lh ee, tc_X4 ma1 tk mo su] sz)) 0 0 (va_A [tc_X6 o0 a0 (tm_sb G) dw ttk tmo tsu tlv tsi tga tsl tsc tfh tlh tfo tee tlk trf pd o1 ed o2 tpu tto, tc_X5 a0 ma0 ta0 lk rf pu to, tc_X1 ma0 ma1 ma2 ma3 ma4 fh lh ee, tc_X4 ma1 tk mo su] sz) := by
  refine Met.ofW (cc := cX6_surge) (maxL := 2) (ret := (some .boolean)) (by decide) rfl ?_
  intro p e s m args below meth c s₁ B hml hv
  obtain ⟨rfl, hsz, hP, hK, hD0, hN, hV⟩ := hv
  have hx := B.exec
  have hb := B.bytes
  have hr := B.returns
  have hts := atoms_spec (ws := wsX6_surge) B.pre
  have hown : s.vm.findClass RX6 = some m.cls := findClass_of_methodNamed B.named
  have hlocks := B.notSynchronized
  subst hsz
  obtain ⟨n_1, n_4, n_5, n_8, n_11⟩ := hn
  have hiX6 : ∀ w ∈ u_ws RX6 TX6 23, w ∈ wsX6_surge := fun _ h => List.mem_cons_of_mem _ (List.mem_append_left _ (List.mem_append_left _ (List.mem_append_left _ (List.mem_append_left _ (List.mem_append_right _ h)))))
  have hD := hD0.self (sz := s.heap.size)
  generalize hAe : va_A [tc_X6 o0 a0 (tm_sb G) dw ttk tmo tsu tlv tsi tga tsl tsc tfh tlh tfo tee tlk trf pd o1 ed o2 tpu tto, tc_X5 a0 ma0 ta0 lk rf pu to, tc_X1 ma0 ma1 ma2 ma3 ma4 fh lh ee, tc_X4 ma1 tk mo su] s.heap.size = A at hD hV ⊢
  have hA : ∀ q : Nat, s.heap.size ≤ q → A q := fun q h => by rw [← hAe]; exact Or.inr h
  have hS : va_S A s.heap s.heap [] := va_S.rf
  have hl := lv_entry ([.ref o0]) (n := 2) (Nat.le_of_ble_eq_true rfl)
  rw [lg_entry_eq]
  generalize (lg_sl ([.ref o0]) ++ List.replicate (2 - (lg_sl ([.ref o0])).length) Slot.unset).toArray = ls at hl ⊢
  have hl : lv_has ls 2 [(0, .ref o0)] := hl
  refine lv_aload_n hx hb dX6_surge_0 rfl (lv_at hl 0 rfl) ?_
  refine lv_bipush (v := 17) hx hb dX6_surge_1 (by decide) ?_
  have hPc := hP.sub (ws' := [tc_X6 o0 a0 (tm_sb G) dw ttk tmo tsu tlv tsi tga tsl tsc tfh tlh tfo tee tlk trf pd o1 ed o2 tpu tto]) [0] rfl
  have hDc := hD.sub (ws' := [tc_X6 o0 a0 (tm_sb G) dw ttk tmo tsu tlv tsi tga tsl tsc tfh tlh tfo tee tlk trf pd o1 ed o2 tpu tto]) [0] (by decide) rfl
  have hFc := va_free (wc := [tc_X6 o0 a0 (tm_sb G) dw ttk tmo tsu tlv tsi tga tsl tsc tfh tlh tfo tee tlk trf pd o1 ed o2 tpu tto]) hD hS hA [0] rfl
  refine va_calli (va_runV (As := [.int 17]) (rest := []) ⟨hx, hb, hml, hown, hts⟩ (c_X6_draw l G o0 a0 pd o1 ed o2 s.heap.size dw ttk tmo tsu tlv tsi tga tsl tsc tfh tlh tfo tee tlk trf tpu tto 17 n_1) (cwV 1 hts gX6_surge_X6_draw rfl rfl rfl (by decide +kernel) ⟨(Nat.le_of_ble_eq_true rfl), (Nat.le_of_ble_eq_true rfl)⟩) (tm_preV hK hN hV hS hPc hDc hFc (va_recv hK hPc (ci := 6) (q0 := 0) rfl rfl)) rfl rfl hl.1 rfl (lv_room (Nat.le_of_ble_eq_true rfl)) dX6_surge_3 ⟨(Nat.le_of_ble_eq_true rfl), (Nat.le_of_ble_eq_true rfl)⟩) hS (fun q _ h => hFc q h) hFc (fun r_2 u t H locs ht hvm hw_2 hB hz1 hk1 hS => ?_)
  obtain ⟨u_3, rfl⟩ : ∃ z, z = u := ⟨_, rfl⟩
  obtain ⟨hP1, hD1⟩ := hB
  rw [ht] at hP1
  try dsimp only at hw_2
  obtain ⟨hP, hD⟩ := va_join (wr := [tc_X5 a0 ma0 ta0 lk rf pu to, tc_X1 ma0 ma1 ma2 ma3 ma4 fh lh ee, tc_X4 ma1 tk mo su]) (w1 := [tc_X6 o0 a0 (tm_sb G) u_3 ttk tmo tsu tlv tsi tga tsl tsc tfh tlh tfo tee tlk trf pd o1 ed o2 tpu tto]) hP hD [0] [1, 2, 3] rfl rfl (by decide) (by decide) hk1 hFc hP1 hD1
  have hP : va_P G.1 vwCl [tc_X5 a0 ma0 ta0 lk rf pu to, tc_X1 ma0 ma1 ma2 ma3 ma4 fh lh ee, tc_X4 ma1 tk mo su, tc_X6 o0 a0 (tm_sb G) u_3 ttk tmo tsu tlv tsi tga tsl tsc tfh tlh tfo tee tlk trf pd o1 ed o2 tpu tto] H := hP
  have hD : va_D A [tc_X5 a0 ma0 ta0 lk rf pu to, tc_X1 ma0 ma1 ma2 ma3 ma4 fh lh ee, tc_X4 ma1 tk mo su, tc_X6 o0 a0 (tm_sb G) u_3 ttk tmo tsu tlv tsi tga tsl tsc tfh tlh tfo tee tlk trf pd o1 ed o2 tpu tto] := hD
  have e_r_2 : r_2 = (f_X6_draw dw 17 (tm_sL G) (tm_xs G)).1 := congrArg (fun z => z.1) hw_2
  have e_u_3 : u_3 = dw + 1 := congrArg (fun z => z.2) hw_2
  subst e_r_2
  subst e_u_3
  have hP : va_P G.1 vwCl [tc_X5 a0 ma0 ta0 lk rf pu to, tc_X1 ma0 ma1 ma2 ma3 ma4 fh lh ee, tc_X4 ma1 tk mo su, tc_X6 o0 a0 (tm_sb G) (dw + 1) ttk tmo tsu tlv tsi tga tsl tsc tfh tlh tfo tee tlk trf pd o1 ed o2 tpu tto] H := hP
  have hD : va_D A [tc_X5 a0 ma0 ta0 lk rf pu to, tc_X1 ma0 ma1 ma2 ma3 ma4 fh lh ee, tc_X4 ma1 tk mo su, tc_X6 o0 a0 (tm_sb G) (dw + 1) ttk tmo tsu tlv tsi tga tsl tsc tfh tlh tfo tee tlk trf pd o1 ed o2 tpu tto] := hD
  refine lv_bipush (v := 8) hx hb dX6_surge_6 (by decide) ?_
  refine lv_isub hx hb dX6_surge_8 ?_
  refine lv_istore_n (lv' := [(1, .int (((f_X6_draw dw 17 (tm_sL G) (tm_xs G)).1) - 8)), (0, .ref o0)]) hx hb dX6_surge_9 rfl hl (by decide) rfl (fun ls hl => ?_)
  refine lv_aload_n hx hb dX6_surge_10 rfl (lv_at hl 1 rfl) ?_
  refine lv_iload_n hx hb dX6_surge_11 rfl (lv_at hl 0 rfl) ?_
  refine lv_i2d hx hb dX6_surge_12 ?_
  refine lv_ldc2d hx hb hown (hts (.constantDouble RX6 68 (4598175219545276416)) (List.mem_of_getElem? (i := 1) rfl)) dX6_surge_13 ?_
  refine lv_dmul hx hb dX6_surge_16 n_4 ?_
  refine va_put (D := G.1) (ci := 6) (v := .double (FP.dmul (FP.i2d (((f_X6_draw dw 17 (tm_sL G) (tm_xs G)).1) - 8)) 4598175219545276416)) (ty := .double) (C := RX6) (T := TX6) (N := 23) hx hb hts hiX6 tyX6 tyX6_ok nmX6 hown hK hP hD hS 3 rfl rfl 5 (by decide) (hts (.fieldLink RX6 79 "TideMillLaw$Told" "surge" "D") (List.mem_of_getElem? (i := 2) rfl)) (fun _ h9 => h9) rfl (by decide +kernel) rfl rfl (Nat.le_of_ble_eq_true rfl) dX6_surge_17 (fun H locs hP hD hS => ?_)
  have hP : va_P G.1 vwCl [tc_X5 a0 ma0 ta0 lk rf pu to, tc_X1 ma0 ma1 ma2 ma3 ma4 fh lh ee, tc_X4 ma1 tk mo su, tc_X6 o0 a0 (tm_sb G) (dw + 1) ttk tmo (FP.dmul (FP.i2d (((f_X6_draw dw 17 (tm_sL G) (tm_xs G)).1) - 8)) 4598175219545276416) tlv tsi tga tsl tsc tfh tlh tfo tee tlk trf pd o1 ed o2 tpu tto] H := hP
  have hD : va_D A [tc_X5 a0 ma0 ta0 lk rf pu to, tc_X1 ma0 ma1 ma2 ma3 ma4 fh lh ee, tc_X4 ma1 tk mo su, tc_X6 o0 a0 (tm_sb G) (dw + 1) ttk tmo (FP.dmul (FP.i2d (((f_X6_draw dw 17 (tm_sL G) (tm_xs G)).1) - 8)) 4598175219545276416) tlv tsi tga tsl tsc tfh tlh tfo tee tlk trf pd o1 ed o2 tpu tto] := hD
  refine lv_aload_n hx hb dX6_surge_20 rfl (lv_at hl 1 rfl) ?_
  refine va_get (D := G.1) (ci := 6) (v := .ref a0) (C := RX6) (T := TX6) (N := 23) hx hb hts hiX6 hown hK hP 3 rfl rfl 0 (by decide) (hts (.fieldLink RX6 10 "TideMillLaw$Told" "m" "LTideMill;") (List.mem_of_getElem? (i := 3) rfl)) (fun _ h9 => h9) rfl dX6_surge_21 ?_
  refine lv_iload_n hx hb dX6_surge_24 rfl (lv_at hl 0 rfl) ?_
  have hPc := hP.sub (ws' := [tc_X5 a0 ma0 ta0 lk rf pu to, tc_X1 ma0 ma1 ma2 ma3 ma4 fh lh ee, tc_X4 ma1 tk mo su]) [0, 1, 2] rfl
  have hDc := hD.sub (ws' := [tc_X5 a0 ma0 ta0 lk rf pu to, tc_X1 ma0 ma1 ma2 ma3 ma4 fh lh ee, tc_X4 ma1 tk mo su]) [0, 1, 2] (by decide) rfl
  have hFc := va_free (wc := [tc_X5 a0 ma0 ta0 lk rf pu to, tc_X1 ma0 ma1 ma2 ma3 ma4 fh lh ee, tc_X4 ma1 tk mo su]) hD hS hA [0, 1, 2] rfl
  refine va_calld (va_runV (As := [.int (((f_X6_draw dw 17 (tm_sL G) (tm_xs G)).1) - 8)]) (rest := []) ⟨hx, hb, hml, hown, hts⟩ (c_X5_surge l G a0 ma0 ta0 ma1 ma2 ma3 ma4 H.size lk rf pu to fh lh ee tk mo su (((f_X6_draw dw 17 (tm_sL G) (tm_xs G)).1) - 8) n_5) (cwV 1 hts gX6_surge_X5_surge rfl rfl rfl (by decide +kernel) ⟨(Nat.le_of_ble_eq_true rfl), (Nat.le_of_ble_eq_true rfl)⟩) (tm_preV hK hN hV hS hPc hDc hFc (va_recv hK hPc (ci := 5) (q0 := 0) rfl rfl)) rfl rfl hl.1 rfl (lv_room (Nat.le_of_ble_eq_true rfl)) dX6_surge_25 ⟨(Nat.le_of_ble_eq_true rfl), (Nat.le_of_ble_eq_true rfl)⟩) hS (fun q _ h => hFc q h) hFc (fun r_6 u t H locs ht hvm hw_6 hB hz1 hk1 hS => ?_)
  obtain ⟨u_7, rfl⟩ : ∃ z, z = u := ⟨_, rfl⟩
  obtain ⟨hP1, hD1⟩ := hB
  rw [ht] at hP1
  try dsimp only at hw_6
  obtain ⟨hP, hD⟩ := va_join (wr := [tc_X6 o0 a0 (tm_sb G) (dw + 1) ttk tmo (FP.dmul (FP.i2d (((f_X6_draw dw 17 (tm_sL G) (tm_xs G)).1) - 8)) 4598175219545276416) tlv tsi tga tsl tsc tfh tlh tfo tee tlk trf pd o1 ed o2 tpu tto]) (w1 := [tc_X5 a0 ma0 ta0 lk rf pu to, tc_X1 ma0 ma1 ma2 ma3 ma4 fh lh ee, tc_X4 ma1 tk mo u_7]) hP hD [0, 1, 2] [3] rfl rfl (by decide) (by decide) hk1 hFc hP1 hD1
  have hP : va_P G.1 vwCl [tc_X6 o0 a0 (tm_sb G) (dw + 1) ttk tmo (FP.dmul (FP.i2d (((f_X6_draw dw 17 (tm_sL G) (tm_xs G)).1) - 8)) 4598175219545276416) tlv tsi tga tsl tsc tfh tlh tfo tee tlk trf pd o1 ed o2 tpu tto, tc_X5 a0 ma0 ta0 lk rf pu to, tc_X1 ma0 ma1 ma2 ma3 ma4 fh lh ee, tc_X4 ma1 tk mo u_7] H := hP
  have hD : va_D A [tc_X6 o0 a0 (tm_sb G) (dw + 1) ttk tmo (FP.dmul (FP.i2d (((f_X6_draw dw 17 (tm_sL G) (tm_xs G)).1) - 8)) 4598175219545276416) tlv tsi tga tsl tsc tfh tlh tfo tee tlk trf pd o1 ed o2 tpu tto, tc_X5 a0 ma0 ta0 lk rf pu to, tc_X1 ma0 ma1 ma2 ma3 ma4 fh lh ee, tc_X4 ma1 tk mo u_7] := hD
  refine lv_aload_n hx hb dX6_surge_28 rfl (lv_at hl 1 rfl) ?_
  refine lv_aload_n hx hb dX6_surge_29 rfl (lv_at hl 1 rfl) ?_
  refine va_get (D := G.1) (ci := 6) (v := .int ttk) (C := RX6) (T := TX6) (N := 23) hx hb hts hiX6 hown hK hP 0 rfl rfl 3 (by decide) (hts (.fieldLink RX6 91 "TideMillLaw$Told" "tick" "I") (List.mem_of_getElem? (i := 4) rfl)) (fun _ h9 => h9) rfl dX6_surge_30 ?_
  have hPc := hP.sub (ws' := [tc_X6 o0 a0 (tm_sb G) (dw + 1) ttk tmo (FP.dmul (FP.i2d (((f_X6_draw dw 17 (tm_sL G) (tm_xs G)).1) - 8)) 4598175219545276416) tlv tsi tga tsl tsc tfh tlh tfo tee tlk trf pd o1 ed o2 tpu tto]) [0] rfl
  have hDc := hD.sub (ws' := [tc_X6 o0 a0 (tm_sb G) (dw + 1) ttk tmo (FP.dmul (FP.i2d (((f_X6_draw dw 17 (tm_sL G) (tm_xs G)).1) - 8)) 4598175219545276416) tlv tsi tga tsl tsc tfh tlh tfo tee tlk trf pd o1 ed o2 tpu tto]) [0] (by decide) rfl
  have hFc := va_free (wc := [tc_X6 o0 a0 (tm_sb G) (dw + 1) ttk tmo (FP.dmul (FP.i2d (((f_X6_draw dw 17 (tm_sL G) (tm_xs G)).1) - 8)) 4598175219545276416) tlv tsi tga tsl tsc tfh tlh tfo tee tlk trf pd o1 ed o2 tpu tto]) hD hS hA [0] rfl
  refine va_calld (va_runV (As := [.int ttk]) (rest := [.double r_6]) ⟨hx, hb, hml, hown, hts⟩ (c_X6_sea l G o0 a0 pd o1 ed o2 H.size (dw + 1) ttk tmo (FP.dmul (FP.i2d (((f_X6_draw dw 17 (tm_sL G) (tm_xs G)).1) - 8)) 4598175219545276416) tlv tsi tga tsl tsc tfh tlh tfo tee tlk trf tpu tto ttk (n_8 r_6 u_7 hw_6)) (cwV 1 hts gX6_surge_X6_sea rfl rfl rfl (by decide +kernel) ⟨(Nat.le_of_ble_eq_true rfl), (Nat.le_of_ble_eq_true rfl)⟩) (tm_preV hK hN hV hS hPc hDc hFc (va_recv hK hPc (ci := 6) (q0 := 0) rfl rfl)) rfl rfl hl.1 rfl (lv_room (Nat.le_of_ble_eq_true rfl)) dX6_surge_33 ⟨(Nat.le_of_ble_eq_true rfl), (Nat.le_of_ble_eq_true rfl)⟩) hS (fun q _ h => hFc q h) hFc (fun r_9 u t H locs ht hvm hw_9 hB hz1 hk1 hS => ?_)
  obtain ⟨hP1, hD1⟩ := hB
  rw [ht] at hP1
  try dsimp only at hw_9
  obtain ⟨hP, hD⟩ := va_join (wr := [tc_X5 a0 ma0 ta0 lk rf pu to, tc_X1 ma0 ma1 ma2 ma3 ma4 fh lh ee, tc_X4 ma1 tk mo u_7]) (w1 := [tc_X6 o0 a0 (tm_sb G) (dw + 1) ttk tmo (FP.dmul (FP.i2d (((f_X6_draw dw 17 (tm_sL G) (tm_xs G)).1) - 8)) 4598175219545276416) tlv tsi tga tsl tsc tfh tlh tfo tee tlk trf pd o1 ed o2 tpu tto]) hP hD [0] [1, 2, 3] rfl rfl (by decide) (by decide) hk1 hFc hP1 hD1
  have hP : va_P G.1 vwCl [tc_X5 a0 ma0 ta0 lk rf pu to, tc_X1 ma0 ma1 ma2 ma3 ma4 fh lh ee, tc_X4 ma1 tk mo u_7, tc_X6 o0 a0 (tm_sb G) (dw + 1) ttk tmo (FP.dmul (FP.i2d (((f_X6_draw dw 17 (tm_sL G) (tm_xs G)).1) - 8)) 4598175219545276416) tlv tsi tga tsl tsc tfh tlh tfo tee tlk trf pd o1 ed o2 tpu tto] H := hP
  have hD : va_D A [tc_X5 a0 ma0 ta0 lk rf pu to, tc_X1 ma0 ma1 ma2 ma3 ma4 fh lh ee, tc_X4 ma1 tk mo u_7, tc_X6 o0 a0 (tm_sb G) (dw + 1) ttk tmo (FP.dmul (FP.i2d (((f_X6_draw dw 17 (tm_sL G) (tm_xs G)).1) - 8)) 4598175219545276416) tlv tsi tga tsl tsc tfh tlh tfo tee tlk trf pd o1 ed o2 tpu tto] := hD
  subst r_9
  refine lv_dcmp hx hb dX6_surge_36 ?_
  refine lv_if_ne (tgt := 44) hx hb dX6_surge_37 (by decide) (fun c_10 => ?_) (fun c_10 => ?_)
  · exact absurd (n_11 r_6 u_7 hw_6) c_10
  · refine lv_iconst (v := 1) hx hb dX6_surge_40 (by decide) ?_
    refine lv_goto (tgt := 45) hx hb dX6_surge_41 (by decide) ?_
    have hP9 := hP.sub (ws' := [tc_X6 o0 a0 (tm_sb G) (dw + 1) ttk tmo (FP.dmul (FP.i2d (((f_X6_draw dw 17 (tm_sL G) (tm_xs G)).1) - 8)) 4598175219545276416) tlv tsi tga tsl tsc tfh tlh tfo tee tlk trf pd o1 ed o2 tpu tto, tc_X5 a0 ma0 ta0 lk rf pu to, tc_X1 ma0 ma1 ma2 ma3 ma4 fh lh ee, tc_X4 ma1 tk mo u_7]) [3, 0, 1, 2] rfl
    have hD9 := hD.sub (ws' := [tc_X6 o0 a0 (tm_sb G) (dw + 1) ttk tmo (FP.dmul (FP.i2d (((f_X6_draw dw 17 (tm_sL G) (tm_xs G)).1) - 8)) 4598175219545276416) tlv tsi tga tsl tsc tfh tlh tfo tee tlk trf pd o1 ed o2 tpu tto, tc_X5 a0 ma0 ta0 lk rf pu to, tc_X1 ma0 ma1 ma2 ma3 ma4 fh lh ee, tc_X4 ma1 tk mo u_7]) [3, 0, 1, 2] (by decide) rfl
    exact W.zret (v := 1) hx hb hr rfl (fun t ht hW => ⟨⟨1, (dw + 1, FP.dmul (FP.i2d (((f_X6_draw dw 17 (tm_sL G) (tm_xs G)).1) - 8)) 4598175219545276416, u_7), rfl, ⟨rfl, by unfold f_X6_surge; all_goals (rw [← hw_6]); all_goals (dsimp only); all_goals rfl⟩, by rw [ht]; exact hP9, hD9⟩, hS.F ht⟩) hS.2.2 dX6_surge_45
set_option maxHeartbeats 4000000 in
set_option maxRecDepth 100000 in
theorem c_X6_gates (l : Launch) (G : tm_G) (o0 : Nat) (a0 : Nat) (pd : Nat) (o1 : Nat) (ed : Nat) (o2 : Nat) (ma0 : Nat) (ta0 : Nat) (ma1 : Nat) (ma2 : Nat) (ma3 : Nat) (ma4 : Nat) (sz : Nat) (dw : Int32) (ttk : Int32) (tmo : Int32) (tsu : UInt64) (tlv : UInt64) (tsi : UInt32) (tga : Int32) (tsl : Int32) (tsc : Int32) (tfh : Int32) (tlh : Int32) (tfo : UInt64) (tee : Int32) (tlk : Int32) (trf : Int32) (tpu : Int32) (tto : UInt64) (lk : Int32) (rf : Int32) (pu : Int32) (to : UInt64) (fh : Int32) (lh : Int32) (ee : Int32) (lv : UInt64) (si : UInt32) (ga : Int32) (sl : Int32) (sc : Int32) (fo : UInt64) (hn : n_X6_gates dw tga tlk lk ga (tm_sL G) (tm_xs G)) : Met l yX6_gates wsX6_gates ({ frames := 2, cells := 0, slots := 0, locals := 44 }) (va_Pc [.ref o0] (tm_B G [tc_X6 o0 a0 (tm_sb G) dw ttk tmo tsu tlv tsi tga tsl tsc tfh tlh tfo tee tlk trf pd o1 ed o2 tpu tto, tc_X5 a0 ma0 ta0 lk rf pu to, tc_X1 ma0 ma1 ma2 ma3 ma4 fh lh ee, tc_X3 ma2 lv si ga sl sc fo] sz)) (va_Qi (fun (r : Int32) (u : Int32 × Int32 × Int32) => r = 1 ∧ u = f_X6_gates dw ga (tm_sL G) (tm_xs G)) (fun (u : Int32 × Int32 × Int32) (t : State) => va_P G.1 vwCl [tc_X6 o0 a0 (tm_sb G) u.1 ttk tmo tsu tlv tsi u.2.1 tsl tsc tfh tlh tfo tee tlk trf pd o1 ed o2 tpu tto, tc_X5 a0 ma0 ta0 lk rf pu to, tc_X1 ma0 ma1 ma2 ma3 ma4 fh lh ee, tc_X3 ma2 lv si u.2.2 sl sc fo] t.heap ∧ va_D (va_A [tc_X6 o0 a0 (tm_sb G) dw ttk tmo tsu tlv tsi tga tsl tsc tfh tlh tfo tee tlk trf pd o1 ed o2 tpu tto, tc_X5 a0 ma0 ta0 lk rf pu to, tc_X1 ma0 ma1 ma2 ma3 ma4 fh lh ee, tc_X3 ma2 lv si ga sl sc fo] sz) [tc_X6 o0 a0 (tm_sb G) u.1 ttk tmo tsu tlv tsi u.2.1 tsl tsc tfh tlh tfo tee tlk trf pd o1 ed o2 tpu tto, tc_X5 a0 ma0 ta0 lk rf pu to, tc_X1 ma0 ma1 ma2 ma3 ma4 fh lh ee, tc_X3 ma2 lv si u.2.2 sl sc fo]) (va_A [tc_X6 o0 a0 (tm_sb G) dw ttk tmo tsu tlv tsi tga tsl tsc tfh tlh tfo tee tlk trf pd o1 ed o2 tpu tto, tc_X5 a0 ma0 ta0 lk rf pu to, tc_X1 ma0 ma1 ma2 ma3 ma4 fh lh ee, tc_X3 ma2 lv si ga sl sc fo] sz)) 0 0 (va_A [tc_X6 o0 a0 (tm_sb G) dw ttk tmo tsu tlv tsi tga tsl tsc tfh tlh tfo tee tlk trf pd o1 ed o2 tpu tto, tc_X5 a0 ma0 ta0 lk rf pu to, tc_X1 ma0 ma1 ma2 ma3 ma4 fh lh ee, tc_X3 ma2 lv si ga sl sc fo] sz) := by
  refine Met.ofW (cc := cX6_gates) (maxL := 2) (ret := (some .boolean)) (by decide) rfl ?_
  intro p e s m args below meth c s₁ B hml hv
  obtain ⟨rfl, hsz, hP, hK, hD0, hN, hV⟩ := hv
  have hx := B.exec
  have hb := B.bytes
  have hr := B.returns
  have hts := atoms_spec (ws := wsX6_gates) B.pre
  have hown : s.vm.findClass RX6 = some m.cls := findClass_of_methodNamed B.named
  have hlocks := B.notSynchronized
  subst hsz
  obtain ⟨n_2, n_3, n_6, n_10⟩ := hn
  have hiX6 : ∀ w ∈ u_ws RX6 TX6 23, w ∈ wsX6_gates := fun _ h => List.mem_cons_of_mem _ (List.mem_append_left _ (List.mem_append_left _ (List.mem_append_left _ (List.mem_append_left _ (List.mem_append_left _ (List.mem_append_right _ h))))))
  have hD := hD0.self (sz := s.heap.size)
  generalize hAe : va_A [tc_X6 o0 a0 (tm_sb G) dw ttk tmo tsu tlv tsi tga tsl tsc tfh tlh tfo tee tlk trf pd o1 ed o2 tpu tto, tc_X5 a0 ma0 ta0 lk rf pu to, tc_X1 ma0 ma1 ma2 ma3 ma4 fh lh ee, tc_X3 ma2 lv si ga sl sc fo] s.heap.size = A at hD hV ⊢
  have hA : ∀ q : Nat, s.heap.size ≤ q → A q := fun q h => by rw [← hAe]; exact Or.inr h
  have hS : va_S A s.heap s.heap [] := va_S.rf
  have hl := lv_entry ([.ref o0]) (n := 2) (Nat.le_of_ble_eq_true rfl)
  rw [lg_entry_eq]
  generalize (lg_sl ([.ref o0]) ++ List.replicate (2 - (lg_sl ([.ref o0])).length) Slot.unset).toArray = ls at hl ⊢
  have hl : lv_has ls 2 [(0, .ref o0)] := hl
  refine lv_aload_n hx hb dX6_gates_0 rfl (lv_at hl 0 rfl) ?_
  refine va_get (D := G.1) (ci := 6) (v := .int tlk) (C := RX6) (T := TX6) (N := 23) hx hb hts hiX6 hown hK hP 0 rfl rfl 15 (by decide) (hts (.fieldLink RX6 144 "TideMillLaw$Told" "isLocked" "Z") (List.mem_of_getElem? (i := 1) rfl)) (fun _ h9 => h9) rfl dX6_gates_1 ?_
  refine lv_if_eq (tgt := 9) hx hb dX6_gates_4 (by decide) (fun c_1 => ?_) (fun c_1 => ?_)
  · refine lv_aload_n hx hb dX6_gates_9 rfl (lv_at hl 0 rfl) ?_
    refine va_get (D := G.1) (ci := 6) (v := .int tga) (C := RX6) (T := TX6) (N := 23) hx hb hts hiX6 hown hK hP 0 rfl rfl 8 (by decide) (hts (.fieldLink RX6 101 "TideMillLaw$Told" "gates" "I") (List.mem_of_getElem? (i := 2) rfl)) (fun _ h9 => h9) rfl dX6_gates_10 ?_
    refine lv_istore_n (lv' := [(1, .int tga), (0, .ref o0)]) hx hb dX6_gates_13 rfl hl (by decide) rfl (fun ls hl => ?_)
    refine lv_aload_n hx hb dX6_gates_14 rfl (lv_at hl 1 rfl) ?_
    refine lv_aload_n hx hb dX6_gates_15 rfl (lv_at hl 1 rfl) ?_
    refine lv_iconst (v := 4) hx hb dX6_gates_16 (by decide) ?_
    have hPc := hP.sub (ws' := [tc_X6 o0 a0 (tm_sb G) dw ttk tmo tsu tlv tsi tga tsl tsc tfh tlh tfo tee tlk trf pd o1 ed o2 tpu tto]) [0] rfl
    have hDc := hD.sub (ws' := [tc_X6 o0 a0 (tm_sb G) dw ttk tmo tsu tlv tsi tga tsl tsc tfh tlh tfo tee tlk trf pd o1 ed o2 tpu tto]) [0] (by decide) rfl
    have hFc := va_free (wc := [tc_X6 o0 a0 (tm_sb G) dw ttk tmo tsu tlv tsi tga tsl tsc tfh tlh tfo tee tlk trf pd o1 ed o2 tpu tto]) hD hS hA [0] rfl
    refine va_calli (va_runV (As := [.int 4]) (rest := [.ref o0]) ⟨hx, hb, hml, hown, hts⟩ (c_X6_draw l G o0 a0 pd o1 ed o2 s.heap.size dw ttk tmo tsu tlv tsi tga tsl tsc tfh tlh tfo tee tlk trf tpu tto 4 n_3) (cwV 1 hts gX6_gates_X6_draw rfl rfl rfl (by decide +kernel) ⟨(Nat.le_of_ble_eq_true rfl), (Nat.le_of_ble_eq_true rfl)⟩) (tm_preV hK hN hV hS hPc hDc hFc (va_recv hK hPc (ci := 6) (q0 := 0) rfl rfl)) rfl rfl hl.1 rfl (lv_room (Nat.le_of_ble_eq_true rfl)) dX6_gates_17 ⟨(Nat.le_of_ble_eq_true rfl), (Nat.le_of_ble_eq_true rfl)⟩) hS (fun q _ h => hFc q h) hFc (fun r_4 u t H locs ht hvm hw_4 hB hz1 hk1 hS => ?_)
    obtain ⟨u_5, rfl⟩ : ∃ z, z = u := ⟨_, rfl⟩
    obtain ⟨hP1, hD1⟩ := hB
    rw [ht] at hP1
    try dsimp only at hw_4
    obtain ⟨hP, hD⟩ := va_join (wr := [tc_X5 a0 ma0 ta0 lk rf pu to, tc_X1 ma0 ma1 ma2 ma3 ma4 fh lh ee, tc_X3 ma2 lv si ga sl sc fo]) (w1 := [tc_X6 o0 a0 (tm_sb G) u_5 ttk tmo tsu tlv tsi tga tsl tsc tfh tlh tfo tee tlk trf pd o1 ed o2 tpu tto]) hP hD [0] [1, 2, 3] rfl rfl (by decide) (by decide) hk1 hFc hP1 hD1
    have hP : va_P G.1 vwCl [tc_X5 a0 ma0 ta0 lk rf pu to, tc_X1 ma0 ma1 ma2 ma3 ma4 fh lh ee, tc_X3 ma2 lv si ga sl sc fo, tc_X6 o0 a0 (tm_sb G) u_5 ttk tmo tsu tlv tsi tga tsl tsc tfh tlh tfo tee tlk trf pd o1 ed o2 tpu tto] H := hP
    have hD : va_D A [tc_X5 a0 ma0 ta0 lk rf pu to, tc_X1 ma0 ma1 ma2 ma3 ma4 fh lh ee, tc_X3 ma2 lv si ga sl sc fo, tc_X6 o0 a0 (tm_sb G) u_5 ttk tmo tsu tlv tsi tga tsl tsc tfh tlh tfo tee tlk trf pd o1 ed o2 tpu tto] := hD
    have e_r_4 : r_4 = (f_X6_draw dw 4 (tm_sL G) (tm_xs G)).1 := congrArg (fun z => z.1) hw_4
    have e_u_5 : u_5 = dw + 1 := congrArg (fun z => z.2) hw_4
    subst e_r_4
    subst e_u_5
    have hP : va_P G.1 vwCl [tc_X5 a0 ma0 ta0 lk rf pu to, tc_X1 ma0 ma1 ma2 ma3 ma4 fh lh ee, tc_X3 ma2 lv si ga sl sc fo, tc_X6 o0 a0 (tm_sb G) (dw + 1) ttk tmo tsu tlv tsi tga tsl tsc tfh tlh tfo tee tlk trf pd o1 ed o2 tpu tto] H := hP
    have hD : va_D A [tc_X5 a0 ma0 ta0 lk rf pu to, tc_X1 ma0 ma1 ma2 ma3 ma4 fh lh ee, tc_X3 ma2 lv si ga sl sc fo, tc_X6 o0 a0 (tm_sb G) (dw + 1) ttk tmo tsu tlv tsi tga tsl tsc tfh tlh tfo tee tlk trf pd o1 ed o2 tpu tto] := hD
    refine va_put (D := G.1) (ci := 6) (v := .int ((f_X6_draw dw 4 (tm_sL G) (tm_xs G)).1)) (ty := .int) (C := RX6) (T := TX6) (N := 23) hx hb hts hiX6 tyX6 tyX6_ok nmX6 hown hK hP hD hS 3 rfl rfl 8 (by decide) (hts (.fieldLink RX6 101 "TideMillLaw$Told" "gates" "I") (List.mem_of_getElem? (i := 2) rfl)) (fun _ h9 => h9) rfl (by decide +kernel) rfl rfl (Nat.le_of_ble_eq_true rfl) dX6_gates_20 (fun H locs hP hD hS => ?_)
    have hP : va_P G.1 vwCl [tc_X5 a0 ma0 ta0 lk rf pu to, tc_X1 ma0 ma1 ma2 ma3 ma4 fh lh ee, tc_X3 ma2 lv si ga sl sc fo, tc_X6 o0 a0 (tm_sb G) (dw + 1) ttk tmo tsu tlv tsi ((f_X6_draw dw 4 (tm_sL G) (tm_xs G)).1) tsl tsc tfh tlh tfo tee tlk trf pd o1 ed o2 tpu tto] H := hP
    have hD : va_D A [tc_X5 a0 ma0 ta0 lk rf pu to, tc_X1 ma0 ma1 ma2 ma3 ma4 fh lh ee, tc_X3 ma2 lv si ga sl sc fo, tc_X6 o0 a0 (tm_sb G) (dw + 1) ttk tmo tsu tlv tsi ((f_X6_draw dw 4 (tm_sL G) (tm_xs G)).1) tsl tsc tfh tlh tfo tee tlk trf pd o1 ed o2 tpu tto] := hD
    refine lv_aload_n hx hb dX6_gates_23 rfl (lv_at hl 1 rfl) ?_
    refine va_get (D := G.1) (ci := 6) (v := .ref a0) (C := RX6) (T := TX6) (N := 23) hx hb hts hiX6 hown hK hP 3 rfl rfl 0 (by decide) (hts (.fieldLink RX6 10 "TideMillLaw$Told" "m" "LTideMill;") (List.mem_of_getElem? (i := 3) rfl)) (fun _ h9 => h9) rfl dX6_gates_24 ?_
    refine lv_aload_n hx hb dX6_gates_27 rfl (lv_at hl 1 rfl) ?_
    refine va_get (D := G.1) (ci := 6) (v := .int ((f_X6_draw dw 4 (tm_sL G) (tm_xs G)).1)) (C := RX6) (T := TX6) (N := 23) hx hb hts hiX6 hown hK hP 3 rfl rfl 8 (by decide) (hts (.fieldLink RX6 101 "TideMillLaw$Told" "gates" "I") (List.mem_of_getElem? (i := 2) rfl)) (fun _ h9 => h9) rfl dX6_gates_28 ?_
    have hPc := hP.sub (ws' := [tc_X5 a0 ma0 ta0 lk rf pu to, tc_X1 ma0 ma1 ma2 ma3 ma4 fh lh ee, tc_X3 ma2 lv si ga sl sc fo]) [0, 1, 2] rfl
    have hDc := hD.sub (ws' := [tc_X5 a0 ma0 ta0 lk rf pu to, tc_X1 ma0 ma1 ma2 ma3 ma4 fh lh ee, tc_X3 ma2 lv si ga sl sc fo]) [0, 1, 2] (by decide) rfl
    have hFc := va_free (wc := [tc_X5 a0 ma0 ta0 lk rf pu to, tc_X1 ma0 ma1 ma2 ma3 ma4 fh lh ee, tc_X3 ma2 lv si ga sl sc fo]) hD hS hA [0, 1, 2] rfl
    refine va_calli (va_runV (As := [.int ((f_X6_draw dw 4 (tm_sL G) (tm_xs G)).1)]) (rest := []) ⟨hx, hb, hml, hown, hts⟩ (c_X5_gates l G a0 ma0 ta0 ma1 ma2 ma3 ma4 H.size lk rf pu to fh lh ee lv si ga sl sc fo ((f_X6_draw dw 4 (tm_sL G) (tm_xs G)).1) n_6) (cwV 1 hts gX6_gates_X5_gates rfl rfl rfl (by decide +kernel) ⟨(Nat.le_of_ble_eq_true rfl), (Nat.le_of_ble_eq_true rfl)⟩) (tm_preV hK hN hV hS hPc hDc hFc (va_recv hK hPc (ci := 5) (q0 := 0) rfl rfl)) rfl rfl hl.1 rfl (lv_room (Nat.le_of_ble_eq_true rfl)) dX6_gates_31 ⟨(Nat.le_of_ble_eq_true rfl), (Nat.le_of_ble_eq_true rfl)⟩) hS (fun q _ h => hFc q h) hFc (fun r_7 u t H locs ht hvm hw_7 hB hz1 hk1 hS => ?_)
    obtain ⟨u_8, rfl⟩ : ∃ z, z = u := ⟨_, rfl⟩
    obtain ⟨hP1, hD1⟩ := hB
    rw [ht] at hP1
    try dsimp only at hw_7
    obtain ⟨hP, hD⟩ := va_join (wr := [tc_X6 o0 a0 (tm_sb G) (dw + 1) ttk tmo tsu tlv tsi ((f_X6_draw dw 4 (tm_sL G) (tm_xs G)).1) tsl tsc tfh tlh tfo tee tlk trf pd o1 ed o2 tpu tto]) (w1 := [tc_X5 a0 ma0 ta0 lk rf pu to, tc_X1 ma0 ma1 ma2 ma3 ma4 fh lh ee, tc_X3 ma2 lv si u_8 sl sc fo]) hP hD [0, 1, 2] [3] rfl rfl (by decide) (by decide) hk1 hFc hP1 hD1
    have hP : va_P G.1 vwCl [tc_X6 o0 a0 (tm_sb G) (dw + 1) ttk tmo tsu tlv tsi ((f_X6_draw dw 4 (tm_sL G) (tm_xs G)).1) tsl tsc tfh tlh tfo tee tlk trf pd o1 ed o2 tpu tto, tc_X5 a0 ma0 ta0 lk rf pu to, tc_X1 ma0 ma1 ma2 ma3 ma4 fh lh ee, tc_X3 ma2 lv si u_8 sl sc fo] H := hP
    have hD : va_D A [tc_X6 o0 a0 (tm_sb G) (dw + 1) ttk tmo tsu tlv tsi ((f_X6_draw dw 4 (tm_sL G) (tm_xs G)).1) tsl tsc tfh tlh tfo tee tlk trf pd o1 ed o2 tpu tto, tc_X5 a0 ma0 ta0 lk rf pu to, tc_X1 ma0 ma1 ma2 ma3 ma4 fh lh ee, tc_X3 ma2 lv si u_8 sl sc fo] := hD
    refine lv_iload_n hx hb dX6_gates_34 rfl (lv_at hl 0 rfl) ?_
    refine lv_icmp_ne (tgt := 42) hx hb dX6_gates_35 (by decide) (fun c_9 => ?_) (fun c_9 => ?_)
    · exact absurd (n_10 r_7 u_8 hw_7) c_9
    · refine lv_iconst (v := 1) hx hb dX6_gates_38 (by decide) ?_
      refine lv_goto (tgt := 43) hx hb dX6_gates_39 (by decide) ?_
      have hP9 := hP.sub (ws' := [tc_X6 o0 a0 (tm_sb G) (dw + 1) ttk tmo tsu tlv tsi ((f_X6_draw dw 4 (tm_sL G) (tm_xs G)).1) tsl tsc tfh tlh tfo tee tlk trf pd o1 ed o2 tpu tto, tc_X5 a0 ma0 ta0 lk rf pu to, tc_X1 ma0 ma1 ma2 ma3 ma4 fh lh ee, tc_X3 ma2 lv si u_8 sl sc fo]) [0, 1, 2, 3] rfl
      have hD9 := hD.sub (ws' := [tc_X6 o0 a0 (tm_sb G) (dw + 1) ttk tmo tsu tlv tsi ((f_X6_draw dw 4 (tm_sL G) (tm_xs G)).1) tsl tsc tfh tlh tfo tee tlk trf pd o1 ed o2 tpu tto, tc_X5 a0 ma0 ta0 lk rf pu to, tc_X1 ma0 ma1 ma2 ma3 ma4 fh lh ee, tc_X3 ma2 lv si u_8 sl sc fo]) [0, 1, 2, 3] (by decide) rfl
      exact W.zret (v := 1) hx hb hr rfl (fun t ht hW => ⟨⟨1, (dw + 1, (f_X6_draw dw 4 (tm_sL G) (tm_xs G)).1, u_8), rfl, ⟨rfl, by unfold f_X6_gates; all_goals (rw [← hw_7]); all_goals (dsimp only); all_goals rfl⟩, by rw [ht]; exact hP9, hD9⟩, hS.F ht⟩) hS.2.2 dX6_gates_43
  · exact absurd n_2 c_1
set_option maxHeartbeats 4000000 in
set_option maxRecDepth 100000 in
theorem c_X6_sluice (l : Launch) (G : tm_G) (o0 : Nat) (a0 : Nat) (pd : Nat) (o1 : Nat) (ed : Nat) (o2 : Nat) (ma0 : Nat) (ta0 : Nat) (ma1 : Nat) (ma2 : Nat) (ma3 : Nat) (ma4 : Nat) (sz : Nat) (dw : Int32) (ttk : Int32) (tmo : Int32) (tsu : UInt64) (tlv : UInt64) (tsi : UInt32) (tga : Int32) (tsl : Int32) (tsc : Int32) (tfh : Int32) (tlh : Int32) (tfo : UInt64) (tee : Int32) (tlk : Int32) (trf : Int32) (tpu : Int32) (tto : UInt64) (lk : Int32) (rf : Int32) (pu : Int32) (to : UInt64) (fh : Int32) (lh : Int32) (ee : Int32) (lv : UInt64) (si : UInt32) (ga : Int32) (sl : Int32) (sc : Int32) (fo : UInt64) (hn : n_X6_sluice dw tsl sl (tm_sL G) (tm_xs G)) : Met l yX6_sluice wsX6_sluice ({ frames := 2, cells := 0, slots := 0, locals := 44 }) (va_Pc [.ref o0] (tm_B G [tc_X6 o0 a0 (tm_sb G) dw ttk tmo tsu tlv tsi tga tsl tsc tfh tlh tfo tee tlk trf pd o1 ed o2 tpu tto, tc_X5 a0 ma0 ta0 lk rf pu to, tc_X1 ma0 ma1 ma2 ma3 ma4 fh lh ee, tc_X3 ma2 lv si ga sl sc fo] sz)) (va_Qi (fun (r : Int32) (u : Int32 × Int32 × Int32) => r = 1 ∧ u = f_X6_sluice dw sl (tm_sL G) (tm_xs G)) (fun (u : Int32 × Int32 × Int32) (t : State) => va_P G.1 vwCl [tc_X6 o0 a0 (tm_sb G) u.1 ttk tmo tsu tlv tsi tga u.2.1 tsc tfh tlh tfo tee tlk trf pd o1 ed o2 tpu tto, tc_X5 a0 ma0 ta0 lk rf pu to, tc_X1 ma0 ma1 ma2 ma3 ma4 fh lh ee, tc_X3 ma2 lv si ga u.2.2 sc fo] t.heap ∧ va_D (va_A [tc_X6 o0 a0 (tm_sb G) dw ttk tmo tsu tlv tsi tga tsl tsc tfh tlh tfo tee tlk trf pd o1 ed o2 tpu tto, tc_X5 a0 ma0 ta0 lk rf pu to, tc_X1 ma0 ma1 ma2 ma3 ma4 fh lh ee, tc_X3 ma2 lv si ga sl sc fo] sz) [tc_X6 o0 a0 (tm_sb G) u.1 ttk tmo tsu tlv tsi tga u.2.1 tsc tfh tlh tfo tee tlk trf pd o1 ed o2 tpu tto, tc_X5 a0 ma0 ta0 lk rf pu to, tc_X1 ma0 ma1 ma2 ma3 ma4 fh lh ee, tc_X3 ma2 lv si ga u.2.2 sc fo]) (va_A [tc_X6 o0 a0 (tm_sb G) dw ttk tmo tsu tlv tsi tga tsl tsc tfh tlh tfo tee tlk trf pd o1 ed o2 tpu tto, tc_X5 a0 ma0 ta0 lk rf pu to, tc_X1 ma0 ma1 ma2 ma3 ma4 fh lh ee, tc_X3 ma2 lv si ga sl sc fo] sz)) 0 0 (va_A [tc_X6 o0 a0 (tm_sb G) dw ttk tmo tsu tlv tsi tga tsl tsc tfh tlh tfo tee tlk trf pd o1 ed o2 tpu tto, tc_X5 a0 ma0 ta0 lk rf pu to, tc_X1 ma0 ma1 ma2 ma3 ma4 fh lh ee, tc_X3 ma2 lv si ga sl sc fo] sz) := by
  refine Met.ofW (cc := cX6_sluice) (maxL := 2) (ret := (some .boolean)) (by decide) rfl ?_
  intro p e s m args below meth c s₁ B hml hv
  obtain ⟨rfl, hsz, hP, hK, hD0, hN, hV⟩ := hv
  have hx := B.exec
  have hb := B.bytes
  have hr := B.returns
  have hts := atoms_spec (ws := wsX6_sluice) B.pre
  have hown : s.vm.findClass RX6 = some m.cls := findClass_of_methodNamed B.named
  have hlocks := B.notSynchronized
  subst hsz
  obtain ⟨n_1, n_4, n_8⟩ := hn
  have hiX6 : ∀ w ∈ u_ws RX6 TX6 23, w ∈ wsX6_sluice := fun _ h => List.mem_cons_of_mem _ (List.mem_append_left _ (List.mem_append_left _ (List.mem_append_left _ (List.mem_append_left _ (List.mem_append_right _ h)))))
  have hD := hD0.self (sz := s.heap.size)
  generalize hAe : va_A [tc_X6 o0 a0 (tm_sb G) dw ttk tmo tsu tlv tsi tga tsl tsc tfh tlh tfo tee tlk trf pd o1 ed o2 tpu tto, tc_X5 a0 ma0 ta0 lk rf pu to, tc_X1 ma0 ma1 ma2 ma3 ma4 fh lh ee, tc_X3 ma2 lv si ga sl sc fo] s.heap.size = A at hD hV ⊢
  have hA : ∀ q : Nat, s.heap.size ≤ q → A q := fun q h => by rw [← hAe]; exact Or.inr h
  have hS : va_S A s.heap s.heap [] := va_S.rf
  have hl := lv_entry ([.ref o0]) (n := 2) (Nat.le_of_ble_eq_true rfl)
  rw [lg_entry_eq]
  generalize (lg_sl ([.ref o0]) ++ List.replicate (2 - (lg_sl ([.ref o0])).length) Slot.unset).toArray = ls at hl ⊢
  have hl : lv_has ls 2 [(0, .ref o0)] := hl
  refine lv_aload_n hx hb dX6_sluice_0 rfl (lv_at hl 0 rfl) ?_
  refine va_get (D := G.1) (ci := 6) (v := .int tsl) (C := RX6) (T := TX6) (N := 23) hx hb hts hiX6 hown hK hP 0 rfl rfl 9 (by decide) (hts (.fieldLink RX6 118 "TideMillLaw$Told" "sluice" "I") (List.mem_of_getElem? (i := 1) rfl)) (fun _ h9 => h9) rfl dX6_sluice_1 ?_
  refine lv_istore_n (lv' := [(1, .int tsl), (0, .ref o0)]) hx hb dX6_sluice_4 rfl hl (by decide) rfl (fun ls hl => ?_)
  refine lv_aload_n hx hb dX6_sluice_5 rfl (lv_at hl 1 rfl) ?_
  refine lv_aload_n hx hb dX6_sluice_6 rfl (lv_at hl 1 rfl) ?_
  refine lv_iconst (v := 5) hx hb dX6_sluice_7 (by decide) ?_
  have hPc := hP.sub (ws' := [tc_X6 o0 a0 (tm_sb G) dw ttk tmo tsu tlv tsi tga tsl tsc tfh tlh tfo tee tlk trf pd o1 ed o2 tpu tto]) [0] rfl
  have hDc := hD.sub (ws' := [tc_X6 o0 a0 (tm_sb G) dw ttk tmo tsu tlv tsi tga tsl tsc tfh tlh tfo tee tlk trf pd o1 ed o2 tpu tto]) [0] (by decide) rfl
  have hFc := va_free (wc := [tc_X6 o0 a0 (tm_sb G) dw ttk tmo tsu tlv tsi tga tsl tsc tfh tlh tfo tee tlk trf pd o1 ed o2 tpu tto]) hD hS hA [0] rfl
  refine va_calli (va_runV (As := [.int 5]) (rest := [.ref o0]) ⟨hx, hb, hml, hown, hts⟩ (c_X6_draw l G o0 a0 pd o1 ed o2 s.heap.size dw ttk tmo tsu tlv tsi tga tsl tsc tfh tlh tfo tee tlk trf tpu tto 5 n_1) (cwV 1 hts gX6_sluice_X6_draw rfl rfl rfl (by decide +kernel) ⟨(Nat.le_of_ble_eq_true rfl), (Nat.le_of_ble_eq_true rfl)⟩) (tm_preV hK hN hV hS hPc hDc hFc (va_recv hK hPc (ci := 6) (q0 := 0) rfl rfl)) rfl rfl hl.1 rfl (lv_room (Nat.le_of_ble_eq_true rfl)) dX6_sluice_8 ⟨(Nat.le_of_ble_eq_true rfl), (Nat.le_of_ble_eq_true rfl)⟩) hS (fun q _ h => hFc q h) hFc (fun r_2 u t H locs ht hvm hw_2 hB hz1 hk1 hS => ?_)
  obtain ⟨u_3, rfl⟩ : ∃ z, z = u := ⟨_, rfl⟩
  obtain ⟨hP1, hD1⟩ := hB
  rw [ht] at hP1
  try dsimp only at hw_2
  obtain ⟨hP, hD⟩ := va_join (wr := [tc_X5 a0 ma0 ta0 lk rf pu to, tc_X1 ma0 ma1 ma2 ma3 ma4 fh lh ee, tc_X3 ma2 lv si ga sl sc fo]) (w1 := [tc_X6 o0 a0 (tm_sb G) u_3 ttk tmo tsu tlv tsi tga tsl tsc tfh tlh tfo tee tlk trf pd o1 ed o2 tpu tto]) hP hD [0] [1, 2, 3] rfl rfl (by decide) (by decide) hk1 hFc hP1 hD1
  have hP : va_P G.1 vwCl [tc_X5 a0 ma0 ta0 lk rf pu to, tc_X1 ma0 ma1 ma2 ma3 ma4 fh lh ee, tc_X3 ma2 lv si ga sl sc fo, tc_X6 o0 a0 (tm_sb G) u_3 ttk tmo tsu tlv tsi tga tsl tsc tfh tlh tfo tee tlk trf pd o1 ed o2 tpu tto] H := hP
  have hD : va_D A [tc_X5 a0 ma0 ta0 lk rf pu to, tc_X1 ma0 ma1 ma2 ma3 ma4 fh lh ee, tc_X3 ma2 lv si ga sl sc fo, tc_X6 o0 a0 (tm_sb G) u_3 ttk tmo tsu tlv tsi tga tsl tsc tfh tlh tfo tee tlk trf pd o1 ed o2 tpu tto] := hD
  have e_r_2 : r_2 = (f_X6_draw dw 5 (tm_sL G) (tm_xs G)).1 := congrArg (fun z => z.1) hw_2
  have e_u_3 : u_3 = dw + 1 := congrArg (fun z => z.2) hw_2
  subst e_r_2
  subst e_u_3
  have hP : va_P G.1 vwCl [tc_X5 a0 ma0 ta0 lk rf pu to, tc_X1 ma0 ma1 ma2 ma3 ma4 fh lh ee, tc_X3 ma2 lv si ga sl sc fo, tc_X6 o0 a0 (tm_sb G) (dw + 1) ttk tmo tsu tlv tsi tga tsl tsc tfh tlh tfo tee tlk trf pd o1 ed o2 tpu tto] H := hP
  have hD : va_D A [tc_X5 a0 ma0 ta0 lk rf pu to, tc_X1 ma0 ma1 ma2 ma3 ma4 fh lh ee, tc_X3 ma2 lv si ga sl sc fo, tc_X6 o0 a0 (tm_sb G) (dw + 1) ttk tmo tsu tlv tsi tga tsl tsc tfh tlh tfo tee tlk trf pd o1 ed o2 tpu tto] := hD
  refine va_put (D := G.1) (ci := 6) (v := .int ((f_X6_draw dw 5 (tm_sL G) (tm_xs G)).1)) (ty := .int) (C := RX6) (T := TX6) (N := 23) hx hb hts hiX6 tyX6 tyX6_ok nmX6 hown hK hP hD hS 3 rfl rfl 9 (by decide) (hts (.fieldLink RX6 118 "TideMillLaw$Told" "sluice" "I") (List.mem_of_getElem? (i := 1) rfl)) (fun _ h9 => h9) rfl (by decide +kernel) rfl rfl (Nat.le_of_ble_eq_true rfl) dX6_sluice_11 (fun H locs hP hD hS => ?_)
  have hP : va_P G.1 vwCl [tc_X5 a0 ma0 ta0 lk rf pu to, tc_X1 ma0 ma1 ma2 ma3 ma4 fh lh ee, tc_X3 ma2 lv si ga sl sc fo, tc_X6 o0 a0 (tm_sb G) (dw + 1) ttk tmo tsu tlv tsi tga ((f_X6_draw dw 5 (tm_sL G) (tm_xs G)).1) tsc tfh tlh tfo tee tlk trf pd o1 ed o2 tpu tto] H := hP
  have hD : va_D A [tc_X5 a0 ma0 ta0 lk rf pu to, tc_X1 ma0 ma1 ma2 ma3 ma4 fh lh ee, tc_X3 ma2 lv si ga sl sc fo, tc_X6 o0 a0 (tm_sb G) (dw + 1) ttk tmo tsu tlv tsi tga ((f_X6_draw dw 5 (tm_sL G) (tm_xs G)).1) tsc tfh tlh tfo tee tlk trf pd o1 ed o2 tpu tto] := hD
  refine lv_aload_n hx hb dX6_sluice_14 rfl (lv_at hl 1 rfl) ?_
  refine va_get (D := G.1) (ci := 6) (v := .ref a0) (C := RX6) (T := TX6) (N := 23) hx hb hts hiX6 hown hK hP 3 rfl rfl 0 (by decide) (hts (.fieldLink RX6 10 "TideMillLaw$Told" "m" "LTideMill;") (List.mem_of_getElem? (i := 2) rfl)) (fun _ h9 => h9) rfl dX6_sluice_15 ?_
  refine lv_aload_n hx hb dX6_sluice_18 rfl (lv_at hl 1 rfl) ?_
  refine va_get (D := G.1) (ci := 6) (v := .int ((f_X6_draw dw 5 (tm_sL G) (tm_xs G)).1)) (C := RX6) (T := TX6) (N := 23) hx hb hts hiX6 hown hK hP 3 rfl rfl 9 (by decide) (hts (.fieldLink RX6 118 "TideMillLaw$Told" "sluice" "I") (List.mem_of_getElem? (i := 1) rfl)) (fun _ h9 => h9) rfl dX6_sluice_19 ?_
  have hPc := hP.sub (ws' := [tc_X5 a0 ma0 ta0 lk rf pu to, tc_X1 ma0 ma1 ma2 ma3 ma4 fh lh ee, tc_X3 ma2 lv si ga sl sc fo]) [0, 1, 2] rfl
  have hDc := hD.sub (ws' := [tc_X5 a0 ma0 ta0 lk rf pu to, tc_X1 ma0 ma1 ma2 ma3 ma4 fh lh ee, tc_X3 ma2 lv si ga sl sc fo]) [0, 1, 2] (by decide) rfl
  have hFc := va_free (wc := [tc_X5 a0 ma0 ta0 lk rf pu to, tc_X1 ma0 ma1 ma2 ma3 ma4 fh lh ee, tc_X3 ma2 lv si ga sl sc fo]) hD hS hA [0, 1, 2] rfl
  refine va_calli (va_runV (As := [.int ((f_X6_draw dw 5 (tm_sL G) (tm_xs G)).1)]) (rest := []) ⟨hx, hb, hml, hown, hts⟩ (c_X5_sluice l G a0 ma0 ta0 ma1 ma2 ma3 ma4 H.size lk rf pu to fh lh ee lv si ga sl sc fo ((f_X6_draw dw 5 (tm_sL G) (tm_xs G)).1) n_4) (cwV 1 hts gX6_sluice_X5_sluice rfl rfl rfl (by decide +kernel) ⟨(Nat.le_of_ble_eq_true rfl), (Nat.le_of_ble_eq_true rfl)⟩) (tm_preV hK hN hV hS hPc hDc hFc (va_recv hK hPc (ci := 5) (q0 := 0) rfl rfl)) rfl rfl hl.1 rfl (lv_room (Nat.le_of_ble_eq_true rfl)) dX6_sluice_22 ⟨(Nat.le_of_ble_eq_true rfl), (Nat.le_of_ble_eq_true rfl)⟩) hS (fun q _ h => hFc q h) hFc (fun r_5 u t H locs ht hvm hw_5 hB hz1 hk1 hS => ?_)
  obtain ⟨u_6, rfl⟩ : ∃ z, z = u := ⟨_, rfl⟩
  obtain ⟨hP1, hD1⟩ := hB
  rw [ht] at hP1
  try dsimp only at hw_5
  obtain ⟨hP, hD⟩ := va_join (wr := [tc_X6 o0 a0 (tm_sb G) (dw + 1) ttk tmo tsu tlv tsi tga ((f_X6_draw dw 5 (tm_sL G) (tm_xs G)).1) tsc tfh tlh tfo tee tlk trf pd o1 ed o2 tpu tto]) (w1 := [tc_X5 a0 ma0 ta0 lk rf pu to, tc_X1 ma0 ma1 ma2 ma3 ma4 fh lh ee, tc_X3 ma2 lv si ga u_6 sc fo]) hP hD [0, 1, 2] [3] rfl rfl (by decide) (by decide) hk1 hFc hP1 hD1
  have hP : va_P G.1 vwCl [tc_X6 o0 a0 (tm_sb G) (dw + 1) ttk tmo tsu tlv tsi tga ((f_X6_draw dw 5 (tm_sL G) (tm_xs G)).1) tsc tfh tlh tfo tee tlk trf pd o1 ed o2 tpu tto, tc_X5 a0 ma0 ta0 lk rf pu to, tc_X1 ma0 ma1 ma2 ma3 ma4 fh lh ee, tc_X3 ma2 lv si ga u_6 sc fo] H := hP
  have hD : va_D A [tc_X6 o0 a0 (tm_sb G) (dw + 1) ttk tmo tsu tlv tsi tga ((f_X6_draw dw 5 (tm_sL G) (tm_xs G)).1) tsc tfh tlh tfo tee tlk trf pd o1 ed o2 tpu tto, tc_X5 a0 ma0 ta0 lk rf pu to, tc_X1 ma0 ma1 ma2 ma3 ma4 fh lh ee, tc_X3 ma2 lv si ga u_6 sc fo] := hD
  refine lv_iload_n hx hb dX6_sluice_25 rfl (lv_at hl 0 rfl) ?_
  refine lv_icmp_ne (tgt := 33) hx hb dX6_sluice_26 (by decide) (fun c_7 => ?_) (fun c_7 => ?_)
  · exact absurd (n_8 r_5 u_6 hw_5) c_7
  · refine lv_iconst (v := 1) hx hb dX6_sluice_29 (by decide) ?_
    refine lv_goto (tgt := 34) hx hb dX6_sluice_30 (by decide) ?_
    have hP9 := hP.sub (ws' := [tc_X6 o0 a0 (tm_sb G) (dw + 1) ttk tmo tsu tlv tsi tga ((f_X6_draw dw 5 (tm_sL G) (tm_xs G)).1) tsc tfh tlh tfo tee tlk trf pd o1 ed o2 tpu tto, tc_X5 a0 ma0 ta0 lk rf pu to, tc_X1 ma0 ma1 ma2 ma3 ma4 fh lh ee, tc_X3 ma2 lv si ga u_6 sc fo]) [0, 1, 2, 3] rfl
    have hD9 := hD.sub (ws' := [tc_X6 o0 a0 (tm_sb G) (dw + 1) ttk tmo tsu tlv tsi tga ((f_X6_draw dw 5 (tm_sL G) (tm_xs G)).1) tsc tfh tlh tfo tee tlk trf pd o1 ed o2 tpu tto, tc_X5 a0 ma0 ta0 lk rf pu to, tc_X1 ma0 ma1 ma2 ma3 ma4 fh lh ee, tc_X3 ma2 lv si ga u_6 sc fo]) [0, 1, 2, 3] (by decide) rfl
    exact W.zret (v := 1) hx hb hr rfl (fun t ht hW => ⟨⟨1, (dw + 1, (f_X6_draw dw 5 (tm_sL G) (tm_xs G)).1, u_6), rfl, ⟨rfl, by unfold f_X6_sluice; all_goals (rw [← hw_5]); all_goals (dsimp only); all_goals rfl⟩, by rw [ht]; exact hP9, hD9⟩, hS.F ht⟩) hS.2.2 dX6_sluice_34
set_option maxHeartbeats 4000000 in
set_option maxRecDepth 100000 in
theorem c_X6_scour (l : Launch) (G : tm_G) (o0 : Nat) (a0 : Nat) (pd : Nat) (o1 : Nat) (ed : Nat) (o2 : Nat) (ma0 : Nat) (ta0 : Nat) (ma1 : Nat) (ma2 : Nat) (ma3 : Nat) (ma4 : Nat) (sz : Nat) (dw : Int32) (ttk : Int32) (tmo : Int32) (tsu : UInt64) (tlv : UInt64) (tsi : UInt32) (tga : Int32) (tsl : Int32) (tsc : Int32) (tfh : Int32) (tlh : Int32) (tfo : UInt64) (tee : Int32) (tlk : Int32) (trf : Int32) (tpu : Int32) (tto : UInt64) (lk : Int32) (rf : Int32) (pu : Int32) (to : UInt64) (fh : Int32) (lh : Int32) (ee : Int32) (lv : UInt64) (si : UInt32) (ga : Int32) (sl : Int32) (sc : Int32) (fo : UInt64) (hn : n_X6_scour dw tsc sc (tm_sL G) (tm_xs G)) : Met l yX6_scour wsX6_scour ({ frames := 2, cells := 0, slots := 0, locals := 43 }) (va_Pc [.ref o0] (tm_B G [tc_X6 o0 a0 (tm_sb G) dw ttk tmo tsu tlv tsi tga tsl tsc tfh tlh tfo tee tlk trf pd o1 ed o2 tpu tto, tc_X5 a0 ma0 ta0 lk rf pu to, tc_X1 ma0 ma1 ma2 ma3 ma4 fh lh ee, tc_X3 ma2 lv si ga sl sc fo] sz)) (va_Qi (fun (r : Int32) (u : Int32 × Int32 × Int32) => r = 1 ∧ u = f_X6_scour dw sc (tm_sL G) (tm_xs G)) (fun (u : Int32 × Int32 × Int32) (t : State) => va_P G.1 vwCl [tc_X6 o0 a0 (tm_sb G) u.1 ttk tmo tsu tlv tsi tga tsl u.2.1 tfh tlh tfo tee tlk trf pd o1 ed o2 tpu tto, tc_X5 a0 ma0 ta0 lk rf pu to, tc_X1 ma0 ma1 ma2 ma3 ma4 fh lh ee, tc_X3 ma2 lv si ga sl u.2.2 fo] t.heap ∧ va_D (va_A [tc_X6 o0 a0 (tm_sb G) dw ttk tmo tsu tlv tsi tga tsl tsc tfh tlh tfo tee tlk trf pd o1 ed o2 tpu tto, tc_X5 a0 ma0 ta0 lk rf pu to, tc_X1 ma0 ma1 ma2 ma3 ma4 fh lh ee, tc_X3 ma2 lv si ga sl sc fo] sz) [tc_X6 o0 a0 (tm_sb G) u.1 ttk tmo tsu tlv tsi tga tsl u.2.1 tfh tlh tfo tee tlk trf pd o1 ed o2 tpu tto, tc_X5 a0 ma0 ta0 lk rf pu to, tc_X1 ma0 ma1 ma2 ma3 ma4 fh lh ee, tc_X3 ma2 lv si ga sl u.2.2 fo]) (va_A [tc_X6 o0 a0 (tm_sb G) dw ttk tmo tsu tlv tsi tga tsl tsc tfh tlh tfo tee tlk trf pd o1 ed o2 tpu tto, tc_X5 a0 ma0 ta0 lk rf pu to, tc_X1 ma0 ma1 ma2 ma3 ma4 fh lh ee, tc_X3 ma2 lv si ga sl sc fo] sz)) 0 0 (va_A [tc_X6 o0 a0 (tm_sb G) dw ttk tmo tsu tlv tsi tga tsl tsc tfh tlh tfo tee tlk trf pd o1 ed o2 tpu tto, tc_X5 a0 ma0 ta0 lk rf pu to, tc_X1 ma0 ma1 ma2 ma3 ma4 fh lh ee, tc_X3 ma2 lv si ga sl sc fo] sz) := by
  refine Met.ofW (cc := cX6_scour) (maxL := 2) (ret := (some .boolean)) (by decide) rfl ?_
  intro p e s m args below meth c s₁ B hml hv
  obtain ⟨rfl, hsz, hP, hK, hD0, hN, hV⟩ := hv
  have hx := B.exec
  have hb := B.bytes
  have hr := B.returns
  have hts := atoms_spec (ws := wsX6_scour) B.pre
  have hown : s.vm.findClass RX6 = some m.cls := findClass_of_methodNamed B.named
  have hlocks := B.notSynchronized
  subst hsz
  obtain ⟨n_1, n_5, n_9, n_10, n_14⟩ := hn
  have hiX6 : ∀ w ∈ u_ws RX6 TX6 23, w ∈ wsX6_scour := fun _ h => List.mem_cons_of_mem _ (List.mem_append_left _ (List.mem_append_left _ (List.mem_append_left _ (List.mem_append_right _ h))))
  have hD := hD0.self (sz := s.heap.size)
  generalize hAe : va_A [tc_X6 o0 a0 (tm_sb G) dw ttk tmo tsu tlv tsi tga tsl tsc tfh tlh tfo tee tlk trf pd o1 ed o2 tpu tto, tc_X5 a0 ma0 ta0 lk rf pu to, tc_X1 ma0 ma1 ma2 ma3 ma4 fh lh ee, tc_X3 ma2 lv si ga sl sc fo] s.heap.size = A at hD hV ⊢
  have hA : ∀ q : Nat, s.heap.size ≤ q → A q := fun q h => by rw [← hAe]; exact Or.inr h
  have hS : va_S A s.heap s.heap [] := va_S.rf
  have hl := lv_entry ([.ref o0]) (n := 2) (Nat.le_of_ble_eq_true rfl)
  rw [lg_entry_eq]
  generalize (lg_sl ([.ref o0]) ++ List.replicate (2 - (lg_sl ([.ref o0])).length) Slot.unset).toArray = ls at hl ⊢
  have hl : lv_has ls 2 [(0, .ref o0)] := hl
  refine lv_aload_n hx hb dX6_scour_0 rfl (lv_at hl 0 rfl) ?_
  refine va_get (D := G.1) (ci := 6) (v := .int tsc) (C := RX6) (T := TX6) (N := 23) hx hb hts hiX6 hown hK hP 0 rfl rfl 10 (by decide) (hts (.fieldLink RX6 121 "TideMillLaw$Told" "isScouring" "Z") (List.mem_of_getElem? (i := 1) rfl)) (fun _ h9 => h9) rfl dX6_scour_1 ?_
  refine lv_istore_n (lv' := [(1, .int tsc), (0, .ref o0)]) hx hb dX6_scour_4 rfl hl (by decide) rfl (fun ls hl => ?_)
  refine lv_aload_n hx hb dX6_scour_5 rfl (lv_at hl 1 rfl) ?_
  refine lv_aload_n hx hb dX6_scour_6 rfl (lv_at hl 1 rfl) ?_
  refine lv_iconst (v := 2) hx hb dX6_scour_7 (by decide) ?_
  have hPc := hP.sub (ws' := [tc_X6 o0 a0 (tm_sb G) dw ttk tmo tsu tlv tsi tga tsl tsc tfh tlh tfo tee tlk trf pd o1 ed o2 tpu tto]) [0] rfl
  have hDc := hD.sub (ws' := [tc_X6 o0 a0 (tm_sb G) dw ttk tmo tsu tlv tsi tga tsl tsc tfh tlh tfo tee tlk trf pd o1 ed o2 tpu tto]) [0] (by decide) rfl
  have hFc := va_free (wc := [tc_X6 o0 a0 (tm_sb G) dw ttk tmo tsu tlv tsi tga tsl tsc tfh tlh tfo tee tlk trf pd o1 ed o2 tpu tto]) hD hS hA [0] rfl
  refine va_calli (va_runV (As := [.int 2]) (rest := [.ref o0]) ⟨hx, hb, hml, hown, hts⟩ (c_X6_draw l G o0 a0 pd o1 ed o2 s.heap.size dw ttk tmo tsu tlv tsi tga tsl tsc tfh tlh tfo tee tlk trf tpu tto 2 n_1) (cwV 1 hts gX6_scour_X6_draw rfl rfl rfl (by decide +kernel) ⟨(Nat.le_of_ble_eq_true rfl), (Nat.le_of_ble_eq_true rfl)⟩) (tm_preV hK hN hV hS hPc hDc hFc (va_recv hK hPc (ci := 6) (q0 := 0) rfl rfl)) rfl rfl hl.1 rfl (lv_room (Nat.le_of_ble_eq_true rfl)) dX6_scour_8 ⟨(Nat.le_of_ble_eq_true rfl), (Nat.le_of_ble_eq_true rfl)⟩) hS (fun q _ h => hFc q h) hFc (fun r_2 u t H locs ht hvm hw_2 hB hz1 hk1 hS => ?_)
  obtain ⟨u_3, rfl⟩ : ∃ z, z = u := ⟨_, rfl⟩
  obtain ⟨hP1, hD1⟩ := hB
  rw [ht] at hP1
  try dsimp only at hw_2
  obtain ⟨hP, hD⟩ := va_join (wr := [tc_X5 a0 ma0 ta0 lk rf pu to, tc_X1 ma0 ma1 ma2 ma3 ma4 fh lh ee, tc_X3 ma2 lv si ga sl sc fo]) (w1 := [tc_X6 o0 a0 (tm_sb G) u_3 ttk tmo tsu tlv tsi tga tsl tsc tfh tlh tfo tee tlk trf pd o1 ed o2 tpu tto]) hP hD [0] [1, 2, 3] rfl rfl (by decide) (by decide) hk1 hFc hP1 hD1
  have hP : va_P G.1 vwCl [tc_X5 a0 ma0 ta0 lk rf pu to, tc_X1 ma0 ma1 ma2 ma3 ma4 fh lh ee, tc_X3 ma2 lv si ga sl sc fo, tc_X6 o0 a0 (tm_sb G) u_3 ttk tmo tsu tlv tsi tga tsl tsc tfh tlh tfo tee tlk trf pd o1 ed o2 tpu tto] H := hP
  have hD : va_D A [tc_X5 a0 ma0 ta0 lk rf pu to, tc_X1 ma0 ma1 ma2 ma3 ma4 fh lh ee, tc_X3 ma2 lv si ga sl sc fo, tc_X6 o0 a0 (tm_sb G) u_3 ttk tmo tsu tlv tsi tga tsl tsc tfh tlh tfo tee tlk trf pd o1 ed o2 tpu tto] := hD
  have e_r_2 : r_2 = (f_X6_draw dw 2 (tm_sL G) (tm_xs G)).1 := congrArg (fun z => z.1) hw_2
  have e_u_3 : u_3 = dw + 1 := congrArg (fun z => z.2) hw_2
  subst e_r_2
  subst e_u_3
  have hP : va_P G.1 vwCl [tc_X5 a0 ma0 ta0 lk rf pu to, tc_X1 ma0 ma1 ma2 ma3 ma4 fh lh ee, tc_X3 ma2 lv si ga sl sc fo, tc_X6 o0 a0 (tm_sb G) (dw + 1) ttk tmo tsu tlv tsi tga tsl tsc tfh tlh tfo tee tlk trf pd o1 ed o2 tpu tto] H := hP
  have hD : va_D A [tc_X5 a0 ma0 ta0 lk rf pu to, tc_X1 ma0 ma1 ma2 ma3 ma4 fh lh ee, tc_X3 ma2 lv si ga sl sc fo, tc_X6 o0 a0 (tm_sb G) (dw + 1) ttk tmo tsu tlv tsi tga tsl tsc tfh tlh tfo tee tlk trf pd o1 ed o2 tpu tto] := hD
  refine lv_if_ne (tgt := 18) hx hb dX6_scour_11 (by decide) (fun c_4 => ?_) (fun c_4 => ?_)
  · refine lv_iconst (v := 0) hx hb dX6_scour_18 (by decide) ?_
    refine va_put (D := G.1) (ci := 6) (v := .int 0) (ty := .boolean) (C := RX6) (T := TX6) (N := 23) hx hb hts hiX6 tyX6 tyX6_ok nmX6 hown hK hP hD hS 3 rfl rfl 10 (by decide) (hts (.fieldLink RX6 121 "TideMillLaw$Told" "isScouring" "Z") (List.mem_of_getElem? (i := 1) rfl)) (fun _ h9 => h9) rfl (by decide +kernel) rfl rfl (Nat.le_of_ble_eq_true rfl) dX6_scour_19 (fun H locs hP hD hS => ?_)
    have hP : va_P G.1 vwCl [tc_X5 a0 ma0 ta0 lk rf pu to, tc_X1 ma0 ma1 ma2 ma3 ma4 fh lh ee, tc_X3 ma2 lv si ga sl sc fo, tc_X6 o0 a0 (tm_sb G) (dw + 1) ttk tmo tsu tlv tsi tga tsl 0 tfh tlh tfo tee tlk trf pd o1 ed o2 tpu tto] H := hP
    have hD : va_D A [tc_X5 a0 ma0 ta0 lk rf pu to, tc_X1 ma0 ma1 ma2 ma3 ma4 fh lh ee, tc_X3 ma2 lv si ga sl sc fo, tc_X6 o0 a0 (tm_sb G) (dw + 1) ttk tmo tsu tlv tsi tga tsl 0 tfh tlh tfo tee tlk trf pd o1 ed o2 tpu tto] := hD
    refine lv_aload_n hx hb dX6_scour_22 rfl (lv_at hl 1 rfl) ?_
    refine va_get (D := G.1) (ci := 6) (v := .ref a0) (C := RX6) (T := TX6) (N := 23) hx hb hts hiX6 hown hK hP 3 rfl rfl 0 (by decide) (hts (.fieldLink RX6 10 "TideMillLaw$Told" "m" "LTideMill;") (List.mem_of_getElem? (i := 2) rfl)) (fun _ h9 => h9) rfl dX6_scour_23 ?_
    refine lv_aload_n hx hb dX6_scour_26 rfl (lv_at hl 1 rfl) ?_
    refine va_get (D := G.1) (ci := 6) (v := .int 0) (C := RX6) (T := TX6) (N := 23) hx hb hts hiX6 hown hK hP 3 rfl rfl 10 (by decide) (hts (.fieldLink RX6 121 "TideMillLaw$Told" "isScouring" "Z") (List.mem_of_getElem? (i := 1) rfl)) (fun _ h9 => h9) rfl dX6_scour_27 ?_
    have hPc := hP.sub (ws' := [tc_X5 a0 ma0 ta0 lk rf pu to, tc_X1 ma0 ma1 ma2 ma3 ma4 fh lh ee, tc_X3 ma2 lv si ga sl sc fo]) [0, 1, 2] rfl
    have hDc := hD.sub (ws' := [tc_X5 a0 ma0 ta0 lk rf pu to, tc_X1 ma0 ma1 ma2 ma3 ma4 fh lh ee, tc_X3 ma2 lv si ga sl sc fo]) [0, 1, 2] (by decide) rfl
    have hFc := va_free (wc := [tc_X5 a0 ma0 ta0 lk rf pu to, tc_X1 ma0 ma1 ma2 ma3 ma4 fh lh ee, tc_X3 ma2 lv si ga sl sc fo]) hD hS hA [0, 1, 2] rfl
    refine va_calli (va_runV (As := [.int 0]) (rest := []) ⟨hx, hb, hml, hown, hts⟩ (c_X5_scour l G a0 ma0 ta0 ma1 ma2 ma3 ma4 H.size lk rf pu to fh lh ee lv si ga sl sc fo 0 (n_5 c_4)) (cwV 1 hts gX6_scour_X5_scour rfl rfl rfl (by decide +kernel) ⟨(Nat.le_of_ble_eq_true rfl), (Nat.le_of_ble_eq_true rfl)⟩) (tm_preV hK hN hV hS hPc hDc hFc (va_recv hK hPc (ci := 5) (q0 := 0) rfl rfl)) rfl rfl hl.1 rfl (lv_room (Nat.le_of_ble_eq_true rfl)) dX6_scour_30 ⟨(Nat.le_of_ble_eq_true rfl), (Nat.le_of_ble_eq_true rfl)⟩) hS (fun q _ h => hFc q h) hFc (fun r_6 u t H locs ht hvm hw_6 hB hz1 hk1 hS => ?_)
    obtain ⟨u_7, rfl⟩ : ∃ z, z = u := ⟨_, rfl⟩
    obtain ⟨hP1, hD1⟩ := hB
    rw [ht] at hP1
    try dsimp only at hw_6
    obtain ⟨hP, hD⟩ := va_join (wr := [tc_X6 o0 a0 (tm_sb G) (dw + 1) ttk tmo tsu tlv tsi tga tsl 0 tfh tlh tfo tee tlk trf pd o1 ed o2 tpu tto]) (w1 := [tc_X5 a0 ma0 ta0 lk rf pu to, tc_X1 ma0 ma1 ma2 ma3 ma4 fh lh ee, tc_X3 ma2 lv si ga sl u_7 fo]) hP hD [0, 1, 2] [3] rfl rfl (by decide) (by decide) hk1 hFc hP1 hD1
    have hP : va_P G.1 vwCl [tc_X6 o0 a0 (tm_sb G) (dw + 1) ttk tmo tsu tlv tsi tga tsl 0 tfh tlh tfo tee tlk trf pd o1 ed o2 tpu tto, tc_X5 a0 ma0 ta0 lk rf pu to, tc_X1 ma0 ma1 ma2 ma3 ma4 fh lh ee, tc_X3 ma2 lv si ga sl u_7 fo] H := hP
    have hD : va_D A [tc_X6 o0 a0 (tm_sb G) (dw + 1) ttk tmo tsu tlv tsi tga tsl 0 tfh tlh tfo tee tlk trf pd o1 ed o2 tpu tto, tc_X5 a0 ma0 ta0 lk rf pu to, tc_X1 ma0 ma1 ma2 ma3 ma4 fh lh ee, tc_X3 ma2 lv si ga sl u_7 fo] := hD
    refine lv_iload_n hx hb dX6_scour_33 rfl (lv_at hl 0 rfl) ?_
    refine lv_icmp_ne (tgt := 41) hx hb dX6_scour_34 (by decide) (fun c_8 => ?_) (fun c_8 => ?_)
    · exact absurd (n_9 c_4 r_6 u_7 hw_6) c_8
    · refine lv_iconst (v := 1) hx hb dX6_scour_37 (by decide) ?_
      refine lv_goto (tgt := 42) hx hb dX6_scour_38 (by decide) ?_
      have hP9 := hP.sub (ws' := [tc_X6 o0 a0 (tm_sb G) (dw + 1) ttk tmo tsu tlv tsi tga tsl 0 tfh tlh tfo tee tlk trf pd o1 ed o2 tpu tto, tc_X5 a0 ma0 ta0 lk rf pu to, tc_X1 ma0 ma1 ma2 ma3 ma4 fh lh ee, tc_X3 ma2 lv si ga sl u_7 fo]) [0, 1, 2, 3] rfl
      have hD9 := hD.sub (ws' := [tc_X6 o0 a0 (tm_sb G) (dw + 1) ttk tmo tsu tlv tsi tga tsl 0 tfh tlh tfo tee tlk trf pd o1 ed o2 tpu tto, tc_X5 a0 ma0 ta0 lk rf pu to, tc_X1 ma0 ma1 ma2 ma3 ma4 fh lh ee, tc_X3 ma2 lv si ga sl u_7 fo]) [0, 1, 2, 3] (by decide) rfl
      exact W.zret (v := 1) hx hb hr rfl (fun t ht hW => ⟨⟨1, (dw + 1, 0, u_7), rfl, ⟨rfl, by unfold f_X6_scour; all_goals (rw [if_neg c_4]); all_goals (rw [← hw_6]); all_goals (dsimp only); all_goals rfl⟩, by rw [ht]; exact hP9, hD9⟩, hS.F ht⟩) hS.2.2 dX6_scour_42
  · refine lv_iconst (v := 1) hx hb dX6_scour_14 (by decide) ?_
    refine lv_goto (tgt := 19) hx hb dX6_scour_15 (by decide) ?_
    refine va_put (D := G.1) (ci := 6) (v := .int 1) (ty := .boolean) (C := RX6) (T := TX6) (N := 23) hx hb hts hiX6 tyX6 tyX6_ok nmX6 hown hK hP hD hS 3 rfl rfl 10 (by decide) (hts (.fieldLink RX6 121 "TideMillLaw$Told" "isScouring" "Z") (List.mem_of_getElem? (i := 1) rfl)) (fun _ h9 => h9) rfl (by decide +kernel) rfl rfl (Nat.le_of_ble_eq_true rfl) dX6_scour_19 (fun H locs hP hD hS => ?_)
    have hP : va_P G.1 vwCl [tc_X5 a0 ma0 ta0 lk rf pu to, tc_X1 ma0 ma1 ma2 ma3 ma4 fh lh ee, tc_X3 ma2 lv si ga sl sc fo, tc_X6 o0 a0 (tm_sb G) (dw + 1) ttk tmo tsu tlv tsi tga tsl 1 tfh tlh tfo tee tlk trf pd o1 ed o2 tpu tto] H := hP
    have hD : va_D A [tc_X5 a0 ma0 ta0 lk rf pu to, tc_X1 ma0 ma1 ma2 ma3 ma4 fh lh ee, tc_X3 ma2 lv si ga sl sc fo, tc_X6 o0 a0 (tm_sb G) (dw + 1) ttk tmo tsu tlv tsi tga tsl 1 tfh tlh tfo tee tlk trf pd o1 ed o2 tpu tto] := hD
    refine lv_aload_n hx hb dX6_scour_22 rfl (lv_at hl 1 rfl) ?_
    refine va_get (D := G.1) (ci := 6) (v := .ref a0) (C := RX6) (T := TX6) (N := 23) hx hb hts hiX6 hown hK hP 3 rfl rfl 0 (by decide) (hts (.fieldLink RX6 10 "TideMillLaw$Told" "m" "LTideMill;") (List.mem_of_getElem? (i := 2) rfl)) (fun _ h9 => h9) rfl dX6_scour_23 ?_
    refine lv_aload_n hx hb dX6_scour_26 rfl (lv_at hl 1 rfl) ?_
    refine va_get (D := G.1) (ci := 6) (v := .int 1) (C := RX6) (T := TX6) (N := 23) hx hb hts hiX6 hown hK hP 3 rfl rfl 10 (by decide) (hts (.fieldLink RX6 121 "TideMillLaw$Told" "isScouring" "Z") (List.mem_of_getElem? (i := 1) rfl)) (fun _ h9 => h9) rfl dX6_scour_27 ?_
    have hPc := hP.sub (ws' := [tc_X5 a0 ma0 ta0 lk rf pu to, tc_X1 ma0 ma1 ma2 ma3 ma4 fh lh ee, tc_X3 ma2 lv si ga sl sc fo]) [0, 1, 2] rfl
    have hDc := hD.sub (ws' := [tc_X5 a0 ma0 ta0 lk rf pu to, tc_X1 ma0 ma1 ma2 ma3 ma4 fh lh ee, tc_X3 ma2 lv si ga sl sc fo]) [0, 1, 2] (by decide) rfl
    have hFc := va_free (wc := [tc_X5 a0 ma0 ta0 lk rf pu to, tc_X1 ma0 ma1 ma2 ma3 ma4 fh lh ee, tc_X3 ma2 lv si ga sl sc fo]) hD hS hA [0, 1, 2] rfl
    refine va_calli (va_runV (As := [.int 1]) (rest := []) ⟨hx, hb, hml, hown, hts⟩ (c_X5_scour l G a0 ma0 ta0 ma1 ma2 ma3 ma4 H.size lk rf pu to fh lh ee lv si ga sl sc fo 1 (n_10 c_4)) (cwV 1 hts gX6_scour_X5_scour rfl rfl rfl (by decide +kernel) ⟨(Nat.le_of_ble_eq_true rfl), (Nat.le_of_ble_eq_true rfl)⟩) (tm_preV hK hN hV hS hPc hDc hFc (va_recv hK hPc (ci := 5) (q0 := 0) rfl rfl)) rfl rfl hl.1 rfl (lv_room (Nat.le_of_ble_eq_true rfl)) dX6_scour_30 ⟨(Nat.le_of_ble_eq_true rfl), (Nat.le_of_ble_eq_true rfl)⟩) hS (fun q _ h => hFc q h) hFc (fun r_11 u t H locs ht hvm hw_11 hB hz1 hk1 hS => ?_)
    obtain ⟨u_12, rfl⟩ : ∃ z, z = u := ⟨_, rfl⟩
    obtain ⟨hP1, hD1⟩ := hB
    rw [ht] at hP1
    try dsimp only at hw_11
    obtain ⟨hP, hD⟩ := va_join (wr := [tc_X6 o0 a0 (tm_sb G) (dw + 1) ttk tmo tsu tlv tsi tga tsl 1 tfh tlh tfo tee tlk trf pd o1 ed o2 tpu tto]) (w1 := [tc_X5 a0 ma0 ta0 lk rf pu to, tc_X1 ma0 ma1 ma2 ma3 ma4 fh lh ee, tc_X3 ma2 lv si ga sl u_12 fo]) hP hD [0, 1, 2] [3] rfl rfl (by decide) (by decide) hk1 hFc hP1 hD1
    have hP : va_P G.1 vwCl [tc_X6 o0 a0 (tm_sb G) (dw + 1) ttk tmo tsu tlv tsi tga tsl 1 tfh tlh tfo tee tlk trf pd o1 ed o2 tpu tto, tc_X5 a0 ma0 ta0 lk rf pu to, tc_X1 ma0 ma1 ma2 ma3 ma4 fh lh ee, tc_X3 ma2 lv si ga sl u_12 fo] H := hP
    have hD : va_D A [tc_X6 o0 a0 (tm_sb G) (dw + 1) ttk tmo tsu tlv tsi tga tsl 1 tfh tlh tfo tee tlk trf pd o1 ed o2 tpu tto, tc_X5 a0 ma0 ta0 lk rf pu to, tc_X1 ma0 ma1 ma2 ma3 ma4 fh lh ee, tc_X3 ma2 lv si ga sl u_12 fo] := hD
    refine lv_iload_n hx hb dX6_scour_33 rfl (lv_at hl 0 rfl) ?_
    refine lv_icmp_ne (tgt := 41) hx hb dX6_scour_34 (by decide) (fun c_13 => ?_) (fun c_13 => ?_)
    · exact absurd (n_14 c_4 r_11 u_12 hw_11) c_13
    · refine lv_iconst (v := 1) hx hb dX6_scour_37 (by decide) ?_
      refine lv_goto (tgt := 42) hx hb dX6_scour_38 (by decide) ?_
      have hP9 := hP.sub (ws' := [tc_X6 o0 a0 (tm_sb G) (dw + 1) ttk tmo tsu tlv tsi tga tsl 1 tfh tlh tfo tee tlk trf pd o1 ed o2 tpu tto, tc_X5 a0 ma0 ta0 lk rf pu to, tc_X1 ma0 ma1 ma2 ma3 ma4 fh lh ee, tc_X3 ma2 lv si ga sl u_12 fo]) [0, 1, 2, 3] rfl
      have hD9 := hD.sub (ws' := [tc_X6 o0 a0 (tm_sb G) (dw + 1) ttk tmo tsu tlv tsi tga tsl 1 tfh tlh tfo tee tlk trf pd o1 ed o2 tpu tto, tc_X5 a0 ma0 ta0 lk rf pu to, tc_X1 ma0 ma1 ma2 ma3 ma4 fh lh ee, tc_X3 ma2 lv si ga sl u_12 fo]) [0, 1, 2, 3] (by decide) rfl
      exact W.zret (v := 1) hx hb hr rfl (fun t ht hW => ⟨⟨1, (dw + 1, 1, u_12), rfl, ⟨rfl, by unfold f_X6_scour; all_goals (rw [if_pos c_4]); all_goals (rw [← hw_11]); all_goals (dsimp only); all_goals rfl⟩, by rw [ht]; exact hP9, hD9⟩, hS.F ht⟩) hS.2.2 dX6_scour_42
set_option maxHeartbeats 4000000 in
set_option maxRecDepth 100000 in
theorem c_X6_hours (l : Launch) (G : tm_G) (o0 : Nat) (a0 : Nat) (pd : Nat) (o1 : Nat) (ed : Nat) (o2 : Nat) (ma0 : Nat) (ta0 : Nat) (ma1 : Nat) (ma2 : Nat) (ma3 : Nat) (ma4 : Nat) (sz : Nat) (dw : Int32) (ttk : Int32) (tmo : Int32) (tsu : UInt64) (tlv : UInt64) (tsi : UInt32) (tga : Int32) (tsl : Int32) (tsc : Int32) (tfh : Int32) (tlh : Int32) (tfo : UInt64) (tee : Int32) (tlk : Int32) (trf : Int32) (tpu : Int32) (tto : UInt64) (lk : Int32) (rf : Int32) (pu : Int32) (to : UInt64) (fh : Int32) (lh : Int32) (ee : Int32) (tk : Int32) (mo : Int32) (su : UInt64) (hn : n_X6_hours dw ttk tk (tm_sL G) (tm_xs G)) : Met l yX6_hours wsX6_hours ({ frames := 3, cells := 0, slots := 0, locals := 63 }) (va_Pc [.ref o0] (tm_B G [tc_X6 o0 a0 (tm_sb G) dw ttk tmo tsu tlv tsi tga tsl tsc tfh tlh tfo tee tlk trf pd o1 ed o2 tpu tto, tc_X5 a0 ma0 ta0 lk rf pu to, tc_X1 ma0 ma1 ma2 ma3 ma4 fh lh ee, tc_X4 ma1 tk mo su] sz)) (va_Qi (fun (r : Int32) (u : Int32 × Int32 × Int32 × Int32 × Int32) => r = 1 ∧ u = f_X6_hours dw tk (tm_sL G) (tm_xs G)) (fun (u : Int32 × Int32 × Int32 × Int32 × Int32) (t : State) => va_P G.1 vwCl [tc_X6 o0 a0 (tm_sb G) u.1 ttk tmo tsu tlv tsi tga tsl tsc u.2.1 u.2.2.1 tfo tee tlk trf pd o1 ed o2 tpu tto, tc_X5 a0 ma0 ta0 lk rf pu to, tc_X1 ma0 ma1 ma2 ma3 ma4 u.2.2.2.1 u.2.2.2.2 ee, tc_X4 ma1 tk mo su] t.heap ∧ va_D (va_A [tc_X6 o0 a0 (tm_sb G) dw ttk tmo tsu tlv tsi tga tsl tsc tfh tlh tfo tee tlk trf pd o1 ed o2 tpu tto, tc_X5 a0 ma0 ta0 lk rf pu to, tc_X1 ma0 ma1 ma2 ma3 ma4 fh lh ee, tc_X4 ma1 tk mo su] sz) [tc_X6 o0 a0 (tm_sb G) u.1 ttk tmo tsu tlv tsi tga tsl tsc u.2.1 u.2.2.1 tfo tee tlk trf pd o1 ed o2 tpu tto, tc_X5 a0 ma0 ta0 lk rf pu to, tc_X1 ma0 ma1 ma2 ma3 ma4 u.2.2.2.1 u.2.2.2.2 ee, tc_X4 ma1 tk mo su]) (va_A [tc_X6 o0 a0 (tm_sb G) dw ttk tmo tsu tlv tsi tga tsl tsc tfh tlh tfo tee tlk trf pd o1 ed o2 tpu tto, tc_X5 a0 ma0 ta0 lk rf pu to, tc_X1 ma0 ma1 ma2 ma3 ma4 fh lh ee, tc_X4 ma1 tk mo su] sz)) 0 0 (va_A [tc_X6 o0 a0 (tm_sb G) dw ttk tmo tsu tlv tsi tga tsl tsc tfh tlh tfo tee tlk trf pd o1 ed o2 tpu tto, tc_X5 a0 ma0 ta0 lk rf pu to, tc_X1 ma0 ma1 ma2 ma3 ma4 fh lh ee, tc_X4 ma1 tk mo su] sz) := by
  refine Met.ofW (cc := cX6_hours) (maxL := 1) (ret := (some .boolean)) (by decide) rfl ?_
  intro p e s m args below meth c s₁ B hml hv
  obtain ⟨rfl, hsz, hP, hK, hD0, hN, hV⟩ := hv
  have hx := B.exec
  have hb := B.bytes
  have hr := B.returns
  have hts := atoms_spec (ws := wsX6_hours) B.pre
  have hown : s.vm.findClass RX6 = some m.cls := findClass_of_methodNamed B.named
  have hlocks := B.notSynchronized
  subst hsz
  obtain ⟨n_1, n_4, n_8, n_11, n_15, n_18, n_19, n_23, n_26⟩ := hn
  have hiX6 : ∀ w ∈ u_ws RX6 TX6 23, w ∈ wsX6_hours := fun _ h => List.mem_cons_of_mem _ (List.mem_append_left _ (List.mem_append_left _ (List.mem_append_left _ (List.mem_append_left _ (List.mem_append_right _ h)))))
  have hD := hD0.self (sz := s.heap.size)
  generalize hAe : va_A [tc_X6 o0 a0 (tm_sb G) dw ttk tmo tsu tlv tsi tga tsl tsc tfh tlh tfo tee tlk trf pd o1 ed o2 tpu tto, tc_X5 a0 ma0 ta0 lk rf pu to, tc_X1 ma0 ma1 ma2 ma3 ma4 fh lh ee, tc_X4 ma1 tk mo su] s.heap.size = A at hD hV ⊢
  have hA : ∀ q : Nat, s.heap.size ≤ q → A q := fun q h => by rw [← hAe]; exact Or.inr h
  have hS : va_S A s.heap s.heap [] := va_S.rf
  have hl := lv_entry ([.ref o0]) (n := 1) (Nat.le_of_ble_eq_true rfl)
  rw [lg_entry_eq]
  generalize (lg_sl ([.ref o0]) ++ List.replicate (1 - (lg_sl ([.ref o0])).length) Slot.unset).toArray = ls at hl ⊢
  have hl : lv_has ls 1 [(0, .ref o0)] := hl
  refine lv_aload_n hx hb dX6_hours_0 rfl (lv_at hl 0 rfl) ?_
  refine lv_aload_n hx hb dX6_hours_1 rfl (lv_at hl 0 rfl) ?_
  refine lv_bipush (v := 48) hx hb dX6_hours_2 (by decide) ?_
  have hPc := hP.sub (ws' := [tc_X6 o0 a0 (tm_sb G) dw ttk tmo tsu tlv tsi tga tsl tsc tfh tlh tfo tee tlk trf pd o1 ed o2 tpu tto]) [0] rfl
  have hDc := hD.sub (ws' := [tc_X6 o0 a0 (tm_sb G) dw ttk tmo tsu tlv tsi tga tsl tsc tfh tlh tfo tee tlk trf pd o1 ed o2 tpu tto]) [0] (by decide) rfl
  have hFc := va_free (wc := [tc_X6 o0 a0 (tm_sb G) dw ttk tmo tsu tlv tsi tga tsl tsc tfh tlh tfo tee tlk trf pd o1 ed o2 tpu tto]) hD hS hA [0] rfl
  refine va_calli (va_runV (As := [.int 48]) (rest := [.ref o0]) ⟨hx, hb, hml, hown, hts⟩ (c_X6_draw l G o0 a0 pd o1 ed o2 s.heap.size dw ttk tmo tsu tlv tsi tga tsl tsc tfh tlh tfo tee tlk trf tpu tto 48 n_1) (cwV 1 hts gX6_hours_X6_draw rfl rfl rfl (by decide +kernel) ⟨(Nat.le_of_ble_eq_true rfl), (Nat.le_of_ble_eq_true rfl)⟩) (tm_preV hK hN hV hS hPc hDc hFc (va_recv hK hPc (ci := 6) (q0 := 0) rfl rfl)) rfl rfl hl.1 rfl (lv_room (Nat.le_of_ble_eq_true rfl)) dX6_hours_4 ⟨(Nat.le_of_ble_eq_true rfl), (Nat.le_of_ble_eq_true rfl)⟩) hS (fun q _ h => hFc q h) hFc (fun r_2 u t H locs ht hvm hw_2 hB hz1 hk1 hS => ?_)
  obtain ⟨u_3, rfl⟩ : ∃ z, z = u := ⟨_, rfl⟩
  obtain ⟨hP1, hD1⟩ := hB
  rw [ht] at hP1
  try dsimp only at hw_2
  obtain ⟨hP, hD⟩ := va_join (wr := [tc_X5 a0 ma0 ta0 lk rf pu to, tc_X1 ma0 ma1 ma2 ma3 ma4 fh lh ee, tc_X4 ma1 tk mo su]) (w1 := [tc_X6 o0 a0 (tm_sb G) u_3 ttk tmo tsu tlv tsi tga tsl tsc tfh tlh tfo tee tlk trf pd o1 ed o2 tpu tto]) hP hD [0] [1, 2, 3] rfl rfl (by decide) (by decide) hk1 hFc hP1 hD1
  have hP : va_P G.1 vwCl [tc_X5 a0 ma0 ta0 lk rf pu to, tc_X1 ma0 ma1 ma2 ma3 ma4 fh lh ee, tc_X4 ma1 tk mo su, tc_X6 o0 a0 (tm_sb G) u_3 ttk tmo tsu tlv tsi tga tsl tsc tfh tlh tfo tee tlk trf pd o1 ed o2 tpu tto] H := hP
  have hD : va_D A [tc_X5 a0 ma0 ta0 lk rf pu to, tc_X1 ma0 ma1 ma2 ma3 ma4 fh lh ee, tc_X4 ma1 tk mo su, tc_X6 o0 a0 (tm_sb G) u_3 ttk tmo tsu tlv tsi tga tsl tsc tfh tlh tfo tee tlk trf pd o1 ed o2 tpu tto] := hD
  have e_r_2 : r_2 = (f_X6_draw dw 48 (tm_sL G) (tm_xs G)).1 := congrArg (fun z => z.1) hw_2
  have e_u_3 : u_3 = dw + 1 := congrArg (fun z => z.2) hw_2
  subst e_r_2
  subst e_u_3
  have hP : va_P G.1 vwCl [tc_X5 a0 ma0 ta0 lk rf pu to, tc_X1 ma0 ma1 ma2 ma3 ma4 fh lh ee, tc_X4 ma1 tk mo su, tc_X6 o0 a0 (tm_sb G) (dw + 1) ttk tmo tsu tlv tsi tga tsl tsc tfh tlh tfo tee tlk trf pd o1 ed o2 tpu tto] H := hP
  have hD : va_D A [tc_X5 a0 ma0 ta0 lk rf pu to, tc_X1 ma0 ma1 ma2 ma3 ma4 fh lh ee, tc_X4 ma1 tk mo su, tc_X6 o0 a0 (tm_sb G) (dw + 1) ttk tmo tsu tlv tsi tga tsl tsc tfh tlh tfo tee tlk trf pd o1 ed o2 tpu tto] := hD
  refine va_put (D := G.1) (ci := 6) (v := .int ((f_X6_draw dw 48 (tm_sL G) (tm_xs G)).1)) (ty := .int) (C := RX6) (T := TX6) (N := 23) hx hb hts hiX6 tyX6 tyX6_ok nmX6 hown hK hP hD hS 3 rfl rfl 11 (by decide) (hts (.fieldLink RX6 94 "TideMillLaw$Told" "from" "I") (List.mem_of_getElem? (i := 1) rfl)) (fun _ h9 => h9) rfl (by decide +kernel) rfl rfl (Nat.le_of_ble_eq_true rfl) dX6_hours_7 (fun H locs hP hD hS => ?_)
  have hP : va_P G.1 vwCl [tc_X5 a0 ma0 ta0 lk rf pu to, tc_X1 ma0 ma1 ma2 ma3 ma4 fh lh ee, tc_X4 ma1 tk mo su, tc_X6 o0 a0 (tm_sb G) (dw + 1) ttk tmo tsu tlv tsi tga tsl tsc ((f_X6_draw dw 48 (tm_sL G) (tm_xs G)).1) tlh tfo tee tlk trf pd o1 ed o2 tpu tto] H := hP
  have hD : va_D A [tc_X5 a0 ma0 ta0 lk rf pu to, tc_X1 ma0 ma1 ma2 ma3 ma4 fh lh ee, tc_X4 ma1 tk mo su, tc_X6 o0 a0 (tm_sb G) (dw + 1) ttk tmo tsu tlv tsi tga tsl tsc ((f_X6_draw dw 48 (tm_sL G) (tm_xs G)).1) tlh tfo tee tlk trf pd o1 ed o2 tpu tto] := hD
  refine lv_aload_n hx hb dX6_hours_10 rfl (lv_at hl 0 rfl) ?_
  refine lv_aload_n hx hb dX6_hours_11 rfl (lv_at hl 0 rfl) ?_
  refine lv_iconst (v := 2) hx hb dX6_hours_12 (by decide) ?_
  have hPc := hP.sub (ws' := [tc_X6 o0 a0 (tm_sb G) (dw + 1) ttk tmo tsu tlv tsi tga tsl tsc ((f_X6_draw dw 48 (tm_sL G) (tm_xs G)).1) tlh tfo tee tlk trf pd o1 ed o2 tpu tto]) [3] rfl
  have hDc := hD.sub (ws' := [tc_X6 o0 a0 (tm_sb G) (dw + 1) ttk tmo tsu tlv tsi tga tsl tsc ((f_X6_draw dw 48 (tm_sL G) (tm_xs G)).1) tlh tfo tee tlk trf pd o1 ed o2 tpu tto]) [3] (by decide) rfl
  have hFc := va_free (wc := [tc_X6 o0 a0 (tm_sb G) (dw + 1) ttk tmo tsu tlv tsi tga tsl tsc ((f_X6_draw dw 48 (tm_sL G) (tm_xs G)).1) tlh tfo tee tlk trf pd o1 ed o2 tpu tto]) hD hS hA [3] rfl
  refine va_calli (va_runV (As := [.int 2]) (rest := [.ref o0]) ⟨hx, hb, hml, hown, hts⟩ (c_X6_draw l G o0 a0 pd o1 ed o2 H.size (dw + 1) ttk tmo tsu tlv tsi tga tsl tsc ((f_X6_draw dw 48 (tm_sL G) (tm_xs G)).1) tlh tfo tee tlk trf tpu tto 2 n_4) (cwV 1 hts gX6_hours_X6_draw rfl rfl rfl (by decide +kernel) ⟨(Nat.le_of_ble_eq_true rfl), (Nat.le_of_ble_eq_true rfl)⟩) (tm_preV hK hN hV hS hPc hDc hFc (va_recv hK hPc (ci := 6) (q0 := 0) rfl rfl)) rfl rfl hl.1 rfl (lv_room (Nat.le_of_ble_eq_true rfl)) dX6_hours_13 ⟨(Nat.le_of_ble_eq_true rfl), (Nat.le_of_ble_eq_true rfl)⟩) hS (fun q _ h => hFc q h) hFc (fun r_5 u t H locs ht hvm hw_5 hB hz1 hk1 hS => ?_)
  obtain ⟨u_6, rfl⟩ : ∃ z, z = u := ⟨_, rfl⟩
  obtain ⟨hP1, hD1⟩ := hB
  rw [ht] at hP1
  try dsimp only at hw_5
  obtain ⟨hP, hD⟩ := va_join (wr := [tc_X5 a0 ma0 ta0 lk rf pu to, tc_X1 ma0 ma1 ma2 ma3 ma4 fh lh ee, tc_X4 ma1 tk mo su]) (w1 := [tc_X6 o0 a0 (tm_sb G) u_6 ttk tmo tsu tlv tsi tga tsl tsc ((f_X6_draw dw 48 (tm_sL G) (tm_xs G)).1) tlh tfo tee tlk trf pd o1 ed o2 tpu tto]) hP hD [3] [0, 1, 2] rfl rfl (by decide) (by decide) hk1 hFc hP1 hD1
  have hP : va_P G.1 vwCl [tc_X5 a0 ma0 ta0 lk rf pu to, tc_X1 ma0 ma1 ma2 ma3 ma4 fh lh ee, tc_X4 ma1 tk mo su, tc_X6 o0 a0 (tm_sb G) u_6 ttk tmo tsu tlv tsi tga tsl tsc ((f_X6_draw dw 48 (tm_sL G) (tm_xs G)).1) tlh tfo tee tlk trf pd o1 ed o2 tpu tto] H := hP
  have hD : va_D A [tc_X5 a0 ma0 ta0 lk rf pu to, tc_X1 ma0 ma1 ma2 ma3 ma4 fh lh ee, tc_X4 ma1 tk mo su, tc_X6 o0 a0 (tm_sb G) u_6 ttk tmo tsu tlv tsi tga tsl tsc ((f_X6_draw dw 48 (tm_sL G) (tm_xs G)).1) tlh tfo tee tlk trf pd o1 ed o2 tpu tto] := hD
  have e_r_5 : r_5 = (f_X6_draw (dw + 1) 2 (tm_sL G) (tm_xs G)).1 := congrArg (fun z => z.1) hw_5
  have e_u_6 : u_6 = (dw + 1) + 1 := congrArg (fun z => z.2) hw_5
  subst e_r_5
  subst e_u_6
  have hP : va_P G.1 vwCl [tc_X5 a0 ma0 ta0 lk rf pu to, tc_X1 ma0 ma1 ma2 ma3 ma4 fh lh ee, tc_X4 ma1 tk mo su, tc_X6 o0 a0 (tm_sb G) ((dw + 1) + 1) ttk tmo tsu tlv tsi tga tsl tsc ((f_X6_draw dw 48 (tm_sL G) (tm_xs G)).1) tlh tfo tee tlk trf pd o1 ed o2 tpu tto] H := hP
  have hD : va_D A [tc_X5 a0 ma0 ta0 lk rf pu to, tc_X1 ma0 ma1 ma2 ma3 ma4 fh lh ee, tc_X4 ma1 tk mo su, tc_X6 o0 a0 (tm_sb G) ((dw + 1) + 1) ttk tmo tsu tlv tsi tga tsl tsc ((f_X6_draw dw 48 (tm_sL G) (tm_xs G)).1) tlh tfo tee tlk trf pd o1 ed o2 tpu tto] := hD
  refine lv_if_ne (tgt := 32) hx hb dX6_hours_16 (by decide) (fun c_7 => ?_) (fun c_7 => ?_)
  · refine lv_aload_n hx hb dX6_hours_32 rfl (lv_at hl 0 rfl) ?_
    refine lv_bipush (v := 48) hx hb dX6_hours_33 (by decide) ?_
    have hPc := hP.sub (ws' := [tc_X6 o0 a0 (tm_sb G) ((dw + 1) + 1) ttk tmo tsu tlv tsi tga tsl tsc ((f_X6_draw dw 48 (tm_sL G) (tm_xs G)).1) tlh tfo tee tlk trf pd o1 ed o2 tpu tto]) [3] rfl
    have hDc := hD.sub (ws' := [tc_X6 o0 a0 (tm_sb G) ((dw + 1) + 1) ttk tmo tsu tlv tsi tga tsl tsc ((f_X6_draw dw 48 (tm_sL G) (tm_xs G)).1) tlh tfo tee tlk trf pd o1 ed o2 tpu tto]) [3] (by decide) rfl
    have hFc := va_free (wc := [tc_X6 o0 a0 (tm_sb G) ((dw + 1) + 1) ttk tmo tsu tlv tsi tga tsl tsc ((f_X6_draw dw 48 (tm_sL G) (tm_xs G)).1) tlh tfo tee tlk trf pd o1 ed o2 tpu tto]) hD hS hA [3] rfl
    refine va_calli (va_runV (As := [.int 48]) (rest := [.ref o0]) ⟨hx, hb, hml, hown, hts⟩ (c_X6_draw l G o0 a0 pd o1 ed o2 H.size ((dw + 1) + 1) ttk tmo tsu tlv tsi tga tsl tsc ((f_X6_draw dw 48 (tm_sL G) (tm_xs G)).1) tlh tfo tee tlk trf tpu tto 48 (n_8 c_7)) (cwV 1 hts gX6_hours_X6_draw rfl rfl rfl (by decide +kernel) ⟨(Nat.le_of_ble_eq_true rfl), (Nat.le_of_ble_eq_true rfl)⟩) (tm_preV hK hN hV hS hPc hDc hFc (va_recv hK hPc (ci := 6) (q0 := 0) rfl rfl)) rfl rfl hl.1 rfl (lv_room (Nat.le_of_ble_eq_true rfl)) dX6_hours_35 ⟨(Nat.le_of_ble_eq_true rfl), (Nat.le_of_ble_eq_true rfl)⟩) hS (fun q _ h => hFc q h) hFc (fun r_9 u t H locs ht hvm hw_9 hB hz1 hk1 hS => ?_)
    obtain ⟨u_10, rfl⟩ : ∃ z, z = u := ⟨_, rfl⟩
    obtain ⟨hP1, hD1⟩ := hB
    rw [ht] at hP1
    try dsimp only at hw_9
    obtain ⟨hP, hD⟩ := va_join (wr := [tc_X5 a0 ma0 ta0 lk rf pu to, tc_X1 ma0 ma1 ma2 ma3 ma4 fh lh ee, tc_X4 ma1 tk mo su]) (w1 := [tc_X6 o0 a0 (tm_sb G) u_10 ttk tmo tsu tlv tsi tga tsl tsc ((f_X6_draw dw 48 (tm_sL G) (tm_xs G)).1) tlh tfo tee tlk trf pd o1 ed o2 tpu tto]) hP hD [3] [0, 1, 2] rfl rfl (by decide) (by decide) hk1 hFc hP1 hD1
    have hP : va_P G.1 vwCl [tc_X5 a0 ma0 ta0 lk rf pu to, tc_X1 ma0 ma1 ma2 ma3 ma4 fh lh ee, tc_X4 ma1 tk mo su, tc_X6 o0 a0 (tm_sb G) u_10 ttk tmo tsu tlv tsi tga tsl tsc ((f_X6_draw dw 48 (tm_sL G) (tm_xs G)).1) tlh tfo tee tlk trf pd o1 ed o2 tpu tto] H := hP
    have hD : va_D A [tc_X5 a0 ma0 ta0 lk rf pu to, tc_X1 ma0 ma1 ma2 ma3 ma4 fh lh ee, tc_X4 ma1 tk mo su, tc_X6 o0 a0 (tm_sb G) u_10 ttk tmo tsu tlv tsi tga tsl tsc ((f_X6_draw dw 48 (tm_sL G) (tm_xs G)).1) tlh tfo tee tlk trf pd o1 ed o2 tpu tto] := hD
    have e_r_9 : r_9 = (f_X6_draw ((dw + 1) + 1) 48 (tm_sL G) (tm_xs G)).1 := congrArg (fun z => z.1) hw_9
    have e_u_10 : u_10 = ((dw + 1) + 1) + 1 := congrArg (fun z => z.2) hw_9
    subst e_r_9
    subst e_u_10
    have hP : va_P G.1 vwCl [tc_X5 a0 ma0 ta0 lk rf pu to, tc_X1 ma0 ma1 ma2 ma3 ma4 fh lh ee, tc_X4 ma1 tk mo su, tc_X6 o0 a0 (tm_sb G) (((dw + 1) + 1) + 1) ttk tmo tsu tlv tsi tga tsl tsc ((f_X6_draw dw 48 (tm_sL G) (tm_xs G)).1) tlh tfo tee tlk trf pd o1 ed o2 tpu tto] H := hP
    have hD : va_D A [tc_X5 a0 ma0 ta0 lk rf pu to, tc_X1 ma0 ma1 ma2 ma3 ma4 fh lh ee, tc_X4 ma1 tk mo su, tc_X6 o0 a0 (tm_sb G) (((dw + 1) + 1) + 1) ttk tmo tsu tlv tsi tga tsl tsc ((f_X6_draw dw 48 (tm_sL G) (tm_xs G)).1) tlh tfo tee tlk trf pd o1 ed o2 tpu tto] := hD
    refine va_put (D := G.1) (ci := 6) (v := .int ((f_X6_draw ((dw + 1) + 1) 48 (tm_sL G) (tm_xs G)).1)) (ty := .int) (C := RX6) (T := TX6) (N := 23) hx hb hts hiX6 tyX6 tyX6_ok nmX6 hown hK hP hD hS 3 rfl rfl 12 (by decide) (hts (.fieldLink RX6 16 "TideMillLaw$Told" "to" "I") (List.mem_of_getElem? (i := 2) rfl)) (fun _ h9 => h9) rfl (by decide +kernel) rfl rfl (Nat.le_of_ble_eq_true rfl) dX6_hours_38 (fun H locs hP hD hS => ?_)
    have hP : va_P G.1 vwCl [tc_X5 a0 ma0 ta0 lk rf pu to, tc_X1 ma0 ma1 ma2 ma3 ma4 fh lh ee, tc_X4 ma1 tk mo su, tc_X6 o0 a0 (tm_sb G) (((dw + 1) + 1) + 1) ttk tmo tsu tlv tsi tga tsl tsc ((f_X6_draw dw 48 (tm_sL G) (tm_xs G)).1) ((f_X6_draw ((dw + 1) + 1) 48 (tm_sL G) (tm_xs G)).1) tfo tee tlk trf pd o1 ed o2 tpu tto] H := hP
    have hD : va_D A [tc_X5 a0 ma0 ta0 lk rf pu to, tc_X1 ma0 ma1 ma2 ma3 ma4 fh lh ee, tc_X4 ma1 tk mo su, tc_X6 o0 a0 (tm_sb G) (((dw + 1) + 1) + 1) ttk tmo tsu tlv tsi tga tsl tsc ((f_X6_draw dw 48 (tm_sL G) (tm_xs G)).1) ((f_X6_draw ((dw + 1) + 1) 48 (tm_sL G) (tm_xs G)).1) tfo tee tlk trf pd o1 ed o2 tpu tto] := hD
    refine lv_aload_n hx hb dX6_hours_41 rfl (lv_at hl 0 rfl) ?_
    refine va_get (D := G.1) (ci := 6) (v := .ref a0) (C := RX6) (T := TX6) (N := 23) hx hb hts hiX6 hown hK hP 3 rfl rfl 0 (by decide) (hts (.fieldLink RX6 10 "TideMillLaw$Told" "m" "LTideMill;") (List.mem_of_getElem? (i := 3) rfl)) (fun _ h9 => h9) rfl dX6_hours_42 ?_
    refine lv_aload_n hx hb dX6_hours_45 rfl (lv_at hl 0 rfl) ?_
    refine va_get (D := G.1) (ci := 6) (v := .int ((f_X6_draw dw 48 (tm_sL G) (tm_xs G)).1)) (C := RX6) (T := TX6) (N := 23) hx hb hts hiX6 hown hK hP 3 rfl rfl 11 (by decide) (hts (.fieldLink RX6 94 "TideMillLaw$Told" "from" "I") (List.mem_of_getElem? (i := 1) rfl)) (fun _ h9 => h9) rfl dX6_hours_46 ?_
    refine lv_aload_n hx hb dX6_hours_49 rfl (lv_at hl 0 rfl) ?_
    refine va_get (D := G.1) (ci := 6) (v := .int ((f_X6_draw ((dw + 1) + 1) 48 (tm_sL G) (tm_xs G)).1)) (C := RX6) (T := TX6) (N := 23) hx hb hts hiX6 hown hK hP 3 rfl rfl 12 (by decide) (hts (.fieldLink RX6 16 "TideMillLaw$Told" "to" "I") (List.mem_of_getElem? (i := 2) rfl)) (fun _ h9 => h9) rfl dX6_hours_50 ?_
    have hPc := hP.sub (ws' := [tc_X5 a0 ma0 ta0 lk rf pu to, tc_X1 ma0 ma1 ma2 ma3 ma4 fh lh ee, tc_X4 ma1 tk mo su]) [0, 1, 2] rfl
    have hDc := hD.sub (ws' := [tc_X5 a0 ma0 ta0 lk rf pu to, tc_X1 ma0 ma1 ma2 ma3 ma4 fh lh ee, tc_X4 ma1 tk mo su]) [0, 1, 2] (by decide) rfl
    have hFc := va_free (wc := [tc_X5 a0 ma0 ta0 lk rf pu to, tc_X1 ma0 ma1 ma2 ma3 ma4 fh lh ee, tc_X4 ma1 tk mo su]) hD hS hA [0, 1, 2] rfl
    refine va_calli (va_runV (As := [.int ((f_X6_draw dw 48 (tm_sL G) (tm_xs G)).1), .int ((f_X6_draw ((dw + 1) + 1) 48 (tm_sL G) (tm_xs G)).1)]) (rest := []) ⟨hx, hb, hml, hown, hts⟩ (c_X5_hours l G a0 ma0 ta0 ma1 ma2 ma3 ma4 H.size lk rf pu to fh lh ee tk mo su ((f_X6_draw dw 48 (tm_sL G) (tm_xs G)).1) ((f_X6_draw ((dw + 1) + 1) 48 (tm_sL G) (tm_xs G)).1) (n_11 c_7)) (cwV 2 hts gX6_hours_X5_hours rfl rfl rfl (by decide +kernel) ⟨(Nat.le_of_ble_eq_true rfl), (Nat.le_of_ble_eq_true rfl)⟩) (tm_preV hK hN hV hS hPc hDc hFc (va_recv hK hPc (ci := 5) (q0 := 0) rfl rfl)) rfl rfl hl.1 rfl (lv_room (Nat.le_of_ble_eq_true rfl)) dX6_hours_53 ⟨(Nat.le_of_ble_eq_true rfl), (Nat.le_of_ble_eq_true rfl)⟩) hS (fun q _ h => hFc q h) hFc (fun r_12 u t H locs ht hvm hw_12 hB hz1 hk1 hS => ?_)
    obtain ⟨u_13, u_14⟩ := u
    obtain ⟨hP1, hD1⟩ := hB
    rw [ht] at hP1
    try dsimp only at hw_12
    obtain ⟨hP, hD⟩ := va_join (wr := [tc_X6 o0 a0 (tm_sb G) (((dw + 1) + 1) + 1) ttk tmo tsu tlv tsi tga tsl tsc ((f_X6_draw dw 48 (tm_sL G) (tm_xs G)).1) ((f_X6_draw ((dw + 1) + 1) 48 (tm_sL G) (tm_xs G)).1) tfo tee tlk trf pd o1 ed o2 tpu tto]) (w1 := [tc_X5 a0 ma0 ta0 lk rf pu to, tc_X1 ma0 ma1 ma2 ma3 ma4 u_13 u_14 ee, tc_X4 ma1 tk mo su]) hP hD [0, 1, 2] [3] rfl rfl (by decide) (by decide) hk1 hFc hP1 hD1
    have hP : va_P G.1 vwCl [tc_X6 o0 a0 (tm_sb G) (((dw + 1) + 1) + 1) ttk tmo tsu tlv tsi tga tsl tsc ((f_X6_draw dw 48 (tm_sL G) (tm_xs G)).1) ((f_X6_draw ((dw + 1) + 1) 48 (tm_sL G) (tm_xs G)).1) tfo tee tlk trf pd o1 ed o2 tpu tto, tc_X5 a0 ma0 ta0 lk rf pu to, tc_X1 ma0 ma1 ma2 ma3 ma4 u_13 u_14 ee, tc_X4 ma1 tk mo su] H := hP
    have hD : va_D A [tc_X6 o0 a0 (tm_sb G) (((dw + 1) + 1) + 1) ttk tmo tsu tlv tsi tga tsl tsc ((f_X6_draw dw 48 (tm_sL G) (tm_xs G)).1) ((f_X6_draw ((dw + 1) + 1) 48 (tm_sL G) (tm_xs G)).1) tfo tee tlk trf pd o1 ed o2 tpu tto, tc_X5 a0 ma0 ta0 lk rf pu to, tc_X1 ma0 ma1 ma2 ma3 ma4 u_13 u_14 ee, tc_X4 ma1 tk mo su] := hD
    refine lv_aload_n hx hb dX6_hours_56 rfl (lv_at hl 0 rfl) ?_
    have hPc := hP.sub (ws' := [tc_X6 o0 a0 (tm_sb G) (((dw + 1) + 1) + 1) ttk tmo tsu tlv tsi tga tsl tsc ((f_X6_draw dw 48 (tm_sL G) (tm_xs G)).1) ((f_X6_draw ((dw + 1) + 1) 48 (tm_sL G) (tm_xs G)).1) tfo tee tlk trf pd o1 ed o2 tpu tto]) [0] rfl
    have hDc := hD.sub (ws' := [tc_X6 o0 a0 (tm_sb G) (((dw + 1) + 1) + 1) ttk tmo tsu tlv tsi tga tsl tsc ((f_X6_draw dw 48 (tm_sL G) (tm_xs G)).1) ((f_X6_draw ((dw + 1) + 1) 48 (tm_sL G) (tm_xs G)).1) tfo tee tlk trf pd o1 ed o2 tpu tto]) [0] (by decide) rfl
    have hFc := va_free (wc := [tc_X6 o0 a0 (tm_sb G) (((dw + 1) + 1) + 1) ttk tmo tsu tlv tsi tga tsl tsc ((f_X6_draw dw 48 (tm_sL G) (tm_xs G)).1) ((f_X6_draw ((dw + 1) + 1) 48 (tm_sL G) (tm_xs G)).1) tfo tee tlk trf pd o1 ed o2 tpu tto]) hD hS hA [0] rfl
    refine va_calli (va_runV (As := []) (rest := [.int r_12]) ⟨hx, hb, hml, hown, hts⟩ (c_X6_isAwake l G o0 a0 pd o1 ed o2 H.size (((dw + 1) + 1) + 1) ttk tmo tsu tlv tsi tga tsl tsc ((f_X6_draw dw 48 (tm_sL G) (tm_xs G)).1) ((f_X6_draw ((dw + 1) + 1) 48 (tm_sL G) (tm_xs G)).1) tfo tee tlk trf tpu tto (n_15 c_7 r_12 u_13 u_14 hw_12)) (cwV 0 hts gX6_hours_X6_isAwake rfl rfl rfl (by decide +kernel) ⟨(Nat.le_of_ble_eq_true rfl), (Nat.le_of_ble_eq_true rfl)⟩) (tm_preV hK hN hV hS hPc hDc hFc (va_recv hK hPc (ci := 6) (q0 := 0) rfl rfl)) rfl rfl hl.1 rfl (lv_room (Nat.le_of_ble_eq_true rfl)) dX6_hours_57 ⟨(Nat.le_of_ble_eq_true rfl), (Nat.le_of_ble_eq_true rfl)⟩) hS (fun q _ h => hFc q h) hFc (fun r_16 u t H locs ht hvm hw_16 hB hz1 hk1 hS => ?_)
    obtain ⟨hP1, hD1⟩ := hB
    rw [ht] at hP1
    try dsimp only at hw_16
    obtain ⟨hP, hD⟩ := va_join (wr := [tc_X5 a0 ma0 ta0 lk rf pu to, tc_X1 ma0 ma1 ma2 ma3 ma4 u_13 u_14 ee, tc_X4 ma1 tk mo su]) (w1 := [tc_X6 o0 a0 (tm_sb G) (((dw + 1) + 1) + 1) ttk tmo tsu tlv tsi tga tsl tsc ((f_X6_draw dw 48 (tm_sL G) (tm_xs G)).1) ((f_X6_draw ((dw + 1) + 1) 48 (tm_sL G) (tm_xs G)).1) tfo tee tlk trf pd o1 ed o2 tpu tto]) hP hD [0] [1, 2, 3] rfl rfl (by decide) (by decide) hk1 hFc hP1 hD1
    have hP : va_P G.1 vwCl [tc_X5 a0 ma0 ta0 lk rf pu to, tc_X1 ma0 ma1 ma2 ma3 ma4 u_13 u_14 ee, tc_X4 ma1 tk mo su, tc_X6 o0 a0 (tm_sb G) (((dw + 1) + 1) + 1) ttk tmo tsu tlv tsi tga tsl tsc ((f_X6_draw dw 48 (tm_sL G) (tm_xs G)).1) ((f_X6_draw ((dw + 1) + 1) 48 (tm_sL G) (tm_xs G)).1) tfo tee tlk trf pd o1 ed o2 tpu tto] H := hP
    have hD : va_D A [tc_X5 a0 ma0 ta0 lk rf pu to, tc_X1 ma0 ma1 ma2 ma3 ma4 u_13 u_14 ee, tc_X4 ma1 tk mo su, tc_X6 o0 a0 (tm_sb G) (((dw + 1) + 1) + 1) ttk tmo tsu tlv tsi tga tsl tsc ((f_X6_draw dw 48 (tm_sL G) (tm_xs G)).1) ((f_X6_draw ((dw + 1) + 1) 48 (tm_sL G) (tm_xs G)).1) tfo tee tlk trf pd o1 ed o2 tpu tto] := hD
    subst r_16
    refine lv_icmp_ne (tgt := 67) hx hb dX6_hours_60 (by decide) (fun c_17 => ?_) (fun c_17 => ?_)
    · exact absurd (n_18 c_7 r_12 u_13 u_14 hw_12) c_17
    · refine lv_iconst (v := 1) hx hb dX6_hours_63 (by decide) ?_
      refine lv_goto (tgt := 68) hx hb dX6_hours_64 (by decide) ?_
      have hP9 := hP.sub (ws' := [tc_X6 o0 a0 (tm_sb G) (((dw + 1) + 1) + 1) ttk tmo tsu tlv tsi tga tsl tsc ((f_X6_draw dw 48 (tm_sL G) (tm_xs G)).1) ((f_X6_draw ((dw + 1) + 1) 48 (tm_sL G) (tm_xs G)).1) tfo tee tlk trf pd o1 ed o2 tpu tto, tc_X5 a0 ma0 ta0 lk rf pu to, tc_X1 ma0 ma1 ma2 ma3 ma4 u_13 u_14 ee, tc_X4 ma1 tk mo su]) [3, 0, 1, 2] rfl
      have hD9 := hD.sub (ws' := [tc_X6 o0 a0 (tm_sb G) (((dw + 1) + 1) + 1) ttk tmo tsu tlv tsi tga tsl tsc ((f_X6_draw dw 48 (tm_sL G) (tm_xs G)).1) ((f_X6_draw ((dw + 1) + 1) 48 (tm_sL G) (tm_xs G)).1) tfo tee tlk trf pd o1 ed o2 tpu tto, tc_X5 a0 ma0 ta0 lk rf pu to, tc_X1 ma0 ma1 ma2 ma3 ma4 u_13 u_14 ee, tc_X4 ma1 tk mo su]) [3, 0, 1, 2] (by decide) rfl
      exact W.zret (v := 1) hx hb hr rfl (fun t ht hW => ⟨⟨1, (((dw + 1) + 1) + 1, (f_X6_draw dw 48 (tm_sL G) (tm_xs G)).1, (f_X6_draw ((dw + 1) + 1) 48 (tm_sL G) (tm_xs G)).1, u_13, u_14), rfl, ⟨rfl, by unfold f_X6_hours; all_goals (rw [if_neg c_7]); all_goals (rw [← hw_12]); all_goals (dsimp only); all_goals rfl⟩, by rw [ht]; exact hP9, hD9⟩, hS.F ht⟩) hS.2.2 dX6_hours_68
  · refine lv_aload_n hx hb dX6_hours_19 rfl (lv_at hl 0 rfl) ?_
    refine va_get (D := G.1) (ci := 6) (v := .int ((f_X6_draw dw 48 (tm_sL G) (tm_xs G)).1)) (C := RX6) (T := TX6) (N := 23) hx hb hts hiX6 hown hK hP 3 rfl rfl 11 (by decide) (hts (.fieldLink RX6 94 "TideMillLaw$Told" "from" "I") (List.mem_of_getElem? (i := 1) rfl)) (fun _ h9 => h9) rfl dX6_hours_20 ?_
    refine lv_bipush (v := 30) hx hb dX6_hours_23 (by decide) ?_
    refine lv_iadd hx hb dX6_hours_25 ?_
    refine lv_bipush (v := 48) hx hb dX6_hours_26 (by decide) ?_
    refine lv_irem hx hb dX6_hours_28 (by decide) ?_
    refine lv_goto (tgt := 38) hx hb dX6_hours_29 (by decide) ?_
    refine va_put (D := G.1) (ci := 6) (v := .int ((((f_X6_draw dw 48 (tm_sL G) (tm_xs G)).1) + 30) - (((f_X6_draw dw 48 (tm_sL G) (tm_xs G)).1) + 30) / 48 * 48)) (ty := .int) (C := RX6) (T := TX6) (N := 23) hx hb hts hiX6 tyX6 tyX6_ok nmX6 hown hK hP hD hS 3 rfl rfl 12 (by decide) (hts (.fieldLink RX6 16 "TideMillLaw$Told" "to" "I") (List.mem_of_getElem? (i := 2) rfl)) (fun _ h9 => h9) rfl (by decide +kernel) rfl rfl (Nat.le_of_ble_eq_true rfl) dX6_hours_38 (fun H locs hP hD hS => ?_)
    have hP : va_P G.1 vwCl [tc_X5 a0 ma0 ta0 lk rf pu to, tc_X1 ma0 ma1 ma2 ma3 ma4 fh lh ee, tc_X4 ma1 tk mo su, tc_X6 o0 a0 (tm_sb G) ((dw + 1) + 1) ttk tmo tsu tlv tsi tga tsl tsc ((f_X6_draw dw 48 (tm_sL G) (tm_xs G)).1) ((((f_X6_draw dw 48 (tm_sL G) (tm_xs G)).1) + 30) - (((f_X6_draw dw 48 (tm_sL G) (tm_xs G)).1) + 30) / 48 * 48) tfo tee tlk trf pd o1 ed o2 tpu tto] H := hP
    have hD : va_D A [tc_X5 a0 ma0 ta0 lk rf pu to, tc_X1 ma0 ma1 ma2 ma3 ma4 fh lh ee, tc_X4 ma1 tk mo su, tc_X6 o0 a0 (tm_sb G) ((dw + 1) + 1) ttk tmo tsu tlv tsi tga tsl tsc ((f_X6_draw dw 48 (tm_sL G) (tm_xs G)).1) ((((f_X6_draw dw 48 (tm_sL G) (tm_xs G)).1) + 30) - (((f_X6_draw dw 48 (tm_sL G) (tm_xs G)).1) + 30) / 48 * 48) tfo tee tlk trf pd o1 ed o2 tpu tto] := hD
    refine lv_aload_n hx hb dX6_hours_41 rfl (lv_at hl 0 rfl) ?_
    refine va_get (D := G.1) (ci := 6) (v := .ref a0) (C := RX6) (T := TX6) (N := 23) hx hb hts hiX6 hown hK hP 3 rfl rfl 0 (by decide) (hts (.fieldLink RX6 10 "TideMillLaw$Told" "m" "LTideMill;") (List.mem_of_getElem? (i := 3) rfl)) (fun _ h9 => h9) rfl dX6_hours_42 ?_
    refine lv_aload_n hx hb dX6_hours_45 rfl (lv_at hl 0 rfl) ?_
    refine va_get (D := G.1) (ci := 6) (v := .int ((f_X6_draw dw 48 (tm_sL G) (tm_xs G)).1)) (C := RX6) (T := TX6) (N := 23) hx hb hts hiX6 hown hK hP 3 rfl rfl 11 (by decide) (hts (.fieldLink RX6 94 "TideMillLaw$Told" "from" "I") (List.mem_of_getElem? (i := 1) rfl)) (fun _ h9 => h9) rfl dX6_hours_46 ?_
    refine lv_aload_n hx hb dX6_hours_49 rfl (lv_at hl 0 rfl) ?_
    refine va_get (D := G.1) (ci := 6) (v := .int ((((f_X6_draw dw 48 (tm_sL G) (tm_xs G)).1) + 30) - (((f_X6_draw dw 48 (tm_sL G) (tm_xs G)).1) + 30) / 48 * 48)) (C := RX6) (T := TX6) (N := 23) hx hb hts hiX6 hown hK hP 3 rfl rfl 12 (by decide) (hts (.fieldLink RX6 16 "TideMillLaw$Told" "to" "I") (List.mem_of_getElem? (i := 2) rfl)) (fun _ h9 => h9) rfl dX6_hours_50 ?_
    have hPc := hP.sub (ws' := [tc_X5 a0 ma0 ta0 lk rf pu to, tc_X1 ma0 ma1 ma2 ma3 ma4 fh lh ee, tc_X4 ma1 tk mo su]) [0, 1, 2] rfl
    have hDc := hD.sub (ws' := [tc_X5 a0 ma0 ta0 lk rf pu to, tc_X1 ma0 ma1 ma2 ma3 ma4 fh lh ee, tc_X4 ma1 tk mo su]) [0, 1, 2] (by decide) rfl
    have hFc := va_free (wc := [tc_X5 a0 ma0 ta0 lk rf pu to, tc_X1 ma0 ma1 ma2 ma3 ma4 fh lh ee, tc_X4 ma1 tk mo su]) hD hS hA [0, 1, 2] rfl
    refine va_calli (va_runV (As := [.int ((f_X6_draw dw 48 (tm_sL G) (tm_xs G)).1), .int ((((f_X6_draw dw 48 (tm_sL G) (tm_xs G)).1) + 30) - (((f_X6_draw dw 48 (tm_sL G) (tm_xs G)).1) + 30) / 48 * 48)]) (rest := []) ⟨hx, hb, hml, hown, hts⟩ (c_X5_hours l G a0 ma0 ta0 ma1 ma2 ma3 ma4 H.size lk rf pu to fh lh ee tk mo su ((f_X6_draw dw 48 (tm_sL G) (tm_xs G)).1) ((((f_X6_draw dw 48 (tm_sL G) (tm_xs G)).1) + 30) - (((f_X6_draw dw 48 (tm_sL G) (tm_xs G)).1) + 30) / 48 * 48) (n_19 c_7)) (cwV 2 hts gX6_hours_X5_hours rfl rfl rfl (by decide +kernel) ⟨(Nat.le_of_ble_eq_true rfl), (Nat.le_of_ble_eq_true rfl)⟩) (tm_preV hK hN hV hS hPc hDc hFc (va_recv hK hPc (ci := 5) (q0 := 0) rfl rfl)) rfl rfl hl.1 rfl (lv_room (Nat.le_of_ble_eq_true rfl)) dX6_hours_53 ⟨(Nat.le_of_ble_eq_true rfl), (Nat.le_of_ble_eq_true rfl)⟩) hS (fun q _ h => hFc q h) hFc (fun r_20 u t H locs ht hvm hw_20 hB hz1 hk1 hS => ?_)
    obtain ⟨u_21, u_22⟩ := u
    obtain ⟨hP1, hD1⟩ := hB
    rw [ht] at hP1
    try dsimp only at hw_20
    obtain ⟨hP, hD⟩ := va_join (wr := [tc_X6 o0 a0 (tm_sb G) ((dw + 1) + 1) ttk tmo tsu tlv tsi tga tsl tsc ((f_X6_draw dw 48 (tm_sL G) (tm_xs G)).1) ((((f_X6_draw dw 48 (tm_sL G) (tm_xs G)).1) + 30) - (((f_X6_draw dw 48 (tm_sL G) (tm_xs G)).1) + 30) / 48 * 48) tfo tee tlk trf pd o1 ed o2 tpu tto]) (w1 := [tc_X5 a0 ma0 ta0 lk rf pu to, tc_X1 ma0 ma1 ma2 ma3 ma4 u_21 u_22 ee, tc_X4 ma1 tk mo su]) hP hD [0, 1, 2] [3] rfl rfl (by decide) (by decide) hk1 hFc hP1 hD1
    have hP : va_P G.1 vwCl [tc_X6 o0 a0 (tm_sb G) ((dw + 1) + 1) ttk tmo tsu tlv tsi tga tsl tsc ((f_X6_draw dw 48 (tm_sL G) (tm_xs G)).1) ((((f_X6_draw dw 48 (tm_sL G) (tm_xs G)).1) + 30) - (((f_X6_draw dw 48 (tm_sL G) (tm_xs G)).1) + 30) / 48 * 48) tfo tee tlk trf pd o1 ed o2 tpu tto, tc_X5 a0 ma0 ta0 lk rf pu to, tc_X1 ma0 ma1 ma2 ma3 ma4 u_21 u_22 ee, tc_X4 ma1 tk mo su] H := hP
    have hD : va_D A [tc_X6 o0 a0 (tm_sb G) ((dw + 1) + 1) ttk tmo tsu tlv tsi tga tsl tsc ((f_X6_draw dw 48 (tm_sL G) (tm_xs G)).1) ((((f_X6_draw dw 48 (tm_sL G) (tm_xs G)).1) + 30) - (((f_X6_draw dw 48 (tm_sL G) (tm_xs G)).1) + 30) / 48 * 48) tfo tee tlk trf pd o1 ed o2 tpu tto, tc_X5 a0 ma0 ta0 lk rf pu to, tc_X1 ma0 ma1 ma2 ma3 ma4 u_21 u_22 ee, tc_X4 ma1 tk mo su] := hD
    refine lv_aload_n hx hb dX6_hours_56 rfl (lv_at hl 0 rfl) ?_
    have hPc := hP.sub (ws' := [tc_X6 o0 a0 (tm_sb G) ((dw + 1) + 1) ttk tmo tsu tlv tsi tga tsl tsc ((f_X6_draw dw 48 (tm_sL G) (tm_xs G)).1) ((((f_X6_draw dw 48 (tm_sL G) (tm_xs G)).1) + 30) - (((f_X6_draw dw 48 (tm_sL G) (tm_xs G)).1) + 30) / 48 * 48) tfo tee tlk trf pd o1 ed o2 tpu tto]) [0] rfl
    have hDc := hD.sub (ws' := [tc_X6 o0 a0 (tm_sb G) ((dw + 1) + 1) ttk tmo tsu tlv tsi tga tsl tsc ((f_X6_draw dw 48 (tm_sL G) (tm_xs G)).1) ((((f_X6_draw dw 48 (tm_sL G) (tm_xs G)).1) + 30) - (((f_X6_draw dw 48 (tm_sL G) (tm_xs G)).1) + 30) / 48 * 48) tfo tee tlk trf pd o1 ed o2 tpu tto]) [0] (by decide) rfl
    have hFc := va_free (wc := [tc_X6 o0 a0 (tm_sb G) ((dw + 1) + 1) ttk tmo tsu tlv tsi tga tsl tsc ((f_X6_draw dw 48 (tm_sL G) (tm_xs G)).1) ((((f_X6_draw dw 48 (tm_sL G) (tm_xs G)).1) + 30) - (((f_X6_draw dw 48 (tm_sL G) (tm_xs G)).1) + 30) / 48 * 48) tfo tee tlk trf pd o1 ed o2 tpu tto]) hD hS hA [0] rfl
    refine va_calli (va_runV (As := []) (rest := [.int r_20]) ⟨hx, hb, hml, hown, hts⟩ (c_X6_isAwake l G o0 a0 pd o1 ed o2 H.size ((dw + 1) + 1) ttk tmo tsu tlv tsi tga tsl tsc ((f_X6_draw dw 48 (tm_sL G) (tm_xs G)).1) ((((f_X6_draw dw 48 (tm_sL G) (tm_xs G)).1) + 30) - (((f_X6_draw dw 48 (tm_sL G) (tm_xs G)).1) + 30) / 48 * 48) tfo tee tlk trf tpu tto (n_23 c_7 r_20 u_21 u_22 hw_20)) (cwV 0 hts gX6_hours_X6_isAwake rfl rfl rfl (by decide +kernel) ⟨(Nat.le_of_ble_eq_true rfl), (Nat.le_of_ble_eq_true rfl)⟩) (tm_preV hK hN hV hS hPc hDc hFc (va_recv hK hPc (ci := 6) (q0 := 0) rfl rfl)) rfl rfl hl.1 rfl (lv_room (Nat.le_of_ble_eq_true rfl)) dX6_hours_57 ⟨(Nat.le_of_ble_eq_true rfl), (Nat.le_of_ble_eq_true rfl)⟩) hS (fun q _ h => hFc q h) hFc (fun r_24 u t H locs ht hvm hw_24 hB hz1 hk1 hS => ?_)
    obtain ⟨hP1, hD1⟩ := hB
    rw [ht] at hP1
    try dsimp only at hw_24
    obtain ⟨hP, hD⟩ := va_join (wr := [tc_X5 a0 ma0 ta0 lk rf pu to, tc_X1 ma0 ma1 ma2 ma3 ma4 u_21 u_22 ee, tc_X4 ma1 tk mo su]) (w1 := [tc_X6 o0 a0 (tm_sb G) ((dw + 1) + 1) ttk tmo tsu tlv tsi tga tsl tsc ((f_X6_draw dw 48 (tm_sL G) (tm_xs G)).1) ((((f_X6_draw dw 48 (tm_sL G) (tm_xs G)).1) + 30) - (((f_X6_draw dw 48 (tm_sL G) (tm_xs G)).1) + 30) / 48 * 48) tfo tee tlk trf pd o1 ed o2 tpu tto]) hP hD [0] [1, 2, 3] rfl rfl (by decide) (by decide) hk1 hFc hP1 hD1
    have hP : va_P G.1 vwCl [tc_X5 a0 ma0 ta0 lk rf pu to, tc_X1 ma0 ma1 ma2 ma3 ma4 u_21 u_22 ee, tc_X4 ma1 tk mo su, tc_X6 o0 a0 (tm_sb G) ((dw + 1) + 1) ttk tmo tsu tlv tsi tga tsl tsc ((f_X6_draw dw 48 (tm_sL G) (tm_xs G)).1) ((((f_X6_draw dw 48 (tm_sL G) (tm_xs G)).1) + 30) - (((f_X6_draw dw 48 (tm_sL G) (tm_xs G)).1) + 30) / 48 * 48) tfo tee tlk trf pd o1 ed o2 tpu tto] H := hP
    have hD : va_D A [tc_X5 a0 ma0 ta0 lk rf pu to, tc_X1 ma0 ma1 ma2 ma3 ma4 u_21 u_22 ee, tc_X4 ma1 tk mo su, tc_X6 o0 a0 (tm_sb G) ((dw + 1) + 1) ttk tmo tsu tlv tsi tga tsl tsc ((f_X6_draw dw 48 (tm_sL G) (tm_xs G)).1) ((((f_X6_draw dw 48 (tm_sL G) (tm_xs G)).1) + 30) - (((f_X6_draw dw 48 (tm_sL G) (tm_xs G)).1) + 30) / 48 * 48) tfo tee tlk trf pd o1 ed o2 tpu tto] := hD
    subst r_24
    refine lv_icmp_ne (tgt := 67) hx hb dX6_hours_60 (by decide) (fun c_25 => ?_) (fun c_25 => ?_)
    · exact absurd (n_26 c_7 r_20 u_21 u_22 hw_20) c_25
    · refine lv_iconst (v := 1) hx hb dX6_hours_63 (by decide) ?_
      refine lv_goto (tgt := 68) hx hb dX6_hours_64 (by decide) ?_
      have hP9 := hP.sub (ws' := [tc_X6 o0 a0 (tm_sb G) ((dw + 1) + 1) ttk tmo tsu tlv tsi tga tsl tsc ((f_X6_draw dw 48 (tm_sL G) (tm_xs G)).1) ((((f_X6_draw dw 48 (tm_sL G) (tm_xs G)).1) + 30) - (((f_X6_draw dw 48 (tm_sL G) (tm_xs G)).1) + 30) / 48 * 48) tfo tee tlk trf pd o1 ed o2 tpu tto, tc_X5 a0 ma0 ta0 lk rf pu to, tc_X1 ma0 ma1 ma2 ma3 ma4 u_21 u_22 ee, tc_X4 ma1 tk mo su]) [3, 0, 1, 2] rfl
      have hD9 := hD.sub (ws' := [tc_X6 o0 a0 (tm_sb G) ((dw + 1) + 1) ttk tmo tsu tlv tsi tga tsl tsc ((f_X6_draw dw 48 (tm_sL G) (tm_xs G)).1) ((((f_X6_draw dw 48 (tm_sL G) (tm_xs G)).1) + 30) - (((f_X6_draw dw 48 (tm_sL G) (tm_xs G)).1) + 30) / 48 * 48) tfo tee tlk trf pd o1 ed o2 tpu tto, tc_X5 a0 ma0 ta0 lk rf pu to, tc_X1 ma0 ma1 ma2 ma3 ma4 u_21 u_22 ee, tc_X4 ma1 tk mo su]) [3, 0, 1, 2] (by decide) rfl
      exact W.zret (v := 1) hx hb hr rfl (fun t ht hW => ⟨⟨1, ((dw + 1) + 1, (f_X6_draw dw 48 (tm_sL G) (tm_xs G)).1, (((f_X6_draw dw 48 (tm_sL G) (tm_xs G)).1) + 30) - (((f_X6_draw dw 48 (tm_sL G) (tm_xs G)).1) + 30) / 48 * 48, u_21, u_22), rfl, ⟨rfl, by unfold f_X6_hours; all_goals (rw [if_pos c_7]); all_goals (rw [← hw_20]); all_goals (dsimp only); all_goals rfl⟩, by rw [ht]; exact hP9, hD9⟩, hS.F ht⟩) hS.2.2 dX6_hours_68
