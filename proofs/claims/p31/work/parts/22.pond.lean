set_option maxHeartbeats 4000000 in
set_option maxRecDepth 100000 in
theorem c_X3_area (l : Launch) (G : tm_G) (a0 : Nat) (sz : Nat) (lv : UInt64) (si : UInt32) (ga : Int32) (sl : Int32) (sc : Int32) (fo : UInt64) (hn : n_X3_area si) : Met l yX3_area wsX3_area ({ frames := 0, cells := 0, slots := 0, locals := 0 }) (va_Pc [.ref a0] (tm_B G [tc_X3 a0 lv si ga sl sc fo] sz)) (va_Qd (fun (r : UInt64) (u : Unit) => r = f_X3_area si) (fun (u : Unit) (t : State) => va_P G.1 vwCl [tc_X3 a0 lv si ga sl sc fo] t.heap ∧ va_D (va_A [tc_X3 a0 lv si ga sl sc fo] sz) [tc_X3 a0 lv si ga sl sc fo]) (va_A [tc_X3 a0 lv si ga sl sc fo] sz)) 0 0 (va_A [tc_X3 a0 lv si ga sl sc fo] sz) := by
  refine Met.ofW (cc := cX3_area) (maxL := 1) (ret := (some .double)) (by decide) rfl ?_
  intro p e s m args below meth c s₁ B hml hv
  obtain ⟨rfl, hsz, hP, hK, hD0, hN, hV⟩ := hv
  have hx := B.exec
  have hb := B.bytes
  have hr := B.returns
  have hts := atoms_spec (ws := wsX3_area) B.pre
  have hown : s.vm.findClass RX3 = some m.cls := findClass_of_methodNamed B.named
  have hlocks := B.notSynchronized
  subst hsz
  obtain ⟨n_1, n_2⟩ := hn
  have hiX3 : ∀ w ∈ u_ws RX3 TX3 6, w ∈ wsX3_area := fun _ h => List.mem_cons_of_mem _ (List.mem_append_right _ h)
  have hD := hD0.self (sz := s.heap.size)
  generalize hAe : va_A [tc_X3 a0 lv si ga sl sc fo] s.heap.size = A at hD hV ⊢
  have hA : ∀ q : Nat, s.heap.size ≤ q → A q := fun q h => by rw [← hAe]; exact Or.inr h
  have hS : va_S A s.heap s.heap [] := va_S.rf
  have hl := lv_entry ([.ref a0]) (n := 1) (Nat.le_of_ble_eq_true rfl)
  rw [lg_entry_eq]
  generalize (lg_sl ([.ref a0]) ++ List.replicate (1 - (lg_sl ([.ref a0])).length) Slot.unset).toArray = ls at hl ⊢
  have hl : lv_has ls 1 [(0, .ref a0)] := hl
  refine lv_ldc2d hx hb hown (hts (.constantDouble RX3 31 (4620693217682128896)) (List.mem_of_getElem? (i := 1) rfl)) dX3_area_0 ?_
  refine lv_aload_n hx hb dX3_area_3 rfl (lv_at hl 0 rfl) ?_
  refine va_get (D := G.1) (ci := 3) (v := .float si) (C := RX3) (T := TX3) (N := 6) hx hb hts hiX3 hown hK hP 0 rfl rfl 1 (by decide) (hts (.fieldLink RX3 13 "TideMill$Pond" "silt" "F") (List.mem_of_getElem? (i := 2) rfl)) (fun _ h9 => h9) rfl dX3_area_4 ?_
  refine lv_f2d hx hb dX3_area_7 n_1 ?_
  refine lv_dsub hx hb dX3_area_8 n_2 ?_
  have hP9 := hP.sub (ws' := [tc_X3 a0 lv si ga sl sc fo]) [0] rfl
  have hD9 := hD.sub (ws' := [tc_X3 a0 lv si ga sl sc fo]) [0] (by decide) rfl
  exact W.dret (v := FP.dsub 4620693217682128896 (FP.f2d si)) hx hb hr (fun t ht hW => ⟨⟨FP.dsub 4620693217682128896 (FP.f2d si), (), rfl, by unfold f_X3_area; all_goals rfl, by rw [ht]; exact hP9, hD9⟩, hS.F ht⟩) hS.2.2 dX3_area_9
set_option maxHeartbeats 4000000 in
set_option maxRecDepth 100000 in
theorem c_X3_fill (l : Launch) (G : tm_G) (a0 : Nat) (sz : Nat) (lv : UInt64) (si : UInt32) (ga : Int32) (sl : Int32) (sc : Int32) (fo : UInt64) (p1 : UInt64) (hn : n_X3_fill lv si ga p1) : Met l yX3_fill wsX3_fill ({ frames := 1, cells := 0, slots := 0, locals := 20 }) (va_Pc [.ref a0, .double p1] (tm_B G [tc_X3 a0 lv si ga sl sc fo] sz)) (va_Qv (fun (u : UInt64 × UInt32) => u = f_X3_fill lv si ga p1) (fun (u : UInt64 × UInt32) (t : State) => va_P G.1 vwCl [tc_X3 a0 u.1 u.2 ga sl sc fo] t.heap ∧ va_D (va_A [tc_X3 a0 lv si ga sl sc fo] sz) [tc_X3 a0 u.1 u.2 ga sl sc fo]) (va_A [tc_X3 a0 lv si ga sl sc fo] sz)) 0 0 (va_A [tc_X3 a0 lv si ga sl sc fo] sz) := by
  refine Met.ofW (cc := cX3_fill) (maxL := 6) (ret := none) (by decide) rfl ?_
  intro p e s m args below meth c s₁ B hml hv
  obtain ⟨rfl, hsz, hP, hK, hD0, hN, hV⟩ := hv
  have hx := B.exec
  have hb := B.bytes
  have hr := B.returns
  have hts := atoms_spec (ws := wsX3_fill) B.pre
  have hown : s.vm.findClass RX3 = some m.cls := findClass_of_methodNamed B.named
  have hlocks := B.notSynchronized
  subst hsz
  obtain ⟨n_3, n_4, n_5, n_6, n_8, n_9, n_10, n_11, n_12⟩ := hn
  have hiX3 : ∀ w ∈ u_ws RX3 TX3 6, w ∈ wsX3_fill := fun _ h => List.mem_cons_of_mem _ (List.mem_append_right _ h)
  have hD := hD0.self (sz := s.heap.size)
  generalize hAe : va_A [tc_X3 a0 lv si ga sl sc fo] s.heap.size = A at hD hV ⊢
  have hA : ∀ q : Nat, s.heap.size ≤ q → A q := fun q h => by rw [← hAe]; exact Or.inr h
  have hS : va_S A s.heap s.heap [] := va_S.rf
  have hl := lv_entry ([.ref a0, .double p1]) (n := 6) (Nat.le_of_ble_eq_true rfl)
  rw [lg_entry_eq]
  generalize (lg_sl ([.ref a0, .double p1]) ++ List.replicate (6 - (lg_sl ([.ref a0, .double p1])).length) Slot.unset).toArray = ls at hl ⊢
  have hl : lv_has ls 6 [(0, .ref a0), (1, .double p1)] := hl
  refine lv_aload_n hx hb dX3_fill_0 rfl (lv_at hl 0 rfl) ?_
  refine va_get (D := G.1) (ci := 3) (v := .int ga) (C := RX3) (T := TX3) (N := 6) hx hb hts hiX3 hown hK hP 0 rfl rfl 2 (by decide) (hts (.fieldLink RX3 17 "TideMill$Pond" "gates" "I") (List.mem_of_getElem? (i := 1) rfl)) (fun _ h9 => h9) rfl dX3_fill_1 ?_
  refine lv_if_le (tgt := 79) hx hb dX3_fill_4 (by decide) (fun c_1 => ?_) (fun c_1 => ?_)
  · have hP9 := hP.sub (ws' := [tc_X3 a0 lv si ga sl sc fo]) [0] rfl
    have hD9 := hD.sub (ws' := [tc_X3 a0 lv si ga sl sc fo]) [0] (by decide) rfl
    exact W.vret hx hb hr (fun t ht hW => ⟨⟨(lv, si), rfl, by unfold f_X3_fill; all_goals (rw [if_pos c_1]); all_goals rfl, by rw [ht]; exact hP9, hD9⟩, hS.F ht⟩) hS.2.2 dX3_fill_79
  · refine lv_dload_n hx hb dX3_fill_7 rfl (lv_at hl 1 rfl) ?_
    refine lv_aload_n hx hb dX3_fill_8 rfl (lv_at hl 0 rfl) ?_
    refine va_get (D := G.1) (ci := 3) (v := .double lv) (C := RX3) (T := TX3) (N := 6) hx hb hts hiX3 hown hK hP 0 rfl rfl 0 (by decide) (hts (.fieldLink RX3 7 "TideMill$Pond" "level" "D") (List.mem_of_getElem? (i := 2) rfl)) (fun _ h9 => h9) rfl dX3_fill_9 ?_
    refine lv_dcmp hx hb dX3_fill_12 ?_
    refine lv_if_le (tgt := 79) hx hb dX3_fill_13 (by decide) (fun c_2 => ?_) (fun c_2 => ?_)
    · have hP9 := hP.sub (ws' := [tc_X3 a0 lv si ga sl sc fo]) [0] rfl
      have hD9 := hD.sub (ws' := [tc_X3 a0 lv si ga sl sc fo]) [0] (by decide) rfl
      exact W.vret hx hb hr (fun t ht hW => ⟨⟨(lv, si), rfl, by unfold f_X3_fill; all_goals (rw [if_neg c_1]); all_goals (rw [if_pos c_2]); all_goals rfl, by rw [ht]; exact hP9, hD9⟩, hS.F ht⟩) hS.2.2 dX3_fill_79
    · refine lv_aload_n hx hb dX3_fill_16 rfl (lv_at hl 0 rfl) ?_
      refine va_get (D := G.1) (ci := 3) (v := .int ga) (C := RX3) (T := TX3) (N := 6) hx hb hts hiX3 hown hK hP 0 rfl rfl 2 (by decide) (hts (.fieldLink RX3 17 "TideMill$Pond" "gates" "I") (List.mem_of_getElem? (i := 1) rfl)) (fun _ h9 => h9) rfl dX3_fill_17 ?_
      refine lv_i2d hx hb dX3_fill_20 ?_
      refine lv_dload_n hx hb dX3_fill_21 rfl (lv_at hl 1 rfl) ?_
      refine lv_aload_n hx hb dX3_fill_22 rfl (lv_at hl 0 rfl) ?_
      refine va_get (D := G.1) (ci := 3) (v := .double lv) (C := RX3) (T := TX3) (N := 6) hx hb hts hiX3 hown hK hP 0 rfl rfl 0 (by decide) (hts (.fieldLink RX3 7 "TideMill$Pond" "level" "D") (List.mem_of_getElem? (i := 2) rfl)) (fun _ h9 => h9) rfl dX3_fill_23 ?_
      refine lv_dsub hx hb dX3_fill_26 (n_3 c_1 c_2) ?_
      refine lv_dmul hx hb dX3_fill_27 (n_4 c_1 c_2) ?_
      refine lv_ldc2d hx hb hown (hts (.constantDouble RX3 43 (4602678819172646912)) (List.mem_of_getElem? (i := 3) rfl)) dX3_fill_28 ?_
      refine lv_dmul hx hb dX3_fill_31 (n_5 c_1 c_2) ?_
      refine lv_dstore_n (lv' := [(3, .double (FP.dmul (FP.dmul (FP.i2d ga) (FP.dsub p1 lv)) 4602678819172646912)), (0, .ref a0), (1, .double p1)]) hx hb dX3_fill_32 rfl hl (by decide) rfl (fun ls hl => ?_)
      refine lv_aload_n hx hb dX3_fill_33 rfl (lv_at hl 1 rfl) ?_
      refine lv_dup hx hb dX3_fill_34 rfl ?_
      refine va_get (D := G.1) (ci := 3) (v := .double lv) (C := RX3) (T := TX3) (N := 6) hx hb hts hiX3 hown hK hP 0 rfl rfl 0 (by decide) (hts (.fieldLink RX3 7 "TideMill$Pond" "level" "D") (List.mem_of_getElem? (i := 2) rfl)) (fun _ h9 => h9) rfl dX3_fill_35 ?_
      refine lv_dload_n hx hb dX3_fill_38 rfl (lv_at hl 0 rfl) ?_
      refine lv_aload_n hx hb dX3_fill_39 rfl (lv_at hl 1 rfl) ?_
      have hPc := hP.sub (ws' := [tc_X3 a0 lv si ga sl sc fo]) [0] rfl
      have hDc := hD.sub (ws' := [tc_X3 a0 lv si ga sl sc fo]) [0] (by decide) rfl
      have hFc := va_free (wc := [tc_X3 a0 lv si ga sl sc fo]) hD hS hA [0] rfl
      refine va_calld (va_runV (As := []) (rest := [.double (FP.dmul (FP.dmul (FP.i2d ga) (FP.dsub p1 lv)) 4602678819172646912), .double lv, .ref a0]) ⟨hx, hb, hml, hown, hts⟩ (c_X3_area l G a0 s.heap.size lv si ga sl sc fo (n_6 c_1 c_2)) (cwV 0 hts gX3_fill_X3_area rfl rfl rfl (by decide +kernel) ⟨(Nat.le_of_ble_eq_true rfl), (Nat.le_of_ble_eq_true rfl)⟩) (tm_preV hK hN hV hS hPc hDc hFc (va_recv hK hPc (ci := 3) (q0 := 0) rfl rfl)) rfl rfl hl.1 rfl (lv_room (Nat.le_of_ble_eq_true rfl)) dX3_fill_40 ⟨(Nat.le_of_ble_eq_true rfl), (Nat.le_of_ble_eq_true rfl)⟩) hS (fun q _ h => hFc q h) hFc (fun r_7 u t H locs ht hvm hw_7 hB hz1 hk1 hS => ?_)
      obtain ⟨hP1, hD1⟩ := hB
      rw [ht] at hP1
      try dsimp only at hw_7
      obtain ⟨hP, hD⟩ := va_join (wr := []) (w1 := [tc_X3 a0 lv si ga sl sc fo]) hP hD [0] [] rfl rfl (by decide) (by decide) hk1 hFc hP1 hD1
      have hP : va_P G.1 vwCl [tc_X3 a0 lv si ga sl sc fo] H := hP
      have hD : va_D A [tc_X3 a0 lv si ga sl sc fo] := hD
      subst hw_7
      refine lv_ddiv hx hb dX3_fill_43 (n_8 c_1 c_2) ?_
      refine lv_dadd hx hb dX3_fill_44 (n_9 c_1 c_2) ?_
      refine va_put (D := G.1) (ci := 3) (v := .double (FP.dadd lv (FP.ddiv (FP.dmul (FP.dmul (FP.i2d ga) (FP.dsub p1 lv)) 4602678819172646912) (f_X3_area si)))) (ty := .double) (C := RX3) (T := TX3) (N := 6) hx hb hts hiX3 tyX3 tyX3_ok nmX3 hown hK hP hD hS 0 rfl rfl 0 (by decide) (hts (.fieldLink RX3 7 "TideMill$Pond" "level" "D") (List.mem_of_getElem? (i := 2) rfl)) (fun _ h9 => h9) rfl (by decide +kernel) rfl rfl (Nat.le_of_ble_eq_true rfl) dX3_fill_45 (fun H locs hP hD hS => ?_)
      have hP : va_P G.1 vwCl [tc_X3 a0 (FP.dadd lv (FP.ddiv (FP.dmul (FP.dmul (FP.i2d ga) (FP.dsub p1 lv)) 4602678819172646912) (f_X3_area si))) si ga sl sc fo] H := hP
      have hD : va_D A [tc_X3 a0 (FP.dadd lv (FP.ddiv (FP.dmul (FP.dmul (FP.i2d ga) (FP.dsub p1 lv)) 4602678819172646912) (f_X3_area si))) si ga sl sc fo] := hD
      refine lv_aload_n hx hb dX3_fill_48 rfl (lv_at hl 1 rfl) ?_
      refine va_get (D := G.1) (ci := 3) (v := .float si) (C := RX3) (T := TX3) (N := 6) hx hb hts hiX3 hown hK hP 0 rfl rfl 1 (by decide) (hts (.fieldLink RX3 13 "TideMill$Pond" "silt" "F") (List.mem_of_getElem? (i := 4) rfl)) (fun _ h9 => h9) rfl dX3_fill_49 ?_
      refine lv_dload_n hx hb dX3_fill_52 rfl (lv_at hl 0 rfl) ?_
      refine lv_d2f hx hb dX3_fill_53 (n_10 c_1 c_2) ?_
      refine lv_ldcf hx hb hown (hts (.constantFloat RX3 49 (1115684864)) (List.mem_of_getElem? (i := 5) rfl)) dX3_fill_54 ?_
      refine lv_fdiv hx hb dX3_fill_56 (n_11 c_1 c_2) ?_
      refine lv_fadd hx hb dX3_fill_57 (n_12 c_1 c_2) ?_
      refine lv_fstore (lv' := [(5, .float (FP.fadd si (FP.fdiv (FP.d2f (FP.dmul (FP.dmul (FP.i2d ga) (FP.dsub p1 lv)) 4602678819172646912)) 1115684864))), (3, .double (FP.dmul (FP.dmul (FP.i2d ga) (FP.dsub p1 lv)) 4602678819172646912)), (0, .ref a0), (1, .double p1)]) hx hb dX3_fill_58 hl (by decide) rfl (fun ls hl => ?_)
      refine lv_aload_n hx hb dX3_fill_60 rfl (lv_at hl 2 rfl) ?_
      refine lv_fload hx hb dX3_fill_61 (lv_at hl 0 rfl) ?_
      refine lv_ldcf hx hb hown (hts (.constantFloat RX3 50 (1082130432)) (List.mem_of_getElem? (i := 6) rfl)) dX3_fill_63 ?_
      refine lv_fcmp hx hb dX3_fill_65 ?_
      refine lv_if_le (tgt := 74) hx hb dX3_fill_66 (by decide) (fun c_13 => ?_) (fun c_13 => ?_)
      · refine lv_fload hx hb dX3_fill_74 (lv_at hl 0 rfl) ?_
        refine va_put (D := G.1) (ci := 3) (v := .float (FP.fadd si (FP.fdiv (FP.d2f (FP.dmul (FP.dmul (FP.i2d ga) (FP.dsub p1 lv)) 4602678819172646912)) 1115684864))) (ty := .float) (C := RX3) (T := TX3) (N := 6) hx hb hts hiX3 tyX3 tyX3_ok nmX3 hown hK hP hD hS 0 rfl rfl 1 (by decide) (hts (.fieldLink RX3 13 "TideMill$Pond" "silt" "F") (List.mem_of_getElem? (i := 4) rfl)) (fun _ h9 => h9) rfl (by decide +kernel) rfl rfl (Nat.le_of_ble_eq_true rfl) dX3_fill_76 (fun H locs hP hD hS => ?_)
        have hP : va_P G.1 vwCl [tc_X3 a0 (FP.dadd lv (FP.ddiv (FP.dmul (FP.dmul (FP.i2d ga) (FP.dsub p1 lv)) 4602678819172646912) (f_X3_area si))) (FP.fadd si (FP.fdiv (FP.d2f (FP.dmul (FP.dmul (FP.i2d ga) (FP.dsub p1 lv)) 4602678819172646912)) 1115684864)) ga sl sc fo] H := hP
        have hD : va_D A [tc_X3 a0 (FP.dadd lv (FP.ddiv (FP.dmul (FP.dmul (FP.i2d ga) (FP.dsub p1 lv)) 4602678819172646912) (f_X3_area si))) (FP.fadd si (FP.fdiv (FP.d2f (FP.dmul (FP.dmul (FP.i2d ga) (FP.dsub p1 lv)) 4602678819172646912)) 1115684864)) ga sl sc fo] := hD
        have hP9 := hP.sub (ws' := [tc_X3 a0 (FP.dadd lv (FP.ddiv (FP.dmul (FP.dmul (FP.i2d ga) (FP.dsub p1 lv)) 4602678819172646912) (f_X3_area si))) (FP.fadd si (FP.fdiv (FP.d2f (FP.dmul (FP.dmul (FP.i2d ga) (FP.dsub p1 lv)) 4602678819172646912)) 1115684864)) ga sl sc fo]) [0] rfl
        have hD9 := hD.sub (ws' := [tc_X3 a0 (FP.dadd lv (FP.ddiv (FP.dmul (FP.dmul (FP.i2d ga) (FP.dsub p1 lv)) 4602678819172646912) (f_X3_area si))) (FP.fadd si (FP.fdiv (FP.d2f (FP.dmul (FP.dmul (FP.i2d ga) (FP.dsub p1 lv)) 4602678819172646912)) 1115684864)) ga sl sc fo]) [0] (by decide) rfl
        exact W.vret hx hb hr (fun t ht hW => ⟨⟨(FP.dadd lv (FP.ddiv (FP.dmul (FP.dmul (FP.i2d ga) (FP.dsub p1 lv)) 4602678819172646912) (f_X3_area si)), FP.fadd si (FP.fdiv (FP.d2f (FP.dmul (FP.dmul (FP.i2d ga) (FP.dsub p1 lv)) 4602678819172646912)) 1115684864)), rfl, by unfold f_X3_fill; all_goals (rw [if_neg c_1]); all_goals (rw [if_neg c_2]); all_goals (rw [if_pos c_13]); all_goals rfl, by rw [ht]; exact hP9, hD9⟩, hS.F ht⟩) hS.2.2 dX3_fill_79
      · refine lv_ldcf hx hb hown (hts (.constantFloat RX3 50 (1082130432)) (List.mem_of_getElem? (i := 6) rfl)) dX3_fill_69 ?_
        refine lv_goto (tgt := 76) hx hb dX3_fill_71 (by decide) ?_
        refine va_put (D := G.1) (ci := 3) (v := .float 1082130432) (ty := .float) (C := RX3) (T := TX3) (N := 6) hx hb hts hiX3 tyX3 tyX3_ok nmX3 hown hK hP hD hS 0 rfl rfl 1 (by decide) (hts (.fieldLink RX3 13 "TideMill$Pond" "silt" "F") (List.mem_of_getElem? (i := 4) rfl)) (fun _ h9 => h9) rfl (by decide +kernel) rfl rfl (Nat.le_of_ble_eq_true rfl) dX3_fill_76 (fun H locs hP hD hS => ?_)
        have hP : va_P G.1 vwCl [tc_X3 a0 (FP.dadd lv (FP.ddiv (FP.dmul (FP.dmul (FP.i2d ga) (FP.dsub p1 lv)) 4602678819172646912) (f_X3_area si))) 1082130432 ga sl sc fo] H := hP
        have hD : va_D A [tc_X3 a0 (FP.dadd lv (FP.ddiv (FP.dmul (FP.dmul (FP.i2d ga) (FP.dsub p1 lv)) 4602678819172646912) (f_X3_area si))) 1082130432 ga sl sc fo] := hD
        have hP9 := hP.sub (ws' := [tc_X3 a0 (FP.dadd lv (FP.ddiv (FP.dmul (FP.dmul (FP.i2d ga) (FP.dsub p1 lv)) 4602678819172646912) (f_X3_area si))) 1082130432 ga sl sc fo]) [0] rfl
        have hD9 := hD.sub (ws' := [tc_X3 a0 (FP.dadd lv (FP.ddiv (FP.dmul (FP.dmul (FP.i2d ga) (FP.dsub p1 lv)) 4602678819172646912) (f_X3_area si))) 1082130432 ga sl sc fo]) [0] (by decide) rfl
        exact W.vret hx hb hr (fun t ht hW => ⟨⟨(FP.dadd lv (FP.ddiv (FP.dmul (FP.dmul (FP.i2d ga) (FP.dsub p1 lv)) 4602678819172646912) (f_X3_area si)), 1082130432), rfl, by unfold f_X3_fill; all_goals (rw [if_neg c_1]); all_goals (rw [if_neg c_2]); all_goals (rw [if_neg c_13]); all_goals rfl, by rw [ht]; exact hP9, hD9⟩, hS.F ht⟩) hS.2.2 dX3_fill_79
set_option maxHeartbeats 4000000 in
set_option maxRecDepth 100000 in
theorem c_X3_turnWheel (l : Launch) (G : tm_G) (a0 : Nat) (sz : Nat) (lv : UInt64) (si : UInt32) (ga : Int32) (sl : Int32) (sc : Int32) (fo : UInt64) (p1 : UInt64) (hn : n_X3_turnWheel lv si sl p1) : Met l yX3_turnWheel wsX3_turnWheel ({ frames := 1, cells := 0, slots := 0, locals := 20 }) (va_Pc [.ref a0, .double p1] (tm_B G [tc_X3 a0 lv si ga sl sc fo] sz)) (va_Qv (fun (u : UInt64 × UInt64) => u = f_X3_turnWheel lv si sl p1) (fun (u : UInt64 × UInt64) (t : State) => va_P G.1 vwCl [tc_X3 a0 u.1 si ga sl sc u.2] t.heap ∧ va_D (va_A [tc_X3 a0 lv si ga sl sc fo] sz) [tc_X3 a0 u.1 si ga sl sc u.2]) (va_A [tc_X3 a0 lv si ga sl sc fo] sz)) 0 0 (va_A [tc_X3 a0 lv si ga sl sc fo] sz) := by
  refine Met.ofW (cc := cX3_turnWheel) (maxL := 7) (ret := none) (by decide) rfl ?_
  intro p e s m args below meth c s₁ B hml hv
  obtain ⟨rfl, hsz, hP, hK, hD0, hN, hV⟩ := hv
  have hx := B.exec
  have hb := B.bytes
  have hr := B.returns
  have hts := atoms_spec (ws := wsX3_turnWheel) B.pre
  have hown : s.vm.findClass RX3 = some m.cls := findClass_of_methodNamed B.named
  have hlocks := B.notSynchronized
  subst hsz
  obtain ⟨n_2, n_5, n_6, n_7, n_9, n_10, n_11, n_12, n_15, n_16, n_17, n_19, n_20, n_21⟩ := hn
  have hiX3 : ∀ w ∈ u_ws RX3 TX3 6, w ∈ wsX3_turnWheel := fun _ h => List.mem_cons_of_mem _ (List.mem_append_right _ h)
  have hD := hD0.self (sz := s.heap.size)
  generalize hAe : va_A [tc_X3 a0 lv si ga sl sc fo] s.heap.size = A at hD hV ⊢
  have hA : ∀ q : Nat, s.heap.size ≤ q → A q := fun q h => by rw [← hAe]; exact Or.inr h
  have hS : va_S A s.heap s.heap [] := va_S.rf
  have hl := lv_entry ([.ref a0, .double p1]) (n := 7) (Nat.le_of_ble_eq_true rfl)
  rw [lg_entry_eq]
  generalize (lg_sl ([.ref a0, .double p1]) ++ List.replicate (7 - (lg_sl ([.ref a0, .double p1])).length) Slot.unset).toArray = ls at hl ⊢
  have hl : lv_has ls 7 [(0, .ref a0), (1, .double p1)] := hl
  refine lv_aload_n hx hb dX3_turnWheel_0 rfl (lv_at hl 0 rfl) ?_
  refine va_get (D := G.1) (ci := 3) (v := .double lv) (C := RX3) (T := TX3) (N := 6) hx hb hts hiX3 hown hK hP 0 rfl rfl 0 (by decide) (hts (.fieldLink RX3 7 "TideMill$Pond" "level" "D") (List.mem_of_getElem? (i := 1) rfl)) (fun _ h9 => h9) rfl dX3_turnWheel_1 ?_
  refine lv_dload_n hx hb dX3_turnWheel_4 rfl (lv_at hl 1 rfl) ?_
  refine lv_ldc2d hx hb hown (hts (.constantDouble RX3 51 (13826050856027422720)) (List.mem_of_getElem? (i := 2) rfl)) dX3_turnWheel_5 ?_
  refine lv_dcmp hx hb dX3_turnWheel_8 ?_
  refine lv_if_le (tgt := 16) hx hb dX3_turnWheel_9 (by decide) (fun c_1 => ?_) (fun c_1 => ?_)
  · refine lv_ldc2d hx hb hown (hts (.constantDouble RX3 51 (13826050856027422720)) (List.mem_of_getElem? (i := 2) rfl)) dX3_turnWheel_16 ?_
    refine lv_dsub hx hb dX3_turnWheel_19 (n_2 c_1) ?_
    refine lv_dstore_n (lv' := [(3, .double (FP.dsub lv 13826050856027422720)), (0, .ref a0), (1, .double p1)]) hx hb dX3_turnWheel_20 rfl hl (by decide) rfl (fun ls hl => ?_)
    refine lv_aload_n hx hb dX3_turnWheel_21 rfl (lv_at hl 1 rfl) ?_
    refine lv_dconst0 hx hb dX3_turnWheel_22 ?_
    refine va_put (D := G.1) (ci := 3) (v := .double FP.dconst0) (ty := .double) (C := RX3) (T := TX3) (N := 6) hx hb hts hiX3 tyX3 tyX3_ok nmX3 hown hK hP hD hS 0 rfl rfl 5 (by decide) (hts (.fieldLink RX3 28 "TideMill$Pond" "force" "D") (List.mem_of_getElem? (i := 3) rfl)) (fun _ h9 => h9) rfl (by decide +kernel) rfl rfl (Nat.le_of_ble_eq_true rfl) dX3_turnWheel_23 (fun H locs hP hD hS => ?_)
    have hP : va_P G.1 vwCl [tc_X3 a0 lv si ga sl sc FP.dconst0] H := hP
    have hD : va_D A [tc_X3 a0 lv si ga sl sc FP.dconst0] := hD
    refine lv_aload_n hx hb dX3_turnWheel_26 rfl (lv_at hl 1 rfl) ?_
    refine va_get (D := G.1) (ci := 3) (v := .int sl) (C := RX3) (T := TX3) (N := 6) hx hb hts hiX3 hown hK hP 0 rfl rfl 3 (by decide) (hts (.fieldLink RX3 21 "TideMill$Pond" "sluice" "I") (List.mem_of_getElem? (i := 4) rfl)) (fun _ h9 => h9) rfl dX3_turnWheel_27 ?_
    refine lv_if_le (tgt := 78) hx hb dX3_turnWheel_30 (by decide) (fun c_3 => ?_) (fun c_3 => ?_)
    · have hP9 := hP.sub (ws' := [tc_X3 a0 lv si ga sl sc FP.dconst0]) [0] rfl
      have hD9 := hD.sub (ws' := [tc_X3 a0 lv si ga sl sc FP.dconst0]) [0] (by decide) rfl
      exact W.vret hx hb hr (fun t ht hW => ⟨⟨(lv, FP.dconst0), rfl, by unfold f_X3_turnWheel; all_goals (rw [if_pos c_1]); all_goals (rw [if_pos c_3]); all_goals rfl, by rw [ht]; exact hP9, hD9⟩, hS.F ht⟩) hS.2.2 dX3_turnWheel_78
    · refine lv_dload_n hx hb dX3_turnWheel_33 rfl (lv_at hl 0 rfl) ?_
      refine lv_ldc2d hx hb hown (hts (.constantDouble RX3 43 (4602678819172646912)) (List.mem_of_getElem? (i := 5) rfl)) dX3_turnWheel_34 ?_
      refine lv_dcmp hx hb dX3_turnWheel_37 ?_
      refine lv_if_lt (tgt := 78) hx hb dX3_turnWheel_38 (by decide) (fun c_4 => ?_) (fun c_4 => ?_)
      · have hP9 := hP.sub (ws' := [tc_X3 a0 lv si ga sl sc FP.dconst0]) [0] rfl
        have hD9 := hD.sub (ws' := [tc_X3 a0 lv si ga sl sc FP.dconst0]) [0] (by decide) rfl
        exact W.vret hx hb hr (fun t ht hW => ⟨⟨(lv, FP.dconst0), rfl, by unfold f_X3_turnWheel; all_goals (rw [if_pos c_1]); all_goals (rw [if_neg c_3]); all_goals (rw [if_pos c_4]); all_goals rfl, by rw [ht]; exact hP9, hD9⟩, hS.F ht⟩) hS.2.2 dX3_turnWheel_78
      · refine lv_aload_n hx hb dX3_turnWheel_41 rfl (lv_at hl 1 rfl) ?_
        refine va_get (D := G.1) (ci := 3) (v := .int sl) (C := RX3) (T := TX3) (N := 6) hx hb hts hiX3 hown hK hP 0 rfl rfl 3 (by decide) (hts (.fieldLink RX3 21 "TideMill$Pond" "sluice" "I") (List.mem_of_getElem? (i := 4) rfl)) (fun _ h9 => h9) rfl dX3_turnWheel_42 ?_
        refine lv_i2d hx hb dX3_turnWheel_45 ?_
        refine lv_dload_n hx hb dX3_turnWheel_46 rfl (lv_at hl 0 rfl) ?_
        refine lv_dmul hx hb dX3_turnWheel_47 (n_5 c_1 c_3 c_4) ?_
        refine lv_ldc2d hx hb hown (hts (.constantDouble RX3 53 (4598175219545276416)) (List.mem_of_getElem? (i := 6) rfl)) dX3_turnWheel_48 ?_
        refine lv_dmul hx hb dX3_turnWheel_51 (n_6 c_1 c_3 c_4) ?_
        refine lv_dstore (lv' := [(5, .double (FP.dmul (FP.dmul (FP.i2d sl) (FP.dsub lv 13826050856027422720)) 4598175219545276416)), (3, .double (FP.dsub lv 13826050856027422720)), (0, .ref a0), (1, .double p1)]) hx hb dX3_turnWheel_52 hl (by decide) rfl (fun ls hl => ?_)
        refine lv_aload_n hx hb dX3_turnWheel_54 rfl (lv_at hl 2 rfl) ?_
        refine lv_dup hx hb dX3_turnWheel_55 rfl ?_
        refine va_get (D := G.1) (ci := 3) (v := .double lv) (C := RX3) (T := TX3) (N := 6) hx hb hts hiX3 hown hK hP 0 rfl rfl 0 (by decide) (hts (.fieldLink RX3 7 "TideMill$Pond" "level" "D") (List.mem_of_getElem? (i := 1) rfl)) (fun _ h9 => h9) rfl dX3_turnWheel_56 ?_
        refine lv_dload hx hb dX3_turnWheel_59 (lv_at hl 0 rfl) ?_
        refine lv_aload_n hx hb dX3_turnWheel_61 rfl (lv_at hl 2 rfl) ?_
        have hPc := hP.sub (ws' := [tc_X3 a0 lv si ga sl sc FP.dconst0]) [0] rfl
        have hDc := hD.sub (ws' := [tc_X3 a0 lv si ga sl sc FP.dconst0]) [0] (by decide) rfl
        have hFc := va_free (wc := [tc_X3 a0 lv si ga sl sc FP.dconst0]) hD hS hA [0] rfl
        refine va_calld (va_runV (As := []) (rest := [.double (FP.dmul (FP.dmul (FP.i2d sl) (FP.dsub lv 13826050856027422720)) 4598175219545276416), .double lv, .ref a0]) ⟨hx, hb, hml, hown, hts⟩ (c_X3_area l G a0 H.size lv si ga sl sc FP.dconst0 (n_7 c_1 c_3 c_4)) (cwV 0 hts gX3_turnWheel_X3_area rfl rfl rfl (by decide +kernel) ⟨(Nat.le_of_ble_eq_true rfl), (Nat.le_of_ble_eq_true rfl)⟩) (tm_preV hK hN hV hS hPc hDc hFc (va_recv hK hPc (ci := 3) (q0 := 0) rfl rfl)) rfl rfl hl.1 rfl (lv_room (Nat.le_of_ble_eq_true rfl)) dX3_turnWheel_62 ⟨(Nat.le_of_ble_eq_true rfl), (Nat.le_of_ble_eq_true rfl)⟩) hS (fun q _ h => hFc q h) hFc (fun r_8 u t H locs ht hvm hw_8 hB hz1 hk1 hS => ?_)
        obtain ⟨hP1, hD1⟩ := hB
        rw [ht] at hP1
        try dsimp only at hw_8
        obtain ⟨hP, hD⟩ := va_join (wr := []) (w1 := [tc_X3 a0 lv si ga sl sc FP.dconst0]) hP hD [0] [] rfl rfl (by decide) (by decide) hk1 hFc hP1 hD1
        have hP : va_P G.1 vwCl [tc_X3 a0 lv si ga sl sc FP.dconst0] H := hP
        have hD : va_D A [tc_X3 a0 lv si ga sl sc FP.dconst0] := hD
        subst hw_8
        refine lv_ddiv hx hb dX3_turnWheel_65 (n_9 c_1 c_3 c_4) ?_
        refine lv_dsub hx hb dX3_turnWheel_66 (n_10 c_1 c_3 c_4) ?_
        refine va_put (D := G.1) (ci := 3) (v := .double (FP.dsub lv (FP.ddiv (FP.dmul (FP.dmul (FP.i2d sl) (FP.dsub lv 13826050856027422720)) 4598175219545276416) (f_X3_area si)))) (ty := .double) (C := RX3) (T := TX3) (N := 6) hx hb hts hiX3 tyX3 tyX3_ok nmX3 hown hK hP hD hS 0 rfl rfl 0 (by decide) (hts (.fieldLink RX3 7 "TideMill$Pond" "level" "D") (List.mem_of_getElem? (i := 1) rfl)) (fun _ h9 => h9) rfl (by decide +kernel) rfl rfl (Nat.le_of_ble_eq_true rfl) dX3_turnWheel_67 (fun H locs hP hD hS => ?_)
        have hP : va_P G.1 vwCl [tc_X3 a0 (FP.dsub lv (FP.ddiv (FP.dmul (FP.dmul (FP.i2d sl) (FP.dsub lv 13826050856027422720)) 4598175219545276416) (f_X3_area si))) si ga sl sc FP.dconst0] H := hP
        have hD : va_D A [tc_X3 a0 (FP.dsub lv (FP.ddiv (FP.dmul (FP.dmul (FP.i2d sl) (FP.dsub lv 13826050856027422720)) 4598175219545276416) (f_X3_area si))) si ga sl sc FP.dconst0] := hD
        refine lv_aload_n hx hb dX3_turnWheel_70 rfl (lv_at hl 2 rfl) ?_
        refine lv_dload hx hb dX3_turnWheel_71 (lv_at hl 0 rfl) ?_
        refine lv_dload_n hx hb dX3_turnWheel_73 rfl (lv_at hl 1 rfl) ?_
        refine lv_dmul hx hb dX3_turnWheel_74 (n_11 c_1 c_3 c_4) ?_
        refine va_put (D := G.1) (ci := 3) (v := .double (FP.dmul (FP.dmul (FP.dmul (FP.i2d sl) (FP.dsub lv 13826050856027422720)) 4598175219545276416) (FP.dsub lv 13826050856027422720))) (ty := .double) (C := RX3) (T := TX3) (N := 6) hx hb hts hiX3 tyX3 tyX3_ok nmX3 hown hK hP hD hS 0 rfl rfl 5 (by decide) (hts (.fieldLink RX3 28 "TideMill$Pond" "force" "D") (List.mem_of_getElem? (i := 3) rfl)) (fun _ h9 => h9) rfl (by decide +kernel) rfl rfl (Nat.le_of_ble_eq_true rfl) dX3_turnWheel_75 (fun H locs hP hD hS => ?_)
        have hP : va_P G.1 vwCl [tc_X3 a0 (FP.dsub lv (FP.ddiv (FP.dmul (FP.dmul (FP.i2d sl) (FP.dsub lv 13826050856027422720)) 4598175219545276416) (f_X3_area si))) si ga sl sc (FP.dmul (FP.dmul (FP.dmul (FP.i2d sl) (FP.dsub lv 13826050856027422720)) 4598175219545276416) (FP.dsub lv 13826050856027422720))] H := hP
        have hD : va_D A [tc_X3 a0 (FP.dsub lv (FP.ddiv (FP.dmul (FP.dmul (FP.i2d sl) (FP.dsub lv 13826050856027422720)) 4598175219545276416) (f_X3_area si))) si ga sl sc (FP.dmul (FP.dmul (FP.dmul (FP.i2d sl) (FP.dsub lv 13826050856027422720)) 4598175219545276416) (FP.dsub lv 13826050856027422720))] := hD
        have hP9 := hP.sub (ws' := [tc_X3 a0 (FP.dsub lv (FP.ddiv (FP.dmul (FP.dmul (FP.i2d sl) (FP.dsub lv 13826050856027422720)) 4598175219545276416) (f_X3_area si))) si ga sl sc (FP.dmul (FP.dmul (FP.dmul (FP.i2d sl) (FP.dsub lv 13826050856027422720)) 4598175219545276416) (FP.dsub lv 13826050856027422720))]) [0] rfl
        have hD9 := hD.sub (ws' := [tc_X3 a0 (FP.dsub lv (FP.ddiv (FP.dmul (FP.dmul (FP.i2d sl) (FP.dsub lv 13826050856027422720)) 4598175219545276416) (f_X3_area si))) si ga sl sc (FP.dmul (FP.dmul (FP.dmul (FP.i2d sl) (FP.dsub lv 13826050856027422720)) 4598175219545276416) (FP.dsub lv 13826050856027422720))]) [0] (by decide) rfl
        exact W.vret hx hb hr (fun t ht hW => ⟨⟨(FP.dsub lv (FP.ddiv (FP.dmul (FP.dmul (FP.i2d sl) (FP.dsub lv 13826050856027422720)) 4598175219545276416) (f_X3_area si)), FP.dmul (FP.dmul (FP.dmul (FP.i2d sl) (FP.dsub lv 13826050856027422720)) 4598175219545276416) (FP.dsub lv 13826050856027422720)), rfl, by unfold f_X3_turnWheel; all_goals (rw [if_pos c_1]); all_goals (rw [if_neg c_3]); all_goals (rw [if_neg c_4]); all_goals rfl, by rw [ht]; exact hP9, hD9⟩, hS.F ht⟩) hS.2.2 dX3_turnWheel_78
  · refine lv_dload_n hx hb dX3_turnWheel_12 rfl (lv_at hl 1 rfl) ?_
    refine lv_goto (tgt := 19) hx hb dX3_turnWheel_13 (by decide) ?_
    refine lv_dsub hx hb dX3_turnWheel_19 (n_12 c_1) ?_
    refine lv_dstore_n (lv' := [(3, .double (FP.dsub lv p1)), (0, .ref a0), (1, .double p1)]) hx hb dX3_turnWheel_20 rfl hl (by decide) rfl (fun ls hl => ?_)
    refine lv_aload_n hx hb dX3_turnWheel_21 rfl (lv_at hl 1 rfl) ?_
    refine lv_dconst0 hx hb dX3_turnWheel_22 ?_
    refine va_put (D := G.1) (ci := 3) (v := .double FP.dconst0) (ty := .double) (C := RX3) (T := TX3) (N := 6) hx hb hts hiX3 tyX3 tyX3_ok nmX3 hown hK hP hD hS 0 rfl rfl 5 (by decide) (hts (.fieldLink RX3 28 "TideMill$Pond" "force" "D") (List.mem_of_getElem? (i := 3) rfl)) (fun _ h9 => h9) rfl (by decide +kernel) rfl rfl (Nat.le_of_ble_eq_true rfl) dX3_turnWheel_23 (fun H locs hP hD hS => ?_)
    have hP : va_P G.1 vwCl [tc_X3 a0 lv si ga sl sc FP.dconst0] H := hP
    have hD : va_D A [tc_X3 a0 lv si ga sl sc FP.dconst0] := hD
    refine lv_aload_n hx hb dX3_turnWheel_26 rfl (lv_at hl 1 rfl) ?_
    refine va_get (D := G.1) (ci := 3) (v := .int sl) (C := RX3) (T := TX3) (N := 6) hx hb hts hiX3 hown hK hP 0 rfl rfl 3 (by decide) (hts (.fieldLink RX3 21 "TideMill$Pond" "sluice" "I") (List.mem_of_getElem? (i := 4) rfl)) (fun _ h9 => h9) rfl dX3_turnWheel_27 ?_
    refine lv_if_le (tgt := 78) hx hb dX3_turnWheel_30 (by decide) (fun c_13 => ?_) (fun c_13 => ?_)
    · have hP9 := hP.sub (ws' := [tc_X3 a0 lv si ga sl sc FP.dconst0]) [0] rfl
      have hD9 := hD.sub (ws' := [tc_X3 a0 lv si ga sl sc FP.dconst0]) [0] (by decide) rfl
      exact W.vret hx hb hr (fun t ht hW => ⟨⟨(lv, FP.dconst0), rfl, by unfold f_X3_turnWheel; all_goals (rw [if_neg c_1]); all_goals (rw [if_pos c_13]); all_goals rfl, by rw [ht]; exact hP9, hD9⟩, hS.F ht⟩) hS.2.2 dX3_turnWheel_78
    · refine lv_dload_n hx hb dX3_turnWheel_33 rfl (lv_at hl 0 rfl) ?_
      refine lv_ldc2d hx hb hown (hts (.constantDouble RX3 43 (4602678819172646912)) (List.mem_of_getElem? (i := 5) rfl)) dX3_turnWheel_34 ?_
      refine lv_dcmp hx hb dX3_turnWheel_37 ?_
      refine lv_if_lt (tgt := 78) hx hb dX3_turnWheel_38 (by decide) (fun c_14 => ?_) (fun c_14 => ?_)
      · have hP9 := hP.sub (ws' := [tc_X3 a0 lv si ga sl sc FP.dconst0]) [0] rfl
        have hD9 := hD.sub (ws' := [tc_X3 a0 lv si ga sl sc FP.dconst0]) [0] (by decide) rfl
        exact W.vret hx hb hr (fun t ht hW => ⟨⟨(lv, FP.dconst0), rfl, by unfold f_X3_turnWheel; all_goals (rw [if_neg c_1]); all_goals (rw [if_neg c_13]); all_goals (rw [if_pos c_14]); all_goals rfl, by rw [ht]; exact hP9, hD9⟩, hS.F ht⟩) hS.2.2 dX3_turnWheel_78
      · refine lv_aload_n hx hb dX3_turnWheel_41 rfl (lv_at hl 1 rfl) ?_
        refine va_get (D := G.1) (ci := 3) (v := .int sl) (C := RX3) (T := TX3) (N := 6) hx hb hts hiX3 hown hK hP 0 rfl rfl 3 (by decide) (hts (.fieldLink RX3 21 "TideMill$Pond" "sluice" "I") (List.mem_of_getElem? (i := 4) rfl)) (fun _ h9 => h9) rfl dX3_turnWheel_42 ?_
        refine lv_i2d hx hb dX3_turnWheel_45 ?_
        refine lv_dload_n hx hb dX3_turnWheel_46 rfl (lv_at hl 0 rfl) ?_
        refine lv_dmul hx hb dX3_turnWheel_47 (n_15 c_1 c_13 c_14) ?_
        refine lv_ldc2d hx hb hown (hts (.constantDouble RX3 53 (4598175219545276416)) (List.mem_of_getElem? (i := 6) rfl)) dX3_turnWheel_48 ?_
        refine lv_dmul hx hb dX3_turnWheel_51 (n_16 c_1 c_13 c_14) ?_
        refine lv_dstore (lv' := [(5, .double (FP.dmul (FP.dmul (FP.i2d sl) (FP.dsub lv p1)) 4598175219545276416)), (3, .double (FP.dsub lv p1)), (0, .ref a0), (1, .double p1)]) hx hb dX3_turnWheel_52 hl (by decide) rfl (fun ls hl => ?_)
        refine lv_aload_n hx hb dX3_turnWheel_54 rfl (lv_at hl 2 rfl) ?_
        refine lv_dup hx hb dX3_turnWheel_55 rfl ?_
        refine va_get (D := G.1) (ci := 3) (v := .double lv) (C := RX3) (T := TX3) (N := 6) hx hb hts hiX3 hown hK hP 0 rfl rfl 0 (by decide) (hts (.fieldLink RX3 7 "TideMill$Pond" "level" "D") (List.mem_of_getElem? (i := 1) rfl)) (fun _ h9 => h9) rfl dX3_turnWheel_56 ?_
        refine lv_dload hx hb dX3_turnWheel_59 (lv_at hl 0 rfl) ?_
        refine lv_aload_n hx hb dX3_turnWheel_61 rfl (lv_at hl 2 rfl) ?_
        have hPc := hP.sub (ws' := [tc_X3 a0 lv si ga sl sc FP.dconst0]) [0] rfl
        have hDc := hD.sub (ws' := [tc_X3 a0 lv si ga sl sc FP.dconst0]) [0] (by decide) rfl
        have hFc := va_free (wc := [tc_X3 a0 lv si ga sl sc FP.dconst0]) hD hS hA [0] rfl
        refine va_calld (va_runV (As := []) (rest := [.double (FP.dmul (FP.dmul (FP.i2d sl) (FP.dsub lv p1)) 4598175219545276416), .double lv, .ref a0]) ⟨hx, hb, hml, hown, hts⟩ (c_X3_area l G a0 H.size lv si ga sl sc FP.dconst0 (n_17 c_1 c_13 c_14)) (cwV 0 hts gX3_turnWheel_X3_area rfl rfl rfl (by decide +kernel) ⟨(Nat.le_of_ble_eq_true rfl), (Nat.le_of_ble_eq_true rfl)⟩) (tm_preV hK hN hV hS hPc hDc hFc (va_recv hK hPc (ci := 3) (q0 := 0) rfl rfl)) rfl rfl hl.1 rfl (lv_room (Nat.le_of_ble_eq_true rfl)) dX3_turnWheel_62 ⟨(Nat.le_of_ble_eq_true rfl), (Nat.le_of_ble_eq_true rfl)⟩) hS (fun q _ h => hFc q h) hFc (fun r_18 u t H locs ht hvm hw_18 hB hz1 hk1 hS => ?_)
        obtain ⟨hP1, hD1⟩ := hB
        rw [ht] at hP1
        try dsimp only at hw_18
        obtain ⟨hP, hD⟩ := va_join (wr := []) (w1 := [tc_X3 a0 lv si ga sl sc FP.dconst0]) hP hD [0] [] rfl rfl (by decide) (by decide) hk1 hFc hP1 hD1
        have hP : va_P G.1 vwCl [tc_X3 a0 lv si ga sl sc FP.dconst0] H := hP
        have hD : va_D A [tc_X3 a0 lv si ga sl sc FP.dconst0] := hD
        subst hw_18
        refine lv_ddiv hx hb dX3_turnWheel_65 (n_19 c_1 c_13 c_14) ?_
        refine lv_dsub hx hb dX3_turnWheel_66 (n_20 c_1 c_13 c_14) ?_
        refine va_put (D := G.1) (ci := 3) (v := .double (FP.dsub lv (FP.ddiv (FP.dmul (FP.dmul (FP.i2d sl) (FP.dsub lv p1)) 4598175219545276416) (f_X3_area si)))) (ty := .double) (C := RX3) (T := TX3) (N := 6) hx hb hts hiX3 tyX3 tyX3_ok nmX3 hown hK hP hD hS 0 rfl rfl 0 (by decide) (hts (.fieldLink RX3 7 "TideMill$Pond" "level" "D") (List.mem_of_getElem? (i := 1) rfl)) (fun _ h9 => h9) rfl (by decide +kernel) rfl rfl (Nat.le_of_ble_eq_true rfl) dX3_turnWheel_67 (fun H locs hP hD hS => ?_)
        have hP : va_P G.1 vwCl [tc_X3 a0 (FP.dsub lv (FP.ddiv (FP.dmul (FP.dmul (FP.i2d sl) (FP.dsub lv p1)) 4598175219545276416) (f_X3_area si))) si ga sl sc FP.dconst0] H := hP
        have hD : va_D A [tc_X3 a0 (FP.dsub lv (FP.ddiv (FP.dmul (FP.dmul (FP.i2d sl) (FP.dsub lv p1)) 4598175219545276416) (f_X3_area si))) si ga sl sc FP.dconst0] := hD
        refine lv_aload_n hx hb dX3_turnWheel_70 rfl (lv_at hl 2 rfl) ?_
        refine lv_dload hx hb dX3_turnWheel_71 (lv_at hl 0 rfl) ?_
        refine lv_dload_n hx hb dX3_turnWheel_73 rfl (lv_at hl 1 rfl) ?_
        refine lv_dmul hx hb dX3_turnWheel_74 (n_21 c_1 c_13 c_14) ?_
        refine va_put (D := G.1) (ci := 3) (v := .double (FP.dmul (FP.dmul (FP.dmul (FP.i2d sl) (FP.dsub lv p1)) 4598175219545276416) (FP.dsub lv p1))) (ty := .double) (C := RX3) (T := TX3) (N := 6) hx hb hts hiX3 tyX3 tyX3_ok nmX3 hown hK hP hD hS 0 rfl rfl 5 (by decide) (hts (.fieldLink RX3 28 "TideMill$Pond" "force" "D") (List.mem_of_getElem? (i := 3) rfl)) (fun _ h9 => h9) rfl (by decide +kernel) rfl rfl (Nat.le_of_ble_eq_true rfl) dX3_turnWheel_75 (fun H locs hP hD hS => ?_)
        have hP : va_P G.1 vwCl [tc_X3 a0 (FP.dsub lv (FP.ddiv (FP.dmul (FP.dmul (FP.i2d sl) (FP.dsub lv p1)) 4598175219545276416) (f_X3_area si))) si ga sl sc (FP.dmul (FP.dmul (FP.dmul (FP.i2d sl) (FP.dsub lv p1)) 4598175219545276416) (FP.dsub lv p1))] H := hP
        have hD : va_D A [tc_X3 a0 (FP.dsub lv (FP.ddiv (FP.dmul (FP.dmul (FP.i2d sl) (FP.dsub lv p1)) 4598175219545276416) (f_X3_area si))) si ga sl sc (FP.dmul (FP.dmul (FP.dmul (FP.i2d sl) (FP.dsub lv p1)) 4598175219545276416) (FP.dsub lv p1))] := hD
        have hP9 := hP.sub (ws' := [tc_X3 a0 (FP.dsub lv (FP.ddiv (FP.dmul (FP.dmul (FP.i2d sl) (FP.dsub lv p1)) 4598175219545276416) (f_X3_area si))) si ga sl sc (FP.dmul (FP.dmul (FP.dmul (FP.i2d sl) (FP.dsub lv p1)) 4598175219545276416) (FP.dsub lv p1))]) [0] rfl
        have hD9 := hD.sub (ws' := [tc_X3 a0 (FP.dsub lv (FP.ddiv (FP.dmul (FP.dmul (FP.i2d sl) (FP.dsub lv p1)) 4598175219545276416) (f_X3_area si))) si ga sl sc (FP.dmul (FP.dmul (FP.dmul (FP.i2d sl) (FP.dsub lv p1)) 4598175219545276416) (FP.dsub lv p1))]) [0] (by decide) rfl
        exact W.vret hx hb hr (fun t ht hW => ⟨⟨(FP.dsub lv (FP.ddiv (FP.dmul (FP.dmul (FP.i2d sl) (FP.dsub lv p1)) 4598175219545276416) (f_X3_area si)), FP.dmul (FP.dmul (FP.dmul (FP.i2d sl) (FP.dsub lv p1)) 4598175219545276416) (FP.dsub lv p1)), rfl, by unfold f_X3_turnWheel; all_goals (rw [if_neg c_1]); all_goals (rw [if_neg c_13]); all_goals (rw [if_neg c_14]); all_goals rfl, by rw [ht]; exact hP9, hD9⟩, hS.F ht⟩) hS.2.2 dX3_turnWheel_78
set_option maxHeartbeats 4000000 in
set_option maxRecDepth 100000 in
theorem c_X3_scourOut (l : Launch) (G : tm_G) (a0 : Nat) (sz : Nat) (lv : UInt64) (si : UInt32) (ga : Int32) (sl : Int32) (sc : Int32) (fo : UInt64) (p1 : UInt64) (hn : n_X3_scourOut lv si sc p1) : Met l yX3_scourOut wsX3_scourOut ({ frames := 0, cells := 0, slots := 0, locals := 0 }) (va_Pc [.ref a0, .double p1] (tm_B G [tc_X3 a0 lv si ga sl sc fo] sz)) (va_Qv (fun (u : UInt64 × UInt32) => u = f_X3_scourOut lv si sc p1) (fun (u : UInt64 × UInt32) (t : State) => va_P G.1 vwCl [tc_X3 a0 u.1 u.2 ga sl sc fo] t.heap ∧ va_D (va_A [tc_X3 a0 lv si ga sl sc fo] sz) [tc_X3 a0 u.1 u.2 ga sl sc fo]) (va_A [tc_X3 a0 lv si ga sl sc fo] sz)) 0 0 (va_A [tc_X3 a0 lv si ga sl sc fo] sz) := by
  refine Met.ofW (cc := cX3_scourOut) (maxL := 4) (ret := none) (by decide) rfl ?_
  intro p e s m args below meth c s₁ B hml hv
  obtain ⟨rfl, hsz, hP, hK, hD0, hN, hV⟩ := hv
  have hx := B.exec
  have hb := B.bytes
  have hr := B.returns
  have hts := atoms_spec (ws := wsX3_scourOut) B.pre
  have hown : s.vm.findClass RX3 = some m.cls := findClass_of_methodNamed B.named
  have hlocks := B.notSynchronized
  subst hsz
  obtain ⟨n_2, n_4, n_5⟩ := hn
  have hiX3 : ∀ w ∈ u_ws RX3 TX3 6, w ∈ wsX3_scourOut := fun _ h => List.mem_cons_of_mem _ (List.mem_append_right _ h)
  have hD := hD0.self (sz := s.heap.size)
  generalize hAe : va_A [tc_X3 a0 lv si ga sl sc fo] s.heap.size = A at hD hV ⊢
  have hA : ∀ q : Nat, s.heap.size ≤ q → A q := fun q h => by rw [← hAe]; exact Or.inr h
  have hS : va_S A s.heap s.heap [] := va_S.rf
  have hl := lv_entry ([.ref a0, .double p1]) (n := 4) (Nat.le_of_ble_eq_true rfl)
  rw [lg_entry_eq]
  generalize (lg_sl ([.ref a0, .double p1]) ++ List.replicate (4 - (lg_sl ([.ref a0, .double p1])).length) Slot.unset).toArray = ls at hl ⊢
  have hl : lv_has ls 4 [(0, .ref a0), (1, .double p1)] := hl
  refine lv_aload_n hx hb dX3_scourOut_0 rfl (lv_at hl 0 rfl) ?_
  refine va_get (D := G.1) (ci := 3) (v := .int sc) (C := RX3) (T := TX3) (N := 6) hx hb hts hiX3 hown hK hP 0 rfl rfl 4 (by decide) (hts (.fieldLink RX3 24 "TideMill$Pond" "isScourOpen" "Z") (List.mem_of_getElem? (i := 1) rfl)) (fun _ h9 => h9) rfl dX3_scourOut_1 ?_
  refine lv_if_eq (tgt := 53) hx hb dX3_scourOut_4 (by decide) (fun c_1 => ?_) (fun c_1 => ?_)
  · have hP9 := hP.sub (ws' := [tc_X3 a0 lv si ga sl sc fo]) [0] rfl
    have hD9 := hD.sub (ws' := [tc_X3 a0 lv si ga sl sc fo]) [0] (by decide) rfl
    exact W.vret hx hb hr (fun t ht hW => ⟨⟨(lv, si), rfl, by unfold f_X3_scourOut; all_goals (rw [if_pos c_1]); all_goals rfl, by rw [ht]; exact hP9, hD9⟩, hS.F ht⟩) hS.2.2 dX3_scourOut_53
  · refine lv_aload_n hx hb dX3_scourOut_7 rfl (lv_at hl 0 rfl) ?_
    refine va_get (D := G.1) (ci := 3) (v := .double lv) (C := RX3) (T := TX3) (N := 6) hx hb hts hiX3 hown hK hP 0 rfl rfl 0 (by decide) (hts (.fieldLink RX3 7 "TideMill$Pond" "level" "D") (List.mem_of_getElem? (i := 2) rfl)) (fun _ h9 => h9) rfl dX3_scourOut_8 ?_
    refine lv_dload_n hx hb dX3_scourOut_11 rfl (lv_at hl 1 rfl) ?_
    refine lv_dsub hx hb dX3_scourOut_12 (n_2 c_1) ?_
    refine lv_dconst1 hx hb dX3_scourOut_13 ?_
    refine lv_dcmp hx hb dX3_scourOut_14 ?_
    refine lv_if_lt (tgt := 53) hx hb dX3_scourOut_15 (by decide) (fun c_3 => ?_) (fun c_3 => ?_)
    · have hP9 := hP.sub (ws' := [tc_X3 a0 lv si ga sl sc fo]) [0] rfl
      have hD9 := hD.sub (ws' := [tc_X3 a0 lv si ga sl sc fo]) [0] (by decide) rfl
      exact W.vret hx hb hr (fun t ht hW => ⟨⟨(lv, si), rfl, by unfold f_X3_scourOut; all_goals (rw [if_neg c_1]); all_goals (rw [if_pos c_3]); all_goals rfl, by rw [ht]; exact hP9, hD9⟩, hS.F ht⟩) hS.2.2 dX3_scourOut_53
    · refine lv_aload_n hx hb dX3_scourOut_18 rfl (lv_at hl 0 rfl) ?_
      refine lv_dup hx hb dX3_scourOut_19 rfl ?_
      refine va_get (D := G.1) (ci := 3) (v := .double lv) (C := RX3) (T := TX3) (N := 6) hx hb hts hiX3 hown hK hP 0 rfl rfl 0 (by decide) (hts (.fieldLink RX3 7 "TideMill$Pond" "level" "D") (List.mem_of_getElem? (i := 2) rfl)) (fun _ h9 => h9) rfl dX3_scourOut_20 ?_
      refine lv_ldc2d hx hb hown (hts (.constantDouble RX3 53 (4598175219545276416)) (List.mem_of_getElem? (i := 3) rfl)) dX3_scourOut_23 ?_
      refine lv_dsub hx hb dX3_scourOut_26 (n_4 c_1 c_3) ?_
      refine va_put (D := G.1) (ci := 3) (v := .double (FP.dsub lv 4598175219545276416)) (ty := .double) (C := RX3) (T := TX3) (N := 6) hx hb hts hiX3 tyX3 tyX3_ok nmX3 hown hK hP hD hS 0 rfl rfl 0 (by decide) (hts (.fieldLink RX3 7 "TideMill$Pond" "level" "D") (List.mem_of_getElem? (i := 2) rfl)) (fun _ h9 => h9) rfl (by decide +kernel) rfl rfl (Nat.le_of_ble_eq_true rfl) dX3_scourOut_27 (fun H locs hP hD hS => ?_)
      have hP : va_P G.1 vwCl [tc_X3 a0 (FP.dsub lv 4598175219545276416) si ga sl sc fo] H := hP
      have hD : va_D A [tc_X3 a0 (FP.dsub lv 4598175219545276416) si ga sl sc fo] := hD
      refine lv_aload_n hx hb dX3_scourOut_30 rfl (lv_at hl 0 rfl) ?_
      refine va_get (D := G.1) (ci := 3) (v := .float si) (C := RX3) (T := TX3) (N := 6) hx hb hts hiX3 hown hK hP 0 rfl rfl 1 (by decide) (hts (.fieldLink RX3 13 "TideMill$Pond" "silt" "F") (List.mem_of_getElem? (i := 4) rfl)) (fun _ h9 => h9) rfl dX3_scourOut_31 ?_
      refine lv_ldcf hx hb hown (hts (.constantFloat RX3 55 (1040187392)) (List.mem_of_getElem? (i := 5) rfl)) dX3_scourOut_34 ?_
      refine lv_fsub hx hb dX3_scourOut_36 (n_5 c_1 c_3) ?_
      refine lv_fstore_n (lv' := [(3, .float (FP.fsub si 1040187392)), (0, .ref a0), (1, .double p1)]) hx hb dX3_scourOut_37 rfl hl (by decide) rfl (fun ls hl => ?_)
      refine lv_aload_n hx hb dX3_scourOut_38 rfl (lv_at hl 1 rfl) ?_
      refine lv_fload_n hx hb dX3_scourOut_39 rfl (lv_at hl 0 rfl) ?_
      refine lv_fconst0 hx hb dX3_scourOut_40 ?_
      refine lv_fcmp hx hb dX3_scourOut_41 ?_
      refine lv_if_ge (tgt := 49) hx hb dX3_scourOut_42 (by decide) (fun c_6 => ?_) (fun c_6 => ?_)
      · refine lv_fload_n hx hb dX3_scourOut_49 rfl (lv_at hl 0 rfl) ?_
        refine va_put (D := G.1) (ci := 3) (v := .float (FP.fsub si 1040187392)) (ty := .float) (C := RX3) (T := TX3) (N := 6) hx hb hts hiX3 tyX3 tyX3_ok nmX3 hown hK hP hD hS 0 rfl rfl 1 (by decide) (hts (.fieldLink RX3 13 "TideMill$Pond" "silt" "F") (List.mem_of_getElem? (i := 4) rfl)) (fun _ h9 => h9) rfl (by decide +kernel) rfl rfl (Nat.le_of_ble_eq_true rfl) dX3_scourOut_50 (fun H locs hP hD hS => ?_)
        have hP : va_P G.1 vwCl [tc_X3 a0 (FP.dsub lv 4598175219545276416) (FP.fsub si 1040187392) ga sl sc fo] H := hP
        have hD : va_D A [tc_X3 a0 (FP.dsub lv 4598175219545276416) (FP.fsub si 1040187392) ga sl sc fo] := hD
        have hP9 := hP.sub (ws' := [tc_X3 a0 (FP.dsub lv 4598175219545276416) (FP.fsub si 1040187392) ga sl sc fo]) [0] rfl
        have hD9 := hD.sub (ws' := [tc_X3 a0 (FP.dsub lv 4598175219545276416) (FP.fsub si 1040187392) ga sl sc fo]) [0] (by decide) rfl
        exact W.vret hx hb hr (fun t ht hW => ⟨⟨(FP.dsub lv 4598175219545276416, FP.fsub si 1040187392), rfl, by unfold f_X3_scourOut; all_goals (rw [if_neg c_1]); all_goals (rw [if_neg c_3]); all_goals (rw [if_pos c_6]); all_goals rfl, by rw [ht]; exact hP9, hD9⟩, hS.F ht⟩) hS.2.2 dX3_scourOut_53
      · refine lv_fconst0 hx hb dX3_scourOut_45 ?_
        refine lv_goto (tgt := 50) hx hb dX3_scourOut_46 (by decide) ?_
        refine va_put (D := G.1) (ci := 3) (v := .float FP.fconst0) (ty := .float) (C := RX3) (T := TX3) (N := 6) hx hb hts hiX3 tyX3 tyX3_ok nmX3 hown hK hP hD hS 0 rfl rfl 1 (by decide) (hts (.fieldLink RX3 13 "TideMill$Pond" "silt" "F") (List.mem_of_getElem? (i := 4) rfl)) (fun _ h9 => h9) rfl (by decide +kernel) rfl rfl (Nat.le_of_ble_eq_true rfl) dX3_scourOut_50 (fun H locs hP hD hS => ?_)
        have hP : va_P G.1 vwCl [tc_X3 a0 (FP.dsub lv 4598175219545276416) FP.fconst0 ga sl sc fo] H := hP
        have hD : va_D A [tc_X3 a0 (FP.dsub lv 4598175219545276416) FP.fconst0 ga sl sc fo] := hD
        have hP9 := hP.sub (ws' := [tc_X3 a0 (FP.dsub lv 4598175219545276416) FP.fconst0 ga sl sc fo]) [0] rfl
        have hD9 := hD.sub (ws' := [tc_X3 a0 (FP.dsub lv 4598175219545276416) FP.fconst0 ga sl sc fo]) [0] (by decide) rfl
        exact W.vret hx hb hr (fun t ht hW => ⟨⟨(FP.dsub lv 4598175219545276416, FP.fconst0), rfl, by unfold f_X3_scourOut; all_goals (rw [if_neg c_1]); all_goals (rw [if_neg c_3]); all_goals (rw [if_neg c_6]); all_goals rfl, by rw [ht]; exact hP9, hD9⟩, hS.F ht⟩) hS.2.2 dX3_scourOut_53
set_option maxHeartbeats 4000000 in
set_option maxRecDepth 100000 in
theorem c_X3_goBy (l : Launch) (G : tm_G) (a0 : Nat) (sz : Nat) (lv : UInt64) (si : UInt32) (ga : Int32) (sl : Int32) (sc : Int32) (fo : UInt64) (p1 : UInt64) (hn : n_X3_goBy lv si ga sl sc p1) : Met l yX3_goBy wsX3_goBy ({ frames := 2, cells := 0, slots := 0, locals := 46 }) (va_Pc [.ref a0, .double p1] (tm_B G [tc_X3 a0 lv si ga sl sc fo] sz)) (va_Qv (fun (u : UInt64 × UInt32 × UInt64) => u = f_X3_goBy lv si ga sl sc p1) (fun (u : UInt64 × UInt32 × UInt64) (t : State) => va_P G.1 vwCl [tc_X3 a0 u.1 u.2.1 ga sl sc u.2.2] t.heap ∧ va_D (va_A [tc_X3 a0 lv si ga sl sc fo] sz) [tc_X3 a0 u.1 u.2.1 ga sl sc u.2.2]) (va_A [tc_X3 a0 lv si ga sl sc fo] sz)) 0 0 (va_A [tc_X3 a0 lv si ga sl sc fo] sz) := by
  refine Met.ofW (cc := cX3_goBy) (maxL := 3) (ret := none) (by decide) rfl ?_
  intro p e s m args below meth c s₁ B hml hv
  obtain ⟨rfl, hsz, hP, hK, hD0, hN, hV⟩ := hv
  have hx := B.exec
  have hb := B.bytes
  have hr := B.returns
  have hts := atoms_spec (ws := wsX3_goBy) B.pre
  have hown : s.vm.findClass RX3 = some m.cls := findClass_of_methodNamed B.named
  have hlocks := B.notSynchronized
  subst hsz
  obtain ⟨n_1, n_5, n_9⟩ := hn
  have hD := hD0.self (sz := s.heap.size)
  generalize hAe : va_A [tc_X3 a0 lv si ga sl sc fo] s.heap.size = A at hD hV ⊢
  have hA : ∀ q : Nat, s.heap.size ≤ q → A q := fun q h => by rw [← hAe]; exact Or.inr h
  have hS : va_S A s.heap s.heap [] := va_S.rf
  have hl := lv_entry ([.ref a0, .double p1]) (n := 3) (Nat.le_of_ble_eq_true rfl)
  rw [lg_entry_eq]
  generalize (lg_sl ([.ref a0, .double p1]) ++ List.replicate (3 - (lg_sl ([.ref a0, .double p1])).length) Slot.unset).toArray = ls at hl ⊢
  have hl : lv_has ls 3 [(0, .ref a0), (1, .double p1)] := hl
  refine lv_aload_n hx hb dX3_goBy_0 rfl (lv_at hl 0 rfl) ?_
  refine lv_dload_n hx hb dX3_goBy_1 rfl (lv_at hl 1 rfl) ?_
  have hPc := hP.sub (ws' := [tc_X3 a0 lv si ga sl sc fo]) [0] rfl
  have hDc := hD.sub (ws' := [tc_X3 a0 lv si ga sl sc fo]) [0] (by decide) rfl
  have hFc := va_free (wc := [tc_X3 a0 lv si ga sl sc fo]) hD hS hA [0] rfl
  refine va_callv (va_runV (As := [.double p1]) (rest := []) ⟨hx, hb, hml, hown, hts⟩ (c_X3_fill l G a0 s.heap.size lv si ga sl sc fo p1 n_1) (cwV 1 hts gX3_goBy_X3_fill rfl rfl rfl (by decide +kernel) ⟨(Nat.le_of_ble_eq_true rfl), (Nat.le_of_ble_eq_true rfl)⟩) (tm_preV hK hN hV hS hPc hDc hFc (va_recv hK hPc (ci := 3) (q0 := 0) rfl rfl)) rfl rfl hl.1 rfl (lv_room (Nat.le_of_ble_eq_true rfl)) dX3_goBy_2 ⟨(Nat.le_of_ble_eq_true rfl), (Nat.le_of_ble_eq_true rfl)⟩) hS (fun q _ h => hFc q h) hFc (fun u t H locs ht hvm hw_2 hB hz1 hk1 hS => ?_)
  obtain ⟨u_3, u_4⟩ := u
  obtain ⟨hP1, hD1⟩ := hB
  rw [ht] at hP1
  try dsimp only at hw_2
  obtain ⟨hP, hD⟩ := va_join (wr := []) (w1 := [tc_X3 a0 u_3 u_4 ga sl sc fo]) hP hD [0] [] rfl rfl (by decide) (by decide) hk1 hFc hP1 hD1
  have hP : va_P G.1 vwCl [tc_X3 a0 u_3 u_4 ga sl sc fo] H := hP
  have hD : va_D A [tc_X3 a0 u_3 u_4 ga sl sc fo] := hD
  refine lv_aload_n hx hb dX3_goBy_5 rfl (lv_at hl 0 rfl) ?_
  refine lv_dload_n hx hb dX3_goBy_6 rfl (lv_at hl 1 rfl) ?_
  have hPc := hP.sub (ws' := [tc_X3 a0 u_3 u_4 ga sl sc fo]) [0] rfl
  have hDc := hD.sub (ws' := [tc_X3 a0 u_3 u_4 ga sl sc fo]) [0] (by decide) rfl
  have hFc := va_free (wc := [tc_X3 a0 u_3 u_4 ga sl sc fo]) hD hS hA [0] rfl
  refine va_callv (va_runV (As := [.double p1]) (rest := []) ⟨hx, hb, hml, hown, hts⟩ (c_X3_turnWheel l G a0 H.size u_3 u_4 ga sl sc fo p1 (n_5 u_3 u_4 hw_2)) (cwV 1 hts gX3_goBy_X3_turnWheel rfl rfl rfl (by decide +kernel) ⟨(Nat.le_of_ble_eq_true rfl), (Nat.le_of_ble_eq_true rfl)⟩) (tm_preV hK hN hV hS hPc hDc hFc (va_recv hK hPc (ci := 3) (q0 := 0) rfl rfl)) rfl rfl hl.1 rfl (lv_room (Nat.le_of_ble_eq_true rfl)) dX3_goBy_7 ⟨(Nat.le_of_ble_eq_true rfl), (Nat.le_of_ble_eq_true rfl)⟩) hS (fun q _ h => hFc q h) hFc (fun u t H locs ht hvm hw_6 hB hz1 hk1 hS => ?_)
  obtain ⟨u_7, u_8⟩ := u
  obtain ⟨hP1, hD1⟩ := hB
  rw [ht] at hP1
  try dsimp only at hw_6
  obtain ⟨hP, hD⟩ := va_join (wr := []) (w1 := [tc_X3 a0 u_7 u_4 ga sl sc u_8]) hP hD [0] [] rfl rfl (by decide) (by decide) hk1 hFc hP1 hD1
  have hP : va_P G.1 vwCl [tc_X3 a0 u_7 u_4 ga sl sc u_8] H := hP
  have hD : va_D A [tc_X3 a0 u_7 u_4 ga sl sc u_8] := hD
  refine lv_aload_n hx hb dX3_goBy_10 rfl (lv_at hl 0 rfl) ?_
  refine lv_dload_n hx hb dX3_goBy_11 rfl (lv_at hl 1 rfl) ?_
  have hPc := hP.sub (ws' := [tc_X3 a0 u_7 u_4 ga sl sc u_8]) [0] rfl
  have hDc := hD.sub (ws' := [tc_X3 a0 u_7 u_4 ga sl sc u_8]) [0] (by decide) rfl
  have hFc := va_free (wc := [tc_X3 a0 u_7 u_4 ga sl sc u_8]) hD hS hA [0] rfl
  refine va_callv (va_runV (As := [.double p1]) (rest := []) ⟨hx, hb, hml, hown, hts⟩ (c_X3_scourOut l G a0 H.size u_7 u_4 ga sl sc u_8 p1 (n_9 u_3 u_4 hw_2 u_7 u_8 hw_6)) (cwV 1 hts gX3_goBy_X3_scourOut rfl rfl rfl (by decide +kernel) ⟨(Nat.le_of_ble_eq_true rfl), (Nat.le_of_ble_eq_true rfl)⟩) (tm_preV hK hN hV hS hPc hDc hFc (va_recv hK hPc (ci := 3) (q0 := 0) rfl rfl)) rfl rfl hl.1 rfl (lv_room (Nat.le_of_ble_eq_true rfl)) dX3_goBy_12 ⟨(Nat.le_of_ble_eq_true rfl), (Nat.le_of_ble_eq_true rfl)⟩) hS (fun q _ h => hFc q h) hFc (fun u t H locs ht hvm hw_10 hB hz1 hk1 hS => ?_)
  obtain ⟨u_11, u_12⟩ := u
  obtain ⟨hP1, hD1⟩ := hB
  rw [ht] at hP1
  try dsimp only at hw_10
  obtain ⟨hP, hD⟩ := va_join (wr := []) (w1 := [tc_X3 a0 u_11 u_12 ga sl sc u_8]) hP hD [0] [] rfl rfl (by decide) (by decide) hk1 hFc hP1 hD1
  have hP : va_P G.1 vwCl [tc_X3 a0 u_11 u_12 ga sl sc u_8] H := hP
  have hD : va_D A [tc_X3 a0 u_11 u_12 ga sl sc u_8] := hD
  have hP9 := hP.sub (ws' := [tc_X3 a0 u_11 u_12 ga sl sc u_8]) [0] rfl
  have hD9 := hD.sub (ws' := [tc_X3 a0 u_11 u_12 ga sl sc u_8]) [0] (by decide) rfl
  exact W.vret hx hb hr (fun t ht hW => ⟨⟨(u_11, u_12, u_8), rfl, by unfold f_X3_goBy; all_goals (rw [← hw_2]); all_goals (dsimp only); all_goals (rw [← hw_6]); all_goals (dsimp only); all_goals (rw [← hw_10]); all_goals (dsimp only); all_goals rfl, by rw [ht]; exact hP9, hD9⟩, hS.F ht⟩) hS.2.2 dX3_goBy_15
set_option maxHeartbeats 4000000 in
set_option maxRecDepth 100000 in
theorem c_X5_paceOf (l : Launch) (G : tm_G)  (sz : Nat) (p1 : Int32) : Met l yX5_paceOf wsX5_paceOf ({ frames := 0, cells := 0, slots := 0, locals := 0 }) (va_Pc [.int p1] (tm_B G [] sz)) (va_Qd (fun (r : UInt64) (u : Unit) => r = f_X5_paceOf p1) (fun (u : Unit) (t : State) => va_P G.1 vwCl [] t.heap ∧ va_D (va_A [] sz) []) (va_A [] sz)) 0 0 (va_A [] sz) := by
  refine Met.ofW (cc := cX5_paceOf) (maxL := 1) (ret := (some .double)) (by decide) rfl ?_
  intro p e s m args below meth c s₁ B hml hv
  obtain ⟨rfl, hsz, hP, hK, hD0, hN, hV⟩ := hv
  have hx := B.exec
  have hb := B.bytes
  have hr := B.returns
  have hts := atoms_spec (ws := wsX5_paceOf) B.pre
  have hown : s.vm.findClass RX5 = some m.cls := findClass_of_methodNamed B.named
  have hlocks := B.notSynchronized
  subst hsz
  have hD := hD0.self (sz := s.heap.size)
  generalize hAe : va_A [] s.heap.size = A at hD hV ⊢
  have hA : ∀ q : Nat, s.heap.size ≤ q → A q := fun q h => by rw [← hAe]; exact Or.inr h
  have hS : va_S A s.heap s.heap [] := va_S.rf
  have hl := lv_entry ([.int p1]) (n := 1) (Nat.le_of_ble_eq_true rfl)
  rw [lg_entry_eq]
  generalize (lg_sl ([.int p1]) ++ List.replicate (1 - (lg_sl ([.int p1])).length) Slot.unset).toArray = ls at hl ⊢
  have hl : lv_has ls 1 [(0, .int p1)] := hl
  refine lv_iload_n hx hb dX5_paceOf_0 rfl (lv_at hl 0 rfl) ?_
  refine lv_if_ne (tgt := 8) hx hb dX5_paceOf_1 (by decide) (fun c_1 => ?_) (fun c_1 => ?_)
  · refine lv_iload_n hx hb dX5_paceOf_8 rfl (lv_at hl 0 rfl) ?_
    refine lv_iconst (v := 1) hx hb dX5_paceOf_9 (by decide) ?_
    refine lv_icmp_ne (tgt := 19) hx hb dX5_paceOf_10 (by decide) (fun c_2 => ?_) (fun c_2 => ?_)
    · refine lv_ldc2d hx hb hown (hts (.constantDouble RX5 332 (4617315517961601024)) (List.mem_of_getElem? (i := 3) rfl)) dX5_paceOf_19 ?_
      have hP9 := hP.sub (ws' := []) [] rfl
      have hD9 := hD.sub (ws' := []) [] (by decide) rfl
      exact W.dret (v := 4617315517961601024) hx hb hr (fun t ht hW => ⟨⟨4617315517961601024, (), rfl, by unfold f_X5_paceOf; all_goals (rw [if_neg c_1]); all_goals (rw [if_neg c_2]); all_goals rfl, by rw [ht]; exact hP9, hD9⟩, hS.F ht⟩) hS.2.2 dX5_paceOf_22
    · refine lv_ldc2d hx hb hown (hts (.constantDouble RX5 330 (4613937818241073152)) (List.mem_of_getElem? (i := 2) rfl)) dX5_paceOf_13 ?_
      refine lv_goto (tgt := 22) hx hb dX5_paceOf_16 (by decide) ?_
      have hP9 := hP.sub (ws' := []) [] rfl
      have hD9 := hD.sub (ws' := []) [] (by decide) rfl
      exact W.dret (v := 4613937818241073152) hx hb hr (fun t ht hW => ⟨⟨4613937818241073152, (), rfl, by unfold f_X5_paceOf; all_goals (rw [if_neg c_1]); all_goals (rw [if_pos c_2]); all_goals rfl, by rw [ht]; exact hP9, hD9⟩, hS.F ht⟩) hS.2.2 dX5_paceOf_22
  · refine lv_ldc2d hx hb hown (hts (.constantDouble RX5 328 (4616189618054758400)) (List.mem_of_getElem? (i := 1) rfl)) dX5_paceOf_4 ?_
    have hP9 := hP.sub (ws' := []) [] rfl
    have hD9 := hD.sub (ws' := []) [] (by decide) rfl
    exact W.dret (v := 4616189618054758400) hx hb hr (fun t ht hW => ⟨⟨4616189618054758400, (), rfl, by unfold f_X5_paceOf; all_goals (rw [if_pos c_1]); all_goals rfl, by rw [ht]; exact hP9, hD9⟩, hS.F ht⟩) hS.2.2 dX5_paceOf_7
set_option maxHeartbeats 4000000 in
set_option maxRecDepth 100000 in
theorem c_X5_hardnessOf (l : Launch) (G : tm_G)  (sz : Nat) (p1 : Int32) : Met l yX5_hardnessOf wsX5_hardnessOf ({ frames := 0, cells := 0, slots := 0, locals := 0 }) (va_Pc [.int p1] (tm_B G [] sz)) (va_Qf (fun (r : UInt32) (u : Unit) => r = f_X5_hardnessOf p1) (fun (u : Unit) (t : State) => va_P G.1 vwCl [] t.heap ∧ va_D (va_A [] sz) []) (va_A [] sz)) 0 0 (va_A [] sz) := by
  refine Met.ofW (cc := cX5_hardnessOf) (maxL := 1) (ret := (some .float)) (by decide) rfl ?_
  intro p e s m args below meth c s₁ B hml hv
  obtain ⟨rfl, hsz, hP, hK, hD0, hN, hV⟩ := hv
  have hx := B.exec
  have hb := B.bytes
  have hr := B.returns
  have hts := atoms_spec (ws := wsX5_hardnessOf) B.pre
  have hown : s.vm.findClass RX5 = some m.cls := findClass_of_methodNamed B.named
  have hlocks := B.notSynchronized
  subst hsz
  have hD := hD0.self (sz := s.heap.size)
  generalize hAe : va_A [] s.heap.size = A at hD hV ⊢
  have hA : ∀ q : Nat, s.heap.size ≤ q → A q := fun q h => by rw [← hAe]; exact Or.inr h
  have hS : va_S A s.heap s.heap [] := va_S.rf
  have hl := lv_entry ([.int p1]) (n := 1) (Nat.le_of_ble_eq_true rfl)
  rw [lg_entry_eq]
  generalize (lg_sl ([.int p1]) ++ List.replicate (1 - (lg_sl ([.int p1])).length) Slot.unset).toArray = ls at hl ⊢
  have hl : lv_has ls 1 [(0, .int p1)] := hl
  refine lv_iload_n hx hb dX5_hardnessOf_0 rfl (lv_at hl 0 rfl) ?_
  refine lv_iconst (v := 1) hx hb dX5_hardnessOf_1 (by decide) ?_
  refine lv_icmp_ne (tgt := 9) hx hb dX5_hardnessOf_2 (by decide) (fun c_1 => ?_) (fun c_1 => ?_)
  · refine lv_fconst1 hx hb dX5_hardnessOf_9 ?_
    have hP9 := hP.sub (ws' := []) [] rfl
    have hD9 := hD.sub (ws' := []) [] (by decide) rfl
    exact W.fret (v := FP.fconst1) hx hb hr (fun t ht hW => ⟨⟨FP.fconst1, (), rfl, by unfold f_X5_hardnessOf; all_goals (rw [if_neg c_1]); all_goals rfl, by rw [ht]; exact hP9, hD9⟩, hS.F ht⟩) hS.2.2 dX5_hardnessOf_10
  · refine lv_fconst2 hx hb dX5_hardnessOf_5 ?_
    refine lv_goto (tgt := 10) hx hb dX5_hardnessOf_6 (by decide) ?_
    have hP9 := hP.sub (ws' := []) [] rfl
    have hD9 := hD.sub (ws' := []) [] (by decide) rfl
    exact W.fret (v := FP.fconst2) hx hb hr (fun t ht hW => ⟨⟨FP.fconst2, (), rfl, by unfold f_X5_hardnessOf; all_goals (rw [if_pos c_1]); all_goals rfl, by rw [ht]; exact hP9, hD9⟩, hS.F ht⟩) hS.2.2 dX5_hardnessOf_10
set_option maxHeartbeats 4000000 in
set_option maxRecDepth 100000 in
theorem c_X5_priceOf (l : Launch) (G : tm_G)  (sz : Nat) (p1 : Int32) : Met l yX5_priceOf wsX5_priceOf ({ frames := 0, cells := 0, slots := 0, locals := 0 }) (va_Pc [.int p1] (tm_B G [] sz)) (va_Qi (fun (r : Int32) (u : Unit) => r = f_X5_priceOf p1) (fun (u : Unit) (t : State) => va_P G.1 vwCl [] t.heap ∧ va_D (va_A [] sz) []) (va_A [] sz)) 0 0 (va_A [] sz) := by
  refine Met.ofW (cc := cX5_priceOf) (maxL := 1) (ret := (some .int)) (by decide) rfl ?_
  intro p e s m args below meth c s₁ B hml hv
  obtain ⟨rfl, hsz, hP, hK, hD0, hN, hV⟩ := hv
  have hx := B.exec
  have hb := B.bytes
  have hr := B.returns
  have hts := atoms_spec (ws := wsX5_priceOf) B.pre
  have hown : s.vm.findClass RX5 = some m.cls := findClass_of_methodNamed B.named
  have hlocks := B.notSynchronized
  subst hsz
  have hD := hD0.self (sz := s.heap.size)
  generalize hAe : va_A [] s.heap.size = A at hD hV ⊢
  have hA : ∀ q : Nat, s.heap.size ≤ q → A q := fun q h => by rw [← hAe]; exact Or.inr h
  have hS : va_S A s.heap s.heap [] := va_S.rf
  have hl := lv_entry ([.int p1]) (n := 1) (Nat.le_of_ble_eq_true rfl)
  rw [lg_entry_eq]
  generalize (lg_sl ([.int p1]) ++ List.replicate (1 - (lg_sl ([.int p1])).length) Slot.unset).toArray = ls at hl ⊢
  have hl : lv_has ls 1 [(0, .int p1)] := hl
  refine lv_iload_n hx hb dX5_priceOf_0 rfl (lv_at hl 0 rfl) ?_
  refine lv_if_ne (tgt := 6) hx hb dX5_priceOf_1 (by decide) (fun c_1 => ?_) (fun c_1 => ?_)
  · refine lv_iload_n hx hb dX5_priceOf_6 rfl (lv_at hl 0 rfl) ?_
    refine lv_iconst (v := 1) hx hb dX5_priceOf_7 (by decide) ?_
    refine lv_icmp_ne (tgt := 15) hx hb dX5_priceOf_8 (by decide) (fun c_2 => ?_) (fun c_2 => ?_)
    · refine lv_iconst (v := 1) hx hb dX5_priceOf_15 (by decide) ?_
      have hP9 := hP.sub (ws' := []) [] rfl
      have hD9 := hD.sub (ws' := []) [] (by decide) rfl
      exact W.iret (v := 1) hx hb hr (fun t ht hW => ⟨⟨1, (), rfl, by unfold f_X5_priceOf; all_goals (rw [if_neg c_1]); all_goals (rw [if_neg c_2]); all_goals rfl, by rw [ht]; exact hP9, hD9⟩, hS.F ht⟩) hS.2.2 dX5_priceOf_16
    · refine lv_iconst (v := 2) hx hb dX5_priceOf_11 (by decide) ?_
      refine lv_goto (tgt := 16) hx hb dX5_priceOf_12 (by decide) ?_
      have hP9 := hP.sub (ws' := []) [] rfl
      have hD9 := hD.sub (ws' := []) [] (by decide) rfl
      exact W.iret (v := 2) hx hb hr (fun t ht hW => ⟨⟨2, (), rfl, by unfold f_X5_priceOf; all_goals (rw [if_neg c_1]); all_goals (rw [if_pos c_2]); all_goals rfl, by rw [ht]; exact hP9, hD9⟩, hS.F ht⟩) hS.2.2 dX5_priceOf_16
  · refine lv_iconst (v := 3) hx hb dX5_priceOf_4 (by decide) ?_
    have hP9 := hP.sub (ws' := []) [] rfl
    have hD9 := hD.sub (ws' := []) [] (by decide) rfl
    exact W.iret (v := 3) hx hb hr (fun t ht hW => ⟨⟨3, (), rfl, by unfold f_X5_priceOf; all_goals (rw [if_pos c_1]); all_goals rfl, by rw [ht]; exact hP9, hD9⟩, hS.F ht⟩) hS.2.2 dX5_priceOf_5
set_option maxHeartbeats 4000000 in
set_option maxRecDepth 100000 in
theorem c_X5_isWithin (l : Launch) (G : tm_G)  (sz : Nat) (p1 : Int32) (p2 : Int32) (p3 : Int32) : Met l yX5_isWithin wsX5_isWithin ({ frames := 0, cells := 0, slots := 0, locals := 0 }) (va_Pc [.int p1, .int p2, .int p3] (tm_B G [] sz)) (va_Qi (fun (r : Int32) (u : Unit) => r = f_X5_isWithin p1 p2 p3) (fun (u : Unit) (t : State) => va_P G.1 vwCl [] t.heap ∧ va_D (va_A [] sz) []) (va_A [] sz)) 0 0 (va_A [] sz) := by
  refine Met.ofW (cc := cX5_isWithin) (maxL := 3) (ret := (some .boolean)) (by decide) rfl ?_
  intro p e s m args below meth c s₁ B hml hv
  obtain ⟨rfl, hsz, hP, hK, hD0, hN, hV⟩ := hv
  have hx := B.exec
  have hb := B.bytes
  have hr := B.returns
  have hts := atoms_spec (ws := wsX5_isWithin) B.pre
  have hown : s.vm.findClass RX5 = some m.cls := findClass_of_methodNamed B.named
  have hlocks := B.notSynchronized
  subst hsz
  have hD := hD0.self (sz := s.heap.size)
  generalize hAe : va_A [] s.heap.size = A at hD hV ⊢
  have hA : ∀ q : Nat, s.heap.size ≤ q → A q := fun q h => by rw [← hAe]; exact Or.inr h
  have hS : va_S A s.heap s.heap [] := va_S.rf
  have hl := lv_entry ([.int p1, .int p2, .int p3]) (n := 3) (Nat.le_of_ble_eq_true rfl)
  rw [lg_entry_eq]
  generalize (lg_sl ([.int p1, .int p2, .int p3]) ++ List.replicate (3 - (lg_sl ([.int p1, .int p2, .int p3])).length) Slot.unset).toArray = ls at hl ⊢
  have hl : lv_has ls 3 [(0, .int p1), (1, .int p2), (2, .int p3)] := hl
  refine lv_iload_n hx hb dX5_isWithin_0 rfl (lv_at hl 0 rfl) ?_
  refine lv_iload_n hx hb dX5_isWithin_1 rfl (lv_at hl 1 rfl) ?_
  refine lv_icmp_lt (tgt := 14) hx hb dX5_isWithin_2 (by decide) (fun c_1 => ?_) (fun c_1 => ?_)
  · refine lv_iconst (v := 0) hx hb dX5_isWithin_14 (by decide) ?_
    have hP9 := hP.sub (ws' := []) [] rfl
    have hD9 := hD.sub (ws' := []) [] (by decide) rfl
    exact W.zret (v := 0) hx hb hr rfl (fun t ht hW => ⟨⟨0, (), rfl, by unfold f_X5_isWithin; all_goals (rw [if_pos c_1]); all_goals rfl, by rw [ht]; exact hP9, hD9⟩, hS.F ht⟩) hS.2.2 dX5_isWithin_15
  · refine lv_iload_n hx hb dX5_isWithin_5 rfl (lv_at hl 0 rfl) ?_
    refine lv_iload_n hx hb dX5_isWithin_6 rfl (lv_at hl 2 rfl) ?_
    refine lv_icmp_gt (tgt := 14) hx hb dX5_isWithin_7 (by decide) (fun c_2 => ?_) (fun c_2 => ?_)
    · refine lv_iconst (v := 0) hx hb dX5_isWithin_14 (by decide) ?_
      have hP9 := hP.sub (ws' := []) [] rfl
      have hD9 := hD.sub (ws' := []) [] (by decide) rfl
      exact W.zret (v := 0) hx hb hr rfl (fun t ht hW => ⟨⟨0, (), rfl, by unfold f_X5_isWithin; all_goals (rw [if_neg c_1]); all_goals (rw [if_pos c_2]); all_goals rfl, by rw [ht]; exact hP9, hD9⟩, hS.F ht⟩) hS.2.2 dX5_isWithin_15
    · refine lv_iconst (v := 1) hx hb dX5_isWithin_10 (by decide) ?_
      refine lv_goto (tgt := 15) hx hb dX5_isWithin_11 (by decide) ?_
      have hP9 := hP.sub (ws' := []) [] rfl
      have hD9 := hD.sub (ws' := []) [] (by decide) rfl
      exact W.zret (v := 1) hx hb hr rfl (fun t ht hW => ⟨⟨1, (), rfl, by unfold f_X5_isWithin; all_goals (rw [if_neg c_1]); all_goals (rw [if_neg c_2]); all_goals rfl, by rw [ht]; exact hP9, hD9⟩, hS.F ht⟩) hS.2.2 dX5_isWithin_15
set_option maxHeartbeats 4000000 in
set_option maxRecDepth 100000 in
theorem c_X5_roundedUp (l : Launch) (G : tm_G)  (sz : Nat) (p1 : UInt64) : Met l yX5_roundedUp wsX5_roundedUp ({ frames := 0, cells := 0, slots := 0, locals := 0 }) (va_Pc [.double p1] (tm_B G [] sz)) (va_Qi (fun (r : Int32) (u : Unit) => r = f_X5_roundedUp p1) (fun (u : Unit) (t : State) => va_P G.1 vwCl [] t.heap ∧ va_D (va_A [] sz) []) (va_A [] sz)) 0 0 (va_A [] sz) := by
  refine Met.ofW (cc := cX5_roundedUp) (maxL := 3) (ret := (some .int)) (by decide) rfl ?_
  intro p e s m args below meth c s₁ B hml hv
  obtain ⟨rfl, hsz, hP, hK, hD0, hN, hV⟩ := hv
  have hx := B.exec
  have hb := B.bytes
  have hr := B.returns
  have hts := atoms_spec (ws := wsX5_roundedUp) B.pre
  have hown : s.vm.findClass RX5 = some m.cls := findClass_of_methodNamed B.named
  have hlocks := B.notSynchronized
  subst hsz
  have hD := hD0.self (sz := s.heap.size)
  generalize hAe : va_A [] s.heap.size = A at hD hV ⊢
  have hA : ∀ q : Nat, s.heap.size ≤ q → A q := fun q h => by rw [← hAe]; exact Or.inr h
  have hS : va_S A s.heap s.heap [] := va_S.rf
  have hl := lv_entry ([.double p1]) (n := 3) (Nat.le_of_ble_eq_true rfl)
  rw [lg_entry_eq]
  generalize (lg_sl ([.double p1]) ++ List.replicate (3 - (lg_sl ([.double p1])).length) Slot.unset).toArray = ls at hl ⊢
  have hl : lv_has ls 3 [(0, .double p1)] := hl
  refine lv_dload_n hx hb dX5_roundedUp_0 rfl (lv_at hl 0 rfl) ?_
  refine lv_d2i hx hb dX5_roundedUp_1 ?_
  refine lv_istore_n (lv' := [(2, .int (FP.d2i p1)), (0, .double p1)]) hx hb dX5_roundedUp_2 rfl hl (by decide) rfl (fun ls hl => ?_)
  refine lv_iload_n hx hb dX5_roundedUp_3 rfl (lv_at hl 0 rfl) ?_
  refine lv_i2d hx hb dX5_roundedUp_4 ?_
  refine lv_dload_n hx hb dX5_roundedUp_5 rfl (lv_at hl 1 rfl) ?_
  refine lv_dcmp hx hb dX5_roundedUp_6 ?_
  refine lv_if_ge (tgt := 16) hx hb dX5_roundedUp_7 (by decide) (fun c_1 => ?_) (fun c_1 => ?_)
  · refine lv_iload_n hx hb dX5_roundedUp_16 rfl (lv_at hl 0 rfl) ?_
    have hP9 := hP.sub (ws' := []) [] rfl
    have hD9 := hD.sub (ws' := []) [] (by decide) rfl
    exact W.iret (v := FP.d2i p1) hx hb hr (fun t ht hW => ⟨⟨FP.d2i p1, (), rfl, by unfold f_X5_roundedUp; all_goals (rw [if_pos c_1]); all_goals rfl, by rw [ht]; exact hP9, hD9⟩, hS.F ht⟩) hS.2.2 dX5_roundedUp_17
  · refine lv_iload_n hx hb dX5_roundedUp_10 rfl (lv_at hl 0 rfl) ?_
    refine lv_iconst (v := 1) hx hb dX5_roundedUp_11 (by decide) ?_
    refine lv_iadd hx hb dX5_roundedUp_12 ?_
    refine lv_goto (tgt := 17) hx hb dX5_roundedUp_13 (by decide) ?_
    have hP9 := hP.sub (ws' := []) [] rfl
    have hD9 := hD.sub (ws' := []) [] (by decide) rfl
    exact W.iret (v := (FP.d2i p1) + 1) hx hb hr (fun t ht hW => ⟨⟨(FP.d2i p1) + 1, (), rfl, by unfold f_X5_roundedUp; all_goals (rw [if_neg c_1]); all_goals rfl, by rw [ht]; exact hP9, hD9⟩, hS.F ht⟩) hS.2.2 dX5_roundedUp_17
set_option maxHeartbeats 4000000 in
set_option maxRecDepth 100000 in
theorem c_X5_joined (l : Launch) (G : tm_G)  (sz : Nat) (p1 : Int64) (p2 : Int64) : Met l yX5_joined wsX5_joined ({ frames := 0, cells := 0, slots := 0, locals := 0 }) (va_Pc [.long p1, .long p2] (tm_B G [] sz)) (va_Ql (fun (r : Int64) (u : Unit) => r = f_X5_joined p1 p2) (fun (u : Unit) (t : State) => va_P G.1 vwCl [] t.heap ∧ va_D (va_A [] sz) []) (va_A [] sz)) 0 0 (va_A [] sz) := by
  refine Met.ofW (cc := cX5_joined) (maxL := 4) (ret := (some .long)) (by decide) rfl ?_
  intro p e s m args below meth c s₁ B hml hv
  obtain ⟨rfl, hsz, hP, hK, hD0, hN, hV⟩ := hv
  have hx := B.exec
  have hb := B.bytes
  have hr := B.returns
  have hts := atoms_spec (ws := wsX5_joined) B.pre
  have hown : s.vm.findClass RX5 = some m.cls := findClass_of_methodNamed B.named
  have hlocks := B.notSynchronized
  subst hsz
  have hD := hD0.self (sz := s.heap.size)
  generalize hAe : va_A [] s.heap.size = A at hD hV ⊢
  have hA : ∀ q : Nat, s.heap.size ≤ q → A q := fun q h => by rw [← hAe]; exact Or.inr h
  have hS : va_S A s.heap s.heap [] := va_S.rf
  have hl := lv_entry ([.long p1, .long p2]) (n := 4) (Nat.le_of_ble_eq_true rfl)
  rw [lg_entry_eq]
  generalize (lg_sl ([.long p1, .long p2]) ++ List.replicate (4 - (lg_sl ([.long p1, .long p2])).length) Slot.unset).toArray = ls at hl ⊢
  have hl : lv_has ls 4 [(0, .long p1), (2, .long p2)] := hl
  refine lv_lload_n hx hb dX5_joined_0 rfl (lv_at hl 0 rfl) ?_
  refine lv_ldc2 hx hb hown (hts (.constantLong RX5 324 (31)) (List.mem_of_getElem? (i := 1) rfl)) dX5_joined_1 ?_
  refine lv_lmul hx hb dX5_joined_4 ?_
  refine lv_lload_n hx hb dX5_joined_5 rfl (lv_at hl 1 rfl) ?_
  refine lv_ladd hx hb dX5_joined_6 ?_
  have hP9 := hP.sub (ws' := []) [] rfl
  have hD9 := hD.sub (ws' := []) [] (by decide) rfl
  exact W.lret (v := (p1 * 31) + p2) hx hb hr (fun t ht hW => ⟨⟨(p1 * 31) + p2, (), rfl, by unfold f_X5_joined; all_goals rfl, by rw [ht]; exact hP9, hD9⟩, hS.F ht⟩) hS.2.2 dX5_joined_7
set_option maxHeartbeats 4000000 in
set_option maxRecDepth 100000 in
theorem c_X5_cutOf1024 (l : Launch) (G : tm_G)  (sz : Nat) (p1 : UInt64) (hn : n_X5_cutOf1024 p1) : Met l yX5_cutOf1024 wsX5_cutOf1024 ({ frames := 0, cells := 0, slots := 0, locals := 0 }) (va_Pc [.double p1] (tm_B G [] sz)) (va_Ql (fun (r : Int64) (u : Unit) => r = f_X5_cutOf1024 p1) (fun (u : Unit) (t : State) => va_P G.1 vwCl [] t.heap ∧ va_D (va_A [] sz) []) (va_A [] sz)) 0 0 (va_A [] sz) := by
  refine Met.ofW (cc := cX5_cutOf1024) (maxL := 2) (ret := (some .long)) (by decide) rfl ?_
  intro p e s m args below meth c s₁ B hml hv
  obtain ⟨rfl, hsz, hP, hK, hD0, hN, hV⟩ := hv
  have hx := B.exec
  have hb := B.bytes
  have hr := B.returns
  have hts := atoms_spec (ws := wsX5_cutOf1024) B.pre
  have hown : s.vm.findClass RX5 = some m.cls := findClass_of_methodNamed B.named
  have hlocks := B.notSynchronized
  subst hsz
  have n_1 := hn
  unfold n_X5_cutOf1024 at n_1
  have hD := hD0.self (sz := s.heap.size)
  generalize hAe : va_A [] s.heap.size = A at hD hV ⊢
  have hA : ∀ q : Nat, s.heap.size ≤ q → A q := fun q h => by rw [← hAe]; exact Or.inr h
  have hS : va_S A s.heap s.heap [] := va_S.rf
  have hl := lv_entry ([.double p1]) (n := 2) (Nat.le_of_ble_eq_true rfl)
  rw [lg_entry_eq]
  generalize (lg_sl ([.double p1]) ++ List.replicate (2 - (lg_sl ([.double p1])).length) Slot.unset).toArray = ls at hl ⊢
  have hl : lv_has ls 2 [(0, .double p1)] := hl
  refine lv_ldc2d hx hb hown (hts (.constantDouble RX5 326 (4652218415073722368)) (List.mem_of_getElem? (i := 1) rfl)) dX5_cutOf1024_0 ?_
  refine lv_dload_n hx hb dX5_cutOf1024_3 rfl (lv_at hl 0 rfl) ?_
  refine lv_dmul hx hb dX5_cutOf1024_4 n_1 ?_
  refine lv_d2l hx hb dX5_cutOf1024_5 ?_
  have hP9 := hP.sub (ws' := []) [] rfl
  have hD9 := hD.sub (ws' := []) [] (by decide) rfl
  exact W.lret (v := FP.d2l (FP.dmul 4652218415073722368 p1)) hx hb hr (fun t ht hW => ⟨⟨FP.d2l (FP.dmul 4652218415073722368 p1), (), rfl, by unfold f_X5_cutOf1024; all_goals rfl, by rw [ht]; exact hP9, hD9⟩, hS.F ht⟩) hS.2.2 dX5_cutOf1024_6
set_option maxHeartbeats 4000000 in
set_option maxRecDepth 100000 in
theorem c_X0_has (l : Launch) (G : tm_G) (a0 : Nat) (b0 : Nat) (b1 : Nat) (b2 : Nat) (b3 : Nat) (b4 : Nat) (b5 : Nat) (sz : Nat) (ln : Int32) (ow : Nat → Int32) (gr : Nat → Int32) (we : Nat → Int32) (du : Nat → Int32) (sa : Nat → Int32) (le : Nat → UInt64) (p1 : Int32) : Met l yX0_has wsX0_has ({ frames := 0, cells := 0, slots := 0, locals := 0 }) (va_Pc [.ref a0, .int p1] (tm_B G [tc_X0 a0 b0 b1 b2 b3 b4 b5 ln, tc_I G b0 10 ow, tc_I G b1 10 gr, tc_I G b2 10 we, tc_I G b3 10 du, tc_I G b4 10 sa, tc_D G b5 10 le] sz)) (va_Qi (fun (r : Int32) (u : Unit) => r = f_X0_has ln p1) (fun (u : Unit) (t : State) => va_P G.1 vwCl [tc_X0 a0 b0 b1 b2 b3 b4 b5 ln, tc_I G b0 10 ow, tc_I G b1 10 gr, tc_I G b2 10 we, tc_I G b3 10 du, tc_I G b4 10 sa, tc_D G b5 10 le] t.heap ∧ va_D (va_A [tc_X0 a0 b0 b1 b2 b3 b4 b5 ln, tc_I G b0 10 ow, tc_I G b1 10 gr, tc_I G b2 10 we, tc_I G b3 10 du, tc_I G b4 10 sa, tc_D G b5 10 le] sz) [tc_X0 a0 b0 b1 b2 b3 b4 b5 ln, tc_I G b0 10 ow, tc_I G b1 10 gr, tc_I G b2 10 we, tc_I G b3 10 du, tc_I G b4 10 sa, tc_D G b5 10 le]) (va_A [tc_X0 a0 b0 b1 b2 b3 b4 b5 ln, tc_I G b0 10 ow, tc_I G b1 10 gr, tc_I G b2 10 we, tc_I G b3 10 du, tc_I G b4 10 sa, tc_D G b5 10 le] sz)) 0 0 (va_A [tc_X0 a0 b0 b1 b2 b3 b4 b5 ln, tc_I G b0 10 ow, tc_I G b1 10 gr, tc_I G b2 10 we, tc_I G b3 10 du, tc_I G b4 10 sa, tc_D G b5 10 le] sz) := by
  refine Met.ofW (cc := cX0_has) (maxL := 2) (ret := (some .boolean)) (by decide) rfl ?_
  intro p e s m args below meth c s₁ B hml hv
  obtain ⟨rfl, hsz, hP, hK, hD0, hN, hV⟩ := hv
  have hx := B.exec
  have hb := B.bytes
  have hr := B.returns
  have hts := atoms_spec (ws := wsX0_has) B.pre
  have hown : s.vm.findClass RX0 = some m.cls := findClass_of_methodNamed B.named
  have hlocks := B.notSynchronized
  subst hsz
  have hiX0 : ∀ w ∈ u_ws RX0 TX0 7, w ∈ wsX0_has := fun _ h => List.mem_cons_of_mem _ (List.mem_append_right _ h)
  have hD := hD0.self (sz := s.heap.size)
  generalize hAe : va_A [tc_X0 a0 b0 b1 b2 b3 b4 b5 ln, tc_I G b0 10 ow, tc_I G b1 10 gr, tc_I G b2 10 we, tc_I G b3 10 du, tc_I G b4 10 sa, tc_D G b5 10 le] s.heap.size = A at hD hV ⊢
  have hA : ∀ q : Nat, s.heap.size ≤ q → A q := fun q h => by rw [← hAe]; exact Or.inr h
  have hS : va_S A s.heap s.heap [] := va_S.rf
  have hl := lv_entry ([.ref a0, .int p1]) (n := 2) (Nat.le_of_ble_eq_true rfl)
  rw [lg_entry_eq]
  generalize (lg_sl ([.ref a0, .int p1]) ++ List.replicate (2 - (lg_sl ([.ref a0, .int p1])).length) Slot.unset).toArray = ls at hl ⊢
  have hl : lv_has ls 2 [(0, .ref a0), (1, .int p1)] := hl
  refine lv_iload_n hx hb dX0_has_0 rfl (lv_at hl 1 rfl) ?_
  refine lv_if_lt (tgt := 16) hx hb dX0_has_1 (by decide) (fun c_1 => ?_) (fun c_1 => ?_)
  · refine lv_iconst (v := 0) hx hb dX0_has_16 (by decide) ?_
    have hP9 := hP.sub (ws' := [tc_X0 a0 b0 b1 b2 b3 b4 b5 ln, tc_I G b0 10 ow, tc_I G b1 10 gr, tc_I G b2 10 we, tc_I G b3 10 du, tc_I G b4 10 sa, tc_D G b5 10 le]) [0, 1, 2, 3, 4, 5, 6] rfl
    have hD9 := hD.sub (ws' := [tc_X0 a0 b0 b1 b2 b3 b4 b5 ln, tc_I G b0 10 ow, tc_I G b1 10 gr, tc_I G b2 10 we, tc_I G b3 10 du, tc_I G b4 10 sa, tc_D G b5 10 le]) [0, 1, 2, 3, 4, 5, 6] (by decide) rfl
    exact W.zret (v := 0) hx hb hr rfl (fun t ht hW => ⟨⟨0, (), rfl, by unfold f_X0_has; all_goals (rw [if_pos c_1]); all_goals rfl, by rw [ht]; exact hP9, hD9⟩, hS.F ht⟩) hS.2.2 dX0_has_17
  · refine lv_iload_n hx hb dX0_has_4 rfl (lv_at hl 1 rfl) ?_
    refine lv_aload_n hx hb dX0_has_5 rfl (lv_at hl 0 rfl) ?_
    refine va_get (D := G.1) (ci := 0) (v := .int ln) (C := RX0) (T := TX0) (N := 7) hx hb hts hiX0 hown hK hP 0 rfl rfl 6 (by decide) (hts (.fieldLink RX0 37 "TideMill$Lots" "count" "I") (List.mem_of_getElem? (i := 1) rfl)) (fun _ h9 => h9) rfl dX0_has_6 ?_
    refine lv_icmp_ge (tgt := 16) hx hb dX0_has_9 (by decide) (fun c_2 => ?_) (fun c_2 => ?_)
    · refine lv_iconst (v := 0) hx hb dX0_has_16 (by decide) ?_
      have hP9 := hP.sub (ws' := [tc_X0 a0 b0 b1 b2 b3 b4 b5 ln, tc_I G b0 10 ow, tc_I G b1 10 gr, tc_I G b2 10 we, tc_I G b3 10 du, tc_I G b4 10 sa, tc_D G b5 10 le]) [0, 1, 2, 3, 4, 5, 6] rfl
      have hD9 := hD.sub (ws' := [tc_X0 a0 b0 b1 b2 b3 b4 b5 ln, tc_I G b0 10 ow, tc_I G b1 10 gr, tc_I G b2 10 we, tc_I G b3 10 du, tc_I G b4 10 sa, tc_D G b5 10 le]) [0, 1, 2, 3, 4, 5, 6] (by decide) rfl
      exact W.zret (v := 0) hx hb hr rfl (fun t ht hW => ⟨⟨0, (), rfl, by unfold f_X0_has; all_goals (rw [if_neg c_1]); all_goals (rw [if_pos c_2]); all_goals rfl, by rw [ht]; exact hP9, hD9⟩, hS.F ht⟩) hS.2.2 dX0_has_17
    · refine lv_iconst (v := 1) hx hb dX0_has_12 (by decide) ?_
      refine lv_goto (tgt := 17) hx hb dX0_has_13 (by decide) ?_
      have hP9 := hP.sub (ws' := [tc_X0 a0 b0 b1 b2 b3 b4 b5 ln, tc_I G b0 10 ow, tc_I G b1 10 gr, tc_I G b2 10 we, tc_I G b3 10 du, tc_I G b4 10 sa, tc_D G b5 10 le]) [0, 1, 2, 3, 4, 5, 6] rfl
      have hD9 := hD.sub (ws' := [tc_X0 a0 b0 b1 b2 b3 b4 b5 ln, tc_I G b0 10 ow, tc_I G b1 10 gr, tc_I G b2 10 we, tc_I G b3 10 du, tc_I G b4 10 sa, tc_D G b5 10 le]) [0, 1, 2, 3, 4, 5, 6] (by decide) rfl
      exact W.zret (v := 1) hx hb hr rfl (fun t ht hW => ⟨⟨1, (), rfl, by unfold f_X0_has; all_goals (rw [if_neg c_1]); all_goals (rw [if_neg c_2]); all_goals rfl, by rw [ht]; exact hP9, hD9⟩, hS.F ht⟩) hS.2.2 dX0_has_17
set_option maxHeartbeats 4000000 in
set_option maxRecDepth 100000 in
theorem c_X0_bring (l : Launch) (G : tm_G) (a0 : Nat) (b0 : Nat) (b1 : Nat) (b2 : Nat) (b3 : Nat) (b4 : Nat) (b5 : Nat) (sz : Nat) (ln : Int32) (ow : Nat → Int32) (gr : Nat → Int32) (we : Nat → Int32) (du : Nat → Int32) (sa : Nat → Int32) (le : Nat → UInt64) (p1 : Int32) (p2 : Int32) (p3 : Int32) (p4 : Int32) (hn : n_X0_bring ln) : Met l yX0_bring wsX0_bring ({ frames := 0, cells := 0, slots := 0, locals := 0 }) (va_Pc [.ref a0, .int p1, .int p2, .int p3, .int p4] (tm_B G [tc_X0 a0 b0 b1 b2 b3 b4 b5 ln, tc_I G b0 10 ow, tc_I G b1 10 gr, tc_I G b2 10 we, tc_I G b3 10 du, tc_I G b4 10 sa, tc_D G b5 10 le] sz)) (va_Qi (fun (r : Int32) (u : Int32 × (Nat → Int32) × (Nat → Int32) × (Nat → Int32) × (Nat → Int32) × (Nat → Int32) × (Nat → UInt64)) => (r, u) = f_X0_bring ln ow gr we du sa le p1 p2 p3 p4) (fun (u : Int32 × (Nat → Int32) × (Nat → Int32) × (Nat → Int32) × (Nat → Int32) × (Nat → Int32) × (Nat → UInt64)) (t : State) => va_P G.1 vwCl [tc_X0 a0 b0 b1 b2 b3 b4 b5 u.1, tc_I G b0 10 u.2.1, tc_I G b1 10 u.2.2.1, tc_I G b2 10 u.2.2.2.1, tc_I G b3 10 u.2.2.2.2.1, tc_I G b4 10 u.2.2.2.2.2.1, tc_D G b5 10 u.2.2.2.2.2.2] t.heap ∧ va_D (va_A [tc_X0 a0 b0 b1 b2 b3 b4 b5 ln, tc_I G b0 10 ow, tc_I G b1 10 gr, tc_I G b2 10 we, tc_I G b3 10 du, tc_I G b4 10 sa, tc_D G b5 10 le] sz) [tc_X0 a0 b0 b1 b2 b3 b4 b5 u.1, tc_I G b0 10 u.2.1, tc_I G b1 10 u.2.2.1, tc_I G b2 10 u.2.2.2.1, tc_I G b3 10 u.2.2.2.2.1, tc_I G b4 10 u.2.2.2.2.2.1, tc_D G b5 10 u.2.2.2.2.2.2]) (va_A [tc_X0 a0 b0 b1 b2 b3 b4 b5 ln, tc_I G b0 10 ow, tc_I G b1 10 gr, tc_I G b2 10 we, tc_I G b3 10 du, tc_I G b4 10 sa, tc_D G b5 10 le] sz)) 0 0 (va_A [tc_X0 a0 b0 b1 b2 b3 b4 b5 ln, tc_I G b0 10 ow, tc_I G b1 10 gr, tc_I G b2 10 we, tc_I G b3 10 du, tc_I G b4 10 sa, tc_D G b5 10 le] sz) := by
  refine Met.ofW (cc := cX0_bring) (maxL := 6) (ret := (some .int)) (by decide) rfl ?_
  intro p e s m args below meth c s₁ B hml hv
  obtain ⟨rfl, hsz, hP, hK, hD0, hN, hV⟩ := hv
  have hx := B.exec
  have hb := B.bytes
  have hr := B.returns
  have hts := atoms_spec (ws := wsX0_bring) B.pre
  have hown : s.vm.findClass RX0 = some m.cls := findClass_of_methodNamed B.named
  have hlocks := B.notSynchronized
  subst hsz
  have n_1 := hn
  unfold n_X0_bring at n_1
  have hiX0 : ∀ w ∈ u_ws RX0 TX0 7, w ∈ wsX0_bring := fun _ h => List.mem_cons_of_mem _ (List.mem_append_right _ h)
  have hD := hD0.self (sz := s.heap.size)
  generalize hAe : va_A [tc_X0 a0 b0 b1 b2 b3 b4 b5 ln, tc_I G b0 10 ow, tc_I G b1 10 gr, tc_I G b2 10 we, tc_I G b3 10 du, tc_I G b4 10 sa, tc_D G b5 10 le] s.heap.size = A at hD hV ⊢
  have hA : ∀ q : Nat, s.heap.size ≤ q → A q := fun q h => by rw [← hAe]; exact Or.inr h
  have hS : va_S A s.heap s.heap [] := va_S.rf
  have hl := lv_entry ([.ref a0, .int p1, .int p2, .int p3, .int p4]) (n := 6) (Nat.le_of_ble_eq_true rfl)
  rw [lg_entry_eq]
  generalize (lg_sl ([.ref a0, .int p1, .int p2, .int p3, .int p4]) ++ List.replicate (6 - (lg_sl ([.ref a0, .int p1, .int p2, .int p3, .int p4])).length) Slot.unset).toArray = ls at hl ⊢
  have hl : lv_has ls 6 [(0, .ref a0), (1, .int p1), (2, .int p2), (3, .int p3), (4, .int p4)] := hl
  refine lv_aload_n hx hb dX0_bring_0 rfl (lv_at hl 0 rfl) ?_
  refine va_get (D := G.1) (ci := 0) (v := .int ln) (C := RX0) (T := TX0) (N := 7) hx hb hts hiX0 hown hK hP 0 rfl rfl 6 (by decide) (hts (.fieldLink RX0 37 "TideMill$Lots" "count" "I") (List.mem_of_getElem? (i := 1) rfl)) (fun _ h9 => h9) rfl dX0_bring_1 ?_
  refine lv_istore (lv' := [(5, .int ln), (0, .ref a0), (1, .int p1), (2, .int p2), (3, .int p3), (4, .int p4)]) hx hb dX0_bring_4 hl (by decide) rfl (fun ls hl => ?_)
  refine lv_aload_n hx hb dX0_bring_6 rfl (lv_at hl 1 rfl) ?_
  refine va_get (D := G.1) (ci := 0) (v := .ref b0) (C := RX0) (T := TX0) (N := 7) hx hb hts hiX0 hown hK hP 0 rfl rfl 0 (by decide) (hts (.fieldLink RX0 9 "TideMill$Lots" "owner" "[I") (List.mem_of_getElem? (i := 2) rfl)) (fun _ h9 => h9) rfl dX0_bring_7 ?_
  refine lv_iload hx hb dX0_bring_10 (lv_at hl 0 rfl) ?_
  refine lv_iload_n hx hb dX0_bring_12 rfl (lv_at hl 2 rfl) ?_
  refine va_iast (n := 10) (f := ow) hx hb hK hP hD hS 1 0 rfl rfl n_1 dX0_bring_13 (fun H locs hP hD hS => ?_)
  have hP : va_P G.1 vwCl [tc_X0 a0 b0 b1 b2 b3 b4 b5 ln, tc_I G b0 10 (upd ow ln.toNatClampNeg p1), tc_I G b1 10 gr, tc_I G b2 10 we, tc_I G b3 10 du, tc_I G b4 10 sa, tc_D G b5 10 le] H := hP
  have hD : va_D A [tc_X0 a0 b0 b1 b2 b3 b4 b5 ln, tc_I G b0 10 (upd ow ln.toNatClampNeg p1), tc_I G b1 10 gr, tc_I G b2 10 we, tc_I G b3 10 du, tc_I G b4 10 sa, tc_D G b5 10 le] := hD
  refine lv_aload_n hx hb dX0_bring_14 rfl (lv_at hl 1 rfl) ?_
  refine va_get (D := G.1) (ci := 0) (v := .ref b1) (C := RX0) (T := TX0) (N := 7) hx hb hts hiX0 hown hK hP 0 rfl rfl 1 (by decide) (hts (.fieldLink RX0 15 "TideMill$Lots" "grain" "[I") (List.mem_of_getElem? (i := 3) rfl)) (fun _ h9 => h9) rfl dX0_bring_15 ?_
  refine lv_iload hx hb dX0_bring_18 (lv_at hl 0 rfl) ?_
  refine lv_iload_n hx hb dX0_bring_20 rfl (lv_at hl 3 rfl) ?_
  refine va_iast (n := 10) (f := gr) hx hb hK hP hD hS 2 0 rfl rfl n_1 dX0_bring_21 (fun H locs hP hD hS => ?_)
  have hP : va_P G.1 vwCl [tc_X0 a0 b0 b1 b2 b3 b4 b5 ln, tc_I G b0 10 (upd ow ln.toNatClampNeg p1), tc_I G b1 10 (upd gr ln.toNatClampNeg p2), tc_I G b2 10 we, tc_I G b3 10 du, tc_I G b4 10 sa, tc_D G b5 10 le] H := hP
  have hD : va_D A [tc_X0 a0 b0 b1 b2 b3 b4 b5 ln, tc_I G b0 10 (upd ow ln.toNatClampNeg p1), tc_I G b1 10 (upd gr ln.toNatClampNeg p2), tc_I G b2 10 we, tc_I G b3 10 du, tc_I G b4 10 sa, tc_D G b5 10 le] := hD
  refine lv_aload_n hx hb dX0_bring_22 rfl (lv_at hl 1 rfl) ?_
  refine va_get (D := G.1) (ci := 0) (v := .ref b2) (C := RX0) (T := TX0) (N := 7) hx hb hts hiX0 hown hK hP 0 rfl rfl 2 (by decide) (hts (.fieldLink RX0 18 "TideMill$Lots" "weight" "[I") (List.mem_of_getElem? (i := 4) rfl)) (fun _ h9 => h9) rfl dX0_bring_23 ?_
  refine lv_iload hx hb dX0_bring_26 (lv_at hl 0 rfl) ?_
  refine lv_iload_n hx hb dX0_bring_28 rfl (lv_at hl 4 rfl) ?_
  refine va_iast (n := 10) (f := we) hx hb hK hP hD hS 3 0 rfl rfl n_1 dX0_bring_29 (fun H locs hP hD hS => ?_)
  have hP : va_P G.1 vwCl [tc_X0 a0 b0 b1 b2 b3 b4 b5 ln, tc_I G b0 10 (upd ow ln.toNatClampNeg p1), tc_I G b1 10 (upd gr ln.toNatClampNeg p2), tc_I G b2 10 (upd we ln.toNatClampNeg p3), tc_I G b3 10 du, tc_I G b4 10 sa, tc_D G b5 10 le] H := hP
  have hD : va_D A [tc_X0 a0 b0 b1 b2 b3 b4 b5 ln, tc_I G b0 10 (upd ow ln.toNatClampNeg p1), tc_I G b1 10 (upd gr ln.toNatClampNeg p2), tc_I G b2 10 (upd we ln.toNatClampNeg p3), tc_I G b3 10 du, tc_I G b4 10 sa, tc_D G b5 10 le] := hD
  refine lv_aload_n hx hb dX0_bring_30 rfl (lv_at hl 1 rfl) ?_
  refine va_get (D := G.1) (ci := 0) (v := .ref b3) (C := RX0) (T := TX0) (N := 7) hx hb hts hiX0 hown hK hP 0 rfl rfl 3 (by decide) (hts (.fieldLink RX0 21 "TideMill$Lots" "dueDay" "[I") (List.mem_of_getElem? (i := 5) rfl)) (fun _ h9 => h9) rfl dX0_bring_31 ?_
  refine lv_iload hx hb dX0_bring_34 (lv_at hl 0 rfl) ?_
  refine lv_iload hx hb dX0_bring_36 (lv_at hl 5 rfl) ?_
  refine va_iast (n := 10) (f := du) hx hb hK hP hD hS 4 0 rfl rfl n_1 dX0_bring_38 (fun H locs hP hD hS => ?_)
  have hP : va_P G.1 vwCl [tc_X0 a0 b0 b1 b2 b3 b4 b5 ln, tc_I G b0 10 (upd ow ln.toNatClampNeg p1), tc_I G b1 10 (upd gr ln.toNatClampNeg p2), tc_I G b2 10 (upd we ln.toNatClampNeg p3), tc_I G b3 10 (upd du ln.toNatClampNeg p4), tc_I G b4 10 sa, tc_D G b5 10 le] H := hP
  have hD : va_D A [tc_X0 a0 b0 b1 b2 b3 b4 b5 ln, tc_I G b0 10 (upd ow ln.toNatClampNeg p1), tc_I G b1 10 (upd gr ln.toNatClampNeg p2), tc_I G b2 10 (upd we ln.toNatClampNeg p3), tc_I G b3 10 (upd du ln.toNatClampNeg p4), tc_I G b4 10 sa, tc_D G b5 10 le] := hD
  refine lv_aload_n hx hb dX0_bring_39 rfl (lv_at hl 1 rfl) ?_
  refine va_get (D := G.1) (ci := 0) (v := .ref b4) (C := RX0) (T := TX0) (N := 7) hx hb hts hiX0 hown hK hP 0 rfl rfl 4 (by decide) (hts (.fieldLink RX0 24 "TideMill$Lots" "state" "[I") (List.mem_of_getElem? (i := 6) rfl)) (fun _ h9 => h9) rfl dX0_bring_40 ?_
  refine lv_iload hx hb dX0_bring_43 (lv_at hl 0 rfl) ?_
  refine lv_iconst (v := 0) hx hb dX0_bring_45 (by decide) ?_
  refine va_iast (n := 10) (f := sa) hx hb hK hP hD hS 5 0 rfl rfl n_1 dX0_bring_46 (fun H locs hP hD hS => ?_)
  have hP : va_P G.1 vwCl [tc_X0 a0 b0 b1 b2 b3 b4 b5 ln, tc_I G b0 10 (upd ow ln.toNatClampNeg p1), tc_I G b1 10 (upd gr ln.toNatClampNeg p2), tc_I G b2 10 (upd we ln.toNatClampNeg p3), tc_I G b3 10 (upd du ln.toNatClampNeg p4), tc_I G b4 10 (upd sa ln.toNatClampNeg 0), tc_D G b5 10 le] H := hP
  have hD : va_D A [tc_X0 a0 b0 b1 b2 b3 b4 b5 ln, tc_I G b0 10 (upd ow ln.toNatClampNeg p1), tc_I G b1 10 (upd gr ln.toNatClampNeg p2), tc_I G b2 10 (upd we ln.toNatClampNeg p3), tc_I G b3 10 (upd du ln.toNatClampNeg p4), tc_I G b4 10 (upd sa ln.toNatClampNeg 0), tc_D G b5 10 le] := hD
  refine lv_aload_n hx hb dX0_bring_47 rfl (lv_at hl 1 rfl) ?_
  refine va_get (D := G.1) (ci := 0) (v := .ref b5) (C := RX0) (T := TX0) (N := 7) hx hb hts hiX0 hown hK hP 0 rfl rfl 5 (by decide) (hts (.fieldLink RX0 27 "TideMill$Lots" "left" "[D") (List.mem_of_getElem? (i := 7) rfl)) (fun _ h9 => h9) rfl dX0_bring_48 ?_
  refine lv_iload hx hb dX0_bring_51 (lv_at hl 0 rfl) ?_
  refine lv_iload_n hx hb dX0_bring_53 rfl (lv_at hl 4 rfl) ?_
  refine lv_i2d hx hb dX0_bring_54 ?_
  refine va_dast (n := 10) (f := le) hx hb hK hP hD hS 6 1 rfl rfl n_1 dX0_bring_55 (fun H locs hP hD hS => ?_)
  have hP : va_P G.1 vwCl [tc_X0 a0 b0 b1 b2 b3 b4 b5 ln, tc_I G b0 10 (upd ow ln.toNatClampNeg p1), tc_I G b1 10 (upd gr ln.toNatClampNeg p2), tc_I G b2 10 (upd we ln.toNatClampNeg p3), tc_I G b3 10 (upd du ln.toNatClampNeg p4), tc_I G b4 10 (upd sa ln.toNatClampNeg 0), tc_D G b5 10 (vf_upd le ln.toNatClampNeg (FP.i2d p3))] H := hP
  have hD : va_D A [tc_X0 a0 b0 b1 b2 b3 b4 b5 ln, tc_I G b0 10 (upd ow ln.toNatClampNeg p1), tc_I G b1 10 (upd gr ln.toNatClampNeg p2), tc_I G b2 10 (upd we ln.toNatClampNeg p3), tc_I G b3 10 (upd du ln.toNatClampNeg p4), tc_I G b4 10 (upd sa ln.toNatClampNeg 0), tc_D G b5 10 (vf_upd le ln.toNatClampNeg (FP.i2d p3))] := hD
  refine lv_aload_n hx hb dX0_bring_56 rfl (lv_at hl 1 rfl) ?_
  refine lv_dup hx hb dX0_bring_57 rfl ?_
  refine va_get (D := G.1) (ci := 0) (v := .int ln) (C := RX0) (T := TX0) (N := 7) hx hb hts hiX0 hown hK hP 0 rfl rfl 6 (by decide) (hts (.fieldLink RX0 37 "TideMill$Lots" "count" "I") (List.mem_of_getElem? (i := 1) rfl)) (fun _ h9 => h9) rfl dX0_bring_58 ?_
  refine lv_iconst (v := 1) hx hb dX0_bring_61 (by decide) ?_
  refine lv_iadd hx hb dX0_bring_62 ?_
  refine va_put (D := G.1) (ci := 0) (v := .int (ln + 1)) (ty := .int) (C := RX0) (T := TX0) (N := 7) hx hb hts hiX0 tyX0 tyX0_ok nmX0 hown hK hP hD hS 0 rfl rfl 6 (by decide) (hts (.fieldLink RX0 37 "TideMill$Lots" "count" "I") (List.mem_of_getElem? (i := 1) rfl)) (fun _ h9 => h9) rfl (by decide +kernel) rfl rfl (Nat.le_of_ble_eq_true rfl) dX0_bring_63 (fun H locs hP hD hS => ?_)
  have hP : va_P G.1 vwCl [tc_X0 a0 b0 b1 b2 b3 b4 b5 (ln + 1), tc_I G b0 10 (upd ow ln.toNatClampNeg p1), tc_I G b1 10 (upd gr ln.toNatClampNeg p2), tc_I G b2 10 (upd we ln.toNatClampNeg p3), tc_I G b3 10 (upd du ln.toNatClampNeg p4), tc_I G b4 10 (upd sa ln.toNatClampNeg 0), tc_D G b5 10 (vf_upd le ln.toNatClampNeg (FP.i2d p3))] H := hP
  have hD : va_D A [tc_X0 a0 b0 b1 b2 b3 b4 b5 (ln + 1), tc_I G b0 10 (upd ow ln.toNatClampNeg p1), tc_I G b1 10 (upd gr ln.toNatClampNeg p2), tc_I G b2 10 (upd we ln.toNatClampNeg p3), tc_I G b3 10 (upd du ln.toNatClampNeg p4), tc_I G b4 10 (upd sa ln.toNatClampNeg 0), tc_D G b5 10 (vf_upd le ln.toNatClampNeg (FP.i2d p3))] := hD
  refine lv_iload hx hb dX0_bring_66 (lv_at hl 0 rfl) ?_
  have hP9 := hP.sub (ws' := [tc_X0 a0 b0 b1 b2 b3 b4 b5 (ln + 1), tc_I G b0 10 (upd ow ln.toNatClampNeg p1), tc_I G b1 10 (upd gr ln.toNatClampNeg p2), tc_I G b2 10 (upd we ln.toNatClampNeg p3), tc_I G b3 10 (upd du ln.toNatClampNeg p4), tc_I G b4 10 (upd sa ln.toNatClampNeg 0), tc_D G b5 10 (vf_upd le ln.toNatClampNeg (FP.i2d p3))]) [0, 1, 2, 3, 4, 5, 6] rfl
  have hD9 := hD.sub (ws' := [tc_X0 a0 b0 b1 b2 b3 b4 b5 (ln + 1), tc_I G b0 10 (upd ow ln.toNatClampNeg p1), tc_I G b1 10 (upd gr ln.toNatClampNeg p2), tc_I G b2 10 (upd we ln.toNatClampNeg p3), tc_I G b3 10 (upd du ln.toNatClampNeg p4), tc_I G b4 10 (upd sa ln.toNatClampNeg 0), tc_D G b5 10 (vf_upd le ln.toNatClampNeg (FP.i2d p3))]) [0, 1, 2, 3, 4, 5, 6] (by decide) rfl
  exact W.iret (v := ln) hx hb hr (fun t ht hW => ⟨⟨ln, (ln + 1, upd ow ln.toNatClampNeg p1, upd gr ln.toNatClampNeg p2, upd we ln.toNatClampNeg p3, upd du ln.toNatClampNeg p4, upd sa ln.toNatClampNeg 0, vf_upd le ln.toNatClampNeg (FP.i2d p3)), rfl, by unfold f_X0_bring; all_goals rfl, by rw [ht]; exact hP9, hD9⟩, hS.F ht⟩) hS.2.2 dX0_bring_68
set_option maxHeartbeats 4000000 in
set_option maxRecDepth 100000 in
theorem c_X0_grind (l : Launch) (G : tm_G) (a0 : Nat) (b0 : Nat) (b1 : Nat) (b2 : Nat) (b3 : Nat) (b4 : Nat) (b5 : Nat) (sz : Nat) (ln : Int32) (ow : Nat → Int32) (gr : Nat → Int32) (we : Nat → Int32) (du : Nat → Int32) (sa : Nat → Int32) (le : Nat → UInt64) (p1 : Int32) (p2 : UInt64) (hn : n_X0_grind gr le p1 p2) : Met l yX0_grind wsX0_grind ({ frames := 1, cells := 0, slots := 0, locals := 20 }) (va_Pc [.ref a0, .int p1, .double p2] (tm_B G [tc_X0 a0 b0 b1 b2 b3 b4 b5 ln, tc_I G b0 10 ow, tc_I G b1 10 gr, tc_I G b2 10 we, tc_I G b3 10 du, tc_I G b4 10 sa, tc_D G b5 10 le] sz)) (va_Qv (fun (u : (Nat → Int32) × (Nat → UInt64)) => u = f_X0_grind gr sa le p1 p2) (fun (u : (Nat → Int32) × (Nat → UInt64)) (t : State) => va_P G.1 vwCl [tc_X0 a0 b0 b1 b2 b3 b4 b5 ln, tc_I G b0 10 ow, tc_I G b1 10 gr, tc_I G b2 10 we, tc_I G b3 10 du, tc_I G b4 10 u.1, tc_D G b5 10 u.2] t.heap ∧ va_D (va_A [tc_X0 a0 b0 b1 b2 b3 b4 b5 ln, tc_I G b0 10 ow, tc_I G b1 10 gr, tc_I G b2 10 we, tc_I G b3 10 du, tc_I G b4 10 sa, tc_D G b5 10 le] sz) [tc_X0 a0 b0 b1 b2 b3 b4 b5 ln, tc_I G b0 10 ow, tc_I G b1 10 gr, tc_I G b2 10 we, tc_I G b3 10 du, tc_I G b4 10 u.1, tc_D G b5 10 u.2]) (va_A [tc_X0 a0 b0 b1 b2 b3 b4 b5 ln, tc_I G b0 10 ow, tc_I G b1 10 gr, tc_I G b2 10 we, tc_I G b3 10 du, tc_I G b4 10 sa, tc_D G b5 10 le] sz)) 0 0 (va_A [tc_X0 a0 b0 b1 b2 b3 b4 b5 ln, tc_I G b0 10 ow, tc_I G b1 10 gr, tc_I G b2 10 we, tc_I G b3 10 du, tc_I G b4 10 sa, tc_D G b5 10 le] sz) := by
  refine Met.ofW (cc := cX0_grind) (maxL := 6) (ret := none) (by decide) rfl ?_
  intro p e s m args below meth c s₁ B hml hv
  obtain ⟨rfl, hsz, hP, hK, hD0, hN, hV⟩ := hv
  have hx := B.exec
  have hb := B.bytes
  have hr := B.returns
  have hts := atoms_spec (ws := wsX0_grind) B.pre
  have hown : s.vm.findClass RX0 = some m.cls := findClass_of_methodNamed B.named
  have hlocks := B.notSynchronized
  subst hsz
  obtain ⟨n_1, n_3, n_4⟩ := hn
  have hiX0 : ∀ w ∈ u_ws RX0 TX0 7, w ∈ wsX0_grind := fun _ h => List.mem_cons_of_mem _ (List.mem_append_right _ h)
  have hD := hD0.self (sz := s.heap.size)
  generalize hAe : va_A [tc_X0 a0 b0 b1 b2 b3 b4 b5 ln, tc_I G b0 10 ow, tc_I G b1 10 gr, tc_I G b2 10 we, tc_I G b3 10 du, tc_I G b4 10 sa, tc_D G b5 10 le] s.heap.size = A at hD hV ⊢
  have hA : ∀ q : Nat, s.heap.size ≤ q → A q := fun q h => by rw [← hAe]; exact Or.inr h
  have hS : va_S A s.heap s.heap [] := va_S.rf
  have hl := lv_entry ([.ref a0, .int p1, .double p2]) (n := 6) (Nat.le_of_ble_eq_true rfl)
  rw [lg_entry_eq]
  generalize (lg_sl ([.ref a0, .int p1, .double p2]) ++ List.replicate (6 - (lg_sl ([.ref a0, .int p1, .double p2])).length) Slot.unset).toArray = ls at hl ⊢
  have hl : lv_has ls 6 [(0, .ref a0), (1, .int p1), (2, .double p2)] := hl
  refine lv_aload_n hx hb dX0_grind_0 rfl (lv_at hl 0 rfl) ?_
  refine va_get (D := G.1) (ci := 0) (v := .ref b5) (C := RX0) (T := TX0) (N := 7) hx hb hts hiX0 hown hK hP 0 rfl rfl 5 (by decide) (hts (.fieldLink RX0 27 "TideMill$Lots" "left" "[D") (List.mem_of_getElem? (i := 1) rfl)) (fun _ h9 => h9) rfl dX0_grind_1 ?_
  refine lv_iload_n hx hb dX0_grind_4 rfl (lv_at hl 1 rfl) ?_
  refine va_dald (n := 10) (f := le) hx hb hK hP 6 1 rfl rfl n_1 dX0_grind_5 ?_
  refine lv_dload_n hx hb dX0_grind_6 rfl (lv_at hl 2 rfl) ?_
  refine lv_aload_n hx hb dX0_grind_7 rfl (lv_at hl 0 rfl) ?_
  refine va_get (D := G.1) (ci := 0) (v := .ref b1) (C := RX0) (T := TX0) (N := 7) hx hb hts hiX0 hown hK hP 0 rfl rfl 1 (by decide) (hts (.fieldLink RX0 15 "TideMill$Lots" "grain" "[I") (List.mem_of_getElem? (i := 2) rfl)) (fun _ h9 => h9) rfl dX0_grind_8 ?_
  refine lv_iload_n hx hb dX0_grind_11 rfl (lv_at hl 1 rfl) ?_
  refine va_iald (n := 10) (f := gr) hx hb hK hP 2 0 rfl rfl n_1 dX0_grind_12 ?_
  have hPc := hP.sub (ws' := []) [] rfl
  have hDc := hD.sub (ws' := []) [] (by decide) rfl
  have hFc := va_free (wc := []) hD hS hA [] rfl
  refine va_calld (va_runSN (As := [.int (gr p1.toNatClampNeg)]) (rest := [.double p2, .double (le p1.toNatClampNeg)]) ⟨hx, hb, hml, hown, hts⟩ (c_X5_paceOf l G  s.heap.size (gr p1.toNatClampNeg) ) ⟨va_cnB 1 hts gX0_grind_X5_paceOf_n41 rfl rfl rfl (tm_N_X0_41 hN) (hts (.initialized RX5) (List.mem_of_getElem? (i := 5) rfl)) (by decide +kernel) ⟨(Nat.le_of_ble_eq_true rfl), (Nat.le_of_ble_eq_true rfl)⟩, (hts (.static yX5_paceOf) (List.mem_of_getElem? (i := 4) rfl)), trivial⟩ (tm_preS hK hN hV hS hPc hDc hFc) rfl rfl hl.1 rfl (lv_room (Nat.le_of_ble_eq_true rfl)) dX0_grind_13 ⟨(Nat.le_of_ble_eq_true rfl), (Nat.le_of_ble_eq_true rfl)⟩) hS (fun q _ h => hFc q h) hFc (fun r_2 u t H locs ht hvm hw_2 hB hz1 hk1 hS => ?_)
  obtain ⟨hP1, hD1⟩ := hB
  rw [ht] at hP1
  try dsimp only at hw_2
  obtain ⟨hP, hD⟩ := va_join (wr := [tc_X0 a0 b0 b1 b2 b3 b4 b5 ln, tc_I G b0 10 ow, tc_I G b1 10 gr, tc_I G b2 10 we, tc_I G b3 10 du, tc_I G b4 10 sa, tc_D G b5 10 le]) (w1 := []) hP hD [] [0, 1, 2, 3, 4, 5, 6] rfl rfl (by decide) (by decide) hk1 hFc hP1 hD1
  have hP : va_P G.1 vwCl [tc_X0 a0 b0 b1 b2 b3 b4 b5 ln, tc_I G b0 10 ow, tc_I G b1 10 gr, tc_I G b2 10 we, tc_I G b3 10 du, tc_I G b4 10 sa, tc_D G b5 10 le] H := hP
  have hD : va_D A [tc_X0 a0 b0 b1 b2 b3 b4 b5 ln, tc_I G b0 10 ow, tc_I G b1 10 gr, tc_I G b2 10 we, tc_I G b3 10 du, tc_I G b4 10 sa, tc_D G b5 10 le] := hD
  subst hw_2
  refine lv_dmul hx hb dX0_grind_16 n_3 ?_
  refine lv_dsub hx hb dX0_grind_17 n_4 ?_
  refine lv_dstore (lv' := [(4, .double (FP.dsub (le p1.toNatClampNeg) (FP.dmul p2 (f_X5_paceOf (gr p1.toNatClampNeg))))), (0, .ref a0), (1, .int p1), (2, .double p2)]) hx hb dX0_grind_18 hl (by decide) rfl (fun ls hl => ?_)
  refine lv_aload_n hx hb dX0_grind_20 rfl (lv_at hl 1 rfl) ?_
  refine va_get (D := G.1) (ci := 0) (v := .ref b5) (C := RX0) (T := TX0) (N := 7) hx hb hts hiX0 hown hK hP 0 rfl rfl 5 (by decide) (hts (.fieldLink RX0 27 "TideMill$Lots" "left" "[D") (List.mem_of_getElem? (i := 1) rfl)) (fun _ h9 => h9) rfl dX0_grind_21 ?_
  refine lv_iload_n hx hb dX0_grind_24 rfl (lv_at hl 2 rfl) ?_
  refine lv_dload hx hb dX0_grind_25 (lv_at hl 0 rfl) ?_
  refine lv_dconst0 hx hb dX0_grind_27 ?_
  refine lv_dcmp hx hb dX0_grind_28 ?_
  refine lv_if_ge (tgt := 36) hx hb dX0_grind_29 (by decide) (fun c_5 => ?_) (fun c_5 => ?_)
  · refine lv_dload hx hb dX0_grind_36 (lv_at hl 0 rfl) ?_
    refine va_dast (n := 10) (f := le) hx hb hK hP hD hS 6 1 rfl rfl n_1 dX0_grind_38 (fun H locs hP hD hS => ?_)
    have hP : va_P G.1 vwCl [tc_X0 a0 b0 b1 b2 b3 b4 b5 ln, tc_I G b0 10 ow, tc_I G b1 10 gr, tc_I G b2 10 we, tc_I G b3 10 du, tc_I G b4 10 sa, tc_D G b5 10 (vf_upd le p1.toNatClampNeg (FP.dsub (le p1.toNatClampNeg) (FP.dmul p2 (f_X5_paceOf (gr p1.toNatClampNeg)))))] H := hP
    have hD : va_D A [tc_X0 a0 b0 b1 b2 b3 b4 b5 ln, tc_I G b0 10 ow, tc_I G b1 10 gr, tc_I G b2 10 we, tc_I G b3 10 du, tc_I G b4 10 sa, tc_D G b5 10 (vf_upd le p1.toNatClampNeg (FP.dsub (le p1.toNatClampNeg) (FP.dmul p2 (f_X5_paceOf (gr p1.toNatClampNeg)))))] := hD
    refine lv_aload_n hx hb dX0_grind_39 rfl (lv_at hl 1 rfl) ?_
    refine va_get (D := G.1) (ci := 0) (v := .ref b5) (C := RX0) (T := TX0) (N := 7) hx hb hts hiX0 hown hK hP 0 rfl rfl 5 (by decide) (hts (.fieldLink RX0 27 "TideMill$Lots" "left" "[D") (List.mem_of_getElem? (i := 1) rfl)) (fun _ h9 => h9) rfl dX0_grind_40 ?_
    refine lv_iload_n hx hb dX0_grind_43 rfl (lv_at hl 2 rfl) ?_
    refine va_dald (n := 10) (f := vf_upd le p1.toNatClampNeg (FP.dsub (le p1.toNatClampNeg) (FP.dmul p2 (f_X5_paceOf (gr p1.toNatClampNeg))))) hx hb hK hP 6 1 rfl rfl n_1 dX0_grind_44 ?_
    refine lv_dconst0 hx hb dX0_grind_45 ?_
    refine lv_dcmp hx hb dX0_grind_46 ?_
    refine lv_if_ne (tgt := 57) hx hb dX0_grind_47 (by decide) (fun c_6 => ?_) (fun c_6 => ?_)
    · have hP9 := hP.sub (ws' := [tc_X0 a0 b0 b1 b2 b3 b4 b5 ln, tc_I G b0 10 ow, tc_I G b1 10 gr, tc_I G b2 10 we, tc_I G b3 10 du, tc_I G b4 10 sa, tc_D G b5 10 (vf_upd le p1.toNatClampNeg (FP.dsub (le p1.toNatClampNeg) (FP.dmul p2 (f_X5_paceOf (gr p1.toNatClampNeg)))))]) [0, 1, 2, 3, 4, 5, 6] rfl
      have hD9 := hD.sub (ws' := [tc_X0 a0 b0 b1 b2 b3 b4 b5 ln, tc_I G b0 10 ow, tc_I G b1 10 gr, tc_I G b2 10 we, tc_I G b3 10 du, tc_I G b4 10 sa, tc_D G b5 10 (vf_upd le p1.toNatClampNeg (FP.dsub (le p1.toNatClampNeg) (FP.dmul p2 (f_X5_paceOf (gr p1.toNatClampNeg)))))]) [0, 1, 2, 3, 4, 5, 6] (by decide) rfl
      exact W.vret hx hb hr (fun t ht hW => ⟨⟨(sa, vf_upd le p1.toNatClampNeg (FP.dsub (le p1.toNatClampNeg) (FP.dmul p2 (f_X5_paceOf (gr p1.toNatClampNeg))))), rfl, by unfold f_X0_grind; all_goals (rw [if_pos c_5]); all_goals (rw [if_neg c_6]); all_goals rfl, by rw [ht]; exact hP9, hD9⟩, hS.F ht⟩) hS.2.2 dX0_grind_57
    · refine lv_aload_n hx hb dX0_grind_50 rfl (lv_at hl 1 rfl) ?_
      refine va_get (D := G.1) (ci := 0) (v := .ref b4) (C := RX0) (T := TX0) (N := 7) hx hb hts hiX0 hown hK hP 0 rfl rfl 4 (by decide) (hts (.fieldLink RX0 24 "TideMill$Lots" "state" "[I") (List.mem_of_getElem? (i := 3) rfl)) (fun _ h9 => h9) rfl dX0_grind_51 ?_
      refine lv_iload_n hx hb dX0_grind_54 rfl (lv_at hl 2 rfl) ?_
      refine lv_iconst (v := 2) hx hb dX0_grind_55 (by decide) ?_
      refine va_iast (n := 10) (f := sa) hx hb hK hP hD hS 5 0 rfl rfl n_1 dX0_grind_56 (fun H locs hP hD hS => ?_)
      have hP : va_P G.1 vwCl [tc_X0 a0 b0 b1 b2 b3 b4 b5 ln, tc_I G b0 10 ow, tc_I G b1 10 gr, tc_I G b2 10 we, tc_I G b3 10 du, tc_I G b4 10 (upd sa p1.toNatClampNeg 2), tc_D G b5 10 (vf_upd le p1.toNatClampNeg (FP.dsub (le p1.toNatClampNeg) (FP.dmul p2 (f_X5_paceOf (gr p1.toNatClampNeg)))))] H := hP
      have hD : va_D A [tc_X0 a0 b0 b1 b2 b3 b4 b5 ln, tc_I G b0 10 ow, tc_I G b1 10 gr, tc_I G b2 10 we, tc_I G b3 10 du, tc_I G b4 10 (upd sa p1.toNatClampNeg 2), tc_D G b5 10 (vf_upd le p1.toNatClampNeg (FP.dsub (le p1.toNatClampNeg) (FP.dmul p2 (f_X5_paceOf (gr p1.toNatClampNeg)))))] := hD
      have hP9 := hP.sub (ws' := [tc_X0 a0 b0 b1 b2 b3 b4 b5 ln, tc_I G b0 10 ow, tc_I G b1 10 gr, tc_I G b2 10 we, tc_I G b3 10 du, tc_I G b4 10 (upd sa p1.toNatClampNeg 2), tc_D G b5 10 (vf_upd le p1.toNatClampNeg (FP.dsub (le p1.toNatClampNeg) (FP.dmul p2 (f_X5_paceOf (gr p1.toNatClampNeg)))))]) [0, 1, 2, 3, 4, 5, 6] rfl
      have hD9 := hD.sub (ws' := [tc_X0 a0 b0 b1 b2 b3 b4 b5 ln, tc_I G b0 10 ow, tc_I G b1 10 gr, tc_I G b2 10 we, tc_I G b3 10 du, tc_I G b4 10 (upd sa p1.toNatClampNeg 2), tc_D G b5 10 (vf_upd le p1.toNatClampNeg (FP.dsub (le p1.toNatClampNeg) (FP.dmul p2 (f_X5_paceOf (gr p1.toNatClampNeg)))))]) [0, 1, 2, 3, 4, 5, 6] (by decide) rfl
      exact W.vret hx hb hr (fun t ht hW => ⟨⟨(upd sa p1.toNatClampNeg 2, vf_upd le p1.toNatClampNeg (FP.dsub (le p1.toNatClampNeg) (FP.dmul p2 (f_X5_paceOf (gr p1.toNatClampNeg))))), rfl, by unfold f_X0_grind; all_goals (rw [if_pos c_5]); all_goals (rw [if_pos c_6]); all_goals rfl, by rw [ht]; exact hP9, hD9⟩, hS.F ht⟩) hS.2.2 dX0_grind_57
  · refine lv_dconst0 hx hb dX0_grind_32 ?_
    refine lv_goto (tgt := 38) hx hb dX0_grind_33 (by decide) ?_
    refine va_dast (n := 10) (f := le) hx hb hK hP hD hS 6 1 rfl rfl n_1 dX0_grind_38 (fun H locs hP hD hS => ?_)
    have hP : va_P G.1 vwCl [tc_X0 a0 b0 b1 b2 b3 b4 b5 ln, tc_I G b0 10 ow, tc_I G b1 10 gr, tc_I G b2 10 we, tc_I G b3 10 du, tc_I G b4 10 sa, tc_D G b5 10 (vf_upd le p1.toNatClampNeg FP.dconst0)] H := hP
    have hD : va_D A [tc_X0 a0 b0 b1 b2 b3 b4 b5 ln, tc_I G b0 10 ow, tc_I G b1 10 gr, tc_I G b2 10 we, tc_I G b3 10 du, tc_I G b4 10 sa, tc_D G b5 10 (vf_upd le p1.toNatClampNeg FP.dconst0)] := hD
    refine lv_aload_n hx hb dX0_grind_39 rfl (lv_at hl 1 rfl) ?_
    refine va_get (D := G.1) (ci := 0) (v := .ref b5) (C := RX0) (T := TX0) (N := 7) hx hb hts hiX0 hown hK hP 0 rfl rfl 5 (by decide) (hts (.fieldLink RX0 27 "TideMill$Lots" "left" "[D") (List.mem_of_getElem? (i := 1) rfl)) (fun _ h9 => h9) rfl dX0_grind_40 ?_
    refine lv_iload_n hx hb dX0_grind_43 rfl (lv_at hl 2 rfl) ?_
    refine va_dald (n := 10) (f := vf_upd le p1.toNatClampNeg FP.dconst0) hx hb hK hP 6 1 rfl rfl n_1 dX0_grind_44 ?_
    refine lv_dconst0 hx hb dX0_grind_45 ?_
    refine lv_dcmp hx hb dX0_grind_46 ?_
    refine lv_if_ne (tgt := 57) hx hb dX0_grind_47 (by decide) (fun c_7 => ?_) (fun c_7 => ?_)
    · have hP9 := hP.sub (ws' := [tc_X0 a0 b0 b1 b2 b3 b4 b5 ln, tc_I G b0 10 ow, tc_I G b1 10 gr, tc_I G b2 10 we, tc_I G b3 10 du, tc_I G b4 10 sa, tc_D G b5 10 (vf_upd le p1.toNatClampNeg FP.dconst0)]) [0, 1, 2, 3, 4, 5, 6] rfl
      have hD9 := hD.sub (ws' := [tc_X0 a0 b0 b1 b2 b3 b4 b5 ln, tc_I G b0 10 ow, tc_I G b1 10 gr, tc_I G b2 10 we, tc_I G b3 10 du, tc_I G b4 10 sa, tc_D G b5 10 (vf_upd le p1.toNatClampNeg FP.dconst0)]) [0, 1, 2, 3, 4, 5, 6] (by decide) rfl
      exact W.vret hx hb hr (fun t ht hW => ⟨⟨(sa, vf_upd le p1.toNatClampNeg FP.dconst0), rfl, by unfold f_X0_grind; all_goals (rw [if_neg c_5]); all_goals (rw [if_neg c_7]); all_goals rfl, by rw [ht]; exact hP9, hD9⟩, hS.F ht⟩) hS.2.2 dX0_grind_57
    · refine lv_aload_n hx hb dX0_grind_50 rfl (lv_at hl 1 rfl) ?_
      refine va_get (D := G.1) (ci := 0) (v := .ref b4) (C := RX0) (T := TX0) (N := 7) hx hb hts hiX0 hown hK hP 0 rfl rfl 4 (by decide) (hts (.fieldLink RX0 24 "TideMill$Lots" "state" "[I") (List.mem_of_getElem? (i := 3) rfl)) (fun _ h9 => h9) rfl dX0_grind_51 ?_
      refine lv_iload_n hx hb dX0_grind_54 rfl (lv_at hl 2 rfl) ?_
      refine lv_iconst (v := 2) hx hb dX0_grind_55 (by decide) ?_
      refine va_iast (n := 10) (f := sa) hx hb hK hP hD hS 5 0 rfl rfl n_1 dX0_grind_56 (fun H locs hP hD hS => ?_)
      have hP : va_P G.1 vwCl [tc_X0 a0 b0 b1 b2 b3 b4 b5 ln, tc_I G b0 10 ow, tc_I G b1 10 gr, tc_I G b2 10 we, tc_I G b3 10 du, tc_I G b4 10 (upd sa p1.toNatClampNeg 2), tc_D G b5 10 (vf_upd le p1.toNatClampNeg FP.dconst0)] H := hP
      have hD : va_D A [tc_X0 a0 b0 b1 b2 b3 b4 b5 ln, tc_I G b0 10 ow, tc_I G b1 10 gr, tc_I G b2 10 we, tc_I G b3 10 du, tc_I G b4 10 (upd sa p1.toNatClampNeg 2), tc_D G b5 10 (vf_upd le p1.toNatClampNeg FP.dconst0)] := hD
      have hP9 := hP.sub (ws' := [tc_X0 a0 b0 b1 b2 b3 b4 b5 ln, tc_I G b0 10 ow, tc_I G b1 10 gr, tc_I G b2 10 we, tc_I G b3 10 du, tc_I G b4 10 (upd sa p1.toNatClampNeg 2), tc_D G b5 10 (vf_upd le p1.toNatClampNeg FP.dconst0)]) [0, 1, 2, 3, 4, 5, 6] rfl
      have hD9 := hD.sub (ws' := [tc_X0 a0 b0 b1 b2 b3 b4 b5 ln, tc_I G b0 10 ow, tc_I G b1 10 gr, tc_I G b2 10 we, tc_I G b3 10 du, tc_I G b4 10 (upd sa p1.toNatClampNeg 2), tc_D G b5 10 (vf_upd le p1.toNatClampNeg FP.dconst0)]) [0, 1, 2, 3, 4, 5, 6] (by decide) rfl
      exact W.vret hx hb hr (fun t ht hW => ⟨⟨(upd sa p1.toNatClampNeg 2, vf_upd le p1.toNatClampNeg FP.dconst0), rfl, by unfold f_X0_grind; all_goals (rw [if_neg c_5]); all_goals (rw [if_pos c_7]); all_goals rfl, by rw [ht]; exact hP9, hD9⟩, hS.F ht⟩) hS.2.2 dX0_grind_57
set_option maxHeartbeats 4000000 in
set_option maxRecDepth 100000 in
theorem c_X2_has (l : Launch) (G : tm_G) (a0 : Nat) (d0 : Nat) (d1 : Nat) (d2 : Nat) (d3 : Nat) (sz : Nat) (pn : Int32) (dl : Nat → UInt32) (pl : Nat → Int32) (dr : Nat → Int32) (sp : Nat → Int32) (p1 : Int32) : Met l yX2_has wsX2_has ({ frames := 0, cells := 0, slots := 0, locals := 0 }) (va_Pc [.ref a0, .int p1] (tm_B G [tc_X2 a0 d0 d1 d2 d3 pn, tc_F G d0 3 dl, tc_I G d1 3 pl, tc_I G d2 3 dr, tc_I G d3 3 sp] sz)) (va_Qi (fun (r : Int32) (u : Unit) => r = f_X2_has pn p1) (fun (u : Unit) (t : State) => va_P G.1 vwCl [tc_X2 a0 d0 d1 d2 d3 pn, tc_F G d0 3 dl, tc_I G d1 3 pl, tc_I G d2 3 dr, tc_I G d3 3 sp] t.heap ∧ va_D (va_A [tc_X2 a0 d0 d1 d2 d3 pn, tc_F G d0 3 dl, tc_I G d1 3 pl, tc_I G d2 3 dr, tc_I G d3 3 sp] sz) [tc_X2 a0 d0 d1 d2 d3 pn, tc_F G d0 3 dl, tc_I G d1 3 pl, tc_I G d2 3 dr, tc_I G d3 3 sp]) (va_A [tc_X2 a0 d0 d1 d2 d3 pn, tc_F G d0 3 dl, tc_I G d1 3 pl, tc_I G d2 3 dr, tc_I G d3 3 sp] sz)) 0 0 (va_A [tc_X2 a0 d0 d1 d2 d3 pn, tc_F G d0 3 dl, tc_I G d1 3 pl, tc_I G d2 3 dr, tc_I G d3 3 sp] sz) := by
  refine Met.ofW (cc := cX2_has) (maxL := 2) (ret := (some .boolean)) (by decide) rfl ?_
  intro p e s m args below meth c s₁ B hml hv
  obtain ⟨rfl, hsz, hP, hK, hD0, hN, hV⟩ := hv
  have hx := B.exec
  have hb := B.bytes
  have hr := B.returns
  have hts := atoms_spec (ws := wsX2_has) B.pre
  have hown : s.vm.findClass RX2 = some m.cls := findClass_of_methodNamed B.named
  have hlocks := B.notSynchronized
  subst hsz
  have hiX2 : ∀ w ∈ u_ws RX2 TX2 5, w ∈ wsX2_has := fun _ h => List.mem_cons_of_mem _ (List.mem_append_right _ h)
  have hD := hD0.self (sz := s.heap.size)
  generalize hAe : va_A [tc_X2 a0 d0 d1 d2 d3 pn, tc_F G d0 3 dl, tc_I G d1 3 pl, tc_I G d2 3 dr, tc_I G d3 3 sp] s.heap.size = A at hD hV ⊢
  have hA : ∀ q : Nat, s.heap.size ≤ q → A q := fun q h => by rw [← hAe]; exact Or.inr h
  have hS : va_S A s.heap s.heap [] := va_S.rf
  have hl := lv_entry ([.ref a0, .int p1]) (n := 2) (Nat.le_of_ble_eq_true rfl)
  rw [lg_entry_eq]
  generalize (lg_sl ([.ref a0, .int p1]) ++ List.replicate (2 - (lg_sl ([.ref a0, .int p1])).length) Slot.unset).toArray = ls at hl ⊢
  have hl : lv_has ls 2 [(0, .ref a0), (1, .int p1)] := hl
  refine lv_iload_n hx hb dX2_has_0 rfl (lv_at hl 1 rfl) ?_
  refine lv_if_lt (tgt := 16) hx hb dX2_has_1 (by decide) (fun c_1 => ?_) (fun c_1 => ?_)
  · refine lv_iconst (v := 0) hx hb dX2_has_16 (by decide) ?_
    have hP9 := hP.sub (ws' := [tc_X2 a0 d0 d1 d2 d3 pn, tc_F G d0 3 dl, tc_I G d1 3 pl, tc_I G d2 3 dr, tc_I G d3 3 sp]) [0, 1, 2, 3, 4] rfl
    have hD9 := hD.sub (ws' := [tc_X2 a0 d0 d1 d2 d3 pn, tc_F G d0 3 dl, tc_I G d1 3 pl, tc_I G d2 3 dr, tc_I G d3 3 sp]) [0, 1, 2, 3, 4] (by decide) rfl
    exact W.zret (v := 0) hx hb hr rfl (fun t ht hW => ⟨⟨0, (), rfl, by unfold f_X2_has; all_goals (rw [if_pos c_1]); all_goals rfl, by rw [ht]; exact hP9, hD9⟩, hS.F ht⟩) hS.2.2 dX2_has_17
  · refine lv_iload_n hx hb dX2_has_4 rfl (lv_at hl 1 rfl) ?_
    refine lv_aload_n hx hb dX2_has_5 rfl (lv_at hl 0 rfl) ?_
    refine va_get (D := G.1) (ci := 2) (v := .int pn) (C := RX2) (T := TX2) (N := 5) hx hb hts hiX2 hown hK hP 0 rfl rfl 4 (by decide) (hts (.fieldLink RX2 31 "TideMill$Pairs" "count" "I") (List.mem_of_getElem? (i := 1) rfl)) (fun _ h9 => h9) rfl dX2_has_6 ?_
    refine lv_icmp_ge (tgt := 16) hx hb dX2_has_9 (by decide) (fun c_2 => ?_) (fun c_2 => ?_)
    · refine lv_iconst (v := 0) hx hb dX2_has_16 (by decide) ?_
      have hP9 := hP.sub (ws' := [tc_X2 a0 d0 d1 d2 d3 pn, tc_F G d0 3 dl, tc_I G d1 3 pl, tc_I G d2 3 dr, tc_I G d3 3 sp]) [0, 1, 2, 3, 4] rfl
      have hD9 := hD.sub (ws' := [tc_X2 a0 d0 d1 d2 d3 pn, tc_F G d0 3 dl, tc_I G d1 3 pl, tc_I G d2 3 dr, tc_I G d3 3 sp]) [0, 1, 2, 3, 4] (by decide) rfl
      exact W.zret (v := 0) hx hb hr rfl (fun t ht hW => ⟨⟨0, (), rfl, by unfold f_X2_has; all_goals (rw [if_neg c_1]); all_goals (rw [if_pos c_2]); all_goals rfl, by rw [ht]; exact hP9, hD9⟩, hS.F ht⟩) hS.2.2 dX2_has_17
    · refine lv_iconst (v := 1) hx hb dX2_has_12 (by decide) ?_
      refine lv_goto (tgt := 17) hx hb dX2_has_13 (by decide) ?_
      have hP9 := hP.sub (ws' := [tc_X2 a0 d0 d1 d2 d3 pn, tc_F G d0 3 dl, tc_I G d1 3 pl, tc_I G d2 3 dr, tc_I G d3 3 sp]) [0, 1, 2, 3, 4] rfl
      have hD9 := hD.sub (ws' := [tc_X2 a0 d0 d1 d2 d3 pn, tc_F G d0 3 dl, tc_I G d1 3 pl, tc_I G d2 3 dr, tc_I G d3 3 sp]) [0, 1, 2, 3, 4] (by decide) rfl
      exact W.zret (v := 1) hx hb hr rfl (fun t ht hW => ⟨⟨1, (), rfl, by unfold f_X2_has; all_goals (rw [if_neg c_1]); all_goals (rw [if_neg c_2]); all_goals rfl, by rw [ht]; exact hP9, hD9⟩, hS.F ht⟩) hS.2.2 dX2_has_17
set_option maxHeartbeats 4000000 in
set_option maxRecDepth 100000 in
theorem c_X2_isFree (l : Launch) (G : tm_G) (a0 : Nat) (d0 : Nat) (d1 : Nat) (d2 : Nat) (d3 : Nat) (sz : Nat) (pn : Int32) (dl : Nat → UInt32) (pl : Nat → Int32) (dr : Nat → Int32) (sp : Nat → Int32) (p1 : Int32) (hn : n_X2_isFree p1) : Met l yX2_isFree wsX2_isFree ({ frames := 0, cells := 0, slots := 0, locals := 0 }) (va_Pc [.ref a0, .int p1] (tm_B G [tc_X2 a0 d0 d1 d2 d3 pn, tc_F G d0 3 dl, tc_I G d1 3 pl, tc_I G d2 3 dr, tc_I G d3 3 sp] sz)) (va_Qi (fun (r : Int32) (u : Unit) => r = f_X2_isFree pl dr p1) (fun (u : Unit) (t : State) => va_P G.1 vwCl [tc_X2 a0 d0 d1 d2 d3 pn, tc_F G d0 3 dl, tc_I G d1 3 pl, tc_I G d2 3 dr, tc_I G d3 3 sp] t.heap ∧ va_D (va_A [tc_X2 a0 d0 d1 d2 d3 pn, tc_F G d0 3 dl, tc_I G d1 3 pl, tc_I G d2 3 dr, tc_I G d3 3 sp] sz) [tc_X2 a0 d0 d1 d2 d3 pn, tc_F G d0 3 dl, tc_I G d1 3 pl, tc_I G d2 3 dr, tc_I G d3 3 sp]) (va_A [tc_X2 a0 d0 d1 d2 d3 pn, tc_F G d0 3 dl, tc_I G d1 3 pl, tc_I G d2 3 dr, tc_I G d3 3 sp] sz)) 0 0 (va_A [tc_X2 a0 d0 d1 d2 d3 pn, tc_F G d0 3 dl, tc_I G d1 3 pl, tc_I G d2 3 dr, tc_I G d3 3 sp] sz) := by
  refine Met.ofW (cc := cX2_isFree) (maxL := 2) (ret := (some .boolean)) (by decide) rfl ?_
  intro p e s m args below meth c s₁ B hml hv
  obtain ⟨rfl, hsz, hP, hK, hD0, hN, hV⟩ := hv
  have hx := B.exec
  have hb := B.bytes
  have hr := B.returns
  have hts := atoms_spec (ws := wsX2_isFree) B.pre
  have hown : s.vm.findClass RX2 = some m.cls := findClass_of_methodNamed B.named
  have hlocks := B.notSynchronized
  subst hsz
  have n_1 := hn
  unfold n_X2_isFree at n_1
  have hiX2 : ∀ w ∈ u_ws RX2 TX2 5, w ∈ wsX2_isFree := fun _ h => List.mem_cons_of_mem _ (List.mem_append_right _ h)
  have hD := hD0.self (sz := s.heap.size)
  generalize hAe : va_A [tc_X2 a0 d0 d1 d2 d3 pn, tc_F G d0 3 dl, tc_I G d1 3 pl, tc_I G d2 3 dr, tc_I G d3 3 sp] s.heap.size = A at hD hV ⊢
  have hA : ∀ q : Nat, s.heap.size ≤ q → A q := fun q h => by rw [← hAe]; exact Or.inr h
  have hS : va_S A s.heap s.heap [] := va_S.rf
  have hl := lv_entry ([.ref a0, .int p1]) (n := 2) (Nat.le_of_ble_eq_true rfl)
  rw [lg_entry_eq]
  generalize (lg_sl ([.ref a0, .int p1]) ++ List.replicate (2 - (lg_sl ([.ref a0, .int p1])).length) Slot.unset).toArray = ls at hl ⊢
  have hl : lv_has ls 2 [(0, .ref a0), (1, .int p1)] := hl
  refine lv_aload_n hx hb dX2_isFree_0 rfl (lv_at hl 0 rfl) ?_
  refine va_get (D := G.1) (ci := 2) (v := .ref d1) (C := RX2) (T := TX2) (N := 5) hx hb hts hiX2 hown hK hP 0 rfl rfl 1 (by decide) (hts (.fieldLink RX2 15 "TideMill$Pairs" "lot" "[I") (List.mem_of_getElem? (i := 1) rfl)) (fun _ h9 => h9) rfl dX2_isFree_1 ?_
  refine lv_iload_n hx hb dX2_isFree_4 rfl (lv_at hl 1 rfl) ?_
  refine va_iald (n := 3) (f := pl) hx hb hK hP 2 0 rfl rfl n_1 dX2_isFree_5 ?_
  refine lv_iconst (v := (-1)) hx hb dX2_isFree_6 (by decide) ?_
  refine lv_icmp_ne (tgt := 23) hx hb dX2_isFree_7 (by decide) (fun c_2 => ?_) (fun c_2 => ?_)
  · refine lv_iconst (v := 0) hx hb dX2_isFree_23 (by decide) ?_
    have hP9 := hP.sub (ws' := [tc_X2 a0 d0 d1 d2 d3 pn, tc_F G d0 3 dl, tc_I G d1 3 pl, tc_I G d2 3 dr, tc_I G d3 3 sp]) [0, 1, 2, 3, 4] rfl
    have hD9 := hD.sub (ws' := [tc_X2 a0 d0 d1 d2 d3 pn, tc_F G d0 3 dl, tc_I G d1 3 pl, tc_I G d2 3 dr, tc_I G d3 3 sp]) [0, 1, 2, 3, 4] (by decide) rfl
    exact W.zret (v := 0) hx hb hr rfl (fun t ht hW => ⟨⟨0, (), rfl, by unfold f_X2_isFree; all_goals (rw [if_neg c_2]); all_goals rfl, by rw [ht]; exact hP9, hD9⟩, hS.F ht⟩) hS.2.2 dX2_isFree_24
  · refine lv_aload_n hx hb dX2_isFree_10 rfl (lv_at hl 0 rfl) ?_
    refine va_get (D := G.1) (ci := 2) (v := .ref d2) (C := RX2) (T := TX2) (N := 5) hx hb hts hiX2 hown hK hP 0 rfl rfl 2 (by decide) (hts (.fieldLink RX2 19 "TideMill$Pairs" "dressing" "[I") (List.mem_of_getElem? (i := 2) rfl)) (fun _ h9 => h9) rfl dX2_isFree_11 ?_
    refine lv_iload_n hx hb dX2_isFree_14 rfl (lv_at hl 1 rfl) ?_
    refine va_iald (n := 3) (f := dr) hx hb hK hP 3 0 rfl rfl n_1 dX2_isFree_15 ?_
    refine lv_if_ne (tgt := 23) hx hb dX2_isFree_16 (by decide) (fun c_3 => ?_) (fun c_3 => ?_)
    · refine lv_iconst (v := 0) hx hb dX2_isFree_23 (by decide) ?_
      have hP9 := hP.sub (ws' := [tc_X2 a0 d0 d1 d2 d3 pn, tc_F G d0 3 dl, tc_I G d1 3 pl, tc_I G d2 3 dr, tc_I G d3 3 sp]) [0, 1, 2, 3, 4] rfl
      have hD9 := hD.sub (ws' := [tc_X2 a0 d0 d1 d2 d3 pn, tc_F G d0 3 dl, tc_I G d1 3 pl, tc_I G d2 3 dr, tc_I G d3 3 sp]) [0, 1, 2, 3, 4] (by decide) rfl
      exact W.zret (v := 0) hx hb hr rfl (fun t ht hW => ⟨⟨0, (), rfl, by unfold f_X2_isFree; all_goals (rw [if_pos c_2]); all_goals (rw [if_neg c_3]); all_goals rfl, by rw [ht]; exact hP9, hD9⟩, hS.F ht⟩) hS.2.2 dX2_isFree_24
    · refine lv_iconst (v := 1) hx hb dX2_isFree_19 (by decide) ?_
      refine lv_goto (tgt := 24) hx hb dX2_isFree_20 (by decide) ?_
      have hP9 := hP.sub (ws' := [tc_X2 a0 d0 d1 d2 d3 pn, tc_F G d0 3 dl, tc_I G d1 3 pl, tc_I G d2 3 dr, tc_I G d3 3 sp]) [0, 1, 2, 3, 4] rfl
      have hD9 := hD.sub (ws' := [tc_X2 a0 d0 d1 d2 d3 pn, tc_F G d0 3 dl, tc_I G d1 3 pl, tc_I G d2 3 dr, tc_I G d3 3 sp]) [0, 1, 2, 3, 4] (by decide) rfl
      exact W.zret (v := 1) hx hb hr rfl (fun t ht hW => ⟨⟨1, (), rfl, by unfold f_X2_isFree; all_goals (rw [if_pos c_2]); all_goals (rw [if_pos c_3]); all_goals rfl, by rw [ht]; exact hP9, hD9⟩, hS.F ht⟩) hS.2.2 dX2_isFree_24
set_option maxHeartbeats 4000000 in
set_option maxRecDepth 100000 in
theorem c_X2_lay (l : Launch) (G : tm_G) (a0 : Nat) (d0 : Nat) (d1 : Nat) (d2 : Nat) (d3 : Nat) (sz : Nat) (pn : Int32) (dl : Nat → UInt32) (pl : Nat → Int32) (dr : Nat → Int32) (sp : Nat → Int32) (hn : n_X2_lay pn) : Met l yX2_lay wsX2_lay ({ frames := 0, cells := 0, slots := 0, locals := 0 }) (va_Pc [.ref a0] (tm_B G [tc_X2 a0 d0 d1 d2 d3 pn, tc_F G d0 3 dl, tc_I G d1 3 pl, tc_I G d2 3 dr, tc_I G d3 3 sp] sz)) (va_Qi (fun (r : Int32) (u : Int32 × (Nat → Int32)) => (r, u) = f_X2_lay pn pl) (fun (u : Int32 × (Nat → Int32)) (t : State) => va_P G.1 vwCl [tc_X2 a0 d0 d1 d2 d3 u.1, tc_F G d0 3 dl, tc_I G d1 3 u.2, tc_I G d2 3 dr, tc_I G d3 3 sp] t.heap ∧ va_D (va_A [tc_X2 a0 d0 d1 d2 d3 pn, tc_F G d0 3 dl, tc_I G d1 3 pl, tc_I G d2 3 dr, tc_I G d3 3 sp] sz) [tc_X2 a0 d0 d1 d2 d3 u.1, tc_F G d0 3 dl, tc_I G d1 3 u.2, tc_I G d2 3 dr, tc_I G d3 3 sp]) (va_A [tc_X2 a0 d0 d1 d2 d3 pn, tc_F G d0 3 dl, tc_I G d1 3 pl, tc_I G d2 3 dr, tc_I G d3 3 sp] sz)) 0 0 (va_A [tc_X2 a0 d0 d1 d2 d3 pn, tc_F G d0 3 dl, tc_I G d1 3 pl, tc_I G d2 3 dr, tc_I G d3 3 sp] sz) := by
  refine Met.ofW (cc := cX2_lay) (maxL := 2) (ret := (some .int)) (by decide) rfl ?_
  intro p e s m args below meth c s₁ B hml hv
  obtain ⟨rfl, hsz, hP, hK, hD0, hN, hV⟩ := hv
  have hx := B.exec
  have hb := B.bytes
  have hr := B.returns
  have hts := atoms_spec (ws := wsX2_lay) B.pre
  have hown : s.vm.findClass RX2 = some m.cls := findClass_of_methodNamed B.named
  have hlocks := B.notSynchronized
  subst hsz
  have n_1 := hn
  unfold n_X2_lay at n_1
  have hiX2 : ∀ w ∈ u_ws RX2 TX2 5, w ∈ wsX2_lay := fun _ h => List.mem_cons_of_mem _ (List.mem_append_right _ h)
  have hD := hD0.self (sz := s.heap.size)
  generalize hAe : va_A [tc_X2 a0 d0 d1 d2 d3 pn, tc_F G d0 3 dl, tc_I G d1 3 pl, tc_I G d2 3 dr, tc_I G d3 3 sp] s.heap.size = A at hD hV ⊢
  have hA : ∀ q : Nat, s.heap.size ≤ q → A q := fun q h => by rw [← hAe]; exact Or.inr h
  have hS : va_S A s.heap s.heap [] := va_S.rf
  have hl := lv_entry ([.ref a0]) (n := 2) (Nat.le_of_ble_eq_true rfl)
  rw [lg_entry_eq]
  generalize (lg_sl ([.ref a0]) ++ List.replicate (2 - (lg_sl ([.ref a0])).length) Slot.unset).toArray = ls at hl ⊢
  have hl : lv_has ls 2 [(0, .ref a0)] := hl
  refine lv_aload_n hx hb dX2_lay_0 rfl (lv_at hl 0 rfl) ?_
  refine va_get (D := G.1) (ci := 2) (v := .int pn) (C := RX2) (T := TX2) (N := 5) hx hb hts hiX2 hown hK hP 0 rfl rfl 4 (by decide) (hts (.fieldLink RX2 31 "TideMill$Pairs" "count" "I") (List.mem_of_getElem? (i := 1) rfl)) (fun _ h9 => h9) rfl dX2_lay_1 ?_
  refine lv_istore_n (lv' := [(1, .int pn), (0, .ref a0)]) hx hb dX2_lay_4 rfl hl (by decide) rfl (fun ls hl => ?_)
  refine lv_aload_n hx hb dX2_lay_5 rfl (lv_at hl 1 rfl) ?_
  refine va_get (D := G.1) (ci := 2) (v := .ref d1) (C := RX2) (T := TX2) (N := 5) hx hb hts hiX2 hown hK hP 0 rfl rfl 1 (by decide) (hts (.fieldLink RX2 15 "TideMill$Pairs" "lot" "[I") (List.mem_of_getElem? (i := 2) rfl)) (fun _ h9 => h9) rfl dX2_lay_6 ?_
  refine lv_iload_n hx hb dX2_lay_9 rfl (lv_at hl 0 rfl) ?_
  refine lv_iconst (v := (-1)) hx hb dX2_lay_10 (by decide) ?_
  refine va_iast (n := 3) (f := pl) hx hb hK hP hD hS 2 0 rfl rfl n_1 dX2_lay_11 (fun H locs hP hD hS => ?_)
  have hP : va_P G.1 vwCl [tc_X2 a0 d0 d1 d2 d3 pn, tc_F G d0 3 dl, tc_I G d1 3 (upd pl pn.toNatClampNeg (-1)), tc_I G d2 3 dr, tc_I G d3 3 sp] H := hP
  have hD : va_D A [tc_X2 a0 d0 d1 d2 d3 pn, tc_F G d0 3 dl, tc_I G d1 3 (upd pl pn.toNatClampNeg (-1)), tc_I G d2 3 dr, tc_I G d3 3 sp] := hD
  refine lv_aload_n hx hb dX2_lay_12 rfl (lv_at hl 1 rfl) ?_
  refine lv_dup hx hb dX2_lay_13 rfl ?_
  refine va_get (D := G.1) (ci := 2) (v := .int pn) (C := RX2) (T := TX2) (N := 5) hx hb hts hiX2 hown hK hP 0 rfl rfl 4 (by decide) (hts (.fieldLink RX2 31 "TideMill$Pairs" "count" "I") (List.mem_of_getElem? (i := 1) rfl)) (fun _ h9 => h9) rfl dX2_lay_14 ?_
  refine lv_iconst (v := 1) hx hb dX2_lay_17 (by decide) ?_
  refine lv_iadd hx hb dX2_lay_18 ?_
  refine va_put (D := G.1) (ci := 2) (v := .int (pn + 1)) (ty := .int) (C := RX2) (T := TX2) (N := 5) hx hb hts hiX2 tyX2 tyX2_ok nmX2 hown hK hP hD hS 0 rfl rfl 4 (by decide) (hts (.fieldLink RX2 31 "TideMill$Pairs" "count" "I") (List.mem_of_getElem? (i := 1) rfl)) (fun _ h9 => h9) rfl (by decide +kernel) rfl rfl (Nat.le_of_ble_eq_true rfl) dX2_lay_19 (fun H locs hP hD hS => ?_)
  have hP : va_P G.1 vwCl [tc_X2 a0 d0 d1 d2 d3 (pn + 1), tc_F G d0 3 dl, tc_I G d1 3 (upd pl pn.toNatClampNeg (-1)), tc_I G d2 3 dr, tc_I G d3 3 sp] H := hP
  have hD : va_D A [tc_X2 a0 d0 d1 d2 d3 (pn + 1), tc_F G d0 3 dl, tc_I G d1 3 (upd pl pn.toNatClampNeg (-1)), tc_I G d2 3 dr, tc_I G d3 3 sp] := hD
  refine lv_iload_n hx hb dX2_lay_22 rfl (lv_at hl 0 rfl) ?_
  have hP9 := hP.sub (ws' := [tc_X2 a0 d0 d1 d2 d3 (pn + 1), tc_F G d0 3 dl, tc_I G d1 3 (upd pl pn.toNatClampNeg (-1)), tc_I G d2 3 dr, tc_I G d3 3 sp]) [0, 1, 2, 3, 4] rfl
  have hD9 := hD.sub (ws' := [tc_X2 a0 d0 d1 d2 d3 (pn + 1), tc_F G d0 3 dl, tc_I G d1 3 (upd pl pn.toNatClampNeg (-1)), tc_I G d2 3 dr, tc_I G d3 3 sp]) [0, 1, 2, 3, 4] (by decide) rfl
  exact W.iret (v := pn) hx hb hr (fun t ht hW => ⟨⟨pn, (pn + 1, upd pl pn.toNatClampNeg (-1)), rfl, by unfold f_X2_lay; all_goals rfl, by rw [ht]; exact hP9, hD9⟩, hS.F ht⟩) hS.2.2 dX2_lay_23
set_option maxHeartbeats 4000000 in
set_option maxRecDepth 100000 in
theorem c_X2_dressOn (l : Launch) (G : tm_G) (a0 : Nat) (d0 : Nat) (d1 : Nat) (d2 : Nat) (d3 : Nat) (sz : Nat) (pn : Int32) (dl : Nat → UInt32) (pl : Nat → Int32) (dr : Nat → Int32) (sp : Nat → Int32) (p1 : Int32) (hn : n_X2_dressOn p1) : Met l yX2_dressOn wsX2_dressOn ({ frames := 0, cells := 0, slots := 0, locals := 0 }) (va_Pc [.ref a0, .int p1] (tm_B G [tc_X2 a0 d0 d1 d2 d3 pn, tc_F G d0 3 dl, tc_I G d1 3 pl, tc_I G d2 3 dr, tc_I G d3 3 sp] sz)) (va_Qv (fun (u : (Nat → UInt32) × (Nat → Int32)) => u = f_X2_dressOn dl dr p1) (fun (u : (Nat → UInt32) × (Nat → Int32)) (t : State) => va_P G.1 vwCl [tc_X2 a0 d0 d1 d2 d3 pn, tc_F G d0 3 u.1, tc_I G d1 3 pl, tc_I G d2 3 u.2, tc_I G d3 3 sp] t.heap ∧ va_D (va_A [tc_X2 a0 d0 d1 d2 d3 pn, tc_F G d0 3 dl, tc_I G d1 3 pl, tc_I G d2 3 dr, tc_I G d3 3 sp] sz) [tc_X2 a0 d0 d1 d2 d3 pn, tc_F G d0 3 u.1, tc_I G d1 3 pl, tc_I G d2 3 u.2, tc_I G d3 3 sp]) (va_A [tc_X2 a0 d0 d1 d2 d3 pn, tc_F G d0 3 dl, tc_I G d1 3 pl, tc_I G d2 3 dr, tc_I G d3 3 sp] sz)) 0 0 (va_A [tc_X2 a0 d0 d1 d2 d3 pn, tc_F G d0 3 dl, tc_I G d1 3 pl, tc_I G d2 3 dr, tc_I G d3 3 sp] sz) := by
  refine Met.ofW (cc := cX2_dressOn) (maxL := 2) (ret := none) (by decide) rfl ?_
  intro p e s m args below meth c s₁ B hml hv
  obtain ⟨rfl, hsz, hP, hK, hD0, hN, hV⟩ := hv
  have hx := B.exec
  have hb := B.bytes
  have hr := B.returns
  have hts := atoms_spec (ws := wsX2_dressOn) B.pre
  have hown : s.vm.findClass RX2 = some m.cls := findClass_of_methodNamed B.named
  have hlocks := B.notSynchronized
  subst hsz
  have n_1 := hn
  unfold n_X2_dressOn at n_1
  have hiX2 : ∀ w ∈ u_ws RX2 TX2 5, w ∈ wsX2_dressOn := fun _ h => List.mem_cons_of_mem _ (List.mem_append_right _ h)
  have hD := hD0.self (sz := s.heap.size)
  generalize hAe : va_A [tc_X2 a0 d0 d1 d2 d3 pn, tc_F G d0 3 dl, tc_I G d1 3 pl, tc_I G d2 3 dr, tc_I G d3 3 sp] s.heap.size = A at hD hV ⊢
  have hA : ∀ q : Nat, s.heap.size ≤ q → A q := fun q h => by rw [← hAe]; exact Or.inr h
  have hS : va_S A s.heap s.heap [] := va_S.rf
  have hl := lv_entry ([.ref a0, .int p1]) (n := 2) (Nat.le_of_ble_eq_true rfl)
  rw [lg_entry_eq]
  generalize (lg_sl ([.ref a0, .int p1]) ++ List.replicate (2 - (lg_sl ([.ref a0, .int p1])).length) Slot.unset).toArray = ls at hl ⊢
  have hl : lv_has ls 2 [(0, .ref a0), (1, .int p1)] := hl
  refine lv_aload_n hx hb dX2_dressOn_0 rfl (lv_at hl 0 rfl) ?_
  refine va_get (D := G.1) (ci := 2) (v := .ref d2) (C := RX2) (T := TX2) (N := 5) hx hb hts hiX2 hown hK hP 0 rfl rfl 2 (by decide) (hts (.fieldLink RX2 19 "TideMill$Pairs" "dressing" "[I") (List.mem_of_getElem? (i := 1) rfl)) (fun _ h9 => h9) rfl dX2_dressOn_1 ?_
  refine lv_iload_n hx hb dX2_dressOn_4 rfl (lv_at hl 1 rfl) ?_
  refine lv_dup2_11 hx hb dX2_dressOn_5 rfl rfl ?_
  refine va_iald (n := 3) (f := dr) hx hb hK hP 3 0 rfl rfl n_1 dX2_dressOn_6 ?_
  refine lv_iconst (v := 1) hx hb dX2_dressOn_7 (by decide) ?_
  refine lv_isub hx hb dX2_dressOn_8 ?_
  refine va_iast (n := 3) (f := dr) hx hb hK hP hD hS 3 0 rfl rfl n_1 dX2_dressOn_9 (fun H locs hP hD hS => ?_)
  have hP : va_P G.1 vwCl [tc_X2 a0 d0 d1 d2 d3 pn, tc_F G d0 3 dl, tc_I G d1 3 pl, tc_I G d2 3 (upd dr p1.toNatClampNeg ((dr p1.toNatClampNeg) - 1)), tc_I G d3 3 sp] H := hP
  have hD : va_D A [tc_X2 a0 d0 d1 d2 d3 pn, tc_F G d0 3 dl, tc_I G d1 3 pl, tc_I G d2 3 (upd dr p1.toNatClampNeg ((dr p1.toNatClampNeg) - 1)), tc_I G d3 3 sp] := hD
  refine lv_aload_n hx hb dX2_dressOn_10 rfl (lv_at hl 0 rfl) ?_
  refine va_get (D := G.1) (ci := 2) (v := .ref d2) (C := RX2) (T := TX2) (N := 5) hx hb hts hiX2 hown hK hP 0 rfl rfl 2 (by decide) (hts (.fieldLink RX2 19 "TideMill$Pairs" "dressing" "[I") (List.mem_of_getElem? (i := 1) rfl)) (fun _ h9 => h9) rfl dX2_dressOn_11 ?_
  refine lv_iload_n hx hb dX2_dressOn_14 rfl (lv_at hl 1 rfl) ?_
  refine va_iald (n := 3) (f := upd dr p1.toNatClampNeg ((dr p1.toNatClampNeg) - 1)) hx hb hK hP 3 0 rfl rfl n_1 dX2_dressOn_15 ?_
  refine lv_if_ne (tgt := 26) hx hb dX2_dressOn_16 (by decide) (fun c_2 => ?_) (fun c_2 => ?_)
  · have hP9 := hP.sub (ws' := [tc_X2 a0 d0 d1 d2 d3 pn, tc_F G d0 3 dl, tc_I G d1 3 pl, tc_I G d2 3 (upd dr p1.toNatClampNeg ((dr p1.toNatClampNeg) - 1)), tc_I G d3 3 sp]) [0, 1, 2, 3, 4] rfl
    have hD9 := hD.sub (ws' := [tc_X2 a0 d0 d1 d2 d3 pn, tc_F G d0 3 dl, tc_I G d1 3 pl, tc_I G d2 3 (upd dr p1.toNatClampNeg ((dr p1.toNatClampNeg) - 1)), tc_I G d3 3 sp]) [0, 1, 2, 3, 4] (by decide) rfl
    exact W.vret hx hb hr (fun t ht hW => ⟨⟨(dl, upd dr p1.toNatClampNeg ((dr p1.toNatClampNeg) - 1)), rfl, by unfold f_X2_dressOn; all_goals (rw [if_neg c_2]); all_goals rfl, by rw [ht]; exact hP9, hD9⟩, hS.F ht⟩) hS.2.2 dX2_dressOn_26
  · refine lv_aload_n hx hb dX2_dressOn_19 rfl (lv_at hl 0 rfl) ?_
    refine va_get (D := G.1) (ci := 2) (v := .ref d0) (C := RX2) (T := TX2) (N := 5) hx hb hts hiX2 hown hK hP 0 rfl rfl 0 (by decide) (hts (.fieldLink RX2 9 "TideMill$Pairs" "dull" "[F") (List.mem_of_getElem? (i := 2) rfl)) (fun _ h9 => h9) rfl dX2_dressOn_20 ?_
    refine lv_iload_n hx hb dX2_dressOn_23 rfl (lv_at hl 1 rfl) ?_
    refine lv_fconst0 hx hb dX2_dressOn_24 ?_
    refine va_fast (n := 3) (f := dl) hx hb hK hP hD hS 1 2 rfl rfl n_1 dX2_dressOn_25 (fun H locs hP hD hS => ?_)
    have hP : va_P G.1 vwCl [tc_X2 a0 d0 d1 d2 d3 pn, tc_F G d0 3 (vf_upd dl p1.toNatClampNeg FP.fconst0), tc_I G d1 3 pl, tc_I G d2 3 (upd dr p1.toNatClampNeg ((dr p1.toNatClampNeg) - 1)), tc_I G d3 3 sp] H := hP
    have hD : va_D A [tc_X2 a0 d0 d1 d2 d3 pn, tc_F G d0 3 (vf_upd dl p1.toNatClampNeg FP.fconst0), tc_I G d1 3 pl, tc_I G d2 3 (upd dr p1.toNatClampNeg ((dr p1.toNatClampNeg) - 1)), tc_I G d3 3 sp] := hD
    have hP9 := hP.sub (ws' := [tc_X2 a0 d0 d1 d2 d3 pn, tc_F G d0 3 (vf_upd dl p1.toNatClampNeg FP.fconst0), tc_I G d1 3 pl, tc_I G d2 3 (upd dr p1.toNatClampNeg ((dr p1.toNatClampNeg) - 1)), tc_I G d3 3 sp]) [0, 1, 2, 3, 4] rfl
    have hD9 := hD.sub (ws' := [tc_X2 a0 d0 d1 d2 d3 pn, tc_F G d0 3 (vf_upd dl p1.toNatClampNeg FP.fconst0), tc_I G d1 3 pl, tc_I G d2 3 (upd dr p1.toNatClampNeg ((dr p1.toNatClampNeg) - 1)), tc_I G d3 3 sp]) [0, 1, 2, 3, 4] (by decide) rfl
    exact W.vret hx hb hr (fun t ht hW => ⟨⟨(vf_upd dl p1.toNatClampNeg FP.fconst0, upd dr p1.toNatClampNeg ((dr p1.toNatClampNeg) - 1)), rfl, by unfold f_X2_dressOn; all_goals (rw [if_pos c_2]); all_goals rfl, by rw [ht]; exact hP9, hD9⟩, hS.F ht⟩) hS.2.2 dX2_dressOn_26
set_option maxHeartbeats 4000000 in
set_option maxRecDepth 100000 in
theorem c_X2_blunt (l : Launch) (G : tm_G) (a0 : Nat) (d0 : Nat) (d1 : Nat) (d2 : Nat) (d3 : Nat) (sz : Nat) (pn : Int32) (dl : Nat → UInt32) (pl : Nat → Int32) (dr : Nat → Int32) (sp : Nat → Int32) (p1 : Int32) (p2 : UInt32) (hn : n_X2_blunt dl p1 p2) : Met l yX2_blunt wsX2_blunt ({ frames := 0, cells := 0, slots := 0, locals := 0 }) (va_Pc [.ref a0, .int p1, .float p2] (tm_B G [tc_X2 a0 d0 d1 d2 d3 pn, tc_F G d0 3 dl, tc_I G d1 3 pl, tc_I G d2 3 dr, tc_I G d3 3 sp] sz)) (va_Qv (fun (u : (Nat → UInt32)) => u = f_X2_blunt dl p1 p2) (fun (u : (Nat → UInt32)) (t : State) => va_P G.1 vwCl [tc_X2 a0 d0 d1 d2 d3 pn, tc_F G d0 3 u, tc_I G d1 3 pl, tc_I G d2 3 dr, tc_I G d3 3 sp] t.heap ∧ va_D (va_A [tc_X2 a0 d0 d1 d2 d3 pn, tc_F G d0 3 dl, tc_I G d1 3 pl, tc_I G d2 3 dr, tc_I G d3 3 sp] sz) [tc_X2 a0 d0 d1 d2 d3 pn, tc_F G d0 3 u, tc_I G d1 3 pl, tc_I G d2 3 dr, tc_I G d3 3 sp]) (va_A [tc_X2 a0 d0 d1 d2 d3 pn, tc_F G d0 3 dl, tc_I G d1 3 pl, tc_I G d2 3 dr, tc_I G d3 3 sp] sz)) 0 0 (va_A [tc_X2 a0 d0 d1 d2 d3 pn, tc_F G d0 3 dl, tc_I G d1 3 pl, tc_I G d2 3 dr, tc_I G d3 3 sp] sz) := by
  refine Met.ofW (cc := cX2_blunt) (maxL := 4) (ret := none) (by decide) rfl ?_
  intro p e s m args below meth c s₁ B hml hv
  obtain ⟨rfl, hsz, hP, hK, hD0, hN, hV⟩ := hv
  have hx := B.exec
  have hb := B.bytes
  have hr := B.returns
  have hts := atoms_spec (ws := wsX2_blunt) B.pre
  have hown : s.vm.findClass RX2 = some m.cls := findClass_of_methodNamed B.named
  have hlocks := B.notSynchronized
  subst hsz
  obtain ⟨n_1, n_2⟩ := hn
  have hiX2 : ∀ w ∈ u_ws RX2 TX2 5, w ∈ wsX2_blunt := fun _ h => List.mem_cons_of_mem _ (List.mem_append_right _ h)
  have hD := hD0.self (sz := s.heap.size)
  generalize hAe : va_A [tc_X2 a0 d0 d1 d2 d3 pn, tc_F G d0 3 dl, tc_I G d1 3 pl, tc_I G d2 3 dr, tc_I G d3 3 sp] s.heap.size = A at hD hV ⊢
  have hA : ∀ q : Nat, s.heap.size ≤ q → A q := fun q h => by rw [← hAe]; exact Or.inr h
  have hS : va_S A s.heap s.heap [] := va_S.rf
  have hl := lv_entry ([.ref a0, .int p1, .float p2]) (n := 4) (Nat.le_of_ble_eq_true rfl)
  rw [lg_entry_eq]
  generalize (lg_sl ([.ref a0, .int p1, .float p2]) ++ List.replicate (4 - (lg_sl ([.ref a0, .int p1, .float p2])).length) Slot.unset).toArray = ls at hl ⊢
  have hl : lv_has ls 4 [(0, .ref a0), (1, .int p1), (2, .float p2)] := hl
  refine lv_aload_n hx hb dX2_blunt_0 rfl (lv_at hl 0 rfl) ?_
  refine va_get (D := G.1) (ci := 2) (v := .ref d0) (C := RX2) (T := TX2) (N := 5) hx hb hts hiX2 hown hK hP 0 rfl rfl 0 (by decide) (hts (.fieldLink RX2 9 "TideMill$Pairs" "dull" "[F") (List.mem_of_getElem? (i := 1) rfl)) (fun _ h9 => h9) rfl dX2_blunt_1 ?_
  refine lv_iload_n hx hb dX2_blunt_4 rfl (lv_at hl 1 rfl) ?_
  refine va_fald (n := 3) (f := dl) hx hb hK hP 1 2 rfl rfl n_1 dX2_blunt_5 ?_
  refine lv_fload_n hx hb dX2_blunt_6 rfl (lv_at hl 2 rfl) ?_
  refine lv_fadd hx hb dX2_blunt_7 n_2 ?_
  refine lv_fstore_n (lv' := [(3, .float (FP.fadd (dl p1.toNatClampNeg) p2)), (0, .ref a0), (1, .int p1), (2, .float p2)]) hx hb dX2_blunt_8 rfl hl (by decide) rfl (fun ls hl => ?_)
  refine lv_aload_n hx hb dX2_blunt_9 rfl (lv_at hl 1 rfl) ?_
  refine va_get (D := G.1) (ci := 2) (v := .ref d0) (C := RX2) (T := TX2) (N := 5) hx hb hts hiX2 hown hK hP 0 rfl rfl 0 (by decide) (hts (.fieldLink RX2 9 "TideMill$Pairs" "dull" "[F") (List.mem_of_getElem? (i := 1) rfl)) (fun _ h9 => h9) rfl dX2_blunt_10 ?_
  refine lv_iload_n hx hb dX2_blunt_13 rfl (lv_at hl 2 rfl) ?_
  refine lv_fload_n hx hb dX2_blunt_14 rfl (lv_at hl 0 rfl) ?_
  refine lv_fconst1 hx hb dX2_blunt_15 ?_
  refine lv_fcmp hx hb dX2_blunt_16 ?_
  refine lv_if_le (tgt := 24) hx hb dX2_blunt_17 (by decide) (fun c_3 => ?_) (fun c_3 => ?_)
  · refine lv_fload_n hx hb dX2_blunt_24 rfl (lv_at hl 0 rfl) ?_
    refine va_fast (n := 3) (f := dl) hx hb hK hP hD hS 1 2 rfl rfl n_1 dX2_blunt_25 (fun H locs hP hD hS => ?_)
    have hP : va_P G.1 vwCl [tc_X2 a0 d0 d1 d2 d3 pn, tc_F G d0 3 (vf_upd dl p1.toNatClampNeg (FP.fadd (dl p1.toNatClampNeg) p2)), tc_I G d1 3 pl, tc_I G d2 3 dr, tc_I G d3 3 sp] H := hP
    have hD : va_D A [tc_X2 a0 d0 d1 d2 d3 pn, tc_F G d0 3 (vf_upd dl p1.toNatClampNeg (FP.fadd (dl p1.toNatClampNeg) p2)), tc_I G d1 3 pl, tc_I G d2 3 dr, tc_I G d3 3 sp] := hD
    have hP9 := hP.sub (ws' := [tc_X2 a0 d0 d1 d2 d3 pn, tc_F G d0 3 (vf_upd dl p1.toNatClampNeg (FP.fadd (dl p1.toNatClampNeg) p2)), tc_I G d1 3 pl, tc_I G d2 3 dr, tc_I G d3 3 sp]) [0, 1, 2, 3, 4] rfl
    have hD9 := hD.sub (ws' := [tc_X2 a0 d0 d1 d2 d3 pn, tc_F G d0 3 (vf_upd dl p1.toNatClampNeg (FP.fadd (dl p1.toNatClampNeg) p2)), tc_I G d1 3 pl, tc_I G d2 3 dr, tc_I G d3 3 sp]) [0, 1, 2, 3, 4] (by decide) rfl
    exact W.vret hx hb hr (fun t ht hW => ⟨⟨(vf_upd dl p1.toNatClampNeg (FP.fadd (dl p1.toNatClampNeg) p2)), rfl, by unfold f_X2_blunt; all_goals (rw [if_pos c_3]); all_goals rfl, by rw [ht]; exact hP9, hD9⟩, hS.F ht⟩) hS.2.2 dX2_blunt_26
  · refine lv_fconst1 hx hb dX2_blunt_20 ?_
    refine lv_goto (tgt := 25) hx hb dX2_blunt_21 (by decide) ?_
    refine va_fast (n := 3) (f := dl) hx hb hK hP hD hS 1 2 rfl rfl n_1 dX2_blunt_25 (fun H locs hP hD hS => ?_)
    have hP : va_P G.1 vwCl [tc_X2 a0 d0 d1 d2 d3 pn, tc_F G d0 3 (vf_upd dl p1.toNatClampNeg FP.fconst1), tc_I G d1 3 pl, tc_I G d2 3 dr, tc_I G d3 3 sp] H := hP
    have hD : va_D A [tc_X2 a0 d0 d1 d2 d3 pn, tc_F G d0 3 (vf_upd dl p1.toNatClampNeg FP.fconst1), tc_I G d1 3 pl, tc_I G d2 3 dr, tc_I G d3 3 sp] := hD
    have hP9 := hP.sub (ws' := [tc_X2 a0 d0 d1 d2 d3 pn, tc_F G d0 3 (vf_upd dl p1.toNatClampNeg FP.fconst1), tc_I G d1 3 pl, tc_I G d2 3 dr, tc_I G d3 3 sp]) [0, 1, 2, 3, 4] rfl
    have hD9 := hD.sub (ws' := [tc_X2 a0 d0 d1 d2 d3 pn, tc_F G d0 3 (vf_upd dl p1.toNatClampNeg FP.fconst1), tc_I G d1 3 pl, tc_I G d2 3 dr, tc_I G d3 3 sp]) [0, 1, 2, 3, 4] (by decide) rfl
    exact W.vret hx hb hr (fun t ht hW => ⟨⟨(vf_upd dl p1.toNatClampNeg FP.fconst1), rfl, by unfold f_X2_blunt; all_goals (rw [if_neg c_3]); all_goals rfl, by rw [ht]; exact hP9, hD9⟩, hS.F ht⟩) hS.2.2 dX2_blunt_26
set_option maxHeartbeats 4000000 in
set_option maxRecDepth 100000 in
theorem c_X2_grind (l : Launch) (G : tm_G) (a0 : Nat) (d0 : Nat) (d1 : Nat) (d2 : Nat) (d3 : Nat) (a1 : Nat) (b0 : Nat) (b1 : Nat) (b2 : Nat) (b3 : Nat) (b4 : Nat) (b5 : Nat) (sz : Nat) (pn : Int32) (dl : Nat → UInt32) (pl : Nat → Int32) (dr : Nat → Int32) (sp : Nat → Int32) (ln : Int32) (ow : Nat → Int32) (gr : Nat → Int32) (we : Nat → Int32) (du : Nat → Int32) (sa : Nat → Int32) (le : Nat → UInt64) (p1 : Int32) (p2 : UInt64) (hn : n_X2_grind dl pl gr sa le p1 p2) : Met l yX2_grind wsX2_grind ({ frames := 2, cells := 0, slots := 0, locals := 45 }) (va_Pc [.ref a0, .int p1, .double p2, .ref a1] (tm_B G [tc_X2 a0 d0 d1 d2 d3 pn, tc_F G d0 3 dl, tc_I G d1 3 pl, tc_I G d2 3 dr, tc_I G d3 3 sp, tc_X0 a1 b0 b1 b2 b3 b4 b5 ln, tc_I G b0 10 ow, tc_I G b1 10 gr, tc_I G b2 10 we, tc_I G b3 10 du, tc_I G b4 10 sa, tc_D G b5 10 le] sz)) (va_Qd (fun (r : UInt64) (u : (Nat → UInt32) × (Nat → Int32) × (Nat → Int32) × (Nat → UInt64)) => (r, u) = f_X2_grind dl pl gr sa le p1 p2) (fun (u : (Nat → UInt32) × (Nat → Int32) × (Nat → Int32) × (Nat → UInt64)) (t : State) => va_P G.1 vwCl [tc_X2 a0 d0 d1 d2 d3 pn, tc_F G d0 3 u.1, tc_I G d1 3 u.2.1, tc_I G d2 3 dr, tc_I G d3 3 sp, tc_X0 a1 b0 b1 b2 b3 b4 b5 ln, tc_I G b0 10 ow, tc_I G b1 10 gr, tc_I G b2 10 we, tc_I G b3 10 du, tc_I G b4 10 u.2.2.1, tc_D G b5 10 u.2.2.2] t.heap ∧ va_D (va_A [tc_X2 a0 d0 d1 d2 d3 pn, tc_F G d0 3 dl, tc_I G d1 3 pl, tc_I G d2 3 dr, tc_I G d3 3 sp, tc_X0 a1 b0 b1 b2 b3 b4 b5 ln, tc_I G b0 10 ow, tc_I G b1 10 gr, tc_I G b2 10 we, tc_I G b3 10 du, tc_I G b4 10 sa, tc_D G b5 10 le] sz) [tc_X2 a0 d0 d1 d2 d3 pn, tc_F G d0 3 u.1, tc_I G d1 3 u.2.1, tc_I G d2 3 dr, tc_I G d3 3 sp, tc_X0 a1 b0 b1 b2 b3 b4 b5 ln, tc_I G b0 10 ow, tc_I G b1 10 gr, tc_I G b2 10 we, tc_I G b3 10 du, tc_I G b4 10 u.2.2.1, tc_D G b5 10 u.2.2.2]) (va_A [tc_X2 a0 d0 d1 d2 d3 pn, tc_F G d0 3 dl, tc_I G d1 3 pl, tc_I G d2 3 dr, tc_I G d3 3 sp, tc_X0 a1 b0 b1 b2 b3 b4 b5 ln, tc_I G b0 10 ow, tc_I G b1 10 gr, tc_I G b2 10 we, tc_I G b3 10 du, tc_I G b4 10 sa, tc_D G b5 10 le] sz)) 0 0 (va_A [tc_X2 a0 d0 d1 d2 d3 pn, tc_F G d0 3 dl, tc_I G d1 3 pl, tc_I G d2 3 dr, tc_I G d3 3 sp, tc_X0 a1 b0 b1 b2 b3 b4 b5 ln, tc_I G b0 10 ow, tc_I G b1 10 gr, tc_I G b2 10 we, tc_I G b3 10 du, tc_I G b4 10 sa, tc_D G b5 10 le] sz) := by
  refine Met.ofW (cc := cX2_grind) (maxL := 12) (ret := (some .double)) (by decide) rfl ?_
  intro p e s m args below meth c s₁ B hml hv
  obtain ⟨rfl, hsz, hP, hK, hD0, hN, hV⟩ := hv
  have hx := B.exec
  have hb := B.bytes
  have hr := B.returns
  have hts := atoms_spec (ws := wsX2_grind) B.pre
  have hown : s.vm.findClass RX2 = some m.cls := findClass_of_methodNamed B.named
  have hlocks := B.notSynchronized
  subst hsz
  obtain ⟨n_1, n_2, n_3, n_5, n_6, n_10, n_11, n_13, n_14, n_15, n_19, n_20, n_24, n_25, n_27, n_28, n_29⟩ := hn
  have hiX0 : ∀ w ∈ u_ws RX0 TX0 7, w ∈ wsX2_grind := fun _ h => List.mem_cons_of_mem _ (List.mem_append_right _ h)
  have hiX2 : ∀ w ∈ u_ws RX2 TX2 5, w ∈ wsX2_grind := fun _ h => List.mem_cons_of_mem _ (List.mem_append_left _ (List.mem_append_right _ h))
  have hD := hD0.self (sz := s.heap.size)
  generalize hAe : va_A [tc_X2 a0 d0 d1 d2 d3 pn, tc_F G d0 3 dl, tc_I G d1 3 pl, tc_I G d2 3 dr, tc_I G d3 3 sp, tc_X0 a1 b0 b1 b2 b3 b4 b5 ln, tc_I G b0 10 ow, tc_I G b1 10 gr, tc_I G b2 10 we, tc_I G b3 10 du, tc_I G b4 10 sa, tc_D G b5 10 le] s.heap.size = A at hD hV ⊢
  have hA : ∀ q : Nat, s.heap.size ≤ q → A q := fun q h => by rw [← hAe]; exact Or.inr h
  have hS : va_S A s.heap s.heap [] := va_S.rf
  have hl := lv_entry ([.ref a0, .int p1, .double p2, .ref a1]) (n := 12) (Nat.le_of_ble_eq_true rfl)
  rw [lg_entry_eq]
  generalize (lg_sl ([.ref a0, .int p1, .double p2, .ref a1]) ++ List.replicate (12 - (lg_sl ([.ref a0, .int p1, .double p2, .ref a1])).length) Slot.unset).toArray = ls at hl ⊢
  have hl : lv_has ls 12 [(0, .ref a0), (1, .int p1), (2, .double p2), (4, .ref a1)] := hl
  refine lv_aload_n hx hb dX2_grind_0 rfl (lv_at hl 0 rfl) ?_
  refine va_get (D := G.1) (ci := 2) (v := .ref d1) (C := RX2) (T := TX2) (N := 5) hx hb hts hiX2 hown hK hP 0 rfl rfl 1 (by decide) (hts (.fieldLink RX2 15 "TideMill$Pairs" "lot" "[I") (List.mem_of_getElem? (i := 1) rfl)) (fun _ h9 => h9) rfl dX2_grind_1 ?_
  refine lv_iload_n hx hb dX2_grind_4 rfl (lv_at hl 1 rfl) ?_
  refine va_iald (n := 3) (f := pl) hx hb hK hP 2 0 rfl rfl n_1 dX2_grind_5 ?_
  refine lv_istore (lv' := [(5, .int (pl p1.toNatClampNeg)), (0, .ref a0), (1, .int p1), (2, .double p2), (4, .ref a1)]) hx hb dX2_grind_6 hl (by decide) rfl (fun ls hl => ?_)
  refine lv_dconst1 hx hb dX2_grind_8 ?_
  refine lv_aload_n hx hb dX2_grind_9 rfl (lv_at hl 1 rfl) ?_
  refine va_get (D := G.1) (ci := 2) (v := .ref d0) (C := RX2) (T := TX2) (N := 5) hx hb hts hiX2 hown hK hP 0 rfl rfl 0 (by decide) (hts (.fieldLink RX2 9 "TideMill$Pairs" "dull" "[F") (List.mem_of_getElem? (i := 2) rfl)) (fun _ h9 => h9) rfl dX2_grind_10 ?_
  refine lv_iload_n hx hb dX2_grind_13 rfl (lv_at hl 2 rfl) ?_
  refine va_fald (n := 3) (f := dl) hx hb hK hP 1 2 rfl rfl n_1 dX2_grind_14 ?_
  refine lv_f2d hx hb dX2_grind_15 n_2 ?_
  refine lv_dadd hx hb dX2_grind_16 n_3 ?_
  refine lv_dstore (lv' := [(6, .double (FP.dadd FP.dconst1 (FP.f2d (dl p1.toNatClampNeg)))), (5, .int (pl p1.toNatClampNeg)), (0, .ref a0), (1, .int p1), (2, .double p2), (4, .ref a1)]) hx hb dX2_grind_17 hl (by decide) rfl (fun ls hl => ?_)
  refine lv_dload hx hb dX2_grind_19 (lv_at hl 0 rfl) ?_
  refine lv_dload_n hx hb dX2_grind_21 rfl (lv_at hl 4 rfl) ?_
  refine lv_dcmp hx hb dX2_grind_22 ?_
  refine lv_if_ge (tgt := 31) hx hb dX2_grind_23 (by decide) (fun c_4 => ?_) (fun c_4 => ?_)
  · refine lv_dload_n hx hb dX2_grind_31 rfl (lv_at hl 4 rfl) ?_
    refine lv_dstore (lv' := [(8, .double p2), (6, .double (FP.dadd FP.dconst1 (FP.f2d (dl p1.toNatClampNeg)))), (5, .int (pl p1.toNatClampNeg)), (0, .ref a0), (1, .int p1), (2, .double p2), (4, .ref a1)]) hx hb dX2_grind_32 hl (by decide) rfl (fun ls hl => ?_)
    refine lv_dload hx hb dX2_grind_34 (lv_at hl 0 rfl) ?_
    refine lv_dload hx hb dX2_grind_36 (lv_at hl 1 rfl) ?_
    refine lv_ddiv hx hb dX2_grind_38 (n_5 c_4) ?_
    refine lv_dstore (lv' := [(10, .double (FP.ddiv p2 (FP.dadd FP.dconst1 (FP.f2d (dl p1.toNatClampNeg))))), (8, .double p2), (6, .double (FP.dadd FP.dconst1 (FP.f2d (dl p1.toNatClampNeg)))), (5, .int (pl p1.toNatClampNeg)), (0, .ref a0), (1, .int p1), (2, .double p2), (4, .ref a1)]) hx hb dX2_grind_39 hl (by decide) rfl (fun ls hl => ?_)
    refine lv_aload hx hb dX2_grind_41 (lv_at hl 7 rfl) ?_
    refine lv_iload hx hb dX2_grind_43 (lv_at hl 3 rfl) ?_
    refine lv_dload hx hb dX2_grind_45 (lv_at hl 0 rfl) ?_
    have hPc := hP.sub (ws' := [tc_X0 a1 b0 b1 b2 b3 b4 b5 ln, tc_I G b0 10 ow, tc_I G b1 10 gr, tc_I G b2 10 we, tc_I G b3 10 du, tc_I G b4 10 sa, tc_D G b5 10 le]) [5, 6, 7, 8, 9, 10, 11] rfl
    have hDc := hD.sub (ws' := [tc_X0 a1 b0 b1 b2 b3 b4 b5 ln, tc_I G b0 10 ow, tc_I G b1 10 gr, tc_I G b2 10 we, tc_I G b3 10 du, tc_I G b4 10 sa, tc_D G b5 10 le]) [5, 6, 7, 8, 9, 10, 11] (by decide) rfl
    have hFc := va_free (wc := [tc_X0 a1 b0 b1 b2 b3 b4 b5 ln, tc_I G b0 10 ow, tc_I G b1 10 gr, tc_I G b2 10 we, tc_I G b3 10 du, tc_I G b4 10 sa, tc_D G b5 10 le]) hD hS hA [5, 6, 7, 8, 9, 10, 11] rfl
    refine va_callv (va_runV (As := [.int (pl p1.toNatClampNeg), .double (FP.ddiv p2 (FP.dadd FP.dconst1 (FP.f2d (dl p1.toNatClampNeg))))]) (rest := []) ⟨hx, hb, hml, hown, hts⟩ (c_X0_grind l G a1 b0 b1 b2 b3 b4 b5 s.heap.size ln ow gr we du sa le (pl p1.toNatClampNeg) (FP.ddiv p2 (FP.dadd FP.dconst1 (FP.f2d (dl p1.toNatClampNeg)))) (n_6 c_4)) (cwV 2 hts gX2_grind_X0_grind rfl rfl rfl (by decide +kernel) ⟨(Nat.le_of_ble_eq_true rfl), (Nat.le_of_ble_eq_true rfl)⟩) (tm_preV hK hN hV hS hPc hDc hFc (va_recv hK hPc (ci := 0) (q0 := 0) rfl rfl)) rfl rfl hl.1 rfl (lv_room (Nat.le_of_ble_eq_true rfl)) dX2_grind_47 ⟨(Nat.le_of_ble_eq_true rfl), (Nat.le_of_ble_eq_true rfl)⟩) hS (fun q _ h => hFc q h) hFc (fun u t H locs ht hvm hw_7 hB hz1 hk1 hS => ?_)
    obtain ⟨u_8, u_9⟩ := u
    obtain ⟨hP1, hD1⟩ := hB
    rw [ht] at hP1
    try dsimp only at hw_7
    obtain ⟨hP, hD⟩ := va_join (wr := [tc_X2 a0 d0 d1 d2 d3 pn, tc_F G d0 3 dl, tc_I G d1 3 pl, tc_I G d2 3 dr, tc_I G d3 3 sp]) (w1 := [tc_X0 a1 b0 b1 b2 b3 b4 b5 ln, tc_I G b0 10 ow, tc_I G b1 10 gr, tc_I G b2 10 we, tc_I G b3 10 du, tc_I G b4 10 u_8, tc_D G b5 10 u_9]) hP hD [5, 6, 7, 8, 9, 10, 11] [0, 1, 2, 3, 4] rfl rfl (by decide) (by decide) hk1 hFc hP1 hD1
    have hP : va_P G.1 vwCl [tc_X2 a0 d0 d1 d2 d3 pn, tc_F G d0 3 dl, tc_I G d1 3 pl, tc_I G d2 3 dr, tc_I G d3 3 sp, tc_X0 a1 b0 b1 b2 b3 b4 b5 ln, tc_I G b0 10 ow, tc_I G b1 10 gr, tc_I G b2 10 we, tc_I G b3 10 du, tc_I G b4 10 u_8, tc_D G b5 10 u_9] H := hP
    have hD : va_D A [tc_X2 a0 d0 d1 d2 d3 pn, tc_F G d0 3 dl, tc_I G d1 3 pl, tc_I G d2 3 dr, tc_I G d3 3 sp, tc_X0 a1 b0 b1 b2 b3 b4 b5 ln, tc_I G b0 10 ow, tc_I G b1 10 gr, tc_I G b2 10 we, tc_I G b3 10 du, tc_I G b4 10 u_8, tc_D G b5 10 u_9] := hD
    refine lv_aload_n hx hb dX2_grind_50 rfl (lv_at hl 4 rfl) ?_
    refine lv_iload_n hx hb dX2_grind_51 rfl (lv_at hl 5 rfl) ?_
    refine lv_dload hx hb dX2_grind_52 (lv_at hl 0 rfl) ?_
    refine lv_d2f hx hb dX2_grind_54 (n_10 c_4 u_8 u_9 hw_7) ?_
    refine lv_aload hx hb dX2_grind_55 (lv_at hl 7 rfl) ?_
    refine va_get (D := G.1) (ci := 0) (v := .ref b1) (C := RX0) (T := TX0) (N := 7) hx hb hts hiX0 hown hK hP 5 rfl rfl 1 (by decide) (hts (.fieldLink RX2 60 "TideMill$Lots" "grain" "[I") (List.mem_of_getElem? (i := 3) rfl)) (fun _ h9 => h9) rfl dX2_grind_57 ?_
    refine lv_iload hx hb dX2_grind_60 (lv_at hl 3 rfl) ?_
    refine va_iald (n := 10) (f := gr) hx hb hK hP 7 0 rfl rfl (n_11 c_4 u_8 u_9 hw_7) dX2_grind_62 ?_
    have hPc := hP.sub (ws' := []) [] rfl
    have hDc := hD.sub (ws' := []) [] (by decide) rfl
    have hFc := va_free (wc := []) hD hS hA [] rfl
    refine va_callf (va_runSN (As := [.int (gr (pl p1.toNatClampNeg).toNatClampNeg)]) (rest := [.float (FP.d2f (FP.ddiv p2 (FP.dadd FP.dconst1 (FP.f2d (dl p1.toNatClampNeg))))), .int p1, .ref a0]) ⟨hx, hb, hml, hown, hts⟩ (c_X5_hardnessOf l G  H.size (gr (pl p1.toNatClampNeg).toNatClampNeg) ) ⟨va_cnB 1 hts gX2_grind_X5_hardnessOf_n63 rfl rfl rfl (tm_N_X2_63 hN) (hts (.initialized RX5) (List.mem_of_getElem? (i := 15) rfl)) (by decide +kernel) ⟨(Nat.le_of_ble_eq_true rfl), (Nat.le_of_ble_eq_true rfl)⟩, (hts (.static yX5_hardnessOf) (List.mem_of_getElem? (i := 20) rfl)), trivial⟩ (tm_preS hK hN hV hS hPc hDc hFc) rfl rfl hl.1 rfl (lv_room (Nat.le_of_ble_eq_true rfl)) dX2_grind_63 ⟨(Nat.le_of_ble_eq_true rfl), (Nat.le_of_ble_eq_true rfl)⟩) hS (fun q _ h => hFc q h) hFc (fun r_12 u t H locs ht hvm hw_12 hB hz1 hk1 hS => ?_)
    obtain ⟨hP1, hD1⟩ := hB
    rw [ht] at hP1
    try dsimp only at hw_12
    obtain ⟨hP, hD⟩ := va_join (wr := [tc_X2 a0 d0 d1 d2 d3 pn, tc_F G d0 3 dl, tc_I G d1 3 pl, tc_I G d2 3 dr, tc_I G d3 3 sp, tc_X0 a1 b0 b1 b2 b3 b4 b5 ln, tc_I G b0 10 ow, tc_I G b1 10 gr, tc_I G b2 10 we, tc_I G b3 10 du, tc_I G b4 10 u_8, tc_D G b5 10 u_9]) (w1 := []) hP hD [] [0, 1, 2, 3, 4, 5, 6, 7, 8, 9, 10, 11] rfl rfl (by decide) (by decide) hk1 hFc hP1 hD1
    have hP : va_P G.1 vwCl [tc_X2 a0 d0 d1 d2 d3 pn, tc_F G d0 3 dl, tc_I G d1 3 pl, tc_I G d2 3 dr, tc_I G d3 3 sp, tc_X0 a1 b0 b1 b2 b3 b4 b5 ln, tc_I G b0 10 ow, tc_I G b1 10 gr, tc_I G b2 10 we, tc_I G b3 10 du, tc_I G b4 10 u_8, tc_D G b5 10 u_9] H := hP
    have hD : va_D A [tc_X2 a0 d0 d1 d2 d3 pn, tc_F G d0 3 dl, tc_I G d1 3 pl, tc_I G d2 3 dr, tc_I G d3 3 sp, tc_X0 a1 b0 b1 b2 b3 b4 b5 ln, tc_I G b0 10 ow, tc_I G b1 10 gr, tc_I G b2 10 we, tc_I G b3 10 du, tc_I G b4 10 u_8, tc_D G b5 10 u_9] := hD
    subst hw_12
    refine lv_fmul hx hb dX2_grind_66 (n_13 c_4 u_8 u_9 hw_7) ?_
    refine lv_ldcf hx hb hown (hts (.constantFloat RX2 67 (1115684864)) (List.mem_of_getElem? (i := 4) rfl)) dX2_grind_67 ?_
    refine lv_fdiv hx hb dX2_grind_69 (n_14 c_4 u_8 u_9 hw_7) ?_
    have hPc := hP.sub (ws' := [tc_X2 a0 d0 d1 d2 d3 pn, tc_F G d0 3 dl, tc_I G d1 3 pl, tc_I G d2 3 dr, tc_I G d3 3 sp]) [0, 1, 2, 3, 4] rfl
    have hDc := hD.sub (ws' := [tc_X2 a0 d0 d1 d2 d3 pn, tc_F G d0 3 dl, tc_I G d1 3 pl, tc_I G d2 3 dr, tc_I G d3 3 sp]) [0, 1, 2, 3, 4] (by decide) rfl
    have hFc := va_free (wc := [tc_X2 a0 d0 d1 d2 d3 pn, tc_F G d0 3 dl, tc_I G d1 3 pl, tc_I G d2 3 dr, tc_I G d3 3 sp]) hD hS hA [0, 1, 2, 3, 4] rfl
    refine va_callv (va_runV (As := [.int p1, .float (FP.fdiv (FP.fmul (FP.d2f (FP.ddiv p2 (FP.dadd FP.dconst1 (FP.f2d (dl p1.toNatClampNeg))))) (f_X5_hardnessOf (gr (pl p1.toNatClampNeg).toNatClampNeg))) 1115684864)]) (rest := []) ⟨hx, hb, hml, hown, hts⟩ (c_X2_blunt l G a0 d0 d1 d2 d3 H.size pn dl pl dr sp p1 (FP.fdiv (FP.fmul (FP.d2f (FP.ddiv p2 (FP.dadd FP.dconst1 (FP.f2d (dl p1.toNatClampNeg))))) (f_X5_hardnessOf (gr (pl p1.toNatClampNeg).toNatClampNeg))) 1115684864) (n_15 c_4 u_8 u_9 hw_7)) (cwV 2 hts gX2_grind_X2_blunt rfl rfl rfl (by decide +kernel) ⟨(Nat.le_of_ble_eq_true rfl), (Nat.le_of_ble_eq_true rfl)⟩) (tm_preV hK hN hV hS hPc hDc hFc (va_recv hK hPc (ci := 2) (q0 := 0) rfl rfl)) rfl rfl hl.1 rfl (lv_room (Nat.le_of_ble_eq_true rfl)) dX2_grind_70 ⟨(Nat.le_of_ble_eq_true rfl), (Nat.le_of_ble_eq_true rfl)⟩) hS (fun q _ h => hFc q h) hFc (fun u t H locs ht hvm hw_16 hB hz1 hk1 hS => ?_)
    obtain ⟨u_17, rfl⟩ : ∃ z, z = u := ⟨_, rfl⟩
    obtain ⟨hP1, hD1⟩ := hB
    rw [ht] at hP1
    try dsimp only at hw_16
    obtain ⟨hP, hD⟩ := va_join (wr := [tc_X0 a1 b0 b1 b2 b3 b4 b5 ln, tc_I G b0 10 ow, tc_I G b1 10 gr, tc_I G b2 10 we, tc_I G b3 10 du, tc_I G b4 10 u_8, tc_D G b5 10 u_9]) (w1 := [tc_X2 a0 d0 d1 d2 d3 pn, tc_F G d0 3 u_17, tc_I G d1 3 pl, tc_I G d2 3 dr, tc_I G d3 3 sp]) hP hD [0, 1, 2, 3, 4] [5, 6, 7, 8, 9, 10, 11] rfl rfl (by decide) (by decide) hk1 hFc hP1 hD1
    have hP : va_P G.1 vwCl [tc_X0 a1 b0 b1 b2 b3 b4 b5 ln, tc_I G b0 10 ow, tc_I G b1 10 gr, tc_I G b2 10 we, tc_I G b3 10 du, tc_I G b4 10 u_8, tc_D G b5 10 u_9, tc_X2 a0 d0 d1 d2 d3 pn, tc_F G d0 3 u_17, tc_I G d1 3 pl, tc_I G d2 3 dr, tc_I G d3 3 sp] H := hP
    have hD : va_D A [tc_X0 a1 b0 b1 b2 b3 b4 b5 ln, tc_I G b0 10 ow, tc_I G b1 10 gr, tc_I G b2 10 we, tc_I G b3 10 du, tc_I G b4 10 u_8, tc_D G b5 10 u_9, tc_X2 a0 d0 d1 d2 d3 pn, tc_F G d0 3 u_17, tc_I G d1 3 pl, tc_I G d2 3 dr, tc_I G d3 3 sp] := hD
    subst hw_16
    refine lv_aload hx hb dX2_grind_73 (lv_at hl 7 rfl) ?_
    refine va_get (D := G.1) (ci := 0) (v := .ref b4) (C := RX0) (T := TX0) (N := 7) hx hb hts hiX0 hown hK hP 0 rfl rfl 4 (by decide) (hts (.fieldLink RX2 68 "TideMill$Lots" "state" "[I") (List.mem_of_getElem? (i := 5) rfl)) (fun _ h9 => h9) rfl dX2_grind_75 ?_
    refine lv_iload hx hb dX2_grind_78 (lv_at hl 3 rfl) ?_
    refine va_iald (n := 10) (f := u_8) hx hb hK hP 5 0 rfl rfl (n_11 c_4 u_8 u_9 hw_7) dX2_grind_80 ?_
    refine lv_iconst (v := 2) hx hb dX2_grind_81 (by decide) ?_
    refine lv_icmp_ne (tgt := 92) hx hb dX2_grind_82 (by decide) (fun c_18 => ?_) (fun c_18 => ?_)
    · refine lv_dload hx hb dX2_grind_92 (lv_at hl 1 rfl) ?_
      have hP9 := hP.sub (ws' := [tc_X2 a0 d0 d1 d2 d3 pn, tc_F G d0 3 (f_X2_blunt dl p1 (FP.fdiv (FP.fmul (FP.d2f (FP.ddiv p2 (FP.dadd FP.dconst1 (FP.f2d (dl p1.toNatClampNeg))))) (f_X5_hardnessOf (gr (pl p1.toNatClampNeg).toNatClampNeg))) 1115684864)), tc_I G d1 3 pl, tc_I G d2 3 dr, tc_I G d3 3 sp, tc_X0 a1 b0 b1 b2 b3 b4 b5 ln, tc_I G b0 10 ow, tc_I G b1 10 gr, tc_I G b2 10 we, tc_I G b3 10 du, tc_I G b4 10 u_8, tc_D G b5 10 u_9]) [7, 8, 9, 10, 11, 0, 1, 2, 3, 4, 5, 6] rfl
      have hD9 := hD.sub (ws' := [tc_X2 a0 d0 d1 d2 d3 pn, tc_F G d0 3 (f_X2_blunt dl p1 (FP.fdiv (FP.fmul (FP.d2f (FP.ddiv p2 (FP.dadd FP.dconst1 (FP.f2d (dl p1.toNatClampNeg))))) (f_X5_hardnessOf (gr (pl p1.toNatClampNeg).toNatClampNeg))) 1115684864)), tc_I G d1 3 pl, tc_I G d2 3 dr, tc_I G d3 3 sp, tc_X0 a1 b0 b1 b2 b3 b4 b5 ln, tc_I G b0 10 ow, tc_I G b1 10 gr, tc_I G b2 10 we, tc_I G b3 10 du, tc_I G b4 10 u_8, tc_D G b5 10 u_9]) [7, 8, 9, 10, 11, 0, 1, 2, 3, 4, 5, 6] (by decide) rfl
      exact W.dret (v := p2) hx hb hr (fun t ht hW => ⟨⟨p2, (f_X2_blunt dl p1 (FP.fdiv (FP.fmul (FP.d2f (FP.ddiv p2 (FP.dadd FP.dconst1 (FP.f2d (dl p1.toNatClampNeg))))) (f_X5_hardnessOf (gr (pl p1.toNatClampNeg).toNatClampNeg))) 1115684864), pl, u_8, u_9), rfl, by unfold f_X2_grind; all_goals (rw [if_pos c_4]); all_goals (rw [← hw_7]); all_goals (dsimp only); all_goals (rw [if_neg c_18]); all_goals rfl, by rw [ht]; exact hP9, hD9⟩, hS.F ht⟩) hS.2.2 dX2_grind_94
    · refine lv_aload_n hx hb dX2_grind_85 rfl (lv_at hl 4 rfl) ?_
      refine va_get (D := G.1) (ci := 2) (v := .ref d1) (C := RX2) (T := TX2) (N := 5) hx hb hts hiX2 hown hK hP 7 rfl rfl 1 (by decide) (hts (.fieldLink RX2 15 "TideMill$Pairs" "lot" "[I") (List.mem_of_getElem? (i := 1) rfl)) (fun _ h9 => h9) rfl dX2_grind_86 ?_
      refine lv_iload_n hx hb dX2_grind_89 rfl (lv_at hl 5 rfl) ?_
      refine lv_iconst (v := (-1)) hx hb dX2_grind_90 (by decide) ?_
      refine va_iast (n := 3) (f := pl) hx hb hK hP hD hS 9 0 rfl rfl n_1 dX2_grind_91 (fun H locs hP hD hS => ?_)
      have hP : va_P G.1 vwCl [tc_X0 a1 b0 b1 b2 b3 b4 b5 ln, tc_I G b0 10 ow, tc_I G b1 10 gr, tc_I G b2 10 we, tc_I G b3 10 du, tc_I G b4 10 u_8, tc_D G b5 10 u_9, tc_X2 a0 d0 d1 d2 d3 pn, tc_F G d0 3 (f_X2_blunt dl p1 (FP.fdiv (FP.fmul (FP.d2f (FP.ddiv p2 (FP.dadd FP.dconst1 (FP.f2d (dl p1.toNatClampNeg))))) (f_X5_hardnessOf (gr (pl p1.toNatClampNeg).toNatClampNeg))) 1115684864)), tc_I G d1 3 (upd pl p1.toNatClampNeg (-1)), tc_I G d2 3 dr, tc_I G d3 3 sp] H := hP
      have hD : va_D A [tc_X0 a1 b0 b1 b2 b3 b4 b5 ln, tc_I G b0 10 ow, tc_I G b1 10 gr, tc_I G b2 10 we, tc_I G b3 10 du, tc_I G b4 10 u_8, tc_D G b5 10 u_9, tc_X2 a0 d0 d1 d2 d3 pn, tc_F G d0 3 (f_X2_blunt dl p1 (FP.fdiv (FP.fmul (FP.d2f (FP.ddiv p2 (FP.dadd FP.dconst1 (FP.f2d (dl p1.toNatClampNeg))))) (f_X5_hardnessOf (gr (pl p1.toNatClampNeg).toNatClampNeg))) 1115684864)), tc_I G d1 3 (upd pl p1.toNatClampNeg (-1)), tc_I G d2 3 dr, tc_I G d3 3 sp] := hD
      refine lv_dload hx hb dX2_grind_92 (lv_at hl 1 rfl) ?_
      have hP9 := hP.sub (ws' := [tc_X2 a0 d0 d1 d2 d3 pn, tc_F G d0 3 (f_X2_blunt dl p1 (FP.fdiv (FP.fmul (FP.d2f (FP.ddiv p2 (FP.dadd FP.dconst1 (FP.f2d (dl p1.toNatClampNeg))))) (f_X5_hardnessOf (gr (pl p1.toNatClampNeg).toNatClampNeg))) 1115684864)), tc_I G d1 3 (upd pl p1.toNatClampNeg (-1)), tc_I G d2 3 dr, tc_I G d3 3 sp, tc_X0 a1 b0 b1 b2 b3 b4 b5 ln, tc_I G b0 10 ow, tc_I G b1 10 gr, tc_I G b2 10 we, tc_I G b3 10 du, tc_I G b4 10 u_8, tc_D G b5 10 u_9]) [7, 8, 9, 10, 11, 0, 1, 2, 3, 4, 5, 6] rfl
      have hD9 := hD.sub (ws' := [tc_X2 a0 d0 d1 d2 d3 pn, tc_F G d0 3 (f_X2_blunt dl p1 (FP.fdiv (FP.fmul (FP.d2f (FP.ddiv p2 (FP.dadd FP.dconst1 (FP.f2d (dl p1.toNatClampNeg))))) (f_X5_hardnessOf (gr (pl p1.toNatClampNeg).toNatClampNeg))) 1115684864)), tc_I G d1 3 (upd pl p1.toNatClampNeg (-1)), tc_I G d2 3 dr, tc_I G d3 3 sp, tc_X0 a1 b0 b1 b2 b3 b4 b5 ln, tc_I G b0 10 ow, tc_I G b1 10 gr, tc_I G b2 10 we, tc_I G b3 10 du, tc_I G b4 10 u_8, tc_D G b5 10 u_9]) [7, 8, 9, 10, 11, 0, 1, 2, 3, 4, 5, 6] (by decide) rfl
      exact W.dret (v := p2) hx hb hr (fun t ht hW => ⟨⟨p2, (f_X2_blunt dl p1 (FP.fdiv (FP.fmul (FP.d2f (FP.ddiv p2 (FP.dadd FP.dconst1 (FP.f2d (dl p1.toNatClampNeg))))) (f_X5_hardnessOf (gr (pl p1.toNatClampNeg).toNatClampNeg))) 1115684864), upd pl p1.toNatClampNeg (-1), u_8, u_9), rfl, by unfold f_X2_grind; all_goals (rw [if_pos c_4]); all_goals (rw [← hw_7]); all_goals (dsimp only); all_goals (rw [if_pos c_18]); all_goals rfl, by rw [ht]; exact hP9, hD9⟩, hS.F ht⟩) hS.2.2 dX2_grind_94
  · refine lv_dload hx hb dX2_grind_26 (lv_at hl 0 rfl) ?_
    refine lv_goto (tgt := 32) hx hb dX2_grind_28 (by decide) ?_
    refine lv_dstore (lv' := [(8, .double (FP.dadd FP.dconst1 (FP.f2d (dl p1.toNatClampNeg)))), (6, .double (FP.dadd FP.dconst1 (FP.f2d (dl p1.toNatClampNeg)))), (5, .int (pl p1.toNatClampNeg)), (0, .ref a0), (1, .int p1), (2, .double p2), (4, .ref a1)]) hx hb dX2_grind_32 hl (by decide) rfl (fun ls hl => ?_)
    refine lv_dload hx hb dX2_grind_34 (lv_at hl 0 rfl) ?_
    refine lv_dload hx hb dX2_grind_36 (lv_at hl 1 rfl) ?_
    refine lv_ddiv hx hb dX2_grind_38 (n_19 c_4) ?_
    refine lv_dstore (lv' := [(10, .double (FP.ddiv (FP.dadd FP.dconst1 (FP.f2d (dl p1.toNatClampNeg))) (FP.dadd FP.dconst1 (FP.f2d (dl p1.toNatClampNeg))))), (8, .double (FP.dadd FP.dconst1 (FP.f2d (dl p1.toNatClampNeg)))), (6, .double (FP.dadd FP.dconst1 (FP.f2d (dl p1.toNatClampNeg)))), (5, .int (pl p1.toNatClampNeg)), (0, .ref a0), (1, .int p1), (2, .double p2), (4, .ref a1)]) hx hb dX2_grind_39 hl (by decide) rfl (fun ls hl => ?_)
    refine lv_aload hx hb dX2_grind_41 (lv_at hl 7 rfl) ?_
    refine lv_iload hx hb dX2_grind_43 (lv_at hl 3 rfl) ?_
    refine lv_dload hx hb dX2_grind_45 (lv_at hl 0 rfl) ?_
    have hPc := hP.sub (ws' := [tc_X0 a1 b0 b1 b2 b3 b4 b5 ln, tc_I G b0 10 ow, tc_I G b1 10 gr, tc_I G b2 10 we, tc_I G b3 10 du, tc_I G b4 10 sa, tc_D G b5 10 le]) [5, 6, 7, 8, 9, 10, 11] rfl
    have hDc := hD.sub (ws' := [tc_X0 a1 b0 b1 b2 b3 b4 b5 ln, tc_I G b0 10 ow, tc_I G b1 10 gr, tc_I G b2 10 we, tc_I G b3 10 du, tc_I G b4 10 sa, tc_D G b5 10 le]) [5, 6, 7, 8, 9, 10, 11] (by decide) rfl
    have hFc := va_free (wc := [tc_X0 a1 b0 b1 b2 b3 b4 b5 ln, tc_I G b0 10 ow, tc_I G b1 10 gr, tc_I G b2 10 we, tc_I G b3 10 du, tc_I G b4 10 sa, tc_D G b5 10 le]) hD hS hA [5, 6, 7, 8, 9, 10, 11] rfl
    refine va_callv (va_runV (As := [.int (pl p1.toNatClampNeg), .double (FP.ddiv (FP.dadd FP.dconst1 (FP.f2d (dl p1.toNatClampNeg))) (FP.dadd FP.dconst1 (FP.f2d (dl p1.toNatClampNeg))))]) (rest := []) ⟨hx, hb, hml, hown, hts⟩ (c_X0_grind l G a1 b0 b1 b2 b3 b4 b5 s.heap.size ln ow gr we du sa le (pl p1.toNatClampNeg) (FP.ddiv (FP.dadd FP.dconst1 (FP.f2d (dl p1.toNatClampNeg))) (FP.dadd FP.dconst1 (FP.f2d (dl p1.toNatClampNeg)))) (n_20 c_4)) (cwV 2 hts gX2_grind_X0_grind rfl rfl rfl (by decide +kernel) ⟨(Nat.le_of_ble_eq_true rfl), (Nat.le_of_ble_eq_true rfl)⟩) (tm_preV hK hN hV hS hPc hDc hFc (va_recv hK hPc (ci := 0) (q0 := 0) rfl rfl)) rfl rfl hl.1 rfl (lv_room (Nat.le_of_ble_eq_true rfl)) dX2_grind_47 ⟨(Nat.le_of_ble_eq_true rfl), (Nat.le_of_ble_eq_true rfl)⟩) hS (fun q _ h => hFc q h) hFc (fun u t H locs ht hvm hw_21 hB hz1 hk1 hS => ?_)
    obtain ⟨u_22, u_23⟩ := u
    obtain ⟨hP1, hD1⟩ := hB
    rw [ht] at hP1
    try dsimp only at hw_21
    obtain ⟨hP, hD⟩ := va_join (wr := [tc_X2 a0 d0 d1 d2 d3 pn, tc_F G d0 3 dl, tc_I G d1 3 pl, tc_I G d2 3 dr, tc_I G d3 3 sp]) (w1 := [tc_X0 a1 b0 b1 b2 b3 b4 b5 ln, tc_I G b0 10 ow, tc_I G b1 10 gr, tc_I G b2 10 we, tc_I G b3 10 du, tc_I G b4 10 u_22, tc_D G b5 10 u_23]) hP hD [5, 6, 7, 8, 9, 10, 11] [0, 1, 2, 3, 4] rfl rfl (by decide) (by decide) hk1 hFc hP1 hD1
    have hP : va_P G.1 vwCl [tc_X2 a0 d0 d1 d2 d3 pn, tc_F G d0 3 dl, tc_I G d1 3 pl, tc_I G d2 3 dr, tc_I G d3 3 sp, tc_X0 a1 b0 b1 b2 b3 b4 b5 ln, tc_I G b0 10 ow, tc_I G b1 10 gr, tc_I G b2 10 we, tc_I G b3 10 du, tc_I G b4 10 u_22, tc_D G b5 10 u_23] H := hP
    have hD : va_D A [tc_X2 a0 d0 d1 d2 d3 pn, tc_F G d0 3 dl, tc_I G d1 3 pl, tc_I G d2 3 dr, tc_I G d3 3 sp, tc_X0 a1 b0 b1 b2 b3 b4 b5 ln, tc_I G b0 10 ow, tc_I G b1 10 gr, tc_I G b2 10 we, tc_I G b3 10 du, tc_I G b4 10 u_22, tc_D G b5 10 u_23] := hD
    refine lv_aload_n hx hb dX2_grind_50 rfl (lv_at hl 4 rfl) ?_
    refine lv_iload_n hx hb dX2_grind_51 rfl (lv_at hl 5 rfl) ?_
    refine lv_dload hx hb dX2_grind_52 (lv_at hl 0 rfl) ?_
    refine lv_d2f hx hb dX2_grind_54 (n_24 c_4 u_22 u_23 hw_21) ?_
    refine lv_aload hx hb dX2_grind_55 (lv_at hl 7 rfl) ?_
    refine va_get (D := G.1) (ci := 0) (v := .ref b1) (C := RX0) (T := TX0) (N := 7) hx hb hts hiX0 hown hK hP 5 rfl rfl 1 (by decide) (hts (.fieldLink RX2 60 "TideMill$Lots" "grain" "[I") (List.mem_of_getElem? (i := 3) rfl)) (fun _ h9 => h9) rfl dX2_grind_57 ?_
    refine lv_iload hx hb dX2_grind_60 (lv_at hl 3 rfl) ?_
    refine va_iald (n := 10) (f := gr) hx hb hK hP 7 0 rfl rfl (n_25 c_4 u_22 u_23 hw_21) dX2_grind_62 ?_
    have hPc := hP.sub (ws' := []) [] rfl
    have hDc := hD.sub (ws' := []) [] (by decide) rfl
    have hFc := va_free (wc := []) hD hS hA [] rfl
    refine va_callf (va_runSN (As := [.int (gr (pl p1.toNatClampNeg).toNatClampNeg)]) (rest := [.float (FP.d2f (FP.ddiv (FP.dadd FP.dconst1 (FP.f2d (dl p1.toNatClampNeg))) (FP.dadd FP.dconst1 (FP.f2d (dl p1.toNatClampNeg))))), .int p1, .ref a0]) ⟨hx, hb, hml, hown, hts⟩ (c_X5_hardnessOf l G  H.size (gr (pl p1.toNatClampNeg).toNatClampNeg) ) ⟨va_cnB 1 hts gX2_grind_X5_hardnessOf_n63 rfl rfl rfl (tm_N_X2_63 hN) (hts (.initialized RX5) (List.mem_of_getElem? (i := 15) rfl)) (by decide +kernel) ⟨(Nat.le_of_ble_eq_true rfl), (Nat.le_of_ble_eq_true rfl)⟩, (hts (.static yX5_hardnessOf) (List.mem_of_getElem? (i := 20) rfl)), trivial⟩ (tm_preS hK hN hV hS hPc hDc hFc) rfl rfl hl.1 rfl (lv_room (Nat.le_of_ble_eq_true rfl)) dX2_grind_63 ⟨(Nat.le_of_ble_eq_true rfl), (Nat.le_of_ble_eq_true rfl)⟩) hS (fun q _ h => hFc q h) hFc (fun r_26 u t H locs ht hvm hw_26 hB hz1 hk1 hS => ?_)
    obtain ⟨hP1, hD1⟩ := hB
    rw [ht] at hP1
    try dsimp only at hw_26
    obtain ⟨hP, hD⟩ := va_join (wr := [tc_X2 a0 d0 d1 d2 d3 pn, tc_F G d0 3 dl, tc_I G d1 3 pl, tc_I G d2 3 dr, tc_I G d3 3 sp, tc_X0 a1 b0 b1 b2 b3 b4 b5 ln, tc_I G b0 10 ow, tc_I G b1 10 gr, tc_I G b2 10 we, tc_I G b3 10 du, tc_I G b4 10 u_22, tc_D G b5 10 u_23]) (w1 := []) hP hD [] [0, 1, 2, 3, 4, 5, 6, 7, 8, 9, 10, 11] rfl rfl (by decide) (by decide) hk1 hFc hP1 hD1
    have hP : va_P G.1 vwCl [tc_X2 a0 d0 d1 d2 d3 pn, tc_F G d0 3 dl, tc_I G d1 3 pl, tc_I G d2 3 dr, tc_I G d3 3 sp, tc_X0 a1 b0 b1 b2 b3 b4 b5 ln, tc_I G b0 10 ow, tc_I G b1 10 gr, tc_I G b2 10 we, tc_I G b3 10 du, tc_I G b4 10 u_22, tc_D G b5 10 u_23] H := hP
    have hD : va_D A [tc_X2 a0 d0 d1 d2 d3 pn, tc_F G d0 3 dl, tc_I G d1 3 pl, tc_I G d2 3 dr, tc_I G d3 3 sp, tc_X0 a1 b0 b1 b2 b3 b4 b5 ln, tc_I G b0 10 ow, tc_I G b1 10 gr, tc_I G b2 10 we, tc_I G b3 10 du, tc_I G b4 10 u_22, tc_D G b5 10 u_23] := hD
    subst hw_26
    refine lv_fmul hx hb dX2_grind_66 (n_27 c_4 u_22 u_23 hw_21) ?_
    refine lv_ldcf hx hb hown (hts (.constantFloat RX2 67 (1115684864)) (List.mem_of_getElem? (i := 4) rfl)) dX2_grind_67 ?_
    refine lv_fdiv hx hb dX2_grind_69 (n_28 c_4 u_22 u_23 hw_21) ?_
    have hPc := hP.sub (ws' := [tc_X2 a0 d0 d1 d2 d3 pn, tc_F G d0 3 dl, tc_I G d1 3 pl, tc_I G d2 3 dr, tc_I G d3 3 sp]) [0, 1, 2, 3, 4] rfl
    have hDc := hD.sub (ws' := [tc_X2 a0 d0 d1 d2 d3 pn, tc_F G d0 3 dl, tc_I G d1 3 pl, tc_I G d2 3 dr, tc_I G d3 3 sp]) [0, 1, 2, 3, 4] (by decide) rfl
    have hFc := va_free (wc := [tc_X2 a0 d0 d1 d2 d3 pn, tc_F G d0 3 dl, tc_I G d1 3 pl, tc_I G d2 3 dr, tc_I G d3 3 sp]) hD hS hA [0, 1, 2, 3, 4] rfl
    refine va_callv (va_runV (As := [.int p1, .float (FP.fdiv (FP.fmul (FP.d2f (FP.ddiv (FP.dadd FP.dconst1 (FP.f2d (dl p1.toNatClampNeg))) (FP.dadd FP.dconst1 (FP.f2d (dl p1.toNatClampNeg))))) (f_X5_hardnessOf (gr (pl p1.toNatClampNeg).toNatClampNeg))) 1115684864)]) (rest := []) ⟨hx, hb, hml, hown, hts⟩ (c_X2_blunt l G a0 d0 d1 d2 d3 H.size pn dl pl dr sp p1 (FP.fdiv (FP.fmul (FP.d2f (FP.ddiv (FP.dadd FP.dconst1 (FP.f2d (dl p1.toNatClampNeg))) (FP.dadd FP.dconst1 (FP.f2d (dl p1.toNatClampNeg))))) (f_X5_hardnessOf (gr (pl p1.toNatClampNeg).toNatClampNeg))) 1115684864) (n_29 c_4 u_22 u_23 hw_21)) (cwV 2 hts gX2_grind_X2_blunt rfl rfl rfl (by decide +kernel) ⟨(Nat.le_of_ble_eq_true rfl), (Nat.le_of_ble_eq_true rfl)⟩) (tm_preV hK hN hV hS hPc hDc hFc (va_recv hK hPc (ci := 2) (q0 := 0) rfl rfl)) rfl rfl hl.1 rfl (lv_room (Nat.le_of_ble_eq_true rfl)) dX2_grind_70 ⟨(Nat.le_of_ble_eq_true rfl), (Nat.le_of_ble_eq_true rfl)⟩) hS (fun q _ h => hFc q h) hFc (fun u t H locs ht hvm hw_30 hB hz1 hk1 hS => ?_)
    obtain ⟨u_31, rfl⟩ : ∃ z, z = u := ⟨_, rfl⟩
    obtain ⟨hP1, hD1⟩ := hB
    rw [ht] at hP1
    try dsimp only at hw_30
    obtain ⟨hP, hD⟩ := va_join (wr := [tc_X0 a1 b0 b1 b2 b3 b4 b5 ln, tc_I G b0 10 ow, tc_I G b1 10 gr, tc_I G b2 10 we, tc_I G b3 10 du, tc_I G b4 10 u_22, tc_D G b5 10 u_23]) (w1 := [tc_X2 a0 d0 d1 d2 d3 pn, tc_F G d0 3 u_31, tc_I G d1 3 pl, tc_I G d2 3 dr, tc_I G d3 3 sp]) hP hD [0, 1, 2, 3, 4] [5, 6, 7, 8, 9, 10, 11] rfl rfl (by decide) (by decide) hk1 hFc hP1 hD1
    have hP : va_P G.1 vwCl [tc_X0 a1 b0 b1 b2 b3 b4 b5 ln, tc_I G b0 10 ow, tc_I G b1 10 gr, tc_I G b2 10 we, tc_I G b3 10 du, tc_I G b4 10 u_22, tc_D G b5 10 u_23, tc_X2 a0 d0 d1 d2 d3 pn, tc_F G d0 3 u_31, tc_I G d1 3 pl, tc_I G d2 3 dr, tc_I G d3 3 sp] H := hP
    have hD : va_D A [tc_X0 a1 b0 b1 b2 b3 b4 b5 ln, tc_I G b0 10 ow, tc_I G b1 10 gr, tc_I G b2 10 we, tc_I G b3 10 du, tc_I G b4 10 u_22, tc_D G b5 10 u_23, tc_X2 a0 d0 d1 d2 d3 pn, tc_F G d0 3 u_31, tc_I G d1 3 pl, tc_I G d2 3 dr, tc_I G d3 3 sp] := hD
    subst hw_30
    refine lv_aload hx hb dX2_grind_73 (lv_at hl 7 rfl) ?_
    refine va_get (D := G.1) (ci := 0) (v := .ref b4) (C := RX0) (T := TX0) (N := 7) hx hb hts hiX0 hown hK hP 0 rfl rfl 4 (by decide) (hts (.fieldLink RX2 68 "TideMill$Lots" "state" "[I") (List.mem_of_getElem? (i := 5) rfl)) (fun _ h9 => h9) rfl dX2_grind_75 ?_
    refine lv_iload hx hb dX2_grind_78 (lv_at hl 3 rfl) ?_
    refine va_iald (n := 10) (f := u_22) hx hb hK hP 5 0 rfl rfl (n_25 c_4 u_22 u_23 hw_21) dX2_grind_80 ?_
    refine lv_iconst (v := 2) hx hb dX2_grind_81 (by decide) ?_
    refine lv_icmp_ne (tgt := 92) hx hb dX2_grind_82 (by decide) (fun c_32 => ?_) (fun c_32 => ?_)
    · refine lv_dload hx hb dX2_grind_92 (lv_at hl 1 rfl) ?_
      have hP9 := hP.sub (ws' := [tc_X2 a0 d0 d1 d2 d3 pn, tc_F G d0 3 (f_X2_blunt dl p1 (FP.fdiv (FP.fmul (FP.d2f (FP.ddiv (FP.dadd FP.dconst1 (FP.f2d (dl p1.toNatClampNeg))) (FP.dadd FP.dconst1 (FP.f2d (dl p1.toNatClampNeg))))) (f_X5_hardnessOf (gr (pl p1.toNatClampNeg).toNatClampNeg))) 1115684864)), tc_I G d1 3 pl, tc_I G d2 3 dr, tc_I G d3 3 sp, tc_X0 a1 b0 b1 b2 b3 b4 b5 ln, tc_I G b0 10 ow, tc_I G b1 10 gr, tc_I G b2 10 we, tc_I G b3 10 du, tc_I G b4 10 u_22, tc_D G b5 10 u_23]) [7, 8, 9, 10, 11, 0, 1, 2, 3, 4, 5, 6] rfl
      have hD9 := hD.sub (ws' := [tc_X2 a0 d0 d1 d2 d3 pn, tc_F G d0 3 (f_X2_blunt dl p1 (FP.fdiv (FP.fmul (FP.d2f (FP.ddiv (FP.dadd FP.dconst1 (FP.f2d (dl p1.toNatClampNeg))) (FP.dadd FP.dconst1 (FP.f2d (dl p1.toNatClampNeg))))) (f_X5_hardnessOf (gr (pl p1.toNatClampNeg).toNatClampNeg))) 1115684864)), tc_I G d1 3 pl, tc_I G d2 3 dr, tc_I G d3 3 sp, tc_X0 a1 b0 b1 b2 b3 b4 b5 ln, tc_I G b0 10 ow, tc_I G b1 10 gr, tc_I G b2 10 we, tc_I G b3 10 du, tc_I G b4 10 u_22, tc_D G b5 10 u_23]) [7, 8, 9, 10, 11, 0, 1, 2, 3, 4, 5, 6] (by decide) rfl
      exact W.dret (v := FP.dadd FP.dconst1 (FP.f2d (dl p1.toNatClampNeg))) hx hb hr (fun t ht hW => ⟨⟨FP.dadd FP.dconst1 (FP.f2d (dl p1.toNatClampNeg)), (f_X2_blunt dl p1 (FP.fdiv (FP.fmul (FP.d2f (FP.ddiv (FP.dadd FP.dconst1 (FP.f2d (dl p1.toNatClampNeg))) (FP.dadd FP.dconst1 (FP.f2d (dl p1.toNatClampNeg))))) (f_X5_hardnessOf (gr (pl p1.toNatClampNeg).toNatClampNeg))) 1115684864), pl, u_22, u_23), rfl, by unfold f_X2_grind; all_goals (rw [if_neg c_4]); all_goals (rw [← hw_21]); all_goals (dsimp only); all_goals (rw [if_neg c_32]); all_goals rfl, by rw [ht]; exact hP9, hD9⟩, hS.F ht⟩) hS.2.2 dX2_grind_94
    · refine lv_aload_n hx hb dX2_grind_85 rfl (lv_at hl 4 rfl) ?_
      refine va_get (D := G.1) (ci := 2) (v := .ref d1) (C := RX2) (T := TX2) (N := 5) hx hb hts hiX2 hown hK hP 7 rfl rfl 1 (by decide) (hts (.fieldLink RX2 15 "TideMill$Pairs" "lot" "[I") (List.mem_of_getElem? (i := 1) rfl)) (fun _ h9 => h9) rfl dX2_grind_86 ?_
      refine lv_iload_n hx hb dX2_grind_89 rfl (lv_at hl 5 rfl) ?_
      refine lv_iconst (v := (-1)) hx hb dX2_grind_90 (by decide) ?_
      refine va_iast (n := 3) (f := pl) hx hb hK hP hD hS 9 0 rfl rfl n_1 dX2_grind_91 (fun H locs hP hD hS => ?_)
      have hP : va_P G.1 vwCl [tc_X0 a1 b0 b1 b2 b3 b4 b5 ln, tc_I G b0 10 ow, tc_I G b1 10 gr, tc_I G b2 10 we, tc_I G b3 10 du, tc_I G b4 10 u_22, tc_D G b5 10 u_23, tc_X2 a0 d0 d1 d2 d3 pn, tc_F G d0 3 (f_X2_blunt dl p1 (FP.fdiv (FP.fmul (FP.d2f (FP.ddiv (FP.dadd FP.dconst1 (FP.f2d (dl p1.toNatClampNeg))) (FP.dadd FP.dconst1 (FP.f2d (dl p1.toNatClampNeg))))) (f_X5_hardnessOf (gr (pl p1.toNatClampNeg).toNatClampNeg))) 1115684864)), tc_I G d1 3 (upd pl p1.toNatClampNeg (-1)), tc_I G d2 3 dr, tc_I G d3 3 sp] H := hP
      have hD : va_D A [tc_X0 a1 b0 b1 b2 b3 b4 b5 ln, tc_I G b0 10 ow, tc_I G b1 10 gr, tc_I G b2 10 we, tc_I G b3 10 du, tc_I G b4 10 u_22, tc_D G b5 10 u_23, tc_X2 a0 d0 d1 d2 d3 pn, tc_F G d0 3 (f_X2_blunt dl p1 (FP.fdiv (FP.fmul (FP.d2f (FP.ddiv (FP.dadd FP.dconst1 (FP.f2d (dl p1.toNatClampNeg))) (FP.dadd FP.dconst1 (FP.f2d (dl p1.toNatClampNeg))))) (f_X5_hardnessOf (gr (pl p1.toNatClampNeg).toNatClampNeg))) 1115684864)), tc_I G d1 3 (upd pl p1.toNatClampNeg (-1)), tc_I G d2 3 dr, tc_I G d3 3 sp] := hD
      refine lv_dload hx hb dX2_grind_92 (lv_at hl 1 rfl) ?_
      have hP9 := hP.sub (ws' := [tc_X2 a0 d0 d1 d2 d3 pn, tc_F G d0 3 (f_X2_blunt dl p1 (FP.fdiv (FP.fmul (FP.d2f (FP.ddiv (FP.dadd FP.dconst1 (FP.f2d (dl p1.toNatClampNeg))) (FP.dadd FP.dconst1 (FP.f2d (dl p1.toNatClampNeg))))) (f_X5_hardnessOf (gr (pl p1.toNatClampNeg).toNatClampNeg))) 1115684864)), tc_I G d1 3 (upd pl p1.toNatClampNeg (-1)), tc_I G d2 3 dr, tc_I G d3 3 sp, tc_X0 a1 b0 b1 b2 b3 b4 b5 ln, tc_I G b0 10 ow, tc_I G b1 10 gr, tc_I G b2 10 we, tc_I G b3 10 du, tc_I G b4 10 u_22, tc_D G b5 10 u_23]) [7, 8, 9, 10, 11, 0, 1, 2, 3, 4, 5, 6] rfl
      have hD9 := hD.sub (ws' := [tc_X2 a0 d0 d1 d2 d3 pn, tc_F G d0 3 (f_X2_blunt dl p1 (FP.fdiv (FP.fmul (FP.d2f (FP.ddiv (FP.dadd FP.dconst1 (FP.f2d (dl p1.toNatClampNeg))) (FP.dadd FP.dconst1 (FP.f2d (dl p1.toNatClampNeg))))) (f_X5_hardnessOf (gr (pl p1.toNatClampNeg).toNatClampNeg))) 1115684864)), tc_I G d1 3 (upd pl p1.toNatClampNeg (-1)), tc_I G d2 3 dr, tc_I G d3 3 sp, tc_X0 a1 b0 b1 b2 b3 b4 b5 ln, tc_I G b0 10 ow, tc_I G b1 10 gr, tc_I G b2 10 we, tc_I G b3 10 du, tc_I G b4 10 u_22, tc_D G b5 10 u_23]) [7, 8, 9, 10, 11, 0, 1, 2, 3, 4, 5, 6] (by decide) rfl
      exact W.dret (v := FP.dadd FP.dconst1 (FP.f2d (dl p1.toNatClampNeg))) hx hb hr (fun t ht hW => ⟨⟨FP.dadd FP.dconst1 (FP.f2d (dl p1.toNatClampNeg)), (f_X2_blunt dl p1 (FP.fdiv (FP.fmul (FP.d2f (FP.ddiv (FP.dadd FP.dconst1 (FP.f2d (dl p1.toNatClampNeg))) (FP.dadd FP.dconst1 (FP.f2d (dl p1.toNatClampNeg))))) (f_X5_hardnessOf (gr (pl p1.toNatClampNeg).toNatClampNeg))) 1115684864), upd pl p1.toNatClampNeg (-1), u_22, u_23), rfl, by unfold f_X2_grind; all_goals (rw [if_neg c_4]); all_goals (rw [← hw_21]); all_goals (dsimp only); all_goals (rw [if_pos c_32]); all_goals rfl, by rw [ht]; exact hP9, hD9⟩, hS.F ht⟩) hS.2.2 dX2_grind_94
set_option maxHeartbeats 4000000 in
set_option maxRecDepth 100000 in
theorem c_X2_spark (l : Launch) (G : tm_G) (a0 : Nat) (d0 : Nat) (d1 : Nat) (d2 : Nat) (d3 : Nat) (sz : Nat) (pn : Int32) (dl : Nat → UInt32) (pl : Nat → Int32) (dr : Nat → Int32) (sp : Nat → Int32) (p1 : Int32) (hn : n_X2_spark dl p1) : Met l yX2_spark wsX2_spark ({ frames := 1, cells := 0, slots := 0, locals := 23 }) (va_Pc [.ref a0, .int p1] (tm_B G [tc_X2 a0 d0 d1 d2 d3 pn, tc_F G d0 3 dl, tc_I G d1 3 pl, tc_I G d2 3 dr, tc_I G d3 3 sp] sz)) (va_Qv (fun (u : (Nat → UInt32) × (Nat → Int32)) => u = f_X2_spark dl sp p1) (fun (u : (Nat → UInt32) × (Nat → Int32)) (t : State) => va_P G.1 vwCl [tc_X2 a0 d0 d1 d2 d3 pn, tc_F G d0 3 u.1, tc_I G d1 3 pl, tc_I G d2 3 dr, tc_I G d3 3 u.2] t.heap ∧ va_D (va_A [tc_X2 a0 d0 d1 d2 d3 pn, tc_F G d0 3 dl, tc_I G d1 3 pl, tc_I G d2 3 dr, tc_I G d3 3 sp] sz) [tc_X2 a0 d0 d1 d2 d3 pn, tc_F G d0 3 u.1, tc_I G d1 3 pl, tc_I G d2 3 dr, tc_I G d3 3 u.2]) (va_A [tc_X2 a0 d0 d1 d2 d3 pn, tc_F G d0 3 dl, tc_I G d1 3 pl, tc_I G d2 3 dr, tc_I G d3 3 sp] sz)) 0 0 (va_A [tc_X2 a0 d0 d1 d2 d3 pn, tc_F G d0 3 dl, tc_I G d1 3 pl, tc_I G d2 3 dr, tc_I G d3 3 sp] sz) := by
  refine Met.ofW (cc := cX2_spark) (maxL := 2) (ret := none) (by decide) rfl ?_
  intro p e s m args below meth c s₁ B hml hv
  obtain ⟨rfl, hsz, hP, hK, hD0, hN, hV⟩ := hv
  have hx := B.exec
  have hb := B.bytes
  have hr := B.returns
  have hts := atoms_spec (ws := wsX2_spark) B.pre
  have hown : s.vm.findClass RX2 = some m.cls := findClass_of_methodNamed B.named
  have hlocks := B.notSynchronized
  subst hsz
  obtain ⟨n_1, n_2⟩ := hn
  have hiX2 : ∀ w ∈ u_ws RX2 TX2 5, w ∈ wsX2_spark := fun _ h => List.mem_cons_of_mem _ (List.mem_append_right _ h)
  have hD := hD0.self (sz := s.heap.size)
  generalize hAe : va_A [tc_X2 a0 d0 d1 d2 d3 pn, tc_F G d0 3 dl, tc_I G d1 3 pl, tc_I G d2 3 dr, tc_I G d3 3 sp] s.heap.size = A at hD hV ⊢
  have hA : ∀ q : Nat, s.heap.size ≤ q → A q := fun q h => by rw [← hAe]; exact Or.inr h
  have hS : va_S A s.heap s.heap [] := va_S.rf
  have hl := lv_entry ([.ref a0, .int p1]) (n := 2) (Nat.le_of_ble_eq_true rfl)
  rw [lg_entry_eq]
  generalize (lg_sl ([.ref a0, .int p1]) ++ List.replicate (2 - (lg_sl ([.ref a0, .int p1])).length) Slot.unset).toArray = ls at hl ⊢
  have hl : lv_has ls 2 [(0, .ref a0), (1, .int p1)] := hl
  refine lv_aload_n hx hb dX2_spark_0 rfl (lv_at hl 0 rfl) ?_
  refine va_get (D := G.1) (ci := 2) (v := .ref d3) (C := RX2) (T := TX2) (N := 5) hx hb hts hiX2 hown hK hP 0 rfl rfl 3 (by decide) (hts (.fieldLink RX2 22 "TideMill$Pairs" "sparks" "[I") (List.mem_of_getElem? (i := 1) rfl)) (fun _ h9 => h9) rfl dX2_spark_1 ?_
  refine lv_iload_n hx hb dX2_spark_4 rfl (lv_at hl 1 rfl) ?_
  refine lv_dup2_11 hx hb dX2_spark_5 rfl rfl ?_
  refine va_iald (n := 3) (f := sp) hx hb hK hP 4 0 rfl rfl n_1 dX2_spark_6 ?_
  refine lv_iconst (v := 1) hx hb dX2_spark_7 (by decide) ?_
  refine lv_iadd hx hb dX2_spark_8 ?_
  refine va_iast (n := 3) (f := sp) hx hb hK hP hD hS 4 0 rfl rfl n_1 dX2_spark_9 (fun H locs hP hD hS => ?_)
  have hP : va_P G.1 vwCl [tc_X2 a0 d0 d1 d2 d3 pn, tc_F G d0 3 dl, tc_I G d1 3 pl, tc_I G d2 3 dr, tc_I G d3 3 (upd sp p1.toNatClampNeg ((sp p1.toNatClampNeg) + 1))] H := hP
  have hD : va_D A [tc_X2 a0 d0 d1 d2 d3 pn, tc_F G d0 3 dl, tc_I G d1 3 pl, tc_I G d2 3 dr, tc_I G d3 3 (upd sp p1.toNatClampNeg ((sp p1.toNatClampNeg) + 1))] := hD
  refine lv_aload_n hx hb dX2_spark_10 rfl (lv_at hl 0 rfl) ?_
  refine lv_iload_n hx hb dX2_spark_11 rfl (lv_at hl 1 rfl) ?_
  refine lv_ldcf hx hb hown (hts (.constantFloat RX2 52 (1040187392)) (List.mem_of_getElem? (i := 2) rfl)) dX2_spark_12 ?_
  have hPc := hP.sub (ws' := [tc_X2 a0 d0 d1 d2 d3 pn, tc_F G d0 3 dl, tc_I G d1 3 pl, tc_I G d2 3 dr, tc_I G d3 3 (upd sp p1.toNatClampNeg ((sp p1.toNatClampNeg) + 1))]) [0, 1, 2, 3, 4] rfl
  have hDc := hD.sub (ws' := [tc_X2 a0 d0 d1 d2 d3 pn, tc_F G d0 3 dl, tc_I G d1 3 pl, tc_I G d2 3 dr, tc_I G d3 3 (upd sp p1.toNatClampNeg ((sp p1.toNatClampNeg) + 1))]) [0, 1, 2, 3, 4] (by decide) rfl
  have hFc := va_free (wc := [tc_X2 a0 d0 d1 d2 d3 pn, tc_F G d0 3 dl, tc_I G d1 3 pl, tc_I G d2 3 dr, tc_I G d3 3 (upd sp p1.toNatClampNeg ((sp p1.toNatClampNeg) + 1))]) hD hS hA [0, 1, 2, 3, 4] rfl
  refine va_callv (va_runV (As := [.int p1, .float 1040187392]) (rest := []) ⟨hx, hb, hml, hown, hts⟩ (c_X2_blunt l G a0 d0 d1 d2 d3 H.size pn dl pl dr (upd sp p1.toNatClampNeg ((sp p1.toNatClampNeg) + 1)) p1 1040187392 n_2) (cwV 2 hts gX2_spark_X2_blunt rfl rfl rfl (by decide +kernel) ⟨(Nat.le_of_ble_eq_true rfl), (Nat.le_of_ble_eq_true rfl)⟩) (tm_preV hK hN hV hS hPc hDc hFc (va_recv hK hPc (ci := 2) (q0 := 0) rfl rfl)) rfl rfl hl.1 rfl (lv_room (Nat.le_of_ble_eq_true rfl)) dX2_spark_14 ⟨(Nat.le_of_ble_eq_true rfl), (Nat.le_of_ble_eq_true rfl)⟩) hS (fun q _ h => hFc q h) hFc (fun u t H locs ht hvm hw_3 hB hz1 hk1 hS => ?_)
  obtain ⟨u_4, rfl⟩ : ∃ z, z = u := ⟨_, rfl⟩
  obtain ⟨hP1, hD1⟩ := hB
  rw [ht] at hP1
  try dsimp only at hw_3
  obtain ⟨hP, hD⟩ := va_join (wr := []) (w1 := [tc_X2 a0 d0 d1 d2 d3 pn, tc_F G d0 3 u_4, tc_I G d1 3 pl, tc_I G d2 3 dr, tc_I G d3 3 (upd sp p1.toNatClampNeg ((sp p1.toNatClampNeg) + 1))]) hP hD [0, 1, 2, 3, 4] [] rfl rfl (by decide) (by decide) hk1 hFc hP1 hD1
  have hP : va_P G.1 vwCl [tc_X2 a0 d0 d1 d2 d3 pn, tc_F G d0 3 u_4, tc_I G d1 3 pl, tc_I G d2 3 dr, tc_I G d3 3 (upd sp p1.toNatClampNeg ((sp p1.toNatClampNeg) + 1))] H := hP
  have hD : va_D A [tc_X2 a0 d0 d1 d2 d3 pn, tc_F G d0 3 u_4, tc_I G d1 3 pl, tc_I G d2 3 dr, tc_I G d3 3 (upd sp p1.toNatClampNeg ((sp p1.toNatClampNeg) + 1))] := hD
  subst hw_3
  have hP9 := hP.sub (ws' := [tc_X2 a0 d0 d1 d2 d3 pn, tc_F G d0 3 (f_X2_blunt dl p1 1040187392), tc_I G d1 3 pl, tc_I G d2 3 dr, tc_I G d3 3 (upd sp p1.toNatClampNeg ((sp p1.toNatClampNeg) + 1))]) [0, 1, 2, 3, 4] rfl
  have hD9 := hD.sub (ws' := [tc_X2 a0 d0 d1 d2 d3 pn, tc_F G d0 3 (f_X2_blunt dl p1 1040187392), tc_I G d1 3 pl, tc_I G d2 3 dr, tc_I G d3 3 (upd sp p1.toNatClampNeg ((sp p1.toNatClampNeg) + 1))]) [0, 1, 2, 3, 4] (by decide) rfl
  exact W.vret hx hb hr (fun t ht hW => ⟨⟨(f_X2_blunt dl p1 1040187392, upd sp p1.toNatClampNeg ((sp p1.toNatClampNeg) + 1)), rfl, by unfold f_X2_spark; all_goals rfl, by rw [ht]; exact hP9, hD9⟩, hS.F ht⟩) hS.2.2 dX2_spark_17
