set_option maxHeartbeats 4000000 in
set_option maxRecDepth 100000 in
theorem c_X5_moon (l : Launch) (G : tm_G) (a0 : Nat) (ma0 : Nat) (ta0 : Nat) (ma1 : Nat) (ma2 : Nat) (ma3 : Nat) (ma4 : Nat) (sz : Nat) (lk : Int32) (rf : Int32) (pu : Int32) (to : UInt64) (fh : Int32) (lh : Int32) (ee : Int32) (tk : Int32) (mo : Int32) (su : UInt64) (p1 : Int32) (hn : n_X5_moon p1) : Met l yX5_moon wsX5_moon ({ frames := 1, cells := 0, slots := 0, locals := 22 }) (va_Pc [.ref a0, .int p1] (tm_B G [tc_X5 a0 ma0 ta0 lk rf pu to, tc_X1 ma0 ma1 ma2 ma3 ma4 fh lh ee, tc_X4 ma1 tk mo su] sz)) (va_Qi (fun (r : Int32) (u : Int32) => (r, u) = f_X5_moon tk p1) (fun (u : Int32) (t : State) => va_P G.1 vwCl [tc_X5 a0 ma0 ta0 lk rf pu to, tc_X1 ma0 ma1 ma2 ma3 ma4 fh lh ee, tc_X4 ma1 tk u su] t.heap ∧ va_D (va_A [tc_X5 a0 ma0 ta0 lk rf pu to, tc_X1 ma0 ma1 ma2 ma3 ma4 fh lh ee, tc_X4 ma1 tk mo su] sz) [tc_X5 a0 ma0 ta0 lk rf pu to, tc_X1 ma0 ma1 ma2 ma3 ma4 fh lh ee, tc_X4 ma1 tk u su]) (va_A [tc_X5 a0 ma0 ta0 lk rf pu to, tc_X1 ma0 ma1 ma2 ma3 ma4 fh lh ee, tc_X4 ma1 tk mo su] sz)) 0 0 (va_A [tc_X5 a0 ma0 ta0 lk rf pu to, tc_X1 ma0 ma1 ma2 ma3 ma4 fh lh ee, tc_X4 ma1 tk mo su] sz) := by
  refine Met.ofW (cc := cX5_moon) (maxL := 2) (ret := (some .int)) (by decide) rfl ?_
  intro p e s m args below meth c s₁ B hml hv
  obtain ⟨rfl, hsz, hP, hK, hD0, hN, hV⟩ := hv
  have hx := B.exec
  have hb := B.bytes
  have hr := B.returns
  have hts := atoms_spec (ws := wsX5_moon) B.pre
  have hown : s.vm.findClass RX5 = some m.cls := findClass_of_methodNamed B.named
  have hlocks := B.notSynchronized
  subst hsz
  have na_0 := hn
  unfold n_X5_moon at na_0
  have hiX1 : ∀ w ∈ u_ws RX1 TX1 7, w ∈ wsX5_moon := fun _ h => List.mem_cons_of_mem _ (List.mem_append_left _ (List.mem_append_left _ (List.mem_append_right _ h)))
  have hiX4 : ∀ w ∈ u_ws RX4 TX4 3, w ∈ wsX5_moon := fun _ h => List.mem_cons_of_mem _ (List.mem_append_left _ (List.mem_append_right _ h))
  have hiX5 : ∀ w ∈ u_ws RX5 TX5 6, w ∈ wsX5_moon := fun _ h => List.mem_cons_of_mem _ (List.mem_append_left _ (List.mem_append_left _ (List.mem_append_left _ (List.mem_append_right _ h))))
  have hD := hD0.self (sz := s.heap.size)
  generalize hAe : va_A [tc_X5 a0 ma0 ta0 lk rf pu to, tc_X1 ma0 ma1 ma2 ma3 ma4 fh lh ee, tc_X4 ma1 tk mo su] s.heap.size = A at hD hV ⊢
  have hA : ∀ q : Nat, s.heap.size ≤ q → A q := fun q h => by rw [← hAe]; exact Or.inr h
  have hS : va_S A s.heap s.heap [] := va_S.rf
  have hl := lv_entry ([.ref a0, .int p1]) (n := 2) (Nat.le_of_ble_eq_true rfl)
  rw [lg_entry_eq]
  generalize (lg_sl ([.ref a0, .int p1]) ++ List.replicate (2 - (lg_sl ([.ref a0, .int p1])).length) Slot.unset).toArray = ls at hl ⊢
  have hl : lv_has ls 2 [(0, .ref a0), (1, .int p1)] := hl
  refine lv_iload_n hx hb dX5_moon_0 rfl (lv_at hl 1 rfl) ?_
  refine lv_iconst (v := 0) hx hb dX5_moon_1 (by decide) ?_
  refine lv_bipush (v := 29) hx hb dX5_moon_2 (by decide) ?_
  have hPc := hP.sub (ws' := []) [] rfl
  have hDc := hD.sub (ws' := []) [] (by decide) rfl
  have hFc := va_free (wc := []) hD hS hA [] rfl
  refine va_calli (va_runS (As := [.int p1, .int 0, .int 29]) (rest := []) ⟨hx, hb, hml, hown, hts⟩ (c_X5_isWithin l G  s.heap.size p1 0 29 ) (cwS 3 hts gX5_moon_X5_isWithin rfl rfl rfl (by decide +kernel) ⟨(Nat.le_of_ble_eq_true rfl), (Nat.le_of_ble_eq_true rfl)⟩) (tm_preS hK hN hV hS hPc hDc hFc) rfl rfl hl.1 rfl (lv_room (Nat.le_of_ble_eq_true rfl)) dX5_moon_4 ⟨(Nat.le_of_ble_eq_true rfl), (Nat.le_of_ble_eq_true rfl)⟩) hS (fun q _ h => hFc q h) hFc (fun r_1 u t H locs ht hvm hw_1 hB hz1 hk1 hS => ?_)
  obtain ⟨hP1, hD1⟩ := hB
  rw [ht] at hP1
  try dsimp only at hw_1
  obtain ⟨hP, hD⟩ := va_join (wr := [tc_X5 a0 ma0 ta0 lk rf pu to, tc_X1 ma0 ma1 ma2 ma3 ma4 fh lh ee, tc_X4 ma1 tk mo su]) (w1 := []) hP hD [] [0, 1, 2] rfl rfl (by decide) (by decide) hk1 hFc hP1 hD1
  have hP : va_P G.1 vwCl [tc_X5 a0 ma0 ta0 lk rf pu to, tc_X1 ma0 ma1 ma2 ma3 ma4 fh lh ee, tc_X4 ma1 tk mo su] H := hP
  have hD : va_D A [tc_X5 a0 ma0 ta0 lk rf pu to, tc_X1 ma0 ma1 ma2 ma3 ma4 fh lh ee, tc_X4 ma1 tk mo su] := hD
  subst hw_1
  refine lv_if_ne (tgt := 20) hx hb dX5_moon_7 (by decide) (fun c_2 => ?_) (fun c_2 => ?_)
  · refine lv_aload_n hx hb dX5_moon_20 rfl (lv_at hl 0 rfl) ?_
    refine va_get (D := G.1) (ci := 5) (v := .ref ma0) (C := RX5) (T := TX5) (N := 6) hx hb hts hiX5 hown hK hP 0 rfl rfl 0 (by decide) (hts (.fieldLink RX5 10 "TideMill" "mill" "LTideMill$Mill;") (List.mem_of_getElem? (i := 3) rfl)) (fun _ h9 => h9) rfl dX5_moon_21 ?_
    refine va_get (D := G.1) (ci := 1) (v := .ref ma1) (C := RX1) (T := TX1) (N := 7) hx hb hts hiX1 hown hK hP 1 rfl rfl 0 (by decide) (hts (.fieldLink RX5 30 "TideMill$Mill" "sea" "LTideMill$Sea;") (List.mem_of_getElem? (i := 4) rfl)) (fun _ h9 => h9) rfl dX5_moon_24 ?_
    refine lv_iload_n hx hb dX5_moon_27 rfl (lv_at hl 1 rfl) ?_
    refine va_put (D := G.1) (ci := 4) (v := .int p1) (ty := .int) (C := RX4) (T := TX4) (N := 3) hx hb hts hiX4 tyX4 tyX4_ok nmX4 hown hK hP hD hS 2 rfl rfl 1 (by decide) (hts (.fieldLink RX5 34 "TideMill$Sea" "moon" "I") (List.mem_of_getElem? (i := 5) rfl)) (fun _ h9 => h9) rfl (by decide +kernel) rfl rfl (Nat.le_of_ble_eq_true rfl) dX5_moon_28 (fun H locs hP hD hS => ?_)
    have hP : va_P G.1 vwCl [tc_X5 a0 ma0 ta0 lk rf pu to, tc_X1 ma0 ma1 ma2 ma3 ma4 fh lh ee, tc_X4 ma1 tk p1 su] H := hP
    have hD : va_D A [tc_X5 a0 ma0 ta0 lk rf pu to, tc_X1 ma0 ma1 ma2 ma3 ma4 fh lh ee, tc_X4 ma1 tk p1 su] := hD
    refine lv_aload_n hx hb dX5_moon_31 rfl (lv_at hl 0 rfl) ?_
    refine va_get (D := G.1) (ci := 5) (v := .ref ma0) (C := RX5) (T := TX5) (N := 6) hx hb hts hiX5 hown hK hP 0 rfl rfl 0 (by decide) (hts (.fieldLink RX5 10 "TideMill" "mill" "LTideMill$Mill;") (List.mem_of_getElem? (i := 3) rfl)) (fun _ h9 => h9) rfl dX5_moon_32 ?_
    refine va_get (D := G.1) (ci := 1) (v := .ref ma1) (C := RX1) (T := TX1) (N := 7) hx hb hts hiX1 hown hK hP 1 rfl rfl 0 (by decide) (hts (.fieldLink RX5 30 "TideMill$Mill" "sea" "LTideMill$Sea;") (List.mem_of_getElem? (i := 4) rfl)) (fun _ h9 => h9) rfl dX5_moon_35 ?_
    refine lv_aload_n hx hb dX5_moon_38 rfl (lv_at hl 0 rfl) ?_
    refine va_get (D := G.1) (ci := 5) (v := .ref ma0) (C := RX5) (T := TX5) (N := 6) hx hb hts hiX5 hown hK hP 0 rfl rfl 0 (by decide) (hts (.fieldLink RX5 10 "TideMill" "mill" "LTideMill$Mill;") (List.mem_of_getElem? (i := 3) rfl)) (fun _ h9 => h9) rfl dX5_moon_39 ?_
    refine va_get (D := G.1) (ci := 1) (v := .ref ma1) (C := RX1) (T := TX1) (N := 7) hx hb hts hiX1 hown hK hP 1 rfl rfl 0 (by decide) (hts (.fieldLink RX5 30 "TideMill$Mill" "sea" "LTideMill$Sea;") (List.mem_of_getElem? (i := 4) rfl)) (fun _ h9 => h9) rfl dX5_moon_42 ?_
    refine va_get (D := G.1) (ci := 4) (v := .int tk) (C := RX4) (T := TX4) (N := 3) hx hb hts hiX4 hown hK hP 2 rfl rfl 0 (by decide) (hts (.fieldLink RX5 40 "TideMill$Sea" "tick" "I") (List.mem_of_getElem? (i := 6) rfl)) (fun _ h9 => h9) rfl dX5_moon_45 ?_
    have hPc := hP.sub (ws' := [tc_X4 ma1 tk p1 su]) [2] rfl
    have hDc := hD.sub (ws' := [tc_X4 ma1 tk p1 su]) [2] (by decide) rfl
    have hFc := va_free (wc := [tc_X4 ma1 tk p1 su]) hD hS hA [2] rfl
    refine va_calli (va_runV (As := [.int tk]) (rest := []) ⟨hx, hb, hml, hown, hts⟩ (c_X4_ageOn l G ma1 H.size tk p1 su tk ) (cwV 1 hts gX5_moon_X4_ageOn rfl rfl rfl (by decide +kernel) ⟨(Nat.le_of_ble_eq_true rfl), (Nat.le_of_ble_eq_true rfl)⟩) (tm_preV hK hN hV hS hPc hDc hFc (va_recv hK hPc (ci := 4) (q0 := 0) rfl rfl)) rfl rfl hl.1 rfl (lv_room (Nat.le_of_ble_eq_true rfl)) dX5_moon_48 ⟨(Nat.le_of_ble_eq_true rfl), (Nat.le_of_ble_eq_true rfl)⟩) hS (fun q _ h => hFc q h) hFc (fun r_3 u t H locs ht hvm hw_3 hB hz1 hk1 hS => ?_)
    obtain ⟨hP1, hD1⟩ := hB
    rw [ht] at hP1
    try dsimp only at hw_3
    obtain ⟨hP, hD⟩ := va_join (wr := [tc_X5 a0 ma0 ta0 lk rf pu to, tc_X1 ma0 ma1 ma2 ma3 ma4 fh lh ee]) (w1 := [tc_X4 ma1 tk p1 su]) hP hD [2] [0, 1] rfl rfl (by decide) (by decide) hk1 hFc hP1 hD1
    have hP : va_P G.1 vwCl [tc_X5 a0 ma0 ta0 lk rf pu to, tc_X1 ma0 ma1 ma2 ma3 ma4 fh lh ee, tc_X4 ma1 tk p1 su] H := hP
    have hD : va_D A [tc_X5 a0 ma0 ta0 lk rf pu to, tc_X1 ma0 ma1 ma2 ma3 ma4 fh lh ee, tc_X4 ma1 tk p1 su] := hD
    subst hw_3
    have hP9 := hP.sub (ws' := [tc_X5 a0 ma0 ta0 lk rf pu to, tc_X1 ma0 ma1 ma2 ma3 ma4 fh lh ee, tc_X4 ma1 tk p1 su]) [0, 1, 2] rfl
    have hD9 := hD.sub (ws' := [tc_X5 a0 ma0 ta0 lk rf pu to, tc_X1 ma0 ma1 ma2 ma3 ma4 fh lh ee, tc_X4 ma1 tk p1 su]) [0, 1, 2] (by decide) rfl
    exact W.iret (v := f_X4_ageOn p1 tk) hx hb hr (fun t ht hW => ⟨⟨f_X4_ageOn p1 tk, (p1), rfl, by unfold f_X5_moon; all_goals rfl, by rw [ht]; exact hP9, hD9⟩, hS.F ht⟩) hS.2.2 dX5_moon_51
  · exact absurd c_2 na_0
set_option maxHeartbeats 4000000 in
set_option maxRecDepth 100000 in
theorem c_X5_surge (l : Launch) (G : tm_G) (a0 : Nat) (ma0 : Nat) (ta0 : Nat) (ma1 : Nat) (ma2 : Nat) (ma3 : Nat) (ma4 : Nat) (sz : Nat) (lk : Int32) (rf : Int32) (pu : Int32) (to : UInt64) (fh : Int32) (lh : Int32) (ee : Int32) (tk : Int32) (mo : Int32) (su : UInt64) (p1 : Int32) (hn : n_X5_surge tk mo p1) : Met l yX5_surge wsX5_surge ({ frames := 4, cells := 0, slots := 0, locals := 94 }) (va_Pc [.ref a0, .int p1] (tm_B G [tc_X5 a0 ma0 ta0 lk rf pu to, tc_X1 ma0 ma1 ma2 ma3 ma4 fh lh ee, tc_X4 ma1 tk mo su] sz)) (va_Qd (fun (r : UInt64) (u : UInt64) => (r, u) = f_X5_surge tk mo p1) (fun (u : UInt64) (t : State) => va_P G.1 vwCl [tc_X5 a0 ma0 ta0 lk rf pu to, tc_X1 ma0 ma1 ma2 ma3 ma4 fh lh ee, tc_X4 ma1 tk mo u] t.heap ∧ va_D (va_A [tc_X5 a0 ma0 ta0 lk rf pu to, tc_X1 ma0 ma1 ma2 ma3 ma4 fh lh ee, tc_X4 ma1 tk mo su] sz) [tc_X5 a0 ma0 ta0 lk rf pu to, tc_X1 ma0 ma1 ma2 ma3 ma4 fh lh ee, tc_X4 ma1 tk mo u]) (va_A [tc_X5 a0 ma0 ta0 lk rf pu to, tc_X1 ma0 ma1 ma2 ma3 ma4 fh lh ee, tc_X4 ma1 tk mo su] sz)) 0 0 (va_A [tc_X5 a0 ma0 ta0 lk rf pu to, tc_X1 ma0 ma1 ma2 ma3 ma4 fh lh ee, tc_X4 ma1 tk mo su] sz) := by
  refine Met.ofW (cc := cX5_surge) (maxL := 2) (ret := (some .double)) (by decide) rfl ?_
  intro p e s m args below meth c s₁ B hml hv
  obtain ⟨rfl, hsz, hP, hK, hD0, hN, hV⟩ := hv
  have hx := B.exec
  have hb := B.bytes
  have hr := B.returns
  have hts := atoms_spec (ws := wsX5_surge) B.pre
  have hown : s.vm.findClass RX5 = some m.cls := findClass_of_methodNamed B.named
  have hlocks := B.notSynchronized
  subst hsz
  obtain ⟨na_0, n_3, n_4⟩ := hn
  have hiX1 : ∀ w ∈ u_ws RX1 TX1 7, w ∈ wsX5_surge := fun _ h => List.mem_cons_of_mem _ (List.mem_append_left _ (List.mem_append_left _ (List.mem_append_right _ h)))
  have hiX4 : ∀ w ∈ u_ws RX4 TX4 3, w ∈ wsX5_surge := fun _ h => List.mem_cons_of_mem _ (List.mem_append_left _ (List.mem_append_right _ h))
  have hiX5 : ∀ w ∈ u_ws RX5 TX5 6, w ∈ wsX5_surge := fun _ h => List.mem_cons_of_mem _ (List.mem_append_left _ (List.mem_append_left _ (List.mem_append_left _ (List.mem_append_right _ h))))
  have hD := hD0.self (sz := s.heap.size)
  generalize hAe : va_A [tc_X5 a0 ma0 ta0 lk rf pu to, tc_X1 ma0 ma1 ma2 ma3 ma4 fh lh ee, tc_X4 ma1 tk mo su] s.heap.size = A at hD hV ⊢
  have hA : ∀ q : Nat, s.heap.size ≤ q → A q := fun q h => by rw [← hAe]; exact Or.inr h
  have hS : va_S A s.heap s.heap [] := va_S.rf
  have hl := lv_entry ([.ref a0, .int p1]) (n := 2) (Nat.le_of_ble_eq_true rfl)
  rw [lg_entry_eq]
  generalize (lg_sl ([.ref a0, .int p1]) ++ List.replicate (2 - (lg_sl ([.ref a0, .int p1])).length) Slot.unset).toArray = ls at hl ⊢
  have hl : lv_has ls 2 [(0, .ref a0), (1, .int p1)] := hl
  refine lv_iload_n hx hb dX5_surge_0 rfl (lv_at hl 1 rfl) ?_
  refine lv_bipush (v := (-8)) hx hb dX5_surge_1 (by decide) ?_
  refine lv_bipush (v := 8) hx hb dX5_surge_3 (by decide) ?_
  have hPc := hP.sub (ws' := []) [] rfl
  have hDc := hD.sub (ws' := []) [] (by decide) rfl
  have hFc := va_free (wc := []) hD hS hA [] rfl
  refine va_calli (va_runS (As := [.int p1, .int (-8), .int 8]) (rest := []) ⟨hx, hb, hml, hown, hts⟩ (c_X5_isWithin l G  s.heap.size p1 (-8) 8 ) (cwS 3 hts gX5_surge_X5_isWithin rfl rfl rfl (by decide +kernel) ⟨(Nat.le_of_ble_eq_true rfl), (Nat.le_of_ble_eq_true rfl)⟩) (tm_preS hK hN hV hS hPc hDc hFc) rfl rfl hl.1 rfl (lv_room (Nat.le_of_ble_eq_true rfl)) dX5_surge_5 ⟨(Nat.le_of_ble_eq_true rfl), (Nat.le_of_ble_eq_true rfl)⟩) hS (fun q _ h => hFc q h) hFc (fun r_1 u t H locs ht hvm hw_1 hB hz1 hk1 hS => ?_)
  obtain ⟨hP1, hD1⟩ := hB
  rw [ht] at hP1
  try dsimp only at hw_1
  obtain ⟨hP, hD⟩ := va_join (wr := [tc_X5 a0 ma0 ta0 lk rf pu to, tc_X1 ma0 ma1 ma2 ma3 ma4 fh lh ee, tc_X4 ma1 tk mo su]) (w1 := []) hP hD [] [0, 1, 2] rfl rfl (by decide) (by decide) hk1 hFc hP1 hD1
  have hP : va_P G.1 vwCl [tc_X5 a0 ma0 ta0 lk rf pu to, tc_X1 ma0 ma1 ma2 ma3 ma4 fh lh ee, tc_X4 ma1 tk mo su] H := hP
  have hD : va_D A [tc_X5 a0 ma0 ta0 lk rf pu to, tc_X1 ma0 ma1 ma2 ma3 ma4 fh lh ee, tc_X4 ma1 tk mo su] := hD
  subst hw_1
  refine lv_if_ne (tgt := 21) hx hb dX5_surge_8 (by decide) (fun c_2 => ?_) (fun c_2 => ?_)
  · refine lv_aload_n hx hb dX5_surge_21 rfl (lv_at hl 0 rfl) ?_
    refine va_get (D := G.1) (ci := 5) (v := .ref ma0) (C := RX5) (T := TX5) (N := 6) hx hb hts hiX5 hown hK hP 0 rfl rfl 0 (by decide) (hts (.fieldLink RX5 10 "TideMill" "mill" "LTideMill$Mill;") (List.mem_of_getElem? (i := 3) rfl)) (fun _ h9 => h9) rfl dX5_surge_22 ?_
    refine va_get (D := G.1) (ci := 1) (v := .ref ma1) (C := RX1) (T := TX1) (N := 7) hx hb hts hiX1 hown hK hP 1 rfl rfl 0 (by decide) (hts (.fieldLink RX5 30 "TideMill$Mill" "sea" "LTideMill$Sea;") (List.mem_of_getElem? (i := 4) rfl)) (fun _ h9 => h9) rfl dX5_surge_25 ?_
    refine lv_iload_n hx hb dX5_surge_28 rfl (lv_at hl 1 rfl) ?_
    refine lv_i2d hx hb dX5_surge_29 ?_
    refine lv_ldc2d hx hb hown (hts (.constantDouble RX5 49 (4598175219545276416)) (List.mem_of_getElem? (i := 5) rfl)) dX5_surge_30 ?_
    refine lv_dmul hx hb dX5_surge_33 n_3 ?_
    refine va_put (D := G.1) (ci := 4) (v := .double (FP.dmul (FP.i2d p1) 4598175219545276416)) (ty := .double) (C := RX4) (T := TX4) (N := 3) hx hb hts hiX4 tyX4 tyX4_ok nmX4 hown hK hP hD hS 2 rfl rfl 2 (by decide) (hts (.fieldLink RX5 51 "TideMill$Sea" "surge" "D") (List.mem_of_getElem? (i := 6) rfl)) (fun _ h9 => h9) rfl (by decide +kernel) rfl rfl (Nat.le_of_ble_eq_true rfl) dX5_surge_34 (fun H locs hP hD hS => ?_)
    have hP : va_P G.1 vwCl [tc_X5 a0 ma0 ta0 lk rf pu to, tc_X1 ma0 ma1 ma2 ma3 ma4 fh lh ee, tc_X4 ma1 tk mo (FP.dmul (FP.i2d p1) 4598175219545276416)] H := hP
    have hD : va_D A [tc_X5 a0 ma0 ta0 lk rf pu to, tc_X1 ma0 ma1 ma2 ma3 ma4 fh lh ee, tc_X4 ma1 tk mo (FP.dmul (FP.i2d p1) 4598175219545276416)] := hD
    refine lv_aload_n hx hb dX5_surge_37 rfl (lv_at hl 0 rfl) ?_
    refine va_get (D := G.1) (ci := 5) (v := .ref ma0) (C := RX5) (T := TX5) (N := 6) hx hb hts hiX5 hown hK hP 0 rfl rfl 0 (by decide) (hts (.fieldLink RX5 10 "TideMill" "mill" "LTideMill$Mill;") (List.mem_of_getElem? (i := 3) rfl)) (fun _ h9 => h9) rfl dX5_surge_38 ?_
    refine va_get (D := G.1) (ci := 1) (v := .ref ma1) (C := RX1) (T := TX1) (N := 7) hx hb hts hiX1 hown hK hP 1 rfl rfl 0 (by decide) (hts (.fieldLink RX5 30 "TideMill$Mill" "sea" "LTideMill$Sea;") (List.mem_of_getElem? (i := 4) rfl)) (fun _ h9 => h9) rfl dX5_surge_41 ?_
    refine lv_aload_n hx hb dX5_surge_44 rfl (lv_at hl 0 rfl) ?_
    refine va_get (D := G.1) (ci := 5) (v := .ref ma0) (C := RX5) (T := TX5) (N := 6) hx hb hts hiX5 hown hK hP 0 rfl rfl 0 (by decide) (hts (.fieldLink RX5 10 "TideMill" "mill" "LTideMill$Mill;") (List.mem_of_getElem? (i := 3) rfl)) (fun _ h9 => h9) rfl dX5_surge_45 ?_
    refine va_get (D := G.1) (ci := 1) (v := .ref ma1) (C := RX1) (T := TX1) (N := 7) hx hb hts hiX1 hown hK hP 1 rfl rfl 0 (by decide) (hts (.fieldLink RX5 30 "TideMill$Mill" "sea" "LTideMill$Sea;") (List.mem_of_getElem? (i := 4) rfl)) (fun _ h9 => h9) rfl dX5_surge_48 ?_
    refine va_get (D := G.1) (ci := 4) (v := .int tk) (C := RX4) (T := TX4) (N := 3) hx hb hts hiX4 hown hK hP 2 rfl rfl 0 (by decide) (hts (.fieldLink RX5 40 "TideMill$Sea" "tick" "I") (List.mem_of_getElem? (i := 7) rfl)) (fun _ h9 => h9) rfl dX5_surge_51 ?_
    have hPc := hP.sub (ws' := [tc_X4 ma1 tk mo (FP.dmul (FP.i2d p1) 4598175219545276416)]) [2] rfl
    have hDc := hD.sub (ws' := [tc_X4 ma1 tk mo (FP.dmul (FP.i2d p1) 4598175219545276416)]) [2] (by decide) rfl
    have hFc := va_free (wc := [tc_X4 ma1 tk mo (FP.dmul (FP.i2d p1) 4598175219545276416)]) hD hS hA [2] rfl
    refine va_calld (va_runV (As := [.int tk]) (rest := []) ⟨hx, hb, hml, hown, hts⟩ (c_X4_heightOn l G ma1 H.size tk mo (FP.dmul (FP.i2d p1) 4598175219545276416) tk n_4) (cwV 1 hts gX5_surge_X4_heightOn rfl rfl rfl (by decide +kernel) ⟨(Nat.le_of_ble_eq_true rfl), (Nat.le_of_ble_eq_true rfl)⟩) (tm_preV hK hN hV hS hPc hDc hFc (va_recv hK hPc (ci := 4) (q0 := 0) rfl rfl)) rfl rfl hl.1 rfl (lv_room (Nat.le_of_ble_eq_true rfl)) dX5_surge_54 ⟨(Nat.le_of_ble_eq_true rfl), (Nat.le_of_ble_eq_true rfl)⟩) hS (fun q _ h => hFc q h) hFc (fun r_5 u t H locs ht hvm hw_5 hB hz1 hk1 hS => ?_)
    obtain ⟨hP1, hD1⟩ := hB
    rw [ht] at hP1
    try dsimp only at hw_5
    obtain ⟨hP, hD⟩ := va_join (wr := [tc_X5 a0 ma0 ta0 lk rf pu to, tc_X1 ma0 ma1 ma2 ma3 ma4 fh lh ee]) (w1 := [tc_X4 ma1 tk mo (FP.dmul (FP.i2d p1) 4598175219545276416)]) hP hD [2] [0, 1] rfl rfl (by decide) (by decide) hk1 hFc hP1 hD1
    have hP : va_P G.1 vwCl [tc_X5 a0 ma0 ta0 lk rf pu to, tc_X1 ma0 ma1 ma2 ma3 ma4 fh lh ee, tc_X4 ma1 tk mo (FP.dmul (FP.i2d p1) 4598175219545276416)] H := hP
    have hD : va_D A [tc_X5 a0 ma0 ta0 lk rf pu to, tc_X1 ma0 ma1 ma2 ma3 ma4 fh lh ee, tc_X4 ma1 tk mo (FP.dmul (FP.i2d p1) 4598175219545276416)] := hD
    subst hw_5
    have hP9 := hP.sub (ws' := [tc_X5 a0 ma0 ta0 lk rf pu to, tc_X1 ma0 ma1 ma2 ma3 ma4 fh lh ee, tc_X4 ma1 tk mo (FP.dmul (FP.i2d p1) 4598175219545276416)]) [0, 1, 2] rfl
    have hD9 := hD.sub (ws' := [tc_X5 a0 ma0 ta0 lk rf pu to, tc_X1 ma0 ma1 ma2 ma3 ma4 fh lh ee, tc_X4 ma1 tk mo (FP.dmul (FP.i2d p1) 4598175219545276416)]) [0, 1, 2] (by decide) rfl
    exact W.dret (v := f_X4_heightOn mo (FP.dmul (FP.i2d p1) 4598175219545276416) tk) hx hb hr (fun t ht hW => ⟨⟨f_X4_heightOn mo (FP.dmul (FP.i2d p1) 4598175219545276416) tk, (FP.dmul (FP.i2d p1) 4598175219545276416), rfl, by unfold f_X5_surge; all_goals rfl, by rw [ht]; exact hP9, hD9⟩, hS.F ht⟩) hS.2.2 dX5_surge_57
  · exact absurd c_2 na_0
set_option maxHeartbeats 4000000 in
set_option maxRecDepth 100000 in
theorem c_X5_gates (l : Launch) (G : tm_G) (a0 : Nat) (ma0 : Nat) (ta0 : Nat) (ma1 : Nat) (ma2 : Nat) (ma3 : Nat) (ma4 : Nat) (sz : Nat) (lk : Int32) (rf : Int32) (pu : Int32) (to : UInt64) (fh : Int32) (lh : Int32) (ee : Int32) (lv : UInt64) (si : UInt32) (ga : Int32) (sl : Int32) (sc : Int32) (fo : UInt64) (p1 : Int32) (hn : n_X5_gates lk p1) : Met l yX5_gates wsX5_gates ({ frames := 1, cells := 0, slots := 0, locals := 22 }) (va_Pc [.ref a0, .int p1] (tm_B G [tc_X5 a0 ma0 ta0 lk rf pu to, tc_X1 ma0 ma1 ma2 ma3 ma4 fh lh ee, tc_X3 ma2 lv si ga sl sc fo] sz)) (va_Qi (fun (r : Int32) (u : Int32) => (r, u) = f_X5_gates ga p1) (fun (u : Int32) (t : State) => va_P G.1 vwCl [tc_X5 a0 ma0 ta0 lk rf pu to, tc_X1 ma0 ma1 ma2 ma3 ma4 fh lh ee, tc_X3 ma2 lv si u sl sc fo] t.heap ∧ va_D (va_A [tc_X5 a0 ma0 ta0 lk rf pu to, tc_X1 ma0 ma1 ma2 ma3 ma4 fh lh ee, tc_X3 ma2 lv si ga sl sc fo] sz) [tc_X5 a0 ma0 ta0 lk rf pu to, tc_X1 ma0 ma1 ma2 ma3 ma4 fh lh ee, tc_X3 ma2 lv si u sl sc fo]) (va_A [tc_X5 a0 ma0 ta0 lk rf pu to, tc_X1 ma0 ma1 ma2 ma3 ma4 fh lh ee, tc_X3 ma2 lv si ga sl sc fo] sz)) 0 0 (va_A [tc_X5 a0 ma0 ta0 lk rf pu to, tc_X1 ma0 ma1 ma2 ma3 ma4 fh lh ee, tc_X3 ma2 lv si ga sl sc fo] sz) := by
  refine Met.ofW (cc := cX5_gates) (maxL := 3) (ret := (some .int)) (by decide) rfl ?_
  intro p e s m args below meth c s₁ B hml hv
  obtain ⟨rfl, hsz, hP, hK, hD0, hN, hV⟩ := hv
  have hx := B.exec
  have hb := B.bytes
  have hr := B.returns
  have hts := atoms_spec (ws := wsX5_gates) B.pre
  have hown : s.vm.findClass RX5 = some m.cls := findClass_of_methodNamed B.named
  have hlocks := B.notSynchronized
  subst hsz
  obtain ⟨na_0, na_1⟩ := hn
  have hiX1 : ∀ w ∈ u_ws RX1 TX1 7, w ∈ wsX5_gates := fun _ h => List.mem_cons_of_mem _ (List.mem_append_left _ (List.mem_append_left _ (List.mem_append_left _ (List.mem_append_right _ h))))
  have hiX3 : ∀ w ∈ u_ws RX3 TX3 6, w ∈ wsX5_gates := fun _ h => List.mem_cons_of_mem _ (List.mem_append_left _ (List.mem_append_left _ (List.mem_append_right _ h)))
  have hiX5 : ∀ w ∈ u_ws RX5 TX5 6, w ∈ wsX5_gates := fun _ h => List.mem_cons_of_mem _ (List.mem_append_left _ (List.mem_append_left _ (List.mem_append_left _ (List.mem_append_left _ (List.mem_append_right _ h)))))
  have hD := hD0.self (sz := s.heap.size)
  generalize hAe : va_A [tc_X5 a0 ma0 ta0 lk rf pu to, tc_X1 ma0 ma1 ma2 ma3 ma4 fh lh ee, tc_X3 ma2 lv si ga sl sc fo] s.heap.size = A at hD hV ⊢
  have hA : ∀ q : Nat, s.heap.size ≤ q → A q := fun q h => by rw [← hAe]; exact Or.inr h
  have hS : va_S A s.heap s.heap [] := va_S.rf
  have hl := lv_entry ([.ref a0, .int p1]) (n := 3) (Nat.le_of_ble_eq_true rfl)
  rw [lg_entry_eq]
  generalize (lg_sl ([.ref a0, .int p1]) ++ List.replicate (3 - (lg_sl ([.ref a0, .int p1])).length) Slot.unset).toArray = ls at hl ⊢
  have hl : lv_has ls 3 [(0, .ref a0), (1, .int p1)] := hl
  refine lv_iload_n hx hb dX5_gates_0 rfl (lv_at hl 1 rfl) ?_
  refine lv_iconst (v := 0) hx hb dX5_gates_1 (by decide) ?_
  refine lv_iconst (v := 3) hx hb dX5_gates_2 (by decide) ?_
  have hPc := hP.sub (ws' := []) [] rfl
  have hDc := hD.sub (ws' := []) [] (by decide) rfl
  have hFc := va_free (wc := []) hD hS hA [] rfl
  refine va_calli (va_runS (As := [.int p1, .int 0, .int 3]) (rest := []) ⟨hx, hb, hml, hown, hts⟩ (c_X5_isWithin l G  s.heap.size p1 0 3 ) (cwS 3 hts gX5_gates_X5_isWithin rfl rfl rfl (by decide +kernel) ⟨(Nat.le_of_ble_eq_true rfl), (Nat.le_of_ble_eq_true rfl)⟩) (tm_preS hK hN hV hS hPc hDc hFc) rfl rfl hl.1 rfl (lv_room (Nat.le_of_ble_eq_true rfl)) dX5_gates_3 ⟨(Nat.le_of_ble_eq_true rfl), (Nat.le_of_ble_eq_true rfl)⟩) hS (fun q _ h => hFc q h) hFc (fun r_1 u t H locs ht hvm hw_1 hB hz1 hk1 hS => ?_)
  obtain ⟨hP1, hD1⟩ := hB
  rw [ht] at hP1
  try dsimp only at hw_1
  obtain ⟨hP, hD⟩ := va_join (wr := [tc_X5 a0 ma0 ta0 lk rf pu to, tc_X1 ma0 ma1 ma2 ma3 ma4 fh lh ee, tc_X3 ma2 lv si ga sl sc fo]) (w1 := []) hP hD [] [0, 1, 2] rfl rfl (by decide) (by decide) hk1 hFc hP1 hD1
  have hP : va_P G.1 vwCl [tc_X5 a0 ma0 ta0 lk rf pu to, tc_X1 ma0 ma1 ma2 ma3 ma4 fh lh ee, tc_X3 ma2 lv si ga sl sc fo] H := hP
  have hD : va_D A [tc_X5 a0 ma0 ta0 lk rf pu to, tc_X1 ma0 ma1 ma2 ma3 ma4 fh lh ee, tc_X3 ma2 lv si ga sl sc fo] := hD
  subst hw_1
  refine lv_if_ne (tgt := 19) hx hb dX5_gates_6 (by decide) (fun c_2 => ?_) (fun c_2 => ?_)
  · refine lv_aload_n hx hb dX5_gates_19 rfl (lv_at hl 0 rfl) ?_
    refine va_get (D := G.1) (ci := 5) (v := .int lk) (C := RX5) (T := TX5) (N := 6) hx hb hts hiX5 hown hK hP 0 rfl rfl 2 (by decide) (hts (.fieldLink RX5 61 "TideMill" "isLocked" "Z") (List.mem_of_getElem? (i := 5) rfl)) (fun _ h9 => h9) rfl dX5_gates_20 ?_
    refine lv_if_eq (tgt := 36) hx hb dX5_gates_23 (by decide) (fun c_3 => ?_) (fun c_3 => ?_)
    · refine lv_aload_n hx hb dX5_gates_36 rfl (lv_at hl 0 rfl) ?_
      refine va_get (D := G.1) (ci := 5) (v := .ref ma0) (C := RX5) (T := TX5) (N := 6) hx hb hts hiX5 hown hK hP 0 rfl rfl 0 (by decide) (hts (.fieldLink RX5 10 "TideMill" "mill" "LTideMill$Mill;") (List.mem_of_getElem? (i := 6) rfl)) (fun _ h9 => h9) rfl dX5_gates_37 ?_
      refine va_get (D := G.1) (ci := 1) (v := .ref ma2) (C := RX1) (T := TX1) (N := 7) hx hb hts hiX1 hown hK hP 1 rfl rfl 1 (by decide) (hts (.fieldLink RX5 70 "TideMill$Mill" "pond" "LTideMill$Pond;") (List.mem_of_getElem? (i := 7) rfl)) (fun _ h9 => h9) rfl dX5_gates_40 ?_
      refine va_get (D := G.1) (ci := 3) (v := .int ga) (C := RX3) (T := TX3) (N := 6) hx hb hts hiX3 hown hK hP 2 rfl rfl 2 (by decide) (hts (.fieldLink RX5 74 "TideMill$Pond" "gates" "I") (List.mem_of_getElem? (i := 8) rfl)) (fun _ h9 => h9) rfl dX5_gates_43 ?_
      refine lv_istore_n (lv' := [(2, .int ga), (0, .ref a0), (1, .int p1)]) hx hb dX5_gates_46 rfl hl (by decide) rfl (fun ls hl => ?_)
      refine lv_aload_n hx hb dX5_gates_47 rfl (lv_at hl 1 rfl) ?_
      refine va_get (D := G.1) (ci := 5) (v := .ref ma0) (C := RX5) (T := TX5) (N := 6) hx hb hts hiX5 hown hK hP 0 rfl rfl 0 (by decide) (hts (.fieldLink RX5 10 "TideMill" "mill" "LTideMill$Mill;") (List.mem_of_getElem? (i := 6) rfl)) (fun _ h9 => h9) rfl dX5_gates_48 ?_
      refine va_get (D := G.1) (ci := 1) (v := .ref ma2) (C := RX1) (T := TX1) (N := 7) hx hb hts hiX1 hown hK hP 1 rfl rfl 1 (by decide) (hts (.fieldLink RX5 70 "TideMill$Mill" "pond" "LTideMill$Pond;") (List.mem_of_getElem? (i := 7) rfl)) (fun _ h9 => h9) rfl dX5_gates_51 ?_
      refine lv_iload_n hx hb dX5_gates_54 rfl (lv_at hl 2 rfl) ?_
      refine va_put (D := G.1) (ci := 3) (v := .int p1) (ty := .int) (C := RX3) (T := TX3) (N := 6) hx hb hts hiX3 tyX3 tyX3_ok nmX3 hown hK hP hD hS 2 rfl rfl 2 (by decide) (hts (.fieldLink RX5 74 "TideMill$Pond" "gates" "I") (List.mem_of_getElem? (i := 8) rfl)) (fun _ h9 => h9) rfl (by decide +kernel) rfl rfl (Nat.le_of_ble_eq_true rfl) dX5_gates_55 (fun H locs hP hD hS => ?_)
      have hP : va_P G.1 vwCl [tc_X5 a0 ma0 ta0 lk rf pu to, tc_X1 ma0 ma1 ma2 ma3 ma4 fh lh ee, tc_X3 ma2 lv si p1 sl sc fo] H := hP
      have hD : va_D A [tc_X5 a0 ma0 ta0 lk rf pu to, tc_X1 ma0 ma1 ma2 ma3 ma4 fh lh ee, tc_X3 ma2 lv si p1 sl sc fo] := hD
      refine lv_iload_n hx hb dX5_gates_58 rfl (lv_at hl 0 rfl) ?_
      have hP9 := hP.sub (ws' := [tc_X5 a0 ma0 ta0 lk rf pu to, tc_X1 ma0 ma1 ma2 ma3 ma4 fh lh ee, tc_X3 ma2 lv si p1 sl sc fo]) [0, 1, 2] rfl
      have hD9 := hD.sub (ws' := [tc_X5 a0 ma0 ta0 lk rf pu to, tc_X1 ma0 ma1 ma2 ma3 ma4 fh lh ee, tc_X3 ma2 lv si p1 sl sc fo]) [0, 1, 2] (by decide) rfl
      exact W.iret (v := ga) hx hb hr (fun t ht hW => ⟨⟨ga, (p1), rfl, by unfold f_X5_gates; all_goals rfl, by rw [ht]; exact hP9, hD9⟩, hS.F ht⟩) hS.2.2 dX5_gates_59
    · exact absurd na_1 c_3
  · exact absurd c_2 na_0
set_option maxHeartbeats 4000000 in
set_option maxRecDepth 100000 in
theorem c_X5_sluice (l : Launch) (G : tm_G) (a0 : Nat) (ma0 : Nat) (ta0 : Nat) (ma1 : Nat) (ma2 : Nat) (ma3 : Nat) (ma4 : Nat) (sz : Nat) (lk : Int32) (rf : Int32) (pu : Int32) (to : UInt64) (fh : Int32) (lh : Int32) (ee : Int32) (lv : UInt64) (si : UInt32) (ga : Int32) (sl : Int32) (sc : Int32) (fo : UInt64) (p1 : Int32) (hn : n_X5_sluice p1) : Met l yX5_sluice wsX5_sluice ({ frames := 1, cells := 0, slots := 0, locals := 22 }) (va_Pc [.ref a0, .int p1] (tm_B G [tc_X5 a0 ma0 ta0 lk rf pu to, tc_X1 ma0 ma1 ma2 ma3 ma4 fh lh ee, tc_X3 ma2 lv si ga sl sc fo] sz)) (va_Qi (fun (r : Int32) (u : Int32) => (r, u) = f_X5_sluice sl p1) (fun (u : Int32) (t : State) => va_P G.1 vwCl [tc_X5 a0 ma0 ta0 lk rf pu to, tc_X1 ma0 ma1 ma2 ma3 ma4 fh lh ee, tc_X3 ma2 lv si ga u sc fo] t.heap ∧ va_D (va_A [tc_X5 a0 ma0 ta0 lk rf pu to, tc_X1 ma0 ma1 ma2 ma3 ma4 fh lh ee, tc_X3 ma2 lv si ga sl sc fo] sz) [tc_X5 a0 ma0 ta0 lk rf pu to, tc_X1 ma0 ma1 ma2 ma3 ma4 fh lh ee, tc_X3 ma2 lv si ga u sc fo]) (va_A [tc_X5 a0 ma0 ta0 lk rf pu to, tc_X1 ma0 ma1 ma2 ma3 ma4 fh lh ee, tc_X3 ma2 lv si ga sl sc fo] sz)) 0 0 (va_A [tc_X5 a0 ma0 ta0 lk rf pu to, tc_X1 ma0 ma1 ma2 ma3 ma4 fh lh ee, tc_X3 ma2 lv si ga sl sc fo] sz) := by
  refine Met.ofW (cc := cX5_sluice) (maxL := 3) (ret := (some .int)) (by decide) rfl ?_
  intro p e s m args below meth c s₁ B hml hv
  obtain ⟨rfl, hsz, hP, hK, hD0, hN, hV⟩ := hv
  have hx := B.exec
  have hb := B.bytes
  have hr := B.returns
  have hts := atoms_spec (ws := wsX5_sluice) B.pre
  have hown : s.vm.findClass RX5 = some m.cls := findClass_of_methodNamed B.named
  have hlocks := B.notSynchronized
  subst hsz
  have na_0 := hn
  unfold n_X5_sluice at na_0
  have hiX1 : ∀ w ∈ u_ws RX1 TX1 7, w ∈ wsX5_sluice := fun _ h => List.mem_cons_of_mem _ (List.mem_append_left _ (List.mem_append_left _ (List.mem_append_right _ h)))
  have hiX3 : ∀ w ∈ u_ws RX3 TX3 6, w ∈ wsX5_sluice := fun _ h => List.mem_cons_of_mem _ (List.mem_append_left _ (List.mem_append_right _ h))
  have hiX5 : ∀ w ∈ u_ws RX5 TX5 6, w ∈ wsX5_sluice := fun _ h => List.mem_cons_of_mem _ (List.mem_append_left _ (List.mem_append_left _ (List.mem_append_left _ (List.mem_append_right _ h))))
  have hD := hD0.self (sz := s.heap.size)
  generalize hAe : va_A [tc_X5 a0 ma0 ta0 lk rf pu to, tc_X1 ma0 ma1 ma2 ma3 ma4 fh lh ee, tc_X3 ma2 lv si ga sl sc fo] s.heap.size = A at hD hV ⊢
  have hA : ∀ q : Nat, s.heap.size ≤ q → A q := fun q h => by rw [← hAe]; exact Or.inr h
  have hS : va_S A s.heap s.heap [] := va_S.rf
  have hl := lv_entry ([.ref a0, .int p1]) (n := 3) (Nat.le_of_ble_eq_true rfl)
  rw [lg_entry_eq]
  generalize (lg_sl ([.ref a0, .int p1]) ++ List.replicate (3 - (lg_sl ([.ref a0, .int p1])).length) Slot.unset).toArray = ls at hl ⊢
  have hl : lv_has ls 3 [(0, .ref a0), (1, .int p1)] := hl
  refine lv_iload_n hx hb dX5_sluice_0 rfl (lv_at hl 1 rfl) ?_
  refine lv_iconst (v := 0) hx hb dX5_sluice_1 (by decide) ?_
  refine lv_iconst (v := 4) hx hb dX5_sluice_2 (by decide) ?_
  have hPc := hP.sub (ws' := []) [] rfl
  have hDc := hD.sub (ws' := []) [] (by decide) rfl
  have hFc := va_free (wc := []) hD hS hA [] rfl
  refine va_calli (va_runS (As := [.int p1, .int 0, .int 4]) (rest := []) ⟨hx, hb, hml, hown, hts⟩ (c_X5_isWithin l G  s.heap.size p1 0 4 ) (cwS 3 hts gX5_sluice_X5_isWithin rfl rfl rfl (by decide +kernel) ⟨(Nat.le_of_ble_eq_true rfl), (Nat.le_of_ble_eq_true rfl)⟩) (tm_preS hK hN hV hS hPc hDc hFc) rfl rfl hl.1 rfl (lv_room (Nat.le_of_ble_eq_true rfl)) dX5_sluice_3 ⟨(Nat.le_of_ble_eq_true rfl), (Nat.le_of_ble_eq_true rfl)⟩) hS (fun q _ h => hFc q h) hFc (fun r_1 u t H locs ht hvm hw_1 hB hz1 hk1 hS => ?_)
  obtain ⟨hP1, hD1⟩ := hB
  rw [ht] at hP1
  try dsimp only at hw_1
  obtain ⟨hP, hD⟩ := va_join (wr := [tc_X5 a0 ma0 ta0 lk rf pu to, tc_X1 ma0 ma1 ma2 ma3 ma4 fh lh ee, tc_X3 ma2 lv si ga sl sc fo]) (w1 := []) hP hD [] [0, 1, 2] rfl rfl (by decide) (by decide) hk1 hFc hP1 hD1
  have hP : va_P G.1 vwCl [tc_X5 a0 ma0 ta0 lk rf pu to, tc_X1 ma0 ma1 ma2 ma3 ma4 fh lh ee, tc_X3 ma2 lv si ga sl sc fo] H := hP
  have hD : va_D A [tc_X5 a0 ma0 ta0 lk rf pu to, tc_X1 ma0 ma1 ma2 ma3 ma4 fh lh ee, tc_X3 ma2 lv si ga sl sc fo] := hD
  subst hw_1
  refine lv_if_ne (tgt := 19) hx hb dX5_sluice_6 (by decide) (fun c_2 => ?_) (fun c_2 => ?_)
  · refine lv_aload_n hx hb dX5_sluice_19 rfl (lv_at hl 0 rfl) ?_
    refine va_get (D := G.1) (ci := 5) (v := .ref ma0) (C := RX5) (T := TX5) (N := 6) hx hb hts hiX5 hown hK hP 0 rfl rfl 0 (by decide) (hts (.fieldLink RX5 10 "TideMill" "mill" "LTideMill$Mill;") (List.mem_of_getElem? (i := 3) rfl)) (fun _ h9 => h9) rfl dX5_sluice_20 ?_
    refine va_get (D := G.1) (ci := 1) (v := .ref ma2) (C := RX1) (T := TX1) (N := 7) hx hb hts hiX1 hown hK hP 1 rfl rfl 1 (by decide) (hts (.fieldLink RX5 70 "TideMill$Mill" "pond" "LTideMill$Pond;") (List.mem_of_getElem? (i := 4) rfl)) (fun _ h9 => h9) rfl dX5_sluice_23 ?_
    refine va_get (D := G.1) (ci := 3) (v := .int sl) (C := RX3) (T := TX3) (N := 6) hx hb hts hiX3 hown hK hP 2 rfl rfl 3 (by decide) (hts (.fieldLink RX5 81 "TideMill$Pond" "sluice" "I") (List.mem_of_getElem? (i := 5) rfl)) (fun _ h9 => h9) rfl dX5_sluice_26 ?_
    refine lv_istore_n (lv' := [(2, .int sl), (0, .ref a0), (1, .int p1)]) hx hb dX5_sluice_29 rfl hl (by decide) rfl (fun ls hl => ?_)
    refine lv_aload_n hx hb dX5_sluice_30 rfl (lv_at hl 1 rfl) ?_
    refine va_get (D := G.1) (ci := 5) (v := .ref ma0) (C := RX5) (T := TX5) (N := 6) hx hb hts hiX5 hown hK hP 0 rfl rfl 0 (by decide) (hts (.fieldLink RX5 10 "TideMill" "mill" "LTideMill$Mill;") (List.mem_of_getElem? (i := 3) rfl)) (fun _ h9 => h9) rfl dX5_sluice_31 ?_
    refine va_get (D := G.1) (ci := 1) (v := .ref ma2) (C := RX1) (T := TX1) (N := 7) hx hb hts hiX1 hown hK hP 1 rfl rfl 1 (by decide) (hts (.fieldLink RX5 70 "TideMill$Mill" "pond" "LTideMill$Pond;") (List.mem_of_getElem? (i := 4) rfl)) (fun _ h9 => h9) rfl dX5_sluice_34 ?_
    refine lv_iload_n hx hb dX5_sluice_37 rfl (lv_at hl 2 rfl) ?_
    refine va_put (D := G.1) (ci := 3) (v := .int p1) (ty := .int) (C := RX3) (T := TX3) (N := 6) hx hb hts hiX3 tyX3 tyX3_ok nmX3 hown hK hP hD hS 2 rfl rfl 3 (by decide) (hts (.fieldLink RX5 81 "TideMill$Pond" "sluice" "I") (List.mem_of_getElem? (i := 5) rfl)) (fun _ h9 => h9) rfl (by decide +kernel) rfl rfl (Nat.le_of_ble_eq_true rfl) dX5_sluice_38 (fun H locs hP hD hS => ?_)
    have hP : va_P G.1 vwCl [tc_X5 a0 ma0 ta0 lk rf pu to, tc_X1 ma0 ma1 ma2 ma3 ma4 fh lh ee, tc_X3 ma2 lv si ga p1 sc fo] H := hP
    have hD : va_D A [tc_X5 a0 ma0 ta0 lk rf pu to, tc_X1 ma0 ma1 ma2 ma3 ma4 fh lh ee, tc_X3 ma2 lv si ga p1 sc fo] := hD
    refine lv_iload_n hx hb dX5_sluice_41 rfl (lv_at hl 0 rfl) ?_
    have hP9 := hP.sub (ws' := [tc_X5 a0 ma0 ta0 lk rf pu to, tc_X1 ma0 ma1 ma2 ma3 ma4 fh lh ee, tc_X3 ma2 lv si ga p1 sc fo]) [0, 1, 2] rfl
    have hD9 := hD.sub (ws' := [tc_X5 a0 ma0 ta0 lk rf pu to, tc_X1 ma0 ma1 ma2 ma3 ma4 fh lh ee, tc_X3 ma2 lv si ga p1 sc fo]) [0, 1, 2] (by decide) rfl
    exact W.iret (v := sl) hx hb hr (fun t ht hW => ⟨⟨sl, (p1), rfl, by unfold f_X5_sluice; all_goals rfl, by rw [ht]; exact hP9, hD9⟩, hS.F ht⟩) hS.2.2 dX5_sluice_42
  · exact absurd c_2 na_0
set_option maxHeartbeats 4000000 in
set_option maxRecDepth 100000 in
theorem c_X5_scour (l : Launch) (G : tm_G) (a0 : Nat) (ma0 : Nat) (ta0 : Nat) (ma1 : Nat) (ma2 : Nat) (ma3 : Nat) (ma4 : Nat) (sz : Nat) (lk : Int32) (rf : Int32) (pu : Int32) (to : UInt64) (fh : Int32) (lh : Int32) (ee : Int32) (lv : UInt64) (si : UInt32) (ga : Int32) (sl : Int32) (sc : Int32) (fo : UInt64) (p1 : Int32) (hn : n_X5_scour sc p1) : Met l yX5_scour wsX5_scour ({ frames := 0, cells := 0, slots := 0, locals := 0 }) (va_Pc [.ref a0, .int p1] (tm_B G [tc_X5 a0 ma0 ta0 lk rf pu to, tc_X1 ma0 ma1 ma2 ma3 ma4 fh lh ee, tc_X3 ma2 lv si ga sl sc fo] sz)) (va_Qi (fun (r : Int32) (u : Int32) => (r, u) = f_X5_scour sc p1) (fun (u : Int32) (t : State) => va_P G.1 vwCl [tc_X5 a0 ma0 ta0 lk rf pu to, tc_X1 ma0 ma1 ma2 ma3 ma4 fh lh ee, tc_X3 ma2 lv si ga sl u fo] t.heap ∧ va_D (va_A [tc_X5 a0 ma0 ta0 lk rf pu to, tc_X1 ma0 ma1 ma2 ma3 ma4 fh lh ee, tc_X3 ma2 lv si ga sl sc fo] sz) [tc_X5 a0 ma0 ta0 lk rf pu to, tc_X1 ma0 ma1 ma2 ma3 ma4 fh lh ee, tc_X3 ma2 lv si ga sl u fo]) (va_A [tc_X5 a0 ma0 ta0 lk rf pu to, tc_X1 ma0 ma1 ma2 ma3 ma4 fh lh ee, tc_X3 ma2 lv si ga sl sc fo] sz)) 0 0 (va_A [tc_X5 a0 ma0 ta0 lk rf pu to, tc_X1 ma0 ma1 ma2 ma3 ma4 fh lh ee, tc_X3 ma2 lv si ga sl sc fo] sz) := by
  refine Met.ofW (cc := cX5_scour) (maxL := 3) (ret := (some .boolean)) (by decide) rfl ?_
  intro p e s m args below meth c s₁ B hml hv
  obtain ⟨rfl, hsz, hP, hK, hD0, hN, hV⟩ := hv
  have hx := B.exec
  have hb := B.bytes
  have hr := B.returns
  have hts := atoms_spec (ws := wsX5_scour) B.pre
  have hown : s.vm.findClass RX5 = some m.cls := findClass_of_methodNamed B.named
  have hlocks := B.notSynchronized
  subst hsz
  obtain ⟨n_1, n_2⟩ := hn
  have hiX1 : ∀ w ∈ u_ws RX1 TX1 7, w ∈ wsX5_scour := fun _ h => List.mem_cons_of_mem _ (List.mem_append_left _ (List.mem_append_right _ h))
  have hiX3 : ∀ w ∈ u_ws RX3 TX3 6, w ∈ wsX5_scour := fun _ h => List.mem_cons_of_mem _ (List.mem_append_right _ h)
  have hiX5 : ∀ w ∈ u_ws RX5 TX5 6, w ∈ wsX5_scour := fun _ h => List.mem_cons_of_mem _ (List.mem_append_left _ (List.mem_append_left _ (List.mem_append_right _ h)))
  have hD := hD0.self (sz := s.heap.size)
  generalize hAe : va_A [tc_X5 a0 ma0 ta0 lk rf pu to, tc_X1 ma0 ma1 ma2 ma3 ma4 fh lh ee, tc_X3 ma2 lv si ga sl sc fo] s.heap.size = A at hD hV ⊢
  have hA : ∀ q : Nat, s.heap.size ≤ q → A q := fun q h => by rw [← hAe]; exact Or.inr h
  have hS : va_S A s.heap s.heap [] := va_S.rf
  have hl := lv_entry ([.ref a0, .int p1]) (n := 3) (Nat.le_of_ble_eq_true rfl)
  rw [lg_entry_eq]
  generalize (lg_sl ([.ref a0, .int p1]) ++ List.replicate (3 - (lg_sl ([.ref a0, .int p1])).length) Slot.unset).toArray = ls at hl ⊢
  have hl : lv_has ls 3 [(0, .ref a0), (1, .int p1)] := hl
  refine lv_aload_n hx hb dX5_scour_0 rfl (lv_at hl 0 rfl) ?_
  refine va_get (D := G.1) (ci := 5) (v := .ref ma0) (C := RX5) (T := TX5) (N := 6) hx hb hts hiX5 hown hK hP 0 rfl rfl 0 (by decide) (hts (.fieldLink RX5 10 "TideMill" "mill" "LTideMill$Mill;") (List.mem_of_getElem? (i := 1) rfl)) (fun _ h9 => h9) rfl dX5_scour_1 ?_
  refine va_get (D := G.1) (ci := 1) (v := .ref ma2) (C := RX1) (T := TX1) (N := 7) hx hb hts hiX1 hown hK hP 1 rfl rfl 1 (by decide) (hts (.fieldLink RX5 70 "TideMill$Mill" "pond" "LTideMill$Pond;") (List.mem_of_getElem? (i := 2) rfl)) (fun _ h9 => h9) rfl dX5_scour_4 ?_
  refine va_get (D := G.1) (ci := 3) (v := .int sc) (C := RX3) (T := TX3) (N := 6) hx hb hts hiX3 hown hK hP 2 rfl rfl 4 (by decide) (hts (.fieldLink RX5 84 "TideMill$Pond" "isScourOpen" "Z") (List.mem_of_getElem? (i := 3) rfl)) (fun _ h9 => h9) rfl dX5_scour_7 ?_
  refine lv_istore_n (lv' := [(2, .int sc), (0, .ref a0), (1, .int p1)]) hx hb dX5_scour_10 rfl hl (by decide) rfl (fun ls hl => ?_)
  refine lv_aload_n hx hb dX5_scour_11 rfl (lv_at hl 1 rfl) ?_
  refine va_get (D := G.1) (ci := 5) (v := .ref ma0) (C := RX5) (T := TX5) (N := 6) hx hb hts hiX5 hown hK hP 0 rfl rfl 0 (by decide) (hts (.fieldLink RX5 10 "TideMill" "mill" "LTideMill$Mill;") (List.mem_of_getElem? (i := 1) rfl)) (fun _ h9 => h9) rfl dX5_scour_12 ?_
  refine va_get (D := G.1) (ci := 1) (v := .ref ma2) (C := RX1) (T := TX1) (N := 7) hx hb hts hiX1 hown hK hP 1 rfl rfl 1 (by decide) (hts (.fieldLink RX5 70 "TideMill$Mill" "pond" "LTideMill$Pond;") (List.mem_of_getElem? (i := 2) rfl)) (fun _ h9 => h9) rfl dX5_scour_15 ?_
  refine lv_iload_n hx hb dX5_scour_18 rfl (lv_at hl 2 rfl) ?_
  refine va_put (D := G.1) (ci := 3) (v := .int p1) (ty := .boolean) (C := RX3) (T := TX3) (N := 6) hx hb hts hiX3 tyX3 tyX3_ok nmX3 hown hK hP hD hS 2 rfl rfl 4 (by decide) (hts (.fieldLink RX5 84 "TideMill$Pond" "isScourOpen" "Z") (List.mem_of_getElem? (i := 3) rfl)) (fun _ h9 => h9) rfl (by decide +kernel) (tm_bool_n n_1) (tm_bool_f n_1) (Nat.le_of_ble_eq_true rfl) dX5_scour_19 (fun H locs hP hD hS => ?_)
  have hP : va_P G.1 vwCl [tc_X5 a0 ma0 ta0 lk rf pu to, tc_X1 ma0 ma1 ma2 ma3 ma4 fh lh ee, tc_X3 ma2 lv si ga sl p1 fo] H := hP
  have hD : va_D A [tc_X5 a0 ma0 ta0 lk rf pu to, tc_X1 ma0 ma1 ma2 ma3 ma4 fh lh ee, tc_X3 ma2 lv si ga sl p1 fo] := hD
  refine lv_iload_n hx hb dX5_scour_22 rfl (lv_at hl 0 rfl) ?_
  have hP9 := hP.sub (ws' := [tc_X5 a0 ma0 ta0 lk rf pu to, tc_X1 ma0 ma1 ma2 ma3 ma4 fh lh ee, tc_X3 ma2 lv si ga sl p1 fo]) [0, 1, 2] rfl
  have hD9 := hD.sub (ws' := [tc_X5 a0 ma0 ta0 lk rf pu to, tc_X1 ma0 ma1 ma2 ma3 ma4 fh lh ee, tc_X3 ma2 lv si ga sl p1 fo]) [0, 1, 2] (by decide) rfl
  exact W.zret (v := sc) hx hb hr (tm_bool_n n_2) (fun t ht hW => ⟨⟨sc, (p1), rfl, by unfold f_X5_scour; all_goals rfl, by rw [ht]; exact hP9, hD9⟩, hS.F ht⟩) hS.2.2 dX5_scour_23
set_option maxHeartbeats 4000000 in
set_option maxRecDepth 100000 in
theorem c_X5_hours (l : Launch) (G : tm_G) (a0 : Nat) (ma0 : Nat) (ta0 : Nat) (ma1 : Nat) (ma2 : Nat) (ma3 : Nat) (ma4 : Nat) (sz : Nat) (lk : Int32) (rf : Int32) (pu : Int32) (to : UInt64) (fh : Int32) (lh : Int32) (ee : Int32) (tk : Int32) (mo : Int32) (su : UInt64) (p1 : Int32) (p2 : Int32) (hn : n_X5_hours tk p1 p2) : Met l yX5_hours wsX5_hours ({ frames := 2, cells := 0, slots := 0, locals := 41 }) (va_Pc [.ref a0, .int p1, .int p2] (tm_B G [tc_X5 a0 ma0 ta0 lk rf pu to, tc_X1 ma0 ma1 ma2 ma3 ma4 fh lh ee, tc_X4 ma1 tk mo su] sz)) (va_Qi (fun (r : Int32) (u : Int32 × Int32) => (r, u) = f_X5_hours tk p1 p2) (fun (u : Int32 × Int32) (t : State) => va_P G.1 vwCl [tc_X5 a0 ma0 ta0 lk rf pu to, tc_X1 ma0 ma1 ma2 ma3 ma4 u.1 u.2 ee, tc_X4 ma1 tk mo su] t.heap ∧ va_D (va_A [tc_X5 a0 ma0 ta0 lk rf pu to, tc_X1 ma0 ma1 ma2 ma3 ma4 fh lh ee, tc_X4 ma1 tk mo su] sz) [tc_X5 a0 ma0 ta0 lk rf pu to, tc_X1 ma0 ma1 ma2 ma3 ma4 u.1 u.2 ee, tc_X4 ma1 tk mo su]) (va_A [tc_X5 a0 ma0 ta0 lk rf pu to, tc_X1 ma0 ma1 ma2 ma3 ma4 fh lh ee, tc_X4 ma1 tk mo su] sz)) 0 0 (va_A [tc_X5 a0 ma0 ta0 lk rf pu to, tc_X1 ma0 ma1 ma2 ma3 ma4 fh lh ee, tc_X4 ma1 tk mo su] sz) := by
  refine Met.ofW (cc := cX5_hours) (maxL := 3) (ret := (some .boolean)) (by decide) rfl ?_
  intro p e s m args below meth c s₁ B hml hv
  obtain ⟨rfl, hsz, hP, hK, hD0, hN, hV⟩ := hv
  have hx := B.exec
  have hb := B.bytes
  have hr := B.returns
  have hts := atoms_spec (ws := wsX5_hours) B.pre
  have hown : s.vm.findClass RX5 = some m.cls := findClass_of_methodNamed B.named
  have hlocks := B.notSynchronized
  subst hsz
  obtain ⟨na_0, na_1, n_6⟩ := hn
  have hiX1 : ∀ w ∈ u_ws RX1 TX1 7, w ∈ wsX5_hours := fun _ h => List.mem_cons_of_mem _ (List.mem_append_left _ (List.mem_append_left _ (List.mem_append_right _ h)))
  have hiX5 : ∀ w ∈ u_ws RX5 TX5 6, w ∈ wsX5_hours := fun _ h => List.mem_cons_of_mem _ (List.mem_append_left _ (List.mem_append_left _ (List.mem_append_left _ (List.mem_append_right _ h))))
  have hD := hD0.self (sz := s.heap.size)
  generalize hAe : va_A [tc_X5 a0 ma0 ta0 lk rf pu to, tc_X1 ma0 ma1 ma2 ma3 ma4 fh lh ee, tc_X4 ma1 tk mo su] s.heap.size = A at hD hV ⊢
  have hA : ∀ q : Nat, s.heap.size ≤ q → A q := fun q h => by rw [← hAe]; exact Or.inr h
  have hS : va_S A s.heap s.heap [] := va_S.rf
  have hl := lv_entry ([.ref a0, .int p1, .int p2]) (n := 3) (Nat.le_of_ble_eq_true rfl)
  rw [lg_entry_eq]
  generalize (lg_sl ([.ref a0, .int p1, .int p2]) ++ List.replicate (3 - (lg_sl ([.ref a0, .int p1, .int p2])).length) Slot.unset).toArray = ls at hl ⊢
  have hl : lv_has ls 3 [(0, .ref a0), (1, .int p1), (2, .int p2)] := hl
  refine lv_iload_n hx hb dX5_hours_0 rfl (lv_at hl 1 rfl) ?_
  refine lv_iconst (v := 0) hx hb dX5_hours_1 (by decide) ?_
  refine lv_bipush (v := 47) hx hb dX5_hours_2 (by decide) ?_
  have hPc := hP.sub (ws' := []) [] rfl
  have hDc := hD.sub (ws' := []) [] (by decide) rfl
  have hFc := va_free (wc := []) hD hS hA [] rfl
  refine va_calli (va_runS (As := [.int p1, .int 0, .int 47]) (rest := []) ⟨hx, hb, hml, hown, hts⟩ (c_X5_isWithin l G  s.heap.size p1 0 47 ) (cwS 3 hts gX5_hours_X5_isWithin rfl rfl rfl (by decide +kernel) ⟨(Nat.le_of_ble_eq_true rfl), (Nat.le_of_ble_eq_true rfl)⟩) (tm_preS hK hN hV hS hPc hDc hFc) rfl rfl hl.1 rfl (lv_room (Nat.le_of_ble_eq_true rfl)) dX5_hours_4 ⟨(Nat.le_of_ble_eq_true rfl), (Nat.le_of_ble_eq_true rfl)⟩) hS (fun q _ h => hFc q h) hFc (fun r_1 u t H locs ht hvm hw_1 hB hz1 hk1 hS => ?_)
  obtain ⟨hP1, hD1⟩ := hB
  rw [ht] at hP1
  try dsimp only at hw_1
  obtain ⟨hP, hD⟩ := va_join (wr := [tc_X5 a0 ma0 ta0 lk rf pu to, tc_X1 ma0 ma1 ma2 ma3 ma4 fh lh ee, tc_X4 ma1 tk mo su]) (w1 := []) hP hD [] [0, 1, 2] rfl rfl (by decide) (by decide) hk1 hFc hP1 hD1
  have hP : va_P G.1 vwCl [tc_X5 a0 ma0 ta0 lk rf pu to, tc_X1 ma0 ma1 ma2 ma3 ma4 fh lh ee, tc_X4 ma1 tk mo su] H := hP
  have hD : va_D A [tc_X5 a0 ma0 ta0 lk rf pu to, tc_X1 ma0 ma1 ma2 ma3 ma4 fh lh ee, tc_X4 ma1 tk mo su] := hD
  subst hw_1
  refine lv_if_eq (tgt := 20) hx hb dX5_hours_7 (by decide) (fun c_2 => ?_) (fun c_2 => ?_)
  · exact absurd c_2 na_0
  · refine lv_iload_n hx hb dX5_hours_10 rfl (lv_at hl 2 rfl) ?_
    refine lv_iconst (v := 0) hx hb dX5_hours_11 (by decide) ?_
    refine lv_bipush (v := 47) hx hb dX5_hours_12 (by decide) ?_
    have hPc := hP.sub (ws' := []) [] rfl
    have hDc := hD.sub (ws' := []) [] (by decide) rfl
    have hFc := va_free (wc := []) hD hS hA [] rfl
    refine va_calli (va_runS (As := [.int p2, .int 0, .int 47]) (rest := []) ⟨hx, hb, hml, hown, hts⟩ (c_X5_isWithin l G  H.size p2 0 47 ) (cwS 3 hts gX5_hours_X5_isWithin rfl rfl rfl (by decide +kernel) ⟨(Nat.le_of_ble_eq_true rfl), (Nat.le_of_ble_eq_true rfl)⟩) (tm_preS hK hN hV hS hPc hDc hFc) rfl rfl hl.1 rfl (lv_room (Nat.le_of_ble_eq_true rfl)) dX5_hours_14 ⟨(Nat.le_of_ble_eq_true rfl), (Nat.le_of_ble_eq_true rfl)⟩) hS (fun q _ h => hFc q h) hFc (fun r_3 u t H locs ht hvm hw_3 hB hz1 hk1 hS => ?_)
    obtain ⟨hP1, hD1⟩ := hB
    rw [ht] at hP1
    try dsimp only at hw_3
    obtain ⟨hP, hD⟩ := va_join (wr := [tc_X5 a0 ma0 ta0 lk rf pu to, tc_X1 ma0 ma1 ma2 ma3 ma4 fh lh ee, tc_X4 ma1 tk mo su]) (w1 := []) hP hD [] [0, 1, 2] rfl rfl (by decide) (by decide) hk1 hFc hP1 hD1
    have hP : va_P G.1 vwCl [tc_X5 a0 ma0 ta0 lk rf pu to, tc_X1 ma0 ma1 ma2 ma3 ma4 fh lh ee, tc_X4 ma1 tk mo su] H := hP
    have hD : va_D A [tc_X5 a0 ma0 ta0 lk rf pu to, tc_X1 ma0 ma1 ma2 ma3 ma4 fh lh ee, tc_X4 ma1 tk mo su] := hD
    subst hw_3
    refine lv_if_ne (tgt := 30) hx hb dX5_hours_17 (by decide) (fun c_4 => ?_) (fun c_4 => ?_)
    · refine lv_aload_n hx hb dX5_hours_30 rfl (lv_at hl 0 rfl) ?_
      refine va_get (D := G.1) (ci := 5) (v := .ref ma0) (C := RX5) (T := TX5) (N := 6) hx hb hts hiX5 hown hK hP 0 rfl rfl 0 (by decide) (hts (.fieldLink RX5 10 "TideMill" "mill" "LTideMill$Mill;") (List.mem_of_getElem? (i := 3) rfl)) (fun _ h9 => h9) rfl dX5_hours_31 ?_
      refine lv_iload_n hx hb dX5_hours_34 rfl (lv_at hl 1 rfl) ?_
      refine va_put (D := G.1) (ci := 1) (v := .int p1) (ty := .int) (C := RX1) (T := TX1) (N := 7) hx hb hts hiX1 tyX1 tyX1_ok nmX1 hown hK hP hD hS 1 rfl rfl 4 (by decide) (hts (.fieldLink RX5 89 "TideMill$Mill" "firstHour" "I") (List.mem_of_getElem? (i := 4) rfl)) (fun _ h9 => h9) rfl (by decide +kernel) rfl rfl (Nat.le_of_ble_eq_true rfl) dX5_hours_35 (fun H locs hP hD hS => ?_)
      have hP : va_P G.1 vwCl [tc_X5 a0 ma0 ta0 lk rf pu to, tc_X1 ma0 ma1 ma2 ma3 ma4 p1 lh ee, tc_X4 ma1 tk mo su] H := hP
      have hD : va_D A [tc_X5 a0 ma0 ta0 lk rf pu to, tc_X1 ma0 ma1 ma2 ma3 ma4 p1 lh ee, tc_X4 ma1 tk mo su] := hD
      refine lv_aload_n hx hb dX5_hours_38 rfl (lv_at hl 0 rfl) ?_
      refine va_get (D := G.1) (ci := 5) (v := .ref ma0) (C := RX5) (T := TX5) (N := 6) hx hb hts hiX5 hown hK hP 0 rfl rfl 0 (by decide) (hts (.fieldLink RX5 10 "TideMill" "mill" "LTideMill$Mill;") (List.mem_of_getElem? (i := 3) rfl)) (fun _ h9 => h9) rfl dX5_hours_39 ?_
      refine lv_iload_n hx hb dX5_hours_42 rfl (lv_at hl 2 rfl) ?_
      refine va_put (D := G.1) (ci := 1) (v := .int p2) (ty := .int) (C := RX1) (T := TX1) (N := 7) hx hb hts hiX1 tyX1 tyX1_ok nmX1 hown hK hP hD hS 1 rfl rfl 5 (by decide) (hts (.fieldLink RX5 92 "TideMill$Mill" "lastHour" "I") (List.mem_of_getElem? (i := 5) rfl)) (fun _ h9 => h9) rfl (by decide +kernel) rfl rfl (Nat.le_of_ble_eq_true rfl) dX5_hours_43 (fun H locs hP hD hS => ?_)
      have hP : va_P G.1 vwCl [tc_X5 a0 ma0 ta0 lk rf pu to, tc_X1 ma0 ma1 ma2 ma3 ma4 p1 p2 ee, tc_X4 ma1 tk mo su] H := hP
      have hD : va_D A [tc_X5 a0 ma0 ta0 lk rf pu to, tc_X1 ma0 ma1 ma2 ma3 ma4 p1 p2 ee, tc_X4 ma1 tk mo su] := hD
      refine lv_aload_n hx hb dX5_hours_46 rfl (lv_at hl 0 rfl) ?_
      refine va_get (D := G.1) (ci := 5) (v := .ref ma0) (C := RX5) (T := TX5) (N := 6) hx hb hts hiX5 hown hK hP 0 rfl rfl 0 (by decide) (hts (.fieldLink RX5 10 "TideMill" "mill" "LTideMill$Mill;") (List.mem_of_getElem? (i := 3) rfl)) (fun _ h9 => h9) rfl dX5_hours_47 ?_
      have hPc := hP.sub (ws' := [tc_X1 ma0 ma1 ma2 ma3 ma4 p1 p2 ee, tc_X4 ma1 tk mo su]) [1, 2] rfl
      have hDc := hD.sub (ws' := [tc_X1 ma0 ma1 ma2 ma3 ma4 p1 p2 ee, tc_X4 ma1 tk mo su]) [1, 2] (by decide) rfl
      have hFc := va_free (wc := [tc_X1 ma0 ma1 ma2 ma3 ma4 p1 p2 ee, tc_X4 ma1 tk mo su]) hD hS hA [1, 2] rfl
      refine va_calli (va_runV (As := []) (rest := []) ⟨hx, hb, hml, hown, hts⟩ (c_X1_isAwake l G ma0 ma1 ma2 ma3 ma4 H.size p1 p2 ee tk mo su ) (cwV 0 hts gX5_hours_X1_isAwake rfl rfl rfl (by decide +kernel) ⟨(Nat.le_of_ble_eq_true rfl), (Nat.le_of_ble_eq_true rfl)⟩) (tm_preV hK hN hV hS hPc hDc hFc (va_recv hK hPc (ci := 1) (q0 := 0) rfl rfl)) rfl rfl hl.1 rfl (lv_room (Nat.le_of_ble_eq_true rfl)) dX5_hours_50 ⟨(Nat.le_of_ble_eq_true rfl), (Nat.le_of_ble_eq_true rfl)⟩) hS (fun q _ h => hFc q h) hFc (fun r_5 u t H locs ht hvm hw_5 hB hz1 hk1 hS => ?_)
      obtain ⟨hP1, hD1⟩ := hB
      rw [ht] at hP1
      try dsimp only at hw_5
      obtain ⟨hP, hD⟩ := va_join (wr := [tc_X5 a0 ma0 ta0 lk rf pu to]) (w1 := [tc_X1 ma0 ma1 ma2 ma3 ma4 p1 p2 ee, tc_X4 ma1 tk mo su]) hP hD [1, 2] [0] rfl rfl (by decide) (by decide) hk1 hFc hP1 hD1
      have hP : va_P G.1 vwCl [tc_X5 a0 ma0 ta0 lk rf pu to, tc_X1 ma0 ma1 ma2 ma3 ma4 p1 p2 ee, tc_X4 ma1 tk mo su] H := hP
      have hD : va_D A [tc_X5 a0 ma0 ta0 lk rf pu to, tc_X1 ma0 ma1 ma2 ma3 ma4 p1 p2 ee, tc_X4 ma1 tk mo su] := hD
      subst hw_5
      have hP9 := hP.sub (ws' := [tc_X5 a0 ma0 ta0 lk rf pu to, tc_X1 ma0 ma1 ma2 ma3 ma4 p1 p2 ee, tc_X4 ma1 tk mo su]) [0, 1, 2] rfl
      have hD9 := hD.sub (ws' := [tc_X5 a0 ma0 ta0 lk rf pu to, tc_X1 ma0 ma1 ma2 ma3 ma4 p1 p2 ee, tc_X4 ma1 tk mo su]) [0, 1, 2] (by decide) rfl
      exact W.zret (v := f_X1_isAwake p1 p2 tk) hx hb hr (tm_bool_n n_6) (fun t ht hW => ⟨⟨f_X1_isAwake p1 p2 tk, (p1, p2), rfl, by unfold f_X5_hours; all_goals rfl, by rw [ht]; exact hP9, hD9⟩, hS.F ht⟩) hS.2.2 dX5_hours_53
    · exact absurd c_4 na_1
set_option maxHeartbeats 4000000 in
set_option maxRecDepth 100000 in
theorem c_X5_lock (l : Launch) (G : tm_G) (a0 : Nat) (ma0 : Nat) (ta0 : Nat) (sz : Nat) (lk : Int32) (rf : Int32) (pu : Int32) (to : UInt64) (p1 : Int32) (hn : n_X5_lock lk p1) : Met l yX5_lock wsX5_lock ({ frames := 0, cells := 0, slots := 0, locals := 0 }) (va_Pc [.ref a0, .int p1] (tm_B G [tc_X5 a0 ma0 ta0 lk rf pu to] sz)) (va_Qi (fun (r : Int32) (u : Int32) => (r, u) = f_X5_lock lk p1) (fun (u : Int32) (t : State) => va_P G.1 vwCl [tc_X5 a0 ma0 ta0 u rf pu to] t.heap ∧ va_D (va_A [tc_X5 a0 ma0 ta0 lk rf pu to] sz) [tc_X5 a0 ma0 ta0 u rf pu to]) (va_A [tc_X5 a0 ma0 ta0 lk rf pu to] sz)) 0 0 (va_A [tc_X5 a0 ma0 ta0 lk rf pu to] sz) := by
  refine Met.ofW (cc := cX5_lock) (maxL := 3) (ret := (some .boolean)) (by decide) rfl ?_
  intro p e s m args below meth c s₁ B hml hv
  obtain ⟨rfl, hsz, hP, hK, hD0, hN, hV⟩ := hv
  have hx := B.exec
  have hb := B.bytes
  have hr := B.returns
  have hts := atoms_spec (ws := wsX5_lock) B.pre
  have hown : s.vm.findClass RX5 = some m.cls := findClass_of_methodNamed B.named
  have hlocks := B.notSynchronized
  subst hsz
  obtain ⟨n_1, n_2⟩ := hn
  have hiX5 : ∀ w ∈ u_ws RX5 TX5 6, w ∈ wsX5_lock := fun _ h => List.mem_cons_of_mem _ (List.mem_append_right _ h)
  have hD := hD0.self (sz := s.heap.size)
  generalize hAe : va_A [tc_X5 a0 ma0 ta0 lk rf pu to] s.heap.size = A at hD hV ⊢
  have hA : ∀ q : Nat, s.heap.size ≤ q → A q := fun q h => by rw [← hAe]; exact Or.inr h
  have hS : va_S A s.heap s.heap [] := va_S.rf
  have hl := lv_entry ([.ref a0, .int p1]) (n := 3) (Nat.le_of_ble_eq_true rfl)
  rw [lg_entry_eq]
  generalize (lg_sl ([.ref a0, .int p1]) ++ List.replicate (3 - (lg_sl ([.ref a0, .int p1])).length) Slot.unset).toArray = ls at hl ⊢
  have hl : lv_has ls 3 [(0, .ref a0), (1, .int p1)] := hl
  refine lv_aload_n hx hb dX5_lock_0 rfl (lv_at hl 0 rfl) ?_
  refine va_get (D := G.1) (ci := 5) (v := .int lk) (C := RX5) (T := TX5) (N := 6) hx hb hts hiX5 hown hK hP 0 rfl rfl 2 (by decide) (hts (.fieldLink RX5 61 "TideMill" "isLocked" "Z") (List.mem_of_getElem? (i := 1) rfl)) (fun _ h9 => h9) rfl dX5_lock_1 ?_
  refine lv_istore_n (lv' := [(2, .int lk), (0, .ref a0), (1, .int p1)]) hx hb dX5_lock_4 rfl hl (by decide) rfl (fun ls hl => ?_)
  refine lv_aload_n hx hb dX5_lock_5 rfl (lv_at hl 1 rfl) ?_
  refine lv_iload_n hx hb dX5_lock_6 rfl (lv_at hl 2 rfl) ?_
  refine va_put (D := G.1) (ci := 5) (v := .int p1) (ty := .boolean) (C := RX5) (T := TX5) (N := 6) hx hb hts hiX5 tyX5 tyX5_ok nmX5 hown hK hP hD hS 0 rfl rfl 2 (by decide) (hts (.fieldLink RX5 61 "TideMill" "isLocked" "Z") (List.mem_of_getElem? (i := 1) rfl)) (fun _ h9 => h9) rfl (by decide +kernel) (tm_bool_n n_1) (tm_bool_f n_1) (Nat.le_of_ble_eq_true rfl) dX5_lock_7 (fun H locs hP hD hS => ?_)
  have hP : va_P G.1 vwCl [tc_X5 a0 ma0 ta0 p1 rf pu to] H := hP
  have hD : va_D A [tc_X5 a0 ma0 ta0 p1 rf pu to] := hD
  refine lv_iload_n hx hb dX5_lock_10 rfl (lv_at hl 0 rfl) ?_
  have hP9 := hP.sub (ws' := [tc_X5 a0 ma0 ta0 p1 rf pu to]) [0] rfl
  have hD9 := hD.sub (ws' := [tc_X5 a0 ma0 ta0 p1 rf pu to]) [0] (by decide) rfl
  exact W.zret (v := lk) hx hb hr (tm_bool_n n_2) (fun t ht hW => ⟨⟨lk, (p1), rfl, by unfold f_X5_lock; all_goals rfl, by rw [ht]; exact hP9, hD9⟩, hS.F ht⟩) hS.2.2 dX5_lock_11
set_option maxHeartbeats 4000000 in
set_option maxRecDepth 100000 in
theorem c_X5_pair (l : Launch) (G : tm_G) (a0 : Nat) (ma0 : Nat) (ta0 : Nat) (ma1 : Nat) (ma2 : Nat) (ma3 : Nat) (ma4 : Nat) (md0 : Nat) (md1 : Nat) (md2 : Nat) (md3 : Nat) (sz : Nat) (lk : Int32) (rf : Int32) (pu : Int32) (to : UInt64) (fh : Int32) (lh : Int32) (ee : Int32) (pn : Int32) (dl : Nat → UInt32) (pl : Nat → Int32) (dr : Nat → Int32) (sp : Nat → Int32) (hn : n_X5_pair pn) : Met l yX5_pair wsX5_pair ({ frames := 1, cells := 0, slots := 0, locals := 21 }) (va_Pc [.ref a0] (tm_B G [tc_X5 a0 ma0 ta0 lk rf pu to, tc_X1 ma0 ma1 ma2 ma3 ma4 fh lh ee, tc_X2 ma4 md0 md1 md2 md3 pn, tc_F G md0 3 dl, tc_I G md1 3 pl, tc_I G md2 3 dr, tc_I G md3 3 sp] sz)) (va_Qi (fun (r : Int32) (u : Int32 × (Nat → Int32)) => (r, u) = f_X5_pair pn pl) (fun (u : Int32 × (Nat → Int32)) (t : State) => va_P G.1 vwCl [tc_X5 a0 ma0 ta0 lk rf pu to, tc_X1 ma0 ma1 ma2 ma3 ma4 fh lh ee, tc_X2 ma4 md0 md1 md2 md3 u.1, tc_F G md0 3 dl, tc_I G md1 3 u.2, tc_I G md2 3 dr, tc_I G md3 3 sp] t.heap ∧ va_D (va_A [tc_X5 a0 ma0 ta0 lk rf pu to, tc_X1 ma0 ma1 ma2 ma3 ma4 fh lh ee, tc_X2 ma4 md0 md1 md2 md3 pn, tc_F G md0 3 dl, tc_I G md1 3 pl, tc_I G md2 3 dr, tc_I G md3 3 sp] sz) [tc_X5 a0 ma0 ta0 lk rf pu to, tc_X1 ma0 ma1 ma2 ma3 ma4 fh lh ee, tc_X2 ma4 md0 md1 md2 md3 u.1, tc_F G md0 3 dl, tc_I G md1 3 u.2, tc_I G md2 3 dr, tc_I G md3 3 sp]) (va_A [tc_X5 a0 ma0 ta0 lk rf pu to, tc_X1 ma0 ma1 ma2 ma3 ma4 fh lh ee, tc_X2 ma4 md0 md1 md2 md3 pn, tc_F G md0 3 dl, tc_I G md1 3 pl, tc_I G md2 3 dr, tc_I G md3 3 sp] sz)) 0 0 (va_A [tc_X5 a0 ma0 ta0 lk rf pu to, tc_X1 ma0 ma1 ma2 ma3 ma4 fh lh ee, tc_X2 ma4 md0 md1 md2 md3 pn, tc_F G md0 3 dl, tc_I G md1 3 pl, tc_I G md2 3 dr, tc_I G md3 3 sp] sz) := by
  refine Met.ofW (cc := cX5_pair) (maxL := 1) (ret := (some .int)) (by decide) rfl ?_
  intro p e s m args below meth c s₁ B hml hv
  obtain ⟨rfl, hsz, hP, hK, hD0, hN, hV⟩ := hv
  have hx := B.exec
  have hb := B.bytes
  have hr := B.returns
  have hts := atoms_spec (ws := wsX5_pair) B.pre
  have hown : s.vm.findClass RX5 = some m.cls := findClass_of_methodNamed B.named
  have hlocks := B.notSynchronized
  subst hsz
  obtain ⟨na_0, n_2⟩ := hn
  have hiX1 : ∀ w ∈ u_ws RX1 TX1 7, w ∈ wsX5_pair := fun _ h => List.mem_cons_of_mem _ (List.mem_append_left _ (List.mem_append_left _ (List.mem_append_right _ h)))
  have hiX2 : ∀ w ∈ u_ws RX2 TX2 5, w ∈ wsX5_pair := fun _ h => List.mem_cons_of_mem _ (List.mem_append_left _ (List.mem_append_right _ h))
  have hiX5 : ∀ w ∈ u_ws RX5 TX5 6, w ∈ wsX5_pair := fun _ h => List.mem_cons_of_mem _ (List.mem_append_left _ (List.mem_append_left _ (List.mem_append_left _ (List.mem_append_right _ h))))
  have hD := hD0.self (sz := s.heap.size)
  generalize hAe : va_A [tc_X5 a0 ma0 ta0 lk rf pu to, tc_X1 ma0 ma1 ma2 ma3 ma4 fh lh ee, tc_X2 ma4 md0 md1 md2 md3 pn, tc_F G md0 3 dl, tc_I G md1 3 pl, tc_I G md2 3 dr, tc_I G md3 3 sp] s.heap.size = A at hD hV ⊢
  have hA : ∀ q : Nat, s.heap.size ≤ q → A q := fun q h => by rw [← hAe]; exact Or.inr h
  have hS : va_S A s.heap s.heap [] := va_S.rf
  have hl := lv_entry ([.ref a0]) (n := 1) (Nat.le_of_ble_eq_true rfl)
  rw [lg_entry_eq]
  generalize (lg_sl ([.ref a0]) ++ List.replicate (1 - (lg_sl ([.ref a0])).length) Slot.unset).toArray = ls at hl ⊢
  have hl : lv_has ls 1 [(0, .ref a0)] := hl
  refine lv_aload_n hx hb dX5_pair_0 rfl (lv_at hl 0 rfl) ?_
  refine va_get (D := G.1) (ci := 5) (v := .ref ma0) (C := RX5) (T := TX5) (N := 6) hx hb hts hiX5 hown hK hP 0 rfl rfl 0 (by decide) (hts (.fieldLink RX5 10 "TideMill" "mill" "LTideMill$Mill;") (List.mem_of_getElem? (i := 3) rfl)) (fun _ h9 => h9) rfl dX5_pair_1 ?_
  refine va_get (D := G.1) (ci := 1) (v := .ref ma4) (C := RX1) (T := TX1) (N := 7) hx hb hts hiX1 hown hK hP 1 rfl rfl 3 (by decide) (hts (.fieldLink RX5 102 "TideMill$Mill" "pairs" "LTideMill$Pairs;") (List.mem_of_getElem? (i := 4) rfl)) (fun _ h9 => h9) rfl dX5_pair_4 ?_
  refine va_get (D := G.1) (ci := 2) (v := .int pn) (C := RX2) (T := TX2) (N := 5) hx hb hts hiX2 hown hK hP 2 rfl rfl 4 (by decide) (hts (.fieldLink RX5 106 "TideMill$Pairs" "count" "I") (List.mem_of_getElem? (i := 5) rfl)) (fun _ h9 => h9) rfl dX5_pair_7 ?_
  refine lv_iconst (v := 3) hx hb dX5_pair_10 (by decide) ?_
  refine lv_icmp_lt (tgt := 24) hx hb dX5_pair_11 (by decide) (fun c_1 => ?_) (fun c_1 => ?_)
  · refine lv_aload_n hx hb dX5_pair_24 rfl (lv_at hl 0 rfl) ?_
    refine va_get (D := G.1) (ci := 5) (v := .ref ma0) (C := RX5) (T := TX5) (N := 6) hx hb hts hiX5 hown hK hP 0 rfl rfl 0 (by decide) (hts (.fieldLink RX5 10 "TideMill" "mill" "LTideMill$Mill;") (List.mem_of_getElem? (i := 3) rfl)) (fun _ h9 => h9) rfl dX5_pair_25 ?_
    refine va_get (D := G.1) (ci := 1) (v := .ref ma4) (C := RX1) (T := TX1) (N := 7) hx hb hts hiX1 hown hK hP 1 rfl rfl 3 (by decide) (hts (.fieldLink RX5 102 "TideMill$Mill" "pairs" "LTideMill$Pairs;") (List.mem_of_getElem? (i := 4) rfl)) (fun _ h9 => h9) rfl dX5_pair_28 ?_
    have hPc := hP.sub (ws' := [tc_X2 ma4 md0 md1 md2 md3 pn, tc_F G md0 3 dl, tc_I G md1 3 pl, tc_I G md2 3 dr, tc_I G md3 3 sp]) [2, 3, 4, 5, 6] rfl
    have hDc := hD.sub (ws' := [tc_X2 ma4 md0 md1 md2 md3 pn, tc_F G md0 3 dl, tc_I G md1 3 pl, tc_I G md2 3 dr, tc_I G md3 3 sp]) [2, 3, 4, 5, 6] (by decide) rfl
    have hFc := va_free (wc := [tc_X2 ma4 md0 md1 md2 md3 pn, tc_F G md0 3 dl, tc_I G md1 3 pl, tc_I G md2 3 dr, tc_I G md3 3 sp]) hD hS hA [2, 3, 4, 5, 6] rfl
    refine va_calli (va_runV (As := []) (rest := []) ⟨hx, hb, hml, hown, hts⟩ (c_X2_lay l G ma4 md0 md1 md2 md3 s.heap.size pn dl pl dr sp n_2) (cwV 0 hts gX5_pair_X2_lay rfl rfl rfl (by decide +kernel) ⟨(Nat.le_of_ble_eq_true rfl), (Nat.le_of_ble_eq_true rfl)⟩) (tm_preV hK hN hV hS hPc hDc hFc (va_recv hK hPc (ci := 2) (q0 := 0) rfl rfl)) rfl rfl hl.1 rfl (lv_room (Nat.le_of_ble_eq_true rfl)) dX5_pair_31 ⟨(Nat.le_of_ble_eq_true rfl), (Nat.le_of_ble_eq_true rfl)⟩) hS (fun q _ h => hFc q h) hFc (fun r_3 u t H locs ht hvm hw_3 hB hz1 hk1 hS => ?_)
    obtain ⟨u_4, u_5⟩ := u
    obtain ⟨hP1, hD1⟩ := hB
    rw [ht] at hP1
    try dsimp only at hw_3
    obtain ⟨hP, hD⟩ := va_join (wr := [tc_X5 a0 ma0 ta0 lk rf pu to, tc_X1 ma0 ma1 ma2 ma3 ma4 fh lh ee]) (w1 := [tc_X2 ma4 md0 md1 md2 md3 u_4, tc_F G md0 3 dl, tc_I G md1 3 u_5, tc_I G md2 3 dr, tc_I G md3 3 sp]) hP hD [2, 3, 4, 5, 6] [0, 1] rfl rfl (by decide) (by decide) hk1 hFc hP1 hD1
    have hP : va_P G.1 vwCl [tc_X5 a0 ma0 ta0 lk rf pu to, tc_X1 ma0 ma1 ma2 ma3 ma4 fh lh ee, tc_X2 ma4 md0 md1 md2 md3 u_4, tc_F G md0 3 dl, tc_I G md1 3 u_5, tc_I G md2 3 dr, tc_I G md3 3 sp] H := hP
    have hD : va_D A [tc_X5 a0 ma0 ta0 lk rf pu to, tc_X1 ma0 ma1 ma2 ma3 ma4 fh lh ee, tc_X2 ma4 md0 md1 md2 md3 u_4, tc_F G md0 3 dl, tc_I G md1 3 u_5, tc_I G md2 3 dr, tc_I G md3 3 sp] := hD
    have hP9 := hP.sub (ws' := [tc_X5 a0 ma0 ta0 lk rf pu to, tc_X1 ma0 ma1 ma2 ma3 ma4 fh lh ee, tc_X2 ma4 md0 md1 md2 md3 u_4, tc_F G md0 3 dl, tc_I G md1 3 u_5, tc_I G md2 3 dr, tc_I G md3 3 sp]) [0, 1, 2, 3, 4, 5, 6] rfl
    have hD9 := hD.sub (ws' := [tc_X5 a0 ma0 ta0 lk rf pu to, tc_X1 ma0 ma1 ma2 ma3 ma4 fh lh ee, tc_X2 ma4 md0 md1 md2 md3 u_4, tc_F G md0 3 dl, tc_I G md1 3 u_5, tc_I G md2 3 dr, tc_I G md3 3 sp]) [0, 1, 2, 3, 4, 5, 6] (by decide) rfl
    exact W.iret (v := r_3) hx hb hr (fun t ht hW => ⟨⟨r_3, (u_4, u_5), rfl, by unfold f_X5_pair; all_goals (rw [← hw_3]); all_goals (dsimp only); all_goals rfl, by rw [ht]; exact hP9, hD9⟩, hS.F ht⟩) hS.2.2 dX5_pair_34
  · exact absurd na_0 c_1
set_option maxHeartbeats 4000000 in
set_option maxRecDepth 100000 in
theorem c_X5_lot (l : Launch) (G : tm_G) (a0 : Nat) (ma0 : Nat) (ta0 : Nat) (ma1 : Nat) (ma2 : Nat) (ma3 : Nat) (ma4 : Nat) (mb0 : Nat) (mb1 : Nat) (mb2 : Nat) (mb3 : Nat) (mb4 : Nat) (mb5 : Nat) (sz : Nat) (lk : Int32) (rf : Int32) (pu : Int32) (to : UInt64) (fh : Int32) (lh : Int32) (ee : Int32) (tk : Int32) (mo : Int32) (su : UInt64) (ln : Int32) (ow : Nat → Int32) (gr : Nat → Int32) (we : Nat → Int32) (du : Nat → Int32) (sa : Nat → Int32) (le : Nat → UInt64) (p1 : Int32) (p2 : Int32) (p3 : Int32) (p4 : Int32) (hn : n_X5_lot ln p1 p2 p3 p4) : Met l yX5_lot wsX5_lot ({ frames := 1, cells := 0, slots := 0, locals := 25 }) (va_Pc [.ref a0, .int p1, .int p2, .int p3, .int p4] (tm_B G [tc_X5 a0 ma0 ta0 lk rf pu to, tc_X1 ma0 ma1 ma2 ma3 ma4 fh lh ee, tc_X4 ma1 tk mo su, tc_X0 ma3 mb0 mb1 mb2 mb3 mb4 mb5 ln, tc_I G mb0 10 ow, tc_I G mb1 10 gr, tc_I G mb2 10 we, tc_I G mb3 10 du, tc_I G mb4 10 sa, tc_D G mb5 10 le] sz)) (va_Qi (fun (r : Int32) (u : Int32 × (Nat → Int32) × (Nat → Int32) × (Nat → Int32) × (Nat → Int32) × (Nat → Int32) × (Nat → UInt64)) => (r, u) = f_X5_lot tk ln ow gr we du sa le p1 p2 p3 p4) (fun (u : Int32 × (Nat → Int32) × (Nat → Int32) × (Nat → Int32) × (Nat → Int32) × (Nat → Int32) × (Nat → UInt64)) (t : State) => va_P G.1 vwCl [tc_X5 a0 ma0 ta0 lk rf pu to, tc_X1 ma0 ma1 ma2 ma3 ma4 fh lh ee, tc_X4 ma1 tk mo su, tc_X0 ma3 mb0 mb1 mb2 mb3 mb4 mb5 u.1, tc_I G mb0 10 u.2.1, tc_I G mb1 10 u.2.2.1, tc_I G mb2 10 u.2.2.2.1, tc_I G mb3 10 u.2.2.2.2.1, tc_I G mb4 10 u.2.2.2.2.2.1, tc_D G mb5 10 u.2.2.2.2.2.2] t.heap ∧ va_D (va_A [tc_X5 a0 ma0 ta0 lk rf pu to, tc_X1 ma0 ma1 ma2 ma3 ma4 fh lh ee, tc_X4 ma1 tk mo su, tc_X0 ma3 mb0 mb1 mb2 mb3 mb4 mb5 ln, tc_I G mb0 10 ow, tc_I G mb1 10 gr, tc_I G mb2 10 we, tc_I G mb3 10 du, tc_I G mb4 10 sa, tc_D G mb5 10 le] sz) [tc_X5 a0 ma0 ta0 lk rf pu to, tc_X1 ma0 ma1 ma2 ma3 ma4 fh lh ee, tc_X4 ma1 tk mo su, tc_X0 ma3 mb0 mb1 mb2 mb3 mb4 mb5 u.1, tc_I G mb0 10 u.2.1, tc_I G mb1 10 u.2.2.1, tc_I G mb2 10 u.2.2.2.1, tc_I G mb3 10 u.2.2.2.2.1, tc_I G mb4 10 u.2.2.2.2.2.1, tc_D G mb5 10 u.2.2.2.2.2.2]) (va_A [tc_X5 a0 ma0 ta0 lk rf pu to, tc_X1 ma0 ma1 ma2 ma3 ma4 fh lh ee, tc_X4 ma1 tk mo su, tc_X0 ma3 mb0 mb1 mb2 mb3 mb4 mb5 ln, tc_I G mb0 10 ow, tc_I G mb1 10 gr, tc_I G mb2 10 we, tc_I G mb3 10 du, tc_I G mb4 10 sa, tc_D G mb5 10 le] sz)) 0 0 (va_A [tc_X5 a0 ma0 ta0 lk rf pu to, tc_X1 ma0 ma1 ma2 ma3 ma4 fh lh ee, tc_X4 ma1 tk mo su, tc_X0 ma3 mb0 mb1 mb2 mb3 mb4 mb5 ln, tc_I G mb0 10 ow, tc_I G mb1 10 gr, tc_I G mb2 10 we, tc_I G mb3 10 du, tc_I G mb4 10 sa, tc_D G mb5 10 le] sz) := by
  refine Met.ofW (cc := cX5_lot) (maxL := 5) (ret := (some .int)) (by decide) rfl ?_
  intro p e s m args below meth c s₁ B hml hv
  obtain ⟨rfl, hsz, hP, hK, hD0, hN, hV⟩ := hv
  have hx := B.exec
  have hb := B.bytes
  have hr := B.returns
  have hts := atoms_spec (ws := wsX5_lot) B.pre
  have hown : s.vm.findClass RX5 = some m.cls := findClass_of_methodNamed B.named
  have hlocks := B.notSynchronized
  subst hsz
  obtain ⟨na_0, na_1, na_2, na_3, na_4, n_11⟩ := hn
  have hiX0 : ∀ w ∈ u_ws RX0 TX0 7, w ∈ wsX5_lot := fun _ h => List.mem_cons_of_mem _ (List.mem_append_left _ (List.mem_append_left _ (List.mem_append_left _ (List.mem_append_right _ h))))
  have hiX1 : ∀ w ∈ u_ws RX1 TX1 7, w ∈ wsX5_lot := fun _ h => List.mem_cons_of_mem _ (List.mem_append_left _ (List.mem_append_left _ (List.mem_append_left _ (List.mem_append_left _ (List.mem_append_right _ h)))))
  have hiX5 : ∀ w ∈ u_ws RX5 TX5 6, w ∈ wsX5_lot := fun _ h => List.mem_cons_of_mem _ (List.mem_append_left _ (List.mem_append_left _ (List.mem_append_left _ (List.mem_append_left _ (List.mem_append_left _ (List.mem_append_right _ h))))))
  have hD := hD0.self (sz := s.heap.size)
  generalize hAe : va_A [tc_X5 a0 ma0 ta0 lk rf pu to, tc_X1 ma0 ma1 ma2 ma3 ma4 fh lh ee, tc_X4 ma1 tk mo su, tc_X0 ma3 mb0 mb1 mb2 mb3 mb4 mb5 ln, tc_I G mb0 10 ow, tc_I G mb1 10 gr, tc_I G mb2 10 we, tc_I G mb3 10 du, tc_I G mb4 10 sa, tc_D G mb5 10 le] s.heap.size = A at hD hV ⊢
  have hA : ∀ q : Nat, s.heap.size ≤ q → A q := fun q h => by rw [← hAe]; exact Or.inr h
  have hS : va_S A s.heap s.heap [] := va_S.rf
  have hl := lv_entry ([.ref a0, .int p1, .int p2, .int p3, .int p4]) (n := 5) (Nat.le_of_ble_eq_true rfl)
  rw [lg_entry_eq]
  generalize (lg_sl ([.ref a0, .int p1, .int p2, .int p3, .int p4]) ++ List.replicate (5 - (lg_sl ([.ref a0, .int p1, .int p2, .int p3, .int p4])).length) Slot.unset).toArray = ls at hl ⊢
  have hl : lv_has ls 5 [(0, .ref a0), (1, .int p1), (2, .int p2), (3, .int p3), (4, .int p4)] := hl
  refine lv_iload_n hx hb dX5_lot_0 rfl (lv_at hl 1 rfl) ?_
  refine lv_iconst (v := 0) hx hb dX5_lot_1 (by decide) ?_
  refine lv_iconst (v := 3) hx hb dX5_lot_2 (by decide) ?_
  have hPc := hP.sub (ws' := []) [] rfl
  have hDc := hD.sub (ws' := []) [] (by decide) rfl
  have hFc := va_free (wc := []) hD hS hA [] rfl
  refine va_calli (va_runS (As := [.int p1, .int 0, .int 3]) (rest := []) ⟨hx, hb, hml, hown, hts⟩ (c_X5_isWithin l G  s.heap.size p1 0 3 ) (cwS 3 hts gX5_lot_X5_isWithin rfl rfl rfl (by decide +kernel) ⟨(Nat.le_of_ble_eq_true rfl), (Nat.le_of_ble_eq_true rfl)⟩) (tm_preS hK hN hV hS hPc hDc hFc) rfl rfl hl.1 rfl (lv_room (Nat.le_of_ble_eq_true rfl)) dX5_lot_3 ⟨(Nat.le_of_ble_eq_true rfl), (Nat.le_of_ble_eq_true rfl)⟩) hS (fun q _ h => hFc q h) hFc (fun r_1 u t H locs ht hvm hw_1 hB hz1 hk1 hS => ?_)
  obtain ⟨hP1, hD1⟩ := hB
  rw [ht] at hP1
  try dsimp only at hw_1
  obtain ⟨hP, hD⟩ := va_join (wr := [tc_X5 a0 ma0 ta0 lk rf pu to, tc_X1 ma0 ma1 ma2 ma3 ma4 fh lh ee, tc_X4 ma1 tk mo su, tc_X0 ma3 mb0 mb1 mb2 mb3 mb4 mb5 ln, tc_I G mb0 10 ow, tc_I G mb1 10 gr, tc_I G mb2 10 we, tc_I G mb3 10 du, tc_I G mb4 10 sa, tc_D G mb5 10 le]) (w1 := []) hP hD [] [0, 1, 2, 3, 4, 5, 6, 7, 8, 9] rfl rfl (by decide) (by decide) hk1 hFc hP1 hD1
  have hP : va_P G.1 vwCl [tc_X5 a0 ma0 ta0 lk rf pu to, tc_X1 ma0 ma1 ma2 ma3 ma4 fh lh ee, tc_X4 ma1 tk mo su, tc_X0 ma3 mb0 mb1 mb2 mb3 mb4 mb5 ln, tc_I G mb0 10 ow, tc_I G mb1 10 gr, tc_I G mb2 10 we, tc_I G mb3 10 du, tc_I G mb4 10 sa, tc_D G mb5 10 le] H := hP
  have hD : va_D A [tc_X5 a0 ma0 ta0 lk rf pu to, tc_X1 ma0 ma1 ma2 ma3 ma4 fh lh ee, tc_X4 ma1 tk mo su, tc_X0 ma3 mb0 mb1 mb2 mb3 mb4 mb5 ln, tc_I G mb0 10 ow, tc_I G mb1 10 gr, tc_I G mb2 10 we, tc_I G mb3 10 du, tc_I G mb4 10 sa, tc_D G mb5 10 le] := hD
  subst hw_1
  refine lv_if_eq (tgt := 39) hx hb dX5_lot_6 (by decide) (fun c_2 => ?_) (fun c_2 => ?_)
  · exact absurd c_2 na_0
  · refine lv_iload_n hx hb dX5_lot_9 rfl (lv_at hl 2 rfl) ?_
    refine lv_iconst (v := 0) hx hb dX5_lot_10 (by decide) ?_
    refine lv_iconst (v := 2) hx hb dX5_lot_11 (by decide) ?_
    have hPc := hP.sub (ws' := []) [] rfl
    have hDc := hD.sub (ws' := []) [] (by decide) rfl
    have hFc := va_free (wc := []) hD hS hA [] rfl
    refine va_calli (va_runS (As := [.int p2, .int 0, .int 2]) (rest := []) ⟨hx, hb, hml, hown, hts⟩ (c_X5_isWithin l G  H.size p2 0 2 ) (cwS 3 hts gX5_lot_X5_isWithin rfl rfl rfl (by decide +kernel) ⟨(Nat.le_of_ble_eq_true rfl), (Nat.le_of_ble_eq_true rfl)⟩) (tm_preS hK hN hV hS hPc hDc hFc) rfl rfl hl.1 rfl (lv_room (Nat.le_of_ble_eq_true rfl)) dX5_lot_12 ⟨(Nat.le_of_ble_eq_true rfl), (Nat.le_of_ble_eq_true rfl)⟩) hS (fun q _ h => hFc q h) hFc (fun r_3 u t H locs ht hvm hw_3 hB hz1 hk1 hS => ?_)
    obtain ⟨hP1, hD1⟩ := hB
    rw [ht] at hP1
    try dsimp only at hw_3
    obtain ⟨hP, hD⟩ := va_join (wr := [tc_X5 a0 ma0 ta0 lk rf pu to, tc_X1 ma0 ma1 ma2 ma3 ma4 fh lh ee, tc_X4 ma1 tk mo su, tc_X0 ma3 mb0 mb1 mb2 mb3 mb4 mb5 ln, tc_I G mb0 10 ow, tc_I G mb1 10 gr, tc_I G mb2 10 we, tc_I G mb3 10 du, tc_I G mb4 10 sa, tc_D G mb5 10 le]) (w1 := []) hP hD [] [0, 1, 2, 3, 4, 5, 6, 7, 8, 9] rfl rfl (by decide) (by decide) hk1 hFc hP1 hD1
    have hP : va_P G.1 vwCl [tc_X5 a0 ma0 ta0 lk rf pu to, tc_X1 ma0 ma1 ma2 ma3 ma4 fh lh ee, tc_X4 ma1 tk mo su, tc_X0 ma3 mb0 mb1 mb2 mb3 mb4 mb5 ln, tc_I G mb0 10 ow, tc_I G mb1 10 gr, tc_I G mb2 10 we, tc_I G mb3 10 du, tc_I G mb4 10 sa, tc_D G mb5 10 le] H := hP
    have hD : va_D A [tc_X5 a0 ma0 ta0 lk rf pu to, tc_X1 ma0 ma1 ma2 ma3 ma4 fh lh ee, tc_X4 ma1 tk mo su, tc_X0 ma3 mb0 mb1 mb2 mb3 mb4 mb5 ln, tc_I G mb0 10 ow, tc_I G mb1 10 gr, tc_I G mb2 10 we, tc_I G mb3 10 du, tc_I G mb4 10 sa, tc_D G mb5 10 le] := hD
    subst hw_3
    refine lv_if_eq (tgt := 39) hx hb dX5_lot_15 (by decide) (fun c_4 => ?_) (fun c_4 => ?_)
    · exact absurd c_4 na_1
    · refine lv_iload_n hx hb dX5_lot_18 rfl (lv_at hl 3 rfl) ?_
      refine lv_iconst (v := 1) hx hb dX5_lot_19 (by decide) ?_
      refine lv_bipush (v := 60) hx hb dX5_lot_20 (by decide) ?_
      have hPc := hP.sub (ws' := []) [] rfl
      have hDc := hD.sub (ws' := []) [] (by decide) rfl
      have hFc := va_free (wc := []) hD hS hA [] rfl
      refine va_calli (va_runS (As := [.int p3, .int 1, .int 60]) (rest := []) ⟨hx, hb, hml, hown, hts⟩ (c_X5_isWithin l G  H.size p3 1 60 ) (cwS 3 hts gX5_lot_X5_isWithin rfl rfl rfl (by decide +kernel) ⟨(Nat.le_of_ble_eq_true rfl), (Nat.le_of_ble_eq_true rfl)⟩) (tm_preS hK hN hV hS hPc hDc hFc) rfl rfl hl.1 rfl (lv_room (Nat.le_of_ble_eq_true rfl)) dX5_lot_22 ⟨(Nat.le_of_ble_eq_true rfl), (Nat.le_of_ble_eq_true rfl)⟩) hS (fun q _ h => hFc q h) hFc (fun r_5 u t H locs ht hvm hw_5 hB hz1 hk1 hS => ?_)
      obtain ⟨hP1, hD1⟩ := hB
      rw [ht] at hP1
      try dsimp only at hw_5
      obtain ⟨hP, hD⟩ := va_join (wr := [tc_X5 a0 ma0 ta0 lk rf pu to, tc_X1 ma0 ma1 ma2 ma3 ma4 fh lh ee, tc_X4 ma1 tk mo su, tc_X0 ma3 mb0 mb1 mb2 mb3 mb4 mb5 ln, tc_I G mb0 10 ow, tc_I G mb1 10 gr, tc_I G mb2 10 we, tc_I G mb3 10 du, tc_I G mb4 10 sa, tc_D G mb5 10 le]) (w1 := []) hP hD [] [0, 1, 2, 3, 4, 5, 6, 7, 8, 9] rfl rfl (by decide) (by decide) hk1 hFc hP1 hD1
      have hP : va_P G.1 vwCl [tc_X5 a0 ma0 ta0 lk rf pu to, tc_X1 ma0 ma1 ma2 ma3 ma4 fh lh ee, tc_X4 ma1 tk mo su, tc_X0 ma3 mb0 mb1 mb2 mb3 mb4 mb5 ln, tc_I G mb0 10 ow, tc_I G mb1 10 gr, tc_I G mb2 10 we, tc_I G mb3 10 du, tc_I G mb4 10 sa, tc_D G mb5 10 le] H := hP
      have hD : va_D A [tc_X5 a0 ma0 ta0 lk rf pu to, tc_X1 ma0 ma1 ma2 ma3 ma4 fh lh ee, tc_X4 ma1 tk mo su, tc_X0 ma3 mb0 mb1 mb2 mb3 mb4 mb5 ln, tc_I G mb0 10 ow, tc_I G mb1 10 gr, tc_I G mb2 10 we, tc_I G mb3 10 du, tc_I G mb4 10 sa, tc_D G mb5 10 le] := hD
      subst hw_5
      refine lv_if_eq (tgt := 39) hx hb dX5_lot_25 (by decide) (fun c_6 => ?_) (fun c_6 => ?_)
      · exact absurd c_6 na_2
      · refine lv_iload hx hb dX5_lot_28 (lv_at hl 4 rfl) ?_
        refine lv_iconst (v := 0) hx hb dX5_lot_30 (by decide) ?_
        refine lv_bipush (v := 30) hx hb dX5_lot_31 (by decide) ?_
        have hPc := hP.sub (ws' := []) [] rfl
        have hDc := hD.sub (ws' := []) [] (by decide) rfl
        have hFc := va_free (wc := []) hD hS hA [] rfl
        refine va_calli (va_runS (As := [.int p4, .int 0, .int 30]) (rest := []) ⟨hx, hb, hml, hown, hts⟩ (c_X5_isWithin l G  H.size p4 0 30 ) (cwS 3 hts gX5_lot_X5_isWithin rfl rfl rfl (by decide +kernel) ⟨(Nat.le_of_ble_eq_true rfl), (Nat.le_of_ble_eq_true rfl)⟩) (tm_preS hK hN hV hS hPc hDc hFc) rfl rfl hl.1 rfl (lv_room (Nat.le_of_ble_eq_true rfl)) dX5_lot_33 ⟨(Nat.le_of_ble_eq_true rfl), (Nat.le_of_ble_eq_true rfl)⟩) hS (fun q _ h => hFc q h) hFc (fun r_7 u t H locs ht hvm hw_7 hB hz1 hk1 hS => ?_)
        obtain ⟨hP1, hD1⟩ := hB
        rw [ht] at hP1
        try dsimp only at hw_7
        obtain ⟨hP, hD⟩ := va_join (wr := [tc_X5 a0 ma0 ta0 lk rf pu to, tc_X1 ma0 ma1 ma2 ma3 ma4 fh lh ee, tc_X4 ma1 tk mo su, tc_X0 ma3 mb0 mb1 mb2 mb3 mb4 mb5 ln, tc_I G mb0 10 ow, tc_I G mb1 10 gr, tc_I G mb2 10 we, tc_I G mb3 10 du, tc_I G mb4 10 sa, tc_D G mb5 10 le]) (w1 := []) hP hD [] [0, 1, 2, 3, 4, 5, 6, 7, 8, 9] rfl rfl (by decide) (by decide) hk1 hFc hP1 hD1
        have hP : va_P G.1 vwCl [tc_X5 a0 ma0 ta0 lk rf pu to, tc_X1 ma0 ma1 ma2 ma3 ma4 fh lh ee, tc_X4 ma1 tk mo su, tc_X0 ma3 mb0 mb1 mb2 mb3 mb4 mb5 ln, tc_I G mb0 10 ow, tc_I G mb1 10 gr, tc_I G mb2 10 we, tc_I G mb3 10 du, tc_I G mb4 10 sa, tc_D G mb5 10 le] H := hP
        have hD : va_D A [tc_X5 a0 ma0 ta0 lk rf pu to, tc_X1 ma0 ma1 ma2 ma3 ma4 fh lh ee, tc_X4 ma1 tk mo su, tc_X0 ma3 mb0 mb1 mb2 mb3 mb4 mb5 ln, tc_I G mb0 10 ow, tc_I G mb1 10 gr, tc_I G mb2 10 we, tc_I G mb3 10 du, tc_I G mb4 10 sa, tc_D G mb5 10 le] := hD
        subst hw_7
        refine lv_if_ne (tgt := 49) hx hb dX5_lot_36 (by decide) (fun c_8 => ?_) (fun c_8 => ?_)
        · refine lv_aload_n hx hb dX5_lot_49 rfl (lv_at hl 0 rfl) ?_
          refine va_get (D := G.1) (ci := 5) (v := .ref ma0) (C := RX5) (T := TX5) (N := 6) hx hb hts hiX5 hown hK hP 0 rfl rfl 0 (by decide) (hts (.fieldLink RX5 10 "TideMill" "mill" "LTideMill$Mill;") (List.mem_of_getElem? (i := 5) rfl)) (fun _ h9 => h9) rfl dX5_lot_50 ?_
          refine va_get (D := G.1) (ci := 1) (v := .ref ma3) (C := RX1) (T := TX1) (N := 7) hx hb hts hiX1 hown hK hP 1 rfl rfl 2 (by decide) (hts (.fieldLink RX5 119 "TideMill$Mill" "lots" "LTideMill$Lots;") (List.mem_of_getElem? (i := 6) rfl)) (fun _ h9 => h9) rfl dX5_lot_53 ?_
          refine va_get (D := G.1) (ci := 0) (v := .int ln) (C := RX0) (T := TX0) (N := 7) hx hb hts hiX0 hown hK hP 3 rfl rfl 6 (by decide) (hts (.fieldLink RX5 123 "TideMill$Lots" "count" "I") (List.mem_of_getElem? (i := 7) rfl)) (fun _ h9 => h9) rfl dX5_lot_56 ?_
          refine lv_bipush (v := 10) hx hb dX5_lot_59 (by decide) ?_
          refine lv_icmp_lt (tgt := 74) hx hb dX5_lot_61 (by decide) (fun c_9 => ?_) (fun c_9 => ?_)
          · refine lv_aload_n hx hb dX5_lot_74 rfl (lv_at hl 0 rfl) ?_
            refine va_get (D := G.1) (ci := 5) (v := .ref ma0) (C := RX5) (T := TX5) (N := 6) hx hb hts hiX5 hown hK hP 0 rfl rfl 0 (by decide) (hts (.fieldLink RX5 10 "TideMill" "mill" "LTideMill$Mill;") (List.mem_of_getElem? (i := 5) rfl)) (fun _ h9 => h9) rfl dX5_lot_75 ?_
            refine va_get (D := G.1) (ci := 1) (v := .ref ma3) (C := RX1) (T := TX1) (N := 7) hx hb hts hiX1 hown hK hP 1 rfl rfl 2 (by decide) (hts (.fieldLink RX5 119 "TideMill$Mill" "lots" "LTideMill$Lots;") (List.mem_of_getElem? (i := 6) rfl)) (fun _ h9 => h9) rfl dX5_lot_78 ?_
            refine lv_iload_n hx hb dX5_lot_81 rfl (lv_at hl 1 rfl) ?_
            refine lv_iload_n hx hb dX5_lot_82 rfl (lv_at hl 2 rfl) ?_
            refine lv_iload_n hx hb dX5_lot_83 rfl (lv_at hl 3 rfl) ?_
            refine lv_aload_n hx hb dX5_lot_84 rfl (lv_at hl 0 rfl) ?_
            refine va_get (D := G.1) (ci := 5) (v := .ref ma0) (C := RX5) (T := TX5) (N := 6) hx hb hts hiX5 hown hK hP 0 rfl rfl 0 (by decide) (hts (.fieldLink RX5 10 "TideMill" "mill" "LTideMill$Mill;") (List.mem_of_getElem? (i := 5) rfl)) (fun _ h9 => h9) rfl dX5_lot_85 ?_
            refine va_get (D := G.1) (ci := 1) (v := .ref ma1) (C := RX1) (T := TX1) (N := 7) hx hb hts hiX1 hown hK hP 1 rfl rfl 0 (by decide) (hts (.fieldLink RX5 30 "TideMill$Mill" "sea" "LTideMill$Sea;") (List.mem_of_getElem? (i := 8) rfl)) (fun _ h9 => h9) rfl dX5_lot_88 ?_
            have hPc := hP.sub (ws' := [tc_X4 ma1 tk mo su]) [2] rfl
            have hDc := hD.sub (ws' := [tc_X4 ma1 tk mo su]) [2] (by decide) rfl
            have hFc := va_free (wc := [tc_X4 ma1 tk mo su]) hD hS hA [2] rfl
            refine va_calli (va_runV (As := []) (rest := [.int p3, .int p2, .int p1, .ref ma3]) ⟨hx, hb, hml, hown, hts⟩ (c_X4_today l G ma1 H.size tk mo su ) (cwV 0 hts gX5_lot_X4_today rfl rfl rfl (by decide +kernel) ⟨(Nat.le_of_ble_eq_true rfl), (Nat.le_of_ble_eq_true rfl)⟩) (tm_preV hK hN hV hS hPc hDc hFc (va_recv hK hPc (ci := 4) (q0 := 0) rfl rfl)) rfl rfl hl.1 rfl (lv_room (Nat.le_of_ble_eq_true rfl)) dX5_lot_91 ⟨(Nat.le_of_ble_eq_true rfl), (Nat.le_of_ble_eq_true rfl)⟩) hS (fun q _ h => hFc q h) hFc (fun r_10 u t H locs ht hvm hw_10 hB hz1 hk1 hS => ?_)
            obtain ⟨hP1, hD1⟩ := hB
            rw [ht] at hP1
            try dsimp only at hw_10
            obtain ⟨hP, hD⟩ := va_join (wr := [tc_X5 a0 ma0 ta0 lk rf pu to, tc_X1 ma0 ma1 ma2 ma3 ma4 fh lh ee, tc_X0 ma3 mb0 mb1 mb2 mb3 mb4 mb5 ln, tc_I G mb0 10 ow, tc_I G mb1 10 gr, tc_I G mb2 10 we, tc_I G mb3 10 du, tc_I G mb4 10 sa, tc_D G mb5 10 le]) (w1 := [tc_X4 ma1 tk mo su]) hP hD [2] [0, 1, 3, 4, 5, 6, 7, 8, 9] rfl rfl (by decide) (by decide) hk1 hFc hP1 hD1
            have hP : va_P G.1 vwCl [tc_X5 a0 ma0 ta0 lk rf pu to, tc_X1 ma0 ma1 ma2 ma3 ma4 fh lh ee, tc_X0 ma3 mb0 mb1 mb2 mb3 mb4 mb5 ln, tc_I G mb0 10 ow, tc_I G mb1 10 gr, tc_I G mb2 10 we, tc_I G mb3 10 du, tc_I G mb4 10 sa, tc_D G mb5 10 le, tc_X4 ma1 tk mo su] H := hP
            have hD : va_D A [tc_X5 a0 ma0 ta0 lk rf pu to, tc_X1 ma0 ma1 ma2 ma3 ma4 fh lh ee, tc_X0 ma3 mb0 mb1 mb2 mb3 mb4 mb5 ln, tc_I G mb0 10 ow, tc_I G mb1 10 gr, tc_I G mb2 10 we, tc_I G mb3 10 du, tc_I G mb4 10 sa, tc_D G mb5 10 le, tc_X4 ma1 tk mo su] := hD
            subst hw_10
            refine lv_iload hx hb dX5_lot_94 (lv_at hl 4 rfl) ?_
            refine lv_iadd hx hb dX5_lot_96 ?_
            have hPc := hP.sub (ws' := [tc_X0 ma3 mb0 mb1 mb2 mb3 mb4 mb5 ln, tc_I G mb0 10 ow, tc_I G mb1 10 gr, tc_I G mb2 10 we, tc_I G mb3 10 du, tc_I G mb4 10 sa, tc_D G mb5 10 le]) [2, 3, 4, 5, 6, 7, 8] rfl
            have hDc := hD.sub (ws' := [tc_X0 ma3 mb0 mb1 mb2 mb3 mb4 mb5 ln, tc_I G mb0 10 ow, tc_I G mb1 10 gr, tc_I G mb2 10 we, tc_I G mb3 10 du, tc_I G mb4 10 sa, tc_D G mb5 10 le]) [2, 3, 4, 5, 6, 7, 8] (by decide) rfl
            have hFc := va_free (wc := [tc_X0 ma3 mb0 mb1 mb2 mb3 mb4 mb5 ln, tc_I G mb0 10 ow, tc_I G mb1 10 gr, tc_I G mb2 10 we, tc_I G mb3 10 du, tc_I G mb4 10 sa, tc_D G mb5 10 le]) hD hS hA [2, 3, 4, 5, 6, 7, 8] rfl
            refine va_calli (va_runV (As := [.int p1, .int p2, .int p3, .int ((f_X4_today tk) + p4)]) (rest := []) ⟨hx, hb, hml, hown, hts⟩ (c_X0_bring l G ma3 mb0 mb1 mb2 mb3 mb4 mb5 H.size ln ow gr we du sa le p1 p2 p3 ((f_X4_today tk) + p4) n_11) (cwV 4 hts gX5_lot_X0_bring rfl rfl rfl (by decide +kernel) ⟨(Nat.le_of_ble_eq_true rfl), (Nat.le_of_ble_eq_true rfl)⟩) (tm_preV hK hN hV hS hPc hDc hFc (va_recv hK hPc (ci := 0) (q0 := 0) rfl rfl)) rfl rfl hl.1 rfl (lv_room (Nat.le_of_ble_eq_true rfl)) dX5_lot_97 ⟨(Nat.le_of_ble_eq_true rfl), (Nat.le_of_ble_eq_true rfl)⟩) hS (fun q _ h => hFc q h) hFc (fun r_12 u t H locs ht hvm hw_12 hB hz1 hk1 hS => ?_)
            obtain ⟨u_13, u_14, u_15, u_16, u_17, u_18, u_19⟩ := u
            obtain ⟨hP1, hD1⟩ := hB
            rw [ht] at hP1
            try dsimp only at hw_12
            obtain ⟨hP, hD⟩ := va_join (wr := [tc_X5 a0 ma0 ta0 lk rf pu to, tc_X1 ma0 ma1 ma2 ma3 ma4 fh lh ee, tc_X4 ma1 tk mo su]) (w1 := [tc_X0 ma3 mb0 mb1 mb2 mb3 mb4 mb5 u_13, tc_I G mb0 10 u_14, tc_I G mb1 10 u_15, tc_I G mb2 10 u_16, tc_I G mb3 10 u_17, tc_I G mb4 10 u_18, tc_D G mb5 10 u_19]) hP hD [2, 3, 4, 5, 6, 7, 8] [0, 1, 9] rfl rfl (by decide) (by decide) hk1 hFc hP1 hD1
            have hP : va_P G.1 vwCl [tc_X5 a0 ma0 ta0 lk rf pu to, tc_X1 ma0 ma1 ma2 ma3 ma4 fh lh ee, tc_X4 ma1 tk mo su, tc_X0 ma3 mb0 mb1 mb2 mb3 mb4 mb5 u_13, tc_I G mb0 10 u_14, tc_I G mb1 10 u_15, tc_I G mb2 10 u_16, tc_I G mb3 10 u_17, tc_I G mb4 10 u_18, tc_D G mb5 10 u_19] H := hP
            have hD : va_D A [tc_X5 a0 ma0 ta0 lk rf pu to, tc_X1 ma0 ma1 ma2 ma3 ma4 fh lh ee, tc_X4 ma1 tk mo su, tc_X0 ma3 mb0 mb1 mb2 mb3 mb4 mb5 u_13, tc_I G mb0 10 u_14, tc_I G mb1 10 u_15, tc_I G mb2 10 u_16, tc_I G mb3 10 u_17, tc_I G mb4 10 u_18, tc_D G mb5 10 u_19] := hD
            have hP9 := hP.sub (ws' := [tc_X5 a0 ma0 ta0 lk rf pu to, tc_X1 ma0 ma1 ma2 ma3 ma4 fh lh ee, tc_X4 ma1 tk mo su, tc_X0 ma3 mb0 mb1 mb2 mb3 mb4 mb5 u_13, tc_I G mb0 10 u_14, tc_I G mb1 10 u_15, tc_I G mb2 10 u_16, tc_I G mb3 10 u_17, tc_I G mb4 10 u_18, tc_D G mb5 10 u_19]) [0, 1, 2, 3, 4, 5, 6, 7, 8, 9] rfl
            have hD9 := hD.sub (ws' := [tc_X5 a0 ma0 ta0 lk rf pu to, tc_X1 ma0 ma1 ma2 ma3 ma4 fh lh ee, tc_X4 ma1 tk mo su, tc_X0 ma3 mb0 mb1 mb2 mb3 mb4 mb5 u_13, tc_I G mb0 10 u_14, tc_I G mb1 10 u_15, tc_I G mb2 10 u_16, tc_I G mb3 10 u_17, tc_I G mb4 10 u_18, tc_D G mb5 10 u_19]) [0, 1, 2, 3, 4, 5, 6, 7, 8, 9] (by decide) rfl
            exact W.iret (v := r_12) hx hb hr (fun t ht hW => ⟨⟨r_12, (u_13, u_14, u_15, u_16, u_17, u_18, u_19), rfl, by unfold f_X5_lot; all_goals (rw [← hw_12]); all_goals (dsimp only); all_goals rfl, by rw [ht]; exact hP9, hD9⟩, hS.F ht⟩) hS.2.2 dX5_lot_100
          · exact absurd na_4 c_9
        · exact absurd c_8 na_3
set_option maxHeartbeats 4000000 in
set_option maxRecDepth 100000 in
theorem c_X5_feed (l : Launch) (G : tm_G) (a0 : Nat) (ma0 : Nat) (ta0 : Nat) (ma1 : Nat) (ma2 : Nat) (ma3 : Nat) (ma4 : Nat) (mb0 : Nat) (mb1 : Nat) (mb2 : Nat) (mb3 : Nat) (mb4 : Nat) (mb5 : Nat) (md0 : Nat) (md1 : Nat) (md2 : Nat) (md3 : Nat) (sz : Nat) (lk : Int32) (rf : Int32) (pu : Int32) (to : UInt64) (fh : Int32) (lh : Int32) (ee : Int32) (ln : Int32) (ow : Nat → Int32) (gr : Nat → Int32) (we : Nat → Int32) (du : Nat → Int32) (sa : Nat → Int32) (le : Nat → UInt64) (pn : Int32) (dl : Nat → UInt32) (pl : Nat → Int32) (dr : Nat → Int32) (sp : Nat → Int32) (p1 : Int32) (p2 : Int32) (hn : n_X5_feed ln sa pn pl dr p1 p2) : Met l yX5_feed wsX5_feed ({ frames := 1, cells := 0, slots := 0, locals := 23 }) (va_Pc [.ref a0, .int p1, .int p2] (tm_B G [tc_X5 a0 ma0 ta0 lk rf pu to, tc_X1 ma0 ma1 ma2 ma3 ma4 fh lh ee, tc_X0 ma3 mb0 mb1 mb2 mb3 mb4 mb5 ln, tc_I G mb0 10 ow, tc_I G mb1 10 gr, tc_I G mb2 10 we, tc_I G mb3 10 du, tc_I G mb4 10 sa, tc_D G mb5 10 le, tc_X2 ma4 md0 md1 md2 md3 pn, tc_F G md0 3 dl, tc_I G md1 3 pl, tc_I G md2 3 dr, tc_I G md3 3 sp] sz)) (va_Qi (fun (r : Int32) (u : (Nat → Int32) × (Nat → Int32)) => (r, u) = f_X5_feed ln sa pl p1 p2) (fun (u : (Nat → Int32) × (Nat → Int32)) (t : State) => va_P G.1 vwCl [tc_X5 a0 ma0 ta0 lk rf pu to, tc_X1 ma0 ma1 ma2 ma3 ma4 fh lh ee, tc_X0 ma3 mb0 mb1 mb2 mb3 mb4 mb5 ln, tc_I G mb0 10 ow, tc_I G mb1 10 gr, tc_I G mb2 10 we, tc_I G mb3 10 du, tc_I G mb4 10 u.1, tc_D G mb5 10 le, tc_X2 ma4 md0 md1 md2 md3 pn, tc_F G md0 3 dl, tc_I G md1 3 u.2, tc_I G md2 3 dr, tc_I G md3 3 sp] t.heap ∧ va_D (va_A [tc_X5 a0 ma0 ta0 lk rf pu to, tc_X1 ma0 ma1 ma2 ma3 ma4 fh lh ee, tc_X0 ma3 mb0 mb1 mb2 mb3 mb4 mb5 ln, tc_I G mb0 10 ow, tc_I G mb1 10 gr, tc_I G mb2 10 we, tc_I G mb3 10 du, tc_I G mb4 10 sa, tc_D G mb5 10 le, tc_X2 ma4 md0 md1 md2 md3 pn, tc_F G md0 3 dl, tc_I G md1 3 pl, tc_I G md2 3 dr, tc_I G md3 3 sp] sz) [tc_X5 a0 ma0 ta0 lk rf pu to, tc_X1 ma0 ma1 ma2 ma3 ma4 fh lh ee, tc_X0 ma3 mb0 mb1 mb2 mb3 mb4 mb5 ln, tc_I G mb0 10 ow, tc_I G mb1 10 gr, tc_I G mb2 10 we, tc_I G mb3 10 du, tc_I G mb4 10 u.1, tc_D G mb5 10 le, tc_X2 ma4 md0 md1 md2 md3 pn, tc_F G md0 3 dl, tc_I G md1 3 u.2, tc_I G md2 3 dr, tc_I G md3 3 sp]) (va_A [tc_X5 a0 ma0 ta0 lk rf pu to, tc_X1 ma0 ma1 ma2 ma3 ma4 fh lh ee, tc_X0 ma3 mb0 mb1 mb2 mb3 mb4 mb5 ln, tc_I G mb0 10 ow, tc_I G mb1 10 gr, tc_I G mb2 10 we, tc_I G mb3 10 du, tc_I G mb4 10 sa, tc_D G mb5 10 le, tc_X2 ma4 md0 md1 md2 md3 pn, tc_F G md0 3 dl, tc_I G md1 3 pl, tc_I G md2 3 dr, tc_I G md3 3 sp] sz)) 0 0 (va_A [tc_X5 a0 ma0 ta0 lk rf pu to, tc_X1 ma0 ma1 ma2 ma3 ma4 fh lh ee, tc_X0 ma3 mb0 mb1 mb2 mb3 mb4 mb5 ln, tc_I G mb0 10 ow, tc_I G mb1 10 gr, tc_I G mb2 10 we, tc_I G mb3 10 du, tc_I G mb4 10 sa, tc_D G mb5 10 le, tc_X2 ma4 md0 md1 md2 md3 pn, tc_F G md0 3 dl, tc_I G md1 3 pl, tc_I G md2 3 dr, tc_I G md3 3 sp] sz) := by
  refine Met.ofW (cc := cX5_feed) (maxL := 3) (ret := (some .int)) (by decide) rfl ?_
  intro p e s m args below meth c s₁ B hml hv
  obtain ⟨rfl, hsz, hP, hK, hD0, hN, hV⟩ := hv
  have hx := B.exec
  have hb := B.bytes
  have hr := B.returns
  have hts := atoms_spec (ws := wsX5_feed) B.pre
  have hown : s.vm.findClass RX5 = some m.cls := findClass_of_methodNamed B.named
  have hlocks := B.notSynchronized
  subst hsz
  obtain ⟨na_0, na_1, na_2, na_3, n_5, n_7, n_10, n_11⟩ := hn
  have hiX0 : ∀ w ∈ u_ws RX0 TX0 7, w ∈ wsX5_feed := fun _ h => List.mem_cons_of_mem _ (List.mem_append_left _ (List.mem_append_left _ (List.mem_append_left _ (List.mem_append_right _ h))))
  have hiX1 : ∀ w ∈ u_ws RX1 TX1 7, w ∈ wsX5_feed := fun _ h => List.mem_cons_of_mem _ (List.mem_append_left _ (List.mem_append_left _ (List.mem_append_left _ (List.mem_append_left _ (List.mem_append_right _ h)))))
  have hiX2 : ∀ w ∈ u_ws RX2 TX2 5, w ∈ wsX5_feed := fun _ h => List.mem_cons_of_mem _ (List.mem_append_left _ (List.mem_append_left _ (List.mem_append_right _ h)))
  have hiX5 : ∀ w ∈ u_ws RX5 TX5 6, w ∈ wsX5_feed := fun _ h => List.mem_cons_of_mem _ (List.mem_append_left _ (List.mem_append_left _ (List.mem_append_left _ (List.mem_append_left _ (List.mem_append_left _ (List.mem_append_right _ h))))))
  have hD := hD0.self (sz := s.heap.size)
  generalize hAe : va_A [tc_X5 a0 ma0 ta0 lk rf pu to, tc_X1 ma0 ma1 ma2 ma3 ma4 fh lh ee, tc_X0 ma3 mb0 mb1 mb2 mb3 mb4 mb5 ln, tc_I G mb0 10 ow, tc_I G mb1 10 gr, tc_I G mb2 10 we, tc_I G mb3 10 du, tc_I G mb4 10 sa, tc_D G mb5 10 le, tc_X2 ma4 md0 md1 md2 md3 pn, tc_F G md0 3 dl, tc_I G md1 3 pl, tc_I G md2 3 dr, tc_I G md3 3 sp] s.heap.size = A at hD hV ⊢
  have hA : ∀ q : Nat, s.heap.size ≤ q → A q := fun q h => by rw [← hAe]; exact Or.inr h
  have hS : va_S A s.heap s.heap [] := va_S.rf
  have hl := lv_entry ([.ref a0, .int p1, .int p2]) (n := 3) (Nat.le_of_ble_eq_true rfl)
  rw [lg_entry_eq]
  generalize (lg_sl ([.ref a0, .int p1, .int p2]) ++ List.replicate (3 - (lg_sl ([.ref a0, .int p1, .int p2])).length) Slot.unset).toArray = ls at hl ⊢
  have hl : lv_has ls 3 [(0, .ref a0), (1, .int p1), (2, .int p2)] := hl
  refine lv_aload_n hx hb dX5_feed_0 rfl (lv_at hl 0 rfl) ?_
  refine va_get (D := G.1) (ci := 5) (v := .ref ma0) (C := RX5) (T := TX5) (N := 6) hx hb hts hiX5 hown hK hP 0 rfl rfl 0 (by decide) (hts (.fieldLink RX5 10 "TideMill" "mill" "LTideMill$Mill;") (List.mem_of_getElem? (i := 5) rfl)) (fun _ h9 => h9) rfl dX5_feed_1 ?_
  refine va_get (D := G.1) (ci := 1) (v := .ref ma4) (C := RX1) (T := TX1) (N := 7) hx hb hts hiX1 hown hK hP 1 rfl rfl 3 (by decide) (hts (.fieldLink RX5 102 "TideMill$Mill" "pairs" "LTideMill$Pairs;") (List.mem_of_getElem? (i := 6) rfl)) (fun _ h9 => h9) rfl dX5_feed_4 ?_
  refine lv_iload_n hx hb dX5_feed_7 rfl (lv_at hl 1 rfl) ?_
  have hPc := hP.sub (ws' := [tc_X2 ma4 md0 md1 md2 md3 pn, tc_F G md0 3 dl, tc_I G md1 3 pl, tc_I G md2 3 dr, tc_I G md3 3 sp]) [9, 10, 11, 12, 13] rfl
  have hDc := hD.sub (ws' := [tc_X2 ma4 md0 md1 md2 md3 pn, tc_F G md0 3 dl, tc_I G md1 3 pl, tc_I G md2 3 dr, tc_I G md3 3 sp]) [9, 10, 11, 12, 13] (by decide) rfl
  have hFc := va_free (wc := [tc_X2 ma4 md0 md1 md2 md3 pn, tc_F G md0 3 dl, tc_I G md1 3 pl, tc_I G md2 3 dr, tc_I G md3 3 sp]) hD hS hA [9, 10, 11, 12, 13] rfl
  refine va_calli (va_runV (As := [.int p1]) (rest := []) ⟨hx, hb, hml, hown, hts⟩ (c_X2_has l G ma4 md0 md1 md2 md3 s.heap.size pn dl pl dr sp p1 ) (cwV 1 hts gX5_feed_X2_has rfl rfl rfl (by decide +kernel) ⟨(Nat.le_of_ble_eq_true rfl), (Nat.le_of_ble_eq_true rfl)⟩) (tm_preV hK hN hV hS hPc hDc hFc (va_recv hK hPc (ci := 2) (q0 := 0) rfl rfl)) rfl rfl hl.1 rfl (lv_room (Nat.le_of_ble_eq_true rfl)) dX5_feed_8 ⟨(Nat.le_of_ble_eq_true rfl), (Nat.le_of_ble_eq_true rfl)⟩) hS (fun q _ h => hFc q h) hFc (fun r_1 u t H locs ht hvm hw_1 hB hz1 hk1 hS => ?_)
  obtain ⟨hP1, hD1⟩ := hB
  rw [ht] at hP1
  try dsimp only at hw_1
  obtain ⟨hP, hD⟩ := va_join (wr := [tc_X5 a0 ma0 ta0 lk rf pu to, tc_X1 ma0 ma1 ma2 ma3 ma4 fh lh ee, tc_X0 ma3 mb0 mb1 mb2 mb3 mb4 mb5 ln, tc_I G mb0 10 ow, tc_I G mb1 10 gr, tc_I G mb2 10 we, tc_I G mb3 10 du, tc_I G mb4 10 sa, tc_D G mb5 10 le]) (w1 := [tc_X2 ma4 md0 md1 md2 md3 pn, tc_F G md0 3 dl, tc_I G md1 3 pl, tc_I G md2 3 dr, tc_I G md3 3 sp]) hP hD [9, 10, 11, 12, 13] [0, 1, 2, 3, 4, 5, 6, 7, 8] rfl rfl (by decide) (by decide) hk1 hFc hP1 hD1
  have hP : va_P G.1 vwCl [tc_X5 a0 ma0 ta0 lk rf pu to, tc_X1 ma0 ma1 ma2 ma3 ma4 fh lh ee, tc_X0 ma3 mb0 mb1 mb2 mb3 mb4 mb5 ln, tc_I G mb0 10 ow, tc_I G mb1 10 gr, tc_I G mb2 10 we, tc_I G mb3 10 du, tc_I G mb4 10 sa, tc_D G mb5 10 le, tc_X2 ma4 md0 md1 md2 md3 pn, tc_F G md0 3 dl, tc_I G md1 3 pl, tc_I G md2 3 dr, tc_I G md3 3 sp] H := hP
  have hD : va_D A [tc_X5 a0 ma0 ta0 lk rf pu to, tc_X1 ma0 ma1 ma2 ma3 ma4 fh lh ee, tc_X0 ma3 mb0 mb1 mb2 mb3 mb4 mb5 ln, tc_I G mb0 10 ow, tc_I G mb1 10 gr, tc_I G mb2 10 we, tc_I G mb3 10 du, tc_I G mb4 10 sa, tc_D G mb5 10 le, tc_X2 ma4 md0 md1 md2 md3 pn, tc_F G md0 3 dl, tc_I G md1 3 pl, tc_I G md2 3 dr, tc_I G md3 3 sp] := hD
  subst hw_1
  refine lv_if_eq (tgt := 28) hx hb dX5_feed_11 (by decide) (fun c_2 => ?_) (fun c_2 => ?_)
  · exact absurd c_2 na_0
  · refine lv_aload_n hx hb dX5_feed_14 rfl (lv_at hl 0 rfl) ?_
    refine va_get (D := G.1) (ci := 5) (v := .ref ma0) (C := RX5) (T := TX5) (N := 6) hx hb hts hiX5 hown hK hP 0 rfl rfl 0 (by decide) (hts (.fieldLink RX5 10 "TideMill" "mill" "LTideMill$Mill;") (List.mem_of_getElem? (i := 5) rfl)) (fun _ h9 => h9) rfl dX5_feed_15 ?_
    refine va_get (D := G.1) (ci := 1) (v := .ref ma3) (C := RX1) (T := TX1) (N := 7) hx hb hts hiX1 hown hK hP 1 rfl rfl 2 (by decide) (hts (.fieldLink RX5 119 "TideMill$Mill" "lots" "LTideMill$Lots;") (List.mem_of_getElem? (i := 7) rfl)) (fun _ h9 => h9) rfl dX5_feed_18 ?_
    refine lv_iload_n hx hb dX5_feed_21 rfl (lv_at hl 2 rfl) ?_
    have hPc := hP.sub (ws' := [tc_X0 ma3 mb0 mb1 mb2 mb3 mb4 mb5 ln, tc_I G mb0 10 ow, tc_I G mb1 10 gr, tc_I G mb2 10 we, tc_I G mb3 10 du, tc_I G mb4 10 sa, tc_D G mb5 10 le]) [2, 3, 4, 5, 6, 7, 8] rfl
    have hDc := hD.sub (ws' := [tc_X0 ma3 mb0 mb1 mb2 mb3 mb4 mb5 ln, tc_I G mb0 10 ow, tc_I G mb1 10 gr, tc_I G mb2 10 we, tc_I G mb3 10 du, tc_I G mb4 10 sa, tc_D G mb5 10 le]) [2, 3, 4, 5, 6, 7, 8] (by decide) rfl
    have hFc := va_free (wc := [tc_X0 ma3 mb0 mb1 mb2 mb3 mb4 mb5 ln, tc_I G mb0 10 ow, tc_I G mb1 10 gr, tc_I G mb2 10 we, tc_I G mb3 10 du, tc_I G mb4 10 sa, tc_D G mb5 10 le]) hD hS hA [2, 3, 4, 5, 6, 7, 8] rfl
    refine va_calli (va_runV (As := [.int p2]) (rest := []) ⟨hx, hb, hml, hown, hts⟩ (c_X0_has l G ma3 mb0 mb1 mb2 mb3 mb4 mb5 H.size ln ow gr we du sa le p2 ) (cwV 1 hts gX5_feed_X0_has rfl rfl rfl (by decide +kernel) ⟨(Nat.le_of_ble_eq_true rfl), (Nat.le_of_ble_eq_true rfl)⟩) (tm_preV hK hN hV hS hPc hDc hFc (va_recv hK hPc (ci := 0) (q0 := 0) rfl rfl)) rfl rfl hl.1 rfl (lv_room (Nat.le_of_ble_eq_true rfl)) dX5_feed_22 ⟨(Nat.le_of_ble_eq_true rfl), (Nat.le_of_ble_eq_true rfl)⟩) hS (fun q _ h => hFc q h) hFc (fun r_3 u t H locs ht hvm hw_3 hB hz1 hk1 hS => ?_)
    obtain ⟨hP1, hD1⟩ := hB
    rw [ht] at hP1
    try dsimp only at hw_3
    obtain ⟨hP, hD⟩ := va_join (wr := [tc_X5 a0 ma0 ta0 lk rf pu to, tc_X1 ma0 ma1 ma2 ma3 ma4 fh lh ee, tc_X2 ma4 md0 md1 md2 md3 pn, tc_F G md0 3 dl, tc_I G md1 3 pl, tc_I G md2 3 dr, tc_I G md3 3 sp]) (w1 := [tc_X0 ma3 mb0 mb1 mb2 mb3 mb4 mb5 ln, tc_I G mb0 10 ow, tc_I G mb1 10 gr, tc_I G mb2 10 we, tc_I G mb3 10 du, tc_I G mb4 10 sa, tc_D G mb5 10 le]) hP hD [2, 3, 4, 5, 6, 7, 8] [0, 1, 9, 10, 11, 12, 13] rfl rfl (by decide) (by decide) hk1 hFc hP1 hD1
    have hP : va_P G.1 vwCl [tc_X5 a0 ma0 ta0 lk rf pu to, tc_X1 ma0 ma1 ma2 ma3 ma4 fh lh ee, tc_X2 ma4 md0 md1 md2 md3 pn, tc_F G md0 3 dl, tc_I G md1 3 pl, tc_I G md2 3 dr, tc_I G md3 3 sp, tc_X0 ma3 mb0 mb1 mb2 mb3 mb4 mb5 ln, tc_I G mb0 10 ow, tc_I G mb1 10 gr, tc_I G mb2 10 we, tc_I G mb3 10 du, tc_I G mb4 10 sa, tc_D G mb5 10 le] H := hP
    have hD : va_D A [tc_X5 a0 ma0 ta0 lk rf pu to, tc_X1 ma0 ma1 ma2 ma3 ma4 fh lh ee, tc_X2 ma4 md0 md1 md2 md3 pn, tc_F G md0 3 dl, tc_I G md1 3 pl, tc_I G md2 3 dr, tc_I G md3 3 sp, tc_X0 ma3 mb0 mb1 mb2 mb3 mb4 mb5 ln, tc_I G mb0 10 ow, tc_I G mb1 10 gr, tc_I G mb2 10 we, tc_I G mb3 10 du, tc_I G mb4 10 sa, tc_D G mb5 10 le] := hD
    subst hw_3
    refine lv_if_ne (tgt := 38) hx hb dX5_feed_25 (by decide) (fun c_4 => ?_) (fun c_4 => ?_)
    · refine lv_aload_n hx hb dX5_feed_38 rfl (lv_at hl 0 rfl) ?_
      refine va_get (D := G.1) (ci := 5) (v := .ref ma0) (C := RX5) (T := TX5) (N := 6) hx hb hts hiX5 hown hK hP 0 rfl rfl 0 (by decide) (hts (.fieldLink RX5 10 "TideMill" "mill" "LTideMill$Mill;") (List.mem_of_getElem? (i := 5) rfl)) (fun _ h9 => h9) rfl dX5_feed_39 ?_
      refine va_get (D := G.1) (ci := 1) (v := .ref ma3) (C := RX1) (T := TX1) (N := 7) hx hb hts hiX1 hown hK hP 1 rfl rfl 2 (by decide) (hts (.fieldLink RX5 119 "TideMill$Mill" "lots" "LTideMill$Lots;") (List.mem_of_getElem? (i := 7) rfl)) (fun _ h9 => h9) rfl dX5_feed_42 ?_
      refine va_get (D := G.1) (ci := 0) (v := .ref mb4) (C := RX0) (T := TX0) (N := 7) hx hb hts hiX0 hown hK hP 7 rfl rfl 4 (by decide) (hts (.fieldLink RX5 145 "TideMill$Lots" "state" "[I") (List.mem_of_getElem? (i := 8) rfl)) (fun _ h9 => h9) rfl dX5_feed_45 ?_
      refine lv_iload_n hx hb dX5_feed_48 rfl (lv_at hl 2 rfl) ?_
      refine va_iald (n := 10) (f := sa) hx hb hK hP 12 0 rfl rfl n_5 dX5_feed_49 ?_
      refine lv_if_ne (tgt := 67) hx hb dX5_feed_50 (by decide) (fun c_6 => ?_) (fun c_6 => ?_)
      · exact absurd na_2 c_6
      · refine lv_aload_n hx hb dX5_feed_53 rfl (lv_at hl 0 rfl) ?_
        refine va_get (D := G.1) (ci := 5) (v := .ref ma0) (C := RX5) (T := TX5) (N := 6) hx hb hts hiX5 hown hK hP 0 rfl rfl 0 (by decide) (hts (.fieldLink RX5 10 "TideMill" "mill" "LTideMill$Mill;") (List.mem_of_getElem? (i := 5) rfl)) (fun _ h9 => h9) rfl dX5_feed_54 ?_
        refine va_get (D := G.1) (ci := 1) (v := .ref ma4) (C := RX1) (T := TX1) (N := 7) hx hb hts hiX1 hown hK hP 1 rfl rfl 3 (by decide) (hts (.fieldLink RX5 102 "TideMill$Mill" "pairs" "LTideMill$Pairs;") (List.mem_of_getElem? (i := 6) rfl)) (fun _ h9 => h9) rfl dX5_feed_57 ?_
        refine lv_iload_n hx hb dX5_feed_60 rfl (lv_at hl 1 rfl) ?_
        have hPc := hP.sub (ws' := [tc_X2 ma4 md0 md1 md2 md3 pn, tc_F G md0 3 dl, tc_I G md1 3 pl, tc_I G md2 3 dr, tc_I G md3 3 sp]) [2, 3, 4, 5, 6] rfl
        have hDc := hD.sub (ws' := [tc_X2 ma4 md0 md1 md2 md3 pn, tc_F G md0 3 dl, tc_I G md1 3 pl, tc_I G md2 3 dr, tc_I G md3 3 sp]) [2, 3, 4, 5, 6] (by decide) rfl
        have hFc := va_free (wc := [tc_X2 ma4 md0 md1 md2 md3 pn, tc_F G md0 3 dl, tc_I G md1 3 pl, tc_I G md2 3 dr, tc_I G md3 3 sp]) hD hS hA [2, 3, 4, 5, 6] rfl
        refine va_calli (va_runV (As := [.int p1]) (rest := []) ⟨hx, hb, hml, hown, hts⟩ (c_X2_isFree l G ma4 md0 md1 md2 md3 H.size pn dl pl dr sp p1 n_7) (cwV 1 hts gX5_feed_X2_isFree rfl rfl rfl (by decide +kernel) ⟨(Nat.le_of_ble_eq_true rfl), (Nat.le_of_ble_eq_true rfl)⟩) (tm_preV hK hN hV hS hPc hDc hFc (va_recv hK hPc (ci := 2) (q0 := 0) rfl rfl)) rfl rfl hl.1 rfl (lv_room (Nat.le_of_ble_eq_true rfl)) dX5_feed_61 ⟨(Nat.le_of_ble_eq_true rfl), (Nat.le_of_ble_eq_true rfl)⟩) hS (fun q _ h => hFc q h) hFc (fun r_8 u t H locs ht hvm hw_8 hB hz1 hk1 hS => ?_)
        obtain ⟨hP1, hD1⟩ := hB
        rw [ht] at hP1
        try dsimp only at hw_8
        obtain ⟨hP, hD⟩ := va_join (wr := [tc_X5 a0 ma0 ta0 lk rf pu to, tc_X1 ma0 ma1 ma2 ma3 ma4 fh lh ee, tc_X0 ma3 mb0 mb1 mb2 mb3 mb4 mb5 ln, tc_I G mb0 10 ow, tc_I G mb1 10 gr, tc_I G mb2 10 we, tc_I G mb3 10 du, tc_I G mb4 10 sa, tc_D G mb5 10 le]) (w1 := [tc_X2 ma4 md0 md1 md2 md3 pn, tc_F G md0 3 dl, tc_I G md1 3 pl, tc_I G md2 3 dr, tc_I G md3 3 sp]) hP hD [2, 3, 4, 5, 6] [0, 1, 7, 8, 9, 10, 11, 12, 13] rfl rfl (by decide) (by decide) hk1 hFc hP1 hD1
        have hP : va_P G.1 vwCl [tc_X5 a0 ma0 ta0 lk rf pu to, tc_X1 ma0 ma1 ma2 ma3 ma4 fh lh ee, tc_X0 ma3 mb0 mb1 mb2 mb3 mb4 mb5 ln, tc_I G mb0 10 ow, tc_I G mb1 10 gr, tc_I G mb2 10 we, tc_I G mb3 10 du, tc_I G mb4 10 sa, tc_D G mb5 10 le, tc_X2 ma4 md0 md1 md2 md3 pn, tc_F G md0 3 dl, tc_I G md1 3 pl, tc_I G md2 3 dr, tc_I G md3 3 sp] H := hP
        have hD : va_D A [tc_X5 a0 ma0 ta0 lk rf pu to, tc_X1 ma0 ma1 ma2 ma3 ma4 fh lh ee, tc_X0 ma3 mb0 mb1 mb2 mb3 mb4 mb5 ln, tc_I G mb0 10 ow, tc_I G mb1 10 gr, tc_I G mb2 10 we, tc_I G mb3 10 du, tc_I G mb4 10 sa, tc_D G mb5 10 le, tc_X2 ma4 md0 md1 md2 md3 pn, tc_F G md0 3 dl, tc_I G md1 3 pl, tc_I G md2 3 dr, tc_I G md3 3 sp] := hD
        subst hw_8
        refine lv_if_ne (tgt := 77) hx hb dX5_feed_64 (by decide) (fun c_9 => ?_) (fun c_9 => ?_)
        · refine lv_aload_n hx hb dX5_feed_77 rfl (lv_at hl 0 rfl) ?_
          refine va_get (D := G.1) (ci := 5) (v := .ref ma0) (C := RX5) (T := TX5) (N := 6) hx hb hts hiX5 hown hK hP 0 rfl rfl 0 (by decide) (hts (.fieldLink RX5 10 "TideMill" "mill" "LTideMill$Mill;") (List.mem_of_getElem? (i := 5) rfl)) (fun _ h9 => h9) rfl dX5_feed_78 ?_
          refine va_get (D := G.1) (ci := 1) (v := .ref ma4) (C := RX1) (T := TX1) (N := 7) hx hb hts hiX1 hown hK hP 1 rfl rfl 3 (by decide) (hts (.fieldLink RX5 102 "TideMill$Mill" "pairs" "LTideMill$Pairs;") (List.mem_of_getElem? (i := 6) rfl)) (fun _ h9 => h9) rfl dX5_feed_81 ?_
          refine va_get (D := G.1) (ci := 2) (v := .ref md1) (C := RX2) (T := TX2) (N := 5) hx hb hts hiX2 hown hK hP 9 rfl rfl 1 (by decide) (hts (.fieldLink RX5 154 "TideMill$Pairs" "lot" "[I") (List.mem_of_getElem? (i := 9) rfl)) (fun _ h9 => h9) rfl dX5_feed_84 ?_
          refine lv_iload_n hx hb dX5_feed_87 rfl (lv_at hl 1 rfl) ?_
          refine lv_iload_n hx hb dX5_feed_88 rfl (lv_at hl 2 rfl) ?_
          refine va_iast (n := 3) (f := pl) hx hb hK hP hD hS 11 0 rfl rfl n_10 dX5_feed_89 (fun H locs hP hD hS => ?_)
          have hP : va_P G.1 vwCl [tc_X5 a0 ma0 ta0 lk rf pu to, tc_X1 ma0 ma1 ma2 ma3 ma4 fh lh ee, tc_X0 ma3 mb0 mb1 mb2 mb3 mb4 mb5 ln, tc_I G mb0 10 ow, tc_I G mb1 10 gr, tc_I G mb2 10 we, tc_I G mb3 10 du, tc_I G mb4 10 sa, tc_D G mb5 10 le, tc_X2 ma4 md0 md1 md2 md3 pn, tc_F G md0 3 dl, tc_I G md1 3 (upd pl p1.toNatClampNeg p2), tc_I G md2 3 dr, tc_I G md3 3 sp] H := hP
          have hD : va_D A [tc_X5 a0 ma0 ta0 lk rf pu to, tc_X1 ma0 ma1 ma2 ma3 ma4 fh lh ee, tc_X0 ma3 mb0 mb1 mb2 mb3 mb4 mb5 ln, tc_I G mb0 10 ow, tc_I G mb1 10 gr, tc_I G mb2 10 we, tc_I G mb3 10 du, tc_I G mb4 10 sa, tc_D G mb5 10 le, tc_X2 ma4 md0 md1 md2 md3 pn, tc_F G md0 3 dl, tc_I G md1 3 (upd pl p1.toNatClampNeg p2), tc_I G md2 3 dr, tc_I G md3 3 sp] := hD
          refine lv_aload_n hx hb dX5_feed_90 rfl (lv_at hl 0 rfl) ?_
          refine va_get (D := G.1) (ci := 5) (v := .ref ma0) (C := RX5) (T := TX5) (N := 6) hx hb hts hiX5 hown hK hP 0 rfl rfl 0 (by decide) (hts (.fieldLink RX5 10 "TideMill" "mill" "LTideMill$Mill;") (List.mem_of_getElem? (i := 5) rfl)) (fun _ h9 => h9) rfl dX5_feed_91 ?_
          refine va_get (D := G.1) (ci := 1) (v := .ref ma3) (C := RX1) (T := TX1) (N := 7) hx hb hts hiX1 hown hK hP 1 rfl rfl 2 (by decide) (hts (.fieldLink RX5 119 "TideMill$Mill" "lots" "LTideMill$Lots;") (List.mem_of_getElem? (i := 7) rfl)) (fun _ h9 => h9) rfl dX5_feed_94 ?_
          refine va_get (D := G.1) (ci := 0) (v := .ref mb4) (C := RX0) (T := TX0) (N := 7) hx hb hts hiX0 hown hK hP 2 rfl rfl 4 (by decide) (hts (.fieldLink RX5 145 "TideMill$Lots" "state" "[I") (List.mem_of_getElem? (i := 8) rfl)) (fun _ h9 => h9) rfl dX5_feed_97 ?_
          refine lv_iload_n hx hb dX5_feed_100 rfl (lv_at hl 2 rfl) ?_
          refine lv_iconst (v := 1) hx hb dX5_feed_101 (by decide) ?_
          refine va_iast (n := 10) (f := sa) hx hb hK hP hD hS 7 0 rfl rfl n_5 dX5_feed_102 (fun H locs hP hD hS => ?_)
          have hP : va_P G.1 vwCl [tc_X5 a0 ma0 ta0 lk rf pu to, tc_X1 ma0 ma1 ma2 ma3 ma4 fh lh ee, tc_X0 ma3 mb0 mb1 mb2 mb3 mb4 mb5 ln, tc_I G mb0 10 ow, tc_I G mb1 10 gr, tc_I G mb2 10 we, tc_I G mb3 10 du, tc_I G mb4 10 (upd sa p2.toNatClampNeg 1), tc_D G mb5 10 le, tc_X2 ma4 md0 md1 md2 md3 pn, tc_F G md0 3 dl, tc_I G md1 3 (upd pl p1.toNatClampNeg p2), tc_I G md2 3 dr, tc_I G md3 3 sp] H := hP
          have hD : va_D A [tc_X5 a0 ma0 ta0 lk rf pu to, tc_X1 ma0 ma1 ma2 ma3 ma4 fh lh ee, tc_X0 ma3 mb0 mb1 mb2 mb3 mb4 mb5 ln, tc_I G mb0 10 ow, tc_I G mb1 10 gr, tc_I G mb2 10 we, tc_I G mb3 10 du, tc_I G mb4 10 (upd sa p2.toNatClampNeg 1), tc_D G mb5 10 le, tc_X2 ma4 md0 md1 md2 md3 pn, tc_F G md0 3 dl, tc_I G md1 3 (upd pl p1.toNatClampNeg p2), tc_I G md2 3 dr, tc_I G md3 3 sp] := hD
          refine lv_aload_n hx hb dX5_feed_103 rfl (lv_at hl 0 rfl) ?_
          refine va_get (D := G.1) (ci := 5) (v := .ref ma0) (C := RX5) (T := TX5) (N := 6) hx hb hts hiX5 hown hK hP 0 rfl rfl 0 (by decide) (hts (.fieldLink RX5 10 "TideMill" "mill" "LTideMill$Mill;") (List.mem_of_getElem? (i := 5) rfl)) (fun _ h9 => h9) rfl dX5_feed_104 ?_
          refine va_get (D := G.1) (ci := 1) (v := .ref ma3) (C := RX1) (T := TX1) (N := 7) hx hb hts hiX1 hown hK hP 1 rfl rfl 2 (by decide) (hts (.fieldLink RX5 119 "TideMill$Mill" "lots" "LTideMill$Lots;") (List.mem_of_getElem? (i := 7) rfl)) (fun _ h9 => h9) rfl dX5_feed_107 ?_
          refine lv_iconst (v := 0) hx hb dX5_feed_110 (by decide) ?_
          have hPc := hP.sub (ws' := [tc_X0 ma3 mb0 mb1 mb2 mb3 mb4 mb5 ln, tc_I G mb4 10 (upd sa p2.toNatClampNeg 1)]) [2, 7] rfl
          have hDc := hD.sub (ws' := [tc_X0 ma3 mb0 mb1 mb2 mb3 mb4 mb5 ln, tc_I G mb4 10 (upd sa p2.toNatClampNeg 1)]) [2, 7] (by decide) rfl
          have hFc := va_free (wc := [tc_X0 ma3 mb0 mb1 mb2 mb3 mb4 mb5 ln, tc_I G mb4 10 (upd sa p2.toNatClampNeg 1)]) hD hS hA [2, 7] rfl
          refine va_calli (va_runV (As := [.int 0]) (rest := []) ⟨hx, hb, hml, hown, hts⟩ (c_X0_countOf l G ma3 mb0 mb1 mb2 mb3 mb4 mb5 H.size ln (upd sa p2.toNatClampNeg 1) 0 n_11) (cwV 1 hts gX5_feed_X0_countOf rfl rfl rfl (by decide +kernel) ⟨(Nat.le_of_ble_eq_true rfl), (Nat.le_of_ble_eq_true rfl)⟩) (tm_preV hK hN hV hS hPc hDc hFc (va_recv hK hPc (ci := 0) (q0 := 0) rfl rfl)) rfl rfl hl.1 rfl (lv_room (Nat.le_of_ble_eq_true rfl)) dX5_feed_111 ⟨(Nat.le_of_ble_eq_true rfl), (Nat.le_of_ble_eq_true rfl)⟩) hS (fun q _ h => hFc q h) hFc (fun r_12 u t H locs ht hvm hw_12 hB hz1 hk1 hS => ?_)
          obtain ⟨hP1, hD1⟩ := hB
          rw [ht] at hP1
          try dsimp only at hw_12
          obtain ⟨hP, hD⟩ := va_join (wr := [tc_X5 a0 ma0 ta0 lk rf pu to, tc_X1 ma0 ma1 ma2 ma3 ma4 fh lh ee, tc_I G mb0 10 ow, tc_I G mb1 10 gr, tc_I G mb2 10 we, tc_I G mb3 10 du, tc_D G mb5 10 le, tc_X2 ma4 md0 md1 md2 md3 pn, tc_F G md0 3 dl, tc_I G md1 3 (upd pl p1.toNatClampNeg p2), tc_I G md2 3 dr, tc_I G md3 3 sp]) (w1 := [tc_X0 ma3 mb0 mb1 mb2 mb3 mb4 mb5 ln, tc_I G mb4 10 (upd sa p2.toNatClampNeg 1)]) hP hD [2, 7] [0, 1, 3, 4, 5, 6, 8, 9, 10, 11, 12, 13] rfl rfl (by decide) (by decide) hk1 hFc hP1 hD1
          have hP : va_P G.1 vwCl [tc_X5 a0 ma0 ta0 lk rf pu to, tc_X1 ma0 ma1 ma2 ma3 ma4 fh lh ee, tc_I G mb0 10 ow, tc_I G mb1 10 gr, tc_I G mb2 10 we, tc_I G mb3 10 du, tc_D G mb5 10 le, tc_X2 ma4 md0 md1 md2 md3 pn, tc_F G md0 3 dl, tc_I G md1 3 (upd pl p1.toNatClampNeg p2), tc_I G md2 3 dr, tc_I G md3 3 sp, tc_X0 ma3 mb0 mb1 mb2 mb3 mb4 mb5 ln, tc_I G mb4 10 (upd sa p2.toNatClampNeg 1)] H := hP
          have hD : va_D A [tc_X5 a0 ma0 ta0 lk rf pu to, tc_X1 ma0 ma1 ma2 ma3 ma4 fh lh ee, tc_I G mb0 10 ow, tc_I G mb1 10 gr, tc_I G mb2 10 we, tc_I G mb3 10 du, tc_D G mb5 10 le, tc_X2 ma4 md0 md1 md2 md3 pn, tc_F G md0 3 dl, tc_I G md1 3 (upd pl p1.toNatClampNeg p2), tc_I G md2 3 dr, tc_I G md3 3 sp, tc_X0 ma3 mb0 mb1 mb2 mb3 mb4 mb5 ln, tc_I G mb4 10 (upd sa p2.toNatClampNeg 1)] := hD
          subst hw_12
          have hP9 := hP.sub (ws' := [tc_X5 a0 ma0 ta0 lk rf pu to, tc_X1 ma0 ma1 ma2 ma3 ma4 fh lh ee, tc_X0 ma3 mb0 mb1 mb2 mb3 mb4 mb5 ln, tc_I G mb0 10 ow, tc_I G mb1 10 gr, tc_I G mb2 10 we, tc_I G mb3 10 du, tc_I G mb4 10 (upd sa p2.toNatClampNeg 1), tc_D G mb5 10 le, tc_X2 ma4 md0 md1 md2 md3 pn, tc_F G md0 3 dl, tc_I G md1 3 (upd pl p1.toNatClampNeg p2), tc_I G md2 3 dr, tc_I G md3 3 sp]) [0, 1, 12, 2, 3, 4, 5, 13, 6, 7, 8, 9, 10, 11] rfl
          have hD9 := hD.sub (ws' := [tc_X5 a0 ma0 ta0 lk rf pu to, tc_X1 ma0 ma1 ma2 ma3 ma4 fh lh ee, tc_X0 ma3 mb0 mb1 mb2 mb3 mb4 mb5 ln, tc_I G mb0 10 ow, tc_I G mb1 10 gr, tc_I G mb2 10 we, tc_I G mb3 10 du, tc_I G mb4 10 (upd sa p2.toNatClampNeg 1), tc_D G mb5 10 le, tc_X2 ma4 md0 md1 md2 md3 pn, tc_F G md0 3 dl, tc_I G md1 3 (upd pl p1.toNatClampNeg p2), tc_I G md2 3 dr, tc_I G md3 3 sp]) [0, 1, 12, 2, 3, 4, 5, 13, 6, 7, 8, 9, 10, 11] (by decide) rfl
          exact W.iret (v := f_X0_countOf ln (upd sa p2.toNatClampNeg 1) 0) hx hb hr (fun t ht hW => ⟨⟨f_X0_countOf ln (upd sa p2.toNatClampNeg 1) 0, (upd sa p2.toNatClampNeg 1, upd pl p1.toNatClampNeg p2), rfl, by unfold f_X5_feed; all_goals rfl, by rw [ht]; exact hP9, hD9⟩, hS.F ht⟩) hS.2.2 dX5_feed_114
        · exact absurd c_9 na_3
    · exact absurd c_4 na_1
set_option maxHeartbeats 4000000 in
set_option maxRecDepth 100000 in
theorem c_X5_take (l : Launch) (G : tm_G) (a0 : Nat) (ma0 : Nat) (ta0 : Nat) (ma1 : Nat) (ma2 : Nat) (ma3 : Nat) (ma4 : Nat) (mb0 : Nat) (mb1 : Nat) (mb2 : Nat) (mb3 : Nat) (mb4 : Nat) (mb5 : Nat) (md0 : Nat) (md1 : Nat) (md2 : Nat) (md3 : Nat) (sz : Nat) (lk : Int32) (rf : Int32) (pu : Int32) (to : UInt64) (fh : Int32) (lh : Int32) (ee : Int32) (ln : Int32) (ow : Nat → Int32) (gr : Nat → Int32) (we : Nat → Int32) (du : Nat → Int32) (sa : Nat → Int32) (le : Nat → UInt64) (pn : Int32) (dl : Nat → UInt32) (pl : Nat → Int32) (dr : Nat → Int32) (sp : Nat → Int32) (p1 : Int32) (hn : n_X5_take ln pn pl p1) : Met l yX5_take wsX5_take ({ frames := 1, cells := 0, slots := 0, locals := 21 }) (va_Pc [.ref a0, .int p1] (tm_B G [tc_X5 a0 ma0 ta0 lk rf pu to, tc_X1 ma0 ma1 ma2 ma3 ma4 fh lh ee, tc_X0 ma3 mb0 mb1 mb2 mb3 mb4 mb5 ln, tc_I G mb0 10 ow, tc_I G mb1 10 gr, tc_I G mb2 10 we, tc_I G mb3 10 du, tc_I G mb4 10 sa, tc_D G mb5 10 le, tc_X2 ma4 md0 md1 md2 md3 pn, tc_F G md0 3 dl, tc_I G md1 3 pl, tc_I G md2 3 dr, tc_I G md3 3 sp] sz)) (va_Qi (fun (r : Int32) (u : (Nat → Int32) × (Nat → Int32)) => (r, u) = f_X5_take sa pl p1) (fun (u : (Nat → Int32) × (Nat → Int32)) (t : State) => va_P G.1 vwCl [tc_X5 a0 ma0 ta0 lk rf pu to, tc_X1 ma0 ma1 ma2 ma3 ma4 fh lh ee, tc_X0 ma3 mb0 mb1 mb2 mb3 mb4 mb5 ln, tc_I G mb0 10 ow, tc_I G mb1 10 gr, tc_I G mb2 10 we, tc_I G mb3 10 du, tc_I G mb4 10 u.1, tc_D G mb5 10 le, tc_X2 ma4 md0 md1 md2 md3 pn, tc_F G md0 3 dl, tc_I G md1 3 u.2, tc_I G md2 3 dr, tc_I G md3 3 sp] t.heap ∧ va_D (va_A [tc_X5 a0 ma0 ta0 lk rf pu to, tc_X1 ma0 ma1 ma2 ma3 ma4 fh lh ee, tc_X0 ma3 mb0 mb1 mb2 mb3 mb4 mb5 ln, tc_I G mb0 10 ow, tc_I G mb1 10 gr, tc_I G mb2 10 we, tc_I G mb3 10 du, tc_I G mb4 10 sa, tc_D G mb5 10 le, tc_X2 ma4 md0 md1 md2 md3 pn, tc_F G md0 3 dl, tc_I G md1 3 pl, tc_I G md2 3 dr, tc_I G md3 3 sp] sz) [tc_X5 a0 ma0 ta0 lk rf pu to, tc_X1 ma0 ma1 ma2 ma3 ma4 fh lh ee, tc_X0 ma3 mb0 mb1 mb2 mb3 mb4 mb5 ln, tc_I G mb0 10 ow, tc_I G mb1 10 gr, tc_I G mb2 10 we, tc_I G mb3 10 du, tc_I G mb4 10 u.1, tc_D G mb5 10 le, tc_X2 ma4 md0 md1 md2 md3 pn, tc_F G md0 3 dl, tc_I G md1 3 u.2, tc_I G md2 3 dr, tc_I G md3 3 sp]) (va_A [tc_X5 a0 ma0 ta0 lk rf pu to, tc_X1 ma0 ma1 ma2 ma3 ma4 fh lh ee, tc_X0 ma3 mb0 mb1 mb2 mb3 mb4 mb5 ln, tc_I G mb0 10 ow, tc_I G mb1 10 gr, tc_I G mb2 10 we, tc_I G mb3 10 du, tc_I G mb4 10 sa, tc_D G mb5 10 le, tc_X2 ma4 md0 md1 md2 md3 pn, tc_F G md0 3 dl, tc_I G md1 3 pl, tc_I G md2 3 dr, tc_I G md3 3 sp] sz)) 0 0 (va_A [tc_X5 a0 ma0 ta0 lk rf pu to, tc_X1 ma0 ma1 ma2 ma3 ma4 fh lh ee, tc_X0 ma3 mb0 mb1 mb2 mb3 mb4 mb5 ln, tc_I G mb0 10 ow, tc_I G mb1 10 gr, tc_I G mb2 10 we, tc_I G mb3 10 du, tc_I G mb4 10 sa, tc_D G mb5 10 le, tc_X2 ma4 md0 md1 md2 md3 pn, tc_F G md0 3 dl, tc_I G md1 3 pl, tc_I G md2 3 dr, tc_I G md3 3 sp] sz) := by
  refine Met.ofW (cc := cX5_take) (maxL := 3) (ret := (some .int)) (by decide) rfl ?_
  intro p e s m args below meth c s₁ B hml hv
  obtain ⟨rfl, hsz, hP, hK, hD0, hN, hV⟩ := hv
  have hx := B.exec
  have hb := B.bytes
  have hr := B.returns
  have hts := atoms_spec (ws := wsX5_take) B.pre
  have hown : s.vm.findClass RX5 = some m.cls := findClass_of_methodNamed B.named
  have hlocks := B.notSynchronized
  subst hsz
  obtain ⟨na_0, na_1, n_3, n_6⟩ := hn
  have hiX0 : ∀ w ∈ u_ws RX0 TX0 7, w ∈ wsX5_take := fun _ h => List.mem_cons_of_mem _ (List.mem_append_left _ (List.mem_append_left _ (List.mem_append_right _ h)))
  have hiX1 : ∀ w ∈ u_ws RX1 TX1 7, w ∈ wsX5_take := fun _ h => List.mem_cons_of_mem _ (List.mem_append_left _ (List.mem_append_left _ (List.mem_append_left _ (List.mem_append_left _ (List.mem_append_right _ h)))))
  have hiX2 : ∀ w ∈ u_ws RX2 TX2 5, w ∈ wsX5_take := fun _ h => List.mem_cons_of_mem _ (List.mem_append_left _ (List.mem_append_left _ (List.mem_append_left _ (List.mem_append_right _ h))))
  have hiX5 : ∀ w ∈ u_ws RX5 TX5 6, w ∈ wsX5_take := fun _ h => List.mem_cons_of_mem _ (List.mem_append_left _ (List.mem_append_left _ (List.mem_append_left _ (List.mem_append_left _ (List.mem_append_left _ (List.mem_append_right _ h))))))
  have hD := hD0.self (sz := s.heap.size)
  generalize hAe : va_A [tc_X5 a0 ma0 ta0 lk rf pu to, tc_X1 ma0 ma1 ma2 ma3 ma4 fh lh ee, tc_X0 ma3 mb0 mb1 mb2 mb3 mb4 mb5 ln, tc_I G mb0 10 ow, tc_I G mb1 10 gr, tc_I G mb2 10 we, tc_I G mb3 10 du, tc_I G mb4 10 sa, tc_D G mb5 10 le, tc_X2 ma4 md0 md1 md2 md3 pn, tc_F G md0 3 dl, tc_I G md1 3 pl, tc_I G md2 3 dr, tc_I G md3 3 sp] s.heap.size = A at hD hV ⊢
  have hA : ∀ q : Nat, s.heap.size ≤ q → A q := fun q h => by rw [← hAe]; exact Or.inr h
  have hS : va_S A s.heap s.heap [] := va_S.rf
  have hl := lv_entry ([.ref a0, .int p1]) (n := 3) (Nat.le_of_ble_eq_true rfl)
  rw [lg_entry_eq]
  generalize (lg_sl ([.ref a0, .int p1]) ++ List.replicate (3 - (lg_sl ([.ref a0, .int p1])).length) Slot.unset).toArray = ls at hl ⊢
  have hl : lv_has ls 3 [(0, .ref a0), (1, .int p1)] := hl
  refine lv_aload_n hx hb dX5_take_0 rfl (lv_at hl 0 rfl) ?_
  refine va_get (D := G.1) (ci := 5) (v := .ref ma0) (C := RX5) (T := TX5) (N := 6) hx hb hts hiX5 hown hK hP 0 rfl rfl 0 (by decide) (hts (.fieldLink RX5 10 "TideMill" "mill" "LTideMill$Mill;") (List.mem_of_getElem? (i := 5) rfl)) (fun _ h9 => h9) rfl dX5_take_1 ?_
  refine va_get (D := G.1) (ci := 1) (v := .ref ma4) (C := RX1) (T := TX1) (N := 7) hx hb hts hiX1 hown hK hP 1 rfl rfl 3 (by decide) (hts (.fieldLink RX5 102 "TideMill$Mill" "pairs" "LTideMill$Pairs;") (List.mem_of_getElem? (i := 6) rfl)) (fun _ h9 => h9) rfl dX5_take_4 ?_
  refine lv_iload_n hx hb dX5_take_7 rfl (lv_at hl 1 rfl) ?_
  have hPc := hP.sub (ws' := [tc_X2 ma4 md0 md1 md2 md3 pn, tc_F G md0 3 dl, tc_I G md1 3 pl, tc_I G md2 3 dr, tc_I G md3 3 sp]) [9, 10, 11, 12, 13] rfl
  have hDc := hD.sub (ws' := [tc_X2 ma4 md0 md1 md2 md3 pn, tc_F G md0 3 dl, tc_I G md1 3 pl, tc_I G md2 3 dr, tc_I G md3 3 sp]) [9, 10, 11, 12, 13] (by decide) rfl
  have hFc := va_free (wc := [tc_X2 ma4 md0 md1 md2 md3 pn, tc_F G md0 3 dl, tc_I G md1 3 pl, tc_I G md2 3 dr, tc_I G md3 3 sp]) hD hS hA [9, 10, 11, 12, 13] rfl
  refine va_calli (va_runV (As := [.int p1]) (rest := []) ⟨hx, hb, hml, hown, hts⟩ (c_X2_has l G ma4 md0 md1 md2 md3 s.heap.size pn dl pl dr sp p1 ) (cwV 1 hts gX5_take_X2_has rfl rfl rfl (by decide +kernel) ⟨(Nat.le_of_ble_eq_true rfl), (Nat.le_of_ble_eq_true rfl)⟩) (tm_preV hK hN hV hS hPc hDc hFc (va_recv hK hPc (ci := 2) (q0 := 0) rfl rfl)) rfl rfl hl.1 rfl (lv_room (Nat.le_of_ble_eq_true rfl)) dX5_take_8 ⟨(Nat.le_of_ble_eq_true rfl), (Nat.le_of_ble_eq_true rfl)⟩) hS (fun q _ h => hFc q h) hFc (fun r_1 u t H locs ht hvm hw_1 hB hz1 hk1 hS => ?_)
  obtain ⟨hP1, hD1⟩ := hB
  rw [ht] at hP1
  try dsimp only at hw_1
  obtain ⟨hP, hD⟩ := va_join (wr := [tc_X5 a0 ma0 ta0 lk rf pu to, tc_X1 ma0 ma1 ma2 ma3 ma4 fh lh ee, tc_X0 ma3 mb0 mb1 mb2 mb3 mb4 mb5 ln, tc_I G mb0 10 ow, tc_I G mb1 10 gr, tc_I G mb2 10 we, tc_I G mb3 10 du, tc_I G mb4 10 sa, tc_D G mb5 10 le]) (w1 := [tc_X2 ma4 md0 md1 md2 md3 pn, tc_F G md0 3 dl, tc_I G md1 3 pl, tc_I G md2 3 dr, tc_I G md3 3 sp]) hP hD [9, 10, 11, 12, 13] [0, 1, 2, 3, 4, 5, 6, 7, 8] rfl rfl (by decide) (by decide) hk1 hFc hP1 hD1
  have hP : va_P G.1 vwCl [tc_X5 a0 ma0 ta0 lk rf pu to, tc_X1 ma0 ma1 ma2 ma3 ma4 fh lh ee, tc_X0 ma3 mb0 mb1 mb2 mb3 mb4 mb5 ln, tc_I G mb0 10 ow, tc_I G mb1 10 gr, tc_I G mb2 10 we, tc_I G mb3 10 du, tc_I G mb4 10 sa, tc_D G mb5 10 le, tc_X2 ma4 md0 md1 md2 md3 pn, tc_F G md0 3 dl, tc_I G md1 3 pl, tc_I G md2 3 dr, tc_I G md3 3 sp] H := hP
  have hD : va_D A [tc_X5 a0 ma0 ta0 lk rf pu to, tc_X1 ma0 ma1 ma2 ma3 ma4 fh lh ee, tc_X0 ma3 mb0 mb1 mb2 mb3 mb4 mb5 ln, tc_I G mb0 10 ow, tc_I G mb1 10 gr, tc_I G mb2 10 we, tc_I G mb3 10 du, tc_I G mb4 10 sa, tc_D G mb5 10 le, tc_X2 ma4 md0 md1 md2 md3 pn, tc_F G md0 3 dl, tc_I G md1 3 pl, tc_I G md2 3 dr, tc_I G md3 3 sp] := hD
  subst hw_1
  refine lv_if_ne (tgt := 24) hx hb dX5_take_11 (by decide) (fun c_2 => ?_) (fun c_2 => ?_)
  · refine lv_aload_n hx hb dX5_take_24 rfl (lv_at hl 0 rfl) ?_
    refine va_get (D := G.1) (ci := 5) (v := .ref ma0) (C := RX5) (T := TX5) (N := 6) hx hb hts hiX5 hown hK hP 0 rfl rfl 0 (by decide) (hts (.fieldLink RX5 10 "TideMill" "mill" "LTideMill$Mill;") (List.mem_of_getElem? (i := 5) rfl)) (fun _ h9 => h9) rfl dX5_take_25 ?_
    refine va_get (D := G.1) (ci := 1) (v := .ref ma4) (C := RX1) (T := TX1) (N := 7) hx hb hts hiX1 hown hK hP 1 rfl rfl 3 (by decide) (hts (.fieldLink RX5 102 "TideMill$Mill" "pairs" "LTideMill$Pairs;") (List.mem_of_getElem? (i := 6) rfl)) (fun _ h9 => h9) rfl dX5_take_28 ?_
    refine va_get (D := G.1) (ci := 2) (v := .ref md1) (C := RX2) (T := TX2) (N := 5) hx hb hts hiX2 hown hK hP 9 rfl rfl 1 (by decide) (hts (.fieldLink RX5 154 "TideMill$Pairs" "lot" "[I") (List.mem_of_getElem? (i := 7) rfl)) (fun _ h9 => h9) rfl dX5_take_31 ?_
    refine lv_iload_n hx hb dX5_take_34 rfl (lv_at hl 1 rfl) ?_
    refine va_iald (n := 3) (f := pl) hx hb hK hP 11 0 rfl rfl n_3 dX5_take_35 ?_
    refine lv_istore_n (lv' := [(2, .int (pl p1.toNatClampNeg)), (0, .ref a0), (1, .int p1)]) hx hb dX5_take_36 rfl hl (by decide) rfl (fun ls hl => ?_)
    refine lv_aload_n hx hb dX5_take_37 rfl (lv_at hl 1 rfl) ?_
    refine va_get (D := G.1) (ci := 5) (v := .ref ma0) (C := RX5) (T := TX5) (N := 6) hx hb hts hiX5 hown hK hP 0 rfl rfl 0 (by decide) (hts (.fieldLink RX5 10 "TideMill" "mill" "LTideMill$Mill;") (List.mem_of_getElem? (i := 5) rfl)) (fun _ h9 => h9) rfl dX5_take_38 ?_
    refine va_get (D := G.1) (ci := 1) (v := .ref ma3) (C := RX1) (T := TX1) (N := 7) hx hb hts hiX1 hown hK hP 1 rfl rfl 2 (by decide) (hts (.fieldLink RX5 119 "TideMill$Mill" "lots" "LTideMill$Lots;") (List.mem_of_getElem? (i := 8) rfl)) (fun _ h9 => h9) rfl dX5_take_41 ?_
    refine lv_iload_n hx hb dX5_take_44 rfl (lv_at hl 0 rfl) ?_
    have hPc := hP.sub (ws' := [tc_X0 ma3 mb0 mb1 mb2 mb3 mb4 mb5 ln, tc_I G mb0 10 ow, tc_I G mb1 10 gr, tc_I G mb2 10 we, tc_I G mb3 10 du, tc_I G mb4 10 sa, tc_D G mb5 10 le]) [2, 3, 4, 5, 6, 7, 8] rfl
    have hDc := hD.sub (ws' := [tc_X0 ma3 mb0 mb1 mb2 mb3 mb4 mb5 ln, tc_I G mb0 10 ow, tc_I G mb1 10 gr, tc_I G mb2 10 we, tc_I G mb3 10 du, tc_I G mb4 10 sa, tc_D G mb5 10 le]) [2, 3, 4, 5, 6, 7, 8] (by decide) rfl
    have hFc := va_free (wc := [tc_X0 ma3 mb0 mb1 mb2 mb3 mb4 mb5 ln, tc_I G mb0 10 ow, tc_I G mb1 10 gr, tc_I G mb2 10 we, tc_I G mb3 10 du, tc_I G mb4 10 sa, tc_D G mb5 10 le]) hD hS hA [2, 3, 4, 5, 6, 7, 8] rfl
    refine va_calli (va_runV (As := [.int (pl p1.toNatClampNeg)]) (rest := []) ⟨hx, hb, hml, hown, hts⟩ (c_X0_has l G ma3 mb0 mb1 mb2 mb3 mb4 mb5 H.size ln ow gr we du sa le (pl p1.toNatClampNeg) ) (cwV 1 hts gX5_take_X0_has rfl rfl rfl (by decide +kernel) ⟨(Nat.le_of_ble_eq_true rfl), (Nat.le_of_ble_eq_true rfl)⟩) (tm_preV hK hN hV hS hPc hDc hFc (va_recv hK hPc (ci := 0) (q0 := 0) rfl rfl)) rfl rfl hl.1 rfl (lv_room (Nat.le_of_ble_eq_true rfl)) dX5_take_45 ⟨(Nat.le_of_ble_eq_true rfl), (Nat.le_of_ble_eq_true rfl)⟩) hS (fun q _ h => hFc q h) hFc (fun r_4 u t H locs ht hvm hw_4 hB hz1 hk1 hS => ?_)
    obtain ⟨hP1, hD1⟩ := hB
    rw [ht] at hP1
    try dsimp only at hw_4
    obtain ⟨hP, hD⟩ := va_join (wr := [tc_X5 a0 ma0 ta0 lk rf pu to, tc_X1 ma0 ma1 ma2 ma3 ma4 fh lh ee, tc_X2 ma4 md0 md1 md2 md3 pn, tc_F G md0 3 dl, tc_I G md1 3 pl, tc_I G md2 3 dr, tc_I G md3 3 sp]) (w1 := [tc_X0 ma3 mb0 mb1 mb2 mb3 mb4 mb5 ln, tc_I G mb0 10 ow, tc_I G mb1 10 gr, tc_I G mb2 10 we, tc_I G mb3 10 du, tc_I G mb4 10 sa, tc_D G mb5 10 le]) hP hD [2, 3, 4, 5, 6, 7, 8] [0, 1, 9, 10, 11, 12, 13] rfl rfl (by decide) (by decide) hk1 hFc hP1 hD1
    have hP : va_P G.1 vwCl [tc_X5 a0 ma0 ta0 lk rf pu to, tc_X1 ma0 ma1 ma2 ma3 ma4 fh lh ee, tc_X2 ma4 md0 md1 md2 md3 pn, tc_F G md0 3 dl, tc_I G md1 3 pl, tc_I G md2 3 dr, tc_I G md3 3 sp, tc_X0 ma3 mb0 mb1 mb2 mb3 mb4 mb5 ln, tc_I G mb0 10 ow, tc_I G mb1 10 gr, tc_I G mb2 10 we, tc_I G mb3 10 du, tc_I G mb4 10 sa, tc_D G mb5 10 le] H := hP
    have hD : va_D A [tc_X5 a0 ma0 ta0 lk rf pu to, tc_X1 ma0 ma1 ma2 ma3 ma4 fh lh ee, tc_X2 ma4 md0 md1 md2 md3 pn, tc_F G md0 3 dl, tc_I G md1 3 pl, tc_I G md2 3 dr, tc_I G md3 3 sp, tc_X0 ma3 mb0 mb1 mb2 mb3 mb4 mb5 ln, tc_I G mb0 10 ow, tc_I G mb1 10 gr, tc_I G mb2 10 we, tc_I G mb3 10 du, tc_I G mb4 10 sa, tc_D G mb5 10 le] := hD
    subst hw_4
    refine lv_if_ne (tgt := 61) hx hb dX5_take_48 (by decide) (fun c_5 => ?_) (fun c_5 => ?_)
    · refine lv_aload_n hx hb dX5_take_61 rfl (lv_at hl 1 rfl) ?_
      refine va_get (D := G.1) (ci := 5) (v := .ref ma0) (C := RX5) (T := TX5) (N := 6) hx hb hts hiX5 hown hK hP 0 rfl rfl 0 (by decide) (hts (.fieldLink RX5 10 "TideMill" "mill" "LTideMill$Mill;") (List.mem_of_getElem? (i := 5) rfl)) (fun _ h9 => h9) rfl dX5_take_62 ?_
      refine va_get (D := G.1) (ci := 1) (v := .ref ma4) (C := RX1) (T := TX1) (N := 7) hx hb hts hiX1 hown hK hP 1 rfl rfl 3 (by decide) (hts (.fieldLink RX5 102 "TideMill$Mill" "pairs" "LTideMill$Pairs;") (List.mem_of_getElem? (i := 6) rfl)) (fun _ h9 => h9) rfl dX5_take_65 ?_
      refine va_get (D := G.1) (ci := 2) (v := .ref md1) (C := RX2) (T := TX2) (N := 5) hx hb hts hiX2 hown hK hP 2 rfl rfl 1 (by decide) (hts (.fieldLink RX5 154 "TideMill$Pairs" "lot" "[I") (List.mem_of_getElem? (i := 7) rfl)) (fun _ h9 => h9) rfl dX5_take_68 ?_
      refine lv_iload_n hx hb dX5_take_71 rfl (lv_at hl 2 rfl) ?_
      refine lv_iconst (v := (-1)) hx hb dX5_take_72 (by decide) ?_
      refine va_iast (n := 3) (f := pl) hx hb hK hP hD hS 4 0 rfl rfl n_3 dX5_take_73 (fun H locs hP hD hS => ?_)
      have hP : va_P G.1 vwCl [tc_X5 a0 ma0 ta0 lk rf pu to, tc_X1 ma0 ma1 ma2 ma3 ma4 fh lh ee, tc_X2 ma4 md0 md1 md2 md3 pn, tc_F G md0 3 dl, tc_I G md1 3 (upd pl p1.toNatClampNeg (-1)), tc_I G md2 3 dr, tc_I G md3 3 sp, tc_X0 ma3 mb0 mb1 mb2 mb3 mb4 mb5 ln, tc_I G mb0 10 ow, tc_I G mb1 10 gr, tc_I G mb2 10 we, tc_I G mb3 10 du, tc_I G mb4 10 sa, tc_D G mb5 10 le] H := hP
      have hD : va_D A [tc_X5 a0 ma0 ta0 lk rf pu to, tc_X1 ma0 ma1 ma2 ma3 ma4 fh lh ee, tc_X2 ma4 md0 md1 md2 md3 pn, tc_F G md0 3 dl, tc_I G md1 3 (upd pl p1.toNatClampNeg (-1)), tc_I G md2 3 dr, tc_I G md3 3 sp, tc_X0 ma3 mb0 mb1 mb2 mb3 mb4 mb5 ln, tc_I G mb0 10 ow, tc_I G mb1 10 gr, tc_I G mb2 10 we, tc_I G mb3 10 du, tc_I G mb4 10 sa, tc_D G mb5 10 le] := hD
      refine lv_aload_n hx hb dX5_take_74 rfl (lv_at hl 1 rfl) ?_
      refine va_get (D := G.1) (ci := 5) (v := .ref ma0) (C := RX5) (T := TX5) (N := 6) hx hb hts hiX5 hown hK hP 0 rfl rfl 0 (by decide) (hts (.fieldLink RX5 10 "TideMill" "mill" "LTideMill$Mill;") (List.mem_of_getElem? (i := 5) rfl)) (fun _ h9 => h9) rfl dX5_take_75 ?_
      refine va_get (D := G.1) (ci := 1) (v := .ref ma3) (C := RX1) (T := TX1) (N := 7) hx hb hts hiX1 hown hK hP 1 rfl rfl 2 (by decide) (hts (.fieldLink RX5 119 "TideMill$Mill" "lots" "LTideMill$Lots;") (List.mem_of_getElem? (i := 8) rfl)) (fun _ h9 => h9) rfl dX5_take_78 ?_
      refine va_get (D := G.1) (ci := 0) (v := .ref mb4) (C := RX0) (T := TX0) (N := 7) hx hb hts hiX0 hown hK hP 7 rfl rfl 4 (by decide) (hts (.fieldLink RX5 145 "TideMill$Lots" "state" "[I") (List.mem_of_getElem? (i := 9) rfl)) (fun _ h9 => h9) rfl dX5_take_81 ?_
      refine lv_iload_n hx hb dX5_take_84 rfl (lv_at hl 0 rfl) ?_
      refine lv_iconst (v := 0) hx hb dX5_take_85 (by decide) ?_
      refine va_iast (n := 10) (f := sa) hx hb hK hP hD hS 12 0 rfl rfl n_6 dX5_take_86 (fun H locs hP hD hS => ?_)
      have hP : va_P G.1 vwCl [tc_X5 a0 ma0 ta0 lk rf pu to, tc_X1 ma0 ma1 ma2 ma3 ma4 fh lh ee, tc_X2 ma4 md0 md1 md2 md3 pn, tc_F G md0 3 dl, tc_I G md1 3 (upd pl p1.toNatClampNeg (-1)), tc_I G md2 3 dr, tc_I G md3 3 sp, tc_X0 ma3 mb0 mb1 mb2 mb3 mb4 mb5 ln, tc_I G mb0 10 ow, tc_I G mb1 10 gr, tc_I G mb2 10 we, tc_I G mb3 10 du, tc_I G mb4 10 (upd sa (pl p1.toNatClampNeg).toNatClampNeg 0), tc_D G mb5 10 le] H := hP
      have hD : va_D A [tc_X5 a0 ma0 ta0 lk rf pu to, tc_X1 ma0 ma1 ma2 ma3 ma4 fh lh ee, tc_X2 ma4 md0 md1 md2 md3 pn, tc_F G md0 3 dl, tc_I G md1 3 (upd pl p1.toNatClampNeg (-1)), tc_I G md2 3 dr, tc_I G md3 3 sp, tc_X0 ma3 mb0 mb1 mb2 mb3 mb4 mb5 ln, tc_I G mb0 10 ow, tc_I G mb1 10 gr, tc_I G mb2 10 we, tc_I G mb3 10 du, tc_I G mb4 10 (upd sa (pl p1.toNatClampNeg).toNatClampNeg 0), tc_D G mb5 10 le] := hD
      refine lv_iload_n hx hb dX5_take_87 rfl (lv_at hl 0 rfl) ?_
      have hP9 := hP.sub (ws' := [tc_X5 a0 ma0 ta0 lk rf pu to, tc_X1 ma0 ma1 ma2 ma3 ma4 fh lh ee, tc_X0 ma3 mb0 mb1 mb2 mb3 mb4 mb5 ln, tc_I G mb0 10 ow, tc_I G mb1 10 gr, tc_I G mb2 10 we, tc_I G mb3 10 du, tc_I G mb4 10 (upd sa (pl p1.toNatClampNeg).toNatClampNeg 0), tc_D G mb5 10 le, tc_X2 ma4 md0 md1 md2 md3 pn, tc_F G md0 3 dl, tc_I G md1 3 (upd pl p1.toNatClampNeg (-1)), tc_I G md2 3 dr, tc_I G md3 3 sp]) [0, 1, 7, 8, 9, 10, 11, 12, 13, 2, 3, 4, 5, 6] rfl
      have hD9 := hD.sub (ws' := [tc_X5 a0 ma0 ta0 lk rf pu to, tc_X1 ma0 ma1 ma2 ma3 ma4 fh lh ee, tc_X0 ma3 mb0 mb1 mb2 mb3 mb4 mb5 ln, tc_I G mb0 10 ow, tc_I G mb1 10 gr, tc_I G mb2 10 we, tc_I G mb3 10 du, tc_I G mb4 10 (upd sa (pl p1.toNatClampNeg).toNatClampNeg 0), tc_D G mb5 10 le, tc_X2 ma4 md0 md1 md2 md3 pn, tc_F G md0 3 dl, tc_I G md1 3 (upd pl p1.toNatClampNeg (-1)), tc_I G md2 3 dr, tc_I G md3 3 sp]) [0, 1, 7, 8, 9, 10, 11, 12, 13, 2, 3, 4, 5, 6] (by decide) rfl
      exact W.iret (v := pl p1.toNatClampNeg) hx hb hr (fun t ht hW => ⟨⟨pl p1.toNatClampNeg, (upd sa (pl p1.toNatClampNeg).toNatClampNeg 0, upd pl p1.toNatClampNeg (-1)), rfl, by unfold f_X5_take; all_goals rfl, by rw [ht]; exact hP9, hD9⟩, hS.F ht⟩) hS.2.2 dX5_take_88
    · exact absurd c_5 na_1
  · exact absurd c_2 na_0
set_option maxHeartbeats 4000000 in
set_option maxRecDepth 100000 in
theorem c_X5_dress (l : Launch) (G : tm_G) (a0 : Nat) (ma0 : Nat) (ta0 : Nat) (ma1 : Nat) (ma2 : Nat) (ma3 : Nat) (ma4 : Nat) (md0 : Nat) (md1 : Nat) (md2 : Nat) (md3 : Nat) (sz : Nat) (lk : Int32) (rf : Int32) (pu : Int32) (to : UInt64) (fh : Int32) (lh : Int32) (ee : Int32) (pn : Int32) (dl : Nat → UInt32) (pl : Nat → Int32) (dr : Nat → Int32) (sp : Nat → Int32) (p1 : Int32) (hn : n_X5_dress pn dl pl dr p1) : Met l yX5_dress wsX5_dress ({ frames := 1, cells := 0, slots := 0, locals := 22 }) (va_Pc [.ref a0, .int p1] (tm_B G [tc_X5 a0 ma0 ta0 lk rf pu to, tc_X1 ma0 ma1 ma2 ma3 ma4 fh lh ee, tc_X2 ma4 md0 md1 md2 md3 pn, tc_F G md0 3 dl, tc_I G md1 3 pl, tc_I G md2 3 dr, tc_I G md3 3 sp] sz)) (va_Qi (fun (r : Int32) (u : (Nat → Int32)) => (r, u) = f_X5_dress dl dr p1) (fun (u : (Nat → Int32)) (t : State) => va_P G.1 vwCl [tc_X5 a0 ma0 ta0 lk rf pu to, tc_X1 ma0 ma1 ma2 ma3 ma4 fh lh ee, tc_X2 ma4 md0 md1 md2 md3 pn, tc_F G md0 3 dl, tc_I G md1 3 pl, tc_I G md2 3 u, tc_I G md3 3 sp] t.heap ∧ va_D (va_A [tc_X5 a0 ma0 ta0 lk rf pu to, tc_X1 ma0 ma1 ma2 ma3 ma4 fh lh ee, tc_X2 ma4 md0 md1 md2 md3 pn, tc_F G md0 3 dl, tc_I G md1 3 pl, tc_I G md2 3 dr, tc_I G md3 3 sp] sz) [tc_X5 a0 ma0 ta0 lk rf pu to, tc_X1 ma0 ma1 ma2 ma3 ma4 fh lh ee, tc_X2 ma4 md0 md1 md2 md3 pn, tc_F G md0 3 dl, tc_I G md1 3 pl, tc_I G md2 3 u, tc_I G md3 3 sp]) (va_A [tc_X5 a0 ma0 ta0 lk rf pu to, tc_X1 ma0 ma1 ma2 ma3 ma4 fh lh ee, tc_X2 ma4 md0 md1 md2 md3 pn, tc_F G md0 3 dl, tc_I G md1 3 pl, tc_I G md2 3 dr, tc_I G md3 3 sp] sz)) 0 0 (va_A [tc_X5 a0 ma0 ta0 lk rf pu to, tc_X1 ma0 ma1 ma2 ma3 ma4 fh lh ee, tc_X2 ma4 md0 md1 md2 md3 pn, tc_F G md0 3 dl, tc_I G md1 3 pl, tc_I G md2 3 dr, tc_I G md3 3 sp] sz) := by
  refine Met.ofW (cc := cX5_dress) (maxL := 2) (ret := (some .int)) (by decide) rfl ?_
  intro p e s m args below meth c s₁ B hml hv
  obtain ⟨rfl, hsz, hP, hK, hD0, hN, hV⟩ := hv
  have hx := B.exec
  have hb := B.bytes
  have hr := B.returns
  have hts := atoms_spec (ws := wsX5_dress) B.pre
  have hown : s.vm.findClass RX5 = some m.cls := findClass_of_methodNamed B.named
  have hlocks := B.notSynchronized
  subst hsz
  obtain ⟨na_0, na_1, n_3, n_6, n_7, n_8⟩ := hn
  have hiX1 : ∀ w ∈ u_ws RX1 TX1 7, w ∈ wsX5_dress := fun _ h => List.mem_cons_of_mem _ (List.mem_append_left _ (List.mem_append_left _ (List.mem_append_left _ (List.mem_append_right _ h))))
  have hiX2 : ∀ w ∈ u_ws RX2 TX2 5, w ∈ wsX5_dress := fun _ h => List.mem_cons_of_mem _ (List.mem_append_left _ (List.mem_append_left _ (List.mem_append_right _ h)))
  have hiX5 : ∀ w ∈ u_ws RX5 TX5 6, w ∈ wsX5_dress := fun _ h => List.mem_cons_of_mem _ (List.mem_append_left _ (List.mem_append_left _ (List.mem_append_left _ (List.mem_append_left _ (List.mem_append_right _ h)))))
  have hD := hD0.self (sz := s.heap.size)
  generalize hAe : va_A [tc_X5 a0 ma0 ta0 lk rf pu to, tc_X1 ma0 ma1 ma2 ma3 ma4 fh lh ee, tc_X2 ma4 md0 md1 md2 md3 pn, tc_F G md0 3 dl, tc_I G md1 3 pl, tc_I G md2 3 dr, tc_I G md3 3 sp] s.heap.size = A at hD hV ⊢
  have hA : ∀ q : Nat, s.heap.size ≤ q → A q := fun q h => by rw [← hAe]; exact Or.inr h
  have hS : va_S A s.heap s.heap [] := va_S.rf
  have hl := lv_entry ([.ref a0, .int p1]) (n := 2) (Nat.le_of_ble_eq_true rfl)
  rw [lg_entry_eq]
  generalize (lg_sl ([.ref a0, .int p1]) ++ List.replicate (2 - (lg_sl ([.ref a0, .int p1])).length) Slot.unset).toArray = ls at hl ⊢
  have hl : lv_has ls 2 [(0, .ref a0), (1, .int p1)] := hl
  refine lv_aload_n hx hb dX5_dress_0 rfl (lv_at hl 0 rfl) ?_
  refine va_get (D := G.1) (ci := 5) (v := .ref ma0) (C := RX5) (T := TX5) (N := 6) hx hb hts hiX5 hown hK hP 0 rfl rfl 0 (by decide) (hts (.fieldLink RX5 10 "TideMill" "mill" "LTideMill$Mill;") (List.mem_of_getElem? (i := 5) rfl)) (fun _ h9 => h9) rfl dX5_dress_1 ?_
  refine va_get (D := G.1) (ci := 1) (v := .ref ma4) (C := RX1) (T := TX1) (N := 7) hx hb hts hiX1 hown hK hP 1 rfl rfl 3 (by decide) (hts (.fieldLink RX5 102 "TideMill$Mill" "pairs" "LTideMill$Pairs;") (List.mem_of_getElem? (i := 6) rfl)) (fun _ h9 => h9) rfl dX5_dress_4 ?_
  refine lv_iload_n hx hb dX5_dress_7 rfl (lv_at hl 1 rfl) ?_
  have hPc := hP.sub (ws' := [tc_X2 ma4 md0 md1 md2 md3 pn, tc_F G md0 3 dl, tc_I G md1 3 pl, tc_I G md2 3 dr, tc_I G md3 3 sp]) [2, 3, 4, 5, 6] rfl
  have hDc := hD.sub (ws' := [tc_X2 ma4 md0 md1 md2 md3 pn, tc_F G md0 3 dl, tc_I G md1 3 pl, tc_I G md2 3 dr, tc_I G md3 3 sp]) [2, 3, 4, 5, 6] (by decide) rfl
  have hFc := va_free (wc := [tc_X2 ma4 md0 md1 md2 md3 pn, tc_F G md0 3 dl, tc_I G md1 3 pl, tc_I G md2 3 dr, tc_I G md3 3 sp]) hD hS hA [2, 3, 4, 5, 6] rfl
  refine va_calli (va_runV (As := [.int p1]) (rest := []) ⟨hx, hb, hml, hown, hts⟩ (c_X2_has l G ma4 md0 md1 md2 md3 s.heap.size pn dl pl dr sp p1 ) (cwV 1 hts gX5_dress_X2_has rfl rfl rfl (by decide +kernel) ⟨(Nat.le_of_ble_eq_true rfl), (Nat.le_of_ble_eq_true rfl)⟩) (tm_preV hK hN hV hS hPc hDc hFc (va_recv hK hPc (ci := 2) (q0 := 0) rfl rfl)) rfl rfl hl.1 rfl (lv_room (Nat.le_of_ble_eq_true rfl)) dX5_dress_8 ⟨(Nat.le_of_ble_eq_true rfl), (Nat.le_of_ble_eq_true rfl)⟩) hS (fun q _ h => hFc q h) hFc (fun r_1 u t H locs ht hvm hw_1 hB hz1 hk1 hS => ?_)
  obtain ⟨hP1, hD1⟩ := hB
  rw [ht] at hP1
  try dsimp only at hw_1
  obtain ⟨hP, hD⟩ := va_join (wr := [tc_X5 a0 ma0 ta0 lk rf pu to, tc_X1 ma0 ma1 ma2 ma3 ma4 fh lh ee]) (w1 := [tc_X2 ma4 md0 md1 md2 md3 pn, tc_F G md0 3 dl, tc_I G md1 3 pl, tc_I G md2 3 dr, tc_I G md3 3 sp]) hP hD [2, 3, 4, 5, 6] [0, 1] rfl rfl (by decide) (by decide) hk1 hFc hP1 hD1
  have hP : va_P G.1 vwCl [tc_X5 a0 ma0 ta0 lk rf pu to, tc_X1 ma0 ma1 ma2 ma3 ma4 fh lh ee, tc_X2 ma4 md0 md1 md2 md3 pn, tc_F G md0 3 dl, tc_I G md1 3 pl, tc_I G md2 3 dr, tc_I G md3 3 sp] H := hP
  have hD : va_D A [tc_X5 a0 ma0 ta0 lk rf pu to, tc_X1 ma0 ma1 ma2 ma3 ma4 fh lh ee, tc_X2 ma4 md0 md1 md2 md3 pn, tc_F G md0 3 dl, tc_I G md1 3 pl, tc_I G md2 3 dr, tc_I G md3 3 sp] := hD
  subst hw_1
  refine lv_if_ne (tgt := 24) hx hb dX5_dress_11 (by decide) (fun c_2 => ?_) (fun c_2 => ?_)
  · refine lv_aload_n hx hb dX5_dress_24 rfl (lv_at hl 0 rfl) ?_
    refine va_get (D := G.1) (ci := 5) (v := .ref ma0) (C := RX5) (T := TX5) (N := 6) hx hb hts hiX5 hown hK hP 0 rfl rfl 0 (by decide) (hts (.fieldLink RX5 10 "TideMill" "mill" "LTideMill$Mill;") (List.mem_of_getElem? (i := 5) rfl)) (fun _ h9 => h9) rfl dX5_dress_25 ?_
    refine va_get (D := G.1) (ci := 1) (v := .ref ma4) (C := RX1) (T := TX1) (N := 7) hx hb hts hiX1 hown hK hP 1 rfl rfl 3 (by decide) (hts (.fieldLink RX5 102 "TideMill$Mill" "pairs" "LTideMill$Pairs;") (List.mem_of_getElem? (i := 6) rfl)) (fun _ h9 => h9) rfl dX5_dress_28 ?_
    refine lv_iload_n hx hb dX5_dress_31 rfl (lv_at hl 1 rfl) ?_
    have hPc := hP.sub (ws' := [tc_X2 ma4 md0 md1 md2 md3 pn, tc_F G md0 3 dl, tc_I G md1 3 pl, tc_I G md2 3 dr, tc_I G md3 3 sp]) [2, 3, 4, 5, 6] rfl
    have hDc := hD.sub (ws' := [tc_X2 ma4 md0 md1 md2 md3 pn, tc_F G md0 3 dl, tc_I G md1 3 pl, tc_I G md2 3 dr, tc_I G md3 3 sp]) [2, 3, 4, 5, 6] (by decide) rfl
    have hFc := va_free (wc := [tc_X2 ma4 md0 md1 md2 md3 pn, tc_F G md0 3 dl, tc_I G md1 3 pl, tc_I G md2 3 dr, tc_I G md3 3 sp]) hD hS hA [2, 3, 4, 5, 6] rfl
    refine va_calli (va_runV (As := [.int p1]) (rest := []) ⟨hx, hb, hml, hown, hts⟩ (c_X2_isFree l G ma4 md0 md1 md2 md3 H.size pn dl pl dr sp p1 n_3) (cwV 1 hts gX5_dress_X2_isFree rfl rfl rfl (by decide +kernel) ⟨(Nat.le_of_ble_eq_true rfl), (Nat.le_of_ble_eq_true rfl)⟩) (tm_preV hK hN hV hS hPc hDc hFc (va_recv hK hPc (ci := 2) (q0 := 0) rfl rfl)) rfl rfl hl.1 rfl (lv_room (Nat.le_of_ble_eq_true rfl)) dX5_dress_32 ⟨(Nat.le_of_ble_eq_true rfl), (Nat.le_of_ble_eq_true rfl)⟩) hS (fun q _ h => hFc q h) hFc (fun r_4 u t H locs ht hvm hw_4 hB hz1 hk1 hS => ?_)
    obtain ⟨hP1, hD1⟩ := hB
    rw [ht] at hP1
    try dsimp only at hw_4
    obtain ⟨hP, hD⟩ := va_join (wr := [tc_X5 a0 ma0 ta0 lk rf pu to, tc_X1 ma0 ma1 ma2 ma3 ma4 fh lh ee]) (w1 := [tc_X2 ma4 md0 md1 md2 md3 pn, tc_F G md0 3 dl, tc_I G md1 3 pl, tc_I G md2 3 dr, tc_I G md3 3 sp]) hP hD [2, 3, 4, 5, 6] [0, 1] rfl rfl (by decide) (by decide) hk1 hFc hP1 hD1
    have hP : va_P G.1 vwCl [tc_X5 a0 ma0 ta0 lk rf pu to, tc_X1 ma0 ma1 ma2 ma3 ma4 fh lh ee, tc_X2 ma4 md0 md1 md2 md3 pn, tc_F G md0 3 dl, tc_I G md1 3 pl, tc_I G md2 3 dr, tc_I G md3 3 sp] H := hP
    have hD : va_D A [tc_X5 a0 ma0 ta0 lk rf pu to, tc_X1 ma0 ma1 ma2 ma3 ma4 fh lh ee, tc_X2 ma4 md0 md1 md2 md3 pn, tc_F G md0 3 dl, tc_I G md1 3 pl, tc_I G md2 3 dr, tc_I G md3 3 sp] := hD
    subst hw_4
    refine lv_if_ne (tgt := 48) hx hb dX5_dress_35 (by decide) (fun c_5 => ?_) (fun c_5 => ?_)
    · refine lv_aload_n hx hb dX5_dress_48 rfl (lv_at hl 0 rfl) ?_
      refine va_get (D := G.1) (ci := 5) (v := .ref ma0) (C := RX5) (T := TX5) (N := 6) hx hb hts hiX5 hown hK hP 0 rfl rfl 0 (by decide) (hts (.fieldLink RX5 10 "TideMill" "mill" "LTideMill$Mill;") (List.mem_of_getElem? (i := 5) rfl)) (fun _ h9 => h9) rfl dX5_dress_49 ?_
      refine va_get (D := G.1) (ci := 1) (v := .ref ma4) (C := RX1) (T := TX1) (N := 7) hx hb hts hiX1 hown hK hP 1 rfl rfl 3 (by decide) (hts (.fieldLink RX5 102 "TideMill$Mill" "pairs" "LTideMill$Pairs;") (List.mem_of_getElem? (i := 6) rfl)) (fun _ h9 => h9) rfl dX5_dress_52 ?_
      refine va_get (D := G.1) (ci := 2) (v := .ref md2) (C := RX2) (T := TX2) (N := 5) hx hb hts hiX2 hown hK hP 2 rfl rfl 2 (by decide) (hts (.fieldLink RX5 166 "TideMill$Pairs" "dressing" "[I") (List.mem_of_getElem? (i := 7) rfl)) (fun _ h9 => h9) rfl dX5_dress_55 ?_
      refine lv_iload_n hx hb dX5_dress_58 rfl (lv_at hl 1 rfl) ?_
      refine lv_iconst (v := 3) hx hb dX5_dress_59 (by decide) ?_
      refine lv_ldc2d hx hb hown (hts (.constantDouble RX5 169 (4620693217682128896)) (List.mem_of_getElem? (i := 8) rfl)) dX5_dress_60 ?_
      refine lv_aload_n hx hb dX5_dress_63 rfl (lv_at hl 0 rfl) ?_
      refine va_get (D := G.1) (ci := 5) (v := .ref ma0) (C := RX5) (T := TX5) (N := 6) hx hb hts hiX5 hown hK hP 0 rfl rfl 0 (by decide) (hts (.fieldLink RX5 10 "TideMill" "mill" "LTideMill$Mill;") (List.mem_of_getElem? (i := 5) rfl)) (fun _ h9 => h9) rfl dX5_dress_64 ?_
      refine va_get (D := G.1) (ci := 1) (v := .ref ma4) (C := RX1) (T := TX1) (N := 7) hx hb hts hiX1 hown hK hP 1 rfl rfl 3 (by decide) (hts (.fieldLink RX5 102 "TideMill$Mill" "pairs" "LTideMill$Pairs;") (List.mem_of_getElem? (i := 6) rfl)) (fun _ h9 => h9) rfl dX5_dress_67 ?_
      refine va_get (D := G.1) (ci := 2) (v := .ref md0) (C := RX2) (T := TX2) (N := 5) hx hb hts hiX2 hown hK hP 2 rfl rfl 0 (by decide) (hts (.fieldLink RX5 171 "TideMill$Pairs" "dull" "[F") (List.mem_of_getElem? (i := 9) rfl)) (fun _ h9 => h9) rfl dX5_dress_70 ?_
      refine lv_iload_n hx hb dX5_dress_73 rfl (lv_at hl 1 rfl) ?_
      refine va_fald (n := 3) (f := dl) hx hb hK hP 3 2 rfl rfl n_6 dX5_dress_74 ?_
      refine lv_f2d hx hb dX5_dress_75 n_7 ?_
      refine lv_dmul hx hb dX5_dress_76 n_8 ?_
      have hPc := hP.sub (ws' := []) [] rfl
      have hDc := hD.sub (ws' := []) [] (by decide) rfl
      have hFc := va_free (wc := []) hD hS hA [] rfl
      refine va_calli (va_runS (As := [.double (FP.dmul 4620693217682128896 (FP.f2d (dl p1.toNatClampNeg)))]) (rest := [.int 3, .int p1, .ref md2]) ⟨hx, hb, hml, hown, hts⟩ (c_X5_roundedUp l G  H.size (FP.dmul 4620693217682128896 (FP.f2d (dl p1.toNatClampNeg))) ) (cwS 1 hts gX5_dress_X5_roundedUp rfl rfl rfl (by decide +kernel) ⟨(Nat.le_of_ble_eq_true rfl), (Nat.le_of_ble_eq_true rfl)⟩) (tm_preS hK hN hV hS hPc hDc hFc) rfl rfl hl.1 rfl (lv_room (Nat.le_of_ble_eq_true rfl)) dX5_dress_77 ⟨(Nat.le_of_ble_eq_true rfl), (Nat.le_of_ble_eq_true rfl)⟩) hS (fun q _ h => hFc q h) hFc (fun r_9 u t H locs ht hvm hw_9 hB hz1 hk1 hS => ?_)
      obtain ⟨hP1, hD1⟩ := hB
      rw [ht] at hP1
      try dsimp only at hw_9
      obtain ⟨hP, hD⟩ := va_join (wr := [tc_X5 a0 ma0 ta0 lk rf pu to, tc_X1 ma0 ma1 ma2 ma3 ma4 fh lh ee, tc_X2 ma4 md0 md1 md2 md3 pn, tc_F G md0 3 dl, tc_I G md1 3 pl, tc_I G md2 3 dr, tc_I G md3 3 sp]) (w1 := []) hP hD [] [0, 1, 2, 3, 4, 5, 6] rfl rfl (by decide) (by decide) hk1 hFc hP1 hD1
      have hP : va_P G.1 vwCl [tc_X5 a0 ma0 ta0 lk rf pu to, tc_X1 ma0 ma1 ma2 ma3 ma4 fh lh ee, tc_X2 ma4 md0 md1 md2 md3 pn, tc_F G md0 3 dl, tc_I G md1 3 pl, tc_I G md2 3 dr, tc_I G md3 3 sp] H := hP
      have hD : va_D A [tc_X5 a0 ma0 ta0 lk rf pu to, tc_X1 ma0 ma1 ma2 ma3 ma4 fh lh ee, tc_X2 ma4 md0 md1 md2 md3 pn, tc_F G md0 3 dl, tc_I G md1 3 pl, tc_I G md2 3 dr, tc_I G md3 3 sp] := hD
      subst hw_9
      refine lv_iadd hx hb dX5_dress_80 ?_
      refine va_iast (n := 3) (f := dr) hx hb hK hP hD hS 5 0 rfl rfl n_6 dX5_dress_81 (fun H locs hP hD hS => ?_)
      have hP : va_P G.1 vwCl [tc_X5 a0 ma0 ta0 lk rf pu to, tc_X1 ma0 ma1 ma2 ma3 ma4 fh lh ee, tc_X2 ma4 md0 md1 md2 md3 pn, tc_F G md0 3 dl, tc_I G md1 3 pl, tc_I G md2 3 (upd dr p1.toNatClampNeg (3 + (f_X5_roundedUp (FP.dmul 4620693217682128896 (FP.f2d (dl p1.toNatClampNeg)))))), tc_I G md3 3 sp] H := hP
      have hD : va_D A [tc_X5 a0 ma0 ta0 lk rf pu to, tc_X1 ma0 ma1 ma2 ma3 ma4 fh lh ee, tc_X2 ma4 md0 md1 md2 md3 pn, tc_F G md0 3 dl, tc_I G md1 3 pl, tc_I G md2 3 (upd dr p1.toNatClampNeg (3 + (f_X5_roundedUp (FP.dmul 4620693217682128896 (FP.f2d (dl p1.toNatClampNeg)))))), tc_I G md3 3 sp] := hD
      refine lv_aload_n hx hb dX5_dress_82 rfl (lv_at hl 0 rfl) ?_
      refine va_get (D := G.1) (ci := 5) (v := .ref ma0) (C := RX5) (T := TX5) (N := 6) hx hb hts hiX5 hown hK hP 0 rfl rfl 0 (by decide) (hts (.fieldLink RX5 10 "TideMill" "mill" "LTideMill$Mill;") (List.mem_of_getElem? (i := 5) rfl)) (fun _ h9 => h9) rfl dX5_dress_83 ?_
      refine va_get (D := G.1) (ci := 1) (v := .ref ma4) (C := RX1) (T := TX1) (N := 7) hx hb hts hiX1 hown hK hP 1 rfl rfl 3 (by decide) (hts (.fieldLink RX5 102 "TideMill$Mill" "pairs" "LTideMill$Pairs;") (List.mem_of_getElem? (i := 6) rfl)) (fun _ h9 => h9) rfl dX5_dress_86 ?_
      refine va_get (D := G.1) (ci := 2) (v := .ref md2) (C := RX2) (T := TX2) (N := 5) hx hb hts hiX2 hown hK hP 2 rfl rfl 2 (by decide) (hts (.fieldLink RX5 166 "TideMill$Pairs" "dressing" "[I") (List.mem_of_getElem? (i := 7) rfl)) (fun _ h9 => h9) rfl dX5_dress_89 ?_
      refine lv_iload_n hx hb dX5_dress_92 rfl (lv_at hl 1 rfl) ?_
      refine va_iald (n := 3) (f := upd dr p1.toNatClampNeg (3 + (f_X5_roundedUp (FP.dmul 4620693217682128896 (FP.f2d (dl p1.toNatClampNeg)))))) hx hb hK hP 5 0 rfl rfl n_6 dX5_dress_93 ?_
      have hP9 := hP.sub (ws' := [tc_X5 a0 ma0 ta0 lk rf pu to, tc_X1 ma0 ma1 ma2 ma3 ma4 fh lh ee, tc_X2 ma4 md0 md1 md2 md3 pn, tc_F G md0 3 dl, tc_I G md1 3 pl, tc_I G md2 3 (upd dr p1.toNatClampNeg (3 + (f_X5_roundedUp (FP.dmul 4620693217682128896 (FP.f2d (dl p1.toNatClampNeg)))))), tc_I G md3 3 sp]) [0, 1, 2, 3, 4, 5, 6] rfl
      have hD9 := hD.sub (ws' := [tc_X5 a0 ma0 ta0 lk rf pu to, tc_X1 ma0 ma1 ma2 ma3 ma4 fh lh ee, tc_X2 ma4 md0 md1 md2 md3 pn, tc_F G md0 3 dl, tc_I G md1 3 pl, tc_I G md2 3 (upd dr p1.toNatClampNeg (3 + (f_X5_roundedUp (FP.dmul 4620693217682128896 (FP.f2d (dl p1.toNatClampNeg)))))), tc_I G md3 3 sp]) [0, 1, 2, 3, 4, 5, 6] (by decide) rfl
      exact W.iret (v := (upd dr p1.toNatClampNeg (3 + (f_X5_roundedUp (FP.dmul 4620693217682128896 (FP.f2d (dl p1.toNatClampNeg)))))) p1.toNatClampNeg) hx hb hr (fun t ht hW => ⟨⟨(upd dr p1.toNatClampNeg (3 + (f_X5_roundedUp (FP.dmul 4620693217682128896 (FP.f2d (dl p1.toNatClampNeg)))))) p1.toNatClampNeg, (upd dr p1.toNatClampNeg (3 + (f_X5_roundedUp (FP.dmul 4620693217682128896 (FP.f2d (dl p1.toNatClampNeg)))))), rfl, by unfold f_X5_dress; all_goals rfl, by rw [ht]; exact hP9, hD9⟩, hS.F ht⟩) hS.2.2 dX5_dress_94
    · exact absurd c_5 na_1
  · exact absurd c_2 na_0
set_option maxHeartbeats 4000000 in
set_option maxRecDepth 100000 in
theorem c_X5_give (l : Launch) (G : tm_G) (a0 : Nat) (ma0 : Nat) (ta0 : Nat) (ma1 : Nat) (ma2 : Nat) (ma3 : Nat) (ma4 : Nat) (mb0 : Nat) (mb1 : Nat) (mb2 : Nat) (mb3 : Nat) (mb4 : Nat) (mb5 : Nat) (sz : Nat) (lk : Int32) (rf : Int32) (pu : Int32) (to : UInt64) (fh : Int32) (lh : Int32) (ee : Int32) (tk : Int32) (mo : Int32) (su : UInt64) (ln : Int32) (ow : Nat → Int32) (gr : Nat → Int32) (we : Nat → Int32) (du : Nat → Int32) (sa : Nat → Int32) (le : Nat → UInt64) (p1 : Int32) (hn : n_X5_give to ln we sa p1) : Met l yX5_give wsX5_give ({ frames := 1, cells := 0, slots := 0, locals := 24 }) (va_Pc [.ref a0, .int p1] (tm_B G [tc_X5 a0 ma0 ta0 lk rf pu to, tc_X1 ma0 ma1 ma2 ma3 ma4 fh lh ee, tc_X4 ma1 tk mo su, tc_X0 ma3 mb0 mb1 mb2 mb3 mb4 mb5 ln, tc_I G mb0 10 ow, tc_I G mb1 10 gr, tc_I G mb2 10 we, tc_I G mb3 10 du, tc_I G mb4 10 sa, tc_D G mb5 10 le] sz)) (va_Qi (fun (r : Int32) (u : Int32 × UInt64 × (Nat → Int32)) => (r, u) = f_X5_give pu to tk gr we du sa p1) (fun (u : Int32 × UInt64 × (Nat → Int32)) (t : State) => va_P G.1 vwCl [tc_X5 a0 ma0 ta0 lk rf u.1 u.2.1, tc_X1 ma0 ma1 ma2 ma3 ma4 fh lh ee, tc_X4 ma1 tk mo su, tc_X0 ma3 mb0 mb1 mb2 mb3 mb4 mb5 ln, tc_I G mb0 10 ow, tc_I G mb1 10 gr, tc_I G mb2 10 we, tc_I G mb3 10 du, tc_I G mb4 10 u.2.2, tc_D G mb5 10 le] t.heap ∧ va_D (va_A [tc_X5 a0 ma0 ta0 lk rf pu to, tc_X1 ma0 ma1 ma2 ma3 ma4 fh lh ee, tc_X4 ma1 tk mo su, tc_X0 ma3 mb0 mb1 mb2 mb3 mb4 mb5 ln, tc_I G mb0 10 ow, tc_I G mb1 10 gr, tc_I G mb2 10 we, tc_I G mb3 10 du, tc_I G mb4 10 sa, tc_D G mb5 10 le] sz) [tc_X5 a0 ma0 ta0 lk rf u.1 u.2.1, tc_X1 ma0 ma1 ma2 ma3 ma4 fh lh ee, tc_X4 ma1 tk mo su, tc_X0 ma3 mb0 mb1 mb2 mb3 mb4 mb5 ln, tc_I G mb0 10 ow, tc_I G mb1 10 gr, tc_I G mb2 10 we, tc_I G mb3 10 du, tc_I G mb4 10 u.2.2, tc_D G mb5 10 le]) (va_A [tc_X5 a0 ma0 ta0 lk rf pu to, tc_X1 ma0 ma1 ma2 ma3 ma4 fh lh ee, tc_X4 ma1 tk mo su, tc_X0 ma3 mb0 mb1 mb2 mb3 mb4 mb5 ln, tc_I G mb0 10 ow, tc_I G mb1 10 gr, tc_I G mb2 10 we, tc_I G mb3 10 du, tc_I G mb4 10 sa, tc_D G mb5 10 le] sz)) 0 0 (va_A [tc_X5 a0 ma0 ta0 lk rf pu to, tc_X1 ma0 ma1 ma2 ma3 ma4 fh lh ee, tc_X4 ma1 tk mo su, tc_X0 ma3 mb0 mb1 mb2 mb3 mb4 mb5 ln, tc_I G mb0 10 ow, tc_I G mb1 10 gr, tc_I G mb2 10 we, tc_I G mb3 10 du, tc_I G mb4 10 sa, tc_D G mb5 10 le] sz) := by
  refine Met.ofW (cc := cX5_give) (maxL := 5) (ret := (some .int)) (by decide) rfl ?_
  intro p e s m args below meth c s₁ B hml hv
  obtain ⟨rfl, hsz, hP, hK, hD0, hN, hV⟩ := hv
  have hx := B.exec
  have hb := B.bytes
  have hr := B.returns
  have hts := atoms_spec (ws := wsX5_give) B.pre
  have hown : s.vm.findClass RX5 = some m.cls := findClass_of_methodNamed B.named
  have hlocks := B.notSynchronized
  subst hsz
  obtain ⟨na_0, na_1, n_3, n_7, n_8⟩ := hn
  have hiX0 : ∀ w ∈ u_ws RX0 TX0 7, w ∈ wsX5_give := fun _ h => List.mem_cons_of_mem _ (List.mem_append_left _ (List.mem_append_left _ (List.mem_append_left _ (List.mem_append_right _ h))))
  have hiX1 : ∀ w ∈ u_ws RX1 TX1 7, w ∈ wsX5_give := fun _ h => List.mem_cons_of_mem _ (List.mem_append_left _ (List.mem_append_left _ (List.mem_append_left _ (List.mem_append_left _ (List.mem_append_right _ h)))))
  have hiX5 : ∀ w ∈ u_ws RX5 TX5 6, w ∈ wsX5_give := fun _ h => List.mem_cons_of_mem _ (List.mem_append_left _ (List.mem_append_left _ (List.mem_append_left _ (List.mem_append_left _ (List.mem_append_left _ (List.mem_append_right _ h))))))
  have hD := hD0.self (sz := s.heap.size)
  generalize hAe : va_A [tc_X5 a0 ma0 ta0 lk rf pu to, tc_X1 ma0 ma1 ma2 ma3 ma4 fh lh ee, tc_X4 ma1 tk mo su, tc_X0 ma3 mb0 mb1 mb2 mb3 mb4 mb5 ln, tc_I G mb0 10 ow, tc_I G mb1 10 gr, tc_I G mb2 10 we, tc_I G mb3 10 du, tc_I G mb4 10 sa, tc_D G mb5 10 le] s.heap.size = A at hD hV ⊢
  have hA : ∀ q : Nat, s.heap.size ≤ q → A q := fun q h => by rw [← hAe]; exact Or.inr h
  have hS : va_S A s.heap s.heap [] := va_S.rf
  have hl := lv_entry ([.ref a0, .int p1]) (n := 5) (Nat.le_of_ble_eq_true rfl)
  rw [lg_entry_eq]
  generalize (lg_sl ([.ref a0, .int p1]) ++ List.replicate (5 - (lg_sl ([.ref a0, .int p1])).length) Slot.unset).toArray = ls at hl ⊢
  have hl : lv_has ls 5 [(0, .ref a0), (1, .int p1)] := hl
  refine lv_aload_n hx hb dX5_give_0 rfl (lv_at hl 0 rfl) ?_
  refine va_get (D := G.1) (ci := 5) (v := .ref ma0) (C := RX5) (T := TX5) (N := 6) hx hb hts hiX5 hown hK hP 0 rfl rfl 0 (by decide) (hts (.fieldLink RX5 10 "TideMill" "mill" "LTideMill$Mill;") (List.mem_of_getElem? (i := 5) rfl)) (fun _ h9 => h9) rfl dX5_give_1 ?_
  refine va_get (D := G.1) (ci := 1) (v := .ref ma3) (C := RX1) (T := TX1) (N := 7) hx hb hts hiX1 hown hK hP 1 rfl rfl 2 (by decide) (hts (.fieldLink RX5 119 "TideMill$Mill" "lots" "LTideMill$Lots;") (List.mem_of_getElem? (i := 6) rfl)) (fun _ h9 => h9) rfl dX5_give_4 ?_
  refine lv_iload_n hx hb dX5_give_7 rfl (lv_at hl 1 rfl) ?_
  have hPc := hP.sub (ws' := [tc_X0 ma3 mb0 mb1 mb2 mb3 mb4 mb5 ln, tc_I G mb0 10 ow, tc_I G mb1 10 gr, tc_I G mb2 10 we, tc_I G mb3 10 du, tc_I G mb4 10 sa, tc_D G mb5 10 le]) [3, 4, 5, 6, 7, 8, 9] rfl
  have hDc := hD.sub (ws' := [tc_X0 ma3 mb0 mb1 mb2 mb3 mb4 mb5 ln, tc_I G mb0 10 ow, tc_I G mb1 10 gr, tc_I G mb2 10 we, tc_I G mb3 10 du, tc_I G mb4 10 sa, tc_D G mb5 10 le]) [3, 4, 5, 6, 7, 8, 9] (by decide) rfl
  have hFc := va_free (wc := [tc_X0 ma3 mb0 mb1 mb2 mb3 mb4 mb5 ln, tc_I G mb0 10 ow, tc_I G mb1 10 gr, tc_I G mb2 10 we, tc_I G mb3 10 du, tc_I G mb4 10 sa, tc_D G mb5 10 le]) hD hS hA [3, 4, 5, 6, 7, 8, 9] rfl
  refine va_calli (va_runV (As := [.int p1]) (rest := []) ⟨hx, hb, hml, hown, hts⟩ (c_X0_has l G ma3 mb0 mb1 mb2 mb3 mb4 mb5 s.heap.size ln ow gr we du sa le p1 ) (cwV 1 hts gX5_give_X0_has rfl rfl rfl (by decide +kernel) ⟨(Nat.le_of_ble_eq_true rfl), (Nat.le_of_ble_eq_true rfl)⟩) (tm_preV hK hN hV hS hPc hDc hFc (va_recv hK hPc (ci := 0) (q0 := 0) rfl rfl)) rfl rfl hl.1 rfl (lv_room (Nat.le_of_ble_eq_true rfl)) dX5_give_8 ⟨(Nat.le_of_ble_eq_true rfl), (Nat.le_of_ble_eq_true rfl)⟩) hS (fun q _ h => hFc q h) hFc (fun r_1 u t H locs ht hvm hw_1 hB hz1 hk1 hS => ?_)
  obtain ⟨hP1, hD1⟩ := hB
  rw [ht] at hP1
  try dsimp only at hw_1
  obtain ⟨hP, hD⟩ := va_join (wr := [tc_X5 a0 ma0 ta0 lk rf pu to, tc_X1 ma0 ma1 ma2 ma3 ma4 fh lh ee, tc_X4 ma1 tk mo su]) (w1 := [tc_X0 ma3 mb0 mb1 mb2 mb3 mb4 mb5 ln, tc_I G mb0 10 ow, tc_I G mb1 10 gr, tc_I G mb2 10 we, tc_I G mb3 10 du, tc_I G mb4 10 sa, tc_D G mb5 10 le]) hP hD [3, 4, 5, 6, 7, 8, 9] [0, 1, 2] rfl rfl (by decide) (by decide) hk1 hFc hP1 hD1
  have hP : va_P G.1 vwCl [tc_X5 a0 ma0 ta0 lk rf pu to, tc_X1 ma0 ma1 ma2 ma3 ma4 fh lh ee, tc_X4 ma1 tk mo su, tc_X0 ma3 mb0 mb1 mb2 mb3 mb4 mb5 ln, tc_I G mb0 10 ow, tc_I G mb1 10 gr, tc_I G mb2 10 we, tc_I G mb3 10 du, tc_I G mb4 10 sa, tc_D G mb5 10 le] H := hP
  have hD : va_D A [tc_X5 a0 ma0 ta0 lk rf pu to, tc_X1 ma0 ma1 ma2 ma3 ma4 fh lh ee, tc_X4 ma1 tk mo su, tc_X0 ma3 mb0 mb1 mb2 mb3 mb4 mb5 ln, tc_I G mb0 10 ow, tc_I G mb1 10 gr, tc_I G mb2 10 we, tc_I G mb3 10 du, tc_I G mb4 10 sa, tc_D G mb5 10 le] := hD
  subst hw_1
  refine lv_if_ne (tgt := 24) hx hb dX5_give_11 (by decide) (fun c_2 => ?_) (fun c_2 => ?_)
  · refine lv_aload_n hx hb dX5_give_24 rfl (lv_at hl 0 rfl) ?_
    refine va_get (D := G.1) (ci := 5) (v := .ref ma0) (C := RX5) (T := TX5) (N := 6) hx hb hts hiX5 hown hK hP 0 rfl rfl 0 (by decide) (hts (.fieldLink RX5 10 "TideMill" "mill" "LTideMill$Mill;") (List.mem_of_getElem? (i := 5) rfl)) (fun _ h9 => h9) rfl dX5_give_25 ?_
    refine va_get (D := G.1) (ci := 1) (v := .ref ma3) (C := RX1) (T := TX1) (N := 7) hx hb hts hiX1 hown hK hP 1 rfl rfl 2 (by decide) (hts (.fieldLink RX5 119 "TideMill$Mill" "lots" "LTideMill$Lots;") (List.mem_of_getElem? (i := 6) rfl)) (fun _ h9 => h9) rfl dX5_give_28 ?_
    refine va_get (D := G.1) (ci := 0) (v := .ref mb4) (C := RX0) (T := TX0) (N := 7) hx hb hts hiX0 hown hK hP 3 rfl rfl 4 (by decide) (hts (.fieldLink RX5 145 "TideMill$Lots" "state" "[I") (List.mem_of_getElem? (i := 7) rfl)) (fun _ h9 => h9) rfl dX5_give_31 ?_
    refine lv_iload_n hx hb dX5_give_34 rfl (lv_at hl 1 rfl) ?_
    refine va_iald (n := 10) (f := sa) hx hb hK hP 8 0 rfl rfl n_3 dX5_give_35 ?_
    refine lv_iconst (v := 2) hx hb dX5_give_36 (by decide) ?_
    refine lv_icmp_eq (tgt := 50) hx hb dX5_give_37 (by decide) (fun c_4 => ?_) (fun c_4 => ?_)
    · refine lv_aload_n hx hb dX5_give_50 rfl (lv_at hl 0 rfl) ?_
      refine va_get (D := G.1) (ci := 5) (v := .ref ma0) (C := RX5) (T := TX5) (N := 6) hx hb hts hiX5 hown hK hP 0 rfl rfl 0 (by decide) (hts (.fieldLink RX5 10 "TideMill" "mill" "LTideMill$Mill;") (List.mem_of_getElem? (i := 5) rfl)) (fun _ h9 => h9) rfl dX5_give_51 ?_
      refine va_get (D := G.1) (ci := 1) (v := .ref ma3) (C := RX1) (T := TX1) (N := 7) hx hb hts hiX1 hown hK hP 1 rfl rfl 2 (by decide) (hts (.fieldLink RX5 119 "TideMill$Mill" "lots" "LTideMill$Lots;") (List.mem_of_getElem? (i := 6) rfl)) (fun _ h9 => h9) rfl dX5_give_54 ?_
      refine va_get (D := G.1) (ci := 0) (v := .ref mb2) (C := RX0) (T := TX0) (N := 7) hx hb hts hiX0 hown hK hP 3 rfl rfl 2 (by decide) (hts (.fieldLink RX5 183 "TideMill$Lots" "weight" "[I") (List.mem_of_getElem? (i := 8) rfl)) (fun _ h9 => h9) rfl dX5_give_57 ?_
      refine lv_iload_n hx hb dX5_give_60 rfl (lv_at hl 1 rfl) ?_
      refine va_iald (n := 10) (f := we) hx hb hK hP 6 0 rfl rfl n_3 dX5_give_61 ?_
      refine lv_istore_n (lv' := [(2, .int (we p1.toNatClampNeg)), (0, .ref a0), (1, .int p1)]) hx hb dX5_give_62 rfl hl (by decide) rfl (fun ls hl => ?_)
      refine lv_iconst (v := 0) hx hb dX5_give_63 (by decide) ?_
      refine lv_aload_n hx hb dX5_give_64 rfl (lv_at hl 1 rfl) ?_
      refine va_get (D := G.1) (ci := 5) (v := .ref ma0) (C := RX5) (T := TX5) (N := 6) hx hb hts hiX5 hown hK hP 0 rfl rfl 0 (by decide) (hts (.fieldLink RX5 10 "TideMill" "mill" "LTideMill$Mill;") (List.mem_of_getElem? (i := 5) rfl)) (fun _ h9 => h9) rfl dX5_give_65 ?_
      refine va_get (D := G.1) (ci := 1) (v := .ref ma1) (C := RX1) (T := TX1) (N := 7) hx hb hts hiX1 hown hK hP 1 rfl rfl 0 (by decide) (hts (.fieldLink RX5 30 "TideMill$Mill" "sea" "LTideMill$Sea;") (List.mem_of_getElem? (i := 9) rfl)) (fun _ h9 => h9) rfl dX5_give_68 ?_
      have hPc := hP.sub (ws' := [tc_X4 ma1 tk mo su]) [2] rfl
      have hDc := hD.sub (ws' := [tc_X4 ma1 tk mo su]) [2] (by decide) rfl
      have hFc := va_free (wc := [tc_X4 ma1 tk mo su]) hD hS hA [2] rfl
      refine va_calli (va_runV (As := []) (rest := [.int 0]) ⟨hx, hb, hml, hown, hts⟩ (c_X4_today l G ma1 H.size tk mo su ) (cwV 0 hts gX5_give_X4_today rfl rfl rfl (by decide +kernel) ⟨(Nat.le_of_ble_eq_true rfl), (Nat.le_of_ble_eq_true rfl)⟩) (tm_preV hK hN hV hS hPc hDc hFc (va_recv hK hPc (ci := 4) (q0 := 0) rfl rfl)) rfl rfl hl.1 rfl (lv_room (Nat.le_of_ble_eq_true rfl)) dX5_give_71 ⟨(Nat.le_of_ble_eq_true rfl), (Nat.le_of_ble_eq_true rfl)⟩) hS (fun q _ h => hFc q h) hFc (fun r_5 u t H locs ht hvm hw_5 hB hz1 hk1 hS => ?_)
      obtain ⟨hP1, hD1⟩ := hB
      rw [ht] at hP1
      try dsimp only at hw_5
      obtain ⟨hP, hD⟩ := va_join (wr := [tc_X5 a0 ma0 ta0 lk rf pu to, tc_X1 ma0 ma1 ma2 ma3 ma4 fh lh ee, tc_X0 ma3 mb0 mb1 mb2 mb3 mb4 mb5 ln, tc_I G mb0 10 ow, tc_I G mb1 10 gr, tc_I G mb2 10 we, tc_I G mb3 10 du, tc_I G mb4 10 sa, tc_D G mb5 10 le]) (w1 := [tc_X4 ma1 tk mo su]) hP hD [2] [0, 1, 3, 4, 5, 6, 7, 8, 9] rfl rfl (by decide) (by decide) hk1 hFc hP1 hD1
      have hP : va_P G.1 vwCl [tc_X5 a0 ma0 ta0 lk rf pu to, tc_X1 ma0 ma1 ma2 ma3 ma4 fh lh ee, tc_X0 ma3 mb0 mb1 mb2 mb3 mb4 mb5 ln, tc_I G mb0 10 ow, tc_I G mb1 10 gr, tc_I G mb2 10 we, tc_I G mb3 10 du, tc_I G mb4 10 sa, tc_D G mb5 10 le, tc_X4 ma1 tk mo su] H := hP
      have hD : va_D A [tc_X5 a0 ma0 ta0 lk rf pu to, tc_X1 ma0 ma1 ma2 ma3 ma4 fh lh ee, tc_X0 ma3 mb0 mb1 mb2 mb3 mb4 mb5 ln, tc_I G mb0 10 ow, tc_I G mb1 10 gr, tc_I G mb2 10 we, tc_I G mb3 10 du, tc_I G mb4 10 sa, tc_D G mb5 10 le, tc_X4 ma1 tk mo su] := hD
      subst hw_5
      refine lv_aload_n hx hb dX5_give_74 rfl (lv_at hl 1 rfl) ?_
      refine va_get (D := G.1) (ci := 5) (v := .ref ma0) (C := RX5) (T := TX5) (N := 6) hx hb hts hiX5 hown hK hP 0 rfl rfl 0 (by decide) (hts (.fieldLink RX5 10 "TideMill" "mill" "LTideMill$Mill;") (List.mem_of_getElem? (i := 5) rfl)) (fun _ h9 => h9) rfl dX5_give_75 ?_
      refine va_get (D := G.1) (ci := 1) (v := .ref ma3) (C := RX1) (T := TX1) (N := 7) hx hb hts hiX1 hown hK hP 1 rfl rfl 2 (by decide) (hts (.fieldLink RX5 119 "TideMill$Mill" "lots" "LTideMill$Lots;") (List.mem_of_getElem? (i := 6) rfl)) (fun _ h9 => h9) rfl dX5_give_78 ?_
      refine va_get (D := G.1) (ci := 0) (v := .ref mb3) (C := RX0) (T := TX0) (N := 7) hx hb hts hiX0 hown hK hP 2 rfl rfl 3 (by decide) (hts (.fieldLink RX5 186 "TideMill$Lots" "dueDay" "[I") (List.mem_of_getElem? (i := 10) rfl)) (fun _ h9 => h9) rfl dX5_give_81 ?_
      refine lv_iload_n hx hb dX5_give_84 rfl (lv_at hl 2 rfl) ?_
      refine va_iald (n := 10) (f := du) hx hb hK hP 6 0 rfl rfl n_3 dX5_give_85 ?_
      refine lv_isub hx hb dX5_give_86 ?_
      refine va_mmax hx hb (by rw [hml]; exact hl.1.symm) hown (hts (.methodLink RX5 189 Lib.Math.max.name) (List.mem_of_getElem? (i := 11) rfl)) (hts (.static Lib.Math.max.name) (List.mem_of_getElem? (i := 12) rfl)) (hts (.initialized "java/lang/Math") (List.mem_of_getElem? (i := 13) rfl)) (hts (.code Lib.Math.max.name Lib.Math.max.code 2 (some .int)) (List.mem_of_getElem? (i := 14) rfl)) (Nat.le_of_ble_eq_true rfl) (Nat.le_of_ble_eq_true rfl) (Nat.le_of_ble_eq_true rfl) (Nat.le_of_ble_eq_true rfl) dX5_give_87 ?_
      refine lv_istore_n (lv' := [(3, .int (if 0 < ((f_X4_today tk) - (du p1.toNatClampNeg)) then ((f_X4_today tk) - (du p1.toNatClampNeg)) else 0)), (2, .int (we p1.toNatClampNeg)), (0, .ref a0), (1, .int p1)]) hx hb dX5_give_90 rfl hl (by decide) rfl (fun ls hl => ?_)
      refine lv_iload_n hx hb dX5_give_91 rfl (lv_at hl 1 rfl) ?_
      refine lv_aload_n hx hb dX5_give_92 rfl (lv_at hl 2 rfl) ?_
      refine va_get (D := G.1) (ci := 5) (v := .ref ma0) (C := RX5) (T := TX5) (N := 6) hx hb hts hiX5 hown hK hP 0 rfl rfl 0 (by decide) (hts (.fieldLink RX5 10 "TideMill" "mill" "LTideMill$Mill;") (List.mem_of_getElem? (i := 5) rfl)) (fun _ h9 => h9) rfl dX5_give_93 ?_
      refine va_get (D := G.1) (ci := 1) (v := .ref ma3) (C := RX1) (T := TX1) (N := 7) hx hb hts hiX1 hown hK hP 1 rfl rfl 2 (by decide) (hts (.fieldLink RX5 119 "TideMill$Mill" "lots" "LTideMill$Lots;") (List.mem_of_getElem? (i := 6) rfl)) (fun _ h9 => h9) rfl dX5_give_96 ?_
      refine va_get (D := G.1) (ci := 0) (v := .ref mb1) (C := RX0) (T := TX0) (N := 7) hx hb hts hiX0 hown hK hP 2 rfl rfl 1 (by decide) (hts (.fieldLink RX5 195 "TideMill$Lots" "grain" "[I") (List.mem_of_getElem? (i := 15) rfl)) (fun _ h9 => h9) rfl dX5_give_99 ?_
      refine lv_iload_n hx hb dX5_give_102 rfl (lv_at hl 3 rfl) ?_
      refine va_iald (n := 10) (f := gr) hx hb hK hP 4 0 rfl rfl n_3 dX5_give_103 ?_
      have hPc := hP.sub (ws' := []) [] rfl
      have hDc := hD.sub (ws' := []) [] (by decide) rfl
      have hFc := va_free (wc := []) hD hS hA [] rfl
      refine va_calli (va_runS (As := [.int (gr p1.toNatClampNeg)]) (rest := [.int (we p1.toNatClampNeg)]) ⟨hx, hb, hml, hown, hts⟩ (c_X5_priceOf l G  H.size (gr p1.toNatClampNeg) ) (cwS 1 hts gX5_give_X5_priceOf rfl rfl rfl (by decide +kernel) ⟨(Nat.le_of_ble_eq_true rfl), (Nat.le_of_ble_eq_true rfl)⟩) (tm_preS hK hN hV hS hPc hDc hFc) rfl rfl hl.1 rfl (lv_room (Nat.le_of_ble_eq_true rfl)) dX5_give_104 ⟨(Nat.le_of_ble_eq_true rfl), (Nat.le_of_ble_eq_true rfl)⟩) hS (fun q _ h => hFc q h) hFc (fun r_6 u t H locs ht hvm hw_6 hB hz1 hk1 hS => ?_)
      obtain ⟨hP1, hD1⟩ := hB
      rw [ht] at hP1
      try dsimp only at hw_6
      obtain ⟨hP, hD⟩ := va_join (wr := [tc_X5 a0 ma0 ta0 lk rf pu to, tc_X1 ma0 ma1 ma2 ma3 ma4 fh lh ee, tc_X0 ma3 mb0 mb1 mb2 mb3 mb4 mb5 ln, tc_I G mb0 10 ow, tc_I G mb1 10 gr, tc_I G mb2 10 we, tc_I G mb3 10 du, tc_I G mb4 10 sa, tc_D G mb5 10 le, tc_X4 ma1 tk mo su]) (w1 := []) hP hD [] [0, 1, 2, 3, 4, 5, 6, 7, 8, 9] rfl rfl (by decide) (by decide) hk1 hFc hP1 hD1
      have hP : va_P G.1 vwCl [tc_X5 a0 ma0 ta0 lk rf pu to, tc_X1 ma0 ma1 ma2 ma3 ma4 fh lh ee, tc_X0 ma3 mb0 mb1 mb2 mb3 mb4 mb5 ln, tc_I G mb0 10 ow, tc_I G mb1 10 gr, tc_I G mb2 10 we, tc_I G mb3 10 du, tc_I G mb4 10 sa, tc_D G mb5 10 le, tc_X4 ma1 tk mo su] H := hP
      have hD : va_D A [tc_X5 a0 ma0 ta0 lk rf pu to, tc_X1 ma0 ma1 ma2 ma3 ma4 fh lh ee, tc_X0 ma3 mb0 mb1 mb2 mb3 mb4 mb5 ln, tc_I G mb0 10 ow, tc_I G mb1 10 gr, tc_I G mb2 10 we, tc_I G mb3 10 du, tc_I G mb4 10 sa, tc_D G mb5 10 le, tc_X4 ma1 tk mo su] := hD
      subst hw_6
      refine lv_imul hx hb dX5_give_107 ?_
      refine lv_iconst (v := 4) hx hb dX5_give_108 (by decide) ?_
      refine lv_idiv hx hb dX5_give_109 (by decide) ?_
      refine lv_iload_n hx hb dX5_give_110 rfl (lv_at hl 0 rfl) ?_
      refine lv_isub hx hb dX5_give_111 ?_
      refine lv_istore (lv' := [(4, .int ((((we p1.toNatClampNeg) * (f_X5_priceOf (gr p1.toNatClampNeg))) / 4) - (if 0 < ((f_X4_today tk) - (du p1.toNatClampNeg)) then ((f_X4_today tk) - (du p1.toNatClampNeg)) else 0))), (3, .int (if 0 < ((f_X4_today tk) - (du p1.toNatClampNeg)) then ((f_X4_today tk) - (du p1.toNatClampNeg)) else 0)), (2, .int (we p1.toNatClampNeg)), (0, .ref a0), (1, .int p1)]) hx hb dX5_give_112 hl (by decide) rfl (fun ls hl => ?_)
      refine lv_aload_n hx hb dX5_give_114 rfl (lv_at hl 3 rfl) ?_
      refine va_get (D := G.1) (ci := 5) (v := .ref ma0) (C := RX5) (T := TX5) (N := 6) hx hb hts hiX5 hown hK hP 0 rfl rfl 0 (by decide) (hts (.fieldLink RX5 10 "TideMill" "mill" "LTideMill$Mill;") (List.mem_of_getElem? (i := 5) rfl)) (fun _ h9 => h9) rfl dX5_give_115 ?_
      refine va_get (D := G.1) (ci := 1) (v := .ref ma3) (C := RX1) (T := TX1) (N := 7) hx hb hts hiX1 hown hK hP 1 rfl rfl 2 (by decide) (hts (.fieldLink RX5 119 "TideMill$Mill" "lots" "LTideMill$Lots;") (List.mem_of_getElem? (i := 6) rfl)) (fun _ h9 => h9) rfl dX5_give_118 ?_
      refine va_get (D := G.1) (ci := 0) (v := .ref mb4) (C := RX0) (T := TX0) (N := 7) hx hb hts hiX0 hown hK hP 2 rfl rfl 4 (by decide) (hts (.fieldLink RX5 145 "TideMill$Lots" "state" "[I") (List.mem_of_getElem? (i := 7) rfl)) (fun _ h9 => h9) rfl dX5_give_121 ?_
      refine lv_iload_n hx hb dX5_give_124 rfl (lv_at hl 4 rfl) ?_
      refine lv_iconst (v := 3) hx hb dX5_give_125 (by decide) ?_
      refine va_iast (n := 10) (f := sa) hx hb hK hP hD hS 7 0 rfl rfl n_3 dX5_give_126 (fun H locs hP hD hS => ?_)
      have hP : va_P G.1 vwCl [tc_X5 a0 ma0 ta0 lk rf pu to, tc_X1 ma0 ma1 ma2 ma3 ma4 fh lh ee, tc_X0 ma3 mb0 mb1 mb2 mb3 mb4 mb5 ln, tc_I G mb0 10 ow, tc_I G mb1 10 gr, tc_I G mb2 10 we, tc_I G mb3 10 du, tc_I G mb4 10 (upd sa p1.toNatClampNeg 3), tc_D G mb5 10 le, tc_X4 ma1 tk mo su] H := hP
      have hD : va_D A [tc_X5 a0 ma0 ta0 lk rf pu to, tc_X1 ma0 ma1 ma2 ma3 ma4 fh lh ee, tc_X0 ma3 mb0 mb1 mb2 mb3 mb4 mb5 ln, tc_I G mb0 10 ow, tc_I G mb1 10 gr, tc_I G mb2 10 we, tc_I G mb3 10 du, tc_I G mb4 10 (upd sa p1.toNatClampNeg 3), tc_D G mb5 10 le, tc_X4 ma1 tk mo su] := hD
      refine lv_aload_n hx hb dX5_give_127 rfl (lv_at hl 3 rfl) ?_
      refine lv_dup hx hb dX5_give_128 rfl ?_
      refine va_get (D := G.1) (ci := 5) (v := .double to) (C := RX5) (T := TX5) (N := 6) hx hb hts hiX5 hown hK hP 0 rfl rfl 5 (by decide) (hts (.fieldLink RX5 201 "TideMill" "toll" "D") (List.mem_of_getElem? (i := 16) rfl)) (fun _ h9 => h9) rfl dX5_give_129 ?_
      refine lv_iload_n hx hb dX5_give_132 rfl (lv_at hl 2 rfl) ?_
      refine lv_i2d hx hb dX5_give_133 ?_
      refine lv_ldc2d hx hb hown (hts (.constantDouble RX5 204 (4625196817309499392)) (List.mem_of_getElem? (i := 17) rfl)) dX5_give_134 ?_
      refine lv_ddiv hx hb dX5_give_137 n_7 ?_
      refine lv_dadd hx hb dX5_give_138 n_8 ?_
      refine va_put (D := G.1) (ci := 5) (v := .double (FP.dadd to (FP.ddiv (FP.i2d (we p1.toNatClampNeg)) 4625196817309499392))) (ty := .double) (C := RX5) (T := TX5) (N := 6) hx hb hts hiX5 tyX5 tyX5_ok nmX5 hown hK hP hD hS 0 rfl rfl 5 (by decide) (hts (.fieldLink RX5 201 "TideMill" "toll" "D") (List.mem_of_getElem? (i := 16) rfl)) (fun _ h9 => h9) rfl (by decide +kernel) rfl rfl (Nat.le_of_ble_eq_true rfl) dX5_give_139 (fun H locs hP hD hS => ?_)
      have hP : va_P G.1 vwCl [tc_X5 a0 ma0 ta0 lk rf pu (FP.dadd to (FP.ddiv (FP.i2d (we p1.toNatClampNeg)) 4625196817309499392)), tc_X1 ma0 ma1 ma2 ma3 ma4 fh lh ee, tc_X0 ma3 mb0 mb1 mb2 mb3 mb4 mb5 ln, tc_I G mb0 10 ow, tc_I G mb1 10 gr, tc_I G mb2 10 we, tc_I G mb3 10 du, tc_I G mb4 10 (upd sa p1.toNatClampNeg 3), tc_D G mb5 10 le, tc_X4 ma1 tk mo su] H := hP
      have hD : va_D A [tc_X5 a0 ma0 ta0 lk rf pu (FP.dadd to (FP.ddiv (FP.i2d (we p1.toNatClampNeg)) 4625196817309499392)), tc_X1 ma0 ma1 ma2 ma3 ma4 fh lh ee, tc_X0 ma3 mb0 mb1 mb2 mb3 mb4 mb5 ln, tc_I G mb0 10 ow, tc_I G mb1 10 gr, tc_I G mb2 10 we, tc_I G mb3 10 du, tc_I G mb4 10 (upd sa p1.toNatClampNeg 3), tc_D G mb5 10 le, tc_X4 ma1 tk mo su] := hD
      refine lv_aload_n hx hb dX5_give_142 rfl (lv_at hl 3 rfl) ?_
      refine lv_dup hx hb dX5_give_143 rfl ?_
      refine va_get (D := G.1) (ci := 5) (v := .int pu) (C := RX5) (T := TX5) (N := 6) hx hb hts hiX5 hown hK hP 0 rfl rfl 4 (by decide) (hts (.fieldLink RX5 206 "TideMill" "purse" "I") (List.mem_of_getElem? (i := 18) rfl)) (fun _ h9 => h9) rfl dX5_give_144 ?_
      refine lv_iload hx hb dX5_give_147 (lv_at hl 0 rfl) ?_
      refine lv_iadd hx hb dX5_give_149 ?_
      refine va_put (D := G.1) (ci := 5) (v := .int (pu + ((((we p1.toNatClampNeg) * (f_X5_priceOf (gr p1.toNatClampNeg))) / 4) - (if 0 < ((f_X4_today tk) - (du p1.toNatClampNeg)) then ((f_X4_today tk) - (du p1.toNatClampNeg)) else 0)))) (ty := .int) (C := RX5) (T := TX5) (N := 6) hx hb hts hiX5 tyX5 tyX5_ok nmX5 hown hK hP hD hS 0 rfl rfl 4 (by decide) (hts (.fieldLink RX5 206 "TideMill" "purse" "I") (List.mem_of_getElem? (i := 18) rfl)) (fun _ h9 => h9) rfl (by decide +kernel) rfl rfl (Nat.le_of_ble_eq_true rfl) dX5_give_150 (fun H locs hP hD hS => ?_)
      have hP : va_P G.1 vwCl [tc_X5 a0 ma0 ta0 lk rf (pu + ((((we p1.toNatClampNeg) * (f_X5_priceOf (gr p1.toNatClampNeg))) / 4) - (if 0 < ((f_X4_today tk) - (du p1.toNatClampNeg)) then ((f_X4_today tk) - (du p1.toNatClampNeg)) else 0))) (FP.dadd to (FP.ddiv (FP.i2d (we p1.toNatClampNeg)) 4625196817309499392)), tc_X1 ma0 ma1 ma2 ma3 ma4 fh lh ee, tc_X0 ma3 mb0 mb1 mb2 mb3 mb4 mb5 ln, tc_I G mb0 10 ow, tc_I G mb1 10 gr, tc_I G mb2 10 we, tc_I G mb3 10 du, tc_I G mb4 10 (upd sa p1.toNatClampNeg 3), tc_D G mb5 10 le, tc_X4 ma1 tk mo su] H := hP
      have hD : va_D A [tc_X5 a0 ma0 ta0 lk rf (pu + ((((we p1.toNatClampNeg) * (f_X5_priceOf (gr p1.toNatClampNeg))) / 4) - (if 0 < ((f_X4_today tk) - (du p1.toNatClampNeg)) then ((f_X4_today tk) - (du p1.toNatClampNeg)) else 0))) (FP.dadd to (FP.ddiv (FP.i2d (we p1.toNatClampNeg)) 4625196817309499392)), tc_X1 ma0 ma1 ma2 ma3 ma4 fh lh ee, tc_X0 ma3 mb0 mb1 mb2 mb3 mb4 mb5 ln, tc_I G mb0 10 ow, tc_I G mb1 10 gr, tc_I G mb2 10 we, tc_I G mb3 10 du, tc_I G mb4 10 (upd sa p1.toNatClampNeg 3), tc_D G mb5 10 le, tc_X4 ma1 tk mo su] := hD
      refine lv_iload hx hb dX5_give_153 (lv_at hl 0 rfl) ?_
      have hP9 := hP.sub (ws' := [tc_X5 a0 ma0 ta0 lk rf (pu + ((((we p1.toNatClampNeg) * (f_X5_priceOf (gr p1.toNatClampNeg))) / 4) - (if 0 < ((f_X4_today tk) - (du p1.toNatClampNeg)) then ((f_X4_today tk) - (du p1.toNatClampNeg)) else 0))) (FP.dadd to (FP.ddiv (FP.i2d (we p1.toNatClampNeg)) 4625196817309499392)), tc_X1 ma0 ma1 ma2 ma3 ma4 fh lh ee, tc_X4 ma1 tk mo su, tc_X0 ma3 mb0 mb1 mb2 mb3 mb4 mb5 ln, tc_I G mb0 10 ow, tc_I G mb1 10 gr, tc_I G mb2 10 we, tc_I G mb3 10 du, tc_I G mb4 10 (upd sa p1.toNatClampNeg 3), tc_D G mb5 10 le]) [0, 1, 9, 2, 3, 4, 5, 6, 7, 8] rfl
      have hD9 := hD.sub (ws' := [tc_X5 a0 ma0 ta0 lk rf (pu + ((((we p1.toNatClampNeg) * (f_X5_priceOf (gr p1.toNatClampNeg))) / 4) - (if 0 < ((f_X4_today tk) - (du p1.toNatClampNeg)) then ((f_X4_today tk) - (du p1.toNatClampNeg)) else 0))) (FP.dadd to (FP.ddiv (FP.i2d (we p1.toNatClampNeg)) 4625196817309499392)), tc_X1 ma0 ma1 ma2 ma3 ma4 fh lh ee, tc_X4 ma1 tk mo su, tc_X0 ma3 mb0 mb1 mb2 mb3 mb4 mb5 ln, tc_I G mb0 10 ow, tc_I G mb1 10 gr, tc_I G mb2 10 we, tc_I G mb3 10 du, tc_I G mb4 10 (upd sa p1.toNatClampNeg 3), tc_D G mb5 10 le]) [0, 1, 9, 2, 3, 4, 5, 6, 7, 8] (by decide) rfl
      exact W.iret (v := (((we p1.toNatClampNeg) * (f_X5_priceOf (gr p1.toNatClampNeg))) / 4) - (if 0 < ((f_X4_today tk) - (du p1.toNatClampNeg)) then ((f_X4_today tk) - (du p1.toNatClampNeg)) else 0)) hx hb hr (fun t ht hW => ⟨⟨(((we p1.toNatClampNeg) * (f_X5_priceOf (gr p1.toNatClampNeg))) / 4) - (if 0 < ((f_X4_today tk) - (du p1.toNatClampNeg)) then ((f_X4_today tk) - (du p1.toNatClampNeg)) else 0), (pu + ((((we p1.toNatClampNeg) * (f_X5_priceOf (gr p1.toNatClampNeg))) / 4) - (if 0 < ((f_X4_today tk) - (du p1.toNatClampNeg)) then ((f_X4_today tk) - (du p1.toNatClampNeg)) else 0)), FP.dadd to (FP.ddiv (FP.i2d (we p1.toNatClampNeg)) 4625196817309499392), upd sa p1.toNatClampNeg 3), rfl, by unfold f_X5_give; all_goals rfl, by rw [ht]; exact hP9, hD9⟩, hS.F ht⟩) hS.2.2 dX5_give_155
    · exact absurd na_1 c_4
  · exact absurd c_2 na_0
set_option maxHeartbeats 4000000 in
set_option maxRecDepth 100000 in
theorem c_X5_pass (l : Launch) (G : tm_G) (a0 : Nat) (ma0 : Nat) (ta0 : Nat) (ma1 : Nat) (ma2 : Nat) (ma3 : Nat) (ma4 : Nat) (mb0 : Nat) (mb1 : Nat) (mb2 : Nat) (mb3 : Nat) (mb4 : Nat) (mb5 : Nat) (md0 : Nat) (md1 : Nat) (md2 : Nat) (md3 : Nat) (sz : Nat) (lk : Int32) (rf : Int32) (pu : Int32) (to : UInt64) (fh : Int32) (lh : Int32) (ee : Int32) (tk : Int32) (mo : Int32) (su : UInt64) (lv : UInt64) (si : UInt32) (ga : Int32) (sl : Int32) (sc : Int32) (fo : UInt64) (ln : Int32) (ow : Nat → Int32) (gr : Nat → Int32) (we : Nat → Int32) (du : Nat → Int32) (sa : Nat → Int32) (le : Nat → UInt64) (pn : Int32) (dl : Nat → UInt32) (pl : Nat → Int32) (dr : Nat → Int32) (sp : Nat → Int32) (p1 : Int32) (hn : n_X5_pass fh lh ee tk mo su lv si ga sl sc fo ln gr sa le pn dl pl dr sp p1) : Met l yX5_pass wsX5_pass ({ frames := 6, cells := 0, slots := 0, locals := 145 }) (va_Pc [.ref a0, .int p1] (tm_B G [tc_X5 a0 ma0 ta0 lk rf pu to, tc_X1 ma0 ma1 ma2 ma3 ma4 fh lh ee, tc_X4 ma1 tk mo su, tc_X3 ma2 lv si ga sl sc fo, tc_X0 ma3 mb0 mb1 mb2 mb3 mb4 mb5 ln, tc_I G mb0 10 ow, tc_I G mb1 10 gr, tc_I G mb2 10 we, tc_I G mb3 10 du, tc_I G mb4 10 sa, tc_D G mb5 10 le, tc_X2 ma4 md0 md1 md2 md3 pn, tc_F G md0 3 dl, tc_I G md1 3 pl, tc_I G md2 3 dr, tc_I G md3 3 sp] sz)) (va_Qi (fun (r : Int32) (u : Int32 × Int32 × UInt64 × UInt32 × UInt64 × (Nat → Int32) × (Nat → UInt64) × (Nat → UInt32) × (Nat → Int32) × (Nat → Int32) × (Nat → Int32)) => (r, u) = f_X5_pass fh lh ee tk mo su lv si ga sl sc fo ln gr sa le pn dl pl dr sp p1) (fun (u : Int32 × Int32 × UInt64 × UInt32 × UInt64 × (Nat → Int32) × (Nat → UInt64) × (Nat → UInt32) × (Nat → Int32) × (Nat → Int32) × (Nat → Int32)) (t : State) => va_P G.1 vwCl [tc_X5 a0 ma0 ta0 lk rf pu to, tc_X1 ma0 ma1 ma2 ma3 ma4 fh lh u.1, tc_X4 ma1 u.2.1 mo su, tc_X3 ma2 u.2.2.1 u.2.2.2.1 ga sl sc u.2.2.2.2.1, tc_X0 ma3 mb0 mb1 mb2 mb3 mb4 mb5 ln, tc_I G mb0 10 ow, tc_I G mb1 10 gr, tc_I G mb2 10 we, tc_I G mb3 10 du, tc_I G mb4 10 u.2.2.2.2.2.1, tc_D G mb5 10 u.2.2.2.2.2.2.1, tc_X2 ma4 md0 md1 md2 md3 pn, tc_F G md0 3 u.2.2.2.2.2.2.2.1, tc_I G md1 3 u.2.2.2.2.2.2.2.2.1, tc_I G md2 3 u.2.2.2.2.2.2.2.2.2.1, tc_I G md3 3 u.2.2.2.2.2.2.2.2.2.2] t.heap ∧ va_D (va_A [tc_X5 a0 ma0 ta0 lk rf pu to, tc_X1 ma0 ma1 ma2 ma3 ma4 fh lh ee, tc_X4 ma1 tk mo su, tc_X3 ma2 lv si ga sl sc fo, tc_X0 ma3 mb0 mb1 mb2 mb3 mb4 mb5 ln, tc_I G mb0 10 ow, tc_I G mb1 10 gr, tc_I G mb2 10 we, tc_I G mb3 10 du, tc_I G mb4 10 sa, tc_D G mb5 10 le, tc_X2 ma4 md0 md1 md2 md3 pn, tc_F G md0 3 dl, tc_I G md1 3 pl, tc_I G md2 3 dr, tc_I G md3 3 sp] sz) [tc_X5 a0 ma0 ta0 lk rf pu to, tc_X1 ma0 ma1 ma2 ma3 ma4 fh lh u.1, tc_X4 ma1 u.2.1 mo su, tc_X3 ma2 u.2.2.1 u.2.2.2.1 ga sl sc u.2.2.2.2.1, tc_X0 ma3 mb0 mb1 mb2 mb3 mb4 mb5 ln, tc_I G mb0 10 ow, tc_I G mb1 10 gr, tc_I G mb2 10 we, tc_I G mb3 10 du, tc_I G mb4 10 u.2.2.2.2.2.1, tc_D G mb5 10 u.2.2.2.2.2.2.1, tc_X2 ma4 md0 md1 md2 md3 pn, tc_F G md0 3 u.2.2.2.2.2.2.2.1, tc_I G md1 3 u.2.2.2.2.2.2.2.2.1, tc_I G md2 3 u.2.2.2.2.2.2.2.2.2.1, tc_I G md3 3 u.2.2.2.2.2.2.2.2.2.2]) (va_A [tc_X5 a0 ma0 ta0 lk rf pu to, tc_X1 ma0 ma1 ma2 ma3 ma4 fh lh ee, tc_X4 ma1 tk mo su, tc_X3 ma2 lv si ga sl sc fo, tc_X0 ma3 mb0 mb1 mb2 mb3 mb4 mb5 ln, tc_I G mb0 10 ow, tc_I G mb1 10 gr, tc_I G mb2 10 we, tc_I G mb3 10 du, tc_I G mb4 10 sa, tc_D G mb5 10 le, tc_X2 ma4 md0 md1 md2 md3 pn, tc_F G md0 3 dl, tc_I G md1 3 pl, tc_I G md2 3 dr, tc_I G md3 3 sp] sz)) 0 0 (va_A [tc_X5 a0 ma0 ta0 lk rf pu to, tc_X1 ma0 ma1 ma2 ma3 ma4 fh lh ee, tc_X4 ma1 tk mo su, tc_X3 ma2 lv si ga sl sc fo, tc_X0 ma3 mb0 mb1 mb2 mb3 mb4 mb5 ln, tc_I G mb0 10 ow, tc_I G mb1 10 gr, tc_I G mb2 10 we, tc_I G mb3 10 du, tc_I G mb4 10 sa, tc_D G mb5 10 le, tc_X2 ma4 md0 md1 md2 md3 pn, tc_F G md0 3 dl, tc_I G md1 3 pl, tc_I G md2 3 dr, tc_I G md3 3 sp] sz) := by
  refine Met.ofW (cc := cX5_pass) (maxL := 2) (ret := (some .int)) (by decide) rfl ?_
  intro p e s m args below meth c s₁ B hml hv
  obtain ⟨rfl, hsz, hP, hK, hD0, hN, hV⟩ := hv
  have hx := B.exec
  have hb := B.bytes
  have hr := B.returns
  have hts := atoms_spec (ws := wsX5_pass) B.pre
  have hown : s.vm.findClass RX5 = some m.cls := findClass_of_methodNamed B.named
  have hlocks := B.notSynchronized
  subst hsz
  obtain ⟨na_0, na_1, n_4, n_17⟩ := hn
  have hiX1 : ∀ w ∈ u_ws RX1 TX1 7, w ∈ wsX5_pass := fun _ h => List.mem_cons_of_mem _ (List.mem_append_left _ (List.mem_append_left _ (List.mem_append_left _ (List.mem_append_left _ (List.mem_append_left _ (List.mem_append_left _ (List.mem_append_right _ h)))))))
  have hiX4 : ∀ w ∈ u_ws RX4 TX4 3, w ∈ wsX5_pass := fun _ h => List.mem_cons_of_mem _ (List.mem_append_left _ (List.mem_append_left _ (List.mem_append_left _ (List.mem_append_left _ (List.mem_append_left _ (List.mem_append_right _ h))))))
  have hiX5 : ∀ w ∈ u_ws RX5 TX5 6, w ∈ wsX5_pass := fun _ h => List.mem_cons_of_mem _ (List.mem_append_left _ (List.mem_append_left _ (List.mem_append_left _ (List.mem_append_left _ (List.mem_append_left _ (List.mem_append_left _ (List.mem_append_left _ (List.mem_append_right _ h))))))))
  have hD := hD0.self (sz := s.heap.size)
  generalize hAe : va_A [tc_X5 a0 ma0 ta0 lk rf pu to, tc_X1 ma0 ma1 ma2 ma3 ma4 fh lh ee, tc_X4 ma1 tk mo su, tc_X3 ma2 lv si ga sl sc fo, tc_X0 ma3 mb0 mb1 mb2 mb3 mb4 mb5 ln, tc_I G mb0 10 ow, tc_I G mb1 10 gr, tc_I G mb2 10 we, tc_I G mb3 10 du, tc_I G mb4 10 sa, tc_D G mb5 10 le, tc_X2 ma4 md0 md1 md2 md3 pn, tc_F G md0 3 dl, tc_I G md1 3 pl, tc_I G md2 3 dr, tc_I G md3 3 sp] s.heap.size = A at hD hV ⊢
  have hA : ∀ q : Nat, s.heap.size ≤ q → A q := fun q h => by rw [← hAe]; exact Or.inr h
  have hS : va_S A s.heap s.heap [] := va_S.rf
  have hl := lv_entry ([.ref a0, .int p1]) (n := 2) (Nat.le_of_ble_eq_true rfl)
  rw [lg_entry_eq]
  generalize (lg_sl ([.ref a0, .int p1]) ++ List.replicate (2 - (lg_sl ([.ref a0, .int p1])).length) Slot.unset).toArray = ls at hl ⊢
  have hl : lv_has ls 2 [(0, .ref a0), (1, .int p1)] := hl
  refine lv_iload_n hx hb dX5_pass_0 rfl (lv_at hl 1 rfl) ?_
  refine lv_iconst (v := 1) hx hb dX5_pass_1 (by decide) ?_
  refine lv_bipush (v := 100) hx hb dX5_pass_2 (by decide) ?_
  have hPc := hP.sub (ws' := []) [] rfl
  have hDc := hD.sub (ws' := []) [] (by decide) rfl
  have hFc := va_free (wc := []) hD hS hA [] rfl
  refine va_calli (va_runS (As := [.int p1, .int 1, .int 100]) (rest := []) ⟨hx, hb, hml, hown, hts⟩ (c_X5_isWithin l G  s.heap.size p1 1 100 ) (cwS 3 hts gX5_pass_X5_isWithin rfl rfl rfl (by decide +kernel) ⟨(Nat.le_of_ble_eq_true rfl), (Nat.le_of_ble_eq_true rfl)⟩) (tm_preS hK hN hV hS hPc hDc hFc) rfl rfl hl.1 rfl (lv_room (Nat.le_of_ble_eq_true rfl)) dX5_pass_4 ⟨(Nat.le_of_ble_eq_true rfl), (Nat.le_of_ble_eq_true rfl)⟩) hS (fun q _ h => hFc q h) hFc (fun r_1 u t H locs ht hvm hw_1 hB hz1 hk1 hS => ?_)
  obtain ⟨hP1, hD1⟩ := hB
  rw [ht] at hP1
  try dsimp only at hw_1
  obtain ⟨hP, hD⟩ := va_join (wr := [tc_X5 a0 ma0 ta0 lk rf pu to, tc_X1 ma0 ma1 ma2 ma3 ma4 fh lh ee, tc_X4 ma1 tk mo su, tc_X3 ma2 lv si ga sl sc fo, tc_X0 ma3 mb0 mb1 mb2 mb3 mb4 mb5 ln, tc_I G mb0 10 ow, tc_I G mb1 10 gr, tc_I G mb2 10 we, tc_I G mb3 10 du, tc_I G mb4 10 sa, tc_D G mb5 10 le, tc_X2 ma4 md0 md1 md2 md3 pn, tc_F G md0 3 dl, tc_I G md1 3 pl, tc_I G md2 3 dr, tc_I G md3 3 sp]) (w1 := []) hP hD [] [0, 1, 2, 3, 4, 5, 6, 7, 8, 9, 10, 11, 12, 13, 14, 15] rfl rfl (by decide) (by decide) hk1 hFc hP1 hD1
  have hP : va_P G.1 vwCl [tc_X5 a0 ma0 ta0 lk rf pu to, tc_X1 ma0 ma1 ma2 ma3 ma4 fh lh ee, tc_X4 ma1 tk mo su, tc_X3 ma2 lv si ga sl sc fo, tc_X0 ma3 mb0 mb1 mb2 mb3 mb4 mb5 ln, tc_I G mb0 10 ow, tc_I G mb1 10 gr, tc_I G mb2 10 we, tc_I G mb3 10 du, tc_I G mb4 10 sa, tc_D G mb5 10 le, tc_X2 ma4 md0 md1 md2 md3 pn, tc_F G md0 3 dl, tc_I G md1 3 pl, tc_I G md2 3 dr, tc_I G md3 3 sp] H := hP
  have hD : va_D A [tc_X5 a0 ma0 ta0 lk rf pu to, tc_X1 ma0 ma1 ma2 ma3 ma4 fh lh ee, tc_X4 ma1 tk mo su, tc_X3 ma2 lv si ga sl sc fo, tc_X0 ma3 mb0 mb1 mb2 mb3 mb4 mb5 ln, tc_I G mb0 10 ow, tc_I G mb1 10 gr, tc_I G mb2 10 we, tc_I G mb3 10 du, tc_I G mb4 10 sa, tc_D G mb5 10 le, tc_X2 ma4 md0 md1 md2 md3 pn, tc_F G md0 3 dl, tc_I G md1 3 pl, tc_I G md2 3 dr, tc_I G md3 3 sp] := hD
  subst hw_1
  refine lv_if_ne (tgt := 20) hx hb dX5_pass_7 (by decide) (fun c_2 => ?_) (fun c_2 => ?_)
  · refine lv_aload_n hx hb dX5_pass_20 rfl (lv_at hl 0 rfl) ?_
    refine va_get (D := G.1) (ci := 5) (v := .ref ma0) (C := RX5) (T := TX5) (N := 6) hx hb hts hiX5 hown hK hP 0 rfl rfl 0 (by decide) (hts (.fieldLink RX5 10 "TideMill" "mill" "LTideMill$Mill;") (List.mem_of_getElem? (i := 5) rfl)) (fun _ h9 => h9) rfl dX5_pass_21 ?_
    refine va_get (D := G.1) (ci := 1) (v := .ref ma1) (C := RX1) (T := TX1) (N := 7) hx hb hts hiX1 hown hK hP 1 rfl rfl 0 (by decide) (hts (.fieldLink RX5 30 "TideMill$Mill" "sea" "LTideMill$Sea;") (List.mem_of_getElem? (i := 6) rfl)) (fun _ h9 => h9) rfl dX5_pass_24 ?_
    refine va_get (D := G.1) (ci := 4) (v := .int tk) (C := RX4) (T := TX4) (N := 3) hx hb hts hiX4 hown hK hP 2 rfl rfl 0 (by decide) (hts (.fieldLink RX5 40 "TideMill$Sea" "tick" "I") (List.mem_of_getElem? (i := 7) rfl)) (fun _ h9 => h9) rfl dX5_pass_27 ?_
    refine lv_iload_n hx hb dX5_pass_30 rfl (lv_at hl 1 rfl) ?_
    refine lv_iadd hx hb dX5_pass_31 ?_
    refine lv_sipush (v := 5000) hx hb dX5_pass_32 (by decide) ?_
    refine lv_icmp_le (tgt := 48) hx hb dX5_pass_35 (by decide) (fun c_3 => ?_) (fun c_3 => ?_)
    · refine lv_aload_n hx hb dX5_pass_48 rfl (lv_at hl 0 rfl) ?_
      refine va_get (D := G.1) (ci := 5) (v := .ref ma0) (C := RX5) (T := TX5) (N := 6) hx hb hts hiX5 hown hK hP 0 rfl rfl 0 (by decide) (hts (.fieldLink RX5 10 "TideMill" "mill" "LTideMill$Mill;") (List.mem_of_getElem? (i := 5) rfl)) (fun _ h9 => h9) rfl dX5_pass_49 ?_
      refine lv_iload_n hx hb dX5_pass_52 rfl (lv_at hl 1 rfl) ?_
      have hPc := hP.sub (ws' := [tc_X1 ma0 ma1 ma2 ma3 ma4 fh lh ee, tc_X4 ma1 tk mo su, tc_X3 ma2 lv si ga sl sc fo, tc_X0 ma3 mb0 mb1 mb2 mb3 mb4 mb5 ln, tc_I G mb0 10 ow, tc_I G mb1 10 gr, tc_I G mb2 10 we, tc_I G mb3 10 du, tc_I G mb4 10 sa, tc_D G mb5 10 le, tc_X2 ma4 md0 md1 md2 md3 pn, tc_F G md0 3 dl, tc_I G md1 3 pl, tc_I G md2 3 dr, tc_I G md3 3 sp]) [1, 2, 3, 4, 5, 6, 7, 8, 9, 10, 11, 12, 13, 14, 15] rfl
      have hDc := hD.sub (ws' := [tc_X1 ma0 ma1 ma2 ma3 ma4 fh lh ee, tc_X4 ma1 tk mo su, tc_X3 ma2 lv si ga sl sc fo, tc_X0 ma3 mb0 mb1 mb2 mb3 mb4 mb5 ln, tc_I G mb0 10 ow, tc_I G mb1 10 gr, tc_I G mb2 10 we, tc_I G mb3 10 du, tc_I G mb4 10 sa, tc_D G mb5 10 le, tc_X2 ma4 md0 md1 md2 md3 pn, tc_F G md0 3 dl, tc_I G md1 3 pl, tc_I G md2 3 dr, tc_I G md3 3 sp]) [1, 2, 3, 4, 5, 6, 7, 8, 9, 10, 11, 12, 13, 14, 15] (by decide) rfl
      have hFc := va_free (wc := [tc_X1 ma0 ma1 ma2 ma3 ma4 fh lh ee, tc_X4 ma1 tk mo su, tc_X3 ma2 lv si ga sl sc fo, tc_X0 ma3 mb0 mb1 mb2 mb3 mb4 mb5 ln, tc_I G mb0 10 ow, tc_I G mb1 10 gr, tc_I G mb2 10 we, tc_I G mb3 10 du, tc_I G mb4 10 sa, tc_D G mb5 10 le, tc_X2 ma4 md0 md1 md2 md3 pn, tc_F G md0 3 dl, tc_I G md1 3 pl, tc_I G md2 3 dr, tc_I G md3 3 sp]) hD hS hA [1, 2, 3, 4, 5, 6, 7, 8, 9, 10, 11, 12, 13, 14, 15] rfl
      refine va_callv (va_runV (As := [.int p1]) (rest := []) ⟨hx, hb, hml, hown, hts⟩ (c_X1_letGoBy l G ma0 ma1 ma2 ma3 ma4 mb0 mb1 mb2 mb3 mb4 mb5 md0 md1 md2 md3 H.size fh lh ee tk mo su lv si ga sl sc fo ln ow gr we du sa le pn dl pl dr sp p1 n_4) (cwV 1 hts gX5_pass_X1_letGoBy rfl rfl rfl (by decide +kernel) ⟨(Nat.le_of_ble_eq_true rfl), (Nat.le_of_ble_eq_true rfl)⟩) (tm_preV hK hN hV hS hPc hDc hFc (va_recv hK hPc (ci := 1) (q0 := 0) rfl rfl)) rfl rfl hl.1 rfl (lv_room (Nat.le_of_ble_eq_true rfl)) dX5_pass_53 ⟨(Nat.le_of_ble_eq_true rfl), (Nat.le_of_ble_eq_true rfl)⟩) hS (fun q _ h => hFc q h) hFc (fun u t H locs ht hvm hw_5 hB hz1 hk1 hS => ?_)
      obtain ⟨u_6, u_7, u_8, u_9, u_10, u_11, u_12, u_13, u_14, u_15, u_16⟩ := u
      obtain ⟨hP1, hD1⟩ := hB
      rw [ht] at hP1
      try dsimp only at hw_5
      obtain ⟨hP, hD⟩ := va_join (wr := [tc_X5 a0 ma0 ta0 lk rf pu to]) (w1 := [tc_X1 ma0 ma1 ma2 ma3 ma4 fh lh u_6, tc_X4 ma1 u_7 mo su, tc_X3 ma2 u_8 u_9 ga sl sc u_10, tc_X0 ma3 mb0 mb1 mb2 mb3 mb4 mb5 ln, tc_I G mb0 10 ow, tc_I G mb1 10 gr, tc_I G mb2 10 we, tc_I G mb3 10 du, tc_I G mb4 10 u_11, tc_D G mb5 10 u_12, tc_X2 ma4 md0 md1 md2 md3 pn, tc_F G md0 3 u_13, tc_I G md1 3 u_14, tc_I G md2 3 u_15, tc_I G md3 3 u_16]) hP hD [1, 2, 3, 4, 5, 6, 7, 8, 9, 10, 11, 12, 13, 14, 15] [0] rfl rfl (by decide) (by decide) hk1 hFc hP1 hD1
      have hP : va_P G.1 vwCl [tc_X5 a0 ma0 ta0 lk rf pu to, tc_X1 ma0 ma1 ma2 ma3 ma4 fh lh u_6, tc_X4 ma1 u_7 mo su, tc_X3 ma2 u_8 u_9 ga sl sc u_10, tc_X0 ma3 mb0 mb1 mb2 mb3 mb4 mb5 ln, tc_I G mb0 10 ow, tc_I G mb1 10 gr, tc_I G mb2 10 we, tc_I G mb3 10 du, tc_I G mb4 10 u_11, tc_D G mb5 10 u_12, tc_X2 ma4 md0 md1 md2 md3 pn, tc_F G md0 3 u_13, tc_I G md1 3 u_14, tc_I G md2 3 u_15, tc_I G md3 3 u_16] H := hP
      have hD : va_D A [tc_X5 a0 ma0 ta0 lk rf pu to, tc_X1 ma0 ma1 ma2 ma3 ma4 fh lh u_6, tc_X4 ma1 u_7 mo su, tc_X3 ma2 u_8 u_9 ga sl sc u_10, tc_X0 ma3 mb0 mb1 mb2 mb3 mb4 mb5 ln, tc_I G mb0 10 ow, tc_I G mb1 10 gr, tc_I G mb2 10 we, tc_I G mb3 10 du, tc_I G mb4 10 u_11, tc_D G mb5 10 u_12, tc_X2 ma4 md0 md1 md2 md3 pn, tc_F G md0 3 u_13, tc_I G md1 3 u_14, tc_I G md2 3 u_15, tc_I G md3 3 u_16] := hD
      refine lv_aload_n hx hb dX5_pass_56 rfl (lv_at hl 0 rfl) ?_
      refine va_get (D := G.1) (ci := 5) (v := .ref ma0) (C := RX5) (T := TX5) (N := 6) hx hb hts hiX5 hown hK hP 0 rfl rfl 0 (by decide) (hts (.fieldLink RX5 10 "TideMill" "mill" "LTideMill$Mill;") (List.mem_of_getElem? (i := 5) rfl)) (fun _ h9 => h9) rfl dX5_pass_57 ?_
      refine va_get (D := G.1) (ci := 1) (v := .ref ma3) (C := RX1) (T := TX1) (N := 7) hx hb hts hiX1 hown hK hP 1 rfl rfl 2 (by decide) (hts (.fieldLink RX5 119 "TideMill$Mill" "lots" "LTideMill$Lots;") (List.mem_of_getElem? (i := 8) rfl)) (fun _ h9 => h9) rfl dX5_pass_60 ?_
      refine lv_iconst (v := 2) hx hb dX5_pass_63 (by decide) ?_
      have hPc := hP.sub (ws' := [tc_X0 ma3 mb0 mb1 mb2 mb3 mb4 mb5 ln, tc_I G mb4 10 u_11]) [4, 9] rfl
      have hDc := hD.sub (ws' := [tc_X0 ma3 mb0 mb1 mb2 mb3 mb4 mb5 ln, tc_I G mb4 10 u_11]) [4, 9] (by decide) rfl
      have hFc := va_free (wc := [tc_X0 ma3 mb0 mb1 mb2 mb3 mb4 mb5 ln, tc_I G mb4 10 u_11]) hD hS hA [4, 9] rfl
      refine va_calli (va_runV (As := [.int 2]) (rest := []) ⟨hx, hb, hml, hown, hts⟩ (c_X0_countOf l G ma3 mb0 mb1 mb2 mb3 mb4 mb5 H.size ln u_11 2 (n_17 u_6 u_7 u_8 u_9 u_10 u_11 u_12 u_13 u_14 u_15 u_16 hw_5)) (cwV 1 hts gX5_pass_X0_countOf rfl rfl rfl (by decide +kernel) ⟨(Nat.le_of_ble_eq_true rfl), (Nat.le_of_ble_eq_true rfl)⟩) (tm_preV hK hN hV hS hPc hDc hFc (va_recv hK hPc (ci := 0) (q0 := 0) rfl rfl)) rfl rfl hl.1 rfl (lv_room (Nat.le_of_ble_eq_true rfl)) dX5_pass_64 ⟨(Nat.le_of_ble_eq_true rfl), (Nat.le_of_ble_eq_true rfl)⟩) hS (fun q _ h => hFc q h) hFc (fun r_18 u t H locs ht hvm hw_18 hB hz1 hk1 hS => ?_)
      obtain ⟨hP1, hD1⟩ := hB
      rw [ht] at hP1
      try dsimp only at hw_18
      obtain ⟨hP, hD⟩ := va_join (wr := [tc_X5 a0 ma0 ta0 lk rf pu to, tc_X1 ma0 ma1 ma2 ma3 ma4 fh lh u_6, tc_X4 ma1 u_7 mo su, tc_X3 ma2 u_8 u_9 ga sl sc u_10, tc_I G mb0 10 ow, tc_I G mb1 10 gr, tc_I G mb2 10 we, tc_I G mb3 10 du, tc_D G mb5 10 u_12, tc_X2 ma4 md0 md1 md2 md3 pn, tc_F G md0 3 u_13, tc_I G md1 3 u_14, tc_I G md2 3 u_15, tc_I G md3 3 u_16]) (w1 := [tc_X0 ma3 mb0 mb1 mb2 mb3 mb4 mb5 ln, tc_I G mb4 10 u_11]) hP hD [4, 9] [0, 1, 2, 3, 5, 6, 7, 8, 10, 11, 12, 13, 14, 15] rfl rfl (by decide) (by decide) hk1 hFc hP1 hD1
      have hP : va_P G.1 vwCl [tc_X5 a0 ma0 ta0 lk rf pu to, tc_X1 ma0 ma1 ma2 ma3 ma4 fh lh u_6, tc_X4 ma1 u_7 mo su, tc_X3 ma2 u_8 u_9 ga sl sc u_10, tc_I G mb0 10 ow, tc_I G mb1 10 gr, tc_I G mb2 10 we, tc_I G mb3 10 du, tc_D G mb5 10 u_12, tc_X2 ma4 md0 md1 md2 md3 pn, tc_F G md0 3 u_13, tc_I G md1 3 u_14, tc_I G md2 3 u_15, tc_I G md3 3 u_16, tc_X0 ma3 mb0 mb1 mb2 mb3 mb4 mb5 ln, tc_I G mb4 10 u_11] H := hP
      have hD : va_D A [tc_X5 a0 ma0 ta0 lk rf pu to, tc_X1 ma0 ma1 ma2 ma3 ma4 fh lh u_6, tc_X4 ma1 u_7 mo su, tc_X3 ma2 u_8 u_9 ga sl sc u_10, tc_I G mb0 10 ow, tc_I G mb1 10 gr, tc_I G mb2 10 we, tc_I G mb3 10 du, tc_D G mb5 10 u_12, tc_X2 ma4 md0 md1 md2 md3 pn, tc_F G md0 3 u_13, tc_I G md1 3 u_14, tc_I G md2 3 u_15, tc_I G md3 3 u_16, tc_X0 ma3 mb0 mb1 mb2 mb3 mb4 mb5 ln, tc_I G mb4 10 u_11] := hD
      subst hw_18
      have hP9 := hP.sub (ws' := [tc_X5 a0 ma0 ta0 lk rf pu to, tc_X1 ma0 ma1 ma2 ma3 ma4 fh lh u_6, tc_X4 ma1 u_7 mo su, tc_X3 ma2 u_8 u_9 ga sl sc u_10, tc_X0 ma3 mb0 mb1 mb2 mb3 mb4 mb5 ln, tc_I G mb0 10 ow, tc_I G mb1 10 gr, tc_I G mb2 10 we, tc_I G mb3 10 du, tc_I G mb4 10 u_11, tc_D G mb5 10 u_12, tc_X2 ma4 md0 md1 md2 md3 pn, tc_F G md0 3 u_13, tc_I G md1 3 u_14, tc_I G md2 3 u_15, tc_I G md3 3 u_16]) [0, 1, 2, 3, 14, 4, 5, 6, 7, 15, 8, 9, 10, 11, 12, 13] rfl
      have hD9 := hD.sub (ws' := [tc_X5 a0 ma0 ta0 lk rf pu to, tc_X1 ma0 ma1 ma2 ma3 ma4 fh lh u_6, tc_X4 ma1 u_7 mo su, tc_X3 ma2 u_8 u_9 ga sl sc u_10, tc_X0 ma3 mb0 mb1 mb2 mb3 mb4 mb5 ln, tc_I G mb0 10 ow, tc_I G mb1 10 gr, tc_I G mb2 10 we, tc_I G mb3 10 du, tc_I G mb4 10 u_11, tc_D G mb5 10 u_12, tc_X2 ma4 md0 md1 md2 md3 pn, tc_F G md0 3 u_13, tc_I G md1 3 u_14, tc_I G md2 3 u_15, tc_I G md3 3 u_16]) [0, 1, 2, 3, 14, 4, 5, 6, 7, 15, 8, 9, 10, 11, 12, 13] (by decide) rfl
      exact W.iret (v := f_X0_countOf ln u_11 2) hx hb hr (fun t ht hW => ⟨⟨f_X0_countOf ln u_11 2, (u_6, u_7, u_8, u_9, u_10, u_11, u_12, u_13, u_14, u_15, u_16), rfl, by unfold f_X5_pass; all_goals (rw [← hw_5]); all_goals (dsimp only); all_goals rfl, by rw [ht]; exact hP9, hD9⟩, hS.F ht⟩) hS.2.2 dX5_pass_67
    · exact absurd na_1 c_3
  · exact absurd c_2 na_0
set_option maxHeartbeats 4000000 in
set_option maxRecDepth 100000 in
theorem c_X5_pondAnswer (l : Launch) (G : tm_G) (a0 : Nat) (ma0 : Nat) (ta0 : Nat) (ma1 : Nat) (ma2 : Nat) (ma3 : Nat) (ma4 : Nat) (sz : Nat) (lk : Int32) (rf : Int32) (pu : Int32) (to : UInt64) (fh : Int32) (lh : Int32) (ee : Int32) (tk : Int32) (mo : Int32) (su : UInt64) (lv : UInt64) (si : UInt32) (ga : Int32) (sl : Int32) (sc : Int32) (fo : UInt64) (p1 : Int32) (hn : n_X5_pondAnswer tk mo si p1) : Met l yX5_pondAnswer wsX5_pondAnswer ({ frames := 3, cells := 0, slots := 0, locals := 67 }) (va_Pc [.ref a0, .int p1] (tm_B G [tc_X5 a0 ma0 ta0 lk rf pu to, tc_X1 ma0 ma1 ma2 ma3 ma4 fh lh ee, tc_X4 ma1 tk mo su, tc_X3 ma2 lv si ga sl sc fo] sz)) (va_Qd (fun (r : UInt64) (u : Unit) => r = f_X5_pondAnswer to tk mo lv si fo p1) (fun (u : Unit) (t : State) => va_P G.1 vwCl [tc_X5 a0 ma0 ta0 lk rf pu to, tc_X1 ma0 ma1 ma2 ma3 ma4 fh lh ee, tc_X4 ma1 tk mo su, tc_X3 ma2 lv si ga sl sc fo] t.heap ∧ va_D (va_A [tc_X5 a0 ma0 ta0 lk rf pu to, tc_X1 ma0 ma1 ma2 ma3 ma4 fh lh ee, tc_X4 ma1 tk mo su, tc_X3 ma2 lv si ga sl sc fo] sz) [tc_X5 a0 ma0 ta0 lk rf pu to, tc_X1 ma0 ma1 ma2 ma3 ma4 fh lh ee, tc_X4 ma1 tk mo su, tc_X3 ma2 lv si ga sl sc fo]) (va_A [tc_X5 a0 ma0 ta0 lk rf pu to, tc_X1 ma0 ma1 ma2 ma3 ma4 fh lh ee, tc_X4 ma1 tk mo su, tc_X3 ma2 lv si ga sl sc fo] sz)) 0 0 (va_A [tc_X5 a0 ma0 ta0 lk rf pu to, tc_X1 ma0 ma1 ma2 ma3 ma4 fh lh ee, tc_X4 ma1 tk mo su, tc_X3 ma2 lv si ga sl sc fo] sz) := by
  refine Met.ofW (cc := cX5_pondAnswer) (maxL := 2) (ret := (some .double)) (by decide) rfl ?_
  intro p e s m args below meth c s₁ B hml hv
  obtain ⟨rfl, hsz, hP, hK, hD0, hN, hV⟩ := hv
  have hx := B.exec
  have hb := B.bytes
  have hr := B.returns
  have hts := atoms_spec (ws := wsX5_pondAnswer) B.pre
  have hown : s.vm.findClass RX5 = some m.cls := findClass_of_methodNamed B.named
  have hlocks := B.notSynchronized
  subst hsz
  obtain ⟨n_3, n_5, n_9⟩ := hn
  have hiX1 : ∀ w ∈ u_ws RX1 TX1 7, w ∈ wsX5_pondAnswer := fun _ h => List.mem_cons_of_mem _ (List.mem_append_left _ (List.mem_append_left _ (List.mem_append_right _ h)))
  have hiX3 : ∀ w ∈ u_ws RX3 TX3 6, w ∈ wsX5_pondAnswer := fun _ h => List.mem_cons_of_mem _ (List.mem_append_left _ (List.mem_append_right _ h))
  have hiX4 : ∀ w ∈ u_ws RX4 TX4 3, w ∈ wsX5_pondAnswer := fun _ h => List.mem_cons_of_mem _ (List.mem_append_right _ h)
  have hiX5 : ∀ w ∈ u_ws RX5 TX5 6, w ∈ wsX5_pondAnswer := fun _ h => List.mem_cons_of_mem _ (List.mem_append_left _ (List.mem_append_left _ (List.mem_append_left _ (List.mem_append_right _ h))))
  have hD := hD0.self (sz := s.heap.size)
  generalize hAe : va_A [tc_X5 a0 ma0 ta0 lk rf pu to, tc_X1 ma0 ma1 ma2 ma3 ma4 fh lh ee, tc_X4 ma1 tk mo su, tc_X3 ma2 lv si ga sl sc fo] s.heap.size = A at hD hV ⊢
  have hA : ∀ q : Nat, s.heap.size ≤ q → A q := fun q h => by rw [← hAe]; exact Or.inr h
  have hS : va_S A s.heap s.heap [] := va_S.rf
  have hl := lv_entry ([.ref a0, .int p1]) (n := 2) (Nat.le_of_ble_eq_true rfl)
  rw [lg_entry_eq]
  generalize (lg_sl ([.ref a0, .int p1]) ++ List.replicate (2 - (lg_sl ([.ref a0, .int p1])).length) Slot.unset).toArray = ls at hl ⊢
  have hl : lv_has ls 2 [(0, .ref a0), (1, .int p1)] := hl
  refine lv_iload_n hx hb dX5_pondAnswer_0 rfl (lv_at hl 1 rfl) ?_
  by_cases c_1 : p1 = 0
  · refine lv_tableIn (off := 35) (tgt := 36) hx hb dX5_pondAnswer_1 (by rw [c_1]; decide) (by rw [c_1]; decide) (by rw [c_1]; rfl) (by decide) ?_
    refine lv_aload_n hx hb dX5_pondAnswer_36 rfl (lv_at hl 0 rfl) ?_
    refine va_get (D := G.1) (ci := 5) (v := .ref ma0) (C := RX5) (T := TX5) (N := 6) hx hb hts hiX5 hown hK hP 0 rfl rfl 0 (by decide) (hts (.fieldLink RX5 10 "TideMill" "mill" "LTideMill$Mill;") (List.mem_of_getElem? (i := 1) rfl)) (fun _ h9 => h9) rfl dX5_pondAnswer_37 ?_
    refine va_get (D := G.1) (ci := 1) (v := .ref ma2) (C := RX1) (T := TX1) (N := 7) hx hb hts hiX1 hown hK hP 1 rfl rfl 1 (by decide) (hts (.fieldLink RX5 70 "TideMill$Mill" "pond" "LTideMill$Pond;") (List.mem_of_getElem? (i := 2) rfl)) (fun _ h9 => h9) rfl dX5_pondAnswer_40 ?_
    refine va_get (D := G.1) (ci := 3) (v := .double lv) (C := RX3) (T := TX3) (N := 6) hx hb hts hiX3 hown hK hP 3 rfl rfl 0 (by decide) (hts (.fieldLink RX5 254 "TideMill$Pond" "level" "D") (List.mem_of_getElem? (i := 3) rfl)) (fun _ h9 => h9) rfl dX5_pondAnswer_43 ?_
    have hP9 := hP.sub (ws' := [tc_X5 a0 ma0 ta0 lk rf pu to, tc_X1 ma0 ma1 ma2 ma3 ma4 fh lh ee, tc_X4 ma1 tk mo su, tc_X3 ma2 lv si ga sl sc fo]) [0, 1, 2, 3] rfl
    have hD9 := hD.sub (ws' := [tc_X5 a0 ma0 ta0 lk rf pu to, tc_X1 ma0 ma1 ma2 ma3 ma4 fh lh ee, tc_X4 ma1 tk mo su, tc_X3 ma2 lv si ga sl sc fo]) [0, 1, 2, 3] (by decide) rfl
    exact W.dret (v := lv) hx hb hr (fun t ht hW => ⟨⟨lv, (), rfl, by unfold f_X5_pondAnswer; all_goals (rw [if_pos c_1]); all_goals rfl, by rw [ht]; exact hP9, hD9⟩, hS.F ht⟩) hS.2.2 dX5_pondAnswer_46
  · by_cases c_2 : p1 = 1
    · refine lv_tableIn (off := 46) (tgt := 47) hx hb dX5_pondAnswer_1 (by rw [c_2]; decide) (by rw [c_2]; decide) (by rw [c_2]; rfl) (by decide) ?_
      refine lv_aload_n hx hb dX5_pondAnswer_47 rfl (lv_at hl 0 rfl) ?_
      refine va_get (D := G.1) (ci := 5) (v := .ref ma0) (C := RX5) (T := TX5) (N := 6) hx hb hts hiX5 hown hK hP 0 rfl rfl 0 (by decide) (hts (.fieldLink RX5 10 "TideMill" "mill" "LTideMill$Mill;") (List.mem_of_getElem? (i := 1) rfl)) (fun _ h9 => h9) rfl dX5_pondAnswer_48 ?_
      refine va_get (D := G.1) (ci := 1) (v := .ref ma2) (C := RX1) (T := TX1) (N := 7) hx hb hts hiX1 hown hK hP 1 rfl rfl 1 (by decide) (hts (.fieldLink RX5 70 "TideMill$Mill" "pond" "LTideMill$Pond;") (List.mem_of_getElem? (i := 2) rfl)) (fun _ h9 => h9) rfl dX5_pondAnswer_51 ?_
      refine va_get (D := G.1) (ci := 3) (v := .float si) (C := RX3) (T := TX3) (N := 6) hx hb hts hiX3 hown hK hP 3 rfl rfl 1 (by decide) (hts (.fieldLink RX5 282 "TideMill$Pond" "silt" "F") (List.mem_of_getElem? (i := 4) rfl)) (fun _ h9 => h9) rfl dX5_pondAnswer_54 ?_
      refine lv_f2d hx hb dX5_pondAnswer_57 (n_3 c_1 c_2) ?_
      have hP9 := hP.sub (ws' := [tc_X5 a0 ma0 ta0 lk rf pu to, tc_X1 ma0 ma1 ma2 ma3 ma4 fh lh ee, tc_X4 ma1 tk mo su, tc_X3 ma2 lv si ga sl sc fo]) [0, 1, 2, 3] rfl
      have hD9 := hD.sub (ws' := [tc_X5 a0 ma0 ta0 lk rf pu to, tc_X1 ma0 ma1 ma2 ma3 ma4 fh lh ee, tc_X4 ma1 tk mo su, tc_X3 ma2 lv si ga sl sc fo]) [0, 1, 2, 3] (by decide) rfl
      exact W.dret (v := FP.f2d si) hx hb hr (fun t ht hW => ⟨⟨FP.f2d si, (), rfl, by unfold f_X5_pondAnswer; all_goals (rw [if_neg c_1]); all_goals (rw [if_pos c_2]); all_goals rfl, by rw [ht]; exact hP9, hD9⟩, hS.F ht⟩) hS.2.2 dX5_pondAnswer_58
    · by_cases c_4 : p1 = 2
      · refine lv_tableIn (off := 58) (tgt := 59) hx hb dX5_pondAnswer_1 (by rw [c_4]; decide) (by rw [c_4]; decide) (by rw [c_4]; rfl) (by decide) ?_
        refine lv_aload_n hx hb dX5_pondAnswer_59 rfl (lv_at hl 0 rfl) ?_
        refine va_get (D := G.1) (ci := 5) (v := .ref ma0) (C := RX5) (T := TX5) (N := 6) hx hb hts hiX5 hown hK hP 0 rfl rfl 0 (by decide) (hts (.fieldLink RX5 10 "TideMill" "mill" "LTideMill$Mill;") (List.mem_of_getElem? (i := 1) rfl)) (fun _ h9 => h9) rfl dX5_pondAnswer_60 ?_
        refine va_get (D := G.1) (ci := 1) (v := .ref ma2) (C := RX1) (T := TX1) (N := 7) hx hb hts hiX1 hown hK hP 1 rfl rfl 1 (by decide) (hts (.fieldLink RX5 70 "TideMill$Mill" "pond" "LTideMill$Pond;") (List.mem_of_getElem? (i := 2) rfl)) (fun _ h9 => h9) rfl dX5_pondAnswer_63 ?_
        have hPc := hP.sub (ws' := [tc_X3 ma2 lv si ga sl sc fo]) [3] rfl
        have hDc := hD.sub (ws' := [tc_X3 ma2 lv si ga sl sc fo]) [3] (by decide) rfl
        have hFc := va_free (wc := [tc_X3 ma2 lv si ga sl sc fo]) hD hS hA [3] rfl
        refine va_calld (va_runV (As := []) (rest := []) ⟨hx, hb, hml, hown, hts⟩ (c_X3_area l G ma2 s.heap.size lv si ga sl sc fo (n_5 c_1 c_2 c_4)) (cwV 0 hts gX5_pondAnswer_X3_area rfl rfl rfl (by decide +kernel) ⟨(Nat.le_of_ble_eq_true rfl), (Nat.le_of_ble_eq_true rfl)⟩) (tm_preV hK hN hV hS hPc hDc hFc (va_recv hK hPc (ci := 3) (q0 := 0) rfl rfl)) rfl rfl hl.1 rfl (lv_room (Nat.le_of_ble_eq_true rfl)) dX5_pondAnswer_66 ⟨(Nat.le_of_ble_eq_true rfl), (Nat.le_of_ble_eq_true rfl)⟩) hS (fun q _ h => hFc q h) hFc (fun r_6 u t H locs ht hvm hw_6 hB hz1 hk1 hS => ?_)
        obtain ⟨hP1, hD1⟩ := hB
        rw [ht] at hP1
        try dsimp only at hw_6
        obtain ⟨hP, hD⟩ := va_join (wr := [tc_X5 a0 ma0 ta0 lk rf pu to, tc_X1 ma0 ma1 ma2 ma3 ma4 fh lh ee, tc_X4 ma1 tk mo su]) (w1 := [tc_X3 ma2 lv si ga sl sc fo]) hP hD [3] [0, 1, 2] rfl rfl (by decide) (by decide) hk1 hFc hP1 hD1
        have hP : va_P G.1 vwCl [tc_X5 a0 ma0 ta0 lk rf pu to, tc_X1 ma0 ma1 ma2 ma3 ma4 fh lh ee, tc_X4 ma1 tk mo su, tc_X3 ma2 lv si ga sl sc fo] H := hP
        have hD : va_D A [tc_X5 a0 ma0 ta0 lk rf pu to, tc_X1 ma0 ma1 ma2 ma3 ma4 fh lh ee, tc_X4 ma1 tk mo su, tc_X3 ma2 lv si ga sl sc fo] := hD
        subst hw_6
        have hP9 := hP.sub (ws' := [tc_X5 a0 ma0 ta0 lk rf pu to, tc_X1 ma0 ma1 ma2 ma3 ma4 fh lh ee, tc_X4 ma1 tk mo su, tc_X3 ma2 lv si ga sl sc fo]) [0, 1, 2, 3] rfl
        have hD9 := hD.sub (ws' := [tc_X5 a0 ma0 ta0 lk rf pu to, tc_X1 ma0 ma1 ma2 ma3 ma4 fh lh ee, tc_X4 ma1 tk mo su, tc_X3 ma2 lv si ga sl sc fo]) [0, 1, 2, 3] (by decide) rfl
        exact W.dret (v := f_X3_area si) hx hb hr (fun t ht hW => ⟨⟨f_X3_area si, (), rfl, by unfold f_X5_pondAnswer; all_goals (rw [if_neg c_1]); all_goals (rw [if_neg c_2]); all_goals (rw [if_pos c_4]); all_goals rfl, by rw [ht]; exact hP9, hD9⟩, hS.F ht⟩) hS.2.2 dX5_pondAnswer_69
      · by_cases c_7 : p1 = 3
        · refine lv_tableIn (off := 69) (tgt := 70) hx hb dX5_pondAnswer_1 (by rw [c_7]; decide) (by rw [c_7]; decide) (by rw [c_7]; rfl) (by decide) ?_
          refine lv_aload_n hx hb dX5_pondAnswer_70 rfl (lv_at hl 0 rfl) ?_
          refine va_get (D := G.1) (ci := 5) (v := .ref ma0) (C := RX5) (T := TX5) (N := 6) hx hb hts hiX5 hown hK hP 0 rfl rfl 0 (by decide) (hts (.fieldLink RX5 10 "TideMill" "mill" "LTideMill$Mill;") (List.mem_of_getElem? (i := 1) rfl)) (fun _ h9 => h9) rfl dX5_pondAnswer_71 ?_
          refine va_get (D := G.1) (ci := 1) (v := .ref ma2) (C := RX1) (T := TX1) (N := 7) hx hb hts hiX1 hown hK hP 1 rfl rfl 1 (by decide) (hts (.fieldLink RX5 70 "TideMill$Mill" "pond" "LTideMill$Pond;") (List.mem_of_getElem? (i := 2) rfl)) (fun _ h9 => h9) rfl dX5_pondAnswer_74 ?_
          refine va_get (D := G.1) (ci := 3) (v := .double fo) (C := RX3) (T := TX3) (N := 6) hx hb hts hiX3 hown hK hP 3 rfl rfl 5 (by decide) (hts (.fieldLink RX5 290 "TideMill$Pond" "force" "D") (List.mem_of_getElem? (i := 5) rfl)) (fun _ h9 => h9) rfl dX5_pondAnswer_77 ?_
          have hP9 := hP.sub (ws' := [tc_X5 a0 ma0 ta0 lk rf pu to, tc_X1 ma0 ma1 ma2 ma3 ma4 fh lh ee, tc_X4 ma1 tk mo su, tc_X3 ma2 lv si ga sl sc fo]) [0, 1, 2, 3] rfl
          have hD9 := hD.sub (ws' := [tc_X5 a0 ma0 ta0 lk rf pu to, tc_X1 ma0 ma1 ma2 ma3 ma4 fh lh ee, tc_X4 ma1 tk mo su, tc_X3 ma2 lv si ga sl sc fo]) [0, 1, 2, 3] (by decide) rfl
          exact W.dret (v := fo) hx hb hr (fun t ht hW => ⟨⟨fo, (), rfl, by unfold f_X5_pondAnswer; all_goals (rw [if_neg c_1]); all_goals (rw [if_neg c_2]); all_goals (rw [if_neg c_4]); all_goals (rw [if_pos c_7]); all_goals rfl, by rw [ht]; exact hP9, hD9⟩, hS.F ht⟩) hS.2.2 dX5_pondAnswer_80
        · by_cases c_8 : p1 = 4
          · refine lv_tableIn (off := 80) (tgt := 81) hx hb dX5_pondAnswer_1 (by rw [c_8]; decide) (by rw [c_8]; decide) (by rw [c_8]; rfl) (by decide) ?_
            refine lv_aload_n hx hb dX5_pondAnswer_81 rfl (lv_at hl 0 rfl) ?_
            refine va_get (D := G.1) (ci := 5) (v := .double to) (C := RX5) (T := TX5) (N := 6) hx hb hts hiX5 hown hK hP 0 rfl rfl 5 (by decide) (hts (.fieldLink RX5 201 "TideMill" "toll" "D") (List.mem_of_getElem? (i := 6) rfl)) (fun _ h9 => h9) rfl dX5_pondAnswer_82 ?_
            have hP9 := hP.sub (ws' := [tc_X5 a0 ma0 ta0 lk rf pu to, tc_X1 ma0 ma1 ma2 ma3 ma4 fh lh ee, tc_X4 ma1 tk mo su, tc_X3 ma2 lv si ga sl sc fo]) [0, 1, 2, 3] rfl
            have hD9 := hD.sub (ws' := [tc_X5 a0 ma0 ta0 lk rf pu to, tc_X1 ma0 ma1 ma2 ma3 ma4 fh lh ee, tc_X4 ma1 tk mo su, tc_X3 ma2 lv si ga sl sc fo]) [0, 1, 2, 3] (by decide) rfl
            exact W.dret (v := to) hx hb hr (fun t ht hW => ⟨⟨to, (), rfl, by unfold f_X5_pondAnswer; all_goals (rw [if_neg c_1]); all_goals (rw [if_neg c_2]); all_goals (rw [if_neg c_4]); all_goals (rw [if_neg c_7]); all_goals (rw [if_pos c_8]); all_goals rfl, by rw [ht]; exact hP9, hD9⟩, hS.F ht⟩) hS.2.2 dX5_pondAnswer_85
          · have hsw : (p1).toInt < 0 ∨ 4 < (p1).toInt := tm_sw 4 (tm_no4 c_1 c_2 c_4 c_7 c_8)
            refine lv_tableOut (tgt := 86) hx hb dX5_pondAnswer_1 hsw (by decide) ?_
            refine lv_aload_n hx hb dX5_pondAnswer_86 rfl (lv_at hl 0 rfl) ?_
            refine va_get (D := G.1) (ci := 5) (v := .ref ma0) (C := RX5) (T := TX5) (N := 6) hx hb hts hiX5 hown hK hP 0 rfl rfl 0 (by decide) (hts (.fieldLink RX5 10 "TideMill" "mill" "LTideMill$Mill;") (List.mem_of_getElem? (i := 1) rfl)) (fun _ h9 => h9) rfl dX5_pondAnswer_87 ?_
            refine va_get (D := G.1) (ci := 1) (v := .ref ma1) (C := RX1) (T := TX1) (N := 7) hx hb hts hiX1 hown hK hP 1 rfl rfl 0 (by decide) (hts (.fieldLink RX5 30 "TideMill$Mill" "sea" "LTideMill$Sea;") (List.mem_of_getElem? (i := 7) rfl)) (fun _ h9 => h9) rfl dX5_pondAnswer_90 ?_
            refine lv_aload_n hx hb dX5_pondAnswer_93 rfl (lv_at hl 0 rfl) ?_
            refine va_get (D := G.1) (ci := 5) (v := .ref ma0) (C := RX5) (T := TX5) (N := 6) hx hb hts hiX5 hown hK hP 0 rfl rfl 0 (by decide) (hts (.fieldLink RX5 10 "TideMill" "mill" "LTideMill$Mill;") (List.mem_of_getElem? (i := 1) rfl)) (fun _ h9 => h9) rfl dX5_pondAnswer_94 ?_
            refine va_get (D := G.1) (ci := 1) (v := .ref ma1) (C := RX1) (T := TX1) (N := 7) hx hb hts hiX1 hown hK hP 1 rfl rfl 0 (by decide) (hts (.fieldLink RX5 30 "TideMill$Mill" "sea" "LTideMill$Sea;") (List.mem_of_getElem? (i := 7) rfl)) (fun _ h9 => h9) rfl dX5_pondAnswer_97 ?_
            refine va_get (D := G.1) (ci := 4) (v := .int tk) (C := RX4) (T := TX4) (N := 3) hx hb hts hiX4 hown hK hP 2 rfl rfl 0 (by decide) (hts (.fieldLink RX5 40 "TideMill$Sea" "tick" "I") (List.mem_of_getElem? (i := 8) rfl)) (fun _ h9 => h9) rfl dX5_pondAnswer_100 ?_
            have hPc := hP.sub (ws' := [tc_X4 ma1 tk mo su]) [2] rfl
            have hDc := hD.sub (ws' := [tc_X4 ma1 tk mo su]) [2] (by decide) rfl
            have hFc := va_free (wc := [tc_X4 ma1 tk mo su]) hD hS hA [2] rfl
            refine va_calld (va_runV (As := [.int tk]) (rest := []) ⟨hx, hb, hml, hown, hts⟩ (c_X4_rangeOn l G ma1 s.heap.size tk mo su tk (n_9 c_1 c_2 c_4 c_7 c_8)) (cwV 1 hts gX5_pondAnswer_X4_rangeOn rfl rfl rfl (by decide +kernel) ⟨(Nat.le_of_ble_eq_true rfl), (Nat.le_of_ble_eq_true rfl)⟩) (tm_preV hK hN hV hS hPc hDc hFc (va_recv hK hPc (ci := 4) (q0 := 0) rfl rfl)) rfl rfl hl.1 rfl (lv_room (Nat.le_of_ble_eq_true rfl)) dX5_pondAnswer_103 ⟨(Nat.le_of_ble_eq_true rfl), (Nat.le_of_ble_eq_true rfl)⟩) hS (fun q _ h => hFc q h) hFc (fun r_10 u t H locs ht hvm hw_10 hB hz1 hk1 hS => ?_)
            obtain ⟨hP1, hD1⟩ := hB
            rw [ht] at hP1
            try dsimp only at hw_10
            obtain ⟨hP, hD⟩ := va_join (wr := [tc_X5 a0 ma0 ta0 lk rf pu to, tc_X1 ma0 ma1 ma2 ma3 ma4 fh lh ee, tc_X3 ma2 lv si ga sl sc fo]) (w1 := [tc_X4 ma1 tk mo su]) hP hD [2] [0, 1, 3] rfl rfl (by decide) (by decide) hk1 hFc hP1 hD1
            have hP : va_P G.1 vwCl [tc_X5 a0 ma0 ta0 lk rf pu to, tc_X1 ma0 ma1 ma2 ma3 ma4 fh lh ee, tc_X3 ma2 lv si ga sl sc fo, tc_X4 ma1 tk mo su] H := hP
            have hD : va_D A [tc_X5 a0 ma0 ta0 lk rf pu to, tc_X1 ma0 ma1 ma2 ma3 ma4 fh lh ee, tc_X3 ma2 lv si ga sl sc fo, tc_X4 ma1 tk mo su] := hD
            subst hw_10
            have hP9 := hP.sub (ws' := [tc_X5 a0 ma0 ta0 lk rf pu to, tc_X1 ma0 ma1 ma2 ma3 ma4 fh lh ee, tc_X4 ma1 tk mo su, tc_X3 ma2 lv si ga sl sc fo]) [0, 1, 3, 2] rfl
            have hD9 := hD.sub (ws' := [tc_X5 a0 ma0 ta0 lk rf pu to, tc_X1 ma0 ma1 ma2 ma3 ma4 fh lh ee, tc_X4 ma1 tk mo su, tc_X3 ma2 lv si ga sl sc fo]) [0, 1, 3, 2] (by decide) rfl
            exact W.dret (v := f_X4_rangeOn mo tk) hx hb hr (fun t ht hW => ⟨⟨f_X4_rangeOn mo tk, (), rfl, by unfold f_X5_pondAnswer; all_goals (rw [if_neg c_1]); all_goals (rw [if_neg c_2]); all_goals (rw [if_neg c_4]); all_goals (rw [if_neg c_7]); all_goals (rw [if_neg c_8]); all_goals rfl, by rw [ht]; exact hP9, hD9⟩, hS.F ht⟩) hS.2.2 dX5_pondAnswer_106
set_option maxHeartbeats 4000000 in
set_option maxRecDepth 100000 in
theorem c_X5_pairAnswer (l : Launch) (G : tm_G) (a0 : Nat) (ma0 : Nat) (ta0 : Nat) (ma1 : Nat) (ma2 : Nat) (ma3 : Nat) (ma4 : Nat) (md0 : Nat) (md1 : Nat) (md2 : Nat) (md3 : Nat) (sz : Nat) (lk : Int32) (rf : Int32) (pu : Int32) (to : UInt64) (fh : Int32) (lh : Int32) (ee : Int32) (pn : Int32) (dl : Nat → UInt32) (pl : Nat → Int32) (dr : Nat → Int32) (sp : Nat → Int32) (p1 : Int32) (p2 : Int32) (hn : n_X5_pairAnswer p1 p2) : Met l yX5_pairAnswer wsX5_pairAnswer ({ frames := 0, cells := 0, slots := 0, locals := 0 }) (va_Pc [.ref a0, .int p1, .int p2] (tm_B G [tc_X5 a0 ma0 ta0 lk rf pu to, tc_X1 ma0 ma1 ma2 ma3 ma4 fh lh ee, tc_X2 ma4 md0 md1 md2 md3 pn, tc_F G md0 3 dl, tc_I G md1 3 pl, tc_I G md2 3 dr, tc_I G md3 3 sp] sz)) (va_Qi (fun (r : Int32) (u : Unit) => r = f_X5_pairAnswer pl dr sp p1 p2) (fun (u : Unit) (t : State) => va_P G.1 vwCl [tc_X5 a0 ma0 ta0 lk rf pu to, tc_X1 ma0 ma1 ma2 ma3 ma4 fh lh ee, tc_X2 ma4 md0 md1 md2 md3 pn, tc_F G md0 3 dl, tc_I G md1 3 pl, tc_I G md2 3 dr, tc_I G md3 3 sp] t.heap ∧ va_D (va_A [tc_X5 a0 ma0 ta0 lk rf pu to, tc_X1 ma0 ma1 ma2 ma3 ma4 fh lh ee, tc_X2 ma4 md0 md1 md2 md3 pn, tc_F G md0 3 dl, tc_I G md1 3 pl, tc_I G md2 3 dr, tc_I G md3 3 sp] sz) [tc_X5 a0 ma0 ta0 lk rf pu to, tc_X1 ma0 ma1 ma2 ma3 ma4 fh lh ee, tc_X2 ma4 md0 md1 md2 md3 pn, tc_F G md0 3 dl, tc_I G md1 3 pl, tc_I G md2 3 dr, tc_I G md3 3 sp]) (va_A [tc_X5 a0 ma0 ta0 lk rf pu to, tc_X1 ma0 ma1 ma2 ma3 ma4 fh lh ee, tc_X2 ma4 md0 md1 md2 md3 pn, tc_F G md0 3 dl, tc_I G md1 3 pl, tc_I G md2 3 dr, tc_I G md3 3 sp] sz)) 0 0 (va_A [tc_X5 a0 ma0 ta0 lk rf pu to, tc_X1 ma0 ma1 ma2 ma3 ma4 fh lh ee, tc_X2 ma4 md0 md1 md2 md3 pn, tc_F G md0 3 dl, tc_I G md1 3 pl, tc_I G md2 3 dr, tc_I G md3 3 sp] sz) := by
  refine Met.ofW (cc := cX5_pairAnswer) (maxL := 3) (ret := (some .int)) (by decide) rfl ?_
  intro p e s m args below meth c s₁ B hml hv
  obtain ⟨rfl, hsz, hP, hK, hD0, hN, hV⟩ := hv
  have hx := B.exec
  have hb := B.bytes
  have hr := B.returns
  have hts := atoms_spec (ws := wsX5_pairAnswer) B.pre
  have hown : s.vm.findClass RX5 = some m.cls := findClass_of_methodNamed B.named
  have hlocks := B.notSynchronized
  subst hsz
  obtain ⟨n_2, n_4, n_5⟩ := hn
  have hiX1 : ∀ w ∈ u_ws RX1 TX1 7, w ∈ wsX5_pairAnswer := fun _ h => List.mem_cons_of_mem _ (List.mem_append_left _ (List.mem_append_right _ h))
  have hiX2 : ∀ w ∈ u_ws RX2 TX2 5, w ∈ wsX5_pairAnswer := fun _ h => List.mem_cons_of_mem _ (List.mem_append_right _ h)
  have hiX5 : ∀ w ∈ u_ws RX5 TX5 6, w ∈ wsX5_pairAnswer := fun _ h => List.mem_cons_of_mem _ (List.mem_append_left _ (List.mem_append_left _ (List.mem_append_right _ h)))
  have hD := hD0.self (sz := s.heap.size)
  generalize hAe : va_A [tc_X5 a0 ma0 ta0 lk rf pu to, tc_X1 ma0 ma1 ma2 ma3 ma4 fh lh ee, tc_X2 ma4 md0 md1 md2 md3 pn, tc_F G md0 3 dl, tc_I G md1 3 pl, tc_I G md2 3 dr, tc_I G md3 3 sp] s.heap.size = A at hD hV ⊢
  have hA : ∀ q : Nat, s.heap.size ≤ q → A q := fun q h => by rw [← hAe]; exact Or.inr h
  have hS : va_S A s.heap s.heap [] := va_S.rf
  have hl := lv_entry ([.ref a0, .int p1, .int p2]) (n := 3) (Nat.le_of_ble_eq_true rfl)
  rw [lg_entry_eq]
  generalize (lg_sl ([.ref a0, .int p1, .int p2]) ++ List.replicate (3 - (lg_sl ([.ref a0, .int p1, .int p2])).length) Slot.unset).toArray = ls at hl ⊢
  have hl : lv_has ls 3 [(0, .ref a0), (1, .int p1), (2, .int p2)] := hl
  refine lv_iload_n hx hb dX5_pairAnswer_0 rfl (lv_at hl 2 rfl) ?_
  by_cases c_1 : p2 = 0
  · refine lv_lookup (off := 27) (tgt := 28) hx hb dX5_pairAnswer_1 (by decide) (by rw [c_1]; rfl) (by decide) ?_
    refine lv_aload_n hx hb dX5_pairAnswer_28 rfl (lv_at hl 0 rfl) ?_
    refine va_get (D := G.1) (ci := 5) (v := .ref ma0) (C := RX5) (T := TX5) (N := 6) hx hb hts hiX5 hown hK hP 0 rfl rfl 0 (by decide) (hts (.fieldLink RX5 10 "TideMill" "mill" "LTideMill$Mill;") (List.mem_of_getElem? (i := 1) rfl)) (fun _ h9 => h9) rfl dX5_pairAnswer_29 ?_
    refine va_get (D := G.1) (ci := 1) (v := .ref ma4) (C := RX1) (T := TX1) (N := 7) hx hb hts hiX1 hown hK hP 1 rfl rfl 3 (by decide) (hts (.fieldLink RX5 102 "TideMill$Mill" "pairs" "LTideMill$Pairs;") (List.mem_of_getElem? (i := 2) rfl)) (fun _ h9 => h9) rfl dX5_pairAnswer_32 ?_
    refine va_get (D := G.1) (ci := 2) (v := .ref md1) (C := RX2) (T := TX2) (N := 5) hx hb hts hiX2 hown hK hP 2 rfl rfl 1 (by decide) (hts (.fieldLink RX5 154 "TideMill$Pairs" "lot" "[I") (List.mem_of_getElem? (i := 3) rfl)) (fun _ h9 => h9) rfl dX5_pairAnswer_35 ?_
    refine lv_iload_n hx hb dX5_pairAnswer_38 rfl (lv_at hl 1 rfl) ?_
    refine va_iald (n := 3) (f := pl) hx hb hK hP 4 0 rfl rfl (n_2 c_1) dX5_pairAnswer_39 ?_
    have hP9 := hP.sub (ws' := [tc_X5 a0 ma0 ta0 lk rf pu to, tc_X1 ma0 ma1 ma2 ma3 ma4 fh lh ee, tc_X2 ma4 md0 md1 md2 md3 pn, tc_F G md0 3 dl, tc_I G md1 3 pl, tc_I G md2 3 dr, tc_I G md3 3 sp]) [0, 1, 2, 3, 4, 5, 6] rfl
    have hD9 := hD.sub (ws' := [tc_X5 a0 ma0 ta0 lk rf pu to, tc_X1 ma0 ma1 ma2 ma3 ma4 fh lh ee, tc_X2 ma4 md0 md1 md2 md3 pn, tc_F G md0 3 dl, tc_I G md1 3 pl, tc_I G md2 3 dr, tc_I G md3 3 sp]) [0, 1, 2, 3, 4, 5, 6] (by decide) rfl
    exact W.iret (v := pl p1.toNatClampNeg) hx hb hr (fun t ht hW => ⟨⟨pl p1.toNatClampNeg, (), rfl, by unfold f_X5_pairAnswer; all_goals (rw [if_pos c_1]); all_goals rfl, by rw [ht]; exact hP9, hD9⟩, hS.F ht⟩) hS.2.2 dX5_pairAnswer_40
  · by_cases c_3 : p2 = 1
    · refine lv_lookup (off := 40) (tgt := 41) hx hb dX5_pairAnswer_1 (by decide) (by rw [c_3]; rfl) (by decide) ?_
      refine lv_aload_n hx hb dX5_pairAnswer_41 rfl (lv_at hl 0 rfl) ?_
      refine va_get (D := G.1) (ci := 5) (v := .ref ma0) (C := RX5) (T := TX5) (N := 6) hx hb hts hiX5 hown hK hP 0 rfl rfl 0 (by decide) (hts (.fieldLink RX5 10 "TideMill" "mill" "LTideMill$Mill;") (List.mem_of_getElem? (i := 1) rfl)) (fun _ h9 => h9) rfl dX5_pairAnswer_42 ?_
      refine va_get (D := G.1) (ci := 1) (v := .ref ma4) (C := RX1) (T := TX1) (N := 7) hx hb hts hiX1 hown hK hP 1 rfl rfl 3 (by decide) (hts (.fieldLink RX5 102 "TideMill$Mill" "pairs" "LTideMill$Pairs;") (List.mem_of_getElem? (i := 2) rfl)) (fun _ h9 => h9) rfl dX5_pairAnswer_45 ?_
      refine va_get (D := G.1) (ci := 2) (v := .ref md2) (C := RX2) (T := TX2) (N := 5) hx hb hts hiX2 hown hK hP 2 rfl rfl 2 (by decide) (hts (.fieldLink RX5 166 "TideMill$Pairs" "dressing" "[I") (List.mem_of_getElem? (i := 4) rfl)) (fun _ h9 => h9) rfl dX5_pairAnswer_48 ?_
      refine lv_iload_n hx hb dX5_pairAnswer_51 rfl (lv_at hl 1 rfl) ?_
      refine va_iald (n := 3) (f := dr) hx hb hK hP 5 0 rfl rfl (n_4 c_1 c_3) dX5_pairAnswer_52 ?_
      have hP9 := hP.sub (ws' := [tc_X5 a0 ma0 ta0 lk rf pu to, tc_X1 ma0 ma1 ma2 ma3 ma4 fh lh ee, tc_X2 ma4 md0 md1 md2 md3 pn, tc_F G md0 3 dl, tc_I G md1 3 pl, tc_I G md2 3 dr, tc_I G md3 3 sp]) [0, 1, 2, 3, 4, 5, 6] rfl
      have hD9 := hD.sub (ws' := [tc_X5 a0 ma0 ta0 lk rf pu to, tc_X1 ma0 ma1 ma2 ma3 ma4 fh lh ee, tc_X2 ma4 md0 md1 md2 md3 pn, tc_F G md0 3 dl, tc_I G md1 3 pl, tc_I G md2 3 dr, tc_I G md3 3 sp]) [0, 1, 2, 3, 4, 5, 6] (by decide) rfl
      exact W.iret (v := dr p1.toNatClampNeg) hx hb hr (fun t ht hW => ⟨⟨dr p1.toNatClampNeg, (), rfl, by unfold f_X5_pairAnswer; all_goals (rw [if_neg c_1]); all_goals (rw [if_pos c_3]); all_goals rfl, by rw [ht]; exact hP9, hD9⟩, hS.F ht⟩) hS.2.2 dX5_pairAnswer_53
    · refine lv_lookup (off := 53) (tgt := 54) hx hb dX5_pairAnswer_1 (by decide) (tm_lk2 c_1 c_3) (by decide) ?_
      refine lv_aload_n hx hb dX5_pairAnswer_54 rfl (lv_at hl 0 rfl) ?_
      refine va_get (D := G.1) (ci := 5) (v := .ref ma0) (C := RX5) (T := TX5) (N := 6) hx hb hts hiX5 hown hK hP 0 rfl rfl 0 (by decide) (hts (.fieldLink RX5 10 "TideMill" "mill" "LTideMill$Mill;") (List.mem_of_getElem? (i := 1) rfl)) (fun _ h9 => h9) rfl dX5_pairAnswer_55 ?_
      refine va_get (D := G.1) (ci := 1) (v := .ref ma4) (C := RX1) (T := TX1) (N := 7) hx hb hts hiX1 hown hK hP 1 rfl rfl 3 (by decide) (hts (.fieldLink RX5 102 "TideMill$Mill" "pairs" "LTideMill$Pairs;") (List.mem_of_getElem? (i := 2) rfl)) (fun _ h9 => h9) rfl dX5_pairAnswer_58 ?_
      refine va_get (D := G.1) (ci := 2) (v := .ref md3) (C := RX2) (T := TX2) (N := 5) hx hb hts hiX2 hown hK hP 2 rfl rfl 3 (by decide) (hts (.fieldLink RX5 296 "TideMill$Pairs" "sparks" "[I") (List.mem_of_getElem? (i := 5) rfl)) (fun _ h9 => h9) rfl dX5_pairAnswer_61 ?_
      refine lv_iload_n hx hb dX5_pairAnswer_64 rfl (lv_at hl 1 rfl) ?_
      refine va_iald (n := 3) (f := sp) hx hb hK hP 6 0 rfl rfl (n_5 c_1 c_3) dX5_pairAnswer_65 ?_
      have hP9 := hP.sub (ws' := [tc_X5 a0 ma0 ta0 lk rf pu to, tc_X1 ma0 ma1 ma2 ma3 ma4 fh lh ee, tc_X2 ma4 md0 md1 md2 md3 pn, tc_F G md0 3 dl, tc_I G md1 3 pl, tc_I G md2 3 dr, tc_I G md3 3 sp]) [0, 1, 2, 3, 4, 5, 6] rfl
      have hD9 := hD.sub (ws' := [tc_X5 a0 ma0 ta0 lk rf pu to, tc_X1 ma0 ma1 ma2 ma3 ma4 fh lh ee, tc_X2 ma4 md0 md1 md2 md3 pn, tc_F G md0 3 dl, tc_I G md1 3 pl, tc_I G md2 3 dr, tc_I G md3 3 sp]) [0, 1, 2, 3, 4, 5, 6] (by decide) rfl
      exact W.iret (v := sp p1.toNatClampNeg) hx hb hr (fun t ht hW => ⟨⟨sp p1.toNatClampNeg, (), rfl, by unfold f_X5_pairAnswer; all_goals (rw [if_neg c_1]); all_goals (rw [if_neg c_3]); all_goals rfl, by rw [ht]; exact hP9, hD9⟩, hS.F ht⟩) hS.2.2 dX5_pairAnswer_66
set_option maxHeartbeats 4000000 in
set_option maxRecDepth 100000 in
theorem c_X5_lotAnswer (l : Launch) (G : tm_G) (a0 : Nat) (ma0 : Nat) (ta0 : Nat) (ma1 : Nat) (ma2 : Nat) (ma3 : Nat) (ma4 : Nat) (mb0 : Nat) (mb1 : Nat) (mb2 : Nat) (mb3 : Nat) (mb4 : Nat) (mb5 : Nat) (md0 : Nat) (md1 : Nat) (md2 : Nat) (md3 : Nat) (sz : Nat) (lk : Int32) (rf : Int32) (pu : Int32) (to : UInt64) (fh : Int32) (lh : Int32) (ee : Int32) (ln : Int32) (ow : Nat → Int32) (gr : Nat → Int32) (we : Nat → Int32) (du : Nat → Int32) (sa : Nat → Int32) (le : Nat → UInt64) (pn : Int32) (dl : Nat → UInt32) (pl : Nat → Int32) (dr : Nat → Int32) (sp : Nat → Int32) (p1 : Int32) (p2 : Int32) (hn : n_X5_lotAnswer pn pl p1 p2) : Met l yX5_lotAnswer wsX5_lotAnswer ({ frames := 1, cells := 0, slots := 0, locals := 22 }) (va_Pc [.ref a0, .int p1, .int p2] (tm_B G [tc_X5 a0 ma0 ta0 lk rf pu to, tc_X1 ma0 ma1 ma2 ma3 ma4 fh lh ee, tc_X0 ma3 mb0 mb1 mb2 mb3 mb4 mb5 ln, tc_I G mb0 10 ow, tc_I G mb1 10 gr, tc_I G mb2 10 we, tc_I G mb3 10 du, tc_I G mb4 10 sa, tc_D G mb5 10 le, tc_X2 ma4 md0 md1 md2 md3 pn, tc_F G md0 3 dl, tc_I G md1 3 pl, tc_I G md2 3 dr, tc_I G md3 3 sp] sz)) (va_Qi (fun (r : Int32) (u : Unit) => r = f_X5_lotAnswer ow gr we du sa pn pl p1 p2) (fun (u : Unit) (t : State) => va_P G.1 vwCl [tc_X5 a0 ma0 ta0 lk rf pu to, tc_X1 ma0 ma1 ma2 ma3 ma4 fh lh ee, tc_X0 ma3 mb0 mb1 mb2 mb3 mb4 mb5 ln, tc_I G mb0 10 ow, tc_I G mb1 10 gr, tc_I G mb2 10 we, tc_I G mb3 10 du, tc_I G mb4 10 sa, tc_D G mb5 10 le, tc_X2 ma4 md0 md1 md2 md3 pn, tc_F G md0 3 dl, tc_I G md1 3 pl, tc_I G md2 3 dr, tc_I G md3 3 sp] t.heap ∧ va_D (va_A [tc_X5 a0 ma0 ta0 lk rf pu to, tc_X1 ma0 ma1 ma2 ma3 ma4 fh lh ee, tc_X0 ma3 mb0 mb1 mb2 mb3 mb4 mb5 ln, tc_I G mb0 10 ow, tc_I G mb1 10 gr, tc_I G mb2 10 we, tc_I G mb3 10 du, tc_I G mb4 10 sa, tc_D G mb5 10 le, tc_X2 ma4 md0 md1 md2 md3 pn, tc_F G md0 3 dl, tc_I G md1 3 pl, tc_I G md2 3 dr, tc_I G md3 3 sp] sz) [tc_X5 a0 ma0 ta0 lk rf pu to, tc_X1 ma0 ma1 ma2 ma3 ma4 fh lh ee, tc_X0 ma3 mb0 mb1 mb2 mb3 mb4 mb5 ln, tc_I G mb0 10 ow, tc_I G mb1 10 gr, tc_I G mb2 10 we, tc_I G mb3 10 du, tc_I G mb4 10 sa, tc_D G mb5 10 le, tc_X2 ma4 md0 md1 md2 md3 pn, tc_F G md0 3 dl, tc_I G md1 3 pl, tc_I G md2 3 dr, tc_I G md3 3 sp]) (va_A [tc_X5 a0 ma0 ta0 lk rf pu to, tc_X1 ma0 ma1 ma2 ma3 ma4 fh lh ee, tc_X0 ma3 mb0 mb1 mb2 mb3 mb4 mb5 ln, tc_I G mb0 10 ow, tc_I G mb1 10 gr, tc_I G mb2 10 we, tc_I G mb3 10 du, tc_I G mb4 10 sa, tc_D G mb5 10 le, tc_X2 ma4 md0 md1 md2 md3 pn, tc_F G md0 3 dl, tc_I G md1 3 pl, tc_I G md2 3 dr, tc_I G md3 3 sp] sz)) 0 0 (va_A [tc_X5 a0 ma0 ta0 lk rf pu to, tc_X1 ma0 ma1 ma2 ma3 ma4 fh lh ee, tc_X0 ma3 mb0 mb1 mb2 mb3 mb4 mb5 ln, tc_I G mb0 10 ow, tc_I G mb1 10 gr, tc_I G mb2 10 we, tc_I G mb3 10 du, tc_I G mb4 10 sa, tc_D G mb5 10 le, tc_X2 ma4 md0 md1 md2 md3 pn, tc_F G md0 3 dl, tc_I G md1 3 pl, tc_I G md2 3 dr, tc_I G md3 3 sp] sz) := by
  refine Met.ofW (cc := cX5_lotAnswer) (maxL := 3) (ret := (some .int)) (by decide) rfl ?_
  intro p e s m args below meth c s₁ B hml hv
  obtain ⟨rfl, hsz, hP, hK, hD0, hN, hV⟩ := hv
  have hx := B.exec
  have hb := B.bytes
  have hr := B.returns
  have hts := atoms_spec (ws := wsX5_lotAnswer) B.pre
  have hown : s.vm.findClass RX5 = some m.cls := findClass_of_methodNamed B.named
  have hlocks := B.notSynchronized
  subst hsz
  obtain ⟨n_2, n_4, n_6, n_8, n_10, n_11⟩ := hn
  have hiX0 : ∀ w ∈ u_ws RX0 TX0 7, w ∈ wsX5_lotAnswer := fun _ h => List.mem_cons_of_mem _ (List.mem_append_left _ (List.mem_append_right _ h))
  have hiX1 : ∀ w ∈ u_ws RX1 TX1 7, w ∈ wsX5_lotAnswer := fun _ h => List.mem_cons_of_mem _ (List.mem_append_left _ (List.mem_append_left _ (List.mem_append_right _ h)))
  have hiX5 : ∀ w ∈ u_ws RX5 TX5 6, w ∈ wsX5_lotAnswer := fun _ h => List.mem_cons_of_mem _ (List.mem_append_left _ (List.mem_append_left _ (List.mem_append_left _ (List.mem_append_right _ h))))
  have hD := hD0.self (sz := s.heap.size)
  generalize hAe : va_A [tc_X5 a0 ma0 ta0 lk rf pu to, tc_X1 ma0 ma1 ma2 ma3 ma4 fh lh ee, tc_X0 ma3 mb0 mb1 mb2 mb3 mb4 mb5 ln, tc_I G mb0 10 ow, tc_I G mb1 10 gr, tc_I G mb2 10 we, tc_I G mb3 10 du, tc_I G mb4 10 sa, tc_D G mb5 10 le, tc_X2 ma4 md0 md1 md2 md3 pn, tc_F G md0 3 dl, tc_I G md1 3 pl, tc_I G md2 3 dr, tc_I G md3 3 sp] s.heap.size = A at hD hV ⊢
  have hA : ∀ q : Nat, s.heap.size ≤ q → A q := fun q h => by rw [← hAe]; exact Or.inr h
  have hS : va_S A s.heap s.heap [] := va_S.rf
  have hl := lv_entry ([.ref a0, .int p1, .int p2]) (n := 3) (Nat.le_of_ble_eq_true rfl)
  rw [lg_entry_eq]
  generalize (lg_sl ([.ref a0, .int p1, .int p2]) ++ List.replicate (3 - (lg_sl ([.ref a0, .int p1, .int p2])).length) Slot.unset).toArray = ls at hl ⊢
  have hl : lv_has ls 3 [(0, .ref a0), (1, .int p1), (2, .int p2)] := hl
  refine lv_iload_n hx hb dX5_lotAnswer_0 rfl (lv_at hl 2 rfl) ?_
  by_cases c_1 : p2 = 0
  · refine lv_tableIn (off := 35) (tgt := 36) hx hb dX5_lotAnswer_1 (by rw [c_1]; decide) (by rw [c_1]; decide) (by rw [c_1]; rfl) (by decide) ?_
    refine lv_aload_n hx hb dX5_lotAnswer_36 rfl (lv_at hl 0 rfl) ?_
    refine va_get (D := G.1) (ci := 5) (v := .ref ma0) (C := RX5) (T := TX5) (N := 6) hx hb hts hiX5 hown hK hP 0 rfl rfl 0 (by decide) (hts (.fieldLink RX5 10 "TideMill" "mill" "LTideMill$Mill;") (List.mem_of_getElem? (i := 1) rfl)) (fun _ h9 => h9) rfl dX5_lotAnswer_37 ?_
    refine va_get (D := G.1) (ci := 1) (v := .ref ma3) (C := RX1) (T := TX1) (N := 7) hx hb hts hiX1 hown hK hP 1 rfl rfl 2 (by decide) (hts (.fieldLink RX5 119 "TideMill$Mill" "lots" "LTideMill$Lots;") (List.mem_of_getElem? (i := 2) rfl)) (fun _ h9 => h9) rfl dX5_lotAnswer_40 ?_
    refine va_get (D := G.1) (ci := 0) (v := .ref mb0) (C := RX0) (T := TX0) (N := 7) hx hb hts hiX0 hown hK hP 2 rfl rfl 0 (by decide) (hts (.fieldLink RX5 299 "TideMill$Lots" "owner" "[I") (List.mem_of_getElem? (i := 3) rfl)) (fun _ h9 => h9) rfl dX5_lotAnswer_43 ?_
    refine lv_iload_n hx hb dX5_lotAnswer_46 rfl (lv_at hl 1 rfl) ?_
    refine va_iald (n := 10) (f := ow) hx hb hK hP 3 0 rfl rfl (n_2 c_1) dX5_lotAnswer_47 ?_
    have hP9 := hP.sub (ws' := [tc_X5 a0 ma0 ta0 lk rf pu to, tc_X1 ma0 ma1 ma2 ma3 ma4 fh lh ee, tc_X0 ma3 mb0 mb1 mb2 mb3 mb4 mb5 ln, tc_I G mb0 10 ow, tc_I G mb1 10 gr, tc_I G mb2 10 we, tc_I G mb3 10 du, tc_I G mb4 10 sa, tc_D G mb5 10 le, tc_X2 ma4 md0 md1 md2 md3 pn, tc_F G md0 3 dl, tc_I G md1 3 pl, tc_I G md2 3 dr, tc_I G md3 3 sp]) [0, 1, 2, 3, 4, 5, 6, 7, 8, 9, 10, 11, 12, 13] rfl
    have hD9 := hD.sub (ws' := [tc_X5 a0 ma0 ta0 lk rf pu to, tc_X1 ma0 ma1 ma2 ma3 ma4 fh lh ee, tc_X0 ma3 mb0 mb1 mb2 mb3 mb4 mb5 ln, tc_I G mb0 10 ow, tc_I G mb1 10 gr, tc_I G mb2 10 we, tc_I G mb3 10 du, tc_I G mb4 10 sa, tc_D G mb5 10 le, tc_X2 ma4 md0 md1 md2 md3 pn, tc_F G md0 3 dl, tc_I G md1 3 pl, tc_I G md2 3 dr, tc_I G md3 3 sp]) [0, 1, 2, 3, 4, 5, 6, 7, 8, 9, 10, 11, 12, 13] (by decide) rfl
    exact W.iret (v := ow p1.toNatClampNeg) hx hb hr (fun t ht hW => ⟨⟨ow p1.toNatClampNeg, (), rfl, by unfold f_X5_lotAnswer; all_goals (rw [if_pos c_1]); all_goals rfl, by rw [ht]; exact hP9, hD9⟩, hS.F ht⟩) hS.2.2 dX5_lotAnswer_48
  · by_cases c_3 : p2 = 1
    · refine lv_tableIn (off := 48) (tgt := 49) hx hb dX5_lotAnswer_1 (by rw [c_3]; decide) (by rw [c_3]; decide) (by rw [c_3]; rfl) (by decide) ?_
      refine lv_aload_n hx hb dX5_lotAnswer_49 rfl (lv_at hl 0 rfl) ?_
      refine va_get (D := G.1) (ci := 5) (v := .ref ma0) (C := RX5) (T := TX5) (N := 6) hx hb hts hiX5 hown hK hP 0 rfl rfl 0 (by decide) (hts (.fieldLink RX5 10 "TideMill" "mill" "LTideMill$Mill;") (List.mem_of_getElem? (i := 1) rfl)) (fun _ h9 => h9) rfl dX5_lotAnswer_50 ?_
      refine va_get (D := G.1) (ci := 1) (v := .ref ma3) (C := RX1) (T := TX1) (N := 7) hx hb hts hiX1 hown hK hP 1 rfl rfl 2 (by decide) (hts (.fieldLink RX5 119 "TideMill$Mill" "lots" "LTideMill$Lots;") (List.mem_of_getElem? (i := 2) rfl)) (fun _ h9 => h9) rfl dX5_lotAnswer_53 ?_
      refine va_get (D := G.1) (ci := 0) (v := .ref mb1) (C := RX0) (T := TX0) (N := 7) hx hb hts hiX0 hown hK hP 2 rfl rfl 1 (by decide) (hts (.fieldLink RX5 195 "TideMill$Lots" "grain" "[I") (List.mem_of_getElem? (i := 4) rfl)) (fun _ h9 => h9) rfl dX5_lotAnswer_56 ?_
      refine lv_iload_n hx hb dX5_lotAnswer_59 rfl (lv_at hl 1 rfl) ?_
      refine va_iald (n := 10) (f := gr) hx hb hK hP 4 0 rfl rfl (n_4 c_1 c_3) dX5_lotAnswer_60 ?_
      have hP9 := hP.sub (ws' := [tc_X5 a0 ma0 ta0 lk rf pu to, tc_X1 ma0 ma1 ma2 ma3 ma4 fh lh ee, tc_X0 ma3 mb0 mb1 mb2 mb3 mb4 mb5 ln, tc_I G mb0 10 ow, tc_I G mb1 10 gr, tc_I G mb2 10 we, tc_I G mb3 10 du, tc_I G mb4 10 sa, tc_D G mb5 10 le, tc_X2 ma4 md0 md1 md2 md3 pn, tc_F G md0 3 dl, tc_I G md1 3 pl, tc_I G md2 3 dr, tc_I G md3 3 sp]) [0, 1, 2, 3, 4, 5, 6, 7, 8, 9, 10, 11, 12, 13] rfl
      have hD9 := hD.sub (ws' := [tc_X5 a0 ma0 ta0 lk rf pu to, tc_X1 ma0 ma1 ma2 ma3 ma4 fh lh ee, tc_X0 ma3 mb0 mb1 mb2 mb3 mb4 mb5 ln, tc_I G mb0 10 ow, tc_I G mb1 10 gr, tc_I G mb2 10 we, tc_I G mb3 10 du, tc_I G mb4 10 sa, tc_D G mb5 10 le, tc_X2 ma4 md0 md1 md2 md3 pn, tc_F G md0 3 dl, tc_I G md1 3 pl, tc_I G md2 3 dr, tc_I G md3 3 sp]) [0, 1, 2, 3, 4, 5, 6, 7, 8, 9, 10, 11, 12, 13] (by decide) rfl
      exact W.iret (v := gr p1.toNatClampNeg) hx hb hr (fun t ht hW => ⟨⟨gr p1.toNatClampNeg, (), rfl, by unfold f_X5_lotAnswer; all_goals (rw [if_neg c_1]); all_goals (rw [if_pos c_3]); all_goals rfl, by rw [ht]; exact hP9, hD9⟩, hS.F ht⟩) hS.2.2 dX5_lotAnswer_61
    · by_cases c_5 : p2 = 2
      · refine lv_tableIn (off := 61) (tgt := 62) hx hb dX5_lotAnswer_1 (by rw [c_5]; decide) (by rw [c_5]; decide) (by rw [c_5]; rfl) (by decide) ?_
        refine lv_aload_n hx hb dX5_lotAnswer_62 rfl (lv_at hl 0 rfl) ?_
        refine va_get (D := G.1) (ci := 5) (v := .ref ma0) (C := RX5) (T := TX5) (N := 6) hx hb hts hiX5 hown hK hP 0 rfl rfl 0 (by decide) (hts (.fieldLink RX5 10 "TideMill" "mill" "LTideMill$Mill;") (List.mem_of_getElem? (i := 1) rfl)) (fun _ h9 => h9) rfl dX5_lotAnswer_63 ?_
        refine va_get (D := G.1) (ci := 1) (v := .ref ma3) (C := RX1) (T := TX1) (N := 7) hx hb hts hiX1 hown hK hP 1 rfl rfl 2 (by decide) (hts (.fieldLink RX5 119 "TideMill$Mill" "lots" "LTideMill$Lots;") (List.mem_of_getElem? (i := 2) rfl)) (fun _ h9 => h9) rfl dX5_lotAnswer_66 ?_
        refine va_get (D := G.1) (ci := 0) (v := .ref mb2) (C := RX0) (T := TX0) (N := 7) hx hb hts hiX0 hown hK hP 2 rfl rfl 2 (by decide) (hts (.fieldLink RX5 183 "TideMill$Lots" "weight" "[I") (List.mem_of_getElem? (i := 5) rfl)) (fun _ h9 => h9) rfl dX5_lotAnswer_69 ?_
        refine lv_iload_n hx hb dX5_lotAnswer_72 rfl (lv_at hl 1 rfl) ?_
        refine va_iald (n := 10) (f := we) hx hb hK hP 5 0 rfl rfl (n_6 c_1 c_3 c_5) dX5_lotAnswer_73 ?_
        have hP9 := hP.sub (ws' := [tc_X5 a0 ma0 ta0 lk rf pu to, tc_X1 ma0 ma1 ma2 ma3 ma4 fh lh ee, tc_X0 ma3 mb0 mb1 mb2 mb3 mb4 mb5 ln, tc_I G mb0 10 ow, tc_I G mb1 10 gr, tc_I G mb2 10 we, tc_I G mb3 10 du, tc_I G mb4 10 sa, tc_D G mb5 10 le, tc_X2 ma4 md0 md1 md2 md3 pn, tc_F G md0 3 dl, tc_I G md1 3 pl, tc_I G md2 3 dr, tc_I G md3 3 sp]) [0, 1, 2, 3, 4, 5, 6, 7, 8, 9, 10, 11, 12, 13] rfl
        have hD9 := hD.sub (ws' := [tc_X5 a0 ma0 ta0 lk rf pu to, tc_X1 ma0 ma1 ma2 ma3 ma4 fh lh ee, tc_X0 ma3 mb0 mb1 mb2 mb3 mb4 mb5 ln, tc_I G mb0 10 ow, tc_I G mb1 10 gr, tc_I G mb2 10 we, tc_I G mb3 10 du, tc_I G mb4 10 sa, tc_D G mb5 10 le, tc_X2 ma4 md0 md1 md2 md3 pn, tc_F G md0 3 dl, tc_I G md1 3 pl, tc_I G md2 3 dr, tc_I G md3 3 sp]) [0, 1, 2, 3, 4, 5, 6, 7, 8, 9, 10, 11, 12, 13] (by decide) rfl
        exact W.iret (v := we p1.toNatClampNeg) hx hb hr (fun t ht hW => ⟨⟨we p1.toNatClampNeg, (), rfl, by unfold f_X5_lotAnswer; all_goals (rw [if_neg c_1]); all_goals (rw [if_neg c_3]); all_goals (rw [if_pos c_5]); all_goals rfl, by rw [ht]; exact hP9, hD9⟩, hS.F ht⟩) hS.2.2 dX5_lotAnswer_74
      · by_cases c_7 : p2 = 3
        · refine lv_tableIn (off := 74) (tgt := 75) hx hb dX5_lotAnswer_1 (by rw [c_7]; decide) (by rw [c_7]; decide) (by rw [c_7]; rfl) (by decide) ?_
          refine lv_aload_n hx hb dX5_lotAnswer_75 rfl (lv_at hl 0 rfl) ?_
          refine va_get (D := G.1) (ci := 5) (v := .ref ma0) (C := RX5) (T := TX5) (N := 6) hx hb hts hiX5 hown hK hP 0 rfl rfl 0 (by decide) (hts (.fieldLink RX5 10 "TideMill" "mill" "LTideMill$Mill;") (List.mem_of_getElem? (i := 1) rfl)) (fun _ h9 => h9) rfl dX5_lotAnswer_76 ?_
          refine va_get (D := G.1) (ci := 1) (v := .ref ma3) (C := RX1) (T := TX1) (N := 7) hx hb hts hiX1 hown hK hP 1 rfl rfl 2 (by decide) (hts (.fieldLink RX5 119 "TideMill$Mill" "lots" "LTideMill$Lots;") (List.mem_of_getElem? (i := 2) rfl)) (fun _ h9 => h9) rfl dX5_lotAnswer_79 ?_
          refine va_get (D := G.1) (ci := 0) (v := .ref mb3) (C := RX0) (T := TX0) (N := 7) hx hb hts hiX0 hown hK hP 2 rfl rfl 3 (by decide) (hts (.fieldLink RX5 186 "TideMill$Lots" "dueDay" "[I") (List.mem_of_getElem? (i := 6) rfl)) (fun _ h9 => h9) rfl dX5_lotAnswer_82 ?_
          refine lv_iload_n hx hb dX5_lotAnswer_85 rfl (lv_at hl 1 rfl) ?_
          refine va_iald (n := 10) (f := du) hx hb hK hP 6 0 rfl rfl (n_8 c_1 c_3 c_5 c_7) dX5_lotAnswer_86 ?_
          have hP9 := hP.sub (ws' := [tc_X5 a0 ma0 ta0 lk rf pu to, tc_X1 ma0 ma1 ma2 ma3 ma4 fh lh ee, tc_X0 ma3 mb0 mb1 mb2 mb3 mb4 mb5 ln, tc_I G mb0 10 ow, tc_I G mb1 10 gr, tc_I G mb2 10 we, tc_I G mb3 10 du, tc_I G mb4 10 sa, tc_D G mb5 10 le, tc_X2 ma4 md0 md1 md2 md3 pn, tc_F G md0 3 dl, tc_I G md1 3 pl, tc_I G md2 3 dr, tc_I G md3 3 sp]) [0, 1, 2, 3, 4, 5, 6, 7, 8, 9, 10, 11, 12, 13] rfl
          have hD9 := hD.sub (ws' := [tc_X5 a0 ma0 ta0 lk rf pu to, tc_X1 ma0 ma1 ma2 ma3 ma4 fh lh ee, tc_X0 ma3 mb0 mb1 mb2 mb3 mb4 mb5 ln, tc_I G mb0 10 ow, tc_I G mb1 10 gr, tc_I G mb2 10 we, tc_I G mb3 10 du, tc_I G mb4 10 sa, tc_D G mb5 10 le, tc_X2 ma4 md0 md1 md2 md3 pn, tc_F G md0 3 dl, tc_I G md1 3 pl, tc_I G md2 3 dr, tc_I G md3 3 sp]) [0, 1, 2, 3, 4, 5, 6, 7, 8, 9, 10, 11, 12, 13] (by decide) rfl
          exact W.iret (v := du p1.toNatClampNeg) hx hb hr (fun t ht hW => ⟨⟨du p1.toNatClampNeg, (), rfl, by unfold f_X5_lotAnswer; all_goals (rw [if_neg c_1]); all_goals (rw [if_neg c_3]); all_goals (rw [if_neg c_5]); all_goals (rw [if_pos c_7]); all_goals rfl, by rw [ht]; exact hP9, hD9⟩, hS.F ht⟩) hS.2.2 dX5_lotAnswer_87
        · by_cases c_9 : p2 = 4
          · refine lv_tableIn (off := 87) (tgt := 88) hx hb dX5_lotAnswer_1 (by rw [c_9]; decide) (by rw [c_9]; decide) (by rw [c_9]; rfl) (by decide) ?_
            refine lv_aload_n hx hb dX5_lotAnswer_88 rfl (lv_at hl 0 rfl) ?_
            refine va_get (D := G.1) (ci := 5) (v := .ref ma0) (C := RX5) (T := TX5) (N := 6) hx hb hts hiX5 hown hK hP 0 rfl rfl 0 (by decide) (hts (.fieldLink RX5 10 "TideMill" "mill" "LTideMill$Mill;") (List.mem_of_getElem? (i := 1) rfl)) (fun _ h9 => h9) rfl dX5_lotAnswer_89 ?_
            refine va_get (D := G.1) (ci := 1) (v := .ref ma3) (C := RX1) (T := TX1) (N := 7) hx hb hts hiX1 hown hK hP 1 rfl rfl 2 (by decide) (hts (.fieldLink RX5 119 "TideMill$Mill" "lots" "LTideMill$Lots;") (List.mem_of_getElem? (i := 2) rfl)) (fun _ h9 => h9) rfl dX5_lotAnswer_92 ?_
            refine va_get (D := G.1) (ci := 0) (v := .ref mb4) (C := RX0) (T := TX0) (N := 7) hx hb hts hiX0 hown hK hP 2 rfl rfl 4 (by decide) (hts (.fieldLink RX5 145 "TideMill$Lots" "state" "[I") (List.mem_of_getElem? (i := 7) rfl)) (fun _ h9 => h9) rfl dX5_lotAnswer_95 ?_
            refine lv_iload_n hx hb dX5_lotAnswer_98 rfl (lv_at hl 1 rfl) ?_
            refine va_iald (n := 10) (f := sa) hx hb hK hP 7 0 rfl rfl (n_10 c_1 c_3 c_5 c_7 c_9) dX5_lotAnswer_99 ?_
            have hP9 := hP.sub (ws' := [tc_X5 a0 ma0 ta0 lk rf pu to, tc_X1 ma0 ma1 ma2 ma3 ma4 fh lh ee, tc_X0 ma3 mb0 mb1 mb2 mb3 mb4 mb5 ln, tc_I G mb0 10 ow, tc_I G mb1 10 gr, tc_I G mb2 10 we, tc_I G mb3 10 du, tc_I G mb4 10 sa, tc_D G mb5 10 le, tc_X2 ma4 md0 md1 md2 md3 pn, tc_F G md0 3 dl, tc_I G md1 3 pl, tc_I G md2 3 dr, tc_I G md3 3 sp]) [0, 1, 2, 3, 4, 5, 6, 7, 8, 9, 10, 11, 12, 13] rfl
            have hD9 := hD.sub (ws' := [tc_X5 a0 ma0 ta0 lk rf pu to, tc_X1 ma0 ma1 ma2 ma3 ma4 fh lh ee, tc_X0 ma3 mb0 mb1 mb2 mb3 mb4 mb5 ln, tc_I G mb0 10 ow, tc_I G mb1 10 gr, tc_I G mb2 10 we, tc_I G mb3 10 du, tc_I G mb4 10 sa, tc_D G mb5 10 le, tc_X2 ma4 md0 md1 md2 md3 pn, tc_F G md0 3 dl, tc_I G md1 3 pl, tc_I G md2 3 dr, tc_I G md3 3 sp]) [0, 1, 2, 3, 4, 5, 6, 7, 8, 9, 10, 11, 12, 13] (by decide) rfl
            exact W.iret (v := sa p1.toNatClampNeg) hx hb hr (fun t ht hW => ⟨⟨sa p1.toNatClampNeg, (), rfl, by unfold f_X5_lotAnswer; all_goals (rw [if_neg c_1]); all_goals (rw [if_neg c_3]); all_goals (rw [if_neg c_5]); all_goals (rw [if_neg c_7]); all_goals (rw [if_pos c_9]); all_goals rfl, by rw [ht]; exact hP9, hD9⟩, hS.F ht⟩) hS.2.2 dX5_lotAnswer_100
          · have hsw : (p2).toInt < 0 ∨ 4 < (p2).toInt := tm_sw 4 (tm_no4 c_1 c_3 c_5 c_7 c_9)
            refine lv_tableOut (tgt := 101) hx hb dX5_lotAnswer_1 hsw (by decide) ?_
            refine lv_aload_n hx hb dX5_lotAnswer_101 rfl (lv_at hl 0 rfl) ?_
            refine va_get (D := G.1) (ci := 5) (v := .ref ma0) (C := RX5) (T := TX5) (N := 6) hx hb hts hiX5 hown hK hP 0 rfl rfl 0 (by decide) (hts (.fieldLink RX5 10 "TideMill" "mill" "LTideMill$Mill;") (List.mem_of_getElem? (i := 1) rfl)) (fun _ h9 => h9) rfl dX5_lotAnswer_102 ?_
            refine va_get (D := G.1) (ci := 1) (v := .ref ma4) (C := RX1) (T := TX1) (N := 7) hx hb hts hiX1 hown hK hP 1 rfl rfl 3 (by decide) (hts (.fieldLink RX5 102 "TideMill$Mill" "pairs" "LTideMill$Pairs;") (List.mem_of_getElem? (i := 8) rfl)) (fun _ h9 => h9) rfl dX5_lotAnswer_105 ?_
            refine lv_iload_n hx hb dX5_lotAnswer_108 rfl (lv_at hl 1 rfl) ?_
            have hPc := hP.sub (ws' := [tc_X2 ma4 md0 md1 md2 md3 pn, tc_I G md1 3 pl]) [9, 11] rfl
            have hDc := hD.sub (ws' := [tc_X2 ma4 md0 md1 md2 md3 pn, tc_I G md1 3 pl]) [9, 11] (by decide) rfl
            have hFc := va_free (wc := [tc_X2 ma4 md0 md1 md2 md3 pn, tc_I G md1 3 pl]) hD hS hA [9, 11] rfl
            refine va_calli (va_runV (As := [.int p1]) (rest := []) ⟨hx, hb, hml, hown, hts⟩ (c_X2_withLot l G ma4 md0 md1 md2 md3 s.heap.size pn pl p1 (n_11 c_1 c_3 c_5 c_7 c_9)) (cwV 1 hts gX5_lotAnswer_X2_withLot rfl rfl rfl (by decide +kernel) ⟨(Nat.le_of_ble_eq_true rfl), (Nat.le_of_ble_eq_true rfl)⟩) (tm_preV hK hN hV hS hPc hDc hFc (va_recv hK hPc (ci := 2) (q0 := 0) rfl rfl)) rfl rfl hl.1 rfl (lv_room (Nat.le_of_ble_eq_true rfl)) dX5_lotAnswer_109 ⟨(Nat.le_of_ble_eq_true rfl), (Nat.le_of_ble_eq_true rfl)⟩) hS (fun q _ h => hFc q h) hFc (fun r_12 u t H locs ht hvm hw_12 hB hz1 hk1 hS => ?_)
            obtain ⟨hP1, hD1⟩ := hB
            rw [ht] at hP1
            try dsimp only at hw_12
            obtain ⟨hP, hD⟩ := va_join (wr := [tc_X5 a0 ma0 ta0 lk rf pu to, tc_X1 ma0 ma1 ma2 ma3 ma4 fh lh ee, tc_X0 ma3 mb0 mb1 mb2 mb3 mb4 mb5 ln, tc_I G mb0 10 ow, tc_I G mb1 10 gr, tc_I G mb2 10 we, tc_I G mb3 10 du, tc_I G mb4 10 sa, tc_D G mb5 10 le, tc_F G md0 3 dl, tc_I G md2 3 dr, tc_I G md3 3 sp]) (w1 := [tc_X2 ma4 md0 md1 md2 md3 pn, tc_I G md1 3 pl]) hP hD [9, 11] [0, 1, 2, 3, 4, 5, 6, 7, 8, 10, 12, 13] rfl rfl (by decide) (by decide) hk1 hFc hP1 hD1
            have hP : va_P G.1 vwCl [tc_X5 a0 ma0 ta0 lk rf pu to, tc_X1 ma0 ma1 ma2 ma3 ma4 fh lh ee, tc_X0 ma3 mb0 mb1 mb2 mb3 mb4 mb5 ln, tc_I G mb0 10 ow, tc_I G mb1 10 gr, tc_I G mb2 10 we, tc_I G mb3 10 du, tc_I G mb4 10 sa, tc_D G mb5 10 le, tc_F G md0 3 dl, tc_I G md2 3 dr, tc_I G md3 3 sp, tc_X2 ma4 md0 md1 md2 md3 pn, tc_I G md1 3 pl] H := hP
            have hD : va_D A [tc_X5 a0 ma0 ta0 lk rf pu to, tc_X1 ma0 ma1 ma2 ma3 ma4 fh lh ee, tc_X0 ma3 mb0 mb1 mb2 mb3 mb4 mb5 ln, tc_I G mb0 10 ow, tc_I G mb1 10 gr, tc_I G mb2 10 we, tc_I G mb3 10 du, tc_I G mb4 10 sa, tc_D G mb5 10 le, tc_F G md0 3 dl, tc_I G md2 3 dr, tc_I G md3 3 sp, tc_X2 ma4 md0 md1 md2 md3 pn, tc_I G md1 3 pl] := hD
            subst hw_12
            have hP9 := hP.sub (ws' := [tc_X5 a0 ma0 ta0 lk rf pu to, tc_X1 ma0 ma1 ma2 ma3 ma4 fh lh ee, tc_X0 ma3 mb0 mb1 mb2 mb3 mb4 mb5 ln, tc_I G mb0 10 ow, tc_I G mb1 10 gr, tc_I G mb2 10 we, tc_I G mb3 10 du, tc_I G mb4 10 sa, tc_D G mb5 10 le, tc_X2 ma4 md0 md1 md2 md3 pn, tc_F G md0 3 dl, tc_I G md1 3 pl, tc_I G md2 3 dr, tc_I G md3 3 sp]) [0, 1, 2, 3, 4, 5, 6, 7, 8, 12, 9, 13, 10, 11] rfl
            have hD9 := hD.sub (ws' := [tc_X5 a0 ma0 ta0 lk rf pu to, tc_X1 ma0 ma1 ma2 ma3 ma4 fh lh ee, tc_X0 ma3 mb0 mb1 mb2 mb3 mb4 mb5 ln, tc_I G mb0 10 ow, tc_I G mb1 10 gr, tc_I G mb2 10 we, tc_I G mb3 10 du, tc_I G mb4 10 sa, tc_D G mb5 10 le, tc_X2 ma4 md0 md1 md2 md3 pn, tc_F G md0 3 dl, tc_I G md1 3 pl, tc_I G md2 3 dr, tc_I G md3 3 sp]) [0, 1, 2, 3, 4, 5, 6, 7, 8, 12, 9, 13, 10, 11] (by decide) rfl
            exact W.iret (v := f_X2_withLot pn pl p1) hx hb hr (fun t ht hW => ⟨⟨f_X2_withLot pn pl p1, (), rfl, by unfold f_X5_lotAnswer; all_goals (rw [if_neg c_1]); all_goals (rw [if_neg c_3]); all_goals (rw [if_neg c_5]); all_goals (rw [if_neg c_7]); all_goals (rw [if_neg c_9]); all_goals rfl, by rw [ht]; exact hP9, hD9⟩, hS.F ht⟩) hS.2.2 dX5_lotAnswer_112
set_option maxHeartbeats 4000000 in
set_option maxRecDepth 100000 in
theorem c_X5_ofLot (l : Launch) (G : tm_G) (a0 : Nat) (ma0 : Nat) (ta0 : Nat) (ma1 : Nat) (ma2 : Nat) (ma3 : Nat) (ma4 : Nat) (mb0 : Nat) (mb1 : Nat) (mb2 : Nat) (mb3 : Nat) (mb4 : Nat) (mb5 : Nat) (md0 : Nat) (md1 : Nat) (md2 : Nat) (md3 : Nat) (sz : Nat) (lk : Int32) (rf : Int32) (pu : Int32) (to : UInt64) (fh : Int32) (lh : Int32) (ee : Int32) (ln : Int32) (ow : Nat → Int32) (gr : Nat → Int32) (we : Nat → Int32) (du : Nat → Int32) (sa : Nat → Int32) (le : Nat → UInt64) (pn : Int32) (dl : Nat → UInt32) (pl : Nat → Int32) (dr : Nat → Int32) (sp : Nat → Int32) (p1 : Int32) (p2 : Int32) (hn : n_X5_ofLot ln pn pl p1 p2) : Met l yX5_ofLot wsX5_ofLot ({ frames := 2, cells := 0, slots := 0, locals := 44 }) (va_Pc [.ref a0, .int p1, .int p2] (tm_B G [tc_X5 a0 ma0 ta0 lk rf pu to, tc_X1 ma0 ma1 ma2 ma3 ma4 fh lh ee, tc_X0 ma3 mb0 mb1 mb2 mb3 mb4 mb5 ln, tc_I G mb0 10 ow, tc_I G mb1 10 gr, tc_I G mb2 10 we, tc_I G mb3 10 du, tc_I G mb4 10 sa, tc_D G mb5 10 le, tc_X2 ma4 md0 md1 md2 md3 pn, tc_F G md0 3 dl, tc_I G md1 3 pl, tc_I G md2 3 dr, tc_I G md3 3 sp] sz)) (va_Qi (fun (r : Int32) (u : Unit) => r = f_X5_ofLot ow gr we du sa pn pl p1 p2) (fun (u : Unit) (t : State) => va_P G.1 vwCl [tc_X5 a0 ma0 ta0 lk rf pu to, tc_X1 ma0 ma1 ma2 ma3 ma4 fh lh ee, tc_X0 ma3 mb0 mb1 mb2 mb3 mb4 mb5 ln, tc_I G mb0 10 ow, tc_I G mb1 10 gr, tc_I G mb2 10 we, tc_I G mb3 10 du, tc_I G mb4 10 sa, tc_D G mb5 10 le, tc_X2 ma4 md0 md1 md2 md3 pn, tc_F G md0 3 dl, tc_I G md1 3 pl, tc_I G md2 3 dr, tc_I G md3 3 sp] t.heap ∧ va_D (va_A [tc_X5 a0 ma0 ta0 lk rf pu to, tc_X1 ma0 ma1 ma2 ma3 ma4 fh lh ee, tc_X0 ma3 mb0 mb1 mb2 mb3 mb4 mb5 ln, tc_I G mb0 10 ow, tc_I G mb1 10 gr, tc_I G mb2 10 we, tc_I G mb3 10 du, tc_I G mb4 10 sa, tc_D G mb5 10 le, tc_X2 ma4 md0 md1 md2 md3 pn, tc_F G md0 3 dl, tc_I G md1 3 pl, tc_I G md2 3 dr, tc_I G md3 3 sp] sz) [tc_X5 a0 ma0 ta0 lk rf pu to, tc_X1 ma0 ma1 ma2 ma3 ma4 fh lh ee, tc_X0 ma3 mb0 mb1 mb2 mb3 mb4 mb5 ln, tc_I G mb0 10 ow, tc_I G mb1 10 gr, tc_I G mb2 10 we, tc_I G mb3 10 du, tc_I G mb4 10 sa, tc_D G mb5 10 le, tc_X2 ma4 md0 md1 md2 md3 pn, tc_F G md0 3 dl, tc_I G md1 3 pl, tc_I G md2 3 dr, tc_I G md3 3 sp]) (va_A [tc_X5 a0 ma0 ta0 lk rf pu to, tc_X1 ma0 ma1 ma2 ma3 ma4 fh lh ee, tc_X0 ma3 mb0 mb1 mb2 mb3 mb4 mb5 ln, tc_I G mb0 10 ow, tc_I G mb1 10 gr, tc_I G mb2 10 we, tc_I G mb3 10 du, tc_I G mb4 10 sa, tc_D G mb5 10 le, tc_X2 ma4 md0 md1 md2 md3 pn, tc_F G md0 3 dl, tc_I G md1 3 pl, tc_I G md2 3 dr, tc_I G md3 3 sp] sz)) 0 0 (va_A [tc_X5 a0 ma0 ta0 lk rf pu to, tc_X1 ma0 ma1 ma2 ma3 ma4 fh lh ee, tc_X0 ma3 mb0 mb1 mb2 mb3 mb4 mb5 ln, tc_I G mb0 10 ow, tc_I G mb1 10 gr, tc_I G mb2 10 we, tc_I G mb3 10 du, tc_I G mb4 10 sa, tc_D G mb5 10 le, tc_X2 ma4 md0 md1 md2 md3 pn, tc_F G md0 3 dl, tc_I G md1 3 pl, tc_I G md2 3 dr, tc_I G md3 3 sp] sz) := by
  refine Met.ofW (cc := cX5_ofLot) (maxL := 3) (ret := (some .int)) (by decide) rfl ?_
  intro p e s m args below meth c s₁ B hml hv
  obtain ⟨rfl, hsz, hP, hK, hD0, hN, hV⟩ := hv
  have hx := B.exec
  have hb := B.bytes
  have hr := B.returns
  have hts := atoms_spec (ws := wsX5_ofLot) B.pre
  have hown : s.vm.findClass RX5 = some m.cls := findClass_of_methodNamed B.named
  have hlocks := B.notSynchronized
  subst hsz
  obtain ⟨na_0, na_1, n_5⟩ := hn
  have hiX1 : ∀ w ∈ u_ws RX1 TX1 7, w ∈ wsX5_ofLot := fun _ h => List.mem_cons_of_mem _ (List.mem_append_left _ (List.mem_append_left _ (List.mem_append_left _ (List.mem_append_left _ (List.mem_append_right _ h)))))
  have hiX5 : ∀ w ∈ u_ws RX5 TX5 6, w ∈ wsX5_ofLot := fun _ h => List.mem_cons_of_mem _ (List.mem_append_left _ (List.mem_append_left _ (List.mem_append_left _ (List.mem_append_left _ (List.mem_append_left _ (List.mem_append_right _ h))))))
  have hD := hD0.self (sz := s.heap.size)
  generalize hAe : va_A [tc_X5 a0 ma0 ta0 lk rf pu to, tc_X1 ma0 ma1 ma2 ma3 ma4 fh lh ee, tc_X0 ma3 mb0 mb1 mb2 mb3 mb4 mb5 ln, tc_I G mb0 10 ow, tc_I G mb1 10 gr, tc_I G mb2 10 we, tc_I G mb3 10 du, tc_I G mb4 10 sa, tc_D G mb5 10 le, tc_X2 ma4 md0 md1 md2 md3 pn, tc_F G md0 3 dl, tc_I G md1 3 pl, tc_I G md2 3 dr, tc_I G md3 3 sp] s.heap.size = A at hD hV ⊢
  have hA : ∀ q : Nat, s.heap.size ≤ q → A q := fun q h => by rw [← hAe]; exact Or.inr h
  have hS : va_S A s.heap s.heap [] := va_S.rf
  have hl := lv_entry ([.ref a0, .int p1, .int p2]) (n := 3) (Nat.le_of_ble_eq_true rfl)
  rw [lg_entry_eq]
  generalize (lg_sl ([.ref a0, .int p1, .int p2]) ++ List.replicate (3 - (lg_sl ([.ref a0, .int p1, .int p2])).length) Slot.unset).toArray = ls at hl ⊢
  have hl : lv_has ls 3 [(0, .ref a0), (1, .int p1), (2, .int p2)] := hl
  refine lv_aload_n hx hb dX5_ofLot_0 rfl (lv_at hl 0 rfl) ?_
  refine va_get (D := G.1) (ci := 5) (v := .ref ma0) (C := RX5) (T := TX5) (N := 6) hx hb hts hiX5 hown hK hP 0 rfl rfl 0 (by decide) (hts (.fieldLink RX5 10 "TideMill" "mill" "LTideMill$Mill;") (List.mem_of_getElem? (i := 5) rfl)) (fun _ h9 => h9) rfl dX5_ofLot_1 ?_
  refine va_get (D := G.1) (ci := 1) (v := .ref ma3) (C := RX1) (T := TX1) (N := 7) hx hb hts hiX1 hown hK hP 1 rfl rfl 2 (by decide) (hts (.fieldLink RX5 119 "TideMill$Mill" "lots" "LTideMill$Lots;") (List.mem_of_getElem? (i := 6) rfl)) (fun _ h9 => h9) rfl dX5_ofLot_4 ?_
  refine lv_iload_n hx hb dX5_ofLot_7 rfl (lv_at hl 1 rfl) ?_
  have hPc := hP.sub (ws' := [tc_X0 ma3 mb0 mb1 mb2 mb3 mb4 mb5 ln, tc_I G mb0 10 ow, tc_I G mb1 10 gr, tc_I G mb2 10 we, tc_I G mb3 10 du, tc_I G mb4 10 sa, tc_D G mb5 10 le]) [2, 3, 4, 5, 6, 7, 8] rfl
  have hDc := hD.sub (ws' := [tc_X0 ma3 mb0 mb1 mb2 mb3 mb4 mb5 ln, tc_I G mb0 10 ow, tc_I G mb1 10 gr, tc_I G mb2 10 we, tc_I G mb3 10 du, tc_I G mb4 10 sa, tc_D G mb5 10 le]) [2, 3, 4, 5, 6, 7, 8] (by decide) rfl
  have hFc := va_free (wc := [tc_X0 ma3 mb0 mb1 mb2 mb3 mb4 mb5 ln, tc_I G mb0 10 ow, tc_I G mb1 10 gr, tc_I G mb2 10 we, tc_I G mb3 10 du, tc_I G mb4 10 sa, tc_D G mb5 10 le]) hD hS hA [2, 3, 4, 5, 6, 7, 8] rfl
  refine va_calli (va_runV (As := [.int p1]) (rest := []) ⟨hx, hb, hml, hown, hts⟩ (c_X0_has l G ma3 mb0 mb1 mb2 mb3 mb4 mb5 s.heap.size ln ow gr we du sa le p1 ) (cwV 1 hts gX5_ofLot_X0_has rfl rfl rfl (by decide +kernel) ⟨(Nat.le_of_ble_eq_true rfl), (Nat.le_of_ble_eq_true rfl)⟩) (tm_preV hK hN hV hS hPc hDc hFc (va_recv hK hPc (ci := 0) (q0 := 0) rfl rfl)) rfl rfl hl.1 rfl (lv_room (Nat.le_of_ble_eq_true rfl)) dX5_ofLot_8 ⟨(Nat.le_of_ble_eq_true rfl), (Nat.le_of_ble_eq_true rfl)⟩) hS (fun q _ h => hFc q h) hFc (fun r_1 u t H locs ht hvm hw_1 hB hz1 hk1 hS => ?_)
  obtain ⟨hP1, hD1⟩ := hB
  rw [ht] at hP1
  try dsimp only at hw_1
  obtain ⟨hP, hD⟩ := va_join (wr := [tc_X5 a0 ma0 ta0 lk rf pu to, tc_X1 ma0 ma1 ma2 ma3 ma4 fh lh ee, tc_X2 ma4 md0 md1 md2 md3 pn, tc_F G md0 3 dl, tc_I G md1 3 pl, tc_I G md2 3 dr, tc_I G md3 3 sp]) (w1 := [tc_X0 ma3 mb0 mb1 mb2 mb3 mb4 mb5 ln, tc_I G mb0 10 ow, tc_I G mb1 10 gr, tc_I G mb2 10 we, tc_I G mb3 10 du, tc_I G mb4 10 sa, tc_D G mb5 10 le]) hP hD [2, 3, 4, 5, 6, 7, 8] [0, 1, 9, 10, 11, 12, 13] rfl rfl (by decide) (by decide) hk1 hFc hP1 hD1
  have hP : va_P G.1 vwCl [tc_X5 a0 ma0 ta0 lk rf pu to, tc_X1 ma0 ma1 ma2 ma3 ma4 fh lh ee, tc_X2 ma4 md0 md1 md2 md3 pn, tc_F G md0 3 dl, tc_I G md1 3 pl, tc_I G md2 3 dr, tc_I G md3 3 sp, tc_X0 ma3 mb0 mb1 mb2 mb3 mb4 mb5 ln, tc_I G mb0 10 ow, tc_I G mb1 10 gr, tc_I G mb2 10 we, tc_I G mb3 10 du, tc_I G mb4 10 sa, tc_D G mb5 10 le] H := hP
  have hD : va_D A [tc_X5 a0 ma0 ta0 lk rf pu to, tc_X1 ma0 ma1 ma2 ma3 ma4 fh lh ee, tc_X2 ma4 md0 md1 md2 md3 pn, tc_F G md0 3 dl, tc_I G md1 3 pl, tc_I G md2 3 dr, tc_I G md3 3 sp, tc_X0 ma3 mb0 mb1 mb2 mb3 mb4 mb5 ln, tc_I G mb0 10 ow, tc_I G mb1 10 gr, tc_I G mb2 10 we, tc_I G mb3 10 du, tc_I G mb4 10 sa, tc_D G mb5 10 le] := hD
  subst hw_1
  refine lv_if_ne (tgt := 24) hx hb dX5_ofLot_11 (by decide) (fun c_2 => ?_) (fun c_2 => ?_)
  · refine lv_iload_n hx hb dX5_ofLot_24 rfl (lv_at hl 2 rfl) ?_
    refine lv_iconst (v := 0) hx hb dX5_ofLot_25 (by decide) ?_
    refine lv_iconst (v := 5) hx hb dX5_ofLot_26 (by decide) ?_
    have hPc := hP.sub (ws' := []) [] rfl
    have hDc := hD.sub (ws' := []) [] (by decide) rfl
    have hFc := va_free (wc := []) hD hS hA [] rfl
    refine va_calli (va_runS (As := [.int p2, .int 0, .int 5]) (rest := []) ⟨hx, hb, hml, hown, hts⟩ (c_X5_isWithin l G  H.size p2 0 5 ) (cwS 3 hts gX5_ofLot_X5_isWithin rfl rfl rfl (by decide +kernel) ⟨(Nat.le_of_ble_eq_true rfl), (Nat.le_of_ble_eq_true rfl)⟩) (tm_preS hK hN hV hS hPc hDc hFc) rfl rfl hl.1 rfl (lv_room (Nat.le_of_ble_eq_true rfl)) dX5_ofLot_27 ⟨(Nat.le_of_ble_eq_true rfl), (Nat.le_of_ble_eq_true rfl)⟩) hS (fun q _ h => hFc q h) hFc (fun r_3 u t H locs ht hvm hw_3 hB hz1 hk1 hS => ?_)
    obtain ⟨hP1, hD1⟩ := hB
    rw [ht] at hP1
    try dsimp only at hw_3
    obtain ⟨hP, hD⟩ := va_join (wr := [tc_X5 a0 ma0 ta0 lk rf pu to, tc_X1 ma0 ma1 ma2 ma3 ma4 fh lh ee, tc_X2 ma4 md0 md1 md2 md3 pn, tc_F G md0 3 dl, tc_I G md1 3 pl, tc_I G md2 3 dr, tc_I G md3 3 sp, tc_X0 ma3 mb0 mb1 mb2 mb3 mb4 mb5 ln, tc_I G mb0 10 ow, tc_I G mb1 10 gr, tc_I G mb2 10 we, tc_I G mb3 10 du, tc_I G mb4 10 sa, tc_D G mb5 10 le]) (w1 := []) hP hD [] [0, 1, 2, 3, 4, 5, 6, 7, 8, 9, 10, 11, 12, 13] rfl rfl (by decide) (by decide) hk1 hFc hP1 hD1
    have hP : va_P G.1 vwCl [tc_X5 a0 ma0 ta0 lk rf pu to, tc_X1 ma0 ma1 ma2 ma3 ma4 fh lh ee, tc_X2 ma4 md0 md1 md2 md3 pn, tc_F G md0 3 dl, tc_I G md1 3 pl, tc_I G md2 3 dr, tc_I G md3 3 sp, tc_X0 ma3 mb0 mb1 mb2 mb3 mb4 mb5 ln, tc_I G mb0 10 ow, tc_I G mb1 10 gr, tc_I G mb2 10 we, tc_I G mb3 10 du, tc_I G mb4 10 sa, tc_D G mb5 10 le] H := hP
    have hD : va_D A [tc_X5 a0 ma0 ta0 lk rf pu to, tc_X1 ma0 ma1 ma2 ma3 ma4 fh lh ee, tc_X2 ma4 md0 md1 md2 md3 pn, tc_F G md0 3 dl, tc_I G md1 3 pl, tc_I G md2 3 dr, tc_I G md3 3 sp, tc_X0 ma3 mb0 mb1 mb2 mb3 mb4 mb5 ln, tc_I G mb0 10 ow, tc_I G mb1 10 gr, tc_I G mb2 10 we, tc_I G mb3 10 du, tc_I G mb4 10 sa, tc_D G mb5 10 le] := hD
    subst hw_3
    refine lv_if_ne (tgt := 43) hx hb dX5_ofLot_30 (by decide) (fun c_4 => ?_) (fun c_4 => ?_)
    · refine lv_aload_n hx hb dX5_ofLot_43 rfl (lv_at hl 0 rfl) ?_
      refine lv_iload_n hx hb dX5_ofLot_44 rfl (lv_at hl 1 rfl) ?_
      refine lv_iload_n hx hb dX5_ofLot_45 rfl (lv_at hl 2 rfl) ?_
      have hPc := hP.sub (ws' := [tc_X5 a0 ma0 ta0 lk rf pu to, tc_X1 ma0 ma1 ma2 ma3 ma4 fh lh ee, tc_X0 ma3 mb0 mb1 mb2 mb3 mb4 mb5 ln, tc_I G mb0 10 ow, tc_I G mb1 10 gr, tc_I G mb2 10 we, tc_I G mb3 10 du, tc_I G mb4 10 sa, tc_D G mb5 10 le, tc_X2 ma4 md0 md1 md2 md3 pn, tc_F G md0 3 dl, tc_I G md1 3 pl, tc_I G md2 3 dr, tc_I G md3 3 sp]) [0, 1, 7, 8, 9, 10, 11, 12, 13, 2, 3, 4, 5, 6] rfl
      have hDc := hD.sub (ws' := [tc_X5 a0 ma0 ta0 lk rf pu to, tc_X1 ma0 ma1 ma2 ma3 ma4 fh lh ee, tc_X0 ma3 mb0 mb1 mb2 mb3 mb4 mb5 ln, tc_I G mb0 10 ow, tc_I G mb1 10 gr, tc_I G mb2 10 we, tc_I G mb3 10 du, tc_I G mb4 10 sa, tc_D G mb5 10 le, tc_X2 ma4 md0 md1 md2 md3 pn, tc_F G md0 3 dl, tc_I G md1 3 pl, tc_I G md2 3 dr, tc_I G md3 3 sp]) [0, 1, 7, 8, 9, 10, 11, 12, 13, 2, 3, 4, 5, 6] (by decide) rfl
      have hFc := va_free (wc := [tc_X5 a0 ma0 ta0 lk rf pu to, tc_X1 ma0 ma1 ma2 ma3 ma4 fh lh ee, tc_X0 ma3 mb0 mb1 mb2 mb3 mb4 mb5 ln, tc_I G mb0 10 ow, tc_I G mb1 10 gr, tc_I G mb2 10 we, tc_I G mb3 10 du, tc_I G mb4 10 sa, tc_D G mb5 10 le, tc_X2 ma4 md0 md1 md2 md3 pn, tc_F G md0 3 dl, tc_I G md1 3 pl, tc_I G md2 3 dr, tc_I G md3 3 sp]) hD hS hA [0, 1, 7, 8, 9, 10, 11, 12, 13, 2, 3, 4, 5, 6] rfl
      refine va_calli (va_runV (As := [.int p1, .int p2]) (rest := []) ⟨hx, hb, hml, hown, hts⟩ (c_X5_lotAnswer l G a0 ma0 ta0 ma1 ma2 ma3 ma4 mb0 mb1 mb2 mb3 mb4 mb5 md0 md1 md2 md3 H.size lk rf pu to fh lh ee ln ow gr we du sa le pn dl pl dr sp p1 p2 n_5) (cwV 2 hts gX5_ofLot_X5_lotAnswer rfl rfl rfl (by decide +kernel) ⟨(Nat.le_of_ble_eq_true rfl), (Nat.le_of_ble_eq_true rfl)⟩) (tm_preV hK hN hV hS hPc hDc hFc (va_recv hK hPc (ci := 5) (q0 := 0) rfl rfl)) rfl rfl hl.1 rfl (lv_room (Nat.le_of_ble_eq_true rfl)) dX5_ofLot_46 ⟨(Nat.le_of_ble_eq_true rfl), (Nat.le_of_ble_eq_true rfl)⟩) hS (fun q _ h => hFc q h) hFc (fun r_6 u t H locs ht hvm hw_6 hB hz1 hk1 hS => ?_)
      obtain ⟨hP1, hD1⟩ := hB
      rw [ht] at hP1
      try dsimp only at hw_6
      obtain ⟨hP, hD⟩ := va_join (wr := []) (w1 := [tc_X5 a0 ma0 ta0 lk rf pu to, tc_X1 ma0 ma1 ma2 ma3 ma4 fh lh ee, tc_X0 ma3 mb0 mb1 mb2 mb3 mb4 mb5 ln, tc_I G mb0 10 ow, tc_I G mb1 10 gr, tc_I G mb2 10 we, tc_I G mb3 10 du, tc_I G mb4 10 sa, tc_D G mb5 10 le, tc_X2 ma4 md0 md1 md2 md3 pn, tc_F G md0 3 dl, tc_I G md1 3 pl, tc_I G md2 3 dr, tc_I G md3 3 sp]) hP hD [0, 1, 7, 8, 9, 10, 11, 12, 13, 2, 3, 4, 5, 6] [] rfl rfl (by decide) (by decide) hk1 hFc hP1 hD1
      have hP : va_P G.1 vwCl [tc_X5 a0 ma0 ta0 lk rf pu to, tc_X1 ma0 ma1 ma2 ma3 ma4 fh lh ee, tc_X0 ma3 mb0 mb1 mb2 mb3 mb4 mb5 ln, tc_I G mb0 10 ow, tc_I G mb1 10 gr, tc_I G mb2 10 we, tc_I G mb3 10 du, tc_I G mb4 10 sa, tc_D G mb5 10 le, tc_X2 ma4 md0 md1 md2 md3 pn, tc_F G md0 3 dl, tc_I G md1 3 pl, tc_I G md2 3 dr, tc_I G md3 3 sp] H := hP
      have hD : va_D A [tc_X5 a0 ma0 ta0 lk rf pu to, tc_X1 ma0 ma1 ma2 ma3 ma4 fh lh ee, tc_X0 ma3 mb0 mb1 mb2 mb3 mb4 mb5 ln, tc_I G mb0 10 ow, tc_I G mb1 10 gr, tc_I G mb2 10 we, tc_I G mb3 10 du, tc_I G mb4 10 sa, tc_D G mb5 10 le, tc_X2 ma4 md0 md1 md2 md3 pn, tc_F G md0 3 dl, tc_I G md1 3 pl, tc_I G md2 3 dr, tc_I G md3 3 sp] := hD
      subst hw_6
      have hP9 := hP.sub (ws' := [tc_X5 a0 ma0 ta0 lk rf pu to, tc_X1 ma0 ma1 ma2 ma3 ma4 fh lh ee, tc_X0 ma3 mb0 mb1 mb2 mb3 mb4 mb5 ln, tc_I G mb0 10 ow, tc_I G mb1 10 gr, tc_I G mb2 10 we, tc_I G mb3 10 du, tc_I G mb4 10 sa, tc_D G mb5 10 le, tc_X2 ma4 md0 md1 md2 md3 pn, tc_F G md0 3 dl, tc_I G md1 3 pl, tc_I G md2 3 dr, tc_I G md3 3 sp]) [0, 1, 2, 3, 4, 5, 6, 7, 8, 9, 10, 11, 12, 13] rfl
      have hD9 := hD.sub (ws' := [tc_X5 a0 ma0 ta0 lk rf pu to, tc_X1 ma0 ma1 ma2 ma3 ma4 fh lh ee, tc_X0 ma3 mb0 mb1 mb2 mb3 mb4 mb5 ln, tc_I G mb0 10 ow, tc_I G mb1 10 gr, tc_I G mb2 10 we, tc_I G mb3 10 du, tc_I G mb4 10 sa, tc_D G mb5 10 le, tc_X2 ma4 md0 md1 md2 md3 pn, tc_F G md0 3 dl, tc_I G md1 3 pl, tc_I G md2 3 dr, tc_I G md3 3 sp]) [0, 1, 2, 3, 4, 5, 6, 7, 8, 9, 10, 11, 12, 13] (by decide) rfl
      exact W.iret (v := f_X5_lotAnswer ow gr we du sa pn pl p1 p2) hx hb hr (fun t ht hW => ⟨⟨f_X5_lotAnswer ow gr we du sa pn pl p1 p2, (), rfl, by unfold f_X5_ofLot; all_goals rfl, by rw [ht]; exact hP9, hD9⟩, hS.F ht⟩) hS.2.2 dX5_ofLot_49
    · exact absurd c_4 na_1
  · exact absurd c_2 na_0
set_option maxHeartbeats 4000000 in
set_option maxRecDepth 100000 in
theorem c_X5_left (l : Launch) (G : tm_G) (a0 : Nat) (ma0 : Nat) (ta0 : Nat) (ma1 : Nat) (ma2 : Nat) (ma3 : Nat) (ma4 : Nat) (mb0 : Nat) (mb1 : Nat) (mb2 : Nat) (mb3 : Nat) (mb4 : Nat) (mb5 : Nat) (sz : Nat) (lk : Int32) (rf : Int32) (pu : Int32) (to : UInt64) (fh : Int32) (lh : Int32) (ee : Int32) (ln : Int32) (ow : Nat → Int32) (gr : Nat → Int32) (we : Nat → Int32) (du : Nat → Int32) (sa : Nat → Int32) (le : Nat → UInt64) (p1 : Int32) (hn : n_X5_left ln p1) : Met l yX5_left wsX5_left ({ frames := 1, cells := 0, slots := 0, locals := 21 }) (va_Pc [.ref a0, .int p1] (tm_B G [tc_X5 a0 ma0 ta0 lk rf pu to, tc_X1 ma0 ma1 ma2 ma3 ma4 fh lh ee, tc_X0 ma3 mb0 mb1 mb2 mb3 mb4 mb5 ln, tc_I G mb0 10 ow, tc_I G mb1 10 gr, tc_I G mb2 10 we, tc_I G mb3 10 du, tc_I G mb4 10 sa, tc_D G mb5 10 le] sz)) (va_Qd (fun (r : UInt64) (u : Unit) => r = f_X5_left le p1) (fun (u : Unit) (t : State) => va_P G.1 vwCl [tc_X5 a0 ma0 ta0 lk rf pu to, tc_X1 ma0 ma1 ma2 ma3 ma4 fh lh ee, tc_X0 ma3 mb0 mb1 mb2 mb3 mb4 mb5 ln, tc_I G mb0 10 ow, tc_I G mb1 10 gr, tc_I G mb2 10 we, tc_I G mb3 10 du, tc_I G mb4 10 sa, tc_D G mb5 10 le] t.heap ∧ va_D (va_A [tc_X5 a0 ma0 ta0 lk rf pu to, tc_X1 ma0 ma1 ma2 ma3 ma4 fh lh ee, tc_X0 ma3 mb0 mb1 mb2 mb3 mb4 mb5 ln, tc_I G mb0 10 ow, tc_I G mb1 10 gr, tc_I G mb2 10 we, tc_I G mb3 10 du, tc_I G mb4 10 sa, tc_D G mb5 10 le] sz) [tc_X5 a0 ma0 ta0 lk rf pu to, tc_X1 ma0 ma1 ma2 ma3 ma4 fh lh ee, tc_X0 ma3 mb0 mb1 mb2 mb3 mb4 mb5 ln, tc_I G mb0 10 ow, tc_I G mb1 10 gr, tc_I G mb2 10 we, tc_I G mb3 10 du, tc_I G mb4 10 sa, tc_D G mb5 10 le]) (va_A [tc_X5 a0 ma0 ta0 lk rf pu to, tc_X1 ma0 ma1 ma2 ma3 ma4 fh lh ee, tc_X0 ma3 mb0 mb1 mb2 mb3 mb4 mb5 ln, tc_I G mb0 10 ow, tc_I G mb1 10 gr, tc_I G mb2 10 we, tc_I G mb3 10 du, tc_I G mb4 10 sa, tc_D G mb5 10 le] sz)) 0 0 (va_A [tc_X5 a0 ma0 ta0 lk rf pu to, tc_X1 ma0 ma1 ma2 ma3 ma4 fh lh ee, tc_X0 ma3 mb0 mb1 mb2 mb3 mb4 mb5 ln, tc_I G mb0 10 ow, tc_I G mb1 10 gr, tc_I G mb2 10 we, tc_I G mb3 10 du, tc_I G mb4 10 sa, tc_D G mb5 10 le] sz) := by
  refine Met.ofW (cc := cX5_left) (maxL := 2) (ret := (some .double)) (by decide) rfl ?_
  intro p e s m args below meth c s₁ B hml hv
  obtain ⟨rfl, hsz, hP, hK, hD0, hN, hV⟩ := hv
  have hx := B.exec
  have hb := B.bytes
  have hr := B.returns
  have hts := atoms_spec (ws := wsX5_left) B.pre
  have hown : s.vm.findClass RX5 = some m.cls := findClass_of_methodNamed B.named
  have hlocks := B.notSynchronized
  subst hsz
  obtain ⟨na_0, n_3⟩ := hn
  have hiX0 : ∀ w ∈ u_ws RX0 TX0 7, w ∈ wsX5_left := fun _ h => List.mem_cons_of_mem _ (List.mem_append_left _ (List.mem_append_right _ h))
  have hiX1 : ∀ w ∈ u_ws RX1 TX1 7, w ∈ wsX5_left := fun _ h => List.mem_cons_of_mem _ (List.mem_append_left _ (List.mem_append_left _ (List.mem_append_right _ h)))
  have hiX5 : ∀ w ∈ u_ws RX5 TX5 6, w ∈ wsX5_left := fun _ h => List.mem_cons_of_mem _ (List.mem_append_left _ (List.mem_append_left _ (List.mem_append_left _ (List.mem_append_right _ h))))
  have hD := hD0.self (sz := s.heap.size)
  generalize hAe : va_A [tc_X5 a0 ma0 ta0 lk rf pu to, tc_X1 ma0 ma1 ma2 ma3 ma4 fh lh ee, tc_X0 ma3 mb0 mb1 mb2 mb3 mb4 mb5 ln, tc_I G mb0 10 ow, tc_I G mb1 10 gr, tc_I G mb2 10 we, tc_I G mb3 10 du, tc_I G mb4 10 sa, tc_D G mb5 10 le] s.heap.size = A at hD hV ⊢
  have hA : ∀ q : Nat, s.heap.size ≤ q → A q := fun q h => by rw [← hAe]; exact Or.inr h
  have hS : va_S A s.heap s.heap [] := va_S.rf
  have hl := lv_entry ([.ref a0, .int p1]) (n := 2) (Nat.le_of_ble_eq_true rfl)
  rw [lg_entry_eq]
  generalize (lg_sl ([.ref a0, .int p1]) ++ List.replicate (2 - (lg_sl ([.ref a0, .int p1])).length) Slot.unset).toArray = ls at hl ⊢
  have hl : lv_has ls 2 [(0, .ref a0), (1, .int p1)] := hl
  refine lv_aload_n hx hb dX5_left_0 rfl (lv_at hl 0 rfl) ?_
  refine va_get (D := G.1) (ci := 5) (v := .ref ma0) (C := RX5) (T := TX5) (N := 6) hx hb hts hiX5 hown hK hP 0 rfl rfl 0 (by decide) (hts (.fieldLink RX5 10 "TideMill" "mill" "LTideMill$Mill;") (List.mem_of_getElem? (i := 3) rfl)) (fun _ h9 => h9) rfl dX5_left_1 ?_
  refine va_get (D := G.1) (ci := 1) (v := .ref ma3) (C := RX1) (T := TX1) (N := 7) hx hb hts hiX1 hown hK hP 1 rfl rfl 2 (by decide) (hts (.fieldLink RX5 119 "TideMill$Mill" "lots" "LTideMill$Lots;") (List.mem_of_getElem? (i := 4) rfl)) (fun _ h9 => h9) rfl dX5_left_4 ?_
  refine lv_iload_n hx hb dX5_left_7 rfl (lv_at hl 1 rfl) ?_
  have hPc := hP.sub (ws' := [tc_X0 ma3 mb0 mb1 mb2 mb3 mb4 mb5 ln, tc_I G mb0 10 ow, tc_I G mb1 10 gr, tc_I G mb2 10 we, tc_I G mb3 10 du, tc_I G mb4 10 sa, tc_D G mb5 10 le]) [2, 3, 4, 5, 6, 7, 8] rfl
  have hDc := hD.sub (ws' := [tc_X0 ma3 mb0 mb1 mb2 mb3 mb4 mb5 ln, tc_I G mb0 10 ow, tc_I G mb1 10 gr, tc_I G mb2 10 we, tc_I G mb3 10 du, tc_I G mb4 10 sa, tc_D G mb5 10 le]) [2, 3, 4, 5, 6, 7, 8] (by decide) rfl
  have hFc := va_free (wc := [tc_X0 ma3 mb0 mb1 mb2 mb3 mb4 mb5 ln, tc_I G mb0 10 ow, tc_I G mb1 10 gr, tc_I G mb2 10 we, tc_I G mb3 10 du, tc_I G mb4 10 sa, tc_D G mb5 10 le]) hD hS hA [2, 3, 4, 5, 6, 7, 8] rfl
  refine va_calli (va_runV (As := [.int p1]) (rest := []) ⟨hx, hb, hml, hown, hts⟩ (c_X0_has l G ma3 mb0 mb1 mb2 mb3 mb4 mb5 s.heap.size ln ow gr we du sa le p1 ) (cwV 1 hts gX5_left_X0_has rfl rfl rfl (by decide +kernel) ⟨(Nat.le_of_ble_eq_true rfl), (Nat.le_of_ble_eq_true rfl)⟩) (tm_preV hK hN hV hS hPc hDc hFc (va_recv hK hPc (ci := 0) (q0 := 0) rfl rfl)) rfl rfl hl.1 rfl (lv_room (Nat.le_of_ble_eq_true rfl)) dX5_left_8 ⟨(Nat.le_of_ble_eq_true rfl), (Nat.le_of_ble_eq_true rfl)⟩) hS (fun q _ h => hFc q h) hFc (fun r_1 u t H locs ht hvm hw_1 hB hz1 hk1 hS => ?_)
  obtain ⟨hP1, hD1⟩ := hB
  rw [ht] at hP1
  try dsimp only at hw_1
  obtain ⟨hP, hD⟩ := va_join (wr := [tc_X5 a0 ma0 ta0 lk rf pu to, tc_X1 ma0 ma1 ma2 ma3 ma4 fh lh ee]) (w1 := [tc_X0 ma3 mb0 mb1 mb2 mb3 mb4 mb5 ln, tc_I G mb0 10 ow, tc_I G mb1 10 gr, tc_I G mb2 10 we, tc_I G mb3 10 du, tc_I G mb4 10 sa, tc_D G mb5 10 le]) hP hD [2, 3, 4, 5, 6, 7, 8] [0, 1] rfl rfl (by decide) (by decide) hk1 hFc hP1 hD1
  have hP : va_P G.1 vwCl [tc_X5 a0 ma0 ta0 lk rf pu to, tc_X1 ma0 ma1 ma2 ma3 ma4 fh lh ee, tc_X0 ma3 mb0 mb1 mb2 mb3 mb4 mb5 ln, tc_I G mb0 10 ow, tc_I G mb1 10 gr, tc_I G mb2 10 we, tc_I G mb3 10 du, tc_I G mb4 10 sa, tc_D G mb5 10 le] H := hP
  have hD : va_D A [tc_X5 a0 ma0 ta0 lk rf pu to, tc_X1 ma0 ma1 ma2 ma3 ma4 fh lh ee, tc_X0 ma3 mb0 mb1 mb2 mb3 mb4 mb5 ln, tc_I G mb0 10 ow, tc_I G mb1 10 gr, tc_I G mb2 10 we, tc_I G mb3 10 du, tc_I G mb4 10 sa, tc_D G mb5 10 le] := hD
  subst hw_1
  refine lv_if_ne (tgt := 24) hx hb dX5_left_11 (by decide) (fun c_2 => ?_) (fun c_2 => ?_)
  · refine lv_aload_n hx hb dX5_left_24 rfl (lv_at hl 0 rfl) ?_
    refine va_get (D := G.1) (ci := 5) (v := .ref ma0) (C := RX5) (T := TX5) (N := 6) hx hb hts hiX5 hown hK hP 0 rfl rfl 0 (by decide) (hts (.fieldLink RX5 10 "TideMill" "mill" "LTideMill$Mill;") (List.mem_of_getElem? (i := 3) rfl)) (fun _ h9 => h9) rfl dX5_left_25 ?_
    refine va_get (D := G.1) (ci := 1) (v := .ref ma3) (C := RX1) (T := TX1) (N := 7) hx hb hts hiX1 hown hK hP 1 rfl rfl 2 (by decide) (hts (.fieldLink RX5 119 "TideMill$Mill" "lots" "LTideMill$Lots;") (List.mem_of_getElem? (i := 4) rfl)) (fun _ h9 => h9) rfl dX5_left_28 ?_
    refine va_get (D := G.1) (ci := 0) (v := .ref mb5) (C := RX0) (T := TX0) (N := 7) hx hb hts hiX0 hown hK hP 2 rfl rfl 5 (by decide) (hts (.fieldLink RX5 232 "TideMill$Lots" "left" "[D") (List.mem_of_getElem? (i := 5) rfl)) (fun _ h9 => h9) rfl dX5_left_31 ?_
    refine lv_iload_n hx hb dX5_left_34 rfl (lv_at hl 1 rfl) ?_
    refine va_dald (n := 10) (f := le) hx hb hK hP 8 1 rfl rfl n_3 dX5_left_35 ?_
    have hP9 := hP.sub (ws' := [tc_X5 a0 ma0 ta0 lk rf pu to, tc_X1 ma0 ma1 ma2 ma3 ma4 fh lh ee, tc_X0 ma3 mb0 mb1 mb2 mb3 mb4 mb5 ln, tc_I G mb0 10 ow, tc_I G mb1 10 gr, tc_I G mb2 10 we, tc_I G mb3 10 du, tc_I G mb4 10 sa, tc_D G mb5 10 le]) [0, 1, 2, 3, 4, 5, 6, 7, 8] rfl
    have hD9 := hD.sub (ws' := [tc_X5 a0 ma0 ta0 lk rf pu to, tc_X1 ma0 ma1 ma2 ma3 ma4 fh lh ee, tc_X0 ma3 mb0 mb1 mb2 mb3 mb4 mb5 ln, tc_I G mb0 10 ow, tc_I G mb1 10 gr, tc_I G mb2 10 we, tc_I G mb3 10 du, tc_I G mb4 10 sa, tc_D G mb5 10 le]) [0, 1, 2, 3, 4, 5, 6, 7, 8] (by decide) rfl
    exact W.dret (v := le p1.toNatClampNeg) hx hb hr (fun t ht hW => ⟨⟨le p1.toNatClampNeg, (), rfl, by unfold f_X5_left; all_goals rfl, by rw [ht]; exact hP9, hD9⟩, hS.F ht⟩) hS.2.2 dX5_left_36
  · exact absurd c_2 na_0
set_option maxHeartbeats 4000000 in
set_option maxRecDepth 100000 in
theorem c_X5_manyAnswer (l : Launch) (G : tm_G) (a0 : Nat) (ma0 : Nat) (ta0 : Nat) (ma1 : Nat) (ma2 : Nat) (ma3 : Nat) (ma4 : Nat) (mb0 : Nat) (mb1 : Nat) (mb2 : Nat) (mb3 : Nat) (mb4 : Nat) (mb5 : Nat) (md0 : Nat) (md1 : Nat) (md2 : Nat) (md3 : Nat) (sz : Nat) (lk : Int32) (rf : Int32) (pu : Int32) (to : UInt64) (fh : Int32) (lh : Int32) (ee : Int32) (tk : Int32) (mo : Int32) (su : UInt64) (lv : UInt64) (si : UInt32) (ga : Int32) (sl : Int32) (sc : Int32) (fo : UInt64) (ln : Int32) (ow : Nat → Int32) (gr : Nat → Int32) (we : Nat → Int32) (du : Nat → Int32) (sa : Nat → Int32) (le : Nat → UInt64) (pn : Int32) (dl : Nat → UInt32) (pl : Nat → Int32) (dr : Nat → Int32) (sp : Nat → Int32) (p1 : Int32) (hn : n_X5_manyAnswer ln sa pn sp p1) : Met l yX5_manyAnswer wsX5_manyAnswer ({ frames := 2, cells := 0, slots := 0, locals := 46 }) (va_Pc [.ref a0, .int p1] (tm_B G [tc_X5 a0 ma0 ta0 lk rf pu to, tc_X1 ma0 ma1 ma2 ma3 ma4 fh lh ee, tc_X4 ma1 tk mo su, tc_X3 ma2 lv si ga sl sc fo, tc_X0 ma3 mb0 mb1 mb2 mb3 mb4 mb5 ln, tc_I G mb0 10 ow, tc_I G mb1 10 gr, tc_I G mb2 10 we, tc_I G mb3 10 du, tc_I G mb4 10 sa, tc_D G mb5 10 le, tc_X2 ma4 md0 md1 md2 md3 pn, tc_F G md0 3 dl, tc_I G md1 3 pl, tc_I G md2 3 dr, tc_I G md3 3 sp] sz)) (va_Qi (fun (r : Int32) (u : Unit) => r = f_X5_manyAnswer lk rf pu fh lh ee tk mo ga sl ln sa pn sp p1) (fun (u : Unit) (t : State) => va_P G.1 vwCl [tc_X5 a0 ma0 ta0 lk rf pu to, tc_X1 ma0 ma1 ma2 ma3 ma4 fh lh ee, tc_X4 ma1 tk mo su, tc_X3 ma2 lv si ga sl sc fo, tc_X0 ma3 mb0 mb1 mb2 mb3 mb4 mb5 ln, tc_I G mb0 10 ow, tc_I G mb1 10 gr, tc_I G mb2 10 we, tc_I G mb3 10 du, tc_I G mb4 10 sa, tc_D G mb5 10 le, tc_X2 ma4 md0 md1 md2 md3 pn, tc_F G md0 3 dl, tc_I G md1 3 pl, tc_I G md2 3 dr, tc_I G md3 3 sp] t.heap ∧ va_D (va_A [tc_X5 a0 ma0 ta0 lk rf pu to, tc_X1 ma0 ma1 ma2 ma3 ma4 fh lh ee, tc_X4 ma1 tk mo su, tc_X3 ma2 lv si ga sl sc fo, tc_X0 ma3 mb0 mb1 mb2 mb3 mb4 mb5 ln, tc_I G mb0 10 ow, tc_I G mb1 10 gr, tc_I G mb2 10 we, tc_I G mb3 10 du, tc_I G mb4 10 sa, tc_D G mb5 10 le, tc_X2 ma4 md0 md1 md2 md3 pn, tc_F G md0 3 dl, tc_I G md1 3 pl, tc_I G md2 3 dr, tc_I G md3 3 sp] sz) [tc_X5 a0 ma0 ta0 lk rf pu to, tc_X1 ma0 ma1 ma2 ma3 ma4 fh lh ee, tc_X4 ma1 tk mo su, tc_X3 ma2 lv si ga sl sc fo, tc_X0 ma3 mb0 mb1 mb2 mb3 mb4 mb5 ln, tc_I G mb0 10 ow, tc_I G mb1 10 gr, tc_I G mb2 10 we, tc_I G mb3 10 du, tc_I G mb4 10 sa, tc_D G mb5 10 le, tc_X2 ma4 md0 md1 md2 md3 pn, tc_F G md0 3 dl, tc_I G md1 3 pl, tc_I G md2 3 dr, tc_I G md3 3 sp]) (va_A [tc_X5 a0 ma0 ta0 lk rf pu to, tc_X1 ma0 ma1 ma2 ma3 ma4 fh lh ee, tc_X4 ma1 tk mo su, tc_X3 ma2 lv si ga sl sc fo, tc_X0 ma3 mb0 mb1 mb2 mb3 mb4 mb5 ln, tc_I G mb0 10 ow, tc_I G mb1 10 gr, tc_I G mb2 10 we, tc_I G mb3 10 du, tc_I G mb4 10 sa, tc_D G mb5 10 le, tc_X2 ma4 md0 md1 md2 md3 pn, tc_F G md0 3 dl, tc_I G md1 3 pl, tc_I G md2 3 dr, tc_I G md3 3 sp] sz)) 0 0 (va_A [tc_X5 a0 ma0 ta0 lk rf pu to, tc_X1 ma0 ma1 ma2 ma3 ma4 fh lh ee, tc_X4 ma1 tk mo su, tc_X3 ma2 lv si ga sl sc fo, tc_X0 ma3 mb0 mb1 mb2 mb3 mb4 mb5 ln, tc_I G mb0 10 ow, tc_I G mb1 10 gr, tc_I G mb2 10 we, tc_I G mb3 10 du, tc_I G mb4 10 sa, tc_D G mb5 10 le, tc_X2 ma4 md0 md1 md2 md3 pn, tc_F G md0 3 dl, tc_I G md1 3 pl, tc_I G md2 3 dr, tc_I G md3 3 sp] sz) := by
  refine Met.ofW (cc := cX5_manyAnswer) (maxL := 2) (ret := (some .int)) (by decide) rfl ?_
  intro p e s m args below meth c s₁ B hml hv
  obtain ⟨rfl, hsz, hP, hK, hD0, hN, hV⟩ := hv
  have hx := B.exec
  have hb := B.bytes
  have hr := B.returns
  have hts := atoms_spec (ws := wsX5_manyAnswer) B.pre
  have hown : s.vm.findClass RX5 = some m.cls := findClass_of_methodNamed B.named
  have hlocks := B.notSynchronized
  subst hsz
  obtain ⟨n_14, n_17, n_20, n_25⟩ := hn
  have hiX0 : ∀ w ∈ u_ws RX0 TX0 7, w ∈ wsX5_manyAnswer := fun _ h => List.mem_cons_of_mem _ (List.mem_append_right _ h)
  have hiX1 : ∀ w ∈ u_ws RX1 TX1 7, w ∈ wsX5_manyAnswer := fun _ h => List.mem_cons_of_mem _ (List.mem_append_left _ (List.mem_append_left _ (List.mem_append_left _ (List.mem_append_left _ (List.mem_append_right _ h)))))
  have hiX2 : ∀ w ∈ u_ws RX2 TX2 5, w ∈ wsX5_manyAnswer := fun _ h => List.mem_cons_of_mem _ (List.mem_append_left _ (List.mem_append_right _ h))
  have hiX3 : ∀ w ∈ u_ws RX3 TX3 6, w ∈ wsX5_manyAnswer := fun _ h => List.mem_cons_of_mem _ (List.mem_append_left _ (List.mem_append_left _ (List.mem_append_right _ h)))
  have hiX4 : ∀ w ∈ u_ws RX4 TX4 3, w ∈ wsX5_manyAnswer := fun _ h => List.mem_cons_of_mem _ (List.mem_append_left _ (List.mem_append_left _ (List.mem_append_left _ (List.mem_append_right _ h))))
  have hiX5 : ∀ w ∈ u_ws RX5 TX5 6, w ∈ wsX5_manyAnswer := fun _ h => List.mem_cons_of_mem _ (List.mem_append_left _ (List.mem_append_left _ (List.mem_append_left _ (List.mem_append_left _ (List.mem_append_left _ (List.mem_append_right _ h))))))
  have hD := hD0.self (sz := s.heap.size)
  generalize hAe : va_A [tc_X5 a0 ma0 ta0 lk rf pu to, tc_X1 ma0 ma1 ma2 ma3 ma4 fh lh ee, tc_X4 ma1 tk mo su, tc_X3 ma2 lv si ga sl sc fo, tc_X0 ma3 mb0 mb1 mb2 mb3 mb4 mb5 ln, tc_I G mb0 10 ow, tc_I G mb1 10 gr, tc_I G mb2 10 we, tc_I G mb3 10 du, tc_I G mb4 10 sa, tc_D G mb5 10 le, tc_X2 ma4 md0 md1 md2 md3 pn, tc_F G md0 3 dl, tc_I G md1 3 pl, tc_I G md2 3 dr, tc_I G md3 3 sp] s.heap.size = A at hD hV ⊢
  have hA : ∀ q : Nat, s.heap.size ≤ q → A q := fun q h => by rw [← hAe]; exact Or.inr h
  have hS : va_S A s.heap s.heap [] := va_S.rf
  have hl := lv_entry ([.ref a0, .int p1]) (n := 2) (Nat.le_of_ble_eq_true rfl)
  rw [lg_entry_eq]
  generalize (lg_sl ([.ref a0, .int p1]) ++ List.replicate (2 - (lg_sl ([.ref a0, .int p1])).length) Slot.unset).toArray = ls at hl ⊢
  have hl : lv_has ls 2 [(0, .ref a0), (1, .int p1)] := hl
  refine lv_iload_n hx hb dX5_manyAnswer_0 rfl (lv_at hl 1 rfl) ?_
  by_cases c_1 : p1 = 0
  · refine lv_tableIn (off := 79) (tgt := 80) hx hb dX5_manyAnswer_1 (by rw [c_1]; decide) (by rw [c_1]; decide) (by rw [c_1]; rfl) (by decide) ?_
    refine lv_aload_n hx hb dX5_manyAnswer_80 rfl (lv_at hl 0 rfl) ?_
    refine va_get (D := G.1) (ci := 5) (v := .ref ma0) (C := RX5) (T := TX5) (N := 6) hx hb hts hiX5 hown hK hP 0 rfl rfl 0 (by decide) (hts (.fieldLink RX5 10 "TideMill" "mill" "LTideMill$Mill;") (List.mem_of_getElem? (i := 1) rfl)) (fun _ h9 => h9) rfl dX5_manyAnswer_81 ?_
    refine va_get (D := G.1) (ci := 1) (v := .ref ma1) (C := RX1) (T := TX1) (N := 7) hx hb hts hiX1 hown hK hP 1 rfl rfl 0 (by decide) (hts (.fieldLink RX5 30 "TideMill$Mill" "sea" "LTideMill$Sea;") (List.mem_of_getElem? (i := 2) rfl)) (fun _ h9 => h9) rfl dX5_manyAnswer_84 ?_
    refine va_get (D := G.1) (ci := 4) (v := .int tk) (C := RX4) (T := TX4) (N := 3) hx hb hts hiX4 hown hK hP 2 rfl rfl 0 (by decide) (hts (.fieldLink RX5 40 "TideMill$Sea" "tick" "I") (List.mem_of_getElem? (i := 3) rfl)) (fun _ h9 => h9) rfl dX5_manyAnswer_87 ?_
    have hP9 := hP.sub (ws' := [tc_X5 a0 ma0 ta0 lk rf pu to, tc_X1 ma0 ma1 ma2 ma3 ma4 fh lh ee, tc_X4 ma1 tk mo su, tc_X3 ma2 lv si ga sl sc fo, tc_X0 ma3 mb0 mb1 mb2 mb3 mb4 mb5 ln, tc_I G mb0 10 ow, tc_I G mb1 10 gr, tc_I G mb2 10 we, tc_I G mb3 10 du, tc_I G mb4 10 sa, tc_D G mb5 10 le, tc_X2 ma4 md0 md1 md2 md3 pn, tc_F G md0 3 dl, tc_I G md1 3 pl, tc_I G md2 3 dr, tc_I G md3 3 sp]) [0, 1, 2, 3, 4, 5, 6, 7, 8, 9, 10, 11, 12, 13, 14, 15] rfl
    have hD9 := hD.sub (ws' := [tc_X5 a0 ma0 ta0 lk rf pu to, tc_X1 ma0 ma1 ma2 ma3 ma4 fh lh ee, tc_X4 ma1 tk mo su, tc_X3 ma2 lv si ga sl sc fo, tc_X0 ma3 mb0 mb1 mb2 mb3 mb4 mb5 ln, tc_I G mb0 10 ow, tc_I G mb1 10 gr, tc_I G mb2 10 we, tc_I G mb3 10 du, tc_I G mb4 10 sa, tc_D G mb5 10 le, tc_X2 ma4 md0 md1 md2 md3 pn, tc_F G md0 3 dl, tc_I G md1 3 pl, tc_I G md2 3 dr, tc_I G md3 3 sp]) [0, 1, 2, 3, 4, 5, 6, 7, 8, 9, 10, 11, 12, 13, 14, 15] (by decide) rfl
    exact W.iret (v := tk) hx hb hr (fun t ht hW => ⟨⟨tk, (), rfl, by unfold f_X5_manyAnswer; all_goals (rw [if_pos c_1]); all_goals rfl, by rw [ht]; exact hP9, hD9⟩, hS.F ht⟩) hS.2.2 dX5_manyAnswer_90
  · by_cases c_2 : p1 = 1
    · refine lv_tableIn (off := 90) (tgt := 91) hx hb dX5_manyAnswer_1 (by rw [c_2]; decide) (by rw [c_2]; decide) (by rw [c_2]; rfl) (by decide) ?_
      refine lv_aload_n hx hb dX5_manyAnswer_91 rfl (lv_at hl 0 rfl) ?_
      refine va_get (D := G.1) (ci := 5) (v := .ref ma0) (C := RX5) (T := TX5) (N := 6) hx hb hts hiX5 hown hK hP 0 rfl rfl 0 (by decide) (hts (.fieldLink RX5 10 "TideMill" "mill" "LTideMill$Mill;") (List.mem_of_getElem? (i := 1) rfl)) (fun _ h9 => h9) rfl dX5_manyAnswer_92 ?_
      refine va_get (D := G.1) (ci := 1) (v := .ref ma1) (C := RX1) (T := TX1) (N := 7) hx hb hts hiX1 hown hK hP 1 rfl rfl 0 (by decide) (hts (.fieldLink RX5 30 "TideMill$Mill" "sea" "LTideMill$Sea;") (List.mem_of_getElem? (i := 2) rfl)) (fun _ h9 => h9) rfl dX5_manyAnswer_95 ?_
      have hPc := hP.sub (ws' := [tc_X4 ma1 tk mo su]) [2] rfl
      have hDc := hD.sub (ws' := [tc_X4 ma1 tk mo su]) [2] (by decide) rfl
      have hFc := va_free (wc := [tc_X4 ma1 tk mo su]) hD hS hA [2] rfl
      refine va_calli (va_runV (As := []) (rest := []) ⟨hx, hb, hml, hown, hts⟩ (c_X4_today l G ma1 s.heap.size tk mo su ) (cwV 0 hts gX5_manyAnswer_X4_today rfl rfl rfl (by decide +kernel) ⟨(Nat.le_of_ble_eq_true rfl), (Nat.le_of_ble_eq_true rfl)⟩) (tm_preV hK hN hV hS hPc hDc hFc (va_recv hK hPc (ci := 4) (q0 := 0) rfl rfl)) rfl rfl hl.1 rfl (lv_room (Nat.le_of_ble_eq_true rfl)) dX5_manyAnswer_98 ⟨(Nat.le_of_ble_eq_true rfl), (Nat.le_of_ble_eq_true rfl)⟩) hS (fun q _ h => hFc q h) hFc (fun r_3 u t H locs ht hvm hw_3 hB hz1 hk1 hS => ?_)
      obtain ⟨hP1, hD1⟩ := hB
      rw [ht] at hP1
      try dsimp only at hw_3
      obtain ⟨hP, hD⟩ := va_join (wr := [tc_X5 a0 ma0 ta0 lk rf pu to, tc_X1 ma0 ma1 ma2 ma3 ma4 fh lh ee, tc_X3 ma2 lv si ga sl sc fo, tc_X0 ma3 mb0 mb1 mb2 mb3 mb4 mb5 ln, tc_I G mb0 10 ow, tc_I G mb1 10 gr, tc_I G mb2 10 we, tc_I G mb3 10 du, tc_I G mb4 10 sa, tc_D G mb5 10 le, tc_X2 ma4 md0 md1 md2 md3 pn, tc_F G md0 3 dl, tc_I G md1 3 pl, tc_I G md2 3 dr, tc_I G md3 3 sp]) (w1 := [tc_X4 ma1 tk mo su]) hP hD [2] [0, 1, 3, 4, 5, 6, 7, 8, 9, 10, 11, 12, 13, 14, 15] rfl rfl (by decide) (by decide) hk1 hFc hP1 hD1
      have hP : va_P G.1 vwCl [tc_X5 a0 ma0 ta0 lk rf pu to, tc_X1 ma0 ma1 ma2 ma3 ma4 fh lh ee, tc_X3 ma2 lv si ga sl sc fo, tc_X0 ma3 mb0 mb1 mb2 mb3 mb4 mb5 ln, tc_I G mb0 10 ow, tc_I G mb1 10 gr, tc_I G mb2 10 we, tc_I G mb3 10 du, tc_I G mb4 10 sa, tc_D G mb5 10 le, tc_X2 ma4 md0 md1 md2 md3 pn, tc_F G md0 3 dl, tc_I G md1 3 pl, tc_I G md2 3 dr, tc_I G md3 3 sp, tc_X4 ma1 tk mo su] H := hP
      have hD : va_D A [tc_X5 a0 ma0 ta0 lk rf pu to, tc_X1 ma0 ma1 ma2 ma3 ma4 fh lh ee, tc_X3 ma2 lv si ga sl sc fo, tc_X0 ma3 mb0 mb1 mb2 mb3 mb4 mb5 ln, tc_I G mb0 10 ow, tc_I G mb1 10 gr, tc_I G mb2 10 we, tc_I G mb3 10 du, tc_I G mb4 10 sa, tc_D G mb5 10 le, tc_X2 ma4 md0 md1 md2 md3 pn, tc_F G md0 3 dl, tc_I G md1 3 pl, tc_I G md2 3 dr, tc_I G md3 3 sp, tc_X4 ma1 tk mo su] := hD
      subst hw_3
      have hP9 := hP.sub (ws' := [tc_X5 a0 ma0 ta0 lk rf pu to, tc_X1 ma0 ma1 ma2 ma3 ma4 fh lh ee, tc_X4 ma1 tk mo su, tc_X3 ma2 lv si ga sl sc fo, tc_X0 ma3 mb0 mb1 mb2 mb3 mb4 mb5 ln, tc_I G mb0 10 ow, tc_I G mb1 10 gr, tc_I G mb2 10 we, tc_I G mb3 10 du, tc_I G mb4 10 sa, tc_D G mb5 10 le, tc_X2 ma4 md0 md1 md2 md3 pn, tc_F G md0 3 dl, tc_I G md1 3 pl, tc_I G md2 3 dr, tc_I G md3 3 sp]) [0, 1, 15, 2, 3, 4, 5, 6, 7, 8, 9, 10, 11, 12, 13, 14] rfl
      have hD9 := hD.sub (ws' := [tc_X5 a0 ma0 ta0 lk rf pu to, tc_X1 ma0 ma1 ma2 ma3 ma4 fh lh ee, tc_X4 ma1 tk mo su, tc_X3 ma2 lv si ga sl sc fo, tc_X0 ma3 mb0 mb1 mb2 mb3 mb4 mb5 ln, tc_I G mb0 10 ow, tc_I G mb1 10 gr, tc_I G mb2 10 we, tc_I G mb3 10 du, tc_I G mb4 10 sa, tc_D G mb5 10 le, tc_X2 ma4 md0 md1 md2 md3 pn, tc_F G md0 3 dl, tc_I G md1 3 pl, tc_I G md2 3 dr, tc_I G md3 3 sp]) [0, 1, 15, 2, 3, 4, 5, 6, 7, 8, 9, 10, 11, 12, 13, 14] (by decide) rfl
      exact W.iret (v := f_X4_today tk) hx hb hr (fun t ht hW => ⟨⟨f_X4_today tk, (), rfl, by unfold f_X5_manyAnswer; all_goals (rw [if_neg c_1]); all_goals (rw [if_pos c_2]); all_goals rfl, by rw [ht]; exact hP9, hD9⟩, hS.F ht⟩) hS.2.2 dX5_manyAnswer_101
    · by_cases c_4 : p1 = 2
      · refine lv_tableIn (off := 101) (tgt := 102) hx hb dX5_manyAnswer_1 (by rw [c_4]; decide) (by rw [c_4]; decide) (by rw [c_4]; rfl) (by decide) ?_
        refine lv_aload_n hx hb dX5_manyAnswer_102 rfl (lv_at hl 0 rfl) ?_
        refine va_get (D := G.1) (ci := 5) (v := .ref ma0) (C := RX5) (T := TX5) (N := 6) hx hb hts hiX5 hown hK hP 0 rfl rfl 0 (by decide) (hts (.fieldLink RX5 10 "TideMill" "mill" "LTideMill$Mill;") (List.mem_of_getElem? (i := 1) rfl)) (fun _ h9 => h9) rfl dX5_manyAnswer_103 ?_
        refine va_get (D := G.1) (ci := 1) (v := .ref ma1) (C := RX1) (T := TX1) (N := 7) hx hb hts hiX1 hown hK hP 1 rfl rfl 0 (by decide) (hts (.fieldLink RX5 30 "TideMill$Mill" "sea" "LTideMill$Sea;") (List.mem_of_getElem? (i := 2) rfl)) (fun _ h9 => h9) rfl dX5_manyAnswer_106 ?_
        refine lv_aload_n hx hb dX5_manyAnswer_109 rfl (lv_at hl 0 rfl) ?_
        refine va_get (D := G.1) (ci := 5) (v := .ref ma0) (C := RX5) (T := TX5) (N := 6) hx hb hts hiX5 hown hK hP 0 rfl rfl 0 (by decide) (hts (.fieldLink RX5 10 "TideMill" "mill" "LTideMill$Mill;") (List.mem_of_getElem? (i := 1) rfl)) (fun _ h9 => h9) rfl dX5_manyAnswer_110 ?_
        refine va_get (D := G.1) (ci := 1) (v := .ref ma1) (C := RX1) (T := TX1) (N := 7) hx hb hts hiX1 hown hK hP 1 rfl rfl 0 (by decide) (hts (.fieldLink RX5 30 "TideMill$Mill" "sea" "LTideMill$Sea;") (List.mem_of_getElem? (i := 2) rfl)) (fun _ h9 => h9) rfl dX5_manyAnswer_113 ?_
        refine va_get (D := G.1) (ci := 4) (v := .int tk) (C := RX4) (T := TX4) (N := 3) hx hb hts hiX4 hown hK hP 2 rfl rfl 0 (by decide) (hts (.fieldLink RX5 40 "TideMill$Sea" "tick" "I") (List.mem_of_getElem? (i := 3) rfl)) (fun _ h9 => h9) rfl dX5_manyAnswer_116 ?_
        have hPc := hP.sub (ws' := [tc_X4 ma1 tk mo su]) [2] rfl
        have hDc := hD.sub (ws' := [tc_X4 ma1 tk mo su]) [2] (by decide) rfl
        have hFc := va_free (wc := [tc_X4 ma1 tk mo su]) hD hS hA [2] rfl
        refine va_calli (va_runV (As := [.int tk]) (rest := []) ⟨hx, hb, hml, hown, hts⟩ (c_X4_ageOn l G ma1 s.heap.size tk mo su tk ) (cwV 1 hts gX5_manyAnswer_X4_ageOn rfl rfl rfl (by decide +kernel) ⟨(Nat.le_of_ble_eq_true rfl), (Nat.le_of_ble_eq_true rfl)⟩) (tm_preV hK hN hV hS hPc hDc hFc (va_recv hK hPc (ci := 4) (q0 := 0) rfl rfl)) rfl rfl hl.1 rfl (lv_room (Nat.le_of_ble_eq_true rfl)) dX5_manyAnswer_119 ⟨(Nat.le_of_ble_eq_true rfl), (Nat.le_of_ble_eq_true rfl)⟩) hS (fun q _ h => hFc q h) hFc (fun r_5 u t H locs ht hvm hw_5 hB hz1 hk1 hS => ?_)
        obtain ⟨hP1, hD1⟩ := hB
        rw [ht] at hP1
        try dsimp only at hw_5
        obtain ⟨hP, hD⟩ := va_join (wr := [tc_X5 a0 ma0 ta0 lk rf pu to, tc_X1 ma0 ma1 ma2 ma3 ma4 fh lh ee, tc_X3 ma2 lv si ga sl sc fo, tc_X0 ma3 mb0 mb1 mb2 mb3 mb4 mb5 ln, tc_I G mb0 10 ow, tc_I G mb1 10 gr, tc_I G mb2 10 we, tc_I G mb3 10 du, tc_I G mb4 10 sa, tc_D G mb5 10 le, tc_X2 ma4 md0 md1 md2 md3 pn, tc_F G md0 3 dl, tc_I G md1 3 pl, tc_I G md2 3 dr, tc_I G md3 3 sp]) (w1 := [tc_X4 ma1 tk mo su]) hP hD [2] [0, 1, 3, 4, 5, 6, 7, 8, 9, 10, 11, 12, 13, 14, 15] rfl rfl (by decide) (by decide) hk1 hFc hP1 hD1
        have hP : va_P G.1 vwCl [tc_X5 a0 ma0 ta0 lk rf pu to, tc_X1 ma0 ma1 ma2 ma3 ma4 fh lh ee, tc_X3 ma2 lv si ga sl sc fo, tc_X0 ma3 mb0 mb1 mb2 mb3 mb4 mb5 ln, tc_I G mb0 10 ow, tc_I G mb1 10 gr, tc_I G mb2 10 we, tc_I G mb3 10 du, tc_I G mb4 10 sa, tc_D G mb5 10 le, tc_X2 ma4 md0 md1 md2 md3 pn, tc_F G md0 3 dl, tc_I G md1 3 pl, tc_I G md2 3 dr, tc_I G md3 3 sp, tc_X4 ma1 tk mo su] H := hP
        have hD : va_D A [tc_X5 a0 ma0 ta0 lk rf pu to, tc_X1 ma0 ma1 ma2 ma3 ma4 fh lh ee, tc_X3 ma2 lv si ga sl sc fo, tc_X0 ma3 mb0 mb1 mb2 mb3 mb4 mb5 ln, tc_I G mb0 10 ow, tc_I G mb1 10 gr, tc_I G mb2 10 we, tc_I G mb3 10 du, tc_I G mb4 10 sa, tc_D G mb5 10 le, tc_X2 ma4 md0 md1 md2 md3 pn, tc_F G md0 3 dl, tc_I G md1 3 pl, tc_I G md2 3 dr, tc_I G md3 3 sp, tc_X4 ma1 tk mo su] := hD
        subst hw_5
        have hP9 := hP.sub (ws' := [tc_X5 a0 ma0 ta0 lk rf pu to, tc_X1 ma0 ma1 ma2 ma3 ma4 fh lh ee, tc_X4 ma1 tk mo su, tc_X3 ma2 lv si ga sl sc fo, tc_X0 ma3 mb0 mb1 mb2 mb3 mb4 mb5 ln, tc_I G mb0 10 ow, tc_I G mb1 10 gr, tc_I G mb2 10 we, tc_I G mb3 10 du, tc_I G mb4 10 sa, tc_D G mb5 10 le, tc_X2 ma4 md0 md1 md2 md3 pn, tc_F G md0 3 dl, tc_I G md1 3 pl, tc_I G md2 3 dr, tc_I G md3 3 sp]) [0, 1, 15, 2, 3, 4, 5, 6, 7, 8, 9, 10, 11, 12, 13, 14] rfl
        have hD9 := hD.sub (ws' := [tc_X5 a0 ma0 ta0 lk rf pu to, tc_X1 ma0 ma1 ma2 ma3 ma4 fh lh ee, tc_X4 ma1 tk mo su, tc_X3 ma2 lv si ga sl sc fo, tc_X0 ma3 mb0 mb1 mb2 mb3 mb4 mb5 ln, tc_I G mb0 10 ow, tc_I G mb1 10 gr, tc_I G mb2 10 we, tc_I G mb3 10 du, tc_I G mb4 10 sa, tc_D G mb5 10 le, tc_X2 ma4 md0 md1 md2 md3 pn, tc_F G md0 3 dl, tc_I G md1 3 pl, tc_I G md2 3 dr, tc_I G md3 3 sp]) [0, 1, 15, 2, 3, 4, 5, 6, 7, 8, 9, 10, 11, 12, 13, 14] (by decide) rfl
        exact W.iret (v := f_X4_ageOn mo tk) hx hb hr (fun t ht hW => ⟨⟨f_X4_ageOn mo tk, (), rfl, by unfold f_X5_manyAnswer; all_goals (rw [if_neg c_1]); all_goals (rw [if_neg c_2]); all_goals (rw [if_pos c_4]); all_goals rfl, by rw [ht]; exact hP9, hD9⟩, hS.F ht⟩) hS.2.2 dX5_manyAnswer_122
      · by_cases c_6 : p1 = 3
        · refine lv_tableIn (off := 122) (tgt := 123) hx hb dX5_manyAnswer_1 (by rw [c_6]; decide) (by rw [c_6]; decide) (by rw [c_6]; rfl) (by decide) ?_
          refine lv_aload_n hx hb dX5_manyAnswer_123 rfl (lv_at hl 0 rfl) ?_
          refine va_get (D := G.1) (ci := 5) (v := .ref ma0) (C := RX5) (T := TX5) (N := 6) hx hb hts hiX5 hown hK hP 0 rfl rfl 0 (by decide) (hts (.fieldLink RX5 10 "TideMill" "mill" "LTideMill$Mill;") (List.mem_of_getElem? (i := 1) rfl)) (fun _ h9 => h9) rfl dX5_manyAnswer_124 ?_
          refine va_get (D := G.1) (ci := 1) (v := .ref ma1) (C := RX1) (T := TX1) (N := 7) hx hb hts hiX1 hown hK hP 1 rfl rfl 0 (by decide) (hts (.fieldLink RX5 30 "TideMill$Mill" "sea" "LTideMill$Sea;") (List.mem_of_getElem? (i := 2) rfl)) (fun _ h9 => h9) rfl dX5_manyAnswer_127 ?_
          refine lv_aload_n hx hb dX5_manyAnswer_130 rfl (lv_at hl 0 rfl) ?_
          refine va_get (D := G.1) (ci := 5) (v := .ref ma0) (C := RX5) (T := TX5) (N := 6) hx hb hts hiX5 hown hK hP 0 rfl rfl 0 (by decide) (hts (.fieldLink RX5 10 "TideMill" "mill" "LTideMill$Mill;") (List.mem_of_getElem? (i := 1) rfl)) (fun _ h9 => h9) rfl dX5_manyAnswer_131 ?_
          refine va_get (D := G.1) (ci := 1) (v := .ref ma1) (C := RX1) (T := TX1) (N := 7) hx hb hts hiX1 hown hK hP 1 rfl rfl 0 (by decide) (hts (.fieldLink RX5 30 "TideMill$Mill" "sea" "LTideMill$Sea;") (List.mem_of_getElem? (i := 2) rfl)) (fun _ h9 => h9) rfl dX5_manyAnswer_134 ?_
          refine lv_aload_n hx hb dX5_manyAnswer_137 rfl (lv_at hl 0 rfl) ?_
          refine va_get (D := G.1) (ci := 5) (v := .ref ma0) (C := RX5) (T := TX5) (N := 6) hx hb hts hiX5 hown hK hP 0 rfl rfl 0 (by decide) (hts (.fieldLink RX5 10 "TideMill" "mill" "LTideMill$Mill;") (List.mem_of_getElem? (i := 1) rfl)) (fun _ h9 => h9) rfl dX5_manyAnswer_138 ?_
          refine va_get (D := G.1) (ci := 1) (v := .ref ma1) (C := RX1) (T := TX1) (N := 7) hx hb hts hiX1 hown hK hP 1 rfl rfl 0 (by decide) (hts (.fieldLink RX5 30 "TideMill$Mill" "sea" "LTideMill$Sea;") (List.mem_of_getElem? (i := 2) rfl)) (fun _ h9 => h9) rfl dX5_manyAnswer_141 ?_
          refine va_get (D := G.1) (ci := 4) (v := .int tk) (C := RX4) (T := TX4) (N := 3) hx hb hts hiX4 hown hK hP 2 rfl rfl 0 (by decide) (hts (.fieldLink RX5 40 "TideMill$Sea" "tick" "I") (List.mem_of_getElem? (i := 3) rfl)) (fun _ h9 => h9) rfl dX5_manyAnswer_144 ?_
          have hPc := hP.sub (ws' := [tc_X4 ma1 tk mo su]) [2] rfl
          have hDc := hD.sub (ws' := [tc_X4 ma1 tk mo su]) [2] (by decide) rfl
          have hFc := va_free (wc := [tc_X4 ma1 tk mo su]) hD hS hA [2] rfl
          refine va_calli (va_runV (As := [.int tk]) (rest := [.ref ma1]) ⟨hx, hb, hml, hown, hts⟩ (c_X4_ageOn l G ma1 s.heap.size tk mo su tk ) (cwV 1 hts gX5_manyAnswer_X4_ageOn rfl rfl rfl (by decide +kernel) ⟨(Nat.le_of_ble_eq_true rfl), (Nat.le_of_ble_eq_true rfl)⟩) (tm_preV hK hN hV hS hPc hDc hFc (va_recv hK hPc (ci := 4) (q0 := 0) rfl rfl)) rfl rfl hl.1 rfl (lv_room (Nat.le_of_ble_eq_true rfl)) dX5_manyAnswer_147 ⟨(Nat.le_of_ble_eq_true rfl), (Nat.le_of_ble_eq_true rfl)⟩) hS (fun q _ h => hFc q h) hFc (fun r_7 u t H locs ht hvm hw_7 hB hz1 hk1 hS => ?_)
          obtain ⟨hP1, hD1⟩ := hB
          rw [ht] at hP1
          try dsimp only at hw_7
          obtain ⟨hP, hD⟩ := va_join (wr := [tc_X5 a0 ma0 ta0 lk rf pu to, tc_X1 ma0 ma1 ma2 ma3 ma4 fh lh ee, tc_X3 ma2 lv si ga sl sc fo, tc_X0 ma3 mb0 mb1 mb2 mb3 mb4 mb5 ln, tc_I G mb0 10 ow, tc_I G mb1 10 gr, tc_I G mb2 10 we, tc_I G mb3 10 du, tc_I G mb4 10 sa, tc_D G mb5 10 le, tc_X2 ma4 md0 md1 md2 md3 pn, tc_F G md0 3 dl, tc_I G md1 3 pl, tc_I G md2 3 dr, tc_I G md3 3 sp]) (w1 := [tc_X4 ma1 tk mo su]) hP hD [2] [0, 1, 3, 4, 5, 6, 7, 8, 9, 10, 11, 12, 13, 14, 15] rfl rfl (by decide) (by decide) hk1 hFc hP1 hD1
          have hP : va_P G.1 vwCl [tc_X5 a0 ma0 ta0 lk rf pu to, tc_X1 ma0 ma1 ma2 ma3 ma4 fh lh ee, tc_X3 ma2 lv si ga sl sc fo, tc_X0 ma3 mb0 mb1 mb2 mb3 mb4 mb5 ln, tc_I G mb0 10 ow, tc_I G mb1 10 gr, tc_I G mb2 10 we, tc_I G mb3 10 du, tc_I G mb4 10 sa, tc_D G mb5 10 le, tc_X2 ma4 md0 md1 md2 md3 pn, tc_F G md0 3 dl, tc_I G md1 3 pl, tc_I G md2 3 dr, tc_I G md3 3 sp, tc_X4 ma1 tk mo su] H := hP
          have hD : va_D A [tc_X5 a0 ma0 ta0 lk rf pu to, tc_X1 ma0 ma1 ma2 ma3 ma4 fh lh ee, tc_X3 ma2 lv si ga sl sc fo, tc_X0 ma3 mb0 mb1 mb2 mb3 mb4 mb5 ln, tc_I G mb0 10 ow, tc_I G mb1 10 gr, tc_I G mb2 10 we, tc_I G mb3 10 du, tc_I G mb4 10 sa, tc_D G mb5 10 le, tc_X2 ma4 md0 md1 md2 md3 pn, tc_F G md0 3 dl, tc_I G md1 3 pl, tc_I G md2 3 dr, tc_I G md3 3 sp, tc_X4 ma1 tk mo su] := hD
          subst hw_7
          have hPc := hP.sub (ws' := [tc_X4 ma1 tk mo su]) [15] rfl
          have hDc := hD.sub (ws' := [tc_X4 ma1 tk mo su]) [15] (by decide) rfl
          have hFc := va_free (wc := [tc_X4 ma1 tk mo su]) hD hS hA [15] rfl
          refine va_calli (va_runV (As := [.int (f_X4_ageOn mo tk)]) (rest := []) ⟨hx, hb, hml, hown, hts⟩ (c_X4_springOf l G ma1 H.size tk mo su (f_X4_ageOn mo tk) ) (cwV 1 hts gX5_manyAnswer_X4_springOf rfl rfl rfl (by decide +kernel) ⟨(Nat.le_of_ble_eq_true rfl), (Nat.le_of_ble_eq_true rfl)⟩) (tm_preV hK hN hV hS hPc hDc hFc (va_recv hK hPc (ci := 4) (q0 := 0) rfl rfl)) rfl rfl hl.1 rfl (lv_room (Nat.le_of_ble_eq_true rfl)) dX5_manyAnswer_150 ⟨(Nat.le_of_ble_eq_true rfl), (Nat.le_of_ble_eq_true rfl)⟩) hS (fun q _ h => hFc q h) hFc (fun r_8 u t H locs ht hvm hw_8 hB hz1 hk1 hS => ?_)
          obtain ⟨hP1, hD1⟩ := hB
          rw [ht] at hP1
          try dsimp only at hw_8
          obtain ⟨hP, hD⟩ := va_join (wr := [tc_X5 a0 ma0 ta0 lk rf pu to, tc_X1 ma0 ma1 ma2 ma3 ma4 fh lh ee, tc_X3 ma2 lv si ga sl sc fo, tc_X0 ma3 mb0 mb1 mb2 mb3 mb4 mb5 ln, tc_I G mb0 10 ow, tc_I G mb1 10 gr, tc_I G mb2 10 we, tc_I G mb3 10 du, tc_I G mb4 10 sa, tc_D G mb5 10 le, tc_X2 ma4 md0 md1 md2 md3 pn, tc_F G md0 3 dl, tc_I G md1 3 pl, tc_I G md2 3 dr, tc_I G md3 3 sp]) (w1 := [tc_X4 ma1 tk mo su]) hP hD [15] [0, 1, 2, 3, 4, 5, 6, 7, 8, 9, 10, 11, 12, 13, 14] rfl rfl (by decide) (by decide) hk1 hFc hP1 hD1
          have hP : va_P G.1 vwCl [tc_X5 a0 ma0 ta0 lk rf pu to, tc_X1 ma0 ma1 ma2 ma3 ma4 fh lh ee, tc_X3 ma2 lv si ga sl sc fo, tc_X0 ma3 mb0 mb1 mb2 mb3 mb4 mb5 ln, tc_I G mb0 10 ow, tc_I G mb1 10 gr, tc_I G mb2 10 we, tc_I G mb3 10 du, tc_I G mb4 10 sa, tc_D G mb5 10 le, tc_X2 ma4 md0 md1 md2 md3 pn, tc_F G md0 3 dl, tc_I G md1 3 pl, tc_I G md2 3 dr, tc_I G md3 3 sp, tc_X4 ma1 tk mo su] H := hP
          have hD : va_D A [tc_X5 a0 ma0 ta0 lk rf pu to, tc_X1 ma0 ma1 ma2 ma3 ma4 fh lh ee, tc_X3 ma2 lv si ga sl sc fo, tc_X0 ma3 mb0 mb1 mb2 mb3 mb4 mb5 ln, tc_I G mb0 10 ow, tc_I G mb1 10 gr, tc_I G mb2 10 we, tc_I G mb3 10 du, tc_I G mb4 10 sa, tc_D G mb5 10 le, tc_X2 ma4 md0 md1 md2 md3 pn, tc_F G md0 3 dl, tc_I G md1 3 pl, tc_I G md2 3 dr, tc_I G md3 3 sp, tc_X4 ma1 tk mo su] := hD
          subst hw_8
          have hP9 := hP.sub (ws' := [tc_X5 a0 ma0 ta0 lk rf pu to, tc_X1 ma0 ma1 ma2 ma3 ma4 fh lh ee, tc_X4 ma1 tk mo su, tc_X3 ma2 lv si ga sl sc fo, tc_X0 ma3 mb0 mb1 mb2 mb3 mb4 mb5 ln, tc_I G mb0 10 ow, tc_I G mb1 10 gr, tc_I G mb2 10 we, tc_I G mb3 10 du, tc_I G mb4 10 sa, tc_D G mb5 10 le, tc_X2 ma4 md0 md1 md2 md3 pn, tc_F G md0 3 dl, tc_I G md1 3 pl, tc_I G md2 3 dr, tc_I G md3 3 sp]) [0, 1, 15, 2, 3, 4, 5, 6, 7, 8, 9, 10, 11, 12, 13, 14] rfl
          have hD9 := hD.sub (ws' := [tc_X5 a0 ma0 ta0 lk rf pu to, tc_X1 ma0 ma1 ma2 ma3 ma4 fh lh ee, tc_X4 ma1 tk mo su, tc_X3 ma2 lv si ga sl sc fo, tc_X0 ma3 mb0 mb1 mb2 mb3 mb4 mb5 ln, tc_I G mb0 10 ow, tc_I G mb1 10 gr, tc_I G mb2 10 we, tc_I G mb3 10 du, tc_I G mb4 10 sa, tc_D G mb5 10 le, tc_X2 ma4 md0 md1 md2 md3 pn, tc_F G md0 3 dl, tc_I G md1 3 pl, tc_I G md2 3 dr, tc_I G md3 3 sp]) [0, 1, 15, 2, 3, 4, 5, 6, 7, 8, 9, 10, 11, 12, 13, 14] (by decide) rfl
          exact W.iret (v := f_X4_springOf (f_X4_ageOn mo tk)) hx hb hr (fun t ht hW => ⟨⟨f_X4_springOf (f_X4_ageOn mo tk), (), rfl, by unfold f_X5_manyAnswer; all_goals (rw [if_neg c_1]); all_goals (rw [if_neg c_2]); all_goals (rw [if_neg c_4]); all_goals (rw [if_pos c_6]); all_goals rfl, by rw [ht]; exact hP9, hD9⟩, hS.F ht⟩) hS.2.2 dX5_manyAnswer_153
        · by_cases c_9 : p1 = 4
          · refine lv_tableIn (off := 153) (tgt := 154) hx hb dX5_manyAnswer_1 (by rw [c_9]; decide) (by rw [c_9]; decide) (by rw [c_9]; rfl) (by decide) ?_
            refine lv_aload_n hx hb dX5_manyAnswer_154 rfl (lv_at hl 0 rfl) ?_
            refine va_get (D := G.1) (ci := 5) (v := .ref ma0) (C := RX5) (T := TX5) (N := 6) hx hb hts hiX5 hown hK hP 0 rfl rfl 0 (by decide) (hts (.fieldLink RX5 10 "TideMill" "mill" "LTideMill$Mill;") (List.mem_of_getElem? (i := 1) rfl)) (fun _ h9 => h9) rfl dX5_manyAnswer_155 ?_
            refine va_get (D := G.1) (ci := 1) (v := .ref ma2) (C := RX1) (T := TX1) (N := 7) hx hb hts hiX1 hown hK hP 1 rfl rfl 1 (by decide) (hts (.fieldLink RX5 70 "TideMill$Mill" "pond" "LTideMill$Pond;") (List.mem_of_getElem? (i := 4) rfl)) (fun _ h9 => h9) rfl dX5_manyAnswer_158 ?_
            refine va_get (D := G.1) (ci := 3) (v := .int ga) (C := RX3) (T := TX3) (N := 6) hx hb hts hiX3 hown hK hP 3 rfl rfl 2 (by decide) (hts (.fieldLink RX5 74 "TideMill$Pond" "gates" "I") (List.mem_of_getElem? (i := 5) rfl)) (fun _ h9 => h9) rfl dX5_manyAnswer_161 ?_
            have hP9 := hP.sub (ws' := [tc_X5 a0 ma0 ta0 lk rf pu to, tc_X1 ma0 ma1 ma2 ma3 ma4 fh lh ee, tc_X4 ma1 tk mo su, tc_X3 ma2 lv si ga sl sc fo, tc_X0 ma3 mb0 mb1 mb2 mb3 mb4 mb5 ln, tc_I G mb0 10 ow, tc_I G mb1 10 gr, tc_I G mb2 10 we, tc_I G mb3 10 du, tc_I G mb4 10 sa, tc_D G mb5 10 le, tc_X2 ma4 md0 md1 md2 md3 pn, tc_F G md0 3 dl, tc_I G md1 3 pl, tc_I G md2 3 dr, tc_I G md3 3 sp]) [0, 1, 2, 3, 4, 5, 6, 7, 8, 9, 10, 11, 12, 13, 14, 15] rfl
            have hD9 := hD.sub (ws' := [tc_X5 a0 ma0 ta0 lk rf pu to, tc_X1 ma0 ma1 ma2 ma3 ma4 fh lh ee, tc_X4 ma1 tk mo su, tc_X3 ma2 lv si ga sl sc fo, tc_X0 ma3 mb0 mb1 mb2 mb3 mb4 mb5 ln, tc_I G mb0 10 ow, tc_I G mb1 10 gr, tc_I G mb2 10 we, tc_I G mb3 10 du, tc_I G mb4 10 sa, tc_D G mb5 10 le, tc_X2 ma4 md0 md1 md2 md3 pn, tc_F G md0 3 dl, tc_I G md1 3 pl, tc_I G md2 3 dr, tc_I G md3 3 sp]) [0, 1, 2, 3, 4, 5, 6, 7, 8, 9, 10, 11, 12, 13, 14, 15] (by decide) rfl
            exact W.iret (v := ga) hx hb hr (fun t ht hW => ⟨⟨ga, (), rfl, by unfold f_X5_manyAnswer; all_goals (rw [if_neg c_1]); all_goals (rw [if_neg c_2]); all_goals (rw [if_neg c_4]); all_goals (rw [if_neg c_6]); all_goals (rw [if_pos c_9]); all_goals rfl, by rw [ht]; exact hP9, hD9⟩, hS.F ht⟩) hS.2.2 dX5_manyAnswer_164
          · by_cases c_10 : p1 = 5
            · refine lv_tableIn (off := 164) (tgt := 165) hx hb dX5_manyAnswer_1 (by rw [c_10]; decide) (by rw [c_10]; decide) (by rw [c_10]; rfl) (by decide) ?_
              refine lv_aload_n hx hb dX5_manyAnswer_165 rfl (lv_at hl 0 rfl) ?_
              refine va_get (D := G.1) (ci := 5) (v := .ref ma0) (C := RX5) (T := TX5) (N := 6) hx hb hts hiX5 hown hK hP 0 rfl rfl 0 (by decide) (hts (.fieldLink RX5 10 "TideMill" "mill" "LTideMill$Mill;") (List.mem_of_getElem? (i := 1) rfl)) (fun _ h9 => h9) rfl dX5_manyAnswer_166 ?_
              refine va_get (D := G.1) (ci := 1) (v := .ref ma2) (C := RX1) (T := TX1) (N := 7) hx hb hts hiX1 hown hK hP 1 rfl rfl 1 (by decide) (hts (.fieldLink RX5 70 "TideMill$Mill" "pond" "LTideMill$Pond;") (List.mem_of_getElem? (i := 4) rfl)) (fun _ h9 => h9) rfl dX5_manyAnswer_169 ?_
              refine va_get (D := G.1) (ci := 3) (v := .int sl) (C := RX3) (T := TX3) (N := 6) hx hb hts hiX3 hown hK hP 3 rfl rfl 3 (by decide) (hts (.fieldLink RX5 81 "TideMill$Pond" "sluice" "I") (List.mem_of_getElem? (i := 6) rfl)) (fun _ h9 => h9) rfl dX5_manyAnswer_172 ?_
              have hP9 := hP.sub (ws' := [tc_X5 a0 ma0 ta0 lk rf pu to, tc_X1 ma0 ma1 ma2 ma3 ma4 fh lh ee, tc_X4 ma1 tk mo su, tc_X3 ma2 lv si ga sl sc fo, tc_X0 ma3 mb0 mb1 mb2 mb3 mb4 mb5 ln, tc_I G mb0 10 ow, tc_I G mb1 10 gr, tc_I G mb2 10 we, tc_I G mb3 10 du, tc_I G mb4 10 sa, tc_D G mb5 10 le, tc_X2 ma4 md0 md1 md2 md3 pn, tc_F G md0 3 dl, tc_I G md1 3 pl, tc_I G md2 3 dr, tc_I G md3 3 sp]) [0, 1, 2, 3, 4, 5, 6, 7, 8, 9, 10, 11, 12, 13, 14, 15] rfl
              have hD9 := hD.sub (ws' := [tc_X5 a0 ma0 ta0 lk rf pu to, tc_X1 ma0 ma1 ma2 ma3 ma4 fh lh ee, tc_X4 ma1 tk mo su, tc_X3 ma2 lv si ga sl sc fo, tc_X0 ma3 mb0 mb1 mb2 mb3 mb4 mb5 ln, tc_I G mb0 10 ow, tc_I G mb1 10 gr, tc_I G mb2 10 we, tc_I G mb3 10 du, tc_I G mb4 10 sa, tc_D G mb5 10 le, tc_X2 ma4 md0 md1 md2 md3 pn, tc_F G md0 3 dl, tc_I G md1 3 pl, tc_I G md2 3 dr, tc_I G md3 3 sp]) [0, 1, 2, 3, 4, 5, 6, 7, 8, 9, 10, 11, 12, 13, 14, 15] (by decide) rfl
              exact W.iret (v := sl) hx hb hr (fun t ht hW => ⟨⟨sl, (), rfl, by unfold f_X5_manyAnswer; all_goals (rw [if_neg c_1]); all_goals (rw [if_neg c_2]); all_goals (rw [if_neg c_4]); all_goals (rw [if_neg c_6]); all_goals (rw [if_neg c_9]); all_goals (rw [if_pos c_10]); all_goals rfl, by rw [ht]; exact hP9, hD9⟩, hS.F ht⟩) hS.2.2 dX5_manyAnswer_175
            · by_cases c_11 : p1 = 6
              · refine lv_tableIn (off := 175) (tgt := 176) hx hb dX5_manyAnswer_1 (by rw [c_11]; decide) (by rw [c_11]; decide) (by rw [c_11]; rfl) (by decide) ?_
                refine lv_aload_n hx hb dX5_manyAnswer_176 rfl (lv_at hl 0 rfl) ?_
                refine va_get (D := G.1) (ci := 5) (v := .ref ma0) (C := RX5) (T := TX5) (N := 6) hx hb hts hiX5 hown hK hP 0 rfl rfl 0 (by decide) (hts (.fieldLink RX5 10 "TideMill" "mill" "LTideMill$Mill;") (List.mem_of_getElem? (i := 1) rfl)) (fun _ h9 => h9) rfl dX5_manyAnswer_177 ?_
                refine va_get (D := G.1) (ci := 1) (v := .ref ma4) (C := RX1) (T := TX1) (N := 7) hx hb hts hiX1 hown hK hP 1 rfl rfl 3 (by decide) (hts (.fieldLink RX5 102 "TideMill$Mill" "pairs" "LTideMill$Pairs;") (List.mem_of_getElem? (i := 7) rfl)) (fun _ h9 => h9) rfl dX5_manyAnswer_180 ?_
                refine va_get (D := G.1) (ci := 2) (v := .int pn) (C := RX2) (T := TX2) (N := 5) hx hb hts hiX2 hown hK hP 11 rfl rfl 4 (by decide) (hts (.fieldLink RX5 106 "TideMill$Pairs" "count" "I") (List.mem_of_getElem? (i := 8) rfl)) (fun _ h9 => h9) rfl dX5_manyAnswer_183 ?_
                have hP9 := hP.sub (ws' := [tc_X5 a0 ma0 ta0 lk rf pu to, tc_X1 ma0 ma1 ma2 ma3 ma4 fh lh ee, tc_X4 ma1 tk mo su, tc_X3 ma2 lv si ga sl sc fo, tc_X0 ma3 mb0 mb1 mb2 mb3 mb4 mb5 ln, tc_I G mb0 10 ow, tc_I G mb1 10 gr, tc_I G mb2 10 we, tc_I G mb3 10 du, tc_I G mb4 10 sa, tc_D G mb5 10 le, tc_X2 ma4 md0 md1 md2 md3 pn, tc_F G md0 3 dl, tc_I G md1 3 pl, tc_I G md2 3 dr, tc_I G md3 3 sp]) [0, 1, 2, 3, 4, 5, 6, 7, 8, 9, 10, 11, 12, 13, 14, 15] rfl
                have hD9 := hD.sub (ws' := [tc_X5 a0 ma0 ta0 lk rf pu to, tc_X1 ma0 ma1 ma2 ma3 ma4 fh lh ee, tc_X4 ma1 tk mo su, tc_X3 ma2 lv si ga sl sc fo, tc_X0 ma3 mb0 mb1 mb2 mb3 mb4 mb5 ln, tc_I G mb0 10 ow, tc_I G mb1 10 gr, tc_I G mb2 10 we, tc_I G mb3 10 du, tc_I G mb4 10 sa, tc_D G mb5 10 le, tc_X2 ma4 md0 md1 md2 md3 pn, tc_F G md0 3 dl, tc_I G md1 3 pl, tc_I G md2 3 dr, tc_I G md3 3 sp]) [0, 1, 2, 3, 4, 5, 6, 7, 8, 9, 10, 11, 12, 13, 14, 15] (by decide) rfl
                exact W.iret (v := pn) hx hb hr (fun t ht hW => ⟨⟨pn, (), rfl, by unfold f_X5_manyAnswer; all_goals (rw [if_neg c_1]); all_goals (rw [if_neg c_2]); all_goals (rw [if_neg c_4]); all_goals (rw [if_neg c_6]); all_goals (rw [if_neg c_9]); all_goals (rw [if_neg c_10]); all_goals (rw [if_pos c_11]); all_goals rfl, by rw [ht]; exact hP9, hD9⟩, hS.F ht⟩) hS.2.2 dX5_manyAnswer_186
              · by_cases c_12 : p1 = 7
                · refine lv_tableIn (off := 186) (tgt := 187) hx hb dX5_manyAnswer_1 (by rw [c_12]; decide) (by rw [c_12]; decide) (by rw [c_12]; rfl) (by decide) ?_
                  refine lv_aload_n hx hb dX5_manyAnswer_187 rfl (lv_at hl 0 rfl) ?_
                  refine va_get (D := G.1) (ci := 5) (v := .ref ma0) (C := RX5) (T := TX5) (N := 6) hx hb hts hiX5 hown hK hP 0 rfl rfl 0 (by decide) (hts (.fieldLink RX5 10 "TideMill" "mill" "LTideMill$Mill;") (List.mem_of_getElem? (i := 1) rfl)) (fun _ h9 => h9) rfl dX5_manyAnswer_188 ?_
                  refine va_get (D := G.1) (ci := 1) (v := .ref ma3) (C := RX1) (T := TX1) (N := 7) hx hb hts hiX1 hown hK hP 1 rfl rfl 2 (by decide) (hts (.fieldLink RX5 119 "TideMill$Mill" "lots" "LTideMill$Lots;") (List.mem_of_getElem? (i := 9) rfl)) (fun _ h9 => h9) rfl dX5_manyAnswer_191 ?_
                  refine va_get (D := G.1) (ci := 0) (v := .int ln) (C := RX0) (T := TX0) (N := 7) hx hb hts hiX0 hown hK hP 4 rfl rfl 6 (by decide) (hts (.fieldLink RX5 123 "TideMill$Lots" "count" "I") (List.mem_of_getElem? (i := 10) rfl)) (fun _ h9 => h9) rfl dX5_manyAnswer_194 ?_
                  have hP9 := hP.sub (ws' := [tc_X5 a0 ma0 ta0 lk rf pu to, tc_X1 ma0 ma1 ma2 ma3 ma4 fh lh ee, tc_X4 ma1 tk mo su, tc_X3 ma2 lv si ga sl sc fo, tc_X0 ma3 mb0 mb1 mb2 mb3 mb4 mb5 ln, tc_I G mb0 10 ow, tc_I G mb1 10 gr, tc_I G mb2 10 we, tc_I G mb3 10 du, tc_I G mb4 10 sa, tc_D G mb5 10 le, tc_X2 ma4 md0 md1 md2 md3 pn, tc_F G md0 3 dl, tc_I G md1 3 pl, tc_I G md2 3 dr, tc_I G md3 3 sp]) [0, 1, 2, 3, 4, 5, 6, 7, 8, 9, 10, 11, 12, 13, 14, 15] rfl
                  have hD9 := hD.sub (ws' := [tc_X5 a0 ma0 ta0 lk rf pu to, tc_X1 ma0 ma1 ma2 ma3 ma4 fh lh ee, tc_X4 ma1 tk mo su, tc_X3 ma2 lv si ga sl sc fo, tc_X0 ma3 mb0 mb1 mb2 mb3 mb4 mb5 ln, tc_I G mb0 10 ow, tc_I G mb1 10 gr, tc_I G mb2 10 we, tc_I G mb3 10 du, tc_I G mb4 10 sa, tc_D G mb5 10 le, tc_X2 ma4 md0 md1 md2 md3 pn, tc_F G md0 3 dl, tc_I G md1 3 pl, tc_I G md2 3 dr, tc_I G md3 3 sp]) [0, 1, 2, 3, 4, 5, 6, 7, 8, 9, 10, 11, 12, 13, 14, 15] (by decide) rfl
                  exact W.iret (v := ln) hx hb hr (fun t ht hW => ⟨⟨ln, (), rfl, by unfold f_X5_manyAnswer; all_goals (rw [if_neg c_1]); all_goals (rw [if_neg c_2]); all_goals (rw [if_neg c_4]); all_goals (rw [if_neg c_6]); all_goals (rw [if_neg c_9]); all_goals (rw [if_neg c_10]); all_goals (rw [if_neg c_11]); all_goals (rw [if_pos c_12]); all_goals rfl, by rw [ht]; exact hP9, hD9⟩, hS.F ht⟩) hS.2.2 dX5_manyAnswer_197
                · by_cases c_13 : p1 = 8
                  · refine lv_tableIn (off := 197) (tgt := 198) hx hb dX5_manyAnswer_1 (by rw [c_13]; decide) (by rw [c_13]; decide) (by rw [c_13]; rfl) (by decide) ?_
                    refine lv_aload_n hx hb dX5_manyAnswer_198 rfl (lv_at hl 0 rfl) ?_
                    refine va_get (D := G.1) (ci := 5) (v := .ref ma0) (C := RX5) (T := TX5) (N := 6) hx hb hts hiX5 hown hK hP 0 rfl rfl 0 (by decide) (hts (.fieldLink RX5 10 "TideMill" "mill" "LTideMill$Mill;") (List.mem_of_getElem? (i := 1) rfl)) (fun _ h9 => h9) rfl dX5_manyAnswer_199 ?_
                    refine va_get (D := G.1) (ci := 1) (v := .ref ma3) (C := RX1) (T := TX1) (N := 7) hx hb hts hiX1 hown hK hP 1 rfl rfl 2 (by decide) (hts (.fieldLink RX5 119 "TideMill$Mill" "lots" "LTideMill$Lots;") (List.mem_of_getElem? (i := 9) rfl)) (fun _ h9 => h9) rfl dX5_manyAnswer_202 ?_
                    refine lv_iconst (v := 0) hx hb dX5_manyAnswer_205 (by decide) ?_
                    have hPc := hP.sub (ws' := [tc_X0 ma3 mb0 mb1 mb2 mb3 mb4 mb5 ln, tc_I G mb4 10 sa]) [4, 9] rfl
                    have hDc := hD.sub (ws' := [tc_X0 ma3 mb0 mb1 mb2 mb3 mb4 mb5 ln, tc_I G mb4 10 sa]) [4, 9] (by decide) rfl
                    have hFc := va_free (wc := [tc_X0 ma3 mb0 mb1 mb2 mb3 mb4 mb5 ln, tc_I G mb4 10 sa]) hD hS hA [4, 9] rfl
                    refine va_calli (va_runV (As := [.int 0]) (rest := []) ⟨hx, hb, hml, hown, hts⟩ (c_X0_countOf l G ma3 mb0 mb1 mb2 mb3 mb4 mb5 s.heap.size ln sa 0 (n_14 c_1 c_2 c_4 c_6 c_9 c_10 c_11 c_12 c_13)) (cwV 1 hts gX5_manyAnswer_X0_countOf rfl rfl rfl (by decide +kernel) ⟨(Nat.le_of_ble_eq_true rfl), (Nat.le_of_ble_eq_true rfl)⟩) (tm_preV hK hN hV hS hPc hDc hFc (va_recv hK hPc (ci := 0) (q0 := 0) rfl rfl)) rfl rfl hl.1 rfl (lv_room (Nat.le_of_ble_eq_true rfl)) dX5_manyAnswer_206 ⟨(Nat.le_of_ble_eq_true rfl), (Nat.le_of_ble_eq_true rfl)⟩) hS (fun q _ h => hFc q h) hFc (fun r_15 u t H locs ht hvm hw_15 hB hz1 hk1 hS => ?_)
                    obtain ⟨hP1, hD1⟩ := hB
                    rw [ht] at hP1
                    try dsimp only at hw_15
                    obtain ⟨hP, hD⟩ := va_join (wr := [tc_X5 a0 ma0 ta0 lk rf pu to, tc_X1 ma0 ma1 ma2 ma3 ma4 fh lh ee, tc_X4 ma1 tk mo su, tc_X3 ma2 lv si ga sl sc fo, tc_I G mb0 10 ow, tc_I G mb1 10 gr, tc_I G mb2 10 we, tc_I G mb3 10 du, tc_D G mb5 10 le, tc_X2 ma4 md0 md1 md2 md3 pn, tc_F G md0 3 dl, tc_I G md1 3 pl, tc_I G md2 3 dr, tc_I G md3 3 sp]) (w1 := [tc_X0 ma3 mb0 mb1 mb2 mb3 mb4 mb5 ln, tc_I G mb4 10 sa]) hP hD [4, 9] [0, 1, 2, 3, 5, 6, 7, 8, 10, 11, 12, 13, 14, 15] rfl rfl (by decide) (by decide) hk1 hFc hP1 hD1
                    have hP : va_P G.1 vwCl [tc_X5 a0 ma0 ta0 lk rf pu to, tc_X1 ma0 ma1 ma2 ma3 ma4 fh lh ee, tc_X4 ma1 tk mo su, tc_X3 ma2 lv si ga sl sc fo, tc_I G mb0 10 ow, tc_I G mb1 10 gr, tc_I G mb2 10 we, tc_I G mb3 10 du, tc_D G mb5 10 le, tc_X2 ma4 md0 md1 md2 md3 pn, tc_F G md0 3 dl, tc_I G md1 3 pl, tc_I G md2 3 dr, tc_I G md3 3 sp, tc_X0 ma3 mb0 mb1 mb2 mb3 mb4 mb5 ln, tc_I G mb4 10 sa] H := hP
                    have hD : va_D A [tc_X5 a0 ma0 ta0 lk rf pu to, tc_X1 ma0 ma1 ma2 ma3 ma4 fh lh ee, tc_X4 ma1 tk mo su, tc_X3 ma2 lv si ga sl sc fo, tc_I G mb0 10 ow, tc_I G mb1 10 gr, tc_I G mb2 10 we, tc_I G mb3 10 du, tc_D G mb5 10 le, tc_X2 ma4 md0 md1 md2 md3 pn, tc_F G md0 3 dl, tc_I G md1 3 pl, tc_I G md2 3 dr, tc_I G md3 3 sp, tc_X0 ma3 mb0 mb1 mb2 mb3 mb4 mb5 ln, tc_I G mb4 10 sa] := hD
                    subst hw_15
                    have hP9 := hP.sub (ws' := [tc_X5 a0 ma0 ta0 lk rf pu to, tc_X1 ma0 ma1 ma2 ma3 ma4 fh lh ee, tc_X4 ma1 tk mo su, tc_X3 ma2 lv si ga sl sc fo, tc_X0 ma3 mb0 mb1 mb2 mb3 mb4 mb5 ln, tc_I G mb0 10 ow, tc_I G mb1 10 gr, tc_I G mb2 10 we, tc_I G mb3 10 du, tc_I G mb4 10 sa, tc_D G mb5 10 le, tc_X2 ma4 md0 md1 md2 md3 pn, tc_F G md0 3 dl, tc_I G md1 3 pl, tc_I G md2 3 dr, tc_I G md3 3 sp]) [0, 1, 2, 3, 14, 4, 5, 6, 7, 15, 8, 9, 10, 11, 12, 13] rfl
                    have hD9 := hD.sub (ws' := [tc_X5 a0 ma0 ta0 lk rf pu to, tc_X1 ma0 ma1 ma2 ma3 ma4 fh lh ee, tc_X4 ma1 tk mo su, tc_X3 ma2 lv si ga sl sc fo, tc_X0 ma3 mb0 mb1 mb2 mb3 mb4 mb5 ln, tc_I G mb0 10 ow, tc_I G mb1 10 gr, tc_I G mb2 10 we, tc_I G mb3 10 du, tc_I G mb4 10 sa, tc_D G mb5 10 le, tc_X2 ma4 md0 md1 md2 md3 pn, tc_F G md0 3 dl, tc_I G md1 3 pl, tc_I G md2 3 dr, tc_I G md3 3 sp]) [0, 1, 2, 3, 14, 4, 5, 6, 7, 15, 8, 9, 10, 11, 12, 13] (by decide) rfl
                    exact W.iret (v := f_X0_countOf ln sa 0) hx hb hr (fun t ht hW => ⟨⟨f_X0_countOf ln sa 0, (), rfl, by unfold f_X5_manyAnswer; all_goals (rw [if_neg c_1]); all_goals (rw [if_neg c_2]); all_goals (rw [if_neg c_4]); all_goals (rw [if_neg c_6]); all_goals (rw [if_neg c_9]); all_goals (rw [if_neg c_10]); all_goals (rw [if_neg c_11]); all_goals (rw [if_neg c_12]); all_goals (rw [if_pos c_13]); all_goals rfl, by rw [ht]; exact hP9, hD9⟩, hS.F ht⟩) hS.2.2 dX5_manyAnswer_209
                  · by_cases c_16 : p1 = 9
                    · refine lv_tableIn (off := 209) (tgt := 210) hx hb dX5_manyAnswer_1 (by rw [c_16]; decide) (by rw [c_16]; decide) (by rw [c_16]; rfl) (by decide) ?_
                      refine lv_aload_n hx hb dX5_manyAnswer_210 rfl (lv_at hl 0 rfl) ?_
                      refine va_get (D := G.1) (ci := 5) (v := .ref ma0) (C := RX5) (T := TX5) (N := 6) hx hb hts hiX5 hown hK hP 0 rfl rfl 0 (by decide) (hts (.fieldLink RX5 10 "TideMill" "mill" "LTideMill$Mill;") (List.mem_of_getElem? (i := 1) rfl)) (fun _ h9 => h9) rfl dX5_manyAnswer_211 ?_
                      refine va_get (D := G.1) (ci := 1) (v := .ref ma3) (C := RX1) (T := TX1) (N := 7) hx hb hts hiX1 hown hK hP 1 rfl rfl 2 (by decide) (hts (.fieldLink RX5 119 "TideMill$Mill" "lots" "LTideMill$Lots;") (List.mem_of_getElem? (i := 9) rfl)) (fun _ h9 => h9) rfl dX5_manyAnswer_214 ?_
                      refine lv_iconst (v := 2) hx hb dX5_manyAnswer_217 (by decide) ?_
                      have hPc := hP.sub (ws' := [tc_X0 ma3 mb0 mb1 mb2 mb3 mb4 mb5 ln, tc_I G mb4 10 sa]) [4, 9] rfl
                      have hDc := hD.sub (ws' := [tc_X0 ma3 mb0 mb1 mb2 mb3 mb4 mb5 ln, tc_I G mb4 10 sa]) [4, 9] (by decide) rfl
                      have hFc := va_free (wc := [tc_X0 ma3 mb0 mb1 mb2 mb3 mb4 mb5 ln, tc_I G mb4 10 sa]) hD hS hA [4, 9] rfl
                      refine va_calli (va_runV (As := [.int 2]) (rest := []) ⟨hx, hb, hml, hown, hts⟩ (c_X0_countOf l G ma3 mb0 mb1 mb2 mb3 mb4 mb5 s.heap.size ln sa 2 (n_17 c_1 c_2 c_4 c_6 c_9 c_10 c_11 c_12 c_13 c_16)) (cwV 1 hts gX5_manyAnswer_X0_countOf rfl rfl rfl (by decide +kernel) ⟨(Nat.le_of_ble_eq_true rfl), (Nat.le_of_ble_eq_true rfl)⟩) (tm_preV hK hN hV hS hPc hDc hFc (va_recv hK hPc (ci := 0) (q0 := 0) rfl rfl)) rfl rfl hl.1 rfl (lv_room (Nat.le_of_ble_eq_true rfl)) dX5_manyAnswer_218 ⟨(Nat.le_of_ble_eq_true rfl), (Nat.le_of_ble_eq_true rfl)⟩) hS (fun q _ h => hFc q h) hFc (fun r_18 u t H locs ht hvm hw_18 hB hz1 hk1 hS => ?_)
                      obtain ⟨hP1, hD1⟩ := hB
                      rw [ht] at hP1
                      try dsimp only at hw_18
                      obtain ⟨hP, hD⟩ := va_join (wr := [tc_X5 a0 ma0 ta0 lk rf pu to, tc_X1 ma0 ma1 ma2 ma3 ma4 fh lh ee, tc_X4 ma1 tk mo su, tc_X3 ma2 lv si ga sl sc fo, tc_I G mb0 10 ow, tc_I G mb1 10 gr, tc_I G mb2 10 we, tc_I G mb3 10 du, tc_D G mb5 10 le, tc_X2 ma4 md0 md1 md2 md3 pn, tc_F G md0 3 dl, tc_I G md1 3 pl, tc_I G md2 3 dr, tc_I G md3 3 sp]) (w1 := [tc_X0 ma3 mb0 mb1 mb2 mb3 mb4 mb5 ln, tc_I G mb4 10 sa]) hP hD [4, 9] [0, 1, 2, 3, 5, 6, 7, 8, 10, 11, 12, 13, 14, 15] rfl rfl (by decide) (by decide) hk1 hFc hP1 hD1
                      have hP : va_P G.1 vwCl [tc_X5 a0 ma0 ta0 lk rf pu to, tc_X1 ma0 ma1 ma2 ma3 ma4 fh lh ee, tc_X4 ma1 tk mo su, tc_X3 ma2 lv si ga sl sc fo, tc_I G mb0 10 ow, tc_I G mb1 10 gr, tc_I G mb2 10 we, tc_I G mb3 10 du, tc_D G mb5 10 le, tc_X2 ma4 md0 md1 md2 md3 pn, tc_F G md0 3 dl, tc_I G md1 3 pl, tc_I G md2 3 dr, tc_I G md3 3 sp, tc_X0 ma3 mb0 mb1 mb2 mb3 mb4 mb5 ln, tc_I G mb4 10 sa] H := hP
                      have hD : va_D A [tc_X5 a0 ma0 ta0 lk rf pu to, tc_X1 ma0 ma1 ma2 ma3 ma4 fh lh ee, tc_X4 ma1 tk mo su, tc_X3 ma2 lv si ga sl sc fo, tc_I G mb0 10 ow, tc_I G mb1 10 gr, tc_I G mb2 10 we, tc_I G mb3 10 du, tc_D G mb5 10 le, tc_X2 ma4 md0 md1 md2 md3 pn, tc_F G md0 3 dl, tc_I G md1 3 pl, tc_I G md2 3 dr, tc_I G md3 3 sp, tc_X0 ma3 mb0 mb1 mb2 mb3 mb4 mb5 ln, tc_I G mb4 10 sa] := hD
                      subst hw_18
                      have hP9 := hP.sub (ws' := [tc_X5 a0 ma0 ta0 lk rf pu to, tc_X1 ma0 ma1 ma2 ma3 ma4 fh lh ee, tc_X4 ma1 tk mo su, tc_X3 ma2 lv si ga sl sc fo, tc_X0 ma3 mb0 mb1 mb2 mb3 mb4 mb5 ln, tc_I G mb0 10 ow, tc_I G mb1 10 gr, tc_I G mb2 10 we, tc_I G mb3 10 du, tc_I G mb4 10 sa, tc_D G mb5 10 le, tc_X2 ma4 md0 md1 md2 md3 pn, tc_F G md0 3 dl, tc_I G md1 3 pl, tc_I G md2 3 dr, tc_I G md3 3 sp]) [0, 1, 2, 3, 14, 4, 5, 6, 7, 15, 8, 9, 10, 11, 12, 13] rfl
                      have hD9 := hD.sub (ws' := [tc_X5 a0 ma0 ta0 lk rf pu to, tc_X1 ma0 ma1 ma2 ma3 ma4 fh lh ee, tc_X4 ma1 tk mo su, tc_X3 ma2 lv si ga sl sc fo, tc_X0 ma3 mb0 mb1 mb2 mb3 mb4 mb5 ln, tc_I G mb0 10 ow, tc_I G mb1 10 gr, tc_I G mb2 10 we, tc_I G mb3 10 du, tc_I G mb4 10 sa, tc_D G mb5 10 le, tc_X2 ma4 md0 md1 md2 md3 pn, tc_F G md0 3 dl, tc_I G md1 3 pl, tc_I G md2 3 dr, tc_I G md3 3 sp]) [0, 1, 2, 3, 14, 4, 5, 6, 7, 15, 8, 9, 10, 11, 12, 13] (by decide) rfl
                      exact W.iret (v := f_X0_countOf ln sa 2) hx hb hr (fun t ht hW => ⟨⟨f_X0_countOf ln sa 2, (), rfl, by unfold f_X5_manyAnswer; all_goals (rw [if_neg c_1]); all_goals (rw [if_neg c_2]); all_goals (rw [if_neg c_4]); all_goals (rw [if_neg c_6]); all_goals (rw [if_neg c_9]); all_goals (rw [if_neg c_10]); all_goals (rw [if_neg c_11]); all_goals (rw [if_neg c_12]); all_goals (rw [if_neg c_13]); all_goals (rw [if_pos c_16]); all_goals rfl, by rw [ht]; exact hP9, hD9⟩, hS.F ht⟩) hS.2.2 dX5_manyAnswer_221
                    · by_cases c_19 : p1 = 10
                      · refine lv_tableIn (off := 221) (tgt := 222) hx hb dX5_manyAnswer_1 (by rw [c_19]; decide) (by rw [c_19]; decide) (by rw [c_19]; rfl) (by decide) ?_
                        refine lv_aload_n hx hb dX5_manyAnswer_222 rfl (lv_at hl 0 rfl) ?_
                        refine va_get (D := G.1) (ci := 5) (v := .ref ma0) (C := RX5) (T := TX5) (N := 6) hx hb hts hiX5 hown hK hP 0 rfl rfl 0 (by decide) (hts (.fieldLink RX5 10 "TideMill" "mill" "LTideMill$Mill;") (List.mem_of_getElem? (i := 1) rfl)) (fun _ h9 => h9) rfl dX5_manyAnswer_223 ?_
                        refine va_get (D := G.1) (ci := 1) (v := .ref ma3) (C := RX1) (T := TX1) (N := 7) hx hb hts hiX1 hown hK hP 1 rfl rfl 2 (by decide) (hts (.fieldLink RX5 119 "TideMill$Mill" "lots" "LTideMill$Lots;") (List.mem_of_getElem? (i := 9) rfl)) (fun _ h9 => h9) rfl dX5_manyAnswer_226 ?_
                        refine lv_iconst (v := 3) hx hb dX5_manyAnswer_229 (by decide) ?_
                        have hPc := hP.sub (ws' := [tc_X0 ma3 mb0 mb1 mb2 mb3 mb4 mb5 ln, tc_I G mb4 10 sa]) [4, 9] rfl
                        have hDc := hD.sub (ws' := [tc_X0 ma3 mb0 mb1 mb2 mb3 mb4 mb5 ln, tc_I G mb4 10 sa]) [4, 9] (by decide) rfl
                        have hFc := va_free (wc := [tc_X0 ma3 mb0 mb1 mb2 mb3 mb4 mb5 ln, tc_I G mb4 10 sa]) hD hS hA [4, 9] rfl
                        refine va_calli (va_runV (As := [.int 3]) (rest := []) ⟨hx, hb, hml, hown, hts⟩ (c_X0_countOf l G ma3 mb0 mb1 mb2 mb3 mb4 mb5 s.heap.size ln sa 3 (n_20 c_1 c_2 c_4 c_6 c_9 c_10 c_11 c_12 c_13 c_16 c_19)) (cwV 1 hts gX5_manyAnswer_X0_countOf rfl rfl rfl (by decide +kernel) ⟨(Nat.le_of_ble_eq_true rfl), (Nat.le_of_ble_eq_true rfl)⟩) (tm_preV hK hN hV hS hPc hDc hFc (va_recv hK hPc (ci := 0) (q0 := 0) rfl rfl)) rfl rfl hl.1 rfl (lv_room (Nat.le_of_ble_eq_true rfl)) dX5_manyAnswer_230 ⟨(Nat.le_of_ble_eq_true rfl), (Nat.le_of_ble_eq_true rfl)⟩) hS (fun q _ h => hFc q h) hFc (fun r_21 u t H locs ht hvm hw_21 hB hz1 hk1 hS => ?_)
                        obtain ⟨hP1, hD1⟩ := hB
                        rw [ht] at hP1
                        try dsimp only at hw_21
                        obtain ⟨hP, hD⟩ := va_join (wr := [tc_X5 a0 ma0 ta0 lk rf pu to, tc_X1 ma0 ma1 ma2 ma3 ma4 fh lh ee, tc_X4 ma1 tk mo su, tc_X3 ma2 lv si ga sl sc fo, tc_I G mb0 10 ow, tc_I G mb1 10 gr, tc_I G mb2 10 we, tc_I G mb3 10 du, tc_D G mb5 10 le, tc_X2 ma4 md0 md1 md2 md3 pn, tc_F G md0 3 dl, tc_I G md1 3 pl, tc_I G md2 3 dr, tc_I G md3 3 sp]) (w1 := [tc_X0 ma3 mb0 mb1 mb2 mb3 mb4 mb5 ln, tc_I G mb4 10 sa]) hP hD [4, 9] [0, 1, 2, 3, 5, 6, 7, 8, 10, 11, 12, 13, 14, 15] rfl rfl (by decide) (by decide) hk1 hFc hP1 hD1
                        have hP : va_P G.1 vwCl [tc_X5 a0 ma0 ta0 lk rf pu to, tc_X1 ma0 ma1 ma2 ma3 ma4 fh lh ee, tc_X4 ma1 tk mo su, tc_X3 ma2 lv si ga sl sc fo, tc_I G mb0 10 ow, tc_I G mb1 10 gr, tc_I G mb2 10 we, tc_I G mb3 10 du, tc_D G mb5 10 le, tc_X2 ma4 md0 md1 md2 md3 pn, tc_F G md0 3 dl, tc_I G md1 3 pl, tc_I G md2 3 dr, tc_I G md3 3 sp, tc_X0 ma3 mb0 mb1 mb2 mb3 mb4 mb5 ln, tc_I G mb4 10 sa] H := hP
                        have hD : va_D A [tc_X5 a0 ma0 ta0 lk rf pu to, tc_X1 ma0 ma1 ma2 ma3 ma4 fh lh ee, tc_X4 ma1 tk mo su, tc_X3 ma2 lv si ga sl sc fo, tc_I G mb0 10 ow, tc_I G mb1 10 gr, tc_I G mb2 10 we, tc_I G mb3 10 du, tc_D G mb5 10 le, tc_X2 ma4 md0 md1 md2 md3 pn, tc_F G md0 3 dl, tc_I G md1 3 pl, tc_I G md2 3 dr, tc_I G md3 3 sp, tc_X0 ma3 mb0 mb1 mb2 mb3 mb4 mb5 ln, tc_I G mb4 10 sa] := hD
                        subst hw_21
                        have hP9 := hP.sub (ws' := [tc_X5 a0 ma0 ta0 lk rf pu to, tc_X1 ma0 ma1 ma2 ma3 ma4 fh lh ee, tc_X4 ma1 tk mo su, tc_X3 ma2 lv si ga sl sc fo, tc_X0 ma3 mb0 mb1 mb2 mb3 mb4 mb5 ln, tc_I G mb0 10 ow, tc_I G mb1 10 gr, tc_I G mb2 10 we, tc_I G mb3 10 du, tc_I G mb4 10 sa, tc_D G mb5 10 le, tc_X2 ma4 md0 md1 md2 md3 pn, tc_F G md0 3 dl, tc_I G md1 3 pl, tc_I G md2 3 dr, tc_I G md3 3 sp]) [0, 1, 2, 3, 14, 4, 5, 6, 7, 15, 8, 9, 10, 11, 12, 13] rfl
                        have hD9 := hD.sub (ws' := [tc_X5 a0 ma0 ta0 lk rf pu to, tc_X1 ma0 ma1 ma2 ma3 ma4 fh lh ee, tc_X4 ma1 tk mo su, tc_X3 ma2 lv si ga sl sc fo, tc_X0 ma3 mb0 mb1 mb2 mb3 mb4 mb5 ln, tc_I G mb0 10 ow, tc_I G mb1 10 gr, tc_I G mb2 10 we, tc_I G mb3 10 du, tc_I G mb4 10 sa, tc_D G mb5 10 le, tc_X2 ma4 md0 md1 md2 md3 pn, tc_F G md0 3 dl, tc_I G md1 3 pl, tc_I G md2 3 dr, tc_I G md3 3 sp]) [0, 1, 2, 3, 14, 4, 5, 6, 7, 15, 8, 9, 10, 11, 12, 13] (by decide) rfl
                        exact W.iret (v := f_X0_countOf ln sa 3) hx hb hr (fun t ht hW => ⟨⟨f_X0_countOf ln sa 3, (), rfl, by unfold f_X5_manyAnswer; all_goals (rw [if_neg c_1]); all_goals (rw [if_neg c_2]); all_goals (rw [if_neg c_4]); all_goals (rw [if_neg c_6]); all_goals (rw [if_neg c_9]); all_goals (rw [if_neg c_10]); all_goals (rw [if_neg c_11]); all_goals (rw [if_neg c_12]); all_goals (rw [if_neg c_13]); all_goals (rw [if_neg c_16]); all_goals (rw [if_pos c_19]); all_goals rfl, by rw [ht]; exact hP9, hD9⟩, hS.F ht⟩) hS.2.2 dX5_manyAnswer_233
                      · by_cases c_22 : p1 = 11
                        · refine lv_tableIn (off := 233) (tgt := 234) hx hb dX5_manyAnswer_1 (by rw [c_22]; decide) (by rw [c_22]; decide) (by rw [c_22]; rfl) (by decide) ?_
                          refine lv_aload_n hx hb dX5_manyAnswer_234 rfl (lv_at hl 0 rfl) ?_
                          refine va_get (D := G.1) (ci := 5) (v := .ref ma0) (C := RX5) (T := TX5) (N := 6) hx hb hts hiX5 hown hK hP 0 rfl rfl 0 (by decide) (hts (.fieldLink RX5 10 "TideMill" "mill" "LTideMill$Mill;") (List.mem_of_getElem? (i := 1) rfl)) (fun _ h9 => h9) rfl dX5_manyAnswer_235 ?_
                          refine va_get (D := G.1) (ci := 1) (v := .int ee) (C := RX1) (T := TX1) (N := 7) hx hb hts hiX1 hown hK hP 1 rfl rfl 6 (by decide) (hts (.fieldLink RX5 308 "TideMill$Mill" "eels" "I") (List.mem_of_getElem? (i := 11) rfl)) (fun _ h9 => h9) rfl dX5_manyAnswer_238 ?_
                          have hP9 := hP.sub (ws' := [tc_X5 a0 ma0 ta0 lk rf pu to, tc_X1 ma0 ma1 ma2 ma3 ma4 fh lh ee, tc_X4 ma1 tk mo su, tc_X3 ma2 lv si ga sl sc fo, tc_X0 ma3 mb0 mb1 mb2 mb3 mb4 mb5 ln, tc_I G mb0 10 ow, tc_I G mb1 10 gr, tc_I G mb2 10 we, tc_I G mb3 10 du, tc_I G mb4 10 sa, tc_D G mb5 10 le, tc_X2 ma4 md0 md1 md2 md3 pn, tc_F G md0 3 dl, tc_I G md1 3 pl, tc_I G md2 3 dr, tc_I G md3 3 sp]) [0, 1, 2, 3, 4, 5, 6, 7, 8, 9, 10, 11, 12, 13, 14, 15] rfl
                          have hD9 := hD.sub (ws' := [tc_X5 a0 ma0 ta0 lk rf pu to, tc_X1 ma0 ma1 ma2 ma3 ma4 fh lh ee, tc_X4 ma1 tk mo su, tc_X3 ma2 lv si ga sl sc fo, tc_X0 ma3 mb0 mb1 mb2 mb3 mb4 mb5 ln, tc_I G mb0 10 ow, tc_I G mb1 10 gr, tc_I G mb2 10 we, tc_I G mb3 10 du, tc_I G mb4 10 sa, tc_D G mb5 10 le, tc_X2 ma4 md0 md1 md2 md3 pn, tc_F G md0 3 dl, tc_I G md1 3 pl, tc_I G md2 3 dr, tc_I G md3 3 sp]) [0, 1, 2, 3, 4, 5, 6, 7, 8, 9, 10, 11, 12, 13, 14, 15] (by decide) rfl
                          exact W.iret (v := ee) hx hb hr (fun t ht hW => ⟨⟨ee, (), rfl, by unfold f_X5_manyAnswer; all_goals (rw [if_neg c_1]); all_goals (rw [if_neg c_2]); all_goals (rw [if_neg c_4]); all_goals (rw [if_neg c_6]); all_goals (rw [if_neg c_9]); all_goals (rw [if_neg c_10]); all_goals (rw [if_neg c_11]); all_goals (rw [if_neg c_12]); all_goals (rw [if_neg c_13]); all_goals (rw [if_neg c_16]); all_goals (rw [if_neg c_19]); all_goals (rw [if_pos c_22]); all_goals rfl, by rw [ht]; exact hP9, hD9⟩, hS.F ht⟩) hS.2.2 dX5_manyAnswer_241
                        · by_cases c_23 : p1 = 12
                          · refine lv_tableIn (off := 241) (tgt := 242) hx hb dX5_manyAnswer_1 (by rw [c_23]; decide) (by rw [c_23]; decide) (by rw [c_23]; rfl) (by decide) ?_
                            refine lv_aload_n hx hb dX5_manyAnswer_242 rfl (lv_at hl 0 rfl) ?_
                            refine va_get (D := G.1) (ci := 5) (v := .int pu) (C := RX5) (T := TX5) (N := 6) hx hb hts hiX5 hown hK hP 0 rfl rfl 4 (by decide) (hts (.fieldLink RX5 206 "TideMill" "purse" "I") (List.mem_of_getElem? (i := 12) rfl)) (fun _ h9 => h9) rfl dX5_manyAnswer_243 ?_
                            have hP9 := hP.sub (ws' := [tc_X5 a0 ma0 ta0 lk rf pu to, tc_X1 ma0 ma1 ma2 ma3 ma4 fh lh ee, tc_X4 ma1 tk mo su, tc_X3 ma2 lv si ga sl sc fo, tc_X0 ma3 mb0 mb1 mb2 mb3 mb4 mb5 ln, tc_I G mb0 10 ow, tc_I G mb1 10 gr, tc_I G mb2 10 we, tc_I G mb3 10 du, tc_I G mb4 10 sa, tc_D G mb5 10 le, tc_X2 ma4 md0 md1 md2 md3 pn, tc_F G md0 3 dl, tc_I G md1 3 pl, tc_I G md2 3 dr, tc_I G md3 3 sp]) [0, 1, 2, 3, 4, 5, 6, 7, 8, 9, 10, 11, 12, 13, 14, 15] rfl
                            have hD9 := hD.sub (ws' := [tc_X5 a0 ma0 ta0 lk rf pu to, tc_X1 ma0 ma1 ma2 ma3 ma4 fh lh ee, tc_X4 ma1 tk mo su, tc_X3 ma2 lv si ga sl sc fo, tc_X0 ma3 mb0 mb1 mb2 mb3 mb4 mb5 ln, tc_I G mb0 10 ow, tc_I G mb1 10 gr, tc_I G mb2 10 we, tc_I G mb3 10 du, tc_I G mb4 10 sa, tc_D G mb5 10 le, tc_X2 ma4 md0 md1 md2 md3 pn, tc_F G md0 3 dl, tc_I G md1 3 pl, tc_I G md2 3 dr, tc_I G md3 3 sp]) [0, 1, 2, 3, 4, 5, 6, 7, 8, 9, 10, 11, 12, 13, 14, 15] (by decide) rfl
                            exact W.iret (v := pu) hx hb hr (fun t ht hW => ⟨⟨pu, (), rfl, by unfold f_X5_manyAnswer; all_goals (rw [if_neg c_1]); all_goals (rw [if_neg c_2]); all_goals (rw [if_neg c_4]); all_goals (rw [if_neg c_6]); all_goals (rw [if_neg c_9]); all_goals (rw [if_neg c_10]); all_goals (rw [if_neg c_11]); all_goals (rw [if_neg c_12]); all_goals (rw [if_neg c_13]); all_goals (rw [if_neg c_16]); all_goals (rw [if_neg c_19]); all_goals (rw [if_neg c_22]); all_goals (rw [if_pos c_23]); all_goals rfl, by rw [ht]; exact hP9, hD9⟩, hS.F ht⟩) hS.2.2 dX5_manyAnswer_246
                          · by_cases c_24 : p1 = 13
                            · refine lv_tableIn (off := 246) (tgt := 247) hx hb dX5_manyAnswer_1 (by rw [c_24]; decide) (by rw [c_24]; decide) (by rw [c_24]; rfl) (by decide) ?_
                              refine lv_aload_n hx hb dX5_manyAnswer_247 rfl (lv_at hl 0 rfl) ?_
                              refine va_get (D := G.1) (ci := 5) (v := .ref ma0) (C := RX5) (T := TX5) (N := 6) hx hb hts hiX5 hown hK hP 0 rfl rfl 0 (by decide) (hts (.fieldLink RX5 10 "TideMill" "mill" "LTideMill$Mill;") (List.mem_of_getElem? (i := 1) rfl)) (fun _ h9 => h9) rfl dX5_manyAnswer_248 ?_
                              refine va_get (D := G.1) (ci := 1) (v := .ref ma4) (C := RX1) (T := TX1) (N := 7) hx hb hts hiX1 hown hK hP 1 rfl rfl 3 (by decide) (hts (.fieldLink RX5 102 "TideMill$Mill" "pairs" "LTideMill$Pairs;") (List.mem_of_getElem? (i := 7) rfl)) (fun _ h9 => h9) rfl dX5_manyAnswer_251 ?_
                              have hPc := hP.sub (ws' := [tc_X2 ma4 md0 md1 md2 md3 pn, tc_I G md3 3 sp]) [11, 15] rfl
                              have hDc := hD.sub (ws' := [tc_X2 ma4 md0 md1 md2 md3 pn, tc_I G md3 3 sp]) [11, 15] (by decide) rfl
                              have hFc := va_free (wc := [tc_X2 ma4 md0 md1 md2 md3 pn, tc_I G md3 3 sp]) hD hS hA [11, 15] rfl
                              refine va_calli (va_runV (As := []) (rest := []) ⟨hx, hb, hml, hown, hts⟩ (c_X2_allSparks l G ma4 md0 md1 md2 md3 s.heap.size pn sp (n_25 c_1 c_2 c_4 c_6 c_9 c_10 c_11 c_12 c_13 c_16 c_19 c_22 c_23 c_24)) (cwV 0 hts gX5_manyAnswer_X2_allSparks rfl rfl rfl (by decide +kernel) ⟨(Nat.le_of_ble_eq_true rfl), (Nat.le_of_ble_eq_true rfl)⟩) (tm_preV hK hN hV hS hPc hDc hFc (va_recv hK hPc (ci := 2) (q0 := 0) rfl rfl)) rfl rfl hl.1 rfl (lv_room (Nat.le_of_ble_eq_true rfl)) dX5_manyAnswer_254 ⟨(Nat.le_of_ble_eq_true rfl), (Nat.le_of_ble_eq_true rfl)⟩) hS (fun q _ h => hFc q h) hFc (fun r_26 u t H locs ht hvm hw_26 hB hz1 hk1 hS => ?_)
                              obtain ⟨hP1, hD1⟩ := hB
                              rw [ht] at hP1
                              try dsimp only at hw_26
                              obtain ⟨hP, hD⟩ := va_join (wr := [tc_X5 a0 ma0 ta0 lk rf pu to, tc_X1 ma0 ma1 ma2 ma3 ma4 fh lh ee, tc_X4 ma1 tk mo su, tc_X3 ma2 lv si ga sl sc fo, tc_X0 ma3 mb0 mb1 mb2 mb3 mb4 mb5 ln, tc_I G mb0 10 ow, tc_I G mb1 10 gr, tc_I G mb2 10 we, tc_I G mb3 10 du, tc_I G mb4 10 sa, tc_D G mb5 10 le, tc_F G md0 3 dl, tc_I G md1 3 pl, tc_I G md2 3 dr]) (w1 := [tc_X2 ma4 md0 md1 md2 md3 pn, tc_I G md3 3 sp]) hP hD [11, 15] [0, 1, 2, 3, 4, 5, 6, 7, 8, 9, 10, 12, 13, 14] rfl rfl (by decide) (by decide) hk1 hFc hP1 hD1
                              have hP : va_P G.1 vwCl [tc_X5 a0 ma0 ta0 lk rf pu to, tc_X1 ma0 ma1 ma2 ma3 ma4 fh lh ee, tc_X4 ma1 tk mo su, tc_X3 ma2 lv si ga sl sc fo, tc_X0 ma3 mb0 mb1 mb2 mb3 mb4 mb5 ln, tc_I G mb0 10 ow, tc_I G mb1 10 gr, tc_I G mb2 10 we, tc_I G mb3 10 du, tc_I G mb4 10 sa, tc_D G mb5 10 le, tc_F G md0 3 dl, tc_I G md1 3 pl, tc_I G md2 3 dr, tc_X2 ma4 md0 md1 md2 md3 pn, tc_I G md3 3 sp] H := hP
                              have hD : va_D A [tc_X5 a0 ma0 ta0 lk rf pu to, tc_X1 ma0 ma1 ma2 ma3 ma4 fh lh ee, tc_X4 ma1 tk mo su, tc_X3 ma2 lv si ga sl sc fo, tc_X0 ma3 mb0 mb1 mb2 mb3 mb4 mb5 ln, tc_I G mb0 10 ow, tc_I G mb1 10 gr, tc_I G mb2 10 we, tc_I G mb3 10 du, tc_I G mb4 10 sa, tc_D G mb5 10 le, tc_F G md0 3 dl, tc_I G md1 3 pl, tc_I G md2 3 dr, tc_X2 ma4 md0 md1 md2 md3 pn, tc_I G md3 3 sp] := hD
                              subst hw_26
                              have hP9 := hP.sub (ws' := [tc_X5 a0 ma0 ta0 lk rf pu to, tc_X1 ma0 ma1 ma2 ma3 ma4 fh lh ee, tc_X4 ma1 tk mo su, tc_X3 ma2 lv si ga sl sc fo, tc_X0 ma3 mb0 mb1 mb2 mb3 mb4 mb5 ln, tc_I G mb0 10 ow, tc_I G mb1 10 gr, tc_I G mb2 10 we, tc_I G mb3 10 du, tc_I G mb4 10 sa, tc_D G mb5 10 le, tc_X2 ma4 md0 md1 md2 md3 pn, tc_F G md0 3 dl, tc_I G md1 3 pl, tc_I G md2 3 dr, tc_I G md3 3 sp]) [0, 1, 2, 3, 4, 5, 6, 7, 8, 9, 10, 14, 11, 12, 13, 15] rfl
                              have hD9 := hD.sub (ws' := [tc_X5 a0 ma0 ta0 lk rf pu to, tc_X1 ma0 ma1 ma2 ma3 ma4 fh lh ee, tc_X4 ma1 tk mo su, tc_X3 ma2 lv si ga sl sc fo, tc_X0 ma3 mb0 mb1 mb2 mb3 mb4 mb5 ln, tc_I G mb0 10 ow, tc_I G mb1 10 gr, tc_I G mb2 10 we, tc_I G mb3 10 du, tc_I G mb4 10 sa, tc_D G mb5 10 le, tc_X2 ma4 md0 md1 md2 md3 pn, tc_F G md0 3 dl, tc_I G md1 3 pl, tc_I G md2 3 dr, tc_I G md3 3 sp]) [0, 1, 2, 3, 4, 5, 6, 7, 8, 9, 10, 14, 11, 12, 13, 15] (by decide) rfl
                              exact W.iret (v := f_X2_allSparks pn sp) hx hb hr (fun t ht hW => ⟨⟨f_X2_allSparks pn sp, (), rfl, by unfold f_X5_manyAnswer; all_goals (rw [if_neg c_1]); all_goals (rw [if_neg c_2]); all_goals (rw [if_neg c_4]); all_goals (rw [if_neg c_6]); all_goals (rw [if_neg c_9]); all_goals (rw [if_neg c_10]); all_goals (rw [if_neg c_11]); all_goals (rw [if_neg c_12]); all_goals (rw [if_neg c_13]); all_goals (rw [if_neg c_16]); all_goals (rw [if_neg c_19]); all_goals (rw [if_neg c_22]); all_goals (rw [if_neg c_23]); all_goals (rw [if_pos c_24]); all_goals rfl, by rw [ht]; exact hP9, hD9⟩, hS.F ht⟩) hS.2.2 dX5_manyAnswer_257
                            · by_cases c_27 : p1 = 14
                              · refine lv_tableIn (off := 257) (tgt := 258) hx hb dX5_manyAnswer_1 (by rw [c_27]; decide) (by rw [c_27]; decide) (by rw [c_27]; rfl) (by decide) ?_
                                refine lv_aload_n hx hb dX5_manyAnswer_258 rfl (lv_at hl 0 rfl) ?_
                                refine va_get (D := G.1) (ci := 5) (v := .ref ma0) (C := RX5) (T := TX5) (N := 6) hx hb hts hiX5 hown hK hP 0 rfl rfl 0 (by decide) (hts (.fieldLink RX5 10 "TideMill" "mill" "LTideMill$Mill;") (List.mem_of_getElem? (i := 1) rfl)) (fun _ h9 => h9) rfl dX5_manyAnswer_259 ?_
                                have hPc := hP.sub (ws' := [tc_X1 ma0 ma1 ma2 ma3 ma4 fh lh ee, tc_X4 ma1 tk mo su]) [1, 2] rfl
                                have hDc := hD.sub (ws' := [tc_X1 ma0 ma1 ma2 ma3 ma4 fh lh ee, tc_X4 ma1 tk mo su]) [1, 2] (by decide) rfl
                                have hFc := va_free (wc := [tc_X1 ma0 ma1 ma2 ma3 ma4 fh lh ee, tc_X4 ma1 tk mo su]) hD hS hA [1, 2] rfl
                                refine va_calli (va_runV (As := []) (rest := []) ⟨hx, hb, hml, hown, hts⟩ (c_X1_isAwake l G ma0 ma1 ma2 ma3 ma4 s.heap.size fh lh ee tk mo su ) (cwV 0 hts gX5_manyAnswer_X1_isAwake rfl rfl rfl (by decide +kernel) ⟨(Nat.le_of_ble_eq_true rfl), (Nat.le_of_ble_eq_true rfl)⟩) (tm_preV hK hN hV hS hPc hDc hFc (va_recv hK hPc (ci := 1) (q0 := 0) rfl rfl)) rfl rfl hl.1 rfl (lv_room (Nat.le_of_ble_eq_true rfl)) dX5_manyAnswer_262 ⟨(Nat.le_of_ble_eq_true rfl), (Nat.le_of_ble_eq_true rfl)⟩) hS (fun q _ h => hFc q h) hFc (fun r_28 u t H locs ht hvm hw_28 hB hz1 hk1 hS => ?_)
                                obtain ⟨hP1, hD1⟩ := hB
                                rw [ht] at hP1
                                try dsimp only at hw_28
                                obtain ⟨hP, hD⟩ := va_join (wr := [tc_X5 a0 ma0 ta0 lk rf pu to, tc_X3 ma2 lv si ga sl sc fo, tc_X0 ma3 mb0 mb1 mb2 mb3 mb4 mb5 ln, tc_I G mb0 10 ow, tc_I G mb1 10 gr, tc_I G mb2 10 we, tc_I G mb3 10 du, tc_I G mb4 10 sa, tc_D G mb5 10 le, tc_X2 ma4 md0 md1 md2 md3 pn, tc_F G md0 3 dl, tc_I G md1 3 pl, tc_I G md2 3 dr, tc_I G md3 3 sp]) (w1 := [tc_X1 ma0 ma1 ma2 ma3 ma4 fh lh ee, tc_X4 ma1 tk mo su]) hP hD [1, 2] [0, 3, 4, 5, 6, 7, 8, 9, 10, 11, 12, 13, 14, 15] rfl rfl (by decide) (by decide) hk1 hFc hP1 hD1
                                have hP : va_P G.1 vwCl [tc_X5 a0 ma0 ta0 lk rf pu to, tc_X3 ma2 lv si ga sl sc fo, tc_X0 ma3 mb0 mb1 mb2 mb3 mb4 mb5 ln, tc_I G mb0 10 ow, tc_I G mb1 10 gr, tc_I G mb2 10 we, tc_I G mb3 10 du, tc_I G mb4 10 sa, tc_D G mb5 10 le, tc_X2 ma4 md0 md1 md2 md3 pn, tc_F G md0 3 dl, tc_I G md1 3 pl, tc_I G md2 3 dr, tc_I G md3 3 sp, tc_X1 ma0 ma1 ma2 ma3 ma4 fh lh ee, tc_X4 ma1 tk mo su] H := hP
                                have hD : va_D A [tc_X5 a0 ma0 ta0 lk rf pu to, tc_X3 ma2 lv si ga sl sc fo, tc_X0 ma3 mb0 mb1 mb2 mb3 mb4 mb5 ln, tc_I G mb0 10 ow, tc_I G mb1 10 gr, tc_I G mb2 10 we, tc_I G mb3 10 du, tc_I G mb4 10 sa, tc_D G mb5 10 le, tc_X2 ma4 md0 md1 md2 md3 pn, tc_F G md0 3 dl, tc_I G md1 3 pl, tc_I G md2 3 dr, tc_I G md3 3 sp, tc_X1 ma0 ma1 ma2 ma3 ma4 fh lh ee, tc_X4 ma1 tk mo su] := hD
                                subst hw_28
                                refine lv_if_eq (tgt := 272) hx hb dX5_manyAnswer_265 (by decide) (fun c_29 => ?_) (fun c_29 => ?_)
                                · refine lv_iconst (v := 0) hx hb dX5_manyAnswer_272 (by decide) ?_
                                  have hP9 := hP.sub (ws' := [tc_X5 a0 ma0 ta0 lk rf pu to, tc_X1 ma0 ma1 ma2 ma3 ma4 fh lh ee, tc_X4 ma1 tk mo su, tc_X3 ma2 lv si ga sl sc fo, tc_X0 ma3 mb0 mb1 mb2 mb3 mb4 mb5 ln, tc_I G mb0 10 ow, tc_I G mb1 10 gr, tc_I G mb2 10 we, tc_I G mb3 10 du, tc_I G mb4 10 sa, tc_D G mb5 10 le, tc_X2 ma4 md0 md1 md2 md3 pn, tc_F G md0 3 dl, tc_I G md1 3 pl, tc_I G md2 3 dr, tc_I G md3 3 sp]) [0, 14, 15, 1, 2, 3, 4, 5, 6, 7, 8, 9, 10, 11, 12, 13] rfl
                                  have hD9 := hD.sub (ws' := [tc_X5 a0 ma0 ta0 lk rf pu to, tc_X1 ma0 ma1 ma2 ma3 ma4 fh lh ee, tc_X4 ma1 tk mo su, tc_X3 ma2 lv si ga sl sc fo, tc_X0 ma3 mb0 mb1 mb2 mb3 mb4 mb5 ln, tc_I G mb0 10 ow, tc_I G mb1 10 gr, tc_I G mb2 10 we, tc_I G mb3 10 du, tc_I G mb4 10 sa, tc_D G mb5 10 le, tc_X2 ma4 md0 md1 md2 md3 pn, tc_F G md0 3 dl, tc_I G md1 3 pl, tc_I G md2 3 dr, tc_I G md3 3 sp]) [0, 14, 15, 1, 2, 3, 4, 5, 6, 7, 8, 9, 10, 11, 12, 13] (by decide) rfl
                                  exact W.iret (v := 0) hx hb hr (fun t ht hW => ⟨⟨0, (), rfl, by unfold f_X5_manyAnswer; all_goals (rw [if_neg c_1]); all_goals (rw [if_neg c_2]); all_goals (rw [if_neg c_4]); all_goals (rw [if_neg c_6]); all_goals (rw [if_neg c_9]); all_goals (rw [if_neg c_10]); all_goals (rw [if_neg c_11]); all_goals (rw [if_neg c_12]); all_goals (rw [if_neg c_13]); all_goals (rw [if_neg c_16]); all_goals (rw [if_neg c_19]); all_goals (rw [if_neg c_22]); all_goals (rw [if_neg c_23]); all_goals (rw [if_neg c_24]); all_goals (rw [if_pos c_27]); all_goals (rw [if_pos c_29]); all_goals rfl, by rw [ht]; exact hP9, hD9⟩, hS.F ht⟩) hS.2.2 dX5_manyAnswer_273
                                · refine lv_iconst (v := 1) hx hb dX5_manyAnswer_268 (by decide) ?_
                                  refine lv_goto (tgt := 273) hx hb dX5_manyAnswer_269 (by decide) ?_
                                  have hP9 := hP.sub (ws' := [tc_X5 a0 ma0 ta0 lk rf pu to, tc_X1 ma0 ma1 ma2 ma3 ma4 fh lh ee, tc_X4 ma1 tk mo su, tc_X3 ma2 lv si ga sl sc fo, tc_X0 ma3 mb0 mb1 mb2 mb3 mb4 mb5 ln, tc_I G mb0 10 ow, tc_I G mb1 10 gr, tc_I G mb2 10 we, tc_I G mb3 10 du, tc_I G mb4 10 sa, tc_D G mb5 10 le, tc_X2 ma4 md0 md1 md2 md3 pn, tc_F G md0 3 dl, tc_I G md1 3 pl, tc_I G md2 3 dr, tc_I G md3 3 sp]) [0, 14, 15, 1, 2, 3, 4, 5, 6, 7, 8, 9, 10, 11, 12, 13] rfl
                                  have hD9 := hD.sub (ws' := [tc_X5 a0 ma0 ta0 lk rf pu to, tc_X1 ma0 ma1 ma2 ma3 ma4 fh lh ee, tc_X4 ma1 tk mo su, tc_X3 ma2 lv si ga sl sc fo, tc_X0 ma3 mb0 mb1 mb2 mb3 mb4 mb5 ln, tc_I G mb0 10 ow, tc_I G mb1 10 gr, tc_I G mb2 10 we, tc_I G mb3 10 du, tc_I G mb4 10 sa, tc_D G mb5 10 le, tc_X2 ma4 md0 md1 md2 md3 pn, tc_F G md0 3 dl, tc_I G md1 3 pl, tc_I G md2 3 dr, tc_I G md3 3 sp]) [0, 14, 15, 1, 2, 3, 4, 5, 6, 7, 8, 9, 10, 11, 12, 13] (by decide) rfl
                                  exact W.iret (v := 1) hx hb hr (fun t ht hW => ⟨⟨1, (), rfl, by unfold f_X5_manyAnswer; all_goals (rw [if_neg c_1]); all_goals (rw [if_neg c_2]); all_goals (rw [if_neg c_4]); all_goals (rw [if_neg c_6]); all_goals (rw [if_neg c_9]); all_goals (rw [if_neg c_10]); all_goals (rw [if_neg c_11]); all_goals (rw [if_neg c_12]); all_goals (rw [if_neg c_13]); all_goals (rw [if_neg c_16]); all_goals (rw [if_neg c_19]); all_goals (rw [if_neg c_22]); all_goals (rw [if_neg c_23]); all_goals (rw [if_neg c_24]); all_goals (rw [if_pos c_27]); all_goals (rw [if_neg c_29]); all_goals rfl, by rw [ht]; exact hP9, hD9⟩, hS.F ht⟩) hS.2.2 dX5_manyAnswer_273
                              · by_cases c_30 : p1 = 15
                                · refine lv_tableIn (off := 273) (tgt := 274) hx hb dX5_manyAnswer_1 (by rw [c_30]; decide) (by rw [c_30]; decide) (by rw [c_30]; rfl) (by decide) ?_
                                  refine lv_aload_n hx hb dX5_manyAnswer_274 rfl (lv_at hl 0 rfl) ?_
                                  refine va_get (D := G.1) (ci := 5) (v := .int rf) (C := RX5) (T := TX5) (N := 6) hx hb hts hiX5 hown hK hP 0 rfl rfl 3 (by decide) (hts (.fieldLink RX5 99 "TideMill" "refused" "I") (List.mem_of_getElem? (i := 13) rfl)) (fun _ h9 => h9) rfl dX5_manyAnswer_275 ?_
                                  have hP9 := hP.sub (ws' := [tc_X5 a0 ma0 ta0 lk rf pu to, tc_X1 ma0 ma1 ma2 ma3 ma4 fh lh ee, tc_X4 ma1 tk mo su, tc_X3 ma2 lv si ga sl sc fo, tc_X0 ma3 mb0 mb1 mb2 mb3 mb4 mb5 ln, tc_I G mb0 10 ow, tc_I G mb1 10 gr, tc_I G mb2 10 we, tc_I G mb3 10 du, tc_I G mb4 10 sa, tc_D G mb5 10 le, tc_X2 ma4 md0 md1 md2 md3 pn, tc_F G md0 3 dl, tc_I G md1 3 pl, tc_I G md2 3 dr, tc_I G md3 3 sp]) [0, 1, 2, 3, 4, 5, 6, 7, 8, 9, 10, 11, 12, 13, 14, 15] rfl
                                  have hD9 := hD.sub (ws' := [tc_X5 a0 ma0 ta0 lk rf pu to, tc_X1 ma0 ma1 ma2 ma3 ma4 fh lh ee, tc_X4 ma1 tk mo su, tc_X3 ma2 lv si ga sl sc fo, tc_X0 ma3 mb0 mb1 mb2 mb3 mb4 mb5 ln, tc_I G mb0 10 ow, tc_I G mb1 10 gr, tc_I G mb2 10 we, tc_I G mb3 10 du, tc_I G mb4 10 sa, tc_D G mb5 10 le, tc_X2 ma4 md0 md1 md2 md3 pn, tc_F G md0 3 dl, tc_I G md1 3 pl, tc_I G md2 3 dr, tc_I G md3 3 sp]) [0, 1, 2, 3, 4, 5, 6, 7, 8, 9, 10, 11, 12, 13, 14, 15] (by decide) rfl
                                  exact W.iret (v := rf) hx hb hr (fun t ht hW => ⟨⟨rf, (), rfl, by unfold f_X5_manyAnswer; all_goals (rw [if_neg c_1]); all_goals (rw [if_neg c_2]); all_goals (rw [if_neg c_4]); all_goals (rw [if_neg c_6]); all_goals (rw [if_neg c_9]); all_goals (rw [if_neg c_10]); all_goals (rw [if_neg c_11]); all_goals (rw [if_neg c_12]); all_goals (rw [if_neg c_13]); all_goals (rw [if_neg c_16]); all_goals (rw [if_neg c_19]); all_goals (rw [if_neg c_22]); all_goals (rw [if_neg c_23]); all_goals (rw [if_neg c_24]); all_goals (rw [if_neg c_27]); all_goals (rw [if_pos c_30]); all_goals rfl, by rw [ht]; exact hP9, hD9⟩, hS.F ht⟩) hS.2.2 dX5_manyAnswer_278
                                · have hsw : (p1).toInt < 0 ∨ 15 < (p1).toInt := tm_sw 15 (tm_no15 c_1 c_2 c_4 c_6 c_9 c_10 c_11 c_12 c_13 c_16 c_19 c_22 c_23 c_24 c_27 c_30)
                                  refine lv_tableOut (tgt := 279) hx hb dX5_manyAnswer_1 hsw (by decide) ?_
                                  refine lv_aload_n hx hb dX5_manyAnswer_279 rfl (lv_at hl 0 rfl) ?_
                                  refine va_get (D := G.1) (ci := 5) (v := .int lk) (C := RX5) (T := TX5) (N := 6) hx hb hts hiX5 hown hK hP 0 rfl rfl 2 (by decide) (hts (.fieldLink RX5 61 "TideMill" "isLocked" "Z") (List.mem_of_getElem? (i := 14) rfl)) (fun _ h9 => h9) rfl dX5_manyAnswer_280 ?_
                                  refine lv_if_eq (tgt := 290) hx hb dX5_manyAnswer_283 (by decide) (fun c_31 => ?_) (fun c_31 => ?_)
                                  · refine lv_iconst (v := 0) hx hb dX5_manyAnswer_290 (by decide) ?_
                                    have hP9 := hP.sub (ws' := [tc_X5 a0 ma0 ta0 lk rf pu to, tc_X1 ma0 ma1 ma2 ma3 ma4 fh lh ee, tc_X4 ma1 tk mo su, tc_X3 ma2 lv si ga sl sc fo, tc_X0 ma3 mb0 mb1 mb2 mb3 mb4 mb5 ln, tc_I G mb0 10 ow, tc_I G mb1 10 gr, tc_I G mb2 10 we, tc_I G mb3 10 du, tc_I G mb4 10 sa, tc_D G mb5 10 le, tc_X2 ma4 md0 md1 md2 md3 pn, tc_F G md0 3 dl, tc_I G md1 3 pl, tc_I G md2 3 dr, tc_I G md3 3 sp]) [0, 1, 2, 3, 4, 5, 6, 7, 8, 9, 10, 11, 12, 13, 14, 15] rfl
                                    have hD9 := hD.sub (ws' := [tc_X5 a0 ma0 ta0 lk rf pu to, tc_X1 ma0 ma1 ma2 ma3 ma4 fh lh ee, tc_X4 ma1 tk mo su, tc_X3 ma2 lv si ga sl sc fo, tc_X0 ma3 mb0 mb1 mb2 mb3 mb4 mb5 ln, tc_I G mb0 10 ow, tc_I G mb1 10 gr, tc_I G mb2 10 we, tc_I G mb3 10 du, tc_I G mb4 10 sa, tc_D G mb5 10 le, tc_X2 ma4 md0 md1 md2 md3 pn, tc_F G md0 3 dl, tc_I G md1 3 pl, tc_I G md2 3 dr, tc_I G md3 3 sp]) [0, 1, 2, 3, 4, 5, 6, 7, 8, 9, 10, 11, 12, 13, 14, 15] (by decide) rfl
                                    exact W.iret (v := 0) hx hb hr (fun t ht hW => ⟨⟨0, (), rfl, by unfold f_X5_manyAnswer; all_goals (rw [if_neg c_1]); all_goals (rw [if_neg c_2]); all_goals (rw [if_neg c_4]); all_goals (rw [if_neg c_6]); all_goals (rw [if_neg c_9]); all_goals (rw [if_neg c_10]); all_goals (rw [if_neg c_11]); all_goals (rw [if_neg c_12]); all_goals (rw [if_neg c_13]); all_goals (rw [if_neg c_16]); all_goals (rw [if_neg c_19]); all_goals (rw [if_neg c_22]); all_goals (rw [if_neg c_23]); all_goals (rw [if_neg c_24]); all_goals (rw [if_neg c_27]); all_goals (rw [if_neg c_30]); all_goals (rw [if_pos c_31]); all_goals rfl, by rw [ht]; exact hP9, hD9⟩, hS.F ht⟩) hS.2.2 dX5_manyAnswer_291
                                  · refine lv_iconst (v := 1) hx hb dX5_manyAnswer_286 (by decide) ?_
                                    refine lv_goto (tgt := 291) hx hb dX5_manyAnswer_287 (by decide) ?_
                                    have hP9 := hP.sub (ws' := [tc_X5 a0 ma0 ta0 lk rf pu to, tc_X1 ma0 ma1 ma2 ma3 ma4 fh lh ee, tc_X4 ma1 tk mo su, tc_X3 ma2 lv si ga sl sc fo, tc_X0 ma3 mb0 mb1 mb2 mb3 mb4 mb5 ln, tc_I G mb0 10 ow, tc_I G mb1 10 gr, tc_I G mb2 10 we, tc_I G mb3 10 du, tc_I G mb4 10 sa, tc_D G mb5 10 le, tc_X2 ma4 md0 md1 md2 md3 pn, tc_F G md0 3 dl, tc_I G md1 3 pl, tc_I G md2 3 dr, tc_I G md3 3 sp]) [0, 1, 2, 3, 4, 5, 6, 7, 8, 9, 10, 11, 12, 13, 14, 15] rfl
                                    have hD9 := hD.sub (ws' := [tc_X5 a0 ma0 ta0 lk rf pu to, tc_X1 ma0 ma1 ma2 ma3 ma4 fh lh ee, tc_X4 ma1 tk mo su, tc_X3 ma2 lv si ga sl sc fo, tc_X0 ma3 mb0 mb1 mb2 mb3 mb4 mb5 ln, tc_I G mb0 10 ow, tc_I G mb1 10 gr, tc_I G mb2 10 we, tc_I G mb3 10 du, tc_I G mb4 10 sa, tc_D G mb5 10 le, tc_X2 ma4 md0 md1 md2 md3 pn, tc_F G md0 3 dl, tc_I G md1 3 pl, tc_I G md2 3 dr, tc_I G md3 3 sp]) [0, 1, 2, 3, 4, 5, 6, 7, 8, 9, 10, 11, 12, 13, 14, 15] (by decide) rfl
                                    exact W.iret (v := 1) hx hb hr (fun t ht hW => ⟨⟨1, (), rfl, by unfold f_X5_manyAnswer; all_goals (rw [if_neg c_1]); all_goals (rw [if_neg c_2]); all_goals (rw [if_neg c_4]); all_goals (rw [if_neg c_6]); all_goals (rw [if_neg c_9]); all_goals (rw [if_neg c_10]); all_goals (rw [if_neg c_11]); all_goals (rw [if_neg c_12]); all_goals (rw [if_neg c_13]); all_goals (rw [if_neg c_16]); all_goals (rw [if_neg c_19]); all_goals (rw [if_neg c_22]); all_goals (rw [if_neg c_23]); all_goals (rw [if_neg c_24]); all_goals (rw [if_neg c_27]); all_goals (rw [if_neg c_30]); all_goals (rw [if_neg c_31]); all_goals rfl, by rw [ht]; exact hP9, hD9⟩, hS.F ht⟩) hS.2.2 dX5_manyAnswer_291
set_option maxHeartbeats 4000000 in
set_option maxRecDepth 100000 in
theorem c_X5_many (l : Launch) (G : tm_G) (a0 : Nat) (ma0 : Nat) (ta0 : Nat) (ma1 : Nat) (ma2 : Nat) (ma3 : Nat) (ma4 : Nat) (mb0 : Nat) (mb1 : Nat) (mb2 : Nat) (mb3 : Nat) (mb4 : Nat) (mb5 : Nat) (md0 : Nat) (md1 : Nat) (md2 : Nat) (md3 : Nat) (sz : Nat) (lk : Int32) (rf : Int32) (pu : Int32) (to : UInt64) (fh : Int32) (lh : Int32) (ee : Int32) (tk : Int32) (mo : Int32) (su : UInt64) (lv : UInt64) (si : UInt32) (ga : Int32) (sl : Int32) (sc : Int32) (fo : UInt64) (ln : Int32) (ow : Nat → Int32) (gr : Nat → Int32) (we : Nat → Int32) (du : Nat → Int32) (sa : Nat → Int32) (le : Nat → UInt64) (pn : Int32) (dl : Nat → UInt32) (pl : Nat → Int32) (dr : Nat → Int32) (sp : Nat → Int32) (p1 : Int32) (hn : n_X5_many ln sa pn sp p1) : Met l yX5_many wsX5_many ({ frames := 3, cells := 0, slots := 0, locals := 67 }) (va_Pc [.ref a0, .int p1] (tm_B G [tc_X5 a0 ma0 ta0 lk rf pu to, tc_X1 ma0 ma1 ma2 ma3 ma4 fh lh ee, tc_X4 ma1 tk mo su, tc_X3 ma2 lv si ga sl sc fo, tc_X0 ma3 mb0 mb1 mb2 mb3 mb4 mb5 ln, tc_I G mb0 10 ow, tc_I G mb1 10 gr, tc_I G mb2 10 we, tc_I G mb3 10 du, tc_I G mb4 10 sa, tc_D G mb5 10 le, tc_X2 ma4 md0 md1 md2 md3 pn, tc_F G md0 3 dl, tc_I G md1 3 pl, tc_I G md2 3 dr, tc_I G md3 3 sp] sz)) (va_Qi (fun (r : Int32) (u : Unit) => r = f_X5_many lk rf pu fh lh ee tk mo ga sl ln sa pn sp p1) (fun (u : Unit) (t : State) => va_P G.1 vwCl [tc_X5 a0 ma0 ta0 lk rf pu to, tc_X1 ma0 ma1 ma2 ma3 ma4 fh lh ee, tc_X4 ma1 tk mo su, tc_X3 ma2 lv si ga sl sc fo, tc_X0 ma3 mb0 mb1 mb2 mb3 mb4 mb5 ln, tc_I G mb0 10 ow, tc_I G mb1 10 gr, tc_I G mb2 10 we, tc_I G mb3 10 du, tc_I G mb4 10 sa, tc_D G mb5 10 le, tc_X2 ma4 md0 md1 md2 md3 pn, tc_F G md0 3 dl, tc_I G md1 3 pl, tc_I G md2 3 dr, tc_I G md3 3 sp] t.heap ∧ va_D (va_A [tc_X5 a0 ma0 ta0 lk rf pu to, tc_X1 ma0 ma1 ma2 ma3 ma4 fh lh ee, tc_X4 ma1 tk mo su, tc_X3 ma2 lv si ga sl sc fo, tc_X0 ma3 mb0 mb1 mb2 mb3 mb4 mb5 ln, tc_I G mb0 10 ow, tc_I G mb1 10 gr, tc_I G mb2 10 we, tc_I G mb3 10 du, tc_I G mb4 10 sa, tc_D G mb5 10 le, tc_X2 ma4 md0 md1 md2 md3 pn, tc_F G md0 3 dl, tc_I G md1 3 pl, tc_I G md2 3 dr, tc_I G md3 3 sp] sz) [tc_X5 a0 ma0 ta0 lk rf pu to, tc_X1 ma0 ma1 ma2 ma3 ma4 fh lh ee, tc_X4 ma1 tk mo su, tc_X3 ma2 lv si ga sl sc fo, tc_X0 ma3 mb0 mb1 mb2 mb3 mb4 mb5 ln, tc_I G mb0 10 ow, tc_I G mb1 10 gr, tc_I G mb2 10 we, tc_I G mb3 10 du, tc_I G mb4 10 sa, tc_D G mb5 10 le, tc_X2 ma4 md0 md1 md2 md3 pn, tc_F G md0 3 dl, tc_I G md1 3 pl, tc_I G md2 3 dr, tc_I G md3 3 sp]) (va_A [tc_X5 a0 ma0 ta0 lk rf pu to, tc_X1 ma0 ma1 ma2 ma3 ma4 fh lh ee, tc_X4 ma1 tk mo su, tc_X3 ma2 lv si ga sl sc fo, tc_X0 ma3 mb0 mb1 mb2 mb3 mb4 mb5 ln, tc_I G mb0 10 ow, tc_I G mb1 10 gr, tc_I G mb2 10 we, tc_I G mb3 10 du, tc_I G mb4 10 sa, tc_D G mb5 10 le, tc_X2 ma4 md0 md1 md2 md3 pn, tc_F G md0 3 dl, tc_I G md1 3 pl, tc_I G md2 3 dr, tc_I G md3 3 sp] sz)) 0 0 (va_A [tc_X5 a0 ma0 ta0 lk rf pu to, tc_X1 ma0 ma1 ma2 ma3 ma4 fh lh ee, tc_X4 ma1 tk mo su, tc_X3 ma2 lv si ga sl sc fo, tc_X0 ma3 mb0 mb1 mb2 mb3 mb4 mb5 ln, tc_I G mb0 10 ow, tc_I G mb1 10 gr, tc_I G mb2 10 we, tc_I G mb3 10 du, tc_I G mb4 10 sa, tc_D G mb5 10 le, tc_X2 ma4 md0 md1 md2 md3 pn, tc_F G md0 3 dl, tc_I G md1 3 pl, tc_I G md2 3 dr, tc_I G md3 3 sp] sz) := by
  refine Met.ofW (cc := cX5_many) (maxL := 2) (ret := (some .int)) (by decide) rfl ?_
  intro p e s m args below meth c s₁ B hml hv
  obtain ⟨rfl, hsz, hP, hK, hD0, hN, hV⟩ := hv
  have hx := B.exec
  have hb := B.bytes
  have hr := B.returns
  have hts := atoms_spec (ws := wsX5_many) B.pre
  have hown : s.vm.findClass RX5 = some m.cls := findClass_of_methodNamed B.named
  have hlocks := B.notSynchronized
  subst hsz
  obtain ⟨na_0, n_3⟩ := hn
  have hD := hD0.self (sz := s.heap.size)
  generalize hAe : va_A [tc_X5 a0 ma0 ta0 lk rf pu to, tc_X1 ma0 ma1 ma2 ma3 ma4 fh lh ee, tc_X4 ma1 tk mo su, tc_X3 ma2 lv si ga sl sc fo, tc_X0 ma3 mb0 mb1 mb2 mb3 mb4 mb5 ln, tc_I G mb0 10 ow, tc_I G mb1 10 gr, tc_I G mb2 10 we, tc_I G mb3 10 du, tc_I G mb4 10 sa, tc_D G mb5 10 le, tc_X2 ma4 md0 md1 md2 md3 pn, tc_F G md0 3 dl, tc_I G md1 3 pl, tc_I G md2 3 dr, tc_I G md3 3 sp] s.heap.size = A at hD hV ⊢
  have hA : ∀ q : Nat, s.heap.size ≤ q → A q := fun q h => by rw [← hAe]; exact Or.inr h
  have hS : va_S A s.heap s.heap [] := va_S.rf
  have hl := lv_entry ([.ref a0, .int p1]) (n := 2) (Nat.le_of_ble_eq_true rfl)
  rw [lg_entry_eq]
  generalize (lg_sl ([.ref a0, .int p1]) ++ List.replicate (2 - (lg_sl ([.ref a0, .int p1])).length) Slot.unset).toArray = ls at hl ⊢
  have hl : lv_has ls 2 [(0, .ref a0), (1, .int p1)] := hl
  refine lv_iload_n hx hb dX5_many_0 rfl (lv_at hl 1 rfl) ?_
  refine lv_iconst (v := 0) hx hb dX5_many_1 (by decide) ?_
  refine lv_bipush (v := 16) hx hb dX5_many_2 (by decide) ?_
  have hPc := hP.sub (ws' := []) [] rfl
  have hDc := hD.sub (ws' := []) [] (by decide) rfl
  have hFc := va_free (wc := []) hD hS hA [] rfl
  refine va_calli (va_runS (As := [.int p1, .int 0, .int 16]) (rest := []) ⟨hx, hb, hml, hown, hts⟩ (c_X5_isWithin l G  s.heap.size p1 0 16 ) (cwS 3 hts gX5_many_X5_isWithin rfl rfl rfl (by decide +kernel) ⟨(Nat.le_of_ble_eq_true rfl), (Nat.le_of_ble_eq_true rfl)⟩) (tm_preS hK hN hV hS hPc hDc hFc) rfl rfl hl.1 rfl (lv_room (Nat.le_of_ble_eq_true rfl)) dX5_many_4 ⟨(Nat.le_of_ble_eq_true rfl), (Nat.le_of_ble_eq_true rfl)⟩) hS (fun q _ h => hFc q h) hFc (fun r_1 u t H locs ht hvm hw_1 hB hz1 hk1 hS => ?_)
  obtain ⟨hP1, hD1⟩ := hB
  rw [ht] at hP1
  try dsimp only at hw_1
  obtain ⟨hP, hD⟩ := va_join (wr := [tc_X5 a0 ma0 ta0 lk rf pu to, tc_X1 ma0 ma1 ma2 ma3 ma4 fh lh ee, tc_X4 ma1 tk mo su, tc_X3 ma2 lv si ga sl sc fo, tc_X0 ma3 mb0 mb1 mb2 mb3 mb4 mb5 ln, tc_I G mb0 10 ow, tc_I G mb1 10 gr, tc_I G mb2 10 we, tc_I G mb3 10 du, tc_I G mb4 10 sa, tc_D G mb5 10 le, tc_X2 ma4 md0 md1 md2 md3 pn, tc_F G md0 3 dl, tc_I G md1 3 pl, tc_I G md2 3 dr, tc_I G md3 3 sp]) (w1 := []) hP hD [] [0, 1, 2, 3, 4, 5, 6, 7, 8, 9, 10, 11, 12, 13, 14, 15] rfl rfl (by decide) (by decide) hk1 hFc hP1 hD1
  have hP : va_P G.1 vwCl [tc_X5 a0 ma0 ta0 lk rf pu to, tc_X1 ma0 ma1 ma2 ma3 ma4 fh lh ee, tc_X4 ma1 tk mo su, tc_X3 ma2 lv si ga sl sc fo, tc_X0 ma3 mb0 mb1 mb2 mb3 mb4 mb5 ln, tc_I G mb0 10 ow, tc_I G mb1 10 gr, tc_I G mb2 10 we, tc_I G mb3 10 du, tc_I G mb4 10 sa, tc_D G mb5 10 le, tc_X2 ma4 md0 md1 md2 md3 pn, tc_F G md0 3 dl, tc_I G md1 3 pl, tc_I G md2 3 dr, tc_I G md3 3 sp] H := hP
  have hD : va_D A [tc_X5 a0 ma0 ta0 lk rf pu to, tc_X1 ma0 ma1 ma2 ma3 ma4 fh lh ee, tc_X4 ma1 tk mo su, tc_X3 ma2 lv si ga sl sc fo, tc_X0 ma3 mb0 mb1 mb2 mb3 mb4 mb5 ln, tc_I G mb0 10 ow, tc_I G mb1 10 gr, tc_I G mb2 10 we, tc_I G mb3 10 du, tc_I G mb4 10 sa, tc_D G mb5 10 le, tc_X2 ma4 md0 md1 md2 md3 pn, tc_F G md0 3 dl, tc_I G md1 3 pl, tc_I G md2 3 dr, tc_I G md3 3 sp] := hD
  subst hw_1
  refine lv_if_ne (tgt := 20) hx hb dX5_many_7 (by decide) (fun c_2 => ?_) (fun c_2 => ?_)
  · refine lv_aload_n hx hb dX5_many_20 rfl (lv_at hl 0 rfl) ?_
    refine lv_iload_n hx hb dX5_many_21 rfl (lv_at hl 1 rfl) ?_
    have hPc := hP.sub (ws' := [tc_X5 a0 ma0 ta0 lk rf pu to, tc_X1 ma0 ma1 ma2 ma3 ma4 fh lh ee, tc_X4 ma1 tk mo su, tc_X3 ma2 lv si ga sl sc fo, tc_X0 ma3 mb0 mb1 mb2 mb3 mb4 mb5 ln, tc_I G mb0 10 ow, tc_I G mb1 10 gr, tc_I G mb2 10 we, tc_I G mb3 10 du, tc_I G mb4 10 sa, tc_D G mb5 10 le, tc_X2 ma4 md0 md1 md2 md3 pn, tc_F G md0 3 dl, tc_I G md1 3 pl, tc_I G md2 3 dr, tc_I G md3 3 sp]) [0, 1, 2, 3, 4, 5, 6, 7, 8, 9, 10, 11, 12, 13, 14, 15] rfl
    have hDc := hD.sub (ws' := [tc_X5 a0 ma0 ta0 lk rf pu to, tc_X1 ma0 ma1 ma2 ma3 ma4 fh lh ee, tc_X4 ma1 tk mo su, tc_X3 ma2 lv si ga sl sc fo, tc_X0 ma3 mb0 mb1 mb2 mb3 mb4 mb5 ln, tc_I G mb0 10 ow, tc_I G mb1 10 gr, tc_I G mb2 10 we, tc_I G mb3 10 du, tc_I G mb4 10 sa, tc_D G mb5 10 le, tc_X2 ma4 md0 md1 md2 md3 pn, tc_F G md0 3 dl, tc_I G md1 3 pl, tc_I G md2 3 dr, tc_I G md3 3 sp]) [0, 1, 2, 3, 4, 5, 6, 7, 8, 9, 10, 11, 12, 13, 14, 15] (by decide) rfl
    have hFc := va_free (wc := [tc_X5 a0 ma0 ta0 lk rf pu to, tc_X1 ma0 ma1 ma2 ma3 ma4 fh lh ee, tc_X4 ma1 tk mo su, tc_X3 ma2 lv si ga sl sc fo, tc_X0 ma3 mb0 mb1 mb2 mb3 mb4 mb5 ln, tc_I G mb0 10 ow, tc_I G mb1 10 gr, tc_I G mb2 10 we, tc_I G mb3 10 du, tc_I G mb4 10 sa, tc_D G mb5 10 le, tc_X2 ma4 md0 md1 md2 md3 pn, tc_F G md0 3 dl, tc_I G md1 3 pl, tc_I G md2 3 dr, tc_I G md3 3 sp]) hD hS hA [0, 1, 2, 3, 4, 5, 6, 7, 8, 9, 10, 11, 12, 13, 14, 15] rfl
    refine va_calli (va_runV (As := [.int p1]) (rest := []) ⟨hx, hb, hml, hown, hts⟩ (c_X5_manyAnswer l G a0 ma0 ta0 ma1 ma2 ma3 ma4 mb0 mb1 mb2 mb3 mb4 mb5 md0 md1 md2 md3 H.size lk rf pu to fh lh ee tk mo su lv si ga sl sc fo ln ow gr we du sa le pn dl pl dr sp p1 n_3) (cwV 1 hts gX5_many_X5_manyAnswer rfl rfl rfl (by decide +kernel) ⟨(Nat.le_of_ble_eq_true rfl), (Nat.le_of_ble_eq_true rfl)⟩) (tm_preV hK hN hV hS hPc hDc hFc (va_recv hK hPc (ci := 5) (q0 := 0) rfl rfl)) rfl rfl hl.1 rfl (lv_room (Nat.le_of_ble_eq_true rfl)) dX5_many_22 ⟨(Nat.le_of_ble_eq_true rfl), (Nat.le_of_ble_eq_true rfl)⟩) hS (fun q _ h => hFc q h) hFc (fun r_4 u t H locs ht hvm hw_4 hB hz1 hk1 hS => ?_)
    obtain ⟨hP1, hD1⟩ := hB
    rw [ht] at hP1
    try dsimp only at hw_4
    obtain ⟨hP, hD⟩ := va_join (wr := []) (w1 := [tc_X5 a0 ma0 ta0 lk rf pu to, tc_X1 ma0 ma1 ma2 ma3 ma4 fh lh ee, tc_X4 ma1 tk mo su, tc_X3 ma2 lv si ga sl sc fo, tc_X0 ma3 mb0 mb1 mb2 mb3 mb4 mb5 ln, tc_I G mb0 10 ow, tc_I G mb1 10 gr, tc_I G mb2 10 we, tc_I G mb3 10 du, tc_I G mb4 10 sa, tc_D G mb5 10 le, tc_X2 ma4 md0 md1 md2 md3 pn, tc_F G md0 3 dl, tc_I G md1 3 pl, tc_I G md2 3 dr, tc_I G md3 3 sp]) hP hD [0, 1, 2, 3, 4, 5, 6, 7, 8, 9, 10, 11, 12, 13, 14, 15] [] rfl rfl (by decide) (by decide) hk1 hFc hP1 hD1
    have hP : va_P G.1 vwCl [tc_X5 a0 ma0 ta0 lk rf pu to, tc_X1 ma0 ma1 ma2 ma3 ma4 fh lh ee, tc_X4 ma1 tk mo su, tc_X3 ma2 lv si ga sl sc fo, tc_X0 ma3 mb0 mb1 mb2 mb3 mb4 mb5 ln, tc_I G mb0 10 ow, tc_I G mb1 10 gr, tc_I G mb2 10 we, tc_I G mb3 10 du, tc_I G mb4 10 sa, tc_D G mb5 10 le, tc_X2 ma4 md0 md1 md2 md3 pn, tc_F G md0 3 dl, tc_I G md1 3 pl, tc_I G md2 3 dr, tc_I G md3 3 sp] H := hP
    have hD : va_D A [tc_X5 a0 ma0 ta0 lk rf pu to, tc_X1 ma0 ma1 ma2 ma3 ma4 fh lh ee, tc_X4 ma1 tk mo su, tc_X3 ma2 lv si ga sl sc fo, tc_X0 ma3 mb0 mb1 mb2 mb3 mb4 mb5 ln, tc_I G mb0 10 ow, tc_I G mb1 10 gr, tc_I G mb2 10 we, tc_I G mb3 10 du, tc_I G mb4 10 sa, tc_D G mb5 10 le, tc_X2 ma4 md0 md1 md2 md3 pn, tc_F G md0 3 dl, tc_I G md1 3 pl, tc_I G md2 3 dr, tc_I G md3 3 sp] := hD
    subst hw_4
    have hP9 := hP.sub (ws' := [tc_X5 a0 ma0 ta0 lk rf pu to, tc_X1 ma0 ma1 ma2 ma3 ma4 fh lh ee, tc_X4 ma1 tk mo su, tc_X3 ma2 lv si ga sl sc fo, tc_X0 ma3 mb0 mb1 mb2 mb3 mb4 mb5 ln, tc_I G mb0 10 ow, tc_I G mb1 10 gr, tc_I G mb2 10 we, tc_I G mb3 10 du, tc_I G mb4 10 sa, tc_D G mb5 10 le, tc_X2 ma4 md0 md1 md2 md3 pn, tc_F G md0 3 dl, tc_I G md1 3 pl, tc_I G md2 3 dr, tc_I G md3 3 sp]) [0, 1, 2, 3, 4, 5, 6, 7, 8, 9, 10, 11, 12, 13, 14, 15] rfl
    have hD9 := hD.sub (ws' := [tc_X5 a0 ma0 ta0 lk rf pu to, tc_X1 ma0 ma1 ma2 ma3 ma4 fh lh ee, tc_X4 ma1 tk mo su, tc_X3 ma2 lv si ga sl sc fo, tc_X0 ma3 mb0 mb1 mb2 mb3 mb4 mb5 ln, tc_I G mb0 10 ow, tc_I G mb1 10 gr, tc_I G mb2 10 we, tc_I G mb3 10 du, tc_I G mb4 10 sa, tc_D G mb5 10 le, tc_X2 ma4 md0 md1 md2 md3 pn, tc_F G md0 3 dl, tc_I G md1 3 pl, tc_I G md2 3 dr, tc_I G md3 3 sp]) [0, 1, 2, 3, 4, 5, 6, 7, 8, 9, 10, 11, 12, 13, 14, 15] (by decide) rfl
    exact W.iret (v := f_X5_manyAnswer lk rf pu fh lh ee tk mo ga sl ln sa pn sp p1) hx hb hr (fun t ht hW => ⟨⟨f_X5_manyAnswer lk rf pu fh lh ee tk mo ga sl ln sa pn sp p1, (), rfl, by unfold f_X5_many; all_goals rfl, by rw [ht]; exact hP9, hD9⟩, hS.F ht⟩) hS.2.2 dX5_many_25
  · exact absurd c_2 na_0
