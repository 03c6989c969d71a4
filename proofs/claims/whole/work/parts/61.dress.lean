set_option maxHeartbeats 4000000 in
set_option maxRecDepth 100000 in
theorem c_X7_dress (l : Launch) (G : tm_G) (a0 : Nat) (ma : Nat) (lo : Nat) (e0 : Nat) (e1 : Nat) (e2 : Nat) (e3 : Nat) (e4 : Nat) (e5 : Nat) (sz : Nat) (th : Int32) (rf : Int32) (lk : Int32) (pu : Int32) (tl : UInt64) (tk : Int32) (mo : Int32) (su : UInt64) (lv : UInt64) (si : UInt32) (ga : Int32) (sl : Int32) (sc : Int32) (fh : Int32) (lh : Int32) (fo : UInt64) (ee : Int32) (pn : Int32) (dl : Nat → UInt32) (pl : Nat → Int32) (dr : Nat → Int32) (p1 : Int32) (hn : n_X7_dress pn dl pl dr p1) : Met l yX7_dress wsX7_dress ({ frames := 5, cells := 0, slots := 0, locals := 1126 }) (va_Pc [.ref a0, .int p1] (tm_B G [tc_X7 a0 th ma rf lk pu tl lo, tc_X6 ma tk mo su lv si ga sl sc fh lh fo ee pn e0 e1 e2 e3 e4 e5 a0, tc_F G e0 3 dl, tc_I G e1 3 pl, tc_I G e2 3 dr] sz)) (va_Qi (fun (r : Int32) (u : Int32 × (Nat → Int32)) => (r, u) = f_X7_dress pn dl pl dr p1) (fun (u : Int32 × (Nat → Int32)) (t : State) => va_P G.1 vwCl [tc_X7 a0 u.1 ma rf lk pu tl lo, tc_X6 ma tk mo su lv si ga sl sc fh lh fo ee pn e0 e1 e2 e3 e4 e5 a0, tc_F G e0 3 dl, tc_I G e1 3 pl, tc_I G e2 3 u.2] t.heap ∧ va_D (va_A [tc_X7 a0 th ma rf lk pu tl lo, tc_X6 ma tk mo su lv si ga sl sc fh lh fo ee pn e0 e1 e2 e3 e4 e5 a0, tc_F G e0 3 dl, tc_I G e1 3 pl, tc_I G e2 3 dr] sz) [tc_X7 a0 u.1 ma rf lk pu tl lo, tc_X6 ma tk mo su lv si ga sl sc fh lh fo ee pn e0 e1 e2 e3 e4 e5 a0, tc_F G e0 3 dl, tc_I G e1 3 pl, tc_I G e2 3 u.2]) (va_A [tc_X7 a0 th ma rf lk pu tl lo, tc_X6 ma tk mo su lv si ga sl sc fh lh fo ee pn e0 e1 e2 e3 e4 e5 a0, tc_F G e0 3 dl, tc_I G e1 3 pl, tc_I G e2 3 dr] sz)) 0 0 (va_A [tc_X7 a0 th ma rf lk pu tl lo, tc_X6 ma tk mo su lv si ga sl sc fh lh fo ee pn e0 e1 e2 e3 e4 e5 a0, tc_F G e0 3 dl, tc_I G e1 3 pl, tc_I G e2 3 dr] sz) := by
  refine Met.ofW (cc := cX7_dress) (maxL := 2) (ret := (some .int)) (by decide) rfl ?_
  intro p e s m args below meth c s₁ B hml hv
  obtain ⟨rfl, hsz, hP, hK, hD0, hN, hV⟩ := hv
  have hx := B.exec
  have hb := B.bytes
  have hr := B.returns
  have hts := atoms_spec (ws := wsX7_dress) B.pre
  have hown : s.vm.findClass RX7 = some m.cls := findClass_of_methodNamed B.named
  have hlocks := B.notSynchronized
  subst hsz
  obtain ⟨n_1, n_4, n_9, n_10, n_11, n_12⟩ := hn
  have hiX6 : ∀ w ∈ u_ws RX6 TX6 20, w ∈ wsX7_dress := fun _ h => List.mem_cons_of_mem _ (List.mem_append_right _ h)
  have hiX7 : ∀ w ∈ u_ws RX7 TX7 7, w ∈ wsX7_dress := fun _ h => List.mem_cons_of_mem _ (List.mem_append_left _ (List.mem_append_right _ h))
  have hD := hD0.self (sz := s.heap.size)
  generalize hAe : va_A [tc_X7 a0 th ma rf lk pu tl lo, tc_X6 ma tk mo su lv si ga sl sc fh lh fo ee pn e0 e1 e2 e3 e4 e5 a0, tc_F G e0 3 dl, tc_I G e1 3 pl, tc_I G e2 3 dr] s.heap.size = A at hD hV ⊢
  have hA : ∀ q : Nat, s.heap.size ≤ q → A q := fun q h => by rw [← hAe]; exact Or.inr h
  have hS : va_S A s.heap s.heap [] := va_S.rf
  have hl := lv_entry ([.ref a0, .int p1]) (n := 2) (Nat.le_of_ble_eq_true rfl)
  rw [lg_entry_eq]
  generalize (lg_sl ([.ref a0, .int p1]) ++ List.replicate (2 - (lg_sl ([.ref a0, .int p1])).length) Slot.unset).toArray = ls at hl ⊢
  have hl : lv_has ls 2 [(0, .ref a0), (1, .int p1)] := hl
  refine lv_aload_n hx hb dX7_dress_0 rfl (lv_at hl 0 rfl) ?_
  refine lv_iconst (v := 0) hx hb dX7_dress_1 (by decide) ?_
  refine va_put (D := G.1) (ci := 8) (v := .int 0) (ty := .int) (C := RX7) (T := TX7) (N := 7) hx hb hts hiX7 tyX7 tyX7_ok nmX7 hown hK hP hD hS 0 rfl rfl 0 (by decide) (hts (.fieldLink RX7 25 "TideMillModel" "thrown" "I") (List.mem_of_getElem? (i := 1) rfl)) (fun _ h9 => h9) rfl (by decide +kernel) rfl rfl (Nat.le_of_ble_eq_true rfl) dX7_dress_2 (fun H locs hP hD hS => ?_)
  have hP : va_P G.1 vwCl [tc_X7 a0 0 ma rf lk pu tl lo, tc_X6 ma tk mo su lv si ga sl sc fh lh fo ee pn e0 e1 e2 e3 e4 e5 a0, tc_F G e0 3 dl, tc_I G e1 3 pl, tc_I G e2 3 dr] H := hP
  have hD : va_D A [tc_X7 a0 0 ma rf lk pu tl lo, tc_X6 ma tk mo su lv si ga sl sc fh lh fo ee pn e0 e1 e2 e3 e4 e5 a0, tc_F G e0 3 dl, tc_I G e1 3 pl, tc_I G e2 3 dr] := hD
  refine lv_aload_n hx hb dX7_dress_5 rfl (lv_at hl 0 rfl) ?_
  refine lv_iload_n hx hb dX7_dress_6 rfl (lv_at hl 1 rfl) ?_
  have hPc := hP.sub (ws' := [tc_X7 a0 0 ma rf lk pu tl lo, tc_X6 ma tk mo su lv si ga sl sc fh lh fo ee pn e0 e1 e2 e3 e4 e5 a0]) [0, 1] rfl
  have hDc := hD.sub (ws' := [tc_X7 a0 0 ma rf lk pu tl lo, tc_X6 ma tk mo su lv si ga sl sc fh lh fo ee pn e0 e1 e2 e3 e4 e5 a0]) [0, 1] (by decide) rfl
  have hFc := va_free (wc := [tc_X7 a0 0 ma rf lk pu tl lo, tc_X6 ma tk mo su lv si ga sl sc fh lh fo ee pn e0 e1 e2 e3 e4 e5 a0]) hD hS hA [0, 1] rfl
  refine va_calli (va_runV (As := [.int p1]) (rest := []) ⟨hx, hb, hml, hown, hts⟩ (c_X7_isPair l G a0 ma lo e0 e1 e2 e3 e4 e5 H.size 0 rf lk pu tl tk mo su lv si ga sl sc fh lh fo ee pn p1 n_1) (cwV 1 hts gX7_dress_X7_isPair rfl rfl rfl (by decide +kernel) ⟨(Nat.le_of_ble_eq_true rfl), (Nat.le_of_ble_eq_true rfl)⟩) (tm_preV hK hN hV hS hPc hDc hFc (va_recv hK hPc (ci := 8) (q0 := 0) rfl rfl)) rfl rfl hl.1 rfl (lv_room (Nat.le_of_ble_eq_true rfl)) dX7_dress_7 ⟨(Nat.le_of_ble_eq_true rfl), (Nat.le_of_ble_eq_true rfl)⟩) hS (fun q _ h => hFc q h) hFc (fun r_2 u t H locs ht hvm hw_2 hB hz1 hk1 hS => ?_)
  obtain ⟨hP1, hD1⟩ := hB
  rw [ht] at hP1
  try dsimp only at hw_2
  obtain ⟨hP, hD⟩ := va_join (wr := [tc_F G e0 3 dl, tc_I G e1 3 pl, tc_I G e2 3 dr]) (w1 := [tc_X7 a0 0 ma rf lk pu tl lo, tc_X6 ma tk mo su lv si ga sl sc fh lh fo ee pn e0 e1 e2 e3 e4 e5 a0]) hP hD [0, 1] [2, 3, 4] rfl rfl (by decide) (by decide) hk1 hFc hP1 hD1
  have hP : va_P G.1 vwCl [tc_F G e0 3 dl, tc_I G e1 3 pl, tc_I G e2 3 dr, tc_X7 a0 0 ma rf lk pu tl lo, tc_X6 ma tk mo su lv si ga sl sc fh lh fo ee pn e0 e1 e2 e3 e4 e5 a0] H := hP
  have hD : va_D A [tc_F G e0 3 dl, tc_I G e1 3 pl, tc_I G e2 3 dr, tc_X7 a0 0 ma rf lk pu tl lo, tc_X6 ma tk mo su lv si ga sl sc fh lh fo ee pn e0 e1 e2 e3 e4 e5 a0] := hD
  subst r_2
  refine lv_if_ne (tgt := 19) hx hb dX7_dress_10 (by decide) (fun c_3 => ?_) (fun c_3 => ?_)
  · refine lv_aload_n hx hb dX7_dress_19 rfl (lv_at hl 0 rfl) ?_
    refine va_get (D := G.1) (ci := 8) (v := .ref ma) (C := RX7) (T := TX7) (N := 7) hx hb hts hiX7 hown hK hP 3 rfl rfl 1 (by decide) (hts (.fieldLink RX7 12 "TideMillModel" "mill" "LTideMillModel$Mill;") (List.mem_of_getElem? (i := 2) rfl)) (fun _ h9 => h9) rfl dX7_dress_20 ?_
    refine va_get (D := G.1) (ci := 7) (v := .ref e1) (C := RX6) (T := TX6) (N := 20) hx hb hts hiX6 hown hK hP 4 rfl rfl 14 (by decide) (hts (.fieldLink RX7 101 "TideMillModel$Mill" "lot" "[I") (List.mem_of_getElem? (i := 3) rfl)) (fun _ h9 => h9) rfl dX7_dress_23 ?_
    refine lv_iload_n hx hb dX7_dress_26 rfl (lv_at hl 1 rfl) ?_
    refine va_iald (n := 3) (f := pl) hx hb hK hP 1 0 rfl rfl (n_4 c_3) dX7_dress_27 ?_
    refine lv_iconst (v := (-1)) hx hb dX7_dress_28 (by decide) ?_
    refine lv_icmp_ne (tgt := 44) hx hb dX7_dress_29 (by decide) (fun c_5 => ?_) (fun c_5 => ?_)
    · refine lv_aload_n hx hb dX7_dress_44 rfl (lv_at hl 0 rfl) ?_
      refine lv_iconst (v := 2) hx hb dX7_dress_45 (by decide) ?_
      have hPc := hP.sub (ws' := [tc_X7 a0 0 ma rf lk pu tl lo]) [3] rfl
      have hDc := hD.sub (ws' := [tc_X7 a0 0 ma rf lk pu tl lo]) [3] (by decide) rfl
      have hFc := va_free (wc := [tc_X7 a0 0 ma rf lk pu tl lo]) hD hS hA [3] rfl
      refine va_calli (va_runV (As := [.int 2]) (rest := []) ⟨hx, hb, hml, hown, hts⟩ (c_X7_no l G a0 ma lo H.size 0 rf lk pu tl 2 ) (cwV 1 hts gX7_dress_X7_no rfl rfl rfl (by decide +kernel) ⟨(Nat.le_of_ble_eq_true rfl), (Nat.le_of_ble_eq_true rfl)⟩) (tm_preV hK hN hV hS hPc hDc hFc (va_recv hK hPc (ci := 8) (q0 := 0) rfl rfl)) rfl rfl hl.1 rfl (lv_room (Nat.le_of_ble_eq_true rfl)) dX7_dress_46 ⟨(Nat.le_of_ble_eq_true rfl), (Nat.le_of_ble_eq_true rfl)⟩) hS (fun q _ h => hFc q h) hFc (fun r_6 u t H locs ht hvm hw_6 hB hz1 hk1 hS => ?_)
      obtain ⟨u_7, rfl⟩ : ∃ z, z = u := ⟨_, rfl⟩
      obtain ⟨hP1, hD1⟩ := hB
      rw [ht] at hP1
      try dsimp only at hw_6
      obtain ⟨hP, hD⟩ := va_join (wr := [tc_F G e0 3 dl, tc_I G e1 3 pl, tc_I G e2 3 dr, tc_X6 ma tk mo su lv si ga sl sc fh lh fo ee pn e0 e1 e2 e3 e4 e5 a0]) (w1 := [tc_X7 a0 u_7 ma rf lk pu tl lo]) hP hD [3] [0, 1, 2, 4] rfl rfl (by decide) (by decide) hk1 hFc hP1 hD1
      have hP : va_P G.1 vwCl [tc_F G e0 3 dl, tc_I G e1 3 pl, tc_I G e2 3 dr, tc_X6 ma tk mo su lv si ga sl sc fh lh fo ee pn e0 e1 e2 e3 e4 e5 a0, tc_X7 a0 u_7 ma rf lk pu tl lo] H := hP
      have hD : va_D A [tc_F G e0 3 dl, tc_I G e1 3 pl, tc_I G e2 3 dr, tc_X6 ma tk mo su lv si ga sl sc fh lh fo ee pn e0 e1 e2 e3 e4 e5 a0, tc_X7 a0 u_7 ma rf lk pu tl lo] := hD
      have hP9 := hP.sub (ws' := [tc_X7 a0 u_7 ma rf lk pu tl lo, tc_X6 ma tk mo su lv si ga sl sc fh lh fo ee pn e0 e1 e2 e3 e4 e5 a0, tc_F G e0 3 dl, tc_I G e1 3 pl, tc_I G e2 3 dr]) [4, 3, 0, 1, 2] rfl
      have hD9 := hD.sub (ws' := [tc_X7 a0 u_7 ma rf lk pu tl lo, tc_X6 ma tk mo su lv si ga sl sc fh lh fo ee pn e0 e1 e2 e3 e4 e5 a0, tc_F G e0 3 dl, tc_I G e1 3 pl, tc_I G e2 3 dr]) [4, 3, 0, 1, 2] (by decide) rfl
      exact W.iret (v := r_6) hx hb hr (fun t ht hW => ⟨⟨r_6, (u_7, dr), rfl, by unfold f_X7_dress; all_goals (rw [if_neg c_3]); all_goals (rw [if_neg c_5]); all_goals (rw [← hw_6]); all_goals (dsimp only); all_goals rfl, by rw [ht]; exact hP9, hD9⟩, hS.F ht⟩) hS.2.2 dX7_dress_49
    · refine lv_aload_n hx hb dX7_dress_32 rfl (lv_at hl 0 rfl) ?_
      refine va_get (D := G.1) (ci := 8) (v := .ref ma) (C := RX7) (T := TX7) (N := 7) hx hb hts hiX7 hown hK hP 3 rfl rfl 1 (by decide) (hts (.fieldLink RX7 12 "TideMillModel" "mill" "LTideMillModel$Mill;") (List.mem_of_getElem? (i := 2) rfl)) (fun _ h9 => h9) rfl dX7_dress_33 ?_
      refine va_get (D := G.1) (ci := 7) (v := .ref e2) (C := RX6) (T := TX6) (N := 20) hx hb hts hiX6 hown hK hP 4 rfl rfl 15 (by decide) (hts (.fieldLink RX7 119 "TideMillModel$Mill" "dressing" "[I") (List.mem_of_getElem? (i := 4) rfl)) (fun _ h9 => h9) rfl dX7_dress_36 ?_
      refine lv_iload_n hx hb dX7_dress_39 rfl (lv_at hl 1 rfl) ?_
      refine va_iald (n := 3) (f := dr) hx hb hK hP 2 0 rfl rfl (n_4 c_3) dX7_dress_40 ?_
      refine lv_if_le (tgt := 50) hx hb dX7_dress_41 (by decide) (fun c_8 => ?_) (fun c_8 => ?_)
      · refine lv_aload_n hx hb dX7_dress_50 rfl (lv_at hl 0 rfl) ?_
        refine va_get (D := G.1) (ci := 8) (v := .ref ma) (C := RX7) (T := TX7) (N := 7) hx hb hts hiX7 hown hK hP 3 rfl rfl 1 (by decide) (hts (.fieldLink RX7 12 "TideMillModel" "mill" "LTideMillModel$Mill;") (List.mem_of_getElem? (i := 2) rfl)) (fun _ h9 => h9) rfl dX7_dress_51 ?_
        refine va_get (D := G.1) (ci := 7) (v := .ref e2) (C := RX6) (T := TX6) (N := 20) hx hb hts hiX6 hown hK hP 4 rfl rfl 15 (by decide) (hts (.fieldLink RX7 119 "TideMillModel$Mill" "dressing" "[I") (List.mem_of_getElem? (i := 4) rfl)) (fun _ h9 => h9) rfl dX7_dress_54 ?_
        refine lv_iload_n hx hb dX7_dress_57 rfl (lv_at hl 1 rfl) ?_
        refine lv_iconst (v := 3) hx hb dX7_dress_58 (by decide) ?_
        refine lv_ldc2d hx hb hown (hts (.constantDouble RX7 125 (4620693217682128896)) (List.mem_of_getElem? (i := 5) rfl)) dX7_dress_59 ?_
        refine lv_aload_n hx hb dX7_dress_62 rfl (lv_at hl 0 rfl) ?_
        refine va_get (D := G.1) (ci := 8) (v := .ref ma) (C := RX7) (T := TX7) (N := 7) hx hb hts hiX7 hown hK hP 3 rfl rfl 1 (by decide) (hts (.fieldLink RX7 12 "TideMillModel" "mill" "LTideMillModel$Mill;") (List.mem_of_getElem? (i := 2) rfl)) (fun _ h9 => h9) rfl dX7_dress_63 ?_
        refine va_get (D := G.1) (ci := 7) (v := .ref e0) (C := RX6) (T := TX6) (N := 20) hx hb hts hiX6 hown hK hP 4 rfl rfl 13 (by decide) (hts (.fieldLink RX7 127 "TideMillModel$Mill" "dull" "[F") (List.mem_of_getElem? (i := 6) rfl)) (fun _ h9 => h9) rfl dX7_dress_66 ?_
        refine lv_iload_n hx hb dX7_dress_69 rfl (lv_at hl 1 rfl) ?_
        refine va_fald (n := 3) (f := dl) hx hb hK hP 0 2 rfl rfl (n_4 c_3) dX7_dress_70 ?_
        refine lv_f2d hx hb dX7_dress_71 (n_9 c_3 c_5 c_8) ?_
        refine lv_dmul hx hb dX7_dress_72 (n_10 c_3 c_5 c_8) ?_
        have hPc := hP.sub (ws' := []) [] rfl
        have hDc := hD.sub (ws' := []) [] (by decide) rfl
        have hFc := va_free (wc := []) hD hS hA [] rfl
        refine va_calld (tm_runCeil (rest := [.int 3, .int p1, .ref e2]) ⟨hx, hb, hml, hown, hts⟩ (c_Jxfc994_ceil_294c1 l G  H.size (FP.dmul 4620693217682128896 (FP.f2d (dl p1.toNatClampNeg))) (n_12 c_3 c_5 c_8)) gX7_dress_J9_ceil_294c1 ⟨(Nat.le_of_ble_eq_true rfl), (Nat.le_of_ble_eq_true rfl)⟩ (tm_preS hK hN hV hS hPc hDc hFc) (fun st9 o9 t9 h9 => by obtain ⟨⟨r9, u9, ho9, hw9, -⟩, -⟩ := h9; exact ⟨r9, ho9, by rw [hw9]; exact (n_11 c_3 c_5 c_8)⟩) hl.1 (Nat.le_of_ble_eq_true rfl) dX7_dress_73 ⟨(Nat.le_of_ble_eq_true rfl), (Nat.le_of_ble_eq_true rfl)⟩) hS (fun q _ h => hFc q h) hFc (fun r_13 u t H locs ht hvm hw_13 hB hz1 hk1 hS => ?_)
        obtain ⟨hP1, hD1⟩ := hB
        rw [ht] at hP1
        try dsimp only at hw_13
        obtain ⟨hP, hD⟩ := va_join (wr := [tc_F G e0 3 dl, tc_I G e1 3 pl, tc_I G e2 3 dr, tc_X7 a0 0 ma rf lk pu tl lo, tc_X6 ma tk mo su lv si ga sl sc fh lh fo ee pn e0 e1 e2 e3 e4 e5 a0]) (w1 := []) hP hD [] [0, 1, 2, 3, 4] rfl rfl (by decide) (by decide) hk1 hFc hP1 hD1
        have hP : va_P G.1 vwCl [tc_F G e0 3 dl, tc_I G e1 3 pl, tc_I G e2 3 dr, tc_X7 a0 0 ma rf lk pu tl lo, tc_X6 ma tk mo su lv si ga sl sc fh lh fo ee pn e0 e1 e2 e3 e4 e5 a0] H := hP
        have hD : va_D A [tc_F G e0 3 dl, tc_I G e1 3 pl, tc_I G e2 3 dr, tc_X7 a0 0 ma rf lk pu tl lo, tc_X6 ma tk mo su lv si ga sl sc fh lh fo ee pn e0 e1 e2 e3 e4 e5 a0] := hD
        subst r_13
        refine lv_d2i hx hb dX7_dress_76 ?_
        refine lv_iadd hx hb dX7_dress_77 ?_
        refine va_iast (n := 3) (f := dr) hx hb hK hP hD hS 2 0 rfl rfl (n_4 c_3) dX7_dress_78 (fun H locs hP hD hS => ?_)
        have hP : va_P G.1 vwCl [tc_F G e0 3 dl, tc_I G e1 3 pl, tc_I G e2 3 (upd dr p1.toNatClampNeg (3 + (FP.d2i (f_Jxfc994_ceil_294c1 (FP.dmul 4620693217682128896 (FP.f2d (dl p1.toNatClampNeg))))))), tc_X7 a0 0 ma rf lk pu tl lo, tc_X6 ma tk mo su lv si ga sl sc fh lh fo ee pn e0 e1 e2 e3 e4 e5 a0] H := hP
        have hD : va_D A [tc_F G e0 3 dl, tc_I G e1 3 pl, tc_I G e2 3 (upd dr p1.toNatClampNeg (3 + (FP.d2i (f_Jxfc994_ceil_294c1 (FP.dmul 4620693217682128896 (FP.f2d (dl p1.toNatClampNeg))))))), tc_X7 a0 0 ma rf lk pu tl lo, tc_X6 ma tk mo su lv si ga sl sc fh lh fo ee pn e0 e1 e2 e3 e4 e5 a0] := hD
        refine lv_aload_n hx hb dX7_dress_79 rfl (lv_at hl 0 rfl) ?_
        refine va_get (D := G.1) (ci := 8) (v := .ref ma) (C := RX7) (T := TX7) (N := 7) hx hb hts hiX7 hown hK hP 3 rfl rfl 1 (by decide) (hts (.fieldLink RX7 12 "TideMillModel" "mill" "LTideMillModel$Mill;") (List.mem_of_getElem? (i := 2) rfl)) (fun _ h9 => h9) rfl dX7_dress_80 ?_
        refine va_get (D := G.1) (ci := 7) (v := .ref e2) (C := RX6) (T := TX6) (N := 20) hx hb hts hiX6 hown hK hP 4 rfl rfl 15 (by decide) (hts (.fieldLink RX7 119 "TideMillModel$Mill" "dressing" "[I") (List.mem_of_getElem? (i := 4) rfl)) (fun _ h9 => h9) rfl dX7_dress_83 ?_
        refine lv_iload_n hx hb dX7_dress_86 rfl (lv_at hl 1 rfl) ?_
        refine va_iald (n := 3) (f := upd dr p1.toNatClampNeg (3 + (FP.d2i (f_Jxfc994_ceil_294c1 (FP.dmul 4620693217682128896 (FP.f2d (dl p1.toNatClampNeg))))))) hx hb hK hP 2 0 rfl rfl (n_4 c_3) dX7_dress_87 ?_
        have hP9 := hP.sub (ws' := [tc_X7 a0 0 ma rf lk pu tl lo, tc_X6 ma tk mo su lv si ga sl sc fh lh fo ee pn e0 e1 e2 e3 e4 e5 a0, tc_F G e0 3 dl, tc_I G e1 3 pl, tc_I G e2 3 (upd dr p1.toNatClampNeg (3 + (FP.d2i (f_Jxfc994_ceil_294c1 (FP.dmul 4620693217682128896 (FP.f2d (dl p1.toNatClampNeg)))))))]) [3, 4, 0, 1, 2] rfl
        have hD9 := hD.sub (ws' := [tc_X7 a0 0 ma rf lk pu tl lo, tc_X6 ma tk mo su lv si ga sl sc fh lh fo ee pn e0 e1 e2 e3 e4 e5 a0, tc_F G e0 3 dl, tc_I G e1 3 pl, tc_I G e2 3 (upd dr p1.toNatClampNeg (3 + (FP.d2i (f_Jxfc994_ceil_294c1 (FP.dmul 4620693217682128896 (FP.f2d (dl p1.toNatClampNeg)))))))]) [3, 4, 0, 1, 2] (by decide) rfl
        exact W.iret (v := (upd dr p1.toNatClampNeg (3 + (FP.d2i (f_Jxfc994_ceil_294c1 (FP.dmul 4620693217682128896 (FP.f2d (dl p1.toNatClampNeg))))))) p1.toNatClampNeg) hx hb hr (fun t ht hW => ⟨⟨(upd dr p1.toNatClampNeg (3 + (FP.d2i (f_Jxfc994_ceil_294c1 (FP.dmul 4620693217682128896 (FP.f2d (dl p1.toNatClampNeg))))))) p1.toNatClampNeg, (0, upd dr p1.toNatClampNeg (3 + (FP.d2i (f_Jxfc994_ceil_294c1 (FP.dmul 4620693217682128896 (FP.f2d (dl p1.toNatClampNeg))))))), rfl, by unfold f_X7_dress; all_goals (rw [if_neg c_3]); all_goals (rw [if_pos c_5]); all_goals (rw [if_pos c_8]); all_goals rfl, by rw [ht]; exact hP9, hD9⟩, hS.F ht⟩) hS.2.2 dX7_dress_88
      · refine lv_aload_n hx hb dX7_dress_44 rfl (lv_at hl 0 rfl) ?_
        refine lv_iconst (v := 2) hx hb dX7_dress_45 (by decide) ?_
        have hPc := hP.sub (ws' := [tc_X7 a0 0 ma rf lk pu tl lo]) [3] rfl
        have hDc := hD.sub (ws' := [tc_X7 a0 0 ma rf lk pu tl lo]) [3] (by decide) rfl
        have hFc := va_free (wc := [tc_X7 a0 0 ma rf lk pu tl lo]) hD hS hA [3] rfl
        refine va_calli (va_runV (As := [.int 2]) (rest := []) ⟨hx, hb, hml, hown, hts⟩ (c_X7_no l G a0 ma lo H.size 0 rf lk pu tl 2 ) (cwV 1 hts gX7_dress_X7_no rfl rfl rfl (by decide +kernel) ⟨(Nat.le_of_ble_eq_true rfl), (Nat.le_of_ble_eq_true rfl)⟩) (tm_preV hK hN hV hS hPc hDc hFc (va_recv hK hPc (ci := 8) (q0 := 0) rfl rfl)) rfl rfl hl.1 rfl (lv_room (Nat.le_of_ble_eq_true rfl)) dX7_dress_46 ⟨(Nat.le_of_ble_eq_true rfl), (Nat.le_of_ble_eq_true rfl)⟩) hS (fun q _ h => hFc q h) hFc (fun r_14 u t H locs ht hvm hw_14 hB hz1 hk1 hS => ?_)
        obtain ⟨u_15, rfl⟩ : ∃ z, z = u := ⟨_, rfl⟩
        obtain ⟨hP1, hD1⟩ := hB
        rw [ht] at hP1
        try dsimp only at hw_14
        obtain ⟨hP, hD⟩ := va_join (wr := [tc_F G e0 3 dl, tc_I G e1 3 pl, tc_I G e2 3 dr, tc_X6 ma tk mo su lv si ga sl sc fh lh fo ee pn e0 e1 e2 e3 e4 e5 a0]) (w1 := [tc_X7 a0 u_15 ma rf lk pu tl lo]) hP hD [3] [0, 1, 2, 4] rfl rfl (by decide) (by decide) hk1 hFc hP1 hD1
        have hP : va_P G.1 vwCl [tc_F G e0 3 dl, tc_I G e1 3 pl, tc_I G e2 3 dr, tc_X6 ma tk mo su lv si ga sl sc fh lh fo ee pn e0 e1 e2 e3 e4 e5 a0, tc_X7 a0 u_15 ma rf lk pu tl lo] H := hP
        have hD : va_D A [tc_F G e0 3 dl, tc_I G e1 3 pl, tc_I G e2 3 dr, tc_X6 ma tk mo su lv si ga sl sc fh lh fo ee pn e0 e1 e2 e3 e4 e5 a0, tc_X7 a0 u_15 ma rf lk pu tl lo] := hD
        have hP9 := hP.sub (ws' := [tc_X7 a0 u_15 ma rf lk pu tl lo, tc_X6 ma tk mo su lv si ga sl sc fh lh fo ee pn e0 e1 e2 e3 e4 e5 a0, tc_F G e0 3 dl, tc_I G e1 3 pl, tc_I G e2 3 dr]) [4, 3, 0, 1, 2] rfl
        have hD9 := hD.sub (ws' := [tc_X7 a0 u_15 ma rf lk pu tl lo, tc_X6 ma tk mo su lv si ga sl sc fh lh fo ee pn e0 e1 e2 e3 e4 e5 a0, tc_F G e0 3 dl, tc_I G e1 3 pl, tc_I G e2 3 dr]) [4, 3, 0, 1, 2] (by decide) rfl
        exact W.iret (v := r_14) hx hb hr (fun t ht hW => ⟨⟨r_14, (u_15, dr), rfl, by unfold f_X7_dress; all_goals (rw [if_neg c_3]); all_goals (rw [if_pos c_5]); all_goals (rw [if_neg c_8]); all_goals (rw [← hw_14]); all_goals (dsimp only); all_goals rfl, by rw [ht]; exact hP9, hD9⟩, hS.F ht⟩) hS.2.2 dX7_dress_49
  · refine lv_aload_n hx hb dX7_dress_13 rfl (lv_at hl 0 rfl) ?_
    refine lv_iconst (v := 1) hx hb dX7_dress_14 (by decide) ?_
    have hPc := hP.sub (ws' := [tc_X7 a0 0 ma rf lk pu tl lo]) [3] rfl
    have hDc := hD.sub (ws' := [tc_X7 a0 0 ma rf lk pu tl lo]) [3] (by decide) rfl
    have hFc := va_free (wc := [tc_X7 a0 0 ma rf lk pu tl lo]) hD hS hA [3] rfl
    refine va_calli (va_runV (As := [.int 1]) (rest := []) ⟨hx, hb, hml, hown, hts⟩ (c_X7_no l G a0 ma lo H.size 0 rf lk pu tl 1 ) (cwV 1 hts gX7_dress_X7_no rfl rfl rfl (by decide +kernel) ⟨(Nat.le_of_ble_eq_true rfl), (Nat.le_of_ble_eq_true rfl)⟩) (tm_preV hK hN hV hS hPc hDc hFc (va_recv hK hPc (ci := 8) (q0 := 0) rfl rfl)) rfl rfl hl.1 rfl (lv_room (Nat.le_of_ble_eq_true rfl)) dX7_dress_15 ⟨(Nat.le_of_ble_eq_true rfl), (Nat.le_of_ble_eq_true rfl)⟩) hS (fun q _ h => hFc q h) hFc (fun r_16 u t H locs ht hvm hw_16 hB hz1 hk1 hS => ?_)
    obtain ⟨u_17, rfl⟩ : ∃ z, z = u := ⟨_, rfl⟩
    obtain ⟨hP1, hD1⟩ := hB
    rw [ht] at hP1
    try dsimp only at hw_16
    obtain ⟨hP, hD⟩ := va_join (wr := [tc_F G e0 3 dl, tc_I G e1 3 pl, tc_I G e2 3 dr, tc_X6 ma tk mo su lv si ga sl sc fh lh fo ee pn e0 e1 e2 e3 e4 e5 a0]) (w1 := [tc_X7 a0 u_17 ma rf lk pu tl lo]) hP hD [3] [0, 1, 2, 4] rfl rfl (by decide) (by decide) hk1 hFc hP1 hD1
    have hP : va_P G.1 vwCl [tc_F G e0 3 dl, tc_I G e1 3 pl, tc_I G e2 3 dr, tc_X6 ma tk mo su lv si ga sl sc fh lh fo ee pn e0 e1 e2 e3 e4 e5 a0, tc_X7 a0 u_17 ma rf lk pu tl lo] H := hP
    have hD : va_D A [tc_F G e0 3 dl, tc_I G e1 3 pl, tc_I G e2 3 dr, tc_X6 ma tk mo su lv si ga sl sc fh lh fo ee pn e0 e1 e2 e3 e4 e5 a0, tc_X7 a0 u_17 ma rf lk pu tl lo] := hD
    have hP9 := hP.sub (ws' := [tc_X7 a0 u_17 ma rf lk pu tl lo, tc_X6 ma tk mo su lv si ga sl sc fh lh fo ee pn e0 e1 e2 e3 e4 e5 a0, tc_F G e0 3 dl, tc_I G e1 3 pl, tc_I G e2 3 dr]) [4, 3, 0, 1, 2] rfl
    have hD9 := hD.sub (ws' := [tc_X7 a0 u_17 ma rf lk pu tl lo, tc_X6 ma tk mo su lv si ga sl sc fh lh fo ee pn e0 e1 e2 e3 e4 e5 a0, tc_F G e0 3 dl, tc_I G e1 3 pl, tc_I G e2 3 dr]) [4, 3, 0, 1, 2] (by decide) rfl
    exact W.iret (v := r_16) hx hb hr (fun t ht hW => ⟨⟨r_16, (u_17, dr), rfl, by unfold f_X7_dress; all_goals (rw [if_pos c_3]); all_goals (rw [← hw_16]); all_goals (dsimp only); all_goals rfl, by rw [ht]; exact hP9, hD9⟩, hS.F ht⟩) hS.2.2 dX7_dress_18
