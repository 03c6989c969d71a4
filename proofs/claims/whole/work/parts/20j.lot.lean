set_option maxHeartbeats 4000000 in
set_option maxRecDepth 100000 in
theorem c_X7_lot_e (l : Launch) (G : tm_G) (a0 : Nat) (ma : Nat) (lo : Nat) (e0 : Nat) (e1 : Nat) (e2 : Nat) (e3 : Nat) (e4 : Nat) (e5 : Nat) (ed : Nat) (sz : Nat) (th : Int32) (rf : Int32) (lk : Int32) (pu : Int32) (tl : UInt64) (tk : Int32) (mo : Int32) (su : UInt64) (lv : UInt64) (si : UInt32) (ga : Int32) (sl : Int32) (sc : Int32) (fh : Int32) (lh : Int32) (fo : UInt64) (ee : Int32) (pn : Int32) (le : Nat → UInt64) (mc : Int32) (p1 : Int32) (p2 : Int32) (p3 : Int32) (p4 : Int32) (n : Nat) (ad : Nat → Nat) (rc : Nat → Nat → Int32) (hn : n_X7_lot_e p1 p2 p3 p4 n) : Met l yX7_lot wsX7_lot ({ frames := 1, cells := 0, slots := 0, locals := 22 }) (va_Pc [.ref a0, .int p1, .int p2, .int p3, .int p4] (tm_B G ([tc_X7 a0 th ma rf lk pu tl lo, tc_X6 ma tk mo su lv si ga sl sc fh lh fo ee pn e0 e1 e2 e3 e4 e5 a0, tc_D G e4 10 le, tc_Jx4a65c lo mc ed (nI n)] ++ tm_L G ed n ad rc) sz)) (va_Qi (fun (r : Int32) (u : Int32) => (r, u) = f_X7_lot_e p1 p2 p3 p4 n) (fun (u : Int32) (t : State) => va_P G.1 vwCl ([tc_X7 a0 u ma rf lk pu tl lo, tc_X6 ma tk mo su lv si ga sl sc fh lh fo ee pn e0 e1 e2 e3 e4 e5 a0, tc_D G e4 10 le, tc_Jx4a65c lo mc ed (nI n)] ++ tm_L G ed n ad rc) t.heap ∧ va_D (va_A ([tc_X7 a0 th ma rf lk pu tl lo, tc_X6 ma tk mo su lv si ga sl sc fh lh fo ee pn e0 e1 e2 e3 e4 e5 a0, tc_D G e4 10 le, tc_Jx4a65c lo mc ed (nI n)] ++ tm_L G ed n ad rc) sz) ([tc_X7 a0 u ma rf lk pu tl lo, tc_X6 ma tk mo su lv si ga sl sc fh lh fo ee pn e0 e1 e2 e3 e4 e5 a0, tc_D G e4 10 le, tc_Jx4a65c lo mc ed (nI n)] ++ tm_L G ed n ad rc)) (va_A ([tc_X7 a0 th ma rf lk pu tl lo, tc_X6 ma tk mo su lv si ga sl sc fh lh fo ee pn e0 e1 e2 e3 e4 e5 a0, tc_D G e4 10 le, tc_Jx4a65c lo mc ed (nI n)] ++ tm_L G ed n ad rc) sz)) 0 0 (va_A ([tc_X7 a0 th ma rf lk pu tl lo, tc_X6 ma tk mo su lv si ga sl sc fh lh fo ee pn e0 e1 e2 e3 e4 e5 a0, tc_D G e4 10 le, tc_Jx4a65c lo mc ed (nI n)] ++ tm_L G ed n ad rc) sz) := by
  refine Met.ofW (cc := cX7_lot) (maxL := 6) (ret := (some .int)) (by decide) rfl ?_
  intro p e s m args below meth c s₁ B hml hv
  obtain ⟨rfl, hsz, hP, hK, hD0, hN, hV⟩ := hv
  have hx := B.exec
  have hb := B.bytes
  have hr := B.returns
  have hts := atoms_spec (ws := wsX7_lot) B.pre
  have hown : s.vm.findClass RX7 = some m.cls := findClass_of_methodNamed B.named
  have hlocks := B.notSynchronized
  subst hsz
  have n_17 := hn
  unfold n_X7_lot_e at n_17
  have hiX7 : ∀ w ∈ u_ws RX7 TX7 7, w ∈ wsX7_lot := fun _ h => List.mem_cons_of_mem _ (List.mem_append_left _ (List.mem_append_left _ (List.mem_append_right _ h)))
  have hD := hD0.self (sz := s.heap.size)
  generalize hAe : va_A ([tc_X7 a0 th ma rf lk pu tl lo, tc_X6 ma tk mo su lv si ga sl sc fh lh fo ee pn e0 e1 e2 e3 e4 e5 a0, tc_D G e4 10 le, tc_Jx4a65c lo mc ed (nI n)] ++ tm_L G ed n ad rc) s.heap.size = A at hD hV ⊢
  have hA : ∀ q : Nat, s.heap.size ≤ q → A q := fun q h => by rw [← hAe]; exact Or.inr h
  have hS : va_S A s.heap s.heap [] := va_S.rf
  have hl := lv_entry ([.ref a0, .int p1, .int p2, .int p3, .int p4]) (n := 6) (Nat.le_of_ble_eq_true rfl)
  rw [lg_entry_eq]
  generalize (lg_sl ([.ref a0, .int p1, .int p2, .int p3, .int p4]) ++ List.replicate (6 - (lg_sl ([.ref a0, .int p1, .int p2, .int p3, .int p4])).length) Slot.unset).toArray = ls at hl ⊢
  have hl : lv_has ls 6 [(0, .ref a0), (1, .int p1), (2, .int p2), (3, .int p3), (4, .int p4)] := hl
  refine lv_aload_n hx hb dX7_lot_0 rfl (lv_at hl 0 rfl) ?_
  refine lv_iconst (v := 0) hx hb dX7_lot_1 (by decide) ?_
  refine va_put (D := G.1) (ci := 8) (v := .int 0) (ty := .int) (C := RX7) (T := TX7) (N := 7) hx hb hts hiX7 tyX7 tyX7_ok nmX7 hown hK hP hD hS 0 rfl rfl 0 (by decide) (hts (.fieldLink RX7 25 "TideMillModel" "thrown" "I") (List.mem_of_getElem? (i := 1) rfl)) (fun _ h9 => h9) rfl (by decide +kernel) rfl rfl (Nat.le_of_ble_eq_true rfl) dX7_lot_2 (fun H locs hP hD hS => ?_)
  have hP : va_P G.1 vwCl ([tc_X7 a0 0 ma rf lk pu tl lo, tc_X6 ma tk mo su lv si ga sl sc fh lh fo ee pn e0 e1 e2 e3 e4 e5 a0, tc_D G e4 10 le, tc_Jx4a65c lo mc ed (nI n)] ++ tm_L G ed n ad rc) H := hP
  have hD : va_D A ([tc_X7 a0 0 ma rf lk pu tl lo, tc_X6 ma tk mo su lv si ga sl sc fh lh fo ee pn e0 e1 e2 e3 e4 e5 a0, tc_D G e4 10 le, tc_Jx4a65c lo mc ed (nI n)] ++ tm_L G ed n ad rc) := hD
  refine lv_iload_n hx hb dX7_lot_5 rfl (lv_at hl 1 rfl) ?_
  refine lv_iconst (v := 0) hx hb dX7_lot_6 (by decide) ?_
  refine lv_iconst (v := 3) hx hb dX7_lot_7 (by decide) ?_
  have hPc := hP.sub (ws' := []) [] rfl
  have hDc := hD.sub (ws' := []) [] (by decide) rfl
  have hFc := va_free (wc := []) hD hS hA [] rfl
  refine va_calli (va_runS (As := [.int p1, .int 0, .int 3]) (rest := []) ⟨hx, hb, hml, hown, hts⟩ (c_X7_in l G  H.size p1 0 3 ) (cwS 3 hts gX7_lot_X7_in rfl rfl rfl (by decide +kernel) ⟨(Nat.le_of_ble_eq_true rfl), (Nat.le_of_ble_eq_true rfl)⟩) (tm_preS hK hN hV hS hPc hDc hFc) rfl rfl hl.1 rfl (lv_room (Nat.le_of_ble_eq_true rfl)) dX7_lot_8 ⟨(Nat.le_of_ble_eq_true rfl), (Nat.le_of_ble_eq_true rfl)⟩) hS (fun q _ h => hFc q h) hFc (fun r_1 u t H locs ht hvm hw_1 hB hz1 hk1 hS => ?_)
  obtain ⟨hP1, hD1⟩ := hB
  rw [ht] at hP1
  try dsimp only at hw_1
  obtain ⟨hP, hD⟩ := va_joinQ (X := [tc_X7 a0 0 ma rf lk pu tl lo, tc_X6 ma tk mo su lv si ga sl sc fh lh fo ee pn e0 e1 e2 e3 e4 e5 a0, tc_D G e4 10 le, tc_Jx4a65c lo mc ed (nI n)]) (cx := []) (wr := [tc_X7 a0 0 ma rf lk pu tl lo, tc_X6 ma tk mo su lv si ga sl sc fh lh fo ee pn e0 e1 e2 e3 e4 e5 a0, tc_D G e4 10 le, tc_Jx4a65c lo mc ed (nI n)]) (w1 := []) (pl := tm_L G ed n ad rc) hP hD [] [0, 1, 2, 3] rfl rfl (by decide) (by decide) hk1 hFc hP1 hD1
  have hP : va_P G.1 vwCl ([tc_X7 a0 0 ma rf lk pu tl lo, tc_X6 ma tk mo su lv si ga sl sc fh lh fo ee pn e0 e1 e2 e3 e4 e5 a0, tc_D G e4 10 le, tc_Jx4a65c lo mc ed (nI n)] ++ tm_L G ed n ad rc) H := hP
  have hD : va_D A ([tc_X7 a0 0 ma rf lk pu tl lo, tc_X6 ma tk mo su lv si ga sl sc fh lh fo ee pn e0 e1 e2 e3 e4 e5 a0, tc_D G e4 10 le, tc_Jx4a65c lo mc ed (nI n)] ++ tm_L G ed n ad rc) := hD
  subst r_1
  refine lv_if_eq (tgt := 44) hx hb dX7_lot_11 (by decide) (fun c_2 => ?_) (fun c_2 => ?_)
  · refine lv_aload_n hx hb dX7_lot_44 rfl (lv_at hl 0 rfl) ?_
    refine lv_iconst (v := 1) hx hb dX7_lot_45 (by decide) ?_
    have hPc := hP.sub (ws' := [tc_X7 a0 0 ma rf lk pu tl lo]) [0] rfl
    have hDc := hD.sub (ws' := [tc_X7 a0 0 ma rf lk pu tl lo]) [0] (by decide) rfl
    have hFc := va_free (wc := [tc_X7 a0 0 ma rf lk pu tl lo]) hD hS hA [0] rfl
    refine va_calli (va_runV (As := [.int 1]) (rest := []) ⟨hx, hb, hml, hown, hts⟩ (c_X7_no l G a0 ma lo H.size 0 rf lk pu tl 1 ) (cwV 1 hts gX7_lot_X7_no rfl rfl rfl (by decide +kernel) ⟨(Nat.le_of_ble_eq_true rfl), (Nat.le_of_ble_eq_true rfl)⟩) (tm_preV hK hN hV hS hPc hDc hFc (va_recv hK hPc (ci := 8) (q0 := 0) rfl rfl)) rfl rfl hl.1 rfl (lv_room (Nat.le_of_ble_eq_true rfl)) dX7_lot_46 ⟨(Nat.le_of_ble_eq_true rfl), (Nat.le_of_ble_eq_true rfl)⟩) hS (fun q _ h => hFc q h) hFc (fun r_3 u t H locs ht hvm hw_3 hB hz1 hk1 hS => ?_)
    obtain ⟨u_4, rfl⟩ : ∃ z, z = u := ⟨_, rfl⟩
    obtain ⟨hP1, hD1⟩ := hB
    rw [ht] at hP1
    try dsimp only at hw_3
    obtain ⟨hP, hD⟩ := va_joinQ (X := [tc_X7 a0 0 ma rf lk pu tl lo, tc_X6 ma tk mo su lv si ga sl sc fh lh fo ee pn e0 e1 e2 e3 e4 e5 a0, tc_D G e4 10 le, tc_Jx4a65c lo mc ed (nI n)]) (cx := [tc_X7 a0 0 ma rf lk pu tl lo]) (wr := [tc_X6 ma tk mo su lv si ga sl sc fh lh fo ee pn e0 e1 e2 e3 e4 e5 a0, tc_D G e4 10 le, tc_Jx4a65c lo mc ed (nI n)]) (w1 := [tc_X7 a0 u_4 ma rf lk pu tl lo]) (pl := tm_L G ed n ad rc) hP hD [0] [1, 2, 3] rfl rfl (by decide) (by decide) hk1 hFc hP1 hD1
    have hP : va_P G.1 vwCl ([tc_X6 ma tk mo su lv si ga sl sc fh lh fo ee pn e0 e1 e2 e3 e4 e5 a0, tc_D G e4 10 le, tc_Jx4a65c lo mc ed (nI n), tc_X7 a0 u_4 ma rf lk pu tl lo] ++ tm_L G ed n ad rc) H := hP
    have hD : va_D A ([tc_X6 ma tk mo su lv si ga sl sc fh lh fo ee pn e0 e1 e2 e3 e4 e5 a0, tc_D G e4 10 le, tc_Jx4a65c lo mc ed (nI n), tc_X7 a0 u_4 ma rf lk pu tl lo] ++ tm_L G ed n ad rc) := hD
    have hP9 := va_P.part (X := [tc_X6 ma tk mo su lv si ga sl sc fh lh fo ee pn e0 e1 e2 e3 e4 e5 a0, tc_D G e4 10 le, tc_Jx4a65c lo mc ed (nI n), tc_X7 a0 u_4 ma rf lk pu tl lo]) (cx := [tc_X7 a0 u_4 ma rf lk pu tl lo, tc_X6 ma tk mo su lv si ga sl sc fh lh fo ee pn e0 e1 e2 e3 e4 e5 a0, tc_D G e4 10 le, tc_Jx4a65c lo mc ed (nI n)]) (pl := tm_L G ed n ad rc) hP [3, 0, 1, 2] rfl
    have hD9 := va_D.part (X := [tc_X6 ma tk mo su lv si ga sl sc fh lh fo ee pn e0 e1 e2 e3 e4 e5 a0, tc_D G e4 10 le, tc_Jx4a65c lo mc ed (nI n), tc_X7 a0 u_4 ma rf lk pu tl lo]) (cx := [tc_X7 a0 u_4 ma rf lk pu tl lo, tc_X6 ma tk mo su lv si ga sl sc fh lh fo ee pn e0 e1 e2 e3 e4 e5 a0, tc_D G e4 10 le, tc_Jx4a65c lo mc ed (nI n)]) (pl := tm_L G ed n ad rc) hD [3, 0, 1, 2] (by decide) rfl
    exact W.iret (v := r_3) hx hb hr (fun t ht hW => ⟨⟨r_3, (u_4), rfl, by unfold f_X7_lot_e; all_goals (rw [if_pos c_2]); all_goals (rw [← hw_3]); all_goals (dsimp only); all_goals rfl, by rw [ht]; exact hP9, hD9⟩, hS.F ht⟩) hS.2.2 dX7_lot_49
  · refine lv_iload_n hx hb dX7_lot_14 rfl (lv_at hl 2 rfl) ?_
    refine lv_iconst (v := 0) hx hb dX7_lot_15 (by decide) ?_
    refine lv_iconst (v := 2) hx hb dX7_lot_16 (by decide) ?_
    have hPc := hP.sub (ws' := []) [] rfl
    have hDc := hD.sub (ws' := []) [] (by decide) rfl
    have hFc := va_free (wc := []) hD hS hA [] rfl
    refine va_calli (va_runS (As := [.int p2, .int 0, .int 2]) (rest := []) ⟨hx, hb, hml, hown, hts⟩ (c_X7_in l G  H.size p2 0 2 ) (cwS 3 hts gX7_lot_X7_in rfl rfl rfl (by decide +kernel) ⟨(Nat.le_of_ble_eq_true rfl), (Nat.le_of_ble_eq_true rfl)⟩) (tm_preS hK hN hV hS hPc hDc hFc) rfl rfl hl.1 rfl (lv_room (Nat.le_of_ble_eq_true rfl)) dX7_lot_17 ⟨(Nat.le_of_ble_eq_true rfl), (Nat.le_of_ble_eq_true rfl)⟩) hS (fun q _ h => hFc q h) hFc (fun r_5 u t H locs ht hvm hw_5 hB hz1 hk1 hS => ?_)
    obtain ⟨hP1, hD1⟩ := hB
    rw [ht] at hP1
    try dsimp only at hw_5
    obtain ⟨hP, hD⟩ := va_joinQ (X := [tc_X7 a0 0 ma rf lk pu tl lo, tc_X6 ma tk mo su lv si ga sl sc fh lh fo ee pn e0 e1 e2 e3 e4 e5 a0, tc_D G e4 10 le, tc_Jx4a65c lo mc ed (nI n)]) (cx := []) (wr := [tc_X7 a0 0 ma rf lk pu tl lo, tc_X6 ma tk mo su lv si ga sl sc fh lh fo ee pn e0 e1 e2 e3 e4 e5 a0, tc_D G e4 10 le, tc_Jx4a65c lo mc ed (nI n)]) (w1 := []) (pl := tm_L G ed n ad rc) hP hD [] [0, 1, 2, 3] rfl rfl (by decide) (by decide) hk1 hFc hP1 hD1
    have hP : va_P G.1 vwCl ([tc_X7 a0 0 ma rf lk pu tl lo, tc_X6 ma tk mo su lv si ga sl sc fh lh fo ee pn e0 e1 e2 e3 e4 e5 a0, tc_D G e4 10 le, tc_Jx4a65c lo mc ed (nI n)] ++ tm_L G ed n ad rc) H := hP
    have hD : va_D A ([tc_X7 a0 0 ma rf lk pu tl lo, tc_X6 ma tk mo su lv si ga sl sc fh lh fo ee pn e0 e1 e2 e3 e4 e5 a0, tc_D G e4 10 le, tc_Jx4a65c lo mc ed (nI n)] ++ tm_L G ed n ad rc) := hD
    subst r_5
    refine lv_if_eq (tgt := 44) hx hb dX7_lot_20 (by decide) (fun c_6 => ?_) (fun c_6 => ?_)
    · refine lv_aload_n hx hb dX7_lot_44 rfl (lv_at hl 0 rfl) ?_
      refine lv_iconst (v := 1) hx hb dX7_lot_45 (by decide) ?_
      have hPc := hP.sub (ws' := [tc_X7 a0 0 ma rf lk pu tl lo]) [0] rfl
      have hDc := hD.sub (ws' := [tc_X7 a0 0 ma rf lk pu tl lo]) [0] (by decide) rfl
      have hFc := va_free (wc := [tc_X7 a0 0 ma rf lk pu tl lo]) hD hS hA [0] rfl
      refine va_calli (va_runV (As := [.int 1]) (rest := []) ⟨hx, hb, hml, hown, hts⟩ (c_X7_no l G a0 ma lo H.size 0 rf lk pu tl 1 ) (cwV 1 hts gX7_lot_X7_no rfl rfl rfl (by decide +kernel) ⟨(Nat.le_of_ble_eq_true rfl), (Nat.le_of_ble_eq_true rfl)⟩) (tm_preV hK hN hV hS hPc hDc hFc (va_recv hK hPc (ci := 8) (q0 := 0) rfl rfl)) rfl rfl hl.1 rfl (lv_room (Nat.le_of_ble_eq_true rfl)) dX7_lot_46 ⟨(Nat.le_of_ble_eq_true rfl), (Nat.le_of_ble_eq_true rfl)⟩) hS (fun q _ h => hFc q h) hFc (fun r_7 u t H locs ht hvm hw_7 hB hz1 hk1 hS => ?_)
      obtain ⟨u_8, rfl⟩ : ∃ z, z = u := ⟨_, rfl⟩
      obtain ⟨hP1, hD1⟩ := hB
      rw [ht] at hP1
      try dsimp only at hw_7
      obtain ⟨hP, hD⟩ := va_joinQ (X := [tc_X7 a0 0 ma rf lk pu tl lo, tc_X6 ma tk mo su lv si ga sl sc fh lh fo ee pn e0 e1 e2 e3 e4 e5 a0, tc_D G e4 10 le, tc_Jx4a65c lo mc ed (nI n)]) (cx := [tc_X7 a0 0 ma rf lk pu tl lo]) (wr := [tc_X6 ma tk mo su lv si ga sl sc fh lh fo ee pn e0 e1 e2 e3 e4 e5 a0, tc_D G e4 10 le, tc_Jx4a65c lo mc ed (nI n)]) (w1 := [tc_X7 a0 u_8 ma rf lk pu tl lo]) (pl := tm_L G ed n ad rc) hP hD [0] [1, 2, 3] rfl rfl (by decide) (by decide) hk1 hFc hP1 hD1
      have hP : va_P G.1 vwCl ([tc_X6 ma tk mo su lv si ga sl sc fh lh fo ee pn e0 e1 e2 e3 e4 e5 a0, tc_D G e4 10 le, tc_Jx4a65c lo mc ed (nI n), tc_X7 a0 u_8 ma rf lk pu tl lo] ++ tm_L G ed n ad rc) H := hP
      have hD : va_D A ([tc_X6 ma tk mo su lv si ga sl sc fh lh fo ee pn e0 e1 e2 e3 e4 e5 a0, tc_D G e4 10 le, tc_Jx4a65c lo mc ed (nI n), tc_X7 a0 u_8 ma rf lk pu tl lo] ++ tm_L G ed n ad rc) := hD
      have hP9 := va_P.part (X := [tc_X6 ma tk mo su lv si ga sl sc fh lh fo ee pn e0 e1 e2 e3 e4 e5 a0, tc_D G e4 10 le, tc_Jx4a65c lo mc ed (nI n), tc_X7 a0 u_8 ma rf lk pu tl lo]) (cx := [tc_X7 a0 u_8 ma rf lk pu tl lo, tc_X6 ma tk mo su lv si ga sl sc fh lh fo ee pn e0 e1 e2 e3 e4 e5 a0, tc_D G e4 10 le, tc_Jx4a65c lo mc ed (nI n)]) (pl := tm_L G ed n ad rc) hP [3, 0, 1, 2] rfl
      have hD9 := va_D.part (X := [tc_X6 ma tk mo su lv si ga sl sc fh lh fo ee pn e0 e1 e2 e3 e4 e5 a0, tc_D G e4 10 le, tc_Jx4a65c lo mc ed (nI n), tc_X7 a0 u_8 ma rf lk pu tl lo]) (cx := [tc_X7 a0 u_8 ma rf lk pu tl lo, tc_X6 ma tk mo su lv si ga sl sc fh lh fo ee pn e0 e1 e2 e3 e4 e5 a0, tc_D G e4 10 le, tc_Jx4a65c lo mc ed (nI n)]) (pl := tm_L G ed n ad rc) hD [3, 0, 1, 2] (by decide) rfl
      exact W.iret (v := r_7) hx hb hr (fun t ht hW => ⟨⟨r_7, (u_8), rfl, by unfold f_X7_lot_e; all_goals (rw [if_neg c_2]); all_goals (rw [if_pos c_6]); all_goals (rw [← hw_7]); all_goals (dsimp only); all_goals rfl, by rw [ht]; exact hP9, hD9⟩, hS.F ht⟩) hS.2.2 dX7_lot_49
    · refine lv_iload_n hx hb dX7_lot_23 rfl (lv_at hl 3 rfl) ?_
      refine lv_iconst (v := 1) hx hb dX7_lot_24 (by decide) ?_
      refine lv_bipush (v := 60) hx hb dX7_lot_25 (by decide) ?_
      have hPc := hP.sub (ws' := []) [] rfl
      have hDc := hD.sub (ws' := []) [] (by decide) rfl
      have hFc := va_free (wc := []) hD hS hA [] rfl
      refine va_calli (va_runS (As := [.int p3, .int 1, .int 60]) (rest := []) ⟨hx, hb, hml, hown, hts⟩ (c_X7_in l G  H.size p3 1 60 ) (cwS 3 hts gX7_lot_X7_in rfl rfl rfl (by decide +kernel) ⟨(Nat.le_of_ble_eq_true rfl), (Nat.le_of_ble_eq_true rfl)⟩) (tm_preS hK hN hV hS hPc hDc hFc) rfl rfl hl.1 rfl (lv_room (Nat.le_of_ble_eq_true rfl)) dX7_lot_27 ⟨(Nat.le_of_ble_eq_true rfl), (Nat.le_of_ble_eq_true rfl)⟩) hS (fun q _ h => hFc q h) hFc (fun r_9 u t H locs ht hvm hw_9 hB hz1 hk1 hS => ?_)
      obtain ⟨hP1, hD1⟩ := hB
      rw [ht] at hP1
      try dsimp only at hw_9
      obtain ⟨hP, hD⟩ := va_joinQ (X := [tc_X7 a0 0 ma rf lk pu tl lo, tc_X6 ma tk mo su lv si ga sl sc fh lh fo ee pn e0 e1 e2 e3 e4 e5 a0, tc_D G e4 10 le, tc_Jx4a65c lo mc ed (nI n)]) (cx := []) (wr := [tc_X7 a0 0 ma rf lk pu tl lo, tc_X6 ma tk mo su lv si ga sl sc fh lh fo ee pn e0 e1 e2 e3 e4 e5 a0, tc_D G e4 10 le, tc_Jx4a65c lo mc ed (nI n)]) (w1 := []) (pl := tm_L G ed n ad rc) hP hD [] [0, 1, 2, 3] rfl rfl (by decide) (by decide) hk1 hFc hP1 hD1
      have hP : va_P G.1 vwCl ([tc_X7 a0 0 ma rf lk pu tl lo, tc_X6 ma tk mo su lv si ga sl sc fh lh fo ee pn e0 e1 e2 e3 e4 e5 a0, tc_D G e4 10 le, tc_Jx4a65c lo mc ed (nI n)] ++ tm_L G ed n ad rc) H := hP
      have hD : va_D A ([tc_X7 a0 0 ma rf lk pu tl lo, tc_X6 ma tk mo su lv si ga sl sc fh lh fo ee pn e0 e1 e2 e3 e4 e5 a0, tc_D G e4 10 le, tc_Jx4a65c lo mc ed (nI n)] ++ tm_L G ed n ad rc) := hD
      subst r_9
      refine lv_if_eq (tgt := 44) hx hb dX7_lot_30 (by decide) (fun c_10 => ?_) (fun c_10 => ?_)
      · refine lv_aload_n hx hb dX7_lot_44 rfl (lv_at hl 0 rfl) ?_
        refine lv_iconst (v := 1) hx hb dX7_lot_45 (by decide) ?_
        have hPc := hP.sub (ws' := [tc_X7 a0 0 ma rf lk pu tl lo]) [0] rfl
        have hDc := hD.sub (ws' := [tc_X7 a0 0 ma rf lk pu tl lo]) [0] (by decide) rfl
        have hFc := va_free (wc := [tc_X7 a0 0 ma rf lk pu tl lo]) hD hS hA [0] rfl
        refine va_calli (va_runV (As := [.int 1]) (rest := []) ⟨hx, hb, hml, hown, hts⟩ (c_X7_no l G a0 ma lo H.size 0 rf lk pu tl 1 ) (cwV 1 hts gX7_lot_X7_no rfl rfl rfl (by decide +kernel) ⟨(Nat.le_of_ble_eq_true rfl), (Nat.le_of_ble_eq_true rfl)⟩) (tm_preV hK hN hV hS hPc hDc hFc (va_recv hK hPc (ci := 8) (q0 := 0) rfl rfl)) rfl rfl hl.1 rfl (lv_room (Nat.le_of_ble_eq_true rfl)) dX7_lot_46 ⟨(Nat.le_of_ble_eq_true rfl), (Nat.le_of_ble_eq_true rfl)⟩) hS (fun q _ h => hFc q h) hFc (fun r_11 u t H locs ht hvm hw_11 hB hz1 hk1 hS => ?_)
        obtain ⟨u_12, rfl⟩ : ∃ z, z = u := ⟨_, rfl⟩
        obtain ⟨hP1, hD1⟩ := hB
        rw [ht] at hP1
        try dsimp only at hw_11
        obtain ⟨hP, hD⟩ := va_joinQ (X := [tc_X7 a0 0 ma rf lk pu tl lo, tc_X6 ma tk mo su lv si ga sl sc fh lh fo ee pn e0 e1 e2 e3 e4 e5 a0, tc_D G e4 10 le, tc_Jx4a65c lo mc ed (nI n)]) (cx := [tc_X7 a0 0 ma rf lk pu tl lo]) (wr := [tc_X6 ma tk mo su lv si ga sl sc fh lh fo ee pn e0 e1 e2 e3 e4 e5 a0, tc_D G e4 10 le, tc_Jx4a65c lo mc ed (nI n)]) (w1 := [tc_X7 a0 u_12 ma rf lk pu tl lo]) (pl := tm_L G ed n ad rc) hP hD [0] [1, 2, 3] rfl rfl (by decide) (by decide) hk1 hFc hP1 hD1
        have hP : va_P G.1 vwCl ([tc_X6 ma tk mo su lv si ga sl sc fh lh fo ee pn e0 e1 e2 e3 e4 e5 a0, tc_D G e4 10 le, tc_Jx4a65c lo mc ed (nI n), tc_X7 a0 u_12 ma rf lk pu tl lo] ++ tm_L G ed n ad rc) H := hP
        have hD : va_D A ([tc_X6 ma tk mo su lv si ga sl sc fh lh fo ee pn e0 e1 e2 e3 e4 e5 a0, tc_D G e4 10 le, tc_Jx4a65c lo mc ed (nI n), tc_X7 a0 u_12 ma rf lk pu tl lo] ++ tm_L G ed n ad rc) := hD
        have hP9 := va_P.part (X := [tc_X6 ma tk mo su lv si ga sl sc fh lh fo ee pn e0 e1 e2 e3 e4 e5 a0, tc_D G e4 10 le, tc_Jx4a65c lo mc ed (nI n), tc_X7 a0 u_12 ma rf lk pu tl lo]) (cx := [tc_X7 a0 u_12 ma rf lk pu tl lo, tc_X6 ma tk mo su lv si ga sl sc fh lh fo ee pn e0 e1 e2 e3 e4 e5 a0, tc_D G e4 10 le, tc_Jx4a65c lo mc ed (nI n)]) (pl := tm_L G ed n ad rc) hP [3, 0, 1, 2] rfl
        have hD9 := va_D.part (X := [tc_X6 ma tk mo su lv si ga sl sc fh lh fo ee pn e0 e1 e2 e3 e4 e5 a0, tc_D G e4 10 le, tc_Jx4a65c lo mc ed (nI n), tc_X7 a0 u_12 ma rf lk pu tl lo]) (cx := [tc_X7 a0 u_12 ma rf lk pu tl lo, tc_X6 ma tk mo su lv si ga sl sc fh lh fo ee pn e0 e1 e2 e3 e4 e5 a0, tc_D G e4 10 le, tc_Jx4a65c lo mc ed (nI n)]) (pl := tm_L G ed n ad rc) hD [3, 0, 1, 2] (by decide) rfl
        exact W.iret (v := r_11) hx hb hr (fun t ht hW => ⟨⟨r_11, (u_12), rfl, by unfold f_X7_lot_e; all_goals (rw [if_neg c_2]); all_goals (rw [if_neg c_6]); all_goals (rw [if_pos c_10]); all_goals (rw [← hw_11]); all_goals (dsimp only); all_goals rfl, by rw [ht]; exact hP9, hD9⟩, hS.F ht⟩) hS.2.2 dX7_lot_49
      · refine lv_iload hx hb dX7_lot_33 (lv_at hl 4 rfl) ?_
        refine lv_iconst (v := 0) hx hb dX7_lot_35 (by decide) ?_
        refine lv_bipush (v := 30) hx hb dX7_lot_36 (by decide) ?_
        have hPc := hP.sub (ws' := []) [] rfl
        have hDc := hD.sub (ws' := []) [] (by decide) rfl
        have hFc := va_free (wc := []) hD hS hA [] rfl
        refine va_calli (va_runS (As := [.int p4, .int 0, .int 30]) (rest := []) ⟨hx, hb, hml, hown, hts⟩ (c_X7_in l G  H.size p4 0 30 ) (cwS 3 hts gX7_lot_X7_in rfl rfl rfl (by decide +kernel) ⟨(Nat.le_of_ble_eq_true rfl), (Nat.le_of_ble_eq_true rfl)⟩) (tm_preS hK hN hV hS hPc hDc hFc) rfl rfl hl.1 rfl (lv_room (Nat.le_of_ble_eq_true rfl)) dX7_lot_38 ⟨(Nat.le_of_ble_eq_true rfl), (Nat.le_of_ble_eq_true rfl)⟩) hS (fun q _ h => hFc q h) hFc (fun r_13 u t H locs ht hvm hw_13 hB hz1 hk1 hS => ?_)
        obtain ⟨hP1, hD1⟩ := hB
        rw [ht] at hP1
        try dsimp only at hw_13
        obtain ⟨hP, hD⟩ := va_joinQ (X := [tc_X7 a0 0 ma rf lk pu tl lo, tc_X6 ma tk mo su lv si ga sl sc fh lh fo ee pn e0 e1 e2 e3 e4 e5 a0, tc_D G e4 10 le, tc_Jx4a65c lo mc ed (nI n)]) (cx := []) (wr := [tc_X7 a0 0 ma rf lk pu tl lo, tc_X6 ma tk mo su lv si ga sl sc fh lh fo ee pn e0 e1 e2 e3 e4 e5 a0, tc_D G e4 10 le, tc_Jx4a65c lo mc ed (nI n)]) (w1 := []) (pl := tm_L G ed n ad rc) hP hD [] [0, 1, 2, 3] rfl rfl (by decide) (by decide) hk1 hFc hP1 hD1
        have hP : va_P G.1 vwCl ([tc_X7 a0 0 ma rf lk pu tl lo, tc_X6 ma tk mo su lv si ga sl sc fh lh fo ee pn e0 e1 e2 e3 e4 e5 a0, tc_D G e4 10 le, tc_Jx4a65c lo mc ed (nI n)] ++ tm_L G ed n ad rc) H := hP
        have hD : va_D A ([tc_X7 a0 0 ma rf lk pu tl lo, tc_X6 ma tk mo su lv si ga sl sc fh lh fo ee pn e0 e1 e2 e3 e4 e5 a0, tc_D G e4 10 le, tc_Jx4a65c lo mc ed (nI n)] ++ tm_L G ed n ad rc) := hD
        subst r_13
        refine lv_if_ne (tgt := 50) hx hb dX7_lot_41 (by decide) (fun c_14 => ?_) (fun c_14 => ?_)
        · refine lv_aload_n hx hb dX7_lot_50 rfl (lv_at hl 0 rfl) ?_
          refine va_get (D := G.1) (ci := 8) (v := .ref lo) (C := RX7) (T := TX7) (N := 7) hx hb hts hiX7 hown hK hP 0 rfl rfl 6 (by decide) (hts (.fieldLink RX7 21 "TideMillModel" "lots" "Ljava/util/List;") (List.mem_of_getElem? (i := 2) rfl)) (fun _ h9 => h9) rfl dX7_lot_51 ?_
          have hPc := hP.sub (ws' := [tc_Jx4a65c lo mc ed (nI n)]) [3] rfl
          have hDc := hD.sub (ws' := [tc_Jx4a65c lo mc ed (nI n)]) [3] (by decide) rfl
          have hFc := va_free (wc := [tc_Jx4a65c lo mc ed (nI n)]) hD hS hA [3] rfl
          refine va_callFi (va_runF (As := []) (rest := []) (hK.1 0 (RJx4a65c, TJx4a65c, 3) rfl).2 ⟨hx, hb, hml, hown, hts⟩ (c_Jx4a65c_size_8abf5 l G lo ed H.size mc (nI n) ) (va_cwF 0 hts gX7_lot_Jx4a65c_size_8abf5_f29Jx4a65c rfl rfl rfl (hN.2.2.2.2.1 (⟨"java/util/List", "size", "()I"⟩, yJx4a65c_size_8abf5) (List.mem_of_getElem? (i := 0) rfl)) (by decide +kernel) ⟨(Nat.le_of_ble_eq_true rfl), (Nat.le_of_ble_eq_true rfl)⟩) (tm_preV hK hN hV hS hPc hDc hFc (va_recv hK hPc (ci := 0) (q0 := 0) rfl rfl)) rfl rfl hl.1 rfl (lv_room (Nat.le_of_ble_eq_true rfl)) dX7_lot_54 ⟨(Nat.le_of_ble_eq_true rfl), (Nat.le_of_ble_eq_true rfl)⟩) hS (fun q _ h => hFc q h) hFc (fun r_15 u t H locs ht hvm hw_15 hB hz1 hk1 hS => ?_)
          obtain ⟨hP1, hD1⟩ := hB
          rw [ht] at hP1
          try dsimp only at hw_15
          obtain ⟨hP, hD⟩ := va_joinQ (X := [tc_X7 a0 0 ma rf lk pu tl lo, tc_X6 ma tk mo su lv si ga sl sc fh lh fo ee pn e0 e1 e2 e3 e4 e5 a0, tc_D G e4 10 le, tc_Jx4a65c lo mc ed (nI n)]) (cx := [tc_Jx4a65c lo mc ed (nI n)]) (wr := [tc_X7 a0 0 ma rf lk pu tl lo, tc_X6 ma tk mo su lv si ga sl sc fh lh fo ee pn e0 e1 e2 e3 e4 e5 a0, tc_D G e4 10 le]) (w1 := [tc_Jx4a65c lo mc ed (nI n)]) (pl := tm_L G ed n ad rc) hP hD [3] [0, 1, 2] rfl rfl (by decide) (by decide) hk1 hFc hP1 hD1
          have hP : va_P G.1 vwCl ([tc_X7 a0 0 ma rf lk pu tl lo, tc_X6 ma tk mo su lv si ga sl sc fh lh fo ee pn e0 e1 e2 e3 e4 e5 a0, tc_D G e4 10 le, tc_Jx4a65c lo mc ed (nI n)] ++ tm_L G ed n ad rc) H := hP
          have hD : va_D A ([tc_X7 a0 0 ma rf lk pu tl lo, tc_X6 ma tk mo su lv si ga sl sc fh lh fo ee pn e0 e1 e2 e3 e4 e5 a0, tc_D G e4 10 le, tc_Jx4a65c lo mc ed (nI n)] ++ tm_L G ed n ad rc) := hD
          subst r_15
          refine lv_bipush (v := 10) hx hb dX7_lot_59 (by decide) ?_
          refine lv_icmp_ne (tgt := 70) hx hb dX7_lot_61 (by decide) (fun c_16 => ?_) (fun c_16 => ?_)
          · exact ((n_17 c_2 c_6 c_10 c_14 c_16)).elim
          · refine lv_aload_n hx hb dX7_lot_64 rfl (lv_at hl 0 rfl) ?_
            refine lv_iconst (v := 2) hx hb dX7_lot_65 (by decide) ?_
            have hPc := hP.sub (ws' := [tc_X7 a0 0 ma rf lk pu tl lo]) [0] rfl
            have hDc := hD.sub (ws' := [tc_X7 a0 0 ma rf lk pu tl lo]) [0] (by decide) rfl
            have hFc := va_free (wc := [tc_X7 a0 0 ma rf lk pu tl lo]) hD hS hA [0] rfl
            refine va_calli (va_runV (As := [.int 2]) (rest := []) ⟨hx, hb, hml, hown, hts⟩ (c_X7_no l G a0 ma lo H.size 0 rf lk pu tl 2 ) (cwV 1 hts gX7_lot_X7_no rfl rfl rfl (by decide +kernel) ⟨(Nat.le_of_ble_eq_true rfl), (Nat.le_of_ble_eq_true rfl)⟩) (tm_preV hK hN hV hS hPc hDc hFc (va_recv hK hPc (ci := 8) (q0 := 0) rfl rfl)) rfl rfl hl.1 rfl (lv_room (Nat.le_of_ble_eq_true rfl)) dX7_lot_66 ⟨(Nat.le_of_ble_eq_true rfl), (Nat.le_of_ble_eq_true rfl)⟩) hS (fun q _ h => hFc q h) hFc (fun r_18 u t H locs ht hvm hw_18 hB hz1 hk1 hS => ?_)
            obtain ⟨u_19, rfl⟩ : ∃ z, z = u := ⟨_, rfl⟩
            obtain ⟨hP1, hD1⟩ := hB
            rw [ht] at hP1
            try dsimp only at hw_18
            obtain ⟨hP, hD⟩ := va_joinQ (X := [tc_X7 a0 0 ma rf lk pu tl lo, tc_X6 ma tk mo su lv si ga sl sc fh lh fo ee pn e0 e1 e2 e3 e4 e5 a0, tc_D G e4 10 le, tc_Jx4a65c lo mc ed (nI n)]) (cx := [tc_X7 a0 0 ma rf lk pu tl lo]) (wr := [tc_X6 ma tk mo su lv si ga sl sc fh lh fo ee pn e0 e1 e2 e3 e4 e5 a0, tc_D G e4 10 le, tc_Jx4a65c lo mc ed (nI n)]) (w1 := [tc_X7 a0 u_19 ma rf lk pu tl lo]) (pl := tm_L G ed n ad rc) hP hD [0] [1, 2, 3] rfl rfl (by decide) (by decide) hk1 hFc hP1 hD1
            have hP : va_P G.1 vwCl ([tc_X6 ma tk mo su lv si ga sl sc fh lh fo ee pn e0 e1 e2 e3 e4 e5 a0, tc_D G e4 10 le, tc_Jx4a65c lo mc ed (nI n), tc_X7 a0 u_19 ma rf lk pu tl lo] ++ tm_L G ed n ad rc) H := hP
            have hD : va_D A ([tc_X6 ma tk mo su lv si ga sl sc fh lh fo ee pn e0 e1 e2 e3 e4 e5 a0, tc_D G e4 10 le, tc_Jx4a65c lo mc ed (nI n), tc_X7 a0 u_19 ma rf lk pu tl lo] ++ tm_L G ed n ad rc) := hD
            have hP9 := va_P.part (X := [tc_X6 ma tk mo su lv si ga sl sc fh lh fo ee pn e0 e1 e2 e3 e4 e5 a0, tc_D G e4 10 le, tc_Jx4a65c lo mc ed (nI n), tc_X7 a0 u_19 ma rf lk pu tl lo]) (cx := [tc_X7 a0 u_19 ma rf lk pu tl lo, tc_X6 ma tk mo su lv si ga sl sc fh lh fo ee pn e0 e1 e2 e3 e4 e5 a0, tc_D G e4 10 le, tc_Jx4a65c lo mc ed (nI n)]) (pl := tm_L G ed n ad rc) hP [3, 0, 1, 2] rfl
            have hD9 := va_D.part (X := [tc_X6 ma tk mo su lv si ga sl sc fh lh fo ee pn e0 e1 e2 e3 e4 e5 a0, tc_D G e4 10 le, tc_Jx4a65c lo mc ed (nI n), tc_X7 a0 u_19 ma rf lk pu tl lo]) (cx := [tc_X7 a0 u_19 ma rf lk pu tl lo, tc_X6 ma tk mo su lv si ga sl sc fh lh fo ee pn e0 e1 e2 e3 e4 e5 a0, tc_D G e4 10 le, tc_Jx4a65c lo mc ed (nI n)]) (pl := tm_L G ed n ad rc) hD [3, 0, 1, 2] (by decide) rfl
            exact W.iret (v := r_18) hx hb hr (fun t ht hW => ⟨⟨r_18, (u_19), rfl, by unfold f_X7_lot_e; all_goals (rw [if_neg c_2]); all_goals (rw [if_neg c_6]); all_goals (rw [if_neg c_10]); all_goals (rw [if_neg c_14]); all_goals (rw [if_pos c_16]); all_goals (rw [← hw_18]); all_goals (dsimp only); all_goals rfl, by rw [ht]; exact hP9, hD9⟩, hS.F ht⟩) hS.2.2 dX7_lot_69
        · refine lv_aload_n hx hb dX7_lot_44 rfl (lv_at hl 0 rfl) ?_
          refine lv_iconst (v := 1) hx hb dX7_lot_45 (by decide) ?_
          have hPc := hP.sub (ws' := [tc_X7 a0 0 ma rf lk pu tl lo]) [0] rfl
          have hDc := hD.sub (ws' := [tc_X7 a0 0 ma rf lk pu tl lo]) [0] (by decide) rfl
          have hFc := va_free (wc := [tc_X7 a0 0 ma rf lk pu tl lo]) hD hS hA [0] rfl
          refine va_calli (va_runV (As := [.int 1]) (rest := []) ⟨hx, hb, hml, hown, hts⟩ (c_X7_no l G a0 ma lo H.size 0 rf lk pu tl 1 ) (cwV 1 hts gX7_lot_X7_no rfl rfl rfl (by decide +kernel) ⟨(Nat.le_of_ble_eq_true rfl), (Nat.le_of_ble_eq_true rfl)⟩) (tm_preV hK hN hV hS hPc hDc hFc (va_recv hK hPc (ci := 8) (q0 := 0) rfl rfl)) rfl rfl hl.1 rfl (lv_room (Nat.le_of_ble_eq_true rfl)) dX7_lot_46 ⟨(Nat.le_of_ble_eq_true rfl), (Nat.le_of_ble_eq_true rfl)⟩) hS (fun q _ h => hFc q h) hFc (fun r_20 u t H locs ht hvm hw_20 hB hz1 hk1 hS => ?_)
          obtain ⟨u_21, rfl⟩ : ∃ z, z = u := ⟨_, rfl⟩
          obtain ⟨hP1, hD1⟩ := hB
          rw [ht] at hP1
          try dsimp only at hw_20
          obtain ⟨hP, hD⟩ := va_joinQ (X := [tc_X7 a0 0 ma rf lk pu tl lo, tc_X6 ma tk mo su lv si ga sl sc fh lh fo ee pn e0 e1 e2 e3 e4 e5 a0, tc_D G e4 10 le, tc_Jx4a65c lo mc ed (nI n)]) (cx := [tc_X7 a0 0 ma rf lk pu tl lo]) (wr := [tc_X6 ma tk mo su lv si ga sl sc fh lh fo ee pn e0 e1 e2 e3 e4 e5 a0, tc_D G e4 10 le, tc_Jx4a65c lo mc ed (nI n)]) (w1 := [tc_X7 a0 u_21 ma rf lk pu tl lo]) (pl := tm_L G ed n ad rc) hP hD [0] [1, 2, 3] rfl rfl (by decide) (by decide) hk1 hFc hP1 hD1
          have hP : va_P G.1 vwCl ([tc_X6 ma tk mo su lv si ga sl sc fh lh fo ee pn e0 e1 e2 e3 e4 e5 a0, tc_D G e4 10 le, tc_Jx4a65c lo mc ed (nI n), tc_X7 a0 u_21 ma rf lk pu tl lo] ++ tm_L G ed n ad rc) H := hP
          have hD : va_D A ([tc_X6 ma tk mo su lv si ga sl sc fh lh fo ee pn e0 e1 e2 e3 e4 e5 a0, tc_D G e4 10 le, tc_Jx4a65c lo mc ed (nI n), tc_X7 a0 u_21 ma rf lk pu tl lo] ++ tm_L G ed n ad rc) := hD
          have hP9 := va_P.part (X := [tc_X6 ma tk mo su lv si ga sl sc fh lh fo ee pn e0 e1 e2 e3 e4 e5 a0, tc_D G e4 10 le, tc_Jx4a65c lo mc ed (nI n), tc_X7 a0 u_21 ma rf lk pu tl lo]) (cx := [tc_X7 a0 u_21 ma rf lk pu tl lo, tc_X6 ma tk mo su lv si ga sl sc fh lh fo ee pn e0 e1 e2 e3 e4 e5 a0, tc_D G e4 10 le, tc_Jx4a65c lo mc ed (nI n)]) (pl := tm_L G ed n ad rc) hP [3, 0, 1, 2] rfl
          have hD9 := va_D.part (X := [tc_X6 ma tk mo su lv si ga sl sc fh lh fo ee pn e0 e1 e2 e3 e4 e5 a0, tc_D G e4 10 le, tc_Jx4a65c lo mc ed (nI n), tc_X7 a0 u_21 ma rf lk pu tl lo]) (cx := [tc_X7 a0 u_21 ma rf lk pu tl lo, tc_X6 ma tk mo su lv si ga sl sc fh lh fo ee pn e0 e1 e2 e3 e4 e5 a0, tc_D G e4 10 le, tc_Jx4a65c lo mc ed (nI n)]) (pl := tm_L G ed n ad rc) hD [3, 0, 1, 2] (by decide) rfl
          exact W.iret (v := r_20) hx hb hr (fun t ht hW => ⟨⟨r_20, (u_21), rfl, by unfold f_X7_lot_e; all_goals (rw [if_neg c_2]); all_goals (rw [if_neg c_6]); all_goals (rw [if_neg c_10]); all_goals (rw [if_pos c_14]); all_goals (rw [← hw_20]); all_goals (dsimp only); all_goals rfl, by rw [ht]; exact hP9, hD9⟩, hS.F ht⟩) hS.2.2 dX7_lot_49
set_option maxHeartbeats 4000000 in
set_option maxRecDepth 100000 in
theorem c_X7_lot_p (l : Launch) (G : tm_G) (a0 : Nat) (ma : Nat) (lo : Nat) (e0 : Nat) (e1 : Nat) (e2 : Nat) (e3 : Nat) (e4 : Nat) (e5 : Nat) (ed : Nat) (sz : Nat) (th : Int32) (rf : Int32) (lk : Int32) (pu : Int32) (tl : UInt64) (tk : Int32) (mo : Int32) (su : UInt64) (lv : UInt64) (si : UInt32) (ga : Int32) (sl : Int32) (sc : Int32) (fh : Int32) (lh : Int32) (fo : UInt64) (ee : Int32) (pn : Int32) (le : Nat → UInt64) (mc : Int32) (p1 : Int32) (p2 : Int32) (p3 : Int32) (p4 : Int32) (n : Nat) (ad : Nat → Nat) (rc : Nat → Nat → Int32) (hn : n_X7_lot_p p1 p2 p3 p4 n) : Met l yX7_lot wsX7_lot ({ frames := 2, cells := 1, slots := 5, locals := 44 }) (va_Pc [.ref a0, .int p1, .int p2, .int p3, .int p4] (tm_B G ([tc_X7 a0 th ma rf lk pu tl lo, tc_X6 ma tk mo su lv si ga sl sc fh lh fo ee pn e0 e1 e2 e3 e4 e5 a0, tc_D G e4 10 le, tc_Jx4a65c lo mc ed (nI n)] ++ tm_L G ed n ad rc) sz)) (va_Qi (fun (r : Int32) (_ : Unit) => r = (f_Jx4a65c_size_8abf5 ((nI n) + 1)) - 1) (fun (_ : Unit) (t : State) => ∃ (q_11 : Nat), va_P G.1 vwCl ([tc_X7 a0 0 ma rf lk pu tl lo, tc_X6 ma tk mo su lv si ga sl sc fh lh fo ee pn e0 e1 e2 e3 e4 e5 a0, tc_D G e4 10 (vf_upd le (f_Jx4a65c_size_8abf5 (nI n)).toNatClampNeg (FP.i2d p3)), tc_Jx4a65c lo (mc + 1) ed ((nI n) + 1)] ++ tm_L G ed (n + 1) (vf_upd ad n q_11) (vf_upd rc n (upd (upd (upd (upd (upd (fun _ => (0 : Int32)) (0 : Int32).toNatClampNeg p1) (1 : Int32).toNatClampNeg p2) (2 : Int32).toNatClampNeg p3) (3 : Int32).toNatClampNeg ((tk / 48) + p4)) (4 : Int32).toNatClampNeg 0))) t.heap ∧ va_D (va_A ([tc_X7 a0 th ma rf lk pu tl lo, tc_X6 ma tk mo su lv si ga sl sc fh lh fo ee pn e0 e1 e2 e3 e4 e5 a0, tc_D G e4 10 le, tc_Jx4a65c lo mc ed (nI n)] ++ tm_L G ed n ad rc) sz) ([tc_X7 a0 0 ma rf lk pu tl lo, tc_X6 ma tk mo su lv si ga sl sc fh lh fo ee pn e0 e1 e2 e3 e4 e5 a0, tc_D G e4 10 (vf_upd le (f_Jx4a65c_size_8abf5 (nI n)).toNatClampNeg (FP.i2d p3)), tc_Jx4a65c lo (mc + 1) ed ((nI n) + 1)] ++ tm_L G ed (n + 1) (vf_upd ad n q_11) (vf_upd rc n (upd (upd (upd (upd (upd (fun _ => (0 : Int32)) (0 : Int32).toNatClampNeg p1) (1 : Int32).toNatClampNeg p2) (2 : Int32).toNatClampNeg p3) (3 : Int32).toNatClampNeg ((tk / 48) + p4)) (4 : Int32).toNatClampNeg 0)))) (va_A ([tc_X7 a0 th ma rf lk pu tl lo, tc_X6 ma tk mo su lv si ga sl sc fh lh fo ee pn e0 e1 e2 e3 e4 e5 a0, tc_D G e4 10 le, tc_Jx4a65c lo mc ed (nI n)] ++ tm_L G ed n ad rc) sz)) 1 5 (va_A ([tc_X7 a0 th ma rf lk pu tl lo, tc_X6 ma tk mo su lv si ga sl sc fh lh fo ee pn e0 e1 e2 e3 e4 e5 a0, tc_D G e4 10 le, tc_Jx4a65c lo mc ed (nI n)] ++ tm_L G ed n ad rc) sz) := by
  refine Met.ofW (cc := cX7_lot) (maxL := 6) (ret := (some .int)) (by decide) rfl ?_
  intro p e s m args below meth c s₁ B hml hv
  obtain ⟨rfl, hsz, hP, hK, hD0, hN, hV⟩ := hv
  have hx := B.exec
  have hb := B.bytes
  have hr := B.returns
  have hts := atoms_spec (ws := wsX7_lot) B.pre
  have hown : s.vm.findClass RX7 = some m.cls := findClass_of_methodNamed B.named
  have hlocks := B.notSynchronized
  subst hsz
  obtain ⟨na_0, na_1, na_2, na_3, na_4, n_12, n_13, n_14, n_15, n_16, n_18, n_19⟩ := hn
  have hiX6 : ∀ w ∈ u_ws RX6 TX6 20, w ∈ wsX7_lot := fun _ h => List.mem_cons_of_mem _ (List.mem_append_left _ (List.mem_append_right _ h))
  have hiX7 : ∀ w ∈ u_ws RX7 TX7 7, w ∈ wsX7_lot := fun _ h => List.mem_cons_of_mem _ (List.mem_append_left _ (List.mem_append_left _ (List.mem_append_right _ h)))
  have hD := hD0.self (sz := s.heap.size)
  generalize hAe : va_A ([tc_X7 a0 th ma rf lk pu tl lo, tc_X6 ma tk mo su lv si ga sl sc fh lh fo ee pn e0 e1 e2 e3 e4 e5 a0, tc_D G e4 10 le, tc_Jx4a65c lo mc ed (nI n)] ++ tm_L G ed n ad rc) s.heap.size = A at hD hV ⊢
  have hA : ∀ q : Nat, s.heap.size ≤ q → A q := fun q h => by rw [← hAe]; exact Or.inr h
  have hS : va_S A s.heap s.heap [] := va_S.rf
  have hl := lv_entry ([.ref a0, .int p1, .int p2, .int p3, .int p4]) (n := 6) (Nat.le_of_ble_eq_true rfl)
  rw [lg_entry_eq]
  generalize (lg_sl ([.ref a0, .int p1, .int p2, .int p3, .int p4]) ++ List.replicate (6 - (lg_sl ([.ref a0, .int p1, .int p2, .int p3, .int p4])).length) Slot.unset).toArray = ls at hl ⊢
  have hl : lv_has ls 6 [(0, .ref a0), (1, .int p1), (2, .int p2), (3, .int p3), (4, .int p4)] := hl
  refine lv_aload_n hx hb dX7_lot_0 rfl (lv_at hl 0 rfl) ?_
  refine lv_iconst (v := 0) hx hb dX7_lot_1 (by decide) ?_
  refine va_put (D := G.1) (ci := 8) (v := .int 0) (ty := .int) (C := RX7) (T := TX7) (N := 7) hx hb hts hiX7 tyX7 tyX7_ok nmX7 hown hK hP hD hS 0 rfl rfl 0 (by decide) (hts (.fieldLink RX7 25 "TideMillModel" "thrown" "I") (List.mem_of_getElem? (i := 1) rfl)) (fun _ h9 => h9) rfl (by decide +kernel) rfl rfl (Nat.le_of_ble_eq_true rfl) dX7_lot_2 (fun H locs hP hD hS => ?_)
  have hP : va_P G.1 vwCl ([tc_X7 a0 0 ma rf lk pu tl lo, tc_X6 ma tk mo su lv si ga sl sc fh lh fo ee pn e0 e1 e2 e3 e4 e5 a0, tc_D G e4 10 le, tc_Jx4a65c lo mc ed (nI n)] ++ tm_L G ed n ad rc) H := hP
  have hD : va_D A ([tc_X7 a0 0 ma rf lk pu tl lo, tc_X6 ma tk mo su lv si ga sl sc fh lh fo ee pn e0 e1 e2 e3 e4 e5 a0, tc_D G e4 10 le, tc_Jx4a65c lo mc ed (nI n)] ++ tm_L G ed n ad rc) := hD
  refine lv_iload_n hx hb dX7_lot_5 rfl (lv_at hl 1 rfl) ?_
  refine lv_iconst (v := 0) hx hb dX7_lot_6 (by decide) ?_
  refine lv_iconst (v := 3) hx hb dX7_lot_7 (by decide) ?_
  have hPc := hP.sub (ws' := []) [] rfl
  have hDc := hD.sub (ws' := []) [] (by decide) rfl
  have hFc := va_free (wc := []) hD hS hA [] rfl
  refine va_calli (va_runS (As := [.int p1, .int 0, .int 3]) (rest := []) ⟨hx, hb, hml, hown, hts⟩ (c_X7_in l G  H.size p1 0 3 ) (cwS 3 hts gX7_lot_X7_in rfl rfl rfl (by decide +kernel) ⟨(Nat.le_of_ble_eq_true rfl), (Nat.le_of_ble_eq_true rfl)⟩) (tm_preS hK hN hV hS hPc hDc hFc) rfl rfl hl.1 rfl (lv_room (Nat.le_of_ble_eq_true rfl)) dX7_lot_8 ⟨(Nat.le_of_ble_eq_true rfl), (Nat.le_of_ble_eq_true rfl)⟩) hS (fun q _ h => hFc q h) hFc (fun r_1 u t H locs ht hvm hw_1 hB hz1 hk1 hS => ?_)
  obtain ⟨hP1, hD1⟩ := hB
  rw [ht] at hP1
  try dsimp only at hw_1
  obtain ⟨hP, hD⟩ := va_joinQ (X := [tc_X7 a0 0 ma rf lk pu tl lo, tc_X6 ma tk mo su lv si ga sl sc fh lh fo ee pn e0 e1 e2 e3 e4 e5 a0, tc_D G e4 10 le, tc_Jx4a65c lo mc ed (nI n)]) (cx := []) (wr := [tc_X7 a0 0 ma rf lk pu tl lo, tc_X6 ma tk mo su lv si ga sl sc fh lh fo ee pn e0 e1 e2 e3 e4 e5 a0, tc_D G e4 10 le, tc_Jx4a65c lo mc ed (nI n)]) (w1 := []) (pl := tm_L G ed n ad rc) hP hD [] [0, 1, 2, 3] rfl rfl (by decide) (by decide) hk1 hFc hP1 hD1
  have hP : va_P G.1 vwCl ([tc_X7 a0 0 ma rf lk pu tl lo, tc_X6 ma tk mo su lv si ga sl sc fh lh fo ee pn e0 e1 e2 e3 e4 e5 a0, tc_D G e4 10 le, tc_Jx4a65c lo mc ed (nI n)] ++ tm_L G ed n ad rc) H := hP
  have hD : va_D A ([tc_X7 a0 0 ma rf lk pu tl lo, tc_X6 ma tk mo su lv si ga sl sc fh lh fo ee pn e0 e1 e2 e3 e4 e5 a0, tc_D G e4 10 le, tc_Jx4a65c lo mc ed (nI n)] ++ tm_L G ed n ad rc) := hD
  subst r_1
  refine lv_if_eq (tgt := 44) hx hb dX7_lot_11 (by decide) (fun c_2 => ?_) (fun c_2 => ?_)
  · exact absurd c_2 na_0
  · refine lv_iload_n hx hb dX7_lot_14 rfl (lv_at hl 2 rfl) ?_
    refine lv_iconst (v := 0) hx hb dX7_lot_15 (by decide) ?_
    refine lv_iconst (v := 2) hx hb dX7_lot_16 (by decide) ?_
    have hPc := hP.sub (ws' := []) [] rfl
    have hDc := hD.sub (ws' := []) [] (by decide) rfl
    have hFc := va_free (wc := []) hD hS hA [] rfl
    refine va_calli (va_runS (As := [.int p2, .int 0, .int 2]) (rest := []) ⟨hx, hb, hml, hown, hts⟩ (c_X7_in l G  H.size p2 0 2 ) (cwS 3 hts gX7_lot_X7_in rfl rfl rfl (by decide +kernel) ⟨(Nat.le_of_ble_eq_true rfl), (Nat.le_of_ble_eq_true rfl)⟩) (tm_preS hK hN hV hS hPc hDc hFc) rfl rfl hl.1 rfl (lv_room (Nat.le_of_ble_eq_true rfl)) dX7_lot_17 ⟨(Nat.le_of_ble_eq_true rfl), (Nat.le_of_ble_eq_true rfl)⟩) hS (fun q _ h => hFc q h) hFc (fun r_3 u t H locs ht hvm hw_3 hB hz1 hk1 hS => ?_)
    obtain ⟨hP1, hD1⟩ := hB
    rw [ht] at hP1
    try dsimp only at hw_3
    obtain ⟨hP, hD⟩ := va_joinQ (X := [tc_X7 a0 0 ma rf lk pu tl lo, tc_X6 ma tk mo su lv si ga sl sc fh lh fo ee pn e0 e1 e2 e3 e4 e5 a0, tc_D G e4 10 le, tc_Jx4a65c lo mc ed (nI n)]) (cx := []) (wr := [tc_X7 a0 0 ma rf lk pu tl lo, tc_X6 ma tk mo su lv si ga sl sc fh lh fo ee pn e0 e1 e2 e3 e4 e5 a0, tc_D G e4 10 le, tc_Jx4a65c lo mc ed (nI n)]) (w1 := []) (pl := tm_L G ed n ad rc) hP hD [] [0, 1, 2, 3] rfl rfl (by decide) (by decide) hk1 hFc hP1 hD1
    have hP : va_P G.1 vwCl ([tc_X7 a0 0 ma rf lk pu tl lo, tc_X6 ma tk mo su lv si ga sl sc fh lh fo ee pn e0 e1 e2 e3 e4 e5 a0, tc_D G e4 10 le, tc_Jx4a65c lo mc ed (nI n)] ++ tm_L G ed n ad rc) H := hP
    have hD : va_D A ([tc_X7 a0 0 ma rf lk pu tl lo, tc_X6 ma tk mo su lv si ga sl sc fh lh fo ee pn e0 e1 e2 e3 e4 e5 a0, tc_D G e4 10 le, tc_Jx4a65c lo mc ed (nI n)] ++ tm_L G ed n ad rc) := hD
    subst r_3
    refine lv_if_eq (tgt := 44) hx hb dX7_lot_20 (by decide) (fun c_4 => ?_) (fun c_4 => ?_)
    · exact absurd c_4 na_1
    · refine lv_iload_n hx hb dX7_lot_23 rfl (lv_at hl 3 rfl) ?_
      refine lv_iconst (v := 1) hx hb dX7_lot_24 (by decide) ?_
      refine lv_bipush (v := 60) hx hb dX7_lot_25 (by decide) ?_
      have hPc := hP.sub (ws' := []) [] rfl
      have hDc := hD.sub (ws' := []) [] (by decide) rfl
      have hFc := va_free (wc := []) hD hS hA [] rfl
      refine va_calli (va_runS (As := [.int p3, .int 1, .int 60]) (rest := []) ⟨hx, hb, hml, hown, hts⟩ (c_X7_in l G  H.size p3 1 60 ) (cwS 3 hts gX7_lot_X7_in rfl rfl rfl (by decide +kernel) ⟨(Nat.le_of_ble_eq_true rfl), (Nat.le_of_ble_eq_true rfl)⟩) (tm_preS hK hN hV hS hPc hDc hFc) rfl rfl hl.1 rfl (lv_room (Nat.le_of_ble_eq_true rfl)) dX7_lot_27 ⟨(Nat.le_of_ble_eq_true rfl), (Nat.le_of_ble_eq_true rfl)⟩) hS (fun q _ h => hFc q h) hFc (fun r_5 u t H locs ht hvm hw_5 hB hz1 hk1 hS => ?_)
      obtain ⟨hP1, hD1⟩ := hB
      rw [ht] at hP1
      try dsimp only at hw_5
      obtain ⟨hP, hD⟩ := va_joinQ (X := [tc_X7 a0 0 ma rf lk pu tl lo, tc_X6 ma tk mo su lv si ga sl sc fh lh fo ee pn e0 e1 e2 e3 e4 e5 a0, tc_D G e4 10 le, tc_Jx4a65c lo mc ed (nI n)]) (cx := []) (wr := [tc_X7 a0 0 ma rf lk pu tl lo, tc_X6 ma tk mo su lv si ga sl sc fh lh fo ee pn e0 e1 e2 e3 e4 e5 a0, tc_D G e4 10 le, tc_Jx4a65c lo mc ed (nI n)]) (w1 := []) (pl := tm_L G ed n ad rc) hP hD [] [0, 1, 2, 3] rfl rfl (by decide) (by decide) hk1 hFc hP1 hD1
      have hP : va_P G.1 vwCl ([tc_X7 a0 0 ma rf lk pu tl lo, tc_X6 ma tk mo su lv si ga sl sc fh lh fo ee pn e0 e1 e2 e3 e4 e5 a0, tc_D G e4 10 le, tc_Jx4a65c lo mc ed (nI n)] ++ tm_L G ed n ad rc) H := hP
      have hD : va_D A ([tc_X7 a0 0 ma rf lk pu tl lo, tc_X6 ma tk mo su lv si ga sl sc fh lh fo ee pn e0 e1 e2 e3 e4 e5 a0, tc_D G e4 10 le, tc_Jx4a65c lo mc ed (nI n)] ++ tm_L G ed n ad rc) := hD
      subst r_5
      refine lv_if_eq (tgt := 44) hx hb dX7_lot_30 (by decide) (fun c_6 => ?_) (fun c_6 => ?_)
      · exact absurd c_6 na_2
      · refine lv_iload hx hb dX7_lot_33 (lv_at hl 4 rfl) ?_
        refine lv_iconst (v := 0) hx hb dX7_lot_35 (by decide) ?_
        refine lv_bipush (v := 30) hx hb dX7_lot_36 (by decide) ?_
        have hPc := hP.sub (ws' := []) [] rfl
        have hDc := hD.sub (ws' := []) [] (by decide) rfl
        have hFc := va_free (wc := []) hD hS hA [] rfl
        refine va_calli (va_runS (As := [.int p4, .int 0, .int 30]) (rest := []) ⟨hx, hb, hml, hown, hts⟩ (c_X7_in l G  H.size p4 0 30 ) (cwS 3 hts gX7_lot_X7_in rfl rfl rfl (by decide +kernel) ⟨(Nat.le_of_ble_eq_true rfl), (Nat.le_of_ble_eq_true rfl)⟩) (tm_preS hK hN hV hS hPc hDc hFc) rfl rfl hl.1 rfl (lv_room (Nat.le_of_ble_eq_true rfl)) dX7_lot_38 ⟨(Nat.le_of_ble_eq_true rfl), (Nat.le_of_ble_eq_true rfl)⟩) hS (fun q _ h => hFc q h) hFc (fun r_7 u t H locs ht hvm hw_7 hB hz1 hk1 hS => ?_)
        obtain ⟨hP1, hD1⟩ := hB
        rw [ht] at hP1
        try dsimp only at hw_7
        obtain ⟨hP, hD⟩ := va_joinQ (X := [tc_X7 a0 0 ma rf lk pu tl lo, tc_X6 ma tk mo su lv si ga sl sc fh lh fo ee pn e0 e1 e2 e3 e4 e5 a0, tc_D G e4 10 le, tc_Jx4a65c lo mc ed (nI n)]) (cx := []) (wr := [tc_X7 a0 0 ma rf lk pu tl lo, tc_X6 ma tk mo su lv si ga sl sc fh lh fo ee pn e0 e1 e2 e3 e4 e5 a0, tc_D G e4 10 le, tc_Jx4a65c lo mc ed (nI n)]) (w1 := []) (pl := tm_L G ed n ad rc) hP hD [] [0, 1, 2, 3] rfl rfl (by decide) (by decide) hk1 hFc hP1 hD1
        have hP : va_P G.1 vwCl ([tc_X7 a0 0 ma rf lk pu tl lo, tc_X6 ma tk mo su lv si ga sl sc fh lh fo ee pn e0 e1 e2 e3 e4 e5 a0, tc_D G e4 10 le, tc_Jx4a65c lo mc ed (nI n)] ++ tm_L G ed n ad rc) H := hP
        have hD : va_D A ([tc_X7 a0 0 ma rf lk pu tl lo, tc_X6 ma tk mo su lv si ga sl sc fh lh fo ee pn e0 e1 e2 e3 e4 e5 a0, tc_D G e4 10 le, tc_Jx4a65c lo mc ed (nI n)] ++ tm_L G ed n ad rc) := hD
        subst r_7
        refine lv_if_ne (tgt := 50) hx hb dX7_lot_41 (by decide) (fun c_8 => ?_) (fun c_8 => ?_)
        · refine lv_aload_n hx hb dX7_lot_50 rfl (lv_at hl 0 rfl) ?_
          refine va_get (D := G.1) (ci := 8) (v := .ref lo) (C := RX7) (T := TX7) (N := 7) hx hb hts hiX7 hown hK hP 0 rfl rfl 6 (by decide) (hts (.fieldLink RX7 21 "TideMillModel" "lots" "Ljava/util/List;") (List.mem_of_getElem? (i := 2) rfl)) (fun _ h9 => h9) rfl dX7_lot_51 ?_
          have hPc := hP.sub (ws' := [tc_Jx4a65c lo mc ed (nI n)]) [3] rfl
          have hDc := hD.sub (ws' := [tc_Jx4a65c lo mc ed (nI n)]) [3] (by decide) rfl
          have hFc := va_free (wc := [tc_Jx4a65c lo mc ed (nI n)]) hD hS hA [3] rfl
          refine va_callFi (va_runF (As := []) (rest := []) (hK.1 0 (RJx4a65c, TJx4a65c, 3) rfl).2 ⟨hx, hb, hml, hown, hts⟩ (c_Jx4a65c_size_8abf5 l G lo ed H.size mc (nI n) ) (va_cwF 0 hts gX7_lot_Jx4a65c_size_8abf5_f29Jx4a65c rfl rfl rfl (hN.2.2.2.2.1 (⟨"java/util/List", "size", "()I"⟩, yJx4a65c_size_8abf5) (List.mem_of_getElem? (i := 0) rfl)) (by decide +kernel) ⟨(Nat.le_of_ble_eq_true rfl), (Nat.le_of_ble_eq_true rfl)⟩) (tm_preV hK hN hV hS hPc hDc hFc (va_recv hK hPc (ci := 0) (q0 := 0) rfl rfl)) rfl rfl hl.1 rfl (lv_room (Nat.le_of_ble_eq_true rfl)) dX7_lot_54 ⟨(Nat.le_of_ble_eq_true rfl), (Nat.le_of_ble_eq_true rfl)⟩) hS (fun q _ h => hFc q h) hFc (fun r_9 u t H locs ht hvm hw_9 hB hz1 hk1 hS => ?_)
          obtain ⟨hP1, hD1⟩ := hB
          rw [ht] at hP1
          try dsimp only at hw_9
          obtain ⟨hP, hD⟩ := va_joinQ (X := [tc_X7 a0 0 ma rf lk pu tl lo, tc_X6 ma tk mo su lv si ga sl sc fh lh fo ee pn e0 e1 e2 e3 e4 e5 a0, tc_D G e4 10 le, tc_Jx4a65c lo mc ed (nI n)]) (cx := [tc_Jx4a65c lo mc ed (nI n)]) (wr := [tc_X7 a0 0 ma rf lk pu tl lo, tc_X6 ma tk mo su lv si ga sl sc fh lh fo ee pn e0 e1 e2 e3 e4 e5 a0, tc_D G e4 10 le]) (w1 := [tc_Jx4a65c lo mc ed (nI n)]) (pl := tm_L G ed n ad rc) hP hD [3] [0, 1, 2] rfl rfl (by decide) (by decide) hk1 hFc hP1 hD1
          have hP : va_P G.1 vwCl ([tc_X7 a0 0 ma rf lk pu tl lo, tc_X6 ma tk mo su lv si ga sl sc fh lh fo ee pn e0 e1 e2 e3 e4 e5 a0, tc_D G e4 10 le, tc_Jx4a65c lo mc ed (nI n)] ++ tm_L G ed n ad rc) H := hP
          have hD : va_D A ([tc_X7 a0 0 ma rf lk pu tl lo, tc_X6 ma tk mo su lv si ga sl sc fh lh fo ee pn e0 e1 e2 e3 e4 e5 a0, tc_D G e4 10 le, tc_Jx4a65c lo mc ed (nI n)] ++ tm_L G ed n ad rc) := hD
          subst r_9
          refine lv_bipush (v := 10) hx hb dX7_lot_59 (by decide) ?_
          refine lv_icmp_ne (tgt := 70) hx hb dX7_lot_61 (by decide) (fun c_10 => ?_) (fun c_10 => ?_)
          · refine lv_iconst (v := 5) hx hb dX7_lot_70 (by decide) ?_
            refine va_newa (atype := .int) hx hb (hts (.arrayClass .int) (List.mem_of_getElem? (i := 3) rfl)) (ty := .int) rfl hK hP hD hS hA (N' := 5) (a0 := (5, .inl (fun _ => (0 : Int32)))) (fun _ => rfl) (by decide) (by decide) (Nat.le_of_ble_eq_true rfl) (Nat.le_of_ble_eq_true rfl) (Nat.le_of_ble_eq_true rfl) dX7_lot_71 (fun q_11 cA H hK9 hP hD hS => ?_)
            obtain rfl : cA = G.2.1 := tm_cA_I hK9
            replace hP := tm_swapP hP; replace hD := tm_swapD hD
            have hP : va_P G.1 vwCl ([tc_X7 a0 0 ma rf lk pu tl lo, tc_X6 ma tk mo su lv si ga sl sc fh lh fo ee pn e0 e1 e2 e3 e4 e5 a0, tc_D G e4 10 le, tc_Jx4a65c lo mc ed (nI n), tc_I G q_11 5 (fun _ => (0 : Int32))] ++ tm_L G ed n ad rc) H := hP
            have hD : va_D A ([tc_X7 a0 0 ma rf lk pu tl lo, tc_X6 ma tk mo su lv si ga sl sc fh lh fo ee pn e0 e1 e2 e3 e4 e5 a0, tc_D G e4 10 le, tc_Jx4a65c lo mc ed (nI n), tc_I G q_11 5 (fun _ => (0 : Int32))] ++ tm_L G ed n ad rc) := hD
            refine W.widen (k := 1) (n := 5) (Nat.le_of_ble_eq_true rfl) (Nat.le_of_ble_eq_true rfl) ?_
            refine lv_dup hx hb dX7_lot_73 rfl ?_
            refine lv_iconst (v := 0) hx hb dX7_lot_74 (by decide) ?_
            refine lv_iload_n hx hb dX7_lot_75 rfl (lv_at hl 1 rfl) ?_
            refine va_iast (n := 5) (f := fun _ => (0 : Int32)) hx hb hK hP hD hS 4 0 rfl rfl n_12 dX7_lot_76 (fun H locs hP hD hS => ?_)
            have hP : va_P G.1 vwCl ([tc_X7 a0 0 ma rf lk pu tl lo, tc_X6 ma tk mo su lv si ga sl sc fh lh fo ee pn e0 e1 e2 e3 e4 e5 a0, tc_D G e4 10 le, tc_Jx4a65c lo mc ed (nI n), tc_I G q_11 5 (upd (fun _ => (0 : Int32)) (0 : Int32).toNatClampNeg p1)] ++ tm_L G ed n ad rc) H := hP
            have hD : va_D A ([tc_X7 a0 0 ma rf lk pu tl lo, tc_X6 ma tk mo su lv si ga sl sc fh lh fo ee pn e0 e1 e2 e3 e4 e5 a0, tc_D G e4 10 le, tc_Jx4a65c lo mc ed (nI n), tc_I G q_11 5 (upd (fun _ => (0 : Int32)) (0 : Int32).toNatClampNeg p1)] ++ tm_L G ed n ad rc) := hD
            refine lv_dup hx hb dX7_lot_77 rfl ?_
            refine lv_iconst (v := 1) hx hb dX7_lot_78 (by decide) ?_
            refine lv_iload_n hx hb dX7_lot_79 rfl (lv_at hl 2 rfl) ?_
            refine va_iast (n := 5) (f := upd (fun _ => (0 : Int32)) (0 : Int32).toNatClampNeg p1) hx hb hK hP hD hS 4 0 rfl rfl n_13 dX7_lot_80 (fun H locs hP hD hS => ?_)
            have hP : va_P G.1 vwCl ([tc_X7 a0 0 ma rf lk pu tl lo, tc_X6 ma tk mo su lv si ga sl sc fh lh fo ee pn e0 e1 e2 e3 e4 e5 a0, tc_D G e4 10 le, tc_Jx4a65c lo mc ed (nI n), tc_I G q_11 5 (upd (upd (fun _ => (0 : Int32)) (0 : Int32).toNatClampNeg p1) (1 : Int32).toNatClampNeg p2)] ++ tm_L G ed n ad rc) H := hP
            have hD : va_D A ([tc_X7 a0 0 ma rf lk pu tl lo, tc_X6 ma tk mo su lv si ga sl sc fh lh fo ee pn e0 e1 e2 e3 e4 e5 a0, tc_D G e4 10 le, tc_Jx4a65c lo mc ed (nI n), tc_I G q_11 5 (upd (upd (fun _ => (0 : Int32)) (0 : Int32).toNatClampNeg p1) (1 : Int32).toNatClampNeg p2)] ++ tm_L G ed n ad rc) := hD
            refine lv_dup hx hb dX7_lot_81 rfl ?_
            refine lv_iconst (v := 2) hx hb dX7_lot_82 (by decide) ?_
            refine lv_iload_n hx hb dX7_lot_83 rfl (lv_at hl 3 rfl) ?_
            refine va_iast (n := 5) (f := upd (upd (fun _ => (0 : Int32)) (0 : Int32).toNatClampNeg p1) (1 : Int32).toNatClampNeg p2) hx hb hK hP hD hS 4 0 rfl rfl n_14 dX7_lot_84 (fun H locs hP hD hS => ?_)
            have hP : va_P G.1 vwCl ([tc_X7 a0 0 ma rf lk pu tl lo, tc_X6 ma tk mo su lv si ga sl sc fh lh fo ee pn e0 e1 e2 e3 e4 e5 a0, tc_D G e4 10 le, tc_Jx4a65c lo mc ed (nI n), tc_I G q_11 5 (upd (upd (upd (fun _ => (0 : Int32)) (0 : Int32).toNatClampNeg p1) (1 : Int32).toNatClampNeg p2) (2 : Int32).toNatClampNeg p3)] ++ tm_L G ed n ad rc) H := hP
            have hD : va_D A ([tc_X7 a0 0 ma rf lk pu tl lo, tc_X6 ma tk mo su lv si ga sl sc fh lh fo ee pn e0 e1 e2 e3 e4 e5 a0, tc_D G e4 10 le, tc_Jx4a65c lo mc ed (nI n), tc_I G q_11 5 (upd (upd (upd (fun _ => (0 : Int32)) (0 : Int32).toNatClampNeg p1) (1 : Int32).toNatClampNeg p2) (2 : Int32).toNatClampNeg p3)] ++ tm_L G ed n ad rc) := hD
            refine lv_dup hx hb dX7_lot_85 rfl ?_
            refine lv_iconst (v := 3) hx hb dX7_lot_86 (by decide) ?_
            refine lv_aload_n hx hb dX7_lot_87 rfl (lv_at hl 0 rfl) ?_
            refine va_get (D := G.1) (ci := 8) (v := .ref ma) (C := RX7) (T := TX7) (N := 7) hx hb hts hiX7 hown hK hP 0 rfl rfl 1 (by decide) (hts (.fieldLink RX7 12 "TideMillModel" "mill" "LTideMillModel$Mill;") (List.mem_of_getElem? (i := 4) rfl)) (fun _ h9 => h9) rfl dX7_lot_88 ?_
            refine va_get (D := G.1) (ci := 7) (v := .int tk) (C := RX6) (T := TX6) (N := 20) hx hb hts hiX6 hown hK hP 1 rfl rfl 0 (by decide) (hts (.fieldLink RX7 59 "TideMillModel$Mill" "tick" "I") (List.mem_of_getElem? (i := 5) rfl)) (fun _ h9 => h9) rfl dX7_lot_91 ?_
            refine lv_bipush (v := 48) hx hb dX7_lot_94 (by decide) ?_
            refine lv_idiv hx hb dX7_lot_96 (by decide) ?_
            refine lv_iload hx hb dX7_lot_97 (lv_at hl 4 rfl) ?_
            refine lv_iadd hx hb dX7_lot_99 ?_
            refine va_iast (n := 5) (f := upd (upd (upd (fun _ => (0 : Int32)) (0 : Int32).toNatClampNeg p1) (1 : Int32).toNatClampNeg p2) (2 : Int32).toNatClampNeg p3) hx hb hK hP hD hS 4 0 rfl rfl n_15 dX7_lot_100 (fun H locs hP hD hS => ?_)
            have hP : va_P G.1 vwCl ([tc_X7 a0 0 ma rf lk pu tl lo, tc_X6 ma tk mo su lv si ga sl sc fh lh fo ee pn e0 e1 e2 e3 e4 e5 a0, tc_D G e4 10 le, tc_Jx4a65c lo mc ed (nI n), tc_I G q_11 5 (upd (upd (upd (upd (fun _ => (0 : Int32)) (0 : Int32).toNatClampNeg p1) (1 : Int32).toNatClampNeg p2) (2 : Int32).toNatClampNeg p3) (3 : Int32).toNatClampNeg ((tk / 48) + p4))] ++ tm_L G ed n ad rc) H := hP
            have hD : va_D A ([tc_X7 a0 0 ma rf lk pu tl lo, tc_X6 ma tk mo su lv si ga sl sc fh lh fo ee pn e0 e1 e2 e3 e4 e5 a0, tc_D G e4 10 le, tc_Jx4a65c lo mc ed (nI n), tc_I G q_11 5 (upd (upd (upd (upd (fun _ => (0 : Int32)) (0 : Int32).toNatClampNeg p1) (1 : Int32).toNatClampNeg p2) (2 : Int32).toNatClampNeg p3) (3 : Int32).toNatClampNeg ((tk / 48) + p4))] ++ tm_L G ed n ad rc) := hD
            refine lv_dup hx hb dX7_lot_101 rfl ?_
            refine lv_iconst (v := 4) hx hb dX7_lot_102 (by decide) ?_
            refine lv_iconst (v := 0) hx hb dX7_lot_103 (by decide) ?_
            refine va_iast (n := 5) (f := upd (upd (upd (upd (fun _ => (0 : Int32)) (0 : Int32).toNatClampNeg p1) (1 : Int32).toNatClampNeg p2) (2 : Int32).toNatClampNeg p3) (3 : Int32).toNatClampNeg ((tk / 48) + p4)) hx hb hK hP hD hS 4 0 rfl rfl n_16 dX7_lot_104 (fun H locs hP hD hS => ?_)
            have hP : va_P G.1 vwCl ([tc_X7 a0 0 ma rf lk pu tl lo, tc_X6 ma tk mo su lv si ga sl sc fh lh fo ee pn e0 e1 e2 e3 e4 e5 a0, tc_D G e4 10 le, tc_Jx4a65c lo mc ed (nI n), tc_I G q_11 5 (upd (upd (upd (upd (upd (fun _ => (0 : Int32)) (0 : Int32).toNatClampNeg p1) (1 : Int32).toNatClampNeg p2) (2 : Int32).toNatClampNeg p3) (3 : Int32).toNatClampNeg ((tk / 48) + p4)) (4 : Int32).toNatClampNeg 0)] ++ tm_L G ed n ad rc) H := hP
            have hD : va_D A ([tc_X7 a0 0 ma rf lk pu tl lo, tc_X6 ma tk mo su lv si ga sl sc fh lh fo ee pn e0 e1 e2 e3 e4 e5 a0, tc_D G e4 10 le, tc_Jx4a65c lo mc ed (nI n), tc_I G q_11 5 (upd (upd (upd (upd (upd (fun _ => (0 : Int32)) (0 : Int32).toNatClampNeg p1) (1 : Int32).toNatClampNeg p2) (2 : Int32).toNatClampNeg p3) (3 : Int32).toNatClampNeg ((tk / 48) + p4)) (4 : Int32).toNatClampNeg 0)] ++ tm_L G ed n ad rc) := hD
            refine lv_astore (lv' := [(5, .ref q_11), (0, .ref a0), (1, .int p1), (2, .int p2), (3, .int p3), (4, .int p4)]) hx hb dX7_lot_105 hl (by decide) rfl (fun ls hl => ?_)
            refine lv_aload_n hx hb dX7_lot_107 rfl (lv_at hl 1 rfl) ?_
            refine va_get (D := G.1) (ci := 8) (v := .ref ma) (C := RX7) (T := TX7) (N := 7) hx hb hts hiX7 hown hK hP 0 rfl rfl 1 (by decide) (hts (.fieldLink RX7 12 "TideMillModel" "mill" "LTideMillModel$Mill;") (List.mem_of_getElem? (i := 4) rfl)) (fun _ h9 => h9) rfl dX7_lot_108 ?_
            refine va_get (D := G.1) (ci := 7) (v := .ref e4) (C := RX6) (T := TX6) (N := 20) hx hb hts hiX6 hown hK hP 1 rfl rfl 17 (by decide) (hts (.fieldLink RX7 104 "TideMillModel$Mill" "left" "[D") (List.mem_of_getElem? (i := 6) rfl)) (fun _ h9 => h9) rfl dX7_lot_111 ?_
            refine lv_aload_n hx hb dX7_lot_114 rfl (lv_at hl 1 rfl) ?_
            refine va_get (D := G.1) (ci := 8) (v := .ref lo) (C := RX7) (T := TX7) (N := 7) hx hb hts hiX7 hown hK hP 0 rfl rfl 6 (by decide) (hts (.fieldLink RX7 21 "TideMillModel" "lots" "Ljava/util/List;") (List.mem_of_getElem? (i := 2) rfl)) (fun _ h9 => h9) rfl dX7_lot_115 ?_
            have hPc := hP.sub (ws' := [tc_Jx4a65c lo mc ed (nI n)]) [3] rfl
            have hDc := hD.sub (ws' := [tc_Jx4a65c lo mc ed (nI n)]) [3] (by decide) rfl
            have hFc := va_free (wc := [tc_Jx4a65c lo mc ed (nI n)]) hD hS hA [3] rfl
            refine va_callFi (va_runF (As := []) (rest := [.ref e4]) (hK.1 0 (RJx4a65c, TJx4a65c, 3) rfl).2 ⟨hx, hb, hml, hown, hts⟩ (c_Jx4a65c_size_8abf5 l G lo ed H.size mc (nI n) ) (va_cwF 0 hts gX7_lot_Jx4a65c_size_8abf5_f29Jx4a65c rfl rfl rfl (hN.2.2.2.2.1 (⟨"java/util/List", "size", "()I"⟩, yJx4a65c_size_8abf5) (List.mem_of_getElem? (i := 0) rfl)) (by decide +kernel) ⟨(Nat.le_of_ble_eq_true rfl), (Nat.le_of_ble_eq_true rfl)⟩) (tm_preV hK hN hV hS hPc hDc hFc (va_recv hK hPc (ci := 0) (q0 := 0) rfl rfl)) rfl rfl hl.1 rfl (lv_room (Nat.le_of_ble_eq_true rfl)) dX7_lot_118 ⟨(Nat.le_of_ble_eq_true rfl), (Nat.le_of_ble_eq_true rfl)⟩) hS (fun q _ h => hFc q h) hFc (fun r_17 u t H locs ht hvm hw_17 hB hz1 hk1 hS => ?_)
            obtain ⟨hP1, hD1⟩ := hB
            rw [ht] at hP1
            try dsimp only at hw_17
            obtain ⟨hP, hD⟩ := va_joinQ (X := [tc_X7 a0 0 ma rf lk pu tl lo, tc_X6 ma tk mo su lv si ga sl sc fh lh fo ee pn e0 e1 e2 e3 e4 e5 a0, tc_D G e4 10 le, tc_Jx4a65c lo mc ed (nI n), tc_I G q_11 5 (upd (upd (upd (upd (upd (fun _ => (0 : Int32)) (0 : Int32).toNatClampNeg p1) (1 : Int32).toNatClampNeg p2) (2 : Int32).toNatClampNeg p3) (3 : Int32).toNatClampNeg ((tk / 48) + p4)) (4 : Int32).toNatClampNeg 0)]) (cx := [tc_Jx4a65c lo mc ed (nI n)]) (wr := [tc_X7 a0 0 ma rf lk pu tl lo, tc_X6 ma tk mo su lv si ga sl sc fh lh fo ee pn e0 e1 e2 e3 e4 e5 a0, tc_D G e4 10 le, tc_I G q_11 5 (upd (upd (upd (upd (upd (fun _ => (0 : Int32)) (0 : Int32).toNatClampNeg p1) (1 : Int32).toNatClampNeg p2) (2 : Int32).toNatClampNeg p3) (3 : Int32).toNatClampNeg ((tk / 48) + p4)) (4 : Int32).toNatClampNeg 0)]) (w1 := [tc_Jx4a65c lo mc ed (nI n)]) (pl := tm_L G ed n ad rc) hP hD [3] [0, 1, 2, 4] rfl rfl (by decide) (by decide) hk1 hFc hP1 hD1
            have hP : va_P G.1 vwCl ([tc_X7 a0 0 ma rf lk pu tl lo, tc_X6 ma tk mo su lv si ga sl sc fh lh fo ee pn e0 e1 e2 e3 e4 e5 a0, tc_D G e4 10 le, tc_I G q_11 5 (upd (upd (upd (upd (upd (fun _ => (0 : Int32)) (0 : Int32).toNatClampNeg p1) (1 : Int32).toNatClampNeg p2) (2 : Int32).toNatClampNeg p3) (3 : Int32).toNatClampNeg ((tk / 48) + p4)) (4 : Int32).toNatClampNeg 0), tc_Jx4a65c lo mc ed (nI n)] ++ tm_L G ed n ad rc) H := hP
            have hD : va_D A ([tc_X7 a0 0 ma rf lk pu tl lo, tc_X6 ma tk mo su lv si ga sl sc fh lh fo ee pn e0 e1 e2 e3 e4 e5 a0, tc_D G e4 10 le, tc_I G q_11 5 (upd (upd (upd (upd (upd (fun _ => (0 : Int32)) (0 : Int32).toNatClampNeg p1) (1 : Int32).toNatClampNeg p2) (2 : Int32).toNatClampNeg p3) (3 : Int32).toNatClampNeg ((tk / 48) + p4)) (4 : Int32).toNatClampNeg 0), tc_Jx4a65c lo mc ed (nI n)] ++ tm_L G ed n ad rc) := hD
            subst r_17
            refine lv_iload_n hx hb dX7_lot_123 rfl (lv_at hl 4 rfl) ?_
            refine lv_i2d hx hb dX7_lot_124 ?_
            refine va_dast (n := 10) (f := le) hx hb hK hP hD hS 2 1 rfl rfl n_18 dX7_lot_125 (fun H locs hP hD hS => ?_)
            have hP : va_P G.1 vwCl ([tc_X7 a0 0 ma rf lk pu tl lo, tc_X6 ma tk mo su lv si ga sl sc fh lh fo ee pn e0 e1 e2 e3 e4 e5 a0, tc_D G e4 10 (vf_upd le (f_Jx4a65c_size_8abf5 (nI n)).toNatClampNeg (FP.i2d p3)), tc_I G q_11 5 (upd (upd (upd (upd (upd (fun _ => (0 : Int32)) (0 : Int32).toNatClampNeg p1) (1 : Int32).toNatClampNeg p2) (2 : Int32).toNatClampNeg p3) (3 : Int32).toNatClampNeg ((tk / 48) + p4)) (4 : Int32).toNatClampNeg 0), tc_Jx4a65c lo mc ed (nI n)] ++ tm_L G ed n ad rc) H := hP
            have hD : va_D A ([tc_X7 a0 0 ma rf lk pu tl lo, tc_X6 ma tk mo su lv si ga sl sc fh lh fo ee pn e0 e1 e2 e3 e4 e5 a0, tc_D G e4 10 (vf_upd le (f_Jx4a65c_size_8abf5 (nI n)).toNatClampNeg (FP.i2d p3)), tc_I G q_11 5 (upd (upd (upd (upd (upd (fun _ => (0 : Int32)) (0 : Int32).toNatClampNeg p1) (1 : Int32).toNatClampNeg p2) (2 : Int32).toNatClampNeg p3) (3 : Int32).toNatClampNeg ((tk / 48) + p4)) (4 : Int32).toNatClampNeg 0), tc_Jx4a65c lo mc ed (nI n)] ++ tm_L G ed n ad rc) := hD
            refine lv_aload_n hx hb dX7_lot_126 rfl (lv_at hl 1 rfl) ?_
            refine va_get (D := G.1) (ci := 8) (v := .ref lo) (C := RX7) (T := TX7) (N := 7) hx hb hts hiX7 hown hK hP 0 rfl rfl 6 (by decide) (hts (.fieldLink RX7 21 "TideMillModel" "lots" "Ljava/util/List;") (List.mem_of_getElem? (i := 2) rfl)) (fun _ h9 => h9) rfl dX7_lot_127 ?_
            refine lv_aload hx hb dX7_lot_130 (lv_at hl 0 rfl) ?_
            have hPc := va_P.part (X := [tc_X7 a0 0 ma rf lk pu tl lo, tc_X6 ma tk mo su lv si ga sl sc fh lh fo ee pn e0 e1 e2 e3 e4 e5 a0, tc_D G e4 10 (vf_upd le (f_Jx4a65c_size_8abf5 (nI n)).toNatClampNeg (FP.i2d p3)), tc_I G q_11 5 (upd (upd (upd (upd (upd (fun _ => (0 : Int32)) (0 : Int32).toNatClampNeg p1) (1 : Int32).toNatClampNeg p2) (2 : Int32).toNatClampNeg p3) (3 : Int32).toNatClampNeg ((tk / 48) + p4)) (4 : Int32).toNatClampNeg 0), tc_Jx4a65c lo mc ed (nI n)]) (cx := [tc_Jx4a65c lo mc ed (nI n), tc_I G q_11 5 (upd (upd (upd (upd (upd (fun _ => (0 : Int32)) (0 : Int32).toNatClampNeg p1) (1 : Int32).toNatClampNeg p2) (2 : Int32).toNatClampNeg p3) (3 : Int32).toNatClampNeg ((tk / 48) + p4)) (4 : Int32).toNatClampNeg 0)]) (pl := tm_L G ed n ad rc) hP [4, 3] rfl
            have hDc := va_D.part (X := [tc_X7 a0 0 ma rf lk pu tl lo, tc_X6 ma tk mo su lv si ga sl sc fh lh fo ee pn e0 e1 e2 e3 e4 e5 a0, tc_D G e4 10 (vf_upd le (f_Jx4a65c_size_8abf5 (nI n)).toNatClampNeg (FP.i2d p3)), tc_I G q_11 5 (upd (upd (upd (upd (upd (fun _ => (0 : Int32)) (0 : Int32).toNatClampNeg p1) (1 : Int32).toNatClampNeg p2) (2 : Int32).toNatClampNeg p3) (3 : Int32).toNatClampNeg ((tk / 48) + p4)) (4 : Int32).toNatClampNeg 0), tc_Jx4a65c lo mc ed (nI n)]) (cx := [tc_Jx4a65c lo mc ed (nI n), tc_I G q_11 5 (upd (upd (upd (upd (upd (fun _ => (0 : Int32)) (0 : Int32).toNatClampNeg p1) (1 : Int32).toNatClampNeg p2) (2 : Int32).toNatClampNeg p3) (3 : Int32).toNatClampNeg ((tk / 48) + p4)) (4 : Int32).toNatClampNeg 0)]) (pl := tm_L G ed n ad rc) hD [4, 3] (by decide) rfl
            have hFc := va_freeP (X := [tc_X7 a0 0 ma rf lk pu tl lo, tc_X6 ma tk mo su lv si ga sl sc fh lh fo ee pn e0 e1 e2 e3 e4 e5 a0, tc_D G e4 10 (vf_upd le (f_Jx4a65c_size_8abf5 (nI n)).toNatClampNeg (FP.i2d p3)), tc_I G q_11 5 (upd (upd (upd (upd (upd (fun _ => (0 : Int32)) (0 : Int32).toNatClampNeg p1) (1 : Int32).toNatClampNeg p2) (2 : Int32).toNatClampNeg p3) (3 : Int32).toNatClampNeg ((tk / 48) + p4)) (4 : Int32).toNatClampNeg 0), tc_Jx4a65c lo mc ed (nI n)]) (cx := [tc_Jx4a65c lo mc ed (nI n), tc_I G q_11 5 (upd (upd (upd (upd (upd (fun _ => (0 : Int32)) (0 : Int32).toNatClampNeg p1) (1 : Int32).toNatClampNeg p2) (2 : Int32).toNatClampNeg p3) (3 : Int32).toNatClampNeg ((tk / 48) + p4)) (4 : Int32).toNatClampNeg 0)]) (pl := tm_L G ed n ad rc) hD hS hA [4, 3] rfl
            refine va_callFi (va_runF (As := [.ref q_11]) (rest := []) (hK.1 0 (RJx4a65c, TJx4a65c, 3) rfl).2 ⟨hx, hb, hml, hown, hts⟩ (c_Jx4a65c_add_9ea2d l G lo ed q_11 H.size mc (upd (upd (upd (upd (upd (fun _ => (0 : Int32)) (0 : Int32).toNatClampNeg p1) (1 : Int32).toNatClampNeg p2) (2 : Int32).toNatClampNeg p3) (3 : Int32).toNatClampNeg ((tk / 48) + p4)) (4 : Int32).toNatClampNeg 0) n ad rc n_19) (va_cwF 1 hts gX7_lot_Jx4a65c_add_9ea2d_f108Jx4a65c rfl rfl rfl (hN.2.2.2.2.1 (⟨"java/util/List", "add", "(Ljava/lang/Object;)Z"⟩, yJx4a65c_add_9ea2d) (List.mem_of_getElem? (i := 2) rfl)) (by decide +kernel) ⟨(Nat.le_of_ble_eq_true rfl), (Nat.le_of_ble_eq_true rfl)⟩) (tm_preV hK hN hV hS hPc hDc hFc (va_recv hK hPc (ci := 0) (q0 := 0) rfl rfl)) rfl rfl hl.1 rfl (lv_room (Nat.le_of_ble_eq_true rfl)) dX7_lot_132 ⟨(Nat.le_of_ble_eq_true rfl), (Nat.le_of_ble_eq_true rfl)⟩) hS (fun q _ h => hFc q h) hFc (fun r_20 u t H locs ht hvm hw_20 hB hz1 hk1 hS => ?_)
            subst r_20
            obtain ⟨hP1, hD1⟩ := hB
            rw [ht] at hP1
            obtain ⟨hP, hD⟩ := va_joinP (X := [tc_X7 a0 0 ma rf lk pu tl lo, tc_X6 ma tk mo su lv si ga sl sc fh lh fo ee pn e0 e1 e2 e3 e4 e5 a0, tc_D G e4 10 (vf_upd le (f_Jx4a65c_size_8abf5 (nI n)).toNatClampNeg (FP.i2d p3)), tc_I G q_11 5 (upd (upd (upd (upd (upd (fun _ => (0 : Int32)) (0 : Int32).toNatClampNeg p1) (1 : Int32).toNatClampNeg p2) (2 : Int32).toNatClampNeg p3) (3 : Int32).toNatClampNeg ((tk / 48) + p4)) (4 : Int32).toNatClampNeg 0), tc_Jx4a65c lo mc ed (nI n)]) (cx := [tc_Jx4a65c lo mc ed (nI n), tc_I G q_11 5 (upd (upd (upd (upd (upd (fun _ => (0 : Int32)) (0 : Int32).toNatClampNeg p1) (1 : Int32).toNatClampNeg p2) (2 : Int32).toNatClampNeg p3) (3 : Int32).toNatClampNeg ((tk / 48) + p4)) (4 : Int32).toNatClampNeg 0)]) (wr := [tc_X7 a0 0 ma rf lk pu tl lo, tc_X6 ma tk mo su lv si ga sl sc fh lh fo ee pn e0 e1 e2 e3 e4 e5 a0, tc_D G e4 10 (vf_upd le (f_Jx4a65c_size_8abf5 (nI n)).toNatClampNeg (FP.i2d p3))]) (rx := [tc_Jx4a65c lo (mc + 1) ed ((nI n) + 1)]) (pl := tm_L G ed n ad rc) (pl1 := tm_L G ed (n + 1) (vf_upd ad n q_11) (vf_upd rc n (upd (upd (upd (upd (upd (fun _ => (0 : Int32)) (0 : Int32).toNatClampNeg p1) (1 : Int32).toNatClampNeg p2) (2 : Int32).toNatClampNeg p3) (3 : Int32).toNatClampNeg ((tk / 48) + p4)) (4 : Int32).toNatClampNeg 0))) hP hD [4, 3] [0, 1, 2] rfl rfl (by decide) (by decide) hk1 hFc hP1 hD1
            have hP : va_P G.1 vwCl ([tc_X7 a0 0 ma rf lk pu tl lo, tc_X6 ma tk mo su lv si ga sl sc fh lh fo ee pn e0 e1 e2 e3 e4 e5 a0, tc_D G e4 10 (vf_upd le (f_Jx4a65c_size_8abf5 (nI n)).toNatClampNeg (FP.i2d p3)), tc_Jx4a65c lo (mc + 1) ed ((nI n) + 1)] ++ tm_L G ed (n + 1) (vf_upd ad n q_11) (vf_upd rc n (upd (upd (upd (upd (upd (fun _ => (0 : Int32)) (0 : Int32).toNatClampNeg p1) (1 : Int32).toNatClampNeg p2) (2 : Int32).toNatClampNeg p3) (3 : Int32).toNatClampNeg ((tk / 48) + p4)) (4 : Int32).toNatClampNeg 0))) H := hP
            have hD : va_D A ([tc_X7 a0 0 ma rf lk pu tl lo, tc_X6 ma tk mo su lv si ga sl sc fh lh fo ee pn e0 e1 e2 e3 e4 e5 a0, tc_D G e4 10 (vf_upd le (f_Jx4a65c_size_8abf5 (nI n)).toNatClampNeg (FP.i2d p3)), tc_Jx4a65c lo (mc + 1) ed ((nI n) + 1)] ++ tm_L G ed (n + 1) (vf_upd ad n q_11) (vf_upd rc n (upd (upd (upd (upd (upd (fun _ => (0 : Int32)) (0 : Int32).toNatClampNeg p1) (1 : Int32).toNatClampNeg p2) (2 : Int32).toNatClampNeg p3) (3 : Int32).toNatClampNeg ((tk / 48) + p4)) (4 : Int32).toNatClampNeg 0))) := hD
            refine lv_pop hx hb dX7_lot_137 rfl ?_
            refine lv_aload_n hx hb dX7_lot_138 rfl (lv_at hl 1 rfl) ?_
            refine va_get (D := G.1) (ci := 8) (v := .ref lo) (C := RX7) (T := TX7) (N := 7) hx hb hts hiX7 hown hK hP 0 rfl rfl 6 (by decide) (hts (.fieldLink RX7 21 "TideMillModel" "lots" "Ljava/util/List;") (List.mem_of_getElem? (i := 2) rfl)) (fun _ h9 => h9) rfl dX7_lot_139 ?_
            have hPc := hP.sub (ws' := [tc_Jx4a65c lo (mc + 1) ed ((nI n) + 1)]) [3] rfl
            have hDc := hD.sub (ws' := [tc_Jx4a65c lo (mc + 1) ed ((nI n) + 1)]) [3] (by decide) rfl
            have hFc := va_free (wc := [tc_Jx4a65c lo (mc + 1) ed ((nI n) + 1)]) hD hS hA [3] rfl
            refine va_callFi (va_runF (As := []) (rest := []) (hK.1 0 (RJx4a65c, TJx4a65c, 3) rfl).2 ⟨hx, hb, hml, hown, hts⟩ (c_Jx4a65c_size_8abf5 l G lo ed H.size (mc + 1) ((nI n) + 1) ) (va_cwF 0 hts gX7_lot_Jx4a65c_size_8abf5_f29Jx4a65c rfl rfl rfl (hN.2.2.2.2.1 (⟨"java/util/List", "size", "()I"⟩, yJx4a65c_size_8abf5) (List.mem_of_getElem? (i := 0) rfl)) (by decide +kernel) ⟨(Nat.le_of_ble_eq_true rfl), (Nat.le_of_ble_eq_true rfl)⟩) (tm_preV hK hN hV hS hPc hDc hFc (va_recv hK hPc (ci := 0) (q0 := 0) rfl rfl)) rfl rfl hl.1 rfl (lv_room (Nat.le_of_ble_eq_true rfl)) dX7_lot_142 ⟨(Nat.le_of_ble_eq_true rfl), (Nat.le_of_ble_eq_true rfl)⟩) hS (fun q _ h => hFc q h) hFc (fun r_21 u t H locs ht hvm hw_21 hB hz1 hk1 hS => ?_)
            obtain ⟨hP1, hD1⟩ := hB
            rw [ht] at hP1
            try dsimp only at hw_21
            obtain ⟨hP, hD⟩ := va_joinQ (X := [tc_X7 a0 0 ma rf lk pu tl lo, tc_X6 ma tk mo su lv si ga sl sc fh lh fo ee pn e0 e1 e2 e3 e4 e5 a0, tc_D G e4 10 (vf_upd le (f_Jx4a65c_size_8abf5 (nI n)).toNatClampNeg (FP.i2d p3)), tc_Jx4a65c lo (mc + 1) ed ((nI n) + 1)]) (cx := [tc_Jx4a65c lo (mc + 1) ed ((nI n) + 1)]) (wr := [tc_X7 a0 0 ma rf lk pu tl lo, tc_X6 ma tk mo su lv si ga sl sc fh lh fo ee pn e0 e1 e2 e3 e4 e5 a0, tc_D G e4 10 (vf_upd le (f_Jx4a65c_size_8abf5 (nI n)).toNatClampNeg (FP.i2d p3))]) (w1 := [tc_Jx4a65c lo (mc + 1) ed ((nI n) + 1)]) (pl := tm_L G ed (n + 1) (vf_upd ad n q_11) (vf_upd rc n (upd (upd (upd (upd (upd (fun _ => (0 : Int32)) (0 : Int32).toNatClampNeg p1) (1 : Int32).toNatClampNeg p2) (2 : Int32).toNatClampNeg p3) (3 : Int32).toNatClampNeg ((tk / 48) + p4)) (4 : Int32).toNatClampNeg 0))) hP hD [3] [0, 1, 2] rfl rfl (by decide) (by decide) hk1 hFc hP1 hD1
            have hP : va_P G.1 vwCl ([tc_X7 a0 0 ma rf lk pu tl lo, tc_X6 ma tk mo su lv si ga sl sc fh lh fo ee pn e0 e1 e2 e3 e4 e5 a0, tc_D G e4 10 (vf_upd le (f_Jx4a65c_size_8abf5 (nI n)).toNatClampNeg (FP.i2d p3)), tc_Jx4a65c lo (mc + 1) ed ((nI n) + 1)] ++ tm_L G ed (n + 1) (vf_upd ad n q_11) (vf_upd rc n (upd (upd (upd (upd (upd (fun _ => (0 : Int32)) (0 : Int32).toNatClampNeg p1) (1 : Int32).toNatClampNeg p2) (2 : Int32).toNatClampNeg p3) (3 : Int32).toNatClampNeg ((tk / 48) + p4)) (4 : Int32).toNatClampNeg 0))) H := hP
            have hD : va_D A ([tc_X7 a0 0 ma rf lk pu tl lo, tc_X6 ma tk mo su lv si ga sl sc fh lh fo ee pn e0 e1 e2 e3 e4 e5 a0, tc_D G e4 10 (vf_upd le (f_Jx4a65c_size_8abf5 (nI n)).toNatClampNeg (FP.i2d p3)), tc_Jx4a65c lo (mc + 1) ed ((nI n) + 1)] ++ tm_L G ed (n + 1) (vf_upd ad n q_11) (vf_upd rc n (upd (upd (upd (upd (upd (fun _ => (0 : Int32)) (0 : Int32).toNatClampNeg p1) (1 : Int32).toNatClampNeg p2) (2 : Int32).toNatClampNeg p3) (3 : Int32).toNatClampNeg ((tk / 48) + p4)) (4 : Int32).toNatClampNeg 0))) := hD
            subst r_21
            refine lv_iconst (v := 1) hx hb dX7_lot_147 (by decide) ?_
            refine lv_isub hx hb dX7_lot_148 ?_
            exact W.iret (v := (f_Jx4a65c_size_8abf5 ((nI n) + 1)) - 1) hx hb hr (fun t ht hW => ⟨⟨(f_Jx4a65c_size_8abf5 ((nI n) + 1)) - 1, (), rfl, rfl, q_11, by rw [ht]; exact hP, hD⟩, hS.F ht⟩) hS.2.2 dX7_lot_149
          · exact absurd c_10 na_4
        · exact absurd c_8 na_3
set_option maxHeartbeats 4000000 in
set_option maxRecDepth 100000 in
theorem c_X7_lot_z (l : Launch) (G : tm_G) (a0 : Nat) (ma : Nat) (lo : Nat) (e0 : Nat) (e1 : Nat) (e2 : Nat) (e3 : Nat) (e4 : Nat) (e5 : Nat) (sz : Nat) (th : Int32) (rf : Int32) (lk : Int32) (pu : Int32) (tl : UInt64) (tk : Int32) (mo : Int32) (su : UInt64) (lv : UInt64) (si : UInt32) (ga : Int32) (sl : Int32) (sc : Int32) (fh : Int32) (lh : Int32) (fo : UInt64) (ee : Int32) (pn : Int32) (le : Nat → UInt64) (mc : Int32) (p1 : Int32) (p2 : Int32) (p3 : Int32) (p4 : Int32) (hn : n_X7_lot_z p1 p2 p3 p4) : Met l yX7_lot wsX7_lot ({ frames := 5, cells := 2, slots := 15, locals := 111 }) (va_Pc [.ref a0, .int p1, .int p2, .int p3, .int p4] (tm_B G [tc_X7 a0 th ma rf lk pu tl lo, tc_X6 ma tk mo su lv si ga sl sc fh lh fo ee pn e0 e1 e2 e3 e4 e5 a0, tc_D G e4 10 le, tc_Jx4a65c lo mc G.2.2.2.2.2.2.2 0] sz)) (va_Qi (fun (r : Int32) (_ : Unit) => r = (f_Jx4a65c_size_8abf5 (0 + 1)) - 1) (fun (_ : Unit) (t : State) => ∃ (q_11 q_21 : Nat), va_P G.1 vwCl [tc_X7 a0 0 ma rf lk pu tl lo, tc_X6 ma tk mo su lv si ga sl sc fh lh fo ee pn e0 e1 e2 e3 e4 e5 a0, tc_D G e4 10 (vf_upd le (f_Jx4a65c_size_8abf5 0).toNatClampNeg (FP.i2d p3)), tc_I G q_11 5 (upd (upd (upd (upd (upd (fun _ => (0 : Int32)) (0 : Int32).toNatClampNeg p1) (1 : Int32).toNatClampNeg p2) (2 : Int32).toNatClampNeg p3) (3 : Int32).toNatClampNeg ((tk / 48) + p4)) (4 : Int32).toNatClampNeg 0), tc_Q G q_21 10 (va_up (fun _ => none) (0 : Int32).toNatClampNeg (some q_11)), tc_Jx4a65c lo (mc + 1) q_21 (0 + 1)] t.heap ∧ va_D (va_A [tc_X7 a0 th ma rf lk pu tl lo, tc_X6 ma tk mo su lv si ga sl sc fh lh fo ee pn e0 e1 e2 e3 e4 e5 a0, tc_D G e4 10 le, tc_Jx4a65c lo mc G.2.2.2.2.2.2.2 0] sz) [tc_X7 a0 0 ma rf lk pu tl lo, tc_X6 ma tk mo su lv si ga sl sc fh lh fo ee pn e0 e1 e2 e3 e4 e5 a0, tc_D G e4 10 (vf_upd le (f_Jx4a65c_size_8abf5 0).toNatClampNeg (FP.i2d p3)), tc_I G q_11 5 (upd (upd (upd (upd (upd (fun _ => (0 : Int32)) (0 : Int32).toNatClampNeg p1) (1 : Int32).toNatClampNeg p2) (2 : Int32).toNatClampNeg p3) (3 : Int32).toNatClampNeg ((tk / 48) + p4)) (4 : Int32).toNatClampNeg 0), tc_Q G q_21 10 (va_up (fun _ => none) (0 : Int32).toNatClampNeg (some q_11)), tc_Jx4a65c lo (mc + 1) q_21 (0 + 1)]) (va_A [tc_X7 a0 th ma rf lk pu tl lo, tc_X6 ma tk mo su lv si ga sl sc fh lh fo ee pn e0 e1 e2 e3 e4 e5 a0, tc_D G e4 10 le, tc_Jx4a65c lo mc G.2.2.2.2.2.2.2 0] sz)) 2 15 (va_A [tc_X7 a0 th ma rf lk pu tl lo, tc_X6 ma tk mo su lv si ga sl sc fh lh fo ee pn e0 e1 e2 e3 e4 e5 a0, tc_D G e4 10 le, tc_Jx4a65c lo mc G.2.2.2.2.2.2.2 0] sz) := by
  refine Met.ofW (cc := cX7_lot) (maxL := 6) (ret := (some .int)) (by decide) rfl ?_
  intro p e s m args below meth c s₁ B hml hv
  obtain ⟨rfl, hsz, hP, hK, hD0, hN, hV⟩ := hv
  have hx := B.exec
  have hb := B.bytes
  have hr := B.returns
  have hts := atoms_spec (ws := wsX7_lot) B.pre
  have hown : s.vm.findClass RX7 = some m.cls := findClass_of_methodNamed B.named
  have hlocks := B.notSynchronized
  subst hsz
  obtain ⟨na_0, na_1, na_2, na_3, na_4, n_12, n_13, n_14, n_15, n_16, n_18, n_19⟩ := hn
  have hiX6 : ∀ w ∈ u_ws RX6 TX6 20, w ∈ wsX7_lot := fun _ h => List.mem_cons_of_mem _ (List.mem_append_left _ (List.mem_append_right _ h))
  have hiX7 : ∀ w ∈ u_ws RX7 TX7 7, w ∈ wsX7_lot := fun _ h => List.mem_cons_of_mem _ (List.mem_append_left _ (List.mem_append_left _ (List.mem_append_right _ h)))
  have hD := hD0.self (sz := s.heap.size)
  generalize hAe : va_A [tc_X7 a0 th ma rf lk pu tl lo, tc_X6 ma tk mo su lv si ga sl sc fh lh fo ee pn e0 e1 e2 e3 e4 e5 a0, tc_D G e4 10 le, tc_Jx4a65c lo mc G.2.2.2.2.2.2.2 0] s.heap.size = A at hD hV ⊢
  have hA : ∀ q : Nat, s.heap.size ≤ q → A q := fun q h => by rw [← hAe]; exact Or.inr h
  have hS : va_S A s.heap s.heap [] := va_S.rf
  have hl := lv_entry ([.ref a0, .int p1, .int p2, .int p3, .int p4]) (n := 6) (Nat.le_of_ble_eq_true rfl)
  rw [lg_entry_eq]
  generalize (lg_sl ([.ref a0, .int p1, .int p2, .int p3, .int p4]) ++ List.replicate (6 - (lg_sl ([.ref a0, .int p1, .int p2, .int p3, .int p4])).length) Slot.unset).toArray = ls at hl ⊢
  have hl : lv_has ls 6 [(0, .ref a0), (1, .int p1), (2, .int p2), (3, .int p3), (4, .int p4)] := hl
  refine lv_aload_n hx hb dX7_lot_0 rfl (lv_at hl 0 rfl) ?_
  refine lv_iconst (v := 0) hx hb dX7_lot_1 (by decide) ?_
  refine va_put (D := G.1) (ci := 8) (v := .int 0) (ty := .int) (C := RX7) (T := TX7) (N := 7) hx hb hts hiX7 tyX7 tyX7_ok nmX7 hown hK hP hD hS 0 rfl rfl 0 (by decide) (hts (.fieldLink RX7 25 "TideMillModel" "thrown" "I") (List.mem_of_getElem? (i := 1) rfl)) (fun _ h9 => h9) rfl (by decide +kernel) rfl rfl (Nat.le_of_ble_eq_true rfl) dX7_lot_2 (fun H locs hP hD hS => ?_)
  have hP : va_P G.1 vwCl [tc_X7 a0 0 ma rf lk pu tl lo, tc_X6 ma tk mo su lv si ga sl sc fh lh fo ee pn e0 e1 e2 e3 e4 e5 a0, tc_D G e4 10 le, tc_Jx4a65c lo mc G.2.2.2.2.2.2.2 0] H := hP
  have hD : va_D A [tc_X7 a0 0 ma rf lk pu tl lo, tc_X6 ma tk mo su lv si ga sl sc fh lh fo ee pn e0 e1 e2 e3 e4 e5 a0, tc_D G e4 10 le, tc_Jx4a65c lo mc G.2.2.2.2.2.2.2 0] := hD
  refine lv_iload_n hx hb dX7_lot_5 rfl (lv_at hl 1 rfl) ?_
  refine lv_iconst (v := 0) hx hb dX7_lot_6 (by decide) ?_
  refine lv_iconst (v := 3) hx hb dX7_lot_7 (by decide) ?_
  have hPc := hP.sub (ws' := []) [] rfl
  have hDc := hD.sub (ws' := []) [] (by decide) rfl
  have hFc := va_free (wc := []) hD hS hA [] rfl
  refine va_calli (va_runS (As := [.int p1, .int 0, .int 3]) (rest := []) ⟨hx, hb, hml, hown, hts⟩ (c_X7_in l G  H.size p1 0 3 ) (cwS 3 hts gX7_lot_X7_in rfl rfl rfl (by decide +kernel) ⟨(Nat.le_of_ble_eq_true rfl), (Nat.le_of_ble_eq_true rfl)⟩) (tm_preS hK hN hV hS hPc hDc hFc) rfl rfl hl.1 rfl (lv_room (Nat.le_of_ble_eq_true rfl)) dX7_lot_8 ⟨(Nat.le_of_ble_eq_true rfl), (Nat.le_of_ble_eq_true rfl)⟩) hS (fun q _ h => hFc q h) hFc (fun r_1 u t H locs ht hvm hw_1 hB hz1 hk1 hS => ?_)
  obtain ⟨hP1, hD1⟩ := hB
  rw [ht] at hP1
  try dsimp only at hw_1
  obtain ⟨hP, hD⟩ := va_join (wr := [tc_X7 a0 0 ma rf lk pu tl lo, tc_X6 ma tk mo su lv si ga sl sc fh lh fo ee pn e0 e1 e2 e3 e4 e5 a0, tc_D G e4 10 le, tc_Jx4a65c lo mc G.2.2.2.2.2.2.2 0]) (w1 := []) hP hD [] [0, 1, 2, 3] rfl rfl (by decide) (by decide) hk1 hFc hP1 hD1
  have hP : va_P G.1 vwCl [tc_X7 a0 0 ma rf lk pu tl lo, tc_X6 ma tk mo su lv si ga sl sc fh lh fo ee pn e0 e1 e2 e3 e4 e5 a0, tc_D G e4 10 le, tc_Jx4a65c lo mc G.2.2.2.2.2.2.2 0] H := hP
  have hD : va_D A [tc_X7 a0 0 ma rf lk pu tl lo, tc_X6 ma tk mo su lv si ga sl sc fh lh fo ee pn e0 e1 e2 e3 e4 e5 a0, tc_D G e4 10 le, tc_Jx4a65c lo mc G.2.2.2.2.2.2.2 0] := hD
  subst r_1
  refine lv_if_eq (tgt := 44) hx hb dX7_lot_11 (by decide) (fun c_2 => ?_) (fun c_2 => ?_)
  · exact absurd c_2 na_0
  · refine lv_iload_n hx hb dX7_lot_14 rfl (lv_at hl 2 rfl) ?_
    refine lv_iconst (v := 0) hx hb dX7_lot_15 (by decide) ?_
    refine lv_iconst (v := 2) hx hb dX7_lot_16 (by decide) ?_
    have hPc := hP.sub (ws' := []) [] rfl
    have hDc := hD.sub (ws' := []) [] (by decide) rfl
    have hFc := va_free (wc := []) hD hS hA [] rfl
    refine va_calli (va_runS (As := [.int p2, .int 0, .int 2]) (rest := []) ⟨hx, hb, hml, hown, hts⟩ (c_X7_in l G  H.size p2 0 2 ) (cwS 3 hts gX7_lot_X7_in rfl rfl rfl (by decide +kernel) ⟨(Nat.le_of_ble_eq_true rfl), (Nat.le_of_ble_eq_true rfl)⟩) (tm_preS hK hN hV hS hPc hDc hFc) rfl rfl hl.1 rfl (lv_room (Nat.le_of_ble_eq_true rfl)) dX7_lot_17 ⟨(Nat.le_of_ble_eq_true rfl), (Nat.le_of_ble_eq_true rfl)⟩) hS (fun q _ h => hFc q h) hFc (fun r_3 u t H locs ht hvm hw_3 hB hz1 hk1 hS => ?_)
    obtain ⟨hP1, hD1⟩ := hB
    rw [ht] at hP1
    try dsimp only at hw_3
    obtain ⟨hP, hD⟩ := va_join (wr := [tc_X7 a0 0 ma rf lk pu tl lo, tc_X6 ma tk mo su lv si ga sl sc fh lh fo ee pn e0 e1 e2 e3 e4 e5 a0, tc_D G e4 10 le, tc_Jx4a65c lo mc G.2.2.2.2.2.2.2 0]) (w1 := []) hP hD [] [0, 1, 2, 3] rfl rfl (by decide) (by decide) hk1 hFc hP1 hD1
    have hP : va_P G.1 vwCl [tc_X7 a0 0 ma rf lk pu tl lo, tc_X6 ma tk mo su lv si ga sl sc fh lh fo ee pn e0 e1 e2 e3 e4 e5 a0, tc_D G e4 10 le, tc_Jx4a65c lo mc G.2.2.2.2.2.2.2 0] H := hP
    have hD : va_D A [tc_X7 a0 0 ma rf lk pu tl lo, tc_X6 ma tk mo su lv si ga sl sc fh lh fo ee pn e0 e1 e2 e3 e4 e5 a0, tc_D G e4 10 le, tc_Jx4a65c lo mc G.2.2.2.2.2.2.2 0] := hD
    subst r_3
    refine lv_if_eq (tgt := 44) hx hb dX7_lot_20 (by decide) (fun c_4 => ?_) (fun c_4 => ?_)
    · exact absurd c_4 na_1
    · refine lv_iload_n hx hb dX7_lot_23 rfl (lv_at hl 3 rfl) ?_
      refine lv_iconst (v := 1) hx hb dX7_lot_24 (by decide) ?_
      refine lv_bipush (v := 60) hx hb dX7_lot_25 (by decide) ?_
      have hPc := hP.sub (ws' := []) [] rfl
      have hDc := hD.sub (ws' := []) [] (by decide) rfl
      have hFc := va_free (wc := []) hD hS hA [] rfl
      refine va_calli (va_runS (As := [.int p3, .int 1, .int 60]) (rest := []) ⟨hx, hb, hml, hown, hts⟩ (c_X7_in l G  H.size p3 1 60 ) (cwS 3 hts gX7_lot_X7_in rfl rfl rfl (by decide +kernel) ⟨(Nat.le_of_ble_eq_true rfl), (Nat.le_of_ble_eq_true rfl)⟩) (tm_preS hK hN hV hS hPc hDc hFc) rfl rfl hl.1 rfl (lv_room (Nat.le_of_ble_eq_true rfl)) dX7_lot_27 ⟨(Nat.le_of_ble_eq_true rfl), (Nat.le_of_ble_eq_true rfl)⟩) hS (fun q _ h => hFc q h) hFc (fun r_5 u t H locs ht hvm hw_5 hB hz1 hk1 hS => ?_)
      obtain ⟨hP1, hD1⟩ := hB
      rw [ht] at hP1
      try dsimp only at hw_5
      obtain ⟨hP, hD⟩ := va_join (wr := [tc_X7 a0 0 ma rf lk pu tl lo, tc_X6 ma tk mo su lv si ga sl sc fh lh fo ee pn e0 e1 e2 e3 e4 e5 a0, tc_D G e4 10 le, tc_Jx4a65c lo mc G.2.2.2.2.2.2.2 0]) (w1 := []) hP hD [] [0, 1, 2, 3] rfl rfl (by decide) (by decide) hk1 hFc hP1 hD1
      have hP : va_P G.1 vwCl [tc_X7 a0 0 ma rf lk pu tl lo, tc_X6 ma tk mo su lv si ga sl sc fh lh fo ee pn e0 e1 e2 e3 e4 e5 a0, tc_D G e4 10 le, tc_Jx4a65c lo mc G.2.2.2.2.2.2.2 0] H := hP
      have hD : va_D A [tc_X7 a0 0 ma rf lk pu tl lo, tc_X6 ma tk mo su lv si ga sl sc fh lh fo ee pn e0 e1 e2 e3 e4 e5 a0, tc_D G e4 10 le, tc_Jx4a65c lo mc G.2.2.2.2.2.2.2 0] := hD
      subst r_5
      refine lv_if_eq (tgt := 44) hx hb dX7_lot_30 (by decide) (fun c_6 => ?_) (fun c_6 => ?_)
      · exact absurd c_6 na_2
      · refine lv_iload hx hb dX7_lot_33 (lv_at hl 4 rfl) ?_
        refine lv_iconst (v := 0) hx hb dX7_lot_35 (by decide) ?_
        refine lv_bipush (v := 30) hx hb dX7_lot_36 (by decide) ?_
        have hPc := hP.sub (ws' := []) [] rfl
        have hDc := hD.sub (ws' := []) [] (by decide) rfl
        have hFc := va_free (wc := []) hD hS hA [] rfl
        refine va_calli (va_runS (As := [.int p4, .int 0, .int 30]) (rest := []) ⟨hx, hb, hml, hown, hts⟩ (c_X7_in l G  H.size p4 0 30 ) (cwS 3 hts gX7_lot_X7_in rfl rfl rfl (by decide +kernel) ⟨(Nat.le_of_ble_eq_true rfl), (Nat.le_of_ble_eq_true rfl)⟩) (tm_preS hK hN hV hS hPc hDc hFc) rfl rfl hl.1 rfl (lv_room (Nat.le_of_ble_eq_true rfl)) dX7_lot_38 ⟨(Nat.le_of_ble_eq_true rfl), (Nat.le_of_ble_eq_true rfl)⟩) hS (fun q _ h => hFc q h) hFc (fun r_7 u t H locs ht hvm hw_7 hB hz1 hk1 hS => ?_)
        obtain ⟨hP1, hD1⟩ := hB
        rw [ht] at hP1
        try dsimp only at hw_7
        obtain ⟨hP, hD⟩ := va_join (wr := [tc_X7 a0 0 ma rf lk pu tl lo, tc_X6 ma tk mo su lv si ga sl sc fh lh fo ee pn e0 e1 e2 e3 e4 e5 a0, tc_D G e4 10 le, tc_Jx4a65c lo mc G.2.2.2.2.2.2.2 0]) (w1 := []) hP hD [] [0, 1, 2, 3] rfl rfl (by decide) (by decide) hk1 hFc hP1 hD1
        have hP : va_P G.1 vwCl [tc_X7 a0 0 ma rf lk pu tl lo, tc_X6 ma tk mo su lv si ga sl sc fh lh fo ee pn e0 e1 e2 e3 e4 e5 a0, tc_D G e4 10 le, tc_Jx4a65c lo mc G.2.2.2.2.2.2.2 0] H := hP
        have hD : va_D A [tc_X7 a0 0 ma rf lk pu tl lo, tc_X6 ma tk mo su lv si ga sl sc fh lh fo ee pn e0 e1 e2 e3 e4 e5 a0, tc_D G e4 10 le, tc_Jx4a65c lo mc G.2.2.2.2.2.2.2 0] := hD
        subst r_7
        refine lv_if_ne (tgt := 50) hx hb dX7_lot_41 (by decide) (fun c_8 => ?_) (fun c_8 => ?_)
        · refine lv_aload_n hx hb dX7_lot_50 rfl (lv_at hl 0 rfl) ?_
          refine va_get (D := G.1) (ci := 8) (v := .ref lo) (C := RX7) (T := TX7) (N := 7) hx hb hts hiX7 hown hK hP 0 rfl rfl 6 (by decide) (hts (.fieldLink RX7 21 "TideMillModel" "lots" "Ljava/util/List;") (List.mem_of_getElem? (i := 2) rfl)) (fun _ h9 => h9) rfl dX7_lot_51 ?_
          have hPc := hP.sub (ws' := [tc_Jx4a65c lo mc G.2.2.2.2.2.2.2 0]) [3] rfl
          have hDc := hD.sub (ws' := [tc_Jx4a65c lo mc G.2.2.2.2.2.2.2 0]) [3] (by decide) rfl
          have hFc := va_free (wc := [tc_Jx4a65c lo mc G.2.2.2.2.2.2.2 0]) hD hS hA [3] rfl
          refine va_callFi (va_runF (As := []) (rest := []) (hK.1 0 (RJx4a65c, TJx4a65c, 3) rfl).2 ⟨hx, hb, hml, hown, hts⟩ (c_Jx4a65c_size_8abf5 l G lo G.2.2.2.2.2.2.2 H.size mc 0 ) (va_cwF 0 hts gX7_lot_Jx4a65c_size_8abf5_f29Jx4a65c rfl rfl rfl (hN.2.2.2.2.1 (⟨"java/util/List", "size", "()I"⟩, yJx4a65c_size_8abf5) (List.mem_of_getElem? (i := 0) rfl)) (by decide +kernel) ⟨(Nat.le_of_ble_eq_true rfl), (Nat.le_of_ble_eq_true rfl)⟩) (tm_preV hK hN hV hS hPc hDc hFc (va_recv hK hPc (ci := 0) (q0 := 0) rfl rfl)) rfl rfl hl.1 rfl (lv_room (Nat.le_of_ble_eq_true rfl)) dX7_lot_54 ⟨(Nat.le_of_ble_eq_true rfl), (Nat.le_of_ble_eq_true rfl)⟩) hS (fun q _ h => hFc q h) hFc (fun r_9 u t H locs ht hvm hw_9 hB hz1 hk1 hS => ?_)
          obtain ⟨hP1, hD1⟩ := hB
          rw [ht] at hP1
          try dsimp only at hw_9
          obtain ⟨hP, hD⟩ := va_join (wr := [tc_X7 a0 0 ma rf lk pu tl lo, tc_X6 ma tk mo su lv si ga sl sc fh lh fo ee pn e0 e1 e2 e3 e4 e5 a0, tc_D G e4 10 le]) (w1 := [tc_Jx4a65c lo mc G.2.2.2.2.2.2.2 0]) hP hD [3] [0, 1, 2] rfl rfl (by decide) (by decide) hk1 hFc hP1 hD1
          have hP : va_P G.1 vwCl [tc_X7 a0 0 ma rf lk pu tl lo, tc_X6 ma tk mo su lv si ga sl sc fh lh fo ee pn e0 e1 e2 e3 e4 e5 a0, tc_D G e4 10 le, tc_Jx4a65c lo mc G.2.2.2.2.2.2.2 0] H := hP
          have hD : va_D A [tc_X7 a0 0 ma rf lk pu tl lo, tc_X6 ma tk mo su lv si ga sl sc fh lh fo ee pn e0 e1 e2 e3 e4 e5 a0, tc_D G e4 10 le, tc_Jx4a65c lo mc G.2.2.2.2.2.2.2 0] := hD
          subst r_9
          refine lv_bipush (v := 10) hx hb dX7_lot_59 (by decide) ?_
          refine lv_icmp_ne (tgt := 70) hx hb dX7_lot_61 (by decide) (fun c_10 => ?_) (fun c_10 => ?_)
          · refine lv_iconst (v := 5) hx hb dX7_lot_70 (by decide) ?_
            refine va_newa (atype := .int) hx hb (hts (.arrayClass .int) (List.mem_of_getElem? (i := 3) rfl)) (ty := .int) rfl hK hP hD hS hA (N' := 5) (a0 := (5, .inl (fun _ => (0 : Int32)))) (fun _ => rfl) (by decide) (by decide) (Nat.le_of_ble_eq_true rfl) (Nat.le_of_ble_eq_true rfl) (Nat.le_of_ble_eq_true rfl) dX7_lot_71 (fun q_11 cA H hK9 hP hD hS => ?_)
            obtain rfl : cA = G.2.1 := tm_cA_I hK9
            have hP : va_P G.1 vwCl [tc_X7 a0 0 ma rf lk pu tl lo, tc_X6 ma tk mo su lv si ga sl sc fh lh fo ee pn e0 e1 e2 e3 e4 e5 a0, tc_D G e4 10 le, tc_Jx4a65c lo mc G.2.2.2.2.2.2.2 0, tc_I G q_11 5 (fun _ => (0 : Int32))] H := hP
            have hD : va_D A [tc_X7 a0 0 ma rf lk pu tl lo, tc_X6 ma tk mo su lv si ga sl sc fh lh fo ee pn e0 e1 e2 e3 e4 e5 a0, tc_D G e4 10 le, tc_Jx4a65c lo mc G.2.2.2.2.2.2.2 0, tc_I G q_11 5 (fun _ => (0 : Int32))] := hD
            refine W.widen (k := 1) (n := 5) (Nat.le_of_ble_eq_true rfl) (Nat.le_of_ble_eq_true rfl) ?_
            refine lv_dup hx hb dX7_lot_73 rfl ?_
            refine lv_iconst (v := 0) hx hb dX7_lot_74 (by decide) ?_
            refine lv_iload_n hx hb dX7_lot_75 rfl (lv_at hl 1 rfl) ?_
            refine va_iast (n := 5) (f := fun _ => (0 : Int32)) hx hb hK hP hD hS 4 0 rfl rfl n_12 dX7_lot_76 (fun H locs hP hD hS => ?_)
            have hP : va_P G.1 vwCl [tc_X7 a0 0 ma rf lk pu tl lo, tc_X6 ma tk mo su lv si ga sl sc fh lh fo ee pn e0 e1 e2 e3 e4 e5 a0, tc_D G e4 10 le, tc_Jx4a65c lo mc G.2.2.2.2.2.2.2 0, tc_I G q_11 5 (upd (fun _ => (0 : Int32)) (0 : Int32).toNatClampNeg p1)] H := hP
            have hD : va_D A [tc_X7 a0 0 ma rf lk pu tl lo, tc_X6 ma tk mo su lv si ga sl sc fh lh fo ee pn e0 e1 e2 e3 e4 e5 a0, tc_D G e4 10 le, tc_Jx4a65c lo mc G.2.2.2.2.2.2.2 0, tc_I G q_11 5 (upd (fun _ => (0 : Int32)) (0 : Int32).toNatClampNeg p1)] := hD
            refine lv_dup hx hb dX7_lot_77 rfl ?_
            refine lv_iconst (v := 1) hx hb dX7_lot_78 (by decide) ?_
            refine lv_iload_n hx hb dX7_lot_79 rfl (lv_at hl 2 rfl) ?_
            refine va_iast (n := 5) (f := upd (fun _ => (0 : Int32)) (0 : Int32).toNatClampNeg p1) hx hb hK hP hD hS 4 0 rfl rfl n_13 dX7_lot_80 (fun H locs hP hD hS => ?_)
            have hP : va_P G.1 vwCl [tc_X7 a0 0 ma rf lk pu tl lo, tc_X6 ma tk mo su lv si ga sl sc fh lh fo ee pn e0 e1 e2 e3 e4 e5 a0, tc_D G e4 10 le, tc_Jx4a65c lo mc G.2.2.2.2.2.2.2 0, tc_I G q_11 5 (upd (upd (fun _ => (0 : Int32)) (0 : Int32).toNatClampNeg p1) (1 : Int32).toNatClampNeg p2)] H := hP
            have hD : va_D A [tc_X7 a0 0 ma rf lk pu tl lo, tc_X6 ma tk mo su lv si ga sl sc fh lh fo ee pn e0 e1 e2 e3 e4 e5 a0, tc_D G e4 10 le, tc_Jx4a65c lo mc G.2.2.2.2.2.2.2 0, tc_I G q_11 5 (upd (upd (fun _ => (0 : Int32)) (0 : Int32).toNatClampNeg p1) (1 : Int32).toNatClampNeg p2)] := hD
            refine lv_dup hx hb dX7_lot_81 rfl ?_
            refine lv_iconst (v := 2) hx hb dX7_lot_82 (by decide) ?_
            refine lv_iload_n hx hb dX7_lot_83 rfl (lv_at hl 3 rfl) ?_
            refine va_iast (n := 5) (f := upd (upd (fun _ => (0 : Int32)) (0 : Int32).toNatClampNeg p1) (1 : Int32).toNatClampNeg p2) hx hb hK hP hD hS 4 0 rfl rfl n_14 dX7_lot_84 (fun H locs hP hD hS => ?_)
            have hP : va_P G.1 vwCl [tc_X7 a0 0 ma rf lk pu tl lo, tc_X6 ma tk mo su lv si ga sl sc fh lh fo ee pn e0 e1 e2 e3 e4 e5 a0, tc_D G e4 10 le, tc_Jx4a65c lo mc G.2.2.2.2.2.2.2 0, tc_I G q_11 5 (upd (upd (upd (fun _ => (0 : Int32)) (0 : Int32).toNatClampNeg p1) (1 : Int32).toNatClampNeg p2) (2 : Int32).toNatClampNeg p3)] H := hP
            have hD : va_D A [tc_X7 a0 0 ma rf lk pu tl lo, tc_X6 ma tk mo su lv si ga sl sc fh lh fo ee pn e0 e1 e2 e3 e4 e5 a0, tc_D G e4 10 le, tc_Jx4a65c lo mc G.2.2.2.2.2.2.2 0, tc_I G q_11 5 (upd (upd (upd (fun _ => (0 : Int32)) (0 : Int32).toNatClampNeg p1) (1 : Int32).toNatClampNeg p2) (2 : Int32).toNatClampNeg p3)] := hD
            refine lv_dup hx hb dX7_lot_85 rfl ?_
            refine lv_iconst (v := 3) hx hb dX7_lot_86 (by decide) ?_
            refine lv_aload_n hx hb dX7_lot_87 rfl (lv_at hl 0 rfl) ?_
            refine va_get (D := G.1) (ci := 8) (v := .ref ma) (C := RX7) (T := TX7) (N := 7) hx hb hts hiX7 hown hK hP 0 rfl rfl 1 (by decide) (hts (.fieldLink RX7 12 "TideMillModel" "mill" "LTideMillModel$Mill;") (List.mem_of_getElem? (i := 4) rfl)) (fun _ h9 => h9) rfl dX7_lot_88 ?_
            refine va_get (D := G.1) (ci := 7) (v := .int tk) (C := RX6) (T := TX6) (N := 20) hx hb hts hiX6 hown hK hP 1 rfl rfl 0 (by decide) (hts (.fieldLink RX7 59 "TideMillModel$Mill" "tick" "I") (List.mem_of_getElem? (i := 5) rfl)) (fun _ h9 => h9) rfl dX7_lot_91 ?_
            refine lv_bipush (v := 48) hx hb dX7_lot_94 (by decide) ?_
            refine lv_idiv hx hb dX7_lot_96 (by decide) ?_
            refine lv_iload hx hb dX7_lot_97 (lv_at hl 4 rfl) ?_
            refine lv_iadd hx hb dX7_lot_99 ?_
            refine va_iast (n := 5) (f := upd (upd (upd (fun _ => (0 : Int32)) (0 : Int32).toNatClampNeg p1) (1 : Int32).toNatClampNeg p2) (2 : Int32).toNatClampNeg p3) hx hb hK hP hD hS 4 0 rfl rfl n_15 dX7_lot_100 (fun H locs hP hD hS => ?_)
            have hP : va_P G.1 vwCl [tc_X7 a0 0 ma rf lk pu tl lo, tc_X6 ma tk mo su lv si ga sl sc fh lh fo ee pn e0 e1 e2 e3 e4 e5 a0, tc_D G e4 10 le, tc_Jx4a65c lo mc G.2.2.2.2.2.2.2 0, tc_I G q_11 5 (upd (upd (upd (upd (fun _ => (0 : Int32)) (0 : Int32).toNatClampNeg p1) (1 : Int32).toNatClampNeg p2) (2 : Int32).toNatClampNeg p3) (3 : Int32).toNatClampNeg ((tk / 48) + p4))] H := hP
            have hD : va_D A [tc_X7 a0 0 ma rf lk pu tl lo, tc_X6 ma tk mo su lv si ga sl sc fh lh fo ee pn e0 e1 e2 e3 e4 e5 a0, tc_D G e4 10 le, tc_Jx4a65c lo mc G.2.2.2.2.2.2.2 0, tc_I G q_11 5 (upd (upd (upd (upd (fun _ => (0 : Int32)) (0 : Int32).toNatClampNeg p1) (1 : Int32).toNatClampNeg p2) (2 : Int32).toNatClampNeg p3) (3 : Int32).toNatClampNeg ((tk / 48) + p4))] := hD
            refine lv_dup hx hb dX7_lot_101 rfl ?_
            refine lv_iconst (v := 4) hx hb dX7_lot_102 (by decide) ?_
            refine lv_iconst (v := 0) hx hb dX7_lot_103 (by decide) ?_
            refine va_iast (n := 5) (f := upd (upd (upd (upd (fun _ => (0 : Int32)) (0 : Int32).toNatClampNeg p1) (1 : Int32).toNatClampNeg p2) (2 : Int32).toNatClampNeg p3) (3 : Int32).toNatClampNeg ((tk / 48) + p4)) hx hb hK hP hD hS 4 0 rfl rfl n_16 dX7_lot_104 (fun H locs hP hD hS => ?_)
            have hP : va_P G.1 vwCl [tc_X7 a0 0 ma rf lk pu tl lo, tc_X6 ma tk mo su lv si ga sl sc fh lh fo ee pn e0 e1 e2 e3 e4 e5 a0, tc_D G e4 10 le, tc_Jx4a65c lo mc G.2.2.2.2.2.2.2 0, tc_I G q_11 5 (upd (upd (upd (upd (upd (fun _ => (0 : Int32)) (0 : Int32).toNatClampNeg p1) (1 : Int32).toNatClampNeg p2) (2 : Int32).toNatClampNeg p3) (3 : Int32).toNatClampNeg ((tk / 48) + p4)) (4 : Int32).toNatClampNeg 0)] H := hP
            have hD : va_D A [tc_X7 a0 0 ma rf lk pu tl lo, tc_X6 ma tk mo su lv si ga sl sc fh lh fo ee pn e0 e1 e2 e3 e4 e5 a0, tc_D G e4 10 le, tc_Jx4a65c lo mc G.2.2.2.2.2.2.2 0, tc_I G q_11 5 (upd (upd (upd (upd (upd (fun _ => (0 : Int32)) (0 : Int32).toNatClampNeg p1) (1 : Int32).toNatClampNeg p2) (2 : Int32).toNatClampNeg p3) (3 : Int32).toNatClampNeg ((tk / 48) + p4)) (4 : Int32).toNatClampNeg 0)] := hD
            refine lv_astore (lv' := [(5, .ref q_11), (0, .ref a0), (1, .int p1), (2, .int p2), (3, .int p3), (4, .int p4)]) hx hb dX7_lot_105 hl (by decide) rfl (fun ls hl => ?_)
            refine lv_aload_n hx hb dX7_lot_107 rfl (lv_at hl 1 rfl) ?_
            refine va_get (D := G.1) (ci := 8) (v := .ref ma) (C := RX7) (T := TX7) (N := 7) hx hb hts hiX7 hown hK hP 0 rfl rfl 1 (by decide) (hts (.fieldLink RX7 12 "TideMillModel" "mill" "LTideMillModel$Mill;") (List.mem_of_getElem? (i := 4) rfl)) (fun _ h9 => h9) rfl dX7_lot_108 ?_
            refine va_get (D := G.1) (ci := 7) (v := .ref e4) (C := RX6) (T := TX6) (N := 20) hx hb hts hiX6 hown hK hP 1 rfl rfl 17 (by decide) (hts (.fieldLink RX7 104 "TideMillModel$Mill" "left" "[D") (List.mem_of_getElem? (i := 6) rfl)) (fun _ h9 => h9) rfl dX7_lot_111 ?_
            refine lv_aload_n hx hb dX7_lot_114 rfl (lv_at hl 1 rfl) ?_
            refine va_get (D := G.1) (ci := 8) (v := .ref lo) (C := RX7) (T := TX7) (N := 7) hx hb hts hiX7 hown hK hP 0 rfl rfl 6 (by decide) (hts (.fieldLink RX7 21 "TideMillModel" "lots" "Ljava/util/List;") (List.mem_of_getElem? (i := 2) rfl)) (fun _ h9 => h9) rfl dX7_lot_115 ?_
            have hPc := hP.sub (ws' := [tc_Jx4a65c lo mc G.2.2.2.2.2.2.2 0]) [3] rfl
            have hDc := hD.sub (ws' := [tc_Jx4a65c lo mc G.2.2.2.2.2.2.2 0]) [3] (by decide) rfl
            have hFc := va_free (wc := [tc_Jx4a65c lo mc G.2.2.2.2.2.2.2 0]) hD hS hA [3] rfl
            refine va_callFi (va_runF (As := []) (rest := [.ref e4]) (hK.1 0 (RJx4a65c, TJx4a65c, 3) rfl).2 ⟨hx, hb, hml, hown, hts⟩ (c_Jx4a65c_size_8abf5 l G lo G.2.2.2.2.2.2.2 H.size mc 0 ) (va_cwF 0 hts gX7_lot_Jx4a65c_size_8abf5_f29Jx4a65c rfl rfl rfl (hN.2.2.2.2.1 (⟨"java/util/List", "size", "()I"⟩, yJx4a65c_size_8abf5) (List.mem_of_getElem? (i := 0) rfl)) (by decide +kernel) ⟨(Nat.le_of_ble_eq_true rfl), (Nat.le_of_ble_eq_true rfl)⟩) (tm_preV hK hN hV hS hPc hDc hFc (va_recv hK hPc (ci := 0) (q0 := 0) rfl rfl)) rfl rfl hl.1 rfl (lv_room (Nat.le_of_ble_eq_true rfl)) dX7_lot_118 ⟨(Nat.le_of_ble_eq_true rfl), (Nat.le_of_ble_eq_true rfl)⟩) hS (fun q _ h => hFc q h) hFc (fun r_17 u t H locs ht hvm hw_17 hB hz1 hk1 hS => ?_)
            obtain ⟨hP1, hD1⟩ := hB
            rw [ht] at hP1
            try dsimp only at hw_17
            obtain ⟨hP, hD⟩ := va_join (wr := [tc_X7 a0 0 ma rf lk pu tl lo, tc_X6 ma tk mo su lv si ga sl sc fh lh fo ee pn e0 e1 e2 e3 e4 e5 a0, tc_D G e4 10 le, tc_I G q_11 5 (upd (upd (upd (upd (upd (fun _ => (0 : Int32)) (0 : Int32).toNatClampNeg p1) (1 : Int32).toNatClampNeg p2) (2 : Int32).toNatClampNeg p3) (3 : Int32).toNatClampNeg ((tk / 48) + p4)) (4 : Int32).toNatClampNeg 0)]) (w1 := [tc_Jx4a65c lo mc G.2.2.2.2.2.2.2 0]) hP hD [3] [0, 1, 2, 4] rfl rfl (by decide) (by decide) hk1 hFc hP1 hD1
            have hP : va_P G.1 vwCl [tc_X7 a0 0 ma rf lk pu tl lo, tc_X6 ma tk mo su lv si ga sl sc fh lh fo ee pn e0 e1 e2 e3 e4 e5 a0, tc_D G e4 10 le, tc_I G q_11 5 (upd (upd (upd (upd (upd (fun _ => (0 : Int32)) (0 : Int32).toNatClampNeg p1) (1 : Int32).toNatClampNeg p2) (2 : Int32).toNatClampNeg p3) (3 : Int32).toNatClampNeg ((tk / 48) + p4)) (4 : Int32).toNatClampNeg 0), tc_Jx4a65c lo mc G.2.2.2.2.2.2.2 0] H := hP
            have hD : va_D A [tc_X7 a0 0 ma rf lk pu tl lo, tc_X6 ma tk mo su lv si ga sl sc fh lh fo ee pn e0 e1 e2 e3 e4 e5 a0, tc_D G e4 10 le, tc_I G q_11 5 (upd (upd (upd (upd (upd (fun _ => (0 : Int32)) (0 : Int32).toNatClampNeg p1) (1 : Int32).toNatClampNeg p2) (2 : Int32).toNatClampNeg p3) (3 : Int32).toNatClampNeg ((tk / 48) + p4)) (4 : Int32).toNatClampNeg 0), tc_Jx4a65c lo mc G.2.2.2.2.2.2.2 0] := hD
            subst r_17
            refine lv_iload_n hx hb dX7_lot_123 rfl (lv_at hl 4 rfl) ?_
            refine lv_i2d hx hb dX7_lot_124 ?_
            refine va_dast (n := 10) (f := le) hx hb hK hP hD hS 2 1 rfl rfl n_18 dX7_lot_125 (fun H locs hP hD hS => ?_)
            have hP : va_P G.1 vwCl [tc_X7 a0 0 ma rf lk pu tl lo, tc_X6 ma tk mo su lv si ga sl sc fh lh fo ee pn e0 e1 e2 e3 e4 e5 a0, tc_D G e4 10 (vf_upd le (f_Jx4a65c_size_8abf5 0).toNatClampNeg (FP.i2d p3)), tc_I G q_11 5 (upd (upd (upd (upd (upd (fun _ => (0 : Int32)) (0 : Int32).toNatClampNeg p1) (1 : Int32).toNatClampNeg p2) (2 : Int32).toNatClampNeg p3) (3 : Int32).toNatClampNeg ((tk / 48) + p4)) (4 : Int32).toNatClampNeg 0), tc_Jx4a65c lo mc G.2.2.2.2.2.2.2 0] H := hP
            have hD : va_D A [tc_X7 a0 0 ma rf lk pu tl lo, tc_X6 ma tk mo su lv si ga sl sc fh lh fo ee pn e0 e1 e2 e3 e4 e5 a0, tc_D G e4 10 (vf_upd le (f_Jx4a65c_size_8abf5 0).toNatClampNeg (FP.i2d p3)), tc_I G q_11 5 (upd (upd (upd (upd (upd (fun _ => (0 : Int32)) (0 : Int32).toNatClampNeg p1) (1 : Int32).toNatClampNeg p2) (2 : Int32).toNatClampNeg p3) (3 : Int32).toNatClampNeg ((tk / 48) + p4)) (4 : Int32).toNatClampNeg 0), tc_Jx4a65c lo mc G.2.2.2.2.2.2.2 0] := hD
            refine lv_aload_n hx hb dX7_lot_126 rfl (lv_at hl 1 rfl) ?_
            refine va_get (D := G.1) (ci := 8) (v := .ref lo) (C := RX7) (T := TX7) (N := 7) hx hb hts hiX7 hown hK hP 0 rfl rfl 6 (by decide) (hts (.fieldLink RX7 21 "TideMillModel" "lots" "Ljava/util/List;") (List.mem_of_getElem? (i := 2) rfl)) (fun _ h9 => h9) rfl dX7_lot_127 ?_
            refine lv_aload hx hb dX7_lot_130 (lv_at hl 0 rfl) ?_
            have hPc := hP.sub (ws' := [tc_Jx4a65c lo mc G.2.2.2.2.2.2.2 0, tc_I G q_11 5 (upd (upd (upd (upd (upd (fun _ => (0 : Int32)) (0 : Int32).toNatClampNeg p1) (1 : Int32).toNatClampNeg p2) (2 : Int32).toNatClampNeg p3) (3 : Int32).toNatClampNeg ((tk / 48) + p4)) (4 : Int32).toNatClampNeg 0)]) [4, 3] rfl
            have hDc := hD.sub (ws' := [tc_Jx4a65c lo mc G.2.2.2.2.2.2.2 0, tc_I G q_11 5 (upd (upd (upd (upd (upd (fun _ => (0 : Int32)) (0 : Int32).toNatClampNeg p1) (1 : Int32).toNatClampNeg p2) (2 : Int32).toNatClampNeg p3) (3 : Int32).toNatClampNeg ((tk / 48) + p4)) (4 : Int32).toNatClampNeg 0)]) [4, 3] (by decide) rfl
            have hFc := va_free (wc := [tc_Jx4a65c lo mc G.2.2.2.2.2.2.2 0, tc_I G q_11 5 (upd (upd (upd (upd (upd (fun _ => (0 : Int32)) (0 : Int32).toNatClampNeg p1) (1 : Int32).toNatClampNeg p2) (2 : Int32).toNatClampNeg p3) (3 : Int32).toNatClampNeg ((tk / 48) + p4)) (4 : Int32).toNatClampNeg 0)]) hD hS hA [4, 3] rfl
            refine va_callFi (va_runF (As := [.ref q_11]) (rest := []) (hK.1 0 (RJx4a65c, TJx4a65c, 3) rfl).2 ⟨hx, hb, hml, hown, hts⟩ (c_Jx4a65c_add_9ea2d_z l G lo q_11 H.size mc (upd (upd (upd (upd (upd (fun _ => (0 : Int32)) (0 : Int32).toNatClampNeg p1) (1 : Int32).toNatClampNeg p2) (2 : Int32).toNatClampNeg p3) (3 : Int32).toNatClampNeg ((tk / 48) + p4)) (4 : Int32).toNatClampNeg 0) n_19) (va_cwF 1 hts gX7_lot_Jx4a65c_add_9ea2d_f108Jx4a65c rfl rfl rfl (hN.2.2.2.2.1 (⟨"java/util/List", "add", "(Ljava/lang/Object;)Z"⟩, yJx4a65c_add_9ea2d) (List.mem_of_getElem? (i := 2) rfl)) (by decide +kernel) ⟨(Nat.le_of_ble_eq_true rfl), (Nat.le_of_ble_eq_true rfl)⟩) (tm_preV hK hN hV hS hPc hDc hFc (va_recv hK hPc (ci := 0) (q0 := 0) rfl rfl)) rfl rfl hl.1 rfl (lv_room (Nat.le_of_ble_eq_true rfl)) dX7_lot_132 ⟨(Nat.le_of_ble_eq_true rfl), (Nat.le_of_ble_eq_true rfl)⟩) hS (fun q _ h => hFc q h) hFc (fun r_20 u t H locs ht hvm hw_20 hB hz1 hk1 hS => ?_)
            subst r_20
            obtain ⟨q_21, hP1, hD1⟩ := hB
            rw [ht] at hP1
            obtain ⟨hP, hD⟩ := va_join (wr := [tc_X7 a0 0 ma rf lk pu tl lo, tc_X6 ma tk mo su lv si ga sl sc fh lh fo ee pn e0 e1 e2 e3 e4 e5 a0, tc_D G e4 10 (vf_upd le (f_Jx4a65c_size_8abf5 0).toNatClampNeg (FP.i2d p3))]) (w1 := [tc_I G q_11 5 (upd (upd (upd (upd (upd (fun _ => (0 : Int32)) (0 : Int32).toNatClampNeg p1) (1 : Int32).toNatClampNeg p2) (2 : Int32).toNatClampNeg p3) (3 : Int32).toNatClampNeg ((tk / 48) + p4)) (4 : Int32).toNatClampNeg 0), tc_Jx4a65c lo (mc + 1) q_21 (0 + 1), tc_Q G q_21 10 (va_up (fun _ => none) (0 : Int32).toNatClampNeg (some q_11))]) hP hD [4, 3] [0, 1, 2] rfl rfl (by decide) (by decide) hk1 hFc hP1 hD1
            have hP : va_P G.1 vwCl [tc_X7 a0 0 ma rf lk pu tl lo, tc_X6 ma tk mo su lv si ga sl sc fh lh fo ee pn e0 e1 e2 e3 e4 e5 a0, tc_D G e4 10 (vf_upd le (f_Jx4a65c_size_8abf5 0).toNatClampNeg (FP.i2d p3)), tc_I G q_11 5 (upd (upd (upd (upd (upd (fun _ => (0 : Int32)) (0 : Int32).toNatClampNeg p1) (1 : Int32).toNatClampNeg p2) (2 : Int32).toNatClampNeg p3) (3 : Int32).toNatClampNeg ((tk / 48) + p4)) (4 : Int32).toNatClampNeg 0), tc_Jx4a65c lo (mc + 1) q_21 (0 + 1), tc_Q G q_21 10 (va_up (fun _ => none) (0 : Int32).toNatClampNeg (some q_11))] H := hP
            have hD : va_D A [tc_X7 a0 0 ma rf lk pu tl lo, tc_X6 ma tk mo su lv si ga sl sc fh lh fo ee pn e0 e1 e2 e3 e4 e5 a0, tc_D G e4 10 (vf_upd le (f_Jx4a65c_size_8abf5 0).toNatClampNeg (FP.i2d p3)), tc_I G q_11 5 (upd (upd (upd (upd (upd (fun _ => (0 : Int32)) (0 : Int32).toNatClampNeg p1) (1 : Int32).toNatClampNeg p2) (2 : Int32).toNatClampNeg p3) (3 : Int32).toNatClampNeg ((tk / 48) + p4)) (4 : Int32).toNatClampNeg 0), tc_Jx4a65c lo (mc + 1) q_21 (0 + 1), tc_Q G q_21 10 (va_up (fun _ => none) (0 : Int32).toNatClampNeg (some q_11))] := hD
            refine W.widen (k := 2) (n := 15) (Nat.le_of_ble_eq_true rfl) (Nat.le_of_ble_eq_true rfl) ?_
            refine lv_pop hx hb dX7_lot_137 rfl ?_
            refine lv_aload_n hx hb dX7_lot_138 rfl (lv_at hl 1 rfl) ?_
            refine va_get (D := G.1) (ci := 8) (v := .ref lo) (C := RX7) (T := TX7) (N := 7) hx hb hts hiX7 hown hK hP 0 rfl rfl 6 (by decide) (hts (.fieldLink RX7 21 "TideMillModel" "lots" "Ljava/util/List;") (List.mem_of_getElem? (i := 2) rfl)) (fun _ h9 => h9) rfl dX7_lot_139 ?_
            have hPc := hP.sub (ws' := [tc_Jx4a65c lo (mc + 1) q_21 (0 + 1)]) [4] rfl
            have hDc := hD.sub (ws' := [tc_Jx4a65c lo (mc + 1) q_21 (0 + 1)]) [4] (by decide) rfl
            have hFc := va_free (wc := [tc_Jx4a65c lo (mc + 1) q_21 (0 + 1)]) hD hS hA [4] rfl
            refine va_callFi (va_runF (As := []) (rest := []) (hK.1 0 (RJx4a65c, TJx4a65c, 3) rfl).2 ⟨hx, hb, hml, hown, hts⟩ (c_Jx4a65c_size_8abf5 l G lo q_21 H.size (mc + 1) (0 + 1) ) (va_cwF 0 hts gX7_lot_Jx4a65c_size_8abf5_f29Jx4a65c rfl rfl rfl (hN.2.2.2.2.1 (⟨"java/util/List", "size", "()I"⟩, yJx4a65c_size_8abf5) (List.mem_of_getElem? (i := 0) rfl)) (by decide +kernel) ⟨(Nat.le_of_ble_eq_true rfl), (Nat.le_of_ble_eq_true rfl)⟩) (tm_preV hK hN hV hS hPc hDc hFc (va_recv hK hPc (ci := 0) (q0 := 0) rfl rfl)) rfl rfl hl.1 rfl (lv_room (Nat.le_of_ble_eq_true rfl)) dX7_lot_142 ⟨(Nat.le_of_ble_eq_true rfl), (Nat.le_of_ble_eq_true rfl)⟩) hS (fun q _ h => hFc q h) hFc (fun r_22 u t H locs ht hvm hw_22 hB hz1 hk1 hS => ?_)
            obtain ⟨hP1, hD1⟩ := hB
            rw [ht] at hP1
            try dsimp only at hw_22
            obtain ⟨hP, hD⟩ := va_join (wr := [tc_X7 a0 0 ma rf lk pu tl lo, tc_X6 ma tk mo su lv si ga sl sc fh lh fo ee pn e0 e1 e2 e3 e4 e5 a0, tc_D G e4 10 (vf_upd le (f_Jx4a65c_size_8abf5 0).toNatClampNeg (FP.i2d p3)), tc_I G q_11 5 (upd (upd (upd (upd (upd (fun _ => (0 : Int32)) (0 : Int32).toNatClampNeg p1) (1 : Int32).toNatClampNeg p2) (2 : Int32).toNatClampNeg p3) (3 : Int32).toNatClampNeg ((tk / 48) + p4)) (4 : Int32).toNatClampNeg 0), tc_Q G q_21 10 (va_up (fun _ => none) (0 : Int32).toNatClampNeg (some q_11))]) (w1 := [tc_Jx4a65c lo (mc + 1) q_21 (0 + 1)]) hP hD [4] [0, 1, 2, 3, 5] rfl rfl (by decide) (by decide) hk1 hFc hP1 hD1
            have hP : va_P G.1 vwCl [tc_X7 a0 0 ma rf lk pu tl lo, tc_X6 ma tk mo su lv si ga sl sc fh lh fo ee pn e0 e1 e2 e3 e4 e5 a0, tc_D G e4 10 (vf_upd le (f_Jx4a65c_size_8abf5 0).toNatClampNeg (FP.i2d p3)), tc_I G q_11 5 (upd (upd (upd (upd (upd (fun _ => (0 : Int32)) (0 : Int32).toNatClampNeg p1) (1 : Int32).toNatClampNeg p2) (2 : Int32).toNatClampNeg p3) (3 : Int32).toNatClampNeg ((tk / 48) + p4)) (4 : Int32).toNatClampNeg 0), tc_Q G q_21 10 (va_up (fun _ => none) (0 : Int32).toNatClampNeg (some q_11)), tc_Jx4a65c lo (mc + 1) q_21 (0 + 1)] H := hP
            have hD : va_D A [tc_X7 a0 0 ma rf lk pu tl lo, tc_X6 ma tk mo su lv si ga sl sc fh lh fo ee pn e0 e1 e2 e3 e4 e5 a0, tc_D G e4 10 (vf_upd le (f_Jx4a65c_size_8abf5 0).toNatClampNeg (FP.i2d p3)), tc_I G q_11 5 (upd (upd (upd (upd (upd (fun _ => (0 : Int32)) (0 : Int32).toNatClampNeg p1) (1 : Int32).toNatClampNeg p2) (2 : Int32).toNatClampNeg p3) (3 : Int32).toNatClampNeg ((tk / 48) + p4)) (4 : Int32).toNatClampNeg 0), tc_Q G q_21 10 (va_up (fun _ => none) (0 : Int32).toNatClampNeg (some q_11)), tc_Jx4a65c lo (mc + 1) q_21 (0 + 1)] := hD
            subst r_22
            refine lv_iconst (v := 1) hx hb dX7_lot_147 (by decide) ?_
            refine lv_isub hx hb dX7_lot_148 ?_
            exact W.iret (v := (f_Jx4a65c_size_8abf5 (0 + 1)) - 1) hx hb hr (fun t ht hW => ⟨⟨(f_Jx4a65c_size_8abf5 (0 + 1)) - 1, (), rfl, rfl, q_11, q_21, by rw [ht]; exact hP, hD⟩, hS.F ht⟩) hS.2.2 dX7_lot_149
          · exact absurd c_10 na_4
        · exact absurd c_8 na_3
