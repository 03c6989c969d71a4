set_option maxHeartbeats 4000000 in
set_option maxRecDepth 100000 in
theorem c_X0_countOf (l : Launch) (G : tm_G) (a0 : Nat) (b0 : Nat) (b1 : Nat) (b2 : Nat) (b3 : Nat) (b4 : Nat) (b5 : Nat) (sz : Nat) (ln : Int32) (sa : Nat → Int32) (p1 : Int32) (hn : n_X0_countOf ln sa p1) : Met l yX0_countOf wsX0_countOf ({ frames := 0, cells := 0, slots := 0, locals := 0 }) (va_Pc [.ref a0, .int p1] (tm_B G [tc_X0 a0 b0 b1 b2 b3 b4 b5 ln, tc_I G b4 10 sa] sz)) (va_Qi (fun (r : Int32) (u : Unit) => r = f_X0_countOf ln sa p1) (fun (u : Unit) (t : State) => va_P G.1 vwCl [tc_X0 a0 b0 b1 b2 b3 b4 b5 ln, tc_I G b4 10 sa] t.heap ∧ va_D (va_A [tc_X0 a0 b0 b1 b2 b3 b4 b5 ln, tc_I G b4 10 sa] sz) [tc_X0 a0 b0 b1 b2 b3 b4 b5 ln, tc_I G b4 10 sa]) (va_A [tc_X0 a0 b0 b1 b2 b3 b4 b5 ln, tc_I G b4 10 sa] sz)) 0 0 (va_A [tc_X0 a0 b0 b1 b2 b3 b4 b5 ln, tc_I G b4 10 sa] sz) := by
  refine Met.ofW (cc := cX0_countOf) (maxL := 4) (ret := (some .int)) (by decide) rfl ?_
  intro p e s m args below meth c s₁ B hml hv
  obtain ⟨rfl, hsz, hP, hK, hD0, hN, hV⟩ := hv
  have hx := B.exec
  have hb := B.bytes
  have hr := B.returns
  have hts := atoms_spec (ws := wsX0_countOf) B.pre
  have hown : s.vm.findClass RX0 = some m.cls := findClass_of_methodNamed B.named
  have hlocks := B.notSynchronized
  subst hsz
  have n_6 := hn
  unfold n_X0_countOf at n_6
  have hiX0 : ∀ w ∈ u_ws RX0 TX0 7, w ∈ wsX0_countOf := fun _ h => List.mem_cons_of_mem _ (List.mem_append_right _ h)
  have hD := hD0.self (sz := s.heap.size)
  generalize hAe : va_A [tc_X0 a0 b0 b1 b2 b3 b4 b5 ln, tc_I G b4 10 sa] s.heap.size = A at hD hV ⊢
  have hA : ∀ q : Nat, s.heap.size ≤ q → A q := fun q h => by rw [← hAe]; exact Or.inr h
  have hS : va_S A s.heap s.heap [] := va_S.rf
  have hl := lv_entry ([.ref a0, .int p1]) (n := 4) (Nat.le_of_ble_eq_true rfl)
  rw [lg_entry_eq]
  generalize (lg_sl ([.ref a0, .int p1]) ++ List.replicate (4 - (lg_sl ([.ref a0, .int p1])).length) Slot.unset).toArray = ls at hl ⊢
  have hl : lv_has ls 4 [(0, .ref a0), (1, .int p1)] := hl
  refine lv_iconst (v := 0) hx hb dX0_countOf_0 (by decide) ?_
  refine lv_istore_n (lv' := [(2, .int 0), (0, .ref a0), (1, .int p1)]) hx hb dX0_countOf_1 rfl hl (by decide) rfl (fun ls hl => ?_)
  refine lv_iconst (v := 0) hx hb dX0_countOf_2 (by decide) ?_
  refine lv_istore_n (lv' := [(3, .int 0), (2, .int 0), (0, .ref a0), (1, .int p1)]) hx hb dX0_countOf_3 rfl hl (by decide) rfl (fun ls hl => ?_)
  have L_4 : ∀ (fuel : Nat) (x4_0 : Int32) (x4_1 : Int32), n_X0_countOf_4 ln sa p1 fuel x4_0 x4_1 → f_X0_countOf ln sa p1 = f_X0_countOf_4 ln sa p1 fuel x4_0 x4_1 → ∀ (H : Heap) (locs : List Loc), va_P G.1 vwCl [tc_X0 a0 b0 b1 b2 b3 b4 b5 ln, tc_I G b4 10 sa] H → va_D A [tc_X0 a0 b0 b1 b2 b3 b4 b5 ln, tc_I G b4 10 sa] → va_S A s.heap H locs → ∀ ls : Array Slot, lv_has ls 4 [(3, .int x4_1), (2, .int x4_0), (0, .ref a0), (1, .int p1)] → W p l e (headSpec wsX0_countOf ({ frames := 0, cells := 0, slots := 0, locals := 0 } : Room)).room s m ([.ref a0, .int p1] : List Value).toArray below meth c H locs 0 0 (MQ below (va_Qi (fun (r : Int32) (u : Unit) => r = f_X0_countOf ln sa p1) (fun (u : Unit) (t : State) => va_P G.1 vwCl [tc_X0 a0 b0 b1 b2 b3 b4 b5 ln, tc_I G b4 10 sa] t.heap ∧ va_D A [tc_X0 a0 b0 b1 b2 b3 b4 b5 ln, tc_I G b4 10 sa]) A) ([.ref a0, .int p1] : List Value).toArray s 0 0 A) (F0 m 4 ls []) := by
    intro fuel
    induction fuel with
    | zero =>
      intro x4_0 x4_1 hnl; exact absurd hnl (by simp [n_X0_countOf_4])
    | succ fuel ih =>
      intro x4_0 x4_1 hnl hE H locs hP hD hS ls hl
      rw [n_X0_countOf_4] at hnl
      obtain ⟨n_2, n_4, n_5⟩ := hnl
      refine lv_iload_n hx hb dX0_countOf_4 rfl (lv_at hl 0 rfl) ?_
      refine lv_aload_n hx hb dX0_countOf_5 rfl (lv_at hl 2 rfl) ?_
      refine va_get (D := G.1) (ci := 0) (v := .int ln) (C := RX0) (T := TX0) (N := 7) hx hb hts hiX0 hown hK hP 0 rfl rfl 6 (by decide) (hts (.fieldLink RX0 37 "TideMill$Lots" "count" "I") (List.mem_of_getElem? (i := 1) rfl)) (fun _ h9 => h9) rfl dX0_countOf_6 ?_
      refine lv_icmp_ge (tgt := 31) hx hb dX0_countOf_9 (by decide) (fun c_1 => ?_) (fun c_1 => ?_)
      · refine lv_iload_n hx hb dX0_countOf_31 rfl (lv_at hl 1 rfl) ?_
        have hP9 := hP.sub (ws' := [tc_X0 a0 b0 b1 b2 b3 b4 b5 ln, tc_I G b4 10 sa]) [0, 1] rfl
        have hD9 := hD.sub (ws' := [tc_X0 a0 b0 b1 b2 b3 b4 b5 ln, tc_I G b4 10 sa]) [0, 1] (by decide) rfl
        exact W.iret (v := x4_0) hx hb hr (fun t ht hW => ⟨⟨x4_0, (), rfl, by rw [hE, f_X0_countOf_4]; all_goals (rw [if_pos c_1]); all_goals rfl, by rw [ht]; exact hP9, hD9⟩, hS.F ht⟩) hS.2.2 dX0_countOf_32
      · refine lv_aload_n hx hb dX0_countOf_12 rfl (lv_at hl 2 rfl) ?_
        refine va_get (D := G.1) (ci := 0) (v := .ref b4) (C := RX0) (T := TX0) (N := 7) hx hb hts hiX0 hown hK hP 0 rfl rfl 4 (by decide) (hts (.fieldLink RX0 24 "TideMill$Lots" "state" "[I") (List.mem_of_getElem? (i := 2) rfl)) (fun _ h9 => h9) rfl dX0_countOf_13 ?_
        refine lv_iload_n hx hb dX0_countOf_16 rfl (lv_at hl 0 rfl) ?_
        refine va_iald (n := 10) (f := sa) hx hb hK hP 1 0 rfl rfl (n_2 c_1) dX0_countOf_17 ?_
        refine lv_iload_n hx hb dX0_countOf_18 rfl (lv_at hl 3 rfl) ?_
        refine lv_icmp_ne (tgt := 25) hx hb dX0_countOf_19 (by decide) (fun c_3 => ?_) (fun c_3 => ?_)
        · refine lv_iinc (v := x4_1 + 1) (lv' := [(3, .int (x4_1 + 1)), (2, .int x4_0), (0, .ref a0), (1, .int p1)]) hx hb dX0_countOf_25 hl (k := 0) rfl rfl (by decide) rfl (fun ls hl => ?_)
          refine lv_goto (tgt := 4) hx hb dX0_countOf_28 (by decide) ?_
          have hP9 := hP.sub (ws' := [tc_X0 a0 b0 b1 b2 b3 b4 b5 ln, tc_I G b4 10 sa]) [0, 1] rfl
          have hD9 := hD.sub (ws' := [tc_X0 a0 b0 b1 b2 b3 b4 b5 ln, tc_I G b4 10 sa]) [0, 1] (by decide) rfl
          exact ih x4_0 (x4_1 + 1) (n_4 c_1 c_3) (by rw [hE, f_X0_countOf_4]; all_goals (rw [if_neg c_1]); all_goals (rw [if_neg c_3]); all_goals rfl) _ _ hP9 hD9 hS _ (lv_sub hl [0, 1, 2, 3] rfl)
        · refine lv_iinc (v := x4_0 + 1) (lv' := [(2, .int (x4_0 + 1)), (3, .int x4_1), (0, .ref a0), (1, .int p1)]) hx hb dX0_countOf_22 hl (k := 1) rfl rfl (by decide) rfl (fun ls hl => ?_)
          refine lv_iinc (v := x4_1 + 1) (lv' := [(3, .int (x4_1 + 1)), (2, .int (x4_0 + 1)), (0, .ref a0), (1, .int p1)]) hx hb dX0_countOf_25 hl (k := 1) rfl rfl (by decide) rfl (fun ls hl => ?_)
          refine lv_goto (tgt := 4) hx hb dX0_countOf_28 (by decide) ?_
          have hP9 := hP.sub (ws' := [tc_X0 a0 b0 b1 b2 b3 b4 b5 ln, tc_I G b4 10 sa]) [0, 1] rfl
          have hD9 := hD.sub (ws' := [tc_X0 a0 b0 b1 b2 b3 b4 b5 ln, tc_I G b4 10 sa]) [0, 1] (by decide) rfl
          exact ih (x4_0 + 1) (x4_1 + 1) (n_5 c_1 c_3) (by rw [hE, f_X0_countOf_4]; all_goals (rw [if_neg c_1]); all_goals (rw [if_pos c_3]); all_goals rfl) _ _ hP9 hD9 hS _ (lv_sub hl [0, 1, 2, 3] rfl)
  have hP9 := hP.sub (ws' := [tc_X0 a0 b0 b1 b2 b3 b4 b5 ln, tc_I G b4 10 sa]) [0, 1] rfl
  have hD9 := hD.sub (ws' := [tc_X0 a0 b0 b1 b2 b3 b4 b5 ln, tc_I G b4 10 sa]) [0, 1] (by decide) rfl
  exact L_4 12 0 0 n_6 (by unfold f_X0_countOf; all_goals rfl) _ _ hP9 hD9 hS _ (lv_sub hl [0, 1, 2, 3] rfl)
set_option maxHeartbeats 4000000 in
set_option maxRecDepth 100000 in
theorem c_X0_weightOf (l : Launch) (G : tm_G) (a0 : Nat) (b0 : Nat) (b1 : Nat) (b2 : Nat) (b3 : Nat) (b4 : Nat) (b5 : Nat) (sz : Nat) (ln : Int32) (ow : Nat → Int32) (we : Nat → Int32) (sa : Nat → Int32) (p1 : Int32) (p2 : Int32) (hn : n_X0_weightOf ln ow we sa p1 p2) : Met l yX0_weightOf wsX0_weightOf ({ frames := 0, cells := 0, slots := 0, locals := 0 }) (va_Pc [.ref a0, .int p1, .int p2] (tm_B G [tc_X0 a0 b0 b1 b2 b3 b4 b5 ln, tc_I G b0 10 ow, tc_I G b2 10 we, tc_I G b4 10 sa] sz)) (va_Qi (fun (r : Int32) (u : Unit) => r = f_X0_weightOf ln ow we sa p1 p2) (fun (u : Unit) (t : State) => va_P G.1 vwCl [tc_X0 a0 b0 b1 b2 b3 b4 b5 ln, tc_I G b0 10 ow, tc_I G b2 10 we, tc_I G b4 10 sa] t.heap ∧ va_D (va_A [tc_X0 a0 b0 b1 b2 b3 b4 b5 ln, tc_I G b0 10 ow, tc_I G b2 10 we, tc_I G b4 10 sa] sz) [tc_X0 a0 b0 b1 b2 b3 b4 b5 ln, tc_I G b0 10 ow, tc_I G b2 10 we, tc_I G b4 10 sa]) (va_A [tc_X0 a0 b0 b1 b2 b3 b4 b5 ln, tc_I G b0 10 ow, tc_I G b2 10 we, tc_I G b4 10 sa] sz)) 0 0 (va_A [tc_X0 a0 b0 b1 b2 b3 b4 b5 ln, tc_I G b0 10 ow, tc_I G b2 10 we, tc_I G b4 10 sa] sz) := by
  refine Met.ofW (cc := cX0_weightOf) (maxL := 5) (ret := (some .int)) (by decide) rfl ?_
  intro p e s m args below meth c s₁ B hml hv
  obtain ⟨rfl, hsz, hP, hK, hD0, hN, hV⟩ := hv
  have hx := B.exec
  have hb := B.bytes
  have hr := B.returns
  have hts := atoms_spec (ws := wsX0_weightOf) B.pre
  have hown : s.vm.findClass RX0 = some m.cls := findClass_of_methodNamed B.named
  have hlocks := B.notSynchronized
  subst hsz
  have n_10 := hn
  unfold n_X0_weightOf at n_10
  have hiX0 : ∀ w ∈ u_ws RX0 TX0 7, w ∈ wsX0_weightOf := fun _ h => List.mem_cons_of_mem _ (List.mem_append_right _ h)
  have hD := hD0.self (sz := s.heap.size)
  generalize hAe : va_A [tc_X0 a0 b0 b1 b2 b3 b4 b5 ln, tc_I G b0 10 ow, tc_I G b2 10 we, tc_I G b4 10 sa] s.heap.size = A at hD hV ⊢
  have hA : ∀ q : Nat, s.heap.size ≤ q → A q := fun q h => by rw [← hAe]; exact Or.inr h
  have hS : va_S A s.heap s.heap [] := va_S.rf
  have hl := lv_entry ([.ref a0, .int p1, .int p2]) (n := 5) (Nat.le_of_ble_eq_true rfl)
  rw [lg_entry_eq]
  generalize (lg_sl ([.ref a0, .int p1, .int p2]) ++ List.replicate (5 - (lg_sl ([.ref a0, .int p1, .int p2])).length) Slot.unset).toArray = ls at hl ⊢
  have hl : lv_has ls 5 [(0, .ref a0), (1, .int p1), (2, .int p2)] := hl
  refine lv_iconst (v := 0) hx hb dX0_weightOf_0 (by decide) ?_
  refine lv_istore_n (lv' := [(3, .int 0), (0, .ref a0), (1, .int p1), (2, .int p2)]) hx hb dX0_weightOf_1 rfl hl (by decide) rfl (fun ls hl => ?_)
  refine lv_iconst (v := 0) hx hb dX0_weightOf_2 (by decide) ?_
  refine lv_istore (lv' := [(4, .int 0), (3, .int 0), (0, .ref a0), (1, .int p1), (2, .int p2)]) hx hb dX0_weightOf_3 hl (by decide) rfl (fun ls hl => ?_)
  have L_5 : ∀ (fuel : Nat) (x5_0 : Int32) (x5_1 : Int32), n_X0_weightOf_5 ln ow we sa p1 p2 fuel x5_0 x5_1 → f_X0_weightOf ln ow we sa p1 p2 = f_X0_weightOf_5 ln ow we sa p1 p2 fuel x5_0 x5_1 → ∀ (H : Heap) (locs : List Loc), va_P G.1 vwCl [tc_X0 a0 b0 b1 b2 b3 b4 b5 ln, tc_I G b0 10 ow, tc_I G b2 10 we, tc_I G b4 10 sa] H → va_D A [tc_X0 a0 b0 b1 b2 b3 b4 b5 ln, tc_I G b0 10 ow, tc_I G b2 10 we, tc_I G b4 10 sa] → va_S A s.heap H locs → ∀ ls : Array Slot, lv_has ls 5 [(4, .int x5_1), (3, .int x5_0), (0, .ref a0), (1, .int p1), (2, .int p2)] → W p l e (headSpec wsX0_weightOf ({ frames := 0, cells := 0, slots := 0, locals := 0 } : Room)).room s m ([.ref a0, .int p1, .int p2] : List Value).toArray below meth c H locs 0 0 (MQ below (va_Qi (fun (r : Int32) (u : Unit) => r = f_X0_weightOf ln ow we sa p1 p2) (fun (u : Unit) (t : State) => va_P G.1 vwCl [tc_X0 a0 b0 b1 b2 b3 b4 b5 ln, tc_I G b0 10 ow, tc_I G b2 10 we, tc_I G b4 10 sa] t.heap ∧ va_D A [tc_X0 a0 b0 b1 b2 b3 b4 b5 ln, tc_I G b0 10 ow, tc_I G b2 10 we, tc_I G b4 10 sa]) A) ([.ref a0, .int p1, .int p2] : List Value).toArray s 0 0 A) (F0 m 5 ls []) := by
    intro fuel
    induction fuel with
    | zero =>
      intro x5_0 x5_1 hnl; exact absurd hnl (by simp [n_X0_weightOf_5])
    | succ fuel ih =>
      intro x5_0 x5_1 hnl hE H locs hP hD hS ls hl
      rw [n_X0_weightOf_5] at hnl
      obtain ⟨n_2, n_4, n_6, n_8, n_9⟩ := hnl
      refine lv_iload hx hb dX0_weightOf_5 (lv_at hl 0 rfl) ?_
      refine lv_aload_n hx hb dX0_weightOf_7 rfl (lv_at hl 2 rfl) ?_
      refine va_get (D := G.1) (ci := 0) (v := .int ln) (C := RX0) (T := TX0) (N := 7) hx hb hts hiX0 hown hK hP 0 rfl rfl 6 (by decide) (hts (.fieldLink RX0 37 "TideMill$Lots" "count" "I") (List.mem_of_getElem? (i := 1) rfl)) (fun _ h9 => h9) rfl dX0_weightOf_8 ?_
      refine lv_icmp_ge (tgt := 56) hx hb dX0_weightOf_11 (by decide) (fun c_1 => ?_) (fun c_1 => ?_)
      · refine lv_iload_n hx hb dX0_weightOf_56 rfl (lv_at hl 1 rfl) ?_
        have hP9 := hP.sub (ws' := [tc_X0 a0 b0 b1 b2 b3 b4 b5 ln, tc_I G b0 10 ow, tc_I G b2 10 we, tc_I G b4 10 sa]) [0, 1, 2, 3] rfl
        have hD9 := hD.sub (ws' := [tc_X0 a0 b0 b1 b2 b3 b4 b5 ln, tc_I G b0 10 ow, tc_I G b2 10 we, tc_I G b4 10 sa]) [0, 1, 2, 3] (by decide) rfl
        exact W.iret (v := x5_0) hx hb hr (fun t ht hW => ⟨⟨x5_0, (), rfl, by rw [hE, f_X0_weightOf_5]; all_goals (rw [if_pos c_1]); all_goals rfl, by rw [ht]; exact hP9, hD9⟩, hS.F ht⟩) hS.2.2 dX0_weightOf_57
      · refine lv_aload_n hx hb dX0_weightOf_14 rfl (lv_at hl 2 rfl) ?_
        refine va_get (D := G.1) (ci := 0) (v := .ref b0) (C := RX0) (T := TX0) (N := 7) hx hb hts hiX0 hown hK hP 0 rfl rfl 0 (by decide) (hts (.fieldLink RX0 9 "TideMill$Lots" "owner" "[I") (List.mem_of_getElem? (i := 2) rfl)) (fun _ h9 => h9) rfl dX0_weightOf_15 ?_
        refine lv_iload hx hb dX0_weightOf_18 (lv_at hl 0 rfl) ?_
        refine va_iald (n := 10) (f := ow) hx hb hK hP 1 0 rfl rfl (n_2 c_1) dX0_weightOf_20 ?_
        refine lv_iload_n hx hb dX0_weightOf_21 rfl (lv_at hl 3 rfl) ?_
        refine lv_icmp_ne (tgt := 50) hx hb dX0_weightOf_22 (by decide) (fun c_3 => ?_) (fun c_3 => ?_)
        · refine lv_iinc (v := x5_1 + 1) (lv' := [(4, .int (x5_1 + 1)), (3, .int x5_0), (0, .ref a0), (1, .int p1), (2, .int p2)]) hx hb dX0_weightOf_50 hl (k := 0) rfl rfl (by decide) rfl (fun ls hl => ?_)
          refine lv_goto (tgt := 5) hx hb dX0_weightOf_53 (by decide) ?_
          have hP9 := hP.sub (ws' := [tc_X0 a0 b0 b1 b2 b3 b4 b5 ln, tc_I G b0 10 ow, tc_I G b2 10 we, tc_I G b4 10 sa]) [0, 1, 2, 3] rfl
          have hD9 := hD.sub (ws' := [tc_X0 a0 b0 b1 b2 b3 b4 b5 ln, tc_I G b0 10 ow, tc_I G b2 10 we, tc_I G b4 10 sa]) [0, 1, 2, 3] (by decide) rfl
          exact ih x5_0 (x5_1 + 1) (n_4 c_1 c_3) (by rw [hE, f_X0_weightOf_5]; all_goals (rw [if_neg c_1]); all_goals (rw [if_neg c_3]); all_goals rfl) _ _ hP9 hD9 hS _ (lv_sub hl [0, 1, 2, 3, 4] rfl)
        · refine lv_iload_n hx hb dX0_weightOf_25 rfl (lv_at hl 4 rfl) ?_
          refine lv_if_ne (tgt := 40) hx hb dX0_weightOf_26 (by decide) (fun c_5 => ?_) (fun c_5 => ?_)
          · refine lv_iload_n hx hb dX0_weightOf_40 rfl (lv_at hl 1 rfl) ?_
            refine lv_aload_n hx hb dX0_weightOf_41 rfl (lv_at hl 2 rfl) ?_
            refine va_get (D := G.1) (ci := 0) (v := .ref b2) (C := RX0) (T := TX0) (N := 7) hx hb hts hiX0 hown hK hP 0 rfl rfl 2 (by decide) (hts (.fieldLink RX0 18 "TideMill$Lots" "weight" "[I") (List.mem_of_getElem? (i := 4) rfl)) (fun _ h9 => h9) rfl dX0_weightOf_42 ?_
            refine lv_iload hx hb dX0_weightOf_45 (lv_at hl 0 rfl) ?_
            refine va_iald (n := 10) (f := we) hx hb hK hP 2 0 rfl rfl (n_2 c_1) dX0_weightOf_47 ?_
            refine lv_iadd hx hb dX0_weightOf_48 ?_
            refine lv_istore_n (lv' := [(3, .int (x5_0 + (we x5_1.toNatClampNeg))), (4, .int x5_1), (0, .ref a0), (1, .int p1), (2, .int p2)]) hx hb dX0_weightOf_49 rfl hl (by decide) rfl (fun ls hl => ?_)
            refine lv_iinc (v := x5_1 + 1) (lv' := [(4, .int (x5_1 + 1)), (3, .int (x5_0 + (we x5_1.toNatClampNeg))), (0, .ref a0), (1, .int p1), (2, .int p2)]) hx hb dX0_weightOf_50 hl (k := 1) rfl rfl (by decide) rfl (fun ls hl => ?_)
            refine lv_goto (tgt := 5) hx hb dX0_weightOf_53 (by decide) ?_
            have hP9 := hP.sub (ws' := [tc_X0 a0 b0 b1 b2 b3 b4 b5 ln, tc_I G b0 10 ow, tc_I G b2 10 we, tc_I G b4 10 sa]) [0, 1, 2, 3] rfl
            have hD9 := hD.sub (ws' := [tc_X0 a0 b0 b1 b2 b3 b4 b5 ln, tc_I G b0 10 ow, tc_I G b2 10 we, tc_I G b4 10 sa]) [0, 1, 2, 3] (by decide) rfl
            exact ih (x5_0 + (we x5_1.toNatClampNeg)) (x5_1 + 1) (n_6 c_1 c_3 c_5) (by rw [hE, f_X0_weightOf_5]; all_goals (rw [if_neg c_1]); all_goals (rw [if_pos c_3]); all_goals (rw [if_neg c_5]); all_goals rfl) _ _ hP9 hD9 hS _ (lv_sub hl [0, 1, 2, 3, 4] rfl)
          · refine lv_aload_n hx hb dX0_weightOf_29 rfl (lv_at hl 2 rfl) ?_
            refine va_get (D := G.1) (ci := 0) (v := .ref b4) (C := RX0) (T := TX0) (N := 7) hx hb hts hiX0 hown hK hP 0 rfl rfl 4 (by decide) (hts (.fieldLink RX0 24 "TideMill$Lots" "state" "[I") (List.mem_of_getElem? (i := 3) rfl)) (fun _ h9 => h9) rfl dX0_weightOf_30 ?_
            refine lv_iload hx hb dX0_weightOf_33 (lv_at hl 0 rfl) ?_
            refine va_iald (n := 10) (f := sa) hx hb hK hP 3 0 rfl rfl (n_2 c_1) dX0_weightOf_35 ?_
            refine lv_iconst (v := 3) hx hb dX0_weightOf_36 (by decide) ?_
            refine lv_icmp_eq (tgt := 50) hx hb dX0_weightOf_37 (by decide) (fun c_7 => ?_) (fun c_7 => ?_)
            · refine lv_iinc (v := x5_1 + 1) (lv' := [(4, .int (x5_1 + 1)), (3, .int x5_0), (0, .ref a0), (1, .int p1), (2, .int p2)]) hx hb dX0_weightOf_50 hl (k := 0) rfl rfl (by decide) rfl (fun ls hl => ?_)
              refine lv_goto (tgt := 5) hx hb dX0_weightOf_53 (by decide) ?_
              have hP9 := hP.sub (ws' := [tc_X0 a0 b0 b1 b2 b3 b4 b5 ln, tc_I G b0 10 ow, tc_I G b2 10 we, tc_I G b4 10 sa]) [0, 1, 2, 3] rfl
              have hD9 := hD.sub (ws' := [tc_X0 a0 b0 b1 b2 b3 b4 b5 ln, tc_I G b0 10 ow, tc_I G b2 10 we, tc_I G b4 10 sa]) [0, 1, 2, 3] (by decide) rfl
              exact ih x5_0 (x5_1 + 1) (n_8 c_1 c_3 c_5 c_7) (by rw [hE, f_X0_weightOf_5]; all_goals (rw [if_neg c_1]); all_goals (rw [if_pos c_3]); all_goals (rw [if_pos c_5]); all_goals (rw [if_pos c_7]); all_goals rfl) _ _ hP9 hD9 hS _ (lv_sub hl [0, 1, 2, 3, 4] rfl)
            · refine lv_iload_n hx hb dX0_weightOf_40 rfl (lv_at hl 1 rfl) ?_
              refine lv_aload_n hx hb dX0_weightOf_41 rfl (lv_at hl 2 rfl) ?_
              refine va_get (D := G.1) (ci := 0) (v := .ref b2) (C := RX0) (T := TX0) (N := 7) hx hb hts hiX0 hown hK hP 0 rfl rfl 2 (by decide) (hts (.fieldLink RX0 18 "TideMill$Lots" "weight" "[I") (List.mem_of_getElem? (i := 4) rfl)) (fun _ h9 => h9) rfl dX0_weightOf_42 ?_
              refine lv_iload hx hb dX0_weightOf_45 (lv_at hl 0 rfl) ?_
              refine va_iald (n := 10) (f := we) hx hb hK hP 2 0 rfl rfl (n_2 c_1) dX0_weightOf_47 ?_
              refine lv_iadd hx hb dX0_weightOf_48 ?_
              refine lv_istore_n (lv' := [(3, .int (x5_0 + (we x5_1.toNatClampNeg))), (4, .int x5_1), (0, .ref a0), (1, .int p1), (2, .int p2)]) hx hb dX0_weightOf_49 rfl hl (by decide) rfl (fun ls hl => ?_)
              refine lv_iinc (v := x5_1 + 1) (lv' := [(4, .int (x5_1 + 1)), (3, .int (x5_0 + (we x5_1.toNatClampNeg))), (0, .ref a0), (1, .int p1), (2, .int p2)]) hx hb dX0_weightOf_50 hl (k := 1) rfl rfl (by decide) rfl (fun ls hl => ?_)
              refine lv_goto (tgt := 5) hx hb dX0_weightOf_53 (by decide) ?_
              have hP9 := hP.sub (ws' := [tc_X0 a0 b0 b1 b2 b3 b4 b5 ln, tc_I G b0 10 ow, tc_I G b2 10 we, tc_I G b4 10 sa]) [0, 1, 2, 3] rfl
              have hD9 := hD.sub (ws' := [tc_X0 a0 b0 b1 b2 b3 b4 b5 ln, tc_I G b0 10 ow, tc_I G b2 10 we, tc_I G b4 10 sa]) [0, 1, 2, 3] (by decide) rfl
              exact ih (x5_0 + (we x5_1.toNatClampNeg)) (x5_1 + 1) (n_9 c_1 c_3 c_5 c_7) (by rw [hE, f_X0_weightOf_5]; all_goals (rw [if_neg c_1]); all_goals (rw [if_pos c_3]); all_goals (rw [if_pos c_5]); all_goals (rw [if_neg c_7]); all_goals rfl) _ _ hP9 hD9 hS _ (lv_sub hl [0, 1, 2, 3, 4] rfl)
  have hP9 := hP.sub (ws' := [tc_X0 a0 b0 b1 b2 b3 b4 b5 ln, tc_I G b0 10 ow, tc_I G b2 10 we, tc_I G b4 10 sa]) [0, 1, 2, 3] rfl
  have hD9 := hD.sub (ws' := [tc_X0 a0 b0 b1 b2 b3 b4 b5 ln, tc_I G b0 10 ow, tc_I G b2 10 we, tc_I G b4 10 sa]) [0, 1, 2, 3] (by decide) rfl
  exact L_5 12 0 0 n_10 (by unfold f_X0_weightOf; all_goals rfl) _ _ hP9 hD9 hS _ (lv_sub hl [0, 1, 2, 3, 4] rfl)
set_option maxHeartbeats 4000000 in
set_option maxRecDepth 100000 in
theorem c_X0_allLeft (l : Launch) (G : tm_G) (a0 : Nat) (b0 : Nat) (b1 : Nat) (b2 : Nat) (b3 : Nat) (b4 : Nat) (b5 : Nat) (sz : Nat) (ln : Int32) (le : Nat → UInt64) (hn : n_X0_allLeft ln le) : Met l yX0_allLeft wsX0_allLeft ({ frames := 0, cells := 0, slots := 0, locals := 0 }) (va_Pc [.ref a0] (tm_B G [tc_X0 a0 b0 b1 b2 b3 b4 b5 ln, tc_D G b5 10 le] sz)) (va_Qd (fun (r : UInt64) (u : Unit) => r = f_X0_allLeft ln le) (fun (u : Unit) (t : State) => va_P G.1 vwCl [tc_X0 a0 b0 b1 b2 b3 b4 b5 ln, tc_D G b5 10 le] t.heap ∧ va_D (va_A [tc_X0 a0 b0 b1 b2 b3 b4 b5 ln, tc_D G b5 10 le] sz) [tc_X0 a0 b0 b1 b2 b3 b4 b5 ln, tc_D G b5 10 le]) (va_A [tc_X0 a0 b0 b1 b2 b3 b4 b5 ln, tc_D G b5 10 le] sz)) 0 0 (va_A [tc_X0 a0 b0 b1 b2 b3 b4 b5 ln, tc_D G b5 10 le] sz) := by
  refine Met.ofW (cc := cX0_allLeft) (maxL := 4) (ret := (some .double)) (by decide) rfl ?_
  intro p e s m args below meth c s₁ B hml hv
  obtain ⟨rfl, hsz, hP, hK, hD0, hN, hV⟩ := hv
  have hx := B.exec
  have hb := B.bytes
  have hr := B.returns
  have hts := atoms_spec (ws := wsX0_allLeft) B.pre
  have hown : s.vm.findClass RX0 = some m.cls := findClass_of_methodNamed B.named
  have hlocks := B.notSynchronized
  subst hsz
  have n_5 := hn
  unfold n_X0_allLeft at n_5
  have hiX0 : ∀ w ∈ u_ws RX0 TX0 7, w ∈ wsX0_allLeft := fun _ h => List.mem_cons_of_mem _ (List.mem_append_right _ h)
  have hD := hD0.self (sz := s.heap.size)
  generalize hAe : va_A [tc_X0 a0 b0 b1 b2 b3 b4 b5 ln, tc_D G b5 10 le] s.heap.size = A at hD hV ⊢
  have hA : ∀ q : Nat, s.heap.size ≤ q → A q := fun q h => by rw [← hAe]; exact Or.inr h
  have hS : va_S A s.heap s.heap [] := va_S.rf
  have hl := lv_entry ([.ref a0]) (n := 4) (Nat.le_of_ble_eq_true rfl)
  rw [lg_entry_eq]
  generalize (lg_sl ([.ref a0]) ++ List.replicate (4 - (lg_sl ([.ref a0])).length) Slot.unset).toArray = ls at hl ⊢
  have hl : lv_has ls 4 [(0, .ref a0)] := hl
  refine lv_dconst0 hx hb dX0_allLeft_0 ?_
  refine lv_dstore_n (lv' := [(1, .double FP.dconst0), (0, .ref a0)]) hx hb dX0_allLeft_1 rfl hl (by decide) rfl (fun ls hl => ?_)
  refine lv_iconst (v := 0) hx hb dX0_allLeft_2 (by decide) ?_
  refine lv_istore_n (lv' := [(3, .int 0), (1, .double FP.dconst0), (0, .ref a0)]) hx hb dX0_allLeft_3 rfl hl (by decide) rfl (fun ls hl => ?_)
  have L_4 : ∀ (fuel : Nat) (x4_0 : UInt64) (x4_1 : Int32), n_X0_allLeft_4 ln le fuel x4_0 x4_1 → f_X0_allLeft ln le = f_X0_allLeft_4 ln le fuel x4_0 x4_1 → ∀ (H : Heap) (locs : List Loc), va_P G.1 vwCl [tc_X0 a0 b0 b1 b2 b3 b4 b5 ln, tc_D G b5 10 le] H → va_D A [tc_X0 a0 b0 b1 b2 b3 b4 b5 ln, tc_D G b5 10 le] → va_S A s.heap H locs → ∀ ls : Array Slot, lv_has ls 4 [(3, .int x4_1), (1, .double x4_0), (0, .ref a0)] → W p l e (headSpec wsX0_allLeft ({ frames := 0, cells := 0, slots := 0, locals := 0 } : Room)).room s m ([.ref a0] : List Value).toArray below meth c H locs 0 0 (MQ below (va_Qd (fun (r : UInt64) (u : Unit) => r = f_X0_allLeft ln le) (fun (u : Unit) (t : State) => va_P G.1 vwCl [tc_X0 a0 b0 b1 b2 b3 b4 b5 ln, tc_D G b5 10 le] t.heap ∧ va_D A [tc_X0 a0 b0 b1 b2 b3 b4 b5 ln, tc_D G b5 10 le]) A) ([.ref a0] : List Value).toArray s 0 0 A) (F0 m 4 ls []) := by
    intro fuel
    induction fuel with
    | zero =>
      intro x4_0 x4_1 hnl; exact absurd hnl (by simp [n_X0_allLeft_4])
    | succ fuel ih =>
      intro x4_0 x4_1 hnl hE H locs hP hD hS ls hl
      rw [n_X0_allLeft_4] at hnl
      obtain ⟨n_2, n_3, n_4⟩ := hnl
      refine lv_iload_n hx hb dX0_allLeft_4 rfl (lv_at hl 0 rfl) ?_
      refine lv_aload_n hx hb dX0_allLeft_5 rfl (lv_at hl 2 rfl) ?_
      refine va_get (D := G.1) (ci := 0) (v := .int ln) (C := RX0) (T := TX0) (N := 7) hx hb hts hiX0 hown hK hP 0 rfl rfl 6 (by decide) (hts (.fieldLink RX0 37 "TideMill$Lots" "count" "I") (List.mem_of_getElem? (i := 1) rfl)) (fun _ h9 => h9) rfl dX0_allLeft_6 ?_
      refine lv_icmp_ge (tgt := 27) hx hb dX0_allLeft_9 (by decide) (fun c_1 => ?_) (fun c_1 => ?_)
      · refine lv_dload_n hx hb dX0_allLeft_27 rfl (lv_at hl 1 rfl) ?_
        have hP9 := hP.sub (ws' := [tc_X0 a0 b0 b1 b2 b3 b4 b5 ln, tc_D G b5 10 le]) [0, 1] rfl
        have hD9 := hD.sub (ws' := [tc_X0 a0 b0 b1 b2 b3 b4 b5 ln, tc_D G b5 10 le]) [0, 1] (by decide) rfl
        exact W.dret (v := x4_0) hx hb hr (fun t ht hW => ⟨⟨x4_0, (), rfl, by rw [hE, f_X0_allLeft_4]; all_goals (rw [if_pos c_1]); all_goals rfl, by rw [ht]; exact hP9, hD9⟩, hS.F ht⟩) hS.2.2 dX0_allLeft_28
      · refine lv_dload_n hx hb dX0_allLeft_12 rfl (lv_at hl 1 rfl) ?_
        refine lv_aload_n hx hb dX0_allLeft_13 rfl (lv_at hl 2 rfl) ?_
        refine va_get (D := G.1) (ci := 0) (v := .ref b5) (C := RX0) (T := TX0) (N := 7) hx hb hts hiX0 hown hK hP 0 rfl rfl 5 (by decide) (hts (.fieldLink RX0 27 "TideMill$Lots" "left" "[D") (List.mem_of_getElem? (i := 2) rfl)) (fun _ h9 => h9) rfl dX0_allLeft_14 ?_
        refine lv_iload_n hx hb dX0_allLeft_17 rfl (lv_at hl 0 rfl) ?_
        refine va_dald (n := 10) (f := le) hx hb hK hP 1 1 rfl rfl (n_2 c_1) dX0_allLeft_18 ?_
        refine lv_dadd hx hb dX0_allLeft_19 (n_3 c_1) ?_
        refine lv_dstore_n (lv' := [(1, .double (FP.dadd x4_0 (le x4_1.toNatClampNeg))), (3, .int x4_1), (0, .ref a0)]) hx hb dX0_allLeft_20 rfl hl (by decide) rfl (fun ls hl => ?_)
        refine lv_iinc (v := x4_1 + 1) (lv' := [(3, .int (x4_1 + 1)), (1, .double (FP.dadd x4_0 (le x4_1.toNatClampNeg))), (0, .ref a0)]) hx hb dX0_allLeft_21 hl (k := 1) rfl rfl (by decide) rfl (fun ls hl => ?_)
        refine lv_goto (tgt := 4) hx hb dX0_allLeft_24 (by decide) ?_
        have hP9 := hP.sub (ws' := [tc_X0 a0 b0 b1 b2 b3 b4 b5 ln, tc_D G b5 10 le]) [0, 1] rfl
        have hD9 := hD.sub (ws' := [tc_X0 a0 b0 b1 b2 b3 b4 b5 ln, tc_D G b5 10 le]) [0, 1] (by decide) rfl
        exact ih (FP.dadd x4_0 (le x4_1.toNatClampNeg)) (x4_1 + 1) (n_4 c_1) (by rw [hE, f_X0_allLeft_4]; all_goals (rw [if_neg c_1]); all_goals rfl) _ _ hP9 hD9 hS _ (lv_sub hl [0, 1, 2] rfl)
  have hP9 := hP.sub (ws' := [tc_X0 a0 b0 b1 b2 b3 b4 b5 ln, tc_D G b5 10 le]) [0, 1] rfl
  have hD9 := hD.sub (ws' := [tc_X0 a0 b0 b1 b2 b3 b4 b5 ln, tc_D G b5 10 le]) [0, 1] (by decide) rfl
  exact L_4 12 FP.dconst0 0 n_5 (by unfold f_X0_allLeft; all_goals rfl) _ _ hP9 hD9 hS _ (lv_sub hl [0, 1, 2] rfl)
set_option maxHeartbeats 4000000 in
set_option maxRecDepth 100000 in
theorem c_X2_withLot (l : Launch) (G : tm_G) (a0 : Nat) (d0 : Nat) (d1 : Nat) (d2 : Nat) (d3 : Nat) (sz : Nat) (pn : Int32) (pl : Nat → Int32) (p1 : Int32) (hn : n_X2_withLot pn pl p1) : Met l yX2_withLot wsX2_withLot ({ frames := 0, cells := 0, slots := 0, locals := 0 }) (va_Pc [.ref a0, .int p1] (tm_B G [tc_X2 a0 d0 d1 d2 d3 pn, tc_I G d1 3 pl] sz)) (va_Qi (fun (r : Int32) (u : Unit) => r = f_X2_withLot pn pl p1) (fun (u : Unit) (t : State) => va_P G.1 vwCl [tc_X2 a0 d0 d1 d2 d3 pn, tc_I G d1 3 pl] t.heap ∧ va_D (va_A [tc_X2 a0 d0 d1 d2 d3 pn, tc_I G d1 3 pl] sz) [tc_X2 a0 d0 d1 d2 d3 pn, tc_I G d1 3 pl]) (va_A [tc_X2 a0 d0 d1 d2 d3 pn, tc_I G d1 3 pl] sz)) 0 0 (va_A [tc_X2 a0 d0 d1 d2 d3 pn, tc_I G d1 3 pl] sz) := by
  refine Met.ofW (cc := cX2_withLot) (maxL := 3) (ret := (some .int)) (by decide) rfl ?_
  intro p e s m args below meth c s₁ B hml hv
  obtain ⟨rfl, hsz, hP, hK, hD0, hN, hV⟩ := hv
  have hx := B.exec
  have hb := B.bytes
  have hr := B.returns
  have hts := atoms_spec (ws := wsX2_withLot) B.pre
  have hown : s.vm.findClass RX2 = some m.cls := findClass_of_methodNamed B.named
  have hlocks := B.notSynchronized
  subst hsz
  have n_5 := hn
  unfold n_X2_withLot at n_5
  have hiX2 : ∀ w ∈ u_ws RX2 TX2 5, w ∈ wsX2_withLot := fun _ h => List.mem_cons_of_mem _ (List.mem_append_right _ h)
  have hD := hD0.self (sz := s.heap.size)
  generalize hAe : va_A [tc_X2 a0 d0 d1 d2 d3 pn, tc_I G d1 3 pl] s.heap.size = A at hD hV ⊢
  have hA : ∀ q : Nat, s.heap.size ≤ q → A q := fun q h => by rw [← hAe]; exact Or.inr h
  have hS : va_S A s.heap s.heap [] := va_S.rf
  have hl := lv_entry ([.ref a0, .int p1]) (n := 3) (Nat.le_of_ble_eq_true rfl)
  rw [lg_entry_eq]
  generalize (lg_sl ([.ref a0, .int p1]) ++ List.replicate (3 - (lg_sl ([.ref a0, .int p1])).length) Slot.unset).toArray = ls at hl ⊢
  have hl : lv_has ls 3 [(0, .ref a0), (1, .int p1)] := hl
  refine lv_iconst (v := 0) hx hb dX2_withLot_0 (by decide) ?_
  refine lv_istore_n (lv' := [(2, .int 0), (0, .ref a0), (1, .int p1)]) hx hb dX2_withLot_1 rfl hl (by decide) rfl (fun ls hl => ?_)
  have L_2 : ∀ (fuel : Nat) (x2_0 : Int32), n_X2_withLot_2 pn pl p1 fuel x2_0 → f_X2_withLot pn pl p1 = f_X2_withLot_2 pn pl p1 fuel x2_0 → ∀ (H : Heap) (locs : List Loc), va_P G.1 vwCl [tc_X2 a0 d0 d1 d2 d3 pn, tc_I G d1 3 pl] H → va_D A [tc_X2 a0 d0 d1 d2 d3 pn, tc_I G d1 3 pl] → va_S A s.heap H locs → ∀ ls : Array Slot, lv_has ls 3 [(2, .int x2_0), (0, .ref a0), (1, .int p1)] → W p l e (headSpec wsX2_withLot ({ frames := 0, cells := 0, slots := 0, locals := 0 } : Room)).room s m ([.ref a0, .int p1] : List Value).toArray below meth c H locs 0 0 (MQ below (va_Qi (fun (r : Int32) (u : Unit) => r = f_X2_withLot pn pl p1) (fun (u : Unit) (t : State) => va_P G.1 vwCl [tc_X2 a0 d0 d1 d2 d3 pn, tc_I G d1 3 pl] t.heap ∧ va_D A [tc_X2 a0 d0 d1 d2 d3 pn, tc_I G d1 3 pl]) A) ([.ref a0, .int p1] : List Value).toArray s 0 0 A) (F0 m 2 ls []) := by
    intro fuel
    induction fuel with
    | zero =>
      intro x2_0 hnl; exact absurd hnl (by simp [n_X2_withLot_2])
    | succ fuel ih =>
      intro x2_0 hnl hE H locs hP hD hS ls hl
      rw [n_X2_withLot_2] at hnl
      obtain ⟨n_2, n_4⟩ := hnl
      refine lv_iload_n hx hb dX2_withLot_2 rfl (lv_at hl 0 rfl) ?_
      refine lv_aload_n hx hb dX2_withLot_3 rfl (lv_at hl 1 rfl) ?_
      refine va_get (D := G.1) (ci := 2) (v := .int pn) (C := RX2) (T := TX2) (N := 5) hx hb hts hiX2 hown hK hP 0 rfl rfl 4 (by decide) (hts (.fieldLink RX2 31 "TideMill$Pairs" "count" "I") (List.mem_of_getElem? (i := 1) rfl)) (fun _ h9 => h9) rfl dX2_withLot_4 ?_
      refine lv_icmp_ge (tgt := 28) hx hb dX2_withLot_7 (by decide) (fun c_1 => ?_) (fun c_1 => ?_)
      · refine lv_iconst (v := (-1)) hx hb dX2_withLot_28 (by decide) ?_
        have hP9 := hP.sub (ws' := [tc_X2 a0 d0 d1 d2 d3 pn, tc_I G d1 3 pl]) [0, 1] rfl
        have hD9 := hD.sub (ws' := [tc_X2 a0 d0 d1 d2 d3 pn, tc_I G d1 3 pl]) [0, 1] (by decide) rfl
        exact W.iret (v := (-1)) hx hb hr (fun t ht hW => ⟨⟨(-1), (), rfl, by rw [hE, f_X2_withLot_2]; all_goals (rw [if_pos c_1]); all_goals rfl, by rw [ht]; exact hP9, hD9⟩, hS.F ht⟩) hS.2.2 dX2_withLot_29
      · refine lv_aload_n hx hb dX2_withLot_10 rfl (lv_at hl 1 rfl) ?_
        refine va_get (D := G.1) (ci := 2) (v := .ref d1) (C := RX2) (T := TX2) (N := 5) hx hb hts hiX2 hown hK hP 0 rfl rfl 1 (by decide) (hts (.fieldLink RX2 15 "TideMill$Pairs" "lot" "[I") (List.mem_of_getElem? (i := 2) rfl)) (fun _ h9 => h9) rfl dX2_withLot_11 ?_
        refine lv_iload_n hx hb dX2_withLot_14 rfl (lv_at hl 0 rfl) ?_
        refine va_iald (n := 3) (f := pl) hx hb hK hP 1 0 rfl rfl (n_2 c_1) dX2_withLot_15 ?_
        refine lv_iload_n hx hb dX2_withLot_16 rfl (lv_at hl 2 rfl) ?_
        refine lv_icmp_ne (tgt := 22) hx hb dX2_withLot_17 (by decide) (fun c_3 => ?_) (fun c_3 => ?_)
        · refine lv_iinc (v := x2_0 + 1) (lv' := [(2, .int (x2_0 + 1)), (0, .ref a0), (1, .int p1)]) hx hb dX2_withLot_22 hl (k := 0) rfl rfl (by decide) rfl (fun ls hl => ?_)
          refine lv_goto (tgt := 2) hx hb dX2_withLot_25 (by decide) ?_
          have hP9 := hP.sub (ws' := [tc_X2 a0 d0 d1 d2 d3 pn, tc_I G d1 3 pl]) [0, 1] rfl
          have hD9 := hD.sub (ws' := [tc_X2 a0 d0 d1 d2 d3 pn, tc_I G d1 3 pl]) [0, 1] (by decide) rfl
          exact ih (x2_0 + 1) (n_4 c_1 c_3) (by rw [hE, f_X2_withLot_2]; all_goals (rw [if_neg c_1]); all_goals (rw [if_neg c_3]); all_goals rfl) _ _ hP9 hD9 hS _ (lv_sub hl [0, 1, 2] rfl)
        · refine lv_iload_n hx hb dX2_withLot_20 rfl (lv_at hl 0 rfl) ?_
          have hP9 := hP.sub (ws' := [tc_X2 a0 d0 d1 d2 d3 pn, tc_I G d1 3 pl]) [0, 1] rfl
          have hD9 := hD.sub (ws' := [tc_X2 a0 d0 d1 d2 d3 pn, tc_I G d1 3 pl]) [0, 1] (by decide) rfl
          exact W.iret (v := x2_0) hx hb hr (fun t ht hW => ⟨⟨x2_0, (), rfl, by rw [hE, f_X2_withLot_2]; all_goals (rw [if_neg c_1]); all_goals (rw [if_pos c_3]); all_goals rfl, by rw [ht]; exact hP9, hD9⟩, hS.F ht⟩) hS.2.2 dX2_withLot_21
  have hP9 := hP.sub (ws' := [tc_X2 a0 d0 d1 d2 d3 pn, tc_I G d1 3 pl]) [0, 1] rfl
  have hD9 := hD.sub (ws' := [tc_X2 a0 d0 d1 d2 d3 pn, tc_I G d1 3 pl]) [0, 1] (by decide) rfl
  exact L_2 5 0 n_5 (by unfold f_X2_withLot; all_goals rfl) _ _ hP9 hD9 hS _ (lv_sub hl [0, 1, 2] rfl)
set_option maxHeartbeats 4000000 in
set_option maxRecDepth 100000 in
theorem c_X2_allSparks (l : Launch) (G : tm_G) (a0 : Nat) (d0 : Nat) (d1 : Nat) (d2 : Nat) (d3 : Nat) (sz : Nat) (pn : Int32) (sp : Nat → Int32) (hn : n_X2_allSparks pn sp) : Met l yX2_allSparks wsX2_allSparks ({ frames := 0, cells := 0, slots := 0, locals := 0 }) (va_Pc [.ref a0] (tm_B G [tc_X2 a0 d0 d1 d2 d3 pn, tc_I G d3 3 sp] sz)) (va_Qi (fun (r : Int32) (u : Unit) => r = f_X2_allSparks pn sp) (fun (u : Unit) (t : State) => va_P G.1 vwCl [tc_X2 a0 d0 d1 d2 d3 pn, tc_I G d3 3 sp] t.heap ∧ va_D (va_A [tc_X2 a0 d0 d1 d2 d3 pn, tc_I G d3 3 sp] sz) [tc_X2 a0 d0 d1 d2 d3 pn, tc_I G d3 3 sp]) (va_A [tc_X2 a0 d0 d1 d2 d3 pn, tc_I G d3 3 sp] sz)) 0 0 (va_A [tc_X2 a0 d0 d1 d2 d3 pn, tc_I G d3 3 sp] sz) := by
  refine Met.ofW (cc := cX2_allSparks) (maxL := 3) (ret := (some .int)) (by decide) rfl ?_
  intro p e s m args below meth c s₁ B hml hv
  obtain ⟨rfl, hsz, hP, hK, hD0, hN, hV⟩ := hv
  have hx := B.exec
  have hb := B.bytes
  have hr := B.returns
  have hts := atoms_spec (ws := wsX2_allSparks) B.pre
  have hown : s.vm.findClass RX2 = some m.cls := findClass_of_methodNamed B.named
  have hlocks := B.notSynchronized
  subst hsz
  have n_4 := hn
  unfold n_X2_allSparks at n_4
  have hiX2 : ∀ w ∈ u_ws RX2 TX2 5, w ∈ wsX2_allSparks := fun _ h => List.mem_cons_of_mem _ (List.mem_append_right _ h)
  have hD := hD0.self (sz := s.heap.size)
  generalize hAe : va_A [tc_X2 a0 d0 d1 d2 d3 pn, tc_I G d3 3 sp] s.heap.size = A at hD hV ⊢
  have hA : ∀ q : Nat, s.heap.size ≤ q → A q := fun q h => by rw [← hAe]; exact Or.inr h
  have hS : va_S A s.heap s.heap [] := va_S.rf
  have hl := lv_entry ([.ref a0]) (n := 3) (Nat.le_of_ble_eq_true rfl)
  rw [lg_entry_eq]
  generalize (lg_sl ([.ref a0]) ++ List.replicate (3 - (lg_sl ([.ref a0])).length) Slot.unset).toArray = ls at hl ⊢
  have hl : lv_has ls 3 [(0, .ref a0)] := hl
  refine lv_iconst (v := 0) hx hb dX2_allSparks_0 (by decide) ?_
  refine lv_istore_n (lv' := [(1, .int 0), (0, .ref a0)]) hx hb dX2_allSparks_1 rfl hl (by decide) rfl (fun ls hl => ?_)
  refine lv_iconst (v := 0) hx hb dX2_allSparks_2 (by decide) ?_
  refine lv_istore_n (lv' := [(2, .int 0), (1, .int 0), (0, .ref a0)]) hx hb dX2_allSparks_3 rfl hl (by decide) rfl (fun ls hl => ?_)
  have L_4 : ∀ (fuel : Nat) (x4_0 : Int32) (x4_1 : Int32), n_X2_allSparks_4 pn sp fuel x4_0 x4_1 → f_X2_allSparks pn sp = f_X2_allSparks_4 pn sp fuel x4_0 x4_1 → ∀ (H : Heap) (locs : List Loc), va_P G.1 vwCl [tc_X2 a0 d0 d1 d2 d3 pn, tc_I G d3 3 sp] H → va_D A [tc_X2 a0 d0 d1 d2 d3 pn, tc_I G d3 3 sp] → va_S A s.heap H locs → ∀ ls : Array Slot, lv_has ls 3 [(2, .int x4_1), (1, .int x4_0), (0, .ref a0)] → W p l e (headSpec wsX2_allSparks ({ frames := 0, cells := 0, slots := 0, locals := 0 } : Room)).room s m ([.ref a0] : List Value).toArray below meth c H locs 0 0 (MQ below (va_Qi (fun (r : Int32) (u : Unit) => r = f_X2_allSparks pn sp) (fun (u : Unit) (t : State) => va_P G.1 vwCl [tc_X2 a0 d0 d1 d2 d3 pn, tc_I G d3 3 sp] t.heap ∧ va_D A [tc_X2 a0 d0 d1 d2 d3 pn, tc_I G d3 3 sp]) A) ([.ref a0] : List Value).toArray s 0 0 A) (F0 m 4 ls []) := by
    intro fuel
    induction fuel with
    | zero =>
      intro x4_0 x4_1 hnl; exact absurd hnl (by simp [n_X2_allSparks_4])
    | succ fuel ih =>
      intro x4_0 x4_1 hnl hE H locs hP hD hS ls hl
      rw [n_X2_allSparks_4] at hnl
      obtain ⟨n_2, n_3⟩ := hnl
      refine lv_iload_n hx hb dX2_allSparks_4 rfl (lv_at hl 0 rfl) ?_
      refine lv_aload_n hx hb dX2_allSparks_5 rfl (lv_at hl 2 rfl) ?_
      refine va_get (D := G.1) (ci := 2) (v := .int pn) (C := RX2) (T := TX2) (N := 5) hx hb hts hiX2 hown hK hP 0 rfl rfl 4 (by decide) (hts (.fieldLink RX2 31 "TideMill$Pairs" "count" "I") (List.mem_of_getElem? (i := 1) rfl)) (fun _ h9 => h9) rfl dX2_allSparks_6 ?_
      refine lv_icmp_ge (tgt := 27) hx hb dX2_allSparks_9 (by decide) (fun c_1 => ?_) (fun c_1 => ?_)
      · refine lv_iload_n hx hb dX2_allSparks_27 rfl (lv_at hl 1 rfl) ?_
        have hP9 := hP.sub (ws' := [tc_X2 a0 d0 d1 d2 d3 pn, tc_I G d3 3 sp]) [0, 1] rfl
        have hD9 := hD.sub (ws' := [tc_X2 a0 d0 d1 d2 d3 pn, tc_I G d3 3 sp]) [0, 1] (by decide) rfl
        exact W.iret (v := x4_0) hx hb hr (fun t ht hW => ⟨⟨x4_0, (), rfl, by rw [hE, f_X2_allSparks_4]; all_goals (rw [if_pos c_1]); all_goals rfl, by rw [ht]; exact hP9, hD9⟩, hS.F ht⟩) hS.2.2 dX2_allSparks_28
      · refine lv_iload_n hx hb dX2_allSparks_12 rfl (lv_at hl 1 rfl) ?_
        refine lv_aload_n hx hb dX2_allSparks_13 rfl (lv_at hl 2 rfl) ?_
        refine va_get (D := G.1) (ci := 2) (v := .ref d3) (C := RX2) (T := TX2) (N := 5) hx hb hts hiX2 hown hK hP 0 rfl rfl 3 (by decide) (hts (.fieldLink RX2 22 "TideMill$Pairs" "sparks" "[I") (List.mem_of_getElem? (i := 2) rfl)) (fun _ h9 => h9) rfl dX2_allSparks_14 ?_
        refine lv_iload_n hx hb dX2_allSparks_17 rfl (lv_at hl 0 rfl) ?_
        refine va_iald (n := 3) (f := sp) hx hb hK hP 1 0 rfl rfl (n_2 c_1) dX2_allSparks_18 ?_
        refine lv_iadd hx hb dX2_allSparks_19 ?_
        refine lv_istore_n (lv' := [(1, .int (x4_0 + (sp x4_1.toNatClampNeg))), (2, .int x4_1), (0, .ref a0)]) hx hb dX2_allSparks_20 rfl hl (by decide) rfl (fun ls hl => ?_)
        refine lv_iinc (v := x4_1 + 1) (lv' := [(2, .int (x4_1 + 1)), (1, .int (x4_0 + (sp x4_1.toNatClampNeg))), (0, .ref a0)]) hx hb dX2_allSparks_21 hl (k := 1) rfl rfl (by decide) rfl (fun ls hl => ?_)
        refine lv_goto (tgt := 4) hx hb dX2_allSparks_24 (by decide) ?_
        have hP9 := hP.sub (ws' := [tc_X2 a0 d0 d1 d2 d3 pn, tc_I G d3 3 sp]) [0, 1] rfl
        have hD9 := hD.sub (ws' := [tc_X2 a0 d0 d1 d2 d3 pn, tc_I G d3 3 sp]) [0, 1] (by decide) rfl
        exact ih (x4_0 + (sp x4_1.toNatClampNeg)) (x4_1 + 1) (n_3 c_1) (by rw [hE, f_X2_allSparks_4]; all_goals (rw [if_neg c_1]); all_goals rfl) _ _ hP9 hD9 hS _ (lv_sub hl [0, 1, 2] rfl)
  have hP9 := hP.sub (ws' := [tc_X2 a0 d0 d1 d2 d3 pn, tc_I G d3 3 sp]) [0, 1] rfl
  have hD9 := hD.sub (ws' := [tc_X2 a0 d0 d1 d2 d3 pn, tc_I G d3 3 sp]) [0, 1] (by decide) rfl
  exact L_4 5 0 0 n_4 (by unfold f_X2_allSparks; all_goals rfl) _ _ hP9 hD9 hS _ (lv_sub hl [0, 1, 2] rfl)
set_option maxHeartbeats 4000000 in
set_option maxRecDepth 100000 in
theorem c_X2_goBy (l : Launch) (G : tm_G) (a0 : Nat) (d0 : Nat) (d1 : Nat) (d2 : Nat) (d3 : Nat) (a1 : Nat) (b0 : Nat) (b1 : Nat) (b2 : Nat) (b3 : Nat) (b4 : Nat) (b5 : Nat) (sz : Nat) (pn : Int32) (dl : Nat → UInt32) (pl : Nat → Int32) (dr : Nat → Int32) (sp : Nat → Int32) (ln : Int32) (ow : Nat → Int32) (gr : Nat → Int32) (we : Nat → Int32) (du : Nat → Int32) (sa : Nat → Int32) (le : Nat → UInt64) (p1 : UInt64) (p2 : Int32) (hn : n_X2_goBy pn dl pl dr sp ln gr sa le p1 p2) : Met l yX2_goBy wsX2_goBy ({ frames := 3, cells := 0, slots := 0, locals := 76 }) (va_Pc [.ref a0, .double p1, .int p2, .ref a1] (tm_B G [tc_X2 a0 d0 d1 d2 d3 pn, tc_F G d0 3 dl, tc_I G d1 3 pl, tc_I G d2 3 dr, tc_I G d3 3 sp, tc_X0 a1 b0 b1 b2 b3 b4 b5 ln, tc_I G b0 10 ow, tc_I G b1 10 gr, tc_I G b2 10 we, tc_I G b3 10 du, tc_I G b4 10 sa, tc_D G b5 10 le] sz)) (va_Qv (fun (u : (Nat → UInt32) × (Nat → Int32) × (Nat → Int32) × (Nat → Int32) × (Nat → Int32) × (Nat → UInt64)) => u = f_X2_goBy pn dl pl dr sp ln gr sa le p1 p2) (fun (u : (Nat → UInt32) × (Nat → Int32) × (Nat → Int32) × (Nat → Int32) × (Nat → Int32) × (Nat → UInt64)) (t : State) => va_P G.1 vwCl [tc_X2 a0 d0 d1 d2 d3 pn, tc_F G d0 3 u.1, tc_I G d1 3 u.2.1, tc_I G d2 3 u.2.2.1, tc_I G d3 3 u.2.2.2.1, tc_X0 a1 b0 b1 b2 b3 b4 b5 ln, tc_I G b0 10 ow, tc_I G b1 10 gr, tc_I G b2 10 we, tc_I G b3 10 du, tc_I G b4 10 u.2.2.2.2.1, tc_D G b5 10 u.2.2.2.2.2] t.heap ∧ va_D (va_A [tc_X2 a0 d0 d1 d2 d3 pn, tc_F G d0 3 dl, tc_I G d1 3 pl, tc_I G d2 3 dr, tc_I G d3 3 sp, tc_X0 a1 b0 b1 b2 b3 b4 b5 ln, tc_I G b0 10 ow, tc_I G b1 10 gr, tc_I G b2 10 we, tc_I G b3 10 du, tc_I G b4 10 sa, tc_D G b5 10 le] sz) [tc_X2 a0 d0 d1 d2 d3 pn, tc_F G d0 3 u.1, tc_I G d1 3 u.2.1, tc_I G d2 3 u.2.2.1, tc_I G d3 3 u.2.2.2.1, tc_X0 a1 b0 b1 b2 b3 b4 b5 ln, tc_I G b0 10 ow, tc_I G b1 10 gr, tc_I G b2 10 we, tc_I G b3 10 du, tc_I G b4 10 u.2.2.2.2.1, tc_D G b5 10 u.2.2.2.2.2]) (va_A [tc_X2 a0 d0 d1 d2 d3 pn, tc_F G d0 3 dl, tc_I G d1 3 pl, tc_I G d2 3 dr, tc_I G d3 3 sp, tc_X0 a1 b0 b1 b2 b3 b4 b5 ln, tc_I G b0 10 ow, tc_I G b1 10 gr, tc_I G b2 10 we, tc_I G b3 10 du, tc_I G b4 10 sa, tc_D G b5 10 le] sz)) 0 0 (va_A [tc_X2 a0 d0 d1 d2 d3 pn, tc_F G d0 3 dl, tc_I G d1 3 pl, tc_I G d2 3 dr, tc_I G d3 3 sp, tc_X0 a1 b0 b1 b2 b3 b4 b5 ln, tc_I G b0 10 ow, tc_I G b1 10 gr, tc_I G b2 10 we, tc_I G b3 10 du, tc_I G b4 10 sa, tc_D G b5 10 le] sz) := by
  refine Met.ofW (cc := cX2_goBy) (maxL := 8) (ret := none) (by decide) rfl ?_
  intro p e s m args below meth c s₁ B hml hv
  obtain ⟨rfl, hsz, hP, hK, hD0, hN, hV⟩ := hv
  have hx := B.exec
  have hb := B.bytes
  have hr := B.returns
  have hts := atoms_spec (ws := wsX2_goBy) B.pre
  have hown : s.vm.findClass RX2 = some m.cls := findClass_of_methodNamed B.named
  have hlocks := B.notSynchronized
  subst hsz
  have n_40 := hn
  unfold n_X2_goBy at n_40
  have hiX2 : ∀ w ∈ u_ws RX2 TX2 5, w ∈ wsX2_goBy := fun _ h => List.mem_cons_of_mem _ (List.mem_append_left _ (List.mem_append_right _ h))
  have hD := hD0.self (sz := s.heap.size)
  generalize hAe : va_A [tc_X2 a0 d0 d1 d2 d3 pn, tc_F G d0 3 dl, tc_I G d1 3 pl, tc_I G d2 3 dr, tc_I G d3 3 sp, tc_X0 a1 b0 b1 b2 b3 b4 b5 ln, tc_I G b0 10 ow, tc_I G b1 10 gr, tc_I G b2 10 we, tc_I G b3 10 du, tc_I G b4 10 sa, tc_D G b5 10 le] s.heap.size = A at hD hV ⊢
  have hA : ∀ q : Nat, s.heap.size ≤ q → A q := fun q h => by rw [← hAe]; exact Or.inr h
  have hS : va_S A s.heap s.heap [] := va_S.rf
  have hl := lv_entry ([.ref a0, .double p1, .int p2, .ref a1]) (n := 8) (Nat.le_of_ble_eq_true rfl)
  rw [lg_entry_eq]
  generalize (lg_sl ([.ref a0, .double p1, .int p2, .ref a1]) ++ List.replicate (8 - (lg_sl ([.ref a0, .double p1, .int p2, .ref a1])).length) Slot.unset).toArray = ls at hl ⊢
  have hl : lv_has ls 8 [(0, .ref a0), (1, .double p1), (3, .int p2), (4, .ref a1)] := hl
  refine lv_dload_n hx hb dX2_goBy_0 rfl (lv_at hl 1 rfl) ?_
  refine lv_dstore (lv' := [(5, .double p1), (0, .ref a0), (1, .double p1), (3, .int p2), (4, .ref a1)]) hx hb dX2_goBy_1 hl (by decide) rfl (fun ls hl => ?_)
  refine lv_iconst (v := 0) hx hb dX2_goBy_3 (by decide) ?_
  refine lv_istore (lv' := [(7, .int 0), (5, .double p1), (0, .ref a0), (1, .double p1), (3, .int p2), (4, .ref a1)]) hx hb dX2_goBy_4 hl (by decide) rfl (fun ls hl => ?_)
  have L_6 : ∀ (fuel : Nat) (x6_0 : UInt64) (x6_1 : Int32) (x6_2 : Nat → Int32) (x6_3 : Nat → UInt64) (x6_4 : Nat → UInt32) (x6_5 : Nat → Int32) (x6_6 : Nat → Int32) (x6_7 : Nat → Int32), n_X2_goBy_6 pn ln gr p2 fuel x6_0 x6_1 x6_2 x6_3 x6_4 x6_5 x6_6 x6_7 → f_X2_goBy pn dl pl dr sp ln gr sa le p1 p2 = f_X2_goBy_6 pn ln gr p2 fuel x6_0 x6_1 x6_2 x6_3 x6_4 x6_5 x6_6 x6_7 → ∀ (H : Heap) (locs : List Loc), va_P G.1 vwCl [tc_X2 a0 d0 d1 d2 d3 pn, tc_F G d0 3 x6_4, tc_I G d1 3 x6_5, tc_I G d2 3 x6_6, tc_I G d3 3 x6_7, tc_X0 a1 b0 b1 b2 b3 b4 b5 ln, tc_I G b0 10 ow, tc_I G b1 10 gr, tc_I G b2 10 we, tc_I G b3 10 du, tc_I G b4 10 x6_2, tc_D G b5 10 x6_3] H → va_D A [tc_X2 a0 d0 d1 d2 d3 pn, tc_F G d0 3 x6_4, tc_I G d1 3 x6_5, tc_I G d2 3 x6_6, tc_I G d3 3 x6_7, tc_X0 a1 b0 b1 b2 b3 b4 b5 ln, tc_I G b0 10 ow, tc_I G b1 10 gr, tc_I G b2 10 we, tc_I G b3 10 du, tc_I G b4 10 x6_2, tc_D G b5 10 x6_3] → va_S A s.heap H locs → ∀ ls : Array Slot, lv_has ls 8 [(7, .int x6_1), (5, .double x6_0), (0, .ref a0), (1, .double p1), (3, .int p2), (4, .ref a1)] → W p l e (headSpec wsX2_goBy ({ frames := 3, cells := 0, slots := 0, locals := 76 } : Room)).room s m ([.ref a0, .double p1, .int p2, .ref a1] : List Value).toArray below meth c H locs 0 0 (MQ below (va_Qv (fun (u : (Nat → UInt32) × (Nat → Int32) × (Nat → Int32) × (Nat → Int32) × (Nat → Int32) × (Nat → UInt64)) => u = f_X2_goBy pn dl pl dr sp ln gr sa le p1 p2) (fun (u : (Nat → UInt32) × (Nat → Int32) × (Nat → Int32) × (Nat → Int32) × (Nat → Int32) × (Nat → UInt64)) (t : State) => va_P G.1 vwCl [tc_X2 a0 d0 d1 d2 d3 pn, tc_F G d0 3 u.1, tc_I G d1 3 u.2.1, tc_I G d2 3 u.2.2.1, tc_I G d3 3 u.2.2.2.1, tc_X0 a1 b0 b1 b2 b3 b4 b5 ln, tc_I G b0 10 ow, tc_I G b1 10 gr, tc_I G b2 10 we, tc_I G b3 10 du, tc_I G b4 10 u.2.2.2.2.1, tc_D G b5 10 u.2.2.2.2.2] t.heap ∧ va_D A [tc_X2 a0 d0 d1 d2 d3 pn, tc_F G d0 3 u.1, tc_I G d1 3 u.2.1, tc_I G d2 3 u.2.2.1, tc_I G d3 3 u.2.2.2.1, tc_X0 a1 b0 b1 b2 b3 b4 b5 ln, tc_I G b0 10 ow, tc_I G b1 10 gr, tc_I G b2 10 we, tc_I G b3 10 du, tc_I G b4 10 u.2.2.2.2.1, tc_D G b5 10 u.2.2.2.2.2]) A) ([.ref a0, .double p1, .int p2, .ref a1] : List Value).toArray s 0 0 A) (F0 m 6 ls []) := by
    intro fuel
    induction fuel with
    | zero =>
      intro x6_0 x6_1 x6_2 x6_3 x6_4 x6_5 x6_6 x6_7 hnl; exact absurd hnl (by simp [n_X2_goBy_6])
    | succ fuel ih =>
      intro x6_0 x6_1 x6_2 x6_3 x6_4 x6_5 x6_6 x6_7 hnl hE H locs hP hD hS ls hl
      rw [n_X2_goBy_6] at hnl
      obtain ⟨n_2, n_6, n_8, n_9, n_13, n_14, n_18, n_20, n_21, n_25, n_26, n_27, n_33, n_34, n_35, n_39⟩ := hnl
      refine lv_iload hx hb dX2_goBy_6 (lv_at hl 0 rfl) ?_
      refine lv_aload_n hx hb dX2_goBy_8 rfl (lv_at hl 2 rfl) ?_
      refine va_get (D := G.1) (ci := 2) (v := .int pn) (C := RX2) (T := TX2) (N := 5) hx hb hts hiX2 hown hK hP 0 rfl rfl 4 (by decide) (hts (.fieldLink RX2 31 "TideMill$Pairs" "count" "I") (List.mem_of_getElem? (i := 1) rfl)) (fun _ h9 => h9) rfl dX2_goBy_9 ?_
      refine lv_icmp_ge (tgt := 100) hx hb dX2_goBy_12 (by decide) (fun c_1 => ?_) (fun c_1 => ?_)
      · have hP9 := hP.sub (ws' := [tc_X2 a0 d0 d1 d2 d3 pn, tc_F G d0 3 x6_4, tc_I G d1 3 x6_5, tc_I G d2 3 x6_6, tc_I G d3 3 x6_7, tc_X0 a1 b0 b1 b2 b3 b4 b5 ln, tc_I G b0 10 ow, tc_I G b1 10 gr, tc_I G b2 10 we, tc_I G b3 10 du, tc_I G b4 10 x6_2, tc_D G b5 10 x6_3]) [0, 1, 2, 3, 4, 5, 6, 7, 8, 9, 10, 11] rfl
        have hD9 := hD.sub (ws' := [tc_X2 a0 d0 d1 d2 d3 pn, tc_F G d0 3 x6_4, tc_I G d1 3 x6_5, tc_I G d2 3 x6_6, tc_I G d3 3 x6_7, tc_X0 a1 b0 b1 b2 b3 b4 b5 ln, tc_I G b0 10 ow, tc_I G b1 10 gr, tc_I G b2 10 we, tc_I G b3 10 du, tc_I G b4 10 x6_2, tc_D G b5 10 x6_3]) [0, 1, 2, 3, 4, 5, 6, 7, 8, 9, 10, 11] (by decide) rfl
        exact W.vret hx hb hr (fun t ht hW => ⟨⟨(x6_4, x6_5, x6_6, x6_7, x6_2, x6_3), rfl, by rw [hE, f_X2_goBy_6]; all_goals (rw [if_pos c_1]); all_goals rfl, by rw [ht]; exact hP9, hD9⟩, hS.F ht⟩) hS.2.2 dX2_goBy_100
      · refine lv_aload_n hx hb dX2_goBy_15 rfl (lv_at hl 2 rfl) ?_
        refine va_get (D := G.1) (ci := 2) (v := .ref d2) (C := RX2) (T := TX2) (N := 5) hx hb hts hiX2 hown hK hP 0 rfl rfl 2 (by decide) (hts (.fieldLink RX2 19 "TideMill$Pairs" "dressing" "[I") (List.mem_of_getElem? (i := 2) rfl)) (fun _ h9 => h9) rfl dX2_goBy_16 ?_
        refine lv_iload hx hb dX2_goBy_19 (lv_at hl 0 rfl) ?_
        refine va_iald (n := 3) (f := x6_6) hx hb hK hP 3 0 rfl rfl (n_2 c_1) dX2_goBy_21 ?_
        refine lv_if_le (tgt := 34) hx hb dX2_goBy_22 (by decide) (fun c_3 => ?_) (fun c_3 => ?_)
        · refine lv_iload_n hx hb dX2_goBy_34 rfl (lv_at hl 4 rfl) ?_
          refine lv_if_eq (tgt := 71) hx hb dX2_goBy_35 (by decide) (fun c_4 => ?_) (fun c_4 => ?_)
          · refine lv_iload_n hx hb dX2_goBy_71 rfl (lv_at hl 4 rfl) ?_
            refine lv_if_eq (tgt := 94) hx hb dX2_goBy_72 (by decide) (fun c_5 => ?_) (fun c_5 => ?_)
            · refine lv_iinc (v := x6_1 + 1) (lv' := [(7, .int (x6_1 + 1)), (5, .double x6_0), (0, .ref a0), (1, .double p1), (3, .int p2), (4, .ref a1)]) hx hb dX2_goBy_94 hl (k := 0) rfl rfl (by decide) rfl (fun ls hl => ?_)
              refine lv_goto (tgt := 6) hx hb dX2_goBy_97 (by decide) ?_
              have hP9 := hP.sub (ws' := [tc_X2 a0 d0 d1 d2 d3 pn, tc_F G d0 3 x6_4, tc_I G d1 3 x6_5, tc_I G d2 3 x6_6, tc_I G d3 3 x6_7, tc_X0 a1 b0 b1 b2 b3 b4 b5 ln, tc_I G b0 10 ow, tc_I G b1 10 gr, tc_I G b2 10 we, tc_I G b3 10 du, tc_I G b4 10 x6_2, tc_D G b5 10 x6_3]) [0, 1, 2, 3, 4, 5, 6, 7, 8, 9, 10, 11] rfl
              have hD9 := hD.sub (ws' := [tc_X2 a0 d0 d1 d2 d3 pn, tc_F G d0 3 x6_4, tc_I G d1 3 x6_5, tc_I G d2 3 x6_6, tc_I G d3 3 x6_7, tc_X0 a1 b0 b1 b2 b3 b4 b5 ln, tc_I G b0 10 ow, tc_I G b1 10 gr, tc_I G b2 10 we, tc_I G b3 10 du, tc_I G b4 10 x6_2, tc_D G b5 10 x6_3]) [0, 1, 2, 3, 4, 5, 6, 7, 8, 9, 10, 11] (by decide) rfl
              exact ih x6_0 (x6_1 + 1) x6_2 x6_3 x6_4 x6_5 x6_6 x6_7 (n_6 c_1 c_3 c_4 c_5) (by rw [hE, f_X2_goBy_6]; all_goals (rw [if_neg c_1]); all_goals (rw [if_pos c_3]); all_goals (rw [if_pos c_4]); all_goals (rw [if_pos c_5]); all_goals rfl) _ _ hP9 hD9 hS _ (lv_sub hl [0, 1, 2, 3, 4, 5] rfl)
            · refine lv_dload hx hb dX2_goBy_75 (lv_at hl 1 rfl) ?_
              refine lv_dconst1 hx hb dX2_goBy_77 ?_
              refine lv_dcmp hx hb dX2_goBy_78 ?_
              refine lv_if_le (tgt := 94) hx hb dX2_goBy_79 (by decide) (fun c_7 => ?_) (fun c_7 => ?_)
              · refine lv_iinc (v := x6_1 + 1) (lv' := [(7, .int (x6_1 + 1)), (5, .double x6_0), (0, .ref a0), (1, .double p1), (3, .int p2), (4, .ref a1)]) hx hb dX2_goBy_94 hl (k := 0) rfl rfl (by decide) rfl (fun ls hl => ?_)
                refine lv_goto (tgt := 6) hx hb dX2_goBy_97 (by decide) ?_
                have hP9 := hP.sub (ws' := [tc_X2 a0 d0 d1 d2 d3 pn, tc_F G d0 3 x6_4, tc_I G d1 3 x6_5, tc_I G d2 3 x6_6, tc_I G d3 3 x6_7, tc_X0 a1 b0 b1 b2 b3 b4 b5 ln, tc_I G b0 10 ow, tc_I G b1 10 gr, tc_I G b2 10 we, tc_I G b3 10 du, tc_I G b4 10 x6_2, tc_D G b5 10 x6_3]) [0, 1, 2, 3, 4, 5, 6, 7, 8, 9, 10, 11] rfl
                have hD9 := hD.sub (ws' := [tc_X2 a0 d0 d1 d2 d3 pn, tc_F G d0 3 x6_4, tc_I G d1 3 x6_5, tc_I G d2 3 x6_6, tc_I G d3 3 x6_7, tc_X0 a1 b0 b1 b2 b3 b4 b5 ln, tc_I G b0 10 ow, tc_I G b1 10 gr, tc_I G b2 10 we, tc_I G b3 10 du, tc_I G b4 10 x6_2, tc_D G b5 10 x6_3]) [0, 1, 2, 3, 4, 5, 6, 7, 8, 9, 10, 11] (by decide) rfl
                exact ih x6_0 (x6_1 + 1) x6_2 x6_3 x6_4 x6_5 x6_6 x6_7 (n_8 c_1 c_3 c_4 c_5 c_7) (by rw [hE, f_X2_goBy_6]; all_goals (rw [if_neg c_1]); all_goals (rw [if_pos c_3]); all_goals (rw [if_pos c_4]); all_goals (rw [if_neg c_5]); all_goals (rw [if_pos c_7]); all_goals rfl) _ _ hP9 hD9 hS _ (lv_sub hl [0, 1, 2, 3, 4, 5] rfl)
              · refine lv_aload_n hx hb dX2_goBy_82 rfl (lv_at hl 2 rfl) ?_
                refine lv_iload hx hb dX2_goBy_83 (lv_at hl 0 rfl) ?_
                have hPc := hP.sub (ws' := [tc_X2 a0 d0 d1 d2 d3 pn, tc_F G d0 3 x6_4, tc_I G d1 3 x6_5, tc_I G d2 3 x6_6, tc_I G d3 3 x6_7]) [0, 1, 2, 3, 4] rfl
                have hDc := hD.sub (ws' := [tc_X2 a0 d0 d1 d2 d3 pn, tc_F G d0 3 x6_4, tc_I G d1 3 x6_5, tc_I G d2 3 x6_6, tc_I G d3 3 x6_7]) [0, 1, 2, 3, 4] (by decide) rfl
                have hFc := va_free (wc := [tc_X2 a0 d0 d1 d2 d3 pn, tc_F G d0 3 x6_4, tc_I G d1 3 x6_5, tc_I G d2 3 x6_6, tc_I G d3 3 x6_7]) hD hS hA [0, 1, 2, 3, 4] rfl
                refine va_callv (va_runV (As := [.int x6_1]) (rest := []) ⟨hx, hb, hml, hown, hts⟩ (c_X2_spark l G a0 d0 d1 d2 d3 H.size pn x6_4 x6_5 x6_6 x6_7 x6_1 (n_9 c_1 c_3 c_4 c_5 c_7)) (cwV 1 hts gX2_goBy_X2_spark rfl rfl rfl (by decide +kernel) ⟨(Nat.le_of_ble_eq_true rfl), (Nat.le_of_ble_eq_true rfl)⟩) (tm_preV hK hN hV hS hPc hDc hFc (va_recv hK hPc (ci := 2) (q0 := 0) rfl rfl)) rfl rfl hl.1 rfl (lv_room (Nat.le_of_ble_eq_true rfl)) dX2_goBy_85 ⟨(Nat.le_of_ble_eq_true rfl), (Nat.le_of_ble_eq_true rfl)⟩) hS (fun q _ h => hFc q h) hFc (fun u t H locs ht hvm hw_10 hB hz1 hk1 hS => ?_)
                obtain ⟨u_11, u_12⟩ := u
                obtain ⟨hP1, hD1⟩ := hB
                rw [ht] at hP1
                try dsimp only at hw_10
                obtain ⟨hP, hD⟩ := va_join (wr := [tc_X0 a1 b0 b1 b2 b3 b4 b5 ln, tc_I G b0 10 ow, tc_I G b1 10 gr, tc_I G b2 10 we, tc_I G b3 10 du, tc_I G b4 10 x6_2, tc_D G b5 10 x6_3]) (w1 := [tc_X2 a0 d0 d1 d2 d3 pn, tc_F G d0 3 u_11, tc_I G d1 3 x6_5, tc_I G d2 3 x6_6, tc_I G d3 3 u_12]) hP hD [0, 1, 2, 3, 4] [5, 6, 7, 8, 9, 10, 11] rfl rfl (by decide) (by decide) hk1 hFc hP1 hD1
                have hP : va_P G.1 vwCl [tc_X0 a1 b0 b1 b2 b3 b4 b5 ln, tc_I G b0 10 ow, tc_I G b1 10 gr, tc_I G b2 10 we, tc_I G b3 10 du, tc_I G b4 10 x6_2, tc_D G b5 10 x6_3, tc_X2 a0 d0 d1 d2 d3 pn, tc_F G d0 3 u_11, tc_I G d1 3 x6_5, tc_I G d2 3 x6_6, tc_I G d3 3 u_12] H := hP
                have hD : va_D A [tc_X0 a1 b0 b1 b2 b3 b4 b5 ln, tc_I G b0 10 ow, tc_I G b1 10 gr, tc_I G b2 10 we, tc_I G b3 10 du, tc_I G b4 10 x6_2, tc_D G b5 10 x6_3, tc_X2 a0 d0 d1 d2 d3 pn, tc_F G d0 3 u_11, tc_I G d1 3 x6_5, tc_I G d2 3 x6_6, tc_I G d3 3 u_12] := hD
                refine lv_dload hx hb dX2_goBy_88 (lv_at hl 1 rfl) ?_
                refine lv_dconst1 hx hb dX2_goBy_90 ?_
                refine lv_dsub hx hb dX2_goBy_91 (n_13 c_1 c_3 c_4 c_5 c_7 u_11 u_12 hw_10) ?_
                refine lv_dstore (lv' := [(5, .double (FP.dsub x6_0 FP.dconst1)), (7, .int x6_1), (0, .ref a0), (1, .double p1), (3, .int p2), (4, .ref a1)]) hx hb dX2_goBy_92 hl (by decide) rfl (fun ls hl => ?_)
                refine lv_iinc (v := x6_1 + 1) (lv' := [(7, .int (x6_1 + 1)), (5, .double (FP.dsub x6_0 FP.dconst1)), (0, .ref a0), (1, .double p1), (3, .int p2), (4, .ref a1)]) hx hb dX2_goBy_94 hl (k := 1) rfl rfl (by decide) rfl (fun ls hl => ?_)
                refine lv_goto (tgt := 6) hx hb dX2_goBy_97 (by decide) ?_
                have hP9 := hP.sub (ws' := [tc_X2 a0 d0 d1 d2 d3 pn, tc_F G d0 3 u_11, tc_I G d1 3 x6_5, tc_I G d2 3 x6_6, tc_I G d3 3 u_12, tc_X0 a1 b0 b1 b2 b3 b4 b5 ln, tc_I G b0 10 ow, tc_I G b1 10 gr, tc_I G b2 10 we, tc_I G b3 10 du, tc_I G b4 10 x6_2, tc_D G b5 10 x6_3]) [7, 8, 9, 10, 11, 0, 1, 2, 3, 4, 5, 6] rfl
                have hD9 := hD.sub (ws' := [tc_X2 a0 d0 d1 d2 d3 pn, tc_F G d0 3 u_11, tc_I G d1 3 x6_5, tc_I G d2 3 x6_6, tc_I G d3 3 u_12, tc_X0 a1 b0 b1 b2 b3 b4 b5 ln, tc_I G b0 10 ow, tc_I G b1 10 gr, tc_I G b2 10 we, tc_I G b3 10 du, tc_I G b4 10 x6_2, tc_D G b5 10 x6_3]) [7, 8, 9, 10, 11, 0, 1, 2, 3, 4, 5, 6] (by decide) rfl
                exact ih (FP.dsub x6_0 FP.dconst1) (x6_1 + 1) x6_2 x6_3 u_11 x6_5 x6_6 u_12 (n_14 c_1 c_3 c_4 c_5 c_7 u_11 u_12 hw_10) (by rw [hE, f_X2_goBy_6]; all_goals (rw [if_neg c_1]); all_goals (rw [if_pos c_3]); all_goals (rw [if_pos c_4]); all_goals (rw [if_neg c_5]); all_goals (rw [if_neg c_7]); all_goals (rw [← hw_10]); all_goals (dsimp only); all_goals rfl) _ _ hP9 hD9 hS _ (lv_sub hl [0, 1, 2, 3, 4, 5] rfl)
          · refine lv_aload hx hb dX2_goBy_38 (lv_at hl 5 rfl) ?_
            refine lv_aload_n hx hb dX2_goBy_40 rfl (lv_at hl 2 rfl) ?_
            refine va_get (D := G.1) (ci := 2) (v := .ref d1) (C := RX2) (T := TX2) (N := 5) hx hb hts hiX2 hown hK hP 0 rfl rfl 1 (by decide) (hts (.fieldLink RX2 15 "TideMill$Pairs" "lot" "[I") (List.mem_of_getElem? (i := 3) rfl)) (fun _ h9 => h9) rfl dX2_goBy_41 ?_
            refine lv_iload hx hb dX2_goBy_44 (lv_at hl 0 rfl) ?_
            refine va_iald (n := 3) (f := x6_5) hx hb hK hP 2 0 rfl rfl (n_2 c_1) dX2_goBy_46 ?_
            have hPc := hP.sub (ws' := [tc_X0 a1 b0 b1 b2 b3 b4 b5 ln, tc_I G b0 10 ow, tc_I G b1 10 gr, tc_I G b2 10 we, tc_I G b3 10 du, tc_I G b4 10 x6_2, tc_D G b5 10 x6_3]) [5, 6, 7, 8, 9, 10, 11] rfl
            have hDc := hD.sub (ws' := [tc_X0 a1 b0 b1 b2 b3 b4 b5 ln, tc_I G b0 10 ow, tc_I G b1 10 gr, tc_I G b2 10 we, tc_I G b3 10 du, tc_I G b4 10 x6_2, tc_D G b5 10 x6_3]) [5, 6, 7, 8, 9, 10, 11] (by decide) rfl
            have hFc := va_free (wc := [tc_X0 a1 b0 b1 b2 b3 b4 b5 ln, tc_I G b0 10 ow, tc_I G b1 10 gr, tc_I G b2 10 we, tc_I G b3 10 du, tc_I G b4 10 x6_2, tc_D G b5 10 x6_3]) hD hS hA [5, 6, 7, 8, 9, 10, 11] rfl
            refine va_calli (va_runV (As := [.int (x6_5 x6_1.toNatClampNeg)]) (rest := []) ⟨hx, hb, hml, hown, hts⟩ (c_X0_has l G a1 b0 b1 b2 b3 b4 b5 H.size ln ow gr we du x6_2 x6_3 (x6_5 x6_1.toNatClampNeg) ) (cwV 1 hts gX2_goBy_X0_has rfl rfl rfl (by decide +kernel) ⟨(Nat.le_of_ble_eq_true rfl), (Nat.le_of_ble_eq_true rfl)⟩) (tm_preV hK hN hV hS hPc hDc hFc (va_recv hK hPc (ci := 0) (q0 := 0) rfl rfl)) rfl rfl hl.1 rfl (lv_room (Nat.le_of_ble_eq_true rfl)) dX2_goBy_47 ⟨(Nat.le_of_ble_eq_true rfl), (Nat.le_of_ble_eq_true rfl)⟩) hS (fun q _ h => hFc q h) hFc (fun r_15 u t H locs ht hvm hw_15 hB hz1 hk1 hS => ?_)
            obtain ⟨hP1, hD1⟩ := hB
            rw [ht] at hP1
            try dsimp only at hw_15
            obtain ⟨hP, hD⟩ := va_join (wr := [tc_X2 a0 d0 d1 d2 d3 pn, tc_F G d0 3 x6_4, tc_I G d1 3 x6_5, tc_I G d2 3 x6_6, tc_I G d3 3 x6_7]) (w1 := [tc_X0 a1 b0 b1 b2 b3 b4 b5 ln, tc_I G b0 10 ow, tc_I G b1 10 gr, tc_I G b2 10 we, tc_I G b3 10 du, tc_I G b4 10 x6_2, tc_D G b5 10 x6_3]) hP hD [5, 6, 7, 8, 9, 10, 11] [0, 1, 2, 3, 4] rfl rfl (by decide) (by decide) hk1 hFc hP1 hD1
            have hP : va_P G.1 vwCl [tc_X2 a0 d0 d1 d2 d3 pn, tc_F G d0 3 x6_4, tc_I G d1 3 x6_5, tc_I G d2 3 x6_6, tc_I G d3 3 x6_7, tc_X0 a1 b0 b1 b2 b3 b4 b5 ln, tc_I G b0 10 ow, tc_I G b1 10 gr, tc_I G b2 10 we, tc_I G b3 10 du, tc_I G b4 10 x6_2, tc_D G b5 10 x6_3] H := hP
            have hD : va_D A [tc_X2 a0 d0 d1 d2 d3 pn, tc_F G d0 3 x6_4, tc_I G d1 3 x6_5, tc_I G d2 3 x6_6, tc_I G d3 3 x6_7, tc_X0 a1 b0 b1 b2 b3 b4 b5 ln, tc_I G b0 10 ow, tc_I G b1 10 gr, tc_I G b2 10 we, tc_I G b3 10 du, tc_I G b4 10 x6_2, tc_D G b5 10 x6_3] := hD
            subst hw_15
            refine lv_if_eq (tgt := 71) hx hb dX2_goBy_50 (by decide) (fun c_16 => ?_) (fun c_16 => ?_)
            · refine lv_iload_n hx hb dX2_goBy_71 rfl (lv_at hl 4 rfl) ?_
              refine lv_if_eq (tgt := 94) hx hb dX2_goBy_72 (by decide) (fun c_17 => ?_) (fun c_17 => ?_)
              · refine lv_iinc (v := x6_1 + 1) (lv' := [(7, .int (x6_1 + 1)), (5, .double x6_0), (0, .ref a0), (1, .double p1), (3, .int p2), (4, .ref a1)]) hx hb dX2_goBy_94 hl (k := 0) rfl rfl (by decide) rfl (fun ls hl => ?_)
                refine lv_goto (tgt := 6) hx hb dX2_goBy_97 (by decide) ?_
                have hP9 := hP.sub (ws' := [tc_X2 a0 d0 d1 d2 d3 pn, tc_F G d0 3 x6_4, tc_I G d1 3 x6_5, tc_I G d2 3 x6_6, tc_I G d3 3 x6_7, tc_X0 a1 b0 b1 b2 b3 b4 b5 ln, tc_I G b0 10 ow, tc_I G b1 10 gr, tc_I G b2 10 we, tc_I G b3 10 du, tc_I G b4 10 x6_2, tc_D G b5 10 x6_3]) [0, 1, 2, 3, 4, 5, 6, 7, 8, 9, 10, 11] rfl
                have hD9 := hD.sub (ws' := [tc_X2 a0 d0 d1 d2 d3 pn, tc_F G d0 3 x6_4, tc_I G d1 3 x6_5, tc_I G d2 3 x6_6, tc_I G d3 3 x6_7, tc_X0 a1 b0 b1 b2 b3 b4 b5 ln, tc_I G b0 10 ow, tc_I G b1 10 gr, tc_I G b2 10 we, tc_I G b3 10 du, tc_I G b4 10 x6_2, tc_D G b5 10 x6_3]) [0, 1, 2, 3, 4, 5, 6, 7, 8, 9, 10, 11] (by decide) rfl
                exact ih x6_0 (x6_1 + 1) x6_2 x6_3 x6_4 x6_5 x6_6 x6_7 (n_18 c_1 c_3 c_4 c_16 c_17) (by rw [hE, f_X2_goBy_6]; all_goals (rw [if_neg c_1]); all_goals (rw [if_pos c_3]); all_goals (rw [if_neg c_4]); all_goals (rw [if_pos c_16]); all_goals (rw [if_pos c_17]); all_goals rfl) _ _ hP9 hD9 hS _ (lv_sub hl [0, 1, 2, 3, 4, 5] rfl)
              · refine lv_dload hx hb dX2_goBy_75 (lv_at hl 1 rfl) ?_
                refine lv_dconst1 hx hb dX2_goBy_77 ?_
                refine lv_dcmp hx hb dX2_goBy_78 ?_
                refine lv_if_le (tgt := 94) hx hb dX2_goBy_79 (by decide) (fun c_19 => ?_) (fun c_19 => ?_)
                · refine lv_iinc (v := x6_1 + 1) (lv' := [(7, .int (x6_1 + 1)), (5, .double x6_0), (0, .ref a0), (1, .double p1), (3, .int p2), (4, .ref a1)]) hx hb dX2_goBy_94 hl (k := 0) rfl rfl (by decide) rfl (fun ls hl => ?_)
                  refine lv_goto (tgt := 6) hx hb dX2_goBy_97 (by decide) ?_
                  have hP9 := hP.sub (ws' := [tc_X2 a0 d0 d1 d2 d3 pn, tc_F G d0 3 x6_4, tc_I G d1 3 x6_5, tc_I G d2 3 x6_6, tc_I G d3 3 x6_7, tc_X0 a1 b0 b1 b2 b3 b4 b5 ln, tc_I G b0 10 ow, tc_I G b1 10 gr, tc_I G b2 10 we, tc_I G b3 10 du, tc_I G b4 10 x6_2, tc_D G b5 10 x6_3]) [0, 1, 2, 3, 4, 5, 6, 7, 8, 9, 10, 11] rfl
                  have hD9 := hD.sub (ws' := [tc_X2 a0 d0 d1 d2 d3 pn, tc_F G d0 3 x6_4, tc_I G d1 3 x6_5, tc_I G d2 3 x6_6, tc_I G d3 3 x6_7, tc_X0 a1 b0 b1 b2 b3 b4 b5 ln, tc_I G b0 10 ow, tc_I G b1 10 gr, tc_I G b2 10 we, tc_I G b3 10 du, tc_I G b4 10 x6_2, tc_D G b5 10 x6_3]) [0, 1, 2, 3, 4, 5, 6, 7, 8, 9, 10, 11] (by decide) rfl
                  exact ih x6_0 (x6_1 + 1) x6_2 x6_3 x6_4 x6_5 x6_6 x6_7 (n_20 c_1 c_3 c_4 c_16 c_17 c_19) (by rw [hE, f_X2_goBy_6]; all_goals (rw [if_neg c_1]); all_goals (rw [if_pos c_3]); all_goals (rw [if_neg c_4]); all_goals (rw [if_pos c_16]); all_goals (rw [if_neg c_17]); all_goals (rw [if_pos c_19]); all_goals rfl) _ _ hP9 hD9 hS _ (lv_sub hl [0, 1, 2, 3, 4, 5] rfl)
                · refine lv_aload_n hx hb dX2_goBy_82 rfl (lv_at hl 2 rfl) ?_
                  refine lv_iload hx hb dX2_goBy_83 (lv_at hl 0 rfl) ?_
                  have hPc := hP.sub (ws' := [tc_X2 a0 d0 d1 d2 d3 pn, tc_F G d0 3 x6_4, tc_I G d1 3 x6_5, tc_I G d2 3 x6_6, tc_I G d3 3 x6_7]) [0, 1, 2, 3, 4] rfl
                  have hDc := hD.sub (ws' := [tc_X2 a0 d0 d1 d2 d3 pn, tc_F G d0 3 x6_4, tc_I G d1 3 x6_5, tc_I G d2 3 x6_6, tc_I G d3 3 x6_7]) [0, 1, 2, 3, 4] (by decide) rfl
                  have hFc := va_free (wc := [tc_X2 a0 d0 d1 d2 d3 pn, tc_F G d0 3 x6_4, tc_I G d1 3 x6_5, tc_I G d2 3 x6_6, tc_I G d3 3 x6_7]) hD hS hA [0, 1, 2, 3, 4] rfl
                  refine va_callv (va_runV (As := [.int x6_1]) (rest := []) ⟨hx, hb, hml, hown, hts⟩ (c_X2_spark l G a0 d0 d1 d2 d3 H.size pn x6_4 x6_5 x6_6 x6_7 x6_1 (n_21 c_1 c_3 c_4 c_16 c_17 c_19)) (cwV 1 hts gX2_goBy_X2_spark rfl rfl rfl (by decide +kernel) ⟨(Nat.le_of_ble_eq_true rfl), (Nat.le_of_ble_eq_true rfl)⟩) (tm_preV hK hN hV hS hPc hDc hFc (va_recv hK hPc (ci := 2) (q0 := 0) rfl rfl)) rfl rfl hl.1 rfl (lv_room (Nat.le_of_ble_eq_true rfl)) dX2_goBy_85 ⟨(Nat.le_of_ble_eq_true rfl), (Nat.le_of_ble_eq_true rfl)⟩) hS (fun q _ h => hFc q h) hFc (fun u t H locs ht hvm hw_22 hB hz1 hk1 hS => ?_)
                  obtain ⟨u_23, u_24⟩ := u
                  obtain ⟨hP1, hD1⟩ := hB
                  rw [ht] at hP1
                  try dsimp only at hw_22
                  obtain ⟨hP, hD⟩ := va_join (wr := [tc_X0 a1 b0 b1 b2 b3 b4 b5 ln, tc_I G b0 10 ow, tc_I G b1 10 gr, tc_I G b2 10 we, tc_I G b3 10 du, tc_I G b4 10 x6_2, tc_D G b5 10 x6_3]) (w1 := [tc_X2 a0 d0 d1 d2 d3 pn, tc_F G d0 3 u_23, tc_I G d1 3 x6_5, tc_I G d2 3 x6_6, tc_I G d3 3 u_24]) hP hD [0, 1, 2, 3, 4] [5, 6, 7, 8, 9, 10, 11] rfl rfl (by decide) (by decide) hk1 hFc hP1 hD1
                  have hP : va_P G.1 vwCl [tc_X0 a1 b0 b1 b2 b3 b4 b5 ln, tc_I G b0 10 ow, tc_I G b1 10 gr, tc_I G b2 10 we, tc_I G b3 10 du, tc_I G b4 10 x6_2, tc_D G b5 10 x6_3, tc_X2 a0 d0 d1 d2 d3 pn, tc_F G d0 3 u_23, tc_I G d1 3 x6_5, tc_I G d2 3 x6_6, tc_I G d3 3 u_24] H := hP
                  have hD : va_D A [tc_X0 a1 b0 b1 b2 b3 b4 b5 ln, tc_I G b0 10 ow, tc_I G b1 10 gr, tc_I G b2 10 we, tc_I G b3 10 du, tc_I G b4 10 x6_2, tc_D G b5 10 x6_3, tc_X2 a0 d0 d1 d2 d3 pn, tc_F G d0 3 u_23, tc_I G d1 3 x6_5, tc_I G d2 3 x6_6, tc_I G d3 3 u_24] := hD
                  refine lv_dload hx hb dX2_goBy_88 (lv_at hl 1 rfl) ?_
                  refine lv_dconst1 hx hb dX2_goBy_90 ?_
                  refine lv_dsub hx hb dX2_goBy_91 (n_25 c_1 c_3 c_4 c_16 c_17 c_19 u_23 u_24 hw_22) ?_
                  refine lv_dstore (lv' := [(5, .double (FP.dsub x6_0 FP.dconst1)), (7, .int x6_1), (0, .ref a0), (1, .double p1), (3, .int p2), (4, .ref a1)]) hx hb dX2_goBy_92 hl (by decide) rfl (fun ls hl => ?_)
                  refine lv_iinc (v := x6_1 + 1) (lv' := [(7, .int (x6_1 + 1)), (5, .double (FP.dsub x6_0 FP.dconst1)), (0, .ref a0), (1, .double p1), (3, .int p2), (4, .ref a1)]) hx hb dX2_goBy_94 hl (k := 1) rfl rfl (by decide) rfl (fun ls hl => ?_)
                  refine lv_goto (tgt := 6) hx hb dX2_goBy_97 (by decide) ?_
                  have hP9 := hP.sub (ws' := [tc_X2 a0 d0 d1 d2 d3 pn, tc_F G d0 3 u_23, tc_I G d1 3 x6_5, tc_I G d2 3 x6_6, tc_I G d3 3 u_24, tc_X0 a1 b0 b1 b2 b3 b4 b5 ln, tc_I G b0 10 ow, tc_I G b1 10 gr, tc_I G b2 10 we, tc_I G b3 10 du, tc_I G b4 10 x6_2, tc_D G b5 10 x6_3]) [7, 8, 9, 10, 11, 0, 1, 2, 3, 4, 5, 6] rfl
                  have hD9 := hD.sub (ws' := [tc_X2 a0 d0 d1 d2 d3 pn, tc_F G d0 3 u_23, tc_I G d1 3 x6_5, tc_I G d2 3 x6_6, tc_I G d3 3 u_24, tc_X0 a1 b0 b1 b2 b3 b4 b5 ln, tc_I G b0 10 ow, tc_I G b1 10 gr, tc_I G b2 10 we, tc_I G b3 10 du, tc_I G b4 10 x6_2, tc_D G b5 10 x6_3]) [7, 8, 9, 10, 11, 0, 1, 2, 3, 4, 5, 6] (by decide) rfl
                  exact ih (FP.dsub x6_0 FP.dconst1) (x6_1 + 1) x6_2 x6_3 u_23 x6_5 x6_6 u_24 (n_26 c_1 c_3 c_4 c_16 c_17 c_19 u_23 u_24 hw_22) (by rw [hE, f_X2_goBy_6]; all_goals (rw [if_neg c_1]); all_goals (rw [if_pos c_3]); all_goals (rw [if_neg c_4]); all_goals (rw [if_pos c_16]); all_goals (rw [if_neg c_17]); all_goals (rw [if_neg c_19]); all_goals (rw [← hw_22]); all_goals (dsimp only); all_goals rfl) _ _ hP9 hD9 hS _ (lv_sub hl [0, 1, 2, 3, 4, 5] rfl)
            · refine lv_dload hx hb dX2_goBy_53 (lv_at hl 1 rfl) ?_
              refine lv_aload_n hx hb dX2_goBy_55 rfl (lv_at hl 2 rfl) ?_
              refine lv_iload hx hb dX2_goBy_56 (lv_at hl 0 rfl) ?_
              refine lv_dload hx hb dX2_goBy_58 (lv_at hl 1 rfl) ?_
              refine lv_aload hx hb dX2_goBy_60 (lv_at hl 5 rfl) ?_
              have hPc := hP.sub (ws' := [tc_X2 a0 d0 d1 d2 d3 pn, tc_F G d0 3 x6_4, tc_I G d1 3 x6_5, tc_I G d2 3 x6_6, tc_I G d3 3 x6_7, tc_X0 a1 b0 b1 b2 b3 b4 b5 ln, tc_I G b0 10 ow, tc_I G b1 10 gr, tc_I G b2 10 we, tc_I G b3 10 du, tc_I G b4 10 x6_2, tc_D G b5 10 x6_3]) [0, 1, 2, 3, 4, 5, 6, 7, 8, 9, 10, 11] rfl
              have hDc := hD.sub (ws' := [tc_X2 a0 d0 d1 d2 d3 pn, tc_F G d0 3 x6_4, tc_I G d1 3 x6_5, tc_I G d2 3 x6_6, tc_I G d3 3 x6_7, tc_X0 a1 b0 b1 b2 b3 b4 b5 ln, tc_I G b0 10 ow, tc_I G b1 10 gr, tc_I G b2 10 we, tc_I G b3 10 du, tc_I G b4 10 x6_2, tc_D G b5 10 x6_3]) [0, 1, 2, 3, 4, 5, 6, 7, 8, 9, 10, 11] (by decide) rfl
              have hFc := va_free (wc := [tc_X2 a0 d0 d1 d2 d3 pn, tc_F G d0 3 x6_4, tc_I G d1 3 x6_5, tc_I G d2 3 x6_6, tc_I G d3 3 x6_7, tc_X0 a1 b0 b1 b2 b3 b4 b5 ln, tc_I G b0 10 ow, tc_I G b1 10 gr, tc_I G b2 10 we, tc_I G b3 10 du, tc_I G b4 10 x6_2, tc_D G b5 10 x6_3]) hD hS hA [0, 1, 2, 3, 4, 5, 6, 7, 8, 9, 10, 11] rfl
              refine va_calld (va_runV (As := [.int x6_1, .double x6_0, .ref a1]) (rest := [.double x6_0]) ⟨hx, hb, hml, hown, hts⟩ (c_X2_grind l G a0 d0 d1 d2 d3 a1 b0 b1 b2 b3 b4 b5 H.size pn x6_4 x6_5 x6_6 x6_7 ln ow gr we du x6_2 x6_3 x6_1 x6_0 (n_27 c_1 c_3 c_4 c_16)) (cwV 3 hts gX2_goBy_X2_grind rfl rfl rfl (by decide +kernel) ⟨(Nat.le_of_ble_eq_true rfl), (Nat.le_of_ble_eq_true rfl)⟩) (tm_preV hK hN hV hS hPc hDc hFc (va_recv hK hPc (ci := 2) (q0 := 0) rfl rfl)) rfl rfl hl.1 rfl (lv_room (Nat.le_of_ble_eq_true rfl)) dX2_goBy_62 ⟨(Nat.le_of_ble_eq_true rfl), (Nat.le_of_ble_eq_true rfl)⟩) hS (fun q _ h => hFc q h) hFc (fun r_28 u t H locs ht hvm hw_28 hB hz1 hk1 hS => ?_)
              obtain ⟨u_29, u_30, u_31, u_32⟩ := u
              obtain ⟨hP1, hD1⟩ := hB
              rw [ht] at hP1
              try dsimp only at hw_28
              obtain ⟨hP, hD⟩ := va_join (wr := []) (w1 := [tc_X2 a0 d0 d1 d2 d3 pn, tc_F G d0 3 u_29, tc_I G d1 3 u_30, tc_I G d2 3 x6_6, tc_I G d3 3 x6_7, tc_X0 a1 b0 b1 b2 b3 b4 b5 ln, tc_I G b0 10 ow, tc_I G b1 10 gr, tc_I G b2 10 we, tc_I G b3 10 du, tc_I G b4 10 u_31, tc_D G b5 10 u_32]) hP hD [0, 1, 2, 3, 4, 5, 6, 7, 8, 9, 10, 11] [] rfl rfl (by decide) (by decide) hk1 hFc hP1 hD1
              have hP : va_P G.1 vwCl [tc_X2 a0 d0 d1 d2 d3 pn, tc_F G d0 3 u_29, tc_I G d1 3 u_30, tc_I G d2 3 x6_6, tc_I G d3 3 x6_7, tc_X0 a1 b0 b1 b2 b3 b4 b5 ln, tc_I G b0 10 ow, tc_I G b1 10 gr, tc_I G b2 10 we, tc_I G b3 10 du, tc_I G b4 10 u_31, tc_D G b5 10 u_32] H := hP
              have hD : va_D A [tc_X2 a0 d0 d1 d2 d3 pn, tc_F G d0 3 u_29, tc_I G d1 3 u_30, tc_I G d2 3 x6_6, tc_I G d3 3 x6_7, tc_X0 a1 b0 b1 b2 b3 b4 b5 ln, tc_I G b0 10 ow, tc_I G b1 10 gr, tc_I G b2 10 we, tc_I G b3 10 du, tc_I G b4 10 u_31, tc_D G b5 10 u_32] := hD
              refine lv_dsub hx hb dX2_goBy_65 (n_33 c_1 c_3 c_4 c_16 r_28 u_29 u_30 u_31 u_32 hw_28) ?_
              refine lv_dstore (lv' := [(5, .double (FP.dsub x6_0 r_28)), (7, .int x6_1), (0, .ref a0), (1, .double p1), (3, .int p2), (4, .ref a1)]) hx hb dX2_goBy_66 hl (by decide) rfl (fun ls hl => ?_)
              refine lv_goto (tgt := 94) hx hb dX2_goBy_68 (by decide) ?_
              refine lv_iinc (v := x6_1 + 1) (lv' := [(7, .int (x6_1 + 1)), (5, .double (FP.dsub x6_0 r_28)), (0, .ref a0), (1, .double p1), (3, .int p2), (4, .ref a1)]) hx hb dX2_goBy_94 hl (k := 1) rfl rfl (by decide) rfl (fun ls hl => ?_)
              refine lv_goto (tgt := 6) hx hb dX2_goBy_97 (by decide) ?_
              have hP9 := hP.sub (ws' := [tc_X2 a0 d0 d1 d2 d3 pn, tc_F G d0 3 u_29, tc_I G d1 3 u_30, tc_I G d2 3 x6_6, tc_I G d3 3 x6_7, tc_X0 a1 b0 b1 b2 b3 b4 b5 ln, tc_I G b0 10 ow, tc_I G b1 10 gr, tc_I G b2 10 we, tc_I G b3 10 du, tc_I G b4 10 u_31, tc_D G b5 10 u_32]) [0, 1, 2, 3, 4, 5, 6, 7, 8, 9, 10, 11] rfl
              have hD9 := hD.sub (ws' := [tc_X2 a0 d0 d1 d2 d3 pn, tc_F G d0 3 u_29, tc_I G d1 3 u_30, tc_I G d2 3 x6_6, tc_I G d3 3 x6_7, tc_X0 a1 b0 b1 b2 b3 b4 b5 ln, tc_I G b0 10 ow, tc_I G b1 10 gr, tc_I G b2 10 we, tc_I G b3 10 du, tc_I G b4 10 u_31, tc_D G b5 10 u_32]) [0, 1, 2, 3, 4, 5, 6, 7, 8, 9, 10, 11] (by decide) rfl
              exact ih (FP.dsub x6_0 r_28) (x6_1 + 1) u_31 u_32 u_29 u_30 x6_6 x6_7 (n_34 c_1 c_3 c_4 c_16 r_28 u_29 u_30 u_31 u_32 hw_28) (by rw [hE, f_X2_goBy_6]; all_goals (rw [if_neg c_1]); all_goals (rw [if_pos c_3]); all_goals (rw [if_neg c_4]); all_goals (rw [if_neg c_16]); all_goals (rw [← hw_28]); all_goals (dsimp only); all_goals rfl) _ _ hP9 hD9 hS _ (lv_sub hl [0, 1, 2, 3, 4, 5] rfl)
        · refine lv_aload_n hx hb dX2_goBy_25 rfl (lv_at hl 2 rfl) ?_
          refine lv_iload hx hb dX2_goBy_26 (lv_at hl 0 rfl) ?_
          have hPc := hP.sub (ws' := [tc_X2 a0 d0 d1 d2 d3 pn, tc_F G d0 3 x6_4, tc_I G d1 3 x6_5, tc_I G d2 3 x6_6, tc_I G d3 3 x6_7]) [0, 1, 2, 3, 4] rfl
          have hDc := hD.sub (ws' := [tc_X2 a0 d0 d1 d2 d3 pn, tc_F G d0 3 x6_4, tc_I G d1 3 x6_5, tc_I G d2 3 x6_6, tc_I G d3 3 x6_7]) [0, 1, 2, 3, 4] (by decide) rfl
          have hFc := va_free (wc := [tc_X2 a0 d0 d1 d2 d3 pn, tc_F G d0 3 x6_4, tc_I G d1 3 x6_5, tc_I G d2 3 x6_6, tc_I G d3 3 x6_7]) hD hS hA [0, 1, 2, 3, 4] rfl
          refine va_callv (va_runV (As := [.int x6_1]) (rest := []) ⟨hx, hb, hml, hown, hts⟩ (c_X2_dressOn l G a0 d0 d1 d2 d3 H.size pn x6_4 x6_5 x6_6 x6_7 x6_1 (n_35 c_1 c_3)) (cwV 1 hts gX2_goBy_X2_dressOn rfl rfl rfl (by decide +kernel) ⟨(Nat.le_of_ble_eq_true rfl), (Nat.le_of_ble_eq_true rfl)⟩) (tm_preV hK hN hV hS hPc hDc hFc (va_recv hK hPc (ci := 2) (q0 := 0) rfl rfl)) rfl rfl hl.1 rfl (lv_room (Nat.le_of_ble_eq_true rfl)) dX2_goBy_28 ⟨(Nat.le_of_ble_eq_true rfl), (Nat.le_of_ble_eq_true rfl)⟩) hS (fun q _ h => hFc q h) hFc (fun u t H locs ht hvm hw_36 hB hz1 hk1 hS => ?_)
          obtain ⟨u_37, u_38⟩ := u
          obtain ⟨hP1, hD1⟩ := hB
          rw [ht] at hP1
          try dsimp only at hw_36
          obtain ⟨hP, hD⟩ := va_join (wr := [tc_X0 a1 b0 b1 b2 b3 b4 b5 ln, tc_I G b0 10 ow, tc_I G b1 10 gr, tc_I G b2 10 we, tc_I G b3 10 du, tc_I G b4 10 x6_2, tc_D G b5 10 x6_3]) (w1 := [tc_X2 a0 d0 d1 d2 d3 pn, tc_F G d0 3 u_37, tc_I G d1 3 x6_5, tc_I G d2 3 u_38, tc_I G d3 3 x6_7]) hP hD [0, 1, 2, 3, 4] [5, 6, 7, 8, 9, 10, 11] rfl rfl (by decide) (by decide) hk1 hFc hP1 hD1
          have hP : va_P G.1 vwCl [tc_X0 a1 b0 b1 b2 b3 b4 b5 ln, tc_I G b0 10 ow, tc_I G b1 10 gr, tc_I G b2 10 we, tc_I G b3 10 du, tc_I G b4 10 x6_2, tc_D G b5 10 x6_3, tc_X2 a0 d0 d1 d2 d3 pn, tc_F G d0 3 u_37, tc_I G d1 3 x6_5, tc_I G d2 3 u_38, tc_I G d3 3 x6_7] H := hP
          have hD : va_D A [tc_X0 a1 b0 b1 b2 b3 b4 b5 ln, tc_I G b0 10 ow, tc_I G b1 10 gr, tc_I G b2 10 we, tc_I G b3 10 du, tc_I G b4 10 x6_2, tc_D G b5 10 x6_3, tc_X2 a0 d0 d1 d2 d3 pn, tc_F G d0 3 u_37, tc_I G d1 3 x6_5, tc_I G d2 3 u_38, tc_I G d3 3 x6_7] := hD
          refine lv_goto (tgt := 94) hx hb dX2_goBy_31 (by decide) ?_
          refine lv_iinc (v := x6_1 + 1) (lv' := [(7, .int (x6_1 + 1)), (5, .double x6_0), (0, .ref a0), (1, .double p1), (3, .int p2), (4, .ref a1)]) hx hb dX2_goBy_94 hl (k := 0) rfl rfl (by decide) rfl (fun ls hl => ?_)
          refine lv_goto (tgt := 6) hx hb dX2_goBy_97 (by decide) ?_
          have hP9 := hP.sub (ws' := [tc_X2 a0 d0 d1 d2 d3 pn, tc_F G d0 3 u_37, tc_I G d1 3 x6_5, tc_I G d2 3 u_38, tc_I G d3 3 x6_7, tc_X0 a1 b0 b1 b2 b3 b4 b5 ln, tc_I G b0 10 ow, tc_I G b1 10 gr, tc_I G b2 10 we, tc_I G b3 10 du, tc_I G b4 10 x6_2, tc_D G b5 10 x6_3]) [7, 8, 9, 10, 11, 0, 1, 2, 3, 4, 5, 6] rfl
          have hD9 := hD.sub (ws' := [tc_X2 a0 d0 d1 d2 d3 pn, tc_F G d0 3 u_37, tc_I G d1 3 x6_5, tc_I G d2 3 u_38, tc_I G d3 3 x6_7, tc_X0 a1 b0 b1 b2 b3 b4 b5 ln, tc_I G b0 10 ow, tc_I G b1 10 gr, tc_I G b2 10 we, tc_I G b3 10 du, tc_I G b4 10 x6_2, tc_D G b5 10 x6_3]) [7, 8, 9, 10, 11, 0, 1, 2, 3, 4, 5, 6] (by decide) rfl
          exact ih x6_0 (x6_1 + 1) x6_2 x6_3 u_37 x6_5 u_38 x6_7 (n_39 c_1 c_3 u_37 u_38 hw_36) (by rw [hE, f_X2_goBy_6]; all_goals (rw [if_neg c_1]); all_goals (rw [if_neg c_3]); all_goals (rw [← hw_36]); all_goals (dsimp only); all_goals rfl) _ _ hP9 hD9 hS _ (lv_sub hl [0, 1, 2, 3, 4, 5] rfl)
  have hP9 := hP.sub (ws' := [tc_X2 a0 d0 d1 d2 d3 pn, tc_F G d0 3 dl, tc_I G d1 3 pl, tc_I G d2 3 dr, tc_I G d3 3 sp, tc_X0 a1 b0 b1 b2 b3 b4 b5 ln, tc_I G b0 10 ow, tc_I G b1 10 gr, tc_I G b2 10 we, tc_I G b3 10 du, tc_I G b4 10 sa, tc_D G b5 10 le]) [0, 1, 2, 3, 4, 5, 6, 7, 8, 9, 10, 11] rfl
  have hD9 := hD.sub (ws' := [tc_X2 a0 d0 d1 d2 d3 pn, tc_F G d0 3 dl, tc_I G d1 3 pl, tc_I G d2 3 dr, tc_I G d3 3 sp, tc_X0 a1 b0 b1 b2 b3 b4 b5 ln, tc_I G b0 10 ow, tc_I G b1 10 gr, tc_I G b2 10 we, tc_I G b3 10 du, tc_I G b4 10 sa, tc_D G b5 10 le]) [0, 1, 2, 3, 4, 5, 6, 7, 8, 9, 10, 11] (by decide) rfl
  exact L_6 5 p1 0 sa le dl pl dr sp n_40 (by unfold f_X2_goBy; all_goals rfl) _ _ hP9 hD9 hS _ (lv_sub hl [0, 1, 2, 3, 4, 5] rfl)
