set_option maxHeartbeats 4000000 in
set_option maxRecDepth 100000 in
theorem c_Jx4a65c_grow_92f84 (l : Launch) (G : tm_G) (a0 : Nat) (sz : Nat) (mc : Int32) (p1 : Int32) (hn : n_Jx4a65c_grow_92f84 p1) : Met l yJx4a65c_grow_92f84 wsJx4a65c_grow_92f84 ({ frames := 1, cells := 1, slots := 10, locals := 24 }) (va_Pc [.ref a0, .int p1] (tm_B G [tc_Jx4a65c a0 mc G.2.2.2.2.2.2.2 0] sz)) (va_Qr (fun (_ : Unit) => True) (fun (_ : Unit) (ra : Nat) (t : State) => va_P G.1 vwCl [tc_Jx4a65c a0 mc ra 0, tc_Q G ra 10 (fun _ => none)] t.heap ∧ va_D (va_A [tc_Jx4a65c a0 mc G.2.2.2.2.2.2.2 0] sz) [tc_Jx4a65c a0 mc ra 0, tc_Q G ra 10 (fun _ => none)]) (va_A [tc_Jx4a65c a0 mc G.2.2.2.2.2.2.2 0] sz)) 1 10 (va_A [tc_Jx4a65c a0 mc G.2.2.2.2.2.2.2 0] sz) := by
  refine Met.ofW (cc := cJx4a65c_grow_92f84) (maxL := 4) (ret := (some (.array (.object "java/lang/Object")))) (by decide) rfl ?_
  intro p e s m args below meth c s₁ B hml hv
  obtain ⟨rfl, hsz, hP, hK, hD0, hN, hV⟩ := hv
  have hx := B.exec
  have hb := B.bytes
  have hr := B.returns
  have hts := atoms_spec (ws := wsJx4a65c_grow_92f84) B.pre
  have hown : s.vm.findClass RJx4a65c = some m.cls := findClass_of_methodNamed B.named
  have hlocks := B.notSynchronized
  subst hsz
  obtain ⟨na_0, na_1⟩ := hn
  have hiJx4a65c : ∀ w ∈ u_ws RJx4a65c TJx4a65c 3, w ∈ wsJx4a65c_grow_92f84 := fun _ h => List.mem_cons_of_mem _ (List.mem_append_right _ h)
  have hD := hD0.self (sz := s.heap.size)
  generalize hAe : va_A [tc_Jx4a65c a0 mc G.2.2.2.2.2.2.2 0] s.heap.size = A at hD hV ⊢
  have hA : ∀ q : Nat, s.heap.size ≤ q → A q := fun q h => by rw [← hAe]; exact Or.inr h
  have hS : va_S A s.heap s.heap [] := va_S.rf
  have hl := lv_entry ([.ref a0, .int p1]) (n := 4) (Nat.le_of_ble_eq_true rfl)
  rw [lg_entry_eq]
  generalize (lg_sl ([.ref a0, .int p1]) ++ List.replicate (4 - (lg_sl ([.ref a0, .int p1])).length) Slot.unset).toArray = ls at hl ⊢
  have hl : lv_has ls 4 [(0, .ref a0), (1, .int p1)] := hl
  refine lv_aload_n hx hb dJx4a65c_grow_92f84_0 rfl (lv_at hl 0 rfl) ?_
  refine va_get (D := G.1) (ci := 0) (v := .ref G.2.2.2.2.2.2.2) (C := RJx4a65c) (T := TJx4a65c) (N := 3) hx hb hts hiJx4a65c hown hK hP 0 rfl rfl 1 (by decide) (hts (.fieldLink RJx4a65c 9 "java/util/ArrayList" "elementData" "[Ljava/lang/Object;") (List.mem_of_getElem? (i := 1) rfl)) (fun _ h9 => h9) rfl dJx4a65c_grow_92f84_1 ?_
  refine va_tlen (v := 0) hx hb hV.1.2.2 hS rfl dJx4a65c_grow_92f84_4 ?_
  refine lv_istore_n (lv' := [(2, .int 0), (0, .ref a0), (1, .int p1)]) hx hb dJx4a65c_grow_92f84_5 rfl hl (by decide) rfl (fun ls hl => ?_)
  refine lv_iload_n hx hb dJx4a65c_grow_92f84_6 rfl (lv_at hl 0 rfl) ?_
  refine lv_if_gt (tgt := 20) hx hb dJx4a65c_grow_92f84_7 (by decide) (fun c_1 => ?_) (fun c_1 => ?_)
  · exact absurd c_1 na_0
  · refine lv_aload_n hx hb dJx4a65c_grow_92f84_10 rfl (lv_at hl 1 rfl) ?_
    refine va_get (D := G.1) (ci := 0) (v := .ref G.2.2.2.2.2.2.2) (C := RJx4a65c) (T := TJx4a65c) (N := 3) hx hb hts hiJx4a65c hown hK hP 0 rfl rfl 1 (by decide) (hts (.fieldLink RJx4a65c 9 "java/util/ArrayList" "elementData" "[Ljava/lang/Object;") (List.mem_of_getElem? (i := 1) rfl)) (fun _ h9 => h9) rfl dJx4a65c_grow_92f84_11 ?_
    refine va_gets hx hb hV.1.2.1 hS hown (hts (.fieldLink RJx4a65c 39 "java/util/ArrayList" "DEFAULTCAPACITY_EMPTY_ELEMENTDATA" "[Ljava/lang/Object;") (List.mem_of_getElem? (i := 2) rfl)) (fun _ h => h) dJx4a65c_grow_92f84_14 ?_
    refine lv_acmp_eq (rx := some G.2.2.2.2.2.2.2) (ry := some G.2.2.2.2.2.2.2) (tgt := 45) hx hb dJx4a65c_grow_92f84_17 rfl (fun _ => ?_) (fun h9 => absurd rfl h9)
    refine lv_aload_n hx hb dJx4a65c_grow_92f84_45 rfl (lv_at hl 1 rfl) ?_
    refine lv_bipush (v := 10) hx hb dJx4a65c_grow_92f84_46 (by decide) ?_
    refine lv_iload_n hx hb dJx4a65c_grow_92f84_48 rfl (lv_at hl 2 rfl) ?_
    refine va_mmax hx hb (by rw [hml]; exact hl.1.symm) hown (hts (.methodLink RJx4a65c 79 Lib.Math.max.name) (List.mem_of_getElem? (i := 3) rfl)) (hts (.static Lib.Math.max.name) (List.mem_of_getElem? (i := 4) rfl)) (hts (.initialized "java/lang/Math") (List.mem_of_getElem? (i := 5) rfl)) (hts (.code Lib.Math.max.name Lib.Math.max.code 2 (some .int)) (List.mem_of_getElem? (i := 6) rfl)) (Nat.le_of_ble_eq_true rfl) (Nat.le_of_ble_eq_true rfl) (Nat.le_of_ble_eq_true rfl) (Nat.le_of_ble_eq_true rfl) dJx4a65c_grow_92f84_49 ?_
    refine va_newq (n := (if 10 < p1 then p1 else 10)) (N' := 10) hx hb hown (hts (.classLink RJx4a65c 7 "java/lang/Object") (List.mem_of_getElem? (i := 7) rfl)) hN.2.2.2.2.2.2.2 hK hP hD hS hA (by rw [if_neg na_1]; decide) (by rw [if_neg na_1]; decide) (by decide) (Nat.le_of_ble_eq_true rfl) (Nat.le_of_ble_eq_true rfl) dJx4a65c_grow_92f84_52 (fun q_2 cA H hK9 hP hD hS => ?_)
    obtain rfl : cA = G.2.2.2.2.2.1 := tm_cA_Q hK9
    have hP : va_P G.1 vwCl [tc_Jx4a65c a0 mc G.2.2.2.2.2.2.2 0, tc_Q G q_2 10 (fun _ => none)] H := hP
    have hD : va_D A [tc_Jx4a65c a0 mc G.2.2.2.2.2.2.2 0, tc_Q G q_2 10 (fun _ => none)] := hD
    refine W.widen (k := 1) (n := 10) (Nat.le_of_ble_eq_true rfl) (Nat.le_of_ble_eq_true rfl) ?_
    refine lv_dup_x1 hx hb dJx4a65c_grow_92f84_55 rfl rfl ?_
    refine va_put (D := G.1) (ci := 0) (v := .ref q_2) (ty := .array (.object "java/lang/Object")) (C := RJx4a65c) (T := TJx4a65c) (N := 3) hx hb hts hiJx4a65c tyJx4a65c tyJx4a65c_ok nmJx4a65c hown hK hP hD hS 0 rfl rfl 1 (by decide) (hts (.fieldLink RJx4a65c 9 "java/util/ArrayList" "elementData" "[Ljava/lang/Object;") (List.mem_of_getElem? (i := 1) rfl)) (fun _ h9 => h9) rfl (by decide +kernel) rfl rfl (Nat.le_of_ble_eq_true rfl) dJx4a65c_grow_92f84_56 (fun H locs hP hD hS => ?_)
    have hP : va_P G.1 vwCl [tc_Jx4a65c a0 mc q_2 0, tc_Q G q_2 10 (fun _ => none)] H := hP
    have hD : va_D A [tc_Jx4a65c a0 mc q_2 0, tc_Q G q_2 10 (fun _ => none)] := hD
    exact W.aret (v := .ref q_2) hx hb hr (Or.inr ⟨_, rfl⟩) (Or.inr ⟨_, rfl⟩) (fun t ht hW => ⟨⟨(), q_2, rfl, trivial, by rw [ht]; exact hP, hD⟩, hS.F ht⟩) hS.2.2 dJx4a65c_grow_92f84_59
set_option maxHeartbeats 4000000 in
set_option maxRecDepth 100000 in
theorem c_Jx4a65c_grow_d5877 (l : Launch) (G : tm_G) (a0 : Nat) (sz : Nat) (mc : Int32) (hn : n_Jx4a65c_grow_d5877 ) : Met l yJx4a65c_grow_d5877 wsJx4a65c_grow_d5877 ({ frames := 2, cells := 1, slots := 10, locals := 47 }) (va_Pc [.ref a0] (tm_B G [tc_Jx4a65c a0 mc G.2.2.2.2.2.2.2 0] sz)) (va_Qr (fun (_ : Unit) => True) (fun (_ : Unit) (ra : Nat) (t : State) => va_P G.1 vwCl [tc_Jx4a65c a0 mc ra 0, tc_Q G ra 10 (fun _ => none)] t.heap ∧ va_D (va_A [tc_Jx4a65c a0 mc G.2.2.2.2.2.2.2 0] sz) [tc_Jx4a65c a0 mc ra 0, tc_Q G ra 10 (fun _ => none)]) (va_A [tc_Jx4a65c a0 mc G.2.2.2.2.2.2.2 0] sz)) 1 10 (va_A [tc_Jx4a65c a0 mc G.2.2.2.2.2.2.2 0] sz) := by
  refine Met.ofW (cc := cJx4a65c_grow_d5877) (maxL := 1) (ret := (some (.array (.object "java/lang/Object")))) (by decide) rfl ?_
  intro p e s m args below meth c s₁ B hml hv
  obtain ⟨rfl, hsz, hP, hK, hD0, hN, hV⟩ := hv
  have hx := B.exec
  have hb := B.bytes
  have hr := B.returns
  have hts := atoms_spec (ws := wsJx4a65c_grow_d5877) B.pre
  have hown : s.vm.findClass RJx4a65c = some m.cls := findClass_of_methodNamed B.named
  have hlocks := B.notSynchronized
  subst hsz
  have n_1 := hn
  unfold n_Jx4a65c_grow_d5877 at n_1
  have hiJx4a65c : ∀ w ∈ u_ws RJx4a65c TJx4a65c 3, w ∈ wsJx4a65c_grow_d5877 := fun _ h => List.mem_cons_of_mem _ (List.mem_append_right _ h)
  have hD := hD0.self (sz := s.heap.size)
  generalize hAe : va_A [tc_Jx4a65c a0 mc G.2.2.2.2.2.2.2 0] s.heap.size = A at hD hV ⊢
  have hA : ∀ q : Nat, s.heap.size ≤ q → A q := fun q h => by rw [← hAe]; exact Or.inr h
  have hS : va_S A s.heap s.heap [] := va_S.rf
  have hl := lv_entry ([.ref a0]) (n := 1) (Nat.le_of_ble_eq_true rfl)
  rw [lg_entry_eq]
  generalize (lg_sl ([.ref a0]) ++ List.replicate (1 - (lg_sl ([.ref a0])).length) Slot.unset).toArray = ls at hl ⊢
  have hl : lv_has ls 1 [(0, .ref a0)] := hl
  refine lv_aload_n hx hb dJx4a65c_grow_d5877_0 rfl (lv_at hl 0 rfl) ?_
  refine lv_aload_n hx hb dJx4a65c_grow_d5877_1 rfl (lv_at hl 0 rfl) ?_
  refine va_get (D := G.1) (ci := 0) (v := .int 0) (C := RJx4a65c) (T := TJx4a65c) (N := 3) hx hb hts hiJx4a65c hown hK hP 0 rfl rfl 2 (by decide) (hts (.fieldLink RJx4a65c 48 "java/util/ArrayList" "size" "I") (List.mem_of_getElem? (i := 1) rfl)) (fun _ h9 => h9) rfl dJx4a65c_grow_d5877_2 ?_
  refine lv_iconst (v := 1) hx hb dJx4a65c_grow_d5877_5 (by decide) ?_
  refine lv_iadd hx hb dJx4a65c_grow_d5877_6 ?_
  have hPc := hP.sub (ws' := [tc_Jx4a65c a0 mc G.2.2.2.2.2.2.2 0]) [0] rfl
  have hDc := hD.sub (ws' := [tc_Jx4a65c a0 mc G.2.2.2.2.2.2.2 0]) [0] (by decide) rfl
  have hFc := va_free (wc := [tc_Jx4a65c a0 mc G.2.2.2.2.2.2.2 0]) hD hS hA [0] rfl
  refine va_callr (va_runV (As := [.int (0 + 1)]) (rest := []) ⟨hx, hb, hml, hown, hts⟩ (c_Jx4a65c_grow_92f84 l G a0 s.heap.size mc (0 + 1) n_1) (cwV 1 hts gJx4a65c_grow_d5877_Jx4a65c_grow_92f84 rfl rfl rfl (by decide +kernel) ⟨(Nat.le_of_ble_eq_true rfl), (Nat.le_of_ble_eq_true rfl)⟩) (tm_preV hK hN hV hS hPc hDc hFc (va_recv hK hPc (ci := 0) (q0 := 0) rfl rfl)) rfl rfl hl.1 rfl (lv_room (Nat.le_of_ble_eq_true rfl)) dJx4a65c_grow_d5877_7 ⟨(Nat.le_of_ble_eq_true rfl), (Nat.le_of_ble_eq_true rfl)⟩) hS (fun q _ h => hFc q h) hFc (fun u q_3 t H locs ht hvm hw_2 hB hz1 hk1 hS => ?_)
  obtain ⟨hP1, hD1⟩ := hB
  rw [ht] at hP1
  obtain ⟨hP, hD⟩ := va_join (wr := []) (w1 := [tc_Jx4a65c a0 mc q_3 0, tc_Q G q_3 10 (fun _ => none)]) hP hD [0] [] rfl rfl (by decide) (by decide) hk1 hFc hP1 hD1
  have hP : va_P G.1 vwCl [tc_Jx4a65c a0 mc q_3 0, tc_Q G q_3 10 (fun _ => none)] H := hP
  have hD : va_D A [tc_Jx4a65c a0 mc q_3 0, tc_Q G q_3 10 (fun _ => none)] := hD
  refine W.widen (k := 1) (n := 10) (Nat.le_of_ble_eq_true rfl) (Nat.le_of_ble_eq_true rfl) ?_
  exact W.aret (v := .ref q_3) hx hb hr (Or.inr ⟨_, rfl⟩) (Or.inr ⟨_, rfl⟩) (fun t ht hW => ⟨⟨(), q_3, rfl, trivial, by rw [ht]; exact hP, hD⟩, hS.F ht⟩) hS.2.2 dJx4a65c_grow_d5877_10
set_option maxHeartbeats 4000000 in
set_option maxRecDepth 100000 in
theorem c_Jx4a65c_add_72be8_z (l : Launch) (G : tm_G) (a0 : Nat) (r0 : Nat) (sz : Nat) (mc : Int32) (ri : Nat → Int32) (hn : n_Jx4a65c_add_72be8_z ) : Met l yJx4a65c_add_72be8 wsJx4a65c_add_72be8 ({ frames := 3, cells := 1, slots := 10, locals := 67 }) (va_Pc [.ref a0, .ref r0, .ref G.2.2.2.2.2.2.2, .int 0] (tm_B G [tc_Jx4a65c a0 mc G.2.2.2.2.2.2.2 0, tc_I G r0 5 ri] sz)) (va_Qv (fun (_ : Unit) => True) (fun (_ : Unit) (t : State) => ∃ (q_4 : Nat), va_P G.1 vwCl [tc_I G r0 5 ri, tc_Jx4a65c a0 mc q_4 (0 + 1), tc_Q G q_4 10 (va_up (fun _ => none) (0 : Int32).toNatClampNeg (some r0))] t.heap ∧ va_D (va_A [tc_Jx4a65c a0 mc G.2.2.2.2.2.2.2 0, tc_I G r0 5 ri] sz) [tc_I G r0 5 ri, tc_Jx4a65c a0 mc q_4 (0 + 1), tc_Q G q_4 10 (va_up (fun _ => none) (0 : Int32).toNatClampNeg (some r0))]) (va_A [tc_Jx4a65c a0 mc G.2.2.2.2.2.2.2 0, tc_I G r0 5 ri] sz)) 1 10 (va_A [tc_Jx4a65c a0 mc G.2.2.2.2.2.2.2 0, tc_I G r0 5 ri] sz) := by
  refine Met.ofW (cc := cJx4a65c_add_72be8) (maxL := 4) (ret := none) (by decide) rfl ?_
  intro p e s m args below meth c s₁ B hml hv
  obtain ⟨rfl, hsz, hP, hK, hD0, hN, hV⟩ := hv
  have hx := B.exec
  have hb := B.bytes
  have hr := B.returns
  have hts := atoms_spec (ws := wsJx4a65c_add_72be8) B.pre
  have hown : s.vm.findClass RJx4a65c = some m.cls := findClass_of_methodNamed B.named
  have hlocks := B.notSynchronized
  subst hsz
  obtain ⟨na_0, n_2⟩ := hn
  have hiJx4a65c : ∀ w ∈ u_ws RJx4a65c TJx4a65c 3, w ∈ wsJx4a65c_add_72be8 := fun _ h => List.mem_cons_of_mem _ (List.mem_append_right _ h)
  have hD := hD0.self (sz := s.heap.size)
  generalize hAe : va_A [tc_Jx4a65c a0 mc G.2.2.2.2.2.2.2 0, tc_I G r0 5 ri] s.heap.size = A at hD hV ⊢
  have hA : ∀ q : Nat, s.heap.size ≤ q → A q := fun q h => by rw [← hAe]; exact Or.inr h
  have hS : va_S A s.heap s.heap [] := va_S.rf
  have hl := lv_entry ([.ref a0, .ref r0, .ref G.2.2.2.2.2.2.2, .int 0]) (n := 4) (Nat.le_of_ble_eq_true rfl)
  rw [lg_entry_eq]
  generalize (lg_sl ([.ref a0, .ref r0, .ref G.2.2.2.2.2.2.2, .int 0]) ++ List.replicate (4 - (lg_sl ([.ref a0, .ref r0, .ref G.2.2.2.2.2.2.2, .int 0])).length) Slot.unset).toArray = ls at hl ⊢
  have hl : lv_has ls 4 [(0, .ref a0), (1, .ref r0), (2, .ref G.2.2.2.2.2.2.2), (3, .int 0)] := hl
  refine lv_iload_n hx hb dJx4a65c_add_72be8_0 rfl (lv_at hl 3 rfl) ?_
  refine lv_aload_n hx hb dJx4a65c_add_72be8_1 rfl (lv_at hl 2 rfl) ?_
  refine va_tlen (v := 0) hx hb hV.1.2.2 hS rfl dJx4a65c_add_72be8_2 ?_
  refine lv_icmp_ne (tgt := 11) hx hb dJx4a65c_add_72be8_3 (by decide) (fun c_1 => ?_) (fun c_1 => ?_)
  · exact absurd na_0 c_1
  · refine lv_aload_n hx hb dJx4a65c_add_72be8_6 rfl (lv_at hl 0 rfl) ?_
    have hPc := hP.sub (ws' := [tc_Jx4a65c a0 mc G.2.2.2.2.2.2.2 0]) [0] rfl
    have hDc := hD.sub (ws' := [tc_Jx4a65c a0 mc G.2.2.2.2.2.2.2 0]) [0] (by decide) rfl
    have hFc := va_free (wc := [tc_Jx4a65c a0 mc G.2.2.2.2.2.2.2 0]) hD hS hA [0] rfl
    refine va_callr (va_runV (As := []) (rest := []) ⟨hx, hb, hml, hown, hts⟩ (c_Jx4a65c_grow_d5877 l G a0 s.heap.size mc n_2) (cwV 0 hts gJx4a65c_add_72be8_Jx4a65c_grow_d5877 rfl rfl rfl (by decide +kernel) ⟨(Nat.le_of_ble_eq_true rfl), (Nat.le_of_ble_eq_true rfl)⟩) (tm_preV hK hN hV hS hPc hDc hFc (va_recv hK hPc (ci := 0) (q0 := 0) rfl rfl)) rfl rfl hl.1 rfl (lv_room (Nat.le_of_ble_eq_true rfl)) dJx4a65c_add_72be8_7 ⟨(Nat.le_of_ble_eq_true rfl), (Nat.le_of_ble_eq_true rfl)⟩) hS (fun q _ h => hFc q h) hFc (fun u q_4 t H locs ht hvm hw_3 hB hz1 hk1 hS => ?_)
    obtain ⟨hP1, hD1⟩ := hB
    rw [ht] at hP1
    obtain ⟨hP, hD⟩ := va_join (wr := [tc_I G r0 5 ri]) (w1 := [tc_Jx4a65c a0 mc q_4 0, tc_Q G q_4 10 (fun _ => none)]) hP hD [0] [1] rfl rfl (by decide) (by decide) hk1 hFc hP1 hD1
    have hP : va_P G.1 vwCl [tc_I G r0 5 ri, tc_Jx4a65c a0 mc q_4 0, tc_Q G q_4 10 (fun _ => none)] H := hP
    have hD : va_D A [tc_I G r0 5 ri, tc_Jx4a65c a0 mc q_4 0, tc_Q G q_4 10 (fun _ => none)] := hD
    refine W.widen (k := 1) (n := 10) (Nat.le_of_ble_eq_true rfl) (Nat.le_of_ble_eq_true rfl) ?_
    refine lv_astore_n (lv' := [(2, .ref q_4), (0, .ref a0), (1, .ref r0), (3, .int 0)]) hx hb dJx4a65c_add_72be8_10 rfl hl (by decide) rfl (fun ls hl => ?_)
    refine lv_aload_n hx hb dJx4a65c_add_72be8_11 rfl (lv_at hl 0 rfl) ?_
    refine lv_iload_n hx hb dJx4a65c_add_72be8_12 rfl (lv_at hl 3 rfl) ?_
    refine lv_aload_n hx hb dJx4a65c_add_72be8_13 rfl (lv_at hl 2 rfl) ?_
    refine va_astqM (n := 10) (f := (fun _ => none)) hx hb hK hP hD hS 2 4 rfl rfl (tm_aAny hK hN hP (q0 := 0) rfl) (i := 0) (by show ¬ ((0 : Int32) < 0 ∨ 10 ≤ (0 : Int32).toNatClampNeg); decide) dJx4a65c_add_72be8_14 (fun H locs hP hD hS => ?_)
    have hP : va_P G.1 vwCl [tc_I G r0 5 ri, tc_Jx4a65c a0 mc q_4 0, tc_Q G q_4 10 (va_up (fun _ => none) (0 : Int32).toNatClampNeg (some r0))] H := hP
    have hD : va_D A [tc_I G r0 5 ri, tc_Jx4a65c a0 mc q_4 0, tc_Q G q_4 10 (va_up (fun _ => none) (0 : Int32).toNatClampNeg (some r0))] := hD
    refine lv_aload_n hx hb dJx4a65c_add_72be8_15 rfl (lv_at hl 1 rfl) ?_
    refine lv_iload_n hx hb dJx4a65c_add_72be8_16 rfl (lv_at hl 3 rfl) ?_
    refine lv_iconst (v := 1) hx hb dJx4a65c_add_72be8_17 (by decide) ?_
    refine lv_iadd hx hb dJx4a65c_add_72be8_18 ?_
    refine va_put (D := G.1) (ci := 0) (v := .int (0 + 1)) (ty := .int) (C := RJx4a65c) (T := TJx4a65c) (N := 3) hx hb hts hiJx4a65c tyJx4a65c tyJx4a65c_ok nmJx4a65c hown hK hP hD hS 1 rfl rfl 2 (by decide) (hts (.fieldLink RJx4a65c 48 "java/util/ArrayList" "size" "I") (List.mem_of_getElem? (i := 1) rfl)) (fun _ h9 => h9) rfl (by decide +kernel) rfl rfl (Nat.le_of_ble_eq_true rfl) dJx4a65c_add_72be8_19 (fun H locs hP hD hS => ?_)
    have hP : va_P G.1 vwCl [tc_I G r0 5 ri, tc_Jx4a65c a0 mc q_4 (0 + 1), tc_Q G q_4 10 (va_up (fun _ => none) (0 : Int32).toNatClampNeg (some r0))] H := hP
    have hD : va_D A [tc_I G r0 5 ri, tc_Jx4a65c a0 mc q_4 (0 + 1), tc_Q G q_4 10 (va_up (fun _ => none) (0 : Int32).toNatClampNeg (some r0))] := hD
    exact W.vret hx hb hr (fun t ht hW => ⟨⟨(), rfl, trivial, q_4, by rw [ht]; exact hP, hD⟩, hS.F ht⟩) hS.2.2 dJx4a65c_add_72be8_22
set_option maxHeartbeats 4000000 in
set_option maxRecDepth 100000 in
theorem c_Jx4a65c_add_9ea2d_z (l : Launch) (G : tm_G) (a0 : Nat) (r0 : Nat) (sz : Nat) (mc : Int32) (ri : Nat → Int32) (hn : n_Jx4a65c_add_9ea2d_z ) : Met l yJx4a65c_add_9ea2d wsJx4a65c_add_9ea2d ({ frames := 4, cells := 1, slots := 10, locals := 90 }) (va_Pc [.ref a0, .ref r0] (tm_B G [tc_Jx4a65c a0 mc G.2.2.2.2.2.2.2 0, tc_I G r0 5 ri] sz)) (va_Qi (fun (r : Int32) (_ : Unit) => r = 1) (fun (_ : Unit) (t : State) => ∃ (q_3 : Nat), va_P G.1 vwCl [tc_I G r0 5 ri, tc_Jx4a65c a0 (mc + 1) q_3 (0 + 1), tc_Q G q_3 10 (va_up (fun _ => none) (0 : Int32).toNatClampNeg (some r0))] t.heap ∧ va_D (va_A [tc_Jx4a65c a0 mc G.2.2.2.2.2.2.2 0, tc_I G r0 5 ri] sz) [tc_I G r0 5 ri, tc_Jx4a65c a0 (mc + 1) q_3 (0 + 1), tc_Q G q_3 10 (va_up (fun _ => none) (0 : Int32).toNatClampNeg (some r0))]) (va_A [tc_Jx4a65c a0 mc G.2.2.2.2.2.2.2 0, tc_I G r0 5 ri] sz)) 1 10 (va_A [tc_Jx4a65c a0 mc G.2.2.2.2.2.2.2 0, tc_I G r0 5 ri] sz) := by
  refine Met.ofW (cc := cJx4a65c_add_9ea2d) (maxL := 2) (ret := (some .boolean)) (by decide) rfl ?_
  intro p e s m args below meth c s₁ B hml hv
  obtain ⟨rfl, hsz, hP, hK, hD0, hN, hV⟩ := hv
  have hx := B.exec
  have hb := B.bytes
  have hr := B.returns
  have hts := atoms_spec (ws := wsJx4a65c_add_9ea2d) B.pre
  have hown : s.vm.findClass RJx4a65c = some m.cls := findClass_of_methodNamed B.named
  have hlocks := B.notSynchronized
  subst hsz
  have n_1 := hn
  unfold n_Jx4a65c_add_9ea2d_z at n_1
  have hiJx4a65c : ∀ w ∈ u_ws RJx4a65c TJx4a65c 3, w ∈ wsJx4a65c_add_9ea2d := fun _ h => List.mem_cons_of_mem _ (List.mem_append_right _ h)
  have hD := hD0.self (sz := s.heap.size)
  generalize hAe : va_A [tc_Jx4a65c a0 mc G.2.2.2.2.2.2.2 0, tc_I G r0 5 ri] s.heap.size = A at hD hV ⊢
  have hA : ∀ q : Nat, s.heap.size ≤ q → A q := fun q h => by rw [← hAe]; exact Or.inr h
  have hS : va_S A s.heap s.heap [] := va_S.rf
  have hl := lv_entry ([.ref a0, .ref r0]) (n := 2) (Nat.le_of_ble_eq_true rfl)
  rw [lg_entry_eq]
  generalize (lg_sl ([.ref a0, .ref r0]) ++ List.replicate (2 - (lg_sl ([.ref a0, .ref r0])).length) Slot.unset).toArray = ls at hl ⊢
  have hl : lv_has ls 2 [(0, .ref a0), (1, .ref r0)] := hl
  refine lv_aload_n hx hb dJx4a65c_add_9ea2d_0 rfl (lv_at hl 0 rfl) ?_
  refine lv_dup hx hb dJx4a65c_add_9ea2d_1 rfl ?_
  refine va_get (D := G.1) (ci := 0) (v := .int mc) (C := RJx4a65c) (T := TJx4a65c) (N := 3) hx hb hts hiJx4a65c hown hK hP 0 rfl rfl 0 (by decide) (hts (.fieldLink RJx4a65c 63 "java/util/ArrayList" "modCount" "I") (List.mem_of_getElem? (i := 1) rfl)) (u_same (hts (.sameField "java/util/ArrayList" "java/util/AbstractList" "modCount" "I") (List.mem_of_getElem? (i := 2) rfl))) rfl dJx4a65c_add_9ea2d_2 ?_
  refine lv_iconst (v := 1) hx hb dJx4a65c_add_9ea2d_5 (by decide) ?_
  refine lv_iadd hx hb dJx4a65c_add_9ea2d_6 ?_
  refine va_put (D := G.1) (ci := 0) (v := .int (mc + 1)) (ty := .int) (C := RJx4a65c) (T := TJx4a65c) (N := 3) hx hb hts hiJx4a65c tyJx4a65c tyJx4a65c_ok nmJx4a65c hown hK hP hD hS 0 rfl rfl 0 (by decide) (hts (.fieldLink RJx4a65c 63 "java/util/ArrayList" "modCount" "I") (List.mem_of_getElem? (i := 1) rfl)) (u_same (hts (.sameField "java/util/ArrayList" "java/util/AbstractList" "modCount" "I") (List.mem_of_getElem? (i := 2) rfl))) rfl (by decide +kernel) rfl rfl (Nat.le_of_ble_eq_true rfl) dJx4a65c_add_9ea2d_7 (fun H locs hP hD hS => ?_)
  have hP : va_P G.1 vwCl [tc_Jx4a65c a0 (mc + 1) G.2.2.2.2.2.2.2 0, tc_I G r0 5 ri] H := hP
  have hD : va_D A [tc_Jx4a65c a0 (mc + 1) G.2.2.2.2.2.2.2 0, tc_I G r0 5 ri] := hD
  refine lv_aload_n hx hb dJx4a65c_add_9ea2d_10 rfl (lv_at hl 0 rfl) ?_
  refine lv_aload_n hx hb dJx4a65c_add_9ea2d_11 rfl (lv_at hl 1 rfl) ?_
  refine lv_aload_n hx hb dJx4a65c_add_9ea2d_12 rfl (lv_at hl 0 rfl) ?_
  refine va_get (D := G.1) (ci := 0) (v := .ref G.2.2.2.2.2.2.2) (C := RJx4a65c) (T := TJx4a65c) (N := 3) hx hb hts hiJx4a65c hown hK hP 0 rfl rfl 1 (by decide) (hts (.fieldLink RJx4a65c 9 "java/util/ArrayList" "elementData" "[Ljava/lang/Object;") (List.mem_of_getElem? (i := 3) rfl)) (fun _ h9 => h9) rfl dJx4a65c_add_9ea2d_13 ?_
  refine lv_aload_n hx hb dJx4a65c_add_9ea2d_16 rfl (lv_at hl 0 rfl) ?_
  refine va_get (D := G.1) (ci := 0) (v := .int 0) (C := RJx4a65c) (T := TJx4a65c) (N := 3) hx hb hts hiJx4a65c hown hK hP 0 rfl rfl 2 (by decide) (hts (.fieldLink RJx4a65c 48 "java/util/ArrayList" "size" "I") (List.mem_of_getElem? (i := 4) rfl)) (fun _ h9 => h9) rfl dJx4a65c_add_9ea2d_17 ?_
  have hPc := hP.sub (ws' := [tc_Jx4a65c a0 (mc + 1) G.2.2.2.2.2.2.2 0, tc_I G r0 5 ri]) [0, 1] rfl
  have hDc := hD.sub (ws' := [tc_Jx4a65c a0 (mc + 1) G.2.2.2.2.2.2.2 0, tc_I G r0 5 ri]) [0, 1] (by decide) rfl
  have hFc := va_free (wc := [tc_Jx4a65c a0 (mc + 1) G.2.2.2.2.2.2.2 0, tc_I G r0 5 ri]) hD hS hA [0, 1] rfl
  refine va_callv (va_runV (As := [.ref r0, .ref G.2.2.2.2.2.2.2, .int 0]) (rest := []) ⟨hx, hb, hml, hown, hts⟩ (c_Jx4a65c_add_72be8_z l G a0 r0 H.size (mc + 1) ri n_1) (cwV 3 hts gJx4a65c_add_9ea2d_Jx4a65c_add_72be8 rfl rfl rfl (by decide +kernel) ⟨(Nat.le_of_ble_eq_true rfl), (Nat.le_of_ble_eq_true rfl)⟩) (tm_preV hK hN hV hS hPc hDc hFc (va_recv hK hPc (ci := 0) (q0 := 0) rfl rfl)) rfl rfl hl.1 rfl (lv_room (Nat.le_of_ble_eq_true rfl)) dJx4a65c_add_9ea2d_20 ⟨(Nat.le_of_ble_eq_true rfl), (Nat.le_of_ble_eq_true rfl)⟩) hS (fun q _ h => hFc q h) hFc (fun u t H locs ht hvm hw_2 hB hz1 hk1 hS => ?_)
  obtain ⟨q_3, hP1, hD1⟩ := hB
  rw [ht] at hP1
  obtain ⟨hP, hD⟩ := va_join (wr := []) (w1 := [tc_I G r0 5 ri, tc_Jx4a65c a0 (mc + 1) q_3 (0 + 1), tc_Q G q_3 10 (va_up (fun _ => none) (0 : Int32).toNatClampNeg (some r0))]) hP hD [0, 1] [] rfl rfl (by decide) (by decide) hk1 hFc hP1 hD1
  have hP : va_P G.1 vwCl [tc_I G r0 5 ri, tc_Jx4a65c a0 (mc + 1) q_3 (0 + 1), tc_Q G q_3 10 (va_up (fun _ => none) (0 : Int32).toNatClampNeg (some r0))] H := hP
  have hD : va_D A [tc_I G r0 5 ri, tc_Jx4a65c a0 (mc + 1) q_3 (0 + 1), tc_Q G q_3 10 (va_up (fun _ => none) (0 : Int32).toNatClampNeg (some r0))] := hD
  refine W.widen (k := 1) (n := 10) (Nat.le_of_ble_eq_true rfl) (Nat.le_of_ble_eq_true rfl) ?_
  refine lv_iconst (v := 1) hx hb dJx4a65c_add_9ea2d_23 (by decide) ?_
  exact W.zret (v := 1) hx hb hr rfl (fun t ht hW => ⟨⟨1, (), rfl, rfl, q_3, by rw [ht]; exact hP, hD⟩, hS.F ht⟩) hS.2.2 dJx4a65c_add_9ea2d_24
set_option maxHeartbeats 4000000 in
set_option maxRecDepth 100000 in
theorem c_Jx4a65c_add_72be8 (l : Launch) (G : tm_G) (a0 : Nat) (ed : Nat) (r0 : Nat) (sz : Nat) (mc : Int32) (ri : Nat → Int32) (n : Nat) (ad : Nat → Nat) (rc : Nat → Nat → Int32) (hn : n_Jx4a65c_add_72be8 n) : Met l yJx4a65c_add_72be8 wsJx4a65c_add_72be8 ({ frames := 0, cells := 0, slots := 0, locals := 0 }) (va_Pc [.ref a0, .ref r0, .ref ed, .int (nI n)] (tm_B G ([tc_Jx4a65c a0 mc ed (nI n), tc_I G r0 5 ri] ++ tm_L G ed n ad rc) sz)) (va_Qv (fun (_ : Unit) => True) (fun (_ : Unit) (t : State) => va_P G.1 vwCl ([tc_Jx4a65c a0 mc ed ((nI n) + 1)] ++ tm_L G ed (n + 1) (vf_upd ad n r0) (vf_upd rc n ri)) t.heap ∧ va_D (va_A ([tc_Jx4a65c a0 mc ed (nI n), tc_I G r0 5 ri] ++ tm_L G ed n ad rc) sz) ([tc_Jx4a65c a0 mc ed ((nI n) + 1)] ++ tm_L G ed (n + 1) (vf_upd ad n r0) (vf_upd rc n ri))) (va_A ([tc_Jx4a65c a0 mc ed (nI n), tc_I G r0 5 ri] ++ tm_L G ed n ad rc) sz)) 0 0 (va_A ([tc_Jx4a65c a0 mc ed (nI n), tc_I G r0 5 ri] ++ tm_L G ed n ad rc) sz) := by
  refine Met.ofW (cc := cJx4a65c_add_72be8) (maxL := 4) (ret := none) (by decide) rfl ?_
  intro p e s m args below meth c s₁ B hml hv
  obtain ⟨rfl, hsz, hP, hK, hD0, hN, hV⟩ := hv
  have hx := B.exec
  have hb := B.bytes
  have hr := B.returns
  have hts := atoms_spec (ws := wsJx4a65c_add_72be8) B.pre
  have hown : s.vm.findClass RJx4a65c = some m.cls := findClass_of_methodNamed B.named
  have hlocks := B.notSynchronized
  subst hsz
  obtain ⟨na_0, n_1, n_3⟩ := hn
  have hiJx4a65c : ∀ w ∈ u_ws RJx4a65c TJx4a65c 3, w ∈ wsJx4a65c_add_72be8 := fun _ h => List.mem_cons_of_mem _ (List.mem_append_right _ h)
  have hD := hD0.self (sz := s.heap.size)
  generalize hAe : va_A ([tc_Jx4a65c a0 mc ed (nI n), tc_I G r0 5 ri] ++ tm_L G ed n ad rc) s.heap.size = A at hD hV ⊢
  have hA : ∀ q : Nat, s.heap.size ≤ q → A q := fun q h => by rw [← hAe]; exact Or.inr h
  have hS : va_S A s.heap s.heap [] := va_S.rf
  have hl := lv_entry ([.ref a0, .ref r0, .ref ed, .int (nI n)]) (n := 4) (Nat.le_of_ble_eq_true rfl)
  rw [lg_entry_eq]
  generalize (lg_sl ([.ref a0, .ref r0, .ref ed, .int (nI n)]) ++ List.replicate (4 - (lg_sl ([.ref a0, .ref r0, .ref ed, .int (nI n)])).length) Slot.unset).toArray = ls at hl ⊢
  have hl : lv_has ls 4 [(0, .ref a0), (1, .ref r0), (2, .ref ed), (3, .int (nI n))] := hl
  refine lv_iload_n hx hb dJx4a65c_add_72be8_0 rfl (lv_at hl 3 rfl) ?_
  refine lv_aload_n hx hb dJx4a65c_add_72be8_1 rfl (lv_at hl 2 rfl) ?_
  refine va_alen (v := 10) hx hb hK hP _ 4 (tm_L_ed n_1) rfl rfl dJx4a65c_add_72be8_2 ?_
  refine lv_icmp_ne (tgt := 11) hx hb dJx4a65c_add_72be8_3 (by decide) (fun c_2 => ?_) (fun c_2 => ?_)
  · refine lv_aload_n hx hb dJx4a65c_add_72be8_11 rfl (lv_at hl 2 rfl) ?_
    refine lv_iload_n hx hb dJx4a65c_add_72be8_12 rfl (lv_at hl 3 rfl) ?_
    refine lv_aload_n hx hb dJx4a65c_add_72be8_13 rfl (lv_at hl 1 rfl) ?_
    refine va_astqM (n := 10) (f := fun k => if k < n then some (ad k) else none) hx hb hK hP hD hS _ 4 (tm_L_ed n_1) rfl (tm_aAny hK hN hP (q0 := 1) rfl) (i := nI n) (tm_in10n n_3) dJx4a65c_add_72be8_14 (fun H locs hP hD hS => ?_)
    rw [tm_nI n_3] at hP hD
    replace hP := tm_permP (tm_L_add (X := [tc_Jx4a65c a0 mc ed (nI n)]) n_1) hP; replace hD := tm_permD (tm_L_add (X := [tc_Jx4a65c a0 mc ed (nI n)]) n_1) hD
    have hP : va_P G.1 vwCl ([tc_Jx4a65c a0 mc ed (nI n)] ++ tm_L G ed (n + 1) (vf_upd ad n r0) (vf_upd rc n ri)) H := hP
    have hD : va_D A ([tc_Jx4a65c a0 mc ed (nI n)] ++ tm_L G ed (n + 1) (vf_upd ad n r0) (vf_upd rc n ri)) := hD
    refine lv_aload_n hx hb dJx4a65c_add_72be8_15 rfl (lv_at hl 0 rfl) ?_
    refine lv_iload_n hx hb dJx4a65c_add_72be8_16 rfl (lv_at hl 3 rfl) ?_
    refine lv_iconst (v := 1) hx hb dJx4a65c_add_72be8_17 (by decide) ?_
    refine lv_iadd hx hb dJx4a65c_add_72be8_18 ?_
    refine va_put (D := G.1) (ci := 0) (v := .int ((nI n) + 1)) (ty := .int) (C := RJx4a65c) (T := TJx4a65c) (N := 3) hx hb hts hiJx4a65c tyJx4a65c tyJx4a65c_ok nmJx4a65c hown hK hP hD hS 0 rfl rfl 2 (by decide) (hts (.fieldLink RJx4a65c 48 "java/util/ArrayList" "size" "I") (List.mem_of_getElem? (i := 1) rfl)) (fun _ h9 => h9) rfl (by decide +kernel) rfl rfl (Nat.le_of_ble_eq_true rfl) dJx4a65c_add_72be8_19 (fun H locs hP hD hS => ?_)
    have hP : va_P G.1 vwCl ([tc_Jx4a65c a0 mc ed ((nI n) + 1)] ++ tm_L G ed (n + 1) (vf_upd ad n r0) (vf_upd rc n ri)) H := hP
    have hD : va_D A ([tc_Jx4a65c a0 mc ed ((nI n) + 1)] ++ tm_L G ed (n + 1) (vf_upd ad n r0) (vf_upd rc n ri)) := hD
    exact W.vret hx hb hr (fun t ht hW => ⟨⟨(), rfl, trivial, by rw [ht]; exact hP, hD⟩, hS.F ht⟩) hS.2.2 dJx4a65c_add_72be8_22
  · exact absurd c_2 na_0
set_option maxHeartbeats 4000000 in
set_option maxRecDepth 100000 in
theorem c_Jx4a65c_add_9ea2d (l : Launch) (G : tm_G) (a0 : Nat) (ed : Nat) (r0 : Nat) (sz : Nat) (mc : Int32) (ri : Nat → Int32) (n : Nat) (ad : Nat → Nat) (rc : Nat → Nat → Int32) (hn : n_Jx4a65c_add_9ea2d n) : Met l yJx4a65c_add_9ea2d wsJx4a65c_add_9ea2d ({ frames := 1, cells := 0, slots := 0, locals := 23 }) (va_Pc [.ref a0, .ref r0] (tm_B G ([tc_Jx4a65c a0 mc ed (nI n), tc_I G r0 5 ri] ++ tm_L G ed n ad rc) sz)) (va_Qi (fun (r : Int32) (_ : Unit) => r = 1) (fun (_ : Unit) (t : State) => va_P G.1 vwCl ([tc_Jx4a65c a0 (mc + 1) ed ((nI n) + 1)] ++ tm_L G ed (n + 1) (vf_upd ad n r0) (vf_upd rc n ri)) t.heap ∧ va_D (va_A ([tc_Jx4a65c a0 mc ed (nI n), tc_I G r0 5 ri] ++ tm_L G ed n ad rc) sz) ([tc_Jx4a65c a0 (mc + 1) ed ((nI n) + 1)] ++ tm_L G ed (n + 1) (vf_upd ad n r0) (vf_upd rc n ri))) (va_A ([tc_Jx4a65c a0 mc ed (nI n), tc_I G r0 5 ri] ++ tm_L G ed n ad rc) sz)) 0 0 (va_A ([tc_Jx4a65c a0 mc ed (nI n), tc_I G r0 5 ri] ++ tm_L G ed n ad rc) sz) := by
  refine Met.ofW (cc := cJx4a65c_add_9ea2d) (maxL := 2) (ret := (some .boolean)) (by decide) rfl ?_
  intro p e s m args below meth c s₁ B hml hv
  obtain ⟨rfl, hsz, hP, hK, hD0, hN, hV⟩ := hv
  have hx := B.exec
  have hb := B.bytes
  have hr := B.returns
  have hts := atoms_spec (ws := wsJx4a65c_add_9ea2d) B.pre
  have hown : s.vm.findClass RJx4a65c = some m.cls := findClass_of_methodNamed B.named
  have hlocks := B.notSynchronized
  subst hsz
  have n_1 := hn
  unfold n_Jx4a65c_add_9ea2d at n_1
  have hiJx4a65c : ∀ w ∈ u_ws RJx4a65c TJx4a65c 3, w ∈ wsJx4a65c_add_9ea2d := fun _ h => List.mem_cons_of_mem _ (List.mem_append_right _ h)
  have hD := hD0.self (sz := s.heap.size)
  generalize hAe : va_A ([tc_Jx4a65c a0 mc ed (nI n), tc_I G r0 5 ri] ++ tm_L G ed n ad rc) s.heap.size = A at hD hV ⊢
  have hA : ∀ q : Nat, s.heap.size ≤ q → A q := fun q h => by rw [← hAe]; exact Or.inr h
  have hS : va_S A s.heap s.heap [] := va_S.rf
  have hl := lv_entry ([.ref a0, .ref r0]) (n := 2) (Nat.le_of_ble_eq_true rfl)
  rw [lg_entry_eq]
  generalize (lg_sl ([.ref a0, .ref r0]) ++ List.replicate (2 - (lg_sl ([.ref a0, .ref r0])).length) Slot.unset).toArray = ls at hl ⊢
  have hl : lv_has ls 2 [(0, .ref a0), (1, .ref r0)] := hl
  refine lv_aload_n hx hb dJx4a65c_add_9ea2d_0 rfl (lv_at hl 0 rfl) ?_
  refine lv_dup hx hb dJx4a65c_add_9ea2d_1 rfl ?_
  refine va_get (D := G.1) (ci := 0) (v := .int mc) (C := RJx4a65c) (T := TJx4a65c) (N := 3) hx hb hts hiJx4a65c hown hK hP 0 rfl rfl 0 (by decide) (hts (.fieldLink RJx4a65c 63 "java/util/ArrayList" "modCount" "I") (List.mem_of_getElem? (i := 1) rfl)) (u_same (hts (.sameField "java/util/ArrayList" "java/util/AbstractList" "modCount" "I") (List.mem_of_getElem? (i := 2) rfl))) rfl dJx4a65c_add_9ea2d_2 ?_
  refine lv_iconst (v := 1) hx hb dJx4a65c_add_9ea2d_5 (by decide) ?_
  refine lv_iadd hx hb dJx4a65c_add_9ea2d_6 ?_
  refine va_put (D := G.1) (ci := 0) (v := .int (mc + 1)) (ty := .int) (C := RJx4a65c) (T := TJx4a65c) (N := 3) hx hb hts hiJx4a65c tyJx4a65c tyJx4a65c_ok nmJx4a65c hown hK hP hD hS 0 rfl rfl 0 (by decide) (hts (.fieldLink RJx4a65c 63 "java/util/ArrayList" "modCount" "I") (List.mem_of_getElem? (i := 1) rfl)) (u_same (hts (.sameField "java/util/ArrayList" "java/util/AbstractList" "modCount" "I") (List.mem_of_getElem? (i := 2) rfl))) rfl (by decide +kernel) rfl rfl (Nat.le_of_ble_eq_true rfl) dJx4a65c_add_9ea2d_7 (fun H locs hP hD hS => ?_)
  have hP : va_P G.1 vwCl ([tc_Jx4a65c a0 (mc + 1) ed (nI n), tc_I G r0 5 ri] ++ tm_L G ed n ad rc) H := hP
  have hD : va_D A ([tc_Jx4a65c a0 (mc + 1) ed (nI n), tc_I G r0 5 ri] ++ tm_L G ed n ad rc) := hD
  refine lv_aload_n hx hb dJx4a65c_add_9ea2d_10 rfl (lv_at hl 0 rfl) ?_
  refine lv_aload_n hx hb dJx4a65c_add_9ea2d_11 rfl (lv_at hl 1 rfl) ?_
  refine lv_aload_n hx hb dJx4a65c_add_9ea2d_12 rfl (lv_at hl 0 rfl) ?_
  refine va_get (D := G.1) (ci := 0) (v := .ref ed) (C := RJx4a65c) (T := TJx4a65c) (N := 3) hx hb hts hiJx4a65c hown hK hP 0 rfl rfl 1 (by decide) (hts (.fieldLink RJx4a65c 9 "java/util/ArrayList" "elementData" "[Ljava/lang/Object;") (List.mem_of_getElem? (i := 3) rfl)) (fun _ h9 => h9) rfl dJx4a65c_add_9ea2d_13 ?_
  refine lv_aload_n hx hb dJx4a65c_add_9ea2d_16 rfl (lv_at hl 0 rfl) ?_
  refine va_get (D := G.1) (ci := 0) (v := .int (nI n)) (C := RJx4a65c) (T := TJx4a65c) (N := 3) hx hb hts hiJx4a65c hown hK hP 0 rfl rfl 2 (by decide) (hts (.fieldLink RJx4a65c 48 "java/util/ArrayList" "size" "I") (List.mem_of_getElem? (i := 4) rfl)) (fun _ h9 => h9) rfl dJx4a65c_add_9ea2d_17 ?_
  have hPc := va_P.part (X := [tc_Jx4a65c a0 (mc + 1) ed (nI n), tc_I G r0 5 ri]) (cx := [tc_Jx4a65c a0 (mc + 1) ed (nI n), tc_I G r0 5 ri]) (pl := tm_L G ed n ad rc) hP [0, 1] rfl
  have hDc := va_D.part (X := [tc_Jx4a65c a0 (mc + 1) ed (nI n), tc_I G r0 5 ri]) (cx := [tc_Jx4a65c a0 (mc + 1) ed (nI n), tc_I G r0 5 ri]) (pl := tm_L G ed n ad rc) hD [0, 1] (by decide) rfl
  have hFc := va_freeP (X := [tc_Jx4a65c a0 (mc + 1) ed (nI n), tc_I G r0 5 ri]) (cx := [tc_Jx4a65c a0 (mc + 1) ed (nI n), tc_I G r0 5 ri]) (pl := tm_L G ed n ad rc) hD hS hA [0, 1] rfl
  refine va_callv (va_runV (As := [.ref r0, .ref ed, .int (nI n)]) (rest := []) ⟨hx, hb, hml, hown, hts⟩ (c_Jx4a65c_add_72be8 l G a0 ed r0 H.size (mc + 1) ri n ad rc n_1) (cwV 3 hts gJx4a65c_add_9ea2d_Jx4a65c_add_72be8 rfl rfl rfl (by decide +kernel) ⟨(Nat.le_of_ble_eq_true rfl), (Nat.le_of_ble_eq_true rfl)⟩) (tm_preV hK hN hV hS hPc hDc hFc (va_recv hK hPc (ci := 0) (q0 := 0) rfl rfl)) rfl rfl hl.1 rfl (lv_room (Nat.le_of_ble_eq_true rfl)) dJx4a65c_add_9ea2d_20 ⟨(Nat.le_of_ble_eq_true rfl), (Nat.le_of_ble_eq_true rfl)⟩) hS (fun q _ h => hFc q h) hFc (fun u t H locs ht hvm hw_2 hB hz1 hk1 hS => ?_)
  obtain ⟨hP1, hD1⟩ := hB
  rw [ht] at hP1
  obtain ⟨hP, hD⟩ := va_joinP (X := [tc_Jx4a65c a0 (mc + 1) ed (nI n), tc_I G r0 5 ri]) (cx := [tc_Jx4a65c a0 (mc + 1) ed (nI n), tc_I G r0 5 ri]) (wr := []) (rx := [tc_Jx4a65c a0 (mc + 1) ed ((nI n) + 1)]) (pl := tm_L G ed n ad rc) (pl1 := tm_L G ed (n + 1) (vf_upd ad n r0) (vf_upd rc n ri)) hP hD [0, 1] [] rfl rfl (by decide) (by decide) hk1 hFc hP1 hD1
  have hP : va_P G.1 vwCl ([tc_Jx4a65c a0 (mc + 1) ed ((nI n) + 1)] ++ tm_L G ed (n + 1) (vf_upd ad n r0) (vf_upd rc n ri)) H := hP
  have hD : va_D A ([tc_Jx4a65c a0 (mc + 1) ed ((nI n) + 1)] ++ tm_L G ed (n + 1) (vf_upd ad n r0) (vf_upd rc n ri)) := hD
  refine lv_iconst (v := 1) hx hb dJx4a65c_add_9ea2d_23 (by decide) ?_
  exact W.zret (v := 1) hx hb hr rfl (fun t ht hW => ⟨⟨1, (), rfl, rfl, by rw [ht]; exact hP, hD⟩, hS.F ht⟩) hS.2.2 dJx4a65c_add_9ea2d_24
