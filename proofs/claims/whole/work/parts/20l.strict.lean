/-- a method of a class that has entries of its own, but none of this name -/
theorem tm_ofWF {l : Launch} {y : MethodName} {ws ws' : List Cond} {rm : Room} {Pc : Array Value → State → Prop} {Qc : Array Value → State → Outcome → State → Prop} {mc ms : Nat} {free : Addr → Prop} {cc : ByteArray} {maxL : Nat} {ret : Option FieldType}
    (hy : plainFor y = true) (hw : ws = Cond.code y cc maxL ret :: ws')
    (body : ∀ p e s m args below meth c s₁, BodyLoose p l y (headSpec ws rm) cc maxL ret e s m args below meth c s₁ → c.maxLocals = maxL → Pc args s →
      W p l e (headSpec ws rm).room s m args below meth c s.heap [] 0 0 (MQ below Qc args s mc ms free) (entryFrame m args maxL)) : Met l y ws rm Pc Qc mc ms free := by
  refine MetFree.of_bodySF (code := cc) (maxLocals := maxL) (ret := ret) hy ?_ ?_
  · intro args s m h hn
    obtain ⟨meth, c, h1, h2, h3, h4, h5, h6, -, -⟩ := Cond.code_spec hn (atoms_spec (ws := ws) h _ (by rw [hw]; exact List.mem_cons_self))
    exact ⟨meth, c, h1, h2, h3, h4, h5, h6⟩
  · intro p e s m args below meth c s₁ B hml hP _
    have hh0 : s₁.heap = s.heap := by rw [B.state]; rfl
    obtain ⟨t, a1, o, b1, b2, b3⟩ := body p e s m args below meth c s₁ B hml hP s₁ hh0 (Stand.of_body B)
    exact ⟨t, o, a1, b1, b2, ⟨b3.1, b3.2⟩⟩
set_option maxHeartbeats 4000000 in
set_option maxRecDepth 100000 in
theorem c_J9_getExponent_b4643 (l : Launch) (G : tm_G)  (sz : Nat) (p0 : UInt64) : Met l yJ9_getExponent_b4643 wsJ9_getExponent_b4643 ({ frames := 1, cells := 0, slots := 0, locals := 26 }) (va_Pc [.double p0] (tm_B G [] sz)) (va_Qi (fun (r : Int32) (u : Unit) => r = f_J9_getExponent_b4643 p0) (fun (u : Unit) (t : State) => va_P G.1 vwCl [] t.heap ∧ va_D (va_A [] sz) []) (va_A [] sz)) 0 0 (va_A [] sz) := by
  refine tm_ofWF (cc := cJ9_getExponent_b4643) (maxL := 2) (ret := (some .int)) (by decide +kernel) rfl ?_
  intro p e s m args below meth c s₁ B hml hv
  obtain ⟨rfl, hsz, hP, hK, hD0, hN, hV⟩ := hv
  have hx := B.exec
  have hb := B.bytes
  have hr := B.returns
  have hts := atoms_spec (ws := wsJ9_getExponent_b4643) B.pre
  have hown : s.vm.findClass RJ9 = some m.cls := findClass_of_methodNamed B.named
  have hlocks := B.notSynchronized
  subst hsz
  have hD := hD0.self (sz := s.heap.size)
  generalize hAe : va_A [] s.heap.size = A at hD hV ⊢
  have hA : ∀ q : Nat, s.heap.size ≤ q → A q := fun q h => by rw [← hAe]; exact Or.inr h
  have hS : va_S A s.heap s.heap [] := va_S.rf
  have hl := lv_entry ([.double p0]) (n := 2) (Nat.le_of_ble_eq_true rfl)
  rw [lg_entry_eq]
  generalize (lg_sl ([.double p0]) ++ List.replicate (2 - (lg_sl ([.double p0])).length) Slot.unset).toArray = ls at hl ⊢
  have hl : lv_has ls 2 [(0, .double p0)] := hl
  refine lv_dload_n hx hb dJ9_getExponent_b4643_0 rfl (lv_at hl 0 rfl) ?_
  refine vn_d2l hx hb (by rw [hml]; exact hl.1.symm) hown (hts (.methodLink RJ9 79 ⟨"java/lang/Double", "doubleToRawLongBits", "(D)J"⟩) (List.mem_of_getElem? (i := 1) rfl)) (hts (.native ⟨"java/lang/Double", "doubleToRawLongBits", "(D)J"⟩) (List.mem_of_getElem? (i := 2) rfl)) (hts (.static ⟨"java/lang/Double", "doubleToRawLongBits", "(D)J"⟩) (List.mem_of_getElem? (i := 3) rfl)) (hts (.initialized "java/lang/Double") (List.mem_of_getElem? (i := 4) rfl)) (Nat.le_of_ble_eq_true rfl) (Nat.le_of_ble_eq_true rfl) dJ9_getExponent_b4643_1 ?_
  refine lv_ldc2 hx hb hown (hts (.constantLong RJ9 87 (9218868437227405312)) (List.mem_of_getElem? (i := 5) rfl)) dJ9_getExponent_b4643_4 ?_
  refine lv_land hx hb dJ9_getExponent_b4643_7 ?_
  refine lv_bipush (v := 52) hx hb dJ9_getExponent_b4643_8 (by decide) ?_
  refine lv_lshr hx hb dJ9_getExponent_b4643_10 rfl ?_
  refine lv_ldc2 hx hb hown (hts (.constantLong RJ9 322 (1023)) (List.mem_of_getElem? (i := 6) rfl)) dJ9_getExponent_b4643_11 ?_
  refine lv_lsub hx hb dJ9_getExponent_b4643_14 ?_
  refine lv_l2i (v := (((p0.toInt64 &&& 9218868437227405312) >>> ((52 : Int32).toInt64 &&& 63)) - 1023).toInt32) hx hb dJ9_getExponent_b4643_15 rfl ?_
  have hP9 := hP.sub (ws' := []) [] rfl
  have hD9 := hD.sub (ws' := []) [] (by decide) rfl
  exact W.iret (v := (((p0.toInt64 &&& 9218868437227405312) >>> ((52 : Int32).toInt64 &&& 63)) - 1023).toInt32) hx hb hr (fun t ht hW => ⟨⟨(((p0.toInt64 &&& 9218868437227405312) >>> ((52 : Int32).toInt64 &&& 63)) - 1023).toInt32, (), rfl, by unfold f_J9_getExponent_b4643; all_goals rfl, by rw [ht]; exact hP9, hD9⟩, hS.F ht⟩) hS.2.2 dJ9_getExponent_b4643_16
set_option maxHeartbeats 4000000 in
set_option maxRecDepth 100000 in
theorem c_Jxfc994_floorOrCeil_f4a47 (l : Launch) (G : tm_G)  (sz : Nat) (p0 : UInt64) (p1 : UInt64) (p2 : UInt64) (p3 : UInt64) (hn : n_Jxfc994_floorOrCeil_f4a47 p0 p3) : Met l yJxfc994_floorOrCeil_f4a47 wsJxfc994_floorOrCeil_f4a47 ({ frames := 2, cells := 0, slots := 0, locals := 47 }) (va_Pc [.double p0, .double p1, .double p2, .double p3] (tm_B G [] sz)) (va_Qd (fun (r : UInt64) (u : Unit) => r = f_Jxfc994_floorOrCeil_f4a47 p0 p1 p2 p3) (fun (u : Unit) (t : State) => va_P G.1 vwCl [] t.heap ∧ va_D (va_A [] sz) []) (va_A [] sz)) 0 0 (va_A [] sz) := by
  refine Met.ofW (cc := cJxfc994_floorOrCeil_f4a47) (maxL := 15) (ret := (some .double)) (by decide) rfl ?_
  intro p e s m args below meth c s₁ B hml hv
  obtain ⟨rfl, hsz, hP, hK, hD0, hN, hV⟩ := hv
  have hx := B.exec
  have hb := B.bytes
  have hr := B.returns
  have hts := atoms_spec (ws := wsJxfc994_floorOrCeil_f4a47) B.pre
  have hown : s.vm.findClass RJxfc994 = some m.cls := findClass_of_methodNamed B.named
  have hlocks := B.notSynchronized
  subst hsz
  obtain ⟨na_0, n_6, n_7, n_9⟩ := hn
  have hD := hD0.self (sz := s.heap.size)
  generalize hAe : va_A [] s.heap.size = A at hD hV ⊢
  have hA : ∀ q : Nat, s.heap.size ≤ q → A q := fun q h => by rw [← hAe]; exact Or.inr h
  have hS : va_S A s.heap s.heap [] := va_S.rf
  have hl := lv_entry ([.double p0, .double p1, .double p2, .double p3]) (n := 15) (Nat.le_of_ble_eq_true rfl)
  rw [lg_entry_eq]
  generalize (lg_sl ([.double p0, .double p1, .double p2, .double p3]) ++ List.replicate (15 - (lg_sl ([.double p0, .double p1, .double p2, .double p3])).length) Slot.unset).toArray = ls at hl ⊢
  have hl : lv_has ls 15 [(0, .double p0), (2, .double p1), (4, .double p2), (6, .double p3)] := hl
  refine lv_dload_n hx hb dJxfc994_floorOrCeil_f4a47_0 rfl (lv_at hl 0 rfl) ?_
  have hPc := hP.sub (ws' := []) [] rfl
  have hDc := hD.sub (ws' := []) [] (by decide) rfl
  have hFc := va_free (wc := []) hD hS hA [] rfl
  refine va_calli (va_runS (As := [.double p0]) (rest := []) ⟨hx, hb, hml, hown, hts⟩ (c_J9_getExponent_b4643 l G  s.heap.size p0 ) (va_cwS 1 hts gJxfc994_floorOrCeil_f4a47_J9_getExponent_b4643 rfl rfl rfl (by decide +kernel) ⟨(Nat.le_of_ble_eq_true rfl), (Nat.le_of_ble_eq_true rfl)⟩) (tm_preS hK hN hV hS hPc hDc hFc) rfl rfl hl.1 rfl (lv_room (Nat.le_of_ble_eq_true rfl)) dJxfc994_floorOrCeil_f4a47_1 ⟨(Nat.le_of_ble_eq_true rfl), (Nat.le_of_ble_eq_true rfl)⟩) hS (fun q _ h => hFc q h) hFc (fun r_1 u t H locs ht hvm hw_1 hB hz1 hk1 hS => ?_)
  obtain ⟨hP1, hD1⟩ := hB
  rw [ht] at hP1
  try dsimp only at hw_1
  obtain ⟨hP, hD⟩ := va_join (wr := []) (w1 := []) hP hD [] [] rfl rfl (by decide) (by decide) hk1 hFc hP1 hD1
  have hP : va_P G.1 vwCl [] H := hP
  have hD : va_D A [] := hD
  subst r_1
  refine lv_istore (lv' := [(8, .int (f_J9_getExponent_b4643 p0)), (0, .double p0), (2, .double p1), (4, .double p2), (6, .double p3)]) hx hb dJxfc994_floorOrCeil_f4a47_4 hl (by decide) rfl (fun ls hl => ?_)
  refine lv_iload hx hb dJxfc994_floorOrCeil_f4a47_6 (lv_at hl 0 rfl) ?_
  refine lv_if_ge (tgt := 34) hx hb dJxfc994_floorOrCeil_f4a47_8 (by decide) (fun c_2 => ?_) (fun c_2 => ?_)
  · refine lv_iload hx hb dJxfc994_floorOrCeil_f4a47_34 (lv_at hl 0 rfl) ?_
    refine lv_bipush (v := 52) hx hb dJxfc994_floorOrCeil_f4a47_36 (by decide) ?_
    refine lv_icmp_lt (tgt := 43) hx hb dJxfc994_floorOrCeil_f4a47_38 (by decide) (fun c_3 => ?_) (fun c_3 => ?_)
    · refine va_gets hx hb hV.2.2.1 hS hown (hts (.fieldLink RJxfc994 70 "java/lang/StrictMath" "$assertionsDisabled" "Z") (List.mem_of_getElem? (i := 1) rfl)) (fun _ h => h) dJxfc994_floorOrCeil_f4a47_43 ?_
      refine lv_if_ne (tgt := 69) hx hb dJxfc994_floorOrCeil_f4a47_46 (by decide) (fun c_4 => ?_) (fun c_4 => ?_)
      · refine lv_dload_n hx hb dJxfc994_floorOrCeil_f4a47_69 rfl (lv_at hl 1 rfl) ?_
        refine vn_d2l hx hb (by rw [hml]; exact hl.1.symm) hown (hts (.methodLink RJxfc994 77 ⟨"java/lang/Double", "doubleToRawLongBits", "(D)J"⟩) (List.mem_of_getElem? (i := 2) rfl)) (hts (.native ⟨"java/lang/Double", "doubleToRawLongBits", "(D)J"⟩) (List.mem_of_getElem? (i := 3) rfl)) (hts (.static ⟨"java/lang/Double", "doubleToRawLongBits", "(D)J"⟩) (List.mem_of_getElem? (i := 4) rfl)) (hts (.initialized "java/lang/Double") (List.mem_of_getElem? (i := 5) rfl)) (Nat.le_of_ble_eq_true rfl) (Nat.le_of_ble_eq_true rfl) dJxfc994_floorOrCeil_f4a47_70 ?_
        refine lv_lstore (lv' := [(9, .long p0.toInt64), (8, .int (f_J9_getExponent_b4643 p0)), (0, .double p0), (2, .double p1), (4, .double p2), (6, .double p3)]) hx hb dJxfc994_floorOrCeil_f4a47_73 hl (by decide) rfl (fun ls hl => ?_)
        refine lv_ldc2 hx hb hown (hts (.constantLong RJxfc994 85 (4503599627370495)) (List.mem_of_getElem? (i := 6) rfl)) dJxfc994_floorOrCeil_f4a47_75 ?_
        refine lv_iload hx hb dJxfc994_floorOrCeil_f4a47_78 (lv_at hl 1 rfl) ?_
        refine lv_lshr hx hb dJxfc994_floorOrCeil_f4a47_80 rfl ?_
        refine lv_lstore (lv' := [(11, .long (4503599627370495 >>> ((f_J9_getExponent_b4643 p0 : Int32).toInt64 &&& 63))), (9, .long p0.toInt64), (8, .int (f_J9_getExponent_b4643 p0)), (0, .double p0), (2, .double p1), (4, .double p2), (6, .double p3)]) hx hb dJxfc994_floorOrCeil_f4a47_81 hl (by decide) rfl (fun ls hl => ?_)
        refine lv_lload hx hb dJxfc994_floorOrCeil_f4a47_83 (lv_at hl 0 rfl) ?_
        refine lv_lload hx hb dJxfc994_floorOrCeil_f4a47_85 (lv_at hl 1 rfl) ?_
        refine lv_land hx hb dJxfc994_floorOrCeil_f4a47_87 ?_
        refine lv_lconst (v := 0) hx hb dJxfc994_floorOrCeil_f4a47_88 (by decide) ?_
        refine W.lcmp hx hb dJxfc994_floorOrCeil_f4a47_89 ?_
        refine lv_if_ne (tgt := 95) hx hb dJxfc994_floorOrCeil_f4a47_90 (by decide) (fun c_5 => ?_) (fun c_5 => ?_)
        · refine lv_lload hx hb dJxfc994_floorOrCeil_f4a47_95 (lv_at hl 1 rfl) ?_
          refine lv_lload hx hb dJxfc994_floorOrCeil_f4a47_97 (lv_at hl 0 rfl) ?_
          refine lv_ldc2 hx hb hown (hts (.constantLong RJxfc994 87 (-1)) (List.mem_of_getElem? (i := 7) rfl)) dJxfc994_floorOrCeil_f4a47_99 ?_
          refine lv_lxor hx hb dJxfc994_floorOrCeil_f4a47_102 ?_
          refine lv_land hx hb dJxfc994_floorOrCeil_f4a47_103 ?_
          refine vn_l2d hx hb (by rw [hml]; exact hl.1.symm) hown (hts (.methodLink RJxfc994 89 ⟨"java/lang/Double", "longBitsToDouble", "(J)D"⟩) (List.mem_of_getElem? (i := 8) rfl)) (hts (.native ⟨"java/lang/Double", "longBitsToDouble", "(J)D"⟩) (List.mem_of_getElem? (i := 9) rfl)) (hts (.static ⟨"java/lang/Double", "longBitsToDouble", "(J)D"⟩) (List.mem_of_getElem? (i := 10) rfl)) (hts (.initialized "java/lang/Double") (List.mem_of_getElem? (i := 5) rfl)) (n_6 c_2 c_3 c_5) (Nat.le_of_ble_eq_true rfl) (Nat.le_of_ble_eq_true rfl) dJxfc994_floorOrCeil_f4a47_104 ?_
          refine lv_dstore (lv' := [(13, .double ((p0.toInt64 &&& ((4503599627370495 >>> ((f_J9_getExponent_b4643 p0 : Int32).toInt64 &&& 63)) ^^^ (-1))).toUInt64)), (11, .long (4503599627370495 >>> ((f_J9_getExponent_b4643 p0 : Int32).toInt64 &&& 63))), (9, .long p0.toInt64), (8, .int (f_J9_getExponent_b4643 p0)), (0, .double p0), (2, .double p1), (4, .double p2), (6, .double p3)]) hx hb dJxfc994_floorOrCeil_f4a47_107 hl (by decide) rfl (fun ls hl => ?_)
          refine lv_dload hx hb dJxfc994_floorOrCeil_f4a47_109 (lv_at hl 7 rfl) ?_
          refine lv_dload_n hx hb dJxfc994_floorOrCeil_f4a47_111 rfl (lv_at hl 4 rfl) ?_
          refine lv_dmul hx hb dJxfc994_floorOrCeil_f4a47_112 (n_7 c_2 c_3 c_5) ?_
          refine lv_dconst0 hx hb dJxfc994_floorOrCeil_f4a47_113 ?_
          refine lv_dcmp hx hb dJxfc994_floorOrCeil_f4a47_114 ?_
          refine lv_if_le (tgt := 125) hx hb dJxfc994_floorOrCeil_f4a47_115 (by decide) (fun c_8 => ?_) (fun c_8 => ?_)
          · refine lv_dload hx hb dJxfc994_floorOrCeil_f4a47_125 (lv_at hl 0 rfl) ?_
            have hP9 := hP.sub (ws' := []) [] rfl
            have hD9 := hD.sub (ws' := []) [] (by decide) rfl
            exact W.dret (v := (p0.toInt64 &&& ((4503599627370495 >>> ((f_J9_getExponent_b4643 p0 : Int32).toInt64 &&& 63)) ^^^ (-1))).toUInt64) hx hb hr (fun t ht hW => ⟨⟨(p0.toInt64 &&& ((4503599627370495 >>> ((f_J9_getExponent_b4643 p0 : Int32).toInt64 &&& 63)) ^^^ (-1))).toUInt64, (), rfl, by unfold f_Jxfc994_floorOrCeil_f4a47; all_goals (rw [if_pos c_2]); all_goals (rw [if_pos c_3]); all_goals (rw [if_neg c_5]); all_goals (rw [if_pos c_8]); all_goals rfl, by rw [ht]; exact hP9, hD9⟩, hS.F ht⟩) hS.2.2 dJxfc994_floorOrCeil_f4a47_127
          · refine lv_dload hx hb dJxfc994_floorOrCeil_f4a47_118 (lv_at hl 0 rfl) ?_
            refine lv_dload hx hb dJxfc994_floorOrCeil_f4a47_120 (lv_at hl 7 rfl) ?_
            refine lv_dadd hx hb dJxfc994_floorOrCeil_f4a47_122 (n_9 c_2 c_3 c_5 c_8) ?_
            refine lv_dstore (lv' := [(13, .double (FP.dadd ((p0.toInt64 &&& ((4503599627370495 >>> ((f_J9_getExponent_b4643 p0 : Int32).toInt64 &&& 63)) ^^^ (-1))).toUInt64) p3)), (11, .long (4503599627370495 >>> ((f_J9_getExponent_b4643 p0 : Int32).toInt64 &&& 63))), (9, .long p0.toInt64), (8, .int (f_J9_getExponent_b4643 p0)), (0, .double p0), (2, .double p1), (4, .double p2), (6, .double p3)]) hx hb dJxfc994_floorOrCeil_f4a47_123 hl (by decide) rfl (fun ls hl => ?_)
            refine lv_dload hx hb dJxfc994_floorOrCeil_f4a47_125 (lv_at hl 0 rfl) ?_
            have hP9 := hP.sub (ws' := []) [] rfl
            have hD9 := hD.sub (ws' := []) [] (by decide) rfl
            exact W.dret (v := FP.dadd ((p0.toInt64 &&& ((4503599627370495 >>> ((f_J9_getExponent_b4643 p0 : Int32).toInt64 &&& 63)) ^^^ (-1))).toUInt64) p3) hx hb hr (fun t ht hW => ⟨⟨FP.dadd ((p0.toInt64 &&& ((4503599627370495 >>> ((f_J9_getExponent_b4643 p0 : Int32).toInt64 &&& 63)) ^^^ (-1))).toUInt64) p3, (), rfl, by unfold f_Jxfc994_floorOrCeil_f4a47; all_goals (rw [if_pos c_2]); all_goals (rw [if_pos c_3]); all_goals (rw [if_neg c_5]); all_goals (rw [if_neg c_8]); all_goals rfl, by rw [ht]; exact hP9, hD9⟩, hS.F ht⟩) hS.2.2 dJxfc994_floorOrCeil_f4a47_127
        · refine lv_dload_n hx hb dJxfc994_floorOrCeil_f4a47_93 rfl (lv_at hl 3 rfl) ?_
          have hP9 := hP.sub (ws' := []) [] rfl
          have hD9 := hD.sub (ws' := []) [] (by decide) rfl
          exact W.dret (v := p0) hx hb hr (fun t ht hW => ⟨⟨p0, (), rfl, by unfold f_Jxfc994_floorOrCeil_f4a47; all_goals (rw [if_pos c_2]); all_goals (rw [if_pos c_3]); all_goals (rw [if_pos c_5]); all_goals rfl, by rw [ht]; exact hP9, hD9⟩, hS.F ht⟩) hS.2.2 dJxfc994_floorOrCeil_f4a47_94
      · exact absurd c_4 na_0
    · refine lv_dload_n hx hb dJxfc994_floorOrCeil_f4a47_41 rfl (lv_at hl 1 rfl) ?_
      have hP9 := hP.sub (ws' := []) [] rfl
      have hD9 := hD.sub (ws' := []) [] (by decide) rfl
      exact W.dret (v := p0) hx hb hr (fun t ht hW => ⟨⟨p0, (), rfl, by unfold f_Jxfc994_floorOrCeil_f4a47; all_goals (rw [if_pos c_2]); all_goals (rw [if_neg c_3]); all_goals rfl, by rw [ht]; exact hP9, hD9⟩, hS.F ht⟩) hS.2.2 dJxfc994_floorOrCeil_f4a47_42
  · refine lv_dload_n hx hb dJxfc994_floorOrCeil_f4a47_11 rfl (lv_at hl 1 rfl) ?_
    refine lv_dconst0 hx hb dJxfc994_floorOrCeil_f4a47_12 ?_
    refine lv_dcmp hx hb dJxfc994_floorOrCeil_f4a47_13 ?_
    refine lv_if_ne (tgt := 21) hx hb dJxfc994_floorOrCeil_f4a47_14 (by decide) (fun c_10 => ?_) (fun c_10 => ?_)
    · refine lv_dload_n hx hb dJxfc994_floorOrCeil_f4a47_21 rfl (lv_at hl 1 rfl) ?_
      refine lv_dconst0 hx hb dJxfc994_floorOrCeil_f4a47_22 ?_
      refine lv_dcmp hx hb dJxfc994_floorOrCeil_f4a47_23 ?_
      refine lv_if_ge (tgt := 31) hx hb dJxfc994_floorOrCeil_f4a47_24 (by decide) (fun c_11 => ?_) (fun c_11 => ?_)
      · refine lv_dload hx hb dJxfc994_floorOrCeil_f4a47_31 (lv_at hl 3 rfl) ?_
        have hP9 := hP.sub (ws' := []) [] rfl
        have hD9 := hD.sub (ws' := []) [] (by decide) rfl
        exact W.dret (v := p2) hx hb hr (fun t ht hW => ⟨⟨p2, (), rfl, by unfold f_Jxfc994_floorOrCeil_f4a47; all_goals (rw [if_neg c_2]); all_goals (rw [if_neg c_10]); all_goals (rw [if_pos c_11]); all_goals rfl, by rw [ht]; exact hP9, hD9⟩, hS.F ht⟩) hS.2.2 dJxfc994_floorOrCeil_f4a47_33
      · refine lv_dload_n hx hb dJxfc994_floorOrCeil_f4a47_27 rfl (lv_at hl 2 rfl) ?_
        refine lv_goto (tgt := 33) hx hb dJxfc994_floorOrCeil_f4a47_28 (by decide) ?_
        have hP9 := hP.sub (ws' := []) [] rfl
        have hD9 := hD.sub (ws' := []) [] (by decide) rfl
        exact W.dret (v := p1) hx hb hr (fun t ht hW => ⟨⟨p1, (), rfl, by unfold f_Jxfc994_floorOrCeil_f4a47; all_goals (rw [if_neg c_2]); all_goals (rw [if_neg c_10]); all_goals (rw [if_neg c_11]); all_goals rfl, by rw [ht]; exact hP9, hD9⟩, hS.F ht⟩) hS.2.2 dJxfc994_floorOrCeil_f4a47_33
    · refine lv_dload_n hx hb dJxfc994_floorOrCeil_f4a47_17 rfl (lv_at hl 1 rfl) ?_
      refine lv_goto (tgt := 33) hx hb dJxfc994_floorOrCeil_f4a47_18 (by decide) ?_
      have hP9 := hP.sub (ws' := []) [] rfl
      have hD9 := hD.sub (ws' := []) [] (by decide) rfl
      exact W.dret (v := p0) hx hb hr (fun t ht hW => ⟨⟨p0, (), rfl, by unfold f_Jxfc994_floorOrCeil_f4a47; all_goals (rw [if_neg c_2]); all_goals (rw [if_pos c_10]); all_goals rfl, by rw [ht]; exact hP9, hD9⟩, hS.F ht⟩) hS.2.2 dJxfc994_floorOrCeil_f4a47_33
set_option maxHeartbeats 4000000 in
set_option maxRecDepth 100000 in
theorem c_Jxfc994_ceil_294c1 (l : Launch) (G : tm_G)  (sz : Nat) (p0 : UInt64) (hn : n_Jxfc994_ceil_294c1 p0) : Met l yJxfc994_ceil_294c1 wsJxfc994_ceil_294c1 ({ frames := 3, cells := 0, slots := 0, locals := 81 }) (va_Pc [.double p0] (tm_B G [] sz)) (va_Qd (fun (r : UInt64) (u : Unit) => r = f_Jxfc994_ceil_294c1 p0) (fun (u : Unit) (t : State) => va_P G.1 vwCl [] t.heap ∧ va_D (va_A [] sz) []) (va_A [] sz)) 0 0 (va_A [] sz) := by
  refine Met.ofW (cc := cJxfc994_ceil_294c1) (maxL := 2) (ret := (some .double)) (by decide) rfl ?_
  intro p e s m args below meth c s₁ B hml hv
  obtain ⟨rfl, hsz, hP, hK, hD0, hN, hV⟩ := hv
  have hx := B.exec
  have hb := B.bytes
  have hr := B.returns
  have hts := atoms_spec (ws := wsJxfc994_ceil_294c1) B.pre
  have hown : s.vm.findClass RJxfc994 = some m.cls := findClass_of_methodNamed B.named
  have hlocks := B.notSynchronized
  subst hsz
  have n_1 := hn
  unfold n_Jxfc994_ceil_294c1 at n_1
  have hD := hD0.self (sz := s.heap.size)
  generalize hAe : va_A [] s.heap.size = A at hD hV ⊢
  have hA : ∀ q : Nat, s.heap.size ≤ q → A q := fun q h => by rw [← hAe]; exact Or.inr h
  have hS : va_S A s.heap s.heap [] := va_S.rf
  have hl := lv_entry ([.double p0]) (n := 2) (Nat.le_of_ble_eq_true rfl)
  rw [lg_entry_eq]
  generalize (lg_sl ([.double p0]) ++ List.replicate (2 - (lg_sl ([.double p0])).length) Slot.unset).toArray = ls at hl ⊢
  have hl : lv_has ls 2 [(0, .double p0)] := hl
  refine lv_dload_n hx hb dJxfc994_ceil_294c1_0 rfl (lv_at hl 0 rfl) ?_
  refine lv_ldc2d hx hb hown (hts (.constantDouble RJxfc994 58 (9223372036854775808)) (List.mem_of_getElem? (i := 1) rfl)) dJxfc994_ceil_294c1_1 ?_
  refine lv_dconst1 hx hb dJxfc994_ceil_294c1_4 ?_
  refine lv_dconst1 hx hb dJxfc994_ceil_294c1_5 ?_
  have hPc := hP.sub (ws' := []) [] rfl
  have hDc := hD.sub (ws' := []) [] (by decide) rfl
  have hFc := va_free (wc := []) hD hS hA [] rfl
  refine va_calld (va_runS (As := [.double p0, .double 9223372036854775808, .double FP.dconst1, .double FP.dconst1]) (rest := []) ⟨hx, hb, hml, hown, hts⟩ (c_Jxfc994_floorOrCeil_f4a47 l G  s.heap.size p0 9223372036854775808 FP.dconst1 FP.dconst1 n_1) (cwS 4 hts gJxfc994_ceil_294c1_Jxfc994_floorOrCeil_f4a47 rfl rfl rfl (by decide +kernel) ⟨(Nat.le_of_ble_eq_true rfl), (Nat.le_of_ble_eq_true rfl)⟩) (tm_preS hK hN hV hS hPc hDc hFc) rfl rfl hl.1 rfl (lv_room (Nat.le_of_ble_eq_true rfl)) dJxfc994_ceil_294c1_6 ⟨(Nat.le_of_ble_eq_true rfl), (Nat.le_of_ble_eq_true rfl)⟩) hS (fun q _ h => hFc q h) hFc (fun r_2 u t H locs ht hvm hw_2 hB hz1 hk1 hS => ?_)
  obtain ⟨hP1, hD1⟩ := hB
  rw [ht] at hP1
  try dsimp only at hw_2
  obtain ⟨hP, hD⟩ := va_join (wr := []) (w1 := []) hP hD [] [] rfl rfl (by decide) (by decide) hk1 hFc hP1 hD1
  have hP : va_P G.1 vwCl [] H := hP
  have hD : va_D A [] := hD
  subst r_2
  have hP9 := hP.sub (ws' := []) [] rfl
  have hD9 := hD.sub (ws' := []) [] (by decide) rfl
  exact W.dret (v := f_Jxfc994_floorOrCeil_f4a47 p0 9223372036854775808 FP.dconst1 FP.dconst1) hx hb hr (fun t ht hW => ⟨⟨f_Jxfc994_floorOrCeil_f4a47 p0 9223372036854775808 FP.dconst1 FP.dconst1, (), rfl, by unfold f_Jxfc994_ceil_294c1; all_goals rfl, by rw [ht]; exact hP9, hD9⟩, hS.F ht⟩) hS.2.2 dJxfc994_ceil_294c1_9
