theorem tm_metOf {l : Launch} {y : MethodName} {ws : List Cond} {rm : Room} {Pc : Array Value → State → Prop} {Qc : Array Value → State → Outcome → State → Prop} {mc ms : Nat} {free : Addr → Prop} (h : vx_Met l y ws rm Pc Qc (fun _ _ _ => False) mc ms free) : Met l y ws rm Pc Qc mc ms free :=
  MetFree.mono h (fun _ _ h => h) (fun _ _ _ _ _ h => h) (fun a s o s' _ hq => by
    rcases hq with h | ⟨q, _, E, _, _, hf, _⟩
    · exact h
    · exact hf.elim)
theorem x_X5_moon {tk : Int32} {p1 : Int32} {k : Nat} (h : (Sum.inr k : (Int32 × Int32) ⊕ Nat) = f_X5_moon tk p1) : k = 0 := by
  unfold f_X5_moon at h
  repeat' split at h
  all_goals first | (cases h; done) | (cases h; simp)
def f_L_moon (tk : Int32) (mo : Int32) (oj : Nat → Int64) (p1 : Int32) : Int32 × Int32 × (Nat → Int64) :=
  (match f_X5_moon tk p1 with | .inl (r_1, u_2) => (0, u_2, vp_updL oj (0 : Int32).toNatClampNeg r_1.toInt64) | .inr k9 => (1, mo, oj))
def n_L_moon (tk : Int32) (p1 : Int32) : Prop :=
  (∀ (r_1 : Int32) (u_2 : Int32), (Sum.inl (r_1, u_2) : (Int32 × Int32) ⊕ Nat) = f_X5_moon tk p1 → vp_in 0 1)
set_option maxHeartbeats 4000000 in
set_option maxRecDepth 100000 in
theorem c_L_moon (l : Launch) (G : tm_G) (a0 : Nat) (ma0 : Nat) (ta0 : Nat) (ma1 : Nat) (ma2 : Nat) (ma3 : Nat) (ma4 : Nat) (ob : Nat) (sz : Nat) (lk : Int32) (rf : Int32) (pu : Int32) (to : UInt64) (fh : Int32) (lh : Int32) (ee : Int32) (tk : Int32) (mo : Int32) (su : UInt64) (oj : Nat → Int64) (p1 : Int32) (hn : n_L_moon tk p1) (hlt : l.stackTraces = false) : Met l yL_moon wsL_moon ({ frames := 7, cells := 1, slots := 6, locals := 117 }) (va_Pc [.ref a0, .int p1, .ref ob] (tm_B G [tc_X5 a0 ma0 ta0 lk rf pu to, tc_X1 ma0 ma1 ma2 ma3 ma4 fh lh ee, tc_X4 ma1 tk mo su, tc_J G ob 1 oj] sz)) (va_Qi (fun (r : Int32) (u : Int32 × (Nat → Int64)) => (r, u) = f_L_moon tk mo oj p1) (fun (u : Int32 × (Nat → Int64)) (t : State) => va_P G.1 vwCl [tc_X5 a0 ma0 ta0 lk rf pu to, tc_X1 ma0 ma1 ma2 ma3 ma4 fh lh ee, tc_X4 ma1 tk u.1 su, tc_J G ob 1 u.2] t.heap ∧ va_D (va_A [tc_X5 a0 ma0 ta0 lk rf pu to, tc_X1 ma0 ma1 ma2 ma3 ma4 fh lh ee, tc_X4 ma1 tk mo su, tc_J G ob 1 oj] sz) [tc_X5 a0 ma0 ta0 lk rf pu to, tc_X1 ma0 ma1 ma2 ma3 ma4 fh lh ee, tc_X4 ma1 tk u.1 su, tc_J G ob 1 u.2]) (va_A [tc_X5 a0 ma0 ta0 lk rf pu to, tc_X1 ma0 ma1 ma2 ma3 ma4 fh lh ee, tc_X4 ma1 tk mo su, tc_J G ob 1 oj] sz)) 1 6 (va_A [tc_X5 a0 ma0 ta0 lk rf pu to, tc_X1 ma0 ma1 ma2 ma3 ma4 fh lh ee, tc_X4 ma1 tk mo su, tc_J G ob 1 oj] sz) := by
  refine tm_metOf ?_
  refine vx_ofWH (cc := cL_moon) (maxL := 4) (ret := (some .int)) (hh :=  [(0, 9, 12, 13)]) (by decide) rfl ?_
  intro p e s m args below meth c s₁ B hml hv
  obtain ⟨rfl, hsz, hP, hK, hD0, hN, hV⟩ := hv
  have hx := B.exec
  have hb := B.bytes
  have hr := B.returns
  have hts := atoms_spec (ws := wsL_moon) B.pre
  have htab : c.exceptionTable.toList = tableOf  [(0, 9, 12, 13)] := vx_table (x := yL_moon) B (atoms_spec (ws := wsL_moon) B.pre _ (List.mem_of_getElem? (i := 0) rfl))
  have hown : s.vm.findClass RL = some m.cls := findClass_of_methodNamed B.named
  have hlocks := B.notSynchronized
  subst hsz
  have n_3 := hn
  unfold n_L_moon at n_3
  have hD := hD0.self (sz := s.heap.size)
  generalize hAe : va_A [tc_X5 a0 ma0 ta0 lk rf pu to, tc_X1 ma0 ma1 ma2 ma3 ma4 fh lh ee, tc_X4 ma1 tk mo su, tc_J G ob 1 oj] s.heap.size = A at hD hV ⊢
  have hA : ∀ q : Nat, s.heap.size ≤ q → A q := fun q h => by rw [← hAe]; exact Or.inr h
  have hS : va_S A s.heap s.heap [] := va_S.rf
  have hl := lv_entry ([.ref a0, .int p1, .ref ob]) (n := 4) (Nat.le_of_ble_eq_true rfl)
  rw [lg_entry_eq]
  generalize (lg_sl ([.ref a0, .int p1, .ref ob]) ++ List.replicate (4 - (lg_sl ([.ref a0, .int p1, .ref ob])).length) Slot.unset).toArray = ls at hl ⊢
  have hl : lv_has ls 4 [(0, .ref a0), (1, .int p1), (2, .ref ob)] := hl
  refine lv_aload_n hx hb dL_moon_0 rfl (lv_at hl 2 rfl) ?_
  refine lv_iconst (v := 0) hx hb dL_moon_1 (by decide) ?_
  refine lv_aload_n hx hb dL_moon_2 rfl (lv_at hl 0 rfl) ?_
  refine lv_iload_n hx hb dL_moon_3 rfl (lv_at hl 1 rfl) ?_
  have hPc := hP.sub (ws' := [tc_X5 a0 ma0 ta0 lk rf pu to, tc_X1 ma0 ma1 ma2 ma3 ma4 fh lh ee, tc_X4 ma1 tk mo su]) [0, 1, 2] rfl
  have hDc := hD.sub (ws' := [tc_X5 a0 ma0 ta0 lk rf pu to, tc_X1 ma0 ma1 ma2 ma3 ma4 fh lh ee, tc_X4 ma1 tk mo su]) [0, 1, 2] (by decide) rfl
  have hFc := va_free (wc := [tc_X5 a0 ma0 ta0 lk rf pu to, tc_X1 ma0 ma1 ma2 ma3 ma4 fh lh ee, tc_X4 ma1 tk mo su]) hD hS hA [0, 1, 2] rfl
  refine vx_calli (vx_runV (As := [.int p1]) (rest := [.int 0, .ref ob]) ⟨hx, hb, hml, hown, hts⟩ (c_X5_moon l G a0 ma0 ta0 ma1 ma2 ma3 ma4 s.heap.size lk rf pu to fh lh ee tk mo su p1  hlt) (cwV 1 hts gL_moon_X5_moon rfl rfl rfl (by decide +kernel) ⟨(Nat.le_of_ble_eq_true rfl), (Nat.le_of_ble_eq_true rfl)⟩) (tm_preV hK hN hV hS hPc hDc hFc (va_recv hK hPc (ci := 6) (q0 := 0) rfl rfl)) rfl rfl hl.1 rfl (lv_room (Nat.le_of_ble_eq_true rfl)) dL_moon_4 ⟨(Nat.le_of_ble_eq_true rfl), (Nat.le_of_ble_eq_true rfl)⟩) hS (fun q _ h => hFc q h) hFc (fun q _ h => hFc q h) (fun E9 ce9 q9 k9 st9 H locs ht hvm hw_1 hB hz1 hk1 hS hce hcv hcl => ?_) (fun r_1 u st9 H locs ht hvm hw_1 hB hz1 hk1 hS => ?_)
  · obtain ⟨rfl, hP1, hD1⟩ := hB
    rw [ht] at hP1
    obtain ⟨hP, hD⟩ := va_join (wr := [tc_J G ob 1 oj]) (w1 := [tc_X5 a0 ma0 ta0 lk rf pu to, tc_X1 ma0 ma1 ma2 ma3 ma4 fh lh ee, tc_X4 ma1 tk mo su]) hP hD [0, 1, 2] [3] rfl rfl (by decide) (by decide) hk1 hFc hP1 hD1
    have hP : va_P G.1 vwCl [tc_J G ob 1 oj, tc_X5 a0 ma0 ta0 lk rf pu to, tc_X1 ma0 ma1 ma2 ma3 ma4 fh lh ee, tc_X4 ma1 tk mo su] H := hP
    have hD : va_D A [tc_J G ob 1 oj, tc_X5 a0 ma0 ta0 lk rf pu to, tc_X1 ma0 ma1 ma2 ma3 ma4 fh lh ee, tc_X4 ma1 tk mo su] := hD
    obtain rfl := x_X5_moon hw_1
    · refine vx_catch (name := "java/lang/IllegalArgumentException") (E := "java/lang/IllegalArgumentException") hown [] { startPc := 0, endPc := 9, handlerPc := 12, catchType := 13 } [] (by rw [htab]; rfl) (fun z hz => absurd hz List.not_mem_nil) (by decide) (by decide) (hts (.classLink RL 13 "java/lang/IllegalArgumentException") (List.mem_of_getElem? (i := 1) rfl)) (va_Nw.use rfl (hN.2.1 ("java/lang/IllegalArgumentException", "java/lang/IllegalArgumentException") (List.mem_of_getElem? (i := 0) rfl))) hce hcv hcl ?_
      show W p l e _ s m _ below meth c H locs 1 6 _ (F0 m 12 ls [.ref q9])
      refine lv_astore_n (lv' := [(3, .ref q9), (0, .ref a0), (1, .int p1), (2, .ref ob)]) hx hb dL_moon_12 rfl hl (by decide) rfl (fun ls hl => ?_)
      refine lv_iconst (v := 1) hx hb dL_moon_13 (by decide) ?_
      have hP9 := hP.sub (ws' := [tc_X5 a0 ma0 ta0 lk rf pu to, tc_X1 ma0 ma1 ma2 ma3 ma4 fh lh ee, tc_X4 ma1 tk mo su, tc_J G ob 1 oj]) [1, 2, 3, 0] rfl
      have hD9 := hD.sub (ws' := [tc_X5 a0 ma0 ta0 lk rf pu to, tc_X1 ma0 ma1 ma2 ma3 ma4 fh lh ee, tc_X4 ma1 tk mo su, tc_J G ob 1 oj]) [1, 2, 3, 0] (by decide) rfl
      refine W.widen (k := 1) (n := 6) (Nat.le_of_ble_eq_true rfl) (Nat.le_of_ble_eq_true rfl) (vx_ret ?_)
      exact W.iret (v := 1) hx hb hr (fun t ht hW => ⟨⟨1, (mo, oj), rfl, by unfold f_L_moon; all_goals (rw [← hw_1]); all_goals (dsimp only); all_goals rfl, by rw [ht]; exact hP9, hD9⟩, hS.F ht⟩) hS.2.2 dL_moon_14
  · obtain ⟨u_2, rfl⟩ : ∃ z, z = u := ⟨_, rfl⟩
    obtain ⟨hP1, hD1⟩ := hB
    rw [ht] at hP1
    try dsimp only at hw_1
    obtain ⟨hP, hD⟩ := va_join (wr := [tc_J G ob 1 oj]) (w1 := [tc_X5 a0 ma0 ta0 lk rf pu to, tc_X1 ma0 ma1 ma2 ma3 ma4 fh lh ee, tc_X4 ma1 tk u_2 su]) hP hD [0, 1, 2] [3] rfl rfl (by decide) (by decide) hk1 hFc hP1 hD1
    have hP : va_P G.1 vwCl [tc_J G ob 1 oj, tc_X5 a0 ma0 ta0 lk rf pu to, tc_X1 ma0 ma1 ma2 ma3 ma4 fh lh ee, tc_X4 ma1 tk u_2 su] H := hP
    have hD : va_D A [tc_J G ob 1 oj, tc_X5 a0 ma0 ta0 lk rf pu to, tc_X1 ma0 ma1 ma2 ma3 ma4 fh lh ee, tc_X4 ma1 tk u_2 su] := hD
    refine W.widen (k := 1) (n := 6) (Nat.le_of_ble_eq_true rfl) (Nat.le_of_ble_eq_true rfl) ?_
    refine lv_i2l (v := r_1.toInt64) hx hb dL_moon_7 rfl ?_
    refine va_last (n := 1) (f := oj) hx hb hK hP hD hS 0 5 rfl rfl (n_3 r_1 u_2 hw_1) dL_moon_8 (fun H locs hP hD hS => ?_)
    have hP : va_P G.1 vwCl [tc_J G ob 1 (vp_updL oj (0 : Int32).toNatClampNeg r_1.toInt64), tc_X5 a0 ma0 ta0 lk rf pu to, tc_X1 ma0 ma1 ma2 ma3 ma4 fh lh ee, tc_X4 ma1 tk u_2 su] H := hP
    have hD : va_D A [tc_J G ob 1 (vp_updL oj (0 : Int32).toNatClampNeg r_1.toInt64), tc_X5 a0 ma0 ta0 lk rf pu to, tc_X1 ma0 ma1 ma2 ma3 ma4 fh lh ee, tc_X4 ma1 tk u_2 su] := hD
    refine lv_goto (tgt := 15) hx hb dL_moon_9 (by decide) ?_
    refine lv_iconst (v := 0) hx hb dL_moon_15 (by decide) ?_
    have hP9 := hP.sub (ws' := [tc_X5 a0 ma0 ta0 lk rf pu to, tc_X1 ma0 ma1 ma2 ma3 ma4 fh lh ee, tc_X4 ma1 tk u_2 su, tc_J G ob 1 (vp_updL oj (0 : Int32).toNatClampNeg r_1.toInt64)]) [1, 2, 3, 0] rfl
    have hD9 := hD.sub (ws' := [tc_X5 a0 ma0 ta0 lk rf pu to, tc_X1 ma0 ma1 ma2 ma3 ma4 fh lh ee, tc_X4 ma1 tk u_2 su, tc_J G ob 1 (vp_updL oj (0 : Int32).toNatClampNeg r_1.toInt64)]) [1, 2, 3, 0] (by decide) rfl
    refine W.widen (k := 1) (n := 6) (Nat.le_of_ble_eq_true rfl) (Nat.le_of_ble_eq_true rfl) (vx_ret ?_)
    exact W.iret (v := 0) hx hb hr (fun t ht hW => ⟨⟨0, (u_2, vp_updL oj (0 : Int32).toNatClampNeg r_1.toInt64), rfl, by unfold f_L_moon; all_goals (rw [← hw_1]); all_goals (dsimp only); all_goals rfl, by rw [ht]; exact hP9, hD9⟩, hS.F ht⟩) hS.2.2 dL_moon_16
theorem x_X5_surge {tk : Int32} {mo : Int32} {p1 : Int32} {k : Nat} (h : (Sum.inr k : (UInt64 × UInt64) ⊕ Nat) = f_X5_surge tk mo p1) : k = 0 := by
  unfold f_X5_surge at h
  repeat' split at h
  all_goals first | (cases h; done) | (cases h; simp)
def f_L_surge (tk : Int32) (mo : Int32) (su : UInt64) (od : Nat → UInt64) (p1 : Int32) : Int32 × UInt64 × (Nat → UInt64) :=
  (match f_X5_surge tk mo p1 with | .inl (r_2, u_3) => (0, u_3, vf_upd od (0 : Int32).toNatClampNeg r_2) | .inr k9 => (1, su, od))
def n_L_surge (tk : Int32) (mo : Int32) (p1 : Int32) : Prop :=
  (n_X5_surge tk mo p1) ∧
  (∀ (r_2 : UInt64) (u_3 : UInt64), (Sum.inl (r_2, u_3) : (UInt64 × UInt64) ⊕ Nat) = f_X5_surge tk mo p1 → vp_in 0 1)
set_option maxHeartbeats 4000000 in
set_option maxRecDepth 100000 in
theorem c_L_surge (l : Launch) (G : tm_G) (a0 : Nat) (ma0 : Nat) (ta0 : Nat) (ma1 : Nat) (ma2 : Nat) (ma3 : Nat) (ma4 : Nat) (ob : Nat) (sz : Nat) (lk : Int32) (rf : Int32) (pu : Int32) (to : UInt64) (fh : Int32) (lh : Int32) (ee : Int32) (tk : Int32) (mo : Int32) (su : UInt64) (od : Nat → UInt64) (p1 : Int32) (hn : n_L_surge tk mo p1) (hlt : l.stackTraces = false) : Met l yL_surge wsL_surge ({ frames := 7, cells := 1, slots := 6, locals := 117 }) (va_Pc [.ref a0, .int p1, .ref ob] (tm_B G [tc_X5 a0 ma0 ta0 lk rf pu to, tc_X1 ma0 ma1 ma2 ma3 ma4 fh lh ee, tc_X4 ma1 tk mo su, tc_D G ob 1 od] sz)) (va_Qi (fun (r : Int32) (u : UInt64 × (Nat → UInt64)) => (r, u) = f_L_surge tk mo su od p1) (fun (u : UInt64 × (Nat → UInt64)) (t : State) => va_P G.1 vwCl [tc_X5 a0 ma0 ta0 lk rf pu to, tc_X1 ma0 ma1 ma2 ma3 ma4 fh lh ee, tc_X4 ma1 tk mo u.1, tc_D G ob 1 u.2] t.heap ∧ va_D (va_A [tc_X5 a0 ma0 ta0 lk rf pu to, tc_X1 ma0 ma1 ma2 ma3 ma4 fh lh ee, tc_X4 ma1 tk mo su, tc_D G ob 1 od] sz) [tc_X5 a0 ma0 ta0 lk rf pu to, tc_X1 ma0 ma1 ma2 ma3 ma4 fh lh ee, tc_X4 ma1 tk mo u.1, tc_D G ob 1 u.2]) (va_A [tc_X5 a0 ma0 ta0 lk rf pu to, tc_X1 ma0 ma1 ma2 ma3 ma4 fh lh ee, tc_X4 ma1 tk mo su, tc_D G ob 1 od] sz)) 1 6 (va_A [tc_X5 a0 ma0 ta0 lk rf pu to, tc_X1 ma0 ma1 ma2 ma3 ma4 fh lh ee, tc_X4 ma1 tk mo su, tc_D G ob 1 od] sz) := by
  refine tm_metOf ?_
  refine vx_ofWH (cc := cL_surge) (maxL := 4) (ret := (some .int)) (hh :=  [(0, 8, 11, 13)]) (by decide) rfl ?_
  intro p e s m args below meth c s₁ B hml hv
  obtain ⟨rfl, hsz, hP, hK, hD0, hN, hV⟩ := hv
  have hx := B.exec
  have hb := B.bytes
  have hr := B.returns
  have hts := atoms_spec (ws := wsL_surge) B.pre
  have htab : c.exceptionTable.toList = tableOf  [(0, 8, 11, 13)] := vx_table (x := yL_surge) B (atoms_spec (ws := wsL_surge) B.pre _ (List.mem_of_getElem? (i := 0) rfl))
  have hown : s.vm.findClass RL = some m.cls := findClass_of_methodNamed B.named
  have hlocks := B.notSynchronized
  subst hsz
  obtain ⟨n_1, n_4⟩ := hn
  have hD := hD0.self (sz := s.heap.size)
  generalize hAe : va_A [tc_X5 a0 ma0 ta0 lk rf pu to, tc_X1 ma0 ma1 ma2 ma3 ma4 fh lh ee, tc_X4 ma1 tk mo su, tc_D G ob 1 od] s.heap.size = A at hD hV ⊢
  have hA : ∀ q : Nat, s.heap.size ≤ q → A q := fun q h => by rw [← hAe]; exact Or.inr h
  have hS : va_S A s.heap s.heap [] := va_S.rf
  have hl := lv_entry ([.ref a0, .int p1, .ref ob]) (n := 4) (Nat.le_of_ble_eq_true rfl)
  rw [lg_entry_eq]
  generalize (lg_sl ([.ref a0, .int p1, .ref ob]) ++ List.replicate (4 - (lg_sl ([.ref a0, .int p1, .ref ob])).length) Slot.unset).toArray = ls at hl ⊢
  have hl : lv_has ls 4 [(0, .ref a0), (1, .int p1), (2, .ref ob)] := hl
  refine lv_aload_n hx hb dL_surge_0 rfl (lv_at hl 2 rfl) ?_
  refine lv_iconst (v := 0) hx hb dL_surge_1 (by decide) ?_
  refine lv_aload_n hx hb dL_surge_2 rfl (lv_at hl 0 rfl) ?_
  refine lv_iload_n hx hb dL_surge_3 rfl (lv_at hl 1 rfl) ?_
  have hPc := hP.sub (ws' := [tc_X5 a0 ma0 ta0 lk rf pu to, tc_X1 ma0 ma1 ma2 ma3 ma4 fh lh ee, tc_X4 ma1 tk mo su]) [0, 1, 2] rfl
  have hDc := hD.sub (ws' := [tc_X5 a0 ma0 ta0 lk rf pu to, tc_X1 ma0 ma1 ma2 ma3 ma4 fh lh ee, tc_X4 ma1 tk mo su]) [0, 1, 2] (by decide) rfl
  have hFc := va_free (wc := [tc_X5 a0 ma0 ta0 lk rf pu to, tc_X1 ma0 ma1 ma2 ma3 ma4 fh lh ee, tc_X4 ma1 tk mo su]) hD hS hA [0, 1, 2] rfl
  refine vx_calld (vx_runV (As := [.int p1]) (rest := [.int 0, .ref ob]) ⟨hx, hb, hml, hown, hts⟩ (c_X5_surge l G a0 ma0 ta0 ma1 ma2 ma3 ma4 s.heap.size lk rf pu to fh lh ee tk mo su p1 n_1 hlt) (cwV 1 hts gL_surge_X5_surge rfl rfl rfl (by decide +kernel) ⟨(Nat.le_of_ble_eq_true rfl), (Nat.le_of_ble_eq_true rfl)⟩) (tm_preV hK hN hV hS hPc hDc hFc (va_recv hK hPc (ci := 6) (q0 := 0) rfl rfl)) rfl rfl hl.1 rfl (lv_room (Nat.le_of_ble_eq_true rfl)) dL_surge_4 ⟨(Nat.le_of_ble_eq_true rfl), (Nat.le_of_ble_eq_true rfl)⟩) hS (fun q _ h => hFc q h) hFc (fun q _ h => hFc q h) (fun E9 ce9 q9 k9 st9 H locs ht hvm hw_2 hB hz1 hk1 hS hce hcv hcl => ?_) (fun r_2 u st9 H locs ht hvm hw_2 hB hz1 hk1 hS => ?_)
  · obtain ⟨rfl, hP1, hD1⟩ := hB
    rw [ht] at hP1
    obtain ⟨hP, hD⟩ := va_join (wr := [tc_D G ob 1 od]) (w1 := [tc_X5 a0 ma0 ta0 lk rf pu to, tc_X1 ma0 ma1 ma2 ma3 ma4 fh lh ee, tc_X4 ma1 tk mo su]) hP hD [0, 1, 2] [3] rfl rfl (by decide) (by decide) hk1 hFc hP1 hD1
    have hP : va_P G.1 vwCl [tc_D G ob 1 od, tc_X5 a0 ma0 ta0 lk rf pu to, tc_X1 ma0 ma1 ma2 ma3 ma4 fh lh ee, tc_X4 ma1 tk mo su] H := hP
    have hD : va_D A [tc_D G ob 1 od, tc_X5 a0 ma0 ta0 lk rf pu to, tc_X1 ma0 ma1 ma2 ma3 ma4 fh lh ee, tc_X4 ma1 tk mo su] := hD
    obtain rfl := x_X5_surge hw_2
    · refine vx_catch (name := "java/lang/IllegalArgumentException") (E := "java/lang/IllegalArgumentException") hown [] { startPc := 0, endPc := 8, handlerPc := 11, catchType := 13 } [] (by rw [htab]; rfl) (fun z hz => absurd hz List.not_mem_nil) (by decide) (by decide) (hts (.classLink RL 13 "java/lang/IllegalArgumentException") (List.mem_of_getElem? (i := 1) rfl)) (va_Nw.use rfl (hN.2.1 ("java/lang/IllegalArgumentException", "java/lang/IllegalArgumentException") (List.mem_of_getElem? (i := 0) rfl))) hce hcv hcl ?_
      show W p l e _ s m _ below meth c H locs 1 6 _ (F0 m 11 ls [.ref q9])
      refine lv_astore_n (lv' := [(3, .ref q9), (0, .ref a0), (1, .int p1), (2, .ref ob)]) hx hb dL_surge_11 rfl hl (by decide) rfl (fun ls hl => ?_)
      refine lv_iconst (v := 1) hx hb dL_surge_12 (by decide) ?_
      have hP9 := hP.sub (ws' := [tc_X5 a0 ma0 ta0 lk rf pu to, tc_X1 ma0 ma1 ma2 ma3 ma4 fh lh ee, tc_X4 ma1 tk mo su, tc_D G ob 1 od]) [1, 2, 3, 0] rfl
      have hD9 := hD.sub (ws' := [tc_X5 a0 ma0 ta0 lk rf pu to, tc_X1 ma0 ma1 ma2 ma3 ma4 fh lh ee, tc_X4 ma1 tk mo su, tc_D G ob 1 od]) [1, 2, 3, 0] (by decide) rfl
      refine W.widen (k := 1) (n := 6) (Nat.le_of_ble_eq_true rfl) (Nat.le_of_ble_eq_true rfl) (vx_ret ?_)
      exact W.iret (v := 1) hx hb hr (fun t ht hW => ⟨⟨1, (su, od), rfl, by unfold f_L_surge; all_goals (rw [← hw_2]); all_goals (dsimp only); all_goals rfl, by rw [ht]; exact hP9, hD9⟩, hS.F ht⟩) hS.2.2 dL_surge_13
  · obtain ⟨u_3, rfl⟩ : ∃ z, z = u := ⟨_, rfl⟩
    obtain ⟨hP1, hD1⟩ := hB
    rw [ht] at hP1
    try dsimp only at hw_2
    obtain ⟨hP, hD⟩ := va_join (wr := [tc_D G ob 1 od]) (w1 := [tc_X5 a0 ma0 ta0 lk rf pu to, tc_X1 ma0 ma1 ma2 ma3 ma4 fh lh ee, tc_X4 ma1 tk mo u_3]) hP hD [0, 1, 2] [3] rfl rfl (by decide) (by decide) hk1 hFc hP1 hD1
    have hP : va_P G.1 vwCl [tc_D G ob 1 od, tc_X5 a0 ma0 ta0 lk rf pu to, tc_X1 ma0 ma1 ma2 ma3 ma4 fh lh ee, tc_X4 ma1 tk mo u_3] H := hP
    have hD : va_D A [tc_D G ob 1 od, tc_X5 a0 ma0 ta0 lk rf pu to, tc_X1 ma0 ma1 ma2 ma3 ma4 fh lh ee, tc_X4 ma1 tk mo u_3] := hD
    refine W.widen (k := 1) (n := 6) (Nat.le_of_ble_eq_true rfl) (Nat.le_of_ble_eq_true rfl) ?_
    refine va_dast (n := 1) (f := od) hx hb hK hP hD hS 0 1 rfl rfl (n_4 r_2 u_3 hw_2) dL_surge_7 (fun H locs hP hD hS => ?_)
    have hP : va_P G.1 vwCl [tc_D G ob 1 (vf_upd od (0 : Int32).toNatClampNeg r_2), tc_X5 a0 ma0 ta0 lk rf pu to, tc_X1 ma0 ma1 ma2 ma3 ma4 fh lh ee, tc_X4 ma1 tk mo u_3] H := hP
    have hD : va_D A [tc_D G ob 1 (vf_upd od (0 : Int32).toNatClampNeg r_2), tc_X5 a0 ma0 ta0 lk rf pu to, tc_X1 ma0 ma1 ma2 ma3 ma4 fh lh ee, tc_X4 ma1 tk mo u_3] := hD
    refine lv_goto (tgt := 14) hx hb dL_surge_8 (by decide) ?_
    refine lv_iconst (v := 0) hx hb dL_surge_14 (by decide) ?_
    have hP9 := hP.sub (ws' := [tc_X5 a0 ma0 ta0 lk rf pu to, tc_X1 ma0 ma1 ma2 ma3 ma4 fh lh ee, tc_X4 ma1 tk mo u_3, tc_D G ob 1 (vf_upd od (0 : Int32).toNatClampNeg r_2)]) [1, 2, 3, 0] rfl
    have hD9 := hD.sub (ws' := [tc_X5 a0 ma0 ta0 lk rf pu to, tc_X1 ma0 ma1 ma2 ma3 ma4 fh lh ee, tc_X4 ma1 tk mo u_3, tc_D G ob 1 (vf_upd od (0 : Int32).toNatClampNeg r_2)]) [1, 2, 3, 0] (by decide) rfl
    refine W.widen (k := 1) (n := 6) (Nat.le_of_ble_eq_true rfl) (Nat.le_of_ble_eq_true rfl) (vx_ret ?_)
    exact W.iret (v := 0) hx hb hr (fun t ht hW => ⟨⟨0, (u_3, vf_upd od (0 : Int32).toNatClampNeg r_2), rfl, by unfold f_L_surge; all_goals (rw [← hw_2]); all_goals (dsimp only); all_goals rfl, by rw [ht]; exact hP9, hD9⟩, hS.F ht⟩) hS.2.2 dL_surge_15
theorem x_X5_gates {lk : Int32} {ga : Int32} {p1 : Int32} {k : Nat} (h : (Sum.inr k : (Int32 × Int32) ⊕ Nat) = f_X5_gates lk ga p1) : k = 0 ∨ k = 1 := by
  unfold f_X5_gates at h
  repeat' split at h
  all_goals first | (cases h; done) | (cases h; simp)
def f_L_gates (lk : Int32) (ga : Int32) (oj : Nat → Int64) (p1 : Int32) : Int32 × Int32 × (Nat → Int64) :=
  (match f_X5_gates lk ga p1 with | .inl (r_1, u_2) => (0, u_2, vp_updL oj (0 : Int32).toNatClampNeg r_1.toInt64) | .inr k9 => if k9 = 0 then (1, ga, oj) else ((2, ga, oj)))
def n_L_gates (lk : Int32) (ga : Int32) (p1 : Int32) : Prop :=
  (∀ (r_1 : Int32) (u_2 : Int32), (Sum.inl (r_1, u_2) : (Int32 × Int32) ⊕ Nat) = f_X5_gates lk ga p1 → vp_in 0 1)
set_option maxHeartbeats 4000000 in
set_option maxRecDepth 100000 in
theorem c_L_gates (l : Launch) (G : tm_G) (a0 : Nat) (ma0 : Nat) (ta0 : Nat) (ma1 : Nat) (ma2 : Nat) (ma3 : Nat) (ma4 : Nat) (ob : Nat) (sz : Nat) (lk : Int32) (rf : Int32) (pu : Int32) (to : UInt64) (fh : Int32) (lh : Int32) (ee : Int32) (lv : UInt64) (si : UInt32) (ga : Int32) (sl : Int32) (sc : Int32) (fo : UInt64) (oj : Nat → Int64) (p1 : Int32) (hn : n_L_gates lk ga p1) (hlt : l.stackTraces = false) : Met l yL_gates wsL_gates ({ frames := 7, cells := 1, slots := 6, locals := 118 }) (va_Pc [.ref a0, .int p1, .ref ob] (tm_B G [tc_X5 a0 ma0 ta0 lk rf pu to, tc_X1 ma0 ma1 ma2 ma3 ma4 fh lh ee, tc_X3 ma2 lv si ga sl sc fo, tc_J G ob 1 oj] sz)) (va_Qi (fun (r : Int32) (u : Int32 × (Nat → Int64)) => (r, u) = f_L_gates lk ga oj p1) (fun (u : Int32 × (Nat → Int64)) (t : State) => va_P G.1 vwCl [tc_X5 a0 ma0 ta0 lk rf pu to, tc_X1 ma0 ma1 ma2 ma3 ma4 fh lh ee, tc_X3 ma2 lv si u.1 sl sc fo, tc_J G ob 1 u.2] t.heap ∧ va_D (va_A [tc_X5 a0 ma0 ta0 lk rf pu to, tc_X1 ma0 ma1 ma2 ma3 ma4 fh lh ee, tc_X3 ma2 lv si ga sl sc fo, tc_J G ob 1 oj] sz) [tc_X5 a0 ma0 ta0 lk rf pu to, tc_X1 ma0 ma1 ma2 ma3 ma4 fh lh ee, tc_X3 ma2 lv si u.1 sl sc fo, tc_J G ob 1 u.2]) (va_A [tc_X5 a0 ma0 ta0 lk rf pu to, tc_X1 ma0 ma1 ma2 ma3 ma4 fh lh ee, tc_X3 ma2 lv si ga sl sc fo, tc_J G ob 1 oj] sz)) 1 6 (va_A [tc_X5 a0 ma0 ta0 lk rf pu to, tc_X1 ma0 ma1 ma2 ma3 ma4 fh lh ee, tc_X3 ma2 lv si ga sl sc fo, tc_J G ob 1 oj] sz) := by
  refine tm_metOf ?_
  refine vx_ofWH (cc := cL_gates) (maxL := 4) (ret := (some .int)) (hh :=  [(0, 9, 12, 13), (0, 9, 15, 22)]) (by decide) rfl ?_
  intro p e s m args below meth c s₁ B hml hv
  obtain ⟨rfl, hsz, hP, hK, hD0, hN, hV⟩ := hv
  have hx := B.exec
  have hb := B.bytes
  have hr := B.returns
  have hts := atoms_spec (ws := wsL_gates) B.pre
  have htab : c.exceptionTable.toList = tableOf  [(0, 9, 12, 13), (0, 9, 15, 22)] := vx_table (x := yL_gates) B (atoms_spec (ws := wsL_gates) B.pre _ (List.mem_of_getElem? (i := 0) rfl))
  have hown : s.vm.findClass RL = some m.cls := findClass_of_methodNamed B.named
  have hlocks := B.notSynchronized
  subst hsz
  have n_3 := hn
  unfold n_L_gates at n_3
  have hD := hD0.self (sz := s.heap.size)
  generalize hAe : va_A [tc_X5 a0 ma0 ta0 lk rf pu to, tc_X1 ma0 ma1 ma2 ma3 ma4 fh lh ee, tc_X3 ma2 lv si ga sl sc fo, tc_J G ob 1 oj] s.heap.size = A at hD hV ⊢
  have hA : ∀ q : Nat, s.heap.size ≤ q → A q := fun q h => by rw [← hAe]; exact Or.inr h
  have hS : va_S A s.heap s.heap [] := va_S.rf
  have hl := lv_entry ([.ref a0, .int p1, .ref ob]) (n := 4) (Nat.le_of_ble_eq_true rfl)
  rw [lg_entry_eq]
  generalize (lg_sl ([.ref a0, .int p1, .ref ob]) ++ List.replicate (4 - (lg_sl ([.ref a0, .int p1, .ref ob])).length) Slot.unset).toArray = ls at hl ⊢
  have hl : lv_has ls 4 [(0, .ref a0), (1, .int p1), (2, .ref ob)] := hl
  refine lv_aload_n hx hb dL_gates_0 rfl (lv_at hl 2 rfl) ?_
  refine lv_iconst (v := 0) hx hb dL_gates_1 (by decide) ?_
  refine lv_aload_n hx hb dL_gates_2 rfl (lv_at hl 0 rfl) ?_
  refine lv_iload_n hx hb dL_gates_3 rfl (lv_at hl 1 rfl) ?_
  have hPc := hP.sub (ws' := [tc_X5 a0 ma0 ta0 lk rf pu to, tc_X1 ma0 ma1 ma2 ma3 ma4 fh lh ee, tc_X3 ma2 lv si ga sl sc fo]) [0, 1, 2] rfl
  have hDc := hD.sub (ws' := [tc_X5 a0 ma0 ta0 lk rf pu to, tc_X1 ma0 ma1 ma2 ma3 ma4 fh lh ee, tc_X3 ma2 lv si ga sl sc fo]) [0, 1, 2] (by decide) rfl
  have hFc := va_free (wc := [tc_X5 a0 ma0 ta0 lk rf pu to, tc_X1 ma0 ma1 ma2 ma3 ma4 fh lh ee, tc_X3 ma2 lv si ga sl sc fo]) hD hS hA [0, 1, 2] rfl
  refine vx_calli (vx_runV (As := [.int p1]) (rest := [.int 0, .ref ob]) ⟨hx, hb, hml, hown, hts⟩ (c_X5_gates l G a0 ma0 ta0 ma1 ma2 ma3 ma4 s.heap.size lk rf pu to fh lh ee lv si ga sl sc fo p1  hlt) (cwV 1 hts gL_gates_X5_gates rfl rfl rfl (by decide +kernel) ⟨(Nat.le_of_ble_eq_true rfl), (Nat.le_of_ble_eq_true rfl)⟩) (tm_preV hK hN hV hS hPc hDc hFc (va_recv hK hPc (ci := 6) (q0 := 0) rfl rfl)) rfl rfl hl.1 rfl (lv_room (Nat.le_of_ble_eq_true rfl)) dL_gates_4 ⟨(Nat.le_of_ble_eq_true rfl), (Nat.le_of_ble_eq_true rfl)⟩) hS (fun q _ h => hFc q h) hFc (fun q _ h => hFc q h) (fun E9 ce9 q9 k9 st9 H locs ht hvm hw_1 hB hz1 hk1 hS hce hcv hcl => ?_) (fun r_1 u st9 H locs ht hvm hw_1 hB hz1 hk1 hS => ?_)
  · obtain ⟨rfl, hP1, hD1⟩ := hB
    rw [ht] at hP1
    obtain ⟨hP, hD⟩ := va_join (wr := [tc_J G ob 1 oj]) (w1 := [tc_X5 a0 ma0 ta0 lk rf pu to, tc_X1 ma0 ma1 ma2 ma3 ma4 fh lh ee, tc_X3 ma2 lv si ga sl sc fo]) hP hD [0, 1, 2] [3] rfl rfl (by decide) (by decide) hk1 hFc hP1 hD1
    have hP : va_P G.1 vwCl [tc_J G ob 1 oj, tc_X5 a0 ma0 ta0 lk rf pu to, tc_X1 ma0 ma1 ma2 ma3 ma4 fh lh ee, tc_X3 ma2 lv si ga sl sc fo] H := hP
    have hD : va_D A [tc_J G ob 1 oj, tc_X5 a0 ma0 ta0 lk rf pu to, tc_X1 ma0 ma1 ma2 ma3 ma4 fh lh ee, tc_X3 ma2 lv si ga sl sc fo] := hD
    rcases x_X5_gates hw_1 with rfl | rfl
    · refine vx_catch (name := "java/lang/IllegalArgumentException") (E := "java/lang/IllegalArgumentException") hown [] { startPc := 0, endPc := 9, handlerPc := 12, catchType := 13 } [{ startPc := 0, endPc := 9, handlerPc := 15, catchType := 22 }] (by rw [htab]; rfl) (fun z hz => absurd hz List.not_mem_nil) (by decide) (by decide) (hts (.classLink RL 13 "java/lang/IllegalArgumentException") (List.mem_of_getElem? (i := 1) rfl)) (va_Nw.use rfl (hN.2.1 ("java/lang/IllegalArgumentException", "java/lang/IllegalArgumentException") (List.mem_of_getElem? (i := 0) rfl))) hce hcv hcl ?_
      show W p l e _ s m _ below meth c H locs 1 6 _ (F0 m 12 ls [.ref q9])
      refine lv_astore_n (lv' := [(3, .ref q9), (0, .ref a0), (1, .int p1), (2, .ref ob)]) hx hb dL_gates_12 rfl hl (by decide) rfl (fun ls hl => ?_)
      refine lv_iconst (v := 1) hx hb dL_gates_13 (by decide) ?_
      have hP9 := hP.sub (ws' := [tc_X5 a0 ma0 ta0 lk rf pu to, tc_X1 ma0 ma1 ma2 ma3 ma4 fh lh ee, tc_X3 ma2 lv si ga sl sc fo, tc_J G ob 1 oj]) [1, 2, 3, 0] rfl
      have hD9 := hD.sub (ws' := [tc_X5 a0 ma0 ta0 lk rf pu to, tc_X1 ma0 ma1 ma2 ma3 ma4 fh lh ee, tc_X3 ma2 lv si ga sl sc fo, tc_J G ob 1 oj]) [1, 2, 3, 0] (by decide) rfl
      refine W.widen (k := 1) (n := 6) (Nat.le_of_ble_eq_true rfl) (Nat.le_of_ble_eq_true rfl) (vx_ret ?_)
      exact W.iret (v := 1) hx hb hr (fun t ht hW => ⟨⟨1, (ga, oj), rfl, by unfold f_L_gates; all_goals (rw [← hw_1]); all_goals (dsimp only); all_goals rfl, by rw [ht]; exact hP9, hD9⟩, hS.F ht⟩) hS.2.2 dL_gates_14
    · refine vx_catch (name := "java/lang/IllegalStateException") (E := "java/lang/IllegalStateException") hown [{ startPc := 0, endPc := 9, handlerPc := 12, catchType := 13 }] { startPc := 0, endPc := 9, handlerPc := 15, catchType := 22 } [] (by rw [htab]; rfl) (fun z hz => by rw [List.mem_singleton.mp hz]; exact Or.inr ⟨by decide, "java/lang/IllegalArgumentException", (hts (.classLink RL 13 "java/lang/IllegalArgumentException") (List.mem_of_getElem? (i := 1) rfl)), hN.2.2.2.2.2.2.1 ("java/lang/IllegalStateException", "java/lang/IllegalArgumentException") (List.mem_of_getElem? (i := 0) rfl)⟩) (by decide) (by decide) (hts (.classLink RL 22 "java/lang/IllegalStateException") (List.mem_of_getElem? (i := 2) rfl)) (va_Nw.use rfl (hN.2.1 ("java/lang/IllegalStateException", "java/lang/IllegalStateException") (List.mem_of_getElem? (i := 1) rfl))) hce hcv hcl ?_
      show W p l e _ s m _ below meth c H locs 1 6 _ (F0 m 15 ls [.ref q9])
      refine lv_astore_n (lv' := [(3, .ref q9), (0, .ref a0), (1, .int p1), (2, .ref ob)]) hx hb dL_gates_15 rfl hl (by decide) rfl (fun ls hl => ?_)
      refine lv_iconst (v := 2) hx hb dL_gates_16 (by decide) ?_
      have hP9 := hP.sub (ws' := [tc_X5 a0 ma0 ta0 lk rf pu to, tc_X1 ma0 ma1 ma2 ma3 ma4 fh lh ee, tc_X3 ma2 lv si ga sl sc fo, tc_J G ob 1 oj]) [1, 2, 3, 0] rfl
      have hD9 := hD.sub (ws' := [tc_X5 a0 ma0 ta0 lk rf pu to, tc_X1 ma0 ma1 ma2 ma3 ma4 fh lh ee, tc_X3 ma2 lv si ga sl sc fo, tc_J G ob 1 oj]) [1, 2, 3, 0] (by decide) rfl
      refine W.widen (k := 1) (n := 6) (Nat.le_of_ble_eq_true rfl) (Nat.le_of_ble_eq_true rfl) (vx_ret ?_)
      exact W.iret (v := 2) hx hb hr (fun t ht hW => ⟨⟨2, (ga, oj), rfl, by unfold f_L_gates; all_goals (rw [← hw_1]); all_goals (dsimp only); all_goals rfl, by rw [ht]; exact hP9, hD9⟩, hS.F ht⟩) hS.2.2 dL_gates_17
  · obtain ⟨u_2, rfl⟩ : ∃ z, z = u := ⟨_, rfl⟩
    obtain ⟨hP1, hD1⟩ := hB
    rw [ht] at hP1
    try dsimp only at hw_1
    obtain ⟨hP, hD⟩ := va_join (wr := [tc_J G ob 1 oj]) (w1 := [tc_X5 a0 ma0 ta0 lk rf pu to, tc_X1 ma0 ma1 ma2 ma3 ma4 fh lh ee, tc_X3 ma2 lv si u_2 sl sc fo]) hP hD [0, 1, 2] [3] rfl rfl (by decide) (by decide) hk1 hFc hP1 hD1
    have hP : va_P G.1 vwCl [tc_J G ob 1 oj, tc_X5 a0 ma0 ta0 lk rf pu to, tc_X1 ma0 ma1 ma2 ma3 ma4 fh lh ee, tc_X3 ma2 lv si u_2 sl sc fo] H := hP
    have hD : va_D A [tc_J G ob 1 oj, tc_X5 a0 ma0 ta0 lk rf pu to, tc_X1 ma0 ma1 ma2 ma3 ma4 fh lh ee, tc_X3 ma2 lv si u_2 sl sc fo] := hD
    refine W.widen (k := 1) (n := 6) (Nat.le_of_ble_eq_true rfl) (Nat.le_of_ble_eq_true rfl) ?_
    refine lv_i2l (v := r_1.toInt64) hx hb dL_gates_7 rfl ?_
    refine va_last (n := 1) (f := oj) hx hb hK hP hD hS 0 5 rfl rfl (n_3 r_1 u_2 hw_1) dL_gates_8 (fun H locs hP hD hS => ?_)
    have hP : va_P G.1 vwCl [tc_J G ob 1 (vp_updL oj (0 : Int32).toNatClampNeg r_1.toInt64), tc_X5 a0 ma0 ta0 lk rf pu to, tc_X1 ma0 ma1 ma2 ma3 ma4 fh lh ee, tc_X3 ma2 lv si u_2 sl sc fo] H := hP
    have hD : va_D A [tc_J G ob 1 (vp_updL oj (0 : Int32).toNatClampNeg r_1.toInt64), tc_X5 a0 ma0 ta0 lk rf pu to, tc_X1 ma0 ma1 ma2 ma3 ma4 fh lh ee, tc_X3 ma2 lv si u_2 sl sc fo] := hD
    refine lv_goto (tgt := 18) hx hb dL_gates_9 (by decide) ?_
    refine lv_iconst (v := 0) hx hb dL_gates_18 (by decide) ?_
    have hP9 := hP.sub (ws' := [tc_X5 a0 ma0 ta0 lk rf pu to, tc_X1 ma0 ma1 ma2 ma3 ma4 fh lh ee, tc_X3 ma2 lv si u_2 sl sc fo, tc_J G ob 1 (vp_updL oj (0 : Int32).toNatClampNeg r_1.toInt64)]) [1, 2, 3, 0] rfl
    have hD9 := hD.sub (ws' := [tc_X5 a0 ma0 ta0 lk rf pu to, tc_X1 ma0 ma1 ma2 ma3 ma4 fh lh ee, tc_X3 ma2 lv si u_2 sl sc fo, tc_J G ob 1 (vp_updL oj (0 : Int32).toNatClampNeg r_1.toInt64)]) [1, 2, 3, 0] (by decide) rfl
    refine W.widen (k := 1) (n := 6) (Nat.le_of_ble_eq_true rfl) (Nat.le_of_ble_eq_true rfl) (vx_ret ?_)
    exact W.iret (v := 0) hx hb hr (fun t ht hW => ⟨⟨0, (u_2, vp_updL oj (0 : Int32).toNatClampNeg r_1.toInt64), rfl, by unfold f_L_gates; all_goals (rw [← hw_1]); all_goals (dsimp only); all_goals rfl, by rw [ht]; exact hP9, hD9⟩, hS.F ht⟩) hS.2.2 dL_gates_19
theorem x_X5_sluice {sl : Int32} {p1 : Int32} {k : Nat} (h : (Sum.inr k : (Int32 × Int32) ⊕ Nat) = f_X5_sluice sl p1) : k = 0 := by
  unfold f_X5_sluice at h
  repeat' split at h
  all_goals first | (cases h; done) | (cases h; simp)
def f_L_sluice (sl : Int32) (oj : Nat → Int64) (p1 : Int32) : Int32 × Int32 × (Nat → Int64) :=
  (match f_X5_sluice sl p1 with | .inl (r_1, u_2) => (0, u_2, vp_updL oj (0 : Int32).toNatClampNeg r_1.toInt64) | .inr k9 => (1, sl, oj))
def n_L_sluice (sl : Int32) (p1 : Int32) : Prop :=
  (∀ (r_1 : Int32) (u_2 : Int32), (Sum.inl (r_1, u_2) : (Int32 × Int32) ⊕ Nat) = f_X5_sluice sl p1 → vp_in 0 1)
set_option maxHeartbeats 4000000 in
set_option maxRecDepth 100000 in
theorem c_L_sluice (l : Launch) (G : tm_G) (a0 : Nat) (ma0 : Nat) (ta0 : Nat) (ma1 : Nat) (ma2 : Nat) (ma3 : Nat) (ma4 : Nat) (ob : Nat) (sz : Nat) (lk : Int32) (rf : Int32) (pu : Int32) (to : UInt64) (fh : Int32) (lh : Int32) (ee : Int32) (lv : UInt64) (si : UInt32) (ga : Int32) (sl : Int32) (sc : Int32) (fo : UInt64) (oj : Nat → Int64) (p1 : Int32) (hn : n_L_sluice sl p1) (hlt : l.stackTraces = false) : Met l yL_sluice wsL_sluice ({ frames := 7, cells := 1, slots := 6, locals := 118 }) (va_Pc [.ref a0, .int p1, .ref ob] (tm_B G [tc_X5 a0 ma0 ta0 lk rf pu to, tc_X1 ma0 ma1 ma2 ma3 ma4 fh lh ee, tc_X3 ma2 lv si ga sl sc fo, tc_J G ob 1 oj] sz)) (va_Qi (fun (r : Int32) (u : Int32 × (Nat → Int64)) => (r, u) = f_L_sluice sl oj p1) (fun (u : Int32 × (Nat → Int64)) (t : State) => va_P G.1 vwCl [tc_X5 a0 ma0 ta0 lk rf pu to, tc_X1 ma0 ma1 ma2 ma3 ma4 fh lh ee, tc_X3 ma2 lv si ga u.1 sc fo, tc_J G ob 1 u.2] t.heap ∧ va_D (va_A [tc_X5 a0 ma0 ta0 lk rf pu to, tc_X1 ma0 ma1 ma2 ma3 ma4 fh lh ee, tc_X3 ma2 lv si ga sl sc fo, tc_J G ob 1 oj] sz) [tc_X5 a0 ma0 ta0 lk rf pu to, tc_X1 ma0 ma1 ma2 ma3 ma4 fh lh ee, tc_X3 ma2 lv si ga u.1 sc fo, tc_J G ob 1 u.2]) (va_A [tc_X5 a0 ma0 ta0 lk rf pu to, tc_X1 ma0 ma1 ma2 ma3 ma4 fh lh ee, tc_X3 ma2 lv si ga sl sc fo, tc_J G ob 1 oj] sz)) 1 6 (va_A [tc_X5 a0 ma0 ta0 lk rf pu to, tc_X1 ma0 ma1 ma2 ma3 ma4 fh lh ee, tc_X3 ma2 lv si ga sl sc fo, tc_J G ob 1 oj] sz) := by
  refine tm_metOf ?_
  refine vx_ofWH (cc := cL_sluice) (maxL := 4) (ret := (some .int)) (hh :=  [(0, 9, 12, 13)]) (by decide) rfl ?_
  intro p e s m args below meth c s₁ B hml hv
  obtain ⟨rfl, hsz, hP, hK, hD0, hN, hV⟩ := hv
  have hx := B.exec
  have hb := B.bytes
  have hr := B.returns
  have hts := atoms_spec (ws := wsL_sluice) B.pre
  have htab : c.exceptionTable.toList = tableOf  [(0, 9, 12, 13)] := vx_table (x := yL_sluice) B (atoms_spec (ws := wsL_sluice) B.pre _ (List.mem_of_getElem? (i := 0) rfl))
  have hown : s.vm.findClass RL = some m.cls := findClass_of_methodNamed B.named
  have hlocks := B.notSynchronized
  subst hsz
  have n_3 := hn
  unfold n_L_sluice at n_3
  have hD := hD0.self (sz := s.heap.size)
  generalize hAe : va_A [tc_X5 a0 ma0 ta0 lk rf pu to, tc_X1 ma0 ma1 ma2 ma3 ma4 fh lh ee, tc_X3 ma2 lv si ga sl sc fo, tc_J G ob 1 oj] s.heap.size = A at hD hV ⊢
  have hA : ∀ q : Nat, s.heap.size ≤ q → A q := fun q h => by rw [← hAe]; exact Or.inr h
  have hS : va_S A s.heap s.heap [] := va_S.rf
  have hl := lv_entry ([.ref a0, .int p1, .ref ob]) (n := 4) (Nat.le_of_ble_eq_true rfl)
  rw [lg_entry_eq]
  generalize (lg_sl ([.ref a0, .int p1, .ref ob]) ++ List.replicate (4 - (lg_sl ([.ref a0, .int p1, .ref ob])).length) Slot.unset).toArray = ls at hl ⊢
  have hl : lv_has ls 4 [(0, .ref a0), (1, .int p1), (2, .ref ob)] := hl
  refine lv_aload_n hx hb dL_sluice_0 rfl (lv_at hl 2 rfl) ?_
  refine lv_iconst (v := 0) hx hb dL_sluice_1 (by decide) ?_
  refine lv_aload_n hx hb dL_sluice_2 rfl (lv_at hl 0 rfl) ?_
  refine lv_iload_n hx hb dL_sluice_3 rfl (lv_at hl 1 rfl) ?_
  have hPc := hP.sub (ws' := [tc_X5 a0 ma0 ta0 lk rf pu to, tc_X1 ma0 ma1 ma2 ma3 ma4 fh lh ee, tc_X3 ma2 lv si ga sl sc fo]) [0, 1, 2] rfl
  have hDc := hD.sub (ws' := [tc_X5 a0 ma0 ta0 lk rf pu to, tc_X1 ma0 ma1 ma2 ma3 ma4 fh lh ee, tc_X3 ma2 lv si ga sl sc fo]) [0, 1, 2] (by decide) rfl
  have hFc := va_free (wc := [tc_X5 a0 ma0 ta0 lk rf pu to, tc_X1 ma0 ma1 ma2 ma3 ma4 fh lh ee, tc_X3 ma2 lv si ga sl sc fo]) hD hS hA [0, 1, 2] rfl
  refine vx_calli (vx_runV (As := [.int p1]) (rest := [.int 0, .ref ob]) ⟨hx, hb, hml, hown, hts⟩ (c_X5_sluice l G a0 ma0 ta0 ma1 ma2 ma3 ma4 s.heap.size lk rf pu to fh lh ee lv si ga sl sc fo p1  hlt) (cwV 1 hts gL_sluice_X5_sluice rfl rfl rfl (by decide +kernel) ⟨(Nat.le_of_ble_eq_true rfl), (Nat.le_of_ble_eq_true rfl)⟩) (tm_preV hK hN hV hS hPc hDc hFc (va_recv hK hPc (ci := 6) (q0 := 0) rfl rfl)) rfl rfl hl.1 rfl (lv_room (Nat.le_of_ble_eq_true rfl)) dL_sluice_4 ⟨(Nat.le_of_ble_eq_true rfl), (Nat.le_of_ble_eq_true rfl)⟩) hS (fun q _ h => hFc q h) hFc (fun q _ h => hFc q h) (fun E9 ce9 q9 k9 st9 H locs ht hvm hw_1 hB hz1 hk1 hS hce hcv hcl => ?_) (fun r_1 u st9 H locs ht hvm hw_1 hB hz1 hk1 hS => ?_)
  · obtain ⟨rfl, hP1, hD1⟩ := hB
    rw [ht] at hP1
    obtain ⟨hP, hD⟩ := va_join (wr := [tc_J G ob 1 oj]) (w1 := [tc_X5 a0 ma0 ta0 lk rf pu to, tc_X1 ma0 ma1 ma2 ma3 ma4 fh lh ee, tc_X3 ma2 lv si ga sl sc fo]) hP hD [0, 1, 2] [3] rfl rfl (by decide) (by decide) hk1 hFc hP1 hD1
    have hP : va_P G.1 vwCl [tc_J G ob 1 oj, tc_X5 a0 ma0 ta0 lk rf pu to, tc_X1 ma0 ma1 ma2 ma3 ma4 fh lh ee, tc_X3 ma2 lv si ga sl sc fo] H := hP
    have hD : va_D A [tc_J G ob 1 oj, tc_X5 a0 ma0 ta0 lk rf pu to, tc_X1 ma0 ma1 ma2 ma3 ma4 fh lh ee, tc_X3 ma2 lv si ga sl sc fo] := hD
    obtain rfl := x_X5_sluice hw_1
    · refine vx_catch (name := "java/lang/IllegalArgumentException") (E := "java/lang/IllegalArgumentException") hown [] { startPc := 0, endPc := 9, handlerPc := 12, catchType := 13 } [] (by rw [htab]; rfl) (fun z hz => absurd hz List.not_mem_nil) (by decide) (by decide) (hts (.classLink RL 13 "java/lang/IllegalArgumentException") (List.mem_of_getElem? (i := 1) rfl)) (va_Nw.use rfl (hN.2.1 ("java/lang/IllegalArgumentException", "java/lang/IllegalArgumentException") (List.mem_of_getElem? (i := 0) rfl))) hce hcv hcl ?_
      show W p l e _ s m _ below meth c H locs 1 6 _ (F0 m 12 ls [.ref q9])
      refine lv_astore_n (lv' := [(3, .ref q9), (0, .ref a0), (1, .int p1), (2, .ref ob)]) hx hb dL_sluice_12 rfl hl (by decide) rfl (fun ls hl => ?_)
      refine lv_iconst (v := 1) hx hb dL_sluice_13 (by decide) ?_
      have hP9 := hP.sub (ws' := [tc_X5 a0 ma0 ta0 lk rf pu to, tc_X1 ma0 ma1 ma2 ma3 ma4 fh lh ee, tc_X3 ma2 lv si ga sl sc fo, tc_J G ob 1 oj]) [1, 2, 3, 0] rfl
      have hD9 := hD.sub (ws' := [tc_X5 a0 ma0 ta0 lk rf pu to, tc_X1 ma0 ma1 ma2 ma3 ma4 fh lh ee, tc_X3 ma2 lv si ga sl sc fo, tc_J G ob 1 oj]) [1, 2, 3, 0] (by decide) rfl
      refine W.widen (k := 1) (n := 6) (Nat.le_of_ble_eq_true rfl) (Nat.le_of_ble_eq_true rfl) (vx_ret ?_)
      exact W.iret (v := 1) hx hb hr (fun t ht hW => ⟨⟨1, (sl, oj), rfl, by unfold f_L_sluice; all_goals (rw [← hw_1]); all_goals (dsimp only); all_goals rfl, by rw [ht]; exact hP9, hD9⟩, hS.F ht⟩) hS.2.2 dL_sluice_14
  · obtain ⟨u_2, rfl⟩ : ∃ z, z = u := ⟨_, rfl⟩
    obtain ⟨hP1, hD1⟩ := hB
    rw [ht] at hP1
    try dsimp only at hw_1
    obtain ⟨hP, hD⟩ := va_join (wr := [tc_J G ob 1 oj]) (w1 := [tc_X5 a0 ma0 ta0 lk rf pu to, tc_X1 ma0 ma1 ma2 ma3 ma4 fh lh ee, tc_X3 ma2 lv si ga u_2 sc fo]) hP hD [0, 1, 2] [3] rfl rfl (by decide) (by decide) hk1 hFc hP1 hD1
    have hP : va_P G.1 vwCl [tc_J G ob 1 oj, tc_X5 a0 ma0 ta0 lk rf pu to, tc_X1 ma0 ma1 ma2 ma3 ma4 fh lh ee, tc_X3 ma2 lv si ga u_2 sc fo] H := hP
    have hD : va_D A [tc_J G ob 1 oj, tc_X5 a0 ma0 ta0 lk rf pu to, tc_X1 ma0 ma1 ma2 ma3 ma4 fh lh ee, tc_X3 ma2 lv si ga u_2 sc fo] := hD
    refine W.widen (k := 1) (n := 6) (Nat.le_of_ble_eq_true rfl) (Nat.le_of_ble_eq_true rfl) ?_
    refine lv_i2l (v := r_1.toInt64) hx hb dL_sluice_7 rfl ?_
    refine va_last (n := 1) (f := oj) hx hb hK hP hD hS 0 5 rfl rfl (n_3 r_1 u_2 hw_1) dL_sluice_8 (fun H locs hP hD hS => ?_)
    have hP : va_P G.1 vwCl [tc_J G ob 1 (vp_updL oj (0 : Int32).toNatClampNeg r_1.toInt64), tc_X5 a0 ma0 ta0 lk rf pu to, tc_X1 ma0 ma1 ma2 ma3 ma4 fh lh ee, tc_X3 ma2 lv si ga u_2 sc fo] H := hP
    have hD : va_D A [tc_J G ob 1 (vp_updL oj (0 : Int32).toNatClampNeg r_1.toInt64), tc_X5 a0 ma0 ta0 lk rf pu to, tc_X1 ma0 ma1 ma2 ma3 ma4 fh lh ee, tc_X3 ma2 lv si ga u_2 sc fo] := hD
    refine lv_goto (tgt := 15) hx hb dL_sluice_9 (by decide) ?_
    refine lv_iconst (v := 0) hx hb dL_sluice_15 (by decide) ?_
    have hP9 := hP.sub (ws' := [tc_X5 a0 ma0 ta0 lk rf pu to, tc_X1 ma0 ma1 ma2 ma3 ma4 fh lh ee, tc_X3 ma2 lv si ga u_2 sc fo, tc_J G ob 1 (vp_updL oj (0 : Int32).toNatClampNeg r_1.toInt64)]) [1, 2, 3, 0] rfl
    have hD9 := hD.sub (ws' := [tc_X5 a0 ma0 ta0 lk rf pu to, tc_X1 ma0 ma1 ma2 ma3 ma4 fh lh ee, tc_X3 ma2 lv si ga u_2 sc fo, tc_J G ob 1 (vp_updL oj (0 : Int32).toNatClampNeg r_1.toInt64)]) [1, 2, 3, 0] (by decide) rfl
    refine W.widen (k := 1) (n := 6) (Nat.le_of_ble_eq_true rfl) (Nat.le_of_ble_eq_true rfl) (vx_ret ?_)
    exact W.iret (v := 0) hx hb hr (fun t ht hW => ⟨⟨0, (u_2, vp_updL oj (0 : Int32).toNatClampNeg r_1.toInt64), rfl, by unfold f_L_sluice; all_goals (rw [← hw_1]); all_goals (dsimp only); all_goals rfl, by rw [ht]; exact hP9, hD9⟩, hS.F ht⟩) hS.2.2 dL_sluice_16
theorem x_X5_hours {tk : Int32} {p1 : Int32} {p2 : Int32} {k : Nat} (h : (Sum.inr k : (Int32 × Int32 × Int32) ⊕ Nat) = f_X5_hours tk p1 p2) : k = 0 := by
  unfold f_X5_hours at h
  repeat' split at h
  all_goals first | (cases h; done) | (cases h; simp)
def f_L_hours (fh : Int32) (lh : Int32) (tk : Int32) (oj : Nat → Int64) (p1 : Int32) (p2 : Int32) : Int32 × Int32 × Int32 × (Nat → Int64) :=
  (match f_X5_hours tk p1 p2 with | .inl (r_2, u_3, u_4) => if r_2 = 0 then (0, u_3, u_4, vp_updL oj (0 : Int32).toNatClampNeg 0) else (0, u_3, u_4, vp_updL oj (0 : Int32).toNatClampNeg 1) | .inr k9 => (1, fh, lh, oj))
def n_L_hours (tk : Int32) (p1 : Int32) (p2 : Int32) : Prop :=
  (n_X5_hours tk p1 p2) ∧
  (∀ (r_2 : Int32) (u_3 : Int32) (u_4 : Int32), (Sum.inl (r_2, u_3, u_4) : (Int32 × Int32 × Int32) ⊕ Nat) = f_X5_hours tk p1 p2 → (r_2 = 0) → vp_in 0 1) ∧
  (∀ (r_2 : Int32) (u_3 : Int32) (u_4 : Int32), (Sum.inl (r_2, u_3, u_4) : (Int32 × Int32 × Int32) ⊕ Nat) = f_X5_hours tk p1 p2 → (¬ r_2 = 0) → vp_in 0 1)
set_option maxHeartbeats 4000000 in
set_option maxRecDepth 100000 in
theorem c_L_hours (l : Launch) (G : tm_G) (a0 : Nat) (ma0 : Nat) (ta0 : Nat) (ma1 : Nat) (ma2 : Nat) (ma3 : Nat) (ma4 : Nat) (ob : Nat) (sz : Nat) (lk : Int32) (rf : Int32) (pu : Int32) (to : UInt64) (fh : Int32) (lh : Int32) (ee : Int32) (tk : Int32) (mo : Int32) (su : UInt64) (oj : Nat → Int64) (p1 : Int32) (p2 : Int32) (hn : n_L_hours tk p1 p2) (hlt : l.stackTraces = false) : Met l yL_hours wsL_hours ({ frames := 7, cells := 1, slots := 6, locals := 118 }) (va_Pc [.ref a0, .int p1, .int p2, .ref ob] (tm_B G [tc_X5 a0 ma0 ta0 lk rf pu to, tc_X1 ma0 ma1 ma2 ma3 ma4 fh lh ee, tc_X4 ma1 tk mo su, tc_J G ob 1 oj] sz)) (va_Qi (fun (r : Int32) (u : Int32 × Int32 × (Nat → Int64)) => (r, u) = f_L_hours fh lh tk oj p1 p2) (fun (u : Int32 × Int32 × (Nat → Int64)) (t : State) => va_P G.1 vwCl [tc_X5 a0 ma0 ta0 lk rf pu to, tc_X1 ma0 ma1 ma2 ma3 ma4 u.1 u.2.1 ee, tc_X4 ma1 tk mo su, tc_J G ob 1 u.2.2] t.heap ∧ va_D (va_A [tc_X5 a0 ma0 ta0 lk rf pu to, tc_X1 ma0 ma1 ma2 ma3 ma4 fh lh ee, tc_X4 ma1 tk mo su, tc_J G ob 1 oj] sz) [tc_X5 a0 ma0 ta0 lk rf pu to, tc_X1 ma0 ma1 ma2 ma3 ma4 u.1 u.2.1 ee, tc_X4 ma1 tk mo su, tc_J G ob 1 u.2.2]) (va_A [tc_X5 a0 ma0 ta0 lk rf pu to, tc_X1 ma0 ma1 ma2 ma3 ma4 fh lh ee, tc_X4 ma1 tk mo su, tc_J G ob 1 oj] sz)) 1 6 (va_A [tc_X5 a0 ma0 ta0 lk rf pu to, tc_X1 ma0 ma1 ma2 ma3 ma4 fh lh ee, tc_X4 ma1 tk mo su, tc_J G ob 1 oj] sz) := by
  refine tm_metOf ?_
  refine vx_ofWH (cc := cL_hours) (maxL := 5) (ret := (some .int)) (hh :=  [(0, 17, 20, 13)]) (by decide) rfl ?_
  intro p e s m args below meth c s₁ B hml hv
  obtain ⟨rfl, hsz, hP, hK, hD0, hN, hV⟩ := hv
  have hx := B.exec
  have hb := B.bytes
  have hr := B.returns
  have hts := atoms_spec (ws := wsL_hours) B.pre
  have htab : c.exceptionTable.toList = tableOf  [(0, 17, 20, 13)] := vx_table (x := yL_hours) B (atoms_spec (ws := wsL_hours) B.pre _ (List.mem_of_getElem? (i := 0) rfl))
  have hown : s.vm.findClass RL = some m.cls := findClass_of_methodNamed B.named
  have hlocks := B.notSynchronized
  subst hsz
  obtain ⟨n_1, n_6, n_7⟩ := hn
  have hD := hD0.self (sz := s.heap.size)
  generalize hAe : va_A [tc_X5 a0 ma0 ta0 lk rf pu to, tc_X1 ma0 ma1 ma2 ma3 ma4 fh lh ee, tc_X4 ma1 tk mo su, tc_J G ob 1 oj] s.heap.size = A at hD hV ⊢
  have hA : ∀ q : Nat, s.heap.size ≤ q → A q := fun q h => by rw [← hAe]; exact Or.inr h
  have hS : va_S A s.heap s.heap [] := va_S.rf
  have hl := lv_entry ([.ref a0, .int p1, .int p2, .ref ob]) (n := 5) (Nat.le_of_ble_eq_true rfl)
  rw [lg_entry_eq]
  generalize (lg_sl ([.ref a0, .int p1, .int p2, .ref ob]) ++ List.replicate (5 - (lg_sl ([.ref a0, .int p1, .int p2, .ref ob])).length) Slot.unset).toArray = ls at hl ⊢
  have hl : lv_has ls 5 [(0, .ref a0), (1, .int p1), (2, .int p2), (3, .ref ob)] := hl
  refine lv_aload_n hx hb dL_hours_0 rfl (lv_at hl 3 rfl) ?_
  refine lv_iconst (v := 0) hx hb dL_hours_1 (by decide) ?_
  refine lv_aload_n hx hb dL_hours_2 rfl (lv_at hl 0 rfl) ?_
  refine lv_iload_n hx hb dL_hours_3 rfl (lv_at hl 1 rfl) ?_
  refine lv_iload_n hx hb dL_hours_4 rfl (lv_at hl 2 rfl) ?_
  have hPc := hP.sub (ws' := [tc_X5 a0 ma0 ta0 lk rf pu to, tc_X1 ma0 ma1 ma2 ma3 ma4 fh lh ee, tc_X4 ma1 tk mo su]) [0, 1, 2] rfl
  have hDc := hD.sub (ws' := [tc_X5 a0 ma0 ta0 lk rf pu to, tc_X1 ma0 ma1 ma2 ma3 ma4 fh lh ee, tc_X4 ma1 tk mo su]) [0, 1, 2] (by decide) rfl
  have hFc := va_free (wc := [tc_X5 a0 ma0 ta0 lk rf pu to, tc_X1 ma0 ma1 ma2 ma3 ma4 fh lh ee, tc_X4 ma1 tk mo su]) hD hS hA [0, 1, 2] rfl
  refine vx_calli (vx_runV (As := [.int p1, .int p2]) (rest := [.int 0, .ref ob]) ⟨hx, hb, hml, hown, hts⟩ (c_X5_hours l G a0 ma0 ta0 ma1 ma2 ma3 ma4 s.heap.size lk rf pu to fh lh ee tk mo su p1 p2 n_1 hlt) (cwV 2 hts gL_hours_X5_hours rfl rfl rfl (by decide +kernel) ⟨(Nat.le_of_ble_eq_true rfl), (Nat.le_of_ble_eq_true rfl)⟩) (tm_preV hK hN hV hS hPc hDc hFc (va_recv hK hPc (ci := 6) (q0 := 0) rfl rfl)) rfl rfl hl.1 rfl (lv_room (Nat.le_of_ble_eq_true rfl)) dL_hours_5 ⟨(Nat.le_of_ble_eq_true rfl), (Nat.le_of_ble_eq_true rfl)⟩) hS (fun q _ h => hFc q h) hFc (fun q _ h => hFc q h) (fun E9 ce9 q9 k9 st9 H locs ht hvm hw_2 hB hz1 hk1 hS hce hcv hcl => ?_) (fun r_2 u st9 H locs ht hvm hw_2 hB hz1 hk1 hS => ?_)
  · obtain ⟨rfl, hP1, hD1⟩ := hB
    rw [ht] at hP1
    obtain ⟨hP, hD⟩ := va_join (wr := [tc_J G ob 1 oj]) (w1 := [tc_X5 a0 ma0 ta0 lk rf pu to, tc_X1 ma0 ma1 ma2 ma3 ma4 fh lh ee, tc_X4 ma1 tk mo su]) hP hD [0, 1, 2] [3] rfl rfl (by decide) (by decide) hk1 hFc hP1 hD1
    have hP : va_P G.1 vwCl [tc_J G ob 1 oj, tc_X5 a0 ma0 ta0 lk rf pu to, tc_X1 ma0 ma1 ma2 ma3 ma4 fh lh ee, tc_X4 ma1 tk mo su] H := hP
    have hD : va_D A [tc_J G ob 1 oj, tc_X5 a0 ma0 ta0 lk rf pu to, tc_X1 ma0 ma1 ma2 ma3 ma4 fh lh ee, tc_X4 ma1 tk mo su] := hD
    obtain rfl := x_X5_hours hw_2
    · refine vx_catch (name := "java/lang/IllegalArgumentException") (E := "java/lang/IllegalArgumentException") hown [] { startPc := 0, endPc := 17, handlerPc := 20, catchType := 13 } [] (by rw [htab]; rfl) (fun z hz => absurd hz List.not_mem_nil) (by decide) (by decide) (hts (.classLink RL 13 "java/lang/IllegalArgumentException") (List.mem_of_getElem? (i := 1) rfl)) (va_Nw.use rfl (hN.2.1 ("java/lang/IllegalArgumentException", "java/lang/IllegalArgumentException") (List.mem_of_getElem? (i := 0) rfl))) hce hcv hcl ?_
      show W p l e _ s m _ below meth c H locs 1 6 _ (F0 m 20 ls [.ref q9])
      refine lv_astore (lv' := [(4, .ref q9), (0, .ref a0), (1, .int p1), (2, .int p2), (3, .ref ob)]) hx hb dL_hours_20 hl (by decide) rfl (fun ls hl => ?_)
      refine lv_iconst (v := 1) hx hb dL_hours_22 (by decide) ?_
      have hP9 := hP.sub (ws' := [tc_X5 a0 ma0 ta0 lk rf pu to, tc_X1 ma0 ma1 ma2 ma3 ma4 fh lh ee, tc_X4 ma1 tk mo su, tc_J G ob 1 oj]) [1, 2, 3, 0] rfl
      have hD9 := hD.sub (ws' := [tc_X5 a0 ma0 ta0 lk rf pu to, tc_X1 ma0 ma1 ma2 ma3 ma4 fh lh ee, tc_X4 ma1 tk mo su, tc_J G ob 1 oj]) [1, 2, 3, 0] (by decide) rfl
      refine W.widen (k := 1) (n := 6) (Nat.le_of_ble_eq_true rfl) (Nat.le_of_ble_eq_true rfl) (vx_ret ?_)
      exact W.iret (v := 1) hx hb hr (fun t ht hW => ⟨⟨1, (fh, lh, oj), rfl, by unfold f_L_hours; all_goals (rw [← hw_2]); all_goals (dsimp only); all_goals rfl, by rw [ht]; exact hP9, hD9⟩, hS.F ht⟩) hS.2.2 dL_hours_23
  · obtain ⟨u_3, u_4⟩ := u
    obtain ⟨hP1, hD1⟩ := hB
    rw [ht] at hP1
    try dsimp only at hw_2
    obtain ⟨hP, hD⟩ := va_join (wr := [tc_J G ob 1 oj]) (w1 := [tc_X5 a0 ma0 ta0 lk rf pu to, tc_X1 ma0 ma1 ma2 ma3 ma4 u_3 u_4 ee, tc_X4 ma1 tk mo su]) hP hD [0, 1, 2] [3] rfl rfl (by decide) (by decide) hk1 hFc hP1 hD1
    have hP : va_P G.1 vwCl [tc_J G ob 1 oj, tc_X5 a0 ma0 ta0 lk rf pu to, tc_X1 ma0 ma1 ma2 ma3 ma4 u_3 u_4 ee, tc_X4 ma1 tk mo su] H := hP
    have hD : va_D A [tc_J G ob 1 oj, tc_X5 a0 ma0 ta0 lk rf pu to, tc_X1 ma0 ma1 ma2 ma3 ma4 u_3 u_4 ee, tc_X4 ma1 tk mo su] := hD
    refine W.widen (k := 1) (n := 6) (Nat.le_of_ble_eq_true rfl) (Nat.le_of_ble_eq_true rfl) ?_
    refine lv_if_eq (tgt := 15) hx hb dL_hours_8 (by decide) (fun c_5 => ?_) (fun c_5 => ?_)
    · refine lv_lconst (v := 0) hx hb dL_hours_15 (by decide) ?_
      refine va_last (n := 1) (f := oj) hx hb hK hP hD hS 0 5 rfl rfl (n_6 r_2 u_3 u_4 hw_2 c_5) dL_hours_16 (fun H locs hP hD hS => ?_)
      have hP : va_P G.1 vwCl [tc_J G ob 1 (vp_updL oj (0 : Int32).toNatClampNeg 0), tc_X5 a0 ma0 ta0 lk rf pu to, tc_X1 ma0 ma1 ma2 ma3 ma4 u_3 u_4 ee, tc_X4 ma1 tk mo su] H := hP
      have hD : va_D A [tc_J G ob 1 (vp_updL oj (0 : Int32).toNatClampNeg 0), tc_X5 a0 ma0 ta0 lk rf pu to, tc_X1 ma0 ma1 ma2 ma3 ma4 u_3 u_4 ee, tc_X4 ma1 tk mo su] := hD
      refine lv_goto (tgt := 24) hx hb dL_hours_17 (by decide) ?_
      refine lv_iconst (v := 0) hx hb dL_hours_24 (by decide) ?_
      have hP9 := hP.sub (ws' := [tc_X5 a0 ma0 ta0 lk rf pu to, tc_X1 ma0 ma1 ma2 ma3 ma4 u_3 u_4 ee, tc_X4 ma1 tk mo su, tc_J G ob 1 (vp_updL oj (0 : Int32).toNatClampNeg 0)]) [1, 2, 3, 0] rfl
      have hD9 := hD.sub (ws' := [tc_X5 a0 ma0 ta0 lk rf pu to, tc_X1 ma0 ma1 ma2 ma3 ma4 u_3 u_4 ee, tc_X4 ma1 tk mo su, tc_J G ob 1 (vp_updL oj (0 : Int32).toNatClampNeg 0)]) [1, 2, 3, 0] (by decide) rfl
      refine W.widen (k := 1) (n := 6) (Nat.le_of_ble_eq_true rfl) (Nat.le_of_ble_eq_true rfl) (vx_ret ?_)
      exact W.iret (v := 0) hx hb hr (fun t ht hW => ⟨⟨0, (u_3, u_4, vp_updL oj (0 : Int32).toNatClampNeg 0), rfl, by unfold f_L_hours; all_goals (rw [← hw_2]); all_goals (dsimp only); all_goals (rw [if_pos c_5]); all_goals rfl, by rw [ht]; exact hP9, hD9⟩, hS.F ht⟩) hS.2.2 dL_hours_25
    · refine lv_lconst (v := 1) hx hb dL_hours_11 (by decide) ?_
      refine lv_goto (tgt := 16) hx hb dL_hours_12 (by decide) ?_
      refine va_last (n := 1) (f := oj) hx hb hK hP hD hS 0 5 rfl rfl (n_7 r_2 u_3 u_4 hw_2 c_5) dL_hours_16 (fun H locs hP hD hS => ?_)
      have hP : va_P G.1 vwCl [tc_J G ob 1 (vp_updL oj (0 : Int32).toNatClampNeg 1), tc_X5 a0 ma0 ta0 lk rf pu to, tc_X1 ma0 ma1 ma2 ma3 ma4 u_3 u_4 ee, tc_X4 ma1 tk mo su] H := hP
      have hD : va_D A [tc_J G ob 1 (vp_updL oj (0 : Int32).toNatClampNeg 1), tc_X5 a0 ma0 ta0 lk rf pu to, tc_X1 ma0 ma1 ma2 ma3 ma4 u_3 u_4 ee, tc_X4 ma1 tk mo su] := hD
      refine lv_goto (tgt := 24) hx hb dL_hours_17 (by decide) ?_
      refine lv_iconst (v := 0) hx hb dL_hours_24 (by decide) ?_
      have hP9 := hP.sub (ws' := [tc_X5 a0 ma0 ta0 lk rf pu to, tc_X1 ma0 ma1 ma2 ma3 ma4 u_3 u_4 ee, tc_X4 ma1 tk mo su, tc_J G ob 1 (vp_updL oj (0 : Int32).toNatClampNeg 1)]) [1, 2, 3, 0] rfl
      have hD9 := hD.sub (ws' := [tc_X5 a0 ma0 ta0 lk rf pu to, tc_X1 ma0 ma1 ma2 ma3 ma4 u_3 u_4 ee, tc_X4 ma1 tk mo su, tc_J G ob 1 (vp_updL oj (0 : Int32).toNatClampNeg 1)]) [1, 2, 3, 0] (by decide) rfl
      refine W.widen (k := 1) (n := 6) (Nat.le_of_ble_eq_true rfl) (Nat.le_of_ble_eq_true rfl) (vx_ret ?_)
      exact W.iret (v := 0) hx hb hr (fun t ht hW => ⟨⟨0, (u_3, u_4, vp_updL oj (0 : Int32).toNatClampNeg 1), rfl, by unfold f_L_hours; all_goals (rw [← hw_2]); all_goals (dsimp only); all_goals (rw [if_neg c_5]); all_goals rfl, by rw [ht]; exact hP9, hD9⟩, hS.F ht⟩) hS.2.2 dL_hours_25
theorem x_X5_pair {pn : Int32} {pl : Nat → Int32} {k : Nat} (h : (Sum.inr k : (Int32 × Int32 × (Nat → Int32)) ⊕ Nat) = f_X5_pair pn pl) : k = 1 := by
  unfold f_X5_pair at h
  repeat' split at h
  all_goals first | (cases h; done) | (cases h; simp)
def f_L_pair (pn : Int32) (pl : Nat → Int32) (oj : Nat → Int64) : Int32 × Int32 × (Nat → Int32) × (Nat → Int64) :=
  (match f_X5_pair pn pl with | .inl (r_2, u_3, u_4) => (0, u_3, u_4, vp_updL oj (0 : Int32).toNatClampNeg r_2.toInt64) | .inr k9 => (1, pn, pl, oj))
def n_L_pair (pn : Int32) (pl : Nat → Int32) : Prop :=
  (n_X5_pair pn) ∧
  (∀ (r_2 : Int32) (u_3 : Int32) (u_4 : Nat → Int32), (Sum.inl (r_2, u_3, u_4) : (Int32 × Int32 × (Nat → Int32)) ⊕ Nat) = f_X5_pair pn pl → vp_in 0 1)
set_option maxHeartbeats 4000000 in
set_option maxRecDepth 100000 in
theorem c_L_pair (l : Launch) (G : tm_G) (a0 : Nat) (ma0 : Nat) (ta0 : Nat) (ma1 : Nat) (ma2 : Nat) (ma3 : Nat) (ma4 : Nat) (md0 : Nat) (md1 : Nat) (md2 : Nat) (md3 : Nat) (ob : Nat) (sz : Nat) (lk : Int32) (rf : Int32) (pu : Int32) (to : UInt64) (fh : Int32) (lh : Int32) (ee : Int32) (pn : Int32) (dl : Nat → UInt32) (pl : Nat → Int32) (dr : Nat → Int32) (sp : Nat → Int32) (oj : Nat → Int64) (hn : n_L_pair pn pl) (hlt : l.stackTraces = false) : Met l yL_pair wsL_pair ({ frames := 7, cells := 1, slots := 6, locals := 116 }) (va_Pc [.ref a0, .ref ob] (tm_B G [tc_X5 a0 ma0 ta0 lk rf pu to, tc_X1 ma0 ma1 ma2 ma3 ma4 fh lh ee, tc_X2 ma4 md0 md1 md2 md3 pn, tc_F G md0 3 dl, tc_I G md1 3 pl, tc_I G md2 3 dr, tc_I G md3 3 sp, tc_J G ob 1 oj] sz)) (va_Qi (fun (r : Int32) (u : Int32 × (Nat → Int32) × (Nat → Int64)) => (r, u) = f_L_pair pn pl oj) (fun (u : Int32 × (Nat → Int32) × (Nat → Int64)) (t : State) => va_P G.1 vwCl [tc_X5 a0 ma0 ta0 lk rf pu to, tc_X1 ma0 ma1 ma2 ma3 ma4 fh lh ee, tc_X2 ma4 md0 md1 md2 md3 u.1, tc_F G md0 3 dl, tc_I G md1 3 u.2.1, tc_I G md2 3 dr, tc_I G md3 3 sp, tc_J G ob 1 u.2.2] t.heap ∧ va_D (va_A [tc_X5 a0 ma0 ta0 lk rf pu to, tc_X1 ma0 ma1 ma2 ma3 ma4 fh lh ee, tc_X2 ma4 md0 md1 md2 md3 pn, tc_F G md0 3 dl, tc_I G md1 3 pl, tc_I G md2 3 dr, tc_I G md3 3 sp, tc_J G ob 1 oj] sz) [tc_X5 a0 ma0 ta0 lk rf pu to, tc_X1 ma0 ma1 ma2 ma3 ma4 fh lh ee, tc_X2 ma4 md0 md1 md2 md3 u.1, tc_F G md0 3 dl, tc_I G md1 3 u.2.1, tc_I G md2 3 dr, tc_I G md3 3 sp, tc_J G ob 1 u.2.2]) (va_A [tc_X5 a0 ma0 ta0 lk rf pu to, tc_X1 ma0 ma1 ma2 ma3 ma4 fh lh ee, tc_X2 ma4 md0 md1 md2 md3 pn, tc_F G md0 3 dl, tc_I G md1 3 pl, tc_I G md2 3 dr, tc_I G md3 3 sp, tc_J G ob 1 oj] sz)) 1 6 (va_A [tc_X5 a0 ma0 ta0 lk rf pu to, tc_X1 ma0 ma1 ma2 ma3 ma4 fh lh ee, tc_X2 ma4 md0 md1 md2 md3 pn, tc_F G md0 3 dl, tc_I G md1 3 pl, tc_I G md2 3 dr, tc_I G md3 3 sp, tc_J G ob 1 oj] sz) := by
  refine tm_metOf ?_
  refine vx_ofWH (cc := cL_pair) (maxL := 3) (ret := (some .int)) (hh :=  [(0, 8, 11, 22)]) (by decide) rfl ?_
  intro p e s m args below meth c s₁ B hml hv
  obtain ⟨rfl, hsz, hP, hK, hD0, hN, hV⟩ := hv
  have hx := B.exec
  have hb := B.bytes
  have hr := B.returns
  have hts := atoms_spec (ws := wsL_pair) B.pre
  have htab : c.exceptionTable.toList = tableOf  [(0, 8, 11, 22)] := vx_table (x := yL_pair) B (atoms_spec (ws := wsL_pair) B.pre _ (List.mem_of_getElem? (i := 0) rfl))
  have hown : s.vm.findClass RL = some m.cls := findClass_of_methodNamed B.named
  have hlocks := B.notSynchronized
  subst hsz
  obtain ⟨n_1, n_5⟩ := hn
  have hD := hD0.self (sz := s.heap.size)
  generalize hAe : va_A [tc_X5 a0 ma0 ta0 lk rf pu to, tc_X1 ma0 ma1 ma2 ma3 ma4 fh lh ee, tc_X2 ma4 md0 md1 md2 md3 pn, tc_F G md0 3 dl, tc_I G md1 3 pl, tc_I G md2 3 dr, tc_I G md3 3 sp, tc_J G ob 1 oj] s.heap.size = A at hD hV ⊢
  have hA : ∀ q : Nat, s.heap.size ≤ q → A q := fun q h => by rw [← hAe]; exact Or.inr h
  have hS : va_S A s.heap s.heap [] := va_S.rf
  have hl := lv_entry ([.ref a0, .ref ob]) (n := 3) (Nat.le_of_ble_eq_true rfl)
  rw [lg_entry_eq]
  generalize (lg_sl ([.ref a0, .ref ob]) ++ List.replicate (3 - (lg_sl ([.ref a0, .ref ob])).length) Slot.unset).toArray = ls at hl ⊢
  have hl : lv_has ls 3 [(0, .ref a0), (1, .ref ob)] := hl
  refine lv_aload_n hx hb dL_pair_0 rfl (lv_at hl 1 rfl) ?_
  refine lv_iconst (v := 0) hx hb dL_pair_1 (by decide) ?_
  refine lv_aload_n hx hb dL_pair_2 rfl (lv_at hl 0 rfl) ?_
  have hPc := hP.sub (ws' := [tc_X5 a0 ma0 ta0 lk rf pu to, tc_X1 ma0 ma1 ma2 ma3 ma4 fh lh ee, tc_X2 ma4 md0 md1 md2 md3 pn, tc_F G md0 3 dl, tc_I G md1 3 pl, tc_I G md2 3 dr, tc_I G md3 3 sp]) [0, 1, 2, 3, 4, 5, 6] rfl
  have hDc := hD.sub (ws' := [tc_X5 a0 ma0 ta0 lk rf pu to, tc_X1 ma0 ma1 ma2 ma3 ma4 fh lh ee, tc_X2 ma4 md0 md1 md2 md3 pn, tc_F G md0 3 dl, tc_I G md1 3 pl, tc_I G md2 3 dr, tc_I G md3 3 sp]) [0, 1, 2, 3, 4, 5, 6] (by decide) rfl
  have hFc := va_free (wc := [tc_X5 a0 ma0 ta0 lk rf pu to, tc_X1 ma0 ma1 ma2 ma3 ma4 fh lh ee, tc_X2 ma4 md0 md1 md2 md3 pn, tc_F G md0 3 dl, tc_I G md1 3 pl, tc_I G md2 3 dr, tc_I G md3 3 sp]) hD hS hA [0, 1, 2, 3, 4, 5, 6] rfl
  refine vx_calli (vx_runV (As := []) (rest := [.int 0, .ref ob]) ⟨hx, hb, hml, hown, hts⟩ (c_X5_pair l G a0 ma0 ta0 ma1 ma2 ma3 ma4 md0 md1 md2 md3 s.heap.size lk rf pu to fh lh ee pn dl pl dr sp n_1 hlt) (cwV 0 hts gL_pair_X5_pair rfl rfl rfl (by decide +kernel) ⟨(Nat.le_of_ble_eq_true rfl), (Nat.le_of_ble_eq_true rfl)⟩) (tm_preV hK hN hV hS hPc hDc hFc (va_recv hK hPc (ci := 6) (q0 := 0) rfl rfl)) rfl rfl hl.1 rfl (lv_room (Nat.le_of_ble_eq_true rfl)) dL_pair_3 ⟨(Nat.le_of_ble_eq_true rfl), (Nat.le_of_ble_eq_true rfl)⟩) hS (fun q _ h => hFc q h) hFc (fun q _ h => hFc q h) (fun E9 ce9 q9 k9 st9 H locs ht hvm hw_2 hB hz1 hk1 hS hce hcv hcl => ?_) (fun r_2 u st9 H locs ht hvm hw_2 hB hz1 hk1 hS => ?_)
  · obtain ⟨rfl, hP1, hD1⟩ := hB
    rw [ht] at hP1
    obtain ⟨hP, hD⟩ := va_join (wr := [tc_J G ob 1 oj]) (w1 := [tc_X5 a0 ma0 ta0 lk rf pu to, tc_X1 ma0 ma1 ma2 ma3 ma4 fh lh ee, tc_X2 ma4 md0 md1 md2 md3 pn, tc_F G md0 3 dl, tc_I G md1 3 pl, tc_I G md2 3 dr, tc_I G md3 3 sp]) hP hD [0, 1, 2, 3, 4, 5, 6] [7] rfl rfl (by decide) (by decide) hk1 hFc hP1 hD1
    have hP : va_P G.1 vwCl [tc_J G ob 1 oj, tc_X5 a0 ma0 ta0 lk rf pu to, tc_X1 ma0 ma1 ma2 ma3 ma4 fh lh ee, tc_X2 ma4 md0 md1 md2 md3 pn, tc_F G md0 3 dl, tc_I G md1 3 pl, tc_I G md2 3 dr, tc_I G md3 3 sp] H := hP
    have hD : va_D A [tc_J G ob 1 oj, tc_X5 a0 ma0 ta0 lk rf pu to, tc_X1 ma0 ma1 ma2 ma3 ma4 fh lh ee, tc_X2 ma4 md0 md1 md2 md3 pn, tc_F G md0 3 dl, tc_I G md1 3 pl, tc_I G md2 3 dr, tc_I G md3 3 sp] := hD
    obtain rfl := x_X5_pair hw_2
    · refine vx_catch (name := "java/lang/IllegalStateException") (E := "java/lang/IllegalStateException") hown [] { startPc := 0, endPc := 8, handlerPc := 11, catchType := 22 } [] (by rw [htab]; rfl) (fun z hz => absurd hz List.not_mem_nil) (by decide) (by decide) (hts (.classLink RL 22 "java/lang/IllegalStateException") (List.mem_of_getElem? (i := 1) rfl)) (va_Nw.use rfl (hN.2.1 ("java/lang/IllegalStateException", "java/lang/IllegalStateException") (List.mem_of_getElem? (i := 1) rfl))) hce hcv hcl ?_
      show W p l e _ s m _ below meth c H locs 1 6 _ (F0 m 11 ls [.ref q9])
      refine lv_astore_n (lv' := [(2, .ref q9), (0, .ref a0), (1, .ref ob)]) hx hb dL_pair_11 rfl hl (by decide) rfl (fun ls hl => ?_)
      refine lv_iconst (v := 1) hx hb dL_pair_12 (by decide) ?_
      have hP9 := hP.sub (ws' := [tc_X5 a0 ma0 ta0 lk rf pu to, tc_X1 ma0 ma1 ma2 ma3 ma4 fh lh ee, tc_X2 ma4 md0 md1 md2 md3 pn, tc_F G md0 3 dl, tc_I G md1 3 pl, tc_I G md2 3 dr, tc_I G md3 3 sp, tc_J G ob 1 oj]) [1, 2, 3, 4, 5, 6, 7, 0] rfl
      have hD9 := hD.sub (ws' := [tc_X5 a0 ma0 ta0 lk rf pu to, tc_X1 ma0 ma1 ma2 ma3 ma4 fh lh ee, tc_X2 ma4 md0 md1 md2 md3 pn, tc_F G md0 3 dl, tc_I G md1 3 pl, tc_I G md2 3 dr, tc_I G md3 3 sp, tc_J G ob 1 oj]) [1, 2, 3, 4, 5, 6, 7, 0] (by decide) rfl
      refine W.widen (k := 1) (n := 6) (Nat.le_of_ble_eq_true rfl) (Nat.le_of_ble_eq_true rfl) (vx_ret ?_)
      exact W.iret (v := 1) hx hb hr (fun t ht hW => ⟨⟨1, (pn, pl, oj), rfl, by unfold f_L_pair; all_goals (rw [← hw_2]); all_goals (dsimp only); all_goals rfl, by rw [ht]; exact hP9, hD9⟩, hS.F ht⟩) hS.2.2 dL_pair_13
  · obtain ⟨u_3, u_4⟩ := u
    obtain ⟨hP1, hD1⟩ := hB
    rw [ht] at hP1
    try dsimp only at hw_2
    obtain ⟨hP, hD⟩ := va_join (wr := [tc_J G ob 1 oj]) (w1 := [tc_X5 a0 ma0 ta0 lk rf pu to, tc_X1 ma0 ma1 ma2 ma3 ma4 fh lh ee, tc_X2 ma4 md0 md1 md2 md3 u_3, tc_F G md0 3 dl, tc_I G md1 3 u_4, tc_I G md2 3 dr, tc_I G md3 3 sp]) hP hD [0, 1, 2, 3, 4, 5, 6] [7] rfl rfl (by decide) (by decide) hk1 hFc hP1 hD1
    have hP : va_P G.1 vwCl [tc_J G ob 1 oj, tc_X5 a0 ma0 ta0 lk rf pu to, tc_X1 ma0 ma1 ma2 ma3 ma4 fh lh ee, tc_X2 ma4 md0 md1 md2 md3 u_3, tc_F G md0 3 dl, tc_I G md1 3 u_4, tc_I G md2 3 dr, tc_I G md3 3 sp] H := hP
    have hD : va_D A [tc_J G ob 1 oj, tc_X5 a0 ma0 ta0 lk rf pu to, tc_X1 ma0 ma1 ma2 ma3 ma4 fh lh ee, tc_X2 ma4 md0 md1 md2 md3 u_3, tc_F G md0 3 dl, tc_I G md1 3 u_4, tc_I G md2 3 dr, tc_I G md3 3 sp] := hD
    refine W.widen (k := 1) (n := 6) (Nat.le_of_ble_eq_true rfl) (Nat.le_of_ble_eq_true rfl) ?_
    refine lv_i2l (v := r_2.toInt64) hx hb dL_pair_6 rfl ?_
    refine va_last (n := 1) (f := oj) hx hb hK hP hD hS 0 5 rfl rfl (n_5 r_2 u_3 u_4 hw_2) dL_pair_7 (fun H locs hP hD hS => ?_)
    have hP : va_P G.1 vwCl [tc_J G ob 1 (vp_updL oj (0 : Int32).toNatClampNeg r_2.toInt64), tc_X5 a0 ma0 ta0 lk rf pu to, tc_X1 ma0 ma1 ma2 ma3 ma4 fh lh ee, tc_X2 ma4 md0 md1 md2 md3 u_3, tc_F G md0 3 dl, tc_I G md1 3 u_4, tc_I G md2 3 dr, tc_I G md3 3 sp] H := hP
    have hD : va_D A [tc_J G ob 1 (vp_updL oj (0 : Int32).toNatClampNeg r_2.toInt64), tc_X5 a0 ma0 ta0 lk rf pu to, tc_X1 ma0 ma1 ma2 ma3 ma4 fh lh ee, tc_X2 ma4 md0 md1 md2 md3 u_3, tc_F G md0 3 dl, tc_I G md1 3 u_4, tc_I G md2 3 dr, tc_I G md3 3 sp] := hD
    refine lv_goto (tgt := 14) hx hb dL_pair_8 (by decide) ?_
    refine lv_iconst (v := 0) hx hb dL_pair_14 (by decide) ?_
    have hP9 := hP.sub (ws' := [tc_X5 a0 ma0 ta0 lk rf pu to, tc_X1 ma0 ma1 ma2 ma3 ma4 fh lh ee, tc_X2 ma4 md0 md1 md2 md3 u_3, tc_F G md0 3 dl, tc_I G md1 3 u_4, tc_I G md2 3 dr, tc_I G md3 3 sp, tc_J G ob 1 (vp_updL oj (0 : Int32).toNatClampNeg r_2.toInt64)]) [1, 2, 3, 4, 5, 6, 7, 0] rfl
    have hD9 := hD.sub (ws' := [tc_X5 a0 ma0 ta0 lk rf pu to, tc_X1 ma0 ma1 ma2 ma3 ma4 fh lh ee, tc_X2 ma4 md0 md1 md2 md3 u_3, tc_F G md0 3 dl, tc_I G md1 3 u_4, tc_I G md2 3 dr, tc_I G md3 3 sp, tc_J G ob 1 (vp_updL oj (0 : Int32).toNatClampNeg r_2.toInt64)]) [1, 2, 3, 4, 5, 6, 7, 0] (by decide) rfl
    refine W.widen (k := 1) (n := 6) (Nat.le_of_ble_eq_true rfl) (Nat.le_of_ble_eq_true rfl) (vx_ret ?_)
    exact W.iret (v := 0) hx hb hr (fun t ht hW => ⟨⟨0, (u_3, u_4, vp_updL oj (0 : Int32).toNatClampNeg r_2.toInt64), rfl, by unfold f_L_pair; all_goals (rw [← hw_2]); all_goals (dsimp only); all_goals rfl, by rw [ht]; exact hP9, hD9⟩, hS.F ht⟩) hS.2.2 dL_pair_15
theorem x_X5_lot {tk : Int32} {ln : Int32} {ow : Nat → Int32} {gr : Nat → Int32} {we : Nat → Int32} {du : Nat → Int32} {sa : Nat → Int32} {le : Nat → UInt64} {p1 : Int32} {p2 : Int32} {p3 : Int32} {p4 : Int32} {k : Nat} (h : (Sum.inr k : (Int32 × Int32 × (Nat → Int32) × (Nat → Int32) × (Nat → Int32) × (Nat → Int32) × (Nat → Int32) × (Nat → UInt64)) ⊕ Nat) = f_X5_lot tk ln ow gr we du sa le p1 p2 p3 p4) : k = 0 ∨ k = 1 := by
  unfold f_X5_lot at h
  repeat' split at h
  all_goals first | (cases h; done) | (cases h; simp)
def f_L_lot (tk : Int32) (ln : Int32) (ow : Nat → Int32) (gr : Nat → Int32) (we : Nat → Int32) (du : Nat → Int32) (sa : Nat → Int32) (le : Nat → UInt64) (oj : Nat → Int64) (p1 : Int32) (p2 : Int32) (p3 : Int32) (p4 : Int32) : Int32 × Int32 × (Nat → Int32) × (Nat → Int32) × (Nat → Int32) × (Nat → Int32) × (Nat → Int32) × (Nat → UInt64) × (Nat → Int64) :=
  (match f_X5_lot tk ln ow gr we du sa le p1 p2 p3 p4 with | .inl (r_2, u_3, u_4, u_5, u_6, u_7, u_8, u_9) => (0, u_3, u_4, u_5, u_6, u_7, u_8, u_9, vp_updL oj (0 : Int32).toNatClampNeg r_2.toInt64) | .inr k9 => if k9 = 0 then (1, ln, ow, gr, we, du, sa, le, oj) else ((2, ln, ow, gr, we, du, sa, le, oj)))
def n_L_lot (tk : Int32) (ln : Int32) (ow : Nat → Int32) (gr : Nat → Int32) (we : Nat → Int32) (du : Nat → Int32) (sa : Nat → Int32) (le : Nat → UInt64) (p1 : Int32) (p2 : Int32) (p3 : Int32) (p4 : Int32) : Prop :=
  (n_X5_lot ln p1 p2 p3 p4) ∧
  (∀ (r_2 : Int32) (u_3 : Int32) (u_4 : Nat → Int32) (u_5 : Nat → Int32) (u_6 : Nat → Int32) (u_7 : Nat → Int32) (u_8 : Nat → Int32) (u_9 : Nat → UInt64), (Sum.inl (r_2, u_3, u_4, u_5, u_6, u_7, u_8, u_9) : (Int32 × Int32 × (Nat → Int32) × (Nat → Int32) × (Nat → Int32) × (Nat → Int32) × (Nat → Int32) × (Nat → UInt64)) ⊕ Nat) = f_X5_lot tk ln ow gr we du sa le p1 p2 p3 p4 → vp_in 0 1)
set_option maxHeartbeats 4000000 in
set_option maxRecDepth 100000 in
theorem c_L_lot (l : Launch) (G : tm_G) (a0 : Nat) (ma0 : Nat) (ta0 : Nat) (ma1 : Nat) (ma2 : Nat) (ma3 : Nat) (ma4 : Nat) (mb0 : Nat) (mb1 : Nat) (mb2 : Nat) (mb3 : Nat) (mb4 : Nat) (mb5 : Nat) (ob : Nat) (sz : Nat) (lk : Int32) (rf : Int32) (pu : Int32) (to : UInt64) (fh : Int32) (lh : Int32) (ee : Int32) (tk : Int32) (mo : Int32) (su : UInt64) (ln : Int32) (ow : Nat → Int32) (gr : Nat → Int32) (we : Nat → Int32) (du : Nat → Int32) (sa : Nat → Int32) (le : Nat → UInt64) (oj : Nat → Int64) (p1 : Int32) (p2 : Int32) (p3 : Int32) (p4 : Int32) (hn : n_L_lot tk ln ow gr we du sa le p1 p2 p3 p4) (hlt : l.stackTraces = false) : Met l yL_lot wsL_lot ({ frames := 7, cells := 1, slots := 6, locals := 120 }) (va_Pc [.ref a0, .int p1, .int p2, .int p3, .int p4, .ref ob] (tm_B G [tc_X5 a0 ma0 ta0 lk rf pu to, tc_X1 ma0 ma1 ma2 ma3 ma4 fh lh ee, tc_X4 ma1 tk mo su, tc_X0 ma3 mb0 mb1 mb2 mb3 mb4 mb5 ln, tc_I G mb0 10 ow, tc_I G mb1 10 gr, tc_I G mb2 10 we, tc_I G mb3 10 du, tc_I G mb4 10 sa, tc_D G mb5 10 le, tc_J G ob 1 oj] sz)) (va_Qi (fun (r : Int32) (u : Int32 × (Nat → Int32) × (Nat → Int32) × (Nat → Int32) × (Nat → Int32) × (Nat → Int32) × (Nat → UInt64) × (Nat → Int64)) => (r, u) = f_L_lot tk ln ow gr we du sa le oj p1 p2 p3 p4) (fun (u : Int32 × (Nat → Int32) × (Nat → Int32) × (Nat → Int32) × (Nat → Int32) × (Nat → Int32) × (Nat → UInt64) × (Nat → Int64)) (t : State) => va_P G.1 vwCl [tc_X5 a0 ma0 ta0 lk rf pu to, tc_X1 ma0 ma1 ma2 ma3 ma4 fh lh ee, tc_X4 ma1 tk mo su, tc_X0 ma3 mb0 mb1 mb2 mb3 mb4 mb5 u.1, tc_I G mb0 10 u.2.1, tc_I G mb1 10 u.2.2.1, tc_I G mb2 10 u.2.2.2.1, tc_I G mb3 10 u.2.2.2.2.1, tc_I G mb4 10 u.2.2.2.2.2.1, tc_D G mb5 10 u.2.2.2.2.2.2.1, tc_J G ob 1 u.2.2.2.2.2.2.2] t.heap ∧ va_D (va_A [tc_X5 a0 ma0 ta0 lk rf pu to, tc_X1 ma0 ma1 ma2 ma3 ma4 fh lh ee, tc_X4 ma1 tk mo su, tc_X0 ma3 mb0 mb1 mb2 mb3 mb4 mb5 ln, tc_I G mb0 10 ow, tc_I G mb1 10 gr, tc_I G mb2 10 we, tc_I G mb3 10 du, tc_I G mb4 10 sa, tc_D G mb5 10 le, tc_J G ob 1 oj] sz) [tc_X5 a0 ma0 ta0 lk rf pu to, tc_X1 ma0 ma1 ma2 ma3 ma4 fh lh ee, tc_X4 ma1 tk mo su, tc_X0 ma3 mb0 mb1 mb2 mb3 mb4 mb5 u.1, tc_I G mb0 10 u.2.1, tc_I G mb1 10 u.2.2.1, tc_I G mb2 10 u.2.2.2.1, tc_I G mb3 10 u.2.2.2.2.1, tc_I G mb4 10 u.2.2.2.2.2.1, tc_D G mb5 10 u.2.2.2.2.2.2.1, tc_J G ob 1 u.2.2.2.2.2.2.2]) (va_A [tc_X5 a0 ma0 ta0 lk rf pu to, tc_X1 ma0 ma1 ma2 ma3 ma4 fh lh ee, tc_X4 ma1 tk mo su, tc_X0 ma3 mb0 mb1 mb2 mb3 mb4 mb5 ln, tc_I G mb0 10 ow, tc_I G mb1 10 gr, tc_I G mb2 10 we, tc_I G mb3 10 du, tc_I G mb4 10 sa, tc_D G mb5 10 le, tc_J G ob 1 oj] sz)) 1 6 (va_A [tc_X5 a0 ma0 ta0 lk rf pu to, tc_X1 ma0 ma1 ma2 ma3 ma4 fh lh ee, tc_X4 ma1 tk mo su, tc_X0 ma3 mb0 mb1 mb2 mb3 mb4 mb5 ln, tc_I G mb0 10 ow, tc_I G mb1 10 gr, tc_I G mb2 10 we, tc_I G mb3 10 du, tc_I G mb4 10 sa, tc_D G mb5 10 le, tc_J G ob 1 oj] sz) := by
  refine tm_metOf ?_
  refine vx_ofWH (cc := cL_lot) (maxL := 7) (ret := (some .int)) (hh :=  [(0, 14, 17, 13), (0, 14, 21, 22)]) (by decide) rfl ?_
  intro p e s m args below meth c s₁ B hml hv
  obtain ⟨rfl, hsz, hP, hK, hD0, hN, hV⟩ := hv
  have hx := B.exec
  have hb := B.bytes
  have hr := B.returns
  have hts := atoms_spec (ws := wsL_lot) B.pre
  have htab : c.exceptionTable.toList = tableOf  [(0, 14, 17, 13), (0, 14, 21, 22)] := vx_table (x := yL_lot) B (atoms_spec (ws := wsL_lot) B.pre _ (List.mem_of_getElem? (i := 0) rfl))
  have hown : s.vm.findClass RL = some m.cls := findClass_of_methodNamed B.named
  have hlocks := B.notSynchronized
  subst hsz
  obtain ⟨n_1, n_10⟩ := hn
  have hD := hD0.self (sz := s.heap.size)
  generalize hAe : va_A [tc_X5 a0 ma0 ta0 lk rf pu to, tc_X1 ma0 ma1 ma2 ma3 ma4 fh lh ee, tc_X4 ma1 tk mo su, tc_X0 ma3 mb0 mb1 mb2 mb3 mb4 mb5 ln, tc_I G mb0 10 ow, tc_I G mb1 10 gr, tc_I G mb2 10 we, tc_I G mb3 10 du, tc_I G mb4 10 sa, tc_D G mb5 10 le, tc_J G ob 1 oj] s.heap.size = A at hD hV ⊢
  have hA : ∀ q : Nat, s.heap.size ≤ q → A q := fun q h => by rw [← hAe]; exact Or.inr h
  have hS : va_S A s.heap s.heap [] := va_S.rf
  have hl := lv_entry ([.ref a0, .int p1, .int p2, .int p3, .int p4, .ref ob]) (n := 7) (Nat.le_of_ble_eq_true rfl)
  rw [lg_entry_eq]
  generalize (lg_sl ([.ref a0, .int p1, .int p2, .int p3, .int p4, .ref ob]) ++ List.replicate (7 - (lg_sl ([.ref a0, .int p1, .int p2, .int p3, .int p4, .ref ob])).length) Slot.unset).toArray = ls at hl ⊢
  have hl : lv_has ls 7 [(0, .ref a0), (1, .int p1), (2, .int p2), (3, .int p3), (4, .int p4), (5, .ref ob)] := hl
  refine lv_aload hx hb dL_lot_0 (lv_at hl 5 rfl) ?_
  refine lv_iconst (v := 0) hx hb dL_lot_2 (by decide) ?_
  refine lv_aload_n hx hb dL_lot_3 rfl (lv_at hl 0 rfl) ?_
  refine lv_iload_n hx hb dL_lot_4 rfl (lv_at hl 1 rfl) ?_
  refine lv_iload_n hx hb dL_lot_5 rfl (lv_at hl 2 rfl) ?_
  refine lv_iload_n hx hb dL_lot_6 rfl (lv_at hl 3 rfl) ?_
  refine lv_iload hx hb dL_lot_7 (lv_at hl 4 rfl) ?_
  have hPc := hP.sub (ws' := [tc_X5 a0 ma0 ta0 lk rf pu to, tc_X1 ma0 ma1 ma2 ma3 ma4 fh lh ee, tc_X4 ma1 tk mo su, tc_X0 ma3 mb0 mb1 mb2 mb3 mb4 mb5 ln, tc_I G mb0 10 ow, tc_I G mb1 10 gr, tc_I G mb2 10 we, tc_I G mb3 10 du, tc_I G mb4 10 sa, tc_D G mb5 10 le]) [0, 1, 2, 3, 4, 5, 6, 7, 8, 9] rfl
  have hDc := hD.sub (ws' := [tc_X5 a0 ma0 ta0 lk rf pu to, tc_X1 ma0 ma1 ma2 ma3 ma4 fh lh ee, tc_X4 ma1 tk mo su, tc_X0 ma3 mb0 mb1 mb2 mb3 mb4 mb5 ln, tc_I G mb0 10 ow, tc_I G mb1 10 gr, tc_I G mb2 10 we, tc_I G mb3 10 du, tc_I G mb4 10 sa, tc_D G mb5 10 le]) [0, 1, 2, 3, 4, 5, 6, 7, 8, 9] (by decide) rfl
  have hFc := va_free (wc := [tc_X5 a0 ma0 ta0 lk rf pu to, tc_X1 ma0 ma1 ma2 ma3 ma4 fh lh ee, tc_X4 ma1 tk mo su, tc_X0 ma3 mb0 mb1 mb2 mb3 mb4 mb5 ln, tc_I G mb0 10 ow, tc_I G mb1 10 gr, tc_I G mb2 10 we, tc_I G mb3 10 du, tc_I G mb4 10 sa, tc_D G mb5 10 le]) hD hS hA [0, 1, 2, 3, 4, 5, 6, 7, 8, 9] rfl
  refine vx_calli (vx_runV (As := [.int p1, .int p2, .int p3, .int p4]) (rest := [.int 0, .ref ob]) ⟨hx, hb, hml, hown, hts⟩ (c_X5_lot l G a0 ma0 ta0 ma1 ma2 ma3 ma4 mb0 mb1 mb2 mb3 mb4 mb5 s.heap.size lk rf pu to fh lh ee tk mo su ln ow gr we du sa le p1 p2 p3 p4 n_1 hlt) (cwV 4 hts gL_lot_X5_lot rfl rfl rfl (by decide +kernel) ⟨(Nat.le_of_ble_eq_true rfl), (Nat.le_of_ble_eq_true rfl)⟩) (tm_preV hK hN hV hS hPc hDc hFc (va_recv hK hPc (ci := 6) (q0 := 0) rfl rfl)) rfl rfl hl.1 rfl (lv_room (Nat.le_of_ble_eq_true rfl)) dL_lot_9 ⟨(Nat.le_of_ble_eq_true rfl), (Nat.le_of_ble_eq_true rfl)⟩) hS (fun q _ h => hFc q h) hFc (fun q _ h => hFc q h) (fun E9 ce9 q9 k9 st9 H locs ht hvm hw_2 hB hz1 hk1 hS hce hcv hcl => ?_) (fun r_2 u st9 H locs ht hvm hw_2 hB hz1 hk1 hS => ?_)
  · obtain ⟨rfl, hP1, hD1⟩ := hB
    rw [ht] at hP1
    obtain ⟨hP, hD⟩ := va_join (wr := [tc_J G ob 1 oj]) (w1 := [tc_X5 a0 ma0 ta0 lk rf pu to, tc_X1 ma0 ma1 ma2 ma3 ma4 fh lh ee, tc_X4 ma1 tk mo su, tc_X0 ma3 mb0 mb1 mb2 mb3 mb4 mb5 ln, tc_I G mb0 10 ow, tc_I G mb1 10 gr, tc_I G mb2 10 we, tc_I G mb3 10 du, tc_I G mb4 10 sa, tc_D G mb5 10 le]) hP hD [0, 1, 2, 3, 4, 5, 6, 7, 8, 9] [10] rfl rfl (by decide) (by decide) hk1 hFc hP1 hD1
    have hP : va_P G.1 vwCl [tc_J G ob 1 oj, tc_X5 a0 ma0 ta0 lk rf pu to, tc_X1 ma0 ma1 ma2 ma3 ma4 fh lh ee, tc_X4 ma1 tk mo su, tc_X0 ma3 mb0 mb1 mb2 mb3 mb4 mb5 ln, tc_I G mb0 10 ow, tc_I G mb1 10 gr, tc_I G mb2 10 we, tc_I G mb3 10 du, tc_I G mb4 10 sa, tc_D G mb5 10 le] H := hP
    have hD : va_D A [tc_J G ob 1 oj, tc_X5 a0 ma0 ta0 lk rf pu to, tc_X1 ma0 ma1 ma2 ma3 ma4 fh lh ee, tc_X4 ma1 tk mo su, tc_X0 ma3 mb0 mb1 mb2 mb3 mb4 mb5 ln, tc_I G mb0 10 ow, tc_I G mb1 10 gr, tc_I G mb2 10 we, tc_I G mb3 10 du, tc_I G mb4 10 sa, tc_D G mb5 10 le] := hD
    rcases x_X5_lot hw_2 with rfl | rfl
    · refine vx_catch (name := "java/lang/IllegalArgumentException") (E := "java/lang/IllegalArgumentException") hown [] { startPc := 0, endPc := 14, handlerPc := 17, catchType := 13 } [{ startPc := 0, endPc := 14, handlerPc := 21, catchType := 22 }] (by rw [htab]; rfl) (fun z hz => absurd hz List.not_mem_nil) (by decide) (by decide) (hts (.classLink RL 13 "java/lang/IllegalArgumentException") (List.mem_of_getElem? (i := 1) rfl)) (va_Nw.use rfl (hN.2.1 ("java/lang/IllegalArgumentException", "java/lang/IllegalArgumentException") (List.mem_of_getElem? (i := 0) rfl))) hce hcv hcl ?_
      show W p l e _ s m _ below meth c H locs 1 6 _ (F0 m 17 ls [.ref q9])
      refine lv_astore (lv' := [(6, .ref q9), (0, .ref a0), (1, .int p1), (2, .int p2), (3, .int p3), (4, .int p4), (5, .ref ob)]) hx hb dL_lot_17 hl (by decide) rfl (fun ls hl => ?_)
      refine lv_iconst (v := 1) hx hb dL_lot_19 (by decide) ?_
      have hP9 := hP.sub (ws' := [tc_X5 a0 ma0 ta0 lk rf pu to, tc_X1 ma0 ma1 ma2 ma3 ma4 fh lh ee, tc_X4 ma1 tk mo su, tc_X0 ma3 mb0 mb1 mb2 mb3 mb4 mb5 ln, tc_I G mb0 10 ow, tc_I G mb1 10 gr, tc_I G mb2 10 we, tc_I G mb3 10 du, tc_I G mb4 10 sa, tc_D G mb5 10 le, tc_J G ob 1 oj]) [1, 2, 3, 4, 5, 6, 7, 8, 9, 10, 0] rfl
      have hD9 := hD.sub (ws' := [tc_X5 a0 ma0 ta0 lk rf pu to, tc_X1 ma0 ma1 ma2 ma3 ma4 fh lh ee, tc_X4 ma1 tk mo su, tc_X0 ma3 mb0 mb1 mb2 mb3 mb4 mb5 ln, tc_I G mb0 10 ow, tc_I G mb1 10 gr, tc_I G mb2 10 we, tc_I G mb3 10 du, tc_I G mb4 10 sa, tc_D G mb5 10 le, tc_J G ob 1 oj]) [1, 2, 3, 4, 5, 6, 7, 8, 9, 10, 0] (by decide) rfl
      refine W.widen (k := 1) (n := 6) (Nat.le_of_ble_eq_true rfl) (Nat.le_of_ble_eq_true rfl) (vx_ret ?_)
      exact W.iret (v := 1) hx hb hr (fun t ht hW => ⟨⟨1, (ln, ow, gr, we, du, sa, le, oj), rfl, by unfold f_L_lot; all_goals (rw [← hw_2]); all_goals (dsimp only); all_goals rfl, by rw [ht]; exact hP9, hD9⟩, hS.F ht⟩) hS.2.2 dL_lot_20
    · refine vx_catch (name := "java/lang/IllegalStateException") (E := "java/lang/IllegalStateException") hown [{ startPc := 0, endPc := 14, handlerPc := 17, catchType := 13 }] { startPc := 0, endPc := 14, handlerPc := 21, catchType := 22 } [] (by rw [htab]; rfl) (fun z hz => by rw [List.mem_singleton.mp hz]; exact Or.inr ⟨by decide, "java/lang/IllegalArgumentException", (hts (.classLink RL 13 "java/lang/IllegalArgumentException") (List.mem_of_getElem? (i := 1) rfl)), hN.2.2.2.2.2.2.1 ("java/lang/IllegalStateException", "java/lang/IllegalArgumentException") (List.mem_of_getElem? (i := 0) rfl)⟩) (by decide) (by decide) (hts (.classLink RL 22 "java/lang/IllegalStateException") (List.mem_of_getElem? (i := 2) rfl)) (va_Nw.use rfl (hN.2.1 ("java/lang/IllegalStateException", "java/lang/IllegalStateException") (List.mem_of_getElem? (i := 1) rfl))) hce hcv hcl ?_
      show W p l e _ s m _ below meth c H locs 1 6 _ (F0 m 21 ls [.ref q9])
      refine lv_astore (lv' := [(6, .ref q9), (0, .ref a0), (1, .int p1), (2, .int p2), (3, .int p3), (4, .int p4), (5, .ref ob)]) hx hb dL_lot_21 hl (by decide) rfl (fun ls hl => ?_)
      refine lv_iconst (v := 2) hx hb dL_lot_23 (by decide) ?_
      have hP9 := hP.sub (ws' := [tc_X5 a0 ma0 ta0 lk rf pu to, tc_X1 ma0 ma1 ma2 ma3 ma4 fh lh ee, tc_X4 ma1 tk mo su, tc_X0 ma3 mb0 mb1 mb2 mb3 mb4 mb5 ln, tc_I G mb0 10 ow, tc_I G mb1 10 gr, tc_I G mb2 10 we, tc_I G mb3 10 du, tc_I G mb4 10 sa, tc_D G mb5 10 le, tc_J G ob 1 oj]) [1, 2, 3, 4, 5, 6, 7, 8, 9, 10, 0] rfl
      have hD9 := hD.sub (ws' := [tc_X5 a0 ma0 ta0 lk rf pu to, tc_X1 ma0 ma1 ma2 ma3 ma4 fh lh ee, tc_X4 ma1 tk mo su, tc_X0 ma3 mb0 mb1 mb2 mb3 mb4 mb5 ln, tc_I G mb0 10 ow, tc_I G mb1 10 gr, tc_I G mb2 10 we, tc_I G mb3 10 du, tc_I G mb4 10 sa, tc_D G mb5 10 le, tc_J G ob 1 oj]) [1, 2, 3, 4, 5, 6, 7, 8, 9, 10, 0] (by decide) rfl
      refine W.widen (k := 1) (n := 6) (Nat.le_of_ble_eq_true rfl) (Nat.le_of_ble_eq_true rfl) (vx_ret ?_)
      exact W.iret (v := 2) hx hb hr (fun t ht hW => ⟨⟨2, (ln, ow, gr, we, du, sa, le, oj), rfl, by unfold f_L_lot; all_goals (rw [← hw_2]); all_goals (dsimp only); all_goals rfl, by rw [ht]; exact hP9, hD9⟩, hS.F ht⟩) hS.2.2 dL_lot_24
  · obtain ⟨u_3, u_4, u_5, u_6, u_7, u_8, u_9⟩ := u
    obtain ⟨hP1, hD1⟩ := hB
    rw [ht] at hP1
    try dsimp only at hw_2
    obtain ⟨hP, hD⟩ := va_join (wr := [tc_J G ob 1 oj]) (w1 := [tc_X5 a0 ma0 ta0 lk rf pu to, tc_X1 ma0 ma1 ma2 ma3 ma4 fh lh ee, tc_X4 ma1 tk mo su, tc_X0 ma3 mb0 mb1 mb2 mb3 mb4 mb5 u_3, tc_I G mb0 10 u_4, tc_I G mb1 10 u_5, tc_I G mb2 10 u_6, tc_I G mb3 10 u_7, tc_I G mb4 10 u_8, tc_D G mb5 10 u_9]) hP hD [0, 1, 2, 3, 4, 5, 6, 7, 8, 9] [10] rfl rfl (by decide) (by decide) hk1 hFc hP1 hD1
    have hP : va_P G.1 vwCl [tc_J G ob 1 oj, tc_X5 a0 ma0 ta0 lk rf pu to, tc_X1 ma0 ma1 ma2 ma3 ma4 fh lh ee, tc_X4 ma1 tk mo su, tc_X0 ma3 mb0 mb1 mb2 mb3 mb4 mb5 u_3, tc_I G mb0 10 u_4, tc_I G mb1 10 u_5, tc_I G mb2 10 u_6, tc_I G mb3 10 u_7, tc_I G mb4 10 u_8, tc_D G mb5 10 u_9] H := hP
    have hD : va_D A [tc_J G ob 1 oj, tc_X5 a0 ma0 ta0 lk rf pu to, tc_X1 ma0 ma1 ma2 ma3 ma4 fh lh ee, tc_X4 ma1 tk mo su, tc_X0 ma3 mb0 mb1 mb2 mb3 mb4 mb5 u_3, tc_I G mb0 10 u_4, tc_I G mb1 10 u_5, tc_I G mb2 10 u_6, tc_I G mb3 10 u_7, tc_I G mb4 10 u_8, tc_D G mb5 10 u_9] := hD
    refine W.widen (k := 1) (n := 6) (Nat.le_of_ble_eq_true rfl) (Nat.le_of_ble_eq_true rfl) ?_
    refine lv_i2l (v := r_2.toInt64) hx hb dL_lot_12 rfl ?_
    refine va_last (n := 1) (f := oj) hx hb hK hP hD hS 0 5 rfl rfl (n_10 r_2 u_3 u_4 u_5 u_6 u_7 u_8 u_9 hw_2) dL_lot_13 (fun H locs hP hD hS => ?_)
    have hP : va_P G.1 vwCl [tc_J G ob 1 (vp_updL oj (0 : Int32).toNatClampNeg r_2.toInt64), tc_X5 a0 ma0 ta0 lk rf pu to, tc_X1 ma0 ma1 ma2 ma3 ma4 fh lh ee, tc_X4 ma1 tk mo su, tc_X0 ma3 mb0 mb1 mb2 mb3 mb4 mb5 u_3, tc_I G mb0 10 u_4, tc_I G mb1 10 u_5, tc_I G mb2 10 u_6, tc_I G mb3 10 u_7, tc_I G mb4 10 u_8, tc_D G mb5 10 u_9] H := hP
    have hD : va_D A [tc_J G ob 1 (vp_updL oj (0 : Int32).toNatClampNeg r_2.toInt64), tc_X5 a0 ma0 ta0 lk rf pu to, tc_X1 ma0 ma1 ma2 ma3 ma4 fh lh ee, tc_X4 ma1 tk mo su, tc_X0 ma3 mb0 mb1 mb2 mb3 mb4 mb5 u_3, tc_I G mb0 10 u_4, tc_I G mb1 10 u_5, tc_I G mb2 10 u_6, tc_I G mb3 10 u_7, tc_I G mb4 10 u_8, tc_D G mb5 10 u_9] := hD
    refine lv_goto (tgt := 25) hx hb dL_lot_14 (by decide) ?_
    refine lv_iconst (v := 0) hx hb dL_lot_25 (by decide) ?_
    have hP9 := hP.sub (ws' := [tc_X5 a0 ma0 ta0 lk rf pu to, tc_X1 ma0 ma1 ma2 ma3 ma4 fh lh ee, tc_X4 ma1 tk mo su, tc_X0 ma3 mb0 mb1 mb2 mb3 mb4 mb5 u_3, tc_I G mb0 10 u_4, tc_I G mb1 10 u_5, tc_I G mb2 10 u_6, tc_I G mb3 10 u_7, tc_I G mb4 10 u_8, tc_D G mb5 10 u_9, tc_J G ob 1 (vp_updL oj (0 : Int32).toNatClampNeg r_2.toInt64)]) [1, 2, 3, 4, 5, 6, 7, 8, 9, 10, 0] rfl
    have hD9 := hD.sub (ws' := [tc_X5 a0 ma0 ta0 lk rf pu to, tc_X1 ma0 ma1 ma2 ma3 ma4 fh lh ee, tc_X4 ma1 tk mo su, tc_X0 ma3 mb0 mb1 mb2 mb3 mb4 mb5 u_3, tc_I G mb0 10 u_4, tc_I G mb1 10 u_5, tc_I G mb2 10 u_6, tc_I G mb3 10 u_7, tc_I G mb4 10 u_8, tc_D G mb5 10 u_9, tc_J G ob 1 (vp_updL oj (0 : Int32).toNatClampNeg r_2.toInt64)]) [1, 2, 3, 4, 5, 6, 7, 8, 9, 10, 0] (by decide) rfl
    refine W.widen (k := 1) (n := 6) (Nat.le_of_ble_eq_true rfl) (Nat.le_of_ble_eq_true rfl) (vx_ret ?_)
    exact W.iret (v := 0) hx hb hr (fun t ht hW => ⟨⟨0, (u_3, u_4, u_5, u_6, u_7, u_8, u_9, vp_updL oj (0 : Int32).toNatClampNeg r_2.toInt64), rfl, by unfold f_L_lot; all_goals (rw [← hw_2]); all_goals (dsimp only); all_goals rfl, by rw [ht]; exact hP9, hD9⟩, hS.F ht⟩) hS.2.2 dL_lot_26
theorem x_X5_feed {ln : Int32} {sa : Nat → Int32} {pn : Int32} {pl : Nat → Int32} {dr : Nat → Int32} {p1 : Int32} {p2 : Int32} {k : Nat} (h : (Sum.inr k : (Int32 × (Nat → Int32) × (Nat → Int32)) ⊕ Nat) = f_X5_feed ln sa pn pl dr p1 p2) : k = 1 ∨ k = 2 := by
  unfold f_X5_feed at h
  repeat' split at h
  all_goals first | (cases h; done) | (cases h; simp)
def f_L_feed (ln : Int32) (sa : Nat → Int32) (pn : Int32) (pl : Nat → Int32) (dr : Nat → Int32) (oj : Nat → Int64) (p1 : Int32) (p2 : Int32) : Int32 × (Nat → Int32) × (Nat → Int32) × (Nat → Int64) :=
  (match f_X5_feed ln sa pn pl dr p1 p2 with | .inl (r_2, u_3, u_4) => (0, u_3, u_4, vp_updL oj (0 : Int32).toNatClampNeg r_2.toInt64) | .inr k9 => if k9 = 1 then (2, sa, pl, oj) else ((1, sa, pl, oj)))
def n_L_feed (ln : Int32) (sa : Nat → Int32) (pn : Int32) (pl : Nat → Int32) (dr : Nat → Int32) (p1 : Int32) (p2 : Int32) : Prop :=
  (n_X5_feed ln sa pn pl dr p1 p2) ∧
  (∀ (r_2 : Int32) (u_3 : Nat → Int32) (u_4 : Nat → Int32), (Sum.inl (r_2, u_3, u_4) : (Int32 × (Nat → Int32) × (Nat → Int32)) ⊕ Nat) = f_X5_feed ln sa pn pl dr p1 p2 → vp_in 0 1)
set_option maxHeartbeats 4000000 in
set_option maxRecDepth 100000 in
theorem c_L_feed (l : Launch) (G : tm_G) (a0 : Nat) (ma0 : Nat) (ta0 : Nat) (ma1 : Nat) (ma2 : Nat) (ma3 : Nat) (ma4 : Nat) (mb0 : Nat) (mb1 : Nat) (mb2 : Nat) (mb3 : Nat) (mb4 : Nat) (mb5 : Nat) (md0 : Nat) (md1 : Nat) (md2 : Nat) (md3 : Nat) (ob : Nat) (sz : Nat) (lk : Int32) (rf : Int32) (pu : Int32) (to : UInt64) (fh : Int32) (lh : Int32) (ee : Int32) (ln : Int32) (ow : Nat → Int32) (gr : Nat → Int32) (we : Nat → Int32) (du : Nat → Int32) (sa : Nat → Int32) (le : Nat → UInt64) (pn : Int32) (dl : Nat → UInt32) (pl : Nat → Int32) (dr : Nat → Int32) (sp : Nat → Int32) (oj : Nat → Int64) (p1 : Int32) (p2 : Int32) (hn : n_L_feed ln sa pn pl dr p1 p2) (hlt : l.stackTraces = false) : Met l yL_feed wsL_feed ({ frames := 7, cells := 1, slots := 6, locals := 118 }) (va_Pc [.ref a0, .int p1, .int p2, .ref ob] (tm_B G [tc_X5 a0 ma0 ta0 lk rf pu to, tc_X1 ma0 ma1 ma2 ma3 ma4 fh lh ee, tc_X0 ma3 mb0 mb1 mb2 mb3 mb4 mb5 ln, tc_I G mb0 10 ow, tc_I G mb1 10 gr, tc_I G mb2 10 we, tc_I G mb3 10 du, tc_I G mb4 10 sa, tc_D G mb5 10 le, tc_X2 ma4 md0 md1 md2 md3 pn, tc_F G md0 3 dl, tc_I G md1 3 pl, tc_I G md2 3 dr, tc_I G md3 3 sp, tc_J G ob 1 oj] sz)) (va_Qi (fun (r : Int32) (u : (Nat → Int32) × (Nat → Int32) × (Nat → Int64)) => (r, u) = f_L_feed ln sa pn pl dr oj p1 p2) (fun (u : (Nat → Int32) × (Nat → Int32) × (Nat → Int64)) (t : State) => va_P G.1 vwCl [tc_X5 a0 ma0 ta0 lk rf pu to, tc_X1 ma0 ma1 ma2 ma3 ma4 fh lh ee, tc_X0 ma3 mb0 mb1 mb2 mb3 mb4 mb5 ln, tc_I G mb0 10 ow, tc_I G mb1 10 gr, tc_I G mb2 10 we, tc_I G mb3 10 du, tc_I G mb4 10 u.1, tc_D G mb5 10 le, tc_X2 ma4 md0 md1 md2 md3 pn, tc_F G md0 3 dl, tc_I G md1 3 u.2.1, tc_I G md2 3 dr, tc_I G md3 3 sp, tc_J G ob 1 u.2.2] t.heap ∧ va_D (va_A [tc_X5 a0 ma0 ta0 lk rf pu to, tc_X1 ma0 ma1 ma2 ma3 ma4 fh lh ee, tc_X0 ma3 mb0 mb1 mb2 mb3 mb4 mb5 ln, tc_I G mb0 10 ow, tc_I G mb1 10 gr, tc_I G mb2 10 we, tc_I G mb3 10 du, tc_I G mb4 10 sa, tc_D G mb5 10 le, tc_X2 ma4 md0 md1 md2 md3 pn, tc_F G md0 3 dl, tc_I G md1 3 pl, tc_I G md2 3 dr, tc_I G md3 3 sp, tc_J G ob 1 oj] sz) [tc_X5 a0 ma0 ta0 lk rf pu to, tc_X1 ma0 ma1 ma2 ma3 ma4 fh lh ee, tc_X0 ma3 mb0 mb1 mb2 mb3 mb4 mb5 ln, tc_I G mb0 10 ow, tc_I G mb1 10 gr, tc_I G mb2 10 we, tc_I G mb3 10 du, tc_I G mb4 10 u.1, tc_D G mb5 10 le, tc_X2 ma4 md0 md1 md2 md3 pn, tc_F G md0 3 dl, tc_I G md1 3 u.2.1, tc_I G md2 3 dr, tc_I G md3 3 sp, tc_J G ob 1 u.2.2]) (va_A [tc_X5 a0 ma0 ta0 lk rf pu to, tc_X1 ma0 ma1 ma2 ma3 ma4 fh lh ee, tc_X0 ma3 mb0 mb1 mb2 mb3 mb4 mb5 ln, tc_I G mb0 10 ow, tc_I G mb1 10 gr, tc_I G mb2 10 we, tc_I G mb3 10 du, tc_I G mb4 10 sa, tc_D G mb5 10 le, tc_X2 ma4 md0 md1 md2 md3 pn, tc_F G md0 3 dl, tc_I G md1 3 pl, tc_I G md2 3 dr, tc_I G md3 3 sp, tc_J G ob 1 oj] sz)) 1 6 (va_A [tc_X5 a0 ma0 ta0 lk rf pu to, tc_X1 ma0 ma1 ma2 ma3 ma4 fh lh ee, tc_X0 ma3 mb0 mb1 mb2 mb3 mb4 mb5 ln, tc_I G mb0 10 ow, tc_I G mb1 10 gr, tc_I G mb2 10 we, tc_I G mb3 10 du, tc_I G mb4 10 sa, tc_D G mb5 10 le, tc_X2 ma4 md0 md1 md2 md3 pn, tc_F G md0 3 dl, tc_I G md1 3 pl, tc_I G md2 3 dr, tc_I G md3 3 sp, tc_J G ob 1 oj] sz) := by
  refine tm_metOf ?_
  refine vx_ofWH (cc := cL_feed) (maxL := 5) (ret := (some .int)) (hh :=  [(0, 10, 13, 43), (0, 10, 17, 22)]) (by decide) rfl ?_
  intro p e s m args below meth c s₁ B hml hv
  obtain ⟨rfl, hsz, hP, hK, hD0, hN, hV⟩ := hv
  have hx := B.exec
  have hb := B.bytes
  have hr := B.returns
  have hts := atoms_spec (ws := wsL_feed) B.pre
  have htab : c.exceptionTable.toList = tableOf  [(0, 10, 13, 43), (0, 10, 17, 22)] := vx_table (x := yL_feed) B (atoms_spec (ws := wsL_feed) B.pre _ (List.mem_of_getElem? (i := 0) rfl))
  have hown : s.vm.findClass RL = some m.cls := findClass_of_methodNamed B.named
  have hlocks := B.notSynchronized
  subst hsz
  obtain ⟨n_1, n_5⟩ := hn
  have hD := hD0.self (sz := s.heap.size)
  generalize hAe : va_A [tc_X5 a0 ma0 ta0 lk rf pu to, tc_X1 ma0 ma1 ma2 ma3 ma4 fh lh ee, tc_X0 ma3 mb0 mb1 mb2 mb3 mb4 mb5 ln, tc_I G mb0 10 ow, tc_I G mb1 10 gr, tc_I G mb2 10 we, tc_I G mb3 10 du, tc_I G mb4 10 sa, tc_D G mb5 10 le, tc_X2 ma4 md0 md1 md2 md3 pn, tc_F G md0 3 dl, tc_I G md1 3 pl, tc_I G md2 3 dr, tc_I G md3 3 sp, tc_J G ob 1 oj] s.heap.size = A at hD hV ⊢
  have hA : ∀ q : Nat, s.heap.size ≤ q → A q := fun q h => by rw [← hAe]; exact Or.inr h
  have hS : va_S A s.heap s.heap [] := va_S.rf
  have hl := lv_entry ([.ref a0, .int p1, .int p2, .ref ob]) (n := 5) (Nat.le_of_ble_eq_true rfl)
  rw [lg_entry_eq]
  generalize (lg_sl ([.ref a0, .int p1, .int p2, .ref ob]) ++ List.replicate (5 - (lg_sl ([.ref a0, .int p1, .int p2, .ref ob])).length) Slot.unset).toArray = ls at hl ⊢
  have hl : lv_has ls 5 [(0, .ref a0), (1, .int p1), (2, .int p2), (3, .ref ob)] := hl
  refine lv_aload_n hx hb dL_feed_0 rfl (lv_at hl 3 rfl) ?_
  refine lv_iconst (v := 0) hx hb dL_feed_1 (by decide) ?_
  refine lv_aload_n hx hb dL_feed_2 rfl (lv_at hl 0 rfl) ?_
  refine lv_iload_n hx hb dL_feed_3 rfl (lv_at hl 1 rfl) ?_
  refine lv_iload_n hx hb dL_feed_4 rfl (lv_at hl 2 rfl) ?_
  have hPc := hP.sub (ws' := [tc_X5 a0 ma0 ta0 lk rf pu to, tc_X1 ma0 ma1 ma2 ma3 ma4 fh lh ee, tc_X0 ma3 mb0 mb1 mb2 mb3 mb4 mb5 ln, tc_I G mb0 10 ow, tc_I G mb1 10 gr, tc_I G mb2 10 we, tc_I G mb3 10 du, tc_I G mb4 10 sa, tc_D G mb5 10 le, tc_X2 ma4 md0 md1 md2 md3 pn, tc_F G md0 3 dl, tc_I G md1 3 pl, tc_I G md2 3 dr, tc_I G md3 3 sp]) [0, 1, 2, 3, 4, 5, 6, 7, 8, 9, 10, 11, 12, 13] rfl
  have hDc := hD.sub (ws' := [tc_X5 a0 ma0 ta0 lk rf pu to, tc_X1 ma0 ma1 ma2 ma3 ma4 fh lh ee, tc_X0 ma3 mb0 mb1 mb2 mb3 mb4 mb5 ln, tc_I G mb0 10 ow, tc_I G mb1 10 gr, tc_I G mb2 10 we, tc_I G mb3 10 du, tc_I G mb4 10 sa, tc_D G mb5 10 le, tc_X2 ma4 md0 md1 md2 md3 pn, tc_F G md0 3 dl, tc_I G md1 3 pl, tc_I G md2 3 dr, tc_I G md3 3 sp]) [0, 1, 2, 3, 4, 5, 6, 7, 8, 9, 10, 11, 12, 13] (by decide) rfl
  have hFc := va_free (wc := [tc_X5 a0 ma0 ta0 lk rf pu to, tc_X1 ma0 ma1 ma2 ma3 ma4 fh lh ee, tc_X0 ma3 mb0 mb1 mb2 mb3 mb4 mb5 ln, tc_I G mb0 10 ow, tc_I G mb1 10 gr, tc_I G mb2 10 we, tc_I G mb3 10 du, tc_I G mb4 10 sa, tc_D G mb5 10 le, tc_X2 ma4 md0 md1 md2 md3 pn, tc_F G md0 3 dl, tc_I G md1 3 pl, tc_I G md2 3 dr, tc_I G md3 3 sp]) hD hS hA [0, 1, 2, 3, 4, 5, 6, 7, 8, 9, 10, 11, 12, 13] rfl
  refine vx_calli (vx_runV (As := [.int p1, .int p2]) (rest := [.int 0, .ref ob]) ⟨hx, hb, hml, hown, hts⟩ (c_X5_feed l G a0 ma0 ta0 ma1 ma2 ma3 ma4 mb0 mb1 mb2 mb3 mb4 mb5 md0 md1 md2 md3 s.heap.size lk rf pu to fh lh ee ln ow gr we du sa le pn dl pl dr sp p1 p2 n_1 hlt) (cwV 2 hts gL_feed_X5_feed rfl rfl rfl (by decide +kernel) ⟨(Nat.le_of_ble_eq_true rfl), (Nat.le_of_ble_eq_true rfl)⟩) (tm_preV hK hN hV hS hPc hDc hFc (va_recv hK hPc (ci := 6) (q0 := 0) rfl rfl)) rfl rfl hl.1 rfl (lv_room (Nat.le_of_ble_eq_true rfl)) dL_feed_5 ⟨(Nat.le_of_ble_eq_true rfl), (Nat.le_of_ble_eq_true rfl)⟩) hS (fun q _ h => hFc q h) hFc (fun q _ h => hFc q h) (fun E9 ce9 q9 k9 st9 H locs ht hvm hw_2 hB hz1 hk1 hS hce hcv hcl => ?_) (fun r_2 u st9 H locs ht hvm hw_2 hB hz1 hk1 hS => ?_)
  · obtain ⟨rfl, hP1, hD1⟩ := hB
    rw [ht] at hP1
    obtain ⟨hP, hD⟩ := va_join (wr := [tc_J G ob 1 oj]) (w1 := [tc_X5 a0 ma0 ta0 lk rf pu to, tc_X1 ma0 ma1 ma2 ma3 ma4 fh lh ee, tc_X0 ma3 mb0 mb1 mb2 mb3 mb4 mb5 ln, tc_I G mb0 10 ow, tc_I G mb1 10 gr, tc_I G mb2 10 we, tc_I G mb3 10 du, tc_I G mb4 10 sa, tc_D G mb5 10 le, tc_X2 ma4 md0 md1 md2 md3 pn, tc_F G md0 3 dl, tc_I G md1 3 pl, tc_I G md2 3 dr, tc_I G md3 3 sp]) hP hD [0, 1, 2, 3, 4, 5, 6, 7, 8, 9, 10, 11, 12, 13] [14] rfl rfl (by decide) (by decide) hk1 hFc hP1 hD1
    have hP : va_P G.1 vwCl [tc_J G ob 1 oj, tc_X5 a0 ma0 ta0 lk rf pu to, tc_X1 ma0 ma1 ma2 ma3 ma4 fh lh ee, tc_X0 ma3 mb0 mb1 mb2 mb3 mb4 mb5 ln, tc_I G mb0 10 ow, tc_I G mb1 10 gr, tc_I G mb2 10 we, tc_I G mb3 10 du, tc_I G mb4 10 sa, tc_D G mb5 10 le, tc_X2 ma4 md0 md1 md2 md3 pn, tc_F G md0 3 dl, tc_I G md1 3 pl, tc_I G md2 3 dr, tc_I G md3 3 sp] H := hP
    have hD : va_D A [tc_J G ob 1 oj, tc_X5 a0 ma0 ta0 lk rf pu to, tc_X1 ma0 ma1 ma2 ma3 ma4 fh lh ee, tc_X0 ma3 mb0 mb1 mb2 mb3 mb4 mb5 ln, tc_I G mb0 10 ow, tc_I G mb1 10 gr, tc_I G mb2 10 we, tc_I G mb3 10 du, tc_I G mb4 10 sa, tc_D G mb5 10 le, tc_X2 ma4 md0 md1 md2 md3 pn, tc_F G md0 3 dl, tc_I G md1 3 pl, tc_I G md2 3 dr, tc_I G md3 3 sp] := hD
    rcases x_X5_feed hw_2 with rfl | rfl
    · refine vx_catch (name := "java/lang/IllegalStateException") (E := "java/lang/IllegalStateException") hown [{ startPc := 0, endPc := 10, handlerPc := 13, catchType := 43 }] { startPc := 0, endPc := 10, handlerPc := 17, catchType := 22 } [] (by rw [htab]; rfl) (fun z hz => by rw [List.mem_singleton.mp hz]; exact Or.inr ⟨by decide, "java/lang/IndexOutOfBoundsException", (hts (.classLink RL 43 "java/lang/IndexOutOfBoundsException") (List.mem_of_getElem? (i := 1) rfl)), hN.2.2.2.2.2.2.1 ("java/lang/IllegalStateException", "java/lang/IndexOutOfBoundsException") (List.mem_of_getElem? (i := 1) rfl)⟩) (by decide) (by decide) (hts (.classLink RL 22 "java/lang/IllegalStateException") (List.mem_of_getElem? (i := 2) rfl)) (va_Nw.use rfl (hN.2.1 ("java/lang/IllegalStateException", "java/lang/IllegalStateException") (List.mem_of_getElem? (i := 1) rfl))) hce hcv hcl ?_
      show W p l e _ s m _ below meth c H locs 1 6 _ (F0 m 17 ls [.ref q9])
      refine lv_astore (lv' := [(4, .ref q9), (0, .ref a0), (1, .int p1), (2, .int p2), (3, .ref ob)]) hx hb dL_feed_17 hl (by decide) rfl (fun ls hl => ?_)
      refine lv_iconst (v := 2) hx hb dL_feed_19 (by decide) ?_
      have hP9 := hP.sub (ws' := [tc_X5 a0 ma0 ta0 lk rf pu to, tc_X1 ma0 ma1 ma2 ma3 ma4 fh lh ee, tc_X0 ma3 mb0 mb1 mb2 mb3 mb4 mb5 ln, tc_I G mb0 10 ow, tc_I G mb1 10 gr, tc_I G mb2 10 we, tc_I G mb3 10 du, tc_I G mb4 10 sa, tc_D G mb5 10 le, tc_X2 ma4 md0 md1 md2 md3 pn, tc_F G md0 3 dl, tc_I G md1 3 pl, tc_I G md2 3 dr, tc_I G md3 3 sp, tc_J G ob 1 oj]) [1, 2, 3, 4, 5, 6, 7, 8, 9, 10, 11, 12, 13, 14, 0] rfl
      have hD9 := hD.sub (ws' := [tc_X5 a0 ma0 ta0 lk rf pu to, tc_X1 ma0 ma1 ma2 ma3 ma4 fh lh ee, tc_X0 ma3 mb0 mb1 mb2 mb3 mb4 mb5 ln, tc_I G mb0 10 ow, tc_I G mb1 10 gr, tc_I G mb2 10 we, tc_I G mb3 10 du, tc_I G mb4 10 sa, tc_D G mb5 10 le, tc_X2 ma4 md0 md1 md2 md3 pn, tc_F G md0 3 dl, tc_I G md1 3 pl, tc_I G md2 3 dr, tc_I G md3 3 sp, tc_J G ob 1 oj]) [1, 2, 3, 4, 5, 6, 7, 8, 9, 10, 11, 12, 13, 14, 0] (by decide) rfl
      refine W.widen (k := 1) (n := 6) (Nat.le_of_ble_eq_true rfl) (Nat.le_of_ble_eq_true rfl) (vx_ret ?_)
      exact W.iret (v := 2) hx hb hr (fun t ht hW => ⟨⟨2, (sa, pl, oj), rfl, by unfold f_L_feed; all_goals (rw [← hw_2]); all_goals (dsimp only); all_goals rfl, by rw [ht]; exact hP9, hD9⟩, hS.F ht⟩) hS.2.2 dL_feed_20
    · refine vx_catch (name := "java/lang/IndexOutOfBoundsException") (E := "java/lang/IndexOutOfBoundsException") hown [] { startPc := 0, endPc := 10, handlerPc := 13, catchType := 43 } [{ startPc := 0, endPc := 10, handlerPc := 17, catchType := 22 }] (by rw [htab]; rfl) (fun z hz => absurd hz List.not_mem_nil) (by decide) (by decide) (hts (.classLink RL 43 "java/lang/IndexOutOfBoundsException") (List.mem_of_getElem? (i := 1) rfl)) (va_Nw.use rfl (hN.2.1 ("java/lang/IndexOutOfBoundsException", "java/lang/IndexOutOfBoundsException") (List.mem_of_getElem? (i := 2) rfl))) hce hcv hcl ?_
      show W p l e _ s m _ below meth c H locs 1 6 _ (F0 m 13 ls [.ref q9])
      refine lv_astore (lv' := [(4, .ref q9), (0, .ref a0), (1, .int p1), (2, .int p2), (3, .ref ob)]) hx hb dL_feed_13 hl (by decide) rfl (fun ls hl => ?_)
      refine lv_iconst (v := 1) hx hb dL_feed_15 (by decide) ?_
      have hP9 := hP.sub (ws' := [tc_X5 a0 ma0 ta0 lk rf pu to, tc_X1 ma0 ma1 ma2 ma3 ma4 fh lh ee, tc_X0 ma3 mb0 mb1 mb2 mb3 mb4 mb5 ln, tc_I G mb0 10 ow, tc_I G mb1 10 gr, tc_I G mb2 10 we, tc_I G mb3 10 du, tc_I G mb4 10 sa, tc_D G mb5 10 le, tc_X2 ma4 md0 md1 md2 md3 pn, tc_F G md0 3 dl, tc_I G md1 3 pl, tc_I G md2 3 dr, tc_I G md3 3 sp, tc_J G ob 1 oj]) [1, 2, 3, 4, 5, 6, 7, 8, 9, 10, 11, 12, 13, 14, 0] rfl
      have hD9 := hD.sub (ws' := [tc_X5 a0 ma0 ta0 lk rf pu to, tc_X1 ma0 ma1 ma2 ma3 ma4 fh lh ee, tc_X0 ma3 mb0 mb1 mb2 mb3 mb4 mb5 ln, tc_I G mb0 10 ow, tc_I G mb1 10 gr, tc_I G mb2 10 we, tc_I G mb3 10 du, tc_I G mb4 10 sa, tc_D G mb5 10 le, tc_X2 ma4 md0 md1 md2 md3 pn, tc_F G md0 3 dl, tc_I G md1 3 pl, tc_I G md2 3 dr, tc_I G md3 3 sp, tc_J G ob 1 oj]) [1, 2, 3, 4, 5, 6, 7, 8, 9, 10, 11, 12, 13, 14, 0] (by decide) rfl
      refine W.widen (k := 1) (n := 6) (Nat.le_of_ble_eq_true rfl) (Nat.le_of_ble_eq_true rfl) (vx_ret ?_)
      exact W.iret (v := 1) hx hb hr (fun t ht hW => ⟨⟨1, (sa, pl, oj), rfl, by unfold f_L_feed; all_goals (rw [← hw_2]); all_goals (dsimp only); all_goals rfl, by rw [ht]; exact hP9, hD9⟩, hS.F ht⟩) hS.2.2 dL_feed_16
  · obtain ⟨u_3, u_4⟩ := u
    obtain ⟨hP1, hD1⟩ := hB
    rw [ht] at hP1
    try dsimp only at hw_2
    obtain ⟨hP, hD⟩ := va_join (wr := [tc_J G ob 1 oj]) (w1 := [tc_X5 a0 ma0 ta0 lk rf pu to, tc_X1 ma0 ma1 ma2 ma3 ma4 fh lh ee, tc_X0 ma3 mb0 mb1 mb2 mb3 mb4 mb5 ln, tc_I G mb0 10 ow, tc_I G mb1 10 gr, tc_I G mb2 10 we, tc_I G mb3 10 du, tc_I G mb4 10 u_3, tc_D G mb5 10 le, tc_X2 ma4 md0 md1 md2 md3 pn, tc_F G md0 3 dl, tc_I G md1 3 u_4, tc_I G md2 3 dr, tc_I G md3 3 sp]) hP hD [0, 1, 2, 3, 4, 5, 6, 7, 8, 9, 10, 11, 12, 13] [14] rfl rfl (by decide) (by decide) hk1 hFc hP1 hD1
    have hP : va_P G.1 vwCl [tc_J G ob 1 oj, tc_X5 a0 ma0 ta0 lk rf pu to, tc_X1 ma0 ma1 ma2 ma3 ma4 fh lh ee, tc_X0 ma3 mb0 mb1 mb2 mb3 mb4 mb5 ln, tc_I G mb0 10 ow, tc_I G mb1 10 gr, tc_I G mb2 10 we, tc_I G mb3 10 du, tc_I G mb4 10 u_3, tc_D G mb5 10 le, tc_X2 ma4 md0 md1 md2 md3 pn, tc_F G md0 3 dl, tc_I G md1 3 u_4, tc_I G md2 3 dr, tc_I G md3 3 sp] H := hP
    have hD : va_D A [tc_J G ob 1 oj, tc_X5 a0 ma0 ta0 lk rf pu to, tc_X1 ma0 ma1 ma2 ma3 ma4 fh lh ee, tc_X0 ma3 mb0 mb1 mb2 mb3 mb4 mb5 ln, tc_I G mb0 10 ow, tc_I G mb1 10 gr, tc_I G mb2 10 we, tc_I G mb3 10 du, tc_I G mb4 10 u_3, tc_D G mb5 10 le, tc_X2 ma4 md0 md1 md2 md3 pn, tc_F G md0 3 dl, tc_I G md1 3 u_4, tc_I G md2 3 dr, tc_I G md3 3 sp] := hD
    refine W.widen (k := 1) (n := 6) (Nat.le_of_ble_eq_true rfl) (Nat.le_of_ble_eq_true rfl) ?_
    refine lv_i2l (v := r_2.toInt64) hx hb dL_feed_8 rfl ?_
    refine va_last (n := 1) (f := oj) hx hb hK hP hD hS 0 5 rfl rfl (n_5 r_2 u_3 u_4 hw_2) dL_feed_9 (fun H locs hP hD hS => ?_)
    have hP : va_P G.1 vwCl [tc_J G ob 1 (vp_updL oj (0 : Int32).toNatClampNeg r_2.toInt64), tc_X5 a0 ma0 ta0 lk rf pu to, tc_X1 ma0 ma1 ma2 ma3 ma4 fh lh ee, tc_X0 ma3 mb0 mb1 mb2 mb3 mb4 mb5 ln, tc_I G mb0 10 ow, tc_I G mb1 10 gr, tc_I G mb2 10 we, tc_I G mb3 10 du, tc_I G mb4 10 u_3, tc_D G mb5 10 le, tc_X2 ma4 md0 md1 md2 md3 pn, tc_F G md0 3 dl, tc_I G md1 3 u_4, tc_I G md2 3 dr, tc_I G md3 3 sp] H := hP
    have hD : va_D A [tc_J G ob 1 (vp_updL oj (0 : Int32).toNatClampNeg r_2.toInt64), tc_X5 a0 ma0 ta0 lk rf pu to, tc_X1 ma0 ma1 ma2 ma3 ma4 fh lh ee, tc_X0 ma3 mb0 mb1 mb2 mb3 mb4 mb5 ln, tc_I G mb0 10 ow, tc_I G mb1 10 gr, tc_I G mb2 10 we, tc_I G mb3 10 du, tc_I G mb4 10 u_3, tc_D G mb5 10 le, tc_X2 ma4 md0 md1 md2 md3 pn, tc_F G md0 3 dl, tc_I G md1 3 u_4, tc_I G md2 3 dr, tc_I G md3 3 sp] := hD
    refine lv_goto (tgt := 21) hx hb dL_feed_10 (by decide) ?_
    refine lv_iconst (v := 0) hx hb dL_feed_21 (by decide) ?_
    have hP9 := hP.sub (ws' := [tc_X5 a0 ma0 ta0 lk rf pu to, tc_X1 ma0 ma1 ma2 ma3 ma4 fh lh ee, tc_X0 ma3 mb0 mb1 mb2 mb3 mb4 mb5 ln, tc_I G mb0 10 ow, tc_I G mb1 10 gr, tc_I G mb2 10 we, tc_I G mb3 10 du, tc_I G mb4 10 u_3, tc_D G mb5 10 le, tc_X2 ma4 md0 md1 md2 md3 pn, tc_F G md0 3 dl, tc_I G md1 3 u_4, tc_I G md2 3 dr, tc_I G md3 3 sp, tc_J G ob 1 (vp_updL oj (0 : Int32).toNatClampNeg r_2.toInt64)]) [1, 2, 3, 4, 5, 6, 7, 8, 9, 10, 11, 12, 13, 14, 0] rfl
    have hD9 := hD.sub (ws' := [tc_X5 a0 ma0 ta0 lk rf pu to, tc_X1 ma0 ma1 ma2 ma3 ma4 fh lh ee, tc_X0 ma3 mb0 mb1 mb2 mb3 mb4 mb5 ln, tc_I G mb0 10 ow, tc_I G mb1 10 gr, tc_I G mb2 10 we, tc_I G mb3 10 du, tc_I G mb4 10 u_3, tc_D G mb5 10 le, tc_X2 ma4 md0 md1 md2 md3 pn, tc_F G md0 3 dl, tc_I G md1 3 u_4, tc_I G md2 3 dr, tc_I G md3 3 sp, tc_J G ob 1 (vp_updL oj (0 : Int32).toNatClampNeg r_2.toInt64)]) [1, 2, 3, 4, 5, 6, 7, 8, 9, 10, 11, 12, 13, 14, 0] (by decide) rfl
    refine W.widen (k := 1) (n := 6) (Nat.le_of_ble_eq_true rfl) (Nat.le_of_ble_eq_true rfl) (vx_ret ?_)
    exact W.iret (v := 0) hx hb hr (fun t ht hW => ⟨⟨0, (u_3, u_4, vp_updL oj (0 : Int32).toNatClampNeg r_2.toInt64), rfl, by unfold f_L_feed; all_goals (rw [← hw_2]); all_goals (dsimp only); all_goals rfl, by rw [ht]; exact hP9, hD9⟩, hS.F ht⟩) hS.2.2 dL_feed_22
theorem x_X5_take {ln : Int32} {sa : Nat → Int32} {pn : Int32} {pl : Nat → Int32} {p1 : Int32} {k : Nat} (h : (Sum.inr k : (Int32 × (Nat → Int32) × (Nat → Int32)) ⊕ Nat) = f_X5_take ln sa pn pl p1) : k = 1 ∨ k = 2 := by
  unfold f_X5_take at h
  repeat' split at h
  all_goals first | (cases h; done) | (cases h; simp)
def f_L_take (ln : Int32) (sa : Nat → Int32) (pn : Int32) (pl : Nat → Int32) (oj : Nat → Int64) (p1 : Int32) : Int32 × (Nat → Int32) × (Nat → Int32) × (Nat → Int64) :=
  (match f_X5_take ln sa pn pl p1 with | .inl (r_2, u_3, u_4) => (0, u_3, u_4, vp_updL oj (0 : Int32).toNatClampNeg r_2.toInt64) | .inr k9 => if k9 = 1 then (2, sa, pl, oj) else ((1, sa, pl, oj)))
def n_L_take (ln : Int32) (sa : Nat → Int32) (pn : Int32) (pl : Nat → Int32) (p1 : Int32) : Prop :=
  (n_X5_take ln pn pl p1) ∧
  (∀ (r_2 : Int32) (u_3 : Nat → Int32) (u_4 : Nat → Int32), (Sum.inl (r_2, u_3, u_4) : (Int32 × (Nat → Int32) × (Nat → Int32)) ⊕ Nat) = f_X5_take ln sa pn pl p1 → vp_in 0 1)
set_option maxHeartbeats 4000000 in
set_option maxRecDepth 100000 in
theorem c_L_take (l : Launch) (G : tm_G) (a0 : Nat) (ma0 : Nat) (ta0 : Nat) (ma1 : Nat) (ma2 : Nat) (ma3 : Nat) (ma4 : Nat) (mb0 : Nat) (mb1 : Nat) (mb2 : Nat) (mb3 : Nat) (mb4 : Nat) (mb5 : Nat) (md0 : Nat) (md1 : Nat) (md2 : Nat) (md3 : Nat) (ob : Nat) (sz : Nat) (lk : Int32) (rf : Int32) (pu : Int32) (to : UInt64) (fh : Int32) (lh : Int32) (ee : Int32) (ln : Int32) (ow : Nat → Int32) (gr : Nat → Int32) (we : Nat → Int32) (du : Nat → Int32) (sa : Nat → Int32) (le : Nat → UInt64) (pn : Int32) (dl : Nat → UInt32) (pl : Nat → Int32) (dr : Nat → Int32) (sp : Nat → Int32) (oj : Nat → Int64) (p1 : Int32) (hn : n_L_take ln sa pn pl p1) (hlt : l.stackTraces = false) : Met l yL_take wsL_take ({ frames := 7, cells := 1, slots := 6, locals := 118 }) (va_Pc [.ref a0, .int p1, .ref ob] (tm_B G [tc_X5 a0 ma0 ta0 lk rf pu to, tc_X1 ma0 ma1 ma2 ma3 ma4 fh lh ee, tc_X0 ma3 mb0 mb1 mb2 mb3 mb4 mb5 ln, tc_I G mb0 10 ow, tc_I G mb1 10 gr, tc_I G mb2 10 we, tc_I G mb3 10 du, tc_I G mb4 10 sa, tc_D G mb5 10 le, tc_X2 ma4 md0 md1 md2 md3 pn, tc_F G md0 3 dl, tc_I G md1 3 pl, tc_I G md2 3 dr, tc_I G md3 3 sp, tc_J G ob 1 oj] sz)) (va_Qi (fun (r : Int32) (u : (Nat → Int32) × (Nat → Int32) × (Nat → Int64)) => (r, u) = f_L_take ln sa pn pl oj p1) (fun (u : (Nat → Int32) × (Nat → Int32) × (Nat → Int64)) (t : State) => va_P G.1 vwCl [tc_X5 a0 ma0 ta0 lk rf pu to, tc_X1 ma0 ma1 ma2 ma3 ma4 fh lh ee, tc_X0 ma3 mb0 mb1 mb2 mb3 mb4 mb5 ln, tc_I G mb0 10 ow, tc_I G mb1 10 gr, tc_I G mb2 10 we, tc_I G mb3 10 du, tc_I G mb4 10 u.1, tc_D G mb5 10 le, tc_X2 ma4 md0 md1 md2 md3 pn, tc_F G md0 3 dl, tc_I G md1 3 u.2.1, tc_I G md2 3 dr, tc_I G md3 3 sp, tc_J G ob 1 u.2.2] t.heap ∧ va_D (va_A [tc_X5 a0 ma0 ta0 lk rf pu to, tc_X1 ma0 ma1 ma2 ma3 ma4 fh lh ee, tc_X0 ma3 mb0 mb1 mb2 mb3 mb4 mb5 ln, tc_I G mb0 10 ow, tc_I G mb1 10 gr, tc_I G mb2 10 we, tc_I G mb3 10 du, tc_I G mb4 10 sa, tc_D G mb5 10 le, tc_X2 ma4 md0 md1 md2 md3 pn, tc_F G md0 3 dl, tc_I G md1 3 pl, tc_I G md2 3 dr, tc_I G md3 3 sp, tc_J G ob 1 oj] sz) [tc_X5 a0 ma0 ta0 lk rf pu to, tc_X1 ma0 ma1 ma2 ma3 ma4 fh lh ee, tc_X0 ma3 mb0 mb1 mb2 mb3 mb4 mb5 ln, tc_I G mb0 10 ow, tc_I G mb1 10 gr, tc_I G mb2 10 we, tc_I G mb3 10 du, tc_I G mb4 10 u.1, tc_D G mb5 10 le, tc_X2 ma4 md0 md1 md2 md3 pn, tc_F G md0 3 dl, tc_I G md1 3 u.2.1, tc_I G md2 3 dr, tc_I G md3 3 sp, tc_J G ob 1 u.2.2]) (va_A [tc_X5 a0 ma0 ta0 lk rf pu to, tc_X1 ma0 ma1 ma2 ma3 ma4 fh lh ee, tc_X0 ma3 mb0 mb1 mb2 mb3 mb4 mb5 ln, tc_I G mb0 10 ow, tc_I G mb1 10 gr, tc_I G mb2 10 we, tc_I G mb3 10 du, tc_I G mb4 10 sa, tc_D G mb5 10 le, tc_X2 ma4 md0 md1 md2 md3 pn, tc_F G md0 3 dl, tc_I G md1 3 pl, tc_I G md2 3 dr, tc_I G md3 3 sp, tc_J G ob 1 oj] sz)) 1 6 (va_A [tc_X5 a0 ma0 ta0 lk rf pu to, tc_X1 ma0 ma1 ma2 ma3 ma4 fh lh ee, tc_X0 ma3 mb0 mb1 mb2 mb3 mb4 mb5 ln, tc_I G mb0 10 ow, tc_I G mb1 10 gr, tc_I G mb2 10 we, tc_I G mb3 10 du, tc_I G mb4 10 sa, tc_D G mb5 10 le, tc_X2 ma4 md0 md1 md2 md3 pn, tc_F G md0 3 dl, tc_I G md1 3 pl, tc_I G md2 3 dr, tc_I G md3 3 sp, tc_J G ob 1 oj] sz) := by
  refine tm_metOf ?_
  refine vx_ofWH (cc := cL_take) (maxL := 4) (ret := (some .int)) (hh :=  [(0, 9, 12, 43), (0, 9, 15, 22)]) (by decide) rfl ?_
  intro p e s m args below meth c s₁ B hml hv
  obtain ⟨rfl, hsz, hP, hK, hD0, hN, hV⟩ := hv
  have hx := B.exec
  have hb := B.bytes
  have hr := B.returns
  have hts := atoms_spec (ws := wsL_take) B.pre
  have htab : c.exceptionTable.toList = tableOf  [(0, 9, 12, 43), (0, 9, 15, 22)] := vx_table (x := yL_take) B (atoms_spec (ws := wsL_take) B.pre _ (List.mem_of_getElem? (i := 0) rfl))
  have hown : s.vm.findClass RL = some m.cls := findClass_of_methodNamed B.named
  have hlocks := B.notSynchronized
  subst hsz
  obtain ⟨n_1, n_5⟩ := hn
  have hD := hD0.self (sz := s.heap.size)
  generalize hAe : va_A [tc_X5 a0 ma0 ta0 lk rf pu to, tc_X1 ma0 ma1 ma2 ma3 ma4 fh lh ee, tc_X0 ma3 mb0 mb1 mb2 mb3 mb4 mb5 ln, tc_I G mb0 10 ow, tc_I G mb1 10 gr, tc_I G mb2 10 we, tc_I G mb3 10 du, tc_I G mb4 10 sa, tc_D G mb5 10 le, tc_X2 ma4 md0 md1 md2 md3 pn, tc_F G md0 3 dl, tc_I G md1 3 pl, tc_I G md2 3 dr, tc_I G md3 3 sp, tc_J G ob 1 oj] s.heap.size = A at hD hV ⊢
  have hA : ∀ q : Nat, s.heap.size ≤ q → A q := fun q h => by rw [← hAe]; exact Or.inr h
  have hS : va_S A s.heap s.heap [] := va_S.rf
  have hl := lv_entry ([.ref a0, .int p1, .ref ob]) (n := 4) (Nat.le_of_ble_eq_true rfl)
  rw [lg_entry_eq]
  generalize (lg_sl ([.ref a0, .int p1, .ref ob]) ++ List.replicate (4 - (lg_sl ([.ref a0, .int p1, .ref ob])).length) Slot.unset).toArray = ls at hl ⊢
  have hl : lv_has ls 4 [(0, .ref a0), (1, .int p1), (2, .ref ob)] := hl
  refine lv_aload_n hx hb dL_take_0 rfl (lv_at hl 2 rfl) ?_
  refine lv_iconst (v := 0) hx hb dL_take_1 (by decide) ?_
  refine lv_aload_n hx hb dL_take_2 rfl (lv_at hl 0 rfl) ?_
  refine lv_iload_n hx hb dL_take_3 rfl (lv_at hl 1 rfl) ?_
  have hPc := hP.sub (ws' := [tc_X5 a0 ma0 ta0 lk rf pu to, tc_X1 ma0 ma1 ma2 ma3 ma4 fh lh ee, tc_X0 ma3 mb0 mb1 mb2 mb3 mb4 mb5 ln, tc_I G mb0 10 ow, tc_I G mb1 10 gr, tc_I G mb2 10 we, tc_I G mb3 10 du, tc_I G mb4 10 sa, tc_D G mb5 10 le, tc_X2 ma4 md0 md1 md2 md3 pn, tc_F G md0 3 dl, tc_I G md1 3 pl, tc_I G md2 3 dr, tc_I G md3 3 sp]) [0, 1, 2, 3, 4, 5, 6, 7, 8, 9, 10, 11, 12, 13] rfl
  have hDc := hD.sub (ws' := [tc_X5 a0 ma0 ta0 lk rf pu to, tc_X1 ma0 ma1 ma2 ma3 ma4 fh lh ee, tc_X0 ma3 mb0 mb1 mb2 mb3 mb4 mb5 ln, tc_I G mb0 10 ow, tc_I G mb1 10 gr, tc_I G mb2 10 we, tc_I G mb3 10 du, tc_I G mb4 10 sa, tc_D G mb5 10 le, tc_X2 ma4 md0 md1 md2 md3 pn, tc_F G md0 3 dl, tc_I G md1 3 pl, tc_I G md2 3 dr, tc_I G md3 3 sp]) [0, 1, 2, 3, 4, 5, 6, 7, 8, 9, 10, 11, 12, 13] (by decide) rfl
  have hFc := va_free (wc := [tc_X5 a0 ma0 ta0 lk rf pu to, tc_X1 ma0 ma1 ma2 ma3 ma4 fh lh ee, tc_X0 ma3 mb0 mb1 mb2 mb3 mb4 mb5 ln, tc_I G mb0 10 ow, tc_I G mb1 10 gr, tc_I G mb2 10 we, tc_I G mb3 10 du, tc_I G mb4 10 sa, tc_D G mb5 10 le, tc_X2 ma4 md0 md1 md2 md3 pn, tc_F G md0 3 dl, tc_I G md1 3 pl, tc_I G md2 3 dr, tc_I G md3 3 sp]) hD hS hA [0, 1, 2, 3, 4, 5, 6, 7, 8, 9, 10, 11, 12, 13] rfl
  refine vx_calli (vx_runV (As := [.int p1]) (rest := [.int 0, .ref ob]) ⟨hx, hb, hml, hown, hts⟩ (c_X5_take l G a0 ma0 ta0 ma1 ma2 ma3 ma4 mb0 mb1 mb2 mb3 mb4 mb5 md0 md1 md2 md3 s.heap.size lk rf pu to fh lh ee ln ow gr we du sa le pn dl pl dr sp p1 n_1 hlt) (cwV 1 hts gL_take_X5_take rfl rfl rfl (by decide +kernel) ⟨(Nat.le_of_ble_eq_true rfl), (Nat.le_of_ble_eq_true rfl)⟩) (tm_preV hK hN hV hS hPc hDc hFc (va_recv hK hPc (ci := 6) (q0 := 0) rfl rfl)) rfl rfl hl.1 rfl (lv_room (Nat.le_of_ble_eq_true rfl)) dL_take_4 ⟨(Nat.le_of_ble_eq_true rfl), (Nat.le_of_ble_eq_true rfl)⟩) hS (fun q _ h => hFc q h) hFc (fun q _ h => hFc q h) (fun E9 ce9 q9 k9 st9 H locs ht hvm hw_2 hB hz1 hk1 hS hce hcv hcl => ?_) (fun r_2 u st9 H locs ht hvm hw_2 hB hz1 hk1 hS => ?_)
  · obtain ⟨rfl, hP1, hD1⟩ := hB
    rw [ht] at hP1
    obtain ⟨hP, hD⟩ := va_join (wr := [tc_J G ob 1 oj]) (w1 := [tc_X5 a0 ma0 ta0 lk rf pu to, tc_X1 ma0 ma1 ma2 ma3 ma4 fh lh ee, tc_X0 ma3 mb0 mb1 mb2 mb3 mb4 mb5 ln, tc_I G mb0 10 ow, tc_I G mb1 10 gr, tc_I G mb2 10 we, tc_I G mb3 10 du, tc_I G mb4 10 sa, tc_D G mb5 10 le, tc_X2 ma4 md0 md1 md2 md3 pn, tc_F G md0 3 dl, tc_I G md1 3 pl, tc_I G md2 3 dr, tc_I G md3 3 sp]) hP hD [0, 1, 2, 3, 4, 5, 6, 7, 8, 9, 10, 11, 12, 13] [14] rfl rfl (by decide) (by decide) hk1 hFc hP1 hD1
    have hP : va_P G.1 vwCl [tc_J G ob 1 oj, tc_X5 a0 ma0 ta0 lk rf pu to, tc_X1 ma0 ma1 ma2 ma3 ma4 fh lh ee, tc_X0 ma3 mb0 mb1 mb2 mb3 mb4 mb5 ln, tc_I G mb0 10 ow, tc_I G mb1 10 gr, tc_I G mb2 10 we, tc_I G mb3 10 du, tc_I G mb4 10 sa, tc_D G mb5 10 le, tc_X2 ma4 md0 md1 md2 md3 pn, tc_F G md0 3 dl, tc_I G md1 3 pl, tc_I G md2 3 dr, tc_I G md3 3 sp] H := hP
    have hD : va_D A [tc_J G ob 1 oj, tc_X5 a0 ma0 ta0 lk rf pu to, tc_X1 ma0 ma1 ma2 ma3 ma4 fh lh ee, tc_X0 ma3 mb0 mb1 mb2 mb3 mb4 mb5 ln, tc_I G mb0 10 ow, tc_I G mb1 10 gr, tc_I G mb2 10 we, tc_I G mb3 10 du, tc_I G mb4 10 sa, tc_D G mb5 10 le, tc_X2 ma4 md0 md1 md2 md3 pn, tc_F G md0 3 dl, tc_I G md1 3 pl, tc_I G md2 3 dr, tc_I G md3 3 sp] := hD
    rcases x_X5_take hw_2 with rfl | rfl
    · refine vx_catch (name := "java/lang/IllegalStateException") (E := "java/lang/IllegalStateException") hown [{ startPc := 0, endPc := 9, handlerPc := 12, catchType := 43 }] { startPc := 0, endPc := 9, handlerPc := 15, catchType := 22 } [] (by rw [htab]; rfl) (fun z hz => by rw [List.mem_singleton.mp hz]; exact Or.inr ⟨by decide, "java/lang/IndexOutOfBoundsException", (hts (.classLink RL 43 "java/lang/IndexOutOfBoundsException") (List.mem_of_getElem? (i := 1) rfl)), hN.2.2.2.2.2.2.1 ("java/lang/IllegalStateException", "java/lang/IndexOutOfBoundsException") (List.mem_of_getElem? (i := 1) rfl)⟩) (by decide) (by decide) (hts (.classLink RL 22 "java/lang/IllegalStateException") (List.mem_of_getElem? (i := 2) rfl)) (va_Nw.use rfl (hN.2.1 ("java/lang/IllegalStateException", "java/lang/IllegalStateException") (List.mem_of_getElem? (i := 1) rfl))) hce hcv hcl ?_
      show W p l e _ s m _ below meth c H locs 1 6 _ (F0 m 15 ls [.ref q9])
      refine lv_astore_n (lv' := [(3, .ref q9), (0, .ref a0), (1, .int p1), (2, .ref ob)]) hx hb dL_take_15 rfl hl (by decide) rfl (fun ls hl => ?_)
      refine lv_iconst (v := 2) hx hb dL_take_16 (by decide) ?_
      have hP9 := hP.sub (ws' := [tc_X5 a0 ma0 ta0 lk rf pu to, tc_X1 ma0 ma1 ma2 ma3 ma4 fh lh ee, tc_X0 ma3 mb0 mb1 mb2 mb3 mb4 mb5 ln, tc_I G mb0 10 ow, tc_I G mb1 10 gr, tc_I G mb2 10 we, tc_I G mb3 10 du, tc_I G mb4 10 sa, tc_D G mb5 10 le, tc_X2 ma4 md0 md1 md2 md3 pn, tc_F G md0 3 dl, tc_I G md1 3 pl, tc_I G md2 3 dr, tc_I G md3 3 sp, tc_J G ob 1 oj]) [1, 2, 3, 4, 5, 6, 7, 8, 9, 10, 11, 12, 13, 14, 0] rfl
      have hD9 := hD.sub (ws' := [tc_X5 a0 ma0 ta0 lk rf pu to, tc_X1 ma0 ma1 ma2 ma3 ma4 fh lh ee, tc_X0 ma3 mb0 mb1 mb2 mb3 mb4 mb5 ln, tc_I G mb0 10 ow, tc_I G mb1 10 gr, tc_I G mb2 10 we, tc_I G mb3 10 du, tc_I G mb4 10 sa, tc_D G mb5 10 le, tc_X2 ma4 md0 md1 md2 md3 pn, tc_F G md0 3 dl, tc_I G md1 3 pl, tc_I G md2 3 dr, tc_I G md3 3 sp, tc_J G ob 1 oj]) [1, 2, 3, 4, 5, 6, 7, 8, 9, 10, 11, 12, 13, 14, 0] (by decide) rfl
      refine W.widen (k := 1) (n := 6) (Nat.le_of_ble_eq_true rfl) (Nat.le_of_ble_eq_true rfl) (vx_ret ?_)
      exact W.iret (v := 2) hx hb hr (fun t ht hW => ⟨⟨2, (sa, pl, oj), rfl, by unfold f_L_take; all_goals (rw [← hw_2]); all_goals (dsimp only); all_goals rfl, by rw [ht]; exact hP9, hD9⟩, hS.F ht⟩) hS.2.2 dL_take_17
    · refine vx_catch (name := "java/lang/IndexOutOfBoundsException") (E := "java/lang/IndexOutOfBoundsException") hown [] { startPc := 0, endPc := 9, handlerPc := 12, catchType := 43 } [{ startPc := 0, endPc := 9, handlerPc := 15, catchType := 22 }] (by rw [htab]; rfl) (fun z hz => absurd hz List.not_mem_nil) (by decide) (by decide) (hts (.classLink RL 43 "java/lang/IndexOutOfBoundsException") (List.mem_of_getElem? (i := 1) rfl)) (va_Nw.use rfl (hN.2.1 ("java/lang/IndexOutOfBoundsException", "java/lang/IndexOutOfBoundsException") (List.mem_of_getElem? (i := 2) rfl))) hce hcv hcl ?_
      show W p l e _ s m _ below meth c H locs 1 6 _ (F0 m 12 ls [.ref q9])
      refine lv_astore_n (lv' := [(3, .ref q9), (0, .ref a0), (1, .int p1), (2, .ref ob)]) hx hb dL_take_12 rfl hl (by decide) rfl (fun ls hl => ?_)
      refine lv_iconst (v := 1) hx hb dL_take_13 (by decide) ?_
      have hP9 := hP.sub (ws' := [tc_X5 a0 ma0 ta0 lk rf pu to, tc_X1 ma0 ma1 ma2 ma3 ma4 fh lh ee, tc_X0 ma3 mb0 mb1 mb2 mb3 mb4 mb5 ln, tc_I G mb0 10 ow, tc_I G mb1 10 gr, tc_I G mb2 10 we, tc_I G mb3 10 du, tc_I G mb4 10 sa, tc_D G mb5 10 le, tc_X2 ma4 md0 md1 md2 md3 pn, tc_F G md0 3 dl, tc_I G md1 3 pl, tc_I G md2 3 dr, tc_I G md3 3 sp, tc_J G ob 1 oj]) [1, 2, 3, 4, 5, 6, 7, 8, 9, 10, 11, 12, 13, 14, 0] rfl
      have hD9 := hD.sub (ws' := [tc_X5 a0 ma0 ta0 lk rf pu to, tc_X1 ma0 ma1 ma2 ma3 ma4 fh lh ee, tc_X0 ma3 mb0 mb1 mb2 mb3 mb4 mb5 ln, tc_I G mb0 10 ow, tc_I G mb1 10 gr, tc_I G mb2 10 we, tc_I G mb3 10 du, tc_I G mb4 10 sa, tc_D G mb5 10 le, tc_X2 ma4 md0 md1 md2 md3 pn, tc_F G md0 3 dl, tc_I G md1 3 pl, tc_I G md2 3 dr, tc_I G md3 3 sp, tc_J G ob 1 oj]) [1, 2, 3, 4, 5, 6, 7, 8, 9, 10, 11, 12, 13, 14, 0] (by decide) rfl
      refine W.widen (k := 1) (n := 6) (Nat.le_of_ble_eq_true rfl) (Nat.le_of_ble_eq_true rfl) (vx_ret ?_)
      exact W.iret (v := 1) hx hb hr (fun t ht hW => ⟨⟨1, (sa, pl, oj), rfl, by unfold f_L_take; all_goals (rw [← hw_2]); all_goals (dsimp only); all_goals rfl, by rw [ht]; exact hP9, hD9⟩, hS.F ht⟩) hS.2.2 dL_take_14
  · obtain ⟨u_3, u_4⟩ := u
    obtain ⟨hP1, hD1⟩ := hB
    rw [ht] at hP1
    try dsimp only at hw_2
    obtain ⟨hP, hD⟩ := va_join (wr := [tc_J G ob 1 oj]) (w1 := [tc_X5 a0 ma0 ta0 lk rf pu to, tc_X1 ma0 ma1 ma2 ma3 ma4 fh lh ee, tc_X0 ma3 mb0 mb1 mb2 mb3 mb4 mb5 ln, tc_I G mb0 10 ow, tc_I G mb1 10 gr, tc_I G mb2 10 we, tc_I G mb3 10 du, tc_I G mb4 10 u_3, tc_D G mb5 10 le, tc_X2 ma4 md0 md1 md2 md3 pn, tc_F G md0 3 dl, tc_I G md1 3 u_4, tc_I G md2 3 dr, tc_I G md3 3 sp]) hP hD [0, 1, 2, 3, 4, 5, 6, 7, 8, 9, 10, 11, 12, 13] [14] rfl rfl (by decide) (by decide) hk1 hFc hP1 hD1
    have hP : va_P G.1 vwCl [tc_J G ob 1 oj, tc_X5 a0 ma0 ta0 lk rf pu to, tc_X1 ma0 ma1 ma2 ma3 ma4 fh lh ee, tc_X0 ma3 mb0 mb1 mb2 mb3 mb4 mb5 ln, tc_I G mb0 10 ow, tc_I G mb1 10 gr, tc_I G mb2 10 we, tc_I G mb3 10 du, tc_I G mb4 10 u_3, tc_D G mb5 10 le, tc_X2 ma4 md0 md1 md2 md3 pn, tc_F G md0 3 dl, tc_I G md1 3 u_4, tc_I G md2 3 dr, tc_I G md3 3 sp] H := hP
    have hD : va_D A [tc_J G ob 1 oj, tc_X5 a0 ma0 ta0 lk rf pu to, tc_X1 ma0 ma1 ma2 ma3 ma4 fh lh ee, tc_X0 ma3 mb0 mb1 mb2 mb3 mb4 mb5 ln, tc_I G mb0 10 ow, tc_I G mb1 10 gr, tc_I G mb2 10 we, tc_I G mb3 10 du, tc_I G mb4 10 u_3, tc_D G mb5 10 le, tc_X2 ma4 md0 md1 md2 md3 pn, tc_F G md0 3 dl, tc_I G md1 3 u_4, tc_I G md2 3 dr, tc_I G md3 3 sp] := hD
    refine W.widen (k := 1) (n := 6) (Nat.le_of_ble_eq_true rfl) (Nat.le_of_ble_eq_true rfl) ?_
    refine lv_i2l (v := r_2.toInt64) hx hb dL_take_7 rfl ?_
    refine va_last (n := 1) (f := oj) hx hb hK hP hD hS 0 5 rfl rfl (n_5 r_2 u_3 u_4 hw_2) dL_take_8 (fun H locs hP hD hS => ?_)
    have hP : va_P G.1 vwCl [tc_J G ob 1 (vp_updL oj (0 : Int32).toNatClampNeg r_2.toInt64), tc_X5 a0 ma0 ta0 lk rf pu to, tc_X1 ma0 ma1 ma2 ma3 ma4 fh lh ee, tc_X0 ma3 mb0 mb1 mb2 mb3 mb4 mb5 ln, tc_I G mb0 10 ow, tc_I G mb1 10 gr, tc_I G mb2 10 we, tc_I G mb3 10 du, tc_I G mb4 10 u_3, tc_D G mb5 10 le, tc_X2 ma4 md0 md1 md2 md3 pn, tc_F G md0 3 dl, tc_I G md1 3 u_4, tc_I G md2 3 dr, tc_I G md3 3 sp] H := hP
    have hD : va_D A [tc_J G ob 1 (vp_updL oj (0 : Int32).toNatClampNeg r_2.toInt64), tc_X5 a0 ma0 ta0 lk rf pu to, tc_X1 ma0 ma1 ma2 ma3 ma4 fh lh ee, tc_X0 ma3 mb0 mb1 mb2 mb3 mb4 mb5 ln, tc_I G mb0 10 ow, tc_I G mb1 10 gr, tc_I G mb2 10 we, tc_I G mb3 10 du, tc_I G mb4 10 u_3, tc_D G mb5 10 le, tc_X2 ma4 md0 md1 md2 md3 pn, tc_F G md0 3 dl, tc_I G md1 3 u_4, tc_I G md2 3 dr, tc_I G md3 3 sp] := hD
    refine lv_goto (tgt := 18) hx hb dL_take_9 (by decide) ?_
    refine lv_iconst (v := 0) hx hb dL_take_18 (by decide) ?_
    have hP9 := hP.sub (ws' := [tc_X5 a0 ma0 ta0 lk rf pu to, tc_X1 ma0 ma1 ma2 ma3 ma4 fh lh ee, tc_X0 ma3 mb0 mb1 mb2 mb3 mb4 mb5 ln, tc_I G mb0 10 ow, tc_I G mb1 10 gr, tc_I G mb2 10 we, tc_I G mb3 10 du, tc_I G mb4 10 u_3, tc_D G mb5 10 le, tc_X2 ma4 md0 md1 md2 md3 pn, tc_F G md0 3 dl, tc_I G md1 3 u_4, tc_I G md2 3 dr, tc_I G md3 3 sp, tc_J G ob 1 (vp_updL oj (0 : Int32).toNatClampNeg r_2.toInt64)]) [1, 2, 3, 4, 5, 6, 7, 8, 9, 10, 11, 12, 13, 14, 0] rfl
    have hD9 := hD.sub (ws' := [tc_X5 a0 ma0 ta0 lk rf pu to, tc_X1 ma0 ma1 ma2 ma3 ma4 fh lh ee, tc_X0 ma3 mb0 mb1 mb2 mb3 mb4 mb5 ln, tc_I G mb0 10 ow, tc_I G mb1 10 gr, tc_I G mb2 10 we, tc_I G mb3 10 du, tc_I G mb4 10 u_3, tc_D G mb5 10 le, tc_X2 ma4 md0 md1 md2 md3 pn, tc_F G md0 3 dl, tc_I G md1 3 u_4, tc_I G md2 3 dr, tc_I G md3 3 sp, tc_J G ob 1 (vp_updL oj (0 : Int32).toNatClampNeg r_2.toInt64)]) [1, 2, 3, 4, 5, 6, 7, 8, 9, 10, 11, 12, 13, 14, 0] (by decide) rfl
    refine W.widen (k := 1) (n := 6) (Nat.le_of_ble_eq_true rfl) (Nat.le_of_ble_eq_true rfl) (vx_ret ?_)
    exact W.iret (v := 0) hx hb hr (fun t ht hW => ⟨⟨0, (u_3, u_4, vp_updL oj (0 : Int32).toNatClampNeg r_2.toInt64), rfl, by unfold f_L_take; all_goals (rw [← hw_2]); all_goals (dsimp only); all_goals rfl, by rw [ht]; exact hP9, hD9⟩, hS.F ht⟩) hS.2.2 dL_take_19
theorem x_X5_dress {pn : Int32} {dl : Nat → UInt32} {pl : Nat → Int32} {dr : Nat → Int32} {p1 : Int32} {k : Nat} (h : (Sum.inr k : (Int32 × (Nat → Int32)) ⊕ Nat) = f_X5_dress pn dl pl dr p1) : k = 1 ∨ k = 2 := by
  unfold f_X5_dress at h
  repeat' split at h
  all_goals first | (cases h; done) | (cases h; simp)
def f_L_dress (pn : Int32) (dl : Nat → UInt32) (pl : Nat → Int32) (dr : Nat → Int32) (oj : Nat → Int64) (p1 : Int32) : Int32 × (Nat → Int32) × (Nat → Int64) :=
  (match f_X5_dress pn dl pl dr p1 with | .inl (r_2, u_3) => (0, u_3, vp_updL oj (0 : Int32).toNatClampNeg r_2.toInt64) | .inr k9 => if k9 = 1 then (2, dr, oj) else ((1, dr, oj)))
def n_L_dress (pn : Int32) (dl : Nat → UInt32) (pl : Nat → Int32) (dr : Nat → Int32) (p1 : Int32) : Prop :=
  (n_X5_dress pn dl pl dr p1) ∧
  (∀ (r_2 : Int32) (u_3 : Nat → Int32), (Sum.inl (r_2, u_3) : (Int32 × (Nat → Int32)) ⊕ Nat) = f_X5_dress pn dl pl dr p1 → vp_in 0 1)
set_option maxHeartbeats 4000000 in
set_option maxRecDepth 100000 in
theorem c_L_dress (l : Launch) (G : tm_G) (a0 : Nat) (ma0 : Nat) (ta0 : Nat) (ma1 : Nat) (ma2 : Nat) (ma3 : Nat) (ma4 : Nat) (md0 : Nat) (md1 : Nat) (md2 : Nat) (md3 : Nat) (ob : Nat) (sz : Nat) (lk : Int32) (rf : Int32) (pu : Int32) (to : UInt64) (fh : Int32) (lh : Int32) (ee : Int32) (pn : Int32) (dl : Nat → UInt32) (pl : Nat → Int32) (dr : Nat → Int32) (sp : Nat → Int32) (oj : Nat → Int64) (p1 : Int32) (hn : n_L_dress pn dl pl dr p1) (hlt : l.stackTraces = false) : Met l yL_dress wsL_dress ({ frames := 7, cells := 1, slots := 6, locals := 117 }) (va_Pc [.ref a0, .int p1, .ref ob] (tm_B G [tc_X5 a0 ma0 ta0 lk rf pu to, tc_X1 ma0 ma1 ma2 ma3 ma4 fh lh ee, tc_X2 ma4 md0 md1 md2 md3 pn, tc_F G md0 3 dl, tc_I G md1 3 pl, tc_I G md2 3 dr, tc_I G md3 3 sp, tc_J G ob 1 oj] sz)) (va_Qi (fun (r : Int32) (u : (Nat → Int32) × (Nat → Int64)) => (r, u) = f_L_dress pn dl pl dr oj p1) (fun (u : (Nat → Int32) × (Nat → Int64)) (t : State) => va_P G.1 vwCl [tc_X5 a0 ma0 ta0 lk rf pu to, tc_X1 ma0 ma1 ma2 ma3 ma4 fh lh ee, tc_X2 ma4 md0 md1 md2 md3 pn, tc_F G md0 3 dl, tc_I G md1 3 pl, tc_I G md2 3 u.1, tc_I G md3 3 sp, tc_J G ob 1 u.2] t.heap ∧ va_D (va_A [tc_X5 a0 ma0 ta0 lk rf pu to, tc_X1 ma0 ma1 ma2 ma3 ma4 fh lh ee, tc_X2 ma4 md0 md1 md2 md3 pn, tc_F G md0 3 dl, tc_I G md1 3 pl, tc_I G md2 3 dr, tc_I G md3 3 sp, tc_J G ob 1 oj] sz) [tc_X5 a0 ma0 ta0 lk rf pu to, tc_X1 ma0 ma1 ma2 ma3 ma4 fh lh ee, tc_X2 ma4 md0 md1 md2 md3 pn, tc_F G md0 3 dl, tc_I G md1 3 pl, tc_I G md2 3 u.1, tc_I G md3 3 sp, tc_J G ob 1 u.2]) (va_A [tc_X5 a0 ma0 ta0 lk rf pu to, tc_X1 ma0 ma1 ma2 ma3 ma4 fh lh ee, tc_X2 ma4 md0 md1 md2 md3 pn, tc_F G md0 3 dl, tc_I G md1 3 pl, tc_I G md2 3 dr, tc_I G md3 3 sp, tc_J G ob 1 oj] sz)) 1 6 (va_A [tc_X5 a0 ma0 ta0 lk rf pu to, tc_X1 ma0 ma1 ma2 ma3 ma4 fh lh ee, tc_X2 ma4 md0 md1 md2 md3 pn, tc_F G md0 3 dl, tc_I G md1 3 pl, tc_I G md2 3 dr, tc_I G md3 3 sp, tc_J G ob 1 oj] sz) := by
  refine tm_metOf ?_
  refine vx_ofWH (cc := cL_dress) (maxL := 4) (ret := (some .int)) (hh :=  [(0, 9, 12, 43), (0, 9, 15, 22)]) (by decide) rfl ?_
  intro p e s m args below meth c s₁ B hml hv
  obtain ⟨rfl, hsz, hP, hK, hD0, hN, hV⟩ := hv
  have hx := B.exec
  have hb := B.bytes
  have hr := B.returns
  have hts := atoms_spec (ws := wsL_dress) B.pre
  have htab : c.exceptionTable.toList = tableOf  [(0, 9, 12, 43), (0, 9, 15, 22)] := vx_table (x := yL_dress) B (atoms_spec (ws := wsL_dress) B.pre _ (List.mem_of_getElem? (i := 0) rfl))
  have hown : s.vm.findClass RL = some m.cls := findClass_of_methodNamed B.named
  have hlocks := B.notSynchronized
  subst hsz
  obtain ⟨n_1, n_4⟩ := hn
  have hD := hD0.self (sz := s.heap.size)
  generalize hAe : va_A [tc_X5 a0 ma0 ta0 lk rf pu to, tc_X1 ma0 ma1 ma2 ma3 ma4 fh lh ee, tc_X2 ma4 md0 md1 md2 md3 pn, tc_F G md0 3 dl, tc_I G md1 3 pl, tc_I G md2 3 dr, tc_I G md3 3 sp, tc_J G ob 1 oj] s.heap.size = A at hD hV ⊢
  have hA : ∀ q : Nat, s.heap.size ≤ q → A q := fun q h => by rw [← hAe]; exact Or.inr h
  have hS : va_S A s.heap s.heap [] := va_S.rf
  have hl := lv_entry ([.ref a0, .int p1, .ref ob]) (n := 4) (Nat.le_of_ble_eq_true rfl)
  rw [lg_entry_eq]
  generalize (lg_sl ([.ref a0, .int p1, .ref ob]) ++ List.replicate (4 - (lg_sl ([.ref a0, .int p1, .ref ob])).length) Slot.unset).toArray = ls at hl ⊢
  have hl : lv_has ls 4 [(0, .ref a0), (1, .int p1), (2, .ref ob)] := hl
  refine lv_aload_n hx hb dL_dress_0 rfl (lv_at hl 2 rfl) ?_
  refine lv_iconst (v := 0) hx hb dL_dress_1 (by decide) ?_
  refine lv_aload_n hx hb dL_dress_2 rfl (lv_at hl 0 rfl) ?_
  refine lv_iload_n hx hb dL_dress_3 rfl (lv_at hl 1 rfl) ?_
  have hPc := hP.sub (ws' := [tc_X5 a0 ma0 ta0 lk rf pu to, tc_X1 ma0 ma1 ma2 ma3 ma4 fh lh ee, tc_X2 ma4 md0 md1 md2 md3 pn, tc_F G md0 3 dl, tc_I G md1 3 pl, tc_I G md2 3 dr, tc_I G md3 3 sp]) [0, 1, 2, 3, 4, 5, 6] rfl
  have hDc := hD.sub (ws' := [tc_X5 a0 ma0 ta0 lk rf pu to, tc_X1 ma0 ma1 ma2 ma3 ma4 fh lh ee, tc_X2 ma4 md0 md1 md2 md3 pn, tc_F G md0 3 dl, tc_I G md1 3 pl, tc_I G md2 3 dr, tc_I G md3 3 sp]) [0, 1, 2, 3, 4, 5, 6] (by decide) rfl
  have hFc := va_free (wc := [tc_X5 a0 ma0 ta0 lk rf pu to, tc_X1 ma0 ma1 ma2 ma3 ma4 fh lh ee, tc_X2 ma4 md0 md1 md2 md3 pn, tc_F G md0 3 dl, tc_I G md1 3 pl, tc_I G md2 3 dr, tc_I G md3 3 sp]) hD hS hA [0, 1, 2, 3, 4, 5, 6] rfl
  refine vx_calli (vx_runV (As := [.int p1]) (rest := [.int 0, .ref ob]) ⟨hx, hb, hml, hown, hts⟩ (c_X5_dress l G a0 ma0 ta0 ma1 ma2 ma3 ma4 md0 md1 md2 md3 s.heap.size lk rf pu to fh lh ee pn dl pl dr sp p1 n_1 hlt) (cwV 1 hts gL_dress_X5_dress rfl rfl rfl (by decide +kernel) ⟨(Nat.le_of_ble_eq_true rfl), (Nat.le_of_ble_eq_true rfl)⟩) (tm_preV hK hN hV hS hPc hDc hFc (va_recv hK hPc (ci := 6) (q0 := 0) rfl rfl)) rfl rfl hl.1 rfl (lv_room (Nat.le_of_ble_eq_true rfl)) dL_dress_4 ⟨(Nat.le_of_ble_eq_true rfl), (Nat.le_of_ble_eq_true rfl)⟩) hS (fun q _ h => hFc q h) hFc (fun q _ h => hFc q h) (fun E9 ce9 q9 k9 st9 H locs ht hvm hw_2 hB hz1 hk1 hS hce hcv hcl => ?_) (fun r_2 u st9 H locs ht hvm hw_2 hB hz1 hk1 hS => ?_)
  · obtain ⟨rfl, hP1, hD1⟩ := hB
    rw [ht] at hP1
    obtain ⟨hP, hD⟩ := va_join (wr := [tc_J G ob 1 oj]) (w1 := [tc_X5 a0 ma0 ta0 lk rf pu to, tc_X1 ma0 ma1 ma2 ma3 ma4 fh lh ee, tc_X2 ma4 md0 md1 md2 md3 pn, tc_F G md0 3 dl, tc_I G md1 3 pl, tc_I G md2 3 dr, tc_I G md3 3 sp]) hP hD [0, 1, 2, 3, 4, 5, 6] [7] rfl rfl (by decide) (by decide) hk1 hFc hP1 hD1
    have hP : va_P G.1 vwCl [tc_J G ob 1 oj, tc_X5 a0 ma0 ta0 lk rf pu to, tc_X1 ma0 ma1 ma2 ma3 ma4 fh lh ee, tc_X2 ma4 md0 md1 md2 md3 pn, tc_F G md0 3 dl, tc_I G md1 3 pl, tc_I G md2 3 dr, tc_I G md3 3 sp] H := hP
    have hD : va_D A [tc_J G ob 1 oj, tc_X5 a0 ma0 ta0 lk rf pu to, tc_X1 ma0 ma1 ma2 ma3 ma4 fh lh ee, tc_X2 ma4 md0 md1 md2 md3 pn, tc_F G md0 3 dl, tc_I G md1 3 pl, tc_I G md2 3 dr, tc_I G md3 3 sp] := hD
    rcases x_X5_dress hw_2 with rfl | rfl
    · refine vx_catch (name := "java/lang/IllegalStateException") (E := "java/lang/IllegalStateException") hown [{ startPc := 0, endPc := 9, handlerPc := 12, catchType := 43 }] { startPc := 0, endPc := 9, handlerPc := 15, catchType := 22 } [] (by rw [htab]; rfl) (fun z hz => by rw [List.mem_singleton.mp hz]; exact Or.inr ⟨by decide, "java/lang/IndexOutOfBoundsException", (hts (.classLink RL 43 "java/lang/IndexOutOfBoundsException") (List.mem_of_getElem? (i := 1) rfl)), hN.2.2.2.2.2.2.1 ("java/lang/IllegalStateException", "java/lang/IndexOutOfBoundsException") (List.mem_of_getElem? (i := 1) rfl)⟩) (by decide) (by decide) (hts (.classLink RL 22 "java/lang/IllegalStateException") (List.mem_of_getElem? (i := 2) rfl)) (va_Nw.use rfl (hN.2.1 ("java/lang/IllegalStateException", "java/lang/IllegalStateException") (List.mem_of_getElem? (i := 1) rfl))) hce hcv hcl ?_
      show W p l e _ s m _ below meth c H locs 1 6 _ (F0 m 15 ls [.ref q9])
      refine lv_astore_n (lv' := [(3, .ref q9), (0, .ref a0), (1, .int p1), (2, .ref ob)]) hx hb dL_dress_15 rfl hl (by decide) rfl (fun ls hl => ?_)
      refine lv_iconst (v := 2) hx hb dL_dress_16 (by decide) ?_
      have hP9 := hP.sub (ws' := [tc_X5 a0 ma0 ta0 lk rf pu to, tc_X1 ma0 ma1 ma2 ma3 ma4 fh lh ee, tc_X2 ma4 md0 md1 md2 md3 pn, tc_F G md0 3 dl, tc_I G md1 3 pl, tc_I G md2 3 dr, tc_I G md3 3 sp, tc_J G ob 1 oj]) [1, 2, 3, 4, 5, 6, 7, 0] rfl
      have hD9 := hD.sub (ws' := [tc_X5 a0 ma0 ta0 lk rf pu to, tc_X1 ma0 ma1 ma2 ma3 ma4 fh lh ee, tc_X2 ma4 md0 md1 md2 md3 pn, tc_F G md0 3 dl, tc_I G md1 3 pl, tc_I G md2 3 dr, tc_I G md3 3 sp, tc_J G ob 1 oj]) [1, 2, 3, 4, 5, 6, 7, 0] (by decide) rfl
      refine W.widen (k := 1) (n := 6) (Nat.le_of_ble_eq_true rfl) (Nat.le_of_ble_eq_true rfl) (vx_ret ?_)
      exact W.iret (v := 2) hx hb hr (fun t ht hW => ⟨⟨2, (dr, oj), rfl, by unfold f_L_dress; all_goals (rw [← hw_2]); all_goals (dsimp only); all_goals rfl, by rw [ht]; exact hP9, hD9⟩, hS.F ht⟩) hS.2.2 dL_dress_17
    · refine vx_catch (name := "java/lang/IndexOutOfBoundsException") (E := "java/lang/IndexOutOfBoundsException") hown [] { startPc := 0, endPc := 9, handlerPc := 12, catchType := 43 } [{ startPc := 0, endPc := 9, handlerPc := 15, catchType := 22 }] (by rw [htab]; rfl) (fun z hz => absurd hz List.not_mem_nil) (by decide) (by decide) (hts (.classLink RL 43 "java/lang/IndexOutOfBoundsException") (List.mem_of_getElem? (i := 1) rfl)) (va_Nw.use rfl (hN.2.1 ("java/lang/IndexOutOfBoundsException", "java/lang/IndexOutOfBoundsException") (List.mem_of_getElem? (i := 2) rfl))) hce hcv hcl ?_
      show W p l e _ s m _ below meth c H locs 1 6 _ (F0 m 12 ls [.ref q9])
      refine lv_astore_n (lv' := [(3, .ref q9), (0, .ref a0), (1, .int p1), (2, .ref ob)]) hx hb dL_dress_12 rfl hl (by decide) rfl (fun ls hl => ?_)
      refine lv_iconst (v := 1) hx hb dL_dress_13 (by decide) ?_
      have hP9 := hP.sub (ws' := [tc_X5 a0 ma0 ta0 lk rf pu to, tc_X1 ma0 ma1 ma2 ma3 ma4 fh lh ee, tc_X2 ma4 md0 md1 md2 md3 pn, tc_F G md0 3 dl, tc_I G md1 3 pl, tc_I G md2 3 dr, tc_I G md3 3 sp, tc_J G ob 1 oj]) [1, 2, 3, 4, 5, 6, 7, 0] rfl
      have hD9 := hD.sub (ws' := [tc_X5 a0 ma0 ta0 lk rf pu to, tc_X1 ma0 ma1 ma2 ma3 ma4 fh lh ee, tc_X2 ma4 md0 md1 md2 md3 pn, tc_F G md0 3 dl, tc_I G md1 3 pl, tc_I G md2 3 dr, tc_I G md3 3 sp, tc_J G ob 1 oj]) [1, 2, 3, 4, 5, 6, 7, 0] (by decide) rfl
      refine W.widen (k := 1) (n := 6) (Nat.le_of_ble_eq_true rfl) (Nat.le_of_ble_eq_true rfl) (vx_ret ?_)
      exact W.iret (v := 1) hx hb hr (fun t ht hW => ⟨⟨1, (dr, oj), rfl, by unfold f_L_dress; all_goals (rw [← hw_2]); all_goals (dsimp only); all_goals rfl, by rw [ht]; exact hP9, hD9⟩, hS.F ht⟩) hS.2.2 dL_dress_14
  · obtain ⟨u_3, rfl⟩ : ∃ z, z = u := ⟨_, rfl⟩
    obtain ⟨hP1, hD1⟩ := hB
    rw [ht] at hP1
    try dsimp only at hw_2
    obtain ⟨hP, hD⟩ := va_join (wr := [tc_J G ob 1 oj]) (w1 := [tc_X5 a0 ma0 ta0 lk rf pu to, tc_X1 ma0 ma1 ma2 ma3 ma4 fh lh ee, tc_X2 ma4 md0 md1 md2 md3 pn, tc_F G md0 3 dl, tc_I G md1 3 pl, tc_I G md2 3 u_3, tc_I G md3 3 sp]) hP hD [0, 1, 2, 3, 4, 5, 6] [7] rfl rfl (by decide) (by decide) hk1 hFc hP1 hD1
    have hP : va_P G.1 vwCl [tc_J G ob 1 oj, tc_X5 a0 ma0 ta0 lk rf pu to, tc_X1 ma0 ma1 ma2 ma3 ma4 fh lh ee, tc_X2 ma4 md0 md1 md2 md3 pn, tc_F G md0 3 dl, tc_I G md1 3 pl, tc_I G md2 3 u_3, tc_I G md3 3 sp] H := hP
    have hD : va_D A [tc_J G ob 1 oj, tc_X5 a0 ma0 ta0 lk rf pu to, tc_X1 ma0 ma1 ma2 ma3 ma4 fh lh ee, tc_X2 ma4 md0 md1 md2 md3 pn, tc_F G md0 3 dl, tc_I G md1 3 pl, tc_I G md2 3 u_3, tc_I G md3 3 sp] := hD
    refine W.widen (k := 1) (n := 6) (Nat.le_of_ble_eq_true rfl) (Nat.le_of_ble_eq_true rfl) ?_
    refine lv_i2l (v := r_2.toInt64) hx hb dL_dress_7 rfl ?_
    refine va_last (n := 1) (f := oj) hx hb hK hP hD hS 0 5 rfl rfl (n_4 r_2 u_3 hw_2) dL_dress_8 (fun H locs hP hD hS => ?_)
    have hP : va_P G.1 vwCl [tc_J G ob 1 (vp_updL oj (0 : Int32).toNatClampNeg r_2.toInt64), tc_X5 a0 ma0 ta0 lk rf pu to, tc_X1 ma0 ma1 ma2 ma3 ma4 fh lh ee, tc_X2 ma4 md0 md1 md2 md3 pn, tc_F G md0 3 dl, tc_I G md1 3 pl, tc_I G md2 3 u_3, tc_I G md3 3 sp] H := hP
    have hD : va_D A [tc_J G ob 1 (vp_updL oj (0 : Int32).toNatClampNeg r_2.toInt64), tc_X5 a0 ma0 ta0 lk rf pu to, tc_X1 ma0 ma1 ma2 ma3 ma4 fh lh ee, tc_X2 ma4 md0 md1 md2 md3 pn, tc_F G md0 3 dl, tc_I G md1 3 pl, tc_I G md2 3 u_3, tc_I G md3 3 sp] := hD
    refine lv_goto (tgt := 18) hx hb dL_dress_9 (by decide) ?_
    refine lv_iconst (v := 0) hx hb dL_dress_18 (by decide) ?_
    have hP9 := hP.sub (ws' := [tc_X5 a0 ma0 ta0 lk rf pu to, tc_X1 ma0 ma1 ma2 ma3 ma4 fh lh ee, tc_X2 ma4 md0 md1 md2 md3 pn, tc_F G md0 3 dl, tc_I G md1 3 pl, tc_I G md2 3 u_3, tc_I G md3 3 sp, tc_J G ob 1 (vp_updL oj (0 : Int32).toNatClampNeg r_2.toInt64)]) [1, 2, 3, 4, 5, 6, 7, 0] rfl
    have hD9 := hD.sub (ws' := [tc_X5 a0 ma0 ta0 lk rf pu to, tc_X1 ma0 ma1 ma2 ma3 ma4 fh lh ee, tc_X2 ma4 md0 md1 md2 md3 pn, tc_F G md0 3 dl, tc_I G md1 3 pl, tc_I G md2 3 u_3, tc_I G md3 3 sp, tc_J G ob 1 (vp_updL oj (0 : Int32).toNatClampNeg r_2.toInt64)]) [1, 2, 3, 4, 5, 6, 7, 0] (by decide) rfl
    refine W.widen (k := 1) (n := 6) (Nat.le_of_ble_eq_true rfl) (Nat.le_of_ble_eq_true rfl) (vx_ret ?_)
    exact W.iret (v := 0) hx hb hr (fun t ht hW => ⟨⟨0, (u_3, vp_updL oj (0 : Int32).toNatClampNeg r_2.toInt64), rfl, by unfold f_L_dress; all_goals (rw [← hw_2]); all_goals (dsimp only); all_goals rfl, by rw [ht]; exact hP9, hD9⟩, hS.F ht⟩) hS.2.2 dL_dress_19
theorem x_X5_give {pu : Int32} {to : UInt64} {tk : Int32} {ln : Int32} {gr : Nat → Int32} {we : Nat → Int32} {du : Nat → Int32} {sa : Nat → Int32} {p1 : Int32} {k : Nat} (h : (Sum.inr k : (Int32 × Int32 × UInt64 × (Nat → Int32)) ⊕ Nat) = f_X5_give pu to tk ln gr we du sa p1) : k = 1 ∨ k = 2 := by
  unfold f_X5_give at h
  repeat' split at h
  all_goals first | (cases h; done) | (cases h; simp)
def f_L_give (pu : Int32) (to : UInt64) (tk : Int32) (ln : Int32) (gr : Nat → Int32) (we : Nat → Int32) (du : Nat → Int32) (sa : Nat → Int32) (oj : Nat → Int64) (p1 : Int32) : Int32 × Int32 × UInt64 × (Nat → Int32) × (Nat → Int64) :=
  (match f_X5_give pu to tk ln gr we du sa p1 with | .inl (r_2, u_3, u_4, u_5) => (0, u_3, u_4, u_5, vp_updL oj (0 : Int32).toNatClampNeg r_2.toInt64) | .inr k9 => if k9 = 1 then (2, pu, to, sa, oj) else ((1, pu, to, sa, oj)))
def n_L_give (pu : Int32) (to : UInt64) (tk : Int32) (ln : Int32) (gr : Nat → Int32) (we : Nat → Int32) (du : Nat → Int32) (sa : Nat → Int32) (p1 : Int32) : Prop :=
  (n_X5_give to ln we sa p1) ∧
  (∀ (r_2 : Int32) (u_3 : Int32) (u_4 : UInt64) (u_5 : Nat → Int32), (Sum.inl (r_2, u_3, u_4, u_5) : (Int32 × Int32 × UInt64 × (Nat → Int32)) ⊕ Nat) = f_X5_give pu to tk ln gr we du sa p1 → vp_in 0 1)
set_option maxHeartbeats 4000000 in
set_option maxRecDepth 100000 in
theorem c_L_give (l : Launch) (G : tm_G) (a0 : Nat) (ma0 : Nat) (ta0 : Nat) (ma1 : Nat) (ma2 : Nat) (ma3 : Nat) (ma4 : Nat) (mb0 : Nat) (mb1 : Nat) (mb2 : Nat) (mb3 : Nat) (mb4 : Nat) (mb5 : Nat) (ob : Nat) (sz : Nat) (lk : Int32) (rf : Int32) (pu : Int32) (to : UInt64) (fh : Int32) (lh : Int32) (ee : Int32) (tk : Int32) (mo : Int32) (su : UInt64) (ln : Int32) (ow : Nat → Int32) (gr : Nat → Int32) (we : Nat → Int32) (du : Nat → Int32) (sa : Nat → Int32) (le : Nat → UInt64) (oj : Nat → Int64) (p1 : Int32) (hn : n_L_give pu to tk ln gr we du sa p1) (hlt : l.stackTraces = false) : Met l yL_give wsL_give ({ frames := 7, cells := 1, slots := 6, locals := 120 }) (va_Pc [.ref a0, .int p1, .ref ob] (tm_B G [tc_X5 a0 ma0 ta0 lk rf pu to, tc_X1 ma0 ma1 ma2 ma3 ma4 fh lh ee, tc_X4 ma1 tk mo su, tc_X0 ma3 mb0 mb1 mb2 mb3 mb4 mb5 ln, tc_I G mb0 10 ow, tc_I G mb1 10 gr, tc_I G mb2 10 we, tc_I G mb3 10 du, tc_I G mb4 10 sa, tc_D G mb5 10 le, tc_J G ob 1 oj] sz)) (va_Qi (fun (r : Int32) (u : Int32 × UInt64 × (Nat → Int32) × (Nat → Int64)) => (r, u) = f_L_give pu to tk ln gr we du sa oj p1) (fun (u : Int32 × UInt64 × (Nat → Int32) × (Nat → Int64)) (t : State) => va_P G.1 vwCl [tc_X5 a0 ma0 ta0 lk rf u.1 u.2.1, tc_X1 ma0 ma1 ma2 ma3 ma4 fh lh ee, tc_X4 ma1 tk mo su, tc_X0 ma3 mb0 mb1 mb2 mb3 mb4 mb5 ln, tc_I G mb0 10 ow, tc_I G mb1 10 gr, tc_I G mb2 10 we, tc_I G mb3 10 du, tc_I G mb4 10 u.2.2.1, tc_D G mb5 10 le, tc_J G ob 1 u.2.2.2] t.heap ∧ va_D (va_A [tc_X5 a0 ma0 ta0 lk rf pu to, tc_X1 ma0 ma1 ma2 ma3 ma4 fh lh ee, tc_X4 ma1 tk mo su, tc_X0 ma3 mb0 mb1 mb2 mb3 mb4 mb5 ln, tc_I G mb0 10 ow, tc_I G mb1 10 gr, tc_I G mb2 10 we, tc_I G mb3 10 du, tc_I G mb4 10 sa, tc_D G mb5 10 le, tc_J G ob 1 oj] sz) [tc_X5 a0 ma0 ta0 lk rf u.1 u.2.1, tc_X1 ma0 ma1 ma2 ma3 ma4 fh lh ee, tc_X4 ma1 tk mo su, tc_X0 ma3 mb0 mb1 mb2 mb3 mb4 mb5 ln, tc_I G mb0 10 ow, tc_I G mb1 10 gr, tc_I G mb2 10 we, tc_I G mb3 10 du, tc_I G mb4 10 u.2.2.1, tc_D G mb5 10 le, tc_J G ob 1 u.2.2.2]) (va_A [tc_X5 a0 ma0 ta0 lk rf pu to, tc_X1 ma0 ma1 ma2 ma3 ma4 fh lh ee, tc_X4 ma1 tk mo su, tc_X0 ma3 mb0 mb1 mb2 mb3 mb4 mb5 ln, tc_I G mb0 10 ow, tc_I G mb1 10 gr, tc_I G mb2 10 we, tc_I G mb3 10 du, tc_I G mb4 10 sa, tc_D G mb5 10 le, tc_J G ob 1 oj] sz)) 1 6 (va_A [tc_X5 a0 ma0 ta0 lk rf pu to, tc_X1 ma0 ma1 ma2 ma3 ma4 fh lh ee, tc_X4 ma1 tk mo su, tc_X0 ma3 mb0 mb1 mb2 mb3 mb4 mb5 ln, tc_I G mb0 10 ow, tc_I G mb1 10 gr, tc_I G mb2 10 we, tc_I G mb3 10 du, tc_I G mb4 10 sa, tc_D G mb5 10 le, tc_J G ob 1 oj] sz) := by
  refine tm_metOf ?_
  refine vx_ofWH (cc := cL_give) (maxL := 4) (ret := (some .int)) (hh :=  [(0, 9, 12, 43), (0, 9, 15, 22)]) (by decide) rfl ?_
  intro p e s m args below meth c s₁ B hml hv
  obtain ⟨rfl, hsz, hP, hK, hD0, hN, hV⟩ := hv
  have hx := B.exec
  have hb := B.bytes
  have hr := B.returns
  have hts := atoms_spec (ws := wsL_give) B.pre
  have htab : c.exceptionTable.toList = tableOf  [(0, 9, 12, 43), (0, 9, 15, 22)] := vx_table (x := yL_give) B (atoms_spec (ws := wsL_give) B.pre _ (List.mem_of_getElem? (i := 0) rfl))
  have hown : s.vm.findClass RL = some m.cls := findClass_of_methodNamed B.named
  have hlocks := B.notSynchronized
  subst hsz
  obtain ⟨n_1, n_6⟩ := hn
  have hD := hD0.self (sz := s.heap.size)
  generalize hAe : va_A [tc_X5 a0 ma0 ta0 lk rf pu to, tc_X1 ma0 ma1 ma2 ma3 ma4 fh lh ee, tc_X4 ma1 tk mo su, tc_X0 ma3 mb0 mb1 mb2 mb3 mb4 mb5 ln, tc_I G mb0 10 ow, tc_I G mb1 10 gr, tc_I G mb2 10 we, tc_I G mb3 10 du, tc_I G mb4 10 sa, tc_D G mb5 10 le, tc_J G ob 1 oj] s.heap.size = A at hD hV ⊢
  have hA : ∀ q : Nat, s.heap.size ≤ q → A q := fun q h => by rw [← hAe]; exact Or.inr h
  have hS : va_S A s.heap s.heap [] := va_S.rf
  have hl := lv_entry ([.ref a0, .int p1, .ref ob]) (n := 4) (Nat.le_of_ble_eq_true rfl)
  rw [lg_entry_eq]
  generalize (lg_sl ([.ref a0, .int p1, .ref ob]) ++ List.replicate (4 - (lg_sl ([.ref a0, .int p1, .ref ob])).length) Slot.unset).toArray = ls at hl ⊢
  have hl : lv_has ls 4 [(0, .ref a0), (1, .int p1), (2, .ref ob)] := hl
  refine lv_aload_n hx hb dL_give_0 rfl (lv_at hl 2 rfl) ?_
  refine lv_iconst (v := 0) hx hb dL_give_1 (by decide) ?_
  refine lv_aload_n hx hb dL_give_2 rfl (lv_at hl 0 rfl) ?_
  refine lv_iload_n hx hb dL_give_3 rfl (lv_at hl 1 rfl) ?_
  have hPc := hP.sub (ws' := [tc_X5 a0 ma0 ta0 lk rf pu to, tc_X1 ma0 ma1 ma2 ma3 ma4 fh lh ee, tc_X4 ma1 tk mo su, tc_X0 ma3 mb0 mb1 mb2 mb3 mb4 mb5 ln, tc_I G mb0 10 ow, tc_I G mb1 10 gr, tc_I G mb2 10 we, tc_I G mb3 10 du, tc_I G mb4 10 sa, tc_D G mb5 10 le]) [0, 1, 2, 3, 4, 5, 6, 7, 8, 9] rfl
  have hDc := hD.sub (ws' := [tc_X5 a0 ma0 ta0 lk rf pu to, tc_X1 ma0 ma1 ma2 ma3 ma4 fh lh ee, tc_X4 ma1 tk mo su, tc_X0 ma3 mb0 mb1 mb2 mb3 mb4 mb5 ln, tc_I G mb0 10 ow, tc_I G mb1 10 gr, tc_I G mb2 10 we, tc_I G mb3 10 du, tc_I G mb4 10 sa, tc_D G mb5 10 le]) [0, 1, 2, 3, 4, 5, 6, 7, 8, 9] (by decide) rfl
  have hFc := va_free (wc := [tc_X5 a0 ma0 ta0 lk rf pu to, tc_X1 ma0 ma1 ma2 ma3 ma4 fh lh ee, tc_X4 ma1 tk mo su, tc_X0 ma3 mb0 mb1 mb2 mb3 mb4 mb5 ln, tc_I G mb0 10 ow, tc_I G mb1 10 gr, tc_I G mb2 10 we, tc_I G mb3 10 du, tc_I G mb4 10 sa, tc_D G mb5 10 le]) hD hS hA [0, 1, 2, 3, 4, 5, 6, 7, 8, 9] rfl
  refine vx_calli (vx_runV (As := [.int p1]) (rest := [.int 0, .ref ob]) ⟨hx, hb, hml, hown, hts⟩ (c_X5_give l G a0 ma0 ta0 ma1 ma2 ma3 ma4 mb0 mb1 mb2 mb3 mb4 mb5 s.heap.size lk rf pu to fh lh ee tk mo su ln ow gr we du sa le p1 n_1 hlt) (cwV 1 hts gL_give_X5_give rfl rfl rfl (by decide +kernel) ⟨(Nat.le_of_ble_eq_true rfl), (Nat.le_of_ble_eq_true rfl)⟩) (tm_preV hK hN hV hS hPc hDc hFc (va_recv hK hPc (ci := 6) (q0 := 0) rfl rfl)) rfl rfl hl.1 rfl (lv_room (Nat.le_of_ble_eq_true rfl)) dL_give_4 ⟨(Nat.le_of_ble_eq_true rfl), (Nat.le_of_ble_eq_true rfl)⟩) hS (fun q _ h => hFc q h) hFc (fun q _ h => hFc q h) (fun E9 ce9 q9 k9 st9 H locs ht hvm hw_2 hB hz1 hk1 hS hce hcv hcl => ?_) (fun r_2 u st9 H locs ht hvm hw_2 hB hz1 hk1 hS => ?_)
  · obtain ⟨rfl, hP1, hD1⟩ := hB
    rw [ht] at hP1
    obtain ⟨hP, hD⟩ := va_join (wr := [tc_J G ob 1 oj]) (w1 := [tc_X5 a0 ma0 ta0 lk rf pu to, tc_X1 ma0 ma1 ma2 ma3 ma4 fh lh ee, tc_X4 ma1 tk mo su, tc_X0 ma3 mb0 mb1 mb2 mb3 mb4 mb5 ln, tc_I G mb0 10 ow, tc_I G mb1 10 gr, tc_I G mb2 10 we, tc_I G mb3 10 du, tc_I G mb4 10 sa, tc_D G mb5 10 le]) hP hD [0, 1, 2, 3, 4, 5, 6, 7, 8, 9] [10] rfl rfl (by decide) (by decide) hk1 hFc hP1 hD1
    have hP : va_P G.1 vwCl [tc_J G ob 1 oj, tc_X5 a0 ma0 ta0 lk rf pu to, tc_X1 ma0 ma1 ma2 ma3 ma4 fh lh ee, tc_X4 ma1 tk mo su, tc_X0 ma3 mb0 mb1 mb2 mb3 mb4 mb5 ln, tc_I G mb0 10 ow, tc_I G mb1 10 gr, tc_I G mb2 10 we, tc_I G mb3 10 du, tc_I G mb4 10 sa, tc_D G mb5 10 le] H := hP
    have hD : va_D A [tc_J G ob 1 oj, tc_X5 a0 ma0 ta0 lk rf pu to, tc_X1 ma0 ma1 ma2 ma3 ma4 fh lh ee, tc_X4 ma1 tk mo su, tc_X0 ma3 mb0 mb1 mb2 mb3 mb4 mb5 ln, tc_I G mb0 10 ow, tc_I G mb1 10 gr, tc_I G mb2 10 we, tc_I G mb3 10 du, tc_I G mb4 10 sa, tc_D G mb5 10 le] := hD
    rcases x_X5_give hw_2 with rfl | rfl
    · refine vx_catch (name := "java/lang/IllegalStateException") (E := "java/lang/IllegalStateException") hown [{ startPc := 0, endPc := 9, handlerPc := 12, catchType := 43 }] { startPc := 0, endPc := 9, handlerPc := 15, catchType := 22 } [] (by rw [htab]; rfl) (fun z hz => by rw [List.mem_singleton.mp hz]; exact Or.inr ⟨by decide, "java/lang/IndexOutOfBoundsException", (hts (.classLink RL 43 "java/lang/IndexOutOfBoundsException") (List.mem_of_getElem? (i := 1) rfl)), hN.2.2.2.2.2.2.1 ("java/lang/IllegalStateException", "java/lang/IndexOutOfBoundsException") (List.mem_of_getElem? (i := 1) rfl)⟩) (by decide) (by decide) (hts (.classLink RL 22 "java/lang/IllegalStateException") (List.mem_of_getElem? (i := 2) rfl)) (va_Nw.use rfl (hN.2.1 ("java/lang/IllegalStateException", "java/lang/IllegalStateException") (List.mem_of_getElem? (i := 1) rfl))) hce hcv hcl ?_
      show W p l e _ s m _ below meth c H locs 1 6 _ (F0 m 15 ls [.ref q9])
      refine lv_astore_n (lv' := [(3, .ref q9), (0, .ref a0), (1, .int p1), (2, .ref ob)]) hx hb dL_give_15 rfl hl (by decide) rfl (fun ls hl => ?_)
      refine lv_iconst (v := 2) hx hb dL_give_16 (by decide) ?_
      have hP9 := hP.sub (ws' := [tc_X5 a0 ma0 ta0 lk rf pu to, tc_X1 ma0 ma1 ma2 ma3 ma4 fh lh ee, tc_X4 ma1 tk mo su, tc_X0 ma3 mb0 mb1 mb2 mb3 mb4 mb5 ln, tc_I G mb0 10 ow, tc_I G mb1 10 gr, tc_I G mb2 10 we, tc_I G mb3 10 du, tc_I G mb4 10 sa, tc_D G mb5 10 le, tc_J G ob 1 oj]) [1, 2, 3, 4, 5, 6, 7, 8, 9, 10, 0] rfl
      have hD9 := hD.sub (ws' := [tc_X5 a0 ma0 ta0 lk rf pu to, tc_X1 ma0 ma1 ma2 ma3 ma4 fh lh ee, tc_X4 ma1 tk mo su, tc_X0 ma3 mb0 mb1 mb2 mb3 mb4 mb5 ln, tc_I G mb0 10 ow, tc_I G mb1 10 gr, tc_I G mb2 10 we, tc_I G mb3 10 du, tc_I G mb4 10 sa, tc_D G mb5 10 le, tc_J G ob 1 oj]) [1, 2, 3, 4, 5, 6, 7, 8, 9, 10, 0] (by decide) rfl
      refine W.widen (k := 1) (n := 6) (Nat.le_of_ble_eq_true rfl) (Nat.le_of_ble_eq_true rfl) (vx_ret ?_)
      exact W.iret (v := 2) hx hb hr (fun t ht hW => ⟨⟨2, (pu, to, sa, oj), rfl, by unfold f_L_give; all_goals (rw [← hw_2]); all_goals (dsimp only); all_goals rfl, by rw [ht]; exact hP9, hD9⟩, hS.F ht⟩) hS.2.2 dL_give_17
    · refine vx_catch (name := "java/lang/IndexOutOfBoundsException") (E := "java/lang/IndexOutOfBoundsException") hown [] { startPc := 0, endPc := 9, handlerPc := 12, catchType := 43 } [{ startPc := 0, endPc := 9, handlerPc := 15, catchType := 22 }] (by rw [htab]; rfl) (fun z hz => absurd hz List.not_mem_nil) (by decide) (by decide) (hts (.classLink RL 43 "java/lang/IndexOutOfBoundsException") (List.mem_of_getElem? (i := 1) rfl)) (va_Nw.use rfl (hN.2.1 ("java/lang/IndexOutOfBoundsException", "java/lang/IndexOutOfBoundsException") (List.mem_of_getElem? (i := 2) rfl))) hce hcv hcl ?_
      show W p l e _ s m _ below meth c H locs 1 6 _ (F0 m 12 ls [.ref q9])
      refine lv_astore_n (lv' := [(3, .ref q9), (0, .ref a0), (1, .int p1), (2, .ref ob)]) hx hb dL_give_12 rfl hl (by decide) rfl (fun ls hl => ?_)
      refine lv_iconst (v := 1) hx hb dL_give_13 (by decide) ?_
      have hP9 := hP.sub (ws' := [tc_X5 a0 ma0 ta0 lk rf pu to, tc_X1 ma0 ma1 ma2 ma3 ma4 fh lh ee, tc_X4 ma1 tk mo su, tc_X0 ma3 mb0 mb1 mb2 mb3 mb4 mb5 ln, tc_I G mb0 10 ow, tc_I G mb1 10 gr, tc_I G mb2 10 we, tc_I G mb3 10 du, tc_I G mb4 10 sa, tc_D G mb5 10 le, tc_J G ob 1 oj]) [1, 2, 3, 4, 5, 6, 7, 8, 9, 10, 0] rfl
      have hD9 := hD.sub (ws' := [tc_X5 a0 ma0 ta0 lk rf pu to, tc_X1 ma0 ma1 ma2 ma3 ma4 fh lh ee, tc_X4 ma1 tk mo su, tc_X0 ma3 mb0 mb1 mb2 mb3 mb4 mb5 ln, tc_I G mb0 10 ow, tc_I G mb1 10 gr, tc_I G mb2 10 we, tc_I G mb3 10 du, tc_I G mb4 10 sa, tc_D G mb5 10 le, tc_J G ob 1 oj]) [1, 2, 3, 4, 5, 6, 7, 8, 9, 10, 0] (by decide) rfl
      refine W.widen (k := 1) (n := 6) (Nat.le_of_ble_eq_true rfl) (Nat.le_of_ble_eq_true rfl) (vx_ret ?_)
      exact W.iret (v := 1) hx hb hr (fun t ht hW => ⟨⟨1, (pu, to, sa, oj), rfl, by unfold f_L_give; all_goals (rw [← hw_2]); all_goals (dsimp only); all_goals rfl, by rw [ht]; exact hP9, hD9⟩, hS.F ht⟩) hS.2.2 dL_give_14
  · obtain ⟨u_3, u_4, u_5⟩ := u
    obtain ⟨hP1, hD1⟩ := hB
    rw [ht] at hP1
    try dsimp only at hw_2
    obtain ⟨hP, hD⟩ := va_join (wr := [tc_J G ob 1 oj]) (w1 := [tc_X5 a0 ma0 ta0 lk rf u_3 u_4, tc_X1 ma0 ma1 ma2 ma3 ma4 fh lh ee, tc_X4 ma1 tk mo su, tc_X0 ma3 mb0 mb1 mb2 mb3 mb4 mb5 ln, tc_I G mb0 10 ow, tc_I G mb1 10 gr, tc_I G mb2 10 we, tc_I G mb3 10 du, tc_I G mb4 10 u_5, tc_D G mb5 10 le]) hP hD [0, 1, 2, 3, 4, 5, 6, 7, 8, 9] [10] rfl rfl (by decide) (by decide) hk1 hFc hP1 hD1
    have hP : va_P G.1 vwCl [tc_J G ob 1 oj, tc_X5 a0 ma0 ta0 lk rf u_3 u_4, tc_X1 ma0 ma1 ma2 ma3 ma4 fh lh ee, tc_X4 ma1 tk mo su, tc_X0 ma3 mb0 mb1 mb2 mb3 mb4 mb5 ln, tc_I G mb0 10 ow, tc_I G mb1 10 gr, tc_I G mb2 10 we, tc_I G mb3 10 du, tc_I G mb4 10 u_5, tc_D G mb5 10 le] H := hP
    have hD : va_D A [tc_J G ob 1 oj, tc_X5 a0 ma0 ta0 lk rf u_3 u_4, tc_X1 ma0 ma1 ma2 ma3 ma4 fh lh ee, tc_X4 ma1 tk mo su, tc_X0 ma3 mb0 mb1 mb2 mb3 mb4 mb5 ln, tc_I G mb0 10 ow, tc_I G mb1 10 gr, tc_I G mb2 10 we, tc_I G mb3 10 du, tc_I G mb4 10 u_5, tc_D G mb5 10 le] := hD
    refine W.widen (k := 1) (n := 6) (Nat.le_of_ble_eq_true rfl) (Nat.le_of_ble_eq_true rfl) ?_
    refine lv_i2l (v := r_2.toInt64) hx hb dL_give_7 rfl ?_
    refine va_last (n := 1) (f := oj) hx hb hK hP hD hS 0 5 rfl rfl (n_6 r_2 u_3 u_4 u_5 hw_2) dL_give_8 (fun H locs hP hD hS => ?_)
    have hP : va_P G.1 vwCl [tc_J G ob 1 (vp_updL oj (0 : Int32).toNatClampNeg r_2.toInt64), tc_X5 a0 ma0 ta0 lk rf u_3 u_4, tc_X1 ma0 ma1 ma2 ma3 ma4 fh lh ee, tc_X4 ma1 tk mo su, tc_X0 ma3 mb0 mb1 mb2 mb3 mb4 mb5 ln, tc_I G mb0 10 ow, tc_I G mb1 10 gr, tc_I G mb2 10 we, tc_I G mb3 10 du, tc_I G mb4 10 u_5, tc_D G mb5 10 le] H := hP
    have hD : va_D A [tc_J G ob 1 (vp_updL oj (0 : Int32).toNatClampNeg r_2.toInt64), tc_X5 a0 ma0 ta0 lk rf u_3 u_4, tc_X1 ma0 ma1 ma2 ma3 ma4 fh lh ee, tc_X4 ma1 tk mo su, tc_X0 ma3 mb0 mb1 mb2 mb3 mb4 mb5 ln, tc_I G mb0 10 ow, tc_I G mb1 10 gr, tc_I G mb2 10 we, tc_I G mb3 10 du, tc_I G mb4 10 u_5, tc_D G mb5 10 le] := hD
    refine lv_goto (tgt := 18) hx hb dL_give_9 (by decide) ?_
    refine lv_iconst (v := 0) hx hb dL_give_18 (by decide) ?_
    have hP9 := hP.sub (ws' := [tc_X5 a0 ma0 ta0 lk rf u_3 u_4, tc_X1 ma0 ma1 ma2 ma3 ma4 fh lh ee, tc_X4 ma1 tk mo su, tc_X0 ma3 mb0 mb1 mb2 mb3 mb4 mb5 ln, tc_I G mb0 10 ow, tc_I G mb1 10 gr, tc_I G mb2 10 we, tc_I G mb3 10 du, tc_I G mb4 10 u_5, tc_D G mb5 10 le, tc_J G ob 1 (vp_updL oj (0 : Int32).toNatClampNeg r_2.toInt64)]) [1, 2, 3, 4, 5, 6, 7, 8, 9, 10, 0] rfl
    have hD9 := hD.sub (ws' := [tc_X5 a0 ma0 ta0 lk rf u_3 u_4, tc_X1 ma0 ma1 ma2 ma3 ma4 fh lh ee, tc_X4 ma1 tk mo su, tc_X0 ma3 mb0 mb1 mb2 mb3 mb4 mb5 ln, tc_I G mb0 10 ow, tc_I G mb1 10 gr, tc_I G mb2 10 we, tc_I G mb3 10 du, tc_I G mb4 10 u_5, tc_D G mb5 10 le, tc_J G ob 1 (vp_updL oj (0 : Int32).toNatClampNeg r_2.toInt64)]) [1, 2, 3, 4, 5, 6, 7, 8, 9, 10, 0] (by decide) rfl
    refine W.widen (k := 1) (n := 6) (Nat.le_of_ble_eq_true rfl) (Nat.le_of_ble_eq_true rfl) (vx_ret ?_)
    exact W.iret (v := 0) hx hb hr (fun t ht hW => ⟨⟨0, (u_3, u_4, u_5, vp_updL oj (0 : Int32).toNatClampNeg r_2.toInt64), rfl, by unfold f_L_give; all_goals (rw [← hw_2]); all_goals (dsimp only); all_goals rfl, by rw [ht]; exact hP9, hD9⟩, hS.F ht⟩) hS.2.2 dL_give_19
theorem x_X5_pass {fh : Int32} {lh : Int32} {ee : Int32} {tk : Int32} {mo : Int32} {su : UInt64} {lv : UInt64} {si : UInt32} {ga : Int32} {sl : Int32} {sc : Int32} {fo : UInt64} {ln : Int32} {gr : Nat → Int32} {sa : Nat → Int32} {le : Nat → UInt64} {pn : Int32} {dl : Nat → UInt32} {pl : Nat → Int32} {dr : Nat → Int32} {sp : Nat → Int32} {p1 : Int32} {k : Nat} (h : (Sum.inr k : (Int32 × Int32 × Int32 × UInt64 × UInt32 × UInt64 × (Nat → Int32) × (Nat → UInt64) × (Nat → UInt32) × (Nat → Int32) × (Nat → Int32) × (Nat → Int32)) ⊕ Nat) = f_X5_pass fh lh ee tk mo su lv si ga sl sc fo ln gr sa le pn dl pl dr sp p1) : k = 0 ∨ k = 1 := by
  unfold f_X5_pass at h
  repeat' split at h
  all_goals first | (cases h; done) | (cases h; simp)
def f_L_pass (fh : Int32) (lh : Int32) (ee : Int32) (tk : Int32) (mo : Int32) (su : UInt64) (lv : UInt64) (si : UInt32) (ga : Int32) (sl : Int32) (sc : Int32) (fo : UInt64) (ln : Int32) (gr : Nat → Int32) (sa : Nat → Int32) (le : Nat → UInt64) (pn : Int32) (dl : Nat → UInt32) (pl : Nat → Int32) (dr : Nat → Int32) (sp : Nat → Int32) (oj : Nat → Int64) (p1 : Int32) : Int32 × Int32 × Int32 × UInt64 × UInt32 × UInt64 × (Nat → Int32) × (Nat → UInt64) × (Nat → UInt32) × (Nat → Int32) × (Nat → Int32) × (Nat → Int32) × (Nat → Int64) :=
  (match f_X5_pass fh lh ee tk mo su lv si ga sl sc fo ln gr sa le pn dl pl dr sp p1 with | .inl (r_2, u_3, u_4, u_5, u_6, u_7, u_8, u_9, u_10, u_11, u_12, u_13) => (0, u_3, u_4, u_5, u_6, u_7, u_8, u_9, u_10, u_11, u_12, u_13, vp_updL oj (0 : Int32).toNatClampNeg r_2.toInt64) | .inr k9 => if k9 = 0 then (1, ee, tk, lv, si, fo, sa, le, dl, pl, dr, sp, oj) else ((2, ee, tk, lv, si, fo, sa, le, dl, pl, dr, sp, oj)))
def n_L_pass (fh : Int32) (lh : Int32) (ee : Int32) (tk : Int32) (mo : Int32) (su : UInt64) (lv : UInt64) (si : UInt32) (ga : Int32) (sl : Int32) (sc : Int32) (fo : UInt64) (ln : Int32) (gr : Nat → Int32) (sa : Nat → Int32) (le : Nat → UInt64) (pn : Int32) (dl : Nat → UInt32) (pl : Nat → Int32) (dr : Nat → Int32) (sp : Nat → Int32) (p1 : Int32) : Prop :=
  (n_X5_pass fh lh ee tk mo su lv si ga sl sc fo ln gr sa le pn dl pl dr sp p1) ∧
  (∀ (r_2 : Int32) (u_3 : Int32) (u_4 : Int32) (u_5 : UInt64) (u_6 : UInt32) (u_7 : UInt64) (u_8 : Nat → Int32) (u_9 : Nat → UInt64) (u_10 : Nat → UInt32) (u_11 : Nat → Int32) (u_12 : Nat → Int32) (u_13 : Nat → Int32), (Sum.inl (r_2, u_3, u_4, u_5, u_6, u_7, u_8, u_9, u_10, u_11, u_12, u_13) : (Int32 × Int32 × Int32 × UInt64 × UInt32 × UInt64 × (Nat → Int32) × (Nat → UInt64) × (Nat → UInt32) × (Nat → Int32) × (Nat → Int32) × (Nat → Int32)) ⊕ Nat) = f_X5_pass fh lh ee tk mo su lv si ga sl sc fo ln gr sa le pn dl pl dr sp p1 → vp_in 0 1)
set_option maxHeartbeats 4000000 in
set_option maxRecDepth 100000 in
theorem c_L_pass (l : Launch) (G : tm_G) (a0 : Nat) (ma0 : Nat) (ta0 : Nat) (ma1 : Nat) (ma2 : Nat) (ma3 : Nat) (ma4 : Nat) (mb0 : Nat) (mb1 : Nat) (mb2 : Nat) (mb3 : Nat) (mb4 : Nat) (mb5 : Nat) (md0 : Nat) (md1 : Nat) (md2 : Nat) (md3 : Nat) (ob : Nat) (sz : Nat) (lk : Int32) (rf : Int32) (pu : Int32) (to : UInt64) (fh : Int32) (lh : Int32) (ee : Int32) (tk : Int32) (mo : Int32) (su : UInt64) (lv : UInt64) (si : UInt32) (ga : Int32) (sl : Int32) (sc : Int32) (fo : UInt64) (ln : Int32) (ow : Nat → Int32) (gr : Nat → Int32) (we : Nat → Int32) (du : Nat → Int32) (sa : Nat → Int32) (le : Nat → UInt64) (pn : Int32) (dl : Nat → UInt32) (pl : Nat → Int32) (dr : Nat → Int32) (sp : Nat → Int32) (oj : Nat → Int64) (p1 : Int32) (hn : n_L_pass fh lh ee tk mo su lv si ga sl sc fo ln gr sa le pn dl pl dr sp p1) (hlt : l.stackTraces = false) : Met l yL_pass wsL_pass ({ frames := 8, cells := 1, slots := 6, locals := 190 }) (va_Pc [.ref a0, .int p1, .ref ob] (tm_B G [tc_X5 a0 ma0 ta0 lk rf pu to, tc_X1 ma0 ma1 ma2 ma3 ma4 fh lh ee, tc_X4 ma1 tk mo su, tc_X3 ma2 lv si ga sl sc fo, tc_X0 ma3 mb0 mb1 mb2 mb3 mb4 mb5 ln, tc_I G mb0 10 ow, tc_I G mb1 10 gr, tc_I G mb2 10 we, tc_I G mb3 10 du, tc_I G mb4 10 sa, tc_D G mb5 10 le, tc_X2 ma4 md0 md1 md2 md3 pn, tc_F G md0 3 dl, tc_I G md1 3 pl, tc_I G md2 3 dr, tc_I G md3 3 sp, tc_J G ob 1 oj] sz)) (va_Qi (fun (r : Int32) (u : Int32 × Int32 × UInt64 × UInt32 × UInt64 × (Nat → Int32) × (Nat → UInt64) × (Nat → UInt32) × (Nat → Int32) × (Nat → Int32) × (Nat → Int32) × (Nat → Int64)) => (r, u) = f_L_pass fh lh ee tk mo su lv si ga sl sc fo ln gr sa le pn dl pl dr sp oj p1) (fun (u : Int32 × Int32 × UInt64 × UInt32 × UInt64 × (Nat → Int32) × (Nat → UInt64) × (Nat → UInt32) × (Nat → Int32) × (Nat → Int32) × (Nat → Int32) × (Nat → Int64)) (t : State) => va_P G.1 vwCl [tc_X5 a0 ma0 ta0 lk rf pu to, tc_X1 ma0 ma1 ma2 ma3 ma4 fh lh u.1, tc_X4 ma1 u.2.1 mo su, tc_X3 ma2 u.2.2.1 u.2.2.2.1 ga sl sc u.2.2.2.2.1, tc_X0 ma3 mb0 mb1 mb2 mb3 mb4 mb5 ln, tc_I G mb0 10 ow, tc_I G mb1 10 gr, tc_I G mb2 10 we, tc_I G mb3 10 du, tc_I G mb4 10 u.2.2.2.2.2.1, tc_D G mb5 10 u.2.2.2.2.2.2.1, tc_X2 ma4 md0 md1 md2 md3 pn, tc_F G md0 3 u.2.2.2.2.2.2.2.1, tc_I G md1 3 u.2.2.2.2.2.2.2.2.1, tc_I G md2 3 u.2.2.2.2.2.2.2.2.2.1, tc_I G md3 3 u.2.2.2.2.2.2.2.2.2.2.1, tc_J G ob 1 u.2.2.2.2.2.2.2.2.2.2.2] t.heap ∧ va_D (va_A [tc_X5 a0 ma0 ta0 lk rf pu to, tc_X1 ma0 ma1 ma2 ma3 ma4 fh lh ee, tc_X4 ma1 tk mo su, tc_X3 ma2 lv si ga sl sc fo, tc_X0 ma3 mb0 mb1 mb2 mb3 mb4 mb5 ln, tc_I G mb0 10 ow, tc_I G mb1 10 gr, tc_I G mb2 10 we, tc_I G mb3 10 du, tc_I G mb4 10 sa, tc_D G mb5 10 le, tc_X2 ma4 md0 md1 md2 md3 pn, tc_F G md0 3 dl, tc_I G md1 3 pl, tc_I G md2 3 dr, tc_I G md3 3 sp, tc_J G ob 1 oj] sz) [tc_X5 a0 ma0 ta0 lk rf pu to, tc_X1 ma0 ma1 ma2 ma3 ma4 fh lh u.1, tc_X4 ma1 u.2.1 mo su, tc_X3 ma2 u.2.2.1 u.2.2.2.1 ga sl sc u.2.2.2.2.1, tc_X0 ma3 mb0 mb1 mb2 mb3 mb4 mb5 ln, tc_I G mb0 10 ow, tc_I G mb1 10 gr, tc_I G mb2 10 we, tc_I G mb3 10 du, tc_I G mb4 10 u.2.2.2.2.2.1, tc_D G mb5 10 u.2.2.2.2.2.2.1, tc_X2 ma4 md0 md1 md2 md3 pn, tc_F G md0 3 u.2.2.2.2.2.2.2.1, tc_I G md1 3 u.2.2.2.2.2.2.2.2.1, tc_I G md2 3 u.2.2.2.2.2.2.2.2.2.1, tc_I G md3 3 u.2.2.2.2.2.2.2.2.2.2.1, tc_J G ob 1 u.2.2.2.2.2.2.2.2.2.2.2]) (va_A [tc_X5 a0 ma0 ta0 lk rf pu to, tc_X1 ma0 ma1 ma2 ma3 ma4 fh lh ee, tc_X4 ma1 tk mo su, tc_X3 ma2 lv si ga sl sc fo, tc_X0 ma3 mb0 mb1 mb2 mb3 mb4 mb5 ln, tc_I G mb0 10 ow, tc_I G mb1 10 gr, tc_I G mb2 10 we, tc_I G mb3 10 du, tc_I G mb4 10 sa, tc_D G mb5 10 le, tc_X2 ma4 md0 md1 md2 md3 pn, tc_F G md0 3 dl, tc_I G md1 3 pl, tc_I G md2 3 dr, tc_I G md3 3 sp, tc_J G ob 1 oj] sz)) 1 6 (va_A [tc_X5 a0 ma0 ta0 lk rf pu to, tc_X1 ma0 ma1 ma2 ma3 ma4 fh lh ee, tc_X4 ma1 tk mo su, tc_X3 ma2 lv si ga sl sc fo, tc_X0 ma3 mb0 mb1 mb2 mb3 mb4 mb5 ln, tc_I G mb0 10 ow, tc_I G mb1 10 gr, tc_I G mb2 10 we, tc_I G mb3 10 du, tc_I G mb4 10 sa, tc_D G mb5 10 le, tc_X2 ma4 md0 md1 md2 md3 pn, tc_F G md0 3 dl, tc_I G md1 3 pl, tc_I G md2 3 dr, tc_I G md3 3 sp, tc_J G ob 1 oj] sz) := by
  refine tm_metOf ?_
  refine vx_ofWH (cc := cL_pass) (maxL := 4) (ret := (some .int)) (hh :=  [(0, 9, 12, 13), (0, 9, 15, 22)]) (by decide) rfl ?_
  intro p e s m args below meth c s₁ B hml hv
  obtain ⟨rfl, hsz, hP, hK, hD0, hN, hV⟩ := hv
  have hx := B.exec
  have hb := B.bytes
  have hr := B.returns
  have hts := atoms_spec (ws := wsL_pass) B.pre
  have htab : c.exceptionTable.toList = tableOf  [(0, 9, 12, 13), (0, 9, 15, 22)] := vx_table (x := yL_pass) B (atoms_spec (ws := wsL_pass) B.pre _ (List.mem_of_getElem? (i := 0) rfl))
  have hown : s.vm.findClass RL = some m.cls := findClass_of_methodNamed B.named
  have hlocks := B.notSynchronized
  subst hsz
  obtain ⟨n_1, n_14⟩ := hn
  have hD := hD0.self (sz := s.heap.size)
  generalize hAe : va_A [tc_X5 a0 ma0 ta0 lk rf pu to, tc_X1 ma0 ma1 ma2 ma3 ma4 fh lh ee, tc_X4 ma1 tk mo su, tc_X3 ma2 lv si ga sl sc fo, tc_X0 ma3 mb0 mb1 mb2 mb3 mb4 mb5 ln, tc_I G mb0 10 ow, tc_I G mb1 10 gr, tc_I G mb2 10 we, tc_I G mb3 10 du, tc_I G mb4 10 sa, tc_D G mb5 10 le, tc_X2 ma4 md0 md1 md2 md3 pn, tc_F G md0 3 dl, tc_I G md1 3 pl, tc_I G md2 3 dr, tc_I G md3 3 sp, tc_J G ob 1 oj] s.heap.size = A at hD hV ⊢
  have hA : ∀ q : Nat, s.heap.size ≤ q → A q := fun q h => by rw [← hAe]; exact Or.inr h
  have hS : va_S A s.heap s.heap [] := va_S.rf
  have hl := lv_entry ([.ref a0, .int p1, .ref ob]) (n := 4) (Nat.le_of_ble_eq_true rfl)
  rw [lg_entry_eq]
  generalize (lg_sl ([.ref a0, .int p1, .ref ob]) ++ List.replicate (4 - (lg_sl ([.ref a0, .int p1, .ref ob])).length) Slot.unset).toArray = ls at hl ⊢
  have hl : lv_has ls 4 [(0, .ref a0), (1, .int p1), (2, .ref ob)] := hl
  refine lv_aload_n hx hb dL_pass_0 rfl (lv_at hl 2 rfl) ?_
  refine lv_iconst (v := 0) hx hb dL_pass_1 (by decide) ?_
  refine lv_aload_n hx hb dL_pass_2 rfl (lv_at hl 0 rfl) ?_
  refine lv_iload_n hx hb dL_pass_3 rfl (lv_at hl 1 rfl) ?_
  have hPc := hP.sub (ws' := [tc_X5 a0 ma0 ta0 lk rf pu to, tc_X1 ma0 ma1 ma2 ma3 ma4 fh lh ee, tc_X4 ma1 tk mo su, tc_X3 ma2 lv si ga sl sc fo, tc_X0 ma3 mb0 mb1 mb2 mb3 mb4 mb5 ln, tc_I G mb0 10 ow, tc_I G mb1 10 gr, tc_I G mb2 10 we, tc_I G mb3 10 du, tc_I G mb4 10 sa, tc_D G mb5 10 le, tc_X2 ma4 md0 md1 md2 md3 pn, tc_F G md0 3 dl, tc_I G md1 3 pl, tc_I G md2 3 dr, tc_I G md3 3 sp]) [0, 1, 2, 3, 4, 5, 6, 7, 8, 9, 10, 11, 12, 13, 14, 15] rfl
  have hDc := hD.sub (ws' := [tc_X5 a0 ma0 ta0 lk rf pu to, tc_X1 ma0 ma1 ma2 ma3 ma4 fh lh ee, tc_X4 ma1 tk mo su, tc_X3 ma2 lv si ga sl sc fo, tc_X0 ma3 mb0 mb1 mb2 mb3 mb4 mb5 ln, tc_I G mb0 10 ow, tc_I G mb1 10 gr, tc_I G mb2 10 we, tc_I G mb3 10 du, tc_I G mb4 10 sa, tc_D G mb5 10 le, tc_X2 ma4 md0 md1 md2 md3 pn, tc_F G md0 3 dl, tc_I G md1 3 pl, tc_I G md2 3 dr, tc_I G md3 3 sp]) [0, 1, 2, 3, 4, 5, 6, 7, 8, 9, 10, 11, 12, 13, 14, 15] (by decide) rfl
  have hFc := va_free (wc := [tc_X5 a0 ma0 ta0 lk rf pu to, tc_X1 ma0 ma1 ma2 ma3 ma4 fh lh ee, tc_X4 ma1 tk mo su, tc_X3 ma2 lv si ga sl sc fo, tc_X0 ma3 mb0 mb1 mb2 mb3 mb4 mb5 ln, tc_I G mb0 10 ow, tc_I G mb1 10 gr, tc_I G mb2 10 we, tc_I G mb3 10 du, tc_I G mb4 10 sa, tc_D G mb5 10 le, tc_X2 ma4 md0 md1 md2 md3 pn, tc_F G md0 3 dl, tc_I G md1 3 pl, tc_I G md2 3 dr, tc_I G md3 3 sp]) hD hS hA [0, 1, 2, 3, 4, 5, 6, 7, 8, 9, 10, 11, 12, 13, 14, 15] rfl
  refine vx_calli (vx_runV (As := [.int p1]) (rest := [.int 0, .ref ob]) ⟨hx, hb, hml, hown, hts⟩ (c_X5_pass l G a0 ma0 ta0 ma1 ma2 ma3 ma4 mb0 mb1 mb2 mb3 mb4 mb5 md0 md1 md2 md3 s.heap.size lk rf pu to fh lh ee tk mo su lv si ga sl sc fo ln ow gr we du sa le pn dl pl dr sp p1 n_1 hlt) (cwV 1 hts gL_pass_X5_pass rfl rfl rfl (by decide +kernel) ⟨(Nat.le_of_ble_eq_true rfl), (Nat.le_of_ble_eq_true rfl)⟩) (tm_preV hK hN hV hS hPc hDc hFc (va_recv hK hPc (ci := 6) (q0 := 0) rfl rfl)) rfl rfl hl.1 rfl (lv_room (Nat.le_of_ble_eq_true rfl)) dL_pass_4 ⟨(Nat.le_of_ble_eq_true rfl), (Nat.le_of_ble_eq_true rfl)⟩) hS (fun q _ h => hFc q h) hFc (fun q _ h => hFc q h) (fun E9 ce9 q9 k9 st9 H locs ht hvm hw_2 hB hz1 hk1 hS hce hcv hcl => ?_) (fun r_2 u st9 H locs ht hvm hw_2 hB hz1 hk1 hS => ?_)
  · obtain ⟨rfl, hP1, hD1⟩ := hB
    rw [ht] at hP1
    obtain ⟨hP, hD⟩ := va_join (wr := [tc_J G ob 1 oj]) (w1 := [tc_X5 a0 ma0 ta0 lk rf pu to, tc_X1 ma0 ma1 ma2 ma3 ma4 fh lh ee, tc_X4 ma1 tk mo su, tc_X3 ma2 lv si ga sl sc fo, tc_X0 ma3 mb0 mb1 mb2 mb3 mb4 mb5 ln, tc_I G mb0 10 ow, tc_I G mb1 10 gr, tc_I G mb2 10 we, tc_I G mb3 10 du, tc_I G mb4 10 sa, tc_D G mb5 10 le, tc_X2 ma4 md0 md1 md2 md3 pn, tc_F G md0 3 dl, tc_I G md1 3 pl, tc_I G md2 3 dr, tc_I G md3 3 sp]) hP hD [0, 1, 2, 3, 4, 5, 6, 7, 8, 9, 10, 11, 12, 13, 14, 15] [16] rfl rfl (by decide) (by decide) hk1 hFc hP1 hD1
    have hP : va_P G.1 vwCl [tc_J G ob 1 oj, tc_X5 a0 ma0 ta0 lk rf pu to, tc_X1 ma0 ma1 ma2 ma3 ma4 fh lh ee, tc_X4 ma1 tk mo su, tc_X3 ma2 lv si ga sl sc fo, tc_X0 ma3 mb0 mb1 mb2 mb3 mb4 mb5 ln, tc_I G mb0 10 ow, tc_I G mb1 10 gr, tc_I G mb2 10 we, tc_I G mb3 10 du, tc_I G mb4 10 sa, tc_D G mb5 10 le, tc_X2 ma4 md0 md1 md2 md3 pn, tc_F G md0 3 dl, tc_I G md1 3 pl, tc_I G md2 3 dr, tc_I G md3 3 sp] H := hP
    have hD : va_D A [tc_J G ob 1 oj, tc_X5 a0 ma0 ta0 lk rf pu to, tc_X1 ma0 ma1 ma2 ma3 ma4 fh lh ee, tc_X4 ma1 tk mo su, tc_X3 ma2 lv si ga sl sc fo, tc_X0 ma3 mb0 mb1 mb2 mb3 mb4 mb5 ln, tc_I G mb0 10 ow, tc_I G mb1 10 gr, tc_I G mb2 10 we, tc_I G mb3 10 du, tc_I G mb4 10 sa, tc_D G mb5 10 le, tc_X2 ma4 md0 md1 md2 md3 pn, tc_F G md0 3 dl, tc_I G md1 3 pl, tc_I G md2 3 dr, tc_I G md3 3 sp] := hD
    rcases x_X5_pass hw_2 with rfl | rfl
    · refine vx_catch (name := "java/lang/IllegalArgumentException") (E := "java/lang/IllegalArgumentException") hown [] { startPc := 0, endPc := 9, handlerPc := 12, catchType := 13 } [{ startPc := 0, endPc := 9, handlerPc := 15, catchType := 22 }] (by rw [htab]; rfl) (fun z hz => absurd hz List.not_mem_nil) (by decide) (by decide) (hts (.classLink RL 13 "java/lang/IllegalArgumentException") (List.mem_of_getElem? (i := 1) rfl)) (va_Nw.use rfl (hN.2.1 ("java/lang/IllegalArgumentException", "java/lang/IllegalArgumentException") (List.mem_of_getElem? (i := 0) rfl))) hce hcv hcl ?_
      show W p l e _ s m _ below meth c H locs 1 6 _ (F0 m 12 ls [.ref q9])
      refine lv_astore_n (lv' := [(3, .ref q9), (0, .ref a0), (1, .int p1), (2, .ref ob)]) hx hb dL_pass_12 rfl hl (by decide) rfl (fun ls hl => ?_)
      refine lv_iconst (v := 1) hx hb dL_pass_13 (by decide) ?_
      have hP9 := hP.sub (ws' := [tc_X5 a0 ma0 ta0 lk rf pu to, tc_X1 ma0 ma1 ma2 ma3 ma4 fh lh ee, tc_X4 ma1 tk mo su, tc_X3 ma2 lv si ga sl sc fo, tc_X0 ma3 mb0 mb1 mb2 mb3 mb4 mb5 ln, tc_I G mb0 10 ow, tc_I G mb1 10 gr, tc_I G mb2 10 we, tc_I G mb3 10 du, tc_I G mb4 10 sa, tc_D G mb5 10 le, tc_X2 ma4 md0 md1 md2 md3 pn, tc_F G md0 3 dl, tc_I G md1 3 pl, tc_I G md2 3 dr, tc_I G md3 3 sp, tc_J G ob 1 oj]) [1, 2, 3, 4, 5, 6, 7, 8, 9, 10, 11, 12, 13, 14, 15, 16, 0] rfl
      have hD9 := hD.sub (ws' := [tc_X5 a0 ma0 ta0 lk rf pu to, tc_X1 ma0 ma1 ma2 ma3 ma4 fh lh ee, tc_X4 ma1 tk mo su, tc_X3 ma2 lv si ga sl sc fo, tc_X0 ma3 mb0 mb1 mb2 mb3 mb4 mb5 ln, tc_I G mb0 10 ow, tc_I G mb1 10 gr, tc_I G mb2 10 we, tc_I G mb3 10 du, tc_I G mb4 10 sa, tc_D G mb5 10 le, tc_X2 ma4 md0 md1 md2 md3 pn, tc_F G md0 3 dl, tc_I G md1 3 pl, tc_I G md2 3 dr, tc_I G md3 3 sp, tc_J G ob 1 oj]) [1, 2, 3, 4, 5, 6, 7, 8, 9, 10, 11, 12, 13, 14, 15, 16, 0] (by decide) rfl
      refine W.widen (k := 1) (n := 6) (Nat.le_of_ble_eq_true rfl) (Nat.le_of_ble_eq_true rfl) (vx_ret ?_)
      exact W.iret (v := 1) hx hb hr (fun t ht hW => ⟨⟨1, (ee, tk, lv, si, fo, sa, le, dl, pl, dr, sp, oj), rfl, by unfold f_L_pass; all_goals (rw [← hw_2]); all_goals (dsimp only); all_goals rfl, by rw [ht]; exact hP9, hD9⟩, hS.F ht⟩) hS.2.2 dL_pass_14
    · refine vx_catch (name := "java/lang/IllegalStateException") (E := "java/lang/IllegalStateException") hown [{ startPc := 0, endPc := 9, handlerPc := 12, catchType := 13 }] { startPc := 0, endPc := 9, handlerPc := 15, catchType := 22 } [] (by rw [htab]; rfl) (fun z hz => by rw [List.mem_singleton.mp hz]; exact Or.inr ⟨by decide, "java/lang/IllegalArgumentException", (hts (.classLink RL 13 "java/lang/IllegalArgumentException") (List.mem_of_getElem? (i := 1) rfl)), hN.2.2.2.2.2.2.1 ("java/lang/IllegalStateException", "java/lang/IllegalArgumentException") (List.mem_of_getElem? (i := 0) rfl)⟩) (by decide) (by decide) (hts (.classLink RL 22 "java/lang/IllegalStateException") (List.mem_of_getElem? (i := 2) rfl)) (va_Nw.use rfl (hN.2.1 ("java/lang/IllegalStateException", "java/lang/IllegalStateException") (List.mem_of_getElem? (i := 1) rfl))) hce hcv hcl ?_
      show W p l e _ s m _ below meth c H locs 1 6 _ (F0 m 15 ls [.ref q9])
      refine lv_astore_n (lv' := [(3, .ref q9), (0, .ref a0), (1, .int p1), (2, .ref ob)]) hx hb dL_pass_15 rfl hl (by decide) rfl (fun ls hl => ?_)
      refine lv_iconst (v := 2) hx hb dL_pass_16 (by decide) ?_
      have hP9 := hP.sub (ws' := [tc_X5 a0 ma0 ta0 lk rf pu to, tc_X1 ma0 ma1 ma2 ma3 ma4 fh lh ee, tc_X4 ma1 tk mo su, tc_X3 ma2 lv si ga sl sc fo, tc_X0 ma3 mb0 mb1 mb2 mb3 mb4 mb5 ln, tc_I G mb0 10 ow, tc_I G mb1 10 gr, tc_I G mb2 10 we, tc_I G mb3 10 du, tc_I G mb4 10 sa, tc_D G mb5 10 le, tc_X2 ma4 md0 md1 md2 md3 pn, tc_F G md0 3 dl, tc_I G md1 3 pl, tc_I G md2 3 dr, tc_I G md3 3 sp, tc_J G ob 1 oj]) [1, 2, 3, 4, 5, 6, 7, 8, 9, 10, 11, 12, 13, 14, 15, 16, 0] rfl
      have hD9 := hD.sub (ws' := [tc_X5 a0 ma0 ta0 lk rf pu to, tc_X1 ma0 ma1 ma2 ma3 ma4 fh lh ee, tc_X4 ma1 tk mo su, tc_X3 ma2 lv si ga sl sc fo, tc_X0 ma3 mb0 mb1 mb2 mb3 mb4 mb5 ln, tc_I G mb0 10 ow, tc_I G mb1 10 gr, tc_I G mb2 10 we, tc_I G mb3 10 du, tc_I G mb4 10 sa, tc_D G mb5 10 le, tc_X2 ma4 md0 md1 md2 md3 pn, tc_F G md0 3 dl, tc_I G md1 3 pl, tc_I G md2 3 dr, tc_I G md3 3 sp, tc_J G ob 1 oj]) [1, 2, 3, 4, 5, 6, 7, 8, 9, 10, 11, 12, 13, 14, 15, 16, 0] (by decide) rfl
      refine W.widen (k := 1) (n := 6) (Nat.le_of_ble_eq_true rfl) (Nat.le_of_ble_eq_true rfl) (vx_ret ?_)
      exact W.iret (v := 2) hx hb hr (fun t ht hW => ⟨⟨2, (ee, tk, lv, si, fo, sa, le, dl, pl, dr, sp, oj), rfl, by unfold f_L_pass; all_goals (rw [← hw_2]); all_goals (dsimp only); all_goals rfl, by rw [ht]; exact hP9, hD9⟩, hS.F ht⟩) hS.2.2 dL_pass_17
  · obtain ⟨u_3, u_4, u_5, u_6, u_7, u_8, u_9, u_10, u_11, u_12, u_13⟩ := u
    obtain ⟨hP1, hD1⟩ := hB
    rw [ht] at hP1
    try dsimp only at hw_2
    obtain ⟨hP, hD⟩ := va_join (wr := [tc_J G ob 1 oj]) (w1 := [tc_X5 a0 ma0 ta0 lk rf pu to, tc_X1 ma0 ma1 ma2 ma3 ma4 fh lh u_3, tc_X4 ma1 u_4 mo su, tc_X3 ma2 u_5 u_6 ga sl sc u_7, tc_X0 ma3 mb0 mb1 mb2 mb3 mb4 mb5 ln, tc_I G mb0 10 ow, tc_I G mb1 10 gr, tc_I G mb2 10 we, tc_I G mb3 10 du, tc_I G mb4 10 u_8, tc_D G mb5 10 u_9, tc_X2 ma4 md0 md1 md2 md3 pn, tc_F G md0 3 u_10, tc_I G md1 3 u_11, tc_I G md2 3 u_12, tc_I G md3 3 u_13]) hP hD [0, 1, 2, 3, 4, 5, 6, 7, 8, 9, 10, 11, 12, 13, 14, 15] [16] rfl rfl (by decide) (by decide) hk1 hFc hP1 hD1
    have hP : va_P G.1 vwCl [tc_J G ob 1 oj, tc_X5 a0 ma0 ta0 lk rf pu to, tc_X1 ma0 ma1 ma2 ma3 ma4 fh lh u_3, tc_X4 ma1 u_4 mo su, tc_X3 ma2 u_5 u_6 ga sl sc u_7, tc_X0 ma3 mb0 mb1 mb2 mb3 mb4 mb5 ln, tc_I G mb0 10 ow, tc_I G mb1 10 gr, tc_I G mb2 10 we, tc_I G mb3 10 du, tc_I G mb4 10 u_8, tc_D G mb5 10 u_9, tc_X2 ma4 md0 md1 md2 md3 pn, tc_F G md0 3 u_10, tc_I G md1 3 u_11, tc_I G md2 3 u_12, tc_I G md3 3 u_13] H := hP
    have hD : va_D A [tc_J G ob 1 oj, tc_X5 a0 ma0 ta0 lk rf pu to, tc_X1 ma0 ma1 ma2 ma3 ma4 fh lh u_3, tc_X4 ma1 u_4 mo su, tc_X3 ma2 u_5 u_6 ga sl sc u_7, tc_X0 ma3 mb0 mb1 mb2 mb3 mb4 mb5 ln, tc_I G mb0 10 ow, tc_I G mb1 10 gr, tc_I G mb2 10 we, tc_I G mb3 10 du, tc_I G mb4 10 u_8, tc_D G mb5 10 u_9, tc_X2 ma4 md0 md1 md2 md3 pn, tc_F G md0 3 u_10, tc_I G md1 3 u_11, tc_I G md2 3 u_12, tc_I G md3 3 u_13] := hD
    refine W.widen (k := 1) (n := 6) (Nat.le_of_ble_eq_true rfl) (Nat.le_of_ble_eq_true rfl) ?_
    refine lv_i2l (v := r_2.toInt64) hx hb dL_pass_7 rfl ?_
    refine va_last (n := 1) (f := oj) hx hb hK hP hD hS 0 5 rfl rfl (n_14 r_2 u_3 u_4 u_5 u_6 u_7 u_8 u_9 u_10 u_11 u_12 u_13 hw_2) dL_pass_8 (fun H locs hP hD hS => ?_)
    have hP : va_P G.1 vwCl [tc_J G ob 1 (vp_updL oj (0 : Int32).toNatClampNeg r_2.toInt64), tc_X5 a0 ma0 ta0 lk rf pu to, tc_X1 ma0 ma1 ma2 ma3 ma4 fh lh u_3, tc_X4 ma1 u_4 mo su, tc_X3 ma2 u_5 u_6 ga sl sc u_7, tc_X0 ma3 mb0 mb1 mb2 mb3 mb4 mb5 ln, tc_I G mb0 10 ow, tc_I G mb1 10 gr, tc_I G mb2 10 we, tc_I G mb3 10 du, tc_I G mb4 10 u_8, tc_D G mb5 10 u_9, tc_X2 ma4 md0 md1 md2 md3 pn, tc_F G md0 3 u_10, tc_I G md1 3 u_11, tc_I G md2 3 u_12, tc_I G md3 3 u_13] H := hP
    have hD : va_D A [tc_J G ob 1 (vp_updL oj (0 : Int32).toNatClampNeg r_2.toInt64), tc_X5 a0 ma0 ta0 lk rf pu to, tc_X1 ma0 ma1 ma2 ma3 ma4 fh lh u_3, tc_X4 ma1 u_4 mo su, tc_X3 ma2 u_5 u_6 ga sl sc u_7, tc_X0 ma3 mb0 mb1 mb2 mb3 mb4 mb5 ln, tc_I G mb0 10 ow, tc_I G mb1 10 gr, tc_I G mb2 10 we, tc_I G mb3 10 du, tc_I G mb4 10 u_8, tc_D G mb5 10 u_9, tc_X2 ma4 md0 md1 md2 md3 pn, tc_F G md0 3 u_10, tc_I G md1 3 u_11, tc_I G md2 3 u_12, tc_I G md3 3 u_13] := hD
    refine lv_goto (tgt := 18) hx hb dL_pass_9 (by decide) ?_
    refine lv_iconst (v := 0) hx hb dL_pass_18 (by decide) ?_
    have hP9 := hP.sub (ws' := [tc_X5 a0 ma0 ta0 lk rf pu to, tc_X1 ma0 ma1 ma2 ma3 ma4 fh lh u_3, tc_X4 ma1 u_4 mo su, tc_X3 ma2 u_5 u_6 ga sl sc u_7, tc_X0 ma3 mb0 mb1 mb2 mb3 mb4 mb5 ln, tc_I G mb0 10 ow, tc_I G mb1 10 gr, tc_I G mb2 10 we, tc_I G mb3 10 du, tc_I G mb4 10 u_8, tc_D G mb5 10 u_9, tc_X2 ma4 md0 md1 md2 md3 pn, tc_F G md0 3 u_10, tc_I G md1 3 u_11, tc_I G md2 3 u_12, tc_I G md3 3 u_13, tc_J G ob 1 (vp_updL oj (0 : Int32).toNatClampNeg r_2.toInt64)]) [1, 2, 3, 4, 5, 6, 7, 8, 9, 10, 11, 12, 13, 14, 15, 16, 0] rfl
    have hD9 := hD.sub (ws' := [tc_X5 a0 ma0 ta0 lk rf pu to, tc_X1 ma0 ma1 ma2 ma3 ma4 fh lh u_3, tc_X4 ma1 u_4 mo su, tc_X3 ma2 u_5 u_6 ga sl sc u_7, tc_X0 ma3 mb0 mb1 mb2 mb3 mb4 mb5 ln, tc_I G mb0 10 ow, tc_I G mb1 10 gr, tc_I G mb2 10 we, tc_I G mb3 10 du, tc_I G mb4 10 u_8, tc_D G mb5 10 u_9, tc_X2 ma4 md0 md1 md2 md3 pn, tc_F G md0 3 u_10, tc_I G md1 3 u_11, tc_I G md2 3 u_12, tc_I G md3 3 u_13, tc_J G ob 1 (vp_updL oj (0 : Int32).toNatClampNeg r_2.toInt64)]) [1, 2, 3, 4, 5, 6, 7, 8, 9, 10, 11, 12, 13, 14, 15, 16, 0] (by decide) rfl
    refine W.widen (k := 1) (n := 6) (Nat.le_of_ble_eq_true rfl) (Nat.le_of_ble_eq_true rfl) (vx_ret ?_)
    exact W.iret (v := 0) hx hb hr (fun t ht hW => ⟨⟨0, (u_3, u_4, u_5, u_6, u_7, u_8, u_9, u_10, u_11, u_12, u_13, vp_updL oj (0 : Int32).toNatClampNeg r_2.toInt64), rfl, by unfold f_L_pass; all_goals (rw [← hw_2]); all_goals (dsimp only); all_goals rfl, by rw [ht]; exact hP9, hD9⟩, hS.F ht⟩) hS.2.2 dL_pass_19
theorem x_X5_sea {tk : Int32} {mo : Int32} {su : UInt64} {p1 : Int32} {k : Nat} (h : (Sum.inr k : (UInt64) ⊕ Nat) = f_X5_sea tk mo su p1) : k = 0 := by
  unfold f_X5_sea at h
  repeat' split at h
  all_goals first | (cases h; done) | (cases h; simp)
def f_L_sea (tk : Int32) (mo : Int32) (su : UInt64) (od : Nat → UInt64) (p1 : Int32) : Int32 × (Nat → UInt64) :=
  (match f_X5_sea tk mo su p1 with | .inl r_2 => (0, vf_upd od (0 : Int32).toNatClampNeg r_2) | .inr k9 => (1, od))
def n_L_sea (tk : Int32) (mo : Int32) (su : UInt64) (p1 : Int32) : Prop :=
  (n_X5_sea tk mo su p1) ∧
  (∀ (r_2 : UInt64), (Sum.inl r_2 : (UInt64) ⊕ Nat) = f_X5_sea tk mo su p1 → vp_in 0 1)
set_option maxHeartbeats 4000000 in
set_option maxRecDepth 100000 in
theorem c_L_sea (l : Launch) (G : tm_G) (a0 : Nat) (ma0 : Nat) (ta0 : Nat) (ma1 : Nat) (ma2 : Nat) (ma3 : Nat) (ma4 : Nat) (ob : Nat) (sz : Nat) (lk : Int32) (rf : Int32) (pu : Int32) (to : UInt64) (fh : Int32) (lh : Int32) (ee : Int32) (tk : Int32) (mo : Int32) (su : UInt64) (od : Nat → UInt64) (p1 : Int32) (hn : n_L_sea tk mo su p1) (hlt : l.stackTraces = false) : Met l yL_sea wsL_sea ({ frames := 7, cells := 1, slots := 6, locals := 117 }) (va_Pc [.ref a0, .int p1, .ref ob] (tm_B G [tc_X5 a0 ma0 ta0 lk rf pu to, tc_X1 ma0 ma1 ma2 ma3 ma4 fh lh ee, tc_X4 ma1 tk mo su, tc_D G ob 1 od] sz)) (va_Qi (fun (r : Int32) (u : (Nat → UInt64)) => (r, u) = f_L_sea tk mo su od p1) (fun (u : (Nat → UInt64)) (t : State) => va_P G.1 vwCl [tc_X5 a0 ma0 ta0 lk rf pu to, tc_X1 ma0 ma1 ma2 ma3 ma4 fh lh ee, tc_X4 ma1 tk mo su, tc_D G ob 1 u] t.heap ∧ va_D (va_A [tc_X5 a0 ma0 ta0 lk rf pu to, tc_X1 ma0 ma1 ma2 ma3 ma4 fh lh ee, tc_X4 ma1 tk mo su, tc_D G ob 1 od] sz) [tc_X5 a0 ma0 ta0 lk rf pu to, tc_X1 ma0 ma1 ma2 ma3 ma4 fh lh ee, tc_X4 ma1 tk mo su, tc_D G ob 1 u]) (va_A [tc_X5 a0 ma0 ta0 lk rf pu to, tc_X1 ma0 ma1 ma2 ma3 ma4 fh lh ee, tc_X4 ma1 tk mo su, tc_D G ob 1 od] sz)) 1 6 (va_A [tc_X5 a0 ma0 ta0 lk rf pu to, tc_X1 ma0 ma1 ma2 ma3 ma4 fh lh ee, tc_X4 ma1 tk mo su, tc_D G ob 1 od] sz) := by
  refine tm_metOf ?_
  refine vx_ofWH (cc := cL_sea) (maxL := 4) (ret := (some .int)) (hh :=  [(0, 8, 11, 13)]) (by decide) rfl ?_
  intro p e s m args below meth c s₁ B hml hv
  obtain ⟨rfl, hsz, hP, hK, hD0, hN, hV⟩ := hv
  have hx := B.exec
  have hb := B.bytes
  have hr := B.returns
  have hts := atoms_spec (ws := wsL_sea) B.pre
  have htab : c.exceptionTable.toList = tableOf  [(0, 8, 11, 13)] := vx_table (x := yL_sea) B (atoms_spec (ws := wsL_sea) B.pre _ (List.mem_of_getElem? (i := 0) rfl))
  have hown : s.vm.findClass RL = some m.cls := findClass_of_methodNamed B.named
  have hlocks := B.notSynchronized
  subst hsz
  obtain ⟨n_1, n_3⟩ := hn
  have hD := hD0.self (sz := s.heap.size)
  generalize hAe : va_A [tc_X5 a0 ma0 ta0 lk rf pu to, tc_X1 ma0 ma1 ma2 ma3 ma4 fh lh ee, tc_X4 ma1 tk mo su, tc_D G ob 1 od] s.heap.size = A at hD hV ⊢
  have hA : ∀ q : Nat, s.heap.size ≤ q → A q := fun q h => by rw [← hAe]; exact Or.inr h
  have hS : va_S A s.heap s.heap [] := va_S.rf
  have hl := lv_entry ([.ref a0, .int p1, .ref ob]) (n := 4) (Nat.le_of_ble_eq_true rfl)
  rw [lg_entry_eq]
  generalize (lg_sl ([.ref a0, .int p1, .ref ob]) ++ List.replicate (4 - (lg_sl ([.ref a0, .int p1, .ref ob])).length) Slot.unset).toArray = ls at hl ⊢
  have hl : lv_has ls 4 [(0, .ref a0), (1, .int p1), (2, .ref ob)] := hl
  refine lv_aload_n hx hb dL_sea_0 rfl (lv_at hl 2 rfl) ?_
  refine lv_iconst (v := 0) hx hb dL_sea_1 (by decide) ?_
  refine lv_aload_n hx hb dL_sea_2 rfl (lv_at hl 0 rfl) ?_
  refine lv_iload_n hx hb dL_sea_3 rfl (lv_at hl 1 rfl) ?_
  have hPc := hP.sub (ws' := [tc_X5 a0 ma0 ta0 lk rf pu to, tc_X1 ma0 ma1 ma2 ma3 ma4 fh lh ee, tc_X4 ma1 tk mo su]) [0, 1, 2] rfl
  have hDc := hD.sub (ws' := [tc_X5 a0 ma0 ta0 lk rf pu to, tc_X1 ma0 ma1 ma2 ma3 ma4 fh lh ee, tc_X4 ma1 tk mo su]) [0, 1, 2] (by decide) rfl
  have hFc := va_free (wc := [tc_X5 a0 ma0 ta0 lk rf pu to, tc_X1 ma0 ma1 ma2 ma3 ma4 fh lh ee, tc_X4 ma1 tk mo su]) hD hS hA [0, 1, 2] rfl
  refine vx_calld (vx_runV (As := [.int p1]) (rest := [.int 0, .ref ob]) ⟨hx, hb, hml, hown, hts⟩ (c_X5_sea l G a0 ma0 ta0 ma1 ma2 ma3 ma4 s.heap.size lk rf pu to fh lh ee tk mo su p1 n_1 hlt) (cwV 1 hts gL_sea_X5_sea rfl rfl rfl (by decide +kernel) ⟨(Nat.le_of_ble_eq_true rfl), (Nat.le_of_ble_eq_true rfl)⟩) (tm_preV hK hN hV hS hPc hDc hFc (va_recv hK hPc (ci := 6) (q0 := 0) rfl rfl)) rfl rfl hl.1 rfl (lv_room (Nat.le_of_ble_eq_true rfl)) dL_sea_4 ⟨(Nat.le_of_ble_eq_true rfl), (Nat.le_of_ble_eq_true rfl)⟩) hS (fun q _ h => hFc q h) hFc (fun q _ h => hFc q h) (fun E9 ce9 q9 k9 st9 H locs ht hvm hw_2 hB hz1 hk1 hS hce hcv hcl => ?_) (fun r_2 u st9 H locs ht hvm hw_2 hB hz1 hk1 hS => ?_)
  · obtain ⟨rfl, hP1, hD1⟩ := hB
    rw [ht] at hP1
    obtain ⟨hP, hD⟩ := va_join (wr := [tc_D G ob 1 od]) (w1 := [tc_X5 a0 ma0 ta0 lk rf pu to, tc_X1 ma0 ma1 ma2 ma3 ma4 fh lh ee, tc_X4 ma1 tk mo su]) hP hD [0, 1, 2] [3] rfl rfl (by decide) (by decide) hk1 hFc hP1 hD1
    have hP : va_P G.1 vwCl [tc_D G ob 1 od, tc_X5 a0 ma0 ta0 lk rf pu to, tc_X1 ma0 ma1 ma2 ma3 ma4 fh lh ee, tc_X4 ma1 tk mo su] H := hP
    have hD : va_D A [tc_D G ob 1 od, tc_X5 a0 ma0 ta0 lk rf pu to, tc_X1 ma0 ma1 ma2 ma3 ma4 fh lh ee, tc_X4 ma1 tk mo su] := hD
    obtain rfl := x_X5_sea hw_2
    · refine vx_catch (name := "java/lang/IllegalArgumentException") (E := "java/lang/IllegalArgumentException") hown [] { startPc := 0, endPc := 8, handlerPc := 11, catchType := 13 } [] (by rw [htab]; rfl) (fun z hz => absurd hz List.not_mem_nil) (by decide) (by decide) (hts (.classLink RL 13 "java/lang/IllegalArgumentException") (List.mem_of_getElem? (i := 1) rfl)) (va_Nw.use rfl (hN.2.1 ("java/lang/IllegalArgumentException", "java/lang/IllegalArgumentException") (List.mem_of_getElem? (i := 0) rfl))) hce hcv hcl ?_
      show W p l e _ s m _ below meth c H locs 1 6 _ (F0 m 11 ls [.ref q9])
      refine lv_astore_n (lv' := [(3, .ref q9), (0, .ref a0), (1, .int p1), (2, .ref ob)]) hx hb dL_sea_11 rfl hl (by decide) rfl (fun ls hl => ?_)
      refine lv_iconst (v := 1) hx hb dL_sea_12 (by decide) ?_
      have hP9 := hP.sub (ws' := [tc_X5 a0 ma0 ta0 lk rf pu to, tc_X1 ma0 ma1 ma2 ma3 ma4 fh lh ee, tc_X4 ma1 tk mo su, tc_D G ob 1 od]) [1, 2, 3, 0] rfl
      have hD9 := hD.sub (ws' := [tc_X5 a0 ma0 ta0 lk rf pu to, tc_X1 ma0 ma1 ma2 ma3 ma4 fh lh ee, tc_X4 ma1 tk mo su, tc_D G ob 1 od]) [1, 2, 3, 0] (by decide) rfl
      refine W.widen (k := 1) (n := 6) (Nat.le_of_ble_eq_true rfl) (Nat.le_of_ble_eq_true rfl) (vx_ret ?_)
      exact W.iret (v := 1) hx hb hr (fun t ht hW => ⟨⟨1, (od), rfl, by unfold f_L_sea; all_goals (rw [← hw_2]); all_goals (dsimp only); all_goals rfl, by rw [ht]; exact hP9, hD9⟩, hS.F ht⟩) hS.2.2 dL_sea_13
  · obtain ⟨hP1, hD1⟩ := hB
    rw [ht] at hP1
    try dsimp only at hw_2
    obtain ⟨hP, hD⟩ := va_join (wr := [tc_D G ob 1 od]) (w1 := [tc_X5 a0 ma0 ta0 lk rf pu to, tc_X1 ma0 ma1 ma2 ma3 ma4 fh lh ee, tc_X4 ma1 tk mo su]) hP hD [0, 1, 2] [3] rfl rfl (by decide) (by decide) hk1 hFc hP1 hD1
    have hP : va_P G.1 vwCl [tc_D G ob 1 od, tc_X5 a0 ma0 ta0 lk rf pu to, tc_X1 ma0 ma1 ma2 ma3 ma4 fh lh ee, tc_X4 ma1 tk mo su] H := hP
    have hD : va_D A [tc_D G ob 1 od, tc_X5 a0 ma0 ta0 lk rf pu to, tc_X1 ma0 ma1 ma2 ma3 ma4 fh lh ee, tc_X4 ma1 tk mo su] := hD
    refine W.widen (k := 1) (n := 6) (Nat.le_of_ble_eq_true rfl) (Nat.le_of_ble_eq_true rfl) ?_
    refine va_dast (n := 1) (f := od) hx hb hK hP hD hS 0 1 rfl rfl (n_3 r_2 hw_2) dL_sea_7 (fun H locs hP hD hS => ?_)
    have hP : va_P G.1 vwCl [tc_D G ob 1 (vf_upd od (0 : Int32).toNatClampNeg r_2), tc_X5 a0 ma0 ta0 lk rf pu to, tc_X1 ma0 ma1 ma2 ma3 ma4 fh lh ee, tc_X4 ma1 tk mo su] H := hP
    have hD : va_D A [tc_D G ob 1 (vf_upd od (0 : Int32).toNatClampNeg r_2), tc_X5 a0 ma0 ta0 lk rf pu to, tc_X1 ma0 ma1 ma2 ma3 ma4 fh lh ee, tc_X4 ma1 tk mo su] := hD
    refine lv_goto (tgt := 14) hx hb dL_sea_8 (by decide) ?_
    refine lv_iconst (v := 0) hx hb dL_sea_14 (by decide) ?_
    have hP9 := hP.sub (ws' := [tc_X5 a0 ma0 ta0 lk rf pu to, tc_X1 ma0 ma1 ma2 ma3 ma4 fh lh ee, tc_X4 ma1 tk mo su, tc_D G ob 1 (vf_upd od (0 : Int32).toNatClampNeg r_2)]) [1, 2, 3, 0] rfl
    have hD9 := hD.sub (ws' := [tc_X5 a0 ma0 ta0 lk rf pu to, tc_X1 ma0 ma1 ma2 ma3 ma4 fh lh ee, tc_X4 ma1 tk mo su, tc_D G ob 1 (vf_upd od (0 : Int32).toNatClampNeg r_2)]) [1, 2, 3, 0] (by decide) rfl
    refine W.widen (k := 1) (n := 6) (Nat.le_of_ble_eq_true rfl) (Nat.le_of_ble_eq_true rfl) (vx_ret ?_)
    exact W.iret (v := 0) hx hb hr (fun t ht hW => ⟨⟨0, (vf_upd od (0 : Int32).toNatClampNeg r_2), rfl, by unfold f_L_sea; all_goals (rw [← hw_2]); all_goals (dsimp only); all_goals rfl, by rw [ht]; exact hP9, hD9⟩, hS.F ht⟩) hS.2.2 dL_sea_15
theorem x_X5_pond {to : UInt64} {tk : Int32} {mo : Int32} {lv : UInt64} {si : UInt32} {fo : UInt64} {p1 : Int32} {k : Nat} (h : (Sum.inr k : (UInt64) ⊕ Nat) = f_X5_pond to tk mo lv si fo p1) : k = 0 := by
  unfold f_X5_pond at h
  repeat' split at h
  all_goals first | (cases h; done) | (cases h; simp)
def f_L_pond (to : UInt64) (tk : Int32) (mo : Int32) (lv : UInt64) (si : UInt32) (fo : UInt64) (od : Nat → UInt64) (p1 : Int32) : Int32 × (Nat → UInt64) :=
  (match f_X5_pond to tk mo lv si fo p1 with | .inl r_2 => (0, vf_upd od (0 : Int32).toNatClampNeg r_2) | .inr k9 => (1, od))
def n_L_pond (to : UInt64) (tk : Int32) (mo : Int32) (lv : UInt64) (si : UInt32) (fo : UInt64) (p1 : Int32) : Prop :=
  (n_X5_pond tk mo si p1) ∧
  (∀ (r_2 : UInt64), (Sum.inl r_2 : (UInt64) ⊕ Nat) = f_X5_pond to tk mo lv si fo p1 → vp_in 0 1)
set_option maxHeartbeats 4000000 in
set_option maxRecDepth 100000 in
theorem c_L_pond (l : Launch) (G : tm_G) (a0 : Nat) (ma0 : Nat) (ta0 : Nat) (ma1 : Nat) (ma2 : Nat) (ma3 : Nat) (ma4 : Nat) (ob : Nat) (sz : Nat) (lk : Int32) (rf : Int32) (pu : Int32) (to : UInt64) (fh : Int32) (lh : Int32) (ee : Int32) (tk : Int32) (mo : Int32) (su : UInt64) (lv : UInt64) (si : UInt32) (ga : Int32) (sl : Int32) (sc : Int32) (fo : UInt64) (od : Nat → UInt64) (p1 : Int32) (hn : n_L_pond to tk mo lv si fo p1) (hlt : l.stackTraces = false) : Met l yL_pond wsL_pond ({ frames := 7, cells := 1, slots := 6, locals := 117 }) (va_Pc [.ref a0, .int p1, .ref ob] (tm_B G [tc_X5 a0 ma0 ta0 lk rf pu to, tc_X1 ma0 ma1 ma2 ma3 ma4 fh lh ee, tc_X4 ma1 tk mo su, tc_X3 ma2 lv si ga sl sc fo, tc_D G ob 1 od] sz)) (va_Qi (fun (r : Int32) (u : (Nat → UInt64)) => (r, u) = f_L_pond to tk mo lv si fo od p1) (fun (u : (Nat → UInt64)) (t : State) => va_P G.1 vwCl [tc_X5 a0 ma0 ta0 lk rf pu to, tc_X1 ma0 ma1 ma2 ma3 ma4 fh lh ee, tc_X4 ma1 tk mo su, tc_X3 ma2 lv si ga sl sc fo, tc_D G ob 1 u] t.heap ∧ va_D (va_A [tc_X5 a0 ma0 ta0 lk rf pu to, tc_X1 ma0 ma1 ma2 ma3 ma4 fh lh ee, tc_X4 ma1 tk mo su, tc_X3 ma2 lv si ga sl sc fo, tc_D G ob 1 od] sz) [tc_X5 a0 ma0 ta0 lk rf pu to, tc_X1 ma0 ma1 ma2 ma3 ma4 fh lh ee, tc_X4 ma1 tk mo su, tc_X3 ma2 lv si ga sl sc fo, tc_D G ob 1 u]) (va_A [tc_X5 a0 ma0 ta0 lk rf pu to, tc_X1 ma0 ma1 ma2 ma3 ma4 fh lh ee, tc_X4 ma1 tk mo su, tc_X3 ma2 lv si ga sl sc fo, tc_D G ob 1 od] sz)) 1 6 (va_A [tc_X5 a0 ma0 ta0 lk rf pu to, tc_X1 ma0 ma1 ma2 ma3 ma4 fh lh ee, tc_X4 ma1 tk mo su, tc_X3 ma2 lv si ga sl sc fo, tc_D G ob 1 od] sz) := by
  refine tm_metOf ?_
  refine vx_ofWH (cc := cL_pond) (maxL := 4) (ret := (some .int)) (hh :=  [(0, 8, 11, 13)]) (by decide) rfl ?_
  intro p e s m args below meth c s₁ B hml hv
  obtain ⟨rfl, hsz, hP, hK, hD0, hN, hV⟩ := hv
  have hx := B.exec
  have hb := B.bytes
  have hr := B.returns
  have hts := atoms_spec (ws := wsL_pond) B.pre
  have htab : c.exceptionTable.toList = tableOf  [(0, 8, 11, 13)] := vx_table (x := yL_pond) B (atoms_spec (ws := wsL_pond) B.pre _ (List.mem_of_getElem? (i := 0) rfl))
  have hown : s.vm.findClass RL = some m.cls := findClass_of_methodNamed B.named
  have hlocks := B.notSynchronized
  subst hsz
  obtain ⟨n_1, n_3⟩ := hn
  have hD := hD0.self (sz := s.heap.size)
  generalize hAe : va_A [tc_X5 a0 ma0 ta0 lk rf pu to, tc_X1 ma0 ma1 ma2 ma3 ma4 fh lh ee, tc_X4 ma1 tk mo su, tc_X3 ma2 lv si ga sl sc fo, tc_D G ob 1 od] s.heap.size = A at hD hV ⊢
  have hA : ∀ q : Nat, s.heap.size ≤ q → A q := fun q h => by rw [← hAe]; exact Or.inr h
  have hS : va_S A s.heap s.heap [] := va_S.rf
  have hl := lv_entry ([.ref a0, .int p1, .ref ob]) (n := 4) (Nat.le_of_ble_eq_true rfl)
  rw [lg_entry_eq]
  generalize (lg_sl ([.ref a0, .int p1, .ref ob]) ++ List.replicate (4 - (lg_sl ([.ref a0, .int p1, .ref ob])).length) Slot.unset).toArray = ls at hl ⊢
  have hl : lv_has ls 4 [(0, .ref a0), (1, .int p1), (2, .ref ob)] := hl
  refine lv_aload_n hx hb dL_pond_0 rfl (lv_at hl 2 rfl) ?_
  refine lv_iconst (v := 0) hx hb dL_pond_1 (by decide) ?_
  refine lv_aload_n hx hb dL_pond_2 rfl (lv_at hl 0 rfl) ?_
  refine lv_iload_n hx hb dL_pond_3 rfl (lv_at hl 1 rfl) ?_
  have hPc := hP.sub (ws' := [tc_X5 a0 ma0 ta0 lk rf pu to, tc_X1 ma0 ma1 ma2 ma3 ma4 fh lh ee, tc_X4 ma1 tk mo su, tc_X3 ma2 lv si ga sl sc fo]) [0, 1, 2, 3] rfl
  have hDc := hD.sub (ws' := [tc_X5 a0 ma0 ta0 lk rf pu to, tc_X1 ma0 ma1 ma2 ma3 ma4 fh lh ee, tc_X4 ma1 tk mo su, tc_X3 ma2 lv si ga sl sc fo]) [0, 1, 2, 3] (by decide) rfl
  have hFc := va_free (wc := [tc_X5 a0 ma0 ta0 lk rf pu to, tc_X1 ma0 ma1 ma2 ma3 ma4 fh lh ee, tc_X4 ma1 tk mo su, tc_X3 ma2 lv si ga sl sc fo]) hD hS hA [0, 1, 2, 3] rfl
  refine vx_calld (vx_runV (As := [.int p1]) (rest := [.int 0, .ref ob]) ⟨hx, hb, hml, hown, hts⟩ (c_X5_pond l G a0 ma0 ta0 ma1 ma2 ma3 ma4 s.heap.size lk rf pu to fh lh ee tk mo su lv si ga sl sc fo p1 n_1 hlt) (cwV 1 hts gL_pond_X5_pond rfl rfl rfl (by decide +kernel) ⟨(Nat.le_of_ble_eq_true rfl), (Nat.le_of_ble_eq_true rfl)⟩) (tm_preV hK hN hV hS hPc hDc hFc (va_recv hK hPc (ci := 6) (q0 := 0) rfl rfl)) rfl rfl hl.1 rfl (lv_room (Nat.le_of_ble_eq_true rfl)) dL_pond_4 ⟨(Nat.le_of_ble_eq_true rfl), (Nat.le_of_ble_eq_true rfl)⟩) hS (fun q _ h => hFc q h) hFc (fun q _ h => hFc q h) (fun E9 ce9 q9 k9 st9 H locs ht hvm hw_2 hB hz1 hk1 hS hce hcv hcl => ?_) (fun r_2 u st9 H locs ht hvm hw_2 hB hz1 hk1 hS => ?_)
  · obtain ⟨rfl, hP1, hD1⟩ := hB
    rw [ht] at hP1
    obtain ⟨hP, hD⟩ := va_join (wr := [tc_D G ob 1 od]) (w1 := [tc_X5 a0 ma0 ta0 lk rf pu to, tc_X1 ma0 ma1 ma2 ma3 ma4 fh lh ee, tc_X4 ma1 tk mo su, tc_X3 ma2 lv si ga sl sc fo]) hP hD [0, 1, 2, 3] [4] rfl rfl (by decide) (by decide) hk1 hFc hP1 hD1
    have hP : va_P G.1 vwCl [tc_D G ob 1 od, tc_X5 a0 ma0 ta0 lk rf pu to, tc_X1 ma0 ma1 ma2 ma3 ma4 fh lh ee, tc_X4 ma1 tk mo su, tc_X3 ma2 lv si ga sl sc fo] H := hP
    have hD : va_D A [tc_D G ob 1 od, tc_X5 a0 ma0 ta0 lk rf pu to, tc_X1 ma0 ma1 ma2 ma3 ma4 fh lh ee, tc_X4 ma1 tk mo su, tc_X3 ma2 lv si ga sl sc fo] := hD
    obtain rfl := x_X5_pond hw_2
    · refine vx_catch (name := "java/lang/IllegalArgumentException") (E := "java/lang/IllegalArgumentException") hown [] { startPc := 0, endPc := 8, handlerPc := 11, catchType := 13 } [] (by rw [htab]; rfl) (fun z hz => absurd hz List.not_mem_nil) (by decide) (by decide) (hts (.classLink RL 13 "java/lang/IllegalArgumentException") (List.mem_of_getElem? (i := 1) rfl)) (va_Nw.use rfl (hN.2.1 ("java/lang/IllegalArgumentException", "java/lang/IllegalArgumentException") (List.mem_of_getElem? (i := 0) rfl))) hce hcv hcl ?_
      show W p l e _ s m _ below meth c H locs 1 6 _ (F0 m 11 ls [.ref q9])
      refine lv_astore_n (lv' := [(3, .ref q9), (0, .ref a0), (1, .int p1), (2, .ref ob)]) hx hb dL_pond_11 rfl hl (by decide) rfl (fun ls hl => ?_)
      refine lv_iconst (v := 1) hx hb dL_pond_12 (by decide) ?_
      have hP9 := hP.sub (ws' := [tc_X5 a0 ma0 ta0 lk rf pu to, tc_X1 ma0 ma1 ma2 ma3 ma4 fh lh ee, tc_X4 ma1 tk mo su, tc_X3 ma2 lv si ga sl sc fo, tc_D G ob 1 od]) [1, 2, 3, 4, 0] rfl
      have hD9 := hD.sub (ws' := [tc_X5 a0 ma0 ta0 lk rf pu to, tc_X1 ma0 ma1 ma2 ma3 ma4 fh lh ee, tc_X4 ma1 tk mo su, tc_X3 ma2 lv si ga sl sc fo, tc_D G ob 1 od]) [1, 2, 3, 4, 0] (by decide) rfl
      refine W.widen (k := 1) (n := 6) (Nat.le_of_ble_eq_true rfl) (Nat.le_of_ble_eq_true rfl) (vx_ret ?_)
      exact W.iret (v := 1) hx hb hr (fun t ht hW => ⟨⟨1, (od), rfl, by unfold f_L_pond; all_goals (rw [← hw_2]); all_goals (dsimp only); all_goals rfl, by rw [ht]; exact hP9, hD9⟩, hS.F ht⟩) hS.2.2 dL_pond_13
  · obtain ⟨hP1, hD1⟩ := hB
    rw [ht] at hP1
    try dsimp only at hw_2
    obtain ⟨hP, hD⟩ := va_join (wr := [tc_D G ob 1 od]) (w1 := [tc_X5 a0 ma0 ta0 lk rf pu to, tc_X1 ma0 ma1 ma2 ma3 ma4 fh lh ee, tc_X4 ma1 tk mo su, tc_X3 ma2 lv si ga sl sc fo]) hP hD [0, 1, 2, 3] [4] rfl rfl (by decide) (by decide) hk1 hFc hP1 hD1
    have hP : va_P G.1 vwCl [tc_D G ob 1 od, tc_X5 a0 ma0 ta0 lk rf pu to, tc_X1 ma0 ma1 ma2 ma3 ma4 fh lh ee, tc_X4 ma1 tk mo su, tc_X3 ma2 lv si ga sl sc fo] H := hP
    have hD : va_D A [tc_D G ob 1 od, tc_X5 a0 ma0 ta0 lk rf pu to, tc_X1 ma0 ma1 ma2 ma3 ma4 fh lh ee, tc_X4 ma1 tk mo su, tc_X3 ma2 lv si ga sl sc fo] := hD
    refine W.widen (k := 1) (n := 6) (Nat.le_of_ble_eq_true rfl) (Nat.le_of_ble_eq_true rfl) ?_
    refine va_dast (n := 1) (f := od) hx hb hK hP hD hS 0 1 rfl rfl (n_3 r_2 hw_2) dL_pond_7 (fun H locs hP hD hS => ?_)
    have hP : va_P G.1 vwCl [tc_D G ob 1 (vf_upd od (0 : Int32).toNatClampNeg r_2), tc_X5 a0 ma0 ta0 lk rf pu to, tc_X1 ma0 ma1 ma2 ma3 ma4 fh lh ee, tc_X4 ma1 tk mo su, tc_X3 ma2 lv si ga sl sc fo] H := hP
    have hD : va_D A [tc_D G ob 1 (vf_upd od (0 : Int32).toNatClampNeg r_2), tc_X5 a0 ma0 ta0 lk rf pu to, tc_X1 ma0 ma1 ma2 ma3 ma4 fh lh ee, tc_X4 ma1 tk mo su, tc_X3 ma2 lv si ga sl sc fo] := hD
    refine lv_goto (tgt := 14) hx hb dL_pond_8 (by decide) ?_
    refine lv_iconst (v := 0) hx hb dL_pond_14 (by decide) ?_
    have hP9 := hP.sub (ws' := [tc_X5 a0 ma0 ta0 lk rf pu to, tc_X1 ma0 ma1 ma2 ma3 ma4 fh lh ee, tc_X4 ma1 tk mo su, tc_X3 ma2 lv si ga sl sc fo, tc_D G ob 1 (vf_upd od (0 : Int32).toNatClampNeg r_2)]) [1, 2, 3, 4, 0] rfl
    have hD9 := hD.sub (ws' := [tc_X5 a0 ma0 ta0 lk rf pu to, tc_X1 ma0 ma1 ma2 ma3 ma4 fh lh ee, tc_X4 ma1 tk mo su, tc_X3 ma2 lv si ga sl sc fo, tc_D G ob 1 (vf_upd od (0 : Int32).toNatClampNeg r_2)]) [1, 2, 3, 4, 0] (by decide) rfl
    refine W.widen (k := 1) (n := 6) (Nat.le_of_ble_eq_true rfl) (Nat.le_of_ble_eq_true rfl) (vx_ret ?_)
    exact W.iret (v := 0) hx hb hr (fun t ht hW => ⟨⟨0, (vf_upd od (0 : Int32).toNatClampNeg r_2), rfl, by unfold f_L_pond; all_goals (rw [← hw_2]); all_goals (dsimp only); all_goals rfl, by rw [ht]; exact hP9, hD9⟩, hS.F ht⟩) hS.2.2 dL_pond_15
theorem x_X5_ofPair {pn : Int32} {pl : Nat → Int32} {dr : Nat → Int32} {sp : Nat → Int32} {p1 : Int32} {p2 : Int32} {k : Nat} (h : (Sum.inr k : (Int32) ⊕ Nat) = f_X5_ofPair pn pl dr sp p1 p2) : k = 0 ∨ k = 2 := by
  unfold f_X5_ofPair at h
  repeat' split at h
  all_goals first | (cases h; done) | (cases h; simp)
def f_L_ofPair (pn : Int32) (pl : Nat → Int32) (dr : Nat → Int32) (sp : Nat → Int32) (oj : Nat → Int64) (p1 : Int32) (p2 : Int32) : Int32 × (Nat → Int64) :=
  (match f_X5_ofPair pn pl dr sp p1 p2 with | .inl r_2 => (0, vp_updL oj (0 : Int32).toNatClampNeg r_2.toInt64) | .inr k9 => if k9 = 0 then (2, oj) else ((1, oj)))
def n_L_ofPair (pn : Int32) (pl : Nat → Int32) (dr : Nat → Int32) (sp : Nat → Int32) (p1 : Int32) (p2 : Int32) : Prop :=
  (n_X5_ofPair pn p1 p2) ∧
  (∀ (r_2 : Int32), (Sum.inl r_2 : (Int32) ⊕ Nat) = f_X5_ofPair pn pl dr sp p1 p2 → vp_in 0 1)
set_option maxHeartbeats 4000000 in
set_option maxRecDepth 100000 in
theorem c_L_ofPair (l : Launch) (G : tm_G) (a0 : Nat) (ma0 : Nat) (ta0 : Nat) (ma1 : Nat) (ma2 : Nat) (ma3 : Nat) (ma4 : Nat) (md0 : Nat) (md1 : Nat) (md2 : Nat) (md3 : Nat) (ob : Nat) (sz : Nat) (lk : Int32) (rf : Int32) (pu : Int32) (to : UInt64) (fh : Int32) (lh : Int32) (ee : Int32) (pn : Int32) (dl : Nat → UInt32) (pl : Nat → Int32) (dr : Nat → Int32) (sp : Nat → Int32) (oj : Nat → Int64) (p1 : Int32) (p2 : Int32) (hn : n_L_ofPair pn pl dr sp p1 p2) (hlt : l.stackTraces = false) : Met l yL_ofPair wsL_ofPair ({ frames := 7, cells := 1, slots := 6, locals := 118 }) (va_Pc [.ref a0, .int p1, .int p2, .ref ob] (tm_B G [tc_X5 a0 ma0 ta0 lk rf pu to, tc_X1 ma0 ma1 ma2 ma3 ma4 fh lh ee, tc_X2 ma4 md0 md1 md2 md3 pn, tc_F G md0 3 dl, tc_I G md1 3 pl, tc_I G md2 3 dr, tc_I G md3 3 sp, tc_J G ob 1 oj] sz)) (va_Qi (fun (r : Int32) (u : (Nat → Int64)) => (r, u) = f_L_ofPair pn pl dr sp oj p1 p2) (fun (u : (Nat → Int64)) (t : State) => va_P G.1 vwCl [tc_X5 a0 ma0 ta0 lk rf pu to, tc_X1 ma0 ma1 ma2 ma3 ma4 fh lh ee, tc_X2 ma4 md0 md1 md2 md3 pn, tc_F G md0 3 dl, tc_I G md1 3 pl, tc_I G md2 3 dr, tc_I G md3 3 sp, tc_J G ob 1 u] t.heap ∧ va_D (va_A [tc_X5 a0 ma0 ta0 lk rf pu to, tc_X1 ma0 ma1 ma2 ma3 ma4 fh lh ee, tc_X2 ma4 md0 md1 md2 md3 pn, tc_F G md0 3 dl, tc_I G md1 3 pl, tc_I G md2 3 dr, tc_I G md3 3 sp, tc_J G ob 1 oj] sz) [tc_X5 a0 ma0 ta0 lk rf pu to, tc_X1 ma0 ma1 ma2 ma3 ma4 fh lh ee, tc_X2 ma4 md0 md1 md2 md3 pn, tc_F G md0 3 dl, tc_I G md1 3 pl, tc_I G md2 3 dr, tc_I G md3 3 sp, tc_J G ob 1 u]) (va_A [tc_X5 a0 ma0 ta0 lk rf pu to, tc_X1 ma0 ma1 ma2 ma3 ma4 fh lh ee, tc_X2 ma4 md0 md1 md2 md3 pn, tc_F G md0 3 dl, tc_I G md1 3 pl, tc_I G md2 3 dr, tc_I G md3 3 sp, tc_J G ob 1 oj] sz)) 1 6 (va_A [tc_X5 a0 ma0 ta0 lk rf pu to, tc_X1 ma0 ma1 ma2 ma3 ma4 fh lh ee, tc_X2 ma4 md0 md1 md2 md3 pn, tc_F G md0 3 dl, tc_I G md1 3 pl, tc_I G md2 3 dr, tc_I G md3 3 sp, tc_J G ob 1 oj] sz) := by
  refine tm_metOf ?_
  refine vx_ofWH (cc := cL_ofPair) (maxL := 5) (ret := (some .int)) (hh :=  [(0, 10, 13, 43), (0, 10, 17, 13)]) (by decide) rfl ?_
  intro p e s m args below meth c s₁ B hml hv
  obtain ⟨rfl, hsz, hP, hK, hD0, hN, hV⟩ := hv
  have hx := B.exec
  have hb := B.bytes
  have hr := B.returns
  have hts := atoms_spec (ws := wsL_ofPair) B.pre
  have htab : c.exceptionTable.toList = tableOf  [(0, 10, 13, 43), (0, 10, 17, 13)] := vx_table (x := yL_ofPair) B (atoms_spec (ws := wsL_ofPair) B.pre _ (List.mem_of_getElem? (i := 0) rfl))
  have hown : s.vm.findClass RL = some m.cls := findClass_of_methodNamed B.named
  have hlocks := B.notSynchronized
  subst hsz
  obtain ⟨n_1, n_3⟩ := hn
  have hD := hD0.self (sz := s.heap.size)
  generalize hAe : va_A [tc_X5 a0 ma0 ta0 lk rf pu to, tc_X1 ma0 ma1 ma2 ma3 ma4 fh lh ee, tc_X2 ma4 md0 md1 md2 md3 pn, tc_F G md0 3 dl, tc_I G md1 3 pl, tc_I G md2 3 dr, tc_I G md3 3 sp, tc_J G ob 1 oj] s.heap.size = A at hD hV ⊢
  have hA : ∀ q : Nat, s.heap.size ≤ q → A q := fun q h => by rw [← hAe]; exact Or.inr h
  have hS : va_S A s.heap s.heap [] := va_S.rf
  have hl := lv_entry ([.ref a0, .int p1, .int p2, .ref ob]) (n := 5) (Nat.le_of_ble_eq_true rfl)
  rw [lg_entry_eq]
  generalize (lg_sl ([.ref a0, .int p1, .int p2, .ref ob]) ++ List.replicate (5 - (lg_sl ([.ref a0, .int p1, .int p2, .ref ob])).length) Slot.unset).toArray = ls at hl ⊢
  have hl : lv_has ls 5 [(0, .ref a0), (1, .int p1), (2, .int p2), (3, .ref ob)] := hl
  refine lv_aload_n hx hb dL_ofPair_0 rfl (lv_at hl 3 rfl) ?_
  refine lv_iconst (v := 0) hx hb dL_ofPair_1 (by decide) ?_
  refine lv_aload_n hx hb dL_ofPair_2 rfl (lv_at hl 0 rfl) ?_
  refine lv_iload_n hx hb dL_ofPair_3 rfl (lv_at hl 1 rfl) ?_
  refine lv_iload_n hx hb dL_ofPair_4 rfl (lv_at hl 2 rfl) ?_
  have hPc := hP.sub (ws' := [tc_X5 a0 ma0 ta0 lk rf pu to, tc_X1 ma0 ma1 ma2 ma3 ma4 fh lh ee, tc_X2 ma4 md0 md1 md2 md3 pn, tc_F G md0 3 dl, tc_I G md1 3 pl, tc_I G md2 3 dr, tc_I G md3 3 sp]) [0, 1, 2, 3, 4, 5, 6] rfl
  have hDc := hD.sub (ws' := [tc_X5 a0 ma0 ta0 lk rf pu to, tc_X1 ma0 ma1 ma2 ma3 ma4 fh lh ee, tc_X2 ma4 md0 md1 md2 md3 pn, tc_F G md0 3 dl, tc_I G md1 3 pl, tc_I G md2 3 dr, tc_I G md3 3 sp]) [0, 1, 2, 3, 4, 5, 6] (by decide) rfl
  have hFc := va_free (wc := [tc_X5 a0 ma0 ta0 lk rf pu to, tc_X1 ma0 ma1 ma2 ma3 ma4 fh lh ee, tc_X2 ma4 md0 md1 md2 md3 pn, tc_F G md0 3 dl, tc_I G md1 3 pl, tc_I G md2 3 dr, tc_I G md3 3 sp]) hD hS hA [0, 1, 2, 3, 4, 5, 6] rfl
  refine vx_calli (vx_runV (As := [.int p1, .int p2]) (rest := [.int 0, .ref ob]) ⟨hx, hb, hml, hown, hts⟩ (c_X5_ofPair l G a0 ma0 ta0 ma1 ma2 ma3 ma4 md0 md1 md2 md3 s.heap.size lk rf pu to fh lh ee pn dl pl dr sp p1 p2 n_1 hlt) (cwV 2 hts gL_ofPair_X5_ofPair rfl rfl rfl (by decide +kernel) ⟨(Nat.le_of_ble_eq_true rfl), (Nat.le_of_ble_eq_true rfl)⟩) (tm_preV hK hN hV hS hPc hDc hFc (va_recv hK hPc (ci := 6) (q0 := 0) rfl rfl)) rfl rfl hl.1 rfl (lv_room (Nat.le_of_ble_eq_true rfl)) dL_ofPair_5 ⟨(Nat.le_of_ble_eq_true rfl), (Nat.le_of_ble_eq_true rfl)⟩) hS (fun q _ h => hFc q h) hFc (fun q _ h => hFc q h) (fun E9 ce9 q9 k9 st9 H locs ht hvm hw_2 hB hz1 hk1 hS hce hcv hcl => ?_) (fun r_2 u st9 H locs ht hvm hw_2 hB hz1 hk1 hS => ?_)
  · obtain ⟨rfl, hP1, hD1⟩ := hB
    rw [ht] at hP1
    obtain ⟨hP, hD⟩ := va_join (wr := [tc_J G ob 1 oj]) (w1 := [tc_X5 a0 ma0 ta0 lk rf pu to, tc_X1 ma0 ma1 ma2 ma3 ma4 fh lh ee, tc_X2 ma4 md0 md1 md2 md3 pn, tc_F G md0 3 dl, tc_I G md1 3 pl, tc_I G md2 3 dr, tc_I G md3 3 sp]) hP hD [0, 1, 2, 3, 4, 5, 6] [7] rfl rfl (by decide) (by decide) hk1 hFc hP1 hD1
    have hP : va_P G.1 vwCl [tc_J G ob 1 oj, tc_X5 a0 ma0 ta0 lk rf pu to, tc_X1 ma0 ma1 ma2 ma3 ma4 fh lh ee, tc_X2 ma4 md0 md1 md2 md3 pn, tc_F G md0 3 dl, tc_I G md1 3 pl, tc_I G md2 3 dr, tc_I G md3 3 sp] H := hP
    have hD : va_D A [tc_J G ob 1 oj, tc_X5 a0 ma0 ta0 lk rf pu to, tc_X1 ma0 ma1 ma2 ma3 ma4 fh lh ee, tc_X2 ma4 md0 md1 md2 md3 pn, tc_F G md0 3 dl, tc_I G md1 3 pl, tc_I G md2 3 dr, tc_I G md3 3 sp] := hD
    rcases x_X5_ofPair hw_2 with rfl | rfl
    · refine vx_catch (name := "java/lang/IllegalArgumentException") (E := "java/lang/IllegalArgumentException") hown [{ startPc := 0, endPc := 10, handlerPc := 13, catchType := 43 }] { startPc := 0, endPc := 10, handlerPc := 17, catchType := 13 } [] (by rw [htab]; rfl) (fun z hz => by rw [List.mem_singleton.mp hz]; exact Or.inr ⟨by decide, "java/lang/IndexOutOfBoundsException", (hts (.classLink RL 43 "java/lang/IndexOutOfBoundsException") (List.mem_of_getElem? (i := 1) rfl)), hN.2.2.2.2.2.2.1 ("java/lang/IllegalArgumentException", "java/lang/IndexOutOfBoundsException") (List.mem_of_getElem? (i := 2) rfl)⟩) (by decide) (by decide) (hts (.classLink RL 13 "java/lang/IllegalArgumentException") (List.mem_of_getElem? (i := 2) rfl)) (va_Nw.use rfl (hN.2.1 ("java/lang/IllegalArgumentException", "java/lang/IllegalArgumentException") (List.mem_of_getElem? (i := 0) rfl))) hce hcv hcl ?_
      show W p l e _ s m _ below meth c H locs 1 6 _ (F0 m 17 ls [.ref q9])
      refine lv_astore (lv' := [(4, .ref q9), (0, .ref a0), (1, .int p1), (2, .int p2), (3, .ref ob)]) hx hb dL_ofPair_17 hl (by decide) rfl (fun ls hl => ?_)
      refine lv_iconst (v := 2) hx hb dL_ofPair_19 (by decide) ?_
      have hP9 := hP.sub (ws' := [tc_X5 a0 ma0 ta0 lk rf pu to, tc_X1 ma0 ma1 ma2 ma3 ma4 fh lh ee, tc_X2 ma4 md0 md1 md2 md3 pn, tc_F G md0 3 dl, tc_I G md1 3 pl, tc_I G md2 3 dr, tc_I G md3 3 sp, tc_J G ob 1 oj]) [1, 2, 3, 4, 5, 6, 7, 0] rfl
      have hD9 := hD.sub (ws' := [tc_X5 a0 ma0 ta0 lk rf pu to, tc_X1 ma0 ma1 ma2 ma3 ma4 fh lh ee, tc_X2 ma4 md0 md1 md2 md3 pn, tc_F G md0 3 dl, tc_I G md1 3 pl, tc_I G md2 3 dr, tc_I G md3 3 sp, tc_J G ob 1 oj]) [1, 2, 3, 4, 5, 6, 7, 0] (by decide) rfl
      refine W.widen (k := 1) (n := 6) (Nat.le_of_ble_eq_true rfl) (Nat.le_of_ble_eq_true rfl) (vx_ret ?_)
      exact W.iret (v := 2) hx hb hr (fun t ht hW => ⟨⟨2, (oj), rfl, by unfold f_L_ofPair; all_goals (rw [← hw_2]); all_goals (dsimp only); all_goals rfl, by rw [ht]; exact hP9, hD9⟩, hS.F ht⟩) hS.2.2 dL_ofPair_20
    · refine vx_catch (name := "java/lang/IndexOutOfBoundsException") (E := "java/lang/IndexOutOfBoundsException") hown [] { startPc := 0, endPc := 10, handlerPc := 13, catchType := 43 } [{ startPc := 0, endPc := 10, handlerPc := 17, catchType := 13 }] (by rw [htab]; rfl) (fun z hz => absurd hz List.not_mem_nil) (by decide) (by decide) (hts (.classLink RL 43 "java/lang/IndexOutOfBoundsException") (List.mem_of_getElem? (i := 1) rfl)) (va_Nw.use rfl (hN.2.1 ("java/lang/IndexOutOfBoundsException", "java/lang/IndexOutOfBoundsException") (List.mem_of_getElem? (i := 2) rfl))) hce hcv hcl ?_
      show W p l e _ s m _ below meth c H locs 1 6 _ (F0 m 13 ls [.ref q9])
      refine lv_astore (lv' := [(4, .ref q9), (0, .ref a0), (1, .int p1), (2, .int p2), (3, .ref ob)]) hx hb dL_ofPair_13 hl (by decide) rfl (fun ls hl => ?_)
      refine lv_iconst (v := 1) hx hb dL_ofPair_15 (by decide) ?_
      have hP9 := hP.sub (ws' := [tc_X5 a0 ma0 ta0 lk rf pu to, tc_X1 ma0 ma1 ma2 ma3 ma4 fh lh ee, tc_X2 ma4 md0 md1 md2 md3 pn, tc_F G md0 3 dl, tc_I G md1 3 pl, tc_I G md2 3 dr, tc_I G md3 3 sp, tc_J G ob 1 oj]) [1, 2, 3, 4, 5, 6, 7, 0] rfl
      have hD9 := hD.sub (ws' := [tc_X5 a0 ma0 ta0 lk rf pu to, tc_X1 ma0 ma1 ma2 ma3 ma4 fh lh ee, tc_X2 ma4 md0 md1 md2 md3 pn, tc_F G md0 3 dl, tc_I G md1 3 pl, tc_I G md2 3 dr, tc_I G md3 3 sp, tc_J G ob 1 oj]) [1, 2, 3, 4, 5, 6, 7, 0] (by decide) rfl
      refine W.widen (k := 1) (n := 6) (Nat.le_of_ble_eq_true rfl) (Nat.le_of_ble_eq_true rfl) (vx_ret ?_)
      exact W.iret (v := 1) hx hb hr (fun t ht hW => ⟨⟨1, (oj), rfl, by unfold f_L_ofPair; all_goals (rw [← hw_2]); all_goals (dsimp only); all_goals rfl, by rw [ht]; exact hP9, hD9⟩, hS.F ht⟩) hS.2.2 dL_ofPair_16
  · obtain ⟨hP1, hD1⟩ := hB
    rw [ht] at hP1
    try dsimp only at hw_2
    obtain ⟨hP, hD⟩ := va_join (wr := [tc_J G ob 1 oj]) (w1 := [tc_X5 a0 ma0 ta0 lk rf pu to, tc_X1 ma0 ma1 ma2 ma3 ma4 fh lh ee, tc_X2 ma4 md0 md1 md2 md3 pn, tc_F G md0 3 dl, tc_I G md1 3 pl, tc_I G md2 3 dr, tc_I G md3 3 sp]) hP hD [0, 1, 2, 3, 4, 5, 6] [7] rfl rfl (by decide) (by decide) hk1 hFc hP1 hD1
    have hP : va_P G.1 vwCl [tc_J G ob 1 oj, tc_X5 a0 ma0 ta0 lk rf pu to, tc_X1 ma0 ma1 ma2 ma3 ma4 fh lh ee, tc_X2 ma4 md0 md1 md2 md3 pn, tc_F G md0 3 dl, tc_I G md1 3 pl, tc_I G md2 3 dr, tc_I G md3 3 sp] H := hP
    have hD : va_D A [tc_J G ob 1 oj, tc_X5 a0 ma0 ta0 lk rf pu to, tc_X1 ma0 ma1 ma2 ma3 ma4 fh lh ee, tc_X2 ma4 md0 md1 md2 md3 pn, tc_F G md0 3 dl, tc_I G md1 3 pl, tc_I G md2 3 dr, tc_I G md3 3 sp] := hD
    refine W.widen (k := 1) (n := 6) (Nat.le_of_ble_eq_true rfl) (Nat.le_of_ble_eq_true rfl) ?_
    refine lv_i2l (v := r_2.toInt64) hx hb dL_ofPair_8 rfl ?_
    refine va_last (n := 1) (f := oj) hx hb hK hP hD hS 0 5 rfl rfl (n_3 r_2 hw_2) dL_ofPair_9 (fun H locs hP hD hS => ?_)
    have hP : va_P G.1 vwCl [tc_J G ob 1 (vp_updL oj (0 : Int32).toNatClampNeg r_2.toInt64), tc_X5 a0 ma0 ta0 lk rf pu to, tc_X1 ma0 ma1 ma2 ma3 ma4 fh lh ee, tc_X2 ma4 md0 md1 md2 md3 pn, tc_F G md0 3 dl, tc_I G md1 3 pl, tc_I G md2 3 dr, tc_I G md3 3 sp] H := hP
    have hD : va_D A [tc_J G ob 1 (vp_updL oj (0 : Int32).toNatClampNeg r_2.toInt64), tc_X5 a0 ma0 ta0 lk rf pu to, tc_X1 ma0 ma1 ma2 ma3 ma4 fh lh ee, tc_X2 ma4 md0 md1 md2 md3 pn, tc_F G md0 3 dl, tc_I G md1 3 pl, tc_I G md2 3 dr, tc_I G md3 3 sp] := hD
    refine lv_goto (tgt := 21) hx hb dL_ofPair_10 (by decide) ?_
    refine lv_iconst (v := 0) hx hb dL_ofPair_21 (by decide) ?_
    have hP9 := hP.sub (ws' := [tc_X5 a0 ma0 ta0 lk rf pu to, tc_X1 ma0 ma1 ma2 ma3 ma4 fh lh ee, tc_X2 ma4 md0 md1 md2 md3 pn, tc_F G md0 3 dl, tc_I G md1 3 pl, tc_I G md2 3 dr, tc_I G md3 3 sp, tc_J G ob 1 (vp_updL oj (0 : Int32).toNatClampNeg r_2.toInt64)]) [1, 2, 3, 4, 5, 6, 7, 0] rfl
    have hD9 := hD.sub (ws' := [tc_X5 a0 ma0 ta0 lk rf pu to, tc_X1 ma0 ma1 ma2 ma3 ma4 fh lh ee, tc_X2 ma4 md0 md1 md2 md3 pn, tc_F G md0 3 dl, tc_I G md1 3 pl, tc_I G md2 3 dr, tc_I G md3 3 sp, tc_J G ob 1 (vp_updL oj (0 : Int32).toNatClampNeg r_2.toInt64)]) [1, 2, 3, 4, 5, 6, 7, 0] (by decide) rfl
    refine W.widen (k := 1) (n := 6) (Nat.le_of_ble_eq_true rfl) (Nat.le_of_ble_eq_true rfl) (vx_ret ?_)
    exact W.iret (v := 0) hx hb hr (fun t ht hW => ⟨⟨0, (vp_updL oj (0 : Int32).toNatClampNeg r_2.toInt64), rfl, by unfold f_L_ofPair; all_goals (rw [← hw_2]); all_goals (dsimp only); all_goals rfl, by rw [ht]; exact hP9, hD9⟩, hS.F ht⟩) hS.2.2 dL_ofPair_22
theorem x_X5_dull {pn : Int32} {dl : Nat → UInt32} {p1 : Int32} {k : Nat} (h : (Sum.inr k : (UInt64) ⊕ Nat) = f_X5_dull pn dl p1) : k = 2 := by
  unfold f_X5_dull at h
  repeat' split at h
  all_goals first | (cases h; done) | (cases h; simp)
def f_L_dull (pn : Int32) (dl : Nat → UInt32) (od : Nat → UInt64) (p1 : Int32) : Int32 × (Nat → UInt64) :=
  (match f_X5_dull pn dl p1 with | .inl r_2 => (0, vf_upd od (0 : Int32).toNatClampNeg r_2) | .inr k9 => (1, od))
def n_L_dull (pn : Int32) (dl : Nat → UInt32) (p1 : Int32) : Prop :=
  (n_X5_dull pn dl p1) ∧
  (∀ (r_2 : UInt64), (Sum.inl r_2 : (UInt64) ⊕ Nat) = f_X5_dull pn dl p1 → vp_in 0 1)
set_option maxHeartbeats 4000000 in
set_option maxRecDepth 100000 in
theorem c_L_dull (l : Launch) (G : tm_G) (a0 : Nat) (ma0 : Nat) (ta0 : Nat) (ma1 : Nat) (ma2 : Nat) (ma3 : Nat) (ma4 : Nat) (md0 : Nat) (md1 : Nat) (md2 : Nat) (md3 : Nat) (ob : Nat) (sz : Nat) (lk : Int32) (rf : Int32) (pu : Int32) (to : UInt64) (fh : Int32) (lh : Int32) (ee : Int32) (pn : Int32) (dl : Nat → UInt32) (pl : Nat → Int32) (dr : Nat → Int32) (sp : Nat → Int32) (od : Nat → UInt64) (p1 : Int32) (hn : n_L_dull pn dl p1) (hlt : l.stackTraces = false) : Met l yL_dull wsL_dull ({ frames := 7, cells := 1, slots := 6, locals := 117 }) (va_Pc [.ref a0, .int p1, .ref ob] (tm_B G [tc_X5 a0 ma0 ta0 lk rf pu to, tc_X1 ma0 ma1 ma2 ma3 ma4 fh lh ee, tc_X2 ma4 md0 md1 md2 md3 pn, tc_F G md0 3 dl, tc_I G md1 3 pl, tc_I G md2 3 dr, tc_I G md3 3 sp, tc_D G ob 1 od] sz)) (va_Qi (fun (r : Int32) (u : (Nat → UInt64)) => (r, u) = f_L_dull pn dl od p1) (fun (u : (Nat → UInt64)) (t : State) => va_P G.1 vwCl [tc_X5 a0 ma0 ta0 lk rf pu to, tc_X1 ma0 ma1 ma2 ma3 ma4 fh lh ee, tc_X2 ma4 md0 md1 md2 md3 pn, tc_F G md0 3 dl, tc_I G md1 3 pl, tc_I G md2 3 dr, tc_I G md3 3 sp, tc_D G ob 1 u] t.heap ∧ va_D (va_A [tc_X5 a0 ma0 ta0 lk rf pu to, tc_X1 ma0 ma1 ma2 ma3 ma4 fh lh ee, tc_X2 ma4 md0 md1 md2 md3 pn, tc_F G md0 3 dl, tc_I G md1 3 pl, tc_I G md2 3 dr, tc_I G md3 3 sp, tc_D G ob 1 od] sz) [tc_X5 a0 ma0 ta0 lk rf pu to, tc_X1 ma0 ma1 ma2 ma3 ma4 fh lh ee, tc_X2 ma4 md0 md1 md2 md3 pn, tc_F G md0 3 dl, tc_I G md1 3 pl, tc_I G md2 3 dr, tc_I G md3 3 sp, tc_D G ob 1 u]) (va_A [tc_X5 a0 ma0 ta0 lk rf pu to, tc_X1 ma0 ma1 ma2 ma3 ma4 fh lh ee, tc_X2 ma4 md0 md1 md2 md3 pn, tc_F G md0 3 dl, tc_I G md1 3 pl, tc_I G md2 3 dr, tc_I G md3 3 sp, tc_D G ob 1 od] sz)) 1 6 (va_A [tc_X5 a0 ma0 ta0 lk rf pu to, tc_X1 ma0 ma1 ma2 ma3 ma4 fh lh ee, tc_X2 ma4 md0 md1 md2 md3 pn, tc_F G md0 3 dl, tc_I G md1 3 pl, tc_I G md2 3 dr, tc_I G md3 3 sp, tc_D G ob 1 od] sz) := by
  refine tm_metOf ?_
  refine vx_ofWH (cc := cL_dull) (maxL := 4) (ret := (some .int)) (hh :=  [(0, 8, 11, 43)]) (by decide) rfl ?_
  intro p e s m args below meth c s₁ B hml hv
  obtain ⟨rfl, hsz, hP, hK, hD0, hN, hV⟩ := hv
  have hx := B.exec
  have hb := B.bytes
  have hr := B.returns
  have hts := atoms_spec (ws := wsL_dull) B.pre
  have htab : c.exceptionTable.toList = tableOf  [(0, 8, 11, 43)] := vx_table (x := yL_dull) B (atoms_spec (ws := wsL_dull) B.pre _ (List.mem_of_getElem? (i := 0) rfl))
  have hown : s.vm.findClass RL = some m.cls := findClass_of_methodNamed B.named
  have hlocks := B.notSynchronized
  subst hsz
  obtain ⟨n_1, n_3⟩ := hn
  have hD := hD0.self (sz := s.heap.size)
  generalize hAe : va_A [tc_X5 a0 ma0 ta0 lk rf pu to, tc_X1 ma0 ma1 ma2 ma3 ma4 fh lh ee, tc_X2 ma4 md0 md1 md2 md3 pn, tc_F G md0 3 dl, tc_I G md1 3 pl, tc_I G md2 3 dr, tc_I G md3 3 sp, tc_D G ob 1 od] s.heap.size = A at hD hV ⊢
  have hA : ∀ q : Nat, s.heap.size ≤ q → A q := fun q h => by rw [← hAe]; exact Or.inr h
  have hS : va_S A s.heap s.heap [] := va_S.rf
  have hl := lv_entry ([.ref a0, .int p1, .ref ob]) (n := 4) (Nat.le_of_ble_eq_true rfl)
  rw [lg_entry_eq]
  generalize (lg_sl ([.ref a0, .int p1, .ref ob]) ++ List.replicate (4 - (lg_sl ([.ref a0, .int p1, .ref ob])).length) Slot.unset).toArray = ls at hl ⊢
  have hl : lv_has ls 4 [(0, .ref a0), (1, .int p1), (2, .ref ob)] := hl
  refine lv_aload_n hx hb dL_dull_0 rfl (lv_at hl 2 rfl) ?_
  refine lv_iconst (v := 0) hx hb dL_dull_1 (by decide) ?_
  refine lv_aload_n hx hb dL_dull_2 rfl (lv_at hl 0 rfl) ?_
  refine lv_iload_n hx hb dL_dull_3 rfl (lv_at hl 1 rfl) ?_
  have hPc := hP.sub (ws' := [tc_X5 a0 ma0 ta0 lk rf pu to, tc_X1 ma0 ma1 ma2 ma3 ma4 fh lh ee, tc_X2 ma4 md0 md1 md2 md3 pn, tc_F G md0 3 dl, tc_I G md1 3 pl, tc_I G md2 3 dr, tc_I G md3 3 sp]) [0, 1, 2, 3, 4, 5, 6] rfl
  have hDc := hD.sub (ws' := [tc_X5 a0 ma0 ta0 lk rf pu to, tc_X1 ma0 ma1 ma2 ma3 ma4 fh lh ee, tc_X2 ma4 md0 md1 md2 md3 pn, tc_F G md0 3 dl, tc_I G md1 3 pl, tc_I G md2 3 dr, tc_I G md3 3 sp]) [0, 1, 2, 3, 4, 5, 6] (by decide) rfl
  have hFc := va_free (wc := [tc_X5 a0 ma0 ta0 lk rf pu to, tc_X1 ma0 ma1 ma2 ma3 ma4 fh lh ee, tc_X2 ma4 md0 md1 md2 md3 pn, tc_F G md0 3 dl, tc_I G md1 3 pl, tc_I G md2 3 dr, tc_I G md3 3 sp]) hD hS hA [0, 1, 2, 3, 4, 5, 6] rfl
  refine vx_calld (vx_runV (As := [.int p1]) (rest := [.int 0, .ref ob]) ⟨hx, hb, hml, hown, hts⟩ (c_X5_dull l G a0 ma0 ta0 ma1 ma2 ma3 ma4 md0 md1 md2 md3 s.heap.size lk rf pu to fh lh ee pn dl pl dr sp p1 n_1 hlt) (cwV 1 hts gL_dull_X5_dull rfl rfl rfl (by decide +kernel) ⟨(Nat.le_of_ble_eq_true rfl), (Nat.le_of_ble_eq_true rfl)⟩) (tm_preV hK hN hV hS hPc hDc hFc (va_recv hK hPc (ci := 6) (q0 := 0) rfl rfl)) rfl rfl hl.1 rfl (lv_room (Nat.le_of_ble_eq_true rfl)) dL_dull_4 ⟨(Nat.le_of_ble_eq_true rfl), (Nat.le_of_ble_eq_true rfl)⟩) hS (fun q _ h => hFc q h) hFc (fun q _ h => hFc q h) (fun E9 ce9 q9 k9 st9 H locs ht hvm hw_2 hB hz1 hk1 hS hce hcv hcl => ?_) (fun r_2 u st9 H locs ht hvm hw_2 hB hz1 hk1 hS => ?_)
  · obtain ⟨rfl, hP1, hD1⟩ := hB
    rw [ht] at hP1
    obtain ⟨hP, hD⟩ := va_join (wr := [tc_D G ob 1 od]) (w1 := [tc_X5 a0 ma0 ta0 lk rf pu to, tc_X1 ma0 ma1 ma2 ma3 ma4 fh lh ee, tc_X2 ma4 md0 md1 md2 md3 pn, tc_F G md0 3 dl, tc_I G md1 3 pl, tc_I G md2 3 dr, tc_I G md3 3 sp]) hP hD [0, 1, 2, 3, 4, 5, 6] [7] rfl rfl (by decide) (by decide) hk1 hFc hP1 hD1
    have hP : va_P G.1 vwCl [tc_D G ob 1 od, tc_X5 a0 ma0 ta0 lk rf pu to, tc_X1 ma0 ma1 ma2 ma3 ma4 fh lh ee, tc_X2 ma4 md0 md1 md2 md3 pn, tc_F G md0 3 dl, tc_I G md1 3 pl, tc_I G md2 3 dr, tc_I G md3 3 sp] H := hP
    have hD : va_D A [tc_D G ob 1 od, tc_X5 a0 ma0 ta0 lk rf pu to, tc_X1 ma0 ma1 ma2 ma3 ma4 fh lh ee, tc_X2 ma4 md0 md1 md2 md3 pn, tc_F G md0 3 dl, tc_I G md1 3 pl, tc_I G md2 3 dr, tc_I G md3 3 sp] := hD
    obtain rfl := x_X5_dull hw_2
    · refine vx_catch (name := "java/lang/IndexOutOfBoundsException") (E := "java/lang/IndexOutOfBoundsException") hown [] { startPc := 0, endPc := 8, handlerPc := 11, catchType := 43 } [] (by rw [htab]; rfl) (fun z hz => absurd hz List.not_mem_nil) (by decide) (by decide) (hts (.classLink RL 43 "java/lang/IndexOutOfBoundsException") (List.mem_of_getElem? (i := 1) rfl)) (va_Nw.use rfl (hN.2.1 ("java/lang/IndexOutOfBoundsException", "java/lang/IndexOutOfBoundsException") (List.mem_of_getElem? (i := 2) rfl))) hce hcv hcl ?_
      show W p l e _ s m _ below meth c H locs 1 6 _ (F0 m 11 ls [.ref q9])
      refine lv_astore_n (lv' := [(3, .ref q9), (0, .ref a0), (1, .int p1), (2, .ref ob)]) hx hb dL_dull_11 rfl hl (by decide) rfl (fun ls hl => ?_)
      refine lv_iconst (v := 1) hx hb dL_dull_12 (by decide) ?_
      have hP9 := hP.sub (ws' := [tc_X5 a0 ma0 ta0 lk rf pu to, tc_X1 ma0 ma1 ma2 ma3 ma4 fh lh ee, tc_X2 ma4 md0 md1 md2 md3 pn, tc_F G md0 3 dl, tc_I G md1 3 pl, tc_I G md2 3 dr, tc_I G md3 3 sp, tc_D G ob 1 od]) [1, 2, 3, 4, 5, 6, 7, 0] rfl
      have hD9 := hD.sub (ws' := [tc_X5 a0 ma0 ta0 lk rf pu to, tc_X1 ma0 ma1 ma2 ma3 ma4 fh lh ee, tc_X2 ma4 md0 md1 md2 md3 pn, tc_F G md0 3 dl, tc_I G md1 3 pl, tc_I G md2 3 dr, tc_I G md3 3 sp, tc_D G ob 1 od]) [1, 2, 3, 4, 5, 6, 7, 0] (by decide) rfl
      refine W.widen (k := 1) (n := 6) (Nat.le_of_ble_eq_true rfl) (Nat.le_of_ble_eq_true rfl) (vx_ret ?_)
      exact W.iret (v := 1) hx hb hr (fun t ht hW => ⟨⟨1, (od), rfl, by unfold f_L_dull; all_goals (rw [← hw_2]); all_goals (dsimp only); all_goals rfl, by rw [ht]; exact hP9, hD9⟩, hS.F ht⟩) hS.2.2 dL_dull_13
  · obtain ⟨hP1, hD1⟩ := hB
    rw [ht] at hP1
    try dsimp only at hw_2
    obtain ⟨hP, hD⟩ := va_join (wr := [tc_D G ob 1 od]) (w1 := [tc_X5 a0 ma0 ta0 lk rf pu to, tc_X1 ma0 ma1 ma2 ma3 ma4 fh lh ee, tc_X2 ma4 md0 md1 md2 md3 pn, tc_F G md0 3 dl, tc_I G md1 3 pl, tc_I G md2 3 dr, tc_I G md3 3 sp]) hP hD [0, 1, 2, 3, 4, 5, 6] [7] rfl rfl (by decide) (by decide) hk1 hFc hP1 hD1
    have hP : va_P G.1 vwCl [tc_D G ob 1 od, tc_X5 a0 ma0 ta0 lk rf pu to, tc_X1 ma0 ma1 ma2 ma3 ma4 fh lh ee, tc_X2 ma4 md0 md1 md2 md3 pn, tc_F G md0 3 dl, tc_I G md1 3 pl, tc_I G md2 3 dr, tc_I G md3 3 sp] H := hP
    have hD : va_D A [tc_D G ob 1 od, tc_X5 a0 ma0 ta0 lk rf pu to, tc_X1 ma0 ma1 ma2 ma3 ma4 fh lh ee, tc_X2 ma4 md0 md1 md2 md3 pn, tc_F G md0 3 dl, tc_I G md1 3 pl, tc_I G md2 3 dr, tc_I G md3 3 sp] := hD
    refine W.widen (k := 1) (n := 6) (Nat.le_of_ble_eq_true rfl) (Nat.le_of_ble_eq_true rfl) ?_
    refine va_dast (n := 1) (f := od) hx hb hK hP hD hS 0 1 rfl rfl (n_3 r_2 hw_2) dL_dull_7 (fun H locs hP hD hS => ?_)
    have hP : va_P G.1 vwCl [tc_D G ob 1 (vf_upd od (0 : Int32).toNatClampNeg r_2), tc_X5 a0 ma0 ta0 lk rf pu to, tc_X1 ma0 ma1 ma2 ma3 ma4 fh lh ee, tc_X2 ma4 md0 md1 md2 md3 pn, tc_F G md0 3 dl, tc_I G md1 3 pl, tc_I G md2 3 dr, tc_I G md3 3 sp] H := hP
    have hD : va_D A [tc_D G ob 1 (vf_upd od (0 : Int32).toNatClampNeg r_2), tc_X5 a0 ma0 ta0 lk rf pu to, tc_X1 ma0 ma1 ma2 ma3 ma4 fh lh ee, tc_X2 ma4 md0 md1 md2 md3 pn, tc_F G md0 3 dl, tc_I G md1 3 pl, tc_I G md2 3 dr, tc_I G md3 3 sp] := hD
    refine lv_goto (tgt := 14) hx hb dL_dull_8 (by decide) ?_
    refine lv_iconst (v := 0) hx hb dL_dull_14 (by decide) ?_
    have hP9 := hP.sub (ws' := [tc_X5 a0 ma0 ta0 lk rf pu to, tc_X1 ma0 ma1 ma2 ma3 ma4 fh lh ee, tc_X2 ma4 md0 md1 md2 md3 pn, tc_F G md0 3 dl, tc_I G md1 3 pl, tc_I G md2 3 dr, tc_I G md3 3 sp, tc_D G ob 1 (vf_upd od (0 : Int32).toNatClampNeg r_2)]) [1, 2, 3, 4, 5, 6, 7, 0] rfl
    have hD9 := hD.sub (ws' := [tc_X5 a0 ma0 ta0 lk rf pu to, tc_X1 ma0 ma1 ma2 ma3 ma4 fh lh ee, tc_X2 ma4 md0 md1 md2 md3 pn, tc_F G md0 3 dl, tc_I G md1 3 pl, tc_I G md2 3 dr, tc_I G md3 3 sp, tc_D G ob 1 (vf_upd od (0 : Int32).toNatClampNeg r_2)]) [1, 2, 3, 4, 5, 6, 7, 0] (by decide) rfl
    refine W.widen (k := 1) (n := 6) (Nat.le_of_ble_eq_true rfl) (Nat.le_of_ble_eq_true rfl) (vx_ret ?_)
    exact W.iret (v := 0) hx hb hr (fun t ht hW => ⟨⟨0, (vf_upd od (0 : Int32).toNatClampNeg r_2), rfl, by unfold f_L_dull; all_goals (rw [← hw_2]); all_goals (dsimp only); all_goals rfl, by rw [ht]; exact hP9, hD9⟩, hS.F ht⟩) hS.2.2 dL_dull_15
theorem x_X5_ofLot {ln : Int32} {ow : Nat → Int32} {gr : Nat → Int32} {we : Nat → Int32} {du : Nat → Int32} {sa : Nat → Int32} {pn : Int32} {pl : Nat → Int32} {p1 : Int32} {p2 : Int32} {k : Nat} (h : (Sum.inr k : (Int32) ⊕ Nat) = f_X5_ofLot ln ow gr we du sa pn pl p1 p2) : k = 0 ∨ k = 2 := by
  unfold f_X5_ofLot at h
  repeat' split at h
  all_goals first | (cases h; done) | (cases h; simp)
def f_L_ofLot (ln : Int32) (ow : Nat → Int32) (gr : Nat → Int32) (we : Nat → Int32) (du : Nat → Int32) (sa : Nat → Int32) (pn : Int32) (pl : Nat → Int32) (oj : Nat → Int64) (p1 : Int32) (p2 : Int32) : Int32 × (Nat → Int64) :=
  (match f_X5_ofLot ln ow gr we du sa pn pl p1 p2 with | .inl r_2 => (0, vp_updL oj (0 : Int32).toNatClampNeg r_2.toInt64) | .inr k9 => if k9 = 0 then (2, oj) else ((1, oj)))
def n_L_ofLot (ln : Int32) (ow : Nat → Int32) (gr : Nat → Int32) (we : Nat → Int32) (du : Nat → Int32) (sa : Nat → Int32) (pn : Int32) (pl : Nat → Int32) (p1 : Int32) (p2 : Int32) : Prop :=
  (n_X5_ofLot ln pn pl p1 p2) ∧
  (∀ (r_2 : Int32), (Sum.inl r_2 : (Int32) ⊕ Nat) = f_X5_ofLot ln ow gr we du sa pn pl p1 p2 → vp_in 0 1)
set_option maxHeartbeats 4000000 in
set_option maxRecDepth 100000 in
theorem c_L_ofLot (l : Launch) (G : tm_G) (a0 : Nat) (ma0 : Nat) (ta0 : Nat) (ma1 : Nat) (ma2 : Nat) (ma3 : Nat) (ma4 : Nat) (mb0 : Nat) (mb1 : Nat) (mb2 : Nat) (mb3 : Nat) (mb4 : Nat) (mb5 : Nat) (md0 : Nat) (md1 : Nat) (md2 : Nat) (md3 : Nat) (ob : Nat) (sz : Nat) (lk : Int32) (rf : Int32) (pu : Int32) (to : UInt64) (fh : Int32) (lh : Int32) (ee : Int32) (ln : Int32) (ow : Nat → Int32) (gr : Nat → Int32) (we : Nat → Int32) (du : Nat → Int32) (sa : Nat → Int32) (le : Nat → UInt64) (pn : Int32) (dl : Nat → UInt32) (pl : Nat → Int32) (dr : Nat → Int32) (sp : Nat → Int32) (oj : Nat → Int64) (p1 : Int32) (p2 : Int32) (hn : n_L_ofLot ln ow gr we du sa pn pl p1 p2) (hlt : l.stackTraces = false) : Met l yL_ofLot wsL_ofLot ({ frames := 7, cells := 1, slots := 6, locals := 118 }) (va_Pc [.ref a0, .int p1, .int p2, .ref ob] (tm_B G [tc_X5 a0 ma0 ta0 lk rf pu to, tc_X1 ma0 ma1 ma2 ma3 ma4 fh lh ee, tc_X0 ma3 mb0 mb1 mb2 mb3 mb4 mb5 ln, tc_I G mb0 10 ow, tc_I G mb1 10 gr, tc_I G mb2 10 we, tc_I G mb3 10 du, tc_I G mb4 10 sa, tc_D G mb5 10 le, tc_X2 ma4 md0 md1 md2 md3 pn, tc_F G md0 3 dl, tc_I G md1 3 pl, tc_I G md2 3 dr, tc_I G md3 3 sp, tc_J G ob 1 oj] sz)) (va_Qi (fun (r : Int32) (u : (Nat → Int64)) => (r, u) = f_L_ofLot ln ow gr we du sa pn pl oj p1 p2) (fun (u : (Nat → Int64)) (t : State) => va_P G.1 vwCl [tc_X5 a0 ma0 ta0 lk rf pu to, tc_X1 ma0 ma1 ma2 ma3 ma4 fh lh ee, tc_X0 ma3 mb0 mb1 mb2 mb3 mb4 mb5 ln, tc_I G mb0 10 ow, tc_I G mb1 10 gr, tc_I G mb2 10 we, tc_I G mb3 10 du, tc_I G mb4 10 sa, tc_D G mb5 10 le, tc_X2 ma4 md0 md1 md2 md3 pn, tc_F G md0 3 dl, tc_I G md1 3 pl, tc_I G md2 3 dr, tc_I G md3 3 sp, tc_J G ob 1 u] t.heap ∧ va_D (va_A [tc_X5 a0 ma0 ta0 lk rf pu to, tc_X1 ma0 ma1 ma2 ma3 ma4 fh lh ee, tc_X0 ma3 mb0 mb1 mb2 mb3 mb4 mb5 ln, tc_I G mb0 10 ow, tc_I G mb1 10 gr, tc_I G mb2 10 we, tc_I G mb3 10 du, tc_I G mb4 10 sa, tc_D G mb5 10 le, tc_X2 ma4 md0 md1 md2 md3 pn, tc_F G md0 3 dl, tc_I G md1 3 pl, tc_I G md2 3 dr, tc_I G md3 3 sp, tc_J G ob 1 oj] sz) [tc_X5 a0 ma0 ta0 lk rf pu to, tc_X1 ma0 ma1 ma2 ma3 ma4 fh lh ee, tc_X0 ma3 mb0 mb1 mb2 mb3 mb4 mb5 ln, tc_I G mb0 10 ow, tc_I G mb1 10 gr, tc_I G mb2 10 we, tc_I G mb3 10 du, tc_I G mb4 10 sa, tc_D G mb5 10 le, tc_X2 ma4 md0 md1 md2 md3 pn, tc_F G md0 3 dl, tc_I G md1 3 pl, tc_I G md2 3 dr, tc_I G md3 3 sp, tc_J G ob 1 u]) (va_A [tc_X5 a0 ma0 ta0 lk rf pu to, tc_X1 ma0 ma1 ma2 ma3 ma4 fh lh ee, tc_X0 ma3 mb0 mb1 mb2 mb3 mb4 mb5 ln, tc_I G mb0 10 ow, tc_I G mb1 10 gr, tc_I G mb2 10 we, tc_I G mb3 10 du, tc_I G mb4 10 sa, tc_D G mb5 10 le, tc_X2 ma4 md0 md1 md2 md3 pn, tc_F G md0 3 dl, tc_I G md1 3 pl, tc_I G md2 3 dr, tc_I G md3 3 sp, tc_J G ob 1 oj] sz)) 1 6 (va_A [tc_X5 a0 ma0 ta0 lk rf pu to, tc_X1 ma0 ma1 ma2 ma3 ma4 fh lh ee, tc_X0 ma3 mb0 mb1 mb2 mb3 mb4 mb5 ln, tc_I G mb0 10 ow, tc_I G mb1 10 gr, tc_I G mb2 10 we, tc_I G mb3 10 du, tc_I G mb4 10 sa, tc_D G mb5 10 le, tc_X2 ma4 md0 md1 md2 md3 pn, tc_F G md0 3 dl, tc_I G md1 3 pl, tc_I G md2 3 dr, tc_I G md3 3 sp, tc_J G ob 1 oj] sz) := by
  refine tm_metOf ?_
  refine vx_ofWH (cc := cL_ofLot) (maxL := 5) (ret := (some .int)) (hh :=  [(0, 10, 13, 43), (0, 10, 17, 13)]) (by decide) rfl ?_
  intro p e s m args below meth c s₁ B hml hv
  obtain ⟨rfl, hsz, hP, hK, hD0, hN, hV⟩ := hv
  have hx := B.exec
  have hb := B.bytes
  have hr := B.returns
  have hts := atoms_spec (ws := wsL_ofLot) B.pre
  have htab : c.exceptionTable.toList = tableOf  [(0, 10, 13, 43), (0, 10, 17, 13)] := vx_table (x := yL_ofLot) B (atoms_spec (ws := wsL_ofLot) B.pre _ (List.mem_of_getElem? (i := 0) rfl))
  have hown : s.vm.findClass RL = some m.cls := findClass_of_methodNamed B.named
  have hlocks := B.notSynchronized
  subst hsz
  obtain ⟨n_1, n_3⟩ := hn
  have hD := hD0.self (sz := s.heap.size)
  generalize hAe : va_A [tc_X5 a0 ma0 ta0 lk rf pu to, tc_X1 ma0 ma1 ma2 ma3 ma4 fh lh ee, tc_X0 ma3 mb0 mb1 mb2 mb3 mb4 mb5 ln, tc_I G mb0 10 ow, tc_I G mb1 10 gr, tc_I G mb2 10 we, tc_I G mb3 10 du, tc_I G mb4 10 sa, tc_D G mb5 10 le, tc_X2 ma4 md0 md1 md2 md3 pn, tc_F G md0 3 dl, tc_I G md1 3 pl, tc_I G md2 3 dr, tc_I G md3 3 sp, tc_J G ob 1 oj] s.heap.size = A at hD hV ⊢
  have hA : ∀ q : Nat, s.heap.size ≤ q → A q := fun q h => by rw [← hAe]; exact Or.inr h
  have hS : va_S A s.heap s.heap [] := va_S.rf
  have hl := lv_entry ([.ref a0, .int p1, .int p2, .ref ob]) (n := 5) (Nat.le_of_ble_eq_true rfl)
  rw [lg_entry_eq]
  generalize (lg_sl ([.ref a0, .int p1, .int p2, .ref ob]) ++ List.replicate (5 - (lg_sl ([.ref a0, .int p1, .int p2, .ref ob])).length) Slot.unset).toArray = ls at hl ⊢
  have hl : lv_has ls 5 [(0, .ref a0), (1, .int p1), (2, .int p2), (3, .ref ob)] := hl
  refine lv_aload_n hx hb dL_ofLot_0 rfl (lv_at hl 3 rfl) ?_
  refine lv_iconst (v := 0) hx hb dL_ofLot_1 (by decide) ?_
  refine lv_aload_n hx hb dL_ofLot_2 rfl (lv_at hl 0 rfl) ?_
  refine lv_iload_n hx hb dL_ofLot_3 rfl (lv_at hl 1 rfl) ?_
  refine lv_iload_n hx hb dL_ofLot_4 rfl (lv_at hl 2 rfl) ?_
  have hPc := hP.sub (ws' := [tc_X5 a0 ma0 ta0 lk rf pu to, tc_X1 ma0 ma1 ma2 ma3 ma4 fh lh ee, tc_X0 ma3 mb0 mb1 mb2 mb3 mb4 mb5 ln, tc_I G mb0 10 ow, tc_I G mb1 10 gr, tc_I G mb2 10 we, tc_I G mb3 10 du, tc_I G mb4 10 sa, tc_D G mb5 10 le, tc_X2 ma4 md0 md1 md2 md3 pn, tc_F G md0 3 dl, tc_I G md1 3 pl, tc_I G md2 3 dr, tc_I G md3 3 sp]) [0, 1, 2, 3, 4, 5, 6, 7, 8, 9, 10, 11, 12, 13] rfl
  have hDc := hD.sub (ws' := [tc_X5 a0 ma0 ta0 lk rf pu to, tc_X1 ma0 ma1 ma2 ma3 ma4 fh lh ee, tc_X0 ma3 mb0 mb1 mb2 mb3 mb4 mb5 ln, tc_I G mb0 10 ow, tc_I G mb1 10 gr, tc_I G mb2 10 we, tc_I G mb3 10 du, tc_I G mb4 10 sa, tc_D G mb5 10 le, tc_X2 ma4 md0 md1 md2 md3 pn, tc_F G md0 3 dl, tc_I G md1 3 pl, tc_I G md2 3 dr, tc_I G md3 3 sp]) [0, 1, 2, 3, 4, 5, 6, 7, 8, 9, 10, 11, 12, 13] (by decide) rfl
  have hFc := va_free (wc := [tc_X5 a0 ma0 ta0 lk rf pu to, tc_X1 ma0 ma1 ma2 ma3 ma4 fh lh ee, tc_X0 ma3 mb0 mb1 mb2 mb3 mb4 mb5 ln, tc_I G mb0 10 ow, tc_I G mb1 10 gr, tc_I G mb2 10 we, tc_I G mb3 10 du, tc_I G mb4 10 sa, tc_D G mb5 10 le, tc_X2 ma4 md0 md1 md2 md3 pn, tc_F G md0 3 dl, tc_I G md1 3 pl, tc_I G md2 3 dr, tc_I G md3 3 sp]) hD hS hA [0, 1, 2, 3, 4, 5, 6, 7, 8, 9, 10, 11, 12, 13] rfl
  refine vx_calli (vx_runV (As := [.int p1, .int p2]) (rest := [.int 0, .ref ob]) ⟨hx, hb, hml, hown, hts⟩ (c_X5_ofLot l G a0 ma0 ta0 ma1 ma2 ma3 ma4 mb0 mb1 mb2 mb3 mb4 mb5 md0 md1 md2 md3 s.heap.size lk rf pu to fh lh ee ln ow gr we du sa le pn dl pl dr sp p1 p2 n_1 hlt) (cwV 2 hts gL_ofLot_X5_ofLot rfl rfl rfl (by decide +kernel) ⟨(Nat.le_of_ble_eq_true rfl), (Nat.le_of_ble_eq_true rfl)⟩) (tm_preV hK hN hV hS hPc hDc hFc (va_recv hK hPc (ci := 6) (q0 := 0) rfl rfl)) rfl rfl hl.1 rfl (lv_room (Nat.le_of_ble_eq_true rfl)) dL_ofLot_5 ⟨(Nat.le_of_ble_eq_true rfl), (Nat.le_of_ble_eq_true rfl)⟩) hS (fun q _ h => hFc q h) hFc (fun q _ h => hFc q h) (fun E9 ce9 q9 k9 st9 H locs ht hvm hw_2 hB hz1 hk1 hS hce hcv hcl => ?_) (fun r_2 u st9 H locs ht hvm hw_2 hB hz1 hk1 hS => ?_)
  · obtain ⟨rfl, hP1, hD1⟩ := hB
    rw [ht] at hP1
    obtain ⟨hP, hD⟩ := va_join (wr := [tc_J G ob 1 oj]) (w1 := [tc_X5 a0 ma0 ta0 lk rf pu to, tc_X1 ma0 ma1 ma2 ma3 ma4 fh lh ee, tc_X0 ma3 mb0 mb1 mb2 mb3 mb4 mb5 ln, tc_I G mb0 10 ow, tc_I G mb1 10 gr, tc_I G mb2 10 we, tc_I G mb3 10 du, tc_I G mb4 10 sa, tc_D G mb5 10 le, tc_X2 ma4 md0 md1 md2 md3 pn, tc_F G md0 3 dl, tc_I G md1 3 pl, tc_I G md2 3 dr, tc_I G md3 3 sp]) hP hD [0, 1, 2, 3, 4, 5, 6, 7, 8, 9, 10, 11, 12, 13] [14] rfl rfl (by decide) (by decide) hk1 hFc hP1 hD1
    have hP : va_P G.1 vwCl [tc_J G ob 1 oj, tc_X5 a0 ma0 ta0 lk rf pu to, tc_X1 ma0 ma1 ma2 ma3 ma4 fh lh ee, tc_X0 ma3 mb0 mb1 mb2 mb3 mb4 mb5 ln, tc_I G mb0 10 ow, tc_I G mb1 10 gr, tc_I G mb2 10 we, tc_I G mb3 10 du, tc_I G mb4 10 sa, tc_D G mb5 10 le, tc_X2 ma4 md0 md1 md2 md3 pn, tc_F G md0 3 dl, tc_I G md1 3 pl, tc_I G md2 3 dr, tc_I G md3 3 sp] H := hP
    have hD : va_D A [tc_J G ob 1 oj, tc_X5 a0 ma0 ta0 lk rf pu to, tc_X1 ma0 ma1 ma2 ma3 ma4 fh lh ee, tc_X0 ma3 mb0 mb1 mb2 mb3 mb4 mb5 ln, tc_I G mb0 10 ow, tc_I G mb1 10 gr, tc_I G mb2 10 we, tc_I G mb3 10 du, tc_I G mb4 10 sa, tc_D G mb5 10 le, tc_X2 ma4 md0 md1 md2 md3 pn, tc_F G md0 3 dl, tc_I G md1 3 pl, tc_I G md2 3 dr, tc_I G md3 3 sp] := hD
    rcases x_X5_ofLot hw_2 with rfl | rfl
    · refine vx_catch (name := "java/lang/IllegalArgumentException") (E := "java/lang/IllegalArgumentException") hown [{ startPc := 0, endPc := 10, handlerPc := 13, catchType := 43 }] { startPc := 0, endPc := 10, handlerPc := 17, catchType := 13 } [] (by rw [htab]; rfl) (fun z hz => by rw [List.mem_singleton.mp hz]; exact Or.inr ⟨by decide, "java/lang/IndexOutOfBoundsException", (hts (.classLink RL 43 "java/lang/IndexOutOfBoundsException") (List.mem_of_getElem? (i := 1) rfl)), hN.2.2.2.2.2.2.1 ("java/lang/IllegalArgumentException", "java/lang/IndexOutOfBoundsException") (List.mem_of_getElem? (i := 2) rfl)⟩) (by decide) (by decide) (hts (.classLink RL 13 "java/lang/IllegalArgumentException") (List.mem_of_getElem? (i := 2) rfl)) (va_Nw.use rfl (hN.2.1 ("java/lang/IllegalArgumentException", "java/lang/IllegalArgumentException") (List.mem_of_getElem? (i := 0) rfl))) hce hcv hcl ?_
      show W p l e _ s m _ below meth c H locs 1 6 _ (F0 m 17 ls [.ref q9])
      refine lv_astore (lv' := [(4, .ref q9), (0, .ref a0), (1, .int p1), (2, .int p2), (3, .ref ob)]) hx hb dL_ofLot_17 hl (by decide) rfl (fun ls hl => ?_)
      refine lv_iconst (v := 2) hx hb dL_ofLot_19 (by decide) ?_
      have hP9 := hP.sub (ws' := [tc_X5 a0 ma0 ta0 lk rf pu to, tc_X1 ma0 ma1 ma2 ma3 ma4 fh lh ee, tc_X0 ma3 mb0 mb1 mb2 mb3 mb4 mb5 ln, tc_I G mb0 10 ow, tc_I G mb1 10 gr, tc_I G mb2 10 we, tc_I G mb3 10 du, tc_I G mb4 10 sa, tc_D G mb5 10 le, tc_X2 ma4 md0 md1 md2 md3 pn, tc_F G md0 3 dl, tc_I G md1 3 pl, tc_I G md2 3 dr, tc_I G md3 3 sp, tc_J G ob 1 oj]) [1, 2, 3, 4, 5, 6, 7, 8, 9, 10, 11, 12, 13, 14, 0] rfl
      have hD9 := hD.sub (ws' := [tc_X5 a0 ma0 ta0 lk rf pu to, tc_X1 ma0 ma1 ma2 ma3 ma4 fh lh ee, tc_X0 ma3 mb0 mb1 mb2 mb3 mb4 mb5 ln, tc_I G mb0 10 ow, tc_I G mb1 10 gr, tc_I G mb2 10 we, tc_I G mb3 10 du, tc_I G mb4 10 sa, tc_D G mb5 10 le, tc_X2 ma4 md0 md1 md2 md3 pn, tc_F G md0 3 dl, tc_I G md1 3 pl, tc_I G md2 3 dr, tc_I G md3 3 sp, tc_J G ob 1 oj]) [1, 2, 3, 4, 5, 6, 7, 8, 9, 10, 11, 12, 13, 14, 0] (by decide) rfl
      refine W.widen (k := 1) (n := 6) (Nat.le_of_ble_eq_true rfl) (Nat.le_of_ble_eq_true rfl) (vx_ret ?_)
      exact W.iret (v := 2) hx hb hr (fun t ht hW => ⟨⟨2, (oj), rfl, by unfold f_L_ofLot; all_goals (rw [← hw_2]); all_goals (dsimp only); all_goals rfl, by rw [ht]; exact hP9, hD9⟩, hS.F ht⟩) hS.2.2 dL_ofLot_20
    · refine vx_catch (name := "java/lang/IndexOutOfBoundsException") (E := "java/lang/IndexOutOfBoundsException") hown [] { startPc := 0, endPc := 10, handlerPc := 13, catchType := 43 } [{ startPc := 0, endPc := 10, handlerPc := 17, catchType := 13 }] (by rw [htab]; rfl) (fun z hz => absurd hz List.not_mem_nil) (by decide) (by decide) (hts (.classLink RL 43 "java/lang/IndexOutOfBoundsException") (List.mem_of_getElem? (i := 1) rfl)) (va_Nw.use rfl (hN.2.1 ("java/lang/IndexOutOfBoundsException", "java/lang/IndexOutOfBoundsException") (List.mem_of_getElem? (i := 2) rfl))) hce hcv hcl ?_
      show W p l e _ s m _ below meth c H locs 1 6 _ (F0 m 13 ls [.ref q9])
      refine lv_astore (lv' := [(4, .ref q9), (0, .ref a0), (1, .int p1), (2, .int p2), (3, .ref ob)]) hx hb dL_ofLot_13 hl (by decide) rfl (fun ls hl => ?_)
      refine lv_iconst (v := 1) hx hb dL_ofLot_15 (by decide) ?_
      have hP9 := hP.sub (ws' := [tc_X5 a0 ma0 ta0 lk rf pu to, tc_X1 ma0 ma1 ma2 ma3 ma4 fh lh ee, tc_X0 ma3 mb0 mb1 mb2 mb3 mb4 mb5 ln, tc_I G mb0 10 ow, tc_I G mb1 10 gr, tc_I G mb2 10 we, tc_I G mb3 10 du, tc_I G mb4 10 sa, tc_D G mb5 10 le, tc_X2 ma4 md0 md1 md2 md3 pn, tc_F G md0 3 dl, tc_I G md1 3 pl, tc_I G md2 3 dr, tc_I G md3 3 sp, tc_J G ob 1 oj]) [1, 2, 3, 4, 5, 6, 7, 8, 9, 10, 11, 12, 13, 14, 0] rfl
      have hD9 := hD.sub (ws' := [tc_X5 a0 ma0 ta0 lk rf pu to, tc_X1 ma0 ma1 ma2 ma3 ma4 fh lh ee, tc_X0 ma3 mb0 mb1 mb2 mb3 mb4 mb5 ln, tc_I G mb0 10 ow, tc_I G mb1 10 gr, tc_I G mb2 10 we, tc_I G mb3 10 du, tc_I G mb4 10 sa, tc_D G mb5 10 le, tc_X2 ma4 md0 md1 md2 md3 pn, tc_F G md0 3 dl, tc_I G md1 3 pl, tc_I G md2 3 dr, tc_I G md3 3 sp, tc_J G ob 1 oj]) [1, 2, 3, 4, 5, 6, 7, 8, 9, 10, 11, 12, 13, 14, 0] (by decide) rfl
      refine W.widen (k := 1) (n := 6) (Nat.le_of_ble_eq_true rfl) (Nat.le_of_ble_eq_true rfl) (vx_ret ?_)
      exact W.iret (v := 1) hx hb hr (fun t ht hW => ⟨⟨1, (oj), rfl, by unfold f_L_ofLot; all_goals (rw [← hw_2]); all_goals (dsimp only); all_goals rfl, by rw [ht]; exact hP9, hD9⟩, hS.F ht⟩) hS.2.2 dL_ofLot_16
  · obtain ⟨hP1, hD1⟩ := hB
    rw [ht] at hP1
    try dsimp only at hw_2
    obtain ⟨hP, hD⟩ := va_join (wr := [tc_J G ob 1 oj]) (w1 := [tc_X5 a0 ma0 ta0 lk rf pu to, tc_X1 ma0 ma1 ma2 ma3 ma4 fh lh ee, tc_X0 ma3 mb0 mb1 mb2 mb3 mb4 mb5 ln, tc_I G mb0 10 ow, tc_I G mb1 10 gr, tc_I G mb2 10 we, tc_I G mb3 10 du, tc_I G mb4 10 sa, tc_D G mb5 10 le, tc_X2 ma4 md0 md1 md2 md3 pn, tc_F G md0 3 dl, tc_I G md1 3 pl, tc_I G md2 3 dr, tc_I G md3 3 sp]) hP hD [0, 1, 2, 3, 4, 5, 6, 7, 8, 9, 10, 11, 12, 13] [14] rfl rfl (by decide) (by decide) hk1 hFc hP1 hD1
    have hP : va_P G.1 vwCl [tc_J G ob 1 oj, tc_X5 a0 ma0 ta0 lk rf pu to, tc_X1 ma0 ma1 ma2 ma3 ma4 fh lh ee, tc_X0 ma3 mb0 mb1 mb2 mb3 mb4 mb5 ln, tc_I G mb0 10 ow, tc_I G mb1 10 gr, tc_I G mb2 10 we, tc_I G mb3 10 du, tc_I G mb4 10 sa, tc_D G mb5 10 le, tc_X2 ma4 md0 md1 md2 md3 pn, tc_F G md0 3 dl, tc_I G md1 3 pl, tc_I G md2 3 dr, tc_I G md3 3 sp] H := hP
    have hD : va_D A [tc_J G ob 1 oj, tc_X5 a0 ma0 ta0 lk rf pu to, tc_X1 ma0 ma1 ma2 ma3 ma4 fh lh ee, tc_X0 ma3 mb0 mb1 mb2 mb3 mb4 mb5 ln, tc_I G mb0 10 ow, tc_I G mb1 10 gr, tc_I G mb2 10 we, tc_I G mb3 10 du, tc_I G mb4 10 sa, tc_D G mb5 10 le, tc_X2 ma4 md0 md1 md2 md3 pn, tc_F G md0 3 dl, tc_I G md1 3 pl, tc_I G md2 3 dr, tc_I G md3 3 sp] := hD
    refine W.widen (k := 1) (n := 6) (Nat.le_of_ble_eq_true rfl) (Nat.le_of_ble_eq_true rfl) ?_
    refine lv_i2l (v := r_2.toInt64) hx hb dL_ofLot_8 rfl ?_
    refine va_last (n := 1) (f := oj) hx hb hK hP hD hS 0 5 rfl rfl (n_3 r_2 hw_2) dL_ofLot_9 (fun H locs hP hD hS => ?_)
    have hP : va_P G.1 vwCl [tc_J G ob 1 (vp_updL oj (0 : Int32).toNatClampNeg r_2.toInt64), tc_X5 a0 ma0 ta0 lk rf pu to, tc_X1 ma0 ma1 ma2 ma3 ma4 fh lh ee, tc_X0 ma3 mb0 mb1 mb2 mb3 mb4 mb5 ln, tc_I G mb0 10 ow, tc_I G mb1 10 gr, tc_I G mb2 10 we, tc_I G mb3 10 du, tc_I G mb4 10 sa, tc_D G mb5 10 le, tc_X2 ma4 md0 md1 md2 md3 pn, tc_F G md0 3 dl, tc_I G md1 3 pl, tc_I G md2 3 dr, tc_I G md3 3 sp] H := hP
    have hD : va_D A [tc_J G ob 1 (vp_updL oj (0 : Int32).toNatClampNeg r_2.toInt64), tc_X5 a0 ma0 ta0 lk rf pu to, tc_X1 ma0 ma1 ma2 ma3 ma4 fh lh ee, tc_X0 ma3 mb0 mb1 mb2 mb3 mb4 mb5 ln, tc_I G mb0 10 ow, tc_I G mb1 10 gr, tc_I G mb2 10 we, tc_I G mb3 10 du, tc_I G mb4 10 sa, tc_D G mb5 10 le, tc_X2 ma4 md0 md1 md2 md3 pn, tc_F G md0 3 dl, tc_I G md1 3 pl, tc_I G md2 3 dr, tc_I G md3 3 sp] := hD
    refine lv_goto (tgt := 21) hx hb dL_ofLot_10 (by decide) ?_
    refine lv_iconst (v := 0) hx hb dL_ofLot_21 (by decide) ?_
    have hP9 := hP.sub (ws' := [tc_X5 a0 ma0 ta0 lk rf pu to, tc_X1 ma0 ma1 ma2 ma3 ma4 fh lh ee, tc_X0 ma3 mb0 mb1 mb2 mb3 mb4 mb5 ln, tc_I G mb0 10 ow, tc_I G mb1 10 gr, tc_I G mb2 10 we, tc_I G mb3 10 du, tc_I G mb4 10 sa, tc_D G mb5 10 le, tc_X2 ma4 md0 md1 md2 md3 pn, tc_F G md0 3 dl, tc_I G md1 3 pl, tc_I G md2 3 dr, tc_I G md3 3 sp, tc_J G ob 1 (vp_updL oj (0 : Int32).toNatClampNeg r_2.toInt64)]) [1, 2, 3, 4, 5, 6, 7, 8, 9, 10, 11, 12, 13, 14, 0] rfl
    have hD9 := hD.sub (ws' := [tc_X5 a0 ma0 ta0 lk rf pu to, tc_X1 ma0 ma1 ma2 ma3 ma4 fh lh ee, tc_X0 ma3 mb0 mb1 mb2 mb3 mb4 mb5 ln, tc_I G mb0 10 ow, tc_I G mb1 10 gr, tc_I G mb2 10 we, tc_I G mb3 10 du, tc_I G mb4 10 sa, tc_D G mb5 10 le, tc_X2 ma4 md0 md1 md2 md3 pn, tc_F G md0 3 dl, tc_I G md1 3 pl, tc_I G md2 3 dr, tc_I G md3 3 sp, tc_J G ob 1 (vp_updL oj (0 : Int32).toNatClampNeg r_2.toInt64)]) [1, 2, 3, 4, 5, 6, 7, 8, 9, 10, 11, 12, 13, 14, 0] (by decide) rfl
    refine W.widen (k := 1) (n := 6) (Nat.le_of_ble_eq_true rfl) (Nat.le_of_ble_eq_true rfl) (vx_ret ?_)
    exact W.iret (v := 0) hx hb hr (fun t ht hW => ⟨⟨0, (vp_updL oj (0 : Int32).toNatClampNeg r_2.toInt64), rfl, by unfold f_L_ofLot; all_goals (rw [← hw_2]); all_goals (dsimp only); all_goals rfl, by rw [ht]; exact hP9, hD9⟩, hS.F ht⟩) hS.2.2 dL_ofLot_22
theorem x_X5_left {ln : Int32} {le : Nat → UInt64} {p1 : Int32} {k : Nat} (h : (Sum.inr k : (UInt64) ⊕ Nat) = f_X5_left ln le p1) : k = 2 := by
  unfold f_X5_left at h
  repeat' split at h
  all_goals first | (cases h; done) | (cases h; simp)
def f_L_left (ln : Int32) (le : Nat → UInt64) (od : Nat → UInt64) (p1 : Int32) : Int32 × (Nat → UInt64) :=
  (match f_X5_left ln le p1 with | .inl r_2 => (0, vf_upd od (0 : Int32).toNatClampNeg r_2) | .inr k9 => (1, od))
def n_L_left (ln : Int32) (le : Nat → UInt64) (p1 : Int32) : Prop :=
  (n_X5_left ln p1) ∧
  (∀ (r_2 : UInt64), (Sum.inl r_2 : (UInt64) ⊕ Nat) = f_X5_left ln le p1 → vp_in 0 1)
set_option maxHeartbeats 4000000 in
set_option maxRecDepth 100000 in
theorem c_L_left (l : Launch) (G : tm_G) (a0 : Nat) (ma0 : Nat) (ta0 : Nat) (ma1 : Nat) (ma2 : Nat) (ma3 : Nat) (ma4 : Nat) (mb0 : Nat) (mb1 : Nat) (mb2 : Nat) (mb3 : Nat) (mb4 : Nat) (mb5 : Nat) (ob : Nat) (sz : Nat) (lk : Int32) (rf : Int32) (pu : Int32) (to : UInt64) (fh : Int32) (lh : Int32) (ee : Int32) (ln : Int32) (ow : Nat → Int32) (gr : Nat → Int32) (we : Nat → Int32) (du : Nat → Int32) (sa : Nat → Int32) (le : Nat → UInt64) (od : Nat → UInt64) (p1 : Int32) (hn : n_L_left ln le p1) (hlt : l.stackTraces = false) : Met l yL_left wsL_left ({ frames := 7, cells := 1, slots := 6, locals := 117 }) (va_Pc [.ref a0, .int p1, .ref ob] (tm_B G [tc_X5 a0 ma0 ta0 lk rf pu to, tc_X1 ma0 ma1 ma2 ma3 ma4 fh lh ee, tc_X0 ma3 mb0 mb1 mb2 mb3 mb4 mb5 ln, tc_I G mb0 10 ow, tc_I G mb1 10 gr, tc_I G mb2 10 we, tc_I G mb3 10 du, tc_I G mb4 10 sa, tc_D G mb5 10 le, tc_D G ob 1 od] sz)) (va_Qi (fun (r : Int32) (u : (Nat → UInt64)) => (r, u) = f_L_left ln le od p1) (fun (u : (Nat → UInt64)) (t : State) => va_P G.1 vwCl [tc_X5 a0 ma0 ta0 lk rf pu to, tc_X1 ma0 ma1 ma2 ma3 ma4 fh lh ee, tc_X0 ma3 mb0 mb1 mb2 mb3 mb4 mb5 ln, tc_I G mb0 10 ow, tc_I G mb1 10 gr, tc_I G mb2 10 we, tc_I G mb3 10 du, tc_I G mb4 10 sa, tc_D G mb5 10 le, tc_D G ob 1 u] t.heap ∧ va_D (va_A [tc_X5 a0 ma0 ta0 lk rf pu to, tc_X1 ma0 ma1 ma2 ma3 ma4 fh lh ee, tc_X0 ma3 mb0 mb1 mb2 mb3 mb4 mb5 ln, tc_I G mb0 10 ow, tc_I G mb1 10 gr, tc_I G mb2 10 we, tc_I G mb3 10 du, tc_I G mb4 10 sa, tc_D G mb5 10 le, tc_D G ob 1 od] sz) [tc_X5 a0 ma0 ta0 lk rf pu to, tc_X1 ma0 ma1 ma2 ma3 ma4 fh lh ee, tc_X0 ma3 mb0 mb1 mb2 mb3 mb4 mb5 ln, tc_I G mb0 10 ow, tc_I G mb1 10 gr, tc_I G mb2 10 we, tc_I G mb3 10 du, tc_I G mb4 10 sa, tc_D G mb5 10 le, tc_D G ob 1 u]) (va_A [tc_X5 a0 ma0 ta0 lk rf pu to, tc_X1 ma0 ma1 ma2 ma3 ma4 fh lh ee, tc_X0 ma3 mb0 mb1 mb2 mb3 mb4 mb5 ln, tc_I G mb0 10 ow, tc_I G mb1 10 gr, tc_I G mb2 10 we, tc_I G mb3 10 du, tc_I G mb4 10 sa, tc_D G mb5 10 le, tc_D G ob 1 od] sz)) 1 6 (va_A [tc_X5 a0 ma0 ta0 lk rf pu to, tc_X1 ma0 ma1 ma2 ma3 ma4 fh lh ee, tc_X0 ma3 mb0 mb1 mb2 mb3 mb4 mb5 ln, tc_I G mb0 10 ow, tc_I G mb1 10 gr, tc_I G mb2 10 we, tc_I G mb3 10 du, tc_I G mb4 10 sa, tc_D G mb5 10 le, tc_D G ob 1 od] sz) := by
  refine tm_metOf ?_
  refine vx_ofWH (cc := cL_left) (maxL := 4) (ret := (some .int)) (hh :=  [(0, 8, 11, 43)]) (by decide) rfl ?_
  intro p e s m args below meth c s₁ B hml hv
  obtain ⟨rfl, hsz, hP, hK, hD0, hN, hV⟩ := hv
  have hx := B.exec
  have hb := B.bytes
  have hr := B.returns
  have hts := atoms_spec (ws := wsL_left) B.pre
  have htab : c.exceptionTable.toList = tableOf  [(0, 8, 11, 43)] := vx_table (x := yL_left) B (atoms_spec (ws := wsL_left) B.pre _ (List.mem_of_getElem? (i := 0) rfl))
  have hown : s.vm.findClass RL = some m.cls := findClass_of_methodNamed B.named
  have hlocks := B.notSynchronized
  subst hsz
  obtain ⟨n_1, n_3⟩ := hn
  have hD := hD0.self (sz := s.heap.size)
  generalize hAe : va_A [tc_X5 a0 ma0 ta0 lk rf pu to, tc_X1 ma0 ma1 ma2 ma3 ma4 fh lh ee, tc_X0 ma3 mb0 mb1 mb2 mb3 mb4 mb5 ln, tc_I G mb0 10 ow, tc_I G mb1 10 gr, tc_I G mb2 10 we, tc_I G mb3 10 du, tc_I G mb4 10 sa, tc_D G mb5 10 le, tc_D G ob 1 od] s.heap.size = A at hD hV ⊢
  have hA : ∀ q : Nat, s.heap.size ≤ q → A q := fun q h => by rw [← hAe]; exact Or.inr h
  have hS : va_S A s.heap s.heap [] := va_S.rf
  have hl := lv_entry ([.ref a0, .int p1, .ref ob]) (n := 4) (Nat.le_of_ble_eq_true rfl)
  rw [lg_entry_eq]
  generalize (lg_sl ([.ref a0, .int p1, .ref ob]) ++ List.replicate (4 - (lg_sl ([.ref a0, .int p1, .ref ob])).length) Slot.unset).toArray = ls at hl ⊢
  have hl : lv_has ls 4 [(0, .ref a0), (1, .int p1), (2, .ref ob)] := hl
  refine lv_aload_n hx hb dL_left_0 rfl (lv_at hl 2 rfl) ?_
  refine lv_iconst (v := 0) hx hb dL_left_1 (by decide) ?_
  refine lv_aload_n hx hb dL_left_2 rfl (lv_at hl 0 rfl) ?_
  refine lv_iload_n hx hb dL_left_3 rfl (lv_at hl 1 rfl) ?_
  have hPc := hP.sub (ws' := [tc_X5 a0 ma0 ta0 lk rf pu to, tc_X1 ma0 ma1 ma2 ma3 ma4 fh lh ee, tc_X0 ma3 mb0 mb1 mb2 mb3 mb4 mb5 ln, tc_I G mb0 10 ow, tc_I G mb1 10 gr, tc_I G mb2 10 we, tc_I G mb3 10 du, tc_I G mb4 10 sa, tc_D G mb5 10 le]) [0, 1, 2, 3, 4, 5, 6, 7, 8] rfl
  have hDc := hD.sub (ws' := [tc_X5 a0 ma0 ta0 lk rf pu to, tc_X1 ma0 ma1 ma2 ma3 ma4 fh lh ee, tc_X0 ma3 mb0 mb1 mb2 mb3 mb4 mb5 ln, tc_I G mb0 10 ow, tc_I G mb1 10 gr, tc_I G mb2 10 we, tc_I G mb3 10 du, tc_I G mb4 10 sa, tc_D G mb5 10 le]) [0, 1, 2, 3, 4, 5, 6, 7, 8] (by decide) rfl
  have hFc := va_free (wc := [tc_X5 a0 ma0 ta0 lk rf pu to, tc_X1 ma0 ma1 ma2 ma3 ma4 fh lh ee, tc_X0 ma3 mb0 mb1 mb2 mb3 mb4 mb5 ln, tc_I G mb0 10 ow, tc_I G mb1 10 gr, tc_I G mb2 10 we, tc_I G mb3 10 du, tc_I G mb4 10 sa, tc_D G mb5 10 le]) hD hS hA [0, 1, 2, 3, 4, 5, 6, 7, 8] rfl
  refine vx_calld (vx_runV (As := [.int p1]) (rest := [.int 0, .ref ob]) ⟨hx, hb, hml, hown, hts⟩ (c_X5_left l G a0 ma0 ta0 ma1 ma2 ma3 ma4 mb0 mb1 mb2 mb3 mb4 mb5 s.heap.size lk rf pu to fh lh ee ln ow gr we du sa le p1 n_1 hlt) (cwV 1 hts gL_left_X5_left rfl rfl rfl (by decide +kernel) ⟨(Nat.le_of_ble_eq_true rfl), (Nat.le_of_ble_eq_true rfl)⟩) (tm_preV hK hN hV hS hPc hDc hFc (va_recv hK hPc (ci := 6) (q0 := 0) rfl rfl)) rfl rfl hl.1 rfl (lv_room (Nat.le_of_ble_eq_true rfl)) dL_left_4 ⟨(Nat.le_of_ble_eq_true rfl), (Nat.le_of_ble_eq_true rfl)⟩) hS (fun q _ h => hFc q h) hFc (fun q _ h => hFc q h) (fun E9 ce9 q9 k9 st9 H locs ht hvm hw_2 hB hz1 hk1 hS hce hcv hcl => ?_) (fun r_2 u st9 H locs ht hvm hw_2 hB hz1 hk1 hS => ?_)
  · obtain ⟨rfl, hP1, hD1⟩ := hB
    rw [ht] at hP1
    obtain ⟨hP, hD⟩ := va_join (wr := [tc_D G ob 1 od]) (w1 := [tc_X5 a0 ma0 ta0 lk rf pu to, tc_X1 ma0 ma1 ma2 ma3 ma4 fh lh ee, tc_X0 ma3 mb0 mb1 mb2 mb3 mb4 mb5 ln, tc_I G mb0 10 ow, tc_I G mb1 10 gr, tc_I G mb2 10 we, tc_I G mb3 10 du, tc_I G mb4 10 sa, tc_D G mb5 10 le]) hP hD [0, 1, 2, 3, 4, 5, 6, 7, 8] [9] rfl rfl (by decide) (by decide) hk1 hFc hP1 hD1
    have hP : va_P G.1 vwCl [tc_D G ob 1 od, tc_X5 a0 ma0 ta0 lk rf pu to, tc_X1 ma0 ma1 ma2 ma3 ma4 fh lh ee, tc_X0 ma3 mb0 mb1 mb2 mb3 mb4 mb5 ln, tc_I G mb0 10 ow, tc_I G mb1 10 gr, tc_I G mb2 10 we, tc_I G mb3 10 du, tc_I G mb4 10 sa, tc_D G mb5 10 le] H := hP
    have hD : va_D A [tc_D G ob 1 od, tc_X5 a0 ma0 ta0 lk rf pu to, tc_X1 ma0 ma1 ma2 ma3 ma4 fh lh ee, tc_X0 ma3 mb0 mb1 mb2 mb3 mb4 mb5 ln, tc_I G mb0 10 ow, tc_I G mb1 10 gr, tc_I G mb2 10 we, tc_I G mb3 10 du, tc_I G mb4 10 sa, tc_D G mb5 10 le] := hD
    obtain rfl := x_X5_left hw_2
    · refine vx_catch (name := "java/lang/IndexOutOfBoundsException") (E := "java/lang/IndexOutOfBoundsException") hown [] { startPc := 0, endPc := 8, handlerPc := 11, catchType := 43 } [] (by rw [htab]; rfl) (fun z hz => absurd hz List.not_mem_nil) (by decide) (by decide) (hts (.classLink RL 43 "java/lang/IndexOutOfBoundsException") (List.mem_of_getElem? (i := 1) rfl)) (va_Nw.use rfl (hN.2.1 ("java/lang/IndexOutOfBoundsException", "java/lang/IndexOutOfBoundsException") (List.mem_of_getElem? (i := 2) rfl))) hce hcv hcl ?_
      show W p l e _ s m _ below meth c H locs 1 6 _ (F0 m 11 ls [.ref q9])
      refine lv_astore_n (lv' := [(3, .ref q9), (0, .ref a0), (1, .int p1), (2, .ref ob)]) hx hb dL_left_11 rfl hl (by decide) rfl (fun ls hl => ?_)
      refine lv_iconst (v := 1) hx hb dL_left_12 (by decide) ?_
      have hP9 := hP.sub (ws' := [tc_X5 a0 ma0 ta0 lk rf pu to, tc_X1 ma0 ma1 ma2 ma3 ma4 fh lh ee, tc_X0 ma3 mb0 mb1 mb2 mb3 mb4 mb5 ln, tc_I G mb0 10 ow, tc_I G mb1 10 gr, tc_I G mb2 10 we, tc_I G mb3 10 du, tc_I G mb4 10 sa, tc_D G mb5 10 le, tc_D G ob 1 od]) [1, 2, 3, 4, 5, 6, 7, 8, 9, 0] rfl
      have hD9 := hD.sub (ws' := [tc_X5 a0 ma0 ta0 lk rf pu to, tc_X1 ma0 ma1 ma2 ma3 ma4 fh lh ee, tc_X0 ma3 mb0 mb1 mb2 mb3 mb4 mb5 ln, tc_I G mb0 10 ow, tc_I G mb1 10 gr, tc_I G mb2 10 we, tc_I G mb3 10 du, tc_I G mb4 10 sa, tc_D G mb5 10 le, tc_D G ob 1 od]) [1, 2, 3, 4, 5, 6, 7, 8, 9, 0] (by decide) rfl
      refine W.widen (k := 1) (n := 6) (Nat.le_of_ble_eq_true rfl) (Nat.le_of_ble_eq_true rfl) (vx_ret ?_)
      exact W.iret (v := 1) hx hb hr (fun t ht hW => ⟨⟨1, (od), rfl, by unfold f_L_left; all_goals (rw [← hw_2]); all_goals (dsimp only); all_goals rfl, by rw [ht]; exact hP9, hD9⟩, hS.F ht⟩) hS.2.2 dL_left_13
  · obtain ⟨hP1, hD1⟩ := hB
    rw [ht] at hP1
    try dsimp only at hw_2
    obtain ⟨hP, hD⟩ := va_join (wr := [tc_D G ob 1 od]) (w1 := [tc_X5 a0 ma0 ta0 lk rf pu to, tc_X1 ma0 ma1 ma2 ma3 ma4 fh lh ee, tc_X0 ma3 mb0 mb1 mb2 mb3 mb4 mb5 ln, tc_I G mb0 10 ow, tc_I G mb1 10 gr, tc_I G mb2 10 we, tc_I G mb3 10 du, tc_I G mb4 10 sa, tc_D G mb5 10 le]) hP hD [0, 1, 2, 3, 4, 5, 6, 7, 8] [9] rfl rfl (by decide) (by decide) hk1 hFc hP1 hD1
    have hP : va_P G.1 vwCl [tc_D G ob 1 od, tc_X5 a0 ma0 ta0 lk rf pu to, tc_X1 ma0 ma1 ma2 ma3 ma4 fh lh ee, tc_X0 ma3 mb0 mb1 mb2 mb3 mb4 mb5 ln, tc_I G mb0 10 ow, tc_I G mb1 10 gr, tc_I G mb2 10 we, tc_I G mb3 10 du, tc_I G mb4 10 sa, tc_D G mb5 10 le] H := hP
    have hD : va_D A [tc_D G ob 1 od, tc_X5 a0 ma0 ta0 lk rf pu to, tc_X1 ma0 ma1 ma2 ma3 ma4 fh lh ee, tc_X0 ma3 mb0 mb1 mb2 mb3 mb4 mb5 ln, tc_I G mb0 10 ow, tc_I G mb1 10 gr, tc_I G mb2 10 we, tc_I G mb3 10 du, tc_I G mb4 10 sa, tc_D G mb5 10 le] := hD
    refine W.widen (k := 1) (n := 6) (Nat.le_of_ble_eq_true rfl) (Nat.le_of_ble_eq_true rfl) ?_
    refine va_dast (n := 1) (f := od) hx hb hK hP hD hS 0 1 rfl rfl (n_3 r_2 hw_2) dL_left_7 (fun H locs hP hD hS => ?_)
    have hP : va_P G.1 vwCl [tc_D G ob 1 (vf_upd od (0 : Int32).toNatClampNeg r_2), tc_X5 a0 ma0 ta0 lk rf pu to, tc_X1 ma0 ma1 ma2 ma3 ma4 fh lh ee, tc_X0 ma3 mb0 mb1 mb2 mb3 mb4 mb5 ln, tc_I G mb0 10 ow, tc_I G mb1 10 gr, tc_I G mb2 10 we, tc_I G mb3 10 du, tc_I G mb4 10 sa, tc_D G mb5 10 le] H := hP
    have hD : va_D A [tc_D G ob 1 (vf_upd od (0 : Int32).toNatClampNeg r_2), tc_X5 a0 ma0 ta0 lk rf pu to, tc_X1 ma0 ma1 ma2 ma3 ma4 fh lh ee, tc_X0 ma3 mb0 mb1 mb2 mb3 mb4 mb5 ln, tc_I G mb0 10 ow, tc_I G mb1 10 gr, tc_I G mb2 10 we, tc_I G mb3 10 du, tc_I G mb4 10 sa, tc_D G mb5 10 le] := hD
    refine lv_goto (tgt := 14) hx hb dL_left_8 (by decide) ?_
    refine lv_iconst (v := 0) hx hb dL_left_14 (by decide) ?_
    have hP9 := hP.sub (ws' := [tc_X5 a0 ma0 ta0 lk rf pu to, tc_X1 ma0 ma1 ma2 ma3 ma4 fh lh ee, tc_X0 ma3 mb0 mb1 mb2 mb3 mb4 mb5 ln, tc_I G mb0 10 ow, tc_I G mb1 10 gr, tc_I G mb2 10 we, tc_I G mb3 10 du, tc_I G mb4 10 sa, tc_D G mb5 10 le, tc_D G ob 1 (vf_upd od (0 : Int32).toNatClampNeg r_2)]) [1, 2, 3, 4, 5, 6, 7, 8, 9, 0] rfl
    have hD9 := hD.sub (ws' := [tc_X5 a0 ma0 ta0 lk rf pu to, tc_X1 ma0 ma1 ma2 ma3 ma4 fh lh ee, tc_X0 ma3 mb0 mb1 mb2 mb3 mb4 mb5 ln, tc_I G mb0 10 ow, tc_I G mb1 10 gr, tc_I G mb2 10 we, tc_I G mb3 10 du, tc_I G mb4 10 sa, tc_D G mb5 10 le, tc_D G ob 1 (vf_upd od (0 : Int32).toNatClampNeg r_2)]) [1, 2, 3, 4, 5, 6, 7, 8, 9, 0] (by decide) rfl
    refine W.widen (k := 1) (n := 6) (Nat.le_of_ble_eq_true rfl) (Nat.le_of_ble_eq_true rfl) (vx_ret ?_)
    exact W.iret (v := 0) hx hb hr (fun t ht hW => ⟨⟨0, (vf_upd od (0 : Int32).toNatClampNeg r_2), rfl, by unfold f_L_left; all_goals (rw [← hw_2]); all_goals (dsimp only); all_goals rfl, by rw [ht]; exact hP9, hD9⟩, hS.F ht⟩) hS.2.2 dL_left_15
theorem x_X5_many {lk : Int32} {rf : Int32} {pu : Int32} {fh : Int32} {lh : Int32} {ee : Int32} {tk : Int32} {mo : Int32} {ga : Int32} {sl : Int32} {ln : Int32} {sa : Nat → Int32} {pn : Int32} {sp : Nat → Int32} {p1 : Int32} {k : Nat} (h : (Sum.inr k : (Int32) ⊕ Nat) = f_X5_many lk rf pu fh lh ee tk mo ga sl ln sa pn sp p1) : k = 0 := by
  unfold f_X5_many at h
  repeat' split at h
  all_goals first | (cases h; done) | (cases h; simp)
def f_L_many (lk : Int32) (rf : Int32) (pu : Int32) (fh : Int32) (lh : Int32) (ee : Int32) (tk : Int32) (mo : Int32) (ga : Int32) (sl : Int32) (ln : Int32) (sa : Nat → Int32) (pn : Int32) (sp : Nat → Int32) (oj : Nat → Int64) (p1 : Int32) : Int32 × (Nat → Int64) :=
  (match f_X5_many lk rf pu fh lh ee tk mo ga sl ln sa pn sp p1 with | .inl r_2 => (0, vp_updL oj (0 : Int32).toNatClampNeg r_2.toInt64) | .inr k9 => (1, oj))
def n_L_many (lk : Int32) (rf : Int32) (pu : Int32) (fh : Int32) (lh : Int32) (ee : Int32) (tk : Int32) (mo : Int32) (ga : Int32) (sl : Int32) (ln : Int32) (sa : Nat → Int32) (pn : Int32) (sp : Nat → Int32) (p1 : Int32) : Prop :=
  (n_X5_many ln sa pn sp p1) ∧
  (∀ (r_2 : Int32), (Sum.inl r_2 : (Int32) ⊕ Nat) = f_X5_many lk rf pu fh lh ee tk mo ga sl ln sa pn sp p1 → vp_in 0 1)
set_option maxHeartbeats 4000000 in
set_option maxRecDepth 100000 in
theorem c_L_many (l : Launch) (G : tm_G) (a0 : Nat) (ma0 : Nat) (ta0 : Nat) (ma1 : Nat) (ma2 : Nat) (ma3 : Nat) (ma4 : Nat) (mb0 : Nat) (mb1 : Nat) (mb2 : Nat) (mb3 : Nat) (mb4 : Nat) (mb5 : Nat) (md0 : Nat) (md1 : Nat) (md2 : Nat) (md3 : Nat) (ob : Nat) (sz : Nat) (lk : Int32) (rf : Int32) (pu : Int32) (to : UInt64) (fh : Int32) (lh : Int32) (ee : Int32) (tk : Int32) (mo : Int32) (su : UInt64) (lv : UInt64) (si : UInt32) (ga : Int32) (sl : Int32) (sc : Int32) (fo : UInt64) (ln : Int32) (ow : Nat → Int32) (gr : Nat → Int32) (we : Nat → Int32) (du : Nat → Int32) (sa : Nat → Int32) (le : Nat → UInt64) (pn : Int32) (dl : Nat → UInt32) (pl : Nat → Int32) (dr : Nat → Int32) (sp : Nat → Int32) (oj : Nat → Int64) (p1 : Int32) (hn : n_L_many lk rf pu fh lh ee tk mo ga sl ln sa pn sp p1) (hlt : l.stackTraces = false) : Met l yL_many wsL_many ({ frames := 7, cells := 1, slots := 6, locals := 117 }) (va_Pc [.ref a0, .int p1, .ref ob] (tm_B G [tc_X5 a0 ma0 ta0 lk rf pu to, tc_X1 ma0 ma1 ma2 ma3 ma4 fh lh ee, tc_X4 ma1 tk mo su, tc_X3 ma2 lv si ga sl sc fo, tc_X0 ma3 mb0 mb1 mb2 mb3 mb4 mb5 ln, tc_I G mb0 10 ow, tc_I G mb1 10 gr, tc_I G mb2 10 we, tc_I G mb3 10 du, tc_I G mb4 10 sa, tc_D G mb5 10 le, tc_X2 ma4 md0 md1 md2 md3 pn, tc_F G md0 3 dl, tc_I G md1 3 pl, tc_I G md2 3 dr, tc_I G md3 3 sp, tc_J G ob 1 oj] sz)) (va_Qi (fun (r : Int32) (u : (Nat → Int64)) => (r, u) = f_L_many lk rf pu fh lh ee tk mo ga sl ln sa pn sp oj p1) (fun (u : (Nat → Int64)) (t : State) => va_P G.1 vwCl [tc_X5 a0 ma0 ta0 lk rf pu to, tc_X1 ma0 ma1 ma2 ma3 ma4 fh lh ee, tc_X4 ma1 tk mo su, tc_X3 ma2 lv si ga sl sc fo, tc_X0 ma3 mb0 mb1 mb2 mb3 mb4 mb5 ln, tc_I G mb0 10 ow, tc_I G mb1 10 gr, tc_I G mb2 10 we, tc_I G mb3 10 du, tc_I G mb4 10 sa, tc_D G mb5 10 le, tc_X2 ma4 md0 md1 md2 md3 pn, tc_F G md0 3 dl, tc_I G md1 3 pl, tc_I G md2 3 dr, tc_I G md3 3 sp, tc_J G ob 1 u] t.heap ∧ va_D (va_A [tc_X5 a0 ma0 ta0 lk rf pu to, tc_X1 ma0 ma1 ma2 ma3 ma4 fh lh ee, tc_X4 ma1 tk mo su, tc_X3 ma2 lv si ga sl sc fo, tc_X0 ma3 mb0 mb1 mb2 mb3 mb4 mb5 ln, tc_I G mb0 10 ow, tc_I G mb1 10 gr, tc_I G mb2 10 we, tc_I G mb3 10 du, tc_I G mb4 10 sa, tc_D G mb5 10 le, tc_X2 ma4 md0 md1 md2 md3 pn, tc_F G md0 3 dl, tc_I G md1 3 pl, tc_I G md2 3 dr, tc_I G md3 3 sp, tc_J G ob 1 oj] sz) [tc_X5 a0 ma0 ta0 lk rf pu to, tc_X1 ma0 ma1 ma2 ma3 ma4 fh lh ee, tc_X4 ma1 tk mo su, tc_X3 ma2 lv si ga sl sc fo, tc_X0 ma3 mb0 mb1 mb2 mb3 mb4 mb5 ln, tc_I G mb0 10 ow, tc_I G mb1 10 gr, tc_I G mb2 10 we, tc_I G mb3 10 du, tc_I G mb4 10 sa, tc_D G mb5 10 le, tc_X2 ma4 md0 md1 md2 md3 pn, tc_F G md0 3 dl, tc_I G md1 3 pl, tc_I G md2 3 dr, tc_I G md3 3 sp, tc_J G ob 1 u]) (va_A [tc_X5 a0 ma0 ta0 lk rf pu to, tc_X1 ma0 ma1 ma2 ma3 ma4 fh lh ee, tc_X4 ma1 tk mo su, tc_X3 ma2 lv si ga sl sc fo, tc_X0 ma3 mb0 mb1 mb2 mb3 mb4 mb5 ln, tc_I G mb0 10 ow, tc_I G mb1 10 gr, tc_I G mb2 10 we, tc_I G mb3 10 du, tc_I G mb4 10 sa, tc_D G mb5 10 le, tc_X2 ma4 md0 md1 md2 md3 pn, tc_F G md0 3 dl, tc_I G md1 3 pl, tc_I G md2 3 dr, tc_I G md3 3 sp, tc_J G ob 1 oj] sz)) 1 6 (va_A [tc_X5 a0 ma0 ta0 lk rf pu to, tc_X1 ma0 ma1 ma2 ma3 ma4 fh lh ee, tc_X4 ma1 tk mo su, tc_X3 ma2 lv si ga sl sc fo, tc_X0 ma3 mb0 mb1 mb2 mb3 mb4 mb5 ln, tc_I G mb0 10 ow, tc_I G mb1 10 gr, tc_I G mb2 10 we, tc_I G mb3 10 du, tc_I G mb4 10 sa, tc_D G mb5 10 le, tc_X2 ma4 md0 md1 md2 md3 pn, tc_F G md0 3 dl, tc_I G md1 3 pl, tc_I G md2 3 dr, tc_I G md3 3 sp, tc_J G ob 1 oj] sz) := by
  refine tm_metOf ?_
  refine vx_ofWH (cc := cL_many) (maxL := 4) (ret := (some .int)) (hh :=  [(0, 9, 12, 13)]) (by decide) rfl ?_
  intro p e s m args below meth c s₁ B hml hv
  obtain ⟨rfl, hsz, hP, hK, hD0, hN, hV⟩ := hv
  have hx := B.exec
  have hb := B.bytes
  have hr := B.returns
  have hts := atoms_spec (ws := wsL_many) B.pre
  have htab : c.exceptionTable.toList = tableOf  [(0, 9, 12, 13)] := vx_table (x := yL_many) B (atoms_spec (ws := wsL_many) B.pre _ (List.mem_of_getElem? (i := 0) rfl))
  have hown : s.vm.findClass RL = some m.cls := findClass_of_methodNamed B.named
  have hlocks := B.notSynchronized
  subst hsz
  obtain ⟨n_1, n_3⟩ := hn
  have hD := hD0.self (sz := s.heap.size)
  generalize hAe : va_A [tc_X5 a0 ma0 ta0 lk rf pu to, tc_X1 ma0 ma1 ma2 ma3 ma4 fh lh ee, tc_X4 ma1 tk mo su, tc_X3 ma2 lv si ga sl sc fo, tc_X0 ma3 mb0 mb1 mb2 mb3 mb4 mb5 ln, tc_I G mb0 10 ow, tc_I G mb1 10 gr, tc_I G mb2 10 we, tc_I G mb3 10 du, tc_I G mb4 10 sa, tc_D G mb5 10 le, tc_X2 ma4 md0 md1 md2 md3 pn, tc_F G md0 3 dl, tc_I G md1 3 pl, tc_I G md2 3 dr, tc_I G md3 3 sp, tc_J G ob 1 oj] s.heap.size = A at hD hV ⊢
  have hA : ∀ q : Nat, s.heap.size ≤ q → A q := fun q h => by rw [← hAe]; exact Or.inr h
  have hS : va_S A s.heap s.heap [] := va_S.rf
  have hl := lv_entry ([.ref a0, .int p1, .ref ob]) (n := 4) (Nat.le_of_ble_eq_true rfl)
  rw [lg_entry_eq]
  generalize (lg_sl ([.ref a0, .int p1, .ref ob]) ++ List.replicate (4 - (lg_sl ([.ref a0, .int p1, .ref ob])).length) Slot.unset).toArray = ls at hl ⊢
  have hl : lv_has ls 4 [(0, .ref a0), (1, .int p1), (2, .ref ob)] := hl
  refine lv_aload_n hx hb dL_many_0 rfl (lv_at hl 2 rfl) ?_
  refine lv_iconst (v := 0) hx hb dL_many_1 (by decide) ?_
  refine lv_aload_n hx hb dL_many_2 rfl (lv_at hl 0 rfl) ?_
  refine lv_iload_n hx hb dL_many_3 rfl (lv_at hl 1 rfl) ?_
  have hPc := hP.sub (ws' := [tc_X5 a0 ma0 ta0 lk rf pu to, tc_X1 ma0 ma1 ma2 ma3 ma4 fh lh ee, tc_X4 ma1 tk mo su, tc_X3 ma2 lv si ga sl sc fo, tc_X0 ma3 mb0 mb1 mb2 mb3 mb4 mb5 ln, tc_I G mb0 10 ow, tc_I G mb1 10 gr, tc_I G mb2 10 we, tc_I G mb3 10 du, tc_I G mb4 10 sa, tc_D G mb5 10 le, tc_X2 ma4 md0 md1 md2 md3 pn, tc_F G md0 3 dl, tc_I G md1 3 pl, tc_I G md2 3 dr, tc_I G md3 3 sp]) [0, 1, 2, 3, 4, 5, 6, 7, 8, 9, 10, 11, 12, 13, 14, 15] rfl
  have hDc := hD.sub (ws' := [tc_X5 a0 ma0 ta0 lk rf pu to, tc_X1 ma0 ma1 ma2 ma3 ma4 fh lh ee, tc_X4 ma1 tk mo su, tc_X3 ma2 lv si ga sl sc fo, tc_X0 ma3 mb0 mb1 mb2 mb3 mb4 mb5 ln, tc_I G mb0 10 ow, tc_I G mb1 10 gr, tc_I G mb2 10 we, tc_I G mb3 10 du, tc_I G mb4 10 sa, tc_D G mb5 10 le, tc_X2 ma4 md0 md1 md2 md3 pn, tc_F G md0 3 dl, tc_I G md1 3 pl, tc_I G md2 3 dr, tc_I G md3 3 sp]) [0, 1, 2, 3, 4, 5, 6, 7, 8, 9, 10, 11, 12, 13, 14, 15] (by decide) rfl
  have hFc := va_free (wc := [tc_X5 a0 ma0 ta0 lk rf pu to, tc_X1 ma0 ma1 ma2 ma3 ma4 fh lh ee, tc_X4 ma1 tk mo su, tc_X3 ma2 lv si ga sl sc fo, tc_X0 ma3 mb0 mb1 mb2 mb3 mb4 mb5 ln, tc_I G mb0 10 ow, tc_I G mb1 10 gr, tc_I G mb2 10 we, tc_I G mb3 10 du, tc_I G mb4 10 sa, tc_D G mb5 10 le, tc_X2 ma4 md0 md1 md2 md3 pn, tc_F G md0 3 dl, tc_I G md1 3 pl, tc_I G md2 3 dr, tc_I G md3 3 sp]) hD hS hA [0, 1, 2, 3, 4, 5, 6, 7, 8, 9, 10, 11, 12, 13, 14, 15] rfl
  refine vx_calli (vx_runV (As := [.int p1]) (rest := [.int 0, .ref ob]) ⟨hx, hb, hml, hown, hts⟩ (c_X5_many l G a0 ma0 ta0 ma1 ma2 ma3 ma4 mb0 mb1 mb2 mb3 mb4 mb5 md0 md1 md2 md3 s.heap.size lk rf pu to fh lh ee tk mo su lv si ga sl sc fo ln ow gr we du sa le pn dl pl dr sp p1 n_1 hlt) (cwV 1 hts gL_many_X5_many rfl rfl rfl (by decide +kernel) ⟨(Nat.le_of_ble_eq_true rfl), (Nat.le_of_ble_eq_true rfl)⟩) (tm_preV hK hN hV hS hPc hDc hFc (va_recv hK hPc (ci := 6) (q0 := 0) rfl rfl)) rfl rfl hl.1 rfl (lv_room (Nat.le_of_ble_eq_true rfl)) dL_many_4 ⟨(Nat.le_of_ble_eq_true rfl), (Nat.le_of_ble_eq_true rfl)⟩) hS (fun q _ h => hFc q h) hFc (fun q _ h => hFc q h) (fun E9 ce9 q9 k9 st9 H locs ht hvm hw_2 hB hz1 hk1 hS hce hcv hcl => ?_) (fun r_2 u st9 H locs ht hvm hw_2 hB hz1 hk1 hS => ?_)
  · obtain ⟨rfl, hP1, hD1⟩ := hB
    rw [ht] at hP1
    obtain ⟨hP, hD⟩ := va_join (wr := [tc_J G ob 1 oj]) (w1 := [tc_X5 a0 ma0 ta0 lk rf pu to, tc_X1 ma0 ma1 ma2 ma3 ma4 fh lh ee, tc_X4 ma1 tk mo su, tc_X3 ma2 lv si ga sl sc fo, tc_X0 ma3 mb0 mb1 mb2 mb3 mb4 mb5 ln, tc_I G mb0 10 ow, tc_I G mb1 10 gr, tc_I G mb2 10 we, tc_I G mb3 10 du, tc_I G mb4 10 sa, tc_D G mb5 10 le, tc_X2 ma4 md0 md1 md2 md3 pn, tc_F G md0 3 dl, tc_I G md1 3 pl, tc_I G md2 3 dr, tc_I G md3 3 sp]) hP hD [0, 1, 2, 3, 4, 5, 6, 7, 8, 9, 10, 11, 12, 13, 14, 15] [16] rfl rfl (by decide) (by decide) hk1 hFc hP1 hD1
    have hP : va_P G.1 vwCl [tc_J G ob 1 oj, tc_X5 a0 ma0 ta0 lk rf pu to, tc_X1 ma0 ma1 ma2 ma3 ma4 fh lh ee, tc_X4 ma1 tk mo su, tc_X3 ma2 lv si ga sl sc fo, tc_X0 ma3 mb0 mb1 mb2 mb3 mb4 mb5 ln, tc_I G mb0 10 ow, tc_I G mb1 10 gr, tc_I G mb2 10 we, tc_I G mb3 10 du, tc_I G mb4 10 sa, tc_D G mb5 10 le, tc_X2 ma4 md0 md1 md2 md3 pn, tc_F G md0 3 dl, tc_I G md1 3 pl, tc_I G md2 3 dr, tc_I G md3 3 sp] H := hP
    have hD : va_D A [tc_J G ob 1 oj, tc_X5 a0 ma0 ta0 lk rf pu to, tc_X1 ma0 ma1 ma2 ma3 ma4 fh lh ee, tc_X4 ma1 tk mo su, tc_X3 ma2 lv si ga sl sc fo, tc_X0 ma3 mb0 mb1 mb2 mb3 mb4 mb5 ln, tc_I G mb0 10 ow, tc_I G mb1 10 gr, tc_I G mb2 10 we, tc_I G mb3 10 du, tc_I G mb4 10 sa, tc_D G mb5 10 le, tc_X2 ma4 md0 md1 md2 md3 pn, tc_F G md0 3 dl, tc_I G md1 3 pl, tc_I G md2 3 dr, tc_I G md3 3 sp] := hD
    obtain rfl := x_X5_many hw_2
    · refine vx_catch (name := "java/lang/IllegalArgumentException") (E := "java/lang/IllegalArgumentException") hown [] { startPc := 0, endPc := 9, handlerPc := 12, catchType := 13 } [] (by rw [htab]; rfl) (fun z hz => absurd hz List.not_mem_nil) (by decide) (by decide) (hts (.classLink RL 13 "java/lang/IllegalArgumentException") (List.mem_of_getElem? (i := 1) rfl)) (va_Nw.use rfl (hN.2.1 ("java/lang/IllegalArgumentException", "java/lang/IllegalArgumentException") (List.mem_of_getElem? (i := 0) rfl))) hce hcv hcl ?_
      show W p l e _ s m _ below meth c H locs 1 6 _ (F0 m 12 ls [.ref q9])
      refine lv_astore_n (lv' := [(3, .ref q9), (0, .ref a0), (1, .int p1), (2, .ref ob)]) hx hb dL_many_12 rfl hl (by decide) rfl (fun ls hl => ?_)
      refine lv_iconst (v := 1) hx hb dL_many_13 (by decide) ?_
      have hP9 := hP.sub (ws' := [tc_X5 a0 ma0 ta0 lk rf pu to, tc_X1 ma0 ma1 ma2 ma3 ma4 fh lh ee, tc_X4 ma1 tk mo su, tc_X3 ma2 lv si ga sl sc fo, tc_X0 ma3 mb0 mb1 mb2 mb3 mb4 mb5 ln, tc_I G mb0 10 ow, tc_I G mb1 10 gr, tc_I G mb2 10 we, tc_I G mb3 10 du, tc_I G mb4 10 sa, tc_D G mb5 10 le, tc_X2 ma4 md0 md1 md2 md3 pn, tc_F G md0 3 dl, tc_I G md1 3 pl, tc_I G md2 3 dr, tc_I G md3 3 sp, tc_J G ob 1 oj]) [1, 2, 3, 4, 5, 6, 7, 8, 9, 10, 11, 12, 13, 14, 15, 16, 0] rfl
      have hD9 := hD.sub (ws' := [tc_X5 a0 ma0 ta0 lk rf pu to, tc_X1 ma0 ma1 ma2 ma3 ma4 fh lh ee, tc_X4 ma1 tk mo su, tc_X3 ma2 lv si ga sl sc fo, tc_X0 ma3 mb0 mb1 mb2 mb3 mb4 mb5 ln, tc_I G mb0 10 ow, tc_I G mb1 10 gr, tc_I G mb2 10 we, tc_I G mb3 10 du, tc_I G mb4 10 sa, tc_D G mb5 10 le, tc_X2 ma4 md0 md1 md2 md3 pn, tc_F G md0 3 dl, tc_I G md1 3 pl, tc_I G md2 3 dr, tc_I G md3 3 sp, tc_J G ob 1 oj]) [1, 2, 3, 4, 5, 6, 7, 8, 9, 10, 11, 12, 13, 14, 15, 16, 0] (by decide) rfl
      refine W.widen (k := 1) (n := 6) (Nat.le_of_ble_eq_true rfl) (Nat.le_of_ble_eq_true rfl) (vx_ret ?_)
      exact W.iret (v := 1) hx hb hr (fun t ht hW => ⟨⟨1, (oj), rfl, by unfold f_L_many; all_goals (rw [← hw_2]); all_goals (dsimp only); all_goals rfl, by rw [ht]; exact hP9, hD9⟩, hS.F ht⟩) hS.2.2 dL_many_14
  · obtain ⟨hP1, hD1⟩ := hB
    rw [ht] at hP1
    try dsimp only at hw_2
    obtain ⟨hP, hD⟩ := va_join (wr := [tc_J G ob 1 oj]) (w1 := [tc_X5 a0 ma0 ta0 lk rf pu to, tc_X1 ma0 ma1 ma2 ma3 ma4 fh lh ee, tc_X4 ma1 tk mo su, tc_X3 ma2 lv si ga sl sc fo, tc_X0 ma3 mb0 mb1 mb2 mb3 mb4 mb5 ln, tc_I G mb0 10 ow, tc_I G mb1 10 gr, tc_I G mb2 10 we, tc_I G mb3 10 du, tc_I G mb4 10 sa, tc_D G mb5 10 le, tc_X2 ma4 md0 md1 md2 md3 pn, tc_F G md0 3 dl, tc_I G md1 3 pl, tc_I G md2 3 dr, tc_I G md3 3 sp]) hP hD [0, 1, 2, 3, 4, 5, 6, 7, 8, 9, 10, 11, 12, 13, 14, 15] [16] rfl rfl (by decide) (by decide) hk1 hFc hP1 hD1
    have hP : va_P G.1 vwCl [tc_J G ob 1 oj, tc_X5 a0 ma0 ta0 lk rf pu to, tc_X1 ma0 ma1 ma2 ma3 ma4 fh lh ee, tc_X4 ma1 tk mo su, tc_X3 ma2 lv si ga sl sc fo, tc_X0 ma3 mb0 mb1 mb2 mb3 mb4 mb5 ln, tc_I G mb0 10 ow, tc_I G mb1 10 gr, tc_I G mb2 10 we, tc_I G mb3 10 du, tc_I G mb4 10 sa, tc_D G mb5 10 le, tc_X2 ma4 md0 md1 md2 md3 pn, tc_F G md0 3 dl, tc_I G md1 3 pl, tc_I G md2 3 dr, tc_I G md3 3 sp] H := hP
    have hD : va_D A [tc_J G ob 1 oj, tc_X5 a0 ma0 ta0 lk rf pu to, tc_X1 ma0 ma1 ma2 ma3 ma4 fh lh ee, tc_X4 ma1 tk mo su, tc_X3 ma2 lv si ga sl sc fo, tc_X0 ma3 mb0 mb1 mb2 mb3 mb4 mb5 ln, tc_I G mb0 10 ow, tc_I G mb1 10 gr, tc_I G mb2 10 we, tc_I G mb3 10 du, tc_I G mb4 10 sa, tc_D G mb5 10 le, tc_X2 ma4 md0 md1 md2 md3 pn, tc_F G md0 3 dl, tc_I G md1 3 pl, tc_I G md2 3 dr, tc_I G md3 3 sp] := hD
    refine W.widen (k := 1) (n := 6) (Nat.le_of_ble_eq_true rfl) (Nat.le_of_ble_eq_true rfl) ?_
    refine lv_i2l (v := r_2.toInt64) hx hb dL_many_7 rfl ?_
    refine va_last (n := 1) (f := oj) hx hb hK hP hD hS 0 5 rfl rfl (n_3 r_2 hw_2) dL_many_8 (fun H locs hP hD hS => ?_)
    have hP : va_P G.1 vwCl [tc_J G ob 1 (vp_updL oj (0 : Int32).toNatClampNeg r_2.toInt64), tc_X5 a0 ma0 ta0 lk rf pu to, tc_X1 ma0 ma1 ma2 ma3 ma4 fh lh ee, tc_X4 ma1 tk mo su, tc_X3 ma2 lv si ga sl sc fo, tc_X0 ma3 mb0 mb1 mb2 mb3 mb4 mb5 ln, tc_I G mb0 10 ow, tc_I G mb1 10 gr, tc_I G mb2 10 we, tc_I G mb3 10 du, tc_I G mb4 10 sa, tc_D G mb5 10 le, tc_X2 ma4 md0 md1 md2 md3 pn, tc_F G md0 3 dl, tc_I G md1 3 pl, tc_I G md2 3 dr, tc_I G md3 3 sp] H := hP
    have hD : va_D A [tc_J G ob 1 (vp_updL oj (0 : Int32).toNatClampNeg r_2.toInt64), tc_X5 a0 ma0 ta0 lk rf pu to, tc_X1 ma0 ma1 ma2 ma3 ma4 fh lh ee, tc_X4 ma1 tk mo su, tc_X3 ma2 lv si ga sl sc fo, tc_X0 ma3 mb0 mb1 mb2 mb3 mb4 mb5 ln, tc_I G mb0 10 ow, tc_I G mb1 10 gr, tc_I G mb2 10 we, tc_I G mb3 10 du, tc_I G mb4 10 sa, tc_D G mb5 10 le, tc_X2 ma4 md0 md1 md2 md3 pn, tc_F G md0 3 dl, tc_I G md1 3 pl, tc_I G md2 3 dr, tc_I G md3 3 sp] := hD
    refine lv_goto (tgt := 15) hx hb dL_many_9 (by decide) ?_
    refine lv_iconst (v := 0) hx hb dL_many_15 (by decide) ?_
    have hP9 := hP.sub (ws' := [tc_X5 a0 ma0 ta0 lk rf pu to, tc_X1 ma0 ma1 ma2 ma3 ma4 fh lh ee, tc_X4 ma1 tk mo su, tc_X3 ma2 lv si ga sl sc fo, tc_X0 ma3 mb0 mb1 mb2 mb3 mb4 mb5 ln, tc_I G mb0 10 ow, tc_I G mb1 10 gr, tc_I G mb2 10 we, tc_I G mb3 10 du, tc_I G mb4 10 sa, tc_D G mb5 10 le, tc_X2 ma4 md0 md1 md2 md3 pn, tc_F G md0 3 dl, tc_I G md1 3 pl, tc_I G md2 3 dr, tc_I G md3 3 sp, tc_J G ob 1 (vp_updL oj (0 : Int32).toNatClampNeg r_2.toInt64)]) [1, 2, 3, 4, 5, 6, 7, 8, 9, 10, 11, 12, 13, 14, 15, 16, 0] rfl
    have hD9 := hD.sub (ws' := [tc_X5 a0 ma0 ta0 lk rf pu to, tc_X1 ma0 ma1 ma2 ma3 ma4 fh lh ee, tc_X4 ma1 tk mo su, tc_X3 ma2 lv si ga sl sc fo, tc_X0 ma3 mb0 mb1 mb2 mb3 mb4 mb5 ln, tc_I G mb0 10 ow, tc_I G mb1 10 gr, tc_I G mb2 10 we, tc_I G mb3 10 du, tc_I G mb4 10 sa, tc_D G mb5 10 le, tc_X2 ma4 md0 md1 md2 md3 pn, tc_F G md0 3 dl, tc_I G md1 3 pl, tc_I G md2 3 dr, tc_I G md3 3 sp, tc_J G ob 1 (vp_updL oj (0 : Int32).toNatClampNeg r_2.toInt64)]) [1, 2, 3, 4, 5, 6, 7, 8, 9, 10, 11, 12, 13, 14, 15, 16, 0] (by decide) rfl
    refine W.widen (k := 1) (n := 6) (Nat.le_of_ble_eq_true rfl) (Nat.le_of_ble_eq_true rfl) (vx_ret ?_)
    exact W.iret (v := 0) hx hb hr (fun t ht hW => ⟨⟨0, (vp_updL oj (0 : Int32).toNatClampNeg r_2.toInt64), rfl, by unfold f_L_many; all_goals (rw [← hw_2]); all_goals (dsimp only); all_goals rfl, by rw [ht]; exact hP9, hD9⟩, hS.F ht⟩) hS.2.2 dL_many_16
theorem x_X5_ofOwner {ln : Int32} {ow : Nat → Int32} {we : Nat → Int32} {sa : Nat → Int32} {p1 : Int32} {p2 : Int32} {k : Nat} (h : (Sum.inr k : (Int32) ⊕ Nat) = f_X5_ofOwner ln ow we sa p1 p2) : k = 2 := by
  unfold f_X5_ofOwner at h
  repeat' split at h
  all_goals first | (cases h; done) | (cases h; simp)
def f_L_ofOwner (ln : Int32) (ow : Nat → Int32) (we : Nat → Int32) (sa : Nat → Int32) (oj : Nat → Int64) (p1 : Int32) (p2 : Int32) : Int32 × (Nat → Int64) :=
  (match f_X5_ofOwner ln ow we sa p1 p2 with | .inl r_2 => (0, vp_updL oj (0 : Int32).toNatClampNeg r_2.toInt64) | .inr k9 => (1, oj))
def n_L_ofOwner (ln : Int32) (ow : Nat → Int32) (we : Nat → Int32) (sa : Nat → Int32) (p1 : Int32) (p2 : Int32) : Prop :=
  (n_X5_ofOwner ln ow we sa p1 p2) ∧
  (∀ (r_2 : Int32), (Sum.inl r_2 : (Int32) ⊕ Nat) = f_X5_ofOwner ln ow we sa p1 p2 → vp_in 0 1)
set_option maxHeartbeats 4000000 in
set_option maxRecDepth 100000 in
theorem c_L_ofOwner (l : Launch) (G : tm_G) (a0 : Nat) (ma0 : Nat) (ta0 : Nat) (ma1 : Nat) (ma2 : Nat) (ma3 : Nat) (ma4 : Nat) (mb0 : Nat) (mb1 : Nat) (mb2 : Nat) (mb3 : Nat) (mb4 : Nat) (mb5 : Nat) (ob : Nat) (sz : Nat) (lk : Int32) (rf : Int32) (pu : Int32) (to : UInt64) (fh : Int32) (lh : Int32) (ee : Int32) (ln : Int32) (ow : Nat → Int32) (gr : Nat → Int32) (we : Nat → Int32) (du : Nat → Int32) (sa : Nat → Int32) (le : Nat → UInt64) (oj : Nat → Int64) (p1 : Int32) (p2 : Int32) (hn : n_L_ofOwner ln ow we sa p1 p2) (hlt : l.stackTraces = false) : Met l yL_ofOwner wsL_ofOwner ({ frames := 7, cells := 1, slots := 6, locals := 118 }) (va_Pc [.ref a0, .int p1, .int p2, .ref ob] (tm_B G [tc_X5 a0 ma0 ta0 lk rf pu to, tc_X1 ma0 ma1 ma2 ma3 ma4 fh lh ee, tc_X0 ma3 mb0 mb1 mb2 mb3 mb4 mb5 ln, tc_I G mb0 10 ow, tc_I G mb1 10 gr, tc_I G mb2 10 we, tc_I G mb3 10 du, tc_I G mb4 10 sa, tc_D G mb5 10 le, tc_J G ob 1 oj] sz)) (va_Qi (fun (r : Int32) (u : (Nat → Int64)) => (r, u) = f_L_ofOwner ln ow we sa oj p1 p2) (fun (u : (Nat → Int64)) (t : State) => va_P G.1 vwCl [tc_X5 a0 ma0 ta0 lk rf pu to, tc_X1 ma0 ma1 ma2 ma3 ma4 fh lh ee, tc_X0 ma3 mb0 mb1 mb2 mb3 mb4 mb5 ln, tc_I G mb0 10 ow, tc_I G mb1 10 gr, tc_I G mb2 10 we, tc_I G mb3 10 du, tc_I G mb4 10 sa, tc_D G mb5 10 le, tc_J G ob 1 u] t.heap ∧ va_D (va_A [tc_X5 a0 ma0 ta0 lk rf pu to, tc_X1 ma0 ma1 ma2 ma3 ma4 fh lh ee, tc_X0 ma3 mb0 mb1 mb2 mb3 mb4 mb5 ln, tc_I G mb0 10 ow, tc_I G mb1 10 gr, tc_I G mb2 10 we, tc_I G mb3 10 du, tc_I G mb4 10 sa, tc_D G mb5 10 le, tc_J G ob 1 oj] sz) [tc_X5 a0 ma0 ta0 lk rf pu to, tc_X1 ma0 ma1 ma2 ma3 ma4 fh lh ee, tc_X0 ma3 mb0 mb1 mb2 mb3 mb4 mb5 ln, tc_I G mb0 10 ow, tc_I G mb1 10 gr, tc_I G mb2 10 we, tc_I G mb3 10 du, tc_I G mb4 10 sa, tc_D G mb5 10 le, tc_J G ob 1 u]) (va_A [tc_X5 a0 ma0 ta0 lk rf pu to, tc_X1 ma0 ma1 ma2 ma3 ma4 fh lh ee, tc_X0 ma3 mb0 mb1 mb2 mb3 mb4 mb5 ln, tc_I G mb0 10 ow, tc_I G mb1 10 gr, tc_I G mb2 10 we, tc_I G mb3 10 du, tc_I G mb4 10 sa, tc_D G mb5 10 le, tc_J G ob 1 oj] sz)) 1 6 (va_A [tc_X5 a0 ma0 ta0 lk rf pu to, tc_X1 ma0 ma1 ma2 ma3 ma4 fh lh ee, tc_X0 ma3 mb0 mb1 mb2 mb3 mb4 mb5 ln, tc_I G mb0 10 ow, tc_I G mb1 10 gr, tc_I G mb2 10 we, tc_I G mb3 10 du, tc_I G mb4 10 sa, tc_D G mb5 10 le, tc_J G ob 1 oj] sz) := by
  refine tm_metOf ?_
  refine vx_ofWH (cc := cL_ofOwner) (maxL := 5) (ret := (some .int)) (hh :=  [(0, 10, 13, 43)]) (by decide) rfl ?_
  intro p e s m args below meth c s₁ B hml hv
  obtain ⟨rfl, hsz, hP, hK, hD0, hN, hV⟩ := hv
  have hx := B.exec
  have hb := B.bytes
  have hr := B.returns
  have hts := atoms_spec (ws := wsL_ofOwner) B.pre
  have htab : c.exceptionTable.toList = tableOf  [(0, 10, 13, 43)] := vx_table (x := yL_ofOwner) B (atoms_spec (ws := wsL_ofOwner) B.pre _ (List.mem_of_getElem? (i := 0) rfl))
  have hown : s.vm.findClass RL = some m.cls := findClass_of_methodNamed B.named
  have hlocks := B.notSynchronized
  subst hsz
  obtain ⟨n_1, n_3⟩ := hn
  have hD := hD0.self (sz := s.heap.size)
  generalize hAe : va_A [tc_X5 a0 ma0 ta0 lk rf pu to, tc_X1 ma0 ma1 ma2 ma3 ma4 fh lh ee, tc_X0 ma3 mb0 mb1 mb2 mb3 mb4 mb5 ln, tc_I G mb0 10 ow, tc_I G mb1 10 gr, tc_I G mb2 10 we, tc_I G mb3 10 du, tc_I G mb4 10 sa, tc_D G mb5 10 le, tc_J G ob 1 oj] s.heap.size = A at hD hV ⊢
  have hA : ∀ q : Nat, s.heap.size ≤ q → A q := fun q h => by rw [← hAe]; exact Or.inr h
  have hS : va_S A s.heap s.heap [] := va_S.rf
  have hl := lv_entry ([.ref a0, .int p1, .int p2, .ref ob]) (n := 5) (Nat.le_of_ble_eq_true rfl)
  rw [lg_entry_eq]
  generalize (lg_sl ([.ref a0, .int p1, .int p2, .ref ob]) ++ List.replicate (5 - (lg_sl ([.ref a0, .int p1, .int p2, .ref ob])).length) Slot.unset).toArray = ls at hl ⊢
  have hl : lv_has ls 5 [(0, .ref a0), (1, .int p1), (2, .int p2), (3, .ref ob)] := hl
  refine lv_aload_n hx hb dL_ofOwner_0 rfl (lv_at hl 3 rfl) ?_
  refine lv_iconst (v := 0) hx hb dL_ofOwner_1 (by decide) ?_
  refine lv_aload_n hx hb dL_ofOwner_2 rfl (lv_at hl 0 rfl) ?_
  refine lv_iload_n hx hb dL_ofOwner_3 rfl (lv_at hl 1 rfl) ?_
  refine lv_iload_n hx hb dL_ofOwner_4 rfl (lv_at hl 2 rfl) ?_
  have hPc := hP.sub (ws' := [tc_X5 a0 ma0 ta0 lk rf pu to, tc_X1 ma0 ma1 ma2 ma3 ma4 fh lh ee, tc_X0 ma3 mb0 mb1 mb2 mb3 mb4 mb5 ln, tc_I G mb0 10 ow, tc_I G mb1 10 gr, tc_I G mb2 10 we, tc_I G mb3 10 du, tc_I G mb4 10 sa, tc_D G mb5 10 le]) [0, 1, 2, 3, 4, 5, 6, 7, 8] rfl
  have hDc := hD.sub (ws' := [tc_X5 a0 ma0 ta0 lk rf pu to, tc_X1 ma0 ma1 ma2 ma3 ma4 fh lh ee, tc_X0 ma3 mb0 mb1 mb2 mb3 mb4 mb5 ln, tc_I G mb0 10 ow, tc_I G mb1 10 gr, tc_I G mb2 10 we, tc_I G mb3 10 du, tc_I G mb4 10 sa, tc_D G mb5 10 le]) [0, 1, 2, 3, 4, 5, 6, 7, 8] (by decide) rfl
  have hFc := va_free (wc := [tc_X5 a0 ma0 ta0 lk rf pu to, tc_X1 ma0 ma1 ma2 ma3 ma4 fh lh ee, tc_X0 ma3 mb0 mb1 mb2 mb3 mb4 mb5 ln, tc_I G mb0 10 ow, tc_I G mb1 10 gr, tc_I G mb2 10 we, tc_I G mb3 10 du, tc_I G mb4 10 sa, tc_D G mb5 10 le]) hD hS hA [0, 1, 2, 3, 4, 5, 6, 7, 8] rfl
  refine vx_calli (vx_runV (As := [.int p1, .int p2]) (rest := [.int 0, .ref ob]) ⟨hx, hb, hml, hown, hts⟩ (c_X5_ofOwner l G a0 ma0 ta0 ma1 ma2 ma3 ma4 mb0 mb1 mb2 mb3 mb4 mb5 s.heap.size lk rf pu to fh lh ee ln ow gr we du sa le p1 p2 n_1 hlt) (cwV 2 hts gL_ofOwner_X5_ofOwner rfl rfl rfl (by decide +kernel) ⟨(Nat.le_of_ble_eq_true rfl), (Nat.le_of_ble_eq_true rfl)⟩) (tm_preV hK hN hV hS hPc hDc hFc (va_recv hK hPc (ci := 6) (q0 := 0) rfl rfl)) rfl rfl hl.1 rfl (lv_room (Nat.le_of_ble_eq_true rfl)) dL_ofOwner_5 ⟨(Nat.le_of_ble_eq_true rfl), (Nat.le_of_ble_eq_true rfl)⟩) hS (fun q _ h => hFc q h) hFc (fun q _ h => hFc q h) (fun E9 ce9 q9 k9 st9 H locs ht hvm hw_2 hB hz1 hk1 hS hce hcv hcl => ?_) (fun r_2 u st9 H locs ht hvm hw_2 hB hz1 hk1 hS => ?_)
  · obtain ⟨rfl, hP1, hD1⟩ := hB
    rw [ht] at hP1
    obtain ⟨hP, hD⟩ := va_join (wr := [tc_J G ob 1 oj]) (w1 := [tc_X5 a0 ma0 ta0 lk rf pu to, tc_X1 ma0 ma1 ma2 ma3 ma4 fh lh ee, tc_X0 ma3 mb0 mb1 mb2 mb3 mb4 mb5 ln, tc_I G mb0 10 ow, tc_I G mb1 10 gr, tc_I G mb2 10 we, tc_I G mb3 10 du, tc_I G mb4 10 sa, tc_D G mb5 10 le]) hP hD [0, 1, 2, 3, 4, 5, 6, 7, 8] [9] rfl rfl (by decide) (by decide) hk1 hFc hP1 hD1
    have hP : va_P G.1 vwCl [tc_J G ob 1 oj, tc_X5 a0 ma0 ta0 lk rf pu to, tc_X1 ma0 ma1 ma2 ma3 ma4 fh lh ee, tc_X0 ma3 mb0 mb1 mb2 mb3 mb4 mb5 ln, tc_I G mb0 10 ow, tc_I G mb1 10 gr, tc_I G mb2 10 we, tc_I G mb3 10 du, tc_I G mb4 10 sa, tc_D G mb5 10 le] H := hP
    have hD : va_D A [tc_J G ob 1 oj, tc_X5 a0 ma0 ta0 lk rf pu to, tc_X1 ma0 ma1 ma2 ma3 ma4 fh lh ee, tc_X0 ma3 mb0 mb1 mb2 mb3 mb4 mb5 ln, tc_I G mb0 10 ow, tc_I G mb1 10 gr, tc_I G mb2 10 we, tc_I G mb3 10 du, tc_I G mb4 10 sa, tc_D G mb5 10 le] := hD
    obtain rfl := x_X5_ofOwner hw_2
    · refine vx_catch (name := "java/lang/IndexOutOfBoundsException") (E := "java/lang/IndexOutOfBoundsException") hown [] { startPc := 0, endPc := 10, handlerPc := 13, catchType := 43 } [] (by rw [htab]; rfl) (fun z hz => absurd hz List.not_mem_nil) (by decide) (by decide) (hts (.classLink RL 43 "java/lang/IndexOutOfBoundsException") (List.mem_of_getElem? (i := 1) rfl)) (va_Nw.use rfl (hN.2.1 ("java/lang/IndexOutOfBoundsException", "java/lang/IndexOutOfBoundsException") (List.mem_of_getElem? (i := 2) rfl))) hce hcv hcl ?_
      show W p l e _ s m _ below meth c H locs 1 6 _ (F0 m 13 ls [.ref q9])
      refine lv_astore (lv' := [(4, .ref q9), (0, .ref a0), (1, .int p1), (2, .int p2), (3, .ref ob)]) hx hb dL_ofOwner_13 hl (by decide) rfl (fun ls hl => ?_)
      refine lv_iconst (v := 1) hx hb dL_ofOwner_15 (by decide) ?_
      have hP9 := hP.sub (ws' := [tc_X5 a0 ma0 ta0 lk rf pu to, tc_X1 ma0 ma1 ma2 ma3 ma4 fh lh ee, tc_X0 ma3 mb0 mb1 mb2 mb3 mb4 mb5 ln, tc_I G mb0 10 ow, tc_I G mb1 10 gr, tc_I G mb2 10 we, tc_I G mb3 10 du, tc_I G mb4 10 sa, tc_D G mb5 10 le, tc_J G ob 1 oj]) [1, 2, 3, 4, 5, 6, 7, 8, 9, 0] rfl
      have hD9 := hD.sub (ws' := [tc_X5 a0 ma0 ta0 lk rf pu to, tc_X1 ma0 ma1 ma2 ma3 ma4 fh lh ee, tc_X0 ma3 mb0 mb1 mb2 mb3 mb4 mb5 ln, tc_I G mb0 10 ow, tc_I G mb1 10 gr, tc_I G mb2 10 we, tc_I G mb3 10 du, tc_I G mb4 10 sa, tc_D G mb5 10 le, tc_J G ob 1 oj]) [1, 2, 3, 4, 5, 6, 7, 8, 9, 0] (by decide) rfl
      refine W.widen (k := 1) (n := 6) (Nat.le_of_ble_eq_true rfl) (Nat.le_of_ble_eq_true rfl) (vx_ret ?_)
      exact W.iret (v := 1) hx hb hr (fun t ht hW => ⟨⟨1, (oj), rfl, by unfold f_L_ofOwner; all_goals (rw [← hw_2]); all_goals (dsimp only); all_goals rfl, by rw [ht]; exact hP9, hD9⟩, hS.F ht⟩) hS.2.2 dL_ofOwner_16
  · obtain ⟨hP1, hD1⟩ := hB
    rw [ht] at hP1
    try dsimp only at hw_2
    obtain ⟨hP, hD⟩ := va_join (wr := [tc_J G ob 1 oj]) (w1 := [tc_X5 a0 ma0 ta0 lk rf pu to, tc_X1 ma0 ma1 ma2 ma3 ma4 fh lh ee, tc_X0 ma3 mb0 mb1 mb2 mb3 mb4 mb5 ln, tc_I G mb0 10 ow, tc_I G mb1 10 gr, tc_I G mb2 10 we, tc_I G mb3 10 du, tc_I G mb4 10 sa, tc_D G mb5 10 le]) hP hD [0, 1, 2, 3, 4, 5, 6, 7, 8] [9] rfl rfl (by decide) (by decide) hk1 hFc hP1 hD1
    have hP : va_P G.1 vwCl [tc_J G ob 1 oj, tc_X5 a0 ma0 ta0 lk rf pu to, tc_X1 ma0 ma1 ma2 ma3 ma4 fh lh ee, tc_X0 ma3 mb0 mb1 mb2 mb3 mb4 mb5 ln, tc_I G mb0 10 ow, tc_I G mb1 10 gr, tc_I G mb2 10 we, tc_I G mb3 10 du, tc_I G mb4 10 sa, tc_D G mb5 10 le] H := hP
    have hD : va_D A [tc_J G ob 1 oj, tc_X5 a0 ma0 ta0 lk rf pu to, tc_X1 ma0 ma1 ma2 ma3 ma4 fh lh ee, tc_X0 ma3 mb0 mb1 mb2 mb3 mb4 mb5 ln, tc_I G mb0 10 ow, tc_I G mb1 10 gr, tc_I G mb2 10 we, tc_I G mb3 10 du, tc_I G mb4 10 sa, tc_D G mb5 10 le] := hD
    refine W.widen (k := 1) (n := 6) (Nat.le_of_ble_eq_true rfl) (Nat.le_of_ble_eq_true rfl) ?_
    refine lv_i2l (v := r_2.toInt64) hx hb dL_ofOwner_8 rfl ?_
    refine va_last (n := 1) (f := oj) hx hb hK hP hD hS 0 5 rfl rfl (n_3 r_2 hw_2) dL_ofOwner_9 (fun H locs hP hD hS => ?_)
    have hP : va_P G.1 vwCl [tc_J G ob 1 (vp_updL oj (0 : Int32).toNatClampNeg r_2.toInt64), tc_X5 a0 ma0 ta0 lk rf pu to, tc_X1 ma0 ma1 ma2 ma3 ma4 fh lh ee, tc_X0 ma3 mb0 mb1 mb2 mb3 mb4 mb5 ln, tc_I G mb0 10 ow, tc_I G mb1 10 gr, tc_I G mb2 10 we, tc_I G mb3 10 du, tc_I G mb4 10 sa, tc_D G mb5 10 le] H := hP
    have hD : va_D A [tc_J G ob 1 (vp_updL oj (0 : Int32).toNatClampNeg r_2.toInt64), tc_X5 a0 ma0 ta0 lk rf pu to, tc_X1 ma0 ma1 ma2 ma3 ma4 fh lh ee, tc_X0 ma3 mb0 mb1 mb2 mb3 mb4 mb5 ln, tc_I G mb0 10 ow, tc_I G mb1 10 gr, tc_I G mb2 10 we, tc_I G mb3 10 du, tc_I G mb4 10 sa, tc_D G mb5 10 le] := hD
    refine lv_goto (tgt := 17) hx hb dL_ofOwner_10 (by decide) ?_
    refine lv_iconst (v := 0) hx hb dL_ofOwner_17 (by decide) ?_
    have hP9 := hP.sub (ws' := [tc_X5 a0 ma0 ta0 lk rf pu to, tc_X1 ma0 ma1 ma2 ma3 ma4 fh lh ee, tc_X0 ma3 mb0 mb1 mb2 mb3 mb4 mb5 ln, tc_I G mb0 10 ow, tc_I G mb1 10 gr, tc_I G mb2 10 we, tc_I G mb3 10 du, tc_I G mb4 10 sa, tc_D G mb5 10 le, tc_J G ob 1 (vp_updL oj (0 : Int32).toNatClampNeg r_2.toInt64)]) [1, 2, 3, 4, 5, 6, 7, 8, 9, 0] rfl
    have hD9 := hD.sub (ws' := [tc_X5 a0 ma0 ta0 lk rf pu to, tc_X1 ma0 ma1 ma2 ma3 ma4 fh lh ee, tc_X0 ma3 mb0 mb1 mb2 mb3 mb4 mb5 ln, tc_I G mb0 10 ow, tc_I G mb1 10 gr, tc_I G mb2 10 we, tc_I G mb3 10 du, tc_I G mb4 10 sa, tc_D G mb5 10 le, tc_J G ob 1 (vp_updL oj (0 : Int32).toNatClampNeg r_2.toInt64)]) [1, 2, 3, 4, 5, 6, 7, 8, 9, 0] (by decide) rfl
    refine W.widen (k := 1) (n := 6) (Nat.le_of_ble_eq_true rfl) (Nat.le_of_ble_eq_true rfl) (vx_ret ?_)
    exact W.iret (v := 0) hx hb hr (fun t ht hW => ⟨⟨0, (vp_updL oj (0 : Int32).toNatClampNeg r_2.toInt64), rfl, by unfold f_L_ofOwner; all_goals (rw [← hw_2]); all_goals (dsimp only); all_goals rfl, by rw [ht]; exact hP9, hD9⟩, hS.F ht⟩) hS.2.2 dL_ofOwner_18
theorem x_X5_wouldLevel {fh : Int32} {lh : Int32} {ee : Int32} {tk : Int32} {mo : Int32} {su : UInt64} {lv : UInt64} {si : UInt32} {ga : Int32} {sl : Int32} {sc : Int32} {fo : UInt64} {ln : Int32} {gr : Nat → Int32} {sa : Nat → Int32} {le : Nat → UInt64} {pn : Int32} {dl : Nat → UInt32} {pl : Nat → Int32} {dr : Nat → Int32} {sp : Nat → Int32} {p1 : Int32} {k : Nat} (h : (Sum.inr k : (UInt64) ⊕ Nat) = f_X5_wouldLevel fh lh ee tk mo su lv si ga sl sc fo ln gr sa le pn dl pl dr sp p1) : k = 0 := by
  unfold f_X5_wouldLevel at h
  repeat' split at h
  all_goals first | (cases h; done) | (cases h; simp)
def f_L_wouldLevel (fh : Int32) (lh : Int32) (ee : Int32) (tk : Int32) (mo : Int32) (su : UInt64) (lv : UInt64) (si : UInt32) (ga : Int32) (sl : Int32) (sc : Int32) (fo : UInt64) (ln : Int32) (gr : Nat → Int32) (sa : Nat → Int32) (le : Nat → UInt64) (pn : Int32) (dl : Nat → UInt32) (pl : Nat → Int32) (dr : Nat → Int32) (sp : Nat → Int32) (od : Nat → UInt64) (p1 : Int32) : Int32 × (Nat → UInt64) :=
  (match f_X5_wouldLevel fh lh ee tk mo su lv si ga sl sc fo ln gr sa le pn dl pl dr sp p1 with | .inl r_2 => (0, vf_upd od (0 : Int32).toNatClampNeg r_2) | .inr k9 => (1, od))
def n_L_wouldLevel (fh : Int32) (lh : Int32) (ee : Int32) (tk : Int32) (mo : Int32) (su : UInt64) (lv : UInt64) (si : UInt32) (ga : Int32) (sl : Int32) (sc : Int32) (fo : UInt64) (ln : Int32) (gr : Nat → Int32) (sa : Nat → Int32) (le : Nat → UInt64) (pn : Int32) (dl : Nat → UInt32) (pl : Nat → Int32) (dr : Nat → Int32) (sp : Nat → Int32) (p1 : Int32) : Prop :=
  (n_X5_wouldLevel fh lh ee tk mo su lv si ga sl sc fo ln gr sa le pn dl pl dr sp p1) ∧
  (∀ (r_2 : UInt64), (Sum.inl r_2 : (UInt64) ⊕ Nat) = f_X5_wouldLevel fh lh ee tk mo su lv si ga sl sc fo ln gr sa le pn dl pl dr sp p1 → vp_in 0 1)
set_option maxHeartbeats 4000000 in
set_option maxRecDepth 100000 in
theorem c_L_wouldLevel (l : Launch) (G : tm_G) (a0 : Nat) (ma0 : Nat) (ta0 : Nat) (ma1 : Nat) (ma2 : Nat) (ma3 : Nat) (ma4 : Nat) (mb0 : Nat) (mb1 : Nat) (mb2 : Nat) (mb3 : Nat) (mb4 : Nat) (mb5 : Nat) (md0 : Nat) (md1 : Nat) (md2 : Nat) (md3 : Nat) (ta1 : Nat) (ta2 : Nat) (ta3 : Nat) (ta4 : Nat) (tb0 : Nat) (tb1 : Nat) (tb2 : Nat) (tb3 : Nat) (tb4 : Nat) (tb5 : Nat) (td0 : Nat) (td1 : Nat) (td2 : Nat) (td3 : Nat) (ob : Nat) (sz : Nat) (lk : Int32) (rf : Int32) (pu : Int32) (to : UInt64) (fh : Int32) (lh : Int32) (ee : Int32) (tk : Int32) (mo : Int32) (su : UInt64) (lv : UInt64) (si : UInt32) (ga : Int32) (sl : Int32) (sc : Int32) (fo : UInt64) (ln : Int32) (ow : Nat → Int32) (gr : Nat → Int32) (we : Nat → Int32) (du : Nat → Int32) (sa : Nat → Int32) (le : Nat → UInt64) (pn : Int32) (dl : Nat → UInt32) (pl : Nat → Int32) (dr : Nat → Int32) (sp : Nat → Int32) (fh' : Int32) (lh' : Int32) (ee' : Int32) (tk' : Int32) (mo' : Int32) (su' : UInt64) (lv' : UInt64) (si' : UInt32) (ga' : Int32) (sl' : Int32) (sc' : Int32) (fo' : UInt64) (ln' : Int32) (ow' : Nat → Int32) (gr' : Nat → Int32) (we' : Nat → Int32) (du' : Nat → Int32) (sa' : Nat → Int32) (le' : Nat → UInt64) (pn' : Int32) (dl' : Nat → UInt32) (pl' : Nat → Int32) (dr' : Nat → Int32) (sp' : Nat → Int32) (od : Nat → UInt64) (p1 : Int32) (hn : n_L_wouldLevel fh lh ee tk mo su lv si ga sl sc fo ln gr sa le pn dl pl dr sp p1) (hlt : l.stackTraces = false) : Met l yL_wouldLevel wsL_wouldLevel ({ frames := 8, cells := 1, slots := 6, locals := 190 }) (va_Pc [.ref a0, .int p1, .ref ob] (tm_B G [tc_X5 a0 ma0 ta0 lk rf pu to, tc_X1 ma0 ma1 ma2 ma3 ma4 fh lh ee, tc_X4 ma1 tk mo su, tc_X3 ma2 lv si ga sl sc fo, tc_X0 ma3 mb0 mb1 mb2 mb3 mb4 mb5 ln, tc_I G mb0 10 ow, tc_I G mb1 10 gr, tc_I G mb2 10 we, tc_I G mb3 10 du, tc_I G mb4 10 sa, tc_D G mb5 10 le, tc_X2 ma4 md0 md1 md2 md3 pn, tc_F G md0 3 dl, tc_I G md1 3 pl, tc_I G md2 3 dr, tc_I G md3 3 sp, tc_X1 ta0 ta1 ta2 ta3 ta4 fh' lh' ee', tc_X4 ta1 tk' mo' su', tc_X3 ta2 lv' si' ga' sl' sc' fo', tc_X0 ta3 tb0 tb1 tb2 tb3 tb4 tb5 ln', tc_I G tb0 10 ow', tc_I G tb1 10 gr', tc_I G tb2 10 we', tc_I G tb3 10 du', tc_I G tb4 10 sa', tc_D G tb5 10 le', tc_X2 ta4 td0 td1 td2 td3 pn', tc_F G td0 3 dl', tc_I G td1 3 pl', tc_I G td2 3 dr', tc_I G td3 3 sp', tc_D G ob 1 od] sz)) (va_Qi (fun (r : Int32) (u : (Nat → UInt64) × Int32 × Int32 × Int32 × Int32 × Int32 × UInt64 × UInt64 × UInt32 × Int32 × Int32 × Int32 × UInt64 × Int32 × (Nat → Int32) × (Nat → Int32) × (Nat → Int32) × (Nat → Int32) × (Nat → Int32) × (Nat → UInt64) × Int32 × (Nat → UInt32) × (Nat → Int32) × (Nat → Int32) × (Nat → Int32)) => (r, u.1) = f_L_wouldLevel fh lh ee tk mo su lv si ga sl sc fo ln gr sa le pn dl pl dr sp od p1) (fun (u : (Nat → UInt64) × Int32 × Int32 × Int32 × Int32 × Int32 × UInt64 × UInt64 × UInt32 × Int32 × Int32 × Int32 × UInt64 × Int32 × (Nat → Int32) × (Nat → Int32) × (Nat → Int32) × (Nat → Int32) × (Nat → Int32) × (Nat → UInt64) × Int32 × (Nat → UInt32) × (Nat → Int32) × (Nat → Int32) × (Nat → Int32)) (t : State) => va_P G.1 vwCl [tc_X5 a0 ma0 ta0 lk rf pu to, tc_X1 ma0 ma1 ma2 ma3 ma4 fh lh ee, tc_X4 ma1 tk mo su, tc_X3 ma2 lv si ga sl sc fo, tc_X0 ma3 mb0 mb1 mb2 mb3 mb4 mb5 ln, tc_I G mb0 10 ow, tc_I G mb1 10 gr, tc_I G mb2 10 we, tc_I G mb3 10 du, tc_I G mb4 10 sa, tc_D G mb5 10 le, tc_X2 ma4 md0 md1 md2 md3 pn, tc_F G md0 3 dl, tc_I G md1 3 pl, tc_I G md2 3 dr, tc_I G md3 3 sp, tc_X1 ta0 ta1 ta2 ta3 ta4 u.2.1 u.2.2.1 u.2.2.2.1, tc_X4 ta1 u.2.2.2.2.1 u.2.2.2.2.2.1 u.2.2.2.2.2.2.1, tc_X3 ta2 u.2.2.2.2.2.2.2.1 u.2.2.2.2.2.2.2.2.1 u.2.2.2.2.2.2.2.2.2.1 u.2.2.2.2.2.2.2.2.2.2.1 u.2.2.2.2.2.2.2.2.2.2.2.1 u.2.2.2.2.2.2.2.2.2.2.2.2.1, tc_X0 ta3 tb0 tb1 tb2 tb3 tb4 tb5 u.2.2.2.2.2.2.2.2.2.2.2.2.2.1, tc_I G tb0 10 u.2.2.2.2.2.2.2.2.2.2.2.2.2.2.1, tc_I G tb1 10 u.2.2.2.2.2.2.2.2.2.2.2.2.2.2.2.1, tc_I G tb2 10 u.2.2.2.2.2.2.2.2.2.2.2.2.2.2.2.2.1, tc_I G tb3 10 u.2.2.2.2.2.2.2.2.2.2.2.2.2.2.2.2.2.1, tc_I G tb4 10 u.2.2.2.2.2.2.2.2.2.2.2.2.2.2.2.2.2.2.1, tc_D G tb5 10 u.2.2.2.2.2.2.2.2.2.2.2.2.2.2.2.2.2.2.2.1, tc_X2 ta4 td0 td1 td2 td3 u.2.2.2.2.2.2.2.2.2.2.2.2.2.2.2.2.2.2.2.2.1, tc_F G td0 3 u.2.2.2.2.2.2.2.2.2.2.2.2.2.2.2.2.2.2.2.2.2.1, tc_I G td1 3 u.2.2.2.2.2.2.2.2.2.2.2.2.2.2.2.2.2.2.2.2.2.2.1, tc_I G td2 3 u.2.2.2.2.2.2.2.2.2.2.2.2.2.2.2.2.2.2.2.2.2.2.2.1, tc_I G td3 3 u.2.2.2.2.2.2.2.2.2.2.2.2.2.2.2.2.2.2.2.2.2.2.2.2, tc_D G ob 1 u.1] t.heap ∧ va_D (va_A [tc_X5 a0 ma0 ta0 lk rf pu to, tc_X1 ma0 ma1 ma2 ma3 ma4 fh lh ee, tc_X4 ma1 tk mo su, tc_X3 ma2 lv si ga sl sc fo, tc_X0 ma3 mb0 mb1 mb2 mb3 mb4 mb5 ln, tc_I G mb0 10 ow, tc_I G mb1 10 gr, tc_I G mb2 10 we, tc_I G mb3 10 du, tc_I G mb4 10 sa, tc_D G mb5 10 le, tc_X2 ma4 md0 md1 md2 md3 pn, tc_F G md0 3 dl, tc_I G md1 3 pl, tc_I G md2 3 dr, tc_I G md3 3 sp, tc_X1 ta0 ta1 ta2 ta3 ta4 fh' lh' ee', tc_X4 ta1 tk' mo' su', tc_X3 ta2 lv' si' ga' sl' sc' fo', tc_X0 ta3 tb0 tb1 tb2 tb3 tb4 tb5 ln', tc_I G tb0 10 ow', tc_I G tb1 10 gr', tc_I G tb2 10 we', tc_I G tb3 10 du', tc_I G tb4 10 sa', tc_D G tb5 10 le', tc_X2 ta4 td0 td1 td2 td3 pn', tc_F G td0 3 dl', tc_I G td1 3 pl', tc_I G td2 3 dr', tc_I G td3 3 sp', tc_D G ob 1 od] sz) [tc_X5 a0 ma0 ta0 lk rf pu to, tc_X1 ma0 ma1 ma2 ma3 ma4 fh lh ee, tc_X4 ma1 tk mo su, tc_X3 ma2 lv si ga sl sc fo, tc_X0 ma3 mb0 mb1 mb2 mb3 mb4 mb5 ln, tc_I G mb0 10 ow, tc_I G mb1 10 gr, tc_I G mb2 10 we, tc_I G mb3 10 du, tc_I G mb4 10 sa, tc_D G mb5 10 le, tc_X2 ma4 md0 md1 md2 md3 pn, tc_F G md0 3 dl, tc_I G md1 3 pl, tc_I G md2 3 dr, tc_I G md3 3 sp, tc_X1 ta0 ta1 ta2 ta3 ta4 u.2.1 u.2.2.1 u.2.2.2.1, tc_X4 ta1 u.2.2.2.2.1 u.2.2.2.2.2.1 u.2.2.2.2.2.2.1, tc_X3 ta2 u.2.2.2.2.2.2.2.1 u.2.2.2.2.2.2.2.2.1 u.2.2.2.2.2.2.2.2.2.1 u.2.2.2.2.2.2.2.2.2.2.1 u.2.2.2.2.2.2.2.2.2.2.2.1 u.2.2.2.2.2.2.2.2.2.2.2.2.1, tc_X0 ta3 tb0 tb1 tb2 tb3 tb4 tb5 u.2.2.2.2.2.2.2.2.2.2.2.2.2.1, tc_I G tb0 10 u.2.2.2.2.2.2.2.2.2.2.2.2.2.2.1, tc_I G tb1 10 u.2.2.2.2.2.2.2.2.2.2.2.2.2.2.2.1, tc_I G tb2 10 u.2.2.2.2.2.2.2.2.2.2.2.2.2.2.2.2.1, tc_I G tb3 10 u.2.2.2.2.2.2.2.2.2.2.2.2.2.2.2.2.2.1, tc_I G tb4 10 u.2.2.2.2.2.2.2.2.2.2.2.2.2.2.2.2.2.2.1, tc_D G tb5 10 u.2.2.2.2.2.2.2.2.2.2.2.2.2.2.2.2.2.2.2.1, tc_X2 ta4 td0 td1 td2 td3 u.2.2.2.2.2.2.2.2.2.2.2.2.2.2.2.2.2.2.2.2.1, tc_F G td0 3 u.2.2.2.2.2.2.2.2.2.2.2.2.2.2.2.2.2.2.2.2.2.1, tc_I G td1 3 u.2.2.2.2.2.2.2.2.2.2.2.2.2.2.2.2.2.2.2.2.2.2.1, tc_I G td2 3 u.2.2.2.2.2.2.2.2.2.2.2.2.2.2.2.2.2.2.2.2.2.2.2.1, tc_I G td3 3 u.2.2.2.2.2.2.2.2.2.2.2.2.2.2.2.2.2.2.2.2.2.2.2.2, tc_D G ob 1 u.1]) (va_A [tc_X5 a0 ma0 ta0 lk rf pu to, tc_X1 ma0 ma1 ma2 ma3 ma4 fh lh ee, tc_X4 ma1 tk mo su, tc_X3 ma2 lv si ga sl sc fo, tc_X0 ma3 mb0 mb1 mb2 mb3 mb4 mb5 ln, tc_I G mb0 10 ow, tc_I G mb1 10 gr, tc_I G mb2 10 we, tc_I G mb3 10 du, tc_I G mb4 10 sa, tc_D G mb5 10 le, tc_X2 ma4 md0 md1 md2 md3 pn, tc_F G md0 3 dl, tc_I G md1 3 pl, tc_I G md2 3 dr, tc_I G md3 3 sp, tc_X1 ta0 ta1 ta2 ta3 ta4 fh' lh' ee', tc_X4 ta1 tk' mo' su', tc_X3 ta2 lv' si' ga' sl' sc' fo', tc_X0 ta3 tb0 tb1 tb2 tb3 tb4 tb5 ln', tc_I G tb0 10 ow', tc_I G tb1 10 gr', tc_I G tb2 10 we', tc_I G tb3 10 du', tc_I G tb4 10 sa', tc_D G tb5 10 le', tc_X2 ta4 td0 td1 td2 td3 pn', tc_F G td0 3 dl', tc_I G td1 3 pl', tc_I G td2 3 dr', tc_I G td3 3 sp', tc_D G ob 1 od] sz)) 1 6 (va_A [tc_X5 a0 ma0 ta0 lk rf pu to, tc_X1 ma0 ma1 ma2 ma3 ma4 fh lh ee, tc_X4 ma1 tk mo su, tc_X3 ma2 lv si ga sl sc fo, tc_X0 ma3 mb0 mb1 mb2 mb3 mb4 mb5 ln, tc_I G mb0 10 ow, tc_I G mb1 10 gr, tc_I G mb2 10 we, tc_I G mb3 10 du, tc_I G mb4 10 sa, tc_D G mb5 10 le, tc_X2 ma4 md0 md1 md2 md3 pn, tc_F G md0 3 dl, tc_I G md1 3 pl, tc_I G md2 3 dr, tc_I G md3 3 sp, tc_X1 ta0 ta1 ta2 ta3 ta4 fh' lh' ee', tc_X4 ta1 tk' mo' su', tc_X3 ta2 lv' si' ga' sl' sc' fo', tc_X0 ta3 tb0 tb1 tb2 tb3 tb4 tb5 ln', tc_I G tb0 10 ow', tc_I G tb1 10 gr', tc_I G tb2 10 we', tc_I G tb3 10 du', tc_I G tb4 10 sa', tc_D G tb5 10 le', tc_X2 ta4 td0 td1 td2 td3 pn', tc_F G td0 3 dl', tc_I G td1 3 pl', tc_I G td2 3 dr', tc_I G td3 3 sp', tc_D G ob 1 od] sz) := by
  refine tm_metOf ?_
  refine vx_ofWH (cc := cL_wouldLevel) (maxL := 4) (ret := (some .int)) (hh :=  [(0, 8, 11, 13)]) (by decide) rfl ?_
  intro p e s m args below meth c s₁ B hml hv
  obtain ⟨rfl, hsz, hP, hK, hD0, hN, hV⟩ := hv
  have hx := B.exec
  have hb := B.bytes
  have hr := B.returns
  have hts := atoms_spec (ws := wsL_wouldLevel) B.pre
  have htab : c.exceptionTable.toList = tableOf  [(0, 8, 11, 13)] := vx_table (x := yL_wouldLevel) B (atoms_spec (ws := wsL_wouldLevel) B.pre _ (List.mem_of_getElem? (i := 0) rfl))
  have hown : s.vm.findClass RL = some m.cls := findClass_of_methodNamed B.named
  have hlocks := B.notSynchronized
  subst hsz
  obtain ⟨n_1, n_27⟩ := hn
  have hD := hD0.self (sz := s.heap.size)
  generalize hAe : va_A [tc_X5 a0 ma0 ta0 lk rf pu to, tc_X1 ma0 ma1 ma2 ma3 ma4 fh lh ee, tc_X4 ma1 tk mo su, tc_X3 ma2 lv si ga sl sc fo, tc_X0 ma3 mb0 mb1 mb2 mb3 mb4 mb5 ln, tc_I G mb0 10 ow, tc_I G mb1 10 gr, tc_I G mb2 10 we, tc_I G mb3 10 du, tc_I G mb4 10 sa, tc_D G mb5 10 le, tc_X2 ma4 md0 md1 md2 md3 pn, tc_F G md0 3 dl, tc_I G md1 3 pl, tc_I G md2 3 dr, tc_I G md3 3 sp, tc_X1 ta0 ta1 ta2 ta3 ta4 fh' lh' ee', tc_X4 ta1 tk' mo' su', tc_X3 ta2 lv' si' ga' sl' sc' fo', tc_X0 ta3 tb0 tb1 tb2 tb3 tb4 tb5 ln', tc_I G tb0 10 ow', tc_I G tb1 10 gr', tc_I G tb2 10 we', tc_I G tb3 10 du', tc_I G tb4 10 sa', tc_D G tb5 10 le', tc_X2 ta4 td0 td1 td2 td3 pn', tc_F G td0 3 dl', tc_I G td1 3 pl', tc_I G td2 3 dr', tc_I G td3 3 sp', tc_D G ob 1 od] s.heap.size = A at hD hV ⊢
  have hA : ∀ q : Nat, s.heap.size ≤ q → A q := fun q h => by rw [← hAe]; exact Or.inr h
  have hS : va_S A s.heap s.heap [] := va_S.rf
  have hl := lv_entry ([.ref a0, .int p1, .ref ob]) (n := 4) (Nat.le_of_ble_eq_true rfl)
  rw [lg_entry_eq]
  generalize (lg_sl ([.ref a0, .int p1, .ref ob]) ++ List.replicate (4 - (lg_sl ([.ref a0, .int p1, .ref ob])).length) Slot.unset).toArray = ls at hl ⊢
  have hl : lv_has ls 4 [(0, .ref a0), (1, .int p1), (2, .ref ob)] := hl
  refine lv_aload_n hx hb dL_wouldLevel_0 rfl (lv_at hl 2 rfl) ?_
  refine lv_iconst (v := 0) hx hb dL_wouldLevel_1 (by decide) ?_
  refine lv_aload_n hx hb dL_wouldLevel_2 rfl (lv_at hl 0 rfl) ?_
  refine lv_iload_n hx hb dL_wouldLevel_3 rfl (lv_at hl 1 rfl) ?_
  have hPc := hP.sub (ws' := [tc_X5 a0 ma0 ta0 lk rf pu to, tc_X1 ma0 ma1 ma2 ma3 ma4 fh lh ee, tc_X4 ma1 tk mo su, tc_X3 ma2 lv si ga sl sc fo, tc_X0 ma3 mb0 mb1 mb2 mb3 mb4 mb5 ln, tc_I G mb0 10 ow, tc_I G mb1 10 gr, tc_I G mb2 10 we, tc_I G mb3 10 du, tc_I G mb4 10 sa, tc_D G mb5 10 le, tc_X2 ma4 md0 md1 md2 md3 pn, tc_F G md0 3 dl, tc_I G md1 3 pl, tc_I G md2 3 dr, tc_I G md3 3 sp, tc_X1 ta0 ta1 ta2 ta3 ta4 fh' lh' ee', tc_X4 ta1 tk' mo' su', tc_X3 ta2 lv' si' ga' sl' sc' fo', tc_X0 ta3 tb0 tb1 tb2 tb3 tb4 tb5 ln', tc_I G tb0 10 ow', tc_I G tb1 10 gr', tc_I G tb2 10 we', tc_I G tb3 10 du', tc_I G tb4 10 sa', tc_D G tb5 10 le', tc_X2 ta4 td0 td1 td2 td3 pn', tc_F G td0 3 dl', tc_I G td1 3 pl', tc_I G td2 3 dr', tc_I G td3 3 sp']) [0, 1, 2, 3, 4, 5, 6, 7, 8, 9, 10, 11, 12, 13, 14, 15, 16, 17, 18, 19, 20, 21, 22, 23, 24, 25, 26, 27, 28, 29, 30] rfl
  have hDc := hD.sub (ws' := [tc_X5 a0 ma0 ta0 lk rf pu to, tc_X1 ma0 ma1 ma2 ma3 ma4 fh lh ee, tc_X4 ma1 tk mo su, tc_X3 ma2 lv si ga sl sc fo, tc_X0 ma3 mb0 mb1 mb2 mb3 mb4 mb5 ln, tc_I G mb0 10 ow, tc_I G mb1 10 gr, tc_I G mb2 10 we, tc_I G mb3 10 du, tc_I G mb4 10 sa, tc_D G mb5 10 le, tc_X2 ma4 md0 md1 md2 md3 pn, tc_F G md0 3 dl, tc_I G md1 3 pl, tc_I G md2 3 dr, tc_I G md3 3 sp, tc_X1 ta0 ta1 ta2 ta3 ta4 fh' lh' ee', tc_X4 ta1 tk' mo' su', tc_X3 ta2 lv' si' ga' sl' sc' fo', tc_X0 ta3 tb0 tb1 tb2 tb3 tb4 tb5 ln', tc_I G tb0 10 ow', tc_I G tb1 10 gr', tc_I G tb2 10 we', tc_I G tb3 10 du', tc_I G tb4 10 sa', tc_D G tb5 10 le', tc_X2 ta4 td0 td1 td2 td3 pn', tc_F G td0 3 dl', tc_I G td1 3 pl', tc_I G td2 3 dr', tc_I G td3 3 sp']) [0, 1, 2, 3, 4, 5, 6, 7, 8, 9, 10, 11, 12, 13, 14, 15, 16, 17, 18, 19, 20, 21, 22, 23, 24, 25, 26, 27, 28, 29, 30] (by decide) rfl
  have hFc := va_free (wc := [tc_X5 a0 ma0 ta0 lk rf pu to, tc_X1 ma0 ma1 ma2 ma3 ma4 fh lh ee, tc_X4 ma1 tk mo su, tc_X3 ma2 lv si ga sl sc fo, tc_X0 ma3 mb0 mb1 mb2 mb3 mb4 mb5 ln, tc_I G mb0 10 ow, tc_I G mb1 10 gr, tc_I G mb2 10 we, tc_I G mb3 10 du, tc_I G mb4 10 sa, tc_D G mb5 10 le, tc_X2 ma4 md0 md1 md2 md3 pn, tc_F G md0 3 dl, tc_I G md1 3 pl, tc_I G md2 3 dr, tc_I G md3 3 sp, tc_X1 ta0 ta1 ta2 ta3 ta4 fh' lh' ee', tc_X4 ta1 tk' mo' su', tc_X3 ta2 lv' si' ga' sl' sc' fo', tc_X0 ta3 tb0 tb1 tb2 tb3 tb4 tb5 ln', tc_I G tb0 10 ow', tc_I G tb1 10 gr', tc_I G tb2 10 we', tc_I G tb3 10 du', tc_I G tb4 10 sa', tc_D G tb5 10 le', tc_X2 ta4 td0 td1 td2 td3 pn', tc_F G td0 3 dl', tc_I G td1 3 pl', tc_I G td2 3 dr', tc_I G td3 3 sp']) hD hS hA [0, 1, 2, 3, 4, 5, 6, 7, 8, 9, 10, 11, 12, 13, 14, 15, 16, 17, 18, 19, 20, 21, 22, 23, 24, 25, 26, 27, 28, 29, 30] rfl
  refine vx_calld (vx_runV (As := [.int p1]) (rest := [.int 0, .ref ob]) ⟨hx, hb, hml, hown, hts⟩ (c_X5_wouldLevel l G a0 ma0 ta0 ma1 ma2 ma3 ma4 mb0 mb1 mb2 mb3 mb4 mb5 md0 md1 md2 md3 ta1 ta2 ta3 ta4 tb0 tb1 tb2 tb3 tb4 tb5 td0 td1 td2 td3 s.heap.size lk rf pu to fh lh ee tk mo su lv si ga sl sc fo ln ow gr we du sa le pn dl pl dr sp fh' lh' ee' tk' mo' su' lv' si' ga' sl' sc' fo' ln' ow' gr' we' du' sa' le' pn' dl' pl' dr' sp' p1 n_1 hlt) (cwV 1 hts gL_wouldLevel_X5_wouldLevel rfl rfl rfl (by decide +kernel) ⟨(Nat.le_of_ble_eq_true rfl), (Nat.le_of_ble_eq_true rfl)⟩) (tm_preV hK hN hV hS hPc hDc hFc (va_recv hK hPc (ci := 6) (q0 := 0) rfl rfl)) rfl rfl hl.1 rfl (lv_room (Nat.le_of_ble_eq_true rfl)) dL_wouldLevel_4 ⟨(Nat.le_of_ble_eq_true rfl), (Nat.le_of_ble_eq_true rfl)⟩) hS (fun q _ h => hFc q h) hFc (fun q _ h => hFc q h) (fun E9 ce9 q9 k9 st9 H locs ht hvm hw_2 hB hz1 hk1 hS hce hcv hcl => ?_) (fun r_2 u st9 H locs ht hvm hw_2 hB hz1 hk1 hS => ?_)
  · obtain ⟨rfl, hP1, hD1⟩ := hB
    rw [ht] at hP1
    obtain ⟨hP, hD⟩ := va_join (wr := [tc_D G ob 1 od]) (w1 := [tc_X5 a0 ma0 ta0 lk rf pu to, tc_X1 ma0 ma1 ma2 ma3 ma4 fh lh ee, tc_X4 ma1 tk mo su, tc_X3 ma2 lv si ga sl sc fo, tc_X0 ma3 mb0 mb1 mb2 mb3 mb4 mb5 ln, tc_I G mb0 10 ow, tc_I G mb1 10 gr, tc_I G mb2 10 we, tc_I G mb3 10 du, tc_I G mb4 10 sa, tc_D G mb5 10 le, tc_X2 ma4 md0 md1 md2 md3 pn, tc_F G md0 3 dl, tc_I G md1 3 pl, tc_I G md2 3 dr, tc_I G md3 3 sp, tc_X1 ta0 ta1 ta2 ta3 ta4 fh' lh' ee', tc_X4 ta1 tk' mo' su', tc_X3 ta2 lv' si' ga' sl' sc' fo', tc_X0 ta3 tb0 tb1 tb2 tb3 tb4 tb5 ln', tc_I G tb0 10 ow', tc_I G tb1 10 gr', tc_I G tb2 10 we', tc_I G tb3 10 du', tc_I G tb4 10 sa', tc_D G tb5 10 le', tc_X2 ta4 td0 td1 td2 td3 pn', tc_F G td0 3 dl', tc_I G td1 3 pl', tc_I G td2 3 dr', tc_I G td3 3 sp']) hP hD [0, 1, 2, 3, 4, 5, 6, 7, 8, 9, 10, 11, 12, 13, 14, 15, 16, 17, 18, 19, 20, 21, 22, 23, 24, 25, 26, 27, 28, 29, 30] [31] rfl rfl (by decide) (by decide) hk1 hFc hP1 hD1
    have hP : va_P G.1 vwCl [tc_D G ob 1 od, tc_X5 a0 ma0 ta0 lk rf pu to, tc_X1 ma0 ma1 ma2 ma3 ma4 fh lh ee, tc_X4 ma1 tk mo su, tc_X3 ma2 lv si ga sl sc fo, tc_X0 ma3 mb0 mb1 mb2 mb3 mb4 mb5 ln, tc_I G mb0 10 ow, tc_I G mb1 10 gr, tc_I G mb2 10 we, tc_I G mb3 10 du, tc_I G mb4 10 sa, tc_D G mb5 10 le, tc_X2 ma4 md0 md1 md2 md3 pn, tc_F G md0 3 dl, tc_I G md1 3 pl, tc_I G md2 3 dr, tc_I G md3 3 sp, tc_X1 ta0 ta1 ta2 ta3 ta4 fh' lh' ee', tc_X4 ta1 tk' mo' su', tc_X3 ta2 lv' si' ga' sl' sc' fo', tc_X0 ta3 tb0 tb1 tb2 tb3 tb4 tb5 ln', tc_I G tb0 10 ow', tc_I G tb1 10 gr', tc_I G tb2 10 we', tc_I G tb3 10 du', tc_I G tb4 10 sa', tc_D G tb5 10 le', tc_X2 ta4 td0 td1 td2 td3 pn', tc_F G td0 3 dl', tc_I G td1 3 pl', tc_I G td2 3 dr', tc_I G td3 3 sp'] H := hP
    have hD : va_D A [tc_D G ob 1 od, tc_X5 a0 ma0 ta0 lk rf pu to, tc_X1 ma0 ma1 ma2 ma3 ma4 fh lh ee, tc_X4 ma1 tk mo su, tc_X3 ma2 lv si ga sl sc fo, tc_X0 ma3 mb0 mb1 mb2 mb3 mb4 mb5 ln, tc_I G mb0 10 ow, tc_I G mb1 10 gr, tc_I G mb2 10 we, tc_I G mb3 10 du, tc_I G mb4 10 sa, tc_D G mb5 10 le, tc_X2 ma4 md0 md1 md2 md3 pn, tc_F G md0 3 dl, tc_I G md1 3 pl, tc_I G md2 3 dr, tc_I G md3 3 sp, tc_X1 ta0 ta1 ta2 ta3 ta4 fh' lh' ee', tc_X4 ta1 tk' mo' su', tc_X3 ta2 lv' si' ga' sl' sc' fo', tc_X0 ta3 tb0 tb1 tb2 tb3 tb4 tb5 ln', tc_I G tb0 10 ow', tc_I G tb1 10 gr', tc_I G tb2 10 we', tc_I G tb3 10 du', tc_I G tb4 10 sa', tc_D G tb5 10 le', tc_X2 ta4 td0 td1 td2 td3 pn', tc_F G td0 3 dl', tc_I G td1 3 pl', tc_I G td2 3 dr', tc_I G td3 3 sp'] := hD
    obtain rfl := x_X5_wouldLevel hw_2
    · refine vx_catch (name := "java/lang/IllegalArgumentException") (E := "java/lang/IllegalArgumentException") hown [] { startPc := 0, endPc := 8, handlerPc := 11, catchType := 13 } [] (by rw [htab]; rfl) (fun z hz => absurd hz List.not_mem_nil) (by decide) (by decide) (hts (.classLink RL 13 "java/lang/IllegalArgumentException") (List.mem_of_getElem? (i := 1) rfl)) (va_Nw.use rfl (hN.2.1 ("java/lang/IllegalArgumentException", "java/lang/IllegalArgumentException") (List.mem_of_getElem? (i := 0) rfl))) hce hcv hcl ?_
      show W p l e _ s m _ below meth c H locs 1 6 _ (F0 m 11 ls [.ref q9])
      refine lv_astore_n (lv' := [(3, .ref q9), (0, .ref a0), (1, .int p1), (2, .ref ob)]) hx hb dL_wouldLevel_11 rfl hl (by decide) rfl (fun ls hl => ?_)
      refine lv_iconst (v := 1) hx hb dL_wouldLevel_12 (by decide) ?_
      have hP9 := hP.sub (ws' := [tc_X5 a0 ma0 ta0 lk rf pu to, tc_X1 ma0 ma1 ma2 ma3 ma4 fh lh ee, tc_X4 ma1 tk mo su, tc_X3 ma2 lv si ga sl sc fo, tc_X0 ma3 mb0 mb1 mb2 mb3 mb4 mb5 ln, tc_I G mb0 10 ow, tc_I G mb1 10 gr, tc_I G mb2 10 we, tc_I G mb3 10 du, tc_I G mb4 10 sa, tc_D G mb5 10 le, tc_X2 ma4 md0 md1 md2 md3 pn, tc_F G md0 3 dl, tc_I G md1 3 pl, tc_I G md2 3 dr, tc_I G md3 3 sp, tc_X1 ta0 ta1 ta2 ta3 ta4 fh' lh' ee', tc_X4 ta1 tk' mo' su', tc_X3 ta2 lv' si' ga' sl' sc' fo', tc_X0 ta3 tb0 tb1 tb2 tb3 tb4 tb5 ln', tc_I G tb0 10 ow', tc_I G tb1 10 gr', tc_I G tb2 10 we', tc_I G tb3 10 du', tc_I G tb4 10 sa', tc_D G tb5 10 le', tc_X2 ta4 td0 td1 td2 td3 pn', tc_F G td0 3 dl', tc_I G td1 3 pl', tc_I G td2 3 dr', tc_I G td3 3 sp', tc_D G ob 1 od]) [1, 2, 3, 4, 5, 6, 7, 8, 9, 10, 11, 12, 13, 14, 15, 16, 17, 18, 19, 20, 21, 22, 23, 24, 25, 26, 27, 28, 29, 30, 31, 0] rfl
      have hD9 := hD.sub (ws' := [tc_X5 a0 ma0 ta0 lk rf pu to, tc_X1 ma0 ma1 ma2 ma3 ma4 fh lh ee, tc_X4 ma1 tk mo su, tc_X3 ma2 lv si ga sl sc fo, tc_X0 ma3 mb0 mb1 mb2 mb3 mb4 mb5 ln, tc_I G mb0 10 ow, tc_I G mb1 10 gr, tc_I G mb2 10 we, tc_I G mb3 10 du, tc_I G mb4 10 sa, tc_D G mb5 10 le, tc_X2 ma4 md0 md1 md2 md3 pn, tc_F G md0 3 dl, tc_I G md1 3 pl, tc_I G md2 3 dr, tc_I G md3 3 sp, tc_X1 ta0 ta1 ta2 ta3 ta4 fh' lh' ee', tc_X4 ta1 tk' mo' su', tc_X3 ta2 lv' si' ga' sl' sc' fo', tc_X0 ta3 tb0 tb1 tb2 tb3 tb4 tb5 ln', tc_I G tb0 10 ow', tc_I G tb1 10 gr', tc_I G tb2 10 we', tc_I G tb3 10 du', tc_I G tb4 10 sa', tc_D G tb5 10 le', tc_X2 ta4 td0 td1 td2 td3 pn', tc_F G td0 3 dl', tc_I G td1 3 pl', tc_I G td2 3 dr', tc_I G td3 3 sp', tc_D G ob 1 od]) [1, 2, 3, 4, 5, 6, 7, 8, 9, 10, 11, 12, 13, 14, 15, 16, 17, 18, 19, 20, 21, 22, 23, 24, 25, 26, 27, 28, 29, 30, 31, 0] (by decide) rfl
      refine W.widen (k := 1) (n := 6) (Nat.le_of_ble_eq_true rfl) (Nat.le_of_ble_eq_true rfl) (vx_ret ?_)
      exact W.iret (v := 1) hx hb hr (fun t ht hW => ⟨⟨1, (od, fh', lh', ee', tk', mo', su', lv', si', ga', sl', sc', fo', ln', ow', gr', we', du', sa', le', pn', dl', pl', dr', sp'), rfl, by unfold f_L_wouldLevel; all_goals (rw [← hw_2]); all_goals (dsimp only); all_goals rfl, by rw [ht]; exact hP9, hD9⟩, hS.F ht⟩) hS.2.2 dL_wouldLevel_13
  · obtain ⟨j_3, j_4, j_5, j_6, j_7, j_8, j_9, j_10, j_11, j_12, j_13, j_14, j_15, j_16, j_17, j_18, j_19, j_20, j_21, j_22, j_23, j_24, j_25, j_26⟩ := u
    obtain ⟨hP1, hD1⟩ := hB
    rw [ht] at hP1
    try dsimp only at hw_2
    obtain ⟨hP, hD⟩ := va_join (wr := [tc_D G ob 1 od]) (w1 := [tc_X5 a0 ma0 ta0 lk rf pu to, tc_X1 ma0 ma1 ma2 ma3 ma4 fh lh ee, tc_X4 ma1 tk mo su, tc_X3 ma2 lv si ga sl sc fo, tc_X0 ma3 mb0 mb1 mb2 mb3 mb4 mb5 ln, tc_I G mb0 10 ow, tc_I G mb1 10 gr, tc_I G mb2 10 we, tc_I G mb3 10 du, tc_I G mb4 10 sa, tc_D G mb5 10 le, tc_X2 ma4 md0 md1 md2 md3 pn, tc_F G md0 3 dl, tc_I G md1 3 pl, tc_I G md2 3 dr, tc_I G md3 3 sp, tc_X1 ta0 ta1 ta2 ta3 ta4 j_3 j_4 j_5, tc_X4 ta1 j_6 j_7 j_8, tc_X3 ta2 j_9 j_10 j_11 j_12 j_13 j_14, tc_X0 ta3 tb0 tb1 tb2 tb3 tb4 tb5 j_15, tc_I G tb0 10 j_16, tc_I G tb1 10 j_17, tc_I G tb2 10 j_18, tc_I G tb3 10 j_19, tc_I G tb4 10 j_20, tc_D G tb5 10 j_21, tc_X2 ta4 td0 td1 td2 td3 j_22, tc_F G td0 3 j_23, tc_I G td1 3 j_24, tc_I G td2 3 j_25, tc_I G td3 3 j_26]) hP hD [0, 1, 2, 3, 4, 5, 6, 7, 8, 9, 10, 11, 12, 13, 14, 15, 16, 17, 18, 19, 20, 21, 22, 23, 24, 25, 26, 27, 28, 29, 30] [31] rfl rfl (by decide) (by decide) hk1 hFc hP1 hD1
    have hP : va_P G.1 vwCl [tc_D G ob 1 od, tc_X5 a0 ma0 ta0 lk rf pu to, tc_X1 ma0 ma1 ma2 ma3 ma4 fh lh ee, tc_X4 ma1 tk mo su, tc_X3 ma2 lv si ga sl sc fo, tc_X0 ma3 mb0 mb1 mb2 mb3 mb4 mb5 ln, tc_I G mb0 10 ow, tc_I G mb1 10 gr, tc_I G mb2 10 we, tc_I G mb3 10 du, tc_I G mb4 10 sa, tc_D G mb5 10 le, tc_X2 ma4 md0 md1 md2 md3 pn, tc_F G md0 3 dl, tc_I G md1 3 pl, tc_I G md2 3 dr, tc_I G md3 3 sp, tc_X1 ta0 ta1 ta2 ta3 ta4 j_3 j_4 j_5, tc_X4 ta1 j_6 j_7 j_8, tc_X3 ta2 j_9 j_10 j_11 j_12 j_13 j_14, tc_X0 ta3 tb0 tb1 tb2 tb3 tb4 tb5 j_15, tc_I G tb0 10 j_16, tc_I G tb1 10 j_17, tc_I G tb2 10 j_18, tc_I G tb3 10 j_19, tc_I G tb4 10 j_20, tc_D G tb5 10 j_21, tc_X2 ta4 td0 td1 td2 td3 j_22, tc_F G td0 3 j_23, tc_I G td1 3 j_24, tc_I G td2 3 j_25, tc_I G td3 3 j_26] H := hP
    have hD : va_D A [tc_D G ob 1 od, tc_X5 a0 ma0 ta0 lk rf pu to, tc_X1 ma0 ma1 ma2 ma3 ma4 fh lh ee, tc_X4 ma1 tk mo su, tc_X3 ma2 lv si ga sl sc fo, tc_X0 ma3 mb0 mb1 mb2 mb3 mb4 mb5 ln, tc_I G mb0 10 ow, tc_I G mb1 10 gr, tc_I G mb2 10 we, tc_I G mb3 10 du, tc_I G mb4 10 sa, tc_D G mb5 10 le, tc_X2 ma4 md0 md1 md2 md3 pn, tc_F G md0 3 dl, tc_I G md1 3 pl, tc_I G md2 3 dr, tc_I G md3 3 sp, tc_X1 ta0 ta1 ta2 ta3 ta4 j_3 j_4 j_5, tc_X4 ta1 j_6 j_7 j_8, tc_X3 ta2 j_9 j_10 j_11 j_12 j_13 j_14, tc_X0 ta3 tb0 tb1 tb2 tb3 tb4 tb5 j_15, tc_I G tb0 10 j_16, tc_I G tb1 10 j_17, tc_I G tb2 10 j_18, tc_I G tb3 10 j_19, tc_I G tb4 10 j_20, tc_D G tb5 10 j_21, tc_X2 ta4 td0 td1 td2 td3 j_22, tc_F G td0 3 j_23, tc_I G td1 3 j_24, tc_I G td2 3 j_25, tc_I G td3 3 j_26] := hD
    refine W.widen (k := 1) (n := 6) (Nat.le_of_ble_eq_true rfl) (Nat.le_of_ble_eq_true rfl) ?_
    refine va_dast (n := 1) (f := od) hx hb hK hP hD hS 0 1 rfl rfl (n_27 r_2 hw_2) dL_wouldLevel_7 (fun H locs hP hD hS => ?_)
    have hP : va_P G.1 vwCl [tc_D G ob 1 (vf_upd od (0 : Int32).toNatClampNeg r_2), tc_X5 a0 ma0 ta0 lk rf pu to, tc_X1 ma0 ma1 ma2 ma3 ma4 fh lh ee, tc_X4 ma1 tk mo su, tc_X3 ma2 lv si ga sl sc fo, tc_X0 ma3 mb0 mb1 mb2 mb3 mb4 mb5 ln, tc_I G mb0 10 ow, tc_I G mb1 10 gr, tc_I G mb2 10 we, tc_I G mb3 10 du, tc_I G mb4 10 sa, tc_D G mb5 10 le, tc_X2 ma4 md0 md1 md2 md3 pn, tc_F G md0 3 dl, tc_I G md1 3 pl, tc_I G md2 3 dr, tc_I G md3 3 sp, tc_X1 ta0 ta1 ta2 ta3 ta4 j_3 j_4 j_5, tc_X4 ta1 j_6 j_7 j_8, tc_X3 ta2 j_9 j_10 j_11 j_12 j_13 j_14, tc_X0 ta3 tb0 tb1 tb2 tb3 tb4 tb5 j_15, tc_I G tb0 10 j_16, tc_I G tb1 10 j_17, tc_I G tb2 10 j_18, tc_I G tb3 10 j_19, tc_I G tb4 10 j_20, tc_D G tb5 10 j_21, tc_X2 ta4 td0 td1 td2 td3 j_22, tc_F G td0 3 j_23, tc_I G td1 3 j_24, tc_I G td2 3 j_25, tc_I G td3 3 j_26] H := hP
    have hD : va_D A [tc_D G ob 1 (vf_upd od (0 : Int32).toNatClampNeg r_2), tc_X5 a0 ma0 ta0 lk rf pu to, tc_X1 ma0 ma1 ma2 ma3 ma4 fh lh ee, tc_X4 ma1 tk mo su, tc_X3 ma2 lv si ga sl sc fo, tc_X0 ma3 mb0 mb1 mb2 mb3 mb4 mb5 ln, tc_I G mb0 10 ow, tc_I G mb1 10 gr, tc_I G mb2 10 we, tc_I G mb3 10 du, tc_I G mb4 10 sa, tc_D G mb5 10 le, tc_X2 ma4 md0 md1 md2 md3 pn, tc_F G md0 3 dl, tc_I G md1 3 pl, tc_I G md2 3 dr, tc_I G md3 3 sp, tc_X1 ta0 ta1 ta2 ta3 ta4 j_3 j_4 j_5, tc_X4 ta1 j_6 j_7 j_8, tc_X3 ta2 j_9 j_10 j_11 j_12 j_13 j_14, tc_X0 ta3 tb0 tb1 tb2 tb3 tb4 tb5 j_15, tc_I G tb0 10 j_16, tc_I G tb1 10 j_17, tc_I G tb2 10 j_18, tc_I G tb3 10 j_19, tc_I G tb4 10 j_20, tc_D G tb5 10 j_21, tc_X2 ta4 td0 td1 td2 td3 j_22, tc_F G td0 3 j_23, tc_I G td1 3 j_24, tc_I G td2 3 j_25, tc_I G td3 3 j_26] := hD
    refine lv_goto (tgt := 14) hx hb dL_wouldLevel_8 (by decide) ?_
    refine lv_iconst (v := 0) hx hb dL_wouldLevel_14 (by decide) ?_
    have hP9 := hP.sub (ws' := [tc_X5 a0 ma0 ta0 lk rf pu to, tc_X1 ma0 ma1 ma2 ma3 ma4 fh lh ee, tc_X4 ma1 tk mo su, tc_X3 ma2 lv si ga sl sc fo, tc_X0 ma3 mb0 mb1 mb2 mb3 mb4 mb5 ln, tc_I G mb0 10 ow, tc_I G mb1 10 gr, tc_I G mb2 10 we, tc_I G mb3 10 du, tc_I G mb4 10 sa, tc_D G mb5 10 le, tc_X2 ma4 md0 md1 md2 md3 pn, tc_F G md0 3 dl, tc_I G md1 3 pl, tc_I G md2 3 dr, tc_I G md3 3 sp, tc_X1 ta0 ta1 ta2 ta3 ta4 j_3 j_4 j_5, tc_X4 ta1 j_6 j_7 j_8, tc_X3 ta2 j_9 j_10 j_11 j_12 j_13 j_14, tc_X0 ta3 tb0 tb1 tb2 tb3 tb4 tb5 j_15, tc_I G tb0 10 j_16, tc_I G tb1 10 j_17, tc_I G tb2 10 j_18, tc_I G tb3 10 j_19, tc_I G tb4 10 j_20, tc_D G tb5 10 j_21, tc_X2 ta4 td0 td1 td2 td3 j_22, tc_F G td0 3 j_23, tc_I G td1 3 j_24, tc_I G td2 3 j_25, tc_I G td3 3 j_26, tc_D G ob 1 (vf_upd od (0 : Int32).toNatClampNeg r_2)]) [1, 2, 3, 4, 5, 6, 7, 8, 9, 10, 11, 12, 13, 14, 15, 16, 17, 18, 19, 20, 21, 22, 23, 24, 25, 26, 27, 28, 29, 30, 31, 0] rfl
    have hD9 := hD.sub (ws' := [tc_X5 a0 ma0 ta0 lk rf pu to, tc_X1 ma0 ma1 ma2 ma3 ma4 fh lh ee, tc_X4 ma1 tk mo su, tc_X3 ma2 lv si ga sl sc fo, tc_X0 ma3 mb0 mb1 mb2 mb3 mb4 mb5 ln, tc_I G mb0 10 ow, tc_I G mb1 10 gr, tc_I G mb2 10 we, tc_I G mb3 10 du, tc_I G mb4 10 sa, tc_D G mb5 10 le, tc_X2 ma4 md0 md1 md2 md3 pn, tc_F G md0 3 dl, tc_I G md1 3 pl, tc_I G md2 3 dr, tc_I G md3 3 sp, tc_X1 ta0 ta1 ta2 ta3 ta4 j_3 j_4 j_5, tc_X4 ta1 j_6 j_7 j_8, tc_X3 ta2 j_9 j_10 j_11 j_12 j_13 j_14, tc_X0 ta3 tb0 tb1 tb2 tb3 tb4 tb5 j_15, tc_I G tb0 10 j_16, tc_I G tb1 10 j_17, tc_I G tb2 10 j_18, tc_I G tb3 10 j_19, tc_I G tb4 10 j_20, tc_D G tb5 10 j_21, tc_X2 ta4 td0 td1 td2 td3 j_22, tc_F G td0 3 j_23, tc_I G td1 3 j_24, tc_I G td2 3 j_25, tc_I G td3 3 j_26, tc_D G ob 1 (vf_upd od (0 : Int32).toNatClampNeg r_2)]) [1, 2, 3, 4, 5, 6, 7, 8, 9, 10, 11, 12, 13, 14, 15, 16, 17, 18, 19, 20, 21, 22, 23, 24, 25, 26, 27, 28, 29, 30, 31, 0] (by decide) rfl
    refine W.widen (k := 1) (n := 6) (Nat.le_of_ble_eq_true rfl) (Nat.le_of_ble_eq_true rfl) (vx_ret ?_)
    exact W.iret (v := 0) hx hb hr (fun t ht hW => ⟨⟨0, (vf_upd od (0 : Int32).toNatClampNeg r_2, j_3, j_4, j_5, j_6, j_7, j_8, j_9, j_10, j_11, j_12, j_13, j_14, j_15, j_16, j_17, j_18, j_19, j_20, j_21, j_22, j_23, j_24, j_25, j_26), rfl, by unfold f_L_wouldLevel; all_goals (rw [← hw_2]); all_goals (dsimp only); all_goals rfl, by rw [ht]; exact hP9, hD9⟩, hS.F ht⟩) hS.2.2 dL_wouldLevel_15
theorem x_X5_wouldDone {fh : Int32} {lh : Int32} {ee : Int32} {tk : Int32} {mo : Int32} {su : UInt64} {lv : UInt64} {si : UInt32} {ga : Int32} {sl : Int32} {sc : Int32} {fo : UInt64} {ln : Int32} {gr : Nat → Int32} {sa : Nat → Int32} {le : Nat → UInt64} {pn : Int32} {dl : Nat → UInt32} {pl : Nat → Int32} {dr : Nat → Int32} {sp : Nat → Int32} {p1 : Int32} {k : Nat} (h : (Sum.inr k : (Int32) ⊕ Nat) = f_X5_wouldDone fh lh ee tk mo su lv si ga sl sc fo ln gr sa le pn dl pl dr sp p1) : k = 2 := by
  unfold f_X5_wouldDone at h
  repeat' split at h
  all_goals first | (cases h; done) | (cases h; simp)
def f_L_wouldDone (fh : Int32) (lh : Int32) (ee : Int32) (tk : Int32) (mo : Int32) (su : UInt64) (lv : UInt64) (si : UInt32) (ga : Int32) (sl : Int32) (sc : Int32) (fo : UInt64) (ln : Int32) (gr : Nat → Int32) (sa : Nat → Int32) (le : Nat → UInt64) (pn : Int32) (dl : Nat → UInt32) (pl : Nat → Int32) (dr : Nat → Int32) (sp : Nat → Int32) (oj : Nat → Int64) (p1 : Int32) : Int32 × (Nat → Int64) :=
  (match f_X5_wouldDone fh lh ee tk mo su lv si ga sl sc fo ln gr sa le pn dl pl dr sp p1 with | .inl r_2 => (0, vp_updL oj (0 : Int32).toNatClampNeg r_2.toInt64) | .inr k9 => (1, oj))
def n_L_wouldDone (fh : Int32) (lh : Int32) (ee : Int32) (tk : Int32) (mo : Int32) (su : UInt64) (lv : UInt64) (si : UInt32) (ga : Int32) (sl : Int32) (sc : Int32) (fo : UInt64) (ln : Int32) (gr : Nat → Int32) (sa : Nat → Int32) (le : Nat → UInt64) (pn : Int32) (dl : Nat → UInt32) (pl : Nat → Int32) (dr : Nat → Int32) (sp : Nat → Int32) (p1 : Int32) : Prop :=
  (n_X5_wouldDone fh lh ee tk mo su lv si ga sl sc fo ln gr sa le pn dl pl dr sp p1) ∧
  (∀ (r_2 : Int32), (Sum.inl r_2 : (Int32) ⊕ Nat) = f_X5_wouldDone fh lh ee tk mo su lv si ga sl sc fo ln gr sa le pn dl pl dr sp p1 → vp_in 0 1)
set_option maxHeartbeats 4000000 in
set_option maxRecDepth 100000 in
theorem c_L_wouldDone (l : Launch) (G : tm_G) (a0 : Nat) (ma0 : Nat) (ta0 : Nat) (ma1 : Nat) (ma2 : Nat) (ma3 : Nat) (ma4 : Nat) (mb0 : Nat) (mb1 : Nat) (mb2 : Nat) (mb3 : Nat) (mb4 : Nat) (mb5 : Nat) (md0 : Nat) (md1 : Nat) (md2 : Nat) (md3 : Nat) (ta1 : Nat) (ta2 : Nat) (ta3 : Nat) (ta4 : Nat) (tb0 : Nat) (tb1 : Nat) (tb2 : Nat) (tb3 : Nat) (tb4 : Nat) (tb5 : Nat) (td0 : Nat) (td1 : Nat) (td2 : Nat) (td3 : Nat) (ob : Nat) (sz : Nat) (lk : Int32) (rf : Int32) (pu : Int32) (to : UInt64) (fh : Int32) (lh : Int32) (ee : Int32) (tk : Int32) (mo : Int32) (su : UInt64) (lv : UInt64) (si : UInt32) (ga : Int32) (sl : Int32) (sc : Int32) (fo : UInt64) (ln : Int32) (ow : Nat → Int32) (gr : Nat → Int32) (we : Nat → Int32) (du : Nat → Int32) (sa : Nat → Int32) (le : Nat → UInt64) (pn : Int32) (dl : Nat → UInt32) (pl : Nat → Int32) (dr : Nat → Int32) (sp : Nat → Int32) (fh' : Int32) (lh' : Int32) (ee' : Int32) (tk' : Int32) (mo' : Int32) (su' : UInt64) (lv' : UInt64) (si' : UInt32) (ga' : Int32) (sl' : Int32) (sc' : Int32) (fo' : UInt64) (ln' : Int32) (ow' : Nat → Int32) (gr' : Nat → Int32) (we' : Nat → Int32) (du' : Nat → Int32) (sa' : Nat → Int32) (le' : Nat → UInt64) (pn' : Int32) (dl' : Nat → UInt32) (pl' : Nat → Int32) (dr' : Nat → Int32) (sp' : Nat → Int32) (oj : Nat → Int64) (p1 : Int32) (hn : n_L_wouldDone fh lh ee tk mo su lv si ga sl sc fo ln gr sa le pn dl pl dr sp p1) (hlt : l.stackTraces = false) : Met l yL_wouldDone wsL_wouldDone ({ frames := 8, cells := 1, slots := 6, locals := 191 }) (va_Pc [.ref a0, .int p1, .ref ob] (tm_B G [tc_X5 a0 ma0 ta0 lk rf pu to, tc_X1 ma0 ma1 ma2 ma3 ma4 fh lh ee, tc_X4 ma1 tk mo su, tc_X3 ma2 lv si ga sl sc fo, tc_X0 ma3 mb0 mb1 mb2 mb3 mb4 mb5 ln, tc_I G mb0 10 ow, tc_I G mb1 10 gr, tc_I G mb2 10 we, tc_I G mb3 10 du, tc_I G mb4 10 sa, tc_D G mb5 10 le, tc_X2 ma4 md0 md1 md2 md3 pn, tc_F G md0 3 dl, tc_I G md1 3 pl, tc_I G md2 3 dr, tc_I G md3 3 sp, tc_X1 ta0 ta1 ta2 ta3 ta4 fh' lh' ee', tc_X4 ta1 tk' mo' su', tc_X3 ta2 lv' si' ga' sl' sc' fo', tc_X0 ta3 tb0 tb1 tb2 tb3 tb4 tb5 ln', tc_I G tb0 10 ow', tc_I G tb1 10 gr', tc_I G tb2 10 we', tc_I G tb3 10 du', tc_I G tb4 10 sa', tc_D G tb5 10 le', tc_X2 ta4 td0 td1 td2 td3 pn', tc_F G td0 3 dl', tc_I G td1 3 pl', tc_I G td2 3 dr', tc_I G td3 3 sp', tc_J G ob 1 oj] sz)) (va_Qi (fun (r : Int32) (u : (Nat → Int64) × Int32 × Int32 × Int32 × Int32 × Int32 × UInt64 × UInt64 × UInt32 × Int32 × Int32 × Int32 × UInt64 × Int32 × (Nat → Int32) × (Nat → Int32) × (Nat → Int32) × (Nat → Int32) × (Nat → Int32) × (Nat → UInt64) × Int32 × (Nat → UInt32) × (Nat → Int32) × (Nat → Int32) × (Nat → Int32)) => (r, u.1) = f_L_wouldDone fh lh ee tk mo su lv si ga sl sc fo ln gr sa le pn dl pl dr sp oj p1) (fun (u : (Nat → Int64) × Int32 × Int32 × Int32 × Int32 × Int32 × UInt64 × UInt64 × UInt32 × Int32 × Int32 × Int32 × UInt64 × Int32 × (Nat → Int32) × (Nat → Int32) × (Nat → Int32) × (Nat → Int32) × (Nat → Int32) × (Nat → UInt64) × Int32 × (Nat → UInt32) × (Nat → Int32) × (Nat → Int32) × (Nat → Int32)) (t : State) => va_P G.1 vwCl [tc_X5 a0 ma0 ta0 lk rf pu to, tc_X1 ma0 ma1 ma2 ma3 ma4 fh lh ee, tc_X4 ma1 tk mo su, tc_X3 ma2 lv si ga sl sc fo, tc_X0 ma3 mb0 mb1 mb2 mb3 mb4 mb5 ln, tc_I G mb0 10 ow, tc_I G mb1 10 gr, tc_I G mb2 10 we, tc_I G mb3 10 du, tc_I G mb4 10 sa, tc_D G mb5 10 le, tc_X2 ma4 md0 md1 md2 md3 pn, tc_F G md0 3 dl, tc_I G md1 3 pl, tc_I G md2 3 dr, tc_I G md3 3 sp, tc_X1 ta0 ta1 ta2 ta3 ta4 u.2.1 u.2.2.1 u.2.2.2.1, tc_X4 ta1 u.2.2.2.2.1 u.2.2.2.2.2.1 u.2.2.2.2.2.2.1, tc_X3 ta2 u.2.2.2.2.2.2.2.1 u.2.2.2.2.2.2.2.2.1 u.2.2.2.2.2.2.2.2.2.1 u.2.2.2.2.2.2.2.2.2.2.1 u.2.2.2.2.2.2.2.2.2.2.2.1 u.2.2.2.2.2.2.2.2.2.2.2.2.1, tc_X0 ta3 tb0 tb1 tb2 tb3 tb4 tb5 u.2.2.2.2.2.2.2.2.2.2.2.2.2.1, tc_I G tb0 10 u.2.2.2.2.2.2.2.2.2.2.2.2.2.2.1, tc_I G tb1 10 u.2.2.2.2.2.2.2.2.2.2.2.2.2.2.2.1, tc_I G tb2 10 u.2.2.2.2.2.2.2.2.2.2.2.2.2.2.2.2.1, tc_I G tb3 10 u.2.2.2.2.2.2.2.2.2.2.2.2.2.2.2.2.2.1, tc_I G tb4 10 u.2.2.2.2.2.2.2.2.2.2.2.2.2.2.2.2.2.2.1, tc_D G tb5 10 u.2.2.2.2.2.2.2.2.2.2.2.2.2.2.2.2.2.2.2.1, tc_X2 ta4 td0 td1 td2 td3 u.2.2.2.2.2.2.2.2.2.2.2.2.2.2.2.2.2.2.2.2.1, tc_F G td0 3 u.2.2.2.2.2.2.2.2.2.2.2.2.2.2.2.2.2.2.2.2.2.1, tc_I G td1 3 u.2.2.2.2.2.2.2.2.2.2.2.2.2.2.2.2.2.2.2.2.2.2.1, tc_I G td2 3 u.2.2.2.2.2.2.2.2.2.2.2.2.2.2.2.2.2.2.2.2.2.2.2.1, tc_I G td3 3 u.2.2.2.2.2.2.2.2.2.2.2.2.2.2.2.2.2.2.2.2.2.2.2.2, tc_J G ob 1 u.1] t.heap ∧ va_D (va_A [tc_X5 a0 ma0 ta0 lk rf pu to, tc_X1 ma0 ma1 ma2 ma3 ma4 fh lh ee, tc_X4 ma1 tk mo su, tc_X3 ma2 lv si ga sl sc fo, tc_X0 ma3 mb0 mb1 mb2 mb3 mb4 mb5 ln, tc_I G mb0 10 ow, tc_I G mb1 10 gr, tc_I G mb2 10 we, tc_I G mb3 10 du, tc_I G mb4 10 sa, tc_D G mb5 10 le, tc_X2 ma4 md0 md1 md2 md3 pn, tc_F G md0 3 dl, tc_I G md1 3 pl, tc_I G md2 3 dr, tc_I G md3 3 sp, tc_X1 ta0 ta1 ta2 ta3 ta4 fh' lh' ee', tc_X4 ta1 tk' mo' su', tc_X3 ta2 lv' si' ga' sl' sc' fo', tc_X0 ta3 tb0 tb1 tb2 tb3 tb4 tb5 ln', tc_I G tb0 10 ow', tc_I G tb1 10 gr', tc_I G tb2 10 we', tc_I G tb3 10 du', tc_I G tb4 10 sa', tc_D G tb5 10 le', tc_X2 ta4 td0 td1 td2 td3 pn', tc_F G td0 3 dl', tc_I G td1 3 pl', tc_I G td2 3 dr', tc_I G td3 3 sp', tc_J G ob 1 oj] sz) [tc_X5 a0 ma0 ta0 lk rf pu to, tc_X1 ma0 ma1 ma2 ma3 ma4 fh lh ee, tc_X4 ma1 tk mo su, tc_X3 ma2 lv si ga sl sc fo, tc_X0 ma3 mb0 mb1 mb2 mb3 mb4 mb5 ln, tc_I G mb0 10 ow, tc_I G mb1 10 gr, tc_I G mb2 10 we, tc_I G mb3 10 du, tc_I G mb4 10 sa, tc_D G mb5 10 le, tc_X2 ma4 md0 md1 md2 md3 pn, tc_F G md0 3 dl, tc_I G md1 3 pl, tc_I G md2 3 dr, tc_I G md3 3 sp, tc_X1 ta0 ta1 ta2 ta3 ta4 u.2.1 u.2.2.1 u.2.2.2.1, tc_X4 ta1 u.2.2.2.2.1 u.2.2.2.2.2.1 u.2.2.2.2.2.2.1, tc_X3 ta2 u.2.2.2.2.2.2.2.1 u.2.2.2.2.2.2.2.2.1 u.2.2.2.2.2.2.2.2.2.1 u.2.2.2.2.2.2.2.2.2.2.1 u.2.2.2.2.2.2.2.2.2.2.2.1 u.2.2.2.2.2.2.2.2.2.2.2.2.1, tc_X0 ta3 tb0 tb1 tb2 tb3 tb4 tb5 u.2.2.2.2.2.2.2.2.2.2.2.2.2.1, tc_I G tb0 10 u.2.2.2.2.2.2.2.2.2.2.2.2.2.2.1, tc_I G tb1 10 u.2.2.2.2.2.2.2.2.2.2.2.2.2.2.2.1, tc_I G tb2 10 u.2.2.2.2.2.2.2.2.2.2.2.2.2.2.2.2.1, tc_I G tb3 10 u.2.2.2.2.2.2.2.2.2.2.2.2.2.2.2.2.2.1, tc_I G tb4 10 u.2.2.2.2.2.2.2.2.2.2.2.2.2.2.2.2.2.2.1, tc_D G tb5 10 u.2.2.2.2.2.2.2.2.2.2.2.2.2.2.2.2.2.2.2.1, tc_X2 ta4 td0 td1 td2 td3 u.2.2.2.2.2.2.2.2.2.2.2.2.2.2.2.2.2.2.2.2.1, tc_F G td0 3 u.2.2.2.2.2.2.2.2.2.2.2.2.2.2.2.2.2.2.2.2.2.1, tc_I G td1 3 u.2.2.2.2.2.2.2.2.2.2.2.2.2.2.2.2.2.2.2.2.2.2.1, tc_I G td2 3 u.2.2.2.2.2.2.2.2.2.2.2.2.2.2.2.2.2.2.2.2.2.2.2.1, tc_I G td3 3 u.2.2.2.2.2.2.2.2.2.2.2.2.2.2.2.2.2.2.2.2.2.2.2.2, tc_J G ob 1 u.1]) (va_A [tc_X5 a0 ma0 ta0 lk rf pu to, tc_X1 ma0 ma1 ma2 ma3 ma4 fh lh ee, tc_X4 ma1 tk mo su, tc_X3 ma2 lv si ga sl sc fo, tc_X0 ma3 mb0 mb1 mb2 mb3 mb4 mb5 ln, tc_I G mb0 10 ow, tc_I G mb1 10 gr, tc_I G mb2 10 we, tc_I G mb3 10 du, tc_I G mb4 10 sa, tc_D G mb5 10 le, tc_X2 ma4 md0 md1 md2 md3 pn, tc_F G md0 3 dl, tc_I G md1 3 pl, tc_I G md2 3 dr, tc_I G md3 3 sp, tc_X1 ta0 ta1 ta2 ta3 ta4 fh' lh' ee', tc_X4 ta1 tk' mo' su', tc_X3 ta2 lv' si' ga' sl' sc' fo', tc_X0 ta3 tb0 tb1 tb2 tb3 tb4 tb5 ln', tc_I G tb0 10 ow', tc_I G tb1 10 gr', tc_I G tb2 10 we', tc_I G tb3 10 du', tc_I G tb4 10 sa', tc_D G tb5 10 le', tc_X2 ta4 td0 td1 td2 td3 pn', tc_F G td0 3 dl', tc_I G td1 3 pl', tc_I G td2 3 dr', tc_I G td3 3 sp', tc_J G ob 1 oj] sz)) 1 6 (va_A [tc_X5 a0 ma0 ta0 lk rf pu to, tc_X1 ma0 ma1 ma2 ma3 ma4 fh lh ee, tc_X4 ma1 tk mo su, tc_X3 ma2 lv si ga sl sc fo, tc_X0 ma3 mb0 mb1 mb2 mb3 mb4 mb5 ln, tc_I G mb0 10 ow, tc_I G mb1 10 gr, tc_I G mb2 10 we, tc_I G mb3 10 du, tc_I G mb4 10 sa, tc_D G mb5 10 le, tc_X2 ma4 md0 md1 md2 md3 pn, tc_F G md0 3 dl, tc_I G md1 3 pl, tc_I G md2 3 dr, tc_I G md3 3 sp, tc_X1 ta0 ta1 ta2 ta3 ta4 fh' lh' ee', tc_X4 ta1 tk' mo' su', tc_X3 ta2 lv' si' ga' sl' sc' fo', tc_X0 ta3 tb0 tb1 tb2 tb3 tb4 tb5 ln', tc_I G tb0 10 ow', tc_I G tb1 10 gr', tc_I G tb2 10 we', tc_I G tb3 10 du', tc_I G tb4 10 sa', tc_D G tb5 10 le', tc_X2 ta4 td0 td1 td2 td3 pn', tc_F G td0 3 dl', tc_I G td1 3 pl', tc_I G td2 3 dr', tc_I G td3 3 sp', tc_J G ob 1 oj] sz) := by
  refine tm_metOf ?_
  refine vx_ofWH (cc := cL_wouldDone) (maxL := 4) (ret := (some .int)) (hh :=  [(0, 9, 12, 43)]) (by decide) rfl ?_
  intro p e s m args below meth c s₁ B hml hv
  obtain ⟨rfl, hsz, hP, hK, hD0, hN, hV⟩ := hv
  have hx := B.exec
  have hb := B.bytes
  have hr := B.returns
  have hts := atoms_spec (ws := wsL_wouldDone) B.pre
  have htab : c.exceptionTable.toList = tableOf  [(0, 9, 12, 43)] := vx_table (x := yL_wouldDone) B (atoms_spec (ws := wsL_wouldDone) B.pre _ (List.mem_of_getElem? (i := 0) rfl))
  have hown : s.vm.findClass RL = some m.cls := findClass_of_methodNamed B.named
  have hlocks := B.notSynchronized
  subst hsz
  obtain ⟨n_1, n_27⟩ := hn
  have hD := hD0.self (sz := s.heap.size)
  generalize hAe : va_A [tc_X5 a0 ma0 ta0 lk rf pu to, tc_X1 ma0 ma1 ma2 ma3 ma4 fh lh ee, tc_X4 ma1 tk mo su, tc_X3 ma2 lv si ga sl sc fo, tc_X0 ma3 mb0 mb1 mb2 mb3 mb4 mb5 ln, tc_I G mb0 10 ow, tc_I G mb1 10 gr, tc_I G mb2 10 we, tc_I G mb3 10 du, tc_I G mb4 10 sa, tc_D G mb5 10 le, tc_X2 ma4 md0 md1 md2 md3 pn, tc_F G md0 3 dl, tc_I G md1 3 pl, tc_I G md2 3 dr, tc_I G md3 3 sp, tc_X1 ta0 ta1 ta2 ta3 ta4 fh' lh' ee', tc_X4 ta1 tk' mo' su', tc_X3 ta2 lv' si' ga' sl' sc' fo', tc_X0 ta3 tb0 tb1 tb2 tb3 tb4 tb5 ln', tc_I G tb0 10 ow', tc_I G tb1 10 gr', tc_I G tb2 10 we', tc_I G tb3 10 du', tc_I G tb4 10 sa', tc_D G tb5 10 le', tc_X2 ta4 td0 td1 td2 td3 pn', tc_F G td0 3 dl', tc_I G td1 3 pl', tc_I G td2 3 dr', tc_I G td3 3 sp', tc_J G ob 1 oj] s.heap.size = A at hD hV ⊢
  have hA : ∀ q : Nat, s.heap.size ≤ q → A q := fun q h => by rw [← hAe]; exact Or.inr h
  have hS : va_S A s.heap s.heap [] := va_S.rf
  have hl := lv_entry ([.ref a0, .int p1, .ref ob]) (n := 4) (Nat.le_of_ble_eq_true rfl)
  rw [lg_entry_eq]
  generalize (lg_sl ([.ref a0, .int p1, .ref ob]) ++ List.replicate (4 - (lg_sl ([.ref a0, .int p1, .ref ob])).length) Slot.unset).toArray = ls at hl ⊢
  have hl : lv_has ls 4 [(0, .ref a0), (1, .int p1), (2, .ref ob)] := hl
  refine lv_aload_n hx hb dL_wouldDone_0 rfl (lv_at hl 2 rfl) ?_
  refine lv_iconst (v := 0) hx hb dL_wouldDone_1 (by decide) ?_
  refine lv_aload_n hx hb dL_wouldDone_2 rfl (lv_at hl 0 rfl) ?_
  refine lv_iload_n hx hb dL_wouldDone_3 rfl (lv_at hl 1 rfl) ?_
  have hPc := hP.sub (ws' := [tc_X5 a0 ma0 ta0 lk rf pu to, tc_X1 ma0 ma1 ma2 ma3 ma4 fh lh ee, tc_X4 ma1 tk mo su, tc_X3 ma2 lv si ga sl sc fo, tc_X0 ma3 mb0 mb1 mb2 mb3 mb4 mb5 ln, tc_I G mb0 10 ow, tc_I G mb1 10 gr, tc_I G mb2 10 we, tc_I G mb3 10 du, tc_I G mb4 10 sa, tc_D G mb5 10 le, tc_X2 ma4 md0 md1 md2 md3 pn, tc_F G md0 3 dl, tc_I G md1 3 pl, tc_I G md2 3 dr, tc_I G md3 3 sp, tc_X1 ta0 ta1 ta2 ta3 ta4 fh' lh' ee', tc_X4 ta1 tk' mo' su', tc_X3 ta2 lv' si' ga' sl' sc' fo', tc_X0 ta3 tb0 tb1 tb2 tb3 tb4 tb5 ln', tc_I G tb0 10 ow', tc_I G tb1 10 gr', tc_I G tb2 10 we', tc_I G tb3 10 du', tc_I G tb4 10 sa', tc_D G tb5 10 le', tc_X2 ta4 td0 td1 td2 td3 pn', tc_F G td0 3 dl', tc_I G td1 3 pl', tc_I G td2 3 dr', tc_I G td3 3 sp']) [0, 1, 2, 3, 4, 5, 6, 7, 8, 9, 10, 11, 12, 13, 14, 15, 16, 17, 18, 19, 20, 21, 22, 23, 24, 25, 26, 27, 28, 29, 30] rfl
  have hDc := hD.sub (ws' := [tc_X5 a0 ma0 ta0 lk rf pu to, tc_X1 ma0 ma1 ma2 ma3 ma4 fh lh ee, tc_X4 ma1 tk mo su, tc_X3 ma2 lv si ga sl sc fo, tc_X0 ma3 mb0 mb1 mb2 mb3 mb4 mb5 ln, tc_I G mb0 10 ow, tc_I G mb1 10 gr, tc_I G mb2 10 we, tc_I G mb3 10 du, tc_I G mb4 10 sa, tc_D G mb5 10 le, tc_X2 ma4 md0 md1 md2 md3 pn, tc_F G md0 3 dl, tc_I G md1 3 pl, tc_I G md2 3 dr, tc_I G md3 3 sp, tc_X1 ta0 ta1 ta2 ta3 ta4 fh' lh' ee', tc_X4 ta1 tk' mo' su', tc_X3 ta2 lv' si' ga' sl' sc' fo', tc_X0 ta3 tb0 tb1 tb2 tb3 tb4 tb5 ln', tc_I G tb0 10 ow', tc_I G tb1 10 gr', tc_I G tb2 10 we', tc_I G tb3 10 du', tc_I G tb4 10 sa', tc_D G tb5 10 le', tc_X2 ta4 td0 td1 td2 td3 pn', tc_F G td0 3 dl', tc_I G td1 3 pl', tc_I G td2 3 dr', tc_I G td3 3 sp']) [0, 1, 2, 3, 4, 5, 6, 7, 8, 9, 10, 11, 12, 13, 14, 15, 16, 17, 18, 19, 20, 21, 22, 23, 24, 25, 26, 27, 28, 29, 30] (by decide) rfl
  have hFc := va_free (wc := [tc_X5 a0 ma0 ta0 lk rf pu to, tc_X1 ma0 ma1 ma2 ma3 ma4 fh lh ee, tc_X4 ma1 tk mo su, tc_X3 ma2 lv si ga sl sc fo, tc_X0 ma3 mb0 mb1 mb2 mb3 mb4 mb5 ln, tc_I G mb0 10 ow, tc_I G mb1 10 gr, tc_I G mb2 10 we, tc_I G mb3 10 du, tc_I G mb4 10 sa, tc_D G mb5 10 le, tc_X2 ma4 md0 md1 md2 md3 pn, tc_F G md0 3 dl, tc_I G md1 3 pl, tc_I G md2 3 dr, tc_I G md3 3 sp, tc_X1 ta0 ta1 ta2 ta3 ta4 fh' lh' ee', tc_X4 ta1 tk' mo' su', tc_X3 ta2 lv' si' ga' sl' sc' fo', tc_X0 ta3 tb0 tb1 tb2 tb3 tb4 tb5 ln', tc_I G tb0 10 ow', tc_I G tb1 10 gr', tc_I G tb2 10 we', tc_I G tb3 10 du', tc_I G tb4 10 sa', tc_D G tb5 10 le', tc_X2 ta4 td0 td1 td2 td3 pn', tc_F G td0 3 dl', tc_I G td1 3 pl', tc_I G td2 3 dr', tc_I G td3 3 sp']) hD hS hA [0, 1, 2, 3, 4, 5, 6, 7, 8, 9, 10, 11, 12, 13, 14, 15, 16, 17, 18, 19, 20, 21, 22, 23, 24, 25, 26, 27, 28, 29, 30] rfl
  refine vx_calli (vx_runV (As := [.int p1]) (rest := [.int 0, .ref ob]) ⟨hx, hb, hml, hown, hts⟩ (c_X5_wouldDone l G a0 ma0 ta0 ma1 ma2 ma3 ma4 mb0 mb1 mb2 mb3 mb4 mb5 md0 md1 md2 md3 ta1 ta2 ta3 ta4 tb0 tb1 tb2 tb3 tb4 tb5 td0 td1 td2 td3 s.heap.size lk rf pu to fh lh ee tk mo su lv si ga sl sc fo ln ow gr we du sa le pn dl pl dr sp fh' lh' ee' tk' mo' su' lv' si' ga' sl' sc' fo' ln' ow' gr' we' du' sa' le' pn' dl' pl' dr' sp' p1 n_1 hlt) (cwV 1 hts gL_wouldDone_X5_wouldDone rfl rfl rfl (by decide +kernel) ⟨(Nat.le_of_ble_eq_true rfl), (Nat.le_of_ble_eq_true rfl)⟩) (tm_preV hK hN hV hS hPc hDc hFc (va_recv hK hPc (ci := 6) (q0 := 0) rfl rfl)) rfl rfl hl.1 rfl (lv_room (Nat.le_of_ble_eq_true rfl)) dL_wouldDone_4 ⟨(Nat.le_of_ble_eq_true rfl), (Nat.le_of_ble_eq_true rfl)⟩) hS (fun q _ h => hFc q h) hFc (fun q _ h => hFc q h) (fun E9 ce9 q9 k9 st9 H locs ht hvm hw_2 hB hz1 hk1 hS hce hcv hcl => ?_) (fun r_2 u st9 H locs ht hvm hw_2 hB hz1 hk1 hS => ?_)
  · obtain ⟨rfl, hP1, hD1⟩ := hB
    rw [ht] at hP1
    obtain ⟨hP, hD⟩ := va_join (wr := [tc_J G ob 1 oj]) (w1 := [tc_X5 a0 ma0 ta0 lk rf pu to, tc_X1 ma0 ma1 ma2 ma3 ma4 fh lh ee, tc_X4 ma1 tk mo su, tc_X3 ma2 lv si ga sl sc fo, tc_X0 ma3 mb0 mb1 mb2 mb3 mb4 mb5 ln, tc_I G mb0 10 ow, tc_I G mb1 10 gr, tc_I G mb2 10 we, tc_I G mb3 10 du, tc_I G mb4 10 sa, tc_D G mb5 10 le, tc_X2 ma4 md0 md1 md2 md3 pn, tc_F G md0 3 dl, tc_I G md1 3 pl, tc_I G md2 3 dr, tc_I G md3 3 sp, tc_X1 ta0 ta1 ta2 ta3 ta4 fh' lh' ee', tc_X4 ta1 tk' mo' su', tc_X3 ta2 lv' si' ga' sl' sc' fo', tc_X0 ta3 tb0 tb1 tb2 tb3 tb4 tb5 ln', tc_I G tb0 10 ow', tc_I G tb1 10 gr', tc_I G tb2 10 we', tc_I G tb3 10 du', tc_I G tb4 10 sa', tc_D G tb5 10 le', tc_X2 ta4 td0 td1 td2 td3 pn', tc_F G td0 3 dl', tc_I G td1 3 pl', tc_I G td2 3 dr', tc_I G td3 3 sp']) hP hD [0, 1, 2, 3, 4, 5, 6, 7, 8, 9, 10, 11, 12, 13, 14, 15, 16, 17, 18, 19, 20, 21, 22, 23, 24, 25, 26, 27, 28, 29, 30] [31] rfl rfl (by decide) (by decide) hk1 hFc hP1 hD1
    have hP : va_P G.1 vwCl [tc_J G ob 1 oj, tc_X5 a0 ma0 ta0 lk rf pu to, tc_X1 ma0 ma1 ma2 ma3 ma4 fh lh ee, tc_X4 ma1 tk mo su, tc_X3 ma2 lv si ga sl sc fo, tc_X0 ma3 mb0 mb1 mb2 mb3 mb4 mb5 ln, tc_I G mb0 10 ow, tc_I G mb1 10 gr, tc_I G mb2 10 we, tc_I G mb3 10 du, tc_I G mb4 10 sa, tc_D G mb5 10 le, tc_X2 ma4 md0 md1 md2 md3 pn, tc_F G md0 3 dl, tc_I G md1 3 pl, tc_I G md2 3 dr, tc_I G md3 3 sp, tc_X1 ta0 ta1 ta2 ta3 ta4 fh' lh' ee', tc_X4 ta1 tk' mo' su', tc_X3 ta2 lv' si' ga' sl' sc' fo', tc_X0 ta3 tb0 tb1 tb2 tb3 tb4 tb5 ln', tc_I G tb0 10 ow', tc_I G tb1 10 gr', tc_I G tb2 10 we', tc_I G tb3 10 du', tc_I G tb4 10 sa', tc_D G tb5 10 le', tc_X2 ta4 td0 td1 td2 td3 pn', tc_F G td0 3 dl', tc_I G td1 3 pl', tc_I G td2 3 dr', tc_I G td3 3 sp'] H := hP
    have hD : va_D A [tc_J G ob 1 oj, tc_X5 a0 ma0 ta0 lk rf pu to, tc_X1 ma0 ma1 ma2 ma3 ma4 fh lh ee, tc_X4 ma1 tk mo su, tc_X3 ma2 lv si ga sl sc fo, tc_X0 ma3 mb0 mb1 mb2 mb3 mb4 mb5 ln, tc_I G mb0 10 ow, tc_I G mb1 10 gr, tc_I G mb2 10 we, tc_I G mb3 10 du, tc_I G mb4 10 sa, tc_D G mb5 10 le, tc_X2 ma4 md0 md1 md2 md3 pn, tc_F G md0 3 dl, tc_I G md1 3 pl, tc_I G md2 3 dr, tc_I G md3 3 sp, tc_X1 ta0 ta1 ta2 ta3 ta4 fh' lh' ee', tc_X4 ta1 tk' mo' su', tc_X3 ta2 lv' si' ga' sl' sc' fo', tc_X0 ta3 tb0 tb1 tb2 tb3 tb4 tb5 ln', tc_I G tb0 10 ow', tc_I G tb1 10 gr', tc_I G tb2 10 we', tc_I G tb3 10 du', tc_I G tb4 10 sa', tc_D G tb5 10 le', tc_X2 ta4 td0 td1 td2 td3 pn', tc_F G td0 3 dl', tc_I G td1 3 pl', tc_I G td2 3 dr', tc_I G td3 3 sp'] := hD
    obtain rfl := x_X5_wouldDone hw_2
    · refine vx_catch (name := "java/lang/IndexOutOfBoundsException") (E := "java/lang/IndexOutOfBoundsException") hown [] { startPc := 0, endPc := 9, handlerPc := 12, catchType := 43 } [] (by rw [htab]; rfl) (fun z hz => absurd hz List.not_mem_nil) (by decide) (by decide) (hts (.classLink RL 43 "java/lang/IndexOutOfBoundsException") (List.mem_of_getElem? (i := 1) rfl)) (va_Nw.use rfl (hN.2.1 ("java/lang/IndexOutOfBoundsException", "java/lang/IndexOutOfBoundsException") (List.mem_of_getElem? (i := 2) rfl))) hce hcv hcl ?_
      show W p l e _ s m _ below meth c H locs 1 6 _ (F0 m 12 ls [.ref q9])
      refine lv_astore_n (lv' := [(3, .ref q9), (0, .ref a0), (1, .int p1), (2, .ref ob)]) hx hb dL_wouldDone_12 rfl hl (by decide) rfl (fun ls hl => ?_)
      refine lv_iconst (v := 1) hx hb dL_wouldDone_13 (by decide) ?_
      have hP9 := hP.sub (ws' := [tc_X5 a0 ma0 ta0 lk rf pu to, tc_X1 ma0 ma1 ma2 ma3 ma4 fh lh ee, tc_X4 ma1 tk mo su, tc_X3 ma2 lv si ga sl sc fo, tc_X0 ma3 mb0 mb1 mb2 mb3 mb4 mb5 ln, tc_I G mb0 10 ow, tc_I G mb1 10 gr, tc_I G mb2 10 we, tc_I G mb3 10 du, tc_I G mb4 10 sa, tc_D G mb5 10 le, tc_X2 ma4 md0 md1 md2 md3 pn, tc_F G md0 3 dl, tc_I G md1 3 pl, tc_I G md2 3 dr, tc_I G md3 3 sp, tc_X1 ta0 ta1 ta2 ta3 ta4 fh' lh' ee', tc_X4 ta1 tk' mo' su', tc_X3 ta2 lv' si' ga' sl' sc' fo', tc_X0 ta3 tb0 tb1 tb2 tb3 tb4 tb5 ln', tc_I G tb0 10 ow', tc_I G tb1 10 gr', tc_I G tb2 10 we', tc_I G tb3 10 du', tc_I G tb4 10 sa', tc_D G tb5 10 le', tc_X2 ta4 td0 td1 td2 td3 pn', tc_F G td0 3 dl', tc_I G td1 3 pl', tc_I G td2 3 dr', tc_I G td3 3 sp', tc_J G ob 1 oj]) [1, 2, 3, 4, 5, 6, 7, 8, 9, 10, 11, 12, 13, 14, 15, 16, 17, 18, 19, 20, 21, 22, 23, 24, 25, 26, 27, 28, 29, 30, 31, 0] rfl
      have hD9 := hD.sub (ws' := [tc_X5 a0 ma0 ta0 lk rf pu to, tc_X1 ma0 ma1 ma2 ma3 ma4 fh lh ee, tc_X4 ma1 tk mo su, tc_X3 ma2 lv si ga sl sc fo, tc_X0 ma3 mb0 mb1 mb2 mb3 mb4 mb5 ln, tc_I G mb0 10 ow, tc_I G mb1 10 gr, tc_I G mb2 10 we, tc_I G mb3 10 du, tc_I G mb4 10 sa, tc_D G mb5 10 le, tc_X2 ma4 md0 md1 md2 md3 pn, tc_F G md0 3 dl, tc_I G md1 3 pl, tc_I G md2 3 dr, tc_I G md3 3 sp, tc_X1 ta0 ta1 ta2 ta3 ta4 fh' lh' ee', tc_X4 ta1 tk' mo' su', tc_X3 ta2 lv' si' ga' sl' sc' fo', tc_X0 ta3 tb0 tb1 tb2 tb3 tb4 tb5 ln', tc_I G tb0 10 ow', tc_I G tb1 10 gr', tc_I G tb2 10 we', tc_I G tb3 10 du', tc_I G tb4 10 sa', tc_D G tb5 10 le', tc_X2 ta4 td0 td1 td2 td3 pn', tc_F G td0 3 dl', tc_I G td1 3 pl', tc_I G td2 3 dr', tc_I G td3 3 sp', tc_J G ob 1 oj]) [1, 2, 3, 4, 5, 6, 7, 8, 9, 10, 11, 12, 13, 14, 15, 16, 17, 18, 19, 20, 21, 22, 23, 24, 25, 26, 27, 28, 29, 30, 31, 0] (by decide) rfl
      refine W.widen (k := 1) (n := 6) (Nat.le_of_ble_eq_true rfl) (Nat.le_of_ble_eq_true rfl) (vx_ret ?_)
      exact W.iret (v := 1) hx hb hr (fun t ht hW => ⟨⟨1, (oj, fh', lh', ee', tk', mo', su', lv', si', ga', sl', sc', fo', ln', ow', gr', we', du', sa', le', pn', dl', pl', dr', sp'), rfl, by unfold f_L_wouldDone; all_goals (rw [← hw_2]); all_goals (dsimp only); all_goals rfl, by rw [ht]; exact hP9, hD9⟩, hS.F ht⟩) hS.2.2 dL_wouldDone_14
  · obtain ⟨j_3, j_4, j_5, j_6, j_7, j_8, j_9, j_10, j_11, j_12, j_13, j_14, j_15, j_16, j_17, j_18, j_19, j_20, j_21, j_22, j_23, j_24, j_25, j_26⟩ := u
    obtain ⟨hP1, hD1⟩ := hB
    rw [ht] at hP1
    try dsimp only at hw_2
    obtain ⟨hP, hD⟩ := va_join (wr := [tc_J G ob 1 oj]) (w1 := [tc_X5 a0 ma0 ta0 lk rf pu to, tc_X1 ma0 ma1 ma2 ma3 ma4 fh lh ee, tc_X4 ma1 tk mo su, tc_X3 ma2 lv si ga sl sc fo, tc_X0 ma3 mb0 mb1 mb2 mb3 mb4 mb5 ln, tc_I G mb0 10 ow, tc_I G mb1 10 gr, tc_I G mb2 10 we, tc_I G mb3 10 du, tc_I G mb4 10 sa, tc_D G mb5 10 le, tc_X2 ma4 md0 md1 md2 md3 pn, tc_F G md0 3 dl, tc_I G md1 3 pl, tc_I G md2 3 dr, tc_I G md3 3 sp, tc_X1 ta0 ta1 ta2 ta3 ta4 j_3 j_4 j_5, tc_X4 ta1 j_6 j_7 j_8, tc_X3 ta2 j_9 j_10 j_11 j_12 j_13 j_14, tc_X0 ta3 tb0 tb1 tb2 tb3 tb4 tb5 j_15, tc_I G tb0 10 j_16, tc_I G tb1 10 j_17, tc_I G tb2 10 j_18, tc_I G tb3 10 j_19, tc_I G tb4 10 j_20, tc_D G tb5 10 j_21, tc_X2 ta4 td0 td1 td2 td3 j_22, tc_F G td0 3 j_23, tc_I G td1 3 j_24, tc_I G td2 3 j_25, tc_I G td3 3 j_26]) hP hD [0, 1, 2, 3, 4, 5, 6, 7, 8, 9, 10, 11, 12, 13, 14, 15, 16, 17, 18, 19, 20, 21, 22, 23, 24, 25, 26, 27, 28, 29, 30] [31] rfl rfl (by decide) (by decide) hk1 hFc hP1 hD1
    have hP : va_P G.1 vwCl [tc_J G ob 1 oj, tc_X5 a0 ma0 ta0 lk rf pu to, tc_X1 ma0 ma1 ma2 ma3 ma4 fh lh ee, tc_X4 ma1 tk mo su, tc_X3 ma2 lv si ga sl sc fo, tc_X0 ma3 mb0 mb1 mb2 mb3 mb4 mb5 ln, tc_I G mb0 10 ow, tc_I G mb1 10 gr, tc_I G mb2 10 we, tc_I G mb3 10 du, tc_I G mb4 10 sa, tc_D G mb5 10 le, tc_X2 ma4 md0 md1 md2 md3 pn, tc_F G md0 3 dl, tc_I G md1 3 pl, tc_I G md2 3 dr, tc_I G md3 3 sp, tc_X1 ta0 ta1 ta2 ta3 ta4 j_3 j_4 j_5, tc_X4 ta1 j_6 j_7 j_8, tc_X3 ta2 j_9 j_10 j_11 j_12 j_13 j_14, tc_X0 ta3 tb0 tb1 tb2 tb3 tb4 tb5 j_15, tc_I G tb0 10 j_16, tc_I G tb1 10 j_17, tc_I G tb2 10 j_18, tc_I G tb3 10 j_19, tc_I G tb4 10 j_20, tc_D G tb5 10 j_21, tc_X2 ta4 td0 td1 td2 td3 j_22, tc_F G td0 3 j_23, tc_I G td1 3 j_24, tc_I G td2 3 j_25, tc_I G td3 3 j_26] H := hP
    have hD : va_D A [tc_J G ob 1 oj, tc_X5 a0 ma0 ta0 lk rf pu to, tc_X1 ma0 ma1 ma2 ma3 ma4 fh lh ee, tc_X4 ma1 tk mo su, tc_X3 ma2 lv si ga sl sc fo, tc_X0 ma3 mb0 mb1 mb2 mb3 mb4 mb5 ln, tc_I G mb0 10 ow, tc_I G mb1 10 gr, tc_I G mb2 10 we, tc_I G mb3 10 du, tc_I G mb4 10 sa, tc_D G mb5 10 le, tc_X2 ma4 md0 md1 md2 md3 pn, tc_F G md0 3 dl, tc_I G md1 3 pl, tc_I G md2 3 dr, tc_I G md3 3 sp, tc_X1 ta0 ta1 ta2 ta3 ta4 j_3 j_4 j_5, tc_X4 ta1 j_6 j_7 j_8, tc_X3 ta2 j_9 j_10 j_11 j_12 j_13 j_14, tc_X0 ta3 tb0 tb1 tb2 tb3 tb4 tb5 j_15, tc_I G tb0 10 j_16, tc_I G tb1 10 j_17, tc_I G tb2 10 j_18, tc_I G tb3 10 j_19, tc_I G tb4 10 j_20, tc_D G tb5 10 j_21, tc_X2 ta4 td0 td1 td2 td3 j_22, tc_F G td0 3 j_23, tc_I G td1 3 j_24, tc_I G td2 3 j_25, tc_I G td3 3 j_26] := hD
    refine W.widen (k := 1) (n := 6) (Nat.le_of_ble_eq_true rfl) (Nat.le_of_ble_eq_true rfl) ?_
    refine lv_i2l (v := r_2.toInt64) hx hb dL_wouldDone_7 rfl ?_
    refine va_last (n := 1) (f := oj) hx hb hK hP hD hS 0 5 rfl rfl (n_27 r_2 hw_2) dL_wouldDone_8 (fun H locs hP hD hS => ?_)
    have hP : va_P G.1 vwCl [tc_J G ob 1 (vp_updL oj (0 : Int32).toNatClampNeg r_2.toInt64), tc_X5 a0 ma0 ta0 lk rf pu to, tc_X1 ma0 ma1 ma2 ma3 ma4 fh lh ee, tc_X4 ma1 tk mo su, tc_X3 ma2 lv si ga sl sc fo, tc_X0 ma3 mb0 mb1 mb2 mb3 mb4 mb5 ln, tc_I G mb0 10 ow, tc_I G mb1 10 gr, tc_I G mb2 10 we, tc_I G mb3 10 du, tc_I G mb4 10 sa, tc_D G mb5 10 le, tc_X2 ma4 md0 md1 md2 md3 pn, tc_F G md0 3 dl, tc_I G md1 3 pl, tc_I G md2 3 dr, tc_I G md3 3 sp, tc_X1 ta0 ta1 ta2 ta3 ta4 j_3 j_4 j_5, tc_X4 ta1 j_6 j_7 j_8, tc_X3 ta2 j_9 j_10 j_11 j_12 j_13 j_14, tc_X0 ta3 tb0 tb1 tb2 tb3 tb4 tb5 j_15, tc_I G tb0 10 j_16, tc_I G tb1 10 j_17, tc_I G tb2 10 j_18, tc_I G tb3 10 j_19, tc_I G tb4 10 j_20, tc_D G tb5 10 j_21, tc_X2 ta4 td0 td1 td2 td3 j_22, tc_F G td0 3 j_23, tc_I G td1 3 j_24, tc_I G td2 3 j_25, tc_I G td3 3 j_26] H := hP
    have hD : va_D A [tc_J G ob 1 (vp_updL oj (0 : Int32).toNatClampNeg r_2.toInt64), tc_X5 a0 ma0 ta0 lk rf pu to, tc_X1 ma0 ma1 ma2 ma3 ma4 fh lh ee, tc_X4 ma1 tk mo su, tc_X3 ma2 lv si ga sl sc fo, tc_X0 ma3 mb0 mb1 mb2 mb3 mb4 mb5 ln, tc_I G mb0 10 ow, tc_I G mb1 10 gr, tc_I G mb2 10 we, tc_I G mb3 10 du, tc_I G mb4 10 sa, tc_D G mb5 10 le, tc_X2 ma4 md0 md1 md2 md3 pn, tc_F G md0 3 dl, tc_I G md1 3 pl, tc_I G md2 3 dr, tc_I G md3 3 sp, tc_X1 ta0 ta1 ta2 ta3 ta4 j_3 j_4 j_5, tc_X4 ta1 j_6 j_7 j_8, tc_X3 ta2 j_9 j_10 j_11 j_12 j_13 j_14, tc_X0 ta3 tb0 tb1 tb2 tb3 tb4 tb5 j_15, tc_I G tb0 10 j_16, tc_I G tb1 10 j_17, tc_I G tb2 10 j_18, tc_I G tb3 10 j_19, tc_I G tb4 10 j_20, tc_D G tb5 10 j_21, tc_X2 ta4 td0 td1 td2 td3 j_22, tc_F G td0 3 j_23, tc_I G td1 3 j_24, tc_I G td2 3 j_25, tc_I G td3 3 j_26] := hD
    refine lv_goto (tgt := 15) hx hb dL_wouldDone_9 (by decide) ?_
    refine lv_iconst (v := 0) hx hb dL_wouldDone_15 (by decide) ?_
    have hP9 := hP.sub (ws' := [tc_X5 a0 ma0 ta0 lk rf pu to, tc_X1 ma0 ma1 ma2 ma3 ma4 fh lh ee, tc_X4 ma1 tk mo su, tc_X3 ma2 lv si ga sl sc fo, tc_X0 ma3 mb0 mb1 mb2 mb3 mb4 mb5 ln, tc_I G mb0 10 ow, tc_I G mb1 10 gr, tc_I G mb2 10 we, tc_I G mb3 10 du, tc_I G mb4 10 sa, tc_D G mb5 10 le, tc_X2 ma4 md0 md1 md2 md3 pn, tc_F G md0 3 dl, tc_I G md1 3 pl, tc_I G md2 3 dr, tc_I G md3 3 sp, tc_X1 ta0 ta1 ta2 ta3 ta4 j_3 j_4 j_5, tc_X4 ta1 j_6 j_7 j_8, tc_X3 ta2 j_9 j_10 j_11 j_12 j_13 j_14, tc_X0 ta3 tb0 tb1 tb2 tb3 tb4 tb5 j_15, tc_I G tb0 10 j_16, tc_I G tb1 10 j_17, tc_I G tb2 10 j_18, tc_I G tb3 10 j_19, tc_I G tb4 10 j_20, tc_D G tb5 10 j_21, tc_X2 ta4 td0 td1 td2 td3 j_22, tc_F G td0 3 j_23, tc_I G td1 3 j_24, tc_I G td2 3 j_25, tc_I G td3 3 j_26, tc_J G ob 1 (vp_updL oj (0 : Int32).toNatClampNeg r_2.toInt64)]) [1, 2, 3, 4, 5, 6, 7, 8, 9, 10, 11, 12, 13, 14, 15, 16, 17, 18, 19, 20, 21, 22, 23, 24, 25, 26, 27, 28, 29, 30, 31, 0] rfl
    have hD9 := hD.sub (ws' := [tc_X5 a0 ma0 ta0 lk rf pu to, tc_X1 ma0 ma1 ma2 ma3 ma4 fh lh ee, tc_X4 ma1 tk mo su, tc_X3 ma2 lv si ga sl sc fo, tc_X0 ma3 mb0 mb1 mb2 mb3 mb4 mb5 ln, tc_I G mb0 10 ow, tc_I G mb1 10 gr, tc_I G mb2 10 we, tc_I G mb3 10 du, tc_I G mb4 10 sa, tc_D G mb5 10 le, tc_X2 ma4 md0 md1 md2 md3 pn, tc_F G md0 3 dl, tc_I G md1 3 pl, tc_I G md2 3 dr, tc_I G md3 3 sp, tc_X1 ta0 ta1 ta2 ta3 ta4 j_3 j_4 j_5, tc_X4 ta1 j_6 j_7 j_8, tc_X3 ta2 j_9 j_10 j_11 j_12 j_13 j_14, tc_X0 ta3 tb0 tb1 tb2 tb3 tb4 tb5 j_15, tc_I G tb0 10 j_16, tc_I G tb1 10 j_17, tc_I G tb2 10 j_18, tc_I G tb3 10 j_19, tc_I G tb4 10 j_20, tc_D G tb5 10 j_21, tc_X2 ta4 td0 td1 td2 td3 j_22, tc_F G td0 3 j_23, tc_I G td1 3 j_24, tc_I G td2 3 j_25, tc_I G td3 3 j_26, tc_J G ob 1 (vp_updL oj (0 : Int32).toNatClampNeg r_2.toInt64)]) [1, 2, 3, 4, 5, 6, 7, 8, 9, 10, 11, 12, 13, 14, 15, 16, 17, 18, 19, 20, 21, 22, 23, 24, 25, 26, 27, 28, 29, 30, 31, 0] (by decide) rfl
    refine W.widen (k := 1) (n := 6) (Nat.le_of_ble_eq_true rfl) (Nat.le_of_ble_eq_true rfl) (vx_ret ?_)
    exact W.iret (v := 0) hx hb hr (fun t ht hW => ⟨⟨0, (vp_updL oj (0 : Int32).toNatClampNeg r_2.toInt64, j_3, j_4, j_5, j_6, j_7, j_8, j_9, j_10, j_11, j_12, j_13, j_14, j_15, j_16, j_17, j_18, j_19, j_20, j_21, j_22, j_23, j_24, j_25, j_26), rfl, by unfold f_L_wouldDone; all_goals (rw [← hw_2]); all_goals (dsimp only); all_goals rfl, by rw [ht]; exact hP9, hD9⟩, hS.F ht⟩) hS.2.2 dL_wouldDone_16
theorem x_X5_best {fh : Int32} {lh : Int32} {ee : Int32} {tk : Int32} {mo : Int32} {su : UInt64} {lv : UInt64} {si : UInt32} {ga : Int32} {sc : Int32} {fo : UInt64} {ln : Int32} {gr : Nat → Int32} {sa : Nat → Int32} {le : Nat → UInt64} {pn : Int32} {dl : Nat → UInt32} {pl : Nat → Int32} {dr : Nat → Int32} {sp : Nat → Int32} {p1 : Int32} {k : Nat} (h : (Sum.inr k : (Int32) ⊕ Nat) = f_X5_best fh lh ee tk mo su lv si ga sc fo ln gr sa le pn dl pl dr sp p1) : k = 0 := by
  unfold f_X5_best at h
  repeat' split at h
  all_goals first | (cases h; done) | (cases h; simp)
def f_L_best (fh : Int32) (lh : Int32) (ee : Int32) (tk : Int32) (mo : Int32) (su : UInt64) (lv : UInt64) (si : UInt32) (ga : Int32) (sc : Int32) (fo : UInt64) (ln : Int32) (gr : Nat → Int32) (sa : Nat → Int32) (le : Nat → UInt64) (pn : Int32) (dl : Nat → UInt32) (pl : Nat → Int32) (dr : Nat → Int32) (sp : Nat → Int32) (oj : Nat → Int64) (p1 : Int32) : Int32 × (Nat → Int64) :=
  (match f_X5_best fh lh ee tk mo su lv si ga sc fo ln gr sa le pn dl pl dr sp p1 with | .inl r_2 => (0, vp_updL oj (0 : Int32).toNatClampNeg r_2.toInt64) | .inr k9 => (1, oj))
def n_L_best (fh : Int32) (lh : Int32) (ee : Int32) (tk : Int32) (mo : Int32) (su : UInt64) (lv : UInt64) (si : UInt32) (ga : Int32) (sc : Int32) (fo : UInt64) (ln : Int32) (gr : Nat → Int32) (sa : Nat → Int32) (le : Nat → UInt64) (pn : Int32) (dl : Nat → UInt32) (pl : Nat → Int32) (dr : Nat → Int32) (sp : Nat → Int32) (p1 : Int32) : Prop :=
  (n_X5_best fh lh ee tk mo su lv si ga sc fo ln gr sa le pn dl pl dr sp p1) ∧
  (∀ (r_2 : Int32), (Sum.inl r_2 : (Int32) ⊕ Nat) = f_X5_best fh lh ee tk mo su lv si ga sc fo ln gr sa le pn dl pl dr sp p1 → vp_in 0 1)
set_option maxHeartbeats 4000000 in
set_option maxRecDepth 100000 in
theorem c_L_best (l : Launch) (G : tm_G) (a0 : Nat) (ma0 : Nat) (ta0 : Nat) (ma1 : Nat) (ma2 : Nat) (ma3 : Nat) (ma4 : Nat) (mb0 : Nat) (mb1 : Nat) (mb2 : Nat) (mb3 : Nat) (mb4 : Nat) (mb5 : Nat) (md0 : Nat) (md1 : Nat) (md2 : Nat) (md3 : Nat) (ta1 : Nat) (ta2 : Nat) (ta3 : Nat) (ta4 : Nat) (tb0 : Nat) (tb1 : Nat) (tb2 : Nat) (tb3 : Nat) (tb4 : Nat) (tb5 : Nat) (td0 : Nat) (td1 : Nat) (td2 : Nat) (td3 : Nat) (ob : Nat) (sz : Nat) (lk : Int32) (rf : Int32) (pu : Int32) (to : UInt64) (fh : Int32) (lh : Int32) (ee : Int32) (tk : Int32) (mo : Int32) (su : UInt64) (lv : UInt64) (si : UInt32) (ga : Int32) (sl : Int32) (sc : Int32) (fo : UInt64) (ln : Int32) (ow : Nat → Int32) (gr : Nat → Int32) (we : Nat → Int32) (du : Nat → Int32) (sa : Nat → Int32) (le : Nat → UInt64) (pn : Int32) (dl : Nat → UInt32) (pl : Nat → Int32) (dr : Nat → Int32) (sp : Nat → Int32) (fh' : Int32) (lh' : Int32) (ee' : Int32) (tk' : Int32) (mo' : Int32) (su' : UInt64) (lv' : UInt64) (si' : UInt32) (ga' : Int32) (sl' : Int32) (sc' : Int32) (fo' : UInt64) (ln' : Int32) (ow' : Nat → Int32) (gr' : Nat → Int32) (we' : Nat → Int32) (du' : Nat → Int32) (sa' : Nat → Int32) (le' : Nat → UInt64) (pn' : Int32) (dl' : Nat → UInt32) (pl' : Nat → Int32) (dr' : Nat → Int32) (sp' : Nat → Int32) (oj : Nat → Int64) (p1 : Int32) (hn : n_L_best fh lh ee tk mo su lv si ga sc fo ln gr sa le pn dl pl dr sp p1) (hlt : l.stackTraces = false) : Met l yL_best wsL_best ({ frames := 10, cells := 1, slots := 6, locals := 239 }) (va_Pc [.ref a0, .int p1, .ref ob] (tm_B G [tc_X5 a0 ma0 ta0 lk rf pu to, tc_X1 ma0 ma1 ma2 ma3 ma4 fh lh ee, tc_X4 ma1 tk mo su, tc_X3 ma2 lv si ga sl sc fo, tc_X0 ma3 mb0 mb1 mb2 mb3 mb4 mb5 ln, tc_I G mb0 10 ow, tc_I G mb1 10 gr, tc_I G mb2 10 we, tc_I G mb3 10 du, tc_I G mb4 10 sa, tc_D G mb5 10 le, tc_X2 ma4 md0 md1 md2 md3 pn, tc_F G md0 3 dl, tc_I G md1 3 pl, tc_I G md2 3 dr, tc_I G md3 3 sp, tc_X1 ta0 ta1 ta2 ta3 ta4 fh' lh' ee', tc_X4 ta1 tk' mo' su', tc_X3 ta2 lv' si' ga' sl' sc' fo', tc_X0 ta3 tb0 tb1 tb2 tb3 tb4 tb5 ln', tc_I G tb0 10 ow', tc_I G tb1 10 gr', tc_I G tb2 10 we', tc_I G tb3 10 du', tc_I G tb4 10 sa', tc_D G tb5 10 le', tc_X2 ta4 td0 td1 td2 td3 pn', tc_F G td0 3 dl', tc_I G td1 3 pl', tc_I G td2 3 dr', tc_I G td3 3 sp', tc_J G ob 1 oj] sz)) (va_Qi (fun (r : Int32) (u : (Nat → Int64) × Int32 × Int32 × Int32 × Int32 × Int32 × UInt64 × UInt64 × UInt32 × Int32 × Int32 × Int32 × UInt64 × Int32 × (Nat → Int32) × (Nat → Int32) × (Nat → Int32) × (Nat → Int32) × (Nat → Int32) × (Nat → UInt64) × Int32 × (Nat → UInt32) × (Nat → Int32) × (Nat → Int32) × (Nat → Int32)) => (r, u.1) = f_L_best fh lh ee tk mo su lv si ga sc fo ln gr sa le pn dl pl dr sp oj p1) (fun (u : (Nat → Int64) × Int32 × Int32 × Int32 × Int32 × Int32 × UInt64 × UInt64 × UInt32 × Int32 × Int32 × Int32 × UInt64 × Int32 × (Nat → Int32) × (Nat → Int32) × (Nat → Int32) × (Nat → Int32) × (Nat → Int32) × (Nat → UInt64) × Int32 × (Nat → UInt32) × (Nat → Int32) × (Nat → Int32) × (Nat → Int32)) (t : State) => va_P G.1 vwCl [tc_X5 a0 ma0 ta0 lk rf pu to, tc_X1 ma0 ma1 ma2 ma3 ma4 fh lh ee, tc_X4 ma1 tk mo su, tc_X3 ma2 lv si ga sl sc fo, tc_X0 ma3 mb0 mb1 mb2 mb3 mb4 mb5 ln, tc_I G mb0 10 ow, tc_I G mb1 10 gr, tc_I G mb2 10 we, tc_I G mb3 10 du, tc_I G mb4 10 sa, tc_D G mb5 10 le, tc_X2 ma4 md0 md1 md2 md3 pn, tc_F G md0 3 dl, tc_I G md1 3 pl, tc_I G md2 3 dr, tc_I G md3 3 sp, tc_X1 ta0 ta1 ta2 ta3 ta4 u.2.1 u.2.2.1 u.2.2.2.1, tc_X4 ta1 u.2.2.2.2.1 u.2.2.2.2.2.1 u.2.2.2.2.2.2.1, tc_X3 ta2 u.2.2.2.2.2.2.2.1 u.2.2.2.2.2.2.2.2.1 u.2.2.2.2.2.2.2.2.2.1 u.2.2.2.2.2.2.2.2.2.2.1 u.2.2.2.2.2.2.2.2.2.2.2.1 u.2.2.2.2.2.2.2.2.2.2.2.2.1, tc_X0 ta3 tb0 tb1 tb2 tb3 tb4 tb5 u.2.2.2.2.2.2.2.2.2.2.2.2.2.1, tc_I G tb0 10 u.2.2.2.2.2.2.2.2.2.2.2.2.2.2.1, tc_I G tb1 10 u.2.2.2.2.2.2.2.2.2.2.2.2.2.2.2.1, tc_I G tb2 10 u.2.2.2.2.2.2.2.2.2.2.2.2.2.2.2.2.1, tc_I G tb3 10 u.2.2.2.2.2.2.2.2.2.2.2.2.2.2.2.2.2.1, tc_I G tb4 10 u.2.2.2.2.2.2.2.2.2.2.2.2.2.2.2.2.2.2.1, tc_D G tb5 10 u.2.2.2.2.2.2.2.2.2.2.2.2.2.2.2.2.2.2.2.1, tc_X2 ta4 td0 td1 td2 td3 u.2.2.2.2.2.2.2.2.2.2.2.2.2.2.2.2.2.2.2.2.1, tc_F G td0 3 u.2.2.2.2.2.2.2.2.2.2.2.2.2.2.2.2.2.2.2.2.2.1, tc_I G td1 3 u.2.2.2.2.2.2.2.2.2.2.2.2.2.2.2.2.2.2.2.2.2.2.1, tc_I G td2 3 u.2.2.2.2.2.2.2.2.2.2.2.2.2.2.2.2.2.2.2.2.2.2.2.1, tc_I G td3 3 u.2.2.2.2.2.2.2.2.2.2.2.2.2.2.2.2.2.2.2.2.2.2.2.2, tc_J G ob 1 u.1] t.heap ∧ va_D (va_A [tc_X5 a0 ma0 ta0 lk rf pu to, tc_X1 ma0 ma1 ma2 ma3 ma4 fh lh ee, tc_X4 ma1 tk mo su, tc_X3 ma2 lv si ga sl sc fo, tc_X0 ma3 mb0 mb1 mb2 mb3 mb4 mb5 ln, tc_I G mb0 10 ow, tc_I G mb1 10 gr, tc_I G mb2 10 we, tc_I G mb3 10 du, tc_I G mb4 10 sa, tc_D G mb5 10 le, tc_X2 ma4 md0 md1 md2 md3 pn, tc_F G md0 3 dl, tc_I G md1 3 pl, tc_I G md2 3 dr, tc_I G md3 3 sp, tc_X1 ta0 ta1 ta2 ta3 ta4 fh' lh' ee', tc_X4 ta1 tk' mo' su', tc_X3 ta2 lv' si' ga' sl' sc' fo', tc_X0 ta3 tb0 tb1 tb2 tb3 tb4 tb5 ln', tc_I G tb0 10 ow', tc_I G tb1 10 gr', tc_I G tb2 10 we', tc_I G tb3 10 du', tc_I G tb4 10 sa', tc_D G tb5 10 le', tc_X2 ta4 td0 td1 td2 td3 pn', tc_F G td0 3 dl', tc_I G td1 3 pl', tc_I G td2 3 dr', tc_I G td3 3 sp', tc_J G ob 1 oj] sz) [tc_X5 a0 ma0 ta0 lk rf pu to, tc_X1 ma0 ma1 ma2 ma3 ma4 fh lh ee, tc_X4 ma1 tk mo su, tc_X3 ma2 lv si ga sl sc fo, tc_X0 ma3 mb0 mb1 mb2 mb3 mb4 mb5 ln, tc_I G mb0 10 ow, tc_I G mb1 10 gr, tc_I G mb2 10 we, tc_I G mb3 10 du, tc_I G mb4 10 sa, tc_D G mb5 10 le, tc_X2 ma4 md0 md1 md2 md3 pn, tc_F G md0 3 dl, tc_I G md1 3 pl, tc_I G md2 3 dr, tc_I G md3 3 sp, tc_X1 ta0 ta1 ta2 ta3 ta4 u.2.1 u.2.2.1 u.2.2.2.1, tc_X4 ta1 u.2.2.2.2.1 u.2.2.2.2.2.1 u.2.2.2.2.2.2.1, tc_X3 ta2 u.2.2.2.2.2.2.2.1 u.2.2.2.2.2.2.2.2.1 u.2.2.2.2.2.2.2.2.2.1 u.2.2.2.2.2.2.2.2.2.2.1 u.2.2.2.2.2.2.2.2.2.2.2.1 u.2.2.2.2.2.2.2.2.2.2.2.2.1, tc_X0 ta3 tb0 tb1 tb2 tb3 tb4 tb5 u.2.2.2.2.2.2.2.2.2.2.2.2.2.1, tc_I G tb0 10 u.2.2.2.2.2.2.2.2.2.2.2.2.2.2.1, tc_I G tb1 10 u.2.2.2.2.2.2.2.2.2.2.2.2.2.2.2.1, tc_I G tb2 10 u.2.2.2.2.2.2.2.2.2.2.2.2.2.2.2.2.1, tc_I G tb3 10 u.2.2.2.2.2.2.2.2.2.2.2.2.2.2.2.2.2.1, tc_I G tb4 10 u.2.2.2.2.2.2.2.2.2.2.2.2.2.2.2.2.2.2.1, tc_D G tb5 10 u.2.2.2.2.2.2.2.2.2.2.2.2.2.2.2.2.2.2.2.1, tc_X2 ta4 td0 td1 td2 td3 u.2.2.2.2.2.2.2.2.2.2.2.2.2.2.2.2.2.2.2.2.1, tc_F G td0 3 u.2.2.2.2.2.2.2.2.2.2.2.2.2.2.2.2.2.2.2.2.2.1, tc_I G td1 3 u.2.2.2.2.2.2.2.2.2.2.2.2.2.2.2.2.2.2.2.2.2.2.1, tc_I G td2 3 u.2.2.2.2.2.2.2.2.2.2.2.2.2.2.2.2.2.2.2.2.2.2.2.1, tc_I G td3 3 u.2.2.2.2.2.2.2.2.2.2.2.2.2.2.2.2.2.2.2.2.2.2.2.2, tc_J G ob 1 u.1]) (va_A [tc_X5 a0 ma0 ta0 lk rf pu to, tc_X1 ma0 ma1 ma2 ma3 ma4 fh lh ee, tc_X4 ma1 tk mo su, tc_X3 ma2 lv si ga sl sc fo, tc_X0 ma3 mb0 mb1 mb2 mb3 mb4 mb5 ln, tc_I G mb0 10 ow, tc_I G mb1 10 gr, tc_I G mb2 10 we, tc_I G mb3 10 du, tc_I G mb4 10 sa, tc_D G mb5 10 le, tc_X2 ma4 md0 md1 md2 md3 pn, tc_F G md0 3 dl, tc_I G md1 3 pl, tc_I G md2 3 dr, tc_I G md3 3 sp, tc_X1 ta0 ta1 ta2 ta3 ta4 fh' lh' ee', tc_X4 ta1 tk' mo' su', tc_X3 ta2 lv' si' ga' sl' sc' fo', tc_X0 ta3 tb0 tb1 tb2 tb3 tb4 tb5 ln', tc_I G tb0 10 ow', tc_I G tb1 10 gr', tc_I G tb2 10 we', tc_I G tb3 10 du', tc_I G tb4 10 sa', tc_D G tb5 10 le', tc_X2 ta4 td0 td1 td2 td3 pn', tc_F G td0 3 dl', tc_I G td1 3 pl', tc_I G td2 3 dr', tc_I G td3 3 sp', tc_J G ob 1 oj] sz)) 1 6 (va_A [tc_X5 a0 ma0 ta0 lk rf pu to, tc_X1 ma0 ma1 ma2 ma3 ma4 fh lh ee, tc_X4 ma1 tk mo su, tc_X3 ma2 lv si ga sl sc fo, tc_X0 ma3 mb0 mb1 mb2 mb3 mb4 mb5 ln, tc_I G mb0 10 ow, tc_I G mb1 10 gr, tc_I G mb2 10 we, tc_I G mb3 10 du, tc_I G mb4 10 sa, tc_D G mb5 10 le, tc_X2 ma4 md0 md1 md2 md3 pn, tc_F G md0 3 dl, tc_I G md1 3 pl, tc_I G md2 3 dr, tc_I G md3 3 sp, tc_X1 ta0 ta1 ta2 ta3 ta4 fh' lh' ee', tc_X4 ta1 tk' mo' su', tc_X3 ta2 lv' si' ga' sl' sc' fo', tc_X0 ta3 tb0 tb1 tb2 tb3 tb4 tb5 ln', tc_I G tb0 10 ow', tc_I G tb1 10 gr', tc_I G tb2 10 we', tc_I G tb3 10 du', tc_I G tb4 10 sa', tc_D G tb5 10 le', tc_X2 ta4 td0 td1 td2 td3 pn', tc_F G td0 3 dl', tc_I G td1 3 pl', tc_I G td2 3 dr', tc_I G td3 3 sp', tc_J G ob 1 oj] sz) := by
  refine tm_metOf ?_
  refine vx_ofWH (cc := cL_best) (maxL := 4) (ret := (some .int)) (hh :=  [(0, 9, 12, 13)]) (by decide) rfl ?_
  intro p e s m args below meth c s₁ B hml hv
  obtain ⟨rfl, hsz, hP, hK, hD0, hN, hV⟩ := hv
  have hx := B.exec
  have hb := B.bytes
  have hr := B.returns
  have hts := atoms_spec (ws := wsL_best) B.pre
  have htab : c.exceptionTable.toList = tableOf  [(0, 9, 12, 13)] := vx_table (x := yL_best) B (atoms_spec (ws := wsL_best) B.pre _ (List.mem_of_getElem? (i := 0) rfl))
  have hown : s.vm.findClass RL = some m.cls := findClass_of_methodNamed B.named
  have hlocks := B.notSynchronized
  subst hsz
  obtain ⟨n_1, n_27⟩ := hn
  have hD := hD0.self (sz := s.heap.size)
  generalize hAe : va_A [tc_X5 a0 ma0 ta0 lk rf pu to, tc_X1 ma0 ma1 ma2 ma3 ma4 fh lh ee, tc_X4 ma1 tk mo su, tc_X3 ma2 lv si ga sl sc fo, tc_X0 ma3 mb0 mb1 mb2 mb3 mb4 mb5 ln, tc_I G mb0 10 ow, tc_I G mb1 10 gr, tc_I G mb2 10 we, tc_I G mb3 10 du, tc_I G mb4 10 sa, tc_D G mb5 10 le, tc_X2 ma4 md0 md1 md2 md3 pn, tc_F G md0 3 dl, tc_I G md1 3 pl, tc_I G md2 3 dr, tc_I G md3 3 sp, tc_X1 ta0 ta1 ta2 ta3 ta4 fh' lh' ee', tc_X4 ta1 tk' mo' su', tc_X3 ta2 lv' si' ga' sl' sc' fo', tc_X0 ta3 tb0 tb1 tb2 tb3 tb4 tb5 ln', tc_I G tb0 10 ow', tc_I G tb1 10 gr', tc_I G tb2 10 we', tc_I G tb3 10 du', tc_I G tb4 10 sa', tc_D G tb5 10 le', tc_X2 ta4 td0 td1 td2 td3 pn', tc_F G td0 3 dl', tc_I G td1 3 pl', tc_I G td2 3 dr', tc_I G td3 3 sp', tc_J G ob 1 oj] s.heap.size = A at hD hV ⊢
  have hA : ∀ q : Nat, s.heap.size ≤ q → A q := fun q h => by rw [← hAe]; exact Or.inr h
  have hS : va_S A s.heap s.heap [] := va_S.rf
  have hl := lv_entry ([.ref a0, .int p1, .ref ob]) (n := 4) (Nat.le_of_ble_eq_true rfl)
  rw [lg_entry_eq]
  generalize (lg_sl ([.ref a0, .int p1, .ref ob]) ++ List.replicate (4 - (lg_sl ([.ref a0, .int p1, .ref ob])).length) Slot.unset).toArray = ls at hl ⊢
  have hl : lv_has ls 4 [(0, .ref a0), (1, .int p1), (2, .ref ob)] := hl
  refine lv_aload_n hx hb dL_best_0 rfl (lv_at hl 2 rfl) ?_
  refine lv_iconst (v := 0) hx hb dL_best_1 (by decide) ?_
  refine lv_aload_n hx hb dL_best_2 rfl (lv_at hl 0 rfl) ?_
  refine lv_iload_n hx hb dL_best_3 rfl (lv_at hl 1 rfl) ?_
  have hPc := hP.sub (ws' := [tc_X5 a0 ma0 ta0 lk rf pu to, tc_X1 ma0 ma1 ma2 ma3 ma4 fh lh ee, tc_X4 ma1 tk mo su, tc_X3 ma2 lv si ga sl sc fo, tc_X0 ma3 mb0 mb1 mb2 mb3 mb4 mb5 ln, tc_I G mb0 10 ow, tc_I G mb1 10 gr, tc_I G mb2 10 we, tc_I G mb3 10 du, tc_I G mb4 10 sa, tc_D G mb5 10 le, tc_X2 ma4 md0 md1 md2 md3 pn, tc_F G md0 3 dl, tc_I G md1 3 pl, tc_I G md2 3 dr, tc_I G md3 3 sp, tc_X1 ta0 ta1 ta2 ta3 ta4 fh' lh' ee', tc_X4 ta1 tk' mo' su', tc_X3 ta2 lv' si' ga' sl' sc' fo', tc_X0 ta3 tb0 tb1 tb2 tb3 tb4 tb5 ln', tc_I G tb0 10 ow', tc_I G tb1 10 gr', tc_I G tb2 10 we', tc_I G tb3 10 du', tc_I G tb4 10 sa', tc_D G tb5 10 le', tc_X2 ta4 td0 td1 td2 td3 pn', tc_F G td0 3 dl', tc_I G td1 3 pl', tc_I G td2 3 dr', tc_I G td3 3 sp']) [0, 1, 2, 3, 4, 5, 6, 7, 8, 9, 10, 11, 12, 13, 14, 15, 16, 17, 18, 19, 20, 21, 22, 23, 24, 25, 26, 27, 28, 29, 30] rfl
  have hDc := hD.sub (ws' := [tc_X5 a0 ma0 ta0 lk rf pu to, tc_X1 ma0 ma1 ma2 ma3 ma4 fh lh ee, tc_X4 ma1 tk mo su, tc_X3 ma2 lv si ga sl sc fo, tc_X0 ma3 mb0 mb1 mb2 mb3 mb4 mb5 ln, tc_I G mb0 10 ow, tc_I G mb1 10 gr, tc_I G mb2 10 we, tc_I G mb3 10 du, tc_I G mb4 10 sa, tc_D G mb5 10 le, tc_X2 ma4 md0 md1 md2 md3 pn, tc_F G md0 3 dl, tc_I G md1 3 pl, tc_I G md2 3 dr, tc_I G md3 3 sp, tc_X1 ta0 ta1 ta2 ta3 ta4 fh' lh' ee', tc_X4 ta1 tk' mo' su', tc_X3 ta2 lv' si' ga' sl' sc' fo', tc_X0 ta3 tb0 tb1 tb2 tb3 tb4 tb5 ln', tc_I G tb0 10 ow', tc_I G tb1 10 gr', tc_I G tb2 10 we', tc_I G tb3 10 du', tc_I G tb4 10 sa', tc_D G tb5 10 le', tc_X2 ta4 td0 td1 td2 td3 pn', tc_F G td0 3 dl', tc_I G td1 3 pl', tc_I G td2 3 dr', tc_I G td3 3 sp']) [0, 1, 2, 3, 4, 5, 6, 7, 8, 9, 10, 11, 12, 13, 14, 15, 16, 17, 18, 19, 20, 21, 22, 23, 24, 25, 26, 27, 28, 29, 30] (by decide) rfl
  have hFc := va_free (wc := [tc_X5 a0 ma0 ta0 lk rf pu to, tc_X1 ma0 ma1 ma2 ma3 ma4 fh lh ee, tc_X4 ma1 tk mo su, tc_X3 ma2 lv si ga sl sc fo, tc_X0 ma3 mb0 mb1 mb2 mb3 mb4 mb5 ln, tc_I G mb0 10 ow, tc_I G mb1 10 gr, tc_I G mb2 10 we, tc_I G mb3 10 du, tc_I G mb4 10 sa, tc_D G mb5 10 le, tc_X2 ma4 md0 md1 md2 md3 pn, tc_F G md0 3 dl, tc_I G md1 3 pl, tc_I G md2 3 dr, tc_I G md3 3 sp, tc_X1 ta0 ta1 ta2 ta3 ta4 fh' lh' ee', tc_X4 ta1 tk' mo' su', tc_X3 ta2 lv' si' ga' sl' sc' fo', tc_X0 ta3 tb0 tb1 tb2 tb3 tb4 tb5 ln', tc_I G tb0 10 ow', tc_I G tb1 10 gr', tc_I G tb2 10 we', tc_I G tb3 10 du', tc_I G tb4 10 sa', tc_D G tb5 10 le', tc_X2 ta4 td0 td1 td2 td3 pn', tc_F G td0 3 dl', tc_I G td1 3 pl', tc_I G td2 3 dr', tc_I G td3 3 sp']) hD hS hA [0, 1, 2, 3, 4, 5, 6, 7, 8, 9, 10, 11, 12, 13, 14, 15, 16, 17, 18, 19, 20, 21, 22, 23, 24, 25, 26, 27, 28, 29, 30] rfl
  refine vx_calli (vx_runV (As := [.int p1]) (rest := [.int 0, .ref ob]) ⟨hx, hb, hml, hown, hts⟩ (c_X5_best l G a0 ma0 ta0 ma1 ma2 ma3 ma4 mb0 mb1 mb2 mb3 mb4 mb5 md0 md1 md2 md3 ta1 ta2 ta3 ta4 tb0 tb1 tb2 tb3 tb4 tb5 td0 td1 td2 td3 s.heap.size lk rf pu to fh lh ee tk mo su lv si ga sl sc fo ln ow gr we du sa le pn dl pl dr sp fh' lh' ee' tk' mo' su' lv' si' ga' sl' sc' fo' ln' ow' gr' we' du' sa' le' pn' dl' pl' dr' sp' p1 n_1 hlt) (cwV 1 hts gL_best_X5_best rfl rfl rfl (by decide +kernel) ⟨(Nat.le_of_ble_eq_true rfl), (Nat.le_of_ble_eq_true rfl)⟩) (tm_preV hK hN hV hS hPc hDc hFc (va_recv hK hPc (ci := 6) (q0 := 0) rfl rfl)) rfl rfl hl.1 rfl (lv_room (Nat.le_of_ble_eq_true rfl)) dL_best_4 ⟨(Nat.le_of_ble_eq_true rfl), (Nat.le_of_ble_eq_true rfl)⟩) hS (fun q _ h => hFc q h) hFc (fun q _ h => hFc q h) (fun E9 ce9 q9 k9 st9 H locs ht hvm hw_2 hB hz1 hk1 hS hce hcv hcl => ?_) (fun r_2 u st9 H locs ht hvm hw_2 hB hz1 hk1 hS => ?_)
  · obtain ⟨rfl, hP1, hD1⟩ := hB
    rw [ht] at hP1
    obtain ⟨hP, hD⟩ := va_join (wr := [tc_J G ob 1 oj]) (w1 := [tc_X5 a0 ma0 ta0 lk rf pu to, tc_X1 ma0 ma1 ma2 ma3 ma4 fh lh ee, tc_X4 ma1 tk mo su, tc_X3 ma2 lv si ga sl sc fo, tc_X0 ma3 mb0 mb1 mb2 mb3 mb4 mb5 ln, tc_I G mb0 10 ow, tc_I G mb1 10 gr, tc_I G mb2 10 we, tc_I G mb3 10 du, tc_I G mb4 10 sa, tc_D G mb5 10 le, tc_X2 ma4 md0 md1 md2 md3 pn, tc_F G md0 3 dl, tc_I G md1 3 pl, tc_I G md2 3 dr, tc_I G md3 3 sp, tc_X1 ta0 ta1 ta2 ta3 ta4 fh' lh' ee', tc_X4 ta1 tk' mo' su', tc_X3 ta2 lv' si' ga' sl' sc' fo', tc_X0 ta3 tb0 tb1 tb2 tb3 tb4 tb5 ln', tc_I G tb0 10 ow', tc_I G tb1 10 gr', tc_I G tb2 10 we', tc_I G tb3 10 du', tc_I G tb4 10 sa', tc_D G tb5 10 le', tc_X2 ta4 td0 td1 td2 td3 pn', tc_F G td0 3 dl', tc_I G td1 3 pl', tc_I G td2 3 dr', tc_I G td3 3 sp']) hP hD [0, 1, 2, 3, 4, 5, 6, 7, 8, 9, 10, 11, 12, 13, 14, 15, 16, 17, 18, 19, 20, 21, 22, 23, 24, 25, 26, 27, 28, 29, 30] [31] rfl rfl (by decide) (by decide) hk1 hFc hP1 hD1
    have hP : va_P G.1 vwCl [tc_J G ob 1 oj, tc_X5 a0 ma0 ta0 lk rf pu to, tc_X1 ma0 ma1 ma2 ma3 ma4 fh lh ee, tc_X4 ma1 tk mo su, tc_X3 ma2 lv si ga sl sc fo, tc_X0 ma3 mb0 mb1 mb2 mb3 mb4 mb5 ln, tc_I G mb0 10 ow, tc_I G mb1 10 gr, tc_I G mb2 10 we, tc_I G mb3 10 du, tc_I G mb4 10 sa, tc_D G mb5 10 le, tc_X2 ma4 md0 md1 md2 md3 pn, tc_F G md0 3 dl, tc_I G md1 3 pl, tc_I G md2 3 dr, tc_I G md3 3 sp, tc_X1 ta0 ta1 ta2 ta3 ta4 fh' lh' ee', tc_X4 ta1 tk' mo' su', tc_X3 ta2 lv' si' ga' sl' sc' fo', tc_X0 ta3 tb0 tb1 tb2 tb3 tb4 tb5 ln', tc_I G tb0 10 ow', tc_I G tb1 10 gr', tc_I G tb2 10 we', tc_I G tb3 10 du', tc_I G tb4 10 sa', tc_D G tb5 10 le', tc_X2 ta4 td0 td1 td2 td3 pn', tc_F G td0 3 dl', tc_I G td1 3 pl', tc_I G td2 3 dr', tc_I G td3 3 sp'] H := hP
    have hD : va_D A [tc_J G ob 1 oj, tc_X5 a0 ma0 ta0 lk rf pu to, tc_X1 ma0 ma1 ma2 ma3 ma4 fh lh ee, tc_X4 ma1 tk mo su, tc_X3 ma2 lv si ga sl sc fo, tc_X0 ma3 mb0 mb1 mb2 mb3 mb4 mb5 ln, tc_I G mb0 10 ow, tc_I G mb1 10 gr, tc_I G mb2 10 we, tc_I G mb3 10 du, tc_I G mb4 10 sa, tc_D G mb5 10 le, tc_X2 ma4 md0 md1 md2 md3 pn, tc_F G md0 3 dl, tc_I G md1 3 pl, tc_I G md2 3 dr, tc_I G md3 3 sp, tc_X1 ta0 ta1 ta2 ta3 ta4 fh' lh' ee', tc_X4 ta1 tk' mo' su', tc_X3 ta2 lv' si' ga' sl' sc' fo', tc_X0 ta3 tb0 tb1 tb2 tb3 tb4 tb5 ln', tc_I G tb0 10 ow', tc_I G tb1 10 gr', tc_I G tb2 10 we', tc_I G tb3 10 du', tc_I G tb4 10 sa', tc_D G tb5 10 le', tc_X2 ta4 td0 td1 td2 td3 pn', tc_F G td0 3 dl', tc_I G td1 3 pl', tc_I G td2 3 dr', tc_I G td3 3 sp'] := hD
    obtain rfl := x_X5_best hw_2
    · refine vx_catch (name := "java/lang/IllegalArgumentException") (E := "java/lang/IllegalArgumentException") hown [] { startPc := 0, endPc := 9, handlerPc := 12, catchType := 13 } [] (by rw [htab]; rfl) (fun z hz => absurd hz List.not_mem_nil) (by decide) (by decide) (hts (.classLink RL 13 "java/lang/IllegalArgumentException") (List.mem_of_getElem? (i := 1) rfl)) (va_Nw.use rfl (hN.2.1 ("java/lang/IllegalArgumentException", "java/lang/IllegalArgumentException") (List.mem_of_getElem? (i := 0) rfl))) hce hcv hcl ?_
      show W p l e _ s m _ below meth c H locs 1 6 _ (F0 m 12 ls [.ref q9])
      refine lv_astore_n (lv' := [(3, .ref q9), (0, .ref a0), (1, .int p1), (2, .ref ob)]) hx hb dL_best_12 rfl hl (by decide) rfl (fun ls hl => ?_)
      refine lv_iconst (v := 1) hx hb dL_best_13 (by decide) ?_
      have hP9 := hP.sub (ws' := [tc_X5 a0 ma0 ta0 lk rf pu to, tc_X1 ma0 ma1 ma2 ma3 ma4 fh lh ee, tc_X4 ma1 tk mo su, tc_X3 ma2 lv si ga sl sc fo, tc_X0 ma3 mb0 mb1 mb2 mb3 mb4 mb5 ln, tc_I G mb0 10 ow, tc_I G mb1 10 gr, tc_I G mb2 10 we, tc_I G mb3 10 du, tc_I G mb4 10 sa, tc_D G mb5 10 le, tc_X2 ma4 md0 md1 md2 md3 pn, tc_F G md0 3 dl, tc_I G md1 3 pl, tc_I G md2 3 dr, tc_I G md3 3 sp, tc_X1 ta0 ta1 ta2 ta3 ta4 fh' lh' ee', tc_X4 ta1 tk' mo' su', tc_X3 ta2 lv' si' ga' sl' sc' fo', tc_X0 ta3 tb0 tb1 tb2 tb3 tb4 tb5 ln', tc_I G tb0 10 ow', tc_I G tb1 10 gr', tc_I G tb2 10 we', tc_I G tb3 10 du', tc_I G tb4 10 sa', tc_D G tb5 10 le', tc_X2 ta4 td0 td1 td2 td3 pn', tc_F G td0 3 dl', tc_I G td1 3 pl', tc_I G td2 3 dr', tc_I G td3 3 sp', tc_J G ob 1 oj]) [1, 2, 3, 4, 5, 6, 7, 8, 9, 10, 11, 12, 13, 14, 15, 16, 17, 18, 19, 20, 21, 22, 23, 24, 25, 26, 27, 28, 29, 30, 31, 0] rfl
      have hD9 := hD.sub (ws' := [tc_X5 a0 ma0 ta0 lk rf pu to, tc_X1 ma0 ma1 ma2 ma3 ma4 fh lh ee, tc_X4 ma1 tk mo su, tc_X3 ma2 lv si ga sl sc fo, tc_X0 ma3 mb0 mb1 mb2 mb3 mb4 mb5 ln, tc_I G mb0 10 ow, tc_I G mb1 10 gr, tc_I G mb2 10 we, tc_I G mb3 10 du, tc_I G mb4 10 sa, tc_D G mb5 10 le, tc_X2 ma4 md0 md1 md2 md3 pn, tc_F G md0 3 dl, tc_I G md1 3 pl, tc_I G md2 3 dr, tc_I G md3 3 sp, tc_X1 ta0 ta1 ta2 ta3 ta4 fh' lh' ee', tc_X4 ta1 tk' mo' su', tc_X3 ta2 lv' si' ga' sl' sc' fo', tc_X0 ta3 tb0 tb1 tb2 tb3 tb4 tb5 ln', tc_I G tb0 10 ow', tc_I G tb1 10 gr', tc_I G tb2 10 we', tc_I G tb3 10 du', tc_I G tb4 10 sa', tc_D G tb5 10 le', tc_X2 ta4 td0 td1 td2 td3 pn', tc_F G td0 3 dl', tc_I G td1 3 pl', tc_I G td2 3 dr', tc_I G td3 3 sp', tc_J G ob 1 oj]) [1, 2, 3, 4, 5, 6, 7, 8, 9, 10, 11, 12, 13, 14, 15, 16, 17, 18, 19, 20, 21, 22, 23, 24, 25, 26, 27, 28, 29, 30, 31, 0] (by decide) rfl
      refine W.widen (k := 1) (n := 6) (Nat.le_of_ble_eq_true rfl) (Nat.le_of_ble_eq_true rfl) (vx_ret ?_)
      exact W.iret (v := 1) hx hb hr (fun t ht hW => ⟨⟨1, (oj, fh', lh', ee', tk', mo', su', lv', si', ga', sl', sc', fo', ln', ow', gr', we', du', sa', le', pn', dl', pl', dr', sp'), rfl, by unfold f_L_best; all_goals (rw [← hw_2]); all_goals (dsimp only); all_goals rfl, by rw [ht]; exact hP9, hD9⟩, hS.F ht⟩) hS.2.2 dL_best_14
  · obtain ⟨j_3, j_4, j_5, j_6, j_7, j_8, j_9, j_10, j_11, j_12, j_13, j_14, j_15, j_16, j_17, j_18, j_19, j_20, j_21, j_22, j_23, j_24, j_25, j_26⟩ := u
    obtain ⟨hP1, hD1⟩ := hB
    rw [ht] at hP1
    try dsimp only at hw_2
    obtain ⟨hP, hD⟩ := va_join (wr := [tc_J G ob 1 oj]) (w1 := [tc_X5 a0 ma0 ta0 lk rf pu to, tc_X1 ma0 ma1 ma2 ma3 ma4 fh lh ee, tc_X4 ma1 tk mo su, tc_X3 ma2 lv si ga sl sc fo, tc_X0 ma3 mb0 mb1 mb2 mb3 mb4 mb5 ln, tc_I G mb0 10 ow, tc_I G mb1 10 gr, tc_I G mb2 10 we, tc_I G mb3 10 du, tc_I G mb4 10 sa, tc_D G mb5 10 le, tc_X2 ma4 md0 md1 md2 md3 pn, tc_F G md0 3 dl, tc_I G md1 3 pl, tc_I G md2 3 dr, tc_I G md3 3 sp, tc_X1 ta0 ta1 ta2 ta3 ta4 j_3 j_4 j_5, tc_X4 ta1 j_6 j_7 j_8, tc_X3 ta2 j_9 j_10 j_11 j_12 j_13 j_14, tc_X0 ta3 tb0 tb1 tb2 tb3 tb4 tb5 j_15, tc_I G tb0 10 j_16, tc_I G tb1 10 j_17, tc_I G tb2 10 j_18, tc_I G tb3 10 j_19, tc_I G tb4 10 j_20, tc_D G tb5 10 j_21, tc_X2 ta4 td0 td1 td2 td3 j_22, tc_F G td0 3 j_23, tc_I G td1 3 j_24, tc_I G td2 3 j_25, tc_I G td3 3 j_26]) hP hD [0, 1, 2, 3, 4, 5, 6, 7, 8, 9, 10, 11, 12, 13, 14, 15, 16, 17, 18, 19, 20, 21, 22, 23, 24, 25, 26, 27, 28, 29, 30] [31] rfl rfl (by decide) (by decide) hk1 hFc hP1 hD1
    have hP : va_P G.1 vwCl [tc_J G ob 1 oj, tc_X5 a0 ma0 ta0 lk rf pu to, tc_X1 ma0 ma1 ma2 ma3 ma4 fh lh ee, tc_X4 ma1 tk mo su, tc_X3 ma2 lv si ga sl sc fo, tc_X0 ma3 mb0 mb1 mb2 mb3 mb4 mb5 ln, tc_I G mb0 10 ow, tc_I G mb1 10 gr, tc_I G mb2 10 we, tc_I G mb3 10 du, tc_I G mb4 10 sa, tc_D G mb5 10 le, tc_X2 ma4 md0 md1 md2 md3 pn, tc_F G md0 3 dl, tc_I G md1 3 pl, tc_I G md2 3 dr, tc_I G md3 3 sp, tc_X1 ta0 ta1 ta2 ta3 ta4 j_3 j_4 j_5, tc_X4 ta1 j_6 j_7 j_8, tc_X3 ta2 j_9 j_10 j_11 j_12 j_13 j_14, tc_X0 ta3 tb0 tb1 tb2 tb3 tb4 tb5 j_15, tc_I G tb0 10 j_16, tc_I G tb1 10 j_17, tc_I G tb2 10 j_18, tc_I G tb3 10 j_19, tc_I G tb4 10 j_20, tc_D G tb5 10 j_21, tc_X2 ta4 td0 td1 td2 td3 j_22, tc_F G td0 3 j_23, tc_I G td1 3 j_24, tc_I G td2 3 j_25, tc_I G td3 3 j_26] H := hP
    have hD : va_D A [tc_J G ob 1 oj, tc_X5 a0 ma0 ta0 lk rf pu to, tc_X1 ma0 ma1 ma2 ma3 ma4 fh lh ee, tc_X4 ma1 tk mo su, tc_X3 ma2 lv si ga sl sc fo, tc_X0 ma3 mb0 mb1 mb2 mb3 mb4 mb5 ln, tc_I G mb0 10 ow, tc_I G mb1 10 gr, tc_I G mb2 10 we, tc_I G mb3 10 du, tc_I G mb4 10 sa, tc_D G mb5 10 le, tc_X2 ma4 md0 md1 md2 md3 pn, tc_F G md0 3 dl, tc_I G md1 3 pl, tc_I G md2 3 dr, tc_I G md3 3 sp, tc_X1 ta0 ta1 ta2 ta3 ta4 j_3 j_4 j_5, tc_X4 ta1 j_6 j_7 j_8, tc_X3 ta2 j_9 j_10 j_11 j_12 j_13 j_14, tc_X0 ta3 tb0 tb1 tb2 tb3 tb4 tb5 j_15, tc_I G tb0 10 j_16, tc_I G tb1 10 j_17, tc_I G tb2 10 j_18, tc_I G tb3 10 j_19, tc_I G tb4 10 j_20, tc_D G tb5 10 j_21, tc_X2 ta4 td0 td1 td2 td3 j_22, tc_F G td0 3 j_23, tc_I G td1 3 j_24, tc_I G td2 3 j_25, tc_I G td3 3 j_26] := hD
    refine W.widen (k := 1) (n := 6) (Nat.le_of_ble_eq_true rfl) (Nat.le_of_ble_eq_true rfl) ?_
    refine lv_i2l (v := r_2.toInt64) hx hb dL_best_7 rfl ?_
    refine va_last (n := 1) (f := oj) hx hb hK hP hD hS 0 5 rfl rfl (n_27 r_2 hw_2) dL_best_8 (fun H locs hP hD hS => ?_)
    have hP : va_P G.1 vwCl [tc_J G ob 1 (vp_updL oj (0 : Int32).toNatClampNeg r_2.toInt64), tc_X5 a0 ma0 ta0 lk rf pu to, tc_X1 ma0 ma1 ma2 ma3 ma4 fh lh ee, tc_X4 ma1 tk mo su, tc_X3 ma2 lv si ga sl sc fo, tc_X0 ma3 mb0 mb1 mb2 mb3 mb4 mb5 ln, tc_I G mb0 10 ow, tc_I G mb1 10 gr, tc_I G mb2 10 we, tc_I G mb3 10 du, tc_I G mb4 10 sa, tc_D G mb5 10 le, tc_X2 ma4 md0 md1 md2 md3 pn, tc_F G md0 3 dl, tc_I G md1 3 pl, tc_I G md2 3 dr, tc_I G md3 3 sp, tc_X1 ta0 ta1 ta2 ta3 ta4 j_3 j_4 j_5, tc_X4 ta1 j_6 j_7 j_8, tc_X3 ta2 j_9 j_10 j_11 j_12 j_13 j_14, tc_X0 ta3 tb0 tb1 tb2 tb3 tb4 tb5 j_15, tc_I G tb0 10 j_16, tc_I G tb1 10 j_17, tc_I G tb2 10 j_18, tc_I G tb3 10 j_19, tc_I G tb4 10 j_20, tc_D G tb5 10 j_21, tc_X2 ta4 td0 td1 td2 td3 j_22, tc_F G td0 3 j_23, tc_I G td1 3 j_24, tc_I G td2 3 j_25, tc_I G td3 3 j_26] H := hP
    have hD : va_D A [tc_J G ob 1 (vp_updL oj (0 : Int32).toNatClampNeg r_2.toInt64), tc_X5 a0 ma0 ta0 lk rf pu to, tc_X1 ma0 ma1 ma2 ma3 ma4 fh lh ee, tc_X4 ma1 tk mo su, tc_X3 ma2 lv si ga sl sc fo, tc_X0 ma3 mb0 mb1 mb2 mb3 mb4 mb5 ln, tc_I G mb0 10 ow, tc_I G mb1 10 gr, tc_I G mb2 10 we, tc_I G mb3 10 du, tc_I G mb4 10 sa, tc_D G mb5 10 le, tc_X2 ma4 md0 md1 md2 md3 pn, tc_F G md0 3 dl, tc_I G md1 3 pl, tc_I G md2 3 dr, tc_I G md3 3 sp, tc_X1 ta0 ta1 ta2 ta3 ta4 j_3 j_4 j_5, tc_X4 ta1 j_6 j_7 j_8, tc_X3 ta2 j_9 j_10 j_11 j_12 j_13 j_14, tc_X0 ta3 tb0 tb1 tb2 tb3 tb4 tb5 j_15, tc_I G tb0 10 j_16, tc_I G tb1 10 j_17, tc_I G tb2 10 j_18, tc_I G tb3 10 j_19, tc_I G tb4 10 j_20, tc_D G tb5 10 j_21, tc_X2 ta4 td0 td1 td2 td3 j_22, tc_F G td0 3 j_23, tc_I G td1 3 j_24, tc_I G td2 3 j_25, tc_I G td3 3 j_26] := hD
    refine lv_goto (tgt := 15) hx hb dL_best_9 (by decide) ?_
    refine lv_iconst (v := 0) hx hb dL_best_15 (by decide) ?_
    have hP9 := hP.sub (ws' := [tc_X5 a0 ma0 ta0 lk rf pu to, tc_X1 ma0 ma1 ma2 ma3 ma4 fh lh ee, tc_X4 ma1 tk mo su, tc_X3 ma2 lv si ga sl sc fo, tc_X0 ma3 mb0 mb1 mb2 mb3 mb4 mb5 ln, tc_I G mb0 10 ow, tc_I G mb1 10 gr, tc_I G mb2 10 we, tc_I G mb3 10 du, tc_I G mb4 10 sa, tc_D G mb5 10 le, tc_X2 ma4 md0 md1 md2 md3 pn, tc_F G md0 3 dl, tc_I G md1 3 pl, tc_I G md2 3 dr, tc_I G md3 3 sp, tc_X1 ta0 ta1 ta2 ta3 ta4 j_3 j_4 j_5, tc_X4 ta1 j_6 j_7 j_8, tc_X3 ta2 j_9 j_10 j_11 j_12 j_13 j_14, tc_X0 ta3 tb0 tb1 tb2 tb3 tb4 tb5 j_15, tc_I G tb0 10 j_16, tc_I G tb1 10 j_17, tc_I G tb2 10 j_18, tc_I G tb3 10 j_19, tc_I G tb4 10 j_20, tc_D G tb5 10 j_21, tc_X2 ta4 td0 td1 td2 td3 j_22, tc_F G td0 3 j_23, tc_I G td1 3 j_24, tc_I G td2 3 j_25, tc_I G td3 3 j_26, tc_J G ob 1 (vp_updL oj (0 : Int32).toNatClampNeg r_2.toInt64)]) [1, 2, 3, 4, 5, 6, 7, 8, 9, 10, 11, 12, 13, 14, 15, 16, 17, 18, 19, 20, 21, 22, 23, 24, 25, 26, 27, 28, 29, 30, 31, 0] rfl
    have hD9 := hD.sub (ws' := [tc_X5 a0 ma0 ta0 lk rf pu to, tc_X1 ma0 ma1 ma2 ma3 ma4 fh lh ee, tc_X4 ma1 tk mo su, tc_X3 ma2 lv si ga sl sc fo, tc_X0 ma3 mb0 mb1 mb2 mb3 mb4 mb5 ln, tc_I G mb0 10 ow, tc_I G mb1 10 gr, tc_I G mb2 10 we, tc_I G mb3 10 du, tc_I G mb4 10 sa, tc_D G mb5 10 le, tc_X2 ma4 md0 md1 md2 md3 pn, tc_F G md0 3 dl, tc_I G md1 3 pl, tc_I G md2 3 dr, tc_I G md3 3 sp, tc_X1 ta0 ta1 ta2 ta3 ta4 j_3 j_4 j_5, tc_X4 ta1 j_6 j_7 j_8, tc_X3 ta2 j_9 j_10 j_11 j_12 j_13 j_14, tc_X0 ta3 tb0 tb1 tb2 tb3 tb4 tb5 j_15, tc_I G tb0 10 j_16, tc_I G tb1 10 j_17, tc_I G tb2 10 j_18, tc_I G tb3 10 j_19, tc_I G tb4 10 j_20, tc_D G tb5 10 j_21, tc_X2 ta4 td0 td1 td2 td3 j_22, tc_F G td0 3 j_23, tc_I G td1 3 j_24, tc_I G td2 3 j_25, tc_I G td3 3 j_26, tc_J G ob 1 (vp_updL oj (0 : Int32).toNatClampNeg r_2.toInt64)]) [1, 2, 3, 4, 5, 6, 7, 8, 9, 10, 11, 12, 13, 14, 15, 16, 17, 18, 19, 20, 21, 22, 23, 24, 25, 26, 27, 28, 29, 30, 31, 0] (by decide) rfl
    refine W.widen (k := 1) (n := 6) (Nat.le_of_ble_eq_true rfl) (Nat.le_of_ble_eq_true rfl) (vx_ret ?_)
    exact W.iret (v := 0) hx hb hr (fun t ht hW => ⟨⟨0, (vp_updL oj (0 : Int32).toNatClampNeg r_2.toInt64, j_3, j_4, j_5, j_6, j_7, j_8, j_9, j_10, j_11, j_12, j_13, j_14, j_15, j_16, j_17, j_18, j_19, j_20, j_21, j_22, j_23, j_24, j_25, j_26), rfl, by unfold f_L_best; all_goals (rw [← hw_2]); all_goals (dsimp only); all_goals rfl, by rw [ht]; exact hP9, hD9⟩, hS.F ht⟩) hS.2.2 dL_best_16
