/-! the law from its entry to its end -/
theorem lw_bm {n : Int} (h1 : -2 ^ 31 ≤ n) (h2 : n < 2 ^ 31) : n.bmod (2 ^ 32) = n := by
  rw [Int.bmod_def]
  omega
theorem lw_j {j L : Nat} (hL : L ≤ 2560) (h : ¬ (Int32.ofNat L - 5) < nI (5 * j)) (hj : j ≤ 512) : 5 * j + 5 ≤ L := by
  refine Nat.le_of_not_lt fun h9 => h ?_
  rw [Int32.lt_iff_toInt_lt, nI_toInt (n := 5 * j) (by omega)]
  have e1 : (Int32.ofNat L).toInt = (L : Int) := nI_toInt (n := L) (by omega)
  have e5 : (5 : Int32).toInt = 5 := by decide
  rw [Int32.toInt_sub, e1, e5, lw_bm (by omega) (by omega)]
  omega
theorem lw_in {j k L : Nat} (hL : L ≤ 2560) (hk : k < 5) (h : ¬ (Int32.ofNat L - 5) < nI (5 * j)) (hj : j ≤ 512) : vp_in (nI (5 * j) + nI k) L := by
  have h1 := lw_j hL h hj
  rw [nI_add]
  exact vp_in_nI (by omega) (by omega)
theorem lw_nx (j : Nat) : nI (5 * j) + 5 = nI (5 * (j + 1)) := by
  rw [show 5 * (j + 1) = 5 * j + 5 by omega]
  exact nI_add (5 * j) 5
theorem lw_fin {p : Program} {l : Launch} {e : Env} {s : State} {m : MethodId} {below : List Frame} {meth : Method} {c : Code} {b : Nat} {H : Heap} {locs : List Loc} {ls : Array Slot} {cb sb : Nat} (hx : p.tables.exec = Jvm.exec) (hb : c.code = cL_law) (hr : meth.sig.returnType = ret) (hlocks : meth.locks = false) (hS : va_S (fun q => s.heap.size ≤ q) s.heap H locs) (h1 : cb ≤ 601024) (h2 : sb ≤ 7293034) : W p l e ({ frames := 12, cells := 601024, slots := 7293034, locals := 2582 } : Room) s m #[Value.ref b] below meth c H locs cb sb (lw_Z below #[Value.ref b] s) (F0 m 1821 ls []) := by
  refine lv_iconst (v := 1) hx hb dL_law_1821 (by decide) ?_
  refine va_forget (fun q hq => hS.2.2 q hq) ?_
  refine W.widen (k := 601024) (n := 7293034) h1 h2 ?_
  exact W.base (lw_ret (d0 := s.drawn) (Drawn.sameBut.refl s.drawn lw_cs) hx hb hr hlocks dL_law_1822)
theorem lw_turn {p : Program} {l : Launch} {e : Env} {s : State} {m : MethodId} {below : List Frame} {meth : Method} {c : Code} {Q : State → Prop} {A : Nat → Prop} {G : tm_G} {a0 k0 ob od b cb sb : Nat} {i5 : Int32} (hx : p.tables.exec = Jvm.exec) (hb : c.code = cL_law) (h : lw_K p l e s m below meth c Q A G a0 k0 ob od b cb sb 28 (i5 + 5)) : lw_K p l e s m below meth c Q A G a0 k0 ob od b cb sb 1815 i5 := by
  intro ma0 ta0 ma1 ma2 ma3 ma4 mb0 mb1 mb2 mb3 mb4 mb5 md0 md1 md2 md3 ta1 ta2 ta3 ta4 tb0 tb1 tb2 tb3 tb4 tb5 td0 td1 td2 td3 k1 k2 g0 g1 g2 g3 g4 g5 ed lk rf pu to fh lh ee su lv si sc fo ow gr we du sa le dl pl dr sp fh' lh' ee' tk' mo' su' lv' si' ga' sl' sc' fo' ln' ow' gr' we' du' sa' le' pn' dl' pl' dr' sp' oj ov th dn mc n ad rc Pn tn mn gn sn H locs ls hg hed hP hD hS hl
  exact lw_step (A := A) (L := 0) (xs := fun _ => 0) hx hb hl (fun ls hl => h _ _ _ _ _ _ _ _ _ _ _ _ _ _ _ _ _ _ _ _ _ _ _ _ _ _ _ _ _ _ _ _ _ _ _ _ _ _ _ _ _ _ _ _ _ _ _ _ _ _ _ _ _ _ _ _ _ _ _ _ _ _ _ _ _ _ _ _ _ _ _ _ _ _ _ _ _ _ _ _ _ _ _ _ _ _ _ _ _ _ _ _ _ _ _ _ _ _ _ _ _ hg hed hP hD hS hl)
theorem lw_all {p : Program} {l : Launch} {e : Env} {s : State} {m : MethodId} {below : List Frame} {meth : Method} {c : Code} {Q : State → Prop} {A : Nat → Prop} {G : tm_G} {a0 k0 ob od b cb sb L : Nat} {xs : Nat → Int32} {i5 : Int32} (hlt : l.stackTraces = false) (hx : p.tables.exec = Jvm.exec) (hb : c.code = cL_law) (hml : c.maxLocals = 9) (hown : s.vm.findClass RL = some m.cls) (hts : ∀ w ∈ wsL_law, w.before #[Value.ref b] s = true) (hK : va_K G.1 vwCl (tm_T G) s) (hN : tm_N s) (hV : tm_V G A s s.heap) (hX9 : va_X b L xs s s.heap) (hbl : b < s.heap.size) (hbA : ¬ A b) (hA : ∀ q : Nat, s.heap.size ≤ q → A q) (hcb : cb + 1170 ≤ 601024) (hsb : sb + 14200 ≤ 7293034) (hi1 : vp_in (i5 + 1) L) (hi2 : vp_in (i5 + 2) L) (hi3 : vp_in (i5 + 3) L) (hi4 : vp_in (i5 + 4) L) (kk : lw_K p l e s m below meth c Q A G a0 k0 ob od b (cb + 1170) (sb + 14200) 1815 i5) (k : Nat) (hk : k ≤ 27) : lw_K p l e s m below meth c Q A G a0 k0 ob od b cb sb (lw_ent k) i5 := by
  match k, hk with
  | 0, _ => exact lw_s0 hlt hx hb hml hown hts hK hN hV hX9 hbl hbA hA hcb hsb hi1 hi2 hi3 hi4 kk
  | 1, _ => exact lw_s1 hlt hx hb hml hown hts hK hN hV hX9 hbl hbA hA hcb hsb hi1 hi2 hi3 hi4 kk
  | 2, _ => exact lw_s2 hlt hx hb hml hown hts hK hN hV hX9 hbl hbA hA hcb hsb hi1 hi2 hi3 hi4 kk
  | 3, _ => exact lw_s3 hlt hx hb hml hown hts hK hN hV hX9 hbl hbA hA hcb hsb hi1 hi2 hi3 hi4 kk
  | 4, _ => exact lw_s4 hlt hx hb hml hown hts hK hN hV hX9 hbl hbA hA hcb hsb hi1 hi2 hi3 hi4 kk
  | 5, _ => exact lw_s5 hlt hx hb hml hown hts hK hN hV hX9 hbl hbA hA hcb hsb hi1 hi2 hi3 hi4 kk
  | 6, _ => exact lw_s6 hlt hx hb hml hown hts hK hN hV hX9 hbl hbA hA hcb hsb hi1 hi2 hi3 hi4 kk
  | 7, _ => exact lw_s7 hlt hx hb hml hown hts hK hN hV hX9 hbl hbA hA hcb hsb hi1 hi2 hi3 hi4 kk
  | 8, _ => exact lw_s8 hlt hx hb hml hown hts hK hN hV hX9 hbl hbA hA hcb hsb hi1 hi2 hi3 hi4 kk
  | 9, _ => exact lw_s9 hlt hx hb hml hown hts hK hN hV hX9 hbl hbA hA hcb hsb hi1 hi2 hi3 hi4 kk
  | 10, _ => exact lw_s10 hlt hx hb hml hown hts hK hN hV hX9 hbl hbA hA hcb hsb hi1 hi2 hi3 hi4 kk
  | 11, _ => exact lw_s11 hlt hx hb hml hown hts hK hN hV hX9 hbl hbA hA hcb hsb hi1 hi2 hi3 hi4 kk
  | 12, _ => exact lw_s12 hlt hx hb hml hown hts hK hN hV hX9 hbl hbA hA hcb hsb hi1 hi2 hi3 hi4 kk
  | 13, _ => exact lw_s13 hlt hx hb hml hown hts hK hN hV hX9 hbl hbA hA hcb hsb hi1 hi2 hi3 hi4 kk
  | 14, _ => exact lw_s14 hlt hx hb hml hown hts hK hN hV hX9 hbl hbA hA hcb hsb hi1 hi2 hi3 hi4 kk
  | 15, _ => exact lw_s15 hlt hx hb hml hown hts hK hN hV hX9 hbl hbA hA hcb hsb hi1 hi2 hi3 hi4 kk
  | 16, _ => exact lw_s16 hlt hx hb hml hown hts hK hN hV hX9 hbl hbA hA hcb hsb hi1 hi2 hi3 hi4 kk
  | 17, _ => exact lw_s17 hlt hx hb hml hown hts hK hN hV hX9 hbl hbA hA hcb hsb hi1 hi2 hi3 hi4 kk
  | 18, _ => exact lw_s18 hlt hx hb hml hown hts hK hN hV hX9 hbl hbA hA hcb hsb hi1 hi2 hi3 hi4 kk
  | 19, _ => exact lw_s19 hlt hx hb hml hown hts hK hN hV hX9 hbl hbA hA hcb hsb hi1 hi2 hi3 hi4 kk
  | 20, _ => exact lw_s20 hlt hx hb hml hown hts hK hN hV hX9 hbl hbA hA hcb hsb hi1 hi2 hi3 hi4 kk
  | 21, _ => exact lw_s21 hlt hx hb hml hown hts hK hN hV hX9 hbl hbA hA hcb hsb hi1 hi2 hi3 hi4 kk
  | 22, _ => exact lw_s22 hlt hx hb hml hown hts hK hN hV hX9 hbl hbA hA hcb hsb hi1 hi2 hi3 hi4 kk
  | 23, _ => exact lw_s23 hlt hx hb hml hown hts hK hN hV hX9 hbl hbA hA hcb hsb hi1 hi2 hi3 hi4 kk
  | 24, _ => exact lw_s24 hlt hx hb hml hown hts hK hN hV hX9 hbl hbA hA hcb hsb hi1 hi2 hi3 hi4 kk
  | 25, _ => exact lw_s25 hlt hx hb hml hown hts hK hN hV hX9 hbl hbA hA hcb hsb hi1 hi2 hi3 hi4 kk
  | 26, _ => exact lw_s26 hlt hx hb hml hown hts hK hN hV hX9 hbl hbA hA hcb hsb hi1 hi2 hi3 hi4 kk
  | 27, _ => exact lw_s27 hlt hx hb hml hown hts hK hN hV hX9 hbl hbA hA hcb hsb hi1 hi2 hi3 hi4 kk
  | k + 28, h => exact absurd h (by omega)
theorem lw_loop {p : Program} {l : Launch} {e : Env} {s : State} {m : MethodId} {below : List Frame} {meth : Method} {c : Code} {G : tm_G} {b L : Nat} {xs : Nat → Int32} (hlt : l.stackTraces = false) (hx : p.tables.exec = Jvm.exec) (hb : c.code = cL_law) (hml : c.maxLocals = 9) (hown : s.vm.findClass RL = some m.cls) (hts : ∀ w ∈ wsL_law, w.before #[Value.ref b] s = true) (hK : va_K G.1 vwCl (tm_T G) s) (hN : tm_N s) (hV : tm_V G (fun q => s.heap.size ≤ q) s s.heap) (hX9 : va_X b L xs s s.heap) (hbl : b < s.heap.size) (hr : meth.sig.returnType = ret) (hlocks : meth.locks = false) (hL : L ≤ 2560) {a0 k0 ob od : Nat} : ∀ f j : Nat, L ≤ 5 * (j + f) → j ≤ 512 → lw_K p l e s m below meth c (lw_Z below #[Value.ref b] s) (fun q => s.heap.size ≤ q) G a0 k0 ob od b (1170 * (j + 1)) (14200 * (j + 1)) 28 (nI (5 * j)) := by
  have hA : ∀ q : Nat, s.heap.size ≤ q → (fun q => s.heap.size ≤ q) q := fun _ h => h
  have hbA : ¬ (fun q => s.heap.size ≤ q) b := Nat.not_le.mpr hbl
  intro f
  induction f with
  | zero =>
    intro j hf hj
    intro ma0 ta0 ma1 ma2 ma3 ma4 mb0 mb1 mb2 mb3 mb4 mb5 md0 md1 md2 md3 ta1 ta2 ta3 ta4 tb0 tb1 tb2 tb3 tb4 tb5 td0 td1 td2 td3 k1 k2 g0 g1 g2 g3 g4 g5 ed lk rf pu to fh lh ee su lv si sc fo ow gr we du sa le dl pl dr sp fh' lh' ee' tk' mo' su' lv' si' ga' sl' sc' fo' ln' ow' gr' we' du' sa' le' pn' dl' pl' dr' sp' oj ov th dn mc n ad rc Pn tn mn gn sn H locs ls hg hed hP hD hS hl
    refine lw_head hx hb hX9 hbl hbA hS hl (fun c1 => ?_) (fun c1 => ?_) (fun c1 k hk hxk => ?_) (fun c1 => ?_)
    · exact absurd (lw_j hL c1 hj) (by omega)
    · exact lw_fin hx hb hr hlocks hS (by omega) (by omega)
    · exact absurd (lw_j hL c1 hj) (by omega)
    · exact absurd (lw_j hL c1 hj) (by omega)
  | succ f ih =>
    intro j hf hj
    intro ma0 ta0 ma1 ma2 ma3 ma4 mb0 mb1 mb2 mb3 mb4 mb5 md0 md1 md2 md3 ta1 ta2 ta3 ta4 tb0 tb1 tb2 tb3 tb4 tb5 td0 td1 td2 td3 k1 k2 g0 g1 g2 g3 g4 g5 ed lk rf pu to fh lh ee su lv si sc fo ow gr we du sa le dl pl dr sp fh' lh' ee' tk' mo' su' lv' si' ga' sl' sc' fo' ln' ow' gr' we' du' sa' le' pn' dl' pl' dr' sp' oj ov th dn mc n ad rc Pn tn mn gn sn H locs ls hg hed hP hD hS hl
    refine lw_head hx hb hX9 hbl hbA hS hl (fun c1 => ?_) (fun c1 => ?_) (fun c1 k hk hxk => ?_) (fun c1 => ?_)
    · exact vp_in_nI (by have := lw_j hL c1 hj; omega) (by omega)
    · exact lw_fin hx hb hr hlocks hS (by omega) (by omega)
    · have hj5 := lw_j hL c1 hj
      have hj2 : j + 1 ≤ 512 := by omega
      have hi1 : vp_in (nI (5 * j) + 1) L := lw_in (k := 1) hL (by decide) c1 hj
      have hi2 : vp_in (nI (5 * j) + 2) L := lw_in (k := 2) hL (by decide) c1 hj
      have hi3 : vp_in (nI (5 * j) + 3) L := lw_in (k := 3) hL (by decide) c1 hj
      have hi4 : vp_in (nI (5 * j) + 4) L := lw_in (k := 4) hL (by decide) c1 hj
      have hcb : 1170 * (j + 1) + 1170 ≤ 601024 := by omega
      have hsb : 14200 * (j + 1) + 14200 ≤ 7293034 := by omega
      have kk : lw_K p l e s m below meth c (lw_Z below #[Value.ref b] s) (fun q => s.heap.size ≤ q) G a0 k0 ob od b (1170 * (j + 1) + 1170) (14200 * (j + 1) + 14200) 1815 (nI (5 * j)) := by
        have h9 := ih (j + 1) (by omega) hj2
        rw [show 1170 * (j + 1 + 1) = 1170 * (j + 1) + 1170 by omega, show 14200 * (j + 1 + 1) = 14200 * (j + 1) + 14200 by omega, ← lw_nx] at h9
        exact lw_turn hx hb h9
      have hall := lw_all hlt hx hb hml hown hts hK hN hV hX9 hbl hbA hA hcb hsb hi1 hi2 hi3 hi4 kk k hk
      exact hall _ _ _ _ _ _ _ _ _ _ _ _ _ _ _ _ _ _ _ _ _ _ _ _ _ _ _ _ _ _ _ _ _ _ _ _ _ _ _ _ _ _ _ _ _ _ _ _ _ _ _ _ _ _ _ _ _ _ _ _ _ _ _ _ _ _ _ _ _ _ _ _ _ _ _ _ _ _ _ _ _ _ _ _ _ _ _ _ _ _ _ _ _ _ _ _ _ _ _ _ _ hg hed hP hD hS hl
    · have hj5 := lw_j hL c1 hj
      have h9 := ih (j + 1) (by omega) (by omega)
      rw [show 1170 * (j + 1 + 1) = 1170 * (j + 1) + 1170 by omega, show 14200 * (j + 1 + 1) = 14200 * (j + 1) + 14200 by omega, ← lw_nx] at h9
      refine W.widen (k := 1170 * (j + 1) + 1170) (n := 14200 * (j + 1) + 14200) (by omega) (by omega) ?_
      exact lw_turn hx hb h9 _ _ _ _ _ _ _ _ _ _ _ _ _ _ _ _ _ _ _ _ _ _ _ _ _ _ _ _ _ _ _ _ _ _ _ _ _ _ _ _ _ _ _ _ _ _ _ _ _ _ _ _ _ _ _ _ _ _ _ _ _ _ _ _ _ _ _ _ _ _ _ _ _ _ _ _ _ _ _ _ _ _ _ _ _ _ _ _ _ _ _ _ _ _ _ _ _ _ _ _ _ hg hed hP hD hS hl
theorem lw_gj0 : gj 0 0 0 0 0 0 0 0 0 0 0 0 0 (fun _ => (0 : Int32)) (fun _ => (0 : Int32)) (fun _ => (0 : Int32)) (fun _ => (0 : Int32)) (fun _ => (0 : Int32)) (fun _ => (0 : UInt64)) (fun _ => (0 : UInt32)) (fun _ => (0 : Int32)) (fun _ => (0 : Int32)) (fun _ => (0 : Int32)) (fun _ => (0 : Int32)) (fun _ _ => (0 : Int32)) := by
  have hf : fr 0 8 := ⟨(FP.Core.ne_nan32 _).mpr (by decide +kernel), by decide +kernel, by decide +kernel⟩
  have hf2 : fr 0 32 := ⟨(FP.Core.ne_nan32 _).mpr (by decide +kernel), by decide +kernel, by decide +kernel⟩
  have hl0 : lr 0 := ⟨(FP.Core.ne_nan _).mpr (by decide +kernel), by decide +kernel, by decide +kernel⟩
  refine ⟨by decide, by decide, by decide, by decide, by decide, by decide, vc_0.w (by decide) (by decide), Or.inl rfl, Or.inl rfl, ⟨vc_0.w (by decide) (by decide), hf2, vc_0.w (by decide) (by decide), fun _ => hf, fun _ => hl0, fun p hp => absurd hp (Nat.not_lt_zero p), fun p q hp => absurd hp (Nat.not_lt_zero p), fun k => Or.inl ⟨Or.inl rfl, rfl⟩⟩, (FP.Core.ne_nan _).mpr (by decide +kernel), fun q => ⟨0, by decide, rfl⟩, fun _ _ => rfl, fun k hk => absurd hk (Nat.not_lt_zero k), fun k hk => absurd hk (Nat.not_lt_zero k), fun _ _ => rfl⟩
set_option maxHeartbeats 4000000 in
/-- from the entry, for every script of at most 2560 ints, the law comes to its end with true -/
theorem whole_start {p : Program} {e : Env} {s : State} {m : MethodId} {below : List Frame} {meth : Method} {c : Code} (l : Launch) (hflags : l.flags = flags0) {b L : Nat} {xs : Nat → Int32} (hL : L ≤ 2560) (C0 : lw_At p s m meth c b L xs) : W p l e room_1 s m #[Value.ref b] below meth c s.heap [] 0 0 (lw_Z below #[Value.ref b] s) (entryFrame m ([Value.ref b] : List Value).toArray 9) := by
  obtain ⟨hx, hb, hr, hml, hown, hts, hX, hbl, hlocks, hgv⟩ := id C0
  obtain ⟨G, hK, hN, hV⟩ := lw_world hts hgv
  have hlt : l.stackTraces = false := by
    unfold Jvm.Launch.stackTraces
    rw [hflags]
    decide +kernel
  have hA : ∀ q : Nat, s.heap.size ≤ q → (fun q => s.heap.size ≤ q) q := fun _ h => h
  have hbA : ¬ (fun q => s.heap.size ≤ q) b := Nat.not_le.mpr hbl
  have hS : va_S (fun q => s.heap.size ≤ q) s.heap s.heap [] := va_S.rf
  have hP : va_P G.1 vwCl [] s.heap := fun k q h => by simp at h
  have hD : va_D (fun q => s.heap.size ≤ q) [] := ⟨fun i j p q h => by simp at h, fun k q h => by simp at h⟩
  have hl := lv_entry ([.ref b]) (n := 9) (Nat.le_of_ble_eq_true rfl)
  rw [lg_entry_eq]
  generalize (lg_sl ([.ref b]) ++ List.replicate (9 - (lg_sl ([.ref b])).length) Slot.unset).toArray = ls at hl ⊢
  have hl : lv_has ls 9 [(0, .ref b)] := hl
  have hw : ∀ w ∈ wsL_law, w.before #[Value.ref b] s = true := fun w h => hts w (wsL_law_in w h)
  refine c_bs G hlt hx hb hml hown hw hK hN hV hX hbl hbA hA (Nat.le_of_ble_eq_true rfl) (Nat.le_of_ble_eq_true rfl) hP hD hS hl (fun q_1 q_3 q_4 q_5 q_6 q_7 q_8 q_9 q_10 q_11 q_12 q_13 q_14 q_15 q_16 q_17 q_18 q_19 q_20 q_21 q_22 q_23 q_24 q_25 q_26 q_27 q_28 q_29 q_30 q_31 q_32 q_33 q_35 q_36 q_37 q_38 q_39 q_40 q_41 q_42 q_43 q_44 H locs ls hP hD hS hl => ?_)
  have hP1 : va_P G.1 vwCl (([tc_X5 q_1 q_3 q_18 0 0 0 0, tc_X1 q_3 q_4 q_5 q_6 q_13 0 47 0, tc_X4 q_4 0 0 0, tc_X3 q_5 0 0 0 0 0 0, tc_X0 q_6 q_7 q_8 q_9 q_10 q_11 q_12 0, tc_I G q_7 10 (fun _ => (0 : Int32)), tc_I G q_8 10 (fun _ => (0 : Int32)), tc_I G q_9 10 (fun _ => (0 : Int32)), tc_I G q_10 10 (fun _ => (0 : Int32)), tc_I G q_11 10 (fun _ => (0 : Int32)), tc_D G q_12 10 (fun _ => (0 : UInt64)), tc_X2 q_13 q_14 q_15 q_16 q_17 0, tc_F G q_14 3 (fun _ => (0 : UInt32)), tc_I G q_15 3 (fun _ => (0 : Int32)), tc_I G q_16 3 (fun _ => (0 : Int32)), tc_I G q_17 3 (fun _ => (0 : Int32)), tc_X1 q_18 q_19 q_20 q_21 q_28 0 47 0, tc_X4 q_19 0 0 0, tc_X3 q_20 0 0 0 0 0 0, tc_X0 q_21 q_22 q_23 q_24 q_25 q_26 q_27 0, tc_I G q_22 10 (fun _ => (0 : Int32)), tc_I G q_23 10 (fun _ => (0 : Int32)), tc_I G q_24 10 (fun _ => (0 : Int32)), tc_I G q_25 10 (fun _ => (0 : Int32)), tc_I G q_26 10 (fun _ => (0 : Int32)), tc_D G q_27 10 (fun _ => (0 : UInt64)), tc_X2 q_28 q_29 q_30 q_31 q_32 0, tc_F G q_29 3 (fun _ => (0 : UInt32)), tc_I G q_30 3 (fun _ => (0 : Int32)), tc_I G q_31 3 (fun _ => (0 : Int32)), tc_I G q_32 3 (fun _ => (0 : Int32))] ++ [tc_X7 q_33 0 q_35 0 0 0 0 q_42, tc_X6 q_35 0 0 0 0 0 0 0 0 0 47 0 0 0 q_36 q_37 q_38 q_39 q_40 q_41 q_33, tc_F G q_36 3 (fun _ => (0 : UInt32)), tc_I G q_37 3 (fun _ => (0 : Int32)), tc_I G q_38 3 (fun _ => (0 : Int32)), tc_I G q_39 3 (fun _ => (0 : Int32)), tc_D G q_40 10 (fun _ => (0 : UInt64)), tc_Z G q_41 10 (fun _ => (0 : Int32)), tc_Jx4a65c q_42 0 G.2.2.2.2.2.2.2 0]) ++ [tc_J G q_43 1 (fun _ => (0 : Int64)), tc_D G q_44 1 (fun _ => (0 : UInt64))]) H := hP
  have hD1 : va_D (fun q => s.heap.size ≤ q) (([tc_X5 q_1 q_3 q_18 0 0 0 0, tc_X1 q_3 q_4 q_5 q_6 q_13 0 47 0, tc_X4 q_4 0 0 0, tc_X3 q_5 0 0 0 0 0 0, tc_X0 q_6 q_7 q_8 q_9 q_10 q_11 q_12 0, tc_I G q_7 10 (fun _ => (0 : Int32)), tc_I G q_8 10 (fun _ => (0 : Int32)), tc_I G q_9 10 (fun _ => (0 : Int32)), tc_I G q_10 10 (fun _ => (0 : Int32)), tc_I G q_11 10 (fun _ => (0 : Int32)), tc_D G q_12 10 (fun _ => (0 : UInt64)), tc_X2 q_13 q_14 q_15 q_16 q_17 0, tc_F G q_14 3 (fun _ => (0 : UInt32)), tc_I G q_15 3 (fun _ => (0 : Int32)), tc_I G q_16 3 (fun _ => (0 : Int32)), tc_I G q_17 3 (fun _ => (0 : Int32)), tc_X1 q_18 q_19 q_20 q_21 q_28 0 47 0, tc_X4 q_19 0 0 0, tc_X3 q_20 0 0 0 0 0 0, tc_X0 q_21 q_22 q_23 q_24 q_25 q_26 q_27 0, tc_I G q_22 10 (fun _ => (0 : Int32)), tc_I G q_23 10 (fun _ => (0 : Int32)), tc_I G q_24 10 (fun _ => (0 : Int32)), tc_I G q_25 10 (fun _ => (0 : Int32)), tc_I G q_26 10 (fun _ => (0 : Int32)), tc_D G q_27 10 (fun _ => (0 : UInt64)), tc_X2 q_28 q_29 q_30 q_31 q_32 0, tc_F G q_29 3 (fun _ => (0 : UInt32)), tc_I G q_30 3 (fun _ => (0 : Int32)), tc_I G q_31 3 (fun _ => (0 : Int32)), tc_I G q_32 3 (fun _ => (0 : Int32))] ++ [tc_X7 q_33 0 q_35 0 0 0 0 q_42, tc_X6 q_35 0 0 0 0 0 0 0 0 0 47 0 0 0 q_36 q_37 q_38 q_39 q_40 q_41 q_33, tc_F G q_36 3 (fun _ => (0 : UInt32)), tc_I G q_37 3 (fun _ => (0 : Int32)), tc_I G q_38 3 (fun _ => (0 : Int32)), tc_I G q_39 3 (fun _ => (0 : Int32)), tc_D G q_40 10 (fun _ => (0 : UInt64)), tc_Z G q_41 10 (fun _ => (0 : Int32)), tc_Jx4a65c q_42 0 G.2.2.2.2.2.2.2 0]) ++ [tc_J G q_43 1 (fun _ => (0 : Int64)), tc_D G q_44 1 (fun _ => (0 : UInt64))]) := hD
  have hP2 := tm_swapP hP1
  have hD2 := tm_swapD hD1
  have e0 : tm_L G G.2.2.2.2.2.2.2 0 (fun _ => 0) (fun _ _ => (0 : Int32)) = [] := rfl
  have hP3 : va_P G.1 vwCl ([tc_X5 q_1 q_3 q_18 0 0 0 0, tc_X1 q_3 q_4 q_5 q_6 q_13 0 47 0, tc_X4 q_4 0 0 0, tc_X3 q_5 0 0 0 0 0 0, tc_X0 q_6 q_7 q_8 q_9 q_10 q_11 q_12 0, tc_I G q_7 10 (fun _ => (0 : Int32)), tc_I G q_8 10 (fun _ => (0 : Int32)), tc_I G q_9 10 (fun _ => (0 : Int32)), tc_I G q_10 10 (fun _ => (0 : Int32)), tc_I G q_11 10 (fun _ => (0 : Int32)), tc_D G q_12 10 (fun _ => (0 : UInt64)), tc_X2 q_13 q_14 q_15 q_16 q_17 0, tc_F G q_14 3 (fun _ => (0 : UInt32)), tc_I G q_15 3 (fun _ => (0 : Int32)), tc_I G q_16 3 (fun _ => (0 : Int32)), tc_I G q_17 3 (fun _ => (0 : Int32)), tc_X1 q_18 q_19 q_20 q_21 q_28 0 47 0, tc_X4 q_19 0 0 0, tc_X3 q_20 0 0 0 0 0 0, tc_X0 q_21 q_22 q_23 q_24 q_25 q_26 q_27 0, tc_I G q_22 10 (fun _ => (0 : Int32)), tc_I G q_23 10 (fun _ => (0 : Int32)), tc_I G q_24 10 (fun _ => (0 : Int32)), tc_I G q_25 10 (fun _ => (0 : Int32)), tc_I G q_26 10 (fun _ => (0 : Int32)), tc_D G q_27 10 (fun _ => (0 : UInt64)), tc_X2 q_28 q_29 q_30 q_31 q_32 0, tc_F G q_29 3 (fun _ => (0 : UInt32)), tc_I G q_30 3 (fun _ => (0 : Int32)), tc_I G q_31 3 (fun _ => (0 : Int32)), tc_I G q_32 3 (fun _ => (0 : Int32)), tc_J G q_43 1 (fun _ => (0 : Int64)), tc_D G q_44 1 (fun _ => (0 : UInt64)), tc_X7 q_33 0 q_35 0 0 0 0 q_42, tc_X6 q_35 0 0 0 0 0 0 0 0 0 47 0 0 0 q_36 q_37 q_38 q_39 q_40 q_41 q_33, tc_F G q_36 3 (fun _ => (0 : UInt32)), tc_I G q_37 3 (fun _ => (0 : Int32)), tc_I G q_38 3 (fun _ => (0 : Int32)), tc_I G q_39 3 (fun _ => (0 : Int32)), tc_D G q_40 10 (fun _ => (0 : UInt64)), tc_Z G q_41 10 (fun _ => (0 : Int32)), tc_Jx4a65c q_42 0 G.2.2.2.2.2.2.2 0] ++ tm_L G G.2.2.2.2.2.2.2 0 (fun _ => 0) (fun _ _ => (0 : Int32))) H := by rw [e0, List.append_nil]; exact hP2
  have hD3 : va_D (fun q => s.heap.size ≤ q) ([tc_X5 q_1 q_3 q_18 0 0 0 0, tc_X1 q_3 q_4 q_5 q_6 q_13 0 47 0, tc_X4 q_4 0 0 0, tc_X3 q_5 0 0 0 0 0 0, tc_X0 q_6 q_7 q_8 q_9 q_10 q_11 q_12 0, tc_I G q_7 10 (fun _ => (0 : Int32)), tc_I G q_8 10 (fun _ => (0 : Int32)), tc_I G q_9 10 (fun _ => (0 : Int32)), tc_I G q_10 10 (fun _ => (0 : Int32)), tc_I G q_11 10 (fun _ => (0 : Int32)), tc_D G q_12 10 (fun _ => (0 : UInt64)), tc_X2 q_13 q_14 q_15 q_16 q_17 0, tc_F G q_14 3 (fun _ => (0 : UInt32)), tc_I G q_15 3 (fun _ => (0 : Int32)), tc_I G q_16 3 (fun _ => (0 : Int32)), tc_I G q_17 3 (fun _ => (0 : Int32)), tc_X1 q_18 q_19 q_20 q_21 q_28 0 47 0, tc_X4 q_19 0 0 0, tc_X3 q_20 0 0 0 0 0 0, tc_X0 q_21 q_22 q_23 q_24 q_25 q_26 q_27 0, tc_I G q_22 10 (fun _ => (0 : Int32)), tc_I G q_23 10 (fun _ => (0 : Int32)), tc_I G q_24 10 (fun _ => (0 : Int32)), tc_I G q_25 10 (fun _ => (0 : Int32)), tc_I G q_26 10 (fun _ => (0 : Int32)), tc_D G q_27 10 (fun _ => (0 : UInt64)), tc_X2 q_28 q_29 q_30 q_31 q_32 0, tc_F G q_29 3 (fun _ => (0 : UInt32)), tc_I G q_30 3 (fun _ => (0 : Int32)), tc_I G q_31 3 (fun _ => (0 : Int32)), tc_I G q_32 3 (fun _ => (0 : Int32)), tc_J G q_43 1 (fun _ => (0 : Int64)), tc_D G q_44 1 (fun _ => (0 : UInt64)), tc_X7 q_33 0 q_35 0 0 0 0 q_42, tc_X6 q_35 0 0 0 0 0 0 0 0 0 47 0 0 0 q_36 q_37 q_38 q_39 q_40 q_41 q_33, tc_F G q_36 3 (fun _ => (0 : UInt32)), tc_I G q_37 3 (fun _ => (0 : Int32)), tc_I G q_38 3 (fun _ => (0 : Int32)), tc_I G q_39 3 (fun _ => (0 : Int32)), tc_D G q_40 10 (fun _ => (0 : UInt64)), tc_Z G q_41 10 (fun _ => (0 : Int32)), tc_Jx4a65c q_42 0 G.2.2.2.2.2.2.2 0] ++ tm_L G G.2.2.2.2.2.2.2 0 (fun _ => 0) (fun _ _ => (0 : Int32))) := by rw [e0, List.append_nil]; exact hD2
  exact lw_loop hlt hx hb hml hown hw hK hN hV hX hbl hr hlocks hL 512 0 (by omega) (by decide) _ _ _ _ _ _ _ _ _ _ _ _ _ _ _ _ _ _ _ _ _ _ _ _ _ _ _ _ _ _ _ _ _ _ _ _ _ _ _ _ _ _ _ _ _ _ _ _ _ _ _ _ _ _ _ _ _ _ _ _ _ _ _ _ _ _ _ _ _ _ _ _ _ _ _ _ _ _ _ _ _ _ _ _ _ _ _ _ _ _ _ _ _ _ _ _ _ _ _ _ _ lw_gj0 (fun _ => rfl) hP3 hD3 hS hl
