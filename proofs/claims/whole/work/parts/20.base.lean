abbrev vwCl : List vw_C := [(RJx4a65c, TJx4a65c, 3), (RX0, TX0, 7), (RX1, TX1, 7), (RX2, TX2, 5), (RX3, TX3, 6), (RX4, TX4, 3), (RX5, TX5, 6), (RX6, TX6, 20), (RX7, TX7, 7)]
/-- the heap's words: the classes' ids and slots, and the ids of int[], double[], float[], boolean[], Object[], long[] -/
abbrev tm_G : Type := va_G × (ClassId × ClassId × ClassId × ClassId × ClassId × ClassId)
abbrev tm_T (G : tm_G) : List (ClassId × FieldType) := [(G.2.1, .int), (G.2.2.1, .double), (G.2.2.2.1, .float), (G.2.2.2.2.1, .boolean), (G.2.2.2.2.2.1, .object "java/lang/Object"), (G.2.2.2.2.2.2, .long)]
/-- the links of the private methods of nest mates -/
def tm_N (U : State) : Prop :=
  va_Nw (.methodLinkNest RX0 41 yX5_paceOf "TideMill") U ∧ va_Nw (.methodLinkNest RX2 63 yX5_hardnessOf "TideMill") U ∧ va_Nw (.methodLinkNest RX6 145 yX7_in "TideMillModel") U ∧
  va_Nw (.methodLinkNest RX5 9 yX1_init "TideMill") U ∧ va_Nw (.methodLinkNest RX1 11 yX4_init "TideMill") U ∧ va_Nw (.methodLinkNest RX1 20 yX3_init "TideMill") U ∧
  va_Nw (.methodLinkNest RX1 27 yX0_init "TideMill") U ∧ va_Nw (.methodLinkNest RX1 34 yX2_init "TideMill") U ∧ va_Nw (.methodLinkNest RX7 9 yX6_init "TideMillModel") U
theorem tm_N_X0_41 {U : State} (h : tm_N U) : va_Nw (.methodLinkNest RX0 41 yX5_paceOf "TideMill") U := h.1
theorem tm_N_X2_63 {U : State} (h : tm_N U) : va_Nw (.methodLinkNest RX2 63 yX5_hardnessOf "TideMill") U := h.2.1
theorem tm_N_X6_145 {U : State} (h : tm_N U) : va_Nw (.methodLinkNest RX6 145 yX7_in "TideMillModel") U := h.2.2.1
theorem tm_N_X5_9 {U : State} (h : tm_N U) : va_Nw (.methodLinkNest RX5 9 yX1_init "TideMill") U := h.2.2.2.1
theorem tm_N_X1_11 {U : State} (h : tm_N U) : va_Nw (.methodLinkNest RX1 11 yX4_init "TideMill") U := h.2.2.2.2.1
theorem tm_N_X1_20 {U : State} (h : tm_N U) : va_Nw (.methodLinkNest RX1 20 yX3_init "TideMill") U := h.2.2.2.2.2.1
theorem tm_N_X1_27 {U : State} (h : tm_N U) : va_Nw (.methodLinkNest RX1 27 yX0_init "TideMill") U := h.2.2.2.2.2.2.1
theorem tm_N_X1_34 {U : State} (h : tm_N U) : va_Nw (.methodLinkNest RX1 34 yX2_init "TideMill") U := h.2.2.2.2.2.2.2.1
theorem tm_N_X7_9 {U : State} (h : tm_N U) : va_Nw (.methodLinkNest RX7 9 yX6_init "TideMillModel") U := h.2.2.2.2.2.2.2.2
theorem tm_N.warm {s U : State} (hW : s.WarmedH U.vm) (h : tm_N s) : tm_N U := by
  obtain ⟨h1, h2, h3, h4, h5, h6, h7, h8, h9⟩ := h
  exact ⟨h1.warmM hW, h2.warmM hW, h3.warmM hW, h4.warmM hW, h5.warmM hW, h6.warmM hW, h7.warmM hW, h8.warmM hW, h9.warmM hW⟩
theorem tm_N.same {u U : State} (hu : u.vm = U.vm) (h : tm_N u) : tm_N U := by
  obtain ⟨h1, h2, h3, h4, h5, h6, h7, h8, h9⟩ := h
  exact ⟨h1.same rfl hu, h2.same rfl hu, h3.same rfl hu, h4.same rfl hu, h5.same rfl hu, h6.same rfl hu, h7.same rfl hu, h8.same rfl hu, h9.same rfl hu⟩
/-- the statics that the code reads: they lie outside A -/
def tm_V (A : Nat → Prop) (U : State) (H : Heap) : Prop :=
  va_Z "java/lang/Math" "negativeZeroDoubleBits" "J" (.long (-9223372036854775808)) A U H ∧ va_Z "java/lang/Math" "negativeZeroFloatBits" "J" (.long (-2147483648)) A U H ∧
  va_Z "java/lang/StrictMath" "$assertionsDisabled" "Z" (.int 1) A U H ∧
  vx_Zq Bundle.tN "UNASSIGNED_STACK" Bundle.steD A U H ∧ vx_Zq Bundle.tN "SUPPRESSED_SENTINEL" Bundle.listD A U H
theorem tm_V.moved {A : Nat → Prop} {u U : State} {H : Heap} (hvm : u.vm.Alike U.vm) (h : tm_V A u H) : tm_V A U H :=
  ⟨h.1.moved hvm, h.2.1.moved hvm, h.2.2.1.moved hvm, h.2.2.2.1.moved hvm, h.2.2.2.2.moved hvm⟩
theorem tm_V.kept {A : Nat → Prop} {U : State} {H H1 : Heap} (h : tm_V A U H) (hq : ∀ a : Nat, a < H.size → ¬ A a → H1[a]? = H[a]?) : tm_V A U H1 :=
  ⟨h.1.kept hq, h.2.1.kept hq, h.2.2.1.kept hq, h.2.2.2.1.kept hq, h.2.2.2.2.kept hq⟩
theorem tm_V.narrow {A B : Nat → Prop} {U : State} {H : Heap} (h : tm_V A U H) (hAB : ∀ q, B q → A q) : tm_V B U H :=
  ⟨h.1.narrow hAB, h.2.1.narrow hAB, h.2.2.1.narrow hAB, h.2.2.2.1.narrow hAB, h.2.2.2.2.narrow hAB⟩
/-- what a method of ours finds: its cells ws, and the rest of the world that it reads -/
def tm_B (G : tm_G) (ws : va_W) (sz : Nat) (U : State) : Prop :=
  U.heap.size = sz ∧ va_P G.1 vwCl ws U.heap ∧ va_K G.1 vwCl (tm_T G) U ∧ va_D (fun _ => True) ws ∧ tm_N U ∧ tm_V (va_A ws sz) U U.heap
theorem tm_blind {G : tm_G} {ws : va_W} {sz : Nat} {av : List Value} : FrameBlind (va_Pc av (tm_B G ws sz)) := fun a U g mk q => by
  obtain ⟨h0, h1, h2, h3, h4, h5, h6⟩ := q
  exact ⟨h0, h1, h2, va_K.moved (u := U) (U := U.calling g mk a) (Vm.Alike.refl U.vm) h3, h4, tm_N.same (u := U) rfl h5, tm_V.moved (u := U) (U := U.calling g mk a) (Vm.Alike.refl U.vm) h6⟩
theorem tm_pre {G : tm_G} {s : State} {H : Heap} {locs : List Loc} {A : Nat → Prop} {wc : va_W} {av : List Value} (hK : va_K G.1 vwCl (tm_T G) s) (hN : tm_N s) (hV : tm_V A s s.heap) (hS : va_S A s.heap H locs)
    (hPc : va_P G.1 vwCl wc H) (hDc : va_D A wc) (hFc : ∀ q, va_A wc H.size q → A q) : ∀ U : State, U.heap = H → s.WarmedH U.vm → va_Pc av (tm_B G wc H.size) av.toArray U := fun U hU hW =>
  ⟨rfl, by rw [hU], by rw [hU]; exact hPc, va_K.moved hW.alike hK, hDc.weaken (fun _ _ _ _ => trivial), hN.warm hW, by
    rw [hU]
    exact (tm_V.moved hW.alike (hV.kept hS.2.1)).narrow hFc⟩
theorem tm_preV {G : tm_G} {s : State} {H : Heap} {locs : List Loc} {A : Nat → Prop} {wc : va_W} {b : Nat} {As : List Value} {C : String} (hK : va_K G.1 vwCl (tm_T G) s) (hN : tm_N s) (hV : tm_V A s s.heap) (hS : va_S A s.heap H locs)
    (hPc : va_P G.1 vwCl wc H) (hDc : va_D A wc) (hFc : ∀ q, va_A wc H.size q → A q) (hr : ∃ cell : Cell, H[b]? = some cell ∧ cell.vm.isStatics = false ∧ s.vm.findClass C = some cell.cls) :
    PreV s H C b (va_Pc (.ref b :: As) (tm_B G wc H.size)) As := ⟨tm_blind, hr, tm_pre hK hN hV hS hPc hDc hFc⟩
theorem tm_preS {G : tm_G} {s : State} {H : Heap} {locs : List Loc} {A : Nat → Prop} {wc : va_W} {As : List Value} (hK : va_K G.1 vwCl (tm_T G) s) (hN : tm_N s) (hV : tm_V A s s.heap) (hS : va_S A s.heap H locs)
    (hPc : va_P G.1 vwCl wc H) (hDc : va_D A wc) (hFc : ∀ q, va_A wc H.size q → A q) : PreS s H (va_Pc As (tm_B G wc H.size)) As := ⟨tm_blind, tm_pre hK hN hV hS hPc hDc hFc⟩
/-- a boolean, as the machine holds it -/
def tm_bool (x : Int32) : Prop := x = 0 ∨ x = 1
theorem tm_bool_n {x : Int32} (h : tm_bool x) : narrow .boolean (.int x) = .int x := by
  rcases h with rfl | rfl <;> rfl
theorem tm_bool_f {x : Int32} (h : tm_bool x) : fits .boolean (.int x) = true := by
  rcases h with rfl | rfl <;> rfl
theorem tm_sw {x : Int32} (hi : Int) (h : ¬ (0 ≤ x.toInt ∧ x.toInt ≤ hi)) : x.toInt < 0 ∨ hi < x.toInt := by omega
/-! whole rows copied: what the row holds is the other row's function -/
theorem tm_arr_i {cA : ClassId} {n : Nat} {f g : Nat → Int32} (h : ∀ j, j < n → f j = g j) : vp_cell cA (n, .inl f) = vp_cell cA (n, .inl g) := by
  show arrV cA n (fun j => .int (f j)) = arrV cA n (fun j => .int (g j))
  unfold arrV
  have : (fun j : Fin n => Value.int (f j.val)) = (fun j : Fin n => Value.int (g j.val)) := funext fun j => by rw [h j.val j.isLt]
  rw [this]
theorem tm_arr_d {cA : ClassId} {n : Nat} {f g : Nat → UInt64} (h : ∀ j, j < n → f j = g j) : vp_cell cA (n, .inr (.inr (.inr (.inl f)))) = vp_cell cA (n, .inr (.inr (.inr (.inl g)))) := by
  show arrV cA n (fun j => .double (f j)) = arrV cA n (fun j => .double (g j))
  unfold arrV
  have : (fun j : Fin n => Value.double (f j.val)) = (fun j : Fin n => Value.double (g j.val)) := funext fun j => by rw [h j.val j.isLt]
  rw [this]
theorem tm_arr_f {cA : ClassId} {n : Nat} {f g : Nat → UInt32} (h : ∀ j, j < n → f j = g j) : vp_cell cA (n, .inr (.inr (.inl f))) = vp_cell cA (n, .inr (.inr (.inl g))) := by
  show arrV cA n (fun j => .float (f j)) = arrV cA n (fun j => .float (g j))
  unfold arrV
  have : (fun j : Fin n => Value.float (f j.val)) = (fun j : Fin n => Value.float (g j.val)) := funext fun j => by rw [h j.val j.isLt]
  rw [this]
theorem tm_cpv {α : Type} {f g : Nat → α} {sp dp k n : Nat} (h1 : sp = 0) (h2 : dp = 0) (h3 : k = n) : ∀ j, j < n → va_cpy f g sp dp k j = f j := by
  subst h1 h2 h3
  intro j hj
  unfold va_cpy
  rw [if_pos ⟨Nat.zero_le _, by omega⟩]
  simp
theorem tm_setP {D : va_G} {cl : List vw_C} {ws : va_W} {H : Heap} {q a : Nat} {e e' : va_E} (hq : q < ws.length) (h : va_P D cl (ws.set q (a, e)) H) (he : va_at D cl (a, e) H → va_at D cl (a, e') H) : va_P D cl (ws.set q (a, e')) H := by
  intro k r hk
  rcases Nat.decEq k q with hn | rfl
  · rw [List.getElem?_set_ne (fun e => hn e.symm)] at hk
    exact h k r (by rw [List.getElem?_set_ne (fun e => hn e.symm)]; exact hk)
  · rw [List.getElem?_set_self hq] at hk
    cases hk
    exact he (h k _ (by rw [List.getElem?_set_self hq]))
theorem tm_cpD {A : Nat → Prop} {ws : va_W} {q a : Nat} {e e' : va_E} (hq : q < ws.length) (h : va_D A (ws.set q (a, e'))) : va_D A (ws.set q (a, e)) := by
  have := va_D.set (p := q) (a := a) (e0 := e') (e := e) h (by rw [List.getElem?_set_self hq])
  rwa [List.set_set] at this
theorem tm_cpP_i {D : va_G} {cl : List vw_C} {ws : va_W} {H : Heap} {q a n : Nat} {cA : ClassId} {f g : Nat → Int32} {sp dp k : Nat} (hq : q < ws.length) (h1 : sp = 0) (h2 : dp = 0) (h3 : k = n) (h : va_P D cl (ws.set q (a, .inl (cA, n, .inl (va_cpy f g sp dp k)))) H) : va_P D cl (ws.set q (a, .inl (cA, n, .inl f))) H :=
  tm_setP hq h (fun h0 => by
    show H[a]? = some (vp_cell cA (n, .inl f))
    rw [← tm_arr_i (tm_cpv (f := f) (g := g) h1 h2 h3)]
    exact h0)
theorem tm_cpP_d {D : va_G} {cl : List vw_C} {ws : va_W} {H : Heap} {q a n : Nat} {cA : ClassId} {f g : Nat → UInt64} {sp dp k : Nat} (hq : q < ws.length) (h1 : sp = 0) (h2 : dp = 0) (h3 : k = n) (h : va_P D cl (ws.set q (a, .inl (cA, n, .inr (.inr (.inr (.inl (va_cpy f g sp dp k))))))) H) : va_P D cl (ws.set q (a, .inl (cA, n, .inr (.inr (.inr (.inl f)))))) H :=
  tm_setP hq h (fun h0 => by
    show H[a]? = some (vp_cell cA (n, .inr (.inr (.inr (.inl f)))))
    rw [← tm_arr_d (tm_cpv (f := f) (g := g) h1 h2 h3)]
    exact h0)
theorem tm_cpP_f {D : va_G} {cl : List vw_C} {ws : va_W} {H : Heap} {q a n : Nat} {cA : ClassId} {f g : Nat → UInt32} {sp dp k : Nat} (hq : q < ws.length) (h1 : sp = 0) (h2 : dp = 0) (h3 : k = n) (h : va_P D cl (ws.set q (a, .inl (cA, n, .inr (.inr (.inl (va_cpy f g sp dp k)))))) H) : va_P D cl (ws.set q (a, .inl (cA, n, .inr (.inr (.inl f))))) H :=
  tm_setP hq h (fun h0 => by
    show H[a]? = some (vp_cell cA (n, .inr (.inr (.inl f))))
    rw [← tm_arr_f (tm_cpv (f := f) (g := g) h1 h2 h3)]
    exact h0)
/-! the class of an array of a kind is one -/
theorem tm_cA_I {G : tm_G} {s : State} {cA : ClassId} (h : va_K G.1 vwCl (tm_T G ++ [(cA, .int)]) s) : cA = G.2.1 := Option.some.inj (((h.2 6 (cA, .int) rfl).2 : _).symm.trans ((h.2 0 (G.2.1, .int) rfl).2 : _))
theorem tm_cA_D {G : tm_G} {s : State} {cA : ClassId} (h : va_K G.1 vwCl (tm_T G ++ [(cA, .double)]) s) : cA = G.2.2.1 := Option.some.inj (((h.2 6 (cA, .double) rfl).2 : _).symm.trans ((h.2 1 (G.2.2.1, .double) rfl).2 : _))
theorem tm_cA_F {G : tm_G} {s : State} {cA : ClassId} (h : va_K G.1 vwCl (tm_T G ++ [(cA, .float)]) s) : cA = G.2.2.2.1 := Option.some.inj (((h.2 6 (cA, .float) rfl).2 : _).symm.trans ((h.2 2 (G.2.2.2.1, .float) rfl).2 : _))
theorem tm_cA_Z {G : tm_G} {s : State} {cA : ClassId} (h : va_K G.1 vwCl (tm_T G ++ [(cA, .boolean)]) s) : cA = G.2.2.2.2.1 := Option.some.inj (((h.2 6 (cA, .boolean) rfl).2 : _).symm.trans ((h.2 3 (G.2.2.2.2.1, .boolean) rfl).2 : _))
theorem tm_cA_J {G : tm_G} {s : State} {cA : ClassId} (h : va_K G.1 vwCl (tm_T G ++ [(cA, .long)]) s) : cA = G.2.2.2.2.2.2 := Option.some.inj (((h.2 6 (cA, .long) rfl).2 : _).symm.trans ((h.2 5 (G.2.2.2.2.2.2, .long) rfl).2 : _))
/-- which exception: 0, 1, 2 -/
def tm_E (k : Nat) : String := if k = 0 then "java/lang/IllegalArgumentException" else if k = 1 then "java/lang/IllegalStateException" else "java/lang/IndexOutOfBoundsException"
theorem tm_Pkept {D : va_G} {cl : List vw_C} {ws : va_W} {H H1 : Heap} (h : va_P D cl ws H) (hk : ∀ q : Nat, q < H.size → H1[q]? = H[q]?) : va_P D cl ws H1 := h.kept (fun _ q hq => hk q.1 (vx_lt h hq))
theorem tm_Fkept {A : Nat → Prop} {s t : State} {H : Heap} {locs : List Loc} (hS : va_S A s.heap H locs) (hz : H.size ≤ t.heap.size) (hk : ∀ q : Nat, q < H.size → t.heap[q]? = H[q]?) : va_F A s t :=
  ⟨Nat.le_trans hS.1 hz, fun q h1 h2 => by rw [hk q (Nat.lt_of_lt_of_le h1 hS.1)]; exact hS.2.1 q h1 h2⟩
