theorem tl_dropP {D : va_G} {cl : List vw_C} {U V : va_W} {H : Heap} (h : va_P D cl (U ++ V) H) : va_P D cl U H := fun k q hq => h k q (by rw [List.getElem?_append_left (List.getElem?_eq_some_iff.mp hq).1]; exact hq)
theorem tl_dropD {A : Nat → Prop} {U V : va_W} (h : va_D A (U ++ V)) : va_D A U :=
  ⟨fun i j x y hx hy e => h.1 i j x y (by rw [List.getElem?_append_left (List.getElem?_eq_some_iff.mp hx).1]; exact hx) (by rw [List.getElem?_append_left (List.getElem?_eq_some_iff.mp hy).1]; exact hy) e, fun k x hx => h.2 k x (by rw [List.getElem?_append_left (List.getElem?_eq_some_iff.mp hx).1]; exact hx)⟩
theorem tl_n1 {n : Nat} (h : n < 10) : ¬ (nI n + 1 < 0) ∧ (nI n + 1).toNatClampNeg = n + 1 := by
  revert n
  decide
theorem tl_n0 {n : Nat} (h : n < 10) : ¬ (nI n < 0) ∧ (nI n).toNatClampNeg = n ∧ vp_in (nI n) (n + 1) := ⟨nI_pos (by omega), nI_clamp (by omega), vp_in_nI (by omega) (by omega)⟩
theorem tl_cpy {n : Nat} {ad : Nat → Nat} {sp dp k : Nat} (h1 : sp = 0) (h2 : dp = 0) (h3 : k = n) : va_cpy (fun k => if k < n then some (ad k) else none) (fun _ => none) sp dp k = fun k => if k < n then some (ad k) else none := by
  subst h1 h2 h3
  funext j
  unfold va_cpy
  by_cases h : j < k
  · rw [if_pos ⟨Nat.zero_le _, by omega⟩]
    simp
  · rw [if_neg (fun q => h (by omega))]
    simp [h]
section
variable {p : Program} {l : Launch} {e : Env} {R : Room} {s : State} {m : MethodId} {args : Array Value} {below : List Frame} {meth : Method} {c : Code} {H : Heap} {locs : List Loc} {cells slots : Nat} {Q : State → Prop}
variable {pc : Nat} {ls : Array Slot} {rest : List Value} {D : va_G} {cl : List vw_C} {A : Nat → Prop} {a : Nat} {ws : va_W} {H0 : Heap}
/-- references to rows of ints copied from one row of rows to another -/
theorem tl_copy {G : tm_G} {cc : ByteArray} (hexec : p.tables.exec = Jvm.exec) (hb : c.code = cc) (hml : c.maxLocals = ls.size) {own : String} {index : Nat} (hown : s.vm.findClass own = some m.cls) (hlink : (Cond.methodLink own index arraycopyName).before args s = true) (hnat : (Cond.native arraycopyName).before args s = true) (hstat : (Cond.static arraycopyName).before args s = true) (hini : (Cond.initialized "java/lang/System").before args s = true)
    (hK : va_K G.1 vwCl (tm_T G) s) (hN : tl_AA s) (hP : va_P G.1 vwCl ws H) (hD : va_D A ws) (hS : va_S A H0 H locs) (q0 q1 : Nat) {a0 : Nat} {n0 n1 : Nat} {f g : Nat → Option Nat} (ha0 : ws[q0]? = some (a0, .inl (G.2.2.2.2.1, n0, .inr (.inr (.inr (.inr f)))))) (ha1 : ws[q1]? = some (a, .inl (G.2.2.2.2.1, n1, .inr (.inr (.inr (.inr g))))))
    {sp dp n : Int32} (h1 : ¬ sp < 0) (h2 : ¬ dp < 0) (h3 : ¬ n < 0) (h4 : sp.toNatClampNeg + n.toNatClampNeg ≤ n0) (h5 : dp.toNatClampNeg + n.toNatClampNeg ≤ n1) (hel : ∀ i : Nat, i < n.toNatClampNeg → ∀ y : Nat, f (sp.toNatClampNeg + i) = some y → ∃ (k : Nat) (r : Nat → Int32), H[y]? = some (vp_cell G.2.1 (k, .inl r)))
    (hframes : 1 ≤ R.frames) (hlocals : (rest.map fun v => v.category).sum + (nativeFrameWords "java/lang/System" "arraycopy" 5 + 11) ≤ R.locals) (hdg : decode cc pc = .ok (.invokestatic index, 3))
    (kk : ∀ (H1 : Heap) (locs1 : List Loc), va_P G.1 vwCl (ws.set q1 (a, .inl (G.2.2.2.2.1, n1, .inr (.inr (.inr (.inr (va_cpy f g sp.toNatClampNeg dp.toNatClampNeg n.toNatClampNeg))))))) H1 → va_D A (ws.set q1 (a, .inl (G.2.2.2.2.1, n1, .inr (.inr (.inr (.inr (va_cpy f g sp.toNatClampNeg dp.toNatClampNeg n.toNatClampNeg))))))) → va_S A H0 H1 locs1 → W p l e R s m args below meth c H1 locs1 cells slots Q (F0 m (pc + 3) ls rest)) : W p l e R s m args below meth c H locs cells slots Q (F0 m pc ls (.int n :: .int dp :: .ref a :: .int sp :: .ref a0 :: rest)) := by
  have nn : ∀ z : Int32, ¬ z < 0 → z.toInt = (z.toNatClampNeg : Int) := by
    intro z hz
    have hz0 : (0 : Int) ≤ z.toInt := by
      have := Int32.not_lt.mp hz
      simpa using Int32.le_iff_toInt_le.mp this
    show z.toInt = ((z.toInt.toNat : Nat) : Int)
    omega
  intro T hT X
  have hc0 : H[a0]? = some (vp_cell G.2.2.2.2.1 (n0, .inr (.inr (.inr (.inr f))))) := hP q0 _ ha0
  have hc1 : H[a]? = some (vp_cell G.2.2.2.2.1 (n1, .inr (.inr (.inr (.inr g))))) := hP q1 _ ha1
  obtain ⟨kA, hkA, hkk⟩ := tl_kind hK hN
  obtain ⟨kI, hkI, -⟩ := Vm.findClass_spec (hK.2 0 (G.2.1, .int) rfl).2
  obtain ⟨vm', X', step⟩ := X.arraycopy hexec hown hlink hnat hstat hini (src := a0) (dst := a) (cs := vp_cell G.2.2.2.2.1 (n0, .inr (.inr (.inr (.inr f))))) (cd := vp_cell G.2.2.2.2.1 (n1, .inr (.inr (.inr (.inr g))))) (srcPos := sp) (destPos := dp) (n := n) (by rw [hT]; exact hc0) (by rw [hT]; exact hc1)
    (fun _ h => by cases h) (fun _ h => by cases h) (fun h => by cases h) (fun h => by cases h) hkA hkA hkk hkk rfl h1 h2 h3
    (by rw [nn sp h1, nn n h3]; show ¬ _ > ((arrV G.2.2.2.2.1 n0 (fun j => va_rf (f j))).slots.size : Int); rw [arrV_size]; omega)
    (by rw [nn dp h2, nn n h3]; show ¬ _ > ((arrV G.2.2.2.2.1 n1 (fun j => va_rf (g j))).slots.size : Int); rw [arrV_size]; omega)
    (fun vm₁ hal i hi => by
      have e : (vp_cell G.2.2.2.2.1 (n0, .inr (.inr (.inr (.inr f))))).slots.getD (sp.toNatClampNeg + i) .null = va_rf (f (sp.toNatClampNeg + i)) := by
        show (arrV G.2.2.2.2.1 n0 (fun j => va_rf (f j))).slots.getD _ _ = _
        rw [Array.getD_eq_getD_getElem?, arrV_read _ _ (by omega)]
        rfl
      rw [e]
      cases hy : f (sp.toNatClampNeg + i) with
      | none => exact ⟨rfl, trivial⟩
      | some y =>
        obtain ⟨k, r, g1⟩ := hel i hi y hy
        obtain ⟨kI', hkI', -⟩ := hal.2.2 _ _ hkI
        refine ⟨rfl, _, (show T.heap[y]? = some _ by rw [hT]; exact g1), (fun q h => by cases h), ⟨kI', hkI'⟩, ?_, ?_⟩
        · exact ⟨kI', hkI'⟩
        · show vm₁.assignableAux (255 + 1) G.2.1 G.2.1 = true
          unfold Vm.assignableAux
          simp only [beq_self_eq_true, Bool.true_or])
    (g := F0 m pc ls (.int n :: .int dp :: .ref a :: .int sp :: .ref a0 :: rest)) rfl (by rw [hml]) (rest := rest) rfl (by rw [hb]; exact hdg) hframes (by show 2 * 0 + _ + _ ≤ _; omega)
  have e1 : copied (vp_cell G.2.2.2.2.1 (n0, .inr (.inr (.inr (.inr f))))) (vp_cell G.2.2.2.2.1 (n1, .inr (.inr (.inr (.inr g))))) sp dp n = vp_cell G.2.2.2.2.1 (n1, .inr (.inr (.inr (.inr (va_cpy f g sp.toNatClampNeg dp.toNatClampNeg n.toNatClampNeg))))) := by
    rw [vp_cell_q, vp_cell_q, vp_cell_q]
    exact va_copied (fun z => va_rf z) G.2.2.2.2.1 G.2.2.2.2.1 f g h4
  rw [e1] at X' step
  have hl : a < H.size := (Array.getElem?_eq_some_iff.mp hc1).1
  have hheap : ((T.setVm vm').setCell a (vp_cell G.2.2.2.2.1 (n1, .inr (.inr (.inr (.inr (va_cpy f g sp.toNatClampNeg dp.toNatClampNeg n.toNatClampNeg))))))).heap = H.setIfInBounds a (vp_cell G.2.2.2.2.1 (n1, .inr (.inr (.inr (.inr (va_cpy f g sp.toNatClampNeg dp.toNatClampNeg n.toNatClampNeg)))))) := by rw [← hT]; rfl
  have oq : ∀ q : Nat, q ≠ a → (H.setIfInBounds a (vp_cell G.2.2.2.2.1 (n1, .inr (.inr (.inr (.inr (va_cpy f g sp.toNatClampNeg dp.toNatClampNeg n.toNatClampNeg)))))))[q]? = H[q]? := fun q hq => by simp [Array.getElem?_setIfInBounds, Ne.symm hq]
  obtain ⟨t, a1, b1⟩ := kk _ _ (hP.set hD ha1 (show (H.setIfInBounds a _)[a]? = some _ by simp [Array.getElem?_setIfInBounds, hl]) oq) (hD.set ha1) ⟨by simp; exact hS.1, fun q g1 g2 => by
      rw [oq q (fun e => g2 (by rw [e]; exact hD.2 q1 _ ha1))]
      exact hS.2.1 q g1 g2, fun q hq => by
      rcases List.mem_append.mp hq with h | h
      · exact hS.2.2 q h
      · obtain ⟨z, -, hz⟩ := List.mem_map.mp h
        rw [← hz]
        exact hD.2 q1 _ ha1⟩ _ hheap X'
  exact ⟨t, step t a1, b1⟩
end
/-- plus: a list of one row more; the old row of references stays behind -/
theorem c_plus (l : Launch) (G : tm_G) {ed r sz n w : Nat} {ad : Nat → Nat} {rc : Nat → Nat → Int32} {f : Nat → Int32} {Y ws : va_W} (ws' : Nat → va_W) (hn : n < 10) (hw : ws.Perm (([(r, .inl (G.2.1, w, .inl f))] : va_W) ++ (tl_L G ed n ad w rc ++ Y))) (hw' : ∀ q, (ws' q).Perm (tl_L G q (n + 1) (vf_upd ad n r) w (vf_upd rc n f) ++ Y)) :
    Met l yX6_plus wsX6_plus ({ frames := 1, cells := 1, slots := 11, locals := 40 }) (va_Pc [.ref ed, .ref r] (tm_B G ws sz)) (va_Qr (fun (_ : Unit) => True) (fun (_ : Unit) (ra : Nat) (t : State) => va_P G.1 vwCl (ws' ra) t.heap ∧ va_D (va_A ws sz) (ws' ra)) (va_A ws sz)) 1 11 (va_A ws sz) := by
  refine Met.ofW (cc := cX6_plus) (maxL := 3) (ret := (some (.array (.array .int)))) (by decide) rfl ?_
  intro p e s m args below meth c s₁ B hml hv
  obtain ⟨rfl, hsz, hP, hK, hD0, hN, hV⟩ := hv
  have hx := B.exec
  have hb := B.bytes
  have hr := B.returns
  have hts := atoms_spec (ws := wsX6_plus) B.pre
  have hown : s.vm.findClass RX6 = some m.cls := findClass_of_methodNamed B.named
  subst hsz
  have hD := hD0.self (sz := s.heap.size)
  generalize hAe : va_A ws s.heap.size = A at hD hV ⊢
  have hA : ∀ q : Nat, s.heap.size ≤ q → A q := fun q h => by rw [← hAe]; exact Or.inr h
  have hS : va_S A s.heap s.heap [] := va_S.rf
  replace hP := tm_permP hw hP
  replace hD := tm_permD hw hD
  obtain ⟨z1, z2⟩ := tl_n1 hn
  obtain ⟨z3, z4, z5⟩ := tl_n0 hn
  have hl := lv_entry ([.ref ed, .ref r]) (n := 3) (Nat.le_of_ble_eq_true rfl)
  rw [lg_entry_eq]
  generalize (lg_sl ([.ref ed, .ref r]) ++ List.replicate (3 - (lg_sl ([.ref ed, .ref r])).length) Slot.unset).toArray = ls at hl ⊢
  have hl : lv_has ls 3 [(0, .ref ed), (1, .ref r)] := hl
  refine lv_aload_n hx hb dX6_plus_0 rfl (lv_at hl 0 rfl) ?_
  refine va_alen (v := nI n) hx hb hK hP _ 3 tl_P_hd rfl rfl dX6_plus_1 ?_
  refine lv_iconst (v := 1) hx hb dX6_plus_2 (by decide) ?_
  refine lv_iadd hx hb dX6_plus_3 ?_
  refine tl_new (n := nI n + 1) (N' := n + 1) hx hb hown (hts (.classLink RX6 20 "[I") (List.mem_of_getElem? (i := 1) rfl)) hN.2.2.2.2 hK hP hD hS hA z1 z2 (by omega) (Nat.le_of_ble_eq_true rfl) (by show 0 + (n + 1) ≤ 11; omega) dX6_plus_4 (fun q H hP hD hS => ?_)
  replace hP := tm_swapP hP
  replace hD := tm_swapD hD
  have hP : va_P G.1 vwCl (([(r, .inl (G.2.1, w, .inl f)), (q, .inl (G.2.2.2.2.1, n + 1, .inr (.inr (.inr (.inr (fun _ => none))))))] : va_W) ++ (tl_L G ed n ad w rc ++ Y)) H := hP
  have hD : va_D A (([(r, .inl (G.2.1, w, .inl f)), (q, .inl (G.2.2.2.2.1, n + 1, .inr (.inr (.inr (.inr (fun _ => none))))))] : va_W) ++ (tl_L G ed n ad w rc ++ Y)) := hD
  refine W.widen (k := 1) (n := 11) (Nat.le_of_ble_eq_true rfl) (by omega) ?_
  refine lv_astore_n (lv' := [(2, .ref q), (0, .ref ed), (1, .ref r)]) hx hb dX6_plus_7 rfl hl (by decide) rfl (fun ls hl => ?_)
  refine lv_aload_n hx hb dX6_plus_8 rfl (lv_at hl 1 rfl) ?_
  refine lv_iconst (v := 0) hx hb dX6_plus_9 (by decide) ?_
  refine lv_aload_n hx hb dX6_plus_10 rfl (lv_at hl 0 rfl) ?_
  refine lv_iconst (v := 0) hx hb dX6_plus_11 (by decide) ?_
  refine lv_aload_n hx hb dX6_plus_12 rfl (lv_at hl 1 rfl) ?_
  refine va_alen (v := nI n) hx hb hK hP _ 3 tl_P_hd rfl rfl dX6_plus_13 ?_
  refine tl_copy hx hb (by rw [hml]; exact hl.1.symm) hown (hts (.methodLink RX6 53 arraycopyName) (List.mem_of_getElem? (i := 2) rfl)) (hts (.native arraycopyName) (List.mem_of_getElem? (i := 3) rfl)) (hts (.static arraycopyName) (List.mem_of_getElem? (i := 4) rfl)) (hts (.initialized "java/lang/System") (List.mem_of_getElem? (i := 5) rfl)) hK hN.2.2.2.2 hP hD hS _ 1 tl_P_hd rfl (by decide) (by decide) z3 (by rw [z4]; show 0 + n ≤ n; omega) (by rw [z4]; show 0 + n ≤ n + 1; omega) (fun i hi y hy => ?_) (Nat.le_of_ble_eq_true rfl) (Nat.le_of_ble_eq_true rfl) dX6_plus_14 (fun H locs hP hD hS => ?_)
  · rw [z4] at hi
    have e : (0 : Int32).toNatClampNeg + i = i := Nat.zero_add i
    rw [e] at hy
    have hy : (if i < n then some (ad i) else none) = some y := hy
    rw [if_pos hi] at hy
    cases hy
    exact ⟨w, rc i, hP _ _ (tl_P_get hi)⟩
  rw [tl_cpy (sp := (0 : Int32).toNatClampNeg) (dp := (0 : Int32).toNatClampNeg) rfl rfl z4] at hP hD
  have hP : va_P G.1 vwCl (([(r, .inl (G.2.1, w, .inl f)), (q, .inl (G.2.2.2.2.1, n + 1, .inr (.inr (.inr (.inr (fun k => if k < n then some (ad k) else none))))))] : va_W) ++ (tl_L G ed n ad w rc ++ Y)) H := hP
  have hD : va_D A (([(r, .inl (G.2.1, w, .inl f)), (q, .inl (G.2.2.2.2.1, n + 1, .inr (.inr (.inr (.inr (fun k => if k < n then some (ad k) else none))))))] : va_W) ++ (tl_L G ed n ad w rc ++ Y)) := hD
  refine lv_aload_n hx hb dX6_plus_17 rfl (lv_at hl 0 rfl) ?_
  refine lv_aload_n hx hb dX6_plus_18 rfl (lv_at hl 1 rfl) ?_
  refine va_alen (v := nI n) hx hb hK hP _ 3 tl_P_hd rfl rfl dX6_plus_19 ?_
  refine lv_aload_n hx hb dX6_plus_20 rfl (lv_at hl 2 rfl) ?_
  refine tl_ast hx hb hK hN.2.2.2.2 hP hD hS 1 0 rfl rfl z5 dX6_plus_21 (fun H locs hP hD hS => ?_)
  rw [z4] at hP hD
  have hP := tl_dropP (tm_permP (tl_grow (X := [])) (show va_P G.1 vwCl (([(r, .inl (G.2.1, w, .inl f)), (q, .inl (G.2.2.2.2.1, n + 1, .inr (.inr (.inr (.inr (va_up (fun k => if k < n then some (ad k) else none) n (some r)))))))] : va_W) ++ (tl_L G ed n ad w rc ++ Y)) H from hP))
  have hD := tl_dropD (tm_permD (tl_grow (X := [])) (show va_D A (([(r, .inl (G.2.1, w, .inl f)), (q, .inl (G.2.2.2.2.1, n + 1, .inr (.inr (.inr (.inr (va_up (fun k => if k < n then some (ad k) else none) n (some r)))))))] : va_W) ++ (tl_L G ed n ad w rc ++ Y)) from hD))
  have hP := tm_permP (hw' q).symm hP
  have hD := tm_permD (hw' q).symm hD
  refine lv_aload_n hx hb dX6_plus_22 rfl (lv_at hl 0 rfl) ?_
  exact W.aret (v := .ref q) hx hb hr (Or.inr ⟨_, rfl⟩) (Or.inr ⟨_, rfl⟩) (fun t ht hW => ⟨⟨(), q, rfl, trivial, by rw [ht]; exact hP, hD⟩, hS.F ht⟩) hS.2.2 dX6_plus_23
