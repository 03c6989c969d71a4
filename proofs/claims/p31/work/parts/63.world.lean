/-! the world at the entry of the law: what the Statement gives of it -/
theorem lw_str {own tx : String} {k : Nat} {args : Array Value} {s : State} (h1 : (Cond.stringRef own k tx).before args s = true) (h2 : (Cond.exactly (.string own k) "java/lang/String").before args s = true) : ∃ sa : Nat, vk_R own k tx sa s := by
  obtain ⟨a, c9, cell, k9, h, -⟩ := Cond.exactly_spec h2
  exact ⟨a, vk_R.of h1 h⟩
theorem lw_arr {ty : FieldType} {args : Array Value} {s : State} (h : (Cond.arrayClass ty).before args s = true) : ∃ cA : ClassId, ArrOfT s cA ty ∧ s.vm.findClass ("[" ++ ty.toString) = some cA := by
  obtain ⟨cA, kA, comp, h1, h2, h3⟩ := Cond.arrayClass_spec h
  exact ⟨cA, fun n z => ⟨fun k h => (by cases h), kA, h2, comp, h3⟩, h1⟩
theorem lw_arrA {s : State} (h : tl_AA s) : ∃ cA : ClassId, ArrOfT s cA (.array .int) ∧ s.vm.findClass ("[" ++ (FieldType.array .int).toString) = some cA := by
  obtain ⟨comp, cA, kA, h1, h2, h3, h4, h5⟩ := arrayOverA_spec h
  exact ⟨cA, fun n z => ⟨fun k h => (by cases h), kA, h3, comp, h4⟩, h5⟩
theorem lw_n1 {s : State} {b : Nat} (ht : ∀ w ∈ tables_1, w.before #[Value.ref b] s = true) : ∀ q ∈ tm_nw, va_Nw (.methodLinkNest q.1 q.2.1 q.2.2.1 q.2.2.2) s := List.forall_mem_cons.mpr ⟨va_Nw.of rfl (ht (.methodLinkNest RX0 41 yX5_paceOf "TideMill") (List.mem_of_getElem? (i := 211) (by decide +kernel))), List.forall_mem_cons.mpr ⟨va_Nw.of rfl (ht (.methodLinkNest RX2 63 yX5_hardnessOf "TideMill") (List.mem_of_getElem? (i := 217) (by decide +kernel))), List.forall_mem_cons.mpr ⟨va_Nw.of rfl (ht (.methodLinkNest RX5 9 yX1_init "TideMill") (List.mem_of_getElem? (i := 392) (by decide +kernel))), List.forall_mem_cons.mpr ⟨va_Nw.of rfl (ht (.methodLinkNest RX1 11 yX4_init "TideMill") (List.mem_of_getElem? (i := 398) (by decide +kernel))), List.forall_mem_cons.mpr ⟨va_Nw.of rfl (ht (.methodLinkNest RX1 20 yX3_init "TideMill") (List.mem_of_getElem? (i := 417) (by decide +kernel))), List.forall_mem_cons.mpr ⟨va_Nw.of rfl (ht (.methodLinkNest RX1 27 yX0_init "TideMill") (List.mem_of_getElem? (i := 450) (by decide +kernel))), List.forall_mem_cons.mpr ⟨va_Nw.of rfl (ht (.methodLinkNest RX1 34 yX2_init "TideMill") (List.mem_of_getElem? (i := 488) (by decide +kernel))), List.forall_mem_cons.mpr ⟨va_Nw.of rfl (ht (.methodLinkNest RX6 43 yL_cell "TideMillLaw") (List.mem_of_getElem? (i := 640) (by decide +kernel))), List.forall_mem_cons.mpr ⟨va_Nw.of rfl (ht (.methodLinkNest RX6 49 yL_below "TideMillLaw") (List.mem_of_getElem? (i := 644) (by decide +kernel))), fun _ h => absurd h List.not_mem_nil⟩⟩⟩⟩⟩⟩⟩⟩⟩
theorem lw_n2 {s : State} {b : Nat} (ht : ∀ w ∈ tables_1, w.before #[Value.ref b] s = true) : ∀ q ∈ tm_cw, va_Nw (.castable q.1 q.2) s := List.forall_mem_cons.mpr ⟨va_Nw.of rfl (ht (.castable "java/lang/IllegalStateException" "java/lang/IllegalStateException") (List.mem_of_getElem? (i := 100) (by decide +kernel))), fun _ h => absurd h List.not_mem_nil⟩
theorem lw_n3 {s : State} {b : Nat} (ht : ∀ w ∈ tables_1, w.before #[Value.ref b] s = true) : ∀ q ∈ tm_dw, va_Nw (.declares q) s := List.forall_mem_cons.mpr ⟨va_Nw.of rfl (ht (.declares ⟨"java/lang/RuntimeException", "<init>", "(Ljava/lang/String;)V"⟩) (List.mem_of_getElem? (i := 27) (by decide +kernel))), List.forall_mem_cons.mpr ⟨va_Nw.of rfl (ht (.declares ⟨"java/lang/Exception", "<init>", "(Ljava/lang/String;)V"⟩) (List.mem_of_getElem? (i := 29) (by decide +kernel))), List.forall_mem_cons.mpr ⟨va_Nw.of rfl (ht (.declares ⟨"java/lang/Throwable", "<init>", "(Ljava/lang/String;)V"⟩) (List.mem_of_getElem? (i := 31) (by decide +kernel))), fun _ h => absurd h List.not_mem_nil⟩⟩⟩
theorem lw_n4 {s : State} {b : Nat} (ht : ∀ w ∈ tables_1, w.before #[Value.ref b] s = true) (hs : ∀ w ∈ flatC (Jvm.Cond.and given_1 narrow_1), w.before #[Value.ref b] s = true) : ∀ q ∈ tm_sw_, ∃ sa : Nat, vk_R RX5 q.1 q.2 sa s := List.forall_mem_cons.mpr ⟨lw_str (ht (.stringRef RX5 67 "the gatehouse is locked") (List.mem_of_getElem? (i := 700) (by decide +kernel))) (hs (.exactly (.string RX5 67) "java/lang/String") (by decide +kernel)), fun _ h => absurd h List.not_mem_nil⟩
theorem lw_N {s : State} {b : Nat} (ht : ∀ w ∈ tables_1, w.before #[Value.ref b] s = true) (hs : ∀ w ∈ flatC (Jvm.Cond.and given_1 narrow_1), w.before #[Value.ref b] s = true) : tm_N s :=
  ⟨lw_n1 ht, lw_n2 ht, lw_n3 ht, lw_n4 ht hs, (ht (.arrayOver (.array .int)) (List.mem_of_getElem? (i := 563) (by decide +kernel)))⟩
theorem lw_V {s : State} {b : Nat} (ht : ∀ w ∈ tables_1, w.before #[Value.ref b] s = true) (hs : ∀ w ∈ flatC (Jvm.Cond.and given_1 narrow_1), w.before #[Value.ref b] s = true) {A : Nat → Prop} (hA : ∀ a : Nat, a < s.heap.size → ¬ A a) {G : tm_G} (h1 : va_T .int (tm_sb G) (tm_sL G) (fun j => .int (tm_xs G j)) A s s.heap) : tm_V G A s s.heap :=
  ⟨h1, vx_Zqof (C := Bundle.tN) (n := "UNASSIGNED_STACK") (d := Bundle.steD) (ht (.laysStatic "java/lang/Throwable" "UNASSIGNED_STACK" "[Ljava/lang/StackTraceElement;") (List.mem_of_getElem? (i := 52) (by decide +kernel))) (ht (.initialized "java/lang/Throwable") (List.mem_of_getElem? (i := 9) (by decide +kernel))) (hs (.isRef (.static "java/lang/Throwable" "UNASSIGNED_STACK" "[Ljava/lang/StackTraceElement;")) (by decide +kernel)) hA, vx_Zqof (C := Bundle.tN) (n := "SUPPRESSED_SENTINEL") (d := Bundle.listD) (ht (.laysStatic "java/lang/Throwable" "SUPPRESSED_SENTINEL" "Ljava/util/List;") (List.mem_of_getElem? (i := 54) (by decide +kernel))) (ht (.initialized "java/lang/Throwable") (List.mem_of_getElem? (i := 9) (by decide +kernel))) (hs (.isRef (.static "java/lang/Throwable" "SUPPRESSED_SENTINEL" "Ljava/util/List;")) (by decide +kernel)) hA⟩
theorem lw_K0 {s : State} {b : Nat} (hts : ∀ w ∈ lw_tbl, w.before #[Value.ref b] s = true) : ∃ D : va_G, ∀ (c : Nat) (q : vw_C), vwCl[c]? = some q → u_Kn s q.1 q.2.1 q.2.2 (D.1 c) (D.2 c) := by
  have ht : ∀ w ∈ tables_1, w.before #[Value.ref b] s = true := fun w h => hts w (List.mem_append_right _ h)
  obtain ⟨c0, i0, h0⟩ := u_known (C := RX0) (T := TX0) (N := 7) (n := 7) hts inX0 (ht (.instantiable RX0 7) (List.mem_of_getElem? (i := 449) (by decide +kernel)))
  obtain ⟨c1, i1, h1⟩ := u_known (C := RX1) (T := TX1) (N := 7) (n := 7) hts inX1 (ht (.instantiable RX1 7) (List.mem_of_getElem? (i := 233) (by decide +kernel)))
  obtain ⟨c2, i2, h2⟩ := u_known (C := RX2) (T := TX2) (N := 5) (n := 5) hts inX2 (ht (.instantiable RX2 5) (List.mem_of_getElem? (i := 197) (by decide +kernel)))
  obtain ⟨c3, i3, h3⟩ := u_known (C := RX3) (T := TX3) (N := 6) (n := 6) hts inX3 (ht (.instantiable RX3 6) (List.mem_of_getElem? (i := 161) (by decide +kernel)))
  obtain ⟨c4, i4, h4⟩ := u_known (C := RX4) (T := TX4) (N := 3) (n := 3) hts inX4 (ht (.instantiable RX4 3) (List.mem_of_getElem? (i := 397) (by decide +kernel)))
  obtain ⟨c5, i5, h5⟩ := u_known (C := RX5) (T := TX5) (N := 6) (n := 6) hts inX5 (ht (.instantiable RX5 6) (List.mem_of_getElem? (i := 265) (by decide +kernel)))
  obtain ⟨c6, i6, h6⟩ := u_known (C := RX6) (T := TX6) (N := 23) (n := 23) hts inX6 (ht (.instantiable RX6 23) (List.mem_of_getElem? (i := 381) (by decide +kernel)))
  refine ⟨(fun k => match k with | 0 => c0 | 1 => c1 | 2 => c2 | 3 => c3 | 4 => c4 | 5 => c5 | _ => c6, fun k => match k with | 0 => i0 | 1 => i1 | 2 => i2 | 3 => i3 | 4 => i4 | 5 => i5 | _ => i6), ?_⟩
  intro k q hq
  match k, hq with
  | 0, hq => cases hq; exact h0
  | 1, hq => cases hq; exact h1
  | 2, hq => cases hq; exact h2
  | 3, hq => cases hq; exact h3
  | 4, hq => cases hq; exact h4
  | 5, hq => cases hq; exact h5
  | 6, hq => cases hq; exact h6
  | k + 7, hq => simp [vwCl] at hq
theorem lw_world {s : State} {b L : Nat} {xs : Nat → Int32} (hL : L ≤ 260) (hts : ∀ w ∈ lw_tbl, w.before #[Value.ref b] s = true) (hgv : (Jvm.Cond.and given_1 narrow_1).before #[Value.ref b] s = true) (hX : va_X b L xs s s.heap) (hbl : b < s.heap.size) : ∃ G : tm_G, tm_sb G = b ∧ tm_sL G = L ∧ va_K G.1 vwCl (tm_T G) s ∧ tm_N s ∧ tm_V G (fun q => s.heap.size ≤ q) s s.heap := by
  have ht : ∀ w ∈ tables_1, w.before #[Value.ref b] s = true := fun w h => hts w (List.mem_append_right _ h)
  have hs := flat_of_before _ hgv
  have hA : ∀ a : Nat, a < s.heap.size → ¬ (fun q => s.heap.size ≤ q) a := fun a h => Nat.not_le.mpr h
  obtain ⟨D, hD⟩ := lw_K0 hts
  have hN := lw_N ht hs
  obtain ⟨cI, aI, fI⟩ := lw_arr (ht (.arrayClass .int) (List.mem_of_getElem? (i := 485) (by decide +kernel)))
  obtain ⟨cD, aD, fD⟩ := lw_arr (ht (.arrayClass .double) (List.mem_of_getElem? (i := 486) (by decide +kernel)))
  obtain ⟨cF, aF, fF⟩ := lw_arr (ht (.arrayClass .float) (List.mem_of_getElem? (i := 513) (by decide +kernel)))
  obtain ⟨cP, aP, fP⟩ := lw_arrA hN.2.2.2.2
  obtain ⟨scr, x1, x2, x3, x4, x5⟩ := hX
  have hT : va_T .int b L (fun j => .int (xs j)) (fun q => s.heap.size ≤ q) s s.heap := ⟨scr, x1, x2, x3, Nat.le_of_eq x4.symm, by rw [x4], x5, Nat.not_le.mpr hbl⟩
  refine ⟨(D, cI, cD, cF, cP, b, L, xs), rfl, rfl, ⟨hD, ?_⟩, hN, lw_V ht hs hA (G := (D, cI, cD, cF, cP, b, L, xs)) hT⟩
  intro k q hq
  match k, hq with
  | 0, hq => cases hq; exact ⟨aI, fI⟩
  | 1, hq => cases hq; exact ⟨aD, fD⟩
  | 2, hq => cases hq; exact ⟨aF, fF⟩
  | 3, hq => cases hq; exact ⟨aP, fP⟩
  | k + 4, hq => simp [tm_T] at hq
