/-! rows of references: what they may hold, what one more lot makes of the list -/
theorem tm_cA_Q {G : tm_G} {s : State} {cA : ClassId} (h : va_K G.1 vwCl (tm_T G ++ [(cA, .object "java/lang/Object")]) s) : cA = G.2.2.2.2.2.1 := by
  obtain ⟨_, _, _, _, _, h1⟩ := (h.2 6 (cA, .object "java/lang/Object") rfl).2
  obtain ⟨_, _, _, _, _, h2⟩ := (h.2 4 (G.2.2.2.2.2.1, .object "java/lang/Object") rfl).2
  exact Option.some.inj (h1.symm.trans h2)
theorem tm_aAny {G : tm_G} {s : State} {H : Heap} {ws : va_W} {q0 a n : Nat} {f : Nat → Int32} (hK : va_K G.1 vwCl (tm_T G) s) (hN : tm_N s) (hP : va_P G.1 vwCl ws H) (he : ws[q0]? = some (a, .inl (G.2.1, n, .inl f))) : va_Any "java/lang/Object" s H a := by
  have h1 : H[a]? = some (vp_cell G.2.1 (n, .inl f)) := hP q0 _ he
  have h2 : s.vm.findClass "[I" = some G.2.1 := (hK.2 0 (G.2.1, .int) rfl).2
  have hc : (Cond.castable "[I" "java/lang/Object").before #[] s = true := va_Nw.use rfl (hN.2.1 ("[I", "java/lang/Object") (List.mem_of_getElem? (i := 3) rfl))
  obtain ⟨c, t, g1, g2, g3⟩ := Cond.castable_spec hc
  obtain ⟨kC, hkC, -⟩ := Vm.findClass_spec h2
  refine ⟨_, h1, rfl, ⟨kC, hkC⟩, fun comp h => ?_⟩
  have e1 : c = G.2.1 := Option.some.inj (g1.symm.trans h2)
  have e2 : t = comp := Option.some.inj (g2.symm.trans h)
  subst e1 e2
  exact g3
theorem tm_nI {n : Nat} (h : n < 10) : (nI n).toNatClampNeg = n := by
  revert n
  decide
theorem tm_up {n : Nat} {ad : Nat → Nat} {r : Nat} : va_up (fun k => if k < n then some (ad k) else none) n (some r) = fun k => if k < n + 1 then some (vf_upd ad n r k) else none := by
  funext k
  unfold va_up vf_upd
  by_cases h : k = n
  · subst h
    simp
  · by_cases h2 : k < n
    · simp [h, h2, show k < n + 1 by omega]
    · simp [h, h2, show ¬ k < n + 1 by omega]
theorem tm_map {G : tm_G} {n : Nat} {ad : Nat → Nat} {rc : Nat → Nat → Int32} {r : Nat} {f : Nat → Int32} : ((List.range (n + 1)).map (fun k => ((vf_upd ad n r k, .inl (G.2.1, 5, .inl (vf_upd rc n f k))) : Nat × va_E))) = (List.range n).map (fun k => ((ad k, .inl (G.2.1, 5, .inl (rc k))) : Nat × va_E)) ++ ([(r, .inl (G.2.1, 5, .inl f))] : va_W) := by
  rw [List.range_succ, List.map_append]
  congr 1
  · apply List.map_congr_left
    intro k hk
    have : k ≠ n := Nat.ne_of_lt (List.mem_range.mp hk)
    simp [vf_upd, this]
  · simp [vf_upd]
theorem tm_L_one {G : tm_G} {X : va_W} {q n : Nat} {ad : Nat → Nat} {rc : Nat → Nat → Int32} {r : Nat} {f : Nat → Int32} : (X ++ ([(r, .inl (G.2.1, 5, .inl f)), (q, .inl (G.2.2.2.2.2.1, 10, .inr (.inr (.inr (.inr (va_up (fun k => if k < n then some (ad k) else none) n (some r)))))))] : va_W) ++ (List.range n).map (fun k => ((ad k, .inl (G.2.1, 5, .inl (rc k))) : Nat × va_E))).Perm (X ++ tm_L G q (n + 1) (vf_upd ad n r) (vf_upd rc n f)) := by
  rw [tm_L_pos (by omega), tm_map, tm_up, List.append_assoc]
  refine List.Perm.append_left X ?_
  refine (List.Perm.swap _ _ _).trans ?_
  refine List.Perm.cons _ ?_
  exact (List.perm_append_comm (l₁ := [_]))
theorem tm_L_add {G : tm_G} {X : va_W} {ed n : Nat} {ad : Nat → Nat} {rc : Nat → Nat → Int32} {r : Nat} {f : Nat → Int32} (h : 0 < n) : (((X ++ ([(r, .inl (G.2.1, 5, .inl f))] : va_W)) ++ tm_L G ed n ad rc).set ((X ++ ([(r, .inl (G.2.1, 5, .inl f))] : va_W)).length + 0) (ed, .inl (G.2.2.2.2.2.1, 10, .inr (.inr (.inr (.inr (va_up (fun k => if k < n then some (ad k) else none) n (some r)))))))).Perm (X ++ tm_L G ed (n + 1) (vf_upd ad n r) (vf_upd rc n f)) := by
  rw [tm_L_pos h, List.set_append_right _ _ (by omega), show ∀ k : Nat, k + 0 - k = 0 from fun k => by omega, List.set_cons_zero]
  refine List.Perm.trans ?_ (tm_L_one (X := X) (q := ed) (n := n) (ad := ad) (rc := rc) (r := r) (f := f))
  rw [List.append_assoc, List.append_assoc]
  exact List.Perm.refl _
theorem tm_in10n {n : Nat} (h : n < 10) : vp_in (nI n) 10 := by
  show ¬ (nI n < 0 ∨ 10 ≤ (nI n).toNatClampNeg)
  revert n
  decide
