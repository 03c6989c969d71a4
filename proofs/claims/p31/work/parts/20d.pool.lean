/-! rows of rows of ints: one row of n references, and n rows of w ints -/
def tl_L (G : tm_G) (ed n : Nat) (ad : Nat → Nat) (w : Nat) (rc : Nat → Nat → Int32) : va_W :=
  (ed, .inl (G.2.2.2.2.1, n, .inr (.inr (.inr (.inr (fun k => if k < n then some (ad k) else none)))))) :: (List.range n).map (fun k => (ad k, .inl (G.2.1, w, .inl (rc k))))
section
variable {G : tm_G} {X Y : va_W} {ed n w : Nat} {ad : Nat → Nat} {rc : Nat → Nat → Int32}
theorem tm_lt {x : Int32} {n : Nat} (h : vp_in x n) : x.toNatClampNeg < n := by
  unfold vp_in at h
  omega
theorem tl_len : (tl_L G ed n ad w rc).length = 1 + n := by
  unfold tl_L
  simp [Nat.add_comm]
theorem tl_hd : (tl_L G ed n ad w rc)[0]? = some (ed, .inl (G.2.2.2.2.1, n, .inr (.inr (.inr (.inr (fun k => if k < n then some (ad k) else none)))))) := rfl
theorem tl_at {j : Nat} (h : j < n) : (tl_L G ed n ad w rc)[1 + j]? = some (ad j, .inl (G.2.1, w, .inl (rc j))) := by
  unfold tl_L
  rw [Nat.add_comm 1 j, List.getElem?_cons_succ, List.getElem?_map, List.getElem?_range h]
  rfl
theorem tl_st {j : Nat} {f : Nat → Int32} (h : j < n) : (tl_L G ed n ad w rc).set (1 + j) (ad j, .inl (G.2.1, w, .inl f)) = tl_L G ed n ad w (vf_upd rc j f) := by
  unfold tl_L
  rw [Nat.add_comm 1 j, List.set_cons_succ]
  congr 1
  apply List.ext_getElem?
  intro i
  rw [List.getElem?_set, List.getElem?_map]
  by_cases hi : j = i
  · subst hi
    rw [if_pos rfl, if_pos (by simpa using h), List.getElem?_map, List.getElem?_range h]
    simp [vf_upd]
  · rw [if_neg hi, List.getElem?_map]
    by_cases hn : i < n
    · rw [List.getElem?_range hn]
      simp [vf_upd, Ne.symm hi]
    · rw [List.getElem?_eq_none (by simpa using Nat.le_of_not_lt hn)]
      rfl
theorem tl_P_i {Z : va_W} {k : Nat} (h : k < Z.length) : (X ++ (Z ++ Y))[X.length + k]? = Z[k]? := by
  rw [List.getElem?_append_right (by omega), show X.length + k - X.length = k by omega, List.getElem?_append_left h]
theorem tl_Q_i {Z V : va_W} {k : Nat} (h : k < Z.length) : (X ++ (Y ++ (Z ++ V)))[X.length + (Y.length + k)]? = Z[k]? := by
  rw [List.getElem?_append_right (by omega), show X.length + (Y.length + k) - X.length = Y.length + k by omega, List.getElem?_append_right (by omega), show Y.length + k - Y.length = k by omega, List.getElem?_append_left h]
theorem tl_P_s {Z : va_W} {k : Nat} {e : Nat × va_E} (h : k < Z.length) : (X ++ (Z ++ Y)).set (X.length + k) e = X ++ (Z.set k e ++ Y) := by
  rw [List.set_append_right _ _ (by omega), show X.length + k - X.length = k by omega, List.set_append_left _ _ h]
theorem tl_Q_s {Z V : va_W} {k : Nat} {e : Nat × va_E} (h : k < Z.length) : (X ++ (Y ++ (Z ++ V))).set (X.length + (Y.length + k)) e = X ++ (Y ++ (Z.set k e ++ V)) := by
  rw [List.set_append_right _ _ (by omega), show X.length + (Y.length + k) - X.length = Y.length + k by omega, List.set_append_right _ _ (by omega), show Y.length + k - Y.length = k by omega, List.set_append_left _ _ h]
theorem tl_perm (P Q V : va_W) : (P ++ (Q ++ V)).Perm (Q ++ (P ++ V)) := by
  rw [← List.append_assoc, ← List.append_assoc]
  exact List.perm_append_comm.append_right V
theorem tl_P_hd : (X ++ (tl_L G ed n ad w rc ++ Y))[X.length + 0]? = some (ed, .inl (G.2.2.2.2.1, n, .inr (.inr (.inr (.inr (fun k => if k < n then some (ad k) else none)))))) := by
  rw [tl_P_i (by rw [tl_len]; omega)]
  exact tl_hd
theorem tl_Q_hd {V : va_W} : (X ++ (Y ++ (tl_L G ed n ad w rc ++ V)))[X.length + (Y.length + 0)]? = some (ed, .inl (G.2.2.2.2.1, n, .inr (.inr (.inr (.inr (fun k => if k < n then some (ad k) else none)))))) := by
  rw [tl_Q_i (by rw [tl_len]; omega)]
  exact tl_hd
theorem tl_P_get {j : Nat} (h : j < n) : (X ++ (tl_L G ed n ad w rc ++ Y))[X.length + (1 + j)]? = some (ad j, .inl (G.2.1, w, .inl (rc j))) := by
  rw [tl_P_i (by rw [tl_len]; omega)]
  exact tl_at h
theorem tl_Q_get {V : va_W} {j : Nat} (h : j < n) : (X ++ (Y ++ (tl_L G ed n ad w rc ++ V)))[X.length + (Y.length + (1 + j))]? = some (ad j, .inl (G.2.1, w, .inl (rc j))) := by
  rw [tl_Q_i (by rw [tl_len]; omega)]
  exact tl_at h
theorem tl_P_set {j : Nat} {f : Nat → Int32} (h : j < n) : (X ++ (tl_L G ed n ad w rc ++ Y)).set (X.length + (1 + j)) (ad j, .inl (G.2.1, w, .inl f)) = X ++ (tl_L G ed n ad w (vf_upd rc j f) ++ Y) := by
  rw [tl_P_s (by rw [tl_len]; omega), tl_st h]
theorem tl_Q_set {V : va_W} {j : Nat} {f : Nat → Int32} (h : j < n) : (X ++ (Y ++ (tl_L G ed n ad w rc ++ V))).set (X.length + (Y.length + (1 + j))) (ad j, .inl (G.2.1, w, .inl f)) = X ++ (Y ++ (tl_L G ed n ad w (vf_upd rc j f) ++ V)) := by
  rw [tl_Q_s (by rw [tl_len]; omega), tl_st h]
theorem tl_rf {n j : Nat} {ad : Nat → Nat} (h : j < n) : va_rf ((fun k => if k < n then some (ad k) else none) j) = .ref (ad j) := by
  show va_rf (if j < n then some (ad j) else none) = .ref (ad j)
  rw [if_pos h]
  rfl
theorem tl_kind {s : State} (hK : va_K G.1 vwCl (tm_T G) s) (h : tl_AA s) : ∃ kA : Class, s.vm.classes[G.2.2.2.2.1]? = some kA ∧ kA.kind = .array G.2.1 (.array .int) := by
  obtain ⟨comp, cA, kA, h1, -, h3, h4, h5⟩ := arrayOverA_spec h
  have e1 : comp = G.2.1 := Option.some.inj (h1.symm.trans (hK.2 0 (G.2.1, .int) rfl).2)
  have e2 : cA = G.2.2.2.2.1 := Option.some.inj (h5.symm.trans (hK.2 3 (G.2.2.2.2.1, .array .int) rfl).2)
  subst e1 e2
  exact ⟨kA, h3, h4⟩
end
/-! a new list: one reference more -/
theorem tl_up {n : Nat} {ad : Nat → Nat} {r : Nat} : va_up (fun k => if k < n then some (ad k) else none) n (some r) = fun k => if k < n + 1 then some (vf_upd ad n r k) else none := by
  funext k
  unfold va_up vf_upd
  by_cases h : k = n
  · subst h
    simp
  · by_cases h2 : k < n
    · simp [h, h2, show k < n + 1 by omega]
    · simp [h, h2, show ¬ k < n + 1 by omega]
theorem tl_map {G : tm_G} {n w : Nat} {ad : Nat → Nat} {rc : Nat → Nat → Int32} {r : Nat} {f : Nat → Int32} : ((List.range (n + 1)).map (fun k => ((vf_upd ad n r k, .inl (G.2.1, w, .inl (vf_upd rc n f k))) : Nat × va_E))) = (List.range n).map (fun k => ((ad k, .inl (G.2.1, w, .inl (rc k))) : Nat × va_E)) ++ ([(r, .inl (G.2.1, w, .inl f))] : va_W) := by
  rw [List.range_succ, List.map_append]
  congr 1
  · apply List.map_congr_left
    intro k hk
    have : k ≠ n := Nat.ne_of_lt (List.mem_range.mp hk)
    simp [vf_upd, this]
  · simp [vf_upd]
/-- the new list among the old cells -/
theorem tl_grow {G : tm_G} {X Y : va_W} {q ed n w : Nat} {ad : Nat → Nat} {rc : Nat → Nat → Int32} {r : Nat} {f : Nat → Int32} :
    (([(r, .inl (G.2.1, w, .inl f)), (q, .inl (G.2.2.2.2.1, n + 1, .inr (.inr (.inr (.inr (va_up (fun k => if k < n then some (ad k) else none) n (some r)))))))] : va_W) ++ (tl_L G ed n ad w rc ++ Y)).Perm ((tl_L G q (n + 1) (vf_upd ad n r) w (vf_upd rc n f) ++ Y) ++ ([(ed, .inl (G.2.2.2.2.1, n, .inr (.inr (.inr (.inr (fun k => if k < n then some (ad k) else none))))))] : va_W)) := by
  unfold tl_L
  rw [tl_map, tl_up]
  generalize (List.range n).map (fun k => ((ad k, .inl (G.2.1, w, .inl (rc k))) : Nat × va_E)) = M
  generalize ((ed, .inl (G.2.2.2.2.1, n, .inr (.inr (.inr (.inr (fun k => if k < n then some (ad k) else none)))))) : Nat × va_E) = e
  generalize ((r, .inl (G.2.1, w, .inl f)) : Nat × va_E) = a
  generalize ((q, .inl (G.2.2.2.2.1, n + 1, .inr (.inr (.inr (.inr (fun k => if k < n + 1 then some (vf_upd ad n r k) else none)))))) : Nat × va_E) = b
  show (a :: b :: (e :: M ++ Y)).Perm (((b :: (M ++ [a])) ++ Y) ++ [e])
  refine (List.Perm.swap _ _ _).trans ?_
  show (b :: a :: (e :: M ++ Y)).Perm (b :: (((M ++ [a]) ++ Y) ++ [e]))
  refine List.Perm.cons _ ?_
  refine List.Perm.trans ?_ (List.perm_append_comm (l₁ := [e]))
  show (a :: e :: (M ++ Y)).Perm (e :: ((M ++ [a]) ++ Y))
  refine (List.Perm.swap _ _ _).trans (List.Perm.cons _ ?_)
  refine List.Perm.trans ?_ ((List.perm_append_comm (l₁ := [a]) (l₂ := M)).append_right Y)
  exact List.Perm.refl _
theorem tl_zero {G : tm_G} {q w : Nat} {ad : Nat → Nat} {rc : Nat → Nat → Int32} : ([(q, .inl (G.2.2.2.2.1, 0, .inr (.inr (.inr (.inr (fun _ => none))))))] : va_W) = tl_L G q 0 ad w rc := by
  unfold tl_L
  simp
section
variable {p : Program} {l : Launch} {e : Env} {R : Room} {s : State} {m : MethodId} {args : Array Value} {below : List Frame} {meth : Method} {c : Code} {H : Heap} {locs : List Loc} {cells slots : Nat} {Q : State → Prop}
variable {cc : ByteArray} {pc : Nat} {ls : Array Slot} {rest : List Value} {D : va_G} {cl : List vw_C} {A : Nat → Prop} {a : Nat} {tys : List (ClassId × FieldType)} {ws : va_W} {H0 : Heap}
theorem tl_ald (hexec : p.tables.exec = Jvm.exec) (hb : c.code = cc) (hK : va_K D cl tys s) (hP : va_P D cl ws H) (q0 t0 : Nat) {cA : ClassId} {n : Nat} {f : Nat → Option Nat} (ha : ws[q0]? = some (a, .inl (cA, n, .inr (.inr (.inr (.inr f)))))) (ht : tys[t0]? = some (cA, .array .int)) {i : Int32} (hin : vp_in i n) (hdg : decode cc pc = .ok (.aaload, 1))
    (kk : W p l e R s m args below meth c H locs cells slots Q (F0 m (pc + 1) ls (va_rf (f i.toNatClampNeg) :: rest))) : W p l e R s m args below meth c H locs cells slots Q (F0 m pc ls (.int i :: .ref a :: rest)) := by
  have hlt : i.toNatClampNeg < n := Nat.not_le.mp fun q => hin (Or.inr q)
  exact W.aald (v := va_rf (f i.toNatClampNeg)) (ty := .array .int) hexec hb (hP q0 _ ha) ((hK.2 t0 _ ht).1 n (fun j => va_rf (f j))) rfl (fun q => by cases q) (by show ¬ (i < 0 ∨ (arrV _ _ _).slots.size ≤ _); rw [arrV_size]; exact hin) (by show (arrV _ _ _).slots[_]? = _; rw [arrV_read _ _ hlt]) rfl rfl hdg kk
/-- a row of ints put into a row of rows -/
theorem tl_ast {G : tm_G} (hexec : p.tables.exec = Jvm.exec) (hb : c.code = cc) (hK : va_K G.1 vwCl (tm_T G) s) (hN : tl_AA s) (hP : va_P G.1 vwCl ws H) (hD : va_D A ws) (hS : va_S A H0 H locs) (q0 qk : Nat) {n k v : Nat} {f : Nat → Option Nat} {g : Nat → Int32} (ha : ws[q0]? = some (a, .inl (G.2.2.2.2.1, n, .inr (.inr (.inr (.inr f)))))) (hv : ws[qk]? = some (v, .inl (G.2.1, k, .inl g))) {i : Int32} (hin : vp_in i n) (hdg : decode cc pc = .ok (.aastore, 1))
    (kk : ∀ (H1 : Heap) (locs1 : List Loc), va_P G.1 vwCl (ws.set q0 (a, .inl (G.2.2.2.2.1, n, .inr (.inr (.inr (.inr (va_up f i.toNatClampNeg (some v)))))))) H1 → va_D A (ws.set q0 (a, .inl (G.2.2.2.2.1, n, .inr (.inr (.inr (.inr (va_up f i.toNatClampNeg (some v)))))))) → va_S A H0 H1 locs1 → W p l e R s m args below meth c H1 locs1 cells slots Q (F0 m (pc + 1) ls rest)) : W p l e R s m args below meth c H locs cells slots Q (F0 m pc ls (.ref v :: .int i :: .ref a :: rest)) := by
  have hlt : i.toNatClampNeg < n := Nat.not_le.mp fun q => hin (Or.inr q)
  have h0 : ¬ i < 0 := fun q => hin (Or.inl q)
  obtain ⟨kA, k1, k2⟩ := tl_kind hK hN
  obtain ⟨kI, hkI, -⟩ := Vm.findClass_spec (hK.2 0 (G.2.1, .int) rfl).2
  have hcv : H[v]? = some (vp_cell G.2.1 (k, .inl g)) := hP qk _ hv
  refine W.aast hexec hb (hP q0 _ ha) (fun q h => by cases h) (fun h => by cases h) k1 k2 rfl hkI ⟨h0, by show _ < (arrV _ _ _).slots.size; rw [arrV_size]; exact hlt⟩ hcv (fun q h => by cases h) hkI (by show s.vm.assignableAux (255 + 1) G.2.1 G.2.1 = true; unfold Vm.assignableAux; simp only [beq_self_eq_true, Bool.true_or]) rfl rfl hdg fun H1 e z oq => ?_
  refine kk H1 _ (hP.set hD ha ?_ oq) (hD.set ha) (hS.put z oq (hD.2 q0 _ ha))
  show H1[a]? = some (vp_cell _ _)
  rw [e]
  rw [vp_cell_q, vp_cell_q, arrV_store]
  congr 2
  funext q
  by_cases hq : q = i.toNatClampNeg
  · subst hq
    simp [updV, va_up, va_rf]
  · simp [updV, va_up, hq]
/-- a new row of rows, of nulls -/
theorem tl_new {G : tm_G} (hexec : p.tables.exec = Jvm.exec) (hb : c.code = cc) {own : String} {index : Nat} (hown : s.vm.findClass own = some m.cls) (hclink : (Cond.classLink own index "[I").before args s = true) (hN : tl_AA s) (hK : va_K G.1 vwCl (tm_T G) s) (hP : va_P G.1 vwCl ws H) (hD : va_D A ws) (hS : va_S A H0 H locs) (hA : ∀ q, H0.size ≤ q → A q)
    {n : Int32} {N' : Nat} (hn : ¬ n < 0) (hN' : n.toNatClampNeg = N') (hbytes : N' * 4 ≤ 536870912) (hcells : cells + 1 ≤ R.cells) (hslots : slots + N' ≤ R.slots) (hdg : decode cc pc = .ok (.anewarray index, 3))
    (kk : ∀ (q : Nat) (H1 : Heap), va_P G.1 vwCl (ws ++ [(q, .inl (G.2.2.2.2.1, N', .inr (.inr (.inr (.inr (fun _ => none))))))]) H1 → va_D A (ws ++ [(q, .inl (G.2.2.2.2.1, N', .inr (.inr (.inr (.inr (fun _ => none))))))]) → va_S A H0 H1 locs →
      W p l e R s m args below meth c H1 locs (cells + 1) (slots + N') Q (F0 m (pc + 3) ls (.ref q :: rest))) : W p l e R s m args below meth c H locs cells slots Q (F0 m pc ls (.int n :: rest)) := by
  subst hN'
  refine W.anewA (t := .int) hexec hb hown hclink (tl_AA_use hN) rfl hdg rfl hn hbytes hcells hslots fun cA kA comp f1 f2 f3 f4 => ?_
  have e1 : cA = G.2.2.2.2.1 := Option.some.inj (f1.symm.trans (hK.2 3 (G.2.2.2.2.1, .array .int) rfl).2)
  subst e1
  generalize hH1 : H.push ({ cls := G.2.2.2.2.1, slots := Array.replicate n.toNatClampNeg .null, vm := .none } : Cell) = H1
  have z1 : H1.size = H.size + 1 := by rw [← hH1, Array.size_push]
  have e1 : H1[H.size]? = some (arrV G.2.2.2.2.1 n.toNatClampNeg (fun _ => .null)) := by rw [← hH1, Array.getElem?_push_size, ← arrV_new]
  have o1 : ∀ q : Nat, q < H.size → H1[q]? = H[q]? := fun q hq => by rw [← hH1, Array.getElem?_push, if_neg (Nat.ne_of_lt hq)]
  have hk : ∀ (k : Nat) (x : Nat × va_E), ws[k]? = some x → H1[x.1]? = H[x.1]? := fun k x hx => o1 x.1 ((hP k x hx).lt)
  refine kk H.size H1 ((hP.kept hk).app (fun k x hx => ?_)) (hD.push hP rfl (hA _ hS.1)) ⟨Nat.le_trans hS.1 (by omega), fun x h1 h2 => (o1 x (Nat.lt_of_lt_of_le h1 hS.1)).trans (hS.2.1 x h1 h2), hS.2.2⟩
  have hz : k < 1 := (List.getElem?_eq_some_iff.mp hx).1
  rw [show k = 0 by omega] at hx
  cases hx
  show H1[H.size]? = some (vp_cell _ _)
  rw [vp_cell_q]
  exact e1
end
