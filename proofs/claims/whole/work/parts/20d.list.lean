/-! the reckoner's list of lots: none, or one row of ten references and n rows of five ints -/
def tm_L (G : tm_G) (ed n : Nat) (ad : Nat → Nat) (rc : Nat → Nat → Int32) : va_W :=
  if n = 0 then [] else (ed, .inl (G.2.2.2.2.2.1, 10, .inr (.inr (.inr (.inr (fun k => if k < n then some (ad k) else none)))))) :: (List.range n).map (fun k => (ad k, .inl (G.2.1, 5, .inl (rc k))))
theorem tm_lt {x : Int32} {n : Nat} (h : vp_in x n) : x.toNatClampNeg < n := by
  unfold vp_in at h
  omega
theorem tm_L_pos {G : tm_G} {ed n : Nat} {ad : Nat → Nat} {rc : Nat → Nat → Int32} (h : 0 < n) : tm_L G ed n ad rc = (ed, .inl (G.2.2.2.2.2.1, 10, .inr (.inr (.inr (.inr (fun k => if k < n then some (ad k) else none)))))) :: (List.range n).map (fun k => (ad k, .inl (G.2.1, 5, .inl (rc k)))) := by
  unfold tm_L
  rw [if_neg (by omega)]
theorem tm_L_get {G : tm_G} {X : va_W} {ed n : Nat} {ad : Nat → Nat} {rc : Nat → Nat → Int32} {j : Nat} (h : j < n) : (X ++ tm_L G ed n ad rc)[X.length + (1 + j)]? = some (ad j, .inl (G.2.1, 5, .inl (rc j))) := by
  rw [tm_L_pos (by omega), List.getElem?_append_right (by omega), show X.length + (1 + j) - X.length = j + 1 by omega, List.getElem?_cons_succ, List.getElem?_map, List.getElem?_range h]
  rfl
theorem tm_L_set {G : tm_G} {X : va_W} {ed n : Nat} {ad : Nat → Nat} {rc : Nat → Nat → Int32} {j : Nat} {f : Nat → Int32} (h : j < n) : (X ++ tm_L G ed n ad rc).set (X.length + (1 + j)) (ad j, .inl (G.2.1, 5, .inl f)) = X ++ tm_L G ed n ad (vf_upd rc j f) := by
  rw [tm_L_pos (by omega), tm_L_pos (by omega), List.set_append_right _ _ (by omega), show X.length + (1 + j) - X.length = j + 1 by omega, List.set_cons_succ]
  congr 2
  apply List.ext_getElem?
  intro i
  rw [List.getElem?_set, List.getElem?_map]
  by_cases hi : j = i
  · subst hi
    rw [if_pos rfl, if_pos (by simpa using h), List.getElem?_map, List.getElem?_range h]
    simp [vf_upd]
  · rw [if_neg hi, List.getElem?_map]
    by_cases hn : i < n
    · rw [List.getElem?_range hn]
      simp [vf_upd, Ne.symm hi]
    · rw [List.getElem?_eq_none (by simpa using Nat.le_of_not_lt hn)]
      rfl
theorem tm_L_ed {G : tm_G} {X : va_W} {ed n : Nat} {ad : Nat → Nat} {rc : Nat → Nat → Int32} {j : Nat} (h : j < n) : (X ++ tm_L G ed n ad rc)[X.length + 0]? = some (ed, .inl (G.2.2.2.2.2.1, 10, .inr (.inr (.inr (.inr (fun k => if k < n then some (ad k) else none)))))) := by
  rw [tm_L_pos (by omega), List.getElem?_append_right (by omega), show X.length + 0 - X.length = 0 by omega]
  rfl
theorem tm_in10 {x : Int32} {n : Nat} (h : vp_in x n) (hn : n ≤ 10) : vp_in x 10 := fun q => h (q.imp id (fun z => Nat.le_trans hn z))
theorem tm_rf {n j : Nat} {ad : Nat → Nat} (h : j < n) : va_rf ((fun k => if k < n then some (ad k) else none) j) = .ref (ad j) := by
  show va_rf (if j < n then some (ad j) else none) = .ref (ad j)
  rw [if_pos h]
  rfl
