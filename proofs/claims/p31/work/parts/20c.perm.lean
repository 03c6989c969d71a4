/-! a world's rows in another order -/
theorem tm_permD {A : Nat → Prop} {ws ws' : va_W} (hp : ws.Perm ws') (h : va_D A ws) : va_D A ws' := by
  have hn : (ws.map (·.1)).Nodup := by
    rw [List.Nodup, List.pairwise_iff_getElem]
    intro i j hi hj hij he
    simp only [List.length_map] at hi hj
    simp only [List.getElem_map] at he
    exact absurd (h.1 i j _ _ (List.getElem?_eq_getElem hi) (List.getElem?_eq_getElem hj) he) (Nat.ne_of_lt hij)
  have hn' : (ws'.map (·.1)).Nodup := (hp.map (·.1)).nodup_iff.mp hn
  rw [List.Nodup, List.pairwise_iff_getElem] at hn'
  refine ⟨fun i j p q hi hj he => ?_, fun k q hq => ?_⟩
  · obtain ⟨hi1, hi2⟩ := List.getElem?_eq_some_iff.mp hi
    obtain ⟨hj1, hj2⟩ := List.getElem?_eq_some_iff.mp hj
    rcases Nat.lt_trichotomy i j with g | g | g
    · exact absurd (by rw [List.getElem_map, List.getElem_map, hi2, hj2, he]) (hn' i j (by simpa using hi1) (by simpa using hj1) g)
    · exact g
    · exact absurd (by rw [List.getElem_map, List.getElem_map, hi2, hj2, he]) (hn' j i (by simpa using hj1) (by simpa using hi1) g)
  · have hm := hp.symm.mem_iff.mp (List.mem_of_getElem? hq)
    obtain ⟨k', hk'⟩ := List.getElem?_of_mem hm
    exact h.2 k' q hk'
theorem tm_permP {D : va_G} {cl : List vw_C} {ws ws' : va_W} {H : Heap} (hp : ws.Perm ws') (h : va_P D cl ws H) : va_P D cl ws' H := by
  intro k q hq
  have hm := hp.symm.mem_iff.mp (List.mem_of_getElem? hq)
  obtain ⟨k', hk'⟩ := List.getElem?_of_mem hm
  exact h k' q hk'
theorem tm_swap {X L Y : va_W} : ((X ++ L) ++ Y).Perm ((X ++ Y) ++ L) := by
  rw [List.append_assoc, List.append_assoc]
  exact List.Perm.append_left X List.perm_append_comm
theorem tm_swapD {A : Nat → Prop} {X L Y : va_W} (h : va_D A ((X ++ L) ++ Y)) : va_D A ((X ++ Y) ++ L) := tm_permD tm_swap h
theorem tm_swapP {D : va_G} {cl : List vw_C} {X L Y : va_W} {H : Heap} (h : va_P D cl ((X ++ L) ++ Y) H) : va_P D cl ((X ++ Y) ++ L) H := tm_permP tm_swap h
