/-! counts, sums and searches, both sides -/
theorem li_c4 : (4 : Int32).toNatClampNeg = 4 := rfl
theorem li_c0 : (0 : Int32).toNatClampNeg = 0 := rfl
theorem li_c2 : (2 : Int32).toNatClampNeg = 2 := rfl
theorem li_in5 (k : Nat) (hk : k < 5) : vp_in (nI k) 5 := vp_in_nI hk (by decide)
theorem li_pair {P : Nat} (hP : P ≤ 3) (x : Int32) : f_X7_isPair (nI P) x = f_X2_has (nI P) x := by
  unfold f_X7_isPair f_X7_in f_X2_has
  have h : (nI P - 1).toInt = (P : Int) - 1 := by
    have := pk_sub_toInt (a := P) (b := 1) (by omega) (by omega)
    exact this
  by_cases c : x < 0
  · rw [if_pos c, if_pos c]
  · rw [if_neg c, if_neg c]
    by_cases c2 : nI P ≤ x
    · rw [if_pos c2, if_pos]
      rw [Int32.lt_iff_toInt_lt, h]
      rw [Int32.le_iff_toInt_le, nI_toInt (by omega)] at c2
      omega
    · rw [if_neg c2, if_neg]
      rw [Int32.lt_iff_toInt_lt, h]
      rw [Int32.le_iff_toInt_le, nI_toInt (by omega)] at c2
      omega
theorem li_lot {n : Nat} (hn : n ≤ 10) (x : Int32) : f_X7_isLot x n = f_X0_has (nI n) x := by
  unfold f_X7_isLot f_X7_in f_X0_has f_Jx4a65c_size_8abf5
  have h : (nI n - 1).toInt = (n : Int) - 1 := by
    have := pk_sub_toInt (a := n) (b := 1) (by omega) (by omega)
    exact this
  by_cases c : x < 0
  · rw [if_pos c, if_pos c]
  · rw [if_neg c, if_neg c]
    by_cases c2 : nI n ≤ x
    · rw [if_pos c2, if_pos]
      rw [Int32.lt_iff_toInt_lt, h]
      rw [Int32.le_iff_toInt_le, nI_toInt (by omega)] at c2
      omega
    · rw [if_neg c2, if_neg]
      rw [Int32.lt_iff_toInt_lt, h]
      rw [Int32.le_iff_toInt_le, nI_toInt (by omega)] at c2
      omega
theorem li_in01 (a b c : Int32) : tm_bool (f_X7_in a b c) := by
  unfold f_X7_in
  split
  · exact Or.inl rfl
  · split
    · exact Or.inl rfl
    · exact Or.inr rfl
theorem li_pairN (pn x : Int32) : n_X7_isPair pn x := li_in01 _ _ _
theorem li_lotN (x : Int32) (n : Nat) : n_X7_isLot x n := li_in01 _ _ _
theorem li_has2 {P : Nat} (hP : P ≤ 3) {x : Int32} (h : ¬ f_X2_has (nI P) x = 0) : ∃ p, p < P ∧ x = nI p := by
  unfold f_X2_has at h
  rcases pk_ix x (n := P) (by omega) with c | c | c
  · rw [if_pos c] at h
    exact absurd rfl h
  · by_cases c2 : x < 0
    · rw [if_pos c2] at h
      exact absurd rfl h
    · rw [if_neg c2, if_pos c] at h
      exact absurd rfl h
  · exact c
theorem li_has0 {n : Nat} (hn : n ≤ 10) {x : Int32} (h : ¬ f_X0_has (nI n) x = 0) : ∃ p, p < n ∧ x = nI p := by
  unfold f_X0_has at h
  rcases pk_ix x (n := n) (by omega) with c | c | c
  · rw [if_pos c] at h
    exact absurd rfl h
  · by_cases c2 : x < 0
    · rw [if_pos c2] at h
      exact absurd rfl h
    · rw [if_neg c2, if_pos c] at h
      exact absurd rfl h
  · exact c
/-- a number within bounds is a small one -/
theorem li_in {x : Int32} {N : Nat} {M : Int32} (hN : N < 2 ^ 31) (hM : M = nI N) (h : ¬ f_X7_in x 0 M = 0) : ∃ k, k ≤ N ∧ x = nI k := by
  subst hM
  unfold f_X7_in at h
  by_cases c : x < 0
  · rw [if_pos c] at h
    exact absurd rfl h
  · by_cases c2 : nI N < x
    · rw [if_neg c, if_pos c2] at h
      exact absurd rfl h
    · obtain ⟨j, hj, rfl⟩ := nI_of c
      exact ⟨j, Nat.le_of_not_lt fun h9 => c2 (nI_lt h9 hj), rfl⟩
theorem li_isW (a b c : Int32) : f_X5_isWithin a b c = f_X7_in a b c := rfl
theorem li_count {n : Nat} {sa : Nat → Int32} {rc : Nat → Nat → Int32} (hn : n ≤ 10) (h : ∀ k, k < n → rc k 4 = sa k) (v : Int32) :
    ∀ (d i fuel fuel2 : Nat) (acc : Int32), i + d = n → d < fuel → d < fuel2 →
      f_X0_countOf_4 (nI n) sa v fuel acc (nI i) = f_X7_count_4 v n rc fuel2 acc (nI i) ∧ n_X0_countOf_4 (nI n) sa v fuel acc (nI i) ∧ n_X7_count_4 v n rc fuel2 acc (nI i) := by
  intro d
  induction d with
  | zero =>
    intro i fuel fuel2 acc hi hf hf2
    obtain ⟨f, rfl⟩ : ∃ f, fuel = f + 1 := ⟨fuel - 1, by omega⟩
    obtain ⟨f2, rfl⟩ : ∃ f, fuel2 = f + 1 := ⟨fuel2 - 1, by omega⟩
    have e : i = n := by omega
    subst e
    have hle : nI i ≤ nI i := nI_le (Nat.le_refl _) (by omega)
    have hle2 : f_Jx4a65c_size_8abf5 (nI i) ≤ nI i := hle
    refine ⟨?_, ?_, ?_⟩
    · rw [f_X0_countOf_4.eq_2, if_pos hle, f_X7_count_4.eq_2, if_pos hle2]
    · rw [n_X0_countOf_4.eq_2]
      exact ⟨fun c => absurd hle c, fun c => absurd hle c, fun c => absurd hle c⟩
    · rw [n_X7_count_4.eq_2]
      exact ⟨fun c => absurd hle2 c, fun c => absurd hle2 c, fun c => absurd hle2 c, fun c => absurd hle2 c, fun c => absurd hle2 c⟩
  | succ d ih =>
    intro i fuel fuel2 acc hi hf hf2
    obtain ⟨f, rfl⟩ : ∃ f, fuel = f + 1 := ⟨fuel - 1, by omega⟩
    obtain ⟨f2, rfl⟩ : ∃ f, fuel2 = f + 1 := ⟨fuel2 - 1, by omega⟩
    have hlt : ¬ nI n ≤ nI i := nI_ge (by omega) (by omega)
    have hlt2 : ¬ f_Jx4a65c_size_8abf5 (nI n) ≤ nI i := hlt
    have h1 : nI i + 1 = nI (i + 1) := nI_1 i
    have hc : (nI i).toNatClampNeg = i := nI_clamp (by omega)
    have ii : vp_in (nI i) 10 := vp_in_nI (by omega) (by decide)
    have ij : vp_in (nI i) n := vp_in_nI (by omega) (by omega)
    have hg := ge_get (n := n) (j := i) (by omega) hn
    have hr := h i (by omega)
    by_cases c : sa i = v
    · obtain ⟨b1, b2, b3⟩ := ih (i + 1) f f2 (acc + 1) (by omega) (by omega) (by omega)
      refine ⟨?_, ?_, ?_⟩
      · rw [f_X0_countOf_4.eq_2, if_neg hlt, f_X7_count_4.eq_2, if_neg hlt2, hc, li_c4, hr, if_pos c, if_pos c, h1, b1]
      · rw [n_X0_countOf_4.eq_2, hc, h1]
        exact ⟨fun _ => ii, fun _ c9 => absurd c c9, fun _ _ => b2⟩
      · rw [n_X7_count_4.eq_2, hc, h1, li_c4, hr]
        exact ⟨fun _ => hg, fun _ => ij, fun _ => li_in5 4 (by decide), fun _ c9 => absurd c c9, fun _ _ => b3⟩
    · obtain ⟨b1, b2, b3⟩ := ih (i + 1) f f2 acc (by omega) (by omega) (by omega)
      have ha : acc + 0 = acc := Int32.add_zero acc
      refine ⟨?_, ?_, ?_⟩
      · rw [f_X0_countOf_4.eq_2, if_neg hlt, f_X7_count_4.eq_2, if_neg hlt2, hc, li_c4, hr, if_neg c, if_neg c, h1, ha, b1]
      · rw [n_X0_countOf_4.eq_2, hc, h1]
        exact ⟨fun _ => ii, fun _ _ => b2, fun _ c9 => absurd c9 c⟩
      · rw [n_X7_count_4.eq_2, hc, h1, li_c4, hr, ha]
        exact ⟨fun _ => hg, fun _ => ij, fun _ => li_in5 4 (by decide), fun _ _ => b3, fun _ c9 => absurd c9 c⟩
theorem li_countE {n : Nat} {sa : Nat → Int32} {rc : Nat → Nat → Int32} (hn : n ≤ 10) (h : ∀ k, k < n → rc k 4 = sa k) (v : Int32) : f_X0_countOf (nI n) sa v = f_X7_count v n rc ∧ n_X0_countOf (nI n) sa v ∧ n_X7_count v n rc :=
  li_count hn h v n 0 12 12 0 (by omega) (by omega) (by omega)
theorem li_weight {n : Nat} {ow we sa : Nat → Int32} {rc : Nat → Nat → Int32} (hn : n ≤ 10) (h0 : ∀ k, k < n → rc k 0 = ow k) (h2 : ∀ k, k < n → rc k 2 = we k) (h4 : ∀ k, k < n → rc k 4 = sa k) (o a : Int32) :
    ∀ (d i fuel fuel2 : Nat) (acc : Int32), i + d = n → d < fuel → d < fuel2 →
      f_X0_weightOf_5 (nI n) ow we sa o a fuel acc (nI i) = f_X7_ownerNow_5 o a n rc fuel2 acc (nI i) ∧ n_X0_weightOf_5 (nI n) ow we sa o a fuel acc (nI i) ∧ n_X7_ownerNow_5 o a n rc fuel2 acc (nI i) := by
  intro d
  induction d with
  | zero =>
    intro i fuel fuel2 acc hi hf hf2
    obtain ⟨f, rfl⟩ : ∃ f, fuel = f + 1 := ⟨fuel - 1, by omega⟩
    obtain ⟨f2, rfl⟩ : ∃ f, fuel2 = f + 1 := ⟨fuel2 - 1, by omega⟩
    have e : i = n := by omega
    subst e
    have hle : nI i ≤ nI i := nI_le (Nat.le_refl _) (by omega)
    have hle2 : f_Jx4a65c_size_8abf5 (nI i) ≤ nI i := hle
    refine ⟨?_, ?_, ?_⟩
    · rw [f_X0_weightOf_5.eq_2, if_pos hle, f_X7_ownerNow_5.eq_2, if_pos hle2]
    · rw [n_X0_weightOf_5.eq_2]
      exact ⟨fun c => absurd hle c, fun c => absurd hle c, fun c => absurd hle c, fun c => absurd hle c, fun c => absurd hle c⟩
    · rw [n_X7_ownerNow_5.eq_2]
      exact ⟨fun c => absurd hle2 c, fun c => absurd hle2 c, fun c => absurd hle2 c, fun c => absurd hle2 c, fun c => absurd hle2 c, fun c => absurd hle2 c, fun c => absurd hle2 c, fun c => absurd hle2 c, fun c => absurd hle2 c, fun c => absurd hle2 c⟩
  | succ d ih =>
    intro i fuel fuel2 acc hi hf hf2
    obtain ⟨f, rfl⟩ : ∃ f, fuel = f + 1 := ⟨fuel - 1, by omega⟩
    obtain ⟨f2, rfl⟩ : ∃ f, fuel2 = f + 1 := ⟨fuel2 - 1, by omega⟩
    have hlt : ¬ nI n ≤ nI i := nI_ge (by omega) (by omega)
    have hlt2 : ¬ f_Jx4a65c_size_8abf5 (nI n) ≤ nI i := hlt
    have h1 : nI i + 1 = nI (i + 1) := nI_1 i
    have hc : (nI i).toNatClampNeg = i := nI_clamp (by omega)
    have ii : vp_in (nI i) 10 := vp_in_nI (by omega) (by decide)
    have ij : vp_in (nI i) n := vp_in_nI (by omega) (by omega)
    have hg := ge_get (n := n) (j := i) (by omega) hn
    have r0 := h0 i (by omega)
    have r2 := h2 i (by omega)
    have r4 := h4 i (by omega)
    have ha : acc + 0 = acc := Int32.add_zero acc
    have i0 : vp_in 0 5 := li_in5 0 (by decide)
    have i2 : vp_in 2 5 := li_in5 2 (by decide)
    have i4 : vp_in 4 5 := li_in5 4 (by decide)
    obtain ⟨b1, b2, b3⟩ := ih (i + 1) f f2 acc (by omega) (by omega) (by omega)
    obtain ⟨d1, d2, d3⟩ := ih (i + 1) f f2 (acc + we i) (by omega) (by omega) (by omega)
    refine ⟨?_, ?_, ?_⟩
    · rw [f_X0_weightOf_5.eq_2, if_neg hlt, f_X7_ownerNow_5.eq_2, if_neg hlt2, hc, li_c4, li_c0, li_c2, r0, r2, r4, h1, ha, b1, d1]
    · rw [n_X0_weightOf_5.eq_2, hc, h1]
      exact ⟨fun _ => ii, fun _ _ => b2, fun _ _ _ => d2, fun _ _ _ _ => b2, fun _ _ _ _ => d2⟩
    · rw [n_X7_ownerNow_5.eq_2, hc, h1, li_c4, li_c0, li_c2, r0, r2, r4, ha]
      exact ⟨fun _ => hg, fun _ => ij, fun _ => i0, fun _ _ => b3, fun _ _ _ => i2, fun _ _ _ => d3, fun _ _ _ => i4, fun _ _ _ _ => b3, fun _ _ _ _ => i2, fun _ _ _ _ => d3⟩
theorem li_weightE {n : Nat} {ow we sa : Nat → Int32} {rc : Nat → Nat → Int32} (hn : n ≤ 10) (h0 : ∀ k, k < n → rc k 0 = ow k) (h2 : ∀ k, k < n → rc k 2 = we k) (h4 : ∀ k, k < n → rc k 4 = sa k) (o a : Int32) : f_X0_weightOf (nI n) ow we sa o a = f_X7_ownerNow o a n rc ∧ n_X0_weightOf (nI n) ow we sa o a ∧ n_X7_ownerNow o a n rc :=
  li_weight hn h0 h2 h4 o a n 0 12 12 0 (by omega) (by omega) (by omega)
theorem li_settle {n : Nat} {dn : Nat → Int32} {rc : Nat → Nat → Int32} (hn : n ≤ 10) :
    ∀ (d i fuel : Nat) (y : Nat → Nat → Int32), i + d = n → d < fuel → (∀ k, k < i → y k 4 = if ¬ dn k = 0 ∧ rc k 4 = 1 then 2 else rc k 4) → (∀ k, i ≤ k → y k 4 = rc k 4) → (∀ k c, c ≠ 4 → y k c = rc k c) →
      (∀ k, k < n → f_X7_settle_2 dn n fuel (nI i) y k 4 = if ¬ dn k = 0 ∧ rc k 4 = 1 then 2 else rc k 4) ∧ (∀ k c, c ≠ 4 → f_X7_settle_2 dn n fuel (nI i) y k c = rc k c) ∧ n_X7_settle_2 dn n fuel (nI i) y := by
  intro d
  induction d with
  | zero =>
    intro i fuel y hi hf a1 a2 a3
    obtain ⟨f, rfl⟩ : ∃ f, fuel = f + 1 := ⟨fuel - 1, by omega⟩
    have e : i = n := by omega
    subst e
    have hle2 : f_Jx4a65c_size_8abf5 (nI i) ≤ nI i := nI_le (Nat.le_refl _) (by omega)
    rw [f_X7_settle_2.eq_2, if_pos hle2, n_X7_settle_2.eq_2]
    exact ⟨a1, a3, fun c => absurd hle2 c, fun c => absurd hle2 c, fun c => absurd hle2 c, fun c => absurd hle2 c, fun c => absurd hle2 c, fun c => absurd hle2 c, fun c => absurd hle2 c⟩
  | succ d ih =>
    intro i fuel y hi hf a1 a2 a3
    obtain ⟨f, rfl⟩ : ∃ f, fuel = f + 1 := ⟨fuel - 1, by omega⟩
    have hlt2 : ¬ f_Jx4a65c_size_8abf5 (nI n) ≤ nI i := nI_ge (by omega) (by omega)
    have h1 : nI i + 1 = nI (i + 1) := nI_1 i
    have hc : (nI i).toNatClampNeg = i := nI_clamp (by omega)
    have ii : vp_in (nI i) 10 := vp_in_nI (by omega) (by decide)
    have ij : vp_in (nI i) n := vp_in_nI (by omega) (by omega)
    have hg := ge_get (n := n) (j := i) (by omega) hn
    have i4 : vp_in 4 5 := li_in5 4 (by decide)
    have yi := a2 i (Nat.le_refl _)
    rw [f_X7_settle_2.eq_2, if_neg hlt2, n_X7_settle_2.eq_2, hc, h1, li_c4]
    by_cases c1 : dn i = 0
    · rw [if_pos c1]
      obtain ⟨b1, b2, b3⟩ := ih (i + 1) f y (by omega) (by omega) (fun k hk => by
        by_cases e : k = i
        · subst e
          rw [if_neg (fun h => h.1 c1)]
          exact yi
        · exact a1 k (by omega)) (fun k hk => a2 k (by omega)) a3
      exact ⟨b1, b2, fun _ => ii, fun _ _ => b3, fun _ c9 => absurd c1 c9, fun _ c9 => absurd c1 c9, fun _ c9 => absurd c1 c9, fun _ c9 => absurd c1 c9, fun _ c9 => absurd c1 c9⟩
    · rw [if_neg c1]
      by_cases c2 : y i 4 = 1
      · rw [if_pos c2]
        have u1 : vf_upd y i (upd (y i) 4 2) i = upd (y i) 4 2 := if_pos rfl
        have u2 : ∀ k, k ≠ i → vf_upd y i (upd (y i) 4 2) k = y k := fun k hk => if_neg hk
        obtain ⟨b1, b2, b3⟩ := ih (i + 1) f (vf_upd y i (upd (y i) 4 2)) (by omega) (by omega) (fun k hk => by
          by_cases e : k = i
          · subst e
            rw [u1, pk_us, if_pos ⟨c1, yi.symm.trans c2⟩]
          · rw [u2 k e]
            exact a1 k (by omega)) (fun k hk => by rw [u2 k (by omega)]; exact a2 k (by omega)) (fun k c hc9 => by
          by_cases e : k = i
          · subst e
            rw [u1, pk_un hc9]
            exact a3 k c hc9
          · rw [u2 k e]
            exact a3 k c hc9)
        exact ⟨b1, b2, fun _ => ii, fun _ c9 => absurd c9 c1, fun _ _ => hg, fun _ _ => ij, fun _ _ => i4, fun _ _ c9 => absurd c2 c9, fun _ _ _ => b3⟩
      · rw [if_neg c2]
        obtain ⟨b1, b2, b3⟩ := ih (i + 1) f y (by omega) (by omega) (fun k hk => by
          by_cases e : k = i
          · subst e
            rw [if_neg (fun h => c2 (yi.trans h.2))]
            exact yi
          · exact a1 k (by omega)) (fun k hk => a2 k (by omega)) a3
        exact ⟨b1, b2, fun _ => ii, fun _ c9 => absurd c9 c1, fun _ _ => hg, fun _ _ => ij, fun _ _ => i4, fun _ _ _ => b3, fun _ _ c9 => absurd c9 c2⟩
theorem li_settleE {n : Nat} {dn : Nat → Int32} {rc : Nat → Nat → Int32} (hn : n ≤ 10) :
    (∀ k, k < n → f_X7_settle dn n rc k 4 = if ¬ dn k = 0 ∧ rc k 4 = 1 then 2 else rc k 4) ∧ (∀ k c, c ≠ 4 → f_X7_settle dn n rc k c = rc k c) ∧ n_X7_settle dn n rc :=
  li_settle hn n 0 12 rc (by omega) (by omega) (fun k hk => absurd hk (by omega)) (fun _ _ => rfl) (fun _ _ _ => rfl)
theorem li_with (pn : Int32) (pl : Nat → Int32) (x : Int32) : ∀ (fuel : Nat) (i : Int32), f_X2_withLot_2 pn pl x fuel i = f_X6_pairOf_2 pn pl x fuel i := by
  intro fuel
  induction fuel with
  | zero => intro i; rfl
  | succ f ih =>
    intro i
    rw [f_X2_withLot_2.eq_2, f_X6_pairOf_2.eq_2, ih]
theorem li_withE (pn : Int32) (pl : Nat → Int32) (x : Int32) : f_X2_withLot pn pl x = f_X6_pairOf pn pl x := li_with pn pl x 5 0
theorem li_withN {P : Nat} (hP : P ≤ 3) (pl : Nat → Int32) (x : Int32) : ∀ (d i fuel : Nat), i + d = P → d < fuel → n_X2_withLot_2 (nI P) pl x fuel (nI i) ∧ n_X6_pairOf_2 (nI P) pl x fuel (nI i) := by
  intro d
  induction d with
  | zero =>
    intro i fuel hi hf
    obtain ⟨f, rfl⟩ : ∃ f, fuel = f + 1 := ⟨fuel - 1, by omega⟩
    have e : i = P := by omega
    subst e
    have hle : nI i ≤ nI i := nI_le (Nat.le_refl _) (by omega)
    rw [n_X2_withLot_2.eq_2, n_X6_pairOf_2.eq_2]
    exact ⟨⟨fun c => absurd hle c, fun c => absurd hle c⟩, ⟨fun c => absurd hle c, fun c => absurd hle c⟩⟩
  | succ d ih =>
    intro i fuel hi hf
    obtain ⟨f, rfl⟩ : ∃ f, fuel = f + 1 := ⟨fuel - 1, by omega⟩
    have ii : vp_in (nI i) 3 := vp_in_nI (by omega) (by decide)
    obtain ⟨b1, b2⟩ := ih (i + 1) f (by omega) (by omega)
    rw [n_X2_withLot_2.eq_2, n_X6_pairOf_2.eq_2, nI_1]
    exact ⟨⟨fun _ => ii, fun _ _ => b1⟩, ⟨fun _ => ii, fun _ _ => b2⟩⟩
theorem li_sparksN {P : Nat} (hP : P ≤ 3) (sp : Nat → Int32) : ∀ (d i fuel : Nat) (acc : Int32), i + d = P → d < fuel → n_X2_allSparks_4 (nI P) sp fuel acc (nI i) := by
  intro d
  induction d with
  | zero =>
    intro i fuel acc hi hf
    obtain ⟨f, rfl⟩ : ∃ f, fuel = f + 1 := ⟨fuel - 1, by omega⟩
    have e : i = P := by omega
    subst e
    have hle : nI i ≤ nI i := nI_le (Nat.le_refl _) (by omega)
    rw [n_X2_allSparks_4.eq_2]
    exact ⟨fun c => absurd hle c, fun c => absurd hle c⟩
  | succ d ih =>
    intro i fuel acc hi hf
    obtain ⟨f, rfl⟩ : ∃ f, fuel = f + 1 := ⟨fuel - 1, by omega⟩
    have ii : vp_in (nI i) 3 := vp_in_nI (by omega) (by decide)
    rw [n_X2_allSparks_4.eq_2, nI_1]
    exact ⟨fun _ => ii, fun _ => ih (i + 1) f _ (by omega) (by omega)⟩
theorem li_sparks {P : Nat} (hP : P ≤ 3) {sp : Nat → Int32} (h : ∀ q, P ≤ q → sp q = 0) : f_X2_allSparks (nI P) sp = (sp 0 + sp 1) + sp 2 := by
  have c0 : (0 : Int32).toNatClampNeg = 0 := rfl
  have c1 : ((0 : Int32) + 1).toNatClampNeg = 1 := rfl
  have c2 : ((0 : Int32) + 1 + 1).toNatClampNeg = 2 := rfl
  have z : ∀ x : Int32, 0 + x = x := Int32.zero_add
  have z' : ∀ x : Int32, x + 0 = x := Int32.add_zero
  unfold f_X2_allSparks
  match P, hP, h with
  | 0, _, h =>
    rw [f_X2_allSparks_4.eq_2, if_pos (by decide), h 0 (by decide), h 1 (by decide), h 2 (by decide)]
    rfl
  | 1, _, h =>
    rw [f_X2_allSparks_4.eq_2, if_neg (by decide), f_X2_allSparks_4.eq_2, if_pos (by decide), h 1 (by decide), h 2 (by decide), c0, z, z', z']
  | 2, _, h =>
    rw [f_X2_allSparks_4.eq_2, if_neg (by decide), f_X2_allSparks_4.eq_2, if_neg (by decide), f_X2_allSparks_4.eq_2, if_pos (by decide), h 2 (by decide), c0, c1, z, z']
  | 3, _, h =>
    rw [f_X2_allSparks_4.eq_2, if_neg (by decide), f_X2_allSparks_4.eq_2, if_neg (by decide), f_X2_allSparks_4.eq_2, if_neg (by decide), f_X2_allSparks_4.eq_2, if_pos (by decide), c0, c1, c2, z]
  | P + 4, hP, _ => omega
/-! when the tide turns -/
def li_hit (t a : Nat) : Prop := 48 ≤ (t + a) * 4 % 99 ∧ (t + a) * 4 % 99 ≤ 51
theorem vc_12 : vr 4622945017495814144 96 96 := vr.c (by decide +kernel)
theorem vc_13 : vr 4623507967449235456 104 104 := vr.c (by decide +kernel)
theorem li_ph {r : Nat} (hr : r < 99) : dok (sa_ph r) ∧ zd (sa_ph r) = (2 * r : Nat) * fl_E := by
  obtain ⟨h1, h2, h3⟩ := sa_phV r hr
  refine ⟨h1, ?_⟩
  show FP.Core.zval _ _ = _
  rw [h3]
  unfold fl_E
  rw [← Int.natCast_mul]
theorem li_E {a b : Int} : a * fl_E < b * fl_E ↔ a < b := by
  constructor
  · intro h
    exact Int.lt_of_not_ge fun h9 => absurd (fl_mono h9) (by omega)
  · intro h
    exact Int.mul_lt_mul_of_pos_right h fl_E_pos
theorem li_hitV {t a : Nat} (ht : t + a < 7000) : (Op.cmpValue (FP.dcmp (f_X4_phaseOn (nI (t + a))) 4622945017495814144) .l < 0 ↔ (t + a) * 4 % 99 < 48) ∧ (Op.cmpValue (FP.dcmp (f_X4_phaseOn (nI (t + a))) 4622945017495814144) .g < 0 ↔ (t + a) * 4 % 99 < 48) ∧ (0 ≤ Op.cmpValue (FP.dcmp (f_X4_phaseOn (nI (t + a))) 4623507967449235456) .g ↔ 52 ≤ (t + a) * 4 % 99) ∧ (Op.cmpValue (FP.dcmp (f_X4_phaseOn (nI (t + a))) 4623507967449235456) .l < 0 ↔ (t + a) * 4 % 99 < 52) ∧ dok (f_X4_phaseOn (nI (t + a))) := by
  rw [sa_phaseN ht]
  have hr : (t + a) * 4 % 99 < 99 := Nat.mod_lt _ (by decide)
  generalize (t + a) * 4 % 99 = r at *
  obtain ⟨h1, h2⟩ := li_ph hr
  rw [fl_lt0 h1 vc_12.ok, fl_lt0 h1 vc_12.ok, fl_ge0 h1 vc_13.ok, fl_lt0 h1 vc_13.ok, h2, vc_12.eqz, vc_13.eqz, li_E, li_E]
  refine ⟨by omega, by omega, ?_, by omega, h1⟩
  constructor
  · intro h
    have : ¬ ((2 * r : Nat) : Int) * fl_E < 104 * fl_E := by omega
    rw [li_E] at this
    omega
  · intro h
    have : ¬ ((2 * r : Nat) : Int) * fl_E < 104 * fl_E := by
      rw [li_E]
      omega
    omega
theorem li_high {t : Nat} (ht : t ≤ 5000) : ∀ (d i fuel fuel2 : Nat), li_hit t (i + d) → (∀ a, i ≤ a → a < i + d → ¬ li_hit t a) → i + d ≤ 24 → d < fuel → d < fuel2 →
    f_X4_ticksToHigh_2 (nI t) fuel (nI i) = nI (i + d) ∧ f_X7_highNow_15 (nI t) fuel2 (nI i) (FP.drem (FP.i2d (nI (t + i))) 4627659723355717632) = nI (i + d) ∧ n_X4_ticksToHigh_2 (nI t) fuel (nI i) ∧ n_X7_highNow_15 (nI t) fuel2 (nI i) (FP.drem (FP.i2d (nI (t + i))) 4627659723355717632) := by
  intro d
  induction d with
  | zero =>
    intro i fuel fuel2 hh hm hi hf hf2
    obtain ⟨f, rfl⟩ : ∃ f, fuel = f + 1 := ⟨fuel - 1, by omega⟩
    obtain ⟨f2, rfl⟩ : ∃ f, fuel2 = f + 1 := ⟨fuel2 - 1, by omega⟩
    have hh : li_hit t i := hh
    obtain ⟨q1, q2⟩ := hh
    have hlt : ¬ (25 : Int32) ≤ nI i := nI_ge (b := 25) (by omega) (by omega)
    have hs : nI t + nI i = nI (t + i) := nI_add t i
    obtain ⟨v1, v2, v3, v4, v5⟩ := li_hitV (t := t) (a := i) (by omega)
    have k1 : ¬ Op.cmpValue (FP.dcmp (f_X4_phaseOn (nI (t + i))) 4622945017495814144) .l < 0 := fun h => by have := v1.mp h; omega
    have k2 : ¬ Op.cmpValue (FP.dcmp (f_X4_phaseOn (nI (t + i))) 4622945017495814144) .g < 0 := fun h => by have := v2.mp h; omega
    have k3 : ¬ 0 ≤ Op.cmpValue (FP.dcmp (f_X4_phaseOn (nI (t + i))) 4623507967449235456) .g := fun h => by have := v3.mp h; omega
    have k4 : Op.cmpValue (FP.dcmp (f_X4_phaseOn (nI (t + i))) 4623507967449235456) .l < 0 := v4.mpr (by omega)
    have np : n_X4_phaseOn (nI (t + i)) := fl_vf v5
    rw [sa_phase (by omega : t + i < 7000), f_X4_ticksToHigh_2.eq_2, f_X7_highNow_15.eq_2, n_X4_ticksToHigh_2.eq_2, n_X7_highNow_15.eq_2, hs, if_neg hlt, if_neg k1, if_neg k3, if_neg k2, if_pos k4]
    exact ⟨rfl, rfl, ⟨fun _ => np, fun _ c => absurd c k1, fun _ _ c => absurd c k3⟩, fun c => absurd c k2, fun c => absurd c k2, fun _ c => absurd k4 c, fun _ c => absurd k4 c⟩
  | succ d ih =>
    intro i fuel fuel2 hh hm hi hf hf2
    obtain ⟨f, rfl⟩ : ∃ f, fuel = f + 1 := ⟨fuel - 1, by omega⟩
    obtain ⟨f2, rfl⟩ : ∃ f, fuel2 = f + 1 := ⟨fuel2 - 1, by omega⟩
    have hlt : ¬ (25 : Int32) ≤ nI i := nI_ge (b := 25) (by omega) (by omega)
    have hs : nI t + nI i = nI (t + i) := nI_add t i
    have h1 : nI i + 1 = nI (i + 1) := nI_1 i
    have hs1 : nI t + nI (i + 1) = nI (t + (i + 1)) := nI_add t (i + 1)
    obtain ⟨v1, v2, v3, v4, v5⟩ := li_hitV (t := t) (a := i) (by omega)
    obtain ⟨w1, w2, w3, w4, w5⟩ := li_hitV (t := t) (a := i + 1) (by omega)
    have np : n_X4_phaseOn (nI (t + i)) := fl_vf v5
    have nq : vf_n64 (FP.drem (FP.i2d (nI (t + (i + 1)))) 4627659723355717632) := by
      rw [sa_phase (by omega : t + (i + 1) < 7000)]
      exact fl_vf w5
    have hno := hm i (Nat.le_refl _) (by omega)
    obtain ⟨b1, b2, b3, b4⟩ := ih (i + 1) f f2 (by rw [show i + 1 + d = i + (d + 1) by omega]; exact hh) (fun a h8 h9 => hm a (by omega) (by omega)) (by omega) (by omega) (by omega)
    rw [show i + 1 + d = i + (d + 1) by omega] at b1 b2
    rw [sa_phase (by omega : t + i < 7000), f_X4_ticksToHigh_2.eq_2, f_X7_highNow_15.eq_2, n_X4_ticksToHigh_2.eq_2, n_X7_highNow_15.eq_2, hs, if_neg hlt, h1, hs1, b1, b2]
    by_cases c1 : (t + i) * 4 % 99 < 48
    · have k1 := v1.mpr c1
      have k2 := v2.mpr c1
      rw [if_pos k1, if_pos k2]
      exact ⟨rfl, rfl, ⟨fun _ => np, fun _ _ => b3, fun _ c => absurd k1 c⟩, fun _ => nq, fun _ => b4, fun c => absurd k2 c, fun c => absurd k2 c⟩
    · have c2 : 52 ≤ (t + i) * 4 % 99 := Nat.le_of_not_lt fun h => hno ⟨by omega, by omega⟩
      have k1 : ¬ Op.cmpValue (FP.dcmp (f_X4_phaseOn (nI (t + i))) 4622945017495814144) .l < 0 := fun h => c1 (v1.mp h)
      have k2 : ¬ Op.cmpValue (FP.dcmp (f_X4_phaseOn (nI (t + i))) 4622945017495814144) .g < 0 := fun h => c1 (v2.mp h)
      have k3 := v3.mpr c2
      have k4 : ¬ Op.cmpValue (FP.dcmp (f_X4_phaseOn (nI (t + i))) 4623507967449235456) .l < 0 := fun h => by have := v4.mp h; omega
      rw [if_neg k1, if_neg k2, if_pos k3, if_neg k4]
      exact ⟨rfl, rfl, ⟨fun _ => np, fun _ c => absurd c k1, fun _ _ _ => b3⟩, fun c => absurd c k2, fun c => absurd c k2, fun _ _ => nq, fun _ _ => b4⟩
theorem li_turn : ∀ r, r < 99 → ∃ a, a < 25 ∧ (48 ≤ (r + 4 * a) % 99 ∧ (r + 4 * a) % 99 ≤ 51) := by decide +kernel
theorem li_highE {t : Nat} (ht : t ≤ 5000) : f_X4_ticksToHigh (nI t) = f_X7_highNow (nI t) ∧ n_X4_ticksToHigh (nI t) ∧ n_X7_highNow (nI t) := by
  have hex : ∃ a, li_hit t a := by
    obtain ⟨a, h1, h2⟩ := li_turn (t * 4 % 99) (Nat.mod_lt _ (by decide))
    refine ⟨a, ?_⟩
    unfold li_hit
    rw [show (t + a) * 4 % 99 = (t * 4 % 99 + 4 * a) % 99 by omega]
    exact h2
  obtain ⟨d, hd, hm⟩ := pk_least (li_hit t) hex
  have hd24 : d ≤ 24 := by
    obtain ⟨a, h1, h2⟩ := li_turn (t * 4 % 99) (Nat.mod_lt _ (by decide))
    refine Nat.le_of_not_lt fun h9 => hm a (by omega) ?_
    unfold li_hit
    rw [show (t + a) * 4 % 99 = (t * 4 % 99 + 4 * a) % 99 by omega]
    exact h2
  obtain ⟨b1, b2, b3, b4⟩ := li_high ht d 0 27 27 (by rw [Nat.zero_add]; exact hd) (fun a _ h9 => hm a (by omega)) (by omega) (by omega) (by omega)
  rw [Nat.add_zero] at b2 b4
  have v5 := (li_hitV (t := t) (a := 0) (by omega)).2.2.2.2
  rw [Nat.add_zero] at v5
  refine ⟨b1.trans b2.symm, b3, ?_, b4⟩
  rw [sa_phase (by omega : t < 7000)]
  exact fl_vf v5
