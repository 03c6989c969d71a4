/-! draws, counts, the hours, as the law reckons them -/
theorem tx_in5 (k : Nat) (h : k < 5) : vp_in (nI k) 5 := vp_in_nI h (by decide)
theorem tx_in3 (k : Nat) (h : k < 3) : vp_in (nI k) 3 := vp_in_nI h (by decide)
theorem v03 : vp_in 0 3 := tx_in3 0 (by decide)
theorem v13 : vp_in 1 3 := tx_in3 1 (by decide)
theorem v23 : vp_in 2 3 := tx_in3 2 (by decide)
theorem v15 : vp_in 1 5 := tx_in5 1 (by decide)
theorem v45 : vp_in 4 5 := tx_in5 4 (by decide)
theorem dr_below (v : Int32) {N : Nat} (h0 : 0 < N) (hN : N < 2 ^ 31) : ∃ k, k < N ∧ f_L_below v (nI N) = nI k := by
  obtain ⟨j, hj, e⟩ := pk_andE v (m := 2147483647) 31 (by decide)
  refine ⟨j % N, Nat.mod_lt _ h0, ?_⟩
  unfold f_L_below
  rw [e]
  exact pk_rem hj h0 hN
theorem dr_draw (dw : Int32) (L : Nat) (xs : Nat → Int32) {N : Nat} (h0 : 0 < N) (hN : N < 2 ^ 31) : ∃ k, k < N ∧ (f_X6_draw dw (nI N) L xs).1 = nI k := dr_below _ h0 hN
theorem dr_cell {d L : Nat} (hd : d < 2 ^ 31) (hL : L ≤ 260) : n_L_cell (nI d) L := by
  unfold n_L_cell
  intro h
  exact vp_in_nI (by
    rcases Nat.lt_or_ge d L with g | g
    · exact g
    · exact absurd (nI_le g hd) h) (by omega)
theorem dr_drawN {d L N : Nat} (hd : d < 2 ^ 31) (hL : L ≤ 260) (h0 : 0 < N) (hN : N < 2 ^ 31) : n_X6_draw (nI d) (nI N) L := by
  unfold n_X6_draw n_L_below
  refine ⟨?_, fun h => ?_⟩
  · have : nI d - nI d / 24 * 24 = nI (d % 24) := pk_rem hd (by decide) (by decide)
    rw [this]
    exact dr_cell (by omega) hL
  · have := (nI_eq (a := N) (b := 0) hN (by decide)).mp h
    omega
theorem dr_count {n : Nat} {sa : Nat → Int32} {rc : Nat → Nat → Int32} {s : Int32} (hn : n ≤ 10) (hr : ∀ k, k < n → rc k 4 = sa k) :
    ∀ (d i fuel : Nat) (acc : Int32), i + d = n → d < fuel → f_X6_count_14 s n rc fuel acc (nI i) = f_X0_countOf_4 (nI n) sa s fuel acc (nI i) ∧ n_X6_count_14 s n rc fuel acc (nI i) ∧ n_X0_countOf_4 (nI n) sa s fuel acc (nI i) := by
  intro d
  induction d with
  | zero =>
    intro i fuel acc hi hf
    obtain ⟨f, rfl⟩ : ∃ f, fuel = f + 1 := ⟨fuel - 1, by omega⟩
    have hin : i = n := by omega
    subst hin
    have hle : nI i ≤ nI i := nI_le (Nat.le_refl _) (by omega)
    refine ⟨?_, ?_, ?_⟩
    · rw [f_X6_count_14.eq_2, if_pos hle, f_X0_countOf_4.eq_2, if_pos hle]
    · rw [n_X6_count_14.eq_2]
      exact ⟨fun c => absurd hle c, fun c => absurd hle c, fun c => absurd hle c, fun c => absurd hle c⟩
    · rw [n_X0_countOf_4.eq_2]
      exact ⟨fun c => absurd hle c, fun c => absurd hle c, fun c => absurd hle c⟩
  | succ d ih =>
    intro i fuel acc hi hf
    obtain ⟨f, rfl⟩ : ∃ f, fuel = f + 1 := ⟨fuel - 1, by omega⟩
    have hlt : ¬ nI n ≤ nI i := nI_ge (by omega) (by omega)
    have h1 : nI i + 1 = nI (i + 1) := nI_1 i
    have hc : (nI i).toNatClampNeg = i := nI_clamp (by omega)
    have e4 : rc i (4 : Int32).toNatClampNeg = sa i := hr i (by omega)
    have z : acc + 0 = acc := Int32.add_zero acc
    obtain ⟨a1, a2, a3⟩ := ih (i + 1) f acc (by omega) (by omega)
    obtain ⟨b1, b2, b3⟩ := ih (i + 1) f (acc + 1) (by omega) (by omega)
    have i1 : vp_in (nI i) n := vp_in_nI (by omega) (by omega)
    have i2 : vp_in (nI i) 10 := vp_in_nI (by omega) (by decide)
    refine ⟨?_, ?_, ?_⟩
    · rw [f_X6_count_14.eq_2, if_neg hlt, f_X0_countOf_4.eq_2, if_neg hlt, hc, h1, e4, z]
      by_cases c : sa i = s
      · rw [if_pos c, if_pos c, b1]
      · rw [if_neg c, if_neg c, a1]
    · rw [n_X6_count_14.eq_2, hc, h1, e4, z]
      exact ⟨fun _ => i1, fun _ => v45, fun _ _ => a2, fun _ _ => b2⟩
    · rw [n_X0_countOf_4.eq_2, hc, h1]
      exact ⟨fun _ => i2, fun _ _ => a3, fun _ _ => b3⟩
theorem dr_countE {n : Nat} {sa : Nat → Int32} {rc : Nat → Nat → Int32} (hn : n ≤ 10) (hr : ∀ k, k < n → rc k 4 = sa k) (s : Int32) : f_X6_count s n rc = f_X0_countOf (nI n) sa s ∧ n_X6_count s n rc ∧ n_X0_countOf (nI n) sa s := by
  have h := dr_count (s := s) hn hr n 0 12 0 (by omega) (by omega)
  rw [show nI 0 = 0 from nI_0] at h
  exact h
/-- the hours, hour by hour -/
theorem aw_loop {tk h b : Nat} (htk : tk < 2 ^ 31) (hh : tk % 48 = h) (hb : b < 48) :
    ∀ (fuel x : Nat), x < 48 → (b + 48 - x) % 48 < fuel → f_X6_isAwake_13 (nI tk) (nI b) fuel (nI x) = (if (h + 48 - x) % 48 ≤ (b + 48 - x) % 48 then 1 else 0) ∧ n_X6_isAwake_13 (nI tk) (nI b) fuel (nI x) := by
  have et : nI tk - nI tk / 48 * 48 = nI h := by rw [← hh]; exact pk_rem htk (by decide) (by decide)
  have hh2 : h < 48 := by omega
  intro fuel
  induction fuel with
  | zero => intro x hx hf; omega
  | succ fuel ih =>
    intro x hx hf
    have q1 : (nI x = nI h) ↔ x = h := nI_eq (by omega) (by omega)
    have q2 : (nI x = nI b) ↔ x = b := nI_eq (by omega) (by omega)
    have ex : (nI x + 1) - (nI x + 1) / 48 * 48 = nI ((x + 1) % 48) := by
      rw [nI_1]
      exact pk_rem (by omega) (by decide) (by decide)
    by_cases c1 : x = h
    · refine ⟨?_, ?_⟩
      · rw [f_X6_isAwake_13.eq_2, et, if_pos (q1.mpr c1), if_pos (by omega)]
      · rw [n_X6_isAwake_13.eq_2, et]
        exact fun g => absurd (q1.mpr c1) g
    · by_cases c2 : x = b
      · refine ⟨?_, ?_⟩
        · rw [f_X6_isAwake_13.eq_2, et, if_neg (fun g => c1 (q1.mp g)), if_pos (q2.mpr c2), if_neg (by omega)]
        · rw [n_X6_isAwake_13.eq_2, et]
          exact fun _ g => absurd (q2.mpr c2) g
      · obtain ⟨i1, i2⟩ := ih ((x + 1) % 48) (Nat.mod_lt _ (by decide)) (by omega)
        refine ⟨?_, ?_⟩
        · rw [f_X6_isAwake_13.eq_2, et, if_neg (fun g => c1 (q1.mp g)), if_neg (fun g => c2 (q2.mp g)), ex, i1]
          have e1 : ((h + 48 - (x + 1) % 48) % 48 ≤ (b + 48 - (x + 1) % 48) % 48) ↔ ((h + 48 - x) % 48 ≤ (b + 48 - x) % 48) := by omega
          by_cases c : (h + 48 - x) % 48 ≤ (b + 48 - x) % 48
          · rw [if_pos c, if_pos (e1.mpr c)]
          · rw [if_neg c, if_neg (fun g => c (e1.mp g))]
        · rw [n_X6_isAwake_13.eq_2, et, ex]
          exact fun _ _ => i2
theorem aw_E {tk a b : Nat} (htk : tk < 2 ^ 31) (ha : a < 48) (hb : b < 48) : f_X6_isAwake (nI tk) (nI a) (nI b) = f_X1_isAwake (nI a) (nI b) (nI tk) ∧ n_X6_isAwake (nI tk) (nI a) (nI b) := by
  obtain ⟨h1, h2⟩ := aw_loop htk rfl hb 49 a ha (by omega)
  refine ⟨?_, h2⟩
  unfold f_X6_isAwake
  rw [h1]
  unfold f_X1_isAwake f_X4_hourNow
  have et : nI tk - nI tk / 48 * 48 = nI (tk % 48) := pk_rem htk (by decide) (by decide)
  rw [et]
  have hm : tk % 48 < 48 := Nat.mod_lt _ (by decide)
  generalize tk % 48 = h at hm ⊢
  have p1 : (nI a ≤ nI b) ↔ (a ≤ b) := nI_leI (by omega) (by omega)
  have p2 : (nI h < nI a) ↔ (h < a) := nI_ltI (by omega) (by omega)
  have p3 : (nI b < nI h) ↔ (b < h) := nI_ltI (by omega) (by omega)
  have p4 : (nI a ≤ nI h) ↔ (a ≤ h) := nI_leI (by omega) (by omega)
  by_cases c1 : a ≤ b
  · rw [if_pos (p1.mpr c1)]
    by_cases c2 : h < a
    · rw [if_pos (p2.mpr c2), if_neg (by omega)]
    · rw [if_neg (fun g => c2 (p2.mp g))]
      by_cases c3 : b < h
      · rw [if_pos (p3.mpr c3), if_neg (by omega)]
      · rw [if_neg (fun g => c3 (p3.mp g)), if_pos (by omega)]
  · rw [if_neg (fun g => c1 (p1.mp g))]
    by_cases c2 : a ≤ h
    · rw [if_pos (p4.mpr c2), if_pos (by omega)]
    · rw [if_neg (fun g => c2 (p4.mp g))]
      by_cases c3 : b < h
      · rw [if_pos (p3.mpr c3), if_neg (by omega)]
      · rw [if_neg (fun g => c3 (p3.mp g)), if_pos (by omega)]
