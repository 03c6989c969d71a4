/-! what the law tells: each order's draws, duties and answers -/
theorem cl_lt {a b : UInt64} (ha : dok a) (hb : dok b) (sa : a.toNat < 2 ^ 63) (sb : b.toNat < 2 ^ 63) : zd a < zd b ↔ a.toNat < b.toNat := by
  rw [← (FP.Core.mono_bits ha hb sa sb).1, FP.Core.dcmp_lt]
  exact ⟨fun h => ⟨ha, hb, h⟩, fun h => h.2.2⟩
theorem cl_pos {x : UInt64} (h : dok x) (h0 : 0 < zd x) : x.toNat < 2 ^ 63 := Nat.lt_of_not_le fun hle => by
  have h1 : zd x ≤ 0 := FP.Core.zval_nonpos h hle
  omega
theorem cl_d2i {x : UInt64} {i : Nat} (h : dok x) (h0 : 0 < zd x) (hi : i ≤ 8) (h1 : (i : Int) * (FP.Core.one64 : Int) ≤ zd x) (h2 : zd x < ((i + 1 : Nat) : Int) * (FP.Core.one64 : Int)) : FP.d2i x = nI i := by
  have hz : (FP.Core.zmag FP.Core.b64 (FP.Core.val64 x) : Int) = zd x := fl_zmag (Int.le_of_lt h0)
  have hs : FP.Core.sgn (FP.Core.val64 x) = false := by
    rw [FP.Core.sgn_bits h]
    exact decide_eq_false (Nat.not_le.mpr (cl_pos h h0))
  have hv := FP.Core.d2i_val h
  rw [hs] at hv
  rw [← hz] at h1 h2
  have hq : FP.Core.zmag FP.Core.b64 (FP.Core.val64 x) / FP.Core.one64 = i := by
    rw [← Int.natCast_mul] at h1 h2
    exact Nat.div_eq_of_lt_le (Int.ofNat_le.mp h1) (Int.ofNat_lt.mp h2)
  rw [hq] at hv
  have hv2 : (FP.Core.d2i x).toInt = (i : Int) := by
    rw [hv]
    show max (-2 ^ 31) (min (2 ^ 31 - 1) (i : Int)) = (i : Int)
    omega
  refine Int32.toInt_inj.mp ?_
  rw [nI_toInt (by omega)]
  exact hv2
theorem cl_zi (v : Int32) : dok (FP.i2d v) ∧ zd (FP.i2d v) = v.toInt * (FP.Core.one64 : Int) := ⟨FP.Core.DInt_ne_nan (FP.Core.i2d_int v), FP.Core.DInt_zval (FP.Core.i2d_int v)⟩
theorem cl_ru {x : UInt64} {i : Nat} (h : dok x) (h0 : 0 < zd x) (hi : i ≤ 8) (h1 : (i : Int) * (FP.Core.one64 : Int) ≤ zd x) (h2 : zd x < ((i + 1 : Nat) : Int) * (FP.Core.one64 : Int)) : (zd x = (i : Int) * (FP.Core.one64 : Int) → f_X5_roundedUp x = nI i) ∧ (zd x ≠ (i : Int) * (FP.Core.one64 : Int) → f_X5_roundedUp x = nI (i + 1)) := by
  have hd := cl_d2i h h0 hi h1 h2
  obtain ⟨e1, e2⟩ := cl_zi (nI i)
  rw [nI_toInt (by omega)] at e2
  unfold f_X5_roundedUp
  rw [hd]
  constructor
  · intro e
    rw [if_pos ((fl_ge0 e1 h _).mpr (by rw [e2, e]; exact Int.le_refl _))]
  · intro e
    rw [if_neg (fun c => e (Int.le_antisymm (by rw [← e2]; exact (fl_ge0 e1 h _).mp c) h1))]
    exact nI_1 i

theorem iw_k {k A B : Nat} (h1 : A ≤ k) (h2 : k ≤ B) (hB : B < 2 ^ 31) : ¬ f_X5_isWithin (nI k) (nI A) (nI B) = 0 := by
  unfold f_X5_isWithin
  rw [if_neg (nI_nlt h1 (by omega)), if_neg (nI_nlt h2 hB)]
  decide
theorem tb_awake (a b c : Int32) : tm_bool (f_X1_isAwake a b c) := by
  unfold f_X1_isAwake
  split
  · split
    · exact Or.inl rfl
    · split
      · exact Or.inl rfl
      · exact Or.inr rfl
  · split
    · exact Or.inr rfl
    · split
      · exact Or.inl rfl
      · exact Or.inr rfl
section
variable {L : Nat} {xs : Nat → Int32} {d t m : Nat}
theorem mo_E (hL : L ≤ 260) (hd : d < 1000000) (ht : t < 7000) : ∃ d' m', d' ≤ d + 2 ∧ m' < 30 ∧ f_X6_moon (nI d) (nI t) L xs = (nI d', nI m', nI m') ∧ n_X6_moon (nI d) (nI t) (nI t) L xs := by
  obtain ⟨k, hk, e3⟩ := dr_draw (nI d) L xs (N := 3) (by decide) (by decide)
  obtain ⟨k5, hk5, e5⟩ := dr_draw (nI (d + 1)) L xs (N := 5) (by decide) (by decide)
  obtain ⟨k30, hk30, e30⟩ := dr_draw (nI (d + 1)) L xs (N := 30) (by decide) (by decide)
  have e3' : (f_X6_draw (nI d) 3 L xs).1 = nI k := e3
  have e5' : (f_X6_draw (nI (d + 1)) 5 L xs).1 = nI k5 := e5
  have e30' : (f_X6_draw (nI (d + 1)) 30 L xs).1 = nI k30 := e30
  have s1 : nI d + 1 = nI (d + 1) := nI_1 d
  have s2 : nI (d + 1) + 1 = nI (d + 2) := nI_1 (d + 1)
  have a13 : (13 : Int32) + nI k5 = nI (13 + k5) := nI_add 13 k5
  have N : n_X6_moon (nI d) (nI t) (nI t) L xs := by
    unfold n_X6_moon
    rw [s1, e30', e5', a13]
    exact ⟨dr_drawN (N := 3) (by omega) hL (by decide) (by decide), fun _ => dr_drawN (N := 30) (by omega) hL (by decide) (by decide), fun _ => iw_k (A := 0) (B := 29) (by omega) (by omega) (by decide), fun _ r u e => by
      have e' : (r, u) = (f_X4_ageOn (nI k30) (nI t), nI k30) := e
      injection e' with e1 e2
      rw [e1]; exact (ta_ageE _ _).symm, fun _ => dr_drawN (N := 5) (by omega) hL (by decide) (by decide), fun _ => iw_k (A := 0) (B := 29) (by omega) (by omega) (by decide), fun _ r u e => by
      have e' : (r, u) = (f_X4_ageOn (nI (13 + k5)) (nI t), nI (13 + k5)) := e
      injection e' with e1 e2
      rw [e1]; exact (ta_ageE _ _).symm⟩
  by_cases c : nI k = 0
  · refine ⟨d + 2, 13 + k5, by omega, by omega, ?_, N⟩
    unfold f_X6_moon
    rw [e3', if_pos c, s1, e5', a13, s2]
    rfl
  · refine ⟨d + 2, k30, by omega, by omega, ?_, N⟩
    unfold f_X6_moon
    rw [e3', if_neg c, s1, e30', s2]
    rfl
theorem su_k : ∀ k, k < 17 → ¬ f_X5_isWithin (nI k - 8) (-8) 8 = 0 ∧ (FP.Core.val64 (FP.dmul (FP.i2d (nI k - 8)) 4598175219545276416) ≠ .nan ∧ (-16) * fl_E ≤ FP.Core.zval FP.Core.b64 (FP.Core.val64 (FP.dmul (FP.i2d (nI k - 8)) 4598175219545276416)) ∧ FP.Core.zval FP.Core.b64 (FP.Core.val64 (FP.dmul (FP.i2d (nI k - 8)) 4598175219545276416)) ≤ 16 * fl_E) := by decide +kernel
theorem su_E (hL : L ≤ 260) (hd : d < 1000000) (ht : t < 6900) (hm : m < 30) : ∃ su', vr su' (-16) 16 ∧ f_X6_surge (nI d) (nI t) (nI m) L xs = (nI (d + 1), su', su') ∧ n_X6_surge (nI d) (nI t) (nI m) (nI t) (nI m) L xs := by
  obtain ⟨k, hk, e⟩ := dr_draw (nI d) L xs (N := 17) (by decide) (by decide)
  have e' : (f_X6_draw (nI d) 17 L xs).1 = nI k := e
  have s1 : nI d + 1 = nI (d + 1) := nI_1 d
  obtain ⟨w1, w2, w3, w4⟩ := su_k k hk
  have hv : vr (FP.dmul (FP.i2d (nI k - 8)) 4598175219545276416) (-16) 16 := fl_vr w2 w3 w4 (by decide) (by decide)
  obtain ⟨a1, a2⟩ := sa_sea hm (by omega : t < 7000) hv
  obtain ⟨z1, z2⟩ := ta_sea hm (by omega : t < 7000) hv
  refine ⟨_, hv, ?_, ?_⟩
  · unfold f_X6_surge
    rw [e', s1]
    rfl
  · unfold n_X6_surge
    rw [e']
    refine ⟨dr_drawN (N := 17) (by omega) hL (by decide) (by decide), hv.n, ⟨w1, hv.n, a2⟩, fun _ _ _ => z2, fun r u e9 => ?_⟩
    have e8 : (r, u) = (f_X4_heightOn (nI m) (FP.dmul (FP.i2d (nI k - 8)) 4598175219545276416) (nI t), FP.dmul (FP.i2d (nI k - 8)) 4598175219545276416) := e9
    injection e8 with e1 e2
    rw [e1, z1]
    exact (fl_eq0 a1.ok a1.ok _).mpr rfl
theorem ga_E (hL : L ≤ 260) (hd : d < 1000000) (g : Int32) : ∃ g', g' ≤ 3 ∧ f_X6_gates (nI d) g L xs = (nI (d + 1), nI g', nI g') ∧ n_X6_gates (nI d) g 0 0 g L xs := by
  obtain ⟨k, hk, e⟩ := dr_draw (nI d) L xs (N := 4) (by decide) (by decide)
  have e' : (f_X6_draw (nI d) 4 L xs).1 = nI k := e
  have s1 : nI d + 1 = nI (d + 1) := nI_1 d
  refine ⟨k, by omega, ?_, ?_⟩
  · unfold f_X6_gates
    rw [e', s1]
    rfl
  · unfold n_X6_gates
    rw [e']
    refine ⟨rfl, dr_drawN (N := 4) (by omega) hL (by decide) (by decide), ⟨iw_k (A := 0) (B := 3) (by omega) (by omega) (by decide), rfl⟩, fun r u e9 => ?_⟩
    have e8 : (r, u) = (g, nI k) := e9
    injection e8
theorem sl_E (hL : L ≤ 260) (hd : d < 1000000) (g : Int32) : ∃ g', g' ≤ 4 ∧ f_X6_sluice (nI d) g L xs = (nI (d + 1), nI g', nI g') ∧ n_X6_sluice (nI d) g g L xs := by
  obtain ⟨k, hk, e⟩ := dr_draw (nI d) L xs (N := 5) (by decide) (by decide)
  have e' : (f_X6_draw (nI d) 5 L xs).1 = nI k := e
  have s1 : nI d + 1 = nI (d + 1) := nI_1 d
  refine ⟨k, by omega, ?_, ?_⟩
  · unfold f_X6_sluice
    rw [e', s1]
    rfl
  · unfold n_X6_sluice
    rw [e']
    refine ⟨dr_drawN (N := 5) (by omega) hL (by decide) (by decide), iw_k (A := 0) (B := 4) (by omega) (by omega) (by decide), fun r u e9 => ?_⟩
    have e8 : (r, u) = (g, nI k) := e9
    injection e8
theorem sc_E (hL : L ≤ 260) (hd : d < 1000000) {sc : Int32} (h : tm_bool sc) : ∃ sc', tm_bool sc' ∧ f_X6_scour (nI d) sc L xs = (nI (d + 1), sc', sc') ∧ n_X6_scour (nI d) sc sc L xs := by
  have s1 : nI d + 1 = nI (d + 1) := nI_1 d
  have N : n_X6_scour (nI d) sc sc L xs := by
    unfold n_X6_scour
    refine ⟨dr_drawN (N := 2) (by omega) hL (by decide) (by decide), fun _ => ⟨Or.inl rfl, h⟩, fun _ r u e9 => ?_, fun _ => ⟨Or.inr rfl, h⟩, fun _ r u e9 => ?_⟩
    · have e8 : (r, u) = (sc, 0) := e9
      injection e8
    · have e8 : (r, u) = (sc, 1) := e9
      injection e8
  by_cases c : (f_X6_draw (nI d) 2 L xs).1 = 0
  · refine ⟨1, Or.inr rfl, ?_, N⟩
    unfold f_X6_scour
    rw [if_pos c, s1]
    rfl
  · refine ⟨0, Or.inl rfl, ?_, N⟩
    unfold f_X6_scour
    rw [if_neg c, s1]
    rfl
theorem hr_E (hL : L ≤ 260) (hd : d < 1000000) (ht : t < 7000) : ∃ d' a' b', d' ≤ d + 3 ∧ a' < 48 ∧ b' < 48 ∧ f_X6_hours (nI d) (nI t) L xs = (nI d', nI a', nI b', nI a', nI b') ∧ n_X6_hours (nI d) (nI t) (nI t) L xs := by
  obtain ⟨a, ha, e1⟩ := dr_draw (nI d) L xs (N := 48) (by decide) (by decide)
  obtain ⟨k, hk, e2⟩ := dr_draw (nI (d + 1)) L xs (N := 2) (by decide) (by decide)
  obtain ⟨b, hb, e3⟩ := dr_draw (nI (d + 2)) L xs (N := 48) (by decide) (by decide)
  have e1' : (f_X6_draw (nI d) 48 L xs).1 = nI a := e1
  have e2' : (f_X6_draw (nI (d + 1)) 2 L xs).1 = nI k := e2
  have e3' : (f_X6_draw (nI (d + 2)) 48 L xs).1 = nI b := e3
  have s1 : nI d + 1 = nI (d + 1) := nI_1 d
  have s2 : nI (d + 1) + 1 = nI (d + 2) := nI_1 (d + 1)
  have s3 : nI (d + 2) + 1 = nI (d + 3) := nI_1 (d + 2)
  have r1 : (nI a + 30) - (nI a + 30) / 48 * 48 = nI ((a + 30) % 48) := by
    rw [show nI a + 30 = nI (a + 30) from nI_add a 30]
    exact pk_rem (d := 48) (by omega) (by decide) (by decide)
  have hr : (a + 30) % 48 < 48 := Nat.mod_lt _ (by decide)
  obtain ⟨p1, p2⟩ := aw_E (tk := t) (by omega) ha hb
  obtain ⟨q1, q2⟩ := aw_E (tk := t) (by omega) ha hr
  have N : n_X6_hours (nI d) (nI t) (nI t) L xs := by
    unfold n_X6_hours
    rw [s1, s2, e1', e2', e3', r1]
    refine ⟨dr_drawN (N := 48) (by omega) hL (by decide) (by decide), dr_drawN (N := 2) (by omega) hL (by decide) (by decide), fun _ => dr_drawN (N := 48) (by omega) hL (by decide) (by decide), fun _ => ⟨iw_k (A := 0) (B := 47) (by omega) (by omega) (by decide), iw_k (A := 0) (B := 47) (by omega) (by omega) (by decide), tb_awake _ _ _⟩, fun _ _ _ _ _ => p2, fun _ r u v e9 => ?_, fun _ => ⟨iw_k (A := 0) (B := 47) (by omega) (by omega) (by decide), iw_k (A := 0) (B := 47) (by omega) (by omega) (by decide), tb_awake _ _ _⟩, fun _ _ _ _ _ => q2, fun _ r u v e9 => ?_⟩
    · have e8 : (r, u, v) = (f_X1_isAwake (nI a) (nI b) (nI t), nI a, nI b) := e9
      injection e8 with e7
      rw [e7, p1]
    · have e8 : (r, u, v) = (f_X1_isAwake (nI a) (nI ((a + 30) % 48)) (nI t), nI a, nI ((a + 30) % 48)) := e9
      injection e8 with e7
      rw [e7, q1]
  by_cases c : nI k = 0
  · refine ⟨d + 2, a, (a + 30) % 48, by omega, ha, hr, ?_, N⟩
    unfold f_X6_hours
    rw [s1, s2, e1', e2', if_pos c, r1]
    rfl
  · refine ⟨d + 3, a, b, by omega, ha, hb, ?_, N⟩
    unfold f_X6_hours
    rw [s1, s2, e1', e2', e3', if_neg c, s3]
    rfl
end
