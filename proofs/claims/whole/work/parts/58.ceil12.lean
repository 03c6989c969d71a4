/-! rounding up: by the cut and by the bits -/
theorem cl_lt {a b : UInt64} (ha : dok a) (hb : dok b) (sa : a.toNat < 2 ^ 63) (sb : b.toNat < 2 ^ 63) : zd a < zd b ↔ a.toNat < b.toNat := by
  rw [← (FP.Core.mono_bits ha hb sa sb).1, FP.Core.dcmp_lt]
  exact ⟨fun h => ⟨ha, hb, h⟩, fun h => h.2.2⟩
theorem cl_pos {x : UInt64} (h : dok x) (h0 : 0 < zd x) : x.toNat < 2 ^ 63 := Nat.lt_of_not_le fun hle => by
  have h1 : zd x ≤ 0 := FP.Core.zval_nonpos h hle
  omega
theorem cl_d2i {x : UInt64} {i : Nat} (h : dok x) (h0 : 0 < zd x) (hi : i ≤ 8) (h1 : (i : Int) * (FP.Core.one64 : Int) ≤ zd x) (h2 : zd x < ((i + 1 : Nat) : Int) * (FP.Core.one64 : Int)) : FP.d2i x = nI i := by
  have hz : (FP.Core.zmag FP.Core.b64 (FP.Core.val64 x) : Int) = zd x := fl_zmag (Int.le_of_lt h0)
  have hs : FP.Core.sgn (FP.Core.val64 x) = false := by
    rw [FP.Core.sgn_bits h]
    exact decide_eq_false (Nat.not_le.mpr (cl_pos h h0))
  have hv := FP.Core.d2i_val h
  rw [hs] at hv
  rw [← hz] at h1 h2
  have hq : FP.Core.zmag FP.Core.b64 (FP.Core.val64 x) / FP.Core.one64 = i := by
    rw [← Int.natCast_mul] at h1 h2
    exact Nat.div_eq_of_lt_le (Int.ofNat_le.mp h1) (Int.ofNat_lt.mp h2)
  rw [hq] at hv
  have hv2 : (FP.Core.d2i x).toInt = (i : Int) := by
    rw [hv]
    show max (-2 ^ 31) (min (2 ^ 31 - 1) (i : Int)) = (i : Int)
    omega
  refine Int32.toInt_inj.mp ?_
  rw [nI_toInt (by omega)]
  exact hv2
theorem cl_zi (v : Int32) : dok (FP.i2d v) ∧ zd (FP.i2d v) = v.toInt * (FP.Core.one64 : Int) := ⟨FP.Core.DInt_ne_nan (FP.Core.i2d_int v), FP.Core.DInt_zval (FP.Core.i2d_int v)⟩
theorem cl_ru {x : UInt64} {i : Nat} (h : dok x) (h0 : 0 < zd x) (hi : i ≤ 8) (h1 : (i : Int) * (FP.Core.one64 : Int) ≤ zd x) (h2 : zd x < ((i + 1 : Nat) : Int) * (FP.Core.one64 : Int)) : (zd x = (i : Int) * (FP.Core.one64 : Int) → f_X5_roundedUp x = nI i) ∧ (zd x ≠ (i : Int) * (FP.Core.one64 : Int) → f_X5_roundedUp x = nI (i + 1)) := by
  have hd := cl_d2i h h0 hi h1 h2
  obtain ⟨e1, e2⟩ := cl_zi (nI i)
  rw [nI_toInt (by omega)] at e2
  unfold f_X5_roundedUp
  rw [hd]
  constructor
  · intro e
    rw [if_pos ((fl_ge0 e1 h _).mpr (by rw [e2, e]; exact Int.le_refl _))]
  · intro e
    rw [if_neg (fun c => e (Int.le_antisymm (by rw [← e2]; exact (fl_ge0 e1 h _).mp c) h1))]
    exact nI_1 i
theorem cl_nat (h r k n : Nat) (hr : r < 2 ^ n) : (2 ^ n * h + r) &&& (2 ^ n * k) = 2 ^ n * (h &&& k) := by
  apply Nat.eq_of_testBit_eq
  intro j
  rw [Nat.testBit_and, Nat.testBit_two_pow_mul_add h hr, Nat.testBit_two_pow_mul, Nat.testBit_two_pow_mul, Nat.testBit_and]
  by_cases c : j < n
  · have c2 : ¬ n ≤ j := Nat.not_le.mpr c
    simp [c2]
  · have c2 : n ≤ j := Nat.le_of_not_lt c
    simp [c, c2]
theorem cl_and {x M : UInt64} {n h k r : Nat} (hx : x.toNat = 2 ^ n * h + r) (hr : r < 2 ^ n) (hM : M.toNat = 2 ^ n * k) : (x &&& M).toNat = 2 ^ n * (h &&& k) := by
  rw [UInt64.toNat_and, hx, hM]
  exact cl_nat h r k n hr
theorem cl_exp {x : UInt64} {h r : Nat} (hx : x.toNat = 2 ^ 52 * h + r) (hr : r < 2 ^ 52) : f_J9_getExponent_b4643 x = (((UInt64.ofNat (2 ^ 52 * (h &&& 2047))).toInt64 >>> ((52 : Int32).toInt64 &&& 63)) - 1023).toInt32 := by
  unfold f_J9_getExponent_b4643
  have h1 : x &&& 9218868437227405312 = UInt64.ofNat (2 ^ 52 * (h &&& 2047)) := by
    apply UInt64.toNat.inj
    rw [cl_and hx hr (k := 2047) (by decide)]
    have h2 : h &&& 2047 ≤ 2047 := Nat.and_le_right
    rw [UInt64.toNat_ofNat']
    exact (Nat.mod_eq_of_lt (by omega)).symm
  have h3 : x.toInt64 &&& 9218868437227405312 = (x &&& 9218868437227405312).toInt64 := rfl
  rw [h3, h1]
theorem cl_low : ∀ h, h < 1023 → ¬ 0 ≤ (((UInt64.ofNat (2 ^ 52 * (h &&& 2047))).toInt64 >>> ((52 : Int32).toInt64 &&& 63)) - 1023).toInt32 := by
  decide +kernel
theorem cl_lowbits {x M : UInt64} {n q r : Nat} (hx : x.toNat = 2 ^ n * q + r) (hr : r < 2 ^ n) (hM : M.toNat = 2 ^ n - 1) : lg_cmp (M.toInt64 &&& x.toInt64) 0 = 0 ↔ r = 0 := by
  rw [lg_cmp_eq]
  have h1 : (M &&& x).toNat = r := by
    rw [UInt64.toNat_and, hM, Nat.and_comm, Nat.and_two_pow_sub_one_eq_mod, hx, Nat.mul_add_mod]
    exact Nat.mod_eq_of_lt hr
  have h2 : M.toInt64 &&& x.toInt64 = (M &&& x).toInt64 := rfl
  rw [h2]
  constructor
  · intro h
    have h3 : (M &&& x) = 0 := congrArg Int64.toUInt64 h
    rw [h3] at h1
    exact h1.symm
  · intro h
    have h3 : (M &&& x) = 0 := UInt64.toNat.inj (by rw [h1, h]; rfl)
    rw [h3]
    rfl
theorem cl_cut {x K B : UInt64} {n q k r : Nat} (hx : x.toNat = 2 ^ n * q + r) (hr : r < 2 ^ n) (hK : K.toNat = 2 ^ n * k) (hB : B.toNat = 2 ^ n * (q &&& k)) : (x.toInt64 &&& K.toInt64).toUInt64 = B := by
  have h2 : (x.toInt64 &&& K.toInt64).toUInt64 = x &&& K := rfl
  rw [h2]
  apply UInt64.toNat.inj
  rw [cl_and hx hr hK, hB]
theorem cl_one {x : UInt64} (h : vr x 0 72) (h0 : 0 < zd x) : vf_n64 (FP.dmul FP.dconst1 x) ∧ ¬ Op.cmpValue (FP.dcmp (FP.dmul FP.dconst1 x) FP.dconst0) .l ≤ 0 := by
  have hm : vr (FP.dmul FP.dconst1 x) 0 72 := vc_1.mul h 0 72 (by decide) (by decide) (by decide) (by decide) (by decide) (by decide)
  refine ⟨hm.n, fun c => ?_⟩
  have h1 := (fl_le0 hm.ok vc_0.ok _).mp c
  have h2 : zd FP.dconst1 = (FP.Core.one64 : Int) := by decide +kernel
  have h3 := fl_mul_ge (V := x) vc_1.1 h.1 h.ok (by rw [h2, Int.mul_comm]; exact Int.le_refl _)
  have h4 : zd (0 : UInt64) = 0 := FP.Core.zval64_zero
  have h5 : zd FP.dconst0 = 0 := h4
  rw [h4] at h1
  omega
theorem cl_k1 {x : UInt64} (hv : vr x 0 72) (h0 : 0 < zd x) (lo : 4607182418800017408 ≤ x.toNat) (hi : x.toNat < 4611686018427387904) : n_Jxfc994_ceil_294c1 x ∧ (x.toNat = 4607182418800017408 ∧ f_Jxfc994_ceil_294c1 x = x ∨ x.toNat ≠ 4607182418800017408 ∧ f_Jxfc994_ceil_294c1 x = 4611686018427387904) := by
  obtain ⟨r, hr⟩ : ∃ r, x.toNat = 2 ^ 52 * 1023 + r := ⟨x.toNat - 4607182418800017408, by omega⟩
  have hr2 : r < 2 ^ 52 := by omega
  obtain ⟨r2, hr3⟩ : ∃ r2, x.toNat = 2 ^ 52 * 1023 + r2 := ⟨x.toNat - 4607182418800017408, by omega⟩
  have hr4 : r2 < 2 ^ 52 := by omega
  have hE : f_J9_getExponent_b4643 x = 0 := (cl_exp hr3 hr4).trans (by decide +kernel)
  have hM : ((4503599627370495 : Int64) >>> ((0 : Int32).toInt64 &&& 63)) = (4503599627370495 : UInt64).toInt64 := by decide +kernel
  have hK : ((4503599627370495 : UInt64).toInt64 ^^^ (-1)) = (18442240474082181120 : UInt64).toInt64 := by decide +kernel
  have hA := cl_lowbits (M := 4503599627370495) hr hr2 (by decide +kernel)
  have hT := cl_cut (K := 18442240474082181120) (B := 4607182418800017408) (k := 4095) hr hr2 (by decide +kernel) (by decide +kernel)
  obtain ⟨m1, m2⟩ := cl_one hv h0
  have hsum : FP.dadd 4607182418800017408 FP.dconst1 = 4611686018427387904 := by decide +kernel
  refine ⟨⟨fun c => absurd c (by decide), ?_, ?_, ?_⟩, ?_⟩
  · intro _ _ _
    rw [hE, hM, hK]
    unfold vn_snl2d
    rw [hT]
    decide +kernel
  · intro _ _ _
    exact m1
  · intro _ _ _ _
    rw [hE, hM, hK, hT, hsum]
    show (4611686018427387904 : UInt64) &&& 0x7fffffffffffffff ≤ 0x7ff0000000000000
    decide +kernel
  · unfold f_Jxfc994_ceil_294c1 f_Jxfc994_floorOrCeil_f4a47
    rw [hE, if_pos (by decide), if_pos (by decide), hM]
    by_cases c : r = 0
    · rw [if_pos (hA.mpr c)]
      exact Or.inl ⟨by omega, rfl⟩
    · rw [if_neg (fun z => c (hA.mp z)), if_neg m2, hK, hT, hsum]
      exact Or.inr ⟨by omega, rfl⟩
theorem cl_k2 {x : UInt64} (hv : vr x 0 72) (h0 : 0 < zd x) (lo : 4611686018427387904 ≤ x.toNat) (hi : x.toNat < 4613937818241073152) : n_Jxfc994_ceil_294c1 x ∧ (x.toNat = 4611686018427387904 ∧ f_Jxfc994_ceil_294c1 x = x ∨ x.toNat ≠ 4611686018427387904 ∧ f_Jxfc994_ceil_294c1 x = 4613937818241073152) := by
  obtain ⟨r, hr⟩ : ∃ r, x.toNat = 2 ^ 51 * 2048 + r := ⟨x.toNat - 4611686018427387904, by omega⟩
  have hr2 : r < 2 ^ 51 := by omega
  obtain ⟨r2, hr3⟩ : ∃ r2, x.toNat = 2 ^ 52 * 1024 + r2 := ⟨x.toNat - 4611686018427387904, by omega⟩
  have hr4 : r2 < 2 ^ 52 := by omega
  have hE : f_J9_getExponent_b4643 x = 1 := (cl_exp hr3 hr4).trans (by decide +kernel)
  have hM : ((4503599627370495 : Int64) >>> ((1 : Int32).toInt64 &&& 63)) = (2251799813685247 : UInt64).toInt64 := by decide +kernel
  have hK : ((2251799813685247 : UInt64).toInt64 ^^^ (-1)) = (18444492273895866368 : UInt64).toInt64 := by decide +kernel
  have hA := cl_lowbits (M := 2251799813685247) hr hr2 (by decide +kernel)
  have hT := cl_cut (K := 18444492273895866368) (B := 4611686018427387904) (k := 8191) hr hr2 (by decide +kernel) (by decide +kernel)
  obtain ⟨m1, m2⟩ := cl_one hv h0
  have hsum : FP.dadd 4611686018427387904 FP.dconst1 = 4613937818241073152 := by decide +kernel
  refine ⟨⟨fun c => absurd c (by decide), ?_, ?_, ?_⟩, ?_⟩
  · intro _ _ _
    rw [hE, hM, hK]
    unfold vn_snl2d
    rw [hT]
    decide +kernel
  · intro _ _ _
    exact m1
  · intro _ _ _ _
    rw [hE, hM, hK, hT, hsum]
    show (4613937818241073152 : UInt64) &&& 0x7fffffffffffffff ≤ 0x7ff0000000000000
    decide +kernel
  · unfold f_Jxfc994_ceil_294c1 f_Jxfc994_floorOrCeil_f4a47
    rw [hE, if_pos (by decide), if_pos (by decide), hM]
    by_cases c : r = 0
    · rw [if_pos (hA.mpr c)]
      exact Or.inl ⟨by omega, rfl⟩
    · rw [if_neg (fun z => c (hA.mp z)), if_neg m2, hK, hT, hsum]
      exact Or.inr ⟨by omega, rfl⟩
theorem cl_k3 {x : UInt64} (hv : vr x 0 72) (h0 : 0 < zd x) (lo : 4613937818241073152 ≤ x.toNat) (hi : x.toNat < 4616189618054758400) : n_Jxfc994_ceil_294c1 x ∧ (x.toNat = 4613937818241073152 ∧ f_Jxfc994_ceil_294c1 x = x ∨ x.toNat ≠ 4613937818241073152 ∧ f_Jxfc994_ceil_294c1 x = 4616189618054758400) := by
  obtain ⟨r, hr⟩ : ∃ r, x.toNat = 2 ^ 51 * 2049 + r := ⟨x.toNat - 4613937818241073152, by omega⟩
  have hr2 : r < 2 ^ 51 := by omega
  obtain ⟨r2, hr3⟩ : ∃ r2, x.toNat = 2 ^ 52 * 1024 + r2 := ⟨x.toNat - 4611686018427387904, by omega⟩
  have hr4 : r2 < 2 ^ 52 := by omega
  have hE : f_J9_getExponent_b4643 x = 1 := (cl_exp hr3 hr4).trans (by decide +kernel)
  have hM : ((4503599627370495 : Int64) >>> ((1 : Int32).toInt64 &&& 63)) = (2251799813685247 : UInt64).toInt64 := by decide +kernel
  have hK : ((2251799813685247 : UInt64).toInt64 ^^^ (-1)) = (18444492273895866368 : UInt64).toInt64 := by decide +kernel
  have hA := cl_lowbits (M := 2251799813685247) hr hr2 (by decide +kernel)
  have hT := cl_cut (K := 18444492273895866368) (B := 4613937818241073152) (k := 8191) hr hr2 (by decide +kernel) (by decide +kernel)
  obtain ⟨m1, m2⟩ := cl_one hv h0
  have hsum : FP.dadd 4613937818241073152 FP.dconst1 = 4616189618054758400 := by decide +kernel
  refine ⟨⟨fun c => absurd c (by decide), ?_, ?_, ?_⟩, ?_⟩
  · intro _ _ _
    rw [hE, hM, hK]
    unfold vn_snl2d
    rw [hT]
    decide +kernel
  · intro _ _ _
    exact m1
  · intro _ _ _ _
    rw [hE, hM, hK, hT, hsum]
    show (4616189618054758400 : UInt64) &&& 0x7fffffffffffffff ≤ 0x7ff0000000000000
    decide +kernel
  · unfold f_Jxfc994_ceil_294c1 f_Jxfc994_floorOrCeil_f4a47
    rw [hE, if_pos (by decide), if_pos (by decide), hM]
    by_cases c : r = 0
    · rw [if_pos (hA.mpr c)]
      exact Or.inl ⟨by omega, rfl⟩
    · rw [if_neg (fun z => c (hA.mp z)), if_neg m2, hK, hT, hsum]
      exact Or.inr ⟨by omega, rfl⟩
theorem cl_k4 {x : UInt64} (hv : vr x 0 72) (h0 : 0 < zd x) (lo : 4616189618054758400 ≤ x.toNat) (hi : x.toNat < 4617315517961601024) : n_Jxfc994_ceil_294c1 x ∧ (x.toNat = 4616189618054758400 ∧ f_Jxfc994_ceil_294c1 x = x ∨ x.toNat ≠ 4616189618054758400 ∧ f_Jxfc994_ceil_294c1 x = 4617315517961601024) := by
  obtain ⟨r, hr⟩ : ∃ r, x.toNat = 2 ^ 50 * 4100 + r := ⟨x.toNat - 4616189618054758400, by omega⟩
  have hr2 : r < 2 ^ 50 := by omega
  obtain ⟨r2, hr3⟩ : ∃ r2, x.toNat = 2 ^ 52 * 1025 + r2 := ⟨x.toNat - 4616189618054758400, by omega⟩
  have hr4 : r2 < 2 ^ 52 := by omega
  have hE : f_J9_getExponent_b4643 x = 2 := (cl_exp hr3 hr4).trans (by decide +kernel)
  have hM : ((4503599627370495 : Int64) >>> ((2 : Int32).toInt64 &&& 63)) = (1125899906842623 : UInt64).toInt64 := by decide +kernel
  have hK : ((1125899906842623 : UInt64).toInt64 ^^^ (-1)) = (18445618173802708992 : UInt64).toInt64 := by decide +kernel
  have hA := cl_lowbits (M := 1125899906842623) hr hr2 (by decide +kernel)
  have hT := cl_cut (K := 18445618173802708992) (B := 4616189618054758400) (k := 16383) hr hr2 (by decide +kernel) (by decide +kernel)
  obtain ⟨m1, m2⟩ := cl_one hv h0
  have hsum : FP.dadd 4616189618054758400 FP.dconst1 = 4617315517961601024 := by decide +kernel
  refine ⟨⟨fun c => absurd c (by decide), ?_, ?_, ?_⟩, ?_⟩
  · intro _ _ _
    rw [hE, hM, hK]
    unfold vn_snl2d
    rw [hT]
    decide +kernel
  · intro _ _ _
    exact m1
  · intro _ _ _ _
    rw [hE, hM, hK, hT, hsum]
    show (4617315517961601024 : UInt64) &&& 0x7fffffffffffffff ≤ 0x7ff0000000000000
    decide +kernel
  · unfold f_Jxfc994_ceil_294c1 f_Jxfc994_floorOrCeil_f4a47
    rw [hE, if_pos (by decide), if_pos (by decide), hM]
    by_cases c : r = 0
    · rw [if_pos (hA.mpr c)]
      exact Or.inl ⟨by omega, rfl⟩
    · rw [if_neg (fun z => c (hA.mp z)), if_neg m2, hK, hT, hsum]
      exact Or.inr ⟨by omega, rfl⟩
theorem cl_k5 {x : UInt64} (hv : vr x 0 72) (h0 : 0 < zd x) (lo : 4617315517961601024 ≤ x.toNat) (hi : x.toNat < 4618441417868443648) : n_Jxfc994_ceil_294c1 x ∧ (x.toNat = 4617315517961601024 ∧ f_Jxfc994_ceil_294c1 x = x ∨ x.toNat ≠ 4617315517961601024 ∧ f_Jxfc994_ceil_294c1 x = 4618441417868443648) := by
  obtain ⟨r, hr⟩ : ∃ r, x.toNat = 2 ^ 50 * 4101 + r := ⟨x.toNat - 4617315517961601024, by omega⟩
  have hr2 : r < 2 ^ 50 := by omega
  obtain ⟨r2, hr3⟩ : ∃ r2, x.toNat = 2 ^ 52 * 1025 + r2 := ⟨x.toNat - 4616189618054758400, by omega⟩
  have hr4 : r2 < 2 ^ 52 := by omega
  have hE : f_J9_getExponent_b4643 x = 2 := (cl_exp hr3 hr4).trans (by decide +kernel)
  have hM : ((4503599627370495 : Int64) >>> ((2 : Int32).toInt64 &&& 63)) = (1125899906842623 : UInt64).toInt64 := by decide +kernel
  have hK : ((1125899906842623 : UInt64).toInt64 ^^^ (-1)) = (18445618173802708992 : UInt64).toInt64 := by decide +kernel
  have hA := cl_lowbits (M := 1125899906842623) hr hr2 (by decide +kernel)
  have hT := cl_cut (K := 18445618173802708992) (B := 4617315517961601024) (k := 16383) hr hr2 (by decide +kernel) (by decide +kernel)
  obtain ⟨m1, m2⟩ := cl_one hv h0
  have hsum : FP.dadd 4617315517961601024 FP.dconst1 = 4618441417868443648 := by decide +kernel
  refine ⟨⟨fun c => absurd c (by decide), ?_, ?_, ?_⟩, ?_⟩
  · intro _ _ _
    rw [hE, hM, hK]
    unfold vn_snl2d
    rw [hT]
    decide +kernel
  · intro _ _ _
    exact m1
  · intro _ _ _ _
    rw [hE, hM, hK, hT, hsum]
    show (4618441417868443648 : UInt64) &&& 0x7fffffffffffffff ≤ 0x7ff0000000000000
    decide +kernel
  · unfold f_Jxfc994_ceil_294c1 f_Jxfc994_floorOrCeil_f4a47
    rw [hE, if_pos (by decide), if_pos (by decide), hM]
    by_cases c : r = 0
    · rw [if_pos (hA.mpr c)]
      exact Or.inl ⟨by omega, rfl⟩
    · rw [if_neg (fun z => c (hA.mp z)), if_neg m2, hK, hT, hsum]
      exact Or.inr ⟨by omega, rfl⟩
theorem cl_k6 {x : UInt64} (hv : vr x 0 72) (h0 : 0 < zd x) (lo : 4618441417868443648 ≤ x.toNat) (hi : x.toNat < 4619567317775286272) : n_Jxfc994_ceil_294c1 x ∧ (x.toNat = 4618441417868443648 ∧ f_Jxfc994_ceil_294c1 x = x ∨ x.toNat ≠ 4618441417868443648 ∧ f_Jxfc994_ceil_294c1 x = 4619567317775286272) := by
  obtain ⟨r, hr⟩ : ∃ r, x.toNat = 2 ^ 50 * 4102 + r := ⟨x.toNat - 4618441417868443648, by omega⟩
  have hr2 : r < 2 ^ 50 := by omega
  obtain ⟨r2, hr3⟩ : ∃ r2, x.toNat = 2 ^ 52 * 1025 + r2 := ⟨x.toNat - 4616189618054758400, by omega⟩
  have hr4 : r2 < 2 ^ 52 := by omega
  have hE : f_J9_getExponent_b4643 x = 2 := (cl_exp hr3 hr4).trans (by decide +kernel)
  have hM : ((4503599627370495 : Int64) >>> ((2 : Int32).toInt64 &&& 63)) = (1125899906842623 : UInt64).toInt64 := by decide +kernel
  have hK : ((1125899906842623 : UInt64).toInt64 ^^^ (-1)) = (18445618173802708992 : UInt64).toInt64 := by decide +kernel
  have hA := cl_lowbits (M := 1125899906842623) hr hr2 (by decide +kernel)
  have hT := cl_cut (K := 18445618173802708992) (B := 4618441417868443648) (k := 16383) hr hr2 (by decide +kernel) (by decide +kernel)
  obtain ⟨m1, m2⟩ := cl_one hv h0
  have hsum : FP.dadd 4618441417868443648 FP.dconst1 = 4619567317775286272 := by decide +kernel
  refine ⟨⟨fun c => absurd c (by decide), ?_, ?_, ?_⟩, ?_⟩
  · intro _ _ _
    rw [hE, hM, hK]
    unfold vn_snl2d
    rw [hT]
    decide +kernel
  · intro _ _ _
    exact m1
  · intro _ _ _ _
    rw [hE, hM, hK, hT, hsum]
    show (4619567317775286272 : UInt64) &&& 0x7fffffffffffffff ≤ 0x7ff0000000000000
    decide +kernel
  · unfold f_Jxfc994_ceil_294c1 f_Jxfc994_floorOrCeil_f4a47
    rw [hE, if_pos (by decide), if_pos (by decide), hM]
    by_cases c : r = 0
    · rw [if_pos (hA.mpr c)]
      exact Or.inl ⟨by omega, rfl⟩
    · rw [if_neg (fun z => c (hA.mp z)), if_neg m2, hK, hT, hsum]
      exact Or.inr ⟨by omega, rfl⟩
theorem cl_k7 {x : UInt64} (hv : vr x 0 72) (h0 : 0 < zd x) (lo : 4619567317775286272 ≤ x.toNat) (hi : x.toNat < 4620693217682128896) : n_Jxfc994_ceil_294c1 x ∧ (x.toNat = 4619567317775286272 ∧ f_Jxfc994_ceil_294c1 x = x ∨ x.toNat ≠ 4619567317775286272 ∧ f_Jxfc994_ceil_294c1 x = 4620693217682128896) := by
  obtain ⟨r, hr⟩ : ∃ r, x.toNat = 2 ^ 50 * 4103 + r := ⟨x.toNat - 4619567317775286272, by omega⟩
  have hr2 : r < 2 ^ 50 := by omega
  obtain ⟨r2, hr3⟩ : ∃ r2, x.toNat = 2 ^ 52 * 1025 + r2 := ⟨x.toNat - 4616189618054758400, by omega⟩
  have hr4 : r2 < 2 ^ 52 := by omega
  have hE : f_J9_getExponent_b4643 x = 2 := (cl_exp hr3 hr4).trans (by decide +kernel)
  have hM : ((4503599627370495 : Int64) >>> ((2 : Int32).toInt64 &&& 63)) = (1125899906842623 : UInt64).toInt64 := by decide +kernel
  have hK : ((1125899906842623 : UInt64).toInt64 ^^^ (-1)) = (18445618173802708992 : UInt64).toInt64 := by decide +kernel
  have hA := cl_lowbits (M := 1125899906842623) hr hr2 (by decide +kernel)
  have hT := cl_cut (K := 18445618173802708992) (B := 4619567317775286272) (k := 16383) hr hr2 (by decide +kernel) (by decide +kernel)
  obtain ⟨m1, m2⟩ := cl_one hv h0
  have hsum : FP.dadd 4619567317775286272 FP.dconst1 = 4620693217682128896 := by decide +kernel
  refine ⟨⟨fun c => absurd c (by decide), ?_, ?_, ?_⟩, ?_⟩
  · intro _ _ _
    rw [hE, hM, hK]
    unfold vn_snl2d
    rw [hT]
    decide +kernel
  · intro _ _ _
    exact m1
  · intro _ _ _ _
    rw [hE, hM, hK, hT, hsum]
    show (4620693217682128896 : UInt64) &&& 0x7fffffffffffffff ≤ 0x7ff0000000000000
    decide +kernel
  · unfold f_Jxfc994_ceil_294c1 f_Jxfc994_floorOrCeil_f4a47
    rw [hE, if_pos (by decide), if_pos (by decide), hM]
    by_cases c : r = 0
    · rw [if_pos (hA.mpr c)]
      exact Or.inl ⟨by omega, rfl⟩
    · rw [if_neg (fun z => c (hA.mp z)), if_neg m2, hK, hT, hsum]
      exact Or.inr ⟨by omega, rfl⟩
theorem cl_k8 {x : UInt64} (hv : vr x 0 72) (h0 : 0 < zd x) (lo : 4620693217682128896 ≤ x.toNat) (hi : x.toNat < 4621256167635550208) : n_Jxfc994_ceil_294c1 x ∧ (x.toNat = 4620693217682128896 ∧ f_Jxfc994_ceil_294c1 x = x ∨ x.toNat ≠ 4620693217682128896 ∧ f_Jxfc994_ceil_294c1 x = 4621256167635550208) := by
  obtain ⟨r, hr⟩ : ∃ r, x.toNat = 2 ^ 49 * 8208 + r := ⟨x.toNat - 4620693217682128896, by omega⟩
  have hr2 : r < 2 ^ 49 := by omega
  obtain ⟨r2, hr3⟩ : ∃ r2, x.toNat = 2 ^ 52 * 1026 + r2 := ⟨x.toNat - 4620693217682128896, by omega⟩
  have hr4 : r2 < 2 ^ 52 := by omega
  have hE : f_J9_getExponent_b4643 x = 3 := (cl_exp hr3 hr4).trans (by decide +kernel)
  have hM : ((4503599627370495 : Int64) >>> ((3 : Int32).toInt64 &&& 63)) = (562949953421311 : UInt64).toInt64 := by decide +kernel
  have hK : ((562949953421311 : UInt64).toInt64 ^^^ (-1)) = (18446181123756130304 : UInt64).toInt64 := by decide +kernel
  have hA := cl_lowbits (M := 562949953421311) hr hr2 (by decide +kernel)
  have hT := cl_cut (K := 18446181123756130304) (B := 4620693217682128896) (k := 32767) hr hr2 (by decide +kernel) (by decide +kernel)
  obtain ⟨m1, m2⟩ := cl_one hv h0
  have hsum : FP.dadd 4620693217682128896 FP.dconst1 = 4621256167635550208 := by decide +kernel
  refine ⟨⟨fun c => absurd c (by decide), ?_, ?_, ?_⟩, ?_⟩
  · intro _ _ _
    rw [hE, hM, hK]
    unfold vn_snl2d
    rw [hT]
    decide +kernel
  · intro _ _ _
    exact m1
  · intro _ _ _ _
    rw [hE, hM, hK, hT, hsum]
    show (4621256167635550208 : UInt64) &&& 0x7fffffffffffffff ≤ 0x7ff0000000000000
    decide +kernel
  · unfold f_Jxfc994_ceil_294c1 f_Jxfc994_floorOrCeil_f4a47
    rw [hE, if_pos (by decide), if_pos (by decide), hM]
    by_cases c : r = 0
    · rw [if_pos (hA.mpr c)]
      exact Or.inl ⟨by omega, rfl⟩
    · rw [if_neg (fun z => c (hA.mp z)), if_neg m2, hK, hT, hsum]
      exact Or.inr ⟨by omega, rfl⟩
theorem cl_ge {x b : UInt64} {k : Int} (h : dok x) (h0 : 0 < zd x) (hb : dok b) (hs : b.toNat < 2 ^ 63) (hz : zd b = k) (hl : b.toNat ≤ x.toNat) : k ≤ zd x := by
  rw [← hz]
  exact Int.not_lt.mp fun c => by
    have := (cl_lt h hb (cl_pos h h0) hs).mp c
    omega
theorem cl_lo {x b : UInt64} {k : Int} (h : dok x) (h0 : 0 < zd x) (hb : dok b) (hs : b.toNat < 2 ^ 63) (hz : zd b = k) (hl : x.toNat < b.toNat) : zd x < k := by
  rw [← hz]
  exact (cl_lt h hb (cl_pos h h0) hs).mpr hl
theorem cl_eq {x b : UInt64} {k : Int} (hz : zd b = k) (hl : x.toNat = b.toNat) : zd x = k := by
  rw [← hz, UInt64.toNat.inj hl]
theorem cl_ne {x b : UInt64} {k : Int} (h : dok x) (h0 : 0 < zd x) (hb : dok b) (hs : b.toNat < 2 ^ 63) (hz : zd b = k) (hl : b.toNat < x.toNat) : zd x ≠ k := by
  have h1 := (cl_lt hb h hs (cl_pos h h0)).mpr hl
  rw [hz] at h1
  omega
def cl_res (x : UInt64) : Prop := ∃ k : Nat, k ≤ 8 ∧ f_X5_roundedUp x = nI k ∧ FP.d2i (f_Jxfc994_ceil_294c1 x) = nI k ∧ n_Jxfc994_ceil_294c1 x ∧ vf_n64 (f_Jxfc994_ceil_294c1 x)
theorem cl_r1 {x : UInt64} (hv : vr x 0 64) (h0 : 0 < zd x) (lo : 4607182418800017408 ≤ x.toNat) (hi : x.toNat < 4611686018427387904) : cl_res x := by
  have h := hv.ok
  have b1 : dok 4607182418800017408 := (FP.Core.ne_nan _).mpr (by decide +kernel)
  have b2 : dok 4611686018427387904 := (FP.Core.ne_nan _).mpr (by decide +kernel)
  have z1 : zd 4607182418800017408 = ((1 : Nat) : Int) * (FP.Core.one64 : Int) := by decide +kernel
  have z2 : zd 4611686018427387904 = ((1 + 1 : Nat) : Int) * (FP.Core.one64 : Int) := by decide +kernel
  have t1 : (4607182418800017408 : UInt64).toNat = 4607182418800017408 := by decide +kernel
  have t2 : (4611686018427387904 : UInt64).toNat = 4611686018427387904 := by decide +kernel
  have g1 := cl_ge h h0 b1 (by rw [t1]; decide) z1 (by rw [t1]; exact lo)
  have g2 := cl_lo h h0 b2 (by rw [t2]; decide) z2 (by rw [t2]; exact hi)
  have hd := cl_d2i (i := 1) h h0 (by decide) g1 g2
  obtain ⟨r1, r2⟩ := cl_ru (i := 1) h h0 (by decide) g1 g2
  obtain ⟨hn, hc⟩ := cl_k1 (hv.w (Int.le_refl _) (by decide)) h0 lo hi
  rcases hc with ⟨c1, c2⟩ | ⟨c1, c2⟩
  · refine ⟨1, by decide, r1 (cl_eq z1 (by rw [t1]; exact c1)), by rw [c2]; exact hd, hn, by rw [c2]; exact hv.n⟩
  · refine ⟨2, by decide, r2 (cl_ne h h0 b1 (by rw [t1]; decide) z1 (by rw [t1]; omega)), by rw [c2]; decide +kernel, hn, ?_⟩
    rw [c2]
    show (4611686018427387904 : UInt64) &&& 0x7fffffffffffffff ≤ 0x7ff0000000000000
    decide +kernel
theorem cl_r2 {x : UInt64} (hv : vr x 0 64) (h0 : 0 < zd x) (lo : 4611686018427387904 ≤ x.toNat) (hi : x.toNat < 4613937818241073152) : cl_res x := by
  have h := hv.ok
  have b1 : dok 4611686018427387904 := (FP.Core.ne_nan _).mpr (by decide +kernel)
  have b2 : dok 4613937818241073152 := (FP.Core.ne_nan _).mpr (by decide +kernel)
  have z1 : zd 4611686018427387904 = ((2 : Nat) : Int) * (FP.Core.one64 : Int) := by decide +kernel
  have z2 : zd 4613937818241073152 = ((2 + 1 : Nat) : Int) * (FP.Core.one64 : Int) := by decide +kernel
  have t1 : (4611686018427387904 : UInt64).toNat = 4611686018427387904 := by decide +kernel
  have t2 : (4613937818241073152 : UInt64).toNat = 4613937818241073152 := by decide +kernel
  have g1 := cl_ge h h0 b1 (by rw [t1]; decide) z1 (by rw [t1]; exact lo)
  have g2 := cl_lo h h0 b2 (by rw [t2]; decide) z2 (by rw [t2]; exact hi)
  have hd := cl_d2i (i := 2) h h0 (by decide) g1 g2
  obtain ⟨r1, r2⟩ := cl_ru (i := 2) h h0 (by decide) g1 g2
  obtain ⟨hn, hc⟩ := cl_k2 (hv.w (Int.le_refl _) (by decide)) h0 lo hi
  rcases hc with ⟨c1, c2⟩ | ⟨c1, c2⟩
  · refine ⟨2, by decide, r1 (cl_eq z1 (by rw [t1]; exact c1)), by rw [c2]; exact hd, hn, by rw [c2]; exact hv.n⟩
  · refine ⟨3, by decide, r2 (cl_ne h h0 b1 (by rw [t1]; decide) z1 (by rw [t1]; omega)), by rw [c2]; decide +kernel, hn, ?_⟩
    rw [c2]
    show (4613937818241073152 : UInt64) &&& 0x7fffffffffffffff ≤ 0x7ff0000000000000
    decide +kernel
theorem cl_r3 {x : UInt64} (hv : vr x 0 64) (h0 : 0 < zd x) (lo : 4613937818241073152 ≤ x.toNat) (hi : x.toNat < 4616189618054758400) : cl_res x := by
  have h := hv.ok
  have b1 : dok 4613937818241073152 := (FP.Core.ne_nan _).mpr (by decide +kernel)
  have b2 : dok 4616189618054758400 := (FP.Core.ne_nan _).mpr (by decide +kernel)
  have z1 : zd 4613937818241073152 = ((3 : Nat) : Int) * (FP.Core.one64 : Int) := by decide +kernel
  have z2 : zd 4616189618054758400 = ((3 + 1 : Nat) : Int) * (FP.Core.one64 : Int) := by decide +kernel
  have t1 : (4613937818241073152 : UInt64).toNat = 4613937818241073152 := by decide +kernel
  have t2 : (4616189618054758400 : UInt64).toNat = 4616189618054758400 := by decide +kernel
  have g1 := cl_ge h h0 b1 (by rw [t1]; decide) z1 (by rw [t1]; exact lo)
  have g2 := cl_lo h h0 b2 (by rw [t2]; decide) z2 (by rw [t2]; exact hi)
  have hd := cl_d2i (i := 3) h h0 (by decide) g1 g2
  obtain ⟨r1, r2⟩ := cl_ru (i := 3) h h0 (by decide) g1 g2
  obtain ⟨hn, hc⟩ := cl_k3 (hv.w (Int.le_refl _) (by decide)) h0 lo hi
  rcases hc with ⟨c1, c2⟩ | ⟨c1, c2⟩
  · refine ⟨3, by decide, r1 (cl_eq z1 (by rw [t1]; exact c1)), by rw [c2]; exact hd, hn, by rw [c2]; exact hv.n⟩
  · refine ⟨4, by decide, r2 (cl_ne h h0 b1 (by rw [t1]; decide) z1 (by rw [t1]; omega)), by rw [c2]; decide +kernel, hn, ?_⟩
    rw [c2]
    show (4616189618054758400 : UInt64) &&& 0x7fffffffffffffff ≤ 0x7ff0000000000000
    decide +kernel
theorem cl_r4 {x : UInt64} (hv : vr x 0 64) (h0 : 0 < zd x) (lo : 4616189618054758400 ≤ x.toNat) (hi : x.toNat < 4617315517961601024) : cl_res x := by
  have h := hv.ok
  have b1 : dok 4616189618054758400 := (FP.Core.ne_nan _).mpr (by decide +kernel)
  have b2 : dok 4617315517961601024 := (FP.Core.ne_nan _).mpr (by decide +kernel)
  have z1 : zd 4616189618054758400 = ((4 : Nat) : Int) * (FP.Core.one64 : Int) := by decide +kernel
  have z2 : zd 4617315517961601024 = ((4 + 1 : Nat) : Int) * (FP.Core.one64 : Int) := by decide +kernel
  have t1 : (4616189618054758400 : UInt64).toNat = 4616189618054758400 := by decide +kernel
  have t2 : (4617315517961601024 : UInt64).toNat = 4617315517961601024 := by decide +kernel
  have g1 := cl_ge h h0 b1 (by rw [t1]; decide) z1 (by rw [t1]; exact lo)
  have g2 := cl_lo h h0 b2 (by rw [t2]; decide) z2 (by rw [t2]; exact hi)
  have hd := cl_d2i (i := 4) h h0 (by decide) g1 g2
  obtain ⟨r1, r2⟩ := cl_ru (i := 4) h h0 (by decide) g1 g2
  obtain ⟨hn, hc⟩ := cl_k4 (hv.w (Int.le_refl _) (by decide)) h0 lo hi
  rcases hc with ⟨c1, c2⟩ | ⟨c1, c2⟩
  · refine ⟨4, by decide, r1 (cl_eq z1 (by rw [t1]; exact c1)), by rw [c2]; exact hd, hn, by rw [c2]; exact hv.n⟩
  · refine ⟨5, by decide, r2 (cl_ne h h0 b1 (by rw [t1]; decide) z1 (by rw [t1]; omega)), by rw [c2]; decide +kernel, hn, ?_⟩
    rw [c2]
    show (4617315517961601024 : UInt64) &&& 0x7fffffffffffffff ≤ 0x7ff0000000000000
    decide +kernel
theorem cl_r5 {x : UInt64} (hv : vr x 0 64) (h0 : 0 < zd x) (lo : 4617315517961601024 ≤ x.toNat) (hi : x.toNat < 4618441417868443648) : cl_res x := by
  have h := hv.ok
  have b1 : dok 4617315517961601024 := (FP.Core.ne_nan _).mpr (by decide +kernel)
  have b2 : dok 4618441417868443648 := (FP.Core.ne_nan _).mpr (by decide +kernel)
  have z1 : zd 4617315517961601024 = ((5 : Nat) : Int) * (FP.Core.one64 : Int) := by decide +kernel
  have z2 : zd 4618441417868443648 = ((5 + 1 : Nat) : Int) * (FP.Core.one64 : Int) := by decide +kernel
  have t1 : (4617315517961601024 : UInt64).toNat = 4617315517961601024 := by decide +kernel
  have t2 : (4618441417868443648 : UInt64).toNat = 4618441417868443648 := by decide +kernel
  have g1 := cl_ge h h0 b1 (by rw [t1]; decide) z1 (by rw [t1]; exact lo)
  have g2 := cl_lo h h0 b2 (by rw [t2]; decide) z2 (by rw [t2]; exact hi)
  have hd := cl_d2i (i := 5) h h0 (by decide) g1 g2
  obtain ⟨r1, r2⟩ := cl_ru (i := 5) h h0 (by decide) g1 g2
  obtain ⟨hn, hc⟩ := cl_k5 (hv.w (Int.le_refl _) (by decide)) h0 lo hi
  rcases hc with ⟨c1, c2⟩ | ⟨c1, c2⟩
  · refine ⟨5, by decide, r1 (cl_eq z1 (by rw [t1]; exact c1)), by rw [c2]; exact hd, hn, by rw [c2]; exact hv.n⟩
  · refine ⟨6, by decide, r2 (cl_ne h h0 b1 (by rw [t1]; decide) z1 (by rw [t1]; omega)), by rw [c2]; decide +kernel, hn, ?_⟩
    rw [c2]
    show (4618441417868443648 : UInt64) &&& 0x7fffffffffffffff ≤ 0x7ff0000000000000
    decide +kernel
theorem cl_r6 {x : UInt64} (hv : vr x 0 64) (h0 : 0 < zd x) (lo : 4618441417868443648 ≤ x.toNat) (hi : x.toNat < 4619567317775286272) : cl_res x := by
  have h := hv.ok
  have b1 : dok 4618441417868443648 := (FP.Core.ne_nan _).mpr (by decide +kernel)
  have b2 : dok 4619567317775286272 := (FP.Core.ne_nan _).mpr (by decide +kernel)
  have z1 : zd 4618441417868443648 = ((6 : Nat) : Int) * (FP.Core.one64 : Int) := by decide +kernel
  have z2 : zd 4619567317775286272 = ((6 + 1 : Nat) : Int) * (FP.Core.one64 : Int) := by decide +kernel
  have t1 : (4618441417868443648 : UInt64).toNat = 4618441417868443648 := by decide +kernel
  have t2 : (4619567317775286272 : UInt64).toNat = 4619567317775286272 := by decide +kernel
  have g1 := cl_ge h h0 b1 (by rw [t1]; decide) z1 (by rw [t1]; exact lo)
  have g2 := cl_lo h h0 b2 (by rw [t2]; decide) z2 (by rw [t2]; exact hi)
  have hd := cl_d2i (i := 6) h h0 (by decide) g1 g2
  obtain ⟨r1, r2⟩ := cl_ru (i := 6) h h0 (by decide) g1 g2
  obtain ⟨hn, hc⟩ := cl_k6 (hv.w (Int.le_refl _) (by decide)) h0 lo hi
  rcases hc with ⟨c1, c2⟩ | ⟨c1, c2⟩
  · refine ⟨6, by decide, r1 (cl_eq z1 (by rw [t1]; exact c1)), by rw [c2]; exact hd, hn, by rw [c2]; exact hv.n⟩
  · refine ⟨7, by decide, r2 (cl_ne h h0 b1 (by rw [t1]; decide) z1 (by rw [t1]; omega)), by rw [c2]; decide +kernel, hn, ?_⟩
    rw [c2]
    show (4619567317775286272 : UInt64) &&& 0x7fffffffffffffff ≤ 0x7ff0000000000000
    decide +kernel
theorem cl_r7 {x : UInt64} (hv : vr x 0 64) (h0 : 0 < zd x) (lo : 4619567317775286272 ≤ x.toNat) (hi : x.toNat < 4620693217682128896) : cl_res x := by
  have h := hv.ok
  have b1 : dok 4619567317775286272 := (FP.Core.ne_nan _).mpr (by decide +kernel)
  have b2 : dok 4620693217682128896 := (FP.Core.ne_nan _).mpr (by decide +kernel)
  have z1 : zd 4619567317775286272 = ((7 : Nat) : Int) * (FP.Core.one64 : Int) := by decide +kernel
  have z2 : zd 4620693217682128896 = ((7 + 1 : Nat) : Int) * (FP.Core.one64 : Int) := by decide +kernel
  have t1 : (4619567317775286272 : UInt64).toNat = 4619567317775286272 := by decide +kernel
  have t2 : (4620693217682128896 : UInt64).toNat = 4620693217682128896 := by decide +kernel
  have g1 := cl_ge h h0 b1 (by rw [t1]; decide) z1 (by rw [t1]; exact lo)
  have g2 := cl_lo h h0 b2 (by rw [t2]; decide) z2 (by rw [t2]; exact hi)
  have hd := cl_d2i (i := 7) h h0 (by decide) g1 g2
  obtain ⟨r1, r2⟩ := cl_ru (i := 7) h h0 (by decide) g1 g2
  obtain ⟨hn, hc⟩ := cl_k7 (hv.w (Int.le_refl _) (by decide)) h0 lo hi
  rcases hc with ⟨c1, c2⟩ | ⟨c1, c2⟩
  · refine ⟨7, by decide, r1 (cl_eq z1 (by rw [t1]; exact c1)), by rw [c2]; exact hd, hn, by rw [c2]; exact hv.n⟩
  · refine ⟨8, by decide, r2 (cl_ne h h0 b1 (by rw [t1]; decide) z1 (by rw [t1]; omega)), by rw [c2]; decide +kernel, hn, ?_⟩
    rw [c2]
    show (4620693217682128896 : UInt64) &&& 0x7fffffffffffffff ≤ 0x7ff0000000000000
    decide +kernel
theorem cl_r8 {x : UInt64} (hv : vr x 0 64) (h0 : 0 < zd x) (lo : 4620693217682128896 ≤ x.toNat) (hi : x.toNat < 4621256167635550208) (h8 : x.toNat = 4620693217682128896) : cl_res x := by
  have h := hv.ok
  have b1 : dok 4620693217682128896 := (FP.Core.ne_nan _).mpr (by decide +kernel)
  have b2 : dok 4621256167635550208 := (FP.Core.ne_nan _).mpr (by decide +kernel)
  have z1 : zd 4620693217682128896 = ((8 : Nat) : Int) * (FP.Core.one64 : Int) := by decide +kernel
  have z2 : zd 4621256167635550208 = ((8 + 1 : Nat) : Int) * (FP.Core.one64 : Int) := by decide +kernel
  have t1 : (4620693217682128896 : UInt64).toNat = 4620693217682128896 := by decide +kernel
  have t2 : (4621256167635550208 : UInt64).toNat = 4621256167635550208 := by decide +kernel
  have g1 := cl_ge h h0 b1 (by rw [t1]; decide) z1 (by rw [t1]; exact lo)
  have g2 := cl_lo h h0 b2 (by rw [t2]; decide) z2 (by rw [t2]; exact hi)
  have hd := cl_d2i (i := 8) h h0 (by decide) g1 g2
  obtain ⟨r1, r2⟩ := cl_ru (i := 8) h h0 (by decide) g1 g2
  obtain ⟨hn, hc⟩ := cl_k8 (hv.w (Int.le_refl _) (by decide)) h0 lo hi
  rcases hc with ⟨c1, c2⟩ | ⟨c1, c2⟩
  · refine ⟨8, by decide, r1 (cl_eq z1 (by rw [t1]; exact c1)), by rw [c2]; exact hd, hn, by rw [c2]; exact hv.n⟩
  · exact absurd h8 c1
theorem cl_r0 {x : UInt64} (hv : vr x 0 64) (h0 : 0 < zd x) (hi : x.toNat < 4607182418800017408) : cl_res x := by
  have h := hv.ok
  have b2 : dok 4607182418800017408 := (FP.Core.ne_nan _).mpr (by decide +kernel)
  have z2 : zd 4607182418800017408 = ((0 + 1 : Nat) : Int) * (FP.Core.one64 : Int) := by decide +kernel
  have t2 : (4607182418800017408 : UInt64).toNat = 4607182418800017408 := by decide +kernel
  have g1 : ((0 : Nat) : Int) * (FP.Core.one64 : Int) ≤ zd x := by rw [Int.natCast_zero, Int.zero_mul]; exact Int.le_of_lt h0
  have g2 := cl_lo h h0 b2 (by rw [t2]; decide) z2 (by rw [t2]; exact hi)
  have hru := (cl_ru (i := 0) h h0 (by decide) g1 g2).2 (by rw [Int.natCast_zero, Int.zero_mul]; omega)
  have hE := cl_exp (x := x) (h := x.toNat / 2 ^ 52) (r := x.toNat % 2 ^ 52) (Nat.div_add_mod _ _).symm (Nat.mod_lt _ (by decide))
  have hE2 := cl_low (x.toNat / 2 ^ 52) (by omega)
  rw [← hE] at hE2
  have hc : f_Jxfc994_ceil_294c1 x = FP.dconst1 := by
    unfold f_Jxfc994_ceil_294c1 f_Jxfc994_floorOrCeil_f4a47
    rw [if_neg hE2]
    have z0 : zd FP.dconst0 = 0 := FP.Core.zval64_zero
    have k0 : dok FP.dconst0 := vc_0.ok
    rw [if_neg (fun c => by
      have := (fl_eq0 h k0 _).mp c
      omega), if_pos ((fl_ge0 h k0 _).mpr (by omega))]
  refine ⟨1, by decide, hru, by rw [hc]; decide +kernel, ⟨fun c => absurd c (by decide), fun c => absurd c hE2, fun c => absurd c hE2, fun c => absurd c hE2⟩, ?_⟩
  rw [hc]
  exact vc_1.n
theorem cl_z0 : cl_res 0 := ⟨0, by decide, by decide +kernel, by decide +kernel, ⟨fun c => absurd c (by decide), fun c => absurd c (by decide +kernel), fun c => absurd c (by decide +kernel), fun c => absurd c (by decide +kernel)⟩, by show f_Jxfc994_ceil_294c1 0 &&& 0x7fffffffffffffff ≤ 0x7ff0000000000000; decide +kernel⟩
theorem cl_z1 : cl_res 9223372036854775808 := ⟨0, by decide, by decide +kernel, by decide +kernel, ⟨fun c => absurd c (by decide), fun c => absurd c (by decide +kernel), fun c => absurd c (by decide +kernel), fun c => absurd c (by decide +kernel)⟩, by show f_Jxfc994_ceil_294c1 9223372036854775808 &&& 0x7fffffffffffffff ≤ 0x7ff0000000000000; decide +kernel⟩
theorem cl_all {x : UInt64} (hv : vr x 0 64) : cl_res x := by
  have h := hv.ok
  have hl : 0 ≤ zd x := by
    have := hv.2.1
    rw [Int.zero_mul] at this
    exact this
  by_cases e : zd x = 0
  · have h1 := (FP.Core.zval_eq_zero h).mp e
    have h2 := x.toNat_lt
    rcases Nat.lt_or_ge x.toNat (2 ^ 63) with c | c
    · have : x = 0 := UInt64.toNat.inj (by show x.toNat = 0; omega)
      rw [this]
      exact cl_z0
    · have : x = 9223372036854775808 := UInt64.toNat.inj (by show x.toNat = 9223372036854775808; omega)
      rw [this]
      exact cl_z1
  · have h0 : 0 < zd x := by omega
    have b8 : dok 4620693217682128896 := (FP.Core.ne_nan _).mpr (by decide +kernel)
    have z8 : zd 4620693217682128896 = 64 * fl_E := by decide +kernel
    have t8 : (4620693217682128896 : UInt64).toNat = 4620693217682128896 := by decide +kernel
    have hs := cl_pos h h0
    have htop : x.toNat ≤ 4620693217682128896 := Nat.le_of_not_lt fun c => by
      have h3 := (cl_lt b8 h (by rw [t8]; decide) hs).mpr (by rw [t8]; exact c)
      rw [z8] at h3
      exact absurd hv.2.2 (by omega)
    rcases Nat.lt_or_ge x.toNat 4607182418800017408 with c0 | c0
    · exact cl_r0 hv h0 c0
    rcases Nat.lt_or_ge x.toNat 4611686018427387904 with c1 | c1
    · exact cl_r1 hv h0 c0 c1
    rcases Nat.lt_or_ge x.toNat 4613937818241073152 with c2 | c2
    · exact cl_r2 hv h0 c1 c2
    rcases Nat.lt_or_ge x.toNat 4616189618054758400 with c3 | c3
    · exact cl_r3 hv h0 c2 c3
    rcases Nat.lt_or_ge x.toNat 4617315517961601024 with c4 | c4
    · exact cl_r4 hv h0 c3 c4
    rcases Nat.lt_or_ge x.toNat 4618441417868443648 with c5 | c5
    · exact cl_r5 hv h0 c4 c5
    rcases Nat.lt_or_ge x.toNat 4619567317775286272 with c6 | c6
    · exact cl_r6 hv h0 c5 c6
    rcases Nat.lt_or_ge x.toNat 4620693217682128896 with c7 | c7
    · exact cl_r7 hv h0 c6 c7
    exact cl_r8 hv h0 c7 (by omega) (by omega)
