/-! doubles and floats as whole numbers of their least numbers -/
abbrev zd (a : UInt64) : Int := FP.Core.zval FP.Core.b64 (FP.Core.val64 a)
abbrev zf (a : UInt32) : Int := FP.Core.zval FP.Core.b32 (FP.Core.val32 a)
abbrev dok (a : UInt64) : Prop := FP.Core.val64 a ≠ .nan
abbrev fok (a : UInt32) : Prop := FP.Core.val32 a ≠ .nan
theorem fl_vf {a : UInt64} (h : dok a) : vf_n64 a := by
  have h1 := (FP.Core.ne_nan a).mp h
  unfold vf_n64
  rw [UInt64.le_iff_toNat_le, FP.Core.mask_toNat]
  exact h1
theorem fl_vf32 {a : UInt32} (h : fok a) : vf_n32 a := by
  have h1 := (FP.Core.ne_nan32 a).mp h
  unfold vf_n32
  rw [UInt32.le_iff_toNat_le, FP.Core.mask_toNat32]
  exact h1
theorem fl_cv {a b : UInt64} (ha : dok a) (hb : dok b) (op : CmpOp) : Op.cmpValue (FP.dcmp a b) op = if zd a < zd b then -1 else if zd a = zd b then 0 else 1 := by
  have h := FP.Core.dcmp_zval ha hb
  rw [FP.Core.compare_ite] at h
  rw [show FP.dcmp a b = _ from h]
  split
  · rfl
  · split <;> rfl
theorem fl_le0 {a b : UInt64} (ha : dok a) (hb : dok b) (op : CmpOp) : Op.cmpValue (FP.dcmp a b) op ≤ 0 ↔ zd a ≤ zd b := by
  rw [fl_cv ha hb]
  split
  · exact ⟨fun _ => by omega, fun _ => by decide⟩
  · split
    · exact ⟨fun _ => by omega, fun _ => by decide⟩
    · exact ⟨fun h => absurd h (by decide), fun h => by omega⟩
theorem fl_lt0 {a b : UInt64} (ha : dok a) (hb : dok b) (op : CmpOp) : Op.cmpValue (FP.dcmp a b) op < 0 ↔ zd a < zd b := by
  rw [fl_cv ha hb]
  split
  · exact ⟨fun _ => by omega, fun _ => by decide⟩
  · split
    · exact ⟨fun h => absurd h (by decide), fun h => by omega⟩
    · exact ⟨fun h => absurd h (by decide), fun h => by omega⟩
theorem fl_ge0 {a b : UInt64} (ha : dok a) (hb : dok b) (op : CmpOp) : 0 ≤ Op.cmpValue (FP.dcmp a b) op ↔ zd b ≤ zd a := by
  rw [fl_cv ha hb]
  split
  · exact ⟨fun h => absurd h (by decide), fun h => by omega⟩
  · split
    · exact ⟨fun _ => by omega, fun _ => by decide⟩
    · exact ⟨fun _ => by omega, fun _ => by decide⟩
theorem fl_gt0 {a b : UInt64} (ha : dok a) (hb : dok b) (op : CmpOp) : 0 < Op.cmpValue (FP.dcmp a b) op ↔ zd b < zd a := by
  rw [fl_cv ha hb]
  split
  · exact ⟨fun h => absurd h (by decide), fun h => by omega⟩
  · split
    · exact ⟨fun h => absurd h (by decide), fun h => by omega⟩
    · exact ⟨fun _ => by omega, fun _ => by decide⟩
theorem fl_eq0 {a b : UInt64} (ha : dok a) (hb : dok b) (op : CmpOp) : Op.cmpValue (FP.dcmp a b) op = 0 ↔ zd a = zd b := by
  rw [fl_cv ha hb]
  split
  · exact ⟨fun h => absurd h (by decide), fun h => by omega⟩
  · split
    · exact ⟨fun _ => by omega, fun _ => by decide⟩
    · exact ⟨fun h => absurd h (by decide), fun h => by omega⟩
theorem ff_cv {a b : UInt32} (ha : fok a) (hb : fok b) (op : CmpOp) : Op.cmpValue (FP.fcmp a b) op = if zf a < zf b then -1 else if zf a = zf b then 0 else 1 := by
  have h := FP.Core.fcmp_zval ha hb
  rw [FP.Core.compare_ite] at h
  rw [show FP.fcmp a b = _ from h]
  split
  · rfl
  · split <;> rfl
theorem ff_le0 {a b : UInt32} (ha : fok a) (hb : fok b) (op : CmpOp) : Op.cmpValue (FP.fcmp a b) op ≤ 0 ↔ zf a ≤ zf b := by
  rw [ff_cv ha hb]
  split
  · exact ⟨fun _ => by omega, fun _ => by decide⟩
  · split
    · exact ⟨fun _ => by omega, fun _ => by decide⟩
    · exact ⟨fun h => absurd h (by decide), fun h => by omega⟩
theorem ff_ge0 {a b : UInt32} (ha : fok a) (hb : fok b) (op : CmpOp) : 0 ≤ Op.cmpValue (FP.fcmp a b) op ↔ zf b ≤ zf a := by
  rw [ff_cv ha hb]
  split
  · exact ⟨fun h => absurd h (by decide), fun h => by omega⟩
  · split
    · exact ⟨fun _ => by omega, fun _ => by decide⟩
    · exact ⟨fun _ => by omega, fun _ => by decide⟩
theorem fl_pick {a b : UInt64} (ha : dok a) (hb : dok b) (g : Bool) : Native.java_lang_Math.nans.pick64 g a b = if zd a < zd b then (if g then b else a) else if zd a = zd b then (if (a >>> 63 == 1) == g then b else a) else (if g then a else b) := by
  have h := FP.Core.dcmp_zval ha hb
  rw [FP.Core.compare_ite] at h
  unfold Native.java_lang_Math.nans.pick64
  rw [show FP.dcmp a b = _ from h]
  by_cases h1 : zd a < zd b
  · rw [if_pos h1, if_pos h1]
  · rw [if_neg h1, if_neg h1]
    by_cases h2 : zd a = zd b
    · rw [if_pos h2, if_pos h2]
    · rw [if_neg h2, if_neg h2]
theorem ff_pick {a b : UInt32} (ha : fok a) (hb : fok b) (g : Bool) : Native.java_lang_Math.nans.pick32 g a b = if zf a < zf b then (if g then b else a) else if zf a = zf b then (if (a >>> 31 == 1) == g then b else a) else (if g then a else b) := by
  have h := FP.Core.fcmp_zval ha hb
  rw [FP.Core.compare_ite] at h
  unfold Native.java_lang_Math.nans.pick32
  rw [show FP.fcmp a b = _ from h]
  by_cases h1 : zf a < zf b
  · rw [if_pos h1, if_pos h1]
  · rw [if_neg h1, if_neg h1]
    by_cases h2 : zf a = zf b
    · rw [if_pos h2, if_pos h2]
    · rw [if_neg h2, if_neg h2]
/-! bounds of sums, products, quotients -/
theorem fl_negfin {b : UInt64} (hb : FP.Core.DFin b) : ∃ s c q, FP.Core.negate (FP.Core.val64 b) = .fin s c q := by
  obtain ⟨s, c, q, h⟩ := hb
  exact ⟨!s, c, q, by rw [h]; rfl⟩
theorem fl_add_le {a b V : UInt64} (ha : FP.Core.DFin a) (hb : FP.Core.DFin b) (hV : dok V) (h : zd a + zd b ≤ zd V) : zd (FP.dadd a b) ≤ zd V := by
  show FP.Core.zval _ (FP.Core.val64 (FP.Core.dadd a b)) ≤ _
  rw [FP.Core.val64_dadd]
  exact FP.Core.sum_le FP.Core.good_b64 ha hb (FP.Core.val64_fits a) (FP.Core.val64_fits b) (FP.Core.val64_fits V) hV h
theorem fl_add_ge {a b V : UInt64} (ha : FP.Core.DFin a) (hb : FP.Core.DFin b) (hV : dok V) (h : zd V ≤ zd a + zd b) : zd V ≤ zd (FP.dadd a b) := by
  show _ ≤ FP.Core.zval _ (FP.Core.val64 (FP.Core.dadd a b))
  rw [FP.Core.val64_dadd]
  exact FP.Core.sum_ge FP.Core.good_b64 ha hb (FP.Core.val64_fits a) (FP.Core.val64_fits b) (FP.Core.val64_fits V) hV h
theorem fl_sub_le {a b V : UInt64} (ha : FP.Core.DFin a) (hb : FP.Core.DFin b) (hV : dok V) (h : zd a - zd b ≤ zd V) : zd (FP.dsub a b) ≤ zd V := by
  show FP.Core.zval _ (FP.Core.val64 (FP.Core.dsub a b)) ≤ _
  rw [FP.Core.val64_dsub]
  refine FP.Core.sum_le FP.Core.good_b64 ha (fl_negfin hb) (FP.Core.val64_fits a) (FP.Core.negate_fits (FP.Core.val64_fits b)) (FP.Core.val64_fits V) hV ?_
  rw [FP.Core.zval_negate]
  show zd a + -zd b ≤ zd V
  omega
theorem fl_sub_ge {a b V : UInt64} (ha : FP.Core.DFin a) (hb : FP.Core.DFin b) (hV : dok V) (h : zd V ≤ zd a - zd b) : zd V ≤ zd (FP.dsub a b) := by
  show _ ≤ FP.Core.zval _ (FP.Core.val64 (FP.Core.dsub a b))
  rw [FP.Core.val64_dsub]
  refine FP.Core.sum_ge FP.Core.good_b64 ha (fl_negfin hb) (FP.Core.val64_fits a) (FP.Core.negate_fits (FP.Core.val64_fits b)) (FP.Core.val64_fits V) hV ?_
  rw [FP.Core.zval_negate]
  show zd V ≤ zd a + -zd b
  omega
theorem ff_negfin {b : UInt32} (hb : FP.Core.FFin b) : ∃ s c q, FP.Core.negate (FP.Core.val32 b) = .fin s c q := by
  obtain ⟨s, c, q, h⟩ := hb
  exact ⟨!s, c, q, by rw [h]; rfl⟩
theorem ff_add_ge {a b V : UInt32} (ha : FP.Core.FFin a) (hb : FP.Core.FFin b) (hV : fok V) (h : zf V ≤ zf a + zf b) : zf V ≤ zf (FP.fadd a b) := by
  show _ ≤ FP.Core.zval _ (FP.Core.val32 (FP.Core.fadd a b))
  rw [FP.Core.val32_fadd]
  exact FP.Core.sum_ge FP.Core.good_b32 ha hb (FP.Core.val32_fits a) (FP.Core.val32_fits b) (FP.Core.val32_fits V) hV h
theorem ff_sub_le {a b V : UInt32} (ha : FP.Core.FFin a) (hb : FP.Core.FFin b) (hV : fok V) (h : zf a - zf b ≤ zf V) : zf (FP.fsub a b) ≤ zf V := by
  show FP.Core.zval _ (FP.Core.val32 (FP.Core.fsub a b)) ≤ _
  rw [FP.Core.val32_fsub]
  refine FP.Core.sum_le FP.Core.good_b32 ha (ff_negfin hb) (FP.Core.val32_fits a) (FP.Core.negate_fits (FP.Core.val32_fits b)) (FP.Core.val32_fits V) hV ?_
  rw [FP.Core.zval_negate]
  show zf a + -zf b ≤ zf V
  omega
theorem fl_signed (s t : Bool) (a b : Nat) : FP.Core.signed (s != t) (a * b) = FP.Core.signed s a * FP.Core.signed t b := by
  cases s <;> cases t <;> simp [FP.Core.signed, Int.neg_mul, Int.mul_neg]
theorem fl_pow : ((2 ^ (FP.Core.b64.qmin - 2 * FP.Core.b64.qmin).toNat : Nat) : Int) = (FP.Core.one64 : Int) := by
  rw [← FP.Core.pow_qmin64, show FP.Core.b64.qmin - 2 * FP.Core.b64.qmin = -FP.Core.b64.qmin by omega]
theorem fl_mul_le {a b V : UInt64} (ha : FP.Core.DFin a) (hb : FP.Core.DFin b) (hV : dok V) (h : zd a * zd b ≤ zd V * (FP.Core.one64 : Int)) : zd (FP.dmul a b) ≤ zd V := by
  show FP.Core.zval _ (FP.Core.val64 (FP.Core.dmul a b)) ≤ _
  have fa := FP.Core.val64_fits a
  have fb := FP.Core.val64_fits b
  obtain ⟨s, c, q, ha⟩ := ha
  obtain ⟨t, d, r, hb⟩ := hb
  unfold zd at h
  rw [FP.Core.val64_dmul]
  rw [ha] at h fa ⊢
  rw [hb] at h fb ⊢
  obtain ⟨p1, p2, p3⟩ := FP.Core.product_units fa fb
  rw [p1]
  refine FP.Core.zval_round_le FP.Core.good_b64 (FP.Core.val64_fits V) hV (e0 := 2 * FP.Core.b64.qmin) (by have := FP.Core.qmin_neg FP.Core.good_b64; omega) p2 ?_
  rw [p3, fl_signed, fl_pow]
  exact h
theorem fl_mul_ge {a b V : UInt64} (ha : FP.Core.DFin a) (hb : FP.Core.DFin b) (hV : dok V) (h : zd V * (FP.Core.one64 : Int) ≤ zd a * zd b) : zd V ≤ zd (FP.dmul a b) := by
  show _ ≤ FP.Core.zval _ (FP.Core.val64 (FP.Core.dmul a b))
  have fa := FP.Core.val64_fits a
  have fb := FP.Core.val64_fits b
  obtain ⟨s, c, q, ha⟩ := ha
  obtain ⟨t, d, r, hb⟩ := hb
  unfold zd at h
  rw [FP.Core.val64_dmul]
  rw [ha] at h fa ⊢
  rw [hb] at h fb ⊢
  obtain ⟨p1, p2, p3⟩ := FP.Core.product_units fa fb
  rw [p1]
  refine FP.Core.zval_round_ge FP.Core.good_b64 (FP.Core.val64_fits V) hV (e0 := 2 * FP.Core.b64.qmin) (by have := FP.Core.qmin_neg FP.Core.good_b64; omega) p2 ?_
  rw [p3, fl_signed, fl_pow]
  exact h
theorem fl_zmag {f : FP.Core.Fmt} {d : FP.Core.Datum} (h : 0 ≤ FP.Core.zval f d) : (FP.Core.zmag f d : Int) = FP.Core.zval f d := by
  unfold FP.Core.zval FP.Core.signed at *
  split at h <;> rename_i hs
  · rw [if_pos hs]; omega
  · rw [if_neg hs]
theorem fl_zle {f : FP.Core.Fmt} (d : FP.Core.Datum) : FP.Core.zval f d ≤ (FP.Core.zmag f d : Int) := by
  unfold FP.Core.zval FP.Core.signed
  split <;> omega
theorem fl_div {a b V : UInt64} (ha : FP.Core.DFin a) (hb : FP.Core.DFin b) (hV : dok V) (h0 : 0 ≤ zd a) (hb0 : 0 < zd b) (hV0 : 0 ≤ zd V) (h : zd a * (FP.Core.one64 : Int) ≤ zd V * zd b) : 0 ≤ zd (FP.ddiv a b) ∧ zd (FP.ddiv a b) ≤ zd V := by
  show 0 ≤ FP.Core.zval _ (FP.Core.val64 (FP.Core.ddiv a b)) ∧ FP.Core.zval _ (FP.Core.val64 (FP.Core.ddiv a b)) ≤ _
  have fa := FP.Core.val64_fits a
  have fb := FP.Core.val64_fits b
  have ea := fl_zmag h0
  have eb := fl_zmag (Int.le_of_lt hb0)
  have eV := fl_zmag hV0
  unfold zd at h h0 hb0
  rw [← ea, ← eb, ← eV] at h
  obtain ⟨s, c, q, ha⟩ := ha
  obtain ⟨t, d, r, hb⟩ := hb
  rw [FP.Core.val64_ddiv]
  rw [ha] at h h0 fa ⊢
  rw [hb] at h hb0 fb ⊢
  have ht : t = false := by
    cases t
    · rfl
    · exact absurd hb0 (by show ¬ 0 < -((FP.Core.inUnits d r _ : Nat) : Int); omega)
  subst ht
  have hd : d ≠ 0 := by
    rintro rfl
    exact absurd hb0 (by show ¬ 0 < ((0 * 2 ^ _ : Nat) : Int); rw [Nat.zero_mul]; decide)
  simp only [FP.Core.quotient, if_neg hd]
  have hx1 := fa.2.1
  have hy1 := fb.2.1
  have hq := FP.Core.qmin_neg FP.Core.good_b64
  have e1 : FP.Core.inUnits c (q - r) (2 * FP.Core.b64.qmin - r) = FP.Core.zmag FP.Core.b64 (.fin s c q) * 2 ^ (-FP.Core.b64.qmin).toNat := by
    show c * _ = c * _ * _
    rw [Nat.mul_assoc, ← Nat.pow_add]; congr 2; omega
  have e2 : 2 ^ (FP.Core.b64.qmin - (2 * FP.Core.b64.qmin - r)).toNat * d = FP.Core.zmag FP.Core.b64 (.fin false d r) := by
    show _ = d * _
    rw [Nat.mul_comm]; congr 2; omega
  constructor
  · have hs := FP.Core.sgn_roundRatio FP.Core.b64 (s != false) c d (q - r)
    unfold FP.Core.zval
    rw [hs]
    cases s
    · show 0 ≤ ((_ : Nat) : Int)
      omega
    · have hc : c = 0 := by
        have h1 : 0 ≤ -((c * 2 ^ (q - FP.Core.b64.qmin).toNat : Nat) : Int) := h0
        have h2 : c * 2 ^ (q - FP.Core.b64.qmin).toNat = 0 := by omega
        rcases Nat.mul_eq_zero.mp h2 with h3 | h3
        · exact h3
        · exact absurd h3 (Nat.ne_of_gt (Nat.two_pow_pos _))
      subst hc
      unfold FP.Core.roundRatio
      rw [if_pos rfl]
      show 0 ≤ -((0 * 2 ^ _ : Nat) : Int)
      rw [Nat.zero_mul]
      decide
  · refine Int.le_trans (fl_zle _) (Int.le_trans ?_ (Int.le_of_eq eV))
    refine Int.ofNat_le.mpr (FP.Core.zmag_roundRatio_le FP.Core.good_b64 (e0 := 2 * FP.Core.b64.qmin - r) (Nat.pos_of_ne_zero hd) (FP.Core.val64_fits V) hV (by omega) (by omega) ?_)
    rw [e1, Nat.mul_assoc, e2, FP.Core.pow_qmin64]
    exact Int.ofNat_le.mp (by rw [Int.natCast_mul, Int.natCast_mul]; exact h)

/-! eighths: an interval of a double -/
def fl_E : Int := ((2 ^ 1071 : Nat) : Int)
theorem fl_E_pos : 0 < fl_E := by unfold fl_E; exact Int.ofNat_lt.mpr (Nat.two_pow_pos _)
theorem fl_U : (FP.Core.one64 : Int) = 8 * fl_E := by
  unfold FP.Core.one64 fl_E
  rw [show (1074 : Nat) = 3 + 1071 from rfl, Nat.pow_add]
  exact Int.natCast_mul _ _
theorem fl_top : ((2 ^ 53 : Nat) : Int) * fl_E < ((FP.Core.b64.tails * 2 ^ (FP.Core.b64.exps - 2) : Nat) : Int) := by
  unfold fl_E
  rw [← Int.natCast_mul]
  exact Int.ofNat_lt.mpr (by decide +kernel)
theorem fl_fin {x : UInt64} (h : dok x) {B : Int} (h1 : -B ≤ zd x) (h2 : zd x ≤ B) (hB : B ≤ ((2 ^ 53 : Nat) : Int) * fl_E) : FP.Core.DFin x := by
  have ht := fl_top
  unfold zd at h1 h2
  unfold dok at h
  cases hx : FP.Core.val64 x with
  | nan => exact absurd hx h
  | fin s c q => exact ⟨s, c, q, hx⟩
  | inf s =>
    exfalso
    rw [hx] at h1 h2
    generalize ((2 ^ 53 : Nat) : Int) * fl_E = T at *
    cases s
    · have : FP.Core.zval FP.Core.b64 (.inf false) = ((FP.Core.b64.tails * 2 ^ (FP.Core.b64.exps - 2) : Nat) : Int) := rfl
      rw [this] at h1 h2
      generalize ((FP.Core.b64.tails * 2 ^ (FP.Core.b64.exps - 2) : Nat) : Int) = Z at *
      omega
    · have : FP.Core.zval FP.Core.b64 (.inf true) = -((FP.Core.b64.tails * 2 ^ (FP.Core.b64.exps - 2) : Nat) : Int) := rfl
      rw [this] at h1 h2
      generalize ((FP.Core.b64.tails * 2 ^ (FP.Core.b64.exps - 2) : Nat) : Int) = Z at *
      omega
def fl_ev (k : Int) : UInt64 := FP.Core.of64 (FP.Core.round FP.Core.b64 (.fin (decide (k < 0)) k.natAbs (-3)))
theorem fl_ev_spec {k : Int} (hk : k.natAbs < 2 ^ 53) : dok (fl_ev k) ∧ zd (fl_ev k) = k * fl_E := by
  obtain ⟨c', q', h1, h2⟩ := FP.Core.round_exact FP.Core.good_b64 (decide (k < 0)) (c := k.natAbs) (q := -3) hk (by decide +kernel) (by decide +kernel)
  have hv : FP.Core.val64 (fl_ev k) = .fin (decide (k < 0)) c' q' := by
    unfold fl_ev
    rw [FP.Core.val64_of64 (FP.Core.round_fits FP.Core.good_b64 _), h1]
  refine ⟨?_, ?_⟩
  · show FP.Core.val64 (fl_ev k) ≠ .nan
    rw [hv]
    exact FP.Core.Datum.noConfusion
  · show FP.Core.zval _ (FP.Core.val64 (fl_ev k)) = _
    rw [hv]
    show FP.Core.signed (decide (k < 0)) (FP.Core.inUnits c' q' FP.Core.b64.qmin) = _
    rw [h2]
    unfold FP.Core.inUnits
    rw [FP.Core.signed_mul]
    have e : FP.Core.signed (decide (k < 0)) k.natAbs = k := by
      unfold FP.Core.signed
      by_cases h : k < 0
      · rw [if_pos (by simpa using h)]; omega
      · rw [if_neg (by simpa using h)]; omega
    rw [e]
    rfl
def vr (a : UInt64) (l h : Int) : Prop := FP.Core.DFin a ∧ l * fl_E ≤ zd a ∧ zd a ≤ h * fl_E
theorem vr.ok {a : UInt64} {l h : Int} (v : vr a l h) : dok a := v.1.ne_nan
theorem vr.n {a : UInt64} {l h : Int} (v : vr a l h) : vf_n64 a := fl_vf v.ok
theorem fl_mono {x y : Int} (h : x ≤ y) : x * fl_E ≤ y * fl_E := Int.mul_le_mul_of_nonneg_right h (Int.le_of_lt fl_E_pos)
theorem vr.w {a : UInt64} {l h l' h' : Int} (v : vr a l h) (h1 : l' ≤ l) (h2 : h ≤ h') : vr a l' h' :=
  ⟨v.1, Int.le_trans (fl_mono h1) v.2.1, Int.le_trans v.2.2 (fl_mono h2)⟩
theorem fl_vr {x : UInt64} {l u : Int} (h : dok x) (h1 : l * fl_E ≤ zd x) (h2 : zd x ≤ u * fl_E) (kl : l.natAbs < 2 ^ 53) (ku : u.natAbs < 2 ^ 53) : vr x l u := by
  refine ⟨fl_fin h (B := ((2 ^ 53 : Nat) : Int) * fl_E) ?_ ?_ (Int.le_refl _), h1, h2⟩
  · refine Int.le_trans ?_ h1
    rw [← Int.neg_mul]
    exact fl_mono (by omega)
  · exact Int.le_trans h2 (fl_mono (by omega))
theorem vr.add {a b : UInt64} {l1 u1 l2 u2 : Int} (va : vr a l1 u1) (vb : vr b l2 u2) (l u : Int) (hl : l ≤ l1 + l2) (hu : u1 + u2 ≤ u) (kl : l.natAbs < 2 ^ 53) (ku : u.natAbs < 2 ^ 53) : vr (FP.dadd a b) l u := by
  obtain ⟨dl, el⟩ := fl_ev_spec kl
  obtain ⟨du, eu⟩ := fl_ev_spec ku
  have hn : dok (FP.dadd a b) := (FP.Core.notNaN_iff _).mp (FP.Core.dadd_out va.1.notNaN vb.1)
  have m1 := fl_mono hl
  have m2 := fl_mono hu
  rw [Int.add_mul] at m1 m2
  have a1 := va.2.1
  have a2 := va.2.2
  have b1 := vb.2.1
  have b2 := vb.2.2
  refine fl_vr hn ?_ ?_ kl ku
  · rw [← el]
    refine fl_add_ge va.1 vb.1 dl ?_
    rw [el]
    omega
  · rw [← eu]
    refine fl_add_le va.1 vb.1 du ?_
    rw [eu]
    omega
theorem vr.sub {a b : UInt64} {l1 u1 l2 u2 : Int} (va : vr a l1 u1) (vb : vr b l2 u2) (l u : Int) (hl : l ≤ l1 - u2) (hu : u1 - l2 ≤ u) (kl : l.natAbs < 2 ^ 53) (ku : u.natAbs < 2 ^ 53) : vr (FP.dsub a b) l u := by
  obtain ⟨dl, el⟩ := fl_ev_spec kl
  obtain ⟨du, eu⟩ := fl_ev_spec ku
  have hn : dok (FP.dsub a b) := (FP.Core.notNaN_iff _).mp (FP.Core.dsub_out va.1.notNaN vb.1)
  have m1 := fl_mono hl
  have m2 := fl_mono hu
  rw [Int.sub_mul] at m1 m2
  have a1 := va.2.1
  have a2 := va.2.2
  have b1 := vb.2.1
  have b2 := vb.2.2
  refine fl_vr hn ?_ ?_ kl ku
  · rw [← el]
    refine fl_sub_ge va.1 vb.1 dl ?_
    rw [el]
    omega
  · rw [← eu]
    refine fl_sub_le va.1 vb.1 du ?_
    rw [eu]
    omega
theorem fl_mm {x y a b : Int} (h0 : 0 ≤ x) (h1 : 0 ≤ y) (hx : x ≤ a) (hy : y ≤ b) : x * y ≤ a * b :=
  Int.le_trans (Int.mul_le_mul_of_nonneg_left hy h0) (Int.mul_le_mul_of_nonneg_right hx (Int.le_trans h1 hy))
theorem vr.mul {a b : UInt64} {l1 u1 l2 u2 : Int} (va : vr a l1 u1) (vb : vr b l2 u2) (l u : Int) (h1 : 0 ≤ l1) (h2 : 0 ≤ l2) (hl : 8 * l ≤ l1 * l2) (hu : u1 * u2 ≤ 8 * u) (kl : l.natAbs < 2 ^ 53) (ku : u.natAbs < 2 ^ 53) : vr (FP.dmul a b) l u := by
  obtain ⟨dl, el⟩ := fl_ev_spec kl
  obtain ⟨du, eu⟩ := fl_ev_spec ku
  have hE := Int.le_of_lt fl_E_pos
  have hn : dok (FP.dmul a b) := (FP.Core.notNaN_iff _).mp (FP.Core.dmul_out va.1 vb.1)
  have a0 : 0 ≤ l1 * fl_E := Int.mul_nonneg h1 hE
  have b0 : 0 ≤ l2 * fl_E := Int.mul_nonneg h2 hE
  have sq : ∀ x y : Int, x * fl_E * (y * fl_E) = x * y * (fl_E * fl_E) := fun x y => by rw [Int.mul_assoc, Int.mul_left_comm fl_E, ← Int.mul_assoc]
  have sU : ∀ x : Int, x * fl_E * (FP.Core.one64 : Int) = 8 * x * (fl_E * fl_E) := fun x => by rw [fl_U, sq, Int.mul_comm x 8]
  have hEE : 0 ≤ fl_E * fl_E := Int.mul_nonneg hE hE
  refine fl_vr hn ?_ ?_ kl ku
  · rw [← el]
    refine fl_mul_ge va.1 vb.1 dl ?_
    rw [el, sU]
    refine Int.le_trans (Int.mul_le_mul_of_nonneg_right hl hEE) ?_
    rw [← sq]
    exact fl_mm a0 b0 va.2.1 vb.2.1
  · rw [← eu]
    refine fl_mul_le va.1 vb.1 du ?_
    rw [eu, sU]
    refine Int.le_trans ?_ (Int.mul_le_mul_of_nonneg_right hu hEE)
    rw [← sq]
    exact fl_mm (Int.le_trans a0 va.2.1) (Int.le_trans b0 vb.2.1) va.2.2 vb.2.2

theorem vr.div {a b : UInt64} {l1 u1 l2 u2 : Int} (va : vr a l1 u1) (vb : vr b l2 u2) (u : Int) (h1 : 0 ≤ l1) (h2 : 0 < l2) (h0 : 0 ≤ u) (hu : 8 * u1 ≤ u * l2) (ku : u.natAbs < 2 ^ 53) : vr (FP.ddiv a b) 0 u := by
  obtain ⟨du, eu⟩ := fl_ev_spec ku
  have hE := Int.le_of_lt fl_E_pos
  have a0 : 0 ≤ l1 * fl_E := Int.mul_nonneg h1 hE
  have b0 : 0 < l2 * fl_E := Int.mul_pos h2 fl_E_pos
  have u0 : 0 ≤ u * fl_E := Int.mul_nonneg h0 hE
  have hb0 : 0 < zd b := Int.lt_of_lt_of_le b0 vb.2.1
  have hz : ¬ FP.Core.DZero b := fun h => by
    have := h.zval
    unfold zd at hb0
    omega
  have hn : dok (FP.ddiv a b) := (FP.Core.notNaN_iff _).mp (FP.Core.ddiv_out va.1.notNaN vb.1 hz)
  have sq : ∀ x y : Int, x * fl_E * (y * fl_E) = x * y * (fl_E * fl_E) := fun x y => by rw [Int.mul_assoc, Int.mul_left_comm fl_E, ← Int.mul_assoc]
  have hEE : 0 ≤ fl_E * fl_E := Int.mul_nonneg hE hE
  have hd := fl_div va.1 vb.1 du (Int.le_trans a0 va.2.1) hb0 (by rw [eu]; exact u0) (by
    rw [eu]
    refine Int.le_trans (Int.mul_le_mul_of_nonneg_right va.2.2 (by rw [fl_U]; omega)) ?_
    refine Int.le_trans ?_ (Int.mul_le_mul_of_nonneg_left vb.2.1 u0)
    rw [fl_U, sq, sq]
    refine Int.mul_le_mul_of_nonneg_right ?_ hEE
    omega)
  rw [eu] at hd
  exact fl_vr hn (by rw [Int.zero_mul]; exact hd.1) hd.2 (by decide) ku
/-- a quotient of a smaller one by a greater -/
theorem vr.div1 {a b : UInt64} {l1 u1 l2 u2 : Int} (va : vr a l1 u1) (vb : vr b l2 u2) (h1 : 0 ≤ l1) (h2 : 0 < l2) (hab : zd a ≤ zd b) : vr (FP.ddiv a b) 0 8 := by
  obtain ⟨du, eu⟩ := fl_ev_spec (k := 8) (by decide)
  have hE := Int.le_of_lt fl_E_pos
  have a0 : 0 ≤ l1 * fl_E := Int.mul_nonneg h1 hE
  have b0 : 0 < l2 * fl_E := Int.mul_pos h2 fl_E_pos
  have hb0 : 0 < zd b := Int.lt_of_lt_of_le b0 vb.2.1
  have hz : ¬ FP.Core.DZero b := fun h => by
    have := h.zval
    unfold zd at hb0
    omega
  have hn : dok (FP.ddiv a b) := (FP.Core.notNaN_iff _).mp (FP.Core.ddiv_out va.1.notNaN vb.1 hz)
  have hd := fl_div va.1 vb.1 du (Int.le_trans a0 va.2.1) hb0 (by rw [eu]; omega) (by
    rw [eu, fl_U, Int.mul_comm]
    exact Int.mul_le_mul_of_nonneg_left hab (by omega))
  rw [eu] at hd
  exact fl_vr hn (by rw [Int.zero_mul]; exact hd.1) hd.2 (by decide) (by decide)
theorem vr.c {a : UInt64} {l u : Int} (h : (FP.Core.val64 a ≠ .nan ∧ l * fl_E ≤ zd a ∧ zd a ≤ u * fl_E) ∧ l.natAbs < 2 ^ 53 ∧ u.natAbs < 2 ^ 53) : vr a l u := fl_vr h.1.1 h.1.2.1 h.1.2.2 h.2.1 h.2.2
theorem vr.i2d (v : Int32) (h : (8 * v.toInt).natAbs < 2 ^ 53) : vr (FP.i2d v) (8 * v.toInt) (8 * v.toInt) := by
  have h1 := FP.Core.i2d_int v
  have h2 := FP.Core.DInt_zval h1
  rw [fl_U] at h2
  have h3 : zd (FP.i2d v) = 8 * v.toInt * fl_E := by
    show FP.Core.zval FP.Core.b64 (FP.Core.val64 (FP.Core.i2d v)) = _
    rw [h2, Int.mul_comm 8 v.toInt, Int.mul_assoc]
  exact fl_vr (FP.Core.DInt_ne_nan h1) (Int.le_of_eq h3.symm) (Int.le_of_eq h3) h h
/-! floats -/
theorem fl_f2d {a : UInt32} (h : FP.Core.FFin a) : dok (FP.f2d a) ∧ zd (FP.f2d a) = zf a * ((2 ^ 925 : Nat) : Int) := by
  have e : FP.f2d a = FP.Core.f2d a := FP.f2d_core h.notNaN
  have ff := FP.Core.val32_fits a
  obtain ⟨s, c, q, h⟩ := h
  rw [h] at ff
  obtain ⟨f1, f2, f3, f4⟩ := ff
  have hq : (FP.Core.b32.qmin : Int) = -149 := FP.Core.qmin_b32
  have hq6 : (FP.Core.b64.qmin : Int) = -1074 := FP.Core.qmin_b64
  obtain ⟨c', q', h1, h2⟩ := FP.Core.round_exact FP.Core.good_b64 s (c := c) (q := q) (Nat.lt_of_lt_of_le f1 (by decide +kernel)) (by omega) (Int.le_trans f3 (by decide +kernel))
  have hv : FP.Core.val64 (FP.f2d a) = .fin s c' q' := by rw [e, FP.Core.val64_f2d, h, h1]
  refine ⟨?_, ?_⟩
  · show FP.Core.val64 (FP.f2d a) ≠ .nan
    rw [hv]
    exact FP.Core.Datum.noConfusion
  · show FP.Core.zval _ (FP.Core.val64 (FP.f2d a)) = FP.Core.zval _ (FP.Core.val32 a) * _
    rw [hv, h]
    show FP.Core.signed s (FP.Core.inUnits c' q' FP.Core.b64.qmin) = FP.Core.signed s (FP.Core.inUnits c q FP.Core.b32.qmin) * _
    have e3 : FP.Core.inUnits c q FP.Core.b64.qmin = FP.Core.inUnits c q FP.Core.b32.qmin * 2 ^ 925 := by
      unfold FP.Core.inUnits
      rw [show (q - FP.Core.b64.qmin).toNat = (q - FP.Core.b32.qmin).toNat + 925 by omega, Nat.pow_add, Nat.mul_assoc]
    rw [h2, e3, FP.Core.signed_mul]
/-- a float from 0 to k eighths, no NaN -/
def fr (a : UInt32) (k : Int) : Prop := fok a ∧ 0 ≤ zf a ∧ zf a ≤ k * ((2 ^ 146 : Nat) : Int)
theorem fr.fin {a : UInt32} {k : Int} (h : fr a k) (hk : k ≤ 1000) : FP.Core.FFin a := by
  obtain ⟨h0, h1, h2⟩ := h
  unfold zf at h1 h2
  unfold fok at h0
  cases hx : FP.Core.val32 a with
  | nan => exact absurd hx h0
  | fin s c q => exact ⟨s, c, q, hx⟩
  | inf s =>
    exfalso
    rw [hx] at h1 h2
    have ht : (1000 : Int) * ((2 ^ 146 : Nat) : Int) < ((FP.Core.b32.tails * 2 ^ (FP.Core.b32.exps - 2) : Nat) : Int) := by decide +kernel
    have hk2 : k * ((2 ^ 146 : Nat) : Int) ≤ 1000 * ((2 ^ 146 : Nat) : Int) := Int.mul_le_mul_of_nonneg_right hk (by decide +kernel)
    have hz : (0 : Int) < ((FP.Core.b32.tails * 2 ^ (FP.Core.b32.exps - 2) : Nat) : Int) := by decide +kernel
    cases s
    · have : FP.Core.zval FP.Core.b32 (.inf false) = ((FP.Core.b32.tails * 2 ^ (FP.Core.b32.exps - 2) : Nat) : Int) := rfl
      rw [this] at h1 h2
      generalize ((FP.Core.b32.tails * 2 ^ (FP.Core.b32.exps - 2) : Nat) : Int) = Z at *
      generalize ((2 ^ 146 : Nat) : Int) = Y at *
      omega
    · have : FP.Core.zval FP.Core.b32 (.inf true) = -((FP.Core.b32.tails * 2 ^ (FP.Core.b32.exps - 2) : Nat) : Int) := rfl
      rw [this] at h1 h2
      generalize ((FP.Core.b32.tails * 2 ^ (FP.Core.b32.exps - 2) : Nat) : Int) = Z at *
      omega
theorem fr.f2d {a : UInt32} {k : Int} (h : fr a k) (hk : k ≤ 1000) (hk0 : 0 ≤ k) : vr (FP.f2d a) 0 k := by
  obtain ⟨e1, e2⟩ := fl_f2d (h.fin hk)
  have eE : fl_E = ((2 ^ 146 : Nat) : Int) * ((2 ^ 925 : Nat) : Int) := by
    unfold fl_E
    rw [← Int.natCast_mul, ← Nat.pow_add]
  have hp : (0 : Int) ≤ ((2 ^ 925 : Nat) : Int) := Int.natCast_nonneg _
  refine fl_vr e1 ?_ ?_ (by decide) (by omega)
  · rw [Int.zero_mul, e2]
    exact Int.mul_nonneg h.2.1 hp
  · rw [e2, eE, ← Int.mul_assoc]
    exact Int.mul_le_mul_of_nonneg_right h.2.2 hp
/-! data that are not below 0 -/
def nn : FP.Core.Datum → Prop
  | .nan => False
  | .inf s => s = false
  | .fin s c _ => s = false ∨ c = 0
theorem nn_iff {f : FP.Core.Fmt} {d : FP.Core.Datum} : nn d ↔ d ≠ .nan ∧ 0 ≤ FP.Core.zval f d := by
  cases d with
  | nan => exact ⟨fun h => h.elim, fun h => absurd rfl h.1⟩
  | inf s =>
    refine ⟨fun h => ⟨FP.Core.Datum.noConfusion, ?_⟩, fun h => ?_⟩
    · have h : s = false := h
      subst h
      exact Int.natCast_nonneg _
    · cases s
      · rfl
      · have h2 : 0 ≤ -((f.tails * 2 ^ (f.exps - 2) : Nat) : Int) := h.2
        have h3 : 0 < f.tails * 2 ^ (f.exps - 2) := Nat.mul_pos (FP.Core.tails_pos f) (Nat.two_pow_pos _)
        omega
  | fin s c q =>
    refine ⟨fun h => ⟨FP.Core.Datum.noConfusion, ?_⟩, fun h => ?_⟩
    · rcases h with h | h
      · subst h
        exact Int.natCast_nonneg _
      · subst h
        have e : FP.Core.zval f (.fin s 0 q) = FP.Core.signed s (0 * 2 ^ (q - f.qmin).toNat) := rfl
        rw [e, Nat.zero_mul, FP.Core.signed_zero]
        decide
    · cases s
      · exact Or.inl rfl
      · have h2 : 0 ≤ -((c * 2 ^ (q - f.qmin).toNat : Nat) : Int) := h.2
        have h3 : c * 2 ^ (q - f.qmin).toNat = 0 := by omega
        rcases Nat.mul_eq_zero.mp h3 with h4 | h4
        · exact Or.inr h4
        · exact absurd h4 (Nat.ne_of_gt (Nat.two_pow_pos _))
theorem nn_ratio {f : FP.Core.Fmt} {s : Bool} {c d : Nat} {e : Int} (h : s = false ∨ c = 0) : nn (FP.Core.roundRatio f s c d e) := by
  rcases h with h | h
  · subst h
    rcases FP.Core.roundRatio_cases f false c d e with ⟨c', q', h⟩ | h
    · rw [h]; exact Or.inl rfl
    · rw [h]; exact rfl
  · subst h
    unfold FP.Core.roundRatio
    rw [if_pos rfl]
    exact Or.inr rfl
theorem nn_round {f : FP.Core.Fmt} {d : FP.Core.Datum} (h : nn d) : nn (FP.Core.round f d) := by
  cases d with
  | nan => exact h.elim
  | inf s => exact h
  | fin s c q => exact nn_ratio h
theorem nn_prod {x : FP.Core.Datum} {d : Nat} {r : Int} (h : nn x) (hd : d ≠ 0) : nn (FP.Core.exactProduct x (.fin false d r)) := by
  cases x with
  | nan => exact h.elim
  | inf s =>
    have h : s = false := h
    subst h
    simp only [FP.Core.exactProduct, if_neg hd]
    rfl
  | fin s c q =>
    show (s != false) = false ∨ c * d = 0
    rcases h with h | h
    · subst h; exact Or.inl rfl
    · subst h; exact Or.inr (Nat.zero_mul _)
theorem nn_quot {f : FP.Core.Fmt} {x : FP.Core.Datum} {d : Nat} {r : Int} (h : nn x) (hd : d ≠ 0) : nn (FP.Core.quotient f x (.fin false d r)) := by
  cases x with
  | nan => exact h.elim
  | inf s =>
    have h : s = false := h
    subst h
    rfl
  | fin s c q =>
    simp only [FP.Core.quotient, if_neg hd]
    refine nn_ratio ?_
    rcases h with h | h
    · subst h; exact Or.inl rfl
    · exact Or.inr h
theorem nf_d2f {a : UInt64} (h : dok a) (h0 : 0 ≤ zd a) : nn (FP.Core.val32 (FP.d2f a)) := by
  rw [show FP.d2f a = FP.Core.d2f a from FP.d2f_core ((FP.Core.notNaN_iff a).mpr h), FP.Core.val32_d2f]
  exact nn_round (nn_iff.mpr ⟨h, h0⟩)
theorem nf_mul {a b : UInt32} {d : Nat} {r : Int} (h : nn (FP.Core.val32 a)) (hb : FP.Core.val32 b = .fin false d r) (hd : d ≠ 0) : nn (FP.Core.val32 (FP.fmul a b)) := by
  show nn (FP.Core.val32 (FP.Core.fmul a b))
  rw [FP.Core.val32_fmul, hb]
  exact nn_round (nn_prod h hd)
theorem nf_div {a b : UInt32} {d : Nat} {r : Int} (h : nn (FP.Core.val32 a)) (hb : FP.Core.val32 b = .fin false d r) (hd : d ≠ 0) : nn (FP.Core.val32 (FP.fdiv a b)) := by
  show nn (FP.Core.val32 (FP.Core.fdiv a b))
  rw [FP.Core.val32_fdiv, hb]
  exact nn_quot h hd
theorem nf_ok {a : UInt32} (h : nn (FP.Core.val32 a)) : fok a := (nn_iff (f := FP.Core.b32).mp h).1
theorem nf_add {a b : UInt32} (ha : FP.Core.FFin a) (h0 : 0 ≤ zf a) (h : nn (FP.Core.val32 b)) : fok (FP.fadd a b) ∧ 0 ≤ zf (FP.fadd a b) := by
  have hb := nf_ok h
  have hn : fok (FP.fadd a b) := (FP.Core.notNaN_iff32 _).mp (FP.Core.fadd_out' ha ((FP.Core.notNaN_iff32 _).mpr hb))
  refine ⟨hn, ?_⟩
  cases hx : FP.Core.val32 b with
  | nan => exact absurd hx hb
  | inf s =>
    rw [hx] at h
    have h : s = false := h
    subst h
    show 0 ≤ FP.Core.zval _ (FP.Core.val32 (FP.Core.fadd a b))
    obtain ⟨t, c, q, ha⟩ := ha
    rw [FP.Core.val32_fadd, hx, ha]
    exact Int.natCast_nonneg _
  | fin s c q =>
    have := ff_add_ge (V := 0) ha ⟨s, c, q, hx⟩ (by show FP.Core.val32 0 ≠ _; rw [FP.Core.val32_zero]; exact FP.Core.Datum.noConfusion) (by
      rw [show zf 0 = 0 from FP.Core.zval32_zero]
      have := (nn_iff (f := FP.Core.b32).mp h).2
      show 0 ≤ zf a + zf b
      have h9 : 0 ≤ zf b := this
      omega)
    rwa [show zf 0 = 0 from FP.Core.zval32_zero] at this

/-! sums that are zero: their sign -/
theorem fl_sgn_round {f : FP.Core.Fmt} (s : Bool) (c : Nat) (q : Int) : FP.Core.sgn (FP.Core.round f (.fin s c q)) = s := FP.Core.sgn_roundRatio f s c 1 q
theorem fl_m1 : dok 9223372036854775809 ∧ zd 9223372036854775809 = -1 := by
  refine ⟨?_, ?_⟩
  · show FP.Core.val64 9223372036854775809 ≠ .nan
    decide +kernel
  · show FP.Core.zval FP.Core.b64 (FP.Core.val64 9223372036854775809) = -1
    decide +kernel
theorem ff_m1 : fok 2147483649 ∧ zf 2147483649 = -1 := by
  refine ⟨?_, ?_⟩
  · show FP.Core.val32 2147483649 ≠ .nan
    decide +kernel
  · show FP.Core.zval FP.Core.b32 (FP.Core.val32 2147483649) = -1
    decide +kernel
/-- what is left of a number that is no -0 is no -0 -/
theorem fl_sub_sgn {a b : UInt64} (ha : FP.Core.DFin a) (hb : FP.Core.DFin b) (hs : FP.Core.sgn (FP.Core.val64 a) = false) (h0 : 0 ≤ zd (FP.dsub a b)) : FP.Core.sgn (FP.Core.val64 (FP.dsub a b)) = false := by
  by_cases hlt : zd a - zd b < 0
  · have := fl_sub_le ha hb fl_m1.1 (by rw [fl_m1.2]; omega)
    rw [fl_m1.2] at this
    omega
  · have fa := FP.Core.val64_fits a
    have fb := FP.Core.negate_fits (FP.Core.val64_fits b)
    have hz : 0 ≤ zd a + FP.Core.zval FP.Core.b64 (FP.Core.negate (FP.Core.val64 b)) := by
      rw [FP.Core.zval_negate]
      show 0 ≤ zd a + -zd b
      omega
    obtain ⟨s, c, q, ha⟩ := ha
    obtain ⟨t, d, r, hb⟩ := fl_negfin hb
    show FP.Core.sgn (FP.Core.val64 (FP.Core.dsub a b)) = false
    unfold zd at hz
    rw [FP.Core.val64_dsub]
    rw [ha] at fa hs hz ⊢
    rw [hb] at fb hz ⊢
    have hs : s = false := hs
    subst hs
    obtain ⟨sg, n, e, h1, h2, h3⟩ := FP.Core.sum_units fa fb
    have h4 := h1
    rw [h1, fl_sgn_round]
    unfold FP.Core.exactSum at h4
    injection h4 with g1 g2 g3
    rw [← g1]
    unfold FP.Core.sumSign
    split
    · rfl
    · rw [← h3] at hz
      cases sg
      · unfold FP.Core.sumSign at g1
        rename_i hne
        rw [if_neg hne] at g1
        exact g1
      · exfalso
        have hz : 0 ≤ -((n * 2 ^ (e - FP.Core.b64.qmin).toNat : Nat) : Int) := hz
        have hn : n * 2 ^ (e - FP.Core.b64.qmin).toNat = 0 := by omega
        rcases Nat.mul_eq_zero.mp hn with h5 | h5
        · rename_i hne
          rw [h5] at g2
          omega
        · exact absurd h5 (Nat.ne_of_gt (Nat.two_pow_pos _))
/-- a difference that is 0 or more is no -0, where what is taken away is above 0 -/
theorem ff_sub_sgn {a b : UInt32} (ha : FP.Core.FFin a) (hb : FP.Core.FFin b) (hb0 : 0 < zf b) (h0 : 0 ≤ zf (FP.fsub a b)) : FP.Core.sgn (FP.Core.val32 (FP.fsub a b)) = false := by
  by_cases hlt : zf a - zf b < 0
  · have := ff_sub_le ha hb ff_m1.1 (by rw [ff_m1.2]; omega)
    rw [ff_m1.2] at this
    omega
  · have fa := FP.Core.val32_fits a
    have fb := FP.Core.negate_fits (FP.Core.val32_fits b)
    have ha0 : 0 < zf a := by omega
    have hz : 0 ≤ zf a + FP.Core.zval FP.Core.b32 (FP.Core.negate (FP.Core.val32 b)) := by
      rw [FP.Core.zval_negate]
      show 0 ≤ zf a + -zf b
      omega
    obtain ⟨s, c, q, ha⟩ := ha
    obtain ⟨t, d, r, hb⟩ := ff_negfin hb
    show FP.Core.sgn (FP.Core.val32 (FP.Core.fsub a b)) = false
    unfold zf at hz ha0
    rw [FP.Core.val32_fsub]
    rw [ha] at fa hz ha0 ⊢
    rw [hb] at fb hz ⊢
    have hs : s = false := by
      cases s
      · rfl
      · exact absurd ha0 (by show ¬ 0 < -((_ : Nat) : Int); omega)
    subst hs
    obtain ⟨sg, n, e, h1, h2, h3⟩ := FP.Core.sum_units fa fb
    have h4 := h1
    rw [h1, fl_sgn_round]
    unfold FP.Core.exactSum at h4
    injection h4 with g1 g2 g3
    rw [← g1]
    unfold FP.Core.sumSign
    split
    · rfl
    · rw [← h3] at hz
      cases sg
      · unfold FP.Core.sumSign at g1
        rename_i hne
        rw [if_neg hne] at g1
        exact g1
      · exfalso
        have hz : 0 ≤ -((n * 2 ^ (e - FP.Core.b32.qmin).toNat : Nat) : Int) := hz
        have hn : n * 2 ^ (e - FP.Core.b32.qmin).toNat = 0 := by omega
        rcases Nat.mul_eq_zero.mp hn with h5 | h5
        · rename_i hne
          rw [h5] at g2
          omega
        · exact absurd h5 (Nat.ne_of_gt (Nat.two_pow_pos _))
/-- no NaN, of sign +, and 0: its bits are 0 -/
theorem fl_zero {a : UInt64} (h : dok a) (hs : FP.Core.sgn (FP.Core.val64 a) = false) (h0 : zd a = 0) : a = 0 := by
  have h1 := (FP.Core.zval_eq_zero h).mp h0
  rw [FP.Core.sgn_bits h] at hs
  have h2 : ¬ 2 ^ 63 ≤ a.toNat := by simpa using hs
  apply UInt64.toNat.inj
  show a.toNat = 0
  omega
theorem ff_zero {a : UInt32} (h : fok a) (hs : FP.Core.sgn (FP.Core.val32 a) = false) (h0 : zf a = 0) : a = 0 := by
  have h1 := (FP.Core.zval_eq_zero32 h).mp h0
  rw [FP.Core.sgn_bits32 h] at hs
  have h2 : ¬ 2 ^ 31 ≤ a.toNat := by simpa using hs
  apply UInt32.toNat.inj
  show a.toNat = 0
  omega
/-- a number no NaN less 0.0 is itself -/
theorem fl_sub0 {a : UInt64} (h : dok a) : FP.dsub a FP.dconst0 = a := by
  show FP.Core.dsub a FP.Core.dconst0 = a
  rw [FP.Core.dsub_eq, show FP.Core.dneg FP.Core.dconst0 = FP.Core.dzeroNeg by decide +kernel]
  exact FP.Core.dadd_zeroNeg h
/-- equal numbers, not 0, have one pattern of bits -/
theorem fl_bits {a b : UInt64} (ha : dok a) (hb : dok b) (h : zd a = zd b) (h0 : zd b ≠ 0) : a = b :=
  FP.Core.eq_bits (FP.Core.dnot_zero hb h0) (FP.Core.dcmp_eq.mpr ⟨ha, hb, h⟩)
theorem fl_bits0 {a b : UInt64} (ha : dok a) (hb : dok b) (sa : FP.Core.sgn (FP.Core.val64 a) = false) (sb : FP.Core.sgn (FP.Core.val64 b) = false) (h : zd a = zd b) : a = b := by
  by_cases h0 : zd b = 0
  · rw [fl_zero ha sa (h.trans h0), fl_zero hb sb h0]
  · exact fl_bits ha hb h h0
