/-! the sea: one height on both sides, and where it lies -/
theorem sa_age {m t : Nat} (hm : m < 30) (ht : t < 7000) : f_X4_ageOn (nI m) (nI t) = nI ((m + t / 48) % 30) := by
  show (nI m + nI t / nI 48) - (nI m + nI t / nI 48) / nI 30 * nI 30 = _
  rw [pk_div (by omega) (by decide) (by decide), nI_add, pk_rem (by omega) (by decide) (by decide)]
def sa_sp (a : Int32) : Int32 := if (if 0 ≤ (a - 15) then (a - 15) else 0 - (a - 15)) < (if (30 - a) < a then (30 - a) else a) then (if 0 ≤ (a - 15) then (a - 15) else 0 - (a - 15)) else (if (30 - a) < a then (30 - a) else a)
theorem sa_spring (mo tk : Int32) : f_X4_springOf (f_X4_ageOn mo tk) = sa_sp (f_X4_ageOn mo tk) := rfl
theorem sa_sp8 : ∀ j, j < 30 → ∃ k, k < 8 ∧ sa_sp (nI j) = nI k := by decide +kernel
theorem sa_rng : ∀ k, k < 8 → (FP.Core.val64 (FP.dmul 4598175219545276416 (FP.i2d (nI k))) ≠ .nan ∧ FP.Core.val64 (FP.dsub 4616189618054758400 (FP.dmul 4598175219545276416 (FP.i2d (nI k)))) ≠ .nan ∧ 18 * fl_E ≤ FP.Core.zval FP.Core.b64 (FP.Core.val64 (FP.dsub 4616189618054758400 (FP.dmul 4598175219545276416 (FP.i2d (nI k))))) ∧ FP.Core.zval FP.Core.b64 (FP.Core.val64 (FP.dsub 4616189618054758400 (FP.dmul 4598175219545276416 (FP.i2d (nI k))))) ≤ 32 * fl_E) := by decide +kernel
theorem sa_range {m t : Nat} (hm : m < 30) (ht : t < 7000) : vr (f_X4_rangeOn (nI m) (nI t)) 18 32 ∧ n_X4_rangeOn (nI m) (nI t) := by
  obtain ⟨k, hk, e⟩ := sa_sp8 ((m + t / 48) % 30) (Nat.mod_lt _ (by decide))
  obtain ⟨h1, h2, h3, h4⟩ := sa_rng k hk
  have es : f_X4_springOf (f_X4_ageOn (nI m) (nI t)) = nI k := by rw [sa_spring, sa_age hm ht, e]
  unfold f_X4_rangeOn n_X4_rangeOn
  rw [es]
  exact ⟨fl_vr h2 h3 h4 (by decide) (by decide), fl_vf h1, fl_vf h2⟩
def sa_ph (r : Nat) : UInt64 := FP.ddiv (FP.i2d (nI r)) 4616189618054758400
theorem sa_phaseN {t : Nat} (ht : t < 7000) : f_X4_phaseOn (nI t) = sa_ph (t * 4 % 99) := by
  unfold f_X4_phaseOn sa_ph
  congr 2
  show nI t * nI 4 - nI t * nI 4 / nI 99 * nI 99 = _
  rw [pk_mul, pk_rem (by omega) (by decide) (by decide)]
theorem sa_phV : ∀ r, r < 99 → (FP.Core.val64 (sa_ph r) ≠ .nan ∧ FP.Core.sgn (FP.Core.val64 (sa_ph r)) = false ∧ FP.Core.zval FP.Core.b64 (FP.Core.val64 (sa_ph r)) = ((2 * r * 2 ^ 1071 : Nat) : Int)) := by decide +kernel
theorem sa_tide : FP.Core.val64 4627659723355717632 ≠ .nan ∧ FP.Core.zmag FP.Core.b64 (FP.Core.val64 4627659723355717632) = 198 * 2 ^ 1071 := by decide +kernel
theorem sa_i2d {t : Nat} (ht : t < 2 ^ 31) : FP.Core.DFin (FP.i2d (nI t)) ∧ FP.Core.sgn (FP.Core.val64 (FP.i2d (nI t))) = false ∧ FP.Core.zmag FP.Core.b64 (FP.Core.val64 (FP.i2d (nI t))) = t * 8 * 2 ^ 1071 := by
  have hs : FP.Core.sgn (FP.Core.val64 (FP.i2d (nI t))) = false := by
    obtain ⟨c, q, h⟩ := FP.Core.l2d_shape (nI t).toInt64
    show FP.Core.sgn (FP.Core.val64 (FP.Core.i2d (nI t))) = false
    rw [FP.Core.i2d_l2d, h]
    show decide _ = false
    rw [nI_l ht, pk_lT (by omega)]
    simp
  refine ⟨FP.Core.i2d_fin _, hs, ?_⟩
  have h2 := FP.Core.DInt_zval (FP.Core.i2d_int (nI t))
  rw [nI_toInt ht, fl_U] at h2
  have h3 := fl_zmag (f := FP.Core.b64) (d := FP.Core.val64 (FP.Core.i2d (nI t))) (by rw [h2]; exact Int.mul_nonneg (Int.natCast_nonneg _) (Int.mul_nonneg (by decide) (Int.le_of_lt fl_E_pos)))
  have h4 : (FP.Core.zmag FP.Core.b64 (FP.Core.val64 (FP.Core.i2d (nI t))) : Int) = ((t * 8 * 2 ^ 1071 : Nat) : Int) := by
    rw [h3, h2]
    unfold fl_E
    rw [Int.natCast_mul, Int.natCast_mul, Int.mul_assoc]
    rfl
  exact Int.ofNat.inj h4
theorem sa_ris : ∀ r, r < 99 → ((0 ≤ (Op.cmpValue (FP.dcmp (sa_ph r) 4622945017495814144) .g)) → FP.Core.val64 (FP.dsub 4627659723355717632 (sa_ph r)) ≠ .nan ∧ FP.Core.val64 (FP.ddiv (FP.dsub 4627659723355717632 (sa_ph r)) 4623367229960880128) ≠ .nan ∧ 0 * fl_E ≤ FP.Core.zval FP.Core.b64 (FP.Core.val64 (FP.ddiv (FP.dsub 4627659723355717632 (sa_ph r)) 4623367229960880128)) ∧ FP.Core.zval FP.Core.b64 (FP.Core.val64 (FP.ddiv (FP.dsub 4627659723355717632 (sa_ph r)) 4623367229960880128)) ≤ 8 * fl_E) ∧ ((¬ 0 ≤ (Op.cmpValue (FP.dcmp (sa_ph r) 4622945017495814144) .g)) → FP.Core.val64 (FP.ddiv (sa_ph r) 4622945017495814144) ≠ .nan ∧ 0 * fl_E ≤ FP.Core.zval FP.Core.b64 (FP.Core.val64 (FP.ddiv (sa_ph r) 4622945017495814144)) ∧ FP.Core.zval FP.Core.b64 (FP.Core.val64 (FP.ddiv (sa_ph r) 4622945017495814144)) ≤ 8 * fl_E) := by decide +kernel
theorem vc_half : vr 4602678819172646912 4 4 := vr.c (by decide +kernel)
theorem sa_sea {m t : Nat} {su : UInt64} (hm : m < 30) (ht : t < 7000) (hs : vr su (-16) 16) : vr (f_X4_heightOn (nI m) su (nI t)) (-32) 40 ∧ n_X4_heightOn (nI m) su (nI t) := by
  obtain ⟨g1, g2⟩ := sa_range hm ht
  have hr := sa_ris (t * 4 % 99) (Nat.mod_lt _ (by decide))
  obtain ⟨p1, p2, p3⟩ := sa_phV (t * 4 % 99) (Nat.mod_lt _ (by decide))
  rw [← sa_phaseN ht] at hr p1
  have hh := g1.mul vc_half 9 16 (by decide) (by decide) (by decide) (by decide) (by decide) (by decide)
  have K : ∀ x : UInt64, vr x 0 8 → vr (FP.dmul (f_X4_rangeOn (nI m) (nI t)) x) 0 32 ∧ vr (FP.dadd su (FP.dmul (f_X4_rangeOn (nI m) (nI t)) x)) (-16) 48 ∧ vr (FP.dsub (FP.dadd su (FP.dmul (f_X4_rangeOn (nI m) (nI t)) x)) (FP.dmul (f_X4_rangeOn (nI m) (nI t)) 4602678819172646912)) (-32) 40 := fun x hx => by
    have a1 := g1.mul hx 0 32 (by decide) (by decide) (by decide) (by decide) (by decide) (by decide)
    have a2 := hs.add a1 (-16) 48 (by decide) (by decide) (by decide) (by decide)
    exact ⟨a1, a2, a2.sub hh (-32) 40 (by decide) (by decide) (by decide) (by decide)⟩
  have A := fun h => K _ (fl_vr (hr.1 h).2.1 (hr.1 h).2.2.1 (hr.1 h).2.2.2 (by decide) (by decide))
  have B := fun h => K _ (fl_vr (hr.2 h).1 (hr.2 h).2.1 (hr.2 h).2.2 (by decide) (by decide))
  refine ⟨?_, ?_⟩
  · unfold f_X4_heightOn
    split
    · rename_i h; exact (A h).2.2
    · rename_i h; exact (B h).2.2
  · unfold n_X4_heightOn n_X4_phaseOn
    exact ⟨g2, fl_vf p1, fun h => fl_vf (hr.1 h).1, fun h => fl_vf (hr.1 h).2.1, fun h => (A h).1.n, fun h => (A h).2.1.n, fun _ => hh.n, fun h => (A h).2.2.n, fun h => fl_vf (hr.2 h).1, fun h => (B h).1.n, fun h => (B h).2.1.n, fun _ => hh.n, fun h => (B h).2.2.n⟩
