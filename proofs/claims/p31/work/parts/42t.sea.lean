/-! the sea as the law reckons it -/
theorem ta_ageE (mo t : Int32) : f_X6_age mo t = f_X4_ageOn mo t := by
  unfold f_X6_age f_X4_ageOn
  rw [Int32.add_comm (t / 48) mo]
def ts_sp (a : Int32) : Int32 := if a ≤ 15 then (if 8 ≤ (15 - a) then (if 15 ≤ a then (30 - a) else a) else (15 - a)) else (if 8 ≤ (a - 15) then (if 15 ≤ a then (30 - a) else a) else (a - 15))
theorem ts_sp8 : ∀ j, j < 30 → ts_sp (nI j) = sa_sp (nI j) := by decide +kernel
theorem ta_spring {m t : Nat} (hm : m < 30) (ht : t < 7000) : f_X6_spring (nI m) (nI t) = f_X4_springOf (f_X4_ageOn (nI m) (nI t)) := by
  show ts_sp (f_X6_age (nI m) (nI t)) = sa_sp (f_X4_ageOn (nI m) (nI t))
  rw [ta_ageE, sa_age hm ht]
  exact ts_sp8 _ (Nat.mod_lt _ (by decide))
theorem vc_tide : vr 4627659723355717632 198 198 := vr.c (by decide +kernel)
theorem vc_tide_s : FP.Core.sgn (FP.Core.val64 4627659723355717632) = false := by decide +kernel
theorem ts_loop : ∀ (fuel k : Nat) (x : UInt64), vr x (2 * k) (2 * k) → FP.Core.sgn (FP.Core.val64 x) = false → k < 99 * fuel → k < 100000 → f_X6_sea_19 fuel x = sa_ph (k % 99) ∧ n_X6_sea_19 fuel x := by
  intro fuel
  induction fuel with
  | zero => intro k x hx hs hk; omega
  | succ fuel ih =>
    intro k x hx hs hk hk2
    have ez : zd x = 2 * k * fl_E := hx.eqz
    have et : zd 4627659723355717632 = 198 * fl_E := vc_tide.eqz
    by_cases c : (Op.cmpValue (FP.dcmp x 4627659723355717632) .l) < 0
    · have c1 := (fl_lt0 hx.ok vc_tide.ok _).mp c
      have c2 : k < 99 := by
        rw [ez, et] at c1
        have := Int.lt_of_mul_lt_mul_right c1 (Int.le_of_lt fl_E_pos)
        omega
      refine ⟨?_, ?_⟩
      · rw [f_X6_sea_19.eq_2, if_pos c, Nat.mod_eq_of_lt c2]
        obtain ⟨p1, p2, p3⟩ := sa_phV k c2
        refine fl_bits0 hx.ok p1 hs p2 ?_
        rw [ez]
        show _ = FP.Core.zval FP.Core.b64 (FP.Core.val64 (sa_ph k))
        rw [p3]
        unfold fl_E
        rw [Int.natCast_mul, Int.natCast_mul]
        rfl
      · rw [n_X6_sea_19.eq_2]
        exact ⟨fun h => absurd c h, fun h => absurd c h⟩
    · have c2 : 99 ≤ k := by
        rcases Nat.lt_or_ge k 99 with h | h
        · refine absurd ((fl_lt0 hx.ok vc_tide.ok _).mpr ?_) c
          rw [ez, et]
          exact Int.mul_lt_mul_of_pos_right (by omega) fl_E_pos
        · exact h
      have hy : vr (FP.dsub x 4627659723355717632) (2 * (k - 99 : Nat)) (2 * (k - 99 : Nat)) := hx.sub vc_tide _ _ (by omega) (by omega) (by omega) (by omega)
      have hz := fl_sub_sgn hx.1 vc_tide.1 hs (by rw [hy.eqz]; exact Int.mul_nonneg (by omega) (Int.le_of_lt fl_E_pos))
      obtain ⟨i1, i2⟩ := ih (k - 99) _ hy hz (by omega) (by omega)
      refine ⟨?_, ?_⟩
      · rw [f_X6_sea_19.eq_2, if_neg c, i1, show (k - 99) % 99 = k % 99 by omega]
      · rw [n_X6_sea_19.eq_2]
        exact ⟨fun _ => hy.n, fun _ => i2⟩
theorem ts_ph {t : Nat} (ht : t < 7000) : f_X6_sea_19 400 (FP.i2d (nI t)) = f_X4_phaseOn (nI t) ∧ n_X6_sea_19 400 (FP.i2d (nI t)) := by
  have hi := vr.i2d (nI t) (by rw [nI_toInt (by omega)]; omega)
  rw [nI_toInt (by omega)] at hi
  obtain ⟨a, b⟩ := ts_loop 400 (t * 4) (FP.i2d (nI t)) (by
    have e : (8 * (t : Int)) = 2 * ((t * 4 : Nat) : Int) := by omega
    rw [e] at hi
    exact hi) (sa_i2d (by omega)).2.1 (by omega) (by omega)
  exact ⟨by rw [a, sa_phaseN ht], b⟩
theorem ts_ris : ∀ r, r < 99 → FP.Core.val64 (FP.dsub 4627659723355717632 (sa_ph r)) ≠ .nan ∧ FP.Core.val64 (FP.ddiv (FP.dsub 4627659723355717632 (sa_ph r)) 4623367229960880128) ≠ .nan := by decide +kernel
theorem ta_sea {m t : Nat} {su : UInt64} (hm : m < 30) (ht : t < 7000) (hs : vr su (-16) 16) : f_X6_sea (nI m) su (nI t) = f_X4_heightOn (nI m) su (nI t) ∧ n_X6_sea (nI m) su (nI t) := by
  obtain ⟨l1, l2⟩ := ts_ph ht
  have e := ta_spring hm ht
  refine ⟨?_, ?_⟩
  · unfold f_X6_sea f_X4_heightOn f_X4_rangeOn
    rw [l1, e]
  · obtain ⟨g1, g2⟩ := sa_range hm ht
    have hr := sa_ris (t * 4 % 99) (Nat.mod_lt _ (by decide))
    have hq := ts_ris (t * 4 % 99) (Nat.mod_lt _ (by decide))
    rw [← sa_phaseN ht] at hr hq
    have hh := g1.mul vc_half 9 16 (by decide) (by decide) (by decide) (by decide) (by decide) (by decide)
    have K : ∀ x : UInt64, vr x 0 8 → vr (FP.dmul (f_X4_rangeOn (nI m) (nI t)) x) 0 32 ∧ vr (FP.dadd su (FP.dmul (f_X4_rangeOn (nI m) (nI t)) x)) (-16) 48 ∧ vr (FP.dsub (FP.dadd su (FP.dmul (f_X4_rangeOn (nI m) (nI t)) x)) (FP.dmul (f_X4_rangeOn (nI m) (nI t)) 4602678819172646912)) (-32) 40 := fun x hx => by
      have a1 := g1.mul hx 0 32 (by decide) (by decide) (by decide) (by decide) (by decide) (by decide)
      have a2 := hs.add a1 (-16) 48 (by decide) (by decide) (by decide) (by decide)
      exact ⟨a1, a2, a2.sub hh (-32) 40 (by decide) (by decide) (by decide) (by decide)⟩
    have A := fun h => K _ (fl_vr (hr.1 h).2.1 (hr.1 h).2.2.1 (hr.1 h).2.2.2 (by decide) (by decide))
    have B := fun h => K _ (fl_vr (hr.2 h).1 (hr.2 h).2.1 (hr.2 h).2.2 (by decide) (by decide))
    unfold n_X4_rangeOn at g2
    unfold f_X4_rangeOn at hh A B
    rw [← e] at g2 hh A B
    unfold n_X6_sea
    rw [l1]
    refine ⟨g2.1, g2.2, l2, ?_, ?_, ?_, ?_, ?_, ?_, ?_, ?_, ?_, ?_, ?_⟩
    · intro x ex; subst ex; exact fl_vf hq.1
    · intro x ex; subst ex; exact fl_vf hq.2
    · intro x ex; subst ex; exact fun h => (A h).1.n
    · intro x ex; subst ex; exact fun h => (A h).2.1.n
    · intro x ex; subst ex; exact fun _ => hh.n
    · intro x ex; subst ex; exact fun h => (A h).2.2.n
    · intro x ex; subst ex; exact fun h => fl_vf (hr.2 h).1
    · intro x ex; subst ex; exact fun h => (B h).1.n
    · intro x ex; subst ex; exact fun h => (B h).2.1.n
    · intro x ex; subst ex; exact fun _ => hh.n
    · intro x ex; subst ex; exact fun h => (B h).2.2.n
