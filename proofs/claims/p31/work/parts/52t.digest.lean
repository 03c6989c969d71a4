/-! the digest: its duties -/
theorem dg_1024 : FP.Core.DFin 4652218415073722368 ∧ ¬ FP.Core.DZero 4652218415073722368 := by
  have h : vr 4652218415073722368 8192 8192 := vr.c (by decide +kernel)
  refine ⟨h.1, FP.Core.dnot_zero h.ok ?_⟩
  have := h.eqz
  show zd 4652218415073722368 ≠ 0
  rw [this]
  exact Int.ne_of_gt (Int.mul_pos (by decide) fl_E_pos)
theorem dg_cut {x : UInt64} (h : dok x) : vf_n64 (FP.dmul 4652218415073722368 x) := by
  refine fl_vf ?_
  show dok (FP.Core.dmul 4652218415073722368 x)
  rw [FP.Core.dmul_comm]
  exact (FP.Core.notNaN_iff _).mp (FP.Core.dmul_out' ((FP.Core.notNaN_iff _).mpr h) dg_1024.1 dg_1024.2)
theorem li_sparksN {P : Nat} (hP : P ≤ 3) (sp : Nat → Int32) : ∀ (d i fuel : Nat) (acc : Int32), i + d = P → d < fuel → n_X2_allSparks_4 (nI P) sp fuel acc (nI i) := by
  intro d
  induction d with
  | zero =>
    intro i fuel acc hi hf
    obtain ⟨f, rfl⟩ : ∃ f, fuel = f + 1 := ⟨fuel - 1, by omega⟩
    have e : i = P := by omega
    subst e
    have hle : nI i ≤ nI i := nI_le (Nat.le_refl _) (by omega)
    rw [n_X2_allSparks_4.eq_2]
    exact ⟨fun c => absurd hle c, fun c => absurd hle c⟩
  | succ d ih =>
    intro i fuel acc hi hf
    obtain ⟨f, rfl⟩ : ∃ f, fuel = f + 1 := ⟨fuel - 1, by omega⟩
    have ii : vp_in (nI i) 3 := vp_in_nI (by omega) (by decide)
    rw [n_X2_allSparks_4.eq_2, nI_1]
    exact ⟨fun _ => ii, fun _ => ih (i + 1) f _ (by omega) (by omega)⟩
theorem nd_cnt {n : Nat} {sa : Nat → Int32} (hn : n ≤ 10) (s : Int32) : n_X0_countOf (nI n) sa s := (dr_countE (rc := fun k _ => sa k) hn (fun _ _ => rfl) s).2.2
theorem nd_with {P : Nat} (hP : P ≤ 3) (pl : Nat → Int32) (x : Int32) : ∀ (d i fuel : Nat), i + d = P → d < fuel → n_X2_withLot_2 (nI P) pl x fuel (nI i) := by
  intro d
  induction d with
  | zero =>
    intro i fuel hi hf
    obtain ⟨f, rfl⟩ : ∃ f, fuel = f + 1 := ⟨fuel - 1, by omega⟩
    have e : i = P := by omega
    subst e
    have hle : nI i ≤ nI i := nI_le (Nat.le_refl _) (by omega)
    rw [n_X2_withLot_2.eq_2]
    exact ⟨fun c => absurd hle c, fun c => absurd hle c⟩
  | succ d ih =>
    intro i fuel hi hf
    obtain ⟨f, rfl⟩ : ∃ f, fuel = f + 1 := ⟨fuel - 1, by omega⟩
    have ii : vp_in (nI i) 3 := vp_in_nI (by omega) (by decide)
    rw [n_X2_withLot_2.eq_2, nI_1]
    exact ⟨fun _ => ii, fun _ _ => ih (i + 1) f (by omega) (by omega)⟩
theorem nd_weight {n : Nat} {ow we sa : Nat → Int32} (hn : n ≤ 10) (o a : Int32) : ∀ (d i fuel : Nat) (acc : Int32), i + d = n → d < fuel → n_X0_weightOf_5 (nI n) ow we sa o a fuel acc (nI i) := by
  intro d
  induction d with
  | zero =>
    intro i fuel acc hi hf
    obtain ⟨f, rfl⟩ : ∃ f, fuel = f + 1 := ⟨fuel - 1, by omega⟩
    have e : i = n := by omega
    subst e
    have hle : nI i ≤ nI i := nI_le (Nat.le_refl _) (by omega)
    rw [n_X0_weightOf_5.eq_2]
    exact ⟨fun c => absurd hle c, fun c => absurd hle c, fun c => absurd hle c, fun c => absurd hle c, fun c => absurd hle c⟩
  | succ d ih =>
    intro i fuel acc hi hf
    obtain ⟨f, rfl⟩ : ∃ f, fuel = f + 1 := ⟨fuel - 1, by omega⟩
    have ii : vp_in (nI i) 10 := vp_in_nI (by omega) (by decide)
    have k := fun a => ih (i + 1) f a (by omega) (by omega)
    rw [n_X0_weightOf_5.eq_2, nI_1]
    exact ⟨fun _ => ii, fun _ _ => k _, fun _ _ _ => k _, fun _ _ _ _ => k _, fun _ _ _ _ => k _⟩
theorem nd_phase {t : Nat} (ht : t < 7000) : n_X4_phaseOn (nI t) := fl_vf (by
  show dok (f_X4_phaseOn (nI t))
  rw [sa_phaseN ht]
  exact (sa_phV _ (Nat.mod_lt _ (by decide))).1)
theorem nd_high {t : Nat} (ht : t < 6900) : ∀ (d i fuel : Nat), i + d = 25 → d < fuel → n_X4_ticksToHigh_2 (nI t) fuel (nI i) := by
  intro d
  induction d with
  | zero =>
    intro i fuel hi hf
    obtain ⟨f, rfl⟩ : ∃ f, fuel = f + 1 := ⟨fuel - 1, by omega⟩
    have e : i = 25 := by omega
    subst e
    have hle : (25 : Int32) ≤ nI 25 := by decide
    rw [n_X4_ticksToHigh_2.eq_2]
    exact ⟨fun c => absurd hle c, fun c => absurd hle c, fun c => absurd hle c⟩
  | succ d ih =>
    intro i fuel hi hf
    obtain ⟨f, rfl⟩ : ∃ f, fuel = f + 1 := ⟨fuel - 1, by omega⟩
    have hs : nI t + nI i = nI (t + i) := nI_add t i
    have k := ih (i + 1) f (by omega) (by omega)
    rw [n_X4_ticksToHigh_2.eq_2, hs, nI_1]
    exact ⟨fun _ => nd_phase (by omega), fun _ _ => k, fun _ _ _ => k⟩
section
variable {n P : Nat} {lk rf pu fh lh ee tk mo ga sl : Int32} {ow gr we du sa pl dr sp : Nat → Int32} {dl : Nat → UInt32}
theorem nd_many (hn : n ≤ 10) (hP : P ≤ 3) (x : Int32) : n_X5_manyAnswer (nI n) sa (nI P) sp x :=
  ⟨fun _ _ _ _ _ _ _ _ _ => nd_cnt hn 0, fun _ _ _ _ _ _ _ _ _ _ => nd_cnt hn 2, fun _ _ _ _ _ _ _ _ _ _ _ => nd_cnt hn 3, fun _ _ _ _ _ _ _ _ _ _ _ _ _ _ => by
    have h := li_sparksN hP sp P 0 5 0 (by omega) (by omega)
    rw [show nI 0 = 0 from nI_0] at h
    exact h⟩
theorem nd_6 (hn : n ≤ 10) (hP : P ≤ 3) : ∀ (d i fuel : Nat) (acc : Int64), i + d = 17 → d < fuel → n_X5_digest_6 lk rf pu fh lh ee tk mo ga sl (nI n) sa (nI P) sp fuel acc (nI i) := by
  intro d
  induction d with
  | zero =>
    intro i fuel acc hi hf
    obtain ⟨f, rfl⟩ : ∃ f, fuel = f + 1 := ⟨fuel - 1, by omega⟩
    have hle : (16 : Int32) < nI i := nI_lt (a := 16) (by omega) (by omega)
    rw [n_X5_digest_6.eq_2]
    exact ⟨fun c => absurd hle c, fun c => absurd hle c⟩
  | succ d ih =>
    intro i fuel acc hi hf
    obtain ⟨f, rfl⟩ : ∃ f, fuel = f + 1 := ⟨fuel - 1, by omega⟩
    rw [n_X5_digest_6.eq_2, nI_1]
    exact ⟨fun _ => nd_many hn hP _, fun _ => ih (i + 1) f _ (by omega) (by omega)⟩
theorem nd_pair6 {p : Nat} (hp : p < 3) : ∀ (d i fuel : Nat) (acc : Int64), i + d = 3 → d < fuel → n_X5_joinedPair_6 pl dr sp (nI p) fuel acc (nI i) := by
  have ip : vp_in (nI p) 3 := vp_in_nI hp (by decide)
  intro d
  induction d with
  | zero =>
    intro i fuel acc hi hf
    obtain ⟨f, rfl⟩ : ∃ f, fuel = f + 1 := ⟨fuel - 1, by omega⟩
    have hle : (2 : Int32) < nI i := nI_lt (a := 2) (by omega) (by omega)
    rw [n_X5_joinedPair_6.eq_2]
    exact ⟨fun c => absurd hle c, fun c => absurd hle c⟩
  | succ d ih =>
    intro i fuel acc hi hf
    obtain ⟨f, rfl⟩ : ∃ f, fuel = f + 1 := ⟨fuel - 1, by omega⟩
    rw [n_X5_joinedPair_6.eq_2, nI_1]
    exact ⟨fun _ => ⟨fun _ => ip, fun _ _ => ip, fun _ _ => ip⟩, fun _ => ih (i + 1) f _ (by omega) (by omega)⟩
theorem nd_70 (hP : P ≤ 3) (hd : ∀ p, fr (dl p) 8) : ∀ (d i fuel : Nat) (acc : Int64), i + d = P → d < fuel → n_X5_digest_70 (nI P) dl pl dr sp fuel acc (nI i) := by
  intro d
  induction d with
  | zero =>
    intro i fuel acc hi hf
    obtain ⟨f, rfl⟩ : ∃ f, fuel = f + 1 := ⟨fuel - 1, by omega⟩
    have hle : nI P ≤ nI i := by rw [show i = P by omega]; exact nI_le (Nat.le_refl _) (by omega)
    rw [n_X5_digest_70.eq_2]
    exact ⟨fun c => absurd hle c, fun c => absurd hle c⟩
  | succ d ih =>
    intro i fuel acc hi hf
    obtain ⟨f, rfl⟩ : ∃ f, fuel = f + 1 := ⟨fuel - 1, by omega⟩
    have hc : (nI i).toNatClampNeg = i := nI_clamp (by omega)
    have ip : vp_in (nI i) 3 := vp_in_nI (by omega) (by decide)
    have hfd := (hd i).f2d (by decide) (by decide)
    have h6 := nd_pair6 (pl := pl) (dr := dr) (sp := sp) (p := i) (by omega) 3 0 4 acc (by omega) (by omega)
    rw [show nI 0 = 0 from nI_0] at h6
    rw [n_X5_digest_70.eq_2, nI_1]
    refine ⟨fun _ => ?_, fun _ => ih (i + 1) f _ (by omega) (by omega)⟩
    unfold n_X5_joinedPair
    rw [hc]
    exact ⟨h6, fun _ _ _ => ip, fun _ _ _ => hfd.n, fun _ _ _ => dg_cut hfd.ok⟩
theorem nd_lot6 (hP : P ≤ 3) {j : Nat} (hj : j < 10) : ∀ (d i fuel : Nat) (acc : Int64), i + d = 6 → d < fuel → n_X5_joinedLot_6 ow gr we du sa (nI P) pl (nI j) fuel acc (nI i) := by
  have ij : vp_in (nI j) 10 := vp_in_nI hj (by decide)
  have hw : n_X2_withLot (nI P) pl (nI j) := by
    have h := nd_with hP pl (nI j) P 0 5 (by omega) (by omega)
    rw [show nI 0 = 0 from nI_0] at h
    exact h
  intro d
  induction d with
  | zero =>
    intro i fuel acc hi hf
    obtain ⟨f, rfl⟩ : ∃ f, fuel = f + 1 := ⟨fuel - 1, by omega⟩
    have hle : (5 : Int32) < nI i := nI_lt (a := 5) (by omega) (by omega)
    rw [n_X5_joinedLot_6.eq_2]
    exact ⟨fun c => absurd hle c, fun c => absurd hle c⟩
  | succ d ih =>
    intro i fuel acc hi hf
    obtain ⟨f, rfl⟩ : ∃ f, fuel = f + 1 := ⟨fuel - 1, by omega⟩
    rw [n_X5_joinedLot_6.eq_2, nI_1]
    exact ⟨fun _ => ⟨fun _ => ij, fun _ _ => ij, fun _ _ _ => ij, fun _ _ _ _ => ij, fun _ _ _ _ _ => ij, fun _ _ _ _ _ => hw⟩, fun _ => ih (i + 1) f _ (by omega) (by omega)⟩
theorem nd_lotA (hP : P ≤ 3) {j : Nat} (hj : j < 10) (x : Int32) : n_X5_lotAnswer (nI P) pl (nI j) x := by
  have ij : vp_in (nI j) 10 := vp_in_nI hj (by decide)
  have h := nd_with hP pl (nI j) P 0 5 (by omega) (by omega)
  rw [show nI 0 = 0 from nI_0] at h
  exact ⟨fun _ => ij, fun _ _ => ij, fun _ _ _ => ij, fun _ _ _ _ => ij, fun _ _ _ _ _ => ij, fun _ _ _ _ _ => h⟩
theorem nd_128 (hn : n ≤ 10) : ∀ (d i fuel : Nat) (acc : Int64), i + d = 4 → d < fuel → n_X5_digest_128 (nI n) ow we sa fuel acc (nI i) := by
  intro d
  induction d with
  | zero =>
    intro i fuel acc hi hf
    obtain ⟨f, rfl⟩ : ∃ f, fuel = f + 1 := ⟨fuel - 1, by omega⟩
    have e : i = 4 := by omega
    subst e
    have hle : (4 : Int32) ≤ nI 4 := by decide
    rw [n_X5_digest_128.eq_2]
    exact ⟨fun c => absurd hle c, fun c => absurd hle c⟩
  | succ d ih =>
    intro i fuel acc hi hf
    obtain ⟨f, rfl⟩ : ∃ f, fuel = f + 1 := ⟨fuel - 1, by omega⟩
    have h := nd_weight (ow := ow) (we := we) (sa := sa) hn (nI i) 0 n 0 12 0 (by omega) (by omega)
    rw [show nI 0 = 0 from nI_0] at h
    rw [n_X5_digest_128.eq_2, nI_1]
    exact ⟨fun _ => h, fun _ => ih (i + 1) f _ (by omega) (by omega)⟩
end
/-- the digest's duties, at a state of the mill -/
theorem nd_all {p : TP} (hp : p.ok) (hsc : tm_bool p.sc) {t : Nat} (ht : t ≤ 6000) {ee tk : Int32} {lv fo : UInt64} {si : UInt32} {sa pl dr sp : Nat → Int32} {le : Nat → UInt64} {dl : Nat → UInt32} (h : tI p t (ee, tk, lv, si, fo, sa, le, dl, pl, dr, sp)) {to : UInt64} (hto : dok to) (lk rf pu : Int32) (ow we du : Nat → Int32) :
    n_X5_digest lk rf pu to (nI p.a) (nI p.b) ee tk (nI p.m) p.su lv si (nI p.g) (nI p.s) p.sc fo (nI p.n) ow p.gr we du sa le (nI p.P) dl pl dr sp := by
  have hn : p.n ≤ 10 := hp.2.2.2.2.2.2.1
  have hP : p.P ≤ 3 := hp.2.2.2.2.2.2.2.1
  have htk : tk = nI t := h.1
  obtain ⟨hlv, hsi, hfo, hti⟩ := h.2
  have z0 : nI 0 = 0 := nI_0
  have hsd := hsi.f2d (by decide) (by decide)
  have ha := (pd_area hsi).2
  have hr := (sa_range (t := t) hp.1 (by omega)).2
  have P1 : ∀ x, n_X5_pondAnswer tk (nI p.m) si x := fun x => ⟨fun _ _ => hsd.n, fun _ _ _ => ha, fun _ _ _ _ _ => by rw [htk]; exact hr⟩
  have H6 := nd_6 (lk := lk) (rf := rf) (pu := pu) (fh := nI p.a) (lh := nI p.b) (ee := ee) (tk := tk) (mo := nI p.m) (ga := nI p.g) (sl := nI p.s) (sa := sa) (sp := sp) hn hP 17 0 18 58306 (by omega) (by omega)
  have H70 := fun acc => nd_70 (pl := pl) (dr := dr) (sp := sp) hP hti.1 p.P 0 5 acc (by omega) (by omega)
  have H128 := fun acc => nd_128 (ow := ow) (we := we) (sa := sa) hn 4 0 6 acc (by omega) (by omega)
  have Hh := nd_high (t := t) (by omega) 25 0 27 (by omega) (by omega)
  rw [z0] at H6 Hh
  simp only [z0] at H70 H128
  have H99 : ∀ (d i fuel : Nat) (acc : Int64), i + d = p.n → d < fuel → n_X5_digest_99 (nI p.a) (nI p.b) ee tk (nI p.m) p.su lv si (nI p.g) (nI p.s) p.sc fo (nI p.n) ow p.gr we du sa le (nI p.P) dl pl dr sp fuel acc (nI i) := by
    intro d
    induction d with
    | zero =>
      intro i fuel acc hi hf
      obtain ⟨f, rfl⟩ : ∃ f, fuel = f + 1 := ⟨fuel - 1, by omega⟩
      have hle : nI p.n ≤ nI i := by rw [show i = p.n by omega]; exact nI_le (Nat.le_refl _) (by omega)
      rw [n_X5_digest_99.eq_2]
      exact ⟨fun c => absurd hle c, fun c => absurd hle c⟩
    | succ d ih =>
      intro i fuel acc hi hf
      obtain ⟨f, rfl⟩ : ∃ f, fuel = f + 1 := ⟨fuel - 1, by omega⟩
      have hc : (nI i).toNatClampNeg = i := nI_clamp (by omega)
      have ii : vp_in (nI i) 10 := vp_in_nI (by omega) (by decide)
      have l6 := nd_lot6 (ow := ow) (gr := p.gr) (we := we) (du := du) (sa := sa) (pl := pl) hP (j := i) (by omega) 6 0 8 acc (by omega) (by omega)
      rw [z0] at l6
      have hu := (tU_ok hp hsc (j := i) (by omega) (by omega : t + 300 < 6900) h).1
      rw [n_X5_digest_99.eq_2, nI_1]
      refine ⟨fun _ => ?_, fun _ => ih (i + 1) f _ (by omega) (by omega)⟩
      unfold n_X5_joinedLot
      rw [hc]
      exact ⟨l6, fun _ _ _ => ii, fun _ _ _ => dg_cut (hti.2.1 i).vr.ok, fun _ _ _ => hu⟩
  have H99' := fun acc => H99 p.n 0 12 acc (by omega) (by omega)
  simp only [z0] at H99'
  obtain ⟨_, -, -, -, -, hb⟩ := tB_ok hp hsc (T := 24) (by omega) (by omega : t + 24 < 6900) h
  unfold n_X5_digest
  exact ⟨H6, fun _ _ _ => P1 _, fun _ _ _ => dg_cut hlv.ok, fun _ _ _ => P1 _, fun _ _ _ => dg_cut hsd.ok, fun _ _ _ => P1 _, fun _ _ _ => dg_cut hto, fun _ _ _ => H70 _, fun _ _ _ _ _ _ => H99' _, fun _ _ _ _ _ _ _ _ _ => H128 _, fun _ _ _ _ _ _ _ _ _ _ _ _ => by rw [htk]; exact Hh, fun _ _ _ _ _ _ _ _ _ _ _ _ => hb⟩
