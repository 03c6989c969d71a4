/-! the ends of a try -/
theorem tU_1 {p : TP} (hp : p.ok) {j : Nat} (hj : j < 10) {t : Nat} (ht : t < 6900) : ∀ {q : tq}, tI p t q → tsa q j = 1 → tsa (itG p 1 q) j = 2 → tU p j q = 1 := by
  rintro ⟨ee, tk, lv, si, fo, sa, le, dl, pl, dr, sp⟩ h h1 h2
  have hcj : (nI j).toNatClampNeg = j := nI_clamp (by omega)
  have h1' : sa j = 1 := h1
  rcases hg : f_X1_goBy (nI p.a) (nI p.b) ee tk (nI p.m) p.su lv si (nI p.g) (nI p.s) p.sc (nI p.n) p.gr sa le (nI p.P) dl pl dr sp with ⟨ee1, tk1, lv1, si1, fo1, sa1, le1, dl1, pl1, dr1, sp1⟩
  have e : tG p (ee, tk, lv, si, fo, sa, le, dl, pl, dr, sp) = (ee1, tk1, lv1, si1, fo1, sa1, le1, dl1, pl1, dr1, sp1) := hg
  rw [show (1 : Nat) = 0 + 1 from rfl, itG_s, itG_0, e] at h2
  have h2' : sa1 j = 2 := h2
  rw [tU_e]
  unfold f_X5_ticksToDone
  rw [hcj, h1', if_neg (by decide), if_neg (by decide), if_neg (by decide), f_X5_ticksToDone_44.eq_2, if_neg (by decide), hg]
  try dsimp only
  rw [hcj, if_pos h2']
/-- a lot that would be done so is done then, and not a tick ahead -/
theorem dn_ok {p : TP} (hp : p.ok) (hsc : tm_bool p.sc) {j k t : Nat} (hj : j < p.n) (hk : k < 300) (ht : t + 310 ≤ 5000) {ow we du : Nat → Int32} : ∀ {ee tk : Int32} {lv fo : UInt64} {si : UInt32} {sa pl dr sp : Nat → Int32} {le : Nat → UInt64} {dl : Nat → UInt32}, tI p t (ee, tk, lv, si, fo, sa, le, dl, pl, dr, sp) → tsa (itG p k (ee, tk, lv, si, fo, sa, le, dl, pl, dr, sp)) j = 1 → tsa (itG p (k + 1) (ee, tk, lv, si, fo, sa, le, dl, pl, dr, sp)) j = 2 →
    n_bdn (nI (k + 1)) (nI j) (nI p.a) (nI p.b) ee tk (nI p.m) p.su lv si (nI p.g) (nI p.s) p.sc fo (nI p.n) ow p.gr we du sa le (nI p.P) dl pl dr sp := by
  intro ee tk lv fo si sa pl dr sp le dl h s1 s2
  have hn : p.n ≤ 10 := hp.2.2.2.2.2.2.1
  have hP : p.P ≤ 3 := hp.2.2.2.2.2.2.2.1
  have hj10 : j < 10 := by omega
  have hcj : (nI j).toNatClampNeg = j := nI_clamp (by omega)
  obtain ⟨⟨i, E⟩, N⟩ := tE_ok hp 7 k t _ (by omega) (by omega) (by omega) h
  rw [tE_e] at E
  rw [tEN_e] at N
  obtain ⟨i1, -⟩ := itG_ok hp k (by omega : t + k < 6900) h
  obtain ⟨i2, -⟩ := itG_ok hp (k + 1) (by omega : t + (k + 1) < 6900) h
  rw [itG_add] at s2 i2
  obtain ⟨⟨r, E2⟩, N2⟩ := tP_ok hp (T := 1) (by omega) (by omega) (by omega : t + k + 1 ≤ 5000) i1
  have u1 := tU_1 hp hj10 (by omega : t + k < 6900) i1 s1 s2
  have u1N := (tU_ok hp hsc hj (by omega : t + k + 300 < 6900) i1).1
  obtain ⟨u2N, u2, -⟩ := tU_ok hp hsc hj (by omega : t + (k + 1) + 300 < 6900) i2
  have u2 := u2 s2
  have f1 := tI_sa i1 j hj
  have f2 := tI_sa i2 j hj
  have l1 := tI_lr i1 j
  have l2 := tI_lr i2 j
  generalize itG p 1 (itG p k (ee, tk, lv, si, fo, sa, le, dl, pl, dr, sp)) = z2 at *
  generalize itG p k (ee, tk, lv, si, fo, sa, le, dl, pl, dr, sp) = z1 at *
  obtain ⟨ee1, tk1, lv1, si1, fo1, sa1, le1, dl1, pl1, dr1, sp1⟩ := z1
  obtain ⟨ee2, tk2, lv2, si2, fo2, sa2, le2, dl2, pl2, dr2, sp2⟩ := z2
  have s1' : sa1 j = 1 := s1
  have s2' : sa2 j = 2 := s2
  have l1' : lr (le1 j) := l1
  have l2' : lr (le2 j) := l2
  have f1' : 0 < zd (le1 j) := by
    rcases f1 with ⟨-, q⟩ | ⟨q, -⟩
    · exact q
    · have q' : sa1 j = 2 ∨ sa1 j = 3 := q
      rw [s1'] at q'
      exact absurd q' (by decide)
  have f2' : zd (le2 j) = 0 := by
    rcases f2 with ⟨q, -⟩ | ⟨-, q⟩
    · have q' : sa2 j = 0 ∨ sa2 j = 1 := q
      rw [s2'] at q'
      exact absurd q' (by decide)
    · exact q
  rw [tU_e] at u1 u2
  rw [tUN_e] at u1N u2N
  rw [tP_e] at E2
  rw [tPN_e] at N2
  have zz : dok FP.dconst0 := dok_0
  have c1 : ¬ (Op.cmpValue (FP.dcmp (f_X5_left le1 (nI j)) FP.dconst0) .g) ≤ 0 := by
    unfold f_X5_left
    rw [hcj, fl_le0 l1'.1 zz, show zd FP.dconst0 = 0 from zdz_0]
    omega
  have c2 : (Op.cmpValue (FP.dcmp (f_X5_left le2 (nI j)) FP.dconst0) .l) = 0 := by
    unfold f_X5_left
    rw [hcj, fl_eq0 l2'.1 zz, show zd FP.dconst0 = 0 from zdz_0]
    exact f2'
  have OL : ∀ pl, n_X5_ofLot (nI p.n) (nI p.P) pl (nI j) 4 := fun pl => ⟨tx_has0 hj hn, by decide, nd_lotA hP hj10 4⟩
  have LN : n_X5_left (nI p.n) (nI j) := ⟨tx_has0 hj hn, vp_in_nI hj10 (by decide)⟩
  have OE : ∀ sa pl, f_X5_ofLot ow p.gr we du sa (nI p.P) pl (nI j) 4 = sa j := fun sa pl => by
    unfold f_X5_ofLot f_X5_lotAnswer
    rw [hcj, if_neg (by decide), if_neg (by decide), if_neg (by decide), if_neg (by decide), if_pos rfl]
  have W1 : n_X5_wouldDone (nI p.a) (nI p.b) ee1 tk1 (nI p.m) p.su lv1 si1 (nI p.g) (nI p.s) p.sc fo1 (nI p.n) p.gr sa1 le1 (nI p.P) dl1 pl1 dr1 sp1 (nI j) := ⟨tx_has0 hj hn, u1N⟩
  have W2 : n_X5_wouldDone (nI p.a) (nI p.b) ee2 tk2 (nI p.m) p.su lv2 si2 (nI p.g) (nI p.s) p.sc fo2 (nI p.n) p.gr sa2 le2 (nI p.P) dl2 pl2 dr2 sp2 (nI j) := ⟨tx_has0 hj hn, u2N⟩
  unfold n_bdn
  rw [nI_pred]
  refine ⟨nI_le (a := 1) (by omega) (by omega), N, ?_, ?_, ?_, ?_, ?_, ?_, ?_, ?_, ?_, ?_, ?_, ?_⟩
  all_goals
    intro x1 x2 x3 x4 x5 x6 x7 x8 x9 x10 x11 x12 e
    rw [E] at e
    cases e
  · exact OL _
  · rw [OE]; exact s1'
  · exact LN
  · exact c1
  · exact W1
  · exact u1
  · exact N2
  all_goals
    intro y1 y2 y3 y4 y5 y6 y7 y8 y9 y10 y11 y12 e
    have e' := e.trans E2
    cases e'
  · exact OL _
  · rw [OE]; exact s2'
  · exact c2
  · exact W2
  · exact u2
theorem sm_loopa {n : Nat} {u15 u28 : Nat → UInt64} (hn : n ≤ 10) (h15 : ∀ k, lr (u15 k)) (h28 : ∀ k, lr (u28 k)) :
    ∀ (d i fuel : Nat) (a1 a2 : UInt64), i + d = n → d < fuel → vr a1 0 (480 * i) → vr a2 0 (480 * i) →
      f_bsuma_371 n u15 u28 fuel a1 a2 (nI i) = (f_X0_allLeft_4 (nI n) u28 fuel a1 (nI i), f_X0_allLeft_4 (nI n) u15 fuel a2 (nI i), nI n) ∧ n_bsuma_371 (nI n) (nI n) n u15 u28 fuel a1 a2 (nI i) := by
  intro d
  induction d with
  | zero =>
    intro i fuel a1 a2 hi hf v1 v2
    obtain ⟨f, rfl⟩ : ∃ f, fuel = f + 1 := ⟨fuel - 1, by omega⟩
    have hin : i = n := by omega
    subst hin
    have hle : nI i ≤ nI i := nI_le (Nat.le_refl _) (by omega)
    refine ⟨?_, ?_⟩
    · rw [f_bsuma_371.eq_2, if_pos hle, f_X0_allLeft_4.eq_2, if_pos hle, f_X0_allLeft_4.eq_2, if_pos hle]
    · rw [n_bsuma_371.eq_2]
      exact ⟨fun c => absurd hle c, fun c => absurd hle c, fun c => absurd hle c, fun c => absurd hle c, fun c => absurd hle c⟩
  | succ d ih =>
    intro i fuel a1 a2 hi hf v1 v2
    obtain ⟨f, rfl⟩ : ∃ f, fuel = f + 1 := ⟨fuel - 1, by omega⟩
    have hlt : ¬ nI n ≤ nI i := nI_ge (by omega) (by omega)
    have h1 : nI i + 1 = nI (i + 1) := nI_1 i
    have hc : (nI i).toNatClampNeg = i := nI_clamp (by omega)
    have LN : n_X5_left (nI n) (nI i) := ⟨tx_has0 (by omega) hn, vp_in_nI (by omega) (by decide)⟩
    have g1 := v1.add (h28 i).vr 0 (480 * (i + 1 : Nat)) (by omega) (by omega) (by decide) (by omega)
    have g2 := v2.add (h15 i).vr 0 (480 * (i + 1 : Nat)) (by omega) (by omega) (by decide) (by omega)
    have L28 : f_X5_left u28 (nI i) = u28 i := by unfold f_X5_left; rw [hc]
    have L15 : f_X5_left u15 (nI i) = u15 i := by unfold f_X5_left; rw [hc]
    obtain ⟨b1, b2⟩ := ih (i + 1) f (FP.dadd a1 (u28 i)) (FP.dadd a2 (u15 i)) (by omega) (by omega) g1 g2
    refine ⟨?_, ?_⟩
    · rw [f_bsuma_371.eq_2, if_neg hlt, L28, L15, h1, b1, f_X0_allLeft_4.eq_2, if_neg hlt, hc, h1, f_X0_allLeft_4.eq_2 (nI n) u15, if_neg hlt, hc, h1]
    · rw [n_bsuma_371.eq_2, L28, L15, h1]
      exact ⟨fun _ => LN, fun _ => g1.n, fun _ => LN, fun _ => g2.n, fun _ => b2⟩
/-- no sluice leaves less than the best one -/
theorem sum_a {p : TP} (hp : p.ok) (hsc : tm_bool p.sc) {y k i t : Nat} (h1 : 1 ≤ y) (hy : y ≤ 48) (ht : t + 48 ≤ 5000) (hk : k ≤ 4) (hi : i ≤ 4) {ee tk : Int32} {lv fo : UInt64} {si : UInt32} {sa pl dr sp : Nat → Int32} {le : Nat → UInt64} {dl : Nat → UInt32} (h : tI p t (ee, tk, lv, si, fo, sa, le, dl, pl, dr, sp)) (hz : zd (tK p y (ee, tk, lv, si, fo, sa, le, dl, pl, dr, sp) k) < zd (tK p y (ee, tk, lv, si, fo, sa, le, dl, pl, dr, sp) i)) :
    n_bsuma (nI k) (nI y) (nI i) (nI p.a) (nI p.b) ee tk (nI p.m) p.su lv si (nI p.g) (nI p.s) p.sc fo (nI p.n) p.gr sa le (nI p.P) dl pl dr sp (nI p.a) (nI p.b) ee tk (nI p.m) p.su lv si (nI p.g) (nI p.s) p.sc fo (nI p.n) p.gr sa le (nI p.P) dl pl dr sp p.n := by
  have hn : p.n ≤ 10 := hp.2.2.2.2.2.2.1
  have hK : tI (p.ws k) t (ee, tk, lv, si, fo, sa, le, dl, pl, dr, sp) := h
  have hI : tI (p.ws i) t (ee, tk, lv, si, fo, sa, le, dl, pl, dr, sp) := h
  obtain ⟨k1, -, kv⟩ := tF_ok (p := p.ws k) (hp.sl hk) hsc (T := y) (by omega) (by omega : t + y < 6900) hK
  obtain ⟨i1, -, iv⟩ := tF_ok (p := p.ws i) (hp.sl hi) hsc (T := y) (by omega) (by omega : t + y < 6900) hI
  obtain ⟨⟨rk, Ek⟩, Nk⟩ := tP_ok (p := p.ws k) (hp.sl hk) (T := y) h1 (by omega) (by omega : t + y ≤ 5000) hK
  obtain ⟨⟨ri, Ei⟩, Ni⟩ := tP_ok (p := p.ws i) (hp.sl hi) (T := y) h1 (by omega) (by omega : t + y ≤ 5000) hI
  have lk := tI_lr (itG_ok (p := p.ws k) (hp.sl hk) y (by omega : t + y < 6900) hK).1
  have li := tI_lr (itG_ok (p := p.ws i) (hp.sl hi) y (by omega : t + y < 6900) hI).1
  have hz' := hz
  unfold tK at hz'
  rw [k1, i1] at hz'
  rw [k1] at kv
  rw [i1] at iv
  generalize itG (p.ws k) y (ee, tk, lv, si, fo, sa, le, dl, pl, dr, sp) = zk at *
  generalize itG (p.ws i) y (ee, tk, lv, si, fo, sa, le, dl, pl, dr, sp) = zi at *
  obtain ⟨ee1, tk1, lv1, si1, fo1, sa1, le1, dl1, pl1, dr1, sp1⟩ := zk
  obtain ⟨ee2, tk2, lv2, si2, fo2, sa2, le2, dl2, pl2, dr2, sp2⟩ := zi
  have lk' : ∀ j, lr (le1 j) := lk
  have li' : ∀ j, lr (le2 j) := li
  obtain ⟨m1, m2⟩ := sm_loopa hn li' lk' p.n 0 12 FP.dconst0 FP.dconst0 (by omega) (by omega) (vc_0.w (by decide) (by decide)) (vc_0.w (by decide) (by decide))
  rw [show nI 0 = 0 from nI_0] at m1 m2
  have kv' : vr (f_X0_allLeft_4 (nI p.n) le1 12 FP.dconst0 0) 0 4800 := kv
  have iv' : vr (f_X0_allLeft_4 (nI p.n) le2 12 FP.dconst0 0) 0 4800 := iv
  unfold n_bsuma
  refine ⟨iw_k (A := 0) (B := 4) (by omega) hk (by decide), ?_, ?_, ?_, ?_, ?_, ?_⟩
  all_goals
    intro r2 u3 e
    have e' : (r2, u3) = (nI p.s, nI k) := e
    cases e'
  · exact iw_k (A := 0) (B := 4) (by omega) hi (by decide)
  all_goals
    intro r5 u6 e
    have e' : (r5, u6) = (nI p.s, nI i) := e
    cases e'
  · exact Ni
  all_goals
    intro r8 u9 u10 u11 u12 u13 u14 u15 u16 u17 u18 u19 e
    have e' := e.trans Ei
    cases e'
  · exact Nk
  all_goals
    intro r21 u22 u23 u24 u25 u26 u27 u28 u29 u30 u31 u32 e
    have e' := e.trans Ek
    cases e'
  · exact m2
  all_goals
    intro x1 x2 x3 e
    rw [m1] at e
    cases e
  · intro c
    have := (fl_lt0 iv'.ok kv'.ok _).mp c
    have hz2 : zd (f_X0_allLeft_4 (nI p.n) le1 12 FP.dconst0 0) < zd (f_X0_allLeft_4 (nI p.n) le2 12 FP.dconst0 0) := hz'
    omega
  · intro c
    have := (fl_eq0 iv'.ok kv'.ok _).mp c
    have hz2 : zd (f_X0_allLeft_4 (nI p.n) le1 12 FP.dconst0 0) < zd (f_X0_allLeft_4 (nI p.n) le2 12 FP.dconst0 0) := hz'
    omega
theorem sm_loopb {n : Nat} {u15 u28 : Nat → UInt64} (hn : n ≤ 10) (h15 : ∀ k, lr (u15 k)) (h28 : ∀ k, lr (u28 k)) :
    ∀ (d i fuel : Nat) (a1 a2 : UInt64), i + d = n → d < fuel → vr a1 0 (480 * i) → vr a2 0 (480 * i) →
      f_bsumb_371 n u15 u28 fuel a1 a2 (nI i) = (f_X0_allLeft_4 (nI n) u28 fuel a1 (nI i), f_X0_allLeft_4 (nI n) u15 fuel a2 (nI i), nI n) ∧ n_bsumb_371 (nI n) (nI n) n u15 u28 fuel a1 a2 (nI i) := by
  intro d
  induction d with
  | zero =>
    intro i fuel a1 a2 hi hf v1 v2
    obtain ⟨f, rfl⟩ : ∃ f, fuel = f + 1 := ⟨fuel - 1, by omega⟩
    have hin : i = n := by omega
    subst hin
    have hle : nI i ≤ nI i := nI_le (Nat.le_refl _) (by omega)
    refine ⟨?_, ?_⟩
    · rw [f_bsumb_371.eq_2, if_pos hle, f_X0_allLeft_4.eq_2, if_pos hle, f_X0_allLeft_4.eq_2, if_pos hle]
    · rw [n_bsumb_371.eq_2]
      exact ⟨fun c => absurd hle c, fun c => absurd hle c, fun c => absurd hle c, fun c => absurd hle c, fun c => absurd hle c⟩
  | succ d ih =>
    intro i fuel a1 a2 hi hf v1 v2
    obtain ⟨f, rfl⟩ : ∃ f, fuel = f + 1 := ⟨fuel - 1, by omega⟩
    have hlt : ¬ nI n ≤ nI i := nI_ge (by omega) (by omega)
    have h1 : nI i + 1 = nI (i + 1) := nI_1 i
    have hc : (nI i).toNatClampNeg = i := nI_clamp (by omega)
    have LN : n_X5_left (nI n) (nI i) := ⟨tx_has0 (by omega) hn, vp_in_nI (by omega) (by decide)⟩
    have g1 := v1.add (h28 i).vr 0 (480 * (i + 1 : Nat)) (by omega) (by omega) (by decide) (by omega)
    have g2 := v2.add (h15 i).vr 0 (480 * (i + 1 : Nat)) (by omega) (by omega) (by decide) (by omega)
    have L28 : f_X5_left u28 (nI i) = u28 i := by unfold f_X5_left; rw [hc]
    have L15 : f_X5_left u15 (nI i) = u15 i := by unfold f_X5_left; rw [hc]
    obtain ⟨b1, b2⟩ := ih (i + 1) f (FP.dadd a1 (u28 i)) (FP.dadd a2 (u15 i)) (by omega) (by omega) g1 g2
    refine ⟨?_, ?_⟩
    · rw [f_bsumb_371.eq_2, if_neg hlt, L28, L15, h1, b1, f_X0_allLeft_4.eq_2, if_neg hlt, hc, h1, f_X0_allLeft_4.eq_2 (nI n) u15, if_neg hlt, hc, h1]
    · rw [n_bsumb_371.eq_2, L28, L15, h1]
      exact ⟨fun _ => LN, fun _ => g1.n, fun _ => LN, fun _ => g2.n, fun _ => b2⟩
/-- no sluice leaves less than the best one -/
theorem sum_b {p : TP} (hp : p.ok) (hsc : tm_bool p.sc) {y k i t : Nat} (h1 : 1 ≤ y) (hy : y ≤ 48) (ht : t + 48 ≤ 5000) (hk : k ≤ 4) (hi : i ≤ 4) {ee tk : Int32} {lv fo : UInt64} {si : UInt32} {sa pl dr sp : Nat → Int32} {le : Nat → UInt64} {dl : Nat → UInt32} (h : tI p t (ee, tk, lv, si, fo, sa, le, dl, pl, dr, sp)) (hz : zd (tK p y (ee, tk, lv, si, fo, sa, le, dl, pl, dr, sp) i) = zd (tK p y (ee, tk, lv, si, fo, sa, le, dl, pl, dr, sp) k)) (hki : k ≤ i) :
    n_bsumb (nI k) (nI y) (nI i) (nI p.a) (nI p.b) ee tk (nI p.m) p.su lv si (nI p.g) (nI p.s) p.sc fo (nI p.n) p.gr sa le (nI p.P) dl pl dr sp (nI p.a) (nI p.b) ee tk (nI p.m) p.su lv si (nI p.g) (nI p.s) p.sc fo (nI p.n) p.gr sa le (nI p.P) dl pl dr sp p.n := by
  have hn : p.n ≤ 10 := hp.2.2.2.2.2.2.1
  have hK : tI (p.ws k) t (ee, tk, lv, si, fo, sa, le, dl, pl, dr, sp) := h
  have hI : tI (p.ws i) t (ee, tk, lv, si, fo, sa, le, dl, pl, dr, sp) := h
  obtain ⟨k1, -, kv⟩ := tF_ok (p := p.ws k) (hp.sl hk) hsc (T := y) (by omega) (by omega : t + y < 6900) hK
  obtain ⟨i1, -, iv⟩ := tF_ok (p := p.ws i) (hp.sl hi) hsc (T := y) (by omega) (by omega : t + y < 6900) hI
  obtain ⟨⟨rk, Ek⟩, Nk⟩ := tP_ok (p := p.ws k) (hp.sl hk) (T := y) h1 (by omega) (by omega : t + y ≤ 5000) hK
  obtain ⟨⟨ri, Ei⟩, Ni⟩ := tP_ok (p := p.ws i) (hp.sl hi) (T := y) h1 (by omega) (by omega : t + y ≤ 5000) hI
  have lk := tI_lr (itG_ok (p := p.ws k) (hp.sl hk) y (by omega : t + y < 6900) hK).1
  have li := tI_lr (itG_ok (p := p.ws i) (hp.sl hi) y (by omega : t + y < 6900) hI).1
  have hz' := hz
  unfold tK at hz'
  rw [k1, i1] at hz'
  rw [k1] at kv
  rw [i1] at iv
  generalize itG (p.ws k) y (ee, tk, lv, si, fo, sa, le, dl, pl, dr, sp) = zk at *
  generalize itG (p.ws i) y (ee, tk, lv, si, fo, sa, le, dl, pl, dr, sp) = zi at *
  obtain ⟨ee1, tk1, lv1, si1, fo1, sa1, le1, dl1, pl1, dr1, sp1⟩ := zk
  obtain ⟨ee2, tk2, lv2, si2, fo2, sa2, le2, dl2, pl2, dr2, sp2⟩ := zi
  have lk' : ∀ j, lr (le1 j) := lk
  have li' : ∀ j, lr (le2 j) := li
  obtain ⟨m1, m2⟩ := sm_loopb hn li' lk' p.n 0 12 FP.dconst0 FP.dconst0 (by omega) (by omega) (vc_0.w (by decide) (by decide)) (vc_0.w (by decide) (by decide))
  rw [show nI 0 = 0 from nI_0] at m1 m2
  have kv' : vr (f_X0_allLeft_4 (nI p.n) le1 12 FP.dconst0 0) 0 4800 := kv
  have iv' : vr (f_X0_allLeft_4 (nI p.n) le2 12 FP.dconst0 0) 0 4800 := iv
  unfold n_bsumb
  refine ⟨iw_k (A := 0) (B := 4) (by omega) hk (by decide), ?_, ?_, ?_, ?_, ?_, ?_, ?_⟩
  all_goals
    intro r2 u3 e
    have e' : (r2, u3) = (nI p.s, nI k) := e
    cases e'
  · exact iw_k (A := 0) (B := 4) (by omega) hi (by decide)
  all_goals
    intro r5 u6 e
    have e' : (r5, u6) = (nI p.s, nI i) := e
    cases e'
  · exact Ni
  all_goals
    intro r8 u9 u10 u11 u12 u13 u14 u15 u16 u17 u18 u19 e
    have e' := e.trans Ei
    cases e'
  · exact Nk
  all_goals
    intro r21 u22 u23 u24 u25 u26 u27 u28 u29 u30 u31 u32 e
    have e' := e.trans Ek
    cases e'
  · exact m2
  all_goals
    intro x1 x2 x3 e
    rw [m1] at e
    cases e
  · intro c
    have := (fl_lt0 iv'.ok kv'.ok _).mp c
    have hz2 : zd (f_X0_allLeft_4 (nI p.n) le2 12 FP.dconst0 0) = zd (f_X0_allLeft_4 (nI p.n) le1 12 FP.dconst0 0) := hz'
    omega
  · exact (fl_eq0 iv'.ok kv'.ok _).mpr hz'
  · exact nI_le hki (by omega)
