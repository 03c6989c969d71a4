/-! what would be -/
/-- ticks gone by within the trial are ticks let go by -/
theorem wd_24 {fh lh mo : Int32} {su : UInt64} {ga sc ln : Int32} {gr : Nat → Int32} {pn p1 p2 : Int32} : ∀ (fuel : Nat) (x0 x1 x2 : Int32) (x3 : UInt64) (x4 : UInt32) (x5 : UInt64) (x6 : Nat → Int32) (x7 : Nat → UInt64) (x8 : Nat → UInt32) (x9 x10 x11 : Nat → Int32),
    (∃ i : Int32, f_X5_leftWith_24 fh lh mo su ga sc ln gr pn p1 p2 fuel x0 x1 x2 x3 x4 x5 x6 x7 x8 x9 x10 x11 = (i, f_X1_letGoBy_2 fh lh mo su ga p1 sc ln gr pn p2 fuel x0 x1 x2 x3 x4 x5 x6 x7 x8 x9 x10 x11)) ∧ (n_X1_letGoBy_2 fh lh mo su ga p1 sc ln gr pn p2 fuel x0 x1 x2 x3 x4 x5 x6 x7 x8 x9 x10 x11 → n_X5_leftWith_24 fh lh mo su ga sc ln gr pn p1 p2 fuel x0 x1 x2 x3 x4 x5 x6 x7 x8 x9 x10 x11) := by
  intro fuel
  induction fuel with
  | zero =>
    intro x0 x1 x2 x3 x4 x5 x6 x7 x8 x9 x10 x11
    refine ⟨⟨x0, ?_⟩, fun h => ?_⟩
    · rw [f_X5_leftWith_24.eq_1, f_X1_letGoBy_2.eq_1]
    · rw [n_X1_letGoBy_2.eq_1] at h
      exact h.elim
  | succ fuel ih =>
    intro x0 x1 x2 x3 x4 x5 x6 x7 x8 x9 x10 x11
    by_cases c : p2 ≤ x0
    · refine ⟨⟨x0, ?_⟩, fun _ => ?_⟩
      · rw [f_X5_leftWith_24.eq_2, if_pos c, f_X1_letGoBy_2.eq_2, if_pos c]
      · rw [n_X5_leftWith_24.eq_2]
        exact ⟨fun d => absurd c d, fun d => absurd c d⟩
    · rcases hg : f_X1_goBy fh lh x1 x2 mo su x3 x4 ga p1 sc ln gr x6 x7 pn x8 x9 x10 x11 with ⟨u0, u1, u2, u3, u4, u5, u6, u7, u8, u9, u10⟩
      obtain ⟨⟨i, h1⟩, -⟩ := ih (x0 + 1) u0 u1 u2 u3 u4 u5 u6 u7 u8 u9 u10
      refine ⟨⟨i, ?_⟩, fun h => ?_⟩
      · rw [f_X5_leftWith_24.eq_2, if_neg c, f_X1_letGoBy_2.eq_2, if_neg c, hg]
        exact h1
      · rw [n_X1_letGoBy_2.eq_2] at h
        rw [n_X5_leftWith_24.eq_2]
        refine ⟨h.1, ?_⟩
        intro d v0 v1 v2 v3 v4 v5 v6 v7 v8 v9 v10 e
        exact (ih (x0 + 1) v0 v1 v2 v3 v4 v5 v6 v7 v8 v9 v10).2 (h.2 d v0 v1 v2 v3 v4 v5 v6 v7 v8 v9 v10 e)

theorem al_sum {n : Nat} {le : Nat → UInt64} (hn : n ≤ 10) (hl : ∀ k, lr (le k)) :
    ∀ (d i fuel : Nat) (acc : UInt64), i + d = n → d < fuel → vr acc 0 (480 * i) →
      n_X0_allLeft_4 (nI n) le fuel acc (nI i) ∧ vr (f_X0_allLeft_4 (nI n) le fuel acc (nI i)) 0 4800 := by
  intro d
  induction d with
  | zero =>
    intro i fuel acc hi hf ha
    obtain ⟨f, rfl⟩ : ∃ f, fuel = f + 1 := ⟨fuel - 1, by omega⟩
    have hin : i = n := by omega
    subst hin
    have hle : nI i ≤ nI i := nI_le (Nat.le_refl _) (by omega)
    refine ⟨?_, ?_⟩
    · rw [n_X0_allLeft_4.eq_2]
      exact ⟨fun c => absurd hle c, fun c => absurd hle c, fun c => absurd hle c⟩
    · rw [f_X0_allLeft_4.eq_2, if_pos hle]
      exact ha.w (Int.le_refl _) (by omega)
  | succ d ih =>
    intro i fuel acc hi hf ha
    obtain ⟨f, rfl⟩ : ∃ f, fuel = f + 1 := ⟨fuel - 1, by omega⟩
    have hlt : ¬ nI n ≤ nI i := nI_ge (by omega) (by omega)
    have h1 : nI i + 1 = nI (i + 1) := nI_1 i
    have hc : (nI i).toNatClampNeg = i := nI_clamp (by omega)
    have ii : vp_in (nI i) 10 := vp_in_nI (by omega) (by decide)
    have hs := ha.add (hl i).vr 0 (480 * (i + 1 : Nat)) (by omega) (by omega) (by decide) (by omega)
    obtain ⟨b2, b4⟩ := ih (i + 1) f (FP.dadd acc (le i)) (by omega) (by omega) hs
    refine ⟨?_, ?_⟩
    · rw [n_X0_allLeft_4.eq_2, hc, h1]
      exact ⟨fun _ => ii, fun _ => hs.n, fun _ => b2⟩
    · rw [f_X0_allLeft_4.eq_2, if_neg hlt, hc, h1]
      exact b4
def tF (p : TP) (T : Nat) : tq → UInt64
  | (ee, tk, lv, si, fo, sa, le, dl, pl, dr, sp) => f_X5_leftWith (nI p.a) (nI p.b) ee tk (nI p.m) p.su lv si (nI p.g) p.sc fo (nI p.n) p.gr sa le (nI p.P) dl pl dr sp (nI p.s) (nI T)
def tFN (p : TP) (T : Nat) : tq → Prop
  | (ee, tk, lv, si, fo, sa, le, dl, pl, dr, sp) => n_X5_leftWith (nI p.a) (nI p.b) ee tk (nI p.m) p.su lv si (nI p.g) p.sc fo (nI p.n) p.gr sa le (nI p.P) dl pl dr sp (nI p.s) (nI T)
theorem tF_e {p : TP} {T : Nat} {ee tk : Int32} {lv fo : UInt64} {si : UInt32} {sa pl dr sp : Nat → Int32} {le : Nat → UInt64} {dl : Nat → UInt32} : tF p T (ee, tk, lv, si, fo, sa, le, dl, pl, dr, sp) = f_X5_leftWith (nI p.a) (nI p.b) ee tk (nI p.m) p.su lv si (nI p.g) p.sc fo (nI p.n) p.gr sa le (nI p.P) dl pl dr sp (nI p.s) (nI T) := rfl
theorem tFN_e {p : TP} {T : Nat} {ee tk : Int32} {lv fo : UInt64} {si : UInt32} {sa pl dr sp : Nat → Int32} {le : Nat → UInt64} {dl : Nat → UInt32} : tFN p T (ee, tk, lv, si, fo, sa, le, dl, pl, dr, sp) = n_X5_leftWith (nI p.a) (nI p.b) ee tk (nI p.m) p.su lv si (nI p.g) p.sc fo (nI p.n) p.gr sa le (nI p.P) dl pl dr sp (nI p.s) (nI T) := rfl
theorem tI_lr {p : TP} {t : Nat} : ∀ {q : tq}, tI p t q → ∀ k, lr (tle q k) := by
  rintro ⟨ee, tk, lv, si, fo, sa, le, dl, pl, dr, sp⟩ h
  exact h.2.2.2.2.2.1
theorem tF_ok {p : TP} (hp : p.ok) (hsc : tm_bool p.sc) {T : Nat} (hT : T ≤ 100) {t : Nat} (ht : t + T < 6900) : ∀ {q : tq}, tI p t q → tF p T q = f_X0_allLeft (nI p.n) (tle (itG p T q)) ∧ tFN p T q ∧ vr (tF p T q) 0 4800 := by
  rintro ⟨ee, tk, lv, si, fo, sa, le, dl, pl, dr, sp⟩ h
  obtain ⟨a1, a2⟩ := tL_ok hp (by omega : T ≤ 1000) T 0 t 102 _ (by omega) (by omega) ht h
  obtain ⟨i1, -⟩ := itG_ok hp T ht h
  rw [show nI 0 = 0 from nI_0] at a1 a2
  obtain ⟨⟨i24, w1⟩, w2⟩ := wd_24 (fh := nI p.a) (lh := nI p.b) (mo := nI p.m) (su := p.su) (ga := nI p.g) (sc := p.sc) (ln := nI p.n) (gr := p.gr) (pn := nI p.P) (p1 := nI p.s) (p2 := nI T) 102 0 ee tk lv si fo sa le dl pl dr sp
  have a1' : f_X1_letGoBy_2 (nI p.a) (nI p.b) (nI p.m) p.su (nI p.g) (nI p.s) p.sc (nI p.n) p.gr (nI p.P) (nI T) 102 0 ee tk lv si fo sa le dl pl dr sp = itG p T (ee, tk, lv, si, fo, sa, le, dl, pl, dr, sp) := a1
  rw [a1'] at w1
  generalize itG p T (ee, tk, lv, si, fo, sa, le, dl, pl, dr, sp) = r at *
  obtain ⟨ee1, tk1, lv1, si1, fo1, sa1, le1, dl1, pl1, dr1, sp1⟩ := r
  have hn : p.n ≤ 10 := hp.2.2.2.2.2.2.1
  obtain ⟨b1, b2⟩ := al_sum (n := p.n) (le := le1) hn (tI_lr i1) p.n 0 12 FP.dconst0 (by omega) (by omega) (vc_0.w (by decide) (by decide))
  rw [show nI 0 = 0 from nI_0] at b1 b2
  have hl : tF p T (ee, tk, lv, si, fo, sa, le, dl, pl, dr, sp) = f_X0_allLeft (nI p.n) le1 := by
    rw [tF_e]
    unfold f_X5_leftWith
    rw [w1]
  refine ⟨hl, ?_, ?_⟩
  · rw [tFN_e]
    unfold n_X5_leftWith
    refine ⟨hsc, w2 a2, ?_⟩
    intro v0 v1 v2 v3 v4 v5 v6 v7 v8 v9 v10 v11 e
    rw [w1] at e
    cases e
    exact b1
  · rw [hl]
    exact b2
/-- what is left by the sluice k -/
def tK (p : TP) (T : Nat) (q : tq) (k : Nat) : UInt64 := tF (p.ws k) T q
theorem TP.ok.sl {p : TP} (hp : p.ok) {k : Nat} (hk : k ≤ 4) : TP.ok (p.ws k) := ⟨hp.1, hp.2.1, hp.2.2.1, hk, hp.2.2.2.2⟩
def tS (p : TP) (T fuel : Nat) (b : Int32) (x : UInt64) (k : Int32) : tq → Int32
  | (ee, tk, lv, si, fo, sa, le, dl, pl, dr, sp) => f_X5_bestSluice_12 (nI p.a) (nI p.b) ee tk (nI p.m) p.su lv si (nI p.g) p.sc fo (nI p.n) p.gr sa le (nI p.P) dl pl dr sp (nI T) fuel b x k
def tSN (p : TP) (T fuel : Nat) (b : Int32) (x : UInt64) (k : Int32) : tq → Prop
  | (ee, tk, lv, si, fo, sa, le, dl, pl, dr, sp) => n_X5_bestSluice_12 (nI p.a) (nI p.b) ee tk (nI p.m) p.su lv si (nI p.g) p.sc fo (nI p.n) p.gr sa le (nI p.P) dl pl dr sp (nI T) fuel b x k
theorem tS_e {p : TP} {T fuel : Nat} {b : Int32} {x : UInt64} {k : Int32} {ee tk : Int32} {lv fo : UInt64} {si : UInt32} {sa pl dr sp : Nat → Int32} {le : Nat → UInt64} {dl : Nat → UInt32} : tS p T fuel b x k (ee, tk, lv, si, fo, sa, le, dl, pl, dr, sp) = f_X5_bestSluice_12 (nI p.a) (nI p.b) ee tk (nI p.m) p.su lv si (nI p.g) p.sc fo (nI p.n) p.gr sa le (nI p.P) dl pl dr sp (nI T) fuel b x k := rfl
theorem tSN_e {p : TP} {T fuel : Nat} {b : Int32} {x : UInt64} {k : Int32} {ee tk : Int32} {lv fo : UInt64} {si : UInt32} {sa pl dr sp : Nat → Int32} {le : Nat → UInt64} {dl : Nat → UInt32} : tSN p T fuel b x k (ee, tk, lv, si, fo, sa, le, dl, pl, dr, sp) = n_X5_bestSluice_12 (nI p.a) (nI p.b) ee tk (nI p.m) p.su lv si (nI p.g) p.sc fo (nI p.n) p.gr sa le (nI p.P) dl pl dr sp (nI T) fuel b x k := rfl
theorem tS_ok {p : TP} (hp : p.ok) (hsc : tm_bool p.sc) {T : Nat} (hT : T ≤ 100) {t : Nat} (ht : t + T < 6900) {q : tq} (h : tI p t q) : ∀ (d k b fuel : Nat), k + d = 5 → d < fuel → b < k → (∀ j, j < k → zd (tK p T q b) ≤ zd (tK p T q j)) → (∀ j, j < b → zd (tK p T q b) < zd (tK p T q j)) →
    ∃ c, c ≤ 4 ∧ tS p T fuel (nI b) (tK p T q b) (nI k) q = nI c ∧ (∀ j, j ≤ 4 → zd (tK p T q c) ≤ zd (tK p T q j)) ∧ (∀ j, j < c → zd (tK p T q c) < zd (tK p T q j)) ∧ tSN p T fuel (nI b) (tK p T q b) (nI k) q := by
  have W : ∀ k, k ≤ 4 → tFN (p.ws k) T q ∧ vr (tK p T q k) 0 4800 := fun k hk => (tF_ok (p := p.ws k) (hp.sl hk) hsc hT ht h).2
  obtain ⟨ee, tk, lv, si, fo, sa, le, dl, pl, dr, sp⟩ := q
  intro d
  induction d with
  | zero =>
    intro k b fuel hk hf hb h1 h2
    obtain ⟨f, rfl⟩ : ∃ f, fuel = f + 1 := ⟨fuel - 1, by omega⟩
    have hk5 : k = 5 := by omega
    subst hk5
    have hle : (4 : Int32) < nI 5 := by decide
    refine ⟨b, by omega, ?_, fun j hj => h1 j (by omega), h2, ?_⟩
    · rw [tS_e, f_X5_bestSluice_12.eq_2, if_pos hle]
    · rw [tSN_e, n_X5_bestSluice_12.eq_2]
      exact ⟨fun c => absurd hle c, fun c => absurd hle c, fun c => absurd hle c⟩
  | succ d ih =>
    intro k b fuel hk hf hb h1 h2
    obtain ⟨f, rfl⟩ : ∃ f, fuel = f + 1 := ⟨fuel - 1, by omega⟩
    have hlt : ¬ (4 : Int32) < nI k := nI_nlt (a := 4) (by omega) (by omega)
    have hs : nI k + 1 = nI (k + 1) := nI_1 k
    obtain ⟨k1, k2⟩ := W k (by omega)
    obtain ⟨-, l2⟩ := W b (by omega)
    have hL : f_X5_leftWith (nI p.a) (nI p.b) ee tk (nI p.m) p.su lv si (nI p.g) p.sc fo (nI p.n) p.gr sa le (nI p.P) dl pl dr sp (nI k) (nI T) = tK p T (ee, tk, lv, si, fo, sa, le, dl, pl, dr, sp) k := rfl
    have k1' : n_X5_leftWith (nI p.a) (nI p.b) ee tk (nI p.m) p.su lv si (nI p.g) p.sc fo (nI p.n) p.gr sa le (nI p.P) dl pl dr sp (nI k) (nI T) := k1
    by_cases c : 0 ≤ (Op.cmpValue (FP.dcmp (tK p T (ee, tk, lv, si, fo, sa, le, dl, pl, dr, sp) k) (tK p T (ee, tk, lv, si, fo, sa, le, dl, pl, dr, sp) b)) .g)
    · have c' := (fl_ge0 k2.ok l2.ok _).mp c
      obtain ⟨x, x1, x2, x3, x4, x5⟩ := ih (k + 1) b f (by omega) (by omega) (by omega) (fun j hj => by
        by_cases e : j = k
        · subst e; exact c'
        · exact h1 j (by omega)) h2
      refine ⟨x, x1, ?_, x3, x4, ?_⟩
      · rw [tS_e, f_X5_bestSluice_12.eq_2, if_neg hlt, hL, if_pos c, hs]
        exact x2
      · rw [tSN_e, n_X5_bestSluice_12.eq_2, hL, hs]
        exact ⟨fun _ => k1', fun _ _ => x5, fun _ c9 => absurd c c9⟩
    · have c' : ¬ zd (tK p T (ee, tk, lv, si, fo, sa, le, dl, pl, dr, sp) b) ≤ zd (tK p T (ee, tk, lv, si, fo, sa, le, dl, pl, dr, sp) k) := fun h9 => c ((fl_ge0 k2.ok l2.ok _).mpr h9)
      obtain ⟨x, x1, x2, x3, x4, x5⟩ := ih (k + 1) k f (by omega) (by omega) (by omega) (fun j hj => by
        by_cases e : j = k
        · subst e; exact Int.le_refl _
        · have := h1 j (by omega); omega) (fun j hj => by
        have := h1 j hj; omega)
      refine ⟨x, x1, ?_, x3, x4, ?_⟩
      · rw [tS_e, f_X5_bestSluice_12.eq_2, if_neg hlt, hL, if_neg c, hs]
        exact x2
      · rw [tSN_e, n_X5_bestSluice_12.eq_2, hL, hs]
        exact ⟨fun _ => k1', fun _ c9 => absurd c9 c, fun _ _ => x5⟩
def tB (p : TP) (T : Nat) : tq → Int32
  | (ee, tk, lv, si, fo, sa, le, dl, pl, dr, sp) => f_X5_bestSluice (nI p.a) (nI p.b) ee tk (nI p.m) p.su lv si (nI p.g) p.sc fo (nI p.n) p.gr sa le (nI p.P) dl pl dr sp (nI T)
def tBN (p : TP) (T : Nat) : tq → Prop
  | (ee, tk, lv, si, fo, sa, le, dl, pl, dr, sp) => n_X5_bestSluice (nI p.a) (nI p.b) ee tk (nI p.m) p.su lv si (nI p.g) p.sc fo (nI p.n) p.gr sa le (nI p.P) dl pl dr sp (nI T)
theorem tB_e {p : TP} {T : Nat} {ee tk : Int32} {lv fo : UInt64} {si : UInt32} {sa pl dr sp : Nat → Int32} {le : Nat → UInt64} {dl : Nat → UInt32} : tB p T (ee, tk, lv, si, fo, sa, le, dl, pl, dr, sp) = f_X5_bestSluice (nI p.a) (nI p.b) ee tk (nI p.m) p.su lv si (nI p.g) p.sc fo (nI p.n) p.gr sa le (nI p.P) dl pl dr sp (nI T) := rfl
theorem tBN_e {p : TP} {T : Nat} {ee tk : Int32} {lv fo : UInt64} {si : UInt32} {sa pl dr sp : Nat → Int32} {le : Nat → UInt64} {dl : Nat → UInt32} : tBN p T (ee, tk, lv, si, fo, sa, le, dl, pl, dr, sp) = n_X5_bestSluice (nI p.a) (nI p.b) ee tk (nI p.m) p.su lv si (nI p.g) p.sc fo (nI p.n) p.gr sa le (nI p.P) dl pl dr sp (nI T) := rfl
theorem tB_ok {p : TP} (hp : p.ok) (hsc : tm_bool p.sc) {T : Nat} (hT : T ≤ 100) {t : Nat} (ht : t + T < 6900) {q : tq} (h : tI p t q) :
    ∃ c, c ≤ 4 ∧ tB p T q = nI c ∧ (∀ j, j ≤ 4 → zd (tK p T q c) ≤ zd (tK p T q j)) ∧ (∀ j, j < c → zd (tK p T q c) < zd (tK p T q j)) ∧ tBN p T q := by
  obtain ⟨c, c1, c2, c3, c4, c5⟩ := tS_ok hp hsc hT ht h 4 1 0 6 (by omega) (by omega) (by omega) (fun j hj => by
    have : j = 0 := by omega
    subst this
    exact Int.le_refl _) (fun j hj => absurd hj (Nat.not_lt_zero j))
  have W := (tF_ok (p := p.ws 0) (hp.sl (by omega)) hsc hT ht h).2.1
  obtain ⟨ee, tk, lv, si, fo, sa, le, dl, pl, dr, sp⟩ := q
  refine ⟨c, c1, c2, c3, c4, ?_⟩
  rw [tBN_e]
  unfold n_X5_bestSluice
  exact ⟨W, c5⟩
/-- ticks let go by at the start are ticks let go by after others -/
def tU (p : TP) (j : Nat) : tq → Int32
  | (ee, tk, lv, si, fo, sa, le, dl, pl, dr, sp) => f_X5_ticksToDone (nI p.a) (nI p.b) ee tk (nI p.m) p.su lv si (nI p.g) (nI p.s) p.sc fo (nI p.n) p.gr sa le (nI p.P) dl pl dr sp (nI j)
def tUN (p : TP) (j : Nat) : tq → Prop
  | (ee, tk, lv, si, fo, sa, le, dl, pl, dr, sp) => n_X5_ticksToDone (nI p.a) (nI p.b) ee tk (nI p.m) p.su lv si (nI p.g) (nI p.s) p.sc fo (nI p.n) p.gr sa le (nI p.P) dl pl dr sp (nI j)
theorem tU_e {p : TP} {j : Nat} {ee tk : Int32} {lv fo : UInt64} {si : UInt32} {sa pl dr sp : Nat → Int32} {le : Nat → UInt64} {dl : Nat → UInt32} : tU p j (ee, tk, lv, si, fo, sa, le, dl, pl, dr, sp) = f_X5_ticksToDone (nI p.a) (nI p.b) ee tk (nI p.m) p.su lv si (nI p.g) (nI p.s) p.sc fo (nI p.n) p.gr sa le (nI p.P) dl pl dr sp (nI j) := rfl
theorem tUN_e {p : TP} {j : Nat} {ee tk : Int32} {lv fo : UInt64} {si : UInt32} {sa pl dr sp : Nat → Int32} {le : Nat → UInt64} {dl : Nat → UInt32} : tUN p j (ee, tk, lv, si, fo, sa, le, dl, pl, dr, sp) = n_X5_ticksToDone (nI p.a) (nI p.b) ee tk (nI p.m) p.su lv si (nI p.g) (nI p.s) p.sc fo (nI p.n) p.gr sa le (nI p.P) dl pl dr sp (nI j) := rfl
theorem tI_sa {p : TP} {t : Nat} : ∀ {q : tq}, tI p t q → ∀ k, k < p.n → (tsa q k = 0 ∨ tsa q k = 1) ∧ 0 < zd (tle q k) ∨ (tsa q k = 2 ∨ tsa q k = 3) ∧ zd (tle q k) = 0 := by
  rintro ⟨ee, tk, lv, si, fo, sa, le, dl, pl, dr, sp⟩ h
  exact h.2.2.2.2.2.2.2.2.1
theorem tU_ok {p : TP} (hp : p.ok) (hsc : tm_bool p.sc) {j : Nat} (hj : j < p.n) {t : Nat} (ht : t + 300 < 6900) {q : tq} (h : tI p t q) :
    tUN p j q ∧ (tsa q j = 2 → tU p j q = 0) ∧ (tsa q j = 3 → tU p j q = 0) ∧ (tsa q j = 0 → tU p j q = -1) ∧ (tsa q j = 1 → tU p j q = -1 ∨ ∃ k, k < 300 ∧ tU p j q = nI (k + 1) ∧ tsa (itG p k q) j = 1 ∧ tsa (itG p (k + 1) q) j = 2) := by
  have hn : p.n ≤ 10 := hp.2.2.2.2.2.2.1
  have hj10 : j < 10 := by omega
  have hcj : (nI j).toNatClampNeg = j := nI_clamp (by omega)
  have hs := tI_sa h j hj
  have D := fun h1 => tD_ok hp hj10 300 1 t 302 q (by omega) (by omega) (by omega) h h1
  obtain ⟨ee, tk, lv, si, fo, sa, le, dl, pl, dr, sp⟩ := q
  have hs' : (sa j = 0 ∨ sa j = 1) ∧ 0 < zd (le j) ∨ (sa j = 2 ∨ sa j = 3) ∧ zd (le j) = 0 := hs
  refine ⟨?_, ?_, ?_, ?_, ?_⟩
  · rw [tUN_e]
    unfold n_X5_ticksToDone
    rw [hcj]
    refine ⟨vp_in_nI hj10 (by decide), fun _ _ _ => hsc, fun c2 c3 c0 => ?_⟩
    have c1 : sa j = 1 := by
      rcases hs' with ⟨q1 | q1, -⟩ | ⟨q1 | q1, -⟩
      · exact absurd q1 c0
      · exact q1
      · exact absurd q1 c2
      · exact absurd q1 c3
    exact (D c1).2
  all_goals
    intro h1
    have h1' : sa j = _ := h1
    rw [tU_e]
    unfold f_X5_ticksToDone
    rw [hcj, h1']
  · rw [if_pos rfl]
  · rw [if_neg (by decide), if_pos rfl]
  · rw [if_neg (by decide), if_neg (by decide), if_pos rfl]
  · rw [if_neg (by decide), if_neg (by decide), if_neg (by decide)]
    rcases (D h1).1 with b | ⟨k, hk, b1, b2, b3⟩
    · exact Or.inl b
    · exact Or.inr ⟨k, hk, by rw [Nat.add_comm k 1]; exact b1, b2, b3⟩
