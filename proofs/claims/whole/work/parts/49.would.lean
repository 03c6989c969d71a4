/-! what would be -/
section
variable {fh lh sc : Int32} {n P m g s T : Nat} {su : UInt64} {gr : Nat → Int32} {rc : Nat → Nat → Int32}
theorem wd_done {j : Nat} (hm : m < 30) (hsu : vr su (-16) 16) (hgg : g ≤ 3) (hw : s ≤ 4) (hn : n ≤ 10) (hP : P ≤ 3) (hg : ∀ k, k < n → rc k 1 = gr k) (hj : j < 10) :
    ∀ (d i t fuel fuel2 : Nat) (ee ee2 : Int32) (lv fo fo2 : UInt64) (si : UInt32) (dl : Nat → UInt32) (pl dr sp sp2 sa dn : Nat → Int32) (le : Nat → UInt64), i + d = 301 → d < fuel → d < fuel2 → t + d < 6900 → ms n P lv si fo dl pl le sa dn → sa j = 1 →
      f_X5_ticksToDone_44 fh lh (nI m) su (nI g) (nI s) sc (nI n) gr (nI P) (nI j) fuel (nI i) ee (nI t) lv si fo sa le dl pl dr sp = f_X7_doneNow_51 (nI m) su (nI g) (nI s) sc fh lh (nI P) (nI j) rc fuel2 (nI i) (nI t) lv si fo2 ee2 dl pl dr sp2 le dn ∧
      n_X5_ticksToDone_44 fh lh (nI m) su (nI g) (nI s) sc (nI n) gr (nI P) (nI j) fuel (nI i) ee (nI t) lv si fo sa le dl pl dr sp ∧
      n_X7_doneNow_51 (nI m) su (nI g) (nI s) sc fh lh (nI P) (nI j) n rc fuel2 (nI i) (nI t) lv si fo2 ee2 dl pl dr sp2 le dn := by
  intro d
  have hcj : (nI j).toNatClampNeg = j := nI_clamp (by omega)
  have ij : vp_in (nI j) 10 := vp_in_nI hj (by decide)
  induction d with
  | zero =>
    intro i t fuel fuel2 ee ee2 lv fo fo2 si dl pl dr sp sp2 sa dn le hi hf hf2 ht h hsj
    obtain ⟨f, rfl⟩ : ∃ f, fuel = f + 1 := ⟨fuel - 1, by omega⟩
    obtain ⟨f2, rfl⟩ : ∃ f, fuel2 = f + 1 := ⟨fuel2 - 1, by omega⟩
    have hiT : i = 301 := by omega
    subst hiT
    have hle : (300 : Int32) < nI 301 := by decide
    refine ⟨?_, ?_, ?_⟩
    · rw [f_X5_ticksToDone_44.eq_2, if_pos hle, f_X7_doneNow_51.eq_2, if_pos hle]
    · rw [n_X5_ticksToDone_44.eq_2]
      exact ⟨fun c => absurd hle c, fun c => absurd hle c, fun c => absurd hle c⟩
    · rw [n_X7_doneNow_51.eq_2]
      exact ⟨fun c => absurd hle c, fun c => absurd hle c, fun c => absurd hle c⟩
  | succ d ih =>
    intro i t fuel fuel2 ee ee2 lv fo fo2 si dl pl dr sp sp2 sa dn le hi hf hf2 ht h hsj
    obtain ⟨f, rfl⟩ : ∃ f, fuel = f + 1 := ⟨fuel - 1, by omega⟩
    obtain ⟨f2, rfl⟩ : ∃ f, fuel2 = f + 1 := ⟨fuel2 - 1, by omega⟩
    have hlt : ¬ (300 : Int32) < nI i := nI_nlt (a := 300) (by omega) (by omega)
    have h1 : nI i + 1 = nI (i + 1) := nI_1 i
    obtain ⟨ee1, ee21, lv1, fo1, si1, dl1, pl1, dr1, sp1, sp21, sa1, dn1, le1, a1, a2, a3, a4, a5, a6, a7, a8⟩ := tn_tick (fh := fh) (lh := lh) (sc := sc) (ee := ee) (ee2 := ee2) (dr := dr) (sp := sp) (sp2 := sp2) (rc := rc) hm (by omega : t < 6900) hsu hgg hw hn hP hg h.1 h.2.1 h.2.2.2
    have hs1 : sa1 j = 1 ∧ dn1 j = 0 ∨ sa1 j = 2 ∧ dn1 j = 1 := by
      rcases a5.2.2.2.2.2.2.2 j with ⟨q1, q2⟩ | ⟨q1, q2⟩
      · rcases a6 j with q3 | ⟨q3, q4⟩
        · exact Or.inl ⟨q3.trans hsj, q2⟩
        · rw [q4] at q1
          exact absurd q1 (by decide)
      · rcases a6 j with q3 | ⟨q3, q4⟩
        · rw [q3, hsj] at q1
          exact absurd q1 (by decide)
        · exact Or.inr ⟨q4, q2⟩
    rcases hs1 with ⟨q1, q2⟩ | ⟨q1, q2⟩
    · obtain ⟨b1, b2, b3⟩ := ih (i + 1) (t + 1) f f2 ee1 ee21 lv1 fo1 fo1 si1 dl1 pl1 dr1 sp1 sp21 sa1 dn1 le1 (by omega) (by omega) (by omega) (by omega) a5 q1
      refine ⟨?_, ?_, ?_⟩
      · rw [f_X5_ticksToDone_44.eq_2, if_neg hlt, a1, f_X7_doneNow_51.eq_2, if_neg hlt, a2, h1]
        dsimp only
        rw [hcj, if_neg (by rw [q1]; decide), if_pos q2, b1]
      · rw [n_X5_ticksToDone_44.eq_2]
        refine ⟨fun _ => a3, fun _ => ?_, fun _ => ?_⟩
        · intro u4 u5 u6 u7 u8 u9 u10 u11 u12 u13 u14 e
          exact ij
        · intro u4 u5 u6 u7 u8 u9 u10 u11 u12 u13 u14 e _
          rw [a1] at e
          cases e
          rw [h1]
          exact b2
      · rw [n_X7_doneNow_51.eq_2]
        refine ⟨fun _ => a4, fun _ => ?_, fun _ => ?_⟩
        · intro u4 u5 u6 u7 u8 u9 u10 u11 u12 u13 u14 e
          exact ij
        · intro u4 u5 u6 u7 u8 u9 u10 u11 u12 u13 u14 e _
          rw [a2] at e
          cases e
          rw [h1]
          exact b3
    · refine ⟨?_, ?_, ?_⟩
      · rw [f_X5_ticksToDone_44.eq_2, if_neg hlt, a1, f_X7_doneNow_51.eq_2, if_neg hlt, a2]
        dsimp only
        rw [hcj, if_pos q1, if_neg (by rw [q2]; decide)]
      · rw [n_X5_ticksToDone_44.eq_2]
        refine ⟨fun _ => a3, fun _ => ?_, fun _ => ?_⟩
        · intro u4 u5 u6 u7 u8 u9 u10 u11 u12 u13 u14 e
          exact ij
        · intro u4 u5 u6 u7 u8 u9 u10 u11 u12 u13 u14 e h9
          rw [a1] at e
          cases e
          rw [hcj] at h9
          exact absurd q1 h9
      · rw [n_X7_doneNow_51.eq_2]
        refine ⟨fun _ => a4, fun _ => ?_, fun _ => ?_⟩
        · intro u4 u5 u6 u7 u8 u9 u10 u11 u12 u13 u14 e
          exact ij
        · intro u4 u5 u6 u7 u8 u9 u10 u11 u12 u13 u14 e h9
          rw [a2] at e
          cases e
          rw [hcj, q2] at h9
          exact absurd h9 (by decide)
theorem wd_sum {le : Nat → UInt64} (hn : n ≤ 10) (hl : ∀ k, lr (le k)) :
    ∀ (d i fuel fuel2 : Nat) (acc : UInt64), i + d = n → d < fuel → d < fuel2 → vr acc 0 (480 * i) →
      f_X7_bestNow_55 n le fuel2 acc (nI i) = (f_X0_allLeft_4 (nI n) le fuel acc (nI i), nI n) ∧ n_X0_allLeft_4 (nI n) le fuel acc (nI i) ∧ n_X7_bestNow_55 n le fuel2 acc (nI i) ∧ vr (f_X0_allLeft_4 (nI n) le fuel acc (nI i)) 0 4800 := by
  intro d
  induction d with
  | zero =>
    intro i fuel fuel2 acc hi hf hf2 ha
    obtain ⟨f, rfl⟩ : ∃ f, fuel = f + 1 := ⟨fuel - 1, by omega⟩
    obtain ⟨f2, rfl⟩ : ∃ f, fuel2 = f + 1 := ⟨fuel2 - 1, by omega⟩
    have hin : i = n := by omega
    subst hin
    have hle : nI i ≤ nI i := nI_le (Nat.le_refl _) (by omega)
    have hle2 : f_Jx4a65c_size_8abf5 (nI i) ≤ nI i := hle
    refine ⟨?_, ?_, ?_, ?_⟩
    · rw [f_X7_bestNow_55.eq_2, if_pos hle2, f_X0_allLeft_4.eq_2, if_pos hle]
    · rw [n_X0_allLeft_4.eq_2]
      exact ⟨fun c => absurd hle c, fun c => absurd hle c, fun c => absurd hle c⟩
    · rw [n_X7_bestNow_55.eq_2]
      exact ⟨fun c => absurd hle2 c, fun c => absurd hle2 c, fun c => absurd hle2 c⟩
    · rw [f_X0_allLeft_4.eq_2, if_pos hle]
      exact ha.w (Int.le_refl _) (by omega)
  | succ d ih =>
    intro i fuel fuel2 acc hi hf hf2 ha
    obtain ⟨f, rfl⟩ : ∃ f, fuel = f + 1 := ⟨fuel - 1, by omega⟩
    obtain ⟨f2, rfl⟩ : ∃ f, fuel2 = f + 1 := ⟨fuel2 - 1, by omega⟩
    have hlt : ¬ nI n ≤ nI i := nI_ge (by omega) (by omega)
    have hlt2 : ¬ f_Jx4a65c_size_8abf5 (nI n) ≤ nI i := hlt
    have h1 : nI i + 1 = nI (i + 1) := nI_1 i
    have hc : (nI i).toNatClampNeg = i := nI_clamp (by omega)
    have ii : vp_in (nI i) 10 := vp_in_nI (by omega) (by decide)
    have hs := ha.add (hl i).vr 0 (480 * (i + 1 : Nat)) (by omega) (by omega) (by decide) (by omega)
    obtain ⟨b1, b2, b3, b4⟩ := ih (i + 1) f f2 (FP.dadd acc (le i)) (by omega) (by omega) (by omega) hs
    refine ⟨?_, ?_, ?_, ?_⟩
    · rw [f_X7_bestNow_55.eq_2, if_neg hlt2, f_X0_allLeft_4.eq_2, if_neg hlt, hc, h1, b1]
    · rw [n_X0_allLeft_4.eq_2, hc, h1]
      exact ⟨fun _ => ii, fun _ => hs.n, fun _ => b2⟩
    · rw [n_X7_bestNow_55.eq_2, hc, h1]
      exact ⟨fun _ => ii, fun _ => hs.n, fun _ => b3⟩
    · rw [f_X0_allLeft_4.eq_2, if_neg hlt, hc, h1]
      exact b4
/-- ticks gone by within the trial are ticks let go by -/
theorem wd_24 {fh lh mo : Int32} {su : UInt64} {ga sc ln : Int32} {gr : Nat → Int32} {pn p1 p2 : Int32} : ∀ (fuel : Nat) (x0 x1 x2 : Int32) (x3 : UInt64) (x4 : UInt32) (x5 : UInt64) (x6 : Nat → Int32) (x7 : Nat → UInt64) (x8 : Nat → UInt32) (x9 x10 x11 : Nat → Int32),
    (∃ i : Int32, f_X5_leftWith_24 fh lh mo su ga sc ln gr pn p1 p2 fuel x0 x1 x2 x3 x4 x5 x6 x7 x8 x9 x10 x11 = (i, f_X1_letGoBy_2 fh lh mo su ga p1 sc ln gr pn p2 fuel x0 x1 x2 x3 x4 x5 x6 x7 x8 x9 x10 x11)) ∧ (n_X1_letGoBy_2 fh lh mo su ga p1 sc ln gr pn p2 fuel x0 x1 x2 x3 x4 x5 x6 x7 x8 x9 x10 x11 → n_X5_leftWith_24 fh lh mo su ga sc ln gr pn p1 p2 fuel x0 x1 x2 x3 x4 x5 x6 x7 x8 x9 x10 x11) := by
  intro fuel
  induction fuel with
  | zero =>
    intro x0 x1 x2 x3 x4 x5 x6 x7 x8 x9 x10 x11
    refine ⟨⟨x0, ?_⟩, fun h => ?_⟩
    · rw [f_X5_leftWith_24.eq_1, f_X1_letGoBy_2.eq_1]
    · rw [n_X1_letGoBy_2.eq_1] at h
      exact h.elim
  | succ fuel ih =>
    intro x0 x1 x2 x3 x4 x5 x6 x7 x8 x9 x10 x11
    by_cases c : p2 ≤ x0
    · refine ⟨⟨x0, ?_⟩, fun _ => ?_⟩
      · rw [f_X5_leftWith_24.eq_2, if_pos c, f_X1_letGoBy_2.eq_2, if_pos c]
      · rw [n_X5_leftWith_24.eq_2]
        exact ⟨fun d => absurd c d, fun d => absurd c d⟩
    · rcases hg : f_X1_goBy fh lh x1 x2 mo su x3 x4 ga p1 sc ln gr x6 x7 pn x8 x9 x10 x11 with ⟨u0, u1, u2, u3, u4, u5, u6, u7, u8, u9, u10⟩
      obtain ⟨⟨i, h1⟩, -⟩ := ih (x0 + 1) u0 u1 u2 u3 u4 u5 u6 u7 u8 u9 u10
      refine ⟨⟨i, ?_⟩, fun h => ?_⟩
      · rw [f_X5_leftWith_24.eq_2, if_neg c, f_X1_letGoBy_2.eq_2, if_neg c, hg]
        exact h1
      · rw [n_X1_letGoBy_2.eq_2] at h
        rw [n_X5_leftWith_24.eq_2]
        refine ⟨h.1, ?_⟩
        intro d v0 v1 v2 v3 v4 v5 v6 v7 v8 v9 v10 e
        exact (ih (x0 + 1) v0 v1 v2 v3 v4 v5 v6 v7 v8 v9 v10).2 (h.2 d v0 v1 v2 v3 v4 v5 v6 v7 v8 v9 v10 e)
/-- what a sluice leaves, both sides -/
theorem wd_left {t : Nat} {ee : Int32} {lv fo : UInt64} {si : UInt32} {dl : Nat → UInt32} {pl dr sp sa dn : Nat → Int32} {le : Nat → UInt64} (hm : m < 30) (hsu : vr su (-16) 16) (hgg : g ≤ 3) (hn : n ≤ 10) (hP : P ≤ 3) (hT : T ≤ 48) (hg : ∀ k, k < n → rc k 1 = gr k) (ht : t ≤ 5000) (hsc : tm_bool sc) (h : ms n P lv si fo dl pl le sa dn) {k : Nat} (hw : k ≤ 4) :
    ∃ (i' tk' ee' : Int32) (lv' fo' : UInt64) (si' : UInt32) (dl' : Nat → UInt32) (pl' dr' sp' dn' : Nat → Int32) (le' : Nat → UInt64),
      f_X7_bestNow_32 (nI m) su (nI g) sc fh lh (nI P) (nI T) rc (nI k) 50 0 dn (nI t) lv si 0 0 dl pl dr (fun _ => (0 : Int32)) le = (i', dn', tk', lv', si', fo', ee', dl', pl', dr', sp', le') ∧
      f_X7_bestNow_55 n le' 12 FP.dconst0 0 = (f_X5_leftWith fh lh ee (nI t) (nI m) su lv si (nI g) sc fo (nI n) gr sa le (nI P) dl pl dr sp (nI k) (nI T), nI n) ∧
      n_X5_leftWith fh lh ee (nI t) (nI m) su lv si (nI g) sc fo (nI n) gr sa le (nI P) dl pl dr sp (nI k) (nI T) ∧
      n_X7_bestNow_32 (nI m) su (nI g) sc fh lh (nI P) (nI T) n rc (nI k) 50 0 dn (nI t) lv si 0 0 dl pl dr (fun _ => (0 : Int32)) le ∧
      n_X7_bestNow_55 n le' 12 FP.dconst0 0 ∧
      vr (f_X5_leftWith fh lh ee (nI t) (nI m) su lv si (nI g) sc fo (nI n) gr sa le (nI P) dl pl dr sp (nI k) (nI T)) 0 4800 := by
  obtain ⟨ee1, ee21, lv1, fo1, fo21, si1, dl1, pl1, dr1, sp1, sp21, sa1, dn1, le1, a1, a2, a3, a4, a5, a6, -, -, -⟩ := mt_bestNow_32 (fh := fh) (lh := lh) (sc := sc) (T := T) (gr := gr) (rc := rc) (s := k) hm hsu hgg hw hn hP (by omega) hg T 0 t 102 50 ee 0 lv fo 0 si dl pl dr sp (fun _ => (0 : Int32)) sa dn le (by omega) (by omega) (by omega) (by omega) h
  have z0 : nI 0 = 0 := nI_0
  rw [z0] at a1 a2 a3 a4
  obtain ⟨b1, b2, b3, b4⟩ := wd_sum (n := n) (le := le1) hn a5.2.2.2.2.1 n 0 12 12 FP.dconst0 (by omega) (by omega) (by omega) (vc_0.w (by decide) (by decide))
  rw [z0] at b1 b2 b3 b4
  obtain ⟨⟨i24, w1⟩, w2⟩ := wd_24 (fh := fh) (lh := lh) (mo := nI m) (su := su) (ga := nI g) (sc := sc) (ln := nI n) (gr := gr) (pn := nI P) (p1 := nI k) (p2 := nI T) 102 0 ee (nI t) lv si fo sa le dl pl dr sp
  rw [a1] at w1
  have hl : f_X5_leftWith fh lh ee (nI t) (nI m) su lv si (nI g) sc fo (nI n) gr sa le (nI P) dl pl dr sp (nI k) (nI T) = f_X0_allLeft_4 (nI n) le1 12 FP.dconst0 0 := by
    unfold f_X5_leftWith
    rw [w1]
    rfl
  refine ⟨_, _, _, _, _, _, _, _, _, _, _, le1, a2, ?_, ?_, a4, b3, ?_⟩
  · rw [hl]; exact b1
  · unfold n_X5_leftWith
    refine ⟨hsc, w2 a3, ?_⟩
    intro v0 v1 v2 v3 v4 v5 v6 v7 v8 v9 v10 v11 e
    rw [w1] at e
    cases e
    exact b2
  · rw [hl]; exact b4
theorem wd_best {t : Nat} {ee : Int32} {lv fo : UInt64} {si : UInt32} {dl : Nat → UInt32} {pl dr sp sa dn : Nat → Int32} {le : Nat → UInt64} (hm : m < 30) (hsu : vr su (-16) 16) (hgg : g ≤ 3) (hn : n ≤ 10) (hP : P ≤ 3) (hT : T ≤ 48) (hg : ∀ k, k < n → rc k 1 = gr k) (ht : t ≤ 5000) (hsc : tm_bool sc) (hdn : ∀ j : Nat, tm_bool (dn j)) (h : ms n P lv si fo dl pl le sa dn) :
    ∀ (d k fuel fuel2 : Nat) (b : Int32) (least : UInt64), k + d = 5 → 1 ≤ k → d < fuel → d < fuel2 → vr least 0 4800 →
      f_X5_bestSluice_12 fh lh ee (nI t) (nI m) su lv si (nI g) sc fo (nI n) gr sa le (nI P) dl pl dr sp (nI T) fuel b least (nI k) = f_X7_bestNow_7 (nI t) (nI m) su lv si (nI g) sc fh lh (nI P) dl pl dr le dn (nI T) n rc fuel2 b least (nI k) ∧
      n_X5_bestSluice_12 fh lh ee (nI t) (nI m) su lv si (nI g) sc fo (nI n) gr sa le (nI P) dl pl dr sp (nI T) fuel b least (nI k) ∧
      n_X7_bestNow_7 (nI t) (nI m) su lv si (nI g) sc fh lh (nI P) dl pl dr le dn (nI T) n rc fuel2 b least (nI k) := by
  intro d
  induction d with
  | zero =>
    intro k fuel fuel2 b least hk h1 hf hf2 hv
    obtain ⟨f, rfl⟩ : ∃ f, fuel = f + 1 := ⟨fuel - 1, by omega⟩
    obtain ⟨f2, rfl⟩ : ∃ f, fuel2 = f + 1 := ⟨fuel2 - 1, by omega⟩
    have hk5 : k = 5 := by omega
    subst hk5
    have hle : (4 : Int32) < nI 5 := by decide
    refine ⟨?_, ?_, ?_⟩
    · rw [f_X5_bestSluice_12.eq_2, if_pos hle, f_X7_bestNow_7.eq_2, if_pos hle]
    · rw [n_X5_bestSluice_12.eq_2]
      exact ⟨fun c => absurd hle c, fun c => absurd hle c, fun c => absurd hle c⟩
    · rw [n_X7_bestNow_7.eq_2]
      exact ⟨fun c => absurd hle c, fun c => absurd hle c, fun c => absurd hle c, fun c => absurd hle c, fun c => absurd hle c, fun c => absurd hle c⟩
  | succ d ih =>
    intro k fuel fuel2 b least hk h1 hf hf2 hv
    obtain ⟨f, rfl⟩ : ∃ f, fuel = f + 1 := ⟨fuel - 1, by omega⟩
    obtain ⟨f2, rfl⟩ : ∃ f, fuel2 = f + 1 := ⟨fuel2 - 1, by omega⟩
    have hlt : ¬ (4 : Int32) < nI k := nI_nlt (a := 4) (by omega) (by omega)
    have hk0 : ¬ nI k ≤ 0 := nI_nle (by omega) (by omega)
    have hs : nI k + 1 = nI (k + 1) := nI_1 k
    obtain ⟨i', tk', ee', lv', fo', si', dl', pl', dr', sp', dn', le', a1, a2, a3, a4, a5, a6⟩ := wd_left (fh := fh) (lh := lh) (ee := ee) (dr := dr) (sp := sp) (gr := gr) (rc := rc) hm hsu hgg hn hP hT hg ht hsc h (k := k) (by omega)
    generalize hL : f_X5_leftWith fh lh ee (nI t) (nI m) su lv si (nI g) sc fo (nI n) gr sa le (nI P) dl pl dr sp (nI k) (nI T) = L at *
    by_cases c : 0 ≤ (Op.cmpValue (FP.dcmp L least) .g)
    · have c' := (fl_ge0 a6.ok hv.ok _).mp c
      have c2 : ¬ (Op.cmpValue (FP.dcmp L least) .l) < 0 := fun h9 => by
        have := (fl_lt0 a6.ok hv.ok _).mp h9
        omega
      obtain ⟨b1, b2, b3⟩ := ih (k + 1) f f2 b least (by omega) (by omega) (by omega) (by omega) hv
      refine ⟨?_, ?_, ?_⟩
      · rw [f_X5_bestSluice_12.eq_2, if_neg hlt, hL, if_pos c, f_X7_bestNow_7.eq_2, if_neg hlt, a1]
        dsimp only
        rw [a2]
        dsimp only
        rw [if_neg hk0, if_neg c2, hs, b1]
      · rw [n_X5_bestSluice_12.eq_2, hL]
        refine ⟨fun _ => a3, fun _ _ => ?_, fun _ c9 => absurd c c9⟩
        rw [hs]; exact b2
      · rw [n_X7_bestNow_7.eq_2]
        refine ⟨fun _ => ⟨hsc, hdn⟩, fun _ => a4, fun _ => ?_, fun _ => ?_, fun _ => ?_, fun _ => ?_⟩
        · intro u1 u2 u3 u4 u5 u6 u7 u8 u9 u10 u11 u12 e
          rw [a1] at e
          cases e
          exact a5
        · intro u1 u2 u3 u4 u5 u6 u7 u8 u9 u10 u11 u12 e v1 v2 e2 c9
          exact absurd c9 hk0
        · intro u1 u2 u3 u4 u5 u6 u7 u8 u9 u10 u11 u12 e v1 v2 e2 _ c9
          rw [a1] at e
          cases e
          rw [a2] at e2
          cases e2
          exact absurd c9 c2
        · intro u1 u2 u3 u4 u5 u6 u7 u8 u9 u10 u11 u12 e v1 v2 e2 _ c9
          rw [hs]; exact b3
    · have c' : ¬ zd least ≤ zd L := fun h9 => c ((fl_ge0 a6.ok hv.ok _).mpr h9)
      have c2 : (Op.cmpValue (FP.dcmp L least) .l) < 0 := (fl_lt0 a6.ok hv.ok _).mpr (by omega)
      obtain ⟨b1, b2, b3⟩ := ih (k + 1) f f2 (nI k) L (by omega) (by omega) (by omega) (by omega) a6
      refine ⟨?_, ?_, ?_⟩
      · rw [f_X5_bestSluice_12.eq_2, if_neg hlt, hL, if_neg c, f_X7_bestNow_7.eq_2, if_neg hlt, a1]
        dsimp only
        rw [a2]
        dsimp only
        rw [if_neg hk0, if_pos c2, hs, b1]
      · rw [n_X5_bestSluice_12.eq_2, hL]
        refine ⟨fun _ => a3, fun _ c9 => absurd c9 c, fun _ _ => ?_⟩
        rw [hs]; exact b2
      · rw [n_X7_bestNow_7.eq_2]
        refine ⟨fun _ => ⟨hsc, hdn⟩, fun _ => a4, fun _ => ?_, fun _ => ?_, fun _ => ?_, fun _ => ?_⟩
        · intro u1 u2 u3 u4 u5 u6 u7 u8 u9 u10 u11 u12 e
          rw [a1] at e
          cases e
          exact a5
        · intro u1 u2 u3 u4 u5 u6 u7 u8 u9 u10 u11 u12 e v1 v2 e2 c9
          exact absurd c9 hk0
        · intro u1 u2 u3 u4 u5 u6 u7 u8 u9 u10 u11 u12 e v1 v2 e2 _ c9
          rw [a1] at e
          cases e
          rw [a2] at e2
          cases e2
          rw [hs]; exact b3
        · intro u1 u2 u3 u4 u5 u6 u7 u8 u9 u10 u11 u12 e v1 v2 e2 _ c9
          rw [a1] at e
          cases e
          rw [a2] at e2
          cases e2
          exact absurd c2 c9
theorem wd_bestE {t : Nat} {ee : Int32} {lv fo : UInt64} {si : UInt32} {dl : Nat → UInt32} {pl dr sp sa dn : Nat → Int32} {le : Nat → UInt64} (hm : m < 30) (hsu : vr su (-16) 16) (hgg : g ≤ 3) (hn : n ≤ 10) (hP : P ≤ 3) (hT : T ≤ 48) (hg : ∀ k, k < n → rc k 1 = gr k) (ht : t ≤ 5000) (hsc : tm_bool sc) (hdn : ∀ j : Nat, tm_bool (dn j)) (h : ms n P lv si fo dl pl le sa dn) :
      f_X5_bestSluice fh lh ee (nI t) (nI m) su lv si (nI g) sc fo (nI n) gr sa le (nI P) dl pl dr sp (nI T) = f_X7_bestNow (nI t) (nI m) su lv si (nI g) sc fh lh (nI P) dl pl dr le dn (nI T) n rc ∧
      n_X5_bestSluice fh lh ee (nI t) (nI m) su lv si (nI g) sc fo (nI n) gr sa le (nI P) dl pl dr sp (nI T) ∧
      n_X7_bestNow (nI t) (nI m) su lv si (nI g) sc fh lh (nI P) dl pl dr le dn (nI T) n rc := by
  obtain ⟨i', tk', ee', lv', fo', si', dl', pl', dr', sp', dn', le', a1, a2, a3, a4, a5, a6⟩ := wd_left (fh := fh) (lh := lh) (ee := ee) (dr := dr) (sp := sp) (gr := gr) (rc := rc) hm hsu hgg hn hP hT hg ht hsc h (k := 0) (by omega)
  have z0 : nI 0 = 0 := nI_0
  have z1 : (0 : Int32) + 1 = nI 1 := rfl
  have z2 : (1 : Int32) = nI 1 := rfl
  rw [z0] at a1 a2 a3 a4 a6
  obtain ⟨b1, b2, b3⟩ := wd_best (fh := fh) (lh := lh) (ee := ee) (dr := dr) (sp := sp) (gr := gr) (rc := rc) hm hsu hgg hn hP hT hg ht hsc hdn h 4 1 6 6 0 _ (by omega) (by omega) (by omega) (by omega) a6
  have hlt : ¬ (4 : Int32) < 0 := by decide
  have hle : (0 : Int32) ≤ 0 := by decide
  refine ⟨?_, ?_, ?_⟩
  · unfold f_X5_bestSluice f_X7_bestNow
    rw [f_X7_bestNow_7.eq_2, if_neg hlt, a1]
    dsimp only
    rw [a2]
    dsimp only
    rw [if_pos hle, z1, ← b1]
    rfl
  · unfold n_X5_bestSluice
    exact ⟨a3, b2⟩
  · unfold n_X7_bestNow
    rw [n_X7_bestNow_7.eq_2]
    refine ⟨fun _ => ⟨hsc, hdn⟩, fun _ => a4, fun _ => ?_, fun _ => ?_, fun _ => ?_, fun _ => ?_⟩
    · intro u1 u2 u3 u4 u5 u6 u7 u8 u9 u10 u11 u12 e
      rw [a1] at e
      cases e
      exact a5
    · intro u1 u2 u3 u4 u5 u6 u7 u8 u9 u10 u11 u12 e v1 v2 e2 _
      rw [a1] at e
      cases e
      rw [a2] at e2
      cases e2
      exact b3
    · intro u1 u2 u3 u4 u5 u6 u7 u8 u9 u10 u11 u12 e v1 v2 e2 c9
      exact absurd hle c9
    · intro u1 u2 u3 u4 u5 u6 u7 u8 u9 u10 u11 u12 e v1 v2 e2 c9
      exact absurd hle c9
end
