/-! a tick, the class's and the law's -/
def ps (n P : Nat) (lv : UInt64) (si : UInt32) (fo : UInt64) (dl : Nat → UInt32) (pl dr : Nat → Int32) (le : Nat → UInt64) (sa : Nat → Int32) : Prop := vr lv (-80) 88 ∧ fr si 32 ∧ vr fo 0 1058 ∧ ti n P dl pl dr le sa
theorem tg_eels (tk mo sl ee p1 : Int32) (fo : UInt64) : f_X6_go_605 tk mo sl fo (f_X6_go_574 tk 1 p1) 1 ee = (if (Op.cmpValue (FP.dcmp fo FP.dconst0) .l) ≤ 0 then ee else (if (f_X1_areEelsAbout tk mo) = 0 then ee else ee + sl)) := by
  rw [f_X6_go_605.eq_2, f_X6_go_574.eq_2, ta_ageE]
  unfold f_X1_areEelsAbout f_X4_hourNow
  generalize f_X4_ageOn mo tk = a
  generalize tk - tk / 48 * 48 = h
  by_cases c0 : (Op.cmpValue (FP.dcmp fo FP.dconst0) .l) ≤ 0
  · rw [if_pos c0, if_pos c0]
  · rw [if_neg c0, if_neg c0]
    have q1 : (a ≤ 12) ↔ (a < 13) := by
      rw [Int32.le_iff_toInt_le, Int32.lt_iff_toInt_lt, show (12 : Int32).toInt = 12 from rfl, show (13 : Int32).toInt = 13 from rfl]; omega
    have q2 : (18 ≤ a) ↔ (17 < a) := by
      rw [Int32.le_iff_toInt_le, Int32.lt_iff_toInt_lt, show (18 : Int32).toInt = 18 from rfl, show (17 : Int32).toInt = 17 from rfl]; omega
    by_cases c1 : a < 13
    · rw [if_pos (q1.mpr c1), if_pos c1, if_pos rfl]
    · rw [if_neg (fun g => c1 (q1.mp g)), if_neg c1]
      by_cases c2 : 17 < a
      · rw [if_pos (q2.mpr c2), if_pos c2, if_pos rfl]
      · rw [if_neg (fun g => c2 (q2.mp g)), if_neg c2]
section
variable {tk fh lh aw : Int32} {n P : Nat} {gr ow we du : Nat → Int32}
theorem tg_loop (hn : n ≤ 10) (hP : P ≤ 3) (haw : f_X6_isAwake tk fh lh = aw) (hawn : n_X6_isAwake tk fh lh) (hg : ∀ k, k < n → gr k = 0 ∨ gr k = 1 ∨ gr k = 2) :
    ∀ (fuel p : Nat) (dl : Nat → UInt32) (pl dr sp sa : Nat → Int32) (le : Nat → UInt64) (r : UInt64) (pr rc : Nat → Nat → Int32), p ≤ P → P - p < fuel → ti n P dl pl dr le sa → vr r 0 1058 → tw n P pl dr sp ow gr we du sa pr rc →
    ∃ (r' : UInt64) (i' : Int32) (dl' : Nat → UInt32) (pl' dr' sp' sa' : Nat → Int32) (le' : Nat → UInt64) (pr' rc' : Nat → Nat → Int32),
      f_X2_goBy_6 (nI P) (nI n) gr aw fuel r (nI p) sa le dl pl dr sp = (dl', pl', dr', sp', sa', le') ∧
      f_X6_go_229 tk fh lh P fuel r (nI p) dl le pr rc = (r', i', dl', le', pr', rc') ∧
      n_X2_goBy_6 (nI P) (nI n) gr aw fuel r (nI p) sa le dl pl dr sp ∧
      n_X6_go_229 tk fh lh P n fuel r (nI p) dl le pr rc ∧ ti n P dl' pl' dr' le' sa' ∧ mr sa sa' ∧ tw n P pl' dr' sp' ow gr we du sa' pr' rc' := by
  intro fuel
  induction fuel with
  | zero => intro p dl pl dr sp sa le r pr rc hp hf; omega
  | succ fuel ih =>
    intro p dl pl dr sp sa le r pr rc hp hf hm hr hw
    by_cases e : p = P
    · subst e
      have hle : nI p ≤ nI p := nI_le (Nat.le_refl _) (by omega)
      refine ⟨r, nI p, dl, pl, dr, sp, sa, le, pr, rc, ?_, ?_, ?_, ?_, hm, mr.rf, hw⟩
      · rw [f_X2_goBy_6.eq_2, if_pos hle]
      · rw [f_X6_go_229.eq_2, if_pos hle]
      · rw [n_X2_goBy_6.eq_2]
        exact ⟨fun c => absurd hle c, fun c => absurd hle c, fun c => absurd hle c, fun c => absurd hle c, fun c => absurd hle c, fun c => absurd hle c, fun c => absurd hle c, fun c => absurd hle c, fun c => absurd hle c, fun c => absurd hle c, fun c => absurd hle c, fun c => absurd hle c, fun c => absurd hle c, fun c => absurd hle c, fun c => absurd hle c, fun c => absurd hle c⟩
      · rw [n_X6_go_229.eq_2]
        exact ⟨fun c => absurd hle c, fun c => absurd hle c, fun c => absurd hle c⟩
    · have hlt : p < P := by omega
      have hpn : ¬ nI P ≤ nI p := nI_ge hlt (by omega)
      obtain ⟨r1, dl1, pl1, dr1, sp1, sa1, le1, pr1, rc1, s1, s2, s3, s4, s5, s6, s7⟩ := wt_step (fh := fh) (lh := lh) hn hP hlt haw hm hg hr hw
      have k2 := wt_n hn hP hlt hawn hm hg hr hw
      obtain ⟨r2, i2, dl2, pl2, dr2, sp2, sa2, le2, pr2, rc2, g1, g2, g3, g4, g5, g6, g7⟩ := ih (p + 1) dl1 pl1 dr1 sp1 sa1 le1 r1 pr1 rc1 (by omega) (by omega) s5 s4 s7
      refine ⟨r2, i2, dl2, pl2, dr2, sp2, sa2, le2, pr2, rc2, ?_, ?_, ?_, ?_, g5, s6.tr g6, g7⟩
      · rw [s1 fuel, g1]
      · rw [f_X6_go_229.eq_2, if_neg hpn, s2]
        try dsimp only
        rw [nI_1, g2]
      · exact s3 fuel g3
      · rw [n_X6_go_229.eq_2]
        refine ⟨fun _ => vp_in_nI hlt (by omega), fun _ => k2, fun _ => ?_⟩
        intro u1 u2 u3 u4 u5 e
        rw [s2] at e
        cases e
        rw [nI_1]
        exact g4
end
section
variable {n P m t g s a b : Nat} {su lv fo : UInt64} {si : UInt32} {sc ee : Int32} {dl : Nat → UInt32} {pl dr sp sa gr ow we du : Nat → Int32} {le : Nat → UInt64} {pr rc : Nat → Nat → Int32}
theorem tg_go (hm : m < 30) (ht : t < 6900) (hsu : vr su (-16) 16) (hgg : g ≤ 3) (hs : s ≤ 4) (ha : a < 48) (hb : b < 48) (hn : n ≤ 10) (hP : P ≤ 3) (hg : ∀ k, k < n → gr k = 0 ∨ gr k = 1 ∨ gr k = 2) (h : ps n P lv si fo dl pl dr le sa) (hw : tw n P pl dr sp ow gr we du sa pr rc) :
    ∃ (ee' : Int32) (lv' fo' : UInt64) (si' : UInt32) (dl' : Nat → UInt32) (pl' dr' sp' sa' : Nat → Int32) (le' : Nat → UInt64) (pr' rc' : Nat → Nat → Int32),
      f_X1_goBy (nI a) (nI b) ee (nI t) (nI m) su lv si (nI g) (nI s) sc (nI n) gr sa le (nI P) dl pl dr sp = (ee', nI (t + 1), lv', si', fo', sa', le', dl', pl', dr', sp') ∧
      f_X6_go (nI t) (nI m) su lv si (nI g) (nI s) sc (nI a) (nI b) fo ee dl le P pr rc = (rc', pr', nI (t + 1), lv', si', fo', ee', dl', le') ∧
      n_X1_goBy (nI a) (nI b) (nI t) (nI m) su lv si (nI g) (nI s) sc (nI n) gr sa le (nI P) dl pl dr sp ∧
      n_X6_go (nI t) (nI m) su lv si (nI g) (nI s) sc (nI a) (nI b) fo ee dl le P pr n rc ∧
      ps n P lv' si' fo' dl' pl' dr' le' sa' ∧ mr sa sa' ∧ tw n P pl' dr' sp' ow gr we du sa' pr' rc' := by
  obtain ⟨hl, hsi, hfo, hti⟩ := h
  obtain ⟨a1, a2⟩ := sa_sea (su := su) hm (by omega : t < 7000) hsu
  obtain ⟨z1, z2⟩ := ta_sea (su := su) hm (by omega : t < 7000) hsu
  obtain ⟨b1, b2⟩ := pd_goBy (sc := sc) hl hsi hgg hs a1
  obtain ⟨f1, f2, f3⟩ := pd_fill hl hsi hgg a1
  obtain ⟨w1, w2, w3⟩ := pd_wheel (s := s) f2 f3 hs a1
  obtain ⟨c1, c2, c3, -⟩ := pd_scour (sc := sc) w2 f3 a1
  obtain ⟨m1, -⟩ := pd_mv a1
  obtain ⟨y1, y2⟩ := aw_E (tk := t) (by omega) ha hb
  have E9 : f_X6_go_9 (nI t) (nI m) su (nI g) 1 lv si = f_X3_fill lv si (nI g) (f_X4_heightOn (nI m) su (nI t)) := by rw [tp_fill, z1]
  have N9 : n_X6_go_9 (nI t) (nI m) su (nI g) 1 lv si := tp_fillN _ _ _ (by rw [z1]; exact f1)
  rcases hF : f_X3_fill lv si (nI g) (f_X4_heightOn (nI m) su (nI t)) with ⟨v1, v2⟩
  rw [hF] at E9 f2 f3 w1 w2 w3 c1 c2 c3
  dsimp only at f2 f3 w1 w2 w3 c1 c2 c3
  have E87 : f_X6_go_87 (nI t) (nI m) su v1 1 = FP.dsub v1 (pd_m (f_X4_heightOn (nI m) su (nI t))) := by rw [tp_head, z1]
  have O := (pd_out (s := s) f2 f3 hs m1).1
  unfold pd_o at O
  have N87 : n_X6_go_87 (nI t) (nI m) su v1 1 := tp_headN (by rw [z1]; exact O)
  have E108 : f_X6_go_108 (nI s) v2 (FP.dsub v1 (pd_m (f_X4_heightOn (nI m) su (nI t)))) 1 v1 fo = f_X3_turnWheel v1 v2 (nI s) (f_X4_heightOn (nI m) su (nI t)) := by rw [tp_wheel, pd_wE]
  have N108 : n_X6_go_108 (nI s) v2 (FP.dsub v1 (pd_m (f_X4_heightOn (nI m) su (nI t)))) 1 v1 fo := tp_wheelN f2 f3 hs m1
  rcases hW : f_X3_turnWheel v1 v2 (nI s) (f_X4_heightOn (nI m) su (nI t)) with ⟨v3, v4⟩
  rw [hW] at E108 w2 w3 c1 c2 c3
  dsimp only at w2 w3 c1 c2 c3
  have E165 : f_X6_go_165 (nI t) (nI m) su sc 1 v3 v2 = f_X3_scourOut v3 v2 sc (f_X4_heightOn (nI m) su (nI t)) := by rw [tp_scour f3, z1]
  have N165 : n_X6_go_165 (nI t) (nI m) su sc 1 v3 v2 := tp_scourN (by rw [z1]; exact c1)
  rcases hS : f_X3_scourOut v3 v2 sc (f_X4_heightOn (nI m) su (nI t)) with ⟨v5, v6⟩
  rw [hS] at E165 c2 c3
  dsimp only at c2 c3
  have hu : f_X3_goBy lv si (nI g) (nI s) sc (f_X4_heightOn (nI m) su (nI t)) = (v5, v6, v4) := by
    unfold f_X3_goBy
    rw [hF]
    try dsimp only
    rw [hW]
    try dsimp only
    rw [hS]
  obtain ⟨r', i', dl', pl', dr', sp', sa', le', pr', rc', g1, g2, g3, g4, g5, g6, g7⟩ := tg_loop (tk := nI t) (fh := nI a) (lh := nI b) (gr := gr) hn hP y1 y2 hg 5 0 dl pl dr sp sa le v4 pr rc (Nat.zero_le _) (by omega) hti w3 hw
  have z0 : nI 0 = 0 := nI_0
  rw [z0] at g1 g2 g3 g4
  have hX2 : f_X2_goBy (nI P) dl pl dr sp (nI n) gr sa le v4 (f_X1_isAwake (nI a) (nI b) (nI t)) = (dl', pl', dr', sp', sa', le') := g1
  have hne : n_X1_goBy (nI a) (nI b) (nI t) (nI m) su lv si (nI g) (nI s) sc (nI n) gr sa le (nI P) dl pl dr sp := by
    unfold n_X1_goBy
    refine ⟨a2, b1, ?_⟩
    intro u5 u6 u7 e
    rw [hu] at e
    cases e
    exact g3
  have h1 : nI t + 1 = nI (t + 1) := nI_1 t
  have k1 : f_X1_goBy (nI a) (nI b) ee (nI t) (nI m) su lv si (nI g) (nI s) sc (nI n) gr sa le (nI P) dl pl dr sp = ((if (Op.cmpValue (FP.dcmp v4 FP.dconst0) .l) ≤ 0 then ee else (if (f_X1_areEelsAbout (nI t) (nI m)) = 0 then ee else ee + nI s)), nI (t + 1), v5, v6, v4, sa', le', dl', pl', dr', sp') := by
    unfold f_X1_goBy
    rw [hu]
    try dsimp only
    rw [hX2, h1]
    try dsimp only
    split
    · rfl
    · split
      · rfl
      · rfl
  have k2 : f_X6_go (nI t) (nI m) su lv si (nI g) (nI s) sc (nI a) (nI b) fo ee dl le P pr rc = (rc', pr', nI (t + 1), v5, v6, v4, (if (Op.cmpValue (FP.dcmp v4 FP.dconst0) .l) ≤ 0 then ee else (if (f_X1_areEelsAbout (nI t) (nI m)) = 0 then ee else ee + nI s)), dl', le') := by
    unfold f_X6_go
    rw [E9]
    try dsimp only
    rw [E87]
    try dsimp only
    rw [E108]
    try dsimp only
    rw [E165]
    try dsimp only
    rw [g2]
    try dsimp only
    rw [tg_eels, h1]
  have k3 : n_X6_go (nI t) (nI m) su lv si (nI g) (nI s) sc (nI a) (nI b) fo ee dl le P pr n rc := by
    unfold n_X6_go
    refine ⟨z2, N9, ?_⟩
    rw [E9]
    refine ⟨?_, ?_, ?_, ?_, ?_, ?_⟩
    all_goals
      intro x1 x2 e
      cases e
    · exact N87
    all_goals
      intro x3 e
      rw [E87] at e
      subst e
    · exact N108
    all_goals
      rw [E108]
      intro x4 x5 e
      cases e
    · exact N165
    all_goals
      rw [E165]
      intro x6 x7 e
      cases e
    · exact g4
    · intro x8 x9 x10 x11 x12 x13 _
      rw [n_X6_go_574.eq_2]
      trivial
    · intro x8 x9 x10 x11 x12 x13 _ x14 _
      rw [n_X6_go_605.eq_2]
      trivial
  exact ⟨_, v5, v4, v6, dl', pl', dr', sp', sa', le', pr', rc', k1, k2, hne, k3, ⟨c2, c3, w3, g5⟩, g6, g7⟩
end
