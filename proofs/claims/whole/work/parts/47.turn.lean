/-! a tick, both sides -/
theorem tn_aw (tk fh lh : Int32) : f_X6_isAwake tk fh lh = f_X1_isAwake fh lh tk := by
  unfold f_X6_isAwake f_X1_isAwake f_X4_hourNow
  by_cases c : lh < fh
  · have c' : ¬ fh ≤ lh := by rw [Int32.le_iff_toInt_le]; rw [Int32.lt_iff_toInt_lt] at c; omega
    rw [if_pos c, if_neg c']
  · have c' : fh ≤ lh := by rw [Int32.le_iff_toInt_le]; rw [Int32.lt_iff_toInt_lt] at c; omega
    rw [if_neg c, if_pos c']
theorem tn_eels (tk mo : Int32) : (f_X1_areEelsAbout tk mo = 0 ↔ (f_X7_in (f_X6_age mo tk) 13 17 = 0 ∨ ¬ f_X7_in (tk - tk / 48 * 48) 12 35 = 0)) := by
  unfold f_X1_areEelsAbout f_X7_in f_X4_hourNow
  rw [sa_ageE]
  generalize f_X4_ageOn mo tk = a
  generalize tk - tk / 48 * 48 = h
  by_cases c1 : a < 13
  · rw [if_pos c1, if_pos c1]
    exact ⟨fun _ => Or.inl rfl, fun _ => rfl⟩
  · rw [if_neg c1, if_neg c1]
    by_cases c2 : 17 < a
    · rw [if_pos c2, if_pos c2]
      exact ⟨fun _ => Or.inl rfl, fun _ => rfl⟩
    · rw [if_neg c2, if_neg c2]
      by_cases c3 : h < 12
      · rw [if_pos c3, if_pos c3]
        exact ⟨fun e => absurd e (by decide), fun e => e.elim (fun e => absurd e (by decide)) (fun e => absurd rfl e)⟩
      · rw [if_neg c3, if_neg c3]
        by_cases c4 : h ≤ 35
        · rw [if_pos c4, if_neg (by rw [Int32.lt_iff_toInt_lt]; rw [Int32.le_iff_toInt_le] at c4; omega)]
          exact ⟨fun _ => Or.inr (by decide), fun _ => rfl⟩
        · rw [if_neg c4, if_pos (by rw [Int32.lt_iff_toInt_lt]; rw [Int32.le_iff_toInt_le] at c4; omega)]
          exact ⟨fun e => absurd e (by decide), fun e => e.elim (fun e => absurd e (by decide)) (fun e => absurd rfl e)⟩
def ms (n P : Nat) (lv : UInt64) (si : UInt32) (fo : UInt64) (dl : Nat → UInt32) (pl : Nat → Int32) (le : Nat → UInt64) (sa dn : Nat → Int32) : Prop := vr lv (-80) 88 ∧ fr si 32 ∧ vr fo 0 1058 ∧ mi n P dl pl le sa dn
section
variable {tk fh lh aw : Int32} {n P : Nat} {gr : Nat → Int32} {rc : Nat → Nat → Int32}
theorem tn_loop (hn : n ≤ 10) (hP : P ≤ 3) (haw : f_X6_isAwake tk fh lh = aw) (hg : ∀ k, k < n → rc k 1 = gr k) :
    ∀ (fuel p : Nat) (dl : Nat → UInt32) (pl dr sp sp2 sa dn : Nat → Int32) (le : Nat → UInt64) (r : UInt64), p ≤ P → P - p < fuel → mi n P dl pl le sa dn → vr r 0 1058 →
    ∃ (r' : UInt64) (i' : Int32) (dl' : Nat → UInt32) (pl' dr' sp' sp2' sa' dn' : Nat → Int32) (le' : Nat → UInt64),
      f_X2_goBy_6 (nI P) (nI n) gr aw fuel r (nI p) sa le dl pl dr sp = (dl', pl', dr', sp', sa', le') ∧
      f_X6_tick_200 tk fh lh (nI P) rc fuel r (nI p) dl pl dr sp2 le dn = (r', i', dl', pl', dr', sp2', le', dn') ∧
      n_X2_goBy_6 (nI P) (nI n) gr aw fuel r (nI p) sa le dl pl dr sp ∧
      n_X6_tick_200 tk fh lh (nI P) n rc fuel r (nI p) dl pl dr sp2 le dn ∧ mi n P dl' pl' le' sa' dn' ∧ mr sa sa' ∧ wx P dr dr' sp sp2 sp' sp2' := by
  intro fuel
  induction fuel with
  | zero => intro p dl pl dr sp sp2 sa dn le r hp hf; omega
  | succ fuel ih =>
    intro p dl pl dr sp sp2 sa dn le r hp hf hm hr
    by_cases e : p = P
    · subst e
      have hle : nI p ≤ nI p := nI_le (Nat.le_refl _) (by omega)
      refine ⟨r, nI p, dl, pl, dr, sp, sp2, sa, dn, le, ?_, ?_, ?_, ?_, hm, mr.rf, wx.rf⟩
      · rw [f_X2_goBy_6.eq_2, if_pos hle]
      · rw [f_X6_tick_200.eq_2, if_pos hle]
      · rw [n_X2_goBy_6.eq_2]
        exact ⟨fun c => absurd hle c, fun c => absurd hle c, fun c => absurd hle c, fun c => absurd hle c, fun c => absurd hle c, fun c => absurd hle c, fun c => absurd hle c, fun c => absurd hle c, fun c => absurd hle c, fun c => absurd hle c, fun c => absurd hle c, fun c => absurd hle c, fun c => absurd hle c, fun c => absurd hle c, fun c => absurd hle c, fun c => absurd hle c⟩
      · rw [n_X6_tick_200.eq_2]
        exact ⟨fun c => absurd hle c, fun c => absurd hle c⟩
    · have hlt : p < P := by omega
      have hpn : ¬ nI P ≤ nI p := nI_ge hlt (by omega)
      obtain ⟨r1, dl1, pl1, dr1, sp1, sp21, sa1, dn1, le1, s1, s2, s3, s4, s5, s6, s7, s8⟩ := wk_step (sp := sp) (sp2 := sp2) (dr := dr) (rc := rc) hn hP hlt haw hg hm hr
      obtain ⟨r2, i2, dl2, pl2, dr2, sp2', sp22, sa2, dn2, le2, g1, g2, g3, g4, g5, g6, g7⟩ := ih (p + 1) dl1 pl1 dr1 sp1 sp21 sa1 dn1 le1 r1 (by omega) (by omega) s6 s5
      refine ⟨r2, i2, dl2, pl2, dr2, sp2', sp22, sa2, dn2, le2, ?_, ?_, ?_, ?_, g5, s7.tr g6, s8.tr g7⟩
      · rw [s1 fuel, g1]
      · rw [f_X6_tick_200.eq_2, if_neg hpn, s2]
        show f_X6_tick_200 tk fh lh (nI P) rc fuel r1 (nI p + 1) dl1 pl1 dr1 sp21 le1 dn1 = _
        rw [nI_1, g2]
      · exact s3 fuel g3
      · rw [n_X6_tick_200.eq_2]
        refine ⟨fun _ => s4, fun _ => ?_⟩
        intro r8 u9 u10 u11 u12 u13 u14 e
        rw [s2] at e
        cases e
        rw [nI_1]
        exact g4
theorem tn_tick {m t g s : Nat} {su lv : UInt64} {si : UInt32} {sc ee ee2 : Int32} {dl : Nat → UInt32} {pl dr sp sp2 sa dn : Nat → Int32} {le : Nat → UInt64} (hm : m < 30) (ht : t < 6900) (hsu : vr su (-16) 16) (hgg : g ≤ 3) (hw : s ≤ 4) (hn : n ≤ 10) (hP : P ≤ 3) (hg : ∀ k, k < n → rc k 1 = gr k) (hl : vr lv (-80) 88) (hs : fr si 32) (hmi : mi n P dl pl le sa dn) :
    ∃ (ee' ee2' : Int32) (lv' fo' : UInt64) (si' : UInt32) (dl' : Nat → UInt32) (pl' dr' sp' sp2' sa' dn' : Nat → Int32) (le' : Nat → UInt64),
      f_X1_goBy fh lh ee (nI t) (nI m) su lv si (nI g) (nI s) sc (nI n) gr sa le (nI P) dl pl dr sp = (ee', nI (t + 1), lv', si', fo', sa', le', dl', pl', dr', sp') ∧
      f_X6_tick (nI t) (nI m) su lv si (nI g) (nI s) sc fh lh ee2 (nI P) dl pl dr sp2 le dn rc = (nI (t + 1), lv', si', fo', ee2', dl', pl', dr', sp2', le', dn') ∧
      n_X1_goBy fh lh (nI t) (nI m) su lv si (nI g) (nI s) sc (nI n) gr sa le (nI P) dl pl dr sp ∧
      n_X6_tick (nI t) (nI m) su lv si (nI g) (nI s) sc fh lh ee2 (nI P) dl pl dr sp2 le dn n rc ∧
      ms n P lv' si' fo' dl' pl' le' sa' dn' ∧ mr sa sa' ∧ (ee = ee2 → ee' = ee2') ∧ wx P dr dr' sp sp2 sp' sp2' := by
  obtain ⟨a1, a2, a3⟩ := sa_sea (su := su) hm (by omega : t < 7000) hsu
  have hE := sa_seaE (t := t) (by omega) (nI m) su
  obtain ⟨b1, b2⟩ := pd_goBy (sc := sc) hl hs hgg hw a1
  have hh : vr (f_X6_sea (nI m) su (nI t)) (-32) 40 := by rw [hE]; exact a1
  rcases hu : f_X3_goBy lv si (nI g) (nI s) sc (f_X4_heightOn (nI m) su (nI t)) with ⟨u5, u6, u7⟩
  obtain ⟨c1, c2, c3⟩ := b2 u5 u6 u7 hu.symm
  have T := fun (ee : Int32) (sp : Nat → Int32) => tk_pond (tk := nI t) (mo := nI m) (su := su) (sc := sc) (fh := fh) (lh := lh) (ee := ee) (pn := nI P) (dl := dl) (pl := pl) (dr := dr) (sp := sp) (le := le) (dn := dn) (n := n) (rc := rc) hl hs hgg hw hh a3 (u5 := u5) (u6 := u6) (u7 := u7) (by rw [hE]; exact hu.symm)
  obtain ⟨r', i', dl', pl', dr', sp', sp2', sa', dn', le', g1, g2, g3, g4, g5, g6, g7⟩ := tn_loop (tk := nI t) (fh := fh) (lh := lh) (rc := rc) (gr := gr) hn hP rfl hg 5 0 dl pl dr sp sp2 sa dn le u7 (Nat.zero_le _) (by omega) hmi c3
  rw [tn_aw] at g1 g3
  have z0 : nI 0 = 0 := nI_0
  rw [z0] at g1 g2 g3 g4
  have hX2 : f_X2_goBy (nI P) dl pl dr sp (nI n) gr sa le u7 (f_X1_isAwake fh lh (nI t)) = (dl', pl', dr', sp', sa', le') := g1
  have hne : n_X1_goBy fh lh (nI t) (nI m) su lv si (nI g) (nI s) sc (nI n) gr sa le (nI P) dl pl dr sp := by
    unfold n_X1_goBy
    refine ⟨a2, b1, ?_⟩
    intro v5 v6 v7 e
    rw [hu] at e
    cases e
    exact g3
  have hn6 : n_X6_tick (nI t) (nI m) su lv si (nI g) (nI s) sc fh lh ee2 (nI P) dl pl dr sp2 le dn n rc := by
    refine (T ee2 sp2).2 ?_
    unfold n_X6_tick_191 n_X6_tick_286
    exact ⟨g4, fun _ _ _ _ _ _ _ _ _ _ => trivial, fun _ _ _ _ _ _ _ _ _ _ _ => trivial, fun _ _ _ _ _ _ _ _ _ _ _ _ => trivial, fun _ _ _ _ _ _ _ _ _ _ _ _ => trivial⟩
  have hms : ms n P u5 u6 u7 dl' pl' le' sa' dn' := ⟨c1, c2, c3, g5⟩
  have h1 : nI t + 1 = nI (t + 1) := nI_1 t
  have k1 : f_X1_goBy fh lh ee (nI t) (nI m) su lv si (nI g) (nI s) sc (nI n) gr sa le (nI P) dl pl dr sp = (if (Op.cmpValue (FP.dcmp u7 FP.dconst0) .l) ≤ 0 then (ee, nI (t + 1), u5, u6, u7, sa', le', dl', pl', dr', sp') else (if (f_X1_areEelsAbout (nI t) (nI m)) = 0 then (ee, nI (t + 1), u5, u6, u7, sa', le', dl', pl', dr', sp') else (ee + nI s, nI (t + 1), u5, u6, u7, sa', le', dl', pl', dr', sp'))) := by
    unfold f_X1_goBy
    rw [hu]
    dsimp only
    rw [hX2, h1]
  have k2 : f_X6_tick (nI t) (nI m) su lv si (nI g) (nI s) sc fh lh ee2 (nI P) dl pl dr sp2 le dn rc = (if (Op.cmpValue (FP.dcmp u7 FP.dconst0) .l) ≤ 0 then (nI (t + 1), u5, u6, u7, ee2, dl', pl', dr', sp2', le', dn') else (if (f_X7_in (f_X6_age (nI m) (nI t)) 13 17) = 0 then (nI (t + 1), u5, u6, u7, ee2, dl', pl', dr', sp2', le', dn') else (if (f_X7_in (nI t - nI t / 48 * 48) 12 35) = 0 then (nI (t + 1), u5, u6, u7, ee2 + nI s, dl', pl', dr', sp2', le', dn') else (nI (t + 1), u5, u6, u7, ee2, dl', pl', dr', sp2', le', dn')))) := by
    rw [(T ee2 sp2).1]
    unfold f_X6_tick_191 f_X6_tick_286
    rw [g2]
    dsimp only
    rw [h1]
  have hee := tn_eels (nI t) (nI m)
  by_cases e1 : (Op.cmpValue (FP.dcmp u7 FP.dconst0) .l) ≤ 0
  · rw [if_pos e1] at k1 k2
    exact ⟨ee, ee2, u5, u7, u6, dl', pl', dr', sp', sp2', sa', dn', le', k1, k2, hne, hn6, hms, g6, id, g7⟩
  · rw [if_neg e1] at k1 k2
    by_cases e2 : (f_X7_in (f_X6_age (nI m) (nI t)) 13 17) = 0
    · rw [if_pos e2] at k2
      rw [if_pos (hee.mpr (Or.inl e2))] at k1
      exact ⟨ee, ee2, u5, u7, u6, dl', pl', dr', sp', sp2', sa', dn', le', k1, k2, hne, hn6, hms, g6, id, g7⟩
    · rw [if_neg e2] at k2
      by_cases e3 : (f_X7_in (nI t - nI t / 48 * 48) 12 35) = 0
      · rw [if_pos e3] at k2
        rw [if_neg (fun h => (hee.mp h).elim e2 (fun h9 => h9 e3))] at k1
        exact ⟨ee + nI s, ee2 + nI s, u5, u7, u6, dl', pl', dr', sp', sp2', sa', dn', le', k1, k2, hne, hn6, hms, g6, fun e => by rw [e], g7⟩
      · rw [if_neg e3] at k2
        rw [if_pos (hee.mpr (Or.inr e3))] at k1
        exact ⟨ee, ee2, u5, u7, u6, dl', pl', dr', sp', sp2', sa', dn', le', k1, k2, hne, hn6, hms, g6, id, g7⟩
end
