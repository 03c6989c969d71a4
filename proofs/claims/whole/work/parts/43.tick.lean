/-! the reckoner's tick, its pond written as the class's -/
theorem tk_area (si : UInt32) : f_X6_area si = f_X3_area si := rfl
theorem tk_areaN (si : UInt32) : n_X6_area si = n_X3_area si := rfl
theorem tk_nan64 {a : UInt64} (h : dok a) : FP.dIsNaN a = false := (FP.Core.notNaN_iff a).mpr h
theorem tk_nan32 {a : UInt32} (h : fok a) : FP.fIsNaN a = false := (FP.Core.notNaN_iff32 a).mpr h
section
variable {tk mo : Int32} {su : UInt64} {sc fh lh ee pn : Int32} {dl : Nat → UInt32} {pl dr sp : Nat → Int32} {le : Nat → UInt64} {dn : Nat → Int32} {n : Nat} {rc : Nat → Nat → Int32}
theorem tk_146 {sl : Int32} {lv fo : UInt64} {si : UInt32} (hl : vr lv (-80) 88) (hs : fr si 32) (hh : vr (f_X6_sea mo su tk) (-32) 40) :
    f_X6_tick_146 tk mo su sl sc fh lh ee pn dl pl dr sp le dn rc si lv fo = f_X6_tick_191 tk mo sl fh lh ee pn dl pl dr sp le dn rc fo (f_X3_scourOut lv si sc (f_X6_sea mo su tk)).1 (f_X3_scourOut lv si sc (f_X6_sea mo su tk)).2 ∧
    (n_X6_tick_191 tk mo sl fh lh ee pn dl pl dr sp le dn n rc fo (f_X3_scourOut lv si sc (f_X6_sea mo su tk)).1 (f_X3_scourOut lv si sc (f_X6_sea mo su tk)).2 → n_X6_tick_146 tk mo su sl sc fh lh ee pn dl pl dr sp le dn n rc si lv fo) := by
  obtain ⟨-, -, -, a4, a5, a6, a7⟩ := pd_scour (sc := sc) hl hs hh
  unfold f_X6_tick_146 n_X6_tick_146 f_X3_scourOut
  by_cases c1 : sc = 0
  · rw [if_pos c1, if_pos c1]
    exact ⟨rfl, fun k => ⟨fun _ => k, fun c => absurd c1 c, fun c => absurd c1 c, fun c => absurd c1 c, fun c => absurd c1 c, fun c => absurd c1 c, fun c => absurd c1 c, fun c => absurd c1 c⟩⟩
  · rw [if_neg c1, if_neg c1]
    by_cases c2 : (Op.cmpValue (FP.dcmp (FP.dsub lv (f_X6_sea mo su tk)) FP.dconst1) .l) < 0
    · rw [if_pos c2, if_pos c2]
      exact ⟨rfl, fun k => ⟨fun c => absurd c c1, fun _ => fl_vf a4, fun _ _ => k, fun _ c => absurd c2 c, fun _ c => absurd c2 c, fun _ c => absurd c2 c, fun _ c => absurd c2 c, fun _ c => absurd c2 c⟩⟩
    · rw [if_neg c2, if_neg c2, a7]
      by_cases c3 : 0 ≤ (Op.cmpValue (FP.fcmp (FP.fsub si 1040187392) FP.fconst0) .g)
      · rw [if_pos c3, if_pos c3]
        exact ⟨rfl, fun k => ⟨fun c => absurd c c1, fun _ => fl_vf a4, fun _ c => absurd c c2, fun _ _ => fl_vf (a5 c2), fun _ _ => fl_vf32 a6, fun _ _ => tk_nan32 fok_0, fun _ _ => tk_nan32 a6, fun _ _ => k⟩⟩
      · rw [if_neg c3, if_neg c3]
        exact ⟨rfl, fun k => ⟨fun c => absurd c c1, fun _ => fl_vf a4, fun _ c => absurd c c2, fun _ _ => fl_vf (a5 c2), fun _ _ => fl_vf32 a6, fun _ _ => tk_nan32 fok_0, fun _ _ => tk_nan32 a6, fun _ _ => k⟩⟩
theorem tk_76 {s : Nat} {lv : UInt64} {si : UInt32} (hl : vr lv (-80) 88) (hs : fr si 32) (hg : s ≤ 4) (hh : vr (f_X6_sea mo su tk) (-32) 40) :
    f_X6_tick_76 tk mo su (nI s) sc fh lh ee pn dl pl dr sp le dn rc lv si = f_X6_tick_146 tk mo su (nI s) sc fh lh ee pn dl pl dr sp le dn rc si (f_X3_turnWheel lv si (nI s) (f_X6_sea mo su tk)).1 (f_X3_turnWheel lv si (nI s) (f_X6_sea mo su tk)).2 ∧
    (n_X6_tick_146 tk mo su (nI s) sc fh lh ee pn dl pl dr sp le dn n rc si (f_X3_turnWheel lv si (nI s) (f_X6_sea mo su tk)).1 (f_X3_turnWheel lv si (nI s) (f_X6_sea mo su tk)).2 → n_X6_tick_76 tk mo su (nI s) sc fh lh ee pn dl pl dr sp le dn n rc lv si) := by
  obtain ⟨m1, m2⟩ := pd_mv hh
  obtain ⟨F0, F⟩ := pd_out (s := s) hl hs hg m1
  unfold f_X6_tick_76 n_X6_tick_76
  rw [pd_wE, m2]
  unfold pd_w
  unfold pd_o at F ⊢
  by_cases c1 : nI s ≤ 0
  · rw [if_pos c1, if_pos c1]
    exact ⟨rfl, fun k => ⟨tk_nan64 hh.ok, tk_nan64 vc_m5.ok, fl_vf F0, fun _ => k, fun c => absurd c1 c, fun c => absurd c1 c, fun c => absurd c1 c, fun c => absurd c1 c, fun c => absurd c1 c, fun c => absurd c1 c, fun c => absurd c1 c, fun c => absurd c1 c⟩⟩
  · rw [if_neg c1, if_neg c1]
    by_cases c2 : (Op.cmpValue (FP.dcmp (FP.dsub lv (pd_m (f_X6_sea mo su tk))) 4602678819172646912) .l) < 0
    · rw [if_pos c2, if_pos c2]
      exact ⟨rfl, fun k => ⟨tk_nan64 hh.ok, tk_nan64 vc_m5.ok, fl_vf F0, fun c => absurd c c1, fun _ _ => k, fun _ c => absurd c2 c, fun _ c => absurd c2 c, fun _ c => absurd c2 c, fun _ c => absurd c2 c, fun _ c => absurd c2 c, fun _ c => absurd c2 c, fun _ c => absurd c2 c⟩⟩
    · rw [if_neg c2, if_neg c2]
      obtain ⟨f1, f2, f3, f4, f5, f6⟩ := F c2
      exact ⟨rfl, fun k => ⟨tk_nan64 hh.ok, tk_nan64 vc_m5.ok, fl_vf F0, fun c => absurd c c1, fun _ c => absurd c c2, fun _ _ => fl_vf f1, fun _ _ => fl_vf f2, fun _ _ => f3, fun _ _ => fl_vf f4, fun _ _ => f5.n, fun _ _ => f6.n, fun _ _ => k⟩⟩
theorem tk_0 {g s : Nat} {lv : UInt64} {si : UInt32} (hl : vr lv (-80) 88) (hs : fr si 32) (hg : g ≤ 3) (hh : vr (f_X6_sea mo su tk) (-32) 40) (hsea : n_X6_sea mo su tk) :
    f_X6_tick tk mo su lv si (nI g) (nI s) sc fh lh ee pn dl pl dr sp le dn rc = f_X6_tick_76 tk mo su (nI s) sc fh lh ee pn dl pl dr sp le dn rc (f_X3_fill lv si (nI g) (f_X6_sea mo su tk)).1 (f_X3_fill lv si (nI g) (f_X6_sea mo su tk)).2 ∧
    (n_X6_tick_76 tk mo su (nI s) sc fh lh ee pn dl pl dr sp le dn n rc (f_X3_fill lv si (nI g) (f_X6_sea mo su tk)).1 (f_X3_fill lv si (nI g) (f_X6_sea mo su tk)).2 → n_X6_tick tk mo su lv si (nI g) (nI s) sc fh lh ee pn dl pl dr sp le dn n rc) := by
  have F := fun hc => pd_in hl hs hg hh hc
  unfold f_X6_tick n_X6_tick f_X3_fill
  unfold pd_d at F
  by_cases c1 : nI g ≤ 0
  · rw [if_pos c1, if_pos c1]
    exact ⟨rfl, fun k => ⟨hsea, fun _ => k, fun c => absurd c1 c, fun c => absurd c1 c, fun c => absurd c1 c, fun c => absurd c1 c, fun c => absurd c1 c, fun c => absurd c1 c, fun c => absurd c1 c, fun c => absurd c1 c, fun c => absurd c1 c, fun c => absurd c1 c, fun c => absurd c1 c, fun c => absurd c1 c, fun c => absurd c1 c⟩⟩
  · rw [if_neg c1, if_neg c1]
    by_cases c2 : (Op.cmpValue (FP.dcmp (f_X6_sea mo su tk) lv) .l) ≤ 0
    · rw [if_pos c2, if_pos c2]
      exact ⟨rfl, fun k => ⟨hsea, fun c => absurd c c1, fun _ _ => k, fun _ c => absurd c2 c, fun _ c => absurd c2 c, fun _ c => absurd c2 c, fun _ c => absurd c2 c, fun _ c => absurd c2 c, fun _ c => absurd c2 c, fun _ c => absurd c2 c, fun _ c => absurd c2 c, fun _ c => absurd c2 c, fun _ c => absurd c2 c, fun _ c => absurd c2 c, fun _ c => absurd c2 c⟩⟩
    · rw [if_neg c2, if_neg c2]
      obtain ⟨f1, f2, f3, f4, f5, f6, f7, f8, f9, f10⟩ := F c2
      rw [(pd_clamp f9 f10).2]
      by_cases c3 : (Op.cmpValue (FP.fcmp (FP.fadd si (FP.fdiv (FP.d2f (FP.dmul (FP.dmul (FP.i2d (nI g)) (FP.dsub (f_X6_sea mo su tk) lv)) 4602678819172646912)) 1115684864)) 1082130432) .l) ≤ 0
      · rw [if_pos c3, if_pos c3]
        exact ⟨rfl, fun k => ⟨hsea, fun c => absurd c c1, fun _ c => absurd c c2, fun _ _ => fl_vf f1, fun _ _ => fl_vf f2, fun _ _ => fl_vf f3, fun _ _ => f4, fun _ _ => fl_vf f5, fun _ _ => f6.n, fun _ _ => fl_vf32 f7, fun _ _ => fl_vf32 f8, fun _ _ => fl_vf32 f9, fun _ _ => tk_nan32 fc_4.1, fun _ _ => tk_nan32 f9, fun _ _ => k⟩⟩
      · rw [if_neg c3, if_neg c3]
        exact ⟨rfl, fun k => ⟨hsea, fun c => absurd c c1, fun _ c => absurd c c2, fun _ _ => fl_vf f1, fun _ _ => fl_vf f2, fun _ _ => fl_vf f3, fun _ _ => f4, fun _ _ => fl_vf f5, fun _ _ => f6.n, fun _ _ => fl_vf32 f7, fun _ _ => fl_vf32 f8, fun _ _ => fl_vf32 f9, fun _ _ => tk_nan32 fc_4.1, fun _ _ => tk_nan32 f9, fun _ _ => k⟩⟩
theorem tk_pond {g s : Nat} {lv : UInt64} {si : UInt32} (hl : vr lv (-80) 88) (hs : fr si 32) (hg : g ≤ 3) (hw : s ≤ 4) (hh : vr (f_X6_sea mo su tk) (-32) 40) (hsea : n_X6_sea mo su tk) {u5 u7 : UInt64} {u6 : UInt32} (e : (u5, u6, u7) = f_X3_goBy lv si (nI g) (nI s) sc (f_X6_sea mo su tk)) :
    f_X6_tick tk mo su lv si (nI g) (nI s) sc fh lh ee pn dl pl dr sp le dn rc = f_X6_tick_191 tk mo (nI s) fh lh ee pn dl pl dr sp le dn rc u7 u5 u6 ∧
    (n_X6_tick_191 tk mo (nI s) fh lh ee pn dl pl dr sp le dn n rc u7 u5 u6 → n_X6_tick tk mo su lv si (nI g) (nI s) sc fh lh ee pn dl pl dr sp le dn n rc) := by
  obtain ⟨-, a2, a3⟩ := pd_fill hl hs hg hh
  obtain ⟨-, b2, b3⟩ := pd_wheel (s := s) a2 a3 hw hh
  unfold f_X3_goBy at e
  injection e with e1 e2
  injection e2 with e2 e3
  obtain ⟨r1, r2⟩ := tk_0 (n := n) (s := s) (sc := sc) (fh := fh) (lh := lh) (ee := ee) (pn := pn) (dl := dl) (pl := pl) (dr := dr) (sp := sp) (le := le) (dn := dn) (rc := rc) hl hs hg hh hsea
  obtain ⟨r3, r4⟩ := tk_76 (n := n) (sc := sc) (fh := fh) (lh := lh) (ee := ee) (pn := pn) (dl := dl) (pl := pl) (dr := dr) (sp := sp) (le := le) (dn := dn) (rc := rc) a2 a3 hw hh
  obtain ⟨r5, r6⟩ := tk_146 (n := n) (sl := nI s) (fo := (f_X3_turnWheel (f_X3_fill lv si (nI g) (f_X6_sea mo su tk)).1 (f_X3_fill lv si (nI g) (f_X6_sea mo su tk)).2 (nI s) (f_X6_sea mo su tk)).2) (sc := sc) (fh := fh) (lh := lh) (ee := ee) (pn := pn) (dl := dl) (pl := pl) (dr := dr) (sp := sp) (le := le) (dn := dn) (rc := rc) b2 a3 hh
  rw [e1, e2, e3]
  exact ⟨r1.trans (r3.trans r5), fun k => r2 (r4 (r6 k))⟩
end
