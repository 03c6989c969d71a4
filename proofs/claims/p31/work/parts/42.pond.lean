/-! the pond -/
theorem vc_0 : vr 0 0 0 := vr.c (by decide +kernel)
theorem vc_q : vr 4598175219545276416 2 2 := vr.c (by decide +kernel)
theorem vc_1 : vr FP.dconst1 8 8 := vr.c (by decide +kernel)
theorem vc_8 : vr 4620693217682128896 64 64 := vr.c (by decide +kernel)
theorem vc_m5 : vr 13826050856027422720 (-4) (-4) := vr.c (by decide +kernel)
theorem vc_m5z : zd 13826050856027422720 = -4 * fl_E := by
  have h := vc_m5
  exact Int.le_antisymm h.2.2 h.2.1
theorem vr.eqz {a : UInt64} {k : Int} (h : vr a k k) : zd a = k * fl_E := Int.le_antisymm h.2.2 h.2.1
theorem zdz_0 : zd 0 = 0 := FP.Core.zval64_zero
theorem dok_0 : dok 0 := vc_0.ok
theorem zf_0 : zf 0 = 0 := FP.Core.zval32_zero
theorem fok_0 : fok 0 := by
  show FP.Core.val32 0 ≠ .nan
  rw [FP.Core.val32_zero]
  exact FP.Core.Datum.noConfusion
theorem fc_4 : fok 1082130432 ∧ zf 1082130432 = 32 * ((2 ^ 146 : Nat) : Int) := by
  refine ⟨?_, ?_⟩
  · show FP.Core.val32 1082130432 ≠ .nan
    decide +kernel
  · show FP.Core.zval FP.Core.b32 (FP.Core.val32 1082130432) = _
    decide +kernel
theorem fc_64 : ∃ d r, FP.Core.val32 1115684864 = .fin false d r ∧ d ≠ 0 := ⟨8388608, -17, by decide +kernel, by decide⟩
theorem fc_8th : FP.Core.FFin 1040187392 ∧ 0 < zf 1040187392 := by
  refine ⟨⟨false, 8388608, -26, by decide +kernel⟩, ?_⟩
  show 0 < FP.Core.zval FP.Core.b32 (FP.Core.val32 1040187392)
  decide +kernel
theorem vr.int {g : Nat} {u : Nat} (h : g ≤ u) (hu : u < 1000000) : vr (FP.i2d (nI g)) 0 (8 * u) := by
  have e := nI_toInt (n := g) (by omega)
  have := vr.i2d (nI g) (by rw [e]; omega)
  rw [e] at this
  exact this.w (by omega) (by omega)
theorem vr.lo {a : UInt64} {l u : Int} (v : vr a l u) {k : Int} (h : k * fl_E ≤ zd a) : vr a k u := ⟨v.1, h, v.2.2⟩
theorem vr.hi {a : UInt64} {l u : Int} (v : vr a l u) {k : Int} (h : zd a ≤ k * fl_E) : vr a l k := ⟨v.1, v.2.1, h⟩
theorem pd_area {si : UInt32} (h : fr si 32) : vr (f_X3_area si) 32 64 ∧ n_X3_area si := by
  have h1 := h.f2d (by decide) (by decide)
  have h2 := vc_8.sub h1 32 64 (by decide) (by decide) (by decide) (by decide)
  exact ⟨h2, h1.n, h2.n⟩
def pd_d (lv h : UInt64) (ga : Int32) : UInt64 := FP.dmul (FP.dmul (FP.i2d ga) (FP.dsub h lv)) 4602678819172646912
theorem pd_in {lv h : UInt64} {si : UInt32} {g : Nat} (hl : vr lv (-80) 88) (hs : fr si 32) (hg : g ≤ 3) (hh : vr h (-32) 40) (hc : ¬ (Op.cmpValue (FP.dcmp h lv) .l) ≤ 0) :
    dok (FP.dsub h lv) ∧ dok (FP.dmul (FP.i2d (nI g)) (FP.dsub h lv)) ∧ dok (pd_d lv h (nI g)) ∧ n_X3_area si ∧ dok (FP.ddiv (pd_d lv h (nI g)) (f_X3_area si)) ∧ vr (FP.dadd lv (FP.ddiv (pd_d lv h (nI g)) (f_X3_area si))) (-80) 88 ∧ fok (FP.d2f (pd_d lv h (nI g))) ∧ fok (FP.fdiv (FP.d2f (pd_d lv h (nI g))) 1115684864) ∧ fok (FP.fadd si (FP.fdiv (FP.d2f (pd_d lv h (nI g))) 1115684864)) ∧ 0 ≤ zf (FP.fadd si (FP.fdiv (FP.d2f (pd_d lv h (nI g))) 1115684864)) := by
  rw [fl_le0 hh.ok hl.ok] at hc
  have d0 := hh.sub hl (-120) 120 (by decide) (by decide) (by decide) (by decide)
  have d1 : vr (FP.dsub h lv) 0 120 := d0.lo (by
    rw [Int.zero_mul]
    have := fl_sub_ge hh.1 hl.1 dok_0 (by rw [zdz_0]; omega)
    rwa [zdz_0] at this)
  have p1 := (vr.int hg (by decide)).mul d1 0 360 (by decide) (by decide) (by decide) (by decide) (by decide) (by decide)
  have p2 : vr (pd_d lv h (nI g)) 0 180 := p1.mul vc_half 0 180 (by decide) (by decide) (by decide) (by decide) (by decide) (by decide)
  obtain ⟨a1, a2⟩ := pd_area hs
  have q := p2.div a1 45 (by decide) (by decide) (by decide) (by decide) (by decide)
  have l40 : vr lv (-80) 40 := hl.hi (Int.le_trans (by omega) hh.2.2)
  have r := l40.add q (-80) 85 (by decide) (by decide) (by decide) (by decide)
  have n1 := nf_d2f p2.ok (by have := p2.2.1; rwa [Int.zero_mul] at this)
  obtain ⟨d, e, f1, f2⟩ := fc_64
  have n2 := nf_div n1 f1 f2
  have n3 := nf_add (hs.fin (by decide)) hs.2.1 n2
  exact ⟨d1.ok, p1.ok, p2.ok, a2, q.ok, r.w (by decide) (by decide), nf_ok n1, nf_ok n2, n3.1, n3.2⟩
theorem pd_clamp {x : UInt32} (h : fok x) (h0 : 0 ≤ zf x) : fr (if (Op.cmpValue (FP.fcmp x 1082130432) .l) ≤ 0 then x else 1082130432) 32 ∧ Native.java_lang_Math.nans.pick32 false 1082130432 x = (if (Op.cmpValue (FP.fcmp x 1082130432) .l) ≤ 0 then x else 1082130432) := by
  obtain ⟨c1, c2⟩ := fc_4
  have hp : (0 : Int) ≤ ((2 ^ 146 : Nat) : Int) := Int.natCast_nonneg _
  rw [ff_pick c1 h]
  by_cases hc : (Op.cmpValue (FP.fcmp x 1082130432) .l) ≤ 0
  · rw [if_pos hc]
    have hc' := (ff_le0 h c1 _).mp hc
    refine ⟨⟨h, h0, by rw [← c2]; exact hc'⟩, ?_⟩
    rw [if_neg (by omega)]
    split
    · rw [if_pos (by decide)]
    · rw [if_neg (by decide)]
  · rw [if_neg hc]
    have hc' : ¬ zf x ≤ zf 1082130432 := fun h9 => hc ((ff_le0 h c1 _).mpr h9)
    refine ⟨⟨c1, by rw [c2]; omega, by rw [c2]; exact Int.le_refl _⟩, ?_⟩
    rw [if_pos (by omega), if_neg (by decide)]
theorem pd_fill {lv h : UInt64} {si : UInt32} {g : Nat} (hl : vr lv (-80) 88) (hs : fr si 32) (hg : g ≤ 3) (hh : vr h (-32) 40) :
    n_X3_fill lv si (nI g) h ∧ vr (f_X3_fill lv si (nI g) h).1 (-80) 88 ∧ fr (f_X3_fill lv si (nI g) h).2 32 := by
  have F := fun hc => pd_in hl hs hg hh hc
  refine ⟨?_, ?_⟩
  · unfold n_X3_fill
    exact ⟨fun _ c => fl_vf (F c).1, fun _ c => fl_vf (F c).2.1, fun _ c => fl_vf (F c).2.2.1, fun _ c => (F c).2.2.2.1, fun _ c => fl_vf (F c).2.2.2.2.1, fun _ c => (F c).2.2.2.2.2.1.n, fun _ c => fl_vf32 (F c).2.2.2.2.2.2.1, fun _ c => fl_vf32 (F c).2.2.2.2.2.2.2.1, fun _ c => fl_vf32 (F c).2.2.2.2.2.2.2.2.1⟩
  · unfold f_X3_fill
    by_cases c1 : nI g ≤ 0
    · rw [if_pos c1]; exact ⟨hl, hs⟩
    · rw [if_neg c1]
      by_cases c2 : (Op.cmpValue (FP.dcmp h lv) .l) ≤ 0
      · rw [if_pos c2]; exact ⟨hl, hs⟩
      · rw [if_neg c2]
        obtain ⟨-, -, -, -, -, h6, -, -, h9, h10⟩ := F c2
        have hk := (pd_clamp h9 h10).1
        unfold pd_d at h6 hk
        split
        · rename_i c3
          rw [if_pos c3] at hk
          exact ⟨h6, hk⟩
        · rename_i c3
          rw [if_neg c3] at hk
          exact ⟨h6, hk⟩
/-- what the wheel stands against -/
def pd_m (h : UInt64) : UInt64 := if (Op.cmpValue (FP.dcmp h 13826050856027422720) .l) ≤ 0 then 13826050856027422720 else h
theorem pd_mv {h : UInt64} (hh : vr h (-32) 40) : vr (pd_m h) (-4) 40 ∧ Native.java_lang_Math.nans.pick64 true h 13826050856027422720 = pd_m h := by
  rw [fl_pick hh.ok vc_m5.ok]
  unfold pd_m
  by_cases c : (Op.cmpValue (FP.dcmp h 13826050856027422720) .l) ≤ 0
  · rw [if_pos c]
    have c' := (fl_le0 hh.ok vc_m5.ok _).mp c
    refine ⟨vc_m5.w (by decide) (by decide), ?_⟩
    by_cases e : zd h = zd 13826050856027422720
    · have : h = 13826050856027422720 := fl_bits hh.ok vc_m5.ok e (by
        rw [vc_m5z]
        have := fl_E_pos
        omega)
      rw [this]
      decide +kernel
    · rw [if_pos (by omega), if_pos rfl]
  · rw [if_neg c]
    have c' : ¬ zd h ≤ zd 13826050856027422720 := fun h9 => c ((fl_le0 hh.ok vc_m5.ok _).mpr h9)
    refine ⟨hh.lo (by rw [vc_m5z] at c'; omega), ?_⟩
    rw [if_neg (by omega), if_neg (by omega), if_pos rfl]
def pd_o (lv m : UInt64) (sl : Int32) : UInt64 := FP.dmul (FP.dmul (FP.i2d sl) (FP.dsub lv m)) 4598175219545276416
theorem pd_out {lv m : UInt64} {si : UInt32} {s : Nat} (hl : vr lv (-80) 88) (hs : fr si 32) (hg : s ≤ 4) (hm : vr m (-4) 40) :
    dok (FP.dsub lv m) ∧ ((¬ (Op.cmpValue (FP.dcmp (FP.dsub lv m) 4602678819172646912) .l) < 0) → dok (FP.dmul (FP.i2d (nI s)) (FP.dsub lv m)) ∧ dok (pd_o lv m (nI s)) ∧ n_X3_area si ∧ dok (FP.ddiv (pd_o lv m (nI s)) (f_X3_area si)) ∧ vr (FP.dsub lv (FP.ddiv (pd_o lv m (nI s)) (f_X3_area si))) (-80) 88 ∧ vr (FP.dmul (pd_o lv m (nI s)) (FP.dsub lv m)) 0 1058) := by
  have d0 := hl.sub hm (-120) 92 (by decide) (by decide) (by decide) (by decide)
  refine ⟨d0.ok, fun hc => ?_⟩
  rw [fl_lt0 d0.ok vc_half.ok] at hc
  rw [vc_half.eqz] at hc
  have d1 : vr (FP.dsub lv m) 4 92 := d0.lo (by omega)
  have l8 : vr lv (-8) 88 := hl.lo (by
    refine Int.le_of_not_gt fun hlt => ?_
    obtain ⟨e1, e2⟩ := fl_ev_spec (k := -4) (by decide)
    have m1 := hm.2.1
    have := fl_sub_le hl.1 hm.1 e1 (by rw [e2]; omega)
    rw [e2] at this
    have := fl_E_pos
    omega)
  have p1 := (vr.int hg (by decide)).mul d1 0 368 (by decide) (by decide) (by decide) (by decide) (by decide) (by decide)
  have p2 : vr (pd_o lv m (nI s)) 0 92 := p1.mul vc_q 0 92 (by decide) (by decide) (by decide) (by decide) (by decide) (by decide)
  obtain ⟨a1, a2⟩ := pd_area hs
  have q := p2.div a1 23 (by decide) (by decide) (by decide) (by decide) (by decide)
  have r := l8.sub q (-31) 88 (by decide) (by decide) (by decide) (by decide)
  have f := p2.mul d1 0 1058 (by decide) (by decide) (by decide) (by decide) (by decide) (by decide)
  exact ⟨p1.ok, p2.ok, a2, q.ok, r.w (by decide) (by decide), f⟩
/-- the wheel, with what it stands against named -/
def pd_w (lv : UInt64) (si : UInt32) (sl : Int32) (m : UInt64) : UInt64 × UInt64 :=
  if sl ≤ 0 then (lv, FP.dconst0) else (if (Op.cmpValue (FP.dcmp (FP.dsub lv m) 4602678819172646912) .l) < 0 then (lv, FP.dconst0) else (FP.dsub lv (FP.ddiv (pd_o lv m sl) (f_X3_area si)), FP.dmul (pd_o lv m sl) (FP.dsub lv m)))
theorem pd_wE (lv : UInt64) (si : UInt32) (sl : Int32) (h : UInt64) : f_X3_turnWheel lv si sl h = pd_w lv si sl (pd_m h) := by
  unfold f_X3_turnWheel pd_m pd_w pd_o
  by_cases c : (Op.cmpValue (FP.dcmp h 13826050856027422720) .l) ≤ 0
  · rw [if_pos c, if_pos c]
  · rw [if_neg c, if_neg c]
theorem pd_wheel {lv h : UInt64} {si : UInt32} {s : Nat} (hl : vr lv (-80) 88) (hs : fr si 32) (hg : s ≤ 4) (hh : vr h (-32) 40) :
    n_X3_turnWheel lv si (nI s) h ∧ vr (f_X3_turnWheel lv si (nI s) h).1 (-80) 88 ∧ vr (f_X3_turnWheel lv si (nI s) h).2 0 1058 := by
  have hm := (pd_mv hh).1
  have F := pd_out (s := s) hl hs hg hm
  refine ⟨?_, ?_⟩
  · unfold n_X3_turnWheel
    unfold pd_m pd_o at F
    by_cases c : (Op.cmpValue (FP.dcmp h 13826050856027422720) .l) ≤ 0
    · simp only [if_pos c] at F
      exact ⟨fun _ => fl_vf F.1, fun _ _ k => fl_vf (F.2 k).1, fun _ _ k => fl_vf (F.2 k).2.1, fun _ _ k => (F.2 k).2.2.1, fun _ _ k => fl_vf (F.2 k).2.2.2.1, fun _ _ k => (F.2 k).2.2.2.2.1.n, fun _ _ k => (F.2 k).2.2.2.2.2.n, fun k => absurd c k, fun k => absurd c k, fun k => absurd c k, fun k => absurd c k, fun k => absurd c k, fun k => absurd c k, fun k => absurd c k⟩
    · simp only [if_neg c] at F
      exact ⟨fun k => absurd k c, fun k => absurd k c, fun k => absurd k c, fun k => absurd k c, fun k => absurd k c, fun k => absurd k c, fun k => absurd k c, fun _ => fl_vf F.1, fun _ _ k => fl_vf (F.2 k).1, fun _ _ k => fl_vf (F.2 k).2.1, fun _ _ k => (F.2 k).2.2.1, fun _ _ k => fl_vf (F.2 k).2.2.2.1, fun _ _ k => (F.2 k).2.2.2.2.1.n, fun _ _ k => (F.2 k).2.2.2.2.2.n⟩
  · rw [pd_wE]
    unfold pd_w
    split
    · exact ⟨hl, vc_0.w (by decide) (by decide)⟩
    · split
      · exact ⟨hl, vc_0.w (by decide) (by decide)⟩
      · rename_i k
        exact ⟨(F.2 k).2.2.2.2.1, (F.2 k).2.2.2.2.2⟩
theorem pd_dry {x : UInt32} (h : fok x) (hs : 0 ≤ zf x → FP.Core.sgn (FP.Core.val32 x) = false) : Native.java_lang_Math.nans.pick32 true FP.fconst0 x = (if 0 ≤ (Op.cmpValue (FP.fcmp x FP.fconst0) .g) then x else FP.fconst0) := by
  have c1 : fok FP.fconst0 := fok_0
  have c2 : zf FP.fconst0 = 0 := zf_0
  rw [ff_pick c1 h, c2]
  by_cases hc : 0 ≤ (Op.cmpValue (FP.fcmp x FP.fconst0) .g)
  · rw [if_pos hc]
    have hc' := (ff_ge0 h c1 _).mp hc
    rw [c2] at hc'
    by_cases e : zf x = 0
    · have : x = FP.fconst0 := ff_zero h (hs hc') e
      rw [this]
      decide +kernel
    · rw [if_pos (by omega), if_pos rfl]
  · rw [if_neg hc]
    have hc' : ¬ zf FP.fconst0 ≤ zf x := fun h9 => hc ((ff_ge0 h c1 _).mpr h9)
    rw [c2] at hc'
    rw [if_neg (by omega), if_neg (by omega), if_pos rfl]
theorem pd_scour {lv h : UInt64} {si : UInt32} {sc : Int32} (hl : vr lv (-80) 88) (hs : fr si 32) (hh : vr h (-32) 40) :
    n_X3_scourOut lv si sc h ∧ vr (f_X3_scourOut lv si sc h).1 (-80) 88 ∧ fr (f_X3_scourOut lv si sc h).2 32 ∧ dok (FP.dsub lv h) ∧ ((¬ (Op.cmpValue (FP.dcmp (FP.dsub lv h) FP.dconst1) .l) < 0) → dok (FP.dsub lv 4598175219545276416)) ∧ fok (FP.fsub si 1040187392) ∧ Native.java_lang_Math.nans.pick32 true FP.fconst0 (FP.fsub si 1040187392) = (if 0 ≤ (Op.cmpValue (FP.fcmp (FP.fsub si 1040187392) FP.fconst0) .g) then (FP.fsub si 1040187392) else FP.fconst0) := by
  have d0 := hl.sub hh (-120) 120 (by decide) (by decide) (by decide) (by decide)
  have sfin := hs.fin (by decide)
  have hx : fok (FP.fsub si 1040187392) := (FP.Core.notNaN_iff32 _).mp (FP.Core.fsub_out sfin.notNaN fc_8th.1)
  have hle : zf (FP.fsub si 1040187392) ≤ zf si := ff_sub_le sfin fc_8th.1 hs.1 (by have := fc_8th.2; omega)
  have hdry := pd_dry hx (fun h0 => ff_sub_sgn sfin fc_8th.1 fc_8th.2 h0)
  have L : (¬ (Op.cmpValue (FP.dcmp (FP.dsub lv h) FP.dconst1) .l) < 0) → vr (FP.dsub lv 4598175219545276416) (-80) 88 := fun hc => by
    rw [fl_lt0 d0.ok vc_1.ok, vc_1.eqz] at hc
    have l32 : vr lv (-32) 88 := hl.lo (by
      refine Int.le_of_not_gt fun hlt => ?_
      have m1 := hh.2.1
      have := fl_sub_le hl.1 hh.1 dok_0 (by rw [zdz_0]; omega)
      rw [zdz_0] at this
      have := fl_E_pos
      omega)
    exact (l32.sub vc_q (-34) 86 (by decide) (by decide) (by decide) (by decide)).w (by decide) (by decide)
  refine ⟨?_, ?_, ?_, d0.ok, fun hc => (L hc).ok, hx, hdry⟩
  · unfold n_X3_scourOut
    exact ⟨fun _ => d0.n, fun _ c => (L c).n, fun _ _ => fl_vf32 hx⟩
  · unfold f_X3_scourOut
    split
    · exact hl
    · split
      · exact hl
      · rename_i c
        split
        · exact L c
        · exact L c
  · unfold f_X3_scourOut
    split
    · exact hs
    · split
      · exact hs
      · split
        · rename_i c
          have c' := (ff_ge0 hx fok_0 _).mp c
          rw [zf_0] at c'
          exact ⟨hx, c', Int.le_trans hle hs.2.2⟩
        · exact ⟨fok_0, by rw [show zf FP.fconst0 = 0 from zf_0]; decide, by rw [show zf FP.fconst0 = 0 from zf_0]; exact Int.mul_nonneg (by decide) (Int.natCast_nonneg _)⟩
theorem pd_goBy {lv h : UInt64} {si : UInt32} {g s : Nat} {sc : Int32} (hl : vr lv (-80) 88) (hs : fr si 32) (hg : g ≤ 3) (hw : s ≤ 4) (hh : vr h (-32) 40) :
    n_X3_goBy lv si (nI g) (nI s) sc h ∧ ∀ u5 u6 u7, (u5, u6, u7) = f_X3_goBy lv si (nI g) (nI s) sc h → vr u5 (-80) 88 ∧ fr u6 32 ∧ vr u7 0 1058 := by
  obtain ⟨a1, a2, a3⟩ := pd_fill hl hs hg hh
  obtain ⟨b1, b2, b3⟩ := pd_wheel (s := s) a2 a3 hw hh
  obtain ⟨c1, c2, c3, -⟩ := pd_scour (sc := sc) b2 a3 hh
  refine ⟨?_, ?_⟩
  · unfold n_X3_goBy
    refine ⟨a1, ?_, ?_⟩
    · intro u3 u4 e
      rw [← e] at b1
      exact b1
    · intro u3 u4 e u7 u8 e2
      rw [← e] at c1
      dsimp only at c1
      rw [← e2] at c1
      exact c1
  · intro u5 u6 u7 e
    unfold f_X3_goBy at e
    injection e with e1 e2
    injection e2 with e2 e3
    rw [e1, e2, e3]
    exact ⟨c2, c3, b3⟩
