/-! the pond as the law reckons it -/
theorem ff_sub_ge {a b V : UInt32} (ha : FP.Core.FFin a) (hb : FP.Core.FFin b) (hV : fok V) (h : zf V ≤ zf a - zf b) : zf V ≤ zf (FP.fsub a b) := by
  show _ ≤ FP.Core.zval _ (FP.Core.val32 (FP.Core.fsub a b))
  rw [FP.Core.val32_fsub]
  refine FP.Core.sum_ge FP.Core.good_b32 ha (ff_negfin hb) (FP.Core.val32_fits a) (FP.Core.negate_fits (FP.Core.val32_fits b)) (FP.Core.val32_fits V) hV ?_
  rw [FP.Core.zval_negate]
  show zf V ≤ zf a + -zf b
  omega
theorem tp_silt {si : UInt32} (hs : fr si 32) : (0 ≤ (Op.cmpValue (FP.fcmp si 1040187392) .g)) ↔ (0 ≤ (Op.cmpValue (FP.fcmp (FP.fsub si 1040187392) FP.fconst0) .g)) := by
  have sfin := hs.fin (by decide)
  have hx : fok (FP.fsub si 1040187392) := (FP.Core.notNaN_iff32 _).mp (FP.Core.fsub_out sfin.notNaN fc_8th.1)
  have h8 : fok 1040187392 := (FP.Core.notNaN_iff32 _).mp fc_8th.1.notNaN
  rw [ff_ge0 hs.1 h8, ff_ge0 hx (show fok FP.fconst0 from fok_0), show zf FP.fconst0 = 0 from zf_0]
  refine ⟨fun h => ?_, fun h => ?_⟩
  · have := ff_sub_ge sfin fc_8th.1 (show fok 0 from fok_0) (by rw [zf_0]; omega)
    rwa [zf_0] at this
  · refine Int.le_of_not_gt fun hlt => ?_
    have := ff_sub_le sfin fc_8th.1 ff_m1.1 (by rw [ff_m1.2]; omega)
    rw [ff_m1.2] at this
    omega
section
variable {tk mo sc : Int32} {su : UInt64}
theorem tp_fill (ga : Int32) (lv : UInt64) (si : UInt32) : f_X6_go_9 tk mo su ga 1 lv si = f_X3_fill lv si ga (f_X6_sea mo su tk) := by
  rw [f_X6_go_9.eq_2]
  rfl
theorem tp_fillN (ga : Int32) (lv : UInt64) (si : UInt32) (h : n_X3_fill lv si ga (f_X6_sea mo su tk)) : n_X6_go_9 tk mo su ga 1 lv si := by
  rw [n_X6_go_9.eq_2]
  exact h
theorem tp_head (x : UInt64) : f_X6_go_87 tk mo su x 1 = FP.dsub x (pd_m (f_X6_sea mo su tk)) := by
  rw [f_X6_go_87.eq_2]
  unfold pd_m
  split
  · rfl
  · rfl
theorem tp_headN {x : UInt64} (h : dok (FP.dsub x (pd_m (f_X6_sea mo su tk)))) : n_X6_go_87 tk mo su x 1 := by
  rw [n_X6_go_87.eq_2]
  unfold pd_m at h
  refine ⟨fun c => ?_, fun c => ?_⟩
  · rw [if_pos c] at h
    exact fl_vf h
  · rw [if_neg c] at h
    exact fl_vf h
theorem tp_wheel (sl : Int32) (si : UInt32) (lv m fo : UInt64) : f_X6_go_108 sl si (FP.dsub lv m) 1 lv fo = pd_w lv si sl m := by
  rw [f_X6_go_108.eq_2]
  rfl
theorem tp_wheelN {s : Nat} {si : UInt32} {lv m fo : UInt64} (hl : vr lv (-80) 88) (hs : fr si 32) (hg : s ≤ 4) (hm : vr m (-4) 40) : n_X6_go_108 (nI s) si (FP.dsub lv m) 1 lv fo := by
  obtain ⟨-, F⟩ := pd_out (s := s) hl hs hg hm
  unfold pd_o at F
  rw [n_X6_go_108.eq_2]
  exact ⟨fun _ k => fl_vf (F k).1, fun _ k => fl_vf (F k).2.1, fun _ k => (F k).2.2.1, fun _ k => fl_vf (F k).2.2.2.1, fun _ k => (F k).2.2.2.2.1.n, fun _ k => (F k).2.2.2.2.2.n⟩
theorem tp_scour {lv : UInt64} {si : UInt32} (hs : fr si 32) : f_X6_go_165 tk mo su sc 1 lv si = f_X3_scourOut lv si sc (f_X6_sea mo su tk) := by
  rw [f_X6_go_165.eq_2]
  unfold f_X3_scourOut
  split
  · rfl
  · split
    · rfl
    · by_cases c : 0 ≤ (Op.cmpValue (FP.fcmp si 1040187392) .g)
      · rw [if_pos c, if_pos ((tp_silt hs).mp c)]
      · rw [if_neg c, if_neg (fun h => c ((tp_silt hs).mpr h))]
theorem tp_scourN {lv : UInt64} {si : UInt32} (h : n_X3_scourOut lv si sc (f_X6_sea mo su tk)) : n_X6_go_165 tk mo su sc 1 lv si := by
  rw [n_X6_go_165.eq_2]
  exact ⟨h.1, h.2.1, fun a b _ => h.2.2 a b⟩
end
