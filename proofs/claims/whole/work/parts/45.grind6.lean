/-! one pair of stones, the reckoner's -/
section
variable {dl : Nat → UInt32} {pl gr dn : Nat → Int32} {le : Nat → UInt64} {p j n : Nat} {r : UInt64} {rc : Nat → Nat → Int32}
theorem ge_left {d : UInt32} {x : UInt64} {pace : UInt64} (hd : fr d 8) (hl : lr x) (hr : vr r 0 1058) (hp : vr pace 24 40) : Native.java_lang_Math.nans.pick64 true FP.dconst0 (FP.dsub x (FP.dmul (gd_does d r) pace)) = gd_left x (gd_does d r) pace := (gd_restV hl (gd_doesV hd hr) hp).2.2.2
theorem ge_dull {d : UInt32} {h : UInt32} (hd : fr d 8) (hr : vr r 0 1058) (hh : ∃ c r, FP.Core.val32 h = .fin false c r ∧ c ≠ 0) : Native.java_lang_Math.nans.pick32 false FP.fconst1 (FP.fadd d (FP.fdiv (FP.fmul (FP.d2f (gd_does d r)) h) 1115684864)) = gd_blunt (FP.fadd d (gd_more (gd_does d r) h)) := (gd_moreV hd (gd_doesV hd hr) hh).2.2.2.2.2
theorem ge_X6 (hp : p < 3) (hj : j < 10) (hg : rc j 1 = gr j) (hd : fr (dl p) 8) (hl : lr (le j)) (hr : vr r 0 1058) :
    (gd_end (gd_left (le j) (gd_does (dl p) r) (f_X5_paceOf (gr j))) → f_X6_grind dl pl le dn (nI p) (nI j) r rc = (FP.dsub r (gd_gets (dl p) r), vf_upd dl p (gd_blunt (FP.fadd (dl p) (gd_more (gd_does (dl p) r) (f_X5_hardnessOf (gr j))))), upd pl p (-1), vf_upd le j (gd_left (le j) (gd_does (dl p) r) (f_X5_paceOf (gr j))), upd dn j 1)) ∧
    (¬ gd_end (gd_left (le j) (gd_does (dl p) r) (f_X5_paceOf (gr j))) → f_X6_grind dl pl le dn (nI p) (nI j) r rc = (FP.dsub r (gd_gets (dl p) r), vf_upd dl p (gd_blunt (FP.fadd (dl p) (gd_more (gd_does (dl p) r) (f_X5_hardnessOf (gr j))))), pl, vf_upd le j (gd_left (le j) (gd_does (dl p) r) (f_X5_paceOf (gr j))), dn)) := by
  have hc : (nI p).toNatClampNeg = p := nI_clamp (by omega)
  have hcj : (nI j).toNatClampNeg = j := nI_clamp (by omega)
  have h1 : (1 : Int32).toNatClampNeg = 1 := rfl
  have hu : ∀ y : UInt64, vf_upd le j y j = y := fun y => if_pos rfl
  have hb : vp_nar .boolean 1 = 1 := rfl
  have e1 : Native.java_lang_Math.nans.pick64 false (FP.dadd FP.dconst1 (FP.f2d (dl p))) r = gd_gets (dl p) r := (gd_getsV hd hr).2.2.2
  have e2 : FP.ddiv (gd_gets (dl p) r) (FP.dadd FP.dconst1 (FP.f2d (dl p))) = gd_does (dl p) r := rfl
  have e3 := ge_left hd hl hr (vc_4.w (l' := 24) (h' := 40) (by decide) (by decide))
  have e4 := ge_left hd hl hr (vc_3.w (l' := 24) (h' := 40) (by decide) (by decide))
  have e5 := ge_left hd hl hr (vc_5.w (l' := 24) (h' := 40) (by decide) (by decide))
  have e6 := ge_dull hd hr fc_h1
  have e7 := ge_dull hd hr fc_h2
  unfold f_X6_grind f_X5_paceOf f_X5_hardnessOf
  rw [hc, hcj, h1]
  simp only [hu, hb]
  rw [e1, e2, e3, e4, e5, e6, e7, hg]
  unfold gd_end
  by_cases g0 : gr j = 0
  · have g1 : ¬ gr j = 1 := by rw [g0]; decide
    simp only [if_pos g0, if_neg g1]
    exact ⟨fun h => if_pos h, fun h => if_neg h⟩
  · simp only [if_neg g0]
    by_cases g1 : gr j = 1
    · simp only [if_pos g1]
      exact ⟨fun h => if_pos h, fun h => if_neg h⟩
    · simp only [if_neg g1]
      exact ⟨fun h => if_pos h, fun h => if_neg h⟩
theorem ge_dsub (hd : fr (dl p) 8) (hr : vr r 0 1058) : vr (FP.dsub r (gd_gets (dl p) r)) 0 1058 := by
  obtain ⟨g1, g2, g3, g4⟩ := gd_getsV hd hr
  refine (hr.sub g1 (-16) 1058 (by decide) (by decide) (by decide) (by decide)).lo ?_
  rw [Int.zero_mul]
  have := fl_sub_ge hr.1 g1.1 dok_0 (by rw [zdz_0]; omega)
  rwa [zdz_0] at this
theorem ge_get (hj : j < n) (hn : n ≤ 10) : n_Jx4a65c_get_915e3 (nI j) n :=
  ⟨⟨nI_pos (by omega), nI_lt hj (by omega)⟩, ⟨vp_in_nI hj (by omega), hn⟩, vp_in_nI hj (by omega)⟩
theorem ge_X6n (hp : p < 3) (hj : j < n) (hn : n ≤ 10) (hd : fr (dl p) 8) (hl : lr (le j)) (hr : vr r 0 1058) : n_X6_grind dl le (nI p) (nI j) r n rc := by
  have hc : (nI p).toNatClampNeg = p := nI_clamp (by omega)
  have hcj : (nI j).toNatClampNeg = j := nI_clamp (by omega)
  have e1 : Native.java_lang_Math.nans.pick64 false (FP.dadd FP.dconst1 (FP.f2d (dl p))) r = gd_gets (dl p) r := (gd_getsV hd hr).2.2.2
  have e2 : FP.ddiv (gd_gets (dl p) r) (FP.dadd FP.dconst1 (FP.f2d (dl p))) = gd_does (dl p) r := rfl
  obtain ⟨a1, a2⟩ := gd_needV hd
  have a3 := gd_doesV hd hr
  have b4 := gd_restV hl a3 (vc_4.w (l' := 24) (h' := 40) (by decide) (by decide))
  have b3 := gd_restV hl a3 (vc_3.w (l' := 24) (h' := 40) (by decide) (by decide))
  have b5 := gd_restV hl a3 (vc_5.w (l' := 24) (h' := 40) (by decide) (by decide))
  have d1 := gd_moreV hd a3 fc_h1
  have d2 := gd_moreV hd a3 fc_h2
  have k0 := ge_get hj hn
  have k1 : vp_in (nI j) n := vp_in_nI hj (by omega)
  have k2 : vp_in 1 5 := vp_in_nI (n := 1) (by decide) (by decide)
  have k3 : vp_in (nI p) 3 := vp_in_nI hp (by decide)
  have k4 : vp_in (nI j) 10 := vp_in_nI (by omega) (by decide)
  have m1 : vf_n64 (FP.f2d (dl p)) := a1.n
  have m2 : vf_n64 (FP.dadd FP.dconst1 (FP.f2d (dl p))) := a2.n
  have m3 : FP.dIsNaN (FP.dadd FP.dconst1 (FP.f2d (dl p))) = false := tk_nan64 a2.ok
  have m4 : FP.dIsNaN r = false := tk_nan64 hr.ok
  have m5 := a3.n
  have m6 := b4.1.n
  have m7 := b3.1.n
  have m8 := b5.1.n
  have m9 : vf_n64 (FP.dsub (le j) (FP.dmul (gd_does (dl p) r) 4616189618054758400)) := fl_vf b4.2.1
  have m10 : vf_n64 (FP.dsub (le j) (FP.dmul (gd_does (dl p) r) 4613937818241073152)) := fl_vf b3.2.1
  have m11 : vf_n64 (FP.dsub (le j) (FP.dmul (gd_does (dl p) r) 4617315517961601024)) := fl_vf b5.2.1
  have m12 : FP.dIsNaN FP.dconst0 = false := tk_nan64 dok_0
  have m13 : FP.dIsNaN (FP.dsub (le j) (FP.dmul (gd_does (dl p) r) 4616189618054758400)) = false := tk_nan64 b4.2.1
  have m14 : FP.dIsNaN (FP.dsub (le j) (FP.dmul (gd_does (dl p) r) 4613937818241073152)) = false := tk_nan64 b3.2.1
  have m15 : FP.dIsNaN (FP.dsub (le j) (FP.dmul (gd_does (dl p) r) 4617315517961601024)) = false := tk_nan64 b5.2.1
  have m16 := fl_vf32 d1.1
  have m17 := fl_vf32 d1.2.1
  have m18 := fl_vf32 d2.2.1
  have m19 : vf_n32 (FP.fdiv (FP.fmul (FP.d2f (gd_does (dl p) r)) FP.fconst1) 1115684864) := fl_vf32 d1.2.2.1
  have m20 : vf_n32 (FP.fdiv (FP.fmul (FP.d2f (gd_does (dl p) r)) FP.fconst2) 1115684864) := fl_vf32 d2.2.2.1
  have m21 : vf_n32 (FP.fadd (dl p) (FP.fdiv (FP.fmul (FP.d2f (gd_does (dl p) r)) FP.fconst1) 1115684864)) := fl_vf32 d1.2.2.2.1
  have m22 : vf_n32 (FP.fadd (dl p) (FP.fdiv (FP.fmul (FP.d2f (gd_does (dl p) r)) FP.fconst2) 1115684864)) := fl_vf32 d2.2.2.2.1
  have m23 : FP.fIsNaN FP.fconst1 = false := tk_nan32 fc_1.1
  have m24 : FP.fIsNaN (FP.fadd (dl p) (FP.fdiv (FP.fmul (FP.d2f (gd_does (dl p) r)) FP.fconst1) 1115684864)) = false := tk_nan32 d1.2.2.2.1
  have m25 : FP.fIsNaN (FP.fadd (dl p) (FP.fdiv (FP.fmul (FP.d2f (gd_does (dl p) r)) FP.fconst2) 1115684864)) = false := tk_nan32 d2.2.2.2.1
  have m26 := (ge_dsub hd hr).n
  clear d1 d2 b3 b4 b5 a1 a2 a3
  unfold n_X6_grind
  rw [hc, hcj, e1, e2]
  refine ⟨k0, k1, k2, k3, m1, m2, m3, m4, m5, k4, ?_⟩
  repeat' (first | (with_reducible apply And.intro) | (with_reducible assumption) | intro _)
end
