section
variable {tk fh lh aw : Int32} {n P p : Nat} {dl : Nat → UInt32} {pl dr sp ow gr we du sa : Nat → Int32} {le : Nat → UInt64} {r : UInt64} {pr rc : Nat → Nat → Int32}
theorem wt_315 (hc : (nI p).toNatClampNeg = p) : f_X6_go_315 (nI p) r dl 1 = gd_gets (dl p) r := by
  rw [f_X6_go_315.eq_2, hc]
  rfl
theorem wt_346 (hc : (nI p).toNatClampNeg = p) {j : Nat} (hj : j < 10) (h0 : pr p 0 = nI j) (h1 : rc j 1 = gr j) (hg : gr j = 0 ∨ gr j = 1 ∨ gr j = 2) : f_X6_go_346 (nI p) pr rc 1 = f_X5_paceOf (gr j) := by
  have hcj : (nI j).toNatClampNeg = j := nI_clamp (by omega)
  rw [f_X6_go_346.eq_2, hc, show pr p (0 : Int32).toNatClampNeg = nI j from h0, hcj, show rc j (1 : Int32).toNatClampNeg = gr j from h1]
  unfold f_X5_paceOf
  rcases hg with e | e | e <;> rw [e] <;> rfl
theorem wt_418 (hc : (nI p).toNatClampNeg = p) {j : Nat} (hj : j < 10) (h0 : pr p 0 = nI j) (h1 : rc j 1 = gr j) : f_X6_go_418 (nI p) pr rc 1 = f_X5_hardnessOf (gr j) := by
  have hcj : (nI j).toNatClampNeg = j := nI_clamp (by omega)
  rw [f_X6_go_418.eq_2, hc, show pr p (0 : Int32).toNatClampNeg = nI j from h0, hcj, show rc j (1 : Int32).toNatClampNeg = gr j from h1]
  rfl
theorem wt_396 (hc : (nI p).toNatClampNeg = p) {j : Nat} (hj : j < 10) (h0 : pr p 0 = nI j) (pace : UInt64) : f_X6_go_396 (nI p) dl le pr (gd_gets (dl p) r) pace 1 le = vf_upd le j (gd_left (le j) (gd_does (dl p) r) pace) := by
  have hcj : (nI j).toNatClampNeg = j := nI_clamp (by omega)
  rw [f_X6_go_396.eq_2, hc, show pr p (0 : Int32).toNatClampNeg = nI j from h0, hcj]
  unfold gd_left gd_rest gd_does gd_need
  split
  · rfl
  · rfl
theorem wt_457 (hc : (nI p).toNatClampNeg = p) (x : UInt32) : f_X6_go_457 (nI p) 1 (vf_upd dl p x) = vf_upd dl p (gd_blunt x) := by
  rw [f_X6_go_457.eq_2, hc, wk_us]
  unfold gd_blunt
  split
  · rfl
  · rw [wt_upd2]
/-- the law's own duties at a pair's turn -/
theorem wt_n (hn : n ≤ 10) (hP : P ≤ 3) (hp : p < P) (hawn : n_X6_isAwake tk fh lh) (hm : ti n P dl pl dr le sa) (hg : ∀ k, k < n → gr k = 0 ∨ gr k = 1 ∨ gr k = 2) (hr : vr r 0 1058) (hw : tw n P pl dr sp ow gr we du sa pr rc) : n_X6_go_248 tk fh lh n (nI p) 1 r dl le pr rc := by
  have hc : (nI p).toNatClampNeg = p := nI_clamp (by omega)
  have ip : vp_in (nI p) 3 := vp_in_nI (by omega) (by decide)
  obtain ⟨m1, m2, m3, m4, m5, m6⟩ := hm
  obtain ⟨w0, w1, w2⟩ := hw.1 p hp
  have n4 := nf_add ((m1 p).fin (by decide)) (m1 p).2.1 fc_8n
  have hd := hr.sub vc_1 (-8) 1058 (by decide) (by decide) (by decide) (by decide)
  have hJ : ¬ pr p 0 < 0 → ∃ j, j < n ∧ pl p = nI j ∧ sa j = 1 := fun h => by
    rcases m3 p hp with e | e
    · rw [w0, e] at h
      exact absurd (by decide) h
    · exact e
  rw [n_X6_go_248.eq_2, hc]
  refine ⟨v13, fun _ => hawn, fun _ a b _ => absurd a b, fun _ a b _ => absurd a b, fun _ a b _ => absurd a b, fun _ a b _ => absurd a b, fun _ a b _ => absurd a b, fun _ _ => v03, fun _ _ _ _ _ => v23, fun _ _ _ _ _ => ip, fun _ _ _ _ _ => fl_vf32 n4.1, fun _ _ _ _ _ _ => hd.n, fun _ _ _ _ _ _ => hd.n, ?_, fun _ _ _ => ip, fun _ _ _ => ((m1 p).f2d (by decide) (by decide)).n, fun _ _ _ => (gd_needV (m1 p)).2.n, fun _ _ _ => ?_, ?_, ?_, ?_, ?_, ?_, ?_, ?_, ?_, ?_, ?_, ?_, ?_, ?_, ?_, fun _ _ => ip⟩
  · intro _ _ h
    obtain ⟨j, hj, e, -⟩ := hJ h
    rw [show pr p (0 : Int32).toNatClampNeg = nI j from w0.trans e]
    exact vp_in_nI hj (by omega)
  · rw [n_X6_go_315.eq_2]
    trivial
  all_goals intro _ _ h
  all_goals
    obtain ⟨j, hj, e, hs⟩ := hJ h
    have hj10 : j < 10 := by omega
    have h0 : pr p 0 = nI j := w0.trans e
    have e0 : pr p (0 : Int32).toNatClampNeg = nI j := h0
    obtain ⟨-, k1, -, -, k4⟩ := hw.2 j hj
    have hcj : (nI j).toNatClampNeg = j := nI_clamp (by omega)
    have ij : vp_in (nI j) 10 := vp_in_nI hj10 (by decide)
    have E1 := wt_315 (dl := dl) (r := r) hc
    have E2 := wt_346 hc hj10 h0 k1 (hg j hj)
    have E3 := wt_418 hc hj10 h0 k1
    have a3 := gd_doesV (m1 p) hr
    have hD := gd_moreV (m1 p) a3 (fc_hard (gr j))
    have hR := gd_restV (m2 j) a3 (vc_pace (gr j))
    intro x ex
    rw [E1] at ex
    subst ex
  · exact (hr.sub (gd_getsV (m1 p) hr).1 (-16) 1058 (by decide) (by decide) (by decide) (by decide)).n
  · exact a3.n
  · rw [n_X6_go_346.eq_2]
    exact v15
  all_goals
    intro x2 ex2
    rw [E2] at ex2
    subst ex2
  · rw [e0]; exact ij
  · exact hR.1.n
  · rw [e0, hcj]; exact fl_vf hR.2.1
  · rw [n_X6_go_396.eq_2, hc, e0]
    exact ⟨v03, fun _ => ij, fun _ => ij⟩
  all_goals
    intro x3 ex3
    rw [wt_396 hc hj10 h0] at ex3
    subst ex3
  · rw [n_X6_go_418.eq_2]
    exact v15
  all_goals
    intro x4 ex4
    rw [E3] at ex4
    subst ex4
  · exact fl_vf32 hD.1
  · exact fl_vf32 hD.2.1
  · exact fl_vf32 hD.2.2.1
  · exact fl_vf32 hD.2.2.2.1
  · rw [n_X6_go_457.eq_2]
    exact ip
  · intro _ _ _
    exact v45
/-- a pair's turn, the class's and the law's -/
theorem wt_step (hn : n ≤ 10) (hP : P ≤ 3) (hp : p < P) (haw : f_X6_isAwake tk fh lh = aw) (hm : ti n P dl pl dr le sa) (hg : ∀ k, k < n → gr k = 0 ∨ gr k = 1 ∨ gr k = 2) (hr : vr r 0 1058) (hw : tw n P pl dr sp ow gr we du sa pr rc) :
    ∃ (r' : UInt64) (dl' : Nat → UInt32) (pl' dr' sp' sa' : Nat → Int32) (le' : Nat → UInt64) (pr' rc' : Nat → Nat → Int32),
      (∀ fuel, f_X2_goBy_6 (nI P) (nI n) gr aw (fuel + 1) r (nI p) sa le dl pl dr sp = f_X2_goBy_6 (nI P) (nI n) gr aw fuel r' (nI (p + 1)) sa' le' dl' pl' dr' sp') ∧
      f_X6_go_248 tk fh lh (nI p) 1 r dl le pr rc = (r', dl', le', pr', rc') ∧
      (∀ fuel, n_X2_goBy_6 (nI P) (nI n) gr aw fuel r' (nI (p + 1)) sa' le' dl' pl' dr' sp' → n_X2_goBy_6 (nI P) (nI n) gr aw (fuel + 1) r (nI p) sa le dl pl dr sp) ∧
      vr r' 0 1058 ∧ ti n P dl' pl' dr' le' sa' ∧ mr sa sa' ∧ tw n P pl' dr' sp' ow gr we du sa' pr' rc' := by
  have hc : (nI p).toNatClampNeg = p := nI_clamp (by omega)
  have hpn : ¬ nI P ≤ nI p := nI_ge hp (by omega)
  have ip : vp_in (nI p) 3 := vp_in_nI (by omega) (by decide)
  have hs : nI p + 1 = nI (p + 1) := nI_1 p
  have hm0 := hm
  obtain ⟨m1, m2, m3, m4, m5, m6⟩ := hm
  obtain ⟨w0, w1, w2⟩ := hw.1 p hp
  have v0 : pr p (0 : Int32).toNatClampNeg = pl p := w0
  have v1 : pr p (1 : Int32).toNatClampNeg = dr p := w1
  have v2 : pr p (2 : Int32).toNatClampNeg = sp p := w2
  have k1 : dok FP.dconst1 := vc_1.ok
  by_cases cd : dr p ≤ 0
  · by_cases ca : aw = 0
    · refine ⟨r, dl, pl, dr, sp, sa, le, pr, rc, ?_, ?_, ?_, hr, hm0, mr.rf, hw⟩
      · intro fuel
        rw [f_X2_goBy_6.eq_2, if_neg hpn, hc, if_pos cd, if_pos ca, if_pos ca, hs]
      · rw [f_X6_go_248.eq_2, hc, v1, if_pos cd, haw, if_pos ca, if_pos ca]
      · intro fuel k
        rw [n_X2_goBy_6.eq_2, hc, hs]
        exact ⟨fun _ => ip, fun _ _ _ _ => k, fun _ _ _ c => absurd ca c, fun _ _ _ c => absurd ca c, fun _ _ _ c => absurd ca c, fun _ _ _ c => absurd ca c, fun _ _ c => absurd ca c, fun _ _ c => absurd ca c, fun _ _ c => absurd ca c, fun _ _ c => absurd ca c, fun _ _ c => absurd ca c, fun _ _ c => absurd ca c, fun _ _ c => absurd ca c, fun _ _ c => absurd ca c, fun _ c => absurd cd c, fun _ c => absurd cd c⟩
    · rcases m3 p hp with hq | ⟨j, hj, hq, hsj⟩
      · have hh0 : f_X0_has (nI n) (pl p) = 0 := by rw [hq]; exact wk_has0 n
        have hneg : pl p < 0 := by rw [hq]; decide
        by_cases cf : (Op.cmpValue (FP.dcmp r FP.dconst1) .l) ≤ 0
        · refine ⟨r, dl, pl, dr, sp, sa, le, pr, rc, ?_, ?_, ?_, hr, hm0, mr.rf, hw⟩
          · intro fuel
            rw [f_X2_goBy_6.eq_2, if_neg hpn, hc, if_pos cd, if_neg ca, if_pos hh0, if_neg ca, if_pos cf, hs]
          · rw [f_X6_go_248.eq_2, hc, v1, if_pos cd, haw, if_neg ca, v0, if_pos hneg, if_neg ca, if_pos cf]
          · intro fuel k
            rw [n_X2_goBy_6.eq_2, hc, hs]
            exact ⟨fun _ => ip, fun _ _ c => absurd c ca, fun _ _ c => absurd c ca, fun _ _ c => absurd c ca, fun _ _ c => absurd c ca, fun _ _ c => absurd c ca, fun _ _ _ _ c => absurd c ca, fun _ _ _ _ _ _ => k, fun _ _ _ _ _ c => absurd cf c, fun _ _ _ _ _ c => absurd cf c, fun _ _ _ _ _ c => absurd cf c, fun _ _ _ c => absurd hh0 c, fun _ _ _ c => absurd hh0 c, fun _ _ _ c => absurd hh0 c, fun _ c => absurd cd c, fun _ c => absurd cd c⟩
        · have cf' : ¬ zd r ≤ zd FP.dconst1 := fun h => cf ((fl_le0 hr.ok k1 _).mpr h)
          have n4 := nf_add ((m1 p).fin (by decide)) (m1 p).2.1 fc_8n
          have n5 := gd_bluntV n4.1 n4.2
          have hws : f_X2_spark dl sp (nI p) = (vf_upd dl p (gd_blunt (FP.fadd (dl p) 1040187392)), upd sp p (sp p + 1)) := by
            unfold f_X2_spark
            rw [hc, gd_bluntE dl p (by omega)]
          have hnw : n_X2_spark dl (nI p) := by
            unfold n_X2_spark
            refine ⟨ip, ?_⟩
            unfold n_X2_blunt
            rw [hc]
            exact ⟨ip, fl_vf32 n4.1⟩
          have hd : vr (FP.dsub r FP.dconst1) 0 1058 := by
            refine (hr.sub vc_1 (-8) 1058 (by decide) (by decide) (by decide) (by decide)).lo ?_
            rw [Int.zero_mul]
            have := fl_sub_ge hr.1 vc_1.1 dok_0 (by rw [zdz_0]; omega)
            rwa [zdz_0] at this
          refine ⟨FP.dsub r FP.dconst1, vf_upd dl p (gd_blunt (FP.fadd (dl p) 1040187392)), pl, dr, upd sp p (sp p + 1), sa, le, vf_upd pr p (upd (pr p) 2 (sp p + 1)), rc, ?_, ?_, ?_, hd, ti_dl hm0 n5.1, mr.rf, ?_⟩
          · intro fuel
            rw [f_X2_goBy_6.eq_2, if_neg hpn, hc, if_pos cd, if_neg ca, if_pos hh0, if_neg ca, if_neg cf, hs, hws]
          · rw [f_X6_go_248.eq_2, hc, v1, if_pos cd, haw, if_neg ca, v0, if_pos hneg, if_neg ca, if_neg cf, v2]
            unfold gd_blunt
            split
            · rfl
            · rfl
          · intro fuel k
            rw [n_X2_goBy_6.eq_2, hc, hs, hws]
            refine ⟨fun _ => ip, fun _ _ c => absurd c ca, fun _ _ c => absurd c ca, fun _ _ c => absurd c ca, fun _ _ c => absurd c ca, fun _ _ c => absurd c ca, fun _ _ _ _ c => absurd c ca, fun _ _ _ _ _ c => absurd c cf, fun _ _ _ _ _ _ => hnw, fun _ _ _ _ _ _ => ?_, fun _ _ _ _ _ _ => ?_, fun _ _ _ c => absurd hh0 c, fun _ _ _ c => absurd hh0 c, fun _ _ _ c => absurd hh0 c, fun _ c => absurd cd c, fun _ c => absurd cd c⟩
            · intro u23 u24 e
              exact hd.n
            · intro u23 u24 e
              cases e
              exact k
          · exact tw_p hw (fun q e => ⟨rfl, rfl, pk_un e⟩) ⟨(pk_un (by decide)).trans w0, (pk_un (by decide)).trans w1, pk_us.trans pk_us.symm⟩
      · have hj10 : j < 10 := by omega
        have hh : ¬ f_X0_has (nI n) (pl p) = 0 := by rw [hq, wk_has1 hj hn]; decide
        have h0 : pr p 0 = nI j := w0.trans hq
        have hcj : (nI j).toNatClampNeg = j := nI_clamp (by omega)
        have hneg : ¬ pl p < 0 := by rw [hq]; exact nI_pos (by omega)
        obtain ⟨-, y1, -, -, y4⟩ := hw.2 j hj
        obtain ⟨x1, x2⟩ := gd_X2 (dl := dl) (gr := gr) (le := le) (r := r) (by omega : p < 3) hj10 hq hsj
        have hnc := gd_X2n (dl := dl) (pl := pl) (gr := gr) (sa := sa) (le := le) (r := r) (by omega : p < 3) hj10 hq (m1 p) (m2 j) hr
        have hd := ge_dsub (dl := dl) (p := p) (m1 p) hr
        have a3 := gd_doesV (m1 p) hr
        have hD := (gd_moreV (m1 p) a3 (fc_hard (gr j))).2.2.2.2.1
        have hL := (gd_restV (m2 j) a3 (vc_pace (gr j))).2.2.1
        have hE := wt_end hL
        have T : f_X6_go_248 tk fh lh (nI p) 1 r dl le pr rc = (if (Op.cmpValue (FP.dcmp (gd_left (le j) (gd_does (dl p) r) (f_X5_paceOf (gr j))) FP.dconst0) .l) = 0 then (FP.dsub r (gd_gets (dl p) r), vf_upd dl p (gd_blunt (FP.fadd (dl p) (gd_more (gd_does (dl p) r) (f_X5_hardnessOf (gr j))))), vf_upd le j (gd_left (le j) (gd_does (dl p) r) (f_X5_paceOf (gr j))), vf_upd pr p (upd (pr p) 0 (-1)), vf_upd rc j (upd (rc j) 4 2)) else (FP.dsub r (gd_gets (dl p) r), vf_upd dl p (gd_blunt (FP.fadd (dl p) (gd_more (gd_does (dl p) r) (f_X5_hardnessOf (gr j))))), vf_upd le j (gd_left (le j) (gd_does (dl p) r) (f_X5_paceOf (gr j))), pr, rc)) := by
          rw [f_X6_go_248.eq_2, hc, v1, if_pos cd, haw, if_neg ca, v0, if_neg hneg, wt_315 hc, wt_346 hc hj10 h0 y1 (hg j hj)]
          try dsimp only
          rw [wt_396 hc hj10 h0]
          try dsimp only
          rw [wt_418 hc hj10 h0 y1]
          try dsimp only
          rw [show (FP.fadd (dl p) (FP.fdiv (FP.fmul (FP.d2f (FP.ddiv (gd_gets (dl p) r) (FP.dadd FP.dconst1 (FP.f2d (dl p))))) (f_X5_hardnessOf (gr j))) 1115684864)) = FP.fadd (dl p) (gd_more (gd_does (dl p) r) (f_X5_hardnessOf (gr j))) from rfl, wt_457 hc]
          try dsimp only
          rw [hq, hcj, show vf_upd le j (gd_left (le j) (gd_does (dl p) r) (f_X5_paceOf (gr j))) j = gd_left (le j) (gd_does (dl p) r) (f_X5_paceOf (gr j)) from if_pos rfl]
          rfl
        by_cases ce : gd_end (gd_left (le j) (gd_does (dl p) r) (f_X5_paceOf (gr j)))
        · have hx := x1 ce
          refine ⟨FP.dsub r (gd_gets (dl p) r), vf_upd dl p (gd_blunt (FP.fadd (dl p) (gd_more (gd_does (dl p) r) (f_X5_hardnessOf (gr j))))), upd pl p (-1), dr, sp, upd sa j 2, vf_upd le j (gd_left (le j) (gd_does (dl p) r) (f_X5_paceOf (gr j))), vf_upd pr p (upd (pr p) 0 (-1)), vf_upd rc j (upd (rc j) 4 2), ?_, ?_, ?_, hd, ti_end hm0 hD hL (hE.1 ce) hp (by omega) hq, ?_, ?_⟩
          · intro fuel
            rw [f_X2_goBy_6.eq_2, if_neg hpn, hc, if_pos cd, if_neg ca, if_neg hh, hs, hx]
          · rw [T]
            exact if_pos ce
          · intro fuel k
            rw [n_X2_goBy_6.eq_2, hc, hs, hx]
            refine ⟨fun _ => ip, fun _ _ c => absurd c ca, fun _ _ c => absurd c ca, fun _ _ c => absurd c ca, fun _ _ c => absurd c ca, fun _ _ c => absurd c ca, fun _ _ _ c => absurd c hh, fun _ _ _ c => absurd c hh, fun _ _ _ c => absurd c hh, fun _ _ _ c => absurd c hh, fun _ _ _ c => absurd c hh, fun _ _ _ _ => hnc, fun _ _ _ _ => ?_, fun _ _ _ _ => ?_, fun _ c => absurd cd c, fun _ c => absurd cd c⟩
            · intro r28 u29 u30 u31 u32 e
              cases e
              exact hd.n
            · intro r28 u29 u30 u31 u32 e
              cases e
              exact k
          · intro k
            by_cases e : k = j
            · subst e
              exact Or.inr ⟨hsj, pk_us⟩
            · exact Or.inl (pk_un e)
          · exact tw_k (tw_p hw (fun q e => ⟨pk_un e, rfl, rfl⟩) ⟨pk_us.trans pk_us.symm, (pk_un (by decide)).trans w1, (pk_un (by decide)).trans w2⟩)
        · have hx := x2 ce
          refine ⟨FP.dsub r (gd_gets (dl p) r), vf_upd dl p (gd_blunt (FP.fadd (dl p) (gd_more (gd_does (dl p) r) (f_X5_hardnessOf (gr j))))), pl, dr, sp, sa, vf_upd le j (gd_left (le j) (gd_does (dl p) r) (f_X5_paceOf (gr j))), pr, rc, ?_, ?_, ?_, hd, ti_go hm0 hD hL (hE.2 ce) hsj, mr.rf, hw⟩
          · intro fuel
            rw [f_X2_goBy_6.eq_2, if_neg hpn, hc, if_pos cd, if_neg ca, if_neg hh, hs, hx]
          · rw [T]
            exact if_neg ce
          · intro fuel k
            rw [n_X2_goBy_6.eq_2, hc, hs, hx]
            refine ⟨fun _ => ip, fun _ _ c => absurd c ca, fun _ _ c => absurd c ca, fun _ _ c => absurd c ca, fun _ _ c => absurd c ca, fun _ _ c => absurd c ca, fun _ _ _ c => absurd c hh, fun _ _ _ c => absurd c hh, fun _ _ _ c => absurd c hh, fun _ _ _ c => absurd c hh, fun _ _ _ c => absurd c hh, fun _ _ _ _ => hnc, fun _ _ _ _ => ?_, fun _ _ _ _ => ?_, fun _ c => absurd cd c, fun _ c => absurd cd c⟩
            · intro r28 u29 u30 u31 u32 e
              cases e
              exact hd.n
            · intro r28 u29 u30 u31 u32 e
              cases e
              exact k
  · have U : upd dr p (dr p - 1) p = dr p - 1 := pk_us
    by_cases cz : dr p - 1 = 0
    · have hws : f_X2_dressOn dl dr (nI p) = (vf_upd dl p FP.fconst0, upd dr p (dr p - 1)) := by
        unfold f_X2_dressOn
        rw [hc, if_pos (U.trans cz)]
      refine ⟨r, vf_upd dl p FP.fconst0, pl, upd dr p (dr p - 1), sp, sa, le, vf_upd pr p (upd (pr p) 1 (dr p - 1)), rc, ?_, ?_, ?_, hr, ti_dr (ti_dl hm0 fr_0) cd, mr.rf, ?_⟩
      · intro fuel
        rw [f_X2_goBy_6.eq_2, if_neg hpn, hc, if_neg cd, hs, hws]
      · rw [f_X6_go_248.eq_2, hc, v1, if_neg cd, if_pos cz]
        rfl
      · intro fuel k
        rw [n_X2_goBy_6.eq_2, hc, hs, hws]
        refine ⟨fun _ => ip, fun _ c => absurd c cd, fun _ c => absurd c cd, fun _ c => absurd c cd, fun _ c => absurd c cd, fun _ c => absurd c cd, fun _ c => absurd c cd, fun _ c => absurd c cd, fun _ c => absurd c cd, fun _ c => absurd c cd, fun _ c => absurd c cd, fun _ c => absurd c cd, fun _ c => absurd c cd, fun _ c => absurd c cd, fun _ _ => ip, fun _ _ => ?_⟩
        intro u17 u18 e
        cases e
        exact k
      · exact tw_p hw (fun q e => ⟨rfl, pk_un e, rfl⟩) ⟨(pk_un (by decide)).trans w0, pk_us.trans pk_us.symm, (pk_un (by decide)).trans w2⟩
    · have hws : f_X2_dressOn dl dr (nI p) = (dl, upd dr p (dr p - 1)) := by
        unfold f_X2_dressOn
        rw [hc, if_neg (fun h => cz (U.symm.trans h))]
      refine ⟨r, dl, pl, upd dr p (dr p - 1), sp, sa, le, vf_upd pr p (upd (pr p) 1 (dr p - 1)), rc, ?_, ?_, ?_, hr, ti_dr hm0 cd, mr.rf, ?_⟩
      · intro fuel
        rw [f_X2_goBy_6.eq_2, if_neg hpn, hc, if_neg cd, hs, hws]
      · rw [f_X6_go_248.eq_2, hc, v1, if_neg cd, if_neg cz]
        rfl
      · intro fuel k
        rw [n_X2_goBy_6.eq_2, hc, hs, hws]
        refine ⟨fun _ => ip, fun _ c => absurd c cd, fun _ c => absurd c cd, fun _ c => absurd c cd, fun _ c => absurd c cd, fun _ c => absurd c cd, fun _ c => absurd c cd, fun _ c => absurd c cd, fun _ c => absurd c cd, fun _ c => absurd c cd, fun _ c => absurd c cd, fun _ c => absurd c cd, fun _ c => absurd c cd, fun _ c => absurd c cd, fun _ _ => ip, fun _ _ => ?_⟩
        intro u17 u18 e
        cases e
        exact k
      · exact tw_p hw (fun q e => ⟨rfl, pk_un e, rfl⟩) ⟨(pk_un (by decide)).trans w0, pk_us.trans pk_us.symm, (pk_un (by decide)).trans w2⟩
end
