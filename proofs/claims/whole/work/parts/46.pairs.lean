/-! the pairs' turn -/
def mi (n P : Nat) (dl : Nat → UInt32) (pl : Nat → Int32) (le : Nat → UInt64) (sa dn : Nat → Int32) : Prop :=
  (∀ p, fr (dl p) 8) ∧ (∀ k, lr (le k)) ∧ (∀ p, p < P → pl p = -1 ∨ ∃ j, j < n ∧ pl p = nI j ∧ sa j = 1) ∧ (∀ p q, p < P → q < P → p ≠ q → pl p = pl q → pl p = -1) ∧ (∀ k, (sa k = 0 ∨ sa k = 1) ∧ dn k = 0 ∨ (sa k = 2 ∨ sa k = 3) ∧ dn k = 1)
def mr (sa sa' : Nat → Int32) : Prop := ∀ k, sa' k = sa k ∨ sa k = 1 ∧ sa' k = 2
theorem mr.rf {sa : Nat → Int32} : mr sa sa := fun _ => Or.inl rfl
theorem mr.tr {a b c : Nat → Int32} (h : mr a b) (g : mr b c) : mr a c := fun k => by
  rcases g k with g | ⟨g1, g2⟩
  · rcases h k with h | ⟨h1, h2⟩
    · exact Or.inl (g.trans h)
    · exact Or.inr ⟨h1, g.trans h2⟩
  · rcases h k with h | ⟨h1, h2⟩
    · exact Or.inr ⟨h.symm.trans g1, g2⟩
    · exact Or.inr ⟨h1, g2⟩
theorem fr_0 : fr FP.fconst0 8 := ⟨fok_0, by rw [show zf FP.fconst0 = 0 from zf_0]; decide, by rw [show zf FP.fconst0 = 0 from zf_0]; exact Int.mul_nonneg (by decide) (Int.natCast_nonneg _)⟩
theorem wk_us {f : Nat → UInt32} {k : Nat} {x : UInt32} : vf_upd f k x k = x := if_pos rfl
theorem wk_un {f : Nat → UInt32} {k j : Nat} {x : UInt32} (h : j ≠ k) : vf_upd f k x j = f j := if_neg h
theorem wk_frU {dl : Nat → UInt32} {p : Nat} {x : UInt32} (h : ∀ q, fr (dl q) 8) (hx : fr x 8) : ∀ q, fr (vf_upd dl p x q) 8 := fun q => by
  by_cases e : q = p
  · subst e; rw [wk_us]; exact hx
  · rw [wk_un e]; exact h q
theorem wk_lrU {le : Nat → UInt64} {p : Nat} {x : UInt64} (h : ∀ q, lr (le q)) (hx : lr x) : ∀ q, lr (vf_upd le p x q) := fun q => by
  by_cases e : q = p
  · subst e
    rw [show vf_upd le q x q = x from if_pos rfl]; exact hx
  · rw [show vf_upd le p x q = le q from if_neg e]; exact h q
theorem wk_neg (j : Nat) (hj : j < 2 ^ 31) : nI j ≠ -1 := fun h => by
  have := nI_pos hj
  rw [h] at this
  exact this (by decide)
theorem mi_dl {n P p : Nat} {dl : Nat → UInt32} {pl : Nat → Int32} {le : Nat → UInt64} {sa dn : Nat → Int32} {x : UInt32} (h : mi n P dl pl le sa dn) (hx : fr x 8) : mi n P (vf_upd dl p x) pl le sa dn :=
  ⟨wk_frU h.1 hx, h.2⟩
theorem mi_go {n P p j : Nat} {dl : Nat → UInt32} {pl : Nat → Int32} {le : Nat → UInt64} {sa dn : Nat → Int32} {x : UInt32} {y : UInt64} (h : mi n P dl pl le sa dn) (hx : fr x 8) (hy : lr y) : mi n P (vf_upd dl p x) pl (vf_upd le j y) sa dn :=
  ⟨wk_frU h.1 hx, wk_lrU h.2.1 hy, h.2.2⟩
theorem mi_end {n P p j : Nat} {dl : Nat → UInt32} {pl : Nat → Int32} {le : Nat → UInt64} {sa dn : Nat → Int32} {x : UInt32} {y : UInt64} (h : mi n P dl pl le sa dn) (hx : fr x 8) (hy : lr y) (hp : p < P) (hj : j < 2 ^ 31) (hpl : pl p = nI j) : mi n P (vf_upd dl p x) (upd pl p (-1)) (vf_upd le j y) (upd sa j 2) (upd dn j 1) := by
  obtain ⟨h1, h2, h3, h4, h5⟩ := h
  refine ⟨wk_frU h1 hx, wk_lrU h2 hy, ?_, ?_, ?_⟩
  · intro q hq
    by_cases e : q = p
    · subst e; exact Or.inl pk_us
    · rw [pk_un e]
      rcases h3 q hq with h6 | ⟨j', g1, g2, g3⟩
      · exact Or.inl h6
      · refine Or.inr ⟨j', g1, g2, ?_⟩
        by_cases e2 : j' = j
        · subst e2
          have := h4 p q hp hq (fun e3 => e e3.symm) (hpl.trans g2.symm)
          rw [hpl] at this
          exact absurd this (wk_neg _ hj)
        · rw [pk_un e2]; exact g3
  · intro q q' hq hq' hne he
    by_cases e : q = p
    · subst e; exact pk_us
    · by_cases e2 : q' = p
      · subst e2
        rw [he]; exact pk_us
      · rw [pk_un e, pk_un e2] at he
        rw [pk_un e]
        exact h4 q q' hq hq' hne he
  · intro k
    by_cases e : k = j
    · subst e
      rw [pk_us, pk_us]
      exact Or.inr ⟨Or.inl rfl, rfl⟩
    · rw [pk_un e, pk_un e]
      exact h5 k
theorem wk_has0 (n : Nat) : f_X0_has (nI n) (-1) = 0 := if_pos (by decide)
theorem wk_has1 {n j : Nat} (hj : j < n) (hn : n ≤ 10) : f_X0_has (nI n) (nI j) = 1 := by
  unfold f_X0_has
  rw [if_neg (nI_pos (by omega)), if_neg (nI_ge hj (by omega))]
/-- dressings are small; what else a turn keeps -/
def drk (dr : Nat → Int32) : Prop := ∀ q, ∃ c : Nat, c ≤ 11 ∧ dr q = nI c
def wx (P : Nat) (dr dr' sp sp2 sp' sp2' : Nat → Int32) : Prop := (sp = sp2 → sp' = sp2') ∧ (drk dr → drk dr') ∧ (∀ q, P ≤ q → sp' q = sp q)
theorem wx.rf {P : Nat} {dr sp sp2 : Nat → Int32} : wx P dr dr sp sp2 sp sp2 := ⟨id, id, fun _ _ => rfl⟩
theorem wx.tr {P : Nat} {dr dr1 dr2 sp sp2 sp1 sp21 sp3 sp23 : Nat → Int32} (h : wx P dr dr1 sp sp2 sp1 sp21) (g : wx P dr1 dr2 sp1 sp21 sp3 sp23) : wx P dr dr2 sp sp2 sp3 sp23 :=
  ⟨fun e => g.1 (h.1 e), fun e => g.2.1 (h.2.1 e), fun q hq => (g.2.2 q hq).trans (h.2.2 q hq)⟩
theorem wk_dr {dr : Nat → Int32} {p : Nat} (h : drk dr) (c : ¬ dr p ≤ 0) : drk (upd dr p (dr p - 1)) := fun q => by
  by_cases e : q = p
  · subst e
    rw [pk_us]
    obtain ⟨k, hk, e⟩ := h q
    rw [e] at c ⊢
    cases k with
    | zero => exact absurd (by decide) c
    | succ k => exact ⟨k, by omega, nI_pred k⟩
  · rw [pk_un e]
    exact h q
theorem wx.dr {P p : Nat} {dr sp sp2 : Nat → Int32} (c : ¬ dr p ≤ 0) : wx P dr (upd dr p (dr p - 1)) sp sp2 sp sp2 := ⟨id, fun h => wk_dr h c, fun _ _ => rfl⟩
section
variable {tk fh lh aw : Int32} {n P p : Nat} {dl : Nat → UInt32} {pl dr sp sp2 gr sa dn : Nat → Int32} {le : Nat → UInt64} {r : UInt64} {rc : Nat → Nat → Int32}
/-- the class's turn of a pair, as one step of its loop -/
theorem wk_step (hn : n ≤ 10) (hP : P ≤ 3) (hp : p < P) (haw : f_X6_isAwake tk fh lh = aw) (hg : ∀ k, k < n → rc k 1 = gr k) (hm : mi n P dl pl le sa dn) (hr : vr r 0 1058) :
    ∃ (r' : UInt64) (dl' : Nat → UInt32) (pl' dr' sp' sp2' sa' dn' : Nat → Int32) (le' : Nat → UInt64),
      (∀ fuel, f_X2_goBy_6 (nI P) (nI n) gr aw (fuel + 1) r (nI p) sa le dl pl dr sp = f_X2_goBy_6 (nI P) (nI n) gr aw fuel r' (nI (p + 1)) sa' le' dl' pl' dr' sp') ∧
      f_X6_work tk fh lh dl pl dr sp2 le dn (nI p) r rc = (r', dl', pl', dr', sp2', le', dn') ∧
      (∀ fuel, n_X2_goBy_6 (nI P) (nI n) gr aw fuel r' (nI (p + 1)) sa' le' dl' pl' dr' sp' → n_X2_goBy_6 (nI P) (nI n) gr aw (fuel + 1) r (nI p) sa le dl pl dr sp) ∧
      n_X6_work tk fh lh dl pl dr le (nI p) r n rc ∧ vr r' 0 1058 ∧ mi n P dl' pl' le' sa' dn' ∧ mr sa sa' ∧ wx P dr dr' sp sp2 sp' sp2' := by
  have hc : (nI p).toNatClampNeg = p := nI_clamp (by omega)
  have hpn : ¬ nI P ≤ nI p := nI_ge hp (by omega)
  have ip : vp_in (nI p) 3 := vp_in_nI (by omega) (by decide)
  have hs : nI p + 1 = nI (p + 1) := nI_1 p
  obtain ⟨m1, m2, m3, m4, m5⟩ := hm
  have k1 : dok FP.dconst1 := vc_1.ok
  by_cases cd : dr p ≤ 0
  · by_cases ca : aw = 0
    · refine ⟨r, dl, pl, dr, sp, sp2, sa, dn, le, ?_, ?_, ?_, ?_, hr, ⟨m1, m2, m3, m4, m5⟩, mr.rf, wx.rf⟩
      · intro fuel
        rw [f_X2_goBy_6.eq_2, if_neg hpn, hc, if_pos cd, if_pos ca, if_pos ca, hs]
      · unfold f_X6_work
        rw [hc, if_pos cd, haw, if_pos ca]
      · intro fuel k
        rw [n_X2_goBy_6.eq_2, hc, hs]
        exact ⟨fun _ => ip, fun _ _ _ _ => k, fun _ _ _ c => absurd ca c, fun _ _ _ c => absurd ca c, fun _ _ _ c => absurd ca c, fun _ _ _ c => absurd ca c, fun _ _ c => absurd ca c, fun _ _ c => absurd ca c, fun _ _ c => absurd ca c, fun _ _ c => absurd ca c, fun _ _ c => absurd ca c, fun _ _ c => absurd ca c, fun _ _ c => absurd ca c, fun _ _ c => absurd ca c, fun _ c => absurd cd c, fun _ c => absurd cd c⟩
      · unfold n_X6_work
        rw [haw]
        exact ⟨ip, fun _ c => absurd ca c, fun _ c => absurd ca c, fun _ c => absurd ca c, fun _ c => absurd ca c, fun _ c => absurd ca c⟩
    · rcases m3 p hp with hq | ⟨j, hj, hq, hsj⟩
      · have hh0 : f_X0_has (nI n) (pl p) = 0 := by rw [hq]; exact wk_has0 n
        by_cases cf : (Op.cmpValue (FP.dcmp r FP.dconst1) .l) ≤ 0
        · have cf' := (fl_le0 hr.ok k1 _).mp cf
          have cg : ¬ 0 < (Op.cmpValue (FP.dcmp r FP.dconst1) .l) := fun h => by
            have := (fl_gt0 hr.ok k1 _).mp h
            omega
          refine ⟨r, dl, pl, dr, sp, sp2, sa, dn, le, ?_, ?_, ?_, ?_, hr, ⟨m1, m2, m3, m4, m5⟩, mr.rf, wx.rf⟩
          · intro fuel
            rw [f_X2_goBy_6.eq_2, if_neg hpn, hc, if_pos cd, if_neg ca, if_pos hh0, if_neg ca, if_pos cf, hs]
          · unfold f_X6_work
            rw [hc, if_pos cd, haw, if_neg ca, if_pos hq, if_neg cg]
          · intro fuel k
            rw [n_X2_goBy_6.eq_2, hc, hs]
            exact ⟨fun _ => ip, fun _ _ c => absurd c ca, fun _ _ c => absurd c ca, fun _ _ c => absurd c ca, fun _ _ c => absurd c ca, fun _ _ c => absurd c ca, fun _ _ _ _ c => absurd c ca, fun _ _ _ _ _ _ => k, fun _ _ _ _ _ c => absurd cf c, fun _ _ _ _ _ c => absurd cf c, fun _ _ _ _ _ c => absurd cf c, fun _ _ _ c => absurd hh0 c, fun _ _ _ c => absurd hh0 c, fun _ _ _ c => absurd hh0 c, fun _ c => absurd cd c, fun _ c => absurd cd c⟩
          · unfold n_X6_work
            rw [haw, hc]
            exact ⟨ip, fun _ _ _ c => absurd c cg, fun _ _ _ c => absurd c cg, fun _ _ _ c => absurd c cg, fun _ _ _ c => absurd c cg, fun _ _ c => absurd hq c⟩
        · have cf' : ¬ zd r ≤ zd FP.dconst1 := fun h => cf ((fl_le0 hr.ok k1 _).mpr h)
          have cg : 0 < (Op.cmpValue (FP.dcmp r FP.dconst1) .l) := (fl_gt0 hr.ok k1 _).mpr (by omega)
          have n4 := nf_add ((m1 p).fin (by decide)) (m1 p).2.1 fc_8n
          have n5 := gd_bluntV n4.1 n4.2
          have hw : f_X2_spark dl sp (nI p) = (vf_upd dl p (gd_blunt (FP.fadd (dl p) 1040187392)), upd sp p (sp p + 1)) := by
            unfold f_X2_spark
            rw [hc, gd_bluntE dl p (by omega)]
          have hnw : n_X2_spark dl (nI p) := by
            unfold n_X2_spark
            refine ⟨ip, ?_⟩
            unfold n_X2_blunt
            rw [hc]
            exact ⟨ip, fl_vf32 n4.1⟩
          have hd : vr (FP.dsub r FP.dconst1) 0 1058 := by
            refine (hr.sub vc_1 (-8) 1058 (by decide) (by decide) (by decide) (by decide)).lo ?_
            rw [Int.zero_mul]
            have := fl_sub_ge hr.1 vc_1.1 dok_0 (by rw [zdz_0]; omega)
            rwa [zdz_0] at this
          refine ⟨FP.dsub r FP.dconst1, vf_upd dl p (gd_blunt (FP.fadd (dl p) 1040187392)), pl, dr, upd sp p (sp p + 1), upd sp2 p (sp2 p + 1), sa, dn, le, ?_, ?_, ?_, ?_, hd, mi_dl ⟨m1, m2, m3, m4, m5⟩ n5.1, mr.rf, ⟨fun e => by rw [e], id, fun q hq => pk_un (by omega)⟩⟩
          · intro fuel
            rw [f_X2_goBy_6.eq_2, if_neg hpn, hc, if_pos cd, if_neg ca, if_pos hh0, if_neg ca, if_neg cf, hs, hw]
          · unfold f_X6_work
            rw [hc, if_pos cd, haw, if_neg ca, if_pos hq, if_pos cg, n5.2]
          · intro fuel k
            rw [n_X2_goBy_6.eq_2, hc, hs, hw]
            refine ⟨fun _ => ip, fun _ _ c => absurd c ca, fun _ _ c => absurd c ca, fun _ _ c => absurd c ca, fun _ _ c => absurd c ca, fun _ _ c => absurd c ca, fun _ _ _ _ c => absurd c ca, fun _ _ _ _ _ c => absurd c cf, fun _ _ _ _ _ _ => hnw, fun _ _ _ _ _ _ => ?_, fun _ _ _ _ _ _ => ?_, fun _ _ _ c => absurd hh0 c, fun _ _ _ c => absurd hh0 c, fun _ _ _ c => absurd hh0 c, fun _ c => absurd cd c, fun _ c => absurd cd c⟩
            · intro u23 u24 e
              exact hd.n
            · intro u23 u24 e
              cases e
              exact k
          · unfold n_X6_work
            rw [haw, hc]
            exact ⟨ip, fun _ _ _ _ => fl_vf32 n4.1, fun _ _ _ _ => tk_nan32 fc_1.1, fun _ _ _ _ => tk_nan32 n4.1, fun _ _ _ _ => hd.n, fun _ _ c => absurd hq c⟩
      · have hj10 : j < 10 := by omega
        have hne : ¬ pl p = -1 := by rw [hq]; exact wk_neg j (by omega)
        have hh : ¬ f_X0_has (nI n) (pl p) = 0 := by rw [hq, wk_has1 hj hn]; decide
        obtain ⟨x1, x2⟩ := gd_X2 (dl := dl) (gr := gr) (le := le) (r := r) (by omega : p < 3) hj10 hq hsj
        obtain ⟨y1, y2⟩ := ge_X6 (dl := dl) (pl := pl) (dn := dn) (gr := gr) (le := le) (r := r) (by omega : p < 3) hj10 (hg j hj) (m1 p) (m2 j) hr
        have hnc := gd_X2n (dl := dl) (pl := pl) (gr := gr) (sa := sa) (le := le) (r := r) (by omega : p < 3) hj10 hq (m1 p) (m2 j) hr
        have hnr := ge_X6n (dl := dl) (le := le) (r := r) (rc := rc) (by omega : p < 3) hj hn (m1 p) (m2 j) hr
        have hd := ge_dsub (dl := dl) (p := p) (m1 p) hr
        have a3 := gd_doesV (m1 p) hr
        have hD := (gd_moreV (m1 p) a3 (fc_hard (gr j))).2.2.2.2.1
        have hL := (gd_restV (m2 j) a3 (vc_pace (gr j))).2.2.1
        have hn6 : n_X6_work tk fh lh dl pl dr le (nI p) r n rc := by
          unfold n_X6_work
          rw [hc]
          refine ⟨ip, fun _ _ c => absurd c hne, fun _ _ c => absurd c hne, fun _ _ c => absurd c hne, fun _ _ c => absurd c hne, fun _ _ _ => ?_⟩
          rw [hq]
          exact hnr
        by_cases ce : gd_end (gd_left (le j) (gd_does (dl p) r) (f_X5_paceOf (gr j)))
        · have hw := x1 ce
          refine ⟨FP.dsub r (gd_gets (dl p) r), vf_upd dl p (gd_blunt (FP.fadd (dl p) (gd_more (gd_does (dl p) r) (f_X5_hardnessOf (gr j))))), upd pl p (-1), dr, sp, sp2, upd sa j 2, upd dn j 1, vf_upd le j (gd_left (le j) (gd_does (dl p) r) (f_X5_paceOf (gr j))), ?_, ?_, ?_, hn6, hd, mi_end ⟨m1, m2, m3, m4, m5⟩ hD hL hp (by omega) hq, ?_, wx.rf⟩
          · intro fuel
            rw [f_X2_goBy_6.eq_2, if_neg hpn, hc, if_pos cd, if_neg ca, if_neg hh, hs, hw]
          · unfold f_X6_work
            rw [hc, if_pos cd, haw, if_neg ca, if_neg hne, hq, y1 ce]
          · intro fuel k
            rw [n_X2_goBy_6.eq_2, hc, hs, hw]
            refine ⟨fun _ => ip, fun _ _ c => absurd c ca, fun _ _ c => absurd c ca, fun _ _ c => absurd c ca, fun _ _ c => absurd c ca, fun _ _ c => absurd c ca, fun _ _ _ c => absurd c hh, fun _ _ _ c => absurd c hh, fun _ _ _ c => absurd c hh, fun _ _ _ c => absurd c hh, fun _ _ _ c => absurd c hh, fun _ _ _ _ => hnc, fun _ _ _ _ => ?_, fun _ _ _ _ => ?_, fun _ c => absurd cd c, fun _ c => absurd cd c⟩
            · intro r28 u29 u30 u31 u32 e
              cases e
              exact hd.n
            · intro r28 u29 u30 u31 u32 e
              cases e
              exact k
          · intro k
            by_cases e : k = j
            · subst e
              exact Or.inr ⟨hsj, pk_us⟩
            · exact Or.inl (pk_un e)
        · have hw := x2 ce
          refine ⟨FP.dsub r (gd_gets (dl p) r), vf_upd dl p (gd_blunt (FP.fadd (dl p) (gd_more (gd_does (dl p) r) (f_X5_hardnessOf (gr j))))), pl, dr, sp, sp2, sa, dn, vf_upd le j (gd_left (le j) (gd_does (dl p) r) (f_X5_paceOf (gr j))), ?_, ?_, ?_, hn6, hd, mi_go ⟨m1, m2, m3, m4, m5⟩ hD hL, mr.rf, wx.rf⟩
          · intro fuel
            rw [f_X2_goBy_6.eq_2, if_neg hpn, hc, if_pos cd, if_neg ca, if_neg hh, hs, hw]
          · unfold f_X6_work
            rw [hc, if_pos cd, haw, if_neg ca, if_neg hne, hq, y2 ce]
          · intro fuel k
            rw [n_X2_goBy_6.eq_2, hc, hs, hw]
            refine ⟨fun _ => ip, fun _ _ c => absurd c ca, fun _ _ c => absurd c ca, fun _ _ c => absurd c ca, fun _ _ c => absurd c ca, fun _ _ c => absurd c ca, fun _ _ _ c => absurd c hh, fun _ _ _ c => absurd c hh, fun _ _ _ c => absurd c hh, fun _ _ _ c => absurd c hh, fun _ _ _ c => absurd c hh, fun _ _ _ _ => hnc, fun _ _ _ _ => ?_, fun _ _ _ _ => ?_, fun _ c => absurd cd c, fun _ c => absurd cd c⟩
            · intro r28 u29 u30 u31 u32 e
              cases e
              exact hd.n
            · intro r28 u29 u30 u31 u32 e
              cases e
              exact k
  · have hn6 : n_X6_work tk fh lh dl pl dr le (nI p) r n rc := by
      unfold n_X6_work
      rw [hc]
      exact ⟨ip, fun c => absurd c cd, fun c => absurd c cd, fun c => absurd c cd, fun c => absurd c cd, fun c => absurd c cd⟩
    by_cases cz : upd dr p (dr p - 1) p = 0
    · have hw : f_X2_dressOn dl dr (nI p) = (vf_upd dl p FP.fconst0, upd dr p (dr p - 1)) := by
        unfold f_X2_dressOn
        rw [hc, if_pos cz]
      refine ⟨r, vf_upd dl p FP.fconst0, pl, upd dr p (dr p - 1), sp, sp2, sa, dn, le, ?_, ?_, ?_, hn6, hr, mi_dl ⟨m1, m2, m3, m4, m5⟩ fr_0, mr.rf, wx.dr cd⟩
      · intro fuel
        rw [f_X2_goBy_6.eq_2, if_neg hpn, hc, if_neg cd, hs, hw]
      · unfold f_X6_work
        rw [hc, if_neg cd, if_pos cz]
      · intro fuel k
        rw [n_X2_goBy_6.eq_2, hc, hs, hw]
        refine ⟨fun _ => ip, fun _ c => absurd c cd, fun _ c => absurd c cd, fun _ c => absurd c cd, fun _ c => absurd c cd, fun _ c => absurd c cd, fun _ c => absurd c cd, fun _ c => absurd c cd, fun _ c => absurd c cd, fun _ c => absurd c cd, fun _ c => absurd c cd, fun _ c => absurd c cd, fun _ c => absurd c cd, fun _ c => absurd c cd, fun _ _ => ip, fun _ _ => ?_⟩
        intro u17 u18 e
        cases e
        exact k
    · have hw : f_X2_dressOn dl dr (nI p) = (dl, upd dr p (dr p - 1)) := by
        unfold f_X2_dressOn
        rw [hc, if_neg cz]
      refine ⟨r, dl, pl, upd dr p (dr p - 1), sp, sp2, sa, dn, le, ?_, ?_, ?_, hn6, hr, ⟨m1, m2, m3, m4, m5⟩, mr.rf, wx.dr cd⟩
      · intro fuel
        rw [f_X2_goBy_6.eq_2, if_neg hpn, hc, if_neg cd, hs, hw]
      · unfold f_X6_work
        rw [hc, if_neg cd, if_neg cz]
      · intro fuel k
        rw [n_X2_goBy_6.eq_2, hc, hs, hw]
        refine ⟨fun _ => ip, fun _ c => absurd c cd, fun _ c => absurd c cd, fun _ c => absurd c cd, fun _ c => absurd c cd, fun _ c => absurd c cd, fun _ c => absurd c cd, fun _ c => absurd c cd, fun _ c => absurd c cd, fun _ c => absurd c cd, fun _ c => absurd c cd, fun _ c => absurd c cd, fun _ c => absurd c cd, fun _ c => absurd c cd, fun _ _ => ip, fun _ _ => ?_⟩
        intro u17 u18 e
        cases e
        exact k
end
