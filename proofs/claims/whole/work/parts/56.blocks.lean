/-! scour, hours, lock, bell, lot, ofOwner, high, digest -/
section
variable {n : Nat} {P : Nat} {t : Nat} {m : Nat} {g : Nat} {s : Nat} {lk : Int32} {to : UInt64} {su : UInt64} {lv : UInt64} {si : UInt32} {sc : Int32} {fo : UInt64} {ow : Nat → Int32} {gr : Nat → Int32} {we : Nat → Int32} {du : Nat → Int32} {sa : Nat → Int32} {le : Nat → UInt64} {dl : Nat → UInt32} {pl : Nat → Int32} {dr : Nat → Int32} {sp : Nat → Int32} {dn : Nat → Int32} {rc : Nat → Nat → Int32} {fh lh ee rf pu mc : Int32} {oj : Nat → Int64} {ov : Nat → UInt64} {L : Nat} {xs : Nat → Int32} {i5 : Int32}

theorem q_b4 (h : gj n P t m g s lk to su lv si sc fo ow gr we du sa le dl pl dr sp dn rc) (hi1 : vp_in (i5 + 1) L) : n_b4 sc L xs i5 ∧ ∃ (v th' : Int32), f_b4 sc xs i5 = (v, th', v) ∧ gj n P t m g s lk to su lv si v fo ow gr we du sa le dl pl dr sp dn rc := by
  obtain ⟨ht, hm, hg, hs, hP, hn, hsu, hsc, hlk, hms, hto, hdr, hsp, hrc, hgw, hz⟩ := h
  generalize hx : xs (i5 + 1).toNatClampNeg = x
  have h0 : tm_bool 0 := Or.inl rfl
  have h1 : tm_bool 1 := Or.inr rfl
  have hk := hsc
  refine ⟨?_, ?_⟩
  · unfold n_b4 n_X5_scour n_X7_scour f_X5_scour f_X7_scour
    rw [hx]
    clear ht hm hg hs hP hn hsu hms hto hdr hsp hrc hgw hz
    by_cases h : x = 0
    all_goals simp_all
  · unfold f_b4 f_X5_scour f_X7_scour
    rw [hx]
    by_cases h : x = 0
    · refine ⟨0, 0, ?_, ⟨ht, hm, hg, hs, hP, hn, hsu, h0, hlk, hms, hto, hdr, hsp, hrc, hgw, hz⟩⟩
      rw [if_pos h]
      dsimp only
      rw [if_pos h, if_pos rfl]
    · refine ⟨1, 0, ?_, ⟨ht, hm, hg, hs, hP, hn, hsu, h1, hlk, hms, hto, hdr, hsp, hrc, hgw, hz⟩⟩
      rw [if_neg h]
      dsimp only
      rw [if_neg h, if_pos rfl]

theorem q_b6 (h : gj n P t m g s lk to su lv si sc fo ow gr we du sa le dl pl dr sp dn rc) (hi1 : vp_in (i5 + 1) L) : n_b6 lk L xs i5 ∧ ∃ (v th' : Int32), f_b6 lk xs i5 = (v, th', v) ∧ gj n P t m g s v to su lv si sc fo ow gr we du sa le dl pl dr sp dn rc := by
  obtain ⟨ht, hm, hg, hs, hP, hn, hsu, hsc, hlk, hms, hto, hdr, hsp, hrc, hgw, hz⟩ := h
  generalize hx : xs (i5 + 1).toNatClampNeg = x
  have h0 : tm_bool 0 := Or.inl rfl
  have h1 : tm_bool 1 := Or.inr rfl
  have hk := hlk
  refine ⟨?_, ?_⟩
  · unfold n_b6 n_X5_lock n_X7_lock f_X5_lock f_X7_lock
    rw [hx]
    clear ht hm hg hs hP hn hsu hms hto hdr hsp hrc hgw hz
    by_cases h : x = 0
    all_goals simp_all
  · unfold f_b6 f_X5_lock f_X7_lock
    rw [hx]
    by_cases h : x = 0
    · refine ⟨0, 0, ?_, ⟨ht, hm, hg, hs, hP, hn, hsu, hsc, h0, hms, hto, hdr, hsp, hrc, hgw, hz⟩⟩
      rw [if_pos h]
      dsimp only
      rw [if_pos h, if_pos rfl]
    · refine ⟨1, 0, ?_, ⟨ht, hm, hg, hs, hP, hn, hsu, hsc, h1, hms, hto, hdr, hsp, hrc, hgw, hz⟩⟩
      rw [if_neg h]
      dsimp only
      rw [if_neg h, if_pos rfl]

theorem q_b7 : n_b7 rf ∧ ∃ (v th' : Int32), f_b7 rf = (v, th', v) := by
  refine ⟨?_, ?_⟩
  · unfold n_b7 f_X5_bell f_X7_bell
    intro r1 u2 e1 r3 u4 u5 e2 h
    cases e1; cases e2
    exact h rfl
  · unfold f_b7 f_X5_bell f_X7_bell
    exact ⟨rf + 1, 0, if_pos rfl⟩
theorem q_b23 (h : gj n P t m g s lk to su lv si sc fo ow gr we du sa le dl pl dr sp dn rc) : n_b23 (nI t) := by
  obtain ⟨ht, hm, hg, hs, hP, hn, hsu, hsc, hlk, hms, hto, hdr, hsp, hrc, hgw, hz⟩ := h
  obtain ⟨e1, e2, e3⟩ := li_highE ht
  refine ⟨e2, e3, ?_⟩
  intro r u e c
  cases e
  exact c e1
theorem q_b27 (h : gj n P t m g s lk to su lv si sc fo ow gr we du sa le dl pl dr sp dn rc) : n_b27 lk rf pu to fh lh ee (nI t) (nI m) su lv si (nI g) (nI s) sc fo (nI n) ow gr we du sa le (nI P) dl pl dr sp dn n rc := by
  obtain ⟨ht, hm, hg, hs, hP, hn, hsu, hsc, hlk, hms, hto, hdr, hsp, hrc, hgw, hz⟩ := h
  obtain ⟨x, e1, e2, e3, e4⟩ := dg_all (lk := lk) (rf := rf) (pu := pu) (fh := fh) (lh := lh) (ee := ee) (dr := dr) hm hsu hg hs hn hP ht hsc hms hrc hto hsp
  refine ⟨e3, e4, ?_⟩
  intro r u e c
  rw [e2] at e
  cases e
  rw [e1] at c
  exact c (q_cmp _)

theorem q_b5 (h : gj n P t m g s lk to su lv si sc fo ow gr we du sa le dl pl dr sp dn rc) (hi1 : vp_in (i5 + 1) L) (hi2 : vp_in (i5 + 2) L) : n_b5 fh lh (nI t) oj L xs i5 ∧ ∃ (fh' lh' : Int32) (oj' : Nat → Int64) (th' : Int32), f_b5 fh lh (nI t) oj xs i5 = (fh', lh', oj', th', fh', lh') := by
  generalize hx1 : xs (i5 + 1).toNatClampNeg = y1
  generalize hx2 : xs (i5 + 2).toNatClampNeg = y2
  by_cases hb : f_X7_in y1 0 47 = 0 ∨ f_X7_in y2 0 47 = 0
  · have h5 : f_X5_hours (nI t) y1 y2 = .inr 0 := by
      unfold f_X5_hours
      rw [li_isW, li_isW]
      by_cases c1 : f_X7_in y1 0 47 = 0
      · rw [if_pos c1]
      · rw [if_neg c1, if_pos (hb.resolve_left c1)]
    have hL : f_L_hours fh lh (nI t) oj y1 y2 = (1, fh, lh, oj) := by unfold f_L_hours; rw [h5]
    have h7 : f_X7_hours (nI t) fh lh y1 y2 = (0, 1, fh, lh) := by
      unfold f_X7_hours f_X7_no
      by_cases c1 : f_X7_in y1 0 47 = 0
      · rw [if_pos c1]
        dsimp only
        rw [if_pos (by decide)]
      · rw [if_neg c1, if_pos (hb.resolve_left c1)]
        dsimp only
        rw [if_pos (by decide)]
    have hnL : n_L_hours (nI t) y1 y2 := by
      refine ⟨fun c1 c2 => absurd hb (fun e => e.elim c1 c2), ?_, ?_⟩
      · intros
        exact q_01
      · intros
        exact q_01
    have hn7 : n_X7_hours (nI t) y1 y2 := fun c1 c2 => absurd hb (fun e => e.elim c1 c2)
    refine ⟨?_, ?_⟩
    · unfold n_b5
      rw [hx1, hx2, hL, h7]
      refine ⟨?_, ?_, ?_, ?_, ?_, ?_, ?_, ?_⟩
      · exact hi1
      · exact hi2
      · exact hnL
      · intro x1 x2 x3 x4 e5; cases e5; exact hn7
      · intro x1 x2 x3 x4 e5 x6 x7 x8 x9 e10 c11 c12; cases e5; cases e10; exact q_01
      · intro x1 x2 x3 x4 e5 x6 x7 x8 x9 e10 c11 c12 c13 c14; cases e5; cases e10; exact absurd c12 (by decide)
      · intro x1 x2 x3 x4 e5 x6 x7 x8 x9 e10 c11 c12 c13 c14; cases e5; cases e10; exact absurd c12 (by decide)
      · intro x1 x2 x3 x4 e5 x6 x7 x8 x9 e10 c11; cases e5; cases e10; exact c11 rfl
    · unfold f_b5
      rw [hx1, hx2, hL, h7]
      dsimp only
      rw [if_pos (bk_th _), if_neg (by decide)]
      exact ⟨_, _, _, _, rfl⟩
  · have c1 : ¬ f_X7_in y1 0 47 = 0 := fun e => hb (Or.inl e)
    have c2 : ¬ f_X7_in y2 0 47 = 0 := fun e => hb (Or.inr e)
    have hbo : tm_bool (f_X1_isAwake y1 y2 (nI t)) := by
      unfold f_X1_isAwake
      repeat' split
      all_goals first | exact Or.inl rfl | exact Or.inr rfl
    have hbo6 : tm_bool (f_X6_isAwake (nI t) y1 y2) := by rw [tn_aw]; exact hbo
    have h5 : f_X5_hours (nI t) y1 y2 = .inl (f_X1_isAwake y1 y2 (nI t), y1, y2) := by unfold f_X5_hours; rw [li_isW, li_isW, if_neg c1, if_neg c2]
    have h7 : f_X7_hours (nI t) fh lh y1 y2 = (f_X1_isAwake y1 y2 (nI t), 0, y1, y2) := by unfold f_X7_hours; rw [if_neg c1, if_neg c2, tn_aw]
    have hnL : n_L_hours (nI t) y1 y2 := by
      refine ⟨fun _ _ => hbo, ?_, ?_⟩
      · intros
        exact q_01
      · intros
        exact q_01
    have hn7 : n_X7_hours (nI t) y1 y2 := fun _ _ => hbo6
    rcases hbo with ha | ha
    · rw [ha] at h5 h7
      have hL : f_L_hours fh lh (nI t) oj y1 y2 = (0, y1, y2, vp_updL oj (0 : Int32).toNatClampNeg 0) := by
        unfold f_L_hours
        rw [h5]
        dsimp only
        rw [if_pos rfl]
      have hcmp := bk_cmp oj 0
      refine ⟨?_, ?_⟩
      · unfold n_b5
        rw [hx1, hx2, hL, h7]
        refine ⟨?_, ?_, ?_, ?_, ?_, ?_, ?_, ?_⟩
        · exact hi1
        · exact hi2
        · exact hnL
        · intro x1 x2 x3 x4 e5; cases e5; exact hn7
        · intro x1 x2 x3 x4 e5 x6 x7 x8 x9 e10 c11 c12; cases e5; cases e10; exact q_01
        · intro x1 x2 x3 x4 e5 x6 x7 x8 x9 e10 c11 c12 c13 c14; cases e5; cases e10; exact c14 hcmp
        · intro x1 x2 x3 x4 e5 x6 x7 x8 x9 e10 c11 c12 c13 c14; cases e5; cases e10; exact absurd rfl c13
        · intro x1 x2 x3 x4 e5 x6 x7 x8 x9 e10 c11; cases e5; cases e10; exact c11 rfl
      · unfold f_b5
        rw [hx1, hx2, hL, h7]
        dsimp only
        rw [if_pos (bk_th _), if_pos (show (0 : Int32) = 0 from rfl), if_pos (show (0 : Int32) = 0 from rfl), if_pos hcmp]
        exact ⟨_, _, _, _, rfl⟩
    · rw [ha] at h5 h7
      have hL : f_L_hours fh lh (nI t) oj y1 y2 = (0, y1, y2, vp_updL oj (0 : Int32).toNatClampNeg 1) := by
        unfold f_L_hours
        rw [h5]
        dsimp only
        rw [if_neg (by decide)]
      have hcmp := bk_cmp oj 1
      refine ⟨?_, ?_⟩
      · unfold n_b5
        rw [hx1, hx2, hL, h7]
        refine ⟨?_, ?_, ?_, ?_, ?_, ?_, ?_, ?_⟩
        · exact hi1
        · exact hi2
        · exact hnL
        · intro x1 x2 x3 x4 e5; cases e5; exact hn7
        · intro x1 x2 x3 x4 e5 x6 x7 x8 x9 e10 c11 c12; cases e5; cases e10; exact q_01
        · intro x1 x2 x3 x4 e5 x6 x7 x8 x9 e10 c11 c12 c13 c14; cases e5; cases e10; exact absurd c13 (by decide)
        · intro x1 x2 x3 x4 e5 x6 x7 x8 x9 e10 c11 c12 c13 c14; cases e5; cases e10; exact c14 hcmp
        · intro x1 x2 x3 x4 e5 x6 x7 x8 x9 e10 c11; cases e5; cases e10; exact c11 rfl
      · unfold f_b5
        rw [hx1, hx2, hL, h7]
        dsimp only
        rw [if_pos (bk_th _), if_pos (show (0 : Int32) = 0 from rfl), if_neg (show ¬ (1 : Int32) = 0 by decide), if_pos hcmp]
        exact ⟨_, _, _, _, rfl⟩

theorem q_b22 (h : gj n P t m g s lk to su lv si sc fo ow gr we du sa le dl pl dr sp dn rc) (hi1 : vp_in (i5 + 1) L) (hi2 : vp_in (i5 + 2) L) : n_b22 (nI n) ow we sa oj n rc L xs i5 ∧ ∃ (oj' : Nat → Int64) (th' : Int32), f_b22 (nI n) ow we sa oj n rc xs i5 = (oj', th') := by
  obtain ⟨ht, hm, hg, hs, hP, hn, hsu, hsc, hlk, hms, hto, hdr, hsp, hrc, hgw, hz⟩ := h
  generalize hx1 : xs (i5 + 1).toNatClampNeg = y1
  generalize hx2 : xs (i5 + 2).toNatClampNeg = y2
  by_cases hz2 : y2 = 0
  · skip
    by_cases hk : f_X7_in y1 0 3 = 0
    · have h5 : f_X5_ofOwner (nI n) ow we sa y1 0 = .inr 2 := if_pos hk
      have hL : f_L_ofOwner (nI n) ow we sa oj y1 0 = (1, oj) := by unfold f_L_ofOwner; rw [h5]
      have h7 : f_X7_ofOwner y1 0 n rc = (0, 1) := by unfold f_X7_ofOwner; rw [if_pos hk]; rfl
      have hnL : n_L_ofOwner (nI n) ow we sa y1 0 := by
        refine ⟨fun c => absurd hk c, ?_⟩
        intros
        exact q_01
      have hn7 : n_X7_ofOwner y1 0 n rc := fun c => absurd hk c
      refine ⟨?_, ?_⟩
      · unfold n_b22
        rw [hx1, hx2]
        refine ⟨?_, ?_, ?_, ?_, ?_, ?_, ?_, ?_, ?_, ?_, ?_, ?_, ?_, ?_, ?_, ?_, ?_, ?_, ?_, ?_⟩
        · exact hi1
        · exact hi2
        · intro c1; exact hnL
        · intro c1 x2 x3 e4 c5; rw [hL] at e4; cases e4; exact hn7
        · intro c1 x2 x3 e4 c5 x6 x7 e8 c9 c10; rw [hL] at e4; cases e4; rw [h7] at e8; cases e8; exact q_01
        · intro c1 x2 x3 e4 c5 x6 x7 e8 c9 c10 c11; rw [hL] at e4; cases e4; rw [h7] at e8; cases e8; exact absurd c10 (by decide)
        · intro c1 x2 x3 e4 c5 x6 x7 e8 c9; rw [hL] at e4; cases e4; rw [h7] at e8; cases e8; exact c9 rfl
        · intro c1 x2 x3 e4 c5; exact absurd hz2 c5
        · intro c1 x2 x3 e4 c5 x6 x7 e8 c9 c10; exact absurd hz2 c5
        · intro c1 x2 x3 e4 c5 x6 x7 e8 c9 c10 c11; exact absurd hz2 c5
        · intro c1 x2 x3 e4 c5 x6 x7 e8 c9; exact absurd hz2 c5
        · intro c1; exact absurd hz2 c1
        · intro c1 x2 x3 e4 c5; exact absurd hz2 c1
        · intro c1 x2 x3 e4 c5 x6 x7 e8 c9 c10; exact absurd hz2 c1
        · intro c1 x2 x3 e4 c5 x6 x7 e8 c9 c10 c11; exact absurd hz2 c1
        · intro c1 x2 x3 e4 c5 x6 x7 e8 c9; exact absurd hz2 c1
        · intro c1 x2 x3 e4 c5; exact absurd hz2 c1
        · intro c1 x2 x3 e4 c5 x6 x7 e8 c9 c10; exact absurd hz2 c1
        · intro c1 x2 x3 e4 c5 x6 x7 e8 c9 c10 c11; exact absurd hz2 c1
        · intro c1 x2 x3 e4 c5 x6 x7 e8 c9; exact absurd hz2 c1
      · unfold f_b22
        rw [hx1, hx2, if_pos hz2, hL]
        dsimp only
        rw [if_pos hz2, h7]
        dsimp only
        rw [if_pos (bk_th _), if_neg (by decide)]
        exact ⟨_, _, rfl⟩
    · obtain ⟨e1, e2, e3⟩ := li_weightE hn (fun k hk => (hrc k hk).1) (fun k hk => (hrc k hk).2.2.1) (fun k hk => (hrc k hk).2.2.2.2) y1 0
      have h5 : f_X5_ofOwner (nI n) ow we sa y1 0 = .inl (f_X0_weightOf (nI n) ow we sa y1 0) := if_neg hk
      have hL : f_L_ofOwner (nI n) ow we sa oj y1 0 = (0, vp_updL oj (0 : Int32).toNatClampNeg (f_X0_weightOf (nI n) ow we sa y1 0).toInt64) := by unfold f_L_ofOwner; rw [h5]
      have h7 : f_X7_ofOwner y1 0 n rc = (f_X0_weightOf (nI n) ow we sa y1 0, 0) := by unfold f_X7_ofOwner; rw [if_neg hk, ← e1]
      have hnL : n_L_ofOwner (nI n) ow we sa y1 0 := by
        refine ⟨fun _ => e2, ?_⟩
        intros
        exact q_01
      have hn7 : n_X7_ofOwner y1 0 n rc := fun _ => e3
      have hcmp := bk_cmp oj (f_X0_weightOf (nI n) ow we sa y1 0).toInt64
      refine ⟨?_, ?_⟩
      · unfold n_b22
        rw [hx1, hx2]
        refine ⟨?_, ?_, ?_, ?_, ?_, ?_, ?_, ?_, ?_, ?_, ?_, ?_, ?_, ?_, ?_, ?_, ?_, ?_, ?_, ?_⟩
        · exact hi1
        · exact hi2
        · intro c1; exact hnL
        · intro c1 x2 x3 e4 c5; rw [hL] at e4; cases e4; exact hn7
        · intro c1 x2 x3 e4 c5 x6 x7 e8 c9 c10; rw [hL] at e4; cases e4; rw [h7] at e8; cases e8; exact q_01
        · intro c1 x2 x3 e4 c5 x6 x7 e8 c9 c10 c11; rw [hL] at e4; cases e4; rw [h7] at e8; cases e8; exact c11 hcmp
        · intro c1 x2 x3 e4 c5 x6 x7 e8 c9; rw [hL] at e4; cases e4; rw [h7] at e8; cases e8; exact c9 rfl
        · intro c1 x2 x3 e4 c5; exact absurd hz2 c5
        · intro c1 x2 x3 e4 c5 x6 x7 e8 c9 c10; exact absurd hz2 c5
        · intro c1 x2 x3 e4 c5 x6 x7 e8 c9 c10 c11; exact absurd hz2 c5
        · intro c1 x2 x3 e4 c5 x6 x7 e8 c9; exact absurd hz2 c5
        · intro c1; exact absurd hz2 c1
        · intro c1 x2 x3 e4 c5; exact absurd hz2 c1
        · intro c1 x2 x3 e4 c5 x6 x7 e8 c9 c10; exact absurd hz2 c1
        · intro c1 x2 x3 e4 c5 x6 x7 e8 c9 c10 c11; exact absurd hz2 c1
        · intro c1 x2 x3 e4 c5 x6 x7 e8 c9; exact absurd hz2 c1
        · intro c1 x2 x3 e4 c5; exact absurd hz2 c1
        · intro c1 x2 x3 e4 c5 x6 x7 e8 c9 c10; exact absurd hz2 c1
        · intro c1 x2 x3 e4 c5 x6 x7 e8 c9 c10 c11; exact absurd hz2 c1
        · intro c1 x2 x3 e4 c5 x6 x7 e8 c9; exact absurd hz2 c1
      · unfold f_b22
        rw [hx1, hx2, if_pos hz2, hL]
        dsimp only
        rw [if_pos hz2, h7]
        dsimp only
        rw [if_pos (bk_th _), if_pos (show (0 : Int32) = 0 from rfl), if_pos hcmp]
        exact ⟨_, _, rfl⟩

  · skip
    by_cases hk : f_X7_in y1 0 3 = 0
    · have h5 : f_X5_ofOwner (nI n) ow we sa y1 1 = .inr 2 := if_pos hk
      have hL : f_L_ofOwner (nI n) ow we sa oj y1 1 = (1, oj) := by unfold f_L_ofOwner; rw [h5]
      have h7 : f_X7_ofOwner y1 1 n rc = (0, 1) := by unfold f_X7_ofOwner; rw [if_pos hk]; rfl
      have hnL : n_L_ofOwner (nI n) ow we sa y1 1 := by
        refine ⟨fun c => absurd hk c, ?_⟩
        intros
        exact q_01
      have hn7 : n_X7_ofOwner y1 1 n rc := fun c => absurd hk c
      refine ⟨?_, ?_⟩
      · unfold n_b22
        rw [hx1, hx2]
        refine ⟨?_, ?_, ?_, ?_, ?_, ?_, ?_, ?_, ?_, ?_, ?_, ?_, ?_, ?_, ?_, ?_, ?_, ?_, ?_, ?_⟩
        · exact hi1
        · exact hi2
        · intro c1; exact absurd c1 hz2
        · intro c1 x2 x3 e4 c5; exact absurd c1 hz2
        · intro c1 x2 x3 e4 c5 x6 x7 e8 c9 c10; exact absurd c1 hz2
        · intro c1 x2 x3 e4 c5 x6 x7 e8 c9 c10 c11; exact absurd c1 hz2
        · intro c1 x2 x3 e4 c5 x6 x7 e8 c9; exact absurd c1 hz2
        · intro c1 x2 x3 e4 c5; exact absurd c1 hz2
        · intro c1 x2 x3 e4 c5 x6 x7 e8 c9 c10; exact absurd c1 hz2
        · intro c1 x2 x3 e4 c5 x6 x7 e8 c9 c10 c11; exact absurd c1 hz2
        · intro c1 x2 x3 e4 c5 x6 x7 e8 c9; exact absurd c1 hz2
        · intro c1; exact hnL
        · intro c1 x2 x3 e4 c5; exact absurd c5 hz2
        · intro c1 x2 x3 e4 c5 x6 x7 e8 c9 c10; exact absurd c5 hz2
        · intro c1 x2 x3 e4 c5 x6 x7 e8 c9 c10 c11; exact absurd c5 hz2
        · intro c1 x2 x3 e4 c5 x6 x7 e8 c9; exact absurd c5 hz2
        · intro c1 x2 x3 e4 c5; rw [hL] at e4; cases e4; exact hn7
        · intro c1 x2 x3 e4 c5 x6 x7 e8 c9 c10; rw [hL] at e4; cases e4; rw [h7] at e8; cases e8; exact q_01
        · intro c1 x2 x3 e4 c5 x6 x7 e8 c9 c10 c11; rw [hL] at e4; cases e4; rw [h7] at e8; cases e8; exact absurd c10 (by decide)
        · intro c1 x2 x3 e4 c5 x6 x7 e8 c9; rw [hL] at e4; cases e4; rw [h7] at e8; cases e8; exact c9 rfl
      · unfold f_b22
        rw [hx1, hx2, if_neg hz2, hL]
        dsimp only
        rw [if_neg hz2, h7]
        dsimp only
        rw [if_pos (bk_th _), if_neg (by decide)]
        exact ⟨_, _, rfl⟩
    · obtain ⟨e1, e2, e3⟩ := li_weightE hn (fun k hk => (hrc k hk).1) (fun k hk => (hrc k hk).2.2.1) (fun k hk => (hrc k hk).2.2.2.2) y1 1
      have h5 : f_X5_ofOwner (nI n) ow we sa y1 1 = .inl (f_X0_weightOf (nI n) ow we sa y1 1) := if_neg hk
      have hL : f_L_ofOwner (nI n) ow we sa oj y1 1 = (0, vp_updL oj (0 : Int32).toNatClampNeg (f_X0_weightOf (nI n) ow we sa y1 1).toInt64) := by unfold f_L_ofOwner; rw [h5]
      have h7 : f_X7_ofOwner y1 1 n rc = (f_X0_weightOf (nI n) ow we sa y1 1, 0) := by unfold f_X7_ofOwner; rw [if_neg hk, ← e1]
      have hnL : n_L_ofOwner (nI n) ow we sa y1 1 := by
        refine ⟨fun _ => e2, ?_⟩
        intros
        exact q_01
      have hn7 : n_X7_ofOwner y1 1 n rc := fun _ => e3
      have hcmp := bk_cmp oj (f_X0_weightOf (nI n) ow we sa y1 1).toInt64
      refine ⟨?_, ?_⟩
      · unfold n_b22
        rw [hx1, hx2]
        refine ⟨?_, ?_, ?_, ?_, ?_, ?_, ?_, ?_, ?_, ?_, ?_, ?_, ?_, ?_, ?_, ?_, ?_, ?_, ?_, ?_⟩
        · exact hi1
        · exact hi2
        · intro c1; exact absurd c1 hz2
        · intro c1 x2 x3 e4 c5; exact absurd c1 hz2
        · intro c1 x2 x3 e4 c5 x6 x7 e8 c9 c10; exact absurd c1 hz2
        · intro c1 x2 x3 e4 c5 x6 x7 e8 c9 c10 c11; exact absurd c1 hz2
        · intro c1 x2 x3 e4 c5 x6 x7 e8 c9; exact absurd c1 hz2
        · intro c1 x2 x3 e4 c5; exact absurd c1 hz2
        · intro c1 x2 x3 e4 c5 x6 x7 e8 c9 c10; exact absurd c1 hz2
        · intro c1 x2 x3 e4 c5 x6 x7 e8 c9 c10 c11; exact absurd c1 hz2
        · intro c1 x2 x3 e4 c5 x6 x7 e8 c9; exact absurd c1 hz2
        · intro c1; exact hnL
        · intro c1 x2 x3 e4 c5; exact absurd c5 hz2
        · intro c1 x2 x3 e4 c5 x6 x7 e8 c9 c10; exact absurd c5 hz2
        · intro c1 x2 x3 e4 c5 x6 x7 e8 c9 c10 c11; exact absurd c5 hz2
        · intro c1 x2 x3 e4 c5 x6 x7 e8 c9; exact absurd c5 hz2
        · intro c1 x2 x3 e4 c5; rw [hL] at e4; cases e4; exact hn7
        · intro c1 x2 x3 e4 c5 x6 x7 e8 c9 c10; rw [hL] at e4; cases e4; rw [h7] at e8; cases e8; exact q_01
        · intro c1 x2 x3 e4 c5 x6 x7 e8 c9 c10 c11; rw [hL] at e4; cases e4; rw [h7] at e8; cases e8; exact c11 hcmp
        · intro c1 x2 x3 e4 c5 x6 x7 e8 c9; rw [hL] at e4; cases e4; rw [h7] at e8; cases e8; exact c9 rfl
      · unfold f_b22
        rw [hx1, hx2, if_neg hz2, hL]
        dsimp only
        rw [if_neg hz2, h7]
        dsimp only
        rw [if_pos (bk_th _), if_pos (show (0 : Int32) = 0 from rfl), if_pos hcmp]
        exact ⟨_, _, rfl⟩

theorem q_b9e (h : gj n P t m g s lk to su lv si sc fo ow gr we du sa le dl pl dr sp dn rc) (hi1 : vp_in (i5 + 1) L) (hi2 : vp_in (i5 + 2) L) (hi3 : vp_in (i5 + 3) L) (hi4 : vp_in (i5 + 4) L) (hv : ¬ ((¬ f_X7_in (xs (i5 + 1).toNatClampNeg) 0 3 = 0 ∧ ¬ f_X7_in (xs (i5 + 2).toNatClampNeg) 0 2 = 0 ∧ ¬ f_X7_in (xs (i5 + 3).toNatClampNeg) 1 60 = 0 ∧ ¬ f_X7_in (xs (i5 + 4).toNatClampNeg) 0 30 = 0) ∧ n < 10)) : n_b9e (nI t) (nI n) ow gr we du sa le oj n L xs i5 ∧ ∃ th', f_b9e (nI t) (nI n) ow gr we du sa le oj n xs i5 = (nI n, ow, gr, we, du, sa, le, oj, th') := by
  obtain ⟨ht, hm, hg, hs, hP, hn, hsu, hsc, hlk, hms, hto, hdr, hsp, hrc, hgw, hz⟩ := h
  revert hv
  generalize hx1 : xs (i5 + 1).toNatClampNeg = y1
  generalize hx2 : xs (i5 + 2).toNatClampNeg = y2
  generalize hx3 : xs (i5 + 3).toNatClampNeg = y3
  generalize hx4 : xs (i5 + 4).toNatClampNeg = y4
  intro hv
  have key : ∃ k : Int32, (k = 1 ∨ k = 2) ∧ f_L_lot (nI t) (nI n) ow gr we du sa le oj y1 y2 y3 y4 = (k, nI n, ow, gr, we, du, sa, le, oj) ∧ f_X7_lot_e y1 y2 y3 y4 n = (0, k) := by
    unfold f_L_lot f_X5_lot f_X7_lot_e
    rw [li_isW, li_isW, li_isW, li_isW]
    by_cases c1 : f_X7_in y1 0 3 = 0
    · rw [if_pos c1, if_pos c1]
      exact ⟨1, Or.inl rfl, rfl, rfl⟩
    · rw [if_neg c1, if_neg c1]
      by_cases c2 : f_X7_in y2 0 2 = 0
      · rw [if_pos c2, if_pos c2]
        exact ⟨1, Or.inl rfl, rfl, rfl⟩
      · rw [if_neg c2, if_neg c2]
        by_cases c3 : f_X7_in y3 1 60 = 0
        · rw [if_pos c3, if_pos c3]
          exact ⟨1, Or.inl rfl, rfl, rfl⟩
        · rw [if_neg c3, if_neg c3]
          by_cases c4 : f_X7_in y4 0 30 = 0
          · rw [if_pos c4, if_pos c4]
            exact ⟨1, Or.inl rfl, rfl, rfl⟩
          · rw [if_neg c4, if_neg c4]
            have h10 : n = 10 := by
              have : ¬ n < 10 := fun e => hv ⟨⟨c1, c2, c3, c4⟩, e⟩
              omega
            subst h10
            exact ⟨2, Or.inr rfl, rfl, rfl⟩
  obtain ⟨k, hk12, hL, h7⟩ := key
  have hk0 : ¬ k = 0 := by rcases hk12 with rfl | rfl <;> decide
  have hnL : n_L_lot (nI t) (nI n) ow gr we du sa le y1 y2 y3 y4 := by
    refine ⟨fun c1 c2 c3 c4 c5 => ?_, ?_⟩
    · refine absurd ⟨⟨c1, c2, c3, c4⟩, ?_⟩ hv
      exact (nI_ltI (b := 10) (by omega) (by decide)).mp c5
    · intros
      exact q_01
  have hn7 : n_X7_lot_e y1 y2 y3 y4 n := fun c1 c2 c3 c4 c5 => by
    refine hv ⟨⟨c1, c2, c3, c4⟩, ?_⟩
    refine Nat.lt_of_le_of_ne hn (fun e => c5 ?_)
    rw [e]
    rfl
  refine ⟨?_, ?_⟩
  · unfold n_b9e
    rw [hx1, hx2, hx3, hx4, hL, h7]
    refine ⟨?_, ?_, ?_, ?_, ?_, ?_, ?_, ?_, ?_⟩
    · exact hi1
    · exact hi2
    · exact hi3
    · exact hi4
    · exact hnL
    · intro x1 x2 x3 x4 x5 x6 x7 x8 x9 e10; cases e10; exact hn7
    · intro x1 x2 x3 x4 x5 x6 x7 x8 x9 e10 x11 x12 e13 c14 c15; cases e10; cases e13; exact q_01
    · intro x1 x2 x3 x4 x5 x6 x7 x8 x9 e10 x11 x12 e13 c14 c15 c16; cases e10; cases e13; exact absurd c15 hk0
    · intro x1 x2 x3 x4 x5 x6 x7 x8 x9 e10 x11 x12 e13 c14; cases e10; cases e13; exact c14 rfl
  · unfold f_b9e
    rw [hx1, hx2, hx3, hx4, hL, h7]
    dsimp only
    rw [if_pos (bk_th _), if_neg hk0]
    exact ⟨_, rfl⟩

theorem bk_new (h : gj n P t m g s lk to su lv si sc fo ow gr we du sa le dl pl dr sp dn rc) (hn10 : n < 10) {k1 k2 k3 k4 : Nat} (h1 : k1 ≤ 3) (h2 : k2 ≤ 2) (h3 : k3 ≤ 60) (h4 : k4 ≤ 30) : gj (n + 1) P t m g s lk to su lv si sc fo (upd ow n (nI k1)) (upd gr n (nI k2)) (upd we n (nI k3)) (upd du n (nI t / 48 + nI k4)) (upd sa n 0) (vf_upd le n (FP.i2d (nI k3))) dl pl dr sp dn (vf_upd rc n (upd (upd (upd (upd (upd (fun _ => (0 : Int32)) (0 : Int32).toNatClampNeg (nI k1)) (1 : Int32).toNatClampNeg (nI k2)) (2 : Int32).toNatClampNeg (nI k3)) (3 : Int32).toNatClampNeg ((nI t / 48) + (nI k4))) (4 : Int32).toNatClampNeg 0)) := by
  obtain ⟨ht, hm, hg, hs, hP, hn, hsu, hsc, hlk, hms, hto, hdr, hsp, hrc, hgw, hz⟩ := h
  have hl : lr (FP.i2d (nI k3)) := by
    have v := vr.int h3 (by decide)
    refine ⟨v.ok, ?_, v.2.2⟩
    exact (sa_i2d (t := k3) (by omega)).2.1
  have hsn : sa n = 0 := hz n (Nat.le_refl _)
  have hmi2 : mi (n + 1) P dl pl (vf_upd le n (FP.i2d (nI k3))) (upd sa n 0) dn := by
    obtain ⟨q1, q2, q3, q4, q5⟩ := hms.2.2.2
    refine ⟨q1, wk_lrU q2 hl, ?_, q4, ?_⟩
    · intro q hq9
      rcases q3 q hq9 with h6 | ⟨j', g1, g2, g3⟩
      · exact Or.inl h6
      · refine Or.inr ⟨j', by omega, g2, ?_⟩
        rw [pk_un (by omega)]
        exact g3
    · intro k
      by_cases e : k = n
      · subst e
        rw [pk_us]
        rcases q5 k with ⟨_, e⟩ | ⟨e, _⟩
        · exact Or.inl ⟨Or.inl rfl, e⟩
        · rw [hsn] at e
          exact absurd e (by decide)
      · rw [pk_un e]
        exact q5 k
  refine ⟨ht, hm, hg, hs, hP, by omega, hsu, hsc, hlk, ⟨hms.1, hms.2.1, hms.2.2.1, hmi2⟩, hto, hdr, hsp, ?_, ?_, ?_⟩
  · intro k hk
    by_cases e : k = n
    · subst e
      rw [show ∀ f : Nat → Int32, vf_upd rc k f k = f from fun f => if_pos rfl, pk_us, pk_us, pk_us, pk_us, pk_us]
      exact ⟨rfl, rfl, rfl, rfl, rfl⟩
    · rw [show ∀ f : Nat → Int32, vf_upd rc n f k = rc k from fun f => if_neg e, pk_un e, pk_un e, pk_un e, pk_un e, pk_un e]
      exact hrc k (by omega)
  · intro k hk
    by_cases e : k = n
    · subst e
      rw [pk_us, pk_us]
      refine ⟨?_, k3, h3, rfl⟩
      have : k2 = 0 ∨ k2 = 1 ∨ k2 = 2 := by omega
      rcases this with rfl | rfl | rfl
      · exact Or.inl rfl
      · exact Or.inr (Or.inl rfl)
      · exact Or.inr (Or.inr rfl)
    · rw [pk_un e, pk_un e]
      exact hgw k (by omega)
  · intro k hk
    rw [pk_un (by omega)]
    exact hz k (by omega)

theorem q_b9p (h : gj n P t m g s lk to su lv si sc fo ow gr we du sa le dl pl dr sp dn rc) (hp : 0 < n) (hn10 : n < 10) (hi1 : vp_in (i5 + 1) L) (hi2 : vp_in (i5 + 2) L) (hi3 : vp_in (i5 + 3) L) (hi4 : vp_in (i5 + 4) L) (hv : (¬ f_X7_in (xs (i5 + 1).toNatClampNeg) 0 3 = 0 ∧ ¬ f_X7_in (xs (i5 + 2).toNatClampNeg) 0 2 = 0 ∧ ¬ f_X7_in (xs (i5 + 3).toNatClampNeg) 1 60 = 0 ∧ ¬ f_X7_in (xs (i5 + 4).toNatClampNeg) 0 30 = 0)) : n_b9p (nI t) (nI n) ow gr we du sa le oj n L xs i5 ∧ ∃ (ow' gr' we' du' sa' : Nat → Int32) (le' : Nat → UInt64) (oj' : Nat → Int64) (th' : Int32), f_b9p (nI t) (nI n) ow gr we du sa le oj mc n rc xs i5 = (vf_upd rc n (upd (upd (upd (upd (upd (fun _ => (0 : Int32)) (0 : Int32).toNatClampNeg (xs (i5 + 1).toNatClampNeg)) (1 : Int32).toNatClampNeg (xs (i5 + 2).toNatClampNeg)) (2 : Int32).toNatClampNeg (xs (i5 + 3).toNatClampNeg)) (3 : Int32).toNatClampNeg ((nI t / 48) + (xs (i5 + 4).toNatClampNeg))) (4 : Int32).toNatClampNeg 0), nI (n + 1), ow', gr', we', du', sa', le', oj', th', le', mc + 1, nI (n + 1)) ∧ gj (n + 1) P t m g s lk to su lv si sc fo ow' gr' we' du' sa' le' dl pl dr sp dn (vf_upd rc n (upd (upd (upd (upd (upd (fun _ => (0 : Int32)) (0 : Int32).toNatClampNeg (xs (i5 + 1).toNatClampNeg)) (1 : Int32).toNatClampNeg (xs (i5 + 2).toNatClampNeg)) (2 : Int32).toNatClampNeg (xs (i5 + 3).toNatClampNeg)) (3 : Int32).toNatClampNeg ((nI t / 48) + (xs (i5 + 4).toNatClampNeg))) (4 : Int32).toNatClampNeg 0)) := by
  obtain ⟨v1, v2, v3, v4⟩ := hv
  obtain ⟨k1, l1, hx1⟩ := li_in (N := 3) (by decide) rfl v1
  obtain ⟨k2, l2, hx2⟩ := li_in (N := 2) (by decide) rfl v2
  obtain ⟨k3, -, l3, hx3⟩ := li_in1 (N := 60) (by decide) rfl v3
  obtain ⟨k4, l4, hx4⟩ := li_in (N := 30) (by decide) rfl v4
  have hnew := bk_new h hn10 l1 l2 l3 l4
  rw [hx1] at v1
  rw [hx2] at v2
  rw [hx3] at v3
  rw [hx4] at v4
  have hlt : nI n < 10 := nI_lt (b := 10) (by omega) (by decide)
  have hc : (nI n).toNatClampNeg = n := nI_clamp (by omega)
  have hs1 : nI n + 1 = nI (n + 1) := nI_1 n
  have hm1 : nI n + 1 - 1 = nI n := by rw [hs1]; exact nI_pred n
  have in10 : vp_in (nI n) 10 := vp_in_nI (by omega) (by decide)
  have h5 : f_X5_lot (nI t) (nI n) ow gr we du sa le (nI k1) (nI k2) (nI k3) (nI k4) = .inl (nI n, nI (n + 1), upd ow n (nI k1), upd gr n (nI k2), upd we n (nI k3), upd du n (nI t / 48 + nI k4), upd sa n 0, vf_upd le n (FP.i2d (nI k3))) := by
    unfold f_X5_lot f_X0_bring f_X4_today
    rw [li_isW, li_isW, li_isW, li_isW, if_neg v1, if_neg v2, if_neg v3, if_neg v4, if_pos hlt]
    dsimp only
    rw [hc, hs1]
  have hL : f_L_lot (nI t) (nI n) ow gr we du sa le oj (nI k1) (nI k2) (nI k3) (nI k4) = (0, nI (n + 1), upd ow n (nI k1), upd gr n (nI k2), upd we n (nI k3), upd du n (nI t / 48 + nI k4), upd sa n 0, vf_upd le n (FP.i2d (nI k3)), vp_updL oj (0 : Int32).toNatClampNeg (nI n).toInt64) := by unfold f_L_lot; rw [h5]
  have hnL : n_L_lot (nI t) (nI n) ow gr we du sa le (nI k1) (nI k2) (nI k3) (nI k4) := by
    refine ⟨fun _ _ _ _ _ => in10, ?_⟩
    intros
    exact q_01
  have hn7 : n_X7_lot_p (nI k1) (nI k2) (nI k3) (nI k4) n := by
    unfold n_X7_lot_p f_Jx4a65c_size_8abf5
    refine ⟨v1, v2, v3, v4, ?_, li_in5 0 (by decide), li_in5 1 (by decide), li_in5 2 (by decide), li_in5 3 (by decide), li_in5 4 (by decide), in10, ?_⟩
    · exact fun e => absurd hlt (by rw [show nI n = 10 from e]; decide)
    · exact ⟨fun e => absurd hlt (by rw [e]; decide), hp, hn10⟩
  have hcmp := bk_cmp oj (nI n).toInt64
  have hsz : f_Jx4a65c_size_8abf5 (nI n + 1) - 1 = nI n := hm1
  refine ⟨?_, ?_⟩
  · unfold n_b9p
    rw [hx1, hx2, hx3, hx4, hL]
    rw [hsz]
    refine ⟨?_, ?_, ?_, ?_, ?_, ?_, ?_, ?_, ?_⟩
    · exact hi1
    · exact hi2
    · exact hi3
    · exact hi4
    · exact hnL
    · intro x1 x2 x3 x4 x5 x6 x7 x8 x9 e10; cases e10; exact hn7
    · intro x1 x2 x3 x4 x5 x6 x7 x8 x9 e10 c11 c12; cases e10; exact q_01
    · intro x1 x2 x3 x4 x5 x6 x7 x8 x9 e10 c11 c12 c13; cases e10; exact c13 hcmp
    · intro x1 x2 x3 x4 x5 x6 x7 x8 x9 e10 c11; cases e10; exact c11 rfl
  · unfold f_b9p
    rw [hx1, hx2, hx3, hx4, hL]
    dsimp only
    rw [hsz]
    rw [if_pos (bk_th _), if_pos (show (0 : Int32) = 0 from rfl), if_pos hcmp, show (f_Jx4a65c_size_8abf5 (nI n)).toNatClampNeg = n from hc, hs1]
    exact ⟨_, _, _, _, _, _, _, _, rfl, hnew⟩

theorem q_b9z (h : gj 0 P t m g s lk to su lv si sc fo ow gr we du sa le dl pl dr sp dn rc) (hi1 : vp_in (i5 + 1) L) (hi2 : vp_in (i5 + 2) L) (hi3 : vp_in (i5 + 3) L) (hi4 : vp_in (i5 + 4) L) (hv : (¬ f_X7_in (xs (i5 + 1).toNatClampNeg) 0 3 = 0 ∧ ¬ f_X7_in (xs (i5 + 2).toNatClampNeg) 0 2 = 0 ∧ ¬ f_X7_in (xs (i5 + 3).toNatClampNeg) 1 60 = 0 ∧ ¬ f_X7_in (xs (i5 + 4).toNatClampNeg) 0 30 = 0)) : n_b9z (nI t) (nI 0) ow gr we du sa le oj L xs i5 ∧ ∃ (ow' gr' we' du' sa' : Nat → Int32) (le' : Nat → UInt64) (oj' : Nat → Int64) (th' : Int32), f_b9z (nI t) (nI 0) ow gr we du sa le oj mc xs i5 = (nI (0 + 1), ow', gr', we', du', sa', le', oj', th', le', mc + 1, nI (0 + 1)) ∧ gj (0 + 1) P t m g s lk to su lv si sc fo ow' gr' we' du' sa' le' dl pl dr sp dn (vf_upd rc 0 (upd (upd (upd (upd (upd (fun _ => (0 : Int32)) (0 : Int32).toNatClampNeg (xs (i5 + 1).toNatClampNeg)) (1 : Int32).toNatClampNeg (xs (i5 + 2).toNatClampNeg)) (2 : Int32).toNatClampNeg (xs (i5 + 3).toNatClampNeg)) (3 : Int32).toNatClampNeg ((nI t / 48) + (xs (i5 + 4).toNatClampNeg))) (4 : Int32).toNatClampNeg 0)) := by
  obtain ⟨v1, v2, v3, v4⟩ := hv
  obtain ⟨k1, l1, hx1⟩ := li_in (N := 3) (by decide) rfl v1
  obtain ⟨k2, l2, hx2⟩ := li_in (N := 2) (by decide) rfl v2
  obtain ⟨k3, -, l3, hx3⟩ := li_in1 (N := 60) (by decide) rfl v3
  obtain ⟨k4, l4, hx4⟩ := li_in (N := 30) (by decide) rfl v4
  have hnew := bk_new h (by decide) l1 l2 l3 l4
  rw [hx1] at v1
  rw [hx2] at v2
  rw [hx3] at v3
  rw [hx4] at v4
  have hlt : nI 0 < 10 := nI_lt (b := 10) (by omega) (by decide)
  have hc : (nI 0).toNatClampNeg = 0 := nI_clamp (by omega)
  have hs1 : nI 0 + 1 = nI (0 + 1) := nI_1 0
  have hm1 : nI 0 + 1 - 1 = nI 0 := by rw [hs1]; exact nI_pred 0
  have in10 : vp_in (nI 0) 10 := vp_in_nI (by omega) (by decide)
  have h5 : f_X5_lot (nI t) (nI 0) ow gr we du sa le (nI k1) (nI k2) (nI k3) (nI k4) = .inl (nI 0, nI (0 + 1), upd ow 0 (nI k1), upd gr 0 (nI k2), upd we 0 (nI k3), upd du 0 (nI t / 48 + nI k4), upd sa 0 0, vf_upd le 0 (FP.i2d (nI k3))) := by
    unfold f_X5_lot f_X0_bring f_X4_today
    rw [li_isW, li_isW, li_isW, li_isW, if_neg v1, if_neg v2, if_neg v3, if_neg v4, if_pos hlt]
    dsimp only
    rw [hc, hs1]
  have hL : f_L_lot (nI t) (nI 0) ow gr we du sa le oj (nI k1) (nI k2) (nI k3) (nI k4) = (0, nI (0 + 1), upd ow 0 (nI k1), upd gr 0 (nI k2), upd we 0 (nI k3), upd du 0 (nI t / 48 + nI k4), upd sa 0 0, vf_upd le 0 (FP.i2d (nI k3)), vp_updL oj (0 : Int32).toNatClampNeg (nI 0).toInt64) := by unfold f_L_lot; rw [h5]
  have hnL : n_L_lot (nI t) (nI 0) ow gr we du sa le (nI k1) (nI k2) (nI k3) (nI k4) := by
    refine ⟨fun _ _ _ _ _ => in10, ?_⟩
    intros
    exact q_01
  have hn7 : n_X7_lot_z (nI k1) (nI k2) (nI k3) (nI k4)  := by
    unfold n_X7_lot_z f_Jx4a65c_size_8abf5
    refine ⟨v1, v2, v3, v4, ?_, li_in5 0 (by decide), li_in5 1 (by decide), li_in5 2 (by decide), li_in5 3 (by decide), li_in5 4 (by decide), in10, ?_⟩
    · exact fun e => absurd hlt (by rw [show nI 0 = 10 from e]; decide)
    · exact ⟨rfl, by decide, by decide⟩
  have hcmp := bk_cmp oj (nI 0).toInt64
  have hsz : f_Jx4a65c_size_8abf5 (nI 0 + 1) - 1 = nI 0 := hm1
  refine ⟨?_, ?_⟩
  · unfold n_b9z
    rw [hx1, hx2, hx3, hx4, hL]
    rw [show f_Jx4a65c_size_8abf5 (0 + 1) - 1 = nI 0 from rfl]
    refine ⟨?_, ?_, ?_, ?_, ?_, ?_, ?_, ?_, ?_⟩
    · exact hi1
    · exact hi2
    · exact hi3
    · exact hi4
    · exact hnL
    · intro x1 x2 x3 x4 x5 x6 x7 x8 x9 e10; cases e10; exact hn7
    · intro x1 x2 x3 x4 x5 x6 x7 x8 x9 e10 c11 c12; cases e10; exact q_01
    · intro x1 x2 x3 x4 x5 x6 x7 x8 x9 e10 c11 c12 c13; cases e10; exact c13 hcmp
    · intro x1 x2 x3 x4 x5 x6 x7 x8 x9 e10 c11; cases e10; exact c11 rfl
  · unfold f_b9z
    rw [hx1, hx2, hx3, hx4, hL]
    dsimp only
    rw [show f_Jx4a65c_size_8abf5 (0 + 1) - 1 = nI 0 from rfl]
    rw [if_pos (bk_th _), if_pos (show (0 : Int32) = 0 from rfl), if_pos hcmp]
    exact ⟨_, _, _, _, _, _, _, _, rfl, hnew⟩

end
