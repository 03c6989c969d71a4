/-! the questions -/
section
variable {n : Nat} {P : Nat} {t : Nat} {m : Nat} {g : Nat} {s : Nat} {lk : Int32} {to : UInt64} {su : UInt64} {lv : UInt64} {si : UInt32} {sc : Int32} {fo : UInt64} {ow : Nat → Int32} {gr : Nat → Int32} {we : Nat → Int32} {du : Nat → Int32} {sa : Nat → Int32} {le : Nat → UInt64} {dl : Nat → UInt32} {pl : Nat → Int32} {dr : Nat → Int32} {sp : Nat → Int32} {dn : Nat → Int32} {rc : Nat → Nat → Int32} {fh lh ee rf pu mc : Int32} {oj : Nat → Int64} {ov : Nat → UInt64} {L : Nat} {xs : Nat → Int32} {i5 : Int32}

theorem q_b15 (h : gj n P t m g s lk to su lv si sc fo ow gr we du sa le dl pl dr sp dn rc) (hi1 : vp_in (i5 + 1) L) : n_b15 (nI t) (nI m) su ov L xs i5 ∧ ∃ (ov' : Nat → UInt64) (th' : Int32), f_b15 (nI t) (nI m) su ov xs i5 = (ov', th') := by
  obtain ⟨ht, hm, hg, hs, hP, hn, hsu, hsc, hlk, hms, hto, hdr, hsp, hrc, hgw, hz⟩ := h
  generalize hx1 : xs (i5 + 1).toNatClampNeg = y1

  by_cases hk : f_X7_in y1 0 1000 = 0
  · have h5 : f_X5_sea (nI t) (nI m) su y1 = .inr 0 := if_pos hk
    have hL : f_L_sea (nI t) (nI m) su ov y1 = (1, ov) := by unfold f_L_sea; rw [h5]
    have h7 : f_X7_sea (nI t) (nI m) su y1 = (FP.i2d 0, 1) := by unfold f_X7_sea; rw [if_pos hk]; rfl
    have hnL : n_L_sea (nI t) (nI m) su y1 := by
      refine ⟨fun c => absurd hk c, ?_⟩
      intros
      exact q_01
    have hn7 : n_X7_sea (nI t) (nI m) su y1 := fun c => absurd hk c

    refine ⟨?_, ?_⟩
    · unfold n_b15
      rw [hx1, hL, h7]
      refine ⟨?_, ?_, ?_, ?_, ?_, ?_, ?_⟩
      · exact hi1
      · exact hnL
      · intro x1 x2 e3; cases e3; exact hn7
      · intro x1 x2 e3 x4 x5 e6 c7 c8; cases e3; cases e6; exact q_01
      · intro x1 x2 e3 x4 x5 e6 c7 c8 c9 c10; cases e3; cases e6; exact absurd c8 (by decide)
      · intro x1 x2 e3 x4 x5 e6 c7 c8 c9 c10 c11; cases e3; cases e6; exact absurd c8 (by decide)
      · intro x1 x2 e3 x4 x5 e6 c7; cases e3; cases e6; exact c7 rfl
    · unfold f_b15
      rw [hx1, hL, h7]
      dsimp only
      rw [if_pos (bk_th _), if_neg (by decide)]
      exact ⟨_, _, rfl⟩

  · obtain ⟨a, ha, rfl⟩ := li_in (N := 1000) (by decide) rfl hk
    have hadd : nI t + nI a = nI (t + a) := nI_add t a
    obtain ⟨s1, s2, s3⟩ := sa_sea (m := m) (t := t + a) hm (by omega) hsu
    have h5 : f_X5_sea (nI t) (nI m) su (nI a) = .inl (f_X4_heightOn (nI m) su (nI (t + a))) := by unfold f_X5_sea; rw [li_isW, if_neg hk, hadd]
    have hL : f_L_sea (nI t) (nI m) su ov (nI a) = (0, vf_upd ov (0 : Int32).toNatClampNeg (f_X4_heightOn (nI m) su (nI (t + a)))) := by unfold f_L_sea; rw [h5]
    have h7 : f_X7_sea (nI t) (nI m) su (nI a) = (f_X4_heightOn (nI m) su (nI (t + a)), 0) := by unfold f_X7_sea; rw [if_neg hk, hadd, sa_seaE (by omega)]
    have hnL : n_L_sea (nI t) (nI m) su (nI a) := by
      refine ⟨(by unfold n_X5_sea; rw [hadd]; exact fun _ => s2), ?_⟩
      intros
      exact q_01
    have hn7 : n_X7_sea (nI t) (nI m) su (nI a) := by unfold n_X7_sea; rw [hadd]; exact fun _ => s3
    have hcmp := bk_cmpD ov s1.ok

    refine ⟨?_, ?_⟩
    · unfold n_b15
      rw [hx1, hL, h7]
      refine ⟨?_, ?_, ?_, ?_, ?_, ?_, ?_⟩
      · exact hi1
      · exact hnL
      · intro x1 x2 e3; cases e3; exact hn7
      · intro x1 x2 e3 x4 x5 e6 c7 c8; cases e3; cases e6; exact q_01
      · intro x1 x2 e3 x4 x5 e6 c7 c8 c9 c10; cases e3; cases e6; exact c9 hcmp
      · intro x1 x2 e3 x4 x5 e6 c7 c8 c9 c10 c11; cases e3; cases e6; exact c9 hcmp
      · intro x1 x2 e3 x4 x5 e6 c7; cases e3; cases e6; exact c7 rfl
    · unfold f_b15
      rw [hx1, hL, h7]
      dsimp only
      rw [if_pos (bk_th _), if_pos (show (0 : Int32) = 0 from rfl), if_pos hcmp]
      exact ⟨_, _, rfl⟩

theorem q_b16 (h : gj n P t m g s lk to su lv si sc fo ow gr we du sa le dl pl dr sp dn rc) (hi1 : vp_in (i5 + 1) L) : n_b16 to (nI t) (nI m) lv si fo ov L xs i5 ∧ ∃ (ov' : Nat → UInt64) (th' : Int32), f_b16 to (nI t) (nI m) lv si fo ov xs i5 = (ov', th') := by
  obtain ⟨ht, hm, hg, hs, hP, hn, hsu, hsc, hlk, hms, hto, hdr, hsp, hrc, hgw, hz⟩ := h
  generalize hx1 : xs (i5 + 1).toNatClampNeg = y1

  by_cases hk : f_X7_in y1 0 5 = 0
  · have h5 : f_X5_pond to (nI t) (nI m) lv si fo y1 = .inr 0 := if_pos hk
    have hL : f_L_pond to (nI t) (nI m) lv si fo ov y1 = (1, ov) := by unfold f_L_pond; rw [h5]
    have h7 : f_X7_pond to (nI t) (nI m) lv si fo y1 = (FP.i2d 0, 1) := by unfold f_X7_pond; rw [if_pos hk]; rfl
    have hnL : n_L_pond to (nI t) (nI m) lv si fo y1 := by
      refine ⟨fun c => absurd hk c, ?_⟩
      intros
      exact q_01
    have hn7 : n_X7_pond (nI t) (nI m) si y1 := fun c => absurd hk c

    refine ⟨?_, ?_⟩
    · unfold n_b16
      rw [hx1, hL, h7]
      refine ⟨?_, ?_, ?_, ?_, ?_, ?_, ?_⟩
      · exact hi1
      · exact hnL
      · intro x1 x2 e3; cases e3; exact hn7
      · intro x1 x2 e3 x4 x5 e6 c7 c8; cases e3; cases e6; exact q_01
      · intro x1 x2 e3 x4 x5 e6 c7 c8 c9 c10; cases e3; cases e6; exact absurd c8 (by decide)
      · intro x1 x2 e3 x4 x5 e6 c7 c8 c9 c10 c11; cases e3; cases e6; exact absurd c8 (by decide)
      · intro x1 x2 e3 x4 x5 e6 c7; cases e3; cases e6; exact c7 rfl
    · unfold f_b16
      rw [hx1, hL, h7]
      dsimp only
      rw [if_pos (bk_th _), if_neg (by decide)]
      exact ⟨_, _, rfl⟩

  · obtain ⟨e1, e2, e3, e4⟩ := an_pond (to := to) hm (by omega : t < 7000) hto hms.1 hms.2.1 hms.2.2.1 y1
    have h5 : f_X5_pond to (nI t) (nI m) lv si fo y1 = .inl (f_X5_pondAnswer to (nI t) (nI m) lv si fo y1) := by unfold f_X5_pond; rw [li_isW, if_neg hk]
    have hL : f_L_pond to (nI t) (nI m) lv si fo ov y1 = (0, vf_upd ov (0 : Int32).toNatClampNeg (f_X5_pondAnswer to (nI t) (nI m) lv si fo y1)) := by unfold f_L_pond; rw [h5]
    have h7 : f_X7_pond to (nI t) (nI m) lv si fo y1 = (f_X5_pondAnswer to (nI t) (nI m) lv si fo y1, 0) := by unfold f_X7_pond; rw [if_neg hk, ← e1]
    have hnL : n_L_pond to (nI t) (nI m) lv si fo y1 := by
      refine ⟨fun _ => e3, ?_⟩
      intros
      exact q_01
    have hn7 : n_X7_pond (nI t) (nI m) si y1 := fun _ => e4
    have hcmp := bk_cmpD ov e2

    refine ⟨?_, ?_⟩
    · unfold n_b16
      rw [hx1, hL, h7]
      refine ⟨?_, ?_, ?_, ?_, ?_, ?_, ?_⟩
      · exact hi1
      · exact hnL
      · intro x1 x2 e3; cases e3; exact hn7
      · intro x1 x2 e3 x4 x5 e6 c7 c8; cases e3; cases e6; exact q_01
      · intro x1 x2 e3 x4 x5 e6 c7 c8 c9 c10; cases e3; cases e6; exact c9 hcmp
      · intro x1 x2 e3 x4 x5 e6 c7 c8 c9 c10 c11; cases e3; cases e6; exact c9 hcmp
      · intro x1 x2 e3 x4 x5 e6 c7; cases e3; cases e6; exact c7 rfl
    · unfold f_b16
      rw [hx1, hL, h7]
      dsimp only
      rw [if_pos (bk_th _), if_pos (show (0 : Int32) = 0 from rfl), if_pos hcmp]
      exact ⟨_, _, rfl⟩

theorem q_b17 (h : gj n P t m g s lk to su lv si sc fo ow gr we du sa le dl pl dr sp dn rc) (hi1 : vp_in (i5 + 1) L) (hi2 : vp_in (i5 + 2) L) : n_b17 (nI P) pl dr sp oj L xs i5 ∧ ∃ (oj' : Nat → Int64) (th' : Int32), f_b17 (nI P) pl dr sp oj xs i5 = (oj', th') := by
  obtain ⟨ht, hm, hg, hs, hP, hn, hsu, hsc, hlk, hms, hto, hdr, hsp, hrc, hgw, hz⟩ := h
  generalize hx1 : xs (i5 + 1).toNatClampNeg = y1
  generalize hx2 : xs (i5 + 2).toNatClampNeg = y2

  by_cases hk : f_X2_has (nI P) y1 = 0
  · have hk7 : f_X7_isPair (nI P) y1 = 0 := (li_pair hP y1).trans hk
    have h5 : f_X5_ofPair (nI P) pl dr sp y1 y2 = .inr 2 := if_pos hk
    have hL : f_L_ofPair (nI P) pl dr sp oj y1 y2 = (1, oj) := by unfold f_L_ofPair; rw [h5]; rfl
    have h7 : f_X7_ofPair (nI P) pl dr sp y1 y2 = (0, 1) := by unfold f_X7_ofPair; rw [if_pos hk7]; rfl
    have hnL : n_L_ofPair (nI P) pl dr sp y1 y2 := by
      refine ⟨fun c => absurd hk c, ?_⟩
      intros
      exact q_01
    have hn7 : n_X7_ofPair (nI P) y1 y2 := ⟨li_pairN _ _, fun c => absurd hk7 c⟩

    refine ⟨?_, ?_⟩
    · unfold n_b17
      rw [hx1, hx2, hL, h7]
      refine ⟨?_, ?_, ?_, ?_, ?_, ?_, ?_⟩
      · exact hi1
      · exact hi2
      · exact hnL
      · intro x1 x2 e3; cases e3; exact hn7
      · intro x1 x2 e3 x4 x5 e6 c7 c8; cases e3; cases e6; exact q_01
      · intro x1 x2 e3 x4 x5 e6 c7 c8 c9; cases e3; cases e6; exact absurd c8 (by decide)
      · intro x1 x2 e3 x4 x5 e6 c7; cases e3; cases e6; exact c7 rfl
    · unfold f_b17
      rw [hx1, hx2, hL, h7]
      dsimp only
      rw [if_pos (bk_th _), if_neg (by decide)]
      exact ⟨_, _, rfl⟩

  have hk7 : ¬ f_X7_isPair (nI P) y1 = 0 := by rw [li_pair hP]; exact hk
  obtain ⟨p, hp, rfl⟩ := li_has2 hP hk
  have hc : (nI p).toNatClampNeg = p := nI_clamp (by omega)
  by_cases hk2 : f_X7_in y2 0 2 = 0
  · have h5 : f_X5_ofPair (nI P) pl dr sp (nI p) y2 = .inr 0 := by unfold f_X5_ofPair; rw [li_isW, if_neg hk, if_pos hk2]
    have hL : f_L_ofPair (nI P) pl dr sp oj (nI p) y2 = (2, oj) := by unfold f_L_ofPair; rw [h5]; rfl
    have h7 : f_X7_ofPair (nI P) pl dr sp (nI p) y2 = (0, 2) := by unfold f_X7_ofPair; rw [if_neg hk7, if_pos hk2]; rfl
    have hnL : n_L_ofPair (nI P) pl dr sp (nI p) y2 := by
      refine ⟨fun _ c => absurd hk2 c, ?_⟩
      intros
      exact q_01
    have hn7 : n_X7_ofPair (nI P) (nI p) y2 := ⟨li_pairN _ _, fun _ c => absurd hk2 c⟩

    refine ⟨?_, ?_⟩
    · unfold n_b17
      rw [hx1, hx2, hL, h7]
      refine ⟨?_, ?_, ?_, ?_, ?_, ?_, ?_⟩
      · exact hi1
      · exact hi2
      · exact hnL
      · intro x1 x2 e3; cases e3; exact hn7
      · intro x1 x2 e3 x4 x5 e6 c7 c8; cases e3; cases e6; exact q_01
      · intro x1 x2 e3 x4 x5 e6 c7 c8 c9; cases e3; cases e6; exact absurd c8 (by decide)
      · intro x1 x2 e3 x4 x5 e6 c7; cases e3; cases e6; exact c7 rfl
    · unfold f_b17
      rw [hx1, hx2, hL, h7]
      dsimp only
      rw [if_pos (bk_th _), if_neg (by decide)]
      exact ⟨_, _, rfl⟩

  · obtain ⟨n1, n2⟩ := an_pairN (p := p) (by omega) y2
    have h5 : f_X5_ofPair (nI P) pl dr sp (nI p) y2 = .inl (f_X5_pairAnswer pl dr sp (nI p) y2) := by unfold f_X5_ofPair; rw [li_isW, if_neg hk, if_neg hk2]
    have hL : f_L_ofPair (nI P) pl dr sp oj (nI p) y2 = (0, vp_updL oj (0 : Int32).toNatClampNeg (f_X5_pairAnswer pl dr sp (nI p) y2).toInt64) := by unfold f_L_ofPair; rw [h5]
    have h7 : f_X7_ofPair (nI P) pl dr sp (nI p) y2 = (f_X5_pairAnswer pl dr sp (nI p) y2, 0) := by unfold f_X7_ofPair; rw [if_neg hk7, if_neg hk2]; rfl
    have hnL : n_L_ofPair (nI P) pl dr sp (nI p) y2 := by
      refine ⟨fun _ _ => n1, ?_⟩
      intros
      exact q_01
    have hn7 : n_X7_ofPair (nI P) (nI p) y2 := ⟨li_pairN _ _, fun _ _ => n2⟩
    have hcmp := bk_cmp oj (f_X5_pairAnswer pl dr sp (nI p) y2).toInt64

    refine ⟨?_, ?_⟩
    · unfold n_b17
      rw [hx1, hx2, hL, h7]
      refine ⟨?_, ?_, ?_, ?_, ?_, ?_, ?_⟩
      · exact hi1
      · exact hi2
      · exact hnL
      · intro x1 x2 e3; cases e3; exact hn7
      · intro x1 x2 e3 x4 x5 e6 c7 c8; cases e3; cases e6; exact q_01
      · intro x1 x2 e3 x4 x5 e6 c7 c8 c9; cases e3; cases e6; exact c9 hcmp
      · intro x1 x2 e3 x4 x5 e6 c7; cases e3; cases e6; exact c7 rfl
    · unfold f_b17
      rw [hx1, hx2, hL, h7]
      dsimp only
      rw [if_pos (bk_th _), if_pos (show (0 : Int32) = 0 from rfl), if_pos hcmp]
      exact ⟨_, _, rfl⟩

theorem q_b18 (h : gj n P t m g s lk to su lv si sc fo ow gr we du sa le dl pl dr sp dn rc) (hi1 : vp_in (i5 + 1) L) : n_b18 (nI P) dl ov L xs i5 ∧ ∃ (ov' : Nat → UInt64) (th' : Int32), f_b18 (nI P) dl ov xs i5 = (ov', th') := by
  obtain ⟨ht, hm, hg, hs, hP, hn, hsu, hsc, hlk, hms, hto, hdr, hsp, hrc, hgw, hz⟩ := h
  generalize hx1 : xs (i5 + 1).toNatClampNeg = y1

  by_cases hk : f_X2_has (nI P) y1 = 0
  · have hk7 : f_X7_isPair (nI P) y1 = 0 := (li_pair hP y1).trans hk
    have h5 : f_X5_dull (nI P) dl y1 = .inr 2 := if_pos hk
    have hL : f_L_dull (nI P) dl ov y1 = (1, ov) := by unfold f_L_dull; rw [h5]
    have h7 : f_X7_dull (nI P) dl y1 = (FP.i2d 0, 1) := by unfold f_X7_dull; rw [if_pos hk7]; rfl
    have hnL : n_L_dull (nI P) dl y1 := by
      refine ⟨⟨fun c => absurd hk c, fun c => absurd hk c⟩, ?_⟩
      intros
      exact q_01
    have hn7 : n_X7_dull (nI P) dl y1 := ⟨li_pairN _ _, fun c => absurd hk7 c, fun c => absurd hk7 c⟩

    refine ⟨?_, ?_⟩
    · unfold n_b18
      rw [hx1, hL, h7]
      refine ⟨?_, ?_, ?_, ?_, ?_, ?_, ?_⟩
      · exact hi1
      · exact hnL
      · intro x1 x2 e3; cases e3; exact hn7
      · intro x1 x2 e3 x4 x5 e6 c7 c8; cases e3; cases e6; exact q_01
      · intro x1 x2 e3 x4 x5 e6 c7 c8 c9 c10; cases e3; cases e6; exact absurd c8 (by decide)
      · intro x1 x2 e3 x4 x5 e6 c7 c8 c9 c10 c11; cases e3; cases e6; exact absurd c8 (by decide)
      · intro x1 x2 e3 x4 x5 e6 c7; cases e3; cases e6; exact c7 rfl
    · unfold f_b18
      rw [hx1, hL, h7]
      dsimp only
      rw [if_pos (bk_th _), if_neg (by decide)]
      exact ⟨_, _, rfl⟩

  have hk7 : ¬ f_X7_isPair (nI P) y1 = 0 := by rw [li_pair hP]; exact hk
  obtain ⟨p, hp, rfl⟩ := li_has2 hP hk
  have hc : (nI p).toNatClampNeg = p := nI_clamp (by omega)
  · have hv := (hms.2.2.2.1 p).f2d (by decide) (by decide)
    have ip := an_v3 p (by omega)
    have h5 : f_X5_dull (nI P) dl (nI p) = .inl (FP.f2d (dl p)) := by unfold f_X5_dull; rw [if_neg hk, hc]
    have hL : f_L_dull (nI P) dl ov (nI p) = (0, vf_upd ov (0 : Int32).toNatClampNeg (FP.f2d (dl p))) := by unfold f_L_dull; rw [h5]
    have h7 : f_X7_dull (nI P) dl (nI p) = (FP.f2d (dl p), 0) := by unfold f_X7_dull; rw [if_neg hk7, hc]
    have hnL : n_L_dull (nI P) dl (nI p) := by
      refine ⟨⟨fun _ => ip, fun _ => by rw [hc]; exact hv.n⟩, ?_⟩
      intros
      exact q_01
    have hn7 : n_X7_dull (nI P) dl (nI p) := ⟨li_pairN _ _, fun _ => ip, fun _ => by rw [hc]; exact hv.n⟩
    have hcmp := bk_cmpD ov hv.ok

    refine ⟨?_, ?_⟩
    · unfold n_b18
      rw [hx1, hL, h7]
      refine ⟨?_, ?_, ?_, ?_, ?_, ?_, ?_⟩
      · exact hi1
      · exact hnL
      · intro x1 x2 e3; cases e3; exact hn7
      · intro x1 x2 e3 x4 x5 e6 c7 c8; cases e3; cases e6; exact q_01
      · intro x1 x2 e3 x4 x5 e6 c7 c8 c9 c10; cases e3; cases e6; exact c9 hcmp
      · intro x1 x2 e3 x4 x5 e6 c7 c8 c9 c10 c11; cases e3; cases e6; exact c9 hcmp
      · intro x1 x2 e3 x4 x5 e6 c7; cases e3; cases e6; exact c7 rfl
    · unfold f_b18
      rw [hx1, hL, h7]
      dsimp only
      rw [if_pos (bk_th _), if_pos (show (0 : Int32) = 0 from rfl), if_pos hcmp]
      exact ⟨_, _, rfl⟩

theorem q_b19 (h : gj n P t m g s lk to su lv si sc fo ow gr we du sa le dl pl dr sp dn rc) (hi1 : vp_in (i5 + 1) L) (hi2 : vp_in (i5 + 2) L) : n_b19 (nI n) ow gr we du sa (nI P) pl oj n rc L xs i5 ∧ ∃ (oj' : Nat → Int64) (th' : Int32), f_b19 (nI n) ow gr we du sa (nI P) pl oj n rc xs i5 = (oj', th') := by
  obtain ⟨ht, hm, hg, hs, hP, hn, hsu, hsc, hlk, hms, hto, hdr, hsp, hrc, hgw, hz⟩ := h
  generalize hx1 : xs (i5 + 1).toNatClampNeg = y1
  generalize hx2 : xs (i5 + 2).toNatClampNeg = y2

  by_cases hk : f_X0_has (nI n) y1 = 0
  · have hk7 : f_X7_isLot y1 n = 0 := (li_lot hn y1).trans hk
    have h5 : f_X5_ofLot (nI n) ow gr we du sa (nI P) pl y1 y2 = .inr 2 := if_pos hk
    have hL : f_L_ofLot (nI n) ow gr we du sa (nI P) pl oj y1 y2 = (1, oj) := by unfold f_L_ofLot; rw [h5]; rfl
    have h7 : f_X7_ofLot (nI P) pl y1 y2 n rc = (0, 1) := by unfold f_X7_ofLot; rw [if_pos hk7]; rfl
    have hnL : n_L_ofLot (nI n) ow gr we du sa (nI P) pl y1 y2 := by
      refine ⟨fun c => absurd hk c, ?_⟩
      intros
      exact q_01
    have hn7 : n_X7_ofLot (nI P) pl y1 y2 n := ⟨li_lotN _ _, fun c => absurd hk7 c⟩

    refine ⟨?_, ?_⟩
    · unfold n_b19
      rw [hx1, hx2, hL, h7]
      refine ⟨?_, ?_, ?_, ?_, ?_, ?_, ?_⟩
      · exact hi1
      · exact hi2
      · exact hnL
      · intro x1 x2 e3; cases e3; exact hn7
      · intro x1 x2 e3 x4 x5 e6 c7 c8; cases e3; cases e6; exact q_01
      · intro x1 x2 e3 x4 x5 e6 c7 c8 c9; cases e3; cases e6; exact absurd c8 (by decide)
      · intro x1 x2 e3 x4 x5 e6 c7; cases e3; cases e6; exact c7 rfl
    · unfold f_b19
      rw [hx1, hx2, hL, h7]
      dsimp only
      rw [if_pos (bk_th _), if_neg (by decide)]
      exact ⟨_, _, rfl⟩

  have hk7 : ¬ f_X7_isLot y1 n = 0 := by rw [li_lot hn]; exact hk
  obtain ⟨j, hj, rfl⟩ := li_has0 hn hk
  have hcj : (nI j).toNatClampNeg = j := nI_clamp (by omega)
  by_cases hk2 : f_X7_in y2 0 5 = 0
  · have h5 : f_X5_ofLot (nI n) ow gr we du sa (nI P) pl (nI j) y2 = .inr 0 := by unfold f_X5_ofLot; rw [li_isW, if_neg hk, if_pos hk2]
    have hL : f_L_ofLot (nI n) ow gr we du sa (nI P) pl oj (nI j) y2 = (2, oj) := by unfold f_L_ofLot; rw [h5]; rfl
    have h7 : f_X7_ofLot (nI P) pl (nI j) y2 n rc = (0, 2) := by unfold f_X7_ofLot; rw [if_neg hk7, if_pos hk2]; rfl
    have hnL : n_L_ofLot (nI n) ow gr we du sa (nI P) pl (nI j) y2 := by
      refine ⟨fun _ c => absurd hk2 c, ?_⟩
      intros
      exact q_01
    have hn7 : n_X7_ofLot (nI P) pl (nI j) y2 n := ⟨li_lotN _ _, fun _ c => absurd hk2 c⟩

    refine ⟨?_, ?_⟩
    · unfold n_b19
      rw [hx1, hx2, hL, h7]
      refine ⟨?_, ?_, ?_, ?_, ?_, ?_, ?_⟩
      · exact hi1
      · exact hi2
      · exact hnL
      · intro x1 x2 e3; cases e3; exact hn7
      · intro x1 x2 e3 x4 x5 e6 c7 c8; cases e3; cases e6; exact q_01
      · intro x1 x2 e3 x4 x5 e6 c7 c8 c9; cases e3; cases e6; exact absurd c8 (by decide)
      · intro x1 x2 e3 x4 x5 e6 c7; cases e3; cases e6; exact c7 rfl
    · unfold f_b19
      rw [hx1, hx2, hL, h7]
      dsimp only
      rw [if_pos (bk_th _), if_neg (by decide)]
      exact ⟨_, _, rfl⟩

  · obtain ⟨k, hk5, rfl⟩ := li_in (N := 5) (by decide) rfl hk2
    obtain ⟨e1, e2, e3⟩ := an_lot (pl := pl) hn hP hj hrc hk5
    have h5 : f_X5_ofLot (nI n) ow gr we du sa (nI P) pl (nI j) (nI k) = .inl (f_X5_lotAnswer ow gr we du sa (nI P) pl (nI j) (nI k)) := by unfold f_X5_ofLot; rw [li_isW, if_neg hk, if_neg hk2]
    have hL : f_L_ofLot (nI n) ow gr we du sa (nI P) pl oj (nI j) (nI k) = (0, vp_updL oj (0 : Int32).toNatClampNeg (f_X5_lotAnswer ow gr we du sa (nI P) pl (nI j) (nI k)).toInt64) := by unfold f_L_ofLot; rw [h5]
    have h7 : f_X7_ofLot (nI P) pl (nI j) (nI k) n rc = (f_X5_lotAnswer ow gr we du sa (nI P) pl (nI j) (nI k), 0) := by unfold f_X7_ofLot; rw [if_neg hk7, if_neg hk2, ← e1]
    have hnL : n_L_ofLot (nI n) ow gr we du sa (nI P) pl (nI j) (nI k) := by
      refine ⟨fun _ _ => e2, ?_⟩
      intros
      exact q_01
    have hn7 : n_X7_ofLot (nI P) pl (nI j) (nI k) n := ⟨li_lotN _ _, fun _ _ => e3⟩
    have hcmp := bk_cmp oj (f_X5_lotAnswer ow gr we du sa (nI P) pl (nI j) (nI k)).toInt64

    refine ⟨?_, ?_⟩
    · unfold n_b19
      rw [hx1, hx2, hL, h7]
      refine ⟨?_, ?_, ?_, ?_, ?_, ?_, ?_⟩
      · exact hi1
      · exact hi2
      · exact hnL
      · intro x1 x2 e3; cases e3; exact hn7
      · intro x1 x2 e3 x4 x5 e6 c7 c8; cases e3; cases e6; exact q_01
      · intro x1 x2 e3 x4 x5 e6 c7 c8 c9; cases e3; cases e6; exact c9 hcmp
      · intro x1 x2 e3 x4 x5 e6 c7; cases e3; cases e6; exact c7 rfl
    · unfold f_b19
      rw [hx1, hx2, hL, h7]
      dsimp only
      rw [if_pos (bk_th _), if_pos (show (0 : Int32) = 0 from rfl), if_pos hcmp]
      exact ⟨_, _, rfl⟩

theorem q_b20 (h : gj n P t m g s lk to su lv si sc fo ow gr we du sa le dl pl dr sp dn rc) (hi1 : vp_in (i5 + 1) L) : n_b20 (nI n) le ov n L xs i5 ∧ ∃ (ov' : Nat → UInt64) (th' : Int32), f_b20 (nI n) le ov n xs i5 = (ov', th') := by
  obtain ⟨ht, hm, hg, hs, hP, hn, hsu, hsc, hlk, hms, hto, hdr, hsp, hrc, hgw, hz⟩ := h
  generalize hx1 : xs (i5 + 1).toNatClampNeg = y1

  by_cases hk : f_X0_has (nI n) y1 = 0
  · have hk7 : f_X7_isLot y1 n = 0 := (li_lot hn y1).trans hk
    have h5 : f_X5_left (nI n) le y1 = .inr 2 := if_pos hk
    have hL : f_L_left (nI n) le ov y1 = (1, ov) := by unfold f_L_left; rw [h5]
    have h7 : f_X7_left le y1 n = (FP.i2d 0, 1) := by unfold f_X7_left; rw [if_pos hk7]; rfl
    have hnL : n_L_left (nI n) le y1 := by
      refine ⟨fun c => absurd hk c, ?_⟩
      intros
      exact q_01
    have hn7 : n_X7_left y1 n := ⟨li_lotN _ _, fun c => absurd hk7 c⟩

    refine ⟨?_, ?_⟩
    · unfold n_b20
      rw [hx1, hL, h7]
      refine ⟨?_, ?_, ?_, ?_, ?_, ?_, ?_⟩
      · exact hi1
      · exact hnL
      · intro x1 x2 e3; cases e3; exact hn7
      · intro x1 x2 e3 x4 x5 e6 c7 c8; cases e3; cases e6; exact q_01
      · intro x1 x2 e3 x4 x5 e6 c7 c8 c9 c10; cases e3; cases e6; exact absurd c8 (by decide)
      · intro x1 x2 e3 x4 x5 e6 c7 c8 c9 c10 c11; cases e3; cases e6; exact absurd c8 (by decide)
      · intro x1 x2 e3 x4 x5 e6 c7; cases e3; cases e6; exact c7 rfl
    · unfold f_b20
      rw [hx1, hL, h7]
      dsimp only
      rw [if_pos (bk_th _), if_neg (by decide)]
      exact ⟨_, _, rfl⟩

  have hk7 : ¬ f_X7_isLot y1 n = 0 := by rw [li_lot hn]; exact hk
  obtain ⟨j, hj, rfl⟩ := li_has0 hn hk
  have hcj : (nI j).toNatClampNeg = j := nI_clamp (by omega)
  · have hv := (hms.2.2.2.2.1 j).vr.ok
    have ij : vp_in (nI j) 10 := vp_in_nI (by omega) (by decide)
    have h5 : f_X5_left (nI n) le (nI j) = .inl (le j) := by unfold f_X5_left; rw [if_neg hk, hcj]
    have hL : f_L_left (nI n) le ov (nI j) = (0, vf_upd ov (0 : Int32).toNatClampNeg (le j)) := by unfold f_L_left; rw [h5]
    have h7 : f_X7_left le (nI j) n = (le j, 0) := by unfold f_X7_left; rw [if_neg hk7, hcj]
    have hnL : n_L_left (nI n) le (nI j) := by
      refine ⟨fun _ => ij, ?_⟩
      intros
      exact q_01
    have hn7 : n_X7_left (nI j) n := ⟨li_lotN _ _, fun _ => ij⟩
    have hcmp := bk_cmpD ov hv

    refine ⟨?_, ?_⟩
    · unfold n_b20
      rw [hx1, hL, h7]
      refine ⟨?_, ?_, ?_, ?_, ?_, ?_, ?_⟩
      · exact hi1
      · exact hnL
      · intro x1 x2 e3; cases e3; exact hn7
      · intro x1 x2 e3 x4 x5 e6 c7 c8; cases e3; cases e6; exact q_01
      · intro x1 x2 e3 x4 x5 e6 c7 c8 c9 c10; cases e3; cases e6; exact c9 hcmp
      · intro x1 x2 e3 x4 x5 e6 c7 c8 c9 c10 c11; cases e3; cases e6; exact c9 hcmp
      · intro x1 x2 e3 x4 x5 e6 c7; cases e3; cases e6; exact c7 rfl
    · unfold f_b20
      rw [hx1, hL, h7]
      dsimp only
      rw [if_pos (bk_th _), if_pos (show (0 : Int32) = 0 from rfl), if_pos hcmp]
      exact ⟨_, _, rfl⟩

theorem q_b21 (h : gj n P t m g s lk to su lv si sc fo ow gr we du sa le dl pl dr sp dn rc) (hi1 : vp_in (i5 + 1) L) : n_b21 lk rf pu fh lh ee (nI t) (nI m) (nI g) (nI s) (nI n) sa (nI P) sp oj n rc L xs i5 ∧ ∃ (oj' : Nat → Int64) (th' : Int32), f_b21 lk rf pu fh lh ee (nI t) (nI m) (nI g) (nI s) (nI n) sa (nI P) sp oj n rc xs i5 = (oj', th') := by
  obtain ⟨ht, hm, hg, hs, hP, hn, hsu, hsc, hlk, hms, hto, hdr, hsp, hrc, hgw, hz⟩ := h
  generalize hx1 : xs (i5 + 1).toNatClampNeg = y1

  by_cases hk : f_X7_in y1 0 16 = 0
  · have h5 : f_X5_many lk rf pu fh lh ee (nI t) (nI m) (nI g) (nI s) (nI n) sa (nI P) sp y1 = .inr 0 := if_pos hk
    have hL : f_L_many lk rf pu fh lh ee (nI t) (nI m) (nI g) (nI s) (nI n) sa (nI P) sp oj y1 = (1, oj) := by unfold f_L_many; rw [h5]
    have h7 : f_X7_many rf lk pu (nI t) (nI m) (nI g) (nI s) fh lh ee (nI P) sp y1 n rc = (0, 1) := by unfold f_X7_many; rw [if_pos hk]; rfl
    have hnL : n_L_many lk rf pu fh lh ee (nI t) (nI m) (nI g) (nI s) (nI n) sa (nI P) sp y1 := by
      refine ⟨fun c => absurd hk c, ?_⟩
      intros
      exact q_01
    have hn7 : n_X7_many lk (nI t) fh lh y1 n rc := fun c => absurd hk c

    refine ⟨?_, ?_⟩
    · unfold n_b21
      rw [hx1, hL, h7]
      refine ⟨?_, ?_, ?_, ?_, ?_, ?_⟩
      · exact hi1
      · exact hnL
      · intro x1 x2 e3; cases e3; exact hn7
      · intro x1 x2 e3 x4 x5 e6 c7 c8; cases e3; cases e6; exact q_01
      · intro x1 x2 e3 x4 x5 e6 c7 c8 c9; cases e3; cases e6; exact absurd c8 (by decide)
      · intro x1 x2 e3 x4 x5 e6 c7; cases e3; cases e6; exact c7 rfl
    · unfold f_b21
      rw [hx1, hL, h7]
      dsimp only
      rw [if_pos (bk_th _), if_neg (by decide)]
      exact ⟨_, _, rfl⟩

  · obtain ⟨k, hk16, rfl⟩ := li_in (N := 16) (by decide) rfl hk
    obtain ⟨e1, e2, e3⟩ := an_many (lk := lk) (rf := rf) (pu := pu) (fh := fh) (lh := lh) (ee := ee) (tk := nI t) (mo := nI m) (ga := nI g) (sl := nI s) hn hP (fun k hk => (hrc k hk).2.2.2.2) hsp hk16
    have h5 : f_X5_many lk rf pu fh lh ee (nI t) (nI m) (nI g) (nI s) (nI n) sa (nI P) sp (nI k) = .inl (f_X5_manyAnswer lk rf pu fh lh ee (nI t) (nI m) (nI g) (nI s) (nI n) sa (nI P) sp (nI k)) := by unfold f_X5_many; rw [li_isW, if_neg hk]
    have hL : f_L_many lk rf pu fh lh ee (nI t) (nI m) (nI g) (nI s) (nI n) sa (nI P) sp oj (nI k) = (0, vp_updL oj (0 : Int32).toNatClampNeg (f_X5_manyAnswer lk rf pu fh lh ee (nI t) (nI m) (nI g) (nI s) (nI n) sa (nI P) sp (nI k)).toInt64) := by unfold f_L_many; rw [h5]
    have h7 : f_X7_many rf lk pu (nI t) (nI m) (nI g) (nI s) fh lh ee (nI P) sp (nI k) n rc = (f_X5_manyAnswer lk rf pu fh lh ee (nI t) (nI m) (nI g) (nI s) (nI n) sa (nI P) sp (nI k), 0) := by unfold f_X7_many; rw [if_neg hk, ← e1]
    have hnL : n_L_many lk rf pu fh lh ee (nI t) (nI m) (nI g) (nI s) (nI n) sa (nI P) sp (nI k) := by
      refine ⟨fun _ => e2, ?_⟩
      intros
      exact q_01
    have hn7 : n_X7_many lk (nI t) fh lh (nI k) n rc := fun _ => e3
    have hcmp := bk_cmp oj (f_X5_manyAnswer lk rf pu fh lh ee (nI t) (nI m) (nI g) (nI s) (nI n) sa (nI P) sp (nI k)).toInt64

    refine ⟨?_, ?_⟩
    · unfold n_b21
      rw [hx1, hL, h7]
      refine ⟨?_, ?_, ?_, ?_, ?_, ?_⟩
      · exact hi1
      · exact hnL
      · intro x1 x2 e3; cases e3; exact hn7
      · intro x1 x2 e3 x4 x5 e6 c7 c8; cases e3; cases e6; exact q_01
      · intro x1 x2 e3 x4 x5 e6 c7 c8 c9; cases e3; cases e6; exact c9 hcmp
      · intro x1 x2 e3 x4 x5 e6 c7; cases e3; cases e6; exact c7 rfl
    · unfold f_b21
      rw [hx1, hL, h7]
      dsimp only
      rw [if_pos (bk_th _), if_pos (show (0 : Int32) = 0 from rfl), if_pos hcmp]
      exact ⟨_, _, rfl⟩

theorem q_b24 (h : gj n P t m g s lk to su lv si sc fo ow gr we du sa le dl pl dr sp dn rc) (hi1 : vp_in (i5 + 1) L) : n_b24 fh lh ee (nI t) (nI m) su lv si (nI g) (nI s) sc fo (nI n) gr sa le (nI P) dl pl dr sp ov dn n rc L xs i5 ∧ ∃ (ov' : Nat → UInt64) (th' : Int32), f_b24 fh lh ee (nI t) (nI m) su lv si (nI g) (nI s) sc fo (nI n) gr sa le (nI P) dl pl dr sp ov dn rc xs i5 = (ov', th') := by
  obtain ⟨ht, hm, hg, hs, hP, hn, hsu, hsc, hlk, hms, hto, hdr, hsp, hrc, hgw, hz⟩ := h
  generalize hx1 : xs (i5 + 1).toNatClampNeg = y1

  by_cases hk : f_X7_in y1 1 100 = 0
  · have h5 : f_X5_wouldLevel fh lh ee (nI t) (nI m) su lv si (nI g) (nI s) sc fo (nI n) gr sa le (nI P) dl pl dr sp y1 = .inr 0 := if_pos hk
    have hL : f_L_wouldLevel fh lh ee (nI t) (nI m) su lv si (nI g) (nI s) sc fo (nI n) gr sa le (nI P) dl pl dr sp ov y1 = (1, ov) := by unfold f_L_wouldLevel; rw [h5]
    have h7 : f_X7_wouldLevel (nI t) (nI m) su lv si (nI g) (nI s) sc fh lh (nI P) dl pl dr le dn y1 rc = (FP.i2d 0, 1) := by unfold f_X7_wouldLevel; rw [if_pos hk]; rfl
    have hnL : n_L_wouldLevel fh lh ee (nI t) (nI m) su lv si (nI g) (nI s) sc fo (nI n) gr sa le (nI P) dl pl dr sp y1 := by
      refine ⟨⟨fun c => absurd hk c, fun c => absurd hk c⟩, ?_⟩
      intros
      exact q_01
    have hn7 : n_X7_wouldLevel (nI t) (nI m) su lv si (nI g) (nI s) sc fh lh (nI P) dl pl dr le dn y1 n rc := ⟨fun c => absurd hk c, fun c => absurd hk c⟩

    refine ⟨?_, ?_⟩
    · unfold n_b24
      rw [hx1, hL, h7]
      refine ⟨?_, ?_, ?_, ?_, ?_, ?_, ?_⟩
      · exact hi1
      · exact hnL
      · intro x1 x2 e3; cases e3; exact hn7
      · intro x1 x2 e3 x4 x5 e6 c7 c8; cases e3; cases e6; exact q_01
      · intro x1 x2 e3 x4 x5 e6 c7 c8 c9 c10; cases e3; cases e6; exact absurd c8 (by decide)
      · intro x1 x2 e3 x4 x5 e6 c7 c8 c9 c10 c11; cases e3; cases e6; exact absurd c8 (by decide)
      · intro x1 x2 e3 x4 x5 e6 c7; cases e3; cases e6; exact c7 rfl
    · unfold f_b24
      rw [hx1, hL, h7]
      dsimp only
      rw [if_pos (bk_th _), if_neg (by decide)]
      exact ⟨_, _, rfl⟩

  · obtain ⟨T, hT1, hT, rfl⟩ := li_in1 (N := 100) (by decide) rfl hk
    obtain ⟨x, x1, ⟨u1, u2, u4, u5, u6, u7, u8, u9, u10, u11, x2⟩, ⟨v0, v1, v2, v3, v5, v6, v7, v8, v9, v10, v11, x3⟩, x4, x5⟩ := an_level (fh := fh) (lh := lh) (sc := sc) (ee := ee) (dr := dr) (sp := sp) (rc := rc) hm hsu hg hs hn hP hT (fun k hk => (hrc k hk).2.1) ht hms
    have h5 : f_X5_wouldLevel fh lh ee (nI t) (nI m) su lv si (nI g) (nI s) sc fo (nI n) gr sa le (nI P) dl pl dr sp (nI T) = .inl (x) := by unfold f_X5_wouldLevel; rw [li_isW, if_neg hk, x2]
    have hL : f_L_wouldLevel fh lh ee (nI t) (nI m) su lv si (nI g) (nI s) sc fo (nI n) gr sa le (nI P) dl pl dr sp ov (nI T) = (0, vf_upd ov (0 : Int32).toNatClampNeg (x)) := by unfold f_L_wouldLevel; rw [h5]
    have h7 : f_X7_wouldLevel (nI t) (nI m) su lv si (nI g) (nI s) sc fh lh (nI P) dl pl dr le dn (nI T) rc = (x, 0) := by unfold f_X7_wouldLevel; rw [if_neg hk, x3]
    have hnL : n_L_wouldLevel fh lh ee (nI t) (nI m) su lv si (nI g) (nI s) sc fo (nI n) gr sa le (nI P) dl pl dr sp (nI T) := by
      refine ⟨⟨fun _ => hsc, fun _ => x4⟩, ?_⟩
      intros
      exact q_01
    have hn7 : n_X7_wouldLevel (nI t) (nI m) su lv si (nI g) (nI s) sc fh lh (nI P) dl pl dr le dn (nI T) n rc := ⟨fun _ => ⟨hsc, an_dn hms⟩, fun _ => x5⟩
    have hcmp := bk_cmpD ov x1

    refine ⟨?_, ?_⟩
    · unfold n_b24
      rw [hx1, hL, h7]
      refine ⟨?_, ?_, ?_, ?_, ?_, ?_, ?_⟩
      · exact hi1
      · exact hnL
      · intro x1 x2 e3; cases e3; exact hn7
      · intro x1 x2 e3 x4 x5 e6 c7 c8; cases e3; cases e6; exact q_01
      · intro x1 x2 e3 x4 x5 e6 c7 c8 c9 c10; cases e3; cases e6; exact c9 hcmp
      · intro x1 x2 e3 x4 x5 e6 c7 c8 c9 c10 c11; cases e3; cases e6; exact c9 hcmp
      · intro x1 x2 e3 x4 x5 e6 c7; cases e3; cases e6; exact c7 rfl
    · unfold f_b24
      rw [hx1, hL, h7]
      dsimp only
      rw [if_pos (bk_th _), if_pos (show (0 : Int32) = 0 from rfl), if_pos hcmp]
      exact ⟨_, _, rfl⟩

theorem q_b25 (h : gj n P t m g s lk to su lv si sc fo ow gr we du sa le dl pl dr sp dn rc) (hi1 : vp_in (i5 + 1) L) : n_b25 fh lh ee (nI t) (nI m) su lv si (nI g) (nI s) sc fo (nI n) gr sa le (nI P) dl pl dr sp oj dn n rc L xs i5 ∧ ∃ (oj' : Nat → Int64) (th' : Int32), f_b25 fh lh ee (nI t) (nI m) su lv si (nI g) (nI s) sc fo (nI n) gr sa le (nI P) dl pl dr sp oj dn n rc xs i5 = (oj', th') := by
  obtain ⟨ht, hm, hg, hs, hP, hn, hsu, hsc, hlk, hms, hto, hdr, hsp, hrc, hgw, hz⟩ := h
  generalize hx1 : xs (i5 + 1).toNatClampNeg = y1

  by_cases hk : f_X0_has (nI n) y1 = 0
  · have hk7 : f_X7_isLot y1 n = 0 := (li_lot hn y1).trans hk
    have h5 : f_X5_wouldDone fh lh ee (nI t) (nI m) su lv si (nI g) (nI s) sc fo (nI n) gr sa le (nI P) dl pl dr sp y1 = .inr 2 := if_pos hk
    have hL : f_L_wouldDone fh lh ee (nI t) (nI m) su lv si (nI g) (nI s) sc fo (nI n) gr sa le (nI P) dl pl dr sp oj y1 = (1, oj) := by unfold f_L_wouldDone; rw [h5]
    have h7 : f_X7_wouldDone (nI t) (nI m) su lv si (nI g) (nI s) sc fh lh (nI P) dl pl dr le dn y1 n rc = (0, 1) := by unfold f_X7_wouldDone; rw [if_pos hk7]; rfl
    have hnL : n_L_wouldDone fh lh ee (nI t) (nI m) su lv si (nI g) (nI s) sc fo (nI n) gr sa le (nI P) dl pl dr sp y1 := by
      refine ⟨fun c => absurd hk c, ?_⟩
      intros
      exact q_01
    have hn7 : n_X7_wouldDone (nI t) (nI m) su lv si (nI g) (nI s) sc fh lh (nI P) dl pl dr le dn y1 n rc := ⟨li_lotN _ _, fun c => absurd hk7 c⟩

    refine ⟨?_, ?_⟩
    · unfold n_b25
      rw [hx1, hL, h7]
      refine ⟨?_, ?_, ?_, ?_, ?_, ?_⟩
      · exact hi1
      · exact hnL
      · intro x1 x2 e3; cases e3; exact hn7
      · intro x1 x2 e3 x4 x5 e6 c7 c8; cases e3; cases e6; exact q_01
      · intro x1 x2 e3 x4 x5 e6 c7 c8 c9; cases e3; cases e6; exact absurd c8 (by decide)
      · intro x1 x2 e3 x4 x5 e6 c7; cases e3; cases e6; exact c7 rfl
    · unfold f_b25
      rw [hx1, hL, h7]
      dsimp only
      rw [if_pos (bk_th _), if_neg (by decide)]
      exact ⟨_, _, rfl⟩

  have hk7 : ¬ f_X7_isLot y1 n = 0 := by rw [li_lot hn]; exact hk
  obtain ⟨j, hj, rfl⟩ := li_has0 hn hk
  have hcj : (nI j).toNatClampNeg = j := nI_clamp (by omega)
  · obtain ⟨e1, e2, e3⟩ := an_done (fh := fh) (lh := lh) (sc := sc) (ee := ee) (dr := dr) (sp := sp) (rc := rc) hm hsu hg hs hn hP (fun k hk => (hrc k hk).2.1) (fun k hk => (hrc k hk).2.2.2.2) ht hsc hms hj
    have h5 : f_X5_wouldDone fh lh ee (nI t) (nI m) su lv si (nI g) (nI s) sc fo (nI n) gr sa le (nI P) dl pl dr sp (nI j) = .inl (f_X5_ticksToDone fh lh ee (nI t) (nI m) su lv si (nI g) (nI s) sc fo (nI n) gr sa le (nI P) dl pl dr sp (nI j)) := by unfold f_X5_wouldDone; rw [if_neg hk]
    have hL : f_L_wouldDone fh lh ee (nI t) (nI m) su lv si (nI g) (nI s) sc fo (nI n) gr sa le (nI P) dl pl dr sp oj (nI j) = (0, vp_updL oj (0 : Int32).toNatClampNeg (f_X5_ticksToDone fh lh ee (nI t) (nI m) su lv si (nI g) (nI s) sc fo (nI n) gr sa le (nI P) dl pl dr sp (nI j)).toInt64) := by unfold f_L_wouldDone; rw [h5]
    have h7 : f_X7_wouldDone (nI t) (nI m) su lv si (nI g) (nI s) sc fh lh (nI P) dl pl dr le dn (nI j) n rc = (f_X5_ticksToDone fh lh ee (nI t) (nI m) su lv si (nI g) (nI s) sc fo (nI n) gr sa le (nI P) dl pl dr sp (nI j), 0) := by unfold f_X7_wouldDone; rw [if_neg hk7, ← e1]
    have hnL : n_L_wouldDone fh lh ee (nI t) (nI m) su lv si (nI g) (nI s) sc fo (nI n) gr sa le (nI P) dl pl dr sp (nI j) := by
      refine ⟨fun _ => e2, ?_⟩
      intros
      exact q_01
    have hn7 : n_X7_wouldDone (nI t) (nI m) su lv si (nI g) (nI s) sc fh lh (nI P) dl pl dr le dn (nI j) n rc := ⟨li_lotN _ _, fun _ => e3⟩
    have hcmp := bk_cmp oj (f_X5_ticksToDone fh lh ee (nI t) (nI m) su lv si (nI g) (nI s) sc fo (nI n) gr sa le (nI P) dl pl dr sp (nI j)).toInt64

    refine ⟨?_, ?_⟩
    · unfold n_b25
      rw [hx1, hL, h7]
      refine ⟨?_, ?_, ?_, ?_, ?_, ?_⟩
      · exact hi1
      · exact hnL
      · intro x1 x2 e3; cases e3; exact hn7
      · intro x1 x2 e3 x4 x5 e6 c7 c8; cases e3; cases e6; exact q_01
      · intro x1 x2 e3 x4 x5 e6 c7 c8 c9; cases e3; cases e6; exact c9 hcmp
      · intro x1 x2 e3 x4 x5 e6 c7; cases e3; cases e6; exact c7 rfl
    · unfold f_b25
      rw [hx1, hL, h7]
      dsimp only
      rw [if_pos (bk_th _), if_pos (show (0 : Int32) = 0 from rfl), if_pos hcmp]
      exact ⟨_, _, rfl⟩

theorem q_b26 (h : gj n P t m g s lk to su lv si sc fo ow gr we du sa le dl pl dr sp dn rc) (hi1 : vp_in (i5 + 1) L) : n_b26 fh lh ee (nI t) (nI m) su lv si (nI g) sc fo (nI n) gr sa le (nI P) dl pl dr sp oj dn n rc L xs i5 ∧ ∃ (oj' : Nat → Int64) (th' : Int32), f_b26 fh lh ee (nI t) (nI m) su lv si (nI g) sc fo (nI n) gr sa le (nI P) dl pl dr sp oj dn n rc xs i5 = (oj', th') := by
  obtain ⟨ht, hm, hg, hs, hP, hn, hsu, hsc, hlk, hms, hto, hdr, hsp, hrc, hgw, hz⟩ := h
  generalize hx1 : xs (i5 + 1).toNatClampNeg = y1

  by_cases hk : f_X7_in y1 1 48 = 0
  · have h5 : f_X5_best fh lh ee (nI t) (nI m) su lv si (nI g) sc fo (nI n) gr sa le (nI P) dl pl dr sp y1 = .inr 0 := if_pos hk
    have hL : f_L_best fh lh ee (nI t) (nI m) su lv si (nI g) sc fo (nI n) gr sa le (nI P) dl pl dr sp oj y1 = (1, oj) := by unfold f_L_best; rw [h5]
    have h7 : f_X7_best (nI t) (nI m) su lv si (nI g) sc fh lh (nI P) dl pl dr le dn y1 n rc = (0, 1) := by unfold f_X7_best; rw [if_pos hk]; rfl
    have hnL : n_L_best fh lh ee (nI t) (nI m) su lv si (nI g) sc fo (nI n) gr sa le (nI P) dl pl dr sp y1 := by
      refine ⟨fun c => absurd hk c, ?_⟩
      intros
      exact q_01
    have hn7 : n_X7_best (nI t) (nI m) su lv si (nI g) sc fh lh (nI P) dl pl dr le dn y1 n rc := fun c => absurd hk c

    refine ⟨?_, ?_⟩
    · unfold n_b26
      rw [hx1, hL, h7]
      refine ⟨?_, ?_, ?_, ?_, ?_, ?_⟩
      · exact hi1
      · exact hnL
      · intro x1 x2 e3; cases e3; exact hn7
      · intro x1 x2 e3 x4 x5 e6 c7 c8; cases e3; cases e6; exact q_01
      · intro x1 x2 e3 x4 x5 e6 c7 c8 c9; cases e3; cases e6; exact absurd c8 (by decide)
      · intro x1 x2 e3 x4 x5 e6 c7; cases e3; cases e6; exact c7 rfl
    · unfold f_b26
      rw [hx1, hL, h7]
      dsimp only
      rw [if_pos (bk_th _), if_neg (by decide)]
      exact ⟨_, _, rfl⟩

  · obtain ⟨T, hT1, hT, rfl⟩ := li_in1 (N := 48) (by decide) rfl hk
    obtain ⟨e1, e2, e3⟩ := wd_bestE (fh := fh) (lh := lh) (sc := sc) (ee := ee) (dr := dr) (sp := sp) (rc := rc) hm hsu hg hn hP hT (fun k hk => (hrc k hk).2.1) ht hsc (an_dn hms) hms
    have h5 : f_X5_best fh lh ee (nI t) (nI m) su lv si (nI g) sc fo (nI n) gr sa le (nI P) dl pl dr sp (nI T) = .inl (f_X5_bestSluice fh lh ee (nI t) (nI m) su lv si (nI g) sc fo (nI n) gr sa le (nI P) dl pl dr sp (nI T)) := by unfold f_X5_best; rw [li_isW, if_neg hk]
    have hL : f_L_best fh lh ee (nI t) (nI m) su lv si (nI g) sc fo (nI n) gr sa le (nI P) dl pl dr sp oj (nI T) = (0, vp_updL oj (0 : Int32).toNatClampNeg (f_X5_bestSluice fh lh ee (nI t) (nI m) su lv si (nI g) sc fo (nI n) gr sa le (nI P) dl pl dr sp (nI T)).toInt64) := by unfold f_L_best; rw [h5]
    have h7 : f_X7_best (nI t) (nI m) su lv si (nI g) sc fh lh (nI P) dl pl dr le dn (nI T) n rc = (f_X5_bestSluice fh lh ee (nI t) (nI m) su lv si (nI g) sc fo (nI n) gr sa le (nI P) dl pl dr sp (nI T), 0) := by unfold f_X7_best; rw [if_neg hk, ← e1]
    have hnL : n_L_best fh lh ee (nI t) (nI m) su lv si (nI g) sc fo (nI n) gr sa le (nI P) dl pl dr sp (nI T) := by
      refine ⟨fun _ => e2, ?_⟩
      intros
      exact q_01
    have hn7 : n_X7_best (nI t) (nI m) su lv si (nI g) sc fh lh (nI P) dl pl dr le dn (nI T) n rc := fun _ => e3
    have hcmp := bk_cmp oj (f_X5_bestSluice fh lh ee (nI t) (nI m) su lv si (nI g) sc fo (nI n) gr sa le (nI P) dl pl dr sp (nI T)).toInt64

    refine ⟨?_, ?_⟩
    · unfold n_b26
      rw [hx1, hL, h7]
      refine ⟨?_, ?_, ?_, ?_, ?_, ?_⟩
      · exact hi1
      · exact hnL
      · intro x1 x2 e3; cases e3; exact hn7
      · intro x1 x2 e3 x4 x5 e6 c7 c8; cases e3; cases e6; exact q_01
      · intro x1 x2 e3 x4 x5 e6 c7 c8 c9; cases e3; cases e6; exact c9 hcmp
      · intro x1 x2 e3 x4 x5 e6 c7; cases e3; cases e6; exact c7 rfl
    · unfold f_b26
      rw [hx1, hL, h7]
      dsimp only
      rw [if_pos (bk_th _), if_pos (show (0 : Int32) = 0 from rfl), if_pos hcmp]
      exact ⟨_, _, rfl⟩

end
