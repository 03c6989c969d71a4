section
variable {n : Nat} {P : Nat} {t : Nat} {m : Nat} {g : Nat} {s : Nat} {lk : Int32} {to : UInt64} {su : UInt64} {lv : UInt64} {si : UInt32} {sc : Int32} {fo : UInt64} {ow : Nat → Int32} {gr : Nat → Int32} {we : Nat → Int32} {du : Nat → Int32} {sa : Nat → Int32} {le : Nat → UInt64} {dl : Nat → UInt32} {pl : Nat → Int32} {dr : Nat → Int32} {sp : Nat → Int32} {dn : Nat → Int32} {rc : Nat → Nat → Int32} {oj : Nat → Int64} {L : Nat} {xs : Nat → Int32} {i5 : Int32}
theorem q_b12 (h : gj n P t m g s lk to su lv si sc fo ow gr we du sa le dl pl dr sp dn rc) (hi1 : vp_in (i5 + 1) L) : n_b12 (nI P) dl pl dr oj L xs i5 ∧ ∃ (dr' : Nat → Int32) (oj' : Nat → Int64) (th' : Int32), f_b12 (nI P) dl pl dr oj xs i5 = (dr', oj', th', dr') ∧ gj n P t m g s lk to su lv si sc fo ow gr we du sa le dl pl dr' sp dn rc := by
  obtain ⟨ht, hm, hg, hs, hP, hn, hsu, hsc, hlk, hms, hto, hdr, hsp, hrc, hgw, hz⟩ := h
  generalize hx1 : xs (i5 + 1).toNatClampNeg = y1
  by_cases hk : f_X2_has (nI P) y1 = 0
  · have hk7 : f_X7_isPair (nI P) y1 = 0 := (li_pair hP y1).trans hk
    have h5 : f_X5_dress (nI P) dl pl dr y1 = .inr 2 := if_pos hk
    have hL : f_L_dress (nI P) dl pl dr oj y1 = (1, dr, oj) := by unfold f_L_dress; rw [h5]; rfl
    have h7 : f_X7_dress (nI P) dl pl dr y1 = (0, 1, dr) := by unfold f_X7_dress; rw [if_pos hk7]; rfl
    have hnL : n_L_dress (nI P) dl pl dr y1 := ⟨⟨fun c => absurd hk c, fun c => absurd hk c, fun c => absurd hk c, fun c => absurd hk c⟩, fun _ _ _ => q_01⟩
    have hn7 : n_X7_dress (nI P) dl pl dr y1 := ⟨li_pairN _ _, fun c => absurd hk7 c, fun c => absurd hk7 c, fun c => absurd hk7 c, fun c => absurd hk7 c, fun c => absurd hk7 c⟩
    refine ⟨?_, ?_⟩
    · unfold n_b12
      rw [hx1, hL, h7]
      refine ⟨hi1, hnL, ?_, ?_, ?_, ?_⟩
      · intro x1 x2 x3 e5; cases e5; exact hn7
      · intro x1 x2 x3 e5 x6 x7 x8 e10 c11 c12; cases e5; cases e10; exact q_01
      · intro x1 x2 x3 e5 x6 x7 x8 e10 c11 c12 c13; cases e5; cases e10; exact absurd c12 (by decide)
      · intro x1 x2 x3 e5 x6 x7 x8 e10 c11; cases e5; cases e10; exact c11 rfl
    · unfold f_b12
      rw [hx1, hL, h7]
      dsimp only
      rw [if_pos (bk_th _), if_neg (by decide)]
      exact ⟨dr, oj, 1, rfl, ⟨ht, hm, hg, hs, hP, hn, hsu, hsc, hlk, hms, hto, hdr, hsp, hrc, hgw, hz⟩⟩
  have hk7 : ¬ f_X7_isPair (nI P) y1 = 0 := by rw [li_pair hP]; exact hk
  obtain ⟨p, hp, rfl⟩ := li_has2 hP hk
  have hc : (nI p).toNatClampNeg = p := nI_clamp (by omega)
  have ip := an_v3 p (by omega)
  have hmi := hms.2.2.2
  have hfree : (f_X2_isFree pl dr (nI p) = 0 ↔ ¬ (pl p = -1 ∧ dr p = 0)) := by
    unfold f_X2_isFree
    rw [hc]
    by_cases c1 : pl p = -1
    · rw [if_pos c1]
      by_cases c2 : dr p = 0
      · rw [if_pos c2]
        exact ⟨fun e => absurd e (by decide), fun e => absurd ⟨c1, c2⟩ e⟩
      · rw [if_neg c2]
        exact ⟨fun _ e => c2 e.2, fun _ => rfl⟩
    · rw [if_neg c1]
      exact ⟨fun _ e => c1 e.1, fun _ => rfl⟩
  have hdr0 : dr p = 0 ↔ dr p ≤ 0 := bk_dr hdr p
  have hvd : vr (FP.f2d (dl p)) 0 8 := (hmi.1 p).f2d (by decide) (by decide)
  have hvx : vr (FP.dmul 4620693217682128896 (FP.f2d (dl p))) 0 64 := (vr.c (a := 4620693217682128896) (l := 64) (u := 64) (by decide +kernel)).mul hvd 0 64 (by decide) (by decide) (by decide) (by decide) (by decide) (by decide)
  obtain ⟨k, hk8, e1, e2, e3, e4⟩ := cl_all hvx
  have hnL : n_L_dress (nI P) dl pl dr (nI p) := by
    refine ⟨⟨fun _ => ip, fun _ _ => ip, fun _ _ => ?_, fun _ _ => ?_⟩, fun _ _ _ => q_01⟩
    · rw [hc]; exact hvd.n
    · rw [hc]; exact hvx.n
  have hn7 : n_X7_dress (nI P) dl pl dr (nI p) := by
    refine ⟨li_pairN _ _, fun _ => ip, fun _ _ _ => ?_, fun _ _ _ => ?_, fun _ _ _ => ?_, fun _ _ _ => ?_⟩
    · rw [hc]; exact hvd.n
    · rw [hc]; exact hvx.n
    · rw [hc]; exact e4
    · rw [hc]; exact e3
  rcases (Classical.em (pl p = -1 ∧ dr p = 0)).symm with hw | hw
  · have h5 : f_X5_dress (nI P) dl pl dr (nI p) = .inr 1 := by
      unfold f_X5_dress
      rw [if_neg hk, if_pos (hfree.mpr hw)]
    have hL : f_L_dress (nI P) dl pl dr oj (nI p) = (2, dr, oj) := by unfold f_L_dress; rw [h5]; rfl
    have h7 : f_X7_dress (nI P) dl pl dr (nI p) = (0, 2, dr) := by
      unfold f_X7_dress
      rw [if_neg hk7, hc]
      by_cases c1 : pl p = -1
      · rw [if_pos c1, if_neg (fun c => hw ⟨c1, hdr0.mpr c⟩)]
        rfl
      · rw [if_neg c1]
        rfl
    refine ⟨?_, ?_⟩
    · unfold n_b12
      rw [hx1, hL, h7]
      refine ⟨hi1, hnL, ?_, ?_, ?_, ?_⟩
      · intro x1 x2 x3 e5; cases e5; exact hn7
      · intro x1 x2 x3 e5 x6 x7 x8 e10 c11 c12; cases e5; cases e10; exact q_01
      · intro x1 x2 x3 e5 x6 x7 x8 e10 c11 c12 c13; cases e5; cases e10; exact absurd c12 (by decide)
      · intro x1 x2 x3 e5 x6 x7 x8 e10 c11; cases e5; cases e10; exact c11 rfl
    · unfold f_b12
      rw [hx1, hL, h7]
      dsimp only
      rw [if_pos (bk_th _), if_neg (by decide)]
      exact ⟨dr, oj, 2, rfl, ⟨ht, hm, hg, hs, hP, hn, hsu, hsc, hlk, hms, hto, hdr, hsp, hrc, hgw, hz⟩⟩
  · have hnf : ¬ f_X2_isFree pl dr (nI p) = 0 := fun c => (hfree.mp c) hw
    have h5 : f_X5_dress (nI P) dl pl dr (nI p) = .inl (3 + nI k, upd dr p (3 + nI k)) := by
      unfold f_X5_dress
      rw [if_neg hk, if_neg hnf, hc, e1, pk_us]
    have hL : f_L_dress (nI P) dl pl dr oj (nI p) = (0, upd dr p (3 + nI k), vp_updL oj (0 : Int32).toNatClampNeg (3 + nI k).toInt64) := by unfold f_L_dress; rw [h5]
    have h7 : f_X7_dress (nI P) dl pl dr (nI p) = (3 + nI k, 0, upd dr p (3 + nI k)) := by
      unfold f_X7_dress
      rw [if_neg hk7, hc, if_pos hw.1, if_pos (hdr0.mp hw.2), e2, pk_us]
    have hcmp := bk_cmp oj (3 + nI k).toInt64
    have hdr2 : drk (upd dr p (3 + nI k)) := by
      intro q
      by_cases e : q = p
      · subst e
        refine ⟨3 + k, by omega, ?_⟩
        rw [pk_us]
        exact nI_add 3 k
      · rw [pk_un e]
        exact hdr q
    refine ⟨?_, ?_⟩
    · unfold n_b12
      rw [hx1, hL, h7]
      refine ⟨hi1, hnL, ?_, ?_, ?_, ?_⟩
      · intro x1 x2 x3 e5; cases e5; exact hn7
      · intro x1 x2 x3 e5 x6 x7 x8 e10 c11 c12; cases e5; cases e10; exact q_01
      · intro x1 x2 x3 e5 x6 x7 x8 e10 c11 c12 c13; cases e5; cases e10; exact c13 hcmp
      · intro x1 x2 x3 e5 x6 x7 x8 e10 c11; cases e5; cases e10; exact c11 rfl
    · unfold f_b12
      rw [hx1, hL, h7]
      dsimp only
      rw [if_pos (bk_th _), if_pos (show (0 : Int32) = 0 from rfl), if_pos hcmp]
      exact ⟨_, _, 0, rfl, ht, hm, hg, hs, hP, hn, hsu, hsc, hlk, hms, hto, hdr2, hsp, hrc, hgw, hz⟩
end
