/-! the other cases -/
theorem bk_dr {dr : Nat → Int32} (h : drk dr) (p : Nat) : dr p = 0 ↔ dr p ≤ 0 := by
  obtain ⟨c, hc, e⟩ := h p
  rw [e]
  constructor
  · intro e2
    rw [e2]
    decide
  · intro e2
    have : c ≤ 0 := (nI_leI (b := 0) (by omega) (by decide)).mp e2
    rw [show c = 0 by omega]
    rfl
/-- a number from 1 up to a bound -/
theorem li_in1 {x : Int32} {N : Nat} {M : Int32} (hN : N < 2 ^ 31) (hM : M = nI N) (h : ¬ f_X7_in x 1 M = 0) : ∃ k, 1 ≤ k ∧ k ≤ N ∧ x = nI k := by
  subst hM
  unfold f_X7_in at h
  by_cases c : x < 1
  · rw [if_pos c] at h
    exact absurd rfl h
  · by_cases c2 : nI N < x
    · rw [if_neg c, if_pos c2] at h
      exact absurd rfl h
    · have c0 : ¬ x < 0 := fun h9 => c (by
        rw [Int32.lt_iff_toInt_lt] at h9 ⊢
        have e1 : (0 : Int32).toInt = 0 := rfl
        have e2 : (1 : Int32).toInt = 1 := rfl
        omega)
      obtain ⟨j, hj, rfl⟩ := nI_of c0
      refine ⟨j, ?_, Nat.le_of_not_lt fun h9 => c2 (nI_lt h9 hj), rfl⟩
      refine Nat.le_of_not_lt fun h9 => c ?_
      exact nI_lt (b := 1) h9 (by decide)
section
variable {n : Nat} {P : Nat} {t : Nat} {m : Nat} {g : Nat} {s : Nat} {lk : Int32} {to : UInt64} {su : UInt64} {lv : UInt64} {si : UInt32} {sc : Int32} {fo : UInt64} {ow : Nat → Int32} {gr : Nat → Int32} {we : Nat → Int32} {du : Nat → Int32} {sa : Nat → Int32} {le : Nat → UInt64} {dl : Nat → UInt32} {pl : Nat → Int32} {dr : Nat → Int32} {sp : Nat → Int32} {dn : Nat → Int32} {rc : Nat → Nat → Int32} {fh lh ee rf pu mc : Int32} {oj : Nat → Int64} {ov : Nat → UInt64} {L : Nat} {xs : Nat → Int32} {i5 : Int32}

theorem q_b8 (h : gj n P t m g s lk to su lv si sc fo ow gr we du sa le dl pl dr sp dn rc)  : n_b8 (nI P) pl oj ∧ ∃ (P' : Nat) (pl' : Nat → Int32) (oj' : Nat → Int64) (th' : Int32), f_b8 (nI P) pl oj = (nI P', pl', oj', th', nI P', pl') ∧ gj n P' t m g s lk to su lv si sc fo ow gr we du sa le dl pl' dr sp dn rc := by
  obtain ⟨ht, hm, hg, hs, hP, hn, hsu, hsc, hlk, hms, hto, hdr, hsp, hrc, hgw, hz⟩ := h

  by_cases hk : P = 3
  · subst hk
    have h5 : f_X5_pair (nI 3) pl = .inr 1 := by unfold f_X5_pair; rw [if_neg (by decide)]
    have hL : f_L_pair (nI 3) pl oj = (1, nI 3, pl, oj) := by unfold f_L_pair; rw [h5]
    have h7 : f_X7_pair (nI 3) pl = (0, 1, nI 3, pl) := by unfold f_X7_pair; rw [if_pos (by decide)]; rfl
    have hnL : n_L_pair (nI 3) pl := ⟨fun c => absurd c (by decide), fun _ _ _ _ => q_01⟩
    have hn7 : n_X7_pair (nI 3) := fun c => absurd rfl c

    refine ⟨?_, ?_⟩
    · unfold n_b8
      rw [hL, h7]
      refine ⟨?_, ?_, ?_, ?_, ?_⟩
      · exact hnL
      · intro x1 x2 x3 x4 e5; cases e5; exact hn7
      · intro x1 x2 x3 x4 e5 x6 x7 x8 x9 e10 c11 c12; cases e5; cases e10; exact q_01
      · intro x1 x2 x3 x4 e5 x6 x7 x8 x9 e10 c11 c12 c13; cases e5; cases e10; exact absurd c12 (by decide)
      · intro x1 x2 x3 x4 e5 x6 x7 x8 x9 e10 c11; cases e5; cases e10; exact c11 rfl
    · unfold f_b8
      rw [hL, h7]
      dsimp only
      rw [if_pos (bk_th _), if_neg (by decide)]
      exact ⟨3, pl, oj, 1, rfl, ⟨ht, hm, hg, hs, hP, hn, hsu, hsc, hlk, hms, hto, hdr, hsp, hrc, hgw, hz⟩⟩

  · have hP3 : P < 3 := by omega
    have hc : (nI P).toNatClampNeg = P := nI_clamp (by omega)
    have ip := an_v3 P hP3
    have h1 : nI P + 1 = nI (P + 1) := nI_1 P
    have hlt : nI P < 3 := nI_lt (b := 3) hP3 (by decide)
    have hne : ¬ nI P = 3 := fun e => hk ((nI_eq (b := 3) (by omega) (by decide)).mp e)
    have hm1 : nI P + 1 - 1 = nI P := by rw [h1]; exact nI_pred P
    have h5 : f_X5_pair (nI P) pl = .inl (nI P, nI (P + 1), upd pl P (-1)) := by unfold f_X5_pair f_X2_lay; rw [if_pos hlt, hc, h1]
    have hL : f_L_pair (nI P) pl oj = (0, nI (P + 1), upd pl P (-1), vp_updL oj (0 : Int32).toNatClampNeg (nI P).toInt64) := by unfold f_L_pair; rw [h5]
    have h7 : f_X7_pair (nI P) pl = (nI P, 0, nI (P + 1), upd pl P (-1)) := by unfold f_X7_pair; rw [if_neg hne, hm1, hc, h1]
    have hnL : n_L_pair (nI P) pl := ⟨fun _ => ip, fun _ _ _ _ => q_01⟩
    have hn7 : n_X7_pair (nI P) := fun _ => ip
    have hcmp := bk_cmp oj (nI P).toInt64
    have hmi2 : mi n (P + 1) dl (upd pl P (-1)) le sa dn := by
      obtain ⟨q1, q2, q3, q4, q5⟩ := hms.2.2.2
      refine ⟨q1, q2, ?_, ?_, q5⟩
      · intro q hq9
        by_cases e : q = P
        · subst e; exact Or.inl pk_us
        · rw [pk_un e]
          exact q3 q (by omega)
      · intro q q' hq1 hq2 hne2 he
        by_cases e : q = P
        · subst e; exact pk_us
        · by_cases e2 : q' = P
          · subst e2
            rw [he]; exact pk_us
          · rw [pk_un e, pk_un e2] at he
            rw [pk_un e]
            exact q4 q q' (by omega) (by omega) hne2 he

    refine ⟨?_, ?_⟩
    · unfold n_b8
      rw [hL, h7]
      refine ⟨?_, ?_, ?_, ?_, ?_⟩
      · exact hnL
      · intro x1 x2 x3 x4 e5; cases e5; exact hn7
      · intro x1 x2 x3 x4 e5 x6 x7 x8 x9 e10 c11 c12; cases e5; cases e10; exact q_01
      · intro x1 x2 x3 x4 e5 x6 x7 x8 x9 e10 c11 c12 c13; cases e5; cases e10; exact c13 hcmp
      · intro x1 x2 x3 x4 e5 x6 x7 x8 x9 e10 c11; cases e5; cases e10; exact c11 rfl
    · unfold f_b8
      rw [hL, h7]
      dsimp only
      rw [if_pos (bk_th _), if_pos (show (0 : Int32) = 0 from rfl), if_pos hcmp]
      exact ⟨P + 1, _, _, 0, rfl, ht, hm, hg, hs, by omega, hn, hsu, hsc, hlk, ⟨hms.1, hms.2.1, hms.2.2.1, hmi2⟩, hto, hdr, fun q hq => hsp q (by omega), hrc, hgw, hz⟩

theorem q_b10 (h : gj n P t m g s lk to su lv si sc fo ow gr we du sa le dl pl dr sp dn rc) (hi1 : vp_in (i5 + 1) L) (hi2 : vp_in (i5 + 2) L) : n_b10 (nI n) sa (nI P) pl dr oj n rc L xs i5 ∧ ∃ (rc' : Nat → Nat → Int32) (sa' pl' : Nat → Int32) (oj' : Nat → Int64) (th' : Int32), f_b10 (nI n) sa (nI P) pl dr oj n rc xs i5 = (rc', sa', pl', oj', th', pl') ∧ gj n P t m g s lk to su lv si sc fo ow gr we du sa' le dl pl' dr sp dn rc' := by
  obtain ⟨ht, hm, hg, hs, hP, hn, hsu, hsc, hlk, hms, hto, hdr, hsp, hrc, hgw, hz⟩ := h
  generalize hx1 : xs (i5 + 1).toNatClampNeg = y1
  generalize hx2 : xs (i5 + 2).toNatClampNeg = y2

  by_cases hk : f_X2_has (nI P) y1 = 0
  · have hk7 : f_X7_isPair (nI P) y1 = 0 := (li_pair hP y1).trans hk
    have h5 : f_X5_feed (nI n) sa (nI P) pl dr y1 y2 = .inr 2 := if_pos hk
    have hL : f_L_feed (nI n) sa (nI P) pl dr oj y1 y2 = (1, sa, pl, oj) := by unfold f_L_feed; rw [h5]; rfl
    have h7 : f_X7_feed (nI P) pl dr y1 y2 n rc = (0, rc, 1, pl) := by unfold f_X7_feed; rw [if_pos hk7]; rfl
    have hnL : n_L_feed (nI n) sa (nI P) pl dr y1 y2 := ⟨⟨fun c => absurd hk c, fun c => absurd hk c, fun c => absurd hk c, fun c => absurd hk c⟩, fun _ _ _ _ => q_01⟩
    have hn7 : n_X7_feed (nI P) pl dr y1 y2 n rc := ⟨li_pairN _ _, fun c => absurd hk7 c, fun c => absurd hk7 c, fun c => absurd hk7 c, fun c => absurd hk7 c, fun c => absurd hk7 c, fun c => absurd hk7 c⟩

    refine ⟨?_, ?_⟩
    · unfold n_b10
      rw [hx1, hx2, hL, h7]
      refine ⟨?_, ?_, ?_, ?_, ?_, ?_, ?_⟩
      · exact hi1
      · exact hi2
      · exact hnL
      · intro x1 x2 x3 x4 e5; cases e5; exact hn7
      · intro x1 x2 x3 x4 e5 x6 x7 x8 x9 e10 c11 c12; cases e5; cases e10; exact q_01
      · intro x1 x2 x3 x4 e5 x6 x7 x8 x9 e10 c11 c12 c13; cases e5; cases e10; exact absurd c12 (by decide)
      · intro x1 x2 x3 x4 e5 x6 x7 x8 x9 e10 c11; cases e5; cases e10; exact c11 rfl
    · unfold f_b10
      rw [hx1, hx2, hL, h7]
      dsimp only
      rw [if_pos (bk_th _), if_neg (by decide)]
      exact ⟨rc, sa, pl, oj, 1, rfl, ⟨ht, hm, hg, hs, hP, hn, hsu, hsc, hlk, hms, hto, hdr, hsp, hrc, hgw, hz⟩⟩

  have hk7 : ¬ f_X7_isPair (nI P) y1 = 0 := by rw [li_pair hP]; exact hk
  by_cases hl : f_X0_has (nI n) y2 = 0
  · have hl7 : f_X7_isLot y2 n = 0 := (li_lot hn y2).trans hl
    have h5 : f_X5_feed (nI n) sa (nI P) pl dr y1 y2 = .inr 2 := by unfold f_X5_feed; rw [if_neg hk, if_pos hl]
    have hL : f_L_feed (nI n) sa (nI P) pl dr oj y1 y2 = (1, sa, pl, oj) := by unfold f_L_feed; rw [h5]; rfl
    have h7 : f_X7_feed (nI P) pl dr y1 y2 n rc = (0, rc, 1, pl) := by unfold f_X7_feed; rw [if_neg hk7, if_pos hl7]; rfl
    have hnL : n_L_feed (nI n) sa (nI P) pl dr y1 y2 := ⟨⟨fun _ c => absurd hl c, fun _ c => absurd hl c, fun _ c => absurd hl c, fun _ c => absurd hl c⟩, fun _ _ _ _ => q_01⟩
    have hn7 : n_X7_feed (nI P) pl dr y1 y2 n rc := ⟨li_pairN _ _, fun _ => li_lotN _ _, fun _ c => absurd hl7 c, fun _ c => absurd hl7 c, fun _ c => absurd hl7 c, fun _ c => absurd hl7 c, fun _ c => absurd hl7 c⟩

    refine ⟨?_, ?_⟩
    · unfold n_b10
      rw [hx1, hx2, hL, h7]
      refine ⟨?_, ?_, ?_, ?_, ?_, ?_, ?_⟩
      · exact hi1
      · exact hi2
      · exact hnL
      · intro x1 x2 x3 x4 e5; cases e5; exact hn7
      · intro x1 x2 x3 x4 e5 x6 x7 x8 x9 e10 c11 c12; cases e5; cases e10; exact q_01
      · intro x1 x2 x3 x4 e5 x6 x7 x8 x9 e10 c11 c12 c13; cases e5; cases e10; exact absurd c12 (by decide)
      · intro x1 x2 x3 x4 e5 x6 x7 x8 x9 e10 c11; cases e5; cases e10; exact c11 rfl
    · unfold f_b10
      rw [hx1, hx2, hL, h7]
      dsimp only
      rw [if_pos (bk_th _), if_neg (by decide)]
      exact ⟨rc, sa, pl, oj, 1, rfl, ⟨ht, hm, hg, hs, hP, hn, hsu, hsc, hlk, hms, hto, hdr, hsp, hrc, hgw, hz⟩⟩

  have hl7 : ¬ f_X7_isLot y2 n = 0 := by rw [li_lot hn]; exact hl
  obtain ⟨p, hp, rfl⟩ := li_has2 hP hk
  obtain ⟨j, hj, rfl⟩ := li_has0 hn hl
  have hc : (nI p).toNatClampNeg = p := nI_clamp (by omega)
  have hcj : (nI j).toNatClampNeg = j := nI_clamp (by omega)
  have ip := an_v3 p (by omega)
  have ij : vp_in (nI j) 10 := vp_in_nI (by omega) (by decide)
  have ijn : vp_in (nI j) n := vp_in_nI hj (by omega)
  have i4 : vp_in 4 5 := li_in5 4 (by decide)
  have hr4 := (hrc j hj).2.2.2.2
  have hmi := hms.2.2.2
  have hfree : (f_X2_isFree pl dr (nI p) = 0 ↔ ¬ (pl p = -1 ∧ dr p = 0)) := by
    unfold f_X2_isFree
    rw [hc]
    by_cases c1 : pl p = -1
    · rw [if_pos c1]
      by_cases c2 : dr p = 0
      · rw [if_pos c2]
        exact ⟨fun e => absurd e (by decide), fun e => absurd ⟨c1, c2⟩ e⟩
      · rw [if_neg c2]
        exact ⟨fun _ e => c2 e.2, fun _ => rfl⟩
    · rw [if_neg c1]
      exact ⟨fun _ e => c1 e.1, fun _ => rfl⟩
  have hdr0 : dr p = 0 ↔ dr p ≤ 0 := bk_dr hdr p
  rcases (Classical.em (sa j = 0 ∧ pl p = -1 ∧ dr p = 0)).symm with hw | hw
  · have h5 : f_X5_feed (nI n) sa (nI P) pl dr (nI p) (nI j) = .inr 1 := by
      unfold f_X5_feed
      rw [if_neg hk, if_neg hl, hcj]
      by_cases c1 : sa j = 0
      · rw [if_pos c1, if_pos (hfree.mpr fun e => hw ⟨c1, e⟩)]
      · rw [if_neg c1]
    have hL : f_L_feed (nI n) sa (nI P) pl dr oj (nI p) (nI j) = (2, sa, pl, oj) := by unfold f_L_feed; rw [h5]; rfl
    have h7 : f_X7_feed (nI P) pl dr (nI p) (nI j) n rc = (0, rc, 2, pl) := by
      unfold f_X7_feed
      rw [if_neg hk7, if_neg hl7, hcj, hc, li_c4, hr4]
      by_cases c1 : sa j = 0
      · rw [if_pos c1]
        by_cases c2 : pl p = -1
        · rw [if_pos c2, if_neg (fun e => hw ⟨c1, c2, hdr0.mpr e⟩)]
          rfl
        · rw [if_neg c2]
          rfl
      · rw [if_neg c1]
        rfl
    have hnL : n_L_feed (nI n) sa (nI P) pl dr (nI p) (nI j) := by
      refine ⟨⟨fun _ _ => ij, fun _ _ _ => ip, fun _ _ _ _ => ip, fun _ _ c1 c2 => ?_⟩, fun _ _ _ _ => q_01⟩
      rw [hcj] at c1
      exact absurd (hfree.mpr fun e => hw ⟨c1, e⟩) c2
    have hn7 : n_X7_feed (nI P) pl dr (nI p) (nI j) n rc := by
      unfold n_X7_feed
      rw [hcj, hc, li_c4, hr4]
      exact ⟨li_pairN _ _, fun _ => li_lotN _ _, fun _ _ => ge_get hj hn, fun _ _ => ijn, fun _ _ => i4, fun _ _ _ => ip, fun _ _ c1 c2 c3 => absurd ⟨c1, c2, hdr0.mpr c3⟩ hw⟩

    refine ⟨?_, ?_⟩
    · unfold n_b10
      rw [hx1, hx2, hL, h7]
      refine ⟨?_, ?_, ?_, ?_, ?_, ?_, ?_⟩
      · exact hi1
      · exact hi2
      · exact hnL
      · intro x1 x2 x3 x4 e5; cases e5; exact hn7
      · intro x1 x2 x3 x4 e5 x6 x7 x8 x9 e10 c11 c12; cases e5; cases e10; exact q_01
      · intro x1 x2 x3 x4 e5 x6 x7 x8 x9 e10 c11 c12 c13; cases e5; cases e10; exact absurd c12 (by decide)
      · intro x1 x2 x3 x4 e5 x6 x7 x8 x9 e10 c11; cases e5; cases e10; exact c11 rfl
    · unfold f_b10
      rw [hx1, hx2, hL, h7]
      dsimp only
      rw [if_pos (bk_th _), if_neg (by decide)]
      exact ⟨rc, sa, pl, oj, 2, rfl, ⟨ht, hm, hg, hs, hP, hn, hsu, hsc, hlk, hms, hto, hdr, hsp, hrc, hgw, hz⟩⟩

  · obtain ⟨w1, w2, w3⟩ := hw
    have hrc2 := bk_rc4 (j := j) (v := 1) hrc
    obtain ⟨k1, k2, k3⟩ := li_countE hn (fun k hk => (hrc2 k hk).2.2.2.2) 0
    have hnf : ¬ f_X2_isFree pl dr (nI p) = 0 := fun e => hfree.mp e ⟨w2, w3⟩
    have h5 : f_X5_feed (nI n) sa (nI P) pl dr (nI p) (nI j) = .inl (f_X0_countOf (nI n) (upd sa j 1) 0, upd sa j 1, upd pl p (nI j)) := by
      unfold f_X5_feed
      rw [if_neg hk, if_neg hl, hcj, if_pos w1, if_neg hnf, hc]
    have hL : f_L_feed (nI n) sa (nI P) pl dr oj (nI p) (nI j) = (0, upd sa j 1, upd pl p (nI j), vp_updL oj (0 : Int32).toNatClampNeg (f_X0_countOf (nI n) (upd sa j 1) 0).toInt64) := by unfold f_L_feed; rw [h5]
    have h7 : f_X7_feed (nI P) pl dr (nI p) (nI j) n rc = (f_X0_countOf (nI n) (upd sa j 1) 0, vf_upd rc j (upd (rc j) 4 1), 0, upd pl p (nI j)) := by
      unfold f_X7_feed
      rw [if_neg hk7, if_neg hl7, hcj, hc, li_c4, hr4, if_pos w1, if_pos w2, if_pos (hdr0.mp w3), k1]
    have hnL : n_L_feed (nI n) sa (nI P) pl dr (nI p) (nI j) := by
      refine ⟨⟨fun _ _ => ij, fun _ _ _ => ip, fun _ _ _ _ => ip, fun _ _ _ _ => ?_⟩, fun _ _ _ _ => q_01⟩
      rw [hcj]
      exact k2
    have hn7 : n_X7_feed (nI P) pl dr (nI p) (nI j) n rc := by
      unfold n_X7_feed
      rw [hcj, hc, li_c4]
      exact ⟨li_pairN _ _, fun _ => li_lotN _ _, fun _ _ => ge_get hj hn, fun _ _ => ijn, fun _ _ => i4, fun _ _ _ => ip, fun _ _ _ _ _ => k3⟩
    have hcmp := bk_cmp oj (f_X0_countOf (nI n) (upd sa j 1) 0).toInt64
    have hmi2 : mi n P dl (upd pl p (nI j)) le (upd sa j 1) dn := by
      obtain ⟨q1, q2, q3, q4, q5⟩ := hmi
      have hno : ∀ q, q < P → pl q ≠ nI j := fun q hq e => by
        rcases q3 q hq with e2 | ⟨j', g1, g2, g3⟩
        · exact wk_neg j (by omega) (e.symm.trans e2)
        · have : j = j' := (nI_eq (by omega) (by omega)).mp (e.symm.trans g2)
          subst this
          rw [w1] at g3
          exact absurd g3 (by decide)
      refine ⟨q1, q2, ?_, ?_, ?_⟩
      · intro q hq9
        by_cases e : q = p
        · subst e
          exact Or.inr ⟨j, hj, pk_us, pk_us⟩
        · rw [pk_un e]
          rcases q3 q hq9 with h6 | ⟨j', g1, g2, g3⟩
          · exact Or.inl h6
          · refine Or.inr ⟨j', g1, g2, ?_⟩
            by_cases e2 : j' = j
            · subst e2; exact pk_us
            · rw [pk_un e2]; exact g3
      · intro q q' hq1 hq2 hne2 he
        by_cases e : q = p
        · subst e
          rw [pk_us, pk_un (fun e3 => hne2 e3.symm)] at he
          exact absurd he.symm (hno q' hq2)
        · by_cases e2 : q' = p
          · subst e2
            rw [pk_us, pk_un e] at he
            exact absurd he (hno q hq1)
          · rw [pk_un e, pk_un e2] at he
            rw [pk_un e]
            exact q4 q q' hq1 hq2 hne2 he
      · intro k
        by_cases e : k = j
        · subst e
          rw [pk_us]
          rcases q5 k with ⟨_, e⟩ | ⟨e, _⟩
          · exact Or.inl ⟨Or.inr rfl, e⟩
          · rw [w1] at e
            exact absurd e (by decide)
        · rw [pk_un e]
          exact q5 k

    refine ⟨?_, ?_⟩
    · unfold n_b10
      rw [hx1, hx2, hL, h7]
      refine ⟨?_, ?_, ?_, ?_, ?_, ?_, ?_⟩
      · exact hi1
      · exact hi2
      · exact hnL
      · intro x1 x2 x3 x4 e5; cases e5; exact hn7
      · intro x1 x2 x3 x4 e5 x6 x7 x8 x9 e10 c11 c12; cases e5; cases e10; exact q_01
      · intro x1 x2 x3 x4 e5 x6 x7 x8 x9 e10 c11 c12 c13; cases e5; cases e10; exact c13 hcmp
      · intro x1 x2 x3 x4 e5 x6 x7 x8 x9 e10 c11; cases e5; cases e10; exact c11 rfl
    · unfold f_b10
      rw [hx1, hx2, hL, h7]
      dsimp only
      rw [if_pos (bk_th _), if_pos (show (0 : Int32) = 0 from rfl), if_pos hcmp]
      refine ⟨_, _, _, _, 0, rfl, ht, hm, hg, hs, hP, hn, hsu, hsc, hlk, ⟨hms.1, hms.2.1, hms.2.2.1, hmi2⟩, hto, hdr, hsp, hrc2, hgw, ?_⟩
      intro k hk9
      rw [pk_un (by omega)]
      exact hz k hk9

theorem q_b13 (h : gj n P t m g s lk to su lv si sc fo ow gr we du sa le dl pl dr sp dn rc) (hi1 : vp_in (i5 + 1) L) : n_b13 pu to (nI t) (nI n) gr we du sa oj n rc L xs i5 ∧ ∃ (rc' : Nat → Nat → Int32) (pu' : Int32) (to' : UInt64) (sa' : Nat → Int32) (oj' : Nat → Int64) (th' : Int32), f_b13 pu to (nI t) (nI n) gr we du sa oj n rc xs i5 = (rc', pu', to', sa', oj', th', pu', to') ∧ gj n P t m g s lk to' su lv si sc fo ow gr we du sa' le dl pl dr sp dn rc' := by
  obtain ⟨ht, hm, hg, hs, hP, hn, hsu, hsc, hlk, hms, hto, hdr, hsp, hrc, hgw, hz⟩ := h
  generalize hx1 : xs (i5 + 1).toNatClampNeg = y1

  by_cases hk : f_X0_has (nI n) y1 = 0
  · have hk7 : f_X7_isLot y1 n = 0 := (li_lot hn y1).trans hk
    have h5 : f_X5_give pu to (nI t) (nI n) gr we du sa y1 = .inr 2 := if_pos hk
    have hL : f_L_give pu to (nI t) (nI n) gr we du sa oj y1 = (1, pu, to, sa, oj) := by unfold f_L_give; rw [h5]; rfl
    have h7 : f_X7_give pu to (nI t) y1 n rc = (0, rc, 1, pu, to) := by unfold f_X7_give; rw [if_pos hk7]; rfl
    have hnL : n_L_give pu to (nI t) (nI n) gr we du sa y1 := ⟨⟨fun c => absurd hk c, fun c => absurd hk c, fun c => absurd hk c⟩, fun _ _ _ _ _ => q_01⟩
    have hn7 : n_X7_give to y1 n rc := ⟨li_lotN _ _, fun c => absurd hk7 c, fun c => absurd hk7 c, fun c => absurd hk7 c, fun c => absurd hk7 c, fun c => absurd hk7 c, fun c => absurd hk7 c, fun c => absurd hk7 c, fun c => absurd hk7 c⟩

    refine ⟨?_, ?_⟩
    · unfold n_b13
      rw [hx1, hL, h7]
      refine ⟨?_, ?_, ?_, ?_, ?_, ?_⟩
      · exact hi1
      · exact hnL
      · intro x1 x2 x3 x4 x5 e6; cases e6; exact hn7
      · intro x1 x2 x3 x4 x5 e6 x7 x8 x9 x10 x11 e12 c13 c14; cases e6; cases e12; exact q_01
      · intro x1 x2 x3 x4 x5 e6 x7 x8 x9 x10 x11 e12 c13 c14 c15; cases e6; cases e12; exact absurd c14 (by decide)
      · intro x1 x2 x3 x4 x5 e6 x7 x8 x9 x10 x11 e12 c13; cases e6; cases e12; exact c13 rfl
    · unfold f_b13
      rw [hx1, hL, h7]
      dsimp only
      rw [if_pos (bk_th _), if_neg (by decide)]
      exact ⟨rc, pu, to, sa, oj, 1, rfl, ⟨ht, hm, hg, hs, hP, hn, hsu, hsc, hlk, hms, hto, hdr, hsp, hrc, hgw, hz⟩⟩

  have hk7 : ¬ f_X7_isLot y1 n = 0 := by rw [li_lot hn]; exact hk
  obtain ⟨j, hj, rfl⟩ := li_has0 hn hk
  have hcj : (nI j).toNatClampNeg = j := nI_clamp (by omega)
  have ij : vp_in (nI j) 10 := vp_in_nI (by omega) (by decide)
  have ijn : vp_in (nI j) n := vp_in_nI hj (by omega)
  have i4 : vp_in 4 5 := li_in5 4 (by decide)
  have i1 : vp_in 1 5 := li_in5 1 (by decide)
  have i2 : vp_in 2 5 := li_in5 2 (by decide)
  have i3 : vp_in 3 5 := li_in5 3 (by decide)
  have c1 : (1 : Int32).toNatClampNeg = 1 := rfl
  have c3 : (3 : Int32).toNatClampNeg = 3 := rfl
  obtain ⟨r0, r1, r2, r3, r4⟩ := hrc j hj
  obtain ⟨hgr, w, hw60, hwe⟩ := hgw j hj
  have hv : vr (FP.ddiv (FP.i2d (we j)) 4625196817309499392) 0 30 := by
    rw [hwe]
    exact (vr.int hw60 (by decide)).div (vr.c (l := 128) (u := 128) (by decide +kernel)) 30 (by decide) (by decide) (by decide) (by decide) (by decide)
  have hto2 : dok (FP.dadd to (FP.ddiv (FP.i2d (we j)) 4625196817309499392)) := (FP.Core.notNaN_iff _).mp (FP.Core.dadd_out ((FP.Core.notNaN_iff _).mpr hto) hv.1)
  rcases (Classical.em (sa j = 2)).symm with hw | hw
  · have h5 : f_X5_give pu to (nI t) (nI n) gr we du sa (nI j) = .inr 1 := by unfold f_X5_give; rw [if_neg hk, hcj, if_neg hw]
    have hL : f_L_give pu to (nI t) (nI n) gr we du sa oj (nI j) = (2, pu, to, sa, oj) := by unfold f_L_give; rw [h5]; rfl
    have h7 : f_X7_give pu to (nI t) (nI j) n rc = (0, rc, 2, pu, to) := by unfold f_X7_give; rw [if_neg hk7, hcj, li_c4, r4, if_neg hw]; rfl
    have hnL : n_L_give pu to (nI t) (nI n) gr we du sa (nI j) := by
      refine ⟨⟨fun _ => ij, fun _ c => ?_, fun _ c => ?_⟩, fun _ _ _ _ _ => q_01⟩
      · rw [hcj] at c
        exact absurd c hw
      · rw [hcj] at c
        exact absurd c hw
    have hn7 : n_X7_give to (nI j) n rc := by
      unfold n_X7_give
      rw [hcj, li_c4, r4]
      exact ⟨li_lotN _ _, fun _ => ge_get hj hn, fun _ => ijn, fun _ => i4, fun _ c => absurd c hw, fun _ c => absurd c hw, fun _ c => absurd c hw, fun _ c => absurd c hw, fun _ c => absurd c hw⟩

    refine ⟨?_, ?_⟩
    · unfold n_b13
      rw [hx1, hL, h7]
      refine ⟨?_, ?_, ?_, ?_, ?_, ?_⟩
      · exact hi1
      · exact hnL
      · intro x1 x2 x3 x4 x5 e6; cases e6; exact hn7
      · intro x1 x2 x3 x4 x5 e6 x7 x8 x9 x10 x11 e12 c13 c14; cases e6; cases e12; exact q_01
      · intro x1 x2 x3 x4 x5 e6 x7 x8 x9 x10 x11 e12 c13 c14 c15; cases e6; cases e12; exact absurd c14 (by decide)
      · intro x1 x2 x3 x4 x5 e6 x7 x8 x9 x10 x11 e12 c13; cases e6; cases e12; exact c13 rfl
    · unfold f_b13
      rw [hx1, hL, h7]
      dsimp only
      rw [if_pos (bk_th _), if_neg (by decide)]
      exact ⟨rc, pu, to, sa, oj, 2, rfl, ⟨ht, hm, hg, hs, hP, hn, hsu, hsc, hlk, hms, hto, hdr, hsp, hrc, hgw, hz⟩⟩

  · have hu : vf_upd rc j (upd (rc j) 4 3) j = upd (rc j) 4 3 := if_pos rfl
    have hp : 3 - gr j = f_X5_priceOf (gr j) := by
      rcases hgr with e | e | e <;> rw [e] <;> rfl
    have h5 : f_X5_give pu to (nI t) (nI n) gr we du sa (nI j) = .inl ((((we j) * (f_X5_priceOf (gr j))) / 4) - (if 0 < ((f_X4_today (nI t)) - (du j)) then ((f_X4_today (nI t)) - (du j)) else 0), pu + ((((we j) * (f_X5_priceOf (gr j))) / 4) - (if 0 < ((f_X4_today (nI t)) - (du j)) then ((f_X4_today (nI t)) - (du j)) else 0)), FP.dadd to (FP.ddiv (FP.i2d (we j)) 4625196817309499392), upd sa j 3) := by
      unfold f_X5_give
      rw [if_neg hk, hcj, if_pos hw]
    have h7 : f_X7_give pu to (nI t) (nI j) n rc = ((((we j) * (f_X5_priceOf (gr j))) / 4) - (if 0 < ((f_X4_today (nI t)) - (du j)) then ((f_X4_today (nI t)) - (du j)) else 0), vf_upd rc j (upd (rc j) 4 3), 0, pu + ((((we j) * (f_X5_priceOf (gr j))) / 4) - (if 0 < ((f_X4_today (nI t)) - (du j)) then ((f_X4_today (nI t)) - (du j)) else 0)), FP.dadd to (FP.ddiv (FP.i2d (we j)) 4625196817309499392)) := by
      unfold f_X7_give f_X4_today
      rw [if_neg hk7, hcj, li_c4, r4, if_pos hw, hu, c1, li_c2, c3, pk_un (by decide), pk_un (by decide), pk_un (by decide), r1, r2, r3, hp]
    generalize (((we j) * (f_X5_priceOf (gr j))) / 4) - (if 0 < ((f_X4_today (nI t)) - (du j)) then ((f_X4_today (nI t)) - (du j)) else 0) = gain at h5 h7
    have hL : f_L_give pu to (nI t) (nI n) gr we du sa oj (nI j) = (0, pu + gain, FP.dadd to (FP.ddiv (FP.i2d (we j)) 4625196817309499392), upd sa j 3, vp_updL oj (0 : Int32).toNatClampNeg gain.toInt64) := by unfold f_L_give; rw [h5]
    have hnL : n_L_give pu to (nI t) (nI n) gr we du sa (nI j) := by
      refine ⟨⟨fun _ => ij, fun _ _ => ?_, fun _ _ => ?_⟩, fun _ _ _ _ _ => q_01⟩
      · rw [hcj]
        exact hv.n
      · rw [hcj]
        exact fl_vf hto2
    have hn7 : n_X7_give to (nI j) n rc := by
      unfold n_X7_give
      rw [hcj, li_c4, r4, hu, li_c2, pk_un (by decide), r2]
      exact ⟨li_lotN _ _, fun _ => ge_get hj hn, fun _ => ijn, fun _ => i4, fun _ _ => i2, fun _ _ => hv.n, fun _ _ => fl_vf hto2, fun _ _ => i1, fun _ _ => i3⟩
    have hcmp := bk_cmp oj gain.toInt64
    have hmi2 : mi n P dl pl le (upd sa j 3) dn := by
      obtain ⟨q1, q2, q3, q4, q5⟩ := hms.2.2.2
      refine ⟨q1, q2, ?_, q4, ?_⟩
      · intro q hq9
        rcases q3 q hq9 with h6 | ⟨j', g1, g2, g3⟩
        · exact Or.inl h6
        · refine Or.inr ⟨j', g1, g2, ?_⟩
          by_cases e2 : j' = j
          · subst e2
            rw [hw] at g3
            exact absurd g3 (by decide)
          · rw [pk_un e2]; exact g3
      · intro k
        by_cases e : k = j
        · subst e
          rw [pk_us]
          rcases q5 k with ⟨e, _⟩ | ⟨_, e⟩
          · rw [hw] at e
            exact absurd e (by decide)
          · exact Or.inr ⟨Or.inr rfl, e⟩
        · rw [pk_un e]
          exact q5 k

    refine ⟨?_, ?_⟩
    · unfold n_b13
      rw [hx1, hL, h7]
      refine ⟨?_, ?_, ?_, ?_, ?_, ?_⟩
      · exact hi1
      · exact hnL
      · intro x1 x2 x3 x4 x5 e6; cases e6; exact hn7
      · intro x1 x2 x3 x4 x5 e6 x7 x8 x9 x10 x11 e12 c13 c14; cases e6; cases e12; exact q_01
      · intro x1 x2 x3 x4 x5 e6 x7 x8 x9 x10 x11 e12 c13 c14 c15; cases e6; cases e12; exact c15 hcmp
      · intro x1 x2 x3 x4 x5 e6 x7 x8 x9 x10 x11 e12 c13; cases e6; cases e12; exact c13 rfl
    · unfold f_b13
      rw [hx1, hL, h7]
      dsimp only
      rw [if_pos (bk_th _), if_pos (show (0 : Int32) = 0 from rfl), if_pos hcmp]
      refine ⟨_, _, _, _, _, 0, rfl, ht, hm, hg, hs, hP, hn, hsu, hsc, hlk, ⟨hms.1, hms.2.1, hms.2.2.1, hmi2⟩, hto2, hdr, hsp, bk_rc4 hrc, hgw, ?_⟩
      intro k hk9
      rw [pk_un (by omega)]
      exact hz k hk9

theorem q_b14 (h : gj n P t m g s lk to su lv si sc fo ow gr we du sa le dl pl dr sp dn rc) (hi1 : vp_in (i5 + 1) L) : n_b14 fh lh ee (nI t) (nI m) su lv si (nI g) (nI s) sc fo (nI n) gr sa le (nI P) dl pl dr sp oj dn n rc L xs i5 ∧ ∃ (rc' : Nat → Nat → Int32) (ee' : Int32) (t' : Nat) (lv' : UInt64) (si' : UInt32) (fo' : UInt64) (sa' : Nat → Int32) (le' : Nat → UInt64) (dl' : Nat → UInt32) (pl' dr' sp' : Nat → Int32) (oj' : Nat → Int64) (th' : Int32) (dn' : Nat → Int32), f_b14 fh lh ee (nI t) (nI m) su lv si (nI g) (nI s) sc fo (nI n) gr sa le (nI P) dl pl dr sp oj dn n rc xs i5 = (rc', ee', nI t', lv', si', fo', sa', le', dl', pl', dr', sp', oj', th', nI t', lv', si', fo', ee', dl', pl', dr', sp', le', dn') ∧ gj n P t' m g s lk to su lv' si' sc fo' ow gr we du sa' le' dl' pl' dr' sp' dn' rc' := by
  obtain ⟨ht, hm, hg, hs, hP, hn, hsu, hsc, hlk, hms, hto, hdr, hsp, hrc, hgw, hz⟩ := h
  generalize hx1 : xs (i5 + 1).toNatClampNeg = y1

  by_cases hk : f_X7_in y1 1 100 = 0
  · have h5 : f_X5_pass fh lh ee (nI t) (nI m) su lv si (nI g) (nI s) sc fo (nI n) gr sa le (nI P) dl pl dr sp y1 = .inr 0 := if_pos hk
    have hL : f_L_pass fh lh ee (nI t) (nI m) su lv si (nI g) (nI s) sc fo (nI n) gr sa le (nI P) dl pl dr sp oj y1 = (1, ee, nI t, lv, si, fo, sa, le, dl, pl, dr, sp, oj) := by unfold f_L_pass; rw [h5]; rfl
    have h7 : f_X7_pass (nI t) (nI m) su lv si (nI g) (nI s) sc fh lh fo ee (nI P) dl pl dr sp le dn y1 n rc = (0, rc, 1, nI t, lv, si, fo, ee, dl, pl, dr, sp, le, dn) := by unfold f_X7_pass; rw [if_pos hk]; rfl
    have hnL : n_L_pass fh lh ee (nI t) (nI m) su lv si (nI g) (nI s) sc fo (nI n) gr sa le (nI P) dl pl dr sp y1 := by
      refine ⟨⟨fun c => absurd hk c, fun c => absurd hk c⟩, ?_⟩
      intros
      exact q_01
    have hn7 : n_X7_pass (nI t) (nI m) su lv si (nI g) (nI s) sc fh lh fo ee (nI P) dl pl dr sp le dn y1 n rc := ⟨fun c => absurd hk c, fun c => absurd hk c, fun c => absurd hk c⟩

    refine ⟨?_, ?_⟩
    · unfold n_b14
      rw [hx1, hL, h7]
      refine ⟨?_, ?_, ?_, ?_, ?_, ?_⟩
      · exact hi1
      · exact hnL
      · intro x1 x2 x3 x4 x5 x6 x7 x8 x9 x10 x11 x12 x13 e14; cases e14; exact hn7
      · intro x1 x2 x3 x4 x5 x6 x7 x8 x9 x10 x11 x12 x13 e14 x15 x16 x17 x18 x19 x20 x21 x22 x23 x24 x25 x26 x27 x28 e29 c30 c31; cases e14; cases e29; exact q_01
      · intro x1 x2 x3 x4 x5 x6 x7 x8 x9 x10 x11 x12 x13 e14 x15 x16 x17 x18 x19 x20 x21 x22 x23 x24 x25 x26 x27 x28 e29 c30 c31 c32; cases e14; cases e29; exact absurd c31 (by decide)
      · intro x1 x2 x3 x4 x5 x6 x7 x8 x9 x10 x11 x12 x13 e14 x15 x16 x17 x18 x19 x20 x21 x22 x23 x24 x25 x26 x27 x28 e29 c30; cases e14; cases e29; exact c30 rfl
    · unfold f_b14
      rw [hx1, hL, h7]
      dsimp only
      rw [if_pos (bk_th _), if_neg (by decide)]
      exact ⟨rc, ee, t, lv, si, fo, sa, le, dl, pl, dr, sp, oj, 1, dn, rfl, ⟨ht, hm, hg, hs, hP, hn, hsu, hsc, hlk, hms, hto, hdr, hsp, hrc, hgw, hz⟩⟩

  obtain ⟨T, hT1, hT, rfl⟩ := li_in1 (N := 100) (by decide) rfl hk
  have hadd : nI t + nI T = nI (t + T) := nI_add t T
  have hle5 : nI (t + T) ≤ 5000 ↔ t + T ≤ 5000 := nI_leI (b := 5000) (by omega) (by decide)
  rcases (Classical.em (t + T ≤ 5000)).symm with hw | hw
  · have hw' : ¬ nI t + nI T ≤ 5000 := by rw [hadd, hle5]; exact hw
    have h5 : f_X5_pass fh lh ee (nI t) (nI m) su lv si (nI g) (nI s) sc fo (nI n) gr sa le (nI P) dl pl dr sp (nI T) = .inr 1 := by unfold f_X5_pass; rw [li_isW, if_neg hk, if_neg hw']
    have hL : f_L_pass fh lh ee (nI t) (nI m) su lv si (nI g) (nI s) sc fo (nI n) gr sa le (nI P) dl pl dr sp oj (nI T) = (2, ee, nI t, lv, si, fo, sa, le, dl, pl, dr, sp, oj) := by unfold f_L_pass; rw [h5]; rfl
    have h7 : f_X7_pass (nI t) (nI m) su lv si (nI g) (nI s) sc fh lh fo ee (nI P) dl pl dr sp le dn (nI T) n rc = (0, rc, 2, nI t, lv, si, fo, ee, dl, pl, dr, sp, le, dn) := by unfold f_X7_pass; rw [if_neg hk, if_neg hw']; rfl
    have hnL : n_L_pass fh lh ee (nI t) (nI m) su lv si (nI g) (nI s) sc fo (nI n) gr sa le (nI P) dl pl dr sp (nI T) := by
      refine ⟨⟨fun _ c => absurd c hw', fun _ c => absurd c hw'⟩, ?_⟩
      intros
      exact q_01
    have hn7 : n_X7_pass (nI t) (nI m) su lv si (nI g) (nI s) sc fh lh fo ee (nI P) dl pl dr sp le dn (nI T) n rc := ⟨fun _ c => absurd c hw', fun _ c => absurd c hw', fun _ c => absurd c hw'⟩

    refine ⟨?_, ?_⟩
    · unfold n_b14
      rw [hx1, hL, h7]
      refine ⟨?_, ?_, ?_, ?_, ?_, ?_⟩
      · exact hi1
      · exact hnL
      · intro x1 x2 x3 x4 x5 x6 x7 x8 x9 x10 x11 x12 x13 e14; cases e14; exact hn7
      · intro x1 x2 x3 x4 x5 x6 x7 x8 x9 x10 x11 x12 x13 e14 x15 x16 x17 x18 x19 x20 x21 x22 x23 x24 x25 x26 x27 x28 e29 c30 c31; cases e14; cases e29; exact q_01
      · intro x1 x2 x3 x4 x5 x6 x7 x8 x9 x10 x11 x12 x13 e14 x15 x16 x17 x18 x19 x20 x21 x22 x23 x24 x25 x26 x27 x28 e29 c30 c31 c32; cases e14; cases e29; exact absurd c31 (by decide)
      · intro x1 x2 x3 x4 x5 x6 x7 x8 x9 x10 x11 x12 x13 e14 x15 x16 x17 x18 x19 x20 x21 x22 x23 x24 x25 x26 x27 x28 e29 c30; cases e14; cases e29; exact c30 rfl
    · unfold f_b14
      rw [hx1, hL, h7]
      dsimp only
      rw [if_pos (bk_th _), if_neg (by decide)]
      exact ⟨rc, ee, t, lv, si, fo, sa, le, dl, pl, dr, sp, oj, 2, dn, rfl, ⟨ht, hm, hg, hs, hP, hn, hsu, hsc, hlk, hms, hto, hdr, hsp, hrc, hgw, hz⟩⟩

  · have hw' : nI t + nI T ≤ 5000 := by rw [hadd, hle5]; exact hw
    have h1g : ∀ k, k < n → rc k 1 = gr k := fun k hk => (hrc k hk).2.1
    obtain ⟨ee1, ee21, lv1, fo1, fo21, si1, dl1, pl1, dr1, sp1, sp21, sa1, dn1, le1, a1, a2, a3, a4, a5, a6, a7, a8, a9⟩ := mt_pass_44 (fh := fh) (lh := lh) (sc := sc) (T := T) (gr := gr) (rc := rc) hm hsu hg hs hn hP (by omega) h1g T 0 t 102 102 ee ee lv fo fo si dl pl dr sp sp sa dn le (by omega) (by omega) (by omega) (by omega) hms
    have z0 : nI 0 = 0 := nI_0
    rw [z0] at a1 a2 a3 a4
    have e1 := a7 rfl
    have e2 := a8.1 rfl
    have e3 := a9 rfl
    subst e1 e2 e3
    obtain ⟨s1, s2, s3⟩ := li_settleE (dn := dn1) (rc := rc) hn
    have hset : ∀ k, k < n → f_X7_settle dn1 n rc k 4 = sa1 k := fun k hk9 => by
      rw [s1 k hk9, (hrc k hk9).2.2.2.2]
      rcases a6 k with q | ⟨q1, q2⟩
      · rcases a5.2.2.2.2.2.2.2 k with ⟨p1, p2⟩ | ⟨p1, p2⟩
        · rw [if_neg (fun h9 => h9.1 p2), q]
        · rw [if_neg (fun h9 => by
            rw [q, h9.2] at p1
            exact absurd p1 (by decide)), q]
      · rcases a5.2.2.2.2.2.2.2 k with ⟨p1, p2⟩ | ⟨p1, p2⟩
        · rw [q2] at p1
          exact absurd p1 (by decide)
        · rw [if_pos ⟨by rw [p2]; decide, q1⟩, q2]
    obtain ⟨k1, k2, k3⟩ := li_countE hn hset 2
    have h5 : f_X5_pass fh lh ee (nI t) (nI m) su lv si (nI g) (nI s) sc fo (nI n) gr sa le (nI P) dl pl dr sp (nI T) = .inl (f_X0_countOf (nI n) sa1 2, ee1, nI (t + T), lv1, si1, fo1, sa1, le1, dl1, pl1, dr1, sp1) := by
      unfold f_X5_pass f_X1_letGoBy
      rw [li_isW, if_neg hk, if_pos hw', a1]
    have hL : f_L_pass fh lh ee (nI t) (nI m) su lv si (nI g) (nI s) sc fo (nI n) gr sa le (nI P) dl pl dr sp oj (nI T) = (0, ee1, nI (t + T), lv1, si1, fo1, sa1, le1, dl1, pl1, dr1, sp1, vp_updL oj (0 : Int32).toNatClampNeg (f_X0_countOf (nI n) sa1 2).toInt64) := by unfold f_L_pass; rw [h5]
    have h7 : f_X7_pass (nI t) (nI m) su lv si (nI g) (nI s) sc fh lh fo ee (nI P) dl pl dr sp le dn (nI T) n rc = (f_X0_countOf (nI n) sa1 2, f_X7_settle dn1 n rc, 0, nI (t + T), lv1, si1, fo1, ee1, dl1, pl1, dr1, sp1, le1, dn1) := by
      unfold f_X7_pass
      rw [if_neg hk, if_pos hw', a2, k1]
    have hnL : n_L_pass fh lh ee (nI t) (nI m) su lv si (nI g) (nI s) sc fo (nI n) gr sa le (nI P) dl pl dr sp (nI T) := by
      refine ⟨⟨fun _ _ => a3, fun _ _ => ?_⟩, ?_⟩
      · intro u6 u7 u8 u9 u10 u11 u12 u13 u14 u15 u16 e
        unfold f_X1_letGoBy at e
        rw [a1] at e
        cases e
        exact k2
      · intros
        exact q_01
    have hn7 : n_X7_pass (nI t) (nI m) su lv si (nI g) (nI s) sc fh lh fo ee (nI P) dl pl dr sp le dn (nI T) n rc := by
      refine ⟨fun _ _ => a4, fun _ _ => ?_, fun _ _ => ?_⟩
      · intro u1 u2 u3 u4 u5 u6 u7 u8 u9 u10 u11 u12 e
        rw [a2] at e
        cases e
        exact s3
      · intro u1 u2 u3 u4 u5 u6 u7 u8 u9 u10 u11 u12 e
        rw [a2] at e
        cases e
        exact k3
    have hcmp := bk_cmp oj (f_X0_countOf (nI n) sa1 2).toInt64

    refine ⟨?_, ?_⟩
    · unfold n_b14
      rw [hx1, hL, h7]
      refine ⟨?_, ?_, ?_, ?_, ?_, ?_⟩
      · exact hi1
      · exact hnL
      · intro x1 x2 x3 x4 x5 x6 x7 x8 x9 x10 x11 x12 x13 e14; cases e14; exact hn7
      · intro x1 x2 x3 x4 x5 x6 x7 x8 x9 x10 x11 x12 x13 e14 x15 x16 x17 x18 x19 x20 x21 x22 x23 x24 x25 x26 x27 x28 e29 c30 c31; cases e14; cases e29; exact q_01
      · intro x1 x2 x3 x4 x5 x6 x7 x8 x9 x10 x11 x12 x13 e14 x15 x16 x17 x18 x19 x20 x21 x22 x23 x24 x25 x26 x27 x28 e29 c30 c31 c32; cases e14; cases e29; exact c32 hcmp
      · intro x1 x2 x3 x4 x5 x6 x7 x8 x9 x10 x11 x12 x13 e14 x15 x16 x17 x18 x19 x20 x21 x22 x23 x24 x25 x26 x27 x28 e29 c30; cases e14; cases e29; exact c30 rfl
    · unfold f_b14
      rw [hx1, hL, h7]
      dsimp only
      rw [if_pos (bk_th _), if_pos (show (0 : Int32) = 0 from rfl), if_pos hcmp]
      refine ⟨_, _, _, _, _, _, _, _, _, _, _, _, _, 0, _, rfl, hw, hm, hg, hs, hP, hn, hsu, hsc, hlk, a5, hto, a8.2.1 hdr, fun q hq => (a8.2.2 q hq).trans (hsp q hq), fun k hk9 => ⟨(s2 k 0 (by decide)).trans (hrc k hk9).1, (s2 k 1 (by decide)).trans (hrc k hk9).2.1, (s2 k 2 (by decide)).trans (hrc k hk9).2.2.1, (s2 k 3 (by decide)).trans (hrc k hk9).2.2.2.1, hset k hk9⟩, hgw, ?_⟩
      intro k hk9
      rcases a6 k with q | ⟨q1, q2⟩
      · exact q.trans (hz k hk9)
      · rw [hz k hk9] at q1
        exact absurd q1 (by decide)

end
