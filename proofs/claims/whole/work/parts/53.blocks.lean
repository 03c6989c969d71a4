/-! what the law's loop keeps -/
def gj (n : Nat) (P : Nat) (t : Nat) (m : Nat) (g : Nat) (s : Nat) (lk : Int32) (to : UInt64) (su : UInt64) (lv : UInt64) (si : UInt32) (sc : Int32) (fo : UInt64) (ow : Nat → Int32) (gr : Nat → Int32) (we : Nat → Int32) (du : Nat → Int32) (sa : Nat → Int32) (le : Nat → UInt64) (dl : Nat → UInt32) (pl : Nat → Int32) (dr : Nat → Int32) (sp : Nat → Int32) (dn : Nat → Int32) (rc : Nat → Nat → Int32) : Prop :=
  t ≤ 5000 ∧ m < 30 ∧ g ≤ 3 ∧ s ≤ 4 ∧ P ≤ 3 ∧ n ≤ 10 ∧ vr su (-16) 16 ∧ tm_bool sc ∧ tm_bool lk ∧ ms n P lv si fo dl pl le sa dn ∧ dok to ∧ drk dr ∧ (∀ q, P ≤ q → sp q = 0) ∧ (∀ k, k < n → rc k 0 = ow k ∧ rc k 1 = gr k ∧ rc k 2 = we k ∧ rc k 3 = du k ∧ rc k 4 = sa k) ∧ (∀ k, k < n → (gr k = 0 ∨ gr k = 1 ∨ gr k = 2) ∧ ∃ w, w ≤ 60 ∧ we k = nI w) ∧ (∀ k, n ≤ k → sa k = 0)
theorem q_01 : vp_in (0 : Int32) 1 := vp_in_nI (n := 0) (by decide) (by decide)
theorem q_cmp (x : Int64) : lg_cmp x x = 0 := by
  unfold lg_cmp
  simp
theorem bk_cmp (oj : Nat → Int64) (v : Int64) : lg_cmp (vp_updL oj (0 : Int32).toNatClampNeg v (0 : Int32).toNatClampNeg) v = 0 := by
  rw [show vp_updL oj (0 : Int32).toNatClampNeg v (0 : Int32).toNatClampNeg = v from if_pos rfl]
  exact q_cmp v
theorem bk_cmpD (ov : Nat → UInt64) {v : UInt64} (h : dok v) : Op.cmpValue (FP.dcmp (vf_upd ov (0 : Int32).toNatClampNeg v (0 : Int32).toNatClampNeg) v) .l = 0 := by
  rw [show vf_upd ov (0 : Int32).toNatClampNeg v (0 : Int32).toNatClampNeg = v from if_pos rfl, fl_eq0 h h]
theorem bk_th (k : Int32) : f_X7_thrown k = k := rfl
section
variable {n : Nat} {P : Nat} {t : Nat} {m : Nat} {g : Nat} {s : Nat} {lk : Int32} {to : UInt64} {su : UInt64} {lv : UInt64} {si : UInt32} {sc : Int32} {fo : UInt64} {ow : Nat → Int32} {gr : Nat → Int32} {we : Nat → Int32} {du : Nat → Int32} {sa : Nat → Int32} {le : Nat → UInt64} {dl : Nat → UInt32} {pl : Nat → Int32} {dr : Nat → Int32} {sp : Nat → Int32} {dn : Nat → Int32} {rc : Nat → Nat → Int32} {fh lh ee rf pu mc : Int32} {oj : Nat → Int64} {ov : Nat → UInt64} {L : Nat} {xs : Nat → Int32} {i5 : Int32}

theorem bk_rc4 {n j : Nat} {ow gr we du sa : Nat → Int32} {rc : Nat → Nat → Int32} {v : Int32} (h : ∀ k, k < n → rc k 0 = ow k ∧ rc k 1 = gr k ∧ rc k 2 = we k ∧ rc k 3 = du k ∧ rc k 4 = sa k) : ∀ k, k < n → vf_upd rc j (upd (rc j) 4 v) k 0 = ow k ∧ vf_upd rc j (upd (rc j) 4 v) k 1 = gr k ∧ vf_upd rc j (upd (rc j) 4 v) k 2 = we k ∧ vf_upd rc j (upd (rc j) 4 v) k 3 = du k ∧ vf_upd rc j (upd (rc j) 4 v) k 4 = upd sa j v k := by
  intro k hk
  by_cases e : k = j
  · subst e
    rw [show vf_upd rc k (upd (rc k) 4 v) k = upd (rc k) 4 v from if_pos rfl, pk_un (by decide), pk_un (by decide), pk_un (by decide), pk_un (by decide), pk_us, pk_us]
    exact ⟨(h k hk).1, (h k hk).2.1, (h k hk).2.2.1, (h k hk).2.2.2.1, rfl⟩
  · rw [show vf_upd rc j (upd (rc j) 4 v) k = rc k from if_neg e, pk_un e]
    exact h k hk

theorem q_b0 (h : gj n P t m g s lk to su lv si sc fo ow gr we du sa le dl pl dr sp dn rc) (hi1 : vp_in (i5 + 1) L) : n_b0 (nI t) (nI m) oj L xs i5 ∧ ∃ (m' : Nat) (oj' : Nat → Int64) (th' : Int32), f_b0 (nI t) (nI m) oj xs i5 = (nI m', oj', th', nI m') ∧ gj n P t m' g s lk to su lv si sc fo ow gr we du sa le dl pl dr sp dn rc := by
  obtain ⟨ht, hm, hg, hs, hP, hn, hsu, hsc, hlk, hms, hto, hdr, hsp, hrc, hgw, hz⟩ := h
  generalize hx1 : xs (i5 + 1).toNatClampNeg = y1

  by_cases hk : f_X7_in y1 0 29 = 0
  · have h5 : f_X5_moon (nI t) y1 = .inr 0 := if_pos hk
    have hL : f_L_moon (nI t) (nI m) oj y1 = (1, nI m, oj) := by unfold f_L_moon; rw [h5]
    have h7 : f_X7_moon (nI t) (nI m) y1 = (0, 1, nI m) := by unfold f_X7_moon; rw [if_pos hk]; rfl
    have hnL : n_L_moon (nI t) y1 := by unfold n_L_moon; intros; exact q_01

    refine ⟨?_, ?_⟩
    · unfold n_b0
      rw [hx1, hL, h7]
      refine ⟨?_, ?_, ?_, ?_, ?_⟩
      · exact hi1
      · exact hnL
      · intro x1 x2 x3 e4 x5 x6 x7 e8 c9 c10; cases e4; cases e8; exact q_01
      · intro x1 x2 x3 e4 x5 x6 x7 e8 c9 c10 c11; cases e4; cases e8; exact absurd c10 (by decide)
      · intro x1 x2 x3 e4 x5 x6 x7 e8 c9; cases e4; cases e8; exact c9 rfl
    · unfold f_b0
      rw [hx1, hL, h7]
      dsimp only
      rw [if_pos (bk_th _), if_neg (by decide)]
      exact ⟨m, oj, 1, rfl, ⟨ht, hm, hg, hs, hP, hn, hsu, hsc, hlk, hms, hto, hdr, hsp, hrc, hgw, hz⟩⟩

  · obtain ⟨m', hm', rfl⟩ := li_in (N := 29) (by decide) rfl hk
    have h5 : f_X5_moon (nI t) (nI m') = .inl (f_X4_ageOn (nI m') (nI t), nI m') := if_neg hk
    have hL : f_L_moon (nI t) (nI m) oj (nI m') = (0, nI m', vp_updL oj (0 : Int32).toNatClampNeg (f_X4_ageOn (nI m') (nI t)).toInt64) := by unfold f_L_moon; rw [h5]
    have h7 : f_X7_moon (nI t) (nI m) (nI m') = (f_X4_ageOn (nI m') (nI t), 0, nI m') := by unfold f_X7_moon; rw [if_neg hk]; rfl
    have hnL : n_L_moon (nI t) (nI m') := by unfold n_L_moon; intros; exact q_01
    have hcmp := bk_cmp oj (f_X4_ageOn (nI m') (nI t)).toInt64

    refine ⟨?_, ?_⟩
    · unfold n_b0
      rw [hx1, hL, h7]
      refine ⟨?_, ?_, ?_, ?_, ?_⟩
      · exact hi1
      · exact hnL
      · intro x1 x2 x3 e4 x5 x6 x7 e8 c9 c10; cases e4; cases e8; exact q_01
      · intro x1 x2 x3 e4 x5 x6 x7 e8 c9 c10 c11; cases e4; cases e8; exact c11 hcmp
      · intro x1 x2 x3 e4 x5 x6 x7 e8 c9; cases e4; cases e8; exact c9 rfl
    · unfold f_b0
      rw [hx1, hL, h7]
      dsimp only
      rw [if_pos (bk_th _), if_pos (show (0 : Int32) = 0 from rfl), if_pos hcmp]
      exact ⟨m', _, 0, rfl, ht, by omega, hg, hs, hP, hn, hsu, hsc, hlk, hms, hto, hdr, hsp, hrc, hgw, hz⟩

theorem bk_su : ∀ j, j < 17 → FP.dmul (FP.i2d (nI j - 8)) 4598175219545276416 = FP.ddiv (FP.i2d (nI j - 8)) 4616189618054758400 ∧ FP.Core.val64 (FP.dmul (FP.i2d (nI j - 8)) 4598175219545276416) ≠ .nan ∧ -16 * fl_E ≤ FP.Core.zval FP.Core.b64 (FP.Core.val64 (FP.dmul (FP.i2d (nI j - 8)) 4598175219545276416)) ∧ FP.Core.zval FP.Core.b64 (FP.Core.val64 (FP.dmul (FP.i2d (nI j - 8)) 4598175219545276416)) ≤ 16 * fl_E := by decide +kernel
theorem bk_sq {x : Int32} (h : ¬ f_X7_in x (-8) 8 = 0) : FP.dmul (FP.i2d x) 4598175219545276416 = FP.ddiv (FP.i2d x) 4616189618054758400 ∧ vr (FP.dmul (FP.i2d x) 4598175219545276416) (-16) 16 := by
  unfold f_X7_in at h
  by_cases c1 : x < -8
  · rw [if_pos c1] at h
    exact absurd rfl h
  · by_cases c2 : 8 < x
    · rw [if_neg c1, if_pos c2] at h
      exact absurd rfl h
    · rw [Int32.lt_iff_toInt_lt] at c1 c2
      have e1 : (-8 : Int32).toInt = -8 := rfl
      have e2 : (8 : Int32).toInt = 8 := rfl
      rw [e1] at c1
      rw [e2] at c2
      have hx : x = nI (x.toInt + 8).toNat - 8 := by
        apply Int32.toInt.inj
        have := pk_sub_toInt (a := (x.toInt + 8).toNat) (b := 8) (by omega) (by omega)
        rw [show nI (x.toInt + 8).toNat - 8 = nI (x.toInt + 8).toNat - nI 8 from rfl, this]
        omega
      obtain ⟨b1, b2, b3, b4⟩ := bk_su (x.toInt + 8).toNat (by omega)
      rw [hx]
      exact ⟨b1, fl_vr b2 b3 b4 (by decide) (by decide)⟩

theorem q_b1 (h : gj n P t m g s lk to su lv si sc fo ow gr we du sa le dl pl dr sp dn rc) (hi1 : vp_in (i5 + 1) L) : n_b1 (nI t) (nI m) su ov L xs i5 ∧ ∃ (su' : UInt64) (ov' : Nat → UInt64) (th' : Int32), f_b1 (nI t) (nI m) su ov xs i5 = (su', ov', th', su') ∧ gj n P t m g s lk to su' lv si sc fo ow gr we du sa le dl pl dr sp dn rc := by
  obtain ⟨ht, hm, hg, hs, hP, hn, hsu, hsc, hlk, hms, hto, hdr, hsp, hrc, hgw, hz⟩ := h
  generalize hx1 : xs (i5 + 1).toNatClampNeg = y1

  by_cases hk : f_X7_in y1 (-8) 8 = 0
  · have h5 : f_X5_surge (nI t) (nI m) y1 = .inr 0 := if_pos hk
    have hL : f_L_surge (nI t) (nI m) su ov y1 = (1, su, ov) := by unfold f_L_surge; rw [h5]
    have h7 : f_X7_surge (nI t) (nI m) su y1 = (FP.i2d 0, 1, su) := by unfold f_X7_surge; rw [if_pos hk]; rfl
    have hnL : n_L_surge (nI t) (nI m) y1 := ⟨⟨fun c => absurd hk c, fun c => absurd hk c⟩, fun _ _ _ => q_01⟩
    have hn7 : n_X7_surge (nI t) (nI m) y1 := ⟨fun c => absurd hk c, fun c => absurd hk c⟩

    refine ⟨?_, ?_⟩
    · unfold n_b1
      rw [hx1, hL, h7]
      refine ⟨?_, ?_, ?_, ?_, ?_, ?_, ?_⟩
      · exact hi1
      · exact hnL
      · intro x1 x2 x3 e4; cases e4; exact hn7
      · intro x1 x2 x3 e4 x5 x6 x7 e8 c9 c10; cases e4; cases e8; exact q_01
      · intro x1 x2 x3 e4 x5 x6 x7 e8 c9 c10 c11 c12; cases e4; cases e8; exact absurd c10 (by decide)
      · intro x1 x2 x3 e4 x5 x6 x7 e8 c9 c10 c11 c12 c13; cases e4; cases e8; exact absurd c10 (by decide)
      · intro x1 x2 x3 e4 x5 x6 x7 e8 c9; cases e4; cases e8; exact c9 rfl
    · unfold f_b1
      rw [hx1, hL, h7]
      dsimp only
      rw [if_pos (bk_th _), if_neg (by decide)]
      exact ⟨su, ov, 1, rfl, ⟨ht, hm, hg, hs, hP, hn, hsu, hsc, hlk, hms, hto, hdr, hsp, hrc, hgw, hz⟩⟩

  · obtain ⟨b1, b2⟩ := bk_sq hk
    obtain ⟨s1, s2, s3⟩ := sa_sea (m := m) (t := t) hm (by omega) b2
    have h5 : f_X5_surge (nI t) (nI m) y1 = .inl (f_X4_heightOn (nI m) (FP.dmul (FP.i2d y1) 4598175219545276416) (nI t), FP.dmul (FP.i2d y1) 4598175219545276416) := if_neg hk
    have hL : f_L_surge (nI t) (nI m) su ov y1 = (0, FP.dmul (FP.i2d y1) 4598175219545276416, vf_upd ov (0 : Int32).toNatClampNeg (f_X4_heightOn (nI m) (FP.dmul (FP.i2d y1) 4598175219545276416) (nI t))) := by unfold f_L_surge; rw [h5]
    have h7 : f_X7_surge (nI t) (nI m) su y1 = (f_X4_heightOn (nI m) (FP.dmul (FP.i2d y1) 4598175219545276416) (nI t), 0, FP.dmul (FP.i2d y1) 4598175219545276416) := by
      unfold f_X7_surge
      rw [if_neg hk, ← b1, sa_seaE (by omega)]
    have hnL : n_L_surge (nI t) (nI m) y1 := ⟨⟨fun _ => b2.n, fun _ => s2⟩, fun _ _ _ => q_01⟩
    have hn7 : n_X7_surge (nI t) (nI m) y1 := by
      unfold n_X7_surge
      rw [← b1]
      exact ⟨fun _ => b2.n, fun _ => s3⟩
    have hcmp := bk_cmpD ov s1.ok

    refine ⟨?_, ?_⟩
    · unfold n_b1
      rw [hx1, hL, h7]
      refine ⟨?_, ?_, ?_, ?_, ?_, ?_, ?_⟩
      · exact hi1
      · exact hnL
      · intro x1 x2 x3 e4; cases e4; exact hn7
      · intro x1 x2 x3 e4 x5 x6 x7 e8 c9 c10; cases e4; cases e8; exact q_01
      · intro x1 x2 x3 e4 x5 x6 x7 e8 c9 c10 c11 c12; cases e4; cases e8; exact c11 hcmp
      · intro x1 x2 x3 e4 x5 x6 x7 e8 c9 c10 c11 c12 c13; cases e4; cases e8; exact c11 hcmp
      · intro x1 x2 x3 e4 x5 x6 x7 e8 c9; cases e4; cases e8; exact c9 rfl
    · unfold f_b1
      rw [hx1, hL, h7]
      dsimp only
      rw [if_pos (bk_th _), if_pos (show (0 : Int32) = 0 from rfl), if_pos hcmp]
      exact ⟨_, _, 0, rfl, ht, hm, hg, hs, hP, hn, b2, hsc, hlk, hms, hto, hdr, hsp, hrc, hgw, hz⟩

theorem q_b2 (h : gj n P t m g s lk to su lv si sc fo ow gr we du sa le dl pl dr sp dn rc) (hi1 : vp_in (i5 + 1) L) : n_b2 lk (nI g) oj L xs i5 ∧ ∃ (g' : Nat) (oj' : Nat → Int64) (th' : Int32), f_b2 lk (nI g) oj xs i5 = (nI g', oj', th', nI g') ∧ gj n P t m g' s lk to su lv si sc fo ow gr we du sa le dl pl dr sp dn rc := by
  obtain ⟨ht, hm, hg, hs, hP, hn, hsu, hsc, hlk, hms, hto, hdr, hsp, hrc, hgw, hz⟩ := h
  generalize hx1 : xs (i5 + 1).toNatClampNeg = y1

  by_cases hk : f_X7_in y1 0 3 = 0
  · have h5 : f_X5_gates lk (nI g) y1 = .inr 0 := if_pos hk
    have hL : f_L_gates lk (nI g) oj y1 = (1, nI g, oj) := by unfold f_L_gates; rw [h5]; rfl
    have h7 : f_X7_gates lk (nI g) y1 = (0, 1, nI g) := by unfold f_X7_gates; rw [if_pos hk]; rfl
    have hnL : n_L_gates lk (nI g) y1 := by unfold n_L_gates; intros; exact q_01

    refine ⟨?_, ?_⟩
    · unfold n_b2
      rw [hx1, hL, h7]
      refine ⟨?_, ?_, ?_, ?_, ?_⟩
      · exact hi1
      · exact hnL
      · intro x1 x2 x3 e4 x5 x6 x7 e8 c9 c10; cases e4; cases e8; exact q_01
      · intro x1 x2 x3 e4 x5 x6 x7 e8 c9 c10 c11; cases e4; cases e8; exact absurd c10 (by decide)
      · intro x1 x2 x3 e4 x5 x6 x7 e8 c9; cases e4; cases e8; exact c9 rfl
    · unfold f_b2
      rw [hx1, hL, h7]
      dsimp only
      rw [if_pos (bk_th _), if_neg (by decide)]
      exact ⟨g, oj, 1, rfl, ⟨ht, hm, hg, hs, hP, hn, hsu, hsc, hlk, hms, hto, hdr, hsp, hrc, hgw, hz⟩⟩

  by_cases hlk0 : lk = 0
  · obtain ⟨g', hg', rfl⟩ := li_in (N := 3) (by decide) rfl hk
    have h5 : f_X5_gates lk (nI g) (nI g') = .inl (nI g, nI g') := by unfold f_X5_gates; rw [li_isW, if_neg hk, if_pos hlk0]
    have hL : f_L_gates lk (nI g) oj (nI g') = (0, nI g', vp_updL oj (0 : Int32).toNatClampNeg (nI g).toInt64) := by unfold f_L_gates; rw [h5]
    have h7 : f_X7_gates lk (nI g) (nI g') = (nI g, 0, nI g') := by unfold f_X7_gates; rw [if_neg hk, if_pos hlk0]
    have hnL : n_L_gates lk (nI g) (nI g') := by unfold n_L_gates; intros; exact q_01
    have hcmp := bk_cmp oj (nI g).toInt64

    refine ⟨?_, ?_⟩
    · unfold n_b2
      rw [hx1, hL, h7]
      refine ⟨?_, ?_, ?_, ?_, ?_⟩
      · exact hi1
      · exact hnL
      · intro x1 x2 x3 e4 x5 x6 x7 e8 c9 c10; cases e4; cases e8; exact q_01
      · intro x1 x2 x3 e4 x5 x6 x7 e8 c9 c10 c11; cases e4; cases e8; exact c11 hcmp
      · intro x1 x2 x3 e4 x5 x6 x7 e8 c9; cases e4; cases e8; exact c9 rfl
    · unfold f_b2
      rw [hx1, hL, h7]
      dsimp only
      rw [if_pos (bk_th _), if_pos (show (0 : Int32) = 0 from rfl), if_pos hcmp]
      exact ⟨g', _, 0, rfl, ht, hm, by omega, hs, hP, hn, hsu, hsc, hlk, hms, hto, hdr, hsp, hrc, hgw, hz⟩

  · have h5 : f_X5_gates lk (nI g) y1 = .inr 1 := by unfold f_X5_gates; rw [li_isW, if_neg hk, if_neg hlk0]
    have hL : f_L_gates lk (nI g) oj y1 = (2, nI g, oj) := by unfold f_L_gates; rw [h5]; rfl
    have h7 : f_X7_gates lk (nI g) y1 = (0, 2, nI g) := by unfold f_X7_gates; rw [if_neg hk, if_neg hlk0]; rfl
    have hnL : n_L_gates lk (nI g) y1 := by unfold n_L_gates; intros; exact q_01

    refine ⟨?_, ?_⟩
    · unfold n_b2
      rw [hx1, hL, h7]
      refine ⟨?_, ?_, ?_, ?_, ?_⟩
      · exact hi1
      · exact hnL
      · intro x1 x2 x3 e4 x5 x6 x7 e8 c9 c10; cases e4; cases e8; exact q_01
      · intro x1 x2 x3 e4 x5 x6 x7 e8 c9 c10 c11; cases e4; cases e8; exact absurd c10 (by decide)
      · intro x1 x2 x3 e4 x5 x6 x7 e8 c9; cases e4; cases e8; exact c9 rfl
    · unfold f_b2
      rw [hx1, hL, h7]
      dsimp only
      rw [if_pos (bk_th _), if_neg (by decide)]
      exact ⟨g, oj, 2, rfl, ⟨ht, hm, hg, hs, hP, hn, hsu, hsc, hlk, hms, hto, hdr, hsp, hrc, hgw, hz⟩⟩

theorem q_b3 (h : gj n P t m g s lk to su lv si sc fo ow gr we du sa le dl pl dr sp dn rc) (hi1 : vp_in (i5 + 1) L) : n_b3 (nI s) oj L xs i5 ∧ ∃ (s' : Nat) (oj' : Nat → Int64) (th' : Int32), f_b3 (nI s) oj xs i5 = (nI s', oj', th', nI s') ∧ gj n P t m g s' lk to su lv si sc fo ow gr we du sa le dl pl dr sp dn rc := by
  obtain ⟨ht, hm, hg, hs, hP, hn, hsu, hsc, hlk, hms, hto, hdr, hsp, hrc, hgw, hz⟩ := h
  generalize hx1 : xs (i5 + 1).toNatClampNeg = y1

  by_cases hk : f_X7_in y1 0 4 = 0
  · have h5 : f_X5_sluice (nI s) y1 = .inr 0 := if_pos hk
    have hL : f_L_sluice (nI s) oj y1 = (1, nI s, oj) := by unfold f_L_sluice; rw [h5]
    have h7 : f_X7_sluice (nI s) y1 = (0, 1, nI s) := by unfold f_X7_sluice; rw [if_pos hk]; rfl
    have hnL : n_L_sluice (nI s) y1 := by unfold n_L_sluice; intros; exact q_01

    refine ⟨?_, ?_⟩
    · unfold n_b3
      rw [hx1, hL, h7]
      refine ⟨?_, ?_, ?_, ?_, ?_⟩
      · exact hi1
      · exact hnL
      · intro x1 x2 x3 e4 x5 x6 x7 e8 c9 c10; cases e4; cases e8; exact q_01
      · intro x1 x2 x3 e4 x5 x6 x7 e8 c9 c10 c11; cases e4; cases e8; exact absurd c10 (by decide)
      · intro x1 x2 x3 e4 x5 x6 x7 e8 c9; cases e4; cases e8; exact c9 rfl
    · unfold f_b3
      rw [hx1, hL, h7]
      dsimp only
      rw [if_pos (bk_th _), if_neg (by decide)]
      exact ⟨s, oj, 1, rfl, ⟨ht, hm, hg, hs, hP, hn, hsu, hsc, hlk, hms, hto, hdr, hsp, hrc, hgw, hz⟩⟩

  · obtain ⟨s', hs', rfl⟩ := li_in (N := 4) (by decide) rfl hk
    have h5 : f_X5_sluice (nI s) (nI s') = .inl (nI s, nI s') := if_neg hk
    have hL : f_L_sluice (nI s) oj (nI s') = (0, nI s', vp_updL oj (0 : Int32).toNatClampNeg (nI s).toInt64) := by unfold f_L_sluice; rw [h5]
    have h7 : f_X7_sluice (nI s) (nI s') = (nI s, 0, nI s') := if_neg hk
    have hnL : n_L_sluice (nI s) (nI s') := by unfold n_L_sluice; intros; exact q_01
    have hcmp := bk_cmp oj (nI s).toInt64

    refine ⟨?_, ?_⟩
    · unfold n_b3
      rw [hx1, hL, h7]
      refine ⟨?_, ?_, ?_, ?_, ?_⟩
      · exact hi1
      · exact hnL
      · intro x1 x2 x3 e4 x5 x6 x7 e8 c9 c10; cases e4; cases e8; exact q_01
      · intro x1 x2 x3 e4 x5 x6 x7 e8 c9 c10 c11; cases e4; cases e8; exact c11 hcmp
      · intro x1 x2 x3 e4 x5 x6 x7 e8 c9; cases e4; cases e8; exact c9 rfl
    · unfold f_b3
      rw [hx1, hL, h7]
      dsimp only
      rw [if_pos (bk_th _), if_pos (show (0 : Int32) = 0 from rfl), if_pos hcmp]
      exact ⟨s', _, 0, rfl, ht, hm, hg, by omega, hP, hn, hsu, hsc, hlk, hms, hto, hdr, hsp, hrc, hgw, hz⟩

theorem q_b11 (h : gj n P t m g s lk to su lv si sc fo ow gr we du sa le dl pl dr sp dn rc) (hi1 : vp_in (i5 + 1) L) : n_b11 (nI n) sa (nI P) pl oj n rc L xs i5 ∧ ∃ (rc' : Nat → Nat → Int32) (sa' pl' : Nat → Int32) (oj' : Nat → Int64) (th' : Int32), f_b11 (nI n) sa (nI P) pl oj rc xs i5 = (rc', sa', pl', oj', th', pl') ∧ gj n P t m g s lk to su lv si sc fo ow gr we du sa' le dl pl' dr sp dn rc' := by
  obtain ⟨ht, hm, hg, hs, hP, hn, hsu, hsc, hlk, hms, hto, hdr, hsp, hrc, hgw, hz⟩ := h
  generalize hx1 : xs (i5 + 1).toNatClampNeg = y1

  by_cases hk : f_X2_has (nI P) y1 = 0
  · have hk7 : f_X7_isPair (nI P) y1 = 0 := (li_pair hP y1).trans hk
    have h5 : f_X5_take (nI n) sa (nI P) pl y1 = .inr 2 := if_pos hk
    have hL : f_L_take (nI n) sa (nI P) pl oj y1 = (1, sa, pl, oj) := by unfold f_L_take; rw [h5]; rfl
    have h7 : f_X7_take (nI P) pl y1 rc = (0, rc, 1, pl) := by unfold f_X7_take; rw [if_pos hk7]; rfl
    have hnL : n_L_take (nI n) sa (nI P) pl y1 := ⟨⟨fun c => absurd hk c, fun c => absurd hk c⟩, fun _ _ _ _ => q_01⟩
    have hn7 : n_X7_take (nI P) pl y1 n := ⟨li_pairN _ _, fun c => absurd hk7 c, fun c => absurd hk7 c, fun c => absurd hk7 c, fun c => absurd hk7 c⟩

    refine ⟨?_, ?_⟩
    · unfold n_b11
      rw [hx1, hL, h7]
      refine ⟨?_, ?_, ?_, ?_, ?_, ?_⟩
      · exact hi1
      · exact hnL
      · intro x1 x2 x3 x4 e5; cases e5; exact hn7
      · intro x1 x2 x3 x4 e5 x6 x7 x8 x9 e10 c11 c12; cases e5; cases e10; exact q_01
      · intro x1 x2 x3 x4 e5 x6 x7 x8 x9 e10 c11 c12 c13; cases e5; cases e10; exact absurd c12 (by decide)
      · intro x1 x2 x3 x4 e5 x6 x7 x8 x9 e10 c11; cases e5; cases e10; exact c11 rfl
    · unfold f_b11
      rw [hx1, hL, h7]
      dsimp only
      rw [if_pos (bk_th _), if_neg (by decide)]
      exact ⟨rc, sa, pl, oj, 1, rfl, ⟨ht, hm, hg, hs, hP, hn, hsu, hsc, hlk, hms, hto, hdr, hsp, hrc, hgw, hz⟩⟩

  have hk7 : ¬ f_X7_isPair (nI P) y1 = 0 := by rw [li_pair hP]; exact hk
  obtain ⟨p, hp, rfl⟩ := li_has2 hP hk
  have hc : (nI p).toNatClampNeg = p := nI_clamp (by omega)
  have ip := an_v3 p (by omega)
  have hmi := hms.2.2.2
  rcases hmi.2.2.1 p hp with hq | ⟨j, hj, hq, hsj⟩
  · have h5 : f_X5_take (nI n) sa (nI P) pl (nI p) = .inr 1 := by unfold f_X5_take; rw [if_neg hk, hc, hq, if_pos (wk_has0 n)]
    have hL : f_L_take (nI n) sa (nI P) pl oj (nI p) = (2, sa, pl, oj) := by unfold f_L_take; rw [h5]; rfl
    have h7 : f_X7_take (nI P) pl (nI p) rc = (0, rc, 2, pl) := by unfold f_X7_take; rw [if_neg hk7, hc, if_pos hq]; rfl
    have hnL : n_L_take (nI n) sa (nI P) pl (nI p) := by
      refine ⟨⟨fun _ => ip, fun _ c => ?_⟩, fun _ _ _ _ => q_01⟩
      rw [hc, hq] at c
      exact absurd (wk_has0 n) c
    have hn7 : n_X7_take (nI P) pl (nI p) n := by
      unfold n_X7_take
      rw [hc]
      exact ⟨li_pairN _ _, fun _ => ip, fun _ c => absurd hq c, fun _ c => absurd hq c, fun _ c => absurd hq c⟩

    refine ⟨?_, ?_⟩
    · unfold n_b11
      rw [hx1, hL, h7]
      refine ⟨?_, ?_, ?_, ?_, ?_, ?_⟩
      · exact hi1
      · exact hnL
      · intro x1 x2 x3 x4 e5; cases e5; exact hn7
      · intro x1 x2 x3 x4 e5 x6 x7 x8 x9 e10 c11 c12; cases e5; cases e10; exact q_01
      · intro x1 x2 x3 x4 e5 x6 x7 x8 x9 e10 c11 c12 c13; cases e5; cases e10; exact absurd c12 (by decide)
      · intro x1 x2 x3 x4 e5 x6 x7 x8 x9 e10 c11; cases e5; cases e10; exact c11 rfl
    · unfold f_b11
      rw [hx1, hL, h7]
      dsimp only
      rw [if_pos (bk_th _), if_neg (by decide)]
      exact ⟨rc, sa, pl, oj, 2, rfl, ⟨ht, hm, hg, hs, hP, hn, hsu, hsc, hlk, hms, hto, hdr, hsp, hrc, hgw, hz⟩⟩

  · have hcj : (nI j).toNatClampNeg = j := nI_clamp (by omega)
    have hne : ¬ pl p = -1 := by rw [hq]; exact wk_neg j (by omega)
    have hh : ¬ f_X0_has (nI n) (nI j) = 0 := by rw [wk_has1 hj hn]; decide
    have h5 : f_X5_take (nI n) sa (nI P) pl (nI p) = .inl (nI j, upd sa j 0, upd pl p (-1)) := by unfold f_X5_take; rw [if_neg hk, hc, hq, if_neg hh, hcj]
    have hL : f_L_take (nI n) sa (nI P) pl oj (nI p) = (0, upd sa j 0, upd pl p (-1), vp_updL oj (0 : Int32).toNatClampNeg (nI j).toInt64) := by unfold f_L_take; rw [h5]
    have h7 : f_X7_take (nI P) pl (nI p) rc = (nI j, vf_upd rc j (upd (rc j) 4 0), 0, upd pl p (-1)) := by unfold f_X7_take; rw [if_neg hk7, hc, if_neg hne, hq, hcj, li_c4]
    have hnL : n_L_take (nI n) sa (nI P) pl (nI p) := by
      refine ⟨⟨fun _ => ip, fun _ _ => ?_⟩, fun _ _ _ _ => q_01⟩
      rw [hc, hq]
      exact vp_in_nI (by omega) (by decide)
    have hn7 : n_X7_take (nI P) pl (nI p) n := by
      unfold n_X7_take
      rw [hc, hq]
      exact ⟨li_pairN _ _, fun _ => ip, fun _ _ => ge_get hj hn, fun _ _ => vp_in_nI hj (by omega), fun _ _ => li_in5 4 (by decide)⟩
    have hcmp := bk_cmp oj (nI j).toInt64
    have hd0 : dn j = 0 := by
      rcases hmi.2.2.2.2 j with ⟨_, e⟩ | ⟨e, _⟩
      · exact e
      · rw [hsj] at e
        exact absurd e (by decide)
    have hmi2 : mi n P dl (upd pl p (-1)) le (upd sa j 0) dn := by
      obtain ⟨q1, q2, q3, q4, q5⟩ := hmi
      refine ⟨q1, q2, ?_, ?_, ?_⟩
      · intro q hq9
        by_cases e : q = p
        · subst e; exact Or.inl pk_us
        · rw [pk_un e]
          rcases q3 q hq9 with h6 | ⟨j', g1, g2, g3⟩
          · exact Or.inl h6
          · refine Or.inr ⟨j', g1, g2, ?_⟩
            by_cases e2 : j' = j
            · subst e2
              have := q4 p q hp hq9 (fun e3 => e e3.symm) (hq.trans g2.symm)
              exact absurd this hne
            · rw [pk_un e2]; exact g3
      · intro q q' hq1 hq2 hne2 he
        by_cases e : q = p
        · subst e; exact pk_us
        · by_cases e2 : q' = p
          · subst e2
            rw [he]; exact pk_us
          · rw [pk_un e, pk_un e2] at he
            rw [pk_un e]
            exact q4 q q' hq1 hq2 hne2 he
      · intro k
        by_cases e : k = j
        · subst e
          rw [pk_us]
          exact Or.inl ⟨Or.inl rfl, hd0⟩
        · rw [pk_un e]
          exact q5 k

    refine ⟨?_, ?_⟩
    · unfold n_b11
      rw [hx1, hL, h7]
      refine ⟨?_, ?_, ?_, ?_, ?_, ?_⟩
      · exact hi1
      · exact hnL
      · intro x1 x2 x3 x4 e5; cases e5; exact hn7
      · intro x1 x2 x3 x4 e5 x6 x7 x8 x9 e10 c11 c12; cases e5; cases e10; exact q_01
      · intro x1 x2 x3 x4 e5 x6 x7 x8 x9 e10 c11 c12 c13; cases e5; cases e10; exact c13 hcmp
      · intro x1 x2 x3 x4 e5 x6 x7 x8 x9 e10 c11; cases e5; cases e10; exact c11 rfl
    · unfold f_b11
      rw [hx1, hL, h7]
      dsimp only
      rw [if_pos (bk_th _), if_pos (show (0 : Int32) = 0 from rfl), if_pos hcmp]
      refine ⟨_, _, _, _, 0, rfl, ht, hm, hg, hs, hP, hn, hsu, hsc, hlk, ⟨hms.1, hms.2.1, hms.2.2.1, hmi2⟩, hto, hdr, hsp, ?_, hgw, ?_⟩
      · exact bk_rc4 hrc
      · intro k hk9
        rw [pk_un (by omega)]
        exact hz k hk9

end
