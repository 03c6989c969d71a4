/-! pairs and lots told -/
theorem tx_c0 : (0 : Int32).toNatClampNeg = 0 := rfl
theorem tx_c1 : (1 : Int32).toNatClampNeg = 1 := rfl
theorem tx_c2 : (2 : Int32).toNatClampNeg = 2 := rfl
theorem tx_c3 : (3 : Int32).toNatClampNeg = 3 := rfl
theorem tx_c4 : (4 : Int32).toNatClampNeg = 4 := rfl
theorem tx_us {f : Nat → Nat → Int32} {k : Nat} {x : Nat → Int32} : vf_upd f k x k = x := if_pos rfl
theorem tx_un {f : Nat → Nat → Int32} {k j : Nat} {x : Nat → Int32} (h : j ≠ k) : vf_upd f k x j = f j := if_neg h
theorem tx_has2 {P p : Nat} (hp : p < P) (hP : P ≤ 3) : ¬ f_X2_has (nI P) (nI p) = 0 := by
  unfold f_X2_has
  rw [if_neg (nI_pos (by omega)), if_neg (nI_ge hp (by omega))]
  decide
theorem tx_has0 {n j : Nat} (hj : j < n) (hn : n ≤ 10) : ¬ f_X0_has (nI n) (nI j) = 0 := by
  rw [wk_has1 hj hn]
  decide
theorem tx_nI {a b : Nat} (ha : a < 2 ^ 31) (hb : b < 2 ^ 31) (h : nI a = nI b) : a = b := (nI_eq ha hb).mp h
section
variable {L : Nat} {xs : Nat → Int32} {d t n P : Nat} {dl : Nat → UInt32} {pl dr sp ow gr we du sa : Nat → Int32} {le : Nat → UInt64} {pr rc : Nat → Nat → Int32}
/-- a pair laid -/
theorem pair_E (hP : P ≤ 2) (h : ti n P dl pl dr le sa) (hw : tw n P pl dr sp ow gr we du sa pr rc) (h1 : dr P = 0) (h2 : sp P = 0) : ∃ pr', f_X6_pair (nI P) pl P pr = (pr', nI (P + 1), upd pl P (-1)) ∧ n_X6_pair (nI P) pl P ∧ ti n (P + 1) dl (upd pl P (-1)) dr le sa ∧ tw n (P + 1) (upd pl P (-1)) dr sp ow gr we du sa pr' rc := by
  have hc : (nI P).toNatClampNeg = P := nI_clamp (by omega)
  have e : f_X5_pair (nI P) pl = (nI P, nI (P + 1), upd pl P (-1)) := by
    show (nI P, nI P + 1, upd pl (nI P).toNatClampNeg (-1)) = _
    rw [hc, nI_1]
  refine ⟨vf_upd pr P (upd (upd (upd (fun _ => (0 : Int32)) 0 (-1)) 1 0) 2 0), ?_, ?_, ?_, ?_⟩
  · unfold f_X6_pair
    rw [e]
    rfl
  · unfold n_X6_pair
    refine ⟨tx_in3 0 (by decide), tx_in3 1 (by decide), tx_in3 2 (by decide), by omega, ⟨nI_lt (b := 3) (by omega) (by decide), tx_in3 P (by omega)⟩, ?_⟩
    intro r u v e9
    rw [e] at e9
    injection e9 with e8
    rw [e8, nI_pred]
  · obtain ⟨q1, q2, q3, q4, q5, q6⟩ := h
    refine ⟨q1, q2, ?_, ?_, q5, q6⟩
    · intro p hp
      by_cases e : p = P
      · subst e; exact Or.inl pk_us
      · rw [pk_un e]; exact q3 p (by omega)
    · intro p q hp hq hne he
      by_cases e : p = P
      · subst e; exact pk_us
      · by_cases e2 : q = P
        · subst e2; rw [he]; exact pk_us
        · rw [pk_un e, pk_un e2] at he
          rw [pk_un e]
          exact q4 p q (by omega) (by omega) hne he
  · refine ⟨fun q hq => ?_, hw.2⟩
    by_cases e : q = P
    · subst e
      rw [tx_us, pk_us, h1, h2]
      exact ⟨rfl, rfl, rfl⟩
    · rw [tx_un e, pk_un e]
      exact hw.1 q (by omega)
theorem lot_lr {w : Nat} (h1 : 1 ≤ w) (h2 : w ≤ 60) : lr (FP.i2d (nI w)) ∧ 0 < zd (FP.i2d (nI w)) := by
  obtain ⟨a1, a2, a3⟩ := sa_i2d (t := w) (by omega)
  have hv := vr.int h2 (by decide)
  obtain ⟨b1, b2⟩ := cl_zi (nI w)
  rw [nI_toInt (by omega)] at b2
  refine ⟨⟨b1, a2, hv.2.2⟩, ?_⟩
  rw [b2]
  exact Int.mul_pos (by omega) (by decide +kernel)
/-- a lot brought -/
theorem lot_E (hL : L ≤ 260) (hd : d < 1000000) (ht : t ≤ 6000) (hn : n ≤ 9) (h : ti n P dl pl dr le sa) (hw : tw n P pl dr sp ow gr we du sa pr rc) (hg : ∀ k, k < n → gr k = 0 ∨ gr k = 1 ∨ gr k = 2) (hwe : ∀ k, k < n → ∃ w, 1 ≤ w ∧ w ≤ 60 ∧ we k = nI w) (hdu : ∀ k, k < n → ∃ u, u ≤ 1000 ∧ du k = nI u) :
    ∃ (rc' : Nat → Nat → Int32) (d' : Nat) (le' : Nat → UInt64) (ow' gr' we' du' sa' : Nat → Int32), d' ≤ d + 5 ∧ f_X6_lot (nI d) (nI t) le (nI t) (nI n) ow gr we du sa le n rc L xs = (rc', nI d', le', nI (n + 1), ow', gr', we', du', sa', le') ∧ n_X6_lot (nI d) (nI t) (nI n) ow gr we du sa le n L xs ∧ ti (n + 1) P dl pl dr le' sa' ∧ tw (n + 1) P pl dr sp ow' gr' we' du' sa' pr rc' ∧ (∀ k, k < n + 1 → gr' k = 0 ∨ gr' k = 1 ∨ gr' k = 2) ∧ (∀ k, k < n + 1 → ∃ w, 1 ≤ w ∧ w ≤ 60 ∧ we' k = nI w) ∧ (∀ k, k < n + 1 → ∃ u, u ≤ 1000 ∧ du' k = nI u) ∧ sa' n = 0 := by
  obtain ⟨o, ho, e1⟩ := dr_draw (nI d) L xs (N := 4) (by decide) (by decide)
  obtain ⟨g, hgk, e2⟩ := dr_draw (nI (d + 1)) L xs (N := 3) (by decide) (by decide)
  obtain ⟨k, hk, e3⟩ := dr_draw (nI (d + 2)) L xs (N := 2) (by decide) (by decide)
  obtain ⟨w6, hw6, e6⟩ := dr_draw (nI (d + 3)) L xs (N := 60) (by decide) (by decide)
  obtain ⟨w1, hw1, e7⟩ := dr_draw (nI (d + 3)) L xs (N := 10) (by decide) (by decide)
  obtain ⟨y, hy, e5⟩ := dr_draw (nI (d + 4)) L xs (N := 5) (by decide) (by decide)
  have e1' : (f_X6_draw (nI d) 4 L xs).1 = nI o := e1
  have e2' : (f_X6_draw (nI (d + 1)) 3 L xs).1 = nI g := e2
  have e3' : (f_X6_draw (nI (d + 2)) 2 L xs).1 = nI k := e3
  have e6' : (f_X6_draw (nI (d + 3)) 60 L xs).1 = nI w6 := e6
  have e7' : (f_X6_draw (nI (d + 3)) 10 L xs).1 = nI w1 := e7
  have e5' : (f_X6_draw (nI (d + 4)) 5 L xs).1 = nI y := e5
  have s1 : nI d + 1 = nI (d + 1) := nI_1 d
  have s2 : nI (d + 1) + 1 = nI (d + 2) := nI_1 (d + 1)
  have s3 : nI (d + 2) + 1 = nI (d + 3) := nI_1 (d + 2)
  have s4 : nI (d + 3) + 1 = nI (d + 4) := nI_1 (d + 3)
  have s5 : nI (d + 4) + 1 = nI (d + 5) := nI_1 (d + 4)
  have a6 : (1 : Int32) + nI w6 = nI (1 + w6) := nI_add 1 w6
  have a1 : (1 : Int32) + nI w1 = nI (1 + w1) := nI_add 1 w1
  have hday : nI t / 48 = nI (t / 48) := pk_div (d := 48) (by omega) (by decide) (by decide)
  have ad : nI (t / 48) + nI y = nI (t / 48 + y) := nI_add _ _
  have hc : (nI n).toNatClampNeg = n := nI_clamp (by omega)
  have n1 : n_X6_draw (nI d) 4 L := dr_drawN (N := 4) (by omega) hL (by decide) (by decide)
  have n2 : n_X6_draw (nI (d + 1)) 3 L := dr_drawN (N := 3) (by omega) hL (by decide) (by decide)
  have n3 : n_X6_draw (nI (d + 2)) 2 L := dr_drawN (N := 2) (by omega) hL (by decide) (by decide)
  have n6 : n_X6_draw (nI (d + 3)) 60 L := dr_drawN (N := 60) (by omega) hL (by decide) (by decide)
  have n7 : n_X6_draw (nI (d + 3)) 10 L := dr_drawN (N := 10) (by omega) hL (by decide) (by decide)
  have n5 : n_X6_draw (nI (d + 4)) 5 L := dr_drawN (N := 5) (by omega) hL (by decide) (by decide)
  have inn : vp_in (nI n) 10 := vp_in_nI (by omega) (by decide)
  have B : ∀ w, w < 60 → f_X5_lot (nI t) (nI n) ow gr we du sa le (nI o) (nI g) (nI (1 + w)) (nI y) = (nI n, nI (n + 1), upd ow n (nI o), upd gr n (nI g), upd we n (nI (1 + w)), upd du n (nI (t / 48 + y)), upd sa n 0, vf_upd le n (FP.i2d (nI (1 + w)))) ∧ n_X5_lot (nI n) (nI o) (nI g) (nI (1 + w)) (nI y) := fun w hw => by
    refine ⟨?_, iw_k (A := 0) (B := 3) (by omega) (by omega) (by decide), iw_k (A := 0) (B := 2) (by omega) (by omega) (by decide), iw_k (A := 1) (B := 60) (by omega) (by omega) (by decide), iw_k (A := 0) (B := 30) (by omega) (by omega) (by decide), nI_lt (b := 10) (by omega) (by decide), inn⟩
    show (nI n, nI n + 1, upd ow (nI n).toNatClampNeg (nI o), upd gr (nI n).toNatClampNeg (nI g), upd we (nI n).toNatClampNeg (nI (1 + w)), upd du (nI n).toNatClampNeg (nI t / 48 + nI y), upd sa (nI n).toNatClampNeg 0, vf_upd le (nI n).toNatClampNeg (FP.i2d (nI (1 + w)))) = _
    rw [hc, nI_1, hday, ad]
  obtain ⟨b6, bn6⟩ := B w6 (by omega)
  obtain ⟨b1, bn1⟩ := B w1 (by omega)
  have N : n_X6_lot (nI d) (nI t) (nI n) ow gr we du sa le n L xs := by
    unfold n_X6_lot
    rw [s1, s2, s3, s4, e1', e2', e3', e6', e7', e5', a6, a1]
    refine ⟨nI_le (b := 9) (by omega) (by decide), n1, n2, n3, fun _ => n7, fun _ => n5, fun _ => inn, fun _ => tx_in5 0 (by decide), fun _ => tx_in5 1 (by decide), fun _ => tx_in5 2 (by decide), fun _ => tx_in5 3 (by decide), fun _ => tx_in5 4 (by decide), fun _ => by omega, fun _ => bn1, fun _ r u1 u2 u3 u4 u5 u6 u7 e9 => ?_, fun _ => n6, fun _ => n5, fun _ => inn, fun _ => tx_in5 0 (by decide), fun _ => tx_in5 1 (by decide), fun _ => tx_in5 2 (by decide), fun _ => tx_in5 3 (by decide), fun _ => tx_in5 4 (by decide), fun _ => by omega, fun _ => bn6, fun _ r u1 u2 u3 u4 u5 u6 u7 e9 => ?_⟩
    · rw [b1] at e9
      injection e9 with e8
      rw [e8, nI_pred]
    · rw [b6] at e9
      injection e9 with e8
      rw [e8, nI_pred]
  have K : ∀ w, w < 60 → ti (n + 1) P dl pl dr (vf_upd le n (FP.i2d (nI (1 + w)))) (upd sa n 0) ∧ tw (n + 1) P pl dr sp (upd ow n (nI o)) (upd gr n (nI g)) (upd we n (nI (1 + w))) (upd du n (nI (t / 48 + y))) (upd sa n 0) pr (vf_upd rc n (upd (upd (upd (upd (upd (fun _ => (0 : Int32)) 0 (nI o)) 1 (nI g)) 2 (nI (1 + w))) 3 (nI (t / 48 + y))) 4 0)) ∧ (∀ k, k < n + 1 → upd gr n (nI g) k = 0 ∨ upd gr n (nI g) k = 1 ∨ upd gr n (nI g) k = 2) ∧ (∀ k, k < n + 1 → ∃ v, 1 ≤ v ∧ v ≤ 60 ∧ upd we n (nI (1 + w)) k = nI v) ∧ (∀ k, k < n + 1 → ∃ u, u ≤ 1000 ∧ upd du n (nI (t / 48 + y)) k = nI u) ∧ upd sa n 0 n = 0 := by
    intro w hw60
    obtain ⟨q1, q2, q3, q4, q5, q6⟩ := h
    obtain ⟨l1, l2⟩ := lot_lr (w := 1 + w) (by omega) (by omega)
    refine ⟨⟨q1, wk_lrU q2 l1, ?_, q4, ?_, q6⟩, ⟨hw.1, ?_⟩, ?_, ?_, ?_, pk_us⟩
    · intro p hp
      rcases q3 p hp with a | ⟨j, a1, a2, a3⟩
      · exact Or.inl a
      · exact Or.inr ⟨j, by omega, a2, by rw [pk_un (by omega)]; exact a3⟩
    · intro k hk
      by_cases e : k = n
      · subst e
        rw [pk_us, show vf_upd le k (FP.i2d (nI (1 + w))) k = FP.i2d (nI (1 + w)) from if_pos rfl]
        exact Or.inl ⟨Or.inl rfl, l2⟩
      · rw [pk_un e, show vf_upd le n (FP.i2d (nI (1 + w))) k = le k from if_neg e]
        exact q5 k (by omega)
    · intro k hk
      by_cases e : k = n
      · subst e
        rw [tx_us]
        exact ⟨by simp [upd], by simp [upd], by simp [upd], by simp [upd], by simp [upd]⟩
      · rw [tx_un e, pk_un e, pk_un e, pk_un e, pk_un e, pk_un e]
        exact hw.2 k (by omega)
    · intro k hk
      by_cases e : k = n
      · subst e
        rw [pk_us]
        have : g = 0 ∨ g = 1 ∨ g = 2 := by omega
        rcases this with e | e | e <;> subst e
        · exact Or.inl rfl
        · exact Or.inr (Or.inl rfl)
        · exact Or.inr (Or.inr rfl)
      · rw [pk_un e]; exact hg k (by omega)
    · intro k hk
      by_cases e : k = n
      · subst e; exact ⟨1 + w, by omega, by omega, pk_us⟩
      · rw [pk_un e]; exact hwe k (by omega)
    · intro k hk
      by_cases e : k = n
      · subst e; exact ⟨t / 48 + y, by omega, pk_us⟩
      · rw [pk_un e]; exact hdu k (by omega)
  by_cases c : nI k = 0
  · obtain ⟨k1, k2, k3, k4, k5, k6⟩ := K w6 (by omega)
    refine ⟨_, d + 5, _, _, _, _, _, _, by omega, ?_, N, k1, k2, k3, k4, k5, k6⟩
    unfold f_X6_lot
    rw [s1, s2, s3, s4, e1', e2', e3', e6', e5', a6, if_pos c, b6, hday, ad, s5, hc]
    rfl
  · obtain ⟨k1, k2, k3, k4, k5, k6⟩ := K w1 (by omega)
    refine ⟨_, d + 5, _, _, _, _, _, _, by omega, ?_, N, k1, k2, k3, k4, k5, k6⟩
    unfold f_X6_lot
    rw [s1, s2, s3, s4, e1', e2', e3', e7', e5', a1, if_neg c, b1, hday, ad, s5, hc]
    rfl
theorem feed_loop (hn : n ≤ 10) (h1 : 1 ≤ n) : ∀ (fuel i j : Nat), j < n → i ≤ n → n - i < fuel → ∃ j' i', j' < n ∧ f_X6_feed_32 n rc fuel (nI j) (nI i) = (nI j', i') ∧ n_X6_feed_32 n rc fuel (nI j) (nI i) := by
  intro fuel
  induction fuel with
  | zero => intro i j hj hi hf; omega
  | succ fuel ih =>
    intro i j hj hi hf
    have ij : vp_in (nI j) n := vp_in_nI hj (by omega)
    have hcj : (nI j).toNatClampNeg = j := nI_clamp (by omega)
    by_cases e : i = n
    · subst e
      have hle : nI i ≤ nI i := nI_le (Nat.le_refl _) (by omega)
      refine ⟨j, nI i, hj, ?_, ?_⟩
      · rw [f_X6_feed_32.eq_2, if_pos hle]
      · rw [n_X6_feed_32.eq_2]
        exact ⟨fun c => absurd hle c, fun c => absurd hle c, fun c => absurd hle c, fun c => absurd hle c⟩
    · have hlt : ¬ nI n ≤ nI i := nI_ge (by omega) (by omega)
      have hnz : ¬ nI n = 0 := nI_ne0 (by omega) (by omega)
      have hr : (nI j + 1) - (nI j + 1) / (nI n) * (nI n) = nI ((j + 1) % n) := by
        rw [nI_1]
        exact pk_rem (by omega) (by omega) (by omega)
      obtain ⟨j', i', b1, b2, b3⟩ := ih (i + 1) ((j + 1) % n) (Nat.mod_lt _ (by omega)) (by omega) (by omega)
      by_cases c : rc j 4 = 0
      · refine ⟨j, nI i, hj, ?_, ?_⟩
        · rw [f_X6_feed_32.eq_2, if_neg hlt, hcj, tx_c4, if_pos c]
        · rw [n_X6_feed_32.eq_2, hcj, tx_c4]
          exact ⟨fun _ => ij, fun _ => tx_in5 4 (by decide), fun _ _ => hnz, fun _ c9 => absurd c c9⟩
      · refine ⟨j', i', b1, ?_, ?_⟩
        · rw [f_X6_feed_32.eq_2, if_neg hlt, hcj, tx_c4, if_neg c, hr, nI_1, b2]
        · rw [n_X6_feed_32.eq_2, hcj, tx_c4, hr, nI_1]
          exact ⟨fun _ => ij, fun _ => tx_in5 4 (by decide), fun _ _ => hnz, fun _ _ => b3⟩
/-- a lot fed -/
theorem feed_E (hL : L ≤ 260) (hd : d < 1000000) (hn : n ≤ 10) (hP : P ≤ 3) (h1 : 1 ≤ n) (h2 : 1 ≤ P) (h : ti n P dl pl dr le sa) (hw : tw n P pl dr sp ow gr we du sa pr rc) :
    ∃ (rc' pr' : Nat → Nat → Int32) (sa' pl' : Nat → Int32), f_X6_feed (nI d) (nI n) sa pl P pr n rc L xs = (rc', pr', nI (d + 2), sa', pl') ∧ n_X6_feed (nI d) (nI n) sa (nI P) pl dr P pr n rc L xs ∧ ti n P dl pl' dr le sa' ∧ tw n P pl' dr sp ow gr we du sa' pr' rc' := by
  obtain ⟨p, hp, e1⟩ := dr_draw (nI d) L xs (N := P) (by omega) (by omega)
  obtain ⟨k, hk, e2⟩ := dr_draw (nI (d + 1)) L xs (N := n) (by omega) (by omega)
  obtain ⟨j, i', hj, e3, n3⟩ := feed_loop (rc := rc) hn h1 12 0 k hk (by omega) (by omega)
  rw [show nI 0 = 0 from nI_0] at e3 n3
  have s1 : nI d + 1 = nI (d + 1) := nI_1 d
  have s2 : nI (d + 1) + 1 = nI (d + 2) := nI_1 (d + 1)
  have hnz : ¬ nI n = 0 := nI_ne0 (by omega) (by omega)
  have hcj : (nI j).toNatClampNeg = j := nI_clamp (by omega)
  have hcp : (nI p).toNatClampNeg = p := nI_clamp (by omega)
  have n1 : n_X6_draw (nI d) (nI P) L := dr_drawN (by omega) hL (by omega) (by omega)
  have n2 : n_X6_draw (nI (d + 1)) (nI n) L := dr_drawN (by omega) hL (by omega) (by omega)
  obtain ⟨w0, w1, -⟩ := hw.1 p hp
  obtain ⟨-, -, -, -, v4⟩ := hw.2 j hj
  have ip3 : vp_in (nI p) 3 := tx_in3 p (by omega)
  by_cases c0 : sa j = 0 ∧ pl p = -1 ∧ dr p = 0
  · obtain ⟨c1, c2, c3⟩ := c0
    obtain ⟨q1, q2, q3, q4, q5, q6⟩ := h
    have hne : ∀ q, q < P → pl q ≠ nI j := fun q hq e => by
      rcases q3 q hq with a | ⟨j', a1, a2, a3⟩
      · rw [a] at e
        exact wk_neg j (by omega) e.symm
      · have : j = j' := tx_nI (by omega) (by omega) (e.symm.trans a2)
        subst this
        rw [c1] at a3
        exact absurd a3 (by decide)
    have hti : ti n P dl (upd pl p (nI j)) dr le (upd sa j 1) := by
      refine ⟨q1, q2, ?_, ?_, ?_, q6⟩
      · intro q hq
        by_cases e : q = p
        · subst e; exact Or.inr ⟨j, hj, pk_us, pk_us⟩
        · rw [pk_un e]
          rcases q3 q hq with a | ⟨j', a1, a2, a3⟩
          · exact Or.inl a
          · refine Or.inr ⟨j', a1, a2, ?_⟩
            rw [pk_un (fun e9 => by subst e9; rw [c1] at a3; exact absurd a3 (by decide))]
            exact a3
      · intro q q' hq hq' hqq he
        by_cases e : q = p
        · subst e
          rw [pk_us, pk_un (fun e9 => hqq e9.symm)] at he
          exact absurd he.symm (hne q' hq')
        · by_cases e2 : q' = p
          · subst e2
            rw [pk_us, pk_un e] at he
            exact absurd he (hne q hq)
          · rw [pk_un e, pk_un e2] at he
            rw [pk_un e]
            exact q4 q q' hq hq' hqq he
      · intro k hk
        by_cases e : k = j
        · subst e
          rw [pk_us]
          rcases q5 k hk with ⟨-, a⟩ | ⟨a, -⟩
          · exact Or.inl ⟨Or.inr rfl, a⟩
          · rw [c1] at a
            exact absurd a (by decide)
        · rw [pk_un e]; exact q5 k hk
    have htw : tw n P (upd pl p (nI j)) dr sp ow gr we du (upd sa j 1) (vf_upd pr p (upd (pr p) 0 (nI j))) (vf_upd rc j (upd (rc j) 4 1)) := by
      obtain ⟨y0, y1, y2⟩ := hw.1 p hp
      exact tw_k (tw_p hw (fun q e => ⟨pk_un e, rfl, rfl⟩) ⟨pk_us.trans pk_us.symm, (pk_un (by decide)).trans y1, (pk_un (by decide)).trans y2⟩)
    obtain ⟨z1, z2, z3⟩ := dr_countE (sa := upd sa j 1) (rc := vf_upd rc j (upd (rc j) 4 1)) hn (fun k hk => (htw.2 k hk).2.2.2.2) 0
    have d1 : ¬ (0 : Int32) ≤ pr p 0 := by rw [w0, c2]; decide
    have d2 : pr p 1 ≤ 0 := by rw [w1, c3]; decide
    have d3 : rc j 4 = 0 := v4.trans c1
    refine ⟨vf_upd rc j (upd (rc j) 4 1), vf_upd pr p (upd (pr p) 0 (nI j)), upd sa j 1, upd pl p (nI j), ?_, ?_, hti, htw⟩
    · unfold f_X6_feed
      rw [if_neg hnz, s1, e2, e3, e1]
      try dsimp only
      rw [hcj, hcp, tx_c4, if_pos d3, tx_c0, if_neg d1, tx_c1, if_pos d2, s2]
      unfold f_X5_feed
      rw [hcj, hcp]
    · unfold n_X6_feed
      rw [s1, e2, e3, e1, hcp]
      refine ⟨fun _ => n1, fun _ => n2, fun _ => n3, fun _ x y e => ?_, fun _ x y e => tx_in5 4 (by decide), fun _ x y e _ => vp_in_nI hp (by omega), fun _ x y e _ => tx_in3 0 (by decide), fun _ x y e _ _ => tx_in3 1 (by decide), fun _ x y e _ _ _ => ?_, fun _ x y e _ _ _ r u v e9 => ?_, fun _ x y e _ _ _ r u v e9 => ?_⟩
      all_goals injection e with e7 e8; subst e7
      · exact vp_in_nI hj (by omega)
      · refine ⟨tx_has2 hp hP, tx_has0 hj hn, ?_, ?_, vp_in_nI (by omega) (by decide), ip3, ip3, ?_⟩
        · rw [hcj]; exact c1
        · unfold f_X2_isFree
          rw [hcp, if_pos c2, if_pos c3]
          decide
        · rw [hcj]; exact z3
      · rw [hcj, tx_c4]; exact z2
      · have e10 : (r, u, v) = (f_X0_countOf (nI n) (upd sa (nI j).toNatClampNeg 1) 0, upd sa (nI j).toNatClampNeg 1, upd pl (nI p).toNatClampNeg (nI j)) := e9
        injection e10 with e11
        rw [e11, hcj, tx_c4]; exact z1.symm
  · have hno : ¬ (rc j 4 = 0 ∧ ¬ (0 : Int32) ≤ pr p 0 ∧ pr p 1 ≤ 0) := fun ⟨a1, a2, a3⟩ => c0 ⟨v4.symm.trans a1, by
        rcases h.2.2.1 p hp with a | ⟨j', b1, b2, b3⟩
        · exact a
        · rw [w0, b2] at a2
          exact absurd (nI_pos' (by omega)) a2, by
        obtain ⟨c, hc, e⟩ := h.2.2.2.2.2 p
        rw [w1, e] at a3
        have : c ≤ 0 := (nI_leI (b := 0) (by omega) (by decide)).mp a3
        rw [e, show c = 0 by omega]
        exact nI_0⟩
    refine ⟨rc, pr, sa, pl, ?_, ?_, h, hw⟩
    · unfold f_X6_feed
      rw [if_neg hnz, s1, e2, e3, e1]
      try dsimp only
      rw [hcj, hcp, tx_c4, tx_c0, tx_c1, s2]
      by_cases a1 : rc j 4 = 0
      · rw [if_pos a1]
        by_cases a2 : (0 : Int32) ≤ pr p 0
        · rw [if_pos a2]
        · rw [if_neg a2, if_neg (fun a3 => hno ⟨a1, a2, a3⟩)]
      · rw [if_neg a1]
    · unfold n_X6_feed
      rw [s1, e2, e3, e1, hcp]
      refine ⟨fun _ => n1, fun _ => n2, fun _ => n3, fun _ x y e => ?_, fun _ x y e => tx_in5 4 (by decide), fun _ x y e _ => vp_in_nI hp (by omega), fun _ x y e _ => tx_in3 0 (by decide), fun _ x y e _ _ => tx_in3 1 (by decide), fun _ x y e a1 a2 a3 => ?_, fun _ x y e a1 a2 a3 r u v e9 => ?_, fun _ x y e a1 a2 a3 r u v e9 => ?_⟩
      all_goals injection e with e7 e8; subst e7
      · exact vp_in_nI hj (by omega)
      all_goals
        rw [hcj, tx_c4] at a1
        exact absurd ⟨a1, a2, a3⟩ hno
/-- a lot taken off -/
theorem take_E (hL : L ≤ 260) (hd : d < 1000000) (hn : n ≤ 10) (hP : P ≤ 3) (h2 : 1 ≤ P) (h : ti n P dl pl dr le sa) (hw : tw n P pl dr sp ow gr we du sa pr rc) :
    ∃ (rc' pr' : Nat → Nat → Int32) (sa' pl' : Nat → Int32), f_X6_take (nI d) sa pl P pr rc L xs = (rc', pr', nI (d + 1), sa', pl') ∧ n_X6_take (nI d) (nI n) sa (nI P) pl P pr n L xs ∧ ti n P dl pl' dr le sa' ∧ tw n P pl' dr sp ow gr we du sa' pr' rc' := by
  obtain ⟨p, hp, e1⟩ := dr_draw (nI d) L xs (N := P) (by omega) (by omega)
  have s1 : nI d + 1 = nI (d + 1) := nI_1 d
  have hcp : (nI p).toNatClampNeg = p := nI_clamp (by omega)
  have n1 : n_X6_draw (nI d) (nI P) L := dr_drawN (by omega) hL (by omega) (by omega)
  obtain ⟨w0, w1, w2⟩ := hw.1 p hp
  have ip3 : vp_in (nI p) 3 := tx_in3 p (by omega)
  rcases h.2.2.1 p hp with c2 | ⟨j, hj, c2, c1⟩
  · have d1 : ¬ (0 : Int32) ≤ pr p 0 := by rw [w0, c2]; decide
    refine ⟨rc, pr, sa, pl, ?_, ?_, h, hw⟩
    · unfold f_X6_take
      rw [e1, hcp, tx_c0, if_neg d1, s1]
    · unfold n_X6_take
      rw [e1, hcp, tx_c0]
      exact ⟨n1, vp_in_nI hp (by omega), tx_in3 0 (by decide), fun c => absurd c d1, fun c => absurd c d1, fun c => absurd c d1, fun c => absurd c d1⟩
  · have hcj : (nI j).toNatClampNeg = j := nI_clamp (by omega)
    have v0 : pr p 0 = nI j := w0.trans c2
    have d1 : (0 : Int32) ≤ nI j := nI_pos' (by omega)
    have E : f_X5_take sa pl (nI p) = (nI j, upd sa j 0, upd pl p (-1)) := by
      unfold f_X5_take
      rw [hcp, c2, hcj]
    obtain ⟨q1, q2, q3, q4, q5, q6⟩ := h
    refine ⟨vf_upd rc j (upd (rc j) 4 0), vf_upd pr p (upd (pr p) 0 (-1)), upd sa j 0, upd pl p (-1), ?_, ?_, ⟨q1, q2, ?_, ?_, ?_, q6⟩, tw_k (tw_p hw (fun q e => ⟨pk_un e, rfl, rfl⟩) ⟨pk_us.trans pk_us.symm, (pk_un (by decide)).trans w1, (pk_un (by decide)).trans w2⟩)⟩
    · unfold f_X6_take
      rw [e1, hcp, tx_c0, v0, if_pos d1, E, hcj, s1]
      rfl
    · unfold n_X6_take
      rw [e1, hcp, tx_c0, v0]
      refine ⟨n1, vp_in_nI hp (by omega), tx_in3 0 (by decide), fun _ => vp_in_nI hj (by omega), fun _ => tx_in5 4 (by decide), fun _ => ⟨tx_has2 hp hP, ?_, ip3, ?_⟩, fun _ r u v e9 => ?_⟩
      · rw [hcp, c2]; exact tx_has0 hj hn
      · rw [hcp, c2]; exact vp_in_nI (by omega) (by decide)
      · rw [E] at e9
        injection e9
    · intro q hq
      by_cases e : q = p
      · subst e; exact Or.inl pk_us
      · rw [pk_un e]
        rcases q3 q hq with a | ⟨j', a1, a2, a3⟩
        · exact Or.inl a
        · refine Or.inr ⟨j', a1, a2, ?_⟩
          rw [pk_un (fun e9 => by
            subst e9
            have := q4 q p hq hp e (a2.trans c2.symm)
            rw [a2] at this
            exact wk_neg _ (by omega) this)]
          exact a3
    · intro q q' hq hq' hqq he
      by_cases e : q = p
      · subst e; exact pk_us
      · by_cases e2 : q' = p
        · subst e2; rw [he]; exact pk_us
        · rw [pk_un e, pk_un e2] at he
          rw [pk_un e]
          exact q4 q q' hq hq' hqq he
    · intro k hk
      by_cases e : k = j
      · subst e
        rw [pk_us]
        rcases q5 k hk with ⟨-, a⟩ | ⟨a, -⟩
        · exact Or.inl ⟨Or.inl rfl, a⟩
        · rw [c1] at a
          exact absurd a (by decide)
      · rw [pk_un e]; exact q5 k hk
end
