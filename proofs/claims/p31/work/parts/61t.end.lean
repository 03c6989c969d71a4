/-! what is asked of a mill, how it is founded, and how the tries end -/
theorem ez_fr0 : fr 0 8 := ⟨fok_0, by rw [zf_0]; decide, by rw [zf_0]; exact Int.mul_nonneg (by decide) (Int.natCast_nonneg _)⟩
theorem ez_lr0 : lr 0 := ⟨dok_0, by decide +kernel, by rw [zdz_0]; exact Int.mul_nonneg (by decide) (Int.le_of_lt fl_E_pos)⟩
/-- the mill as it is founded -/
theorem fo_ok {L : Nat} {xs : Nat → Int32} {D : Nat} (hL : L ≤ 260) (hD : D ≤ 1000) :
    ∃ (rc' pr' : Nat → Nat → Int32) (d' m' g' s' : Nat) (le' : Nat → UInt64) (ow' gr' we' du' sa' pl' : Nat → Int32),
      f_X6_founded (nI D) 0 (fun _ => (0 : UInt64)) 0 0 0 0 (fun _ => (0 : Int32)) (fun _ => (0 : Int32)) (fun _ => (0 : Int32)) (fun _ => (0 : Int32)) (fun _ => (0 : Int32)) (fun _ => (0 : UInt64)) 0 (fun _ => (0 : Int32)) 0 (fun _ _ => (0 : Int32)) 0 (fun _ _ => (0 : Int32)) L xs = (rc', pr', nI d', nI m', nI g', nI s', le', nI m', nI g', nI s', nI 3, ow', gr', we', du', sa', le', nI 2, pl') ∧
      n_X6_founded (nI D) 0 0 0 0 (fun _ => (0 : UInt64)) 0 0 0 0 0 (fun _ => (0 : Int32)) (fun _ => (0 : Int32)) (fun _ => (0 : Int32)) (fun _ => (0 : Int32)) (fun _ => (0 : Int32)) (fun _ => (0 : UInt64)) 0 (fun _ => (0 : Int32)) (fun _ => (0 : Int32)) 0 (fun _ _ => (0 : Int32)) 0 (fun _ _ => (0 : Int32)) L xs ∧
      rl (D + 30) 0 ((0, 47, m', g', s', 3, 2, 0, 0, gr'), (0, nI 0, 0, 0, 0, sa', le', fun _ => (0 : UInt32), pl', fun _ => (0 : Int32), fun _ => (0 : Int32)), (d', 0, 0, 0, ow', we', du', pr', rc')) := by
  have z0 : nI 0 = 0 := nI_0
  have h0 : ti 0 0 (fun _ => (0 : UInt32)) (fun _ => (0 : Int32)) (fun _ => (0 : Int32)) (fun _ => (0 : UInt64)) (fun _ => (0 : Int32)) :=
    ⟨fun _ => ez_fr0, fun _ => ez_lr0, fun p hp => absurd hp (Nat.not_lt_zero p), fun p q hp => absurd hp (Nat.not_lt_zero p), fun k hk => absurd hk (Nat.not_lt_zero k), fun _ => ⟨0, by decide, z0.symm⟩⟩
  have w0 : tw 0 0 (fun _ => (0 : Int32)) (fun _ => (0 : Int32)) (fun _ => (0 : Int32)) (fun _ => (0 : Int32)) (fun _ => (0 : Int32)) (fun _ => (0 : Int32)) (fun _ => (0 : Int32)) (fun _ => (0 : Int32)) (fun _ _ => (0 : Int32)) (fun _ _ => (0 : Int32)) :=
    ⟨fun p hp => absurd hp (Nat.not_lt_zero p), fun k hk => absurd hk (Nat.not_lt_zero k)⟩
  obtain ⟨pr1, F1, N1, t1, v1⟩ := pair_E (P := 0) (by decide) h0 w0 rfl rfl
  obtain ⟨pr2, F2, N2, t2, v2⟩ := pair_E (P := 1) (by decide) t1 v1 rfl rfl
  obtain ⟨rc3, d3, le3, ow3, gr3, we3, du3, sa3, e3, F3, N3, t3, v3, g3, b3, u3, -⟩ := lot_E (L := L) (xs := xs) (d := D) (t := 0) (n := 0) hL (by omega) (by omega) (by omega) t2 v2 (fun k hk => absurd hk (Nat.not_lt_zero k)) (fun k hk => absurd hk (Nat.not_lt_zero k)) (fun k hk => absurd hk (Nat.not_lt_zero k))
  obtain ⟨rc4, d4, le4, ow4, gr4, we4, du4, sa4, e4, F4, N4, t4, v4, g4, b4, u4, -⟩ := lot_E (L := L) (xs := xs) (d := d3) (t := 0) (n := 1) hL (by omega) (by omega) (by omega) t3 v3 g3 b3 u3
  obtain ⟨rc5, d5, le5, ow5, gr5, we5, du5, sa5, e5, F5, N5, t5, v5, g5, b5, u5, -⟩ := lot_E (L := L) (xs := xs) (d := d4) (t := 0) (n := 2) hL (by omega) (by omega) (by omega) t4 v4 g4 b4 u4
  obtain ⟨rc6, pr6, sa6, pl6, F6, N6, t6, v6⟩ := feed_E (L := L) (xs := xs) (d := d5) (n := 3) (P := 2) hL (by omega) (by decide) (by decide) (by decide) (by decide) t5 v5
  obtain ⟨d7, m7, e7, l7, F7, N7⟩ := mo_E (L := L) (xs := xs) (d := d5 + 2) (t := 0) hL (by omega) (by omega)
  obtain ⟨g8, l8, F8, N8⟩ := ga_E (L := L) (xs := xs) (d := d7) hL (by omega) 0
  obtain ⟨s9, l9, F9, N9⟩ := sl_E (L := L) (xs := xs) (d := d7 + 1) hL (by omega) 0
  have z1 : nI (0 + 1) = nI 1 := rfl
  have one : ¬ (1 : Nat) = 0 := by decide
  rw [z0] at F1 N1 F3 N3 F4 N4 F5 N5 F7 N7
  refine ⟨rc6, pr6, d7 + 1 + 1, m7, g8, s9, le5, ow5, gr5, we5, du5, sa6, pl6, ?_, ?_, ?_⟩
  · unfold f_X6_founded
    rw [F1]
    try dsimp only
    rw [show (0 + 1 : Nat) = 1 from rfl, F2]
    try dsimp only
    rw [F3]
    try dsimp only
    rw [show (0 + 1 : Nat) = 1 from rfl, F4]
    try dsimp only
    rw [show (1 + 1 : Nat) = 2 from rfl, F5]
    try dsimp only
    rw [show (2 + 1 : Nat) = 3 from rfl, F6]
    try dsimp only
    rw [F7]
    try dsimp only
    rw [F8]
    try dsimp only
    rw [F9]
  · have N2' : n_X6_pair (nI 1) (upd (fun _ => (0 : Int32)) 0 (-1)) 1 := N2
    unfold n_X6_founded
    rw [F1]
    refine ⟨N1, fun _ _ _ _ => one, ?_, ?_, ?_, ?_, ?_, ?_, ?_, ?_⟩
    all_goals
      intro a1 a2 a3 e
      cases e
    · exact N2'
    all_goals
      rw [show (0 + 1 : Nat) = 1 from rfl, F2]
      intro a4 a5 a6 e
      cases e
    · exact N3
    all_goals
      rw [F3]
      intro b1 b2 b3 b4 b5 b6 b7 b8 b9 b10 e
      cases e
    · exact N4
    all_goals
      rw [F4]
      intro c1 c2 c3 c4 c5 c6 c7 c8 c9 c10 e
      cases e
    · exact N5
    all_goals
      rw [show (1 + 1 : Nat) = 2 from rfl, F5]
      intro f1 f2 f3 f4 f5 f6 f7 f8 f9 f10 e
      cases e
    · exact N6
    all_goals
      rw [show (2 + 1 : Nat) = 3 from rfl, F6]
      intro i1 i2 i3 i4 i5 e
      cases e
    · exact N7
    all_goals
      rw [F7]
      intro j1 j2 j3 e
      cases e
    · exact N8
    · rw [F8]
      intro k1 k2 k3 e
      cases e
      exact N9
  · refine ⟨rfl, by omega, by omega, ⟨l7, vc_0.w (by decide) (by decide), l8, l9, (show 0 < 48 by decide), (show 47 < 48 by decide), (show 3 ≤ 10 by decide), (show 2 ≤ 3 by decide), g5⟩, by decide, by decide, Or.inl rfl, dok_0, ⟨vc_0.w (by decide) (by decide), ⟨fok_0, by rw [zf_0]; decide, by rw [zf_0]; exact Int.mul_nonneg (by decide) (Int.natCast_nonneg _)⟩, vc_0.w (by decide) (by decide), t6⟩, v6, b5, u5⟩
section
variable {L : Nat} {xs : Nat → Int32} {a b m g s n P d t : Nat} {sc ee pu : Int32} {su lv fo to : UInt64} {si : UInt32} {ow gr we du sa pl dr sp : Nat → Int32} {le : Nat → UInt64} {dl : Nat → UInt32} {pr rc : Nat → Nat → Int32} {tk : Int32} {D T : Nat}
theorem lg_zz (z : Int64) : lg_cmp z z = 0 := by
  unfold lg_cmp
  simp
/-- digest, best and when a lot is done, asked -/
theorem ask_ok (hL : L ≤ 260) (hD : D ≤ 900000) (hT : T ≤ 4500) (h : rl D T ((a, b, m, g, s, n, P, su, sc, gr), (ee, tk, lv, si, fo, sa, le, dl, pl, dr, sp), (d, t, pu, to, ow, we, du, pr, rc))) :
    ∃ (y j k : Nat), 1 ≤ y ∧ y ≤ 48 ∧ j < n ∧ k ≤ 4 ∧ 1 + (f_X6_draw (nI d) 48 L xs).1 = nI y ∧ (f_X6_draw (nI d + 1) (nI n) L xs).1 = nI j ∧
      f_X5_best (nI a) (nI b) ee (nI t) (nI m) su lv si (nI g) sc fo (nI n) gr sa le (nI P) dl pl dr sp (nI y) = nI k ∧
      (∀ i, i ≤ 4 → zd (tK (a, b, m, g, s, n, P, su, sc, gr) y (ee, nI t, lv, si, fo, sa, le, dl, pl, dr, sp) k) ≤ zd (tK (a, b, m, g, s, n, P, su, sc, gr) y (ee, nI t, lv, si, fo, sa, le, dl, pl, dr, sp) i)) ∧
      (∀ i, i < k → zd (tK (a, b, m, g, s, n, P, su, sc, gr) y (ee, nI t, lv, si, fo, sa, le, dl, pl, dr, sp) k) < zd (tK (a, b, m, g, s, n, P, su, sc, gr) y (ee, nI t, lv, si, fo, sa, le, dl, pl, dr, sp) i)) ∧
      n_bask (nI d) 0 0 pu to (nI a) (nI b) ee (nI t) (nI m) su lv si (nI g) (nI s) sc fo (nI n) ow gr we du sa le (nI P) dl pl dr sp n L xs := by
  obtain ⟨htk, hd, ht, hp, h1, h2, hsc, hto, hps, htw, hwe, hdu⟩ := h
  have hn : n ≤ 10 := hp.2.2.2.2.2.2.1
  have hq : tI (a, b, m, g, s, n, P, su, sc, gr) t (ee, nI t, lv, si, fo, sa, le, dl, pl, dr, sp) := ⟨rfl, hps⟩
  obtain ⟨y, hy, e1⟩ := dr_draw (nI d) L xs (N := 48) (by decide) (by decide)
  obtain ⟨j, hj, e2⟩ := dr_draw (nI d + 1) L xs (N := n) (by omega) (by omega)
  have e1' : (f_X6_draw (nI d) 48 L xs).1 = nI y := e1
  have a1 : (1 : Int32) + nI y = nI (1 + y) := nI_add 1 y
  have s1 : nI d + 1 = nI (d + 1) := nI_1 d
  obtain ⟨k, k4, kE, kle, klt, kN⟩ := tB_ok hp hsc (T := 1 + y) (by omega) (by omega : t + (1 + y) < 6900) hq
  obtain ⟨uN, -⟩ := tU_ok hp hsc (j := j) hj (by omega : t + 300 < 6900) hq
  have dN := nd_all hp hsc (by omega : t ≤ 6000) hq hto 0 0 pu ow we du
  have kE' : f_X5_best (nI a) (nI b) ee (nI t) (nI m) su lv si (nI g) sc fo (nI n) gr sa le (nI P) dl pl dr sp (nI (1 + y)) = nI k := kE
  refine ⟨1 + y, j, k, by omega, by omega, hj, k4, by rw [e1', a1], e2, kE', kle, klt, ?_⟩
  unfold n_bask
  rw [e1', a1, e2, kE']
  refine ⟨dr_drawN (N := 48) (by omega) hL (by decide) (by decide), ?_, dN, ⟨iw_k (A := 1) (B := 48) (by omega) (by omega) (by decide), kN⟩, ⟨tx_has0 hj hn, uN⟩, nI_pos (by omega), nI_nlt (a := 4) (by omega) (by decide), ?_⟩
  · rw [s1]; exact dr_drawN (by omega) hL (by omega) (by omega)
  · exact lg_zz _
theorem lk3 : ∀ g, g ≤ 3 → ¬ f_X5_isWithin (3 - nI g) 0 3 = 0 := by decide +kernel
/-- locked gates stay as they are -/
theorem lk_ok (hg : g ≤ 3) (hn : n ≤ 10) (hP : P ≤ 3) : n_blk (-1) 0 0 0 pu (nI a) (nI b) ee (nI t) (nI m) (nI g) (nI s) (nI n) sa (nI P) sp ∧ f_L_isLocked 0 0 0 pu (nI a) (nI b) ee (nI t) (nI m) (nI g) (nI s) (nI n) sa (nI P) sp = (1, 0) := by
  have M4 : ∀ lk, f_X5_many lk 0 pu (nI a) (nI b) ee (nI t) (nI m) (nI g) (nI s) (nI n) sa (nI P) sp 4 = nI g := fun lk => by
    unfold f_X5_many f_X5_manyAnswer
    rw [if_neg (by decide), if_neg (by decide), if_neg (by decide), if_neg (by decide), if_pos rfl]
  have M16 : f_X5_many 1 0 pu (nI a) (nI b) ee (nI t) (nI m) (nI g) (nI s) (nI n) sa (nI P) sp 16 = 1 := by
    unfold f_X5_many f_X5_manyAnswer
    rw [if_neg (by decide), if_neg (by decide), if_neg (by decide), if_neg (by decide), if_neg (by decide), if_neg (by decide), if_neg (by decide), if_neg (by decide), if_neg (by decide), if_neg (by decide), if_neg (by decide), if_neg (by decide), if_neg (by decide), if_neg (by decide), if_neg (by decide), if_neg (by decide), if_neg (by decide)]
  have NM : ∀ x, ¬ f_X5_isWithin x 0 16 = 0 → n_X5_many (nI n) sa (nI P) sp x := fun x hx => ⟨hx, nd_many hn hP x⟩
  have b0 : tm_bool 0 := Or.inl rfl
  have b1 : tm_bool 1 := Or.inr rfl
  have E : f_L_isLocked 0 0 0 pu (nI a) (nI b) ee (nI t) (nI m) (nI g) (nI s) (nI n) sa (nI P) sp = (1, 0) := by
    unfold f_L_isLocked f_X5_lock f_X5_gates_l
    try dsimp only
    rw [M4, M4, if_pos rfl, M16, if_pos rfl, if_neg (by decide)]
  refine ⟨?_, E⟩
  unfold n_blk
  rw [E]
  refine ⟨by decide, ?_, fun r u e => by cases e; decide⟩
  unfold n_L_isLocked
  refine ⟨NM 4 (by decide), ⟨b1, b0⟩, ?_, ?_, ?_, ?_, ?_, ?_, ?_⟩
  all_goals
    intro r u e
    have e' : (r, u) = (0, 1) := e
    cases e'
  · rw [M4]; exact ⟨lk3 g hg, by decide⟩
  · exact fun _ => ⟨b0, b1⟩
  · exact fun _ => NM 16 (by decide)
  · exact fun _ _ => ⟨b0, b1⟩
  · exact fun _ _ => ⟨b0, b1⟩
  · intro _ _ r u e _
    have e' : (r, u) = (1, 0) := e
    cases e'
    exact ⟨b0, b0⟩
  · intro _ _ r u e _
    have e' : (r, u) = (1, 0) := e
    cases e'
    exact ⟨b0, b0⟩
end
/-- ticks passed by the class -/
def tP (p : TP) (T : Int32) : tq → Int32 × Int32 × Int32 × UInt64 × UInt32 × UInt64 × (Nat → Int32) × (Nat → UInt64) × (Nat → UInt32) × (Nat → Int32) × (Nat → Int32) × (Nat → Int32)
  | (ee, tk, lv, si, fo, sa, le, dl, pl, dr, sp) => f_X5_pass (nI p.a) (nI p.b) ee tk (nI p.m) p.su lv si (nI p.g) (nI p.s) p.sc fo (nI p.n) p.gr sa le (nI p.P) dl pl dr sp T
def tPN (p : TP) (T : Int32) : tq → Prop
  | (ee, tk, lv, si, fo, sa, le, dl, pl, dr, sp) => n_X5_pass (nI p.a) (nI p.b) ee tk (nI p.m) p.su lv si (nI p.g) (nI p.s) p.sc fo (nI p.n) p.gr sa le (nI p.P) dl pl dr sp T
theorem tP_e {p : TP} {T : Int32} {ee tk : Int32} {lv fo : UInt64} {si : UInt32} {sa pl dr sp : Nat → Int32} {le : Nat → UInt64} {dl : Nat → UInt32} : tP p T (ee, tk, lv, si, fo, sa, le, dl, pl, dr, sp) = f_X5_pass (nI p.a) (nI p.b) ee tk (nI p.m) p.su lv si (nI p.g) (nI p.s) p.sc fo (nI p.n) p.gr sa le (nI p.P) dl pl dr sp T := rfl
theorem tPN_e {p : TP} {T : Int32} {ee tk : Int32} {lv fo : UInt64} {si : UInt32} {sa pl dr sp : Nat → Int32} {le : Nat → UInt64} {dl : Nat → UInt32} : tPN p T (ee, tk, lv, si, fo, sa, le, dl, pl, dr, sp) = n_X5_pass (nI p.a) (nI p.b) ee tk (nI p.m) p.su lv si (nI p.g) (nI p.s) p.sc fo (nI p.n) p.gr sa le (nI p.P) dl pl dr sp T := rfl
theorem tP_ok {p : TP} (hp : p.ok) {T : Nat} (h1 : 1 ≤ T) (hT : T ≤ 100) {t : Nat} (ht : t + T ≤ 5000) : ∀ {q : tq}, tI p t q → (∃ r, tP p (nI T) q = (r, itG p T q)) ∧ tPN p (nI T) q := by
  rintro ⟨ee, tk, lv, si, fo, sa, le, dl, pl, dr, sp⟩ h
  obtain ⟨a1, a2⟩ := tL_ok hp (by omega : T ≤ 1000) T 0 t 102 _ (by omega) (by omega) (by omega) h
  rw [show nI 0 = 0 from nI_0, tL_e] at a1
  rw [show nI 0 = 0 from nI_0, tLN_e] at a2
  have htk : tk = nI t := h.1
  have hn : p.n ≤ 10 := hp.2.2.2.2.2.2.1
  generalize itG p T (ee, tk, lv, si, fo, sa, le, dl, pl, dr, sp) = z at *
  obtain ⟨ee1, tk1, lv1, si1, fo1, sa1, le1, dl1, pl1, dr1, sp1⟩ := z
  refine ⟨⟨f_X0_countOf (nI p.n) sa1 2, ?_⟩, ?_⟩
  · rw [tP_e]
    unfold f_X5_pass f_X1_letGoBy
    rw [a1]
  · rw [tPN_e]
    unfold n_X5_pass
    refine ⟨iw_k (A := 1) (B := 100) h1 hT (by decide), ?_, a2, ?_⟩
    · rw [htk, nI_add]
      exact nI_le (b := 5000) ht (by decide)
    · intro u1 u2 u3 u4 u5 u6 u7 u8 u9 u10 u11 e
      exact nd_cnt hn 2
def tE (p : TP) (fuel : Nat) (c : Int32) : tq → Int32 × tq
  | (ee, tk, lv, si, fo, sa, le, dl, pl, dr, sp) => f_bdn_168 (nI p.a) (nI p.b) (nI p.m) p.su (nI p.g) (nI p.s) p.sc (nI p.n) p.gr (nI p.P) fuel c ee tk lv si fo sa le dl pl dr sp
def tEN (p : TP) (fuel : Nat) (c : Int32) : tq → Prop
  | (ee, tk, lv, si, fo, sa, le, dl, pl, dr, sp) => n_bdn_168 (nI p.a) (nI p.b) (nI p.m) p.su (nI p.g) (nI p.s) p.sc (nI p.n) p.gr (nI p.P) fuel c ee tk lv si fo sa le dl pl dr sp
theorem tE_e {p : TP} {fuel : Nat} {c : Int32} {ee tk : Int32} {lv fo : UInt64} {si : UInt32} {sa pl dr sp : Nat → Int32} {le : Nat → UInt64} {dl : Nat → UInt32} : tE p fuel c (ee, tk, lv, si, fo, sa, le, dl, pl, dr, sp) = f_bdn_168 (nI p.a) (nI p.b) (nI p.m) p.su (nI p.g) (nI p.s) p.sc (nI p.n) p.gr (nI p.P) fuel c ee tk lv si fo sa le dl pl dr sp := rfl
theorem tEN_e {p : TP} {fuel : Nat} {c : Int32} {ee tk : Int32} {lv fo : UInt64} {si : UInt32} {sa pl dr sp : Nat → Int32} {le : Nat → UInt64} {dl : Nat → UInt32} : tEN p fuel c (ee, tk, lv, si, fo, sa, le, dl, pl, dr, sp) = n_bdn_168 (nI p.a) (nI p.b) (nI p.m) p.su (nI p.g) (nI p.s) p.sc (nI p.n) p.gr (nI p.P) fuel c ee tk lv si fo sa le dl pl dr sp := rfl
theorem e50a : ∀ c, c ≤ 50 → nI c + (-50) ≤ 0 := by decide +kernel
theorem e50b : ∀ c, c ≤ 300 → 50 ≤ c → nI c + (-50) = nI (c - 50) := by decide +kernel
theorem tE_z {p : TP} {f : Nat} {c : Int32} (hc : c ≤ 0) : ∀ {q : tq}, tE p (f + 1) c q = (c, q) ∧ tEN p (f + 1) c q := by
  rintro ⟨ee, tk, lv, si, fo, sa, le, dl, pl, dr, sp⟩
  refine ⟨?_, ?_⟩
  · rw [tE_e, f_bdn_168.eq_2, if_pos hc]
  · rw [tEN_e, n_bdn_168.eq_2]
    exact ⟨fun h => absurd hc h, fun h => absurd hc h⟩
theorem tE_s {p : TP} (hp : p.ok) {f c T t : Nat} (hc : 0 < c) (hc3 : c ≤ 300) (hT : T = min c 50) (ht : t + T ≤ 5000) : ∀ {q : tq}, tI p t q → tE p (f + 1) (nI c) q = tE p f (nI c + (-50)) (itG p T q) ∧ (tEN p f (nI c + (-50)) (itG p T q) → tEN p (f + 1) (nI c) q) := by
  rintro ⟨ee, tk, lv, si, fo, sa, le, dl, pl, dr, sp⟩ h
  obtain ⟨⟨r, a1⟩, a2⟩ := tP_ok hp (by omega : 1 ≤ T) (by omega) ht h
  have hne : ¬ nI c ≤ 0 := nI_nle hc (by omega)
  have hm : (if 50 < nI c then 50 else nI c) = nI T := by
    by_cases c5 : 50 < c
    · have q : (50 : Int32) < nI c := nI_lt (a := 50) c5 (by omega)
      rw [if_pos q, hT, Nat.min_eq_right (by omega)]
      rfl
    · have q : ¬ (50 : Int32) < nI c := nI_nlt (a := 50) (by omega) (by decide)
      rw [if_neg q, hT, Nat.min_eq_left (by omega)]
  rw [tP_e] at a1
  rw [tPN_e] at a2
  generalize itG p T (ee, tk, lv, si, fo, sa, le, dl, pl, dr, sp) = z at *
  obtain ⟨ee1, tk1, lv1, si1, fo1, sa1, le1, dl1, pl1, dr1, sp1⟩ := z
  refine ⟨?_, fun k => ?_⟩
  · rw [tE_e, tE_e, f_bdn_168.eq_2, if_neg hne, hm, a1]
  · rw [tEN_e] at k
    rw [tEN_e, n_bdn_168.eq_2, hm]
    refine ⟨fun _ => a2, fun _ => ?_⟩
    intro r5 u6 u7 u8 u9 u10 u11 u12 u13 u14 u15 u16 e
    rw [a1] at e
    cases e
    exact k
theorem tE_ok {p : TP} (hp : p.ok) : ∀ (f c t : Nat) (q : tq), c ≤ 50 * f → c ≤ 300 → t + c ≤ 5000 → tI p t q → (∃ i, tE p (f + 1) (nI c) q = (i, itG p c q)) ∧ tEN p (f + 1) (nI c) q := by
  intro f
  induction f with
  | zero =>
    intro c t q hc h3 ht h
    have e : c = 0 := by omega
    subst e
    obtain ⟨a1, a2⟩ := tE_z (p := p) (f := 0) (c := nI 0) (by decide) (q := q)
    exact ⟨⟨_, a1⟩, a2⟩
  | succ f ih =>
    intro c t q hc h3 ht h
    by_cases e : c = 0
    · subst e
      obtain ⟨a1, a2⟩ := tE_z (p := p) (f := f + 1) (c := nI 0) (by decide) (q := q)
      exact ⟨⟨_, a1⟩, a2⟩
    · by_cases c5 : c ≤ 50
      · obtain ⟨a1, a2⟩ := tE_s hp (f := f + 1) (c := c) (T := c) (by omega) h3 (Nat.min_eq_left c5).symm ht h
        obtain ⟨b1, b2⟩ := tE_z (p := p) (f := f) (c := nI c + (-50)) (e50a c c5) (q := itG p c q)
        exact ⟨⟨_, a1.trans b1⟩, a2 b2⟩
      · obtain ⟨a1, a2⟩ := tE_s hp (f := f + 1) (c := c) (T := 50) (by omega) h3 (Nat.min_eq_right (by omega)).symm (by omega) h
        obtain ⟨i1, -⟩ := itG_ok hp 50 (by omega) h
        obtain ⟨⟨i, b1⟩, b2⟩ := ih (c - 50) (t + 50) (itG p 50 q) (by omega) (by omega) (by omega) i1
        rw [e50b c h3 (by omega)] at a1 a2
        refine ⟨⟨i, ?_⟩, a2 b2⟩
        rw [a1, b1, ← itG_add, show 50 + (c - 50) = c by omega]
