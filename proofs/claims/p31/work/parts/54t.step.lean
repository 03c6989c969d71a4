/-! the acts, as steps of one state -/
abbrev TS := TP × tq × (Nat × Nat × Int32 × UInt64 × (Nat → Int32) × (Nat → Int32) × (Nat → Int32) × (Nat → Nat → Int32) × (Nat → Nat → Int32))
/-- both sides stand alike -/
def rl (D T : Nat) : TS → Prop
  | ((a, b, m, g, s, n, P, su, sc, gr), (ee, tk, lv, si, fo, sa, le, dl, pl, dr, sp), (d, t, pu, to, ow, we, du, pr, rc)) => tk = nI t ∧ d ≤ D ∧ t ≤ T ∧ TP.ok (a, b, m, g, s, n, P, su, sc, gr) ∧ 1 ≤ n ∧ 1 ≤ P ∧ tm_bool sc ∧ dok to ∧ ps n P lv si fo dl pl dr le sa ∧ tw n P pl dr sp ow gr we du sa pr rc ∧ (∀ k, k < n → ∃ w, 1 ≤ w ∧ w ≤ 60 ∧ we k = nI w) ∧ (∀ k, k < n → ∃ u, u ≤ 1000 ∧ du k = nI u)
def st_0 (L : Nat) (xs : Nat → Int32) (x2 : TS) : TS → Prop
  | ((a, b, m, g, s, n, P, su, sc, gr), (ee, tk, lv, si, fo, sa, le, dl, pl, dr, sp), (d, t, pu, to, ow, we, du, pr, rc)) => ∃ (d2 : Nat) (m2 : Nat), n_ba0 (nI d) (nI t) (nI t) L xs ∧ f_X6_act_0 (nI d) (nI t) L xs = (nI d2, nI m2, nI m2) ∧ x2 = ((a, b, m2, g, s, n, P, su, sc, gr), (ee, nI t, lv, si, fo, sa, le, dl, pl, dr, sp), (d2, t, pu, to, ow, we, du, pr, rc))
def st_1 (L : Nat) (xs : Nat → Int32) (x2 : TS) : TS → Prop
  | ((a, b, m, g, s, n, P, su, sc, gr), (ee, tk, lv, si, fo, sa, le, dl, pl, dr, sp), (d, t, pu, to, ow, we, du, pr, rc)) => ∃ (d2 : Nat) (su2 : UInt64), n_ba1 (nI d) (nI t) (nI m) (nI t) (nI m) L xs ∧ f_X6_act_1 (nI d) (nI t) (nI m) L xs = (nI d2, su2, su2) ∧ x2 = ((a, b, m, g, s, n, P, su2, sc, gr), (ee, nI t, lv, si, fo, sa, le, dl, pl, dr, sp), (d2, t, pu, to, ow, we, du, pr, rc))
def st_2 (L : Nat) (xs : Nat → Int32) (x2 : TS) : TS → Prop
  | ((a, b, m, g, s, n, P, su, sc, gr), (ee, tk, lv, si, fo, sa, le, dl, pl, dr, sp), (d, t, pu, to, ow, we, du, pr, rc)) => ∃ (d2 : Nat) (su2 : UInt64), n_ba2 (nI d) (nI t) (nI m) (nI t) (nI m) L xs ∧ f_X6_act_2 (nI d) (nI t) (nI m) L xs = (nI d2, su2, su2) ∧ x2 = ((a, b, m, g, s, n, P, su2, sc, gr), (ee, nI t, lv, si, fo, sa, le, dl, pl, dr, sp), (d2, t, pu, to, ow, we, du, pr, rc))
def st_3 (L : Nat) (xs : Nat → Int32) (x2 : TS) : TS → Prop
  | ((a, b, m, g, s, n, P, su, sc, gr), (ee, tk, lv, si, fo, sa, le, dl, pl, dr, sp), (d, t, pu, to, ow, we, du, pr, rc)) => ∃ (d2 : Nat) (g2 : Nat), n_ba3 (nI d) (nI g) 0 0 (nI g) L xs ∧ f_X6_act_3 (nI d) (nI g) L xs = (nI d2, nI g2, nI g2) ∧ x2 = ((a, b, m, g2, s, n, P, su, sc, gr), (ee, nI t, lv, si, fo, sa, le, dl, pl, dr, sp), (d2, t, pu, to, ow, we, du, pr, rc))
def st_4 (L : Nat) (xs : Nat → Int32) (x2 : TS) : TS → Prop
  | ((a, b, m, g, s, n, P, su, sc, gr), (ee, tk, lv, si, fo, sa, le, dl, pl, dr, sp), (d, t, pu, to, ow, we, du, pr, rc)) => ∃ (d2 : Nat) (g2 : Nat), n_ba4 (nI d) (nI g) 0 0 (nI g) L xs ∧ f_X6_act_4 (nI d) (nI g) L xs = (nI d2, nI g2, nI g2) ∧ x2 = ((a, b, m, g2, s, n, P, su, sc, gr), (ee, nI t, lv, si, fo, sa, le, dl, pl, dr, sp), (d2, t, pu, to, ow, we, du, pr, rc))
def st_5 (L : Nat) (xs : Nat → Int32) (x2 : TS) : TS → Prop
  | ((a, b, m, g, s, n, P, su, sc, gr), (ee, tk, lv, si, fo, sa, le, dl, pl, dr, sp), (d, t, pu, to, ow, we, du, pr, rc)) => ∃ (d2 : Nat) (s2 : Nat), n_ba5 (nI d) (nI s) (nI s) L xs ∧ f_X6_act_5 (nI d) (nI s) L xs = (nI d2, nI s2, nI s2) ∧ x2 = ((a, b, m, g, s2, n, P, su, sc, gr), (ee, nI t, lv, si, fo, sa, le, dl, pl, dr, sp), (d2, t, pu, to, ow, we, du, pr, rc))
def st_6 (L : Nat) (xs : Nat → Int32) (x2 : TS) : TS → Prop
  | ((a, b, m, g, s, n, P, su, sc, gr), (ee, tk, lv, si, fo, sa, le, dl, pl, dr, sp), (d, t, pu, to, ow, we, du, pr, rc)) => ∃ (d2 : Nat) (s2 : Nat), n_ba6 (nI d) (nI s) (nI s) L xs ∧ f_X6_act_6 (nI d) (nI s) L xs = (nI d2, nI s2, nI s2) ∧ x2 = ((a, b, m, g, s2, n, P, su, sc, gr), (ee, nI t, lv, si, fo, sa, le, dl, pl, dr, sp), (d2, t, pu, to, ow, we, du, pr, rc))
def st_7 (L : Nat) (xs : Nat → Int32) (x2 : TS) : TS → Prop
  | ((a, b, m, g, s, n, P, su, sc, gr), (ee, tk, lv, si, fo, sa, le, dl, pl, dr, sp), (d, t, pu, to, ow, we, du, pr, rc)) => ∃ (d2 : Nat) (sc2 : Int32), n_ba7 (nI d) sc sc L xs ∧ f_X6_act_7 (nI d) sc L xs = (nI d2, sc2, sc2) ∧ x2 = ((a, b, m, g, s, n, P, su, sc2, gr), (ee, nI t, lv, si, fo, sa, le, dl, pl, dr, sp), (d2, t, pu, to, ow, we, du, pr, rc))
def st_8a (L : Nat) (xs : Nat → Int32) (x2 : TS) : TS → Prop
  | ((a, b, m, g, s, n, P, su, sc, gr), (ee, tk, lv, si, fo, sa, le, dl, pl, dr, sp), (d, t, pu, to, ow, we, du, pr, rc)) => ∃ (d2 : Nat), n_ba8a (nI d) L xs ∧ (f_X6_act_8a (nI d)) = nI d2 ∧ x2 = ((a, b, m, g, s, n, P, su, sc, gr), (ee, nI t, lv, si, fo, sa, le, dl, pl, dr, sp), (d2, t, pu, to, ow, we, du, pr, rc))
def st_8b (L : Nat) (xs : Nat → Int32) (x2 : TS) : TS → Prop
  | ((a, b, m, g, s, n, P, su, sc, gr), (ee, tk, lv, si, fo, sa, le, dl, pl, dr, sp), (d, t, pu, to, ow, we, du, pr, rc)) => ∃ (d2 : Nat) (a2 : Nat) (b2 : Nat), n_ba8b (nI d) (nI t) (nI t) L xs ∧ f_X6_act_8b (nI d) (nI t) L xs = (nI d2, nI a2, nI b2, nI a2, nI b2) ∧ x2 = ((a2, b2, m, g, s, n, P, su, sc, gr), (ee, nI t, lv, si, fo, sa, le, dl, pl, dr, sp), (d2, t, pu, to, ow, we, du, pr, rc))
def st_9 (L : Nat) (xs : Nat → Int32) (x2 : TS) : TS → Prop
  | ((a, b, m, g, s, n, P, su, sc, gr), (ee, tk, lv, si, fo, sa, le, dl, pl, dr, sp), (d, t, pu, to, ow, we, du, pr, rc)) => ∃ (d2 : Nat) (n2 : Nat) (ow2 : Nat → Int32) (gr2 : Nat → Int32) (we2 : Nat → Int32) (du2 : Nat → Int32) (sa2 : Nat → Int32) (le2 : Nat → UInt64) (rc2 : Nat → Nat → Int32), n_ba9 (nI d) (nI t) le (nI t) (nI n) ow gr we du sa le n rc L xs ∧ f_X6_act_9 (nI d) (nI t) le (nI t) (nI n) ow gr we du sa le n rc L xs = (rc2, nI d2, le2, nI n2, ow2, gr2, we2, du2, sa2, le2) ∧ n2 = n + 1 ∧ x2 = ((a, b, m, g, s, n2, P, su, sc, gr2), (ee, nI t, lv, si, fo, sa2, le2, dl, pl, dr, sp), (d2, t, pu, to, ow2, we2, du2, pr, rc2))
def st_9z (L : Nat) (xs : Nat → Int32) (x2 : TS) : TS → Prop
  | ((a, b, m, g, s, n, P, su, sc, gr), (ee, tk, lv, si, fo, sa, le, dl, pl, dr, sp), (d, t, pu, to, ow, we, du, pr, rc)) => ∃ (d2 : Nat), n_ba9z (nI d) n L xs ∧ (f_X6_act_9z (nI d)) = nI d2 ∧ x2 = ((a, b, m, g, s, n, P, su, sc, gr), (ee, nI t, lv, si, fo, sa, le, dl, pl, dr, sp), (d2, t, pu, to, ow, we, du, pr, rc))
def st_10 (L : Nat) (xs : Nat → Int32) (x2 : TS) : TS → Prop
  | ((a, b, m, g, s, n, P, su, sc, gr), (ee, tk, lv, si, fo, sa, le, dl, pl, dr, sp), (d, t, pu, to, ow, we, du, pr, rc)) => ∃ (d2 : Nat) (sa2 : Nat → Int32) (pl2 : Nat → Int32) (pr2 : Nat → Nat → Int32) (rc2 : Nat → Nat → Int32), n_ba10 (nI d) (nI n) sa (nI P) pl dr P pr n rc L xs ∧ f_X6_act_10 (nI d) (nI n) sa pl P pr n rc L xs = (rc2, pr2, nI d2, sa2, pl2) ∧ x2 = ((a, b, m, g, s, n, P, su, sc, gr), (ee, nI t, lv, si, fo, sa2, le, dl, pl2, dr, sp), (d2, t, pu, to, ow, we, du, pr2, rc2))
def st_11 (L : Nat) (xs : Nat → Int32) (x2 : TS) : TS → Prop
  | ((a, b, m, g, s, n, P, su, sc, gr), (ee, tk, lv, si, fo, sa, le, dl, pl, dr, sp), (d, t, pu, to, ow, we, du, pr, rc)) => ∃ (d2 : Nat) (sa2 : Nat → Int32) (pl2 : Nat → Int32) (pr2 : Nat → Nat → Int32) (rc2 : Nat → Nat → Int32), n_ba11 (nI d) (nI n) sa (nI P) pl dr P pr n rc L xs ∧ f_X6_act_11 (nI d) (nI n) sa pl P pr n rc L xs = (rc2, pr2, nI d2, sa2, pl2) ∧ x2 = ((a, b, m, g, s, n, P, su, sc, gr), (ee, nI t, lv, si, fo, sa2, le, dl, pl2, dr, sp), (d2, t, pu, to, ow, we, du, pr2, rc2))
def st_12a (L : Nat) (xs : Nat → Int32) (x2 : TS) : TS → Prop
  | ((a, b, m, g, s, n, P, su, sc, gr), (ee, tk, lv, si, fo, sa, le, dl, pl, dr, sp), (d, t, pu, to, ow, we, du, pr, rc)) => ∃ (d2 : Nat), n_ba12a (nI d) L xs ∧ (f_X6_act_12a (nI d)) = nI d2 ∧ x2 = ((a, b, m, g, s, n, P, su, sc, gr), (ee, nI t, lv, si, fo, sa, le, dl, pl, dr, sp), (d2, t, pu, to, ow, we, du, pr, rc))
def st_12b (L : Nat) (xs : Nat → Int32) (x2 : TS) : TS → Prop
  | ((a, b, m, g, s, n, P, su, sc, gr), (ee, tk, lv, si, fo, sa, le, dl, pl, dr, sp), (d, t, pu, to, ow, we, du, pr, rc)) => ∃ (d2 : Nat) (sa2 : Nat → Int32) (pl2 : Nat → Int32) (pr2 : Nat → Nat → Int32) (rc2 : Nat → Nat → Int32), n_ba12b (nI d) (nI n) sa (nI P) pl P pr n rc L xs ∧ f_X6_act_12b (nI d) sa pl P pr rc L xs = (rc2, pr2, nI d2, sa2, pl2) ∧ x2 = ((a, b, m, g, s, n, P, su, sc, gr), (ee, nI t, lv, si, fo, sa2, le, dl, pl2, dr, sp), (d2, t, pu, to, ow, we, du, pr2, rc2))
def st_13 (L : Nat) (xs : Nat → Int32) (x2 : TS) : TS → Prop
  | ((a, b, m, g, s, n, P, su, sc, gr), (ee, tk, lv, si, fo, sa, le, dl, pl, dr, sp), (d, t, pu, to, ow, we, du, pr, rc)) => ∃ (d2 : Nat) (dr2 : Nat → Int32) (pr2 : Nat → Nat → Int32), n_ba13 (nI d) dl (nI P) dl pl dr P pr L xs ∧ f_X6_act_13 (nI d) dl dl dr P pr L xs = (pr2, nI d2, dr2) ∧ x2 = ((a, b, m, g, s, n, P, su, sc, gr), (ee, nI t, lv, si, fo, sa, le, dl, pl, dr2, sp), (d2, t, pu, to, ow, we, du, pr2, rc))
def st_14 (L : Nat) (xs : Nat → Int32) (x2 : TS) : TS → Prop
  | ((a, b, m, g, s, n, P, su, sc, gr), (ee, tk, lv, si, fo, sa, le, dl, pl, dr, sp), (d, t, pu, to, ow, we, du, pr, rc)) => ∃ (d2 : Nat) (pu2 : Int32) (to2 : UInt64) (sa2 : Nat → Int32) (rc2 : Nat → Nat → Int32), n_ba14 (nI d) (nI t) pu to pu to (nI t) (nI n) gr we du sa n rc L xs ∧ f_X6_act_14 (nI d) (nI t) pu to pu to (nI t) gr we du sa n rc = (rc2, nI d2, pu2, to2, pu2, to2, sa2) ∧ x2 = ((a, b, m, g, s, n, P, su, sc, gr), (ee, nI t, lv, si, fo, sa2, le, dl, pl, dr, sp), (d2, t, pu2, to2, ow, we, du, pr, rc2))
def st_15 (L : Nat) (xs : Nat → Int32) (x2 : TS) : TS → Prop
  | ((a, b, m, g, s, n, P, su, sc, gr), (ee, tk, lv, si, fo, sa, le, dl, pl, dr, sp), (d, t, pu, to, ow, we, du, pr, rc)) => ∃ (d2 : Nat) (t2 : Nat) (ee2 : Int32) (lv2 : UInt64) (fo2 : UInt64) (si2 : UInt32) (sa2 : Nat → Int32) (pl2 : Nat → Int32) (dr2 : Nat → Int32) (sp2 : Nat → Int32) (le2 : Nat → UInt64) (dl2 : Nat → UInt32) (pr2 : Nat → Nat → Int32) (rc2 : Nat → Nat → Int32), n_ba15 (nI d) (nI t) (nI m) su lv si (nI g) (nI s) sc (nI a) (nI b) fo ee dl le (nI a) (nI b) ee (nI t) (nI m) su lv si (nI g) (nI s) sc fo (nI n) gr sa le (nI P) dl pl dr sp P pr n rc L xs ∧ f_X6_act_15 (nI d) (nI t) (nI m) su lv si (nI g) (nI s) sc (nI a) (nI b) fo ee dl le (nI a) (nI b) ee (nI t) (nI m) su lv si (nI g) (nI s) sc fo (nI n) gr sa le (nI P) dl pl dr sp P pr rc L xs = (rc2, pr2, nI d2, nI t2, lv2, si2, fo2, ee2, dl2, le2, ee2, nI t2, lv2, si2, fo2, sa2, le2, dl2, pl2, dr2, sp2) ∧ x2 = ((a, b, m, g, s, n, P, su, sc, gr), (ee2, nI t2, lv2, si2, fo2, sa2, le2, dl2, pl2, dr2, sp2), (d2, t2, pu, to, ow, we, du, pr2, rc2))
def st (L : Nat) (xs : Nat → Int32) (x2 x : TS) : Prop := st_0 L xs x2 x ∨ st_1 L xs x2 x ∨ st_2 L xs x2 x ∨ st_3 L xs x2 x ∨ st_4 L xs x2 x ∨ st_5 L xs x2 x ∨ st_6 L xs x2 x ∨ st_7 L xs x2 x ∨ st_8a L xs x2 x ∨ st_8b L xs x2 x ∨ st_9 L xs x2 x ∨ st_9z L xs x2 x ∨ st_10 L xs x2 x ∨ st_11 L xs x2 x ∨ st_12a L xs x2 x ∨ st_12b L xs x2 x ∨ st_13 L xs x2 x ∨ st_14 L xs x2 x ∨ st_15 L xs x2 x
theorem st_ok {L : Nat} {xs : Nat → Int32} {D T : Nat} (hL : L ≤ 260) (hD : D ≤ 900000) (hT : T ≤ 4900) : ∀ {x : TS}, rl D T x → ∃ x2, st L xs x2 x ∧ rl (D + 12) (T + 30) x2 := by
  rintro ⟨⟨a, b, m, g, s, n, P, su, sc, gr⟩, ⟨ee, tk, lv, si, fo, sa, le, dl, pl, dr, sp⟩, ⟨d, t, pu, to, ow, we, du, pr, rc⟩⟩ h
  obtain ⟨htk, hd, ht, hp, h1, h2, hsc, hto, hps, htw, hwe, hdu⟩ := h
  have htk' : tk = nI t := htk
  obtain ⟨k1, k2, k3, k4, k5, k6, k7, k8, k9⟩ := hp
  have k1 : m < 30 := k1
  have k2 : vr su (-16) 16 := k2
  have k3 : g ≤ 3 := k3
  have k4 : s ≤ 4 := k4
  have k5 : a < 48 := k5
  have k6 : b < 48 := k6
  have k7 : n ≤ 10 := k7
  have k8 : P ≤ 3 := k8
  have k9 : ∀ k, k < n → gr k = 0 ∨ gr k = 1 ∨ gr k = 2 := k9
  have hti : ti n P dl pl dr le sa := hps.2.2.2
  have s1 : nI d + 1 = nI (d + 1) := nI_1 d
  have s2 : nI (d + 1) + 1 = nI (d + 2) := nI_1 (d + 1)
  have s3 : nI (d + 2) + 1 = nI (d + 3) := nI_1 (d + 2)
  obtain ⟨v, hv, ev⟩ := dr_draw (nI d) L xs (N := 17) (by decide) (by decide)
  have ev' : (f_X6_draw (nI d) 17 L xs).1 = nI v := ev
  have n17 : n_X6_draw (nI d) 17 L := dr_drawN (N := 17) (by omega) hL (by decide) (by decide)
  have one : ¬ (1 : Nat) = 0 := by decide
  have vc : v = 0 ∨ v = 1 ∨ v = 2 ∨ v = 3 ∨ v = 4 ∨ v = 5 ∨ v = 6 ∨ v = 7 ∨ v = 8 ∨ v = 9 ∨ v = 10 ∨ v = 11 ∨ v = 12 ∨ v = 13 ∨ v = 14 ∨ v = 15 ∨ v = 16 := by omega
  have KP : TP.ok (a, b, m, g, s, n, P, su, sc, gr) := ⟨k1, k2, k3, k4, k5, k6, k7, k8, k9⟩
  rcases vc with e | e | e | e | e | e | e | e | e | e | e | e | e | e | e | e | e
  · subst e
    obtain ⟨d2, m2, e1, e2, hF, hN⟩ := mo_E (xs := xs) (d := d + 1) hL (by omega) (by omega : t < 7000)
    refine ⟨_, Or.inl (⟨d2, m2, ?_, ?_, rfl⟩), ?_⟩
    · refine ⟨⟨n17, ev', ?_⟩, fun _ _ _ _ => one⟩
      rw [s1]; exact hN
    · unfold f_X6_act_0
      rw [s1, hF]
    · exact ⟨rfl, by omega, by omega, ⟨e2, k2, k3, k4, k5, k6, k7, k8, k9⟩, h1, h2, hsc, hto, hps, htw, hwe, hdu⟩
  · subst e
    obtain ⟨su2, e2, hF, hN⟩ := su_E (xs := xs) (d := d + 1) hL (by omega) (by omega : t < 6900) k1
    refine ⟨_, Or.inr (Or.inl (⟨d + 2, su2, ?_, ?_, rfl⟩)), ?_⟩
    · refine ⟨⟨n17, ev', ?_⟩, fun _ _ _ _ => one⟩
      rw [s1]; exact hN
    · unfold f_X6_act_1
      rw [s1, hF]
    · exact ⟨rfl, by omega, by omega, ⟨k1, e2, k3, k4, k5, k6, k7, k8, k9⟩, h1, h2, hsc, hto, hps, htw, hwe, hdu⟩
  · subst e
    obtain ⟨su2, e2, hF, hN⟩ := su_E (xs := xs) (d := d + 1) hL (by omega) (by omega : t < 6900) k1
    refine ⟨_, Or.inr (Or.inr (Or.inl (⟨d + 2, su2, ?_, ?_, rfl⟩))), ?_⟩
    · refine ⟨⟨n17, ev', ?_⟩, fun _ _ _ _ => one⟩
      rw [s1]; exact hN
    · unfold f_X6_act_2
      rw [s1, hF]
    · exact ⟨rfl, by omega, by omega, ⟨k1, e2, k3, k4, k5, k6, k7, k8, k9⟩, h1, h2, hsc, hto, hps, htw, hwe, hdu⟩
  · subst e
    obtain ⟨g2, e2, hF, hN⟩ := ga_E (xs := xs) (d := d + 1) hL (by omega) (nI g)
    refine ⟨_, Or.inr (Or.inr (Or.inr (Or.inl (⟨d + 2, g2, ?_, ?_, rfl⟩)))), ?_⟩
    · refine ⟨⟨n17, ev', ?_⟩, fun _ _ _ _ => one⟩
      rw [s1]; exact hN
    · unfold f_X6_act_3
      rw [s1, hF]
    · exact ⟨rfl, by omega, by omega, ⟨k1, k2, e2, k4, k5, k6, k7, k8, k9⟩, h1, h2, hsc, hto, hps, htw, hwe, hdu⟩
  · subst e
    obtain ⟨g2, e2, hF, hN⟩ := ga_E (xs := xs) (d := d + 1) hL (by omega) (nI g)
    refine ⟨_, Or.inr (Or.inr (Or.inr (Or.inr (Or.inl (⟨d + 2, g2, ?_, ?_, rfl⟩))))), ?_⟩
    · refine ⟨⟨n17, ev', ?_⟩, fun _ _ _ _ => one⟩
      rw [s1]; exact hN
    · unfold f_X6_act_4
      rw [s1, hF]
    · exact ⟨rfl, by omega, by omega, ⟨k1, k2, e2, k4, k5, k6, k7, k8, k9⟩, h1, h2, hsc, hto, hps, htw, hwe, hdu⟩
  · subst e
    obtain ⟨s2x, e2, hF, hN⟩ := sl_E (xs := xs) (d := d + 1) hL (by omega) (nI s)
    refine ⟨_, Or.inr (Or.inr (Or.inr (Or.inr (Or.inr (Or.inl (⟨d + 2, s2x, ?_, ?_, rfl⟩)))))), ?_⟩
    · refine ⟨⟨n17, ev', ?_⟩, fun _ _ _ _ => one⟩
      rw [s1]; exact hN
    · unfold f_X6_act_5
      rw [s1, hF]
    · exact ⟨rfl, by omega, by omega, ⟨k1, k2, k3, e2, k5, k6, k7, k8, k9⟩, h1, h2, hsc, hto, hps, htw, hwe, hdu⟩
  · subst e
    obtain ⟨s2x, e2, hF, hN⟩ := sl_E (xs := xs) (d := d + 1) hL (by omega) (nI s)
    refine ⟨_, Or.inr (Or.inr (Or.inr (Or.inr (Or.inr (Or.inr (Or.inl (⟨d + 2, s2x, ?_, ?_, rfl⟩))))))), ?_⟩
    · refine ⟨⟨n17, ev', ?_⟩, fun _ _ _ _ => one⟩
      rw [s1]; exact hN
    · unfold f_X6_act_6
      rw [s1, hF]
    · exact ⟨rfl, by omega, by omega, ⟨k1, k2, k3, e2, k5, k6, k7, k8, k9⟩, h1, h2, hsc, hto, hps, htw, hwe, hdu⟩
  · subst e
    obtain ⟨sc2, e2, hF, hN⟩ := sc_E (xs := xs) (d := d + 1) hL (by omega) hsc
    refine ⟨_, Or.inr (Or.inr (Or.inr (Or.inr (Or.inr (Or.inr (Or.inr (Or.inl (⟨d + 2, sc2, ?_, ?_, rfl⟩)))))))), ?_⟩
    · refine ⟨⟨n17, ev', ?_⟩, fun _ _ _ _ => one⟩
      rw [s1]; exact hN
    · unfold f_X6_act_7
      rw [s1, hF]
    · exact ⟨rfl, by omega, by omega, KP, h1, h2, e2, hto, hps, htw, hwe, hdu⟩
  · subst e
    have n3 : n_X6_draw (nI (d + 1)) 3 L := dr_drawN (N := 3) (by omega) hL (by decide) (by decide)
    by_cases c : 0 < (f_X6_draw (nI (d + 1)) 3 L xs).1
    · refine ⟨_, Or.inr (Or.inr (Or.inr (Or.inr (Or.inr (Or.inr (Or.inr (Or.inr (Or.inl (⟨d + 2, ?_, ?_, rfl⟩))))))))), ?_⟩
      · refine ⟨⟨n17, ev', ?_, ?_⟩, one⟩
        · rw [s1]; exact n3
        · rw [s1]; exact c
      · unfold f_X6_act_8a
        rw [s1, s2]
      · exact ⟨rfl, by omega, by omega, KP, h1, h2, hsc, hto, hps, htw, hwe, hdu⟩
    · obtain ⟨d2, a2, b2, e1, e2, e3, hF, hN⟩ := hr_E (xs := xs) (d := d + 2) hL (by omega) (by omega : t < 7000)
      refine ⟨_, Or.inr (Or.inr (Or.inr (Or.inr (Or.inr (Or.inr (Or.inr (Or.inr (Or.inr (Or.inl (⟨d2, a2, b2, ?_, ?_, rfl⟩)))))))))), ?_⟩
      · refine ⟨⟨n17, ev', ?_, ?_, ?_, fun _ _ _ _ _ _ => one⟩, fun _ _ _ _ _ _ => one⟩
        · rw [s1]; exact n3
        · rw [s1]; exact c
        · rw [s1, s2]; exact hN
      · unfold f_X6_act_8b
        rw [s1, s2, hF]
      · exact ⟨rfl, by omega, by omega, ⟨k1, k2, k3, k4, e2, e3, k7, k8, k9⟩, h1, h2, hsc, hto, hps, htw, hwe, hdu⟩
  · subst e
    by_cases c : n ≤ 9
    · obtain ⟨rc2, d2, le2, ow2, gr2, we2, du2, sa2, e1, hF, hN, e2, e3, e4, e5, e6, -⟩ := lot_E (xs := xs) (d := d + 1) hL (by omega) (by omega : t ≤ 6000) c hti htw k9 hwe hdu
      refine ⟨_, Or.inr (Or.inr (Or.inr (Or.inr (Or.inr (Or.inr (Or.inr (Or.inr (Or.inr (Or.inr (Or.inl (⟨d2, n + 1, ow2, gr2, we2, du2, sa2, le2, rc2, ?_, ?_, rfl, rfl⟩))))))))))), ?_⟩
      · refine ⟨⟨n17, ev', ?_⟩, fun _ _ _ _ _ _ _ _ _ _ _ => one⟩
        rw [s1]; exact hN
      · unfold f_X6_act_9
        rw [s1, hF]
      · exact ⟨rfl, by omega, by omega, ⟨k1, k2, k3, k4, k5, k6, show n + 1 ≤ 10 by omega, k8, e4⟩, by omega, h2, hsc, hto, ⟨hps.1, hps.2.1, hps.2.2.1, e2⟩, e3, e5, e6⟩
    · refine ⟨_, Or.inr (Or.inr (Or.inr (Or.inr (Or.inr (Or.inr (Or.inr (Or.inr (Or.inr (Or.inr (Or.inr (Or.inl (⟨d + 1, ?_, ?_, rfl⟩)))))))))))), ?_⟩
      · exact ⟨⟨n17, ev', nI_ge (a := 9) (by omega) (by omega)⟩, one⟩
      · unfold f_X6_act_9z
        rw [s1]
      · exact ⟨rfl, by omega, by omega, KP, h1, h2, hsc, hto, hps, htw, hwe, hdu⟩
  · subst e
    obtain ⟨rc2, pr2, sa2, pl2, hF, hN, e2, e3⟩ := feed_E (xs := xs) (d := d + 1) hL (by omega) k7 k8 h1 h2 hti htw
    refine ⟨_, Or.inr (Or.inr (Or.inr (Or.inr (Or.inr (Or.inr (Or.inr (Or.inr (Or.inr (Or.inr (Or.inr (Or.inr (Or.inl (⟨d + 3, sa2, pl2, pr2, rc2, ?_, ?_, rfl⟩))))))))))))), ?_⟩
    · refine ⟨⟨n17, ev', ?_⟩, fun _ _ _ _ _ _ => one⟩
      rw [s1]; exact hN
    · unfold f_X6_act_10
      rw [s1, hF]
    · exact ⟨rfl, by omega, by omega, KP, h1, h2, hsc, hto, ⟨hps.1, hps.2.1, hps.2.2.1, e2⟩, e3, hwe, hdu⟩
  · subst e
    obtain ⟨rc2, pr2, sa2, pl2, hF, hN, e2, e3⟩ := feed_E (xs := xs) (d := d + 1) hL (by omega) k7 k8 h1 h2 hti htw
    refine ⟨_, Or.inr (Or.inr (Or.inr (Or.inr (Or.inr (Or.inr (Or.inr (Or.inr (Or.inr (Or.inr (Or.inr (Or.inr (Or.inr (Or.inl (⟨d + 3, sa2, pl2, pr2, rc2, ?_, ?_, rfl⟩)))))))))))))), ?_⟩
    · refine ⟨⟨n17, ev', ?_⟩, fun _ _ _ _ _ _ => one⟩
      rw [s1]; exact hN
    · unfold f_X6_act_11
      rw [s1, hF]
    · exact ⟨rfl, by omega, by omega, KP, h1, h2, hsc, hto, ⟨hps.1, hps.2.1, hps.2.2.1, e2⟩, e3, hwe, hdu⟩
  · subst e
    have n3 : n_X6_draw (nI (d + 1)) 2 L := dr_drawN (N := 2) (by omega) hL (by decide) (by decide)
    by_cases c : 0 < (f_X6_draw (nI (d + 1)) 2 L xs).1
    · refine ⟨_, Or.inr (Or.inr (Or.inr (Or.inr (Or.inr (Or.inr (Or.inr (Or.inr (Or.inr (Or.inr (Or.inr (Or.inr (Or.inr (Or.inr (Or.inl (⟨d + 2, ?_, ?_, rfl⟩))))))))))))))), ?_⟩
      · refine ⟨⟨n17, ev', ?_, ?_⟩, one⟩
        · rw [s1]; exact n3
        · rw [s1]; exact c
      · unfold f_X6_act_12a
        rw [s1, s2]
      · exact ⟨rfl, by omega, by omega, KP, h1, h2, hsc, hto, hps, htw, hwe, hdu⟩
    · obtain ⟨rc2, pr2, sa2, pl2, hF, hN, e2, e3⟩ := take_E (xs := xs) (d := d + 2) hL (by omega) k7 k8 h2 hti htw
      refine ⟨_, Or.inr (Or.inr (Or.inr (Or.inr (Or.inr (Or.inr (Or.inr (Or.inr (Or.inr (Or.inr (Or.inr (Or.inr (Or.inr (Or.inr (Or.inr (Or.inl (⟨d + 3, sa2, pl2, pr2, rc2, ?_, ?_, rfl⟩)))))))))))))))), ?_⟩
      · refine ⟨⟨n17, ev', ?_, ?_, ?_, fun _ _ _ _ _ _ => one⟩, fun _ _ _ _ _ _ => one⟩
        · rw [s1]; exact n3
        · rw [s1]; exact c
        · rw [s1, s2]; exact hN
      · unfold f_X6_act_12b
        rw [s1, s2, hF]
      · exact ⟨rfl, by omega, by omega, KP, h1, h2, hsc, hto, ⟨hps.1, hps.2.1, hps.2.2.1, e2⟩, e3, hwe, hdu⟩
  · subst e
    obtain ⟨pr2, dr2, hF, hN, e2, e3⟩ := dress_E (xs := xs) (d := d + 1) hL (by omega) k7 k8 h2 hti htw
    refine ⟨_, Or.inr (Or.inr (Or.inr (Or.inr (Or.inr (Or.inr (Or.inr (Or.inr (Or.inr (Or.inr (Or.inr (Or.inr (Or.inr (Or.inr (Or.inr (Or.inr (Or.inl (⟨d + 2, dr2, pr2, ?_, ?_, rfl⟩))))))))))))))))), ?_⟩
    · refine ⟨⟨n17, ev', ?_⟩, fun _ _ _ _ => one⟩
      rw [s1]; exact hN
    · unfold f_X6_act_13
      rw [s1, hF]
    · exact ⟨rfl, by omega, by omega, KP, h1, h2, hsc, hto, ⟨hps.1, hps.2.1, hps.2.2.1, e2⟩, e3, hwe, hdu⟩
  · subst e
    obtain ⟨rc2, pu2, to2, sa2, hF, hN, e1, e2, e3⟩ := give_loop (by omega : t ≤ 6000) k7 hto pu hti htw k9 hwe hdu n 0 12 (by omega) (by omega)
    rw [show nI 0 = 0 from nI_0] at hF hN
    have hF' : f_X6_give (nI t) pu to pu to (nI t) gr we du sa n rc = (rc2, pu2, to2, pu2, to2, sa2) := hF
    refine ⟨_, Or.inr (Or.inr (Or.inr (Or.inr (Or.inr (Or.inr (Or.inr (Or.inr (Or.inr (Or.inr (Or.inr (Or.inr (Or.inr (Or.inr (Or.inr (Or.inr (Or.inr (Or.inl (⟨d + 1, pu2, to2, sa2, rc2, ?_, ?_, rfl⟩)))))))))))))))))), ?_⟩
    · exact ⟨⟨n17, ev', hN⟩, fun _ _ _ _ _ _ _ _ => one⟩
    · unfold f_X6_act_14
      rw [s1, hF']
    · exact ⟨rfl, by omega, by omega, KP, h1, h2, hsc, e1, ⟨hps.1, hps.2.1, hps.2.2.1, e2⟩, e3, hwe, hdu⟩
  · subst e
    have n3 : n_X6_draw (nI (d + 1)) 3 L := dr_drawN (N := 3) (by omega) hL (by decide) (by decide)
    obtain ⟨y6, hy6, e6⟩ := dr_draw (nI (d + 2)) L xs (N := 6) (by decide) (by decide)
    obtain ⟨y3, hy3, e3⟩ := dr_draw (nI (d + 2)) L xs (N := 30) (by decide) (by decide)
    have e6' : (f_X6_draw (nI (d + 2)) 6 L xs).1 = nI y6 := e6
    have e3' : (f_X6_draw (nI (d + 2)) 30 L xs).1 = nI y3 := e3
    have m6 : n_X6_draw (nI (d + 2)) 6 L := dr_drawN (N := 6) (by omega) hL (by decide) (by decide)
    have m3 : n_X6_draw (nI (d + 2)) 30 L := dr_drawN (N := 30) (by omega) hL (by decide) (by decide)
    have a6 : (1 : Int32) + nI y6 = nI (1 + y6) := nI_add 1 y6
    have a3 : (1 : Int32) + nI y3 = nI (1 + y3) := nI_add 1 y3
    obtain ⟨ee6, lv6, fo6, si6, dl6, pl6, dr6, sp6, sa6, le6, pr6, rc6, F6, N6, p6, w6⟩ := pass_E (T := 1 + y6) (t := t) (ee := ee) (sc := sc) k1 k2 k3 k4 k5 k6 k7 k8 (by omega) (by omega) (by omega) k9 hps htw
    obtain ⟨ee3, lv3, fo3, si3, dl3, pl3, dr3, sp3, sa3, le3, pr3, rc3, F3, N3, p3, w3⟩ := pass_E (T := 1 + y3) (t := t) (ee := ee) (sc := sc) k1 k2 k3 k4 k5 k6 k7 k8 (by omega) (by omega) (by omega) k9 hps htw
    have hN : n_ba15 (nI d) (nI t) (nI m) su lv si (nI g) (nI s) sc (nI a) (nI b) fo ee dl le (nI a) (nI b) ee (nI t) (nI m) su lv si (nI g) (nI s) sc fo (nI n) gr sa le (nI P) dl pl dr sp P pr n rc L xs := by
      refine ⟨⟨n17, ?_, ?_, ?_, ?_, ?_, ?_, ?_, ?_, ?_, ?_, ?_, ?_, ?_, ?_, ?_, ?_, ?_, ?_, ?_, ?_⟩, fun _ _ _ _ _ _ _ _ _ _ _ _ _ _ _ _ _ _ _ _ _ _ => one⟩
      iterate 15 (rw [ev']; decide)
      · rw [s1]; exact n3
      · rw [s1, s2]; exact fun _ => m6
      · rw [s1, s2, e6', a6]; exact fun _ => N6
      · rw [s1, s2]; exact fun _ => m3
      · rw [s1, s2, e3', a3]; exact fun _ => N3
    by_cases c : (f_X6_draw (nI (d + 1)) 3 L xs).1 = 0
    · refine ⟨_, Or.inr (Or.inr (Or.inr (Or.inr (Or.inr (Or.inr (Or.inr (Or.inr (Or.inr (Or.inr (Or.inr (Or.inr (Or.inr (Or.inr (Or.inr (Or.inr (Or.inr (Or.inr (⟨d + 3, t + (1 + y3), ee3, lv3, fo3, si3, sa3, pl3, dr3, sp3, le3, dl3, pr3, rc3, hN, ?_, rfl⟩)))))))))))))))))), ?_⟩
      · unfold f_X6_act_15
        rw [s1, if_pos c, s2, e3', a3, F3, s3]
      · exact ⟨rfl, by omega, by omega, KP, h1, h2, hsc, hto, p3, w3, hwe, hdu⟩
    · refine ⟨_, Or.inr (Or.inr (Or.inr (Or.inr (Or.inr (Or.inr (Or.inr (Or.inr (Or.inr (Or.inr (Or.inr (Or.inr (Or.inr (Or.inr (Or.inr (Or.inr (Or.inr (Or.inr (⟨d + 3, t + (1 + y6), ee6, lv6, fo6, si6, sa6, pl6, dr6, sp6, le6, dl6, pr6, rc6, hN, ?_, rfl⟩)))))))))))))))))), ?_⟩
      · unfold f_X6_act_15
        rw [s1, if_neg c, s2, e6', a6, F6, s3]
      · exact ⟨rfl, by omega, by omega, KP, h1, h2, hsc, hto, p6, w6, hwe, hdu⟩
  · subst e
    have n3 : n_X6_draw (nI (d + 1)) 3 L := dr_drawN (N := 3) (by omega) hL (by decide) (by decide)
    obtain ⟨y6, hy6, e6⟩ := dr_draw (nI (d + 2)) L xs (N := 6) (by decide) (by decide)
    obtain ⟨y3, hy3, e3⟩ := dr_draw (nI (d + 2)) L xs (N := 30) (by decide) (by decide)
    have e6' : (f_X6_draw (nI (d + 2)) 6 L xs).1 = nI y6 := e6
    have e3' : (f_X6_draw (nI (d + 2)) 30 L xs).1 = nI y3 := e3
    have m6 : n_X6_draw (nI (d + 2)) 6 L := dr_drawN (N := 6) (by omega) hL (by decide) (by decide)
    have m3 : n_X6_draw (nI (d + 2)) 30 L := dr_drawN (N := 30) (by omega) hL (by decide) (by decide)
    have a6 : (1 : Int32) + nI y6 = nI (1 + y6) := nI_add 1 y6
    have a3 : (1 : Int32) + nI y3 = nI (1 + y3) := nI_add 1 y3
    obtain ⟨ee6, lv6, fo6, si6, dl6, pl6, dr6, sp6, sa6, le6, pr6, rc6, F6, N6, p6, w6⟩ := pass_E (T := 1 + y6) (t := t) (ee := ee) (sc := sc) k1 k2 k3 k4 k5 k6 k7 k8 (by omega) (by omega) (by omega) k9 hps htw
    obtain ⟨ee3, lv3, fo3, si3, dl3, pl3, dr3, sp3, sa3, le3, pr3, rc3, F3, N3, p3, w3⟩ := pass_E (T := 1 + y3) (t := t) (ee := ee) (sc := sc) k1 k2 k3 k4 k5 k6 k7 k8 (by omega) (by omega) (by omega) k9 hps htw
    have hN : n_ba15 (nI d) (nI t) (nI m) su lv si (nI g) (nI s) sc (nI a) (nI b) fo ee dl le (nI a) (nI b) ee (nI t) (nI m) su lv si (nI g) (nI s) sc fo (nI n) gr sa le (nI P) dl pl dr sp P pr n rc L xs := by
      refine ⟨⟨n17, ?_, ?_, ?_, ?_, ?_, ?_, ?_, ?_, ?_, ?_, ?_, ?_, ?_, ?_, ?_, ?_, ?_, ?_, ?_, ?_⟩, fun _ _ _ _ _ _ _ _ _ _ _ _ _ _ _ _ _ _ _ _ _ _ => one⟩
      iterate 15 (rw [ev']; decide)
      · rw [s1]; exact n3
      · rw [s1, s2]; exact fun _ => m6
      · rw [s1, s2, e6', a6]; exact fun _ => N6
      · rw [s1, s2]; exact fun _ => m3
      · rw [s1, s2, e3', a3]; exact fun _ => N3
    by_cases c : (f_X6_draw (nI (d + 1)) 3 L xs).1 = 0
    · refine ⟨_, Or.inr (Or.inr (Or.inr (Or.inr (Or.inr (Or.inr (Or.inr (Or.inr (Or.inr (Or.inr (Or.inr (Or.inr (Or.inr (Or.inr (Or.inr (Or.inr (Or.inr (Or.inr (⟨d + 3, t + (1 + y3), ee3, lv3, fo3, si3, sa3, pl3, dr3, sp3, le3, dl3, pr3, rc3, hN, ?_, rfl⟩)))))))))))))))))), ?_⟩
      · unfold f_X6_act_15
        rw [s1, if_pos c, s2, e3', a3, F3, s3]
      · exact ⟨rfl, by omega, by omega, KP, h1, h2, hsc, hto, p3, w3, hwe, hdu⟩
    · refine ⟨_, Or.inr (Or.inr (Or.inr (Or.inr (Or.inr (Or.inr (Or.inr (Or.inr (Or.inr (Or.inr (Or.inr (Or.inr (Or.inr (Or.inr (Or.inr (Or.inr (Or.inr (Or.inr (⟨d + 3, t + (1 + y6), ee6, lv6, fo6, si6, sa6, pl6, dr6, sp6, le6, dl6, pr6, rc6, hN, ?_, rfl⟩)))))))))))))))))), ?_⟩
      · unfold f_X6_act_15
        rw [s1, if_neg c, s2, e6', a6, F6, s3]
      · exact ⟨rfl, by omega, by omega, KP, h1, h2, hsc, hto, p6, w6, hwe, hdu⟩
