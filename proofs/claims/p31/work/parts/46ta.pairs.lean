/-! the pairs' turn, as the law reckons it -/
/-- what holds of pairs and lots -/
def ti (n P : Nat) (dl : Nat → UInt32) (pl dr : Nat → Int32) (le : Nat → UInt64) (sa : Nat → Int32) : Prop :=
  (∀ p, fr (dl p) 8) ∧ (∀ k, lr (le k)) ∧ (∀ p, p < P → pl p = -1 ∨ ∃ j, j < n ∧ pl p = nI j ∧ sa j = 1) ∧ (∀ p q, p < P → q < P → p ≠ q → pl p = pl q → pl p = -1) ∧ (∀ k, k < n → (sa k = 0 ∨ sa k = 1) ∧ 0 < zd (le k) ∨ (sa k = 2 ∨ sa k = 3) ∧ zd (le k) = 0) ∧ (∀ q, ∃ c : Nat, c ≤ 11 ∧ dr q = nI c)
def mr (sa sa' : Nat → Int32) : Prop := ∀ k, sa' k = sa k ∨ sa k = 1 ∧ sa' k = 2
theorem mr.rf {sa : Nat → Int32} : mr sa sa := fun _ => Or.inl rfl
theorem mr.tr {a b c : Nat → Int32} (h : mr a b) (g : mr b c) : mr a c := fun k => by
  rcases g k with g | ⟨g1, g2⟩
  · rcases h k with h | ⟨h1, h2⟩
    · exact Or.inl (g.trans h)
    · exact Or.inr ⟨h1, g.trans h2⟩
  · rcases h k with h | ⟨h1, h2⟩
    · exact Or.inr ⟨h.symm.trans g1, g2⟩
    · exact Or.inr ⟨h1, g2⟩
theorem fr_0 : fr FP.fconst0 8 := ⟨fok_0, by rw [show zf FP.fconst0 = 0 from zf_0]; decide, by rw [show zf FP.fconst0 = 0 from zf_0]; exact Int.mul_nonneg (by decide) (Int.natCast_nonneg _)⟩
theorem wk_us {f : Nat → UInt32} {k : Nat} {x : UInt32} : vf_upd f k x k = x := if_pos rfl
theorem wk_un {f : Nat → UInt32} {k j : Nat} {x : UInt32} (h : j ≠ k) : vf_upd f k x j = f j := if_neg h
theorem wk_frU {dl : Nat → UInt32} {p : Nat} {x : UInt32} (h : ∀ q, fr (dl q) 8) (hx : fr x 8) : ∀ q, fr (vf_upd dl p x q) 8 := fun q => by
  by_cases e : q = p
  · subst e; rw [wk_us]; exact hx
  · rw [wk_un e]; exact h q
theorem wk_lrU {le : Nat → UInt64} {p : Nat} {x : UInt64} (h : ∀ q, lr (le q)) (hx : lr x) : ∀ q, lr (vf_upd le p x q) := fun q => by
  by_cases e : q = p
  · subst e
    rw [show vf_upd le q x q = x from if_pos rfl]; exact hx
  · rw [show vf_upd le p x q = le q from if_neg e]; exact h q
theorem wk_neg (j : Nat) (hj : j < 2 ^ 31) : nI j ≠ -1 := fun h => by
  have := nI_pos hj
  rw [h] at this
  exact this (by decide)
theorem wk_has0 (n : Nat) : f_X0_has (nI n) (-1) = 0 := if_pos (by decide)
theorem wk_has1 {n j : Nat} (hj : j < n) (hn : n ≤ 10) : f_X0_has (nI n) (nI j) = 1 := by
  unfold f_X0_has
  rw [if_neg (nI_pos (by omega)), if_neg (nI_ge hj (by omega))]
/-- dressings are small; what else a turn keeps -/
def drk (dr : Nat → Int32) : Prop := ∀ q, ∃ c : Nat, c ≤ 11 ∧ dr q = nI c
theorem wk_dr {dr : Nat → Int32} {p : Nat} (h : drk dr) (c : ¬ dr p ≤ 0) : drk (upd dr p (dr p - 1)) := fun q => by
  by_cases e : q = p
  · subst e
    rw [pk_us]
    obtain ⟨k, hk, e⟩ := h q
    rw [e] at c ⊢
    cases k with
    | zero => exact absurd (by decide) c
    | succ k => exact ⟨k, by omega, nI_pred k⟩
  · rw [pk_un e]
    exact h q

theorem wt_end {x : UInt64} (h : lr x) : (gd_end x → zd x = 0) ∧ (¬ gd_end x → 0 < zd x) := by
  have e := fl_eq0 h.1 dok_0 .l
  rw [zdz_0] at e
  refine ⟨fun c => e.mp c, fun c => ?_⟩
  have h1 := h.vr.2.1
  rw [Int.zero_mul] at h1
  have h2 : zd x ≠ 0 := fun c2 => c (e.mpr c2)
  omega
theorem ti_dl {n P p : Nat} {dl : Nat → UInt32} {pl dr : Nat → Int32} {le : Nat → UInt64} {sa : Nat → Int32} {x : UInt32} (h : ti n P dl pl dr le sa) (hx : fr x 8) : ti n P (vf_upd dl p x) pl dr le sa :=
  ⟨wk_frU h.1 hx, h.2⟩
theorem ti_dr {n P p : Nat} {dl : Nat → UInt32} {pl dr : Nat → Int32} {le : Nat → UInt64} {sa : Nat → Int32} (h : ti n P dl pl dr le sa) (c : ¬ dr p ≤ 0) : ti n P dl pl (upd dr p (dr p - 1)) le sa :=
  ⟨h.1, h.2.1, h.2.2.1, h.2.2.2.1, h.2.2.2.2.1, wk_dr h.2.2.2.2.2 c⟩
theorem ti_go {n P p j : Nat} {dl : Nat → UInt32} {pl dr : Nat → Int32} {le : Nat → UInt64} {sa : Nat → Int32} {x : UInt32} {y : UInt64} (h : ti n P dl pl dr le sa) (hx : fr x 8) (hy : lr y) (hz : 0 < zd y) (hs : sa j = 1) : ti n P (vf_upd dl p x) pl dr (vf_upd le j y) sa := by
  obtain ⟨h1, h2, h3, h4, h5, h6⟩ := h
  refine ⟨wk_frU h1 hx, wk_lrU h2 hy, h3, h4, ?_, h6⟩
  intro k hk
  by_cases e : k = j
  · subst e
    rw [show vf_upd le k y k = y from if_pos rfl]
    exact Or.inl ⟨Or.inr hs, hz⟩
  · rw [show vf_upd le j y k = le k from if_neg e]
    exact h5 k hk
theorem ti_end {n P p j : Nat} {dl : Nat → UInt32} {pl dr : Nat → Int32} {le : Nat → UInt64} {sa : Nat → Int32} {x : UInt32} {y : UInt64} (h : ti n P dl pl dr le sa) (hx : fr x 8) (hy : lr y) (hz : zd y = 0) (hp : p < P) (hj : j < 2 ^ 31) (hpl : pl p = nI j) : ti n P (vf_upd dl p x) (upd pl p (-1)) dr (vf_upd le j y) (upd sa j 2) := by
  obtain ⟨h1, h2, h3, h4, h5, h6⟩ := h
  refine ⟨wk_frU h1 hx, wk_lrU h2 hy, ?_, ?_, ?_, h6⟩
  · intro q hq
    by_cases e : q = p
    · subst e; exact Or.inl pk_us
    · rw [pk_un e]
      rcases h3 q hq with h6 | ⟨j', g1, g2, g3⟩
      · exact Or.inl h6
      · refine Or.inr ⟨j', g1, g2, ?_⟩
        by_cases e2 : j' = j
        · subst e2
          have := h4 p q hp hq (fun e3 => e e3.symm) (hpl.trans g2.symm)
          rw [hpl] at this
          exact absurd this (wk_neg _ hj)
        · rw [pk_un e2]; exact g3
  · intro q q' hq hq' hne he
    by_cases e : q = p
    · subst e; exact pk_us
    · by_cases e2 : q' = p
      · subst e2
        rw [he]; exact pk_us
      · rw [pk_un e, pk_un e2] at he
        rw [pk_un e]
        exact h4 q q' hq hq' hne he
  · intro k hk
    by_cases e : k = j
    · subst e
      rw [pk_us, show vf_upd le k y k = y from if_pos rfl]
      exact Or.inr ⟨Or.inl rfl, hz⟩
    · rw [pk_un e, show vf_upd le j y k = le k from if_neg e]
      exact h5 k hk
/-- the law's rows hold what the class's rows hold -/
def tw (n P : Nat) (pl dr sp ow gr we du sa : Nat → Int32) (pr rc : Nat → Nat → Int32) : Prop :=
  (∀ q, q < P → pr q 0 = pl q ∧ pr q 1 = dr q ∧ pr q 2 = sp q) ∧ (∀ k, k < n → rc k 0 = ow k ∧ rc k 1 = gr k ∧ rc k 2 = we k ∧ rc k 3 = du k ∧ rc k 4 = sa k)
theorem tw_p {n P p : Nat} {pl dr sp ow gr we du sa pl' dr' sp' : Nat → Int32} {pr rc : Nat → Nat → Int32} {f : Nat → Int32} (h : tw n P pl dr sp ow gr we du sa pr rc) (h1 : ∀ q, q ≠ p → pl' q = pl q ∧ dr' q = dr q ∧ sp' q = sp q) (h2 : f 0 = pl' p ∧ f 1 = dr' p ∧ f 2 = sp' p) : tw n P pl' dr' sp' ow gr we du sa (vf_upd pr p f) rc := by
  refine ⟨fun q hq => ?_, h.2⟩
  by_cases e : q = p
  · subst e
    rw [show vf_upd pr q f q = f from if_pos rfl]
    exact h2
  · rw [show vf_upd pr p f q = pr q from if_neg e]
    obtain ⟨a1, a2, a3⟩ := h1 q e
    rw [a1, a2, a3]
    exact h.1 q hq
theorem tw_k {n P j : Nat} {pl dr sp ow gr we du sa : Nat → Int32} {pr rc : Nat → Nat → Int32} {v : Int32} (h : tw n P pl dr sp ow gr we du sa pr rc) : tw n P pl dr sp ow gr we du (upd sa j v) pr (vf_upd rc j (upd (rc j) 4 v)) := by
  refine ⟨h.1, fun k hk => ?_⟩
  by_cases e : k = j
  · subst e
    rw [show vf_upd rc k (upd (rc k) 4 v) k = upd (rc k) 4 v from if_pos rfl, pk_us]
    obtain ⟨a0, a1, a2, a3, a4⟩ := h.2 k hk
    exact ⟨(pk_un (by decide)).trans a0, (pk_un (by decide)).trans a1, (pk_un (by decide)).trans a2, (pk_un (by decide)).trans a3, pk_us.symm⟩
  · rw [show vf_upd rc j (upd (rc j) 4 v) k = rc k from if_neg e, pk_un e]
    exact h.2 k hk
theorem wt_upd2 {f : Nat → UInt32} {p : Nat} {a b : UInt32} : vf_upd (vf_upd f p a) p b = vf_upd f p b := by
  funext q
  unfold vf_upd
  by_cases e : q = p
  · rw [if_pos e, if_pos e]
  · rw [if_neg e, if_neg e, if_neg e]
