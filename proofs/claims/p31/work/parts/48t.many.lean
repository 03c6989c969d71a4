/-! many ticks -/
section
variable {n P m g s a b T : Nat} {su : UInt64} {sc : Int32} {gr ow we du : Nat → Int32}
theorem tg_pass (hm : m < 30) (hsu : vr su (-16) 16) (hgg : g ≤ 3) (hs : s ≤ 4) (ha : a < 48) (hb : b < 48) (hn : n ≤ 10) (hP : P ≤ 3) (hT : T ≤ 1000) (hg : ∀ k, k < n → gr k = 0 ∨ gr k = 1 ∨ gr k = 2) :
    ∀ (d i t fuel fuel2 : Nat) (ee : Int32) (lv fo : UInt64) (si : UInt32) (dl : Nat → UInt32) (pl dr sp sa : Nat → Int32) (le : Nat → UInt64) (pr rc : Nat → Nat → Int32), i + d = T → d < fuel → d < fuel2 → t + d < 6900 → ps n P lv si fo dl pl dr le sa → tw n P pl dr sp ow gr we du sa pr rc →
    ∃ (ee' : Int32) (lv' fo' : UInt64) (si' : UInt32) (dl' : Nat → UInt32) (pl' dr' sp' sa' : Nat → Int32) (le' : Nat → UInt64) (pr' rc' : Nat → Nat → Int32),
      f_X1_letGoBy_2 (nI a) (nI b) (nI m) su (nI g) (nI s) sc (nI n) gr (nI P) (nI T) fuel (nI i) ee (nI t) lv si fo sa le dl pl dr sp = (ee', nI (t + d), lv', si', fo', sa', le', dl', pl', dr', sp') ∧
      f_X6_pass_2 (nI m) su (nI g) (nI s) sc (nI a) (nI b) (nI T) P fuel2 (nI i) (nI t) lv si fo ee dl le pr rc = (nI T, nI (t + d), lv', si', fo', ee', dl', le', pr', rc') ∧
      n_X1_letGoBy_2 (nI a) (nI b) (nI m) su (nI g) (nI s) sc (nI n) gr (nI P) (nI T) fuel (nI i) ee (nI t) lv si fo sa le dl pl dr sp ∧
      n_X6_pass_2 (nI m) su (nI g) (nI s) sc (nI a) (nI b) (nI T) P n fuel2 (nI i) (nI t) lv si fo ee dl le pr rc ∧
      ps n P lv' si' fo' dl' pl' dr' le' sa' ∧ mr sa sa' ∧ tw n P pl' dr' sp' ow gr we du sa' pr' rc' := by
  intro d
  induction d with
  | zero =>
    intro i t fuel fuel2 ee lv fo si dl pl dr sp sa le pr rc hi hf hf2 ht h hw
    obtain ⟨f, rfl⟩ : ∃ f, fuel = f + 1 := ⟨fuel - 1, by omega⟩
    obtain ⟨f2, rfl⟩ : ∃ f, fuel2 = f + 1 := ⟨fuel2 - 1, by omega⟩
    have hiT : i = T := by omega
    subst hiT
    have hle : nI i ≤ nI i := nI_le (Nat.le_refl _) (by omega)
    refine ⟨ee, lv, fo, si, dl, pl, dr, sp, sa, le, pr, rc, ?_, ?_, ?_, ?_, h, mr.rf, hw⟩
    · rw [f_X1_letGoBy_2.eq_2, if_pos hle, Nat.add_zero]
    · rw [f_X6_pass_2.eq_2, if_pos hle, Nat.add_zero]
    · rw [n_X1_letGoBy_2.eq_2]
      exact ⟨fun c => absurd hle c, fun c => absurd hle c⟩
    · rw [n_X6_pass_2.eq_2]
      exact ⟨fun c => absurd hle c, fun c => absurd hle c⟩
  | succ d ih =>
    intro i t fuel fuel2 ee lv fo si dl pl dr sp sa le pr rc hi hf hf2 ht h hw
    obtain ⟨f, rfl⟩ : ∃ f, fuel = f + 1 := ⟨fuel - 1, by omega⟩
    obtain ⟨f2, rfl⟩ : ∃ f, fuel2 = f + 1 := ⟨fuel2 - 1, by omega⟩
    have hlt : ¬ nI T ≤ nI i := nI_ge (by omega) (by omega)
    have h1 : nI i + 1 = nI (i + 1) := nI_1 i
    obtain ⟨ee1, lv1, fo1, si1, dl1, pl1, dr1, sp1, sa1, le1, pr1, rc1, a1, a2, a3, a4, a5, a6, a7⟩ := tg_go (ee := ee) (sc := sc) hm (by omega : t < 6900) hsu hgg hs ha hb hn hP hg h hw
    obtain ⟨ee3, lv3, fo3, si3, dl3, pl3, dr3, sp3, sa3, le3, pr3, rc3, b1, b2, b3, b4, b5, b6, b7⟩ := ih (i + 1) (t + 1) f f2 ee1 lv1 fo1 si1 dl1 pl1 dr1 sp1 sa1 le1 pr1 rc1 (by omega) (by omega) (by omega) (by omega) a5 a7
    refine ⟨ee3, lv3, fo3, si3, dl3, pl3, dr3, sp3, sa3, le3, pr3, rc3, ?_, ?_, ?_, ?_, b5, a6.tr b6, b7⟩
    · rw [f_X1_letGoBy_2.eq_2, if_neg hlt, a1, h1]
      try dsimp only
      rw [b1, show t + 1 + d = t + (d + 1) by omega]
    · rw [f_X6_pass_2.eq_2, if_neg hlt, a2, h1]
      try dsimp only
      rw [b2, show t + 1 + d = t + (d + 1) by omega]
    · rw [n_X1_letGoBy_2.eq_2]
      refine ⟨fun _ => a3, fun _ => ?_⟩
      intro u4 u5 u6 u7 u8 u9 u10 u11 u12 u13 u14 e
      rw [a1] at e
      cases e
      rw [h1]
      exact b3
    · rw [n_X6_pass_2.eq_2]
      refine ⟨fun _ => a4, fun _ => ?_⟩
      intro u4 u5 u6 u7 u8 u9 u10 u11 u12 e
      rw [a2] at e
      cases e
      rw [h1]
      exact b4
end
/-- what a tick changes of the class's mill; and what it only reads -/
abbrev tq := Int32 × Int32 × UInt64 × UInt32 × UInt64 × (Nat → Int32) × (Nat → UInt64) × (Nat → UInt32) × (Nat → Int32) × (Nat → Int32) × (Nat → Int32)
abbrev TP := Nat × Nat × Nat × Nat × Nat × Nat × Nat × UInt64 × Int32 × (Nat → Int32)
def TP.a (p : TP) : Nat := p.1
def TP.b (p : TP) : Nat := p.2.1
def TP.m (p : TP) : Nat := p.2.2.1
def TP.g (p : TP) : Nat := p.2.2.2.1
def TP.s (p : TP) : Nat := p.2.2.2.2.1
def TP.n (p : TP) : Nat := p.2.2.2.2.2.1
def TP.P (p : TP) : Nat := p.2.2.2.2.2.2.1
def TP.su (p : TP) : UInt64 := p.2.2.2.2.2.2.2.1
def TP.sc (p : TP) : Int32 := p.2.2.2.2.2.2.2.2.1
def TP.gr (p : TP) : Nat → Int32 := p.2.2.2.2.2.2.2.2.2
def TP.ws (p : TP) (k : Nat) : TP := (p.a, p.b, p.m, p.g, k, p.n, p.P, p.su, p.sc, p.gr)
def TP.ok (p : TP) : Prop := p.m < 30 ∧ vr p.su (-16) 16 ∧ p.g ≤ 3 ∧ p.s ≤ 4 ∧ p.a < 48 ∧ p.b < 48 ∧ p.n ≤ 10 ∧ p.P ≤ 3 ∧ (∀ k, k < p.n → p.gr k = 0 ∨ p.gr k = 1 ∨ p.gr k = 2)
def tG (p : TP) : tq → tq
  | (ee, tk, lv, si, _, sa, le, dl, pl, dr, sp) => f_X1_goBy (nI p.a) (nI p.b) ee tk (nI p.m) p.su lv si (nI p.g) (nI p.s) p.sc (nI p.n) p.gr sa le (nI p.P) dl pl dr sp
def tN (p : TP) : tq → Prop
  | (_, tk, lv, si, _, sa, le, dl, pl, dr, sp) => n_X1_goBy (nI p.a) (nI p.b) tk (nI p.m) p.su lv si (nI p.g) (nI p.s) p.sc (nI p.n) p.gr sa le (nI p.P) dl pl dr sp
def tI (p : TP) (t : Nat) : tq → Prop
  | (_, tk, lv, si, fo, sa, le, dl, pl, dr, _) => tk = nI t ∧ ps p.n p.P lv si fo dl pl dr le sa
def tsa (q : tq) : Nat → Int32 := q.2.2.2.2.2.1
def tle (q : tq) : Nat → UInt64 := q.2.2.2.2.2.2.1
theorem tG_ok {p : TP} (hp : p.ok) {t : Nat} (ht : t < 6900) : ∀ {q : tq}, tI p t q → tI p (t + 1) (tG p q) ∧ mr (tsa q) (tsa (tG p q)) ∧ tN p q := by
  rintro ⟨ee, tk, lv, si, fo, sa, le, dl, pl, dr, sp⟩ ⟨h1, h2⟩
  have h1' : tk = nI t := h1
  subst h1'
  obtain ⟨k1, k2, k3, k4, k5, k6, k7, k8, k9⟩ := hp
  obtain ⟨ee1, lv1, fo1, si1, dl1, pl1, dr1, sp1, sa1, le1, pr1, rc1, a1, -, a3, -, a5, a6, -⟩ := tg_go (ee := ee) (sc := p.sc) (sp := sp) (ow := fun _ => 0) (we := fun _ => 0) (du := fun _ => 0) (pr := fun q i => if i = 0 then pl q else if i = 1 then dr q else sp q) (rc := fun k i => if i = 1 then p.gr k else if i = 4 then sa k else 0) k1 ht k2 k3 k4 k5 k6 k7 k8 k9 h2 ⟨fun q _ => ⟨rfl, rfl, rfl⟩, fun k _ => ⟨rfl, rfl, rfl, rfl, rfl⟩⟩
  have e : tG p (ee, nI t, lv, si, fo, sa, le, dl, pl, dr, sp) = (ee1, nI (t + 1), lv1, si1, fo1, sa1, le1, dl1, pl1, dr1, sp1) := a1
  rw [e]
  exact ⟨⟨rfl, a5⟩, a6, a3⟩
def itG (p : TP) : Nat → tq → tq
  | 0, q => q
  | k + 1, q => itG p k (tG p q)
theorem itG_add (p : TP) (j : Nat) : ∀ (k : Nat) (q : tq), itG p (k + j) q = itG p j (itG p k q) := by
  intro k
  induction k with
  | zero => intro q; rw [Nat.zero_add]; rfl
  | succ k ih =>
    intro q
    rw [show k + 1 + j = (k + j) + 1 by omega]
    show itG p (k + j) (tG p q) = itG p j (itG p k (tG p q))
    exact ih _
theorem itG_ok {p : TP} (hp : p.ok) : ∀ (k : Nat) {t : Nat} {q : tq}, t + k < 6900 → tI p t q → tI p (t + k) (itG p k q) ∧ mr (tsa q) (tsa (itG p k q)) := by
  intro k
  induction k with
  | zero => intro t q _ h; exact ⟨h, mr.rf⟩
  | succ k ih =>
    intro t q ht h
    obtain ⟨a1, a2, -⟩ := tG_ok hp (by omega : t < 6900) h
    obtain ⟨b1, b2⟩ := ih (t := t + 1) (by omega) a1
    rw [show t + (k + 1) = t + 1 + k by omega]
    exact ⟨b1, a2.tr b2⟩
/-- ticks let go by -/
def tL (p : TP) (T fuel : Nat) (i : Int32) : tq → tq
  | (ee, tk, lv, si, fo, sa, le, dl, pl, dr, sp) => f_X1_letGoBy_2 (nI p.a) (nI p.b) (nI p.m) p.su (nI p.g) (nI p.s) p.sc (nI p.n) p.gr (nI p.P) (nI T) fuel i ee tk lv si fo sa le dl pl dr sp
def tLN (p : TP) (T fuel : Nat) (i : Int32) : tq → Prop
  | (ee, tk, lv, si, fo, sa, le, dl, pl, dr, sp) => n_X1_letGoBy_2 (nI p.a) (nI p.b) (nI p.m) p.su (nI p.g) (nI p.s) p.sc (nI p.n) p.gr (nI p.P) (nI T) fuel i ee tk lv si fo sa le dl pl dr sp
theorem itG_s (p : TP) (k : Nat) (q : tq) : itG p (k + 1) q = itG p k (tG p q) := rfl
theorem itG_0 (p : TP) (q : tq) : itG p 0 q = q := rfl
theorem tL_e {p : TP} {T fuel : Nat} {i : Int32} {ee tk : Int32} {lv fo : UInt64} {si : UInt32} {sa pl dr sp : Nat → Int32} {le : Nat → UInt64} {dl : Nat → UInt32} : tL p T fuel i (ee, tk, lv, si, fo, sa, le, dl, pl, dr, sp) = f_X1_letGoBy_2 (nI p.a) (nI p.b) (nI p.m) p.su (nI p.g) (nI p.s) p.sc (nI p.n) p.gr (nI p.P) (nI T) fuel i ee tk lv si fo sa le dl pl dr sp := rfl
theorem tLN_e {p : TP} {T fuel : Nat} {i : Int32} {ee tk : Int32} {lv fo : UInt64} {si : UInt32} {sa pl dr sp : Nat → Int32} {le : Nat → UInt64} {dl : Nat → UInt32} : tLN p T fuel i (ee, tk, lv, si, fo, sa, le, dl, pl, dr, sp) = n_X1_letGoBy_2 (nI p.a) (nI p.b) (nI p.m) p.su (nI p.g) (nI p.s) p.sc (nI p.n) p.gr (nI p.P) (nI T) fuel i ee tk lv si fo sa le dl pl dr sp := rfl
theorem tL_ok {p : TP} (hp : p.ok) {T : Nat} (hT : T ≤ 1000) : ∀ (d i t fuel : Nat) (q : tq), i + d = T → d < fuel → t + d < 6900 → tI p t q → tL p T fuel (nI i) q = itG p d q ∧ tLN p T fuel (nI i) q := by
  intro d
  induction d with
  | zero =>
    rintro i t fuel ⟨ee, tk, lv, si, fo, sa, le, dl, pl, dr, sp⟩ hi hf ht h
    obtain ⟨f, rfl⟩ : ∃ f, fuel = f + 1 := ⟨fuel - 1, by omega⟩
    have hiT : i = T := by omega
    subst hiT
    have hle : nI i ≤ nI i := nI_le (Nat.le_refl _) (by omega)
    refine ⟨?_, ?_⟩
    · rw [tL_e, f_X1_letGoBy_2.eq_2, if_pos hle, itG_0]
    · rw [tLN_e, n_X1_letGoBy_2.eq_2]
      exact ⟨fun c => absurd hle c, fun c => absurd hle c⟩
  | succ d ih =>
    rintro i t fuel ⟨ee, tk, lv, si, fo, sa, le, dl, pl, dr, sp⟩ hi hf ht h
    obtain ⟨f, rfl⟩ : ∃ f, fuel = f + 1 := ⟨fuel - 1, by omega⟩
    have hlt : ¬ nI T ≤ nI i := nI_ge (by omega) (by omega)
    have h1 : nI i + 1 = nI (i + 1) := nI_1 i
    obtain ⟨a1, -, a3⟩ := tG_ok hp (by omega : t < 6900) h
    have a3' : n_X1_goBy (nI p.a) (nI p.b) tk (nI p.m) p.su lv si (nI p.g) (nI p.s) p.sc (nI p.n) p.gr sa le (nI p.P) dl pl dr sp := a3
    rcases hg : f_X1_goBy (nI p.a) (nI p.b) ee tk (nI p.m) p.su lv si (nI p.g) (nI p.s) p.sc (nI p.n) p.gr sa le (nI p.P) dl pl dr sp with ⟨ee1, tk1, lv1, si1, fo1, sa1, le1, dl1, pl1, dr1, sp1⟩
    have e : tG p (ee, tk, lv, si, fo, sa, le, dl, pl, dr, sp) = (ee1, tk1, lv1, si1, fo1, sa1, le1, dl1, pl1, dr1, sp1) := hg
    obtain ⟨b1, b2⟩ := ih (i + 1) (t + 1) f _ (by omega) (by omega) (by omega) a1
    rw [e] at b1 b2
    rw [tLN_e] at b2
    refine ⟨?_, ?_⟩
    · rw [tL_e] at b1
      rw [tL_e, f_X1_letGoBy_2.eq_2, if_neg hlt, hg, h1, itG_s, e]
      exact b1
    · rw [tLN_e, n_X1_letGoBy_2.eq_2]
      refine ⟨fun _ => a3', fun _ => ?_⟩
      intro u4 u5 u6 u7 u8 u9 u10 u11 u12 u13 u14 e9
      rw [hg] at e9
      cases e9
      rw [h1]
      exact b2
/-- when a lot is done -/
def tD (p : TP) (j fuel : Nat) (i : Int32) : tq → Int32
  | (ee, tk, lv, si, fo, sa, le, dl, pl, dr, sp) => f_X5_ticksToDone_44 (nI p.a) (nI p.b) (nI p.m) p.su (nI p.g) (nI p.s) p.sc (nI p.n) p.gr (nI p.P) (nI j) fuel i ee tk lv si fo sa le dl pl dr sp
def tDN (p : TP) (j fuel : Nat) (i : Int32) : tq → Prop
  | (ee, tk, lv, si, fo, sa, le, dl, pl, dr, sp) => n_X5_ticksToDone_44 (nI p.a) (nI p.b) (nI p.m) p.su (nI p.g) (nI p.s) p.sc (nI p.n) p.gr (nI p.P) (nI j) fuel i ee tk lv si fo sa le dl pl dr sp
theorem tD_e {p : TP} {j fuel : Nat} {i : Int32} {ee tk : Int32} {lv fo : UInt64} {si : UInt32} {sa pl dr sp : Nat → Int32} {le : Nat → UInt64} {dl : Nat → UInt32} : tD p j fuel i (ee, tk, lv, si, fo, sa, le, dl, pl, dr, sp) = f_X5_ticksToDone_44 (nI p.a) (nI p.b) (nI p.m) p.su (nI p.g) (nI p.s) p.sc (nI p.n) p.gr (nI p.P) (nI j) fuel i ee tk lv si fo sa le dl pl dr sp := rfl
theorem tDN_e {p : TP} {j fuel : Nat} {i : Int32} {ee tk : Int32} {lv fo : UInt64} {si : UInt32} {sa pl dr sp : Nat → Int32} {le : Nat → UInt64} {dl : Nat → UInt32} : tDN p j fuel i (ee, tk, lv, si, fo, sa, le, dl, pl, dr, sp) = n_X5_ticksToDone_44 (nI p.a) (nI p.b) (nI p.m) p.su (nI p.g) (nI p.s) p.sc (nI p.n) p.gr (nI p.P) (nI j) fuel i ee tk lv si fo sa le dl pl dr sp := rfl
theorem tD_ok {p : TP} (hp : p.ok) {j : Nat} (hj : j < 10) : ∀ (d i t fuel : Nat) (q : tq), i + d = 301 → d < fuel → t + d < 6900 → tI p t q → tsa q j = 1 →
    (tD p j fuel (nI i) q = -1 ∨ ∃ k, k < d ∧ tD p j fuel (nI i) q = nI (i + k) ∧ tsa (itG p k q) j = 1 ∧ tsa (itG p (k + 1) q) j = 2) ∧ tDN p j fuel (nI i) q := by
  intro d
  have hcj : (nI j).toNatClampNeg = j := nI_clamp (by omega)
  have ij : vp_in (nI j) 10 := vp_in_nI hj (by decide)
  induction d with
  | zero =>
    rintro i t fuel ⟨ee, tk, lv, si, fo, sa, le, dl, pl, dr, sp⟩ hi hf ht h hsj
    obtain ⟨f, rfl⟩ : ∃ f, fuel = f + 1 := ⟨fuel - 1, by omega⟩
    have hiT : i = 301 := by omega
    subst hiT
    have hle : (300 : Int32) < nI 301 := by decide
    refine ⟨Or.inl ?_, ?_⟩
    · rw [tD_e, f_X5_ticksToDone_44.eq_2, if_pos hle]
    · rw [tDN_e, n_X5_ticksToDone_44.eq_2]
      exact ⟨fun c => absurd hle c, fun c => absurd hle c, fun c => absurd hle c⟩
  | succ d ih =>
    rintro i t fuel ⟨ee, tk, lv, si, fo, sa, le, dl, pl, dr, sp⟩ hi hf ht h hsj
    obtain ⟨f, rfl⟩ : ∃ f, fuel = f + 1 := ⟨fuel - 1, by omega⟩
    have hlt : ¬ (300 : Int32) < nI i := nI_nlt (a := 300) (by omega) (by omega)
    have h1 : nI i + 1 = nI (i + 1) := nI_1 i
    obtain ⟨a1, a2, a3⟩ := tG_ok hp (by omega : t < 6900) h
    have a3' : n_X1_goBy (nI p.a) (nI p.b) tk (nI p.m) p.su lv si (nI p.g) (nI p.s) p.sc (nI p.n) p.gr sa le (nI p.P) dl pl dr sp := a3
    rcases hg : f_X1_goBy (nI p.a) (nI p.b) ee tk (nI p.m) p.su lv si (nI p.g) (nI p.s) p.sc (nI p.n) p.gr sa le (nI p.P) dl pl dr sp with ⟨ee1, tk1, lv1, si1, fo1, sa1, le1, dl1, pl1, dr1, sp1⟩
    have e : tG p (ee, tk, lv, si, fo, sa, le, dl, pl, dr, sp) = (ee1, tk1, lv1, si1, fo1, sa1, le1, dl1, pl1, dr1, sp1) := hg
    rw [e] at a1 a2
    have a2' : sa1 j = sa j ∨ sa j = 1 ∧ sa1 j = 2 := a2 j
    have hsj' : sa j = 1 := hsj
    by_cases c : sa1 j = 2
    · refine ⟨Or.inr ⟨0, by omega, ?_, hsj, ?_⟩, ?_⟩
      · rw [tD_e, f_X5_ticksToDone_44.eq_2, if_neg hlt, hg]
        try dsimp only
        rw [hcj, if_pos c]
        rfl
      · rw [itG_s, itG_0, e]
        exact c
      · rw [tDN_e, n_X5_ticksToDone_44.eq_2]
        refine ⟨fun _ => a3', fun _ => ?_, fun _ => ?_⟩
        · intro u4 u5 u6 u7 u8 u9 u10 u11 u12 u13 u14 e9
          exact ij
        · intro u4 u5 u6 u7 u8 u9 u10 u11 u12 u13 u14 e9 h9
          rw [hg] at e9
          cases e9
          rw [hcj] at h9
          exact absurd c h9
    · have hs1 : sa1 j = 1 := by
        rcases a2' with q | ⟨-, q⟩
        · rw [q]; exact hsj'
        · exact absurd q c
      obtain ⟨b1, b2⟩ := ih (i + 1) (t + 1) f (ee1, tk1, lv1, si1, fo1, sa1, le1, dl1, pl1, dr1, sp1) (by omega) (by omega) (by omega) a1 hs1
      refine ⟨?_, ?_⟩
      · have E : tD p j (f + 1) (nI i) (ee, tk, lv, si, fo, sa, le, dl, pl, dr, sp) = tD p j f (nI (i + 1)) (ee1, tk1, lv1, si1, fo1, sa1, le1, dl1, pl1, dr1, sp1) := by
          rw [tD_e, tD_e, f_X5_ticksToDone_44.eq_2, if_neg hlt, hg]
          try dsimp only
          rw [hcj, if_neg c, h1]
        rw [E]
        rcases b1 with b1 | ⟨k, hk, c1, c2, c3⟩
        · exact Or.inl b1
        · refine Or.inr ⟨k + 1, by omega, by rw [c1, show i + 1 + k = i + (k + 1) by omega], ?_, ?_⟩
          · rw [itG_s, e]; exact c2
          · rw [itG_s, e]; exact c3
      · rw [tDN_e, n_X5_ticksToDone_44.eq_2]
        refine ⟨fun _ => a3', fun _ => ?_, fun _ => ?_⟩
        · intro u4 u5 u6 u7 u8 u9 u10 u11 u12 u13 u14 e9
          exact ij
        · intro u4 u5 u6 u7 u8 u9 u10 u11 u12 u13 u14 e9 h9
          rw [hg] at e9
          cases e9
          rw [h1]
          exact b2
