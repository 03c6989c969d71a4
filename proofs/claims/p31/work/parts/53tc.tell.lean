/-! stones dressed, lots given, ticks passed, as the law tells them -/
theorem one_E : (FP.Core.one64 : Int) = 8 * fl_E := by decide +kernel
theorem one_p : (0 : Int) < (FP.Core.one64 : Int) := by decide +kernel
theorem ru_all {x : UInt64} (hv : vr x 0 64) : ∃ c : Nat, c ≤ 8 ∧ f_X5_roundedUp x = nI c ∧ zd x ≤ (c : Int) * (FP.Core.one64 : Int) ∧ ∀ k : Nat, k < c → (k : Int) * (FP.Core.one64 : Int) < zd x := by
  have h := hv.ok
  have hl : 0 ≤ zd x := by
    have := hv.2.1
    rw [Int.zero_mul] at this
    exact this
  by_cases e : zd x = 0
  · have h1 := (FP.Core.zval_eq_zero h).mp e
    have h2 := x.toNat_lt
    refine ⟨0, by decide, ?_, by rw [e]; exact Int.le_of_eq (Int.zero_mul _).symm, fun k hk => absurd hk (Nat.not_lt_zero k)⟩
    rcases Nat.lt_or_ge x.toNat (2 ^ 63) with c | c
    · have : x = 0 := UInt64.toNat.inj (by show x.toNat = 0; omega)
      rw [this]
      decide +kernel
    · have : x = 9223372036854775808 := UInt64.toNat.inj (by show x.toNat = 9223372036854775808; omega)
      rw [this]
      decide +kernel
  · have h0 : 0 < zd x := by omega
    have hu := hv.2.2
    have hp := one_p
    have he := one_E
    have q0 : 0 ≤ zd x / (FP.Core.one64 : Int) := Int.ediv_nonneg hl (Int.le_of_lt hp)
    have q1 : zd x / (FP.Core.one64 : Int) * (FP.Core.one64 : Int) ≤ zd x := Int.ediv_mul_le _ (Int.ne_of_gt hp)
    have q2 : zd x < (zd x / (FP.Core.one64 : Int) + 1) * (FP.Core.one64 : Int) := Int.lt_ediv_add_one_mul_self _ hp
    obtain ⟨i, hi⟩ := Int.eq_ofNat_of_zero_le q0
    rw [hi] at q1 q2
    have h8 : zd x ≤ 8 * (FP.Core.one64 : Int) := by rw [he]; omega
    have hi8 : i ≤ 8 := Nat.le_of_not_lt fun c => by
      have : (9 : Int) * (FP.Core.one64 : Int) ≤ (i : Int) * (FP.Core.one64 : Int) := Int.mul_le_mul_of_nonneg_right (by omega) (Int.le_of_lt hp)
      omega
    obtain ⟨c1, c2⟩ := cl_ru h h0 hi8 q1 (by rw [Int.natCast_add]; exact q2)
    by_cases c : zd x = (i : Int) * (FP.Core.one64 : Int)
    · refine ⟨i, hi8, c1 c, Int.le_of_eq c, fun k hk => ?_⟩
      rw [c]
      exact Int.mul_lt_mul_of_pos_right (by omega) hp
    · have hlt : (i : Int) * (FP.Core.one64 : Int) < zd x := by omega
      refine ⟨i + 1, ?_, c2 c, ?_, fun k hk => ?_⟩
      · refine Nat.lt_of_le_of_ne hi8 fun e8 => ?_
        subst e8
        have : ((8 : Nat) : Int) = 8 := rfl
        rw [this] at hlt
        omega
      · rw [Int.natCast_add]
        exact Int.le_of_lt q2
      · have : (k : Int) * (FP.Core.one64 : Int) ≤ (i : Int) * (FP.Core.one64 : Int) := Int.mul_le_mul_of_nonneg_right (by omega) (Int.le_of_lt hp)
        omega
section
variable {L : Nat} {xs : Nat → Int32} {d t n P : Nat} {dl : Nat → UInt32} {pl dr sp ow gr we du sa : Nat → Int32} {le : Nat → UInt64} {pr rc : Nat → Nat → Int32}
theorem dress_loop {p c : Nat} (hp : p < 3) (hc8 : c ≤ 8) (e : (f_X6_draw (nI d) (nI P) L xs).1 = nI p) (hd : fr (dl p) 8) (hv : vr (FP.dmul 4620693217682128896 (FP.f2d (dl p))) 0 64) (h1 : zd (FP.dmul 4620693217682128896 (FP.f2d (dl p))) ≤ (c : Int) * (FP.Core.one64 : Int)) (h2 : ∀ k : Nat, k < c → (k : Int) * (FP.Core.one64 : Int) < zd (FP.dmul 4620693217682128896 (FP.f2d (dl p)))) :
    ∀ (fuel k : Nat), k ≤ c → c - k < fuel → f_X6_dress_36 (nI d) dl P L xs fuel (nI k) = nI c ∧ n_X6_dress_36 (nI d) dl P L xs fuel (nI k) := by
  have hcp : (nI p).toNatClampNeg = p := nI_clamp (by omega)
  have hfd := hd.f2d (by decide) (by decide)
  intro fuel
  induction fuel with
  | zero => intro k hk hf; omega
  | succ fuel ih =>
    intro k hk hf
    obtain ⟨z1, z2⟩ := cl_zi (nI k)
    rw [nI_toInt (by omega)] at z2
    have hiff : (0 ≤ (Op.cmpValue (FP.dcmp (FP.i2d (nI k)) (FP.dmul 4620693217682128896 (FP.f2d (dl p)))) .g)) ↔ zd (FP.dmul 4620693217682128896 (FP.f2d (dl p))) ≤ (k : Int) * (FP.Core.one64 : Int) := by
      rw [fl_ge0 z1 hv.ok, z2]
    by_cases ck : k = c
    · subst ck
      have c9 := hiff.mpr h1
      refine ⟨?_, ?_⟩
      · rw [f_X6_dress_36.eq_2, e, hcp, if_pos c9]
      · rw [n_X6_dress_36.eq_2, e, hcp]
        exact ⟨tx_in3 p hp, hfd.n, hv.n, fun h9 => absurd c9 h9⟩
    · have c9 : ¬ (0 ≤ (Op.cmpValue (FP.dcmp (FP.i2d (nI k)) (FP.dmul 4620693217682128896 (FP.f2d (dl p)))) .g)) := fun h9 => by
        have a := hiff.mp h9
        have b := h2 k (by omega)
        omega
      obtain ⟨b1, b2⟩ := ih (k + 1) (by omega) (by omega)
      refine ⟨?_, ?_⟩
      · rw [f_X6_dress_36.eq_2, e, hcp, if_neg c9, nI_1, b1]
      · rw [n_X6_dress_36.eq_2, e, hcp, nI_1]
        exact ⟨tx_in3 p hp, hfd.n, hv.n, fun _ => b2⟩
/-- a pair dressed -/
theorem dress_E (hL : L ≤ 260) (hd : d < 1000000) (hn : n ≤ 10) (hP : P ≤ 3) (h2 : 1 ≤ P) (h : ti n P dl pl dr le sa) (hw : tw n P pl dr sp ow gr we du sa pr rc) :
    ∃ (pr' : Nat → Nat → Int32) (dr' : Nat → Int32), f_X6_dress (nI d) dl dl dr P pr L xs = (pr', nI (d + 1), dr') ∧ n_X6_dress (nI d) dl (nI P) dl pl dr P pr L xs ∧ ti n P dl pl dr' le sa ∧ tw n P pl dr' sp ow gr we du sa pr' rc := by
  obtain ⟨p, hp, e1⟩ := dr_draw (nI d) L xs (N := P) (by omega) (by omega)
  have s1 : nI d + 1 = nI (d + 1) := nI_1 d
  have hcp : (nI p).toNatClampNeg = p := nI_clamp (by omega)
  have n1 : n_X6_draw (nI d) (nI P) L := dr_drawN (by omega) hL (by omega) (by omega)
  obtain ⟨w0, w1, w2⟩ := hw.1 p hp
  have ip3 : vp_in (nI p) 3 := tx_in3 p (by omega)
  have hfd := (h.1 p).f2d (by decide) (by decide)
  have hv : vr (FP.dmul 4620693217682128896 (FP.f2d (dl p))) 0 64 := vc_8.mul hfd 0 64 (by decide) (by decide) (by decide) (by decide) (by decide) (by decide)
  obtain ⟨c, c8, ce, c1, c2⟩ := ru_all hv
  obtain ⟨l1, l2⟩ := dress_loop (d := d) (P := P) (L := L) (xs := xs) (p := p) (by omega) c8 e1 (h.1 p) hv c1 c2 10 0 (by omega) (by omega)
  rw [show nI 0 = 0 from nI_0] at l1 l2
  have a3 : (3 : Int32) + nI c = nI (3 + c) := nI_add 3 c
  have E : f_X5_dress dl dr (nI p) = (nI (3 + c), upd dr p (nI (3 + c))) := by
    unfold f_X5_dress
    rw [hcp, ce, a3, pk_us]
  by_cases c0 : pl p = -1 ∧ dr p = 0
  · obtain ⟨f1, f2⟩ := c0
    have d1 : ¬ (0 : Int32) ≤ pr p 0 := by rw [w0, f1]; decide
    have d2 : pr p 1 ≤ 0 := by rw [w1, f2]; decide
    obtain ⟨q1, q2, q3, q4, q5, q6⟩ := h
    refine ⟨vf_upd pr p (upd (pr p) 1 (nI (3 + c))), upd dr p (nI (3 + c)), ?_, ?_, ⟨q1, q2, q3, q4, q5, ?_⟩, tw_p hw (fun q e => ⟨rfl, pk_un e, rfl⟩) ⟨(pk_un (by decide)).trans w0, pk_us.trans pk_us.symm, (pk_un (by decide)).trans w2⟩⟩
    · unfold f_X6_dress
      rw [e1, hcp, tx_c0, if_neg d1, tx_c1, if_pos d2, l1]
      try dsimp only
      rw [E, a3, s1]
    · unfold n_X6_dress
      rw [e1, hcp, tx_c0, tx_c1]
      refine ⟨n1, vp_in_nI hp (by omega), tx_in3 0 (by decide), fun _ => tx_in3 1 (by decide), fun _ _ => l2, fun _ _ x e => ⟨tx_has2 hp hP, ?_, ip3, ip3, ?_, ?_⟩, fun _ _ x e r u e9 => ?_⟩
      · unfold f_X2_isFree
        rw [hcp, if_pos f1, if_pos f2]
        decide
      · rw [hcp]; exact hfd.n
      · rw [hcp]; exact hv.n
      · rw [E] at e9
        injection e9 with e8
        rw [e8, e, l1, a3, tx_us, pk_us]
    · intro q
      by_cases e : q = p
      · subst e
        exact ⟨3 + c, by omega, pk_us⟩
      · rw [pk_un e]; exact q6 q
  · have hno : ¬ (¬ (0 : Int32) ≤ pr p 0 ∧ pr p 1 ≤ 0) := fun ⟨a2, a3⟩ => c0 ⟨by
        rcases h.2.2.1 p hp with a | ⟨j', b1, b2, b3⟩
        · exact a
        · rw [w0, b2] at a2
          exact absurd (nI_pos' (by omega)) a2, by
        obtain ⟨c, hc, e⟩ := h.2.2.2.2.2 p
        rw [w1, e] at a3
        have : c ≤ 0 := (nI_leI (b := 0) (by omega) (by decide)).mp a3
        rw [e, show c = 0 by omega]
        exact nI_0⟩
    refine ⟨pr, dr, ?_, ?_, h, hw⟩
    · unfold f_X6_dress
      rw [e1, hcp, tx_c0, tx_c1, s1]
      by_cases a2 : (0 : Int32) ≤ pr p 0
      · rw [if_pos a2]
      · rw [if_neg a2, if_neg (fun a3 => hno ⟨a2, a3⟩)]
    · unfold n_X6_dress
      rw [e1, hcp, tx_c0, tx_c1]
      exact ⟨n1, vp_in_nI hp (by omega), tx_in3 0 (by decide), fun _ => tx_in3 1 (by decide), fun a b => absurd ⟨a, b⟩ hno, fun a b => absurd ⟨a, b⟩ hno, fun a b => absurd ⟨a, b⟩ hno⟩
theorem gv_can {X Y U : Int32} (h : X + U = Y + U) : X = Y := by
  have := congrArg (· - U) h
  simpa [Int32.add_sub_cancel] using this
theorem gv_neg : ∀ k, k ≤ 1000 → ¬ (0 : Int32) < 0 - nI k := by decide +kernel
theorem gv_loop (ht : t ≤ 6000) : ∀ (k fuel u : Nat) (x : Int32), u + k = t / 48 → k < fuel → ∃ v, f_X6_give_91 (nI t) fuel x (nI u) = (x - nI k, v) ∧ n_X6_give_91 (nI t) fuel x (nI u) := by
  have hday : nI t / 48 = nI (t / 48) := pk_div (d := 48) (by omega) (by decide) (by decide)
  intro k
  induction k with
  | zero =>
    intro fuel u x hu hf
    obtain ⟨f, rfl⟩ : ∃ f, fuel = f + 1 := ⟨fuel - 1, by omega⟩
    have hle : nI (t / 48) ≤ nI u := nI_le (by omega) (by omega)
    refine ⟨nI u, ?_, ?_⟩
    · rw [f_X6_give_91.eq_2, hday, if_pos hle, show nI 0 = 0 from nI_0, Int32.sub_zero]
    · rw [n_X6_give_91.eq_2, hday]
      exact fun c => absurd hle c
  | succ k ih =>
    intro fuel u x hu hf
    obtain ⟨f, rfl⟩ : ∃ f, fuel = f + 1 := ⟨fuel - 1, by omega⟩
    have hlt : ¬ nI (t / 48) ≤ nI u := nI_ge (by omega) (by omega)
    obtain ⟨v, b1, b2⟩ := ih f (u + 1) (x + (-1)) (by omega) (by omega)
    have e : x + (-1) - nI k = x - nI (k + 1) := by
      refine gv_can (U := nI (k + 1)) ?_
      rw [Int32.sub_add_cancel, ← nI_1, ← Int32.add_assoc, Int32.sub_add_cancel, Int32.add_assoc, show (-1 : Int32) + 1 = 0 from by decide, Int32.add_zero]
    refine ⟨v, ?_, ?_⟩
    · rw [f_X6_give_91.eq_2, hday, if_neg hlt, nI_1, b1, e]
    · rw [n_X6_give_91.eq_2, hday, nI_1]
      exact fun _ => b2
theorem gv_E (ht : t ≤ 6000) {u : Nat} (hu : u ≤ 1000) (x : Int32) : ∃ v, f_X6_give_91 (nI t) 200 x (nI u) = (x - (if 0 < ((f_X4_today (nI t)) - nI u) then ((f_X4_today (nI t)) - nI u) else 0), v) ∧ n_X6_give_91 (nI t) 200 x (nI u) := by
  have hday : nI t / 48 = nI (t / 48) := pk_div (d := 48) (by omega) (by decide) (by decide)
  unfold f_X4_today
  rw [hday]
  rcases Nat.lt_or_ge (t / 48) u with c | c
  · have hle : nI (t / 48) ≤ nI u := nI_le (by omega) (by omega)
    have e : nI (t / 48) - nI u = 0 - nI (u - t / 48) := by
      refine gv_can (U := nI u) ?_
      rw [Int32.sub_add_cancel, show nI u = nI (u - t / 48) + nI (t / 48) from by rw [nI_add, show u - t / 48 + t / 48 = u by omega], ← Int32.add_assoc, Int32.sub_add_cancel, Int32.zero_add]
    rw [e, if_neg (gv_neg _ (by omega)), Int32.sub_zero]
    refine ⟨nI u, ?_, ?_⟩
    · rw [f_X6_give_91.eq_2, hday, if_pos hle]
    · rw [n_X6_give_91.eq_2, hday]
      exact fun c => absurd hle c
  · obtain ⟨k, hk⟩ : ∃ k, u + k = t / 48 := ⟨t / 48 - u, by omega⟩
    obtain ⟨v, b1, b2⟩ := gv_loop ht k 200 u x hk (by omega)
    have e : nI (t / 48) - nI u = nI k := by
      rw [← hk, Nat.add_comm, ← nI_add, Int32.add_sub_cancel]
    rw [e]
    refine ⟨v, ?_, b2⟩
    rw [b1]
    by_cases c0 : k = 0
    · subst c0
      rw [show nI 0 = 0 from nI_0, if_neg (by decide)]
    · have p0 : (0 : Int32) < nI k := nI_lt (a := 0) (by omega) (by omega)
      rw [if_pos p0]
theorem gv_half : ∀ w, w ≤ 60 → (nI w * 2) / 4 = nI w / 2 := by decide +kernel
/-- what is done given -/
theorem give_loop (ht : t ≤ 6000) (hn : n ≤ 10) {to : UInt64} (hto : dok to) (pu : Int32) (h : ti n P dl pl dr le sa) (hw : tw n P pl dr sp ow gr we du sa pr rc) (hg : ∀ k, k < n → gr k = 0 ∨ gr k = 1 ∨ gr k = 2) (hwe : ∀ k, k < n → ∃ w, 1 ≤ w ∧ w ≤ 60 ∧ we k = nI w) (hdu : ∀ k, k < n → ∃ u, u ≤ 1000 ∧ du k = nI u) :
    ∀ (k i fuel : Nat), i + k = n → k < fuel → ∃ (rc' : Nat → Nat → Int32) (pu' : Int32) (to' : UInt64) (sa' : Nat → Int32), f_X6_give_2 (nI t) pu to pu to (nI t) gr we du sa n rc fuel (nI i) = (rc', pu', to', pu', to', sa') ∧ n_X6_give_2 (nI t) to pu to (nI t) (nI n) gr we du sa n rc fuel (nI i) ∧ dok to' ∧ ti n P dl pl dr le sa' ∧ tw n P pl dr sp ow gr we du sa' pr rc' := by
  intro k
  induction k with
  | zero =>
    intro i fuel hi hf
    obtain ⟨f, rfl⟩ : ∃ f, fuel = f + 1 := ⟨fuel - 1, by omega⟩
    have e : i = n := by omega
    subst e
    have hle : nI i ≤ nI i := nI_le (Nat.le_refl _) (by omega)
    refine ⟨rc, pu, to, sa, ?_, ?_, hto, h, hw⟩
    · rw [f_X6_give_2.eq_2, if_pos hle]
    · rw [n_X6_give_2.eq_2]
      exact ⟨fun c => absurd hle c, fun c => absurd hle c, fun c => absurd hle c, fun c => absurd hle c, fun c => absurd hle c, fun c => absurd hle c, fun c => absurd hle c, fun c => absurd hle c, fun c => absurd hle c, fun c => absurd hle c⟩
  | succ k ih =>
    intro i fuel hi hf
    obtain ⟨f, rfl⟩ : ∃ f, fuel = f + 1 := ⟨fuel - 1, by omega⟩
    have hlt : ¬ nI n ≤ nI i := nI_ge (by omega) (by omega)
    have hci : (nI i).toNatClampNeg = i := nI_clamp (by omega)
    have iin : vp_in (nI i) n := vp_in_nI (by omega) (by omega)
    have i10 : vp_in (nI i) 10 := vp_in_nI (by omega) (by decide)
    obtain ⟨v0, v1, v2, v3, v4⟩ := hw.2 i (by omega)
    by_cases c : rc i 4 = 2
    · obtain ⟨w, hw1, hw60, hwe'⟩ := hwe i (by omega)
      obtain ⟨u, hu, hdu'⟩ := hdu i (by omega)
      have csa : sa i = 2 := v4.symm.trans c
      have hv : vr (FP.ddiv (FP.i2d (we i)) 4625196817309499392) 0 30 := by
        rw [hwe']
        exact (vr.int hw60 (by decide)).div (vr.c (l := 128) (u := 128) (by decide +kernel)) 30 (by decide) (by decide) (by decide) (by decide) (by decide)
      have hto2 : dok (FP.dadd to (FP.ddiv (FP.i2d (we i)) 4625196817309499392)) := (FP.Core.notNaN_iff _).mp (FP.Core.dadd_out ((FP.Core.notNaN_iff _).mpr hto) hv.1)
      have r1 : vf_upd rc i (upd (rc i) 4 3) i 1 = gr i := by rw [tx_us, pk_un (by decide), v1]
      have r2 : vf_upd rc i (upd (rc i) 4 3) i 2 = we i := by rw [tx_us, pk_un (by decide), v2]
      have r3 : vf_upd rc i (upd (rc i) 4 3) i 3 = nI u := by rw [tx_us, pk_un (by decide), v3, hdu']
      have hGN : n_X5_give to (nI n) we sa (nI i) := by
        refine ⟨tx_has0 (by omega) hn, ?_, i10, ?_, ?_⟩
        · rw [hci]; exact csa
        · rw [hci]; exact hv.n
        · rw [hci]; exact fl_vf hto2
      have K : ∀ x : Int32, x = (we i * f_X5_priceOf (gr i)) / 4 → ∃ pu', f_X6_give_86 (nI t) pu to pu to (nI t) gr we du sa rc (nI i) x = (vf_upd rc i (upd (rc i) 4 3), pu', FP.dadd to (FP.ddiv (FP.i2d (we i)) 4625196817309499392), pu', FP.dadd to (FP.ddiv (FP.i2d (we i)) 4625196817309499392), upd sa i 3) ∧ n_X6_give_86 (nI t) pu to (nI t) (nI n) gr we du sa rc (nI i) x := by
        intro x hx
        obtain ⟨v, g1, g2⟩ := gv_E ht hu x
        have E : f_X5_give pu to (nI t) gr we du sa (nI i) = (x - (if 0 < ((f_X4_today (nI t)) - nI u) then ((f_X4_today (nI t)) - nI u) else 0), pu + (x - (if 0 < ((f_X4_today (nI t)) - nI u) then ((f_X4_today (nI t)) - nI u) else 0)), FP.dadd to (FP.ddiv (FP.i2d (we i)) 4625196817309499392), upd sa i 3) := by
          unfold f_X5_give
          rw [hci, hdu', ← hx]
        refine ⟨pu + (x - (if 0 < ((f_X4_today (nI t)) - nI u) then ((f_X4_today (nI t)) - nI u) else 0)), ?_, ?_⟩
        · unfold f_X6_give_86
          rw [hci, tx_c4, tx_c3, tx_c2, r3, g1]
          try dsimp only
          rw [E, r2]
        · unfold n_X6_give_86
          rw [hci, tx_c4, tx_c3, r3, g1]
          refine ⟨tx_in5 3 (by decide), g2, fun _ _ _ => hGN, fun a b e r x1 x2 x3 e9 => ?_⟩
          rw [E] at e9
          injection e9 with e8
          injection e with e7
          rw [e8, e7]
      have hti : ti n P dl pl dr le (upd sa i 3) := by
        obtain ⟨q1, q2, q3, q4, q5, q6⟩ := h
        refine ⟨q1, q2, ?_, q4, ?_, q6⟩
        · intro q hq
          rcases q3 q hq with a | ⟨j', a1, a2, a3⟩
          · exact Or.inl a
          · refine Or.inr ⟨j', a1, a2, ?_⟩
            rw [pk_un (fun e9 => by subst e9; rw [csa] at a3; exact absurd a3 (by decide))]
            exact a3
        · intro j hj
          by_cases e : j = i
          · subst e
            rw [pk_us]
            rcases q5 j hj with ⟨a, -⟩ | ⟨-, a⟩
            · rw [csa] at a
              exact absurd a (by decide)
            · exact Or.inr ⟨Or.inr rfl, a⟩
          · rw [pk_un e]; exact q5 j hj
      have htw : tw n P pl dr sp ow gr we du (upd sa i 3) pr (vf_upd rc i (upd (rc i) 4 3)) := tw_k hw
      have P0 : gr i = 0 → (we i * 3) / 4 = (we i * f_X5_priceOf (gr i)) / 4 := fun e => by rw [e]; rfl
      have P1 : gr i = 1 → we i / 2 = (we i * f_X5_priceOf (gr i)) / 4 := fun e => by
        rw [e, hwe']
        exact (gv_half w hw60).symm
      have P2 : ¬ gr i = 0 → ¬ gr i = 1 → we i / 4 = (we i * f_X5_priceOf (gr i)) / 4 := fun a b => by
        unfold f_X5_priceOf
        rw [if_neg a, if_neg b, Int32.mul_one]
      have N : n_X6_give_2 (nI t) to pu to (nI t) (nI n) gr we du sa n rc (f + 1) (nI i) := by
        rw [n_X6_give_2.eq_2, hci, tx_c4, tx_c1, tx_c2, r1, r2]
        exact ⟨fun _ => iin, fun _ => tx_in5 4 (by decide), fun _ _ => tx_in5 2 (by decide), fun _ _ => hv.n, fun _ _ => fl_vf hto2, fun _ _ => tx_in5 1 (by decide), fun _ _ a b => (K _ (P2 a b)).choose_spec.2, fun _ _ _ b => (K _ (P1 b)).choose_spec.2, fun _ _ a => (K _ (P0 a)).choose_spec.2, fun _ c9 => absurd c c9⟩
      by_cases g0 : gr i = 0
      · obtain ⟨pu', k1, -⟩ := K _ (P0 g0)
        refine ⟨_, pu', _, _, ?_, N, hto2, hti, htw⟩
        rw [f_X6_give_2.eq_2, if_neg hlt, hci, tx_c4, if_pos c, tx_c1, tx_c2, r1, r2, if_pos g0, k1]
      · by_cases g1 : gr i = 1
        · obtain ⟨pu', k1, -⟩ := K _ (P1 g1)
          refine ⟨_, pu', _, _, ?_, N, hto2, hti, htw⟩
          rw [f_X6_give_2.eq_2, if_neg hlt, hci, tx_c4, if_pos c, tx_c1, tx_c2, r1, r2, if_neg g0, if_pos g1, k1]
        · obtain ⟨pu', k1, -⟩ := K _ (P2 g0 g1)
          refine ⟨_, pu', _, _, ?_, N, hto2, hti, htw⟩
          rw [f_X6_give_2.eq_2, if_neg hlt, hci, tx_c4, if_pos c, tx_c1, tx_c2, r1, r2, if_neg g0, if_neg g1, k1]
    · obtain ⟨rc', pu', to', sa', b1, b2, b3, b4, b5⟩ := ih (i + 1) f (by omega) (by omega)
      refine ⟨rc', pu', to', sa', ?_, ?_, b3, b4, b5⟩
      · rw [f_X6_give_2.eq_2, if_neg hlt, hci, tx_c4, if_neg c, nI_1, b1]
      · rw [n_X6_give_2.eq_2, hci, tx_c4, nI_1]
        exact ⟨fun _ => iin, fun _ => tx_in5 4 (by decide), fun _ c9 => absurd c9 c, fun _ c9 => absurd c9 c, fun _ c9 => absurd c9 c, fun _ c9 => absurd c9 c, fun _ c9 => absurd c9 c, fun _ c9 => absurd c9 c, fun _ c9 => absurd c9 c, fun _ _ => b2⟩
end
section
variable {n P m g s a b T t : Nat} {su lv fo : UInt64} {si : UInt32} {sc ee : Int32} {dl : Nat → UInt32} {pl dr sp sa gr ow we du : Nat → Int32} {le : Nat → UInt64} {pr rc : Nat → Nat → Int32}
/-- ticks passed -/
theorem pass_E (hm : m < 30) (hsu : vr su (-16) 16) (hgg : g ≤ 3) (hs : s ≤ 4) (ha : a < 48) (hb : b < 48) (hn : n ≤ 10) (hP : P ≤ 3) (h1 : 1 ≤ T) (hT : T ≤ 100) (ht : t + T ≤ 5000) (hg : ∀ k, k < n → gr k = 0 ∨ gr k = 1 ∨ gr k = 2) (h : ps n P lv si fo dl pl dr le sa) (hw : tw n P pl dr sp ow gr we du sa pr rc) :
    ∃ (ee' : Int32) (lv' fo' : UInt64) (si' : UInt32) (dl' : Nat → UInt32) (pl' dr' sp' sa' : Nat → Int32) (le' : Nat → UInt64) (pr' rc' : Nat → Nat → Int32),
      f_X6_pass (nI t) (nI m) su lv si (nI g) (nI s) sc (nI a) (nI b) fo ee dl le (nI a) (nI b) ee (nI t) (nI m) su lv si (nI g) (nI s) sc fo (nI n) gr sa le (nI P) dl pl dr sp (nI T) P pr rc = (rc', pr', nI (t + T), lv', si', fo', ee', dl', le', ee', nI (t + T), lv', si', fo', sa', le', dl', pl', dr', sp') ∧
      n_X6_pass (nI t) (nI m) su lv si (nI g) (nI s) sc (nI a) (nI b) fo ee dl le (nI a) (nI b) ee (nI t) (nI m) su lv si (nI g) (nI s) sc fo (nI n) gr sa le (nI P) dl pl dr sp (nI T) P pr n rc ∧
      ps n P lv' si' fo' dl' pl' dr' le' sa' ∧ tw n P pl' dr' sp' ow gr we du sa' pr' rc' := by
  obtain ⟨ee', lv', fo', si', dl', pl', dr', sp', sa', le', pr', rc', a1, a2, a3, a4, a5, a6, a7⟩ := tg_pass (sc := sc) hm hsu hgg hs ha hb hn hP (by omega : T ≤ 1000) hg T 0 t 102 102 ee lv fo si dl pl dr sp sa le pr rc (by omega) (by omega) (by omega) (by omega) h hw
  rw [show nI 0 = 0 from nI_0] at a1 a2 a3 a4
  obtain ⟨c1, c2, c3⟩ := dr_countE (sa := sa') (rc := rc') hn (fun k hk => (a7.2 k hk).2.2.2.2) 2
  have E : f_X5_pass (nI a) (nI b) ee (nI t) (nI m) su lv si (nI g) (nI s) sc fo (nI n) gr sa le (nI P) dl pl dr sp (nI T) = (f_X0_countOf (nI n) sa' 2, ee', nI (t + T), lv', si', fo', sa', le', dl', pl', dr', sp') := by
    unfold f_X5_pass f_X1_letGoBy
    rw [a1]
  refine ⟨ee', lv', fo', si', dl', pl', dr', sp', sa', le', pr', rc', ?_, ?_, a5, a7⟩
  · unfold f_X6_pass
    rw [a2]
    try dsimp only
    rw [E]
  · unfold n_X6_pass
    rw [a2, E]
    refine ⟨a4, fun _ _ _ _ _ _ _ _ _ _ _ => ?_, fun x1 x2 x3 x4 x5 x6 x7 x8 x9 x10 e r u1 u2 u3 u4 u5 u6 u7 u8 u9 u10 u11 e9 => ?_, fun x1 x2 x3 x4 x5 x6 x7 x8 x9 x10 e r u1 u2 u3 u4 u5 u6 u7 u8 u9 u10 u11 e9 => ?_⟩
    · unfold n_X5_pass
      refine ⟨iw_k (A := 1) (B := 100) h1 hT (by decide), ?_, a3, ?_⟩
      · rw [nI_add]
        exact nI_le (b := 5000) ht (by decide)
      · intro u1 u2 u3 u4 u5 u6 u7 u8 u9 u10 u11 e
        have e' : (u1, u2, u3, u4, u5, u6, u7, u8, u9, u10, u11) = (ee', nI (t + T), lv', si', fo', sa', le', dl', pl', dr', sp') := e.trans a1
        cases e'
        exact c3
    · cases e
      exact c2
    · cases e
      cases e9
      exact c1.symm
end
