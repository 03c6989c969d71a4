/-! the acts in a row; the ends of a try -/
theorem chain {L : Nat} {xs : Nat → Int32} (hL : L ≤ 260) : ∀ (n D T : Nat) (x : TS), D + 12 * n ≤ 900000 → T + 30 * n ≤ 4900 → rl D T x → ∃ X : Nat → TS, X 0 = x ∧ (∀ k, k < n → st L xs (X (k + 1)) (X k)) ∧ rl (D + 12 * n) (T + 30 * n) (X n) := by
  intro n
  induction n with
  | zero => intro D T x _ _ h; exact ⟨fun _ => x, rfl, fun k hk => absurd hk (Nat.not_lt_zero k), h⟩
  | succ n ih =>
    intro D T x hD hT h
    obtain ⟨x2, h2, r2⟩ := st_ok (xs := xs) hL (by omega) (by omega) h
    obtain ⟨X, e0, hs, hr⟩ := ih (D + 12) (T + 30) x2 (by omega) (by omega) r2
    refine ⟨fun k => match k with | 0 => x | k + 1 => X k, rfl, fun k hk => ?_, ?_⟩
    · match k, hk with
      | 0, _ =>
        show st L xs (X 0) x
        rw [e0]; exact h2
      | k + 1, hk => exact hs k (by omega)
    · have e1 : D + 12 * (n + 1) = D + 12 + 12 * n := by omega
      have e2 : T + 30 * (n + 1) = T + 30 + 30 * n := by omega
      rw [e1, e2]
      exact hr
theorem sa_st {p : Program} {l : Launch} {e : Env} {s : State} {m : MethodId} {below : List Frame} {meth : Method} {c : Code} {Q : State → Prop} {A : Nat → Prop} {G : tm_G} {Z : va_W} {i1 i2 : Int32} {cb sb i : Nat} (hlt : l.stackTraces = false) (hx : p.tables.exec = Jvm.exec) (hb : c.code = cL_law) (hml : c.maxLocals = 17) (hown : s.vm.findClass RL = some m.cls) (hts : ∀ w ∈ wsL_law, w.before #[Value.ref (tm_sb G)] s = true) (hK : va_K G.1 vwCl (tm_T G) s) (hN : tm_N s) (hV : tm_V G A s s.heap) (hA : ∀ q : Nat, s.heap.size ≤ q → A q) (hcb : cb + 2 ≤ 792690) (hsb : sb + 16 ≤ 6723554) (hi : i < 14) {x x2 : TS} (h : st (tm_sL G) (tm_xs G) x2 x) (kk : A48 p l e s m below meth c Q A G Z i1 i2 (cb + 2) (sb + 16) (i + 1) x2) : A48 p l e s m below meth c Q A G Z i1 i2 cb sb i x := by
  rcases h with h | h | h | h | h | h | h | h | h | h | h | h | h | h | h | h | h | h | h
  · exact sa_0 hlt hx hb hml hown hts hK hN hV hA hcb hsb hi h kk
  · exact sa_1 hlt hx hb hml hown hts hK hN hV hA hcb hsb hi h kk
  · exact sa_2 hlt hx hb hml hown hts hK hN hV hA hcb hsb hi h kk
  · exact sa_3 hlt hx hb hml hown hts hK hN hV hA hcb hsb hi h kk
  · exact sa_4 hlt hx hb hml hown hts hK hN hV hA hcb hsb hi h kk
  · exact sa_5 hlt hx hb hml hown hts hK hN hV hA hcb hsb hi h kk
  · exact sa_6 hlt hx hb hml hown hts hK hN hV hA hcb hsb hi h kk
  · exact sa_7 hlt hx hb hml hown hts hK hN hV hA hcb hsb hi h kk
  · exact sa_8a hlt hx hb hml hown hts hK hN hV hA hcb hsb hi h kk
  · exact sa_8b hlt hx hb hml hown hts hK hN hV hA hcb hsb hi h kk
  · exact sa_9 hlt hx hb hml hown hts hK hN hV hA hcb hsb hi h kk
  · exact sa_9z hlt hx hb hml hown hts hK hN hV hA hcb hsb hi h kk
  · exact sa_10 hlt hx hb hml hown hts hK hN hV hA hcb hsb hi h kk
  · exact sa_11 hlt hx hb hml hown hts hK hN hV hA hcb hsb hi h kk
  · exact sa_12a hlt hx hb hml hown hts hK hN hV hA hcb hsb hi h kk
  · exact sa_12b hlt hx hb hml hown hts hK hN hV hA hcb hsb hi h kk
  · exact sa_13 hlt hx hb hml hown hts hK hN hV hA hcb hsb hi h kk
  · exact sa_14 hlt hx hb hml hown hts hK hN hV hA hcb hsb hi h kk
  · exact sa_15 hlt hx hb hml hown hts hK hN hV hA hcb hsb hi h kk
theorem sa_run {p : Program} {l : Launch} {e : Env} {s : State} {m : MethodId} {below : List Frame} {meth : Method} {c : Code} {Q : State → Prop} {A : Nat → Prop} {G : tm_G} {Z : va_W} {i1 i2 : Int32} (hlt : l.stackTraces = false) (hx : p.tables.exec = Jvm.exec) (hb : c.code = cL_law) (hml : c.maxLocals = 17) (hown : s.vm.findClass RL = some m.cls) (hts : ∀ w ∈ wsL_law, w.before #[Value.ref (tm_sb G)] s = true) (hK : va_K G.1 vwCl (tm_T G) s) (hN : tm_N s) (hV : tm_V G A s s.heap) (hA : ∀ q : Nat, s.heap.size ≤ q → A q) {X : Nat → TS} (h : ∀ k, k < 14 → st (tm_sL G) (tm_xs G) (X (k + 1)) (X k)) : ∀ (d i cb sb : Nat), i + d = 14 → cb + 2 * d ≤ 792690 → sb + 16 * d ≤ 6723554 → A48 p l e s m below meth c Q A G Z i1 i2 (cb + 2 * d) (sb + 16 * d) 14 (X 14) → A48 p l e s m below meth c Q A G Z i1 i2 cb sb i (X i) := by
  intro d
  induction d with
  | zero =>
    intro i cb sb hi hc hs kk
    have e : i = 14 := by omega
    subst e
    exact kk
  | succ d ih =>
    intro i cb sb hi hc hs kk
    refine sa_st hlt hx hb hml hown hts hK hN hV hA (by omega) (by omega) (by omega) (h i (by omega)) (ih (i + 1) (cb + 2) (sb + 16) (by omega) (by omega) (by omega) ?_)
    have e1 : cb + 2 * (d + 1) = cb + 2 + 2 * d := by omega
    have e2 : sb + 16 * (d + 1) = sb + 16 + 16 * d := by omega
    rw [e1, e2] at kk
    exact kk
theorem sc_st {p : Program} {l : Launch} {e : Env} {s : State} {m : MethodId} {below : List Frame} {meth : Method} {c : Code} {Q : State → Prop} {A : Nat → Prop} {G : tm_G} {Z : va_W} {i1 i2 : Int32} {cb sb i : Nat} {o9 a9 : Nat} {i3 i4 : Int32} {i5 : Int64} {i6 i7 : Int32} (hlt : l.stackTraces = false) (hx : p.tables.exec = Jvm.exec) (hb : c.code = cL_law) (hml : c.maxLocals = 17) (hown : s.vm.findClass RL = some m.cls) (hts : ∀ w ∈ wsL_law, w.before #[Value.ref (tm_sb G)] s = true) (hK : va_K G.1 vwCl (tm_T G) s) (hN : tm_N s) (hV : tm_V G A s s.heap) (hA : ∀ q : Nat, s.heap.size ≤ q → A q) (hcb : cb + 2 ≤ 792690) (hsb : sb + 16 ≤ 6723554) (hi : i < 14) {x x2 : TS} (h : st (tm_sL G) (tm_xs G) x2 x) (kk : A302 p l e s m below meth c Q A G Z i1 i2 o9 a9 i3 i4 i5 i6 i7 (cb + 2) (sb + 16) (i + 1) x2) : A302 p l e s m below meth c Q A G Z i1 i2 o9 a9 i3 i4 i5 i6 i7 cb sb i x := by
  rcases h with h | h | h | h | h | h | h | h | h | h | h | h | h | h | h | h | h | h | h
  · exact sc_0 hlt hx hb hml hown hts hK hN hV hA hcb hsb hi h kk
  · exact sc_1 hlt hx hb hml hown hts hK hN hV hA hcb hsb hi h kk
  · exact sc_2 hlt hx hb hml hown hts hK hN hV hA hcb hsb hi h kk
  · exact sc_3 hlt hx hb hml hown hts hK hN hV hA hcb hsb hi h kk
  · exact sc_4 hlt hx hb hml hown hts hK hN hV hA hcb hsb hi h kk
  · exact sc_5 hlt hx hb hml hown hts hK hN hV hA hcb hsb hi h kk
  · exact sc_6 hlt hx hb hml hown hts hK hN hV hA hcb hsb hi h kk
  · exact sc_7 hlt hx hb hml hown hts hK hN hV hA hcb hsb hi h kk
  · exact sc_8a hlt hx hb hml hown hts hK hN hV hA hcb hsb hi h kk
  · exact sc_8b hlt hx hb hml hown hts hK hN hV hA hcb hsb hi h kk
  · exact sc_9 hlt hx hb hml hown hts hK hN hV hA hcb hsb hi h kk
  · exact sc_9z hlt hx hb hml hown hts hK hN hV hA hcb hsb hi h kk
  · exact sc_10 hlt hx hb hml hown hts hK hN hV hA hcb hsb hi h kk
  · exact sc_11 hlt hx hb hml hown hts hK hN hV hA hcb hsb hi h kk
  · exact sc_12a hlt hx hb hml hown hts hK hN hV hA hcb hsb hi h kk
  · exact sc_12b hlt hx hb hml hown hts hK hN hV hA hcb hsb hi h kk
  · exact sc_13 hlt hx hb hml hown hts hK hN hV hA hcb hsb hi h kk
  · exact sc_14 hlt hx hb hml hown hts hK hN hV hA hcb hsb hi h kk
  · exact sc_15 hlt hx hb hml hown hts hK hN hV hA hcb hsb hi h kk
theorem sc_run {p : Program} {l : Launch} {e : Env} {s : State} {m : MethodId} {below : List Frame} {meth : Method} {c : Code} {Q : State → Prop} {A : Nat → Prop} {G : tm_G} {Z : va_W} {i1 i2 : Int32} {o9 a9 : Nat} {i3 i4 : Int32} {i5 : Int64} {i6 i7 : Int32} (hlt : l.stackTraces = false) (hx : p.tables.exec = Jvm.exec) (hb : c.code = cL_law) (hml : c.maxLocals = 17) (hown : s.vm.findClass RL = some m.cls) (hts : ∀ w ∈ wsL_law, w.before #[Value.ref (tm_sb G)] s = true) (hK : va_K G.1 vwCl (tm_T G) s) (hN : tm_N s) (hV : tm_V G A s s.heap) (hA : ∀ q : Nat, s.heap.size ≤ q → A q) {X : Nat → TS} (h : ∀ k, k < 14 → st (tm_sL G) (tm_xs G) (X (k + 1)) (X k)) : ∀ (d i cb sb : Nat), i + d = 14 → cb + 2 * d ≤ 792690 → sb + 16 * d ≤ 6723554 → A302 p l e s m below meth c Q A G Z i1 i2 o9 a9 i3 i4 i5 i6 i7 (cb + 2 * d) (sb + 16 * d) 14 (X 14) → A302 p l e s m below meth c Q A G Z i1 i2 o9 a9 i3 i4 i5 i6 i7 cb sb i (X i) := by
  intro d
  induction d with
  | zero =>
    intro i cb sb hi hc hs kk
    have e : i = 14 := by omega
    subst e
    exact kk
  | succ d ih =>
    intro i cb sb hi hc hs kk
    refine sc_st hlt hx hb hml hown hts hK hN hV hA (by omega) (by omega) (by omega) (h i (by omega)) (ih (i + 1) (cb + 2) (sb + 16) (by omega) (by omega) (by omega) ?_)
    have e1 : cb + 2 * (d + 1) = cb + 2 + 2 * d := by omega
    have e2 : sb + 16 * (d + 1) = sb + 16 + 16 * d := by omega
    rw [e1, e2] at kk
    exact kk
theorem dn_case {p : TP} (hp : p.ok) (hsc : tm_bool p.sc) {j t : Nat} (hj : j < p.n) (ht : t ≤ 4600) {ow we du : Nat → Int32} {ee tk : Int32} {lv fo : UInt64} {si : UInt32} {sa pl dr sp : Nat → Int32} {le : Nat → UInt64} {dl : Nat → UInt32} (h : tI p t (ee, tk, lv, si, fo, sa, le, dl, pl, dr, sp)) :
    ¬ 1 ≤ tU p j (ee, tk, lv, si, fo, sa, le, dl, pl, dr, sp) ∨ n_bdn (tU p j (ee, tk, lv, si, fo, sa, le, dl, pl, dr, sp)) (nI j) (nI p.a) (nI p.b) ee tk (nI p.m) p.su lv si (nI p.g) (nI p.s) p.sc fo (nI p.n) ow p.gr we du sa le (nI p.P) dl pl dr sp := by
  obtain ⟨-, u2, u3, u0, u1⟩ := tU_ok hp hsc hj (by omega : t + 300 < 6900) h
  rcases tI_sa h j hj with ⟨q | q, -⟩ | ⟨q | q, -⟩
  · rw [u0 q]; exact Or.inl (by decide)
  · rcases u1 q with e | ⟨k, hk, e, s1, s2⟩
    · rw [e]; exact Or.inl (by decide)
    · rw [e]; exact Or.inr (dn_ok hp hsc hj hk (by omega) h s1 s2)
  · rw [u2 q]; exact Or.inl (by decide)
  · rw [u3 q]; exact Or.inl (by decide)
theorem wb_one {B p2 e2 X : va_W} : (p2 ++ (e2 ++ (B ++ X))).Perm (B ++ (p2 ++ (e2 ++ X))) := List.Perm.trans (List.Perm.append_left p2 (tl_perm e2 B X)) (tl_perm p2 B (e2 ++ X))
theorem wb_perm {A B p2 e2 p1 R : va_W} {hd : Nat × va_E} : (A ++ (p2 ++ (e2 ++ (B ++ (p1 ++ (hd :: R)))))).Perm (A ++ (B ++ ([hd] ++ (p2 ++ (e2 ++ (p1 ++ R)))))) := by
  refine List.Perm.append_left A ?_
  refine List.Perm.trans wb_one (List.Perm.append_left B ?_)
  refine List.Perm.trans ?_ wb_one
  exact List.Perm.append_left p2 (List.Perm.append_left e2 (tl_perm p1 [hd] R))
theorem tz_drop {D : va_G} {cl : List vw_C} {H : Heap} : va_P D cl (([] : va_W) ++ ([] : va_W)) H := fun k q h => by simp at h
theorem tz_dropD {A : Nat → Prop} : va_D A (([] : va_W) ++ ([] : va_W)) := ⟨fun i j p q h => by simp at h, fun k q h => by simp at h⟩
set_option maxHeartbeats 4000000 in
theorem fin_b {p : Program} {l : Launch} {e : Env} {s : State} {m : MethodId} {below : List Frame} {meth : Method} {c : Code} {Q : State → Prop} {A : Nat → Prop} {G : tm_G} {i1 i2 : Int32} {cb sb : Nat} {aa bb mm gg ss nn PP dd tt : Nat} {sc ee pu : Int32} {su lv fo to : UInt64} {si : UInt32} {ow gr we du sa pl dr sp : Nat → Int32} {le : Nat → UInt64} {dl : Nat → UInt32} {pr rc : Nat → Nat → Int32} {D T : Nat} {o0x a0x pdx o1x edx o2x ma0x ta0x ma1x ma2x ma3x ma4x mb0x mb1x mb2x mb3x mb4x mb5x md0x md1x md2x md3x ta1x ta2x ta3x ta4x tb0x tb1x tb2x tb3x tb4x tb5x td0x td1x td2x td3x : Nat} {pax adx : Nat → Nat} {fhx : Int32} {lhx : Int32} {eex : Int32} {tkx : Int32} {mox : Int32} {sux : UInt64} {lvx : UInt64} {six : UInt32} {gax : Int32} {slx : Int32} {scx : Int32} {fox : UInt64} {lnx : Int32} {owx : Nat → Int32} {grx : Nat → Int32} {wex : Nat → Int32} {dux : Nat → Int32} {sax : Nat → Int32} {lex : Nat → UInt64} {pnx : Int32} {dlx : Nat → UInt32} {plx : Nat → Int32} {drx : Nat → Int32} {spx : Nat → Int32} {dwx : Int32} {ZZ : va_W} {y k i : Nat} {i4 : Int32} {i5 : Int64} {i7 : Int32} (hlt : l.stackTraces = false) (hx : p.tables.exec = Jvm.exec) (hb : c.code = cL_law) (hml : c.maxLocals = 17) (hown : s.vm.findClass RL = some m.cls) (hts : ∀ w ∈ wsL_law, w.before #[Value.ref (tm_sb G)] s = true) (hK : va_K G.1 vwCl (tm_T G) s) (hN : tm_N s) (hV : tm_V G A s s.heap) (hA : ∀ q : Nat, s.heap.size ≤ q → A q) (hcb : cb ≤ 792690) (hsb : sb ≤ 6723554) (hi2 : i2 = nI i) (hi : i ≤ 4) (hT : T ≤ 4500) (hr : rl D T ((aa, bb, mm, gg, ss, nn, PP, su, sc, gr), (ee, nI tt, lv, si, fo, sa, le, dl, pl, dr, sp), (dd, tt, pu, to, ow, we, du, pr, rc))) (hy1 : 1 ≤ y) (hy : y ≤ 48) (hk : k ≤ 4) (hle : ∀ i, i ≤ 4 → zd (tK (aa, bb, mm, gg, ss, nn, PP, su, sc, gr) y (ee, nI tt, lv, si, fo, sa, le, dl, pl, dr, sp) k) ≤ zd (tK (aa, bb, mm, gg, ss, nn, PP, su, sc, gr) y (ee, nI tt, lv, si, fo, sa, le, dl, pl, dr, sp) i)) (hlt9 : ∀ i, i < k → zd (tK (aa, bb, mm, gg, ss, nn, PP, su, sc, gr) y (ee, nI tt, lv, si, fo, sa, le, dl, pl, dr, sp) k) < zd (tK (aa, bb, mm, gg, ss, nn, PP, su, sc, gr) y (ee, nI tt, lv, si, fo, sa, le, dl, pl, dr, sp) i)) (K : ∀ (H : Heap) (locs : List Loc) (ls : Array Slot), va_S A s.heap H locs → lv_has ls 17 [(0, .ref (tm_sb G)), (1, .int i1), (2, .int i2)] → W p l e ({ frames := 11, cells := 792690, slots := 6723554, locals := 416 } : Room) s m #[Value.ref (tm_sb G)] below meth c H locs cb sb Q (F0 m 438 ls [])) : A302 p l e s m below meth c Q A G ([tc_X6 o0x a0x (tm_sb G) dwx (nI tt) (nI mm) su lv si (nI gg) (nI ss) sc (nI aa) (nI bb) fo ee 0 0 pdx o1x edx o2x pu to, tc_F G o1x 3 dl, tc_D G o2x 10 le, tc_X5 a0x ma0x ta0x 0 0 pu to, tc_X1 ma0x ma1x ma2x ma3x ma4x (nI aa) (nI bb) ee, tc_X4 ma1x (nI tt) (nI mm) su, tc_X3 ma2x lv si (nI gg) (nI ss) sc fo, tc_X0 ma3x mb0x mb1x mb2x mb3x mb4x mb5x (nI nn), tc_I G mb0x 10 ow, tc_I G mb1x 10 gr, tc_I G mb2x 10 we, tc_I G mb3x 10 du, tc_I G mb4x 10 sa, tc_D G mb5x 10 le, tc_X2 ma4x md0x md1x md2x md3x (nI PP), tc_F G md0x 3 dl, tc_I G md1x 3 pl, tc_I G md2x 3 dr, tc_I G md3x 3 sp, tc_X1 ta0x ta1x ta2x ta3x ta4x fhx lhx eex, tc_X4 ta1x tkx mox sux, tc_X3 ta2x lvx six gax slx scx fox, tc_X0 ta3x tb0x tb1x tb2x tb3x tb4x tb5x lnx, tc_I G tb0x 10 owx, tc_I G tb1x 10 grx, tc_I G tb2x 10 wex, tc_I G tb3x 10 dux, tc_I G tb4x 10 sax, tc_D G tb5x 10 lex, tc_X2 ta4x td0x td1x td2x td3x pnx, tc_F G td0x 3 dlx, tc_I G td1x 3 plx, tc_I G td2x 3 drx, tc_I G td3x 3 spx] ++ (tl_L G pdx PP pax 3 pr ++ (tl_L G edx nn adx 5 rc ++ ZZ))) i1 i2 o0x a0x (nI y) i4 i5 (nI k) i7 cb sb 14 ((aa, bb, mm, gg, ss, nn, PP, su, sc, gr), (ee, nI tt, lv, si, fo, sa, le, dl, pl, dr, sp), (dd, tt, pu, to, ow, we, du, pr, rc)) := by
  subst hi2
  obtain ⟨-, -, ht, hp, -, -, hsc, -, hps, -, -, -⟩ := hr
  have hI : tI (aa, bb, mm, gg, ss, nn, PP, su, sc, gr) tt (ee, nI tt, lv, si, fo, sa, le, dl, pl, dr, sp) := ⟨rfl, hps⟩
  intro o0 a0 pd o1 ed o2 ma0 ta0 ma1 ma2 ma3 ma4 mb0 mb1 mb2 mb3 mb4 mb5 md0 md1 md2 md3 ta1 ta2 ta3 ta4 tb0 tb1 tb2 tb3 tb4 tb5 td0 td1 td2 td3 pa ad fh' lh' ee' tk' mo' su' lv' si' ga' sl' sc' fo' ln' ow' gr' we' du' sa' le' pn' dl' pl' dr' sp' H locs ls hP hD hS hl
  refine c_bh302z (Z := ([tc_X6 o0 a0 (tm_sb G) (nI dd) (nI tt) (nI mm) su lv si (nI gg) (nI ss) sc (nI aa) (nI bb) fo ee 0 0 pd o1 ed o2 pu to, tc_F G o1 3 dl, tc_D G o2 10 le, tc_X5 a0 ma0 ta0 0 0 pu to, tc_X1 ma0 ma1 ma2 ma3 ma4 (nI aa) (nI bb) ee, tc_X4 ma1 (nI tt) (nI mm) su, tc_X3 ma2 lv si (nI gg) (nI ss) sc fo, tc_X0 ma3 mb0 mb1 mb2 mb3 mb4 mb5 (nI nn), tc_I G mb0 10 ow, tc_I G mb1 10 gr, tc_I G mb2 10 we, tc_I G mb3 10 du, tc_I G mb4 10 sa, tc_D G mb5 10 le, tc_X2 ma4 md0 md1 md2 md3 (nI PP), tc_F G md0 3 dl, tc_I G md1 3 pl, tc_I G md2 3 dr, tc_I G md3 3 sp, tc_X1 ta0 ta1 ta2 ta3 ta4 fh' lh' ee', tc_X4 ta1 tk' mo' su', tc_X3 ta2 lv' si' ga' sl' sc' fo', tc_X0 ta3 tb0 tb1 tb2 tb3 tb4 tb5 ln', tc_I G tb0 10 ow', tc_I G tb1 10 gr', tc_I G tb2 10 we', tc_I G tb3 10 du', tc_I G tb4 10 sa', tc_D G tb5 10 le', tc_X2 ta4 td0 td1 td2 td3 pn', tc_F G td0 3 dl', tc_I G td1 3 pl', tc_I G td2 3 dr', tc_I G td3 3 sp'] ++ (tl_L G pd PP pa 3 pr ++ (tl_L G ed nn ad 5 rc ++ ([tc_X6 o0x a0x (tm_sb G) dwx (nI tt) (nI mm) su lv si (nI gg) (nI ss) sc (nI aa) (nI bb) fo ee 0 0 pdx o1x edx o2x pu to, tc_F G o1x 3 dl, tc_D G o2x 10 le, tc_X5 a0x ma0x ta0x 0 0 pu to, tc_X1 ma0x ma1x ma2x ma3x ma4x (nI aa) (nI bb) ee, tc_X4 ma1x (nI tt) (nI mm) su, tc_X3 ma2x lv si (nI gg) (nI ss) sc fo, tc_X0 ma3x mb0x mb1x mb2x mb3x mb4x mb5x (nI nn), tc_I G mb0x 10 ow, tc_I G mb1x 10 gr, tc_I G mb2x 10 we, tc_I G mb3x 10 du, tc_I G mb4x 10 sa, tc_D G mb5x 10 le, tc_X2 ma4x md0x md1x md2x md3x (nI PP), tc_F G md0x 3 dl, tc_I G md1x 3 pl, tc_I G md2x 3 dr, tc_I G md3x 3 sp, tc_X1 ta0x ta1x ta2x ta3x ta4x fhx lhx eex, tc_X4 ta1x tkx mox sux, tc_X3 ta2x lvx six gax slx scx fox, tc_X0 ta3x tb0x tb1x tb2x tb3x tb4x tb5x lnx, tc_I G tb0x 10 owx, tc_I G tb1x 10 grx, tc_I G tb2x 10 wex, tc_I G tb3x 10 dux, tc_I G tb4x 10 sax, tc_D G tb5x 10 lex, tc_X2 ta4x td0x td1x td2x td3x pnx, tc_F G td0x 3 dlx, tc_I G td1x 3 plx, tc_I G td2x 3 drx, tc_I G td3x 3 spx] ++ (tl_L G pdx PP pax 3 pr ++ (tl_L G edx nn adx 5 rc ++ ZZ))))))) G (by unfold n_bh302z; exact nI_le (Nat.le_refl _) (by decide)) hlt hx hb hml hown hts hK hN hV hA (by omega) (by omega) hP hD hS hl (fun H locs ls hP hD hS hl => ?_)
  replace hP := tz_P2 hP
  replace hD := tz_D2 hD
  have hP1 := tm_permP (wb_perm (p1 := tl_L G pdx PP pax 3 pr) (hd := (edx, .inl (G.2.2.2.2.1, nn, .inr (.inr (.inr (.inr (fun k => if k < nn then some (adx k) else none))))))) (R := (List.range nn).map (fun k => (adx k, .inl (G.2.1, 5, .inl (rc k)))) ++ ZZ)) hP
  have hD1 := tm_permD (wb_perm (p1 := tl_L G pdx PP pax 3 pr) (hd := (edx, .inl (G.2.2.2.2.1, nn, .inr (.inr (.inr (.inr (fun k => if k < nn then some (adx k) else none))))))) (R := (List.range nn).map (fun k => (adx k, .inl (G.2.1, 5, .inl (rc k)))) ++ ZZ)) hD
  have hP2 : va_P G.1 vwCl ([tc_X6 o0 a0 (tm_sb G) (nI dd) (nI tt) (nI mm) su lv si (nI gg) (nI ss) sc (nI aa) (nI bb) fo ee 0 0 pd o1 ed o2 pu to, tc_F G o1 3 dl, tc_D G o2 10 le, tc_X5 a0 ma0 ta0 0 0 pu to, tc_X1 ma0 ma1 ma2 ma3 ma4 (nI aa) (nI bb) ee, tc_X4 ma1 (nI tt) (nI mm) su, tc_X3 ma2 lv si (nI gg) (nI ss) sc fo, tc_X0 ma3 mb0 mb1 mb2 mb3 mb4 mb5 (nI nn), tc_I G mb0 10 ow, tc_I G mb1 10 gr, tc_I G mb2 10 we, tc_I G mb3 10 du, tc_I G mb4 10 sa, tc_D G mb5 10 le, tc_X2 ma4 md0 md1 md2 md3 (nI PP), tc_F G md0 3 dl, tc_I G md1 3 pl, tc_I G md2 3 dr, tc_I G md3 3 sp, tc_X1 ta0 ta1 ta2 ta3 ta4 fh' lh' ee', tc_X4 ta1 tk' mo' su', tc_X3 ta2 lv' si' ga' sl' sc' fo', tc_X0 ta3 tb0 tb1 tb2 tb3 tb4 tb5 ln', tc_I G tb0 10 ow', tc_I G tb1 10 gr', tc_I G tb2 10 we', tc_I G tb3 10 du', tc_I G tb4 10 sa', tc_D G tb5 10 le', tc_X2 ta4 td0 td1 td2 td3 pn', tc_F G td0 3 dl', tc_I G td1 3 pl', tc_I G td2 3 dr', tc_I G td3 3 sp', tc_X6 o0x a0x (tm_sb G) dwx (nI tt) (nI mm) su lv si (nI gg) (nI ss) sc (nI aa) (nI bb) fo ee 0 0 pdx o1x edx o2x pu to, tc_F G o1x 3 dl, tc_D G o2x 10 le, tc_X5 a0x ma0x ta0x 0 0 pu to, tc_X1 ma0x ma1x ma2x ma3x ma4x (nI aa) (nI bb) ee, tc_X4 ma1x (nI tt) (nI mm) su, tc_X3 ma2x lv si (nI gg) (nI ss) sc fo, tc_X0 ma3x mb0x mb1x mb2x mb3x mb4x mb5x (nI nn), tc_I G mb0x 10 ow, tc_I G mb1x 10 gr, tc_I G mb2x 10 we, tc_I G mb3x 10 du, tc_I G mb4x 10 sa, tc_D G mb5x 10 le, tc_X2 ma4x md0x md1x md2x md3x (nI PP), tc_F G md0x 3 dl, tc_I G md1x 3 pl, tc_I G md2x 3 dr, tc_I G md3x 3 sp, tc_X1 ta0x ta1x ta2x ta3x ta4x fhx lhx eex, tc_X4 ta1x tkx mox sux, tc_X3 ta2x lvx six gax slx scx fox, tc_X0 ta3x tb0x tb1x tb2x tb3x tb4x tb5x lnx, tc_I G tb0x 10 owx, tc_I G tb1x 10 grx, tc_I G tb2x 10 wex, tc_I G tb3x 10 dux, tc_I G tb4x 10 sax, tc_D G tb5x 10 lex, tc_X2 ta4x td0x td1x td2x td3x pnx, tc_F G td0x 3 dlx, tc_I G td1x 3 plx, tc_I G td2x 3 drx, tc_I G td3x 3 spx, (edx, .inl (G.2.2.2.2.1, nn, .inr (.inr (.inr (.inr (fun k => if k < nn then some (adx k) else none))))))] ++ ((tl_L G pd PP pa 3 pr) ++ ((tl_L G ed nn ad 5 rc) ++ ((tl_L G pdx PP pax 3 pr) ++ (((List.range nn).map (fun k => (adx k, .inl (G.2.1, 5, .inl (rc k))))) ++ ZZ))))) H := hP1
  have hD2 : va_D A ([tc_X6 o0 a0 (tm_sb G) (nI dd) (nI tt) (nI mm) su lv si (nI gg) (nI ss) sc (nI aa) (nI bb) fo ee 0 0 pd o1 ed o2 pu to, tc_F G o1 3 dl, tc_D G o2 10 le, tc_X5 a0 ma0 ta0 0 0 pu to, tc_X1 ma0 ma1 ma2 ma3 ma4 (nI aa) (nI bb) ee, tc_X4 ma1 (nI tt) (nI mm) su, tc_X3 ma2 lv si (nI gg) (nI ss) sc fo, tc_X0 ma3 mb0 mb1 mb2 mb3 mb4 mb5 (nI nn), tc_I G mb0 10 ow, tc_I G mb1 10 gr, tc_I G mb2 10 we, tc_I G mb3 10 du, tc_I G mb4 10 sa, tc_D G mb5 10 le, tc_X2 ma4 md0 md1 md2 md3 (nI PP), tc_F G md0 3 dl, tc_I G md1 3 pl, tc_I G md2 3 dr, tc_I G md3 3 sp, tc_X1 ta0 ta1 ta2 ta3 ta4 fh' lh' ee', tc_X4 ta1 tk' mo' su', tc_X3 ta2 lv' si' ga' sl' sc' fo', tc_X0 ta3 tb0 tb1 tb2 tb3 tb4 tb5 ln', tc_I G tb0 10 ow', tc_I G tb1 10 gr', tc_I G tb2 10 we', tc_I G tb3 10 du', tc_I G tb4 10 sa', tc_D G tb5 10 le', tc_X2 ta4 td0 td1 td2 td3 pn', tc_F G td0 3 dl', tc_I G td1 3 pl', tc_I G td2 3 dr', tc_I G td3 3 sp', tc_X6 o0x a0x (tm_sb G) dwx (nI tt) (nI mm) su lv si (nI gg) (nI ss) sc (nI aa) (nI bb) fo ee 0 0 pdx o1x edx o2x pu to, tc_F G o1x 3 dl, tc_D G o2x 10 le, tc_X5 a0x ma0x ta0x 0 0 pu to, tc_X1 ma0x ma1x ma2x ma3x ma4x (nI aa) (nI bb) ee, tc_X4 ma1x (nI tt) (nI mm) su, tc_X3 ma2x lv si (nI gg) (nI ss) sc fo, tc_X0 ma3x mb0x mb1x mb2x mb3x mb4x mb5x (nI nn), tc_I G mb0x 10 ow, tc_I G mb1x 10 gr, tc_I G mb2x 10 we, tc_I G mb3x 10 du, tc_I G mb4x 10 sa, tc_D G mb5x 10 le, tc_X2 ma4x md0x md1x md2x md3x (nI PP), tc_F G md0x 3 dl, tc_I G md1x 3 pl, tc_I G md2x 3 dr, tc_I G md3x 3 sp, tc_X1 ta0x ta1x ta2x ta3x ta4x fhx lhx eex, tc_X4 ta1x tkx mox sux, tc_X3 ta2x lvx six gax slx scx fox, tc_X0 ta3x tb0x tb1x tb2x tb3x tb4x tb5x lnx, tc_I G tb0x 10 owx, tc_I G tb1x 10 grx, tc_I G tb2x 10 wex, tc_I G tb3x 10 dux, tc_I G tb4x 10 sax, tc_D G tb5x 10 lex, tc_X2 ta4x td0x td1x td2x td3x pnx, tc_F G td0x 3 dlx, tc_I G td1x 3 plx, tc_I G td2x 3 drx, tc_I G td3x 3 spx, (edx, .inl (G.2.2.2.2.1, nn, .inr (.inr (.inr (.inr (fun k => if k < nn then some (adx k) else none))))))] ++ ((tl_L G pd PP pa 3 pr) ++ ((tl_L G ed nn ad 5 rc) ++ ((tl_L G pdx PP pax 3 pr) ++ (((List.range nn).map (fun k => (adx k, .inl (G.2.1, 5, .inl (rc k))))) ++ ZZ))))) := hD1
  have hP3 := hP2.part (cx := [tc_X6 o0 a0 (tm_sb G) (nI dd) (nI tt) (nI mm) su lv si (nI gg) (nI ss) sc (nI aa) (nI bb) fo ee 0 0 pd o1 ed o2 pu to, tc_X5 a0 ma0 ta0 0 0 pu to, tc_X1 ma0 ma1 ma2 ma3 ma4 (nI aa) (nI bb) ee, tc_X4 ma1 (nI tt) (nI mm) su, tc_X3 ma2 lv si (nI gg) (nI ss) sc fo, tc_X0 ma3 mb0 mb1 mb2 mb3 mb4 mb5 (nI nn), tc_I G mb0 10 ow, tc_I G mb1 10 gr, tc_I G mb2 10 we, tc_I G mb3 10 du, tc_I G mb4 10 sa, tc_D G mb5 10 le, tc_X2 ma4 md0 md1 md2 md3 (nI PP), tc_F G md0 3 dl, tc_I G md1 3 pl, tc_I G md2 3 dr, tc_I G md3 3 sp, tc_X6 o0x a0x (tm_sb G) dwx (nI tt) (nI mm) su lv si (nI gg) (nI ss) sc (nI aa) (nI bb) fo ee 0 0 pdx o1x edx o2x pu to, tc_X5 a0x ma0x ta0x 0 0 pu to, tc_X1 ma0x ma1x ma2x ma3x ma4x (nI aa) (nI bb) ee, tc_X4 ma1x (nI tt) (nI mm) su, tc_X3 ma2x lv si (nI gg) (nI ss) sc fo, tc_X0 ma3x mb0x mb1x mb2x mb3x mb4x mb5x (nI nn), tc_I G mb0x 10 ow, tc_I G mb1x 10 gr, tc_I G mb2x 10 we, tc_I G mb3x 10 du, tc_I G mb4x 10 sa, tc_D G mb5x 10 le, tc_X2 ma4x md0x md1x md2x md3x (nI PP), tc_F G md0x 3 dl, tc_I G md1x 3 pl, tc_I G md2x 3 dr, tc_I G md3x 3 sp, (edx, .inl (G.2.2.2.2.1, nn, .inr (.inr (.inr (.inr (fun k => if k < nn then some (adx k) else none))))))]) [0, 3, 4, 5, 6, 7, 8, 9, 10, 11, 12, 13, 14, 15, 16, 17, 18, 34, 37, 38, 39, 40, 41, 42, 43, 44, 45, 46, 47, 48, 49, 50, 51, 52, 68] rfl
  have hD3 := hD2.part (cx := [tc_X6 o0 a0 (tm_sb G) (nI dd) (nI tt) (nI mm) su lv si (nI gg) (nI ss) sc (nI aa) (nI bb) fo ee 0 0 pd o1 ed o2 pu to, tc_X5 a0 ma0 ta0 0 0 pu to, tc_X1 ma0 ma1 ma2 ma3 ma4 (nI aa) (nI bb) ee, tc_X4 ma1 (nI tt) (nI mm) su, tc_X3 ma2 lv si (nI gg) (nI ss) sc fo, tc_X0 ma3 mb0 mb1 mb2 mb3 mb4 mb5 (nI nn), tc_I G mb0 10 ow, tc_I G mb1 10 gr, tc_I G mb2 10 we, tc_I G mb3 10 du, tc_I G mb4 10 sa, tc_D G mb5 10 le, tc_X2 ma4 md0 md1 md2 md3 (nI PP), tc_F G md0 3 dl, tc_I G md1 3 pl, tc_I G md2 3 dr, tc_I G md3 3 sp, tc_X6 o0x a0x (tm_sb G) dwx (nI tt) (nI mm) su lv si (nI gg) (nI ss) sc (nI aa) (nI bb) fo ee 0 0 pdx o1x edx o2x pu to, tc_X5 a0x ma0x ta0x 0 0 pu to, tc_X1 ma0x ma1x ma2x ma3x ma4x (nI aa) (nI bb) ee, tc_X4 ma1x (nI tt) (nI mm) su, tc_X3 ma2x lv si (nI gg) (nI ss) sc fo, tc_X0 ma3x mb0x mb1x mb2x mb3x mb4x mb5x (nI nn), tc_I G mb0x 10 ow, tc_I G mb1x 10 gr, tc_I G mb2x 10 we, tc_I G mb3x 10 du, tc_I G mb4x 10 sa, tc_D G mb5x 10 le, tc_X2 ma4x md0x md1x md2x md3x (nI PP), tc_F G md0x 3 dl, tc_I G md1x 3 pl, tc_I G md2x 3 dr, tc_I G md3x 3 sp, (edx, .inl (G.2.2.2.2.1, nn, .inr (.inr (.inr (.inr (fun k => if k < nn then some (adx k) else none))))))]) [0, 3, 4, 5, 6, 7, 8, 9, 10, 11, 12, 13, 14, 15, 16, 17, 18, 34, 37, 38, 39, 40, 41, 42, 43, 44, 45, 46, 47, 48, 49, 50, 51, 52, 68] (by decide) rfl
  by_cases hz : zd (tK (aa, bb, mm, gg, ss, nn, PP, su, sc, gr) y (ee, nI tt, lv, si, fo, sa, le, dl, pl, dr, sp) i) = zd (tK (aa, bb, mm, gg, ss, nn, PP, su, sc, gr) y (ee, nI tt, lv, si, fo, sa, le, dl, pl, dr, sp) k)
  · have hki : k ≤ i := Nat.le_of_not_lt fun h9 => by
      have := hlt9 i h9
      omega
    have hn := sum_b hp hsc hy1 hy (by omega : tt + 48 ≤ 5000) hk hi hI hz hki
    exact c_bsumb G hn hlt hx hb hml hown hts hK hN hV hA (by omega) (by omega) hP3 hD3 hS hl (fun _ _ _ _ _ _ _ _ _ _ _ _ _ _ _ _ _ _ _ _ _ _ _ _ _ _ _ _ _ _ _ H locs ls _ _ _ _ _ _ _ hS hl => K H locs ls hS hl)
  · have hz2 : zd (tK (aa, bb, mm, gg, ss, nn, PP, su, sc, gr) y (ee, nI tt, lv, si, fo, sa, le, dl, pl, dr, sp) k) < zd (tK (aa, bb, mm, gg, ss, nn, PP, su, sc, gr) y (ee, nI tt, lv, si, fo, sa, le, dl, pl, dr, sp) i) := by
      have := hle i hi
      omega
    have hn := sum_a hp hsc hy1 hy (by omega : tt + 48 ≤ 5000) hk hi hI hz2
    exact c_bsuma G hn hlt hx hb hml hown hts hK hN hV hA (by omega) (by omega) hP3 hD3 hS hl (fun _ _ _ _ _ _ _ _ _ _ _ _ _ _ _ _ _ _ _ _ _ _ _ _ _ _ _ _ _ _ _ H locs ls _ _ _ _ _ _ _ hS hl => K H locs ls hS hl)
