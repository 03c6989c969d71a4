/-! one pair of stones -/
theorem fc_1 : fok FP.fconst1 ∧ zf FP.fconst1 = 8 * ((2 ^ 146 : Nat) : Int) := by
  refine ⟨?_, ?_⟩
  · show FP.Core.val32 FP.fconst1 ≠ .nan
    decide +kernel
  · show FP.Core.zval FP.Core.b32 (FP.Core.val32 FP.fconst1) = _
    decide +kernel
theorem fc_h1 : ∃ d r, FP.Core.val32 FP.fconst1 = .fin false d r ∧ d ≠ 0 := ⟨8388608, -23, by decide +kernel, by decide⟩
theorem fc_h2 : ∃ d r, FP.Core.val32 FP.fconst2 = .fin false d r ∧ d ≠ 0 := ⟨8388608, -22, by decide +kernel, by decide⟩
theorem fc_hard (g : Int32) : ∃ d r, FP.Core.val32 (f_X5_hardnessOf g) = .fin false d r ∧ d ≠ 0 := by
  unfold f_X5_hardnessOf
  split
  · exact fc_h2
  · exact fc_h1
theorem fc_8n : nn (FP.Core.val32 1040187392) := by
  rw [show FP.Core.val32 1040187392 = .fin false 8388608 (-26) by decide +kernel]
  exact Or.inl rfl
theorem vc_4 : vr 4616189618054758400 32 32 := vr.c (by decide +kernel)
theorem vc_3 : vr 4613937818241073152 24 24 := vr.c (by decide +kernel)
theorem vc_5 : vr 4617315517961601024 40 40 := vr.c (by decide +kernel)
theorem vc_pace (g : Int32) : vr (f_X5_paceOf g) 24 40 := by
  unfold f_X5_paceOf
  split
  · exact vc_4.w (by decide) (by decide)
  · split
    · exact vc_3.w (by decide) (by decide)
    · exact vc_5.w (by decide) (by decide)
/-- how dull stones may be -/
def gd_blunt (x : UInt32) : UInt32 := if (Op.cmpValue (FP.fcmp x FP.fconst1) .l) ≤ 0 then x else FP.fconst1
theorem gd_bluntV {x : UInt32} (h : fok x) (h0 : 0 ≤ zf x) : fr (gd_blunt x) 8 ∧ Native.java_lang_Math.nans.pick32 false FP.fconst1 x = gd_blunt x := by
  obtain ⟨c1, c2⟩ := fc_1
  have hp : (0 : Int) ≤ ((2 ^ 146 : Nat) : Int) := Int.natCast_nonneg _
  unfold gd_blunt
  rw [ff_pick c1 h]
  by_cases hc : (Op.cmpValue (FP.fcmp x FP.fconst1) .l) ≤ 0
  · rw [if_pos hc]
    have hc' := (ff_le0 h c1 _).mp hc
    refine ⟨⟨h, h0, by rw [← c2]; exact hc'⟩, ?_⟩
    rw [if_neg (by omega)]
    split
    · rw [if_pos (by decide)]
    · rw [if_neg (by decide)]
  · rw [if_neg hc]
    have hc' : ¬ zf x ≤ zf FP.fconst1 := fun h9 => hc ((ff_le0 h c1 _).mpr h9)
    refine ⟨⟨c1, by rw [c2]; omega, by rw [c2]; exact Int.le_refl _⟩, ?_⟩
    rw [if_pos (by omega), if_neg (by decide)]
theorem gd_bluntE (dl : Nat → UInt32) (p : Nat) (hp : p < 3) (x : UInt32) : f_X2_blunt dl (nI p) x = vf_upd dl p (gd_blunt (FP.fadd (dl p) x)) := by
  unfold f_X2_blunt gd_blunt
  rw [nI_clamp (by omega)]
  split
  · rfl
  · rfl
/-- what is left of a lot: no NaN, no -0.0, at most 60 -/
def lr (x : UInt64) : Prop := dok x ∧ FP.Core.sgn (FP.Core.val64 x) = false ∧ zd x ≤ 480 * fl_E
theorem lr.vr {x : UInt64} (h : lr x) : vr x 0 480 := by
  obtain ⟨h1, h2, h3⟩ := h
  refine fl_vr h1 ?_ h3 (by decide) (by decide)
  rw [Int.zero_mul]
  show 0 ≤ FP.Core.zval _ _
  unfold FP.Core.zval
  rw [h2]
  exact Int.natCast_nonneg _
theorem lr_0 : lr FP.dconst0 := by
  refine ⟨dok_0, ?_, ?_⟩
  · show FP.Core.sgn (FP.Core.val64 0) = false
    rw [FP.Core.val64_zero]
    rfl
  · rw [show zd FP.dconst0 = 0 from zdz_0]
    exact Int.mul_nonneg (by decide) (Int.le_of_lt fl_E_pos)
def gd_need (d : UInt32) : UInt64 := FP.dadd FP.dconst1 (FP.f2d d)
def gd_gets (d : UInt32) (r : UInt64) : UInt64 := if 0 ≤ (Op.cmpValue (FP.dcmp (gd_need d) r) .g) then r else gd_need d
def gd_does (d : UInt32) (r : UInt64) : UInt64 := FP.ddiv (gd_gets d r) (gd_need d)
def gd_rest (x does pace : UInt64) : UInt64 := FP.dsub x (FP.dmul does pace)
def gd_left (x does pace : UInt64) : UInt64 := if 0 ≤ (Op.cmpValue (FP.dcmp (gd_rest x does pace) FP.dconst0) .g) then gd_rest x does pace else FP.dconst0
def gd_more (does : UInt64) (h : UInt32) : UInt32 := FP.fdiv (FP.fmul (FP.d2f does) h) 1115684864
theorem gd_needV {d : UInt32} (hd : fr d 8) : vr (FP.f2d d) 0 8 ∧ vr (gd_need d) 8 16 := by
  have h := hd.f2d (by decide) (by decide)
  exact ⟨h, vc_1.add h 8 16 (by decide) (by decide) (by decide) (by decide)⟩
theorem gd_getsV {d : UInt32} {r : UInt64} (hd : fr d 8) (hr : vr r 0 1058) : vr (gd_gets d r) 0 16 ∧ zd (gd_gets d r) ≤ zd (gd_need d) ∧ zd (gd_gets d r) ≤ zd r ∧ Native.java_lang_Math.nans.pick64 false (gd_need d) r = gd_gets d r := by
  have hn := (gd_needV hd).2
  rw [fl_pick hn.ok hr.ok]
  unfold gd_gets
  by_cases c : 0 ≤ (Op.cmpValue (FP.dcmp (gd_need d) r) .g)
  · rw [if_pos c]
    have c' := (fl_ge0 hn.ok hr.ok _).mp c
    refine ⟨hr.hi (Int.le_trans c' hn.2.2), c', Int.le_refl _, ?_⟩
    rw [if_neg (by omega)]
    split
    · rename_i e
      have : gd_need d = r := fl_bits hn.ok hr.ok e (by
        rw [← e]
        have := hn.2.1
        have := fl_E_pos
        omega)
      rw [this]
      split <;> rfl
    · rw [if_neg (by decide)]
  · rw [if_neg c]
    have c' : ¬ zd r ≤ zd (gd_need d) := fun h9 => c ((fl_ge0 hn.ok hr.ok _).mpr h9)
    refine ⟨hn.w (by decide) (by decide), Int.le_refl _, by omega, ?_⟩
    rw [if_pos (by omega), if_neg (by decide)]
theorem gd_doesV {d : UInt32} {r : UInt64} (hd : fr d 8) (hr : vr r 0 1058) : vr (gd_does d r) 0 8 :=
  (gd_getsV hd hr).1.div1 (gd_needV hd).2 (by decide) (by decide) (gd_getsV hd hr).2.1
theorem gd_restV {x does pace : UInt64} (hx : lr x) (hd : vr does 0 8) (hp : vr pace 24 40) : vr (FP.dmul does pace) 0 40 ∧ dok (gd_rest x does pace) ∧ lr (gd_left x does pace) ∧ Native.java_lang_Math.nans.pick64 true FP.dconst0 (gd_rest x does pace) = gd_left x does pace := by
  have hm := hd.mul hp 0 40 (by decide) (by decide) (by decide) (by decide) (by decide) (by decide)
  have hr : vr (gd_rest x does pace) (-40) 480 := hx.vr.sub hm (-40) 480 (by decide) (by decide) (by decide) (by decide)
  have hs : 0 ≤ zd (gd_rest x does pace) → FP.Core.sgn (FP.Core.val64 (gd_rest x does pace)) = false := fun h => fl_sub_sgn hx.vr.1 hm.1 hx.2.1 h
  refine ⟨hm, hr.ok, ?_, ?_⟩
  · unfold gd_left
    by_cases c : 0 ≤ (Op.cmpValue (FP.dcmp (gd_rest x does pace) FP.dconst0) .g)
    · rw [if_pos c]
      have c' := (fl_ge0 hr.ok dok_0 _).mp c
      rw [zdz_0] at c'
      exact ⟨hr.ok, hs c', hr.2.2⟩
    · rw [if_neg c]
      exact lr_0
  · have k0 : dok FP.dconst0 := dok_0
    have k1 : zd FP.dconst0 = 0 := zdz_0
    rw [fl_pick k0 hr.ok, k1]
    unfold gd_left
    by_cases c : 0 ≤ (Op.cmpValue (FP.dcmp (gd_rest x does pace) FP.dconst0) .g)
    · rw [if_pos c]
      have c' := (fl_ge0 hr.ok k0 _).mp c
      rw [k1] at c'
      by_cases e : zd (gd_rest x does pace) = 0
      · rw [show gd_rest x does pace = FP.dconst0 from fl_zero hr.ok (hs c') e, if_neg (by rw [k1]; decide), if_pos k1.symm]
        decide
      · rw [if_pos (by omega), if_pos rfl]
    · rw [if_neg c]
      have c' : ¬ zd FP.dconst0 ≤ zd (gd_rest x does pace) := fun h9 => c ((fl_ge0 hr.ok k0 _).mpr h9)
      rw [k1] at c'
      rw [if_neg (by omega), if_neg (by omega), if_pos rfl]
theorem gd_moreV {d : UInt32} {does : UInt64} {h : UInt32} (hd : fr d 8) (hv : vr does 0 8) (hh : ∃ c r, FP.Core.val32 h = .fin false c r ∧ c ≠ 0) : fok (FP.d2f does) ∧ fok (FP.fmul (FP.d2f does) h) ∧ fok (gd_more does h) ∧ fok (FP.fadd d (gd_more does h)) ∧ fr (gd_blunt (FP.fadd d (gd_more does h))) 8 ∧ Native.java_lang_Math.nans.pick32 false FP.fconst1 (FP.fadd d (gd_more does h)) = gd_blunt (FP.fadd d (gd_more does h)) := by
  obtain ⟨c, r, h1, h2⟩ := hh
  obtain ⟨c2, r2, g1, g2⟩ := fc_64
  have n1 := nf_d2f hv.ok (by have := hv.2.1; rwa [Int.zero_mul] at this)
  have n2 := nf_mul n1 h1 h2
  have n3 : nn (FP.Core.val32 (gd_more does h)) := nf_div n2 g1 g2
  have n4 := nf_add (hd.fin (by decide)) hd.2.1 n3
  have n5 := gd_bluntV n4.1 n4.2
  exact ⟨nf_ok n1, nf_ok n2, nf_ok n3, n4.1, n5.1, n5.2⟩
/-- whether a lot is done -/
def gd_end (x : UInt64) : Prop := (Op.cmpValue (FP.dcmp x FP.dconst0) .l) = 0
theorem gd_X0 (gr sa : Nat → Int32) (le : Nat → UInt64) {j : Nat} (hj : j < 10) (does : UInt64) :
    (gd_end (gd_left (le j) does (f_X5_paceOf (gr j))) → f_X0_grind gr sa le (nI j) does = (upd sa j 2, vf_upd le j (gd_left (le j) does (f_X5_paceOf (gr j))))) ∧
    (¬ gd_end (gd_left (le j) does (f_X5_paceOf (gr j))) → f_X0_grind gr sa le (nI j) does = (sa, vf_upd le j (gd_left (le j) does (f_X5_paceOf (gr j))))) := by
  have hc : (nI j).toNatClampNeg = j := nI_clamp (by omega)
  have hu : ∀ y : UInt64, vf_upd le j y j = y := fun y => if_pos rfl
  unfold f_X0_grind
  rw [hc]
  simp only [hu]
  unfold gd_end gd_left gd_rest
  split
  · exact ⟨fun h => if_pos h, fun h => if_neg h⟩
  · exact ⟨fun h => if_pos h, fun h => if_neg h⟩
theorem gd_updS (f : Nat → Int32) (k : Nat) (x : Int32) : upd f k x k = x := pk_us
/-- the class grinds -/
theorem gd_X2 {dl : Nat → UInt32} {pl gr sa : Nat → Int32} {le : Nat → UInt64} {p j : Nat} {r : UInt64} (hp : p < 3) (hj : j < 10) (hpl : pl p = nI j) (hsa : sa j = 1) :
    (gd_end (gd_left (le j) (gd_does (dl p) r) (f_X5_paceOf (gr j))) → f_X2_grind dl pl gr sa le (nI p) r = (gd_gets (dl p) r, vf_upd dl p (gd_blunt (FP.fadd (dl p) (gd_more (gd_does (dl p) r) (f_X5_hardnessOf (gr j))))), upd pl p (-1), upd sa j 2, vf_upd le j (gd_left (le j) (gd_does (dl p) r) (f_X5_paceOf (gr j))))) ∧
    (¬ gd_end (gd_left (le j) (gd_does (dl p) r) (f_X5_paceOf (gr j))) → f_X2_grind dl pl gr sa le (nI p) r = (gd_gets (dl p) r, vf_upd dl p (gd_blunt (FP.fadd (dl p) (gd_more (gd_does (dl p) r) (f_X5_hardnessOf (gr j))))), pl, sa, vf_upd le j (gd_left (le j) (gd_does (dl p) r) (f_X5_paceOf (gr j))))) := by
  have hc : (nI p).toNatClampNeg = p := nI_clamp (by omega)
  have hcj : (nI j).toNatClampNeg = j := nI_clamp (by omega)
  have key : f_X2_grind dl pl gr sa le (nI p) r = (match f_X0_grind gr sa le (nI j) (gd_does (dl p) r) with | (u_8, u_9) => if (u_8 j) = 2 then (gd_gets (dl p) r, f_X2_blunt dl (nI p) (gd_more (gd_does (dl p) r) (f_X5_hardnessOf (gr j))), upd pl p (-1), u_8, u_9) else (gd_gets (dl p) r, f_X2_blunt dl (nI p) (gd_more (gd_does (dl p) r) (f_X5_hardnessOf (gr j))), pl, u_8, u_9)) := by
    unfold f_X2_grind
    rw [hc, hpl, hcj]
    unfold gd_more gd_does gd_gets gd_need
    split
    · rfl
    · rfl
  obtain ⟨g1, g2⟩ := gd_X0 gr sa le hj (gd_does (dl p) r)
  rw [key, gd_bluntE dl p hp]
  refine ⟨fun h => ?_, fun h => ?_⟩
  · rw [g1 h]
    show (if upd sa j 2 j = 2 then _ else _) = _
    rw [if_pos (gd_updS sa j 2)]
  · rw [g2 h]
    show (if sa j = 2 then _ else _) = _
    rw [if_neg (by rw [hsa]; decide)]
theorem gd_X2n {dl : Nat → UInt32} {pl gr sa : Nat → Int32} {le : Nat → UInt64} {p j : Nat} {r : UInt64} (hp : p < 3) (hj : j < 10) (hpl : pl p = nI j) (hd : fr (dl p) 8) (hl : lr (le j)) (hr : vr r 0 1058) : n_X2_grind dl pl gr sa le (nI p) r := by
  have hc : (nI p).toNatClampNeg = p := nI_clamp (by omega)
  have hcj : (nI j).toNatClampNeg = j := nI_clamp (by omega)
  have ip : vp_in (nI p) 3 := vp_in_nI hp (by decide)
  have ij : vp_in (nI j) 10 := vp_in_nI hj (by decide)
  obtain ⟨a1, a2⟩ := gd_needV hd
  have a3 := gd_doesV hd hr
  have a4 := gd_restV hl a3 (vc_pace (gr j))
  have a5 := gd_moreV hd a3 (fc_hard (gr j))
  have nb : n_X2_blunt dl (nI p) (gd_more (gd_does (dl p) r) (f_X5_hardnessOf (gr j))) := by
    unfold n_X2_blunt
    rw [hc]
    exact ⟨ip, fl_vf32 a5.2.2.2.1⟩
  have n0 : n_X0_grind gr le (nI j) (gd_does (dl p) r) := by
    unfold n_X0_grind
    rw [hcj]
    exact ⟨ij, a4.1.n, fl_vf a4.2.1⟩
  unfold n_X2_grind
  rw [hc, hpl, hcj]
  unfold gd_does gd_gets at a3 nb n0 a5
  unfold gd_more at nb a5
  unfold gd_need at a2 a3 nb n0 a5
  by_cases c : 0 ≤ (Op.cmpValue (FP.dcmp (FP.dadd FP.dconst1 (FP.f2d (dl p))) r) .g)
  · simp only [if_pos c] at a3 nb n0 a5
    exact ⟨ip, a1.n, a2.n, fun _ => a3.n, fun _ => n0, fun _ _ _ _ => fl_vf32 a5.1, fun _ _ _ _ => ij, fun _ _ _ _ => fl_vf32 a5.2.1, fun _ _ _ _ => fl_vf32 a5.2.2.1, fun _ _ _ _ => nb, fun k => absurd c k, fun k => absurd c k, fun k => absurd c k, fun k => absurd c k, fun k => absurd c k, fun k => absurd c k, fun k => absurd c k⟩
  · simp only [if_neg c] at a3 nb n0 a5
    exact ⟨ip, a1.n, a2.n, fun k => absurd k c, fun k => absurd k c, fun k => absurd k c, fun k => absurd k c, fun k => absurd k c, fun k => absurd k c, fun k => absurd k c, fun _ => a3.n, fun _ => n0, fun _ _ _ _ => fl_vf32 a5.1, fun _ _ _ _ => ij, fun _ _ _ _ => fl_vf32 a5.2.1, fun _ _ _ _ => fl_vf32 a5.2.2.1, fun _ _ _ _ => nb⟩
