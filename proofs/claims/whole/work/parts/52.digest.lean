/-! the digest, both sides -/
theorem dg_1024 : FP.Core.DFin 4652218415073722368 ∧ ¬ FP.Core.DZero 4652218415073722368 := by
  have h : vr 4652218415073722368 8192 8192 := vr.c (by decide +kernel)
  refine ⟨h.1, FP.Core.dnot_zero h.ok ?_⟩
  have := h.eqz
  show zd 4652218415073722368 ≠ 0
  rw [this]
  exact Int.ne_of_gt (Int.mul_pos (by decide) fl_E_pos)
theorem dg_cut {x : UInt64} (h : dok x) : vf_n64 (FP.dmul 4652218415073722368 x) := by
  refine fl_vf ?_
  show dok (FP.Core.dmul 4652218415073722368 x)
  rw [FP.Core.dmul_comm]
  exact (FP.Core.notNaN_iff _).mp (FP.Core.dmul_out' ((FP.Core.notNaN_iff _).mpr h) dg_1024.1 dg_1024.2)
section
variable {n P m g s t : Nat} {lk rf pu fh lh ee sc : Int32} {to su lv fo : UInt64} {si : UInt32} {ow gr we du sa pl dr sp dn : Nat → Int32} {dl : Nat → UInt32} {le : Nat → UInt64} {rc : Nat → Nat → Int32}
theorem dg_many (hn : n ≤ 10) (hP : P ≤ 3) (h4 : ∀ k, k < n → rc k 4 = sa k) (hsp : ∀ q, P ≤ q → sp q = 0) {tk mo ga sl : Int32} :
    ∀ (d i fuel fuel2 : Nat) (acc : Int64), i + d = 17 → d < fuel → d < fuel2 →
      f_X5_digest_6 lk rf pu fh lh ee tk mo ga sl (nI n) sa (nI P) sp fuel acc (nI i) = f_X7_digest_11 rf lk pu tk mo ga sl fh lh ee (nI P) sp n rc fuel2 acc (nI i) ∧ n_X5_digest_6 lk rf pu fh lh ee tk mo ga sl (nI n) sa (nI P) sp fuel acc (nI i) ∧ n_X7_digest_11 rf lk pu tk mo ga sl fh lh ee (nI P) sp n rc fuel2 acc (nI i) := by
  intro d
  induction d with
  | zero =>
    intro i fuel fuel2 acc hi hf hf2
    obtain ⟨f, rfl⟩ : ∃ f, fuel = f + 1 := ⟨fuel - 1, by omega⟩
    obtain ⟨f2, rfl⟩ : ∃ f, fuel2 = f + 1 := ⟨fuel2 - 1, by omega⟩
    have hle : (16 : Int32) < nI i := nI_lt (a := 16) (by omega) (by omega)
    have hle2 : (16 : Int32) < nI i := hle
    rw [f_X5_digest_6.eq_2, if_pos hle, f_X7_digest_11.eq_2, if_pos hle2, n_X5_digest_6.eq_2, n_X7_digest_11.eq_2]
    exact ⟨rfl, ⟨fun c => absurd hle c, fun c => absurd hle c⟩, ⟨fun c => absurd hle2 c, fun c => absurd hle2 c⟩⟩
  | succ d ih =>
    intro i fuel fuel2 acc hi hf hf2
    obtain ⟨f, rfl⟩ : ∃ f, fuel = f + 1 := ⟨fuel - 1, by omega⟩
    obtain ⟨f2, rfl⟩ : ∃ f, fuel2 = f + 1 := ⟨fuel2 - 1, by omega⟩
    have hlt : ¬ (16 : Int32) < nI i := nI_nlt (a := 16) (by omega) (by omega)
    have hlt2 : ¬ (16 : Int32) < nI i := hlt
    have h1 : nI i + 1 = nI (i + 1) := nI_1 i
    obtain ⟨a1, a2, a3⟩ := an_many (lk := lk) (rf := rf) (pu := pu) (fh := fh) (lh := lh) (ee := ee) (tk := tk) (mo := mo) (ga := ga) (sl := sl) hn hP h4 hsp (k := i) (by omega)
    obtain ⟨b1, b2, b3⟩ := ih (i + 1) f f2 (acc * 31 + (f_X7_manyNow rf lk pu tk mo ga sl fh lh ee (nI P) sp (nI i) n rc).toInt64) (by omega) (by omega) (by omega)
    rw [f_X5_digest_6.eq_2, if_neg hlt, f_X7_digest_11.eq_2, if_neg hlt2, n_X5_digest_6.eq_2, n_X7_digest_11.eq_2, h1, a1]
    exact ⟨b1, ⟨fun _ => a2, fun _ => b2⟩, fun _ => a3, fun _ => b3⟩
theorem dg_pairI {p : Nat} (hp : p < 3) :
    ∀ (d i fuel fuel2 : Nat) (acc : Int64), i + d = 3 → d < fuel → d < fuel2 →
      f_X5_joinedPair_6 pl dr sp (nI p) fuel acc (nI i) = f_X7_digest_107 pl dr sp (nI p) fuel2 acc (nI i) ∧ n_X5_joinedPair_6 pl dr sp (nI p) fuel acc (nI i) ∧ n_X7_digest_107 pl dr sp (nI p) fuel2 acc (nI i) := by
  intro d
  induction d with
  | zero =>
    intro i fuel fuel2 acc hi hf hf2
    obtain ⟨f, rfl⟩ : ∃ f, fuel = f + 1 := ⟨fuel - 1, by omega⟩
    obtain ⟨f2, rfl⟩ : ∃ f, fuel2 = f + 1 := ⟨fuel2 - 1, by omega⟩
    have hle : (2 : Int32) < nI i := nI_lt (a := 2) (by omega) (by omega)
    have hle2 : (2 : Int32) < nI i := hle
    rw [f_X5_joinedPair_6.eq_2, if_pos hle, f_X7_digest_107.eq_2, if_pos hle2, n_X5_joinedPair_6.eq_2, n_X7_digest_107.eq_2]
    exact ⟨rfl, ⟨fun c => absurd hle c, fun c => absurd hle c⟩, ⟨fun c => absurd hle2 c, fun c => absurd hle2 c⟩⟩
  | succ d ih =>
    intro i fuel fuel2 acc hi hf hf2
    obtain ⟨f, rfl⟩ : ∃ f, fuel = f + 1 := ⟨fuel - 1, by omega⟩
    obtain ⟨f2, rfl⟩ : ∃ f, fuel2 = f + 1 := ⟨fuel2 - 1, by omega⟩
    have hlt : ¬ (2 : Int32) < nI i := nI_nlt (a := 2) (by omega) (by omega)
    have hlt2 : ¬ (2 : Int32) < nI i := hlt
    have h1 : nI i + 1 = nI (i + 1) := nI_1 i
    obtain ⟨a2, a3⟩ := an_pairN hp (nI i)
    obtain ⟨b1, b2, b3⟩ := ih (i + 1) f f2 (acc * 31 + (f_X7_pairNow pl dr sp (nI p) (nI i)).toInt64) (by omega) (by omega) (by omega)
    rw [f_X5_joinedPair_6.eq_2, if_neg hlt, f_X7_digest_107.eq_2, if_neg hlt2, n_X5_joinedPair_6.eq_2, n_X7_digest_107.eq_2, h1, an_pair]
    exact ⟨b1, ⟨fun _ => a2, fun _ => b2⟩, fun _ => a3, fun _ => b3⟩
theorem dg_pair (hP : P ≤ 3) (hd : ∀ p, fr (dl p) 8) :
    ∀ (d i fuel fuel2 : Nat) (acc : Int64), i + d = P → d < fuel → d < fuel2 →
      f_X5_digest_70 (nI P) dl pl dr sp fuel acc (nI i) = f_X7_digest_93 (nI P) dl pl dr sp fuel2 acc (nI i) ∧ n_X5_digest_70 (nI P) dl pl dr sp fuel acc (nI i) ∧ n_X7_digest_93 (nI P) dl pl dr sp fuel2 acc (nI i) := by
  intro d
  induction d with
  | zero =>
    intro i fuel fuel2 acc hi hf hf2
    obtain ⟨f, rfl⟩ : ∃ f, fuel = f + 1 := ⟨fuel - 1, by omega⟩
    obtain ⟨f2, rfl⟩ : ∃ f, fuel2 = f + 1 := ⟨fuel2 - 1, by omega⟩
    have hle : nI P ≤ nI i := by rw [show i = P by omega]; exact nI_le (Nat.le_refl _) (by omega)
    have hle2 : nI P ≤ nI i := hle
    rw [f_X5_digest_70.eq_2, if_pos hle, f_X7_digest_93.eq_2, if_pos hle2, n_X5_digest_70.eq_2, n_X7_digest_93.eq_2]
    exact ⟨rfl, ⟨fun c => absurd hle c, fun c => absurd hle c⟩, ⟨fun c => absurd hle2 c, fun c => absurd hle2 c, fun c => absurd hle2 c, fun c => absurd hle2 c, fun c => absurd hle2 c⟩⟩
  | succ d ih =>
    intro i fuel fuel2 acc hi hf hf2
    obtain ⟨f, rfl⟩ : ∃ f, fuel = f + 1 := ⟨fuel - 1, by omega⟩
    obtain ⟨f2, rfl⟩ : ∃ f, fuel2 = f + 1 := ⟨fuel2 - 1, by omega⟩
    have hlt : ¬ nI P ≤ nI i := nI_ge (by omega) (by omega)
    have hlt2 : ¬ nI P ≤ nI i := hlt
    have h1 : nI i + 1 = nI (i + 1) := nI_1 i
    have hc : (nI i).toNatClampNeg = i := nI_clamp (by omega)
    have hfd := (hd i).f2d (by decide) (by decide)
    have ip := an_v3 i (by omega)
    have z0 : nI 0 = 0 := nI_0
    obtain ⟨a1, a2, a3⟩ := dg_pairI (pl := pl) (dr := dr) (sp := sp) (p := i) (by omega) 3 0 4 4 acc (by omega) (by omega) (by omega)
    rw [z0] at a1 a2 a3
    rcases hq : f_X7_digest_107 pl dr sp (nI i) 4 acc 0 with ⟨q1, q2⟩
    rw [hq] at a1
    have hj : f_X5_joinedPair dl pl dr sp acc (nI i) = q1 * 31 + FP.d2l (FP.dmul 4652218415073722368 (FP.f2d (dl i))) := by
      unfold f_X5_joinedPair
      rw [a1, hc]
      rfl
    obtain ⟨b1, b2, b3⟩ := ih (i + 1) f f2 (q1 * 31 + FP.d2l (FP.dmul 4652218415073722368 (FP.f2d (dl i)))) (by omega) (by omega) (by omega)
    rw [f_X5_digest_70.eq_2, if_neg hlt, f_X7_digest_93.eq_2, if_neg hlt2, n_X5_digest_70.eq_2, n_X7_digest_93.eq_2, h1, hc, hj, hq]
    refine ⟨b1, ⟨fun _ => ?_, fun _ => b2⟩, fun _ => a3, fun _ _ _ _ => ip, fun _ _ _ _ => hfd.n, fun _ _ _ _ => dg_cut hfd.ok, fun _ => ?_⟩
    · unfold n_X5_joinedPair
      rw [hc]
      exact ⟨a2, fun _ _ _ => ip, fun _ _ _ => hfd.n, fun _ _ _ => dg_cut hfd.ok⟩
    · intro x1 x2 e
      cases e
      exact b3
theorem dg_lotI (hn : n ≤ 10) (hP : P ≤ 3) {j : Nat} (hj : j < n) (hr : ∀ k, k < n → rc k 0 = ow k ∧ rc k 1 = gr k ∧ rc k 2 = we k ∧ rc k 3 = du k ∧ rc k 4 = sa k) :
    ∀ (d i fuel fuel2 : Nat) (acc : Int64), i + d = 6 → d < fuel → d < fuel2 →
      f_X5_joinedLot_6 ow gr we du sa (nI P) pl (nI j) fuel acc (nI i) = f_X7_digest_180 (nI P) pl rc (nI j) fuel2 acc (nI i) ∧ n_X5_joinedLot_6 ow gr we du sa (nI P) pl (nI j) fuel acc (nI i) ∧ n_X7_digest_180 (nI P) pl n rc (nI j) fuel2 acc (nI i) := by
  intro d
  induction d with
  | zero =>
    intro i fuel fuel2 acc hi hf hf2
    obtain ⟨f, rfl⟩ : ∃ f, fuel = f + 1 := ⟨fuel - 1, by omega⟩
    obtain ⟨f2, rfl⟩ : ∃ f, fuel2 = f + 1 := ⟨fuel2 - 1, by omega⟩
    have hle : (5 : Int32) < nI i := nI_lt (a := 5) (by omega) (by omega)
    have hle2 : (5 : Int32) < nI i := hle
    rw [f_X5_joinedLot_6.eq_2, if_pos hle, f_X7_digest_180.eq_2, if_pos hle2, n_X5_joinedLot_6.eq_2, n_X7_digest_180.eq_2]
    exact ⟨rfl, ⟨fun c => absurd hle c, fun c => absurd hle c⟩, ⟨fun c => absurd hle2 c, fun c => absurd hle2 c⟩⟩
  | succ d ih =>
    intro i fuel fuel2 acc hi hf hf2
    obtain ⟨f, rfl⟩ : ∃ f, fuel = f + 1 := ⟨fuel - 1, by omega⟩
    obtain ⟨f2, rfl⟩ : ∃ f, fuel2 = f + 1 := ⟨fuel2 - 1, by omega⟩
    have hlt : ¬ (5 : Int32) < nI i := nI_nlt (a := 5) (by omega) (by omega)
    have hlt2 : ¬ (5 : Int32) < nI i := hlt
    have h1 : nI i + 1 = nI (i + 1) := nI_1 i
    obtain ⟨a1, a2, a3⟩ := an_lot (pl := pl) hn hP hj hr (k := i) (by omega)
    obtain ⟨b1, b2, b3⟩ := ih (i + 1) f f2 (acc * 31 + (f_X7_lotNow (nI P) pl (nI j) (nI i) rc).toInt64) (by omega) (by omega) (by omega)
    rw [f_X5_joinedLot_6.eq_2, if_neg hlt, f_X7_digest_180.eq_2, if_neg hlt2, n_X5_joinedLot_6.eq_2, n_X7_digest_180.eq_2, h1, a1]
    exact ⟨b1, ⟨fun _ => a2, fun _ => b2⟩, fun _ => a3, fun _ => b3⟩
theorem dg_lot (hm : m < 30) (hsu : vr su (-16) 16) (hgg : g ≤ 3) (hw : s ≤ 4) (hn : n ≤ 10) (hP : P ≤ 3) (ht : t ≤ 5000) (hsc : tm_bool sc) (h : ms n P lv si fo dl pl le sa dn) (hr : ∀ k, k < n → rc k 0 = ow k ∧ rc k 1 = gr k ∧ rc k 2 = we k ∧ rc k 3 = du k ∧ rc k 4 = sa k) :
    ∀ (d i fuel fuel2 : Nat) (acc : Int64), i + d = n → d < fuel → d < fuel2 →
      f_X5_digest_99 fh lh ee (nI t) (nI m) su lv si (nI g) (nI s) sc fo (nI n) ow gr we du sa le (nI P) dl pl dr sp fuel acc (nI i) = f_X7_digest_164 (nI t) (nI m) su lv si (nI g) (nI s) sc fh lh (nI P) dl pl dr le dn n rc fuel2 acc (nI i) ∧ n_X5_digest_99 fh lh ee (nI t) (nI m) su lv si (nI g) (nI s) sc fo (nI n) ow gr we du sa le (nI P) dl pl dr sp fuel acc (nI i) ∧ n_X7_digest_164 (nI t) (nI m) su lv si (nI g) (nI s) sc fh lh (nI P) dl pl dr le dn n rc fuel2 acc (nI i) := by
  intro d
  induction d with
  | zero =>
    intro i fuel fuel2 acc hi hf hf2
    obtain ⟨f, rfl⟩ : ∃ f, fuel = f + 1 := ⟨fuel - 1, by omega⟩
    obtain ⟨f2, rfl⟩ : ∃ f, fuel2 = f + 1 := ⟨fuel2 - 1, by omega⟩
    have hle : nI n ≤ nI i := by rw [show i = n by omega]; exact nI_le (Nat.le_refl _) (by omega)
    have hle2 : f_Jx4a65c_size_8abf5 (nI n) ≤ nI i := hle
    rw [f_X5_digest_99.eq_2, if_pos hle, f_X7_digest_164.eq_2, if_pos hle2, n_X5_digest_99.eq_2, n_X7_digest_164.eq_2]
    exact ⟨rfl, ⟨fun c => absurd hle c, fun c => absurd hle c⟩, ⟨fun c => absurd hle2 c, fun c => absurd hle2 c, fun c => absurd hle2 c, fun c => absurd hle2 c, fun c => absurd hle2 c⟩⟩
  | succ d ih =>
    intro i fuel fuel2 acc hi hf hf2
    obtain ⟨f, rfl⟩ : ∃ f, fuel = f + 1 := ⟨fuel - 1, by omega⟩
    obtain ⟨f2, rfl⟩ : ∃ f, fuel2 = f + 1 := ⟨fuel2 - 1, by omega⟩
    have hlt : ¬ nI n ≤ nI i := nI_ge (by omega) (by omega)
    have hlt2 : ¬ f_Jx4a65c_size_8abf5 (nI n) ≤ nI i := hlt
    have h1 : nI i + 1 = nI (i + 1) := nI_1 i
    have hc : (nI i).toNatClampNeg = i := nI_clamp (by omega)
    have ip : vp_in (nI i) 10 := vp_in_nI (by omega) (by decide)
    have hl := (h.2.2.2.2.1 i).vr.ok
    have z0 : nI 0 = 0 := nI_0
    obtain ⟨a1, a2, a3⟩ := dg_lotI (pl := pl) hn hP (j := i) (by omega) hr 6 0 8 7 acc (by omega) (by omega) (by omega)
    rw [z0] at a1 a2 a3
    obtain ⟨d1, d2, d3⟩ := an_done (fh := fh) (lh := lh) (sc := sc) (ee := ee) (fo := fo) (dr := dr) (sp := sp) (j := i) hm hsu hgg hw hn hP (fun k hk => (hr k hk).2.1) (fun k hk => (hr k hk).2.2.2.2) ht hsc h (by omega)
    rcases hq : f_X7_digest_180 (nI P) pl rc (nI i) 7 acc 0 with ⟨q1, q2⟩
    rw [hq] at a1
    generalize hD : f_X7_doneNow (nI t) (nI m) su lv si (nI g) (nI s) sc fh lh (nI P) dl pl dr le dn (nI i) rc = D at *
    have hj : f_X5_joinedLot fh lh ee (nI t) (nI m) su lv si (nI g) (nI s) sc fo (nI n) ow gr we du sa le (nI P) dl pl dr sp acc (nI i) = (q1 * 31 + FP.d2l (FP.dmul 4652218415073722368 (le i))) * 31 + D.toInt64 := by
      unfold f_X5_joinedLot
      rw [a1, hc, d1]
      rfl
    obtain ⟨b1, b2, b3⟩ := ih (i + 1) f f2 ((q1 * 31 + FP.d2l (FP.dmul 4652218415073722368 (le i))) * 31 + D.toInt64) (by omega) (by omega) (by omega)
    rw [f_X5_digest_99.eq_2, if_neg hlt, f_X7_digest_164.eq_2, if_neg hlt2, n_X5_digest_99.eq_2, n_X7_digest_164.eq_2, h1, hc, hj, hq, hD]
    refine ⟨b1, ⟨fun _ => ?_, fun _ => b2⟩, fun _ => a3, fun _ _ _ _ => ip, fun _ _ _ _ => dg_cut hl, fun _ _ _ _ => d3, fun _ => ?_⟩
    · unfold n_X5_joinedLot
      rw [hc]
      exact ⟨a2, fun _ _ _ => ip, fun _ _ _ => dg_cut hl, fun _ _ _ => d2⟩
    · intro x1 x2 e
      cases e
      exact b3
theorem dg_own (hn : n ≤ 10) (h0 : ∀ k, k < n → rc k 0 = ow k) (h2 : ∀ k, k < n → rc k 2 = we k) (h4 : ∀ k, k < n → rc k 4 = sa k) :
    ∀ (d i fuel fuel2 : Nat) (acc : Int64), i + d = 4 → d < fuel → d < fuel2 →
      f_X5_digest_128 (nI n) ow we sa fuel acc (nI i) = f_X7_digest_249 n rc fuel2 acc (nI i) ∧ n_X5_digest_128 (nI n) ow we sa fuel acc (nI i) ∧ n_X7_digest_249 n rc fuel2 acc (nI i) := by
  intro d
  induction d with
  | zero =>
    intro i fuel fuel2 acc hi hf hf2
    obtain ⟨f, rfl⟩ : ∃ f, fuel = f + 1 := ⟨fuel - 1, by omega⟩
    obtain ⟨f2, rfl⟩ : ∃ f, fuel2 = f + 1 := ⟨fuel2 - 1, by omega⟩
    have hle : (4 : Int32) ≤ nI i := by rw [show i = 4 by omega]; decide
    have hle2 : (4 : Int32) ≤ nI i := hle
    rw [f_X5_digest_128.eq_2, if_pos hle, f_X7_digest_249.eq_2, if_pos hle2, n_X5_digest_128.eq_2, n_X7_digest_249.eq_2]
    exact ⟨rfl, ⟨fun c => absurd hle c, fun c => absurd hle c⟩, ⟨fun c => absurd hle2 c, fun c => absurd hle2 c⟩⟩
  | succ d ih =>
    intro i fuel fuel2 acc hi hf hf2
    obtain ⟨f, rfl⟩ : ∃ f, fuel = f + 1 := ⟨fuel - 1, by omega⟩
    obtain ⟨f2, rfl⟩ : ∃ f, fuel2 = f + 1 := ⟨fuel2 - 1, by omega⟩
    have hlt : ¬ (4 : Int32) ≤ nI i := nI_ge (b := 4) (by omega) (by omega)
    have hlt2 : ¬ (4 : Int32) ≤ nI i := hlt
    have h1 : nI i + 1 = nI (i + 1) := nI_1 i
    obtain ⟨a1, a2, a3⟩ := li_weightE hn h0 h2 h4 (nI i) 0
    obtain ⟨b1, b2, b3⟩ := ih (i + 1) f f2 (acc * 31 + (f_X7_ownerNow (nI i) 0 n rc).toInt64) (by omega) (by omega) (by omega)
    rw [f_X5_digest_128.eq_2, if_neg hlt, f_X7_digest_249.eq_2, if_neg hlt2, n_X5_digest_128.eq_2, n_X7_digest_249.eq_2, h1, a1]
    exact ⟨b1, ⟨fun _ => a2, fun _ => b2⟩, fun _ => a3, fun _ => b3⟩
theorem dg_all (hm : m < 30) (hsu : vr su (-16) 16) (hgg : g ≤ 3) (hw : s ≤ 4) (hn : n ≤ 10) (hP : P ≤ 3) (ht : t ≤ 5000) (hsc : tm_bool sc) (h : ms n P lv si fo dl pl le sa dn) (hr : ∀ k, k < n → rc k 0 = ow k ∧ rc k 1 = gr k ∧ rc k 2 = we k ∧ rc k 3 = du k ∧ rc k 4 = sa k) (hto : dok to) (hsp : ∀ q, P ≤ q → sp q = 0) :
    ∃ x, f_X5_digest lk rf pu to fh lh ee (nI t) (nI m) su lv si (nI g) (nI s) sc fo (nI n) ow gr we du sa le (nI P) dl pl dr sp = x ∧ f_X7_digest rf lk pu to (nI t) (nI m) su lv si (nI g) (nI s) sc fh lh ee (nI P) dl pl dr sp le dn n rc = (x, 0) ∧
      n_X5_digest lk rf pu to fh lh ee (nI t) (nI m) su lv si (nI g) (nI s) sc fo (nI n) ow gr we du sa le (nI P) dl pl dr sp ∧ n_X7_digest rf lk pu to (nI t) (nI m) su lv si (nI g) (nI s) sc fh lh ee (nI P) dl pl dr sp le dn n rc := by
  have h0 : ∀ k, k < n → rc k 0 = ow k := fun k hk => (hr k hk).1
  have h1 : ∀ k, k < n → rc k 1 = gr k := fun k hk => (hr k hk).2.1
  have h2 : ∀ k, k < n → rc k 2 = we k := fun k hk => (hr k hk).2.2.1
  have h4 : ∀ k, k < n → rc k 4 = sa k := fun k hk => (hr k hk).2.2.2.2
  have z0 : nI 0 = 0 := nI_0
  have z24 : nI 24 = 24 := rfl
  have hsi := h.2.1.f2d (k := 32) (by decide) (by decide)
  obtain ⟨a1, a2, a3⟩ := dg_many (lk := lk) (rf := rf) (pu := pu) (fh := fh) (lh := lh) (ee := ee) (tk := nI t) (mo := nI m) (ga := nI g) (sl := nI s) hn hP h4 hsp 17 0 18 18 58306 (by omega) (by omega) (by omega)
  rw [z0] at a1 a2 a3
  rcases hq : f_X7_digest_11 rf lk pu (nI t) (nI m) (nI g) (nI s) fh lh ee (nI P) sp n rc 18 58306 0 with ⟨q1, q2⟩
  rw [hq] at a1
  generalize hA : ((((q1 * 31) + (FP.d2l (FP.dmul 4652218415073722368 lv))) * 31) + (FP.d2l (FP.dmul 4652218415073722368 (FP.f2d si)))) * 31 + (FP.d2l (FP.dmul 4652218415073722368 to)) = A
  have hA5 : f_X5_joined (f_X5_joined (f_X5_joined q1 (f_X5_cutOf1024 (f_X5_pondAnswer to (nI t) (nI m) lv si fo 0))) (f_X5_cutOf1024 (f_X5_pondAnswer to (nI t) (nI m) lv si fo 1))) (f_X5_cutOf1024 (f_X5_pondAnswer to (nI t) (nI m) lv si fo 4)) = A := hA
  obtain ⟨b1, b2, b3⟩ := dg_pair (dl := dl) (pl := pl) (dr := dr) (sp := sp) hP h.2.2.2.1 P 0 5 5 A (by omega) (by omega) (by omega)
  rw [z0] at b1 b2 b3
  rcases hr2 : f_X7_digest_93 (nI P) dl pl dr sp 5 A 0 with ⟨r1, r2⟩
  rw [hr2] at b1
  obtain ⟨c1, c2, c3⟩ := dg_lot (fh := fh) (lh := lh) (ee := ee) (sp := sp) (dr := dr) hm hsu hgg hw hn hP ht hsc h hr n 0 12 12 r1 (by omega) (by omega) (by omega)
  rw [z0] at c1 c2 c3
  rcases hs2 : f_X7_digest_164 (nI t) (nI m) su lv si (nI g) (nI s) sc fh lh (nI P) dl pl dr le dn n rc 12 r1 0 with ⟨s1, s2⟩
  rw [hs2] at c1
  obtain ⟨d1, d2, d3⟩ := dg_own hn h0 h2 h4 4 0 6 6 s1 (by omega) (by omega) (by omega)
  rw [z0] at d1 d2 d3
  rcases ht2 : f_X7_digest_249 n rc 6 s1 0 with ⟨t1, t2⟩
  rw [ht2] at d1
  obtain ⟨e1, e2, e3⟩ := li_highE ht
  obtain ⟨f1, f2, f3⟩ := wd_bestE (fh := fh) (lh := lh) (ee := ee) (dr := dr) (sp := sp) (T := 24) hm hsu hgg hn hP (by omega) h1 ht hsc (an_dn h) h
  rw [z24] at f1 f2 f3
  obtain ⟨-, -, p0, -⟩ := an_pond (to := to) hm (by omega : t < 7000) hto h.1 h.2.1 h.2.2.1 0
  obtain ⟨-, -, p1, -⟩ := an_pond (to := to) hm (by omega : t < 7000) hto h.1 h.2.1 h.2.2.1 1
  obtain ⟨-, -, p4, -⟩ := an_pond (to := to) hm (by omega : t < 7000) hto h.1 h.2.1 h.2.2.1 4
  refine ⟨_, rfl, ?_, ?_, ?_⟩
  · unfold f_X5_digest f_X7_digest
    rw [a1, hq]
    dsimp only
    rw [hA5, hA, b1, hr2]
    dsimp only
    rw [c1, hs2]
    dsimp only
    rw [d1, ht2]
    dsimp only
    rw [e1, f1]
    rfl
  · unfold n_X5_digest
    rw [a1]
    refine ⟨a2, fun _ _ _ => p0, fun _ _ _ => dg_cut h.1.ok, fun _ _ _ => p1, fun _ _ _ => dg_cut hsi.ok, fun _ _ _ => p4, fun _ _ _ => dg_cut hto, ?_, ?_, ?_, ?_, ?_⟩
    · intro x1 x2 e
      cases e
      rw [hA5]
      exact b2
    · intro x1 x2 e x3 x4 e'
      cases e
      rw [hA5, b1] at e'
      cases e'
      exact c2
    · intro x1 x2 e x3 x4 e' x5 x6 e''
      cases e
      rw [hA5, b1] at e'
      cases e'
      rw [c1] at e''
      cases e''
      exact d2
    · intros
      exact e2
    · intros
      exact f2
  · unfold n_X7_digest
    rw [hq]
    refine ⟨a3, fun _ _ _ => dg_cut h.1.ok, fun _ _ _ => hsi.n, fun _ _ _ => dg_cut hsi.ok, fun _ _ _ => dg_cut hto, ?_, ?_, ?_, ?_, ?_⟩
    · intro x1 x2 e
      cases e
      rw [hA]
      exact b3
    · intro x1 x2 e x3 x4 e'
      cases e
      rw [hA, hr2] at e'
      cases e'
      exact c3
    · intro x1 x2 e x3 x4 e' x5 x6 e''
      cases e
      rw [hA, hr2] at e'
      cases e'
      rw [hs2] at e''
      cases e''
      exact d3
    · intros
      exact e3
    · intros
      exact f3
end
