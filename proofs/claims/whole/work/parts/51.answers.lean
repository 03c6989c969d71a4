/-! answers, both sides -/
theorem an_v17 (k : Nat) (hk : k < 17) : vp_in (nI k) 17 := vp_in_nI hk (by decide)
theorem an_v3 (k : Nat) (hk : k < 3) : vp_in (nI k) 3 := vp_in_nI hk (by decide)
theorem an_many {n P : Nat} {lk rf pu fh lh ee tk mo ga sl : Int32} {sa sp : Nat → Int32} {rc : Nat → Nat → Int32} (hn : n ≤ 10) (hP : P ≤ 3) (h4 : ∀ k, k < n → rc k 4 = sa k) (hsp : ∀ q, P ≤ q → sp q = 0) {k : Nat} (hk : k ≤ 16) :
    f_X5_manyAnswer lk rf pu fh lh ee tk mo ga sl (nI n) sa (nI P) sp (nI k) = f_X7_manyNow rf lk pu tk mo ga sl fh lh ee (nI P) sp (nI k) n rc ∧ n_X5_manyAnswer (nI n) sa (nI P) sp (nI k) ∧ n_X7_manyNow lk tk fh lh (nI k) n rc := by
  obtain ⟨a1, a2, a3⟩ := li_countE hn h4 0
  obtain ⟨b1, b2, b3⟩ := li_countE hn h4 2
  obtain ⟨c1, c2, c3⟩ := li_countE hn h4 3
  have hs := li_sparks hP hsp
  have hsn : n_X2_allSparks (nI P) sp := li_sparksN hP sp P 0 5 0 (by omega) (by omega)
  refine ⟨?_, ?_, ?_⟩
  · unfold f_X5_manyAnswer f_X7_manyNow f_X4_today f_Jx4a65c_size_8abf5
    have es : f_X6_spring mo tk = f_X4_springOf (f_X4_ageOn mo tk) := rfl
    rw [a1, b1, c1, hs, tn_aw, es, sa_ageE]
    generalize f_X4_springOf (f_X4_ageOn mo tk) = q7
    generalize f_X4_ageOn mo tk = q8
    generalize tk / 48 = q9
    generalize f_X7_count 0 n rc = q0
    generalize f_X7_count 2 n rc = q2
    generalize f_X7_count 3 n rc = q3
    have hkc : (nI k).toNatClampNeg = k := nI_clamp (by omega)
    have e0 : (nI k = 0) = (k = 0) := propext (nI_eq (a := k) (b := 0) (by omega) (by decide))
    have e1 : (nI k = 1) = (k = 1) := propext (nI_eq (a := k) (b := 1) (by omega) (by decide))
    have e2 : (nI k = 2) = (k = 2) := propext (nI_eq (a := k) (b := 2) (by omega) (by decide))
    have e3 : (nI k = 3) = (k = 3) := propext (nI_eq (a := k) (b := 3) (by omega) (by decide))
    have e4 : (nI k = 4) = (k = 4) := propext (nI_eq (a := k) (b := 4) (by omega) (by decide))
    have e5 : (nI k = 5) = (k = 5) := propext (nI_eq (a := k) (b := 5) (by omega) (by decide))
    have e6 : (nI k = 6) = (k = 6) := propext (nI_eq (a := k) (b := 6) (by omega) (by decide))
    have e7 : (nI k = 7) = (k = 7) := propext (nI_eq (a := k) (b := 7) (by omega) (by decide))
    have e8 : (nI k = 8) = (k = 8) := propext (nI_eq (a := k) (b := 8) (by omega) (by decide))
    have e9 : (nI k = 9) = (k = 9) := propext (nI_eq (a := k) (b := 9) (by omega) (by decide))
    have e10 : (nI k = 10) = (k = 10) := propext (nI_eq (a := k) (b := 10) (by omega) (by decide))
    have e11 : (nI k = 11) = (k = 11) := propext (nI_eq (a := k) (b := 11) (by omega) (by decide))
    have e12 : (nI k = 12) = (k = 12) := propext (nI_eq (a := k) (b := 12) (by omega) (by decide))
    have e13 : (nI k = 13) = (k = 13) := propext (nI_eq (a := k) (b := 13) (by omega) (by decide))
    have e14 : (nI k = 14) = (k = 14) := propext (nI_eq (a := k) (b := 14) (by omega) (by decide))
    have e15 : (nI k = 15) = (k = 15) := propext (nI_eq (a := k) (b := 15) (by omega) (by decide))
    have d0 : (0 : Int32).toNatClampNeg = 0 := rfl
    have d1 : (1 : Int32).toNatClampNeg = 1 := rfl
    have d2 : (2 : Int32).toNatClampNeg = 2 := rfl
    have d3 : (3 : Int32).toNatClampNeg = 3 := rfl
    have d4 : (4 : Int32).toNatClampNeg = 4 := rfl
    have d5 : (5 : Int32).toNatClampNeg = 5 := rfl
    have d6 : (6 : Int32).toNatClampNeg = 6 := rfl
    have d7 : (7 : Int32).toNatClampNeg = 7 := rfl
    have d8 : (8 : Int32).toNatClampNeg = 8 := rfl
    have d9 : (9 : Int32).toNatClampNeg = 9 := rfl
    have d10 : (10 : Int32).toNatClampNeg = 10 := rfl
    have d11 : (11 : Int32).toNatClampNeg = 11 := rfl
    have d12 : (12 : Int32).toNatClampNeg = 12 := rfl
    have d13 : (13 : Int32).toNatClampNeg = 13 := rfl
    have d14 : (14 : Int32).toNatClampNeg = 14 := rfl
    have d15 : (15 : Int32).toNatClampNeg = 15 := rfl
    have d16 : (16 : Int32).toNatClampNeg = 16 := rfl
    simp only [hkc, e0, e1, e2, e3, e4, e5, e6, e7, e8, e9, e10, e11, e12, e13, e14, e15, d0, d1, d2, d3, d4, d5, d6, d7, d8, d9, d10, d11, d12, d13, d14, d15, d16, upd]
    generalize sp 0 + sp 1 + sp 2 = q6
    have hd : k = 0 ∨ k = 1 ∨ k = 2 ∨ k = 3 ∨ k = 4 ∨ k = 5 ∨ k = 6 ∨ k = 7 ∨ k = 8 ∨ k = 9 ∨ k = 10 ∨ k = 11 ∨ k = 12 ∨ k = 13 ∨ k = 14 ∨ k = 15 ∨ k = 16 := by omega
    by_cases ca : f_X1_isAwake fh lh tk = 0
    · by_cases cl : lk = 0
      · simp only [if_pos ca, if_pos cl]
        rcases hd with rfl | rfl | rfl | rfl | rfl | rfl | rfl | rfl | rfl | rfl | rfl | rfl | rfl | rfl | rfl | rfl | rfl <;> simp
      · simp only [if_pos ca, if_neg cl]
        rcases hd with rfl | rfl | rfl | rfl | rfl | rfl | rfl | rfl | rfl | rfl | rfl | rfl | rfl | rfl | rfl | rfl | rfl <;> simp
    · by_cases cl : lk = 0
      · simp only [if_neg ca, if_pos cl]
        rcases hd with rfl | rfl | rfl | rfl | rfl | rfl | rfl | rfl | rfl | rfl | rfl | rfl | rfl | rfl | rfl | rfl | rfl <;> simp
      · simp only [if_neg ca, if_neg cl]
        rcases hd with rfl | rfl | rfl | rfl | rfl | rfl | rfl | rfl | rfl | rfl | rfl | rfl | rfl | rfl | rfl | rfl | rfl <;> simp
  · unfold n_X5_manyAnswer
    exact ⟨fun _ _ _ _ _ _ _ _ _ => a2, fun _ _ _ _ _ _ _ _ _ _ => b2, fun _ _ _ _ _ _ _ _ _ _ _ => c2, fun _ _ _ _ _ _ _ _ _ _ _ _ _ _ => hsn⟩
  · have vk := an_v17 k (by omega)
    have x0 : vp_in 0 3 := an_v3 0 (by decide)
    have x1 : vp_in 1 3 := an_v3 1 (by decide)
    have x2 : vp_in 2 3 := an_v3 2 (by decide)
    have w0 : vp_in 0 17 := an_v17 0 (by decide)
    have w1 : vp_in 1 17 := an_v17 1 (by decide)
    have w2 : vp_in 2 17 := an_v17 2 (by decide)
    have w3 : vp_in 3 17 := an_v17 3 (by decide)
    have w4 : vp_in 4 17 := an_v17 4 (by decide)
    have w5 : vp_in 5 17 := an_v17 5 (by decide)
    have w6 : vp_in 6 17 := an_v17 6 (by decide)
    have w7 : vp_in 7 17 := an_v17 7 (by decide)
    have w8 : vp_in 8 17 := an_v17 8 (by decide)
    have w9 : vp_in 9 17 := an_v17 9 (by decide)
    have w10 : vp_in 10 17 := an_v17 10 (by decide)
    have w11 : vp_in 11 17 := an_v17 11 (by decide)
    have w12 : vp_in 12 17 := an_v17 12 (by decide)
    have w13 : vp_in 13 17 := an_v17 13 (by decide)
    have w14 : vp_in 14 17 := an_v17 14 (by decide)
    have w15 : vp_in 15 17 := an_v17 15 (by decide)
    have w16 : vp_in 16 17 := an_v17 16 (by decide)
    unfold n_X7_manyNow
    exact ⟨x0, x1, x2, w0, w1, w2, w3, w4, w5, w6, w7, a3, w8, b3, w9, c3, w10, w11, w12, w13, fun _ => w14, fun _ => w15, fun _ _ => w16, fun _ _ => vk, fun _ _ => w16, fun _ _ => vk, fun _ => w14, fun _ => w15, fun _ _ => w16, fun _ _ => vk, fun _ _ => w16, fun _ _ => vk⟩
theorem an_pond {m t : Nat} {to lv fo : UInt64} {si : UInt32} (hm : m < 30) (ht : t < 7000) (hto : dok to) (hl : vr lv (-80) 88) (hs : fr si 32) (hf : vr fo 0 1058) (x : Int32) :
    f_X5_pondAnswer to (nI t) (nI m) lv si fo x = f_X7_pondNow to (nI t) (nI m) lv si fo x ∧ dok (f_X5_pondAnswer to (nI t) (nI m) lv si fo x) ∧ n_X5_pondAnswer (nI t) (nI m) si x ∧ n_X7_pondNow (nI t) (nI m) si x := by
  obtain ⟨g1, g2⟩ := sa_range hm ht
  obtain ⟨a1, a2⟩ := pd_area hs
  have f1 := hs.f2d (by decide) (by decide)
  refine ⟨rfl, ?_, ⟨fun _ _ => f1.n, fun _ _ _ => a2, fun _ _ _ _ _ => g2⟩, ⟨fun _ _ => f1.n, fun _ _ _ => a2, fun _ _ _ _ _ => g2⟩⟩
  unfold f_X5_pondAnswer
  split
  · exact hl.ok
  · split
    · exact f1.ok
    · split
      · exact a1.ok
      · split
        · exact hf.ok
        · split
          · exact hto
          · exact g1.ok
theorem an_pair (pl dr sp : Nat → Int32) (x y : Int32) : f_X5_pairAnswer pl dr sp x y = f_X7_pairNow pl dr sp x y := rfl
theorem an_pairN {p : Nat} (hp : p < 3) (y : Int32) : n_X5_pairAnswer (nI p) y ∧ n_X7_pairNow (nI p) y := by
  have h := an_v3 p hp
  exact ⟨⟨fun _ => h, fun _ _ => h, fun _ _ => h⟩, ⟨fun _ _ => h, fun _ _ => h, fun _ => h⟩⟩
theorem an_lot {n P j : Nat} {ow gr we du sa pl : Nat → Int32} {rc : Nat → Nat → Int32} (hn : n ≤ 10) (hP : P ≤ 3) (hj : j < n) (hr : ∀ k, k < n → rc k 0 = ow k ∧ rc k 1 = gr k ∧ rc k 2 = we k ∧ rc k 3 = du k ∧ rc k 4 = sa k) {k : Nat} (hk : k ≤ 5) :
    f_X5_lotAnswer ow gr we du sa (nI P) pl (nI j) (nI k) = f_X7_lotNow (nI P) pl (nI j) (nI k) rc ∧ n_X5_lotAnswer (nI P) pl (nI j) (nI k) ∧ n_X7_lotNow (nI P) pl (nI j) (nI k) n := by
  have hcj : (nI j).toNatClampNeg = j := nI_clamp (by omega)
  have ij : vp_in (nI j) 10 := vp_in_nI (by omega) (by decide)
  obtain ⟨r0, r1, r2, r3, r4⟩ := hr j hj
  have hw := li_withN hP pl (nI j) P 0 5 (by omega) (by omega)
  refine ⟨?_, ?_, ?_⟩
  · unfold f_X5_lotAnswer f_X7_lotNow
    rw [hcj, li_withE]
    match k, hk with
    | 0, _ => exact r0.symm
    | 1, _ => exact r1.symm
    | 2, _ => exact r2.symm
    | 3, _ => exact r3.symm
    | 4, _ => exact r4.symm
    | 5, _ => rfl
    | k + 6, hk => omega
  · exact ⟨fun _ => ij, fun _ _ => ij, fun _ _ _ => ij, fun _ _ _ _ => ij, fun _ _ _ _ _ => ij, fun _ _ _ _ _ => hw.1⟩
  · refine ⟨fun _ => ge_get hj hn, fun _ => vp_in_nI hj (by omega), fun c => ?_, fun _ => hw.2⟩
    have : k ≠ 5 := fun e => c (by rw [e]; rfl)
    exact vp_in_nI (by omega) (by decide)
section
variable {fh lh sc ee : Int32} {n P m g s t T : Nat} {su lv fo : UInt64} {si : UInt32} {gr : Nat → Int32} {rc : Nat → Nat → Int32} {dl : Nat → UInt32} {pl dr sp sa dn : Nat → Int32} {le : Nat → UInt64}
/-- what the dn of a mill is -/
theorem an_dn (h : ms n P lv si fo dl pl le sa dn) (j : Nat) : tm_bool (dn j) := by
  rcases h.2.2.2.2.2.2.2 j with ⟨_, h⟩ | ⟨_, h⟩
  · exact Or.inl h
  · exact Or.inr h
theorem an_level (hm : m < 30) (hsu : vr su (-16) 16) (hgg : g ≤ 3) (hw : s ≤ 4) (hn : n ≤ 10) (hP : P ≤ 3) (hT : T ≤ 100) (hg : ∀ k, k < n → rc k 1 = gr k) (ht : t ≤ 5000) (h : ms n P lv si fo dl pl le sa dn) :
    ∃ (x : UInt64), dok x ∧ (∃ u1 u2 u4 u5 u6 u7 u8 u9 u10 u11, f_X1_letGoBy fh lh ee (nI t) (nI m) su lv si (nI g) (nI s) sc fo (nI n) gr sa le (nI P) dl pl dr sp (nI T) = (u1, u2, x, u4, u5, u6, u7, u8, u9, u10, u11)) ∧ (∃ v0 v1 v2 v3 v5 v6 v7 v8 v9 v10 v11, f_X7_wouldLevel_32 (nI m) su (nI g) (nI s) sc fh lh (nI P) (nI T) rc 102 0 le dn (nI t) lv si 0 0 dl pl dr (fun _ => (0 : Int32)) = (v0, v1, v2, v3, x, v5, v6, v7, v8, v9, v10, v11)) ∧
      n_X1_letGoBy fh lh ee (nI t) (nI m) su lv si (nI g) (nI s) sc fo (nI n) gr sa le (nI P) dl pl dr sp (nI T) ∧ n_X7_wouldLevel_32 (nI m) su (nI g) (nI s) sc fh lh (nI P) (nI T) n rc 102 0 le dn (nI t) lv si 0 0 dl pl dr (fun _ => (0 : Int32)) := by
  obtain ⟨ee1, ee21, lv1, fo1, fo21, si1, dl1, pl1, dr1, sp1, sp21, sa1, dn1, le1, a1, a2, a3, a4, a5, -⟩ := mt_wouldLevel_32 (fh := fh) (lh := lh) (sc := sc) (T := T) (gr := gr) (rc := rc) hm hsu hgg hw hn hP (by omega) hg T 0 t 102 102 ee 0 lv fo 0 si dl pl dr sp (fun _ => (0 : Int32)) sa dn le (by omega) (by omega) (by omega) (by omega) h
  have z0 : nI 0 = 0 := nI_0
  rw [z0] at a1 a2 a3 a4
  exact ⟨lv1, a5.1.ok, ⟨_, _, _, _, _, _, _, _, _, _, a1⟩, ⟨_, _, _, _, _, _, _, _, _, _, _, a2⟩, a3, a4⟩
theorem an_done {j : Nat} (hm : m < 30) (hsu : vr su (-16) 16) (hgg : g ≤ 3) (hw : s ≤ 4) (hn : n ≤ 10) (hP : P ≤ 3) (hg : ∀ k, k < n → rc k 1 = gr k) (h4 : ∀ k, k < n → rc k 4 = sa k) (ht : t ≤ 5000) (hsc : tm_bool sc) (h : ms n P lv si fo dl pl le sa dn) (hj : j < n) :
    f_X5_ticksToDone fh lh ee (nI t) (nI m) su lv si (nI g) (nI s) sc fo (nI n) gr sa le (nI P) dl pl dr sp (nI j) = f_X7_doneNow (nI t) (nI m) su lv si (nI g) (nI s) sc fh lh (nI P) dl pl dr le dn (nI j) rc ∧
    n_X5_ticksToDone fh lh ee (nI t) (nI m) su lv si (nI g) (nI s) sc fo (nI n) gr sa le (nI P) dl pl dr sp (nI j) ∧
    n_X7_doneNow (nI t) (nI m) su lv si (nI g) (nI s) sc fh lh (nI P) dl pl dr le dn (nI j) n rc := by
  have hcj : (nI j).toNatClampNeg = j := nI_clamp (by omega)
  have ij : vp_in (nI j) 10 := vp_in_nI (by omega) (by decide)
  have z1 : nI 1 = 1 := rfl
  have hr := h4 j hj
  have hd := an_dn h
  have i4 : vp_in 4 5 := li_in5 4 (by decide)
  have key : sa j = 1 → _ := fun e => wd_done (fh := fh) (lh := lh) (sc := sc) (gr := gr) (rc := rc) (j := j) hm hsu hgg hw hn hP hg (by omega) 300 1 t 302 302 ee 0 lv fo 0 si dl pl dr sp (fun _ => (0 : Int32)) sa dn le (by omega) (by omega) (by omega) (by omega) h e
  rw [z1] at key
  unfold f_X5_ticksToDone f_X7_doneNow n_X5_ticksToDone n_X7_doneNow
  rw [hcj, li_c4, hr]
  rcases h.2.2.2.2.2.2.2 j with ⟨e | e, _⟩ | ⟨e | e, _⟩
  · rw [e]
    exact ⟨rfl, ⟨ij, fun _ _ c => absurd rfl c, fun _ _ c => absurd rfl c⟩, ge_get hj hn, vp_in_nI hj (by omega), i4, fun _ c => absurd rfl c, fun _ c => absurd rfl c⟩
  · obtain ⟨k1, k2, k3⟩ := key e
    rw [e]
    refine ⟨?_, ⟨ij, fun _ _ _ => hsc, fun _ _ _ => k2⟩, ge_get hj hn, vp_in_nI hj (by omega), i4, fun _ _ => ⟨hsc, hd⟩, fun _ _ => k3⟩
    rw [if_neg (by decide), if_neg (by decide), if_neg (by decide), if_pos (by decide), if_neg (by decide)]
    exact k1
  · rw [e]
    exact ⟨rfl, ⟨ij, fun c => absurd rfl c, fun c => absurd rfl c⟩, ge_get hj hn, vp_in_nI hj (by omega), i4, fun c => absurd c (by decide), fun c => absurd c (by decide)⟩
  · rw [e]
    exact ⟨rfl, ⟨ij, fun _ c => absurd rfl c, fun _ c => absurd rfl c⟩, ge_get hj hn, vp_in_nI hj (by omega), i4, fun c => absurd c (by decide), fun c => absurd c (by decide)⟩
end
