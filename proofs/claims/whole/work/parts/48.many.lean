/-! many ticks, both sides -/
section
variable {fh lh sc : Int32} {n P m g s T : Nat} {su : UInt64} {gr : Nat → Int32} {rc : Nat → Nat → Int32}
theorem mt_pass_44 (hm : m < 30) (hsu : vr su (-16) 16) (hgg : g ≤ 3) (hw : s ≤ 4) (hn : n ≤ 10) (hP : P ≤ 3) (hT : T ≤ 1000) (hg : ∀ k, k < n → rc k 1 = gr k) :
    ∀ (d i t fuel fuel2 : Nat) (ee ee2 : Int32) (lv fo fo2 : UInt64) (si : UInt32) (dl : Nat → UInt32) (pl dr sp sp2 sa dn : Nat → Int32) (le : Nat → UInt64), i + d = T → d < fuel → d < fuel2 → t + d < 6900 → ms n P lv si fo dl pl le sa dn →
    ∃ (ee' ee2' : Int32) (lv' fo' fo2' : UInt64) (si' : UInt32) (dl' : Nat → UInt32) (pl' dr' sp' sp2' sa' dn' : Nat → Int32) (le' : Nat → UInt64),
      f_X1_letGoBy_2 fh lh (nI m) su (nI g) (nI s) sc (nI n) gr (nI P) (nI T) fuel (nI i) ee (nI t) lv si fo sa le dl pl dr sp = (ee', nI (t + d), lv', si', fo', sa', le', dl', pl', dr', sp') ∧
      f_X7_pass_44 (nI m) su (nI g) (nI s) sc fh lh (nI P) (nI T) rc fuel2 (nI i) dl pl dr sp2 le dn (nI t) lv si fo2 ee2 = (nI T, dl', pl', dr', sp2', le', dn', nI (t + d), lv', si', fo2', ee2') ∧
      n_X1_letGoBy_2 fh lh (nI m) su (nI g) (nI s) sc (nI n) gr (nI P) (nI T) fuel (nI i) ee (nI t) lv si fo sa le dl pl dr sp ∧
      n_X7_pass_44 (nI m) su (nI g) (nI s) sc fh lh (nI P) (nI T) n rc fuel2 (nI i) dl pl dr sp2 le dn (nI t) lv si fo2 ee2 ∧
      ms n P lv' si' fo' dl' pl' le' sa' dn' ∧ mr sa sa' ∧ (ee = ee2 → ee' = ee2') ∧ wx P dr dr' sp sp2 sp' sp2' ∧ (fo = fo2 → fo' = fo2') := by
  intro d
  induction d with
  | zero =>
    intro i t fuel fuel2 ee ee2 lv fo fo2 si dl pl dr sp sp2 sa dn le hi hf hf2 ht h
    obtain ⟨f, rfl⟩ : ∃ f, fuel = f + 1 := ⟨fuel - 1, by omega⟩
    obtain ⟨f2, rfl⟩ : ∃ f, fuel2 = f + 1 := ⟨fuel2 - 1, by omega⟩
    have hiT : i = T := by omega
    subst hiT
    have hle : nI i ≤ nI i := nI_le (Nat.le_refl _) (by omega)
    refine ⟨ee, ee2, lv, fo, fo2, si, dl, pl, dr, sp, sp2, sa, dn, le, ?_, ?_, ?_, ?_, h, mr.rf, id, wx.rf, id⟩
    · rw [f_X1_letGoBy_2.eq_2, if_pos hle, Nat.add_zero]
    · rw [f_X7_pass_44.eq_2, if_pos hle, Nat.add_zero]
    · rw [n_X1_letGoBy_2.eq_2]
      exact ⟨fun c => absurd hle c, fun c => absurd hle c⟩
    · rw [n_X7_pass_44.eq_2]
      exact ⟨fun c => absurd hle c, fun c => absurd hle c⟩
  | succ d ih =>
    intro i t fuel fuel2 ee ee2 lv fo fo2 si dl pl dr sp sp2 sa dn le hi hf hf2 ht h
    obtain ⟨f, rfl⟩ : ∃ f, fuel = f + 1 := ⟨fuel - 1, by omega⟩
    obtain ⟨f2, rfl⟩ : ∃ f, fuel2 = f + 1 := ⟨fuel2 - 1, by omega⟩
    have hlt : ¬ nI T ≤ nI i := nI_ge (by omega) (by omega)
    have h1 : nI i + 1 = nI (i + 1) := nI_1 i
    obtain ⟨ee1, ee21, lv1, fo1, si1, dl1, pl1, dr1, sp1, sp21, sa1, dn1, le1, a1, a2, a3, a4, a5, a6, a7, a8⟩ := tn_tick (fh := fh) (lh := lh) (sc := sc) (ee := ee) (ee2 := ee2) (dr := dr) (sp := sp) (sp2 := sp2) (rc := rc) hm (by omega : t < 6900) hsu hgg hw hn hP hg h.1 h.2.1 h.2.2.2
    obtain ⟨ee3, ee23, lv3, fo3, fo23, si3, dl3, pl3, dr3, sp3, sp23, sa3, dn3, le3, b1, b2, b3, b4, b5, b6, b7, b8, b9⟩ := ih (i + 1) (t + 1) f f2 ee1 ee21 lv1 fo1 fo1 si1 dl1 pl1 dr1 sp1 sp21 sa1 dn1 le1 (by omega) (by omega) (by omega) (by omega) a5
    refine ⟨ee3, ee23, lv3, fo3, fo23, si3, dl3, pl3, dr3, sp3, sp23, sa3, dn3, le3, ?_, ?_, ?_, ?_, b5, a6.tr b6, fun e => b7 (a7 e), a8.tr b8, fun _ => b9 rfl⟩
    · rw [f_X1_letGoBy_2.eq_2, if_neg hlt, a1, h1]
      dsimp only
      rw [b1, show t + 1 + d = t + (d + 1) by omega]
    · rw [f_X7_pass_44.eq_2, if_neg hlt, a2, h1]
      dsimp only
      rw [b2, show t + 1 + d = t + (d + 1) by omega]
    · rw [n_X1_letGoBy_2.eq_2]
      refine ⟨fun _ => a3, fun _ => ?_⟩
      intro u4 u5 u6 u7 u8 u9 u10 u11 u12 u13 u14 e
      rw [a1] at e
      cases e
      rw [h1]
      exact b3
    · rw [n_X7_pass_44.eq_2]
      refine ⟨fun _ => a4, fun _ => ?_⟩
      intro u4 u5 u6 u7 u8 u9 u10 u11 u12 u13 u14 e
      rw [a2] at e
      cases e
      rw [h1]
      exact b4
theorem mt_wouldLevel_32 (hm : m < 30) (hsu : vr su (-16) 16) (hgg : g ≤ 3) (hw : s ≤ 4) (hn : n ≤ 10) (hP : P ≤ 3) (hT : T ≤ 1000) (hg : ∀ k, k < n → rc k 1 = gr k) :
    ∀ (d i t fuel fuel2 : Nat) (ee ee2 : Int32) (lv fo fo2 : UInt64) (si : UInt32) (dl : Nat → UInt32) (pl dr sp sp2 sa dn : Nat → Int32) (le : Nat → UInt64), i + d = T → d < fuel → d < fuel2 → t + d < 6900 → ms n P lv si fo dl pl le sa dn →
    ∃ (ee' ee2' : Int32) (lv' fo' fo2' : UInt64) (si' : UInt32) (dl' : Nat → UInt32) (pl' dr' sp' sp2' sa' dn' : Nat → Int32) (le' : Nat → UInt64),
      f_X1_letGoBy_2 fh lh (nI m) su (nI g) (nI s) sc (nI n) gr (nI P) (nI T) fuel (nI i) ee (nI t) lv si fo sa le dl pl dr sp = (ee', nI (t + d), lv', si', fo', sa', le', dl', pl', dr', sp') ∧
      f_X7_wouldLevel_32 (nI m) su (nI g) (nI s) sc fh lh (nI P) (nI T) rc fuel2 (nI i) le dn (nI t) lv si fo2 ee2 dl pl dr sp2 = (nI T, le', dn', nI (t + d), lv', si', fo2', ee2', dl', pl', dr', sp2') ∧
      n_X1_letGoBy_2 fh lh (nI m) su (nI g) (nI s) sc (nI n) gr (nI P) (nI T) fuel (nI i) ee (nI t) lv si fo sa le dl pl dr sp ∧
      n_X7_wouldLevel_32 (nI m) su (nI g) (nI s) sc fh lh (nI P) (nI T) n rc fuel2 (nI i) le dn (nI t) lv si fo2 ee2 dl pl dr sp2 ∧
      ms n P lv' si' fo' dl' pl' le' sa' dn' ∧ mr sa sa' ∧ (ee = ee2 → ee' = ee2') ∧ wx P dr dr' sp sp2 sp' sp2' ∧ (fo = fo2 → fo' = fo2') := by
  intro d
  induction d with
  | zero =>
    intro i t fuel fuel2 ee ee2 lv fo fo2 si dl pl dr sp sp2 sa dn le hi hf hf2 ht h
    obtain ⟨f, rfl⟩ : ∃ f, fuel = f + 1 := ⟨fuel - 1, by omega⟩
    obtain ⟨f2, rfl⟩ : ∃ f, fuel2 = f + 1 := ⟨fuel2 - 1, by omega⟩
    have hiT : i = T := by omega
    subst hiT
    have hle : nI i ≤ nI i := nI_le (Nat.le_refl _) (by omega)
    refine ⟨ee, ee2, lv, fo, fo2, si, dl, pl, dr, sp, sp2, sa, dn, le, ?_, ?_, ?_, ?_, h, mr.rf, id, wx.rf, id⟩
    · rw [f_X1_letGoBy_2.eq_2, if_pos hle, Nat.add_zero]
    · rw [f_X7_wouldLevel_32.eq_2, if_pos hle, Nat.add_zero]
    · rw [n_X1_letGoBy_2.eq_2]
      exact ⟨fun c => absurd hle c, fun c => absurd hle c⟩
    · rw [n_X7_wouldLevel_32.eq_2]
      exact ⟨fun c => absurd hle c, fun c => absurd hle c⟩
  | succ d ih =>
    intro i t fuel fuel2 ee ee2 lv fo fo2 si dl pl dr sp sp2 sa dn le hi hf hf2 ht h
    obtain ⟨f, rfl⟩ : ∃ f, fuel = f + 1 := ⟨fuel - 1, by omega⟩
    obtain ⟨f2, rfl⟩ : ∃ f, fuel2 = f + 1 := ⟨fuel2 - 1, by omega⟩
    have hlt : ¬ nI T ≤ nI i := nI_ge (by omega) (by omega)
    have h1 : nI i + 1 = nI (i + 1) := nI_1 i
    obtain ⟨ee1, ee21, lv1, fo1, si1, dl1, pl1, dr1, sp1, sp21, sa1, dn1, le1, a1, a2, a3, a4, a5, a6, a7, a8⟩ := tn_tick (fh := fh) (lh := lh) (sc := sc) (ee := ee) (ee2 := ee2) (dr := dr) (sp := sp) (sp2 := sp2) (rc := rc) hm (by omega : t < 6900) hsu hgg hw hn hP hg h.1 h.2.1 h.2.2.2
    obtain ⟨ee3, ee23, lv3, fo3, fo23, si3, dl3, pl3, dr3, sp3, sp23, sa3, dn3, le3, b1, b2, b3, b4, b5, b6, b7, b8, b9⟩ := ih (i + 1) (t + 1) f f2 ee1 ee21 lv1 fo1 fo1 si1 dl1 pl1 dr1 sp1 sp21 sa1 dn1 le1 (by omega) (by omega) (by omega) (by omega) a5
    refine ⟨ee3, ee23, lv3, fo3, fo23, si3, dl3, pl3, dr3, sp3, sp23, sa3, dn3, le3, ?_, ?_, ?_, ?_, b5, a6.tr b6, fun e => b7 (a7 e), a8.tr b8, fun _ => b9 rfl⟩
    · rw [f_X1_letGoBy_2.eq_2, if_neg hlt, a1, h1]
      dsimp only
      rw [b1, show t + 1 + d = t + (d + 1) by omega]
    · rw [f_X7_wouldLevel_32.eq_2, if_neg hlt, a2, h1]
      dsimp only
      rw [b2, show t + 1 + d = t + (d + 1) by omega]
    · rw [n_X1_letGoBy_2.eq_2]
      refine ⟨fun _ => a3, fun _ => ?_⟩
      intro u4 u5 u6 u7 u8 u9 u10 u11 u12 u13 u14 e
      rw [a1] at e
      cases e
      rw [h1]
      exact b3
    · rw [n_X7_wouldLevel_32.eq_2]
      refine ⟨fun _ => a4, fun _ => ?_⟩
      intro u4 u5 u6 u7 u8 u9 u10 u11 u12 u13 u14 e
      rw [a2] at e
      cases e
      rw [h1]
      exact b4
theorem mt_bestNow_32 (hm : m < 30) (hsu : vr su (-16) 16) (hgg : g ≤ 3) (hw : s ≤ 4) (hn : n ≤ 10) (hP : P ≤ 3) (hT : T ≤ 1000) (hg : ∀ k, k < n → rc k 1 = gr k) :
    ∀ (d i t fuel fuel2 : Nat) (ee ee2 : Int32) (lv fo fo2 : UInt64) (si : UInt32) (dl : Nat → UInt32) (pl dr sp sp2 sa dn : Nat → Int32) (le : Nat → UInt64), i + d = T → d < fuel → d < fuel2 → t + d < 6900 → ms n P lv si fo dl pl le sa dn →
    ∃ (ee' ee2' : Int32) (lv' fo' fo2' : UInt64) (si' : UInt32) (dl' : Nat → UInt32) (pl' dr' sp' sp2' sa' dn' : Nat → Int32) (le' : Nat → UInt64),
      f_X1_letGoBy_2 fh lh (nI m) su (nI g) (nI s) sc (nI n) gr (nI P) (nI T) fuel (nI i) ee (nI t) lv si fo sa le dl pl dr sp = (ee', nI (t + d), lv', si', fo', sa', le', dl', pl', dr', sp') ∧
      f_X7_bestNow_32 (nI m) su (nI g) sc fh lh (nI P) (nI T) rc (nI s) fuel2 (nI i) dn (nI t) lv si fo2 ee2 dl pl dr sp2 le = (nI T, dn', nI (t + d), lv', si', fo2', ee2', dl', pl', dr', sp2', le') ∧
      n_X1_letGoBy_2 fh lh (nI m) su (nI g) (nI s) sc (nI n) gr (nI P) (nI T) fuel (nI i) ee (nI t) lv si fo sa le dl pl dr sp ∧
      n_X7_bestNow_32 (nI m) su (nI g) sc fh lh (nI P) (nI T) n rc (nI s) fuel2 (nI i) dn (nI t) lv si fo2 ee2 dl pl dr sp2 le ∧
      ms n P lv' si' fo' dl' pl' le' sa' dn' ∧ mr sa sa' ∧ (ee = ee2 → ee' = ee2') ∧ wx P dr dr' sp sp2 sp' sp2' ∧ (fo = fo2 → fo' = fo2') := by
  intro d
  induction d with
  | zero =>
    intro i t fuel fuel2 ee ee2 lv fo fo2 si dl pl dr sp sp2 sa dn le hi hf hf2 ht h
    obtain ⟨f, rfl⟩ : ∃ f, fuel = f + 1 := ⟨fuel - 1, by omega⟩
    obtain ⟨f2, rfl⟩ : ∃ f, fuel2 = f + 1 := ⟨fuel2 - 1, by omega⟩
    have hiT : i = T := by omega
    subst hiT
    have hle : nI i ≤ nI i := nI_le (Nat.le_refl _) (by omega)
    refine ⟨ee, ee2, lv, fo, fo2, si, dl, pl, dr, sp, sp2, sa, dn, le, ?_, ?_, ?_, ?_, h, mr.rf, id, wx.rf, id⟩
    · rw [f_X1_letGoBy_2.eq_2, if_pos hle, Nat.add_zero]
    · rw [f_X7_bestNow_32.eq_2, if_pos hle, Nat.add_zero]
    · rw [n_X1_letGoBy_2.eq_2]
      exact ⟨fun c => absurd hle c, fun c => absurd hle c⟩
    · rw [n_X7_bestNow_32.eq_2]
      exact ⟨fun c => absurd hle c, fun c => absurd hle c⟩
  | succ d ih =>
    intro i t fuel fuel2 ee ee2 lv fo fo2 si dl pl dr sp sp2 sa dn le hi hf hf2 ht h
    obtain ⟨f, rfl⟩ : ∃ f, fuel = f + 1 := ⟨fuel - 1, by omega⟩
    obtain ⟨f2, rfl⟩ : ∃ f, fuel2 = f + 1 := ⟨fuel2 - 1, by omega⟩
    have hlt : ¬ nI T ≤ nI i := nI_ge (by omega) (by omega)
    have h1 : nI i + 1 = nI (i + 1) := nI_1 i
    obtain ⟨ee1, ee21, lv1, fo1, si1, dl1, pl1, dr1, sp1, sp21, sa1, dn1, le1, a1, a2, a3, a4, a5, a6, a7, a8⟩ := tn_tick (fh := fh) (lh := lh) (sc := sc) (ee := ee) (ee2 := ee2) (dr := dr) (sp := sp) (sp2 := sp2) (rc := rc) hm (by omega : t < 6900) hsu hgg hw hn hP hg h.1 h.2.1 h.2.2.2
    obtain ⟨ee3, ee23, lv3, fo3, fo23, si3, dl3, pl3, dr3, sp3, sp23, sa3, dn3, le3, b1, b2, b3, b4, b5, b6, b7, b8, b9⟩ := ih (i + 1) (t + 1) f f2 ee1 ee21 lv1 fo1 fo1 si1 dl1 pl1 dr1 sp1 sp21 sa1 dn1 le1 (by omega) (by omega) (by omega) (by omega) a5
    refine ⟨ee3, ee23, lv3, fo3, fo23, si3, dl3, pl3, dr3, sp3, sp23, sa3, dn3, le3, ?_, ?_, ?_, ?_, b5, a6.tr b6, fun e => b7 (a7 e), a8.tr b8, fun _ => b9 rfl⟩
    · rw [f_X1_letGoBy_2.eq_2, if_neg hlt, a1, h1]
      dsimp only
      rw [b1, show t + 1 + d = t + (d + 1) by omega]
    · rw [f_X7_bestNow_32.eq_2, if_neg hlt, a2, h1]
      dsimp only
      rw [b2, show t + 1 + d = t + (d + 1) by omega]
    · rw [n_X1_letGoBy_2.eq_2]
      refine ⟨fun _ => a3, fun _ => ?_⟩
      intro u4 u5 u6 u7 u8 u9 u10 u11 u12 u13 u14 e
      rw [a1] at e
      cases e
      rw [h1]
      exact b3
    · rw [n_X7_bestNow_32.eq_2]
      refine ⟨fun _ => a4, fun _ => ?_⟩
      intro u4 u5 u6 u7 u8 u9 u10 u11 u12 u13 u14 e
      rw [a2] at e
      cases e
      rw [h1]
      exact b4
end
