def lw_ent : Nat → Nat := fun k => match k with
  | 0 => 172
  | 1 => 228
  | 2 => 305
  | 3 => 361
  | 4 => 417
  | 5 => 458
  | 6 => 533
  | 7 => 574
  | 8 => 587
  | 9 => 631
  | 10 => 723
  | 11 => 791
  | 12 => 847
  | 13 => 903
  | 14 => 959
  | 15 => 1015
  | 16 => 1092
  | 17 => 1169
  | 18 => 1237
  | 19 => 1314
  | 20 => 1382
  | 21 => 1459
  | 22 => 1515
  | 23 => 1599
  | 24 => 1612
  | 25 => 1689
  | 26 => 1745
  | 27 => 1801
  | _ => 1815
set_option maxHeartbeats 4000000 in
set_option maxRecDepth 100000 in
theorem lw_head {p : Program} {l : Launch} {e : Env} {s : State} {m : MethodId} {below : List Frame} {meth : Method} {c : Code} {Q : State → Prop} {A : Nat → Prop} {a0 k0 ob od b L : Nat} {xs : Nat → Int32} {i5 : Int32} {H : Heap} {locs : List Loc} {ls : Array Slot} {cb sb : Nat} (hx : p.tables.exec = Jvm.exec) (hb : c.code = cL_law) (hX9 : va_X b L xs s s.heap) (hbl : b < s.heap.size) (hbA : ¬ A b) (hS : va_S A s.heap H locs) (hl : lv_has ls 9 [(0, .ref b), (1, .ref a0), (2, .ref k0), (3, .ref ob), (4, .ref od), (5, .int i5)]) (hin : ¬ (Int32.ofNat L - 5) < i5 → vp_in i5 L)
    (ke : (Int32.ofNat L - 5) < i5 → W p l e ({ frames := 12, cells := 601024, slots := 7293034, locals := 2582 } : Room) s m #[Value.ref b] below meth c H locs cb sb Q (F0 m 1821 ls []))
    (kc : ¬ (Int32.ofNat L - 5) < i5 → ∀ k : Nat, k ≤ 27 → xs i5.toNatClampNeg &&& 31 = Int32.ofNat k → W p l e ({ frames := 12, cells := 601024, slots := 7293034, locals := 2582 } : Room) s m #[Value.ref b] below meth c H locs cb sb Q (F0 m (lw_ent k) ls []))
    (kd : ¬ (Int32.ofNat L - 5) < i5 → W p l e ({ frames := 12, cells := 601024, slots := 7293034, locals := 2582 } : Room) s m #[Value.ref b] below meth c H locs cb sb Q (F0 m 1815 ls [])) : W p l e ({ frames := 12, cells := 601024, slots := 7293034, locals := 2582 } : Room) s m #[Value.ref b] below meth c H locs cb sb Q (F0 m 28 ls []) := by
  refine lv_iload hx hb dL_law_28 (lv_at hl 5 rfl) ?_
  refine lv_aload_n hx hb dL_law_30 rfl (lv_at hl 0 rfl) ?_
  refine va_slen hx hb hX9 hbl hbA hS dL_law_31 ?_
  refine lv_iconst (v := 5) hx hb dL_law_32 (by decide) ?_
  refine lv_isub hx hb dL_law_33 ?_
  refine lv_icmp_gt (tgt := 1821) hx hb dL_law_34 (by decide) (fun c1 => ke c1) (fun c1 => ?_)
  refine lv_aload_n hx hb dL_law_37 rfl (lv_at hl 0 rfl) ?_
  refine lv_iload hx hb dL_law_38 (lv_at hl 5 rfl) ?_
  refine va_sld hx hb hX9 hbl hbA hS (hin c1) dL_law_40 ?_
  refine lv_bipush (v := 31) hx hb dL_law_41 (by decide) ?_
  refine lv_iand hx hb dL_law_43 ?_
  by_cases hk : ∃ k : Nat, k ≤ 27 ∧ xs i5.toNatClampNeg &&& 31 = Int32.ofNat k
  · obtain ⟨k, h1, h2⟩ := hk
    have k9 := kc c1 k h1 h2
    match k, h1, h2, k9 with
    | 0, _, h2, k9 => exact lv_tableIn (tgt := 172) hx hb dL_law_44 (by rw [h2]; decide) (by rw [h2]; decide) (by rw [h2]; rfl) (by decide) k9
    | 1, _, h2, k9 => exact lv_tableIn (tgt := 228) hx hb dL_law_44 (by rw [h2]; decide) (by rw [h2]; decide) (by rw [h2]; rfl) (by decide) k9
    | 2, _, h2, k9 => exact lv_tableIn (tgt := 305) hx hb dL_law_44 (by rw [h2]; decide) (by rw [h2]; decide) (by rw [h2]; rfl) (by decide) k9
    | 3, _, h2, k9 => exact lv_tableIn (tgt := 361) hx hb dL_law_44 (by rw [h2]; decide) (by rw [h2]; decide) (by rw [h2]; rfl) (by decide) k9
    | 4, _, h2, k9 => exact lv_tableIn (tgt := 417) hx hb dL_law_44 (by rw [h2]; decide) (by rw [h2]; decide) (by rw [h2]; rfl) (by decide) k9
    | 5, _, h2, k9 => exact lv_tableIn (tgt := 458) hx hb dL_law_44 (by rw [h2]; decide) (by rw [h2]; decide) (by rw [h2]; rfl) (by decide) k9
    | 6, _, h2, k9 => exact lv_tableIn (tgt := 533) hx hb dL_law_44 (by rw [h2]; decide) (by rw [h2]; decide) (by rw [h2]; rfl) (by decide) k9
    | 7, _, h2, k9 => exact lv_tableIn (tgt := 574) hx hb dL_law_44 (by rw [h2]; decide) (by rw [h2]; decide) (by rw [h2]; rfl) (by decide) k9
    | 8, _, h2, k9 => exact lv_tableIn (tgt := 587) hx hb dL_law_44 (by rw [h2]; decide) (by rw [h2]; decide) (by rw [h2]; rfl) (by decide) k9
    | 9, _, h2, k9 => exact lv_tableIn (tgt := 631) hx hb dL_law_44 (by rw [h2]; decide) (by rw [h2]; decide) (by rw [h2]; rfl) (by decide) k9
    | 10, _, h2, k9 => exact lv_tableIn (tgt := 723) hx hb dL_law_44 (by rw [h2]; decide) (by rw [h2]; decide) (by rw [h2]; rfl) (by decide) k9
    | 11, _, h2, k9 => exact lv_tableIn (tgt := 791) hx hb dL_law_44 (by rw [h2]; decide) (by rw [h2]; decide) (by rw [h2]; rfl) (by decide) k9
    | 12, _, h2, k9 => exact lv_tableIn (tgt := 847) hx hb dL_law_44 (by rw [h2]; decide) (by rw [h2]; decide) (by rw [h2]; rfl) (by decide) k9
    | 13, _, h2, k9 => exact lv_tableIn (tgt := 903) hx hb dL_law_44 (by rw [h2]; decide) (by rw [h2]; decide) (by rw [h2]; rfl) (by decide) k9
    | 14, _, h2, k9 => exact lv_tableIn (tgt := 959) hx hb dL_law_44 (by rw [h2]; decide) (by rw [h2]; decide) (by rw [h2]; rfl) (by decide) k9
    | 15, _, h2, k9 => exact lv_tableIn (tgt := 1015) hx hb dL_law_44 (by rw [h2]; decide) (by rw [h2]; decide) (by rw [h2]; rfl) (by decide) k9
    | 16, _, h2, k9 => exact lv_tableIn (tgt := 1092) hx hb dL_law_44 (by rw [h2]; decide) (by rw [h2]; decide) (by rw [h2]; rfl) (by decide) k9
    | 17, _, h2, k9 => exact lv_tableIn (tgt := 1169) hx hb dL_law_44 (by rw [h2]; decide) (by rw [h2]; decide) (by rw [h2]; rfl) (by decide) k9
    | 18, _, h2, k9 => exact lv_tableIn (tgt := 1237) hx hb dL_law_44 (by rw [h2]; decide) (by rw [h2]; decide) (by rw [h2]; rfl) (by decide) k9
    | 19, _, h2, k9 => exact lv_tableIn (tgt := 1314) hx hb dL_law_44 (by rw [h2]; decide) (by rw [h2]; decide) (by rw [h2]; rfl) (by decide) k9
    | 20, _, h2, k9 => exact lv_tableIn (tgt := 1382) hx hb dL_law_44 (by rw [h2]; decide) (by rw [h2]; decide) (by rw [h2]; rfl) (by decide) k9
    | 21, _, h2, k9 => exact lv_tableIn (tgt := 1459) hx hb dL_law_44 (by rw [h2]; decide) (by rw [h2]; decide) (by rw [h2]; rfl) (by decide) k9
    | 22, _, h2, k9 => exact lv_tableIn (tgt := 1515) hx hb dL_law_44 (by rw [h2]; decide) (by rw [h2]; decide) (by rw [h2]; rfl) (by decide) k9
    | 23, _, h2, k9 => exact lv_tableIn (tgt := 1599) hx hb dL_law_44 (by rw [h2]; decide) (by rw [h2]; decide) (by rw [h2]; rfl) (by decide) k9
    | 24, _, h2, k9 => exact lv_tableIn (tgt := 1612) hx hb dL_law_44 (by rw [h2]; decide) (by rw [h2]; decide) (by rw [h2]; rfl) (by decide) k9
    | 25, _, h2, k9 => exact lv_tableIn (tgt := 1689) hx hb dL_law_44 (by rw [h2]; decide) (by rw [h2]; decide) (by rw [h2]; rfl) (by decide) k9
    | 26, _, h2, k9 => exact lv_tableIn (tgt := 1745) hx hb dL_law_44 (by rw [h2]; decide) (by rw [h2]; decide) (by rw [h2]; rfl) (by decide) k9
    | 27, _, h2, k9 => exact lv_tableIn (tgt := 1801) hx hb dL_law_44 (by rw [h2]; decide) (by rw [h2]; decide) (by rw [h2]; rfl) (by decide) k9
    | k + 28, h1, _, _ => exact absurd h1 (by omega)
  · exact lv_tableOut (tgt := 1815) hx hb dL_law_44 (tm_sw 27 (tm_noN 27 (by decide) (fun k h1 h2 => hk ⟨k, h1, h2⟩))) (by decide) (kd c1)
theorem lw_step {p : Program} {l : Launch} {e : Env} {s : State} {m : MethodId} {below : List Frame} {meth : Method} {c : Code} {Q : State → Prop} {A : Nat → Prop} {a0 k0 ob od b L : Nat} {xs : Nat → Int32} {i5 : Int32} {H : Heap} {locs : List Loc} {ls : Array Slot} {cb sb : Nat} (hx : p.tables.exec = Jvm.exec) (hb : c.code = cL_law) (hl : lv_has ls 9 [(0, .ref b), (1, .ref a0), (2, .ref k0), (3, .ref ob), (4, .ref od), (5, .int i5)]) (kk : ∀ ls : Array Slot, lv_has ls 9 [(0, .ref b), (1, .ref a0), (2, .ref k0), (3, .ref ob), (4, .ref od), (5, .int (i5 + 5))] → W p l e ({ frames := 12, cells := 601024, slots := 7293034, locals := 2582 } : Room) s m #[Value.ref b] below meth c H locs cb sb Q (F0 m 28 ls [])) : W p l e ({ frames := 12, cells := 601024, slots := 7293034, locals := 2582 } : Room) s m #[Value.ref b] below meth c H locs cb sb Q (F0 m 1815 ls []) := by
  refine lv_iinc (v := i5 + 5) (lv' := [(5, .int (i5 + 5)), (0, .ref b), (1, .ref a0), (2, .ref k0), (3, .ref ob), (4, .ref od)]) hx hb dL_law_1815 hl (k := 5) rfl rfl (by decide) rfl (fun ls hl => ?_)
  refine lv_goto (tgt := 28) hx hb dL_law_1818 (by decide) ?_
  exact kk ls (lv_sub hl [1, 2, 3, 4, 5, 0] rfl)
