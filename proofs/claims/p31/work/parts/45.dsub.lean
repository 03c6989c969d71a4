section
variable {dl : Nat → UInt32} {pl gr dn : Nat → Int32} {le : Nat → UInt64} {p j n : Nat} {r : UInt64} {rc : Nat → Nat → Int32}
theorem ge_dsub (hd : fr (dl p) 8) (hr : vr r 0 1058) : vr (FP.dsub r (gd_gets (dl p) r)) 0 1058 := by
  obtain ⟨g1, g2, g3, g4⟩ := gd_getsV hd hr
  refine (hr.sub g1 (-16) 1058 (by decide) (by decide) (by decide) (by decide)).lo ?_
  rw [Int.zero_mul]
  have := fl_sub_ge hr.1 g1.1 dok_0 (by rw [zdz_0]; omega)
  rwa [zdz_0] at this
end
