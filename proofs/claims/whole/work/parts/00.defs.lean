def tm_bool (x : Int32) : Prop := x = 0 ∨ x = 1
def f_X6_age (mo : Int32) (p1 : Int32) : Int32 :=
  (mo + (p1 / 48)) - (mo + (p1 / 48)) / 30 * 30
def f_X6_spring (mo : Int32) (p1 : Int32) : Int32 :=
  if (if 0 ≤ ((f_X6_age mo p1) - 15) then ((f_X6_age mo p1) - 15) else 0 - ((f_X6_age mo p1) - 15)) < (if (30 - (f_X6_age mo p1)) < (f_X6_age mo p1) then (30 - (f_X6_age mo p1)) else (f_X6_age mo p1)) then (if 0 ≤ ((f_X6_age mo p1) - 15) then ((f_X6_age mo p1) - 15) else 0 - ((f_X6_age mo p1) - 15)) else (if (30 - (f_X6_age mo p1)) < (f_X6_age mo p1) then (30 - (f_X6_age mo p1)) else (f_X6_age mo p1))
def f_X6_range (mo : Int32) (p1 : Int32) : UInt64 :=
  FP.dsub 4616189618054758400 (FP.dmul 4598175219545276416 (FP.i2d (f_X6_spring mo p1)))
def n_X6_range (mo : Int32) (p1 : Int32) : Prop :=
  (vf_n64 (FP.dmul 4598175219545276416 (FP.i2d (f_X6_spring mo p1)))) ∧
  (vf_n64 (FP.dsub 4616189618054758400 (FP.dmul 4598175219545276416 (FP.i2d (f_X6_spring mo p1)))))
def f_X6_sea (mo : Int32) (su : UInt64) (p1 : Int32) : UInt64 :=
  if 0 ≤ (Op.cmpValue (FP.dcmp (FP.drem (FP.i2d p1) 4627659723355717632) 4622945017495814144) .g) then (FP.dsub (FP.dadd su (FP.dmul (f_X6_range mo p1) (FP.ddiv (FP.dsub 4627659723355717632 (FP.drem (FP.i2d p1) 4627659723355717632)) 4623367229960880128))) (FP.dmul (f_X6_range mo p1) 4602678819172646912)) else (FP.dsub (FP.dadd su (FP.dmul (f_X6_range mo p1) (FP.ddiv (FP.drem (FP.i2d p1) 4627659723355717632) 4622945017495814144))) (FP.dmul (f_X6_range mo p1) 4602678819172646912))
def n_X6_sea (mo : Int32) (su : UInt64) (p1 : Int32) : Prop :=
  (vf_n64 (FP.drem (FP.i2d p1) 4627659723355717632)) ∧
  ((0 ≤ (Op.cmpValue (FP.dcmp (FP.drem (FP.i2d p1) 4627659723355717632) 4622945017495814144) .g)) → vf_n64 (FP.dsub 4627659723355717632 (FP.drem (FP.i2d p1) 4627659723355717632))) ∧
  ((0 ≤ (Op.cmpValue (FP.dcmp (FP.drem (FP.i2d p1) 4627659723355717632) 4622945017495814144) .g)) → vf_n64 (FP.ddiv (FP.dsub 4627659723355717632 (FP.drem (FP.i2d p1) 4627659723355717632)) 4623367229960880128)) ∧
  ((0 ≤ (Op.cmpValue (FP.dcmp (FP.drem (FP.i2d p1) 4627659723355717632) 4622945017495814144) .g)) → n_X6_range mo p1) ∧
  ((0 ≤ (Op.cmpValue (FP.dcmp (FP.drem (FP.i2d p1) 4627659723355717632) 4622945017495814144) .g)) → vf_n64 (FP.dmul (f_X6_range mo p1) (FP.ddiv (FP.dsub 4627659723355717632 (FP.drem (FP.i2d p1) 4627659723355717632)) 4623367229960880128))) ∧
  ((0 ≤ (Op.cmpValue (FP.dcmp (FP.drem (FP.i2d p1) 4627659723355717632) 4622945017495814144) .g)) → vf_n64 (FP.dadd su (FP.dmul (f_X6_range mo p1) (FP.ddiv (FP.dsub 4627659723355717632 (FP.drem (FP.i2d p1) 4627659723355717632)) 4623367229960880128)))) ∧
  ((0 ≤ (Op.cmpValue (FP.dcmp (FP.drem (FP.i2d p1) 4627659723355717632) 4622945017495814144) .g)) → vf_n64 (FP.dmul (f_X6_range mo p1) 4602678819172646912)) ∧
  ((0 ≤ (Op.cmpValue (FP.dcmp (FP.drem (FP.i2d p1) 4627659723355717632) 4622945017495814144) .g)) → vf_n64 (FP.dsub (FP.dadd su (FP.dmul (f_X6_range mo p1) (FP.ddiv (FP.dsub 4627659723355717632 (FP.drem (FP.i2d p1) 4627659723355717632)) 4623367229960880128))) (FP.dmul (f_X6_range mo p1) 4602678819172646912))) ∧
  ((¬ 0 ≤ (Op.cmpValue (FP.dcmp (FP.drem (FP.i2d p1) 4627659723355717632) 4622945017495814144) .g)) → vf_n64 (FP.ddiv (FP.drem (FP.i2d p1) 4627659723355717632) 4622945017495814144)) ∧
  ((¬ 0 ≤ (Op.cmpValue (FP.dcmp (FP.drem (FP.i2d p1) 4627659723355717632) 4622945017495814144) .g)) → n_X6_range mo p1) ∧
  ((¬ 0 ≤ (Op.cmpValue (FP.dcmp (FP.drem (FP.i2d p1) 4627659723355717632) 4622945017495814144) .g)) → vf_n64 (FP.dmul (f_X6_range mo p1) (FP.ddiv (FP.drem (FP.i2d p1) 4627659723355717632) 4622945017495814144))) ∧
  ((¬ 0 ≤ (Op.cmpValue (FP.dcmp (FP.drem (FP.i2d p1) 4627659723355717632) 4622945017495814144) .g)) → vf_n64 (FP.dadd su (FP.dmul (f_X6_range mo p1) (FP.ddiv (FP.drem (FP.i2d p1) 4627659723355717632) 4622945017495814144)))) ∧
  ((¬ 0 ≤ (Op.cmpValue (FP.dcmp (FP.drem (FP.i2d p1) 4627659723355717632) 4622945017495814144) .g)) → vf_n64 (FP.dmul (f_X6_range mo p1) 4602678819172646912)) ∧
  ((¬ 0 ≤ (Op.cmpValue (FP.dcmp (FP.drem (FP.i2d p1) 4627659723355717632) 4622945017495814144) .g)) → vf_n64 (FP.dsub (FP.dadd su (FP.dmul (f_X6_range mo p1) (FP.ddiv (FP.drem (FP.i2d p1) 4627659723355717632) 4622945017495814144))) (FP.dmul (f_X6_range mo p1) 4602678819172646912)))
def f_X6_area (si : UInt32) : UInt64 :=
  FP.dsub 4620693217682128896 (FP.f2d si)
def n_X6_area (si : UInt32) : Prop :=
  (vf_n64 (FP.f2d si)) ∧
  (vf_n64 (FP.dsub 4620693217682128896 (FP.f2d si)))
def f_X6_isAwake (tk : Int32) (fh : Int32) (lh : Int32) : Int32 :=
  if lh < fh then (if fh ≤ (tk - tk / 48 * 48) then 1 else (if lh < (tk - tk / 48 * 48) then 0 else 1)) else (if (tk - tk / 48 * 48) < fh then 0 else (if lh < (tk - tk / 48 * 48) then 0 else 1))
def f_X6_pairOf_2 (pn : Int32) (pl : Nat → Int32) (p1 : Int32) : Nat → Int32 → Int32
  | 0, x2_0 => 0
  | fuel + 1, x2_0 => if pn ≤ x2_0 then (-1) else (if (pl x2_0.toNatClampNeg) = p1 then x2_0 else (f_X6_pairOf_2 pn pl p1 fuel (x2_0 + 1)))
def n_X6_pairOf_2 (pn : Int32) (pl : Nat → Int32) (p1 : Int32) : Nat → Int32 → Prop
  | 0, x2_0 => False
  | fuel + 1, x2_0 => ((¬ pn ≤ x2_0) → vp_in x2_0 3) ∧
  ((¬ pn ≤ x2_0) → (¬ (pl x2_0.toNatClampNeg) = p1) → n_X6_pairOf_2 pn pl p1 fuel (x2_0 + 1))
def f_X6_pairOf (pn : Int32) (pl : Nat → Int32) (p1 : Int32) : Int32 :=
  f_X6_pairOf_2 pn pl p1 5 0
def n_X6_pairOf (pn : Int32) (pl : Nat → Int32) (p1 : Int32) : Prop :=
  (n_X6_pairOf_2 pn pl p1 5 0)
def f_X7_in (p1 : Int32) (p2 : Int32) (p3 : Int32) : Int32 :=
  if p1 < p2 then 0 else (if p3 < p1 then 0 else 1)
def f_Jx4a65c_size_8abf5 (sz0 : Int32) : Int32 :=
  sz0
def f_J3_checkIndex_8e157 (p0 : Int32) : Int32 :=
  p0
def n_J3_checkIndex_8e157 (p0 : Int32) (p1 : Int32) : Prop :=
  (¬ p0 < 0) ∧
  (p0 < p1)
def f_J15_checkIndex_7cf53 (p0 : Int32) : Int32 :=
  f_J3_checkIndex_8e157 p0
def n_J15_checkIndex_7cf53 (p0 : Int32) (p1 : Int32) : Prop :=
  (n_J3_checkIndex_8e157 p0 p1)
def n_Jx4a65c_elementData_915e3 (p1 : Int32) (n : Nat) : Prop :=
  (vp_in p1 n) ∧
  (n ≤ 10)
def n_Jx4a65c_get_915e3 (p1 : Int32) (n : Nat) : Prop :=
  (n_J15_checkIndex_7cf53 p1 (nI n)) ∧
  (n_Jx4a65c_elementData_915e3 p1 n) ∧
  (vp_in p1 n)
def f_X6_grind (dl : Nat → UInt32) (pl : Nat → Int32) (le : Nat → UInt64) (dn : Nat → Int32) (p1 : Int32) (p2 : Int32) (p3 : UInt64) (rc : Nat → Nat → Int32) : UInt64 × (Nat → UInt32) × (Nat → Int32) × (Nat → UInt64) × (Nat → Int32) :=
  if (rc p2.toNatClampNeg (1 : Int32).toNatClampNeg) = 0 then (if (rc p2.toNatClampNeg (1 : Int32).toNatClampNeg) = 1 then (if (Op.cmpValue (FP.dcmp ((vf_upd le p2.toNatClampNeg (Native.java_lang_Math.nans.pick64 true FP.dconst0 (FP.dsub (le p2.toNatClampNeg) (FP.dmul (FP.ddiv (Native.java_lang_Math.nans.pick64 false (FP.dadd FP.dconst1 (FP.f2d (dl p1.toNatClampNeg))) p3) (FP.dadd FP.dconst1 (FP.f2d (dl p1.toNatClampNeg)))) 4616189618054758400)))) p2.toNatClampNeg) FP.dconst0) .l) = 0 then (FP.dsub p3 (Native.java_lang_Math.nans.pick64 false (FP.dadd FP.dconst1 (FP.f2d (dl p1.toNatClampNeg))) p3), vf_upd dl p1.toNatClampNeg (Native.java_lang_Math.nans.pick32 false FP.fconst1 (FP.fadd (dl p1.toNatClampNeg) (FP.fdiv (FP.fmul (FP.d2f (FP.ddiv (Native.java_lang_Math.nans.pick64 false (FP.dadd FP.dconst1 (FP.f2d (dl p1.toNatClampNeg))) p3) (FP.dadd FP.dconst1 (FP.f2d (dl p1.toNatClampNeg))))) FP.fconst2) 1115684864))), upd pl p1.toNatClampNeg (-1), vf_upd le p2.toNatClampNeg (Native.java_lang_Math.nans.pick64 true FP.dconst0 (FP.dsub (le p2.toNatClampNeg) (FP.dmul (FP.ddiv (Native.java_lang_Math.nans.pick64 false (FP.dadd FP.dconst1 (FP.f2d (dl p1.toNatClampNeg))) p3) (FP.dadd FP.dconst1 (FP.f2d (dl p1.toNatClampNeg)))) 4616189618054758400))), upd dn p2.toNatClampNeg (vp_nar .boolean 1)) else (FP.dsub p3 (Native.java_lang_Math.nans.pick64 false (FP.dadd FP.dconst1 (FP.f2d (dl p1.toNatClampNeg))) p3), vf_upd dl p1.toNatClampNeg (Native.java_lang_Math.nans.pick32 false FP.fconst1 (FP.fadd (dl p1.toNatClampNeg) (FP.fdiv (FP.fmul (FP.d2f (FP.ddiv (Native.java_lang_Math.nans.pick64 false (FP.dadd FP.dconst1 (FP.f2d (dl p1.toNatClampNeg))) p3) (FP.dadd FP.dconst1 (FP.f2d (dl p1.toNatClampNeg))))) FP.fconst2) 1115684864))), pl, vf_upd le p2.toNatClampNeg (Native.java_lang_Math.nans.pick64 true FP.dconst0 (FP.dsub (le p2.toNatClampNeg) (FP.dmul (FP.ddiv (Native.java_lang_Math.nans.pick64 false (FP.dadd FP.dconst1 (FP.f2d (dl p1.toNatClampNeg))) p3) (FP.dadd FP.dconst1 (FP.f2d (dl p1.toNatClampNeg)))) 4616189618054758400))), dn)) else (if (Op.cmpValue (FP.dcmp ((vf_upd le p2.toNatClampNeg (Native.java_lang_Math.nans.pick64 true FP.dconst0 (FP.dsub (le p2.toNatClampNeg) (FP.dmul (FP.ddiv (Native.java_lang_Math.nans.pick64 false (FP.dadd FP.dconst1 (FP.f2d (dl p1.toNatClampNeg))) p3) (FP.dadd FP.dconst1 (FP.f2d (dl p1.toNatClampNeg)))) 4616189618054758400)))) p2.toNatClampNeg) FP.dconst0) .l) = 0 then (FP.dsub p3 (Native.java_lang_Math.nans.pick64 false (FP.dadd FP.dconst1 (FP.f2d (dl p1.toNatClampNeg))) p3), vf_upd dl p1.toNatClampNeg (Native.java_lang_Math.nans.pick32 false FP.fconst1 (FP.fadd (dl p1.toNatClampNeg) (FP.fdiv (FP.fmul (FP.d2f (FP.ddiv (Native.java_lang_Math.nans.pick64 false (FP.dadd FP.dconst1 (FP.f2d (dl p1.toNatClampNeg))) p3) (FP.dadd FP.dconst1 (FP.f2d (dl p1.toNatClampNeg))))) FP.fconst1) 1115684864))), upd pl p1.toNatClampNeg (-1), vf_upd le p2.toNatClampNeg (Native.java_lang_Math.nans.pick64 true FP.dconst0 (FP.dsub (le p2.toNatClampNeg) (FP.dmul (FP.ddiv (Native.java_lang_Math.nans.pick64 false (FP.dadd FP.dconst1 (FP.f2d (dl p1.toNatClampNeg))) p3) (FP.dadd FP.dconst1 (FP.f2d (dl p1.toNatClampNeg)))) 4616189618054758400))), upd dn p2.toNatClampNeg (vp_nar .boolean 1)) else (FP.dsub p3 (Native.java_lang_Math.nans.pick64 false (FP.dadd FP.dconst1 (FP.f2d (dl p1.toNatClampNeg))) p3), vf_upd dl p1.toNatClampNeg (Native.java_lang_Math.nans.pick32 false FP.fconst1 (FP.fadd (dl p1.toNatClampNeg) (FP.fdiv (FP.fmul (FP.d2f (FP.ddiv (Native.java_lang_Math.nans.pick64 false (FP.dadd FP.dconst1 (FP.f2d (dl p1.toNatClampNeg))) p3) (FP.dadd FP.dconst1 (FP.f2d (dl p1.toNatClampNeg))))) FP.fconst1) 1115684864))), pl, vf_upd le p2.toNatClampNeg (Native.java_lang_Math.nans.pick64 true FP.dconst0 (FP.dsub (le p2.toNatClampNeg) (FP.dmul (FP.ddiv (Native.java_lang_Math.nans.pick64 false (FP.dadd FP.dconst1 (FP.f2d (dl p1.toNatClampNeg))) p3) (FP.dadd FP.dconst1 (FP.f2d (dl p1.toNatClampNeg)))) 4616189618054758400))), dn))) else (if (rc p2.toNatClampNeg (1 : Int32).toNatClampNeg) = 1 then (if (rc p2.toNatClampNeg (1 : Int32).toNatClampNeg) = 1 then (if (Op.cmpValue (FP.dcmp ((vf_upd le p2.toNatClampNeg (Native.java_lang_Math.nans.pick64 true FP.dconst0 (FP.dsub (le p2.toNatClampNeg) (FP.dmul (FP.ddiv (Native.java_lang_Math.nans.pick64 false (FP.dadd FP.dconst1 (FP.f2d (dl p1.toNatClampNeg))) p3) (FP.dadd FP.dconst1 (FP.f2d (dl p1.toNatClampNeg)))) 4613937818241073152)))) p2.toNatClampNeg) FP.dconst0) .l) = 0 then (FP.dsub p3 (Native.java_lang_Math.nans.pick64 false (FP.dadd FP.dconst1 (FP.f2d (dl p1.toNatClampNeg))) p3), vf_upd dl p1.toNatClampNeg (Native.java_lang_Math.nans.pick32 false FP.fconst1 (FP.fadd (dl p1.toNatClampNeg) (FP.fdiv (FP.fmul (FP.d2f (FP.ddiv (Native.java_lang_Math.nans.pick64 false (FP.dadd FP.dconst1 (FP.f2d (dl p1.toNatClampNeg))) p3) (FP.dadd FP.dconst1 (FP.f2d (dl p1.toNatClampNeg))))) FP.fconst2) 1115684864))), upd pl p1.toNatClampNeg (-1), vf_upd le p2.toNatClampNeg (Native.java_lang_Math.nans.pick64 true FP.dconst0 (FP.dsub (le p2.toNatClampNeg) (FP.dmul (FP.ddiv (Native.java_lang_Math.nans.pick64 false (FP.dadd FP.dconst1 (FP.f2d (dl p1.toNatClampNeg))) p3) (FP.dadd FP.dconst1 (FP.f2d (dl p1.toNatClampNeg)))) 4613937818241073152))), upd dn p2.toNatClampNeg (vp_nar .boolean 1)) else (FP.dsub p3 (Native.java_lang_Math.nans.pick64 false (FP.dadd FP.dconst1 (FP.f2d (dl p1.toNatClampNeg))) p3), vf_upd dl p1.toNatClampNeg (Native.java_lang_Math.nans.pick32 false FP.fconst1 (FP.fadd (dl p1.toNatClampNeg) (FP.fdiv (FP.fmul (FP.d2f (FP.ddiv (Native.java_lang_Math.nans.pick64 false (FP.dadd FP.dconst1 (FP.f2d (dl p1.toNatClampNeg))) p3) (FP.dadd FP.dconst1 (FP.f2d (dl p1.toNatClampNeg))))) FP.fconst2) 1115684864))), pl, vf_upd le p2.toNatClampNeg (Native.java_lang_Math.nans.pick64 true FP.dconst0 (FP.dsub (le p2.toNatClampNeg) (FP.dmul (FP.ddiv (Native.java_lang_Math.nans.pick64 false (FP.dadd FP.dconst1 (FP.f2d (dl p1.toNatClampNeg))) p3) (FP.dadd FP.dconst1 (FP.f2d (dl p1.toNatClampNeg)))) 4613937818241073152))), dn)) else (if (Op.cmpValue (FP.dcmp ((vf_upd le p2.toNatClampNeg (Native.java_lang_Math.nans.pick64 true FP.dconst0 (FP.dsub (le p2.toNatClampNeg) (FP.dmul (FP.ddiv (Native.java_lang_Math.nans.pick64 false (FP.dadd FP.dconst1 (FP.f2d (dl p1.toNatClampNeg))) p3) (FP.dadd FP.dconst1 (FP.f2d (dl p1.toNatClampNeg)))) 4613937818241073152)))) p2.toNatClampNeg) FP.dconst0) .l) = 0 then (FP.dsub p3 (Native.java_lang_Math.nans.pick64 false (FP.dadd FP.dconst1 (FP.f2d (dl p1.toNatClampNeg))) p3), vf_upd dl p1.toNatClampNeg (Native.java_lang_Math.nans.pick32 false FP.fconst1 (FP.fadd (dl p1.toNatClampNeg) (FP.fdiv (FP.fmul (FP.d2f (FP.ddiv (Native.java_lang_Math.nans.pick64 false (FP.dadd FP.dconst1 (FP.f2d (dl p1.toNatClampNeg))) p3) (FP.dadd FP.dconst1 (FP.f2d (dl p1.toNatClampNeg))))) FP.fconst1) 1115684864))), upd pl p1.toNatClampNeg (-1), vf_upd le p2.toNatClampNeg (Native.java_lang_Math.nans.pick64 true FP.dconst0 (FP.dsub (le p2.toNatClampNeg) (FP.dmul (FP.ddiv (Native.java_lang_Math.nans.pick64 false (FP.dadd FP.dconst1 (FP.f2d (dl p1.toNatClampNeg))) p3) (FP.dadd FP.dconst1 (FP.f2d (dl p1.toNatClampNeg)))) 4613937818241073152))), upd dn p2.toNatClampNeg (vp_nar .boolean 1)) else (FP.dsub p3 (Native.java_lang_Math.nans.pick64 false (FP.dadd FP.dconst1 (FP.f2d (dl p1.toNatClampNeg))) p3), vf_upd dl p1.toNatClampNeg (Native.java_lang_Math.nans.pick32 false FP.fconst1 (FP.fadd (dl p1.toNatClampNeg) (FP.fdiv (FP.fmul (FP.d2f (FP.ddiv (Native.java_lang_Math.nans.pick64 false (FP.dadd FP.dconst1 (FP.f2d (dl p1.toNatClampNeg))) p3) (FP.dadd FP.dconst1 (FP.f2d (dl p1.toNatClampNeg))))) FP.fconst1) 1115684864))), pl, vf_upd le p2.toNatClampNeg (Native.java_lang_Math.nans.pick64 true FP.dconst0 (FP.dsub (le p2.toNatClampNeg) (FP.dmul (FP.ddiv (Native.java_lang_Math.nans.pick64 false (FP.dadd FP.dconst1 (FP.f2d (dl p1.toNatClampNeg))) p3) (FP.dadd FP.dconst1 (FP.f2d (dl p1.toNatClampNeg)))) 4613937818241073152))), dn))) else (if (rc p2.toNatClampNeg (1 : Int32).toNatClampNeg) = 1 then (if (Op.cmpValue (FP.dcmp ((vf_upd le p2.toNatClampNeg (Native.java_lang_Math.nans.pick64 true FP.dconst0 (FP.dsub (le p2.toNatClampNeg) (FP.dmul (FP.ddiv (Native.java_lang_Math.nans.pick64 false (FP.dadd FP.dconst1 (FP.f2d (dl p1.toNatClampNeg))) p3) (FP.dadd FP.dconst1 (FP.f2d (dl p1.toNatClampNeg)))) 4617315517961601024)))) p2.toNatClampNeg) FP.dconst0) .l) = 0 then (FP.dsub p3 (Native.java_lang_Math.nans.pick64 false (FP.dadd FP.dconst1 (FP.f2d (dl p1.toNatClampNeg))) p3), vf_upd dl p1.toNatClampNeg (Native.java_lang_Math.nans.pick32 false FP.fconst1 (FP.fadd (dl p1.toNatClampNeg) (FP.fdiv (FP.fmul (FP.d2f (FP.ddiv (Native.java_lang_Math.nans.pick64 false (FP.dadd FP.dconst1 (FP.f2d (dl p1.toNatClampNeg))) p3) (FP.dadd FP.dconst1 (FP.f2d (dl p1.toNatClampNeg))))) FP.fconst2) 1115684864))), upd pl p1.toNatClampNeg (-1), vf_upd le p2.toNatClampNeg (Native.java_lang_Math.nans.pick64 true FP.dconst0 (FP.dsub (le p2.toNatClampNeg) (FP.dmul (FP.ddiv (Native.java_lang_Math.nans.pick64 false (FP.dadd FP.dconst1 (FP.f2d (dl p1.toNatClampNeg))) p3) (FP.dadd FP.dconst1 (FP.f2d (dl p1.toNatClampNeg)))) 4617315517961601024))), upd dn p2.toNatClampNeg (vp_nar .boolean 1)) else (FP.dsub p3 (Native.java_lang_Math.nans.pick64 false (FP.dadd FP.dconst1 (FP.f2d (dl p1.toNatClampNeg))) p3), vf_upd dl p1.toNatClampNeg (Native.java_lang_Math.nans.pick32 false FP.fconst1 (FP.fadd (dl p1.toNatClampNeg) (FP.fdiv (FP.fmul (FP.d2f (FP.ddiv (Native.java_lang_Math.nans.pick64 false (FP.dadd FP.dconst1 (FP.f2d (dl p1.toNatClampNeg))) p3) (FP.dadd FP.dconst1 (FP.f2d (dl p1.toNatClampNeg))))) FP.fconst2) 1115684864))), pl, vf_upd le p2.toNatClampNeg (Native.java_lang_Math.nans.pick64 true FP.dconst0 (FP.dsub (le p2.toNatClampNeg) (FP.dmul (FP.ddiv (Native.java_lang_Math.nans.pick64 false (FP.dadd FP.dconst1 (FP.f2d (dl p1.toNatClampNeg))) p3) (FP.dadd FP.dconst1 (FP.f2d (dl p1.toNatClampNeg)))) 4617315517961601024))), dn)) else (if (Op.cmpValue (FP.dcmp ((vf_upd le p2.toNatClampNeg (Native.java_lang_Math.nans.pick64 true FP.dconst0 (FP.dsub (le p2.toNatClampNeg) (FP.dmul (FP.ddiv (Native.java_lang_Math.nans.pick64 false (FP.dadd FP.dconst1 (FP.f2d (dl p1.toNatClampNeg))) p3) (FP.dadd FP.dconst1 (FP.f2d (dl p1.toNatClampNeg)))) 4617315517961601024)))) p2.toNatClampNeg) FP.dconst0) .l) = 0 then (FP.dsub p3 (Native.java_lang_Math.nans.pick64 false (FP.dadd FP.dconst1 (FP.f2d (dl p1.toNatClampNeg))) p3), vf_upd dl p1.toNatClampNeg (Native.java_lang_Math.nans.pick32 false FP.fconst1 (FP.fadd (dl p1.toNatClampNeg) (FP.fdiv (FP.fmul (FP.d2f (FP.ddiv (Native.java_lang_Math.nans.pick64 false (FP.dadd FP.dconst1 (FP.f2d (dl p1.toNatClampNeg))) p3) (FP.dadd FP.dconst1 (FP.f2d (dl p1.toNatClampNeg))))) FP.fconst1) 1115684864))), upd pl p1.toNatClampNeg (-1), vf_upd le p2.toNatClampNeg (Native.java_lang_Math.nans.pick64 true FP.dconst0 (FP.dsub (le p2.toNatClampNeg) (FP.dmul (FP.ddiv (Native.java_lang_Math.nans.pick64 false (FP.dadd FP.dconst1 (FP.f2d (dl p1.toNatClampNeg))) p3) (FP.dadd FP.dconst1 (FP.f2d (dl p1.toNatClampNeg)))) 4617315517961601024))), upd dn p2.toNatClampNeg (vp_nar .boolean 1)) else (FP.dsub p3 (Native.java_lang_Math.nans.pick64 false (FP.dadd FP.dconst1 (FP.f2d (dl p1.toNatClampNeg))) p3), vf_upd dl p1.toNatClampNeg (Native.java_lang_Math.nans.pick32 false FP.fconst1 (FP.fadd (dl p1.toNatClampNeg) (FP.fdiv (FP.fmul (FP.d2f (FP.ddiv (Native.java_lang_Math.nans.pick64 false (FP.dadd FP.dconst1 (FP.f2d (dl p1.toNatClampNeg))) p3) (FP.dadd FP.dconst1 (FP.f2d (dl p1.toNatClampNeg))))) FP.fconst1) 1115684864))), pl, vf_upd le p2.toNatClampNeg (Native.java_lang_Math.nans.pick64 true FP.dconst0 (FP.dsub (le p2.toNatClampNeg) (FP.dmul (FP.ddiv (Native.java_lang_Math.nans.pick64 false (FP.dadd FP.dconst1 (FP.f2d (dl p1.toNatClampNeg))) p3) (FP.dadd FP.dconst1 (FP.f2d (dl p1.toNatClampNeg)))) 4617315517961601024))), dn))))
def n_X6_grind (dl : Nat → UInt32) (le : Nat → UInt64) (p1 : Int32) (p2 : Int32) (p3 : UInt64) (n : Nat) (rc : Nat → Nat → Int32) : Prop :=
  (n_Jx4a65c_get_915e3 p2 n) ∧
  (vp_in p2 n) ∧
  (vp_in 1 5) ∧
  (vp_in p1 3) ∧
  (vf_n64 (FP.f2d (dl p1.toNatClampNeg))) ∧
  (vf_n64 (FP.dadd FP.dconst1 (FP.f2d (dl p1.toNatClampNeg)))) ∧
  (FP.dIsNaN (FP.dadd FP.dconst1 (FP.f2d (dl p1.toNatClampNeg))) = false) ∧
  (FP.dIsNaN p3 = false) ∧
  (vf_n64 (FP.ddiv (Native.java_lang_Math.nans.pick64 false (FP.dadd FP.dconst1 (FP.f2d (dl p1.toNatClampNeg))) p3) (FP.dadd FP.dconst1 (FP.f2d (dl p1.toNatClampNeg))))) ∧
  (vp_in p2 10) ∧
  ((¬ (rc p2.toNatClampNeg (1 : Int32).toNatClampNeg) = 0) → (¬ (rc p2.toNatClampNeg (1 : Int32).toNatClampNeg) = 1) → vf_n64 (FP.dmul (FP.ddiv (Native.java_lang_Math.nans.pick64 false (FP.dadd FP.dconst1 (FP.f2d (dl p1.toNatClampNeg))) p3) (FP.dadd FP.dconst1 (FP.f2d (dl p1.toNatClampNeg)))) 4617315517961601024)) ∧
  ((¬ (rc p2.toNatClampNeg (1 : Int32).toNatClampNeg) = 0) → (¬ (rc p2.toNatClampNeg (1 : Int32).toNatClampNeg) = 1) → vf_n64 (FP.dsub (le p2.toNatClampNeg) (FP.dmul (FP.ddiv (Native.java_lang_Math.nans.pick64 false (FP.dadd FP.dconst1 (FP.f2d (dl p1.toNatClampNeg))) p3) (FP.dadd FP.dconst1 (FP.f2d (dl p1.toNatClampNeg)))) 4617315517961601024))) ∧
  ((¬ (rc p2.toNatClampNeg (1 : Int32).toNatClampNeg) = 0) → (¬ (rc p2.toNatClampNeg (1 : Int32).toNatClampNeg) = 1) → FP.dIsNaN FP.dconst0 = false) ∧
  ((¬ (rc p2.toNatClampNeg (1 : Int32).toNatClampNeg) = 0) → (¬ (rc p2.toNatClampNeg (1 : Int32).toNatClampNeg) = 1) → FP.dIsNaN (FP.dsub (le p2.toNatClampNeg) (FP.dmul (FP.ddiv (Native.java_lang_Math.nans.pick64 false (FP.dadd FP.dconst1 (FP.f2d (dl p1.toNatClampNeg))) p3) (FP.dadd FP.dconst1 (FP.f2d (dl p1.toNatClampNeg)))) 4617315517961601024)) = false) ∧
  ((¬ (rc p2.toNatClampNeg (1 : Int32).toNatClampNeg) = 0) → (¬ (rc p2.toNatClampNeg (1 : Int32).toNatClampNeg) = 1) → vf_n32 (FP.d2f (FP.ddiv (Native.java_lang_Math.nans.pick64 false (FP.dadd FP.dconst1 (FP.f2d (dl p1.toNatClampNeg))) p3) (FP.dadd FP.dconst1 (FP.f2d (dl p1.toNatClampNeg)))))) ∧
  ((¬ (rc p2.toNatClampNeg (1 : Int32).toNatClampNeg) = 0) → (¬ (rc p2.toNatClampNeg (1 : Int32).toNatClampNeg) = 1) → (¬ (rc p2.toNatClampNeg (1 : Int32).toNatClampNeg) = 1) → vf_n32 (FP.fmul (FP.d2f (FP.ddiv (Native.java_lang_Math.nans.pick64 false (FP.dadd FP.dconst1 (FP.f2d (dl p1.toNatClampNeg))) p3) (FP.dadd FP.dconst1 (FP.f2d (dl p1.toNatClampNeg))))) FP.fconst1)) ∧
  ((¬ (rc p2.toNatClampNeg (1 : Int32).toNatClampNeg) = 0) → (¬ (rc p2.toNatClampNeg (1 : Int32).toNatClampNeg) = 1) → (¬ (rc p2.toNatClampNeg (1 : Int32).toNatClampNeg) = 1) → vf_n32 (FP.fdiv (FP.fmul (FP.d2f (FP.ddiv (Native.java_lang_Math.nans.pick64 false (FP.dadd FP.dconst1 (FP.f2d (dl p1.toNatClampNeg))) p3) (FP.dadd FP.dconst1 (FP.f2d (dl p1.toNatClampNeg))))) FP.fconst1) 1115684864)) ∧
  ((¬ (rc p2.toNatClampNeg (1 : Int32).toNatClampNeg) = 0) → (¬ (rc p2.toNatClampNeg (1 : Int32).toNatClampNeg) = 1) → (¬ (rc p2.toNatClampNeg (1 : Int32).toNatClampNeg) = 1) → vf_n32 (FP.fadd (dl p1.toNatClampNeg) (FP.fdiv (FP.fmul (FP.d2f (FP.ddiv (Native.java_lang_Math.nans.pick64 false (FP.dadd FP.dconst1 (FP.f2d (dl p1.toNatClampNeg))) p3) (FP.dadd FP.dconst1 (FP.f2d (dl p1.toNatClampNeg))))) FP.fconst1) 1115684864))) ∧
  ((¬ (rc p2.toNatClampNeg (1 : Int32).toNatClampNeg) = 0) → (¬ (rc p2.toNatClampNeg (1 : Int32).toNatClampNeg) = 1) → (¬ (rc p2.toNatClampNeg (1 : Int32).toNatClampNeg) = 1) → FP.fIsNaN FP.fconst1 = false) ∧
  ((¬ (rc p2.toNatClampNeg (1 : Int32).toNatClampNeg) = 0) → (¬ (rc p2.toNatClampNeg (1 : Int32).toNatClampNeg) = 1) → (¬ (rc p2.toNatClampNeg (1 : Int32).toNatClampNeg) = 1) → FP.fIsNaN (FP.fadd (dl p1.toNatClampNeg) (FP.fdiv (FP.fmul (FP.d2f (FP.ddiv (Native.java_lang_Math.nans.pick64 false (FP.dadd FP.dconst1 (FP.f2d (dl p1.toNatClampNeg))) p3) (FP.dadd FP.dconst1 (FP.f2d (dl p1.toNatClampNeg))))) FP.fconst1) 1115684864)) = false) ∧
  ((¬ (rc p2.toNatClampNeg (1 : Int32).toNatClampNeg) = 0) → (¬ (rc p2.toNatClampNeg (1 : Int32).toNatClampNeg) = 1) → (¬ (rc p2.toNatClampNeg (1 : Int32).toNatClampNeg) = 1) → (¬ (Op.cmpValue (FP.dcmp ((vf_upd le p2.toNatClampNeg (Native.java_lang_Math.nans.pick64 true FP.dconst0 (FP.dsub (le p2.toNatClampNeg) (FP.dmul (FP.ddiv (Native.java_lang_Math.nans.pick64 false (FP.dadd FP.dconst1 (FP.f2d (dl p1.toNatClampNeg))) p3) (FP.dadd FP.dconst1 (FP.f2d (dl p1.toNatClampNeg)))) 4617315517961601024)))) p2.toNatClampNeg) FP.dconst0) .l) = 0) → vf_n64 (FP.dsub p3 (Native.java_lang_Math.nans.pick64 false (FP.dadd FP.dconst1 (FP.f2d (dl p1.toNatClampNeg))) p3))) ∧
  ((¬ (rc p2.toNatClampNeg (1 : Int32).toNatClampNeg) = 0) → (¬ (rc p2.toNatClampNeg (1 : Int32).toNatClampNeg) = 1) → (¬ (rc p2.toNatClampNeg (1 : Int32).toNatClampNeg) = 1) → ((Op.cmpValue (FP.dcmp ((vf_upd le p2.toNatClampNeg (Native.java_lang_Math.nans.pick64 true FP.dconst0 (FP.dsub (le p2.toNatClampNeg) (FP.dmul (FP.ddiv (Native.java_lang_Math.nans.pick64 false (FP.dadd FP.dconst1 (FP.f2d (dl p1.toNatClampNeg))) p3) (FP.dadd FP.dconst1 (FP.f2d (dl p1.toNatClampNeg)))) 4617315517961601024)))) p2.toNatClampNeg) FP.dconst0) .l) = 0) → vf_n64 (FP.dsub p3 (Native.java_lang_Math.nans.pick64 false (FP.dadd FP.dconst1 (FP.f2d (dl p1.toNatClampNeg))) p3))) ∧
  ((¬ (rc p2.toNatClampNeg (1 : Int32).toNatClampNeg) = 0) → (¬ (rc p2.toNatClampNeg (1 : Int32).toNatClampNeg) = 1) → ((rc p2.toNatClampNeg (1 : Int32).toNatClampNeg) = 1) → vf_n32 (FP.fmul (FP.d2f (FP.ddiv (Native.java_lang_Math.nans.pick64 false (FP.dadd FP.dconst1 (FP.f2d (dl p1.toNatClampNeg))) p3) (FP.dadd FP.dconst1 (FP.f2d (dl p1.toNatClampNeg))))) FP.fconst2)) ∧
  ((¬ (rc p2.toNatClampNeg (1 : Int32).toNatClampNeg) = 0) → (¬ (rc p2.toNatClampNeg (1 : Int32).toNatClampNeg) = 1) → ((rc p2.toNatClampNeg (1 : Int32).toNatClampNeg) = 1) → vf_n32 (FP.fdiv (FP.fmul (FP.d2f (FP.ddiv (Native.java_lang_Math.nans.pick64 false (FP.dadd FP.dconst1 (FP.f2d (dl p1.toNatClampNeg))) p3) (FP.dadd FP.dconst1 (FP.f2d (dl p1.toNatClampNeg))))) FP.fconst2) 1115684864)) ∧
  ((¬ (rc p2.toNatClampNeg (1 : Int32).toNatClampNeg) = 0) → (¬ (rc p2.toNatClampNeg (1 : Int32).toNatClampNeg) = 1) → ((rc p2.toNatClampNeg (1 : Int32).toNatClampNeg) = 1) → vf_n32 (FP.fadd (dl p1.toNatClampNeg) (FP.fdiv (FP.fmul (FP.d2f (FP.ddiv (Native.java_lang_Math.nans.pick64 false (FP.dadd FP.dconst1 (FP.f2d (dl p1.toNatClampNeg))) p3) (FP.dadd FP.dconst1 (FP.f2d (dl p1.toNatClampNeg))))) FP.fconst2) 1115684864))) ∧
  ((¬ (rc p2.toNatClampNeg (1 : Int32).toNatClampNeg) = 0) → (¬ (rc p2.toNatClampNeg (1 : Int32).toNatClampNeg) = 1) → ((rc p2.toNatClampNeg (1 : Int32).toNatClampNeg) = 1) → FP.fIsNaN FP.fconst1 = false) ∧
  ((¬ (rc p2.toNatClampNeg (1 : Int32).toNatClampNeg) = 0) → (¬ (rc p2.toNatClampNeg (1 : Int32).toNatClampNeg) = 1) → ((rc p2.toNatClampNeg (1 : Int32).toNatClampNeg) = 1) → FP.fIsNaN (FP.fadd (dl p1.toNatClampNeg) (FP.fdiv (FP.fmul (FP.d2f (FP.ddiv (Native.java_lang_Math.nans.pick64 false (FP.dadd FP.dconst1 (FP.f2d (dl p1.toNatClampNeg))) p3) (FP.dadd FP.dconst1 (FP.f2d (dl p1.toNatClampNeg))))) FP.fconst2) 1115684864)) = false) ∧
  ((¬ (rc p2.toNatClampNeg (1 : Int32).toNatClampNeg) = 0) → (¬ (rc p2.toNatClampNeg (1 : Int32).toNatClampNeg) = 1) → ((rc p2.toNatClampNeg (1 : Int32).toNatClampNeg) = 1) → (¬ (Op.cmpValue (FP.dcmp ((vf_upd le p2.toNatClampNeg (Native.java_lang_Math.nans.pick64 true FP.dconst0 (FP.dsub (le p2.toNatClampNeg) (FP.dmul (FP.ddiv (Native.java_lang_Math.nans.pick64 false (FP.dadd FP.dconst1 (FP.f2d (dl p1.toNatClampNeg))) p3) (FP.dadd FP.dconst1 (FP.f2d (dl p1.toNatClampNeg)))) 4617315517961601024)))) p2.toNatClampNeg) FP.dconst0) .l) = 0) → vf_n64 (FP.dsub p3 (Native.java_lang_Math.nans.pick64 false (FP.dadd FP.dconst1 (FP.f2d (dl p1.toNatClampNeg))) p3))) ∧
  ((¬ (rc p2.toNatClampNeg (1 : Int32).toNatClampNeg) = 0) → (¬ (rc p2.toNatClampNeg (1 : Int32).toNatClampNeg) = 1) → ((rc p2.toNatClampNeg (1 : Int32).toNatClampNeg) = 1) → ((Op.cmpValue (FP.dcmp ((vf_upd le p2.toNatClampNeg (Native.java_lang_Math.nans.pick64 true FP.dconst0 (FP.dsub (le p2.toNatClampNeg) (FP.dmul (FP.ddiv (Native.java_lang_Math.nans.pick64 false (FP.dadd FP.dconst1 (FP.f2d (dl p1.toNatClampNeg))) p3) (FP.dadd FP.dconst1 (FP.f2d (dl p1.toNatClampNeg)))) 4617315517961601024)))) p2.toNatClampNeg) FP.dconst0) .l) = 0) → vf_n64 (FP.dsub p3 (Native.java_lang_Math.nans.pick64 false (FP.dadd FP.dconst1 (FP.f2d (dl p1.toNatClampNeg))) p3))) ∧
  ((¬ (rc p2.toNatClampNeg (1 : Int32).toNatClampNeg) = 0) → ((rc p2.toNatClampNeg (1 : Int32).toNatClampNeg) = 1) → vf_n64 (FP.dmul (FP.ddiv (Native.java_lang_Math.nans.pick64 false (FP.dadd FP.dconst1 (FP.f2d (dl p1.toNatClampNeg))) p3) (FP.dadd FP.dconst1 (FP.f2d (dl p1.toNatClampNeg)))) 4613937818241073152)) ∧
  ((¬ (rc p2.toNatClampNeg (1 : Int32).toNatClampNeg) = 0) → ((rc p2.toNatClampNeg (1 : Int32).toNatClampNeg) = 1) → vf_n64 (FP.dsub (le p2.toNatClampNeg) (FP.dmul (FP.ddiv (Native.java_lang_Math.nans.pick64 false (FP.dadd FP.dconst1 (FP.f2d (dl p1.toNatClampNeg))) p3) (FP.dadd FP.dconst1 (FP.f2d (dl p1.toNatClampNeg)))) 4613937818241073152))) ∧
  ((¬ (rc p2.toNatClampNeg (1 : Int32).toNatClampNeg) = 0) → ((rc p2.toNatClampNeg (1 : Int32).toNatClampNeg) = 1) → FP.dIsNaN FP.dconst0 = false) ∧
  ((¬ (rc p2.toNatClampNeg (1 : Int32).toNatClampNeg) = 0) → ((rc p2.toNatClampNeg (1 : Int32).toNatClampNeg) = 1) → FP.dIsNaN (FP.dsub (le p2.toNatClampNeg) (FP.dmul (FP.ddiv (Native.java_lang_Math.nans.pick64 false (FP.dadd FP.dconst1 (FP.f2d (dl p1.toNatClampNeg))) p3) (FP.dadd FP.dconst1 (FP.f2d (dl p1.toNatClampNeg)))) 4613937818241073152)) = false) ∧
  ((¬ (rc p2.toNatClampNeg (1 : Int32).toNatClampNeg) = 0) → ((rc p2.toNatClampNeg (1 : Int32).toNatClampNeg) = 1) → vf_n32 (FP.d2f (FP.ddiv (Native.java_lang_Math.nans.pick64 false (FP.dadd FP.dconst1 (FP.f2d (dl p1.toNatClampNeg))) p3) (FP.dadd FP.dconst1 (FP.f2d (dl p1.toNatClampNeg)))))) ∧
  ((¬ (rc p2.toNatClampNeg (1 : Int32).toNatClampNeg) = 0) → ((rc p2.toNatClampNeg (1 : Int32).toNatClampNeg) = 1) → (¬ (rc p2.toNatClampNeg (1 : Int32).toNatClampNeg) = 1) → vf_n32 (FP.fmul (FP.d2f (FP.ddiv (Native.java_lang_Math.nans.pick64 false (FP.dadd FP.dconst1 (FP.f2d (dl p1.toNatClampNeg))) p3) (FP.dadd FP.dconst1 (FP.f2d (dl p1.toNatClampNeg))))) FP.fconst1)) ∧
  ((¬ (rc p2.toNatClampNeg (1 : Int32).toNatClampNeg) = 0) → ((rc p2.toNatClampNeg (1 : Int32).toNatClampNeg) = 1) → (¬ (rc p2.toNatClampNeg (1 : Int32).toNatClampNeg) = 1) → vf_n32 (FP.fdiv (FP.fmul (FP.d2f (FP.ddiv (Native.java_lang_Math.nans.pick64 false (FP.dadd FP.dconst1 (FP.f2d (dl p1.toNatClampNeg))) p3) (FP.dadd FP.dconst1 (FP.f2d (dl p1.toNatClampNeg))))) FP.fconst1) 1115684864)) ∧
  ((¬ (rc p2.toNatClampNeg (1 : Int32).toNatClampNeg) = 0) → ((rc p2.toNatClampNeg (1 : Int32).toNatClampNeg) = 1) → (¬ (rc p2.toNatClampNeg (1 : Int32).toNatClampNeg) = 1) → vf_n32 (FP.fadd (dl p1.toNatClampNeg) (FP.fdiv (FP.fmul (FP.d2f (FP.ddiv (Native.java_lang_Math.nans.pick64 false (FP.dadd FP.dconst1 (FP.f2d (dl p1.toNatClampNeg))) p3) (FP.dadd FP.dconst1 (FP.f2d (dl p1.toNatClampNeg))))) FP.fconst1) 1115684864))) ∧
  ((¬ (rc p2.toNatClampNeg (1 : Int32).toNatClampNeg) = 0) → ((rc p2.toNatClampNeg (1 : Int32).toNatClampNeg) = 1) → (¬ (rc p2.toNatClampNeg (1 : Int32).toNatClampNeg) = 1) → FP.fIsNaN FP.fconst1 = false) ∧
  ((¬ (rc p2.toNatClampNeg (1 : Int32).toNatClampNeg) = 0) → ((rc p2.toNatClampNeg (1 : Int32).toNatClampNeg) = 1) → (¬ (rc p2.toNatClampNeg (1 : Int32).toNatClampNeg) = 1) → FP.fIsNaN (FP.fadd (dl p1.toNatClampNeg) (FP.fdiv (FP.fmul (FP.d2f (FP.ddiv (Native.java_lang_Math.nans.pick64 false (FP.dadd FP.dconst1 (FP.f2d (dl p1.toNatClampNeg))) p3) (FP.dadd FP.dconst1 (FP.f2d (dl p1.toNatClampNeg))))) FP.fconst1) 1115684864)) = false) ∧
  ((¬ (rc p2.toNatClampNeg (1 : Int32).toNatClampNeg) = 0) → ((rc p2.toNatClampNeg (1 : Int32).toNatClampNeg) = 1) → (¬ (rc p2.toNatClampNeg (1 : Int32).toNatClampNeg) = 1) → (¬ (Op.cmpValue (FP.dcmp ((vf_upd le p2.toNatClampNeg (Native.java_lang_Math.nans.pick64 true FP.dconst0 (FP.dsub (le p2.toNatClampNeg) (FP.dmul (FP.ddiv (Native.java_lang_Math.nans.pick64 false (FP.dadd FP.dconst1 (FP.f2d (dl p1.toNatClampNeg))) p3) (FP.dadd FP.dconst1 (FP.f2d (dl p1.toNatClampNeg)))) 4613937818241073152)))) p2.toNatClampNeg) FP.dconst0) .l) = 0) → vf_n64 (FP.dsub p3 (Native.java_lang_Math.nans.pick64 false (FP.dadd FP.dconst1 (FP.f2d (dl p1.toNatClampNeg))) p3))) ∧
  ((¬ (rc p2.toNatClampNeg (1 : Int32).toNatClampNeg) = 0) → ((rc p2.toNatClampNeg (1 : Int32).toNatClampNeg) = 1) → (¬ (rc p2.toNatClampNeg (1 : Int32).toNatClampNeg) = 1) → ((Op.cmpValue (FP.dcmp ((vf_upd le p2.toNatClampNeg (Native.java_lang_Math.nans.pick64 true FP.dconst0 (FP.dsub (le p2.toNatClampNeg) (FP.dmul (FP.ddiv (Native.java_lang_Math.nans.pick64 false (FP.dadd FP.dconst1 (FP.f2d (dl p1.toNatClampNeg))) p3) (FP.dadd FP.dconst1 (FP.f2d (dl p1.toNatClampNeg)))) 4613937818241073152)))) p2.toNatClampNeg) FP.dconst0) .l) = 0) → vf_n64 (FP.dsub p3 (Native.java_lang_Math.nans.pick64 false (FP.dadd FP.dconst1 (FP.f2d (dl p1.toNatClampNeg))) p3))) ∧
  ((¬ (rc p2.toNatClampNeg (1 : Int32).toNatClampNeg) = 0) → ((rc p2.toNatClampNeg (1 : Int32).toNatClampNeg) = 1) → ((rc p2.toNatClampNeg (1 : Int32).toNatClampNeg) = 1) → vf_n32 (FP.fmul (FP.d2f (FP.ddiv (Native.java_lang_Math.nans.pick64 false (FP.dadd FP.dconst1 (FP.f2d (dl p1.toNatClampNeg))) p3) (FP.dadd FP.dconst1 (FP.f2d (dl p1.toNatClampNeg))))) FP.fconst2)) ∧
  ((¬ (rc p2.toNatClampNeg (1 : Int32).toNatClampNeg) = 0) → ((rc p2.toNatClampNeg (1 : Int32).toNatClampNeg) = 1) → ((rc p2.toNatClampNeg (1 : Int32).toNatClampNeg) = 1) → vf_n32 (FP.fdiv (FP.fmul (FP.d2f (FP.ddiv (Native.java_lang_Math.nans.pick64 false (FP.dadd FP.dconst1 (FP.f2d (dl p1.toNatClampNeg))) p3) (FP.dadd FP.dconst1 (FP.f2d (dl p1.toNatClampNeg))))) FP.fconst2) 1115684864)) ∧
  ((¬ (rc p2.toNatClampNeg (1 : Int32).toNatClampNeg) = 0) → ((rc p2.toNatClampNeg (1 : Int32).toNatClampNeg) = 1) → ((rc p2.toNatClampNeg (1 : Int32).toNatClampNeg) = 1) → vf_n32 (FP.fadd (dl p1.toNatClampNeg) (FP.fdiv (FP.fmul (FP.d2f (FP.ddiv (Native.java_lang_Math.nans.pick64 false (FP.dadd FP.dconst1 (FP.f2d (dl p1.toNatClampNeg))) p3) (FP.dadd FP.dconst1 (FP.f2d (dl p1.toNatClampNeg))))) FP.fconst2) 1115684864))) ∧
  ((¬ (rc p2.toNatClampNeg (1 : Int32).toNatClampNeg) = 0) → ((rc p2.toNatClampNeg (1 : Int32).toNatClampNeg) = 1) → ((rc p2.toNatClampNeg (1 : Int32).toNatClampNeg) = 1) → FP.fIsNaN FP.fconst1 = false) ∧
  ((¬ (rc p2.toNatClampNeg (1 : Int32).toNatClampNeg) = 0) → ((rc p2.toNatClampNeg (1 : Int32).toNatClampNeg) = 1) → ((rc p2.toNatClampNeg (1 : Int32).toNatClampNeg) = 1) → FP.fIsNaN (FP.fadd (dl p1.toNatClampNeg) (FP.fdiv (FP.fmul (FP.d2f (FP.ddiv (Native.java_lang_Math.nans.pick64 false (FP.dadd FP.dconst1 (FP.f2d (dl p1.toNatClampNeg))) p3) (FP.dadd FP.dconst1 (FP.f2d (dl p1.toNatClampNeg))))) FP.fconst2) 1115684864)) = false) ∧
  ((¬ (rc p2.toNatClampNeg (1 : Int32).toNatClampNeg) = 0) → ((rc p2.toNatClampNeg (1 : Int32).toNatClampNeg) = 1) → ((rc p2.toNatClampNeg (1 : Int32).toNatClampNeg) = 1) → (¬ (Op.cmpValue (FP.dcmp ((vf_upd le p2.toNatClampNeg (Native.java_lang_Math.nans.pick64 true FP.dconst0 (FP.dsub (le p2.toNatClampNeg) (FP.dmul (FP.ddiv (Native.java_lang_Math.nans.pick64 false (FP.dadd FP.dconst1 (FP.f2d (dl p1.toNatClampNeg))) p3) (FP.dadd FP.dconst1 (FP.f2d (dl p1.toNatClampNeg)))) 4613937818241073152)))) p2.toNatClampNeg) FP.dconst0) .l) = 0) → vf_n64 (FP.dsub p3 (Native.java_lang_Math.nans.pick64 false (FP.dadd FP.dconst1 (FP.f2d (dl p1.toNatClampNeg))) p3))) ∧
  ((¬ (rc p2.toNatClampNeg (1 : Int32).toNatClampNeg) = 0) → ((rc p2.toNatClampNeg (1 : Int32).toNatClampNeg) = 1) → ((rc p2.toNatClampNeg (1 : Int32).toNatClampNeg) = 1) → ((Op.cmpValue (FP.dcmp ((vf_upd le p2.toNatClampNeg (Native.java_lang_Math.nans.pick64 true FP.dconst0 (FP.dsub (le p2.toNatClampNeg) (FP.dmul (FP.ddiv (Native.java_lang_Math.nans.pick64 false (FP.dadd FP.dconst1 (FP.f2d (dl p1.toNatClampNeg))) p3) (FP.dadd FP.dconst1 (FP.f2d (dl p1.toNatClampNeg)))) 4613937818241073152)))) p2.toNatClampNeg) FP.dconst0) .l) = 0) → vf_n64 (FP.dsub p3 (Native.java_lang_Math.nans.pick64 false (FP.dadd FP.dconst1 (FP.f2d (dl p1.toNatClampNeg))) p3))) ∧
  (((rc p2.toNatClampNeg (1 : Int32).toNatClampNeg) = 0) → vf_n64 (FP.dmul (FP.ddiv (Native.java_lang_Math.nans.pick64 false (FP.dadd FP.dconst1 (FP.f2d (dl p1.toNatClampNeg))) p3) (FP.dadd FP.dconst1 (FP.f2d (dl p1.toNatClampNeg)))) 4616189618054758400)) ∧
  (((rc p2.toNatClampNeg (1 : Int32).toNatClampNeg) = 0) → vf_n64 (FP.dsub (le p2.toNatClampNeg) (FP.dmul (FP.ddiv (Native.java_lang_Math.nans.pick64 false (FP.dadd FP.dconst1 (FP.f2d (dl p1.toNatClampNeg))) p3) (FP.dadd FP.dconst1 (FP.f2d (dl p1.toNatClampNeg)))) 4616189618054758400))) ∧
  (((rc p2.toNatClampNeg (1 : Int32).toNatClampNeg) = 0) → FP.dIsNaN FP.dconst0 = false) ∧
  (((rc p2.toNatClampNeg (1 : Int32).toNatClampNeg) = 0) → FP.dIsNaN (FP.dsub (le p2.toNatClampNeg) (FP.dmul (FP.ddiv (Native.java_lang_Math.nans.pick64 false (FP.dadd FP.dconst1 (FP.f2d (dl p1.toNatClampNeg))) p3) (FP.dadd FP.dconst1 (FP.f2d (dl p1.toNatClampNeg)))) 4616189618054758400)) = false) ∧
  (((rc p2.toNatClampNeg (1 : Int32).toNatClampNeg) = 0) → vf_n32 (FP.d2f (FP.ddiv (Native.java_lang_Math.nans.pick64 false (FP.dadd FP.dconst1 (FP.f2d (dl p1.toNatClampNeg))) p3) (FP.dadd FP.dconst1 (FP.f2d (dl p1.toNatClampNeg)))))) ∧
  (((rc p2.toNatClampNeg (1 : Int32).toNatClampNeg) = 0) → (¬ (rc p2.toNatClampNeg (1 : Int32).toNatClampNeg) = 1) → vf_n32 (FP.fmul (FP.d2f (FP.ddiv (Native.java_lang_Math.nans.pick64 false (FP.dadd FP.dconst1 (FP.f2d (dl p1.toNatClampNeg))) p3) (FP.dadd FP.dconst1 (FP.f2d (dl p1.toNatClampNeg))))) FP.fconst1)) ∧
  (((rc p2.toNatClampNeg (1 : Int32).toNatClampNeg) = 0) → (¬ (rc p2.toNatClampNeg (1 : Int32).toNatClampNeg) = 1) → vf_n32 (FP.fdiv (FP.fmul (FP.d2f (FP.ddiv (Native.java_lang_Math.nans.pick64 false (FP.dadd FP.dconst1 (FP.f2d (dl p1.toNatClampNeg))) p3) (FP.dadd FP.dconst1 (FP.f2d (dl p1.toNatClampNeg))))) FP.fconst1) 1115684864)) ∧
  (((rc p2.toNatClampNeg (1 : Int32).toNatClampNeg) = 0) → (¬ (rc p2.toNatClampNeg (1 : Int32).toNatClampNeg) = 1) → vf_n32 (FP.fadd (dl p1.toNatClampNeg) (FP.fdiv (FP.fmul (FP.d2f (FP.ddiv (Native.java_lang_Math.nans.pick64 false (FP.dadd FP.dconst1 (FP.f2d (dl p1.toNatClampNeg))) p3) (FP.dadd FP.dconst1 (FP.f2d (dl p1.toNatClampNeg))))) FP.fconst1) 1115684864))) ∧
  (((rc p2.toNatClampNeg (1 : Int32).toNatClampNeg) = 0) → (¬ (rc p2.toNatClampNeg (1 : Int32).toNatClampNeg) = 1) → FP.fIsNaN FP.fconst1 = false) ∧
  (((rc p2.toNatClampNeg (1 : Int32).toNatClampNeg) = 0) → (¬ (rc p2.toNatClampNeg (1 : Int32).toNatClampNeg) = 1) → FP.fIsNaN (FP.fadd (dl p1.toNatClampNeg) (FP.fdiv (FP.fmul (FP.d2f (FP.ddiv (Native.java_lang_Math.nans.pick64 false (FP.dadd FP.dconst1 (FP.f2d (dl p1.toNatClampNeg))) p3) (FP.dadd FP.dconst1 (FP.f2d (dl p1.toNatClampNeg))))) FP.fconst1) 1115684864)) = false) ∧
  (((rc p2.toNatClampNeg (1 : Int32).toNatClampNeg) = 0) → (¬ (rc p2.toNatClampNeg (1 : Int32).toNatClampNeg) = 1) → (¬ (Op.cmpValue (FP.dcmp ((vf_upd le p2.toNatClampNeg (Native.java_lang_Math.nans.pick64 true FP.dconst0 (FP.dsub (le p2.toNatClampNeg) (FP.dmul (FP.ddiv (Native.java_lang_Math.nans.pick64 false (FP.dadd FP.dconst1 (FP.f2d (dl p1.toNatClampNeg))) p3) (FP.dadd FP.dconst1 (FP.f2d (dl p1.toNatClampNeg)))) 4616189618054758400)))) p2.toNatClampNeg) FP.dconst0) .l) = 0) → vf_n64 (FP.dsub p3 (Native.java_lang_Math.nans.pick64 false (FP.dadd FP.dconst1 (FP.f2d (dl p1.toNatClampNeg))) p3))) ∧
  (((rc p2.toNatClampNeg (1 : Int32).toNatClampNeg) = 0) → (¬ (rc p2.toNatClampNeg (1 : Int32).toNatClampNeg) = 1) → ((Op.cmpValue (FP.dcmp ((vf_upd le p2.toNatClampNeg (Native.java_lang_Math.nans.pick64 true FP.dconst0 (FP.dsub (le p2.toNatClampNeg) (FP.dmul (FP.ddiv (Native.java_lang_Math.nans.pick64 false (FP.dadd FP.dconst1 (FP.f2d (dl p1.toNatClampNeg))) p3) (FP.dadd FP.dconst1 (FP.f2d (dl p1.toNatClampNeg)))) 4616189618054758400)))) p2.toNatClampNeg) FP.dconst0) .l) = 0) → vf_n64 (FP.dsub p3 (Native.java_lang_Math.nans.pick64 false (FP.dadd FP.dconst1 (FP.f2d (dl p1.toNatClampNeg))) p3))) ∧
  (((rc p2.toNatClampNeg (1 : Int32).toNatClampNeg) = 0) → ((rc p2.toNatClampNeg (1 : Int32).toNatClampNeg) = 1) → vf_n32 (FP.fmul (FP.d2f (FP.ddiv (Native.java_lang_Math.nans.pick64 false (FP.dadd FP.dconst1 (FP.f2d (dl p1.toNatClampNeg))) p3) (FP.dadd FP.dconst1 (FP.f2d (dl p1.toNatClampNeg))))) FP.fconst2)) ∧
  (((rc p2.toNatClampNeg (1 : Int32).toNatClampNeg) = 0) → ((rc p2.toNatClampNeg (1 : Int32).toNatClampNeg) = 1) → vf_n32 (FP.fdiv (FP.fmul (FP.d2f (FP.ddiv (Native.java_lang_Math.nans.pick64 false (FP.dadd FP.dconst1 (FP.f2d (dl p1.toNatClampNeg))) p3) (FP.dadd FP.dconst1 (FP.f2d (dl p1.toNatClampNeg))))) FP.fconst2) 1115684864)) ∧
  (((rc p2.toNatClampNeg (1 : Int32).toNatClampNeg) = 0) → ((rc p2.toNatClampNeg (1 : Int32).toNatClampNeg) = 1) → vf_n32 (FP.fadd (dl p1.toNatClampNeg) (FP.fdiv (FP.fmul (FP.d2f (FP.ddiv (Native.java_lang_Math.nans.pick64 false (FP.dadd FP.dconst1 (FP.f2d (dl p1.toNatClampNeg))) p3) (FP.dadd FP.dconst1 (FP.f2d (dl p1.toNatClampNeg))))) FP.fconst2) 1115684864))) ∧
  (((rc p2.toNatClampNeg (1 : Int32).toNatClampNeg) = 0) → ((rc p2.toNatClampNeg (1 : Int32).toNatClampNeg) = 1) → FP.fIsNaN FP.fconst1 = false) ∧
  (((rc p2.toNatClampNeg (1 : Int32).toNatClampNeg) = 0) → ((rc p2.toNatClampNeg (1 : Int32).toNatClampNeg) = 1) → FP.fIsNaN (FP.fadd (dl p1.toNatClampNeg) (FP.fdiv (FP.fmul (FP.d2f (FP.ddiv (Native.java_lang_Math.nans.pick64 false (FP.dadd FP.dconst1 (FP.f2d (dl p1.toNatClampNeg))) p3) (FP.dadd FP.dconst1 (FP.f2d (dl p1.toNatClampNeg))))) FP.fconst2) 1115684864)) = false) ∧
  (((rc p2.toNatClampNeg (1 : Int32).toNatClampNeg) = 0) → ((rc p2.toNatClampNeg (1 : Int32).toNatClampNeg) = 1) → (¬ (Op.cmpValue (FP.dcmp ((vf_upd le p2.toNatClampNeg (Native.java_lang_Math.nans.pick64 true FP.dconst0 (FP.dsub (le p2.toNatClampNeg) (FP.dmul (FP.ddiv (Native.java_lang_Math.nans.pick64 false (FP.dadd FP.dconst1 (FP.f2d (dl p1.toNatClampNeg))) p3) (FP.dadd FP.dconst1 (FP.f2d (dl p1.toNatClampNeg)))) 4616189618054758400)))) p2.toNatClampNeg) FP.dconst0) .l) = 0) → vf_n64 (FP.dsub p3 (Native.java_lang_Math.nans.pick64 false (FP.dadd FP.dconst1 (FP.f2d (dl p1.toNatClampNeg))) p3))) ∧
  (((rc p2.toNatClampNeg (1 : Int32).toNatClampNeg) = 0) → ((rc p2.toNatClampNeg (1 : Int32).toNatClampNeg) = 1) → ((Op.cmpValue (FP.dcmp ((vf_upd le p2.toNatClampNeg (Native.java_lang_Math.nans.pick64 true FP.dconst0 (FP.dsub (le p2.toNatClampNeg) (FP.dmul (FP.ddiv (Native.java_lang_Math.nans.pick64 false (FP.dadd FP.dconst1 (FP.f2d (dl p1.toNatClampNeg))) p3) (FP.dadd FP.dconst1 (FP.f2d (dl p1.toNatClampNeg)))) 4616189618054758400)))) p2.toNatClampNeg) FP.dconst0) .l) = 0) → vf_n64 (FP.dsub p3 (Native.java_lang_Math.nans.pick64 false (FP.dadd FP.dconst1 (FP.f2d (dl p1.toNatClampNeg))) p3)))
def f_X6_work (tk : Int32) (fh : Int32) (lh : Int32) (dl : Nat → UInt32) (pl : Nat → Int32) (dr : Nat → Int32) (sp : Nat → Int32) (le : Nat → UInt64) (dn : Nat → Int32) (p1 : Int32) (p2 : UInt64) (rc : Nat → Nat → Int32) : UInt64 × (Nat → UInt32) × (Nat → Int32) × (Nat → Int32) × (Nat → Int32) × (Nat → UInt64) × (Nat → Int32) :=
  if (dr p1.toNatClampNeg) ≤ 0 then (if (f_X6_isAwake tk fh lh) = 0 then (p2, dl, pl, dr, sp, le, dn) else (if (pl p1.toNatClampNeg) = (-1) then (if 0 < (Op.cmpValue (FP.dcmp p2 FP.dconst1) .l) then (FP.dsub p2 FP.dconst1, vf_upd dl p1.toNatClampNeg (Native.java_lang_Math.nans.pick32 false FP.fconst1 (FP.fadd (dl p1.toNatClampNeg) 1040187392)), pl, dr, upd sp p1.toNatClampNeg ((sp p1.toNatClampNeg) + 1), le, dn) else (p2, dl, pl, dr, sp, le, dn)) else (match f_X6_grind dl pl le dn p1 (pl p1.toNatClampNeg) p2 rc with | (r_12, u_13, u_14, u_15, u_16) => (r_12, u_13, u_14, dr, sp, u_15, u_16)))) else (if ((upd dr p1.toNatClampNeg ((dr p1.toNatClampNeg) - 1)) p1.toNatClampNeg) = 0 then (p2, vf_upd dl p1.toNatClampNeg FP.fconst0, pl, upd dr p1.toNatClampNeg ((dr p1.toNatClampNeg) - 1), sp, le, dn) else (p2, dl, pl, upd dr p1.toNatClampNeg ((dr p1.toNatClampNeg) - 1), sp, le, dn))
def n_X6_work (tk : Int32) (fh : Int32) (lh : Int32) (dl : Nat → UInt32) (pl : Nat → Int32) (dr : Nat → Int32) (le : Nat → UInt64) (p1 : Int32) (p2 : UInt64) (n : Nat) (rc : Nat → Nat → Int32) : Prop :=
  (vp_in p1 3) ∧
  (((dr p1.toNatClampNeg) ≤ 0) → (¬ (f_X6_isAwake tk fh lh) = 0) → ((pl p1.toNatClampNeg) = (-1)) → (0 < (Op.cmpValue (FP.dcmp p2 FP.dconst1) .l)) → vf_n32 (FP.fadd (dl p1.toNatClampNeg) 1040187392)) ∧
  (((dr p1.toNatClampNeg) ≤ 0) → (¬ (f_X6_isAwake tk fh lh) = 0) → ((pl p1.toNatClampNeg) = (-1)) → (0 < (Op.cmpValue (FP.dcmp p2 FP.dconst1) .l)) → FP.fIsNaN FP.fconst1 = false) ∧
  (((dr p1.toNatClampNeg) ≤ 0) → (¬ (f_X6_isAwake tk fh lh) = 0) → ((pl p1.toNatClampNeg) = (-1)) → (0 < (Op.cmpValue (FP.dcmp p2 FP.dconst1) .l)) → FP.fIsNaN (FP.fadd (dl p1.toNatClampNeg) 1040187392) = false) ∧
  (((dr p1.toNatClampNeg) ≤ 0) → (¬ (f_X6_isAwake tk fh lh) = 0) → ((pl p1.toNatClampNeg) = (-1)) → (0 < (Op.cmpValue (FP.dcmp p2 FP.dconst1) .l)) → vf_n64 (FP.dsub p2 FP.dconst1)) ∧
  (((dr p1.toNatClampNeg) ≤ 0) → (¬ (f_X6_isAwake tk fh lh) = 0) → (¬ (pl p1.toNatClampNeg) = (-1)) → n_X6_grind dl le p1 (pl p1.toNatClampNeg) p2 n rc)
def f_X6_tick_200 (tk : Int32) (fh : Int32) (lh : Int32) (pn : Int32) (rc : Nat → Nat → Int32) : Nat → UInt64 → Int32 → (Nat → UInt32) → (Nat → Int32) → (Nat → Int32) → (Nat → Int32) → (Nat → UInt64) → (Nat → Int32) → UInt64 × Int32 × (Nat → UInt32) × (Nat → Int32) × (Nat → Int32) × (Nat → Int32) × (Nat → UInt64) × (Nat → Int32)
  | 0, x200_0, x200_1, x200_2, x200_3, x200_4, x200_5, x200_6, x200_7 => (x200_0, x200_1, x200_2, x200_3, x200_4, x200_5, x200_6, x200_7)
  | fuel + 1, x200_0, x200_1, x200_2, x200_3, x200_4, x200_5, x200_6, x200_7 => if pn ≤ x200_1 then (x200_0, x200_1, x200_2, x200_3, x200_4, x200_5, x200_6, x200_7) else (match f_X6_work tk fh lh x200_2 x200_3 x200_4 x200_5 x200_6 x200_7 x200_1 x200_0 rc with | (r_8, u_9, u_10, u_11, u_12, u_13, u_14) => f_X6_tick_200 tk fh lh pn rc fuel r_8 (x200_1 + 1) u_9 u_10 u_11 u_12 u_13 u_14)
def n_X6_tick_200 (tk : Int32) (fh : Int32) (lh : Int32) (pn : Int32) (n : Nat) (rc : Nat → Nat → Int32) : Nat → UInt64 → Int32 → (Nat → UInt32) → (Nat → Int32) → (Nat → Int32) → (Nat → Int32) → (Nat → UInt64) → (Nat → Int32) → Prop
  | 0, x200_0, x200_1, x200_2, x200_3, x200_4, x200_5, x200_6, x200_7 => False
  | fuel + 1, x200_0, x200_1, x200_2, x200_3, x200_4, x200_5, x200_6, x200_7 => ((¬ pn ≤ x200_1) → n_X6_work tk fh lh x200_2 x200_3 x200_4 x200_6 x200_1 x200_0 n rc) ∧
  ((¬ pn ≤ x200_1) → ∀ (r_8 : UInt64) (u_9 : Nat → UInt32) (u_10 : Nat → Int32) (u_11 : Nat → Int32) (u_12 : Nat → Int32) (u_13 : Nat → UInt64) (u_14 : Nat → Int32), (r_8, u_9, u_10, u_11, u_12, u_13, u_14) = f_X6_work tk fh lh x200_2 x200_3 x200_4 x200_5 x200_6 x200_7 x200_1 x200_0 rc → n_X6_tick_200 tk fh lh pn n rc fuel r_8 (x200_1 + 1) u_9 u_10 u_11 u_12 u_13 u_14)
def f_X6_tick_286 (tk : Int32) (x146_1 : UInt64) (x191_0 : UInt64) (x191_1 : UInt32) (x200e_19 : Nat → UInt32) (x200e_20 : Nat → Int32) (x200e_21 : Nat → Int32) (x200e_22 : Nat → Int32) (x200e_23 : Nat → UInt64) (x200e_24 : Nat → Int32) : Int32 → Int32 × UInt64 × UInt32 × UInt64 × Int32 × (Nat → UInt32) × (Nat → Int32) × (Nat → Int32) × (Nat → Int32) × (Nat → UInt64) × (Nat → Int32) := fun x286_0 =>
  (tk + 1, x191_0, x191_1, x146_1, x286_0, x200e_19, x200e_20, x200e_21, x200e_22, x200e_23, x200e_24)
def n_X6_tick_286 : Int32 → Prop := fun x286_0 =>
  True
def f_X6_tick_191 (tk : Int32) (mo : Int32) (sl : Int32) (fh : Int32) (lh : Int32) (ee : Int32) (pn : Int32) (dl : Nat → UInt32) (pl : Nat → Int32) (dr : Nat → Int32) (sp : Nat → Int32) (le : Nat → UInt64) (dn : Nat → Int32) (rc : Nat → Nat → Int32) (x146_1 : UInt64) : UInt64 → UInt32 → Int32 × UInt64 × UInt32 × UInt64 × Int32 × (Nat → UInt32) × (Nat → Int32) × (Nat → Int32) × (Nat → Int32) × (Nat → UInt64) × (Nat → Int32) := fun x191_0 x191_1 =>
  (match f_X6_tick_200 tk fh lh pn rc 5 x146_1 0 dl pl dr sp le dn with | (x200e_17, x200e_18, x200e_19, x200e_20, x200e_21, x200e_22, x200e_23, x200e_24) => if (Op.cmpValue (FP.dcmp x146_1 FP.dconst0) .l) ≤ 0 then (f_X6_tick_286 tk x146_1 x191_0 x191_1 x200e_19 x200e_20 x200e_21 x200e_22 x200e_23 x200e_24 ee) else (if (f_X7_in (f_X6_age mo tk) 13 17) = 0 then (f_X6_tick_286 tk x146_1 x191_0 x191_1 x200e_19 x200e_20 x200e_21 x200e_22 x200e_23 x200e_24 ee) else (if (f_X7_in (tk - tk / 48 * 48) 12 35) = 0 then (f_X6_tick_286 tk x146_1 x191_0 x191_1 x200e_19 x200e_20 x200e_21 x200e_22 x200e_23 x200e_24 (ee + sl)) else (f_X6_tick_286 tk x146_1 x191_0 x191_1 x200e_19 x200e_20 x200e_21 x200e_22 x200e_23 x200e_24 ee))))
def n_X6_tick_191 (tk : Int32) (mo : Int32) (sl : Int32) (fh : Int32) (lh : Int32) (ee : Int32) (pn : Int32) (dl : Nat → UInt32) (pl : Nat → Int32) (dr : Nat → Int32) (sp : Nat → Int32) (le : Nat → UInt64) (dn : Nat → Int32) (n : Nat) (rc : Nat → Nat → Int32) (x146_1 : UInt64) : UInt64 → UInt32 → Prop := fun x191_0 x191_1 =>
  (n_X6_tick_200 tk fh lh pn n rc 5 x146_1 0 dl pl dr sp le dn) ∧
  (∀ (x200e_17 : UInt64) (x200e_18 : Int32) (x200e_19 : Nat → UInt32) (x200e_20 : Nat → Int32) (x200e_21 : Nat → Int32) (x200e_22 : Nat → Int32) (x200e_23 : Nat → UInt64) (x200e_24 : Nat → Int32), (x200e_17, x200e_18, x200e_19, x200e_20, x200e_21, x200e_22, x200e_23, x200e_24) = f_X6_tick_200 tk fh lh pn rc 5 x146_1 0 dl pl dr sp le dn → ((Op.cmpValue (FP.dcmp x146_1 FP.dconst0) .l) ≤ 0) → n_X6_tick_286 ee) ∧
  (∀ (x200e_17 : UInt64) (x200e_18 : Int32) (x200e_19 : Nat → UInt32) (x200e_20 : Nat → Int32) (x200e_21 : Nat → Int32) (x200e_22 : Nat → Int32) (x200e_23 : Nat → UInt64) (x200e_24 : Nat → Int32), (x200e_17, x200e_18, x200e_19, x200e_20, x200e_21, x200e_22, x200e_23, x200e_24) = f_X6_tick_200 tk fh lh pn rc 5 x146_1 0 dl pl dr sp le dn → (¬ (Op.cmpValue (FP.dcmp x146_1 FP.dconst0) .l) ≤ 0) → ((f_X7_in (f_X6_age mo tk) 13 17) = 0) → n_X6_tick_286 ee) ∧
  (∀ (x200e_17 : UInt64) (x200e_18 : Int32) (x200e_19 : Nat → UInt32) (x200e_20 : Nat → Int32) (x200e_21 : Nat → Int32) (x200e_22 : Nat → Int32) (x200e_23 : Nat → UInt64) (x200e_24 : Nat → Int32), (x200e_17, x200e_18, x200e_19, x200e_20, x200e_21, x200e_22, x200e_23, x200e_24) = f_X6_tick_200 tk fh lh pn rc 5 x146_1 0 dl pl dr sp le dn → (¬ (Op.cmpValue (FP.dcmp x146_1 FP.dconst0) .l) ≤ 0) → (¬ (f_X7_in (f_X6_age mo tk) 13 17) = 0) → (¬ (f_X7_in (tk - tk / 48 * 48) 12 35) = 0) → n_X6_tick_286 ee) ∧
  (∀ (x200e_17 : UInt64) (x200e_18 : Int32) (x200e_19 : Nat → UInt32) (x200e_20 : Nat → Int32) (x200e_21 : Nat → Int32) (x200e_22 : Nat → Int32) (x200e_23 : Nat → UInt64) (x200e_24 : Nat → Int32), (x200e_17, x200e_18, x200e_19, x200e_20, x200e_21, x200e_22, x200e_23, x200e_24) = f_X6_tick_200 tk fh lh pn rc 5 x146_1 0 dl pl dr sp le dn → (¬ (Op.cmpValue (FP.dcmp x146_1 FP.dconst0) .l) ≤ 0) → (¬ (f_X7_in (f_X6_age mo tk) 13 17) = 0) → ((f_X7_in (tk - tk / 48 * 48) 12 35) = 0) → n_X6_tick_286 (ee + sl))
def f_X6_tick_146 (tk : Int32) (mo : Int32) (su : UInt64) (sl : Int32) (sc : Int32) (fh : Int32) (lh : Int32) (ee : Int32) (pn : Int32) (dl : Nat → UInt32) (pl : Nat → Int32) (dr : Nat → Int32) (sp : Nat → Int32) (le : Nat → UInt64) (dn : Nat → Int32) (rc : Nat → Nat → Int32) (x76_1 : UInt32) : UInt64 → UInt64 → Int32 × UInt64 × UInt32 × UInt64 × Int32 × (Nat → UInt32) × (Nat → Int32) × (Nat → Int32) × (Nat → Int32) × (Nat → UInt64) × (Nat → Int32) := fun x146_0 x146_1 =>
  if sc = 0 then (f_X6_tick_191 tk mo sl fh lh ee pn dl pl dr sp le dn rc x146_1 x146_0 x76_1) else (if (Op.cmpValue (FP.dcmp (FP.dsub x146_0 (f_X6_sea mo su tk)) FP.dconst1) .l) < 0 then (f_X6_tick_191 tk mo sl fh lh ee pn dl pl dr sp le dn rc x146_1 x146_0 x76_1) else (f_X6_tick_191 tk mo sl fh lh ee pn dl pl dr sp le dn rc x146_1 (FP.dsub x146_0 4598175219545276416) (Native.java_lang_Math.nans.pick32 true FP.fconst0 (FP.fsub x76_1 1040187392))))
def n_X6_tick_146 (tk : Int32) (mo : Int32) (su : UInt64) (sl : Int32) (sc : Int32) (fh : Int32) (lh : Int32) (ee : Int32) (pn : Int32) (dl : Nat → UInt32) (pl : Nat → Int32) (dr : Nat → Int32) (sp : Nat → Int32) (le : Nat → UInt64) (dn : Nat → Int32) (n : Nat) (rc : Nat → Nat → Int32) (x76_1 : UInt32) : UInt64 → UInt64 → Prop := fun x146_0 x146_1 =>
  ((sc = 0) → n_X6_tick_191 tk mo sl fh lh ee pn dl pl dr sp le dn n rc x146_1 x146_0 x76_1) ∧
  ((¬ sc = 0) → vf_n64 (FP.dsub x146_0 (f_X6_sea mo su tk))) ∧
  ((¬ sc = 0) → ((Op.cmpValue (FP.dcmp (FP.dsub x146_0 (f_X6_sea mo su tk)) FP.dconst1) .l) < 0) → n_X6_tick_191 tk mo sl fh lh ee pn dl pl dr sp le dn n rc x146_1 x146_0 x76_1) ∧
  ((¬ sc = 0) → (¬ (Op.cmpValue (FP.dcmp (FP.dsub x146_0 (f_X6_sea mo su tk)) FP.dconst1) .l) < 0) → vf_n64 (FP.dsub x146_0 4598175219545276416)) ∧
  ((¬ sc = 0) → (¬ (Op.cmpValue (FP.dcmp (FP.dsub x146_0 (f_X6_sea mo su tk)) FP.dconst1) .l) < 0) → vf_n32 (FP.fsub x76_1 1040187392)) ∧
  ((¬ sc = 0) → (¬ (Op.cmpValue (FP.dcmp (FP.dsub x146_0 (f_X6_sea mo su tk)) FP.dconst1) .l) < 0) → FP.fIsNaN FP.fconst0 = false) ∧
  ((¬ sc = 0) → (¬ (Op.cmpValue (FP.dcmp (FP.dsub x146_0 (f_X6_sea mo su tk)) FP.dconst1) .l) < 0) → FP.fIsNaN (FP.fsub x76_1 1040187392) = false) ∧
  ((¬ sc = 0) → (¬ (Op.cmpValue (FP.dcmp (FP.dsub x146_0 (f_X6_sea mo su tk)) FP.dconst1) .l) < 0) → n_X6_tick_191 tk mo sl fh lh ee pn dl pl dr sp le dn n rc x146_1 (FP.dsub x146_0 4598175219545276416) (Native.java_lang_Math.nans.pick32 true FP.fconst0 (FP.fsub x76_1 1040187392)))
def f_X6_tick_76 (tk : Int32) (mo : Int32) (su : UInt64) (sl : Int32) (sc : Int32) (fh : Int32) (lh : Int32) (ee : Int32) (pn : Int32) (dl : Nat → UInt32) (pl : Nat → Int32) (dr : Nat → Int32) (sp : Nat → Int32) (le : Nat → UInt64) (dn : Nat → Int32) (rc : Nat → Nat → Int32) : UInt64 → UInt32 → Int32 × UInt64 × UInt32 × UInt64 × Int32 × (Nat → UInt32) × (Nat → Int32) × (Nat → Int32) × (Nat → Int32) × (Nat → UInt64) × (Nat → Int32) := fun x76_0 x76_1 =>
  if sl ≤ 0 then (f_X6_tick_146 tk mo su sl sc fh lh ee pn dl pl dr sp le dn rc x76_1 x76_0 FP.dconst0) else (if (Op.cmpValue (FP.dcmp (FP.dsub x76_0 (Native.java_lang_Math.nans.pick64 true (f_X6_sea mo su tk) 13826050856027422720)) 4602678819172646912) .l) < 0 then (f_X6_tick_146 tk mo su sl sc fh lh ee pn dl pl dr sp le dn rc x76_1 x76_0 FP.dconst0) else (f_X6_tick_146 tk mo su sl sc fh lh ee pn dl pl dr sp le dn rc x76_1 (FP.dsub x76_0 (FP.ddiv (FP.dmul (FP.dmul (FP.i2d sl) (FP.dsub x76_0 (Native.java_lang_Math.nans.pick64 true (f_X6_sea mo su tk) 13826050856027422720))) 4598175219545276416) (f_X6_area x76_1))) (FP.dmul (FP.dmul (FP.dmul (FP.i2d sl) (FP.dsub x76_0 (Native.java_lang_Math.nans.pick64 true (f_X6_sea mo su tk) 13826050856027422720))) 4598175219545276416) (FP.dsub x76_0 (Native.java_lang_Math.nans.pick64 true (f_X6_sea mo su tk) 13826050856027422720)))))
def n_X6_tick_76 (tk : Int32) (mo : Int32) (su : UInt64) (sl : Int32) (sc : Int32) (fh : Int32) (lh : Int32) (ee : Int32) (pn : Int32) (dl : Nat → UInt32) (pl : Nat → Int32) (dr : Nat → Int32) (sp : Nat → Int32) (le : Nat → UInt64) (dn : Nat → Int32) (n : Nat) (rc : Nat → Nat → Int32) : UInt64 → UInt32 → Prop := fun x76_0 x76_1 =>
  (FP.dIsNaN (f_X6_sea mo su tk) = false) ∧
  (FP.dIsNaN 13826050856027422720 = false) ∧
  (vf_n64 (FP.dsub x76_0 (Native.java_lang_Math.nans.pick64 true (f_X6_sea mo su tk) 13826050856027422720))) ∧
  ((sl ≤ 0) → n_X6_tick_146 tk mo su sl sc fh lh ee pn dl pl dr sp le dn n rc x76_1 x76_0 FP.dconst0) ∧
  ((¬ sl ≤ 0) → ((Op.cmpValue (FP.dcmp (FP.dsub x76_0 (Native.java_lang_Math.nans.pick64 true (f_X6_sea mo su tk) 13826050856027422720)) 4602678819172646912) .l) < 0) → n_X6_tick_146 tk mo su sl sc fh lh ee pn dl pl dr sp le dn n rc x76_1 x76_0 FP.dconst0) ∧
  ((¬ sl ≤ 0) → (¬ (Op.cmpValue (FP.dcmp (FP.dsub x76_0 (Native.java_lang_Math.nans.pick64 true (f_X6_sea mo su tk) 13826050856027422720)) 4602678819172646912) .l) < 0) → vf_n64 (FP.dmul (FP.i2d sl) (FP.dsub x76_0 (Native.java_lang_Math.nans.pick64 true (f_X6_sea mo su tk) 13826050856027422720)))) ∧
  ((¬ sl ≤ 0) → (¬ (Op.cmpValue (FP.dcmp (FP.dsub x76_0 (Native.java_lang_Math.nans.pick64 true (f_X6_sea mo su tk) 13826050856027422720)) 4602678819172646912) .l) < 0) → vf_n64 (FP.dmul (FP.dmul (FP.i2d sl) (FP.dsub x76_0 (Native.java_lang_Math.nans.pick64 true (f_X6_sea mo su tk) 13826050856027422720))) 4598175219545276416)) ∧
  ((¬ sl ≤ 0) → (¬ (Op.cmpValue (FP.dcmp (FP.dsub x76_0 (Native.java_lang_Math.nans.pick64 true (f_X6_sea mo su tk) 13826050856027422720)) 4602678819172646912) .l) < 0) → n_X6_area x76_1) ∧
  ((¬ sl ≤ 0) → (¬ (Op.cmpValue (FP.dcmp (FP.dsub x76_0 (Native.java_lang_Math.nans.pick64 true (f_X6_sea mo su tk) 13826050856027422720)) 4602678819172646912) .l) < 0) → vf_n64 (FP.ddiv (FP.dmul (FP.dmul (FP.i2d sl) (FP.dsub x76_0 (Native.java_lang_Math.nans.pick64 true (f_X6_sea mo su tk) 13826050856027422720))) 4598175219545276416) (f_X6_area x76_1))) ∧
  ((¬ sl ≤ 0) → (¬ (Op.cmpValue (FP.dcmp (FP.dsub x76_0 (Native.java_lang_Math.nans.pick64 true (f_X6_sea mo su tk) 13826050856027422720)) 4602678819172646912) .l) < 0) → vf_n64 (FP.dsub x76_0 (FP.ddiv (FP.dmul (FP.dmul (FP.i2d sl) (FP.dsub x76_0 (Native.java_lang_Math.nans.pick64 true (f_X6_sea mo su tk) 13826050856027422720))) 4598175219545276416) (f_X6_area x76_1)))) ∧
  ((¬ sl ≤ 0) → (¬ (Op.cmpValue (FP.dcmp (FP.dsub x76_0 (Native.java_lang_Math.nans.pick64 true (f_X6_sea mo su tk) 13826050856027422720)) 4602678819172646912) .l) < 0) → vf_n64 (FP.dmul (FP.dmul (FP.dmul (FP.i2d sl) (FP.dsub x76_0 (Native.java_lang_Math.nans.pick64 true (f_X6_sea mo su tk) 13826050856027422720))) 4598175219545276416) (FP.dsub x76_0 (Native.java_lang_Math.nans.pick64 true (f_X6_sea mo su tk) 13826050856027422720)))) ∧
  ((¬ sl ≤ 0) → (¬ (Op.cmpValue (FP.dcmp (FP.dsub x76_0 (Native.java_lang_Math.nans.pick64 true (f_X6_sea mo su tk) 13826050856027422720)) 4602678819172646912) .l) < 0) → n_X6_tick_146 tk mo su sl sc fh lh ee pn dl pl dr sp le dn n rc x76_1 (FP.dsub x76_0 (FP.ddiv (FP.dmul (FP.dmul (FP.i2d sl) (FP.dsub x76_0 (Native.java_lang_Math.nans.pick64 true (f_X6_sea mo su tk) 13826050856027422720))) 4598175219545276416) (f_X6_area x76_1))) (FP.dmul (FP.dmul (FP.dmul (FP.i2d sl) (FP.dsub x76_0 (Native.java_lang_Math.nans.pick64 true (f_X6_sea mo su tk) 13826050856027422720))) 4598175219545276416) (FP.dsub x76_0 (Native.java_lang_Math.nans.pick64 true (f_X6_sea mo su tk) 13826050856027422720))))
def f_X6_tick (tk : Int32) (mo : Int32) (su : UInt64) (lv : UInt64) (si : UInt32) (ga : Int32) (sl : Int32) (sc : Int32) (fh : Int32) (lh : Int32) (ee : Int32) (pn : Int32) (dl : Nat → UInt32) (pl : Nat → Int32) (dr : Nat → Int32) (sp : Nat → Int32) (le : Nat → UInt64) (dn : Nat → Int32) (rc : Nat → Nat → Int32) : Int32 × UInt64 × UInt32 × UInt64 × Int32 × (Nat → UInt32) × (Nat → Int32) × (Nat → Int32) × (Nat → Int32) × (Nat → UInt64) × (Nat → Int32) :=
  if ga ≤ 0 then (f_X6_tick_76 tk mo su sl sc fh lh ee pn dl pl dr sp le dn rc lv si) else (if (Op.cmpValue (FP.dcmp (f_X6_sea mo su tk) lv) .l) ≤ 0 then (f_X6_tick_76 tk mo su sl sc fh lh ee pn dl pl dr sp le dn rc lv si) else (f_X6_tick_76 tk mo su sl sc fh lh ee pn dl pl dr sp le dn rc (FP.dadd lv (FP.ddiv (FP.dmul (FP.dmul (FP.i2d ga) (FP.dsub (f_X6_sea mo su tk) lv)) 4602678819172646912) (f_X6_area si))) (Native.java_lang_Math.nans.pick32 false 1082130432 (FP.fadd si (FP.fdiv (FP.d2f (FP.dmul (FP.dmul (FP.i2d ga) (FP.dsub (f_X6_sea mo su tk) lv)) 4602678819172646912)) 1115684864)))))
def n_X6_tick (tk : Int32) (mo : Int32) (su : UInt64) (lv : UInt64) (si : UInt32) (ga : Int32) (sl : Int32) (sc : Int32) (fh : Int32) (lh : Int32) (ee : Int32) (pn : Int32) (dl : Nat → UInt32) (pl : Nat → Int32) (dr : Nat → Int32) (sp : Nat → Int32) (le : Nat → UInt64) (dn : Nat → Int32) (n : Nat) (rc : Nat → Nat → Int32) : Prop :=
  (n_X6_sea mo su tk) ∧
  ((ga ≤ 0) → n_X6_tick_76 tk mo su sl sc fh lh ee pn dl pl dr sp le dn n rc lv si) ∧
  ((¬ ga ≤ 0) → ((Op.cmpValue (FP.dcmp (f_X6_sea mo su tk) lv) .l) ≤ 0) → n_X6_tick_76 tk mo su sl sc fh lh ee pn dl pl dr sp le dn n rc lv si) ∧
  ((¬ ga ≤ 0) → (¬ (Op.cmpValue (FP.dcmp (f_X6_sea mo su tk) lv) .l) ≤ 0) → vf_n64 (FP.dsub (f_X6_sea mo su tk) lv)) ∧
  ((¬ ga ≤ 0) → (¬ (Op.cmpValue (FP.dcmp (f_X6_sea mo su tk) lv) .l) ≤ 0) → vf_n64 (FP.dmul (FP.i2d ga) (FP.dsub (f_X6_sea mo su tk) lv))) ∧
  ((¬ ga ≤ 0) → (¬ (Op.cmpValue (FP.dcmp (f_X6_sea mo su tk) lv) .l) ≤ 0) → vf_n64 (FP.dmul (FP.dmul (FP.i2d ga) (FP.dsub (f_X6_sea mo su tk) lv)) 4602678819172646912)) ∧
  ((¬ ga ≤ 0) → (¬ (Op.cmpValue (FP.dcmp (f_X6_sea mo su tk) lv) .l) ≤ 0) → n_X6_area si) ∧
  ((¬ ga ≤ 0) → (¬ (Op.cmpValue (FP.dcmp (f_X6_sea mo su tk) lv) .l) ≤ 0) → vf_n64 (FP.ddiv (FP.dmul (FP.dmul (FP.i2d ga) (FP.dsub (f_X6_sea mo su tk) lv)) 4602678819172646912) (f_X6_area si))) ∧
  ((¬ ga ≤ 0) → (¬ (Op.cmpValue (FP.dcmp (f_X6_sea mo su tk) lv) .l) ≤ 0) → vf_n64 (FP.dadd lv (FP.ddiv (FP.dmul (FP.dmul (FP.i2d ga) (FP.dsub (f_X6_sea mo su tk) lv)) 4602678819172646912) (f_X6_area si)))) ∧
  ((¬ ga ≤ 0) → (¬ (Op.cmpValue (FP.dcmp (f_X6_sea mo su tk) lv) .l) ≤ 0) → vf_n32 (FP.d2f (FP.dmul (FP.dmul (FP.i2d ga) (FP.dsub (f_X6_sea mo su tk) lv)) 4602678819172646912))) ∧
  ((¬ ga ≤ 0) → (¬ (Op.cmpValue (FP.dcmp (f_X6_sea mo su tk) lv) .l) ≤ 0) → vf_n32 (FP.fdiv (FP.d2f (FP.dmul (FP.dmul (FP.i2d ga) (FP.dsub (f_X6_sea mo su tk) lv)) 4602678819172646912)) 1115684864)) ∧
  ((¬ ga ≤ 0) → (¬ (Op.cmpValue (FP.dcmp (f_X6_sea mo su tk) lv) .l) ≤ 0) → vf_n32 (FP.fadd si (FP.fdiv (FP.d2f (FP.dmul (FP.dmul (FP.i2d ga) (FP.dsub (f_X6_sea mo su tk) lv)) 4602678819172646912)) 1115684864))) ∧
  ((¬ ga ≤ 0) → (¬ (Op.cmpValue (FP.dcmp (f_X6_sea mo su tk) lv) .l) ≤ 0) → FP.fIsNaN 1082130432 = false) ∧
  ((¬ ga ≤ 0) → (¬ (Op.cmpValue (FP.dcmp (f_X6_sea mo su tk) lv) .l) ≤ 0) → FP.fIsNaN (FP.fadd si (FP.fdiv (FP.d2f (FP.dmul (FP.dmul (FP.i2d ga) (FP.dsub (f_X6_sea mo su tk) lv)) 4602678819172646912)) 1115684864)) = false) ∧
  ((¬ ga ≤ 0) → (¬ (Op.cmpValue (FP.dcmp (f_X6_sea mo su tk) lv) .l) ≤ 0) → n_X6_tick_76 tk mo su sl sc fh lh ee pn dl pl dr sp le dn n rc (FP.dadd lv (FP.ddiv (FP.dmul (FP.dmul (FP.i2d ga) (FP.dsub (f_X6_sea mo su tk) lv)) 4602678819172646912) (f_X6_area si))) (Native.java_lang_Math.nans.pick32 false 1082130432 (FP.fadd si (FP.fdiv (FP.d2f (FP.dmul (FP.dmul (FP.i2d ga) (FP.dsub (f_X6_sea mo su tk) lv)) 4602678819172646912)) 1115684864))))
def n_X6_copy (sc : Int32) (dn : Nat → Int32) : Prop :=
  (tm_bool sc) ∧
  (∀ j : Nat, tm_bool (dn j))
def f_X7_thrown (th : Int32) : Int32 :=
  th
def f_X7_no (p1 : Int32) : Int32 × Int32 :=
  (0, p1)
def f_X7_isPair (pn : Int32) (p1 : Int32) : Int32 :=
  f_X7_in p1 0 (pn - 1)
def n_X7_isPair (pn : Int32) (p1 : Int32) : Prop :=
  (tm_bool (f_X7_in p1 0 (pn - 1)))
def f_X7_isLot (p1 : Int32) (n : Nat) : Int32 :=
  f_X7_in p1 0 ((f_Jx4a65c_size_8abf5 (nI n)) - 1)
def n_X7_isLot (p1 : Int32) (n : Nat) : Prop :=
  (tm_bool (f_X7_in p1 0 ((f_Jx4a65c_size_8abf5 (nI n)) - 1)))
def f_X7_count_4 (p1 : Int32) (n : Nat) (rc : Nat → Nat → Int32) : Nat → Int32 → Int32 → Int32
  | 0, x4_0, x4_1 => 0
  | fuel + 1, x4_0, x4_1 => if (f_Jx4a65c_size_8abf5 (nI n)) ≤ x4_1 then x4_0 else (if (rc x4_1.toNatClampNeg (4 : Int32).toNatClampNeg) = p1 then (f_X7_count_4 p1 n rc fuel (x4_0 + 1) (x4_1 + 1)) else (f_X7_count_4 p1 n rc fuel (x4_0 + 0) (x4_1 + 1)))
def n_X7_count_4 (p1 : Int32) (n : Nat) (rc : Nat → Nat → Int32) : Nat → Int32 → Int32 → Prop
  | 0, x4_0, x4_1 => False
  | fuel + 1, x4_0, x4_1 => ((¬ (f_Jx4a65c_size_8abf5 (nI n)) ≤ x4_1) → n_Jx4a65c_get_915e3 x4_1 n) ∧
  ((¬ (f_Jx4a65c_size_8abf5 (nI n)) ≤ x4_1) → vp_in x4_1 n) ∧
  ((¬ (f_Jx4a65c_size_8abf5 (nI n)) ≤ x4_1) → vp_in 4 5) ∧
  ((¬ (f_Jx4a65c_size_8abf5 (nI n)) ≤ x4_1) → (¬ (rc x4_1.toNatClampNeg (4 : Int32).toNatClampNeg) = p1) → n_X7_count_4 p1 n rc fuel (x4_0 + 0) (x4_1 + 1)) ∧
  ((¬ (f_Jx4a65c_size_8abf5 (nI n)) ≤ x4_1) → ((rc x4_1.toNatClampNeg (4 : Int32).toNatClampNeg) = p1) → n_X7_count_4 p1 n rc fuel (x4_0 + 1) (x4_1 + 1))
def f_X7_count (p1 : Int32) (n : Nat) (rc : Nat → Nat → Int32) : Int32 :=
  f_X7_count_4 p1 n rc 12 0 0
def n_X7_count (p1 : Int32) (n : Nat) (rc : Nat → Nat → Int32) : Prop :=
  (n_X7_count_4 p1 n rc 12 0 0)
def f_X7_settle_2 (dn : Nat → Int32) (n : Nat) : Nat → Int32 → (Nat → Nat → Int32) → (Nat → Nat → Int32)
  | 0, x2_0, x2_1 => x2_1
  | fuel + 1, x2_0, x2_1 => if (f_Jx4a65c_size_8abf5 (nI n)) ≤ x2_0 then x2_1 else (if (dn x2_0.toNatClampNeg) = 0 then (f_X7_settle_2 dn n fuel (x2_0 + 1) x2_1) else (if (x2_1 x2_0.toNatClampNeg (4 : Int32).toNatClampNeg) = 1 then (f_X7_settle_2 dn n fuel (x2_0 + 1) (vf_upd x2_1 x2_0.toNatClampNeg (upd (x2_1 x2_0.toNatClampNeg) (4 : Int32).toNatClampNeg 2))) else (f_X7_settle_2 dn n fuel (x2_0 + 1) x2_1)))
def n_X7_settle_2 (dn : Nat → Int32) (n : Nat) : Nat → Int32 → (Nat → Nat → Int32) → Prop
  | 0, x2_0, x2_1 => False
  | fuel + 1, x2_0, x2_1 => ((¬ (f_Jx4a65c_size_8abf5 (nI n)) ≤ x2_0) → vp_in x2_0 10) ∧
  ((¬ (f_Jx4a65c_size_8abf5 (nI n)) ≤ x2_0) → ((dn x2_0.toNatClampNeg) = 0) → n_X7_settle_2 dn n fuel (x2_0 + 1) x2_1) ∧
  ((¬ (f_Jx4a65c_size_8abf5 (nI n)) ≤ x2_0) → (¬ (dn x2_0.toNatClampNeg) = 0) → n_Jx4a65c_get_915e3 x2_0 n) ∧
  ((¬ (f_Jx4a65c_size_8abf5 (nI n)) ≤ x2_0) → (¬ (dn x2_0.toNatClampNeg) = 0) → vp_in x2_0 n) ∧
  ((¬ (f_Jx4a65c_size_8abf5 (nI n)) ≤ x2_0) → (¬ (dn x2_0.toNatClampNeg) = 0) → vp_in 4 5) ∧
  ((¬ (f_Jx4a65c_size_8abf5 (nI n)) ≤ x2_0) → (¬ (dn x2_0.toNatClampNeg) = 0) → (¬ (x2_1 x2_0.toNatClampNeg (4 : Int32).toNatClampNeg) = 1) → n_X7_settle_2 dn n fuel (x2_0 + 1) x2_1) ∧
  ((¬ (f_Jx4a65c_size_8abf5 (nI n)) ≤ x2_0) → (¬ (dn x2_0.toNatClampNeg) = 0) → ((x2_1 x2_0.toNatClampNeg (4 : Int32).toNatClampNeg) = 1) → n_X7_settle_2 dn n fuel (x2_0 + 1) (vf_upd x2_1 x2_0.toNatClampNeg (upd (x2_1 x2_0.toNatClampNeg) (4 : Int32).toNatClampNeg 2)))
def f_X7_settle (dn : Nat → Int32) (n : Nat) (rc : Nat → Nat → Int32) : (Nat → Nat → Int32) :=
  f_X7_settle_2 dn n 12 0 rc
def n_X7_settle (dn : Nat → Int32) (n : Nat) (rc : Nat → Nat → Int32) : Prop :=
  (n_X7_settle_2 dn n 12 0 rc)
def f_X7_moon (tk : Int32) (mo : Int32) (p1 : Int32) : Int32 × Int32 × Int32 :=
  if (f_X7_in p1 0 29) = 0 then (match f_X7_no 1 with | (r_4, u_5) => (r_4, u_5, mo)) else (f_X6_age p1 tk, 0, p1)
def f_X7_surge (tk : Int32) (mo : Int32) (su : UInt64) (p1 : Int32) : UInt64 × Int32 × UInt64 :=
  if (f_X7_in p1 (-8) 8) = 0 then (match f_X7_no 1 with | (r_6, u_7) => (FP.i2d r_6, u_7, su)) else (f_X6_sea mo (FP.ddiv (FP.i2d p1) 4616189618054758400) tk, 0, FP.ddiv (FP.i2d p1) 4616189618054758400)
def n_X7_surge (tk : Int32) (mo : Int32) (p1 : Int32) : Prop :=
  ((¬ (f_X7_in p1 (-8) 8) = 0) → vf_n64 (FP.ddiv (FP.i2d p1) 4616189618054758400)) ∧
  ((¬ (f_X7_in p1 (-8) 8) = 0) → n_X6_sea mo (FP.ddiv (FP.i2d p1) 4616189618054758400) tk)
def f_X7_gates (lk : Int32) (ga : Int32) (p1 : Int32) : Int32 × Int32 × Int32 :=
  if (f_X7_in p1 0 3) = 0 then (match f_X7_no 1 with | (r_6, u_7) => (r_6, u_7, ga)) else (if lk = 0 then (ga, 0, p1) else (match f_X7_no 2 with | (r_4, u_5) => (r_4, u_5, ga)))
def f_X7_sluice (sl : Int32) (p1 : Int32) : Int32 × Int32 × Int32 :=
  if (f_X7_in p1 0 4) = 0 then (match f_X7_no 1 with | (r_3, u_4) => (r_3, u_4, sl)) else (sl, 0, p1)
def f_X7_scour (sc : Int32) (p1 : Int32) : Int32 × Int32 × Int32 :=
  (sc, 0, p1)
def n_X7_scour (sc : Int32) (p1 : Int32) : Prop :=
  (tm_bool p1) ∧
  (tm_bool sc)
def f_X7_hours (tk : Int32) (fh : Int32) (lh : Int32) (p1 : Int32) (p2 : Int32) : Int32 × Int32 × Int32 × Int32 :=
  if (f_X7_in p1 0 47) = 0 then (match f_X7_no 1 with | (r_3, u_4) => if r_3 ≤ 0 then (0, u_4, fh, lh) else (1, u_4, fh, lh)) else (if (f_X7_in p2 0 47) = 0 then (match f_X7_no 1 with | (r_10, u_11) => if r_10 ≤ 0 then (0, u_11, fh, lh) else (1, u_11, fh, lh)) else (f_X6_isAwake tk p1 p2, 0, p1, p2))
def n_X7_hours (tk : Int32) (p1 : Int32) (p2 : Int32) : Prop :=
  ((¬ (f_X7_in p1 0 47) = 0) → (¬ (f_X7_in p2 0 47) = 0) → tm_bool (f_X6_isAwake tk p1 p2))
def f_X7_lock (lk : Int32) (p1 : Int32) : Int32 × Int32 × Int32 :=
  (lk, 0, p1)
def n_X7_lock (lk : Int32) (p1 : Int32) : Prop :=
  (tm_bool p1) ∧
  (tm_bool lk)
def f_X7_bell (rf : Int32) : Int32 × Int32 × Int32 :=
  (rf + 1, 0, rf + 1)
def f_X7_pair (pn : Int32) (pl : Nat → Int32) : Int32 × Int32 × Int32 × (Nat → Int32) :=
  if pn = 3 then (match f_X7_no 1 with | (r_3, u_4) => (r_3, u_4, pn, pl)) else ((pn + 1) - 1, 0, pn + 1, upd pl pn.toNatClampNeg (-1))
def n_X7_pair (pn : Int32) : Prop :=
  ((¬ pn = 3) → vp_in pn 3)
def f_X7_feed (pn : Int32) (pl : Nat → Int32) (dr : Nat → Int32) (p1 : Int32) (p2 : Int32) (n : Nat) (rc : Nat → Nat → Int32) : Int32 × (Nat → Nat → Int32) × Int32 × (Nat → Int32) :=
  if (f_X7_isPair pn p1) = 0 then (match f_X7_no 1 with | (r_4, u_5) => (r_4, rc, u_5, pl)) else (if (f_X7_isLot p2 n) = 0 then (match f_X7_no 1 with | (r_26, u_27) => (r_26, rc, u_27, pl)) else (if (rc p2.toNatClampNeg (4 : Int32).toNatClampNeg) = 0 then (if (pl p1.toNatClampNeg) = (-1) then (if (dr p1.toNatClampNeg) ≤ 0 then (f_X7_count 0 n (vf_upd rc p2.toNatClampNeg (upd (rc p2.toNatClampNeg) (4 : Int32).toNatClampNeg 1)), vf_upd rc p2.toNatClampNeg (upd (rc p2.toNatClampNeg) (4 : Int32).toNatClampNeg 1), 0, upd pl p1.toNatClampNeg p2) else (match f_X7_no 2 with | (r_24, u_25) => (r_24, rc, u_25, pl))) else (match f_X7_no 2 with | (r_18, u_19) => (r_18, rc, u_19, pl))) else (match f_X7_no 2 with | (r_14, u_15) => (r_14, rc, u_15, pl))))
def n_X7_feed (pn : Int32) (pl : Nat → Int32) (dr : Nat → Int32) (p1 : Int32) (p2 : Int32) (n : Nat) (rc : Nat → Nat → Int32) : Prop :=
  (n_X7_isPair pn p1) ∧
  ((¬ (f_X7_isPair pn p1) = 0) → n_X7_isLot p2 n) ∧
  ((¬ (f_X7_isPair pn p1) = 0) → (¬ (f_X7_isLot p2 n) = 0) → n_Jx4a65c_get_915e3 p2 n) ∧
  ((¬ (f_X7_isPair pn p1) = 0) → (¬ (f_X7_isLot p2 n) = 0) → vp_in p2 n) ∧
  ((¬ (f_X7_isPair pn p1) = 0) → (¬ (f_X7_isLot p2 n) = 0) → vp_in 4 5) ∧
  ((¬ (f_X7_isPair pn p1) = 0) → (¬ (f_X7_isLot p2 n) = 0) → ((rc p2.toNatClampNeg (4 : Int32).toNatClampNeg) = 0) → vp_in p1 3) ∧
  ((¬ (f_X7_isPair pn p1) = 0) → (¬ (f_X7_isLot p2 n) = 0) → ((rc p2.toNatClampNeg (4 : Int32).toNatClampNeg) = 0) → ((pl p1.toNatClampNeg) = (-1)) → ((dr p1.toNatClampNeg) ≤ 0) → n_X7_count 0 n (vf_upd rc p2.toNatClampNeg (upd (rc p2.toNatClampNeg) (4 : Int32).toNatClampNeg 1)))
def f_X7_take (pn : Int32) (pl : Nat → Int32) (p1 : Int32) (rc : Nat → Nat → Int32) : Int32 × (Nat → Nat → Int32) × Int32 × (Nat → Int32) :=
  if (f_X7_isPair pn p1) = 0 then (match f_X7_no 1 with | (r_12, u_13) => (r_12, rc, u_13, pl)) else (if (pl p1.toNatClampNeg) = (-1) then (match f_X7_no 2 with | (r_10, u_11) => (r_10, rc, u_11, pl)) else (pl p1.toNatClampNeg, vf_upd rc ((pl p1.toNatClampNeg).toNatClampNeg) (upd (rc ((pl p1.toNatClampNeg).toNatClampNeg)) (4 : Int32).toNatClampNeg 0), 0, upd pl p1.toNatClampNeg (-1)))
def n_X7_take (pn : Int32) (pl : Nat → Int32) (p1 : Int32) (n : Nat) : Prop :=
  (n_X7_isPair pn p1) ∧
  ((¬ (f_X7_isPair pn p1) = 0) → vp_in p1 3) ∧
  ((¬ (f_X7_isPair pn p1) = 0) → (¬ (pl p1.toNatClampNeg) = (-1)) → n_Jx4a65c_get_915e3 (pl p1.toNatClampNeg) n) ∧
  ((¬ (f_X7_isPair pn p1) = 0) → (¬ (pl p1.toNatClampNeg) = (-1)) → vp_in (pl p1.toNatClampNeg) n) ∧
  ((¬ (f_X7_isPair pn p1) = 0) → (¬ (pl p1.toNatClampNeg) = (-1)) → vp_in 4 5)
def f_X7_give (pu : Int32) (tl : UInt64) (tk : Int32) (p1 : Int32) (n : Nat) (rc : Nat → Nat → Int32) : Int32 × (Nat → Nat → Int32) × Int32 × Int32 × UInt64 :=
  if (f_X7_isLot p1 n) = 0 then (match f_X7_no 1 with | (r_16, u_17) => (r_16, rc, u_17, pu, tl)) else (if (rc p1.toNatClampNeg (4 : Int32).toNatClampNeg) = 2 then (((((vf_upd rc p1.toNatClampNeg (upd (rc p1.toNatClampNeg) (4 : Int32).toNatClampNeg 3)) p1.toNatClampNeg (2 : Int32).toNatClampNeg) * (3 - ((vf_upd rc p1.toNatClampNeg (upd (rc p1.toNatClampNeg) (4 : Int32).toNatClampNeg 3)) p1.toNatClampNeg (1 : Int32).toNatClampNeg))) / 4) - (if 0 < ((tk / 48) - ((vf_upd rc p1.toNatClampNeg (upd (rc p1.toNatClampNeg) (4 : Int32).toNatClampNeg 3)) p1.toNatClampNeg (3 : Int32).toNatClampNeg)) then ((tk / 48) - ((vf_upd rc p1.toNatClampNeg (upd (rc p1.toNatClampNeg) (4 : Int32).toNatClampNeg 3)) p1.toNatClampNeg (3 : Int32).toNatClampNeg)) else 0), vf_upd rc p1.toNatClampNeg (upd (rc p1.toNatClampNeg) (4 : Int32).toNatClampNeg 3), 0, pu + (((((vf_upd rc p1.toNatClampNeg (upd (rc p1.toNatClampNeg) (4 : Int32).toNatClampNeg 3)) p1.toNatClampNeg (2 : Int32).toNatClampNeg) * (3 - ((vf_upd rc p1.toNatClampNeg (upd (rc p1.toNatClampNeg) (4 : Int32).toNatClampNeg 3)) p1.toNatClampNeg (1 : Int32).toNatClampNeg))) / 4) - (if 0 < ((tk / 48) - ((vf_upd rc p1.toNatClampNeg (upd (rc p1.toNatClampNeg) (4 : Int32).toNatClampNeg 3)) p1.toNatClampNeg (3 : Int32).toNatClampNeg)) then ((tk / 48) - ((vf_upd rc p1.toNatClampNeg (upd (rc p1.toNatClampNeg) (4 : Int32).toNatClampNeg 3)) p1.toNatClampNeg (3 : Int32).toNatClampNeg)) else 0)), FP.dadd tl (FP.ddiv (FP.i2d ((vf_upd rc p1.toNatClampNeg (upd (rc p1.toNatClampNeg) (4 : Int32).toNatClampNeg 3)) p1.toNatClampNeg (2 : Int32).toNatClampNeg)) 4625196817309499392)) else (match f_X7_no 2 with | (r_14, u_15) => (r_14, rc, u_15, pu, tl)))
def n_X7_give (tl : UInt64) (p1 : Int32) (n : Nat) (rc : Nat → Nat → Int32) : Prop :=
  (n_X7_isLot p1 n) ∧
  ((¬ (f_X7_isLot p1 n) = 0) → n_Jx4a65c_get_915e3 p1 n) ∧
  ((¬ (f_X7_isLot p1 n) = 0) → vp_in p1 n) ∧
  ((¬ (f_X7_isLot p1 n) = 0) → vp_in 4 5) ∧
  ((¬ (f_X7_isLot p1 n) = 0) → ((rc p1.toNatClampNeg (4 : Int32).toNatClampNeg) = 2) → vp_in 2 5) ∧
  ((¬ (f_X7_isLot p1 n) = 0) → ((rc p1.toNatClampNeg (4 : Int32).toNatClampNeg) = 2) → vf_n64 (FP.ddiv (FP.i2d ((vf_upd rc p1.toNatClampNeg (upd (rc p1.toNatClampNeg) (4 : Int32).toNatClampNeg 3)) p1.toNatClampNeg (2 : Int32).toNatClampNeg)) 4625196817309499392)) ∧
  ((¬ (f_X7_isLot p1 n) = 0) → ((rc p1.toNatClampNeg (4 : Int32).toNatClampNeg) = 2) → vf_n64 (FP.dadd tl (FP.ddiv (FP.i2d ((vf_upd rc p1.toNatClampNeg (upd (rc p1.toNatClampNeg) (4 : Int32).toNatClampNeg 3)) p1.toNatClampNeg (2 : Int32).toNatClampNeg)) 4625196817309499392))) ∧
  ((¬ (f_X7_isLot p1 n) = 0) → ((rc p1.toNatClampNeg (4 : Int32).toNatClampNeg) = 2) → vp_in 1 5) ∧
  ((¬ (f_X7_isLot p1 n) = 0) → ((rc p1.toNatClampNeg (4 : Int32).toNatClampNeg) = 2) → vp_in 3 5)
def f_X7_pass_44 (mo : Int32) (su : UInt64) (ga : Int32) (sl : Int32) (sc : Int32) (fh : Int32) (lh : Int32) (pn : Int32) (p1 : Int32) (rc : Nat → Nat → Int32) : Nat → Int32 → (Nat → UInt32) → (Nat → Int32) → (Nat → Int32) → (Nat → Int32) → (Nat → UInt64) → (Nat → Int32) → Int32 → UInt64 → UInt32 → UInt64 → Int32 → Int32 × (Nat → UInt32) × (Nat → Int32) × (Nat → Int32) × (Nat → Int32) × (Nat → UInt64) × (Nat → Int32) × Int32 × UInt64 × UInt32 × UInt64 × Int32
  | 0, x44_0, x44_1, x44_2, x44_3, x44_4, x44_5, x44_6, x44_7, x44_8, x44_9, x44_10, x44_11 => (x44_0, x44_1, x44_2, x44_3, x44_4, x44_5, x44_6, x44_7, x44_8, x44_9, x44_10, x44_11)
  | fuel + 1, x44_0, x44_1, x44_2, x44_3, x44_4, x44_5, x44_6, x44_7, x44_8, x44_9, x44_10, x44_11 => if p1 ≤ x44_0 then (x44_0, x44_1, x44_2, x44_3, x44_4, x44_5, x44_6, x44_7, x44_8, x44_9, x44_10, x44_11) else (match f_X6_tick x44_7 mo su x44_8 x44_9 ga sl sc fh lh x44_11 pn x44_1 x44_2 x44_3 x44_4 x44_5 x44_6 rc with | (u_7, u_8, u_9, u_10, u_11, u_12, u_13, u_14, u_15, u_16, u_17) => f_X7_pass_44 mo su ga sl sc fh lh pn p1 rc fuel (x44_0 + 1) u_12 u_13 u_14 u_15 u_16 u_17 u_7 u_8 u_9 u_10 u_11)
def n_X7_pass_44 (mo : Int32) (su : UInt64) (ga : Int32) (sl : Int32) (sc : Int32) (fh : Int32) (lh : Int32) (pn : Int32) (p1 : Int32) (n : Nat) (rc : Nat → Nat → Int32) : Nat → Int32 → (Nat → UInt32) → (Nat → Int32) → (Nat → Int32) → (Nat → Int32) → (Nat → UInt64) → (Nat → Int32) → Int32 → UInt64 → UInt32 → UInt64 → Int32 → Prop
  | 0, x44_0, x44_1, x44_2, x44_3, x44_4, x44_5, x44_6, x44_7, x44_8, x44_9, x44_10, x44_11 => False
  | fuel + 1, x44_0, x44_1, x44_2, x44_3, x44_4, x44_5, x44_6, x44_7, x44_8, x44_9, x44_10, x44_11 => ((¬ p1 ≤ x44_0) → n_X6_tick x44_7 mo su x44_8 x44_9 ga sl sc fh lh x44_11 pn x44_1 x44_2 x44_3 x44_4 x44_5 x44_6 n rc) ∧
  ((¬ p1 ≤ x44_0) → ∀ (u_7 : Int32) (u_8 : UInt64) (u_9 : UInt32) (u_10 : UInt64) (u_11 : Int32) (u_12 : Nat → UInt32) (u_13 : Nat → Int32) (u_14 : Nat → Int32) (u_15 : Nat → Int32) (u_16 : Nat → UInt64) (u_17 : Nat → Int32), (u_7, u_8, u_9, u_10, u_11, u_12, u_13, u_14, u_15, u_16, u_17) = f_X6_tick x44_7 mo su x44_8 x44_9 ga sl sc fh lh x44_11 pn x44_1 x44_2 x44_3 x44_4 x44_5 x44_6 rc → n_X7_pass_44 mo su ga sl sc fh lh pn p1 n rc fuel (x44_0 + 1) u_12 u_13 u_14 u_15 u_16 u_17 u_7 u_8 u_9 u_10 u_11)
def f_X7_pass (tk : Int32) (mo : Int32) (su : UInt64) (lv : UInt64) (si : UInt32) (ga : Int32) (sl : Int32) (sc : Int32) (fh : Int32) (lh : Int32) (fo : UInt64) (ee : Int32) (pn : Int32) (dl : Nat → UInt32) (pl : Nat → Int32) (dr : Nat → Int32) (sp : Nat → Int32) (le : Nat → UInt64) (dn : Nat → Int32) (p1 : Int32) (n : Nat) (rc : Nat → Nat → Int32) : Int32 × (Nat → Nat → Int32) × Int32 × Int32 × UInt64 × UInt32 × UInt64 × Int32 × (Nat → UInt32) × (Nat → Int32) × (Nat → Int32) × (Nat → Int32) × (Nat → UInt64) × (Nat → Int32) :=
  if (f_X7_in p1 1 100) = 0 then (match f_X7_no 1 with | (r_39, u_40) => (r_39, rc, u_40, tk, lv, si, fo, ee, dl, pl, dr, sp, le, dn)) else (if (tk + p1) ≤ 5000 then (match f_X7_pass_44 mo su ga sl sc fh lh pn p1 rc 102 0 dl pl dr sp le dn tk lv si fo ee with | (x44e_20, x44e_21, x44e_22, x44e_23, x44e_24, x44e_25, x44e_26, x44e_27, x44e_28, x44e_29, x44e_30, x44e_31) => (f_X7_count 2 n (f_X7_settle x44e_26 n rc), f_X7_settle x44e_26 n rc, 0, x44e_27, x44e_28, x44e_29, x44e_30, x44e_31, x44e_21, x44e_22, x44e_23, x44e_24, x44e_25, x44e_26)) else (match f_X7_no 2 with | (r_37, u_38) => (r_37, rc, u_38, tk, lv, si, fo, ee, dl, pl, dr, sp, le, dn)))
def n_X7_pass (tk : Int32) (mo : Int32) (su : UInt64) (lv : UInt64) (si : UInt32) (ga : Int32) (sl : Int32) (sc : Int32) (fh : Int32) (lh : Int32) (fo : UInt64) (ee : Int32) (pn : Int32) (dl : Nat → UInt32) (pl : Nat → Int32) (dr : Nat → Int32) (sp : Nat → Int32) (le : Nat → UInt64) (dn : Nat → Int32) (p1 : Int32) (n : Nat) (rc : Nat → Nat → Int32) : Prop :=
  ((¬ (f_X7_in p1 1 100) = 0) → ((tk + p1) ≤ 5000) → n_X7_pass_44 mo su ga sl sc fh lh pn p1 n rc 102 0 dl pl dr sp le dn tk lv si fo ee) ∧
  ((¬ (f_X7_in p1 1 100) = 0) → ((tk + p1) ≤ 5000) → ∀ (x44e_20 : Int32) (x44e_21 : Nat → UInt32) (x44e_22 : Nat → Int32) (x44e_23 : Nat → Int32) (x44e_24 : Nat → Int32) (x44e_25 : Nat → UInt64) (x44e_26 : Nat → Int32) (x44e_27 : Int32) (x44e_28 : UInt64) (x44e_29 : UInt32) (x44e_30 : UInt64) (x44e_31 : Int32), (x44e_20, x44e_21, x44e_22, x44e_23, x44e_24, x44e_25, x44e_26, x44e_27, x44e_28, x44e_29, x44e_30, x44e_31) = f_X7_pass_44 mo su ga sl sc fh lh pn p1 rc 102 0 dl pl dr sp le dn tk lv si fo ee → n_X7_settle x44e_26 n rc) ∧
  ((¬ (f_X7_in p1 1 100) = 0) → ((tk + p1) ≤ 5000) → ∀ (x44e_20 : Int32) (x44e_21 : Nat → UInt32) (x44e_22 : Nat → Int32) (x44e_23 : Nat → Int32) (x44e_24 : Nat → Int32) (x44e_25 : Nat → UInt64) (x44e_26 : Nat → Int32) (x44e_27 : Int32) (x44e_28 : UInt64) (x44e_29 : UInt32) (x44e_30 : UInt64) (x44e_31 : Int32), (x44e_20, x44e_21, x44e_22, x44e_23, x44e_24, x44e_25, x44e_26, x44e_27, x44e_28, x44e_29, x44e_30, x44e_31) = f_X7_pass_44 mo su ga sl sc fh lh pn p1 rc 102 0 dl pl dr sp le dn tk lv si fo ee → n_X7_count 2 n (f_X7_settle x44e_26 n rc))
def f_X7_sea (tk : Int32) (mo : Int32) (su : UInt64) (p1 : Int32) : UInt64 × Int32 :=
  if (f_X7_in p1 0 1000) = 0 then (match f_X7_no 1 with | (r_5, u_6) => (FP.i2d r_5, u_6)) else (f_X6_sea mo su (tk + p1), 0)
def n_X7_sea (tk : Int32) (mo : Int32) (su : UInt64) (p1 : Int32) : Prop :=
  ((¬ (f_X7_in p1 0 1000) = 0) → n_X6_sea mo su (tk + p1))
def f_X7_pondNow (tl : UInt64) (tk : Int32) (mo : Int32) (lv : UInt64) (si : UInt32) (fo : UInt64) (p1 : Int32) : UInt64 :=
  if p1 = 0 then lv else (if p1 = 1 then (FP.f2d si) else (if p1 = 2 then (f_X6_area si) else (if p1 = 3 then fo else (if p1 = 4 then tl else (f_X6_range mo tk)))))
def n_X7_pondNow (tk : Int32) (mo : Int32) (si : UInt32) (p1 : Int32) : Prop :=
  ((¬ p1 = 0) → (p1 = 1) → vf_n64 (FP.f2d si)) ∧
  ((¬ p1 = 0) → (¬ p1 = 1) → (p1 = 2) → n_X6_area si) ∧
  ((¬ p1 = 0) → (¬ p1 = 1) → (¬ p1 = 2) → (¬ p1 = 3) → (¬ p1 = 4) → n_X6_range mo tk)
def f_X7_pond (tl : UInt64) (tk : Int32) (mo : Int32) (lv : UInt64) (si : UInt32) (fo : UInt64) (p1 : Int32) : UInt64 × Int32 :=
  if (f_X7_in p1 0 5) = 0 then (match f_X7_no 1 with | (r_5, u_6) => (FP.i2d r_5, u_6)) else (f_X7_pondNow tl tk mo lv si fo p1, 0)
def n_X7_pond (tk : Int32) (mo : Int32) (si : UInt32) (p1 : Int32) : Prop :=
  ((¬ (f_X7_in p1 0 5) = 0) → n_X7_pondNow tk mo si p1)
def f_X7_pairNow (pl : Nat → Int32) (dr : Nat → Int32) (sp : Nat → Int32) (p1 : Int32) (p2 : Int32) : Int32 :=
  if p2 = 0 then (pl p1.toNatClampNeg) else (if p2 = 1 then (dr p1.toNatClampNeg) else (sp p1.toNatClampNeg))
def n_X7_pairNow (p1 : Int32) (p2 : Int32) : Prop :=
  ((¬ p2 = 0) → (¬ p2 = 1) → vp_in p1 3) ∧
  ((¬ p2 = 0) → (p2 = 1) → vp_in p1 3) ∧
  ((p2 = 0) → vp_in p1 3)
def f_X7_ofPair (pn : Int32) (pl : Nat → Int32) (dr : Nat → Int32) (sp : Nat → Int32) (p1 : Int32) (p2 : Int32) : Int32 × Int32 :=
  if (f_X7_isPair pn p1) = 0 then (match f_X7_no 1 with | (r_10, u_11) => (r_10, u_11)) else (if (f_X7_in p2 0 2) = 0 then (match f_X7_no 2 with | (r_8, u_9) => (r_8, u_9)) else (f_X7_pairNow pl dr sp p1 p2, 0))
def n_X7_ofPair (pn : Int32) (p1 : Int32) (p2 : Int32) : Prop :=
  (n_X7_isPair pn p1) ∧
  ((¬ (f_X7_isPair pn p1) = 0) → (¬ (f_X7_in p2 0 2) = 0) → n_X7_pairNow p1 p2)
def f_X7_dull (pn : Int32) (dl : Nat → UInt32) (p1 : Int32) : UInt64 × Int32 :=
  if (f_X7_isPair pn p1) = 0 then (match f_X7_no 1 with | (r_6, u_7) => (FP.i2d r_6, u_7)) else (FP.f2d (dl p1.toNatClampNeg), 0)
def n_X7_dull (pn : Int32) (dl : Nat → UInt32) (p1 : Int32) : Prop :=
  (n_X7_isPair pn p1) ∧
  ((¬ (f_X7_isPair pn p1) = 0) → vp_in p1 3) ∧
  ((¬ (f_X7_isPair pn p1) = 0) → vf_n64 (FP.f2d (dl p1.toNatClampNeg)))
def f_X7_lotNow (pn : Int32) (pl : Nat → Int32) (p1 : Int32) (p2 : Int32) (rc : Nat → Nat → Int32) : Int32 :=
  if p2 = 5 then (f_X6_pairOf pn pl p1) else (rc p1.toNatClampNeg p2.toNatClampNeg)
def n_X7_lotNow (pn : Int32) (pl : Nat → Int32) (p1 : Int32) (p2 : Int32) (n : Nat) : Prop :=
  ((¬ p2 = 5) → n_Jx4a65c_get_915e3 p1 n) ∧
  ((¬ p2 = 5) → vp_in p1 n) ∧
  ((¬ p2 = 5) → vp_in p2 5) ∧
  ((p2 = 5) → n_X6_pairOf pn pl p1)
def f_X7_ofLot (pn : Int32) (pl : Nat → Int32) (p1 : Int32) (p2 : Int32) (n : Nat) (rc : Nat → Nat → Int32) : Int32 × Int32 :=
  if (f_X7_isLot p1 n) = 0 then (match f_X7_no 1 with | (r_10, u_11) => (r_10, u_11)) else (if (f_X7_in p2 0 5) = 0 then (match f_X7_no 2 with | (r_8, u_9) => (r_8, u_9)) else (f_X7_lotNow pn pl p1 p2 rc, 0))
def n_X7_ofLot (pn : Int32) (pl : Nat → Int32) (p1 : Int32) (p2 : Int32) (n : Nat) : Prop :=
  (n_X7_isLot p1 n) ∧
  ((¬ (f_X7_isLot p1 n) = 0) → (¬ (f_X7_in p2 0 5) = 0) → n_X7_lotNow pn pl p1 p2 n)
def f_X7_left (le : Nat → UInt64) (p1 : Int32) (n : Nat) : UInt64 × Int32 :=
  if (f_X7_isLot p1 n) = 0 then (match f_X7_no 1 with | (r_5, u_6) => (FP.i2d r_5, u_6)) else (le p1.toNatClampNeg, 0)
def n_X7_left (p1 : Int32) (n : Nat) : Prop :=
  (n_X7_isLot p1 n) ∧
  ((¬ (f_X7_isLot p1 n) = 0) → vp_in p1 10)
def f_X7_manyNow (rf : Int32) (lk : Int32) (pu : Int32) (tk : Int32) (mo : Int32) (ga : Int32) (sl : Int32) (fh : Int32) (lh : Int32) (ee : Int32) (pn : Int32) (sp : Nat → Int32) (p1 : Int32) (n : Nat) (rc : Nat → Nat → Int32) : Int32 :=
  if (f_X6_isAwake tk fh lh) = 0 then (if lk = 0 then ((upd (upd (upd (upd (upd (upd (upd (upd (upd (upd (upd (upd (upd (upd (upd (upd (upd (fun _ => (0 : Int32)) (0 : Int32).toNatClampNeg tk) (1 : Int32).toNatClampNeg (tk / 48)) (2 : Int32).toNatClampNeg (f_X6_age mo tk)) (3 : Int32).toNatClampNeg (f_X6_spring mo tk)) (4 : Int32).toNatClampNeg ga) (5 : Int32).toNatClampNeg sl) (6 : Int32).toNatClampNeg pn) (7 : Int32).toNatClampNeg (f_Jx4a65c_size_8abf5 (nI n))) (8 : Int32).toNatClampNeg (f_X7_count 0 n rc)) (9 : Int32).toNatClampNeg (f_X7_count 2 n rc)) (10 : Int32).toNatClampNeg (f_X7_count 3 n rc)) (11 : Int32).toNatClampNeg ee) (12 : Int32).toNatClampNeg pu) (13 : Int32).toNatClampNeg (((sp (0 : Int32).toNatClampNeg) + (sp (1 : Int32).toNatClampNeg)) + (sp (2 : Int32).toNatClampNeg))) (14 : Int32).toNatClampNeg 0) (15 : Int32).toNatClampNeg rf) (16 : Int32).toNatClampNeg 0) p1.toNatClampNeg) else ((upd (upd (upd (upd (upd (upd (upd (upd (upd (upd (upd (upd (upd (upd (upd (upd (upd (fun _ => (0 : Int32)) (0 : Int32).toNatClampNeg tk) (1 : Int32).toNatClampNeg (tk / 48)) (2 : Int32).toNatClampNeg (f_X6_age mo tk)) (3 : Int32).toNatClampNeg (f_X6_spring mo tk)) (4 : Int32).toNatClampNeg ga) (5 : Int32).toNatClampNeg sl) (6 : Int32).toNatClampNeg pn) (7 : Int32).toNatClampNeg (f_Jx4a65c_size_8abf5 (nI n))) (8 : Int32).toNatClampNeg (f_X7_count 0 n rc)) (9 : Int32).toNatClampNeg (f_X7_count 2 n rc)) (10 : Int32).toNatClampNeg (f_X7_count 3 n rc)) (11 : Int32).toNatClampNeg ee) (12 : Int32).toNatClampNeg pu) (13 : Int32).toNatClampNeg (((sp (0 : Int32).toNatClampNeg) + (sp (1 : Int32).toNatClampNeg)) + (sp (2 : Int32).toNatClampNeg))) (14 : Int32).toNatClampNeg 0) (15 : Int32).toNatClampNeg rf) (16 : Int32).toNatClampNeg 1) p1.toNatClampNeg)) else (if lk = 0 then ((upd (upd (upd (upd (upd (upd (upd (upd (upd (upd (upd (upd (upd (upd (upd (upd (upd (fun _ => (0 : Int32)) (0 : Int32).toNatClampNeg tk) (1 : Int32).toNatClampNeg (tk / 48)) (2 : Int32).toNatClampNeg (f_X6_age mo tk)) (3 : Int32).toNatClampNeg (f_X6_spring mo tk)) (4 : Int32).toNatClampNeg ga) (5 : Int32).toNatClampNeg sl) (6 : Int32).toNatClampNeg pn) (7 : Int32).toNatClampNeg (f_Jx4a65c_size_8abf5 (nI n))) (8 : Int32).toNatClampNeg (f_X7_count 0 n rc)) (9 : Int32).toNatClampNeg (f_X7_count 2 n rc)) (10 : Int32).toNatClampNeg (f_X7_count 3 n rc)) (11 : Int32).toNatClampNeg ee) (12 : Int32).toNatClampNeg pu) (13 : Int32).toNatClampNeg (((sp (0 : Int32).toNatClampNeg) + (sp (1 : Int32).toNatClampNeg)) + (sp (2 : Int32).toNatClampNeg))) (14 : Int32).toNatClampNeg 1) (15 : Int32).toNatClampNeg rf) (16 : Int32).toNatClampNeg 0) p1.toNatClampNeg) else ((upd (upd (upd (upd (upd (upd (upd (upd (upd (upd (upd (upd (upd (upd (upd (upd (upd (fun _ => (0 : Int32)) (0 : Int32).toNatClampNeg tk) (1 : Int32).toNatClampNeg (tk / 48)) (2 : Int32).toNatClampNeg (f_X6_age mo tk)) (3 : Int32).toNatClampNeg (f_X6_spring mo tk)) (4 : Int32).toNatClampNeg ga) (5 : Int32).toNatClampNeg sl) (6 : Int32).toNatClampNeg pn) (7 : Int32).toNatClampNeg (f_Jx4a65c_size_8abf5 (nI n))) (8 : Int32).toNatClampNeg (f_X7_count 0 n rc)) (9 : Int32).toNatClampNeg (f_X7_count 2 n rc)) (10 : Int32).toNatClampNeg (f_X7_count 3 n rc)) (11 : Int32).toNatClampNeg ee) (12 : Int32).toNatClampNeg pu) (13 : Int32).toNatClampNeg (((sp (0 : Int32).toNatClampNeg) + (sp (1 : Int32).toNatClampNeg)) + (sp (2 : Int32).toNatClampNeg))) (14 : Int32).toNatClampNeg 1) (15 : Int32).toNatClampNeg rf) (16 : Int32).toNatClampNeg 1) p1.toNatClampNeg))
def n_X7_manyNow (lk : Int32) (tk : Int32) (fh : Int32) (lh : Int32) (p1 : Int32) (n : Nat) (rc : Nat → Nat → Int32) : Prop :=
  (vp_in 0 3) ∧
  (vp_in 1 3) ∧
  (vp_in 2 3) ∧
  (vp_in 0 17) ∧
  (vp_in 1 17) ∧
  (vp_in 2 17) ∧
  (vp_in 3 17) ∧
  (vp_in 4 17) ∧
  (vp_in 5 17) ∧
  (vp_in 6 17) ∧
  (vp_in 7 17) ∧
  (n_X7_count 0 n rc) ∧
  (vp_in 8 17) ∧
  (n_X7_count 2 n rc) ∧
  (vp_in 9 17) ∧
  (n_X7_count 3 n rc) ∧
  (vp_in 10 17) ∧
  (vp_in 11 17) ∧
  (vp_in 12 17) ∧
  (vp_in 13 17) ∧
  (((f_X6_isAwake tk fh lh) = 0) → vp_in 14 17) ∧
  (((f_X6_isAwake tk fh lh) = 0) → vp_in 15 17) ∧
  (((f_X6_isAwake tk fh lh) = 0) → (lk = 0) → vp_in 16 17) ∧
  (((f_X6_isAwake tk fh lh) = 0) → (lk = 0) → vp_in p1 17) ∧
  (((f_X6_isAwake tk fh lh) = 0) → (¬ lk = 0) → vp_in 16 17) ∧
  (((f_X6_isAwake tk fh lh) = 0) → (¬ lk = 0) → vp_in p1 17) ∧
  ((¬ (f_X6_isAwake tk fh lh) = 0) → vp_in 14 17) ∧
  ((¬ (f_X6_isAwake tk fh lh) = 0) → vp_in 15 17) ∧
  ((¬ (f_X6_isAwake tk fh lh) = 0) → (lk = 0) → vp_in 16 17) ∧
  ((¬ (f_X6_isAwake tk fh lh) = 0) → (lk = 0) → vp_in p1 17) ∧
  ((¬ (f_X6_isAwake tk fh lh) = 0) → (¬ lk = 0) → vp_in 16 17) ∧
  ((¬ (f_X6_isAwake tk fh lh) = 0) → (¬ lk = 0) → vp_in p1 17)
def f_X7_many (rf : Int32) (lk : Int32) (pu : Int32) (tk : Int32) (mo : Int32) (ga : Int32) (sl : Int32) (fh : Int32) (lh : Int32) (ee : Int32) (pn : Int32) (sp : Nat → Int32) (p1 : Int32) (n : Nat) (rc : Nat → Nat → Int32) : Int32 × Int32 :=
  if (f_X7_in p1 0 16) = 0 then (match f_X7_no 1 with | (r_5, u_6) => (r_5, u_6)) else (f_X7_manyNow rf lk pu tk mo ga sl fh lh ee pn sp p1 n rc, 0)
def n_X7_many (lk : Int32) (tk : Int32) (fh : Int32) (lh : Int32) (p1 : Int32) (n : Nat) (rc : Nat → Nat → Int32) : Prop :=
  ((¬ (f_X7_in p1 0 16) = 0) → n_X7_manyNow lk tk fh lh p1 n rc)
def f_X7_ownerNow_5 (p1 : Int32) (p2 : Int32) (n : Nat) (rc : Nat → Nat → Int32) : Nat → Int32 → Int32 → Int32
  | 0, x5_0, x5_1 => 0
  | fuel + 1, x5_0, x5_1 => if (f_Jx4a65c_size_8abf5 (nI n)) ≤ x5_1 then x5_0 else (if (rc x5_1.toNatClampNeg (0 : Int32).toNatClampNeg) = p1 then (if p2 = 0 then (if (rc x5_1.toNatClampNeg (4 : Int32).toNatClampNeg) = 3 then (f_X7_ownerNow_5 p1 p2 n rc fuel (x5_0 + 0) (x5_1 + 1)) else (f_X7_ownerNow_5 p1 p2 n rc fuel (x5_0 + (rc x5_1.toNatClampNeg (2 : Int32).toNatClampNeg)) (x5_1 + 1))) else (f_X7_ownerNow_5 p1 p2 n rc fuel (x5_0 + (rc x5_1.toNatClampNeg (2 : Int32).toNatClampNeg)) (x5_1 + 1))) else (f_X7_ownerNow_5 p1 p2 n rc fuel (x5_0 + 0) (x5_1 + 1)))
def n_X7_ownerNow_5 (p1 : Int32) (p2 : Int32) (n : Nat) (rc : Nat → Nat → Int32) : Nat → Int32 → Int32 → Prop
  | 0, x5_0, x5_1 => False
  | fuel + 1, x5_0, x5_1 => ((¬ (f_Jx4a65c_size_8abf5 (nI n)) ≤ x5_1) → n_Jx4a65c_get_915e3 x5_1 n) ∧
  ((¬ (f_Jx4a65c_size_8abf5 (nI n)) ≤ x5_1) → vp_in x5_1 n) ∧
  ((¬ (f_Jx4a65c_size_8abf5 (nI n)) ≤ x5_1) → vp_in 0 5) ∧
  ((¬ (f_Jx4a65c_size_8abf5 (nI n)) ≤ x5_1) → (¬ (rc x5_1.toNatClampNeg (0 : Int32).toNatClampNeg) = p1) → n_X7_ownerNow_5 p1 p2 n rc fuel (x5_0 + 0) (x5_1 + 1)) ∧
  ((¬ (f_Jx4a65c_size_8abf5 (nI n)) ≤ x5_1) → ((rc x5_1.toNatClampNeg (0 : Int32).toNatClampNeg) = p1) → (¬ p2 = 0) → vp_in 2 5) ∧
  ((¬ (f_Jx4a65c_size_8abf5 (nI n)) ≤ x5_1) → ((rc x5_1.toNatClampNeg (0 : Int32).toNatClampNeg) = p1) → (¬ p2 = 0) → n_X7_ownerNow_5 p1 p2 n rc fuel (x5_0 + (rc x5_1.toNatClampNeg (2 : Int32).toNatClampNeg)) (x5_1 + 1)) ∧
  ((¬ (f_Jx4a65c_size_8abf5 (nI n)) ≤ x5_1) → ((rc x5_1.toNatClampNeg (0 : Int32).toNatClampNeg) = p1) → (p2 = 0) → vp_in 4 5) ∧
  ((¬ (f_Jx4a65c_size_8abf5 (nI n)) ≤ x5_1) → ((rc x5_1.toNatClampNeg (0 : Int32).toNatClampNeg) = p1) → (p2 = 0) → ((rc x5_1.toNatClampNeg (4 : Int32).toNatClampNeg) = 3) → n_X7_ownerNow_5 p1 p2 n rc fuel (x5_0 + 0) (x5_1 + 1)) ∧
  ((¬ (f_Jx4a65c_size_8abf5 (nI n)) ≤ x5_1) → ((rc x5_1.toNatClampNeg (0 : Int32).toNatClampNeg) = p1) → (p2 = 0) → (¬ (rc x5_1.toNatClampNeg (4 : Int32).toNatClampNeg) = 3) → vp_in 2 5) ∧
  ((¬ (f_Jx4a65c_size_8abf5 (nI n)) ≤ x5_1) → ((rc x5_1.toNatClampNeg (0 : Int32).toNatClampNeg) = p1) → (p2 = 0) → (¬ (rc x5_1.toNatClampNeg (4 : Int32).toNatClampNeg) = 3) → n_X7_ownerNow_5 p1 p2 n rc fuel (x5_0 + (rc x5_1.toNatClampNeg (2 : Int32).toNatClampNeg)) (x5_1 + 1))
def f_X7_ownerNow (p1 : Int32) (p2 : Int32) (n : Nat) (rc : Nat → Nat → Int32) : Int32 :=
  f_X7_ownerNow_5 p1 p2 n rc 12 0 0
def n_X7_ownerNow (p1 : Int32) (p2 : Int32) (n : Nat) (rc : Nat → Nat → Int32) : Prop :=
  (n_X7_ownerNow_5 p1 p2 n rc 12 0 0)
def f_X7_ofOwner (p1 : Int32) (p2 : Int32) (n : Nat) (rc : Nat → Nat → Int32) : Int32 × Int32 :=
  if (f_X7_in p1 0 3) = 0 then (match f_X7_no 1 with | (r_5, u_6) => (r_5, u_6)) else (f_X7_ownerNow p1 p2 n rc, 0)
def n_X7_ofOwner (p1 : Int32) (p2 : Int32) (n : Nat) (rc : Nat → Nat → Int32) : Prop :=
  ((¬ (f_X7_in p1 0 3) = 0) → n_X7_ownerNow p1 p2 n rc)
def f_X7_highNow_15 (tk : Int32) : Nat → Int32 → UInt64 → Int32
  | 0, x15_0, x15_1 => 0
  | fuel + 1, x15_0, x15_1 => if (Op.cmpValue (FP.dcmp x15_1 4622945017495814144) .g) < 0 then (f_X7_highNow_15 tk fuel (x15_0 + 1) (FP.drem (FP.i2d (tk + (x15_0 + 1))) 4627659723355717632)) else (if (Op.cmpValue (FP.dcmp x15_1 4623507967449235456) .l) < 0 then x15_0 else (f_X7_highNow_15 tk fuel (x15_0 + 1) (FP.drem (FP.i2d (tk + (x15_0 + 1))) 4627659723355717632)))
def n_X7_highNow_15 (tk : Int32) : Nat → Int32 → UInt64 → Prop
  | 0, x15_0, x15_1 => False
  | fuel + 1, x15_0, x15_1 => (((Op.cmpValue (FP.dcmp x15_1 4622945017495814144) .g) < 0) → vf_n64 (FP.drem (FP.i2d (tk + (x15_0 + 1))) 4627659723355717632)) ∧
  (((Op.cmpValue (FP.dcmp x15_1 4622945017495814144) .g) < 0) → n_X7_highNow_15 tk fuel (x15_0 + 1) (FP.drem (FP.i2d (tk + (x15_0 + 1))) 4627659723355717632)) ∧
  ((¬ (Op.cmpValue (FP.dcmp x15_1 4622945017495814144) .g) < 0) → (¬ (Op.cmpValue (FP.dcmp x15_1 4623507967449235456) .l) < 0) → vf_n64 (FP.drem (FP.i2d (tk + (x15_0 + 1))) 4627659723355717632)) ∧
  ((¬ (Op.cmpValue (FP.dcmp x15_1 4622945017495814144) .g) < 0) → (¬ (Op.cmpValue (FP.dcmp x15_1 4623507967449235456) .l) < 0) → n_X7_highNow_15 tk fuel (x15_0 + 1) (FP.drem (FP.i2d (tk + (x15_0 + 1))) 4627659723355717632))
def f_X7_highNow (tk : Int32) : Int32 :=
  f_X7_highNow_15 tk 27 0 (FP.drem (FP.i2d tk) 4627659723355717632)
def n_X7_highNow (tk : Int32) : Prop :=
  (vf_n64 (FP.drem (FP.i2d tk) 4627659723355717632)) ∧
  (n_X7_highNow_15 tk 27 0 (FP.drem (FP.i2d tk) 4627659723355717632))
def f_X7_high (tk : Int32) : Int32 × Int32 :=
  (f_X7_highNow tk, 0)
def n_X7_high (tk : Int32) : Prop :=
  (n_X7_highNow tk)
def f_X7_wouldLevel_32 (mo : Int32) (su : UInt64) (ga : Int32) (sl : Int32) (sc : Int32) (fh : Int32) (lh : Int32) (pn : Int32) (p1 : Int32) (rc : Nat → Nat → Int32) : Nat → Int32 → (Nat → UInt64) → (Nat → Int32) → Int32 → UInt64 → UInt32 → UInt64 → Int32 → (Nat → UInt32) → (Nat → Int32) → (Nat → Int32) → (Nat → Int32) → Int32 × (Nat → UInt64) × (Nat → Int32) × Int32 × UInt64 × UInt32 × UInt64 × Int32 × (Nat → UInt32) × (Nat → Int32) × (Nat → Int32) × (Nat → Int32)
  | 0, x32_0, x32_1, x32_2, x32_3, x32_4, x32_5, x32_6, x32_7, x32_8, x32_9, x32_10, x32_11 => (x32_0, x32_1, x32_2, x32_3, x32_4, x32_5, x32_6, x32_7, x32_8, x32_9, x32_10, x32_11)
  | fuel + 1, x32_0, x32_1, x32_2, x32_3, x32_4, x32_5, x32_6, x32_7, x32_8, x32_9, x32_10, x32_11 => if p1 ≤ x32_0 then (x32_0, x32_1, x32_2, x32_3, x32_4, x32_5, x32_6, x32_7, x32_8, x32_9, x32_10, x32_11) else (match f_X6_tick x32_3 mo su x32_4 x32_5 ga sl sc fh lh x32_7 pn x32_8 x32_9 x32_10 x32_11 x32_1 x32_2 rc with | (u_15, u_16, u_17, u_18, u_19, u_20, u_21, u_22, u_23, u_24, u_25) => f_X7_wouldLevel_32 mo su ga sl sc fh lh pn p1 rc fuel (x32_0 + 1) u_24 u_25 u_15 u_16 u_17 u_18 u_19 u_20 u_21 u_22 u_23)
def n_X7_wouldLevel_32 (mo : Int32) (su : UInt64) (ga : Int32) (sl : Int32) (sc : Int32) (fh : Int32) (lh : Int32) (pn : Int32) (p1 : Int32) (n : Nat) (rc : Nat → Nat → Int32) : Nat → Int32 → (Nat → UInt64) → (Nat → Int32) → Int32 → UInt64 → UInt32 → UInt64 → Int32 → (Nat → UInt32) → (Nat → Int32) → (Nat → Int32) → (Nat → Int32) → Prop
  | 0, x32_0, x32_1, x32_2, x32_3, x32_4, x32_5, x32_6, x32_7, x32_8, x32_9, x32_10, x32_11 => False
  | fuel + 1, x32_0, x32_1, x32_2, x32_3, x32_4, x32_5, x32_6, x32_7, x32_8, x32_9, x32_10, x32_11 => ((¬ p1 ≤ x32_0) → n_X6_tick x32_3 mo su x32_4 x32_5 ga sl sc fh lh x32_7 pn x32_8 x32_9 x32_10 x32_11 x32_1 x32_2 n rc) ∧
  ((¬ p1 ≤ x32_0) → ∀ (u_15 : Int32) (u_16 : UInt64) (u_17 : UInt32) (u_18 : UInt64) (u_19 : Int32) (u_20 : Nat → UInt32) (u_21 : Nat → Int32) (u_22 : Nat → Int32) (u_23 : Nat → Int32) (u_24 : Nat → UInt64) (u_25 : Nat → Int32), (u_15, u_16, u_17, u_18, u_19, u_20, u_21, u_22, u_23, u_24, u_25) = f_X6_tick x32_3 mo su x32_4 x32_5 ga sl sc fh lh x32_7 pn x32_8 x32_9 x32_10 x32_11 x32_1 x32_2 rc → n_X7_wouldLevel_32 mo su ga sl sc fh lh pn p1 n rc fuel (x32_0 + 1) u_24 u_25 u_15 u_16 u_17 u_18 u_19 u_20 u_21 u_22 u_23)
def f_X7_wouldLevel (tk : Int32) (mo : Int32) (su : UInt64) (lv : UInt64) (si : UInt32) (ga : Int32) (sl : Int32) (sc : Int32) (fh : Int32) (lh : Int32) (pn : Int32) (dl : Nat → UInt32) (pl : Nat → Int32) (dr : Nat → Int32) (le : Nat → UInt64) (dn : Nat → Int32) (p1 : Int32) (rc : Nat → Nat → Int32) : UInt64 × Int32 :=
  if (f_X7_in p1 1 100) = 0 then (match f_X7_no 1 with | (r_40, u_41) => (FP.i2d r_40, u_41)) else (match f_X7_wouldLevel_32 mo su ga sl sc fh lh pn p1 rc 102 0 le dn tk lv si 0 0 dl pl dr (fun _ => (0 : Int32)) with | (x32e_28, x32e_29, x32e_30, x32e_31, x32e_32, x32e_33, x32e_34, x32e_35, x32e_36, x32e_37, x32e_38, x32e_39) => (x32e_32, 0))
def n_X7_wouldLevel (tk : Int32) (mo : Int32) (su : UInt64) (lv : UInt64) (si : UInt32) (ga : Int32) (sl : Int32) (sc : Int32) (fh : Int32) (lh : Int32) (pn : Int32) (dl : Nat → UInt32) (pl : Nat → Int32) (dr : Nat → Int32) (le : Nat → UInt64) (dn : Nat → Int32) (p1 : Int32) (n : Nat) (rc : Nat → Nat → Int32) : Prop :=
  ((¬ (f_X7_in p1 1 100) = 0) → n_X6_copy sc dn) ∧
  ((¬ (f_X7_in p1 1 100) = 0) → n_X7_wouldLevel_32 mo su ga sl sc fh lh pn p1 n rc 102 0 le dn tk lv si 0 0 dl pl dr (fun _ => (0 : Int32)))
def f_X7_doneNow_51 (mo : Int32) (su : UInt64) (ga : Int32) (sl : Int32) (sc : Int32) (fh : Int32) (lh : Int32) (pn : Int32) (p1 : Int32) (rc : Nat → Nat → Int32) : Nat → Int32 → Int32 → UInt64 → UInt32 → UInt64 → Int32 → (Nat → UInt32) → (Nat → Int32) → (Nat → Int32) → (Nat → Int32) → (Nat → UInt64) → (Nat → Int32) → Int32
  | 0, x51_0, x51_1, x51_2, x51_3, x51_4, x51_5, x51_6, x51_7, x51_8, x51_9, x51_10, x51_11 => 0
  | fuel + 1, x51_0, x51_1, x51_2, x51_3, x51_4, x51_5, x51_6, x51_7, x51_8, x51_9, x51_10, x51_11 => if 300 < x51_0 then (-1) else (match f_X6_tick x51_1 mo su x51_2 x51_3 ga sl sc fh lh x51_5 pn x51_6 x51_7 x51_8 x51_9 x51_10 x51_11 rc with | (u_20, u_21, u_22, u_23, u_24, u_25, u_26, u_27, u_28, u_29, u_30) => if (u_30 p1.toNatClampNeg) = 0 then (f_X7_doneNow_51 mo su ga sl sc fh lh pn p1 rc fuel (x51_0 + 1) u_20 u_21 u_22 u_23 u_24 u_25 u_26 u_27 u_28 u_29 u_30) else x51_0)
def n_X7_doneNow_51 (mo : Int32) (su : UInt64) (ga : Int32) (sl : Int32) (sc : Int32) (fh : Int32) (lh : Int32) (pn : Int32) (p1 : Int32) (n : Nat) (rc : Nat → Nat → Int32) : Nat → Int32 → Int32 → UInt64 → UInt32 → UInt64 → Int32 → (Nat → UInt32) → (Nat → Int32) → (Nat → Int32) → (Nat → Int32) → (Nat → UInt64) → (Nat → Int32) → Prop
  | 0, x51_0, x51_1, x51_2, x51_3, x51_4, x51_5, x51_6, x51_7, x51_8, x51_9, x51_10, x51_11 => False
  | fuel + 1, x51_0, x51_1, x51_2, x51_3, x51_4, x51_5, x51_6, x51_7, x51_8, x51_9, x51_10, x51_11 => ((¬ 300 < x51_0) → n_X6_tick x51_1 mo su x51_2 x51_3 ga sl sc fh lh x51_5 pn x51_6 x51_7 x51_8 x51_9 x51_10 x51_11 n rc) ∧
  ((¬ 300 < x51_0) → ∀ (u_20 : Int32) (u_21 : UInt64) (u_22 : UInt32) (u_23 : UInt64) (u_24 : Int32) (u_25 : Nat → UInt32) (u_26 : Nat → Int32) (u_27 : Nat → Int32) (u_28 : Nat → Int32) (u_29 : Nat → UInt64) (u_30 : Nat → Int32), (u_20, u_21, u_22, u_23, u_24, u_25, u_26, u_27, u_28, u_29, u_30) = f_X6_tick x51_1 mo su x51_2 x51_3 ga sl sc fh lh x51_5 pn x51_6 x51_7 x51_8 x51_9 x51_10 x51_11 rc → vp_in p1 10) ∧
  ((¬ 300 < x51_0) → ∀ (u_20 : Int32) (u_21 : UInt64) (u_22 : UInt32) (u_23 : UInt64) (u_24 : Int32) (u_25 : Nat → UInt32) (u_26 : Nat → Int32) (u_27 : Nat → Int32) (u_28 : Nat → Int32) (u_29 : Nat → UInt64) (u_30 : Nat → Int32), (u_20, u_21, u_22, u_23, u_24, u_25, u_26, u_27, u_28, u_29, u_30) = f_X6_tick x51_1 mo su x51_2 x51_3 ga sl sc fh lh x51_5 pn x51_6 x51_7 x51_8 x51_9 x51_10 x51_11 rc → ((u_30 p1.toNatClampNeg) = 0) → n_X7_doneNow_51 mo su ga sl sc fh lh pn p1 n rc fuel (x51_0 + 1) u_20 u_21 u_22 u_23 u_24 u_25 u_26 u_27 u_28 u_29 u_30)
def f_X7_doneNow (tk : Int32) (mo : Int32) (su : UInt64) (lv : UInt64) (si : UInt32) (ga : Int32) (sl : Int32) (sc : Int32) (fh : Int32) (lh : Int32) (pn : Int32) (dl : Nat → UInt32) (pl : Nat → Int32) (dr : Nat → Int32) (le : Nat → UInt64) (dn : Nat → Int32) (p1 : Int32) (rc : Nat → Nat → Int32) : Int32 :=
  if (rc p1.toNatClampNeg (4 : Int32).toNatClampNeg) < 2 then (if (rc p1.toNatClampNeg (4 : Int32).toNatClampNeg) = 0 then (-1) else (f_X7_doneNow_51 mo su ga sl sc fh lh pn p1 rc 302 1 tk lv si 0 0 dl pl dr (fun _ => (0 : Int32)) le dn)) else 0
def n_X7_doneNow (tk : Int32) (mo : Int32) (su : UInt64) (lv : UInt64) (si : UInt32) (ga : Int32) (sl : Int32) (sc : Int32) (fh : Int32) (lh : Int32) (pn : Int32) (dl : Nat → UInt32) (pl : Nat → Int32) (dr : Nat → Int32) (le : Nat → UInt64) (dn : Nat → Int32) (p1 : Int32) (n : Nat) (rc : Nat → Nat → Int32) : Prop :=
  (n_Jx4a65c_get_915e3 p1 n) ∧
  (vp_in p1 n) ∧
  (vp_in 4 5) ∧
  (((rc p1.toNatClampNeg (4 : Int32).toNatClampNeg) < 2) → (¬ (rc p1.toNatClampNeg (4 : Int32).toNatClampNeg) = 0) → n_X6_copy sc dn) ∧
  (((rc p1.toNatClampNeg (4 : Int32).toNatClampNeg) < 2) → (¬ (rc p1.toNatClampNeg (4 : Int32).toNatClampNeg) = 0) → n_X7_doneNow_51 mo su ga sl sc fh lh pn p1 n rc 302 1 tk lv si 0 0 dl pl dr (fun _ => (0 : Int32)) le dn)
def f_X7_wouldDone (tk : Int32) (mo : Int32) (su : UInt64) (lv : UInt64) (si : UInt32) (ga : Int32) (sl : Int32) (sc : Int32) (fh : Int32) (lh : Int32) (pn : Int32) (dl : Nat → UInt32) (pl : Nat → Int32) (dr : Nat → Int32) (le : Nat → UInt64) (dn : Nat → Int32) (p1 : Int32) (n : Nat) (rc : Nat → Nat → Int32) : Int32 × Int32 :=
  if (f_X7_isLot p1 n) = 0 then (match f_X7_no 1 with | (r_6, u_7) => (r_6, u_7)) else (f_X7_doneNow tk mo su lv si ga sl sc fh lh pn dl pl dr le dn p1 rc, 0)
def n_X7_wouldDone (tk : Int32) (mo : Int32) (su : UInt64) (lv : UInt64) (si : UInt32) (ga : Int32) (sl : Int32) (sc : Int32) (fh : Int32) (lh : Int32) (pn : Int32) (dl : Nat → UInt32) (pl : Nat → Int32) (dr : Nat → Int32) (le : Nat → UInt64) (dn : Nat → Int32) (p1 : Int32) (n : Nat) (rc : Nat → Nat → Int32) : Prop :=
  (n_X7_isLot p1 n) ∧
  ((¬ (f_X7_isLot p1 n) = 0) → n_X7_doneNow tk mo su lv si ga sl sc fh lh pn dl pl dr le dn p1 n rc)
def f_X7_bestNow_32 (mo : Int32) (su : UInt64) (ga : Int32) (sc : Int32) (fh : Int32) (lh : Int32) (pn : Int32) (p1 : Int32) (rc : Nat → Nat → Int32) (x7_2 : Int32) : Nat → Int32 → (Nat → Int32) → Int32 → UInt64 → UInt32 → UInt64 → Int32 → (Nat → UInt32) → (Nat → Int32) → (Nat → Int32) → (Nat → Int32) → (Nat → UInt64) → Int32 × (Nat → Int32) × Int32 × UInt64 × UInt32 × UInt64 × Int32 × (Nat → UInt32) × (Nat → Int32) × (Nat → Int32) × (Nat → Int32) × (Nat → UInt64)
  | 0, x32_0, x32_1, x32_2, x32_3, x32_4, x32_5, x32_6, x32_7, x32_8, x32_9, x32_10, x32_11 => (x32_0, x32_1, x32_2, x32_3, x32_4, x32_5, x32_6, x32_7, x32_8, x32_9, x32_10, x32_11)
  | fuel + 1, x32_0, x32_1, x32_2, x32_3, x32_4, x32_5, x32_6, x32_7, x32_8, x32_9, x32_10, x32_11 => if p1 ≤ x32_0 then (x32_0, x32_1, x32_2, x32_3, x32_4, x32_5, x32_6, x32_7, x32_8, x32_9, x32_10, x32_11) else (match f_X6_tick x32_2 mo su x32_3 x32_4 ga x7_2 sc fh lh x32_6 pn x32_7 x32_8 x32_9 x32_10 x32_11 x32_1 rc with | (u_14, u_15, u_16, u_17, u_18, u_19, u_20, u_21, u_22, u_23, u_24) => f_X7_bestNow_32 mo su ga sc fh lh pn p1 rc x7_2 fuel (x32_0 + 1) u_24 u_14 u_15 u_16 u_17 u_18 u_19 u_20 u_21 u_22 u_23)
def n_X7_bestNow_32 (mo : Int32) (su : UInt64) (ga : Int32) (sc : Int32) (fh : Int32) (lh : Int32) (pn : Int32) (p1 : Int32) (n : Nat) (rc : Nat → Nat → Int32) (x7_2 : Int32) : Nat → Int32 → (Nat → Int32) → Int32 → UInt64 → UInt32 → UInt64 → Int32 → (Nat → UInt32) → (Nat → Int32) → (Nat → Int32) → (Nat → Int32) → (Nat → UInt64) → Prop
  | 0, x32_0, x32_1, x32_2, x32_3, x32_4, x32_5, x32_6, x32_7, x32_8, x32_9, x32_10, x32_11 => False
  | fuel + 1, x32_0, x32_1, x32_2, x32_3, x32_4, x32_5, x32_6, x32_7, x32_8, x32_9, x32_10, x32_11 => ((¬ p1 ≤ x32_0) → n_X6_tick x32_2 mo su x32_3 x32_4 ga x7_2 sc fh lh x32_6 pn x32_7 x32_8 x32_9 x32_10 x32_11 x32_1 n rc) ∧
  ((¬ p1 ≤ x32_0) → ∀ (u_14 : Int32) (u_15 : UInt64) (u_16 : UInt32) (u_17 : UInt64) (u_18 : Int32) (u_19 : Nat → UInt32) (u_20 : Nat → Int32) (u_21 : Nat → Int32) (u_22 : Nat → Int32) (u_23 : Nat → UInt64) (u_24 : Nat → Int32), (u_14, u_15, u_16, u_17, u_18, u_19, u_20, u_21, u_22, u_23, u_24) = f_X6_tick x32_2 mo su x32_3 x32_4 ga x7_2 sc fh lh x32_6 pn x32_7 x32_8 x32_9 x32_10 x32_11 x32_1 rc → n_X7_bestNow_32 mo su ga sc fh lh pn p1 n rc x7_2 fuel (x32_0 + 1) u_24 u_14 u_15 u_16 u_17 u_18 u_19 u_20 u_21 u_22 u_23)
def f_X7_bestNow_55 (n : Nat) (x32e_38 : Nat → UInt64) : Nat → UInt64 → Int32 → UInt64 × Int32
  | 0, x55_0, x55_1 => (x55_0, x55_1)
  | fuel + 1, x55_0, x55_1 => if (f_Jx4a65c_size_8abf5 (nI n)) ≤ x55_1 then (x55_0, x55_1) else (f_X7_bestNow_55 n x32e_38 fuel (FP.dadd x55_0 (x32e_38 x55_1.toNatClampNeg)) (x55_1 + 1))
def n_X7_bestNow_55 (n : Nat) (x32e_38 : Nat → UInt64) : Nat → UInt64 → Int32 → Prop
  | 0, x55_0, x55_1 => False
  | fuel + 1, x55_0, x55_1 => ((¬ (f_Jx4a65c_size_8abf5 (nI n)) ≤ x55_1) → vp_in x55_1 10) ∧
  ((¬ (f_Jx4a65c_size_8abf5 (nI n)) ≤ x55_1) → vf_n64 (FP.dadd x55_0 (x32e_38 x55_1.toNatClampNeg))) ∧
  ((¬ (f_Jx4a65c_size_8abf5 (nI n)) ≤ x55_1) → n_X7_bestNow_55 n x32e_38 fuel (FP.dadd x55_0 (x32e_38 x55_1.toNatClampNeg)) (x55_1 + 1))
def f_X7_bestNow_7 (tk : Int32) (mo : Int32) (su : UInt64) (lv : UInt64) (si : UInt32) (ga : Int32) (sc : Int32) (fh : Int32) (lh : Int32) (pn : Int32) (dl : Nat → UInt32) (pl : Nat → Int32) (dr : Nat → Int32) (le : Nat → UInt64) (dn : Nat → Int32) (p1 : Int32) (n : Nat) (rc : Nat → Nat → Int32) : Nat → Int32 → UInt64 → Int32 → Int32
  | 0, x7_0, x7_1, x7_2 => 0
  | fuel + 1, x7_0, x7_1, x7_2 => if 4 < x7_2 then x7_0 else (match f_X7_bestNow_32 mo su ga sc fh lh pn p1 rc x7_2 50 0 dn tk lv si 0 0 dl pl dr (fun _ => (0 : Int32)) le with | (x32e_27, x32e_28, x32e_29, x32e_30, x32e_31, x32e_32, x32e_33, x32e_34, x32e_35, x32e_36, x32e_37, x32e_38) => (match f_X7_bestNow_55 n x32e_38 12 FP.dconst0 0 with | (x55e_45, x55e_46) => if x7_2 ≤ 0 then (f_X7_bestNow_7 tk mo su lv si ga sc fh lh pn dl pl dr le dn p1 n rc fuel x7_2 x55e_45 (x7_2 + 1)) else (if (Op.cmpValue (FP.dcmp x55e_45 x7_1) .l) < 0 then (f_X7_bestNow_7 tk mo su lv si ga sc fh lh pn dl pl dr le dn p1 n rc fuel x7_2 x55e_45 (x7_2 + 1)) else (f_X7_bestNow_7 tk mo su lv si ga sc fh lh pn dl pl dr le dn p1 n rc fuel x7_0 x7_1 (x7_2 + 1)))))
def n_X7_bestNow_7 (tk : Int32) (mo : Int32) (su : UInt64) (lv : UInt64) (si : UInt32) (ga : Int32) (sc : Int32) (fh : Int32) (lh : Int32) (pn : Int32) (dl : Nat → UInt32) (pl : Nat → Int32) (dr : Nat → Int32) (le : Nat → UInt64) (dn : Nat → Int32) (p1 : Int32) (n : Nat) (rc : Nat → Nat → Int32) : Nat → Int32 → UInt64 → Int32 → Prop
  | 0, x7_0, x7_1, x7_2 => False
  | fuel + 1, x7_0, x7_1, x7_2 => ((¬ 4 < x7_2) → n_X6_copy sc dn) ∧
  ((¬ 4 < x7_2) → n_X7_bestNow_32 mo su ga sc fh lh pn p1 n rc x7_2 50 0 dn tk lv si 0 0 dl pl dr (fun _ => (0 : Int32)) le) ∧
  ((¬ 4 < x7_2) → ∀ (x32e_27 : Int32) (x32e_28 : Nat → Int32) (x32e_29 : Int32) (x32e_30 : UInt64) (x32e_31 : UInt32) (x32e_32 : UInt64) (x32e_33 : Int32) (x32e_34 : Nat → UInt32) (x32e_35 : Nat → Int32) (x32e_36 : Nat → Int32) (x32e_37 : Nat → Int32) (x32e_38 : Nat → UInt64), (x32e_27, x32e_28, x32e_29, x32e_30, x32e_31, x32e_32, x32e_33, x32e_34, x32e_35, x32e_36, x32e_37, x32e_38) = f_X7_bestNow_32 mo su ga sc fh lh pn p1 rc x7_2 50 0 dn tk lv si 0 0 dl pl dr (fun _ => (0 : Int32)) le → n_X7_bestNow_55 n x32e_38 12 FP.dconst0 0) ∧
  ((¬ 4 < x7_2) → ∀ (x32e_27 : Int32) (x32e_28 : Nat → Int32) (x32e_29 : Int32) (x32e_30 : UInt64) (x32e_31 : UInt32) (x32e_32 : UInt64) (x32e_33 : Int32) (x32e_34 : Nat → UInt32) (x32e_35 : Nat → Int32) (x32e_36 : Nat → Int32) (x32e_37 : Nat → Int32) (x32e_38 : Nat → UInt64), (x32e_27, x32e_28, x32e_29, x32e_30, x32e_31, x32e_32, x32e_33, x32e_34, x32e_35, x32e_36, x32e_37, x32e_38) = f_X7_bestNow_32 mo su ga sc fh lh pn p1 rc x7_2 50 0 dn tk lv si 0 0 dl pl dr (fun _ => (0 : Int32)) le → ∀ (x55e_45 : UInt64) (x55e_46 : Int32), (x55e_45, x55e_46) = f_X7_bestNow_55 n x32e_38 12 FP.dconst0 0 → (x7_2 ≤ 0) → n_X7_bestNow_7 tk mo su lv si ga sc fh lh pn dl pl dr le dn p1 n rc fuel x7_2 x55e_45 (x7_2 + 1)) ∧
  ((¬ 4 < x7_2) → ∀ (x32e_27 : Int32) (x32e_28 : Nat → Int32) (x32e_29 : Int32) (x32e_30 : UInt64) (x32e_31 : UInt32) (x32e_32 : UInt64) (x32e_33 : Int32) (x32e_34 : Nat → UInt32) (x32e_35 : Nat → Int32) (x32e_36 : Nat → Int32) (x32e_37 : Nat → Int32) (x32e_38 : Nat → UInt64), (x32e_27, x32e_28, x32e_29, x32e_30, x32e_31, x32e_32, x32e_33, x32e_34, x32e_35, x32e_36, x32e_37, x32e_38) = f_X7_bestNow_32 mo su ga sc fh lh pn p1 rc x7_2 50 0 dn tk lv si 0 0 dl pl dr (fun _ => (0 : Int32)) le → ∀ (x55e_45 : UInt64) (x55e_46 : Int32), (x55e_45, x55e_46) = f_X7_bestNow_55 n x32e_38 12 FP.dconst0 0 → (¬ x7_2 ≤ 0) → ((Op.cmpValue (FP.dcmp x55e_45 x7_1) .l) < 0) → n_X7_bestNow_7 tk mo su lv si ga sc fh lh pn dl pl dr le dn p1 n rc fuel x7_2 x55e_45 (x7_2 + 1)) ∧
  ((¬ 4 < x7_2) → ∀ (x32e_27 : Int32) (x32e_28 : Nat → Int32) (x32e_29 : Int32) (x32e_30 : UInt64) (x32e_31 : UInt32) (x32e_32 : UInt64) (x32e_33 : Int32) (x32e_34 : Nat → UInt32) (x32e_35 : Nat → Int32) (x32e_36 : Nat → Int32) (x32e_37 : Nat → Int32) (x32e_38 : Nat → UInt64), (x32e_27, x32e_28, x32e_29, x32e_30, x32e_31, x32e_32, x32e_33, x32e_34, x32e_35, x32e_36, x32e_37, x32e_38) = f_X7_bestNow_32 mo su ga sc fh lh pn p1 rc x7_2 50 0 dn tk lv si 0 0 dl pl dr (fun _ => (0 : Int32)) le → ∀ (x55e_45 : UInt64) (x55e_46 : Int32), (x55e_45, x55e_46) = f_X7_bestNow_55 n x32e_38 12 FP.dconst0 0 → (¬ x7_2 ≤ 0) → (¬ (Op.cmpValue (FP.dcmp x55e_45 x7_1) .l) < 0) → n_X7_bestNow_7 tk mo su lv si ga sc fh lh pn dl pl dr le dn p1 n rc fuel x7_0 x7_1 (x7_2 + 1))
def f_X7_bestNow (tk : Int32) (mo : Int32) (su : UInt64) (lv : UInt64) (si : UInt32) (ga : Int32) (sc : Int32) (fh : Int32) (lh : Int32) (pn : Int32) (dl : Nat → UInt32) (pl : Nat → Int32) (dr : Nat → Int32) (le : Nat → UInt64) (dn : Nat → Int32) (p1 : Int32) (n : Nat) (rc : Nat → Nat → Int32) : Int32 :=
  f_X7_bestNow_7 tk mo su lv si ga sc fh lh pn dl pl dr le dn p1 n rc 7 0 FP.dconst0 0
def n_X7_bestNow (tk : Int32) (mo : Int32) (su : UInt64) (lv : UInt64) (si : UInt32) (ga : Int32) (sc : Int32) (fh : Int32) (lh : Int32) (pn : Int32) (dl : Nat → UInt32) (pl : Nat → Int32) (dr : Nat → Int32) (le : Nat → UInt64) (dn : Nat → Int32) (p1 : Int32) (n : Nat) (rc : Nat → Nat → Int32) : Prop :=
  (n_X7_bestNow_7 tk mo su lv si ga sc fh lh pn dl pl dr le dn p1 n rc 7 0 FP.dconst0 0)
def f_X7_best (tk : Int32) (mo : Int32) (su : UInt64) (lv : UInt64) (si : UInt32) (ga : Int32) (sc : Int32) (fh : Int32) (lh : Int32) (pn : Int32) (dl : Nat → UInt32) (pl : Nat → Int32) (dr : Nat → Int32) (le : Nat → UInt64) (dn : Nat → Int32) (p1 : Int32) (n : Nat) (rc : Nat → Nat → Int32) : Int32 × Int32 :=
  if (f_X7_in p1 1 48) = 0 then (match f_X7_no 1 with | (r_5, u_6) => (r_5, u_6)) else (f_X7_bestNow tk mo su lv si ga sc fh lh pn dl pl dr le dn p1 n rc, 0)
def n_X7_best (tk : Int32) (mo : Int32) (su : UInt64) (lv : UInt64) (si : UInt32) (ga : Int32) (sc : Int32) (fh : Int32) (lh : Int32) (pn : Int32) (dl : Nat → UInt32) (pl : Nat → Int32) (dr : Nat → Int32) (le : Nat → UInt64) (dn : Nat → Int32) (p1 : Int32) (n : Nat) (rc : Nat → Nat → Int32) : Prop :=
  ((¬ (f_X7_in p1 1 48) = 0) → n_X7_bestNow tk mo su lv si ga sc fh lh pn dl pl dr le dn p1 n rc)
def f_X7_digest_11 (rf : Int32) (lk : Int32) (pu : Int32) (tk : Int32) (mo : Int32) (ga : Int32) (sl : Int32) (fh : Int32) (lh : Int32) (ee : Int32) (pn : Int32) (sp : Nat → Int32) (n : Nat) (rc : Nat → Nat → Int32) : Nat → Int64 → Int32 → Int64 × Int32
  | 0, x11_0, x11_1 => (x11_0, x11_1)
  | fuel + 1, x11_0, x11_1 => if 16 < x11_1 then (x11_0, x11_1) else (f_X7_digest_11 rf lk pu tk mo ga sl fh lh ee pn sp n rc fuel ((x11_0 * 31) + ((f_X7_manyNow rf lk pu tk mo ga sl fh lh ee pn sp x11_1 n rc).toInt64)) (x11_1 + 1))
def n_X7_digest_11 (rf : Int32) (lk : Int32) (pu : Int32) (tk : Int32) (mo : Int32) (ga : Int32) (sl : Int32) (fh : Int32) (lh : Int32) (ee : Int32) (pn : Int32) (sp : Nat → Int32) (n : Nat) (rc : Nat → Nat → Int32) : Nat → Int64 → Int32 → Prop
  | 0, x11_0, x11_1 => False
  | fuel + 1, x11_0, x11_1 => ((¬ 16 < x11_1) → n_X7_manyNow lk tk fh lh x11_1 n rc) ∧
  ((¬ 16 < x11_1) → n_X7_digest_11 rf lk pu tk mo ga sl fh lh ee pn sp n rc fuel ((x11_0 * 31) + ((f_X7_manyNow rf lk pu tk mo ga sl fh lh ee pn sp x11_1 n rc).toInt64)) (x11_1 + 1))
def f_X7_digest_107 (pl : Nat → Int32) (dr : Nat → Int32) (sp : Nat → Int32) (x93_1 : Int32) : Nat → Int64 → Int32 → Int64 × Int32
  | 0, x107_0, x107_1 => (x107_0, x107_1)
  | fuel + 1, x107_0, x107_1 => if 2 < x107_1 then (x107_0, x107_1) else (f_X7_digest_107 pl dr sp x93_1 fuel ((x107_0 * 31) + ((f_X7_pairNow pl dr sp x93_1 x107_1).toInt64)) (x107_1 + 1))
def n_X7_digest_107 (pl : Nat → Int32) (dr : Nat → Int32) (sp : Nat → Int32) (x93_1 : Int32) : Nat → Int64 → Int32 → Prop
  | 0, x107_0, x107_1 => False
  | fuel + 1, x107_0, x107_1 => ((¬ 2 < x107_1) → n_X7_pairNow x93_1 x107_1) ∧
  ((¬ 2 < x107_1) → n_X7_digest_107 pl dr sp x93_1 fuel ((x107_0 * 31) + ((f_X7_pairNow pl dr sp x93_1 x107_1).toInt64)) (x107_1 + 1))
def f_X7_digest_93 (pn : Int32) (dl : Nat → UInt32) (pl : Nat → Int32) (dr : Nat → Int32) (sp : Nat → Int32) : Nat → Int64 → Int32 → Int64 × Int32
  | 0, x93_0, x93_1 => (x93_0, x93_1)
  | fuel + 1, x93_0, x93_1 => if pn ≤ x93_1 then (x93_0, x93_1) else (match f_X7_digest_107 pl dr sp x93_1 4 x93_0 0 with | (x107e_18, x107e_19) => f_X7_digest_93 pn dl pl dr sp fuel ((x107e_18 * 31) + (FP.d2l (FP.dmul 4652218415073722368 (FP.f2d (dl x93_1.toNatClampNeg))))) (x93_1 + 1))
def n_X7_digest_93 (pn : Int32) (dl : Nat → UInt32) (pl : Nat → Int32) (dr : Nat → Int32) (sp : Nat → Int32) : Nat → Int64 → Int32 → Prop
  | 0, x93_0, x93_1 => False
  | fuel + 1, x93_0, x93_1 => ((¬ pn ≤ x93_1) → n_X7_digest_107 pl dr sp x93_1 4 x93_0 0) ∧
  ((¬ pn ≤ x93_1) → ∀ (x107e_18 : Int64) (x107e_19 : Int32), (x107e_18, x107e_19) = f_X7_digest_107 pl dr sp x93_1 4 x93_0 0 → vp_in x93_1 3) ∧
  ((¬ pn ≤ x93_1) → ∀ (x107e_18 : Int64) (x107e_19 : Int32), (x107e_18, x107e_19) = f_X7_digest_107 pl dr sp x93_1 4 x93_0 0 → vf_n64 (FP.f2d (dl x93_1.toNatClampNeg))) ∧
  ((¬ pn ≤ x93_1) → ∀ (x107e_18 : Int64) (x107e_19 : Int32), (x107e_18, x107e_19) = f_X7_digest_107 pl dr sp x93_1 4 x93_0 0 → vf_n64 (FP.dmul 4652218415073722368 (FP.f2d (dl x93_1.toNatClampNeg)))) ∧
  ((¬ pn ≤ x93_1) → ∀ (x107e_18 : Int64) (x107e_19 : Int32), (x107e_18, x107e_19) = f_X7_digest_107 pl dr sp x93_1 4 x93_0 0 → n_X7_digest_93 pn dl pl dr sp fuel ((x107e_18 * 31) + (FP.d2l (FP.dmul 4652218415073722368 (FP.f2d (dl x93_1.toNatClampNeg))))) (x93_1 + 1))
def f_X7_digest_180 (pn : Int32) (pl : Nat → Int32) (rc : Nat → Nat → Int32) (x164_1 : Int32) : Nat → Int64 → Int32 → Int64 × Int32
  | 0, x180_0, x180_1 => (x180_0, x180_1)
  | fuel + 1, x180_0, x180_1 => if 5 < x180_1 then (x180_0, x180_1) else (f_X7_digest_180 pn pl rc x164_1 fuel ((x180_0 * 31) + ((f_X7_lotNow pn pl x164_1 x180_1 rc).toInt64)) (x180_1 + 1))
def n_X7_digest_180 (pn : Int32) (pl : Nat → Int32) (n : Nat) (rc : Nat → Nat → Int32) (x164_1 : Int32) : Nat → Int64 → Int32 → Prop
  | 0, x180_0, x180_1 => False
  | fuel + 1, x180_0, x180_1 => ((¬ 5 < x180_1) → n_X7_lotNow pn pl x164_1 x180_1 n) ∧
  ((¬ 5 < x180_1) → n_X7_digest_180 pn pl n rc x164_1 fuel ((x180_0 * 31) + ((f_X7_lotNow pn pl x164_1 x180_1 rc).toInt64)) (x180_1 + 1))
def f_X7_digest_164 (tk : Int32) (mo : Int32) (su : UInt64) (lv : UInt64) (si : UInt32) (ga : Int32) (sl : Int32) (sc : Int32) (fh : Int32) (lh : Int32) (pn : Int32) (dl : Nat → UInt32) (pl : Nat → Int32) (dr : Nat → Int32) (le : Nat → UInt64) (dn : Nat → Int32) (n : Nat) (rc : Nat → Nat → Int32) : Nat → Int64 → Int32 → Int64 × Int32
  | 0, x164_0, x164_1 => (x164_0, x164_1)
  | fuel + 1, x164_0, x164_1 => if (f_Jx4a65c_size_8abf5 (nI n)) ≤ x164_1 then (x164_0, x164_1) else (match f_X7_digest_180 pn pl rc x164_1 7 x164_0 0 with | (x180e_34, x180e_35) => f_X7_digest_164 tk mo su lv si ga sl sc fh lh pn dl pl dr le dn n rc fuel ((((x180e_34 * 31) + (FP.d2l (FP.dmul 4652218415073722368 (le x164_1.toNatClampNeg)))) * 31) + ((f_X7_doneNow tk mo su lv si ga sl sc fh lh pn dl pl dr le dn x164_1 rc).toInt64)) (x164_1 + 1))
def n_X7_digest_164 (tk : Int32) (mo : Int32) (su : UInt64) (lv : UInt64) (si : UInt32) (ga : Int32) (sl : Int32) (sc : Int32) (fh : Int32) (lh : Int32) (pn : Int32) (dl : Nat → UInt32) (pl : Nat → Int32) (dr : Nat → Int32) (le : Nat → UInt64) (dn : Nat → Int32) (n : Nat) (rc : Nat → Nat → Int32) : Nat → Int64 → Int32 → Prop
  | 0, x164_0, x164_1 => False
  | fuel + 1, x164_0, x164_1 => ((¬ (f_Jx4a65c_size_8abf5 (nI n)) ≤ x164_1) → n_X7_digest_180 pn pl n rc x164_1 7 x164_0 0) ∧
  ((¬ (f_Jx4a65c_size_8abf5 (nI n)) ≤ x164_1) → ∀ (x180e_34 : Int64) (x180e_35 : Int32), (x180e_34, x180e_35) = f_X7_digest_180 pn pl rc x164_1 7 x164_0 0 → vp_in x164_1 10) ∧
  ((¬ (f_Jx4a65c_size_8abf5 (nI n)) ≤ x164_1) → ∀ (x180e_34 : Int64) (x180e_35 : Int32), (x180e_34, x180e_35) = f_X7_digest_180 pn pl rc x164_1 7 x164_0 0 → vf_n64 (FP.dmul 4652218415073722368 (le x164_1.toNatClampNeg))) ∧
  ((¬ (f_Jx4a65c_size_8abf5 (nI n)) ≤ x164_1) → ∀ (x180e_34 : Int64) (x180e_35 : Int32), (x180e_34, x180e_35) = f_X7_digest_180 pn pl rc x164_1 7 x164_0 0 → n_X7_doneNow tk mo su lv si ga sl sc fh lh pn dl pl dr le dn x164_1 n rc) ∧
  ((¬ (f_Jx4a65c_size_8abf5 (nI n)) ≤ x164_1) → ∀ (x180e_34 : Int64) (x180e_35 : Int32), (x180e_34, x180e_35) = f_X7_digest_180 pn pl rc x164_1 7 x164_0 0 → n_X7_digest_164 tk mo su lv si ga sl sc fh lh pn dl pl dr le dn n rc fuel ((((x180e_34 * 31) + (FP.d2l (FP.dmul 4652218415073722368 (le x164_1.toNatClampNeg)))) * 31) + ((f_X7_doneNow tk mo su lv si ga sl sc fh lh pn dl pl dr le dn x164_1 rc).toInt64)) (x164_1 + 1))
def f_X7_digest_249 (n : Nat) (rc : Nat → Nat → Int32) : Nat → Int64 → Int32 → Int64 × Int32
  | 0, x249_0, x249_1 => (x249_0, x249_1)
  | fuel + 1, x249_0, x249_1 => if 4 ≤ x249_1 then (x249_0, x249_1) else (f_X7_digest_249 n rc fuel ((x249_0 * 31) + ((f_X7_ownerNow x249_1 0 n rc).toInt64)) (x249_1 + 1))
def n_X7_digest_249 (n : Nat) (rc : Nat → Nat → Int32) : Nat → Int64 → Int32 → Prop
  | 0, x249_0, x249_1 => False
  | fuel + 1, x249_0, x249_1 => ((¬ 4 ≤ x249_1) → n_X7_ownerNow x249_1 0 n rc) ∧
  ((¬ 4 ≤ x249_1) → n_X7_digest_249 n rc fuel ((x249_0 * 31) + ((f_X7_ownerNow x249_1 0 n rc).toInt64)) (x249_1 + 1))
def f_X7_digest (rf : Int32) (lk : Int32) (pu : Int32) (tl : UInt64) (tk : Int32) (mo : Int32) (su : UInt64) (lv : UInt64) (si : UInt32) (ga : Int32) (sl : Int32) (sc : Int32) (fh : Int32) (lh : Int32) (ee : Int32) (pn : Int32) (dl : Nat → UInt32) (pl : Nat → Int32) (dr : Nat → Int32) (sp : Nat → Int32) (le : Nat → UInt64) (dn : Nat → Int32) (n : Nat) (rc : Nat → Nat → Int32) : Int64 × Int32 :=
  (match f_X7_digest_11 rf lk pu tk mo ga sl fh lh ee pn sp n rc 18 58306 0 with | (x11e_6, x11e_7) => (match f_X7_digest_93 pn dl pl dr sp 5 ((((((x11e_6 * 31) + (FP.d2l (FP.dmul 4652218415073722368 lv))) * 31) + (FP.d2l (FP.dmul 4652218415073722368 (FP.f2d si)))) * 31) + (FP.d2l (FP.dmul 4652218415073722368 tl))) 0 with | (x93e_25, x93e_26) => (match f_X7_digest_164 tk mo su lv si ga sl sc fh lh pn dl pl dr le dn n rc 12 x93e_25 0 with | (x164e_42, x164e_43) => (match f_X7_digest_249 n rc 6 x164e_42 0 with | (x249e_49, x249e_50) => ((((x249e_49 * 31) + ((f_X7_highNow tk).toInt64)) * 31) + ((f_X7_bestNow tk mo su lv si ga sc fh lh pn dl pl dr le dn 24 n rc).toInt64), 0)))))
def n_X7_digest (rf : Int32) (lk : Int32) (pu : Int32) (tl : UInt64) (tk : Int32) (mo : Int32) (su : UInt64) (lv : UInt64) (si : UInt32) (ga : Int32) (sl : Int32) (sc : Int32) (fh : Int32) (lh : Int32) (ee : Int32) (pn : Int32) (dl : Nat → UInt32) (pl : Nat → Int32) (dr : Nat → Int32) (sp : Nat → Int32) (le : Nat → UInt64) (dn : Nat → Int32) (n : Nat) (rc : Nat → Nat → Int32) : Prop :=
  (n_X7_digest_11 rf lk pu tk mo ga sl fh lh ee pn sp n rc 18 58306 0) ∧
  (∀ (x11e_6 : Int64) (x11e_7 : Int32), (x11e_6, x11e_7) = f_X7_digest_11 rf lk pu tk mo ga sl fh lh ee pn sp n rc 18 58306 0 → vf_n64 (FP.dmul 4652218415073722368 lv)) ∧
  (∀ (x11e_6 : Int64) (x11e_7 : Int32), (x11e_6, x11e_7) = f_X7_digest_11 rf lk pu tk mo ga sl fh lh ee pn sp n rc 18 58306 0 → vf_n64 (FP.f2d si)) ∧
  (∀ (x11e_6 : Int64) (x11e_7 : Int32), (x11e_6, x11e_7) = f_X7_digest_11 rf lk pu tk mo ga sl fh lh ee pn sp n rc 18 58306 0 → vf_n64 (FP.dmul 4652218415073722368 (FP.f2d si))) ∧
  (∀ (x11e_6 : Int64) (x11e_7 : Int32), (x11e_6, x11e_7) = f_X7_digest_11 rf lk pu tk mo ga sl fh lh ee pn sp n rc 18 58306 0 → vf_n64 (FP.dmul 4652218415073722368 tl)) ∧
  (∀ (x11e_6 : Int64) (x11e_7 : Int32), (x11e_6, x11e_7) = f_X7_digest_11 rf lk pu tk mo ga sl fh lh ee pn sp n rc 18 58306 0 → n_X7_digest_93 pn dl pl dr sp 5 ((((((x11e_6 * 31) + (FP.d2l (FP.dmul 4652218415073722368 lv))) * 31) + (FP.d2l (FP.dmul 4652218415073722368 (FP.f2d si)))) * 31) + (FP.d2l (FP.dmul 4652218415073722368 tl))) 0) ∧
  (∀ (x11e_6 : Int64) (x11e_7 : Int32), (x11e_6, x11e_7) = f_X7_digest_11 rf lk pu tk mo ga sl fh lh ee pn sp n rc 18 58306 0 → ∀ (x93e_25 : Int64) (x93e_26 : Int32), (x93e_25, x93e_26) = f_X7_digest_93 pn dl pl dr sp 5 ((((((x11e_6 * 31) + (FP.d2l (FP.dmul 4652218415073722368 lv))) * 31) + (FP.d2l (FP.dmul 4652218415073722368 (FP.f2d si)))) * 31) + (FP.d2l (FP.dmul 4652218415073722368 tl))) 0 → n_X7_digest_164 tk mo su lv si ga sl sc fh lh pn dl pl dr le dn n rc 12 x93e_25 0) ∧
  (∀ (x11e_6 : Int64) (x11e_7 : Int32), (x11e_6, x11e_7) = f_X7_digest_11 rf lk pu tk mo ga sl fh lh ee pn sp n rc 18 58306 0 → ∀ (x93e_25 : Int64) (x93e_26 : Int32), (x93e_25, x93e_26) = f_X7_digest_93 pn dl pl dr sp 5 ((((((x11e_6 * 31) + (FP.d2l (FP.dmul 4652218415073722368 lv))) * 31) + (FP.d2l (FP.dmul 4652218415073722368 (FP.f2d si)))) * 31) + (FP.d2l (FP.dmul 4652218415073722368 tl))) 0 → ∀ (x164e_42 : Int64) (x164e_43 : Int32), (x164e_42, x164e_43) = f_X7_digest_164 tk mo su lv si ga sl sc fh lh pn dl pl dr le dn n rc 12 x93e_25 0 → n_X7_digest_249 n rc 6 x164e_42 0) ∧
  (∀ (x11e_6 : Int64) (x11e_7 : Int32), (x11e_6, x11e_7) = f_X7_digest_11 rf lk pu tk mo ga sl fh lh ee pn sp n rc 18 58306 0 → ∀ (x93e_25 : Int64) (x93e_26 : Int32), (x93e_25, x93e_26) = f_X7_digest_93 pn dl pl dr sp 5 ((((((x11e_6 * 31) + (FP.d2l (FP.dmul 4652218415073722368 lv))) * 31) + (FP.d2l (FP.dmul 4652218415073722368 (FP.f2d si)))) * 31) + (FP.d2l (FP.dmul 4652218415073722368 tl))) 0 → ∀ (x164e_42 : Int64) (x164e_43 : Int32), (x164e_42, x164e_43) = f_X7_digest_164 tk mo su lv si ga sl sc fh lh pn dl pl dr le dn n rc 12 x93e_25 0 → ∀ (x249e_49 : Int64) (x249e_50 : Int32), (x249e_49, x249e_50) = f_X7_digest_249 n rc 6 x164e_42 0 → n_X7_highNow tk) ∧
  (∀ (x11e_6 : Int64) (x11e_7 : Int32), (x11e_6, x11e_7) = f_X7_digest_11 rf lk pu tk mo ga sl fh lh ee pn sp n rc 18 58306 0 → ∀ (x93e_25 : Int64) (x93e_26 : Int32), (x93e_25, x93e_26) = f_X7_digest_93 pn dl pl dr sp 5 ((((((x11e_6 * 31) + (FP.d2l (FP.dmul 4652218415073722368 lv))) * 31) + (FP.d2l (FP.dmul 4652218415073722368 (FP.f2d si)))) * 31) + (FP.d2l (FP.dmul 4652218415073722368 tl))) 0 → ∀ (x164e_42 : Int64) (x164e_43 : Int32), (x164e_42, x164e_43) = f_X7_digest_164 tk mo su lv si ga sl sc fh lh pn dl pl dr le dn n rc 12 x93e_25 0 → ∀ (x249e_49 : Int64) (x249e_50 : Int32), (x249e_49, x249e_50) = f_X7_digest_249 n rc 6 x164e_42 0 → n_X7_bestNow tk mo su lv si ga sc fh lh pn dl pl dr le dn 24 n rc)
def n_Jx4a65c_grow_92f84 (p1 : Int32) : Prop :=
  (¬ (0 : Int32) < 0) ∧
  (¬ (10 : Int32) < p1)
def n_Jx4a65c_grow_d5877 : Prop :=
  (n_Jx4a65c_grow_92f84 (0 + 1))
def n_Jx4a65c_add_72be8_z : Prop :=
  ((0 : Int32) = 0) ∧
  (n_Jx4a65c_grow_d5877)
def n_Jx4a65c_add_9ea2d_z : Prop :=
  (n_Jx4a65c_add_72be8_z)
def n_Jx4a65c_add_72be8 (n : Nat) : Prop :=
  (¬ (nI n) = 10) ∧
  (0 < n) ∧
  (n < 10)
def n_Jx4a65c_add_9ea2d (n : Nat) : Prop :=
  (n_Jx4a65c_add_72be8 n)
def f_X7_lot_e (p1 : Int32) (p2 : Int32) (p3 : Int32) (p4 : Int32) (n : Nat) : Int32 × Int32 :=
  if (f_X7_in p1 0 3) = 0 then (match f_X7_no 1 with | (r_3, u_4) => (r_3, u_4)) else (if (f_X7_in p2 0 2) = 0 then (match f_X7_no 1 with | (r_7, u_8) => (r_7, u_8)) else (if (f_X7_in p3 1 60) = 0 then (match f_X7_no 1 with | (r_11, u_12) => (r_11, u_12)) else (if (f_X7_in p4 0 30) = 0 then (match f_X7_no 1 with | (r_20, u_21) => (r_20, u_21)) else (if (f_Jx4a65c_size_8abf5 (nI n)) = 10 then (match f_X7_no 2 with | (r_18, u_19) => (r_18, u_19)) else (default : Int32 × Int32)))))
def n_X7_lot_e (p1 : Int32) (p2 : Int32) (p3 : Int32) (p4 : Int32) (n : Nat) : Prop :=
  ((¬ (f_X7_in p1 0 3) = 0) → (¬ (f_X7_in p2 0 2) = 0) → (¬ (f_X7_in p3 1 60) = 0) → (¬ (f_X7_in p4 0 30) = 0) → (¬ (f_Jx4a65c_size_8abf5 (nI n)) = 10) → False)
def n_X7_lot_p (p1 : Int32) (p2 : Int32) (p3 : Int32) (p4 : Int32) (n : Nat) : Prop :=
  (¬ (f_X7_in p1 0 3) = 0) ∧
  (¬ (f_X7_in p2 0 2) = 0) ∧
  (¬ (f_X7_in p3 1 60) = 0) ∧
  (¬ (f_X7_in p4 0 30) = 0) ∧
  (¬ (f_Jx4a65c_size_8abf5 (nI n)) = 10) ∧
  (vp_in 0 5) ∧
  (vp_in 1 5) ∧
  (vp_in 2 5) ∧
  (vp_in 3 5) ∧
  (vp_in 4 5) ∧
  (vp_in (f_Jx4a65c_size_8abf5 (nI n)) 10) ∧
  (n_Jx4a65c_add_9ea2d n)
def n_X7_lot_z (p1 : Int32) (p2 : Int32) (p3 : Int32) (p4 : Int32) : Prop :=
  (¬ (f_X7_in p1 0 3) = 0) ∧
  (¬ (f_X7_in p2 0 2) = 0) ∧
  (¬ (f_X7_in p3 1 60) = 0) ∧
  (¬ (f_X7_in p4 0 30) = 0) ∧
  (¬ (f_Jx4a65c_size_8abf5 0) = 10) ∧
  (vp_in 0 5) ∧
  (vp_in 1 5) ∧
  (vp_in 2 5) ∧
  (vp_in 3 5) ∧
  (vp_in 4 5) ∧
  (vp_in (f_Jx4a65c_size_8abf5 0) 10) ∧
  (n_Jx4a65c_add_9ea2d_z)
def f_J9_getExponent_b4643 (p0 : UInt64) : Int32 :=
  (((p0.toInt64 &&& 9218868437227405312) >>> ((52 : Int32).toInt64 &&& 63)) - 1023).toInt32
def f_Jxfc994_floorOrCeil_f4a47 (p0 : UInt64) (p1 : UInt64) (p2 : UInt64) (p3 : UInt64) : UInt64 :=
  if 0 ≤ (f_J9_getExponent_b4643 p0) then (if (f_J9_getExponent_b4643 p0) < 52 then (if (lg_cmp ((4503599627370495 >>> ((f_J9_getExponent_b4643 p0 : Int32).toInt64 &&& 63)) &&& p0.toInt64) 0) = 0 then p0 else (if (Op.cmpValue (FP.dcmp (FP.dmul p3 p0) FP.dconst0) .l) ≤ 0 then ((p0.toInt64 &&& ((4503599627370495 >>> ((f_J9_getExponent_b4643 p0 : Int32).toInt64 &&& 63)) ^^^ (-1))).toUInt64) else (FP.dadd ((p0.toInt64 &&& ((4503599627370495 >>> ((f_J9_getExponent_b4643 p0 : Int32).toInt64 &&& 63)) ^^^ (-1))).toUInt64) p3))) else p0) else (if (Op.cmpValue (FP.dcmp p0 FP.dconst0) .l) = 0 then p0 else (if 0 ≤ (Op.cmpValue (FP.dcmp p0 FP.dconst0) .g) then p2 else p1))
def n_Jxfc994_floorOrCeil_f4a47 (p0 : UInt64) (p3 : UInt64) : Prop :=
  (¬ (1 : Int32) = 0) ∧
  ((0 ≤ (f_J9_getExponent_b4643 p0)) → ((f_J9_getExponent_b4643 p0) < 52) → (¬ (lg_cmp ((4503599627370495 >>> ((f_J9_getExponent_b4643 p0 : Int32).toInt64 &&& 63)) &&& p0.toInt64) 0) = 0) → vn_snl2d (p0.toInt64 &&& ((4503599627370495 >>> ((f_J9_getExponent_b4643 p0 : Int32).toInt64 &&& 63)) ^^^ (-1))) = false) ∧
  ((0 ≤ (f_J9_getExponent_b4643 p0)) → ((f_J9_getExponent_b4643 p0) < 52) → (¬ (lg_cmp ((4503599627370495 >>> ((f_J9_getExponent_b4643 p0 : Int32).toInt64 &&& 63)) &&& p0.toInt64) 0) = 0) → vf_n64 (FP.dmul p3 p0)) ∧
  ((0 ≤ (f_J9_getExponent_b4643 p0)) → ((f_J9_getExponent_b4643 p0) < 52) → (¬ (lg_cmp ((4503599627370495 >>> ((f_J9_getExponent_b4643 p0 : Int32).toInt64 &&& 63)) &&& p0.toInt64) 0) = 0) → (¬ (Op.cmpValue (FP.dcmp (FP.dmul p3 p0) FP.dconst0) .l) ≤ 0) → vf_n64 (FP.dadd ((p0.toInt64 &&& ((4503599627370495 >>> ((f_J9_getExponent_b4643 p0 : Int32).toInt64 &&& 63)) ^^^ (-1))).toUInt64) p3))
def f_Jxfc994_ceil_294c1 (p0 : UInt64) : UInt64 :=
  f_Jxfc994_floorOrCeil_f4a47 p0 9223372036854775808 FP.dconst1 FP.dconst1
def n_Jxfc994_ceil_294c1 (p0 : UInt64) : Prop :=
  (n_Jxfc994_floorOrCeil_f4a47 p0 FP.dconst1)
def f_X4_today (tk : Int32) : Int32 :=
  tk / 48
def f_X4_hourNow (tk : Int32) : Int32 :=
  tk - tk / 48 * 48
def f_X4_ageOn (mo : Int32) (p1 : Int32) : Int32 :=
  (mo + (p1 / 48)) - (mo + (p1 / 48)) / 30 * 30
def f_X4_springOf (p1 : Int32) : Int32 :=
  if (if 0 ≤ (p1 - 15) then (p1 - 15) else 0 - (p1 - 15)) < (if (30 - p1) < p1 then (30 - p1) else p1) then (if 0 ≤ (p1 - 15) then (p1 - 15) else 0 - (p1 - 15)) else (if (30 - p1) < p1 then (30 - p1) else p1)
def f_X4_rangeOn (mo : Int32) (p1 : Int32) : UInt64 :=
  FP.dsub 4616189618054758400 (FP.dmul 4598175219545276416 (FP.i2d (f_X4_springOf (f_X4_ageOn mo p1))))
def n_X4_rangeOn (mo : Int32) (p1 : Int32) : Prop :=
  (vf_n64 (FP.dmul 4598175219545276416 (FP.i2d (f_X4_springOf (f_X4_ageOn mo p1))))) ∧
  (vf_n64 (FP.dsub 4616189618054758400 (FP.dmul 4598175219545276416 (FP.i2d (f_X4_springOf (f_X4_ageOn mo p1))))))
def f_X4_phaseOn (p1 : Int32) : UInt64 :=
  FP.ddiv (FP.i2d ((p1 * 4) - (p1 * 4) / 99 * 99)) 4616189618054758400
def n_X4_phaseOn (p1 : Int32) : Prop :=
  (vf_n64 (FP.ddiv (FP.i2d ((p1 * 4) - (p1 * 4) / 99 * 99)) 4616189618054758400))
def f_X4_heightOn (mo : Int32) (su : UInt64) (p1 : Int32) : UInt64 :=
  if 0 ≤ (Op.cmpValue (FP.dcmp (f_X4_phaseOn p1) 4622945017495814144) .g) then (FP.dsub (FP.dadd su (FP.dmul (f_X4_rangeOn mo p1) (FP.ddiv (FP.dsub 4627659723355717632 (f_X4_phaseOn p1)) 4623367229960880128))) (FP.dmul (f_X4_rangeOn mo p1) 4602678819172646912)) else (FP.dsub (FP.dadd su (FP.dmul (f_X4_rangeOn mo p1) (FP.ddiv (f_X4_phaseOn p1) 4622945017495814144))) (FP.dmul (f_X4_rangeOn mo p1) 4602678819172646912))
def n_X4_heightOn (mo : Int32) (su : UInt64) (p1 : Int32) : Prop :=
  (n_X4_rangeOn mo p1) ∧
  (n_X4_phaseOn p1) ∧
  ((0 ≤ (Op.cmpValue (FP.dcmp (f_X4_phaseOn p1) 4622945017495814144) .g)) → vf_n64 (FP.dsub 4627659723355717632 (f_X4_phaseOn p1))) ∧
  ((0 ≤ (Op.cmpValue (FP.dcmp (f_X4_phaseOn p1) 4622945017495814144) .g)) → vf_n64 (FP.ddiv (FP.dsub 4627659723355717632 (f_X4_phaseOn p1)) 4623367229960880128)) ∧
  ((0 ≤ (Op.cmpValue (FP.dcmp (f_X4_phaseOn p1) 4622945017495814144) .g)) → vf_n64 (FP.dmul (f_X4_rangeOn mo p1) (FP.ddiv (FP.dsub 4627659723355717632 (f_X4_phaseOn p1)) 4623367229960880128))) ∧
  ((0 ≤ (Op.cmpValue (FP.dcmp (f_X4_phaseOn p1) 4622945017495814144) .g)) → vf_n64 (FP.dadd su (FP.dmul (f_X4_rangeOn mo p1) (FP.ddiv (FP.dsub 4627659723355717632 (f_X4_phaseOn p1)) 4623367229960880128)))) ∧
  ((0 ≤ (Op.cmpValue (FP.dcmp (f_X4_phaseOn p1) 4622945017495814144) .g)) → vf_n64 (FP.dmul (f_X4_rangeOn mo p1) 4602678819172646912)) ∧
  ((0 ≤ (Op.cmpValue (FP.dcmp (f_X4_phaseOn p1) 4622945017495814144) .g)) → vf_n64 (FP.dsub (FP.dadd su (FP.dmul (f_X4_rangeOn mo p1) (FP.ddiv (FP.dsub 4627659723355717632 (f_X4_phaseOn p1)) 4623367229960880128))) (FP.dmul (f_X4_rangeOn mo p1) 4602678819172646912))) ∧
  ((¬ 0 ≤ (Op.cmpValue (FP.dcmp (f_X4_phaseOn p1) 4622945017495814144) .g)) → vf_n64 (FP.ddiv (f_X4_phaseOn p1) 4622945017495814144)) ∧
  ((¬ 0 ≤ (Op.cmpValue (FP.dcmp (f_X4_phaseOn p1) 4622945017495814144) .g)) → vf_n64 (FP.dmul (f_X4_rangeOn mo p1) (FP.ddiv (f_X4_phaseOn p1) 4622945017495814144))) ∧
  ((¬ 0 ≤ (Op.cmpValue (FP.dcmp (f_X4_phaseOn p1) 4622945017495814144) .g)) → vf_n64 (FP.dadd su (FP.dmul (f_X4_rangeOn mo p1) (FP.ddiv (f_X4_phaseOn p1) 4622945017495814144)))) ∧
  ((¬ 0 ≤ (Op.cmpValue (FP.dcmp (f_X4_phaseOn p1) 4622945017495814144) .g)) → vf_n64 (FP.dmul (f_X4_rangeOn mo p1) 4602678819172646912)) ∧
  ((¬ 0 ≤ (Op.cmpValue (FP.dcmp (f_X4_phaseOn p1) 4622945017495814144) .g)) → vf_n64 (FP.dsub (FP.dadd su (FP.dmul (f_X4_rangeOn mo p1) (FP.ddiv (f_X4_phaseOn p1) 4622945017495814144))) (FP.dmul (f_X4_rangeOn mo p1) 4602678819172646912)))
def f_X3_area (si : UInt32) : UInt64 :=
  FP.dsub 4620693217682128896 (FP.f2d si)
def n_X3_area (si : UInt32) : Prop :=
  (vf_n64 (FP.f2d si)) ∧
  (vf_n64 (FP.dsub 4620693217682128896 (FP.f2d si)))
def f_X3_fill (lv : UInt64) (si : UInt32) (ga : Int32) (p1 : UInt64) : UInt64 × UInt32 :=
  if ga ≤ 0 then (lv, si) else (if (Op.cmpValue (FP.dcmp p1 lv) .l) ≤ 0 then (lv, si) else (if (Op.cmpValue (FP.fcmp (FP.fadd si (FP.fdiv (FP.d2f (FP.dmul (FP.dmul (FP.i2d ga) (FP.dsub p1 lv)) 4602678819172646912)) 1115684864)) 1082130432) .l) ≤ 0 then (FP.dadd lv (FP.ddiv (FP.dmul (FP.dmul (FP.i2d ga) (FP.dsub p1 lv)) 4602678819172646912) (f_X3_area si)), FP.fadd si (FP.fdiv (FP.d2f (FP.dmul (FP.dmul (FP.i2d ga) (FP.dsub p1 lv)) 4602678819172646912)) 1115684864)) else (FP.dadd lv (FP.ddiv (FP.dmul (FP.dmul (FP.i2d ga) (FP.dsub p1 lv)) 4602678819172646912) (f_X3_area si)), 1082130432)))
def n_X3_fill (lv : UInt64) (si : UInt32) (ga : Int32) (p1 : UInt64) : Prop :=
  ((¬ ga ≤ 0) → (¬ (Op.cmpValue (FP.dcmp p1 lv) .l) ≤ 0) → vf_n64 (FP.dsub p1 lv)) ∧
  ((¬ ga ≤ 0) → (¬ (Op.cmpValue (FP.dcmp p1 lv) .l) ≤ 0) → vf_n64 (FP.dmul (FP.i2d ga) (FP.dsub p1 lv))) ∧
  ((¬ ga ≤ 0) → (¬ (Op.cmpValue (FP.dcmp p1 lv) .l) ≤ 0) → vf_n64 (FP.dmul (FP.dmul (FP.i2d ga) (FP.dsub p1 lv)) 4602678819172646912)) ∧
  ((¬ ga ≤ 0) → (¬ (Op.cmpValue (FP.dcmp p1 lv) .l) ≤ 0) → n_X3_area si) ∧
  ((¬ ga ≤ 0) → (¬ (Op.cmpValue (FP.dcmp p1 lv) .l) ≤ 0) → vf_n64 (FP.ddiv (FP.dmul (FP.dmul (FP.i2d ga) (FP.dsub p1 lv)) 4602678819172646912) (f_X3_area si))) ∧
  ((¬ ga ≤ 0) → (¬ (Op.cmpValue (FP.dcmp p1 lv) .l) ≤ 0) → vf_n64 (FP.dadd lv (FP.ddiv (FP.dmul (FP.dmul (FP.i2d ga) (FP.dsub p1 lv)) 4602678819172646912) (f_X3_area si)))) ∧
  ((¬ ga ≤ 0) → (¬ (Op.cmpValue (FP.dcmp p1 lv) .l) ≤ 0) → vf_n32 (FP.d2f (FP.dmul (FP.dmul (FP.i2d ga) (FP.dsub p1 lv)) 4602678819172646912))) ∧
  ((¬ ga ≤ 0) → (¬ (Op.cmpValue (FP.dcmp p1 lv) .l) ≤ 0) → vf_n32 (FP.fdiv (FP.d2f (FP.dmul (FP.dmul (FP.i2d ga) (FP.dsub p1 lv)) 4602678819172646912)) 1115684864)) ∧
  ((¬ ga ≤ 0) → (¬ (Op.cmpValue (FP.dcmp p1 lv) .l) ≤ 0) → vf_n32 (FP.fadd si (FP.fdiv (FP.d2f (FP.dmul (FP.dmul (FP.i2d ga) (FP.dsub p1 lv)) 4602678819172646912)) 1115684864)))
def f_X3_turnWheel (lv : UInt64) (si : UInt32) (sl : Int32) (p1 : UInt64) : UInt64 × UInt64 :=
  if (Op.cmpValue (FP.dcmp p1 13826050856027422720) .l) ≤ 0 then (if sl ≤ 0 then (lv, FP.dconst0) else (if (Op.cmpValue (FP.dcmp (FP.dsub lv 13826050856027422720) 4602678819172646912) .l) < 0 then (lv, FP.dconst0) else (FP.dsub lv (FP.ddiv (FP.dmul (FP.dmul (FP.i2d sl) (FP.dsub lv 13826050856027422720)) 4598175219545276416) (f_X3_area si)), FP.dmul (FP.dmul (FP.dmul (FP.i2d sl) (FP.dsub lv 13826050856027422720)) 4598175219545276416) (FP.dsub lv 13826050856027422720)))) else (if sl ≤ 0 then (lv, FP.dconst0) else (if (Op.cmpValue (FP.dcmp (FP.dsub lv p1) 4602678819172646912) .l) < 0 then (lv, FP.dconst0) else (FP.dsub lv (FP.ddiv (FP.dmul (FP.dmul (FP.i2d sl) (FP.dsub lv p1)) 4598175219545276416) (f_X3_area si)), FP.dmul (FP.dmul (FP.dmul (FP.i2d sl) (FP.dsub lv p1)) 4598175219545276416) (FP.dsub lv p1))))
def n_X3_turnWheel (lv : UInt64) (si : UInt32) (sl : Int32) (p1 : UInt64) : Prop :=
  (((Op.cmpValue (FP.dcmp p1 13826050856027422720) .l) ≤ 0) → vf_n64 (FP.dsub lv 13826050856027422720)) ∧
  (((Op.cmpValue (FP.dcmp p1 13826050856027422720) .l) ≤ 0) → (¬ sl ≤ 0) → (¬ (Op.cmpValue (FP.dcmp (FP.dsub lv 13826050856027422720) 4602678819172646912) .l) < 0) → vf_n64 (FP.dmul (FP.i2d sl) (FP.dsub lv 13826050856027422720))) ∧
  (((Op.cmpValue (FP.dcmp p1 13826050856027422720) .l) ≤ 0) → (¬ sl ≤ 0) → (¬ (Op.cmpValue (FP.dcmp (FP.dsub lv 13826050856027422720) 4602678819172646912) .l) < 0) → vf_n64 (FP.dmul (FP.dmul (FP.i2d sl) (FP.dsub lv 13826050856027422720)) 4598175219545276416)) ∧
  (((Op.cmpValue (FP.dcmp p1 13826050856027422720) .l) ≤ 0) → (¬ sl ≤ 0) → (¬ (Op.cmpValue (FP.dcmp (FP.dsub lv 13826050856027422720) 4602678819172646912) .l) < 0) → n_X3_area si) ∧
  (((Op.cmpValue (FP.dcmp p1 13826050856027422720) .l) ≤ 0) → (¬ sl ≤ 0) → (¬ (Op.cmpValue (FP.dcmp (FP.dsub lv 13826050856027422720) 4602678819172646912) .l) < 0) → vf_n64 (FP.ddiv (FP.dmul (FP.dmul (FP.i2d sl) (FP.dsub lv 13826050856027422720)) 4598175219545276416) (f_X3_area si))) ∧
  (((Op.cmpValue (FP.dcmp p1 13826050856027422720) .l) ≤ 0) → (¬ sl ≤ 0) → (¬ (Op.cmpValue (FP.dcmp (FP.dsub lv 13826050856027422720) 4602678819172646912) .l) < 0) → vf_n64 (FP.dsub lv (FP.ddiv (FP.dmul (FP.dmul (FP.i2d sl) (FP.dsub lv 13826050856027422720)) 4598175219545276416) (f_X3_area si)))) ∧
  (((Op.cmpValue (FP.dcmp p1 13826050856027422720) .l) ≤ 0) → (¬ sl ≤ 0) → (¬ (Op.cmpValue (FP.dcmp (FP.dsub lv 13826050856027422720) 4602678819172646912) .l) < 0) → vf_n64 (FP.dmul (FP.dmul (FP.dmul (FP.i2d sl) (FP.dsub lv 13826050856027422720)) 4598175219545276416) (FP.dsub lv 13826050856027422720))) ∧
  ((¬ (Op.cmpValue (FP.dcmp p1 13826050856027422720) .l) ≤ 0) → vf_n64 (FP.dsub lv p1)) ∧
  ((¬ (Op.cmpValue (FP.dcmp p1 13826050856027422720) .l) ≤ 0) → (¬ sl ≤ 0) → (¬ (Op.cmpValue (FP.dcmp (FP.dsub lv p1) 4602678819172646912) .l) < 0) → vf_n64 (FP.dmul (FP.i2d sl) (FP.dsub lv p1))) ∧
  ((¬ (Op.cmpValue (FP.dcmp p1 13826050856027422720) .l) ≤ 0) → (¬ sl ≤ 0) → (¬ (Op.cmpValue (FP.dcmp (FP.dsub lv p1) 4602678819172646912) .l) < 0) → vf_n64 (FP.dmul (FP.dmul (FP.i2d sl) (FP.dsub lv p1)) 4598175219545276416)) ∧
  ((¬ (Op.cmpValue (FP.dcmp p1 13826050856027422720) .l) ≤ 0) → (¬ sl ≤ 0) → (¬ (Op.cmpValue (FP.dcmp (FP.dsub lv p1) 4602678819172646912) .l) < 0) → n_X3_area si) ∧
  ((¬ (Op.cmpValue (FP.dcmp p1 13826050856027422720) .l) ≤ 0) → (¬ sl ≤ 0) → (¬ (Op.cmpValue (FP.dcmp (FP.dsub lv p1) 4602678819172646912) .l) < 0) → vf_n64 (FP.ddiv (FP.dmul (FP.dmul (FP.i2d sl) (FP.dsub lv p1)) 4598175219545276416) (f_X3_area si))) ∧
  ((¬ (Op.cmpValue (FP.dcmp p1 13826050856027422720) .l) ≤ 0) → (¬ sl ≤ 0) → (¬ (Op.cmpValue (FP.dcmp (FP.dsub lv p1) 4602678819172646912) .l) < 0) → vf_n64 (FP.dsub lv (FP.ddiv (FP.dmul (FP.dmul (FP.i2d sl) (FP.dsub lv p1)) 4598175219545276416) (f_X3_area si)))) ∧
  ((¬ (Op.cmpValue (FP.dcmp p1 13826050856027422720) .l) ≤ 0) → (¬ sl ≤ 0) → (¬ (Op.cmpValue (FP.dcmp (FP.dsub lv p1) 4602678819172646912) .l) < 0) → vf_n64 (FP.dmul (FP.dmul (FP.dmul (FP.i2d sl) (FP.dsub lv p1)) 4598175219545276416) (FP.dsub lv p1)))
def f_X3_scourOut (lv : UInt64) (si : UInt32) (sc : Int32) (p1 : UInt64) : UInt64 × UInt32 :=
  if sc = 0 then (lv, si) else (if (Op.cmpValue (FP.dcmp (FP.dsub lv p1) FP.dconst1) .l) < 0 then (lv, si) else (if 0 ≤ (Op.cmpValue (FP.fcmp (FP.fsub si 1040187392) FP.fconst0) .g) then (FP.dsub lv 4598175219545276416, FP.fsub si 1040187392) else (FP.dsub lv 4598175219545276416, FP.fconst0)))
def n_X3_scourOut (lv : UInt64) (si : UInt32) (sc : Int32) (p1 : UInt64) : Prop :=
  ((¬ sc = 0) → vf_n64 (FP.dsub lv p1)) ∧
  ((¬ sc = 0) → (¬ (Op.cmpValue (FP.dcmp (FP.dsub lv p1) FP.dconst1) .l) < 0) → vf_n64 (FP.dsub lv 4598175219545276416)) ∧
  ((¬ sc = 0) → (¬ (Op.cmpValue (FP.dcmp (FP.dsub lv p1) FP.dconst1) .l) < 0) → vf_n32 (FP.fsub si 1040187392))
def f_X3_goBy (lv : UInt64) (si : UInt32) (ga : Int32) (sl : Int32) (sc : Int32) (p1 : UInt64) : UInt64 × UInt32 × UInt64 :=
  (match f_X3_fill lv si ga p1 with | (u_3, u_4) => (match f_X3_turnWheel u_3 u_4 sl p1 with | (u_7, u_8) => (match f_X3_scourOut u_7 u_4 sc p1 with | (u_11, u_12) => (u_11, u_12, u_8))))
def n_X3_goBy (lv : UInt64) (si : UInt32) (ga : Int32) (sl : Int32) (sc : Int32) (p1 : UInt64) : Prop :=
  (n_X3_fill lv si ga p1) ∧
  (∀ (u_3 : UInt64) (u_4 : UInt32), (u_3, u_4) = f_X3_fill lv si ga p1 → n_X3_turnWheel u_3 u_4 sl p1) ∧
  (∀ (u_3 : UInt64) (u_4 : UInt32), (u_3, u_4) = f_X3_fill lv si ga p1 → ∀ (u_7 : UInt64) (u_8 : UInt64), (u_7, u_8) = f_X3_turnWheel u_3 u_4 sl p1 → n_X3_scourOut u_7 u_4 sc p1)
def f_X5_paceOf (p1 : Int32) : UInt64 :=
  if p1 = 0 then 4616189618054758400 else (if p1 = 1 then 4613937818241073152 else 4617315517961601024)
def f_X5_hardnessOf (p1 : Int32) : UInt32 :=
  if p1 = 1 then FP.fconst2 else FP.fconst1
def f_X5_priceOf (p1 : Int32) : Int32 :=
  if p1 = 0 then 3 else (if p1 = 1 then 2 else 1)
def f_X5_isWithin (p1 : Int32) (p2 : Int32) (p3 : Int32) : Int32 :=
  if p1 < p2 then 0 else (if p3 < p1 then 0 else 1)
def f_X5_roundedUp (p1 : UInt64) : Int32 :=
  if 0 ≤ (Op.cmpValue (FP.dcmp (FP.i2d (FP.d2i p1)) p1) .g) then (FP.d2i p1) else ((FP.d2i p1) + 1)
def f_X5_joined (p1 : Int64) (p2 : Int64) : Int64 :=
  (p1 * 31) + p2
def f_X5_cutOf1024 (p1 : UInt64) : Int64 :=
  FP.d2l (FP.dmul 4652218415073722368 p1)
def n_X5_cutOf1024 (p1 : UInt64) : Prop :=
  (vf_n64 (FP.dmul 4652218415073722368 p1))
def f_X0_has (ln : Int32) (p1 : Int32) : Int32 :=
  if p1 < 0 then 0 else (if ln ≤ p1 then 0 else 1)
def f_X0_bring (ln : Int32) (ow : Nat → Int32) (gr : Nat → Int32) (we : Nat → Int32) (du : Nat → Int32) (sa : Nat → Int32) (le : Nat → UInt64) (p1 : Int32) (p2 : Int32) (p3 : Int32) (p4 : Int32) : Int32 × Int32 × (Nat → Int32) × (Nat → Int32) × (Nat → Int32) × (Nat → Int32) × (Nat → Int32) × (Nat → UInt64) :=
  (ln, ln + 1, upd ow ln.toNatClampNeg p1, upd gr ln.toNatClampNeg p2, upd we ln.toNatClampNeg p3, upd du ln.toNatClampNeg p4, upd sa ln.toNatClampNeg 0, vf_upd le ln.toNatClampNeg (FP.i2d p3))
def n_X0_bring (ln : Int32) : Prop :=
  (vp_in ln 10)
def f_X0_grind (gr : Nat → Int32) (sa : Nat → Int32) (le : Nat → UInt64) (p1 : Int32) (p2 : UInt64) : (Nat → Int32) × (Nat → UInt64) :=
  if 0 ≤ (Op.cmpValue (FP.dcmp (FP.dsub (le p1.toNatClampNeg) (FP.dmul p2 (f_X5_paceOf (gr p1.toNatClampNeg)))) FP.dconst0) .g) then (if (Op.cmpValue (FP.dcmp ((vf_upd le p1.toNatClampNeg (FP.dsub (le p1.toNatClampNeg) (FP.dmul p2 (f_X5_paceOf (gr p1.toNatClampNeg))))) p1.toNatClampNeg) FP.dconst0) .l) = 0 then (upd sa p1.toNatClampNeg 2, vf_upd le p1.toNatClampNeg (FP.dsub (le p1.toNatClampNeg) (FP.dmul p2 (f_X5_paceOf (gr p1.toNatClampNeg))))) else (sa, vf_upd le p1.toNatClampNeg (FP.dsub (le p1.toNatClampNeg) (FP.dmul p2 (f_X5_paceOf (gr p1.toNatClampNeg)))))) else (if (Op.cmpValue (FP.dcmp ((vf_upd le p1.toNatClampNeg FP.dconst0) p1.toNatClampNeg) FP.dconst0) .l) = 0 then (upd sa p1.toNatClampNeg 2, vf_upd le p1.toNatClampNeg FP.dconst0) else (sa, vf_upd le p1.toNatClampNeg FP.dconst0))
def n_X0_grind (gr : Nat → Int32) (le : Nat → UInt64) (p1 : Int32) (p2 : UInt64) : Prop :=
  (vp_in p1 10) ∧
  (vf_n64 (FP.dmul p2 (f_X5_paceOf (gr p1.toNatClampNeg)))) ∧
  (vf_n64 (FP.dsub (le p1.toNatClampNeg) (FP.dmul p2 (f_X5_paceOf (gr p1.toNatClampNeg)))))
def f_X2_has (pn : Int32) (p1 : Int32) : Int32 :=
  if p1 < 0 then 0 else (if pn ≤ p1 then 0 else 1)
def f_X2_isFree (pl : Nat → Int32) (dr : Nat → Int32) (p1 : Int32) : Int32 :=
  if (pl p1.toNatClampNeg) = (-1) then (if (dr p1.toNatClampNeg) = 0 then 1 else 0) else 0
def n_X2_isFree (p1 : Int32) : Prop :=
  (vp_in p1 3)
def f_X2_lay (pn : Int32) (pl : Nat → Int32) : Int32 × Int32 × (Nat → Int32) :=
  (pn, pn + 1, upd pl pn.toNatClampNeg (-1))
def n_X2_lay (pn : Int32) : Prop :=
  (vp_in pn 3)
def f_X2_dressOn (dl : Nat → UInt32) (dr : Nat → Int32) (p1 : Int32) : (Nat → UInt32) × (Nat → Int32) :=
  if ((upd dr p1.toNatClampNeg ((dr p1.toNatClampNeg) - 1)) p1.toNatClampNeg) = 0 then (vf_upd dl p1.toNatClampNeg FP.fconst0, upd dr p1.toNatClampNeg ((dr p1.toNatClampNeg) - 1)) else (dl, upd dr p1.toNatClampNeg ((dr p1.toNatClampNeg) - 1))
def n_X2_dressOn (p1 : Int32) : Prop :=
  (vp_in p1 3)
def f_X2_blunt (dl : Nat → UInt32) (p1 : Int32) (p2 : UInt32) : (Nat → UInt32) :=
  if (Op.cmpValue (FP.fcmp (FP.fadd (dl p1.toNatClampNeg) p2) FP.fconst1) .l) ≤ 0 then (vf_upd dl p1.toNatClampNeg (FP.fadd (dl p1.toNatClampNeg) p2)) else (vf_upd dl p1.toNatClampNeg FP.fconst1)
def n_X2_blunt (dl : Nat → UInt32) (p1 : Int32) (p2 : UInt32) : Prop :=
  (vp_in p1 3) ∧
  (vf_n32 (FP.fadd (dl p1.toNatClampNeg) p2))
def f_X2_grind (dl : Nat → UInt32) (pl : Nat → Int32) (gr : Nat → Int32) (sa : Nat → Int32) (le : Nat → UInt64) (p1 : Int32) (p2 : UInt64) : UInt64 × (Nat → UInt32) × (Nat → Int32) × (Nat → Int32) × (Nat → UInt64) :=
  if 0 ≤ (Op.cmpValue (FP.dcmp (FP.dadd FP.dconst1 (FP.f2d (dl p1.toNatClampNeg))) p2) .g) then (match f_X0_grind gr sa le (pl p1.toNatClampNeg) (FP.ddiv p2 (FP.dadd FP.dconst1 (FP.f2d (dl p1.toNatClampNeg)))) with | (u_8, u_9) => if (u_8 (pl p1.toNatClampNeg).toNatClampNeg) = 2 then (p2, f_X2_blunt dl p1 (FP.fdiv (FP.fmul (FP.d2f (FP.ddiv p2 (FP.dadd FP.dconst1 (FP.f2d (dl p1.toNatClampNeg))))) (f_X5_hardnessOf (gr (pl p1.toNatClampNeg).toNatClampNeg))) 1115684864), upd pl p1.toNatClampNeg (-1), u_8, u_9) else (p2, f_X2_blunt dl p1 (FP.fdiv (FP.fmul (FP.d2f (FP.ddiv p2 (FP.dadd FP.dconst1 (FP.f2d (dl p1.toNatClampNeg))))) (f_X5_hardnessOf (gr (pl p1.toNatClampNeg).toNatClampNeg))) 1115684864), pl, u_8, u_9)) else (match f_X0_grind gr sa le (pl p1.toNatClampNeg) (FP.ddiv (FP.dadd FP.dconst1 (FP.f2d (dl p1.toNatClampNeg))) (FP.dadd FP.dconst1 (FP.f2d (dl p1.toNatClampNeg)))) with | (u_22, u_23) => if (u_22 (pl p1.toNatClampNeg).toNatClampNeg) = 2 then (FP.dadd FP.dconst1 (FP.f2d (dl p1.toNatClampNeg)), f_X2_blunt dl p1 (FP.fdiv (FP.fmul (FP.d2f (FP.ddiv (FP.dadd FP.dconst1 (FP.f2d (dl p1.toNatClampNeg))) (FP.dadd FP.dconst1 (FP.f2d (dl p1.toNatClampNeg))))) (f_X5_hardnessOf (gr (pl p1.toNatClampNeg).toNatClampNeg))) 1115684864), upd pl p1.toNatClampNeg (-1), u_22, u_23) else (FP.dadd FP.dconst1 (FP.f2d (dl p1.toNatClampNeg)), f_X2_blunt dl p1 (FP.fdiv (FP.fmul (FP.d2f (FP.ddiv (FP.dadd FP.dconst1 (FP.f2d (dl p1.toNatClampNeg))) (FP.dadd FP.dconst1 (FP.f2d (dl p1.toNatClampNeg))))) (f_X5_hardnessOf (gr (pl p1.toNatClampNeg).toNatClampNeg))) 1115684864), pl, u_22, u_23))
def n_X2_grind (dl : Nat → UInt32) (pl : Nat → Int32) (gr : Nat → Int32) (sa : Nat → Int32) (le : Nat → UInt64) (p1 : Int32) (p2 : UInt64) : Prop :=
  (vp_in p1 3) ∧
  (vf_n64 (FP.f2d (dl p1.toNatClampNeg))) ∧
  (vf_n64 (FP.dadd FP.dconst1 (FP.f2d (dl p1.toNatClampNeg)))) ∧
  ((0 ≤ (Op.cmpValue (FP.dcmp (FP.dadd FP.dconst1 (FP.f2d (dl p1.toNatClampNeg))) p2) .g)) → vf_n64 (FP.ddiv p2 (FP.dadd FP.dconst1 (FP.f2d (dl p1.toNatClampNeg))))) ∧
  ((0 ≤ (Op.cmpValue (FP.dcmp (FP.dadd FP.dconst1 (FP.f2d (dl p1.toNatClampNeg))) p2) .g)) → n_X0_grind gr le (pl p1.toNatClampNeg) (FP.ddiv p2 (FP.dadd FP.dconst1 (FP.f2d (dl p1.toNatClampNeg))))) ∧
  ((0 ≤ (Op.cmpValue (FP.dcmp (FP.dadd FP.dconst1 (FP.f2d (dl p1.toNatClampNeg))) p2) .g)) → ∀ (u_8 : Nat → Int32) (u_9 : Nat → UInt64), (u_8, u_9) = f_X0_grind gr sa le (pl p1.toNatClampNeg) (FP.ddiv p2 (FP.dadd FP.dconst1 (FP.f2d (dl p1.toNatClampNeg)))) → vf_n32 (FP.d2f (FP.ddiv p2 (FP.dadd FP.dconst1 (FP.f2d (dl p1.toNatClampNeg)))))) ∧
  ((0 ≤ (Op.cmpValue (FP.dcmp (FP.dadd FP.dconst1 (FP.f2d (dl p1.toNatClampNeg))) p2) .g)) → ∀ (u_8 : Nat → Int32) (u_9 : Nat → UInt64), (u_8, u_9) = f_X0_grind gr sa le (pl p1.toNatClampNeg) (FP.ddiv p2 (FP.dadd FP.dconst1 (FP.f2d (dl p1.toNatClampNeg)))) → vp_in (pl p1.toNatClampNeg) 10) ∧
  ((0 ≤ (Op.cmpValue (FP.dcmp (FP.dadd FP.dconst1 (FP.f2d (dl p1.toNatClampNeg))) p2) .g)) → ∀ (u_8 : Nat → Int32) (u_9 : Nat → UInt64), (u_8, u_9) = f_X0_grind gr sa le (pl p1.toNatClampNeg) (FP.ddiv p2 (FP.dadd FP.dconst1 (FP.f2d (dl p1.toNatClampNeg)))) → vf_n32 (FP.fmul (FP.d2f (FP.ddiv p2 (FP.dadd FP.dconst1 (FP.f2d (dl p1.toNatClampNeg))))) (f_X5_hardnessOf (gr (pl p1.toNatClampNeg).toNatClampNeg)))) ∧
  ((0 ≤ (Op.cmpValue (FP.dcmp (FP.dadd FP.dconst1 (FP.f2d (dl p1.toNatClampNeg))) p2) .g)) → ∀ (u_8 : Nat → Int32) (u_9 : Nat → UInt64), (u_8, u_9) = f_X0_grind gr sa le (pl p1.toNatClampNeg) (FP.ddiv p2 (FP.dadd FP.dconst1 (FP.f2d (dl p1.toNatClampNeg)))) → vf_n32 (FP.fdiv (FP.fmul (FP.d2f (FP.ddiv p2 (FP.dadd FP.dconst1 (FP.f2d (dl p1.toNatClampNeg))))) (f_X5_hardnessOf (gr (pl p1.toNatClampNeg).toNatClampNeg))) 1115684864)) ∧
  ((0 ≤ (Op.cmpValue (FP.dcmp (FP.dadd FP.dconst1 (FP.f2d (dl p1.toNatClampNeg))) p2) .g)) → ∀ (u_8 : Nat → Int32) (u_9 : Nat → UInt64), (u_8, u_9) = f_X0_grind gr sa le (pl p1.toNatClampNeg) (FP.ddiv p2 (FP.dadd FP.dconst1 (FP.f2d (dl p1.toNatClampNeg)))) → n_X2_blunt dl p1 (FP.fdiv (FP.fmul (FP.d2f (FP.ddiv p2 (FP.dadd FP.dconst1 (FP.f2d (dl p1.toNatClampNeg))))) (f_X5_hardnessOf (gr (pl p1.toNatClampNeg).toNatClampNeg))) 1115684864)) ∧
  ((¬ 0 ≤ (Op.cmpValue (FP.dcmp (FP.dadd FP.dconst1 (FP.f2d (dl p1.toNatClampNeg))) p2) .g)) → vf_n64 (FP.ddiv (FP.dadd FP.dconst1 (FP.f2d (dl p1.toNatClampNeg))) (FP.dadd FP.dconst1 (FP.f2d (dl p1.toNatClampNeg))))) ∧
  ((¬ 0 ≤ (Op.cmpValue (FP.dcmp (FP.dadd FP.dconst1 (FP.f2d (dl p1.toNatClampNeg))) p2) .g)) → n_X0_grind gr le (pl p1.toNatClampNeg) (FP.ddiv (FP.dadd FP.dconst1 (FP.f2d (dl p1.toNatClampNeg))) (FP.dadd FP.dconst1 (FP.f2d (dl p1.toNatClampNeg))))) ∧
  ((¬ 0 ≤ (Op.cmpValue (FP.dcmp (FP.dadd FP.dconst1 (FP.f2d (dl p1.toNatClampNeg))) p2) .g)) → ∀ (u_22 : Nat → Int32) (u_23 : Nat → UInt64), (u_22, u_23) = f_X0_grind gr sa le (pl p1.toNatClampNeg) (FP.ddiv (FP.dadd FP.dconst1 (FP.f2d (dl p1.toNatClampNeg))) (FP.dadd FP.dconst1 (FP.f2d (dl p1.toNatClampNeg)))) → vf_n32 (FP.d2f (FP.ddiv (FP.dadd FP.dconst1 (FP.f2d (dl p1.toNatClampNeg))) (FP.dadd FP.dconst1 (FP.f2d (dl p1.toNatClampNeg)))))) ∧
  ((¬ 0 ≤ (Op.cmpValue (FP.dcmp (FP.dadd FP.dconst1 (FP.f2d (dl p1.toNatClampNeg))) p2) .g)) → ∀ (u_22 : Nat → Int32) (u_23 : Nat → UInt64), (u_22, u_23) = f_X0_grind gr sa le (pl p1.toNatClampNeg) (FP.ddiv (FP.dadd FP.dconst1 (FP.f2d (dl p1.toNatClampNeg))) (FP.dadd FP.dconst1 (FP.f2d (dl p1.toNatClampNeg)))) → vp_in (pl p1.toNatClampNeg) 10) ∧
  ((¬ 0 ≤ (Op.cmpValue (FP.dcmp (FP.dadd FP.dconst1 (FP.f2d (dl p1.toNatClampNeg))) p2) .g)) → ∀ (u_22 : Nat → Int32) (u_23 : Nat → UInt64), (u_22, u_23) = f_X0_grind gr sa le (pl p1.toNatClampNeg) (FP.ddiv (FP.dadd FP.dconst1 (FP.f2d (dl p1.toNatClampNeg))) (FP.dadd FP.dconst1 (FP.f2d (dl p1.toNatClampNeg)))) → vf_n32 (FP.fmul (FP.d2f (FP.ddiv (FP.dadd FP.dconst1 (FP.f2d (dl p1.toNatClampNeg))) (FP.dadd FP.dconst1 (FP.f2d (dl p1.toNatClampNeg))))) (f_X5_hardnessOf (gr (pl p1.toNatClampNeg).toNatClampNeg)))) ∧
  ((¬ 0 ≤ (Op.cmpValue (FP.dcmp (FP.dadd FP.dconst1 (FP.f2d (dl p1.toNatClampNeg))) p2) .g)) → ∀ (u_22 : Nat → Int32) (u_23 : Nat → UInt64), (u_22, u_23) = f_X0_grind gr sa le (pl p1.toNatClampNeg) (FP.ddiv (FP.dadd FP.dconst1 (FP.f2d (dl p1.toNatClampNeg))) (FP.dadd FP.dconst1 (FP.f2d (dl p1.toNatClampNeg)))) → vf_n32 (FP.fdiv (FP.fmul (FP.d2f (FP.ddiv (FP.dadd FP.dconst1 (FP.f2d (dl p1.toNatClampNeg))) (FP.dadd FP.dconst1 (FP.f2d (dl p1.toNatClampNeg))))) (f_X5_hardnessOf (gr (pl p1.toNatClampNeg).toNatClampNeg))) 1115684864)) ∧
  ((¬ 0 ≤ (Op.cmpValue (FP.dcmp (FP.dadd FP.dconst1 (FP.f2d (dl p1.toNatClampNeg))) p2) .g)) → ∀ (u_22 : Nat → Int32) (u_23 : Nat → UInt64), (u_22, u_23) = f_X0_grind gr sa le (pl p1.toNatClampNeg) (FP.ddiv (FP.dadd FP.dconst1 (FP.f2d (dl p1.toNatClampNeg))) (FP.dadd FP.dconst1 (FP.f2d (dl p1.toNatClampNeg)))) → n_X2_blunt dl p1 (FP.fdiv (FP.fmul (FP.d2f (FP.ddiv (FP.dadd FP.dconst1 (FP.f2d (dl p1.toNatClampNeg))) (FP.dadd FP.dconst1 (FP.f2d (dl p1.toNatClampNeg))))) (f_X5_hardnessOf (gr (pl p1.toNatClampNeg).toNatClampNeg))) 1115684864))
def f_X2_spark (dl : Nat → UInt32) (sp : Nat → Int32) (p1 : Int32) : (Nat → UInt32) × (Nat → Int32) :=
  (f_X2_blunt dl p1 1040187392, upd sp p1.toNatClampNeg ((sp p1.toNatClampNeg) + 1))
def n_X2_spark (dl : Nat → UInt32) (p1 : Int32) : Prop :=
  (vp_in p1 3) ∧
  (n_X2_blunt dl p1 1040187392)
def f_X0_countOf_4 (ln : Int32) (sa : Nat → Int32) (p1 : Int32) : Nat → Int32 → Int32 → Int32
  | 0, x4_0, x4_1 => 0
  | fuel + 1, x4_0, x4_1 => if ln ≤ x4_1 then x4_0 else (if (sa x4_1.toNatClampNeg) = p1 then (f_X0_countOf_4 ln sa p1 fuel (x4_0 + 1) (x4_1 + 1)) else (f_X0_countOf_4 ln sa p1 fuel x4_0 (x4_1 + 1)))
def n_X0_countOf_4 (ln : Int32) (sa : Nat → Int32) (p1 : Int32) : Nat → Int32 → Int32 → Prop
  | 0, x4_0, x4_1 => False
  | fuel + 1, x4_0, x4_1 => ((¬ ln ≤ x4_1) → vp_in x4_1 10) ∧
  ((¬ ln ≤ x4_1) → (¬ (sa x4_1.toNatClampNeg) = p1) → n_X0_countOf_4 ln sa p1 fuel x4_0 (x4_1 + 1)) ∧
  ((¬ ln ≤ x4_1) → ((sa x4_1.toNatClampNeg) = p1) → n_X0_countOf_4 ln sa p1 fuel (x4_0 + 1) (x4_1 + 1))
def f_X0_countOf (ln : Int32) (sa : Nat → Int32) (p1 : Int32) : Int32 :=
  f_X0_countOf_4 ln sa p1 12 0 0
def n_X0_countOf (ln : Int32) (sa : Nat → Int32) (p1 : Int32) : Prop :=
  (n_X0_countOf_4 ln sa p1 12 0 0)
def f_X0_weightOf_5 (ln : Int32) (ow : Nat → Int32) (we : Nat → Int32) (sa : Nat → Int32) (p1 : Int32) (p2 : Int32) : Nat → Int32 → Int32 → Int32
  | 0, x5_0, x5_1 => 0
  | fuel + 1, x5_0, x5_1 => if ln ≤ x5_1 then x5_0 else (if (ow x5_1.toNatClampNeg) = p1 then (if p2 = 0 then (if (sa x5_1.toNatClampNeg) = 3 then (f_X0_weightOf_5 ln ow we sa p1 p2 fuel x5_0 (x5_1 + 1)) else (f_X0_weightOf_5 ln ow we sa p1 p2 fuel (x5_0 + (we x5_1.toNatClampNeg)) (x5_1 + 1))) else (f_X0_weightOf_5 ln ow we sa p1 p2 fuel (x5_0 + (we x5_1.toNatClampNeg)) (x5_1 + 1))) else (f_X0_weightOf_5 ln ow we sa p1 p2 fuel x5_0 (x5_1 + 1)))
def n_X0_weightOf_5 (ln : Int32) (ow : Nat → Int32) (we : Nat → Int32) (sa : Nat → Int32) (p1 : Int32) (p2 : Int32) : Nat → Int32 → Int32 → Prop
  | 0, x5_0, x5_1 => False
  | fuel + 1, x5_0, x5_1 => ((¬ ln ≤ x5_1) → vp_in x5_1 10) ∧
  ((¬ ln ≤ x5_1) → (¬ (ow x5_1.toNatClampNeg) = p1) → n_X0_weightOf_5 ln ow we sa p1 p2 fuel x5_0 (x5_1 + 1)) ∧
  ((¬ ln ≤ x5_1) → ((ow x5_1.toNatClampNeg) = p1) → (¬ p2 = 0) → n_X0_weightOf_5 ln ow we sa p1 p2 fuel (x5_0 + (we x5_1.toNatClampNeg)) (x5_1 + 1)) ∧
  ((¬ ln ≤ x5_1) → ((ow x5_1.toNatClampNeg) = p1) → (p2 = 0) → ((sa x5_1.toNatClampNeg) = 3) → n_X0_weightOf_5 ln ow we sa p1 p2 fuel x5_0 (x5_1 + 1)) ∧
  ((¬ ln ≤ x5_1) → ((ow x5_1.toNatClampNeg) = p1) → (p2 = 0) → (¬ (sa x5_1.toNatClampNeg) = 3) → n_X0_weightOf_5 ln ow we sa p1 p2 fuel (x5_0 + (we x5_1.toNatClampNeg)) (x5_1 + 1))
def f_X0_weightOf (ln : Int32) (ow : Nat → Int32) (we : Nat → Int32) (sa : Nat → Int32) (p1 : Int32) (p2 : Int32) : Int32 :=
  f_X0_weightOf_5 ln ow we sa p1 p2 12 0 0
def n_X0_weightOf (ln : Int32) (ow : Nat → Int32) (we : Nat → Int32) (sa : Nat → Int32) (p1 : Int32) (p2 : Int32) : Prop :=
  (n_X0_weightOf_5 ln ow we sa p1 p2 12 0 0)
def f_X0_allLeft_4 (ln : Int32) (le : Nat → UInt64) : Nat → UInt64 → Int32 → UInt64
  | 0, x4_0, x4_1 => 0
  | fuel + 1, x4_0, x4_1 => if ln ≤ x4_1 then x4_0 else (f_X0_allLeft_4 ln le fuel (FP.dadd x4_0 (le x4_1.toNatClampNeg)) (x4_1 + 1))
def n_X0_allLeft_4 (ln : Int32) (le : Nat → UInt64) : Nat → UInt64 → Int32 → Prop
  | 0, x4_0, x4_1 => False
  | fuel + 1, x4_0, x4_1 => ((¬ ln ≤ x4_1) → vp_in x4_1 10) ∧
  ((¬ ln ≤ x4_1) → vf_n64 (FP.dadd x4_0 (le x4_1.toNatClampNeg))) ∧
  ((¬ ln ≤ x4_1) → n_X0_allLeft_4 ln le fuel (FP.dadd x4_0 (le x4_1.toNatClampNeg)) (x4_1 + 1))
def f_X0_allLeft (ln : Int32) (le : Nat → UInt64) : UInt64 :=
  f_X0_allLeft_4 ln le 12 FP.dconst0 0
def n_X0_allLeft (ln : Int32) (le : Nat → UInt64) : Prop :=
  (n_X0_allLeft_4 ln le 12 FP.dconst0 0)
def f_X2_withLot_2 (pn : Int32) (pl : Nat → Int32) (p1 : Int32) : Nat → Int32 → Int32
  | 0, x2_0 => 0
  | fuel + 1, x2_0 => if pn ≤ x2_0 then (-1) else (if (pl x2_0.toNatClampNeg) = p1 then x2_0 else (f_X2_withLot_2 pn pl p1 fuel (x2_0 + 1)))
def n_X2_withLot_2 (pn : Int32) (pl : Nat → Int32) (p1 : Int32) : Nat → Int32 → Prop
  | 0, x2_0 => False
  | fuel + 1, x2_0 => ((¬ pn ≤ x2_0) → vp_in x2_0 3) ∧
  ((¬ pn ≤ x2_0) → (¬ (pl x2_0.toNatClampNeg) = p1) → n_X2_withLot_2 pn pl p1 fuel (x2_0 + 1))
def f_X2_withLot (pn : Int32) (pl : Nat → Int32) (p1 : Int32) : Int32 :=
  f_X2_withLot_2 pn pl p1 5 0
def n_X2_withLot (pn : Int32) (pl : Nat → Int32) (p1 : Int32) : Prop :=
  (n_X2_withLot_2 pn pl p1 5 0)
def f_X2_allSparks_4 (pn : Int32) (sp : Nat → Int32) : Nat → Int32 → Int32 → Int32
  | 0, x4_0, x4_1 => 0
  | fuel + 1, x4_0, x4_1 => if pn ≤ x4_1 then x4_0 else (f_X2_allSparks_4 pn sp fuel (x4_0 + (sp x4_1.toNatClampNeg)) (x4_1 + 1))
def n_X2_allSparks_4 (pn : Int32) (sp : Nat → Int32) : Nat → Int32 → Int32 → Prop
  | 0, x4_0, x4_1 => False
  | fuel + 1, x4_0, x4_1 => ((¬ pn ≤ x4_1) → vp_in x4_1 3) ∧
  ((¬ pn ≤ x4_1) → n_X2_allSparks_4 pn sp fuel (x4_0 + (sp x4_1.toNatClampNeg)) (x4_1 + 1))
def f_X2_allSparks (pn : Int32) (sp : Nat → Int32) : Int32 :=
  f_X2_allSparks_4 pn sp 5 0 0
def n_X2_allSparks (pn : Int32) (sp : Nat → Int32) : Prop :=
  (n_X2_allSparks_4 pn sp 5 0 0)
def f_X2_goBy_6 (pn : Int32) (ln : Int32) (gr : Nat → Int32) (p2 : Int32) : Nat → UInt64 → Int32 → (Nat → Int32) → (Nat → UInt64) → (Nat → UInt32) → (Nat → Int32) → (Nat → Int32) → (Nat → Int32) → (Nat → UInt32) × (Nat → Int32) × (Nat → Int32) × (Nat → Int32) × (Nat → Int32) × (Nat → UInt64)
  | 0, x6_0, x6_1, x6_2, x6_3, x6_4, x6_5, x6_6, x6_7 => (x6_4, x6_5, x6_6, x6_7, x6_2, x6_3)
  | fuel + 1, x6_0, x6_1, x6_2, x6_3, x6_4, x6_5, x6_6, x6_7 => if pn ≤ x6_1 then (x6_4, x6_5, x6_6, x6_7, x6_2, x6_3) else (if (x6_6 x6_1.toNatClampNeg) ≤ 0 then (if p2 = 0 then (if p2 = 0 then (f_X2_goBy_6 pn ln gr p2 fuel x6_0 (x6_1 + 1) x6_2 x6_3 x6_4 x6_5 x6_6 x6_7) else (if (Op.cmpValue (FP.dcmp x6_0 FP.dconst1) .l) ≤ 0 then (f_X2_goBy_6 pn ln gr p2 fuel x6_0 (x6_1 + 1) x6_2 x6_3 x6_4 x6_5 x6_6 x6_7) else (match f_X2_spark x6_4 x6_7 x6_1 with | (u_11, u_12) => f_X2_goBy_6 pn ln gr p2 fuel (FP.dsub x6_0 FP.dconst1) (x6_1 + 1) x6_2 x6_3 u_11 x6_5 x6_6 u_12))) else (if (f_X0_has ln (x6_5 x6_1.toNatClampNeg)) = 0 then (if p2 = 0 then (f_X2_goBy_6 pn ln gr p2 fuel x6_0 (x6_1 + 1) x6_2 x6_3 x6_4 x6_5 x6_6 x6_7) else (if (Op.cmpValue (FP.dcmp x6_0 FP.dconst1) .l) ≤ 0 then (f_X2_goBy_6 pn ln gr p2 fuel x6_0 (x6_1 + 1) x6_2 x6_3 x6_4 x6_5 x6_6 x6_7) else (match f_X2_spark x6_4 x6_7 x6_1 with | (u_23, u_24) => f_X2_goBy_6 pn ln gr p2 fuel (FP.dsub x6_0 FP.dconst1) (x6_1 + 1) x6_2 x6_3 u_23 x6_5 x6_6 u_24))) else (match f_X2_grind x6_4 x6_5 gr x6_2 x6_3 x6_1 x6_0 with | (r_28, u_29, u_30, u_31, u_32) => f_X2_goBy_6 pn ln gr p2 fuel (FP.dsub x6_0 r_28) (x6_1 + 1) u_31 u_32 u_29 u_30 x6_6 x6_7))) else (match f_X2_dressOn x6_4 x6_6 x6_1 with | (u_37, u_38) => f_X2_goBy_6 pn ln gr p2 fuel x6_0 (x6_1 + 1) x6_2 x6_3 u_37 x6_5 u_38 x6_7))
def n_X2_goBy_6 (pn : Int32) (ln : Int32) (gr : Nat → Int32) (p2 : Int32) : Nat → UInt64 → Int32 → (Nat → Int32) → (Nat → UInt64) → (Nat → UInt32) → (Nat → Int32) → (Nat → Int32) → (Nat → Int32) → Prop
  | 0, x6_0, x6_1, x6_2, x6_3, x6_4, x6_5, x6_6, x6_7 => False
  | fuel + 1, x6_0, x6_1, x6_2, x6_3, x6_4, x6_5, x6_6, x6_7 => ((¬ pn ≤ x6_1) → vp_in x6_1 3) ∧
  ((¬ pn ≤ x6_1) → ((x6_6 x6_1.toNatClampNeg) ≤ 0) → (p2 = 0) → (p2 = 0) → n_X2_goBy_6 pn ln gr p2 fuel x6_0 (x6_1 + 1) x6_2 x6_3 x6_4 x6_5 x6_6 x6_7) ∧
  ((¬ pn ≤ x6_1) → ((x6_6 x6_1.toNatClampNeg) ≤ 0) → (p2 = 0) → (¬ p2 = 0) → ((Op.cmpValue (FP.dcmp x6_0 FP.dconst1) .l) ≤ 0) → n_X2_goBy_6 pn ln gr p2 fuel x6_0 (x6_1 + 1) x6_2 x6_3 x6_4 x6_5 x6_6 x6_7) ∧
  ((¬ pn ≤ x6_1) → ((x6_6 x6_1.toNatClampNeg) ≤ 0) → (p2 = 0) → (¬ p2 = 0) → (¬ (Op.cmpValue (FP.dcmp x6_0 FP.dconst1) .l) ≤ 0) → n_X2_spark x6_4 x6_1) ∧
  ((¬ pn ≤ x6_1) → ((x6_6 x6_1.toNatClampNeg) ≤ 0) → (p2 = 0) → (¬ p2 = 0) → (¬ (Op.cmpValue (FP.dcmp x6_0 FP.dconst1) .l) ≤ 0) → ∀ (u_11 : Nat → UInt32) (u_12 : Nat → Int32), (u_11, u_12) = f_X2_spark x6_4 x6_7 x6_1 → vf_n64 (FP.dsub x6_0 FP.dconst1)) ∧
  ((¬ pn ≤ x6_1) → ((x6_6 x6_1.toNatClampNeg) ≤ 0) → (p2 = 0) → (¬ p2 = 0) → (¬ (Op.cmpValue (FP.dcmp x6_0 FP.dconst1) .l) ≤ 0) → ∀ (u_11 : Nat → UInt32) (u_12 : Nat → Int32), (u_11, u_12) = f_X2_spark x6_4 x6_7 x6_1 → n_X2_goBy_6 pn ln gr p2 fuel (FP.dsub x6_0 FP.dconst1) (x6_1 + 1) x6_2 x6_3 u_11 x6_5 x6_6 u_12) ∧
  ((¬ pn ≤ x6_1) → ((x6_6 x6_1.toNatClampNeg) ≤ 0) → (¬ p2 = 0) → ((f_X0_has ln (x6_5 x6_1.toNatClampNeg)) = 0) → (p2 = 0) → n_X2_goBy_6 pn ln gr p2 fuel x6_0 (x6_1 + 1) x6_2 x6_3 x6_4 x6_5 x6_6 x6_7) ∧
  ((¬ pn ≤ x6_1) → ((x6_6 x6_1.toNatClampNeg) ≤ 0) → (¬ p2 = 0) → ((f_X0_has ln (x6_5 x6_1.toNatClampNeg)) = 0) → (¬ p2 = 0) → ((Op.cmpValue (FP.dcmp x6_0 FP.dconst1) .l) ≤ 0) → n_X2_goBy_6 pn ln gr p2 fuel x6_0 (x6_1 + 1) x6_2 x6_3 x6_4 x6_5 x6_6 x6_7) ∧
  ((¬ pn ≤ x6_1) → ((x6_6 x6_1.toNatClampNeg) ≤ 0) → (¬ p2 = 0) → ((f_X0_has ln (x6_5 x6_1.toNatClampNeg)) = 0) → (¬ p2 = 0) → (¬ (Op.cmpValue (FP.dcmp x6_0 FP.dconst1) .l) ≤ 0) → n_X2_spark x6_4 x6_1) ∧
  ((¬ pn ≤ x6_1) → ((x6_6 x6_1.toNatClampNeg) ≤ 0) → (¬ p2 = 0) → ((f_X0_has ln (x6_5 x6_1.toNatClampNeg)) = 0) → (¬ p2 = 0) → (¬ (Op.cmpValue (FP.dcmp x6_0 FP.dconst1) .l) ≤ 0) → ∀ (u_23 : Nat → UInt32) (u_24 : Nat → Int32), (u_23, u_24) = f_X2_spark x6_4 x6_7 x6_1 → vf_n64 (FP.dsub x6_0 FP.dconst1)) ∧
  ((¬ pn ≤ x6_1) → ((x6_6 x6_1.toNatClampNeg) ≤ 0) → (¬ p2 = 0) → ((f_X0_has ln (x6_5 x6_1.toNatClampNeg)) = 0) → (¬ p2 = 0) → (¬ (Op.cmpValue (FP.dcmp x6_0 FP.dconst1) .l) ≤ 0) → ∀ (u_23 : Nat → UInt32) (u_24 : Nat → Int32), (u_23, u_24) = f_X2_spark x6_4 x6_7 x6_1 → n_X2_goBy_6 pn ln gr p2 fuel (FP.dsub x6_0 FP.dconst1) (x6_1 + 1) x6_2 x6_3 u_23 x6_5 x6_6 u_24) ∧
  ((¬ pn ≤ x6_1) → ((x6_6 x6_1.toNatClampNeg) ≤ 0) → (¬ p2 = 0) → (¬ (f_X0_has ln (x6_5 x6_1.toNatClampNeg)) = 0) → n_X2_grind x6_4 x6_5 gr x6_2 x6_3 x6_1 x6_0) ∧
  ((¬ pn ≤ x6_1) → ((x6_6 x6_1.toNatClampNeg) ≤ 0) → (¬ p2 = 0) → (¬ (f_X0_has ln (x6_5 x6_1.toNatClampNeg)) = 0) → ∀ (r_28 : UInt64) (u_29 : Nat → UInt32) (u_30 : Nat → Int32) (u_31 : Nat → Int32) (u_32 : Nat → UInt64), (r_28, u_29, u_30, u_31, u_32) = f_X2_grind x6_4 x6_5 gr x6_2 x6_3 x6_1 x6_0 → vf_n64 (FP.dsub x6_0 r_28)) ∧
  ((¬ pn ≤ x6_1) → ((x6_6 x6_1.toNatClampNeg) ≤ 0) → (¬ p2 = 0) → (¬ (f_X0_has ln (x6_5 x6_1.toNatClampNeg)) = 0) → ∀ (r_28 : UInt64) (u_29 : Nat → UInt32) (u_30 : Nat → Int32) (u_31 : Nat → Int32) (u_32 : Nat → UInt64), (r_28, u_29, u_30, u_31, u_32) = f_X2_grind x6_4 x6_5 gr x6_2 x6_3 x6_1 x6_0 → n_X2_goBy_6 pn ln gr p2 fuel (FP.dsub x6_0 r_28) (x6_1 + 1) u_31 u_32 u_29 u_30 x6_6 x6_7) ∧
  ((¬ pn ≤ x6_1) → (¬ (x6_6 x6_1.toNatClampNeg) ≤ 0) → n_X2_dressOn x6_1) ∧
  ((¬ pn ≤ x6_1) → (¬ (x6_6 x6_1.toNatClampNeg) ≤ 0) → ∀ (u_37 : Nat → UInt32) (u_38 : Nat → Int32), (u_37, u_38) = f_X2_dressOn x6_4 x6_6 x6_1 → n_X2_goBy_6 pn ln gr p2 fuel x6_0 (x6_1 + 1) x6_2 x6_3 u_37 x6_5 u_38 x6_7)
def f_X2_goBy (pn : Int32) (dl : Nat → UInt32) (pl : Nat → Int32) (dr : Nat → Int32) (sp : Nat → Int32) (ln : Int32) (gr : Nat → Int32) (sa : Nat → Int32) (le : Nat → UInt64) (p1 : UInt64) (p2 : Int32) : (Nat → UInt32) × (Nat → Int32) × (Nat → Int32) × (Nat → Int32) × (Nat → Int32) × (Nat → UInt64) :=
  f_X2_goBy_6 pn ln gr p2 5 p1 0 sa le dl pl dr sp
def n_X2_goBy (pn : Int32) (dl : Nat → UInt32) (pl : Nat → Int32) (dr : Nat → Int32) (sp : Nat → Int32) (ln : Int32) (gr : Nat → Int32) (sa : Nat → Int32) (le : Nat → UInt64) (p1 : UInt64) (p2 : Int32) : Prop :=
  (n_X2_goBy_6 pn ln gr p2 5 p1 0 sa le dl pl dr sp)
def n_X3_copyFrom (sc' : Int32) : Prop :=
  (tm_bool sc')
def n_X1_copyFrom (sc' : Int32) : Prop :=
  (n_X3_copyFrom sc')
def f_X1_isAwake (fh : Int32) (lh : Int32) (tk : Int32) : Int32 :=
  if fh ≤ lh then (if (f_X4_hourNow tk) < fh then 0 else (if lh < (f_X4_hourNow tk) then 0 else 1)) else (if fh ≤ (f_X4_hourNow tk) then 1 else (if lh < (f_X4_hourNow tk) then 0 else 1))
def f_X1_areEelsAbout (tk : Int32) (mo : Int32) : Int32 :=
  if (f_X4_ageOn mo tk) < 13 then 0 else (if 17 < (f_X4_ageOn mo tk) then 0 else (if (f_X4_hourNow tk) < 12 then 1 else (if (f_X4_hourNow tk) ≤ 35 then 0 else 1)))
def f_X4_ticksToHigh_2 (tk : Int32) : Nat → Int32 → Int32
  | 0, x2_0 => 0
  | fuel + 1, x2_0 => if 25 ≤ x2_0 then (-1) else (if (Op.cmpValue (FP.dcmp (f_X4_phaseOn (tk + x2_0)) 4622945017495814144) .l) < 0 then (f_X4_ticksToHigh_2 tk fuel (x2_0 + 1)) else (if 0 ≤ (Op.cmpValue (FP.dcmp (f_X4_phaseOn (tk + x2_0)) 4623507967449235456) .g) then (f_X4_ticksToHigh_2 tk fuel (x2_0 + 1)) else x2_0))
def n_X4_ticksToHigh_2 (tk : Int32) : Nat → Int32 → Prop
  | 0, x2_0 => False
  | fuel + 1, x2_0 => ((¬ 25 ≤ x2_0) → n_X4_phaseOn (tk + x2_0)) ∧
  ((¬ 25 ≤ x2_0) → ((Op.cmpValue (FP.dcmp (f_X4_phaseOn (tk + x2_0)) 4622945017495814144) .l) < 0) → n_X4_ticksToHigh_2 tk fuel (x2_0 + 1)) ∧
  ((¬ 25 ≤ x2_0) → (¬ (Op.cmpValue (FP.dcmp (f_X4_phaseOn (tk + x2_0)) 4622945017495814144) .l) < 0) → (0 ≤ (Op.cmpValue (FP.dcmp (f_X4_phaseOn (tk + x2_0)) 4623507967449235456) .g)) → n_X4_ticksToHigh_2 tk fuel (x2_0 + 1))
def f_X4_ticksToHigh (tk : Int32) : Int32 :=
  f_X4_ticksToHigh_2 tk 27 0
def n_X4_ticksToHigh (tk : Int32) : Prop :=
  (n_X4_ticksToHigh_2 tk 27 0)
def f_X1_goBy (fh : Int32) (lh : Int32) (ee : Int32) (tk : Int32) (mo : Int32) (su : UInt64) (lv : UInt64) (si : UInt32) (ga : Int32) (sl : Int32) (sc : Int32) (ln : Int32) (gr : Nat → Int32) (sa : Nat → Int32) (le : Nat → UInt64) (pn : Int32) (dl : Nat → UInt32) (pl : Nat → Int32) (dr : Nat → Int32) (sp : Nat → Int32) : Int32 × Int32 × UInt64 × UInt32 × UInt64 × (Nat → Int32) × (Nat → UInt64) × (Nat → UInt32) × (Nat → Int32) × (Nat → Int32) × (Nat → Int32) :=
  (match f_X3_goBy lv si ga sl sc (f_X4_heightOn mo su tk) with | (u_5, u_6, u_7) => (match f_X2_goBy pn dl pl dr sp ln gr sa le u_7 (f_X1_isAwake fh lh tk) with | (u_11, u_12, u_13, u_14, u_15, u_16) => if (Op.cmpValue (FP.dcmp u_7 FP.dconst0) .l) ≤ 0 then (ee, tk + 1, u_5, u_6, u_7, u_15, u_16, u_11, u_12, u_13, u_14) else (if (f_X1_areEelsAbout tk mo) = 0 then (ee, tk + 1, u_5, u_6, u_7, u_15, u_16, u_11, u_12, u_13, u_14) else (ee + sl, tk + 1, u_5, u_6, u_7, u_15, u_16, u_11, u_12, u_13, u_14))))
def n_X1_goBy (fh : Int32) (lh : Int32) (tk : Int32) (mo : Int32) (su : UInt64) (lv : UInt64) (si : UInt32) (ga : Int32) (sl : Int32) (sc : Int32) (ln : Int32) (gr : Nat → Int32) (sa : Nat → Int32) (le : Nat → UInt64) (pn : Int32) (dl : Nat → UInt32) (pl : Nat → Int32) (dr : Nat → Int32) (sp : Nat → Int32) : Prop :=
  (n_X4_heightOn mo su tk) ∧
  (n_X3_goBy lv si ga sl sc (f_X4_heightOn mo su tk)) ∧
  (∀ (u_5 : UInt64) (u_6 : UInt32) (u_7 : UInt64), (u_5, u_6, u_7) = f_X3_goBy lv si ga sl sc (f_X4_heightOn mo su tk) → n_X2_goBy pn dl pl dr sp ln gr sa le u_7 (f_X1_isAwake fh lh tk))
def f_X1_letGoBy_2 (fh : Int32) (lh : Int32) (mo : Int32) (su : UInt64) (ga : Int32) (sl : Int32) (sc : Int32) (ln : Int32) (gr : Nat → Int32) (pn : Int32) (p1 : Int32) : Nat → Int32 → Int32 → Int32 → UInt64 → UInt32 → UInt64 → (Nat → Int32) → (Nat → UInt64) → (Nat → UInt32) → (Nat → Int32) → (Nat → Int32) → (Nat → Int32) → Int32 × Int32 × UInt64 × UInt32 × UInt64 × (Nat → Int32) × (Nat → UInt64) × (Nat → UInt32) × (Nat → Int32) × (Nat → Int32) × (Nat → Int32)
  | 0, x2_0, x2_1, x2_2, x2_3, x2_4, x2_5, x2_6, x2_7, x2_8, x2_9, x2_10, x2_11 => (x2_1, x2_2, x2_3, x2_4, x2_5, x2_6, x2_7, x2_8, x2_9, x2_10, x2_11)
  | fuel + 1, x2_0, x2_1, x2_2, x2_3, x2_4, x2_5, x2_6, x2_7, x2_8, x2_9, x2_10, x2_11 => if p1 ≤ x2_0 then (x2_1, x2_2, x2_3, x2_4, x2_5, x2_6, x2_7, x2_8, x2_9, x2_10, x2_11) else (match f_X1_goBy fh lh x2_1 x2_2 mo su x2_3 x2_4 ga sl sc ln gr x2_6 x2_7 pn x2_8 x2_9 x2_10 x2_11 with | (u_4, u_5, u_6, u_7, u_8, u_9, u_10, u_11, u_12, u_13, u_14) => f_X1_letGoBy_2 fh lh mo su ga sl sc ln gr pn p1 fuel (x2_0 + 1) u_4 u_5 u_6 u_7 u_8 u_9 u_10 u_11 u_12 u_13 u_14)
def n_X1_letGoBy_2 (fh : Int32) (lh : Int32) (mo : Int32) (su : UInt64) (ga : Int32) (sl : Int32) (sc : Int32) (ln : Int32) (gr : Nat → Int32) (pn : Int32) (p1 : Int32) : Nat → Int32 → Int32 → Int32 → UInt64 → UInt32 → UInt64 → (Nat → Int32) → (Nat → UInt64) → (Nat → UInt32) → (Nat → Int32) → (Nat → Int32) → (Nat → Int32) → Prop
  | 0, x2_0, x2_1, x2_2, x2_3, x2_4, x2_5, x2_6, x2_7, x2_8, x2_9, x2_10, x2_11 => False
  | fuel + 1, x2_0, x2_1, x2_2, x2_3, x2_4, x2_5, x2_6, x2_7, x2_8, x2_9, x2_10, x2_11 => ((¬ p1 ≤ x2_0) → n_X1_goBy fh lh x2_2 mo su x2_3 x2_4 ga sl sc ln gr x2_6 x2_7 pn x2_8 x2_9 x2_10 x2_11) ∧
  ((¬ p1 ≤ x2_0) → ∀ (u_4 : Int32) (u_5 : Int32) (u_6 : UInt64) (u_7 : UInt32) (u_8 : UInt64) (u_9 : Nat → Int32) (u_10 : Nat → UInt64) (u_11 : Nat → UInt32) (u_12 : Nat → Int32) (u_13 : Nat → Int32) (u_14 : Nat → Int32), (u_4, u_5, u_6, u_7, u_8, u_9, u_10, u_11, u_12, u_13, u_14) = f_X1_goBy fh lh x2_1 x2_2 mo su x2_3 x2_4 ga sl sc ln gr x2_6 x2_7 pn x2_8 x2_9 x2_10 x2_11 → n_X1_letGoBy_2 fh lh mo su ga sl sc ln gr pn p1 fuel (x2_0 + 1) u_4 u_5 u_6 u_7 u_8 u_9 u_10 u_11 u_12 u_13 u_14)
def f_X1_letGoBy (fh : Int32) (lh : Int32) (ee : Int32) (tk : Int32) (mo : Int32) (su : UInt64) (lv : UInt64) (si : UInt32) (ga : Int32) (sl : Int32) (sc : Int32) (fo : UInt64) (ln : Int32) (gr : Nat → Int32) (sa : Nat → Int32) (le : Nat → UInt64) (pn : Int32) (dl : Nat → UInt32) (pl : Nat → Int32) (dr : Nat → Int32) (sp : Nat → Int32) (p1 : Int32) : Int32 × Int32 × UInt64 × UInt32 × UInt64 × (Nat → Int32) × (Nat → UInt64) × (Nat → UInt32) × (Nat → Int32) × (Nat → Int32) × (Nat → Int32) :=
  f_X1_letGoBy_2 fh lh mo su ga sl sc ln gr pn p1 102 0 ee tk lv si fo sa le dl pl dr sp
def n_X1_letGoBy (fh : Int32) (lh : Int32) (ee : Int32) (tk : Int32) (mo : Int32) (su : UInt64) (lv : UInt64) (si : UInt32) (ga : Int32) (sl : Int32) (sc : Int32) (fo : UInt64) (ln : Int32) (gr : Nat → Int32) (sa : Nat → Int32) (le : Nat → UInt64) (pn : Int32) (dl : Nat → UInt32) (pl : Nat → Int32) (dr : Nat → Int32) (sp : Nat → Int32) (p1 : Int32) : Prop :=
  (n_X1_letGoBy_2 fh lh mo su ga sl sc ln gr pn p1 102 0 ee tk lv si fo sa le dl pl dr sp)
def f_X5_moon (tk : Int32) (p1 : Int32) : (Int32 × Int32) ⊕ Nat :=
  if (f_X5_isWithin p1 0 29) = 0 then (.inr 0) else (.inl (f_X4_ageOn p1 tk, p1))
def f_X5_surge (tk : Int32) (mo : Int32) (p1 : Int32) : (UInt64 × UInt64) ⊕ Nat :=
  if (f_X5_isWithin p1 (-8) 8) = 0 then (.inr 0) else (.inl (f_X4_heightOn mo (FP.dmul (FP.i2d p1) 4598175219545276416) tk, FP.dmul (FP.i2d p1) 4598175219545276416))
def n_X5_surge (tk : Int32) (mo : Int32) (p1 : Int32) : Prop :=
  ((¬ (f_X5_isWithin p1 (-8) 8) = 0) → vf_n64 (FP.dmul (FP.i2d p1) 4598175219545276416)) ∧
  ((¬ (f_X5_isWithin p1 (-8) 8) = 0) → n_X4_heightOn mo (FP.dmul (FP.i2d p1) 4598175219545276416) tk)
def f_X5_gates (lk : Int32) (ga : Int32) (p1 : Int32) : (Int32 × Int32) ⊕ Nat :=
  if (f_X5_isWithin p1 0 3) = 0 then (.inr 0) else (if lk = 0 then (.inl (ga, p1)) else (.inr 1))
def f_X5_sluice (sl : Int32) (p1 : Int32) : (Int32 × Int32) ⊕ Nat :=
  if (f_X5_isWithin p1 0 4) = 0 then (.inr 0) else (.inl (sl, p1))
def f_X5_scour (sc : Int32) (p1 : Int32) : Int32 × Int32 :=
  (sc, p1)
def n_X5_scour (sc : Int32) (p1 : Int32) : Prop :=
  (tm_bool p1) ∧
  (tm_bool sc)
def f_X5_hours (tk : Int32) (p1 : Int32) (p2 : Int32) : (Int32 × Int32 × Int32) ⊕ Nat :=
  if (f_X5_isWithin p1 0 47) = 0 then (.inr 0) else (if (f_X5_isWithin p2 0 47) = 0 then (.inr 0) else (.inl (f_X1_isAwake p1 p2 tk, p1, p2)))
def n_X5_hours (tk : Int32) (p1 : Int32) (p2 : Int32) : Prop :=
  ((¬ (f_X5_isWithin p1 0 47) = 0) → (¬ (f_X5_isWithin p2 0 47) = 0) → tm_bool (f_X1_isAwake p1 p2 tk))
def f_X5_lock (lk : Int32) (p1 : Int32) : Int32 × Int32 :=
  (lk, p1)
def n_X5_lock (lk : Int32) (p1 : Int32) : Prop :=
  (tm_bool p1) ∧
  (tm_bool lk)
def f_X5_bell (rf : Int32) : Int32 × Int32 :=
  (rf + 1, rf + 1)
def f_X5_pair (pn : Int32) (pl : Nat → Int32) : (Int32 × Int32 × (Nat → Int32)) ⊕ Nat :=
  if pn < 3 then (match f_X2_lay pn pl with | (r_3, u_4, u_5) => .inl (r_3, u_4, u_5)) else (.inr 1)
def n_X5_pair (pn : Int32) : Prop :=
  ((pn < 3) → n_X2_lay pn)
def f_X5_lot (tk : Int32) (ln : Int32) (ow : Nat → Int32) (gr : Nat → Int32) (we : Nat → Int32) (du : Nat → Int32) (sa : Nat → Int32) (le : Nat → UInt64) (p1 : Int32) (p2 : Int32) (p3 : Int32) (p4 : Int32) : (Int32 × Int32 × (Nat → Int32) × (Nat → Int32) × (Nat → Int32) × (Nat → Int32) × (Nat → Int32) × (Nat → UInt64)) ⊕ Nat :=
  if (f_X5_isWithin p1 0 3) = 0 then (.inr 0) else (if (f_X5_isWithin p2 0 2) = 0 then (.inr 0) else (if (f_X5_isWithin p3 1 60) = 0 then (.inr 0) else (if (f_X5_isWithin p4 0 30) = 0 then (.inr 0) else (if ln < 10 then (match f_X0_bring ln ow gr we du sa le p1 p2 p3 ((f_X4_today tk) + p4) with | (r_12, u_13, u_14, u_15, u_16, u_17, u_18, u_19) => .inl (r_12, u_13, u_14, u_15, u_16, u_17, u_18, u_19)) else (.inr 1)))))
def n_X5_lot (ln : Int32) (p1 : Int32) (p2 : Int32) (p3 : Int32) (p4 : Int32) : Prop :=
  ((¬ (f_X5_isWithin p1 0 3) = 0) → (¬ (f_X5_isWithin p2 0 2) = 0) → (¬ (f_X5_isWithin p3 1 60) = 0) → (¬ (f_X5_isWithin p4 0 30) = 0) → (ln < 10) → n_X0_bring ln)
def f_X5_feed (ln : Int32) (sa : Nat → Int32) (pn : Int32) (pl : Nat → Int32) (dr : Nat → Int32) (p1 : Int32) (p2 : Int32) : (Int32 × (Nat → Int32) × (Nat → Int32)) ⊕ Nat :=
  if (f_X2_has pn p1) = 0 then (.inr 2) else (if (f_X0_has ln p2) = 0 then (.inr 2) else (if (sa p2.toNatClampNeg) = 0 then (if (f_X2_isFree pl dr p1) = 0 then (.inr 1) else (.inl (f_X0_countOf ln (upd sa p2.toNatClampNeg 1) 0, upd sa p2.toNatClampNeg 1, upd pl p1.toNatClampNeg p2))) else (.inr 1)))
def n_X5_feed (ln : Int32) (sa : Nat → Int32) (pn : Int32) (pl : Nat → Int32) (dr : Nat → Int32) (p1 : Int32) (p2 : Int32) : Prop :=
  ((¬ (f_X2_has pn p1) = 0) → (¬ (f_X0_has ln p2) = 0) → vp_in p2 10) ∧
  ((¬ (f_X2_has pn p1) = 0) → (¬ (f_X0_has ln p2) = 0) → ((sa p2.toNatClampNeg) = 0) → n_X2_isFree p1) ∧
  ((¬ (f_X2_has pn p1) = 0) → (¬ (f_X0_has ln p2) = 0) → ((sa p2.toNatClampNeg) = 0) → (¬ (f_X2_isFree pl dr p1) = 0) → vp_in p1 3) ∧
  ((¬ (f_X2_has pn p1) = 0) → (¬ (f_X0_has ln p2) = 0) → ((sa p2.toNatClampNeg) = 0) → (¬ (f_X2_isFree pl dr p1) = 0) → n_X0_countOf ln (upd sa p2.toNatClampNeg 1) 0)
def f_X5_take (ln : Int32) (sa : Nat → Int32) (pn : Int32) (pl : Nat → Int32) (p1 : Int32) : (Int32 × (Nat → Int32) × (Nat → Int32)) ⊕ Nat :=
  if (f_X2_has pn p1) = 0 then (.inr 2) else (if (f_X0_has ln (pl p1.toNatClampNeg)) = 0 then (.inr 1) else (.inl (pl p1.toNatClampNeg, upd sa (pl p1.toNatClampNeg).toNatClampNeg 0, upd pl p1.toNatClampNeg (-1))))
def n_X5_take (ln : Int32) (pn : Int32) (pl : Nat → Int32) (p1 : Int32) : Prop :=
  ((¬ (f_X2_has pn p1) = 0) → vp_in p1 3) ∧
  ((¬ (f_X2_has pn p1) = 0) → (¬ (f_X0_has ln (pl p1.toNatClampNeg)) = 0) → vp_in (pl p1.toNatClampNeg) 10)
def f_X5_dress (pn : Int32) (dl : Nat → UInt32) (pl : Nat → Int32) (dr : Nat → Int32) (p1 : Int32) : (Int32 × (Nat → Int32)) ⊕ Nat :=
  if (f_X2_has pn p1) = 0 then (.inr 2) else (if (f_X2_isFree pl dr p1) = 0 then (.inr 1) else (.inl ((upd dr p1.toNatClampNeg (3 + (f_X5_roundedUp (FP.dmul 4620693217682128896 (FP.f2d (dl p1.toNatClampNeg)))))) p1.toNatClampNeg, upd dr p1.toNatClampNeg (3 + (f_X5_roundedUp (FP.dmul 4620693217682128896 (FP.f2d (dl p1.toNatClampNeg))))))))
def n_X5_dress (pn : Int32) (dl : Nat → UInt32) (pl : Nat → Int32) (dr : Nat → Int32) (p1 : Int32) : Prop :=
  ((¬ (f_X2_has pn p1) = 0) → n_X2_isFree p1) ∧
  ((¬ (f_X2_has pn p1) = 0) → (¬ (f_X2_isFree pl dr p1) = 0) → vp_in p1 3) ∧
  ((¬ (f_X2_has pn p1) = 0) → (¬ (f_X2_isFree pl dr p1) = 0) → vf_n64 (FP.f2d (dl p1.toNatClampNeg))) ∧
  ((¬ (f_X2_has pn p1) = 0) → (¬ (f_X2_isFree pl dr p1) = 0) → vf_n64 (FP.dmul 4620693217682128896 (FP.f2d (dl p1.toNatClampNeg))))
def f_X5_give (pu : Int32) (to : UInt64) (tk : Int32) (ln : Int32) (gr : Nat → Int32) (we : Nat → Int32) (du : Nat → Int32) (sa : Nat → Int32) (p1 : Int32) : (Int32 × Int32 × UInt64 × (Nat → Int32)) ⊕ Nat :=
  if (f_X0_has ln p1) = 0 then (.inr 2) else (if (sa p1.toNatClampNeg) = 2 then (.inl ((((we p1.toNatClampNeg) * (f_X5_priceOf (gr p1.toNatClampNeg))) / 4) - (if 0 < ((f_X4_today tk) - (du p1.toNatClampNeg)) then ((f_X4_today tk) - (du p1.toNatClampNeg)) else 0), pu + ((((we p1.toNatClampNeg) * (f_X5_priceOf (gr p1.toNatClampNeg))) / 4) - (if 0 < ((f_X4_today tk) - (du p1.toNatClampNeg)) then ((f_X4_today tk) - (du p1.toNatClampNeg)) else 0)), FP.dadd to (FP.ddiv (FP.i2d (we p1.toNatClampNeg)) 4625196817309499392), upd sa p1.toNatClampNeg 3)) else (.inr 1))
def n_X5_give (to : UInt64) (ln : Int32) (we : Nat → Int32) (sa : Nat → Int32) (p1 : Int32) : Prop :=
  ((¬ (f_X0_has ln p1) = 0) → vp_in p1 10) ∧
  ((¬ (f_X0_has ln p1) = 0) → ((sa p1.toNatClampNeg) = 2) → vf_n64 (FP.ddiv (FP.i2d (we p1.toNatClampNeg)) 4625196817309499392)) ∧
  ((¬ (f_X0_has ln p1) = 0) → ((sa p1.toNatClampNeg) = 2) → vf_n64 (FP.dadd to (FP.ddiv (FP.i2d (we p1.toNatClampNeg)) 4625196817309499392)))
def f_X5_pass (fh : Int32) (lh : Int32) (ee : Int32) (tk : Int32) (mo : Int32) (su : UInt64) (lv : UInt64) (si : UInt32) (ga : Int32) (sl : Int32) (sc : Int32) (fo : UInt64) (ln : Int32) (gr : Nat → Int32) (sa : Nat → Int32) (le : Nat → UInt64) (pn : Int32) (dl : Nat → UInt32) (pl : Nat → Int32) (dr : Nat → Int32) (sp : Nat → Int32) (p1 : Int32) : (Int32 × Int32 × Int32 × UInt64 × UInt32 × UInt64 × (Nat → Int32) × (Nat → UInt64) × (Nat → UInt32) × (Nat → Int32) × (Nat → Int32) × (Nat → Int32)) ⊕ Nat :=
  if (f_X5_isWithin p1 1 100) = 0 then (.inr 0) else (if (tk + p1) ≤ 5000 then (match f_X1_letGoBy fh lh ee tk mo su lv si ga sl sc fo ln gr sa le pn dl pl dr sp p1 with | (u_6, u_7, u_8, u_9, u_10, u_11, u_12, u_13, u_14, u_15, u_16) => .inl (f_X0_countOf ln u_11 2, u_6, u_7, u_8, u_9, u_10, u_11, u_12, u_13, u_14, u_15, u_16)) else (.inr 1))
def n_X5_pass (fh : Int32) (lh : Int32) (ee : Int32) (tk : Int32) (mo : Int32) (su : UInt64) (lv : UInt64) (si : UInt32) (ga : Int32) (sl : Int32) (sc : Int32) (fo : UInt64) (ln : Int32) (gr : Nat → Int32) (sa : Nat → Int32) (le : Nat → UInt64) (pn : Int32) (dl : Nat → UInt32) (pl : Nat → Int32) (dr : Nat → Int32) (sp : Nat → Int32) (p1 : Int32) : Prop :=
  ((¬ (f_X5_isWithin p1 1 100) = 0) → ((tk + p1) ≤ 5000) → n_X1_letGoBy fh lh ee tk mo su lv si ga sl sc fo ln gr sa le pn dl pl dr sp p1) ∧
  ((¬ (f_X5_isWithin p1 1 100) = 0) → ((tk + p1) ≤ 5000) → ∀ (u_6 : Int32) (u_7 : Int32) (u_8 : UInt64) (u_9 : UInt32) (u_10 : UInt64) (u_11 : Nat → Int32) (u_12 : Nat → UInt64) (u_13 : Nat → UInt32) (u_14 : Nat → Int32) (u_15 : Nat → Int32) (u_16 : Nat → Int32), (u_6, u_7, u_8, u_9, u_10, u_11, u_12, u_13, u_14, u_15, u_16) = f_X1_letGoBy fh lh ee tk mo su lv si ga sl sc fo ln gr sa le pn dl pl dr sp p1 → n_X0_countOf ln u_11 2)
def f_X5_sea (tk : Int32) (mo : Int32) (su : UInt64) (p1 : Int32) : (UInt64) ⊕ Nat :=
  if (f_X5_isWithin p1 0 1000) = 0 then (.inr 0) else (.inl (f_X4_heightOn mo su (tk + p1)))
def n_X5_sea (tk : Int32) (mo : Int32) (su : UInt64) (p1 : Int32) : Prop :=
  ((¬ (f_X5_isWithin p1 0 1000) = 0) → n_X4_heightOn mo su (tk + p1))
def f_X5_pondAnswer (to : UInt64) (tk : Int32) (mo : Int32) (lv : UInt64) (si : UInt32) (fo : UInt64) (p1 : Int32) : UInt64 :=
  if p1 = 0 then lv else (if p1 = 1 then (FP.f2d si) else (if p1 = 2 then (f_X3_area si) else (if p1 = 3 then fo else (if p1 = 4 then to else (f_X4_rangeOn mo tk)))))
def n_X5_pondAnswer (tk : Int32) (mo : Int32) (si : UInt32) (p1 : Int32) : Prop :=
  ((¬ p1 = 0) → (p1 = 1) → vf_n64 (FP.f2d si)) ∧
  ((¬ p1 = 0) → (¬ p1 = 1) → (p1 = 2) → n_X3_area si) ∧
  ((¬ p1 = 0) → (¬ p1 = 1) → (¬ p1 = 2) → (¬ p1 = 3) → (¬ p1 = 4) → n_X4_rangeOn mo tk)
def f_X5_pond (to : UInt64) (tk : Int32) (mo : Int32) (lv : UInt64) (si : UInt32) (fo : UInt64) (p1 : Int32) : (UInt64) ⊕ Nat :=
  if (f_X5_isWithin p1 0 5) = 0 then (.inr 0) else (.inl (f_X5_pondAnswer to tk mo lv si fo p1))
def n_X5_pond (tk : Int32) (mo : Int32) (si : UInt32) (p1 : Int32) : Prop :=
  ((¬ (f_X5_isWithin p1 0 5) = 0) → n_X5_pondAnswer tk mo si p1)
def f_X5_pairAnswer (pl : Nat → Int32) (dr : Nat → Int32) (sp : Nat → Int32) (p1 : Int32) (p2 : Int32) : Int32 :=
  if p2 = 0 then (pl p1.toNatClampNeg) else (if p2 = 1 then (dr p1.toNatClampNeg) else (sp p1.toNatClampNeg))
def n_X5_pairAnswer (p1 : Int32) (p2 : Int32) : Prop :=
  ((p2 = 0) → vp_in p1 3) ∧
  ((¬ p2 = 0) → (p2 = 1) → vp_in p1 3) ∧
  ((¬ p2 = 0) → (¬ p2 = 1) → vp_in p1 3)
def f_X5_ofPair (pn : Int32) (pl : Nat → Int32) (dr : Nat → Int32) (sp : Nat → Int32) (p1 : Int32) (p2 : Int32) : (Int32) ⊕ Nat :=
  if (f_X2_has pn p1) = 0 then (.inr 2) else (if (f_X5_isWithin p2 0 2) = 0 then (.inr 0) else (.inl (f_X5_pairAnswer pl dr sp p1 p2)))
def n_X5_ofPair (pn : Int32) (p1 : Int32) (p2 : Int32) : Prop :=
  ((¬ (f_X2_has pn p1) = 0) → (¬ (f_X5_isWithin p2 0 2) = 0) → n_X5_pairAnswer p1 p2)
def f_X5_dull (pn : Int32) (dl : Nat → UInt32) (p1 : Int32) : (UInt64) ⊕ Nat :=
  if (f_X2_has pn p1) = 0 then (.inr 2) else (.inl (FP.f2d (dl p1.toNatClampNeg)))
def n_X5_dull (pn : Int32) (dl : Nat → UInt32) (p1 : Int32) : Prop :=
  ((¬ (f_X2_has pn p1) = 0) → vp_in p1 3) ∧
  ((¬ (f_X2_has pn p1) = 0) → vf_n64 (FP.f2d (dl p1.toNatClampNeg)))
def f_X5_lotAnswer (ow : Nat → Int32) (gr : Nat → Int32) (we : Nat → Int32) (du : Nat → Int32) (sa : Nat → Int32) (pn : Int32) (pl : Nat → Int32) (p1 : Int32) (p2 : Int32) : Int32 :=
  if p2 = 0 then (ow p1.toNatClampNeg) else (if p2 = 1 then (gr p1.toNatClampNeg) else (if p2 = 2 then (we p1.toNatClampNeg) else (if p2 = 3 then (du p1.toNatClampNeg) else (if p2 = 4 then (sa p1.toNatClampNeg) else (f_X2_withLot pn pl p1)))))
def n_X5_lotAnswer (pn : Int32) (pl : Nat → Int32) (p1 : Int32) (p2 : Int32) : Prop :=
  ((p2 = 0) → vp_in p1 10) ∧
  ((¬ p2 = 0) → (p2 = 1) → vp_in p1 10) ∧
  ((¬ p2 = 0) → (¬ p2 = 1) → (p2 = 2) → vp_in p1 10) ∧
  ((¬ p2 = 0) → (¬ p2 = 1) → (¬ p2 = 2) → (p2 = 3) → vp_in p1 10) ∧
  ((¬ p2 = 0) → (¬ p2 = 1) → (¬ p2 = 2) → (¬ p2 = 3) → (p2 = 4) → vp_in p1 10) ∧
  ((¬ p2 = 0) → (¬ p2 = 1) → (¬ p2 = 2) → (¬ p2 = 3) → (¬ p2 = 4) → n_X2_withLot pn pl p1)
def f_X5_ofLot (ln : Int32) (ow : Nat → Int32) (gr : Nat → Int32) (we : Nat → Int32) (du : Nat → Int32) (sa : Nat → Int32) (pn : Int32) (pl : Nat → Int32) (p1 : Int32) (p2 : Int32) : (Int32) ⊕ Nat :=
  if (f_X0_has ln p1) = 0 then (.inr 2) else (if (f_X5_isWithin p2 0 5) = 0 then (.inr 0) else (.inl (f_X5_lotAnswer ow gr we du sa pn pl p1 p2)))
def n_X5_ofLot (ln : Int32) (pn : Int32) (pl : Nat → Int32) (p1 : Int32) (p2 : Int32) : Prop :=
  ((¬ (f_X0_has ln p1) = 0) → (¬ (f_X5_isWithin p2 0 5) = 0) → n_X5_lotAnswer pn pl p1 p2)
def f_X5_left (ln : Int32) (le : Nat → UInt64) (p1 : Int32) : (UInt64) ⊕ Nat :=
  if (f_X0_has ln p1) = 0 then (.inr 2) else (.inl (le p1.toNatClampNeg))
def n_X5_left (ln : Int32) (p1 : Int32) : Prop :=
  ((¬ (f_X0_has ln p1) = 0) → vp_in p1 10)
def f_X5_manyAnswer (lk : Int32) (rf : Int32) (pu : Int32) (fh : Int32) (lh : Int32) (ee : Int32) (tk : Int32) (mo : Int32) (ga : Int32) (sl : Int32) (ln : Int32) (sa : Nat → Int32) (pn : Int32) (sp : Nat → Int32) (p1 : Int32) : Int32 :=
  if p1 = 0 then tk else (if p1 = 1 then (f_X4_today tk) else (if p1 = 2 then (f_X4_ageOn mo tk) else (if p1 = 3 then (f_X4_springOf (f_X4_ageOn mo tk)) else (if p1 = 4 then ga else (if p1 = 5 then sl else (if p1 = 6 then pn else (if p1 = 7 then ln else (if p1 = 8 then (f_X0_countOf ln sa 0) else (if p1 = 9 then (f_X0_countOf ln sa 2) else (if p1 = 10 then (f_X0_countOf ln sa 3) else (if p1 = 11 then ee else (if p1 = 12 then pu else (if p1 = 13 then (f_X2_allSparks pn sp) else (if p1 = 14 then (if (f_X1_isAwake fh lh tk) = 0 then 0 else 1) else (if p1 = 15 then rf else (if lk = 0 then 0 else 1))))))))))))))))
def n_X5_manyAnswer (ln : Int32) (sa : Nat → Int32) (pn : Int32) (sp : Nat → Int32) (p1 : Int32) : Prop :=
  ((¬ p1 = 0) → (¬ p1 = 1) → (¬ p1 = 2) → (¬ p1 = 3) → (¬ p1 = 4) → (¬ p1 = 5) → (¬ p1 = 6) → (¬ p1 = 7) → (p1 = 8) → n_X0_countOf ln sa 0) ∧
  ((¬ p1 = 0) → (¬ p1 = 1) → (¬ p1 = 2) → (¬ p1 = 3) → (¬ p1 = 4) → (¬ p1 = 5) → (¬ p1 = 6) → (¬ p1 = 7) → (¬ p1 = 8) → (p1 = 9) → n_X0_countOf ln sa 2) ∧
  ((¬ p1 = 0) → (¬ p1 = 1) → (¬ p1 = 2) → (¬ p1 = 3) → (¬ p1 = 4) → (¬ p1 = 5) → (¬ p1 = 6) → (¬ p1 = 7) → (¬ p1 = 8) → (¬ p1 = 9) → (p1 = 10) → n_X0_countOf ln sa 3) ∧
  ((¬ p1 = 0) → (¬ p1 = 1) → (¬ p1 = 2) → (¬ p1 = 3) → (¬ p1 = 4) → (¬ p1 = 5) → (¬ p1 = 6) → (¬ p1 = 7) → (¬ p1 = 8) → (¬ p1 = 9) → (¬ p1 = 10) → (¬ p1 = 11) → (¬ p1 = 12) → (p1 = 13) → n_X2_allSparks pn sp)
def f_X5_many (lk : Int32) (rf : Int32) (pu : Int32) (fh : Int32) (lh : Int32) (ee : Int32) (tk : Int32) (mo : Int32) (ga : Int32) (sl : Int32) (ln : Int32) (sa : Nat → Int32) (pn : Int32) (sp : Nat → Int32) (p1 : Int32) : (Int32) ⊕ Nat :=
  if (f_X5_isWithin p1 0 16) = 0 then (.inr 0) else (.inl (f_X5_manyAnswer lk rf pu fh lh ee tk mo ga sl ln sa pn sp p1))
def n_X5_many (ln : Int32) (sa : Nat → Int32) (pn : Int32) (sp : Nat → Int32) (p1 : Int32) : Prop :=
  ((¬ (f_X5_isWithin p1 0 16) = 0) → n_X5_manyAnswer ln sa pn sp p1)
def f_X5_ofOwner (ln : Int32) (ow : Nat → Int32) (we : Nat → Int32) (sa : Nat → Int32) (p1 : Int32) (p2 : Int32) : (Int32) ⊕ Nat :=
  if (f_X5_isWithin p1 0 3) = 0 then (.inr 2) else (.inl (f_X0_weightOf ln ow we sa p1 p2))
def n_X5_ofOwner (ln : Int32) (ow : Nat → Int32) (we : Nat → Int32) (sa : Nat → Int32) (p1 : Int32) (p2 : Int32) : Prop :=
  ((¬ (f_X5_isWithin p1 0 3) = 0) → n_X0_weightOf ln ow we sa p1 p2)
def f_X5_high (tk : Int32) : Int32 :=
  f_X4_ticksToHigh tk
def n_X5_high (tk : Int32) : Prop :=
  (n_X4_ticksToHigh tk)
def f_X5_wouldLevel (fh : Int32) (lh : Int32) (ee : Int32) (tk : Int32) (mo : Int32) (su : UInt64) (lv : UInt64) (si : UInt32) (ga : Int32) (sl : Int32) (sc : Int32) (fo : UInt64) (ln : Int32) (gr : Nat → Int32) (sa : Nat → Int32) (le : Nat → UInt64) (pn : Int32) (dl : Nat → UInt32) (pl : Nat → Int32) (dr : Nat → Int32) (sp : Nat → Int32) (p1 : Int32) : (UInt64) ⊕ Nat :=
  if (f_X5_isWithin p1 1 100) = 0 then (.inr 0) else (match f_X1_letGoBy fh lh ee tk mo su lv si ga sl sc fo ln gr sa le pn dl pl dr sp p1 with | (u_7, u_8, u_9, u_10, u_11, u_12, u_13, u_14, u_15, u_16, u_17) => .inl u_9)
def n_X5_wouldLevel (fh : Int32) (lh : Int32) (ee : Int32) (tk : Int32) (mo : Int32) (su : UInt64) (lv : UInt64) (si : UInt32) (ga : Int32) (sl : Int32) (sc : Int32) (fo : UInt64) (ln : Int32) (gr : Nat → Int32) (sa : Nat → Int32) (le : Nat → UInt64) (pn : Int32) (dl : Nat → UInt32) (pl : Nat → Int32) (dr : Nat → Int32) (sp : Nat → Int32) (p1 : Int32) : Prop :=
  ((¬ (f_X5_isWithin p1 1 100) = 0) → n_X1_copyFrom sc) ∧
  ((¬ (f_X5_isWithin p1 1 100) = 0) → n_X1_letGoBy fh lh ee tk mo su lv si ga sl sc fo ln gr sa le pn dl pl dr sp p1)
def f_X5_ticksToDone_44 (fh : Int32) (lh : Int32) (mo : Int32) (su : UInt64) (ga : Int32) (sl : Int32) (sc : Int32) (ln : Int32) (gr : Nat → Int32) (pn : Int32) (p1 : Int32) : Nat → Int32 → Int32 → Int32 → UInt64 → UInt32 → UInt64 → (Nat → Int32) → (Nat → UInt64) → (Nat → UInt32) → (Nat → Int32) → (Nat → Int32) → (Nat → Int32) → Int32
  | 0, x44_0, x44_1, x44_2, x44_3, x44_4, x44_5, x44_6, x44_7, x44_8, x44_9, x44_10, x44_11 => 0
  | fuel + 1, x44_0, x44_1, x44_2, x44_3, x44_4, x44_5, x44_6, x44_7, x44_8, x44_9, x44_10, x44_11 => if 300 < x44_0 then (-1) else (match f_X1_goBy fh lh x44_1 x44_2 mo su x44_3 x44_4 ga sl sc ln gr x44_6 x44_7 pn x44_8 x44_9 x44_10 x44_11 with | (u_10, u_11, u_12, u_13, u_14, u_15, u_16, u_17, u_18, u_19, u_20) => if (u_15 p1.toNatClampNeg) = 2 then x44_0 else (f_X5_ticksToDone_44 fh lh mo su ga sl sc ln gr pn p1 fuel (x44_0 + 1) u_10 u_11 u_12 u_13 u_14 u_15 u_16 u_17 u_18 u_19 u_20))
def n_X5_ticksToDone_44 (fh : Int32) (lh : Int32) (mo : Int32) (su : UInt64) (ga : Int32) (sl : Int32) (sc : Int32) (ln : Int32) (gr : Nat → Int32) (pn : Int32) (p1 : Int32) : Nat → Int32 → Int32 → Int32 → UInt64 → UInt32 → UInt64 → (Nat → Int32) → (Nat → UInt64) → (Nat → UInt32) → (Nat → Int32) → (Nat → Int32) → (Nat → Int32) → Prop
  | 0, x44_0, x44_1, x44_2, x44_3, x44_4, x44_5, x44_6, x44_7, x44_8, x44_9, x44_10, x44_11 => False
  | fuel + 1, x44_0, x44_1, x44_2, x44_3, x44_4, x44_5, x44_6, x44_7, x44_8, x44_9, x44_10, x44_11 => ((¬ 300 < x44_0) → n_X1_goBy fh lh x44_2 mo su x44_3 x44_4 ga sl sc ln gr x44_6 x44_7 pn x44_8 x44_9 x44_10 x44_11) ∧
  ((¬ 300 < x44_0) → ∀ (u_10 : Int32) (u_11 : Int32) (u_12 : UInt64) (u_13 : UInt32) (u_14 : UInt64) (u_15 : Nat → Int32) (u_16 : Nat → UInt64) (u_17 : Nat → UInt32) (u_18 : Nat → Int32) (u_19 : Nat → Int32) (u_20 : Nat → Int32), (u_10, u_11, u_12, u_13, u_14, u_15, u_16, u_17, u_18, u_19, u_20) = f_X1_goBy fh lh x44_1 x44_2 mo su x44_3 x44_4 ga sl sc ln gr x44_6 x44_7 pn x44_8 x44_9 x44_10 x44_11 → vp_in p1 10) ∧
  ((¬ 300 < x44_0) → ∀ (u_10 : Int32) (u_11 : Int32) (u_12 : UInt64) (u_13 : UInt32) (u_14 : UInt64) (u_15 : Nat → Int32) (u_16 : Nat → UInt64) (u_17 : Nat → UInt32) (u_18 : Nat → Int32) (u_19 : Nat → Int32) (u_20 : Nat → Int32), (u_10, u_11, u_12, u_13, u_14, u_15, u_16, u_17, u_18, u_19, u_20) = f_X1_goBy fh lh x44_1 x44_2 mo su x44_3 x44_4 ga sl sc ln gr x44_6 x44_7 pn x44_8 x44_9 x44_10 x44_11 → (¬ (u_15 p1.toNatClampNeg) = 2) → n_X5_ticksToDone_44 fh lh mo su ga sl sc ln gr pn p1 fuel (x44_0 + 1) u_10 u_11 u_12 u_13 u_14 u_15 u_16 u_17 u_18 u_19 u_20)
def f_X5_ticksToDone (fh : Int32) (lh : Int32) (ee : Int32) (tk : Int32) (mo : Int32) (su : UInt64) (lv : UInt64) (si : UInt32) (ga : Int32) (sl : Int32) (sc : Int32) (fo : UInt64) (ln : Int32) (gr : Nat → Int32) (sa : Nat → Int32) (le : Nat → UInt64) (pn : Int32) (dl : Nat → UInt32) (pl : Nat → Int32) (dr : Nat → Int32) (sp : Nat → Int32) (p1 : Int32) : Int32 :=
  if (sa p1.toNatClampNeg) = 2 then 0 else (if (sa p1.toNatClampNeg) = 3 then 0 else (if (sa p1.toNatClampNeg) = 0 then (-1) else (f_X5_ticksToDone_44 fh lh mo su ga sl sc ln gr pn p1 302 1 ee tk lv si fo sa le dl pl dr sp)))
def n_X5_ticksToDone (fh : Int32) (lh : Int32) (ee : Int32) (tk : Int32) (mo : Int32) (su : UInt64) (lv : UInt64) (si : UInt32) (ga : Int32) (sl : Int32) (sc : Int32) (fo : UInt64) (ln : Int32) (gr : Nat → Int32) (sa : Nat → Int32) (le : Nat → UInt64) (pn : Int32) (dl : Nat → UInt32) (pl : Nat → Int32) (dr : Nat → Int32) (sp : Nat → Int32) (p1 : Int32) : Prop :=
  (vp_in p1 10) ∧
  ((¬ (sa p1.toNatClampNeg) = 2) → (¬ (sa p1.toNatClampNeg) = 3) → (¬ (sa p1.toNatClampNeg) = 0) → n_X1_copyFrom sc) ∧
  ((¬ (sa p1.toNatClampNeg) = 2) → (¬ (sa p1.toNatClampNeg) = 3) → (¬ (sa p1.toNatClampNeg) = 0) → n_X5_ticksToDone_44 fh lh mo su ga sl sc ln gr pn p1 302 1 ee tk lv si fo sa le dl pl dr sp)
def f_X5_wouldDone (fh : Int32) (lh : Int32) (ee : Int32) (tk : Int32) (mo : Int32) (su : UInt64) (lv : UInt64) (si : UInt32) (ga : Int32) (sl : Int32) (sc : Int32) (fo : UInt64) (ln : Int32) (gr : Nat → Int32) (sa : Nat → Int32) (le : Nat → UInt64) (pn : Int32) (dl : Nat → UInt32) (pl : Nat → Int32) (dr : Nat → Int32) (sp : Nat → Int32) (p1 : Int32) : (Int32) ⊕ Nat :=
  if (f_X0_has ln p1) = 0 then (.inr 2) else (.inl (f_X5_ticksToDone fh lh ee tk mo su lv si ga sl sc fo ln gr sa le pn dl pl dr sp p1))
def n_X5_wouldDone (fh : Int32) (lh : Int32) (ee : Int32) (tk : Int32) (mo : Int32) (su : UInt64) (lv : UInt64) (si : UInt32) (ga : Int32) (sl : Int32) (sc : Int32) (fo : UInt64) (ln : Int32) (gr : Nat → Int32) (sa : Nat → Int32) (le : Nat → UInt64) (pn : Int32) (dl : Nat → UInt32) (pl : Nat → Int32) (dr : Nat → Int32) (sp : Nat → Int32) (p1 : Int32) : Prop :=
  ((¬ (f_X0_has ln p1) = 0) → n_X5_ticksToDone fh lh ee tk mo su lv si ga sl sc fo ln gr sa le pn dl pl dr sp p1)
def f_X5_leftWith_24 (fh : Int32) (lh : Int32) (mo : Int32) (su : UInt64) (ga : Int32) (sc : Int32) (ln : Int32) (gr : Nat → Int32) (pn : Int32) (p1 : Int32) (p2 : Int32) : Nat → Int32 → Int32 → Int32 → UInt64 → UInt32 → UInt64 → (Nat → Int32) → (Nat → UInt64) → (Nat → UInt32) → (Nat → Int32) → (Nat → Int32) → (Nat → Int32) → Int32 × Int32 × Int32 × UInt64 × UInt32 × UInt64 × (Nat → Int32) × (Nat → UInt64) × (Nat → UInt32) × (Nat → Int32) × (Nat → Int32) × (Nat → Int32)
  | 0, x24_0, x24_1, x24_2, x24_3, x24_4, x24_5, x24_6, x24_7, x24_8, x24_9, x24_10, x24_11 => (x24_0, x24_1, x24_2, x24_3, x24_4, x24_5, x24_6, x24_7, x24_8, x24_9, x24_10, x24_11)
  | fuel + 1, x24_0, x24_1, x24_2, x24_3, x24_4, x24_5, x24_6, x24_7, x24_8, x24_9, x24_10, x24_11 => if p2 ≤ x24_0 then (x24_0, x24_1, x24_2, x24_3, x24_4, x24_5, x24_6, x24_7, x24_8, x24_9, x24_10, x24_11) else (match f_X1_goBy fh lh x24_1 x24_2 mo su x24_3 x24_4 ga p1 sc ln gr x24_6 x24_7 pn x24_8 x24_9 x24_10 x24_11 with | (u_6, u_7, u_8, u_9, u_10, u_11, u_12, u_13, u_14, u_15, u_16) => f_X5_leftWith_24 fh lh mo su ga sc ln gr pn p1 p2 fuel (x24_0 + 1) u_6 u_7 u_8 u_9 u_10 u_11 u_12 u_13 u_14 u_15 u_16)
def n_X5_leftWith_24 (fh : Int32) (lh : Int32) (mo : Int32) (su : UInt64) (ga : Int32) (sc : Int32) (ln : Int32) (gr : Nat → Int32) (pn : Int32) (p1 : Int32) (p2 : Int32) : Nat → Int32 → Int32 → Int32 → UInt64 → UInt32 → UInt64 → (Nat → Int32) → (Nat → UInt64) → (Nat → UInt32) → (Nat → Int32) → (Nat → Int32) → (Nat → Int32) → Prop
  | 0, x24_0, x24_1, x24_2, x24_3, x24_4, x24_5, x24_6, x24_7, x24_8, x24_9, x24_10, x24_11 => False
  | fuel + 1, x24_0, x24_1, x24_2, x24_3, x24_4, x24_5, x24_6, x24_7, x24_8, x24_9, x24_10, x24_11 => ((¬ p2 ≤ x24_0) → n_X1_goBy fh lh x24_2 mo su x24_3 x24_4 ga p1 sc ln gr x24_6 x24_7 pn x24_8 x24_9 x24_10 x24_11) ∧
  ((¬ p2 ≤ x24_0) → ∀ (u_6 : Int32) (u_7 : Int32) (u_8 : UInt64) (u_9 : UInt32) (u_10 : UInt64) (u_11 : Nat → Int32) (u_12 : Nat → UInt64) (u_13 : Nat → UInt32) (u_14 : Nat → Int32) (u_15 : Nat → Int32) (u_16 : Nat → Int32), (u_6, u_7, u_8, u_9, u_10, u_11, u_12, u_13, u_14, u_15, u_16) = f_X1_goBy fh lh x24_1 x24_2 mo su x24_3 x24_4 ga p1 sc ln gr x24_6 x24_7 pn x24_8 x24_9 x24_10 x24_11 → n_X5_leftWith_24 fh lh mo su ga sc ln gr pn p1 p2 fuel (x24_0 + 1) u_6 u_7 u_8 u_9 u_10 u_11 u_12 u_13 u_14 u_15 u_16)
def f_X5_leftWith (fh : Int32) (lh : Int32) (ee : Int32) (tk : Int32) (mo : Int32) (su : UInt64) (lv : UInt64) (si : UInt32) (ga : Int32) (sc : Int32) (fo : UInt64) (ln : Int32) (gr : Nat → Int32) (sa : Nat → Int32) (le : Nat → UInt64) (pn : Int32) (dl : Nat → UInt32) (pl : Nat → Int32) (dr : Nat → Int32) (sp : Nat → Int32) (p1 : Int32) (p2 : Int32) : UInt64 :=
  (match f_X5_leftWith_24 fh lh mo su ga sc ln gr pn p1 p2 102 0 ee tk lv si fo sa le dl pl dr sp with | (x24e_19, x24e_20, x24e_21, x24e_22, x24e_23, x24e_24, x24e_25, x24e_26, x24e_27, x24e_28, x24e_29, x24e_30) => f_X0_allLeft ln x24e_26)
def n_X5_leftWith (fh : Int32) (lh : Int32) (ee : Int32) (tk : Int32) (mo : Int32) (su : UInt64) (lv : UInt64) (si : UInt32) (ga : Int32) (sc : Int32) (fo : UInt64) (ln : Int32) (gr : Nat → Int32) (sa : Nat → Int32) (le : Nat → UInt64) (pn : Int32) (dl : Nat → UInt32) (pl : Nat → Int32) (dr : Nat → Int32) (sp : Nat → Int32) (p1 : Int32) (p2 : Int32) : Prop :=
  (n_X1_copyFrom sc) ∧
  (n_X5_leftWith_24 fh lh mo su ga sc ln gr pn p1 p2 102 0 ee tk lv si fo sa le dl pl dr sp) ∧
  (∀ (x24e_19 : Int32) (x24e_20 : Int32) (x24e_21 : Int32) (x24e_22 : UInt64) (x24e_23 : UInt32) (x24e_24 : UInt64) (x24e_25 : Nat → Int32) (x24e_26 : Nat → UInt64) (x24e_27 : Nat → UInt32) (x24e_28 : Nat → Int32) (x24e_29 : Nat → Int32) (x24e_30 : Nat → Int32), (x24e_19, x24e_20, x24e_21, x24e_22, x24e_23, x24e_24, x24e_25, x24e_26, x24e_27, x24e_28, x24e_29, x24e_30) = f_X5_leftWith_24 fh lh mo su ga sc ln gr pn p1 p2 102 0 ee tk lv si fo sa le dl pl dr sp → n_X0_allLeft ln x24e_26)
def f_X5_bestSluice_12 (fh : Int32) (lh : Int32) (ee : Int32) (tk : Int32) (mo : Int32) (su : UInt64) (lv : UInt64) (si : UInt32) (ga : Int32) (sc : Int32) (fo : UInt64) (ln : Int32) (gr : Nat → Int32) (sa : Nat → Int32) (le : Nat → UInt64) (pn : Int32) (dl : Nat → UInt32) (pl : Nat → Int32) (dr : Nat → Int32) (sp : Nat → Int32) (p1 : Int32) : Nat → Int32 → UInt64 → Int32 → Int32
  | 0, x12_0, x12_1, x12_2 => 0
  | fuel + 1, x12_0, x12_1, x12_2 => if 4 < x12_2 then x12_0 else (if 0 ≤ (Op.cmpValue (FP.dcmp (f_X5_leftWith fh lh ee tk mo su lv si ga sc fo ln gr sa le pn dl pl dr sp x12_2 p1) x12_1) .g) then (f_X5_bestSluice_12 fh lh ee tk mo su lv si ga sc fo ln gr sa le pn dl pl dr sp p1 fuel x12_0 x12_1 (x12_2 + 1)) else (f_X5_bestSluice_12 fh lh ee tk mo su lv si ga sc fo ln gr sa le pn dl pl dr sp p1 fuel x12_2 (f_X5_leftWith fh lh ee tk mo su lv si ga sc fo ln gr sa le pn dl pl dr sp x12_2 p1) (x12_2 + 1)))
def n_X5_bestSluice_12 (fh : Int32) (lh : Int32) (ee : Int32) (tk : Int32) (mo : Int32) (su : UInt64) (lv : UInt64) (si : UInt32) (ga : Int32) (sc : Int32) (fo : UInt64) (ln : Int32) (gr : Nat → Int32) (sa : Nat → Int32) (le : Nat → UInt64) (pn : Int32) (dl : Nat → UInt32) (pl : Nat → Int32) (dr : Nat → Int32) (sp : Nat → Int32) (p1 : Int32) : Nat → Int32 → UInt64 → Int32 → Prop
  | 0, x12_0, x12_1, x12_2 => False
  | fuel + 1, x12_0, x12_1, x12_2 => ((¬ 4 < x12_2) → n_X5_leftWith fh lh ee tk mo su lv si ga sc fo ln gr sa le pn dl pl dr sp x12_2 p1) ∧
  ((¬ 4 < x12_2) → (0 ≤ (Op.cmpValue (FP.dcmp (f_X5_leftWith fh lh ee tk mo su lv si ga sc fo ln gr sa le pn dl pl dr sp x12_2 p1) x12_1) .g)) → n_X5_bestSluice_12 fh lh ee tk mo su lv si ga sc fo ln gr sa le pn dl pl dr sp p1 fuel x12_0 x12_1 (x12_2 + 1)) ∧
  ((¬ 4 < x12_2) → (¬ 0 ≤ (Op.cmpValue (FP.dcmp (f_X5_leftWith fh lh ee tk mo su lv si ga sc fo ln gr sa le pn dl pl dr sp x12_2 p1) x12_1) .g)) → n_X5_bestSluice_12 fh lh ee tk mo su lv si ga sc fo ln gr sa le pn dl pl dr sp p1 fuel x12_2 (f_X5_leftWith fh lh ee tk mo su lv si ga sc fo ln gr sa le pn dl pl dr sp x12_2 p1) (x12_2 + 1))
def f_X5_bestSluice (fh : Int32) (lh : Int32) (ee : Int32) (tk : Int32) (mo : Int32) (su : UInt64) (lv : UInt64) (si : UInt32) (ga : Int32) (sc : Int32) (fo : UInt64) (ln : Int32) (gr : Nat → Int32) (sa : Nat → Int32) (le : Nat → UInt64) (pn : Int32) (dl : Nat → UInt32) (pl : Nat → Int32) (dr : Nat → Int32) (sp : Nat → Int32) (p1 : Int32) : Int32 :=
  f_X5_bestSluice_12 fh lh ee tk mo su lv si ga sc fo ln gr sa le pn dl pl dr sp p1 6 0 (f_X5_leftWith fh lh ee tk mo su lv si ga sc fo ln gr sa le pn dl pl dr sp 0 p1) 1
def n_X5_bestSluice (fh : Int32) (lh : Int32) (ee : Int32) (tk : Int32) (mo : Int32) (su : UInt64) (lv : UInt64) (si : UInt32) (ga : Int32) (sc : Int32) (fo : UInt64) (ln : Int32) (gr : Nat → Int32) (sa : Nat → Int32) (le : Nat → UInt64) (pn : Int32) (dl : Nat → UInt32) (pl : Nat → Int32) (dr : Nat → Int32) (sp : Nat → Int32) (p1 : Int32) : Prop :=
  (n_X5_leftWith fh lh ee tk mo su lv si ga sc fo ln gr sa le pn dl pl dr sp 0 p1) ∧
  (n_X5_bestSluice_12 fh lh ee tk mo su lv si ga sc fo ln gr sa le pn dl pl dr sp p1 6 0 (f_X5_leftWith fh lh ee tk mo su lv si ga sc fo ln gr sa le pn dl pl dr sp 0 p1) 1)
def f_X5_best (fh : Int32) (lh : Int32) (ee : Int32) (tk : Int32) (mo : Int32) (su : UInt64) (lv : UInt64) (si : UInt32) (ga : Int32) (sc : Int32) (fo : UInt64) (ln : Int32) (gr : Nat → Int32) (sa : Nat → Int32) (le : Nat → UInt64) (pn : Int32) (dl : Nat → UInt32) (pl : Nat → Int32) (dr : Nat → Int32) (sp : Nat → Int32) (p1 : Int32) : (Int32) ⊕ Nat :=
  if (f_X5_isWithin p1 1 48) = 0 then (.inr 0) else (.inl (f_X5_bestSluice fh lh ee tk mo su lv si ga sc fo ln gr sa le pn dl pl dr sp p1))
def n_X5_best (fh : Int32) (lh : Int32) (ee : Int32) (tk : Int32) (mo : Int32) (su : UInt64) (lv : UInt64) (si : UInt32) (ga : Int32) (sc : Int32) (fo : UInt64) (ln : Int32) (gr : Nat → Int32) (sa : Nat → Int32) (le : Nat → UInt64) (pn : Int32) (dl : Nat → UInt32) (pl : Nat → Int32) (dr : Nat → Int32) (sp : Nat → Int32) (p1 : Int32) : Prop :=
  ((¬ (f_X5_isWithin p1 1 48) = 0) → n_X5_bestSluice fh lh ee tk mo su lv si ga sc fo ln gr sa le pn dl pl dr sp p1)
def f_X5_joinedPair_6 (pl : Nat → Int32) (dr : Nat → Int32) (sp : Nat → Int32) (p3 : Int32) : Nat → Int64 → Int32 → Int64 × Int32
  | 0, x6_0, x6_1 => (x6_0, x6_1)
  | fuel + 1, x6_0, x6_1 => if 2 < x6_1 then (x6_0, x6_1) else (f_X5_joinedPair_6 pl dr sp p3 fuel (f_X5_joined x6_0 ((f_X5_pairAnswer pl dr sp p3 x6_1).toInt64)) (x6_1 + 1))
def n_X5_joinedPair_6 (pl : Nat → Int32) (dr : Nat → Int32) (sp : Nat → Int32) (p3 : Int32) : Nat → Int64 → Int32 → Prop
  | 0, x6_0, x6_1 => False
  | fuel + 1, x6_0, x6_1 => ((¬ 2 < x6_1) → n_X5_pairAnswer p3 x6_1) ∧
  ((¬ 2 < x6_1) → n_X5_joinedPair_6 pl dr sp p3 fuel (f_X5_joined x6_0 ((f_X5_pairAnswer pl dr sp p3 x6_1).toInt64)) (x6_1 + 1))
def f_X5_joinedPair (dl : Nat → UInt32) (pl : Nat → Int32) (dr : Nat → Int32) (sp : Nat → Int32) (p1 : Int64) (p3 : Int32) : Int64 :=
  (match f_X5_joinedPair_6 pl dr sp p3 4 p1 0 with | (x6e_7, x6e_8) => f_X5_joined x6e_7 (f_X5_cutOf1024 (FP.f2d (dl p3.toNatClampNeg))))
def n_X5_joinedPair (dl : Nat → UInt32) (pl : Nat → Int32) (dr : Nat → Int32) (sp : Nat → Int32) (p1 : Int64) (p3 : Int32) : Prop :=
  (n_X5_joinedPair_6 pl dr sp p3 4 p1 0) ∧
  (∀ (x6e_7 : Int64) (x6e_8 : Int32), (x6e_7, x6e_8) = f_X5_joinedPair_6 pl dr sp p3 4 p1 0 → vp_in p3 3) ∧
  (∀ (x6e_7 : Int64) (x6e_8 : Int32), (x6e_7, x6e_8) = f_X5_joinedPair_6 pl dr sp p3 4 p1 0 → vf_n64 (FP.f2d (dl p3.toNatClampNeg))) ∧
  (∀ (x6e_7 : Int64) (x6e_8 : Int32), (x6e_7, x6e_8) = f_X5_joinedPair_6 pl dr sp p3 4 p1 0 → n_X5_cutOf1024 (FP.f2d (dl p3.toNatClampNeg)))
def f_X5_joinedLot_6 (ow : Nat → Int32) (gr : Nat → Int32) (we : Nat → Int32) (du : Nat → Int32) (sa : Nat → Int32) (pn : Int32) (pl : Nat → Int32) (p3 : Int32) : Nat → Int64 → Int32 → Int64 × Int32
  | 0, x6_0, x6_1 => (x6_0, x6_1)
  | fuel + 1, x6_0, x6_1 => if 5 < x6_1 then (x6_0, x6_1) else (f_X5_joinedLot_6 ow gr we du sa pn pl p3 fuel (f_X5_joined x6_0 ((f_X5_lotAnswer ow gr we du sa pn pl p3 x6_1).toInt64)) (x6_1 + 1))
def n_X5_joinedLot_6 (ow : Nat → Int32) (gr : Nat → Int32) (we : Nat → Int32) (du : Nat → Int32) (sa : Nat → Int32) (pn : Int32) (pl : Nat → Int32) (p3 : Int32) : Nat → Int64 → Int32 → Prop
  | 0, x6_0, x6_1 => False
  | fuel + 1, x6_0, x6_1 => ((¬ 5 < x6_1) → n_X5_lotAnswer pn pl p3 x6_1) ∧
  ((¬ 5 < x6_1) → n_X5_joinedLot_6 ow gr we du sa pn pl p3 fuel (f_X5_joined x6_0 ((f_X5_lotAnswer ow gr we du sa pn pl p3 x6_1).toInt64)) (x6_1 + 1))
def f_X5_joinedLot (fh : Int32) (lh : Int32) (ee : Int32) (tk : Int32) (mo : Int32) (su : UInt64) (lv : UInt64) (si : UInt32) (ga : Int32) (sl : Int32) (sc : Int32) (fo : UInt64) (ln : Int32) (ow : Nat → Int32) (gr : Nat → Int32) (we : Nat → Int32) (du : Nat → Int32) (sa : Nat → Int32) (le : Nat → UInt64) (pn : Int32) (dl : Nat → UInt32) (pl : Nat → Int32) (dr : Nat → Int32) (sp : Nat → Int32) (p1 : Int64) (p3 : Int32) : Int64 :=
  (match f_X5_joinedLot_6 ow gr we du sa pn pl p3 8 p1 0 with | (x6e_7, x6e_8) => f_X5_joined (f_X5_joined x6e_7 (f_X5_cutOf1024 (le p3.toNatClampNeg))) ((f_X5_ticksToDone fh lh ee tk mo su lv si ga sl sc fo ln gr sa le pn dl pl dr sp p3).toInt64))
def n_X5_joinedLot (fh : Int32) (lh : Int32) (ee : Int32) (tk : Int32) (mo : Int32) (su : UInt64) (lv : UInt64) (si : UInt32) (ga : Int32) (sl : Int32) (sc : Int32) (fo : UInt64) (ln : Int32) (ow : Nat → Int32) (gr : Nat → Int32) (we : Nat → Int32) (du : Nat → Int32) (sa : Nat → Int32) (le : Nat → UInt64) (pn : Int32) (dl : Nat → UInt32) (pl : Nat → Int32) (dr : Nat → Int32) (sp : Nat → Int32) (p1 : Int64) (p3 : Int32) : Prop :=
  (n_X5_joinedLot_6 ow gr we du sa pn pl p3 8 p1 0) ∧
  (∀ (x6e_7 : Int64) (x6e_8 : Int32), (x6e_7, x6e_8) = f_X5_joinedLot_6 ow gr we du sa pn pl p3 8 p1 0 → vp_in p3 10) ∧
  (∀ (x6e_7 : Int64) (x6e_8 : Int32), (x6e_7, x6e_8) = f_X5_joinedLot_6 ow gr we du sa pn pl p3 8 p1 0 → n_X5_cutOf1024 (le p3.toNatClampNeg)) ∧
  (∀ (x6e_7 : Int64) (x6e_8 : Int32), (x6e_7, x6e_8) = f_X5_joinedLot_6 ow gr we du sa pn pl p3 8 p1 0 → n_X5_ticksToDone fh lh ee tk mo su lv si ga sl sc fo ln gr sa le pn dl pl dr sp p3)
def f_X5_digest_6 (lk : Int32) (rf : Int32) (pu : Int32) (fh : Int32) (lh : Int32) (ee : Int32) (tk : Int32) (mo : Int32) (ga : Int32) (sl : Int32) (ln : Int32) (sa : Nat → Int32) (pn : Int32) (sp : Nat → Int32) : Nat → Int64 → Int32 → Int64 × Int32
  | 0, x6_0, x6_1 => (x6_0, x6_1)
  | fuel + 1, x6_0, x6_1 => if 16 < x6_1 then (x6_0, x6_1) else (f_X5_digest_6 lk rf pu fh lh ee tk mo ga sl ln sa pn sp fuel (f_X5_joined x6_0 ((f_X5_manyAnswer lk rf pu fh lh ee tk mo ga sl ln sa pn sp x6_1).toInt64)) (x6_1 + 1))
def n_X5_digest_6 (lk : Int32) (rf : Int32) (pu : Int32) (fh : Int32) (lh : Int32) (ee : Int32) (tk : Int32) (mo : Int32) (ga : Int32) (sl : Int32) (ln : Int32) (sa : Nat → Int32) (pn : Int32) (sp : Nat → Int32) : Nat → Int64 → Int32 → Prop
  | 0, x6_0, x6_1 => False
  | fuel + 1, x6_0, x6_1 => ((¬ 16 < x6_1) → n_X5_manyAnswer ln sa pn sp x6_1) ∧
  ((¬ 16 < x6_1) → n_X5_digest_6 lk rf pu fh lh ee tk mo ga sl ln sa pn sp fuel (f_X5_joined x6_0 ((f_X5_manyAnswer lk rf pu fh lh ee tk mo ga sl ln sa pn sp x6_1).toInt64)) (x6_1 + 1))
def f_X5_digest_70 (pn : Int32) (dl : Nat → UInt32) (pl : Nat → Int32) (dr : Nat → Int32) (sp : Nat → Int32) : Nat → Int64 → Int32 → Int64 × Int32
  | 0, x70_0, x70_1 => (x70_0, x70_1)
  | fuel + 1, x70_0, x70_1 => if pn ≤ x70_1 then (x70_0, x70_1) else (f_X5_digest_70 pn dl pl dr sp fuel (f_X5_joinedPair dl pl dr sp x70_0 x70_1) (x70_1 + 1))
def n_X5_digest_70 (pn : Int32) (dl : Nat → UInt32) (pl : Nat → Int32) (dr : Nat → Int32) (sp : Nat → Int32) : Nat → Int64 → Int32 → Prop
  | 0, x70_0, x70_1 => False
  | fuel + 1, x70_0, x70_1 => ((¬ pn ≤ x70_1) → n_X5_joinedPair dl pl dr sp x70_0 x70_1) ∧
  ((¬ pn ≤ x70_1) → n_X5_digest_70 pn dl pl dr sp fuel (f_X5_joinedPair dl pl dr sp x70_0 x70_1) (x70_1 + 1))
def f_X5_digest_99 (fh : Int32) (lh : Int32) (ee : Int32) (tk : Int32) (mo : Int32) (su : UInt64) (lv : UInt64) (si : UInt32) (ga : Int32) (sl : Int32) (sc : Int32) (fo : UInt64) (ln : Int32) (ow : Nat → Int32) (gr : Nat → Int32) (we : Nat → Int32) (du : Nat → Int32) (sa : Nat → Int32) (le : Nat → UInt64) (pn : Int32) (dl : Nat → UInt32) (pl : Nat → Int32) (dr : Nat → Int32) (sp : Nat → Int32) : Nat → Int64 → Int32 → Int64 × Int32
  | 0, x99_0, x99_1 => (x99_0, x99_1)
  | fuel + 1, x99_0, x99_1 => if ln ≤ x99_1 then (x99_0, x99_1) else (f_X5_digest_99 fh lh ee tk mo su lv si ga sl sc fo ln ow gr we du sa le pn dl pl dr sp fuel (f_X5_joinedLot fh lh ee tk mo su lv si ga sl sc fo ln ow gr we du sa le pn dl pl dr sp x99_0 x99_1) (x99_1 + 1))
def n_X5_digest_99 (fh : Int32) (lh : Int32) (ee : Int32) (tk : Int32) (mo : Int32) (su : UInt64) (lv : UInt64) (si : UInt32) (ga : Int32) (sl : Int32) (sc : Int32) (fo : UInt64) (ln : Int32) (ow : Nat → Int32) (gr : Nat → Int32) (we : Nat → Int32) (du : Nat → Int32) (sa : Nat → Int32) (le : Nat → UInt64) (pn : Int32) (dl : Nat → UInt32) (pl : Nat → Int32) (dr : Nat → Int32) (sp : Nat → Int32) : Nat → Int64 → Int32 → Prop
  | 0, x99_0, x99_1 => False
  | fuel + 1, x99_0, x99_1 => ((¬ ln ≤ x99_1) → n_X5_joinedLot fh lh ee tk mo su lv si ga sl sc fo ln ow gr we du sa le pn dl pl dr sp x99_0 x99_1) ∧
  ((¬ ln ≤ x99_1) → n_X5_digest_99 fh lh ee tk mo su lv si ga sl sc fo ln ow gr we du sa le pn dl pl dr sp fuel (f_X5_joinedLot fh lh ee tk mo su lv si ga sl sc fo ln ow gr we du sa le pn dl pl dr sp x99_0 x99_1) (x99_1 + 1))
def f_X5_digest_128 (ln : Int32) (ow : Nat → Int32) (we : Nat → Int32) (sa : Nat → Int32) : Nat → Int64 → Int32 → Int64 × Int32
  | 0, x128_0, x128_1 => (x128_0, x128_1)
  | fuel + 1, x128_0, x128_1 => if 4 ≤ x128_1 then (x128_0, x128_1) else (f_X5_digest_128 ln ow we sa fuel (f_X5_joined x128_0 ((f_X0_weightOf ln ow we sa x128_1 0).toInt64)) (x128_1 + 1))
def n_X5_digest_128 (ln : Int32) (ow : Nat → Int32) (we : Nat → Int32) (sa : Nat → Int32) : Nat → Int64 → Int32 → Prop
  | 0, x128_0, x128_1 => False
  | fuel + 1, x128_0, x128_1 => ((¬ 4 ≤ x128_1) → n_X0_weightOf ln ow we sa x128_1 0) ∧
  ((¬ 4 ≤ x128_1) → n_X5_digest_128 ln ow we sa fuel (f_X5_joined x128_0 ((f_X0_weightOf ln ow we sa x128_1 0).toInt64)) (x128_1 + 1))
def f_X5_digest (lk : Int32) (rf : Int32) (pu : Int32) (to : UInt64) (fh : Int32) (lh : Int32) (ee : Int32) (tk : Int32) (mo : Int32) (su : UInt64) (lv : UInt64) (si : UInt32) (ga : Int32) (sl : Int32) (sc : Int32) (fo : UInt64) (ln : Int32) (ow : Nat → Int32) (gr : Nat → Int32) (we : Nat → Int32) (du : Nat → Int32) (sa : Nat → Int32) (le : Nat → UInt64) (pn : Int32) (dl : Nat → UInt32) (pl : Nat → Int32) (dr : Nat → Int32) (sp : Nat → Int32) : Int64 :=
  (match f_X5_digest_6 lk rf pu fh lh ee tk mo ga sl ln sa pn sp 18 58306 0 with | (x6e_7, x6e_8) => (match f_X5_digest_70 pn dl pl dr sp 5 (f_X5_joined (f_X5_joined (f_X5_joined x6e_7 (f_X5_cutOf1024 (f_X5_pondAnswer to tk mo lv si fo 0))) (f_X5_cutOf1024 (f_X5_pondAnswer to tk mo lv si fo 1))) (f_X5_cutOf1024 (f_X5_pondAnswer to tk mo lv si fo 4))) 0 with | (x70e_29, x70e_30) => (match f_X5_digest_99 fh lh ee tk mo su lv si ga sl sc fo ln ow gr we du sa le pn dl pl dr sp 12 x70e_29 0 with | (x99e_60, x99e_61) => (match f_X5_digest_128 ln ow we sa 6 x99e_60 0 with | (x128e_92, x128e_93) => f_X5_joined (f_X5_joined x128e_92 ((f_X4_ticksToHigh tk).toInt64)) ((f_X5_bestSluice fh lh ee tk mo su lv si ga sc fo ln gr sa le pn dl pl dr sp 24).toInt64)))))
def n_X5_digest (lk : Int32) (rf : Int32) (pu : Int32) (to : UInt64) (fh : Int32) (lh : Int32) (ee : Int32) (tk : Int32) (mo : Int32) (su : UInt64) (lv : UInt64) (si : UInt32) (ga : Int32) (sl : Int32) (sc : Int32) (fo : UInt64) (ln : Int32) (ow : Nat → Int32) (gr : Nat → Int32) (we : Nat → Int32) (du : Nat → Int32) (sa : Nat → Int32) (le : Nat → UInt64) (pn : Int32) (dl : Nat → UInt32) (pl : Nat → Int32) (dr : Nat → Int32) (sp : Nat → Int32) : Prop :=
  (n_X5_digest_6 lk rf pu fh lh ee tk mo ga sl ln sa pn sp 18 58306 0) ∧
  (∀ (x6e_7 : Int64) (x6e_8 : Int32), (x6e_7, x6e_8) = f_X5_digest_6 lk rf pu fh lh ee tk mo ga sl ln sa pn sp 18 58306 0 → n_X5_pondAnswer tk mo si 0) ∧
  (∀ (x6e_7 : Int64) (x6e_8 : Int32), (x6e_7, x6e_8) = f_X5_digest_6 lk rf pu fh lh ee tk mo ga sl ln sa pn sp 18 58306 0 → n_X5_cutOf1024 (f_X5_pondAnswer to tk mo lv si fo 0)) ∧
  (∀ (x6e_7 : Int64) (x6e_8 : Int32), (x6e_7, x6e_8) = f_X5_digest_6 lk rf pu fh lh ee tk mo ga sl ln sa pn sp 18 58306 0 → n_X5_pondAnswer tk mo si 1) ∧
  (∀ (x6e_7 : Int64) (x6e_8 : Int32), (x6e_7, x6e_8) = f_X5_digest_6 lk rf pu fh lh ee tk mo ga sl ln sa pn sp 18 58306 0 → n_X5_cutOf1024 (f_X5_pondAnswer to tk mo lv si fo 1)) ∧
  (∀ (x6e_7 : Int64) (x6e_8 : Int32), (x6e_7, x6e_8) = f_X5_digest_6 lk rf pu fh lh ee tk mo ga sl ln sa pn sp 18 58306 0 → n_X5_pondAnswer tk mo si 4) ∧
  (∀ (x6e_7 : Int64) (x6e_8 : Int32), (x6e_7, x6e_8) = f_X5_digest_6 lk rf pu fh lh ee tk mo ga sl ln sa pn sp 18 58306 0 → n_X5_cutOf1024 (f_X5_pondAnswer to tk mo lv si fo 4)) ∧
  (∀ (x6e_7 : Int64) (x6e_8 : Int32), (x6e_7, x6e_8) = f_X5_digest_6 lk rf pu fh lh ee tk mo ga sl ln sa pn sp 18 58306 0 → n_X5_digest_70 pn dl pl dr sp 5 (f_X5_joined (f_X5_joined (f_X5_joined x6e_7 (f_X5_cutOf1024 (f_X5_pondAnswer to tk mo lv si fo 0))) (f_X5_cutOf1024 (f_X5_pondAnswer to tk mo lv si fo 1))) (f_X5_cutOf1024 (f_X5_pondAnswer to tk mo lv si fo 4))) 0) ∧
  (∀ (x6e_7 : Int64) (x6e_8 : Int32), (x6e_7, x6e_8) = f_X5_digest_6 lk rf pu fh lh ee tk mo ga sl ln sa pn sp 18 58306 0 → ∀ (x70e_29 : Int64) (x70e_30 : Int32), (x70e_29, x70e_30) = f_X5_digest_70 pn dl pl dr sp 5 (f_X5_joined (f_X5_joined (f_X5_joined x6e_7 (f_X5_cutOf1024 (f_X5_pondAnswer to tk mo lv si fo 0))) (f_X5_cutOf1024 (f_X5_pondAnswer to tk mo lv si fo 1))) (f_X5_cutOf1024 (f_X5_pondAnswer to tk mo lv si fo 4))) 0 → n_X5_digest_99 fh lh ee tk mo su lv si ga sl sc fo ln ow gr we du sa le pn dl pl dr sp 12 x70e_29 0) ∧
  (∀ (x6e_7 : Int64) (x6e_8 : Int32), (x6e_7, x6e_8) = f_X5_digest_6 lk rf pu fh lh ee tk mo ga sl ln sa pn sp 18 58306 0 → ∀ (x70e_29 : Int64) (x70e_30 : Int32), (x70e_29, x70e_30) = f_X5_digest_70 pn dl pl dr sp 5 (f_X5_joined (f_X5_joined (f_X5_joined x6e_7 (f_X5_cutOf1024 (f_X5_pondAnswer to tk mo lv si fo 0))) (f_X5_cutOf1024 (f_X5_pondAnswer to tk mo lv si fo 1))) (f_X5_cutOf1024 (f_X5_pondAnswer to tk mo lv si fo 4))) 0 → ∀ (x99e_60 : Int64) (x99e_61 : Int32), (x99e_60, x99e_61) = f_X5_digest_99 fh lh ee tk mo su lv si ga sl sc fo ln ow gr we du sa le pn dl pl dr sp 12 x70e_29 0 → n_X5_digest_128 ln ow we sa 6 x99e_60 0) ∧
  (∀ (x6e_7 : Int64) (x6e_8 : Int32), (x6e_7, x6e_8) = f_X5_digest_6 lk rf pu fh lh ee tk mo ga sl ln sa pn sp 18 58306 0 → ∀ (x70e_29 : Int64) (x70e_30 : Int32), (x70e_29, x70e_30) = f_X5_digest_70 pn dl pl dr sp 5 (f_X5_joined (f_X5_joined (f_X5_joined x6e_7 (f_X5_cutOf1024 (f_X5_pondAnswer to tk mo lv si fo 0))) (f_X5_cutOf1024 (f_X5_pondAnswer to tk mo lv si fo 1))) (f_X5_cutOf1024 (f_X5_pondAnswer to tk mo lv si fo 4))) 0 → ∀ (x99e_60 : Int64) (x99e_61 : Int32), (x99e_60, x99e_61) = f_X5_digest_99 fh lh ee tk mo su lv si ga sl sc fo ln ow gr we du sa le pn dl pl dr sp 12 x70e_29 0 → ∀ (x128e_92 : Int64) (x128e_93 : Int32), (x128e_92, x128e_93) = f_X5_digest_128 ln ow we sa 6 x99e_60 0 → n_X4_ticksToHigh tk) ∧
  (∀ (x6e_7 : Int64) (x6e_8 : Int32), (x6e_7, x6e_8) = f_X5_digest_6 lk rf pu fh lh ee tk mo ga sl ln sa pn sp 18 58306 0 → ∀ (x70e_29 : Int64) (x70e_30 : Int32), (x70e_29, x70e_30) = f_X5_digest_70 pn dl pl dr sp 5 (f_X5_joined (f_X5_joined (f_X5_joined x6e_7 (f_X5_cutOf1024 (f_X5_pondAnswer to tk mo lv si fo 0))) (f_X5_cutOf1024 (f_X5_pondAnswer to tk mo lv si fo 1))) (f_X5_cutOf1024 (f_X5_pondAnswer to tk mo lv si fo 4))) 0 → ∀ (x99e_60 : Int64) (x99e_61 : Int32), (x99e_60, x99e_61) = f_X5_digest_99 fh lh ee tk mo su lv si ga sl sc fo ln ow gr we du sa le pn dl pl dr sp 12 x70e_29 0 → ∀ (x128e_92 : Int64) (x128e_93 : Int32), (x128e_92, x128e_93) = f_X5_digest_128 ln ow we sa 6 x99e_60 0 → n_X5_bestSluice fh lh ee tk mo su lv si ga sc fo ln gr sa le pn dl pl dr sp 24)
def f_L_moon (tk : Int32) (mo : Int32) (oj : Nat → Int64) (p1 : Int32) : Int32 × Int32 × (Nat → Int64) :=
  (match f_X5_moon tk p1 with | .inl (r_1, u_2) => (0, u_2, vp_updL oj (0 : Int32).toNatClampNeg r_1.toInt64) | .inr k9 => (1, mo, oj))
def n_L_moon (tk : Int32) (p1 : Int32) : Prop :=
  (∀ (r_1 : Int32) (u_2 : Int32), (Sum.inl (r_1, u_2) : (Int32 × Int32) ⊕ Nat) = f_X5_moon tk p1 → vp_in 0 1)
def f_L_surge (tk : Int32) (mo : Int32) (su : UInt64) (od : Nat → UInt64) (p1 : Int32) : Int32 × UInt64 × (Nat → UInt64) :=
  (match f_X5_surge tk mo p1 with | .inl (r_2, u_3) => (0, u_3, vf_upd od (0 : Int32).toNatClampNeg r_2) | .inr k9 => (1, su, od))
def n_L_surge (tk : Int32) (mo : Int32) (p1 : Int32) : Prop :=
  (n_X5_surge tk mo p1) ∧
  (∀ (r_2 : UInt64) (u_3 : UInt64), (Sum.inl (r_2, u_3) : (UInt64 × UInt64) ⊕ Nat) = f_X5_surge tk mo p1 → vp_in 0 1)
def f_L_gates (lk : Int32) (ga : Int32) (oj : Nat → Int64) (p1 : Int32) : Int32 × Int32 × (Nat → Int64) :=
  (match f_X5_gates lk ga p1 with | .inl (r_1, u_2) => (0, u_2, vp_updL oj (0 : Int32).toNatClampNeg r_1.toInt64) | .inr k9 => if k9 = 0 then (1, ga, oj) else ((2, ga, oj)))
def n_L_gates (lk : Int32) (ga : Int32) (p1 : Int32) : Prop :=
  (∀ (r_1 : Int32) (u_2 : Int32), (Sum.inl (r_1, u_2) : (Int32 × Int32) ⊕ Nat) = f_X5_gates lk ga p1 → vp_in 0 1)
def f_L_sluice (sl : Int32) (oj : Nat → Int64) (p1 : Int32) : Int32 × Int32 × (Nat → Int64) :=
  (match f_X5_sluice sl p1 with | .inl (r_1, u_2) => (0, u_2, vp_updL oj (0 : Int32).toNatClampNeg r_1.toInt64) | .inr k9 => (1, sl, oj))
def n_L_sluice (sl : Int32) (p1 : Int32) : Prop :=
  (∀ (r_1 : Int32) (u_2 : Int32), (Sum.inl (r_1, u_2) : (Int32 × Int32) ⊕ Nat) = f_X5_sluice sl p1 → vp_in 0 1)
def f_L_hours (fh : Int32) (lh : Int32) (tk : Int32) (oj : Nat → Int64) (p1 : Int32) (p2 : Int32) : Int32 × Int32 × Int32 × (Nat → Int64) :=
  (match f_X5_hours tk p1 p2 with | .inl (r_2, u_3, u_4) => if r_2 = 0 then (0, u_3, u_4, vp_updL oj (0 : Int32).toNatClampNeg 0) else (0, u_3, u_4, vp_updL oj (0 : Int32).toNatClampNeg 1) | .inr k9 => (1, fh, lh, oj))
def n_L_hours (tk : Int32) (p1 : Int32) (p2 : Int32) : Prop :=
  (n_X5_hours tk p1 p2) ∧
  (∀ (r_2 : Int32) (u_3 : Int32) (u_4 : Int32), (Sum.inl (r_2, u_3, u_4) : (Int32 × Int32 × Int32) ⊕ Nat) = f_X5_hours tk p1 p2 → (r_2 = 0) → vp_in 0 1) ∧
  (∀ (r_2 : Int32) (u_3 : Int32) (u_4 : Int32), (Sum.inl (r_2, u_3, u_4) : (Int32 × Int32 × Int32) ⊕ Nat) = f_X5_hours tk p1 p2 → (¬ r_2 = 0) → vp_in 0 1)
def f_L_pair (pn : Int32) (pl : Nat → Int32) (oj : Nat → Int64) : Int32 × Int32 × (Nat → Int32) × (Nat → Int64) :=
  (match f_X5_pair pn pl with | .inl (r_2, u_3, u_4) => (0, u_3, u_4, vp_updL oj (0 : Int32).toNatClampNeg r_2.toInt64) | .inr k9 => (1, pn, pl, oj))
def n_L_pair (pn : Int32) (pl : Nat → Int32) : Prop :=
  (n_X5_pair pn) ∧
  (∀ (r_2 : Int32) (u_3 : Int32) (u_4 : Nat → Int32), (Sum.inl (r_2, u_3, u_4) : (Int32 × Int32 × (Nat → Int32)) ⊕ Nat) = f_X5_pair pn pl → vp_in 0 1)
def f_L_lot (tk : Int32) (ln : Int32) (ow : Nat → Int32) (gr : Nat → Int32) (we : Nat → Int32) (du : Nat → Int32) (sa : Nat → Int32) (le : Nat → UInt64) (oj : Nat → Int64) (p1 : Int32) (p2 : Int32) (p3 : Int32) (p4 : Int32) : Int32 × Int32 × (Nat → Int32) × (Nat → Int32) × (Nat → Int32) × (Nat → Int32) × (Nat → Int32) × (Nat → UInt64) × (Nat → Int64) :=
  (match f_X5_lot tk ln ow gr we du sa le p1 p2 p3 p4 with | .inl (r_2, u_3, u_4, u_5, u_6, u_7, u_8, u_9) => (0, u_3, u_4, u_5, u_6, u_7, u_8, u_9, vp_updL oj (0 : Int32).toNatClampNeg r_2.toInt64) | .inr k9 => if k9 = 0 then (1, ln, ow, gr, we, du, sa, le, oj) else ((2, ln, ow, gr, we, du, sa, le, oj)))
def n_L_lot (tk : Int32) (ln : Int32) (ow : Nat → Int32) (gr : Nat → Int32) (we : Nat → Int32) (du : Nat → Int32) (sa : Nat → Int32) (le : Nat → UInt64) (p1 : Int32) (p2 : Int32) (p3 : Int32) (p4 : Int32) : Prop :=
  (n_X5_lot ln p1 p2 p3 p4) ∧
  (∀ (r_2 : Int32) (u_3 : Int32) (u_4 : Nat → Int32) (u_5 : Nat → Int32) (u_6 : Nat → Int32) (u_7 : Nat → Int32) (u_8 : Nat → Int32) (u_9 : Nat → UInt64), (Sum.inl (r_2, u_3, u_4, u_5, u_6, u_7, u_8, u_9) : (Int32 × Int32 × (Nat → Int32) × (Nat → Int32) × (Nat → Int32) × (Nat → Int32) × (Nat → Int32) × (Nat → UInt64)) ⊕ Nat) = f_X5_lot tk ln ow gr we du sa le p1 p2 p3 p4 → vp_in 0 1)
def f_L_feed (ln : Int32) (sa : Nat → Int32) (pn : Int32) (pl : Nat → Int32) (dr : Nat → Int32) (oj : Nat → Int64) (p1 : Int32) (p2 : Int32) : Int32 × (Nat → Int32) × (Nat → Int32) × (Nat → Int64) :=
  (match f_X5_feed ln sa pn pl dr p1 p2 with | .inl (r_2, u_3, u_4) => (0, u_3, u_4, vp_updL oj (0 : Int32).toNatClampNeg r_2.toInt64) | .inr k9 => if k9 = 1 then (2, sa, pl, oj) else ((1, sa, pl, oj)))
def n_L_feed (ln : Int32) (sa : Nat → Int32) (pn : Int32) (pl : Nat → Int32) (dr : Nat → Int32) (p1 : Int32) (p2 : Int32) : Prop :=
  (n_X5_feed ln sa pn pl dr p1 p2) ∧
  (∀ (r_2 : Int32) (u_3 : Nat → Int32) (u_4 : Nat → Int32), (Sum.inl (r_2, u_3, u_4) : (Int32 × (Nat → Int32) × (Nat → Int32)) ⊕ Nat) = f_X5_feed ln sa pn pl dr p1 p2 → vp_in 0 1)
def f_L_take (ln : Int32) (sa : Nat → Int32) (pn : Int32) (pl : Nat → Int32) (oj : Nat → Int64) (p1 : Int32) : Int32 × (Nat → Int32) × (Nat → Int32) × (Nat → Int64) :=
  (match f_X5_take ln sa pn pl p1 with | .inl (r_2, u_3, u_4) => (0, u_3, u_4, vp_updL oj (0 : Int32).toNatClampNeg r_2.toInt64) | .inr k9 => if k9 = 1 then (2, sa, pl, oj) else ((1, sa, pl, oj)))
def n_L_take (ln : Int32) (sa : Nat → Int32) (pn : Int32) (pl : Nat → Int32) (p1 : Int32) : Prop :=
  (n_X5_take ln pn pl p1) ∧
  (∀ (r_2 : Int32) (u_3 : Nat → Int32) (u_4 : Nat → Int32), (Sum.inl (r_2, u_3, u_4) : (Int32 × (Nat → Int32) × (Nat → Int32)) ⊕ Nat) = f_X5_take ln sa pn pl p1 → vp_in 0 1)
def f_L_dress (pn : Int32) (dl : Nat → UInt32) (pl : Nat → Int32) (dr : Nat → Int32) (oj : Nat → Int64) (p1 : Int32) : Int32 × (Nat → Int32) × (Nat → Int64) :=
  (match f_X5_dress pn dl pl dr p1 with | .inl (r_2, u_3) => (0, u_3, vp_updL oj (0 : Int32).toNatClampNeg r_2.toInt64) | .inr k9 => if k9 = 1 then (2, dr, oj) else ((1, dr, oj)))
def n_L_dress (pn : Int32) (dl : Nat → UInt32) (pl : Nat → Int32) (dr : Nat → Int32) (p1 : Int32) : Prop :=
  (n_X5_dress pn dl pl dr p1) ∧
  (∀ (r_2 : Int32) (u_3 : Nat → Int32), (Sum.inl (r_2, u_3) : (Int32 × (Nat → Int32)) ⊕ Nat) = f_X5_dress pn dl pl dr p1 → vp_in 0 1)
def f_L_give (pu : Int32) (to : UInt64) (tk : Int32) (ln : Int32) (gr : Nat → Int32) (we : Nat → Int32) (du : Nat → Int32) (sa : Nat → Int32) (oj : Nat → Int64) (p1 : Int32) : Int32 × Int32 × UInt64 × (Nat → Int32) × (Nat → Int64) :=
  (match f_X5_give pu to tk ln gr we du sa p1 with | .inl (r_2, u_3, u_4, u_5) => (0, u_3, u_4, u_5, vp_updL oj (0 : Int32).toNatClampNeg r_2.toInt64) | .inr k9 => if k9 = 1 then (2, pu, to, sa, oj) else ((1, pu, to, sa, oj)))
def n_L_give (pu : Int32) (to : UInt64) (tk : Int32) (ln : Int32) (gr : Nat → Int32) (we : Nat → Int32) (du : Nat → Int32) (sa : Nat → Int32) (p1 : Int32) : Prop :=
  (n_X5_give to ln we sa p1) ∧
  (∀ (r_2 : Int32) (u_3 : Int32) (u_4 : UInt64) (u_5 : Nat → Int32), (Sum.inl (r_2, u_3, u_4, u_5) : (Int32 × Int32 × UInt64 × (Nat → Int32)) ⊕ Nat) = f_X5_give pu to tk ln gr we du sa p1 → vp_in 0 1)
def f_L_pass (fh : Int32) (lh : Int32) (ee : Int32) (tk : Int32) (mo : Int32) (su : UInt64) (lv : UInt64) (si : UInt32) (ga : Int32) (sl : Int32) (sc : Int32) (fo : UInt64) (ln : Int32) (gr : Nat → Int32) (sa : Nat → Int32) (le : Nat → UInt64) (pn : Int32) (dl : Nat → UInt32) (pl : Nat → Int32) (dr : Nat → Int32) (sp : Nat → Int32) (oj : Nat → Int64) (p1 : Int32) : Int32 × Int32 × Int32 × UInt64 × UInt32 × UInt64 × (Nat → Int32) × (Nat → UInt64) × (Nat → UInt32) × (Nat → Int32) × (Nat → Int32) × (Nat → Int32) × (Nat → Int64) :=
  (match f_X5_pass fh lh ee tk mo su lv si ga sl sc fo ln gr sa le pn dl pl dr sp p1 with | .inl (r_2, u_3, u_4, u_5, u_6, u_7, u_8, u_9, u_10, u_11, u_12, u_13) => (0, u_3, u_4, u_5, u_6, u_7, u_8, u_9, u_10, u_11, u_12, u_13, vp_updL oj (0 : Int32).toNatClampNeg r_2.toInt64) | .inr k9 => if k9 = 0 then (1, ee, tk, lv, si, fo, sa, le, dl, pl, dr, sp, oj) else ((2, ee, tk, lv, si, fo, sa, le, dl, pl, dr, sp, oj)))
def n_L_pass (fh : Int32) (lh : Int32) (ee : Int32) (tk : Int32) (mo : Int32) (su : UInt64) (lv : UInt64) (si : UInt32) (ga : Int32) (sl : Int32) (sc : Int32) (fo : UInt64) (ln : Int32) (gr : Nat → Int32) (sa : Nat → Int32) (le : Nat → UInt64) (pn : Int32) (dl : Nat → UInt32) (pl : Nat → Int32) (dr : Nat → Int32) (sp : Nat → Int32) (p1 : Int32) : Prop :=
  (n_X5_pass fh lh ee tk mo su lv si ga sl sc fo ln gr sa le pn dl pl dr sp p1) ∧
  (∀ (r_2 : Int32) (u_3 : Int32) (u_4 : Int32) (u_5 : UInt64) (u_6 : UInt32) (u_7 : UInt64) (u_8 : Nat → Int32) (u_9 : Nat → UInt64) (u_10 : Nat → UInt32) (u_11 : Nat → Int32) (u_12 : Nat → Int32) (u_13 : Nat → Int32), (Sum.inl (r_2, u_3, u_4, u_5, u_6, u_7, u_8, u_9, u_10, u_11, u_12, u_13) : (Int32 × Int32 × Int32 × UInt64 × UInt32 × UInt64 × (Nat → Int32) × (Nat → UInt64) × (Nat → UInt32) × (Nat → Int32) × (Nat → Int32) × (Nat → Int32)) ⊕ Nat) = f_X5_pass fh lh ee tk mo su lv si ga sl sc fo ln gr sa le pn dl pl dr sp p1 → vp_in 0 1)
def f_L_sea (tk : Int32) (mo : Int32) (su : UInt64) (od : Nat → UInt64) (p1 : Int32) : Int32 × (Nat → UInt64) :=
  (match f_X5_sea tk mo su p1 with | .inl r_2 => (0, vf_upd od (0 : Int32).toNatClampNeg r_2) | .inr k9 => (1, od))
def n_L_sea (tk : Int32) (mo : Int32) (su : UInt64) (p1 : Int32) : Prop :=
  (n_X5_sea tk mo su p1) ∧
  (∀ (r_2 : UInt64), (Sum.inl r_2 : (UInt64) ⊕ Nat) = f_X5_sea tk mo su p1 → vp_in 0 1)
def f_L_pond (to : UInt64) (tk : Int32) (mo : Int32) (lv : UInt64) (si : UInt32) (fo : UInt64) (od : Nat → UInt64) (p1 : Int32) : Int32 × (Nat → UInt64) :=
  (match f_X5_pond to tk mo lv si fo p1 with | .inl r_2 => (0, vf_upd od (0 : Int32).toNatClampNeg r_2) | .inr k9 => (1, od))
def n_L_pond (to : UInt64) (tk : Int32) (mo : Int32) (lv : UInt64) (si : UInt32) (fo : UInt64) (p1 : Int32) : Prop :=
  (n_X5_pond tk mo si p1) ∧
  (∀ (r_2 : UInt64), (Sum.inl r_2 : (UInt64) ⊕ Nat) = f_X5_pond to tk mo lv si fo p1 → vp_in 0 1)
def f_L_ofPair (pn : Int32) (pl : Nat → Int32) (dr : Nat → Int32) (sp : Nat → Int32) (oj : Nat → Int64) (p1 : Int32) (p2 : Int32) : Int32 × (Nat → Int64) :=
  (match f_X5_ofPair pn pl dr sp p1 p2 with | .inl r_2 => (0, vp_updL oj (0 : Int32).toNatClampNeg r_2.toInt64) | .inr k9 => if k9 = 0 then (2, oj) else ((1, oj)))
def n_L_ofPair (pn : Int32) (pl : Nat → Int32) (dr : Nat → Int32) (sp : Nat → Int32) (p1 : Int32) (p2 : Int32) : Prop :=
  (n_X5_ofPair pn p1 p2) ∧
  (∀ (r_2 : Int32), (Sum.inl r_2 : (Int32) ⊕ Nat) = f_X5_ofPair pn pl dr sp p1 p2 → vp_in 0 1)
def f_L_dull (pn : Int32) (dl : Nat → UInt32) (od : Nat → UInt64) (p1 : Int32) : Int32 × (Nat → UInt64) :=
  (match f_X5_dull pn dl p1 with | .inl r_2 => (0, vf_upd od (0 : Int32).toNatClampNeg r_2) | .inr k9 => (1, od))
def n_L_dull (pn : Int32) (dl : Nat → UInt32) (p1 : Int32) : Prop :=
  (n_X5_dull pn dl p1) ∧
  (∀ (r_2 : UInt64), (Sum.inl r_2 : (UInt64) ⊕ Nat) = f_X5_dull pn dl p1 → vp_in 0 1)
def f_L_ofLot (ln : Int32) (ow : Nat → Int32) (gr : Nat → Int32) (we : Nat → Int32) (du : Nat → Int32) (sa : Nat → Int32) (pn : Int32) (pl : Nat → Int32) (oj : Nat → Int64) (p1 : Int32) (p2 : Int32) : Int32 × (Nat → Int64) :=
  (match f_X5_ofLot ln ow gr we du sa pn pl p1 p2 with | .inl r_2 => (0, vp_updL oj (0 : Int32).toNatClampNeg r_2.toInt64) | .inr k9 => if k9 = 0 then (2, oj) else ((1, oj)))
def n_L_ofLot (ln : Int32) (ow : Nat → Int32) (gr : Nat → Int32) (we : Nat → Int32) (du : Nat → Int32) (sa : Nat → Int32) (pn : Int32) (pl : Nat → Int32) (p1 : Int32) (p2 : Int32) : Prop :=
  (n_X5_ofLot ln pn pl p1 p2) ∧
  (∀ (r_2 : Int32), (Sum.inl r_2 : (Int32) ⊕ Nat) = f_X5_ofLot ln ow gr we du sa pn pl p1 p2 → vp_in 0 1)
def f_L_left (ln : Int32) (le : Nat → UInt64) (od : Nat → UInt64) (p1 : Int32) : Int32 × (Nat → UInt64) :=
  (match f_X5_left ln le p1 with | .inl r_2 => (0, vf_upd od (0 : Int32).toNatClampNeg r_2) | .inr k9 => (1, od))
def n_L_left (ln : Int32) (le : Nat → UInt64) (p1 : Int32) : Prop :=
  (n_X5_left ln p1) ∧
  (∀ (r_2 : UInt64), (Sum.inl r_2 : (UInt64) ⊕ Nat) = f_X5_left ln le p1 → vp_in 0 1)
def f_L_many (lk : Int32) (rf : Int32) (pu : Int32) (fh : Int32) (lh : Int32) (ee : Int32) (tk : Int32) (mo : Int32) (ga : Int32) (sl : Int32) (ln : Int32) (sa : Nat → Int32) (pn : Int32) (sp : Nat → Int32) (oj : Nat → Int64) (p1 : Int32) : Int32 × (Nat → Int64) :=
  (match f_X5_many lk rf pu fh lh ee tk mo ga sl ln sa pn sp p1 with | .inl r_2 => (0, vp_updL oj (0 : Int32).toNatClampNeg r_2.toInt64) | .inr k9 => (1, oj))
def n_L_many (lk : Int32) (rf : Int32) (pu : Int32) (fh : Int32) (lh : Int32) (ee : Int32) (tk : Int32) (mo : Int32) (ga : Int32) (sl : Int32) (ln : Int32) (sa : Nat → Int32) (pn : Int32) (sp : Nat → Int32) (p1 : Int32) : Prop :=
  (n_X5_many ln sa pn sp p1) ∧
  (∀ (r_2 : Int32), (Sum.inl r_2 : (Int32) ⊕ Nat) = f_X5_many lk rf pu fh lh ee tk mo ga sl ln sa pn sp p1 → vp_in 0 1)
def f_L_ofOwner (ln : Int32) (ow : Nat → Int32) (we : Nat → Int32) (sa : Nat → Int32) (oj : Nat → Int64) (p1 : Int32) (p2 : Int32) : Int32 × (Nat → Int64) :=
  (match f_X5_ofOwner ln ow we sa p1 p2 with | .inl r_2 => (0, vp_updL oj (0 : Int32).toNatClampNeg r_2.toInt64) | .inr k9 => (1, oj))
def n_L_ofOwner (ln : Int32) (ow : Nat → Int32) (we : Nat → Int32) (sa : Nat → Int32) (p1 : Int32) (p2 : Int32) : Prop :=
  (n_X5_ofOwner ln ow we sa p1 p2) ∧
  (∀ (r_2 : Int32), (Sum.inl r_2 : (Int32) ⊕ Nat) = f_X5_ofOwner ln ow we sa p1 p2 → vp_in 0 1)
def f_L_wouldLevel (fh : Int32) (lh : Int32) (ee : Int32) (tk : Int32) (mo : Int32) (su : UInt64) (lv : UInt64) (si : UInt32) (ga : Int32) (sl : Int32) (sc : Int32) (fo : UInt64) (ln : Int32) (gr : Nat → Int32) (sa : Nat → Int32) (le : Nat → UInt64) (pn : Int32) (dl : Nat → UInt32) (pl : Nat → Int32) (dr : Nat → Int32) (sp : Nat → Int32) (od : Nat → UInt64) (p1 : Int32) : Int32 × (Nat → UInt64) :=
  (match f_X5_wouldLevel fh lh ee tk mo su lv si ga sl sc fo ln gr sa le pn dl pl dr sp p1 with | .inl r_2 => (0, vf_upd od (0 : Int32).toNatClampNeg r_2) | .inr k9 => (1, od))
def n_L_wouldLevel (fh : Int32) (lh : Int32) (ee : Int32) (tk : Int32) (mo : Int32) (su : UInt64) (lv : UInt64) (si : UInt32) (ga : Int32) (sl : Int32) (sc : Int32) (fo : UInt64) (ln : Int32) (gr : Nat → Int32) (sa : Nat → Int32) (le : Nat → UInt64) (pn : Int32) (dl : Nat → UInt32) (pl : Nat → Int32) (dr : Nat → Int32) (sp : Nat → Int32) (p1 : Int32) : Prop :=
  (n_X5_wouldLevel fh lh ee tk mo su lv si ga sl sc fo ln gr sa le pn dl pl dr sp p1) ∧
  (∀ (r_2 : UInt64), (Sum.inl r_2 : (UInt64) ⊕ Nat) = f_X5_wouldLevel fh lh ee tk mo su lv si ga sl sc fo ln gr sa le pn dl pl dr sp p1 → vp_in 0 1)
def f_L_wouldDone (fh : Int32) (lh : Int32) (ee : Int32) (tk : Int32) (mo : Int32) (su : UInt64) (lv : UInt64) (si : UInt32) (ga : Int32) (sl : Int32) (sc : Int32) (fo : UInt64) (ln : Int32) (gr : Nat → Int32) (sa : Nat → Int32) (le : Nat → UInt64) (pn : Int32) (dl : Nat → UInt32) (pl : Nat → Int32) (dr : Nat → Int32) (sp : Nat → Int32) (oj : Nat → Int64) (p1 : Int32) : Int32 × (Nat → Int64) :=
  (match f_X5_wouldDone fh lh ee tk mo su lv si ga sl sc fo ln gr sa le pn dl pl dr sp p1 with | .inl r_2 => (0, vp_updL oj (0 : Int32).toNatClampNeg r_2.toInt64) | .inr k9 => (1, oj))
def n_L_wouldDone (fh : Int32) (lh : Int32) (ee : Int32) (tk : Int32) (mo : Int32) (su : UInt64) (lv : UInt64) (si : UInt32) (ga : Int32) (sl : Int32) (sc : Int32) (fo : UInt64) (ln : Int32) (gr : Nat → Int32) (sa : Nat → Int32) (le : Nat → UInt64) (pn : Int32) (dl : Nat → UInt32) (pl : Nat → Int32) (dr : Nat → Int32) (sp : Nat → Int32) (p1 : Int32) : Prop :=
  (n_X5_wouldDone fh lh ee tk mo su lv si ga sl sc fo ln gr sa le pn dl pl dr sp p1) ∧
  (∀ (r_2 : Int32), (Sum.inl r_2 : (Int32) ⊕ Nat) = f_X5_wouldDone fh lh ee tk mo su lv si ga sl sc fo ln gr sa le pn dl pl dr sp p1 → vp_in 0 1)
def f_L_best (fh : Int32) (lh : Int32) (ee : Int32) (tk : Int32) (mo : Int32) (su : UInt64) (lv : UInt64) (si : UInt32) (ga : Int32) (sc : Int32) (fo : UInt64) (ln : Int32) (gr : Nat → Int32) (sa : Nat → Int32) (le : Nat → UInt64) (pn : Int32) (dl : Nat → UInt32) (pl : Nat → Int32) (dr : Nat → Int32) (sp : Nat → Int32) (oj : Nat → Int64) (p1 : Int32) : Int32 × (Nat → Int64) :=
  (match f_X5_best fh lh ee tk mo su lv si ga sc fo ln gr sa le pn dl pl dr sp p1 with | .inl r_2 => (0, vp_updL oj (0 : Int32).toNatClampNeg r_2.toInt64) | .inr k9 => (1, oj))
def n_L_best (fh : Int32) (lh : Int32) (ee : Int32) (tk : Int32) (mo : Int32) (su : UInt64) (lv : UInt64) (si : UInt32) (ga : Int32) (sc : Int32) (fo : UInt64) (ln : Int32) (gr : Nat → Int32) (sa : Nat → Int32) (le : Nat → UInt64) (pn : Int32) (dl : Nat → UInt32) (pl : Nat → Int32) (dr : Nat → Int32) (sp : Nat → Int32) (p1 : Int32) : Prop :=
  (n_X5_best fh lh ee tk mo su lv si ga sc fo ln gr sa le pn dl pl dr sp p1) ∧
  (∀ (r_2 : Int32), (Sum.inl r_2 : (Int32) ⊕ Nat) = f_X5_best fh lh ee tk mo su lv si ga sc fo ln gr sa le pn dl pl dr sp p1 → vp_in 0 1)
def f_b0 (tk : Int32) (mo : Int32) (oj : Nat → Int64) (xs : Nat → Int32) (i5 : Int32) : Int32 × (Nat → Int64) × Int32 × Int32 :=
  (match f_L_moon tk mo oj (xs (i5 + 1).toNatClampNeg) with | (r_3, u_4, u_5) => (match f_X7_moon tk mo (xs (i5 + 1).toNatClampNeg) with | (r_6, u_7, u_8) => if (f_X7_thrown u_7) = r_3 then (if r_3 = 0 then (if (lg_cmp (u_5 (0 : Int32).toNatClampNeg) r_6.toInt64) = 0 then (u_4, u_5, u_7, u_8) else (default : Int32 × (Nat → Int64) × Int32 × Int32)) else (u_4, u_5, u_7, u_8)) else (default : Int32 × (Nat → Int64) × Int32 × Int32)))
def n_b0 (tk : Int32) (mo : Int32) (oj : Nat → Int64) (L : Nat) (xs : Nat → Int32) (i5 : Int32) : Prop :=
  (vp_in (i5 + 1) L) ∧
  (n_L_moon tk (xs (i5 + 1).toNatClampNeg)) ∧
  (∀ (r_3 : Int32) (u_4 : Int32) (u_5 : Nat → Int64), (r_3, u_4, u_5) = f_L_moon tk mo oj (xs (i5 + 1).toNatClampNeg) → ∀ (r_6 : Int32) (u_7 : Int32) (u_8 : Int32), (r_6, u_7, u_8) = f_X7_moon tk mo (xs (i5 + 1).toNatClampNeg) → ((f_X7_thrown u_7) = r_3) → (r_3 = 0) → vp_in 0 1) ∧
  (∀ (r_3 : Int32) (u_4 : Int32) (u_5 : Nat → Int64), (r_3, u_4, u_5) = f_L_moon tk mo oj (xs (i5 + 1).toNatClampNeg) → ∀ (r_6 : Int32) (u_7 : Int32) (u_8 : Int32), (r_6, u_7, u_8) = f_X7_moon tk mo (xs (i5 + 1).toNatClampNeg) → ((f_X7_thrown u_7) = r_3) → (r_3 = 0) → (¬ (lg_cmp (u_5 (0 : Int32).toNatClampNeg) r_6.toInt64) = 0) → False) ∧
  (∀ (r_3 : Int32) (u_4 : Int32) (u_5 : Nat → Int64), (r_3, u_4, u_5) = f_L_moon tk mo oj (xs (i5 + 1).toNatClampNeg) → ∀ (r_6 : Int32) (u_7 : Int32) (u_8 : Int32), (r_6, u_7, u_8) = f_X7_moon tk mo (xs (i5 + 1).toNatClampNeg) → (¬ (f_X7_thrown u_7) = r_3) → False)
def f_b1 (tk : Int32) (mo : Int32) (su : UInt64) (ov : Nat → UInt64) (xs : Nat → Int32) (i5 : Int32) : UInt64 × (Nat → UInt64) × Int32 × UInt64 :=
  (match f_L_surge tk mo su ov (xs (i5 + 1).toNatClampNeg) with | (r_3, u_4, u_5) => (match f_X7_surge tk mo su (xs (i5 + 1).toNatClampNeg) with | (r_7, u_8, u_9) => if (f_X7_thrown u_8) = r_3 then (if r_3 = 0 then (if (Op.cmpValue (FP.dcmp (u_5 (0 : Int32).toNatClampNeg) r_7) .l) = 0 then (u_4, u_5, u_8, u_9) else (if (Op.cmpValue (FP.dcmp (u_5 (0 : Int32).toNatClampNeg) (u_5 (0 : Int32).toNatClampNeg)) .l) = 0 then (default : UInt64 × (Nat → UInt64) × Int32 × UInt64) else (if (Op.cmpValue (FP.dcmp r_7 r_7) .l) = 0 then (default : UInt64 × (Nat → UInt64) × Int32 × UInt64) else (u_4, u_5, u_8, u_9)))) else (u_4, u_5, u_8, u_9)) else (default : UInt64 × (Nat → UInt64) × Int32 × UInt64)))
def n_b1 (tk : Int32) (mo : Int32) (su : UInt64) (ov : Nat → UInt64) (L : Nat) (xs : Nat → Int32) (i5 : Int32) : Prop :=
  (vp_in (i5 + 1) L) ∧
  (n_L_surge tk mo (xs (i5 + 1).toNatClampNeg)) ∧
  (∀ (r_3 : Int32) (u_4 : UInt64) (u_5 : Nat → UInt64), (r_3, u_4, u_5) = f_L_surge tk mo su ov (xs (i5 + 1).toNatClampNeg) → n_X7_surge tk mo (xs (i5 + 1).toNatClampNeg)) ∧
  (∀ (r_3 : Int32) (u_4 : UInt64) (u_5 : Nat → UInt64), (r_3, u_4, u_5) = f_L_surge tk mo su ov (xs (i5 + 1).toNatClampNeg) → ∀ (r_7 : UInt64) (u_8 : Int32) (u_9 : UInt64), (r_7, u_8, u_9) = f_X7_surge tk mo su (xs (i5 + 1).toNatClampNeg) → ((f_X7_thrown u_8) = r_3) → (r_3 = 0) → vp_in 0 1) ∧
  (∀ (r_3 : Int32) (u_4 : UInt64) (u_5 : Nat → UInt64), (r_3, u_4, u_5) = f_L_surge tk mo su ov (xs (i5 + 1).toNatClampNeg) → ∀ (r_7 : UInt64) (u_8 : Int32) (u_9 : UInt64), (r_7, u_8, u_9) = f_X7_surge tk mo su (xs (i5 + 1).toNatClampNeg) → ((f_X7_thrown u_8) = r_3) → (r_3 = 0) → (¬ (Op.cmpValue (FP.dcmp (u_5 (0 : Int32).toNatClampNeg) r_7) .l) = 0) → ((Op.cmpValue (FP.dcmp (u_5 (0 : Int32).toNatClampNeg) (u_5 (0 : Int32).toNatClampNeg)) .l) = 0) → False) ∧
  (∀ (r_3 : Int32) (u_4 : UInt64) (u_5 : Nat → UInt64), (r_3, u_4, u_5) = f_L_surge tk mo su ov (xs (i5 + 1).toNatClampNeg) → ∀ (r_7 : UInt64) (u_8 : Int32) (u_9 : UInt64), (r_7, u_8, u_9) = f_X7_surge tk mo su (xs (i5 + 1).toNatClampNeg) → ((f_X7_thrown u_8) = r_3) → (r_3 = 0) → (¬ (Op.cmpValue (FP.dcmp (u_5 (0 : Int32).toNatClampNeg) r_7) .l) = 0) → (¬ (Op.cmpValue (FP.dcmp (u_5 (0 : Int32).toNatClampNeg) (u_5 (0 : Int32).toNatClampNeg)) .l) = 0) → ((Op.cmpValue (FP.dcmp r_7 r_7) .l) = 0) → False) ∧
  (∀ (r_3 : Int32) (u_4 : UInt64) (u_5 : Nat → UInt64), (r_3, u_4, u_5) = f_L_surge tk mo su ov (xs (i5 + 1).toNatClampNeg) → ∀ (r_7 : UInt64) (u_8 : Int32) (u_9 : UInt64), (r_7, u_8, u_9) = f_X7_surge tk mo su (xs (i5 + 1).toNatClampNeg) → (¬ (f_X7_thrown u_8) = r_3) → False)
def f_b2 (lk : Int32) (ga : Int32) (oj : Nat → Int64) (xs : Nat → Int32) (i5 : Int32) : Int32 × (Nat → Int64) × Int32 × Int32 :=
  (match f_L_gates lk ga oj (xs (i5 + 1).toNatClampNeg) with | (r_3, u_4, u_5) => (match f_X7_gates lk ga (xs (i5 + 1).toNatClampNeg) with | (r_6, u_7, u_8) => if (f_X7_thrown u_7) = r_3 then (if r_3 = 0 then (if (lg_cmp (u_5 (0 : Int32).toNatClampNeg) r_6.toInt64) = 0 then (u_4, u_5, u_7, u_8) else (default : Int32 × (Nat → Int64) × Int32 × Int32)) else (u_4, u_5, u_7, u_8)) else (default : Int32 × (Nat → Int64) × Int32 × Int32)))
def n_b2 (lk : Int32) (ga : Int32) (oj : Nat → Int64) (L : Nat) (xs : Nat → Int32) (i5 : Int32) : Prop :=
  (vp_in (i5 + 1) L) ∧
  (n_L_gates lk ga (xs (i5 + 1).toNatClampNeg)) ∧
  (∀ (r_3 : Int32) (u_4 : Int32) (u_5 : Nat → Int64), (r_3, u_4, u_5) = f_L_gates lk ga oj (xs (i5 + 1).toNatClampNeg) → ∀ (r_6 : Int32) (u_7 : Int32) (u_8 : Int32), (r_6, u_7, u_8) = f_X7_gates lk ga (xs (i5 + 1).toNatClampNeg) → ((f_X7_thrown u_7) = r_3) → (r_3 = 0) → vp_in 0 1) ∧
  (∀ (r_3 : Int32) (u_4 : Int32) (u_5 : Nat → Int64), (r_3, u_4, u_5) = f_L_gates lk ga oj (xs (i5 + 1).toNatClampNeg) → ∀ (r_6 : Int32) (u_7 : Int32) (u_8 : Int32), (r_6, u_7, u_8) = f_X7_gates lk ga (xs (i5 + 1).toNatClampNeg) → ((f_X7_thrown u_7) = r_3) → (r_3 = 0) → (¬ (lg_cmp (u_5 (0 : Int32).toNatClampNeg) r_6.toInt64) = 0) → False) ∧
  (∀ (r_3 : Int32) (u_4 : Int32) (u_5 : Nat → Int64), (r_3, u_4, u_5) = f_L_gates lk ga oj (xs (i5 + 1).toNatClampNeg) → ∀ (r_6 : Int32) (u_7 : Int32) (u_8 : Int32), (r_6, u_7, u_8) = f_X7_gates lk ga (xs (i5 + 1).toNatClampNeg) → (¬ (f_X7_thrown u_7) = r_3) → False)
def f_b3 (sl : Int32) (oj : Nat → Int64) (xs : Nat → Int32) (i5 : Int32) : Int32 × (Nat → Int64) × Int32 × Int32 :=
  (match f_L_sluice sl oj (xs (i5 + 1).toNatClampNeg) with | (r_3, u_4, u_5) => (match f_X7_sluice sl (xs (i5 + 1).toNatClampNeg) with | (r_6, u_7, u_8) => if (f_X7_thrown u_7) = r_3 then (if r_3 = 0 then (if (lg_cmp (u_5 (0 : Int32).toNatClampNeg) r_6.toInt64) = 0 then (u_4, u_5, u_7, u_8) else (default : Int32 × (Nat → Int64) × Int32 × Int32)) else (u_4, u_5, u_7, u_8)) else (default : Int32 × (Nat → Int64) × Int32 × Int32)))
def n_b3 (sl : Int32) (oj : Nat → Int64) (L : Nat) (xs : Nat → Int32) (i5 : Int32) : Prop :=
  (vp_in (i5 + 1) L) ∧
  (n_L_sluice sl (xs (i5 + 1).toNatClampNeg)) ∧
  (∀ (r_3 : Int32) (u_4 : Int32) (u_5 : Nat → Int64), (r_3, u_4, u_5) = f_L_sluice sl oj (xs (i5 + 1).toNatClampNeg) → ∀ (r_6 : Int32) (u_7 : Int32) (u_8 : Int32), (r_6, u_7, u_8) = f_X7_sluice sl (xs (i5 + 1).toNatClampNeg) → ((f_X7_thrown u_7) = r_3) → (r_3 = 0) → vp_in 0 1) ∧
  (∀ (r_3 : Int32) (u_4 : Int32) (u_5 : Nat → Int64), (r_3, u_4, u_5) = f_L_sluice sl oj (xs (i5 + 1).toNatClampNeg) → ∀ (r_6 : Int32) (u_7 : Int32) (u_8 : Int32), (r_6, u_7, u_8) = f_X7_sluice sl (xs (i5 + 1).toNatClampNeg) → ((f_X7_thrown u_7) = r_3) → (r_3 = 0) → (¬ (lg_cmp (u_5 (0 : Int32).toNatClampNeg) r_6.toInt64) = 0) → False) ∧
  (∀ (r_3 : Int32) (u_4 : Int32) (u_5 : Nat → Int64), (r_3, u_4, u_5) = f_L_sluice sl oj (xs (i5 + 1).toNatClampNeg) → ∀ (r_6 : Int32) (u_7 : Int32) (u_8 : Int32), (r_6, u_7, u_8) = f_X7_sluice sl (xs (i5 + 1).toNatClampNeg) → (¬ (f_X7_thrown u_7) = r_3) → False)
def f_b4 (sc : Int32) (xs : Nat → Int32) (i5 : Int32) : Int32 × Int32 × Int32 :=
  if (xs (i5 + 1).toNatClampNeg) = 0 then (match f_X5_scour sc 0 with | (r_4, u_5) => if (xs (i5 + 1).toNatClampNeg) = 0 then (match f_X7_scour sc 0 with | (r_8, u_9, u_10) => if r_4 = r_8 then (u_5, u_9, u_10) else (default : Int32 × Int32 × Int32)) else (match f_X7_scour sc 1 with | (r_14, u_15, u_16) => if r_4 = r_14 then (u_5, u_15, u_16) else (default : Int32 × Int32 × Int32))) else (match f_X5_scour sc 1 with | (r_20, u_21) => if (xs (i5 + 1).toNatClampNeg) = 0 then (match f_X7_scour sc 0 with | (r_24, u_25, u_26) => if r_20 = r_24 then (u_21, u_25, u_26) else (default : Int32 × Int32 × Int32)) else (match f_X7_scour sc 1 with | (r_30, u_31, u_32) => if r_20 = r_30 then (u_21, u_31, u_32) else (default : Int32 × Int32 × Int32)))
def n_b4 (sc : Int32) (L : Nat) (xs : Nat → Int32) (i5 : Int32) : Prop :=
  (vp_in (i5 + 1) L) ∧
  (((xs (i5 + 1).toNatClampNeg) = 0) → n_X5_scour sc 0) ∧
  (((xs (i5 + 1).toNatClampNeg) = 0) → ∀ (r_4 : Int32) (u_5 : Int32), (r_4, u_5) = f_X5_scour sc 0 → ((xs (i5 + 1).toNatClampNeg) = 0) → n_X7_scour sc 0) ∧
  (((xs (i5 + 1).toNatClampNeg) = 0) → ∀ (r_4 : Int32) (u_5 : Int32), (r_4, u_5) = f_X5_scour sc 0 → ((xs (i5 + 1).toNatClampNeg) = 0) → ∀ (r_8 : Int32) (u_9 : Int32) (u_10 : Int32), (r_8, u_9, u_10) = f_X7_scour sc 0 → (¬ r_4 = r_8) → False) ∧
  (((xs (i5 + 1).toNatClampNeg) = 0) → ∀ (r_4 : Int32) (u_5 : Int32), (r_4, u_5) = f_X5_scour sc 0 → (¬ (xs (i5 + 1).toNatClampNeg) = 0) → n_X7_scour sc 1) ∧
  (((xs (i5 + 1).toNatClampNeg) = 0) → ∀ (r_4 : Int32) (u_5 : Int32), (r_4, u_5) = f_X5_scour sc 0 → (¬ (xs (i5 + 1).toNatClampNeg) = 0) → ∀ (r_14 : Int32) (u_15 : Int32) (u_16 : Int32), (r_14, u_15, u_16) = f_X7_scour sc 1 → (¬ r_4 = r_14) → False) ∧
  ((¬ (xs (i5 + 1).toNatClampNeg) = 0) → n_X5_scour sc 1) ∧
  ((¬ (xs (i5 + 1).toNatClampNeg) = 0) → ∀ (r_20 : Int32) (u_21 : Int32), (r_20, u_21) = f_X5_scour sc 1 → ((xs (i5 + 1).toNatClampNeg) = 0) → n_X7_scour sc 0) ∧
  ((¬ (xs (i5 + 1).toNatClampNeg) = 0) → ∀ (r_20 : Int32) (u_21 : Int32), (r_20, u_21) = f_X5_scour sc 1 → ((xs (i5 + 1).toNatClampNeg) = 0) → ∀ (r_24 : Int32) (u_25 : Int32) (u_26 : Int32), (r_24, u_25, u_26) = f_X7_scour sc 0 → (¬ r_20 = r_24) → False) ∧
  ((¬ (xs (i5 + 1).toNatClampNeg) = 0) → ∀ (r_20 : Int32) (u_21 : Int32), (r_20, u_21) = f_X5_scour sc 1 → (¬ (xs (i5 + 1).toNatClampNeg) = 0) → n_X7_scour sc 1) ∧
  ((¬ (xs (i5 + 1).toNatClampNeg) = 0) → ∀ (r_20 : Int32) (u_21 : Int32), (r_20, u_21) = f_X5_scour sc 1 → (¬ (xs (i5 + 1).toNatClampNeg) = 0) → ∀ (r_30 : Int32) (u_31 : Int32) (u_32 : Int32), (r_30, u_31, u_32) = f_X7_scour sc 1 → (¬ r_20 = r_30) → False)
def f_b5 (fh : Int32) (lh : Int32) (tk : Int32) (oj : Nat → Int64) (xs : Nat → Int32) (i5 : Int32) : Int32 × Int32 × (Nat → Int64) × Int32 × Int32 × Int32 :=
  (match f_L_hours fh lh tk oj (xs (i5 + 1).toNatClampNeg) (xs (i5 + 2).toNatClampNeg) with | (r_4, u_5, u_6, u_7) => (match f_X7_hours tk fh lh (xs (i5 + 1).toNatClampNeg) (xs (i5 + 2).toNatClampNeg) with | (r_9, u_10, u_11, u_12) => if (f_X7_thrown u_10) = r_4 then (if r_4 = 0 then (if r_9 = 0 then (if (lg_cmp (u_7 (0 : Int32).toNatClampNeg) 0) = 0 then (u_5, u_6, u_7, u_10, u_11, u_12) else (default : Int32 × Int32 × (Nat → Int64) × Int32 × Int32 × Int32)) else (if (lg_cmp (u_7 (0 : Int32).toNatClampNeg) 1) = 0 then (u_5, u_6, u_7, u_10, u_11, u_12) else (default : Int32 × Int32 × (Nat → Int64) × Int32 × Int32 × Int32))) else (u_5, u_6, u_7, u_10, u_11, u_12)) else (default : Int32 × Int32 × (Nat → Int64) × Int32 × Int32 × Int32)))
def n_b5 (fh : Int32) (lh : Int32) (tk : Int32) (oj : Nat → Int64) (L : Nat) (xs : Nat → Int32) (i5 : Int32) : Prop :=
  (vp_in (i5 + 1) L) ∧
  (vp_in (i5 + 2) L) ∧
  (n_L_hours tk (xs (i5 + 1).toNatClampNeg) (xs (i5 + 2).toNatClampNeg)) ∧
  (∀ (r_4 : Int32) (u_5 : Int32) (u_6 : Int32) (u_7 : Nat → Int64), (r_4, u_5, u_6, u_7) = f_L_hours fh lh tk oj (xs (i5 + 1).toNatClampNeg) (xs (i5 + 2).toNatClampNeg) → n_X7_hours tk (xs (i5 + 1).toNatClampNeg) (xs (i5 + 2).toNatClampNeg)) ∧
  (∀ (r_4 : Int32) (u_5 : Int32) (u_6 : Int32) (u_7 : Nat → Int64), (r_4, u_5, u_6, u_7) = f_L_hours fh lh tk oj (xs (i5 + 1).toNatClampNeg) (xs (i5 + 2).toNatClampNeg) → ∀ (r_9 : Int32) (u_10 : Int32) (u_11 : Int32) (u_12 : Int32), (r_9, u_10, u_11, u_12) = f_X7_hours tk fh lh (xs (i5 + 1).toNatClampNeg) (xs (i5 + 2).toNatClampNeg) → ((f_X7_thrown u_10) = r_4) → (r_4 = 0) → vp_in 0 1) ∧
  (∀ (r_4 : Int32) (u_5 : Int32) (u_6 : Int32) (u_7 : Nat → Int64), (r_4, u_5, u_6, u_7) = f_L_hours fh lh tk oj (xs (i5 + 1).toNatClampNeg) (xs (i5 + 2).toNatClampNeg) → ∀ (r_9 : Int32) (u_10 : Int32) (u_11 : Int32) (u_12 : Int32), (r_9, u_10, u_11, u_12) = f_X7_hours tk fh lh (xs (i5 + 1).toNatClampNeg) (xs (i5 + 2).toNatClampNeg) → ((f_X7_thrown u_10) = r_4) → (r_4 = 0) → (r_9 = 0) → (¬ (lg_cmp (u_7 (0 : Int32).toNatClampNeg) 0) = 0) → False) ∧
  (∀ (r_4 : Int32) (u_5 : Int32) (u_6 : Int32) (u_7 : Nat → Int64), (r_4, u_5, u_6, u_7) = f_L_hours fh lh tk oj (xs (i5 + 1).toNatClampNeg) (xs (i5 + 2).toNatClampNeg) → ∀ (r_9 : Int32) (u_10 : Int32) (u_11 : Int32) (u_12 : Int32), (r_9, u_10, u_11, u_12) = f_X7_hours tk fh lh (xs (i5 + 1).toNatClampNeg) (xs (i5 + 2).toNatClampNeg) → ((f_X7_thrown u_10) = r_4) → (r_4 = 0) → (¬ r_9 = 0) → (¬ (lg_cmp (u_7 (0 : Int32).toNatClampNeg) 1) = 0) → False) ∧
  (∀ (r_4 : Int32) (u_5 : Int32) (u_6 : Int32) (u_7 : Nat → Int64), (r_4, u_5, u_6, u_7) = f_L_hours fh lh tk oj (xs (i5 + 1).toNatClampNeg) (xs (i5 + 2).toNatClampNeg) → ∀ (r_9 : Int32) (u_10 : Int32) (u_11 : Int32) (u_12 : Int32), (r_9, u_10, u_11, u_12) = f_X7_hours tk fh lh (xs (i5 + 1).toNatClampNeg) (xs (i5 + 2).toNatClampNeg) → (¬ (f_X7_thrown u_10) = r_4) → False)
def f_b6 (lk : Int32) (xs : Nat → Int32) (i5 : Int32) : Int32 × Int32 × Int32 :=
  if (xs (i5 + 1).toNatClampNeg) = 0 then (match f_X5_lock lk 0 with | (r_4, u_5) => if (xs (i5 + 1).toNatClampNeg) = 0 then (match f_X7_lock lk 0 with | (r_8, u_9, u_10) => if r_4 = r_8 then (u_5, u_9, u_10) else (default : Int32 × Int32 × Int32)) else (match f_X7_lock lk 1 with | (r_14, u_15, u_16) => if r_4 = r_14 then (u_5, u_15, u_16) else (default : Int32 × Int32 × Int32))) else (match f_X5_lock lk 1 with | (r_20, u_21) => if (xs (i5 + 1).toNatClampNeg) = 0 then (match f_X7_lock lk 0 with | (r_24, u_25, u_26) => if r_20 = r_24 then (u_21, u_25, u_26) else (default : Int32 × Int32 × Int32)) else (match f_X7_lock lk 1 with | (r_30, u_31, u_32) => if r_20 = r_30 then (u_21, u_31, u_32) else (default : Int32 × Int32 × Int32)))
def n_b6 (lk : Int32) (L : Nat) (xs : Nat → Int32) (i5 : Int32) : Prop :=
  (vp_in (i5 + 1) L) ∧
  (((xs (i5 + 1).toNatClampNeg) = 0) → n_X5_lock lk 0) ∧
  (((xs (i5 + 1).toNatClampNeg) = 0) → ∀ (r_4 : Int32) (u_5 : Int32), (r_4, u_5) = f_X5_lock lk 0 → ((xs (i5 + 1).toNatClampNeg) = 0) → n_X7_lock lk 0) ∧
  (((xs (i5 + 1).toNatClampNeg) = 0) → ∀ (r_4 : Int32) (u_5 : Int32), (r_4, u_5) = f_X5_lock lk 0 → ((xs (i5 + 1).toNatClampNeg) = 0) → ∀ (r_8 : Int32) (u_9 : Int32) (u_10 : Int32), (r_8, u_9, u_10) = f_X7_lock lk 0 → (¬ r_4 = r_8) → False) ∧
  (((xs (i5 + 1).toNatClampNeg) = 0) → ∀ (r_4 : Int32) (u_5 : Int32), (r_4, u_5) = f_X5_lock lk 0 → (¬ (xs (i5 + 1).toNatClampNeg) = 0) → n_X7_lock lk 1) ∧
  (((xs (i5 + 1).toNatClampNeg) = 0) → ∀ (r_4 : Int32) (u_5 : Int32), (r_4, u_5) = f_X5_lock lk 0 → (¬ (xs (i5 + 1).toNatClampNeg) = 0) → ∀ (r_14 : Int32) (u_15 : Int32) (u_16 : Int32), (r_14, u_15, u_16) = f_X7_lock lk 1 → (¬ r_4 = r_14) → False) ∧
  ((¬ (xs (i5 + 1).toNatClampNeg) = 0) → n_X5_lock lk 1) ∧
  ((¬ (xs (i5 + 1).toNatClampNeg) = 0) → ∀ (r_20 : Int32) (u_21 : Int32), (r_20, u_21) = f_X5_lock lk 1 → ((xs (i5 + 1).toNatClampNeg) = 0) → n_X7_lock lk 0) ∧
  ((¬ (xs (i5 + 1).toNatClampNeg) = 0) → ∀ (r_20 : Int32) (u_21 : Int32), (r_20, u_21) = f_X5_lock lk 1 → ((xs (i5 + 1).toNatClampNeg) = 0) → ∀ (r_24 : Int32) (u_25 : Int32) (u_26 : Int32), (r_24, u_25, u_26) = f_X7_lock lk 0 → (¬ r_20 = r_24) → False) ∧
  ((¬ (xs (i5 + 1).toNatClampNeg) = 0) → ∀ (r_20 : Int32) (u_21 : Int32), (r_20, u_21) = f_X5_lock lk 1 → (¬ (xs (i5 + 1).toNatClampNeg) = 0) → n_X7_lock lk 1) ∧
  ((¬ (xs (i5 + 1).toNatClampNeg) = 0) → ∀ (r_20 : Int32) (u_21 : Int32), (r_20, u_21) = f_X5_lock lk 1 → (¬ (xs (i5 + 1).toNatClampNeg) = 0) → ∀ (r_30 : Int32) (u_31 : Int32) (u_32 : Int32), (r_30, u_31, u_32) = f_X7_lock lk 1 → (¬ r_20 = r_30) → False)
def f_b7 (rf : Int32) : Int32 × Int32 × Int32 :=
  (match f_X5_bell rf with | (r_1, u_2) => (match f_X7_bell rf with | (r_3, u_4, u_5) => if r_1 = r_3 then (u_2, u_4, u_5) else (default : Int32 × Int32 × Int32)))
def n_b7 (rf : Int32) : Prop :=
  (∀ (r_1 : Int32) (u_2 : Int32), (r_1, u_2) = f_X5_bell rf → ∀ (r_3 : Int32) (u_4 : Int32) (u_5 : Int32), (r_3, u_4, u_5) = f_X7_bell rf → (¬ r_1 = r_3) → False)
def f_b8 (pn : Int32) (pl : Nat → Int32) (oj : Nat → Int64) : Int32 × (Nat → Int32) × (Nat → Int64) × Int32 × Int32 × (Nat → Int32) :=
  (match f_L_pair pn pl oj with | (r_2, u_3, u_4, u_5) => (match f_X7_pair pn pl with | (r_7, u_8, u_9, u_10) => if (f_X7_thrown u_8) = r_2 then (if r_2 = 0 then (if (lg_cmp (u_5 (0 : Int32).toNatClampNeg) r_7.toInt64) = 0 then (u_3, u_4, u_5, u_8, u_9, u_10) else (default : Int32 × (Nat → Int32) × (Nat → Int64) × Int32 × Int32 × (Nat → Int32))) else (u_3, u_4, u_5, u_8, u_9, u_10)) else (default : Int32 × (Nat → Int32) × (Nat → Int64) × Int32 × Int32 × (Nat → Int32))))
def n_b8 (pn : Int32) (pl : Nat → Int32) (oj : Nat → Int64) : Prop :=
  (n_L_pair pn pl) ∧
  (∀ (r_2 : Int32) (u_3 : Int32) (u_4 : Nat → Int32) (u_5 : Nat → Int64), (r_2, u_3, u_4, u_5) = f_L_pair pn pl oj → n_X7_pair pn) ∧
  (∀ (r_2 : Int32) (u_3 : Int32) (u_4 : Nat → Int32) (u_5 : Nat → Int64), (r_2, u_3, u_4, u_5) = f_L_pair pn pl oj → ∀ (r_7 : Int32) (u_8 : Int32) (u_9 : Int32) (u_10 : Nat → Int32), (r_7, u_8, u_9, u_10) = f_X7_pair pn pl → ((f_X7_thrown u_8) = r_2) → (r_2 = 0) → vp_in 0 1) ∧
  (∀ (r_2 : Int32) (u_3 : Int32) (u_4 : Nat → Int32) (u_5 : Nat → Int64), (r_2, u_3, u_4, u_5) = f_L_pair pn pl oj → ∀ (r_7 : Int32) (u_8 : Int32) (u_9 : Int32) (u_10 : Nat → Int32), (r_7, u_8, u_9, u_10) = f_X7_pair pn pl → ((f_X7_thrown u_8) = r_2) → (r_2 = 0) → (¬ (lg_cmp (u_5 (0 : Int32).toNatClampNeg) r_7.toInt64) = 0) → False) ∧
  (∀ (r_2 : Int32) (u_3 : Int32) (u_4 : Nat → Int32) (u_5 : Nat → Int64), (r_2, u_3, u_4, u_5) = f_L_pair pn pl oj → ∀ (r_7 : Int32) (u_8 : Int32) (u_9 : Int32) (u_10 : Nat → Int32), (r_7, u_8, u_9, u_10) = f_X7_pair pn pl → (¬ (f_X7_thrown u_8) = r_2) → False)
def f_b10 (ln : Int32) (sa : Nat → Int32) (pn : Int32) (pl : Nat → Int32) (dr : Nat → Int32) (oj : Nat → Int64) (n : Nat) (rc : Nat → Nat → Int32) (xs : Nat → Int32) (i5 : Int32) : (Nat → Nat → Int32) × (Nat → Int32) × (Nat → Int32) × (Nat → Int64) × Int32 × (Nat → Int32) :=
  (match f_L_feed ln sa pn pl dr oj (xs (i5 + 1).toNatClampNeg) (xs (i5 + 2).toNatClampNeg) with | (r_4, u_5, u_6, u_7) => (match f_X7_feed pn pl dr (xs (i5 + 1).toNatClampNeg) (xs (i5 + 2).toNatClampNeg) n rc with | (r_9, u_10, u_11, u_12) => if (f_X7_thrown u_11) = r_4 then (if r_4 = 0 then (if (lg_cmp (u_7 (0 : Int32).toNatClampNeg) r_9.toInt64) = 0 then (u_10, u_5, u_6, u_7, u_11, u_12) else (default : (Nat → Nat → Int32) × (Nat → Int32) × (Nat → Int32) × (Nat → Int64) × Int32 × (Nat → Int32))) else (u_10, u_5, u_6, u_7, u_11, u_12)) else (default : (Nat → Nat → Int32) × (Nat → Int32) × (Nat → Int32) × (Nat → Int64) × Int32 × (Nat → Int32))))
def n_b10 (ln : Int32) (sa : Nat → Int32) (pn : Int32) (pl : Nat → Int32) (dr : Nat → Int32) (oj : Nat → Int64) (n : Nat) (rc : Nat → Nat → Int32) (L : Nat) (xs : Nat → Int32) (i5 : Int32) : Prop :=
  (vp_in (i5 + 1) L) ∧
  (vp_in (i5 + 2) L) ∧
  (n_L_feed ln sa pn pl dr (xs (i5 + 1).toNatClampNeg) (xs (i5 + 2).toNatClampNeg)) ∧
  (∀ (r_4 : Int32) (u_5 : Nat → Int32) (u_6 : Nat → Int32) (u_7 : Nat → Int64), (r_4, u_5, u_6, u_7) = f_L_feed ln sa pn pl dr oj (xs (i5 + 1).toNatClampNeg) (xs (i5 + 2).toNatClampNeg) → n_X7_feed pn pl dr (xs (i5 + 1).toNatClampNeg) (xs (i5 + 2).toNatClampNeg) n rc) ∧
  (∀ (r_4 : Int32) (u_5 : Nat → Int32) (u_6 : Nat → Int32) (u_7 : Nat → Int64), (r_4, u_5, u_6, u_7) = f_L_feed ln sa pn pl dr oj (xs (i5 + 1).toNatClampNeg) (xs (i5 + 2).toNatClampNeg) → ∀ (r_9 : Int32) (u_10 : Nat → Nat → Int32) (u_11 : Int32) (u_12 : Nat → Int32), (r_9, u_10, u_11, u_12) = f_X7_feed pn pl dr (xs (i5 + 1).toNatClampNeg) (xs (i5 + 2).toNatClampNeg) n rc → ((f_X7_thrown u_11) = r_4) → (r_4 = 0) → vp_in 0 1) ∧
  (∀ (r_4 : Int32) (u_5 : Nat → Int32) (u_6 : Nat → Int32) (u_7 : Nat → Int64), (r_4, u_5, u_6, u_7) = f_L_feed ln sa pn pl dr oj (xs (i5 + 1).toNatClampNeg) (xs (i5 + 2).toNatClampNeg) → ∀ (r_9 : Int32) (u_10 : Nat → Nat → Int32) (u_11 : Int32) (u_12 : Nat → Int32), (r_9, u_10, u_11, u_12) = f_X7_feed pn pl dr (xs (i5 + 1).toNatClampNeg) (xs (i5 + 2).toNatClampNeg) n rc → ((f_X7_thrown u_11) = r_4) → (r_4 = 0) → (¬ (lg_cmp (u_7 (0 : Int32).toNatClampNeg) r_9.toInt64) = 0) → False) ∧
  (∀ (r_4 : Int32) (u_5 : Nat → Int32) (u_6 : Nat → Int32) (u_7 : Nat → Int64), (r_4, u_5, u_6, u_7) = f_L_feed ln sa pn pl dr oj (xs (i5 + 1).toNatClampNeg) (xs (i5 + 2).toNatClampNeg) → ∀ (r_9 : Int32) (u_10 : Nat → Nat → Int32) (u_11 : Int32) (u_12 : Nat → Int32), (r_9, u_10, u_11, u_12) = f_X7_feed pn pl dr (xs (i5 + 1).toNatClampNeg) (xs (i5 + 2).toNatClampNeg) n rc → (¬ (f_X7_thrown u_11) = r_4) → False)
def f_b11 (ln : Int32) (sa : Nat → Int32) (pn : Int32) (pl : Nat → Int32) (oj : Nat → Int64) (rc : Nat → Nat → Int32) (xs : Nat → Int32) (i5 : Int32) : (Nat → Nat → Int32) × (Nat → Int32) × (Nat → Int32) × (Nat → Int64) × Int32 × (Nat → Int32) :=
  (match f_L_take ln sa pn pl oj (xs (i5 + 1).toNatClampNeg) with | (r_3, u_4, u_5, u_6) => (match f_X7_take pn pl (xs (i5 + 1).toNatClampNeg) rc with | (r_8, u_9, u_10, u_11) => if (f_X7_thrown u_10) = r_3 then (if r_3 = 0 then (if (lg_cmp (u_6 (0 : Int32).toNatClampNeg) r_8.toInt64) = 0 then (u_9, u_4, u_5, u_6, u_10, u_11) else (default : (Nat → Nat → Int32) × (Nat → Int32) × (Nat → Int32) × (Nat → Int64) × Int32 × (Nat → Int32))) else (u_9, u_4, u_5, u_6, u_10, u_11)) else (default : (Nat → Nat → Int32) × (Nat → Int32) × (Nat → Int32) × (Nat → Int64) × Int32 × (Nat → Int32))))
def n_b11 (ln : Int32) (sa : Nat → Int32) (pn : Int32) (pl : Nat → Int32) (oj : Nat → Int64) (n : Nat) (rc : Nat → Nat → Int32) (L : Nat) (xs : Nat → Int32) (i5 : Int32) : Prop :=
  (vp_in (i5 + 1) L) ∧
  (n_L_take ln sa pn pl (xs (i5 + 1).toNatClampNeg)) ∧
  (∀ (r_3 : Int32) (u_4 : Nat → Int32) (u_5 : Nat → Int32) (u_6 : Nat → Int64), (r_3, u_4, u_5, u_6) = f_L_take ln sa pn pl oj (xs (i5 + 1).toNatClampNeg) → n_X7_take pn pl (xs (i5 + 1).toNatClampNeg) n) ∧
  (∀ (r_3 : Int32) (u_4 : Nat → Int32) (u_5 : Nat → Int32) (u_6 : Nat → Int64), (r_3, u_4, u_5, u_6) = f_L_take ln sa pn pl oj (xs (i5 + 1).toNatClampNeg) → ∀ (r_8 : Int32) (u_9 : Nat → Nat → Int32) (u_10 : Int32) (u_11 : Nat → Int32), (r_8, u_9, u_10, u_11) = f_X7_take pn pl (xs (i5 + 1).toNatClampNeg) rc → ((f_X7_thrown u_10) = r_3) → (r_3 = 0) → vp_in 0 1) ∧
  (∀ (r_3 : Int32) (u_4 : Nat → Int32) (u_5 : Nat → Int32) (u_6 : Nat → Int64), (r_3, u_4, u_5, u_6) = f_L_take ln sa pn pl oj (xs (i5 + 1).toNatClampNeg) → ∀ (r_8 : Int32) (u_9 : Nat → Nat → Int32) (u_10 : Int32) (u_11 : Nat → Int32), (r_8, u_9, u_10, u_11) = f_X7_take pn pl (xs (i5 + 1).toNatClampNeg) rc → ((f_X7_thrown u_10) = r_3) → (r_3 = 0) → (¬ (lg_cmp (u_6 (0 : Int32).toNatClampNeg) r_8.toInt64) = 0) → False) ∧
  (∀ (r_3 : Int32) (u_4 : Nat → Int32) (u_5 : Nat → Int32) (u_6 : Nat → Int64), (r_3, u_4, u_5, u_6) = f_L_take ln sa pn pl oj (xs (i5 + 1).toNatClampNeg) → ∀ (r_8 : Int32) (u_9 : Nat → Nat → Int32) (u_10 : Int32) (u_11 : Nat → Int32), (r_8, u_9, u_10, u_11) = f_X7_take pn pl (xs (i5 + 1).toNatClampNeg) rc → (¬ (f_X7_thrown u_10) = r_3) → False)
def f_b13 (pu : Int32) (to : UInt64) (tk : Int32) (ln : Int32) (gr : Nat → Int32) (we : Nat → Int32) (du : Nat → Int32) (sa : Nat → Int32) (oj : Nat → Int64) (n : Nat) (rc : Nat → Nat → Int32) (xs : Nat → Int32) (i5 : Int32) : (Nat → Nat → Int32) × Int32 × UInt64 × (Nat → Int32) × (Nat → Int64) × Int32 × Int32 × UInt64 :=
  (match f_L_give pu to tk ln gr we du sa oj (xs (i5 + 1).toNatClampNeg) with | (r_3, u_4, u_5, u_6, u_7) => (match f_X7_give pu to tk (xs (i5 + 1).toNatClampNeg) n rc with | (r_9, u_10, u_11, u_12, u_13) => if (f_X7_thrown u_11) = r_3 then (if r_3 = 0 then (if (lg_cmp (u_7 (0 : Int32).toNatClampNeg) r_9.toInt64) = 0 then (u_10, u_4, u_5, u_6, u_7, u_11, u_12, u_13) else (default : (Nat → Nat → Int32) × Int32 × UInt64 × (Nat → Int32) × (Nat → Int64) × Int32 × Int32 × UInt64)) else (u_10, u_4, u_5, u_6, u_7, u_11, u_12, u_13)) else (default : (Nat → Nat → Int32) × Int32 × UInt64 × (Nat → Int32) × (Nat → Int64) × Int32 × Int32 × UInt64)))
def n_b13 (pu : Int32) (to : UInt64) (tk : Int32) (ln : Int32) (gr : Nat → Int32) (we : Nat → Int32) (du : Nat → Int32) (sa : Nat → Int32) (oj : Nat → Int64) (n : Nat) (rc : Nat → Nat → Int32) (L : Nat) (xs : Nat → Int32) (i5 : Int32) : Prop :=
  (vp_in (i5 + 1) L) ∧
  (n_L_give pu to tk ln gr we du sa (xs (i5 + 1).toNatClampNeg)) ∧
  (∀ (r_3 : Int32) (u_4 : Int32) (u_5 : UInt64) (u_6 : Nat → Int32) (u_7 : Nat → Int64), (r_3, u_4, u_5, u_6, u_7) = f_L_give pu to tk ln gr we du sa oj (xs (i5 + 1).toNatClampNeg) → n_X7_give to (xs (i5 + 1).toNatClampNeg) n rc) ∧
  (∀ (r_3 : Int32) (u_4 : Int32) (u_5 : UInt64) (u_6 : Nat → Int32) (u_7 : Nat → Int64), (r_3, u_4, u_5, u_6, u_7) = f_L_give pu to tk ln gr we du sa oj (xs (i5 + 1).toNatClampNeg) → ∀ (r_9 : Int32) (u_10 : Nat → Nat → Int32) (u_11 : Int32) (u_12 : Int32) (u_13 : UInt64), (r_9, u_10, u_11, u_12, u_13) = f_X7_give pu to tk (xs (i5 + 1).toNatClampNeg) n rc → ((f_X7_thrown u_11) = r_3) → (r_3 = 0) → vp_in 0 1) ∧
  (∀ (r_3 : Int32) (u_4 : Int32) (u_5 : UInt64) (u_6 : Nat → Int32) (u_7 : Nat → Int64), (r_3, u_4, u_5, u_6, u_7) = f_L_give pu to tk ln gr we du sa oj (xs (i5 + 1).toNatClampNeg) → ∀ (r_9 : Int32) (u_10 : Nat → Nat → Int32) (u_11 : Int32) (u_12 : Int32) (u_13 : UInt64), (r_9, u_10, u_11, u_12, u_13) = f_X7_give pu to tk (xs (i5 + 1).toNatClampNeg) n rc → ((f_X7_thrown u_11) = r_3) → (r_3 = 0) → (¬ (lg_cmp (u_7 (0 : Int32).toNatClampNeg) r_9.toInt64) = 0) → False) ∧
  (∀ (r_3 : Int32) (u_4 : Int32) (u_5 : UInt64) (u_6 : Nat → Int32) (u_7 : Nat → Int64), (r_3, u_4, u_5, u_6, u_7) = f_L_give pu to tk ln gr we du sa oj (xs (i5 + 1).toNatClampNeg) → ∀ (r_9 : Int32) (u_10 : Nat → Nat → Int32) (u_11 : Int32) (u_12 : Int32) (u_13 : UInt64), (r_9, u_10, u_11, u_12, u_13) = f_X7_give pu to tk (xs (i5 + 1).toNatClampNeg) n rc → (¬ (f_X7_thrown u_11) = r_3) → False)
def f_b14 (fh : Int32) (lh : Int32) (ee : Int32) (tk : Int32) (mo : Int32) (su : UInt64) (lv : UInt64) (si : UInt32) (ga : Int32) (sl : Int32) (sc : Int32) (fo : UInt64) (ln : Int32) (gr : Nat → Int32) (sa : Nat → Int32) (le : Nat → UInt64) (pn : Int32) (dl : Nat → UInt32) (pl : Nat → Int32) (dr : Nat → Int32) (sp : Nat → Int32) (oj : Nat → Int64) (dn : Nat → Int32) (n : Nat) (rc : Nat → Nat → Int32) (xs : Nat → Int32) (i5 : Int32) : (Nat → Nat → Int32) × Int32 × Int32 × UInt64 × UInt32 × UInt64 × (Nat → Int32) × (Nat → UInt64) × (Nat → UInt32) × (Nat → Int32) × (Nat → Int32) × (Nat → Int32) × (Nat → Int64) × Int32 × Int32 × UInt64 × UInt32 × UInt64 × Int32 × (Nat → UInt32) × (Nat → Int32) × (Nat → Int32) × (Nat → Int32) × (Nat → UInt64) × (Nat → Int32) :=
  (match f_L_pass fh lh ee tk mo su lv si ga sl sc fo ln gr sa le pn dl pl dr sp oj (xs (i5 + 1).toNatClampNeg) with | (r_3, u_4, u_5, u_6, u_7, u_8, u_9, u_10, u_11, u_12, u_13, u_14, u_15) => (match f_X7_pass tk mo su lv si ga sl sc fh lh fo ee pn dl pl dr sp le dn (xs (i5 + 1).toNatClampNeg) n rc with | (r_17, u_18, u_19, u_20, u_21, u_22, u_23, u_24, u_25, u_26, u_27, u_28, u_29, u_30) => if (f_X7_thrown u_19) = r_3 then (if r_3 = 0 then (if (lg_cmp (u_15 (0 : Int32).toNatClampNeg) r_17.toInt64) = 0 then (u_18, u_4, u_5, u_6, u_7, u_8, u_9, u_10, u_11, u_12, u_13, u_14, u_15, u_19, u_20, u_21, u_22, u_23, u_24, u_25, u_26, u_27, u_28, u_29, u_30) else (default : (Nat → Nat → Int32) × Int32 × Int32 × UInt64 × UInt32 × UInt64 × (Nat → Int32) × (Nat → UInt64) × (Nat → UInt32) × (Nat → Int32) × (Nat → Int32) × (Nat → Int32) × (Nat → Int64) × Int32 × Int32 × UInt64 × UInt32 × UInt64 × Int32 × (Nat → UInt32) × (Nat → Int32) × (Nat → Int32) × (Nat → Int32) × (Nat → UInt64) × (Nat → Int32))) else (u_18, u_4, u_5, u_6, u_7, u_8, u_9, u_10, u_11, u_12, u_13, u_14, u_15, u_19, u_20, u_21, u_22, u_23, u_24, u_25, u_26, u_27, u_28, u_29, u_30)) else (default : (Nat → Nat → Int32) × Int32 × Int32 × UInt64 × UInt32 × UInt64 × (Nat → Int32) × (Nat → UInt64) × (Nat → UInt32) × (Nat → Int32) × (Nat → Int32) × (Nat → Int32) × (Nat → Int64) × Int32 × Int32 × UInt64 × UInt32 × UInt64 × Int32 × (Nat → UInt32) × (Nat → Int32) × (Nat → Int32) × (Nat → Int32) × (Nat → UInt64) × (Nat → Int32))))
def n_b14 (fh : Int32) (lh : Int32) (ee : Int32) (tk : Int32) (mo : Int32) (su : UInt64) (lv : UInt64) (si : UInt32) (ga : Int32) (sl : Int32) (sc : Int32) (fo : UInt64) (ln : Int32) (gr : Nat → Int32) (sa : Nat → Int32) (le : Nat → UInt64) (pn : Int32) (dl : Nat → UInt32) (pl : Nat → Int32) (dr : Nat → Int32) (sp : Nat → Int32) (oj : Nat → Int64) (dn : Nat → Int32) (n : Nat) (rc : Nat → Nat → Int32) (L : Nat) (xs : Nat → Int32) (i5 : Int32) : Prop :=
  (vp_in (i5 + 1) L) ∧
  (n_L_pass fh lh ee tk mo su lv si ga sl sc fo ln gr sa le pn dl pl dr sp (xs (i5 + 1).toNatClampNeg)) ∧
  (∀ (r_3 : Int32) (u_4 : Int32) (u_5 : Int32) (u_6 : UInt64) (u_7 : UInt32) (u_8 : UInt64) (u_9 : Nat → Int32) (u_10 : Nat → UInt64) (u_11 : Nat → UInt32) (u_12 : Nat → Int32) (u_13 : Nat → Int32) (u_14 : Nat → Int32) (u_15 : Nat → Int64), (r_3, u_4, u_5, u_6, u_7, u_8, u_9, u_10, u_11, u_12, u_13, u_14, u_15) = f_L_pass fh lh ee tk mo su lv si ga sl sc fo ln gr sa le pn dl pl dr sp oj (xs (i5 + 1).toNatClampNeg) → n_X7_pass tk mo su lv si ga sl sc fh lh fo ee pn dl pl dr sp le dn (xs (i5 + 1).toNatClampNeg) n rc) ∧
  (∀ (r_3 : Int32) (u_4 : Int32) (u_5 : Int32) (u_6 : UInt64) (u_7 : UInt32) (u_8 : UInt64) (u_9 : Nat → Int32) (u_10 : Nat → UInt64) (u_11 : Nat → UInt32) (u_12 : Nat → Int32) (u_13 : Nat → Int32) (u_14 : Nat → Int32) (u_15 : Nat → Int64), (r_3, u_4, u_5, u_6, u_7, u_8, u_9, u_10, u_11, u_12, u_13, u_14, u_15) = f_L_pass fh lh ee tk mo su lv si ga sl sc fo ln gr sa le pn dl pl dr sp oj (xs (i5 + 1).toNatClampNeg) → ∀ (r_17 : Int32) (u_18 : Nat → Nat → Int32) (u_19 : Int32) (u_20 : Int32) (u_21 : UInt64) (u_22 : UInt32) (u_23 : UInt64) (u_24 : Int32) (u_25 : Nat → UInt32) (u_26 : Nat → Int32) (u_27 : Nat → Int32) (u_28 : Nat → Int32) (u_29 : Nat → UInt64) (u_30 : Nat → Int32), (r_17, u_18, u_19, u_20, u_21, u_22, u_23, u_24, u_25, u_26, u_27, u_28, u_29, u_30) = f_X7_pass tk mo su lv si ga sl sc fh lh fo ee pn dl pl dr sp le dn (xs (i5 + 1).toNatClampNeg) n rc → ((f_X7_thrown u_19) = r_3) → (r_3 = 0) → vp_in 0 1) ∧
  (∀ (r_3 : Int32) (u_4 : Int32) (u_5 : Int32) (u_6 : UInt64) (u_7 : UInt32) (u_8 : UInt64) (u_9 : Nat → Int32) (u_10 : Nat → UInt64) (u_11 : Nat → UInt32) (u_12 : Nat → Int32) (u_13 : Nat → Int32) (u_14 : Nat → Int32) (u_15 : Nat → Int64), (r_3, u_4, u_5, u_6, u_7, u_8, u_9, u_10, u_11, u_12, u_13, u_14, u_15) = f_L_pass fh lh ee tk mo su lv si ga sl sc fo ln gr sa le pn dl pl dr sp oj (xs (i5 + 1).toNatClampNeg) → ∀ (r_17 : Int32) (u_18 : Nat → Nat → Int32) (u_19 : Int32) (u_20 : Int32) (u_21 : UInt64) (u_22 : UInt32) (u_23 : UInt64) (u_24 : Int32) (u_25 : Nat → UInt32) (u_26 : Nat → Int32) (u_27 : Nat → Int32) (u_28 : Nat → Int32) (u_29 : Nat → UInt64) (u_30 : Nat → Int32), (r_17, u_18, u_19, u_20, u_21, u_22, u_23, u_24, u_25, u_26, u_27, u_28, u_29, u_30) = f_X7_pass tk mo su lv si ga sl sc fh lh fo ee pn dl pl dr sp le dn (xs (i5 + 1).toNatClampNeg) n rc → ((f_X7_thrown u_19) = r_3) → (r_3 = 0) → (¬ (lg_cmp (u_15 (0 : Int32).toNatClampNeg) r_17.toInt64) = 0) → False) ∧
  (∀ (r_3 : Int32) (u_4 : Int32) (u_5 : Int32) (u_6 : UInt64) (u_7 : UInt32) (u_8 : UInt64) (u_9 : Nat → Int32) (u_10 : Nat → UInt64) (u_11 : Nat → UInt32) (u_12 : Nat → Int32) (u_13 : Nat → Int32) (u_14 : Nat → Int32) (u_15 : Nat → Int64), (r_3, u_4, u_5, u_6, u_7, u_8, u_9, u_10, u_11, u_12, u_13, u_14, u_15) = f_L_pass fh lh ee tk mo su lv si ga sl sc fo ln gr sa le pn dl pl dr sp oj (xs (i5 + 1).toNatClampNeg) → ∀ (r_17 : Int32) (u_18 : Nat → Nat → Int32) (u_19 : Int32) (u_20 : Int32) (u_21 : UInt64) (u_22 : UInt32) (u_23 : UInt64) (u_24 : Int32) (u_25 : Nat → UInt32) (u_26 : Nat → Int32) (u_27 : Nat → Int32) (u_28 : Nat → Int32) (u_29 : Nat → UInt64) (u_30 : Nat → Int32), (r_17, u_18, u_19, u_20, u_21, u_22, u_23, u_24, u_25, u_26, u_27, u_28, u_29, u_30) = f_X7_pass tk mo su lv si ga sl sc fh lh fo ee pn dl pl dr sp le dn (xs (i5 + 1).toNatClampNeg) n rc → (¬ (f_X7_thrown u_19) = r_3) → False)
def f_b15 (tk : Int32) (mo : Int32) (su : UInt64) (ov : Nat → UInt64) (xs : Nat → Int32) (i5 : Int32) : (Nat → UInt64) × Int32 :=
  (match f_L_sea tk mo su ov (xs (i5 + 1).toNatClampNeg) with | (r_3, u_4) => (match f_X7_sea tk mo su (xs (i5 + 1).toNatClampNeg) with | (r_6, u_7) => if (f_X7_thrown u_7) = r_3 then (if r_3 = 0 then (if (Op.cmpValue (FP.dcmp (u_4 (0 : Int32).toNatClampNeg) r_6) .l) = 0 then (u_4, u_7) else (if (Op.cmpValue (FP.dcmp (u_4 (0 : Int32).toNatClampNeg) (u_4 (0 : Int32).toNatClampNeg)) .l) = 0 then (default : (Nat → UInt64) × Int32) else (if (Op.cmpValue (FP.dcmp r_6 r_6) .l) = 0 then (default : (Nat → UInt64) × Int32) else (u_4, u_7)))) else (u_4, u_7)) else (default : (Nat → UInt64) × Int32)))
def n_b15 (tk : Int32) (mo : Int32) (su : UInt64) (ov : Nat → UInt64) (L : Nat) (xs : Nat → Int32) (i5 : Int32) : Prop :=
  (vp_in (i5 + 1) L) ∧
  (n_L_sea tk mo su (xs (i5 + 1).toNatClampNeg)) ∧
  (∀ (r_3 : Int32) (u_4 : Nat → UInt64), (r_3, u_4) = f_L_sea tk mo su ov (xs (i5 + 1).toNatClampNeg) → n_X7_sea tk mo su (xs (i5 + 1).toNatClampNeg)) ∧
  (∀ (r_3 : Int32) (u_4 : Nat → UInt64), (r_3, u_4) = f_L_sea tk mo su ov (xs (i5 + 1).toNatClampNeg) → ∀ (r_6 : UInt64) (u_7 : Int32), (r_6, u_7) = f_X7_sea tk mo su (xs (i5 + 1).toNatClampNeg) → ((f_X7_thrown u_7) = r_3) → (r_3 = 0) → vp_in 0 1) ∧
  (∀ (r_3 : Int32) (u_4 : Nat → UInt64), (r_3, u_4) = f_L_sea tk mo su ov (xs (i5 + 1).toNatClampNeg) → ∀ (r_6 : UInt64) (u_7 : Int32), (r_6, u_7) = f_X7_sea tk mo su (xs (i5 + 1).toNatClampNeg) → ((f_X7_thrown u_7) = r_3) → (r_3 = 0) → (¬ (Op.cmpValue (FP.dcmp (u_4 (0 : Int32).toNatClampNeg) r_6) .l) = 0) → ((Op.cmpValue (FP.dcmp (u_4 (0 : Int32).toNatClampNeg) (u_4 (0 : Int32).toNatClampNeg)) .l) = 0) → False) ∧
  (∀ (r_3 : Int32) (u_4 : Nat → UInt64), (r_3, u_4) = f_L_sea tk mo su ov (xs (i5 + 1).toNatClampNeg) → ∀ (r_6 : UInt64) (u_7 : Int32), (r_6, u_7) = f_X7_sea tk mo su (xs (i5 + 1).toNatClampNeg) → ((f_X7_thrown u_7) = r_3) → (r_3 = 0) → (¬ (Op.cmpValue (FP.dcmp (u_4 (0 : Int32).toNatClampNeg) r_6) .l) = 0) → (¬ (Op.cmpValue (FP.dcmp (u_4 (0 : Int32).toNatClampNeg) (u_4 (0 : Int32).toNatClampNeg)) .l) = 0) → ((Op.cmpValue (FP.dcmp r_6 r_6) .l) = 0) → False) ∧
  (∀ (r_3 : Int32) (u_4 : Nat → UInt64), (r_3, u_4) = f_L_sea tk mo su ov (xs (i5 + 1).toNatClampNeg) → ∀ (r_6 : UInt64) (u_7 : Int32), (r_6, u_7) = f_X7_sea tk mo su (xs (i5 + 1).toNatClampNeg) → (¬ (f_X7_thrown u_7) = r_3) → False)
def f_b16 (to : UInt64) (tk : Int32) (mo : Int32) (lv : UInt64) (si : UInt32) (fo : UInt64) (ov : Nat → UInt64) (xs : Nat → Int32) (i5 : Int32) : (Nat → UInt64) × Int32 :=
  (match f_L_pond to tk mo lv si fo ov (xs (i5 + 1).toNatClampNeg) with | (r_3, u_4) => (match f_X7_pond to tk mo lv si fo (xs (i5 + 1).toNatClampNeg) with | (r_6, u_7) => if (f_X7_thrown u_7) = r_3 then (if r_3 = 0 then (if (Op.cmpValue (FP.dcmp (u_4 (0 : Int32).toNatClampNeg) r_6) .l) = 0 then (u_4, u_7) else (if (Op.cmpValue (FP.dcmp (u_4 (0 : Int32).toNatClampNeg) (u_4 (0 : Int32).toNatClampNeg)) .l) = 0 then (default : (Nat → UInt64) × Int32) else (if (Op.cmpValue (FP.dcmp r_6 r_6) .l) = 0 then (default : (Nat → UInt64) × Int32) else (u_4, u_7)))) else (u_4, u_7)) else (default : (Nat → UInt64) × Int32)))
def n_b16 (to : UInt64) (tk : Int32) (mo : Int32) (lv : UInt64) (si : UInt32) (fo : UInt64) (ov : Nat → UInt64) (L : Nat) (xs : Nat → Int32) (i5 : Int32) : Prop :=
  (vp_in (i5 + 1) L) ∧
  (n_L_pond to tk mo lv si fo (xs (i5 + 1).toNatClampNeg)) ∧
  (∀ (r_3 : Int32) (u_4 : Nat → UInt64), (r_3, u_4) = f_L_pond to tk mo lv si fo ov (xs (i5 + 1).toNatClampNeg) → n_X7_pond tk mo si (xs (i5 + 1).toNatClampNeg)) ∧
  (∀ (r_3 : Int32) (u_4 : Nat → UInt64), (r_3, u_4) = f_L_pond to tk mo lv si fo ov (xs (i5 + 1).toNatClampNeg) → ∀ (r_6 : UInt64) (u_7 : Int32), (r_6, u_7) = f_X7_pond to tk mo lv si fo (xs (i5 + 1).toNatClampNeg) → ((f_X7_thrown u_7) = r_3) → (r_3 = 0) → vp_in 0 1) ∧
  (∀ (r_3 : Int32) (u_4 : Nat → UInt64), (r_3, u_4) = f_L_pond to tk mo lv si fo ov (xs (i5 + 1).toNatClampNeg) → ∀ (r_6 : UInt64) (u_7 : Int32), (r_6, u_7) = f_X7_pond to tk mo lv si fo (xs (i5 + 1).toNatClampNeg) → ((f_X7_thrown u_7) = r_3) → (r_3 = 0) → (¬ (Op.cmpValue (FP.dcmp (u_4 (0 : Int32).toNatClampNeg) r_6) .l) = 0) → ((Op.cmpValue (FP.dcmp (u_4 (0 : Int32).toNatClampNeg) (u_4 (0 : Int32).toNatClampNeg)) .l) = 0) → False) ∧
  (∀ (r_3 : Int32) (u_4 : Nat → UInt64), (r_3, u_4) = f_L_pond to tk mo lv si fo ov (xs (i5 + 1).toNatClampNeg) → ∀ (r_6 : UInt64) (u_7 : Int32), (r_6, u_7) = f_X7_pond to tk mo lv si fo (xs (i5 + 1).toNatClampNeg) → ((f_X7_thrown u_7) = r_3) → (r_3 = 0) → (¬ (Op.cmpValue (FP.dcmp (u_4 (0 : Int32).toNatClampNeg) r_6) .l) = 0) → (¬ (Op.cmpValue (FP.dcmp (u_4 (0 : Int32).toNatClampNeg) (u_4 (0 : Int32).toNatClampNeg)) .l) = 0) → ((Op.cmpValue (FP.dcmp r_6 r_6) .l) = 0) → False) ∧
  (∀ (r_3 : Int32) (u_4 : Nat → UInt64), (r_3, u_4) = f_L_pond to tk mo lv si fo ov (xs (i5 + 1).toNatClampNeg) → ∀ (r_6 : UInt64) (u_7 : Int32), (r_6, u_7) = f_X7_pond to tk mo lv si fo (xs (i5 + 1).toNatClampNeg) → (¬ (f_X7_thrown u_7) = r_3) → False)
def f_b17 (pn : Int32) (pl : Nat → Int32) (dr : Nat → Int32) (sp : Nat → Int32) (oj : Nat → Int64) (xs : Nat → Int32) (i5 : Int32) : (Nat → Int64) × Int32 :=
  (match f_L_ofPair pn pl dr sp oj (xs (i5 + 1).toNatClampNeg) (xs (i5 + 2).toNatClampNeg) with | (r_4, u_5) => (match f_X7_ofPair pn pl dr sp (xs (i5 + 1).toNatClampNeg) (xs (i5 + 2).toNatClampNeg) with | (r_7, u_8) => if (f_X7_thrown u_8) = r_4 then (if r_4 = 0 then (if (lg_cmp (u_5 (0 : Int32).toNatClampNeg) r_7.toInt64) = 0 then (u_5, u_8) else (default : (Nat → Int64) × Int32)) else (u_5, u_8)) else (default : (Nat → Int64) × Int32)))
def n_b17 (pn : Int32) (pl : Nat → Int32) (dr : Nat → Int32) (sp : Nat → Int32) (oj : Nat → Int64) (L : Nat) (xs : Nat → Int32) (i5 : Int32) : Prop :=
  (vp_in (i5 + 1) L) ∧
  (vp_in (i5 + 2) L) ∧
  (n_L_ofPair pn pl dr sp (xs (i5 + 1).toNatClampNeg) (xs (i5 + 2).toNatClampNeg)) ∧
  (∀ (r_4 : Int32) (u_5 : Nat → Int64), (r_4, u_5) = f_L_ofPair pn pl dr sp oj (xs (i5 + 1).toNatClampNeg) (xs (i5 + 2).toNatClampNeg) → n_X7_ofPair pn (xs (i5 + 1).toNatClampNeg) (xs (i5 + 2).toNatClampNeg)) ∧
  (∀ (r_4 : Int32) (u_5 : Nat → Int64), (r_4, u_5) = f_L_ofPair pn pl dr sp oj (xs (i5 + 1).toNatClampNeg) (xs (i5 + 2).toNatClampNeg) → ∀ (r_7 : Int32) (u_8 : Int32), (r_7, u_8) = f_X7_ofPair pn pl dr sp (xs (i5 + 1).toNatClampNeg) (xs (i5 + 2).toNatClampNeg) → ((f_X7_thrown u_8) = r_4) → (r_4 = 0) → vp_in 0 1) ∧
  (∀ (r_4 : Int32) (u_5 : Nat → Int64), (r_4, u_5) = f_L_ofPair pn pl dr sp oj (xs (i5 + 1).toNatClampNeg) (xs (i5 + 2).toNatClampNeg) → ∀ (r_7 : Int32) (u_8 : Int32), (r_7, u_8) = f_X7_ofPair pn pl dr sp (xs (i5 + 1).toNatClampNeg) (xs (i5 + 2).toNatClampNeg) → ((f_X7_thrown u_8) = r_4) → (r_4 = 0) → (¬ (lg_cmp (u_5 (0 : Int32).toNatClampNeg) r_7.toInt64) = 0) → False) ∧
  (∀ (r_4 : Int32) (u_5 : Nat → Int64), (r_4, u_5) = f_L_ofPair pn pl dr sp oj (xs (i5 + 1).toNatClampNeg) (xs (i5 + 2).toNatClampNeg) → ∀ (r_7 : Int32) (u_8 : Int32), (r_7, u_8) = f_X7_ofPair pn pl dr sp (xs (i5 + 1).toNatClampNeg) (xs (i5 + 2).toNatClampNeg) → (¬ (f_X7_thrown u_8) = r_4) → False)
def f_b18 (pn : Int32) (dl : Nat → UInt32) (ov : Nat → UInt64) (xs : Nat → Int32) (i5 : Int32) : (Nat → UInt64) × Int32 :=
  (match f_L_dull pn dl ov (xs (i5 + 1).toNatClampNeg) with | (r_3, u_4) => (match f_X7_dull pn dl (xs (i5 + 1).toNatClampNeg) with | (r_6, u_7) => if (f_X7_thrown u_7) = r_3 then (if r_3 = 0 then (if (Op.cmpValue (FP.dcmp (u_4 (0 : Int32).toNatClampNeg) r_6) .l) = 0 then (u_4, u_7) else (if (Op.cmpValue (FP.dcmp (u_4 (0 : Int32).toNatClampNeg) (u_4 (0 : Int32).toNatClampNeg)) .l) = 0 then (default : (Nat → UInt64) × Int32) else (if (Op.cmpValue (FP.dcmp r_6 r_6) .l) = 0 then (default : (Nat → UInt64) × Int32) else (u_4, u_7)))) else (u_4, u_7)) else (default : (Nat → UInt64) × Int32)))
def n_b18 (pn : Int32) (dl : Nat → UInt32) (ov : Nat → UInt64) (L : Nat) (xs : Nat → Int32) (i5 : Int32) : Prop :=
  (vp_in (i5 + 1) L) ∧
  (n_L_dull pn dl (xs (i5 + 1).toNatClampNeg)) ∧
  (∀ (r_3 : Int32) (u_4 : Nat → UInt64), (r_3, u_4) = f_L_dull pn dl ov (xs (i5 + 1).toNatClampNeg) → n_X7_dull pn dl (xs (i5 + 1).toNatClampNeg)) ∧
  (∀ (r_3 : Int32) (u_4 : Nat → UInt64), (r_3, u_4) = f_L_dull pn dl ov (xs (i5 + 1).toNatClampNeg) → ∀ (r_6 : UInt64) (u_7 : Int32), (r_6, u_7) = f_X7_dull pn dl (xs (i5 + 1).toNatClampNeg) → ((f_X7_thrown u_7) = r_3) → (r_3 = 0) → vp_in 0 1) ∧
  (∀ (r_3 : Int32) (u_4 : Nat → UInt64), (r_3, u_4) = f_L_dull pn dl ov (xs (i5 + 1).toNatClampNeg) → ∀ (r_6 : UInt64) (u_7 : Int32), (r_6, u_7) = f_X7_dull pn dl (xs (i5 + 1).toNatClampNeg) → ((f_X7_thrown u_7) = r_3) → (r_3 = 0) → (¬ (Op.cmpValue (FP.dcmp (u_4 (0 : Int32).toNatClampNeg) r_6) .l) = 0) → ((Op.cmpValue (FP.dcmp (u_4 (0 : Int32).toNatClampNeg) (u_4 (0 : Int32).toNatClampNeg)) .l) = 0) → False) ∧
  (∀ (r_3 : Int32) (u_4 : Nat → UInt64), (r_3, u_4) = f_L_dull pn dl ov (xs (i5 + 1).toNatClampNeg) → ∀ (r_6 : UInt64) (u_7 : Int32), (r_6, u_7) = f_X7_dull pn dl (xs (i5 + 1).toNatClampNeg) → ((f_X7_thrown u_7) = r_3) → (r_3 = 0) → (¬ (Op.cmpValue (FP.dcmp (u_4 (0 : Int32).toNatClampNeg) r_6) .l) = 0) → (¬ (Op.cmpValue (FP.dcmp (u_4 (0 : Int32).toNatClampNeg) (u_4 (0 : Int32).toNatClampNeg)) .l) = 0) → ((Op.cmpValue (FP.dcmp r_6 r_6) .l) = 0) → False) ∧
  (∀ (r_3 : Int32) (u_4 : Nat → UInt64), (r_3, u_4) = f_L_dull pn dl ov (xs (i5 + 1).toNatClampNeg) → ∀ (r_6 : UInt64) (u_7 : Int32), (r_6, u_7) = f_X7_dull pn dl (xs (i5 + 1).toNatClampNeg) → (¬ (f_X7_thrown u_7) = r_3) → False)
def f_b19 (ln : Int32) (ow : Nat → Int32) (gr : Nat → Int32) (we : Nat → Int32) (du : Nat → Int32) (sa : Nat → Int32) (pn : Int32) (pl : Nat → Int32) (oj : Nat → Int64) (n : Nat) (rc : Nat → Nat → Int32) (xs : Nat → Int32) (i5 : Int32) : (Nat → Int64) × Int32 :=
  (match f_L_ofLot ln ow gr we du sa pn pl oj (xs (i5 + 1).toNatClampNeg) (xs (i5 + 2).toNatClampNeg) with | (r_4, u_5) => (match f_X7_ofLot pn pl (xs (i5 + 1).toNatClampNeg) (xs (i5 + 2).toNatClampNeg) n rc with | (r_7, u_8) => if (f_X7_thrown u_8) = r_4 then (if r_4 = 0 then (if (lg_cmp (u_5 (0 : Int32).toNatClampNeg) r_7.toInt64) = 0 then (u_5, u_8) else (default : (Nat → Int64) × Int32)) else (u_5, u_8)) else (default : (Nat → Int64) × Int32)))
def n_b19 (ln : Int32) (ow : Nat → Int32) (gr : Nat → Int32) (we : Nat → Int32) (du : Nat → Int32) (sa : Nat → Int32) (pn : Int32) (pl : Nat → Int32) (oj : Nat → Int64) (n : Nat) (rc : Nat → Nat → Int32) (L : Nat) (xs : Nat → Int32) (i5 : Int32) : Prop :=
  (vp_in (i5 + 1) L) ∧
  (vp_in (i5 + 2) L) ∧
  (n_L_ofLot ln ow gr we du sa pn pl (xs (i5 + 1).toNatClampNeg) (xs (i5 + 2).toNatClampNeg)) ∧
  (∀ (r_4 : Int32) (u_5 : Nat → Int64), (r_4, u_5) = f_L_ofLot ln ow gr we du sa pn pl oj (xs (i5 + 1).toNatClampNeg) (xs (i5 + 2).toNatClampNeg) → n_X7_ofLot pn pl (xs (i5 + 1).toNatClampNeg) (xs (i5 + 2).toNatClampNeg) n) ∧
  (∀ (r_4 : Int32) (u_5 : Nat → Int64), (r_4, u_5) = f_L_ofLot ln ow gr we du sa pn pl oj (xs (i5 + 1).toNatClampNeg) (xs (i5 + 2).toNatClampNeg) → ∀ (r_7 : Int32) (u_8 : Int32), (r_7, u_8) = f_X7_ofLot pn pl (xs (i5 + 1).toNatClampNeg) (xs (i5 + 2).toNatClampNeg) n rc → ((f_X7_thrown u_8) = r_4) → (r_4 = 0) → vp_in 0 1) ∧
  (∀ (r_4 : Int32) (u_5 : Nat → Int64), (r_4, u_5) = f_L_ofLot ln ow gr we du sa pn pl oj (xs (i5 + 1).toNatClampNeg) (xs (i5 + 2).toNatClampNeg) → ∀ (r_7 : Int32) (u_8 : Int32), (r_7, u_8) = f_X7_ofLot pn pl (xs (i5 + 1).toNatClampNeg) (xs (i5 + 2).toNatClampNeg) n rc → ((f_X7_thrown u_8) = r_4) → (r_4 = 0) → (¬ (lg_cmp (u_5 (0 : Int32).toNatClampNeg) r_7.toInt64) = 0) → False) ∧
  (∀ (r_4 : Int32) (u_5 : Nat → Int64), (r_4, u_5) = f_L_ofLot ln ow gr we du sa pn pl oj (xs (i5 + 1).toNatClampNeg) (xs (i5 + 2).toNatClampNeg) → ∀ (r_7 : Int32) (u_8 : Int32), (r_7, u_8) = f_X7_ofLot pn pl (xs (i5 + 1).toNatClampNeg) (xs (i5 + 2).toNatClampNeg) n rc → (¬ (f_X7_thrown u_8) = r_4) → False)
def f_b20 (ln : Int32) (le : Nat → UInt64) (ov : Nat → UInt64) (n : Nat) (xs : Nat → Int32) (i5 : Int32) : (Nat → UInt64) × Int32 :=
  (match f_L_left ln le ov (xs (i5 + 1).toNatClampNeg) with | (r_3, u_4) => (match f_X7_left le (xs (i5 + 1).toNatClampNeg) n with | (r_6, u_7) => if (f_X7_thrown u_7) = r_3 then (if r_3 = 0 then (if (Op.cmpValue (FP.dcmp (u_4 (0 : Int32).toNatClampNeg) r_6) .l) = 0 then (u_4, u_7) else (if (Op.cmpValue (FP.dcmp (u_4 (0 : Int32).toNatClampNeg) (u_4 (0 : Int32).toNatClampNeg)) .l) = 0 then (default : (Nat → UInt64) × Int32) else (if (Op.cmpValue (FP.dcmp r_6 r_6) .l) = 0 then (default : (Nat → UInt64) × Int32) else (u_4, u_7)))) else (u_4, u_7)) else (default : (Nat → UInt64) × Int32)))
def n_b20 (ln : Int32) (le : Nat → UInt64) (ov : Nat → UInt64) (n : Nat) (L : Nat) (xs : Nat → Int32) (i5 : Int32) : Prop :=
  (vp_in (i5 + 1) L) ∧
  (n_L_left ln le (xs (i5 + 1).toNatClampNeg)) ∧
  (∀ (r_3 : Int32) (u_4 : Nat → UInt64), (r_3, u_4) = f_L_left ln le ov (xs (i5 + 1).toNatClampNeg) → n_X7_left (xs (i5 + 1).toNatClampNeg) n) ∧
  (∀ (r_3 : Int32) (u_4 : Nat → UInt64), (r_3, u_4) = f_L_left ln le ov (xs (i5 + 1).toNatClampNeg) → ∀ (r_6 : UInt64) (u_7 : Int32), (r_6, u_7) = f_X7_left le (xs (i5 + 1).toNatClampNeg) n → ((f_X7_thrown u_7) = r_3) → (r_3 = 0) → vp_in 0 1) ∧
  (∀ (r_3 : Int32) (u_4 : Nat → UInt64), (r_3, u_4) = f_L_left ln le ov (xs (i5 + 1).toNatClampNeg) → ∀ (r_6 : UInt64) (u_7 : Int32), (r_6, u_7) = f_X7_left le (xs (i5 + 1).toNatClampNeg) n → ((f_X7_thrown u_7) = r_3) → (r_3 = 0) → (¬ (Op.cmpValue (FP.dcmp (u_4 (0 : Int32).toNatClampNeg) r_6) .l) = 0) → ((Op.cmpValue (FP.dcmp (u_4 (0 : Int32).toNatClampNeg) (u_4 (0 : Int32).toNatClampNeg)) .l) = 0) → False) ∧
  (∀ (r_3 : Int32) (u_4 : Nat → UInt64), (r_3, u_4) = f_L_left ln le ov (xs (i5 + 1).toNatClampNeg) → ∀ (r_6 : UInt64) (u_7 : Int32), (r_6, u_7) = f_X7_left le (xs (i5 + 1).toNatClampNeg) n → ((f_X7_thrown u_7) = r_3) → (r_3 = 0) → (¬ (Op.cmpValue (FP.dcmp (u_4 (0 : Int32).toNatClampNeg) r_6) .l) = 0) → (¬ (Op.cmpValue (FP.dcmp (u_4 (0 : Int32).toNatClampNeg) (u_4 (0 : Int32).toNatClampNeg)) .l) = 0) → ((Op.cmpValue (FP.dcmp r_6 r_6) .l) = 0) → False) ∧
  (∀ (r_3 : Int32) (u_4 : Nat → UInt64), (r_3, u_4) = f_L_left ln le ov (xs (i5 + 1).toNatClampNeg) → ∀ (r_6 : UInt64) (u_7 : Int32), (r_6, u_7) = f_X7_left le (xs (i5 + 1).toNatClampNeg) n → (¬ (f_X7_thrown u_7) = r_3) → False)
def f_b21 (lk : Int32) (rf : Int32) (pu : Int32) (fh : Int32) (lh : Int32) (ee : Int32) (tk : Int32) (mo : Int32) (ga : Int32) (sl : Int32) (ln : Int32) (sa : Nat → Int32) (pn : Int32) (sp : Nat → Int32) (oj : Nat → Int64) (n : Nat) (rc : Nat → Nat → Int32) (xs : Nat → Int32) (i5 : Int32) : (Nat → Int64) × Int32 :=
  (match f_L_many lk rf pu fh lh ee tk mo ga sl ln sa pn sp oj (xs (i5 + 1).toNatClampNeg) with | (r_3, u_4) => (match f_X7_many rf lk pu tk mo ga sl fh lh ee pn sp (xs (i5 + 1).toNatClampNeg) n rc with | (r_6, u_7) => if (f_X7_thrown u_7) = r_3 then (if r_3 = 0 then (if (lg_cmp (u_4 (0 : Int32).toNatClampNeg) r_6.toInt64) = 0 then (u_4, u_7) else (default : (Nat → Int64) × Int32)) else (u_4, u_7)) else (default : (Nat → Int64) × Int32)))
def n_b21 (lk : Int32) (rf : Int32) (pu : Int32) (fh : Int32) (lh : Int32) (ee : Int32) (tk : Int32) (mo : Int32) (ga : Int32) (sl : Int32) (ln : Int32) (sa : Nat → Int32) (pn : Int32) (sp : Nat → Int32) (oj : Nat → Int64) (n : Nat) (rc : Nat → Nat → Int32) (L : Nat) (xs : Nat → Int32) (i5 : Int32) : Prop :=
  (vp_in (i5 + 1) L) ∧
  (n_L_many lk rf pu fh lh ee tk mo ga sl ln sa pn sp (xs (i5 + 1).toNatClampNeg)) ∧
  (∀ (r_3 : Int32) (u_4 : Nat → Int64), (r_3, u_4) = f_L_many lk rf pu fh lh ee tk mo ga sl ln sa pn sp oj (xs (i5 + 1).toNatClampNeg) → n_X7_many lk tk fh lh (xs (i5 + 1).toNatClampNeg) n rc) ∧
  (∀ (r_3 : Int32) (u_4 : Nat → Int64), (r_3, u_4) = f_L_many lk rf pu fh lh ee tk mo ga sl ln sa pn sp oj (xs (i5 + 1).toNatClampNeg) → ∀ (r_6 : Int32) (u_7 : Int32), (r_6, u_7) = f_X7_many rf lk pu tk mo ga sl fh lh ee pn sp (xs (i5 + 1).toNatClampNeg) n rc → ((f_X7_thrown u_7) = r_3) → (r_3 = 0) → vp_in 0 1) ∧
  (∀ (r_3 : Int32) (u_4 : Nat → Int64), (r_3, u_4) = f_L_many lk rf pu fh lh ee tk mo ga sl ln sa pn sp oj (xs (i5 + 1).toNatClampNeg) → ∀ (r_6 : Int32) (u_7 : Int32), (r_6, u_7) = f_X7_many rf lk pu tk mo ga sl fh lh ee pn sp (xs (i5 + 1).toNatClampNeg) n rc → ((f_X7_thrown u_7) = r_3) → (r_3 = 0) → (¬ (lg_cmp (u_4 (0 : Int32).toNatClampNeg) r_6.toInt64) = 0) → False) ∧
  (∀ (r_3 : Int32) (u_4 : Nat → Int64), (r_3, u_4) = f_L_many lk rf pu fh lh ee tk mo ga sl ln sa pn sp oj (xs (i5 + 1).toNatClampNeg) → ∀ (r_6 : Int32) (u_7 : Int32), (r_6, u_7) = f_X7_many rf lk pu tk mo ga sl fh lh ee pn sp (xs (i5 + 1).toNatClampNeg) n rc → (¬ (f_X7_thrown u_7) = r_3) → False)
def f_b22 (ln : Int32) (ow : Nat → Int32) (we : Nat → Int32) (sa : Nat → Int32) (oj : Nat → Int64) (n : Nat) (rc : Nat → Nat → Int32) (xs : Nat → Int32) (i5 : Int32) : (Nat → Int64) × Int32 :=
  if (xs (i5 + 2).toNatClampNeg) = 0 then (match f_L_ofOwner ln ow we sa oj (xs (i5 + 1).toNatClampNeg) 0 with | (r_5, u_6) => if (xs (i5 + 2).toNatClampNeg) = 0 then (match f_X7_ofOwner (xs (i5 + 1).toNatClampNeg) 0 n rc with | (r_9, u_10) => if (f_X7_thrown u_10) = r_5 then (if r_5 = 0 then (if (lg_cmp (u_6 (0 : Int32).toNatClampNeg) r_9.toInt64) = 0 then (u_6, u_10) else (default : (Nat → Int64) × Int32)) else (u_6, u_10)) else (default : (Nat → Int64) × Int32)) else (match f_X7_ofOwner (xs (i5 + 1).toNatClampNeg) 1 n rc with | (r_19, u_20) => if (f_X7_thrown u_20) = r_5 then (if r_5 = 0 then (if (lg_cmp (u_6 (0 : Int32).toNatClampNeg) r_19.toInt64) = 0 then (u_6, u_20) else (default : (Nat → Int64) × Int32)) else (u_6, u_20)) else (default : (Nat → Int64) × Int32))) else (match f_L_ofOwner ln ow we sa oj (xs (i5 + 1).toNatClampNeg) 1 with | (r_29, u_30) => if (xs (i5 + 2).toNatClampNeg) = 0 then (match f_X7_ofOwner (xs (i5 + 1).toNatClampNeg) 0 n rc with | (r_33, u_34) => if (f_X7_thrown u_34) = r_29 then (if r_29 = 0 then (if (lg_cmp (u_30 (0 : Int32).toNatClampNeg) r_33.toInt64) = 0 then (u_30, u_34) else (default : (Nat → Int64) × Int32)) else (u_30, u_34)) else (default : (Nat → Int64) × Int32)) else (match f_X7_ofOwner (xs (i5 + 1).toNatClampNeg) 1 n rc with | (r_43, u_44) => if (f_X7_thrown u_44) = r_29 then (if r_29 = 0 then (if (lg_cmp (u_30 (0 : Int32).toNatClampNeg) r_43.toInt64) = 0 then (u_30, u_44) else (default : (Nat → Int64) × Int32)) else (u_30, u_44)) else (default : (Nat → Int64) × Int32)))
def n_b22 (ln : Int32) (ow : Nat → Int32) (we : Nat → Int32) (sa : Nat → Int32) (oj : Nat → Int64) (n : Nat) (rc : Nat → Nat → Int32) (L : Nat) (xs : Nat → Int32) (i5 : Int32) : Prop :=
  (vp_in (i5 + 1) L) ∧
  (vp_in (i5 + 2) L) ∧
  (((xs (i5 + 2).toNatClampNeg) = 0) → n_L_ofOwner ln ow we sa (xs (i5 + 1).toNatClampNeg) 0) ∧
  (((xs (i5 + 2).toNatClampNeg) = 0) → ∀ (r_5 : Int32) (u_6 : Nat → Int64), (r_5, u_6) = f_L_ofOwner ln ow we sa oj (xs (i5 + 1).toNatClampNeg) 0 → ((xs (i5 + 2).toNatClampNeg) = 0) → n_X7_ofOwner (xs (i5 + 1).toNatClampNeg) 0 n rc) ∧
  (((xs (i5 + 2).toNatClampNeg) = 0) → ∀ (r_5 : Int32) (u_6 : Nat → Int64), (r_5, u_6) = f_L_ofOwner ln ow we sa oj (xs (i5 + 1).toNatClampNeg) 0 → ((xs (i5 + 2).toNatClampNeg) = 0) → ∀ (r_9 : Int32) (u_10 : Int32), (r_9, u_10) = f_X7_ofOwner (xs (i5 + 1).toNatClampNeg) 0 n rc → ((f_X7_thrown u_10) = r_5) → (r_5 = 0) → vp_in 0 1) ∧
  (((xs (i5 + 2).toNatClampNeg) = 0) → ∀ (r_5 : Int32) (u_6 : Nat → Int64), (r_5, u_6) = f_L_ofOwner ln ow we sa oj (xs (i5 + 1).toNatClampNeg) 0 → ((xs (i5 + 2).toNatClampNeg) = 0) → ∀ (r_9 : Int32) (u_10 : Int32), (r_9, u_10) = f_X7_ofOwner (xs (i5 + 1).toNatClampNeg) 0 n rc → ((f_X7_thrown u_10) = r_5) → (r_5 = 0) → (¬ (lg_cmp (u_6 (0 : Int32).toNatClampNeg) r_9.toInt64) = 0) → False) ∧
  (((xs (i5 + 2).toNatClampNeg) = 0) → ∀ (r_5 : Int32) (u_6 : Nat → Int64), (r_5, u_6) = f_L_ofOwner ln ow we sa oj (xs (i5 + 1).toNatClampNeg) 0 → ((xs (i5 + 2).toNatClampNeg) = 0) → ∀ (r_9 : Int32) (u_10 : Int32), (r_9, u_10) = f_X7_ofOwner (xs (i5 + 1).toNatClampNeg) 0 n rc → (¬ (f_X7_thrown u_10) = r_5) → False) ∧
  (((xs (i5 + 2).toNatClampNeg) = 0) → ∀ (r_5 : Int32) (u_6 : Nat → Int64), (r_5, u_6) = f_L_ofOwner ln ow we sa oj (xs (i5 + 1).toNatClampNeg) 0 → (¬ (xs (i5 + 2).toNatClampNeg) = 0) → n_X7_ofOwner (xs (i5 + 1).toNatClampNeg) 1 n rc) ∧
  (((xs (i5 + 2).toNatClampNeg) = 0) → ∀ (r_5 : Int32) (u_6 : Nat → Int64), (r_5, u_6) = f_L_ofOwner ln ow we sa oj (xs (i5 + 1).toNatClampNeg) 0 → (¬ (xs (i5 + 2).toNatClampNeg) = 0) → ∀ (r_19 : Int32) (u_20 : Int32), (r_19, u_20) = f_X7_ofOwner (xs (i5 + 1).toNatClampNeg) 1 n rc → ((f_X7_thrown u_20) = r_5) → (r_5 = 0) → vp_in 0 1) ∧
  (((xs (i5 + 2).toNatClampNeg) = 0) → ∀ (r_5 : Int32) (u_6 : Nat → Int64), (r_5, u_6) = f_L_ofOwner ln ow we sa oj (xs (i5 + 1).toNatClampNeg) 0 → (¬ (xs (i5 + 2).toNatClampNeg) = 0) → ∀ (r_19 : Int32) (u_20 : Int32), (r_19, u_20) = f_X7_ofOwner (xs (i5 + 1).toNatClampNeg) 1 n rc → ((f_X7_thrown u_20) = r_5) → (r_5 = 0) → (¬ (lg_cmp (u_6 (0 : Int32).toNatClampNeg) r_19.toInt64) = 0) → False) ∧
  (((xs (i5 + 2).toNatClampNeg) = 0) → ∀ (r_5 : Int32) (u_6 : Nat → Int64), (r_5, u_6) = f_L_ofOwner ln ow we sa oj (xs (i5 + 1).toNatClampNeg) 0 → (¬ (xs (i5 + 2).toNatClampNeg) = 0) → ∀ (r_19 : Int32) (u_20 : Int32), (r_19, u_20) = f_X7_ofOwner (xs (i5 + 1).toNatClampNeg) 1 n rc → (¬ (f_X7_thrown u_20) = r_5) → False) ∧
  ((¬ (xs (i5 + 2).toNatClampNeg) = 0) → n_L_ofOwner ln ow we sa (xs (i5 + 1).toNatClampNeg) 1) ∧
  ((¬ (xs (i5 + 2).toNatClampNeg) = 0) → ∀ (r_29 : Int32) (u_30 : Nat → Int64), (r_29, u_30) = f_L_ofOwner ln ow we sa oj (xs (i5 + 1).toNatClampNeg) 1 → ((xs (i5 + 2).toNatClampNeg) = 0) → n_X7_ofOwner (xs (i5 + 1).toNatClampNeg) 0 n rc) ∧
  ((¬ (xs (i5 + 2).toNatClampNeg) = 0) → ∀ (r_29 : Int32) (u_30 : Nat → Int64), (r_29, u_30) = f_L_ofOwner ln ow we sa oj (xs (i5 + 1).toNatClampNeg) 1 → ((xs (i5 + 2).toNatClampNeg) = 0) → ∀ (r_33 : Int32) (u_34 : Int32), (r_33, u_34) = f_X7_ofOwner (xs (i5 + 1).toNatClampNeg) 0 n rc → ((f_X7_thrown u_34) = r_29) → (r_29 = 0) → vp_in 0 1) ∧
  ((¬ (xs (i5 + 2).toNatClampNeg) = 0) → ∀ (r_29 : Int32) (u_30 : Nat → Int64), (r_29, u_30) = f_L_ofOwner ln ow we sa oj (xs (i5 + 1).toNatClampNeg) 1 → ((xs (i5 + 2).toNatClampNeg) = 0) → ∀ (r_33 : Int32) (u_34 : Int32), (r_33, u_34) = f_X7_ofOwner (xs (i5 + 1).toNatClampNeg) 0 n rc → ((f_X7_thrown u_34) = r_29) → (r_29 = 0) → (¬ (lg_cmp (u_30 (0 : Int32).toNatClampNeg) r_33.toInt64) = 0) → False) ∧
  ((¬ (xs (i5 + 2).toNatClampNeg) = 0) → ∀ (r_29 : Int32) (u_30 : Nat → Int64), (r_29, u_30) = f_L_ofOwner ln ow we sa oj (xs (i5 + 1).toNatClampNeg) 1 → ((xs (i5 + 2).toNatClampNeg) = 0) → ∀ (r_33 : Int32) (u_34 : Int32), (r_33, u_34) = f_X7_ofOwner (xs (i5 + 1).toNatClampNeg) 0 n rc → (¬ (f_X7_thrown u_34) = r_29) → False) ∧
  ((¬ (xs (i5 + 2).toNatClampNeg) = 0) → ∀ (r_29 : Int32) (u_30 : Nat → Int64), (r_29, u_30) = f_L_ofOwner ln ow we sa oj (xs (i5 + 1).toNatClampNeg) 1 → (¬ (xs (i5 + 2).toNatClampNeg) = 0) → n_X7_ofOwner (xs (i5 + 1).toNatClampNeg) 1 n rc) ∧
  ((¬ (xs (i5 + 2).toNatClampNeg) = 0) → ∀ (r_29 : Int32) (u_30 : Nat → Int64), (r_29, u_30) = f_L_ofOwner ln ow we sa oj (xs (i5 + 1).toNatClampNeg) 1 → (¬ (xs (i5 + 2).toNatClampNeg) = 0) → ∀ (r_43 : Int32) (u_44 : Int32), (r_43, u_44) = f_X7_ofOwner (xs (i5 + 1).toNatClampNeg) 1 n rc → ((f_X7_thrown u_44) = r_29) → (r_29 = 0) → vp_in 0 1) ∧
  ((¬ (xs (i5 + 2).toNatClampNeg) = 0) → ∀ (r_29 : Int32) (u_30 : Nat → Int64), (r_29, u_30) = f_L_ofOwner ln ow we sa oj (xs (i5 + 1).toNatClampNeg) 1 → (¬ (xs (i5 + 2).toNatClampNeg) = 0) → ∀ (r_43 : Int32) (u_44 : Int32), (r_43, u_44) = f_X7_ofOwner (xs (i5 + 1).toNatClampNeg) 1 n rc → ((f_X7_thrown u_44) = r_29) → (r_29 = 0) → (¬ (lg_cmp (u_30 (0 : Int32).toNatClampNeg) r_43.toInt64) = 0) → False) ∧
  ((¬ (xs (i5 + 2).toNatClampNeg) = 0) → ∀ (r_29 : Int32) (u_30 : Nat → Int64), (r_29, u_30) = f_L_ofOwner ln ow we sa oj (xs (i5 + 1).toNatClampNeg) 1 → (¬ (xs (i5 + 2).toNatClampNeg) = 0) → ∀ (r_43 : Int32) (u_44 : Int32), (r_43, u_44) = f_X7_ofOwner (xs (i5 + 1).toNatClampNeg) 1 n rc → (¬ (f_X7_thrown u_44) = r_29) → False)
def f_b23 (tk : Int32) : Int32 :=
  (match f_X7_high tk with | (r_4, u_5) => if (f_X5_high tk) = r_4 then u_5 else (default : Int32))
def n_b23 (tk : Int32) : Prop :=
  (n_X5_high tk) ∧
  (n_X7_high tk) ∧
  (∀ (r_4 : Int32) (u_5 : Int32), (r_4, u_5) = f_X7_high tk → (¬ (f_X5_high tk) = r_4) → False)
def f_b24 (fh : Int32) (lh : Int32) (ee : Int32) (tk : Int32) (mo : Int32) (su : UInt64) (lv : UInt64) (si : UInt32) (ga : Int32) (sl : Int32) (sc : Int32) (fo : UInt64) (ln : Int32) (gr : Nat → Int32) (sa : Nat → Int32) (le : Nat → UInt64) (pn : Int32) (dl : Nat → UInt32) (pl : Nat → Int32) (dr : Nat → Int32) (sp : Nat → Int32) (ov : Nat → UInt64) (dn : Nat → Int32) (rc : Nat → Nat → Int32) (xs : Nat → Int32) (i5 : Int32) : (Nat → UInt64) × Int32 :=
  (match f_L_wouldLevel fh lh ee tk mo su lv si ga sl sc fo ln gr sa le pn dl pl dr sp ov (xs (i5 + 1).toNatClampNeg) with | (r_3, u_4) => (match f_X7_wouldLevel tk mo su lv si ga sl sc fh lh pn dl pl dr le dn (xs (i5 + 1).toNatClampNeg) rc with | (r_30, u_31) => if (f_X7_thrown u_31) = r_3 then (if r_3 = 0 then (if (Op.cmpValue (FP.dcmp (u_4 (0 : Int32).toNatClampNeg) r_30) .l) = 0 then (u_4, u_31) else (if (Op.cmpValue (FP.dcmp (u_4 (0 : Int32).toNatClampNeg) (u_4 (0 : Int32).toNatClampNeg)) .l) = 0 then (default : (Nat → UInt64) × Int32) else (if (Op.cmpValue (FP.dcmp r_30 r_30) .l) = 0 then (default : (Nat → UInt64) × Int32) else (u_4, u_31)))) else (u_4, u_31)) else (default : (Nat → UInt64) × Int32)))
def n_b24 (fh : Int32) (lh : Int32) (ee : Int32) (tk : Int32) (mo : Int32) (su : UInt64) (lv : UInt64) (si : UInt32) (ga : Int32) (sl : Int32) (sc : Int32) (fo : UInt64) (ln : Int32) (gr : Nat → Int32) (sa : Nat → Int32) (le : Nat → UInt64) (pn : Int32) (dl : Nat → UInt32) (pl : Nat → Int32) (dr : Nat → Int32) (sp : Nat → Int32) (ov : Nat → UInt64) (dn : Nat → Int32) (n : Nat) (rc : Nat → Nat → Int32) (L : Nat) (xs : Nat → Int32) (i5 : Int32) : Prop :=
  (vp_in (i5 + 1) L) ∧
  (n_L_wouldLevel fh lh ee tk mo su lv si ga sl sc fo ln gr sa le pn dl pl dr sp (xs (i5 + 1).toNatClampNeg)) ∧
  (∀ (r_3 : Int32) (u_4 : Nat → UInt64), (r_3, u_4) = f_L_wouldLevel fh lh ee tk mo su lv si ga sl sc fo ln gr sa le pn dl pl dr sp ov (xs (i5 + 1).toNatClampNeg) → n_X7_wouldLevel tk mo su lv si ga sl sc fh lh pn dl pl dr le dn (xs (i5 + 1).toNatClampNeg) n rc) ∧
  (∀ (r_3 : Int32) (u_4 : Nat → UInt64), (r_3, u_4) = f_L_wouldLevel fh lh ee tk mo su lv si ga sl sc fo ln gr sa le pn dl pl dr sp ov (xs (i5 + 1).toNatClampNeg) → ∀ (r_30 : UInt64) (u_31 : Int32), (r_30, u_31) = f_X7_wouldLevel tk mo su lv si ga sl sc fh lh pn dl pl dr le dn (xs (i5 + 1).toNatClampNeg) rc → ((f_X7_thrown u_31) = r_3) → (r_3 = 0) → vp_in 0 1) ∧
  (∀ (r_3 : Int32) (u_4 : Nat → UInt64), (r_3, u_4) = f_L_wouldLevel fh lh ee tk mo su lv si ga sl sc fo ln gr sa le pn dl pl dr sp ov (xs (i5 + 1).toNatClampNeg) → ∀ (r_30 : UInt64) (u_31 : Int32), (r_30, u_31) = f_X7_wouldLevel tk mo su lv si ga sl sc fh lh pn dl pl dr le dn (xs (i5 + 1).toNatClampNeg) rc → ((f_X7_thrown u_31) = r_3) → (r_3 = 0) → (¬ (Op.cmpValue (FP.dcmp (u_4 (0 : Int32).toNatClampNeg) r_30) .l) = 0) → ((Op.cmpValue (FP.dcmp (u_4 (0 : Int32).toNatClampNeg) (u_4 (0 : Int32).toNatClampNeg)) .l) = 0) → False) ∧
  (∀ (r_3 : Int32) (u_4 : Nat → UInt64), (r_3, u_4) = f_L_wouldLevel fh lh ee tk mo su lv si ga sl sc fo ln gr sa le pn dl pl dr sp ov (xs (i5 + 1).toNatClampNeg) → ∀ (r_30 : UInt64) (u_31 : Int32), (r_30, u_31) = f_X7_wouldLevel tk mo su lv si ga sl sc fh lh pn dl pl dr le dn (xs (i5 + 1).toNatClampNeg) rc → ((f_X7_thrown u_31) = r_3) → (r_3 = 0) → (¬ (Op.cmpValue (FP.dcmp (u_4 (0 : Int32).toNatClampNeg) r_30) .l) = 0) → (¬ (Op.cmpValue (FP.dcmp (u_4 (0 : Int32).toNatClampNeg) (u_4 (0 : Int32).toNatClampNeg)) .l) = 0) → ((Op.cmpValue (FP.dcmp r_30 r_30) .l) = 0) → False) ∧
  (∀ (r_3 : Int32) (u_4 : Nat → UInt64), (r_3, u_4) = f_L_wouldLevel fh lh ee tk mo su lv si ga sl sc fo ln gr sa le pn dl pl dr sp ov (xs (i5 + 1).toNatClampNeg) → ∀ (r_30 : UInt64) (u_31 : Int32), (r_30, u_31) = f_X7_wouldLevel tk mo su lv si ga sl sc fh lh pn dl pl dr le dn (xs (i5 + 1).toNatClampNeg) rc → (¬ (f_X7_thrown u_31) = r_3) → False)
def f_b25 (fh : Int32) (lh : Int32) (ee : Int32) (tk : Int32) (mo : Int32) (su : UInt64) (lv : UInt64) (si : UInt32) (ga : Int32) (sl : Int32) (sc : Int32) (fo : UInt64) (ln : Int32) (gr : Nat → Int32) (sa : Nat → Int32) (le : Nat → UInt64) (pn : Int32) (dl : Nat → UInt32) (pl : Nat → Int32) (dr : Nat → Int32) (sp : Nat → Int32) (oj : Nat → Int64) (dn : Nat → Int32) (n : Nat) (rc : Nat → Nat → Int32) (xs : Nat → Int32) (i5 : Int32) : (Nat → Int64) × Int32 :=
  (match f_L_wouldDone fh lh ee tk mo su lv si ga sl sc fo ln gr sa le pn dl pl dr sp oj (xs (i5 + 1).toNatClampNeg) with | (r_3, u_4) => (match f_X7_wouldDone tk mo su lv si ga sl sc fh lh pn dl pl dr le dn (xs (i5 + 1).toNatClampNeg) n rc with | (r_30, u_31) => if (f_X7_thrown u_31) = r_3 then (if r_3 = 0 then (if (lg_cmp (u_4 (0 : Int32).toNatClampNeg) r_30.toInt64) = 0 then (u_4, u_31) else (default : (Nat → Int64) × Int32)) else (u_4, u_31)) else (default : (Nat → Int64) × Int32)))
def n_b25 (fh : Int32) (lh : Int32) (ee : Int32) (tk : Int32) (mo : Int32) (su : UInt64) (lv : UInt64) (si : UInt32) (ga : Int32) (sl : Int32) (sc : Int32) (fo : UInt64) (ln : Int32) (gr : Nat → Int32) (sa : Nat → Int32) (le : Nat → UInt64) (pn : Int32) (dl : Nat → UInt32) (pl : Nat → Int32) (dr : Nat → Int32) (sp : Nat → Int32) (oj : Nat → Int64) (dn : Nat → Int32) (n : Nat) (rc : Nat → Nat → Int32) (L : Nat) (xs : Nat → Int32) (i5 : Int32) : Prop :=
  (vp_in (i5 + 1) L) ∧
  (n_L_wouldDone fh lh ee tk mo su lv si ga sl sc fo ln gr sa le pn dl pl dr sp (xs (i5 + 1).toNatClampNeg)) ∧
  (∀ (r_3 : Int32) (u_4 : Nat → Int64), (r_3, u_4) = f_L_wouldDone fh lh ee tk mo su lv si ga sl sc fo ln gr sa le pn dl pl dr sp oj (xs (i5 + 1).toNatClampNeg) → n_X7_wouldDone tk mo su lv si ga sl sc fh lh pn dl pl dr le dn (xs (i5 + 1).toNatClampNeg) n rc) ∧
  (∀ (r_3 : Int32) (u_4 : Nat → Int64), (r_3, u_4) = f_L_wouldDone fh lh ee tk mo su lv si ga sl sc fo ln gr sa le pn dl pl dr sp oj (xs (i5 + 1).toNatClampNeg) → ∀ (r_30 : Int32) (u_31 : Int32), (r_30, u_31) = f_X7_wouldDone tk mo su lv si ga sl sc fh lh pn dl pl dr le dn (xs (i5 + 1).toNatClampNeg) n rc → ((f_X7_thrown u_31) = r_3) → (r_3 = 0) → vp_in 0 1) ∧
  (∀ (r_3 : Int32) (u_4 : Nat → Int64), (r_3, u_4) = f_L_wouldDone fh lh ee tk mo su lv si ga sl sc fo ln gr sa le pn dl pl dr sp oj (xs (i5 + 1).toNatClampNeg) → ∀ (r_30 : Int32) (u_31 : Int32), (r_30, u_31) = f_X7_wouldDone tk mo su lv si ga sl sc fh lh pn dl pl dr le dn (xs (i5 + 1).toNatClampNeg) n rc → ((f_X7_thrown u_31) = r_3) → (r_3 = 0) → (¬ (lg_cmp (u_4 (0 : Int32).toNatClampNeg) r_30.toInt64) = 0) → False) ∧
  (∀ (r_3 : Int32) (u_4 : Nat → Int64), (r_3, u_4) = f_L_wouldDone fh lh ee tk mo su lv si ga sl sc fo ln gr sa le pn dl pl dr sp oj (xs (i5 + 1).toNatClampNeg) → ∀ (r_30 : Int32) (u_31 : Int32), (r_30, u_31) = f_X7_wouldDone tk mo su lv si ga sl sc fh lh pn dl pl dr le dn (xs (i5 + 1).toNatClampNeg) n rc → (¬ (f_X7_thrown u_31) = r_3) → False)
def f_b26 (fh : Int32) (lh : Int32) (ee : Int32) (tk : Int32) (mo : Int32) (su : UInt64) (lv : UInt64) (si : UInt32) (ga : Int32) (sc : Int32) (fo : UInt64) (ln : Int32) (gr : Nat → Int32) (sa : Nat → Int32) (le : Nat → UInt64) (pn : Int32) (dl : Nat → UInt32) (pl : Nat → Int32) (dr : Nat → Int32) (sp : Nat → Int32) (oj : Nat → Int64) (dn : Nat → Int32) (n : Nat) (rc : Nat → Nat → Int32) (xs : Nat → Int32) (i5 : Int32) : (Nat → Int64) × Int32 :=
  (match f_L_best fh lh ee tk mo su lv si ga sc fo ln gr sa le pn dl pl dr sp oj (xs (i5 + 1).toNatClampNeg) with | (r_3, u_4) => (match f_X7_best tk mo su lv si ga sc fh lh pn dl pl dr le dn (xs (i5 + 1).toNatClampNeg) n rc with | (r_30, u_31) => if (f_X7_thrown u_31) = r_3 then (if r_3 = 0 then (if (lg_cmp (u_4 (0 : Int32).toNatClampNeg) r_30.toInt64) = 0 then (u_4, u_31) else (default : (Nat → Int64) × Int32)) else (u_4, u_31)) else (default : (Nat → Int64) × Int32)))
def n_b26 (fh : Int32) (lh : Int32) (ee : Int32) (tk : Int32) (mo : Int32) (su : UInt64) (lv : UInt64) (si : UInt32) (ga : Int32) (sc : Int32) (fo : UInt64) (ln : Int32) (gr : Nat → Int32) (sa : Nat → Int32) (le : Nat → UInt64) (pn : Int32) (dl : Nat → UInt32) (pl : Nat → Int32) (dr : Nat → Int32) (sp : Nat → Int32) (oj : Nat → Int64) (dn : Nat → Int32) (n : Nat) (rc : Nat → Nat → Int32) (L : Nat) (xs : Nat → Int32) (i5 : Int32) : Prop :=
  (vp_in (i5 + 1) L) ∧
  (n_L_best fh lh ee tk mo su lv si ga sc fo ln gr sa le pn dl pl dr sp (xs (i5 + 1).toNatClampNeg)) ∧
  (∀ (r_3 : Int32) (u_4 : Nat → Int64), (r_3, u_4) = f_L_best fh lh ee tk mo su lv si ga sc fo ln gr sa le pn dl pl dr sp oj (xs (i5 + 1).toNatClampNeg) → n_X7_best tk mo su lv si ga sc fh lh pn dl pl dr le dn (xs (i5 + 1).toNatClampNeg) n rc) ∧
  (∀ (r_3 : Int32) (u_4 : Nat → Int64), (r_3, u_4) = f_L_best fh lh ee tk mo su lv si ga sc fo ln gr sa le pn dl pl dr sp oj (xs (i5 + 1).toNatClampNeg) → ∀ (r_30 : Int32) (u_31 : Int32), (r_30, u_31) = f_X7_best tk mo su lv si ga sc fh lh pn dl pl dr le dn (xs (i5 + 1).toNatClampNeg) n rc → ((f_X7_thrown u_31) = r_3) → (r_3 = 0) → vp_in 0 1) ∧
  (∀ (r_3 : Int32) (u_4 : Nat → Int64), (r_3, u_4) = f_L_best fh lh ee tk mo su lv si ga sc fo ln gr sa le pn dl pl dr sp oj (xs (i5 + 1).toNatClampNeg) → ∀ (r_30 : Int32) (u_31 : Int32), (r_30, u_31) = f_X7_best tk mo su lv si ga sc fh lh pn dl pl dr le dn (xs (i5 + 1).toNatClampNeg) n rc → ((f_X7_thrown u_31) = r_3) → (r_3 = 0) → (¬ (lg_cmp (u_4 (0 : Int32).toNatClampNeg) r_30.toInt64) = 0) → False) ∧
  (∀ (r_3 : Int32) (u_4 : Nat → Int64), (r_3, u_4) = f_L_best fh lh ee tk mo su lv si ga sc fo ln gr sa le pn dl pl dr sp oj (xs (i5 + 1).toNatClampNeg) → ∀ (r_30 : Int32) (u_31 : Int32), (r_30, u_31) = f_X7_best tk mo su lv si ga sc fh lh pn dl pl dr le dn (xs (i5 + 1).toNatClampNeg) n rc → (¬ (f_X7_thrown u_31) = r_3) → False)
def f_b27 (lk : Int32) (rf : Int32) (pu : Int32) (to : UInt64) (fh : Int32) (lh : Int32) (ee : Int32) (tk : Int32) (mo : Int32) (su : UInt64) (lv : UInt64) (si : UInt32) (ga : Int32) (sl : Int32) (sc : Int32) (fo : UInt64) (ln : Int32) (ow : Nat → Int32) (gr : Nat → Int32) (we : Nat → Int32) (du : Nat → Int32) (sa : Nat → Int32) (le : Nat → UInt64) (pn : Int32) (dl : Nat → UInt32) (pl : Nat → Int32) (dr : Nat → Int32) (sp : Nat → Int32) (dn : Nat → Int32) (n : Nat) (rc : Nat → Nat → Int32) : Int32 :=
  (match f_X7_digest rf lk pu to tk mo su lv si ga sl sc fh lh ee pn dl pl dr sp le dn n rc with | (r_28, u_29) => if (lg_cmp (f_X5_digest lk rf pu to fh lh ee tk mo su lv si ga sl sc fo ln ow gr we du sa le pn dl pl dr sp) r_28) = 0 then u_29 else (default : Int32))
def n_b27 (lk : Int32) (rf : Int32) (pu : Int32) (to : UInt64) (fh : Int32) (lh : Int32) (ee : Int32) (tk : Int32) (mo : Int32) (su : UInt64) (lv : UInt64) (si : UInt32) (ga : Int32) (sl : Int32) (sc : Int32) (fo : UInt64) (ln : Int32) (ow : Nat → Int32) (gr : Nat → Int32) (we : Nat → Int32) (du : Nat → Int32) (sa : Nat → Int32) (le : Nat → UInt64) (pn : Int32) (dl : Nat → UInt32) (pl : Nat → Int32) (dr : Nat → Int32) (sp : Nat → Int32) (dn : Nat → Int32) (n : Nat) (rc : Nat → Nat → Int32) : Prop :=
  (n_X5_digest lk rf pu to fh lh ee tk mo su lv si ga sl sc fo ln ow gr we du sa le pn dl pl dr sp) ∧
  (n_X7_digest rf lk pu to tk mo su lv si ga sl sc fh lh ee pn dl pl dr sp le dn n rc) ∧
  (∀ (r_28 : Int64) (u_29 : Int32), (r_28, u_29) = f_X7_digest rf lk pu to tk mo su lv si ga sl sc fh lh ee pn dl pl dr sp le dn n rc → (¬ (lg_cmp (f_X5_digest lk rf pu to fh lh ee tk mo su lv si ga sl sc fo ln ow gr we du sa le pn dl pl dr sp) r_28) = 0) → False)
def f_b9e (tk : Int32) (ln : Int32) (ow : Nat → Int32) (gr : Nat → Int32) (we : Nat → Int32) (du : Nat → Int32) (sa : Nat → Int32) (le : Nat → UInt64) (oj : Nat → Int64) (n : Nat) (xs : Nat → Int32) (i5 : Int32) : Int32 × (Nat → Int32) × (Nat → Int32) × (Nat → Int32) × (Nat → Int32) × (Nat → Int32) × (Nat → UInt64) × (Nat → Int64) × Int32 :=
  (match f_L_lot tk ln ow gr we du sa le oj (xs (i5 + 1).toNatClampNeg) (xs (i5 + 2).toNatClampNeg) (xs (i5 + 3).toNatClampNeg) (xs (i5 + 4).toNatClampNeg) with | (r_6, u_7, u_8, u_9, u_10, u_11, u_12, u_13, u_14) => (match f_X7_lot_e (xs (i5 + 1).toNatClampNeg) (xs (i5 + 2).toNatClampNeg) (xs (i5 + 3).toNatClampNeg) (xs (i5 + 4).toNatClampNeg) n with | (r_16, u_17) => if (f_X7_thrown u_17) = r_6 then (if r_6 = 0 then (if (lg_cmp (u_14 (0 : Int32).toNatClampNeg) r_16.toInt64) = 0 then (u_7, u_8, u_9, u_10, u_11, u_12, u_13, u_14, u_17) else (default : Int32 × (Nat → Int32) × (Nat → Int32) × (Nat → Int32) × (Nat → Int32) × (Nat → Int32) × (Nat → UInt64) × (Nat → Int64) × Int32)) else (u_7, u_8, u_9, u_10, u_11, u_12, u_13, u_14, u_17)) else (default : Int32 × (Nat → Int32) × (Nat → Int32) × (Nat → Int32) × (Nat → Int32) × (Nat → Int32) × (Nat → UInt64) × (Nat → Int64) × Int32)))
def n_b9e (tk : Int32) (ln : Int32) (ow : Nat → Int32) (gr : Nat → Int32) (we : Nat → Int32) (du : Nat → Int32) (sa : Nat → Int32) (le : Nat → UInt64) (oj : Nat → Int64) (n : Nat) (L : Nat) (xs : Nat → Int32) (i5 : Int32) : Prop :=
  (vp_in (i5 + 1) L) ∧
  (vp_in (i5 + 2) L) ∧
  (vp_in (i5 + 3) L) ∧
  (vp_in (i5 + 4) L) ∧
  (n_L_lot tk ln ow gr we du sa le (xs (i5 + 1).toNatClampNeg) (xs (i5 + 2).toNatClampNeg) (xs (i5 + 3).toNatClampNeg) (xs (i5 + 4).toNatClampNeg)) ∧
  (∀ (r_6 : Int32) (u_7 : Int32) (u_8 : Nat → Int32) (u_9 : Nat → Int32) (u_10 : Nat → Int32) (u_11 : Nat → Int32) (u_12 : Nat → Int32) (u_13 : Nat → UInt64) (u_14 : Nat → Int64), (r_6, u_7, u_8, u_9, u_10, u_11, u_12, u_13, u_14) = f_L_lot tk ln ow gr we du sa le oj (xs (i5 + 1).toNatClampNeg) (xs (i5 + 2).toNatClampNeg) (xs (i5 + 3).toNatClampNeg) (xs (i5 + 4).toNatClampNeg) → n_X7_lot_e (xs (i5 + 1).toNatClampNeg) (xs (i5 + 2).toNatClampNeg) (xs (i5 + 3).toNatClampNeg) (xs (i5 + 4).toNatClampNeg) n) ∧
  (∀ (r_6 : Int32) (u_7 : Int32) (u_8 : Nat → Int32) (u_9 : Nat → Int32) (u_10 : Nat → Int32) (u_11 : Nat → Int32) (u_12 : Nat → Int32) (u_13 : Nat → UInt64) (u_14 : Nat → Int64), (r_6, u_7, u_8, u_9, u_10, u_11, u_12, u_13, u_14) = f_L_lot tk ln ow gr we du sa le oj (xs (i5 + 1).toNatClampNeg) (xs (i5 + 2).toNatClampNeg) (xs (i5 + 3).toNatClampNeg) (xs (i5 + 4).toNatClampNeg) → ∀ (r_16 : Int32) (u_17 : Int32), (r_16, u_17) = f_X7_lot_e (xs (i5 + 1).toNatClampNeg) (xs (i5 + 2).toNatClampNeg) (xs (i5 + 3).toNatClampNeg) (xs (i5 + 4).toNatClampNeg) n → ((f_X7_thrown u_17) = r_6) → (r_6 = 0) → vp_in 0 1) ∧
  (∀ (r_6 : Int32) (u_7 : Int32) (u_8 : Nat → Int32) (u_9 : Nat → Int32) (u_10 : Nat → Int32) (u_11 : Nat → Int32) (u_12 : Nat → Int32) (u_13 : Nat → UInt64) (u_14 : Nat → Int64), (r_6, u_7, u_8, u_9, u_10, u_11, u_12, u_13, u_14) = f_L_lot tk ln ow gr we du sa le oj (xs (i5 + 1).toNatClampNeg) (xs (i5 + 2).toNatClampNeg) (xs (i5 + 3).toNatClampNeg) (xs (i5 + 4).toNatClampNeg) → ∀ (r_16 : Int32) (u_17 : Int32), (r_16, u_17) = f_X7_lot_e (xs (i5 + 1).toNatClampNeg) (xs (i5 + 2).toNatClampNeg) (xs (i5 + 3).toNatClampNeg) (xs (i5 + 4).toNatClampNeg) n → ((f_X7_thrown u_17) = r_6) → (r_6 = 0) → (¬ (lg_cmp (u_14 (0 : Int32).toNatClampNeg) r_16.toInt64) = 0) → False) ∧
  (∀ (r_6 : Int32) (u_7 : Int32) (u_8 : Nat → Int32) (u_9 : Nat → Int32) (u_10 : Nat → Int32) (u_11 : Nat → Int32) (u_12 : Nat → Int32) (u_13 : Nat → UInt64) (u_14 : Nat → Int64), (r_6, u_7, u_8, u_9, u_10, u_11, u_12, u_13, u_14) = f_L_lot tk ln ow gr we du sa le oj (xs (i5 + 1).toNatClampNeg) (xs (i5 + 2).toNatClampNeg) (xs (i5 + 3).toNatClampNeg) (xs (i5 + 4).toNatClampNeg) → ∀ (r_16 : Int32) (u_17 : Int32), (r_16, u_17) = f_X7_lot_e (xs (i5 + 1).toNatClampNeg) (xs (i5 + 2).toNatClampNeg) (xs (i5 + 3).toNatClampNeg) (xs (i5 + 4).toNatClampNeg) n → (¬ (f_X7_thrown u_17) = r_6) → False)
def f_b9p (tk : Int32) (ln : Int32) (ow : Nat → Int32) (gr : Nat → Int32) (we : Nat → Int32) (du : Nat → Int32) (sa : Nat → Int32) (le : Nat → UInt64) (oj : Nat → Int64) (mc : Int32) (n : Nat) (rc : Nat → Nat → Int32) (xs : Nat → Int32) (i5 : Int32) : (Nat → Nat → Int32) × Int32 × (Nat → Int32) × (Nat → Int32) × (Nat → Int32) × (Nat → Int32) × (Nat → Int32) × (Nat → UInt64) × (Nat → Int64) × Int32 × (Nat → UInt64) × Int32 × Int32 :=
  (match f_L_lot tk ln ow gr we du sa le oj (xs (i5 + 1).toNatClampNeg) (xs (i5 + 2).toNatClampNeg) (xs (i5 + 3).toNatClampNeg) (xs (i5 + 4).toNatClampNeg) with | (r_6, u_7, u_8, u_9, u_10, u_11, u_12, u_13, u_14) => if (f_X7_thrown 0) = r_6 then (if r_6 = 0 then (if (lg_cmp (u_14 (0 : Int32).toNatClampNeg) (((f_Jx4a65c_size_8abf5 ((nI n) + 1)) - 1).toInt64)) = 0 then (vf_upd rc n (upd (upd (upd (upd (upd (fun _ => (0 : Int32)) (0 : Int32).toNatClampNeg (xs (i5 + 1).toNatClampNeg)) (1 : Int32).toNatClampNeg (xs (i5 + 2).toNatClampNeg)) (2 : Int32).toNatClampNeg (xs (i5 + 3).toNatClampNeg)) (3 : Int32).toNatClampNeg ((tk / 48) + (xs (i5 + 4).toNatClampNeg))) (4 : Int32).toNatClampNeg 0), u_7, u_8, u_9, u_10, u_11, u_12, u_13, u_14, 0, vf_upd le (f_Jx4a65c_size_8abf5 (nI n)).toNatClampNeg (FP.i2d (xs (i5 + 3).toNatClampNeg)), (mc + 1), (nI n) + 1) else (default : (Nat → Nat → Int32) × Int32 × (Nat → Int32) × (Nat → Int32) × (Nat → Int32) × (Nat → Int32) × (Nat → Int32) × (Nat → UInt64) × (Nat → Int64) × Int32 × (Nat → UInt64) × Int32 × Int32)) else (vf_upd rc n (upd (upd (upd (upd (upd (fun _ => (0 : Int32)) (0 : Int32).toNatClampNeg (xs (i5 + 1).toNatClampNeg)) (1 : Int32).toNatClampNeg (xs (i5 + 2).toNatClampNeg)) (2 : Int32).toNatClampNeg (xs (i5 + 3).toNatClampNeg)) (3 : Int32).toNatClampNeg ((tk / 48) + (xs (i5 + 4).toNatClampNeg))) (4 : Int32).toNatClampNeg 0), u_7, u_8, u_9, u_10, u_11, u_12, u_13, u_14, 0, vf_upd le (f_Jx4a65c_size_8abf5 (nI n)).toNatClampNeg (FP.i2d (xs (i5 + 3).toNatClampNeg)), (mc + 1), (nI n) + 1)) else (default : (Nat → Nat → Int32) × Int32 × (Nat → Int32) × (Nat → Int32) × (Nat → Int32) × (Nat → Int32) × (Nat → Int32) × (Nat → UInt64) × (Nat → Int64) × Int32 × (Nat → UInt64) × Int32 × Int32))
def n_b9p (tk : Int32) (ln : Int32) (ow : Nat → Int32) (gr : Nat → Int32) (we : Nat → Int32) (du : Nat → Int32) (sa : Nat → Int32) (le : Nat → UInt64) (oj : Nat → Int64) (n : Nat) (L : Nat) (xs : Nat → Int32) (i5 : Int32) : Prop :=
  (vp_in (i5 + 1) L) ∧
  (vp_in (i5 + 2) L) ∧
  (vp_in (i5 + 3) L) ∧
  (vp_in (i5 + 4) L) ∧
  (n_L_lot tk ln ow gr we du sa le (xs (i5 + 1).toNatClampNeg) (xs (i5 + 2).toNatClampNeg) (xs (i5 + 3).toNatClampNeg) (xs (i5 + 4).toNatClampNeg)) ∧
  (∀ (r_6 : Int32) (u_7 : Int32) (u_8 : Nat → Int32) (u_9 : Nat → Int32) (u_10 : Nat → Int32) (u_11 : Nat → Int32) (u_12 : Nat → Int32) (u_13 : Nat → UInt64) (u_14 : Nat → Int64), (r_6, u_7, u_8, u_9, u_10, u_11, u_12, u_13, u_14) = f_L_lot tk ln ow gr we du sa le oj (xs (i5 + 1).toNatClampNeg) (xs (i5 + 2).toNatClampNeg) (xs (i5 + 3).toNatClampNeg) (xs (i5 + 4).toNatClampNeg) → n_X7_lot_p (xs (i5 + 1).toNatClampNeg) (xs (i5 + 2).toNatClampNeg) (xs (i5 + 3).toNatClampNeg) (xs (i5 + 4).toNatClampNeg) n) ∧
  (∀ (r_6 : Int32) (u_7 : Int32) (u_8 : Nat → Int32) (u_9 : Nat → Int32) (u_10 : Nat → Int32) (u_11 : Nat → Int32) (u_12 : Nat → Int32) (u_13 : Nat → UInt64) (u_14 : Nat → Int64), (r_6, u_7, u_8, u_9, u_10, u_11, u_12, u_13, u_14) = f_L_lot tk ln ow gr we du sa le oj (xs (i5 + 1).toNatClampNeg) (xs (i5 + 2).toNatClampNeg) (xs (i5 + 3).toNatClampNeg) (xs (i5 + 4).toNatClampNeg) → ((f_X7_thrown 0) = r_6) → (r_6 = 0) → vp_in 0 1) ∧
  (∀ (r_6 : Int32) (u_7 : Int32) (u_8 : Nat → Int32) (u_9 : Nat → Int32) (u_10 : Nat → Int32) (u_11 : Nat → Int32) (u_12 : Nat → Int32) (u_13 : Nat → UInt64) (u_14 : Nat → Int64), (r_6, u_7, u_8, u_9, u_10, u_11, u_12, u_13, u_14) = f_L_lot tk ln ow gr we du sa le oj (xs (i5 + 1).toNatClampNeg) (xs (i5 + 2).toNatClampNeg) (xs (i5 + 3).toNatClampNeg) (xs (i5 + 4).toNatClampNeg) → ((f_X7_thrown 0) = r_6) → (r_6 = 0) → (¬ (lg_cmp (u_14 (0 : Int32).toNatClampNeg) (((f_Jx4a65c_size_8abf5 ((nI n) + 1)) - 1).toInt64)) = 0) → False) ∧
  (∀ (r_6 : Int32) (u_7 : Int32) (u_8 : Nat → Int32) (u_9 : Nat → Int32) (u_10 : Nat → Int32) (u_11 : Nat → Int32) (u_12 : Nat → Int32) (u_13 : Nat → UInt64) (u_14 : Nat → Int64), (r_6, u_7, u_8, u_9, u_10, u_11, u_12, u_13, u_14) = f_L_lot tk ln ow gr we du sa le oj (xs (i5 + 1).toNatClampNeg) (xs (i5 + 2).toNatClampNeg) (xs (i5 + 3).toNatClampNeg) (xs (i5 + 4).toNatClampNeg) → (¬ (f_X7_thrown 0) = r_6) → False)
def f_b9z (tk : Int32) (ln : Int32) (ow : Nat → Int32) (gr : Nat → Int32) (we : Nat → Int32) (du : Nat → Int32) (sa : Nat → Int32) (le : Nat → UInt64) (oj : Nat → Int64) (mc : Int32) (xs : Nat → Int32) (i5 : Int32) : Int32 × (Nat → Int32) × (Nat → Int32) × (Nat → Int32) × (Nat → Int32) × (Nat → Int32) × (Nat → UInt64) × (Nat → Int64) × Int32 × (Nat → UInt64) × Int32 × Int32 :=
  (match f_L_lot tk ln ow gr we du sa le oj (xs (i5 + 1).toNatClampNeg) (xs (i5 + 2).toNatClampNeg) (xs (i5 + 3).toNatClampNeg) (xs (i5 + 4).toNatClampNeg) with | (r_6, u_7, u_8, u_9, u_10, u_11, u_12, u_13, u_14) => if (f_X7_thrown 0) = r_6 then (if r_6 = 0 then (if (lg_cmp (u_14 (0 : Int32).toNatClampNeg) (((f_Jx4a65c_size_8abf5 (0 + 1)) - 1).toInt64)) = 0 then (u_7, u_8, u_9, u_10, u_11, u_12, u_13, u_14, 0, vf_upd le (f_Jx4a65c_size_8abf5 0).toNatClampNeg (FP.i2d (xs (i5 + 3).toNatClampNeg)), (mc + 1), 0 + 1) else (default : Int32 × (Nat → Int32) × (Nat → Int32) × (Nat → Int32) × (Nat → Int32) × (Nat → Int32) × (Nat → UInt64) × (Nat → Int64) × Int32 × (Nat → UInt64) × Int32 × Int32)) else (u_7, u_8, u_9, u_10, u_11, u_12, u_13, u_14, 0, vf_upd le (f_Jx4a65c_size_8abf5 0).toNatClampNeg (FP.i2d (xs (i5 + 3).toNatClampNeg)), (mc + 1), 0 + 1)) else (default : Int32 × (Nat → Int32) × (Nat → Int32) × (Nat → Int32) × (Nat → Int32) × (Nat → Int32) × (Nat → UInt64) × (Nat → Int64) × Int32 × (Nat → UInt64) × Int32 × Int32))
def n_b9z (tk : Int32) (ln : Int32) (ow : Nat → Int32) (gr : Nat → Int32) (we : Nat → Int32) (du : Nat → Int32) (sa : Nat → Int32) (le : Nat → UInt64) (oj : Nat → Int64) (L : Nat) (xs : Nat → Int32) (i5 : Int32) : Prop :=
  (vp_in (i5 + 1) L) ∧
  (vp_in (i5 + 2) L) ∧
  (vp_in (i5 + 3) L) ∧
  (vp_in (i5 + 4) L) ∧
  (n_L_lot tk ln ow gr we du sa le (xs (i5 + 1).toNatClampNeg) (xs (i5 + 2).toNatClampNeg) (xs (i5 + 3).toNatClampNeg) (xs (i5 + 4).toNatClampNeg)) ∧
  (∀ (r_6 : Int32) (u_7 : Int32) (u_8 : Nat → Int32) (u_9 : Nat → Int32) (u_10 : Nat → Int32) (u_11 : Nat → Int32) (u_12 : Nat → Int32) (u_13 : Nat → UInt64) (u_14 : Nat → Int64), (r_6, u_7, u_8, u_9, u_10, u_11, u_12, u_13, u_14) = f_L_lot tk ln ow gr we du sa le oj (xs (i5 + 1).toNatClampNeg) (xs (i5 + 2).toNatClampNeg) (xs (i5 + 3).toNatClampNeg) (xs (i5 + 4).toNatClampNeg) → n_X7_lot_z (xs (i5 + 1).toNatClampNeg) (xs (i5 + 2).toNatClampNeg) (xs (i5 + 3).toNatClampNeg) (xs (i5 + 4).toNatClampNeg)) ∧
  (∀ (r_6 : Int32) (u_7 : Int32) (u_8 : Nat → Int32) (u_9 : Nat → Int32) (u_10 : Nat → Int32) (u_11 : Nat → Int32) (u_12 : Nat → Int32) (u_13 : Nat → UInt64) (u_14 : Nat → Int64), (r_6, u_7, u_8, u_9, u_10, u_11, u_12, u_13, u_14) = f_L_lot tk ln ow gr we du sa le oj (xs (i5 + 1).toNatClampNeg) (xs (i5 + 2).toNatClampNeg) (xs (i5 + 3).toNatClampNeg) (xs (i5 + 4).toNatClampNeg) → ((f_X7_thrown 0) = r_6) → (r_6 = 0) → vp_in 0 1) ∧
  (∀ (r_6 : Int32) (u_7 : Int32) (u_8 : Nat → Int32) (u_9 : Nat → Int32) (u_10 : Nat → Int32) (u_11 : Nat → Int32) (u_12 : Nat → Int32) (u_13 : Nat → UInt64) (u_14 : Nat → Int64), (r_6, u_7, u_8, u_9, u_10, u_11, u_12, u_13, u_14) = f_L_lot tk ln ow gr we du sa le oj (xs (i5 + 1).toNatClampNeg) (xs (i5 + 2).toNatClampNeg) (xs (i5 + 3).toNatClampNeg) (xs (i5 + 4).toNatClampNeg) → ((f_X7_thrown 0) = r_6) → (r_6 = 0) → (¬ (lg_cmp (u_14 (0 : Int32).toNatClampNeg) (((f_Jx4a65c_size_8abf5 (0 + 1)) - 1).toInt64)) = 0) → False) ∧
  (∀ (r_6 : Int32) (u_7 : Int32) (u_8 : Nat → Int32) (u_9 : Nat → Int32) (u_10 : Nat → Int32) (u_11 : Nat → Int32) (u_12 : Nat → Int32) (u_13 : Nat → UInt64) (u_14 : Nat → Int64), (r_6, u_7, u_8, u_9, u_10, u_11, u_12, u_13, u_14) = f_L_lot tk ln ow gr we du sa le oj (xs (i5 + 1).toNatClampNeg) (xs (i5 + 2).toNatClampNeg) (xs (i5 + 3).toNatClampNeg) (xs (i5 + 4).toNatClampNeg) → (¬ (f_X7_thrown 0) = r_6) → False)
