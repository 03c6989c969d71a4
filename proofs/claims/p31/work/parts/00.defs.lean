def tm_bool (x : Int32) : Prop := x = 0 ∨ x = 1
def f_X4_today (tk : Int32) : Int32 :=
  tk / 48
def f_X4_hourNow (tk : Int32) : Int32 :=
  tk - tk / 48 * 48
def f_X4_ageOn (mo : Int32) (p1 : Int32) : Int32 :=
  (mo + (p1 / 48)) - (mo + (p1 / 48)) / 30 * 30
def f_X4_springOf (p1 : Int32) : Int32 :=
  if (if 0 ≤ (p1 - 15) then (p1 - 15) else 0 - (p1 - 15)) < (if (30 - p1) < p1 then (30 - p1) else p1) then (if 0 ≤ (p1 - 15) then (p1 - 15) else 0 - (p1 - 15)) else (if (30 - p1) < p1 then (30 - p1) else p1)
def f_X4_rangeOn (mo : Int32) (p1 : Int32) : UInt64 :=
  FP.dsub 4616189618054758400 (FP.dmul 4598175219545276416 (FP.i2d (f_X4_springOf (f_X4_ageOn mo p1))))
def n_X4_rangeOn (mo : Int32) (p1 : Int32) : Prop :=
  (vf_n64 (FP.dmul 4598175219545276416 (FP.i2d (f_X4_springOf (f_X4_ageOn mo p1))))) ∧
  (vf_n64 (FP.dsub 4616189618054758400 (FP.dmul 4598175219545276416 (FP.i2d (f_X4_springOf (f_X4_ageOn mo p1))))))
def f_X4_phaseOn (p1 : Int32) : UInt64 :=
  FP.ddiv (FP.i2d ((p1 * 4) - (p1 * 4) / 99 * 99)) 4616189618054758400
def n_X4_phaseOn (p1 : Int32) : Prop :=
  (vf_n64 (FP.ddiv (FP.i2d ((p1 * 4) - (p1 * 4) / 99 * 99)) 4616189618054758400))
def f_X4_heightOn (mo : Int32) (su : UInt64) (p1 : Int32) : UInt64 :=
  if 0 ≤ (Op.cmpValue (FP.dcmp (f_X4_phaseOn p1) 4622945017495814144) .g) then (FP.dsub (FP.dadd su (FP.dmul (f_X4_rangeOn mo p1) (FP.ddiv (FP.dsub 4627659723355717632 (f_X4_phaseOn p1)) 4623367229960880128))) (FP.dmul (f_X4_rangeOn mo p1) 4602678819172646912)) else (FP.dsub (FP.dadd su (FP.dmul (f_X4_rangeOn mo p1) (FP.ddiv (f_X4_phaseOn p1) 4622945017495814144))) (FP.dmul (f_X4_rangeOn mo p1) 4602678819172646912))
def n_X4_heightOn (mo : Int32) (su : UInt64) (p1 : Int32) : Prop :=
  (n_X4_rangeOn mo p1) ∧
  (n_X4_phaseOn p1) ∧
  ((0 ≤ (Op.cmpValue (FP.dcmp (f_X4_phaseOn p1) 4622945017495814144) .g)) → vf_n64 (FP.dsub 4627659723355717632 (f_X4_phaseOn p1))) ∧
  ((0 ≤ (Op.cmpValue (FP.dcmp (f_X4_phaseOn p1) 4622945017495814144) .g)) → vf_n64 (FP.ddiv (FP.dsub 4627659723355717632 (f_X4_phaseOn p1)) 4623367229960880128)) ∧
  ((0 ≤ (Op.cmpValue (FP.dcmp (f_X4_phaseOn p1) 4622945017495814144) .g)) → vf_n64 (FP.dmul (f_X4_rangeOn mo p1) (FP.ddiv (FP.dsub 4627659723355717632 (f_X4_phaseOn p1)) 4623367229960880128))) ∧
  ((0 ≤ (Op.cmpValue (FP.dcmp (f_X4_phaseOn p1) 4622945017495814144) .g)) → vf_n64 (FP.dadd su (FP.dmul (f_X4_rangeOn mo p1) (FP.ddiv (FP.dsub 4627659723355717632 (f_X4_phaseOn p1)) 4623367229960880128)))) ∧
  ((0 ≤ (Op.cmpValue (FP.dcmp (f_X4_phaseOn p1) 4622945017495814144) .g)) → vf_n64 (FP.dmul (f_X4_rangeOn mo p1) 4602678819172646912)) ∧
  ((0 ≤ (Op.cmpValue (FP.dcmp (f_X4_phaseOn p1) 4622945017495814144) .g)) → vf_n64 (FP.dsub (FP.dadd su (FP.dmul (f_X4_rangeOn mo p1) (FP.ddiv (FP.dsub 4627659723355717632 (f_X4_phaseOn p1)) 4623367229960880128))) (FP.dmul (f_X4_rangeOn mo p1) 4602678819172646912))) ∧
  ((¬ 0 ≤ (Op.cmpValue (FP.dcmp (f_X4_phaseOn p1) 4622945017495814144) .g)) → vf_n64 (FP.ddiv (f_X4_phaseOn p1) 4622945017495814144)) ∧
  ((¬ 0 ≤ (Op.cmpValue (FP.dcmp (f_X4_phaseOn p1) 4622945017495814144) .g)) → vf_n64 (FP.dmul (f_X4_rangeOn mo p1) (FP.ddiv (f_X4_phaseOn p1) 4622945017495814144))) ∧
  ((¬ 0 ≤ (Op.cmpValue (FP.dcmp (f_X4_phaseOn p1) 4622945017495814144) .g)) → vf_n64 (FP.dadd su (FP.dmul (f_X4_rangeOn mo p1) (FP.ddiv (f_X4_phaseOn p1) 4622945017495814144)))) ∧
  ((¬ 0 ≤ (Op.cmpValue (FP.dcmp (f_X4_phaseOn p1) 4622945017495814144) .g)) → vf_n64 (FP.dmul (f_X4_rangeOn mo p1) 4602678819172646912)) ∧
  ((¬ 0 ≤ (Op.cmpValue (FP.dcmp (f_X4_phaseOn p1) 4622945017495814144) .g)) → vf_n64 (FP.dsub (FP.dadd su (FP.dmul (f_X4_rangeOn mo p1) (FP.ddiv (f_X4_phaseOn p1) 4622945017495814144))) (FP.dmul (f_X4_rangeOn mo p1) 4602678819172646912)))
def f_X3_area (si : UInt32) : UInt64 :=
  FP.dsub 4620693217682128896 (FP.f2d si)
def n_X3_area (si : UInt32) : Prop :=
  (vf_n64 (FP.f2d si)) ∧
  (vf_n64 (FP.dsub 4620693217682128896 (FP.f2d si)))
def f_X3_fill (lv : UInt64) (si : UInt32) (ga : Int32) (p1 : UInt64) : UInt64 × UInt32 :=
  if ga ≤ 0 then (lv, si) else (if (Op.cmpValue (FP.dcmp p1 lv) .l) ≤ 0 then (lv, si) else (if (Op.cmpValue (FP.fcmp (FP.fadd si (FP.fdiv (FP.d2f (FP.dmul (FP.dmul (FP.i2d ga) (FP.dsub p1 lv)) 4602678819172646912)) 1115684864)) 1082130432) .l) ≤ 0 then (FP.dadd lv (FP.ddiv (FP.dmul (FP.dmul (FP.i2d ga) (FP.dsub p1 lv)) 4602678819172646912) (f_X3_area si)), FP.fadd si (FP.fdiv (FP.d2f (FP.dmul (FP.dmul (FP.i2d ga) (FP.dsub p1 lv)) 4602678819172646912)) 1115684864)) else (FP.dadd lv (FP.ddiv (FP.dmul (FP.dmul (FP.i2d ga) (FP.dsub p1 lv)) 4602678819172646912) (f_X3_area si)), 1082130432)))
def n_X3_fill (lv : UInt64) (si : UInt32) (ga : Int32) (p1 : UInt64) : Prop :=
  ((¬ ga ≤ 0) → (¬ (Op.cmpValue (FP.dcmp p1 lv) .l) ≤ 0) → vf_n64 (FP.dsub p1 lv)) ∧
  ((¬ ga ≤ 0) → (¬ (Op.cmpValue (FP.dcmp p1 lv) .l) ≤ 0) → vf_n64 (FP.dmul (FP.i2d ga) (FP.dsub p1 lv))) ∧
  ((¬ ga ≤ 0) → (¬ (Op.cmpValue (FP.dcmp p1 lv) .l) ≤ 0) → vf_n64 (FP.dmul (FP.dmul (FP.i2d ga) (FP.dsub p1 lv)) 4602678819172646912)) ∧
  ((¬ ga ≤ 0) → (¬ (Op.cmpValue (FP.dcmp p1 lv) .l) ≤ 0) → n_X3_area si) ∧
  ((¬ ga ≤ 0) → (¬ (Op.cmpValue (FP.dcmp p1 lv) .l) ≤ 0) → vf_n64 (FP.ddiv (FP.dmul (FP.dmul (FP.i2d ga) (FP.dsub p1 lv)) 4602678819172646912) (f_X3_area si))) ∧
  ((¬ ga ≤ 0) → (¬ (Op.cmpValue (FP.dcmp p1 lv) .l) ≤ 0) → vf_n64 (FP.dadd lv (FP.ddiv (FP.dmul (FP.dmul (FP.i2d ga) (FP.dsub p1 lv)) 4602678819172646912) (f_X3_area si)))) ∧
  ((¬ ga ≤ 0) → (¬ (Op.cmpValue (FP.dcmp p1 lv) .l) ≤ 0) → vf_n32 (FP.d2f (FP.dmul (FP.dmul (FP.i2d ga) (FP.dsub p1 lv)) 4602678819172646912))) ∧
  ((¬ ga ≤ 0) → (¬ (Op.cmpValue (FP.dcmp p1 lv) .l) ≤ 0) → vf_n32 (FP.fdiv (FP.d2f (FP.dmul (FP.dmul (FP.i2d ga) (FP.dsub p1 lv)) 4602678819172646912)) 1115684864)) ∧
  ((¬ ga ≤ 0) → (¬ (Op.cmpValue (FP.dcmp p1 lv) .l) ≤ 0) → vf_n32 (FP.fadd si (FP.fdiv (FP.d2f (FP.dmul (FP.dmul (FP.i2d ga) (FP.dsub p1 lv)) 4602678819172646912)) 1115684864)))
def f_X3_turnWheel (lv : UInt64) (si : UInt32) (sl : Int32) (p1 : UInt64) : UInt64 × UInt64 :=
  if (Op.cmpValue (FP.dcmp p1 13826050856027422720) .l) ≤ 0 then (if sl ≤ 0 then (lv, FP.dconst0) else (if (Op.cmpValue (FP.dcmp (FP.dsub lv 13826050856027422720) 4602678819172646912) .l) < 0 then (lv, FP.dconst0) else (FP.dsub lv (FP.ddiv (FP.dmul (FP.dmul (FP.i2d sl) (FP.dsub lv 13826050856027422720)) 4598175219545276416) (f_X3_area si)), FP.dmul (FP.dmul (FP.dmul (FP.i2d sl) (FP.dsub lv 13826050856027422720)) 4598175219545276416) (FP.dsub lv 13826050856027422720)))) else (if sl ≤ 0 then (lv, FP.dconst0) else (if (Op.cmpValue (FP.dcmp (FP.dsub lv p1) 4602678819172646912) .l) < 0 then (lv, FP.dconst0) else (FP.dsub lv (FP.ddiv (FP.dmul (FP.dmul (FP.i2d sl) (FP.dsub lv p1)) 4598175219545276416) (f_X3_area si)), FP.dmul (FP.dmul (FP.dmul (FP.i2d sl) (FP.dsub lv p1)) 4598175219545276416) (FP.dsub lv p1))))
def n_X3_turnWheel (lv : UInt64) (si : UInt32) (sl : Int32) (p1 : UInt64) : Prop :=
  (((Op.cmpValue (FP.dcmp p1 13826050856027422720) .l) ≤ 0) → vf_n64 (FP.dsub lv 13826050856027422720)) ∧
  (((Op.cmpValue (FP.dcmp p1 13826050856027422720) .l) ≤ 0) → (¬ sl ≤ 0) → (¬ (Op.cmpValue (FP.dcmp (FP.dsub lv 13826050856027422720) 4602678819172646912) .l) < 0) → vf_n64 (FP.dmul (FP.i2d sl) (FP.dsub lv 13826050856027422720))) ∧
  (((Op.cmpValue (FP.dcmp p1 13826050856027422720) .l) ≤ 0) → (¬ sl ≤ 0) → (¬ (Op.cmpValue (FP.dcmp (FP.dsub lv 13826050856027422720) 4602678819172646912) .l) < 0) → vf_n64 (FP.dmul (FP.dmul (FP.i2d sl) (FP.dsub lv 13826050856027422720)) 4598175219545276416)) ∧
  (((Op.cmpValue (FP.dcmp p1 13826050856027422720) .l) ≤ 0) → (¬ sl ≤ 0) → (¬ (Op.cmpValue (FP.dcmp (FP.dsub lv 13826050856027422720) 4602678819172646912) .l) < 0) → n_X3_area si) ∧
  (((Op.cmpValue (FP.dcmp p1 13826050856027422720) .l) ≤ 0) → (¬ sl ≤ 0) → (¬ (Op.cmpValue (FP.dcmp (FP.dsub lv 13826050856027422720) 4602678819172646912) .l) < 0) → vf_n64 (FP.ddiv (FP.dmul (FP.dmul (FP.i2d sl) (FP.dsub lv 13826050856027422720)) 4598175219545276416) (f_X3_area si))) ∧
  (((Op.cmpValue (FP.dcmp p1 13826050856027422720) .l) ≤ 0) → (¬ sl ≤ 0) → (¬ (Op.cmpValue (FP.dcmp (FP.dsub lv 13826050856027422720) 4602678819172646912) .l) < 0) → vf_n64 (FP.dsub lv (FP.ddiv (FP.dmul (FP.dmul (FP.i2d sl) (FP.dsub lv 13826050856027422720)) 4598175219545276416) (f_X3_area si)))) ∧
  (((Op.cmpValue (FP.dcmp p1 13826050856027422720) .l) ≤ 0) → (¬ sl ≤ 0) → (¬ (Op.cmpValue (FP.dcmp (FP.dsub lv 13826050856027422720) 4602678819172646912) .l) < 0) → vf_n64 (FP.dmul (FP.dmul (FP.dmul (FP.i2d sl) (FP.dsub lv 13826050856027422720)) 4598175219545276416) (FP.dsub lv 13826050856027422720))) ∧
  ((¬ (Op.cmpValue (FP.dcmp p1 13826050856027422720) .l) ≤ 0) → vf_n64 (FP.dsub lv p1)) ∧
  ((¬ (Op.cmpValue (FP.dcmp p1 13826050856027422720) .l) ≤ 0) → (¬ sl ≤ 0) → (¬ (Op.cmpValue (FP.dcmp (FP.dsub lv p1) 4602678819172646912) .l) < 0) → vf_n64 (FP.dmul (FP.i2d sl) (FP.dsub lv p1))) ∧
  ((¬ (Op.cmpValue (FP.dcmp p1 13826050856027422720) .l) ≤ 0) → (¬ sl ≤ 0) → (¬ (Op.cmpValue (FP.dcmp (FP.dsub lv p1) 4602678819172646912) .l) < 0) → vf_n64 (FP.dmul (FP.dmul (FP.i2d sl) (FP.dsub lv p1)) 4598175219545276416)) ∧
  ((¬ (Op.cmpValue (FP.dcmp p1 13826050856027422720) .l) ≤ 0) → (¬ sl ≤ 0) → (¬ (Op.cmpValue (FP.dcmp (FP.dsub lv p1) 4602678819172646912) .l) < 0) → n_X3_area si) ∧
  ((¬ (Op.cmpValue (FP.dcmp p1 13826050856027422720) .l) ≤ 0) → (¬ sl ≤ 0) → (¬ (Op.cmpValue (FP.dcmp (FP.dsub lv p1) 4602678819172646912) .l) < 0) → vf_n64 (FP.ddiv (FP.dmul (FP.dmul (FP.i2d sl) (FP.dsub lv p1)) 4598175219545276416) (f_X3_area si))) ∧
  ((¬ (Op.cmpValue (FP.dcmp p1 13826050856027422720) .l) ≤ 0) → (¬ sl ≤ 0) → (¬ (Op.cmpValue (FP.dcmp (FP.dsub lv p1) 4602678819172646912) .l) < 0) → vf_n64 (FP.dsub lv (FP.ddiv (FP.dmul (FP.dmul (FP.i2d sl) (FP.dsub lv p1)) 4598175219545276416) (f_X3_area si)))) ∧
  ((¬ (Op.cmpValue (FP.dcmp p1 13826050856027422720) .l) ≤ 0) → (¬ sl ≤ 0) → (¬ (Op.cmpValue (FP.dcmp (FP.dsub lv p1) 4602678819172646912) .l) < 0) → vf_n64 (FP.dmul (FP.dmul (FP.dmul (FP.i2d sl) (FP.dsub lv p1)) 4598175219545276416) (FP.dsub lv p1)))
def f_X3_scourOut (lv : UInt64) (si : UInt32) (sc : Int32) (p1 : UInt64) : UInt64 × UInt32 :=
  if sc = 0 then (lv, si) else (if (Op.cmpValue (FP.dcmp (FP.dsub lv p1) FP.dconst1) .l) < 0 then (lv, si) else (if 0 ≤ (Op.cmpValue (FP.fcmp (FP.fsub si 1040187392) FP.fconst0) .g) then (FP.dsub lv 4598175219545276416, FP.fsub si 1040187392) else (FP.dsub lv 4598175219545276416, FP.fconst0)))
def n_X3_scourOut (lv : UInt64) (si : UInt32) (sc : Int32) (p1 : UInt64) : Prop :=
  ((¬ sc = 0) → vf_n64 (FP.dsub lv p1)) ∧
  ((¬ sc = 0) → (¬ (Op.cmpValue (FP.dcmp (FP.dsub lv p1) FP.dconst1) .l) < 0) → vf_n64 (FP.dsub lv 4598175219545276416)) ∧
  ((¬ sc = 0) → (¬ (Op.cmpValue (FP.dcmp (FP.dsub lv p1) FP.dconst1) .l) < 0) → vf_n32 (FP.fsub si 1040187392))
def f_X3_goBy (lv : UInt64) (si : UInt32) (ga : Int32) (sl : Int32) (sc : Int32) (p1 : UInt64) : UInt64 × UInt32 × UInt64 :=
  (match f_X3_fill lv si ga p1 with | (u_3, u_4) => (match f_X3_turnWheel u_3 u_4 sl p1 with | (u_7, u_8) => (match f_X3_scourOut u_7 u_4 sc p1 with | (u_11, u_12) => (u_11, u_12, u_8))))
def n_X3_goBy (lv : UInt64) (si : UInt32) (ga : Int32) (sl : Int32) (sc : Int32) (p1 : UInt64) : Prop :=
  (n_X3_fill lv si ga p1) ∧
  (∀ (u_3 : UInt64) (u_4 : UInt32), (u_3, u_4) = f_X3_fill lv si ga p1 → n_X3_turnWheel u_3 u_4 sl p1) ∧
  (∀ (u_3 : UInt64) (u_4 : UInt32), (u_3, u_4) = f_X3_fill lv si ga p1 → ∀ (u_7 : UInt64) (u_8 : UInt64), (u_7, u_8) = f_X3_turnWheel u_3 u_4 sl p1 → n_X3_scourOut u_7 u_4 sc p1)
def f_X5_paceOf (p1 : Int32) : UInt64 :=
  if p1 = 0 then 4616189618054758400 else (if p1 = 1 then 4613937818241073152 else 4617315517961601024)
def f_X5_hardnessOf (p1 : Int32) : UInt32 :=
  if p1 = 1 then FP.fconst2 else FP.fconst1
def f_X5_priceOf (p1 : Int32) : Int32 :=
  if p1 = 0 then 3 else (if p1 = 1 then 2 else 1)
def f_X5_isWithin (p1 : Int32) (p2 : Int32) (p3 : Int32) : Int32 :=
  if p1 < p2 then 0 else (if p3 < p1 then 0 else 1)
def f_X5_roundedUp (p1 : UInt64) : Int32 :=
  if 0 ≤ (Op.cmpValue (FP.dcmp (FP.i2d (FP.d2i p1)) p1) .g) then (FP.d2i p1) else ((FP.d2i p1) + 1)
def f_X5_joined (p1 : Int64) (p2 : Int64) : Int64 :=
  (p1 * 31) + p2
def f_X5_cutOf1024 (p1 : UInt64) : Int64 :=
  FP.d2l (FP.dmul 4652218415073722368 p1)
def n_X5_cutOf1024 (p1 : UInt64) : Prop :=
  (vf_n64 (FP.dmul 4652218415073722368 p1))
def f_X0_has (ln : Int32) (p1 : Int32) : Int32 :=
  if p1 < 0 then 0 else (if ln ≤ p1 then 0 else 1)
def f_X0_bring (ln : Int32) (ow : Nat → Int32) (gr : Nat → Int32) (we : Nat → Int32) (du : Nat → Int32) (sa : Nat → Int32) (le : Nat → UInt64) (p1 : Int32) (p2 : Int32) (p3 : Int32) (p4 : Int32) : Int32 × Int32 × (Nat → Int32) × (Nat → Int32) × (Nat → Int32) × (Nat → Int32) × (Nat → Int32) × (Nat → UInt64) :=
  (ln, ln + 1, upd ow ln.toNatClampNeg p1, upd gr ln.toNatClampNeg p2, upd we ln.toNatClampNeg p3, upd du ln.toNatClampNeg p4, upd sa ln.toNatClampNeg 0, vf_upd le ln.toNatClampNeg (FP.i2d p3))
def n_X0_bring (ln : Int32) : Prop :=
  (vp_in ln 10)
def f_X0_grind (gr : Nat → Int32) (sa : Nat → Int32) (le : Nat → UInt64) (p1 : Int32) (p2 : UInt64) : (Nat → Int32) × (Nat → UInt64) :=
  if 0 ≤ (Op.cmpValue (FP.dcmp (FP.dsub (le p1.toNatClampNeg) (FP.dmul p2 (f_X5_paceOf (gr p1.toNatClampNeg)))) FP.dconst0) .g) then (if (Op.cmpValue (FP.dcmp ((vf_upd le p1.toNatClampNeg (FP.dsub (le p1.toNatClampNeg) (FP.dmul p2 (f_X5_paceOf (gr p1.toNatClampNeg))))) p1.toNatClampNeg) FP.dconst0) .l) = 0 then (upd sa p1.toNatClampNeg 2, vf_upd le p1.toNatClampNeg (FP.dsub (le p1.toNatClampNeg) (FP.dmul p2 (f_X5_paceOf (gr p1.toNatClampNeg))))) else (sa, vf_upd le p1.toNatClampNeg (FP.dsub (le p1.toNatClampNeg) (FP.dmul p2 (f_X5_paceOf (gr p1.toNatClampNeg)))))) else (if (Op.cmpValue (FP.dcmp ((vf_upd le p1.toNatClampNeg FP.dconst0) p1.toNatClampNeg) FP.dconst0) .l) = 0 then (upd sa p1.toNatClampNeg 2, vf_upd le p1.toNatClampNeg FP.dconst0) else (sa, vf_upd le p1.toNatClampNeg FP.dconst0))
def n_X0_grind (gr : Nat → Int32) (le : Nat → UInt64) (p1 : Int32) (p2 : UInt64) : Prop :=
  (vp_in p1 10) ∧
  (vf_n64 (FP.dmul p2 (f_X5_paceOf (gr p1.toNatClampNeg)))) ∧
  (vf_n64 (FP.dsub (le p1.toNatClampNeg) (FP.dmul p2 (f_X5_paceOf (gr p1.toNatClampNeg)))))
def f_X2_has (pn : Int32) (p1 : Int32) : Int32 :=
  if p1 < 0 then 0 else (if pn ≤ p1 then 0 else 1)
def f_X2_isFree (pl : Nat → Int32) (dr : Nat → Int32) (p1 : Int32) : Int32 :=
  if (pl p1.toNatClampNeg) = (-1) then (if (dr p1.toNatClampNeg) = 0 then 1 else 0) else 0
def n_X2_isFree (p1 : Int32) : Prop :=
  (vp_in p1 3)
def f_X2_lay (pn : Int32) (pl : Nat → Int32) : Int32 × Int32 × (Nat → Int32) :=
  (pn, pn + 1, upd pl pn.toNatClampNeg (-1))
def n_X2_lay (pn : Int32) : Prop :=
  (vp_in pn 3)
def f_X2_dressOn (dl : Nat → UInt32) (dr : Nat → Int32) (p1 : Int32) : (Nat → UInt32) × (Nat → Int32) :=
  if ((upd dr p1.toNatClampNeg ((dr p1.toNatClampNeg) - 1)) p1.toNatClampNeg) = 0 then (vf_upd dl p1.toNatClampNeg FP.fconst0, upd dr p1.toNatClampNeg ((dr p1.toNatClampNeg) - 1)) else (dl, upd dr p1.toNatClampNeg ((dr p1.toNatClampNeg) - 1))
def n_X2_dressOn (p1 : Int32) : Prop :=
  (vp_in p1 3)
def f_X2_blunt (dl : Nat → UInt32) (p1 : Int32) (p2 : UInt32) : (Nat → UInt32) :=
  if (Op.cmpValue (FP.fcmp (FP.fadd (dl p1.toNatClampNeg) p2) FP.fconst1) .l) ≤ 0 then (vf_upd dl p1.toNatClampNeg (FP.fadd (dl p1.toNatClampNeg) p2)) else (vf_upd dl p1.toNatClampNeg FP.fconst1)
def n_X2_blunt (dl : Nat → UInt32) (p1 : Int32) (p2 : UInt32) : Prop :=
  (vp_in p1 3) ∧
  (vf_n32 (FP.fadd (dl p1.toNatClampNeg) p2))
def f_X2_grind (dl : Nat → UInt32) (pl : Nat → Int32) (gr : Nat → Int32) (sa : Nat → Int32) (le : Nat → UInt64) (p1 : Int32) (p2 : UInt64) : UInt64 × (Nat → UInt32) × (Nat → Int32) × (Nat → Int32) × (Nat → UInt64) :=
  if 0 ≤ (Op.cmpValue (FP.dcmp (FP.dadd FP.dconst1 (FP.f2d (dl p1.toNatClampNeg))) p2) .g) then (match f_X0_grind gr sa le (pl p1.toNatClampNeg) (FP.ddiv p2 (FP.dadd FP.dconst1 (FP.f2d (dl p1.toNatClampNeg)))) with | (u_8, u_9) => if (u_8 (pl p1.toNatClampNeg).toNatClampNeg) = 2 then (p2, f_X2_blunt dl p1 (FP.fdiv (FP.fmul (FP.d2f (FP.ddiv p2 (FP.dadd FP.dconst1 (FP.f2d (dl p1.toNatClampNeg))))) (f_X5_hardnessOf (gr (pl p1.toNatClampNeg).toNatClampNeg))) 1115684864), upd pl p1.toNatClampNeg (-1), u_8, u_9) else (p2, f_X2_blunt dl p1 (FP.fdiv (FP.fmul (FP.d2f (FP.ddiv p2 (FP.dadd FP.dconst1 (FP.f2d (dl p1.toNatClampNeg))))) (f_X5_hardnessOf (gr (pl p1.toNatClampNeg).toNatClampNeg))) 1115684864), pl, u_8, u_9)) else (match f_X0_grind gr sa le (pl p1.toNatClampNeg) (FP.ddiv (FP.dadd FP.dconst1 (FP.f2d (dl p1.toNatClampNeg))) (FP.dadd FP.dconst1 (FP.f2d (dl p1.toNatClampNeg)))) with | (u_22, u_23) => if (u_22 (pl p1.toNatClampNeg).toNatClampNeg) = 2 then (FP.dadd FP.dconst1 (FP.f2d (dl p1.toNatClampNeg)), f_X2_blunt dl p1 (FP.fdiv (FP.fmul (FP.d2f (FP.ddiv (FP.dadd FP.dconst1 (FP.f2d (dl p1.toNatClampNeg))) (FP.dadd FP.dconst1 (FP.f2d (dl p1.toNatClampNeg))))) (f_X5_hardnessOf (gr (pl p1.toNatClampNeg).toNatClampNeg))) 1115684864), upd pl p1.toNatClampNeg (-1), u_22, u_23) else (FP.dadd FP.dconst1 (FP.f2d (dl p1.toNatClampNeg)), f_X2_blunt dl p1 (FP.fdiv (FP.fmul (FP.d2f (FP.ddiv (FP.dadd FP.dconst1 (FP.f2d (dl p1.toNatClampNeg))) (FP.dadd FP.dconst1 (FP.f2d (dl p1.toNatClampNeg))))) (f_X5_hardnessOf (gr (pl p1.toNatClampNeg).toNatClampNeg))) 1115684864), pl, u_22, u_23))
def n_X2_grind (dl : Nat → UInt32) (pl : Nat → Int32) (gr : Nat → Int32) (sa : Nat → Int32) (le : Nat → UInt64) (p1 : Int32) (p2 : UInt64) : Prop :=
  (vp_in p1 3) ∧
  (vf_n64 (FP.f2d (dl p1.toNatClampNeg))) ∧
  (vf_n64 (FP.dadd FP.dconst1 (FP.f2d (dl p1.toNatClampNeg)))) ∧
  ((0 ≤ (Op.cmpValue (FP.dcmp (FP.dadd FP.dconst1 (FP.f2d (dl p1.toNatClampNeg))) p2) .g)) → vf_n64 (FP.ddiv p2 (FP.dadd FP.dconst1 (FP.f2d (dl p1.toNatClampNeg))))) ∧
  ((0 ≤ (Op.cmpValue (FP.dcmp (FP.dadd FP.dconst1 (FP.f2d (dl p1.toNatClampNeg))) p2) .g)) → n_X0_grind gr le (pl p1.toNatClampNeg) (FP.ddiv p2 (FP.dadd FP.dconst1 (FP.f2d (dl p1.toNatClampNeg))))) ∧
  ((0 ≤ (Op.cmpValue (FP.dcmp (FP.dadd FP.dconst1 (FP.f2d (dl p1.toNatClampNeg))) p2) .g)) → ∀ (u_8 : Nat → Int32) (u_9 : Nat → UInt64), (u_8, u_9) = f_X0_grind gr sa le (pl p1.toNatClampNeg) (FP.ddiv p2 (FP.dadd FP.dconst1 (FP.f2d (dl p1.toNatClampNeg)))) → vf_n32 (FP.d2f (FP.ddiv p2 (FP.dadd FP.dconst1 (FP.f2d (dl p1.toNatClampNeg)))))) ∧
  ((0 ≤ (Op.cmpValue (FP.dcmp (FP.dadd FP.dconst1 (FP.f2d (dl p1.toNatClampNeg))) p2) .g)) → ∀ (u_8 : Nat → Int32) (u_9 : Nat → UInt64), (u_8, u_9) = f_X0_grind gr sa le (pl p1.toNatClampNeg) (FP.ddiv p2 (FP.dadd FP.dconst1 (FP.f2d (dl p1.toNatClampNeg)))) → vp_in (pl p1.toNatClampNeg) 10) ∧
  ((0 ≤ (Op.cmpValue (FP.dcmp (FP.dadd FP.dconst1 (FP.f2d (dl p1.toNatClampNeg))) p2) .g)) → ∀ (u_8 : Nat → Int32) (u_9 : Nat → UInt64), (u_8, u_9) = f_X0_grind gr sa le (pl p1.toNatClampNeg) (FP.ddiv p2 (FP.dadd FP.dconst1 (FP.f2d (dl p1.toNatClampNeg)))) → vf_n32 (FP.fmul (FP.d2f (FP.ddiv p2 (FP.dadd FP.dconst1 (FP.f2d (dl p1.toNatClampNeg))))) (f_X5_hardnessOf (gr (pl p1.toNatClampNeg).toNatClampNeg)))) ∧
  ((0 ≤ (Op.cmpValue (FP.dcmp (FP.dadd FP.dconst1 (FP.f2d (dl p1.toNatClampNeg))) p2) .g)) → ∀ (u_8 : Nat → Int32) (u_9 : Nat → UInt64), (u_8, u_9) = f_X0_grind gr sa le (pl p1.toNatClampNeg) (FP.ddiv p2 (FP.dadd FP.dconst1 (FP.f2d (dl p1.toNatClampNeg)))) → vf_n32 (FP.fdiv (FP.fmul (FP.d2f (FP.ddiv p2 (FP.dadd FP.dconst1 (FP.f2d (dl p1.toNatClampNeg))))) (f_X5_hardnessOf (gr (pl p1.toNatClampNeg).toNatClampNeg))) 1115684864)) ∧
  ((0 ≤ (Op.cmpValue (FP.dcmp (FP.dadd FP.dconst1 (FP.f2d (dl p1.toNatClampNeg))) p2) .g)) → ∀ (u_8 : Nat → Int32) (u_9 : Nat → UInt64), (u_8, u_9) = f_X0_grind gr sa le (pl p1.toNatClampNeg) (FP.ddiv p2 (FP.dadd FP.dconst1 (FP.f2d (dl p1.toNatClampNeg)))) → n_X2_blunt dl p1 (FP.fdiv (FP.fmul (FP.d2f (FP.ddiv p2 (FP.dadd FP.dconst1 (FP.f2d (dl p1.toNatClampNeg))))) (f_X5_hardnessOf (gr (pl p1.toNatClampNeg).toNatClampNeg))) 1115684864)) ∧
  ((¬ 0 ≤ (Op.cmpValue (FP.dcmp (FP.dadd FP.dconst1 (FP.f2d (dl p1.toNatClampNeg))) p2) .g)) → vf_n64 (FP.ddiv (FP.dadd FP.dconst1 (FP.f2d (dl p1.toNatClampNeg))) (FP.dadd FP.dconst1 (FP.f2d (dl p1.toNatClampNeg))))) ∧
  ((¬ 0 ≤ (Op.cmpValue (FP.dcmp (FP.dadd FP.dconst1 (FP.f2d (dl p1.toNatClampNeg))) p2) .g)) → n_X0_grind gr le (pl p1.toNatClampNeg) (FP.ddiv (FP.dadd FP.dconst1 (FP.f2d (dl p1.toNatClampNeg))) (FP.dadd FP.dconst1 (FP.f2d (dl p1.toNatClampNeg))))) ∧
  ((¬ 0 ≤ (Op.cmpValue (FP.dcmp (FP.dadd FP.dconst1 (FP.f2d (dl p1.toNatClampNeg))) p2) .g)) → ∀ (u_22 : Nat → Int32) (u_23 : Nat → UInt64), (u_22, u_23) = f_X0_grind gr sa le (pl p1.toNatClampNeg) (FP.ddiv (FP.dadd FP.dconst1 (FP.f2d (dl p1.toNatClampNeg))) (FP.dadd FP.dconst1 (FP.f2d (dl p1.toNatClampNeg)))) → vf_n32 (FP.d2f (FP.ddiv (FP.dadd FP.dconst1 (FP.f2d (dl p1.toNatClampNeg))) (FP.dadd FP.dconst1 (FP.f2d (dl p1.toNatClampNeg)))))) ∧
  ((¬ 0 ≤ (Op.cmpValue (FP.dcmp (FP.dadd FP.dconst1 (FP.f2d (dl p1.toNatClampNeg))) p2) .g)) → ∀ (u_22 : Nat → Int32) (u_23 : Nat → UInt64), (u_22, u_23) = f_X0_grind gr sa le (pl p1.toNatClampNeg) (FP.ddiv (FP.dadd FP.dconst1 (FP.f2d (dl p1.toNatClampNeg))) (FP.dadd FP.dconst1 (FP.f2d (dl p1.toNatClampNeg)))) → vp_in (pl p1.toNatClampNeg) 10) ∧
  ((¬ 0 ≤ (Op.cmpValue (FP.dcmp (FP.dadd FP.dconst1 (FP.f2d (dl p1.toNatClampNeg))) p2) .g)) → ∀ (u_22 : Nat → Int32) (u_23 : Nat → UInt64), (u_22, u_23) = f_X0_grind gr sa le (pl p1.toNatClampNeg) (FP.ddiv (FP.dadd FP.dconst1 (FP.f2d (dl p1.toNatClampNeg))) (FP.dadd FP.dconst1 (FP.f2d (dl p1.toNatClampNeg)))) → vf_n32 (FP.fmul (FP.d2f (FP.ddiv (FP.dadd FP.dconst1 (FP.f2d (dl p1.toNatClampNeg))) (FP.dadd FP.dconst1 (FP.f2d (dl p1.toNatClampNeg))))) (f_X5_hardnessOf (gr (pl p1.toNatClampNeg).toNatClampNeg)))) ∧
  ((¬ 0 ≤ (Op.cmpValue (FP.dcmp (FP.dadd FP.dconst1 (FP.f2d (dl p1.toNatClampNeg))) p2) .g)) → ∀ (u_22 : Nat → Int32) (u_23 : Nat → UInt64), (u_22, u_23) = f_X0_grind gr sa le (pl p1.toNatClampNeg) (FP.ddiv (FP.dadd FP.dconst1 (FP.f2d (dl p1.toNatClampNeg))) (FP.dadd FP.dconst1 (FP.f2d (dl p1.toNatClampNeg)))) → vf_n32 (FP.fdiv (FP.fmul (FP.d2f (FP.ddiv (FP.dadd FP.dconst1 (FP.f2d (dl p1.toNatClampNeg))) (FP.dadd FP.dconst1 (FP.f2d (dl p1.toNatClampNeg))))) (f_X5_hardnessOf (gr (pl p1.toNatClampNeg).toNatClampNeg))) 1115684864)) ∧
  ((¬ 0 ≤ (Op.cmpValue (FP.dcmp (FP.dadd FP.dconst1 (FP.f2d (dl p1.toNatClampNeg))) p2) .g)) → ∀ (u_22 : Nat → Int32) (u_23 : Nat → UInt64), (u_22, u_23) = f_X0_grind gr sa le (pl p1.toNatClampNeg) (FP.ddiv (FP.dadd FP.dconst1 (FP.f2d (dl p1.toNatClampNeg))) (FP.dadd FP.dconst1 (FP.f2d (dl p1.toNatClampNeg)))) → n_X2_blunt dl p1 (FP.fdiv (FP.fmul (FP.d2f (FP.ddiv (FP.dadd FP.dconst1 (FP.f2d (dl p1.toNatClampNeg))) (FP.dadd FP.dconst1 (FP.f2d (dl p1.toNatClampNeg))))) (f_X5_hardnessOf (gr (pl p1.toNatClampNeg).toNatClampNeg))) 1115684864))
def f_X2_spark (dl : Nat → UInt32) (sp : Nat → Int32) (p1 : Int32) : (Nat → UInt32) × (Nat → Int32) :=
  (f_X2_blunt dl p1 1040187392, upd sp p1.toNatClampNeg ((sp p1.toNatClampNeg) + 1))
def n_X2_spark (dl : Nat → UInt32) (p1 : Int32) : Prop :=
  (vp_in p1 3) ∧
  (n_X2_blunt dl p1 1040187392)
def f_X0_countOf_4 (ln : Int32) (sa : Nat → Int32) (p1 : Int32) : Nat → Int32 → Int32 → Int32
  | 0, x4_0, x4_1 => 0
  | fuel + 1, x4_0, x4_1 => if ln ≤ x4_1 then x4_0 else (if (sa x4_1.toNatClampNeg) = p1 then (f_X0_countOf_4 ln sa p1 fuel (x4_0 + 1) (x4_1 + 1)) else (f_X0_countOf_4 ln sa p1 fuel x4_0 (x4_1 + 1)))
def n_X0_countOf_4 (ln : Int32) (sa : Nat → Int32) (p1 : Int32) : Nat → Int32 → Int32 → Prop
  | 0, x4_0, x4_1 => False
  | fuel + 1, x4_0, x4_1 => ((¬ ln ≤ x4_1) → vp_in x4_1 10) ∧
  ((¬ ln ≤ x4_1) → (¬ (sa x4_1.toNatClampNeg) = p1) → n_X0_countOf_4 ln sa p1 fuel x4_0 (x4_1 + 1)) ∧
  ((¬ ln ≤ x4_1) → ((sa x4_1.toNatClampNeg) = p1) → n_X0_countOf_4 ln sa p1 fuel (x4_0 + 1) (x4_1 + 1))
def f_X0_countOf (ln : Int32) (sa : Nat → Int32) (p1 : Int32) : Int32 :=
  f_X0_countOf_4 ln sa p1 12 0 0
def n_X0_countOf (ln : Int32) (sa : Nat → Int32) (p1 : Int32) : Prop :=
  (n_X0_countOf_4 ln sa p1 12 0 0)
def f_X0_weightOf_5 (ln : Int32) (ow : Nat → Int32) (we : Nat → Int32) (sa : Nat → Int32) (p1 : Int32) (p2 : Int32) : Nat → Int32 → Int32 → Int32
  | 0, x5_0, x5_1 => 0
  | fuel + 1, x5_0, x5_1 => if ln ≤ x5_1 then x5_0 else (if (ow x5_1.toNatClampNeg) = p1 then (if p2 = 0 then (if (sa x5_1.toNatClampNeg) = 3 then (f_X0_weightOf_5 ln ow we sa p1 p2 fuel x5_0 (x5_1 + 1)) else (f_X0_weightOf_5 ln ow we sa p1 p2 fuel (x5_0 + (we x5_1.toNatClampNeg)) (x5_1 + 1))) else (f_X0_weightOf_5 ln ow we sa p1 p2 fuel (x5_0 + (we x5_1.toNatClampNeg)) (x5_1 + 1))) else (f_X0_weightOf_5 ln ow we sa p1 p2 fuel x5_0 (x5_1 + 1)))
def n_X0_weightOf_5 (ln : Int32) (ow : Nat → Int32) (we : Nat → Int32) (sa : Nat → Int32) (p1 : Int32) (p2 : Int32) : Nat → Int32 → Int32 → Prop
  | 0, x5_0, x5_1 => False
  | fuel + 1, x5_0, x5_1 => ((¬ ln ≤ x5_1) → vp_in x5_1 10) ∧
  ((¬ ln ≤ x5_1) → (¬ (ow x5_1.toNatClampNeg) = p1) → n_X0_weightOf_5 ln ow we sa p1 p2 fuel x5_0 (x5_1 + 1)) ∧
  ((¬ ln ≤ x5_1) → ((ow x5_1.toNatClampNeg) = p1) → (¬ p2 = 0) → n_X0_weightOf_5 ln ow we sa p1 p2 fuel (x5_0 + (we x5_1.toNatClampNeg)) (x5_1 + 1)) ∧
  ((¬ ln ≤ x5_1) → ((ow x5_1.toNatClampNeg) = p1) → (p2 = 0) → ((sa x5_1.toNatClampNeg) = 3) → n_X0_weightOf_5 ln ow we sa p1 p2 fuel x5_0 (x5_1 + 1)) ∧
  ((¬ ln ≤ x5_1) → ((ow x5_1.toNatClampNeg) = p1) → (p2 = 0) → (¬ (sa x5_1.toNatClampNeg) = 3) → n_X0_weightOf_5 ln ow we sa p1 p2 fuel (x5_0 + (we x5_1.toNatClampNeg)) (x5_1 + 1))
def f_X0_weightOf (ln : Int32) (ow : Nat → Int32) (we : Nat → Int32) (sa : Nat → Int32) (p1 : Int32) (p2 : Int32) : Int32 :=
  f_X0_weightOf_5 ln ow we sa p1 p2 12 0 0
def n_X0_weightOf (ln : Int32) (ow : Nat → Int32) (we : Nat → Int32) (sa : Nat → Int32) (p1 : Int32) (p2 : Int32) : Prop :=
  (n_X0_weightOf_5 ln ow we sa p1 p2 12 0 0)
def f_X0_allLeft_4 (ln : Int32) (le : Nat → UInt64) : Nat → UInt64 → Int32 → UInt64
  | 0, x4_0, x4_1 => 0
  | fuel + 1, x4_0, x4_1 => if ln ≤ x4_1 then x4_0 else (f_X0_allLeft_4 ln le fuel (FP.dadd x4_0 (le x4_1.toNatClampNeg)) (x4_1 + 1))
def n_X0_allLeft_4 (ln : Int32) (le : Nat → UInt64) : Nat → UInt64 → Int32 → Prop
  | 0, x4_0, x4_1 => False
  | fuel + 1, x4_0, x4_1 => ((¬ ln ≤ x4_1) → vp_in x4_1 10) ∧
  ((¬ ln ≤ x4_1) → vf_n64 (FP.dadd x4_0 (le x4_1.toNatClampNeg))) ∧
  ((¬ ln ≤ x4_1) → n_X0_allLeft_4 ln le fuel (FP.dadd x4_0 (le x4_1.toNatClampNeg)) (x4_1 + 1))
def f_X0_allLeft (ln : Int32) (le : Nat → UInt64) : UInt64 :=
  f_X0_allLeft_4 ln le 12 FP.dconst0 0
def n_X0_allLeft (ln : Int32) (le : Nat → UInt64) : Prop :=
  (n_X0_allLeft_4 ln le 12 FP.dconst0 0)
def f_X2_withLot_2 (pn : Int32) (pl : Nat → Int32) (p1 : Int32) : Nat → Int32 → Int32
  | 0, x2_0 => 0
  | fuel + 1, x2_0 => if pn ≤ x2_0 then (-1) else (if (pl x2_0.toNatClampNeg) = p1 then x2_0 else (f_X2_withLot_2 pn pl p1 fuel (x2_0 + 1)))
def n_X2_withLot_2 (pn : Int32) (pl : Nat → Int32) (p1 : Int32) : Nat → Int32 → Prop
  | 0, x2_0 => False
  | fuel + 1, x2_0 => ((¬ pn ≤ x2_0) → vp_in x2_0 3) ∧
  ((¬ pn ≤ x2_0) → (¬ (pl x2_0.toNatClampNeg) = p1) → n_X2_withLot_2 pn pl p1 fuel (x2_0 + 1))
def f_X2_withLot (pn : Int32) (pl : Nat → Int32) (p1 : Int32) : Int32 :=
  f_X2_withLot_2 pn pl p1 5 0
def n_X2_withLot (pn : Int32) (pl : Nat → Int32) (p1 : Int32) : Prop :=
  (n_X2_withLot_2 pn pl p1 5 0)
def f_X2_allSparks_4 (pn : Int32) (sp : Nat → Int32) : Nat → Int32 → Int32 → Int32
  | 0, x4_0, x4_1 => 0
  | fuel + 1, x4_0, x4_1 => if pn ≤ x4_1 then x4_0 else (f_X2_allSparks_4 pn sp fuel (x4_0 + (sp x4_1.toNatClampNeg)) (x4_1 + 1))
def n_X2_allSparks_4 (pn : Int32) (sp : Nat → Int32) : Nat → Int32 → Int32 → Prop
  | 0, x4_0, x4_1 => False
  | fuel + 1, x4_0, x4_1 => ((¬ pn ≤ x4_1) → vp_in x4_1 3) ∧
  ((¬ pn ≤ x4_1) → n_X2_allSparks_4 pn sp fuel (x4_0 + (sp x4_1.toNatClampNeg)) (x4_1 + 1))
def f_X2_allSparks (pn : Int32) (sp : Nat → Int32) : Int32 :=
  f_X2_allSparks_4 pn sp 5 0 0
def n_X2_allSparks (pn : Int32) (sp : Nat → Int32) : Prop :=
  (n_X2_allSparks_4 pn sp 5 0 0)
def f_X2_goBy_6 (pn : Int32) (ln : Int32) (gr : Nat → Int32) (p2 : Int32) : Nat → UInt64 → Int32 → (Nat → Int32) → (Nat → UInt64) → (Nat → UInt32) → (Nat → Int32) → (Nat → Int32) → (Nat → Int32) → (Nat → UInt32) × (Nat → Int32) × (Nat → Int32) × (Nat → Int32) × (Nat → Int32) × (Nat → UInt64)
  | 0, x6_0, x6_1, x6_2, x6_3, x6_4, x6_5, x6_6, x6_7 => (x6_4, x6_5, x6_6, x6_7, x6_2, x6_3)
  | fuel + 1, x6_0, x6_1, x6_2, x6_3, x6_4, x6_5, x6_6, x6_7 => if pn ≤ x6_1 then (x6_4, x6_5, x6_6, x6_7, x6_2, x6_3) else (if (x6_6 x6_1.toNatClampNeg) ≤ 0 then (if p2 = 0 then (if p2 = 0 then (f_X2_goBy_6 pn ln gr p2 fuel x6_0 (x6_1 + 1) x6_2 x6_3 x6_4 x6_5 x6_6 x6_7) else (if (Op.cmpValue (FP.dcmp x6_0 FP.dconst1) .l) ≤ 0 then (f_X2_goBy_6 pn ln gr p2 fuel x6_0 (x6_1 + 1) x6_2 x6_3 x6_4 x6_5 x6_6 x6_7) else (match f_X2_spark x6_4 x6_7 x6_1 with | (u_11, u_12) => f_X2_goBy_6 pn ln gr p2 fuel (FP.dsub x6_0 FP.dconst1) (x6_1 + 1) x6_2 x6_3 u_11 x6_5 x6_6 u_12))) else (if (f_X0_has ln (x6_5 x6_1.toNatClampNeg)) = 0 then (if p2 = 0 then (f_X2_goBy_6 pn ln gr p2 fuel x6_0 (x6_1 + 1) x6_2 x6_3 x6_4 x6_5 x6_6 x6_7) else (if (Op.cmpValue (FP.dcmp x6_0 FP.dconst1) .l) ≤ 0 then (f_X2_goBy_6 pn ln gr p2 fuel x6_0 (x6_1 + 1) x6_2 x6_3 x6_4 x6_5 x6_6 x6_7) else (match f_X2_spark x6_4 x6_7 x6_1 with | (u_23, u_24) => f_X2_goBy_6 pn ln gr p2 fuel (FP.dsub x6_0 FP.dconst1) (x6_1 + 1) x6_2 x6_3 u_23 x6_5 x6_6 u_24))) else (match f_X2_grind x6_4 x6_5 gr x6_2 x6_3 x6_1 x6_0 with | (r_28, u_29, u_30, u_31, u_32) => f_X2_goBy_6 pn ln gr p2 fuel (FP.dsub x6_0 r_28) (x6_1 + 1) u_31 u_32 u_29 u_30 x6_6 x6_7))) else (match f_X2_dressOn x6_4 x6_6 x6_1 with | (u_37, u_38) => f_X2_goBy_6 pn ln gr p2 fuel x6_0 (x6_1 + 1) x6_2 x6_3 u_37 x6_5 u_38 x6_7))
def n_X2_goBy_6 (pn : Int32) (ln : Int32) (gr : Nat → Int32) (p2 : Int32) : Nat → UInt64 → Int32 → (Nat → Int32) → (Nat → UInt64) → (Nat → UInt32) → (Nat → Int32) → (Nat → Int32) → (Nat → Int32) → Prop
  | 0, x6_0, x6_1, x6_2, x6_3, x6_4, x6_5, x6_6, x6_7 => False
  | fuel + 1, x6_0, x6_1, x6_2, x6_3, x6_4, x6_5, x6_6, x6_7 => ((¬ pn ≤ x6_1) → vp_in x6_1 3) ∧
  ((¬ pn ≤ x6_1) → ((x6_6 x6_1.toNatClampNeg) ≤ 0) → (p2 = 0) → (p2 = 0) → n_X2_goBy_6 pn ln gr p2 fuel x6_0 (x6_1 + 1) x6_2 x6_3 x6_4 x6_5 x6_6 x6_7) ∧
  ((¬ pn ≤ x6_1) → ((x6_6 x6_1.toNatClampNeg) ≤ 0) → (p2 = 0) → (¬ p2 = 0) → ((Op.cmpValue (FP.dcmp x6_0 FP.dconst1) .l) ≤ 0) → n_X2_goBy_6 pn ln gr p2 fuel x6_0 (x6_1 + 1) x6_2 x6_3 x6_4 x6_5 x6_6 x6_7) ∧
  ((¬ pn ≤ x6_1) → ((x6_6 x6_1.toNatClampNeg) ≤ 0) → (p2 = 0) → (¬ p2 = 0) → (¬ (Op.cmpValue (FP.dcmp x6_0 FP.dconst1) .l) ≤ 0) → n_X2_spark x6_4 x6_1) ∧
  ((¬ pn ≤ x6_1) → ((x6_6 x6_1.toNatClampNeg) ≤ 0) → (p2 = 0) → (¬ p2 = 0) → (¬ (Op.cmpValue (FP.dcmp x6_0 FP.dconst1) .l) ≤ 0) → ∀ (u_11 : Nat → UInt32) (u_12 : Nat → Int32), (u_11, u_12) = f_X2_spark x6_4 x6_7 x6_1 → vf_n64 (FP.dsub x6_0 FP.dconst1)) ∧
  ((¬ pn ≤ x6_1) → ((x6_6 x6_1.toNatClampNeg) ≤ 0) → (p2 = 0) → (¬ p2 = 0) → (¬ (Op.cmpValue (FP.dcmp x6_0 FP.dconst1) .l) ≤ 0) → ∀ (u_11 : Nat → UInt32) (u_12 : Nat → Int32), (u_11, u_12) = f_X2_spark x6_4 x6_7 x6_1 → n_X2_goBy_6 pn ln gr p2 fuel (FP.dsub x6_0 FP.dconst1) (x6_1 + 1) x6_2 x6_3 u_11 x6_5 x6_6 u_12) ∧
  ((¬ pn ≤ x6_1) → ((x6_6 x6_1.toNatClampNeg) ≤ 0) → (¬ p2 = 0) → ((f_X0_has ln (x6_5 x6_1.toNatClampNeg)) = 0) → (p2 = 0) → n_X2_goBy_6 pn ln gr p2 fuel x6_0 (x6_1 + 1) x6_2 x6_3 x6_4 x6_5 x6_6 x6_7) ∧
  ((¬ pn ≤ x6_1) → ((x6_6 x6_1.toNatClampNeg) ≤ 0) → (¬ p2 = 0) → ((f_X0_has ln (x6_5 x6_1.toNatClampNeg)) = 0) → (¬ p2 = 0) → ((Op.cmpValue (FP.dcmp x6_0 FP.dconst1) .l) ≤ 0) → n_X2_goBy_6 pn ln gr p2 fuel x6_0 (x6_1 + 1) x6_2 x6_3 x6_4 x6_5 x6_6 x6_7) ∧
  ((¬ pn ≤ x6_1) → ((x6_6 x6_1.toNatClampNeg) ≤ 0) → (¬ p2 = 0) → ((f_X0_has ln (x6_5 x6_1.toNatClampNeg)) = 0) → (¬ p2 = 0) → (¬ (Op.cmpValue (FP.dcmp x6_0 FP.dconst1) .l) ≤ 0) → n_X2_spark x6_4 x6_1) ∧
  ((¬ pn ≤ x6_1) → ((x6_6 x6_1.toNatClampNeg) ≤ 0) → (¬ p2 = 0) → ((f_X0_has ln (x6_5 x6_1.toNatClampNeg)) = 0) → (¬ p2 = 0) → (¬ (Op.cmpValue (FP.dcmp x6_0 FP.dconst1) .l) ≤ 0) → ∀ (u_23 : Nat → UInt32) (u_24 : Nat → Int32), (u_23, u_24) = f_X2_spark x6_4 x6_7 x6_1 → vf_n64 (FP.dsub x6_0 FP.dconst1)) ∧
  ((¬ pn ≤ x6_1) → ((x6_6 x6_1.toNatClampNeg) ≤ 0) → (¬ p2 = 0) → ((f_X0_has ln (x6_5 x6_1.toNatClampNeg)) = 0) → (¬ p2 = 0) → (¬ (Op.cmpValue (FP.dcmp x6_0 FP.dconst1) .l) ≤ 0) → ∀ (u_23 : Nat → UInt32) (u_24 : Nat → Int32), (u_23, u_24) = f_X2_spark x6_4 x6_7 x6_1 → n_X2_goBy_6 pn ln gr p2 fuel (FP.dsub x6_0 FP.dconst1) (x6_1 + 1) x6_2 x6_3 u_23 x6_5 x6_6 u_24) ∧
  ((¬ pn ≤ x6_1) → ((x6_6 x6_1.toNatClampNeg) ≤ 0) → (¬ p2 = 0) → (¬ (f_X0_has ln (x6_5 x6_1.toNatClampNeg)) = 0) → n_X2_grind x6_4 x6_5 gr x6_2 x6_3 x6_1 x6_0) ∧
  ((¬ pn ≤ x6_1) → ((x6_6 x6_1.toNatClampNeg) ≤ 0) → (¬ p2 = 0) → (¬ (f_X0_has ln (x6_5 x6_1.toNatClampNeg)) = 0) → ∀ (r_28 : UInt64) (u_29 : Nat → UInt32) (u_30 : Nat → Int32) (u_31 : Nat → Int32) (u_32 : Nat → UInt64), (r_28, u_29, u_30, u_31, u_32) = f_X2_grind x6_4 x6_5 gr x6_2 x6_3 x6_1 x6_0 → vf_n64 (FP.dsub x6_0 r_28)) ∧
  ((¬ pn ≤ x6_1) → ((x6_6 x6_1.toNatClampNeg) ≤ 0) → (¬ p2 = 0) → (¬ (f_X0_has ln (x6_5 x6_1.toNatClampNeg)) = 0) → ∀ (r_28 : UInt64) (u_29 : Nat → UInt32) (u_30 : Nat → Int32) (u_31 : Nat → Int32) (u_32 : Nat → UInt64), (r_28, u_29, u_30, u_31, u_32) = f_X2_grind x6_4 x6_5 gr x6_2 x6_3 x6_1 x6_0 → n_X2_goBy_6 pn ln gr p2 fuel (FP.dsub x6_0 r_28) (x6_1 + 1) u_31 u_32 u_29 u_30 x6_6 x6_7) ∧
  ((¬ pn ≤ x6_1) → (¬ (x6_6 x6_1.toNatClampNeg) ≤ 0) → n_X2_dressOn x6_1) ∧
  ((¬ pn ≤ x6_1) → (¬ (x6_6 x6_1.toNatClampNeg) ≤ 0) → ∀ (u_37 : Nat → UInt32) (u_38 : Nat → Int32), (u_37, u_38) = f_X2_dressOn x6_4 x6_6 x6_1 → n_X2_goBy_6 pn ln gr p2 fuel x6_0 (x6_1 + 1) x6_2 x6_3 u_37 x6_5 u_38 x6_7)
def f_X2_goBy (pn : Int32) (dl : Nat → UInt32) (pl : Nat → Int32) (dr : Nat → Int32) (sp : Nat → Int32) (ln : Int32) (gr : Nat → Int32) (sa : Nat → Int32) (le : Nat → UInt64) (p1 : UInt64) (p2 : Int32) : (Nat → UInt32) × (Nat → Int32) × (Nat → Int32) × (Nat → Int32) × (Nat → Int32) × (Nat → UInt64) :=
  f_X2_goBy_6 pn ln gr p2 5 p1 0 sa le dl pl dr sp
def n_X2_goBy (pn : Int32) (dl : Nat → UInt32) (pl : Nat → Int32) (dr : Nat → Int32) (sp : Nat → Int32) (ln : Int32) (gr : Nat → Int32) (sa : Nat → Int32) (le : Nat → UInt64) (p1 : UInt64) (p2 : Int32) : Prop :=
  (n_X2_goBy_6 pn ln gr p2 5 p1 0 sa le dl pl dr sp)
def n_X3_copyFrom (sc' : Int32) : Prop :=
  (tm_bool sc')
def n_X1_copyFrom (sc' : Int32) : Prop :=
  (n_X3_copyFrom sc')
def f_X1_isAwake (fh : Int32) (lh : Int32) (tk : Int32) : Int32 :=
  if fh ≤ lh then (if (f_X4_hourNow tk) < fh then 0 else (if lh < (f_X4_hourNow tk) then 0 else 1)) else (if fh ≤ (f_X4_hourNow tk) then 1 else (if lh < (f_X4_hourNow tk) then 0 else 1))
def f_X1_areEelsAbout (tk : Int32) (mo : Int32) : Int32 :=
  if (f_X4_ageOn mo tk) < 13 then 0 else (if 17 < (f_X4_ageOn mo tk) then 0 else (if (f_X4_hourNow tk) < 12 then 1 else (if (f_X4_hourNow tk) ≤ 35 then 0 else 1)))
def f_X4_ticksToHigh_2 (tk : Int32) : Nat → Int32 → Int32
  | 0, x2_0 => 0
  | fuel + 1, x2_0 => if 25 ≤ x2_0 then (-1) else (if (Op.cmpValue (FP.dcmp (f_X4_phaseOn (tk + x2_0)) 4622945017495814144) .l) < 0 then (f_X4_ticksToHigh_2 tk fuel (x2_0 + 1)) else (if 0 ≤ (Op.cmpValue (FP.dcmp (f_X4_phaseOn (tk + x2_0)) 4623507967449235456) .g) then (f_X4_ticksToHigh_2 tk fuel (x2_0 + 1)) else x2_0))
def n_X4_ticksToHigh_2 (tk : Int32) : Nat → Int32 → Prop
  | 0, x2_0 => False
  | fuel + 1, x2_0 => ((¬ 25 ≤ x2_0) → n_X4_phaseOn (tk + x2_0)) ∧
  ((¬ 25 ≤ x2_0) → ((Op.cmpValue (FP.dcmp (f_X4_phaseOn (tk + x2_0)) 4622945017495814144) .l) < 0) → n_X4_ticksToHigh_2 tk fuel (x2_0 + 1)) ∧
  ((¬ 25 ≤ x2_0) → (¬ (Op.cmpValue (FP.dcmp (f_X4_phaseOn (tk + x2_0)) 4622945017495814144) .l) < 0) → (0 ≤ (Op.cmpValue (FP.dcmp (f_X4_phaseOn (tk + x2_0)) 4623507967449235456) .g)) → n_X4_ticksToHigh_2 tk fuel (x2_0 + 1))
def f_X4_ticksToHigh (tk : Int32) : Int32 :=
  f_X4_ticksToHigh_2 tk 27 0
def n_X4_ticksToHigh (tk : Int32) : Prop :=
  (n_X4_ticksToHigh_2 tk 27 0)
def f_X1_goBy (fh : Int32) (lh : Int32) (ee : Int32) (tk : Int32) (mo : Int32) (su : UInt64) (lv : UInt64) (si : UInt32) (ga : Int32) (sl : Int32) (sc : Int32) (ln : Int32) (gr : Nat → Int32) (sa : Nat → Int32) (le : Nat → UInt64) (pn : Int32) (dl : Nat → UInt32) (pl : Nat → Int32) (dr : Nat → Int32) (sp : Nat → Int32) : Int32 × Int32 × UInt64 × UInt32 × UInt64 × (Nat → Int32) × (Nat → UInt64) × (Nat → UInt32) × (Nat → Int32) × (Nat → Int32) × (Nat → Int32) :=
  (match f_X3_goBy lv si ga sl sc (f_X4_heightOn mo su tk) with | (u_5, u_6, u_7) => (match f_X2_goBy pn dl pl dr sp ln gr sa le u_7 (f_X1_isAwake fh lh tk) with | (u_11, u_12, u_13, u_14, u_15, u_16) => if (Op.cmpValue (FP.dcmp u_7 FP.dconst0) .l) ≤ 0 then (ee, tk + 1, u_5, u_6, u_7, u_15, u_16, u_11, u_12, u_13, u_14) else (if (f_X1_areEelsAbout tk mo) = 0 then (ee, tk + 1, u_5, u_6, u_7, u_15, u_16, u_11, u_12, u_13, u_14) else (ee + sl, tk + 1, u_5, u_6, u_7, u_15, u_16, u_11, u_12, u_13, u_14))))
def n_X1_goBy (fh : Int32) (lh : Int32) (tk : Int32) (mo : Int32) (su : UInt64) (lv : UInt64) (si : UInt32) (ga : Int32) (sl : Int32) (sc : Int32) (ln : Int32) (gr : Nat → Int32) (sa : Nat → Int32) (le : Nat → UInt64) (pn : Int32) (dl : Nat → UInt32) (pl : Nat → Int32) (dr : Nat → Int32) (sp : Nat → Int32) : Prop :=
  (n_X4_heightOn mo su tk) ∧
  (n_X3_goBy lv si ga sl sc (f_X4_heightOn mo su tk)) ∧
  (∀ (u_5 : UInt64) (u_6 : UInt32) (u_7 : UInt64), (u_5, u_6, u_7) = f_X3_goBy lv si ga sl sc (f_X4_heightOn mo su tk) → n_X2_goBy pn dl pl dr sp ln gr sa le u_7 (f_X1_isAwake fh lh tk))
def f_X1_letGoBy_2 (fh : Int32) (lh : Int32) (mo : Int32) (su : UInt64) (ga : Int32) (sl : Int32) (sc : Int32) (ln : Int32) (gr : Nat → Int32) (pn : Int32) (p1 : Int32) : Nat → Int32 → Int32 → Int32 → UInt64 → UInt32 → UInt64 → (Nat → Int32) → (Nat → UInt64) → (Nat → UInt32) → (Nat → Int32) → (Nat → Int32) → (Nat → Int32) → Int32 × Int32 × UInt64 × UInt32 × UInt64 × (Nat → Int32) × (Nat → UInt64) × (Nat → UInt32) × (Nat → Int32) × (Nat → Int32) × (Nat → Int32)
  | 0, x2_0, x2_1, x2_2, x2_3, x2_4, x2_5, x2_6, x2_7, x2_8, x2_9, x2_10, x2_11 => (x2_1, x2_2, x2_3, x2_4, x2_5, x2_6, x2_7, x2_8, x2_9, x2_10, x2_11)
  | fuel + 1, x2_0, x2_1, x2_2, x2_3, x2_4, x2_5, x2_6, x2_7, x2_8, x2_9, x2_10, x2_11 => if p1 ≤ x2_0 then (x2_1, x2_2, x2_3, x2_4, x2_5, x2_6, x2_7, x2_8, x2_9, x2_10, x2_11) else (match f_X1_goBy fh lh x2_1 x2_2 mo su x2_3 x2_4 ga sl sc ln gr x2_6 x2_7 pn x2_8 x2_9 x2_10 x2_11 with | (u_4, u_5, u_6, u_7, u_8, u_9, u_10, u_11, u_12, u_13, u_14) => f_X1_letGoBy_2 fh lh mo su ga sl sc ln gr pn p1 fuel (x2_0 + 1) u_4 u_5 u_6 u_7 u_8 u_9 u_10 u_11 u_12 u_13 u_14)
def n_X1_letGoBy_2 (fh : Int32) (lh : Int32) (mo : Int32) (su : UInt64) (ga : Int32) (sl : Int32) (sc : Int32) (ln : Int32) (gr : Nat → Int32) (pn : Int32) (p1 : Int32) : Nat → Int32 → Int32 → Int32 → UInt64 → UInt32 → UInt64 → (Nat → Int32) → (Nat → UInt64) → (Nat → UInt32) → (Nat → Int32) → (Nat → Int32) → (Nat → Int32) → Prop
  | 0, x2_0, x2_1, x2_2, x2_3, x2_4, x2_5, x2_6, x2_7, x2_8, x2_9, x2_10, x2_11 => False
  | fuel + 1, x2_0, x2_1, x2_2, x2_3, x2_4, x2_5, x2_6, x2_7, x2_8, x2_9, x2_10, x2_11 => ((¬ p1 ≤ x2_0) → n_X1_goBy fh lh x2_2 mo su x2_3 x2_4 ga sl sc ln gr x2_6 x2_7 pn x2_8 x2_9 x2_10 x2_11) ∧
  ((¬ p1 ≤ x2_0) → ∀ (u_4 : Int32) (u_5 : Int32) (u_6 : UInt64) (u_7 : UInt32) (u_8 : UInt64) (u_9 : Nat → Int32) (u_10 : Nat → UInt64) (u_11 : Nat → UInt32) (u_12 : Nat → Int32) (u_13 : Nat → Int32) (u_14 : Nat → Int32), (u_4, u_5, u_6, u_7, u_8, u_9, u_10, u_11, u_12, u_13, u_14) = f_X1_goBy fh lh x2_1 x2_2 mo su x2_3 x2_4 ga sl sc ln gr x2_6 x2_7 pn x2_8 x2_9 x2_10 x2_11 → n_X1_letGoBy_2 fh lh mo su ga sl sc ln gr pn p1 fuel (x2_0 + 1) u_4 u_5 u_6 u_7 u_8 u_9 u_10 u_11 u_12 u_13 u_14)
def f_X1_letGoBy (fh : Int32) (lh : Int32) (ee : Int32) (tk : Int32) (mo : Int32) (su : UInt64) (lv : UInt64) (si : UInt32) (ga : Int32) (sl : Int32) (sc : Int32) (fo : UInt64) (ln : Int32) (gr : Nat → Int32) (sa : Nat → Int32) (le : Nat → UInt64) (pn : Int32) (dl : Nat → UInt32) (pl : Nat → Int32) (dr : Nat → Int32) (sp : Nat → Int32) (p1 : Int32) : Int32 × Int32 × UInt64 × UInt32 × UInt64 × (Nat → Int32) × (Nat → UInt64) × (Nat → UInt32) × (Nat → Int32) × (Nat → Int32) × (Nat → Int32) :=
  f_X1_letGoBy_2 fh lh mo su ga sl sc ln gr pn p1 102 0 ee tk lv si fo sa le dl pl dr sp
def n_X1_letGoBy (fh : Int32) (lh : Int32) (ee : Int32) (tk : Int32) (mo : Int32) (su : UInt64) (lv : UInt64) (si : UInt32) (ga : Int32) (sl : Int32) (sc : Int32) (fo : UInt64) (ln : Int32) (gr : Nat → Int32) (sa : Nat → Int32) (le : Nat → UInt64) (pn : Int32) (dl : Nat → UInt32) (pl : Nat → Int32) (dr : Nat → Int32) (sp : Nat → Int32) (p1 : Int32) : Prop :=
  (n_X1_letGoBy_2 fh lh mo su ga sl sc ln gr pn p1 102 0 ee tk lv si fo sa le dl pl dr sp)
def f_X5_moon (tk : Int32) (p1 : Int32) : Int32 × Int32 :=
  (f_X4_ageOn p1 tk, p1)
def n_X5_moon (p1 : Int32) : Prop :=
  (¬ (f_X5_isWithin p1 0 29) = 0)
def f_X5_surge (tk : Int32) (mo : Int32) (p1 : Int32) : UInt64 × UInt64 :=
  (f_X4_heightOn mo (FP.dmul (FP.i2d p1) 4598175219545276416) tk, FP.dmul (FP.i2d p1) 4598175219545276416)
def n_X5_surge (tk : Int32) (mo : Int32) (p1 : Int32) : Prop :=
  (¬ (f_X5_isWithin p1 (-8) 8) = 0) ∧
  (vf_n64 (FP.dmul (FP.i2d p1) 4598175219545276416)) ∧
  (n_X4_heightOn mo (FP.dmul (FP.i2d p1) 4598175219545276416) tk)
def f_X5_gates (ga : Int32) (p1 : Int32) : Int32 × Int32 :=
  (ga, p1)
def n_X5_gates (lk : Int32) (p1 : Int32) : Prop :=
  (¬ (f_X5_isWithin p1 0 3) = 0) ∧
  (lk = 0)
def f_X5_sluice (sl : Int32) (p1 : Int32) : Int32 × Int32 :=
  (sl, p1)
def n_X5_sluice (p1 : Int32) : Prop :=
  (¬ (f_X5_isWithin p1 0 4) = 0)
def f_X5_scour (sc : Int32) (p1 : Int32) : Int32 × Int32 :=
  (sc, p1)
def n_X5_scour (sc : Int32) (p1 : Int32) : Prop :=
  (tm_bool p1) ∧
  (tm_bool sc)
def f_X5_hours (tk : Int32) (p1 : Int32) (p2 : Int32) : Int32 × Int32 × Int32 :=
  (f_X1_isAwake p1 p2 tk, p1, p2)
def n_X5_hours (tk : Int32) (p1 : Int32) (p2 : Int32) : Prop :=
  (¬ (f_X5_isWithin p1 0 47) = 0) ∧
  (¬ (f_X5_isWithin p2 0 47) = 0) ∧
  (tm_bool (f_X1_isAwake p1 p2 tk))
def f_X5_lock (lk : Int32) (p1 : Int32) : Int32 × Int32 :=
  (lk, p1)
def n_X5_lock (lk : Int32) (p1 : Int32) : Prop :=
  (tm_bool p1) ∧
  (tm_bool lk)
def f_X5_pair (pn : Int32) (pl : Nat → Int32) : Int32 × Int32 × (Nat → Int32) :=
  (match f_X2_lay pn pl with | (r_3, u_4, u_5) => (r_3, u_4, u_5))
def n_X5_pair (pn : Int32) : Prop :=
  (pn < 3) ∧
  (n_X2_lay pn)
def f_X5_lot (tk : Int32) (ln : Int32) (ow : Nat → Int32) (gr : Nat → Int32) (we : Nat → Int32) (du : Nat → Int32) (sa : Nat → Int32) (le : Nat → UInt64) (p1 : Int32) (p2 : Int32) (p3 : Int32) (p4 : Int32) : Int32 × Int32 × (Nat → Int32) × (Nat → Int32) × (Nat → Int32) × (Nat → Int32) × (Nat → Int32) × (Nat → UInt64) :=
  (match f_X0_bring ln ow gr we du sa le p1 p2 p3 ((f_X4_today tk) + p4) with | (r_12, u_13, u_14, u_15, u_16, u_17, u_18, u_19) => (r_12, u_13, u_14, u_15, u_16, u_17, u_18, u_19))
def n_X5_lot (ln : Int32) (p1 : Int32) (p2 : Int32) (p3 : Int32) (p4 : Int32) : Prop :=
  (¬ (f_X5_isWithin p1 0 3) = 0) ∧
  (¬ (f_X5_isWithin p2 0 2) = 0) ∧
  (¬ (f_X5_isWithin p3 1 60) = 0) ∧
  (¬ (f_X5_isWithin p4 0 30) = 0) ∧
  (ln < 10) ∧
  (n_X0_bring ln)
def f_X5_feed (ln : Int32) (sa : Nat → Int32) (pl : Nat → Int32) (p1 : Int32) (p2 : Int32) : Int32 × (Nat → Int32) × (Nat → Int32) :=
  (f_X0_countOf ln (upd sa p2.toNatClampNeg 1) 0, upd sa p2.toNatClampNeg 1, upd pl p1.toNatClampNeg p2)
def n_X5_feed (ln : Int32) (sa : Nat → Int32) (pn : Int32) (pl : Nat → Int32) (dr : Nat → Int32) (p1 : Int32) (p2 : Int32) : Prop :=
  (¬ (f_X2_has pn p1) = 0) ∧
  (¬ (f_X0_has ln p2) = 0) ∧
  ((sa p2.toNatClampNeg) = 0) ∧
  (¬ (f_X2_isFree pl dr p1) = 0) ∧
  (vp_in p2 10) ∧
  (n_X2_isFree p1) ∧
  (vp_in p1 3) ∧
  (n_X0_countOf ln (upd sa p2.toNatClampNeg 1) 0)
def f_X5_take (sa : Nat → Int32) (pl : Nat → Int32) (p1 : Int32) : Int32 × (Nat → Int32) × (Nat → Int32) :=
  (pl p1.toNatClampNeg, upd sa (pl p1.toNatClampNeg).toNatClampNeg 0, upd pl p1.toNatClampNeg (-1))
def n_X5_take (ln : Int32) (pn : Int32) (pl : Nat → Int32) (p1 : Int32) : Prop :=
  (¬ (f_X2_has pn p1) = 0) ∧
  (¬ (f_X0_has ln (pl p1.toNatClampNeg)) = 0) ∧
  (vp_in p1 3) ∧
  (vp_in (pl p1.toNatClampNeg) 10)
def f_X5_dress (dl : Nat → UInt32) (dr : Nat → Int32) (p1 : Int32) : Int32 × (Nat → Int32) :=
  ((upd dr p1.toNatClampNeg (3 + (f_X5_roundedUp (FP.dmul 4620693217682128896 (FP.f2d (dl p1.toNatClampNeg)))))) p1.toNatClampNeg, upd dr p1.toNatClampNeg (3 + (f_X5_roundedUp (FP.dmul 4620693217682128896 (FP.f2d (dl p1.toNatClampNeg))))))
def n_X5_dress (pn : Int32) (dl : Nat → UInt32) (pl : Nat → Int32) (dr : Nat → Int32) (p1 : Int32) : Prop :=
  (¬ (f_X2_has pn p1) = 0) ∧
  (¬ (f_X2_isFree pl dr p1) = 0) ∧
  (n_X2_isFree p1) ∧
  (vp_in p1 3) ∧
  (vf_n64 (FP.f2d (dl p1.toNatClampNeg))) ∧
  (vf_n64 (FP.dmul 4620693217682128896 (FP.f2d (dl p1.toNatClampNeg))))
def f_X5_give (pu : Int32) (to : UInt64) (tk : Int32) (gr : Nat → Int32) (we : Nat → Int32) (du : Nat → Int32) (sa : Nat → Int32) (p1 : Int32) : Int32 × Int32 × UInt64 × (Nat → Int32) :=
  ((((we p1.toNatClampNeg) * (f_X5_priceOf (gr p1.toNatClampNeg))) / 4) - (if 0 < ((f_X4_today tk) - (du p1.toNatClampNeg)) then ((f_X4_today tk) - (du p1.toNatClampNeg)) else 0), pu + ((((we p1.toNatClampNeg) * (f_X5_priceOf (gr p1.toNatClampNeg))) / 4) - (if 0 < ((f_X4_today tk) - (du p1.toNatClampNeg)) then ((f_X4_today tk) - (du p1.toNatClampNeg)) else 0)), FP.dadd to (FP.ddiv (FP.i2d (we p1.toNatClampNeg)) 4625196817309499392), upd sa p1.toNatClampNeg 3)
def n_X5_give (to : UInt64) (ln : Int32) (we : Nat → Int32) (sa : Nat → Int32) (p1 : Int32) : Prop :=
  (¬ (f_X0_has ln p1) = 0) ∧
  ((sa p1.toNatClampNeg) = 2) ∧
  (vp_in p1 10) ∧
  (vf_n64 (FP.ddiv (FP.i2d (we p1.toNatClampNeg)) 4625196817309499392)) ∧
  (vf_n64 (FP.dadd to (FP.ddiv (FP.i2d (we p1.toNatClampNeg)) 4625196817309499392)))
def f_X5_pass (fh : Int32) (lh : Int32) (ee : Int32) (tk : Int32) (mo : Int32) (su : UInt64) (lv : UInt64) (si : UInt32) (ga : Int32) (sl : Int32) (sc : Int32) (fo : UInt64) (ln : Int32) (gr : Nat → Int32) (sa : Nat → Int32) (le : Nat → UInt64) (pn : Int32) (dl : Nat → UInt32) (pl : Nat → Int32) (dr : Nat → Int32) (sp : Nat → Int32) (p1 : Int32) : Int32 × Int32 × Int32 × UInt64 × UInt32 × UInt64 × (Nat → Int32) × (Nat → UInt64) × (Nat → UInt32) × (Nat → Int32) × (Nat → Int32) × (Nat → Int32) :=
  (match f_X1_letGoBy fh lh ee tk mo su lv si ga sl sc fo ln gr sa le pn dl pl dr sp p1 with | (u_6, u_7, u_8, u_9, u_10, u_11, u_12, u_13, u_14, u_15, u_16) => (f_X0_countOf ln u_11 2, u_6, u_7, u_8, u_9, u_10, u_11, u_12, u_13, u_14, u_15, u_16))
def n_X5_pass (fh : Int32) (lh : Int32) (ee : Int32) (tk : Int32) (mo : Int32) (su : UInt64) (lv : UInt64) (si : UInt32) (ga : Int32) (sl : Int32) (sc : Int32) (fo : UInt64) (ln : Int32) (gr : Nat → Int32) (sa : Nat → Int32) (le : Nat → UInt64) (pn : Int32) (dl : Nat → UInt32) (pl : Nat → Int32) (dr : Nat → Int32) (sp : Nat → Int32) (p1 : Int32) : Prop :=
  (¬ (f_X5_isWithin p1 1 100) = 0) ∧
  ((tk + p1) ≤ 5000) ∧
  (n_X1_letGoBy fh lh ee tk mo su lv si ga sl sc fo ln gr sa le pn dl pl dr sp p1) ∧
  (∀ (u_6 : Int32) (u_7 : Int32) (u_8 : UInt64) (u_9 : UInt32) (u_10 : UInt64) (u_11 : Nat → Int32) (u_12 : Nat → UInt64) (u_13 : Nat → UInt32) (u_14 : Nat → Int32) (u_15 : Nat → Int32) (u_16 : Nat → Int32), (u_6, u_7, u_8, u_9, u_10, u_11, u_12, u_13, u_14, u_15, u_16) = f_X1_letGoBy fh lh ee tk mo su lv si ga sl sc fo ln gr sa le pn dl pl dr sp p1 → n_X0_countOf ln u_11 2)
def f_X5_pondAnswer (to : UInt64) (tk : Int32) (mo : Int32) (lv : UInt64) (si : UInt32) (fo : UInt64) (p1 : Int32) : UInt64 :=
  if p1 = 0 then lv else (if p1 = 1 then (FP.f2d si) else (if p1 = 2 then (f_X3_area si) else (if p1 = 3 then fo else (if p1 = 4 then to else (f_X4_rangeOn mo tk)))))
def n_X5_pondAnswer (tk : Int32) (mo : Int32) (si : UInt32) (p1 : Int32) : Prop :=
  ((¬ p1 = 0) → (p1 = 1) → vf_n64 (FP.f2d si)) ∧
  ((¬ p1 = 0) → (¬ p1 = 1) → (p1 = 2) → n_X3_area si) ∧
  ((¬ p1 = 0) → (¬ p1 = 1) → (¬ p1 = 2) → (¬ p1 = 3) → (¬ p1 = 4) → n_X4_rangeOn mo tk)
def f_X5_pairAnswer (pl : Nat → Int32) (dr : Nat → Int32) (sp : Nat → Int32) (p1 : Int32) (p2 : Int32) : Int32 :=
  if p2 = 0 then (pl p1.toNatClampNeg) else (if p2 = 1 then (dr p1.toNatClampNeg) else (sp p1.toNatClampNeg))
def n_X5_pairAnswer (p1 : Int32) (p2 : Int32) : Prop :=
  ((p2 = 0) → vp_in p1 3) ∧
  ((¬ p2 = 0) → (p2 = 1) → vp_in p1 3) ∧
  ((¬ p2 = 0) → (¬ p2 = 1) → vp_in p1 3)
def f_X5_lotAnswer (ow : Nat → Int32) (gr : Nat → Int32) (we : Nat → Int32) (du : Nat → Int32) (sa : Nat → Int32) (pn : Int32) (pl : Nat → Int32) (p1 : Int32) (p2 : Int32) : Int32 :=
  if p2 = 0 then (ow p1.toNatClampNeg) else (if p2 = 1 then (gr p1.toNatClampNeg) else (if p2 = 2 then (we p1.toNatClampNeg) else (if p2 = 3 then (du p1.toNatClampNeg) else (if p2 = 4 then (sa p1.toNatClampNeg) else (f_X2_withLot pn pl p1)))))
def n_X5_lotAnswer (pn : Int32) (pl : Nat → Int32) (p1 : Int32) (p2 : Int32) : Prop :=
  ((p2 = 0) → vp_in p1 10) ∧
  ((¬ p2 = 0) → (p2 = 1) → vp_in p1 10) ∧
  ((¬ p2 = 0) → (¬ p2 = 1) → (p2 = 2) → vp_in p1 10) ∧
  ((¬ p2 = 0) → (¬ p2 = 1) → (¬ p2 = 2) → (p2 = 3) → vp_in p1 10) ∧
  ((¬ p2 = 0) → (¬ p2 = 1) → (¬ p2 = 2) → (¬ p2 = 3) → (p2 = 4) → vp_in p1 10) ∧
  ((¬ p2 = 0) → (¬ p2 = 1) → (¬ p2 = 2) → (¬ p2 = 3) → (¬ p2 = 4) → n_X2_withLot pn pl p1)
def f_X5_ofLot (ow : Nat → Int32) (gr : Nat → Int32) (we : Nat → Int32) (du : Nat → Int32) (sa : Nat → Int32) (pn : Int32) (pl : Nat → Int32) (p1 : Int32) (p2 : Int32) : Int32 :=
  f_X5_lotAnswer ow gr we du sa pn pl p1 p2
def n_X5_ofLot (ln : Int32) (pn : Int32) (pl : Nat → Int32) (p1 : Int32) (p2 : Int32) : Prop :=
  (¬ (f_X0_has ln p1) = 0) ∧
  (¬ (f_X5_isWithin p2 0 5) = 0) ∧
  (n_X5_lotAnswer pn pl p1 p2)
def f_X5_left (le : Nat → UInt64) (p1 : Int32) : UInt64 :=
  le p1.toNatClampNeg
def n_X5_left (ln : Int32) (p1 : Int32) : Prop :=
  (¬ (f_X0_has ln p1) = 0) ∧
  (vp_in p1 10)
def f_X5_manyAnswer (lk : Int32) (rf : Int32) (pu : Int32) (fh : Int32) (lh : Int32) (ee : Int32) (tk : Int32) (mo : Int32) (ga : Int32) (sl : Int32) (ln : Int32) (sa : Nat → Int32) (pn : Int32) (sp : Nat → Int32) (p1 : Int32) : Int32 :=
  if p1 = 0 then tk else (if p1 = 1 then (f_X4_today tk) else (if p1 = 2 then (f_X4_ageOn mo tk) else (if p1 = 3 then (f_X4_springOf (f_X4_ageOn mo tk)) else (if p1 = 4 then ga else (if p1 = 5 then sl else (if p1 = 6 then pn else (if p1 = 7 then ln else (if p1 = 8 then (f_X0_countOf ln sa 0) else (if p1 = 9 then (f_X0_countOf ln sa 2) else (if p1 = 10 then (f_X0_countOf ln sa 3) else (if p1 = 11 then ee else (if p1 = 12 then pu else (if p1 = 13 then (f_X2_allSparks pn sp) else (if p1 = 14 then (if (f_X1_isAwake fh lh tk) = 0 then 0 else 1) else (if p1 = 15 then rf else (if lk = 0 then 0 else 1))))))))))))))))
def n_X5_manyAnswer (ln : Int32) (sa : Nat → Int32) (pn : Int32) (sp : Nat → Int32) (p1 : Int32) : Prop :=
  ((¬ p1 = 0) → (¬ p1 = 1) → (¬ p1 = 2) → (¬ p1 = 3) → (¬ p1 = 4) → (¬ p1 = 5) → (¬ p1 = 6) → (¬ p1 = 7) → (p1 = 8) → n_X0_countOf ln sa 0) ∧
  ((¬ p1 = 0) → (¬ p1 = 1) → (¬ p1 = 2) → (¬ p1 = 3) → (¬ p1 = 4) → (¬ p1 = 5) → (¬ p1 = 6) → (¬ p1 = 7) → (¬ p1 = 8) → (p1 = 9) → n_X0_countOf ln sa 2) ∧
  ((¬ p1 = 0) → (¬ p1 = 1) → (¬ p1 = 2) → (¬ p1 = 3) → (¬ p1 = 4) → (¬ p1 = 5) → (¬ p1 = 6) → (¬ p1 = 7) → (¬ p1 = 8) → (¬ p1 = 9) → (p1 = 10) → n_X0_countOf ln sa 3) ∧
  ((¬ p1 = 0) → (¬ p1 = 1) → (¬ p1 = 2) → (¬ p1 = 3) → (¬ p1 = 4) → (¬ p1 = 5) → (¬ p1 = 6) → (¬ p1 = 7) → (¬ p1 = 8) → (¬ p1 = 9) → (¬ p1 = 10) → (¬ p1 = 11) → (¬ p1 = 12) → (p1 = 13) → n_X2_allSparks pn sp)
def f_X5_many (lk : Int32) (rf : Int32) (pu : Int32) (fh : Int32) (lh : Int32) (ee : Int32) (tk : Int32) (mo : Int32) (ga : Int32) (sl : Int32) (ln : Int32) (sa : Nat → Int32) (pn : Int32) (sp : Nat → Int32) (p1 : Int32) : Int32 :=
  f_X5_manyAnswer lk rf pu fh lh ee tk mo ga sl ln sa pn sp p1
def n_X5_many (ln : Int32) (sa : Nat → Int32) (pn : Int32) (sp : Nat → Int32) (p1 : Int32) : Prop :=
  (¬ (f_X5_isWithin p1 0 16) = 0) ∧
  (n_X5_manyAnswer ln sa pn sp p1)
def f_X5_ticksToDone_44 (fh : Int32) (lh : Int32) (mo : Int32) (su : UInt64) (ga : Int32) (sl : Int32) (sc : Int32) (ln : Int32) (gr : Nat → Int32) (pn : Int32) (p1 : Int32) : Nat → Int32 → Int32 → Int32 → UInt64 → UInt32 → UInt64 → (Nat → Int32) → (Nat → UInt64) → (Nat → UInt32) → (Nat → Int32) → (Nat → Int32) → (Nat → Int32) → Int32
  | 0, x44_0, x44_1, x44_2, x44_3, x44_4, x44_5, x44_6, x44_7, x44_8, x44_9, x44_10, x44_11 => 0
  | fuel + 1, x44_0, x44_1, x44_2, x44_3, x44_4, x44_5, x44_6, x44_7, x44_8, x44_9, x44_10, x44_11 => if 300 < x44_0 then (-1) else (match f_X1_goBy fh lh x44_1 x44_2 mo su x44_3 x44_4 ga sl sc ln gr x44_6 x44_7 pn x44_8 x44_9 x44_10 x44_11 with | (u_10, u_11, u_12, u_13, u_14, u_15, u_16, u_17, u_18, u_19, u_20) => if (u_15 p1.toNatClampNeg) = 2 then x44_0 else (f_X5_ticksToDone_44 fh lh mo su ga sl sc ln gr pn p1 fuel (x44_0 + 1) u_10 u_11 u_12 u_13 u_14 u_15 u_16 u_17 u_18 u_19 u_20))
def n_X5_ticksToDone_44 (fh : Int32) (lh : Int32) (mo : Int32) (su : UInt64) (ga : Int32) (sl : Int32) (sc : Int32) (ln : Int32) (gr : Nat → Int32) (pn : Int32) (p1 : Int32) : Nat → Int32 → Int32 → Int32 → UInt64 → UInt32 → UInt64 → (Nat → Int32) → (Nat → UInt64) → (Nat → UInt32) → (Nat → Int32) → (Nat → Int32) → (Nat → Int32) → Prop
  | 0, x44_0, x44_1, x44_2, x44_3, x44_4, x44_5, x44_6, x44_7, x44_8, x44_9, x44_10, x44_11 => False
  | fuel + 1, x44_0, x44_1, x44_2, x44_3, x44_4, x44_5, x44_6, x44_7, x44_8, x44_9, x44_10, x44_11 => ((¬ 300 < x44_0) → n_X1_goBy fh lh x44_2 mo su x44_3 x44_4 ga sl sc ln gr x44_6 x44_7 pn x44_8 x44_9 x44_10 x44_11) ∧
  ((¬ 300 < x44_0) → ∀ (u_10 : Int32) (u_11 : Int32) (u_12 : UInt64) (u_13 : UInt32) (u_14 : UInt64) (u_15 : Nat → Int32) (u_16 : Nat → UInt64) (u_17 : Nat → UInt32) (u_18 : Nat → Int32) (u_19 : Nat → Int32) (u_20 : Nat → Int32), (u_10, u_11, u_12, u_13, u_14, u_15, u_16, u_17, u_18, u_19, u_20) = f_X1_goBy fh lh x44_1 x44_2 mo su x44_3 x44_4 ga sl sc ln gr x44_6 x44_7 pn x44_8 x44_9 x44_10 x44_11 → vp_in p1 10) ∧
  ((¬ 300 < x44_0) → ∀ (u_10 : Int32) (u_11 : Int32) (u_12 : UInt64) (u_13 : UInt32) (u_14 : UInt64) (u_15 : Nat → Int32) (u_16 : Nat → UInt64) (u_17 : Nat → UInt32) (u_18 : Nat → Int32) (u_19 : Nat → Int32) (u_20 : Nat → Int32), (u_10, u_11, u_12, u_13, u_14, u_15, u_16, u_17, u_18, u_19, u_20) = f_X1_goBy fh lh x44_1 x44_2 mo su x44_3 x44_4 ga sl sc ln gr x44_6 x44_7 pn x44_8 x44_9 x44_10 x44_11 → (¬ (u_15 p1.toNatClampNeg) = 2) → n_X5_ticksToDone_44 fh lh mo su ga sl sc ln gr pn p1 fuel (x44_0 + 1) u_10 u_11 u_12 u_13 u_14 u_15 u_16 u_17 u_18 u_19 u_20)
def f_X5_ticksToDone (fh : Int32) (lh : Int32) (ee : Int32) (tk : Int32) (mo : Int32) (su : UInt64) (lv : UInt64) (si : UInt32) (ga : Int32) (sl : Int32) (sc : Int32) (fo : UInt64) (ln : Int32) (gr : Nat → Int32) (sa : Nat → Int32) (le : Nat → UInt64) (pn : Int32) (dl : Nat → UInt32) (pl : Nat → Int32) (dr : Nat → Int32) (sp : Nat → Int32) (p1 : Int32) : Int32 :=
  if (sa p1.toNatClampNeg) = 2 then 0 else (if (sa p1.toNatClampNeg) = 3 then 0 else (if (sa p1.toNatClampNeg) = 0 then (-1) else (f_X5_ticksToDone_44 fh lh mo su ga sl sc ln gr pn p1 302 1 ee tk lv si fo sa le dl pl dr sp)))
def n_X5_ticksToDone (fh : Int32) (lh : Int32) (ee : Int32) (tk : Int32) (mo : Int32) (su : UInt64) (lv : UInt64) (si : UInt32) (ga : Int32) (sl : Int32) (sc : Int32) (fo : UInt64) (ln : Int32) (gr : Nat → Int32) (sa : Nat → Int32) (le : Nat → UInt64) (pn : Int32) (dl : Nat → UInt32) (pl : Nat → Int32) (dr : Nat → Int32) (sp : Nat → Int32) (p1 : Int32) : Prop :=
  (vp_in p1 10) ∧
  ((¬ (sa p1.toNatClampNeg) = 2) → (¬ (sa p1.toNatClampNeg) = 3) → (¬ (sa p1.toNatClampNeg) = 0) → n_X1_copyFrom sc) ∧
  ((¬ (sa p1.toNatClampNeg) = 2) → (¬ (sa p1.toNatClampNeg) = 3) → (¬ (sa p1.toNatClampNeg) = 0) → n_X5_ticksToDone_44 fh lh mo su ga sl sc ln gr pn p1 302 1 ee tk lv si fo sa le dl pl dr sp)
def f_X5_wouldDone (fh : Int32) (lh : Int32) (ee : Int32) (tk : Int32) (mo : Int32) (su : UInt64) (lv : UInt64) (si : UInt32) (ga : Int32) (sl : Int32) (sc : Int32) (fo : UInt64) (ln : Int32) (gr : Nat → Int32) (sa : Nat → Int32) (le : Nat → UInt64) (pn : Int32) (dl : Nat → UInt32) (pl : Nat → Int32) (dr : Nat → Int32) (sp : Nat → Int32) (p1 : Int32) : Int32 :=
  f_X5_ticksToDone fh lh ee tk mo su lv si ga sl sc fo ln gr sa le pn dl pl dr sp p1
def n_X5_wouldDone (fh : Int32) (lh : Int32) (ee : Int32) (tk : Int32) (mo : Int32) (su : UInt64) (lv : UInt64) (si : UInt32) (ga : Int32) (sl : Int32) (sc : Int32) (fo : UInt64) (ln : Int32) (gr : Nat → Int32) (sa : Nat → Int32) (le : Nat → UInt64) (pn : Int32) (dl : Nat → UInt32) (pl : Nat → Int32) (dr : Nat → Int32) (sp : Nat → Int32) (p1 : Int32) : Prop :=
  (¬ (f_X0_has ln p1) = 0) ∧
  (n_X5_ticksToDone fh lh ee tk mo su lv si ga sl sc fo ln gr sa le pn dl pl dr sp p1)
def f_X5_leftWith_24 (fh : Int32) (lh : Int32) (mo : Int32) (su : UInt64) (ga : Int32) (sc : Int32) (ln : Int32) (gr : Nat → Int32) (pn : Int32) (p1 : Int32) (p2 : Int32) : Nat → Int32 → Int32 → Int32 → UInt64 → UInt32 → UInt64 → (Nat → Int32) → (Nat → UInt64) → (Nat → UInt32) → (Nat → Int32) → (Nat → Int32) → (Nat → Int32) → Int32 × Int32 × Int32 × UInt64 × UInt32 × UInt64 × (Nat → Int32) × (Nat → UInt64) × (Nat → UInt32) × (Nat → Int32) × (Nat → Int32) × (Nat → Int32)
  | 0, x24_0, x24_1, x24_2, x24_3, x24_4, x24_5, x24_6, x24_7, x24_8, x24_9, x24_10, x24_11 => (x24_0, x24_1, x24_2, x24_3, x24_4, x24_5, x24_6, x24_7, x24_8, x24_9, x24_10, x24_11)
  | fuel + 1, x24_0, x24_1, x24_2, x24_3, x24_4, x24_5, x24_6, x24_7, x24_8, x24_9, x24_10, x24_11 => if p2 ≤ x24_0 then (x24_0, x24_1, x24_2, x24_3, x24_4, x24_5, x24_6, x24_7, x24_8, x24_9, x24_10, x24_11) else (match f_X1_goBy fh lh x24_1 x24_2 mo su x24_3 x24_4 ga p1 sc ln gr x24_6 x24_7 pn x24_8 x24_9 x24_10 x24_11 with | (u_6, u_7, u_8, u_9, u_10, u_11, u_12, u_13, u_14, u_15, u_16) => f_X5_leftWith_24 fh lh mo su ga sc ln gr pn p1 p2 fuel (x24_0 + 1) u_6 u_7 u_8 u_9 u_10 u_11 u_12 u_13 u_14 u_15 u_16)
def n_X5_leftWith_24 (fh : Int32) (lh : Int32) (mo : Int32) (su : UInt64) (ga : Int32) (sc : Int32) (ln : Int32) (gr : Nat → Int32) (pn : Int32) (p1 : Int32) (p2 : Int32) : Nat → Int32 → Int32 → Int32 → UInt64 → UInt32 → UInt64 → (Nat → Int32) → (Nat → UInt64) → (Nat → UInt32) → (Nat → Int32) → (Nat → Int32) → (Nat → Int32) → Prop
  | 0, x24_0, x24_1, x24_2, x24_3, x24_4, x24_5, x24_6, x24_7, x24_8, x24_9, x24_10, x24_11 => False
  | fuel + 1, x24_0, x24_1, x24_2, x24_3, x24_4, x24_5, x24_6, x24_7, x24_8, x24_9, x24_10, x24_11 => ((¬ p2 ≤ x24_0) → n_X1_goBy fh lh x24_2 mo su x24_3 x24_4 ga p1 sc ln gr x24_6 x24_7 pn x24_8 x24_9 x24_10 x24_11) ∧
  ((¬ p2 ≤ x24_0) → ∀ (u_6 : Int32) (u_7 : Int32) (u_8 : UInt64) (u_9 : UInt32) (u_10 : UInt64) (u_11 : Nat → Int32) (u_12 : Nat → UInt64) (u_13 : Nat → UInt32) (u_14 : Nat → Int32) (u_15 : Nat → Int32) (u_16 : Nat → Int32), (u_6, u_7, u_8, u_9, u_10, u_11, u_12, u_13, u_14, u_15, u_16) = f_X1_goBy fh lh x24_1 x24_2 mo su x24_3 x24_4 ga p1 sc ln gr x24_6 x24_7 pn x24_8 x24_9 x24_10 x24_11 → n_X5_leftWith_24 fh lh mo su ga sc ln gr pn p1 p2 fuel (x24_0 + 1) u_6 u_7 u_8 u_9 u_10 u_11 u_12 u_13 u_14 u_15 u_16)
def f_X5_leftWith (fh : Int32) (lh : Int32) (ee : Int32) (tk : Int32) (mo : Int32) (su : UInt64) (lv : UInt64) (si : UInt32) (ga : Int32) (sc : Int32) (fo : UInt64) (ln : Int32) (gr : Nat → Int32) (sa : Nat → Int32) (le : Nat → UInt64) (pn : Int32) (dl : Nat → UInt32) (pl : Nat → Int32) (dr : Nat → Int32) (sp : Nat → Int32) (p1 : Int32) (p2 : Int32) : UInt64 :=
  (match f_X5_leftWith_24 fh lh mo su ga sc ln gr pn p1 p2 102 0 ee tk lv si fo sa le dl pl dr sp with | (x24e_19, x24e_20, x24e_21, x24e_22, x24e_23, x24e_24, x24e_25, x24e_26, x24e_27, x24e_28, x24e_29, x24e_30) => f_X0_allLeft ln x24e_26)
def n_X5_leftWith (fh : Int32) (lh : Int32) (ee : Int32) (tk : Int32) (mo : Int32) (su : UInt64) (lv : UInt64) (si : UInt32) (ga : Int32) (sc : Int32) (fo : UInt64) (ln : Int32) (gr : Nat → Int32) (sa : Nat → Int32) (le : Nat → UInt64) (pn : Int32) (dl : Nat → UInt32) (pl : Nat → Int32) (dr : Nat → Int32) (sp : Nat → Int32) (p1 : Int32) (p2 : Int32) : Prop :=
  (n_X1_copyFrom sc) ∧
  (n_X5_leftWith_24 fh lh mo su ga sc ln gr pn p1 p2 102 0 ee tk lv si fo sa le dl pl dr sp) ∧
  (∀ (x24e_19 : Int32) (x24e_20 : Int32) (x24e_21 : Int32) (x24e_22 : UInt64) (x24e_23 : UInt32) (x24e_24 : UInt64) (x24e_25 : Nat → Int32) (x24e_26 : Nat → UInt64) (x24e_27 : Nat → UInt32) (x24e_28 : Nat → Int32) (x24e_29 : Nat → Int32) (x24e_30 : Nat → Int32), (x24e_19, x24e_20, x24e_21, x24e_22, x24e_23, x24e_24, x24e_25, x24e_26, x24e_27, x24e_28, x24e_29, x24e_30) = f_X5_leftWith_24 fh lh mo su ga sc ln gr pn p1 p2 102 0 ee tk lv si fo sa le dl pl dr sp → n_X0_allLeft ln x24e_26)
def f_X5_bestSluice_12 (fh : Int32) (lh : Int32) (ee : Int32) (tk : Int32) (mo : Int32) (su : UInt64) (lv : UInt64) (si : UInt32) (ga : Int32) (sc : Int32) (fo : UInt64) (ln : Int32) (gr : Nat → Int32) (sa : Nat → Int32) (le : Nat → UInt64) (pn : Int32) (dl : Nat → UInt32) (pl : Nat → Int32) (dr : Nat → Int32) (sp : Nat → Int32) (p1 : Int32) : Nat → Int32 → UInt64 → Int32 → Int32
  | 0, x12_0, x12_1, x12_2 => 0
  | fuel + 1, x12_0, x12_1, x12_2 => if 4 < x12_2 then x12_0 else (if 0 ≤ (Op.cmpValue (FP.dcmp (f_X5_leftWith fh lh ee tk mo su lv si ga sc fo ln gr sa le pn dl pl dr sp x12_2 p1) x12_1) .g) then (f_X5_bestSluice_12 fh lh ee tk mo su lv si ga sc fo ln gr sa le pn dl pl dr sp p1 fuel x12_0 x12_1 (x12_2 + 1)) else (f_X5_bestSluice_12 fh lh ee tk mo su lv si ga sc fo ln gr sa le pn dl pl dr sp p1 fuel x12_2 (f_X5_leftWith fh lh ee tk mo su lv si ga sc fo ln gr sa le pn dl pl dr sp x12_2 p1) (x12_2 + 1)))
def n_X5_bestSluice_12 (fh : Int32) (lh : Int32) (ee : Int32) (tk : Int32) (mo : Int32) (su : UInt64) (lv : UInt64) (si : UInt32) (ga : Int32) (sc : Int32) (fo : UInt64) (ln : Int32) (gr : Nat → Int32) (sa : Nat → Int32) (le : Nat → UInt64) (pn : Int32) (dl : Nat → UInt32) (pl : Nat → Int32) (dr : Nat → Int32) (sp : Nat → Int32) (p1 : Int32) : Nat → Int32 → UInt64 → Int32 → Prop
  | 0, x12_0, x12_1, x12_2 => False
  | fuel + 1, x12_0, x12_1, x12_2 => ((¬ 4 < x12_2) → n_X5_leftWith fh lh ee tk mo su lv si ga sc fo ln gr sa le pn dl pl dr sp x12_2 p1) ∧
  ((¬ 4 < x12_2) → (0 ≤ (Op.cmpValue (FP.dcmp (f_X5_leftWith fh lh ee tk mo su lv si ga sc fo ln gr sa le pn dl pl dr sp x12_2 p1) x12_1) .g)) → n_X5_bestSluice_12 fh lh ee tk mo su lv si ga sc fo ln gr sa le pn dl pl dr sp p1 fuel x12_0 x12_1 (x12_2 + 1)) ∧
  ((¬ 4 < x12_2) → (¬ 0 ≤ (Op.cmpValue (FP.dcmp (f_X5_leftWith fh lh ee tk mo su lv si ga sc fo ln gr sa le pn dl pl dr sp x12_2 p1) x12_1) .g)) → n_X5_bestSluice_12 fh lh ee tk mo su lv si ga sc fo ln gr sa le pn dl pl dr sp p1 fuel x12_2 (f_X5_leftWith fh lh ee tk mo su lv si ga sc fo ln gr sa le pn dl pl dr sp x12_2 p1) (x12_2 + 1))
def f_X5_bestSluice (fh : Int32) (lh : Int32) (ee : Int32) (tk : Int32) (mo : Int32) (su : UInt64) (lv : UInt64) (si : UInt32) (ga : Int32) (sc : Int32) (fo : UInt64) (ln : Int32) (gr : Nat → Int32) (sa : Nat → Int32) (le : Nat → UInt64) (pn : Int32) (dl : Nat → UInt32) (pl : Nat → Int32) (dr : Nat → Int32) (sp : Nat → Int32) (p1 : Int32) : Int32 :=
  f_X5_bestSluice_12 fh lh ee tk mo su lv si ga sc fo ln gr sa le pn dl pl dr sp p1 6 0 (f_X5_leftWith fh lh ee tk mo su lv si ga sc fo ln gr sa le pn dl pl dr sp 0 p1) 1
def n_X5_bestSluice (fh : Int32) (lh : Int32) (ee : Int32) (tk : Int32) (mo : Int32) (su : UInt64) (lv : UInt64) (si : UInt32) (ga : Int32) (sc : Int32) (fo : UInt64) (ln : Int32) (gr : Nat → Int32) (sa : Nat → Int32) (le : Nat → UInt64) (pn : Int32) (dl : Nat → UInt32) (pl : Nat → Int32) (dr : Nat → Int32) (sp : Nat → Int32) (p1 : Int32) : Prop :=
  (n_X5_leftWith fh lh ee tk mo su lv si ga sc fo ln gr sa le pn dl pl dr sp 0 p1) ∧
  (n_X5_bestSluice_12 fh lh ee tk mo su lv si ga sc fo ln gr sa le pn dl pl dr sp p1 6 0 (f_X5_leftWith fh lh ee tk mo su lv si ga sc fo ln gr sa le pn dl pl dr sp 0 p1) 1)
def f_X5_best (fh : Int32) (lh : Int32) (ee : Int32) (tk : Int32) (mo : Int32) (su : UInt64) (lv : UInt64) (si : UInt32) (ga : Int32) (sc : Int32) (fo : UInt64) (ln : Int32) (gr : Nat → Int32) (sa : Nat → Int32) (le : Nat → UInt64) (pn : Int32) (dl : Nat → UInt32) (pl : Nat → Int32) (dr : Nat → Int32) (sp : Nat → Int32) (p1 : Int32) : Int32 :=
  f_X5_bestSluice fh lh ee tk mo su lv si ga sc fo ln gr sa le pn dl pl dr sp p1
def n_X5_best (fh : Int32) (lh : Int32) (ee : Int32) (tk : Int32) (mo : Int32) (su : UInt64) (lv : UInt64) (si : UInt32) (ga : Int32) (sc : Int32) (fo : UInt64) (ln : Int32) (gr : Nat → Int32) (sa : Nat → Int32) (le : Nat → UInt64) (pn : Int32) (dl : Nat → UInt32) (pl : Nat → Int32) (dr : Nat → Int32) (sp : Nat → Int32) (p1 : Int32) : Prop :=
  (¬ (f_X5_isWithin p1 1 48) = 0) ∧
  (n_X5_bestSluice fh lh ee tk mo su lv si ga sc fo ln gr sa le pn dl pl dr sp p1)
def f_X5_joinedPair_6 (pl : Nat → Int32) (dr : Nat → Int32) (sp : Nat → Int32) (p3 : Int32) : Nat → Int64 → Int32 → Int64 × Int32
  | 0, x6_0, x6_1 => (x6_0, x6_1)
  | fuel + 1, x6_0, x6_1 => if 2 < x6_1 then (x6_0, x6_1) else (f_X5_joinedPair_6 pl dr sp p3 fuel (f_X5_joined x6_0 ((f_X5_pairAnswer pl dr sp p3 x6_1).toInt64)) (x6_1 + 1))
def n_X5_joinedPair_6 (pl : Nat → Int32) (dr : Nat → Int32) (sp : Nat → Int32) (p3 : Int32) : Nat → Int64 → Int32 → Prop
  | 0, x6_0, x6_1 => False
  | fuel + 1, x6_0, x6_1 => ((¬ 2 < x6_1) → n_X5_pairAnswer p3 x6_1) ∧
  ((¬ 2 < x6_1) → n_X5_joinedPair_6 pl dr sp p3 fuel (f_X5_joined x6_0 ((f_X5_pairAnswer pl dr sp p3 x6_1).toInt64)) (x6_1 + 1))
def f_X5_joinedPair (dl : Nat → UInt32) (pl : Nat → Int32) (dr : Nat → Int32) (sp : Nat → Int32) (p1 : Int64) (p3 : Int32) : Int64 :=
  (match f_X5_joinedPair_6 pl dr sp p3 4 p1 0 with | (x6e_7, x6e_8) => f_X5_joined x6e_7 (f_X5_cutOf1024 (FP.f2d (dl p3.toNatClampNeg))))
def n_X5_joinedPair (dl : Nat → UInt32) (pl : Nat → Int32) (dr : Nat → Int32) (sp : Nat → Int32) (p1 : Int64) (p3 : Int32) : Prop :=
  (n_X5_joinedPair_6 pl dr sp p3 4 p1 0) ∧
  (∀ (x6e_7 : Int64) (x6e_8 : Int32), (x6e_7, x6e_8) = f_X5_joinedPair_6 pl dr sp p3 4 p1 0 → vp_in p3 3) ∧
  (∀ (x6e_7 : Int64) (x6e_8 : Int32), (x6e_7, x6e_8) = f_X5_joinedPair_6 pl dr sp p3 4 p1 0 → vf_n64 (FP.f2d (dl p3.toNatClampNeg))) ∧
  (∀ (x6e_7 : Int64) (x6e_8 : Int32), (x6e_7, x6e_8) = f_X5_joinedPair_6 pl dr sp p3 4 p1 0 → n_X5_cutOf1024 (FP.f2d (dl p3.toNatClampNeg)))
def f_X5_joinedLot_6 (ow : Nat → Int32) (gr : Nat → Int32) (we : Nat → Int32) (du : Nat → Int32) (sa : Nat → Int32) (pn : Int32) (pl : Nat → Int32) (p3 : Int32) : Nat → Int64 → Int32 → Int64 × Int32
  | 0, x6_0, x6_1 => (x6_0, x6_1)
  | fuel + 1, x6_0, x6_1 => if 5 < x6_1 then (x6_0, x6_1) else (f_X5_joinedLot_6 ow gr we du sa pn pl p3 fuel (f_X5_joined x6_0 ((f_X5_lotAnswer ow gr we du sa pn pl p3 x6_1).toInt64)) (x6_1 + 1))
def n_X5_joinedLot_6 (ow : Nat → Int32) (gr : Nat → Int32) (we : Nat → Int32) (du : Nat → Int32) (sa : Nat → Int32) (pn : Int32) (pl : Nat → Int32) (p3 : Int32) : Nat → Int64 → Int32 → Prop
  | 0, x6_0, x6_1 => False
  | fuel + 1, x6_0, x6_1 => ((¬ 5 < x6_1) → n_X5_lotAnswer pn pl p3 x6_1) ∧
  ((¬ 5 < x6_1) → n_X5_joinedLot_6 ow gr we du sa pn pl p3 fuel (f_X5_joined x6_0 ((f_X5_lotAnswer ow gr we du sa pn pl p3 x6_1).toInt64)) (x6_1 + 1))
def f_X5_joinedLot (fh : Int32) (lh : Int32) (ee : Int32) (tk : Int32) (mo : Int32) (su : UInt64) (lv : UInt64) (si : UInt32) (ga : Int32) (sl : Int32) (sc : Int32) (fo : UInt64) (ln : Int32) (ow : Nat → Int32) (gr : Nat → Int32) (we : Nat → Int32) (du : Nat → Int32) (sa : Nat → Int32) (le : Nat → UInt64) (pn : Int32) (dl : Nat → UInt32) (pl : Nat → Int32) (dr : Nat → Int32) (sp : Nat → Int32) (p1 : Int64) (p3 : Int32) : Int64 :=
  (match f_X5_joinedLot_6 ow gr we du sa pn pl p3 8 p1 0 with | (x6e_7, x6e_8) => f_X5_joined (f_X5_joined x6e_7 (f_X5_cutOf1024 (le p3.toNatClampNeg))) ((f_X5_ticksToDone fh lh ee tk mo su lv si ga sl sc fo ln gr sa le pn dl pl dr sp p3).toInt64))
def n_X5_joinedLot (fh : Int32) (lh : Int32) (ee : Int32) (tk : Int32) (mo : Int32) (su : UInt64) (lv : UInt64) (si : UInt32) (ga : Int32) (sl : Int32) (sc : Int32) (fo : UInt64) (ln : Int32) (ow : Nat → Int32) (gr : Nat → Int32) (we : Nat → Int32) (du : Nat → Int32) (sa : Nat → Int32) (le : Nat → UInt64) (pn : Int32) (dl : Nat → UInt32) (pl : Nat → Int32) (dr : Nat → Int32) (sp : Nat → Int32) (p1 : Int64) (p3 : Int32) : Prop :=
  (n_X5_joinedLot_6 ow gr we du sa pn pl p3 8 p1 0) ∧
  (∀ (x6e_7 : Int64) (x6e_8 : Int32), (x6e_7, x6e_8) = f_X5_joinedLot_6 ow gr we du sa pn pl p3 8 p1 0 → vp_in p3 10) ∧
  (∀ (x6e_7 : Int64) (x6e_8 : Int32), (x6e_7, x6e_8) = f_X5_joinedLot_6 ow gr we du sa pn pl p3 8 p1 0 → n_X5_cutOf1024 (le p3.toNatClampNeg)) ∧
  (∀ (x6e_7 : Int64) (x6e_8 : Int32), (x6e_7, x6e_8) = f_X5_joinedLot_6 ow gr we du sa pn pl p3 8 p1 0 → n_X5_ticksToDone fh lh ee tk mo su lv si ga sl sc fo ln gr sa le pn dl pl dr sp p3)
def f_X5_digest_6 (lk : Int32) (rf : Int32) (pu : Int32) (fh : Int32) (lh : Int32) (ee : Int32) (tk : Int32) (mo : Int32) (ga : Int32) (sl : Int32) (ln : Int32) (sa : Nat → Int32) (pn : Int32) (sp : Nat → Int32) : Nat → Int64 → Int32 → Int64 × Int32
  | 0, x6_0, x6_1 => (x6_0, x6_1)
  | fuel + 1, x6_0, x6_1 => if 16 < x6_1 then (x6_0, x6_1) else (f_X5_digest_6 lk rf pu fh lh ee tk mo ga sl ln sa pn sp fuel (f_X5_joined x6_0 ((f_X5_manyAnswer lk rf pu fh lh ee tk mo ga sl ln sa pn sp x6_1).toInt64)) (x6_1 + 1))
def n_X5_digest_6 (lk : Int32) (rf : Int32) (pu : Int32) (fh : Int32) (lh : Int32) (ee : Int32) (tk : Int32) (mo : Int32) (ga : Int32) (sl : Int32) (ln : Int32) (sa : Nat → Int32) (pn : Int32) (sp : Nat → Int32) : Nat → Int64 → Int32 → Prop
  | 0, x6_0, x6_1 => False
  | fuel + 1, x6_0, x6_1 => ((¬ 16 < x6_1) → n_X5_manyAnswer ln sa pn sp x6_1) ∧
  ((¬ 16 < x6_1) → n_X5_digest_6 lk rf pu fh lh ee tk mo ga sl ln sa pn sp fuel (f_X5_joined x6_0 ((f_X5_manyAnswer lk rf pu fh lh ee tk mo ga sl ln sa pn sp x6_1).toInt64)) (x6_1 + 1))
def f_X5_digest_70 (pn : Int32) (dl : Nat → UInt32) (pl : Nat → Int32) (dr : Nat → Int32) (sp : Nat → Int32) : Nat → Int64 → Int32 → Int64 × Int32
  | 0, x70_0, x70_1 => (x70_0, x70_1)
  | fuel + 1, x70_0, x70_1 => if pn ≤ x70_1 then (x70_0, x70_1) else (f_X5_digest_70 pn dl pl dr sp fuel (f_X5_joinedPair dl pl dr sp x70_0 x70_1) (x70_1 + 1))
def n_X5_digest_70 (pn : Int32) (dl : Nat → UInt32) (pl : Nat → Int32) (dr : Nat → Int32) (sp : Nat → Int32) : Nat → Int64 → Int32 → Prop
  | 0, x70_0, x70_1 => False
  | fuel + 1, x70_0, x70_1 => ((¬ pn ≤ x70_1) → n_X5_joinedPair dl pl dr sp x70_0 x70_1) ∧
  ((¬ pn ≤ x70_1) → n_X5_digest_70 pn dl pl dr sp fuel (f_X5_joinedPair dl pl dr sp x70_0 x70_1) (x70_1 + 1))
def f_X5_digest_99 (fh : Int32) (lh : Int32) (ee : Int32) (tk : Int32) (mo : Int32) (su : UInt64) (lv : UInt64) (si : UInt32) (ga : Int32) (sl : Int32) (sc : Int32) (fo : UInt64) (ln : Int32) (ow : Nat → Int32) (gr : Nat → Int32) (we : Nat → Int32) (du : Nat → Int32) (sa : Nat → Int32) (le : Nat → UInt64) (pn : Int32) (dl : Nat → UInt32) (pl : Nat → Int32) (dr : Nat → Int32) (sp : Nat → Int32) : Nat → Int64 → Int32 → Int64 × Int32
  | 0, x99_0, x99_1 => (x99_0, x99_1)
  | fuel + 1, x99_0, x99_1 => if ln ≤ x99_1 then (x99_0, x99_1) else (f_X5_digest_99 fh lh ee tk mo su lv si ga sl sc fo ln ow gr we du sa le pn dl pl dr sp fuel (f_X5_joinedLot fh lh ee tk mo su lv si ga sl sc fo ln ow gr we du sa le pn dl pl dr sp x99_0 x99_1) (x99_1 + 1))
def n_X5_digest_99 (fh : Int32) (lh : Int32) (ee : Int32) (tk : Int32) (mo : Int32) (su : UInt64) (lv : UInt64) (si : UInt32) (ga : Int32) (sl : Int32) (sc : Int32) (fo : UInt64) (ln : Int32) (ow : Nat → Int32) (gr : Nat → Int32) (we : Nat → Int32) (du : Nat → Int32) (sa : Nat → Int32) (le : Nat → UInt64) (pn : Int32) (dl : Nat → UInt32) (pl : Nat → Int32) (dr : Nat → Int32) (sp : Nat → Int32) : Nat → Int64 → Int32 → Prop
  | 0, x99_0, x99_1 => False
  | fuel + 1, x99_0, x99_1 => ((¬ ln ≤ x99_1) → n_X5_joinedLot fh lh ee tk mo su lv si ga sl sc fo ln ow gr we du sa le pn dl pl dr sp x99_0 x99_1) ∧
  ((¬ ln ≤ x99_1) → n_X5_digest_99 fh lh ee tk mo su lv si ga sl sc fo ln ow gr we du sa le pn dl pl dr sp fuel (f_X5_joinedLot fh lh ee tk mo su lv si ga sl sc fo ln ow gr we du sa le pn dl pl dr sp x99_0 x99_1) (x99_1 + 1))
def f_X5_digest_128 (ln : Int32) (ow : Nat → Int32) (we : Nat → Int32) (sa : Nat → Int32) : Nat → Int64 → Int32 → Int64 × Int32
  | 0, x128_0, x128_1 => (x128_0, x128_1)
  | fuel + 1, x128_0, x128_1 => if 4 ≤ x128_1 then (x128_0, x128_1) else (f_X5_digest_128 ln ow we sa fuel (f_X5_joined x128_0 ((f_X0_weightOf ln ow we sa x128_1 0).toInt64)) (x128_1 + 1))
def n_X5_digest_128 (ln : Int32) (ow : Nat → Int32) (we : Nat → Int32) (sa : Nat → Int32) : Nat → Int64 → Int32 → Prop
  | 0, x128_0, x128_1 => False
  | fuel + 1, x128_0, x128_1 => ((¬ 4 ≤ x128_1) → n_X0_weightOf ln ow we sa x128_1 0) ∧
  ((¬ 4 ≤ x128_1) → n_X5_digest_128 ln ow we sa fuel (f_X5_joined x128_0 ((f_X0_weightOf ln ow we sa x128_1 0).toInt64)) (x128_1 + 1))
def f_X5_digest (lk : Int32) (rf : Int32) (pu : Int32) (to : UInt64) (fh : Int32) (lh : Int32) (ee : Int32) (tk : Int32) (mo : Int32) (su : UInt64) (lv : UInt64) (si : UInt32) (ga : Int32) (sl : Int32) (sc : Int32) (fo : UInt64) (ln : Int32) (ow : Nat → Int32) (gr : Nat → Int32) (we : Nat → Int32) (du : Nat → Int32) (sa : Nat → Int32) (le : Nat → UInt64) (pn : Int32) (dl : Nat → UInt32) (pl : Nat → Int32) (dr : Nat → Int32) (sp : Nat → Int32) : Int64 :=
  (match f_X5_digest_6 lk rf pu fh lh ee tk mo ga sl ln sa pn sp 18 58306 0 with | (x6e_7, x6e_8) => (match f_X5_digest_70 pn dl pl dr sp 5 (f_X5_joined (f_X5_joined (f_X5_joined x6e_7 (f_X5_cutOf1024 (f_X5_pondAnswer to tk mo lv si fo 0))) (f_X5_cutOf1024 (f_X5_pondAnswer to tk mo lv si fo 1))) (f_X5_cutOf1024 (f_X5_pondAnswer to tk mo lv si fo 4))) 0 with | (x70e_29, x70e_30) => (match f_X5_digest_99 fh lh ee tk mo su lv si ga sl sc fo ln ow gr we du sa le pn dl pl dr sp 12 x70e_29 0 with | (x99e_60, x99e_61) => (match f_X5_digest_128 ln ow we sa 6 x99e_60 0 with | (x128e_92, x128e_93) => f_X5_joined (f_X5_joined x128e_92 ((f_X4_ticksToHigh tk).toInt64)) ((f_X5_bestSluice fh lh ee tk mo su lv si ga sc fo ln gr sa le pn dl pl dr sp 24).toInt64)))))
def n_X5_digest (lk : Int32) (rf : Int32) (pu : Int32) (to : UInt64) (fh : Int32) (lh : Int32) (ee : Int32) (tk : Int32) (mo : Int32) (su : UInt64) (lv : UInt64) (si : UInt32) (ga : Int32) (sl : Int32) (sc : Int32) (fo : UInt64) (ln : Int32) (ow : Nat → Int32) (gr : Nat → Int32) (we : Nat → Int32) (du : Nat → Int32) (sa : Nat → Int32) (le : Nat → UInt64) (pn : Int32) (dl : Nat → UInt32) (pl : Nat → Int32) (dr : Nat → Int32) (sp : Nat → Int32) : Prop :=
  (n_X5_digest_6 lk rf pu fh lh ee tk mo ga sl ln sa pn sp 18 58306 0) ∧
  (∀ (x6e_7 : Int64) (x6e_8 : Int32), (x6e_7, x6e_8) = f_X5_digest_6 lk rf pu fh lh ee tk mo ga sl ln sa pn sp 18 58306 0 → n_X5_pondAnswer tk mo si 0) ∧
  (∀ (x6e_7 : Int64) (x6e_8 : Int32), (x6e_7, x6e_8) = f_X5_digest_6 lk rf pu fh lh ee tk mo ga sl ln sa pn sp 18 58306 0 → n_X5_cutOf1024 (f_X5_pondAnswer to tk mo lv si fo 0)) ∧
  (∀ (x6e_7 : Int64) (x6e_8 : Int32), (x6e_7, x6e_8) = f_X5_digest_6 lk rf pu fh lh ee tk mo ga sl ln sa pn sp 18 58306 0 → n_X5_pondAnswer tk mo si 1) ∧
  (∀ (x6e_7 : Int64) (x6e_8 : Int32), (x6e_7, x6e_8) = f_X5_digest_6 lk rf pu fh lh ee tk mo ga sl ln sa pn sp 18 58306 0 → n_X5_cutOf1024 (f_X5_pondAnswer to tk mo lv si fo 1)) ∧
  (∀ (x6e_7 : Int64) (x6e_8 : Int32), (x6e_7, x6e_8) = f_X5_digest_6 lk rf pu fh lh ee tk mo ga sl ln sa pn sp 18 58306 0 → n_X5_pondAnswer tk mo si 4) ∧
  (∀ (x6e_7 : Int64) (x6e_8 : Int32), (x6e_7, x6e_8) = f_X5_digest_6 lk rf pu fh lh ee tk mo ga sl ln sa pn sp 18 58306 0 → n_X5_cutOf1024 (f_X5_pondAnswer to tk mo lv si fo 4)) ∧
  (∀ (x6e_7 : Int64) (x6e_8 : Int32), (x6e_7, x6e_8) = f_X5_digest_6 lk rf pu fh lh ee tk mo ga sl ln sa pn sp 18 58306 0 → n_X5_digest_70 pn dl pl dr sp 5 (f_X5_joined (f_X5_joined (f_X5_joined x6e_7 (f_X5_cutOf1024 (f_X5_pondAnswer to tk mo lv si fo 0))) (f_X5_cutOf1024 (f_X5_pondAnswer to tk mo lv si fo 1))) (f_X5_cutOf1024 (f_X5_pondAnswer to tk mo lv si fo 4))) 0) ∧
  (∀ (x6e_7 : Int64) (x6e_8 : Int32), (x6e_7, x6e_8) = f_X5_digest_6 lk rf pu fh lh ee tk mo ga sl ln sa pn sp 18 58306 0 → ∀ (x70e_29 : Int64) (x70e_30 : Int32), (x70e_29, x70e_30) = f_X5_digest_70 pn dl pl dr sp 5 (f_X5_joined (f_X5_joined (f_X5_joined x6e_7 (f_X5_cutOf1024 (f_X5_pondAnswer to tk mo lv si fo 0))) (f_X5_cutOf1024 (f_X5_pondAnswer to tk mo lv si fo 1))) (f_X5_cutOf1024 (f_X5_pondAnswer to tk mo lv si fo 4))) 0 → n_X5_digest_99 fh lh ee tk mo su lv si ga sl sc fo ln ow gr we du sa le pn dl pl dr sp 12 x70e_29 0) ∧
  (∀ (x6e_7 : Int64) (x6e_8 : Int32), (x6e_7, x6e_8) = f_X5_digest_6 lk rf pu fh lh ee tk mo ga sl ln sa pn sp 18 58306 0 → ∀ (x70e_29 : Int64) (x70e_30 : Int32), (x70e_29, x70e_30) = f_X5_digest_70 pn dl pl dr sp 5 (f_X5_joined (f_X5_joined (f_X5_joined x6e_7 (f_X5_cutOf1024 (f_X5_pondAnswer to tk mo lv si fo 0))) (f_X5_cutOf1024 (f_X5_pondAnswer to tk mo lv si fo 1))) (f_X5_cutOf1024 (f_X5_pondAnswer to tk mo lv si fo 4))) 0 → ∀ (x99e_60 : Int64) (x99e_61 : Int32), (x99e_60, x99e_61) = f_X5_digest_99 fh lh ee tk mo su lv si ga sl sc fo ln ow gr we du sa le pn dl pl dr sp 12 x70e_29 0 → n_X5_digest_128 ln ow we sa 6 x99e_60 0) ∧
  (∀ (x6e_7 : Int64) (x6e_8 : Int32), (x6e_7, x6e_8) = f_X5_digest_6 lk rf pu fh lh ee tk mo ga sl ln sa pn sp 18 58306 0 → ∀ (x70e_29 : Int64) (x70e_30 : Int32), (x70e_29, x70e_30) = f_X5_digest_70 pn dl pl dr sp 5 (f_X5_joined (f_X5_joined (f_X5_joined x6e_7 (f_X5_cutOf1024 (f_X5_pondAnswer to tk mo lv si fo 0))) (f_X5_cutOf1024 (f_X5_pondAnswer to tk mo lv si fo 1))) (f_X5_cutOf1024 (f_X5_pondAnswer to tk mo lv si fo 4))) 0 → ∀ (x99e_60 : Int64) (x99e_61 : Int32), (x99e_60, x99e_61) = f_X5_digest_99 fh lh ee tk mo su lv si ga sl sc fo ln ow gr we du sa le pn dl pl dr sp 12 x70e_29 0 → ∀ (x128e_92 : Int64) (x128e_93 : Int32), (x128e_92, x128e_93) = f_X5_digest_128 ln ow we sa 6 x99e_60 0 → n_X4_ticksToHigh tk) ∧
  (∀ (x6e_7 : Int64) (x6e_8 : Int32), (x6e_7, x6e_8) = f_X5_digest_6 lk rf pu fh lh ee tk mo ga sl ln sa pn sp 18 58306 0 → ∀ (x70e_29 : Int64) (x70e_30 : Int32), (x70e_29, x70e_30) = f_X5_digest_70 pn dl pl dr sp 5 (f_X5_joined (f_X5_joined (f_X5_joined x6e_7 (f_X5_cutOf1024 (f_X5_pondAnswer to tk mo lv si fo 0))) (f_X5_cutOf1024 (f_X5_pondAnswer to tk mo lv si fo 1))) (f_X5_cutOf1024 (f_X5_pondAnswer to tk mo lv si fo 4))) 0 → ∀ (x99e_60 : Int64) (x99e_61 : Int32), (x99e_60, x99e_61) = f_X5_digest_99 fh lh ee tk mo su lv si ga sl sc fo ln ow gr we du sa le pn dl pl dr sp 12 x70e_29 0 → ∀ (x128e_92 : Int64) (x128e_93 : Int32), (x128e_92, x128e_93) = f_X5_digest_128 ln ow we sa 6 x99e_60 0 → n_X5_bestSluice fh lh ee tk mo su lv si ga sc fo ln gr sa le pn dl pl dr sp 24)
def f_L_below (p1 : Int32) (p2 : Int32) : Int32 :=
  (p1 &&& 2147483647) - (p1 &&& 2147483647) / p2 * p2
def n_L_below (p2 : Int32) : Prop :=
  (¬ p2 = 0)
def f_L_cell (p2 : Int32) (sL : Nat) (xs : Nat → Int32) : Int32 :=
  if (Int32.ofNat sL) ≤ p2 then (790386105 * (p2 + 3)) else (xs p2.toNatClampNeg)
def n_L_cell (p2 : Int32) (sL : Nat) : Prop :=
  ((¬ (Int32.ofNat sL) ≤ p2) → vp_in p2 sL)
def f_X6_draw (dw : Int32) (p1 : Int32) (sL : Nat) (xs : Nat → Int32) : Int32 × Int32 :=
  (f_L_below (((f_L_cell (dw - dw / 24 * 24) sL xs) >>> (((dw / 24) - (dw / 24) / 8 * 8) &&& 31)) + (419 * dw)) p1, dw + 1)
def n_X6_draw (dw : Int32) (p1 : Int32) (sL : Nat) : Prop :=
  (n_L_cell (dw - dw / 24 * 24) sL) ∧
  (n_L_below p1)
def f_X6_age (tmo : Int32) (p1 : Int32) : Int32 :=
  ((p1 / 48) + tmo) - ((p1 / 48) + tmo) / 30 * 30
def f_X6_spring (tmo : Int32) (p1 : Int32) : Int32 :=
  if (f_X6_age tmo p1) ≤ 15 then (if 8 ≤ (15 - (f_X6_age tmo p1)) then (if 15 ≤ (f_X6_age tmo p1) then (30 - (f_X6_age tmo p1)) else (f_X6_age tmo p1)) else (15 - (f_X6_age tmo p1))) else (if 8 ≤ ((f_X6_age tmo p1) - 15) then (if 15 ≤ (f_X6_age tmo p1) then (30 - (f_X6_age tmo p1)) else (f_X6_age tmo p1)) else ((f_X6_age tmo p1) - 15))
def f_X6_sea_19 : Nat → UInt64 → UInt64
  | 0, x19_0 => x19_0
  | fuel + 1, x19_0 => if (Op.cmpValue (FP.dcmp x19_0 4627659723355717632) .l) < 0 then x19_0 else (f_X6_sea_19 fuel (FP.dsub x19_0 4627659723355717632))
def n_X6_sea_19 : Nat → UInt64 → Prop
  | 0, x19_0 => False
  | fuel + 1, x19_0 => ((¬ (Op.cmpValue (FP.dcmp x19_0 4627659723355717632) .l) < 0) → vf_n64 (FP.dsub x19_0 4627659723355717632)) ∧
  ((¬ (Op.cmpValue (FP.dcmp x19_0 4627659723355717632) .l) < 0) → n_X6_sea_19 fuel (FP.dsub x19_0 4627659723355717632))
def f_X6_sea (tmo : Int32) (tsu : UInt64) (p1 : Int32) : UInt64 :=
  (match f_X6_sea_19 400 (FP.i2d p1) with | x19e_8 => if 0 ≤ (Op.cmpValue (FP.dcmp x19e_8 4622945017495814144) .g) then (FP.dsub (FP.dadd tsu (FP.dmul (FP.dsub 4616189618054758400 (FP.dmul 4598175219545276416 (FP.i2d (f_X6_spring tmo p1)))) (FP.ddiv (FP.dsub 4627659723355717632 x19e_8) 4623367229960880128))) (FP.dmul (FP.dsub 4616189618054758400 (FP.dmul 4598175219545276416 (FP.i2d (f_X6_spring tmo p1)))) 4602678819172646912)) else (FP.dsub (FP.dadd tsu (FP.dmul (FP.dsub 4616189618054758400 (FP.dmul 4598175219545276416 (FP.i2d (f_X6_spring tmo p1)))) (FP.ddiv x19e_8 4622945017495814144))) (FP.dmul (FP.dsub 4616189618054758400 (FP.dmul 4598175219545276416 (FP.i2d (f_X6_spring tmo p1)))) 4602678819172646912)))
def n_X6_sea (tmo : Int32) (tsu : UInt64) (p1 : Int32) : Prop :=
  (vf_n64 (FP.dmul 4598175219545276416 (FP.i2d (f_X6_spring tmo p1)))) ∧
  (vf_n64 (FP.dsub 4616189618054758400 (FP.dmul 4598175219545276416 (FP.i2d (f_X6_spring tmo p1))))) ∧
  (n_X6_sea_19 400 (FP.i2d p1)) ∧
  (∀ (x19e_8 : UInt64), x19e_8 = f_X6_sea_19 400 (FP.i2d p1) → vf_n64 (FP.dsub 4627659723355717632 x19e_8)) ∧
  (∀ (x19e_8 : UInt64), x19e_8 = f_X6_sea_19 400 (FP.i2d p1) → vf_n64 (FP.ddiv (FP.dsub 4627659723355717632 x19e_8) 4623367229960880128)) ∧
  (∀ (x19e_8 : UInt64), x19e_8 = f_X6_sea_19 400 (FP.i2d p1) → (0 ≤ (Op.cmpValue (FP.dcmp x19e_8 4622945017495814144) .g)) → vf_n64 (FP.dmul (FP.dsub 4616189618054758400 (FP.dmul 4598175219545276416 (FP.i2d (f_X6_spring tmo p1)))) (FP.ddiv (FP.dsub 4627659723355717632 x19e_8) 4623367229960880128))) ∧
  (∀ (x19e_8 : UInt64), x19e_8 = f_X6_sea_19 400 (FP.i2d p1) → (0 ≤ (Op.cmpValue (FP.dcmp x19e_8 4622945017495814144) .g)) → vf_n64 (FP.dadd tsu (FP.dmul (FP.dsub 4616189618054758400 (FP.dmul 4598175219545276416 (FP.i2d (f_X6_spring tmo p1)))) (FP.ddiv (FP.dsub 4627659723355717632 x19e_8) 4623367229960880128)))) ∧
  (∀ (x19e_8 : UInt64), x19e_8 = f_X6_sea_19 400 (FP.i2d p1) → (0 ≤ (Op.cmpValue (FP.dcmp x19e_8 4622945017495814144) .g)) → vf_n64 (FP.dmul (FP.dsub 4616189618054758400 (FP.dmul 4598175219545276416 (FP.i2d (f_X6_spring tmo p1)))) 4602678819172646912)) ∧
  (∀ (x19e_8 : UInt64), x19e_8 = f_X6_sea_19 400 (FP.i2d p1) → (0 ≤ (Op.cmpValue (FP.dcmp x19e_8 4622945017495814144) .g)) → vf_n64 (FP.dsub (FP.dadd tsu (FP.dmul (FP.dsub 4616189618054758400 (FP.dmul 4598175219545276416 (FP.i2d (f_X6_spring tmo p1)))) (FP.ddiv (FP.dsub 4627659723355717632 x19e_8) 4623367229960880128))) (FP.dmul (FP.dsub 4616189618054758400 (FP.dmul 4598175219545276416 (FP.i2d (f_X6_spring tmo p1)))) 4602678819172646912))) ∧
  (∀ (x19e_8 : UInt64), x19e_8 = f_X6_sea_19 400 (FP.i2d p1) → (¬ 0 ≤ (Op.cmpValue (FP.dcmp x19e_8 4622945017495814144) .g)) → vf_n64 (FP.ddiv x19e_8 4622945017495814144)) ∧
  (∀ (x19e_8 : UInt64), x19e_8 = f_X6_sea_19 400 (FP.i2d p1) → (¬ 0 ≤ (Op.cmpValue (FP.dcmp x19e_8 4622945017495814144) .g)) → vf_n64 (FP.dmul (FP.dsub 4616189618054758400 (FP.dmul 4598175219545276416 (FP.i2d (f_X6_spring tmo p1)))) (FP.ddiv x19e_8 4622945017495814144))) ∧
  (∀ (x19e_8 : UInt64), x19e_8 = f_X6_sea_19 400 (FP.i2d p1) → (¬ 0 ≤ (Op.cmpValue (FP.dcmp x19e_8 4622945017495814144) .g)) → vf_n64 (FP.dadd tsu (FP.dmul (FP.dsub 4616189618054758400 (FP.dmul 4598175219545276416 (FP.i2d (f_X6_spring tmo p1)))) (FP.ddiv x19e_8 4622945017495814144)))) ∧
  (∀ (x19e_8 : UInt64), x19e_8 = f_X6_sea_19 400 (FP.i2d p1) → (¬ 0 ≤ (Op.cmpValue (FP.dcmp x19e_8 4622945017495814144) .g)) → vf_n64 (FP.dmul (FP.dsub 4616189618054758400 (FP.dmul 4598175219545276416 (FP.i2d (f_X6_spring tmo p1)))) 4602678819172646912)) ∧
  (∀ (x19e_8 : UInt64), x19e_8 = f_X6_sea_19 400 (FP.i2d p1) → (¬ 0 ≤ (Op.cmpValue (FP.dcmp x19e_8 4622945017495814144) .g)) → vf_n64 (FP.dsub (FP.dadd tsu (FP.dmul (FP.dsub 4616189618054758400 (FP.dmul 4598175219545276416 (FP.i2d (f_X6_spring tmo p1)))) (FP.ddiv x19e_8 4622945017495814144))) (FP.dmul (FP.dsub 4616189618054758400 (FP.dmul 4598175219545276416 (FP.i2d (f_X6_spring tmo p1)))) 4602678819172646912)))
def f_X6_area (tsi : UInt32) : UInt64 :=
  FP.dsub 4620693217682128896 (FP.f2d tsi)
def n_X6_area (tsi : UInt32) : Prop :=
  (vf_n64 (FP.f2d tsi)) ∧
  (vf_n64 (FP.dsub 4620693217682128896 (FP.f2d tsi)))
def f_X6_isAwake_13 (ttk : Int32) (tlh : Int32) : Nat → Int32 → Int32
  | 0, x13_0 => 0
  | fuel + 1, x13_0 => if x13_0 = (ttk - ttk / 48 * 48) then 1 else (if x13_0 = tlh then 0 else (f_X6_isAwake_13 ttk tlh fuel ((x13_0 + 1) - (x13_0 + 1) / 48 * 48)))
def n_X6_isAwake_13 (ttk : Int32) (tlh : Int32) : Nat → Int32 → Prop
  | 0, x13_0 => False
  | fuel + 1, x13_0 => ((¬ x13_0 = (ttk - ttk / 48 * 48)) → (¬ x13_0 = tlh) → n_X6_isAwake_13 ttk tlh fuel ((x13_0 + 1) - (x13_0 + 1) / 48 * 48))
def f_X6_isAwake (ttk : Int32) (tfh : Int32) (tlh : Int32) : Int32 :=
  f_X6_isAwake_13 ttk tlh 49 tfh
def n_X6_isAwake (ttk : Int32) (tfh : Int32) (tlh : Int32) : Prop :=
  (n_X6_isAwake_13 ttk tlh 49 tfh)
def f_X6_count_14 (p1 : Int32) (n : Nat) (rc : Nat → Nat → Int32) : Nat → Int32 → Int32 → Int32
  | 0, x14_0, x14_1 => 0
  | fuel + 1, x14_0, x14_1 => if (nI n) ≤ x14_1 then x14_0 else (if (rc x14_1.toNatClampNeg (4 : Int32).toNatClampNeg) = p1 then (f_X6_count_14 p1 n rc fuel (x14_0 + 1) (x14_1 + 1)) else (f_X6_count_14 p1 n rc fuel (x14_0 + 0) (x14_1 + 1)))
def n_X6_count_14 (p1 : Int32) (n : Nat) (rc : Nat → Nat → Int32) : Nat → Int32 → Int32 → Prop
  | 0, x14_0, x14_1 => False
  | fuel + 1, x14_0, x14_1 => ((¬ (nI n) ≤ x14_1) → vp_in x14_1 n) ∧
  ((¬ (nI n) ≤ x14_1) → vp_in 4 5) ∧
  ((¬ (nI n) ≤ x14_1) → (¬ (rc x14_1.toNatClampNeg (4 : Int32).toNatClampNeg) = p1) → n_X6_count_14 p1 n rc fuel (x14_0 + 0) (x14_1 + 1)) ∧
  ((¬ (nI n) ≤ x14_1) → ((rc x14_1.toNatClampNeg (4 : Int32).toNatClampNeg) = p1) → n_X6_count_14 p1 n rc fuel (x14_0 + 1) (x14_1 + 1))
def f_X6_count (p1 : Int32) (n : Nat) (rc : Nat → Nat → Int32) : Int32 :=
  f_X6_count_14 p1 n rc 12 0 0
def n_X6_count (p1 : Int32) (n : Nat) (rc : Nat → Nat → Int32) : Prop :=
  (n_X6_count_14 p1 n rc 12 0 0)
def f_X6_moon (dw : Int32) (tk : Int32) (sL : Nat) (xs : Nat → Int32) : Int32 × Int32 × Int32 :=
  if ((f_X6_draw dw 3 sL xs).1) = 0 then (match f_X5_moon tk (13 + ((f_X6_draw (dw + 1) 5 sL xs).1)) with | (r_18, u_19) => ((dw + 1) + 1, 13 + ((f_X6_draw (dw + 1) 5 sL xs).1), u_19)) else (match f_X5_moon tk ((f_X6_draw (dw + 1) 30 sL xs).1) with | (r_9, u_10) => ((dw + 1) + 1, (f_X6_draw (dw + 1) 30 sL xs).1, u_10))
def n_X6_moon (dw : Int32) (ttk : Int32) (tk : Int32) (sL : Nat) (xs : Nat → Int32) : Prop :=
  (n_X6_draw dw 3 sL) ∧
  ((¬ ((f_X6_draw dw 3 sL xs).1) = 0) → n_X6_draw (dw + 1) 30 sL) ∧
  ((¬ ((f_X6_draw dw 3 sL xs).1) = 0) → n_X5_moon ((f_X6_draw (dw + 1) 30 sL xs).1)) ∧
  ((¬ ((f_X6_draw dw 3 sL xs).1) = 0) → ∀ (r_9 : Int32) (u_10 : Int32), (r_9, u_10) = f_X5_moon tk ((f_X6_draw (dw + 1) 30 sL xs).1) → r_9 = (f_X6_age ((f_X6_draw (dw + 1) 30 sL xs).1) ttk)) ∧
  ((((f_X6_draw dw 3 sL xs).1) = 0) → n_X6_draw (dw + 1) 5 sL) ∧
  ((((f_X6_draw dw 3 sL xs).1) = 0) → n_X5_moon (13 + ((f_X6_draw (dw + 1) 5 sL xs).1))) ∧
  ((((f_X6_draw dw 3 sL xs).1) = 0) → ∀ (r_18 : Int32) (u_19 : Int32), (r_18, u_19) = f_X5_moon tk (13 + ((f_X6_draw (dw + 1) 5 sL xs).1)) → r_18 = (f_X6_age (13 + ((f_X6_draw (dw + 1) 5 sL xs).1)) ttk))
def f_X6_surge (dw : Int32) (tk : Int32) (mo : Int32) (sL : Nat) (xs : Nat → Int32) : Int32 × UInt64 × UInt64 :=
  (match f_X5_surge tk mo (((f_X6_draw dw 17 sL xs).1) - 8) with | (r_6, u_7) => (dw + 1, FP.dmul (FP.i2d (((f_X6_draw dw 17 sL xs).1) - 8)) 4598175219545276416, u_7))
def n_X6_surge (dw : Int32) (ttk : Int32) (tmo : Int32) (tk : Int32) (mo : Int32) (sL : Nat) (xs : Nat → Int32) : Prop :=
  (n_X6_draw dw 17 sL) ∧
  (vf_n64 (FP.dmul (FP.i2d (((f_X6_draw dw 17 sL xs).1) - 8)) 4598175219545276416)) ∧
  (n_X5_surge tk mo (((f_X6_draw dw 17 sL xs).1) - 8)) ∧
  (∀ (r_6 : UInt64) (u_7 : UInt64), (r_6, u_7) = f_X5_surge tk mo (((f_X6_draw dw 17 sL xs).1) - 8) → n_X6_sea tmo (FP.dmul (FP.i2d (((f_X6_draw dw 17 sL xs).1) - 8)) 4598175219545276416) ttk) ∧
  (∀ (r_6 : UInt64) (u_7 : UInt64), (r_6, u_7) = f_X5_surge tk mo (((f_X6_draw dw 17 sL xs).1) - 8) → (Op.cmpValue (FP.dcmp r_6 (f_X6_sea tmo (FP.dmul (FP.i2d (((f_X6_draw dw 17 sL xs).1) - 8)) 4598175219545276416) ttk)) .l) = 0)
def f_X6_gates (dw : Int32) (ga : Int32) (sL : Nat) (xs : Nat → Int32) : Int32 × Int32 × Int32 :=
  (match f_X5_gates ga ((f_X6_draw dw 4 sL xs).1) with | (r_7, u_8) => (dw + 1, (f_X6_draw dw 4 sL xs).1, u_8))
def n_X6_gates (dw : Int32) (tga : Int32) (tlk : Int32) (lk : Int32) (ga : Int32) (sL : Nat) (xs : Nat → Int32) : Prop :=
  (tlk = 0) ∧
  (n_X6_draw dw 4 sL) ∧
  (n_X5_gates lk ((f_X6_draw dw 4 sL xs).1)) ∧
  (∀ (r_7 : Int32) (u_8 : Int32), (r_7, u_8) = f_X5_gates ga ((f_X6_draw dw 4 sL xs).1) → r_7 = tga)
def f_X6_sluice (dw : Int32) (sl : Int32) (sL : Nat) (xs : Nat → Int32) : Int32 × Int32 × Int32 :=
  (match f_X5_sluice sl ((f_X6_draw dw 5 sL xs).1) with | (r_5, u_6) => (dw + 1, (f_X6_draw dw 5 sL xs).1, u_6))
def n_X6_sluice (dw : Int32) (tsl : Int32) (sl : Int32) (sL : Nat) (xs : Nat → Int32) : Prop :=
  (n_X6_draw dw 5 sL) ∧
  (n_X5_sluice ((f_X6_draw dw 5 sL xs).1)) ∧
  (∀ (r_5 : Int32) (u_6 : Int32), (r_5, u_6) = f_X5_sluice sl ((f_X6_draw dw 5 sL xs).1) → r_5 = tsl)
def f_X6_scour (dw : Int32) (sc : Int32) (sL : Nat) (xs : Nat → Int32) : Int32 × Int32 × Int32 :=
  if ((f_X6_draw dw 2 sL xs).1) = 0 then (match f_X5_scour sc 1 with | (r_11, u_12) => (dw + 1, 1, u_12)) else (match f_X5_scour sc 0 with | (r_6, u_7) => (dw + 1, 0, u_7))
def n_X6_scour (dw : Int32) (tsc : Int32) (sc : Int32) (sL : Nat) (xs : Nat → Int32) : Prop :=
  (n_X6_draw dw 2 sL) ∧
  ((¬ ((f_X6_draw dw 2 sL xs).1) = 0) → n_X5_scour sc 0) ∧
  ((¬ ((f_X6_draw dw 2 sL xs).1) = 0) → ∀ (r_6 : Int32) (u_7 : Int32), (r_6, u_7) = f_X5_scour sc 0 → r_6 = tsc) ∧
  ((((f_X6_draw dw 2 sL xs).1) = 0) → n_X5_scour sc 1) ∧
  ((((f_X6_draw dw 2 sL xs).1) = 0) → ∀ (r_11 : Int32) (u_12 : Int32), (r_11, u_12) = f_X5_scour sc 1 → r_11 = tsc)
def f_X6_hours (dw : Int32) (tk : Int32) (sL : Nat) (xs : Nat → Int32) : Int32 × Int32 × Int32 × Int32 × Int32 :=
  if ((f_X6_draw (dw + 1) 2 sL xs).1) = 0 then (match f_X5_hours tk ((f_X6_draw dw 48 sL xs).1) ((((f_X6_draw dw 48 sL xs).1) + 30) - (((f_X6_draw dw 48 sL xs).1) + 30) / 48 * 48) with | (r_20, u_21, u_22) => ((dw + 1) + 1, (f_X6_draw dw 48 sL xs).1, (((f_X6_draw dw 48 sL xs).1) + 30) - (((f_X6_draw dw 48 sL xs).1) + 30) / 48 * 48, u_21, u_22)) else (match f_X5_hours tk ((f_X6_draw dw 48 sL xs).1) ((f_X6_draw ((dw + 1) + 1) 48 sL xs).1) with | (r_12, u_13, u_14) => (((dw + 1) + 1) + 1, (f_X6_draw dw 48 sL xs).1, (f_X6_draw ((dw + 1) + 1) 48 sL xs).1, u_13, u_14))
def n_X6_hours (dw : Int32) (ttk : Int32) (tk : Int32) (sL : Nat) (xs : Nat → Int32) : Prop :=
  (n_X6_draw dw 48 sL) ∧
  (n_X6_draw (dw + 1) 2 sL) ∧
  ((¬ ((f_X6_draw (dw + 1) 2 sL xs).1) = 0) → n_X6_draw ((dw + 1) + 1) 48 sL) ∧
  ((¬ ((f_X6_draw (dw + 1) 2 sL xs).1) = 0) → n_X5_hours tk ((f_X6_draw dw 48 sL xs).1) ((f_X6_draw ((dw + 1) + 1) 48 sL xs).1)) ∧
  ((¬ ((f_X6_draw (dw + 1) 2 sL xs).1) = 0) → ∀ (r_12 : Int32) (u_13 : Int32) (u_14 : Int32), (r_12, u_13, u_14) = f_X5_hours tk ((f_X6_draw dw 48 sL xs).1) ((f_X6_draw ((dw + 1) + 1) 48 sL xs).1) → n_X6_isAwake ttk ((f_X6_draw dw 48 sL xs).1) ((f_X6_draw ((dw + 1) + 1) 48 sL xs).1)) ∧
  ((¬ ((f_X6_draw (dw + 1) 2 sL xs).1) = 0) → ∀ (r_12 : Int32) (u_13 : Int32) (u_14 : Int32), (r_12, u_13, u_14) = f_X5_hours tk ((f_X6_draw dw 48 sL xs).1) ((f_X6_draw ((dw + 1) + 1) 48 sL xs).1) → r_12 = (f_X6_isAwake ttk ((f_X6_draw dw 48 sL xs).1) ((f_X6_draw ((dw + 1) + 1) 48 sL xs).1))) ∧
  ((((f_X6_draw (dw + 1) 2 sL xs).1) = 0) → n_X5_hours tk ((f_X6_draw dw 48 sL xs).1) ((((f_X6_draw dw 48 sL xs).1) + 30) - (((f_X6_draw dw 48 sL xs).1) + 30) / 48 * 48)) ∧
  ((((f_X6_draw (dw + 1) 2 sL xs).1) = 0) → ∀ (r_20 : Int32) (u_21 : Int32) (u_22 : Int32), (r_20, u_21, u_22) = f_X5_hours tk ((f_X6_draw dw 48 sL xs).1) ((((f_X6_draw dw 48 sL xs).1) + 30) - (((f_X6_draw dw 48 sL xs).1) + 30) / 48 * 48) → n_X6_isAwake ttk ((f_X6_draw dw 48 sL xs).1) ((((f_X6_draw dw 48 sL xs).1) + 30) - (((f_X6_draw dw 48 sL xs).1) + 30) / 48 * 48)) ∧
  ((((f_X6_draw (dw + 1) 2 sL xs).1) = 0) → ∀ (r_20 : Int32) (u_21 : Int32) (u_22 : Int32), (r_20, u_21, u_22) = f_X5_hours tk ((f_X6_draw dw 48 sL xs).1) ((((f_X6_draw dw 48 sL xs).1) + 30) - (((f_X6_draw dw 48 sL xs).1) + 30) / 48 * 48) → r_20 = (f_X6_isAwake ttk ((f_X6_draw dw 48 sL xs).1) ((((f_X6_draw dw 48 sL xs).1) + 30) - (((f_X6_draw dw 48 sL xs).1) + 30) / 48 * 48)))
def f_X6_feed_32 (n : Nat) (rc : Nat → Nat → Int32) : Nat → Int32 → Int32 → Int32 × Int32
  | 0, x32_0, x32_1 => (x32_0, x32_1)
  | fuel + 1, x32_0, x32_1 => if (nI n) ≤ x32_1 then (x32_0, x32_1) else (if (rc x32_0.toNatClampNeg (4 : Int32).toNatClampNeg) = 0 then (x32_0, x32_1) else (f_X6_feed_32 n rc fuel ((x32_0 + 1) - (x32_0 + 1) / (nI n) * (nI n)) (x32_1 + 1)))
def n_X6_feed_32 (n : Nat) (rc : Nat → Nat → Int32) : Nat → Int32 → Int32 → Prop
  | 0, x32_0, x32_1 => False
  | fuel + 1, x32_0, x32_1 => ((¬ (nI n) ≤ x32_1) → vp_in x32_0 n) ∧
  ((¬ (nI n) ≤ x32_1) → vp_in 4 5) ∧
  ((¬ (nI n) ≤ x32_1) → (¬ (rc x32_0.toNatClampNeg (4 : Int32).toNatClampNeg) = 0) → ¬ (nI n) = 0) ∧
  ((¬ (nI n) ≤ x32_1) → (¬ (rc x32_0.toNatClampNeg (4 : Int32).toNatClampNeg) = 0) → n_X6_feed_32 n rc fuel ((x32_0 + 1) - (x32_0 + 1) / (nI n) * (nI n)) (x32_1 + 1))
def f_X6_feed (dw : Int32) (ln : Int32) (sa : Nat → Int32) (pl : Nat → Int32) (np : Nat) (pr : Nat → Nat → Int32) (n : Nat) (rc : Nat → Nat → Int32) (sL : Nat) (xs : Nat → Int32) : (Nat → Nat → Int32) × (Nat → Nat → Int32) × Int32 × (Nat → Int32) × (Nat → Int32) :=
  if (nI n) = 0 then (rc, pr, dw, sa, pl) else (match f_X6_feed_32 n rc 12 ((f_X6_draw (dw + 1) (nI n) sL xs).1) 0 with | (x32e_15, x32e_16) => if (rc x32e_15.toNatClampNeg (4 : Int32).toNatClampNeg) = 0 then (if 0 ≤ (pr (((f_X6_draw dw (nI np) sL xs).1).toNatClampNeg) (0 : Int32).toNatClampNeg) then (rc, pr, (dw + 1) + 1, sa, pl) else (if (pr (((f_X6_draw dw (nI np) sL xs).1).toNatClampNeg) (1 : Int32).toNatClampNeg) ≤ 0 then (match f_X5_feed ln sa pl ((f_X6_draw dw (nI np) sL xs).1) x32e_15 with | (r_26, u_27, u_28) => (vf_upd rc x32e_15.toNatClampNeg (upd (rc x32e_15.toNatClampNeg) (4 : Int32).toNatClampNeg 1), vf_upd pr (((f_X6_draw dw (nI np) sL xs).1).toNatClampNeg) (upd (pr (((f_X6_draw dw (nI np) sL xs).1).toNatClampNeg)) (0 : Int32).toNatClampNeg x32e_15), (dw + 1) + 1, u_27, u_28)) else (rc, pr, (dw + 1) + 1, sa, pl))) else (rc, pr, (dw + 1) + 1, sa, pl))
def n_X6_feed (dw : Int32) (ln : Int32) (sa : Nat → Int32) (pn : Int32) (pl : Nat → Int32) (dr : Nat → Int32) (np : Nat) (pr : Nat → Nat → Int32) (n : Nat) (rc : Nat → Nat → Int32) (sL : Nat) (xs : Nat → Int32) : Prop :=
  ((¬ (nI n) = 0) → n_X6_draw dw (nI np) sL) ∧
  ((¬ (nI n) = 0) → n_X6_draw (dw + 1) (nI n) sL) ∧
  ((¬ (nI n) = 0) → n_X6_feed_32 n rc 12 ((f_X6_draw (dw + 1) (nI n) sL xs).1) 0) ∧
  ((¬ (nI n) = 0) → ∀ (x32e_15 : Int32) (x32e_16 : Int32), (x32e_15, x32e_16) = f_X6_feed_32 n rc 12 ((f_X6_draw (dw + 1) (nI n) sL xs).1) 0 → vp_in x32e_15 n) ∧
  ((¬ (nI n) = 0) → ∀ (x32e_15 : Int32) (x32e_16 : Int32), (x32e_15, x32e_16) = f_X6_feed_32 n rc 12 ((f_X6_draw (dw + 1) (nI n) sL xs).1) 0 → vp_in 4 5) ∧
  ((¬ (nI n) = 0) → ∀ (x32e_15 : Int32) (x32e_16 : Int32), (x32e_15, x32e_16) = f_X6_feed_32 n rc 12 ((f_X6_draw (dw + 1) (nI n) sL xs).1) 0 → ((rc x32e_15.toNatClampNeg (4 : Int32).toNatClampNeg) = 0) → vp_in ((f_X6_draw dw (nI np) sL xs).1) np) ∧
  ((¬ (nI n) = 0) → ∀ (x32e_15 : Int32) (x32e_16 : Int32), (x32e_15, x32e_16) = f_X6_feed_32 n rc 12 ((f_X6_draw (dw + 1) (nI n) sL xs).1) 0 → ((rc x32e_15.toNatClampNeg (4 : Int32).toNatClampNeg) = 0) → vp_in 0 3) ∧
  ((¬ (nI n) = 0) → ∀ (x32e_15 : Int32) (x32e_16 : Int32), (x32e_15, x32e_16) = f_X6_feed_32 n rc 12 ((f_X6_draw (dw + 1) (nI n) sL xs).1) 0 → ((rc x32e_15.toNatClampNeg (4 : Int32).toNatClampNeg) = 0) → (¬ 0 ≤ (pr (((f_X6_draw dw (nI np) sL xs).1).toNatClampNeg) (0 : Int32).toNatClampNeg)) → vp_in 1 3) ∧
  ((¬ (nI n) = 0) → ∀ (x32e_15 : Int32) (x32e_16 : Int32), (x32e_15, x32e_16) = f_X6_feed_32 n rc 12 ((f_X6_draw (dw + 1) (nI n) sL xs).1) 0 → ((rc x32e_15.toNatClampNeg (4 : Int32).toNatClampNeg) = 0) → (¬ 0 ≤ (pr (((f_X6_draw dw (nI np) sL xs).1).toNatClampNeg) (0 : Int32).toNatClampNeg)) → ((pr (((f_X6_draw dw (nI np) sL xs).1).toNatClampNeg) (1 : Int32).toNatClampNeg) ≤ 0) → n_X5_feed ln sa pn pl dr ((f_X6_draw dw (nI np) sL xs).1) x32e_15) ∧
  ((¬ (nI n) = 0) → ∀ (x32e_15 : Int32) (x32e_16 : Int32), (x32e_15, x32e_16) = f_X6_feed_32 n rc 12 ((f_X6_draw (dw + 1) (nI n) sL xs).1) 0 → ((rc x32e_15.toNatClampNeg (4 : Int32).toNatClampNeg) = 0) → (¬ 0 ≤ (pr (((f_X6_draw dw (nI np) sL xs).1).toNatClampNeg) (0 : Int32).toNatClampNeg)) → ((pr (((f_X6_draw dw (nI np) sL xs).1).toNatClampNeg) (1 : Int32).toNatClampNeg) ≤ 0) → ∀ (r_26 : Int32) (u_27 : Nat → Int32) (u_28 : Nat → Int32), (r_26, u_27, u_28) = f_X5_feed ln sa pl ((f_X6_draw dw (nI np) sL xs).1) x32e_15 → n_X6_count 0 n (vf_upd rc x32e_15.toNatClampNeg (upd (rc x32e_15.toNatClampNeg) (4 : Int32).toNatClampNeg 1))) ∧
  ((¬ (nI n) = 0) → ∀ (x32e_15 : Int32) (x32e_16 : Int32), (x32e_15, x32e_16) = f_X6_feed_32 n rc 12 ((f_X6_draw (dw + 1) (nI n) sL xs).1) 0 → ((rc x32e_15.toNatClampNeg (4 : Int32).toNatClampNeg) = 0) → (¬ 0 ≤ (pr (((f_X6_draw dw (nI np) sL xs).1).toNatClampNeg) (0 : Int32).toNatClampNeg)) → ((pr (((f_X6_draw dw (nI np) sL xs).1).toNatClampNeg) (1 : Int32).toNatClampNeg) ≤ 0) → ∀ (r_26 : Int32) (u_27 : Nat → Int32) (u_28 : Nat → Int32), (r_26, u_27, u_28) = f_X5_feed ln sa pl ((f_X6_draw dw (nI np) sL xs).1) x32e_15 → r_26 = (f_X6_count 0 n (vf_upd rc x32e_15.toNatClampNeg (upd (rc x32e_15.toNatClampNeg) (4 : Int32).toNatClampNeg 1))))
def f_X6_take (dw : Int32) (sa : Nat → Int32) (pl : Nat → Int32) (np : Nat) (pr : Nat → Nat → Int32) (rc : Nat → Nat → Int32) (sL : Nat) (xs : Nat → Int32) : (Nat → Nat → Int32) × (Nat → Nat → Int32) × Int32 × (Nat → Int32) × (Nat → Int32) :=
  if 0 ≤ (pr (((f_X6_draw dw (nI np) sL xs).1).toNatClampNeg) (0 : Int32).toNatClampNeg) then (match f_X5_take sa pl ((f_X6_draw dw (nI np) sL xs).1) with | (r_10, u_11, u_12) => (vf_upd rc ((pr (((f_X6_draw dw (nI np) sL xs).1).toNatClampNeg) (0 : Int32).toNatClampNeg).toNatClampNeg) (upd (rc ((pr (((f_X6_draw dw (nI np) sL xs).1).toNatClampNeg) (0 : Int32).toNatClampNeg).toNatClampNeg)) (4 : Int32).toNatClampNeg 0), vf_upd pr (((f_X6_draw dw (nI np) sL xs).1).toNatClampNeg) (upd (pr (((f_X6_draw dw (nI np) sL xs).1).toNatClampNeg)) (0 : Int32).toNatClampNeg (-1)), dw + 1, u_11, u_12)) else (rc, pr, dw + 1, sa, pl)
def n_X6_take (dw : Int32) (ln : Int32) (sa : Nat → Int32) (pn : Int32) (pl : Nat → Int32) (np : Nat) (pr : Nat → Nat → Int32) (n : Nat) (sL : Nat) (xs : Nat → Int32) : Prop :=
  (n_X6_draw dw (nI np) sL) ∧
  (vp_in ((f_X6_draw dw (nI np) sL xs).1) np) ∧
  (vp_in 0 3) ∧
  ((0 ≤ (pr (((f_X6_draw dw (nI np) sL xs).1).toNatClampNeg) (0 : Int32).toNatClampNeg)) → vp_in (pr (((f_X6_draw dw (nI np) sL xs).1).toNatClampNeg) (0 : Int32).toNatClampNeg) n) ∧
  ((0 ≤ (pr (((f_X6_draw dw (nI np) sL xs).1).toNatClampNeg) (0 : Int32).toNatClampNeg)) → vp_in 4 5) ∧
  ((0 ≤ (pr (((f_X6_draw dw (nI np) sL xs).1).toNatClampNeg) (0 : Int32).toNatClampNeg)) → n_X5_take ln pn pl ((f_X6_draw dw (nI np) sL xs).1)) ∧
  ((0 ≤ (pr (((f_X6_draw dw (nI np) sL xs).1).toNatClampNeg) (0 : Int32).toNatClampNeg)) → ∀ (r_10 : Int32) (u_11 : Nat → Int32) (u_12 : Nat → Int32), (r_10, u_11, u_12) = f_X5_take sa pl ((f_X6_draw dw (nI np) sL xs).1) → r_10 = (pr (((f_X6_draw dw (nI np) sL xs).1).toNatClampNeg) (0 : Int32).toNatClampNeg))
def f_X6_dress_36 (dw : Int32) (tdl : Nat → UInt32) (np : Nat) (sL : Nat) (xs : Nat → Int32) : Nat → Int32 → Int32
  | 0, x36_0 => x36_0
  | fuel + 1, x36_0 => if 0 ≤ (Op.cmpValue (FP.dcmp (FP.i2d x36_0) (FP.dmul 4620693217682128896 (FP.f2d (tdl ((f_X6_draw dw (nI np) sL xs).1).toNatClampNeg)))) .g) then x36_0 else (f_X6_dress_36 dw tdl np sL xs fuel (x36_0 + 1))
def n_X6_dress_36 (dw : Int32) (tdl : Nat → UInt32) (np : Nat) (sL : Nat) (xs : Nat → Int32) : Nat → Int32 → Prop
  | 0, x36_0 => False
  | fuel + 1, x36_0 => (vp_in ((f_X6_draw dw (nI np) sL xs).1) 3) ∧
  (vf_n64 (FP.f2d (tdl ((f_X6_draw dw (nI np) sL xs).1).toNatClampNeg))) ∧
  (vf_n64 (FP.dmul 4620693217682128896 (FP.f2d (tdl ((f_X6_draw dw (nI np) sL xs).1).toNatClampNeg)))) ∧
  ((¬ 0 ≤ (Op.cmpValue (FP.dcmp (FP.i2d x36_0) (FP.dmul 4620693217682128896 (FP.f2d (tdl ((f_X6_draw dw (nI np) sL xs).1).toNatClampNeg)))) .g)) → n_X6_dress_36 dw tdl np sL xs fuel (x36_0 + 1))
def f_X6_dress (dw : Int32) (tdl : Nat → UInt32) (dl : Nat → UInt32) (dr : Nat → Int32) (np : Nat) (pr : Nat → Nat → Int32) (sL : Nat) (xs : Nat → Int32) : (Nat → Nat → Int32) × Int32 × (Nat → Int32) :=
  if 0 ≤ (pr (((f_X6_draw dw (nI np) sL xs).1).toNatClampNeg) (0 : Int32).toNatClampNeg) then (pr, dw + 1, dr) else (if (pr (((f_X6_draw dw (nI np) sL xs).1).toNatClampNeg) (1 : Int32).toNatClampNeg) ≤ 0 then (match f_X6_dress_36 dw tdl np sL xs 10 0 with | x36e_15 => (match f_X5_dress dl dr ((f_X6_draw dw (nI np) sL xs).1) with | (r_17, u_18) => (vf_upd pr (((f_X6_draw dw (nI np) sL xs).1).toNatClampNeg) (upd (pr (((f_X6_draw dw (nI np) sL xs).1).toNatClampNeg)) (1 : Int32).toNatClampNeg (3 + x36e_15)), dw + 1, u_18))) else (pr, dw + 1, dr))
def n_X6_dress (dw : Int32) (tdl : Nat → UInt32) (pn : Int32) (dl : Nat → UInt32) (pl : Nat → Int32) (dr : Nat → Int32) (np : Nat) (pr : Nat → Nat → Int32) (sL : Nat) (xs : Nat → Int32) : Prop :=
  (n_X6_draw dw (nI np) sL) ∧
  (vp_in ((f_X6_draw dw (nI np) sL xs).1) np) ∧
  (vp_in 0 3) ∧
  ((¬ 0 ≤ (pr (((f_X6_draw dw (nI np) sL xs).1).toNatClampNeg) (0 : Int32).toNatClampNeg)) → vp_in 1 3) ∧
  ((¬ 0 ≤ (pr (((f_X6_draw dw (nI np) sL xs).1).toNatClampNeg) (0 : Int32).toNatClampNeg)) → ((pr (((f_X6_draw dw (nI np) sL xs).1).toNatClampNeg) (1 : Int32).toNatClampNeg) ≤ 0) → n_X6_dress_36 dw tdl np sL xs 10 0) ∧
  ((¬ 0 ≤ (pr (((f_X6_draw dw (nI np) sL xs).1).toNatClampNeg) (0 : Int32).toNatClampNeg)) → ((pr (((f_X6_draw dw (nI np) sL xs).1).toNatClampNeg) (1 : Int32).toNatClampNeg) ≤ 0) → ∀ (x36e_15 : Int32), x36e_15 = f_X6_dress_36 dw tdl np sL xs 10 0 → n_X5_dress pn dl pl dr ((f_X6_draw dw (nI np) sL xs).1)) ∧
  ((¬ 0 ≤ (pr (((f_X6_draw dw (nI np) sL xs).1).toNatClampNeg) (0 : Int32).toNatClampNeg)) → ((pr (((f_X6_draw dw (nI np) sL xs).1).toNatClampNeg) (1 : Int32).toNatClampNeg) ≤ 0) → ∀ (x36e_15 : Int32), x36e_15 = f_X6_dress_36 dw tdl np sL xs 10 0 → ∀ (r_17 : Int32) (u_18 : Nat → Int32), (r_17, u_18) = f_X5_dress dl dr ((f_X6_draw dw (nI np) sL xs).1) → r_17 = ((vf_upd pr (((f_X6_draw dw (nI np) sL xs).1).toNatClampNeg) (upd (pr (((f_X6_draw dw (nI np) sL xs).1).toNatClampNeg)) (1 : Int32).toNatClampNeg (3 + x36e_15))) (((f_X6_draw dw (nI np) sL xs).1).toNatClampNeg) (1 : Int32).toNatClampNeg))
def f_X6_give_91 (ttk : Int32) : Nat → Int32 → Int32 → Int32 × Int32
  | 0, x91_0, x91_1 => (x91_0, x91_1)
  | fuel + 1, x91_0, x91_1 => if (ttk / 48) ≤ x91_1 then (x91_0, x91_1) else (f_X6_give_91 ttk fuel (x91_0 + (-1)) (x91_1 + 1))
def n_X6_give_91 (ttk : Int32) : Nat → Int32 → Int32 → Prop
  | 0, x91_0, x91_1 => False
  | fuel + 1, x91_0, x91_1 => ((¬ (ttk / 48) ≤ x91_1) → n_X6_give_91 ttk fuel (x91_0 + (-1)) (x91_1 + 1))
def f_X6_give_86 (ttk : Int32) (tpu : Int32) (tto : UInt64) (pu : Int32) (to : UInt64) (tk : Int32) (gr : Nat → Int32) (we : Nat → Int32) (du : Nat → Int32) (sa : Nat → Int32) (rc : Nat → Nat → Int32) (x2_0 : Int32) : Int32 → (Nat → Nat → Int32) × Int32 × UInt64 × Int32 × UInt64 × (Nat → Int32) := fun x86_0 =>
  (match f_X6_give_91 ttk 200 x86_0 ((vf_upd rc x2_0.toNatClampNeg (upd (rc x2_0.toNatClampNeg) (4 : Int32).toNatClampNeg 3)) x2_0.toNatClampNeg (3 : Int32).toNatClampNeg) with | (x91e_12, x91e_13) => (match f_X5_give pu to tk gr we du sa x2_0 with | (r_15, u_16, u_17, u_18) => (vf_upd rc x2_0.toNatClampNeg (upd (rc x2_0.toNatClampNeg) (4 : Int32).toNatClampNeg 3), tpu + x91e_12, FP.dadd tto (FP.ddiv (FP.i2d ((vf_upd rc x2_0.toNatClampNeg (upd (rc x2_0.toNatClampNeg) (4 : Int32).toNatClampNeg 3)) x2_0.toNatClampNeg (2 : Int32).toNatClampNeg)) 4625196817309499392), u_16, u_17, u_18)))
def n_X6_give_86 (ttk : Int32) (pu : Int32) (to : UInt64) (tk : Int32) (ln : Int32) (gr : Nat → Int32) (we : Nat → Int32) (du : Nat → Int32) (sa : Nat → Int32) (rc : Nat → Nat → Int32) (x2_0 : Int32) : Int32 → Prop := fun x86_0 =>
  (vp_in 3 5) ∧
  (n_X6_give_91 ttk 200 x86_0 ((vf_upd rc x2_0.toNatClampNeg (upd (rc x2_0.toNatClampNeg) (4 : Int32).toNatClampNeg 3)) x2_0.toNatClampNeg (3 : Int32).toNatClampNeg)) ∧
  (∀ (x91e_12 : Int32) (x91e_13 : Int32), (x91e_12, x91e_13) = f_X6_give_91 ttk 200 x86_0 ((vf_upd rc x2_0.toNatClampNeg (upd (rc x2_0.toNatClampNeg) (4 : Int32).toNatClampNeg 3)) x2_0.toNatClampNeg (3 : Int32).toNatClampNeg) → n_X5_give to ln we sa x2_0) ∧
  (∀ (x91e_12 : Int32) (x91e_13 : Int32), (x91e_12, x91e_13) = f_X6_give_91 ttk 200 x86_0 ((vf_upd rc x2_0.toNatClampNeg (upd (rc x2_0.toNatClampNeg) (4 : Int32).toNatClampNeg 3)) x2_0.toNatClampNeg (3 : Int32).toNatClampNeg) → ∀ (r_15 : Int32) (u_16 : Int32) (u_17 : UInt64) (u_18 : Nat → Int32), (r_15, u_16, u_17, u_18) = f_X5_give pu to tk gr we du sa x2_0 → r_15 = x91e_12)
def f_X6_give_2 (ttk : Int32) (tpu : Int32) (tto : UInt64) (pu : Int32) (to : UInt64) (tk : Int32) (gr : Nat → Int32) (we : Nat → Int32) (du : Nat → Int32) (sa : Nat → Int32) (n : Nat) (rc : Nat → Nat → Int32) : Nat → Int32 → (Nat → Nat → Int32) × Int32 × UInt64 × Int32 × UInt64 × (Nat → Int32)
  | 0, x2_0 => (rc, tpu, tto, pu, to, sa)
  | fuel + 1, x2_0 => if (nI n) ≤ x2_0 then (rc, tpu, tto, pu, to, sa) else (if (rc x2_0.toNatClampNeg (4 : Int32).toNatClampNeg) = 2 then (if ((vf_upd rc x2_0.toNatClampNeg (upd (rc x2_0.toNatClampNeg) (4 : Int32).toNatClampNeg 3)) x2_0.toNatClampNeg (1 : Int32).toNatClampNeg) = 0 then (f_X6_give_86 ttk tpu tto pu to tk gr we du sa rc x2_0 ((((vf_upd rc x2_0.toNatClampNeg (upd (rc x2_0.toNatClampNeg) (4 : Int32).toNatClampNeg 3)) x2_0.toNatClampNeg (2 : Int32).toNatClampNeg) * 3) / 4)) else (if ((vf_upd rc x2_0.toNatClampNeg (upd (rc x2_0.toNatClampNeg) (4 : Int32).toNatClampNeg 3)) x2_0.toNatClampNeg (1 : Int32).toNatClampNeg) = 1 then (f_X6_give_86 ttk tpu tto pu to tk gr we du sa rc x2_0 (((vf_upd rc x2_0.toNatClampNeg (upd (rc x2_0.toNatClampNeg) (4 : Int32).toNatClampNeg 3)) x2_0.toNatClampNeg (2 : Int32).toNatClampNeg) / 2)) else (f_X6_give_86 ttk tpu tto pu to tk gr we du sa rc x2_0 (((vf_upd rc x2_0.toNatClampNeg (upd (rc x2_0.toNatClampNeg) (4 : Int32).toNatClampNeg 3)) x2_0.toNatClampNeg (2 : Int32).toNatClampNeg) / 4)))) else (f_X6_give_2 ttk tpu tto pu to tk gr we du sa n rc fuel (x2_0 + 1)))
def n_X6_give_2 (ttk : Int32) (tto : UInt64) (pu : Int32) (to : UInt64) (tk : Int32) (ln : Int32) (gr : Nat → Int32) (we : Nat → Int32) (du : Nat → Int32) (sa : Nat → Int32) (n : Nat) (rc : Nat → Nat → Int32) : Nat → Int32 → Prop
  | 0, x2_0 => False
  | fuel + 1, x2_0 => ((¬ (nI n) ≤ x2_0) → vp_in x2_0 n) ∧
  ((¬ (nI n) ≤ x2_0) → vp_in 4 5) ∧
  ((¬ (nI n) ≤ x2_0) → ((rc x2_0.toNatClampNeg (4 : Int32).toNatClampNeg) = 2) → vp_in 2 5) ∧
  ((¬ (nI n) ≤ x2_0) → ((rc x2_0.toNatClampNeg (4 : Int32).toNatClampNeg) = 2) → vf_n64 (FP.ddiv (FP.i2d ((vf_upd rc x2_0.toNatClampNeg (upd (rc x2_0.toNatClampNeg) (4 : Int32).toNatClampNeg 3)) x2_0.toNatClampNeg (2 : Int32).toNatClampNeg)) 4625196817309499392)) ∧
  ((¬ (nI n) ≤ x2_0) → ((rc x2_0.toNatClampNeg (4 : Int32).toNatClampNeg) = 2) → vf_n64 (FP.dadd tto (FP.ddiv (FP.i2d ((vf_upd rc x2_0.toNatClampNeg (upd (rc x2_0.toNatClampNeg) (4 : Int32).toNatClampNeg 3)) x2_0.toNatClampNeg (2 : Int32).toNatClampNeg)) 4625196817309499392))) ∧
  ((¬ (nI n) ≤ x2_0) → ((rc x2_0.toNatClampNeg (4 : Int32).toNatClampNeg) = 2) → vp_in 1 5) ∧
  ((¬ (nI n) ≤ x2_0) → ((rc x2_0.toNatClampNeg (4 : Int32).toNatClampNeg) = 2) → (¬ ((vf_upd rc x2_0.toNatClampNeg (upd (rc x2_0.toNatClampNeg) (4 : Int32).toNatClampNeg 3)) x2_0.toNatClampNeg (1 : Int32).toNatClampNeg) = 0) → (¬ ((vf_upd rc x2_0.toNatClampNeg (upd (rc x2_0.toNatClampNeg) (4 : Int32).toNatClampNeg 3)) x2_0.toNatClampNeg (1 : Int32).toNatClampNeg) = 1) → n_X6_give_86 ttk pu to tk ln gr we du sa rc x2_0 (((vf_upd rc x2_0.toNatClampNeg (upd (rc x2_0.toNatClampNeg) (4 : Int32).toNatClampNeg 3)) x2_0.toNatClampNeg (2 : Int32).toNatClampNeg) / 4)) ∧
  ((¬ (nI n) ≤ x2_0) → ((rc x2_0.toNatClampNeg (4 : Int32).toNatClampNeg) = 2) → (¬ ((vf_upd rc x2_0.toNatClampNeg (upd (rc x2_0.toNatClampNeg) (4 : Int32).toNatClampNeg 3)) x2_0.toNatClampNeg (1 : Int32).toNatClampNeg) = 0) → (((vf_upd rc x2_0.toNatClampNeg (upd (rc x2_0.toNatClampNeg) (4 : Int32).toNatClampNeg 3)) x2_0.toNatClampNeg (1 : Int32).toNatClampNeg) = 1) → n_X6_give_86 ttk pu to tk ln gr we du sa rc x2_0 (((vf_upd rc x2_0.toNatClampNeg (upd (rc x2_0.toNatClampNeg) (4 : Int32).toNatClampNeg 3)) x2_0.toNatClampNeg (2 : Int32).toNatClampNeg) / 2)) ∧
  ((¬ (nI n) ≤ x2_0) → ((rc x2_0.toNatClampNeg (4 : Int32).toNatClampNeg) = 2) → (((vf_upd rc x2_0.toNatClampNeg (upd (rc x2_0.toNatClampNeg) (4 : Int32).toNatClampNeg 3)) x2_0.toNatClampNeg (1 : Int32).toNatClampNeg) = 0) → n_X6_give_86 ttk pu to tk ln gr we du sa rc x2_0 ((((vf_upd rc x2_0.toNatClampNeg (upd (rc x2_0.toNatClampNeg) (4 : Int32).toNatClampNeg 3)) x2_0.toNatClampNeg (2 : Int32).toNatClampNeg) * 3) / 4)) ∧
  ((¬ (nI n) ≤ x2_0) → (¬ (rc x2_0.toNatClampNeg (4 : Int32).toNatClampNeg) = 2) → n_X6_give_2 ttk tto pu to tk ln gr we du sa n rc fuel (x2_0 + 1))
def f_X6_give (ttk : Int32) (tpu : Int32) (tto : UInt64) (pu : Int32) (to : UInt64) (tk : Int32) (gr : Nat → Int32) (we : Nat → Int32) (du : Nat → Int32) (sa : Nat → Int32) (n : Nat) (rc : Nat → Nat → Int32) : (Nat → Nat → Int32) × Int32 × UInt64 × Int32 × UInt64 × (Nat → Int32) :=
  f_X6_give_2 ttk tpu tto pu to tk gr we du sa n rc 12 0
def n_X6_give (ttk : Int32) (tto : UInt64) (pu : Int32) (to : UInt64) (tk : Int32) (ln : Int32) (gr : Nat → Int32) (we : Nat → Int32) (du : Nat → Int32) (sa : Nat → Int32) (n : Nat) (rc : Nat → Nat → Int32) : Prop :=
  (n_X6_give_2 ttk tto pu to tk ln gr we du sa n rc 12 0)
def f_X6_go_9 (ttk : Int32) (tmo : Int32) (tsu : UInt64) (tga : Int32) : Nat → UInt64 → UInt32 → UInt64 × UInt32
  | 0, x9_0, x9_1 => (x9_0, x9_1)
  | fuel + 1, x9_0, x9_1 => if tga ≤ 0 then (x9_0, x9_1) else (if (Op.cmpValue (FP.dcmp (f_X6_sea tmo tsu ttk) x9_0) .l) ≤ 0 then (x9_0, x9_1) else (if (Op.cmpValue (FP.fcmp (FP.fadd x9_1 (FP.fdiv (FP.d2f (FP.dmul (FP.dmul (FP.i2d tga) (FP.dsub (f_X6_sea tmo tsu ttk) x9_0)) 4602678819172646912)) 1115684864)) 1082130432) .l) ≤ 0 then (FP.dadd x9_0 (FP.ddiv (FP.dmul (FP.dmul (FP.i2d tga) (FP.dsub (f_X6_sea tmo tsu ttk) x9_0)) 4602678819172646912) (f_X6_area x9_1)), FP.fadd x9_1 (FP.fdiv (FP.d2f (FP.dmul (FP.dmul (FP.i2d tga) (FP.dsub (f_X6_sea tmo tsu ttk) x9_0)) 4602678819172646912)) 1115684864)) else (FP.dadd x9_0 (FP.ddiv (FP.dmul (FP.dmul (FP.i2d tga) (FP.dsub (f_X6_sea tmo tsu ttk) x9_0)) 4602678819172646912) (f_X6_area x9_1)), 1082130432)))
def n_X6_go_9 (ttk : Int32) (tmo : Int32) (tsu : UInt64) (tga : Int32) : Nat → UInt64 → UInt32 → Prop
  | 0, x9_0, x9_1 => False
  | fuel + 1, x9_0, x9_1 => ((¬ tga ≤ 0) → (¬ (Op.cmpValue (FP.dcmp (f_X6_sea tmo tsu ttk) x9_0) .l) ≤ 0) → vf_n64 (FP.dsub (f_X6_sea tmo tsu ttk) x9_0)) ∧
  ((¬ tga ≤ 0) → (¬ (Op.cmpValue (FP.dcmp (f_X6_sea tmo tsu ttk) x9_0) .l) ≤ 0) → vf_n64 (FP.dmul (FP.i2d tga) (FP.dsub (f_X6_sea tmo tsu ttk) x9_0))) ∧
  ((¬ tga ≤ 0) → (¬ (Op.cmpValue (FP.dcmp (f_X6_sea tmo tsu ttk) x9_0) .l) ≤ 0) → vf_n64 (FP.dmul (FP.dmul (FP.i2d tga) (FP.dsub (f_X6_sea tmo tsu ttk) x9_0)) 4602678819172646912)) ∧
  ((¬ tga ≤ 0) → (¬ (Op.cmpValue (FP.dcmp (f_X6_sea tmo tsu ttk) x9_0) .l) ≤ 0) → n_X6_area x9_1) ∧
  ((¬ tga ≤ 0) → (¬ (Op.cmpValue (FP.dcmp (f_X6_sea tmo tsu ttk) x9_0) .l) ≤ 0) → vf_n64 (FP.ddiv (FP.dmul (FP.dmul (FP.i2d tga) (FP.dsub (f_X6_sea tmo tsu ttk) x9_0)) 4602678819172646912) (f_X6_area x9_1))) ∧
  ((¬ tga ≤ 0) → (¬ (Op.cmpValue (FP.dcmp (f_X6_sea tmo tsu ttk) x9_0) .l) ≤ 0) → vf_n64 (FP.dadd x9_0 (FP.ddiv (FP.dmul (FP.dmul (FP.i2d tga) (FP.dsub (f_X6_sea tmo tsu ttk) x9_0)) 4602678819172646912) (f_X6_area x9_1)))) ∧
  ((¬ tga ≤ 0) → (¬ (Op.cmpValue (FP.dcmp (f_X6_sea tmo tsu ttk) x9_0) .l) ≤ 0) → vf_n32 (FP.d2f (FP.dmul (FP.dmul (FP.i2d tga) (FP.dsub (f_X6_sea tmo tsu ttk) x9_0)) 4602678819172646912))) ∧
  ((¬ tga ≤ 0) → (¬ (Op.cmpValue (FP.dcmp (f_X6_sea tmo tsu ttk) x9_0) .l) ≤ 0) → vf_n32 (FP.fdiv (FP.d2f (FP.dmul (FP.dmul (FP.i2d tga) (FP.dsub (f_X6_sea tmo tsu ttk) x9_0)) 4602678819172646912)) 1115684864)) ∧
  ((¬ tga ≤ 0) → (¬ (Op.cmpValue (FP.dcmp (f_X6_sea tmo tsu ttk) x9_0) .l) ≤ 0) → vf_n32 (FP.fadd x9_1 (FP.fdiv (FP.d2f (FP.dmul (FP.dmul (FP.i2d tga) (FP.dsub (f_X6_sea tmo tsu ttk) x9_0)) 4602678819172646912)) 1115684864)))
def f_X6_go_87 (ttk : Int32) (tmo : Int32) (tsu : UInt64) (x9e_17 : UInt64) : Nat → UInt64
  | 0 => (0 : UInt64)
  | fuel + 1 => if (Op.cmpValue (FP.dcmp (f_X6_sea tmo tsu ttk) 13826050856027422720) .l) ≤ 0 then (FP.dsub x9e_17 13826050856027422720) else (FP.dsub x9e_17 (f_X6_sea tmo tsu ttk))
def n_X6_go_87 (ttk : Int32) (tmo : Int32) (tsu : UInt64) (x9e_17 : UInt64) : Nat → Prop
  | 0 => False
  | fuel + 1 => (((Op.cmpValue (FP.dcmp (f_X6_sea tmo tsu ttk) 13826050856027422720) .l) ≤ 0) → vf_n64 (FP.dsub x9e_17 13826050856027422720)) ∧
  ((¬ (Op.cmpValue (FP.dcmp (f_X6_sea tmo tsu ttk) 13826050856027422720) .l) ≤ 0) → vf_n64 (FP.dsub x9e_17 (f_X6_sea tmo tsu ttk)))
def f_X6_go_108 (tsl : Int32) (x9e_18 : UInt32) (x87e_23 : UInt64) : Nat → UInt64 → UInt64 → UInt64 × UInt64
  | 0, x108_0, x108_1 => (x108_0, x108_1)
  | fuel + 1, x108_0, x108_1 => if tsl ≤ 0 then (x108_0, FP.dconst0) else (if (Op.cmpValue (FP.dcmp x87e_23 4602678819172646912) .l) < 0 then (x108_0, FP.dconst0) else (FP.dsub x108_0 (FP.ddiv (FP.dmul (FP.dmul (FP.i2d tsl) x87e_23) 4598175219545276416) (f_X6_area x9e_18)), FP.dmul (FP.dmul (FP.dmul (FP.i2d tsl) x87e_23) 4598175219545276416) x87e_23))
def n_X6_go_108 (tsl : Int32) (x9e_18 : UInt32) (x87e_23 : UInt64) : Nat → UInt64 → UInt64 → Prop
  | 0, x108_0, x108_1 => False
  | fuel + 1, x108_0, x108_1 => ((¬ tsl ≤ 0) → (¬ (Op.cmpValue (FP.dcmp x87e_23 4602678819172646912) .l) < 0) → vf_n64 (FP.dmul (FP.i2d tsl) x87e_23)) ∧
  ((¬ tsl ≤ 0) → (¬ (Op.cmpValue (FP.dcmp x87e_23 4602678819172646912) .l) < 0) → vf_n64 (FP.dmul (FP.dmul (FP.i2d tsl) x87e_23) 4598175219545276416)) ∧
  ((¬ tsl ≤ 0) → (¬ (Op.cmpValue (FP.dcmp x87e_23 4602678819172646912) .l) < 0) → n_X6_area x9e_18) ∧
  ((¬ tsl ≤ 0) → (¬ (Op.cmpValue (FP.dcmp x87e_23 4602678819172646912) .l) < 0) → vf_n64 (FP.ddiv (FP.dmul (FP.dmul (FP.i2d tsl) x87e_23) 4598175219545276416) (f_X6_area x9e_18))) ∧
  ((¬ tsl ≤ 0) → (¬ (Op.cmpValue (FP.dcmp x87e_23 4602678819172646912) .l) < 0) → vf_n64 (FP.dsub x108_0 (FP.ddiv (FP.dmul (FP.dmul (FP.i2d tsl) x87e_23) 4598175219545276416) (f_X6_area x9e_18)))) ∧
  ((¬ tsl ≤ 0) → (¬ (Op.cmpValue (FP.dcmp x87e_23 4602678819172646912) .l) < 0) → vf_n64 (FP.dmul (FP.dmul (FP.dmul (FP.i2d tsl) x87e_23) 4598175219545276416) x87e_23))
def f_X6_go_165 (ttk : Int32) (tmo : Int32) (tsu : UInt64) (tsc : Int32) : Nat → UInt64 → UInt32 → UInt64 × UInt32
  | 0, x165_0, x165_1 => (x165_0, x165_1)
  | fuel + 1, x165_0, x165_1 => if tsc = 0 then (x165_0, x165_1) else (if (Op.cmpValue (FP.dcmp (FP.dsub x165_0 (f_X6_sea tmo tsu ttk)) FP.dconst1) .l) < 0 then (x165_0, x165_1) else (if 0 ≤ (Op.cmpValue (FP.fcmp x165_1 1040187392) .g) then (FP.dsub x165_0 4598175219545276416, FP.fsub x165_1 1040187392) else (FP.dsub x165_0 4598175219545276416, FP.fconst0)))
def n_X6_go_165 (ttk : Int32) (tmo : Int32) (tsu : UInt64) (tsc : Int32) : Nat → UInt64 → UInt32 → Prop
  | 0, x165_0, x165_1 => False
  | fuel + 1, x165_0, x165_1 => ((¬ tsc = 0) → vf_n64 (FP.dsub x165_0 (f_X6_sea tmo tsu ttk))) ∧
  ((¬ tsc = 0) → (¬ (Op.cmpValue (FP.dcmp (FP.dsub x165_0 (f_X6_sea tmo tsu ttk)) FP.dconst1) .l) < 0) → vf_n64 (FP.dsub x165_0 4598175219545276416)) ∧
  ((¬ tsc = 0) → (¬ (Op.cmpValue (FP.dcmp (FP.dsub x165_0 (f_X6_sea tmo tsu ttk)) FP.dconst1) .l) < 0) → (0 ≤ (Op.cmpValue (FP.fcmp x165_1 1040187392) .g)) → vf_n32 (FP.fsub x165_1 1040187392))
def f_X6_go_315 (x229_1 : Int32) (x248_0 : UInt64) (x248_1 : Nat → UInt32) : Nat → UInt64
  | 0 => (0 : UInt64)
  | fuel + 1 => if 0 ≤ (Op.cmpValue (FP.dcmp (FP.dadd FP.dconst1 (FP.f2d (x248_1 x229_1.toNatClampNeg))) x248_0) .g) then x248_0 else (FP.dadd FP.dconst1 (FP.f2d (x248_1 x229_1.toNatClampNeg)))
def n_X6_go_315 : Nat → Prop
  | 0 => False
  | fuel + 1 => True
def f_X6_go_346 (x229_1 : Int32) (x248_3 : Nat → Nat → Int32) (x248_4 : Nat → Nat → Int32) : Nat → UInt64
  | 0 => (0 : UInt64)
  | fuel + 1 => if (x248_4 ((x248_3 x229_1.toNatClampNeg (0 : Int32).toNatClampNeg).toNatClampNeg) (1 : Int32).toNatClampNeg) = 1 then 4613937818241073152 else (if (x248_4 ((x248_3 x229_1.toNatClampNeg (0 : Int32).toNatClampNeg).toNatClampNeg) (1 : Int32).toNatClampNeg) = 2 then 4617315517961601024 else 4616189618054758400)
def n_X6_go_346 : Nat → Prop
  | 0 => False
  | fuel + 1 => (vp_in 1 5)
def f_X6_go_396 (x229_1 : Int32) (x248_1 : Nat → UInt32) (x248_2 : Nat → UInt64) (x248_3 : Nat → Nat → Int32) (x315e_78 : UInt64) (x346e_85 : UInt64) : Nat → (Nat → UInt64) → (Nat → UInt64)
  | 0, x396_0 => x396_0
  | fuel + 1, x396_0 => if 0 ≤ (Op.cmpValue (FP.dcmp (FP.dsub (x248_2 (x248_3 x229_1.toNatClampNeg (0 : Int32).toNatClampNeg).toNatClampNeg) (FP.dmul (FP.ddiv x315e_78 (FP.dadd FP.dconst1 (FP.f2d (x248_1 x229_1.toNatClampNeg)))) x346e_85)) FP.dconst0) .g) then (vf_upd x396_0 (x248_3 x229_1.toNatClampNeg (0 : Int32).toNatClampNeg).toNatClampNeg (FP.dsub (x248_2 (x248_3 x229_1.toNatClampNeg (0 : Int32).toNatClampNeg).toNatClampNeg) (FP.dmul (FP.ddiv x315e_78 (FP.dadd FP.dconst1 (FP.f2d (x248_1 x229_1.toNatClampNeg)))) x346e_85))) else (vf_upd x396_0 (x248_3 x229_1.toNatClampNeg (0 : Int32).toNatClampNeg).toNatClampNeg FP.dconst0)
def n_X6_go_396 (x229_1 : Int32) (x248_1 : Nat → UInt32) (x248_2 : Nat → UInt64) (x248_3 : Nat → Nat → Int32) (x315e_78 : UInt64) (x346e_85 : UInt64) : Nat → (Nat → UInt64) → Prop
  | 0, x396_0 => False
  | fuel + 1, x396_0 => (vp_in 0 3) ∧
  ((0 ≤ (Op.cmpValue (FP.dcmp (FP.dsub (x248_2 (x248_3 x229_1.toNatClampNeg (0 : Int32).toNatClampNeg).toNatClampNeg) (FP.dmul (FP.ddiv x315e_78 (FP.dadd FP.dconst1 (FP.f2d (x248_1 x229_1.toNatClampNeg)))) x346e_85)) FP.dconst0) .g)) → vp_in (x248_3 x229_1.toNatClampNeg (0 : Int32).toNatClampNeg) 10) ∧
  ((¬ 0 ≤ (Op.cmpValue (FP.dcmp (FP.dsub (x248_2 (x248_3 x229_1.toNatClampNeg (0 : Int32).toNatClampNeg).toNatClampNeg) (FP.dmul (FP.ddiv x315e_78 (FP.dadd FP.dconst1 (FP.f2d (x248_1 x229_1.toNatClampNeg)))) x346e_85)) FP.dconst0) .g)) → vp_in (x248_3 x229_1.toNatClampNeg (0 : Int32).toNatClampNeg) 10)
def f_X6_go_418 (x229_1 : Int32) (x248_3 : Nat → Nat → Int32) (x248_4 : Nat → Nat → Int32) : Nat → UInt32
  | 0 => (0 : UInt32)
  | fuel + 1 => if (x248_4 ((x248_3 x229_1.toNatClampNeg (0 : Int32).toNatClampNeg).toNatClampNeg) (1 : Int32).toNatClampNeg) = 1 then FP.fconst2 else FP.fconst1
def n_X6_go_418 : Nat → Prop
  | 0 => False
  | fuel + 1 => (vp_in 1 5)
def f_X6_go_457 (x229_1 : Int32) : Nat → (Nat → UInt32) → (Nat → UInt32)
  | 0, x457_0 => x457_0
  | fuel + 1, x457_0 => if (Op.cmpValue (FP.fcmp (x457_0 x229_1.toNatClampNeg) FP.fconst1) .l) ≤ 0 then x457_0 else (vf_upd x457_0 x229_1.toNatClampNeg FP.fconst1)
def n_X6_go_457 (x229_1 : Int32) : Nat → (Nat → UInt32) → Prop
  | 0, x457_0 => False
  | fuel + 1, x457_0 => (vp_in x229_1 3)
def f_X6_go_248 (ttk : Int32) (tfh : Int32) (tlh : Int32) (x229_1 : Int32) : Nat → UInt64 → (Nat → UInt32) → (Nat → UInt64) → (Nat → Nat → Int32) → (Nat → Nat → Int32) → UInt64 × (Nat → UInt32) × (Nat → UInt64) × (Nat → Nat → Int32) × (Nat → Nat → Int32)
  | 0, x248_0, x248_1, x248_2, x248_3, x248_4 => (x248_0, x248_1, x248_2, x248_3, x248_4)
  | fuel + 1, x248_0, x248_1, x248_2, x248_3, x248_4 => if (x248_3 x229_1.toNatClampNeg (1 : Int32).toNatClampNeg) ≤ 0 then (if (f_X6_isAwake ttk tfh tlh) = 0 then (if (f_X6_isAwake ttk tfh tlh) = 0 then (x248_0, x248_1, x248_2, x248_3, x248_4) else (if (Op.cmpValue (FP.dcmp x248_0 FP.dconst1) .l) ≤ 0 then (x248_0, x248_1, x248_2, x248_3, x248_4) else (if (Op.cmpValue (FP.fcmp (FP.fadd (x248_1 x229_1.toNatClampNeg) 1040187392) FP.fconst1) .l) ≤ 0 then (FP.dsub x248_0 FP.dconst1, vf_upd x248_1 x229_1.toNatClampNeg (FP.fadd (x248_1 x229_1.toNatClampNeg) 1040187392), x248_2, vf_upd x248_3 x229_1.toNatClampNeg (upd (x248_3 x229_1.toNatClampNeg) (2 : Int32).toNatClampNeg ((x248_3 x229_1.toNatClampNeg (2 : Int32).toNatClampNeg) + 1)), x248_4) else (FP.dsub x248_0 FP.dconst1, vf_upd x248_1 x229_1.toNatClampNeg FP.fconst1, x248_2, vf_upd x248_3 x229_1.toNatClampNeg (upd (x248_3 x229_1.toNatClampNeg) (2 : Int32).toNatClampNeg ((x248_3 x229_1.toNatClampNeg (2 : Int32).toNatClampNeg) + 1)), x248_4)))) else (if (x248_3 x229_1.toNatClampNeg (0 : Int32).toNatClampNeg) < 0 then (if (f_X6_isAwake ttk tfh tlh) = 0 then (x248_0, x248_1, x248_2, x248_3, x248_4) else (if (Op.cmpValue (FP.dcmp x248_0 FP.dconst1) .l) ≤ 0 then (x248_0, x248_1, x248_2, x248_3, x248_4) else (if (Op.cmpValue (FP.fcmp (FP.fadd (x248_1 x229_1.toNatClampNeg) 1040187392) FP.fconst1) .l) ≤ 0 then (FP.dsub x248_0 FP.dconst1, vf_upd x248_1 x229_1.toNatClampNeg (FP.fadd (x248_1 x229_1.toNatClampNeg) 1040187392), x248_2, vf_upd x248_3 x229_1.toNatClampNeg (upd (x248_3 x229_1.toNatClampNeg) (2 : Int32).toNatClampNeg ((x248_3 x229_1.toNatClampNeg (2 : Int32).toNatClampNeg) + 1)), x248_4) else (FP.dsub x248_0 FP.dconst1, vf_upd x248_1 x229_1.toNatClampNeg FP.fconst1, x248_2, vf_upd x248_3 x229_1.toNatClampNeg (upd (x248_3 x229_1.toNatClampNeg) (2 : Int32).toNatClampNeg ((x248_3 x229_1.toNatClampNeg (2 : Int32).toNatClampNeg) + 1)), x248_4)))) else (match f_X6_go_315 x229_1 x248_0 x248_1 1 with | x315e_78 => (match f_X6_go_346 x229_1 x248_3 x248_4 1 with | x346e_85 => (match f_X6_go_396 x229_1 x248_1 x248_2 x248_3 x315e_78 x346e_85 1 x248_2 with | x396e_94 => (match f_X6_go_418 x229_1 x248_3 x248_4 1 with | x418e_98 => (match f_X6_go_457 x229_1 1 (vf_upd x248_1 x229_1.toNatClampNeg (FP.fadd (x248_1 x229_1.toNatClampNeg) (FP.fdiv (FP.fmul (FP.d2f (FP.ddiv x315e_78 (FP.dadd FP.dconst1 (FP.f2d (x248_1 x229_1.toNatClampNeg))))) x418e_98) 1115684864))) with | x457e_106 => if (Op.cmpValue (FP.dcmp (x396e_94 (x248_3 x229_1.toNatClampNeg (0 : Int32).toNatClampNeg).toNatClampNeg) FP.dconst0) .l) = 0 then (FP.dsub x248_0 x315e_78, x457e_106, x396e_94, vf_upd x248_3 x229_1.toNatClampNeg (upd (x248_3 x229_1.toNatClampNeg) (0 : Int32).toNatClampNeg (-1)), vf_upd x248_4 ((x248_3 x229_1.toNatClampNeg (0 : Int32).toNatClampNeg).toNatClampNeg) (upd (x248_4 ((x248_3 x229_1.toNatClampNeg (0 : Int32).toNatClampNeg).toNatClampNeg)) (4 : Int32).toNatClampNeg 2)) else (FP.dsub x248_0 x315e_78, x457e_106, x396e_94, x248_3, x248_4)))))))) else (if ((x248_3 x229_1.toNatClampNeg (1 : Int32).toNatClampNeg) - 1) = 0 then (x248_0, vf_upd x248_1 x229_1.toNatClampNeg FP.fconst0, x248_2, vf_upd x248_3 x229_1.toNatClampNeg (upd (x248_3 x229_1.toNatClampNeg) (1 : Int32).toNatClampNeg ((x248_3 x229_1.toNatClampNeg (1 : Int32).toNatClampNeg) - 1)), x248_4) else (x248_0, x248_1, x248_2, vf_upd x248_3 x229_1.toNatClampNeg (upd (x248_3 x229_1.toNatClampNeg) (1 : Int32).toNatClampNeg ((x248_3 x229_1.toNatClampNeg (1 : Int32).toNatClampNeg) - 1)), x248_4))
def n_X6_go_248 (ttk : Int32) (tfh : Int32) (tlh : Int32) (n : Nat) (x229_1 : Int32) : Nat → UInt64 → (Nat → UInt32) → (Nat → UInt64) → (Nat → Nat → Int32) → (Nat → Nat → Int32) → Prop
  | 0, x248_0, x248_1, x248_2, x248_3, x248_4 => False
  | fuel + 1, x248_0, x248_1, x248_2, x248_3, x248_4 => (vp_in 1 3) ∧
  (((x248_3 x229_1.toNatClampNeg (1 : Int32).toNatClampNeg) ≤ 0) → n_X6_isAwake ttk tfh tlh) ∧
  (((x248_3 x229_1.toNatClampNeg (1 : Int32).toNatClampNeg) ≤ 0) → ((f_X6_isAwake ttk tfh tlh) = 0) → (¬ (f_X6_isAwake ttk tfh tlh) = 0) → (¬ (Op.cmpValue (FP.dcmp x248_0 FP.dconst1) .l) ≤ 0) → vp_in 2 3) ∧
  (((x248_3 x229_1.toNatClampNeg (1 : Int32).toNatClampNeg) ≤ 0) → ((f_X6_isAwake ttk tfh tlh) = 0) → (¬ (f_X6_isAwake ttk tfh tlh) = 0) → (¬ (Op.cmpValue (FP.dcmp x248_0 FP.dconst1) .l) ≤ 0) → vp_in x229_1 3) ∧
  (((x248_3 x229_1.toNatClampNeg (1 : Int32).toNatClampNeg) ≤ 0) → ((f_X6_isAwake ttk tfh tlh) = 0) → (¬ (f_X6_isAwake ttk tfh tlh) = 0) → (¬ (Op.cmpValue (FP.dcmp x248_0 FP.dconst1) .l) ≤ 0) → vf_n32 (FP.fadd (x248_1 x229_1.toNatClampNeg) 1040187392)) ∧
  (((x248_3 x229_1.toNatClampNeg (1 : Int32).toNatClampNeg) ≤ 0) → ((f_X6_isAwake ttk tfh tlh) = 0) → (¬ (f_X6_isAwake ttk tfh tlh) = 0) → (¬ (Op.cmpValue (FP.dcmp x248_0 FP.dconst1) .l) ≤ 0) → ((Op.cmpValue (FP.fcmp (FP.fadd (x248_1 x229_1.toNatClampNeg) 1040187392) FP.fconst1) .l) ≤ 0) → vf_n64 (FP.dsub x248_0 FP.dconst1)) ∧
  (((x248_3 x229_1.toNatClampNeg (1 : Int32).toNatClampNeg) ≤ 0) → ((f_X6_isAwake ttk tfh tlh) = 0) → (¬ (f_X6_isAwake ttk tfh tlh) = 0) → (¬ (Op.cmpValue (FP.dcmp x248_0 FP.dconst1) .l) ≤ 0) → (¬ (Op.cmpValue (FP.fcmp (FP.fadd (x248_1 x229_1.toNatClampNeg) 1040187392) FP.fconst1) .l) ≤ 0) → vf_n64 (FP.dsub x248_0 FP.dconst1)) ∧
  (((x248_3 x229_1.toNatClampNeg (1 : Int32).toNatClampNeg) ≤ 0) → (¬ (f_X6_isAwake ttk tfh tlh) = 0) → vp_in 0 3) ∧
  (((x248_3 x229_1.toNatClampNeg (1 : Int32).toNatClampNeg) ≤ 0) → (¬ (f_X6_isAwake ttk tfh tlh) = 0) → ((x248_3 x229_1.toNatClampNeg (0 : Int32).toNatClampNeg) < 0) → (¬ (f_X6_isAwake ttk tfh tlh) = 0) → (¬ (Op.cmpValue (FP.dcmp x248_0 FP.dconst1) .l) ≤ 0) → vp_in 2 3) ∧
  (((x248_3 x229_1.toNatClampNeg (1 : Int32).toNatClampNeg) ≤ 0) → (¬ (f_X6_isAwake ttk tfh tlh) = 0) → ((x248_3 x229_1.toNatClampNeg (0 : Int32).toNatClampNeg) < 0) → (¬ (f_X6_isAwake ttk tfh tlh) = 0) → (¬ (Op.cmpValue (FP.dcmp x248_0 FP.dconst1) .l) ≤ 0) → vp_in x229_1 3) ∧
  (((x248_3 x229_1.toNatClampNeg (1 : Int32).toNatClampNeg) ≤ 0) → (¬ (f_X6_isAwake ttk tfh tlh) = 0) → ((x248_3 x229_1.toNatClampNeg (0 : Int32).toNatClampNeg) < 0) → (¬ (f_X6_isAwake ttk tfh tlh) = 0) → (¬ (Op.cmpValue (FP.dcmp x248_0 FP.dconst1) .l) ≤ 0) → vf_n32 (FP.fadd (x248_1 x229_1.toNatClampNeg) 1040187392)) ∧
  (((x248_3 x229_1.toNatClampNeg (1 : Int32).toNatClampNeg) ≤ 0) → (¬ (f_X6_isAwake ttk tfh tlh) = 0) → ((x248_3 x229_1.toNatClampNeg (0 : Int32).toNatClampNeg) < 0) → (¬ (f_X6_isAwake ttk tfh tlh) = 0) → (¬ (Op.cmpValue (FP.dcmp x248_0 FP.dconst1) .l) ≤ 0) → ((Op.cmpValue (FP.fcmp (FP.fadd (x248_1 x229_1.toNatClampNeg) 1040187392) FP.fconst1) .l) ≤ 0) → vf_n64 (FP.dsub x248_0 FP.dconst1)) ∧
  (((x248_3 x229_1.toNatClampNeg (1 : Int32).toNatClampNeg) ≤ 0) → (¬ (f_X6_isAwake ttk tfh tlh) = 0) → ((x248_3 x229_1.toNatClampNeg (0 : Int32).toNatClampNeg) < 0) → (¬ (f_X6_isAwake ttk tfh tlh) = 0) → (¬ (Op.cmpValue (FP.dcmp x248_0 FP.dconst1) .l) ≤ 0) → (¬ (Op.cmpValue (FP.fcmp (FP.fadd (x248_1 x229_1.toNatClampNeg) 1040187392) FP.fconst1) .l) ≤ 0) → vf_n64 (FP.dsub x248_0 FP.dconst1)) ∧
  (((x248_3 x229_1.toNatClampNeg (1 : Int32).toNatClampNeg) ≤ 0) → (¬ (f_X6_isAwake ttk tfh tlh) = 0) → (¬ (x248_3 x229_1.toNatClampNeg (0 : Int32).toNatClampNeg) < 0) → vp_in (x248_3 x229_1.toNatClampNeg (0 : Int32).toNatClampNeg) n) ∧
  (((x248_3 x229_1.toNatClampNeg (1 : Int32).toNatClampNeg) ≤ 0) → (¬ (f_X6_isAwake ttk tfh tlh) = 0) → (¬ (x248_3 x229_1.toNatClampNeg (0 : Int32).toNatClampNeg) < 0) → vp_in x229_1 3) ∧
  (((x248_3 x229_1.toNatClampNeg (1 : Int32).toNatClampNeg) ≤ 0) → (¬ (f_X6_isAwake ttk tfh tlh) = 0) → (¬ (x248_3 x229_1.toNatClampNeg (0 : Int32).toNatClampNeg) < 0) → vf_n64 (FP.f2d (x248_1 x229_1.toNatClampNeg))) ∧
  (((x248_3 x229_1.toNatClampNeg (1 : Int32).toNatClampNeg) ≤ 0) → (¬ (f_X6_isAwake ttk tfh tlh) = 0) → (¬ (x248_3 x229_1.toNatClampNeg (0 : Int32).toNatClampNeg) < 0) → vf_n64 (FP.dadd FP.dconst1 (FP.f2d (x248_1 x229_1.toNatClampNeg)))) ∧
  (((x248_3 x229_1.toNatClampNeg (1 : Int32).toNatClampNeg) ≤ 0) → (¬ (f_X6_isAwake ttk tfh tlh) = 0) → (¬ (x248_3 x229_1.toNatClampNeg (0 : Int32).toNatClampNeg) < 0) → n_X6_go_315 1) ∧
  (((x248_3 x229_1.toNatClampNeg (1 : Int32).toNatClampNeg) ≤ 0) → (¬ (f_X6_isAwake ttk tfh tlh) = 0) → (¬ (x248_3 x229_1.toNatClampNeg (0 : Int32).toNatClampNeg) < 0) → ∀ (x315e_78 : UInt64), x315e_78 = f_X6_go_315 x229_1 x248_0 x248_1 1 → vf_n64 (FP.dsub x248_0 x315e_78)) ∧
  (((x248_3 x229_1.toNatClampNeg (1 : Int32).toNatClampNeg) ≤ 0) → (¬ (f_X6_isAwake ttk tfh tlh) = 0) → (¬ (x248_3 x229_1.toNatClampNeg (0 : Int32).toNatClampNeg) < 0) → ∀ (x315e_78 : UInt64), x315e_78 = f_X6_go_315 x229_1 x248_0 x248_1 1 → vf_n64 (FP.ddiv x315e_78 (FP.dadd FP.dconst1 (FP.f2d (x248_1 x229_1.toNatClampNeg))))) ∧
  (((x248_3 x229_1.toNatClampNeg (1 : Int32).toNatClampNeg) ≤ 0) → (¬ (f_X6_isAwake ttk tfh tlh) = 0) → (¬ (x248_3 x229_1.toNatClampNeg (0 : Int32).toNatClampNeg) < 0) → ∀ (x315e_78 : UInt64), x315e_78 = f_X6_go_315 x229_1 x248_0 x248_1 1 → n_X6_go_346 1) ∧
  (((x248_3 x229_1.toNatClampNeg (1 : Int32).toNatClampNeg) ≤ 0) → (¬ (f_X6_isAwake ttk tfh tlh) = 0) → (¬ (x248_3 x229_1.toNatClampNeg (0 : Int32).toNatClampNeg) < 0) → ∀ (x315e_78 : UInt64), x315e_78 = f_X6_go_315 x229_1 x248_0 x248_1 1 → ∀ (x346e_85 : UInt64), x346e_85 = f_X6_go_346 x229_1 x248_3 x248_4 1 → vp_in (x248_3 x229_1.toNatClampNeg (0 : Int32).toNatClampNeg) 10) ∧
  (((x248_3 x229_1.toNatClampNeg (1 : Int32).toNatClampNeg) ≤ 0) → (¬ (f_X6_isAwake ttk tfh tlh) = 0) → (¬ (x248_3 x229_1.toNatClampNeg (0 : Int32).toNatClampNeg) < 0) → ∀ (x315e_78 : UInt64), x315e_78 = f_X6_go_315 x229_1 x248_0 x248_1 1 → ∀ (x346e_85 : UInt64), x346e_85 = f_X6_go_346 x229_1 x248_3 x248_4 1 → vf_n64 (FP.dmul (FP.ddiv x315e_78 (FP.dadd FP.dconst1 (FP.f2d (x248_1 x229_1.toNatClampNeg)))) x346e_85)) ∧
  (((x248_3 x229_1.toNatClampNeg (1 : Int32).toNatClampNeg) ≤ 0) → (¬ (f_X6_isAwake ttk tfh tlh) = 0) → (¬ (x248_3 x229_1.toNatClampNeg (0 : Int32).toNatClampNeg) < 0) → ∀ (x315e_78 : UInt64), x315e_78 = f_X6_go_315 x229_1 x248_0 x248_1 1 → ∀ (x346e_85 : UInt64), x346e_85 = f_X6_go_346 x229_1 x248_3 x248_4 1 → vf_n64 (FP.dsub (x248_2 (x248_3 x229_1.toNatClampNeg (0 : Int32).toNatClampNeg).toNatClampNeg) (FP.dmul (FP.ddiv x315e_78 (FP.dadd FP.dconst1 (FP.f2d (x248_1 x229_1.toNatClampNeg)))) x346e_85))) ∧
  (((x248_3 x229_1.toNatClampNeg (1 : Int32).toNatClampNeg) ≤ 0) → (¬ (f_X6_isAwake ttk tfh tlh) = 0) → (¬ (x248_3 x229_1.toNatClampNeg (0 : Int32).toNatClampNeg) < 0) → ∀ (x315e_78 : UInt64), x315e_78 = f_X6_go_315 x229_1 x248_0 x248_1 1 → ∀ (x346e_85 : UInt64), x346e_85 = f_X6_go_346 x229_1 x248_3 x248_4 1 → n_X6_go_396 x229_1 x248_1 x248_2 x248_3 x315e_78 x346e_85 1 x248_2) ∧
  (((x248_3 x229_1.toNatClampNeg (1 : Int32).toNatClampNeg) ≤ 0) → (¬ (f_X6_isAwake ttk tfh tlh) = 0) → (¬ (x248_3 x229_1.toNatClampNeg (0 : Int32).toNatClampNeg) < 0) → ∀ (x315e_78 : UInt64), x315e_78 = f_X6_go_315 x229_1 x248_0 x248_1 1 → ∀ (x346e_85 : UInt64), x346e_85 = f_X6_go_346 x229_1 x248_3 x248_4 1 → ∀ (x396e_94 : Nat → UInt64), x396e_94 = f_X6_go_396 x229_1 x248_1 x248_2 x248_3 x315e_78 x346e_85 1 x248_2 → n_X6_go_418 1) ∧
  (((x248_3 x229_1.toNatClampNeg (1 : Int32).toNatClampNeg) ≤ 0) → (¬ (f_X6_isAwake ttk tfh tlh) = 0) → (¬ (x248_3 x229_1.toNatClampNeg (0 : Int32).toNatClampNeg) < 0) → ∀ (x315e_78 : UInt64), x315e_78 = f_X6_go_315 x229_1 x248_0 x248_1 1 → ∀ (x346e_85 : UInt64), x346e_85 = f_X6_go_346 x229_1 x248_3 x248_4 1 → ∀ (x396e_94 : Nat → UInt64), x396e_94 = f_X6_go_396 x229_1 x248_1 x248_2 x248_3 x315e_78 x346e_85 1 x248_2 → ∀ (x418e_98 : UInt32), x418e_98 = f_X6_go_418 x229_1 x248_3 x248_4 1 → vf_n32 (FP.d2f (FP.ddiv x315e_78 (FP.dadd FP.dconst1 (FP.f2d (x248_1 x229_1.toNatClampNeg)))))) ∧
  (((x248_3 x229_1.toNatClampNeg (1 : Int32).toNatClampNeg) ≤ 0) → (¬ (f_X6_isAwake ttk tfh tlh) = 0) → (¬ (x248_3 x229_1.toNatClampNeg (0 : Int32).toNatClampNeg) < 0) → ∀ (x315e_78 : UInt64), x315e_78 = f_X6_go_315 x229_1 x248_0 x248_1 1 → ∀ (x346e_85 : UInt64), x346e_85 = f_X6_go_346 x229_1 x248_3 x248_4 1 → ∀ (x396e_94 : Nat → UInt64), x396e_94 = f_X6_go_396 x229_1 x248_1 x248_2 x248_3 x315e_78 x346e_85 1 x248_2 → ∀ (x418e_98 : UInt32), x418e_98 = f_X6_go_418 x229_1 x248_3 x248_4 1 → vf_n32 (FP.fmul (FP.d2f (FP.ddiv x315e_78 (FP.dadd FP.dconst1 (FP.f2d (x248_1 x229_1.toNatClampNeg))))) x418e_98)) ∧
  (((x248_3 x229_1.toNatClampNeg (1 : Int32).toNatClampNeg) ≤ 0) → (¬ (f_X6_isAwake ttk tfh tlh) = 0) → (¬ (x248_3 x229_1.toNatClampNeg (0 : Int32).toNatClampNeg) < 0) → ∀ (x315e_78 : UInt64), x315e_78 = f_X6_go_315 x229_1 x248_0 x248_1 1 → ∀ (x346e_85 : UInt64), x346e_85 = f_X6_go_346 x229_1 x248_3 x248_4 1 → ∀ (x396e_94 : Nat → UInt64), x396e_94 = f_X6_go_396 x229_1 x248_1 x248_2 x248_3 x315e_78 x346e_85 1 x248_2 → ∀ (x418e_98 : UInt32), x418e_98 = f_X6_go_418 x229_1 x248_3 x248_4 1 → vf_n32 (FP.fdiv (FP.fmul (FP.d2f (FP.ddiv x315e_78 (FP.dadd FP.dconst1 (FP.f2d (x248_1 x229_1.toNatClampNeg))))) x418e_98) 1115684864)) ∧
  (((x248_3 x229_1.toNatClampNeg (1 : Int32).toNatClampNeg) ≤ 0) → (¬ (f_X6_isAwake ttk tfh tlh) = 0) → (¬ (x248_3 x229_1.toNatClampNeg (0 : Int32).toNatClampNeg) < 0) → ∀ (x315e_78 : UInt64), x315e_78 = f_X6_go_315 x229_1 x248_0 x248_1 1 → ∀ (x346e_85 : UInt64), x346e_85 = f_X6_go_346 x229_1 x248_3 x248_4 1 → ∀ (x396e_94 : Nat → UInt64), x396e_94 = f_X6_go_396 x229_1 x248_1 x248_2 x248_3 x315e_78 x346e_85 1 x248_2 → ∀ (x418e_98 : UInt32), x418e_98 = f_X6_go_418 x229_1 x248_3 x248_4 1 → vf_n32 (FP.fadd (x248_1 x229_1.toNatClampNeg) (FP.fdiv (FP.fmul (FP.d2f (FP.ddiv x315e_78 (FP.dadd FP.dconst1 (FP.f2d (x248_1 x229_1.toNatClampNeg))))) x418e_98) 1115684864))) ∧
  (((x248_3 x229_1.toNatClampNeg (1 : Int32).toNatClampNeg) ≤ 0) → (¬ (f_X6_isAwake ttk tfh tlh) = 0) → (¬ (x248_3 x229_1.toNatClampNeg (0 : Int32).toNatClampNeg) < 0) → ∀ (x315e_78 : UInt64), x315e_78 = f_X6_go_315 x229_1 x248_0 x248_1 1 → ∀ (x346e_85 : UInt64), x346e_85 = f_X6_go_346 x229_1 x248_3 x248_4 1 → ∀ (x396e_94 : Nat → UInt64), x396e_94 = f_X6_go_396 x229_1 x248_1 x248_2 x248_3 x315e_78 x346e_85 1 x248_2 → ∀ (x418e_98 : UInt32), x418e_98 = f_X6_go_418 x229_1 x248_3 x248_4 1 → n_X6_go_457 x229_1 1 (vf_upd x248_1 x229_1.toNatClampNeg (FP.fadd (x248_1 x229_1.toNatClampNeg) (FP.fdiv (FP.fmul (FP.d2f (FP.ddiv x315e_78 (FP.dadd FP.dconst1 (FP.f2d (x248_1 x229_1.toNatClampNeg))))) x418e_98) 1115684864)))) ∧
  (((x248_3 x229_1.toNatClampNeg (1 : Int32).toNatClampNeg) ≤ 0) → (¬ (f_X6_isAwake ttk tfh tlh) = 0) → (¬ (x248_3 x229_1.toNatClampNeg (0 : Int32).toNatClampNeg) < 0) → ∀ (x315e_78 : UInt64), x315e_78 = f_X6_go_315 x229_1 x248_0 x248_1 1 → ∀ (x346e_85 : UInt64), x346e_85 = f_X6_go_346 x229_1 x248_3 x248_4 1 → ∀ (x396e_94 : Nat → UInt64), x396e_94 = f_X6_go_396 x229_1 x248_1 x248_2 x248_3 x315e_78 x346e_85 1 x248_2 → ∀ (x418e_98 : UInt32), x418e_98 = f_X6_go_418 x229_1 x248_3 x248_4 1 → ∀ (x457e_106 : Nat → UInt32), x457e_106 = f_X6_go_457 x229_1 1 (vf_upd x248_1 x229_1.toNatClampNeg (FP.fadd (x248_1 x229_1.toNatClampNeg) (FP.fdiv (FP.fmul (FP.d2f (FP.ddiv x315e_78 (FP.dadd FP.dconst1 (FP.f2d (x248_1 x229_1.toNatClampNeg))))) x418e_98) 1115684864))) → ((Op.cmpValue (FP.dcmp (x396e_94 (x248_3 x229_1.toNatClampNeg (0 : Int32).toNatClampNeg).toNatClampNeg) FP.dconst0) .l) = 0) → vp_in 4 5) ∧
  ((¬ (x248_3 x229_1.toNatClampNeg (1 : Int32).toNatClampNeg) ≤ 0) → (((x248_3 x229_1.toNatClampNeg (1 : Int32).toNatClampNeg) - 1) = 0) → vp_in x229_1 3)
def f_X6_go_229 (ttk : Int32) (tfh : Int32) (tlh : Int32) (np : Nat) : Nat → UInt64 → Int32 → (Nat → UInt32) → (Nat → UInt64) → (Nat → Nat → Int32) → (Nat → Nat → Int32) → UInt64 × Int32 × (Nat → UInt32) × (Nat → UInt64) × (Nat → Nat → Int32) × (Nat → Nat → Int32)
  | 0, x229_0, x229_1, x229_2, x229_3, x229_4, x229_5 => (x229_0, x229_1, x229_2, x229_3, x229_4, x229_5)
  | fuel + 1, x229_0, x229_1, x229_2, x229_3, x229_4, x229_5 => if (nI np) ≤ x229_1 then (x229_0, x229_1, x229_2, x229_3, x229_4, x229_5) else (match f_X6_go_248 ttk tfh tlh x229_1 1 x229_0 x229_2 x229_3 x229_4 x229_5 with | (x248e_112, x248e_113, x248e_114, x248e_115, x248e_116) => f_X6_go_229 ttk tfh tlh np fuel x248e_112 (x229_1 + 1) x248e_113 x248e_114 x248e_115 x248e_116)
def n_X6_go_229 (ttk : Int32) (tfh : Int32) (tlh : Int32) (np : Nat) (n : Nat) : Nat → UInt64 → Int32 → (Nat → UInt32) → (Nat → UInt64) → (Nat → Nat → Int32) → (Nat → Nat → Int32) → Prop
  | 0, x229_0, x229_1, x229_2, x229_3, x229_4, x229_5 => False
  | fuel + 1, x229_0, x229_1, x229_2, x229_3, x229_4, x229_5 => ((¬ (nI np) ≤ x229_1) → vp_in x229_1 np) ∧
  ((¬ (nI np) ≤ x229_1) → n_X6_go_248 ttk tfh tlh n x229_1 1 x229_0 x229_2 x229_3 x229_4 x229_5) ∧
  ((¬ (nI np) ≤ x229_1) → ∀ (x248e_112 : UInt64) (x248e_113 : Nat → UInt32) (x248e_114 : Nat → UInt64) (x248e_115 : Nat → Nat → Int32) (x248e_116 : Nat → Nat → Int32), (x248e_112, x248e_113, x248e_114, x248e_115, x248e_116) = f_X6_go_248 ttk tfh tlh x229_1 1 x229_0 x229_2 x229_3 x229_4 x229_5 → n_X6_go_229 ttk tfh tlh np n fuel x248e_112 (x229_1 + 1) x248e_113 x248e_114 x248e_115 x248e_116)
def f_X6_go_574 (ttk : Int32) : Nat → Int32 → Int32
  | 0, x574_0 => x574_0
  | fuel + 1, x574_0 => if (ttk - ttk / 48 * 48) < 12 then 1 else (if (ttk - ttk / 48 * 48) ≤ 35 then 0 else 1)
def n_X6_go_574 : Nat → Int32 → Prop
  | 0, x574_0 => False
  | fuel + 1, x574_0 => True
def f_X6_go_605 (ttk : Int32) (tmo : Int32) (tsl : Int32) (x108e_35 : UInt64) (x574e_128 : Int32) : Nat → Int32 → Int32
  | 0, x605_0 => x605_0
  | fuel + 1, x605_0 => if (Op.cmpValue (FP.dcmp x108e_35 FP.dconst0) .l) ≤ 0 then x605_0 else (if (f_X6_age tmo ttk) ≤ 12 then x605_0 else (if 18 ≤ (f_X6_age tmo ttk) then x605_0 else (if x574e_128 = 0 then x605_0 else (x605_0 + tsl))))
def n_X6_go_605 : Nat → Int32 → Prop
  | 0, x605_0 => False
  | fuel + 1, x605_0 => True
def f_X6_go (ttk : Int32) (tmo : Int32) (tsu : UInt64) (tlv : UInt64) (tsi : UInt32) (tga : Int32) (tsl : Int32) (tsc : Int32) (tfh : Int32) (tlh : Int32) (tfo : UInt64) (tee : Int32) (tdl : Nat → UInt32) (tle : Nat → UInt64) (np : Nat) (pr : Nat → Nat → Int32) (rc : Nat → Nat → Int32) : (Nat → Nat → Int32) × (Nat → Nat → Int32) × Int32 × UInt64 × UInt32 × UInt64 × Int32 × (Nat → UInt32) × (Nat → UInt64) :=
  (match f_X6_go_9 ttk tmo tsu tga 1 tlv tsi with | (x9e_17, x9e_18) => (match f_X6_go_87 ttk tmo tsu x9e_17 1 with | x87e_23 => (match f_X6_go_108 tsl x9e_18 x87e_23 1 x9e_17 tfo with | (x108e_34, x108e_35) => (match f_X6_go_165 ttk tmo tsu tsc 1 x108e_34 x9e_18 with | (x165e_43, x165e_44) => (match f_X6_go_229 ttk tfh tlh np 5 x108e_35 0 tdl tle pr rc with | (x229e_119, x229e_120, x229e_121, x229e_122, x229e_123, x229e_124) => (match f_X6_go_574 ttk 1 x229e_120 with | x574e_128 => (match f_X6_go_605 ttk tmo tsl x108e_35 x574e_128 1 tee with | x605e_136 => (x229e_124, x229e_123, ttk + 1, x165e_43, x165e_44, x108e_35, x605e_136, x229e_121, x229e_122))))))))
def n_X6_go (ttk : Int32) (tmo : Int32) (tsu : UInt64) (tlv : UInt64) (tsi : UInt32) (tga : Int32) (tsl : Int32) (tsc : Int32) (tfh : Int32) (tlh : Int32) (tfo : UInt64) (tee : Int32) (tdl : Nat → UInt32) (tle : Nat → UInt64) (np : Nat) (pr : Nat → Nat → Int32) (n : Nat) (rc : Nat → Nat → Int32) : Prop :=
  (n_X6_sea tmo tsu ttk) ∧
  (n_X6_go_9 ttk tmo tsu tga 1 tlv tsi) ∧
  (∀ (x9e_17 : UInt64) (x9e_18 : UInt32), (x9e_17, x9e_18) = f_X6_go_9 ttk tmo tsu tga 1 tlv tsi → n_X6_go_87 ttk tmo tsu x9e_17 1) ∧
  (∀ (x9e_17 : UInt64) (x9e_18 : UInt32), (x9e_17, x9e_18) = f_X6_go_9 ttk tmo tsu tga 1 tlv tsi → ∀ (x87e_23 : UInt64), x87e_23 = f_X6_go_87 ttk tmo tsu x9e_17 1 → n_X6_go_108 tsl x9e_18 x87e_23 1 x9e_17 tfo) ∧
  (∀ (x9e_17 : UInt64) (x9e_18 : UInt32), (x9e_17, x9e_18) = f_X6_go_9 ttk tmo tsu tga 1 tlv tsi → ∀ (x87e_23 : UInt64), x87e_23 = f_X6_go_87 ttk tmo tsu x9e_17 1 → ∀ (x108e_34 : UInt64) (x108e_35 : UInt64), (x108e_34, x108e_35) = f_X6_go_108 tsl x9e_18 x87e_23 1 x9e_17 tfo → n_X6_go_165 ttk tmo tsu tsc 1 x108e_34 x9e_18) ∧
  (∀ (x9e_17 : UInt64) (x9e_18 : UInt32), (x9e_17, x9e_18) = f_X6_go_9 ttk tmo tsu tga 1 tlv tsi → ∀ (x87e_23 : UInt64), x87e_23 = f_X6_go_87 ttk tmo tsu x9e_17 1 → ∀ (x108e_34 : UInt64) (x108e_35 : UInt64), (x108e_34, x108e_35) = f_X6_go_108 tsl x9e_18 x87e_23 1 x9e_17 tfo → ∀ (x165e_43 : UInt64) (x165e_44 : UInt32), (x165e_43, x165e_44) = f_X6_go_165 ttk tmo tsu tsc 1 x108e_34 x9e_18 → n_X6_go_229 ttk tfh tlh np n 5 x108e_35 0 tdl tle pr rc) ∧
  (∀ (x9e_17 : UInt64) (x9e_18 : UInt32), (x9e_17, x9e_18) = f_X6_go_9 ttk tmo tsu tga 1 tlv tsi → ∀ (x87e_23 : UInt64), x87e_23 = f_X6_go_87 ttk tmo tsu x9e_17 1 → ∀ (x108e_34 : UInt64) (x108e_35 : UInt64), (x108e_34, x108e_35) = f_X6_go_108 tsl x9e_18 x87e_23 1 x9e_17 tfo → ∀ (x165e_43 : UInt64) (x165e_44 : UInt32), (x165e_43, x165e_44) = f_X6_go_165 ttk tmo tsu tsc 1 x108e_34 x9e_18 → ∀ (x229e_119 : UInt64) (x229e_120 : Int32) (x229e_121 : Nat → UInt32) (x229e_122 : Nat → UInt64) (x229e_123 : Nat → Nat → Int32) (x229e_124 : Nat → Nat → Int32), (x229e_119, x229e_120, x229e_121, x229e_122, x229e_123, x229e_124) = f_X6_go_229 ttk tfh tlh np 5 x108e_35 0 tdl tle pr rc → n_X6_go_574 1 x229e_120) ∧
  (∀ (x9e_17 : UInt64) (x9e_18 : UInt32), (x9e_17, x9e_18) = f_X6_go_9 ttk tmo tsu tga 1 tlv tsi → ∀ (x87e_23 : UInt64), x87e_23 = f_X6_go_87 ttk tmo tsu x9e_17 1 → ∀ (x108e_34 : UInt64) (x108e_35 : UInt64), (x108e_34, x108e_35) = f_X6_go_108 tsl x9e_18 x87e_23 1 x9e_17 tfo → ∀ (x165e_43 : UInt64) (x165e_44 : UInt32), (x165e_43, x165e_44) = f_X6_go_165 ttk tmo tsu tsc 1 x108e_34 x9e_18 → ∀ (x229e_119 : UInt64) (x229e_120 : Int32) (x229e_121 : Nat → UInt32) (x229e_122 : Nat → UInt64) (x229e_123 : Nat → Nat → Int32) (x229e_124 : Nat → Nat → Int32), (x229e_119, x229e_120, x229e_121, x229e_122, x229e_123, x229e_124) = f_X6_go_229 ttk tfh tlh np 5 x108e_35 0 tdl tle pr rc → ∀ (x574e_128 : Int32), x574e_128 = f_X6_go_574 ttk 1 x229e_120 → n_X6_go_605 1 tee)
def f_X6_pass_2 (tmo : Int32) (tsu : UInt64) (tga : Int32) (tsl : Int32) (tsc : Int32) (tfh : Int32) (tlh : Int32) (p1 : Int32) (np : Nat) : Nat → Int32 → Int32 → UInt64 → UInt32 → UInt64 → Int32 → (Nat → UInt32) → (Nat → UInt64) → (Nat → Nat → Int32) → (Nat → Nat → Int32) → Int32 × Int32 × UInt64 × UInt32 × UInt64 × Int32 × (Nat → UInt32) × (Nat → UInt64) × (Nat → Nat → Int32) × (Nat → Nat → Int32)
  | 0, x2_0, x2_1, x2_2, x2_3, x2_4, x2_5, x2_6, x2_7, x2_8, x2_9 => (x2_0, x2_1, x2_2, x2_3, x2_4, x2_5, x2_6, x2_7, x2_8, x2_9)
  | fuel + 1, x2_0, x2_1, x2_2, x2_3, x2_4, x2_5, x2_6, x2_7, x2_8, x2_9 => if p1 ≤ x2_0 then (x2_0, x2_1, x2_2, x2_3, x2_4, x2_5, x2_6, x2_7, x2_8, x2_9) else (match f_X6_go x2_1 tmo tsu x2_2 x2_3 tga tsl tsc tfh tlh x2_4 x2_5 x2_6 x2_7 np x2_8 x2_9 with | (u_4, u_5, u_6, u_7, u_8, u_9, u_10, u_11, u_12) => f_X6_pass_2 tmo tsu tga tsl tsc tfh tlh p1 np fuel (x2_0 + 1) u_6 u_7 u_8 u_9 u_10 u_11 u_12 u_5 u_4)
def n_X6_pass_2 (tmo : Int32) (tsu : UInt64) (tga : Int32) (tsl : Int32) (tsc : Int32) (tfh : Int32) (tlh : Int32) (p1 : Int32) (np : Nat) (n : Nat) : Nat → Int32 → Int32 → UInt64 → UInt32 → UInt64 → Int32 → (Nat → UInt32) → (Nat → UInt64) → (Nat → Nat → Int32) → (Nat → Nat → Int32) → Prop
  | 0, x2_0, x2_1, x2_2, x2_3, x2_4, x2_5, x2_6, x2_7, x2_8, x2_9 => False
  | fuel + 1, x2_0, x2_1, x2_2, x2_3, x2_4, x2_5, x2_6, x2_7, x2_8, x2_9 => ((¬ p1 ≤ x2_0) → n_X6_go x2_1 tmo tsu x2_2 x2_3 tga tsl tsc tfh tlh x2_4 x2_5 x2_6 x2_7 np x2_8 n x2_9) ∧
  ((¬ p1 ≤ x2_0) → ∀ (u_4 : Nat → Nat → Int32) (u_5 : Nat → Nat → Int32) (u_6 : Int32) (u_7 : UInt64) (u_8 : UInt32) (u_9 : UInt64) (u_10 : Int32) (u_11 : Nat → UInt32) (u_12 : Nat → UInt64), (u_4, u_5, u_6, u_7, u_8, u_9, u_10, u_11, u_12) = f_X6_go x2_1 tmo tsu x2_2 x2_3 tga tsl tsc tfh tlh x2_4 x2_5 x2_6 x2_7 np x2_8 x2_9 → n_X6_pass_2 tmo tsu tga tsl tsc tfh tlh p1 np n fuel (x2_0 + 1) u_6 u_7 u_8 u_9 u_10 u_11 u_12 u_5 u_4)
def f_X6_pass (ttk : Int32) (tmo : Int32) (tsu : UInt64) (tlv : UInt64) (tsi : UInt32) (tga : Int32) (tsl : Int32) (tsc : Int32) (tfh : Int32) (tlh : Int32) (tfo : UInt64) (tee : Int32) (tdl : Nat → UInt32) (tle : Nat → UInt64) (fh : Int32) (lh : Int32) (ee : Int32) (tk : Int32) (mo : Int32) (su : UInt64) (lv : UInt64) (si : UInt32) (ga : Int32) (sl : Int32) (sc : Int32) (fo : UInt64) (ln : Int32) (gr : Nat → Int32) (sa : Nat → Int32) (le : Nat → UInt64) (pn : Int32) (dl : Nat → UInt32) (pl : Nat → Int32) (dr : Nat → Int32) (sp : Nat → Int32) (p1 : Int32) (np : Nat) (pr : Nat → Nat → Int32) (rc : Nat → Nat → Int32) : (Nat → Nat → Int32) × (Nat → Nat → Int32) × Int32 × UInt64 × UInt32 × UInt64 × Int32 × (Nat → UInt32) × (Nat → UInt64) × Int32 × Int32 × UInt64 × UInt32 × UInt64 × (Nat → Int32) × (Nat → UInt64) × (Nat → UInt32) × (Nat → Int32) × (Nat → Int32) × (Nat → Int32) :=
  (match f_X6_pass_2 tmo tsu tga tsl tsc tfh tlh p1 np 102 0 ttk tlv tsi tfo tee tdl tle pr rc with | (x2e_15, x2e_16, x2e_17, x2e_18, x2e_19, x2e_20, x2e_21, x2e_22, x2e_23, x2e_24) => (match f_X5_pass fh lh ee tk mo su lv si ga sl sc fo ln gr sa le pn dl pl dr sp p1 with | (r_26, u_27, u_28, u_29, u_30, u_31, u_32, u_33, u_34, u_35, u_36, u_37) => (x2e_24, x2e_23, x2e_16, x2e_17, x2e_18, x2e_19, x2e_20, x2e_21, x2e_22, u_27, u_28, u_29, u_30, u_31, u_32, u_33, u_34, u_35, u_36, u_37)))
def n_X6_pass (ttk : Int32) (tmo : Int32) (tsu : UInt64) (tlv : UInt64) (tsi : UInt32) (tga : Int32) (tsl : Int32) (tsc : Int32) (tfh : Int32) (tlh : Int32) (tfo : UInt64) (tee : Int32) (tdl : Nat → UInt32) (tle : Nat → UInt64) (fh : Int32) (lh : Int32) (ee : Int32) (tk : Int32) (mo : Int32) (su : UInt64) (lv : UInt64) (si : UInt32) (ga : Int32) (sl : Int32) (sc : Int32) (fo : UInt64) (ln : Int32) (gr : Nat → Int32) (sa : Nat → Int32) (le : Nat → UInt64) (pn : Int32) (dl : Nat → UInt32) (pl : Nat → Int32) (dr : Nat → Int32) (sp : Nat → Int32) (p1 : Int32) (np : Nat) (pr : Nat → Nat → Int32) (n : Nat) (rc : Nat → Nat → Int32) : Prop :=
  (n_X6_pass_2 tmo tsu tga tsl tsc tfh tlh p1 np n 102 0 ttk tlv tsi tfo tee tdl tle pr rc) ∧
  (∀ (x2e_15 : Int32) (x2e_16 : Int32) (x2e_17 : UInt64) (x2e_18 : UInt32) (x2e_19 : UInt64) (x2e_20 : Int32) (x2e_21 : Nat → UInt32) (x2e_22 : Nat → UInt64) (x2e_23 : Nat → Nat → Int32) (x2e_24 : Nat → Nat → Int32), (x2e_15, x2e_16, x2e_17, x2e_18, x2e_19, x2e_20, x2e_21, x2e_22, x2e_23, x2e_24) = f_X6_pass_2 tmo tsu tga tsl tsc tfh tlh p1 np 102 0 ttk tlv tsi tfo tee tdl tle pr rc → n_X5_pass fh lh ee tk mo su lv si ga sl sc fo ln gr sa le pn dl pl dr sp p1) ∧
  (∀ (x2e_15 : Int32) (x2e_16 : Int32) (x2e_17 : UInt64) (x2e_18 : UInt32) (x2e_19 : UInt64) (x2e_20 : Int32) (x2e_21 : Nat → UInt32) (x2e_22 : Nat → UInt64) (x2e_23 : Nat → Nat → Int32) (x2e_24 : Nat → Nat → Int32), (x2e_15, x2e_16, x2e_17, x2e_18, x2e_19, x2e_20, x2e_21, x2e_22, x2e_23, x2e_24) = f_X6_pass_2 tmo tsu tga tsl tsc tfh tlh p1 np 102 0 ttk tlv tsi tfo tee tdl tle pr rc → ∀ (r_26 : Int32) (u_27 : Int32) (u_28 : Int32) (u_29 : UInt64) (u_30 : UInt32) (u_31 : UInt64) (u_32 : Nat → Int32) (u_33 : Nat → UInt64) (u_34 : Nat → UInt32) (u_35 : Nat → Int32) (u_36 : Nat → Int32) (u_37 : Nat → Int32), (r_26, u_27, u_28, u_29, u_30, u_31, u_32, u_33, u_34, u_35, u_36, u_37) = f_X5_pass fh lh ee tk mo su lv si ga sl sc fo ln gr sa le pn dl pl dr sp p1 → n_X6_count 2 n x2e_24) ∧
  (∀ (x2e_15 : Int32) (x2e_16 : Int32) (x2e_17 : UInt64) (x2e_18 : UInt32) (x2e_19 : UInt64) (x2e_20 : Int32) (x2e_21 : Nat → UInt32) (x2e_22 : Nat → UInt64) (x2e_23 : Nat → Nat → Int32) (x2e_24 : Nat → Nat → Int32), (x2e_15, x2e_16, x2e_17, x2e_18, x2e_19, x2e_20, x2e_21, x2e_22, x2e_23, x2e_24) = f_X6_pass_2 tmo tsu tga tsl tsc tfh tlh p1 np 102 0 ttk tlv tsi tfo tee tdl tle pr rc → ∀ (r_26 : Int32) (u_27 : Int32) (u_28 : Int32) (u_29 : UInt64) (u_30 : UInt32) (u_31 : UInt64) (u_32 : Nat → Int32) (u_33 : Nat → UInt64) (u_34 : Nat → UInt32) (u_35 : Nat → Int32) (u_36 : Nat → Int32) (u_37 : Nat → Int32), (r_26, u_27, u_28, u_29, u_30, u_31, u_32, u_33, u_34, u_35, u_36, u_37) = f_X5_pass fh lh ee tk mo su lv si ga sl sc fo ln gr sa le pn dl pl dr sp p1 → r_26 = (f_X6_count 2 n x2e_24))
def f_X6_pair (pn : Int32) (pl : Nat → Int32) (np : Nat) (pr : Nat → Nat → Int32) : (Nat → Nat → Int32) × Int32 × (Nat → Int32) :=
  (match f_X5_pair pn pl with | (r_9, u_10, u_11) => (vf_upd pr np (upd (upd (upd (fun _ => (0 : Int32)) (0 : Int32).toNatClampNeg (-1)) (1 : Int32).toNatClampNeg 0) (2 : Int32).toNatClampNeg 0), u_10, u_11))
def n_X6_pair (pn : Int32) (pl : Nat → Int32) (np : Nat) : Prop :=
  (vp_in 0 3) ∧
  (vp_in 1 3) ∧
  (vp_in 2 3) ∧
  (np < 10) ∧
  (n_X5_pair pn) ∧
  (∀ (r_9 : Int32) (u_10 : Int32) (u_11 : Nat → Int32), (r_9, u_10, u_11) = f_X5_pair pn pl → r_9 = ((nI (np + 1)) - 1))
def f_X6_lot (dw : Int32) (ttk : Int32) (tle : Nat → UInt64) (tk : Int32) (ln : Int32) (ow : Nat → Int32) (gr : Nat → Int32) (we : Nat → Int32) (du : Nat → Int32) (sa : Nat → Int32) (le : Nat → UInt64) (n : Nat) (rc : Nat → Nat → Int32) (sL : Nat) (xs : Nat → Int32) : (Nat → Nat → Int32) × Int32 × (Nat → UInt64) × Int32 × (Nat → Int32) × (Nat → Int32) × (Nat → Int32) × (Nat → Int32) × (Nat → Int32) × (Nat → UInt64) :=
  if ((f_X6_draw ((dw + 1) + 1) 2 sL xs).1) = 0 then (match f_X5_lot tk ln ow gr we du sa le ((f_X6_draw dw 4 sL xs).1) ((f_X6_draw (dw + 1) 3 sL xs).1) (1 + ((f_X6_draw (((dw + 1) + 1) + 1) 60 sL xs).1)) ((f_X6_draw ((((dw + 1) + 1) + 1) + 1) 5 sL xs).1) with | (r_57, u_58, u_59, u_60, u_61, u_62, u_63, u_64) => (vf_upd rc n (upd (upd (upd (upd (upd (fun _ => (0 : Int32)) (0 : Int32).toNatClampNeg ((f_X6_draw dw 4 sL xs).1)) (1 : Int32).toNatClampNeg ((f_X6_draw (dw + 1) 3 sL xs).1)) (2 : Int32).toNatClampNeg (1 + ((f_X6_draw (((dw + 1) + 1) + 1) 60 sL xs).1))) (3 : Int32).toNatClampNeg ((ttk / 48) + ((f_X6_draw ((((dw + 1) + 1) + 1) + 1) 5 sL xs).1))) (4 : Int32).toNatClampNeg 0), ((((dw + 1) + 1) + 1) + 1) + 1, vf_upd tle (nI n).toNatClampNeg (FP.i2d (1 + ((f_X6_draw (((dw + 1) + 1) + 1) 60 sL xs).1))), u_58, u_59, u_60, u_61, u_62, u_63, u_64)) else (match f_X5_lot tk ln ow gr we du sa le ((f_X6_draw dw 4 sL xs).1) ((f_X6_draw (dw + 1) 3 sL xs).1) (1 + ((f_X6_draw (((dw + 1) + 1) + 1) 10 sL xs).1)) ((f_X6_draw ((((dw + 1) + 1) + 1) + 1) 5 sL xs).1) with | (r_30, u_31, u_32, u_33, u_34, u_35, u_36, u_37) => (vf_upd rc n (upd (upd (upd (upd (upd (fun _ => (0 : Int32)) (0 : Int32).toNatClampNeg ((f_X6_draw dw 4 sL xs).1)) (1 : Int32).toNatClampNeg ((f_X6_draw (dw + 1) 3 sL xs).1)) (2 : Int32).toNatClampNeg (1 + ((f_X6_draw (((dw + 1) + 1) + 1) 10 sL xs).1))) (3 : Int32).toNatClampNeg ((ttk / 48) + ((f_X6_draw ((((dw + 1) + 1) + 1) + 1) 5 sL xs).1))) (4 : Int32).toNatClampNeg 0), ((((dw + 1) + 1) + 1) + 1) + 1, vf_upd tle (nI n).toNatClampNeg (FP.i2d (1 + ((f_X6_draw (((dw + 1) + 1) + 1) 10 sL xs).1))), u_31, u_32, u_33, u_34, u_35, u_36, u_37))
def n_X6_lot (dw : Int32) (tk : Int32) (ln : Int32) (ow : Nat → Int32) (gr : Nat → Int32) (we : Nat → Int32) (du : Nat → Int32) (sa : Nat → Int32) (le : Nat → UInt64) (n : Nat) (sL : Nat) (xs : Nat → Int32) : Prop :=
  ((nI n) ≤ 9) ∧
  (n_X6_draw dw 4 sL) ∧
  (n_X6_draw (dw + 1) 3 sL) ∧
  (n_X6_draw ((dw + 1) + 1) 2 sL) ∧
  ((¬ ((f_X6_draw ((dw + 1) + 1) 2 sL xs).1) = 0) → n_X6_draw (((dw + 1) + 1) + 1) 10 sL) ∧
  ((¬ ((f_X6_draw ((dw + 1) + 1) 2 sL xs).1) = 0) → n_X6_draw ((((dw + 1) + 1) + 1) + 1) 5 sL) ∧
  ((¬ ((f_X6_draw ((dw + 1) + 1) 2 sL xs).1) = 0) → vp_in (nI n) 10) ∧
  ((¬ ((f_X6_draw ((dw + 1) + 1) 2 sL xs).1) = 0) → vp_in 0 5) ∧
  ((¬ ((f_X6_draw ((dw + 1) + 1) 2 sL xs).1) = 0) → vp_in 1 5) ∧
  ((¬ ((f_X6_draw ((dw + 1) + 1) 2 sL xs).1) = 0) → vp_in 2 5) ∧
  ((¬ ((f_X6_draw ((dw + 1) + 1) 2 sL xs).1) = 0) → vp_in 3 5) ∧
  ((¬ ((f_X6_draw ((dw + 1) + 1) 2 sL xs).1) = 0) → vp_in 4 5) ∧
  ((¬ ((f_X6_draw ((dw + 1) + 1) 2 sL xs).1) = 0) → n < 10) ∧
  ((¬ ((f_X6_draw ((dw + 1) + 1) 2 sL xs).1) = 0) → n_X5_lot ln ((f_X6_draw dw 4 sL xs).1) ((f_X6_draw (dw + 1) 3 sL xs).1) (1 + ((f_X6_draw (((dw + 1) + 1) + 1) 10 sL xs).1)) ((f_X6_draw ((((dw + 1) + 1) + 1) + 1) 5 sL xs).1)) ∧
  ((¬ ((f_X6_draw ((dw + 1) + 1) 2 sL xs).1) = 0) → ∀ (r_30 : Int32) (u_31 : Int32) (u_32 : Nat → Int32) (u_33 : Nat → Int32) (u_34 : Nat → Int32) (u_35 : Nat → Int32) (u_36 : Nat → Int32) (u_37 : Nat → UInt64), (r_30, u_31, u_32, u_33, u_34, u_35, u_36, u_37) = f_X5_lot tk ln ow gr we du sa le ((f_X6_draw dw 4 sL xs).1) ((f_X6_draw (dw + 1) 3 sL xs).1) (1 + ((f_X6_draw (((dw + 1) + 1) + 1) 10 sL xs).1)) ((f_X6_draw ((((dw + 1) + 1) + 1) + 1) 5 sL xs).1) → r_30 = ((nI (n + 1)) - 1)) ∧
  ((((f_X6_draw ((dw + 1) + 1) 2 sL xs).1) = 0) → n_X6_draw (((dw + 1) + 1) + 1) 60 sL) ∧
  ((((f_X6_draw ((dw + 1) + 1) 2 sL xs).1) = 0) → n_X6_draw ((((dw + 1) + 1) + 1) + 1) 5 sL) ∧
  ((((f_X6_draw ((dw + 1) + 1) 2 sL xs).1) = 0) → vp_in (nI n) 10) ∧
  ((((f_X6_draw ((dw + 1) + 1) 2 sL xs).1) = 0) → vp_in 0 5) ∧
  ((((f_X6_draw ((dw + 1) + 1) 2 sL xs).1) = 0) → vp_in 1 5) ∧
  ((((f_X6_draw ((dw + 1) + 1) 2 sL xs).1) = 0) → vp_in 2 5) ∧
  ((((f_X6_draw ((dw + 1) + 1) 2 sL xs).1) = 0) → vp_in 3 5) ∧
  ((((f_X6_draw ((dw + 1) + 1) 2 sL xs).1) = 0) → vp_in 4 5) ∧
  ((((f_X6_draw ((dw + 1) + 1) 2 sL xs).1) = 0) → n < 10) ∧
  ((((f_X6_draw ((dw + 1) + 1) 2 sL xs).1) = 0) → n_X5_lot ln ((f_X6_draw dw 4 sL xs).1) ((f_X6_draw (dw + 1) 3 sL xs).1) (1 + ((f_X6_draw (((dw + 1) + 1) + 1) 60 sL xs).1)) ((f_X6_draw ((((dw + 1) + 1) + 1) + 1) 5 sL xs).1)) ∧
  ((((f_X6_draw ((dw + 1) + 1) 2 sL xs).1) = 0) → ∀ (r_57 : Int32) (u_58 : Int32) (u_59 : Nat → Int32) (u_60 : Nat → Int32) (u_61 : Nat → Int32) (u_62 : Nat → Int32) (u_63 : Nat → Int32) (u_64 : Nat → UInt64), (r_57, u_58, u_59, u_60, u_61, u_62, u_63, u_64) = f_X5_lot tk ln ow gr we du sa le ((f_X6_draw dw 4 sL xs).1) ((f_X6_draw (dw + 1) 3 sL xs).1) (1 + ((f_X6_draw (((dw + 1) + 1) + 1) 60 sL xs).1)) ((f_X6_draw ((((dw + 1) + 1) + 1) + 1) 5 sL xs).1) → r_57 = ((nI (n + 1)) - 1))
def n_X6_lot_z (n : Nat) : Prop :=
  (¬ (nI n) ≤ 9)
def f_X6_founded (dw : Int32) (ttk : Int32) (tle : Nat → UInt64) (tk : Int32) (ga : Int32) (sl : Int32) (ln : Int32) (ow : Nat → Int32) (gr : Nat → Int32) (we : Nat → Int32) (du : Nat → Int32) (sa : Nat → Int32) (le : Nat → UInt64) (pn : Int32) (pl : Nat → Int32) (np : Nat) (pr : Nat → Nat → Int32) (n : Nat) (rc : Nat → Nat → Int32) (sL : Nat) (xs : Nat → Int32) : (Nat → Nat → Int32) × (Nat → Nat → Int32) × Int32 × Int32 × Int32 × Int32 × (Nat → UInt64) × Int32 × Int32 × Int32 × Int32 × (Nat → Int32) × (Nat → Int32) × (Nat → Int32) × (Nat → Int32) × (Nat → Int32) × (Nat → UInt64) × Int32 × (Nat → Int32) :=
  (match f_X6_pair pn pl np pr with | (u_3, u_4, u_5) => (match f_X6_pair u_4 u_5 (np + 1) u_3 with | (u_12, u_13, u_14) => (match f_X6_lot dw ttk tle tk ln ow gr we du sa le n rc sL xs with | (u_20, u_21, u_22, u_23, u_24, u_25, u_26, u_27, u_28, u_29) => (match f_X6_lot u_21 ttk u_22 tk u_23 u_24 u_25 u_26 u_27 u_28 u_29 (n + 1) u_20 sL xs with | (u_35, u_36, u_37, u_38, u_39, u_40, u_41, u_42, u_43, u_44) => (match f_X6_lot u_36 ttk u_37 tk u_38 u_39 u_40 u_41 u_42 u_43 u_44 ((n + 1) + 1) u_35 sL xs with | (u_50, u_51, u_52, u_53, u_54, u_55, u_56, u_57, u_58, u_59) => (match f_X6_feed u_51 u_53 u_58 u_14 ((np + 1) + 1) u_12 (((n + 1) + 1) + 1) u_50 sL xs with | (u_65, u_66, u_67, u_68, u_69) => (match f_X6_moon u_67 tk sL xs with | (u_73, u_74, u_75) => (match f_X6_gates u_73 ga sL xs with | (u_79, u_80, u_81) => (match f_X6_sluice u_79 sl sL xs with | (u_85, u_86, u_87) => (u_65, u_66, u_85, u_74, u_80, u_86, u_52, u_75, u_81, u_87, u_53, u_54, u_55, u_56, u_57, u_68, u_59, u_13, u_69))))))))))
def n_X6_founded (dw : Int32) (ttk : Int32) (tga : Int32) (tsl : Int32) (tlk : Int32) (tle : Nat → UInt64) (lk : Int32) (tk : Int32) (ga : Int32) (sl : Int32) (ln : Int32) (ow : Nat → Int32) (gr : Nat → Int32) (we : Nat → Int32) (du : Nat → Int32) (sa : Nat → Int32) (le : Nat → UInt64) (pn : Int32) (pl : Nat → Int32) (dr : Nat → Int32) (np : Nat) (pr : Nat → Nat → Int32) (n : Nat) (rc : Nat → Nat → Int32) (sL : Nat) (xs : Nat → Int32) : Prop :=
  (n_X6_pair pn pl np) ∧
  (∀ (u_3 : Nat → Nat → Int32) (u_4 : Int32) (u_5 : Nat → Int32), (u_3, u_4, u_5) = f_X6_pair pn pl np pr → ¬ 1 = 0) ∧
  (∀ (u_3 : Nat → Nat → Int32) (u_4 : Int32) (u_5 : Nat → Int32), (u_3, u_4, u_5) = f_X6_pair pn pl np pr → n_X6_pair u_4 u_5 (np + 1)) ∧
  (∀ (u_3 : Nat → Nat → Int32) (u_4 : Int32) (u_5 : Nat → Int32), (u_3, u_4, u_5) = f_X6_pair pn pl np pr → ∀ (u_12 : Nat → Nat → Int32) (u_13 : Int32) (u_14 : Nat → Int32), (u_12, u_13, u_14) = f_X6_pair u_4 u_5 (np + 1) u_3 → n_X6_lot dw tk ln ow gr we du sa le n sL xs) ∧
  (∀ (u_3 : Nat → Nat → Int32) (u_4 : Int32) (u_5 : Nat → Int32), (u_3, u_4, u_5) = f_X6_pair pn pl np pr → ∀ (u_12 : Nat → Nat → Int32) (u_13 : Int32) (u_14 : Nat → Int32), (u_12, u_13, u_14) = f_X6_pair u_4 u_5 (np + 1) u_3 → ∀ (u_20 : Nat → Nat → Int32) (u_21 : Int32) (u_22 : Nat → UInt64) (u_23 : Int32) (u_24 : Nat → Int32) (u_25 : Nat → Int32) (u_26 : Nat → Int32) (u_27 : Nat → Int32) (u_28 : Nat → Int32) (u_29 : Nat → UInt64), (u_20, u_21, u_22, u_23, u_24, u_25, u_26, u_27, u_28, u_29) = f_X6_lot dw ttk tle tk ln ow gr we du sa le n rc sL xs → n_X6_lot u_21 tk u_23 u_24 u_25 u_26 u_27 u_28 u_29 (n + 1) sL xs) ∧
  (∀ (u_3 : Nat → Nat → Int32) (u_4 : Int32) (u_5 : Nat → Int32), (u_3, u_4, u_5) = f_X6_pair pn pl np pr → ∀ (u_12 : Nat → Nat → Int32) (u_13 : Int32) (u_14 : Nat → Int32), (u_12, u_13, u_14) = f_X6_pair u_4 u_5 (np + 1) u_3 → ∀ (u_20 : Nat → Nat → Int32) (u_21 : Int32) (u_22 : Nat → UInt64) (u_23 : Int32) (u_24 : Nat → Int32) (u_25 : Nat → Int32) (u_26 : Nat → Int32) (u_27 : Nat → Int32) (u_28 : Nat → Int32) (u_29 : Nat → UInt64), (u_20, u_21, u_22, u_23, u_24, u_25, u_26, u_27, u_28, u_29) = f_X6_lot dw ttk tle tk ln ow gr we du sa le n rc sL xs → ∀ (u_35 : Nat → Nat → Int32) (u_36 : Int32) (u_37 : Nat → UInt64) (u_38 : Int32) (u_39 : Nat → Int32) (u_40 : Nat → Int32) (u_41 : Nat → Int32) (u_42 : Nat → Int32) (u_43 : Nat → Int32) (u_44 : Nat → UInt64), (u_35, u_36, u_37, u_38, u_39, u_40, u_41, u_42, u_43, u_44) = f_X6_lot u_21 ttk u_22 tk u_23 u_24 u_25 u_26 u_27 u_28 u_29 (n + 1) u_20 sL xs → n_X6_lot u_36 tk u_38 u_39 u_40 u_41 u_42 u_43 u_44 ((n + 1) + 1) sL xs) ∧
  (∀ (u_3 : Nat → Nat → Int32) (u_4 : Int32) (u_5 : Nat → Int32), (u_3, u_4, u_5) = f_X6_pair pn pl np pr → ∀ (u_12 : Nat → Nat → Int32) (u_13 : Int32) (u_14 : Nat → Int32), (u_12, u_13, u_14) = f_X6_pair u_4 u_5 (np + 1) u_3 → ∀ (u_20 : Nat → Nat → Int32) (u_21 : Int32) (u_22 : Nat → UInt64) (u_23 : Int32) (u_24 : Nat → Int32) (u_25 : Nat → Int32) (u_26 : Nat → Int32) (u_27 : Nat → Int32) (u_28 : Nat → Int32) (u_29 : Nat → UInt64), (u_20, u_21, u_22, u_23, u_24, u_25, u_26, u_27, u_28, u_29) = f_X6_lot dw ttk tle tk ln ow gr we du sa le n rc sL xs → ∀ (u_35 : Nat → Nat → Int32) (u_36 : Int32) (u_37 : Nat → UInt64) (u_38 : Int32) (u_39 : Nat → Int32) (u_40 : Nat → Int32) (u_41 : Nat → Int32) (u_42 : Nat → Int32) (u_43 : Nat → Int32) (u_44 : Nat → UInt64), (u_35, u_36, u_37, u_38, u_39, u_40, u_41, u_42, u_43, u_44) = f_X6_lot u_21 ttk u_22 tk u_23 u_24 u_25 u_26 u_27 u_28 u_29 (n + 1) u_20 sL xs → ∀ (u_50 : Nat → Nat → Int32) (u_51 : Int32) (u_52 : Nat → UInt64) (u_53 : Int32) (u_54 : Nat → Int32) (u_55 : Nat → Int32) (u_56 : Nat → Int32) (u_57 : Nat → Int32) (u_58 : Nat → Int32) (u_59 : Nat → UInt64), (u_50, u_51, u_52, u_53, u_54, u_55, u_56, u_57, u_58, u_59) = f_X6_lot u_36 ttk u_37 tk u_38 u_39 u_40 u_41 u_42 u_43 u_44 ((n + 1) + 1) u_35 sL xs → n_X6_feed u_51 u_53 u_58 u_13 u_14 dr ((np + 1) + 1) u_12 (((n + 1) + 1) + 1) u_50 sL xs) ∧
  (∀ (u_3 : Nat → Nat → Int32) (u_4 : Int32) (u_5 : Nat → Int32), (u_3, u_4, u_5) = f_X6_pair pn pl np pr → ∀ (u_12 : Nat → Nat → Int32) (u_13 : Int32) (u_14 : Nat → Int32), (u_12, u_13, u_14) = f_X6_pair u_4 u_5 (np + 1) u_3 → ∀ (u_20 : Nat → Nat → Int32) (u_21 : Int32) (u_22 : Nat → UInt64) (u_23 : Int32) (u_24 : Nat → Int32) (u_25 : Nat → Int32) (u_26 : Nat → Int32) (u_27 : Nat → Int32) (u_28 : Nat → Int32) (u_29 : Nat → UInt64), (u_20, u_21, u_22, u_23, u_24, u_25, u_26, u_27, u_28, u_29) = f_X6_lot dw ttk tle tk ln ow gr we du sa le n rc sL xs → ∀ (u_35 : Nat → Nat → Int32) (u_36 : Int32) (u_37 : Nat → UInt64) (u_38 : Int32) (u_39 : Nat → Int32) (u_40 : Nat → Int32) (u_41 : Nat → Int32) (u_42 : Nat → Int32) (u_43 : Nat → Int32) (u_44 : Nat → UInt64), (u_35, u_36, u_37, u_38, u_39, u_40, u_41, u_42, u_43, u_44) = f_X6_lot u_21 ttk u_22 tk u_23 u_24 u_25 u_26 u_27 u_28 u_29 (n + 1) u_20 sL xs → ∀ (u_50 : Nat → Nat → Int32) (u_51 : Int32) (u_52 : Nat → UInt64) (u_53 : Int32) (u_54 : Nat → Int32) (u_55 : Nat → Int32) (u_56 : Nat → Int32) (u_57 : Nat → Int32) (u_58 : Nat → Int32) (u_59 : Nat → UInt64), (u_50, u_51, u_52, u_53, u_54, u_55, u_56, u_57, u_58, u_59) = f_X6_lot u_36 ttk u_37 tk u_38 u_39 u_40 u_41 u_42 u_43 u_44 ((n + 1) + 1) u_35 sL xs → ∀ (u_65 : Nat → Nat → Int32) (u_66 : Nat → Nat → Int32) (u_67 : Int32) (u_68 : Nat → Int32) (u_69 : Nat → Int32), (u_65, u_66, u_67, u_68, u_69) = f_X6_feed u_51 u_53 u_58 u_14 ((np + 1) + 1) u_12 (((n + 1) + 1) + 1) u_50 sL xs → n_X6_moon u_67 ttk tk sL xs) ∧
  (∀ (u_3 : Nat → Nat → Int32) (u_4 : Int32) (u_5 : Nat → Int32), (u_3, u_4, u_5) = f_X6_pair pn pl np pr → ∀ (u_12 : Nat → Nat → Int32) (u_13 : Int32) (u_14 : Nat → Int32), (u_12, u_13, u_14) = f_X6_pair u_4 u_5 (np + 1) u_3 → ∀ (u_20 : Nat → Nat → Int32) (u_21 : Int32) (u_22 : Nat → UInt64) (u_23 : Int32) (u_24 : Nat → Int32) (u_25 : Nat → Int32) (u_26 : Nat → Int32) (u_27 : Nat → Int32) (u_28 : Nat → Int32) (u_29 : Nat → UInt64), (u_20, u_21, u_22, u_23, u_24, u_25, u_26, u_27, u_28, u_29) = f_X6_lot dw ttk tle tk ln ow gr we du sa le n rc sL xs → ∀ (u_35 : Nat → Nat → Int32) (u_36 : Int32) (u_37 : Nat → UInt64) (u_38 : Int32) (u_39 : Nat → Int32) (u_40 : Nat → Int32) (u_41 : Nat → Int32) (u_42 : Nat → Int32) (u_43 : Nat → Int32) (u_44 : Nat → UInt64), (u_35, u_36, u_37, u_38, u_39, u_40, u_41, u_42, u_43, u_44) = f_X6_lot u_21 ttk u_22 tk u_23 u_24 u_25 u_26 u_27 u_28 u_29 (n + 1) u_20 sL xs → ∀ (u_50 : Nat → Nat → Int32) (u_51 : Int32) (u_52 : Nat → UInt64) (u_53 : Int32) (u_54 : Nat → Int32) (u_55 : Nat → Int32) (u_56 : Nat → Int32) (u_57 : Nat → Int32) (u_58 : Nat → Int32) (u_59 : Nat → UInt64), (u_50, u_51, u_52, u_53, u_54, u_55, u_56, u_57, u_58, u_59) = f_X6_lot u_36 ttk u_37 tk u_38 u_39 u_40 u_41 u_42 u_43 u_44 ((n + 1) + 1) u_35 sL xs → ∀ (u_65 : Nat → Nat → Int32) (u_66 : Nat → Nat → Int32) (u_67 : Int32) (u_68 : Nat → Int32) (u_69 : Nat → Int32), (u_65, u_66, u_67, u_68, u_69) = f_X6_feed u_51 u_53 u_58 u_14 ((np + 1) + 1) u_12 (((n + 1) + 1) + 1) u_50 sL xs → ∀ (u_73 : Int32) (u_74 : Int32) (u_75 : Int32), (u_73, u_74, u_75) = f_X6_moon u_67 tk sL xs → n_X6_gates u_73 tga tlk lk ga sL xs) ∧
  (∀ (u_3 : Nat → Nat → Int32) (u_4 : Int32) (u_5 : Nat → Int32), (u_3, u_4, u_5) = f_X6_pair pn pl np pr → ∀ (u_12 : Nat → Nat → Int32) (u_13 : Int32) (u_14 : Nat → Int32), (u_12, u_13, u_14) = f_X6_pair u_4 u_5 (np + 1) u_3 → ∀ (u_20 : Nat → Nat → Int32) (u_21 : Int32) (u_22 : Nat → UInt64) (u_23 : Int32) (u_24 : Nat → Int32) (u_25 : Nat → Int32) (u_26 : Nat → Int32) (u_27 : Nat → Int32) (u_28 : Nat → Int32) (u_29 : Nat → UInt64), (u_20, u_21, u_22, u_23, u_24, u_25, u_26, u_27, u_28, u_29) = f_X6_lot dw ttk tle tk ln ow gr we du sa le n rc sL xs → ∀ (u_35 : Nat → Nat → Int32) (u_36 : Int32) (u_37 : Nat → UInt64) (u_38 : Int32) (u_39 : Nat → Int32) (u_40 : Nat → Int32) (u_41 : Nat → Int32) (u_42 : Nat → Int32) (u_43 : Nat → Int32) (u_44 : Nat → UInt64), (u_35, u_36, u_37, u_38, u_39, u_40, u_41, u_42, u_43, u_44) = f_X6_lot u_21 ttk u_22 tk u_23 u_24 u_25 u_26 u_27 u_28 u_29 (n + 1) u_20 sL xs → ∀ (u_50 : Nat → Nat → Int32) (u_51 : Int32) (u_52 : Nat → UInt64) (u_53 : Int32) (u_54 : Nat → Int32) (u_55 : Nat → Int32) (u_56 : Nat → Int32) (u_57 : Nat → Int32) (u_58 : Nat → Int32) (u_59 : Nat → UInt64), (u_50, u_51, u_52, u_53, u_54, u_55, u_56, u_57, u_58, u_59) = f_X6_lot u_36 ttk u_37 tk u_38 u_39 u_40 u_41 u_42 u_43 u_44 ((n + 1) + 1) u_35 sL xs → ∀ (u_65 : Nat → Nat → Int32) (u_66 : Nat → Nat → Int32) (u_67 : Int32) (u_68 : Nat → Int32) (u_69 : Nat → Int32), (u_65, u_66, u_67, u_68, u_69) = f_X6_feed u_51 u_53 u_58 u_14 ((np + 1) + 1) u_12 (((n + 1) + 1) + 1) u_50 sL xs → ∀ (u_73 : Int32) (u_74 : Int32) (u_75 : Int32), (u_73, u_74, u_75) = f_X6_moon u_67 tk sL xs → ∀ (u_79 : Int32) (u_80 : Int32) (u_81 : Int32), (u_79, u_80, u_81) = f_X6_gates u_73 ga sL xs → n_X6_sluice u_79 tsl sl sL xs)
def f_X6_act_0 (dw : Int32) (tk : Int32) (sL : Nat) (xs : Nat → Int32) : Int32 × Int32 × Int32 :=
  (match f_X6_moon (dw + 1) tk sL xs with | (u_7, u_8, u_9) => (u_7, u_8, u_9))
def n_X6_act_0 (dw : Int32) (ttk : Int32) (tk : Int32) (sL : Nat) (xs : Nat → Int32) : Prop :=
  (n_X6_draw dw 17 sL) ∧
  (((f_X6_draw dw 17 sL xs).1) = 0) ∧
  (n_X6_moon (dw + 1) ttk tk sL xs)
def f_X6_act_1 (dw : Int32) (tk : Int32) (mo : Int32) (sL : Nat) (xs : Nat → Int32) : Int32 × UInt64 × UInt64 :=
  (match f_X6_surge (dw + 1) tk mo sL xs with | (u_7, u_8, u_9) => (u_7, u_8, u_9))
def n_X6_act_1 (dw : Int32) (ttk : Int32) (tmo : Int32) (tk : Int32) (mo : Int32) (sL : Nat) (xs : Nat → Int32) : Prop :=
  (n_X6_draw dw 17 sL) ∧
  (((f_X6_draw dw 17 sL xs).1) = 1) ∧
  (n_X6_surge (dw + 1) ttk tmo tk mo sL xs)
def f_X6_act_3 (dw : Int32) (ga : Int32) (sL : Nat) (xs : Nat → Int32) : Int32 × Int32 × Int32 :=
  (match f_X6_gates (dw + 1) ga sL xs with | (u_7, u_8, u_9) => (u_7, u_8, u_9))
def n_X6_act_3 (dw : Int32) (tga : Int32) (tlk : Int32) (lk : Int32) (ga : Int32) (sL : Nat) (xs : Nat → Int32) : Prop :=
  (n_X6_draw dw 17 sL) ∧
  (((f_X6_draw dw 17 sL xs).1) = 3) ∧
  (n_X6_gates (dw + 1) tga tlk lk ga sL xs)
def f_X6_act_5 (dw : Int32) (sl : Int32) (sL : Nat) (xs : Nat → Int32) : Int32 × Int32 × Int32 :=
  (match f_X6_sluice (dw + 1) sl sL xs with | (u_7, u_8, u_9) => (u_7, u_8, u_9))
def n_X6_act_5 (dw : Int32) (tsl : Int32) (sl : Int32) (sL : Nat) (xs : Nat → Int32) : Prop :=
  (n_X6_draw dw 17 sL) ∧
  (((f_X6_draw dw 17 sL xs).1) = 5) ∧
  (n_X6_sluice (dw + 1) tsl sl sL xs)
def f_X6_act_7 (dw : Int32) (sc : Int32) (sL : Nat) (xs : Nat → Int32) : Int32 × Int32 × Int32 :=
  (match f_X6_scour (dw + 1) sc sL xs with | (u_7, u_8, u_9) => (u_7, u_8, u_9))
def n_X6_act_7 (dw : Int32) (tsc : Int32) (sc : Int32) (sL : Nat) (xs : Nat → Int32) : Prop :=
  (n_X6_draw dw 17 sL) ∧
  (((f_X6_draw dw 17 sL xs).1) = 7) ∧
  (n_X6_scour (dw + 1) tsc sc sL xs)
def f_X6_act_8a (dw : Int32) : Int32 :=
  (dw + 1) + 1
def n_X6_act_8a (dw : Int32) (sL : Nat) (xs : Nat → Int32) : Prop :=
  (n_X6_draw dw 17 sL) ∧
  (((f_X6_draw dw 17 sL xs).1) = 8) ∧
  (n_X6_draw (dw + 1) 3 sL) ∧
  (0 < ((f_X6_draw (dw + 1) 3 sL xs).1))
def f_X6_act_8b (dw : Int32) (tk : Int32) (sL : Nat) (xs : Nat → Int32) : Int32 × Int32 × Int32 × Int32 × Int32 :=
  (match f_X6_hours ((dw + 1) + 1) tk sL xs with | (u_12, u_13, u_14, u_15, u_16) => (u_12, u_13, u_14, u_15, u_16))
def n_X6_act_8b (dw : Int32) (ttk : Int32) (tk : Int32) (sL : Nat) (xs : Nat → Int32) : Prop :=
  (n_X6_draw dw 17 sL) ∧
  (((f_X6_draw dw 17 sL xs).1) = 8) ∧
  (n_X6_draw (dw + 1) 3 sL) ∧
  (¬ 0 < ((f_X6_draw (dw + 1) 3 sL xs).1)) ∧
  (n_X6_hours ((dw + 1) + 1) ttk tk sL xs) ∧
  (∀ (u_12 : Int32) (u_13 : Int32) (u_14 : Int32) (u_15 : Int32) (u_16 : Int32), (u_12, u_13, u_14, u_15, u_16) = f_X6_hours ((dw + 1) + 1) tk sL xs → ¬ 1 = 0)
def f_X6_act_9 (dw : Int32) (ttk : Int32) (tle : Nat → UInt64) (tk : Int32) (ln : Int32) (ow : Nat → Int32) (gr : Nat → Int32) (we : Nat → Int32) (du : Nat → Int32) (sa : Nat → Int32) (le : Nat → UInt64) (n : Nat) (rc : Nat → Nat → Int32) (sL : Nat) (xs : Nat → Int32) : (Nat → Nat → Int32) × Int32 × (Nat → UInt64) × Int32 × (Nat → Int32) × (Nat → Int32) × (Nat → Int32) × (Nat → Int32) × (Nat → Int32) × (Nat → UInt64) :=
  (match f_X6_lot (dw + 1) ttk tle tk ln ow gr we du sa le n rc sL xs with | (u_7, u_8, u_9, u_10, u_11, u_12, u_13, u_14, u_15, u_16) => (u_7, u_8, u_9, u_10, u_11, u_12, u_13, u_14, u_15, u_16))
def n_X6_act_9 (dw : Int32) (tk : Int32) (ln : Int32) (ow : Nat → Int32) (gr : Nat → Int32) (we : Nat → Int32) (du : Nat → Int32) (sa : Nat → Int32) (le : Nat → UInt64) (n : Nat) (sL : Nat) (xs : Nat → Int32) : Prop :=
  (n_X6_draw dw 17 sL) ∧
  (((f_X6_draw dw 17 sL xs).1) = 9) ∧
  (n_X6_lot (dw + 1) tk ln ow gr we du sa le n sL xs)
def f_X6_act_9z (dw : Int32) : Int32 :=
  dw + 1
def n_X6_act_9z (dw : Int32) (n : Nat) (sL : Nat) (xs : Nat → Int32) : Prop :=
  (n_X6_draw dw 17 sL) ∧
  (((f_X6_draw dw 17 sL xs).1) = 9) ∧
  (n_X6_lot_z n)
def f_X6_act_10 (dw : Int32) (ln : Int32) (sa : Nat → Int32) (pl : Nat → Int32) (np : Nat) (pr : Nat → Nat → Int32) (n : Nat) (rc : Nat → Nat → Int32) (sL : Nat) (xs : Nat → Int32) : (Nat → Nat → Int32) × (Nat → Nat → Int32) × Int32 × (Nat → Int32) × (Nat → Int32) :=
  (match f_X6_feed (dw + 1) ln sa pl np pr n rc sL xs with | (u_7, u_8, u_9, u_10, u_11) => (u_7, u_8, u_9, u_10, u_11))
def n_X6_act_10 (dw : Int32) (ln : Int32) (sa : Nat → Int32) (pn : Int32) (pl : Nat → Int32) (dr : Nat → Int32) (np : Nat) (pr : Nat → Nat → Int32) (n : Nat) (rc : Nat → Nat → Int32) (sL : Nat) (xs : Nat → Int32) : Prop :=
  (n_X6_draw dw 17 sL) ∧
  (((f_X6_draw dw 17 sL xs).1) = 10) ∧
  (n_X6_feed (dw + 1) ln sa pn pl dr np pr n rc sL xs)
def f_X6_act_12a (dw : Int32) : Int32 :=
  (dw + 1) + 1
def n_X6_act_12a (dw : Int32) (sL : Nat) (xs : Nat → Int32) : Prop :=
  (n_X6_draw dw 17 sL) ∧
  (((f_X6_draw dw 17 sL xs).1) = 12) ∧
  (n_X6_draw (dw + 1) 2 sL) ∧
  (0 < ((f_X6_draw (dw + 1) 2 sL xs).1))
def f_X6_act_12b (dw : Int32) (sa : Nat → Int32) (pl : Nat → Int32) (np : Nat) (pr : Nat → Nat → Int32) (rc : Nat → Nat → Int32) (sL : Nat) (xs : Nat → Int32) : (Nat → Nat → Int32) × (Nat → Nat → Int32) × Int32 × (Nat → Int32) × (Nat → Int32) :=
  (match f_X6_take ((dw + 1) + 1) sa pl np pr rc sL xs with | (u_12, u_13, u_14, u_15, u_16) => (u_12, u_13, u_14, u_15, u_16))
def n_X6_act_12b (dw : Int32) (ln : Int32) (sa : Nat → Int32) (pn : Int32) (pl : Nat → Int32) (np : Nat) (pr : Nat → Nat → Int32) (n : Nat) (rc : Nat → Nat → Int32) (sL : Nat) (xs : Nat → Int32) : Prop :=
  (n_X6_draw dw 17 sL) ∧
  (((f_X6_draw dw 17 sL xs).1) = 12) ∧
  (n_X6_draw (dw + 1) 2 sL) ∧
  (¬ 0 < ((f_X6_draw (dw + 1) 2 sL xs).1)) ∧
  (n_X6_take ((dw + 1) + 1) ln sa pn pl np pr n sL xs) ∧
  (∀ (u_12 : Nat → Nat → Int32) (u_13 : Nat → Nat → Int32) (u_14 : Int32) (u_15 : Nat → Int32) (u_16 : Nat → Int32), (u_12, u_13, u_14, u_15, u_16) = f_X6_take ((dw + 1) + 1) sa pl np pr rc sL xs → ¬ 1 = 0)
def f_X6_act_13 (dw : Int32) (tdl : Nat → UInt32) (dl : Nat → UInt32) (dr : Nat → Int32) (np : Nat) (pr : Nat → Nat → Int32) (sL : Nat) (xs : Nat → Int32) : (Nat → Nat → Int32) × Int32 × (Nat → Int32) :=
  (match f_X6_dress (dw + 1) tdl dl dr np pr sL xs with | (u_7, u_8, u_9) => (u_7, u_8, u_9))
def n_X6_act_13 (dw : Int32) (tdl : Nat → UInt32) (pn : Int32) (dl : Nat → UInt32) (pl : Nat → Int32) (dr : Nat → Int32) (np : Nat) (pr : Nat → Nat → Int32) (sL : Nat) (xs : Nat → Int32) : Prop :=
  (n_X6_draw dw 17 sL) ∧
  (((f_X6_draw dw 17 sL xs).1) = 13) ∧
  (n_X6_dress (dw + 1) tdl pn dl pl dr np pr sL xs)
def f_X6_act_14 (dw : Int32) (ttk : Int32) (tpu : Int32) (tto : UInt64) (pu : Int32) (to : UInt64) (tk : Int32) (gr : Nat → Int32) (we : Nat → Int32) (du : Nat → Int32) (sa : Nat → Int32) (n : Nat) (rc : Nat → Nat → Int32) : (Nat → Nat → Int32) × Int32 × Int32 × UInt64 × Int32 × UInt64 × (Nat → Int32) :=
  (match f_X6_give ttk tpu tto pu to tk gr we du sa n rc with | (u_7, u_8, u_9, u_10, u_11, u_12) => (u_7, dw + 1, u_8, u_9, u_10, u_11, u_12))
def n_X6_act_14 (dw : Int32) (ttk : Int32) (tto : UInt64) (pu : Int32) (to : UInt64) (tk : Int32) (ln : Int32) (gr : Nat → Int32) (we : Nat → Int32) (du : Nat → Int32) (sa : Nat → Int32) (n : Nat) (rc : Nat → Nat → Int32) (sL : Nat) (xs : Nat → Int32) : Prop :=
  (n_X6_draw dw 17 sL) ∧
  (((f_X6_draw dw 17 sL xs).1) = 14) ∧
  (n_X6_give ttk tto pu to tk ln gr we du sa n rc)
def f_X6_act_15 (dw : Int32) (ttk : Int32) (tmo : Int32) (tsu : UInt64) (tlv : UInt64) (tsi : UInt32) (tga : Int32) (tsl : Int32) (tsc : Int32) (tfh : Int32) (tlh : Int32) (tfo : UInt64) (tee : Int32) (tdl : Nat → UInt32) (tle : Nat → UInt64) (fh : Int32) (lh : Int32) (ee : Int32) (tk : Int32) (mo : Int32) (su : UInt64) (lv : UInt64) (si : UInt32) (ga : Int32) (sl : Int32) (sc : Int32) (fo : UInt64) (ln : Int32) (gr : Nat → Int32) (sa : Nat → Int32) (le : Nat → UInt64) (pn : Int32) (dl : Nat → UInt32) (pl : Nat → Int32) (dr : Nat → Int32) (sp : Nat → Int32) (np : Nat) (pr : Nat → Nat → Int32) (rc : Nat → Nat → Int32) (sL : Nat) (xs : Nat → Int32) : (Nat → Nat → Int32) × (Nat → Nat → Int32) × Int32 × Int32 × UInt64 × UInt32 × UInt64 × Int32 × (Nat → UInt32) × (Nat → UInt64) × Int32 × Int32 × UInt64 × UInt32 × UInt64 × (Nat → Int32) × (Nat → UInt64) × (Nat → UInt32) × (Nat → Int32) × (Nat → Int32) × (Nat → Int32) :=
  if ((f_X6_draw (dw + 1) 3 sL xs).1) = 0 then (match f_X6_pass ttk tmo tsu tlv tsi tga tsl tsc tfh tlh tfo tee tdl tle fh lh ee tk mo su lv si ga sl sc fo ln gr sa le pn dl pl dr sp (1 + ((f_X6_draw ((dw + 1) + 1) 30 sL xs).1)) np pr rc with | (u_53, u_54, u_55, u_56, u_57, u_58, u_59, u_60, u_61, u_62, u_63, u_64, u_65, u_66, u_67, u_68, u_69, u_70, u_71, u_72) => (u_53, u_54, ((dw + 1) + 1) + 1, u_55, u_56, u_57, u_58, u_59, u_60, u_61, u_62, u_63, u_64, u_65, u_66, u_67, u_68, u_69, u_70, u_71, u_72)) else (match f_X6_pass ttk tmo tsu tlv tsi tga tsl tsc tfh tlh tfo tee tdl tle fh lh ee tk mo su lv si ga sl sc fo ln gr sa le pn dl pl dr sp (1 + ((f_X6_draw ((dw + 1) + 1) 6 sL xs).1)) np pr rc with | (u_28, u_29, u_30, u_31, u_32, u_33, u_34, u_35, u_36, u_37, u_38, u_39, u_40, u_41, u_42, u_43, u_44, u_45, u_46, u_47) => (u_28, u_29, ((dw + 1) + 1) + 1, u_30, u_31, u_32, u_33, u_34, u_35, u_36, u_37, u_38, u_39, u_40, u_41, u_42, u_43, u_44, u_45, u_46, u_47))
def n_X6_act_15 (dw : Int32) (ttk : Int32) (tmo : Int32) (tsu : UInt64) (tlv : UInt64) (tsi : UInt32) (tga : Int32) (tsl : Int32) (tsc : Int32) (tfh : Int32) (tlh : Int32) (tfo : UInt64) (tee : Int32) (tdl : Nat → UInt32) (tle : Nat → UInt64) (fh : Int32) (lh : Int32) (ee : Int32) (tk : Int32) (mo : Int32) (su : UInt64) (lv : UInt64) (si : UInt32) (ga : Int32) (sl : Int32) (sc : Int32) (fo : UInt64) (ln : Int32) (gr : Nat → Int32) (sa : Nat → Int32) (le : Nat → UInt64) (pn : Int32) (dl : Nat → UInt32) (pl : Nat → Int32) (dr : Nat → Int32) (sp : Nat → Int32) (np : Nat) (pr : Nat → Nat → Int32) (n : Nat) (rc : Nat → Nat → Int32) (sL : Nat) (xs : Nat → Int32) : Prop :=
  (n_X6_draw dw 17 sL) ∧
  (¬ ((f_X6_draw dw 17 sL xs).1) = 0) ∧
  (¬ ((f_X6_draw dw 17 sL xs).1) = 1) ∧
  (¬ ((f_X6_draw dw 17 sL xs).1) = 2) ∧
  (¬ ((f_X6_draw dw 17 sL xs).1) = 3) ∧
  (¬ ((f_X6_draw dw 17 sL xs).1) = 4) ∧
  (¬ ((f_X6_draw dw 17 sL xs).1) = 5) ∧
  (¬ ((f_X6_draw dw 17 sL xs).1) = 6) ∧
  (¬ ((f_X6_draw dw 17 sL xs).1) = 7) ∧
  (¬ ((f_X6_draw dw 17 sL xs).1) = 8) ∧
  (¬ ((f_X6_draw dw 17 sL xs).1) = 9) ∧
  (¬ ((f_X6_draw dw 17 sL xs).1) = 10) ∧
  (¬ ((f_X6_draw dw 17 sL xs).1) = 11) ∧
  (¬ ((f_X6_draw dw 17 sL xs).1) = 12) ∧
  (¬ ((f_X6_draw dw 17 sL xs).1) = 13) ∧
  (¬ ((f_X6_draw dw 17 sL xs).1) = 14) ∧
  (n_X6_draw (dw + 1) 3 sL) ∧
  ((¬ ((f_X6_draw (dw + 1) 3 sL xs).1) = 0) → n_X6_draw ((dw + 1) + 1) 6 sL) ∧
  ((¬ ((f_X6_draw (dw + 1) 3 sL xs).1) = 0) → n_X6_pass ttk tmo tsu tlv tsi tga tsl tsc tfh tlh tfo tee tdl tle fh lh ee tk mo su lv si ga sl sc fo ln gr sa le pn dl pl dr sp (1 + ((f_X6_draw ((dw + 1) + 1) 6 sL xs).1)) np pr n rc) ∧
  ((((f_X6_draw (dw + 1) 3 sL xs).1) = 0) → n_X6_draw ((dw + 1) + 1) 30 sL) ∧
  ((((f_X6_draw (dw + 1) 3 sL xs).1) = 0) → n_X6_pass ttk tmo tsu tlv tsi tga tsl tsc tfh tlh tfo tee tdl tle fh lh ee tk mo su lv si ga sl sc fo ln gr sa le pn dl pl dr sp (1 + ((f_X6_draw ((dw + 1) + 1) 30 sL xs).1)) np pr n rc)
def f_X5_gates_l : (Int32) ⊕ Nat :=
  .inr 1
def n_X5_gates_l (lk : Int32) (p1 : Int32) : Prop :=
  (¬ (f_X5_isWithin p1 0 3) = 0) ∧
  (¬ lk = 0)
def f_L_isLocked (tlk : Int32) (lk : Int32) (rf : Int32) (pu : Int32) (fh : Int32) (lh : Int32) (ee : Int32) (tk : Int32) (mo : Int32) (ga : Int32) (sl : Int32) (ln : Int32) (sa : Nat → Int32) (pn : Int32) (sp : Nat → Int32) : Int32 × Int32 :=
  (match f_X5_lock lk 1 with | (r_4, u_5) => (match f_X5_gates_l with | .inl r_7 => (0, u_5) | .inr k9 => if (f_X5_many u_5 rf pu fh lh ee tk mo ga sl ln sa pn sp 4) = (f_X5_many lk rf pu fh lh ee tk mo ga sl ln sa pn sp 4) then (if (f_X5_many u_5 rf pu fh lh ee tk mo ga sl ln sa pn sp 16) = 1 then (match f_X5_lock u_5 0 with | (r_20, u_21) => if r_20 = 0 then (match f_X5_lock u_21 tlk with | (r_24, u_25) => (0, u_25)) else (match f_X5_lock u_21 tlk with | (r_27, u_28) => (1, u_28))) else (match f_X5_lock u_5 tlk with | (r_17, u_18) => (0, u_18))) else (match f_X5_lock u_5 tlk with | (r_11, u_12) => (0, u_12))))
def n_L_isLocked (tlk : Int32) (lk : Int32) (rf : Int32) (pu : Int32) (fh : Int32) (lh : Int32) (ee : Int32) (tk : Int32) (mo : Int32) (ga : Int32) (sl : Int32) (ln : Int32) (sa : Nat → Int32) (pn : Int32) (sp : Nat → Int32) : Prop :=
  (n_X5_many ln sa pn sp 4) ∧
  (n_X5_lock lk 1) ∧
  (∀ (r_4 : Int32) (u_5 : Int32), (r_4, u_5) = f_X5_lock lk 1 → n_X5_gates_l u_5 (3 - (f_X5_many lk rf pu fh lh ee tk mo ga sl ln sa pn sp 4))) ∧
  (∀ (r_4 : Int32) (u_5 : Int32), (r_4, u_5) = f_X5_lock lk 1 → (¬ (f_X5_many u_5 rf pu fh lh ee tk mo ga sl ln sa pn sp 4) = (f_X5_many lk rf pu fh lh ee tk mo ga sl ln sa pn sp 4)) → n_X5_lock u_5 tlk) ∧
  (∀ (r_4 : Int32) (u_5 : Int32), (r_4, u_5) = f_X5_lock lk 1 → ((f_X5_many u_5 rf pu fh lh ee tk mo ga sl ln sa pn sp 4) = (f_X5_many lk rf pu fh lh ee tk mo ga sl ln sa pn sp 4)) → n_X5_many ln sa pn sp 16) ∧
  (∀ (r_4 : Int32) (u_5 : Int32), (r_4, u_5) = f_X5_lock lk 1 → ((f_X5_many u_5 rf pu fh lh ee tk mo ga sl ln sa pn sp 4) = (f_X5_many lk rf pu fh lh ee tk mo ga sl ln sa pn sp 4)) → (¬ (f_X5_many u_5 rf pu fh lh ee tk mo ga sl ln sa pn sp 16) = 1) → n_X5_lock u_5 tlk) ∧
  (∀ (r_4 : Int32) (u_5 : Int32), (r_4, u_5) = f_X5_lock lk 1 → ((f_X5_many u_5 rf pu fh lh ee tk mo ga sl ln sa pn sp 4) = (f_X5_many lk rf pu fh lh ee tk mo ga sl ln sa pn sp 4)) → ((f_X5_many u_5 rf pu fh lh ee tk mo ga sl ln sa pn sp 16) = 1) → n_X5_lock u_5 0) ∧
  (∀ (r_4 : Int32) (u_5 : Int32), (r_4, u_5) = f_X5_lock lk 1 → ((f_X5_many u_5 rf pu fh lh ee tk mo ga sl ln sa pn sp 4) = (f_X5_many lk rf pu fh lh ee tk mo ga sl ln sa pn sp 4)) → ((f_X5_many u_5 rf pu fh lh ee tk mo ga sl ln sa pn sp 16) = 1) → ∀ (r_20 : Int32) (u_21 : Int32), (r_20, u_21) = f_X5_lock u_5 0 → (r_20 = 0) → n_X5_lock u_21 tlk) ∧
  (∀ (r_4 : Int32) (u_5 : Int32), (r_4, u_5) = f_X5_lock lk 1 → ((f_X5_many u_5 rf pu fh lh ee tk mo ga sl ln sa pn sp 4) = (f_X5_many lk rf pu fh lh ee tk mo ga sl ln sa pn sp 4)) → ((f_X5_many u_5 rf pu fh lh ee tk mo ga sl ln sa pn sp 16) = 1) → ∀ (r_20 : Int32) (u_21 : Int32), (r_20, u_21) = f_X5_lock u_5 0 → (¬ r_20 = 0) → n_X5_lock u_21 tlk)
def n_bnew (i1 : Int32) (sL : Nat) (xs : Nat → Int32) : Prop :=
  (n_X6_founded ((31 * i1) + 7) 0 0 0 0 (fun _ => (0 : UInt64)) 0 0 0 0 0 (fun _ => (0 : Int32)) (fun _ => (0 : Int32)) (fun _ => (0 : Int32)) (fun _ => (0 : Int32)) (fun _ => (0 : Int32)) (fun _ => (0 : UInt64)) 0 (fun _ => (0 : Int32)) (fun _ => (0 : Int32)) 0 (fun _ _ => (0 : Int32)) 0 (fun _ _ => (0 : Int32)) sL xs) ∧
  (∀ (u_40 : Nat → Nat → Int32) (u_41 : Nat → Nat → Int32) (u_42 : Int32) (u_43 : Int32) (u_44 : Int32) (u_45 : Int32) (u_46 : Nat → UInt64) (u_47 : Int32) (u_48 : Int32) (u_49 : Int32) (u_50 : Int32) (u_51 : Nat → Int32) (u_52 : Nat → Int32) (u_53 : Nat → Int32) (u_54 : Nat → Int32) (u_55 : Nat → Int32) (u_56 : Nat → UInt64) (u_57 : Int32) (u_58 : Nat → Int32), (u_40, u_41, u_42, u_43, u_44, u_45, u_46, u_47, u_48, u_49, u_50, u_51, u_52, u_53, u_54, u_55, u_56, u_57, u_58) = f_X6_founded ((31 * i1) + 7) 0 (fun _ => (0 : UInt64)) 0 0 0 0 (fun _ => (0 : Int32)) (fun _ => (0 : Int32)) (fun _ => (0 : Int32)) (fun _ => (0 : Int32)) (fun _ => (0 : Int32)) (fun _ => (0 : UInt64)) 0 (fun _ => (0 : Int32)) 0 (fun _ _ => (0 : Int32)) 0 (fun _ _ => (0 : Int32)) sL xs → ¬ 1 = 0)
def n_be2 (i1 : Int32) : Prop :=
  (¬ 2 ≤ i1)
def n_be2z (i1 : Int32) : Prop :=
  (2 ≤ i1)
def n_be9 (i2 : Int32) : Prop :=
  (¬ 5 ≤ i2)
def n_be9z (i2 : Int32) : Prop :=
  (5 ≤ i2)
def n_bh48 (i3 : Int32) : Prop :=
  (¬ 14 ≤ i3)
def n_bh48z (i3 : Int32) : Prop :=
  (14 ≤ i3)
def n_bh302 (i8 : Int32) : Prop :=
  (¬ 14 ≤ i8)
def n_bh302z (i8 : Int32) : Prop :=
  (14 ≤ i8)
def n_ba0 (dw : Int32) (ttk : Int32) (tk : Int32) (sL : Nat) (xs : Nat → Int32) : Prop :=
  (n_X6_act_0 dw ttk tk sL xs) ∧
  (∀ (u_3 : Int32) (u_4 : Int32) (u_5 : Int32), (u_3, u_4, u_5) = f_X6_act_0 dw tk sL xs → ¬ 1 = 0)
def n_bc0 (dw : Int32) (ttk : Int32) (tk : Int32) (sL : Nat) (xs : Nat → Int32) : Prop :=
  (n_X6_act_0 dw ttk tk sL xs) ∧
  (∀ (u_3 : Int32) (u_4 : Int32) (u_5 : Int32), (u_3, u_4, u_5) = f_X6_act_0 dw tk sL xs → ¬ 1 = 0)
def n_ba1 (dw : Int32) (ttk : Int32) (tmo : Int32) (tk : Int32) (mo : Int32) (sL : Nat) (xs : Nat → Int32) : Prop :=
  (n_X6_act_1 dw ttk tmo tk mo sL xs) ∧
  (∀ (u_3 : Int32) (u_4 : UInt64) (u_5 : UInt64), (u_3, u_4, u_5) = f_X6_act_1 dw tk mo sL xs → ¬ 1 = 0)
def n_bc1 (dw : Int32) (ttk : Int32) (tmo : Int32) (tk : Int32) (mo : Int32) (sL : Nat) (xs : Nat → Int32) : Prop :=
  (n_X6_act_1 dw ttk tmo tk mo sL xs) ∧
  (∀ (u_3 : Int32) (u_4 : UInt64) (u_5 : UInt64), (u_3, u_4, u_5) = f_X6_act_1 dw tk mo sL xs → ¬ 1 = 0)
def n_ba3 (dw : Int32) (tga : Int32) (tlk : Int32) (lk : Int32) (ga : Int32) (sL : Nat) (xs : Nat → Int32) : Prop :=
  (n_X6_act_3 dw tga tlk lk ga sL xs) ∧
  (∀ (u_3 : Int32) (u_4 : Int32) (u_5 : Int32), (u_3, u_4, u_5) = f_X6_act_3 dw ga sL xs → ¬ 1 = 0)
def n_bc3 (dw : Int32) (tga : Int32) (tlk : Int32) (lk : Int32) (ga : Int32) (sL : Nat) (xs : Nat → Int32) : Prop :=
  (n_X6_act_3 dw tga tlk lk ga sL xs) ∧
  (∀ (u_3 : Int32) (u_4 : Int32) (u_5 : Int32), (u_3, u_4, u_5) = f_X6_act_3 dw ga sL xs → ¬ 1 = 0)
def n_ba5 (dw : Int32) (tsl : Int32) (sl : Int32) (sL : Nat) (xs : Nat → Int32) : Prop :=
  (n_X6_act_5 dw tsl sl sL xs) ∧
  (∀ (u_3 : Int32) (u_4 : Int32) (u_5 : Int32), (u_3, u_4, u_5) = f_X6_act_5 dw sl sL xs → ¬ 1 = 0)
def n_bc5 (dw : Int32) (tsl : Int32) (sl : Int32) (sL : Nat) (xs : Nat → Int32) : Prop :=
  (n_X6_act_5 dw tsl sl sL xs) ∧
  (∀ (u_3 : Int32) (u_4 : Int32) (u_5 : Int32), (u_3, u_4, u_5) = f_X6_act_5 dw sl sL xs → ¬ 1 = 0)
def n_ba7 (dw : Int32) (tsc : Int32) (sc : Int32) (sL : Nat) (xs : Nat → Int32) : Prop :=
  (n_X6_act_7 dw tsc sc sL xs) ∧
  (∀ (u_3 : Int32) (u_4 : Int32) (u_5 : Int32), (u_3, u_4, u_5) = f_X6_act_7 dw sc sL xs → ¬ 1 = 0)
def n_bc7 (dw : Int32) (tsc : Int32) (sc : Int32) (sL : Nat) (xs : Nat → Int32) : Prop :=
  (n_X6_act_7 dw tsc sc sL xs) ∧
  (∀ (u_3 : Int32) (u_4 : Int32) (u_5 : Int32), (u_3, u_4, u_5) = f_X6_act_7 dw sc sL xs → ¬ 1 = 0)
def n_ba8a (dw : Int32) (sL : Nat) (xs : Nat → Int32) : Prop :=
  (n_X6_act_8a dw sL xs) ∧
  (¬ 1 = 0)
def n_bc8a (dw : Int32) (sL : Nat) (xs : Nat → Int32) : Prop :=
  (n_X6_act_8a dw sL xs) ∧
  (¬ 1 = 0)
def n_ba8b (dw : Int32) (ttk : Int32) (tk : Int32) (sL : Nat) (xs : Nat → Int32) : Prop :=
  (n_X6_act_8b dw ttk tk sL xs) ∧
  (∀ (u_3 : Int32) (u_4 : Int32) (u_5 : Int32) (u_6 : Int32) (u_7 : Int32), (u_3, u_4, u_5, u_6, u_7) = f_X6_act_8b dw tk sL xs → ¬ 1 = 0)
def n_bc8b (dw : Int32) (ttk : Int32) (tk : Int32) (sL : Nat) (xs : Nat → Int32) : Prop :=
  (n_X6_act_8b dw ttk tk sL xs) ∧
  (∀ (u_3 : Int32) (u_4 : Int32) (u_5 : Int32) (u_6 : Int32) (u_7 : Int32), (u_3, u_4, u_5, u_6, u_7) = f_X6_act_8b dw tk sL xs → ¬ 1 = 0)
def n_ba9 (dw : Int32) (ttk : Int32) (tle : Nat → UInt64) (tk : Int32) (ln : Int32) (ow : Nat → Int32) (gr : Nat → Int32) (we : Nat → Int32) (du : Nat → Int32) (sa : Nat → Int32) (le : Nat → UInt64) (n : Nat) (rc : Nat → Nat → Int32) (sL : Nat) (xs : Nat → Int32) : Prop :=
  (n_X6_act_9 dw tk ln ow gr we du sa le n sL xs) ∧
  (∀ (u_3 : Nat → Nat → Int32) (u_4 : Int32) (u_5 : Nat → UInt64) (u_6 : Int32) (u_7 : Nat → Int32) (u_8 : Nat → Int32) (u_9 : Nat → Int32) (u_10 : Nat → Int32) (u_11 : Nat → Int32) (u_12 : Nat → UInt64), (u_3, u_4, u_5, u_6, u_7, u_8, u_9, u_10, u_11, u_12) = f_X6_act_9 dw ttk tle tk ln ow gr we du sa le n rc sL xs → ¬ 1 = 0)
def n_bc9 (dw : Int32) (ttk : Int32) (tle : Nat → UInt64) (tk : Int32) (ln : Int32) (ow : Nat → Int32) (gr : Nat → Int32) (we : Nat → Int32) (du : Nat → Int32) (sa : Nat → Int32) (le : Nat → UInt64) (n : Nat) (rc : Nat → Nat → Int32) (sL : Nat) (xs : Nat → Int32) : Prop :=
  (n_X6_act_9 dw tk ln ow gr we du sa le n sL xs) ∧
  (∀ (u_3 : Nat → Nat → Int32) (u_4 : Int32) (u_5 : Nat → UInt64) (u_6 : Int32) (u_7 : Nat → Int32) (u_8 : Nat → Int32) (u_9 : Nat → Int32) (u_10 : Nat → Int32) (u_11 : Nat → Int32) (u_12 : Nat → UInt64), (u_3, u_4, u_5, u_6, u_7, u_8, u_9, u_10, u_11, u_12) = f_X6_act_9 dw ttk tle tk ln ow gr we du sa le n rc sL xs → ¬ 1 = 0)
def n_ba9z (dw : Int32) (n : Nat) (sL : Nat) (xs : Nat → Int32) : Prop :=
  (n_X6_act_9z dw n sL xs) ∧
  (¬ 1 = 0)
def n_bc9z (dw : Int32) (n : Nat) (sL : Nat) (xs : Nat → Int32) : Prop :=
  (n_X6_act_9z dw n sL xs) ∧
  (¬ 1 = 0)
def n_ba10 (dw : Int32) (ln : Int32) (sa : Nat → Int32) (pn : Int32) (pl : Nat → Int32) (dr : Nat → Int32) (np : Nat) (pr : Nat → Nat → Int32) (n : Nat) (rc : Nat → Nat → Int32) (sL : Nat) (xs : Nat → Int32) : Prop :=
  (n_X6_act_10 dw ln sa pn pl dr np pr n rc sL xs) ∧
  (∀ (u_3 : Nat → Nat → Int32) (u_4 : Nat → Nat → Int32) (u_5 : Int32) (u_6 : Nat → Int32) (u_7 : Nat → Int32), (u_3, u_4, u_5, u_6, u_7) = f_X6_act_10 dw ln sa pl np pr n rc sL xs → ¬ 1 = 0)
def n_bc10 (dw : Int32) (ln : Int32) (sa : Nat → Int32) (pn : Int32) (pl : Nat → Int32) (dr : Nat → Int32) (np : Nat) (pr : Nat → Nat → Int32) (n : Nat) (rc : Nat → Nat → Int32) (sL : Nat) (xs : Nat → Int32) : Prop :=
  (n_X6_act_10 dw ln sa pn pl dr np pr n rc sL xs) ∧
  (∀ (u_3 : Nat → Nat → Int32) (u_4 : Nat → Nat → Int32) (u_5 : Int32) (u_6 : Nat → Int32) (u_7 : Nat → Int32), (u_3, u_4, u_5, u_6, u_7) = f_X6_act_10 dw ln sa pl np pr n rc sL xs → ¬ 1 = 0)
def n_ba12a (dw : Int32) (sL : Nat) (xs : Nat → Int32) : Prop :=
  (n_X6_act_12a dw sL xs) ∧
  (¬ 1 = 0)
def n_bc12a (dw : Int32) (sL : Nat) (xs : Nat → Int32) : Prop :=
  (n_X6_act_12a dw sL xs) ∧
  (¬ 1 = 0)
def n_ba12b (dw : Int32) (ln : Int32) (sa : Nat → Int32) (pn : Int32) (pl : Nat → Int32) (np : Nat) (pr : Nat → Nat → Int32) (n : Nat) (rc : Nat → Nat → Int32) (sL : Nat) (xs : Nat → Int32) : Prop :=
  (n_X6_act_12b dw ln sa pn pl np pr n rc sL xs) ∧
  (∀ (u_3 : Nat → Nat → Int32) (u_4 : Nat → Nat → Int32) (u_5 : Int32) (u_6 : Nat → Int32) (u_7 : Nat → Int32), (u_3, u_4, u_5, u_6, u_7) = f_X6_act_12b dw sa pl np pr rc sL xs → ¬ 1 = 0)
def n_bc12b (dw : Int32) (ln : Int32) (sa : Nat → Int32) (pn : Int32) (pl : Nat → Int32) (np : Nat) (pr : Nat → Nat → Int32) (n : Nat) (rc : Nat → Nat → Int32) (sL : Nat) (xs : Nat → Int32) : Prop :=
  (n_X6_act_12b dw ln sa pn pl np pr n rc sL xs) ∧
  (∀ (u_3 : Nat → Nat → Int32) (u_4 : Nat → Nat → Int32) (u_5 : Int32) (u_6 : Nat → Int32) (u_7 : Nat → Int32), (u_3, u_4, u_5, u_6, u_7) = f_X6_act_12b dw sa pl np pr rc sL xs → ¬ 1 = 0)
def n_ba13 (dw : Int32) (tdl : Nat → UInt32) (pn : Int32) (dl : Nat → UInt32) (pl : Nat → Int32) (dr : Nat → Int32) (np : Nat) (pr : Nat → Nat → Int32) (sL : Nat) (xs : Nat → Int32) : Prop :=
  (n_X6_act_13 dw tdl pn dl pl dr np pr sL xs) ∧
  (∀ (u_3 : Nat → Nat → Int32) (u_4 : Int32) (u_5 : Nat → Int32), (u_3, u_4, u_5) = f_X6_act_13 dw tdl dl dr np pr sL xs → ¬ 1 = 0)
def n_bc13 (dw : Int32) (tdl : Nat → UInt32) (pn : Int32) (dl : Nat → UInt32) (pl : Nat → Int32) (dr : Nat → Int32) (np : Nat) (pr : Nat → Nat → Int32) (sL : Nat) (xs : Nat → Int32) : Prop :=
  (n_X6_act_13 dw tdl pn dl pl dr np pr sL xs) ∧
  (∀ (u_3 : Nat → Nat → Int32) (u_4 : Int32) (u_5 : Nat → Int32), (u_3, u_4, u_5) = f_X6_act_13 dw tdl dl dr np pr sL xs → ¬ 1 = 0)
def n_ba14 (dw : Int32) (ttk : Int32) (tpu : Int32) (tto : UInt64) (pu : Int32) (to : UInt64) (tk : Int32) (ln : Int32) (gr : Nat → Int32) (we : Nat → Int32) (du : Nat → Int32) (sa : Nat → Int32) (n : Nat) (rc : Nat → Nat → Int32) (sL : Nat) (xs : Nat → Int32) : Prop :=
  (n_X6_act_14 dw ttk tto pu to tk ln gr we du sa n rc sL xs) ∧
  (∀ (u_3 : Nat → Nat → Int32) (u_4 : Int32) (u_5 : Int32) (u_6 : UInt64) (u_7 : Int32) (u_8 : UInt64) (u_9 : Nat → Int32), (u_3, u_4, u_5, u_6, u_7, u_8, u_9) = f_X6_act_14 dw ttk tpu tto pu to tk gr we du sa n rc → ¬ 1 = 0)
def n_bc14 (dw : Int32) (ttk : Int32) (tpu : Int32) (tto : UInt64) (pu : Int32) (to : UInt64) (tk : Int32) (ln : Int32) (gr : Nat → Int32) (we : Nat → Int32) (du : Nat → Int32) (sa : Nat → Int32) (n : Nat) (rc : Nat → Nat → Int32) (sL : Nat) (xs : Nat → Int32) : Prop :=
  (n_X6_act_14 dw ttk tto pu to tk ln gr we du sa n rc sL xs) ∧
  (∀ (u_3 : Nat → Nat → Int32) (u_4 : Int32) (u_5 : Int32) (u_6 : UInt64) (u_7 : Int32) (u_8 : UInt64) (u_9 : Nat → Int32), (u_3, u_4, u_5, u_6, u_7, u_8, u_9) = f_X6_act_14 dw ttk tpu tto pu to tk gr we du sa n rc → ¬ 1 = 0)
def n_ba15 (dw : Int32) (ttk : Int32) (tmo : Int32) (tsu : UInt64) (tlv : UInt64) (tsi : UInt32) (tga : Int32) (tsl : Int32) (tsc : Int32) (tfh : Int32) (tlh : Int32) (tfo : UInt64) (tee : Int32) (tdl : Nat → UInt32) (tle : Nat → UInt64) (fh : Int32) (lh : Int32) (ee : Int32) (tk : Int32) (mo : Int32) (su : UInt64) (lv : UInt64) (si : UInt32) (ga : Int32) (sl : Int32) (sc : Int32) (fo : UInt64) (ln : Int32) (gr : Nat → Int32) (sa : Nat → Int32) (le : Nat → UInt64) (pn : Int32) (dl : Nat → UInt32) (pl : Nat → Int32) (dr : Nat → Int32) (sp : Nat → Int32) (np : Nat) (pr : Nat → Nat → Int32) (n : Nat) (rc : Nat → Nat → Int32) (sL : Nat) (xs : Nat → Int32) : Prop :=
  (n_X6_act_15 dw ttk tmo tsu tlv tsi tga tsl tsc tfh tlh tfo tee tdl tle fh lh ee tk mo su lv si ga sl sc fo ln gr sa le pn dl pl dr sp np pr n rc sL xs) ∧
  (∀ (u_3 : Nat → Nat → Int32) (u_4 : Nat → Nat → Int32) (u_5 : Int32) (u_6 : Int32) (u_7 : UInt64) (u_8 : UInt32) (u_9 : UInt64) (u_10 : Int32) (u_11 : Nat → UInt32) (u_12 : Nat → UInt64) (u_13 : Int32) (u_14 : Int32) (u_15 : UInt64) (u_16 : UInt32) (u_17 : UInt64) (u_18 : Nat → Int32) (u_19 : Nat → UInt64) (u_20 : Nat → UInt32) (u_21 : Nat → Int32) (u_22 : Nat → Int32) (u_23 : Nat → Int32), (u_3, u_4, u_5, u_6, u_7, u_8, u_9, u_10, u_11, u_12, u_13, u_14, u_15, u_16, u_17, u_18, u_19, u_20, u_21, u_22, u_23) = f_X6_act_15 dw ttk tmo tsu tlv tsi tga tsl tsc tfh tlh tfo tee tdl tle fh lh ee tk mo su lv si ga sl sc fo ln gr sa le pn dl pl dr sp np pr rc sL xs → ¬ 1 = 0)
def n_bc15 (dw : Int32) (ttk : Int32) (tmo : Int32) (tsu : UInt64) (tlv : UInt64) (tsi : UInt32) (tga : Int32) (tsl : Int32) (tsc : Int32) (tfh : Int32) (tlh : Int32) (tfo : UInt64) (tee : Int32) (tdl : Nat → UInt32) (tle : Nat → UInt64) (fh : Int32) (lh : Int32) (ee : Int32) (tk : Int32) (mo : Int32) (su : UInt64) (lv : UInt64) (si : UInt32) (ga : Int32) (sl : Int32) (sc : Int32) (fo : UInt64) (ln : Int32) (gr : Nat → Int32) (sa : Nat → Int32) (le : Nat → UInt64) (pn : Int32) (dl : Nat → UInt32) (pl : Nat → Int32) (dr : Nat → Int32) (sp : Nat → Int32) (np : Nat) (pr : Nat → Nat → Int32) (n : Nat) (rc : Nat → Nat → Int32) (sL : Nat) (xs : Nat → Int32) : Prop :=
  (n_X6_act_15 dw ttk tmo tsu tlv tsi tga tsl tsc tfh tlh tfo tee tdl tle fh lh ee tk mo su lv si ga sl sc fo ln gr sa le pn dl pl dr sp np pr n rc sL xs) ∧
  (∀ (u_3 : Nat → Nat → Int32) (u_4 : Nat → Nat → Int32) (u_5 : Int32) (u_6 : Int32) (u_7 : UInt64) (u_8 : UInt32) (u_9 : UInt64) (u_10 : Int32) (u_11 : Nat → UInt32) (u_12 : Nat → UInt64) (u_13 : Int32) (u_14 : Int32) (u_15 : UInt64) (u_16 : UInt32) (u_17 : UInt64) (u_18 : Nat → Int32) (u_19 : Nat → UInt64) (u_20 : Nat → UInt32) (u_21 : Nat → Int32) (u_22 : Nat → Int32) (u_23 : Nat → Int32), (u_3, u_4, u_5, u_6, u_7, u_8, u_9, u_10, u_11, u_12, u_13, u_14, u_15, u_16, u_17, u_18, u_19, u_20, u_21, u_22, u_23) = f_X6_act_15 dw ttk tmo tsu tlv tsi tga tsl tsc tfh tlh tfo tee tdl tle fh lh ee tk mo su lv si ga sl sc fo ln gr sa le pn dl pl dr sp np pr rc sL xs → ¬ 1 = 0)
def n_bask (dw : Int32) (lk : Int32) (rf : Int32) (pu : Int32) (to : UInt64) (fh : Int32) (lh : Int32) (ee : Int32) (tk : Int32) (mo : Int32) (su : UInt64) (lv : UInt64) (si : UInt32) (ga : Int32) (sl : Int32) (sc : Int32) (fo : UInt64) (ln : Int32) (ow : Nat → Int32) (gr : Nat → Int32) (we : Nat → Int32) (du : Nat → Int32) (sa : Nat → Int32) (le : Nat → UInt64) (pn : Int32) (dl : Nat → UInt32) (pl : Nat → Int32) (dr : Nat → Int32) (sp : Nat → Int32) (n : Nat) (sL : Nat) (xs : Nat → Int32) : Prop :=
  (n_X6_draw dw 48 sL) ∧
  (n_X6_draw (dw + 1) (nI n) sL) ∧
  (n_X5_digest lk rf pu to fh lh ee tk mo su lv si ga sl sc fo ln ow gr we du sa le pn dl pl dr sp) ∧
  (n_X5_best fh lh ee tk mo su lv si ga sc fo ln gr sa le pn dl pl dr sp (1 + ((f_X6_draw dw 48 sL xs).1))) ∧
  (n_X5_wouldDone fh lh ee tk mo su lv si ga sl sc fo ln gr sa le pn dl pl dr sp ((f_X6_draw (dw + 1) (nI n) sL xs).1)) ∧
  (¬ (f_X5_best fh lh ee tk mo su lv si ga sc fo ln gr sa le pn dl pl dr sp (1 + ((f_X6_draw dw 48 sL xs).1))) < 0) ∧
  (¬ 4 < (f_X5_best fh lh ee tk mo su lv si ga sc fo ln gr sa le pn dl pl dr sp (1 + ((f_X6_draw dw 48 sL xs).1)))) ∧
  ((lg_cmp (f_X5_digest lk rf pu to fh lh ee tk mo su lv si ga sl sc fo ln ow gr we du sa le pn dl pl dr sp) (f_X5_digest lk rf pu to fh lh ee tk mo su lv si ga sl sc fo ln ow gr we du sa le pn dl pl dr sp)) = 0)
def n_blk (i2 : Int32) (tlk : Int32) (lk : Int32) (rf : Int32) (pu : Int32) (fh : Int32) (lh : Int32) (ee : Int32) (tk : Int32) (mo : Int32) (ga : Int32) (sl : Int32) (ln : Int32) (sa : Nat → Int32) (pn : Int32) (sp : Nat → Int32) : Prop :=
  (¬ 0 ≤ i2) ∧
  (n_L_isLocked tlk lk rf pu fh lh ee tk mo ga sl ln sa pn sp) ∧
  (∀ (r_4 : Int32) (u_5 : Int32), (r_4, u_5) = f_L_isLocked tlk lk rf pu fh lh ee tk mo ga sl ln sa pn sp → ¬ r_4 = 0)
def n_bnd (i7 : Int32) : Prop :=
  (¬ 1 ≤ i7)
def f_bdn_168 (fh : Int32) (lh : Int32) (mo : Int32) (su : UInt64) (ga : Int32) (sl : Int32) (sc : Int32) (ln : Int32) (gr : Nat → Int32) (pn : Int32) : Nat → Int32 → Int32 → Int32 → UInt64 → UInt32 → UInt64 → (Nat → Int32) → (Nat → UInt64) → (Nat → UInt32) → (Nat → Int32) → (Nat → Int32) → (Nat → Int32) → Int32 × Int32 × Int32 × UInt64 × UInt32 × UInt64 × (Nat → Int32) × (Nat → UInt64) × (Nat → UInt32) × (Nat → Int32) × (Nat → Int32) × (Nat → Int32)
  | 0, x168_0, x168_1, x168_2, x168_3, x168_4, x168_5, x168_6, x168_7, x168_8, x168_9, x168_10, x168_11 => (x168_0, x168_1, x168_2, x168_3, x168_4, x168_5, x168_6, x168_7, x168_8, x168_9, x168_10, x168_11)
  | fuel + 1, x168_0, x168_1, x168_2, x168_3, x168_4, x168_5, x168_6, x168_7, x168_8, x168_9, x168_10, x168_11 => if x168_0 ≤ 0 then (x168_0, x168_1, x168_2, x168_3, x168_4, x168_5, x168_6, x168_7, x168_8, x168_9, x168_10, x168_11) else (match f_X5_pass fh lh x168_1 x168_2 mo su x168_3 x168_4 ga sl sc x168_5 ln gr x168_6 x168_7 pn x168_8 x168_9 x168_10 x168_11 (if 50 < x168_0 then 50 else x168_0) with | (r_5, u_6, u_7, u_8, u_9, u_10, u_11, u_12, u_13, u_14, u_15, u_16) => f_bdn_168 fh lh mo su ga sl sc ln gr pn fuel (x168_0 + (-50)) u_6 u_7 u_8 u_9 u_10 u_11 u_12 u_13 u_14 u_15 u_16)
def n_bdn_168 (fh : Int32) (lh : Int32) (mo : Int32) (su : UInt64) (ga : Int32) (sl : Int32) (sc : Int32) (ln : Int32) (gr : Nat → Int32) (pn : Int32) : Nat → Int32 → Int32 → Int32 → UInt64 → UInt32 → UInt64 → (Nat → Int32) → (Nat → UInt64) → (Nat → UInt32) → (Nat → Int32) → (Nat → Int32) → (Nat → Int32) → Prop
  | 0, x168_0, x168_1, x168_2, x168_3, x168_4, x168_5, x168_6, x168_7, x168_8, x168_9, x168_10, x168_11 => False
  | fuel + 1, x168_0, x168_1, x168_2, x168_3, x168_4, x168_5, x168_6, x168_7, x168_8, x168_9, x168_10, x168_11 => ((¬ x168_0 ≤ 0) → n_X5_pass fh lh x168_1 x168_2 mo su x168_3 x168_4 ga sl sc x168_5 ln gr x168_6 x168_7 pn x168_8 x168_9 x168_10 x168_11 (if 50 < x168_0 then 50 else x168_0)) ∧
  ((¬ x168_0 ≤ 0) → ∀ (r_5 : Int32) (u_6 : Int32) (u_7 : Int32) (u_8 : UInt64) (u_9 : UInt32) (u_10 : UInt64) (u_11 : Nat → Int32) (u_12 : Nat → UInt64) (u_13 : Nat → UInt32) (u_14 : Nat → Int32) (u_15 : Nat → Int32) (u_16 : Nat → Int32), (r_5, u_6, u_7, u_8, u_9, u_10, u_11, u_12, u_13, u_14, u_15, u_16) = f_X5_pass fh lh x168_1 x168_2 mo su x168_3 x168_4 ga sl sc x168_5 ln gr x168_6 x168_7 pn x168_8 x168_9 x168_10 x168_11 (if 50 < x168_0 then 50 else x168_0) → n_bdn_168 fh lh mo su ga sl sc ln gr pn fuel (x168_0 + (-50)) u_6 u_7 u_8 u_9 u_10 u_11 u_12 u_13 u_14 u_15 u_16)
def n_bdn (i7 : Int32) (i4 : Int32) (fh : Int32) (lh : Int32) (ee : Int32) (tk : Int32) (mo : Int32) (su : UInt64) (lv : UInt64) (si : UInt32) (ga : Int32) (sl : Int32) (sc : Int32) (fo : UInt64) (ln : Int32) (ow : Nat → Int32) (gr : Nat → Int32) (we : Nat → Int32) (du : Nat → Int32) (sa : Nat → Int32) (le : Nat → UInt64) (pn : Int32) (dl : Nat → UInt32) (pl : Nat → Int32) (dr : Nat → Int32) (sp : Nat → Int32) : Prop :=
  (1 ≤ i7) ∧
  (n_bdn_168 fh lh mo su ga sl sc ln gr pn 8 (i7 - 1) ee tk lv si fo sa le dl pl dr sp) ∧
  (∀ (x168e_19 : Int32) (x168e_20 : Int32) (x168e_21 : Int32) (x168e_22 : UInt64) (x168e_23 : UInt32) (x168e_24 : UInt64) (x168e_25 : Nat → Int32) (x168e_26 : Nat → UInt64) (x168e_27 : Nat → UInt32) (x168e_28 : Nat → Int32) (x168e_29 : Nat → Int32) (x168e_30 : Nat → Int32), (x168e_19, x168e_20, x168e_21, x168e_22, x168e_23, x168e_24, x168e_25, x168e_26, x168e_27, x168e_28, x168e_29, x168e_30) = f_bdn_168 fh lh mo su ga sl sc ln gr pn 8 (i7 - 1) ee tk lv si fo sa le dl pl dr sp → n_X5_ofLot ln pn x168e_28 i4 4) ∧
  (∀ (x168e_19 : Int32) (x168e_20 : Int32) (x168e_21 : Int32) (x168e_22 : UInt64) (x168e_23 : UInt32) (x168e_24 : UInt64) (x168e_25 : Nat → Int32) (x168e_26 : Nat → UInt64) (x168e_27 : Nat → UInt32) (x168e_28 : Nat → Int32) (x168e_29 : Nat → Int32) (x168e_30 : Nat → Int32), (x168e_19, x168e_20, x168e_21, x168e_22, x168e_23, x168e_24, x168e_25, x168e_26, x168e_27, x168e_28, x168e_29, x168e_30) = f_bdn_168 fh lh mo su ga sl sc ln gr pn 8 (i7 - 1) ee tk lv si fo sa le dl pl dr sp → (f_X5_ofLot ow gr we du x168e_25 pn x168e_28 i4 4) = 1) ∧
  (∀ (x168e_19 : Int32) (x168e_20 : Int32) (x168e_21 : Int32) (x168e_22 : UInt64) (x168e_23 : UInt32) (x168e_24 : UInt64) (x168e_25 : Nat → Int32) (x168e_26 : Nat → UInt64) (x168e_27 : Nat → UInt32) (x168e_28 : Nat → Int32) (x168e_29 : Nat → Int32) (x168e_30 : Nat → Int32), (x168e_19, x168e_20, x168e_21, x168e_22, x168e_23, x168e_24, x168e_25, x168e_26, x168e_27, x168e_28, x168e_29, x168e_30) = f_bdn_168 fh lh mo su ga sl sc ln gr pn 8 (i7 - 1) ee tk lv si fo sa le dl pl dr sp → n_X5_left ln i4) ∧
  (∀ (x168e_19 : Int32) (x168e_20 : Int32) (x168e_21 : Int32) (x168e_22 : UInt64) (x168e_23 : UInt32) (x168e_24 : UInt64) (x168e_25 : Nat → Int32) (x168e_26 : Nat → UInt64) (x168e_27 : Nat → UInt32) (x168e_28 : Nat → Int32) (x168e_29 : Nat → Int32) (x168e_30 : Nat → Int32), (x168e_19, x168e_20, x168e_21, x168e_22, x168e_23, x168e_24, x168e_25, x168e_26, x168e_27, x168e_28, x168e_29, x168e_30) = f_bdn_168 fh lh mo su ga sl sc ln gr pn 8 (i7 - 1) ee tk lv si fo sa le dl pl dr sp → ¬ (Op.cmpValue (FP.dcmp (f_X5_left x168e_26 i4) FP.dconst0) .g) ≤ 0) ∧
  (∀ (x168e_19 : Int32) (x168e_20 : Int32) (x168e_21 : Int32) (x168e_22 : UInt64) (x168e_23 : UInt32) (x168e_24 : UInt64) (x168e_25 : Nat → Int32) (x168e_26 : Nat → UInt64) (x168e_27 : Nat → UInt32) (x168e_28 : Nat → Int32) (x168e_29 : Nat → Int32) (x168e_30 : Nat → Int32), (x168e_19, x168e_20, x168e_21, x168e_22, x168e_23, x168e_24, x168e_25, x168e_26, x168e_27, x168e_28, x168e_29, x168e_30) = f_bdn_168 fh lh mo su ga sl sc ln gr pn 8 (i7 - 1) ee tk lv si fo sa le dl pl dr sp → n_X5_wouldDone fh lh x168e_20 x168e_21 mo su x168e_22 x168e_23 ga sl sc x168e_24 ln gr x168e_25 x168e_26 pn x168e_27 x168e_28 x168e_29 x168e_30 i4) ∧
  (∀ (x168e_19 : Int32) (x168e_20 : Int32) (x168e_21 : Int32) (x168e_22 : UInt64) (x168e_23 : UInt32) (x168e_24 : UInt64) (x168e_25 : Nat → Int32) (x168e_26 : Nat → UInt64) (x168e_27 : Nat → UInt32) (x168e_28 : Nat → Int32) (x168e_29 : Nat → Int32) (x168e_30 : Nat → Int32), (x168e_19, x168e_20, x168e_21, x168e_22, x168e_23, x168e_24, x168e_25, x168e_26, x168e_27, x168e_28, x168e_29, x168e_30) = f_bdn_168 fh lh mo su ga sl sc ln gr pn 8 (i7 - 1) ee tk lv si fo sa le dl pl dr sp → (f_X5_wouldDone fh lh x168e_20 x168e_21 mo su x168e_22 x168e_23 ga sl sc x168e_24 ln gr x168e_25 x168e_26 pn x168e_27 x168e_28 x168e_29 x168e_30 i4) = 1) ∧
  (∀ (x168e_19 : Int32) (x168e_20 : Int32) (x168e_21 : Int32) (x168e_22 : UInt64) (x168e_23 : UInt32) (x168e_24 : UInt64) (x168e_25 : Nat → Int32) (x168e_26 : Nat → UInt64) (x168e_27 : Nat → UInt32) (x168e_28 : Nat → Int32) (x168e_29 : Nat → Int32) (x168e_30 : Nat → Int32), (x168e_19, x168e_20, x168e_21, x168e_22, x168e_23, x168e_24, x168e_25, x168e_26, x168e_27, x168e_28, x168e_29, x168e_30) = f_bdn_168 fh lh mo su ga sl sc ln gr pn 8 (i7 - 1) ee tk lv si fo sa le dl pl dr sp → n_X5_pass fh lh x168e_20 x168e_21 mo su x168e_22 x168e_23 ga sl sc x168e_24 ln gr x168e_25 x168e_26 pn x168e_27 x168e_28 x168e_29 x168e_30 1) ∧
  (∀ (x168e_19 : Int32) (x168e_20 : Int32) (x168e_21 : Int32) (x168e_22 : UInt64) (x168e_23 : UInt32) (x168e_24 : UInt64) (x168e_25 : Nat → Int32) (x168e_26 : Nat → UInt64) (x168e_27 : Nat → UInt32) (x168e_28 : Nat → Int32) (x168e_29 : Nat → Int32) (x168e_30 : Nat → Int32), (x168e_19, x168e_20, x168e_21, x168e_22, x168e_23, x168e_24, x168e_25, x168e_26, x168e_27, x168e_28, x168e_29, x168e_30) = f_bdn_168 fh lh mo su ga sl sc ln gr pn 8 (i7 - 1) ee tk lv si fo sa le dl pl dr sp → ∀ (r_68 : Int32) (u_69 : Int32) (u_70 : Int32) (u_71 : UInt64) (u_72 : UInt32) (u_73 : UInt64) (u_74 : Nat → Int32) (u_75 : Nat → UInt64) (u_76 : Nat → UInt32) (u_77 : Nat → Int32) (u_78 : Nat → Int32) (u_79 : Nat → Int32), (r_68, u_69, u_70, u_71, u_72, u_73, u_74, u_75, u_76, u_77, u_78, u_79) = f_X5_pass fh lh x168e_20 x168e_21 mo su x168e_22 x168e_23 ga sl sc x168e_24 ln gr x168e_25 x168e_26 pn x168e_27 x168e_28 x168e_29 x168e_30 1 → n_X5_ofLot ln pn u_77 i4 4) ∧
  (∀ (x168e_19 : Int32) (x168e_20 : Int32) (x168e_21 : Int32) (x168e_22 : UInt64) (x168e_23 : UInt32) (x168e_24 : UInt64) (x168e_25 : Nat → Int32) (x168e_26 : Nat → UInt64) (x168e_27 : Nat → UInt32) (x168e_28 : Nat → Int32) (x168e_29 : Nat → Int32) (x168e_30 : Nat → Int32), (x168e_19, x168e_20, x168e_21, x168e_22, x168e_23, x168e_24, x168e_25, x168e_26, x168e_27, x168e_28, x168e_29, x168e_30) = f_bdn_168 fh lh mo su ga sl sc ln gr pn 8 (i7 - 1) ee tk lv si fo sa le dl pl dr sp → ∀ (r_68 : Int32) (u_69 : Int32) (u_70 : Int32) (u_71 : UInt64) (u_72 : UInt32) (u_73 : UInt64) (u_74 : Nat → Int32) (u_75 : Nat → UInt64) (u_76 : Nat → UInt32) (u_77 : Nat → Int32) (u_78 : Nat → Int32) (u_79 : Nat → Int32), (r_68, u_69, u_70, u_71, u_72, u_73, u_74, u_75, u_76, u_77, u_78, u_79) = f_X5_pass fh lh x168e_20 x168e_21 mo su x168e_22 x168e_23 ga sl sc x168e_24 ln gr x168e_25 x168e_26 pn x168e_27 x168e_28 x168e_29 x168e_30 1 → (f_X5_ofLot ow gr we du u_74 pn u_77 i4 4) = 2) ∧
  (∀ (x168e_19 : Int32) (x168e_20 : Int32) (x168e_21 : Int32) (x168e_22 : UInt64) (x168e_23 : UInt32) (x168e_24 : UInt64) (x168e_25 : Nat → Int32) (x168e_26 : Nat → UInt64) (x168e_27 : Nat → UInt32) (x168e_28 : Nat → Int32) (x168e_29 : Nat → Int32) (x168e_30 : Nat → Int32), (x168e_19, x168e_20, x168e_21, x168e_22, x168e_23, x168e_24, x168e_25, x168e_26, x168e_27, x168e_28, x168e_29, x168e_30) = f_bdn_168 fh lh mo su ga sl sc ln gr pn 8 (i7 - 1) ee tk lv si fo sa le dl pl dr sp → ∀ (r_68 : Int32) (u_69 : Int32) (u_70 : Int32) (u_71 : UInt64) (u_72 : UInt32) (u_73 : UInt64) (u_74 : Nat → Int32) (u_75 : Nat → UInt64) (u_76 : Nat → UInt32) (u_77 : Nat → Int32) (u_78 : Nat → Int32) (u_79 : Nat → Int32), (r_68, u_69, u_70, u_71, u_72, u_73, u_74, u_75, u_76, u_77, u_78, u_79) = f_X5_pass fh lh x168e_20 x168e_21 mo su x168e_22 x168e_23 ga sl sc x168e_24 ln gr x168e_25 x168e_26 pn x168e_27 x168e_28 x168e_29 x168e_30 1 → (Op.cmpValue (FP.dcmp (f_X5_left u_75 i4) FP.dconst0) .l) = 0) ∧
  (∀ (x168e_19 : Int32) (x168e_20 : Int32) (x168e_21 : Int32) (x168e_22 : UInt64) (x168e_23 : UInt32) (x168e_24 : UInt64) (x168e_25 : Nat → Int32) (x168e_26 : Nat → UInt64) (x168e_27 : Nat → UInt32) (x168e_28 : Nat → Int32) (x168e_29 : Nat → Int32) (x168e_30 : Nat → Int32), (x168e_19, x168e_20, x168e_21, x168e_22, x168e_23, x168e_24, x168e_25, x168e_26, x168e_27, x168e_28, x168e_29, x168e_30) = f_bdn_168 fh lh mo su ga sl sc ln gr pn 8 (i7 - 1) ee tk lv si fo sa le dl pl dr sp → ∀ (r_68 : Int32) (u_69 : Int32) (u_70 : Int32) (u_71 : UInt64) (u_72 : UInt32) (u_73 : UInt64) (u_74 : Nat → Int32) (u_75 : Nat → UInt64) (u_76 : Nat → UInt32) (u_77 : Nat → Int32) (u_78 : Nat → Int32) (u_79 : Nat → Int32), (r_68, u_69, u_70, u_71, u_72, u_73, u_74, u_75, u_76, u_77, u_78, u_79) = f_X5_pass fh lh x168e_20 x168e_21 mo su x168e_22 x168e_23 ga sl sc x168e_24 ln gr x168e_25 x168e_26 pn x168e_27 x168e_28 x168e_29 x168e_30 1 → n_X5_wouldDone fh lh u_69 u_70 mo su u_71 u_72 ga sl sc u_73 ln gr u_74 u_75 pn u_76 u_77 u_78 u_79 i4) ∧
  (∀ (x168e_19 : Int32) (x168e_20 : Int32) (x168e_21 : Int32) (x168e_22 : UInt64) (x168e_23 : UInt32) (x168e_24 : UInt64) (x168e_25 : Nat → Int32) (x168e_26 : Nat → UInt64) (x168e_27 : Nat → UInt32) (x168e_28 : Nat → Int32) (x168e_29 : Nat → Int32) (x168e_30 : Nat → Int32), (x168e_19, x168e_20, x168e_21, x168e_22, x168e_23, x168e_24, x168e_25, x168e_26, x168e_27, x168e_28, x168e_29, x168e_30) = f_bdn_168 fh lh mo su ga sl sc ln gr pn 8 (i7 - 1) ee tk lv si fo sa le dl pl dr sp → ∀ (r_68 : Int32) (u_69 : Int32) (u_70 : Int32) (u_71 : UInt64) (u_72 : UInt32) (u_73 : UInt64) (u_74 : Nat → Int32) (u_75 : Nat → UInt64) (u_76 : Nat → UInt32) (u_77 : Nat → Int32) (u_78 : Nat → Int32) (u_79 : Nat → Int32), (r_68, u_69, u_70, u_71, u_72, u_73, u_74, u_75, u_76, u_77, u_78, u_79) = f_X5_pass fh lh x168e_20 x168e_21 mo su x168e_22 x168e_23 ga sl sc x168e_24 ln gr x168e_25 x168e_26 pn x168e_27 x168e_28 x168e_29 x168e_30 1 → (f_X5_wouldDone fh lh u_69 u_70 mo su u_71 u_72 ga sl sc u_73 ln gr u_74 u_75 pn u_76 u_77 u_78 u_79 i4) = 0)
def n_bge (i2 : Int32) : Prop :=
  (0 ≤ i2)
def n_bnew2 (i1 : Int32) (sL : Nat) (xs : Nat → Int32) : Prop :=
  (n_X6_founded ((31 * i1) + 7) 0 0 0 0 (fun _ => (0 : UInt64)) 0 0 0 0 0 (fun _ => (0 : Int32)) (fun _ => (0 : Int32)) (fun _ => (0 : Int32)) (fun _ => (0 : Int32)) (fun _ => (0 : Int32)) (fun _ => (0 : UInt64)) 0 (fun _ => (0 : Int32)) (fun _ => (0 : Int32)) 0 (fun _ _ => (0 : Int32)) 0 (fun _ _ => (0 : Int32)) sL xs) ∧
  (∀ (u_40 : Nat → Nat → Int32) (u_41 : Nat → Nat → Int32) (u_42 : Int32) (u_43 : Int32) (u_44 : Int32) (u_45 : Int32) (u_46 : Nat → UInt64) (u_47 : Int32) (u_48 : Int32) (u_49 : Int32) (u_50 : Int32) (u_51 : Nat → Int32) (u_52 : Nat → Int32) (u_53 : Nat → Int32) (u_54 : Nat → Int32) (u_55 : Nat → Int32) (u_56 : Nat → UInt64) (u_57 : Int32) (u_58 : Nat → Int32), (u_40, u_41, u_42, u_43, u_44, u_45, u_46, u_47, u_48, u_49, u_50, u_51, u_52, u_53, u_54, u_55, u_56, u_57, u_58) = f_X6_founded ((31 * i1) + 7) 0 (fun _ => (0 : UInt64)) 0 0 0 0 (fun _ => (0 : Int32)) (fun _ => (0 : Int32)) (fun _ => (0 : Int32)) (fun _ => (0 : Int32)) (fun _ => (0 : Int32)) (fun _ => (0 : UInt64)) 0 (fun _ => (0 : Int32)) 0 (fun _ _ => (0 : Int32)) 0 (fun _ _ => (0 : Int32)) sL xs → ¬ 1 = 0)
def f_bsuma_371 (n2 : Nat) (u_15 : Nat → UInt64) (u_28 : Nat → UInt64) : Nat → UInt64 → UInt64 → Int32 → UInt64 × UInt64 × Int32
  | 0, x371_0, x371_1, x371_2 => (x371_0, x371_1, x371_2)
  | fuel + 1, x371_0, x371_1, x371_2 => if (nI n2) ≤ x371_2 then (x371_0, x371_1, x371_2) else (f_bsuma_371 n2 u_15 u_28 fuel (FP.dadd x371_0 (f_X5_left u_28 x371_2)) (FP.dadd x371_1 (f_X5_left u_15 x371_2)) (x371_2 + 1))
def n_bsuma_371 (ln : Int32) (ln2 : Int32) (n2 : Nat) (u_15 : Nat → UInt64) (u_28 : Nat → UInt64) : Nat → UInt64 → UInt64 → Int32 → Prop
  | 0, x371_0, x371_1, x371_2 => False
  | fuel + 1, x371_0, x371_1, x371_2 => ((¬ (nI n2) ≤ x371_2) → n_X5_left ln x371_2) ∧
  ((¬ (nI n2) ≤ x371_2) → vf_n64 (FP.dadd x371_0 (f_X5_left u_28 x371_2))) ∧
  ((¬ (nI n2) ≤ x371_2) → n_X5_left ln2 x371_2) ∧
  ((¬ (nI n2) ≤ x371_2) → vf_n64 (FP.dadd x371_1 (f_X5_left u_15 x371_2))) ∧
  ((¬ (nI n2) ≤ x371_2) → n_bsuma_371 ln ln2 n2 u_15 u_28 fuel (FP.dadd x371_0 (f_X5_left u_28 x371_2)) (FP.dadd x371_1 (f_X5_left u_15 x371_2)) (x371_2 + 1))
def n_bsuma (i6 : Int32) (i3 : Int32) (i2 : Int32) (fh : Int32) (lh : Int32) (ee : Int32) (tk : Int32) (mo : Int32) (su : UInt64) (lv : UInt64) (si : UInt32) (ga : Int32) (sl : Int32) (sc : Int32) (fo : UInt64) (ln : Int32) (gr : Nat → Int32) (sa : Nat → Int32) (le : Nat → UInt64) (pn : Int32) (dl : Nat → UInt32) (pl : Nat → Int32) (dr : Nat → Int32) (sp : Nat → Int32) (fh2 : Int32) (lh2 : Int32) (ee2 : Int32) (tk2 : Int32) (mo2 : Int32) (su2 : UInt64) (lv2 : UInt64) (si2 : UInt32) (ga2 : Int32) (sl2 : Int32) (sc2 : Int32) (fo2 : UInt64) (ln2 : Int32) (gr2 : Nat → Int32) (sa2 : Nat → Int32) (le2 : Nat → UInt64) (pn2 : Int32) (dl2 : Nat → UInt32) (pl2 : Nat → Int32) (dr2 : Nat → Int32) (sp2 : Nat → Int32) (n2 : Nat) : Prop :=
  (n_X5_sluice i6) ∧
  (∀ (r_2 : Int32) (u_3 : Int32), (r_2, u_3) = f_X5_sluice sl i6 → n_X5_sluice i2) ∧
  (∀ (r_2 : Int32) (u_3 : Int32), (r_2, u_3) = f_X5_sluice sl i6 → ∀ (r_5 : Int32) (u_6 : Int32), (r_5, u_6) = f_X5_sluice sl2 i2 → n_X5_pass fh2 lh2 ee2 tk2 mo2 su2 lv2 si2 ga2 u_6 sc2 fo2 ln2 gr2 sa2 le2 pn2 dl2 pl2 dr2 sp2 i3) ∧
  (∀ (r_2 : Int32) (u_3 : Int32), (r_2, u_3) = f_X5_sluice sl i6 → ∀ (r_5 : Int32) (u_6 : Int32), (r_5, u_6) = f_X5_sluice sl2 i2 → ∀ (r_8 : Int32) (u_9 : Int32) (u_10 : Int32) (u_11 : UInt64) (u_12 : UInt32) (u_13 : UInt64) (u_14 : Nat → Int32) (u_15 : Nat → UInt64) (u_16 : Nat → UInt32) (u_17 : Nat → Int32) (u_18 : Nat → Int32) (u_19 : Nat → Int32), (r_8, u_9, u_10, u_11, u_12, u_13, u_14, u_15, u_16, u_17, u_18, u_19) = f_X5_pass fh2 lh2 ee2 tk2 mo2 su2 lv2 si2 ga2 u_6 sc2 fo2 ln2 gr2 sa2 le2 pn2 dl2 pl2 dr2 sp2 i3 → n_X5_pass fh lh ee tk mo su lv si ga u_3 sc fo ln gr sa le pn dl pl dr sp i3) ∧
  (∀ (r_2 : Int32) (u_3 : Int32), (r_2, u_3) = f_X5_sluice sl i6 → ∀ (r_5 : Int32) (u_6 : Int32), (r_5, u_6) = f_X5_sluice sl2 i2 → ∀ (r_8 : Int32) (u_9 : Int32) (u_10 : Int32) (u_11 : UInt64) (u_12 : UInt32) (u_13 : UInt64) (u_14 : Nat → Int32) (u_15 : Nat → UInt64) (u_16 : Nat → UInt32) (u_17 : Nat → Int32) (u_18 : Nat → Int32) (u_19 : Nat → Int32), (r_8, u_9, u_10, u_11, u_12, u_13, u_14, u_15, u_16, u_17, u_18, u_19) = f_X5_pass fh2 lh2 ee2 tk2 mo2 su2 lv2 si2 ga2 u_6 sc2 fo2 ln2 gr2 sa2 le2 pn2 dl2 pl2 dr2 sp2 i3 → ∀ (r_21 : Int32) (u_22 : Int32) (u_23 : Int32) (u_24 : UInt64) (u_25 : UInt32) (u_26 : UInt64) (u_27 : Nat → Int32) (u_28 : Nat → UInt64) (u_29 : Nat → UInt32) (u_30 : Nat → Int32) (u_31 : Nat → Int32) (u_32 : Nat → Int32), (r_21, u_22, u_23, u_24, u_25, u_26, u_27, u_28, u_29, u_30, u_31, u_32) = f_X5_pass fh lh ee tk mo su lv si ga u_3 sc fo ln gr sa le pn dl pl dr sp i3 → n_bsuma_371 ln ln2 n2 u_15 u_28 12 FP.dconst0 FP.dconst0 0) ∧
  (∀ (r_2 : Int32) (u_3 : Int32), (r_2, u_3) = f_X5_sluice sl i6 → ∀ (r_5 : Int32) (u_6 : Int32), (r_5, u_6) = f_X5_sluice sl2 i2 → ∀ (r_8 : Int32) (u_9 : Int32) (u_10 : Int32) (u_11 : UInt64) (u_12 : UInt32) (u_13 : UInt64) (u_14 : Nat → Int32) (u_15 : Nat → UInt64) (u_16 : Nat → UInt32) (u_17 : Nat → Int32) (u_18 : Nat → Int32) (u_19 : Nat → Int32), (r_8, u_9, u_10, u_11, u_12, u_13, u_14, u_15, u_16, u_17, u_18, u_19) = f_X5_pass fh2 lh2 ee2 tk2 mo2 su2 lv2 si2 ga2 u_6 sc2 fo2 ln2 gr2 sa2 le2 pn2 dl2 pl2 dr2 sp2 i3 → ∀ (r_21 : Int32) (u_22 : Int32) (u_23 : Int32) (u_24 : UInt64) (u_25 : UInt32) (u_26 : UInt64) (u_27 : Nat → Int32) (u_28 : Nat → UInt64) (u_29 : Nat → UInt32) (u_30 : Nat → Int32) (u_31 : Nat → Int32) (u_32 : Nat → Int32), (r_21, u_22, u_23, u_24, u_25, u_26, u_27, u_28, u_29, u_30, u_31, u_32) = f_X5_pass fh lh ee tk mo su lv si ga u_3 sc fo ln gr sa le pn dl pl dr sp i3 → ∀ (x371e_42 : UInt64) (x371e_43 : UInt64) (x371e_44 : Int32), (x371e_42, x371e_43, x371e_44) = f_bsuma_371 n2 u_15 u_28 12 FP.dconst0 FP.dconst0 0 → ¬ (Op.cmpValue (FP.dcmp x371e_43 x371e_42) .g) < 0) ∧
  (∀ (r_2 : Int32) (u_3 : Int32), (r_2, u_3) = f_X5_sluice sl i6 → ∀ (r_5 : Int32) (u_6 : Int32), (r_5, u_6) = f_X5_sluice sl2 i2 → ∀ (r_8 : Int32) (u_9 : Int32) (u_10 : Int32) (u_11 : UInt64) (u_12 : UInt32) (u_13 : UInt64) (u_14 : Nat → Int32) (u_15 : Nat → UInt64) (u_16 : Nat → UInt32) (u_17 : Nat → Int32) (u_18 : Nat → Int32) (u_19 : Nat → Int32), (r_8, u_9, u_10, u_11, u_12, u_13, u_14, u_15, u_16, u_17, u_18, u_19) = f_X5_pass fh2 lh2 ee2 tk2 mo2 su2 lv2 si2 ga2 u_6 sc2 fo2 ln2 gr2 sa2 le2 pn2 dl2 pl2 dr2 sp2 i3 → ∀ (r_21 : Int32) (u_22 : Int32) (u_23 : Int32) (u_24 : UInt64) (u_25 : UInt32) (u_26 : UInt64) (u_27 : Nat → Int32) (u_28 : Nat → UInt64) (u_29 : Nat → UInt32) (u_30 : Nat → Int32) (u_31 : Nat → Int32) (u_32 : Nat → Int32), (r_21, u_22, u_23, u_24, u_25, u_26, u_27, u_28, u_29, u_30, u_31, u_32) = f_X5_pass fh lh ee tk mo su lv si ga u_3 sc fo ln gr sa le pn dl pl dr sp i3 → ∀ (x371e_42 : UInt64) (x371e_43 : UInt64) (x371e_44 : Int32), (x371e_42, x371e_43, x371e_44) = f_bsuma_371 n2 u_15 u_28 12 FP.dconst0 FP.dconst0 0 → ¬ (Op.cmpValue (FP.dcmp x371e_43 x371e_42) .l) = 0)
def f_bsumb_371 (n2 : Nat) (u_15 : Nat → UInt64) (u_28 : Nat → UInt64) : Nat → UInt64 → UInt64 → Int32 → UInt64 × UInt64 × Int32
  | 0, x371_0, x371_1, x371_2 => (x371_0, x371_1, x371_2)
  | fuel + 1, x371_0, x371_1, x371_2 => if (nI n2) ≤ x371_2 then (x371_0, x371_1, x371_2) else (f_bsumb_371 n2 u_15 u_28 fuel (FP.dadd x371_0 (f_X5_left u_28 x371_2)) (FP.dadd x371_1 (f_X5_left u_15 x371_2)) (x371_2 + 1))
def n_bsumb_371 (ln : Int32) (ln2 : Int32) (n2 : Nat) (u_15 : Nat → UInt64) (u_28 : Nat → UInt64) : Nat → UInt64 → UInt64 → Int32 → Prop
  | 0, x371_0, x371_1, x371_2 => False
  | fuel + 1, x371_0, x371_1, x371_2 => ((¬ (nI n2) ≤ x371_2) → n_X5_left ln x371_2) ∧
  ((¬ (nI n2) ≤ x371_2) → vf_n64 (FP.dadd x371_0 (f_X5_left u_28 x371_2))) ∧
  ((¬ (nI n2) ≤ x371_2) → n_X5_left ln2 x371_2) ∧
  ((¬ (nI n2) ≤ x371_2) → vf_n64 (FP.dadd x371_1 (f_X5_left u_15 x371_2))) ∧
  ((¬ (nI n2) ≤ x371_2) → n_bsumb_371 ln ln2 n2 u_15 u_28 fuel (FP.dadd x371_0 (f_X5_left u_28 x371_2)) (FP.dadd x371_1 (f_X5_left u_15 x371_2)) (x371_2 + 1))
def n_bsumb (i6 : Int32) (i3 : Int32) (i2 : Int32) (fh : Int32) (lh : Int32) (ee : Int32) (tk : Int32) (mo : Int32) (su : UInt64) (lv : UInt64) (si : UInt32) (ga : Int32) (sl : Int32) (sc : Int32) (fo : UInt64) (ln : Int32) (gr : Nat → Int32) (sa : Nat → Int32) (le : Nat → UInt64) (pn : Int32) (dl : Nat → UInt32) (pl : Nat → Int32) (dr : Nat → Int32) (sp : Nat → Int32) (fh2 : Int32) (lh2 : Int32) (ee2 : Int32) (tk2 : Int32) (mo2 : Int32) (su2 : UInt64) (lv2 : UInt64) (si2 : UInt32) (ga2 : Int32) (sl2 : Int32) (sc2 : Int32) (fo2 : UInt64) (ln2 : Int32) (gr2 : Nat → Int32) (sa2 : Nat → Int32) (le2 : Nat → UInt64) (pn2 : Int32) (dl2 : Nat → UInt32) (pl2 : Nat → Int32) (dr2 : Nat → Int32) (sp2 : Nat → Int32) (n2 : Nat) : Prop :=
  (n_X5_sluice i6) ∧
  (∀ (r_2 : Int32) (u_3 : Int32), (r_2, u_3) = f_X5_sluice sl i6 → n_X5_sluice i2) ∧
  (∀ (r_2 : Int32) (u_3 : Int32), (r_2, u_3) = f_X5_sluice sl i6 → ∀ (r_5 : Int32) (u_6 : Int32), (r_5, u_6) = f_X5_sluice sl2 i2 → n_X5_pass fh2 lh2 ee2 tk2 mo2 su2 lv2 si2 ga2 u_6 sc2 fo2 ln2 gr2 sa2 le2 pn2 dl2 pl2 dr2 sp2 i3) ∧
  (∀ (r_2 : Int32) (u_3 : Int32), (r_2, u_3) = f_X5_sluice sl i6 → ∀ (r_5 : Int32) (u_6 : Int32), (r_5, u_6) = f_X5_sluice sl2 i2 → ∀ (r_8 : Int32) (u_9 : Int32) (u_10 : Int32) (u_11 : UInt64) (u_12 : UInt32) (u_13 : UInt64) (u_14 : Nat → Int32) (u_15 : Nat → UInt64) (u_16 : Nat → UInt32) (u_17 : Nat → Int32) (u_18 : Nat → Int32) (u_19 : Nat → Int32), (r_8, u_9, u_10, u_11, u_12, u_13, u_14, u_15, u_16, u_17, u_18, u_19) = f_X5_pass fh2 lh2 ee2 tk2 mo2 su2 lv2 si2 ga2 u_6 sc2 fo2 ln2 gr2 sa2 le2 pn2 dl2 pl2 dr2 sp2 i3 → n_X5_pass fh lh ee tk mo su lv si ga u_3 sc fo ln gr sa le pn dl pl dr sp i3) ∧
  (∀ (r_2 : Int32) (u_3 : Int32), (r_2, u_3) = f_X5_sluice sl i6 → ∀ (r_5 : Int32) (u_6 : Int32), (r_5, u_6) = f_X5_sluice sl2 i2 → ∀ (r_8 : Int32) (u_9 : Int32) (u_10 : Int32) (u_11 : UInt64) (u_12 : UInt32) (u_13 : UInt64) (u_14 : Nat → Int32) (u_15 : Nat → UInt64) (u_16 : Nat → UInt32) (u_17 : Nat → Int32) (u_18 : Nat → Int32) (u_19 : Nat → Int32), (r_8, u_9, u_10, u_11, u_12, u_13, u_14, u_15, u_16, u_17, u_18, u_19) = f_X5_pass fh2 lh2 ee2 tk2 mo2 su2 lv2 si2 ga2 u_6 sc2 fo2 ln2 gr2 sa2 le2 pn2 dl2 pl2 dr2 sp2 i3 → ∀ (r_21 : Int32) (u_22 : Int32) (u_23 : Int32) (u_24 : UInt64) (u_25 : UInt32) (u_26 : UInt64) (u_27 : Nat → Int32) (u_28 : Nat → UInt64) (u_29 : Nat → UInt32) (u_30 : Nat → Int32) (u_31 : Nat → Int32) (u_32 : Nat → Int32), (r_21, u_22, u_23, u_24, u_25, u_26, u_27, u_28, u_29, u_30, u_31, u_32) = f_X5_pass fh lh ee tk mo su lv si ga u_3 sc fo ln gr sa le pn dl pl dr sp i3 → n_bsumb_371 ln ln2 n2 u_15 u_28 12 FP.dconst0 FP.dconst0 0) ∧
  (∀ (r_2 : Int32) (u_3 : Int32), (r_2, u_3) = f_X5_sluice sl i6 → ∀ (r_5 : Int32) (u_6 : Int32), (r_5, u_6) = f_X5_sluice sl2 i2 → ∀ (r_8 : Int32) (u_9 : Int32) (u_10 : Int32) (u_11 : UInt64) (u_12 : UInt32) (u_13 : UInt64) (u_14 : Nat → Int32) (u_15 : Nat → UInt64) (u_16 : Nat → UInt32) (u_17 : Nat → Int32) (u_18 : Nat → Int32) (u_19 : Nat → Int32), (r_8, u_9, u_10, u_11, u_12, u_13, u_14, u_15, u_16, u_17, u_18, u_19) = f_X5_pass fh2 lh2 ee2 tk2 mo2 su2 lv2 si2 ga2 u_6 sc2 fo2 ln2 gr2 sa2 le2 pn2 dl2 pl2 dr2 sp2 i3 → ∀ (r_21 : Int32) (u_22 : Int32) (u_23 : Int32) (u_24 : UInt64) (u_25 : UInt32) (u_26 : UInt64) (u_27 : Nat → Int32) (u_28 : Nat → UInt64) (u_29 : Nat → UInt32) (u_30 : Nat → Int32) (u_31 : Nat → Int32) (u_32 : Nat → Int32), (r_21, u_22, u_23, u_24, u_25, u_26, u_27, u_28, u_29, u_30, u_31, u_32) = f_X5_pass fh lh ee tk mo su lv si ga u_3 sc fo ln gr sa le pn dl pl dr sp i3 → ∀ (x371e_42 : UInt64) (x371e_43 : UInt64) (x371e_44 : Int32), (x371e_42, x371e_43, x371e_44) = f_bsumb_371 n2 u_15 u_28 12 FP.dconst0 FP.dconst0 0 → ¬ (Op.cmpValue (FP.dcmp x371e_43 x371e_42) .g) < 0) ∧
  (∀ (r_2 : Int32) (u_3 : Int32), (r_2, u_3) = f_X5_sluice sl i6 → ∀ (r_5 : Int32) (u_6 : Int32), (r_5, u_6) = f_X5_sluice sl2 i2 → ∀ (r_8 : Int32) (u_9 : Int32) (u_10 : Int32) (u_11 : UInt64) (u_12 : UInt32) (u_13 : UInt64) (u_14 : Nat → Int32) (u_15 : Nat → UInt64) (u_16 : Nat → UInt32) (u_17 : Nat → Int32) (u_18 : Nat → Int32) (u_19 : Nat → Int32), (r_8, u_9, u_10, u_11, u_12, u_13, u_14, u_15, u_16, u_17, u_18, u_19) = f_X5_pass fh2 lh2 ee2 tk2 mo2 su2 lv2 si2 ga2 u_6 sc2 fo2 ln2 gr2 sa2 le2 pn2 dl2 pl2 dr2 sp2 i3 → ∀ (r_21 : Int32) (u_22 : Int32) (u_23 : Int32) (u_24 : UInt64) (u_25 : UInt32) (u_26 : UInt64) (u_27 : Nat → Int32) (u_28 : Nat → UInt64) (u_29 : Nat → UInt32) (u_30 : Nat → Int32) (u_31 : Nat → Int32) (u_32 : Nat → Int32), (r_21, u_22, u_23, u_24, u_25, u_26, u_27, u_28, u_29, u_30, u_31, u_32) = f_X5_pass fh lh ee tk mo su lv si ga u_3 sc fo ln gr sa le pn dl pl dr sp i3 → ∀ (x371e_42 : UInt64) (x371e_43 : UInt64) (x371e_44 : Int32), (x371e_42, x371e_43, x371e_44) = f_bsumb_371 n2 u_15 u_28 12 FP.dconst0 FP.dconst0 0 → (Op.cmpValue (FP.dcmp x371e_43 x371e_42) .l) = 0) ∧
  (∀ (r_2 : Int32) (u_3 : Int32), (r_2, u_3) = f_X5_sluice sl i6 → ∀ (r_5 : Int32) (u_6 : Int32), (r_5, u_6) = f_X5_sluice sl2 i2 → ∀ (r_8 : Int32) (u_9 : Int32) (u_10 : Int32) (u_11 : UInt64) (u_12 : UInt32) (u_13 : UInt64) (u_14 : Nat → Int32) (u_15 : Nat → UInt64) (u_16 : Nat → UInt32) (u_17 : Nat → Int32) (u_18 : Nat → Int32) (u_19 : Nat → Int32), (r_8, u_9, u_10, u_11, u_12, u_13, u_14, u_15, u_16, u_17, u_18, u_19) = f_X5_pass fh2 lh2 ee2 tk2 mo2 su2 lv2 si2 ga2 u_6 sc2 fo2 ln2 gr2 sa2 le2 pn2 dl2 pl2 dr2 sp2 i3 → ∀ (r_21 : Int32) (u_22 : Int32) (u_23 : Int32) (u_24 : UInt64) (u_25 : UInt32) (u_26 : UInt64) (u_27 : Nat → Int32) (u_28 : Nat → UInt64) (u_29 : Nat → UInt32) (u_30 : Nat → Int32) (u_31 : Nat → Int32) (u_32 : Nat → Int32), (r_21, u_22, u_23, u_24, u_25, u_26, u_27, u_28, u_29, u_30, u_31, u_32) = f_X5_pass fh lh ee tk mo su lv si ga u_3 sc fo ln gr sa le pn dl pl dr sp i3 → ∀ (x371e_42 : UInt64) (x371e_43 : UInt64) (x371e_44 : Int32), (x371e_42, x371e_43, x371e_44) = f_bsumb_371 n2 u_15 u_28 12 FP.dconst0 FP.dconst0 0 → i6 ≤ i2)
