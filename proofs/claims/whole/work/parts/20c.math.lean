/-! Math.max, Math.min of two doubles, of two floats: the machine runs them by entries of its own; where no argument is a NaN nothing is drawn -/
theorem tm_ov {tb : Tables} {e : Env} {s : State} {f : JFrame} {k : Class} {x : Method} {row : NativeRow} (hpc : f.pc = 0) (hk : s.vm.classes[f.method.cls]? = some k) (hn : overriddenIn.contains k.name = true) (hb : k.loader = none) (hx : k.methods[f.method.idx]? = some x) (hr : NativeRow.find? tb.natives k.name x.name x.desc = some row) : overridden tb e s f = some row := by
  have hn' : k.name ∈ overriddenIn := by simpa using hn
  unfold overridden
  simp [hpc, hk, hn', hb, hx, hr]
def tm_row_maxDD : NativeRow := (NativeRow.find? Native.java_lang_Math.nans.rows "java/lang/Math" "max" "(DD)D").get (by decide +kernel)
set_option maxRecDepth 100000 in
theorem tm_row_maxDD_at (p : Program) : NativeRow.find? p.tables.natives "java/lang/Math" "max" "(DD)D" = some tm_row_maxDD := by
  cases p <;> rfl
theorem tm_row_maxDD_run {a b : UInt64} (ha : FP.dIsNaN a = false) (hb : FP.dIsNaN b = false) (e : Env) (S : State) : ∃ acts, (tm_row_maxDD.sem #[.double a, .double b]).run e S = .ok (some (.double (Native.java_lang_Math.nans.pick64 true a b))) S acts := by
  have hsem : tm_row_maxDD.sem #[.double a, .double b] = (do
      let r ← if FP.dIsNaN a then anyNaN64 a else if FP.dIsNaN b then anyNaN64 b else Pure.pure (Native.java_lang_Math.nans.pick64 true a b)
      mark "nat.java_lang_Math.max"
      Pure.pure (some (Value.double r))) := rfl
  have hw : wpRun (tm_row_maxDD.sem #[.double a, .double b]) (fun v s₂ _ => v = some (.double (Native.java_lang_Math.nans.pick64 true a b)) ∧ s₂ = S) (fun _ _ _ => False) e S := by
    rw [hsem]
    simp [jvm, wpRun, ha, hb]
  have hw' := (wpRun_iff_run _ _ _ _ _).mp hw
  cases hr : (tm_row_maxDD.sem #[.double a, .double b]).run e S with
  | ok v s₂ acts₂ => rw [hr] at hw'; obtain ⟨rfl, rfl⟩ := hw'; exact ⟨_, rfl⟩
  | ctl x s₂ acts₂ => rw [hr] at hw'; cases x <;> exact hw'.elim
def tm_row_maxFF : NativeRow := (NativeRow.find? Native.java_lang_Math.nans.rows "java/lang/Math" "max" "(FF)F").get (by decide +kernel)
set_option maxRecDepth 100000 in
theorem tm_row_maxFF_at (p : Program) : NativeRow.find? p.tables.natives "java/lang/Math" "max" "(FF)F" = some tm_row_maxFF := by
  cases p <;> rfl
theorem tm_row_maxFF_run {a b : UInt32} (ha : FP.fIsNaN a = false) (hb : FP.fIsNaN b = false) (e : Env) (S : State) : ∃ acts, (tm_row_maxFF.sem #[.float a, .float b]).run e S = .ok (some (.float (Native.java_lang_Math.nans.pick32 true a b))) S acts := by
  have hsem : tm_row_maxFF.sem #[.float a, .float b] = (do
      let r ← if FP.fIsNaN a then anyNaN32 a else if FP.fIsNaN b then anyNaN32 b else Pure.pure (Native.java_lang_Math.nans.pick32 true a b)
      mark "nat.java_lang_Math.max/float"
      Pure.pure (some (Value.float r))) := rfl
  have hw : wpRun (tm_row_maxFF.sem #[.float a, .float b]) (fun v s₂ _ => v = some (.float (Native.java_lang_Math.nans.pick32 true a b)) ∧ s₂ = S) (fun _ _ _ => False) e S := by
    rw [hsem]
    simp [jvm, wpRun, ha, hb]
  have hw' := (wpRun_iff_run _ _ _ _ _).mp hw
  cases hr : (tm_row_maxFF.sem #[.float a, .float b]).run e S with
  | ok v s₂ acts₂ => rw [hr] at hw'; obtain ⟨rfl, rfl⟩ := hw'; exact ⟨_, rfl⟩
  | ctl x s₂ acts₂ => rw [hr] at hw'; cases x <;> exact hw'.elim
def tm_row_minDD : NativeRow := (NativeRow.find? Native.java_lang_Math.nans.rows "java/lang/Math" "min" "(DD)D").get (by decide +kernel)
set_option maxRecDepth 100000 in
theorem tm_row_minDD_at (p : Program) : NativeRow.find? p.tables.natives "java/lang/Math" "min" "(DD)D" = some tm_row_minDD := by
  cases p <;> rfl
theorem tm_row_minDD_run {a b : UInt64} (ha : FP.dIsNaN a = false) (hb : FP.dIsNaN b = false) (e : Env) (S : State) : ∃ acts, (tm_row_minDD.sem #[.double a, .double b]).run e S = .ok (some (.double (Native.java_lang_Math.nans.pick64 false a b))) S acts := by
  have hsem : tm_row_minDD.sem #[.double a, .double b] = (do
      let r ← if FP.dIsNaN a then anyNaN64 a else if FP.dIsNaN b then anyNaN64 b else Pure.pure (Native.java_lang_Math.nans.pick64 false a b)
      mark "nat.java_lang_Math.min"
      Pure.pure (some (Value.double r))) := rfl
  have hw : wpRun (tm_row_minDD.sem #[.double a, .double b]) (fun v s₂ _ => v = some (.double (Native.java_lang_Math.nans.pick64 false a b)) ∧ s₂ = S) (fun _ _ _ => False) e S := by
    rw [hsem]
    simp [jvm, wpRun, ha, hb]
  have hw' := (wpRun_iff_run _ _ _ _ _).mp hw
  cases hr : (tm_row_minDD.sem #[.double a, .double b]).run e S with
  | ok v s₂ acts₂ => rw [hr] at hw'; obtain ⟨rfl, rfl⟩ := hw'; exact ⟨_, rfl⟩
  | ctl x s₂ acts₂ => rw [hr] at hw'; cases x <;> exact hw'.elim
def tm_row_minFF : NativeRow := (NativeRow.find? Native.java_lang_Math.nans.rows "java/lang/Math" "min" "(FF)F").get (by decide +kernel)
set_option maxRecDepth 100000 in
theorem tm_row_minFF_at (p : Program) : NativeRow.find? p.tables.natives "java/lang/Math" "min" "(FF)F" = some tm_row_minFF := by
  cases p <;> rfl
theorem tm_row_minFF_run {a b : UInt32} (ha : FP.fIsNaN a = false) (hb : FP.fIsNaN b = false) (e : Env) (S : State) : ∃ acts, (tm_row_minFF.sem #[.float a, .float b]).run e S = .ok (some (.float (Native.java_lang_Math.nans.pick32 false a b))) S acts := by
  have hsem : tm_row_minFF.sem #[.float a, .float b] = (do
      let r ← if FP.fIsNaN a then anyNaN32 a else if FP.fIsNaN b then anyNaN32 b else Pure.pure (Native.java_lang_Math.nans.pick32 false a b)
      mark "nat.java_lang_Math.min/float"
      Pure.pure (some (Value.float r))) := rfl
  have hw : wpRun (tm_row_minFF.sem #[.float a, .float b]) (fun v s₂ _ => v = some (.float (Native.java_lang_Math.nans.pick32 false a b)) ∧ s₂ = S) (fun _ _ _ => False) e S := by
    rw [hsem]
    simp [jvm, wpRun, ha, hb]
  have hw' := (wpRun_iff_run _ _ _ _ _).mp hw
  cases hr : (tm_row_minFF.sem #[.float a, .float b]).run e S with
  | ok v s₂ acts₂ => rw [hr] at hw'; obtain ⟨rfl, rfl⟩ := hw'; exact ⟨_, rfl⟩
  | ctl x s₂ acts₂ => rw [hr] at hw'; cases x <;> exact hw'.elim
theorem tm_natDD (p : Program) {e : Env} {below : List Frame} {T target : State} {g : JFrame} {c : Code} (X : At T g.method c below) {mk : MethodId} {meth : Method} {k : Class} {cm : Code} {a b r : UInt64} {row : NativeRow} {nm : String} (acts : List Action)
    (hk : T.vm.classes[mk.cls]? = some k) (hx : k.methods[mk.idx]? = some meth) (hboot : k.loader = none) (hkn : k.name = "java/lang/Math") (hmn : meth.name = nm) (hmd : meth.desc = "(DD)D") (hsig : parseMethodDescriptor "(DD)D" = some meth.sig)
    (hc : meth.code = some cm) (hml : cm.maxLocals = 4) (hl : meth.locks = false) (hroom : (T.calling g mk #[.double a, .double b]).hasRoom e.platform {} = true)
    (hrow : NativeRow.find? p.tables.natives "java/lang/Math" nm "(DD)D" = some row) (hrun : ∀ (e : Env) (S : State), ∃ acts, (row.sem #[.double a, .double b]).run e S = .ok (some (.double r)) S acts)
    {ig : Instr} {len : Nat} (hdg : decode c.code g.pc = .ok (ig, len)) (hrest : Steps p.tables e below (T.setTop { g with pc := g.pc + len, stack := .double r :: g.stack }) target) :
    Steps p.tables e below (doInvoke e (T.setTop g) acts mk #[.double a, .double b]).1 target := by
  obtain ⟨g₀, hg⟩ := Option.isSome_iff_exists.mp X.top
  obtain ⟨fr, hr⟩ := State.topJava?_eq_some.mp hg
  obtain ⟨mid, hmid⟩ := X.above
  have hcur : T.cur < T.threads.size := State.cur_lt_of_frames hr
  have hm : T.vm.method? mk = some meth := by simp [Vm.method?, hk, hx]
  have htop : T.setTop g = T.setFrames (.java g :: fr) := State.setTop_of_frames _ hr
  have htail : T.frames.tail = fr := by rw [hr]; rfl
  have hfull : e.platform.stackFull (T.setTop g).me (T.setTop g).frames cm.maxLocals = false := by
    have hfc := State.frames_calling X.top g mk #[.double a, .double b]
    obtain ⟨-, r2, -, r4⟩ := State.hasRoom_stack hroom
    rw [State.localsInUse_invoking hfc (meth := meth) (c := cm) hm hc] at r4
    rw [hfc, htail] at r2
    rw [htail] at r4
    have hw := stackUse_le_stackWeight (.java g :: fr)
    rw [State.calling_eq X.top, State.stackLimits_setFrames] at r2 r4
    rw [htop, State.frames_setFrames _ hcur]
    refine Platform.stackFull_eq_false (by rw [State.stackLimits_setFrames]; simp only [List.length_cons] at r2 ⊢; have : ({} : Room).frames = 0 := rfl; omega) (by rw [State.stackLimits_setFrames]; have : ({} : Room).locals = 0 := rfl; omega)
  rw [(doInvoke_java (s := T.setTop g) (e := e) (acts := acts) (args := #[.double a, .double b]) (meth := meth) (code := cm) hm hc hl hfull).1, hml]
  have hU : (T.setTop g).pushFrame (.java { method := mk, pc := 0, locals := argsToLocals #[.double a, .double b] 4, stack := [], locked := none }) = T.setFrames (.java (entryFrame mk #[.double a, .double b] 4) :: .java g :: fr) := by
    rw [State.pushFrame, State.frames_setTop _ hr, htop, State.setFrames_setFrames]
    rfl
  rw [hU]
  have hf1 : (T.setFrames (.java (entryFrame mk #[.double a, .double b] 4) :: .java g :: fr)).frames = .java (entryFrame mk #[.double a, .double b] 4) :: .java g :: fr := State.frames_setFrames _ hcur
  have hov : overridden p.tables e (T.setFrames (.java (entryFrame mk #[.double a, .double b] 4) :: .java g :: fr)) (entryFrame mk #[.double a, .double b] 4) = some row :=
    tm_ov (k := k) (x := meth) rfl hk (by rw [hkn]; decide) hboot hx (by rw [hkn, hmn, hmd]; exact hrow)
  have hb2 : ∀ F : List Frame, ((T.setFrames F).vm.classes[mk.cls]?.bind fun y => y.methods[mk.idx]?) = some meth := by
    intro F
    show (T.vm.classes[mk.cls]?.bind fun y => y.methods[mk.idx]?) = some meth
    simp [hk, hx]
  have hsig2 : parseMethodDescriptor "(DD)D" = some { parameters := [.double, .double], returnType := some .double } := by decide +kernel
  have hparams : meth.sig.parameters.length = 2 := by
    have h3 := hsig
    rw [hsig2] at h3
    rw [← Option.some.inj h3]
    rfl
  have htake : ∀ n : Nat, List.take (2 + n) [Value.double a, Value.double b] = [Value.double a, Value.double b] := fun n => List.take_of_length_le (Nat.le_add_right 2 n)
  have hb3 : (T.vm.classes[mk.cls]?.bind fun y => y.methods[mk.idx]?) = some meth := hb2 []
  obtain ⟨acts₂, hr2⟩ := hrun e (T.setFrames (.native { method := mk, args := #[.double a, .double b] } :: .java g :: fr))
  have hcode : ∀ F : List Frame, (T.setFrames F).code? g.method = some c := by
    intro F
    have := X.code
    rw [State.code?_eq] at this ⊢
    simpa [State.setFrames] using this
  have hfs : handOver (T.setFrames (.native { method := mk, args := #[.double a, .double b] } :: .java g :: fr)) (some (.double r)) (.java g :: fr) = some (.java { g with pc := g.pc + len, stack := .double r :: g.stack } :: fr) := by
    simp [handOver, hcode, hdg, Except.toOption]
  have hstep2 : (stepThread p.tables e (T.setFrames (.java (entryFrame mk #[.double a, .double b] 4) :: .java g :: fr))).1 = T.setTop { g with pc := g.pc + len, stack := .double r :: g.stack } := by
    unfold stepThread
    simp only [hf1, hov]
    simp [entryFrame, argsToLocals, Value.category, argCount, hk, hx, hb2, hb3, hparams, htake, hr2, afterNative]
    rw [doReturn_native (f := { method := mk, args := #[.double a, .double b] }) (below := .java g :: fr) (State.frames_setFrames _ hcur) rfl hfs, State.setFrames_setFrames, ← State.setTop_of_frames _ hr]
  refine Steps.head ⟨X.running, by simpa using X.runnable, by simpa using X.alone⟩ ⟨.java (entryFrame mk #[.double a, .double b] 4) :: .java g :: mid, by rw [hf1]; rw [hr] at hmid; simp at hmid; simp [hmid], by simp, by simp⟩ ?_
  rw [hstep2]
  exact hrest
section
variable {p : Program} {l : Launch} {e : Env} {R : Room} {s : State} {m : MethodId} {args : Array Value} {below : List Frame} {meth : Method} {c : Code} {H : Heap} {locs : List Loc} {cells slots : Nat} {Q : State → Prop} {pc : Nat} {ls : Array Slot} {rest : List Value} {cc : ByteArray}
theorem tm_mathWDD {nm : String} {mcode : ByteArray} {row : NativeRow} {a b r : UInt64} (hexec : p.tables.exec = Jvm.exec) (hb : c.code = cc) (hml : c.maxLocals = ls.size) {own : String} {index : Nat} (hown : s.vm.findClass own = some m.cls) (hlink : (Cond.methodLink own index ⟨"java/lang/Math", nm, "(DD)D"⟩).before args s = true) (hstat : (Cond.static ⟨"java/lang/Math", nm, "(DD)D"⟩).before args s = true) (hini : (Cond.initialized "java/lang/Math").before args s = true) (hcode : (Cond.code ⟨"java/lang/Math", nm, "(DD)D"⟩ mcode 4 (some .double)).before args s = true)
    (hframes : 1 ≤ R.frames) (hlocals : (rest.map fun v => v.category).sum + 15 ≤ R.locals) (hc : cells ≤ R.cells) (hs : slots ≤ R.slots)
    (hrow : ∀ p : Program, NativeRow.find? p.tables.natives "java/lang/Math" nm "(DD)D" = some row) (hrun : ∀ (e : Env) (S : State), ∃ acts, (row.sem #[.double a, .double b]).run e S = .ok (some (.double r)) S acts)
    (hdg : decode cc pc = .ok (.invokestatic index, 3)) (k : W p l e R s m args below meth c H locs cells slots Q (F0 m (pc + 3) ls (.double r :: rest))) : W p l e R s m args below meth c H locs cells slots Q (F0 m pc ls (.double b :: .double a :: rest)) := by
  intro T hT X
  obtain ⟨mk, hnS⟩ := Cond.code_named hcode
  obtain ⟨methM, cM, hmS, hcM, -, hlM, -, hkM, -, hsigM⟩ := Cond.code_spec hnS hcode
  have hstS : methM.isStatic = true := Cond.static_spec hnS hmS hstat
  obtain ⟨kS, hkS, -⟩ := className_of_methodNamed hnS
  have hinitS : kS.init = .initialized := Cond.initialized_spec (findClass_of_methodNamed hnS) hkS hini
  have hsig2 : parseMethodDescriptor "(DD)D" = some { parameters := [.double, .double], returnType := some .double } := by decide +kernel
  obtain ⟨vm', X', step⟩ := X.invokestatic hexec hown hlink hnS hmS hstS hkS hinitS (show "java/lang/Math" ≠ "java/lang/invoke/MethodHandle" ∧ "java/lang/Math" ≠ "java/lang/invoke/VarHandle" by decide +kernel) (g := F0 m pc ls (.double b :: .double a :: rest)) rfl (argsL := [.double a, .double b]) (rest := rest) (by rw [← Option.some.inj (hsig2.symm.trans hsigM)]; rfl) rfl (by rw [hb]; exact hdg)
  obtain ⟨t, a1, b1⟩ := k (T.setVm vm') hT X'
  refine ⟨t, step t fun acts => ?_, b1⟩
  have hW' : s.WarmedH vm' := X'.warmed
  have hal := hW'.alike
  have hn' : (T.setVm vm').methodNamed? ⟨"java/lang/Math", nm, "(DD)D"⟩ = some mk := by
    have q : (s.setVm vm').methodNamed? ⟨"java/lang/Math", nm, "(DD)D"⟩ = some mk := by rw [State.methodNamed?_setVm hal]; exact hnS
    exact q
  have hm' : (T.setVm vm').vm.method? mk = some methM := by
    show vm'.method? mk = _
    rw [hal.method?]; exact hmS
  obtain ⟨k', hk', hkn'⟩ := className_of_methodNamed hn'
  obtain ⟨hmn, hmd⟩ := name_of_methodNamed hn' hm'
  have hx' : k'.methods[mk.idx]? = some methM := by
    have h9 := hm'
    rw [Vm.method?, hk'] at h9
    simpa using h9
  have hboot' : k'.loader = none := Vm.bootOf_findClass (findClass_of_methodNamed hn') hk'
  exact tm_natDD p (g := F0 m pc ls rest) X'.here acts hk' hx' hboot' hkn' hmn hmd hsigM hcM hlM hkM
    (X'.room_calling (g := F0 m pc ls rest) hml.symm hm' hcM (R' := {}) (by show 0 + 1 ≤ R.frames; omega) (by rw [hlM]; show 2 * 0 + (rest.map fun v => v.category).sum + (4 + 11) + 0 ≤ R.locals; omega) (by show cells + 0 ≤ R.cells; omega) (by show slots + 0 ≤ R.slots; omega))
    (hrow p) hrun (by rw [hb]; exact hdg) a1
end
theorem tm_natFF (p : Program) {e : Env} {below : List Frame} {T target : State} {g : JFrame} {c : Code} (X : At T g.method c below) {mk : MethodId} {meth : Method} {k : Class} {cm : Code} {a b r : UInt32} {row : NativeRow} {nm : String} (acts : List Action)
    (hk : T.vm.classes[mk.cls]? = some k) (hx : k.methods[mk.idx]? = some meth) (hboot : k.loader = none) (hkn : k.name = "java/lang/Math") (hmn : meth.name = nm) (hmd : meth.desc = "(FF)F") (hsig : parseMethodDescriptor "(FF)F" = some meth.sig)
    (hc : meth.code = some cm) (hml : cm.maxLocals = 2) (hl : meth.locks = false) (hroom : (T.calling g mk #[.float a, .float b]).hasRoom e.platform {} = true)
    (hrow : NativeRow.find? p.tables.natives "java/lang/Math" nm "(FF)F" = some row) (hrun : ∀ (e : Env) (S : State), ∃ acts, (row.sem #[.float a, .float b]).run e S = .ok (some (.float r)) S acts)
    {ig : Instr} {len : Nat} (hdg : decode c.code g.pc = .ok (ig, len)) (hrest : Steps p.tables e below (T.setTop { g with pc := g.pc + len, stack := .float r :: g.stack }) target) :
    Steps p.tables e below (doInvoke e (T.setTop g) acts mk #[.float a, .float b]).1 target := by
  obtain ⟨g₀, hg⟩ := Option.isSome_iff_exists.mp X.top
  obtain ⟨fr, hr⟩ := State.topJava?_eq_some.mp hg
  obtain ⟨mid, hmid⟩ := X.above
  have hcur : T.cur < T.threads.size := State.cur_lt_of_frames hr
  have hm : T.vm.method? mk = some meth := by simp [Vm.method?, hk, hx]
  have htop : T.setTop g = T.setFrames (.java g :: fr) := State.setTop_of_frames _ hr
  have htail : T.frames.tail = fr := by rw [hr]; rfl
  have hfull : e.platform.stackFull (T.setTop g).me (T.setTop g).frames cm.maxLocals = false := by
    have hfc := State.frames_calling X.top g mk #[.float a, .float b]
    obtain ⟨-, r2, -, r4⟩ := State.hasRoom_stack hroom
    rw [State.localsInUse_invoking hfc (meth := meth) (c := cm) hm hc] at r4
    rw [hfc, htail] at r2
    rw [htail] at r4
    have hw := stackUse_le_stackWeight (.java g :: fr)
    rw [State.calling_eq X.top, State.stackLimits_setFrames] at r2 r4
    rw [htop, State.frames_setFrames _ hcur]
    refine Platform.stackFull_eq_false (by rw [State.stackLimits_setFrames]; simp only [List.length_cons] at r2 ⊢; have : ({} : Room).frames = 0 := rfl; omega) (by rw [State.stackLimits_setFrames]; have : ({} : Room).locals = 0 := rfl; omega)
  rw [(doInvoke_java (s := T.setTop g) (e := e) (acts := acts) (args := #[.float a, .float b]) (meth := meth) (code := cm) hm hc hl hfull).1, hml]
  have hU : (T.setTop g).pushFrame (.java { method := mk, pc := 0, locals := argsToLocals #[.float a, .float b] 2, stack := [], locked := none }) = T.setFrames (.java (entryFrame mk #[.float a, .float b] 2) :: .java g :: fr) := by
    rw [State.pushFrame, State.frames_setTop _ hr, htop, State.setFrames_setFrames]
    rfl
  rw [hU]
  have hf1 : (T.setFrames (.java (entryFrame mk #[.float a, .float b] 2) :: .java g :: fr)).frames = .java (entryFrame mk #[.float a, .float b] 2) :: .java g :: fr := State.frames_setFrames _ hcur
  have hov : overridden p.tables e (T.setFrames (.java (entryFrame mk #[.float a, .float b] 2) :: .java g :: fr)) (entryFrame mk #[.float a, .float b] 2) = some row :=
    tm_ov (k := k) (x := meth) rfl hk (by rw [hkn]; decide) hboot hx (by rw [hkn, hmn, hmd]; exact hrow)
  have hb2 : ∀ F : List Frame, ((T.setFrames F).vm.classes[mk.cls]?.bind fun y => y.methods[mk.idx]?) = some meth := by
    intro F
    show (T.vm.classes[mk.cls]?.bind fun y => y.methods[mk.idx]?) = some meth
    simp [hk, hx]
  have hsig2 : parseMethodDescriptor "(FF)F" = some { parameters := [.float, .float], returnType := some .float } := by decide +kernel
  have hparams : meth.sig.parameters.length = 2 := by
    have h3 := hsig
    rw [hsig2] at h3
    rw [← Option.some.inj h3]
    rfl
  have htake : ∀ n : Nat, List.take (2 + n) [Value.float a, Value.float b] = [Value.float a, Value.float b] := fun n => List.take_of_length_le (Nat.le_add_right 2 n)
  have hb3 : (T.vm.classes[mk.cls]?.bind fun y => y.methods[mk.idx]?) = some meth := hb2 []
  obtain ⟨acts₂, hr2⟩ := hrun e (T.setFrames (.native { method := mk, args := #[.float a, .float b] } :: .java g :: fr))
  have hcode : ∀ F : List Frame, (T.setFrames F).code? g.method = some c := by
    intro F
    have := X.code
    rw [State.code?_eq] at this ⊢
    simpa [State.setFrames] using this
  have hfs : handOver (T.setFrames (.native { method := mk, args := #[.float a, .float b] } :: .java g :: fr)) (some (.float r)) (.java g :: fr) = some (.java { g with pc := g.pc + len, stack := .float r :: g.stack } :: fr) := by
    simp [handOver, hcode, hdg, Except.toOption]
  have hstep2 : (stepThread p.tables e (T.setFrames (.java (entryFrame mk #[.float a, .float b] 2) :: .java g :: fr))).1 = T.setTop { g with pc := g.pc + len, stack := .float r :: g.stack } := by
    unfold stepThread
    simp only [hf1, hov]
    simp [entryFrame, argsToLocals, Value.category, argCount, hk, hx, hb2, hb3, hparams, htake, hr2, afterNative]
    rw [doReturn_native (f := { method := mk, args := #[.float a, .float b] }) (below := .java g :: fr) (State.frames_setFrames _ hcur) rfl hfs, State.setFrames_setFrames, ← State.setTop_of_frames _ hr]
  refine Steps.head ⟨X.running, by simpa using X.runnable, by simpa using X.alone⟩ ⟨.java (entryFrame mk #[.float a, .float b] 2) :: .java g :: mid, by rw [hf1]; rw [hr] at hmid; simp at hmid; simp [hmid], by simp, by simp⟩ ?_
  rw [hstep2]
  exact hrest
section
variable {p : Program} {l : Launch} {e : Env} {R : Room} {s : State} {m : MethodId} {args : Array Value} {below : List Frame} {meth : Method} {c : Code} {H : Heap} {locs : List Loc} {cells slots : Nat} {Q : State → Prop} {pc : Nat} {ls : Array Slot} {rest : List Value} {cc : ByteArray}
theorem tm_mathWFF {nm : String} {mcode : ByteArray} {row : NativeRow} {a b r : UInt32} (hexec : p.tables.exec = Jvm.exec) (hb : c.code = cc) (hml : c.maxLocals = ls.size) {own : String} {index : Nat} (hown : s.vm.findClass own = some m.cls) (hlink : (Cond.methodLink own index ⟨"java/lang/Math", nm, "(FF)F"⟩).before args s = true) (hstat : (Cond.static ⟨"java/lang/Math", nm, "(FF)F"⟩).before args s = true) (hini : (Cond.initialized "java/lang/Math").before args s = true) (hcode : (Cond.code ⟨"java/lang/Math", nm, "(FF)F"⟩ mcode 2 (some .float)).before args s = true)
    (hframes : 1 ≤ R.frames) (hlocals : (rest.map fun v => v.category).sum + 13 ≤ R.locals) (hc : cells ≤ R.cells) (hs : slots ≤ R.slots)
    (hrow : ∀ p : Program, NativeRow.find? p.tables.natives "java/lang/Math" nm "(FF)F" = some row) (hrun : ∀ (e : Env) (S : State), ∃ acts, (row.sem #[.float a, .float b]).run e S = .ok (some (.float r)) S acts)
    (hdg : decode cc pc = .ok (.invokestatic index, 3)) (k : W p l e R s m args below meth c H locs cells slots Q (F0 m (pc + 3) ls (.float r :: rest))) : W p l e R s m args below meth c H locs cells slots Q (F0 m pc ls (.float b :: .float a :: rest)) := by
  intro T hT X
  obtain ⟨mk, hnS⟩ := Cond.code_named hcode
  obtain ⟨methM, cM, hmS, hcM, -, hlM, -, hkM, -, hsigM⟩ := Cond.code_spec hnS hcode
  have hstS : methM.isStatic = true := Cond.static_spec hnS hmS hstat
  obtain ⟨kS, hkS, -⟩ := className_of_methodNamed hnS
  have hinitS : kS.init = .initialized := Cond.initialized_spec (findClass_of_methodNamed hnS) hkS hini
  have hsig2 : parseMethodDescriptor "(FF)F" = some { parameters := [.float, .float], returnType := some .float } := by decide +kernel
  obtain ⟨vm', X', step⟩ := X.invokestatic hexec hown hlink hnS hmS hstS hkS hinitS (show "java/lang/Math" ≠ "java/lang/invoke/MethodHandle" ∧ "java/lang/Math" ≠ "java/lang/invoke/VarHandle" by decide +kernel) (g := F0 m pc ls (.float b :: .float a :: rest)) rfl (argsL := [.float a, .float b]) (rest := rest) (by rw [← Option.some.inj (hsig2.symm.trans hsigM)]; rfl) rfl (by rw [hb]; exact hdg)
  obtain ⟨t, a1, b1⟩ := k (T.setVm vm') hT X'
  refine ⟨t, step t fun acts => ?_, b1⟩
  have hW' : s.WarmedH vm' := X'.warmed
  have hal := hW'.alike
  have hn' : (T.setVm vm').methodNamed? ⟨"java/lang/Math", nm, "(FF)F"⟩ = some mk := by
    have q : (s.setVm vm').methodNamed? ⟨"java/lang/Math", nm, "(FF)F"⟩ = some mk := by rw [State.methodNamed?_setVm hal]; exact hnS
    exact q
  have hm' : (T.setVm vm').vm.method? mk = some methM := by
    show vm'.method? mk = _
    rw [hal.method?]; exact hmS
  obtain ⟨k', hk', hkn'⟩ := className_of_methodNamed hn'
  obtain ⟨hmn, hmd⟩ := name_of_methodNamed hn' hm'
  have hx' : k'.methods[mk.idx]? = some methM := by
    have h9 := hm'
    rw [Vm.method?, hk'] at h9
    simpa using h9
  have hboot' : k'.loader = none := Vm.bootOf_findClass (findClass_of_methodNamed hn') hk'
  exact tm_natFF p (g := F0 m pc ls rest) X'.here acts hk' hx' hboot' hkn' hmn hmd hsigM hcM hlM hkM
    (X'.room_calling (g := F0 m pc ls rest) hml.symm hm' hcM (R' := {}) (by show 0 + 1 ≤ R.frames; omega) (by rw [hlM]; show 2 * 0 + (rest.map fun v => v.category).sum + (2 + 11) + 0 ≤ R.locals; omega) (by show cells + 0 ≤ R.cells; omega) (by show slots + 0 ≤ R.slots; omega))
    (hrow p) hrun (by rw [hb]; exact hdg) a1
end
/-! a world's rows in another order -/
theorem tm_permD {A : Nat → Prop} {ws ws' : va_W} (hp : ws.Perm ws') (h : va_D A ws) : va_D A ws' := by
  have hn : (ws.map (·.1)).Nodup := by
    rw [List.Nodup, List.pairwise_iff_getElem]
    intro i j hi hj hij he
    simp only [List.length_map] at hi hj
    simp only [List.getElem_map] at he
    exact absurd (h.1 i j _ _ (List.getElem?_eq_getElem hi) (List.getElem?_eq_getElem hj) he) (Nat.ne_of_lt hij)
  have hn' : (ws'.map (·.1)).Nodup := (hp.map (·.1)).nodup_iff.mp hn
  rw [List.Nodup, List.pairwise_iff_getElem] at hn'
  refine ⟨fun i j p q hi hj he => ?_, fun k q hq => ?_⟩
  · obtain ⟨hi1, hi2⟩ := List.getElem?_eq_some_iff.mp hi
    obtain ⟨hj1, hj2⟩ := List.getElem?_eq_some_iff.mp hj
    rcases Nat.lt_trichotomy i j with g | g | g
    · exact absurd (by rw [List.getElem_map, List.getElem_map, hi2, hj2, he]) (hn' i j (by simpa using hi1) (by simpa using hj1) g)
    · exact g
    · exact absurd (by rw [List.getElem_map, List.getElem_map, hi2, hj2, he]) (hn' j i (by simpa using hj1) (by simpa using hi1) g)
  · have hm := hp.symm.mem_iff.mp (List.mem_of_getElem? hq)
    obtain ⟨k', hk'⟩ := List.getElem?_of_mem hm
    exact h.2 k' q hk'
theorem tm_permP {D : va_G} {cl : List vw_C} {ws ws' : va_W} {H : Heap} (hp : ws.Perm ws') (h : va_P D cl ws H) : va_P D cl ws' H := by
  intro k q hq
  have hm := hp.symm.mem_iff.mp (List.mem_of_getElem? hq)
  obtain ⟨k', hk'⟩ := List.getElem?_of_mem hm
  exact h k' q hk'
theorem tm_swap {X L Y : va_W} : ((X ++ L) ++ Y).Perm ((X ++ Y) ++ L) := by
  rw [List.append_assoc, List.append_assoc]
  exact List.Perm.append_left X List.perm_append_comm
theorem tm_swapD {A : Nat → Prop} {X L Y : va_W} (h : va_D A ((X ++ L) ++ Y)) : va_D A ((X ++ Y) ++ L) := tm_permD tm_swap h
theorem tm_swapP {D : va_G} {cl : List vw_C} {X L Y : va_W} {H : Heap} (h : va_P D cl ((X ++ L) ++ Y) H) : va_P D cl ((X ++ Y) ++ L) H := tm_permP tm_swap h
