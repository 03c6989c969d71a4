/-! Math.ceil: the machine runs it by an entry of its own, which calls StrictMath.ceil and takes its answer back -/
def tm_row_ceil : NativeRow := (NativeRow.find? Native.java_lang_Math.nans.rows "java/lang/Math" "ceil" "(D)D").get (by decide +kernel)
set_option maxRecDepth 100000 in
theorem tm_row_ceil_at (p : Program) : NativeRow.find? p.tables.natives "java/lang/Math" "ceil" "(D)D" = some tm_row_ceil := by
  cases p <;> rfl
theorem tm_row_ceil_run {x : UInt64} {cS : ClassId} {kS : Class} {i : Nat} (e : Env) (S : State) (hf : S.vm.findClass "java/lang/StrictMath" = some cS) (hk : S.vm.classes[cS]? = some kS) (hi : kS.init = .initialized) (hm : kS.findMethod "ceil" "(D)D" = some i) :
    ∃ acts, (tm_row_ceil.sem #[.double x]).run e S = .ctl (.call ⟨cS, i⟩ #[.double x] 1 #[]) S acts := by
  have hsem : tm_row_ceil.sem #[.double x] = (do
      let c ← classNamed "java/lang/StrictMath"
      ensureInit c
      let some i := (← theClass c).findMethod "ceil" "(D)D" | modelBug ("StrictMath lacks " ++ "ceil")
      callThen ⟨c, i⟩ #[.double x] 1 #[]) := rfl
  have hw : wpRun (tm_row_ceil.sem #[.double x]) (fun _ _ _ => False) (fun c s₂ _ => c = .call ⟨cS, i⟩ #[.double x] 1 #[] ∧ s₂ = S) e S := by
    rw [hsem]
    simp [jvm, wpRun, Jvm.W.classNamed_ready hf, Jvm.W.ensureInit_ready ⟨kS, hk, hi⟩, theClass, callThen, hk, hm]
    all_goals first | exact ⟨rfl, rfl, rfl, rfl⟩ | exact ⟨rfl, rfl⟩ | rfl
  have hw' := (wpRun_iff_run _ _ _ _ _).mp hw
  cases hr : (tm_row_ceil.sem #[.double x]).run e S with
  | ok v s₂ acts₂ => rw [hr] at hw'; exact hw'.elim
  | ctl z s₂ acts₂ =>
    rw [hr] at hw'
    have h2 : z = .call ⟨cS, i⟩ #[.double x] 1 #[] ∧ s₂ = S := by cases z <;> first | exact hw' | exact hw'.elim
    rw [h2.1, h2.2]
    exact ⟨_, rfl⟩
theorem tm_row_ceil_back {r : UInt64} (hn : r &&& 0x7fffffffffffffff ≤ 0x7ff0000000000000) (e : Env) (S : State) :
    ∃ acts, (tm_row_ceil.resume 1 #[] (.returned (some (.double r)))).run e S = .ok (some (.double r)) S acts := by
  have hsem : tm_row_ceil.resume 1 #[] (.returned (some (.double r))) = (do
      let r ← anyNaN64 r
      mark "nat.java_lang_Math.ceil"
      Pure.pure (some (Value.double r))) := rfl
  have hw : wpRun (tm_row_ceil.resume 1 #[] (.returned (some (.double r)))) (fun v s₂ _ => v = some (.double r) ∧ s₂ = S) (fun _ _ _ => False) e S := by
    rw [hsem]
    simp [jvm, wpRun, anyNaN64, hn]
  have hw' := (wpRun_iff_run _ _ _ _ _).mp hw
  cases hr : (tm_row_ceil.resume 1 #[] (.returned (some (.double r)))).run e S with
  | ok v s₂ acts₂ => rw [hr] at hw'; obtain ⟨rfl, rfl⟩ := hw'; exact ⟨_, rfl⟩
  | ctl z s₂ acts₂ => rw [hr] at hw'; cases z <;> exact hw'.elim
/-- the entry's frame while StrictMath.ceil runs -/
abbrev tm_cn (mk : MethodId) (x : UInt64) : NFrame := { method := mk, args := #[.double x], stage := 1, saved := #[], awaiting := true, answer := none, words := 0 }
/-- and when it has the answer -/
abbrev tm_cm (mk : MethodId) (x r : UInt64) : NFrame := { method := mk, args := #[.double x], stage := 1, saved := #[], awaiting := false, answer := some (.returned (some (.double r))), words := 0 }
def tm_cst (T : State) (g : JFrame) (mk mS : MethodId) (x : UInt64) : State := T.setFrames (.invoking mS #[.double x] :: .native (tm_cn mk x) :: .java g :: T.frames.tail)
theorem tm_room_native {s : State} {pl : Platform} {m : MethodId} {a : Array Value} {nf : NFrame} {g : JFrame} {fr : List Frame} {F L C Sl : Nat} (hcur : s.cur < s.threads.size) (hw : nf.words = 0)
    (h : (s.setFrames (.invoking m a :: .java g :: fr)).hasRoom pl { frames := F + 1, locals := L + 1024, cells := C, slots := Sl } = true) :
    (s.setFrames (.invoking m a :: .native nf :: .java g :: fr)).hasRoom pl { frames := F, locals := L, cells := C, slots := Sl } = true := by
  have hwt : Frame.weight (.native nf) = 1024 := by show max nf.words vmFrameWords = 1024; rw [hw]; rfl
  have hvm : ∀ G : List Frame, (s.setFrames G).vm = s.vm := fun _ => rfl
  simp only [State.hasRoom, Bool.and_eq_true, decide_eq_true_eq, State.frames_setFrames _ hcur, State.stackLimits_setFrames, State.stackBytes_setFrames, State.localsInUse, stackWeight, List.map_cons, List.sum_cons, List.length_cons, hwt, hvm] at h ⊢
  obtain ⟨⟨⟨⟨a0, a1, a2, a3, a4, a5⟩, b1⟩, c1⟩, d1⟩ := h
  exact ⟨⟨⟨⟨by omega, by omega, by omega, by omega, by omega, a5⟩, b1⟩, c1⟩, d1⟩
theorem tm_natBack {tb : Tables} {e : Env} {s : State} {f : NFrame} {fr : List Frame} {k : Class} {x : Method} {row : NativeRow} {o : Outcome}
    (hf : s.frames = .native f :: fr) (hk : s.vm.classes[f.method.cls]? = some k) (hboot : k.loader = none) (hx : k.methods[f.method.idx]? = some x)
    (hrow : NativeRow.find? tb.natives k.name x.name x.desc = some row) (ha : f.answer = some o) :
    stepThread tb e s = afterNative e f fr ((row.resume f.stage f.saved o).run e s) := by
  unfold stepThread
  simp [hf, hk, hx, hrow, ha, hboot]
theorem tm_natCeil (p : Program) {l : Launch} {e : Env} (hadm : l.admits e) (hcas : FairCas e.choices) (hclk : FairClock e.choices) {below : List Frame} {T : State} {g : JFrame} {c : Code} (X : At T g.method c below)
    {mk mS : MethodId} {meth : Method} {k kS : Class} {cm : Code} {x : UInt64} (acts : List Action) {yS : MethodName} {wS : List Cond} {rm : Room} {Pc : Array Value → State → Prop} {Qc : Array Value → State → Outcome → State → Prop} {free : Addr → Prop}
    (hM : Met l yS wS rm Pc Qc 0 0 free) (hk : T.vm.classes[mk.cls]? = some k) (hx : k.methods[mk.idx]? = some meth) (hboot : k.loader = none) (hkn : k.name = "java/lang/Math") (hmn : meth.name = "ceil") (hmd : meth.desc = "(D)D") (hsig : parseMethodDescriptor "(D)D" = some meth.sig)
    (hc : meth.code = some cm) (hml : cm.maxLocals = 2) (hl : meth.locks = false) (hroom : (T.calling g mk #[.double x]).hasRoom e.platform {} = true)
    (hfS : T.vm.findClass "java/lang/StrictMath" = some mS.cls) (hkS : T.vm.classes[mS.cls]? = some kS) (hiS : kS.init = .initialized) (hmS : kS.findMethod "ceil" "(D)D" = some mS.idx)
    (happ : (headSpec wS rm).appliesLoose yS e.platform (tm_cst T g mk mS x) = true) (hP : Pc #[.double x] (tm_cst T g mk mS x))
    (hq : ∀ st o t, Qc #[.double x] st o t → ∃ r : UInt64, o = .returned (some (.double r)) ∧ r &&& 0x7fffffffffffffff ≤ 0x7ff0000000000000)
    {ig : Instr} {len : Nat} (hdg : decode c.code g.pc = .ok (ig, len)) :
    ∃ (r : UInt64) (t : State) (L : List Loc), FrameEnd (tm_cst T g mk mS x) (.returned (some (.double r))) t L 0 0 ∧ (∀ q ∈ L, free q.base) ∧ Qc #[.double x] (tm_cst T g mk mS x) (.returned (some (.double r))) t ∧
      Steps p.tables e below (doInvoke e (T.setTop g) acts mk #[.double x]).1 (t.setFrames (.java { g with pc := g.pc + len, stack := .double r :: g.stack } :: T.frames.tail)) := by
  obtain ⟨cS, iS⟩ := mS
  have hfS : T.vm.findClass "java/lang/StrictMath" = some cS := hfS
  have hkS : T.vm.classes[cS]? = some kS := hkS
  have hmS : kS.findMethod "ceil" "(D)D" = some iS := hmS
  obtain ⟨g₀, hg⟩ := Option.isSome_iff_exists.mp X.top
  obtain ⟨fr, hr⟩ := State.topJava?_eq_some.mp hg
  obtain ⟨mid, hmid⟩ := X.above
  have hcur : T.cur < T.threads.size := State.cur_lt_of_frames hr
  have hm : T.vm.method? mk = some meth := by simp [Vm.method?, hk, hx]
  have htop : T.setTop g = T.setFrames (.java g :: fr) := State.setTop_of_frames _ hr
  have htail : T.frames.tail = fr := by rw [hr]; rfl
  have hfull : e.platform.stackFull (T.setTop g).me (T.setTop g).frames cm.maxLocals = false := by
    have hfc := State.frames_calling X.top g mk #[.double x]
    obtain ⟨-, r2, -, r4⟩ := State.hasRoom_stack hroom
    rw [State.localsInUse_invoking hfc (meth := meth) (c := cm) hm hc] at r4
    rw [hfc, htail] at r2
    rw [htail] at r4
    have hw := stackUse_le_stackWeight (.java g :: fr)
    rw [State.calling_eq X.top, State.stackLimits_setFrames] at r2 r4
    rw [htop, State.frames_setFrames _ hcur]
    refine Platform.stackFull_eq_false (by rw [State.stackLimits_setFrames]; simp only [List.length_cons] at r2 ⊢; have : ({} : Room).frames = 0 := rfl; omega) (by rw [State.stackLimits_setFrames]; have : ({} : Room).locals = 0 := rfl; omega)
  rw [(doInvoke_java (s := T.setTop g) (e := e) (acts := acts) (args := #[.double x]) (meth := meth) (code := cm) hm hc hl hfull).1, hml]
  have hU : (T.setTop g).pushFrame (.java { method := mk, pc := 0, locals := argsToLocals #[.double x] 2, stack := [], locked := none }) = T.setFrames (.java (entryFrame mk #[.double x] 2) :: .java g :: fr) := by
    rw [State.pushFrame, State.frames_setTop _ hr, htop, State.setFrames_setFrames]
    rfl
  rw [hU]
  have hf1 : (T.setFrames (.java (entryFrame mk #[.double x] 2) :: .java g :: fr)).frames = .java (entryFrame mk #[.double x] 2) :: .java g :: fr := State.frames_setFrames _ hcur
  have hov : overridden p.tables e (T.setFrames (.java (entryFrame mk #[.double x] 2) :: .java g :: fr)) (entryFrame mk #[.double x] 2) = some tm_row_ceil :=
    tm_ov (k := k) (x := meth) rfl hk (by rw [hkn]; decide) hboot hx (by rw [hkn, hmn, hmd]; exact tm_row_ceil_at p)
  have hb2 : ∀ F : List Frame, ((T.setFrames F).vm.classes[mk.cls]?.bind fun y => y.methods[mk.idx]?) = some meth := by
    intro F
    show (T.vm.classes[mk.cls]?.bind fun y => y.methods[mk.idx]?) = some meth
    simp [hk, hx]
  have hsig2 : parseMethodDescriptor "(D)D" = some { parameters := [.double], returnType := some .double } := by decide +kernel
  have hparams : meth.sig.parameters.length = 1 := by
    have h3 := hsig
    rw [hsig2] at h3
    rw [← Option.some.inj h3]
    rfl
  have htake : ∀ n : Nat, List.take (1 + n) [Value.double x] = [Value.double x] := fun n => List.take_of_length_le (Nat.le_add_right 1 n)
  have hb3 : (T.vm.classes[mk.cls]?.bind fun y => y.methods[mk.idx]?) = some meth := hb2 []
  have hup : ∀ F : List Frame, (((T.setFrames F).vm.classes[mk.cls]?).bind fun k => (k.methods[mk.idx]?).map fun n => upcallWords k.name n.name).getD 0 = 0 := by
    intro F
    show ((T.vm.classes[mk.cls]?).bind fun k => (k.methods[mk.idx]?).map fun n => upcallWords k.name n.name).getD 0 = 0
    simp [hk, hx, hkn, hmn, upcallWords]
  have hup2 : ((T.vm.classes[mk.cls]?).bind fun k => Option.map (fun n => upcallWords k.name n.name) k.methods[mk.idx]?).getD 0 = 0 := hup []
  have hupw : upcallWords k.name meth.name = 0 := by rw [hkn, hmn]; decide
  obtain ⟨acts₂, hr2⟩ := tm_row_ceil_run (x := x) e (T.setFrames (.native { method := mk, args := #[.double x] } :: .java g :: fr)) (cS := cS) (kS := kS) (i := iS) hfS hkS hiS hmS
  have hstep2 : (stepThread p.tables e (T.setFrames (.java (entryFrame mk #[.double x] 2) :: .java g :: fr))).1 = (doInvoke e (T.setFrames (.native (tm_cn mk x) :: .java g :: fr)) acts₂ (⟨cS, iS⟩ : MethodId) #[.double x]).1 := by
    unfold stepThread
    simp only [hf1, hov]
    simp [entryFrame, argsToLocals, Value.category, argCount, hk, hx, hb2, hb3, hparams, htake, hr2, afterNative, hup, hup2, State.setFrames_setFrames, tm_cn, hupw]
  have hpush : (T.setFrames (.native (tm_cn mk x) :: .java g :: fr)).pushFrame (.invoking (⟨cS, iS⟩ : MethodId) #[.double x]) = tm_cst T g mk (⟨cS, iS⟩ : MethodId) x := by
    rw [State.pushFrame, State.frames_setFrames _ hcur, State.setFrames_setFrames, tm_cst, htail]
  have hfN : (T.setFrames (.native (tm_cn mk x) :: .java g :: fr)).frames = (.native (tm_cn mk x) :: .java g :: mid) ++ below := by
    rw [State.frames_setFrames _ hcur]
    rw [htail] at hmid
    rw [hmid]
    rfl
  obtain ⟨o, t, hsteps, hrun2, hend, hQ, L, hfe, hL⟩ := Steps.callFree hM p hadm hcas hclk (s := T.setFrames (.native (tm_cn mk x) :: .java g :: fr)) (m := (⟨cS, iS⟩ : MethodId)) (args := #[.double x]) (acts := acts₂) hfN (by rw [hpush]; exact happ) (by rw [hpush]; exact hP) trivial
  rw [hpush] at hQ hfe
  obtain ⟨r, ho, hn⟩ := hq _ _ _ hQ
  subst ho
  rw [State.frames_setFrames _ hcur] at hend
  have hend2 : t.frames = .native (tm_cm mk x r) :: .java g :: fr := hend
  refine ⟨r, t, L, hfe, hL, hQ, ?_⟩
  have hmid' : fr = mid ++ below := by rw [← htail]; exact hmid
  refine Steps.head ⟨X.running, by simpa using X.runnable, by simpa using X.alone⟩ ⟨.java (entryFrame mk #[.double x] 2) :: .java g :: mid, by rw [hf1, hmid']; rfl, by simp, by simp⟩ ?_
  rw [hstep2]
  refine hsteps.trans ?_
  obtain ⟨-, hW₂, e2, -⟩ := id hfe
  have hal : T.vm.Alike t.vm := hW₂.alike
  obtain ⟨k', hk', ek⟩ := hal.2.2 _ _ hk
  have hboot' : k'.loader = none := by rw [ek]; exact hboot
  have hx' : k'.methods[mk.idx]? = some meth := by rw [ek]; exact hx
  have hkn' : k'.name = "java/lang/Math" := by rw [ek]; exact hkn
  obtain ⟨acts₃, hr3⟩ := tm_row_ceil_back hn e t
  have hcode2 : t.code? g.method = some c := by
    have h1 : t.code? g.method = T.code? g.method := by rw [State.code?_eq, State.code?_eq, hal.method?]
    rw [h1]; exact X.code
  have hfs : handOver t (some (.double r)) (.java g :: fr) = some (.java { g with pc := g.pc + len, stack := .double r :: g.stack } :: fr) := by
    simp [handOver, hcode2, hdg, Except.toOption]
  have hstep4 : (stepThread p.tables e t).1 = t.setFrames (.java { g with pc := g.pc + len, stack := .double r :: g.stack } :: fr) := by
    rw [tm_natBack (f := tm_cm mk x r) (o := .returned (some (.double r))) hend2 hk' hboot' hx' (by rw [hkn', hmn, hmd]; exact tm_row_ceil_at p) rfl]
    show (afterNative e _ _ ((tm_row_ceil.resume 1 #[] (.returned (some (.double r)))).run e t)).1 = _
    rw [hr3]
    exact doReturn_native (f := tm_cm mk x r) hend2 rfl hfs
  have hcs : t.curStatus? = some .runnable := by
    have h1 : t.curStatus? = ({ t with vm := (tm_cst T g mk (⟨cS, iS⟩ : MethodId) x).vm } : State).curStatus? := rfl
    rw [h1, e2]
    show ((tm_cst T g mk (⟨cS, iS⟩ : MethodId) x).setFrames _).curStatus? = _
    simpa [tm_cst] using X.runnable
  have hal2 : t.alone = true := by
    have h1 : t.alone = ({ t with vm := (tm_cst T g mk (⟨cS, iS⟩ : MethodId) x).vm } : State).alone := rfl
    rw [h1, e2]
    show ((tm_cst T g mk (⟨cS, iS⟩ : MethodId) x).setFrames _).alone = _
    simpa [tm_cst] using X.alone
  refine Steps.head ⟨hrun2, hcs, hal2⟩ ⟨.native (tm_cm mk x r) :: .java g :: mid, by rw [hend2, hmid']; rfl, by simp, by simp⟩ ?_
  rw [hstep4, htail]
  exact Steps.refl _
section
variable {p : Program} {l : Launch} {e : Env} {R : Room} {s : State} {m : MethodId} {args : Array Value} {below : List Frame} {meth : Method} {c : Code} {H : Heap} {locs : List Loc} {cells slots : Nat} {pc : Nat} {ls : Array Slot} {rest : List Value} {cc : ByteArray}
theorem tm_runCeil {Ts : List Cond} {own : String} {nL index : Nat} {x : UInt64} {Pc : Array Value → State → Prop} {Qc : Array Value → State → Outcome → State → Prop} {free : Addr → Prop}
    (S : CallFix p m c cc nL s args Ts own) (hM : Met l yJxfc994_ceil_294c1 wsJxfc994_ceil_294c1 ({ frames := 3, cells := 0, slots := 0, locals := 81 }) Pc Qc 0 0 free)
    (hT : GoodIn Ts (va_wsS own index yJ9_ceil_294c1 wsJ9_ceil_294c1)) (hR : 5 ≤ R.frames ∧ 1126 ≤ R.locals) (hp : PreS s H Pc [.double x])
    (hq : ∀ st o t, Qc #[.double x] st o t → ∃ r : UInt64, o = .returned (some (.double r)) ∧ r &&& 0x7fffffffffffffff ≤ 0x7ff0000000000000)
    (hsize : ls.size = nL) (hW : (rest.map fun v => v.category).sum ≤ 8) (hdg : decode cc pc = .ok (.invokestatic index, 3)) (hf : cells + 0 ≤ R.cells ∧ slots + 0 ≤ R.slots) :
    va_Run p l e R s m args below meth c H locs cells slots 0 0 (F0 m pc ls (.double x :: rest)) rest (Qc #[.double x]) free := by
  obtain ⟨hexec, hb, hml, hown, hts⟩ := S
  intro T hT0 X
  have ok : ∀ w ∈ va_wsS own index yJ9_ceil_294c1 wsJ9_ceil_294c1, w.before args s = true := fun w h => hts w (hT w h).1
  have okM : ∀ w ∈ wsJ9_ceil_294c1, w.before args s = true := fun w h => ok w (by unfold va_wsS; exact List.mem_append_right _ h)
  have hcodeM : (Cond.code yJ9_ceil_294c1 cJ9_ceil_294c1 2 (some .double)).before args s = true := okM _ (by unfold wsJ9_ceil_294c1; exact List.mem_cons_self)
  have hlink : (Cond.methodLink own index yJ9_ceil_294c1).before args s = true := ok _ (by simp [va_wsS])
  have hstat : (Cond.static yJ9_ceil_294c1).before args s = true := ok _ (by simp [va_wsS])
  have hini : (Cond.initialized yJ9_ceil_294c1.cls).before args s = true := ok _ (by simp [va_wsS])
  have hG2 := gJ9_ceil_294c1_Jxfc994_ceil_294c1
  have payS : ∀ w ∈ wsJxfc994_ceil_294c1, ∀ (a' : Array Value) (U : State), s.WarmedH U.vm → w.before a' U = true := pay_in okM fun w h => hG2 w (by unfold va_wsS; exact List.mem_append_right _ h)
  have hiniS : ∀ (a' : Array Value) (U : State), s.WarmedH U.vm → (Cond.initialized yJxfc994_ceil_294c1.cls).before a' U = true := by
    intro a' U hWU
    refine pay_in okM hG2 _ ?_ a' U hWU
    simp [va_wsS]
  obtain ⟨mk, hnS⟩ := Cond.code_named hcodeM
  obtain ⟨methM, cM, hmM, hcM, -, hlM, -, hkM, -, hsigM⟩ := Cond.code_spec hnS hcodeM
  have hstS : methM.isStatic = true := Cond.static_spec hnS hmM hstat
  obtain ⟨kM, hkM0, -⟩ := className_of_methodNamed hnS
  have hinitM : kM.init = .initialized := Cond.initialized_spec (findClass_of_methodNamed hnS) hkM0 hini
  have hsig2 : parseMethodDescriptor "(D)D" = some { parameters := [.double], returnType := some .double } := by decide +kernel
  obtain ⟨vm', X', step⟩ := X.invokestatic hexec hown hlink hnS hmM hstS hkM0 hinitM (show "java/lang/Math" ≠ "java/lang/invoke/MethodHandle" ∧ "java/lang/Math" ≠ "java/lang/invoke/VarHandle" by decide +kernel) (g := F0 m pc ls (.double x :: rest)) rfl (argsL := [.double x]) (rest := rest) (by rw [← Option.some.inj (hsig2.symm.trans hsigM)]; rfl) rfl (by rw [hb]; exact hdg)
  have hW' : s.WarmedH vm' := X'.warmed
  have hal := hW'.alike
  have hn' : (T.setVm vm').methodNamed? yJ9_ceil_294c1 = some mk := by
    have q : (s.setVm vm').methodNamed? yJ9_ceil_294c1 = some mk := by rw [State.methodNamed?_setVm hal]; exact hnS
    exact q
  have hm' : (T.setVm vm').vm.method? mk = some methM := by
    show vm'.method? mk = _
    rw [hal.method?]; exact hmM
  obtain ⟨k', hk', hkn'⟩ := className_of_methodNamed hn'
  obtain ⟨hmn, hmd⟩ := name_of_methodNamed hn' hm'
  have hx' : k'.methods[mk.idx]? = some methM := by
    have h9 := hm'
    rw [Vm.method?, hk'] at h9
    simpa using h9
  have hboot' : k'.loader = none := Vm.bootOf_findClass (findClass_of_methodNamed hn') hk'
  generalize hU : T.setVm vm' = U at X' hn' hm' hk' step
  have hUv : s.WarmedH U.vm := by rw [← hU]; exact hW'
  have hUh : U.heap = H := by rw [← hU]; exact hT0
  have hCS : (Cond.code yJxfc994_ceil_294c1 cJxfc994_ceil_294c1 2 (some .double)).before #[.double x] U = true := payS _ (by unfold wsJxfc994_ceil_294c1; exact List.mem_cons_self) _ _ hUv
  obtain ⟨mS, hnC⟩ := Cond.code_named hCS
  obtain ⟨methS, cSd, hmethS, hcodeS, -, hlocS, -, -, -, -⟩ := Cond.code_spec hnC hCS
  obtain ⟨kS, hkS, -⟩ := className_of_methodNamed hnC
  have hfS : U.vm.findClass "java/lang/StrictMath" = some mS.cls := findClass_of_methodNamed hnC
  have hiS : kS.init = .initialized := Cond.initialized_spec (findClass_of_methodNamed hnC) hkS (hiniS #[.double x] U hUv)
  have hmS : kS.findMethod "ceil" "(D)D" = some mS.idx := by
    have h := hnC
    simp only [State.methodNamed?, Option.bind_eq_bind, Option.pure_def] at h
    rw [show yJxfc994_ceil_294c1.cls = "java/lang/StrictMath" from rfl, hfS] at h
    simp only [Option.bind_some, hkS] at h
    cases hfm : kS.findMethod yJxfc994_ceil_294c1.name yJxfc994_ceil_294c1.desc with
    | none => rw [hfm] at h; cases h
    | some j => rw [hfm] at h; simp at h; rw [← h]; exact hfm
  have hA : At U m c below := X'.here
  obtain ⟨g₀, hg0⟩ := Option.isSome_iff_exists.mp hA.top
  obtain ⟨fr, hr⟩ := State.topJava?_eq_some.mp hg0
  have hcur : U.cur < U.threads.size := State.cur_lt_of_frames hr
  have htail : U.frames.tail = fr := by rw [hr]; rfl
  have hroomS : (U.calling (F0 m pc ls rest) mS #[.double x]).hasRoom e.platform { frames := 3 + 1, locals := 81 + 1024, cells := 0, slots := 0 } = true :=
    X'.room_calling (g := F0 m pc ls rest) (hsize.trans hml.symm) hmethS hcodeS (R' := { frames := 3 + 1, locals := 81 + 1024, cells := 0, slots := 0 }) (by show 3 + 1 + 1 ≤ R.frames; omega) (by rw [hlocS]; show 2 * 0 + (rest.map fun v => v.category).sum + (2 + 11) + (81 + 1024) ≤ R.locals; omega) hf.1 hf.2
  rw [State.calling_eq hA.top] at hroomS
  have hpS := hp.2
  have happ : (headSpec wsJxfc994_ceil_294c1 ({ frames := 3, cells := 0, slots := 0, locals := 81 })).appliesLoose yJxfc994_ceil_294c1 e.platform (tm_cst U (F0 m pc ls rest) mk mS x) = true := by
    unfold tm_cst
    refine (Spec.appliesLoose_iff (State.frames_setFrames _ hcur)).mpr ⟨hA.running, by simpa using hA.runnable, by simpa using hA.alone, hnC, rfl, State.classRipe_of (s := U.setFrames _) hkS hiS, tm_room_native (F := 3) (L := 81) (C := 0) (Sl := 0) hcur rfl hroomS, ?_⟩
    rw [Cond.before_setFrames]
    exact atoms_intro fun w hw => payS w hw _ _ hUv
  obtain ⟨r, t, L, hfe, hL, hQ, hsteps⟩ := tm_natCeil p X'.admits X'.cas X'.clock (below := below) (T := U) (g := F0 m pc ls rest) (c := c) hA (mk := mk) (mS := mS) (x := x) [] hM hk' hx' hboot' hkn' hmn hmd hsigM hcM hlM hkM
    (X'.room_calling (g := F0 m pc ls rest) (hsize.trans hml.symm) hm' hcM (R' := {}) (by show 0 + 1 ≤ R.frames; omega) (by rw [hlM]; show 2 * 0 + (rest.map fun v => v.category).sum + (2 + 11) + 0 ≤ R.locals; omega) hf.1 hf.2)
    hfS hkS hiS hmS happ (hpS _ hUh hUv) hq (by rw [hb]; exact hdg)
  obtain ⟨-, hW₂, e2, q2, q3, q4, q5, q6⟩ := id hfe
  have hWt : U.WarmedH t.vm := hW₂
  have e3 : t = ({ U.setFrames t.frames with heap := t.heap, slotsUsed := t.slotsUsed } : State).setVm t.vm := by
    have h1 : t = ({ t with vm := (tm_cst U (F0 m pc ls rest) mk mS x).vm } : State).setVm t.vm := rfl
    rw [e2, tm_cst, State.setFrames_setFrames] at h1
    exact h1
  have hs₂ : t.setFrames (.java { F0 m pc ls rest with pc := pc + 3, stack := .double r :: rest } :: U.frames.tail) = (({ U with heap := t.heap, slotsUsed := t.slotsUsed } : State).setVm t.vm).setTop { F0 m pc ls rest with pc := pc + 3, stack := .double r :: rest } := by
    have hr' : (({ U with heap := t.heap, slotsUsed := t.slotsUsed } : State).setVm t.vm).frames = .java g₀ :: fr := hr
    rw [State.setTop_of_frames _ hr', htail]
    have e4 : ∀ F G : List Frame, (({ U.setFrames F with heap := t.heap, slotsUsed := t.slotsUsed } : State).setVm t.vm).setFrames G = (({ U with heap := t.heap, slotsUsed := t.slotsUsed } : State).setVm t.vm).setFrames G := fun F G => by
      show ({ (U.setFrames F).setFrames G with heap := t.heap, slotsUsed := t.slotsUsed } : State).setVm t.vm = _
      rw [State.setFrames_setFrames]; rfl
    conv => lhs; rw [e3]
    exact e4 _ _
  have hsame : U.sameButNew ({ U with heap := t.heap, slotsUsed := t.slotsUsed } : State) L 0 0 := by
    refine ⟨?_, q2, q3, q4, q5, q6⟩
    obtain ⟨th, ht, -⟩ := State.frames_cons hr
    show ({ U with heap := t.heap, slotsUsed := t.slotsUsed } : State) = { U.setFrames U.frames with heap := t.heap, slotsUsed := t.slotsUsed }
    rw [State.setFrames_self ht]
  refine ⟨some (.double r), tm_cst U (F0 m pc ls rest) mk mS x, t, ({ U with heap := t.heap, slotsUsed := t.slotsUsed } : State).setVm t.vm, L, hUh, ?_, hL, rfl, rfl, hQ, ?_⟩
  · exact ⟨X'.admits, X'.cas, X'.clock, X'.frames, X'.room, X'.hears, X'.method, X'.code, (X'.here.setHeapUsed t.heap t.slotsUsed).setVm hWt.alike, X'.tail, State.WarmedH.trans X'.warmed hWt, X'.limits, X'.bytes, X'.same.trans (hsame.setVm s.vm)⟩
  · intro target hgo
    refine step target fun acts => ?_
    rw [doInvoke_state]
    have hst : Steps p.tables e below (doInvoke e (U.setTop (F0 m pc ls rest)) [] mk #[.double x]).1 _ := hsteps
    refine hst.trans ?_
    show Steps p.tables e below (t.setFrames (.java { F0 m pc ls rest with pc := pc + 3, stack := .double r :: rest } :: U.frames.tail)) target
    rw [hs₂]
    exact hgo
end
