/-! Math.abs of a double: the machine runs a row of its own, ahead of the method's code -/
def db_ar : NativeRow := (NativeRow.find? Native.java_lang_Math.nans.rows "java/lang/Math" "abs" "(D)D").get (by decide +kernel)
set_option maxRecDepth 100000 in
theorem db_ar_in (p : Program) : NativeRow.find? p.tables.natives "java/lang/Math" "abs" "(D)D" = some db_ar := by
  cases p <;> rfl
theorem db_ar_run {x : UInt64} (hx : vf_n64 x) (e : Env) (U : State) : ∃ acts, (db_ar.sem #[.double x]).run e U = .ok (some (.double (x &&& 0x7fffffffffffffff))) U acts := by
  have hm : (x &&& 0x7fffffffffffffff) &&& 0x7fffffffffffffff ≤ 0x7ff0000000000000 := by rw [UInt64.and_assoc, UInt64.and_self]; exact hx
  have hw : wpRun (db_ar.sem #[.double x]) (fun v U1 _ => v = some (.double (x &&& 0x7fffffffffffffff)) ∧ U1 = U) (fun _ _ _ => False) e U := by
    have es : db_ar.sem #[.double x] = (anyNaN64 (x &&& 0x7fffffffffffffff) >>= fun r => mark "nat.java_lang_Math.abs" >>= fun _ => Pure.pure (some (.double r))) := rfl
    rw [es]
    simp [jvm, wpRun, anyNaN64, hm]
  have h := (wpRun_iff_run _ _ _ _ _).mp hw
  cases hr : (db_ar.sem #[.double x]).run e U with
  | ok v U1 acts => rw [hr] at h; obtain ⟨rfl, rfl⟩ := h; exact ⟨_, rfl⟩
  | ctl c U1 acts => rw [hr] at h; cases c <;> exact h.elim
section DBA
variable {p : Program} {l : Launch} {e : Env} {R : Room} {s : State} {m : MethodId} {args : Array Value} {below : List Frame} {meth : Method} {c : Code} {T : State} {locs : List Loc} {cells slots : Nat}
/-- one step of the called method's frame, which stands at its first instruction: the row's answer is handed over -/
theorem db_ar_step {tb : Tables} {U : State} {mk : MethodId} {k : Class} {x : Method} {g : JFrame} {r : List Frame} {a : UInt64} {ig : Instr} {len : Nat} (hf : U.frames = .java { method := mk, pc := 0, locals := argsToLocals #[.double a] 2, stack := [], locked := none } :: .java g :: r)
    (hk : U.vm.classes[mk.cls]? = some k) (hx : k.methods[mk.idx]? = some x) (hb : k.loader = none) (hn : k.name = "java/lang/Math") (hmn : x.name = "abs") (hmd : x.desc = "(D)D") (hs : x.sig.parameters = [.double]) (hst : x.isStatic = true)
    (hrow : NativeRow.find? tb.natives "java/lang/Math" "abs" "(D)D" = some db_ar) (ha : vf_n64 a) (hg : U.code? g.method = some c) (hdg : decode c.code g.pc = .ok (ig, len)) :
    (stepThread tb e U).1 = U.setFrames (.java { g with pc := g.pc + len, stack := .double (a &&& 0x7fffffffffffffff) :: g.stack } :: r) := by
  have hcur : U.cur < U.threads.size := State.cur_lt_of_frames hf
  have hov : overridden tb e U { method := mk, pc := 0, locals := argsToLocals #[.double a] 2, stack := [], locked := none } = some db_ar := by
    unfold overridden
    simp [hk, hb, hx, hn, hmn, hmd, hrow, overriddenIn]
  obtain ⟨acts, hr⟩ := db_ar_run ha e (U.setFrames (.native { method := mk, args := #[.double a], locked := none } :: .java g :: r))
  have hcode : (U.setFrames (.native { method := mk, args := #[.double a], locked := none } :: .java g :: r)).code? g.method = some c := by
    rw [State.code?_eq] at hg ⊢
    simpa [State.setFrames] using hg
  have hho : handOver (U.setFrames (.native { method := mk, args := #[.double a], locked := none } :: .java g :: r)) (some (.double (a &&& 0x7fffffffffffffff))) (.java g :: r) = some (.java { g with pc := g.pc + len, stack := .double (a &&& 0x7fffffffffffffff) :: g.stack } :: r) := by
    simp [handOver, hcode, hdg, Except.toOption]
  unfold stepThread
  simp only [hf, hov]
  simp [argsToLocals, Value.category, argCount, hk, hx, hs, hst, hr, afterNative]
  rw [doReturn_native (f := { method := mk, args := #[.double a], locked := none }) (below := .java g :: r) (State.frames_setFrames _ hcur) rfl hho, State.setFrames_setFrames]
theorem vn_dabs0 (X : Stand p l e R s m args below meth c T locs cells slots) (hexec : p.tables.exec = Jvm.exec) {own : String} {index : Nat} (hown : s.vm.findClass own = some m.cls) {bytes : ByteArray} (hlink : (Cond.methodLink own index ⟨"java/lang/Math", "abs", "(D)D"⟩).before args s = true) (hcode : (Cond.code ⟨"java/lang/Math", "abs", "(D)D"⟩ bytes 2 (some .double)).before args s = true) (hstat : (Cond.static ⟨"java/lang/Math", "abs", "(D)D"⟩).before args s = true) (hinit : (Cond.initialized "java/lang/Math").before args s = true)
    {g : JFrame} (hg : g.method = m) (hsize : g.locals.size = c.maxLocals) {rest : List Value} {a : UInt64} (ha : vf_n64 a) (hstack : g.stack = .double a :: rest) (hdg : decode c.code g.pc = .ok (.invokestatic index, 3)) (hframes : 1 ≤ R.frames) (hlocals : 2 * g.monitorRoom + (rest.map fun v => v.category).sum + 13 ≤ R.locals) :
    ∃ vm', Stand p l e R s m args below meth c (T.setVm vm') locs cells slots ∧ ∀ target, Steps p.tables e below ((T.setVm vm').setTop { g with pc := g.pc + 3, stack := .double (a &&& 0x7fffffffffffffff) :: rest }) target → Steps p.tables e below (T.setTop g) target := by
  obtain ⟨mk, hnamed⟩ := Cond.code_named hcode
  obtain ⟨methM, cM, hmethM, hcodeM, -, hlocalsM, -, hlocksM, -, hsigM⟩ := Cond.code_spec hnamed hcode
  have hstatic : methM.isStatic = true := Cond.static_spec hnamed hmethM hstat
  obtain ⟨kP, hkP, hkn⟩ := className_of_methodNamed hnamed
  obtain ⟨hmn, hmd⟩ := name_of_methodNamed hnamed hmethM
  have hinitP : kP.init = .initialized := Cond.initialized_spec (findClass_of_methodNamed hnamed) hkP hinit
  have hboot : kP.loader = none := Vm.bootOf_findClass (findClass_of_methodNamed hnamed) hkP
  have hxP : kP.methods[mk.idx]? = some methM := by simpa [Vm.method?, hkP] using hmethM
  have hps : methM.sig.parameters = [.double] := by
    have h3 : parseMethodDescriptor "(D)D" = some methM.sig := hsigM
    rw [show parseMethodDescriptor "(D)D" = some { parameters := [.double], returnType := some .double } from by decide +kernel] at h3
    rw [← Option.some.inj h3]
  obtain ⟨vm', X', step⟩ := X.invokestatic hexec hown hlink hnamed hmethM hstatic hkP hinitP (by decide) hg (argsL := [.double a]) (rest := rest) (by rw [hps]; rfl) hstack hdg
  obtain ⟨k', hk', he⟩ := X'.warmed.alike.2.2 _ _ hkP
  refine ⟨vm', X', fun target hrest => step target fun acts => ?_⟩
  subst hg
  have hm' : ((T.setVm vm').setTop { g with stack := rest }).vm.method? mk = some methM := by
    exact (X'.warmed.alike.method? mk).trans hmethM
  have hfull := X'.notFull (g := { g with stack := rest }) hsize (vars := 2) hframes (by show 2 * g.monitorRoom + (rest.map fun v => v.category).sum + (2 + 11) ≤ R.locals; omega)
  rw [(doInvoke_java (s := (T.setVm vm').setTop { g with stack := rest }) (e := e) (acts := acts) (args := [Value.double a].toArray) hm' hcodeM hlocksM (by rw [hlocalsM]; exact hfull)).1, hlocalsM]
  obtain ⟨g₀, hg0⟩ := Option.isSome_iff_exists.mp X'.here.top
  obtain ⟨r, hr⟩ := State.topJava?_eq_some.mp hg0
  obtain ⟨mid, hmid⟩ := X'.here.above
  have hcur : (T.setVm vm').cur < (T.setVm vm').threads.size := State.cur_lt_of_frames hr
  have htail : r = mid ++ below := by rw [hr] at hmid; exact hmid
  have hU : ((T.setVm vm').setTop { g with stack := rest }).pushFrame (.java { method := mk, pc := 0, locals := argsToLocals [Value.double a].toArray 2, stack := [], locked := none }) = (T.setVm vm').setFrames (.java { method := mk, pc := 0, locals := argsToLocals #[.double a] 2, stack := [], locked := none } :: .java { g with stack := rest } :: r) := by
    rw [State.pushFrame, State.frames_setTop _ hr, State.setTop_of_frames _ hr, State.setFrames_setFrames]
  rw [hU]
  have hf := State.frames_setFrames (s := T.setVm vm') (.java { method := mk, pc := 0, locals := argsToLocals #[.double a] 2, stack := [], locked := none } :: .java { g with stack := rest } :: r) hcur
  have hcg : ((T.setVm vm').setFrames (.java { method := mk, pc := 0, locals := argsToLocals #[.double a] 2, stack := [], locked := none } :: .java { g with stack := rest } :: r)).code? g.method = some c := by
    have q := X'.here.code
    rw [State.code?_eq] at q ⊢
    simpa [State.setFrames] using q
  have st := db_ar_step (tb := p.tables) (e := e) (k := k') (x := methM) hf (show vm'.classes[mk.cls]? = some k' from hk') (by rw [he]; exact hxP) (by rw [he]; exact hboot) (by rw [he]; exact hkn) hmn hmd hps hstatic (db_ar_in p) ha hcg hdg
  refine Steps.head ⟨X'.here.running, by simpa using X'.here.runnable, by simpa using X'.here.alone⟩ ⟨.java { method := mk, pc := 0, locals := argsToLocals #[.double a] 2, stack := [], locked := none } :: .java { g with stack := rest } :: mid, by rw [hf, htail]; rfl, by simp, by simp⟩ ?_
  rw [st, State.setFrames_setFrames, ← State.setTop_of_frames (s := T.setVm vm') _ hr]
  exact hrest
variable {H : Heap} {Q : State → Prop} {ls : Array Slot} {pc : Nat} {rest : List Value}
theorem vn_dabs {cc : ByteArray} (hexec : p.tables.exec = Jvm.exec) (hb : c.code = cc) (hml : c.maxLocals = ls.size) {own : String} {index : Nat} (hown : s.vm.findClass own = some m.cls) {bytes : ByteArray} (hlink : (Cond.methodLink own index ⟨"java/lang/Math", "abs", "(D)D"⟩).before args s = true) (hcode : (Cond.code ⟨"java/lang/Math", "abs", "(D)D"⟩ bytes 2 (some .double)).before args s = true) (hstat : (Cond.static ⟨"java/lang/Math", "abs", "(D)D"⟩).before args s = true) (hinit : (Cond.initialized "java/lang/Math").before args s = true) {a : UInt64} (ha : vf_n64 a)
    (hframes : 1 ≤ R.frames) (hlocals : (rest.map fun v => v.category).sum + 13 ≤ R.locals) (hdg : decode cc pc = .ok (.invokestatic index, 3))
    (k : W p l e R s m args below meth c H locs cells slots Q (F0 m (pc + 3) ls (.double (a &&& 0x7fffffffffffffff) :: rest))) : W p l e R s m args below meth c H locs cells slots Q (F0 m pc ls (.double a :: rest)) := by
  intro T hT X
  obtain ⟨vm', X', st⟩ := vn_dabs0 X hexec hown hlink hcode hstat hinit (g := F0 m pc ls (.double a :: rest)) rfl (by rw [hml]) ha rfl (by rw [hb]; exact hdg) hframes (by show 2 * 0 + _ + 13 ≤ _; omega)
  obtain ⟨t, a1, b1⟩ := k (T.setVm vm') hT X'
  exact ⟨t, st t a1, b1⟩
end DBA
section DBM
variable {M : mj_M} {d mc ms : Nat} {Q : mj_Q} {pc q : Nat} {lv st : List Value}
theorem mj_dabs {h : mj_H} {idx : Nat} {x : UInt64} (hd : decode M.2.1 pc = .ok (.invokestatic idx, 3)) (hln : Cond.methodLink M.2.2.2.2.1 idx ⟨"java/lang/Math", "abs", "(D)D"⟩ ∈ mj_TW) (hx : vf_n64 x) (hcat : (st.map fun v => v.category).sum ≤ 8) (hq : pc + 3 = q)
    (k : mj_W M (d + 1) mc ms Q q lv (.double (x &&& 0x7fffffffffffffff) :: st) h) : mj_W M (d + 1) mc ms Q pc lv (.double x :: st) h := by
  subst hq
  intro p l e R s m args below meth c D b B0 MC MS as0 QQ X E as H locs ls cells slots S
  obtain ⟨s1, s2, s3, s4, s5, s6, s7, s8⟩ := S
  obtain ⟨x1, x2, x3, x4, x5, x6, x7, x8, x9, x10, x11, x12, x13, x14, x15⟩ := id X
  exact vn_dabs x1 x2 (x3.trans s4.1.symm) x4 (x5 _ hln) (x5 _ ok_J9_abs_294c1.1.2.2) (x5 _ ok_J9_abs_294c1.1.1) (x5 _ ok_J9_abs_294c1.1.2.1) hx (by omega) (by rw [mj_cats]; omega) hd
    (k p l e R s m args below meth c D b B0 MC MS as0 QQ X E as H locs ls cells slots ⟨s1, s2, s3, s4, s5, ⟨trivial, s6.2⟩, s7, s8⟩)
end DBM
