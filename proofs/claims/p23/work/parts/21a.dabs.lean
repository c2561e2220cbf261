/-! Math.abs of a double: the machine runs an entry of its natives in the place of its bytecode (java/lang/Math is one of the classes for which it asks). The walk follows the library's way for such entries, for this one alone. -/
def dabsRow : NativeRow := (Native.java_lang_Math.nans.rows.drop 9).head (by decide)
set_option maxRecDepth 100000 in
theorem dabs_find (p : Program) : NativeRow.find? p.tables.natives "java/lang/Math" "abs" "(D)D" = some dabsRow := by
  cases p <;> rfl
theorem dabs_wp {E : CtlPost} {e : Env} {d : Bool} {acts : List Action} {s : State} {Q : Option Value → Pre} {b : UInt64} (hb : vf_n64 b) (hq : Q (some (.double (b &&& 0x7fffffffffffffff))) d acts s) : wp (dabsRow.sem #[.double b]) Q E e d acts s := by
  show wp (do let r ← anyNaN64 (b &&& 0x7fffffffffffffff); Jvm.mark "nat.java_lang_Math.abs"; Pure.pure (some (.double r))) Q E e d acts s
  have h2 : b &&& 0x7fffffffffffffff &&& 0x7fffffffffffffff ≤ 0x7ff0000000000000 := by rw [UInt64.and_assoc, UInt64.and_self]; exact hb
  simpa [anyNaN64, h2] using hq
theorem dabs_sem {b : UInt64} (hb : vf_n64 b) (e : Env) (S : State) : wpRun (dabsRow.sem #[.double b]) (fun v s _ => v = some (.double (b &&& 0x7fffffffffffffff)) ∧ s = S) (fun _ _ _ => False) e S := dabs_wp hb ⟨rfl, rfl⟩
theorem dabs_args (b : UInt64) : ((argsToLocals #[.double b] 2).toList.filterMap fun | .val v => some v | _ => none).toArray.extract 0 1 = #[.double b] := by
  rfl
theorem dabs_thread {tb : Tables} {e : Env} {s : State} {r : MethodId} {rest : List Frame} {k : Class} {x : Method} {b : UInt64} (hf : s.frames = .java { method := r, pc := 0, locals := argsToLocals #[.double b] 2, stack := [], locked := none } :: rest) (hk : s.vm.classes[r.cls]? = some k) (hx : k.methods[r.idx]? = some x) (hn : k.name = "java/lang/Math") (hboot : k.loader = none) (hst : x.isStatic = true) (hps : x.sig.parameters = [.double]) (hrow : NativeRow.find? tb.natives "java/lang/Math" x.name x.desc = some dabsRow) :
    stepThread tb e s = afterNative e { method := r, args := #[.double b], locked := none } rest ((dabsRow.sem #[.double b]).run e (s.setFrames (.native { method := r, args := #[.double b], locked := none } :: rest))) := by
  have hov : overridden tb e s { method := r, pc := 0, locals := argsToLocals #[.double b] 2, stack := [], locked := none } = some dabsRow := by
    unfold overridden
    simp [hk, hx, hn, hboot, hrow, overriddenIn]
  have hcount : argCount s r = 1 := by simp [argCount, hk, hx, hst, hps]
  unfold stepThread
  simp only [hf, hov, hcount]
  rfl
theorem dabs0 {p : Program} {l : Launch} {e : Env} {R : Room} {s : State} {m : MethodId} {args : Array Value} {below : List Frame} {meth : Method} {c : Code} {T : State} {locs : List Loc} {cells slots : Nat} (X : Stand p l e R s m args below meth c T locs cells slots) (hexec : p.tables.exec = Jvm.exec) {own : String} {index : Nat} {bytes : ByteArray} (hown : s.vm.findClass own = some m.cls) (hlink : (Cond.methodLink own index yJ9_abs_294c1).before args s = true) (hstat : (Cond.static yJ9_abs_294c1).before args s = true) (hinit : (Cond.initialized RJ9).before args s = true) (hcode : (Cond.code yJ9_abs_294c1 bytes 2 (some .double)).before args s = true)
    {g : JFrame} (hg : g.method = m) (hsize : g.locals.size = c.maxLocals) {rest : List Value} {b : UInt64} (hb : vf_n64 b) (hstack : g.stack = .double b :: rest) (hdg : decode c.code g.pc = .ok (.invokestatic index, 3)) (hframes : 1 ≤ R.frames) (hlocals : 2 * g.monitorRoom + (rest.map fun v => v.category).sum + 13 ≤ R.locals) :
    ∃ vm', Stand p l e R s m args below meth c (T.setVm vm') locs cells slots ∧ ∀ target, Steps p.tables e below ((T.setVm vm').setTop { g with pc := g.pc + 3, stack := .double (b &&& 0x7fffffffffffffff) :: rest }) target → Steps p.tables e below (T.setTop g) target := by
  obtain ⟨r, hnamed⟩ := Cond.named_of_code hcode
  obtain ⟨x, code, hmeth, hc, -, hml, -, hl, -, hsig⟩ := Cond.code_spec hnamed hcode
  obtain ⟨k, hk, hkn⟩ := className_of_methodNamed hnamed
  obtain ⟨hmn, hmd⟩ := name_of_methodNamed hnamed hmeth
  have hst : x.isStatic = true := Cond.static_spec hnamed hmeth hstat
  have hps : x.sig.parameters = [.double] := by
    have hdesc : parseMethodDescriptor yJ9_abs_294c1.desc = some { parameters := [.double], returnType := some .double } := by decide +kernel
    rw [hdesc] at hsig
    rw [← Option.some.inj hsig]
  have hini : k.init = .initialized := Cond.initialized_spec (findClass_of_methodNamed hnamed) hk hinit
  obtain ⟨vm', X', step⟩ := X.invokestatic hexec hown hlink hnamed hmeth hst hk hini (by decide) hg (argsL := [.double b]) (rest := rest) (by rw [hps]; rfl) hstack hdg
  refine ⟨vm', X', fun target hrest => step target fun acts => ?_⟩
  subst hg
  obtain ⟨k', hk', he⟩ := X'.warmed.alike.2.2 _ _ hk
  have hx0 : k.methods[r.idx]? = some x := by simpa [Vm.method?, hk] using hmeth
  have hb0 : k.loader = none := Vm.bootOf_findClass (findClass_of_methodNamed hnamed) hk
  have hx' : k'.methods[r.idx]? = some x := by rw [he]; exact hx0
  have hboot : k'.loader = none := by rw [he]; exact hb0
  have hn' : k'.name = "java/lang/Math" := by rw [he]; exact hkn
  have hroom := X'.notFull (g := { g with stack := rest }) hsize (vars := 2) hframes hlocals
  have h := X'.here
  generalize T.setVm vm' = S at h hk' hroom hrest ⊢
  have hm : (S.setTop { g with stack := rest }).vm.method? r = some x := by
    show S.vm.method? r = some x
    simp [Vm.method?, hk', hx']
  rw [(doInvoke_java (s := S.setTop { g with stack := rest }) (e := e) (acts := acts) (args := #[.double b]) hm hc hl (by rw [hml]; exact hroom)).1, hml]
  have hfe := frames_entered (g := { g with stack := rest }) h.top (.java { method := r, pc := 0, locals := argsToLocals #[.double b] 2, stack := [], locked := none })
  obtain ⟨mid, hmid⟩ := h.above
  obtain ⟨g₀, hg⟩ := Option.isSome_iff_exists.mp h.top
  obtain ⟨r', hr⟩ := State.topJava?_eq_some.mp hg
  have htl : S.frames.tail = r' := by rw [hr]; rfl
  refine Steps.head ⟨h.running, by simpa using h.runnable, by simpa using h.alone⟩ ⟨.java { method := r, pc := 0, locals := argsToLocals #[.double b] 2, stack := [], locked := none } :: .java { g with stack := rest } :: mid, by rw [hfe, hmid]; rfl, by simp, by simp⟩ ?_
  rw [dabs_thread (k := k') (x := x) (b := b) hfe hk' hx' hn' hboot hst hps (by rw [hmn, hmd]; exact dabs_find p)]
  have hS : ((S.setTop { g with stack := rest }).pushFrame (.java { method := r, pc := 0, locals := argsToLocals #[.double b] 2, stack := [], locked := none })).setFrames (.native { method := r, args := #[.double b], locked := none } :: .java { g with stack := rest } :: S.frames.tail) = S.setFrames (.native { method := r, args := #[.double b], locked := none } :: .java { g with stack := rest } :: r') := by
    rw [State.pushFrame, State.setFrames_setFrames, State.setTop_of_frames _ hr, State.setFrames_setFrames, htl]
  rw [hS]
  have hcur : S.cur < S.threads.size := State.cur_lt_of_frames hr
  have hw2 := (wpRun_iff_run _ _ _ _ _).mp (dabs_sem hb e (S.setFrames (.native { method := r, args := #[.double b], locked := none } :: .java { g with stack := rest } :: r')))
  cases hrun : (dabsRow.sem #[.double b]).run e (S.setFrames (.native { method := r, args := #[.double b], locked := none } :: .java { g with stack := rest } :: r')) with
  | ctl y s₁ acts₁ => rw [hrun] at hw2; cases y <;> exact hw2.elim
  | ok v s₁ acts₁ =>
    rw [hrun] at hw2
    obtain ⟨rfl, rfl⟩ := hw2
    show Steps p.tables e below (doReturn e (S.setFrames (.native { method := r, args := #[.double b], locked := none } :: .java { g with stack := rest } :: r')) acts₁ (some (.double (b &&& 0x7fffffffffffffff)))).1 target
    have hfr3 : (S.setFrames (.native { method := r, args := #[.double b], locked := none } :: .java { g with stack := rest } :: r')).frames = .native { method := r, args := #[.double b], locked := none } :: .java { g with stack := rest } :: r' := State.frames_setFrames _ hcur
    have hcd : (S.setFrames (.native { method := r, args := #[.double b], locked := none } :: .java { g with stack := rest } :: r')).code? g.method = some c := h.code
    have hfs : handOver (S.setFrames (.native { method := r, args := #[.double b], locked := none } :: .java { g with stack := rest } :: r')) (some (.double (b &&& 0x7fffffffffffffff))) (.java { g with stack := rest } :: r') = some (.java { g with pc := g.pc + 3, stack := .double (b &&& 0x7fffffffffffffff) :: rest } :: r') := by
      simp [handOver, hcd, hdg, Except.toOption]
    rw [doReturn_native (f := { method := r, args := #[.double b], locked := none }) hfr3 rfl hfs, State.setFrames_setFrames, ← State.setTop_of_frames (s := S) _ hr]
    exact hrest
theorem V_dabs {X : VC} {l : Launch} {R : Room} {D : va_G} {cl : List vw_C} {tys : List (ClassId × FieldType)} {A : Nat → Prop} {cc : ByteArray} {nL : Nat} {own : String} {Ts : List Cond} {ret : Option FieldType} {kc ks pc q : Nat} {ws : va_W} {lv : List (Nat × Value)} {rest : List Value} (hC : Cx X l R D cl tys A cc nL own Ts ret) {index : Nat} {bytes : ByteArray} {b : UInt64} (hb0 : vf_n64 b) (hd : decode cc pc = .ok (.invokestatic index, 3)) (h1 : Cond.methodLink own index yJ9_abs_294c1 ∈ Ts) (h2 : Cond.static yJ9_abs_294c1 ∈ Ts) (h3 : Cond.initialized RJ9 ∈ Ts) (h4 : Cond.code yJ9_abs_294c1 bytes 2 (some .double) ∈ Ts) (hfr : 1 ≤ R.frames) (hlo : (rest.map fun v => v.category).sum + 13 ≤ R.locals) (hq : pc + 3 = q) (k : V X kc ks ws lv q (.double (b &&& 0x7fffffffffffffff) :: rest)) : V X kc ks ws lv pc (.double b :: rest) := by
  obtain ⟨p, l, e, R, s, m, args, below, meth, c, D, cl, A, Q, nL⟩ := X
  obtain ⟨rfl, rfl, rfl, rfl, rfl, rfl, hF, hK, hA, hr, hlk, hNs⟩ := hC
  obtain ⟨hx, hb, hml, hown, hts⟩ := hF
  subst hq
  intro H locs ls hP hD hS hl T hT X
  obtain ⟨vm', X', st⟩ := dabs0 X hx hown (hts _ h1) (hts _ h2) (hts _ h3) (hts _ h4) (g := F0 m pc ls (.double b :: rest)) rfl (hl.1.trans hml.symm) hb0 rfl (by rw [hb]; exact hd) hfr (by show 2 * 0 + _ + 13 ≤ _; omega)
  obtain ⟨t, a1, b1⟩ := k H locs ls hP hD hS hl (T.setVm vm') hT X'
  exact ⟨t, st t a1, b1⟩
