section
-- ===== PART A: goes FIRST, ahead of the names: the tables' words, and 'selects' of the private methods out of them =====
/-- a private method of a class that the tables say can be made, by its rows of tables_1 -/
def lw_okq (q : MethodName × Nat) : Prop := (q.1.cls ≠ "java/lang/invoke/MethodHandle" ∧ q.1.cls ≠ "java/lang/invoke/VarHandle") ∧ Cond.instantiable q.1.cls q.2 ∈ tables_1 ∧ Cond.privateMethod q.1 ∈ tables_1 ∧ Cond.instanceMethod q.1 ∈ tables_1
theorem lw_p0 : lw_okq (⟨"java/lang/Throwable", "fillInStackTrace", "(I)Ljava/lang/Throwable;"⟩, 6) := ⟨⟨by decide +kernel, by decide +kernel⟩, List.mem_of_getElem? (i := 265) (by decide +kernel), List.mem_of_getElem? (i := 263) (by decide +kernel), List.mem_of_getElem? (i := 264) (by decide +kernel)⟩
theorem lw_p1 : lw_okq (⟨"BrakeCurve", "needTrain", "(I)V"⟩, 2) := ⟨⟨by decide +kernel, by decide +kernel⟩, List.mem_of_getElem? (i := 25) (by decide +kernel), List.mem_of_getElem? (i := 357) (by decide +kernel), List.mem_of_getElem? (i := 358) (by decide +kernel)⟩
theorem lw_p2 : lw_okq (⟨"BrakeCurve", "headAfterTrial", "(II)I"⟩, 2) := ⟨⟨by decide +kernel, by decide +kernel⟩, List.mem_of_getElem? (i := 25) (by decide +kernel), List.mem_of_getElem? (i := 676) (by decide +kernel), List.mem_of_getElem? (i := 677) (by decide +kernel)⟩
theorem lw_p3 : lw_okq (⟨"BrakeCurveModel", "refuse", "(I)I"⟩, 3) := ⟨⟨by decide +kernel, by decide +kernel⟩, List.mem_of_getElem? (i := 684) (by decide +kernel), List.mem_of_getElem? (i := 780) (by decide +kernel), List.mem_of_getElem? (i := 781) (by decide +kernel)⟩
theorem lw_p4 : lw_okq (⟨"BrakeCurveModel", "isRunning", "()Z"⟩, 3) := ⟨⟨by decide +kernel, by decide +kernel⟩, List.mem_of_getElem? (i := 684) (by decide +kernel), List.mem_of_getElem? (i := 791) (by decide +kernel), List.mem_of_getElem? (i := 792) (by decide +kernel)⟩
theorem lw_p5 : lw_okq (⟨"BrakeCurveModel", "isTrain", "(I)Z"⟩, 3) := ⟨⟨by decide +kernel, by decide +kernel⟩, List.mem_of_getElem? (i := 684) (by decide +kernel), List.mem_of_getElem? (i := 815) (by decide +kernel), List.mem_of_getElem? (i := 816) (by decide +kernel)⟩
theorem lw_p6 : lw_okq (⟨"java/util/ArrayList", "add", "(Ljava/lang/Object;[Ljava/lang/Object;I)V"⟩, 3) := ⟨⟨by decide +kernel, by decide +kernel⟩, List.mem_of_getElem? (i := 698) (by decide +kernel), List.mem_of_getElem? (i := 844) (by decide +kernel), List.mem_of_getElem? (i := 845) (by decide +kernel)⟩
theorem lw_p7 : lw_okq (⟨"java/util/ArrayList", "grow", "()[Ljava/lang/Object;"⟩, 3) := ⟨⟨by decide +kernel, by decide +kernel⟩, List.mem_of_getElem? (i := 698) (by decide +kernel), List.mem_of_getElem? (i := 848) (by decide +kernel), List.mem_of_getElem? (i := 849) (by decide +kernel)⟩
theorem lw_p8 : lw_okq (⟨"java/util/ArrayList", "grow", "(I)[Ljava/lang/Object;"⟩, 3) := ⟨⟨by decide +kernel, by decide +kernel⟩, List.mem_of_getElem? (i := 698) (by decide +kernel), List.mem_of_getElem? (i := 852) (by decide +kernel), List.mem_of_getElem? (i := 853) (by decide +kernel)⟩
theorem lw_p9 : lw_okq (⟨"java/util/ArrayList", "fastRemove", "([Ljava/lang/Object;I)V"⟩, 3) := ⟨⟨by decide +kernel, by decide +kernel⟩, List.mem_of_getElem? (i := 698) (by decide +kernel), List.mem_of_getElem? (i := 908) (by decide +kernel), List.mem_of_getElem? (i := 909) (by decide +kernel)⟩
theorem lw_p10 : lw_okq (⟨"BrakeCurveModel$Line", "hears", "(I)Z"⟩, 7) := ⟨⟨by decide +kernel, by decide +kernel⟩, List.mem_of_getElem? (i := 690) (by decide +kernel), List.mem_of_getElem? (i := 929) (by decide +kernel), List.mem_of_getElem? (i := 930) (by decide +kernel)⟩
theorem lw_p11 : lw_okq (⟨"BrakeCurveModel$Line", "go", "([I)V"⟩, 7) := ⟨⟨by decide +kernel, by decide +kernel⟩, List.mem_of_getElem? (i := 690) (by decide +kernel), List.mem_of_getElem? (i := 995) (by decide +kernel), List.mem_of_getElem? (i := 996) (by decide +kernel)⟩
theorem lw_p12 : lw_okq (⟨"BrakeCurveModel$Line", "look", "(I)V"⟩, 7) := ⟨⟨by decide +kernel, by decide +kernel⟩, List.mem_of_getElem? (i := 690) (by decide +kernel), List.mem_of_getElem? (i := 1016) (by decide +kernel), List.mem_of_getElem? (i := 1017) (by decide +kernel)⟩
theorem lw_p13 : lw_okq (⟨"BrakeCurveModel", "ofSectionNow", "(II)I"⟩, 3) := ⟨⟨by decide +kernel, by decide +kernel⟩, List.mem_of_getElem? (i := 684) (by decide +kernel), List.mem_of_getElem? (i := 1024) (by decide +kernel), List.mem_of_getElem? (i := 1025) (by decide +kernel)⟩
theorem lw_p14 : lw_okq (⟨"BrakeCurveModel", "ofTrainNow", "(II)I"⟩, 3) := ⟨⟨by decide +kernel, by decide +kernel⟩, List.mem_of_getElem? (i := 684) (by decide +kernel), List.mem_of_getElem? (i := 1039) (by decide +kernel), List.mem_of_getElem? (i := 1040) (by decide +kernel)⟩
theorem lw_p15 : lw_okq (⟨"BrakeCurveModel", "mayNow", "(I)I"⟩, 3) := ⟨⟨by decide +kernel, by decide +kernel⟩, List.mem_of_getElem? (i := 684) (by decide +kernel), List.mem_of_getElem? (i := 1054) (by decide +kernel), List.mem_of_getElem? (i := 1055) (by decide +kernel)⟩
def lw_privs_1 : List (MethodName × Nat) := [(⟨"java/lang/Throwable", "fillInStackTrace", "(I)Ljava/lang/Throwable;"⟩, 6), (⟨"BrakeCurve", "needTrain", "(I)V"⟩, 2), (⟨"BrakeCurve", "headAfterTrial", "(II)I"⟩, 2), (⟨"BrakeCurveModel", "refuse", "(I)I"⟩, 3), (⟨"BrakeCurveModel", "isRunning", "()Z"⟩, 3), (⟨"BrakeCurveModel", "isTrain", "(I)Z"⟩, 3), (⟨"java/util/ArrayList", "add", "(Ljava/lang/Object;[Ljava/lang/Object;I)V"⟩, 3), (⟨"java/util/ArrayList", "grow", "()[Ljava/lang/Object;"⟩, 3), (⟨"java/util/ArrayList", "grow", "(I)[Ljava/lang/Object;"⟩, 3), (⟨"java/util/ArrayList", "fastRemove", "([Ljava/lang/Object;I)V"⟩, 3), (⟨"BrakeCurveModel$Line", "hears", "(I)Z"⟩, 7), (⟨"BrakeCurveModel$Line", "go", "([I)V"⟩, 7), (⟨"BrakeCurveModel$Line", "look", "(I)V"⟩, 7), (⟨"BrakeCurveModel", "ofSectionNow", "(II)I"⟩, 3), (⟨"BrakeCurveModel", "ofTrainNow", "(II)I"⟩, 3), (⟨"BrakeCurveModel", "mayNow", "(I)I"⟩, 3)]
theorem lw_r1 : ∀ q ∈ lw_privs_1, lw_okq q := List.forall_mem_cons.mpr ⟨lw_p0, List.forall_mem_cons.mpr ⟨lw_p1, List.forall_mem_cons.mpr ⟨lw_p2, List.forall_mem_cons.mpr ⟨lw_p3, List.forall_mem_cons.mpr ⟨lw_p4, List.forall_mem_cons.mpr ⟨lw_p5, List.forall_mem_cons.mpr ⟨lw_p6, List.forall_mem_cons.mpr ⟨lw_p7, List.forall_mem_cons.mpr ⟨lw_p8, List.forall_mem_cons.mpr ⟨lw_p9, List.forall_mem_cons.mpr ⟨lw_p10, List.forall_mem_cons.mpr ⟨lw_p11, List.forall_mem_cons.mpr ⟨lw_p12, List.forall_mem_cons.mpr ⟨lw_p13, List.forall_mem_cons.mpr ⟨lw_p14, List.forall_mem_cons.mpr ⟨lw_p15, fun _ h => absurd h List.not_mem_nil⟩⟩⟩⟩⟩⟩⟩⟩⟩⟩⟩⟩⟩⟩⟩⟩
theorem lw_p16 : lw_okq (⟨"BrakeCurveModel", "whyNow", "(I)I"⟩, 3) := ⟨⟨by decide +kernel, by decide +kernel⟩, List.mem_of_getElem? (i := 684) (by decide +kernel), List.mem_of_getElem? (i := 1063) (by decide +kernel), List.mem_of_getElem? (i := 1064) (by decide +kernel)⟩
theorem lw_p17 : lw_okq (⟨"BrakeCurveModel", "isStation", "(I)Z"⟩, 3) := ⟨⟨by decide +kernel, by decide +kernel⟩, List.mem_of_getElem? (i := 684) (by decide +kernel), List.mem_of_getElem? (i := 1072) (by decide +kernel), List.mem_of_getElem? (i := 1073) (by decide +kernel)⟩
theorem lw_p18 : lw_okq (⟨"BrakeCurveModel", "manyNow", "(I)I"⟩, 3) := ⟨⟨by decide +kernel, by decide +kernel⟩, List.mem_of_getElem? (i := 684) (by decide +kernel), List.mem_of_getElem? (i := 1080) (by decide +kernel), List.mem_of_getElem? (i := 1081) (by decide +kernel)⟩
theorem lw_p19 : lw_okq (⟨"BrakeCurveModel", "reachesNow", "(III)I"⟩, 3) := ⟨⟨by decide +kernel, by decide +kernel⟩, List.mem_of_getElem? (i := 684) (by decide +kernel), List.mem_of_getElem? (i := 1092) (by decide +kernel), List.mem_of_getElem? (i := 1093) (by decide +kernel)⟩
theorem lw_p20 : lw_okq (⟨"BrakeCurveModel", "closestNow", "(II)I"⟩, 3) := ⟨⟨by decide +kernel, by decide +kernel⟩, List.mem_of_getElem? (i := 684) (by decide +kernel), List.mem_of_getElem? (i := 1125) (by decide +kernel), List.mem_of_getElem? (i := 1126) (by decide +kernel)⟩
theorem lw_p21 : lw_okq (⟨"BrakeCurveModel", "worksNow", "(III)I"⟩, 3) := ⟨⟨by decide +kernel, by decide +kernel⟩, List.mem_of_getElem? (i := 684) (by decide +kernel), List.mem_of_getElem? (i := 1137) (by decide +kernel), List.mem_of_getElem? (i := 1138) (by decide +kernel)⟩
theorem lw_p22 : lw_okq (⟨"BrakeCurveModel", "add", "(I)V"⟩, 3) := ⟨⟨by decide +kernel, by decide +kernel⟩, List.mem_of_getElem? (i := 684) (by decide +kernel), List.mem_of_getElem? (i := 1146) (by decide +kernel), List.mem_of_getElem? (i := 1147) (by decide +kernel)⟩
def lw_privs_2 : List (MethodName × Nat) := [(⟨"BrakeCurveModel", "whyNow", "(I)I"⟩, 3), (⟨"BrakeCurveModel", "isStation", "(I)Z"⟩, 3), (⟨"BrakeCurveModel", "manyNow", "(I)I"⟩, 3), (⟨"BrakeCurveModel", "reachesNow", "(III)I"⟩, 3), (⟨"BrakeCurveModel", "closestNow", "(II)I"⟩, 3), (⟨"BrakeCurveModel", "worksNow", "(III)I"⟩, 3), (⟨"BrakeCurveModel", "add", "(I)V"⟩, 3)]
theorem lw_r2 : ∀ q ∈ lw_privs_2, lw_okq q := List.forall_mem_cons.mpr ⟨lw_p16, List.forall_mem_cons.mpr ⟨lw_p17, List.forall_mem_cons.mpr ⟨lw_p18, List.forall_mem_cons.mpr ⟨lw_p19, List.forall_mem_cons.mpr ⟨lw_p20, List.forall_mem_cons.mpr ⟨lw_p21, List.forall_mem_cons.mpr ⟨lw_p22, fun _ h => absurd h List.not_mem_nil⟩⟩⟩⟩⟩⟩⟩
def lw_privs : List (MethodName × Nat) := lw_privs_1 ++ (lw_privs_2)
def lw_tbl : List Cond := k2_sels lw_privs ++ tables_1
theorem lw_privs_ok : ∀ q ∈ lw_privs, lw_okq q := by
  show ∀ q ∈ lw_privs_1 ++ (lw_privs_2), lw_okq q
  exact List.forall_mem_append.mpr ⟨lw_r1, lw_r2⟩
/-- the streams that the claim lets the run draw from -/
abbrev lw_cs : List Choice := [Jvm.Choice.named "NaN.bits"]
theorem lw_bits : nanBits ∈ lw_cs := by first | decide | exact List.mem_cons_self | simp [lw_cs, nanBits]

/-! ===== BEGIN words of one list among another's, by their places ===== -/
theorem goodIn_r {big : List Cond} (ws : List Cond) (ps : List Nat) (hp : ws = ps.filterMap (fun i => big[i]?)) (h : ws.all goodWord = true) : GoodIn big ws := by
  intro w hw
  have h1 := List.all_eq_true.mp h w hw
  rw [hp] at hw
  obtain ⟨i, -, hi⟩ := List.mem_filterMap.mp hw
  have hm : w ∈ big := by first | exact List.mem_of_getElem? hi | exact List.getElem?_mem hi
  exact ⟨hm, good_of_word h1⟩
theorem goodIn_app {big a b : List Cond} (ha : GoodIn big a) (hb : GoodIn big b) : GoodIn big (a ++ b) := fun w h => (List.mem_append.mp h).elim (ha w) (hb w)
theorem goodIn_ca {big a b : List Cond} {c : Cond} (ha : GoodIn big (c :: a)) (hb : GoodIn big b) : GoodIn big (c :: (a ++ b)) := fun w h => (List.mem_cons.mp h).elim (fun e => ha w (List.mem_cons.mpr (Or.inl e))) (fun h => (List.mem_append.mp h).elim (fun h => ha w (List.mem_cons.mpr (Or.inr h))) (hb w))
theorem goodIn_sub {big ws : List Cond} (hm : ∀ w ∈ ws, w ∈ big) (h : ws.all goodWord = true) : GoodIn big ws := fun w hw => ⟨hm w hw, good_of_word (List.all_eq_true.mp h w hw)⟩
/-! ===== END ===== -/


/-! ===== BEGIN exceptions that leave a method, and their catching by the caller (launches without stack traces) ===== -/
section VXA
/-! The laws vx_back, vx_callV, vx_callS, vx_callSW, vx_throw0, vx_throwS follow proofs of the library, with one case more: JvmDerived/Free/Laws.lean (Back.of_free), Shelf42/LK1.lean (callV, callS), Shelf/KitTraced.lean (throwNew0V, throwNewS). -/
/-- where a method has thrown q: the class by its name, the cell, what was written, the world -/
def vx_T (XC : String → State → State → Prop) (st : State) (q : Addr) (t : State) (mc ms : Nat) (free : Addr → Prop) : Prop :=
  ∃ (E : String) (ce : Cell) (L : List Loc), XC E st t ∧ t.heap[q]? = some ce ∧ ce.vm = .none ∧ st.vm.findClass E = some ce.cls ∧ st.WarmedH t.vm ∧ st.sameButNew ({ t with vm := st.vm } : State) L mc ms ∧ ∀ z ∈ L, free z.base
def vx_Q (Qc : Array Value → State → Outcome → State → Prop) (XC : String → State → State → Prop) (mc ms : Nat) (free : Addr → Prop) : Array Value → State → Outcome → State → Prop := fun a st o t =>
  (Qc a st o t ∧ ∃ L, FrameEnd st o t L mc ms ∧ ∀ q ∈ L, free q.base) ∨ ∃ q, o = .threw q ∧ vx_T XC st q t mc ms free
/-- a callee that returns or throws -/
def vx_Met (l : Launch) (y : MethodName) (ws : List Cond) (rm : Room) (Pc : Array Value → State → Prop) (Qc : Array Value → State → Outcome → State → Prop) (XC : String → State → State → Prop) (mc ms : Nat) (free : Addr → Prop) : Prop :=
  MetFree l y (headSpec ws rm) Pc (fun _ _ _ _ _ => True) (vx_Q Qc XC mc ms free)
def vx_Post (XC : String → State → State → Prop) (mc ms : Nat) (free : Addr → Prop) : Pt → Array Value → Addr → Pt → Prop := fun A a q B =>
  ∃ (g : JFrame) (mk : MethodId) (t : State) (L : List Loc) (E : String) (ce : Cell), B.U.heap = t.heap ∧ B.U.vm = t.vm ∧ XC E (A.U.calling g mk a) t ∧ t.heap[q]? = some ce ∧ ce.vm = .none ∧ A.U.vm.findClass E = some ce.cls ∧ B.locs = A.locs ++ L ∧ (∀ z ∈ L, free z.base) ∧ B.cells = A.cells + mc ∧ B.slots = A.slots + ms
def vx_Back (l : Launch) (R : Room) (p : Program) (e : Env) (below : List Frame) (s : State) (sargs : Array Value) (y : MethodName) (len W9 : Nat)
    (Pre : Pt → Array Value → Prop) (Post : Pt → Array Value → Option Value → Pt → Prop) (PostX : Pt → Array Value → Addr → Pt → Prop) : Prop :=
  ∀ (m : MethodId) (meth : Method) (c : Code) (A : Pt) (g : JFrame) (ig : Instr) (mk : MethodId) (a : Array Value),
    Stand p l e R s m sargs below meth c A.U A.locs A.cells A.slots → g.method = m → g.locals.size = c.maxLocals → decode c.code g.pc = .ok (ig, len) →
    2 * g.monitorRoom + (g.stack.map fun v => v.category).sum ≤ W9 → A.U.methodNamed? y = some mk → Pre A a →
    (∃ (v : Option Value) (B : Pt), Stand p l e R s m sargs below meth c B.U B.locs B.cells B.slots ∧ Post A a v B ∧
      Steps p.tables e below (doInvoke e (A.U.setTop g) [] mk a).1 (B.U.setTop { g with pc := g.pc + len, stack := v.toList ++ g.stack })) ∨
    (∃ (q : Addr) (B : Pt), Stand p l e R s m sargs below meth c B.U B.locs B.cells B.slots ∧ PostX A a q B ∧
      Steps p.tables e below (doInvoke e (A.U.setTop g) [] mk a).1 ((B.U.setTop g).pushFrame (.throwing q)))
section Payer
variable {l : Launch} {R : Room} {p : Program} {e : Env} {below : List Frame} {s : State} {sargs : Array Value} {y : MethodName} {len W9 : Nat}
theorem vx_back {ws : List Cond} {rm : Room} {Pc : Array Value → State → Prop} {Qc : Array Value → State → Outcome → State → Prop} {XC : String → State → State → Prop} {mc ms : Nat} {free : Addr → Prop} {bytes : ByteArray} {maxL : Nat} {ret : Option FieldType}
    (hM : vx_Met l y ws rm Pc Qc XC mc ms free) (hblind : FrameBlind Pc) (hrc : rm.cells = mc) (hrs : rm.slots = ms)
    (hframes : rm.frames + 1 ≤ R.frames) (hlocals : W9 + (maxL + 11) + rm.locals ≤ R.locals)
    (hws : ∀ w ∈ ws, ∀ a' U, s.WarmedH U.vm → w.before a' U = true) (hcode : Cond.code y bytes maxL ret ∈ ws) (hinit : ∀ a' U, s.WarmedH U.vm → (Cond.initialized y.cls).before a' U = true) :
    vx_Back l R p e below s sargs y len W9 (PreOf R mc ms Pc) (PostOf Qc mc ms free) (vx_Post XC mc ms free) := by
  intro m meth c A g ig mk a X hg hsize hdg hW hn hp
  have h1 : (headSpec ws rm).pre.before a A.U = true := atoms_intro fun w hw => hws w hw _ _ X.warmed
  have h2 : (Cond.code y bytes maxL ret).before a A.U = true := hws _ hcode _ _ X.warmed
  have h3 : (Cond.initialized y.cls).before a A.U = true := hinit _ _ X.warmed
  have h4 : A.cells + (headSpec ws rm).room.cells ≤ R.cells := by rw [show (headSpec ws rm).room.cells = mc from hrc]; exact hp.1
  have h5 : A.slots + (headSpec ws rm).room.slots ≤ R.slots := by rw [show (headSpec ws rm).room.slots = ms from hrs]; exact hp.2.1
  have hPc : Pc a (A.U.calling g mk a) := hblind _ _ _ _ hp.2.2
  obtain ⟨U, Ls, c0, s0⟩ := A
  dsimp only [Pt.U, Pt.locs, Pt.cells, Pt.slots] at h1 h2 h3 h4 h5 X hn hPc ⊢
  obtain ⟨methY, cY, hmY, hcY, -, hlY, -, -, -, -⟩ := Cond.code_spec hn h2
  obtain ⟨kY, hkY, -⟩ := className_of_methodNamed hn
  have hinitY : kY.init = .initialized := Cond.initialized_spec (findClass_of_methodNamed hn) hkY h3
  have h : At U g.method c below := by rw [hg]; exact X.here
  have hlocals9 : W9 + (maxL + 11) + (headSpec ws rm).room.locals ≤ R.locals := hlocals
  have happ : (headSpec ws rm).appliesLoose y e.platform (U.calling g mk a) = true :=
    Spec.appliesLoose_calling (g := g) h hdg hn hkY hinitY
      (X.room_calling (g := g) (R' := (headSpec ws rm).room) hsize hmY hcY hframes (by rw [hlY]; omega) h4 h5) h1
  obtain ⟨mid, hmid⟩ := h.above
  have hfr : (U.setTop g).frames = (.java g :: mid) ++ below := by rw [State.frames_setTop' g h.top, hmid]; rfl
  obtain ⟨o, s₂, hsteps, -, hend, hq⟩ := Steps.callFree hM p X.admits X.cas X.clock (acts := []) hfr happ hPc trivial
  have hq' : vx_Q Qc XC mc ms free a (U.calling g mk a) o s₂ := hq
  rw [State.frames_setTop' g h.top] at hend
  obtain ⟨g₀, hg0⟩ := Option.isSome_iff_exists.mp h.top
  obtain ⟨r, hr⟩ := State.topJava?_eq_some.mp hg0
  have hr' : (({ U with heap := s₂.heap, slotsUsed := s₂.slotsUsed } : State).setVm s₂.vm).frames = .java g₀ :: r := hr
  rcases hq' with ⟨hqc, L, hfe, hL⟩ | ⟨q, rfl, E, ce, L, hx, hce, hcv, hcl, hW₂, hsm, hL⟩
  · obtain ⟨⟨v, rfl⟩, hW₂, e2, q2, q3, q4, q5, q6⟩ := id hfe
    have e3 : s₂ = ({ (U.calling g mk a).setFrames s₂.frames with heap := s₂.heap, slotsUsed := s₂.slotsUsed } : State).setVm s₂.vm := by
      have : s₂ = ({ s₂ with vm := (U.calling g mk a).vm } : State).setVm s₂.vm := rfl
      rw [e2] at this
      exact this
    obtain ⟨c₂, i₂, len₂, hc₂, hd₂, hf₂⟩ := hend
    have hW' : U.WarmedH s₂.vm := hW₂
    have hcc : c₂ = c := by
      have h1 : s₂.code? g.method = U.code? g.method := by
        rw [State.code?_eq, State.code?_eq, hW'.alike.method?]
      exact Option.some.inj (hc₂.symm.trans (h1.trans h.code))
    subst hcc
    have hlen : len₂ = len := by rw [hdg] at hd₂; cases hd₂; rfl
    subst hlen
    have hs₂ : s₂ = (({ U with heap := s₂.heap, slotsUsed := s₂.slotsUsed } : State).setVm s₂.vm).setTop { g with pc := g.pc + len₂, stack := v.toList ++ g.stack } := by
      refine e3.trans ?_
      rw [hf₂, State.calling_eq h.top, State.setFrames_setFrames, State.setTop_of_frames _ hr', hr]
      rfl
    have hsame : U.sameButNew ({ U with heap := s₂.heap, slotsUsed := s₂.slotsUsed } : State) L mc ms := by
      refine ⟨?_, q2, q3, q4, q5, q6⟩
      obtain ⟨t, ht, -⟩ := State.frames_cons hr
      show ({ U with heap := s₂.heap, slotsUsed := s₂.slotsUsed } : State) = { U.setFrames U.frames with heap := s₂.heap, slotsUsed := s₂.slotsUsed }
      rw [State.setFrames_self ht]
    subst hg
    refine Or.inl ⟨v, ⟨(({ U with heap := s₂.heap, slotsUsed := s₂.slotsUsed } : State).setVm s₂.vm), Ls ++ L, c0 + mc, s0 + ms⟩,
      ⟨X.admits, X.cas, X.clock, X.frames, X.room, X.hears, X.method, X.code, (X.here.setHeapUsed s₂.heap s₂.slotsUsed).setVm hW'.alike, X.tail, State.WarmedH.trans X.warmed hW', X.limits, X.bytes, X.same.trans (hsame.setVm s.vm)⟩,
      ⟨g, mk, s₂, L, rfl, rfl, hqc, rfl, hL, rfl, rfl⟩, ?_⟩
    show Steps p.tables e below _ ((({ U with heap := s₂.heap, slotsUsed := s₂.slotsUsed } : State).setVm s₂.vm).setTop { g with pc := g.pc + len₂, stack := v.toList ++ g.stack })
    rw [← hs₂]
    exact hsteps
  · obtain ⟨e2, q2, q3, q4, q5, q6⟩ := id hsm
    have e3 : s₂ = ({ (U.calling g mk a).setFrames s₂.frames with heap := s₂.heap, slotsUsed := s₂.slotsUsed } : State).setVm s₂.vm := by
      have : s₂ = ({ s₂ with vm := (U.calling g mk a).vm } : State).setVm s₂.vm := rfl
      rw [e2] at this
      exact this
    have hf₂ : s₂.frames = .throwing q :: .java g :: U.frames.tail := hend
    have hW' : U.WarmedH s₂.vm := hW₂
    have hs₂ : s₂ = ((({ U with heap := s₂.heap, slotsUsed := s₂.slotsUsed } : State).setVm s₂.vm).setTop g).pushFrame (.throwing q) := by
      refine e3.trans ?_
      rw [hf₂, State.calling_eq h.top, State.setFrames_setFrames, State.pushFrame, State.frames_setTop _ hr', State.setTop_of_frames _ hr', State.setFrames_setFrames, hr]
      rfl
    have hsame : U.sameButNew ({ U with heap := s₂.heap, slotsUsed := s₂.slotsUsed } : State) L mc ms := by
      refine ⟨?_, q2, q3, q4, q5, q6⟩
      obtain ⟨t, ht, -⟩ := State.frames_cons hr
      show ({ U with heap := s₂.heap, slotsUsed := s₂.slotsUsed } : State) = { U.setFrames U.frames with heap := s₂.heap, slotsUsed := s₂.slotsUsed }
      rw [State.setFrames_self ht]
    subst hg
    refine Or.inr ⟨q, ⟨(({ U with heap := s₂.heap, slotsUsed := s₂.slotsUsed } : State).setVm s₂.vm), Ls ++ L, c0 + mc, s0 + ms⟩,
      ⟨X.admits, X.cas, X.clock, X.frames, X.room, X.hears, X.method, X.code, (X.here.setHeapUsed s₂.heap s₂.slotsUsed).setVm hW'.alike, X.tail, State.WarmedH.trans X.warmed hW', X.limits, X.bytes, X.same.trans (hsame.setVm s.vm)⟩,
      ⟨g, mk, s₂, L, E, ce, rfl, rfl, hx, hce, hcv, hcl, rfl, hL, rfl, rfl⟩, ?_⟩
    show Steps p.tables e below _ (((({ U with heap := s₂.heap, slotsUsed := s₂.slotsUsed } : State).setVm s₂.vm).setTop g).pushFrame (.throwing q))
    rw [← hs₂]
    exact hsteps
end Payer
section Calls
variable {p : Program} {l : Launch} {e : Env} {R : Room} {s : State} {m : MethodId} {args : Array Value} {below : List Frame} {meth : Method} {c : Code} {T : State} {locs : List Loc} {cells slots : Nat}
theorem vx_callV (X : Stand p l e R s m args below meth c T locs cells slots) (hexec : p.tables.exec = Jvm.exec) {own C : String} {index : Nat} {y : MethodName} {bytes : ByteArray} {maxL : Nat} {ret : Option FieldType}
    (hown : s.vm.findClass own = some m.cls) (hlink : (Cond.methodLink own index y).before args s = true) (hinst : (Cond.instanceMethod y).before args s = true) (hsel : (Cond.selects C y y).before args s = true)
    (hcode : (Cond.code y bytes maxL ret).before args s = true) (hy : y.cls ≠ "java/lang/invoke/MethodHandle" ∧ y.cls ≠ "java/lang/invoke/VarHandle")
    {W9 : Nat} {Pre : Pt → Array Value → Prop} {Post : Pt → Array Value → Option Value → Pt → Prop} {PostX : Pt → Array Value → Addr → Pt → Prop} (hK : vx_Back l R p e below s args y 3 W9 Pre Post PostX)
    {b : Addr} {cellB : Cell} (hcell : T.heap[b]? = some cellB) (hobj : cellB.vm.isStatics = false) (hcls : s.vm.findClass C = some cellB.cls)
    {g : JFrame} (hg : g.method = m) (hsize : g.locals.size = c.maxLocals) {argsL rest : List Value} (hlen : ∀ sig, parseMethodDescriptor y.desc = some sig → argsL.length = sig.parameters.length)
    (hstack : g.stack = argsL.reverse ++ .ref b :: rest) (hW : 2 * g.monitorRoom + (rest.map fun v => v.category).sum ≤ W9) (hdg : decode c.code g.pc = .ok (.invokevirtual index, 3))
    (hpre : ∀ vm₁, s.WarmedH vm₁ → Pre ⟨T.setVm vm₁, locs, cells, slots⟩ (Value.ref b :: argsL).toArray) :
    (∃ (v : Option Value) (vm₁ : Vm) (B : Pt), s.WarmedH vm₁ ∧ Stand p l e R s m args below meth c B.U B.locs B.cells B.slots ∧ Post ⟨T.setVm vm₁, locs, cells, slots⟩ (Value.ref b :: argsL).toArray v B ∧
      ∀ target, Steps p.tables e below (B.U.setTop { g with pc := g.pc + 3, stack := v.toList ++ rest }) target → Steps p.tables e below (T.setTop g) target) ∨
    (∃ (q : Addr) (vm₁ : Vm) (B : Pt), s.WarmedH vm₁ ∧ Stand p l e R s m args below meth c B.U B.locs B.cells B.slots ∧ PostX ⟨T.setVm vm₁, locs, cells, slots⟩ (Value.ref b :: argsL).toArray q B ∧
      Steps p.tables e below (T.setTop g) ((B.U.setTop { g with stack := rest }).pushFrame (.throwing q))) := by
  obtain ⟨mk, methM, hnamed, hmethM, hstM, habM⟩ := Cond.instanceMethod_spec hinst
  obtain ⟨methM', cM, hmethM', -, -, -, -, -, -, hsigM⟩ := Cond.code_spec hnamed hcode
  cases hmethM.symm.trans hmethM'
  obtain ⟨c2, r2, m2, q1, q2, q3, q4, kP, hkP, hkPi⟩ := Cond.selects_spec hsel
  cases hcls.symm.trans q1
  cases (State.methodFound?_of_named hnamed hy).symm.trans q2
  cases hnamed.symm.trans q3
  have hselP : selectMethod e.platform s.vm cellB.cls mk = .method mk := by rw [Launch.admits_selectMethod X.admits]; exact q4
  obtain ⟨vm₁, X₁, hstep₁⟩ := X.invokevirtual hexec hown hlink hnamed hmethM hstM hkP hkPi hy (a := b) (cell := cellB) hcell
    (fun z h => by rw [h] at hobj; cases hobj) hselP hmethM habM hkP hkPi (g := g) hg (argsL := argsL) (rest := rest) (hlen _ hsigM) hstack hdg
  rcases hK m meth c ⟨T.setVm vm₁, locs, cells, slots⟩ { g with stack := rest } (.invokevirtual index) mk (Value.ref b :: argsL).toArray X₁ hg hsize hdg hW (X₁.named hnamed) (hpre vm₁ X₁.warmed) with ⟨v, B, X', hpost, hsteps⟩ | ⟨q, B, X', hpost, hsteps⟩
  · exact Or.inl ⟨v, vm₁, B, X₁.warmed, X', hpost, fun target h => hstep₁ _ fun acts => by rw [doInvoke_state]; exact hsteps.trans h⟩
  · exact Or.inr ⟨q, vm₁, B, X₁.warmed, X', hpost, hstep₁ _ fun acts => by rw [doInvoke_state]; exact hsteps⟩
theorem vx_callS (X : Stand p l e R s m args below meth c T locs cells slots) (hexec : p.tables.exec = Jvm.exec) {own : String} {index : Nat} {y : MethodName} {bytes : ByteArray} {maxL : Nat} {ret : Option FieldType}
    (hown : s.vm.findClass own = some m.cls) (hlink : (Cond.methodLink own index y).before args s = true) (hstat : (Cond.static y).before args s = true) (hinit : (Cond.initialized y.cls).before args s = true)
    (hcode : (Cond.code y bytes maxL ret).before args s = true) (hy : y.cls ≠ "java/lang/invoke/MethodHandle" ∧ y.cls ≠ "java/lang/invoke/VarHandle")
    {W9 : Nat} {Pre : Pt → Array Value → Prop} {Post : Pt → Array Value → Option Value → Pt → Prop} {PostX : Pt → Array Value → Addr → Pt → Prop} (hK : vx_Back l R p e below s args y 3 W9 Pre Post PostX)
    {g : JFrame} (hg : g.method = m) (hsize : g.locals.size = c.maxLocals) {argsL rest : List Value} (hlen : ∀ sig, parseMethodDescriptor y.desc = some sig → argsL.length = sig.parameters.length)
    (hstack : g.stack = argsL.reverse ++ rest) (hW : 2 * g.monitorRoom + (rest.map fun v => v.category).sum ≤ W9) (hdg : decode c.code g.pc = .ok (.invokestatic index, 3))
    (hpre : ∀ vm₁, s.WarmedH vm₁ → Pre ⟨T.setVm vm₁, locs, cells, slots⟩ argsL.toArray) :
    (∃ (v : Option Value) (vm₁ : Vm) (B : Pt), s.WarmedH vm₁ ∧ Stand p l e R s m args below meth c B.U B.locs B.cells B.slots ∧ Post ⟨T.setVm vm₁, locs, cells, slots⟩ argsL.toArray v B ∧
      ∀ target, Steps p.tables e below (B.U.setTop { g with pc := g.pc + 3, stack := v.toList ++ rest }) target → Steps p.tables e below (T.setTop g) target) ∨
    (∃ (q : Addr) (vm₁ : Vm) (B : Pt), s.WarmedH vm₁ ∧ Stand p l e R s m args below meth c B.U B.locs B.cells B.slots ∧ PostX ⟨T.setVm vm₁, locs, cells, slots⟩ argsL.toArray q B ∧
      Steps p.tables e below (T.setTop g) ((B.U.setTop { g with stack := rest }).pushFrame (.throwing q))) := by
  obtain ⟨mk, hnamed⟩ := Cond.code_named hcode
  obtain ⟨methM, cM, hmethM, -, -, -, -, -, -, hsigM⟩ := Cond.code_spec hnamed hcode
  have hstatic : methM.isStatic = true := Cond.static_spec hnamed hmethM hstat
  obtain ⟨kP, hkP, -⟩ := className_of_methodNamed hnamed
  have hinitP : kP.init = .initialized := Cond.initialized_spec (findClass_of_methodNamed hnamed) hkP hinit
  obtain ⟨vm₁, X₁, hstep₁⟩ := X.invokestatic hexec hown hlink hnamed hmethM hstatic hkP hinitP hy (g := g) hg (argsL := argsL) (rest := rest) (hlen _ hsigM) hstack hdg
  rcases hK m meth c ⟨T.setVm vm₁, locs, cells, slots⟩ { g with stack := rest } (.invokestatic index) mk argsL.toArray X₁ hg hsize hdg hW (X₁.named hnamed) (hpre vm₁ X₁.warmed) with ⟨v, B, X', hpost, hsteps⟩ | ⟨q, B, X', hpost, hsteps⟩
  · exact Or.inl ⟨v, vm₁, B, X₁.warmed, X', hpost, fun target h => hstep₁ _ fun acts => by rw [doInvoke_state]; exact hsteps.trans h⟩
  · exact Or.inr ⟨q, vm₁, B, X₁.warmed, X', hpost, hstep₁ _ fun acts => by rw [doInvoke_state]; exact hsteps⟩
end Calls
theorem vx_cls {s : State} {T : State} {vm₁ : Vm} {E : String} {k : ClassId} (hW : s.WarmedH vm₁) (h : (T.setVm vm₁).vm.findClass E = some k) : s.vm.findClass E = some k := by
  have h1 : vm₁.findClass E = some k := h
  rw [hW.alike.findClass] at h1
  exact h1
/-- the method's frame g, with q thrown over it -/
def vx_W (p : Program) (l : Launch) (e : Env) (R : Room) (s : State) (m : MethodId) (args : Array Value) (below : List Frame) (meth : Method) (c : Code) (H : Heap) (locs : List Loc) (cells slots : Nat) (Q : State → Prop) (g : JFrame) (q : Addr) : Prop :=
  ∀ T : State, T.heap = H → Stand p l e R s m args below meth c T locs cells slots → ∃ t, Steps p.tables e below ((T.setTop g).pushFrame (.throwing q)) t ∧ Q t
def vx_Run (p : Program) (l : Launch) (e : Env) (R : Room) (s : State) (m : MethodId) (args : Array Value) (below : List Frame) (meth : Method) (c : Code) (H : Heap) (locs : List Loc) (cells slots mc ms : Nat) (g : JFrame) (rest : List Value) (Qa : State → Outcome → State → Prop) (XC : String → State → State → Prop) (free : Addr → Prop) : Prop :=
  ∀ T : State, T.heap = H → Stand p l e R s m args below meth c T locs cells slots →
    (∃ (v : Option Value) (st₀ t T' : State) (L : List Loc), st₀.heap = H ∧ Stand p l e R s m args below meth c T' (locs ++ L) (cells + mc) (slots + ms) ∧ (∀ q ∈ L, free q.base) ∧ T'.heap = t.heap ∧ T'.vm = t.vm ∧ Qa st₀ (.returned v) t ∧
      Goes p e below T g T' { g with pc := g.pc + 3, stack := v.toList ++ rest }) ∨
    (∃ (q : Addr) (st₀ t T' : State) (L : List Loc) (E : String) (ce : Cell), st₀.heap = H ∧ Stand p l e R s m args below meth c T' (locs ++ L) (cells + mc) (slots + ms) ∧ (∀ z ∈ L, free z.base) ∧ T'.heap = t.heap ∧ T'.vm = t.vm ∧ XC E st₀ t ∧ t.heap[q]? = some ce ∧ ce.vm = .none ∧ s.vm.findClass E = some ce.cls ∧
      Steps p.tables e below (T.setTop g) ((T'.setTop { g with stack := rest }).pushFrame (.throwing q)))
def vx_X {S : Type} (px : S → Prop) (B : String → S → State → Prop) (A : Nat → Prop) : String → State → State → Prop := fun E st t => ∃ u : S, px u ∧ B E u t ∧ va_F A st t
section Runs
variable {p : Program} {l : Launch} {e : Env} {R : Room} {s : State} {m : MethodId} {args : Array Value} {below : List Frame} {meth : Method} {c : Code} {H : Heap} {locs : List Loc} {cells slots : Nat}
variable {y : MethodName} {bytes cc : ByteArray} {maxL nL mc ms n index : Nat} {ret : Option FieldType} {ws : List Cond} {rm : Room} {Pc : Array Value → State → Prop} {Qc : Array Value → State → Outcome → State → Prop} {XC : String → State → State → Prop} {free : Addr → Prop} {Ts : List Cond} {own C : String} {b : Addr} {As rest : List Value} {g : JFrame}
theorem vx_callBack (cb : CallB R s args own index y bytes maxL ret ws rm mc ms n) (hM : vx_Met l y ws rm Pc Qc XC mc ms free) (hbl : FrameBlind Pc) : vx_Back l R p e below s args y 3 8 (PreOf R mc ms Pc) (PostOf Qc mc ms free) (vx_Post XC mc ms free) := by
  obtain ⟨hrc, hrs, hfr, hlo, hws, hcw, -, hini, -⟩ := cb
  exact vx_back (bytes := bytes) (maxL := maxL) (ret := ret) hM hbl hrc hrs hfr hlo hws hcw (fun a' U hW => word_at hW (Or.inl (by first | rfl | simp [Cond.onTables, Cond.keeps, Cond.steady])) hini)
theorem vx_runV (S : CallFix p m c cc nL s args Ts own) (hM : vx_Met l y ws rm Pc Qc XC mc ms free) (cw : CallW R s args own C index y bytes maxL ret ws rm mc ms n) (hp : PreV s H C b Pc As)
    (hg : g.method = m) (hn : As.length = n) (hsize : g.locals.size = nL) (hstack : g.stack = As.reverse ++ .ref b :: rest) (hW : 2 * g.monitorRoom + (rest.map fun v => v.category).sum ≤ 8) (hdg : decode cc g.pc = .ok (.invokevirtual index, 3)) (hf : cells + mc ≤ R.cells ∧ slots + ms ≤ R.slots) :
    vx_Run p l e R s m args below meth c H locs cells slots mc ms g rest (Qc (Value.ref b :: As).toArray) XC free := by
  have hK : vx_Back l R p e below s args y 3 8 (PreOf R mc ms Pc) (PostOf Qc mc ms free) (vx_Post XC mc ms free) := vx_callBack cw.1 hM hp.1
  obtain ⟨⟨-, -, -, -, -, -, hcode, -, hy, hlen, hl⟩, hin, hse⟩ := cw
  obtain ⟨hx, hb, hml, ho, -⟩ := S
  obtain ⟨-, ⟨cellB, hcB, hoB, hclB⟩, hPc⟩ := hp
  intro T hT X
  rcases vx_callV X hx (C := C) (bytes := bytes) (maxL := maxL) (ret := ret) ho hl hin hse hcode hy hK (by rw [hT]; exact hcB) hoB hclB hg (hsize.trans hml.symm) (argsL := As) (rest := rest) (fun sig h => hn.trans (hlen sig h)) hstack hW (by rw [hb]; exact hdg)
    (fun vm₁ hW₁ => ⟨hf.1, hf.2, hPc (T.setVm vm₁) hT hW₁⟩) with ⟨v, vm₁, ⟨U', l2, c2, s2⟩, hW₁, X', ⟨g', mk, t, L, e1, e2, hq, h1, hL, h2, h3⟩, st⟩ | ⟨q, vm₁, ⟨U', l2, c2, s2⟩, hW₁, X', ⟨g', mk, t, L, E, ce, e1, e2, hq, hce, hcv, hcl, h1, hL, h2, h3⟩, st⟩
  · dsimp only [Pt.U, Pt.locs, Pt.cells, Pt.slots] at X' e1 e2 h1 h2 h3 st
    subst h1; subst h2; subst h3
    exact Or.inl ⟨v, (T.setVm vm₁).calling g' mk (Value.ref b :: As).toArray, t, U', L, hT, X', hL, e1, e2, hq, st⟩
  · dsimp only [Pt.U, Pt.locs, Pt.cells, Pt.slots] at X' e1 e2 h1 h2 h3 st hcl
    subst h1; subst h2; subst h3
    exact Or.inr ⟨q, (T.setVm vm₁).calling g' mk (Value.ref b :: As).toArray, t, U', L, E, ce, hT, X', hL, e1, e2, hq, hce, hcv, vx_cls hW₁ hcl, st⟩
theorem vx_runS (S : CallFix p m c cc nL s args Ts own) (hM : vx_Met l y ws rm Pc Qc XC mc ms free) (cw : CallB R s args own index y bytes maxL ret ws rm mc ms n ∧ (Cond.static y).before args s = true) (hp : PreS s H Pc As)
    (hg : g.method = m) (hn : As.length = n) (hsize : g.locals.size = nL) (hstack : g.stack = As.reverse ++ rest) (hW : 2 * g.monitorRoom + (rest.map fun v => v.category).sum ≤ 8) (hdg : decode cc g.pc = .ok (.invokestatic index, 3)) (hf : cells + mc ≤ R.cells ∧ slots + ms ≤ R.slots) :
    vx_Run p l e R s m args below meth c H locs cells slots mc ms g rest (Qc As.toArray) XC free := by
  have hK : vx_Back l R p e below s args y 3 8 (PreOf R mc ms Pc) (PostOf Qc mc ms free) (vx_Post XC mc ms free) := vx_callBack cw.1 hM hp.1
  obtain ⟨⟨-, -, -, -, -, -, hcode, hini, hy, hlen, hl⟩, hstt⟩ := cw
  obtain ⟨hx, hb, hml, ho, -⟩ := S
  intro T hT X
  rcases vx_callS X hx (bytes := bytes) (maxL := maxL) (ret := ret) ho hl hstt hini hcode hy hK hg (hsize.trans hml.symm) (argsL := As) (rest := rest) (fun sig h => hn.trans (hlen sig h)) hstack hW (by rw [hb]; exact hdg)
    (fun vm₁ hW₁ => ⟨hf.1, hf.2, hp.2 (T.setVm vm₁) hT hW₁⟩) with ⟨v, vm₁, ⟨U', l2, c2, s2⟩, hW₁, X', ⟨g', mk, t, L, e1, e2, hq, h1, hL, h2, h3⟩, st⟩ | ⟨q, vm₁, ⟨U', l2, c2, s2⟩, hW₁, X', ⟨g', mk, t, L, E, ce, e1, e2, hq, hce, hcv, hcl, h1, hL, h2, h3⟩, st⟩
  · dsimp only [Pt.U, Pt.locs, Pt.cells, Pt.slots] at X' e1 e2 h1 h2 h3 st
    subst h1; subst h2; subst h3
    exact Or.inl ⟨v, (T.setVm vm₁).calling g' mk As.toArray, t, U', L, hT, X', hL, e1, e2, hq, st⟩
  · dsimp only [Pt.U, Pt.locs, Pt.cells, Pt.slots] at X' e1 e2 h1 h2 h3 st hcl
    subst h1; subst h2; subst h3
    exact Or.inr ⟨q, (T.setVm vm₁).calling g' mk As.toArray, t, U', L, E, ce, hT, X', hL, e1, e2, hq, hce, hcv, vx_cls hW₁ hcl, st⟩
end Runs
section Rows
variable {p : Program} {l : Launch} {e : Env} {R : Room} {s : State} {m : MethodId} {args : Array Value} {below : List Frame} {meth : Method} {c : Code} {H : Heap} {locs : List Loc} {cells slots : Nat} {Q : State → Prop}
variable {mc ms : Nat} {free : Addr → Prop} {A0 A1 : Nat → Prop} {H0 : Heap} {a : Array Value} {pc : Nat} {ls : Array Slot} {st0 rest : List Value}
theorem vx_keep {st₀ t T' : State} {L : List Loc} (h0 : st₀.heap = H) (e1 : T'.heap = t.heap) (hS : va_S A0 H0 H locs) (hA : ∀ q, q < H.size → A1 q → A0 q) (hf : ∀ q, free q → A0 q) (hL : ∀ q ∈ L, free q.base) (hF : va_F A1 st₀ t) :
    H.size ≤ T'.heap.size ∧ (∀ q : Nat, q < H.size → ¬ A1 q → T'.heap[q]? = H[q]?) ∧ va_S A0 H0 T'.heap (locs ++ L) := by
  obtain ⟨hz, hk⟩ := hF
  rw [h0] at hz hk
  exact ⟨by rw [e1]; exact hz, fun q h1 h2 => by rw [e1]; exact hk q h1 h2,
    ⟨Nat.le_trans hS.1 (by rw [e1]; exact hz), fun q h1 h2 => by rw [e1, hk q (Nat.lt_of_lt_of_le h1 hS.1) (fun z => h2 (hA q (Nat.lt_of_lt_of_le h1 hS.1) z))]; exact hS.2.1 q h1 h2, fun q hq => by
      rcases List.mem_append.mp hq with h | h
      · exact hS.2.2 q h
      · exact hf _ (hL q h)⟩⟩
theorem vx_calli {S SX : Type} {post : Int32 → S → Prop} {px : SX → Prop} {B : S → State → Prop} {BX : String → SX → State → Prop} {AX : Nat → Prop} (hr : vx_Run p l e R s m args below meth c H locs cells slots mc ms (F0 m pc ls st0) rest (va_Qi post B A1 a) (vx_X px BX AX) free) (hS : va_S A0 H0 H locs) (hA : ∀ q, q < H.size → A1 q → A0 q) (hf : ∀ q, free q → A0 q) (hAX : ∀ q, q < H.size → AX q → A0 q)
    (kx : ∀ (E : String) (ce : Cell) (q9 : Addr) (u : SX) (t : State) (H1 : Heap) (locs1 : List Loc), t.heap = H1 → s.vm.Alike t.vm → px u → BX E u t → H.size ≤ H1.size → (∀ q : Nat, q < H.size → ¬ AX q → H1[q]? = H[q]?) → va_S A0 H0 H1 locs1 → H1[q9]? = some ce → ce.vm = .none → s.vm.findClass E = some ce.cls → vx_W p l e R s m args below meth c H1 locs1 (cells + mc) (slots + ms) Q (F0 m pc ls rest) q9)
    (kk : ∀ (r : Int32) (u : S) (t : State) (H1 : Heap) (locs1 : List Loc), t.heap = H1 → s.vm.Alike t.vm → post r u → B u t → H.size ≤ H1.size → (∀ q : Nat, q < H.size → ¬ A1 q → H1[q]? = H[q]?) → va_S A0 H0 H1 locs1 → W p l e R s m args below meth c H1 locs1 (cells + mc) (slots + ms) Q (F0 m (pc + 3) ls (.int r :: rest))) : W p l e R s m args below meth c H locs cells slots Q (F0 m pc ls st0) := by
  intro T hT X
  rcases hr T hT X with ⟨v, st₀, t, T', L, h0, X', hL, e1, e2, ⟨⟨r, u, hv, hp, hb⟩, hF⟩, st⟩ | ⟨q, st₀, t, T', L, E, ce, h0, X', hL, e1, e2, ⟨u, hp, hb, hF⟩, hce, hcv, hcl, st⟩
  · cases hv
    obtain ⟨k1, k2, k3⟩ := vx_keep h0 e1 hS hA hf hL hF
    obtain ⟨t2, a1, b1⟩ := kk r u t T'.heap (locs ++ L) e1.symm (by rw [← e2]; exact X'.warmed.alike) hp hb k1 k2 k3 T' rfl X'
    exact ⟨t2, st t2 a1, b1⟩
  · obtain ⟨k1, k2, k3⟩ := vx_keep h0 e1 hS hAX hf hL hF
    obtain ⟨t2, a1, b1⟩ := kx E ce q u t T'.heap (locs ++ L) e1.symm (by rw [← e2]; exact X'.warmed.alike) hp hb k1 k2 k3 (by rw [e1]; exact hce) hcv hcl T' rfl X'
    exact ⟨t2, st.trans a1, b1⟩
theorem vx_calll {S SX : Type} {post : Int64 → S → Prop} {px : SX → Prop} {B : S → State → Prop} {BX : String → SX → State → Prop} {AX : Nat → Prop} (hr : vx_Run p l e R s m args below meth c H locs cells slots mc ms (F0 m pc ls st0) rest (va_Ql post B A1 a) (vx_X px BX AX) free) (hS : va_S A0 H0 H locs) (hA : ∀ q, q < H.size → A1 q → A0 q) (hf : ∀ q, free q → A0 q) (hAX : ∀ q, q < H.size → AX q → A0 q)
    (kx : ∀ (E : String) (ce : Cell) (q9 : Addr) (u : SX) (t : State) (H1 : Heap) (locs1 : List Loc), t.heap = H1 → s.vm.Alike t.vm → px u → BX E u t → H.size ≤ H1.size → (∀ q : Nat, q < H.size → ¬ AX q → H1[q]? = H[q]?) → va_S A0 H0 H1 locs1 → H1[q9]? = some ce → ce.vm = .none → s.vm.findClass E = some ce.cls → vx_W p l e R s m args below meth c H1 locs1 (cells + mc) (slots + ms) Q (F0 m pc ls rest) q9)
    (kk : ∀ (r : Int64) (u : S) (t : State) (H1 : Heap) (locs1 : List Loc), t.heap = H1 → s.vm.Alike t.vm → post r u → B u t → H.size ≤ H1.size → (∀ q : Nat, q < H.size → ¬ A1 q → H1[q]? = H[q]?) → va_S A0 H0 H1 locs1 → W p l e R s m args below meth c H1 locs1 (cells + mc) (slots + ms) Q (F0 m (pc + 3) ls (.long r :: rest))) : W p l e R s m args below meth c H locs cells slots Q (F0 m pc ls st0) := by
  intro T hT X
  rcases hr T hT X with ⟨v, st₀, t, T', L, h0, X', hL, e1, e2, ⟨⟨r, u, hv, hp, hb⟩, hF⟩, st⟩ | ⟨q, st₀, t, T', L, E, ce, h0, X', hL, e1, e2, ⟨u, hp, hb, hF⟩, hce, hcv, hcl, st⟩
  · cases hv
    obtain ⟨k1, k2, k3⟩ := vx_keep h0 e1 hS hA hf hL hF
    obtain ⟨t2, a1, b1⟩ := kk r u t T'.heap (locs ++ L) e1.symm (by rw [← e2]; exact X'.warmed.alike) hp hb k1 k2 k3 T' rfl X'
    exact ⟨t2, st t2 a1, b1⟩
  · obtain ⟨k1, k2, k3⟩ := vx_keep h0 e1 hS hAX hf hL hF
    obtain ⟨t2, a1, b1⟩ := kx E ce q u t T'.heap (locs ++ L) e1.symm (by rw [← e2]; exact X'.warmed.alike) hp hb k1 k2 k3 (by rw [e1]; exact hce) hcv hcl T' rfl X'
    exact ⟨t2, st.trans a1, b1⟩
theorem vx_callf {S SX : Type} {post : UInt32 → S → Prop} {px : SX → Prop} {B : S → State → Prop} {BX : String → SX → State → Prop} {AX : Nat → Prop} (hr : vx_Run p l e R s m args below meth c H locs cells slots mc ms (F0 m pc ls st0) rest (va_Qf post B A1 a) (vx_X px BX AX) free) (hS : va_S A0 H0 H locs) (hA : ∀ q, q < H.size → A1 q → A0 q) (hf : ∀ q, free q → A0 q) (hAX : ∀ q, q < H.size → AX q → A0 q)
    (kx : ∀ (E : String) (ce : Cell) (q9 : Addr) (u : SX) (t : State) (H1 : Heap) (locs1 : List Loc), t.heap = H1 → s.vm.Alike t.vm → px u → BX E u t → H.size ≤ H1.size → (∀ q : Nat, q < H.size → ¬ AX q → H1[q]? = H[q]?) → va_S A0 H0 H1 locs1 → H1[q9]? = some ce → ce.vm = .none → s.vm.findClass E = some ce.cls → vx_W p l e R s m args below meth c H1 locs1 (cells + mc) (slots + ms) Q (F0 m pc ls rest) q9)
    (kk : ∀ (r : UInt32) (u : S) (t : State) (H1 : Heap) (locs1 : List Loc), t.heap = H1 → s.vm.Alike t.vm → post r u → B u t → H.size ≤ H1.size → (∀ q : Nat, q < H.size → ¬ A1 q → H1[q]? = H[q]?) → va_S A0 H0 H1 locs1 → W p l e R s m args below meth c H1 locs1 (cells + mc) (slots + ms) Q (F0 m (pc + 3) ls (.float r :: rest))) : W p l e R s m args below meth c H locs cells slots Q (F0 m pc ls st0) := by
  intro T hT X
  rcases hr T hT X with ⟨v, st₀, t, T', L, h0, X', hL, e1, e2, ⟨⟨r, u, hv, hp, hb⟩, hF⟩, st⟩ | ⟨q, st₀, t, T', L, E, ce, h0, X', hL, e1, e2, ⟨u, hp, hb, hF⟩, hce, hcv, hcl, st⟩
  · cases hv
    obtain ⟨k1, k2, k3⟩ := vx_keep h0 e1 hS hA hf hL hF
    obtain ⟨t2, a1, b1⟩ := kk r u t T'.heap (locs ++ L) e1.symm (by rw [← e2]; exact X'.warmed.alike) hp hb k1 k2 k3 T' rfl X'
    exact ⟨t2, st t2 a1, b1⟩
  · obtain ⟨k1, k2, k3⟩ := vx_keep h0 e1 hS hAX hf hL hF
    obtain ⟨t2, a1, b1⟩ := kx E ce q u t T'.heap (locs ++ L) e1.symm (by rw [← e2]; exact X'.warmed.alike) hp hb k1 k2 k3 (by rw [e1]; exact hce) hcv hcl T' rfl X'
    exact ⟨t2, st.trans a1, b1⟩
theorem vx_calld {S SX : Type} {post : UInt64 → S → Prop} {px : SX → Prop} {B : S → State → Prop} {BX : String → SX → State → Prop} {AX : Nat → Prop} (hr : vx_Run p l e R s m args below meth c H locs cells slots mc ms (F0 m pc ls st0) rest (va_Qd post B A1 a) (vx_X px BX AX) free) (hS : va_S A0 H0 H locs) (hA : ∀ q, q < H.size → A1 q → A0 q) (hf : ∀ q, free q → A0 q) (hAX : ∀ q, q < H.size → AX q → A0 q)
    (kx : ∀ (E : String) (ce : Cell) (q9 : Addr) (u : SX) (t : State) (H1 : Heap) (locs1 : List Loc), t.heap = H1 → s.vm.Alike t.vm → px u → BX E u t → H.size ≤ H1.size → (∀ q : Nat, q < H.size → ¬ AX q → H1[q]? = H[q]?) → va_S A0 H0 H1 locs1 → H1[q9]? = some ce → ce.vm = .none → s.vm.findClass E = some ce.cls → vx_W p l e R s m args below meth c H1 locs1 (cells + mc) (slots + ms) Q (F0 m pc ls rest) q9)
    (kk : ∀ (r : UInt64) (u : S) (t : State) (H1 : Heap) (locs1 : List Loc), t.heap = H1 → s.vm.Alike t.vm → post r u → B u t → H.size ≤ H1.size → (∀ q : Nat, q < H.size → ¬ A1 q → H1[q]? = H[q]?) → va_S A0 H0 H1 locs1 → W p l e R s m args below meth c H1 locs1 (cells + mc) (slots + ms) Q (F0 m (pc + 3) ls (.double r :: rest))) : W p l e R s m args below meth c H locs cells slots Q (F0 m pc ls st0) := by
  intro T hT X
  rcases hr T hT X with ⟨v, st₀, t, T', L, h0, X', hL, e1, e2, ⟨⟨r, u, hv, hp, hb⟩, hF⟩, st⟩ | ⟨q, st₀, t, T', L, E, ce, h0, X', hL, e1, e2, ⟨u, hp, hb, hF⟩, hce, hcv, hcl, st⟩
  · cases hv
    obtain ⟨k1, k2, k3⟩ := vx_keep h0 e1 hS hA hf hL hF
    obtain ⟨t2, a1, b1⟩ := kk r u t T'.heap (locs ++ L) e1.symm (by rw [← e2]; exact X'.warmed.alike) hp hb k1 k2 k3 T' rfl X'
    exact ⟨t2, st t2 a1, b1⟩
  · obtain ⟨k1, k2, k3⟩ := vx_keep h0 e1 hS hAX hf hL hF
    obtain ⟨t2, a1, b1⟩ := kx E ce q u t T'.heap (locs ++ L) e1.symm (by rw [← e2]; exact X'.warmed.alike) hp hb k1 k2 k3 (by rw [e1]; exact hce) hcv hcl T' rfl X'
    exact ⟨t2, st.trans a1, b1⟩
theorem vx_callv {S SX : Type} {post : S → Prop} {px : SX → Prop} {B : S → State → Prop} {BX : String → SX → State → Prop} {AX : Nat → Prop} (hr : vx_Run p l e R s m args below meth c H locs cells slots mc ms (F0 m pc ls st0) rest (va_Qv post B A1 a) (vx_X px BX AX) free) (hS : va_S A0 H0 H locs) (hA : ∀ q, q < H.size → A1 q → A0 q) (hf : ∀ q, free q → A0 q) (hAX : ∀ q, q < H.size → AX q → A0 q)
    (kx : ∀ (E : String) (ce : Cell) (q9 : Addr) (u : SX) (t : State) (H1 : Heap) (locs1 : List Loc), t.heap = H1 → s.vm.Alike t.vm → px u → BX E u t → H.size ≤ H1.size → (∀ q : Nat, q < H.size → ¬ AX q → H1[q]? = H[q]?) → va_S A0 H0 H1 locs1 → H1[q9]? = some ce → ce.vm = .none → s.vm.findClass E = some ce.cls → vx_W p l e R s m args below meth c H1 locs1 (cells + mc) (slots + ms) Q (F0 m pc ls rest) q9)
    (kk : ∀ (u : S) (t : State) (H1 : Heap) (locs1 : List Loc), t.heap = H1 → s.vm.Alike t.vm → post u → B u t → H.size ≤ H1.size → (∀ q : Nat, q < H.size → ¬ A1 q → H1[q]? = H[q]?) → va_S A0 H0 H1 locs1 → W p l e R s m args below meth c H1 locs1 (cells + mc) (slots + ms) Q (F0 m (pc + 3) ls (rest))) : W p l e R s m args below meth c H locs cells slots Q (F0 m pc ls st0) := by
  intro T hT X
  rcases hr T hT X with ⟨v, st₀, t, T', L, h0, X', hL, e1, e2, ⟨⟨u, hv, hp, hb⟩, hF⟩, st⟩ | ⟨q, st₀, t, T', L, E, ce, h0, X', hL, e1, e2, ⟨u, hp, hb, hF⟩, hce, hcv, hcl, st⟩
  · cases hv
    obtain ⟨k1, k2, k3⟩ := vx_keep h0 e1 hS hA hf hL hF
    obtain ⟨t2, a1, b1⟩ := kk u t T'.heap (locs ++ L) e1.symm (by rw [← e2]; exact X'.warmed.alike) hp hb k1 k2 k3 T' rfl X'
    exact ⟨t2, st t2 a1, b1⟩
  · obtain ⟨k1, k2, k3⟩ := vx_keep h0 e1 hS hAX hf hL hF
    obtain ⟨t2, a1, b1⟩ := kx E ce q u t T'.heap (locs ++ L) e1.symm (by rw [← e2]; exact X'.warmed.alike) hp hb k1 k2 k3 (by rw [e1]; exact hce) hcv hcl T' rfl X'
    exact ⟨t2, st.trans a1, b1⟩
/-- caught by the row x of this method's table; the rows ahead don't take it -/
theorem vx_catch {own name : String} {E : String} {ce : Cell} {q : Addr} (hown : s.vm.findClass own = some m.cls) (pre : List ExceptionTableEntry) (x : ExceptionTableEntry) (suf : List ExceptionTableEntry) (hsplit : c.exceptionTable.toList = pre ++ x :: suf)
    (hpass : ∀ z ∈ pre, covers z pc = false ∨ (z.catchType ≠ 0 ∧ ∃ nm : String, (Cond.classLink own z.catchType nm).before args s = true ∧ va_Nc E nm s)) (hx : covers x pc = true) (h0 : x.catchType ≠ 0)
    (hlink : (Cond.classLink own x.catchType name).before args s = true) (hcast : (Cond.castable E name).before args s = true) (hcell : H[q]? = some ce) (hv : ce.vm = .none) (hcl : s.vm.findClass E = some ce.cls)
    (kk : W p l e R s m args below meth c H locs cells slots Q (F0 m x.handlerPc ls [.ref q])) : vx_W p l e R s m args below meth c H locs cells slots Q (F0 m pc ls rest) q := by
  intro T hT X
  have hpl : e.platform.magicAccessors = ({} : Platform).magicAccessors := by rw [X.admits.platform]
  obtain ⟨c3, c4, hc3, hc4, hasg⟩ := Cond.castable_spec hcast
  cases Option.some.inj (hc3.symm.trans hcl)
  obtain ⟨c5, hc5, hcl5⟩ := Cond.classLink_spec hown hlink e.platform hpl
  cases Option.some.inj (hc4.symm.trans hc5)
  obtain ⟨vm', X', st⟩ := X.thenCaughtThrough q (g := F0 m pc ls rest) rfl (Steps.refl _) (by rw [hT]; exact hcell) (by rw [hv]; rfl) (by obtain ⟨k9, h9, -⟩ := Vm.findClass_spec hcl; exact ⟨k9, h9⟩) pre x suf hsplit
    (fun z hz => by
      rcases hpass z hz with h | ⟨hz0, nm, hl1, hn1⟩
      · exact Or.inl h
      · obtain ⟨c6, hc6, hcl6⟩ := Cond.classLink_spec hown hl1 e.platform hpl
        obtain ⟨a8, b8, h1, h2, h3⟩ := hn1
        cases Option.some.inj (h1.symm.trans hcl)
        cases Option.some.inj (h2.symm.trans hc6)
        exact Or.inr ⟨hz0, _, hcl6, h3⟩) hx (Or.inr ⟨h0, c4, hcl5, hasg⟩)
  obtain ⟨t, a1, b1⟩ := kk (T.setVm vm') hT X'
  exact ⟨t, st.trans a1, b1⟩
end Rows
section Ends
variable {p : Program} {l : Launch} {e : Env} {R : Room} {s : State} {m : MethodId} {args : Array Value} {below : List Frame} {meth : Method} {c : Code} {H : Heap} {locs : List Loc} {cells slots : Nat} {Q : State → Prop}
variable {mc ms : Nat} {free : Addr → Prop} {A0 A1 : Nat → Prop} {H0 : Heap} {a : Array Value} {ls : Array Slot} {st0 rest : List Value}
variable {Qc : Array Value → State → Outcome → State → Prop} {XC : String → State → State → Prop}
/-- what a body that may throw owes at its end -/
def vx_MQ (below : List Frame) (Qc : Array Value → State → Outcome → State → Prop) (XC : String → State → State → Prop) (a : Array Value) (s : State) (mc ms : Nat) (free : Addr → Prop) : State → Prop := fun t =>
  ∃ o, t.status = .running ∧ Ended t below o ∧ vx_Q Qc XC mc ms free a s o t
theorem vx_ret {g : JFrame} {mc ms : Nat} (k : W p l e R s m args below meth c H locs cells slots (MQ below Qc args s mc ms free) g) : W p l e R s m args below meth c H locs cells slots (vx_MQ below Qc XC args s mc ms free) g := by
  intro T hT X
  obtain ⟨t, a1, o, b1, b2, b3, b4⟩ := k T hT X
  exact ⟨t, a1, o, b1, b2, Or.inl ⟨b3, b4⟩⟩
/-- not caught here: it goes on to the caller -/
theorem vx_widen {g : JFrame} {q : Addr} {k n : Nat} (h1 : cells ≤ k) (h2 : slots ≤ n) (kk : vx_W p l e R s m args below meth c H locs k n Q g q) : vx_W p l e R s m args below meth c H locs cells slots Q g q := fun T hT X => kk T hT (stand_widen X h1 h2)
theorem vx_out {pc : Nat} {E : String} {ce : Cell} {q : Addr} {mc ms : Nat} (hout : ∀ x ∈ c.exceptionTable.toList, covers x pc = false) (hlocks : meth.locks = false) (hcell : H[q]? = some ce) (hv : ce.vm = .none) (hcl : s.vm.findClass E = some ce.cls)
    (hx : ∀ t : State, t.heap = H → s.vm.Alike t.vm → XC E s t) (hf : ∀ z ∈ locs, free z.base) (hc : cells ≤ mc) (hs : slots ≤ ms) :
    vx_W p l e R s m args below meth c H locs cells slots (vx_MQ below Qc XC args s mc ms free) (F0 m pc ls rest) q := by
  intro T hT X
  obtain ⟨st1, hrun, hend, hW, hsm⟩ := X.leaveThrown q (g := F0 m pc ls rest) rfl rfl rfl hout hlocks
  have hcell9 : (T.setFrames (.throwing q :: below)).heap[q]? = some ce := by
    show T.heap[q]? = some ce
    rw [hT]; exact hcell
  exact ⟨_, st1, .threw q, hrun, hend, Or.inr ⟨q, rfl, E, ce, locs, hx _ hT hW.alike, hcell9, hv, hcl, hW, hsm.mono hc hs, hf⟩⟩
theorem vx_frame {U : State} {k n : Nat} (h : s.sameButNew ({ U with vm := s.vm } : State) locs k n) : s.heap.size ≤ U.heap.size ∧ ∀ q : Nat, q < s.heap.size → (∀ z ∈ locs, z.base ≠ q) → U.heap[q]? = s.heap[q]? := by
  obtain ⟨-, h2, -, -, -, h6⟩ := h
  refine ⟨h2, fun q hq hz => ?_⟩
  obtain ⟨c9, e1, e2, e3, e4⟩ := h6 q _ (Array.getElem?_eq_getElem hq)
  have hs : c9.slots = (s.heap[q]).slots := Array.ext_getElem? fun i => e4 i fun hm => hz _ hm rfl
  have h9 : c9 = s.heap[q] := by
    rw [hs] at e2
    exact e2
  have e5 : U.heap[q]? = some c9 := e1
  rw [e5, h9, Array.getElem?_eq_getElem hq]
/-- the words of a throw but the four that speak of the heap -/
def vx_no (w : Cond) : Bool := decide (w ≠ .isRef (.static Bundle.tN "UNASSIGNED_STACK" Bundle.steD)) && decide (w ≠ .isRef (.static Bundle.tN "SUPPRESSED_SENTINEL" Bundle.listD)) && decide (w ≠ .laysStatic Bundle.tN "UNASSIGNED_STACK" Bundle.steD) && decide (w ≠ .laysStatic Bundle.tN "SUPPRESSED_SENTINEL" Bundle.listD)
def vx_at0 (own : String) (ic : Nat) (X : String) (names : List String) : List Cond := (Bundle.ownAtoms0 own ic X names).filter vx_no
def vx_atS (own : String) (ic : Nat) (X : String) (names : List String) : List Cond := (Bundle.ownAtoms own ic X names).filter vx_no
/-- a word that the tables alone decide, or a good one -/
def vx_ot (w : Cond) : Bool := w.onTables || goodWord w
theorem vx_ot_at {args a' : Array Value} {s U : State} {w : Cond} (hW : s.WarmedH U.vm) (hvm : s.vm = U.vm) (hg : vx_ot w = true) (h : w.before args s = true) : w.before a' U = true := by
  simp only [vx_ot, Bool.or_eq_true] at hg
  rcases hg with hg | hg
  · exact va_tabs hg hvm h
  · exact word_at hW (good_of_word hg) h
/-- a list's words: the good ones out of the method's own list, the others by premises of their own -/
theorem vx_hat {args : Array Value} {s : State} {L B : List Cond} (h1 : ∀ w ∈ L.filter goodWord, w.before args s = true) (h2 : ∀ w ∈ L.filter (fun w => !goodWord w), w ∈ B) (h3 : ∀ w ∈ B, w.before args s = true) : ∀ w ∈ L, w.before args s = true := by
  intro w hw
  by_cases g : goodWord w = true
  · exact h1 w (List.mem_filter.mpr ⟨hw, g⟩)
  · refine h3 w (h2 w (List.mem_filter.mpr ⟨hw, ?_⟩))
    show (!goodWord w) = true
    cases hgw : goodWord w
    · rfl
    · exact absurd hgw g
theorem vx_c {args : Array Value} {s : State} {w : Cond} {B : List Cond} (h : w.before args s = true) (t : ∀ w ∈ B, w.before args s = true) : ∀ w' ∈ w :: B, w'.before args s = true := fun w' h' => (List.mem_cons.mp h').elim (fun e => by rw [e]; exact h) (t w')
theorem vx_n {args : Array Value} {s : State} : ∀ w ∈ ([] : List Cond), w.before args s = true := fun _ h => nomatch h
theorem vx_own {args : Array Value} {s : State} {L : List Cond} (h1 : ∀ w ∈ L.filter vx_no, w.before args s = true)
    (hU : (Cond.isRef (.static Bundle.tN "UNASSIGNED_STACK" Bundle.steD)).before args s = true) (hN : (Cond.isRef (.static Bundle.tN "SUPPRESSED_SENTINEL" Bundle.listD)).before args s = true)
    (lU : (Cond.laysStatic Bundle.tN "UNASSIGNED_STACK" Bundle.steD).before args s = true) (lN : (Cond.laysStatic Bundle.tN "SUPPRESSED_SENTINEL" Bundle.listD).before args s = true) : ∀ w ∈ L, w.before args s = true := by
  intro w hw
  by_cases e1 : w = .isRef (.static Bundle.tN "UNASSIGNED_STACK" Bundle.steD)
  · rw [e1]; exact hU
  · by_cases e2 : w = .isRef (.static Bundle.tN "SUPPRESSED_SENTINEL" Bundle.listD)
    · rw [e2]; exact hN
    · by_cases e3 : w = .laysStatic Bundle.tN "UNASSIGNED_STACK" Bundle.steD
      · rw [e3]; exact lU
      · by_cases e4 : w = .laysStatic Bundle.tN "SUPPRESSED_SENTINEL" Bundle.listD
        · rw [e4]; exact lN
        · exact h1 w (List.mem_filter.mpr ⟨hw, by unfold vx_no; rw [decide_eq_true e1, decide_eq_true e2, decide_eq_true e3, decide_eq_true e4]; rfl⟩)
/-- where a static field lies, its class's statics cell in H -/
def vx_L (C n d : String) (A : Nat → Prop) (U : State) (H : Heap) : Prop := ∃ (c : ClassId) (k : Class) (i : Nat) (f : Field) (a : Nat) (cell : Cell), U.vm.findClass C = some c ∧ U.fieldFound? C n d = some (c, k, i, f) ∧ f.isStatic = true ∧ k.statics = some a ∧ H[a]? = some cell ∧ cell.vm.isStatics = true ∧ cell.cls = c ∧ f.slot < cell.slots.size ∧ k.staticTypes[f.slot]? = some f.type ∧ ¬ A a
theorem vx_L.moved {C n d : String} {A : Nat → Prop} {u U : State} {H : Heap} (hvm : u.vm.Alike U.vm) (h : vx_L C n d A u H) : vx_L C n d A U H := by
  obtain ⟨c, k, i, f, a, cell, h1, h2, h3, h4, h5, h6, h7, h8, h9, h10⟩ := h
  obtain ⟨k', hi', he⟩ := State.fieldFound?_setVm hvm h2
  exact ⟨c, k', i, f, a, cell, by rw [hvm.findClass]; exact h1, hi', h3, by rw [he]; exact h4, h5, h6, h7, h8, by rw [he]; exact h9, h10⟩
theorem vx_L.kept {C n d : String} {A : Nat → Prop} {U : State} {H H1 : Heap} (h : vx_L C n d A U H) (hq : ∀ a : Nat, a < H.size → ¬ A a → H1[a]? = H[a]?) : vx_L C n d A U H1 := by
  obtain ⟨c, k, i, f, a, cell, h1, h2, h3, h4, h5, h6, h7, h8, h9, h10⟩ := h
  exact ⟨c, k, i, f, a, cell, h1, h2, h3, h4, by rw [hq a (Array.getElem?_eq_some_iff.mp h5).1 h10]; exact h5, h6, h7, h8, h9, h10⟩
theorem vx_L.narrow {C n d : String} {A B : Nat → Prop} {U : State} {H : Heap} (h : vx_L C n d A U H) (hAB : ∀ q, B q → A q) : vx_L C n d B U H := by
  obtain ⟨c, k, i, f, a, cell, h1, h2, h3, h4, h5, h6, h7, h8, h9, h10⟩ := h
  exact ⟨c, k, i, f, a, cell, h1, h2, h3, h4, h5, h6, h7, h8, h9, fun z => h10 (hAB _ z)⟩
theorem vx_L.word {C n d : String} {A : Nat → Prop} {s : State} {args : Array Value} (h : vx_L C n d A s s.heap) : (Cond.laysStatic C n d).before args s = true := by
  obtain ⟨c, k, i, f, a, cell, h1, h2, h3, h4, h5, h6, h7, h8, h9, -⟩ := h
  show (Cond.laysStatic C n d).holds args s none s [] = true
  exact Cond.laysStatic_of h1 h2 h3 h4 h5 h6 h7 h8 h9
/-- .. and what it holds: null or some reference -/
def vx_Zq (C n d : String) (A : Nat → Prop) (U : State) (H : Heap) : Prop := va_Zq C n d A U H ∧ vx_L C n d A U H
theorem vx_Zq.moved {C n d : String} {A : Nat → Prop} {u U : State} {H : Heap} (hvm : u.vm.Alike U.vm) (h : vx_Zq C n d A u H) : vx_Zq C n d A U H := ⟨va_Zq.moved hvm h.1, vx_L.moved hvm h.2⟩
theorem vx_Zq.kept {C n d : String} {A : Nat → Prop} {U : State} {H H1 : Heap} (h : vx_Zq C n d A U H) (hq : ∀ a : Nat, a < H.size → ¬ A a → H1[a]? = H[a]?) : vx_Zq C n d A U H1 := ⟨va_Zq.kept h.1 hq, vx_L.kept h.2 hq⟩
theorem vx_Zq.narrow {C n d : String} {A B : Nat → Prop} {U : State} {H : Heap} (h : vx_Zq C n d A U H) (hAB : ∀ q, B q → A q) : vx_Zq C n d B U H := ⟨va_Zq.narrow h.1 hAB, vx_L.narrow h.2 hAB⟩
theorem vx_Zqof {args : Array Value} {s : State} {C n d : String} {A : Nat → Prop} (hl : (Cond.laysStatic C n d).before args s = true) (hini : (Cond.initialized C).before args s = true) (h : (Cond.isRef (.static C n d)).before args s = true) (hA : ∀ a : Nat, a < s.heap.size → ¬ A a) : vx_Zq C n d A s s.heap := by
  refine ⟨va_Zqof hl hini h hA, ?_⟩
  obtain ⟨c, k, i, f, a, cell, h1, h2, h3, h4, h5, h6, h7, h8, h9⟩ := Cond.laysStatic_spec hl
  exact ⟨c, k, i, f, a, cell, h1, h2, h3, h4, h5, h6, h7, h8, h9, hA a (Array.getElem?_eq_some_iff.mp h5).1⟩
theorem vx_isRef {C n d : String} {v : Value} {A : Nat → Prop} {s : State} {args : Array Value} (h : va_Z C n d v A s s.heap) (hv : v.isRef = true) : (Cond.isRef (.static C n d)).before args s = true := by
  obtain ⟨cf, kf, fi, f, a, cell, h1, h2, h3, h4, h5, h6, h7, -⟩ := h
  have he : (Term.static C n d).eval args s none [] s = some v := by
    simp [Term.eval, State.fieldNamed?, h1, h2, h4, h5, h6, h7]
  simp only [Cond.before, Cond.holds, Cond.value, he]
  cases v <;> simp_all [Value.isRef]
theorem vx_isRefq {C n d : String} {A : Nat → Prop} {s : State} {args : Array Value} (h : va_Zq C n d A s s.heap) : (Cond.isRef (.static C n d)).before args s = true := by
  rcases h with h | ⟨t, h⟩
  · exact vx_isRef h rfl
  · exact vx_isRef h rfl
/-- the same frame, seen from here: as if the method were called anew in this heap -/
theorem vx_rebase {T : State} (X : Stand p l e R s m args below meth c T locs cells slots) {R' : Room} (hf : R'.frames ≤ R.frames) (hl : R'.locals ≤ R.locals) (hc : cells + R'.cells ≤ R.cells) (hs : slots + R'.slots ≤ R.slots) :
    Stand p l e R' ((T.setVm s.vm).setFrames (.invoking m args :: below)) m args below meth c T [] 0 0 := by
  have htop : (T.setVm s.vm).topJava?.isSome := X.here.top
  have hF : ((T.setVm s.vm).setFrames (.invoking m args :: below)).frames = .invoking m args :: below := State.frames_setFrames _ (State.cur_lt_of_top htop)
  obtain ⟨g₀, hg0⟩ := Option.isSome_iff_exists.mp htop
  obtain ⟨r, hr⟩ := State.topJava?_eq_some.mp hg0
  have hl9 : e.platform.stackLimits (T.setVm s.vm).me = e.platform.stackLimits s.me := X.limits
  have hb9 : (T.setVm s.vm).me.stackBytes = s.me.stackBytes := X.bytes
  refine ⟨X.admits, X.cas, X.clock, hF, ?_, X.hears, X.method, X.code, X.here, X.tail, X.warmed, ?_, ?_, ?_⟩
  · have h := X.room
    have hU : ((T.setVm s.vm).setFrames (.invoking m args :: below)).localsInUse = s.localsInUse := by
      rw [State.localsInUse_invoking hF (meth := meth) (c := c) X.method X.code, State.localsInUse_invoking X.frames X.method X.code]
    simp only [State.hasRoom, Bool.and_eq_true, decide_eq_true_eq] at h ⊢
    obtain ⟨⟨⟨⟨h1, h2, h3, h4, h5, h6⟩, h7⟩, h8⟩, h9⟩ := h
    rw [X.frames, List.length_cons] at h2 h3
    have q1 := X.heapSize
    have q2 := X.used
    simp only [hF, hU, List.length_cons, State.stackLimits_setFrames, State.stackBytes_setFrames, hl9, hb9]
    refine ⟨⟨⟨⟨by omega, by omega, by omega, by omega, by omega, h6⟩, ?_⟩, ?_⟩, X.book⟩
    · show T.heap.size + R'.cells ≤ e.platform.maxCells
      omega
    · show T.slotsUsed + R'.slots ≤ e.platform.maxSlots
      omega
  · rw [State.stackLimits_setFrames]; rfl
  · rw [State.stackBytes_setFrames]; rfl
  · refine ⟨?_, Nat.le_refl _, Nat.le_refl _, ?_, ?_, fun a c9 h9 => ⟨c9, h9, rfl, rfl, fun _ _ => rfl⟩⟩
    · obtain ⟨t, ht, -⟩ := State.frames_cons hr
      show T.setVm s.vm = { ((T.setVm s.vm).setFrames (.invoking m args :: below)).setFrames (T.setVm s.vm).frames with heap := T.heap, slotsUsed := T.slotsUsed }
      rw [State.setFrames_setFrames, State.setFrames_self ht]
      rfl
    · show T.slotsUsed = T.slotsUsed + ((T.heap.toList.drop T.heap.size).map (·.slots.size)).sum
      rw [List.drop_eq_nil_of_le (Nat.le_of_eq Array.length_toList)]
      rfl
    · show ((T.heap.toList.drop T.heap.size).map (·.slots.size)).sum ≤ 0
      rw [List.drop_eq_nil_of_le (Nat.le_of_eq Array.length_toList)]
      exact Nat.le_refl _
/-- 'throw new E()': new; dup; invokespecial; athrow -/
theorem vx_throw0 {cc : ByteArray} {pc : Nat} (hexec : p.tables.exec = Jvm.exec) (hb : c.code = cc) (hl : l.stackTraces = false) {own cls : String} {names : List String} {ik ic mc ms : Nat} {A : Nat → Prop}
    (hown : s.vm.findClass own = some m.cls) (hcls : Bundle.fit cls = true) (hnames : ∀ n ∈ names, Bundle.fit n = true)
    (hk : (Cond.classLink own ik cls).before args s = true) (hini : (Cond.initialized cls).before args s = true) (hat : ∀ w ∈ vx_at0 own ic cls names, w.before args s = true)
    (hgood : ∀ w ∈ Cond.classLink own ik cls :: Cond.initialized cls :: vx_at0 own ic cls names, vx_ot w = true)
    (hU : vx_Zq Bundle.tN "UNASSIGNED_STACK" Bundle.steD A s s.heap) (hN : vx_Zq Bundle.tN "SUPPRESSED_SENTINEL" Bundle.listD A s s.heap) (hS : va_S A s.heap H locs) (hsize : ls.size = c.maxLocals)
    (d0 : decode cc pc = .ok (.new ik, 3)) (d3 : decode cc (pc + 3) = .ok (.dup, 1)) (d4 : decode cc (pc + 4) = .ok (.invokespecial ic, 3)) (d7 : decode cc (pc + 7) = .ok (.athrow, 1))
    (hout : ∀ x ∈ c.exceptionTable.toList, covers x (pc + 7) = false)
    (hRframes : names.length + 3 < R.frames) (hRlocals : (rest.map fun v => v.category).sum + (13 * (names.length + 1) + 42) ≤ R.locals) (hRcells : cells + 1 ≤ R.cells) (hRslots : slots + 6 ≤ R.slots) (hlocks : meth.locks = false)
    (hx : ∀ t : State, s.vm.Alike t.vm → H.size ≤ t.heap.size → (∀ q : Nat, q < H.size → t.heap[q]? = H[q]?) → XC cls s t)
    (hf : ∀ z ∈ locs, free z.base) (hc : cells + 1 ≤ mc) (hs : slots + 6 ≤ ms) :
    W p l e R s m args below meth c H locs cells slots (vx_MQ below Qc XC args s mc ms free) (F0 m pc ls rest) := by
  intro T hT X
  have htr : e.platform.stackTraces = false := (show e.platform.stackTraces = l.stackTraces by rw [X.admits.platform]).trans hl
  have Y := vx_rebase X (R' := { frames := R.frames, locals := R.locals, cells := 1, slots := 6 }) (Nat.le_refl _) (Nat.le_refl _) hRcells hRslots
  obtain ⟨s', hA⟩ : ∃ z, z = (T.setVm s.vm).setFrames (.invoking m args :: below) := ⟨_, rfl⟩
  rw [← hA] at Y
  have hvm : s'.vm = s.vm := by rw [hA]; rfl
  have hhp : s'.heap = H := by rw [hA]; exact hT
  have hW0 : s.WarmedH s'.vm := by rw [hvm]; exact State.WarmedH.refl s
  have hat' : ∀ w ∈ vx_at0 own ic cls names, w.before args s' = true := fun w hw => vx_ot_at hW0 hvm.symm (hgood w (List.mem_cons_of_mem _ (List.mem_cons_of_mem _ hw))) (hat w hw)
  have hk' : (Cond.classLink own ik cls).before args s' = true := vx_ot_at hW0 hvm.symm (hgood _ List.mem_cons_self) hk
  have hini' : (Cond.initialized cls).before args s' = true := vx_ot_at hW0 hvm.symm (hgood _ (List.mem_cons_of_mem _ List.mem_cons_self)) hini
  have hU' : vx_Zq Bundle.tN "UNASSIGNED_STACK" Bundle.steD A s' s'.heap := by rw [hhp]; exact vx_Zq.moved hW0.alike (hU.kept hS.2.1)
  have hN' : vx_Zq Bundle.tN "SUPPRESSED_SENTINEL" Bundle.listD A s' s'.heap := by rw [hhp]; exact vx_Zq.moved hW0.alike (hN.kept hS.2.1)
  have h : ∀ w ∈ Bundle.ownAtoms0 own ic cls names, w.before args s' = true := vx_own hat' (vx_isRefq hU'.1) (vx_isRefq hN'.1) hU'.2.word hN'.2.word
  have hown' : s'.vm.findClass own = some m.cls := by rw [hvm]; exact hown
  have hins : (Cond.instantiable cls 6).before args s' = true := h _ (by simp [Bundle.ownAtoms0])
  obtain ⟨vm₁, cX, kX, hfX, hkX, -, -, X₁, st1⟩ := Y.newCold hexec (own := own) (C := cls) (index := ik) (n := 6) hown' hk' hins hini'
    (g := F0 m pc ls rest) rfl (by rw [hb]; exact d0) (Nat.le_refl _) (Nat.le_refl _)
  generalize hT1 : (T.setVm vm₁).pushCell { cls := cX, slots := kX.instanceTypes.map defaultValue, vm := .none } = T1 at X₁ st1
  have hcat : (Value.ref T.heap.size).category = 1 := rfl
  have hcellA : T1.heap[T.heap.size]? = some (freshCell cX kX) := by rw [← hT1]; exact State.heap_pushCell_size _ _
  have d3' : decode c.code (pc + 3) = .ok (.dup, 1) := by rw [hb]; exact d3
  obtain ⟨U, hsteps, hrun, hend, hW, hsame, ce, hce, hO⟩ := X₁.ctorThrow0 hexec htr (own := own) (cls := cls) (names := names) (ic := ic) hown' hcls hnames h (fun x hx => nomatch hx) hfX hkX hcellA (by rw [hhp, hT]; exact Nat.le_refl _)
    (g := { method := m, pc := pc + 4, locals := ls, stack := .ref T.heap.size :: .ref T.heap.size :: rest, locked := none }) rfl hsize rfl rfl (rest := rest) rfl
    (by rw [hb]; exact d4) (by rw [hb]; exact d7) hout hRframes (by simp only [List.map_cons, List.sum_cons, hcat]; omega) hlocks
  obtain ⟨f1, f2⟩ := vx_frame hsame
  rw [hhp] at f1 f2
  have hWs : s.WarmedH U.vm := State.WarmedH.trans hW0 hW
  have hcl : s.vm.findClass cls = some ce.cls := by
    have h9 := hO.cls
    rw [hvm] at h9
    exact h9
  have hall : s.sameButNew ({ U with vm := s.vm } : State) locs mc ms := by
    subst hA
    obtain ⟨e1, e2⟩ := hsame
    rw [State.setFrames_setFrames] at e1
    have h2 : (T.setVm s.vm).sameButNew ({ U with vm := s.vm } : State) [] (0 + 1) (0 + 6) := ⟨e1, e2⟩
    have h3 := X.same.trans h2
    rw [List.append_nil] at h3
    exact h3.mono hc hs
  refine ⟨U, ?_, .threw T.heap.size, hrun, hend, Or.inr ⟨T.heap.size, rfl, cls, ce, locs, hx U hWs.alike f1 (fun q hq => f2 q hq (fun z hz => nomatch hz)), hce, hO.vm, hcl, hWs, hall, hf⟩⟩
  refine st1 _ ?_
  show Steps p.tables e below (T1.setTop { method := m, pc := pc + 3, locals := ls, stack := .ref T.heap.size :: rest, locked := none }) _
  jvm_step X₁.here [X₁.here.top, hexec, d3', Value.category]
  exact hsteps
/-- 'throw new E("text")': new; dup; ldc; invokespecial; athrow -/
theorem vx_throwS {cc : ByteArray} {pc : Nat} (hexec : p.tables.exec = Jvm.exec) (hb : c.code = cc) (hl : l.stackTraces = false) {own cls text : String} {names : List String} {ik is ic mc ms sa : Nat} {A : Nat → Prop}
    (hown : s.vm.findClass own = some m.cls) (hcls : Bundle.fit cls = true) (hnames : ∀ n ∈ names, Bundle.fit n = true)
    (hk : (Cond.classLink own ik cls).before args s = true) (hini : (Cond.initialized cls).before args s = true) (hstr : vk_R own is text sa s) (hat : ∀ w ∈ vx_atS own ic cls names, w.before args s = true)
    (hgood : ∀ w ∈ Cond.classLink own ik cls :: Cond.initialized cls :: vx_atS own ic cls names, vx_ot w = true)
    (hU : vx_Zq Bundle.tN "UNASSIGNED_STACK" Bundle.steD A s s.heap) (hN : vx_Zq Bundle.tN "SUPPRESSED_SENTINEL" Bundle.listD A s s.heap) (hS : va_S A s.heap H locs) (hsize : ls.size = c.maxLocals)
    (d0 : decode cc pc = .ok (.new ik, 3)) (d3 : decode cc (pc + 3) = .ok (.dup, 1)) (d4 : decode cc (pc + 4) = .ok (.ldc is, 2)) (d6 : decode cc (pc + 6) = .ok (.invokespecial ic, 3)) (d9 : decode cc (pc + 9) = .ok (.athrow, 1))
    (hout : ∀ x ∈ c.exceptionTable.toList, covers x (pc + 9) = false)
    (hRframes : names.length + 3 < R.frames) (hRlocals : (rest.map fun v => v.category).sum + (13 * (names.length + 1) + 43) ≤ R.locals) (hRcells : cells + 1 ≤ R.cells) (hRslots : slots + 6 ≤ R.slots) (hlocks : meth.locks = false)
    (hx : ∀ t : State, s.vm.Alike t.vm → H.size ≤ t.heap.size → (∀ q : Nat, q < H.size → t.heap[q]? = H[q]?) → XC cls s t)
    (hf : ∀ z ∈ locs, free z.base) (hc : cells + 1 ≤ mc) (hs : slots + 6 ≤ ms) :
    W p l e R s m args below meth c H locs cells slots (vx_MQ below Qc XC args s mc ms free) (F0 m pc ls rest) := by
  intro T hT X
  have htr : e.platform.stackTraces = false := (show e.platform.stackTraces = l.stackTraces by rw [X.admits.platform]).trans hl
  have Y := vx_rebase X (R' := { frames := R.frames, locals := R.locals, cells := 1, slots := 6 }) (Nat.le_refl _) (Nat.le_refl _) hRcells hRslots
  obtain ⟨s', hA⟩ : ∃ z, z = (T.setVm s.vm).setFrames (.invoking m args :: below) := ⟨_, rfl⟩
  rw [← hA] at Y
  have hvm : s'.vm = s.vm := by rw [hA]; rfl
  have hhp : s'.heap = H := by rw [hA]; exact hT
  have hW0 : s.WarmedH s'.vm := by rw [hvm]; exact State.WarmedH.refl s
  have hat' : ∀ w ∈ vx_atS own ic cls names, w.before args s' = true := fun w hw => vx_ot_at hW0 hvm.symm (hgood w (List.mem_cons_of_mem _ (List.mem_cons_of_mem _ hw))) (hat w hw)
  have hk' : (Cond.classLink own ik cls).before args s' = true := vx_ot_at hW0 hvm.symm (hgood _ List.mem_cons_self) hk
  have hini' : (Cond.initialized cls).before args s' = true := vx_ot_at hW0 hvm.symm (hgood _ (List.mem_cons_of_mem _ List.mem_cons_self)) hini
  have hU' : vx_Zq Bundle.tN "UNASSIGNED_STACK" Bundle.steD A s' s'.heap := by rw [hhp]; exact vx_Zq.moved hW0.alike (hU.kept hS.2.1)
  have hN' : vx_Zq Bundle.tN "SUPPRESSED_SENTINEL" Bundle.listD A s' s'.heap := by rw [hhp]; exact vx_Zq.moved hW0.alike (hN.kept hS.2.1)
  have h : ∀ w ∈ Bundle.ownAtoms own ic cls names, w.before args s' = true := vx_own hat' (vx_isRefq hU'.1) (vx_isRefq hN'.1) hU'.2.word hN'.2.word
  have hown' : s'.vm.findClass own = some m.cls := by rw [hvm]; exact hown
  have hins : (Cond.instantiable cls 6).before args s' = true := h _ (by simp [Bundle.ownAtoms])
  obtain ⟨vm₁, cX, kX, hfX, hkX, -, -, X₁, st1⟩ := Y.newCold hexec (own := own) (C := cls) (index := ik) (n := 6) hown' hk' hins hini'
    (g := F0 m pc ls rest) rfl (by rw [hb]; exact d0) (Nat.le_refl _) (Nat.le_refl _)
  generalize hT1 : (T.setVm vm₁).pushCell { cls := cX, slots := kX.instanceTypes.map defaultValue, vm := .none } = T1 at X₁ st1
  have hcat : (Value.ref T.heap.size).category = 1 := rfl
  have hcellA : T1.heap[T.heap.size]? = some (freshCell cX kX) := by rw [← hT1]; exact State.heap_pushCell_size _ _
  have d3' : decode c.code (pc + 3) = .ok (.dup, 1) := by rw [hb]; exact d3
  have d4' : decode c.code (pc + 4) = .ok (.ldc is, 2) := by rw [hb]; exact d4
  have hstr' : vk_R own is text sa s' := vk_R.warm hW0 hstr
  obtain ⟨U, hsteps, hrun, hend, hW, hsame, ce, hce, hO⟩ := X₁.ctorThrowS hexec htr (own := own) (cls := cls) (names := names) (ic := ic) hown' hcls hnames h (fun x hx => nomatch hx) hfX hkX hcellA (by rw [hhp, hT]; exact Nat.le_refl _) (msg := .ref sa) rfl
    (g := { method := m, pc := pc + 6, locals := ls, stack := .ref sa :: .ref T.heap.size :: .ref T.heap.size :: rest, locked := none }) rfl hsize rfl rfl (rest := rest) rfl
    (by rw [hb]; exact d6) (by rw [hb]; exact d9) hout hRframes (by simp only [List.map_cons, List.sum_cons, hcat]; omega) hlocks
  obtain ⟨f1, f2⟩ := vx_frame hsame
  rw [hhp] at f1 f2
  have hWs : s.WarmedH U.vm := State.WarmedH.trans hW0 hW
  have hcl : s.vm.findClass cls = some ce.cls := by
    have h9 := hO.cls
    rw [hvm] at h9
    exact h9
  have hall : s.sameButNew ({ U with vm := s.vm } : State) locs mc ms := by
    subst hA
    obtain ⟨e1, e2⟩ := hsame
    rw [State.setFrames_setFrames] at e1
    have h2 : (T.setVm s.vm).sameButNew ({ U with vm := s.vm } : State) [] (0 + 1) (0 + 6) := ⟨e1, e2⟩
    have h3 := X.same.trans h2
    rw [List.append_nil] at h3
    exact h3.mono hc hs
  refine ⟨U, ?_, .threw T.heap.size, hrun, hend, Or.inr ⟨T.heap.size, rfl, cls, ce, locs, hx U hWs.alike f1 (fun q hq => f2 q hq (fun z hz => nomatch hz)), hce, hO.vm, hcl, hWs, hall, hf⟩⟩
  refine st1 _ ?_
  show Steps p.tables e below (T1.setTop { method := m, pc := pc + 3, locals := ls, stack := .ref T.heap.size :: rest, locked := none }) _
  jvm_step X₁.here [X₁.here.top, hexec, d3', Value.category]
  exact X₁.ldcString hexec (own := own) (text := text) (index := is) (a := sa) hown' hstr'.1 hstr'.2
    (g := { method := m, pc := pc + 4, locals := ls, stack := .ref T.heap.size :: .ref T.heap.size :: rest, locked := none }) rfl d4' _ hsteps
/-- 'throw new E("text")', the text by a wide index -/
theorem vx_throwSW {cc : ByteArray} {pc : Nat} (hexec : p.tables.exec = Jvm.exec) (hb : c.code = cc) (hl : l.stackTraces = false) {own cls text : String} {names : List String} {ik is ic mc ms sa : Nat} {A : Nat → Prop}
    (hown : s.vm.findClass own = some m.cls) (hcls : Bundle.fit cls = true) (hnames : ∀ n ∈ names, Bundle.fit n = true)
    (hk : (Cond.classLink own ik cls).before args s = true) (hini : (Cond.initialized cls).before args s = true) (hstr : vk_R own is text sa s) (hat : ∀ w ∈ vx_atS own ic cls names, w.before args s = true)
    (hgood : ∀ w ∈ Cond.classLink own ik cls :: Cond.initialized cls :: vx_atS own ic cls names, vx_ot w = true)
    (hU : vx_Zq Bundle.tN "UNASSIGNED_STACK" Bundle.steD A s s.heap) (hN : vx_Zq Bundle.tN "SUPPRESSED_SENTINEL" Bundle.listD A s s.heap) (hS : va_S A s.heap H locs) (hsize : ls.size = c.maxLocals)
    (d0 : decode cc pc = .ok (.new ik, 3)) (d3 : decode cc (pc + 3) = .ok (.dup, 1)) (d4 : decode cc (pc + 4) = .ok (.ldc_w is, 3)) (d7 : decode cc (pc + 7) = .ok (.invokespecial ic, 3)) (d10 : decode cc (pc + 10) = .ok (.athrow, 1))
    (hout : ∀ x ∈ c.exceptionTable.toList, covers x (pc + 10) = false)
    (hRframes : names.length + 3 < R.frames) (hRlocals : (rest.map fun v => v.category).sum + (13 * (names.length + 1) + 43) ≤ R.locals) (hRcells : cells + 1 ≤ R.cells) (hRslots : slots + 6 ≤ R.slots) (hlocks : meth.locks = false)
    (hx : ∀ t : State, s.vm.Alike t.vm → H.size ≤ t.heap.size → (∀ q : Nat, q < H.size → t.heap[q]? = H[q]?) → XC cls s t)
    (hf : ∀ z ∈ locs, free z.base) (hc : cells + 1 ≤ mc) (hs : slots + 6 ≤ ms) :
    W p l e R s m args below meth c H locs cells slots (vx_MQ below Qc XC args s mc ms free) (F0 m pc ls rest) := by
  intro T hT X
  have htr : e.platform.stackTraces = false := (show e.platform.stackTraces = l.stackTraces by rw [X.admits.platform]).trans hl
  have Y := vx_rebase X (R' := { frames := R.frames, locals := R.locals, cells := 1, slots := 6 }) (Nat.le_refl _) (Nat.le_refl _) hRcells hRslots
  obtain ⟨s', hA⟩ : ∃ z, z = (T.setVm s.vm).setFrames (.invoking m args :: below) := ⟨_, rfl⟩
  rw [← hA] at Y
  have hvm : s'.vm = s.vm := by rw [hA]; rfl
  have hhp : s'.heap = H := by rw [hA]; exact hT
  have hW0 : s.WarmedH s'.vm := by rw [hvm]; exact State.WarmedH.refl s
  have hat' : ∀ w ∈ vx_atS own ic cls names, w.before args s' = true := fun w hw => vx_ot_at hW0 hvm.symm (hgood w (List.mem_cons_of_mem _ (List.mem_cons_of_mem _ hw))) (hat w hw)
  have hk' : (Cond.classLink own ik cls).before args s' = true := vx_ot_at hW0 hvm.symm (hgood _ List.mem_cons_self) hk
  have hini' : (Cond.initialized cls).before args s' = true := vx_ot_at hW0 hvm.symm (hgood _ (List.mem_cons_of_mem _ List.mem_cons_self)) hini
  have hU' : vx_Zq Bundle.tN "UNASSIGNED_STACK" Bundle.steD A s' s'.heap := by rw [hhp]; exact vx_Zq.moved hW0.alike (hU.kept hS.2.1)
  have hN' : vx_Zq Bundle.tN "SUPPRESSED_SENTINEL" Bundle.listD A s' s'.heap := by rw [hhp]; exact vx_Zq.moved hW0.alike (hN.kept hS.2.1)
  have h : ∀ w ∈ Bundle.ownAtoms own ic cls names, w.before args s' = true := vx_own hat' (vx_isRefq hU'.1) (vx_isRefq hN'.1) hU'.2.word hN'.2.word
  have hown' : s'.vm.findClass own = some m.cls := by rw [hvm]; exact hown
  have hins : (Cond.instantiable cls 6).before args s' = true := h _ (by simp [Bundle.ownAtoms])
  obtain ⟨vm₁, cX, kX, hfX, hkX, -, -, X₁, st1⟩ := Y.newCold hexec (own := own) (C := cls) (index := ik) (n := 6) hown' hk' hins hini'
    (g := F0 m pc ls rest) rfl (by rw [hb]; exact d0) (Nat.le_refl _) (Nat.le_refl _)
  generalize hT1 : (T.setVm vm₁).pushCell { cls := cX, slots := kX.instanceTypes.map defaultValue, vm := .none } = T1 at X₁ st1
  have hcat : (Value.ref T.heap.size).category = 1 := rfl
  have hcellA : T1.heap[T.heap.size]? = some (freshCell cX kX) := by rw [← hT1]; exact State.heap_pushCell_size _ _
  have d3' : decode c.code (pc + 3) = .ok (.dup, 1) := by rw [hb]; exact d3
  have d4' : decode c.code (pc + 4) = .ok (.ldc_w is, 3) := by rw [hb]; exact d4
  have hstr' : vk_R own is text sa s' := vk_R.warm hW0 hstr
  obtain ⟨U, hsteps, hrun, hend, hW, hsame, ce, hce, hO⟩ := X₁.ctorThrowS hexec htr (own := own) (cls := cls) (names := names) (ic := ic) hown' hcls hnames h (fun x hx => nomatch hx) hfX hkX hcellA (by rw [hhp, hT]; exact Nat.le_refl _) (msg := .ref sa) rfl
    (g := { method := m, pc := pc + 7, locals := ls, stack := .ref sa :: .ref T.heap.size :: .ref T.heap.size :: rest, locked := none }) rfl hsize rfl rfl (rest := rest) rfl
    (by rw [hb]; exact d7) (by rw [hb]; exact d10) hout hRframes (by simp only [List.map_cons, List.sum_cons, hcat]; omega) hlocks
  obtain ⟨f1, f2⟩ := vx_frame hsame
  rw [hhp] at f1 f2
  have hWs : s.WarmedH U.vm := State.WarmedH.trans hW0 hW
  have hcl : s.vm.findClass cls = some ce.cls := by
    have h9 := hO.cls
    rw [hvm] at h9
    exact h9
  have hall : s.sameButNew ({ U with vm := s.vm } : State) locs mc ms := by
    subst hA
    obtain ⟨e1, e2⟩ := hsame
    rw [State.setFrames_setFrames] at e1
    have h2 : (T.setVm s.vm).sameButNew ({ U with vm := s.vm } : State) [] (0 + 1) (0 + 6) := ⟨e1, e2⟩
    have h3 := X.same.trans h2
    rw [List.append_nil] at h3
    exact h3.mono hc hs
  refine ⟨U, ?_, .threw T.heap.size, hrun, hend, Or.inr ⟨T.heap.size, rfl, cls, ce, locs, hx U hWs.alike f1 (fun q hq => f2 q hq (fun z hz => nomatch hz)), hce, hO.vm, hcl, hWs, hall, hf⟩⟩
  refine st1 _ ?_
  show Steps p.tables e below (T1.setTop { method := m, pc := pc + 3, locals := ls, stack := .ref T.heap.size :: rest, locked := none }) _
  jvm_step X₁.here [X₁.here.top, hexec, d3', Value.category]
  exact X₁.ldcStringW hexec (own := own) (text := text) (index := is) (a := sa) hown' hstr'.1 hstr'.2
    (g := { method := m, pc := pc + 4, locals := ls, stack := .ref T.heap.size :: .ref T.heap.size :: rest, locked := none }) rfl d4' _ hsteps
end Ends
section Bodies
variable {l : Launch}
theorem vx_ofW {y : MethodName} {ws ws' : List Cond} {rm : Room} {Pc : Array Value → State → Prop} {Qc : Array Value → State → Outcome → State → Prop} {XC : String → State → State → Prop} {mc ms : Nat} {free : Addr → Prop} {cc : ByteArray} {maxL : Nat} {ret : Option FieldType}
    (hy : plainName y.cls = true) (hw : ws = Cond.code y cc maxL ret :: ws')
    (body : ∀ p e s m args below meth c s₁, BodyLoose p l y (headSpec ws rm) cc maxL ret e s m args below meth c s₁ → c.maxLocals = maxL → (∀ x ∈ c.exceptionTable.toList, False) → Pc args s →
      W p l e (headSpec ws rm).room s m args below meth c s.heap [] 0 0 (vx_MQ below Qc XC args s mc ms free) (entryFrame m args maxL)) : vx_Met l y ws rm Pc Qc XC mc ms free := by
  refine MetFree.of_bodyS (code := cc) (maxLocals := maxL) (ret := ret) hy ?_ ?_
  · intro args s m h hn
    obtain ⟨meth, c, h1, h2, h3, h4, h5, h6, -, -⟩ := Cond.code_spec hn (atoms_spec (ws := ws) h _ (by rw [hw]; exact List.mem_cons_self))
    exact ⟨meth, c, h1, h2, h3, h4, h5, h6⟩
  · intro p e s m args below meth c s₁ B hml hP _
    have hh0 : s₁.heap = s.heap := by rw [B.state]; rfl
    have ht : ∀ x ∈ c.exceptionTable.toList, False := by
      obtain ⟨meth9, c9, h1, h2, -, -, -, -, h7, -⟩ := Cond.code_spec B.named (atoms_spec (ws := ws) B.pre _ (by rw [hw]; exact List.mem_cons_self))
      cases Option.some.inj (h1.symm.trans B.method)
      cases Option.some.inj (h2.symm.trans (Stand.of_body B).code)
      intro x hx
      rw [Array.isEmpty_iff.mp h7] at hx
      cases hx
    obtain ⟨t, a1, o, b1, b2, b3⟩ := body p e s m args below meth c s₁ B hml ht hP s₁ hh0 (Stand.of_body B)
    exact ⟨t, o, a1, b1, b2, b3⟩
/-- the table of a body with handlers -/
theorem vx_table {p : Program} {x y : MethodName} {S : Spec} {cc bytes : ByteArray} {maxL maxL' : Nat} {ret ret' : Option FieldType} {e : Env} {s s₁ : State} {m : MethodId} {args : Array Value} {below : List Frame} {meth : Method} {c : Code} {hh : List (Nat × Nat × Nat × Nat)}
    (B : BodyLoose p l y S cc maxL ret e s m args below meth c s₁) (h : (Cond.codeWith y bytes maxL' ret' hh).before args s = true) : c.exceptionTable.toList = tableOf hh := by
  obtain ⟨m9, meth9, c9, hn9, h1, h2, -, -, h6, -⟩ := Cond.codeWith_spec h
  cases Option.some.inj (hn9.symm.trans B.named)
  cases Option.some.inj (h1.symm.trans B.method)
  cases Option.some.inj (h2.symm.trans (Stand.of_body B).code)
  rw [← h6, table_eq]
end Bodies
end VXA
/-! ===== END ===== -/
/-! ===== BEGIN a static call of a method with an exception table ===== -/
section VXS
variable {p : Program} {l : Launch} {e : Env} {R : Room} {s : State} {m : MethodId} {args : Array Value} {below : List Frame} {meth : Method} {c : Code} {T : State} {H : Heap} {locs : List Loc} {cells slots : Nat}
abbrev vx_CSW (R : Room) (s : State) (args : Array Value) (own : String) (index : Nat) (y : MethodName) (bytes : ByteArray) (maxL : Nat) (ret : Option FieldType) (hh : List (Nat × Nat × Nat × Nat)) (ws : List Cond) (rm : Room) (mc ms n : Nat) : Prop :=
  (rm.cells = mc ∧ rm.slots = ms ∧ rm.frames + 1 ≤ R.frames ∧ 8 + (maxL + 11) + rm.locals ≤ R.locals ∧ (∀ w ∈ ws, ∀ (a' : Array Value) (U : State), s.WarmedH U.vm → w.before a' U = true) ∧ Cond.codeWith y bytes maxL ret hh ∈ ws) ∧
  (Cond.codeWith y bytes maxL ret hh).before args s = true ∧ (Cond.initialized y.cls).before args s = true ∧ (y.cls ≠ "java/lang/invoke/MethodHandle" ∧ y.cls ≠ "java/lang/invoke/VarHandle") ∧
  (∀ sig, parseMethodDescriptor y.desc = some sig → n = sig.parameters.length) ∧ (Cond.methodLink own index y).before args s = true ∧ (Cond.static y).before args s = true
theorem vx_cwSW {own : String} {index maxL mc ms : Nat} {y : MethodName} {bytes : ByteArray} {ret : Option FieldType} {hh : List (Nat × Nat × Nat × Nat)} {Ts ws ws' : List Cond} {rm : Room} (n : Nat) (ht : ∀ w ∈ Ts, w.before args s = true) (hT : GoodIn Ts (va_wsS own index y ws)) (hw : ws = Cond.codeWith y bytes maxL ret hh :: ws') (hrc : rm.cells = mc) (hrs : rm.slots = ms)
    (hd : y.cls ≠ "java/lang/invoke/MethodHandle" ∧ y.cls ≠ "java/lang/invoke/VarHandle" ∧ (parseMethodDescriptor y.desc).map (fun d => d.parameters.length) = some n) (hR : rm.frames + 1 ≤ R.frames ∧ 8 + (maxL + 11) + rm.locals ≤ R.locals) :
    vx_CSW R s args own index y bytes maxL ret hh ws rm mc ms n := by
  have ok : ∀ w ∈ va_wsS own index y ws, w.before args s = true := fun w h => ht w (hT w h).1
  have hG : GoodIn Ts ws := fun w h => hT w (by unfold va_wsS; exact List.mem_append_right _ h)
  have hc : Cond.codeWith y bytes maxL ret hh ∈ ws := by rw [hw]; exact List.mem_cons_self
  refine ⟨⟨hrc, hrs, hR.1, hR.2, pay_in ht hG, hc⟩, ht _ (hG _ hc).1, ok _ (by simp [va_wsS]), ⟨hd.1, hd.2.1⟩, fun sig h => ?_, ok _ (by simp [va_wsS]), ok _ (by simp [va_wsS])⟩
  have h2 := hd.2.2
  rw [h] at h2
  exact (Option.some.inj h2).symm
theorem vx_callSW (X : Stand p l e R s m args below meth c T locs cells slots) (hexec : p.tables.exec = Jvm.exec) {own : String} {index : Nat} {y : MethodName} {bytes : ByteArray} {maxL : Nat} {ret : Option FieldType} {hh : List (Nat × Nat × Nat × Nat)}
    (hown : s.vm.findClass own = some m.cls) (hlink : (Cond.methodLink own index y).before args s = true) (hstat : (Cond.static y).before args s = true) (hinit : (Cond.initialized y.cls).before args s = true)
    (hcode : (Cond.codeWith y bytes maxL ret hh).before args s = true) (hy : y.cls ≠ "java/lang/invoke/MethodHandle" ∧ y.cls ≠ "java/lang/invoke/VarHandle")
    {W9 : Nat} {Pre : Pt → Array Value → Prop} {Post : Pt → Array Value → Option Value → Pt → Prop} (hK : Back l R p e below s args y 3 W9 Pre Post)
    {g : JFrame} (hg : g.method = m) (hsize : g.locals.size = c.maxLocals) {argsL rest : List Value} (hlen : ∀ sig, parseMethodDescriptor y.desc = some sig → argsL.length = sig.parameters.length)
    (hstack : g.stack = argsL.reverse ++ rest) (hW : 2 * g.monitorRoom + (rest.map fun v => v.category).sum ≤ W9) (hdg : decode c.code g.pc = .ok (.invokestatic index, 3))
    (hpre : ∀ vm₁, s.WarmedH vm₁ → Pre ⟨T.setVm vm₁, locs, cells, slots⟩ argsL.toArray) :
    ∃ (v : Option Value) (vm₁ : Vm) (B : Pt), s.WarmedH vm₁ ∧ Stand p l e R s m args below meth c B.U B.locs B.cells B.slots ∧ Post ⟨T.setVm vm₁, locs, cells, slots⟩ argsL.toArray v B ∧
      ∀ target, Steps p.tables e below (B.U.setTop { g with pc := g.pc + 3, stack := v.toList ++ rest }) target → Steps p.tables e below (T.setTop g) target := by
  obtain ⟨mk, methM, cM, hnamed, hmethM, -, -, -, -, -, -, hsigM⟩ := Cond.codeWith_spec hcode
  have hstatic : methM.isStatic = true := Cond.static_spec hnamed hmethM hstat
  obtain ⟨kP, hkP, -⟩ := className_of_methodNamed hnamed
  have hinitP : kP.init = .initialized := Cond.initialized_spec (findClass_of_methodNamed hnamed) hkP hinit
  obtain ⟨vm₁, X₁, hstep₁⟩ := X.invokestatic hexec hown hlink hnamed hmethM hstatic hkP hinitP hy (g := g) hg (argsL := argsL) (rest := rest) (hlen _ hsigM) hstack hdg
  obtain ⟨v, B, X', hpost, hsteps⟩ := hK m meth c ⟨T.setVm vm₁, locs, cells, slots⟩ { g with stack := rest } (.invokestatic index) mk argsL.toArray X₁ hg hsize hdg hW (X₁.named hnamed) (hpre vm₁ X₁.warmed)
  exact ⟨v, vm₁, B, X₁.warmed, X', hpost, fun target h => hstep₁ _ fun acts => by rw [doInvoke_state]; exact hsteps.trans h⟩
theorem vx_runSW {y : MethodName} {bytes cc : ByteArray} {maxL nL mc ms n index : Nat} {ret : Option FieldType} {hh : List (Nat × Nat × Nat × Nat)} {ws : List Cond} {rm : Room} {Pc : Array Value → State → Prop} {Qc : Array Value → State → Outcome → State → Prop} {free : Addr → Prop} {Ts : List Cond} {own : String} {As rest : List Value} {g : JFrame}
    (S : CallFix p m c cc nL s args Ts own) (hM : Met l y ws rm Pc Qc mc ms free) (cw : vx_CSW R s args own index y bytes maxL ret hh ws rm mc ms n) (hp : PreS s H Pc As)
    (hg : g.method = m) (hn : As.length = n) (hsize : g.locals.size = nL) (hstack : g.stack = As.reverse ++ rest) (hW : 2 * g.monitorRoom + (rest.map fun v => v.category).sum ≤ 8) (hdg : decode cc g.pc = .ok (.invokestatic index, 3)) (hf : cells + mc ≤ R.cells ∧ slots + ms ≤ R.slots) :
    va_Run p l e R s m args below meth c H locs cells slots mc ms g rest (Qc As.toArray) (free) := by
  obtain ⟨⟨hrc, hrs, hfr, hlo, hws, hcw⟩, hcode, hini, hy, hlen, hl, hstt⟩ := cw
  have hK : Back l R p e below s args y 3 8 (PreOf R mc ms Pc) (PostOf Qc mc ms free) := va_backW (hh := hh) (bytes := bytes) (maxL := maxL) (ret := ret) hM hp.1 hrc hrs hfr hlo hws hcw (fun a' U hW => word_at hW (Or.inl (by first | rfl | simp [Cond.onTables, Cond.keeps, Cond.steady])) hini)
  obtain ⟨hx, hb, hml, ho, -⟩ := S
  intro T hT X
  obtain ⟨v, vm₁, ⟨U', l2, c2, s2⟩, hW₁, X', ⟨g', mk, t, L, e1, e2, hq, h1, hL, h2, h3⟩, st⟩ := vx_callSW X hx (hh := hh) (bytes := bytes) (maxL := maxL) (ret := ret) ho hl hstt hini hcode hy hK hg (hsize.trans hml.symm) (argsL := As) (rest := rest) (fun sig h => hn.trans (hlen sig h)) hstack hW (by rw [hb]; exact hdg)
    (fun vm₁ hW₁ => ⟨hf.1, hf.2, hp.2 (T.setVm vm₁) hT hW₁⟩)
  dsimp only [Pt.U, Pt.locs, Pt.cells, Pt.slots] at X' e1 e2 h1 h2 h3 st
  subst h1; subst h2; subst h3
  exact ⟨v, (T.setVm vm₁).calling g' mk As.toArray, t, U', L, hT, X', hL, e1, e2, hq, st⟩
/-- not caught here, past rows that name other classes: it goes on to the caller -/
theorem vx_outP {p : Program} {l : Launch} {e : Env} {R : Room} {s : State} {m : MethodId} {args : Array Value} {below : List Frame} {meth : Method} {c : Code} {H : Heap} {locs : List Loc} {cells slots : Nat} {free : Addr → Prop} {ls : Array Slot} {rest : List Value} {Qc : Array Value → State → Outcome → State → Prop} {XC : String → State → State → Prop}
    {pc : Nat} {own E : String} {ce : Cell} {q : Addr} {mc ms : Nat} (hown : s.vm.findClass own = some m.cls) (hlocks : meth.locks = false)
    (hpass : ∀ z ∈ c.exceptionTable.toList, covers z pc = false ∨ (z.catchType ≠ 0 ∧ ∃ nm : String, (Cond.classLink own z.catchType nm).before args s = true ∧ va_Nc E nm s)) (hcell : H[q]? = some ce) (hv : ce.vm = .none) (hcl : s.vm.findClass E = some ce.cls)
    (hx : ∀ t : State, t.heap = H → s.vm.Alike t.vm → XC E s t) (hf : ∀ z ∈ locs, free z.base) (hc : cells ≤ mc) (hs : slots ≤ ms) :
    vx_W p l e R s m args below meth c H locs cells slots (vx_MQ below Qc XC args s mc ms free) (F0 m pc ls rest) q := by
  intro T hT X
  have hpl : e.platform.magicAccessors = ({} : Platform).magicAccessors := by rw [X.admits.platform]
  obtain ⟨vm', hW', X', st⟩ := X.outThrough hlocks q (g := F0 m pc ls rest) rfl rfl rfl (cell := ce) (by rw [hT]; exact hcell) (by rw [hv]; rfl)
    (by obtain ⟨k9, h9, -⟩ := Vm.findClass_spec hcl; exact ⟨k9, h9⟩) (fun z hz => by
      rcases hpass z hz with h | ⟨hz0, nm, hl1, hn1⟩
      · exact Or.inl h
      · obtain ⟨c6, hc6, hcl6⟩ := Cond.classLink_spec hown hl1 e.platform hpl
        obtain ⟨a8, b8, h1, h2, h3⟩ := hn1
        cases Option.some.inj (h1.symm.trans hcl)
        cases Option.some.inj (h2.symm.trans hc6)
        exact Or.inr ⟨hz0, _, hcl6, h3⟩)
  obtain ⟨g₀, hfr⟩ := X'.frames_eq
  have hcell9 : ((T.setVm vm').setFrames (.throwing q :: below)).heap[q]? = some ce := by
    show T.heap[q]? = some ce
    rw [hT]; exact hcell
  have hend : Ended ((T.setVm vm').setFrames (.throwing q :: below)) below (.threw q) := State.frames_setFrames _ (State.cur_lt_of_frames hfr)
  refine ⟨(T.setVm vm').setFrames (.throwing q :: below), ?_, .threw q, X'.here.running, hend, Or.inr ⟨q, rfl, E, ce, locs, hx _ hT (X'.ends _).1.alike, hcell9, hv, hcl, (X'.ends _).1, (X'.ends _).2.mono hc hs, hf⟩⟩
  rw [X.pushThrowing_eq]
  exact st
/-- a thing of a world lies in the heap -/
theorem vx_lt {D : va_G} {cl : List vw_C} {ws : va_W} {H1 : Heap} (h : va_P D cl ws H1) {k : Nat} {q : Nat × va_E} (hk : ws[k]? = some q) : q.1 < H1.size := (h k q hk).lt
end VXS
/-! ===== END ===== -/
/-! ===== BEGIN methods with a table of their own: called by a name, returning or throwing ===== -/
section VXH
/-! vx_backW, vx_callVX, vx_callSX, vx_callVW, vx_runVW, vx_runVX, vx_runSX, vx_ofWH follow the same proofs as their sisters above (Free/Laws.lean, Shelf42/LK1.lean); vx_outP calls Shelf42/NT130.lean (outThrough). -/
section
variable {l : Launch} {R : Room} {p : Program} {e : Env} {below : List Frame} {s : State} {sargs : Array Value} {y : MethodName} {len W9 : Nat}
theorem vx_backW {ws : List Cond} {rm : Room} {Pc : Array Value → State → Prop} {Qc : Array Value → State → Outcome → State → Prop} {XC : String → State → State → Prop} {mc ms : Nat} {free : Addr → Prop} {bytes : ByteArray} {maxL : Nat} {ret : Option FieldType} {hh : List (Nat × Nat × Nat × Nat)}
    (hM : vx_Met l y ws rm Pc Qc XC mc ms free) (hblind : FrameBlind Pc) (hrc : rm.cells = mc) (hrs : rm.slots = ms)
    (hframes : rm.frames + 1 ≤ R.frames) (hlocals : W9 + (maxL + 11) + rm.locals ≤ R.locals)
    (hws : ∀ w ∈ ws, ∀ a' U, s.WarmedH U.vm → w.before a' U = true) (hcode : Cond.codeWith y bytes maxL ret hh ∈ ws) (hinit : ∀ a' U, s.WarmedH U.vm → (Cond.initialized y.cls).before a' U = true) :
    vx_Back l R p e below s sargs y len W9 (PreOf R mc ms Pc) (PostOf Qc mc ms free) (vx_Post XC mc ms free) := by
  intro m meth c A g ig mk a X hg hsize hdg hW hn hp
  have h1 : (headSpec ws rm).pre.before a A.U = true := atoms_intro fun w hw => hws w hw _ _ X.warmed
  have h2 : (Cond.codeWith y bytes maxL ret hh).before a A.U = true := hws _ hcode _ _ X.warmed
  have h3 : (Cond.initialized y.cls).before a A.U = true := hinit _ _ X.warmed
  have h4 : A.cells + (headSpec ws rm).room.cells ≤ R.cells := by rw [show (headSpec ws rm).room.cells = mc from hrc]; exact hp.1
  have h5 : A.slots + (headSpec ws rm).room.slots ≤ R.slots := by rw [show (headSpec ws rm).room.slots = ms from hrs]; exact hp.2.1
  have hPc : Pc a (A.U.calling g mk a) := hblind _ _ _ _ hp.2.2
  obtain ⟨U, Ls, c0, s0⟩ := A
  dsimp only [Pt.U, Pt.locs, Pt.cells, Pt.slots] at h1 h2 h3 h4 h5 X hn hPc ⊢
  obtain ⟨m9, methY, cY, hn9, hmY, hcY, -, hlY, -⟩ := Cond.codeWith_spec h2
  cases Option.some.inj (hn9.symm.trans hn)
  obtain ⟨kY, hkY, -⟩ := className_of_methodNamed hn
  have hinitY : kY.init = .initialized := Cond.initialized_spec (findClass_of_methodNamed hn) hkY h3
  have h : At U g.method c below := by rw [hg]; exact X.here
  have hlocals9 : W9 + (maxL + 11) + (headSpec ws rm).room.locals ≤ R.locals := hlocals
  have happ : (headSpec ws rm).appliesLoose y e.platform (U.calling g mk a) = true :=
    Spec.appliesLoose_calling (g := g) h hdg hn hkY hinitY
      (X.room_calling (g := g) (R' := (headSpec ws rm).room) hsize hmY hcY hframes (by rw [hlY]; omega) h4 h5) h1
  obtain ⟨mid, hmid⟩ := h.above
  have hfr : (U.setTop g).frames = (.java g :: mid) ++ below := by rw [State.frames_setTop' g h.top, hmid]; rfl
  obtain ⟨o, s₂, hsteps, -, hend, hq⟩ := Steps.callFree hM p X.admits X.cas X.clock (acts := []) hfr happ hPc trivial
  have hq' : vx_Q Qc XC mc ms free a (U.calling g mk a) o s₂ := hq
  rw [State.frames_setTop' g h.top] at hend
  obtain ⟨g₀, hg0⟩ := Option.isSome_iff_exists.mp h.top
  obtain ⟨r, hr⟩ := State.topJava?_eq_some.mp hg0
  have hr' : (({ U with heap := s₂.heap, slotsUsed := s₂.slotsUsed } : State).setVm s₂.vm).frames = .java g₀ :: r := hr
  rcases hq' with ⟨hqc, L, hfe, hL⟩ | ⟨q, rfl, E, ce, L, hx, hce, hcv, hcl, hW₂, hsm, hL⟩
  · obtain ⟨⟨v, rfl⟩, hW₂, e2, q2, q3, q4, q5, q6⟩ := id hfe
    have e3 : s₂ = ({ (U.calling g mk a).setFrames s₂.frames with heap := s₂.heap, slotsUsed := s₂.slotsUsed } : State).setVm s₂.vm := by
      have : s₂ = ({ s₂ with vm := (U.calling g mk a).vm } : State).setVm s₂.vm := rfl
      rw [e2] at this
      exact this
    obtain ⟨c₂, i₂, len₂, hc₂, hd₂, hf₂⟩ := hend
    have hW' : U.WarmedH s₂.vm := hW₂
    have hcc : c₂ = c := by
      have h1 : s₂.code? g.method = U.code? g.method := by
        rw [State.code?_eq, State.code?_eq, hW'.alike.method?]
      exact Option.some.inj (hc₂.symm.trans (h1.trans h.code))
    subst hcc
    have hlen : len₂ = len := by rw [hdg] at hd₂; cases hd₂; rfl
    subst hlen
    have hs₂ : s₂ = (({ U with heap := s₂.heap, slotsUsed := s₂.slotsUsed } : State).setVm s₂.vm).setTop { g with pc := g.pc + len₂, stack := v.toList ++ g.stack } := by
      refine e3.trans ?_
      rw [hf₂, State.calling_eq h.top, State.setFrames_setFrames, State.setTop_of_frames _ hr', hr]
      rfl
    have hsame : U.sameButNew ({ U with heap := s₂.heap, slotsUsed := s₂.slotsUsed } : State) L mc ms := by
      refine ⟨?_, q2, q3, q4, q5, q6⟩
      obtain ⟨t, ht, -⟩ := State.frames_cons hr
      show ({ U with heap := s₂.heap, slotsUsed := s₂.slotsUsed } : State) = { U.setFrames U.frames with heap := s₂.heap, slotsUsed := s₂.slotsUsed }
      rw [State.setFrames_self ht]
    subst hg
    refine Or.inl ⟨v, ⟨(({ U with heap := s₂.heap, slotsUsed := s₂.slotsUsed } : State).setVm s₂.vm), Ls ++ L, c0 + mc, s0 + ms⟩,
      ⟨X.admits, X.cas, X.clock, X.frames, X.room, X.hears, X.method, X.code, (X.here.setHeapUsed s₂.heap s₂.slotsUsed).setVm hW'.alike, X.tail, State.WarmedH.trans X.warmed hW', X.limits, X.bytes, X.same.trans (hsame.setVm s.vm)⟩,
      ⟨g, mk, s₂, L, rfl, rfl, hqc, rfl, hL, rfl, rfl⟩, ?_⟩
    show Steps p.tables e below _ ((({ U with heap := s₂.heap, slotsUsed := s₂.slotsUsed } : State).setVm s₂.vm).setTop { g with pc := g.pc + len₂, stack := v.toList ++ g.stack })
    rw [← hs₂]
    exact hsteps
  · obtain ⟨e2, q2, q3, q4, q5, q6⟩ := id hsm
    have e3 : s₂ = ({ (U.calling g mk a).setFrames s₂.frames with heap := s₂.heap, slotsUsed := s₂.slotsUsed } : State).setVm s₂.vm := by
      have : s₂ = ({ s₂ with vm := (U.calling g mk a).vm } : State).setVm s₂.vm := rfl
      rw [e2] at this
      exact this
    have hf₂ : s₂.frames = .throwing q :: .java g :: U.frames.tail := hend
    have hW' : U.WarmedH s₂.vm := hW₂
    have hs₂ : s₂ = ((({ U with heap := s₂.heap, slotsUsed := s₂.slotsUsed } : State).setVm s₂.vm).setTop g).pushFrame (.throwing q) := by
      refine e3.trans ?_
      rw [hf₂, State.calling_eq h.top, State.setFrames_setFrames, State.pushFrame, State.frames_setTop _ hr', State.setTop_of_frames _ hr', State.setFrames_setFrames, hr]
      rfl
    have hsame : U.sameButNew ({ U with heap := s₂.heap, slotsUsed := s₂.slotsUsed } : State) L mc ms := by
      refine ⟨?_, q2, q3, q4, q5, q6⟩
      obtain ⟨t, ht, -⟩ := State.frames_cons hr
      show ({ U with heap := s₂.heap, slotsUsed := s₂.slotsUsed } : State) = { U.setFrames U.frames with heap := s₂.heap, slotsUsed := s₂.slotsUsed }
      rw [State.setFrames_self ht]
    subst hg
    refine Or.inr ⟨q, ⟨(({ U with heap := s₂.heap, slotsUsed := s₂.slotsUsed } : State).setVm s₂.vm), Ls ++ L, c0 + mc, s0 + ms⟩,
      ⟨X.admits, X.cas, X.clock, X.frames, X.room, X.hears, X.method, X.code, (X.here.setHeapUsed s₂.heap s₂.slotsUsed).setVm hW'.alike, X.tail, State.WarmedH.trans X.warmed hW', X.limits, X.bytes, X.same.trans (hsame.setVm s.vm)⟩,
      ⟨g, mk, s₂, L, E, ce, rfl, rfl, hx, hce, hcv, hcl, rfl, hL, rfl, rfl⟩, ?_⟩
    show Steps p.tables e below _ (((({ U with heap := s₂.heap, slotsUsed := s₂.slotsUsed } : State).setVm s₂.vm).setTop g).pushFrame (.throwing q))
    rw [← hs₂]
    exact hsteps
end
variable {p : Program} {l : Launch} {e : Env} {R : Room} {s : State} {m : MethodId} {args : Array Value} {below : List Frame} {meth : Method} {c : Code} {T : State} {H : Heap} {locs : List Loc} {cells slots : Nat}
theorem vx_callVX (X : Stand p l e R s m args below meth c T locs cells slots) (hexec : p.tables.exec = Jvm.exec) {own C : String} {index : Nat} {y : MethodName} {bytes : ByteArray} {maxL : Nat} {ret : Option FieldType} {hh : List (Nat × Nat × Nat × Nat)}
    (hown : s.vm.findClass own = some m.cls) (hlink : (Cond.methodLink own index y).before args s = true) (hinst : (Cond.instanceMethod y).before args s = true) (hsel : (Cond.selects C y y).before args s = true)
    (hcode : (Cond.codeWith y bytes maxL ret hh).before args s = true) (hy : y.cls ≠ "java/lang/invoke/MethodHandle" ∧ y.cls ≠ "java/lang/invoke/VarHandle")
    {W9 : Nat} {Pre : Pt → Array Value → Prop} {Post : Pt → Array Value → Option Value → Pt → Prop} {PostX : Pt → Array Value → Addr → Pt → Prop} (hK : vx_Back l R p e below s args y 3 W9 Pre Post PostX)
    {b : Addr} {cellB : Cell} (hcell : T.heap[b]? = some cellB) (hobj : cellB.vm.isStatics = false) (hcls : s.vm.findClass C = some cellB.cls)
    {g : JFrame} (hg : g.method = m) (hsize : g.locals.size = c.maxLocals) {argsL rest : List Value} (hlen : ∀ sig, parseMethodDescriptor y.desc = some sig → argsL.length = sig.parameters.length)
    (hstack : g.stack = argsL.reverse ++ .ref b :: rest) (hW : 2 * g.monitorRoom + (rest.map fun v => v.category).sum ≤ W9) (hdg : decode c.code g.pc = .ok (.invokevirtual index, 3))
    (hpre : ∀ vm₁, s.WarmedH vm₁ → Pre ⟨T.setVm vm₁, locs, cells, slots⟩ (Value.ref b :: argsL).toArray) :
    (∃ (v : Option Value) (vm₁ : Vm) (B : Pt), s.WarmedH vm₁ ∧ Stand p l e R s m args below meth c B.U B.locs B.cells B.slots ∧ Post ⟨T.setVm vm₁, locs, cells, slots⟩ (Value.ref b :: argsL).toArray v B ∧
      ∀ target, Steps p.tables e below (B.U.setTop { g with pc := g.pc + 3, stack := v.toList ++ rest }) target → Steps p.tables e below (T.setTop g) target) ∨
    (∃ (q : Addr) (vm₁ : Vm) (B : Pt), s.WarmedH vm₁ ∧ Stand p l e R s m args below meth c B.U B.locs B.cells B.slots ∧ PostX ⟨T.setVm vm₁, locs, cells, slots⟩ (Value.ref b :: argsL).toArray q B ∧
      Steps p.tables e below (T.setTop g) ((B.U.setTop { g with stack := rest }).pushFrame (.throwing q))) := by
  obtain ⟨mk, methM, hnamed, hmethM, hstM, habM⟩ := Cond.instanceMethod_spec hinst
  obtain ⟨m8, methM', cM, hn8, hmethM', -, -, -, -, -, -, hsigM⟩ := Cond.codeWith_spec hcode
  cases Option.some.inj (hn8.symm.trans hnamed)
  cases hmethM.symm.trans hmethM'
  obtain ⟨c2, r2, m2, q1, q2, q3, q4, kP, hkP, hkPi⟩ := Cond.selects_spec hsel
  cases hcls.symm.trans q1
  cases (State.methodFound?_of_named hnamed hy).symm.trans q2
  cases hnamed.symm.trans q3
  have hselP : selectMethod e.platform s.vm cellB.cls mk = .method mk := by rw [Launch.admits_selectMethod X.admits]; exact q4
  obtain ⟨vm₁, X₁, hstep₁⟩ := X.invokevirtual hexec hown hlink hnamed hmethM hstM hkP hkPi hy (a := b) (cell := cellB) hcell
    (fun z h => by rw [h] at hobj; cases hobj) hselP hmethM habM hkP hkPi (g := g) hg (argsL := argsL) (rest := rest) (hlen _ hsigM) hstack hdg
  rcases hK m meth c ⟨T.setVm vm₁, locs, cells, slots⟩ { g with stack := rest } (.invokevirtual index) mk (Value.ref b :: argsL).toArray X₁ hg hsize hdg hW (X₁.named hnamed) (hpre vm₁ X₁.warmed) with ⟨v, B, X', hpost, hsteps⟩ | ⟨q, B, X', hpost, hsteps⟩
  · exact Or.inl ⟨v, vm₁, B, X₁.warmed, X', hpost, fun target h => hstep₁ _ fun acts => by rw [doInvoke_state]; exact hsteps.trans h⟩
  · exact Or.inr ⟨q, vm₁, B, X₁.warmed, X', hpost, hstep₁ _ fun acts => by rw [doInvoke_state]; exact hsteps⟩
theorem vx_callSX (X : Stand p l e R s m args below meth c T locs cells slots) (hexec : p.tables.exec = Jvm.exec) {own : String} {index : Nat} {y : MethodName} {bytes : ByteArray} {maxL : Nat} {ret : Option FieldType} {hh : List (Nat × Nat × Nat × Nat)}
    (hown : s.vm.findClass own = some m.cls) (hlink : (Cond.methodLink own index y).before args s = true) (hstat : (Cond.static y).before args s = true) (hinit : (Cond.initialized y.cls).before args s = true)
    (hcode : (Cond.codeWith y bytes maxL ret hh).before args s = true) (hy : y.cls ≠ "java/lang/invoke/MethodHandle" ∧ y.cls ≠ "java/lang/invoke/VarHandle")
    {W9 : Nat} {Pre : Pt → Array Value → Prop} {Post : Pt → Array Value → Option Value → Pt → Prop} {PostX : Pt → Array Value → Addr → Pt → Prop} (hK : vx_Back l R p e below s args y 3 W9 Pre Post PostX)
    {g : JFrame} (hg : g.method = m) (hsize : g.locals.size = c.maxLocals) {argsL rest : List Value} (hlen : ∀ sig, parseMethodDescriptor y.desc = some sig → argsL.length = sig.parameters.length)
    (hstack : g.stack = argsL.reverse ++ rest) (hW : 2 * g.monitorRoom + (rest.map fun v => v.category).sum ≤ W9) (hdg : decode c.code g.pc = .ok (.invokestatic index, 3))
    (hpre : ∀ vm₁, s.WarmedH vm₁ → Pre ⟨T.setVm vm₁, locs, cells, slots⟩ argsL.toArray) :
    (∃ (v : Option Value) (vm₁ : Vm) (B : Pt), s.WarmedH vm₁ ∧ Stand p l e R s m args below meth c B.U B.locs B.cells B.slots ∧ Post ⟨T.setVm vm₁, locs, cells, slots⟩ argsL.toArray v B ∧
      ∀ target, Steps p.tables e below (B.U.setTop { g with pc := g.pc + 3, stack := v.toList ++ rest }) target → Steps p.tables e below (T.setTop g) target) ∨
    (∃ (q : Addr) (vm₁ : Vm) (B : Pt), s.WarmedH vm₁ ∧ Stand p l e R s m args below meth c B.U B.locs B.cells B.slots ∧ PostX ⟨T.setVm vm₁, locs, cells, slots⟩ argsL.toArray q B ∧
      Steps p.tables e below (T.setTop g) ((B.U.setTop { g with stack := rest }).pushFrame (.throwing q))) := by
  obtain ⟨mk, methM, cM, hnamed, hmethM, -, -, -, -, -, -, hsigM⟩ := Cond.codeWith_spec hcode
  have hstatic : methM.isStatic = true := Cond.static_spec hnamed hmethM hstat
  obtain ⟨kP, hkP, -⟩ := className_of_methodNamed hnamed
  have hinitP : kP.init = .initialized := Cond.initialized_spec (findClass_of_methodNamed hnamed) hkP hinit
  obtain ⟨vm₁, X₁, hstep₁⟩ := X.invokestatic hexec hown hlink hnamed hmethM hstatic hkP hinitP hy (g := g) hg (argsL := argsL) (rest := rest) (hlen _ hsigM) hstack hdg
  rcases hK m meth c ⟨T.setVm vm₁, locs, cells, slots⟩ { g with stack := rest } (.invokestatic index) mk argsL.toArray X₁ hg hsize hdg hW (X₁.named hnamed) (hpre vm₁ X₁.warmed) with ⟨v, B, X', hpost, hsteps⟩ | ⟨q, B, X', hpost, hsteps⟩
  · exact Or.inl ⟨v, vm₁, B, X₁.warmed, X', hpost, fun target h => hstep₁ _ fun acts => by rw [doInvoke_state]; exact hsteps.trans h⟩
  · exact Or.inr ⟨q, vm₁, B, X₁.warmed, X', hpost, hstep₁ _ fun acts => by rw [doInvoke_state]; exact hsteps⟩
theorem vx_callVW (X : Stand p l e R s m args below meth c T locs cells slots) (hexec : p.tables.exec = Jvm.exec) {own C : String} {index : Nat} {y : MethodName} {bytes : ByteArray} {maxL : Nat} {ret : Option FieldType} {hh : List (Nat × Nat × Nat × Nat)}
    (hown : s.vm.findClass own = some m.cls) (hlink : (Cond.methodLink own index y).before args s = true) (hinst : (Cond.instanceMethod y).before args s = true) (hsel : (Cond.selects C y y).before args s = true)
    (hcode : (Cond.codeWith y bytes maxL ret hh).before args s = true) (hy : y.cls ≠ "java/lang/invoke/MethodHandle" ∧ y.cls ≠ "java/lang/invoke/VarHandle")
    {W9 : Nat} {Pre : Pt → Array Value → Prop} {Post : Pt → Array Value → Option Value → Pt → Prop} (hK : Back l R p e below s args y 3 W9 Pre Post)
    {b : Addr} {cellB : Cell} (hcell : T.heap[b]? = some cellB) (hobj : cellB.vm.isStatics = false) (hcls : s.vm.findClass C = some cellB.cls)
    {g : JFrame} (hg : g.method = m) (hsize : g.locals.size = c.maxLocals) {argsL rest : List Value} (hlen : ∀ sig, parseMethodDescriptor y.desc = some sig → argsL.length = sig.parameters.length)
    (hstack : g.stack = argsL.reverse ++ .ref b :: rest) (hW : 2 * g.monitorRoom + (rest.map fun v => v.category).sum ≤ W9) (hdg : decode c.code g.pc = .ok (.invokevirtual index, 3))
    (hpre : ∀ vm₁, s.WarmedH vm₁ → Pre ⟨T.setVm vm₁, locs, cells, slots⟩ (Value.ref b :: argsL).toArray) :
    ∃ (v : Option Value) (vm₁ : Vm) (B : Pt), s.WarmedH vm₁ ∧ Stand p l e R s m args below meth c B.U B.locs B.cells B.slots ∧ Post ⟨T.setVm vm₁, locs, cells, slots⟩ (Value.ref b :: argsL).toArray v B ∧
      ∀ target, Steps p.tables e below (B.U.setTop { g with pc := g.pc + 3, stack := v.toList ++ rest }) target → Steps p.tables e below (T.setTop g) target := by
  obtain ⟨mk, methM, hnamed, hmethM, hstM, habM⟩ := Cond.instanceMethod_spec hinst
  obtain ⟨m8, methM', cM, hn8, hmethM', -, -, -, -, -, -, hsigM⟩ := Cond.codeWith_spec hcode
  cases Option.some.inj (hn8.symm.trans hnamed)
  cases hmethM.symm.trans hmethM'
  obtain ⟨c2, r2, m2, q1, q2, q3, q4, kP, hkP, hkPi⟩ := Cond.selects_spec hsel
  cases hcls.symm.trans q1
  cases (State.methodFound?_of_named hnamed hy).symm.trans q2
  cases hnamed.symm.trans q3
  have hselP : selectMethod e.platform s.vm cellB.cls mk = .method mk := by rw [Launch.admits_selectMethod X.admits]; exact q4
  obtain ⟨vm₁, X₁, hstep₁⟩ := X.invokevirtual hexec hown hlink hnamed hmethM hstM hkP hkPi hy (a := b) (cell := cellB) hcell
    (fun z h => by rw [h] at hobj; cases hobj) hselP hmethM habM hkP hkPi (g := g) hg (argsL := argsL) (rest := rest) (hlen _ hsigM) hstack hdg
  obtain ⟨v, B, X', hpost, hsteps⟩ := hK m meth c ⟨T.setVm vm₁, locs, cells, slots⟩ { g with stack := rest } (.invokevirtual index) mk (Value.ref b :: argsL).toArray X₁ hg hsize hdg hW (X₁.named hnamed) (hpre vm₁ X₁.warmed)
  exact ⟨v, vm₁, B, X₁.warmed, X', hpost, fun target h => hstep₁ _ fun acts => by rw [doInvoke_state]; exact hsteps.trans h⟩
abbrev vx_CVW (R : Room) (s : State) (args : Array Value) (own C : String) (index : Nat) (y : MethodName) (bytes : ByteArray) (maxL : Nat) (ret : Option FieldType) (hh : List (Nat × Nat × Nat × Nat)) (ws : List Cond) (rm : Room) (mc ms n : Nat) : Prop :=
  (rm.cells = mc ∧ rm.slots = ms ∧ rm.frames + 1 ≤ R.frames ∧ 8 + (maxL + 11) + rm.locals ≤ R.locals ∧ (∀ w ∈ ws, ∀ (a' : Array Value) (U : State), s.WarmedH U.vm → w.before a' U = true) ∧ Cond.codeWith y bytes maxL ret hh ∈ ws) ∧
  (Cond.codeWith y bytes maxL ret hh).before args s = true ∧ (Cond.initialized y.cls).before args s = true ∧ (y.cls ≠ "java/lang/invoke/MethodHandle" ∧ y.cls ≠ "java/lang/invoke/VarHandle") ∧
  (∀ sig, parseMethodDescriptor y.desc = some sig → n = sig.parameters.length) ∧ (Cond.methodLink own index y).before args s = true ∧ (Cond.instanceMethod y).before args s = true ∧ (Cond.selects C y y).before args s = true
theorem vx_cwVW {own C : String} {index maxL mc ms : Nat} {y : MethodName} {bytes : ByteArray} {ret : Option FieldType} {hh : List (Nat × Nat × Nat × Nat)} {Ts ws ws' : List Cond} {rm : Room} (n : Nat) (ht : ∀ w ∈ Ts, w.before args s = true) (hT : GoodIn Ts (wsV own index C y ws)) (hw : ws = Cond.codeWith y bytes maxL ret hh :: ws') (hrc : rm.cells = mc) (hrs : rm.slots = ms)
    (hd : y.cls = C ∧ y.cls ≠ "java/lang/invoke/MethodHandle" ∧ y.cls ≠ "java/lang/invoke/VarHandle" ∧ (parseMethodDescriptor y.desc).map (fun d => d.parameters.length) = some n) (hR : rm.frames + 1 ≤ R.frames ∧ 8 + (maxL + 11) + rm.locals ≤ R.locals) :
    vx_CVW R s args own C index y bytes maxL ret hh ws rm mc ms n := by
  obtain ⟨hC, hd⟩ := hd
  subst hC
  have ok : ∀ w ∈ wsV own index y.cls y ws, w.before args s = true := fun w h => ht w (hT w h).1
  have hG : GoodIn Ts ws := fun w h => hT w (by unfold wsV; exact List.mem_append_right _ h)
  have hc : Cond.codeWith y bytes maxL ret hh ∈ ws := by rw [hw]; exact List.mem_cons_self
  refine ⟨⟨hrc, hrs, hR.1, hR.2, pay_in ht hG, hc⟩, ht _ (hG _ hc).1, ok _ (by simp [wsV]), ⟨hd.1, hd.2.1⟩, fun sig h => ?_, ok _ (by simp [wsV]), ok _ (by simp [wsV]), ok _ (by simp [wsV])⟩
  have h2 := hd.2.2
  rw [h] at h2
  exact (Option.some.inj h2).symm
theorem vx_runVW {y : MethodName} {bytes cc : ByteArray} {maxL nL mc ms n index : Nat} {ret : Option FieldType} {hh : List (Nat × Nat × Nat × Nat)} {ws : List Cond} {rm : Room} {Pc : Array Value → State → Prop} {Qc : Array Value → State → Outcome → State → Prop} {free : Addr → Prop} {Ts : List Cond} {own C : String} {b : Addr} {As rest : List Value} {g : JFrame}
    (S : CallFix p m c cc nL s args Ts own) (hM : Met l y ws rm Pc Qc mc ms free) (cw : vx_CVW R s args own C index y bytes maxL ret hh ws rm mc ms n) (hp : PreV s H C b Pc As)
    (hg : g.method = m) (hn : As.length = n) (hsize : g.locals.size = nL) (hstack : g.stack = As.reverse ++ .ref b :: rest) (hW : 2 * g.monitorRoom + (rest.map fun v => v.category).sum ≤ 8) (hdg : decode cc g.pc = .ok (.invokevirtual index, 3)) (hf : cells + mc ≤ R.cells ∧ slots + ms ≤ R.slots) :
    va_Run p l e R s m args below meth c H locs cells slots mc ms g rest (Qc (Value.ref b :: As).toArray) free := by
  obtain ⟨⟨hrc, hrs, hfr, hlo, hws, hcw⟩, hcode, hini, hy, hlen, hl, hin, hse⟩ := cw
  have hK : Back l R p e below s args y 3 8 (PreOf R mc ms Pc) (PostOf Qc mc ms free) := va_backW (hh := hh) (bytes := bytes) (maxL := maxL) (ret := ret) hM hp.1 hrc hrs hfr hlo hws hcw (fun a' U hW => word_at hW (Or.inl (by first | rfl | simp [Cond.onTables, Cond.keeps, Cond.steady])) hini)
  obtain ⟨hx, hb, hml, ho, -⟩ := S
  obtain ⟨-, ⟨cellB, hcB, hoB, hclB⟩, hPc⟩ := hp
  intro T hT X
  obtain ⟨v, vm₁, ⟨U', l2, c2, s2⟩, hW₁, X', ⟨g', mk, t, L, e1, e2, hq, h1, hL, h2, h3⟩, st⟩ := vx_callVW X hx (C := C) (hh := hh) (bytes := bytes) (maxL := maxL) (ret := ret) ho hl hin hse hcode hy hK (by rw [hT]; exact hcB) hoB hclB hg (hsize.trans hml.symm) (argsL := As) (rest := rest) (fun sig h => hn.trans (hlen sig h)) hstack hW (by rw [hb]; exact hdg)
    (fun vm₁ hW₁ => ⟨hf.1, hf.2, hPc (T.setVm vm₁) hT hW₁⟩)
  dsimp only [Pt.U, Pt.locs, Pt.cells, Pt.slots] at X' e1 e2 h1 h2 h3 st
  subst h1; subst h2; subst h3
  exact ⟨v, (T.setVm vm₁).calling g' mk (Value.ref b :: As).toArray, t, U', L, hT, X', hL, e1, e2, hq, st⟩
section
variable {y : MethodName} {bytes cc : ByteArray} {maxL nL mc ms n index : Nat} {ret : Option FieldType} {ws : List Cond} {rm : Room} {Pc : Array Value → State → Prop} {Qc : Array Value → State → Outcome → State → Prop} {XC : String → State → State → Prop} {free : Addr → Prop} {Ts : List Cond} {own C : String} {b : Addr} {As rest : List Value} {g : JFrame}
theorem vx_runVX {hh : List (Nat × Nat × Nat × Nat)} (S : CallFix p m c cc nL s args Ts own) (hM : vx_Met l y ws rm Pc Qc XC mc ms free) (cw : vx_CVW R s args own C index y bytes maxL ret hh ws rm mc ms n) (hp : PreV s H C b Pc As)
    (hg : g.method = m) (hn : As.length = n) (hsize : g.locals.size = nL) (hstack : g.stack = As.reverse ++ .ref b :: rest) (hW : 2 * g.monitorRoom + (rest.map fun v => v.category).sum ≤ 8) (hdg : decode cc g.pc = .ok (.invokevirtual index, 3)) (hf : cells + mc ≤ R.cells ∧ slots + ms ≤ R.slots) :
    vx_Run p l e R s m args below meth c H locs cells slots mc ms g rest (Qc (Value.ref b :: As).toArray) XC free := by
  obtain ⟨⟨hrc, hrs, hfr, hlo, hws, hcw⟩, hcode, hini, hy, hlen, hl, hin, hse⟩ := cw
  have hK : vx_Back l R p e below s args y 3 8 (PreOf R mc ms Pc) (PostOf Qc mc ms free) (vx_Post XC mc ms free) := vx_backW (hh := hh) (bytes := bytes) (maxL := maxL) (ret := ret) hM hp.1 hrc hrs hfr hlo hws hcw (fun a' U hW => word_at hW (Or.inl (by first | rfl | simp [Cond.onTables, Cond.keeps, Cond.steady])) hini)
  obtain ⟨hx, hb, hml, ho, -⟩ := S
  obtain ⟨-, ⟨cellB, hcB, hoB, hclB⟩, hPc⟩ := hp
  intro T hT X
  rcases vx_callVX X hx (C := C) (hh := hh) (bytes := bytes) (maxL := maxL) (ret := ret) ho hl hin hse hcode hy hK (by rw [hT]; exact hcB) hoB hclB hg (hsize.trans hml.symm) (argsL := As) (rest := rest) (fun sig h => hn.trans (hlen sig h)) hstack hW (by rw [hb]; exact hdg)
    (fun vm₁ hW₁ => ⟨hf.1, hf.2, hPc (T.setVm vm₁) hT hW₁⟩) with ⟨v, vm₁, ⟨U', l2, c2, s2⟩, hW₁, X', ⟨g', mk, t, L, e1, e2, hq, h1, hL, h2, h3⟩, st⟩ | ⟨q, vm₁, ⟨U', l2, c2, s2⟩, hW₁, X', ⟨g', mk, t, L, E, ce, e1, e2, hq, hce, hcv, hcl, h1, hL, h2, h3⟩, st⟩
  · dsimp only [Pt.U, Pt.locs, Pt.cells, Pt.slots] at X' e1 e2 h1 h2 h3 st
    subst h1; subst h2; subst h3
    exact Or.inl ⟨v, (T.setVm vm₁).calling g' mk (Value.ref b :: As).toArray, t, U', L, hT, X', hL, e1, e2, hq, st⟩
  · dsimp only [Pt.U, Pt.locs, Pt.cells, Pt.slots] at X' e1 e2 h1 h2 h3 st hcl
    subst h1; subst h2; subst h3
    exact Or.inr ⟨q, (T.setVm vm₁).calling g' mk (Value.ref b :: As).toArray, t, U', L, E, ce, hT, X', hL, e1, e2, hq, hce, hcv, vx_cls hW₁ hcl, st⟩
theorem vx_runSX {hh : List (Nat × Nat × Nat × Nat)} (S : CallFix p m c cc nL s args Ts own) (hM : vx_Met l y ws rm Pc Qc XC mc ms free) (cw : vx_CSW R s args own index y bytes maxL ret hh ws rm mc ms n) (hp : PreS s H Pc As)
    (hg : g.method = m) (hn : As.length = n) (hsize : g.locals.size = nL) (hstack : g.stack = As.reverse ++ rest) (hW : 2 * g.monitorRoom + (rest.map fun v => v.category).sum ≤ 8) (hdg : decode cc g.pc = .ok (.invokestatic index, 3)) (hf : cells + mc ≤ R.cells ∧ slots + ms ≤ R.slots) :
    vx_Run p l e R s m args below meth c H locs cells slots mc ms g rest (Qc As.toArray) XC free := by
  obtain ⟨⟨hrc, hrs, hfr, hlo, hws, hcw⟩, hcode, hini, hy, hlen, hl, hstt⟩ := cw
  have hK : vx_Back l R p e below s args y 3 8 (PreOf R mc ms Pc) (PostOf Qc mc ms free) (vx_Post XC mc ms free) := vx_backW (hh := hh) (bytes := bytes) (maxL := maxL) (ret := ret) hM hp.1 hrc hrs hfr hlo hws hcw (fun a' U hW => word_at hW (Or.inl (by first | rfl | simp [Cond.onTables, Cond.keeps, Cond.steady])) hini)
  obtain ⟨hx, hb, hml, ho, -⟩ := S
  intro T hT X
  rcases vx_callSX X hx (hh := hh) (bytes := bytes) (maxL := maxL) (ret := ret) ho hl hstt hini hcode hy hK hg (hsize.trans hml.symm) (argsL := As) (rest := rest) (fun sig h => hn.trans (hlen sig h)) hstack hW (by rw [hb]; exact hdg)
    (fun vm₁ hW₁ => ⟨hf.1, hf.2, hp.2 (T.setVm vm₁) hT hW₁⟩) with ⟨v, vm₁, ⟨U', l2, c2, s2⟩, hW₁, X', ⟨g', mk, t, L, e1, e2, hq, h1, hL, h2, h3⟩, st⟩ | ⟨q, vm₁, ⟨U', l2, c2, s2⟩, hW₁, X', ⟨g', mk, t, L, E, ce, e1, e2, hq, hce, hcv, hcl, h1, hL, h2, h3⟩, st⟩
  · dsimp only [Pt.U, Pt.locs, Pt.cells, Pt.slots] at X' e1 e2 h1 h2 h3 st
    subst h1; subst h2; subst h3
    exact Or.inl ⟨v, (T.setVm vm₁).calling g' mk As.toArray, t, U', L, hT, X', hL, e1, e2, hq, st⟩
  · dsimp only [Pt.U, Pt.locs, Pt.cells, Pt.slots] at X' e1 e2 h1 h2 h3 st hcl
    subst h1; subst h2; subst h3
    exact Or.inr ⟨q, (T.setVm vm₁).calling g' mk As.toArray, t, U', L, E, ce, hT, X', hL, e1, e2, hq, hce, hcv, vx_cls hW₁ hcl, st⟩
end
end VXH
theorem vx_ofWH {l : Launch} {y : MethodName} {ws ws' : List Cond} {rm : Room} {Pc : Array Value → State → Prop} {Qc : Array Value → State → Outcome → State → Prop} {XC : String → State → State → Prop} {mc ms : Nat} {free : Addr → Prop} {cc : ByteArray} {maxL : Nat} {ret : Option FieldType} {hh : List (Nat × Nat × Nat × Nat)}
    (hy : plainName y.cls = true) (hw : ws = Cond.codeWith y cc maxL ret hh :: ws')
    (body : ∀ p e s m args below meth c s₁, BodyLoose p l y (headSpec ws rm) cc maxL ret e s m args below meth c s₁ → c.maxLocals = maxL → Pc args s →
      W p l e (headSpec ws rm).room s m args below meth c s.heap [] 0 0 (vx_MQ below Qc XC args s mc ms free) (entryFrame m args maxL)) : vx_Met l y ws rm Pc Qc XC mc ms free := by
  refine MetFree.of_bodyS (code := cc) (maxLocals := maxL) (ret := ret) hy ?_ ?_
  · intro args s m h hn
    obtain ⟨m9, meth, c, hn9, h1, h2, h3, h4, -, h5, h6, -⟩ := Cond.codeWith_spec (atoms_spec (ws := ws) h _ (by rw [hw]; exact List.mem_cons_self))
    cases hn.symm.trans hn9
    exact ⟨meth, c, h1, h2, h3, h4, h5, h6⟩
  · intro p e s m args below meth c s₁ B hml hP _
    have hh0 : s₁.heap = s.heap := by rw [B.state]; rfl
    obtain ⟨t, a1, o, b1, b2, b3⟩ := body p e s m args below meth c s₁ B hml hP s₁ hh0 (Stand.of_body B)
    exact ⟨t, o, a1, b1, b2, b3⟩
/-! ===== END ===== -/

/-! ===== BEGIN printed: names, fields, word lists, decode rows ===== -/
end
section
def RX0 : String := "BrakeCurve$Line"
def TX0 : u_T := fun k => match k with
  | 0 => ("BrakeCurve$Line", "track", "LBrakeCurve$Track;", true)
  | 1 => ("BrakeCurve$Line", "trains", "[LBrakeCurve$Train;", true)
  | 2 => ("BrakeCurve$Line", "trainCount", "I", false)
  | _ => ("BrakeCurve$Line", "now", "I", false)
def tyX0 : Nat → FieldType := fun k => match k with
  | 0 => .object "BrakeCurve$Track"
  | 1 => .array (.object "BrakeCurve$Train")
  | 2 => .int
  | _ => .int
abbrev wsX00 : List Cond := u_ws RX0 TX0 4
theorem nmX0 : ∀ a, a < 4 → ∀ b, b < 4 → a ≠ b → (TX0 a).2.1 ≠ (TX0 b).2.1 := by decide +kernel
theorem tyX0_ok : ∀ k, k < 4 → parseFieldDescriptor (TX0 k).2.2.1 = some (tyX0 k) := by decide +kernel
abbrev cX0_init : ByteArray := prog_2_method_1_code
def yX0_init : MethodName := ⟨RX0, "<init>", "()V"⟩
abbrev cX0_copyFrom : ByteArray := prog_2_method_2_code
def yX0_copyFrom : MethodName := ⟨RX0, "copyFrom", "(LBrakeCurve$Line;)V"⟩
abbrev cX0_addTrain : ByteArray := prog_2_method_3_code
def yX0_addTrain : MethodName := ⟨RX0, "addTrain", "(IIIZ)I"⟩
abbrev cX0_isFreeUpTo : ByteArray := prog_2_method_4_code
def yX0_isFreeUpTo : MethodName := ⟨RX0, "isFreeUpTo", "(I)Z"⟩
abbrev cX0_countPresent : ByteArray := prog_2_method_5_code
def yX0_countPresent : MethodName := ⟨RX0, "countPresent", "()I"⟩
abbrev cX0_countCrashed : ByteArray := prog_2_method_6_code
def yX0_countCrashed : MethodName := ⟨RX0, "countCrashed", "()I"⟩
abbrev cX0_countOn : ByteArray := prog_2_method_7_code
def yX0_countOn : MethodName := ⟨RX0, "countOn", "(II)I"⟩
abbrev cX0_sumOfSpeeds : ByteArray := prog_2_method_8_code
def yX0_sumOfSpeeds : MethodName := ⟨RX0, "sumOfSpeeds", "()I"⟩
abbrev cX0_total : ByteArray := prog_2_method_9_code
def yX0_total : MethodName := ⟨RX0, "total", "(I)I"⟩
abbrev cX0_aheadOf : ByteArray := prog_2_method_10_code
def yX0_aheadOf : MethodName := ⟨RX0, "aheadOf", "(I)I"⟩
abbrev cX0_holdOf : ByteArray := prog_2_method_11_code
def yX0_holdOf : MethodName := ⟨RX0, "holdOf", "(LBrakeCurve$Train;)I"⟩
abbrev cX0_allowedSpeed : ByteArray := prog_2_method_12_code
def yX0_allowedSpeed : MethodName := ⟨RX0, "allowedSpeed", "(LBrakeCurve$Train;)I"⟩
abbrev cX0_isFresh : ByteArray := prog_2_method_13_code
def yX0_isFresh : MethodName := ⟨RX0, "isFresh", "(LBrakeCurve$Train;)Z"⟩
abbrev cX0_boundByEnd : ByteArray := prog_2_method_14_code
def yX0_boundByEnd : MethodName := ⟨RX0, "boundByEnd", "(LBrakeCurve$Train;)I"⟩
abbrev cX0_boundByAhead : ByteArray := prog_2_method_15_code
def yX0_boundByAhead : MethodName := ⟨RX0, "boundByAhead", "(I)I"⟩
abbrev cX0_leastBound : ByteArray := prog_2_method_16_code
def yX0_leastBound : MethodName := ⟨RX0, "leastBound", "(I)I"⟩
abbrev cX0_reasonOf : ByteArray := prog_2_method_17_code
def yX0_reasonOf : MethodName := ⟨RX0, "reasonOf", "(I)I"⟩
abbrev cX0_hindranceOfWorks : ByteArray := prog_2_method_18_code
def yX0_hindranceOfWorks : MethodName := ⟨RX0, "hindranceOfWorks", "(II)I"⟩
abbrev cX0_goOn : ByteArray := prog_2_method_19_code
def yX0_goOn : MethodName := ⟨RX0, "goOn", "(I)I"⟩
abbrev cX0_hasRadio : ByteArray := prog_2_method_20_code
def yX0_hasRadio : MethodName := ⟨RX0, "hasRadio", "(LBrakeCurve$Train;)Z"⟩
abbrev cX0_reportAll : ByteArray := prog_2_method_21_code
def yX0_reportAll : MethodName := ⟨RX0, "reportAll", "(I)V"⟩
abbrev cX0_go : ByteArray := prog_2_method_22_code
def yX0_go : MethodName := ⟨RX0, "go", "(LBrakeCurve$Train;)V"⟩
abbrev cX0_stopAtStation : ByteArray := prog_2_method_23_code
def yX0_stopAtStation : MethodName := ⟨RX0, "stopAtStation", "(LBrakeCurve$Train;)V"⟩
abbrev cX0_missStations : ByteArray := prog_2_method_24_code
def yX0_missStations : MethodName := ⟨RX0, "missStations", "(LBrakeCurve$Train;)V"⟩
abbrev cX0_look : ByteArray := prog_2_method_25_code
def yX0_look : MethodName := ⟨RX0, "look", "(I)V"⟩
abbrev cX0_leaveAll : ByteArray := prog_2_method_26_code
def yX0_leaveAll : MethodName := ⟨RX0, "leaveAll", "()I"⟩
def RX1 : String := "BrakeCurve$Track"
def TX1 : u_T := fun k => match k with
  | 0 => ("BrakeCurve$Track", "limits", "[I", true)
  | 1 => ("BrakeCurve$Track", "grades", "[I", true)
  | 2 => ("BrakeCurve$Track", "radios", "[Z", true)
  | 3 => ("BrakeCurve$Track", "stationMetres", "[I", true)
  | 4 => ("BrakeCurve$Track", "dwells", "[I", true)
  | 5 => ("BrakeCurve$Track", "stopCounts", "[I", true)
  | 6 => ("BrakeCurve$Track", "stationCount", "I", false)
  | 7 => ("BrakeCurve$Track", "worksFirst", "[I", true)
  | 8 => ("BrakeCurve$Track", "worksLast", "[I", true)
  | _ => ("BrakeCurve$Track", "worksCount", "I", false)
def tyX1 : Nat → FieldType := fun k => match k with
  | 0 => .array .int
  | 1 => .array .int
  | 2 => .array .boolean
  | 3 => .array .int
  | 4 => .array .int
  | 5 => .array .int
  | 6 => .int
  | 7 => .array .int
  | 8 => .array .int
  | _ => .int
abbrev wsX10 : List Cond := u_ws RX1 TX1 10
theorem nmX1 : ∀ a, a < 10 → ∀ b, b < 10 → a ≠ b → (TX1 a).2.1 ≠ (TX1 b).2.1 := by decide +kernel
theorem tyX1_ok : ∀ k, k < 10 → parseFieldDescriptor (TX1 k).2.2.1 = some (tyX1 k) := by decide +kernel
abbrev cX1_init : ByteArray := prog_3_method_1_code
def yX1_init : MethodName := ⟨RX1, "<init>", "()V"⟩
abbrev cX1_copyFrom : ByteArray := prog_3_method_2_code
def yX1_copyFrom : MethodName := ⟨RX1, "copyFrom", "(LBrakeCurve$Track;)V"⟩
abbrev cX1_leastLimit : ByteArray := prog_3_method_3_code
def yX1_leastLimit : MethodName := ⟨RX1, "leastLimit", "(II)I"⟩
abbrev cX1_hasStationAt : ByteArray := prog_3_method_4_code
def yX1_hasStationAt : MethodName := ⟨RX1, "hasStationAt", "(I)Z"⟩
abbrev cX1_addStation : ByteArray := prog_3_method_5_code
def yX1_addStation : MethodName := ⟨RX1, "addStation", "(II)I"⟩
abbrev cX1_stationsFrom : ByteArray := prog_3_method_6_code
def yX1_stationsFrom : MethodName := ⟨RX1, "stationsFrom", "(I)I"⟩
abbrev cX1_nextStation : ByteArray := prog_3_method_7_code
def yX1_nextStation : MethodName := ⟨RX1, "nextStation", "(I)I"⟩
abbrev cX1_addWorks : ByteArray := prog_3_method_8_code
def yX1_addWorks : MethodName := ⟨RX1, "addWorks", "(II)I"⟩
abbrev cX1_removeWorks : ByteArray := prog_3_method_9_code
def yX1_removeWorks : MethodName := ⟨RX1, "removeWorks", "(I)I"⟩
abbrev cX1_hasWorksOn : ByteArray := prog_3_method_10_code
def yX1_hasWorksOn : MethodName := ⟨RX1, "hasWorksOn", "(I)Z"⟩
abbrev cX1_boundByWorks : ByteArray := prog_3_method_11_code
def yX1_boundByWorks : MethodName := ⟨RX1, "boundByWorks", "(I)I"⟩
def RX2 : String := "BrakeCurve$Train"
def TX2 : u_T := fun k => match k with
  | 0 => ("BrakeCurve$Train", "length", "I", false)
  | 1 => ("BrakeCurve$Train", "brake", "I", false)
  | 2 => ("BrakeCurve$Train", "pull", "I", false)
  | 3 => ("BrakeCurve$Train", "whole", "Z", false)
  | 4 => ("BrakeCurve$Train", "head", "I", false)
  | 5 => ("BrakeCurve$Train", "speed", "I", false)
  | 6 => ("BrakeCurve$Train", "authority", "I", false)
  | 7 => ("BrakeCurve$Train", "dwellLeft", "I", false)
  | 8 => ("BrakeCurve$Train", "stationsToCome", "I", false)
  | 9 => ("BrakeCurve$Train", "left", "Z", false)
  | 10 => ("BrakeCurve$Train", "crashed", "Z", false)
  | 11 => ("BrakeCurve$Train", "knownHead", "I", false)
  | 12 => ("BrakeCurve$Train", "knownRear", "I", false)
  | 13 => ("BrakeCurve$Train", "reportSecond", "I", false)
  | 14 => ("BrakeCurve$Train", "brakedSeconds", "I", false)
  | 15 => ("BrakeCurve$Train", "overrunSeconds", "I", false)
  | 16 => ("BrakeCurve$Train", "missedStations", "I", false)
  | _ => ("BrakeCurve$Train", "leastGap", "I", false)
def tyX2 : Nat → FieldType := fun k => match k with
  | 0 => .int
  | 1 => .int
  | 2 => .int
  | 3 => .boolean
  | 4 => .int
  | 5 => .int
  | 6 => .int
  | 7 => .int
  | 8 => .int
  | 9 => .boolean
  | 10 => .boolean
  | 11 => .int
  | 12 => .int
  | 13 => .int
  | 14 => .int
  | 15 => .int
  | 16 => .int
  | _ => .int
abbrev wsX20 : List Cond := u_ws RX2 TX2 18
theorem nmX2 : ∀ a, a < 18 → ∀ b, b < 18 → a ≠ b → (TX2 a).2.1 ≠ (TX2 b).2.1 := by decide +kernel
theorem tyX2_ok : ∀ k, k < 18 → parseFieldDescriptor (TX2 k).2.2.1 = some (tyX2 k) := by decide +kernel
abbrev cX2_init : ByteArray := prog_4_method_1_code
def yX2_init : MethodName := ⟨RX2, "<init>", "()V"⟩
abbrev cX2_copyFrom : ByteArray := prog_4_method_2_code
def yX2_copyFrom : MethodName := ⟨RX2, "copyFrom", "(LBrakeCurve$Train;)V"⟩
abbrev cX2_rear : ByteArray := prog_4_method_3_code
def yX2_rear : MethodName := ⟨RX2, "rear", "()I"⟩
abbrev cX2_metresGone : ByteArray := prog_4_method_4_code
def yX2_metresGone : MethodName := ⟨RX2, "metresGone", "()I"⟩
abbrev cX2_isOn : ByteArray := prog_4_method_5_code
def yX2_isOn : MethodName := ⟨RX2, "isOn", "(II)Z"⟩
abbrev cX2_report : ByteArray := prog_4_method_6_code
def yX2_report : MethodName := ⟨RX2, "report", "(I)V"⟩
abbrev cX2_crash : ByteArray := prog_4_method_7_code
def yX2_crash : MethodName := ⟨RX2, "crash", "()V"⟩
abbrev cX2_leastGapOrNone : ByteArray := prog_4_method_8_code
def yX2_leastGapOrNone : MethodName := ⟨RX2, "leastGapOrNone", "()I"⟩
abbrev cX2_numberNow : ByteArray := prog_4_method_9_code
def yX2_numberNow : MethodName := ⟨RX2, "numberNow", "(I)I"⟩
abbrev cX2_numberKept : ByteArray := prog_4_method_10_code
def yX2_numberKept : MethodName := ⟨RX2, "numberKept", "(I)I"⟩
def RX3 : String := "BrakeCurve"
def TX3 : u_T := fun k => match k with
  | 0 => ("BrakeCurve", "line", "LBrakeCurve$Line;", true)
  | _ => ("BrakeCurve", "trial", "LBrakeCurve$Line;", true)
def tyX3 : Nat → FieldType := fun k => match k with
  | 0 => .object "BrakeCurve$Line"
  | _ => .object "BrakeCurve$Line"
abbrev wsX30 : List Cond := u_ws RX3 TX3 2
theorem nmX3 : ∀ a, a < 2 → ∀ b, b < 2 → a ≠ b → (TX3 a).2.1 ≠ (TX3 b).2.1 := by decide +kernel
theorem tyX3_ok : ∀ k, k < 2 → parseFieldDescriptor (TX3 k).2.2.1 = some (tyX3 k) := by decide +kernel
abbrev cX3_init : ByteArray := prog_1_method_1_code
def yX3_init : MethodName := ⟨RX3, "<init>", "()V"⟩
abbrev cX3_section : ByteArray := prog_1_method_2_code
def yX3_section : MethodName := ⟨RX3, "section", "(IIIZ)I"⟩
abbrev cX3_station : ByteArray := prog_1_method_3_code
def yX3_station : MethodName := ⟨RX3, "station", "(II)I"⟩
abbrev cX3_train : ByteArray := prog_1_method_4_code
def yX3_train : MethodName := ⟨RX3, "train", "(IIIZ)I"⟩
abbrev cX3_whole : ByteArray := prog_1_method_5_code
def yX3_whole : MethodName := ⟨RX3, "whole", "(IZ)Z"⟩
abbrev cX3_works : ByteArray := prog_1_method_6_code
def yX3_works : MethodName := ⟨RX3, "works", "(II)I"⟩
abbrev cX3_end : ByteArray := prog_1_method_7_code
def yX3_end : MethodName := ⟨RX3, "end", "(I)I"⟩
abbrev cX3_pass : ByteArray := prog_1_method_8_code
def yX3_pass : MethodName := ⟨RX3, "pass", "(I)I"⟩
abbrev cX3_ofSection : ByteArray := prog_1_method_9_code
def yX3_ofSection : MethodName := ⟨RX3, "ofSection", "(II)I"⟩
abbrev cX3_ofTrain : ByteArray := prog_1_method_10_code
def yX3_ofTrain : MethodName := ⟨RX3, "ofTrain", "(II)I"⟩
abbrev cX3_stops : ByteArray := prog_1_method_11_code
def yX3_stops : MethodName := ⟨RX3, "stops", "(II)I"⟩
abbrev cX3_may : ByteArray := prog_1_method_12_code
def yX3_may : MethodName := ⟨RX3, "may", "(I)I"⟩
abbrev cX3_why : ByteArray := prog_1_method_13_code
def yX3_why : MethodName := ⟨RX3, "why", "(I)I"⟩
abbrev cX3_ofStation : ByteArray := prog_1_method_14_code
def yX3_ofStation : MethodName := ⟨RX3, "ofStation", "(II)I"⟩
abbrev cX3_many : ByteArray := prog_1_method_15_code
def yX3_many : MethodName := ⟨RX3, "many", "(I)I"⟩
abbrev cX3_meanSpeed : ByteArray := prog_1_method_16_code
def yX3_meanSpeed : MethodName := ⟨RX3, "meanSpeed", "()D"⟩
abbrev cX3_reaches : ByteArray := prog_1_method_17_code
def yX3_reaches : MethodName := ⟨RX3, "reaches", "(III)I"⟩
abbrev cX3_closest : ByteArray := prog_1_method_18_code
def yX3_closest : MethodName := ⟨RX3, "closest", "(II)I"⟩
abbrev cX3_lost : ByteArray := prog_1_method_19_code
def yX3_lost : MethodName := ⟨RX3, "lost", "(IIII)I"⟩
abbrev cX3_worksIn : ByteArray := prog_1_method_20_code
def yX3_worksIn : MethodName := ⟨RX3, "worksIn", "(III)I"⟩
abbrev cX3_digest : ByteArray := prog_1_method_21_code
def yX3_digest : MethodName := ⟨RX3, "digest", "()J"⟩
abbrev cX3_headAfterTrial : ByteArray := prog_1_method_22_code
def yX3_headAfterTrial : MethodName := ⟨RX3, "headAfterTrial", "(II)I"⟩
abbrev cX3_needTrain : ByteArray := prog_1_method_23_code
def yX3_needTrain : MethodName := ⟨RX3, "needTrain", "(I)V"⟩
abbrev cX3_needSection : ByteArray := prog_1_method_24_code
def yX3_needSection : MethodName := ⟨RX3, "needSection", "(I)V"⟩
abbrev cX3_needIndex : ByteArray := prog_1_method_25_code
def yX3_needIndex : MethodName := ⟨RX3, "needIndex", "(II)V"⟩
abbrev cX3_need : ByteArray := prog_1_method_26_code
def yX3_need : MethodName := ⟨RX3, "need", "(Z)V"⟩
abbrev cX3_needState : ByteArray := prog_1_method_27_code
def yX3_needState : MethodName := ⟨RX3, "needState", "(Z)V"⟩
abbrev cX3_isWithin : ByteArray := prog_1_method_28_code
def yX3_isWithin : MethodName := ⟨RX3, "isWithin", "(III)Z"⟩
abbrev cX3_sectionAt : ByteArray := prog_1_method_29_code
def yX3_sectionAt : MethodName := ⟨RX3, "sectionAt", "(I)I"⟩
abbrev cX3_firstMetreOf : ByteArray := prog_1_method_30_code
def yX3_firstMetreOf : MethodName := ⟨RX3, "firstMetreOf", "(I)I"⟩
abbrev cX3_stopMetres : ByteArray := prog_1_method_31_code
def yX3_stopMetres : MethodName := ⟨RX3, "stopMetres", "(II)I"⟩
def RX4 : String := "BrakeCurveModel$Line"
def TX4 : u_T := fun k => match k with
  | 0 => ("BrakeCurveModel$Line", "sections", "[[I", true)
  | 1 => ("BrakeCurveModel$Line", "stations", "[[I", true)
  | 2 => ("BrakeCurveModel$Line", "manyStations", "I", false)
  | 3 => ("BrakeCurveModel$Line", "trains", "[[I", true)
  | 4 => ("BrakeCurveModel$Line", "manyTrains", "I", false)
  | 5 => ("BrakeCurveModel$Line", "works", "Ljava/util/ArrayList;", true)
  | _ => ("BrakeCurveModel$Line", "now", "I", false)
def tyX4 : Nat → FieldType := fun k => match k with
  | 0 => .array (.array .int)
  | 1 => .array (.array .int)
  | 2 => .int
  | 3 => .array (.array .int)
  | 4 => .int
  | 5 => .object "java/util/ArrayList"
  | _ => .int
abbrev wsX40 : List Cond := u_ws RX4 TX4 7
theorem nmX4 : ∀ a, a < 7 → ∀ b, b < 7 → a ≠ b → (TX4 a).2.1 ≠ (TX4 b).2.1 := by decide +kernel
theorem tyX4_ok : ∀ k, k < 7 → parseFieldDescriptor (TX4 k).2.2.1 = some (tyX4 k) := by decide +kernel
abbrev cX4_init : ByteArray := prog_7_method_1_code
def yX4_init : MethodName := ⟨RX4, "<init>", "()V"⟩
abbrev cX4_copy : ByteArray := prog_7_method_2_code
def yX4_copy : MethodName := ⟨RX4, "copy", "()LBrakeCurveModel$Line;"⟩
abbrev cX4_copy_ : ByteArray := prog_7_method_3_code
def yX4_copy_ : MethodName := ⟨RX4, "copy", "([[I[[I)V"⟩
abbrev cX4_runs : ByteArray := prog_7_method_4_code
def yX4_runs : MethodName := ⟨RX4, "runs", "(I)Z"⟩
abbrev cX4_ahead : ByteArray := prog_7_method_5_code
def yX4_ahead : MethodName := ⟨RX4, "ahead", "(I)I"⟩
abbrev cX4_next : ByteArray := prog_7_method_6_code
def yX4_next : MethodName := ⟨RX4, "next", "([I)I"⟩
abbrev cX4_hold : ByteArray := prog_7_method_7_code
def yX4_hold : MethodName := ⟨RX4, "hold", "([I)I"⟩
abbrev cX4_stops : ByteArray := prog_7_method_8_code
def yX4_stops : MethodName := ⟨RX4, "stops", "([II)I"⟩
abbrev cX4_may : ByteArray := prog_7_method_9_code
def yX4_may : MethodName := ⟨RX4, "may", "([I)I"⟩
abbrev cX4_candidate : ByteArray := prog_7_method_10_code
def yX4_candidate : MethodName := ⟨RX4, "candidate", "(II)I"⟩
abbrev cX4_why : ByteArray := prog_7_method_11_code
def yX4_why : MethodName := ⟨RX4, "why", "(I)I"⟩
abbrev cX4_pass : ByteArray := prog_7_method_12_code
def yX4_pass : MethodName := ⟨RX4, "pass", "()V"⟩
abbrev cX4_hears : ByteArray := prog_7_method_13_code
def yX4_hears : MethodName := ⟨RX4, "hears", "(I)Z"⟩
abbrev cX4_report : ByteArray := prog_7_method_14_code
def yX4_report : MethodName := ⟨RX4, "report", "([I)V"⟩
abbrev cX4_go : ByteArray := prog_7_method_15_code
def yX4_go : MethodName := ⟨RX4, "go", "([I)V"⟩
abbrev cX4_look : ByteArray := prog_7_method_16_code
def yX4_look : MethodName := ⟨RX4, "look", "(I)V"⟩
abbrev cX4_pass_ : ByteArray := prog_7_method_17_code
def yX4_pass_ : MethodName := ⟨RX4, "pass", "(I)V"⟩
abbrev cX4_isIn : ByteArray := prog_7_method_18_code
def yX4_isIn : MethodName := ⟨RX4, "isIn", "(III)Z"⟩
abbrev cX4_hinders : ByteArray := prog_7_method_19_code
def yX4_hinders : MethodName := ⟨RX4, "hinders", "(II)I"⟩
abbrev cX4_sum : ByteArray := prog_7_method_20_code
def yX4_sum : MethodName := ⟨RX4, "sum", "(I)I"⟩
def RX5 : String := "BrakeCurveModel"
def TX5 : u_T := fun k => match k with
  | 0 => ("BrakeCurveModel", "thrown", "I", false)
  | 1 => ("BrakeCurveModel", "line", "LBrakeCurveModel$Line;", true)
  | _ => ("BrakeCurveModel", "sum", "J", false)
def tyX5 : Nat → FieldType := fun k => match k with
  | 0 => .int
  | 1 => .object "BrakeCurveModel$Line"
  | _ => .long
abbrev wsX50 : List Cond := u_ws RX5 TX5 3
theorem nmX5 : ∀ a, a < 3 → ∀ b, b < 3 → a ≠ b → (TX5 a).2.1 ≠ (TX5 b).2.1 := by decide +kernel
theorem tyX5_ok : ∀ k, k < 3 → parseFieldDescriptor (TX5 k).2.2.1 = some (tyX5 k) := by decide +kernel
abbrev cX5_init : ByteArray := prog_6_method_1_code
def yX5_init : MethodName := ⟨RX5, "<init>", "()V"⟩
abbrev cX5_thrown : ByteArray := prog_6_method_2_code
def yX5_thrown : MethodName := ⟨RX5, "thrown", "()I"⟩
abbrev cX5_refuse : ByteArray := prog_6_method_3_code
def yX5_refuse : MethodName := ⟨RX5, "refuse", "(I)I"⟩
abbrev cX5_is : ByteArray := prog_6_method_4_code
def yX5_is : MethodName := ⟨RX5, "is", "(III)Z"⟩
abbrev cX5_sectionOf : ByteArray := prog_6_method_5_code
def yX5_sectionOf : MethodName := ⟨RX5, "sectionOf", "(I)I"⟩
abbrev cX5_rear : ByteArray := prog_6_method_6_code
def yX5_rear : MethodName := ⟨RX5, "rear", "([I)I"⟩
abbrev cX5_isSection : ByteArray := prog_6_method_7_code
def yX5_isSection : MethodName := ⟨RX5, "isSection", "(I)Z"⟩
abbrev cX5_isTrain : ByteArray := prog_6_method_8_code
def yX5_isTrain : MethodName := ⟨RX5, "isTrain", "(I)Z"⟩
abbrev cX5_isStation : ByteArray := prog_6_method_9_code
def yX5_isStation : MethodName := ⟨RX5, "isStation", "(I)Z"⟩
abbrev cX5_isLimit : ByteArray := prog_6_method_10_code
def yX5_isLimit : MethodName := ⟨RX5, "isLimit", "(I)Z"⟩
abbrev cX5_section : ByteArray := prog_6_method_11_code
def yX5_section : MethodName := ⟨RX5, "section", "(IIIZ)I"⟩
abbrev cX5_isRunning : ByteArray := prog_6_method_12_code
def yX5_isRunning : MethodName := ⟨RX5, "isRunning", "()Z"⟩
abbrev cX5_station : ByteArray := prog_6_method_13_code
def yX5_station : MethodName := ⟨RX5, "station", "(II)I"⟩
abbrev cX5_train : ByteArray := prog_6_method_14_code
def yX5_train : MethodName := ⟨RX5, "train", "(IIIZ)I"⟩
abbrev cX5_whole : ByteArray := prog_6_method_15_code
def yX5_whole : MethodName := ⟨RX5, "whole", "(IZ)Z"⟩
abbrev cX5_works : ByteArray := prog_6_method_16_code
def yX5_works : MethodName := ⟨RX5, "works", "(II)I"⟩
abbrev cX5_end : ByteArray := prog_6_method_17_code
def yX5_end : MethodName := ⟨RX5, "end", "(I)I"⟩
abbrev cX5_pass : ByteArray := prog_6_method_18_code
def yX5_pass : MethodName := ⟨RX5, "pass", "(I)I"⟩
abbrev cX5_ofSectionNow : ByteArray := prog_6_method_19_code
def yX5_ofSectionNow : MethodName := ⟨RX5, "ofSectionNow", "(II)I"⟩
abbrev cX5_ofSection : ByteArray := prog_6_method_20_code
def yX5_ofSection : MethodName := ⟨RX5, "ofSection", "(II)I"⟩
abbrev cX5_ofTrainNow : ByteArray := prog_6_method_21_code
def yX5_ofTrainNow : MethodName := ⟨RX5, "ofTrainNow", "(II)I"⟩
abbrev cX5_ofTrain : ByteArray := prog_6_method_22_code
def yX5_ofTrain : MethodName := ⟨RX5, "ofTrain", "(II)I"⟩
abbrev cX5_stops : ByteArray := prog_6_method_23_code
def yX5_stops : MethodName := ⟨RX5, "stops", "(II)I"⟩
abbrev cX5_mayNow : ByteArray := prog_6_method_24_code
def yX5_mayNow : MethodName := ⟨RX5, "mayNow", "(I)I"⟩
abbrev cX5_may : ByteArray := prog_6_method_25_code
def yX5_may : MethodName := ⟨RX5, "may", "(I)I"⟩
abbrev cX5_whyNow : ByteArray := prog_6_method_26_code
def yX5_whyNow : MethodName := ⟨RX5, "whyNow", "(I)I"⟩
abbrev cX5_why : ByteArray := prog_6_method_27_code
def yX5_why : MethodName := ⟨RX5, "why", "(I)I"⟩
abbrev cX5_ofStation : ByteArray := prog_6_method_28_code
def yX5_ofStation : MethodName := ⟨RX5, "ofStation", "(II)I"⟩
abbrev cX5_manyNow : ByteArray := prog_6_method_29_code
def yX5_manyNow : MethodName := ⟨RX5, "manyNow", "(I)I"⟩
abbrev cX5_many : ByteArray := prog_6_method_30_code
def yX5_many : MethodName := ⟨RX5, "many", "(I)I"⟩
abbrev cX5_meanSpeed : ByteArray := prog_6_method_31_code
def yX5_meanSpeed : MethodName := ⟨RX5, "meanSpeed", "()D"⟩
abbrev cX5_reachesNow : ByteArray := prog_6_method_32_code
def yX5_reachesNow : MethodName := ⟨RX5, "reachesNow", "(III)I"⟩
abbrev cX5_reaches : ByteArray := prog_6_method_33_code
def yX5_reaches : MethodName := ⟨RX5, "reaches", "(III)I"⟩
abbrev cX5_closestNow : ByteArray := prog_6_method_34_code
def yX5_closestNow : MethodName := ⟨RX5, "closestNow", "(II)I"⟩
abbrev cX5_closest : ByteArray := prog_6_method_35_code
def yX5_closest : MethodName := ⟨RX5, "closest", "(II)I"⟩
abbrev cX5_lost : ByteArray := prog_6_method_36_code
def yX5_lost : MethodName := ⟨RX5, "lost", "(IIII)I"⟩
abbrev cX5_worksNow : ByteArray := prog_6_method_37_code
def yX5_worksNow : MethodName := ⟨RX5, "worksNow", "(III)I"⟩
abbrev cX5_worksIn : ByteArray := prog_6_method_38_code
def yX5_worksIn : MethodName := ⟨RX5, "worksIn", "(III)I"⟩
abbrev cX5_add : ByteArray := prog_6_method_39_code
def yX5_add : MethodName := ⟨RX5, "add", "(I)V"⟩
abbrev cX5_digest : ByteArray := prog_6_method_40_code
def yX5_digest : MethodName := ⟨RX5, "digest", "()J"⟩
def RJx145de : String := "java/io/Serializable"
def TJx145de : u_T := fun k => match k with
  | _ => ("", "", "", false)
def tyJx145de : Nat → FieldType := fun k => match k with
  | _ => .int
abbrev wsJx145de0 : List Cond := u_ws RJx145de TJx145de 0
theorem nmJx145de : ∀ a, a < 0 → ∀ b, b < 0 → a ≠ b → (TJx145de a).2.1 ≠ (TJx145de b).2.1 := by decide +kernel
theorem tyJx145de_ok : ∀ k, k < 0 → parseFieldDescriptor (TJx145de k).2.2.1 = some (tyJx145de k) := by decide +kernel
def RJx8e188 : String := "java/lang/Cloneable"
def TJx8e188 : u_T := fun k => match k with
  | _ => ("", "", "", false)
def tyJx8e188 : Nat → FieldType := fun k => match k with
  | _ => .int
abbrev wsJx8e1880 : List Cond := u_ws RJx8e188 TJx8e188 0
theorem nmJx8e188 : ∀ a, a < 0 → ∀ b, b < 0 → a ≠ b → (TJx8e188 a).2.1 ≠ (TJx8e188 b).2.1 := by decide +kernel
theorem tyJx8e188_ok : ∀ k, k < 0 → parseFieldDescriptor (TJx8e188 k).2.2.1 = some (tyJx8e188 k) := by decide +kernel
def RJ6 : String := "java/lang/Integer"
def TJ6 : u_T := fun k => match k with
  | _ => ("", "", "", false)
def tyJ6 : Nat → FieldType := fun k => match k with
  | _ => .int
abbrev wsJ60 : List Cond := u_ws RJ6 TJ6 0
theorem nmJ6 : ∀ a, a < 0 → ∀ b, b < 0 → a ≠ b → (TJ6 a).2.1 ≠ (TJ6 b).2.1 := by decide +kernel
theorem tyJ6_ok : ∀ k, k < 0 → parseFieldDescriptor (TJ6 k).2.2.1 = some (tyJ6 k) := by decide +kernel
abbrev cJ6_bitCount_0f7a4 : ByteArray := prog_14_method_49_code
def yJ6_bitCount_0f7a4 : MethodName := ⟨RJ6, "bitCount", "(I)I"⟩
def RJxab1ab : String := "java/lang/Iterable"
def TJxab1ab : u_T := fun k => match k with
  | _ => ("", "", "", false)
def tyJxab1ab : Nat → FieldType := fun k => match k with
  | _ => .int
abbrev wsJxab1ab0 : List Cond := u_ws RJxab1ab TJxab1ab 0
theorem nmJxab1ab : ∀ a, a < 0 → ∀ b, b < 0 → a ≠ b → (TJxab1ab a).2.1 ≠ (TJxab1ab b).2.1 := by decide +kernel
theorem tyJxab1ab_ok : ∀ k, k < 0 → parseFieldDescriptor (TJxab1ab k).2.2.1 = some (tyJxab1ab k) := by decide +kernel
def RJ9 : String := "java/lang/Math"
def TJ9 : u_T := fun k => match k with
  | _ => ("", "", "", false)
def tyJ9 : Nat → FieldType := fun k => match k with
  | _ => .int
abbrev wsJ90 : List Cond := u_ws RJ9 TJ9 0
theorem nmJ9 : ∀ a, a < 0 → ∀ b, b < 0 → a ≠ b → (TJ9 a).2.1 ≠ (TJ9 b).2.1 := by decide +kernel
theorem tyJ9_ok : ∀ k, k < 0 → parseFieldDescriptor (TJ9 k).2.2.1 = some (tyJ9 k) := by decide +kernel
abbrev cJ9_max_7cf53 : ByteArray := prog_16_method_65_code
def yJ9_max_7cf53 : MethodName := ⟨RJ9, "max", "(II)I"⟩
abbrev cJ9_min_7cf53 : ByteArray := prog_16_method_69_code
def yJ9_min_7cf53 : MethodName := ⟨RJ9, "min", "(II)I"⟩
def RJ0 : String := "java/lang/String"
def TJ0 : u_T := fun k => match k with
  | _ => ("", "", "", false)
def tyJ0 : Nat → FieldType := fun k => match k with
  | _ => .int
abbrev wsJ00 : List Cond := u_ws RJ0 TJ0 0
theorem nmJ0 : ∀ a, a < 0 → ∀ b, b < 0 → a ≠ b → (TJ0 a).2.1 ≠ (TJ0 b).2.1 := by decide +kernel
theorem tyJ0_ok : ∀ k, k < 0 → parseFieldDescriptor (TJ0 k).2.2.1 = some (tyJ0 k) := by decide +kernel
def RJ10 : String := "java/lang/System"
def TJ10 : u_T := fun k => match k with
  | _ => ("", "", "", false)
def tyJ10 : Nat → FieldType := fun k => match k with
  | _ => .int
abbrev wsJ100 : List Cond := u_ws RJ10 TJ10 0
theorem nmJ10 : ∀ a, a < 0 → ∀ b, b < 0 → a ≠ b → (TJ10 a).2.1 ≠ (TJ10 b).2.1 := by decide +kernel
theorem tyJ10_ok : ∀ k, k < 0 → parseFieldDescriptor (TJ10 k).2.2.1 = some (tyJ10 k) := by decide +kernel
def RJxa1e45 : String := "java/util/AbstractCollection"
def TJxa1e45 : u_T := fun k => match k with
  | _ => ("", "", "", false)
def tyJxa1e45 : Nat → FieldType := fun k => match k with
  | _ => .int
abbrev wsJxa1e450 : List Cond := u_ws RJxa1e45 TJxa1e45 0
theorem nmJxa1e45 : ∀ a, a < 0 → ∀ b, b < 0 → a ≠ b → (TJxa1e45 a).2.1 ≠ (TJxa1e45 b).2.1 := by decide +kernel
theorem tyJxa1e45_ok : ∀ k, k < 0 → parseFieldDescriptor (TJxa1e45 k).2.2.1 = some (tyJxa1e45 k) := by decide +kernel
abbrev cJxa1e45_init_da8c8 : ByteArray := prog_21_method_1_code
def yJxa1e45_init_da8c8 : MethodName := ⟨RJxa1e45, "<init>", "()V"⟩
def RJxc12de : String := "java/util/AbstractList"
def TJxc12de : u_T := fun k => match k with
  | _ => ("", "", "", false)
def tyJxc12de : Nat → FieldType := fun k => match k with
  | _ => .int
abbrev wsJxc12de0 : List Cond := u_ws RJxc12de TJxc12de 0
theorem nmJxc12de : ∀ a, a < 0 → ∀ b, b < 0 → a ≠ b → (TJxc12de a).2.1 ≠ (TJxc12de b).2.1 := by decide +kernel
theorem tyJxc12de_ok : ∀ k, k < 0 → parseFieldDescriptor (TJxc12de k).2.2.1 = some (tyJxc12de k) := by decide +kernel
abbrev cJxc12de_init_da8c8 : ByteArray := prog_22_method_1_code
def yJxc12de_init_da8c8 : MethodName := ⟨RJxc12de, "<init>", "()V"⟩
def RJx35411 : String := "java/util/ArrayList$Itr"
def TJx35411 : u_T := fun k => match k with
  | 0 => ("java/util/ArrayList$Itr", "cursor", "I", false)
  | 1 => ("java/util/ArrayList$Itr", "lastRet", "I", false)
  | 2 => ("java/util/ArrayList$Itr", "expectedModCount", "I", false)
  | _ => ("java/util/ArrayList$Itr", "this$0", "Ljava/util/ArrayList;", true)
def tyJx35411 : Nat → FieldType := fun k => match k with
  | 0 => .int
  | 1 => .int
  | 2 => .int
  | _ => .object "java/util/ArrayList"
abbrev wsJx354110 : List Cond := u_ws RJx35411 TJx35411 4
theorem nmJx35411 : ∀ a, a < 4 → ∀ b, b < 4 → a ≠ b → (TJx35411 a).2.1 ≠ (TJx35411 b).2.1 := by decide +kernel
theorem tyJx35411_ok : ∀ k, k < 4 → parseFieldDescriptor (TJx35411 k).2.2.1 = some (tyJx35411 k) := by decide +kernel
abbrev cJx35411_init_45d68 : ByteArray := prog_24_method_1_code
def yJx35411_init_45d68 : MethodName := ⟨RJx35411, "<init>", "(Ljava/util/ArrayList;)V"⟩
abbrev cJx35411_hasNext_aae02 : ByteArray := prog_24_method_2_code
def yJx35411_hasNext_aae02 : MethodName := ⟨RJx35411, "hasNext", "()Z"⟩
abbrev cJx35411_next_0502b : ByteArray := prog_24_method_3_code
def yJx35411_next_0502b : MethodName := ⟨RJx35411, "next", "()Ljava/lang/Object;"⟩
abbrev cJx35411_checkForComodification_da8c8 : ByteArray := prog_24_method_6_code
def yJx35411_checkForComodification_da8c8 : MethodName := ⟨RJx35411, "checkForComodification", "()V"⟩
def RJx4a65c : String := "java/util/ArrayList"
def TJx4a65c : u_T := fun k => match k with
  | 0 => ("java/util/AbstractList", "modCount", "I", false)
  | 1 => ("java/util/ArrayList", "elementData", "[Ljava/lang/Object;", false)
  | _ => ("java/util/ArrayList", "size", "I", false)
def tyJx4a65c : Nat → FieldType := fun k => match k with
  | 0 => .int
  | 1 => .array (.object "java/lang/Object")
  | _ => .int
abbrev wsJx4a65c0 : List Cond := u_ws RJx4a65c TJx4a65c 3
theorem nmJx4a65c : ∀ a, a < 3 → ∀ b, b < 3 → a ≠ b → (TJx4a65c a).2.1 ≠ (TJx4a65c b).2.1 := by decide +kernel
theorem tyJx4a65c_ok : ∀ k, k < 3 → parseFieldDescriptor (TJx4a65c k).2.2.1 = some (tyJx4a65c k) := by decide +kernel
abbrev cJx4a65c_init_da8c8 : ByteArray := prog_23_method_2_code
def yJx4a65c_init_da8c8 : MethodName := ⟨RJx4a65c, "<init>", "()V"⟩
abbrev cJx4a65c_grow_92f84 : ByteArray := prog_23_method_6_code
def yJx4a65c_grow_92f84 : MethodName := ⟨RJx4a65c, "grow", "(I)[Ljava/lang/Object;"⟩
abbrev cJx4a65c_grow_d5877 : ByteArray := prog_23_method_7_code
def yJx4a65c_grow_d5877 : MethodName := ⟨RJx4a65c, "grow", "()[Ljava/lang/Object;"⟩
abbrev cJx4a65c_size_8abf5 : ByteArray := prog_23_method_8_code
def yJx4a65c_size_8abf5 : MethodName := ⟨RJx4a65c, "size", "()I"⟩
abbrev cJx4a65c_toArray_d5877 : ByteArray := prog_23_method_16_code
def yJx4a65c_toArray_d5877 : MethodName := ⟨RJx4a65c, "toArray", "()[Ljava/lang/Object;"⟩
abbrev cJx4a65c_add_72be8 : ByteArray := prog_23_method_24_code
def yJx4a65c_add_72be8 : MethodName := ⟨RJx4a65c, "add", "(Ljava/lang/Object;[Ljava/lang/Object;I)V"⟩
abbrev cJx4a65c_add_9ea2d : ByteArray := prog_23_method_25_code
def yJx4a65c_add_9ea2d : MethodName := ⟨RJx4a65c, "add", "(Ljava/lang/Object;)Z"⟩
abbrev cJx4a65c_remove_915e3 : ByteArray := prog_23_method_29_code
def yJx4a65c_remove_915e3 : MethodName := ⟨RJx4a65c, "remove", "(I)Ljava/lang/Object;"⟩
abbrev cJx4a65c_fastRemove_b59b0 : ByteArray := prog_23_method_39_code
def yJx4a65c_fastRemove_b59b0 : MethodName := ⟨RJx4a65c, "fastRemove", "([Ljava/lang/Object;I)V"⟩
abbrev cJx4a65c_addAll_f0b43 : ByteArray := prog_23_method_41_code
def yJx4a65c_addAll_f0b43 : MethodName := ⟨RJx4a65c, "addAll", "(Ljava/util/Collection;)Z"⟩
abbrev cJx4a65c_iterator_32c93 : ByteArray := prog_23_method_55_code
def yJx4a65c_iterator_32c93 : MethodName := ⟨RJx4a65c, "iterator", "()Ljava/util/Iterator;"⟩
def RJ7 : String := "java/util/Arrays"
def TJ7 : u_T := fun k => match k with
  | _ => ("", "", "", false)
def tyJ7 : Nat → FieldType := fun k => match k with
  | _ => .int
abbrev wsJ70 : List Cond := u_ws RJ7 TJ7 0
theorem nmJ7 : ∀ a, a < 0 → ∀ b, b < 0 → a ≠ b → (TJ7 a).2.1 ≠ (TJ7 b).2.1 := by decide +kernel
theorem tyJ7_ok : ∀ k, k < 0 → parseFieldDescriptor (TJ7 k).2.2.1 = some (tyJ7 k) := by decide +kernel
abbrev cJ7_copyOf_1904c : ByteArray := prog_25_method_119_code
def yJ7_copyOf_1904c : MethodName := ⟨RJ7, "copyOf", "([Ljava/lang/Object;I)[Ljava/lang/Object;"⟩
abbrev cJ7_copyOf_6403c : ByteArray := prog_25_method_120_code
def yJ7_copyOf_6403c : MethodName := ⟨RJ7, "copyOf", "([Ljava/lang/Object;ILjava/lang/Class;)[Ljava/lang/Object;"⟩
def RJx5ef63 : String := "java/util/Collection"
def TJx5ef63 : u_T := fun k => match k with
  | _ => ("", "", "", false)
def tyJx5ef63 : Nat → FieldType := fun k => match k with
  | _ => .int
abbrev wsJx5ef630 : List Cond := u_ws RJx5ef63 TJx5ef63 0
theorem nmJx5ef63 : ∀ a, a < 0 → ∀ b, b < 0 → a ≠ b → (TJx5ef63 a).2.1 ≠ (TJx5ef63 b).2.1 := by decide +kernel
theorem tyJx5ef63_ok : ∀ k, k < 0 → parseFieldDescriptor (TJx5ef63 k).2.2.1 = some (tyJx5ef63 k) := by decide +kernel
def RJx4d0d8 : String := "java/util/Iterator"
def TJx4d0d8 : u_T := fun k => match k with
  | _ => ("", "", "", false)
def tyJx4d0d8 : Nat → FieldType := fun k => match k with
  | _ => .int
abbrev wsJx4d0d80 : List Cond := u_ws RJx4d0d8 TJx4d0d8 0
theorem nmJx4d0d8 : ∀ a, a < 0 → ∀ b, b < 0 → a ≠ b → (TJx4d0d8 a).2.1 ≠ (TJx4d0d8 b).2.1 := by decide +kernel
theorem tyJx4d0d8_ok : ∀ k, k < 0 → parseFieldDescriptor (TJx4d0d8 k).2.2.1 = some (tyJx4d0d8 k) := by decide +kernel
def RJxbd725 : String := "java/util/List"
def TJxbd725 : u_T := fun k => match k with
  | _ => ("", "", "", false)
def tyJxbd725 : Nat → FieldType := fun k => match k with
  | _ => .int
abbrev wsJxbd7250 : List Cond := u_ws RJxbd725 TJxbd725 0
theorem nmJxbd725 : ∀ a, a < 0 → ∀ b, b < 0 → a ≠ b → (TJxbd725 a).2.1 ≠ (TJxbd725 b).2.1 := by decide +kernel
theorem tyJxbd725_ok : ∀ k, k < 0 → parseFieldDescriptor (TJxbd725 k).2.2.1 = some (tyJxbd725 k) := by decide +kernel
def RJ15 : String := "java/util/Objects"
def TJ15 : u_T := fun k => match k with
  | _ => ("", "", "", false)
def tyJ15 : Nat → FieldType := fun k => match k with
  | _ => .int
abbrev wsJ150 : List Cond := u_ws RJ15 TJ15 0
theorem nmJ15 : ∀ a, a < 0 → ∀ b, b < 0 → a ≠ b → (TJ15 a).2.1 ≠ (TJ15 b).2.1 := by decide +kernel
theorem tyJ15_ok : ∀ k, k < 0 → parseFieldDescriptor (TJ15 k).2.2.1 = some (tyJ15 k) := by decide +kernel
abbrev cJ15_checkIndex_7cf53 : ByteArray := prog_29_method_17_code
def yJ15_checkIndex_7cf53 : MethodName := ⟨RJ15, "checkIndex", "(II)I"⟩
def RJxf0a74 : String := "java/util/RandomAccess"
def TJxf0a74 : u_T := fun k => match k with
  | _ => ("", "", "", false)
def tyJxf0a74 : Nat → FieldType := fun k => match k with
  | _ => .int
abbrev wsJxf0a740 : List Cond := u_ws RJxf0a74 TJxf0a74 0
theorem nmJxf0a74 : ∀ a, a < 0 → ∀ b, b < 0 → a ≠ b → (TJxf0a74 a).2.1 ≠ (TJxf0a74 b).2.1 := by decide +kernel
theorem tyJxf0a74_ok : ∀ k, k < 0 → parseFieldDescriptor (TJxf0a74 k).2.2.1 = some (tyJxf0a74 k) := by decide +kernel
def RJxa66e6 : String := "java/util/SequencedCollection"
def TJxa66e6 : u_T := fun k => match k with
  | _ => ("", "", "", false)
def tyJxa66e6 : Nat → FieldType := fun k => match k with
  | _ => .int
abbrev wsJxa66e60 : List Cond := u_ws RJxa66e6 TJxa66e6 0
theorem nmJxa66e6 : ∀ a, a < 0 → ∀ b, b < 0 → a ≠ b → (TJxa66e6 a).2.1 ≠ (TJxa66e6 b).2.1 := by decide +kernel
theorem tyJxa66e6_ok : ∀ k, k < 0 → parseFieldDescriptor (TJxa66e6 k).2.2.1 = some (tyJxa66e6 k) := by decide +kernel
def RJ8 : String := "jdk/internal/util/ArraysSupport"
def TJ8 : u_T := fun k => match k with
  | _ => ("", "", "", false)
def tyJ8 : Nat → FieldType := fun k => match k with
  | _ => .int
abbrev wsJ80 : List Cond := u_ws RJ8 TJ8 0
theorem nmJ8 : ∀ a, a < 0 → ∀ b, b < 0 → a ≠ b → (TJ8 a).2.1 ≠ (TJ8 b).2.1 := by decide +kernel
theorem tyJ8_ok : ∀ k, k < 0 → parseFieldDescriptor (TJ8 k).2.2.1 = some (tyJ8 k) := by decide +kernel
abbrev cJ8_newLength_cabcc : ByteArray := prog_32_method_27_code
def yJ8_newLength_cabcc : MethodName := ⟨RJ8, "newLength", "(III)I"⟩
abbrev cJ8_hugeLength_7cf53 : ByteArray := prog_32_method_28_code
def yJ8_hugeLength_7cf53 : MethodName := ⟨RJ8, "hugeLength", "(II)I"⟩
def RJ3 : String := "jdk/internal/util/Preconditions"
def TJ3 : u_T := fun k => match k with
  | _ => ("", "", "", false)
def tyJ3 : Nat → FieldType := fun k => match k with
  | _ => .int
abbrev wsJ30 : List Cond := u_ws RJ3 TJ3 0
theorem nmJ3 : ∀ a, a < 0 → ∀ b, b < 0 → a ≠ b → (TJ3 a).2.1 ≠ (TJ3 b).2.1 := by decide +kernel
theorem tyJ3_ok : ∀ k, k < 0 → parseFieldDescriptor (TJ3 k).2.2.1 = some (tyJ3 k) := by decide +kernel
abbrev cJ3_checkIndex_8e157 : ByteArray := prog_33_method_11_code
def yJ3_checkIndex_8e157 : MethodName := ⟨RJ3, "checkIndex", "(IILjava/util/function/BiFunction;)I"⟩
def RL : String := "BrakeCurveLaw"
abbrev cL_section : ByteArray := method_3_code
def yL_section : MethodName := ⟨RL, "section", "(LBrakeCurve;IIIZ[J)I"⟩
abbrev cL_station : ByteArray := method_4_code
def yL_station : MethodName := ⟨RL, "station", "(LBrakeCurve;II[J)I"⟩
abbrev cL_train : ByteArray := method_5_code
def yL_train : MethodName := ⟨RL, "train", "(LBrakeCurve;IIIZ[J)I"⟩
abbrev cL_whole : ByteArray := method_6_code
def yL_whole : MethodName := ⟨RL, "whole", "(LBrakeCurve;IZ[J)I"⟩
abbrev cL_works : ByteArray := method_7_code
def yL_works : MethodName := ⟨RL, "works", "(LBrakeCurve;II[J)I"⟩
abbrev cL_end : ByteArray := method_8_code
def yL_end : MethodName := ⟨RL, "end", "(LBrakeCurve;I[J)I"⟩
abbrev cL_pass : ByteArray := method_9_code
def yL_pass : MethodName := ⟨RL, "pass", "(LBrakeCurve;I[J)I"⟩
abbrev cL_ofSection : ByteArray := method_10_code
def yL_ofSection : MethodName := ⟨RL, "ofSection", "(LBrakeCurve;II[J)I"⟩
abbrev cL_ofTrain : ByteArray := method_11_code
def yL_ofTrain : MethodName := ⟨RL, "ofTrain", "(LBrakeCurve;II[J)I"⟩
abbrev cL_stops : ByteArray := method_12_code
def yL_stops : MethodName := ⟨RL, "stops", "(LBrakeCurve;II[J)I"⟩
abbrev cL_may : ByteArray := method_13_code
def yL_may : MethodName := ⟨RL, "may", "(LBrakeCurve;I[J)I"⟩
abbrev cL_why : ByteArray := method_14_code
def yL_why : MethodName := ⟨RL, "why", "(LBrakeCurve;I[J)I"⟩
abbrev cL_ofStation : ByteArray := method_15_code
def yL_ofStation : MethodName := ⟨RL, "ofStation", "(LBrakeCurve;II[J)I"⟩
abbrev cL_many : ByteArray := method_16_code
def yL_many : MethodName := ⟨RL, "many", "(LBrakeCurve;I[J)I"⟩
abbrev cL_reaches : ByteArray := method_17_code
def yL_reaches : MethodName := ⟨RL, "reaches", "(LBrakeCurve;III[J)I"⟩
abbrev cL_closest : ByteArray := method_18_code
def yL_closest : MethodName := ⟨RL, "closest", "(LBrakeCurve;II[J)I"⟩
abbrev cL_lost : ByteArray := method_19_code
def yL_lost : MethodName := ⟨RL, "lost", "(LBrakeCurve;IIII[J)I"⟩
abbrev cL_worksIn : ByteArray := method_20_code
def yL_worksIn : MethodName := ⟨RL, "worksIn", "(LBrakeCurve;III[J)I"⟩
abbrev cL_law : ByteArray := code
def yL_law : MethodName := ⟨RL, "law", "([I)Z"⟩
def wsX1_init : List Cond := .code yX1_init cX1_init 2 none :: ([.methodLink RX1 3 objectInit, .instanceMethod objectInit, .code objectInit ⟨#[0xb1]⟩ 1 none, .arrayClass .int, .fieldLink RX1 9 "BrakeCurve$Track" "limits" "[I", .fieldLink RX1 15 "BrakeCurve$Track" "grades" "[I", .arrayClass .boolean, .fieldLink RX1 18 "BrakeCurve$Track" "radios" "[Z", .fieldLink RX1 22 "BrakeCurve$Track" "stationMetres" "[I", .fieldLink RX1 25 "BrakeCurve$Track" "dwells" "[I", .fieldLink RX1 28 "BrakeCurve$Track" "stopCounts" "[I", .fieldLink RX1 31 "BrakeCurve$Track" "stationCount" "I", .fieldLink RX1 35 "BrakeCurve$Track" "worksFirst" "[I", .fieldLink RX1 38 "BrakeCurve$Track" "worksLast" "[I", .fieldLink RX1 41 "BrakeCurve$Track" "worksCount" "I"] ++ wsX10)
def wsX2_init : List Cond := .code yX2_init cX2_init 1 none :: ([.methodLink RX2 3 objectInit, .instanceMethod objectInit, .code objectInit ⟨#[0xb1]⟩ 1 none, .fieldLink RX2 9 "BrakeCurve$Train" "length" "I", .fieldLink RX2 15 "BrakeCurve$Train" "brake" "I", .fieldLink RX2 18 "BrakeCurve$Train" "pull" "I", .fieldLink RX2 21 "BrakeCurve$Train" "whole" "Z", .fieldLink RX2 25 "BrakeCurve$Train" "head" "I", .fieldLink RX2 28 "BrakeCurve$Train" "speed" "I", .fieldLink RX2 31 "BrakeCurve$Train" "authority" "I", .fieldLink RX2 34 "BrakeCurve$Train" "dwellLeft" "I", .fieldLink RX2 37 "BrakeCurve$Train" "stationsToCome" "I", .fieldLink RX2 40 "BrakeCurve$Train" "left" "Z", .fieldLink RX2 43 "BrakeCurve$Train" "crashed" "Z", .fieldLink RX2 46 "BrakeCurve$Train" "knownHead" "I", .fieldLink RX2 49 "BrakeCurve$Train" "knownRear" "I", .fieldLink RX2 52 "BrakeCurve$Train" "reportSecond" "I", .fieldLink RX2 55 "BrakeCurve$Train" "brakedSeconds" "I", .fieldLink RX2 58 "BrakeCurve$Train" "overrunSeconds" "I", .fieldLink RX2 61 "BrakeCurve$Train" "missedStations" "I", .constant RX2 64 (1000000), .fieldLink RX2 65 "BrakeCurve$Train" "leastGap" "I"] ++ wsX20)
def wsX0_init_r1 : List Cond := [Cond.methodLink RX0 3 objectInit, Cond.instanceMethod objectInit, Cond.code objectInit ⟨#[0xb1]⟩ 1 none, Cond.classLink RX0 9 RX1, Cond.instantiable RX1 10, Cond.initialized RX1, Cond.fieldLink RX0 12 "BrakeCurve$Line" "track" "LBrakeCurve$Track;", Cond.classLink RX0 18 RX2, Cond.fieldLink RX0 20 "BrakeCurve$Line" "trains" "[LBrakeCurve$Train;", Cond.fieldLink RX0 24 "BrakeCurve$Line" "trainCount" "I", Cond.fieldLink RX0 28 "BrakeCurve$Line" "now" "I", Cond.instantiable RX2 18, Cond.initialized RX2, Cond.methodLink RX0 11 yX1_init, Cond.instanceMethod yX1_init, Cond.code yX1_init cX1_init 2 none, Cond.methodLink RX1 3 objectInit, Cond.arrayClass .int, Cond.fieldLink RX1 9 "BrakeCurve$Track" "limits" "[I", Cond.fieldLink RX1 15 "BrakeCurve$Track" "grades" "[I", Cond.arrayClass .boolean, Cond.fieldLink RX1 18 "BrakeCurve$Track" "radios" "[Z", Cond.fieldLink RX1 22 "BrakeCurve$Track" "stationMetres" "[I", Cond.fieldLink RX1 25 "BrakeCurve$Track" "dwells" "[I"]
def wsX0_init_r2 : List Cond := [Cond.fieldLink RX1 28 "BrakeCurve$Track" "stopCounts" "[I", Cond.fieldLink RX1 31 "BrakeCurve$Track" "stationCount" "I", Cond.fieldLink RX1 35 "BrakeCurve$Track" "worksFirst" "[I", Cond.fieldLink RX1 38 "BrakeCurve$Track" "worksLast" "[I", Cond.fieldLink RX1 41 "BrakeCurve$Track" "worksCount" "I", Cond.instanceMethod yX2_init, Cond.code yX2_init cX2_init 1 none, Cond.methodLink RX2 3 objectInit, Cond.fieldLink RX2 9 "BrakeCurve$Train" "length" "I", Cond.fieldLink RX2 15 "BrakeCurve$Train" "brake" "I", Cond.fieldLink RX2 18 "BrakeCurve$Train" "pull" "I", Cond.fieldLink RX2 21 "BrakeCurve$Train" "whole" "Z", Cond.fieldLink RX2 25 "BrakeCurve$Train" "head" "I", Cond.fieldLink RX2 28 "BrakeCurve$Train" "speed" "I", Cond.fieldLink RX2 31 "BrakeCurve$Train" "authority" "I", Cond.fieldLink RX2 34 "BrakeCurve$Train" "dwellLeft" "I", Cond.fieldLink RX2 37 "BrakeCurve$Train" "stationsToCome" "I", Cond.fieldLink RX2 40 "BrakeCurve$Train" "left" "Z", Cond.fieldLink RX2 43 "BrakeCurve$Train" "crashed" "Z", Cond.fieldLink RX2 46 "BrakeCurve$Train" "knownHead" "I", Cond.fieldLink RX2 49 "BrakeCurve$Train" "knownRear" "I", Cond.fieldLink RX2 52 "BrakeCurve$Train" "reportSecond" "I", Cond.fieldLink RX2 55 "BrakeCurve$Train" "brakedSeconds" "I", Cond.fieldLink RX2 58 "BrakeCurve$Train" "overrunSeconds" "I"]
def wsX0_init_r3 : List Cond := [Cond.fieldLink RX2 61 "BrakeCurve$Train" "missedStations" "I", Cond.constant RX2 64 (1000000), Cond.fieldLink RX2 65 "BrakeCurve$Train" "leastGap" "I"]
def wsX0_init : List Cond := .code yX0_init cX0_init 2 none :: ((wsX0_init_r1 ++ (wsX0_init_r2 ++ wsX0_init_r3)) ++ wsX10 ++ wsX00 ++ wsX20)
def wsX1_copyFrom : List Cond := .code yX1_copyFrom cX1_copyFrom 3 none :: ([.fieldLink RX1 9 "BrakeCurve$Track" "limits" "[I", .fieldLink RX1 15 "BrakeCurve$Track" "grades" "[I", .fieldLink RX1 18 "BrakeCurve$Track" "radios" "[Z", .fieldLink RX1 22 "BrakeCurve$Track" "stationMetres" "[I", .fieldLink RX1 25 "BrakeCurve$Track" "dwells" "[I", .fieldLink RX1 28 "BrakeCurve$Track" "stopCounts" "[I", .fieldLink RX1 31 "BrakeCurve$Track" "stationCount" "I", .fieldLink RX1 35 "BrakeCurve$Track" "worksFirst" "[I", .fieldLink RX1 38 "BrakeCurve$Track" "worksLast" "[I", .fieldLink RX1 41 "BrakeCurve$Track" "worksCount" "I"] ++ wsX10)
def wsX2_copyFrom : List Cond := .code yX2_copyFrom cX2_copyFrom 2 none :: ([.fieldLink RX2 9 "BrakeCurve$Train" "length" "I", .fieldLink RX2 15 "BrakeCurve$Train" "brake" "I", .fieldLink RX2 18 "BrakeCurve$Train" "pull" "I", .fieldLink RX2 21 "BrakeCurve$Train" "whole" "Z", .fieldLink RX2 25 "BrakeCurve$Train" "head" "I", .fieldLink RX2 28 "BrakeCurve$Train" "speed" "I", .fieldLink RX2 31 "BrakeCurve$Train" "authority" "I", .fieldLink RX2 34 "BrakeCurve$Train" "dwellLeft" "I", .fieldLink RX2 37 "BrakeCurve$Train" "stationsToCome" "I", .fieldLink RX2 40 "BrakeCurve$Train" "left" "Z", .fieldLink RX2 43 "BrakeCurve$Train" "crashed" "Z", .fieldLink RX2 46 "BrakeCurve$Train" "knownHead" "I", .fieldLink RX2 49 "BrakeCurve$Train" "knownRear" "I", .fieldLink RX2 52 "BrakeCurve$Train" "reportSecond" "I", .fieldLink RX2 55 "BrakeCurve$Train" "brakedSeconds" "I", .fieldLink RX2 58 "BrakeCurve$Train" "overrunSeconds" "I", .fieldLink RX2 61 "BrakeCurve$Train" "missedStations" "I", .fieldLink RX2 65 "BrakeCurve$Train" "leastGap" "I"] ++ wsX20)
def wsX0_copyFrom_r1 : List Cond := [Cond.fieldLink RX0 12 "BrakeCurve$Line" "track" "LBrakeCurve$Track;", Cond.fieldLink RX0 20 "BrakeCurve$Line" "trains" "[LBrakeCurve$Train;", Cond.fieldLink RX0 24 "BrakeCurve$Line" "trainCount" "I", Cond.fieldLink RX0 28 "BrakeCurve$Line" "now" "I", Cond.methodLink RX0 32 yX1_copyFrom, Cond.instanceMethod yX1_copyFrom, Cond.selects RX1 yX1_copyFrom yX1_copyFrom, Cond.initialized RX1, Cond.code yX1_copyFrom cX1_copyFrom 3 none, Cond.fieldLink RX1 9 "BrakeCurve$Track" "limits" "[I", Cond.fieldLink RX1 15 "BrakeCurve$Track" "grades" "[I", Cond.fieldLink RX1 18 "BrakeCurve$Track" "radios" "[Z", Cond.fieldLink RX1 22 "BrakeCurve$Track" "stationMetres" "[I", Cond.fieldLink RX1 25 "BrakeCurve$Track" "dwells" "[I", Cond.fieldLink RX1 28 "BrakeCurve$Track" "stopCounts" "[I", Cond.fieldLink RX1 31 "BrakeCurve$Track" "stationCount" "I", Cond.fieldLink RX1 35 "BrakeCurve$Track" "worksFirst" "[I", Cond.fieldLink RX1 38 "BrakeCurve$Track" "worksLast" "[I", Cond.fieldLink RX1 41 "BrakeCurve$Track" "worksCount" "I", Cond.methodLink RX0 36 yX2_copyFrom, Cond.instanceMethod yX2_copyFrom, Cond.selects RX2 yX2_copyFrom yX2_copyFrom, Cond.initialized RX2, Cond.code yX2_copyFrom cX2_copyFrom 2 none]
def wsX0_copyFrom_r2 : List Cond := [Cond.fieldLink RX2 9 "BrakeCurve$Train" "length" "I", Cond.fieldLink RX2 15 "BrakeCurve$Train" "brake" "I", Cond.fieldLink RX2 18 "BrakeCurve$Train" "pull" "I", Cond.fieldLink RX2 21 "BrakeCurve$Train" "whole" "Z", Cond.fieldLink RX2 25 "BrakeCurve$Train" "head" "I", Cond.fieldLink RX2 28 "BrakeCurve$Train" "speed" "I", Cond.fieldLink RX2 31 "BrakeCurve$Train" "authority" "I", Cond.fieldLink RX2 34 "BrakeCurve$Train" "dwellLeft" "I", Cond.fieldLink RX2 37 "BrakeCurve$Train" "stationsToCome" "I", Cond.fieldLink RX2 40 "BrakeCurve$Train" "left" "Z", Cond.fieldLink RX2 43 "BrakeCurve$Train" "crashed" "Z", Cond.fieldLink RX2 46 "BrakeCurve$Train" "knownHead" "I", Cond.fieldLink RX2 49 "BrakeCurve$Train" "knownRear" "I", Cond.fieldLink RX2 52 "BrakeCurve$Train" "reportSecond" "I", Cond.fieldLink RX2 55 "BrakeCurve$Train" "brakedSeconds" "I", Cond.fieldLink RX2 58 "BrakeCurve$Train" "overrunSeconds" "I", Cond.fieldLink RX2 61 "BrakeCurve$Train" "missedStations" "I", Cond.fieldLink RX2 65 "BrakeCurve$Train" "leastGap" "I"]
def wsX0_copyFrom : List Cond := .code yX0_copyFrom cX0_copyFrom 3 none :: ((wsX0_copyFrom_r1 ++ wsX0_copyFrom_r2) ++ wsX00 ++ wsX10 ++ wsX20)
def wsX1_stationsFrom : List Cond := .code yX1_stationsFrom cX1_stationsFrom 4 (some .int) :: ([.fieldLink RX1 31 "BrakeCurve$Track" "stationCount" "I", .fieldLink RX1 22 "BrakeCurve$Track" "stationMetres" "[I"] ++ wsX10)
def wsX2_rear : List Cond := .code yX2_rear cX2_rear 1 (some .int) :: ([.fieldLink RX2 25 "BrakeCurve$Train" "head" "I", .fieldLink RX2 9 "BrakeCurve$Train" "length" "I"] ++ wsX20)
def wsX2_report : List Cond := .code yX2_report cX2_report 2 none :: ([.fieldLink RX2 25 "BrakeCurve$Train" "head" "I", .fieldLink RX2 46 "BrakeCurve$Train" "knownHead" "I", .fieldLink RX2 21 "BrakeCurve$Train" "whole" "Z", .fieldLink RX2 49 "BrakeCurve$Train" "knownRear" "I", .fieldLink RX2 52 "BrakeCurve$Train" "reportSecond" "I", .methodLink RX2 72 yX2_rear, .instanceMethod yX2_rear, .selects RX2 yX2_rear yX2_rear, .initialized RX2, .code yX2_rear cX2_rear 1 (some .int), .fieldLink RX2 9 "BrakeCurve$Train" "length" "I"] ++ wsX20)
def wsX0_addTrain_r1 : List Cond := [Cond.fieldLink RX0 24 "BrakeCurve$Line" "trainCount" "I", Cond.fieldLink RX0 20 "BrakeCurve$Line" "trains" "[LBrakeCurve$Train;", Cond.fieldLink RX0 39 "BrakeCurve$Train" "length" "I", Cond.fieldLink RX0 42 "BrakeCurve$Train" "brake" "I", Cond.fieldLink RX0 45 "BrakeCurve$Train" "pull" "I", Cond.fieldLink RX0 48 "BrakeCurve$Train" "head" "I", Cond.fieldLink RX0 51 "BrakeCurve$Train" "authority" "I", Cond.fieldLink RX0 12 "BrakeCurve$Line" "track" "LBrakeCurve$Track;", Cond.fieldLink RX0 58 "BrakeCurve$Train" "stationsToCome" "I", Cond.fieldLink RX0 28 "BrakeCurve$Line" "now" "I", Cond.methodLink RX0 54 yX1_stationsFrom, Cond.instanceMethod yX1_stationsFrom, Cond.selects RX1 yX1_stationsFrom yX1_stationsFrom, Cond.initialized RX1, Cond.code yX1_stationsFrom cX1_stationsFrom 4 (some .int), Cond.fieldLink RX1 31 "BrakeCurve$Track" "stationCount" "I", Cond.fieldLink RX1 22 "BrakeCurve$Track" "stationMetres" "[I", Cond.methodLink RX0 61 yX2_report, Cond.instanceMethod yX2_report, Cond.selects RX2 yX2_report yX2_report, Cond.initialized RX2, Cond.code yX2_report cX2_report 2 none, Cond.fieldLink RX2 25 "BrakeCurve$Train" "head" "I", Cond.fieldLink RX2 46 "BrakeCurve$Train" "knownHead" "I"]
def wsX0_addTrain_r2 : List Cond := [Cond.fieldLink RX2 21 "BrakeCurve$Train" "whole" "Z", Cond.fieldLink RX2 49 "BrakeCurve$Train" "knownRear" "I", Cond.fieldLink RX2 52 "BrakeCurve$Train" "reportSecond" "I", Cond.methodLink RX2 72 yX2_rear, Cond.instanceMethod yX2_rear, Cond.selects RX2 yX2_rear yX2_rear, Cond.code yX2_rear cX2_rear 1 (some .int), Cond.fieldLink RX2 9 "BrakeCurve$Train" "length" "I"]
def wsX0_addTrain : List Cond := .code yX0_addTrain cX0_addTrain 7 (some .int) :: ((wsX0_addTrain_r1 ++ wsX0_addTrain_r2) ++ wsX00 ++ wsX20 ++ wsX10)
def wsX0_isFreeUpTo : List Cond := .code yX0_isFreeUpTo cX0_isFreeUpTo 3 (some .boolean) :: ([.fieldLink RX0 24 "BrakeCurve$Line" "trainCount" "I", .fieldLink RX0 20 "BrakeCurve$Line" "trains" "[LBrakeCurve$Train;", .fieldLink RX0 65 "BrakeCurve$Train" "left" "Z", .methodLink RX0 69 yX2_rear, .instanceMethod yX2_rear, .selects RX2 yX2_rear yX2_rear, .initialized RX2, .code yX2_rear cX2_rear 1 (some .int), .fieldLink RX2 25 "BrakeCurve$Train" "head" "I", .fieldLink RX2 9 "BrakeCurve$Train" "length" "I"] ++ wsX00 ++ wsX20)
def wsX0_countPresent : List Cond := .code yX0_countPresent cX0_countPresent 3 (some .int) :: ([.fieldLink RX0 24 "BrakeCurve$Line" "trainCount" "I", .fieldLink RX0 20 "BrakeCurve$Line" "trains" "[LBrakeCurve$Train;", .fieldLink RX0 65 "BrakeCurve$Train" "left" "Z"] ++ wsX00 ++ wsX20)
def wsX0_countCrashed : List Cond := .code yX0_countCrashed cX0_countCrashed 3 (some .int) :: ([.fieldLink RX0 24 "BrakeCurve$Line" "trainCount" "I", .fieldLink RX0 20 "BrakeCurve$Line" "trains" "[LBrakeCurve$Train;", .fieldLink RX0 73 "BrakeCurve$Train" "crashed" "Z"] ++ wsX00 ++ wsX20)
def wsX3_sectionAt : List Cond := .code yX3_sectionAt cX3_sectionAt 1 (some .int) :: ([])
def wsX2_isOn : List Cond := .code yX2_isOn cX2_isOn 3 (some .boolean) :: ([.fieldLink RX2 25 "BrakeCurve$Train" "head" "I", .static yX3_sectionAt, .initialized RX3, .code yX3_sectionAt cX3_sectionAt 1 (some .int), .methodLink RX2 72 yX2_rear, .instanceMethod yX2_rear, .selects RX2 yX2_rear yX2_rear, .initialized RX2, .code yX2_rear cX2_rear 1 (some .int), .fieldLink RX2 9 "BrakeCurve$Train" "length" "I"] ++ wsX20)
def wsX0_countOn : List Cond := .code yX0_countOn cX0_countOn 6 (some .int) :: ([.fieldLink RX0 24 "BrakeCurve$Line" "trainCount" "I", .fieldLink RX0 20 "BrakeCurve$Line" "trains" "[LBrakeCurve$Train;", .fieldLink RX0 65 "BrakeCurve$Train" "left" "Z", .methodLink RX0 76 yX2_isOn, .instanceMethod yX2_isOn, .selects RX2 yX2_isOn yX2_isOn, .initialized RX2, .code yX2_isOn cX2_isOn 3 (some .boolean), .fieldLink RX2 25 "BrakeCurve$Train" "head" "I", .static yX3_sectionAt, .initialized RX3, .code yX3_sectionAt cX3_sectionAt 1 (some .int), .methodLink RX2 72 yX2_rear, .instanceMethod yX2_rear, .selects RX2 yX2_rear yX2_rear, .code yX2_rear cX2_rear 1 (some .int), .fieldLink RX2 9 "BrakeCurve$Train" "length" "I"] ++ wsX00 ++ wsX20)
def wsX0_sumOfSpeeds : List Cond := .code yX0_sumOfSpeeds cX0_sumOfSpeeds 3 (some .int) :: ([.fieldLink RX0 24 "BrakeCurve$Line" "trainCount" "I", .fieldLink RX0 20 "BrakeCurve$Line" "trains" "[LBrakeCurve$Train;", .fieldLink RX0 80 "BrakeCurve$Train" "speed" "I"] ++ wsX00 ++ wsX20)
def wsX2_metresGone : List Cond := .code yX2_metresGone cX2_metresGone 1 (some .int) :: ([.fieldLink RX2 25 "BrakeCurve$Train" "head" "I", .fieldLink RX2 9 "BrakeCurve$Train" "length" "I"] ++ wsX20)
def wsX0_total : List Cond := .code yX0_total cX0_total 5 (some .int) :: ([.fieldLink RX0 24 "BrakeCurve$Line" "trainCount" "I", .fieldLink RX0 20 "BrakeCurve$Line" "trains" "[LBrakeCurve$Train;", .fieldLink RX0 83 "BrakeCurve$Train" "brakedSeconds" "I", .fieldLink RX0 86 "BrakeCurve$Train" "overrunSeconds" "I", .fieldLink RX0 89 "BrakeCurve$Train" "missedStations" "I", .methodLink RX0 92 yX2_metresGone, .instanceMethod yX2_metresGone, .selects RX2 yX2_metresGone yX2_metresGone, .initialized RX2, .code yX2_metresGone cX2_metresGone 1 (some .int), .fieldLink RX2 25 "BrakeCurve$Train" "head" "I", .fieldLink RX2 9 "BrakeCurve$Train" "length" "I"] ++ wsX00 ++ wsX20)
def wsX0_aheadOf : List Cond := .code yX0_aheadOf cX0_aheadOf 3 (some .int) :: ([.fieldLink RX0 20 "BrakeCurve$Line" "trains" "[LBrakeCurve$Train;", .fieldLink RX0 65 "BrakeCurve$Train" "left" "Z"] ++ wsX00 ++ wsX20)
def wsX0_holdOf : List Cond := .code yX0_holdOf cX0_holdOf 2 (some .int) :: ([.fieldLink RX0 42 "BrakeCurve$Train" "brake" "I", .fieldLink RX0 12 "BrakeCurve$Line" "track" "LBrakeCurve$Track;", .fieldLink RX0 95 "BrakeCurve$Track" "grades" "[I", .fieldLink RX0 48 "BrakeCurve$Train" "head" "I", .methodLink RX0 102 Lib.Math.max.name, .static Lib.Math.max.name, .initialized "java/lang/Math", .code Lib.Math.max.name Lib.Math.max.code 2 (some .int), .static yX3_sectionAt, .initialized RX3, .code yX3_sectionAt cX3_sectionAt 1 (some .int)] ++ wsX20 ++ wsX00 ++ wsX10)
def wsX1_nextStation : List Cond := .code yX1_nextStation cX1_nextStation 5 (some .int) :: ([.fieldLink RX1 31 "BrakeCurve$Track" "stationCount" "I", .fieldLink RX1 22 "BrakeCurve$Track" "stationMetres" "[I"] ++ wsX10)
def wsX1_leastLimit : List Cond := .code yX1_leastLimit cX1_leastLimit 6 (some .int) :: ([.fieldLink RX1 9 "BrakeCurve$Track" "limits" "[I", .methodLink RX1 48 Lib.Math.min.name, .static Lib.Math.min.name, .initialized "java/lang/Math", .code Lib.Math.min.name Lib.Math.min.code 2 (some .int), .static yX3_sectionAt, .initialized RX3, .code yX3_sectionAt cX3_sectionAt 1 (some .int)] ++ wsX10)
def wsX3_stopMetres : List Cond := .code yX3_stopMetres cX3_stopMetres 3 (some .int) :: ([])
def wsX0_allowedSpeed_r1 : List Cond := [Cond.fieldLink RX0 51 "BrakeCurve$Train" "authority" "I", Cond.fieldLink RX0 48 "BrakeCurve$Train" "head" "I", Cond.fieldLink RX0 12 "BrakeCurve$Line" "track" "LBrakeCurve$Track;", Cond.fieldLink RX0 58 "BrakeCurve$Train" "stationsToCome" "I", Cond.fieldLink RX0 111 "BrakeCurve$Track" "stationMetres" "[I", Cond.methodLink RX0 114 Lib.Math.min.name, Cond.static Lib.Math.min.name, Cond.initialized "java/lang/Math", Cond.code Lib.Math.min.name Lib.Math.min.code 2 (some .int), Cond.methodLink RX0 108 yX1_nextStation, Cond.instanceMethod yX1_nextStation, Cond.selects RX1 yX1_nextStation yX1_nextStation, Cond.initialized RX1, Cond.code yX1_nextStation cX1_nextStation 5 (some .int), Cond.fieldLink RX1 31 "BrakeCurve$Track" "stationCount" "I", Cond.fieldLink RX1 22 "BrakeCurve$Track" "stationMetres" "[I", Cond.methodLink RX0 117 yX0_holdOf, Cond.instanceMethod yX0_holdOf, Cond.selects RX0 yX0_holdOf yX0_holdOf, Cond.initialized RX0, Cond.code yX0_holdOf cX0_holdOf 2 (some .int), Cond.fieldLink RX0 42 "BrakeCurve$Train" "brake" "I", Cond.fieldLink RX0 95 "BrakeCurve$Track" "grades" "[I", Cond.methodLink RX0 102 Lib.Math.max.name]
def wsX0_allowedSpeed_r2 : List Cond := [Cond.static Lib.Math.max.name, Cond.code Lib.Math.max.name Lib.Math.max.code 2 (some .int), Cond.static yX3_sectionAt, Cond.initialized RX3, Cond.code yX3_sectionAt cX3_sectionAt 1 (some .int), Cond.methodLink RX0 69 yX2_rear, Cond.instanceMethod yX2_rear, Cond.selects RX2 yX2_rear yX2_rear, Cond.initialized RX2, Cond.code yX2_rear cX2_rear 1 (some .int), Cond.fieldLink RX2 25 "BrakeCurve$Train" "head" "I", Cond.fieldLink RX2 9 "BrakeCurve$Train" "length" "I", Cond.methodLink RX0 121 yX1_leastLimit, Cond.instanceMethod yX1_leastLimit, Cond.selects RX1 yX1_leastLimit yX1_leastLimit, Cond.code yX1_leastLimit cX1_leastLimit 6 (some .int), Cond.fieldLink RX1 9 "BrakeCurve$Track" "limits" "[I", Cond.methodLink RX1 48 Lib.Math.min.name, Cond.static yX3_stopMetres, Cond.code yX3_stopMetres cX3_stopMetres 3 (some .int)]
def wsX0_allowedSpeed : List Cond := .code yX0_allowedSpeed cX0_allowedSpeed 6 (some .int) :: ((wsX0_allowedSpeed_r1 ++ wsX0_allowedSpeed_r2) ++ wsX20 ++ wsX00 ++ wsX10)
def wsX0_isFresh : List Cond := .code yX0_isFresh cX0_isFresh 2 (some .boolean) :: ([.fieldLink RX0 28 "BrakeCurve$Line" "now" "I", .fieldLink RX0 127 "BrakeCurve$Train" "reportSecond" "I"] ++ wsX00 ++ wsX20)
def wsX0_boundByEnd : List Cond := .code yX0_boundByEnd cX0_boundByEnd 2 (some .int) :: ([.fieldLink RX0 39 "BrakeCurve$Train" "length" "I"] ++ wsX20)
def wsX3_firstMetreOf : List Cond := .code yX3_firstMetreOf cX3_firstMetreOf 1 (some .int) :: ([])
def wsX0_boundByAhead : List Cond := .code yX0_boundByAhead cX0_boundByAhead 4 (some .int) :: ([.constant RX0 133 (1000000), .fieldLink RX0 20 "BrakeCurve$Line" "trains" "[LBrakeCurve$Train;", .fieldLink RX0 134 "BrakeCurve$Train" "knownRear" "I", .methodLink RX0 130 yX0_aheadOf, .instanceMethod yX0_aheadOf, .selects RX0 yX0_aheadOf yX0_aheadOf, .initialized RX0, .code yX0_aheadOf cX0_aheadOf 3 (some .int), .fieldLink RX0 65 "BrakeCurve$Train" "left" "Z", .methodLink RX0 137 yX0_isFresh, .instanceMethod yX0_isFresh, .selects RX0 yX0_isFresh yX0_isFresh, .code yX0_isFresh cX0_isFresh 2 (some .boolean), .fieldLink RX0 28 "BrakeCurve$Line" "now" "I", .fieldLink RX0 127 "BrakeCurve$Train" "reportSecond" "I", .static yX3_sectionAt, .initialized RX3, .code yX3_sectionAt cX3_sectionAt 1 (some .int), .static yX3_firstMetreOf, .code yX3_firstMetreOf cX3_firstMetreOf 1 (some .int)] ++ wsX00 ++ wsX20)
def wsX1_boundByWorks : List Cond := .code yX1_boundByWorks cX1_boundByWorks 5 (some .int) :: ([.constant RX1 58 (1000000), .fieldLink RX1 41 "BrakeCurve$Track" "worksCount" "I", .fieldLink RX1 35 "BrakeCurve$Track" "worksFirst" "[I", .methodLink RX1 48 Lib.Math.min.name, .static Lib.Math.min.name, .initialized "java/lang/Math", .code Lib.Math.min.name Lib.Math.min.code 2 (some .int), .static yX3_firstMetreOf, .initialized RX3, .code yX3_firstMetreOf cX3_firstMetreOf 1 (some .int)] ++ wsX10)
def wsX0_leastBound_r1 : List Cond := [Cond.fieldLink RX0 20 "BrakeCurve$Line" "trains" "[LBrakeCurve$Train;", Cond.methodLink RX0 114 Lib.Math.min.name, Cond.static Lib.Math.min.name, Cond.initialized "java/lang/Math", Cond.code Lib.Math.min.name Lib.Math.min.code 2 (some .int), Cond.fieldLink RX0 12 "BrakeCurve$Line" "track" "LBrakeCurve$Track;", Cond.fieldLink RX0 48 "BrakeCurve$Train" "head" "I", Cond.methodLink RX0 144 yX0_boundByEnd, Cond.instanceMethod yX0_boundByEnd, Cond.selects RX0 yX0_boundByEnd yX0_boundByEnd, Cond.initialized RX0, Cond.code yX0_boundByEnd cX0_boundByEnd 2 (some .int), Cond.fieldLink RX0 39 "BrakeCurve$Train" "length" "I", Cond.methodLink RX0 147 yX0_boundByAhead, Cond.instanceMethod yX0_boundByAhead, Cond.selects RX0 yX0_boundByAhead yX0_boundByAhead, Cond.code yX0_boundByAhead cX0_boundByAhead 4 (some .int), Cond.constant RX0 133 (1000000), Cond.fieldLink RX0 134 "BrakeCurve$Train" "knownRear" "I", Cond.methodLink RX0 130 yX0_aheadOf, Cond.instanceMethod yX0_aheadOf, Cond.selects RX0 yX0_aheadOf yX0_aheadOf, Cond.code yX0_aheadOf cX0_aheadOf 3 (some .int), Cond.fieldLink RX0 65 "BrakeCurve$Train" "left" "Z"]
def wsX0_leastBound_r2 : List Cond := [Cond.methodLink RX0 137 yX0_isFresh, Cond.instanceMethod yX0_isFresh, Cond.selects RX0 yX0_isFresh yX0_isFresh, Cond.code yX0_isFresh cX0_isFresh 2 (some .boolean), Cond.fieldLink RX0 28 "BrakeCurve$Line" "now" "I", Cond.fieldLink RX0 127 "BrakeCurve$Train" "reportSecond" "I", Cond.static yX3_sectionAt, Cond.initialized RX3, Cond.code yX3_sectionAt cX3_sectionAt 1 (some .int), Cond.static yX3_firstMetreOf, Cond.code yX3_firstMetreOf cX3_firstMetreOf 1 (some .int), Cond.methodLink RX0 150 yX1_boundByWorks, Cond.instanceMethod yX1_boundByWorks, Cond.selects RX1 yX1_boundByWorks yX1_boundByWorks, Cond.initialized RX1, Cond.code yX1_boundByWorks cX1_boundByWorks 5 (some .int), Cond.constant RX1 58 (1000000), Cond.fieldLink RX1 41 "BrakeCurve$Track" "worksCount" "I", Cond.fieldLink RX1 35 "BrakeCurve$Track" "worksFirst" "[I", Cond.methodLink RX1 48 Lib.Math.min.name]
def wsX0_leastBound : List Cond := .code yX0_leastBound cX0_leastBound 3 (some .int) :: ((wsX0_leastBound_r1 ++ wsX0_leastBound_r2) ++ wsX00 ++ wsX20 ++ wsX10)
def wsX0_reasonOf_r1 : List Cond := [Cond.fieldLink RX0 20 "BrakeCurve$Line" "trains" "[LBrakeCurve$Train;", Cond.fieldLink RX0 48 "BrakeCurve$Train" "head" "I", Cond.methodLink RX0 153 yX0_leastBound, Cond.instanceMethod yX0_leastBound, Cond.selects RX0 yX0_leastBound yX0_leastBound, Cond.initialized RX0, Cond.code yX0_leastBound cX0_leastBound 3 (some .int), Cond.methodLink RX0 114 Lib.Math.min.name, Cond.static Lib.Math.min.name, Cond.initialized "java/lang/Math", Cond.code Lib.Math.min.name Lib.Math.min.code 2 (some .int), Cond.fieldLink RX0 12 "BrakeCurve$Line" "track" "LBrakeCurve$Track;", Cond.methodLink RX0 144 yX0_boundByEnd, Cond.instanceMethod yX0_boundByEnd, Cond.selects RX0 yX0_boundByEnd yX0_boundByEnd, Cond.code yX0_boundByEnd cX0_boundByEnd 2 (some .int), Cond.fieldLink RX0 39 "BrakeCurve$Train" "length" "I", Cond.methodLink RX0 147 yX0_boundByAhead, Cond.instanceMethod yX0_boundByAhead, Cond.selects RX0 yX0_boundByAhead yX0_boundByAhead, Cond.code yX0_boundByAhead cX0_boundByAhead 4 (some .int), Cond.constant RX0 133 (1000000), Cond.fieldLink RX0 134 "BrakeCurve$Train" "knownRear" "I", Cond.methodLink RX0 130 yX0_aheadOf]
def wsX0_reasonOf_r2 : List Cond := [Cond.instanceMethod yX0_aheadOf, Cond.selects RX0 yX0_aheadOf yX0_aheadOf, Cond.code yX0_aheadOf cX0_aheadOf 3 (some .int), Cond.fieldLink RX0 65 "BrakeCurve$Train" "left" "Z", Cond.methodLink RX0 137 yX0_isFresh, Cond.instanceMethod yX0_isFresh, Cond.selects RX0 yX0_isFresh yX0_isFresh, Cond.code yX0_isFresh cX0_isFresh 2 (some .boolean), Cond.fieldLink RX0 28 "BrakeCurve$Line" "now" "I", Cond.fieldLink RX0 127 "BrakeCurve$Train" "reportSecond" "I", Cond.static yX3_sectionAt, Cond.initialized RX3, Cond.code yX3_sectionAt cX3_sectionAt 1 (some .int), Cond.static yX3_firstMetreOf, Cond.code yX3_firstMetreOf cX3_firstMetreOf 1 (some .int), Cond.methodLink RX0 150 yX1_boundByWorks, Cond.instanceMethod yX1_boundByWorks, Cond.selects RX1 yX1_boundByWorks yX1_boundByWorks, Cond.initialized RX1, Cond.code yX1_boundByWorks cX1_boundByWorks 5 (some .int), Cond.constant RX1 58 (1000000), Cond.fieldLink RX1 41 "BrakeCurve$Track" "worksCount" "I", Cond.fieldLink RX1 35 "BrakeCurve$Track" "worksFirst" "[I", Cond.methodLink RX1 48 Lib.Math.min.name]
def wsX0_reasonOf : List Cond := .code yX0_reasonOf cX0_reasonOf 4 (some .int) :: ((wsX0_reasonOf_r1 ++ wsX0_reasonOf_r2) ++ wsX00 ++ wsX20 ++ wsX10)
def wsX0_hindranceOfWorks_r1 : List Cond := [Cond.fieldLink RX0 24 "BrakeCurve$Line" "trainCount" "I", Cond.fieldLink RX0 20 "BrakeCurve$Line" "trains" "[LBrakeCurve$Train;", Cond.fieldLink RX0 65 "BrakeCurve$Train" "left" "Z", Cond.fieldLink RX0 48 "BrakeCurve$Train" "head" "I", Cond.fieldLink RX0 51 "BrakeCurve$Train" "authority" "I", Cond.methodLink RX0 156 yX0_countOn, Cond.instanceMethod yX0_countOn, Cond.selects RX0 yX0_countOn yX0_countOn, Cond.initialized RX0, Cond.code yX0_countOn cX0_countOn 6 (some .int), Cond.methodLink RX0 76 yX2_isOn, Cond.instanceMethod yX2_isOn, Cond.selects RX2 yX2_isOn yX2_isOn, Cond.initialized RX2, Cond.code yX2_isOn cX2_isOn 3 (some .boolean), Cond.fieldLink RX2 25 "BrakeCurve$Train" "head" "I", Cond.static yX3_sectionAt, Cond.initialized RX3, Cond.code yX3_sectionAt cX3_sectionAt 1 (some .int), Cond.methodLink RX2 72 yX2_rear, Cond.instanceMethod yX2_rear, Cond.selects RX2 yX2_rear yX2_rear, Cond.code yX2_rear cX2_rear 1 (some .int), Cond.fieldLink RX2 9 "BrakeCurve$Train" "length" "I"]
def wsX0_hindranceOfWorks_r2 : List Cond := [Cond.static yX3_firstMetreOf, Cond.code yX3_firstMetreOf cX3_firstMetreOf 1 (some .int)]
def wsX0_hindranceOfWorks : List Cond := .code yX0_hindranceOfWorks cX0_hindranceOfWorks 6 (some .int) :: ((wsX0_hindranceOfWorks_r1 ++ wsX0_hindranceOfWorks_r2) ++ wsX00 ++ wsX20)
def wsX0_hasRadio : List Cond := .code yX0_hasRadio cX0_hasRadio 2 (some .boolean) :: ([.fieldLink RX0 12 "BrakeCurve$Line" "track" "LBrakeCurve$Track;", .fieldLink RX0 174 "BrakeCurve$Track" "radios" "[Z", .fieldLink RX0 48 "BrakeCurve$Train" "head" "I", .static yX3_sectionAt, .initialized RX3, .code yX3_sectionAt cX3_sectionAt 1 (some .int)] ++ wsX00 ++ wsX10 ++ wsX20)
def wsX0_reportAll_r1 : List Cond := [Cond.fieldLink RX0 24 "BrakeCurve$Line" "trainCount" "I", Cond.fieldLink RX0 20 "BrakeCurve$Line" "trains" "[LBrakeCurve$Train;", Cond.fieldLink RX0 65 "BrakeCurve$Train" "left" "Z", Cond.fieldLink RX0 28 "BrakeCurve$Line" "now" "I", Cond.methodLink RX0 162 yX0_hasRadio, Cond.instanceMethod yX0_hasRadio, Cond.selects RX0 yX0_hasRadio yX0_hasRadio, Cond.initialized RX0, Cond.code yX0_hasRadio cX0_hasRadio 2 (some .boolean), Cond.fieldLink RX0 12 "BrakeCurve$Line" "track" "LBrakeCurve$Track;", Cond.fieldLink RX0 174 "BrakeCurve$Track" "radios" "[Z", Cond.fieldLink RX0 48 "BrakeCurve$Train" "head" "I", Cond.static yX3_sectionAt, Cond.initialized RX3, Cond.code yX3_sectionAt cX3_sectionAt 1 (some .int), Cond.methodLink RX0 61 yX2_report, Cond.instanceMethod yX2_report, Cond.selects RX2 yX2_report yX2_report, Cond.initialized RX2, Cond.code yX2_report cX2_report 2 none, Cond.fieldLink RX2 25 "BrakeCurve$Train" "head" "I", Cond.fieldLink RX2 46 "BrakeCurve$Train" "knownHead" "I", Cond.fieldLink RX2 21 "BrakeCurve$Train" "whole" "Z", Cond.fieldLink RX2 49 "BrakeCurve$Train" "knownRear" "I"]
def wsX0_reportAll_r2 : List Cond := [Cond.fieldLink RX2 52 "BrakeCurve$Train" "reportSecond" "I", Cond.methodLink RX2 72 yX2_rear, Cond.instanceMethod yX2_rear, Cond.selects RX2 yX2_rear yX2_rear, Cond.code yX2_rear cX2_rear 1 (some .int), Cond.fieldLink RX2 9 "BrakeCurve$Train" "length" "I"]
def wsX0_reportAll : List Cond := .code yX0_reportAll cX0_reportAll 3 none :: ((wsX0_reportAll_r1 ++ wsX0_reportAll_r2) ++ wsX00 ++ wsX20 ++ wsX10)
def wsX0_stopAtStation : List Cond := .code yX0_stopAtStation cX0_stopAtStation 3 none :: ([.fieldLink RX0 12 "BrakeCurve$Line" "track" "LBrakeCurve$Track;", .fieldLink RX0 58 "BrakeCurve$Train" "stationsToCome" "I", .fieldLink RX0 80 "BrakeCurve$Train" "speed" "I", .fieldLink RX0 111 "BrakeCurve$Track" "stationMetres" "[I", .fieldLink RX0 48 "BrakeCurve$Train" "head" "I", .fieldLink RX0 190 "BrakeCurve$Track" "dwells" "[I", .fieldLink RX0 178 "BrakeCurve$Train" "dwellLeft" "I", .fieldLink RX0 193 "BrakeCurve$Track" "stopCounts" "[I", .methodLink RX0 108 yX1_nextStation, .instanceMethod yX1_nextStation, .selects RX1 yX1_nextStation yX1_nextStation, .initialized RX1, .code yX1_nextStation cX1_nextStation 5 (some .int), .fieldLink RX1 31 "BrakeCurve$Track" "stationCount" "I", .fieldLink RX1 22 "BrakeCurve$Track" "stationMetres" "[I"] ++ wsX00 ++ wsX20 ++ wsX10)
def wsJ6_bitCount_0f7a4 : List Cond := .code yJ6_bitCount_0f7a4 cJ6_bitCount_0f7a4 1 (some .int) :: ([.constant RJ6 265 (1431655765), .constant RJ6 266 (858993459), .constant RJ6 267 (252645135)])
def wsX0_missStations : List Cond := .code yX0_missStations cX0_missStations 3 none :: ([.fieldLink RX0 58 "BrakeCurve$Train" "stationsToCome" "I", .fieldLink RX0 12 "BrakeCurve$Line" "track" "LBrakeCurve$Track;", .fieldLink RX0 48 "BrakeCurve$Train" "head" "I", .fieldLink RX0 89 "BrakeCurve$Train" "missedStations" "I", .methodLink RX0 54 yX1_stationsFrom, .instanceMethod yX1_stationsFrom, .selects RX1 yX1_stationsFrom yX1_stationsFrom, .initialized RX1, .code yX1_stationsFrom cX1_stationsFrom 4 (some .int), .fieldLink RX1 31 "BrakeCurve$Track" "stationCount" "I", .fieldLink RX1 22 "BrakeCurve$Track" "stationMetres" "[I", .methodLink RX0 196 yJ6_bitCount_0f7a4, .static yJ6_bitCount_0f7a4, .initialized RJ6, .code yJ6_bitCount_0f7a4 cJ6_bitCount_0f7a4 1 (some .int), .constant RJ6 265 (1431655765), .constant RJ6 266 (858993459), .constant RJ6 267 (252645135)] ++ wsX20 ++ wsX00 ++ wsX10)
def wsX0_go_r1 : List Cond := [Cond.fieldLink RX0 178 "BrakeCurve$Train" "dwellLeft" "I", Cond.fieldLink RX0 80 "BrakeCurve$Train" "speed" "I", Cond.fieldLink RX0 45 "BrakeCurve$Train" "pull" "I", Cond.methodLink RX0 114 Lib.Math.min.name, Cond.static Lib.Math.min.name, Cond.initialized "java/lang/Math", Cond.code Lib.Math.min.name Lib.Math.min.code 2 (some .int), Cond.methodLink RX0 102 Lib.Math.max.name, Cond.static Lib.Math.max.name, Cond.code Lib.Math.max.name Lib.Math.max.code 2 (some .int), Cond.fieldLink RX0 83 "BrakeCurve$Train" "brakedSeconds" "I", Cond.fieldLink RX0 48 "BrakeCurve$Train" "head" "I", Cond.methodLink RX0 181 yX0_allowedSpeed, Cond.instanceMethod yX0_allowedSpeed, Cond.selects RX0 yX0_allowedSpeed yX0_allowedSpeed, Cond.initialized RX0, Cond.code yX0_allowedSpeed cX0_allowedSpeed 6 (some .int), Cond.fieldLink RX0 51 "BrakeCurve$Train" "authority" "I", Cond.fieldLink RX0 12 "BrakeCurve$Line" "track" "LBrakeCurve$Track;", Cond.fieldLink RX0 58 "BrakeCurve$Train" "stationsToCome" "I", Cond.fieldLink RX0 111 "BrakeCurve$Track" "stationMetres" "[I", Cond.methodLink RX0 108 yX1_nextStation, Cond.instanceMethod yX1_nextStation, Cond.selects RX1 yX1_nextStation yX1_nextStation]
def wsX0_go_r2 : List Cond := [Cond.initialized RX1, Cond.code yX1_nextStation cX1_nextStation 5 (some .int), Cond.fieldLink RX1 31 "BrakeCurve$Track" "stationCount" "I", Cond.fieldLink RX1 22 "BrakeCurve$Track" "stationMetres" "[I", Cond.methodLink RX0 117 yX0_holdOf, Cond.instanceMethod yX0_holdOf, Cond.selects RX0 yX0_holdOf yX0_holdOf, Cond.code yX0_holdOf cX0_holdOf 2 (some .int), Cond.fieldLink RX0 42 "BrakeCurve$Train" "brake" "I", Cond.fieldLink RX0 95 "BrakeCurve$Track" "grades" "[I", Cond.static yX3_sectionAt, Cond.initialized RX3, Cond.code yX3_sectionAt cX3_sectionAt 1 (some .int), Cond.methodLink RX0 69 yX2_rear, Cond.instanceMethod yX2_rear, Cond.selects RX2 yX2_rear yX2_rear, Cond.initialized RX2, Cond.code yX2_rear cX2_rear 1 (some .int), Cond.fieldLink RX2 25 "BrakeCurve$Train" "head" "I", Cond.fieldLink RX2 9 "BrakeCurve$Train" "length" "I", Cond.methodLink RX0 121 yX1_leastLimit, Cond.instanceMethod yX1_leastLimit, Cond.selects RX1 yX1_leastLimit yX1_leastLimit, Cond.code yX1_leastLimit cX1_leastLimit 6 (some .int)]
def wsX0_go_r3 : List Cond := [Cond.fieldLink RX1 9 "BrakeCurve$Track" "limits" "[I", Cond.methodLink RX1 48 Lib.Math.min.name, Cond.static yX3_stopMetres, Cond.code yX3_stopMetres cX3_stopMetres 3 (some .int), Cond.methodLink RX0 184 yX0_stopAtStation, Cond.instanceMethod yX0_stopAtStation, Cond.selects RX0 yX0_stopAtStation yX0_stopAtStation, Cond.code yX0_stopAtStation cX0_stopAtStation 3 none, Cond.fieldLink RX0 190 "BrakeCurve$Track" "dwells" "[I", Cond.fieldLink RX0 193 "BrakeCurve$Track" "stopCounts" "[I", Cond.methodLink RX0 187 yX0_missStations, Cond.instanceMethod yX0_missStations, Cond.selects RX0 yX0_missStations yX0_missStations, Cond.code yX0_missStations cX0_missStations 3 none, Cond.fieldLink RX0 89 "BrakeCurve$Train" "missedStations" "I", Cond.methodLink RX0 54 yX1_stationsFrom, Cond.instanceMethod yX1_stationsFrom, Cond.selects RX1 yX1_stationsFrom yX1_stationsFrom, Cond.code yX1_stationsFrom cX1_stationsFrom 4 (some .int), Cond.methodLink RX0 196 yJ6_bitCount_0f7a4, Cond.static yJ6_bitCount_0f7a4, Cond.initialized RJ6, Cond.code yJ6_bitCount_0f7a4 cJ6_bitCount_0f7a4 1 (some .int), Cond.constant RJ6 265 (1431655765)]
def wsX0_go_r4 : List Cond := [Cond.constant RJ6 266 (858993459), Cond.constant RJ6 267 (252645135)]
def wsX0_go : List Cond := .code yX0_go cX0_go 3 none :: ((wsX0_go_r1 ++ (wsX0_go_r2 ++ (wsX0_go_r3 ++ wsX0_go_r4))) ++ wsX20 ++ wsX00 ++ wsX10)
def wsX2_crash : List Cond := .code yX2_crash cX2_crash 1 none :: ([.fieldLink RX2 43 "BrakeCurve$Train" "crashed" "Z", .fieldLink RX2 28 "BrakeCurve$Train" "speed" "I"] ++ wsX20)
def wsX0_look_r1 : List Cond := [Cond.fieldLink RX0 20 "BrakeCurve$Line" "trains" "[LBrakeCurve$Train;", Cond.fieldLink RX0 48 "BrakeCurve$Train" "head" "I", Cond.fieldLink RX0 51 "BrakeCurve$Train" "authority" "I", Cond.fieldLink RX0 86 "BrakeCurve$Train" "overrunSeconds" "I", Cond.fieldLink RX0 201 "BrakeCurve$Train" "leastGap" "I", Cond.methodLink RX0 114 Lib.Math.min.name, Cond.static Lib.Math.min.name, Cond.initialized "java/lang/Math", Cond.code Lib.Math.min.name Lib.Math.min.code 2 (some .int), Cond.methodLink RX0 130 yX0_aheadOf, Cond.instanceMethod yX0_aheadOf, Cond.selects RX0 yX0_aheadOf yX0_aheadOf, Cond.initialized RX0, Cond.code yX0_aheadOf cX0_aheadOf 3 (some .int), Cond.fieldLink RX0 65 "BrakeCurve$Train" "left" "Z", Cond.methodLink RX0 69 yX2_rear, Cond.instanceMethod yX2_rear, Cond.selects RX2 yX2_rear yX2_rear, Cond.initialized RX2, Cond.code yX2_rear cX2_rear 1 (some .int), Cond.fieldLink RX2 25 "BrakeCurve$Train" "head" "I", Cond.fieldLink RX2 9 "BrakeCurve$Train" "length" "I", Cond.methodLink RX0 204 yX2_crash, Cond.instanceMethod yX2_crash]
def wsX0_look_r2 : List Cond := [Cond.selects RX2 yX2_crash yX2_crash, Cond.code yX2_crash cX2_crash 1 none, Cond.fieldLink RX2 43 "BrakeCurve$Train" "crashed" "Z", Cond.fieldLink RX2 28 "BrakeCurve$Train" "speed" "I"]
def wsX0_look : List Cond := .code yX0_look cX0_look 5 none :: ((wsX0_look_r1 ++ wsX0_look_r2) ++ wsX00 ++ wsX20)
def wsX0_leaveAll : List Cond := .code yX0_leaveAll cX0_leaveAll 4 (some .int) :: ([.fieldLink RX0 24 "BrakeCurve$Line" "trainCount" "I", .fieldLink RX0 20 "BrakeCurve$Line" "trains" "[LBrakeCurve$Train;", .fieldLink RX0 65 "BrakeCurve$Train" "left" "Z", .fieldLink RX0 80 "BrakeCurve$Train" "speed" "I", .methodLink RX0 69 yX2_rear, .instanceMethod yX2_rear, .selects RX2 yX2_rear yX2_rear, .initialized RX2, .code yX2_rear cX2_rear 1 (some .int), .fieldLink RX2 25 "BrakeCurve$Train" "head" "I", .fieldLink RX2 9 "BrakeCurve$Train" "length" "I"] ++ wsX00 ++ wsX20)
def wsX0_goOn_r1 : List Cond := [Cond.fieldLink RX0 28 "BrakeCurve$Line" "now" "I", Cond.fieldLink RX0 24 "BrakeCurve$Line" "trainCount" "I", Cond.fieldLink RX0 20 "BrakeCurve$Line" "trains" "[LBrakeCurve$Train;", Cond.fieldLink RX0 65 "BrakeCurve$Train" "left" "Z", Cond.fieldLink RX0 48 "BrakeCurve$Train" "head" "I", Cond.methodLink RX0 102 Lib.Math.max.name, Cond.static Lib.Math.max.name, Cond.initialized "java/lang/Math", Cond.code Lib.Math.max.name Lib.Math.max.code 2 (some .int), Cond.fieldLink RX0 51 "BrakeCurve$Train" "authority" "I", Cond.fieldLink RX0 73 "BrakeCurve$Train" "crashed" "Z", Cond.methodLink RX0 159 yX0_reportAll, Cond.instanceMethod yX0_reportAll, Cond.selects RX0 yX0_reportAll yX0_reportAll, Cond.initialized RX0, Cond.code yX0_reportAll cX0_reportAll 3 none, Cond.methodLink RX0 162 yX0_hasRadio, Cond.instanceMethod yX0_hasRadio, Cond.selects RX0 yX0_hasRadio yX0_hasRadio, Cond.code yX0_hasRadio cX0_hasRadio 2 (some .boolean), Cond.fieldLink RX0 12 "BrakeCurve$Line" "track" "LBrakeCurve$Track;", Cond.fieldLink RX0 174 "BrakeCurve$Track" "radios" "[Z", Cond.static yX3_sectionAt, Cond.initialized RX3]
def wsX0_goOn_r2 : List Cond := [Cond.code yX3_sectionAt cX3_sectionAt 1 (some .int), Cond.methodLink RX0 61 yX2_report, Cond.instanceMethod yX2_report, Cond.selects RX2 yX2_report yX2_report, Cond.initialized RX2, Cond.code yX2_report cX2_report 2 none, Cond.fieldLink RX2 25 "BrakeCurve$Train" "head" "I", Cond.fieldLink RX2 46 "BrakeCurve$Train" "knownHead" "I", Cond.fieldLink RX2 21 "BrakeCurve$Train" "whole" "Z", Cond.fieldLink RX2 49 "BrakeCurve$Train" "knownRear" "I", Cond.fieldLink RX2 52 "BrakeCurve$Train" "reportSecond" "I", Cond.methodLink RX2 72 yX2_rear, Cond.instanceMethod yX2_rear, Cond.selects RX2 yX2_rear yX2_rear, Cond.code yX2_rear cX2_rear 1 (some .int), Cond.fieldLink RX2 9 "BrakeCurve$Train" "length" "I", Cond.methodLink RX0 153 yX0_leastBound, Cond.instanceMethod yX0_leastBound, Cond.selects RX0 yX0_leastBound yX0_leastBound, Cond.code yX0_leastBound cX0_leastBound 3 (some .int), Cond.methodLink RX0 114 Lib.Math.min.name, Cond.static Lib.Math.min.name, Cond.code Lib.Math.min.name Lib.Math.min.code 2 (some .int), Cond.methodLink RX0 144 yX0_boundByEnd]
def wsX0_goOn_r3 : List Cond := [Cond.instanceMethod yX0_boundByEnd, Cond.selects RX0 yX0_boundByEnd yX0_boundByEnd, Cond.code yX0_boundByEnd cX0_boundByEnd 2 (some .int), Cond.fieldLink RX0 39 "BrakeCurve$Train" "length" "I", Cond.methodLink RX0 147 yX0_boundByAhead, Cond.instanceMethod yX0_boundByAhead, Cond.selects RX0 yX0_boundByAhead yX0_boundByAhead, Cond.code yX0_boundByAhead cX0_boundByAhead 4 (some .int), Cond.constant RX0 133 (1000000), Cond.fieldLink RX0 134 "BrakeCurve$Train" "knownRear" "I", Cond.methodLink RX0 130 yX0_aheadOf, Cond.instanceMethod yX0_aheadOf, Cond.selects RX0 yX0_aheadOf yX0_aheadOf, Cond.code yX0_aheadOf cX0_aheadOf 3 (some .int), Cond.methodLink RX0 137 yX0_isFresh, Cond.instanceMethod yX0_isFresh, Cond.selects RX0 yX0_isFresh yX0_isFresh, Cond.code yX0_isFresh cX0_isFresh 2 (some .boolean), Cond.fieldLink RX0 127 "BrakeCurve$Train" "reportSecond" "I", Cond.static yX3_firstMetreOf, Cond.code yX3_firstMetreOf cX3_firstMetreOf 1 (some .int), Cond.methodLink RX0 150 yX1_boundByWorks, Cond.instanceMethod yX1_boundByWorks, Cond.selects RX1 yX1_boundByWorks yX1_boundByWorks]
def wsX0_goOn_r4 : List Cond := [Cond.initialized RX1, Cond.code yX1_boundByWorks cX1_boundByWorks 5 (some .int), Cond.constant RX1 58 (1000000), Cond.fieldLink RX1 41 "BrakeCurve$Track" "worksCount" "I", Cond.fieldLink RX1 35 "BrakeCurve$Track" "worksFirst" "[I", Cond.methodLink RX1 48 Lib.Math.min.name, Cond.methodLink RX0 165 yX0_go, Cond.instanceMethod yX0_go, Cond.selects RX0 yX0_go yX0_go, Cond.code yX0_go cX0_go 3 none, Cond.fieldLink RX0 178 "BrakeCurve$Train" "dwellLeft" "I", Cond.fieldLink RX0 80 "BrakeCurve$Train" "speed" "I", Cond.fieldLink RX0 45 "BrakeCurve$Train" "pull" "I", Cond.fieldLink RX0 83 "BrakeCurve$Train" "brakedSeconds" "I", Cond.methodLink RX0 181 yX0_allowedSpeed, Cond.instanceMethod yX0_allowedSpeed, Cond.selects RX0 yX0_allowedSpeed yX0_allowedSpeed, Cond.code yX0_allowedSpeed cX0_allowedSpeed 6 (some .int), Cond.fieldLink RX0 58 "BrakeCurve$Train" "stationsToCome" "I", Cond.fieldLink RX0 111 "BrakeCurve$Track" "stationMetres" "[I", Cond.methodLink RX0 108 yX1_nextStation, Cond.instanceMethod yX1_nextStation, Cond.selects RX1 yX1_nextStation yX1_nextStation, Cond.code yX1_nextStation cX1_nextStation 5 (some .int)]
def wsX0_goOn_r5 : List Cond := [Cond.fieldLink RX1 31 "BrakeCurve$Track" "stationCount" "I", Cond.fieldLink RX1 22 "BrakeCurve$Track" "stationMetres" "[I", Cond.methodLink RX0 117 yX0_holdOf, Cond.instanceMethod yX0_holdOf, Cond.selects RX0 yX0_holdOf yX0_holdOf, Cond.code yX0_holdOf cX0_holdOf 2 (some .int), Cond.fieldLink RX0 42 "BrakeCurve$Train" "brake" "I", Cond.fieldLink RX0 95 "BrakeCurve$Track" "grades" "[I", Cond.methodLink RX0 69 yX2_rear, Cond.methodLink RX0 121 yX1_leastLimit, Cond.instanceMethod yX1_leastLimit, Cond.selects RX1 yX1_leastLimit yX1_leastLimit, Cond.code yX1_leastLimit cX1_leastLimit 6 (some .int), Cond.fieldLink RX1 9 "BrakeCurve$Track" "limits" "[I", Cond.static yX3_stopMetres, Cond.code yX3_stopMetres cX3_stopMetres 3 (some .int), Cond.methodLink RX0 184 yX0_stopAtStation, Cond.instanceMethod yX0_stopAtStation, Cond.selects RX0 yX0_stopAtStation yX0_stopAtStation, Cond.code yX0_stopAtStation cX0_stopAtStation 3 none, Cond.fieldLink RX0 190 "BrakeCurve$Track" "dwells" "[I", Cond.fieldLink RX0 193 "BrakeCurve$Track" "stopCounts" "[I", Cond.methodLink RX0 187 yX0_missStations, Cond.instanceMethod yX0_missStations]
def wsX0_goOn_r6 : List Cond := [Cond.selects RX0 yX0_missStations yX0_missStations, Cond.code yX0_missStations cX0_missStations 3 none, Cond.fieldLink RX0 89 "BrakeCurve$Train" "missedStations" "I", Cond.methodLink RX0 54 yX1_stationsFrom, Cond.instanceMethod yX1_stationsFrom, Cond.selects RX1 yX1_stationsFrom yX1_stationsFrom, Cond.code yX1_stationsFrom cX1_stationsFrom 4 (some .int), Cond.methodLink RX0 196 yJ6_bitCount_0f7a4, Cond.static yJ6_bitCount_0f7a4, Cond.initialized RJ6, Cond.code yJ6_bitCount_0f7a4 cJ6_bitCount_0f7a4 1 (some .int), Cond.constant RJ6 265 (1431655765), Cond.constant RJ6 266 (858993459), Cond.constant RJ6 267 (252645135), Cond.methodLink RX0 168 yX0_look, Cond.instanceMethod yX0_look, Cond.selects RX0 yX0_look yX0_look, Cond.code yX0_look cX0_look 5 none, Cond.fieldLink RX0 86 "BrakeCurve$Train" "overrunSeconds" "I", Cond.fieldLink RX0 201 "BrakeCurve$Train" "leastGap" "I", Cond.methodLink RX0 204 yX2_crash, Cond.instanceMethod yX2_crash, Cond.selects RX2 yX2_crash yX2_crash, Cond.code yX2_crash cX2_crash 1 none]
def wsX0_goOn_r7 : List Cond := [Cond.fieldLink RX2 43 "BrakeCurve$Train" "crashed" "Z", Cond.fieldLink RX2 28 "BrakeCurve$Train" "speed" "I", Cond.methodLink RX0 171 yX0_leaveAll, Cond.instanceMethod yX0_leaveAll, Cond.selects RX0 yX0_leaveAll yX0_leaveAll, Cond.code yX0_leaveAll cX0_leaveAll 4 (some .int)]
def wsX0_goOn : List Cond := .code yX0_goOn cX0_goOn 3 (some .int) :: ((wsX0_goOn_r1 ++ (wsX0_goOn_r2 ++ (wsX0_goOn_r3 ++ (wsX0_goOn_r4 ++ (wsX0_goOn_r5 ++ (wsX0_goOn_r6 ++ wsX0_goOn_r7)))))) ++ wsX00 ++ wsX20 ++ wsX10)
def wsX1_hasStationAt : List Cond := .code yX1_hasStationAt cX1_hasStationAt 3 (some .boolean) :: ([.fieldLink RX1 31 "BrakeCurve$Track" "stationCount" "I", .fieldLink RX1 22 "BrakeCurve$Track" "stationMetres" "[I"] ++ wsX10)
def wsX1_addStation : List Cond := .code yX1_addStation cX1_addStation 4 (some .int) :: ([.fieldLink RX1 31 "BrakeCurve$Track" "stationCount" "I", .fieldLink RX1 22 "BrakeCurve$Track" "stationMetres" "[I", .fieldLink RX1 25 "BrakeCurve$Track" "dwells" "[I", .fieldLink RX1 28 "BrakeCurve$Track" "stopCounts" "[I"] ++ wsX10)
def wsX1_addWorks : List Cond := .code yX1_addWorks cX1_addWorks 3 (some .int) :: ([.fieldLink RX1 35 "BrakeCurve$Track" "worksFirst" "[I", .fieldLink RX1 41 "BrakeCurve$Track" "worksCount" "I", .fieldLink RX1 38 "BrakeCurve$Track" "worksLast" "[I"] ++ wsX10)
def wsX1_removeWorks : List Cond := .code yX1_removeWorks cX1_removeWorks 3 (some .int) :: ([.fieldLink RX1 41 "BrakeCurve$Track" "worksCount" "I", .fieldLink RX1 35 "BrakeCurve$Track" "worksFirst" "[I", .fieldLink RX1 38 "BrakeCurve$Track" "worksLast" "[I"] ++ wsX10)
def wsX3_isWithin : List Cond := .code yX3_isWithin cX3_isWithin 3 (some .boolean) :: ([])
def wsX1_hasWorksOn : List Cond := .code yX1_hasWorksOn cX1_hasWorksOn 3 (some .boolean) :: ([.fieldLink RX1 41 "BrakeCurve$Track" "worksCount" "I", .fieldLink RX1 35 "BrakeCurve$Track" "worksFirst" "[I", .fieldLink RX1 38 "BrakeCurve$Track" "worksLast" "[I", .static yX3_isWithin, .initialized RX3, .code yX3_isWithin cX3_isWithin 3 (some .boolean)] ++ wsX10)
def wsX2_leastGapOrNone : List Cond := .code yX2_leastGapOrNone cX2_leastGapOrNone 1 (some .int) :: ([.fieldLink RX2 65 "BrakeCurve$Train" "leastGap" "I", .constant RX2 64 (1000000)] ++ wsX20)
def wsX2_numberNow : List Cond := .code yX2_numberNow cX2_numberNow 2 (some .int) :: ([.fieldLink RX2 25 "BrakeCurve$Train" "head" "I", .fieldLink RX2 28 "BrakeCurve$Train" "speed" "I", .fieldLink RX2 31 "BrakeCurve$Train" "authority" "I", .fieldLink RX2 21 "BrakeCurve$Train" "whole" "Z", .fieldLink RX2 34 "BrakeCurve$Train" "dwellLeft" "I", .fieldLink RX2 40 "BrakeCurve$Train" "left" "Z", .fieldLink RX2 43 "BrakeCurve$Train" "crashed" "Z", .methodLink RX2 72 yX2_rear, .instanceMethod yX2_rear, .selects RX2 yX2_rear yX2_rear, .initialized RX2, .code yX2_rear cX2_rear 1 (some .int), .fieldLink RX2 9 "BrakeCurve$Train" "length" "I"] ++ wsX20)
def wsX2_numberKept : List Cond := .code yX2_numberKept cX2_numberKept 2 (some .int) :: ([.fieldLink RX2 46 "BrakeCurve$Train" "knownHead" "I", .fieldLink RX2 49 "BrakeCurve$Train" "knownRear" "I", .fieldLink RX2 52 "BrakeCurve$Train" "reportSecond" "I", .fieldLink RX2 55 "BrakeCurve$Train" "brakedSeconds" "I", .fieldLink RX2 58 "BrakeCurve$Train" "overrunSeconds" "I", .fieldLink RX2 61 "BrakeCurve$Train" "missedStations" "I", .methodLink RX2 76 yX2_leastGapOrNone, .instanceMethod yX2_leastGapOrNone, .selects RX2 yX2_leastGapOrNone yX2_leastGapOrNone, .initialized RX2, .code yX2_leastGapOrNone cX2_leastGapOrNone 1 (some .int), .fieldLink RX2 65 "BrakeCurve$Train" "leastGap" "I", .constant RX2 64 (1000000)] ++ wsX20)
def wsX3_init_r1 : List Cond := [Cond.methodLink RX3 1 objectInit, Cond.instanceMethod objectInit, Cond.code objectInit ⟨#[0xb1]⟩ 1 none, Cond.classLink RX3 7 RX0, Cond.instantiable RX0 4, Cond.initialized RX0, Cond.fieldLink RX3 10 "BrakeCurve" "line" "LBrakeCurve$Line;", Cond.fieldLink RX3 16 "BrakeCurve" "trial" "LBrakeCurve$Line;", Cond.methodLink RX3 9 yX0_init, Cond.instanceMethod yX0_init, Cond.code yX0_init cX0_init 2 none, Cond.methodLink RX0 3 objectInit, Cond.classLink RX0 9 RX1, Cond.instantiable RX1 10, Cond.initialized RX1, Cond.fieldLink RX0 12 "BrakeCurve$Line" "track" "LBrakeCurve$Track;", Cond.classLink RX0 18 RX2, Cond.fieldLink RX0 20 "BrakeCurve$Line" "trains" "[LBrakeCurve$Train;", Cond.fieldLink RX0 24 "BrakeCurve$Line" "trainCount" "I", Cond.fieldLink RX0 28 "BrakeCurve$Line" "now" "I", Cond.instantiable RX2 18, Cond.initialized RX2, Cond.methodLink RX0 11 yX1_init, Cond.instanceMethod yX1_init]
def wsX3_init_r2 : List Cond := [Cond.code yX1_init cX1_init 2 none, Cond.methodLink RX1 3 objectInit, Cond.arrayClass .int, Cond.fieldLink RX1 9 "BrakeCurve$Track" "limits" "[I", Cond.fieldLink RX1 15 "BrakeCurve$Track" "grades" "[I", Cond.arrayClass .boolean, Cond.fieldLink RX1 18 "BrakeCurve$Track" "radios" "[Z", Cond.fieldLink RX1 22 "BrakeCurve$Track" "stationMetres" "[I", Cond.fieldLink RX1 25 "BrakeCurve$Track" "dwells" "[I", Cond.fieldLink RX1 28 "BrakeCurve$Track" "stopCounts" "[I", Cond.fieldLink RX1 31 "BrakeCurve$Track" "stationCount" "I", Cond.fieldLink RX1 35 "BrakeCurve$Track" "worksFirst" "[I", Cond.fieldLink RX1 38 "BrakeCurve$Track" "worksLast" "[I", Cond.fieldLink RX1 41 "BrakeCurve$Track" "worksCount" "I", Cond.instanceMethod yX2_init, Cond.code yX2_init cX2_init 1 none, Cond.methodLink RX2 3 objectInit, Cond.fieldLink RX2 9 "BrakeCurve$Train" "length" "I", Cond.fieldLink RX2 15 "BrakeCurve$Train" "brake" "I", Cond.fieldLink RX2 18 "BrakeCurve$Train" "pull" "I", Cond.fieldLink RX2 21 "BrakeCurve$Train" "whole" "Z", Cond.fieldLink RX2 25 "BrakeCurve$Train" "head" "I", Cond.fieldLink RX2 28 "BrakeCurve$Train" "speed" "I", Cond.fieldLink RX2 31 "BrakeCurve$Train" "authority" "I"]
def wsX3_init_r3 : List Cond := [Cond.fieldLink RX2 34 "BrakeCurve$Train" "dwellLeft" "I", Cond.fieldLink RX2 37 "BrakeCurve$Train" "stationsToCome" "I", Cond.fieldLink RX2 40 "BrakeCurve$Train" "left" "Z", Cond.fieldLink RX2 43 "BrakeCurve$Train" "crashed" "Z", Cond.fieldLink RX2 46 "BrakeCurve$Train" "knownHead" "I", Cond.fieldLink RX2 49 "BrakeCurve$Train" "knownRear" "I", Cond.fieldLink RX2 52 "BrakeCurve$Train" "reportSecond" "I", Cond.fieldLink RX2 55 "BrakeCurve$Train" "brakedSeconds" "I", Cond.fieldLink RX2 58 "BrakeCurve$Train" "overrunSeconds" "I", Cond.fieldLink RX2 61 "BrakeCurve$Train" "missedStations" "I", Cond.constant RX2 64 (1000000), Cond.fieldLink RX2 65 "BrakeCurve$Train" "leastGap" "I"]
def wsX3_init : List Cond := .code yX3_init cX3_init 1 none :: ((wsX3_init_r1 ++ (wsX3_init_r2 ++ wsX3_init_r3)) ++ wsX00 ++ wsX30 ++ wsX10 ++ wsX20)
def wsX3_needIndex : List Cond := .code yX3_needIndex cX3_needIndex 2 none :: ([.classLink RX3 220 "java/lang/IndexOutOfBoundsException", .initialized "java/lang/IndexOutOfBoundsException"] ++ (vx_atS RX3 224 "java/lang/IndexOutOfBoundsException" ["java/lang/RuntimeException", "java/lang/Exception"]).filter goodWord)
def wsX3_needSection : List Cond := .code yX3_needSection cX3_needSection 1 none :: ([.methodLink RX3 99 yX3_needIndex, .static yX3_needIndex, .initialized RX3, .code yX3_needIndex cX3_needIndex 2 none, .classLink RX3 220 "java/lang/IndexOutOfBoundsException", .initialized "java/lang/IndexOutOfBoundsException"] ++ (vx_atS RX3 224 "java/lang/IndexOutOfBoundsException" ["java/lang/RuntimeException", "java/lang/Exception"]).filter goodWord)
def wsX3_need : List Cond := .code yX3_need cX3_need 1 none :: ([.classLink RX3 227 "java/lang/IllegalArgumentException", .initialized "java/lang/IllegalArgumentException"] ++ (vx_atS RX3 231 "java/lang/IllegalArgumentException" ["java/lang/RuntimeException", "java/lang/Exception"]).filter goodWord)
def wsX3_section : List Cond := .code yX3_section cX3_section 6 (some .int) :: ([.fieldLink RX3 10 "BrakeCurve" "line" "LBrakeCurve$Line;", .fieldLink RX3 31 "BrakeCurve$Line" "track" "LBrakeCurve$Track;", .fieldLink RX3 35 "BrakeCurve$Track" "limits" "[I", .fieldLink RX3 41 "BrakeCurve$Track" "grades" "[I", .fieldLink RX3 44 "BrakeCurve$Track" "radios" "[Z", .methodLink RX3 19 yX3_needSection, .static yX3_needSection, .initialized RX3, .code yX3_needSection cX3_needSection 1 none, .methodLink RX3 99 yX3_needIndex, .static yX3_needIndex, .code yX3_needIndex cX3_needIndex 2 none, .classLink RX3 220 "java/lang/IndexOutOfBoundsException", .initialized "java/lang/IndexOutOfBoundsException", .methodLink RX3 23 yX3_isWithin, .static yX3_isWithin, .code yX3_isWithin cX3_isWithin 3 (some .boolean), .methodLink RX3 27 yX3_need, .static yX3_need, .code yX3_need cX3_need 1 none, .classLink RX3 227 "java/lang/IllegalArgumentException", .initialized "java/lang/IllegalArgumentException"] ++ wsX30 ++ wsX00 ++ wsX10 ++ (vx_atS RX3 224 "java/lang/IndexOutOfBoundsException" ["java/lang/RuntimeException", "java/lang/Exception"]).filter goodWord ++ (vx_atS RX3 231 "java/lang/IllegalArgumentException" ["java/lang/RuntimeException", "java/lang/Exception"]).filter goodWord)
def wsX3_needState : List Cond := .code yX3_needState cX3_needState 1 none :: ([.classLink RX3 232 "java/lang/IllegalStateException", .initialized "java/lang/IllegalStateException"] ++ (vx_atS RX3 236 "java/lang/IllegalStateException" ["java/lang/RuntimeException", "java/lang/Exception"]).filter goodWord)
def wsX3_station_r1 : List Cond := [Cond.fieldLink RX3 10 "BrakeCurve" "line" "LBrakeCurve$Line;", Cond.fieldLink RX3 31 "BrakeCurve$Line" "track" "LBrakeCurve$Track;", Cond.fieldLink RX3 52 "BrakeCurve$Track" "stationCount" "I", Cond.methodLink RX3 23 yX3_isWithin, Cond.static yX3_isWithin, Cond.initialized RX3, Cond.code yX3_isWithin cX3_isWithin 3 (some .boolean), Cond.methodLink RX3 48 yX1_hasStationAt, Cond.instanceMethod yX1_hasStationAt, Cond.selects RX1 yX1_hasStationAt yX1_hasStationAt, Cond.initialized RX1, Cond.code yX1_hasStationAt cX1_hasStationAt 3 (some .boolean), Cond.fieldLink RX1 31 "BrakeCurve$Track" "stationCount" "I", Cond.fieldLink RX1 22 "BrakeCurve$Track" "stationMetres" "[I", Cond.methodLink RX3 27 yX3_need, Cond.static yX3_need, Cond.code yX3_need cX3_need 1 none, Cond.classLink RX3 227 "java/lang/IllegalArgumentException", Cond.initialized "java/lang/IllegalArgumentException", Cond.methodLink RX3 56 yX0_countPresent, Cond.instanceMethod yX0_countPresent, Cond.selects RX0 yX0_countPresent yX0_countPresent, Cond.initialized RX0, Cond.code yX0_countPresent cX0_countPresent 3 (some .int)]
def wsX3_station_r2 : List Cond := [Cond.fieldLink RX0 24 "BrakeCurve$Line" "trainCount" "I", Cond.fieldLink RX0 20 "BrakeCurve$Line" "trains" "[LBrakeCurve$Train;", Cond.fieldLink RX0 65 "BrakeCurve$Train" "left" "Z", Cond.methodLink RX3 60 yX3_needState, Cond.static yX3_needState, Cond.code yX3_needState cX3_needState 1 none, Cond.classLink RX3 232 "java/lang/IllegalStateException", Cond.initialized "java/lang/IllegalStateException", Cond.methodLink RX3 63 yX1_addStation, Cond.instanceMethod yX1_addStation, Cond.selects RX1 yX1_addStation yX1_addStation, Cond.code yX1_addStation cX1_addStation 4 (some .int), Cond.fieldLink RX1 25 "BrakeCurve$Track" "dwells" "[I", Cond.fieldLink RX1 28 "BrakeCurve$Track" "stopCounts" "[I"]
def wsX3_station : List Cond := .code yX3_station cX3_station 3 (some .int) :: ((wsX3_station_r1 ++ wsX3_station_r2) ++ wsX30 ++ wsX00 ++ wsX10 ++ wsX20 ++ (vx_atS RX3 231 "java/lang/IllegalArgumentException" ["java/lang/RuntimeException", "java/lang/Exception"]).filter goodWord ++ (vx_atS RX3 236 "java/lang/IllegalStateException" ["java/lang/RuntimeException", "java/lang/Exception"]).filter goodWord)
def wsX3_train_r1 : List Cond := [Cond.fieldLink RX3 10 "BrakeCurve" "line" "LBrakeCurve$Line;", Cond.fieldLink RX3 67 "BrakeCurve$Line" "trainCount" "I", Cond.methodLink RX3 23 yX3_isWithin, Cond.static yX3_isWithin, Cond.initialized RX3, Cond.code yX3_isWithin cX3_isWithin 3 (some .boolean), Cond.methodLink RX3 27 yX3_need, Cond.static yX3_need, Cond.code yX3_need cX3_need 1 none, Cond.classLink RX3 227 "java/lang/IllegalArgumentException", Cond.initialized "java/lang/IllegalArgumentException", Cond.methodLink RX3 70 yX0_isFreeUpTo, Cond.instanceMethod yX0_isFreeUpTo, Cond.selects RX0 yX0_isFreeUpTo yX0_isFreeUpTo, Cond.initialized RX0, Cond.code yX0_isFreeUpTo cX0_isFreeUpTo 3 (some .boolean), Cond.fieldLink RX0 24 "BrakeCurve$Line" "trainCount" "I", Cond.fieldLink RX0 20 "BrakeCurve$Line" "trains" "[LBrakeCurve$Train;", Cond.fieldLink RX0 65 "BrakeCurve$Train" "left" "Z", Cond.methodLink RX0 69 yX2_rear, Cond.instanceMethod yX2_rear, Cond.selects RX2 yX2_rear yX2_rear, Cond.initialized RX2, Cond.code yX2_rear cX2_rear 1 (some .int)]
def wsX3_train_r2 : List Cond := [Cond.fieldLink RX2 25 "BrakeCurve$Train" "head" "I", Cond.fieldLink RX2 9 "BrakeCurve$Train" "length" "I", Cond.methodLink RX3 60 yX3_needState, Cond.static yX3_needState, Cond.code yX3_needState cX3_needState 1 none, Cond.classLink RX3 232 "java/lang/IllegalStateException", Cond.initialized "java/lang/IllegalStateException", Cond.methodLink RX3 73 yX0_addTrain, Cond.instanceMethod yX0_addTrain, Cond.selects RX0 yX0_addTrain yX0_addTrain, Cond.code yX0_addTrain cX0_addTrain 7 (some .int), Cond.fieldLink RX0 39 "BrakeCurve$Train" "length" "I", Cond.fieldLink RX0 42 "BrakeCurve$Train" "brake" "I", Cond.fieldLink RX0 45 "BrakeCurve$Train" "pull" "I", Cond.fieldLink RX0 48 "BrakeCurve$Train" "head" "I", Cond.fieldLink RX0 51 "BrakeCurve$Train" "authority" "I", Cond.fieldLink RX0 12 "BrakeCurve$Line" "track" "LBrakeCurve$Track;", Cond.fieldLink RX0 58 "BrakeCurve$Train" "stationsToCome" "I", Cond.fieldLink RX0 28 "BrakeCurve$Line" "now" "I", Cond.methodLink RX0 54 yX1_stationsFrom, Cond.instanceMethod yX1_stationsFrom, Cond.selects RX1 yX1_stationsFrom yX1_stationsFrom, Cond.initialized RX1, Cond.code yX1_stationsFrom cX1_stationsFrom 4 (some .int)]
def wsX3_train_r3 : List Cond := [Cond.fieldLink RX1 31 "BrakeCurve$Track" "stationCount" "I", Cond.fieldLink RX1 22 "BrakeCurve$Track" "stationMetres" "[I", Cond.methodLink RX0 61 yX2_report, Cond.instanceMethod yX2_report, Cond.selects RX2 yX2_report yX2_report, Cond.code yX2_report cX2_report 2 none, Cond.fieldLink RX2 46 "BrakeCurve$Train" "knownHead" "I", Cond.fieldLink RX2 21 "BrakeCurve$Train" "whole" "Z", Cond.fieldLink RX2 49 "BrakeCurve$Train" "knownRear" "I", Cond.fieldLink RX2 52 "BrakeCurve$Train" "reportSecond" "I", Cond.methodLink RX2 72 yX2_rear]
def wsX3_train : List Cond := .code yX3_train cX3_train 5 (some .int) :: ((wsX3_train_r1 ++ (wsX3_train_r2 ++ wsX3_train_r3)) ++ wsX30 ++ wsX00 ++ wsX20 ++ wsX10 ++ (vx_atS RX3 231 "java/lang/IllegalArgumentException" ["java/lang/RuntimeException", "java/lang/Exception"]).filter goodWord ++ (vx_atS RX3 236 "java/lang/IllegalStateException" ["java/lang/RuntimeException", "java/lang/Exception"]).filter goodWord)
def wsX3_needTrain : List Cond := .code yX3_needTrain cX3_needTrain 2 none :: ([.fieldLink RX3 10 "BrakeCurve" "line" "LBrakeCurve$Line;", .fieldLink RX3 67 "BrakeCurve$Line" "trainCount" "I", .methodLink RX3 99 yX3_needIndex, .static yX3_needIndex, .initialized RX3, .code yX3_needIndex cX3_needIndex 2 none, .classLink RX3 220 "java/lang/IndexOutOfBoundsException", .initialized "java/lang/IndexOutOfBoundsException"] ++ wsX30 ++ wsX00 ++ (vx_atS RX3 224 "java/lang/IndexOutOfBoundsException" ["java/lang/RuntimeException", "java/lang/Exception"]).filter goodWord)
def wsX3_whole : List Cond := .code yX3_whole cX3_whole 4 (some .boolean) :: ([.fieldLink RX3 10 "BrakeCurve" "line" "LBrakeCurve$Line;", .fieldLink RX3 80 "BrakeCurve$Line" "trains" "[LBrakeCurve$Train;", .fieldLink RX3 84 "BrakeCurve$Train" "whole" "Z", .methodLink RX3 77 yX3_needTrain, .instanceMethod yX3_needTrain, .selects RX3 yX3_needTrain yX3_needTrain, .initialized RX3, .code yX3_needTrain cX3_needTrain 2 none, .fieldLink RX3 67 "BrakeCurve$Line" "trainCount" "I", .methodLink RX3 99 yX3_needIndex, .static yX3_needIndex, .code yX3_needIndex cX3_needIndex 2 none, .classLink RX3 220 "java/lang/IndexOutOfBoundsException", .initialized "java/lang/IndexOutOfBoundsException"] ++ wsX30 ++ wsX00 ++ wsX20 ++ (vx_atS RX3 224 "java/lang/IndexOutOfBoundsException" ["java/lang/RuntimeException", "java/lang/Exception"]).filter goodWord)
def wsX3_works_r1 : List Cond := [Cond.fieldLink RX3 10 "BrakeCurve" "line" "LBrakeCurve$Line;", Cond.fieldLink RX3 31 "BrakeCurve$Line" "track" "LBrakeCurve$Track;", Cond.fieldLink RX3 90 "BrakeCurve$Track" "worksCount" "I", Cond.methodLink RX3 19 yX3_needSection, Cond.static yX3_needSection, Cond.initialized RX3, Cond.code yX3_needSection cX3_needSection 1 none, Cond.methodLink RX3 99 yX3_needIndex, Cond.static yX3_needIndex, Cond.code yX3_needIndex cX3_needIndex 2 none, Cond.classLink RX3 220 "java/lang/IndexOutOfBoundsException", Cond.initialized "java/lang/IndexOutOfBoundsException", Cond.methodLink RX3 27 yX3_need, Cond.static yX3_need, Cond.code yX3_need cX3_need 1 none, Cond.classLink RX3 227 "java/lang/IllegalArgumentException", Cond.initialized "java/lang/IllegalArgumentException", Cond.methodLink RX3 60 yX3_needState, Cond.static yX3_needState, Cond.code yX3_needState cX3_needState 1 none, Cond.classLink RX3 232 "java/lang/IllegalStateException", Cond.initialized "java/lang/IllegalStateException", Cond.methodLink RX3 93 yX0_hindranceOfWorks, Cond.instanceMethod yX0_hindranceOfWorks]
def wsX3_works_r2 : List Cond := [Cond.selects RX0 yX0_hindranceOfWorks yX0_hindranceOfWorks, Cond.initialized RX0, Cond.code yX0_hindranceOfWorks cX0_hindranceOfWorks 6 (some .int), Cond.fieldLink RX0 24 "BrakeCurve$Line" "trainCount" "I", Cond.fieldLink RX0 20 "BrakeCurve$Line" "trains" "[LBrakeCurve$Train;", Cond.fieldLink RX0 65 "BrakeCurve$Train" "left" "Z", Cond.fieldLink RX0 48 "BrakeCurve$Train" "head" "I", Cond.fieldLink RX0 51 "BrakeCurve$Train" "authority" "I", Cond.methodLink RX0 156 yX0_countOn, Cond.instanceMethod yX0_countOn, Cond.selects RX0 yX0_countOn yX0_countOn, Cond.code yX0_countOn cX0_countOn 6 (some .int), Cond.methodLink RX0 76 yX2_isOn, Cond.instanceMethod yX2_isOn, Cond.selects RX2 yX2_isOn yX2_isOn, Cond.initialized RX2, Cond.code yX2_isOn cX2_isOn 3 (some .boolean), Cond.fieldLink RX2 25 "BrakeCurve$Train" "head" "I", Cond.static yX3_sectionAt, Cond.code yX3_sectionAt cX3_sectionAt 1 (some .int), Cond.methodLink RX2 72 yX2_rear, Cond.instanceMethod yX2_rear, Cond.selects RX2 yX2_rear yX2_rear, Cond.code yX2_rear cX2_rear 1 (some .int)]
def wsX3_works_r3 : List Cond := [Cond.fieldLink RX2 9 "BrakeCurve$Train" "length" "I", Cond.static yX3_firstMetreOf, Cond.code yX3_firstMetreOf cX3_firstMetreOf 1 (some .int), Cond.methodLink RX3 96 yX1_addWorks, Cond.instanceMethod yX1_addWorks, Cond.selects RX1 yX1_addWorks yX1_addWorks, Cond.initialized RX1, Cond.code yX1_addWorks cX1_addWorks 3 (some .int), Cond.fieldLink RX1 35 "BrakeCurve$Track" "worksFirst" "[I", Cond.fieldLink RX1 41 "BrakeCurve$Track" "worksCount" "I", Cond.fieldLink RX1 38 "BrakeCurve$Track" "worksLast" "[I"]
def wsX3_works : List Cond := .code yX3_works cX3_works 4 (some .int) :: ((wsX3_works_r1 ++ (wsX3_works_r2 ++ wsX3_works_r3)) ++ wsX30 ++ wsX00 ++ wsX10 ++ wsX20 ++ (vx_atS RX3 224 "java/lang/IndexOutOfBoundsException" ["java/lang/RuntimeException", "java/lang/Exception"]).filter goodWord ++ (vx_atS RX3 231 "java/lang/IllegalArgumentException" ["java/lang/RuntimeException", "java/lang/Exception"]).filter goodWord ++ (vx_atS RX3 236 "java/lang/IllegalStateException" ["java/lang/RuntimeException", "java/lang/Exception"]).filter goodWord)
def wsX3_end : List Cond := .code yX3_end cX3_end 2 (some .int) :: ([.fieldLink RX3 10 "BrakeCurve" "line" "LBrakeCurve$Line;", .fieldLink RX3 31 "BrakeCurve$Line" "track" "LBrakeCurve$Track;", .fieldLink RX3 90 "BrakeCurve$Track" "worksCount" "I", .methodLink RX3 99 yX3_needIndex, .static yX3_needIndex, .initialized RX3, .code yX3_needIndex cX3_needIndex 2 none, .classLink RX3 220 "java/lang/IndexOutOfBoundsException", .initialized "java/lang/IndexOutOfBoundsException", .methodLink RX3 103 yX1_removeWorks, .instanceMethod yX1_removeWorks, .selects RX1 yX1_removeWorks yX1_removeWorks, .initialized RX1, .code yX1_removeWorks cX1_removeWorks 3 (some .int), .fieldLink RX1 41 "BrakeCurve$Track" "worksCount" "I", .fieldLink RX1 35 "BrakeCurve$Track" "worksFirst" "[I", .fieldLink RX1 38 "BrakeCurve$Track" "worksLast" "[I"] ++ wsX30 ++ wsX00 ++ wsX10 ++ (vx_atS RX3 224 "java/lang/IndexOutOfBoundsException" ["java/lang/RuntimeException", "java/lang/Exception"]).filter goodWord)
def wsX3_pass_r1 : List Cond := [Cond.fieldLink RX3 10 "BrakeCurve" "line" "LBrakeCurve$Line;", Cond.methodLink RX3 23 yX3_isWithin, Cond.static yX3_isWithin, Cond.initialized RX3, Cond.code yX3_isWithin cX3_isWithin 3 (some .boolean), Cond.methodLink RX3 27 yX3_need, Cond.static yX3_need, Cond.code yX3_need cX3_need 1 none, Cond.classLink RX3 227 "java/lang/IllegalArgumentException", Cond.initialized "java/lang/IllegalArgumentException", Cond.methodLink RX3 107 yX0_goOn, Cond.instanceMethod yX0_goOn, Cond.selects RX0 yX0_goOn yX0_goOn, Cond.initialized RX0, Cond.code yX0_goOn cX0_goOn 3 (some .int), Cond.fieldLink RX0 28 "BrakeCurve$Line" "now" "I", Cond.fieldLink RX0 24 "BrakeCurve$Line" "trainCount" "I", Cond.fieldLink RX0 20 "BrakeCurve$Line" "trains" "[LBrakeCurve$Train;", Cond.fieldLink RX0 65 "BrakeCurve$Train" "left" "Z", Cond.fieldLink RX0 48 "BrakeCurve$Train" "head" "I", Cond.methodLink RX0 102 Lib.Math.max.name, Cond.static Lib.Math.max.name, Cond.initialized "java/lang/Math", Cond.code Lib.Math.max.name Lib.Math.max.code 2 (some .int)]
def wsX3_pass_r2 : List Cond := [Cond.fieldLink RX0 51 "BrakeCurve$Train" "authority" "I", Cond.fieldLink RX0 73 "BrakeCurve$Train" "crashed" "Z", Cond.methodLink RX0 159 yX0_reportAll, Cond.instanceMethod yX0_reportAll, Cond.selects RX0 yX0_reportAll yX0_reportAll, Cond.code yX0_reportAll cX0_reportAll 3 none, Cond.methodLink RX0 162 yX0_hasRadio, Cond.instanceMethod yX0_hasRadio, Cond.selects RX0 yX0_hasRadio yX0_hasRadio, Cond.code yX0_hasRadio cX0_hasRadio 2 (some .boolean), Cond.fieldLink RX0 12 "BrakeCurve$Line" "track" "LBrakeCurve$Track;", Cond.fieldLink RX0 174 "BrakeCurve$Track" "radios" "[Z", Cond.static yX3_sectionAt, Cond.code yX3_sectionAt cX3_sectionAt 1 (some .int), Cond.methodLink RX0 61 yX2_report, Cond.instanceMethod yX2_report, Cond.selects RX2 yX2_report yX2_report, Cond.initialized RX2, Cond.code yX2_report cX2_report 2 none, Cond.fieldLink RX2 25 "BrakeCurve$Train" "head" "I", Cond.fieldLink RX2 46 "BrakeCurve$Train" "knownHead" "I", Cond.fieldLink RX2 21 "BrakeCurve$Train" "whole" "Z", Cond.fieldLink RX2 49 "BrakeCurve$Train" "knownRear" "I", Cond.fieldLink RX2 52 "BrakeCurve$Train" "reportSecond" "I"]
def wsX3_pass_r3 : List Cond := [Cond.methodLink RX2 72 yX2_rear, Cond.instanceMethod yX2_rear, Cond.selects RX2 yX2_rear yX2_rear, Cond.code yX2_rear cX2_rear 1 (some .int), Cond.fieldLink RX2 9 "BrakeCurve$Train" "length" "I", Cond.methodLink RX0 153 yX0_leastBound, Cond.instanceMethod yX0_leastBound, Cond.selects RX0 yX0_leastBound yX0_leastBound, Cond.code yX0_leastBound cX0_leastBound 3 (some .int), Cond.methodLink RX0 114 Lib.Math.min.name, Cond.static Lib.Math.min.name, Cond.code Lib.Math.min.name Lib.Math.min.code 2 (some .int), Cond.methodLink RX0 144 yX0_boundByEnd, Cond.instanceMethod yX0_boundByEnd, Cond.selects RX0 yX0_boundByEnd yX0_boundByEnd, Cond.code yX0_boundByEnd cX0_boundByEnd 2 (some .int), Cond.fieldLink RX0 39 "BrakeCurve$Train" "length" "I", Cond.methodLink RX0 147 yX0_boundByAhead, Cond.instanceMethod yX0_boundByAhead, Cond.selects RX0 yX0_boundByAhead yX0_boundByAhead, Cond.code yX0_boundByAhead cX0_boundByAhead 4 (some .int), Cond.constant RX0 133 (1000000), Cond.fieldLink RX0 134 "BrakeCurve$Train" "knownRear" "I", Cond.methodLink RX0 130 yX0_aheadOf]
def wsX3_pass_r4 : List Cond := [Cond.instanceMethod yX0_aheadOf, Cond.selects RX0 yX0_aheadOf yX0_aheadOf, Cond.code yX0_aheadOf cX0_aheadOf 3 (some .int), Cond.methodLink RX0 137 yX0_isFresh, Cond.instanceMethod yX0_isFresh, Cond.selects RX0 yX0_isFresh yX0_isFresh, Cond.code yX0_isFresh cX0_isFresh 2 (some .boolean), Cond.fieldLink RX0 127 "BrakeCurve$Train" "reportSecond" "I", Cond.static yX3_firstMetreOf, Cond.code yX3_firstMetreOf cX3_firstMetreOf 1 (some .int), Cond.methodLink RX0 150 yX1_boundByWorks, Cond.instanceMethod yX1_boundByWorks, Cond.selects RX1 yX1_boundByWorks yX1_boundByWorks, Cond.initialized RX1, Cond.code yX1_boundByWorks cX1_boundByWorks 5 (some .int), Cond.constant RX1 58 (1000000), Cond.fieldLink RX1 41 "BrakeCurve$Track" "worksCount" "I", Cond.fieldLink RX1 35 "BrakeCurve$Track" "worksFirst" "[I", Cond.methodLink RX1 48 Lib.Math.min.name, Cond.methodLink RX0 165 yX0_go, Cond.instanceMethod yX0_go, Cond.selects RX0 yX0_go yX0_go, Cond.code yX0_go cX0_go 3 none, Cond.fieldLink RX0 178 "BrakeCurve$Train" "dwellLeft" "I"]
def wsX3_pass_r5 : List Cond := [Cond.fieldLink RX0 80 "BrakeCurve$Train" "speed" "I", Cond.fieldLink RX0 45 "BrakeCurve$Train" "pull" "I", Cond.fieldLink RX0 83 "BrakeCurve$Train" "brakedSeconds" "I", Cond.methodLink RX0 181 yX0_allowedSpeed, Cond.instanceMethod yX0_allowedSpeed, Cond.selects RX0 yX0_allowedSpeed yX0_allowedSpeed, Cond.code yX0_allowedSpeed cX0_allowedSpeed 6 (some .int), Cond.fieldLink RX0 58 "BrakeCurve$Train" "stationsToCome" "I", Cond.fieldLink RX0 111 "BrakeCurve$Track" "stationMetres" "[I", Cond.methodLink RX0 108 yX1_nextStation, Cond.instanceMethod yX1_nextStation, Cond.selects RX1 yX1_nextStation yX1_nextStation, Cond.code yX1_nextStation cX1_nextStation 5 (some .int), Cond.fieldLink RX1 31 "BrakeCurve$Track" "stationCount" "I", Cond.fieldLink RX1 22 "BrakeCurve$Track" "stationMetres" "[I", Cond.methodLink RX0 117 yX0_holdOf, Cond.instanceMethod yX0_holdOf, Cond.selects RX0 yX0_holdOf yX0_holdOf, Cond.code yX0_holdOf cX0_holdOf 2 (some .int), Cond.fieldLink RX0 42 "BrakeCurve$Train" "brake" "I", Cond.fieldLink RX0 95 "BrakeCurve$Track" "grades" "[I", Cond.methodLink RX0 69 yX2_rear, Cond.methodLink RX0 121 yX1_leastLimit, Cond.instanceMethod yX1_leastLimit]
def wsX3_pass_r6 : List Cond := [Cond.selects RX1 yX1_leastLimit yX1_leastLimit, Cond.code yX1_leastLimit cX1_leastLimit 6 (some .int), Cond.fieldLink RX1 9 "BrakeCurve$Track" "limits" "[I", Cond.static yX3_stopMetres, Cond.code yX3_stopMetres cX3_stopMetres 3 (some .int), Cond.methodLink RX0 184 yX0_stopAtStation, Cond.instanceMethod yX0_stopAtStation, Cond.selects RX0 yX0_stopAtStation yX0_stopAtStation, Cond.code yX0_stopAtStation cX0_stopAtStation 3 none, Cond.fieldLink RX0 190 "BrakeCurve$Track" "dwells" "[I", Cond.fieldLink RX0 193 "BrakeCurve$Track" "stopCounts" "[I", Cond.methodLink RX0 187 yX0_missStations, Cond.instanceMethod yX0_missStations, Cond.selects RX0 yX0_missStations yX0_missStations, Cond.code yX0_missStations cX0_missStations 3 none, Cond.fieldLink RX0 89 "BrakeCurve$Train" "missedStations" "I", Cond.methodLink RX0 54 yX1_stationsFrom, Cond.instanceMethod yX1_stationsFrom, Cond.selects RX1 yX1_stationsFrom yX1_stationsFrom, Cond.code yX1_stationsFrom cX1_stationsFrom 4 (some .int), Cond.methodLink RX0 196 yJ6_bitCount_0f7a4, Cond.static yJ6_bitCount_0f7a4, Cond.initialized RJ6, Cond.code yJ6_bitCount_0f7a4 cJ6_bitCount_0f7a4 1 (some .int)]
def wsX3_pass_r7 : List Cond := [Cond.constant RJ6 265 (1431655765), Cond.constant RJ6 266 (858993459), Cond.constant RJ6 267 (252645135), Cond.methodLink RX0 168 yX0_look, Cond.instanceMethod yX0_look, Cond.selects RX0 yX0_look yX0_look, Cond.code yX0_look cX0_look 5 none, Cond.fieldLink RX0 86 "BrakeCurve$Train" "overrunSeconds" "I", Cond.fieldLink RX0 201 "BrakeCurve$Train" "leastGap" "I", Cond.methodLink RX0 204 yX2_crash, Cond.instanceMethod yX2_crash, Cond.selects RX2 yX2_crash yX2_crash, Cond.code yX2_crash cX2_crash 1 none, Cond.fieldLink RX2 43 "BrakeCurve$Train" "crashed" "Z", Cond.fieldLink RX2 28 "BrakeCurve$Train" "speed" "I", Cond.methodLink RX0 171 yX0_leaveAll, Cond.instanceMethod yX0_leaveAll, Cond.selects RX0 yX0_leaveAll yX0_leaveAll, Cond.code yX0_leaveAll cX0_leaveAll 4 (some .int)]
def wsX3_pass : List Cond := .code yX3_pass cX3_pass 4 (some .int) :: ((wsX3_pass_r1 ++ (wsX3_pass_r2 ++ (wsX3_pass_r3 ++ (wsX3_pass_r4 ++ (wsX3_pass_r5 ++ (wsX3_pass_r6 ++ wsX3_pass_r7)))))) ++ wsX30 ++ wsX00 ++ wsX20 ++ wsX10 ++ (vx_atS RX3 231 "java/lang/IllegalArgumentException" ["java/lang/RuntimeException", "java/lang/Exception"]).filter goodWord)
def wsX3_ofSection_r1 : List Cond := [Cond.fieldLink RX3 10 "BrakeCurve" "line" "LBrakeCurve$Line;", Cond.fieldLink RX3 31 "BrakeCurve$Line" "track" "LBrakeCurve$Track;", Cond.fieldLink RX3 35 "BrakeCurve$Track" "limits" "[I", Cond.fieldLink RX3 41 "BrakeCurve$Track" "grades" "[I", Cond.fieldLink RX3 44 "BrakeCurve$Track" "radios" "[Z", Cond.methodLink RX3 19 yX3_needSection, Cond.static yX3_needSection, Cond.initialized RX3, Cond.code yX3_needSection cX3_needSection 1 none, Cond.methodLink RX3 99 yX3_needIndex, Cond.static yX3_needIndex, Cond.code yX3_needIndex cX3_needIndex 2 none, Cond.classLink RX3 220 "java/lang/IndexOutOfBoundsException", Cond.initialized "java/lang/IndexOutOfBoundsException", Cond.methodLink RX3 23 yX3_isWithin, Cond.static yX3_isWithin, Cond.code yX3_isWithin cX3_isWithin 3 (some .boolean), Cond.methodLink RX3 27 yX3_need, Cond.static yX3_need, Cond.code yX3_need cX3_need 1 none, Cond.classLink RX3 227 "java/lang/IllegalArgumentException", Cond.initialized "java/lang/IllegalArgumentException", Cond.methodLink RX3 110 yX0_countOn, Cond.instanceMethod yX0_countOn]
def wsX3_ofSection_r2 : List Cond := [Cond.selects RX0 yX0_countOn yX0_countOn, Cond.initialized RX0, Cond.code yX0_countOn cX0_countOn 6 (some .int), Cond.fieldLink RX0 24 "BrakeCurve$Line" "trainCount" "I", Cond.fieldLink RX0 20 "BrakeCurve$Line" "trains" "[LBrakeCurve$Train;", Cond.fieldLink RX0 65 "BrakeCurve$Train" "left" "Z", Cond.methodLink RX0 76 yX2_isOn, Cond.instanceMethod yX2_isOn, Cond.selects RX2 yX2_isOn yX2_isOn, Cond.initialized RX2, Cond.code yX2_isOn cX2_isOn 3 (some .boolean), Cond.fieldLink RX2 25 "BrakeCurve$Train" "head" "I", Cond.static yX3_sectionAt, Cond.code yX3_sectionAt cX3_sectionAt 1 (some .int), Cond.methodLink RX2 72 yX2_rear, Cond.instanceMethod yX2_rear, Cond.selects RX2 yX2_rear yX2_rear, Cond.code yX2_rear cX2_rear 1 (some .int), Cond.fieldLink RX2 9 "BrakeCurve$Train" "length" "I", Cond.methodLink RX3 113 yX1_hasWorksOn, Cond.instanceMethod yX1_hasWorksOn, Cond.selects RX1 yX1_hasWorksOn yX1_hasWorksOn, Cond.initialized RX1, Cond.code yX1_hasWorksOn cX1_hasWorksOn 3 (some .boolean)]
def wsX3_ofSection_r3 : List Cond := [Cond.fieldLink RX1 41 "BrakeCurve$Track" "worksCount" "I", Cond.fieldLink RX1 35 "BrakeCurve$Track" "worksFirst" "[I", Cond.fieldLink RX1 38 "BrakeCurve$Track" "worksLast" "[I"]
def wsX3_ofSection : List Cond := .code yX3_ofSection cX3_ofSection 3 (some .int) :: ((wsX3_ofSection_r1 ++ (wsX3_ofSection_r2 ++ wsX3_ofSection_r3)) ++ wsX30 ++ wsX00 ++ wsX10 ++ wsX20 ++ (vx_atS RX3 224 "java/lang/IndexOutOfBoundsException" ["java/lang/RuntimeException", "java/lang/Exception"]).filter goodWord ++ (vx_atS RX3 231 "java/lang/IllegalArgumentException" ["java/lang/RuntimeException", "java/lang/Exception"]).filter goodWord)
def wsX3_ofTrain_r1 : List Cond := [Cond.fieldLink RX3 10 "BrakeCurve" "line" "LBrakeCurve$Line;", Cond.fieldLink RX3 31 "BrakeCurve$Line" "track" "LBrakeCurve$Track;", Cond.fieldLink RX3 80 "BrakeCurve$Line" "trains" "[LBrakeCurve$Train;", Cond.fieldLink RX3 116 "BrakeCurve$Train" "stationsToCome" "I", Cond.methodLink RX3 77 yX3_needTrain, Cond.instanceMethod yX3_needTrain, Cond.selects RX3 yX3_needTrain yX3_needTrain, Cond.initialized RX3, Cond.code yX3_needTrain cX3_needTrain 2 none, Cond.fieldLink RX3 67 "BrakeCurve$Line" "trainCount" "I", Cond.methodLink RX3 99 yX3_needIndex, Cond.static yX3_needIndex, Cond.code yX3_needIndex cX3_needIndex 2 none, Cond.classLink RX3 220 "java/lang/IndexOutOfBoundsException", Cond.initialized "java/lang/IndexOutOfBoundsException", Cond.methodLink RX3 23 yX3_isWithin, Cond.static yX3_isWithin, Cond.code yX3_isWithin cX3_isWithin 3 (some .boolean), Cond.methodLink RX3 27 yX3_need, Cond.static yX3_need, Cond.code yX3_need cX3_need 1 none, Cond.classLink RX3 227 "java/lang/IllegalArgumentException", Cond.initialized "java/lang/IllegalArgumentException", Cond.methodLink RX3 119 yX1_nextStation]
def wsX3_ofTrain_r2 : List Cond := [Cond.instanceMethod yX1_nextStation, Cond.selects RX1 yX1_nextStation yX1_nextStation, Cond.initialized RX1, Cond.code yX1_nextStation cX1_nextStation 5 (some .int), Cond.fieldLink RX1 31 "BrakeCurve$Track" "stationCount" "I", Cond.fieldLink RX1 22 "BrakeCurve$Track" "stationMetres" "[I", Cond.methodLink RX3 122 yX0_aheadOf, Cond.instanceMethod yX0_aheadOf, Cond.selects RX0 yX0_aheadOf yX0_aheadOf, Cond.initialized RX0, Cond.code yX0_aheadOf cX0_aheadOf 3 (some .int), Cond.fieldLink RX0 20 "BrakeCurve$Line" "trains" "[LBrakeCurve$Train;", Cond.fieldLink RX0 65 "BrakeCurve$Train" "left" "Z", Cond.methodLink RX3 125 yX2_numberNow, Cond.instanceMethod yX2_numberNow, Cond.selects RX2 yX2_numberNow yX2_numberNow, Cond.initialized RX2, Cond.code yX2_numberNow cX2_numberNow 2 (some .int), Cond.fieldLink RX2 25 "BrakeCurve$Train" "head" "I", Cond.fieldLink RX2 28 "BrakeCurve$Train" "speed" "I", Cond.fieldLink RX2 31 "BrakeCurve$Train" "authority" "I", Cond.fieldLink RX2 21 "BrakeCurve$Train" "whole" "Z", Cond.fieldLink RX2 34 "BrakeCurve$Train" "dwellLeft" "I", Cond.fieldLink RX2 40 "BrakeCurve$Train" "left" "Z"]
def wsX3_ofTrain_r3 : List Cond := [Cond.fieldLink RX2 43 "BrakeCurve$Train" "crashed" "Z", Cond.methodLink RX2 72 yX2_rear, Cond.instanceMethod yX2_rear, Cond.selects RX2 yX2_rear yX2_rear, Cond.code yX2_rear cX2_rear 1 (some .int), Cond.fieldLink RX2 9 "BrakeCurve$Train" "length" "I", Cond.methodLink RX3 128 yX2_numberKept, Cond.instanceMethod yX2_numberKept, Cond.selects RX2 yX2_numberKept yX2_numberKept, Cond.code yX2_numberKept cX2_numberKept 2 (some .int), Cond.fieldLink RX2 46 "BrakeCurve$Train" "knownHead" "I", Cond.fieldLink RX2 49 "BrakeCurve$Train" "knownRear" "I", Cond.fieldLink RX2 52 "BrakeCurve$Train" "reportSecond" "I", Cond.fieldLink RX2 55 "BrakeCurve$Train" "brakedSeconds" "I", Cond.fieldLink RX2 58 "BrakeCurve$Train" "overrunSeconds" "I", Cond.fieldLink RX2 61 "BrakeCurve$Train" "missedStations" "I", Cond.methodLink RX2 76 yX2_leastGapOrNone, Cond.instanceMethod yX2_leastGapOrNone, Cond.selects RX2 yX2_leastGapOrNone yX2_leastGapOrNone, Cond.code yX2_leastGapOrNone cX2_leastGapOrNone 1 (some .int), Cond.fieldLink RX2 65 "BrakeCurve$Train" "leastGap" "I", Cond.constant RX2 64 (1000000)]
def wsX3_ofTrain : List Cond := .code yX3_ofTrain cX3_ofTrain 3 (some .int) :: ((wsX3_ofTrain_r1 ++ (wsX3_ofTrain_r2 ++ wsX3_ofTrain_r3)) ++ wsX30 ++ wsX00 ++ wsX20 ++ wsX10 ++ (vx_atS RX3 224 "java/lang/IndexOutOfBoundsException" ["java/lang/RuntimeException", "java/lang/Exception"]).filter goodWord ++ (vx_atS RX3 231 "java/lang/IllegalArgumentException" ["java/lang/RuntimeException", "java/lang/Exception"]).filter goodWord)
def wsX3_stops_r1 : List Cond := [Cond.fieldLink RX3 10 "BrakeCurve" "line" "LBrakeCurve$Line;", Cond.fieldLink RX3 80 "BrakeCurve$Line" "trains" "[LBrakeCurve$Train;", Cond.methodLink RX3 77 yX3_needTrain, Cond.instanceMethod yX3_needTrain, Cond.selects RX3 yX3_needTrain yX3_needTrain, Cond.initialized RX3, Cond.code yX3_needTrain cX3_needTrain 2 none, Cond.fieldLink RX3 67 "BrakeCurve$Line" "trainCount" "I", Cond.methodLink RX3 99 yX3_needIndex, Cond.static yX3_needIndex, Cond.code yX3_needIndex cX3_needIndex 2 none, Cond.classLink RX3 220 "java/lang/IndexOutOfBoundsException", Cond.initialized "java/lang/IndexOutOfBoundsException", Cond.methodLink RX3 23 yX3_isWithin, Cond.static yX3_isWithin, Cond.code yX3_isWithin cX3_isWithin 3 (some .boolean), Cond.methodLink RX3 27 yX3_need, Cond.static yX3_need, Cond.code yX3_need cX3_need 1 none, Cond.classLink RX3 227 "java/lang/IllegalArgumentException", Cond.initialized "java/lang/IllegalArgumentException", Cond.methodLink RX3 131 yX0_holdOf, Cond.instanceMethod yX0_holdOf, Cond.selects RX0 yX0_holdOf yX0_holdOf]
def wsX3_stops_r2 : List Cond := [Cond.initialized RX0, Cond.code yX0_holdOf cX0_holdOf 2 (some .int), Cond.fieldLink RX0 42 "BrakeCurve$Train" "brake" "I", Cond.fieldLink RX0 12 "BrakeCurve$Line" "track" "LBrakeCurve$Track;", Cond.fieldLink RX0 95 "BrakeCurve$Track" "grades" "[I", Cond.fieldLink RX0 48 "BrakeCurve$Train" "head" "I", Cond.methodLink RX0 102 Lib.Math.max.name, Cond.static Lib.Math.max.name, Cond.initialized "java/lang/Math", Cond.code Lib.Math.max.name Lib.Math.max.code 2 (some .int), Cond.static yX3_sectionAt, Cond.code yX3_sectionAt cX3_sectionAt 1 (some .int), Cond.methodLink RX3 135 yX3_stopMetres, Cond.static yX3_stopMetres, Cond.code yX3_stopMetres cX3_stopMetres 3 (some .int)]
def wsX3_stops : List Cond := .code yX3_stops cX3_stops 3 (some .int) :: ((wsX3_stops_r1 ++ wsX3_stops_r2) ++ wsX30 ++ wsX00 ++ wsX20 ++ wsX10 ++ (vx_atS RX3 224 "java/lang/IndexOutOfBoundsException" ["java/lang/RuntimeException", "java/lang/Exception"]).filter goodWord ++ (vx_atS RX3 231 "java/lang/IllegalArgumentException" ["java/lang/RuntimeException", "java/lang/Exception"]).filter goodWord)
def wsX3_may_r1 : List Cond := [Cond.fieldLink RX3 10 "BrakeCurve" "line" "LBrakeCurve$Line;", Cond.fieldLink RX3 80 "BrakeCurve$Line" "trains" "[LBrakeCurve$Train;", Cond.fieldLink RX3 138 "BrakeCurve$Train" "left" "Z", Cond.methodLink RX3 77 yX3_needTrain, Cond.instanceMethod yX3_needTrain, Cond.selects RX3 yX3_needTrain yX3_needTrain, Cond.initialized RX3, Cond.code yX3_needTrain cX3_needTrain 2 none, Cond.fieldLink RX3 67 "BrakeCurve$Line" "trainCount" "I", Cond.methodLink RX3 99 yX3_needIndex, Cond.static yX3_needIndex, Cond.code yX3_needIndex cX3_needIndex 2 none, Cond.classLink RX3 220 "java/lang/IndexOutOfBoundsException", Cond.initialized "java/lang/IndexOutOfBoundsException", Cond.methodLink RX3 141 yX0_allowedSpeed, Cond.instanceMethod yX0_allowedSpeed, Cond.selects RX0 yX0_allowedSpeed yX0_allowedSpeed, Cond.initialized RX0, Cond.code yX0_allowedSpeed cX0_allowedSpeed 6 (some .int), Cond.fieldLink RX0 51 "BrakeCurve$Train" "authority" "I", Cond.fieldLink RX0 48 "BrakeCurve$Train" "head" "I", Cond.fieldLink RX0 12 "BrakeCurve$Line" "track" "LBrakeCurve$Track;", Cond.fieldLink RX0 58 "BrakeCurve$Train" "stationsToCome" "I", Cond.fieldLink RX0 111 "BrakeCurve$Track" "stationMetres" "[I"]
def wsX3_may_r2 : List Cond := [Cond.methodLink RX0 114 Lib.Math.min.name, Cond.static Lib.Math.min.name, Cond.initialized "java/lang/Math", Cond.code Lib.Math.min.name Lib.Math.min.code 2 (some .int), Cond.methodLink RX0 108 yX1_nextStation, Cond.instanceMethod yX1_nextStation, Cond.selects RX1 yX1_nextStation yX1_nextStation, Cond.initialized RX1, Cond.code yX1_nextStation cX1_nextStation 5 (some .int), Cond.fieldLink RX1 31 "BrakeCurve$Track" "stationCount" "I", Cond.fieldLink RX1 22 "BrakeCurve$Track" "stationMetres" "[I", Cond.methodLink RX0 117 yX0_holdOf, Cond.instanceMethod yX0_holdOf, Cond.selects RX0 yX0_holdOf yX0_holdOf, Cond.code yX0_holdOf cX0_holdOf 2 (some .int), Cond.fieldLink RX0 42 "BrakeCurve$Train" "brake" "I", Cond.fieldLink RX0 95 "BrakeCurve$Track" "grades" "[I", Cond.methodLink RX0 102 Lib.Math.max.name, Cond.static Lib.Math.max.name, Cond.code Lib.Math.max.name Lib.Math.max.code 2 (some .int), Cond.static yX3_sectionAt, Cond.code yX3_sectionAt cX3_sectionAt 1 (some .int), Cond.methodLink RX0 69 yX2_rear, Cond.instanceMethod yX2_rear]
def wsX3_may_r3 : List Cond := [Cond.selects RX2 yX2_rear yX2_rear, Cond.initialized RX2, Cond.code yX2_rear cX2_rear 1 (some .int), Cond.fieldLink RX2 25 "BrakeCurve$Train" "head" "I", Cond.fieldLink RX2 9 "BrakeCurve$Train" "length" "I", Cond.methodLink RX0 121 yX1_leastLimit, Cond.instanceMethod yX1_leastLimit, Cond.selects RX1 yX1_leastLimit yX1_leastLimit, Cond.code yX1_leastLimit cX1_leastLimit 6 (some .int), Cond.fieldLink RX1 9 "BrakeCurve$Track" "limits" "[I", Cond.methodLink RX1 48 Lib.Math.min.name, Cond.static yX3_stopMetres, Cond.code yX3_stopMetres cX3_stopMetres 3 (some .int)]
def wsX3_may : List Cond := .code yX3_may cX3_may 2 (some .int) :: ((wsX3_may_r1 ++ (wsX3_may_r2 ++ wsX3_may_r3)) ++ wsX30 ++ wsX00 ++ wsX20 ++ wsX10 ++ (vx_atS RX3 224 "java/lang/IndexOutOfBoundsException" ["java/lang/RuntimeException", "java/lang/Exception"]).filter goodWord)
def wsX3_why_r1 : List Cond := [Cond.fieldLink RX3 10 "BrakeCurve" "line" "LBrakeCurve$Line;", Cond.fieldLink RX3 80 "BrakeCurve$Line" "trains" "[LBrakeCurve$Train;", Cond.fieldLink RX3 138 "BrakeCurve$Train" "left" "Z", Cond.methodLink RX3 77 yX3_needTrain, Cond.instanceMethod yX3_needTrain, Cond.selects RX3 yX3_needTrain yX3_needTrain, Cond.initialized RX3, Cond.code yX3_needTrain cX3_needTrain 2 none, Cond.fieldLink RX3 67 "BrakeCurve$Line" "trainCount" "I", Cond.methodLink RX3 99 yX3_needIndex, Cond.static yX3_needIndex, Cond.code yX3_needIndex cX3_needIndex 2 none, Cond.classLink RX3 220 "java/lang/IndexOutOfBoundsException", Cond.initialized "java/lang/IndexOutOfBoundsException", Cond.methodLink RX3 144 yX0_reasonOf, Cond.instanceMethod yX0_reasonOf, Cond.selects RX0 yX0_reasonOf yX0_reasonOf, Cond.initialized RX0, Cond.code yX0_reasonOf cX0_reasonOf 4 (some .int), Cond.fieldLink RX0 20 "BrakeCurve$Line" "trains" "[LBrakeCurve$Train;", Cond.fieldLink RX0 48 "BrakeCurve$Train" "head" "I", Cond.methodLink RX0 153 yX0_leastBound, Cond.instanceMethod yX0_leastBound, Cond.selects RX0 yX0_leastBound yX0_leastBound]
def wsX3_why_r2 : List Cond := [Cond.code yX0_leastBound cX0_leastBound 3 (some .int), Cond.methodLink RX0 114 Lib.Math.min.name, Cond.static Lib.Math.min.name, Cond.initialized "java/lang/Math", Cond.code Lib.Math.min.name Lib.Math.min.code 2 (some .int), Cond.fieldLink RX0 12 "BrakeCurve$Line" "track" "LBrakeCurve$Track;", Cond.methodLink RX0 144 yX0_boundByEnd, Cond.instanceMethod yX0_boundByEnd, Cond.selects RX0 yX0_boundByEnd yX0_boundByEnd, Cond.code yX0_boundByEnd cX0_boundByEnd 2 (some .int), Cond.fieldLink RX0 39 "BrakeCurve$Train" "length" "I", Cond.methodLink RX0 147 yX0_boundByAhead, Cond.instanceMethod yX0_boundByAhead, Cond.selects RX0 yX0_boundByAhead yX0_boundByAhead, Cond.code yX0_boundByAhead cX0_boundByAhead 4 (some .int), Cond.constant RX0 133 (1000000), Cond.fieldLink RX0 134 "BrakeCurve$Train" "knownRear" "I", Cond.methodLink RX0 130 yX0_aheadOf, Cond.instanceMethod yX0_aheadOf, Cond.selects RX0 yX0_aheadOf yX0_aheadOf, Cond.code yX0_aheadOf cX0_aheadOf 3 (some .int), Cond.fieldLink RX0 65 "BrakeCurve$Train" "left" "Z", Cond.methodLink RX0 137 yX0_isFresh, Cond.instanceMethod yX0_isFresh]
def wsX3_why_r3 : List Cond := [Cond.selects RX0 yX0_isFresh yX0_isFresh, Cond.code yX0_isFresh cX0_isFresh 2 (some .boolean), Cond.fieldLink RX0 28 "BrakeCurve$Line" "now" "I", Cond.fieldLink RX0 127 "BrakeCurve$Train" "reportSecond" "I", Cond.static yX3_sectionAt, Cond.code yX3_sectionAt cX3_sectionAt 1 (some .int), Cond.static yX3_firstMetreOf, Cond.code yX3_firstMetreOf cX3_firstMetreOf 1 (some .int), Cond.methodLink RX0 150 yX1_boundByWorks, Cond.instanceMethod yX1_boundByWorks, Cond.selects RX1 yX1_boundByWorks yX1_boundByWorks, Cond.initialized RX1, Cond.code yX1_boundByWorks cX1_boundByWorks 5 (some .int), Cond.constant RX1 58 (1000000), Cond.fieldLink RX1 41 "BrakeCurve$Track" "worksCount" "I", Cond.fieldLink RX1 35 "BrakeCurve$Track" "worksFirst" "[I", Cond.methodLink RX1 48 Lib.Math.min.name]
def wsX3_why : List Cond := .code yX3_why cX3_why 2 (some .int) :: ((wsX3_why_r1 ++ (wsX3_why_r2 ++ wsX3_why_r3)) ++ wsX30 ++ wsX00 ++ wsX20 ++ wsX10 ++ (vx_atS RX3 224 "java/lang/IndexOutOfBoundsException" ["java/lang/RuntimeException", "java/lang/Exception"]).filter goodWord)
def wsX3_ofStation : List Cond := .code yX3_ofStation cX3_ofStation 3 (some .int) :: ([.fieldLink RX3 10 "BrakeCurve" "line" "LBrakeCurve$Line;", .fieldLink RX3 31 "BrakeCurve$Line" "track" "LBrakeCurve$Track;", .fieldLink RX3 52 "BrakeCurve$Track" "stationCount" "I", .fieldLink RX3 147 "BrakeCurve$Track" "stationMetres" "[I", .fieldLink RX3 150 "BrakeCurve$Track" "dwells" "[I", .fieldLink RX3 153 "BrakeCurve$Track" "stopCounts" "[I", .methodLink RX3 99 yX3_needIndex, .static yX3_needIndex, .initialized RX3, .code yX3_needIndex cX3_needIndex 2 none, .classLink RX3 220 "java/lang/IndexOutOfBoundsException", .initialized "java/lang/IndexOutOfBoundsException", .methodLink RX3 23 yX3_isWithin, .static yX3_isWithin, .code yX3_isWithin cX3_isWithin 3 (some .boolean), .methodLink RX3 27 yX3_need, .static yX3_need, .code yX3_need cX3_need 1 none, .classLink RX3 227 "java/lang/IllegalArgumentException", .initialized "java/lang/IllegalArgumentException"] ++ wsX30 ++ wsX00 ++ wsX10 ++ (vx_atS RX3 224 "java/lang/IndexOutOfBoundsException" ["java/lang/RuntimeException", "java/lang/Exception"]).filter goodWord ++ (vx_atS RX3 231 "java/lang/IllegalArgumentException" ["java/lang/RuntimeException", "java/lang/Exception"]).filter goodWord)
def wsX3_many_r1 : List Cond := [Cond.fieldLink RX3 10 "BrakeCurve" "line" "LBrakeCurve$Line;", Cond.fieldLink RX3 156 "BrakeCurve$Line" "now" "I", Cond.fieldLink RX3 67 "BrakeCurve$Line" "trainCount" "I", Cond.fieldLink RX3 31 "BrakeCurve$Line" "track" "LBrakeCurve$Track;", Cond.fieldLink RX3 52 "BrakeCurve$Track" "stationCount" "I", Cond.fieldLink RX3 90 "BrakeCurve$Track" "worksCount" "I", Cond.methodLink RX3 23 yX3_isWithin, Cond.static yX3_isWithin, Cond.initialized RX3, Cond.code yX3_isWithin cX3_isWithin 3 (some .boolean), Cond.methodLink RX3 27 yX3_need, Cond.static yX3_need, Cond.code yX3_need cX3_need 1 none, Cond.classLink RX3 227 "java/lang/IllegalArgumentException", Cond.initialized "java/lang/IllegalArgumentException", Cond.methodLink RX3 56 yX0_countPresent, Cond.instanceMethod yX0_countPresent, Cond.selects RX0 yX0_countPresent yX0_countPresent, Cond.initialized RX0, Cond.code yX0_countPresent cX0_countPresent 3 (some .int), Cond.fieldLink RX0 24 "BrakeCurve$Line" "trainCount" "I", Cond.fieldLink RX0 20 "BrakeCurve$Line" "trains" "[LBrakeCurve$Train;", Cond.fieldLink RX0 65 "BrakeCurve$Train" "left" "Z", Cond.methodLink RX3 159 yX0_countCrashed]
def wsX3_many_r2 : List Cond := [Cond.instanceMethod yX0_countCrashed, Cond.selects RX0 yX0_countCrashed yX0_countCrashed, Cond.code yX0_countCrashed cX0_countCrashed 3 (some .int), Cond.fieldLink RX0 73 "BrakeCurve$Train" "crashed" "Z", Cond.methodLink RX3 162 yX0_total, Cond.instanceMethod yX0_total, Cond.selects RX0 yX0_total yX0_total, Cond.code yX0_total cX0_total 5 (some .int), Cond.fieldLink RX0 83 "BrakeCurve$Train" "brakedSeconds" "I", Cond.fieldLink RX0 86 "BrakeCurve$Train" "overrunSeconds" "I", Cond.fieldLink RX0 89 "BrakeCurve$Train" "missedStations" "I", Cond.methodLink RX0 92 yX2_metresGone, Cond.instanceMethod yX2_metresGone, Cond.selects RX2 yX2_metresGone yX2_metresGone, Cond.initialized RX2, Cond.code yX2_metresGone cX2_metresGone 1 (some .int), Cond.fieldLink RX2 25 "BrakeCurve$Train" "head" "I", Cond.fieldLink RX2 9 "BrakeCurve$Train" "length" "I"]
def wsX3_many : List Cond := .code yX3_many cX3_many 2 (some .int) :: ((wsX3_many_r1 ++ wsX3_many_r2) ++ wsX30 ++ wsX00 ++ wsX10 ++ wsX20 ++ (vx_atS RX3 231 "java/lang/IllegalArgumentException" ["java/lang/RuntimeException", "java/lang/Exception"]).filter goodWord)
def wsX3_meanSpeed : List Cond := .code yX3_meanSpeed cX3_meanSpeed 2 (some .double) :: ([.fieldLink RX3 10 "BrakeCurve" "line" "LBrakeCurve$Line;", .methodLink RX3 56 yX0_countPresent, .instanceMethod yX0_countPresent, .selects RX0 yX0_countPresent yX0_countPresent, .initialized RX0, .code yX0_countPresent cX0_countPresent 3 (some .int), .fieldLink RX0 24 "BrakeCurve$Line" "trainCount" "I", .fieldLink RX0 20 "BrakeCurve$Line" "trains" "[LBrakeCurve$Train;", .fieldLink RX0 65 "BrakeCurve$Train" "left" "Z", .methodLink RX3 165 yX0_sumOfSpeeds, .instanceMethod yX0_sumOfSpeeds, .selects RX0 yX0_sumOfSpeeds yX0_sumOfSpeeds, .code yX0_sumOfSpeeds cX0_sumOfSpeeds 3 (some .int), .fieldLink RX0 80 "BrakeCurve$Train" "speed" "I"] ++ wsX30 ++ wsX00 ++ wsX20)
def wsX3_reaches_r1 : List Cond := [Cond.fieldLink RX3 10 "BrakeCurve" "line" "LBrakeCurve$Line;", Cond.fieldLink RX3 80 "BrakeCurve$Line" "trains" "[LBrakeCurve$Train;", Cond.fieldLink RX3 168 "BrakeCurve$Train" "head" "I", Cond.fieldLink RX3 16 "BrakeCurve" "trial" "LBrakeCurve$Line;", Cond.methodLink RX3 77 yX3_needTrain, Cond.instanceMethod yX3_needTrain, Cond.selects RX3 yX3_needTrain yX3_needTrain, Cond.initialized RX3, Cond.code yX3_needTrain cX3_needTrain 2 none, Cond.fieldLink RX3 67 "BrakeCurve$Line" "trainCount" "I", Cond.methodLink RX3 99 yX3_needIndex, Cond.static yX3_needIndex, Cond.code yX3_needIndex cX3_needIndex 2 none, Cond.classLink RX3 220 "java/lang/IndexOutOfBoundsException", Cond.initialized "java/lang/IndexOutOfBoundsException", Cond.methodLink RX3 23 yX3_isWithin, Cond.static yX3_isWithin, Cond.code yX3_isWithin cX3_isWithin 3 (some .boolean), Cond.methodLink RX3 27 yX3_need, Cond.static yX3_need, Cond.code yX3_need cX3_need 1 none, Cond.classLink RX3 227 "java/lang/IllegalArgumentException", Cond.initialized "java/lang/IllegalArgumentException", Cond.methodLink RX3 171 yX0_copyFrom]
def wsX3_reaches_r2 : List Cond := [Cond.instanceMethod yX0_copyFrom, Cond.selects RX0 yX0_copyFrom yX0_copyFrom, Cond.initialized RX0, Cond.code yX0_copyFrom cX0_copyFrom 3 none, Cond.fieldLink RX0 12 "BrakeCurve$Line" "track" "LBrakeCurve$Track;", Cond.fieldLink RX0 20 "BrakeCurve$Line" "trains" "[LBrakeCurve$Train;", Cond.fieldLink RX0 24 "BrakeCurve$Line" "trainCount" "I", Cond.fieldLink RX0 28 "BrakeCurve$Line" "now" "I", Cond.methodLink RX0 32 yX1_copyFrom, Cond.instanceMethod yX1_copyFrom, Cond.selects RX1 yX1_copyFrom yX1_copyFrom, Cond.initialized RX1, Cond.code yX1_copyFrom cX1_copyFrom 3 none, Cond.fieldLink RX1 9 "BrakeCurve$Track" "limits" "[I", Cond.fieldLink RX1 15 "BrakeCurve$Track" "grades" "[I", Cond.fieldLink RX1 18 "BrakeCurve$Track" "radios" "[Z", Cond.fieldLink RX1 22 "BrakeCurve$Track" "stationMetres" "[I", Cond.fieldLink RX1 25 "BrakeCurve$Track" "dwells" "[I", Cond.fieldLink RX1 28 "BrakeCurve$Track" "stopCounts" "[I", Cond.fieldLink RX1 31 "BrakeCurve$Track" "stationCount" "I", Cond.fieldLink RX1 35 "BrakeCurve$Track" "worksFirst" "[I", Cond.fieldLink RX1 38 "BrakeCurve$Track" "worksLast" "[I", Cond.fieldLink RX1 41 "BrakeCurve$Track" "worksCount" "I", Cond.methodLink RX0 36 yX2_copyFrom]
def wsX3_reaches_r3 : List Cond := [Cond.instanceMethod yX2_copyFrom, Cond.selects RX2 yX2_copyFrom yX2_copyFrom, Cond.initialized RX2, Cond.code yX2_copyFrom cX2_copyFrom 2 none, Cond.fieldLink RX2 9 "BrakeCurve$Train" "length" "I", Cond.fieldLink RX2 15 "BrakeCurve$Train" "brake" "I", Cond.fieldLink RX2 18 "BrakeCurve$Train" "pull" "I", Cond.fieldLink RX2 21 "BrakeCurve$Train" "whole" "Z", Cond.fieldLink RX2 25 "BrakeCurve$Train" "head" "I", Cond.fieldLink RX2 28 "BrakeCurve$Train" "speed" "I", Cond.fieldLink RX2 31 "BrakeCurve$Train" "authority" "I", Cond.fieldLink RX2 34 "BrakeCurve$Train" "dwellLeft" "I", Cond.fieldLink RX2 37 "BrakeCurve$Train" "stationsToCome" "I", Cond.fieldLink RX2 40 "BrakeCurve$Train" "left" "Z", Cond.fieldLink RX2 43 "BrakeCurve$Train" "crashed" "Z", Cond.fieldLink RX2 46 "BrakeCurve$Train" "knownHead" "I", Cond.fieldLink RX2 49 "BrakeCurve$Train" "knownRear" "I", Cond.fieldLink RX2 52 "BrakeCurve$Train" "reportSecond" "I", Cond.fieldLink RX2 55 "BrakeCurve$Train" "brakedSeconds" "I", Cond.fieldLink RX2 58 "BrakeCurve$Train" "overrunSeconds" "I", Cond.fieldLink RX2 61 "BrakeCurve$Train" "missedStations" "I", Cond.fieldLink RX2 65 "BrakeCurve$Train" "leastGap" "I", Cond.methodLink RX3 107 yX0_goOn, Cond.instanceMethod yX0_goOn]
def wsX3_reaches_r4 : List Cond := [Cond.selects RX0 yX0_goOn yX0_goOn, Cond.code yX0_goOn cX0_goOn 3 (some .int), Cond.fieldLink RX0 65 "BrakeCurve$Train" "left" "Z", Cond.fieldLink RX0 48 "BrakeCurve$Train" "head" "I", Cond.methodLink RX0 102 Lib.Math.max.name, Cond.static Lib.Math.max.name, Cond.initialized "java/lang/Math", Cond.code Lib.Math.max.name Lib.Math.max.code 2 (some .int), Cond.fieldLink RX0 51 "BrakeCurve$Train" "authority" "I", Cond.fieldLink RX0 73 "BrakeCurve$Train" "crashed" "Z", Cond.methodLink RX0 159 yX0_reportAll, Cond.instanceMethod yX0_reportAll, Cond.selects RX0 yX0_reportAll yX0_reportAll, Cond.code yX0_reportAll cX0_reportAll 3 none, Cond.methodLink RX0 162 yX0_hasRadio, Cond.instanceMethod yX0_hasRadio, Cond.selects RX0 yX0_hasRadio yX0_hasRadio, Cond.code yX0_hasRadio cX0_hasRadio 2 (some .boolean), Cond.fieldLink RX0 174 "BrakeCurve$Track" "radios" "[Z", Cond.static yX3_sectionAt, Cond.code yX3_sectionAt cX3_sectionAt 1 (some .int), Cond.methodLink RX0 61 yX2_report, Cond.instanceMethod yX2_report, Cond.selects RX2 yX2_report yX2_report]
def wsX3_reaches_r5 : List Cond := [Cond.code yX2_report cX2_report 2 none, Cond.methodLink RX2 72 yX2_rear, Cond.instanceMethod yX2_rear, Cond.selects RX2 yX2_rear yX2_rear, Cond.code yX2_rear cX2_rear 1 (some .int), Cond.methodLink RX0 153 yX0_leastBound, Cond.instanceMethod yX0_leastBound, Cond.selects RX0 yX0_leastBound yX0_leastBound, Cond.code yX0_leastBound cX0_leastBound 3 (some .int), Cond.methodLink RX0 114 Lib.Math.min.name, Cond.static Lib.Math.min.name, Cond.code Lib.Math.min.name Lib.Math.min.code 2 (some .int), Cond.methodLink RX0 144 yX0_boundByEnd, Cond.instanceMethod yX0_boundByEnd, Cond.selects RX0 yX0_boundByEnd yX0_boundByEnd, Cond.code yX0_boundByEnd cX0_boundByEnd 2 (some .int), Cond.fieldLink RX0 39 "BrakeCurve$Train" "length" "I", Cond.methodLink RX0 147 yX0_boundByAhead, Cond.instanceMethod yX0_boundByAhead, Cond.selects RX0 yX0_boundByAhead yX0_boundByAhead, Cond.code yX0_boundByAhead cX0_boundByAhead 4 (some .int), Cond.constant RX0 133 (1000000), Cond.fieldLink RX0 134 "BrakeCurve$Train" "knownRear" "I", Cond.methodLink RX0 130 yX0_aheadOf]
def wsX3_reaches_r6 : List Cond := [Cond.instanceMethod yX0_aheadOf, Cond.selects RX0 yX0_aheadOf yX0_aheadOf, Cond.code yX0_aheadOf cX0_aheadOf 3 (some .int), Cond.methodLink RX0 137 yX0_isFresh, Cond.instanceMethod yX0_isFresh, Cond.selects RX0 yX0_isFresh yX0_isFresh, Cond.code yX0_isFresh cX0_isFresh 2 (some .boolean), Cond.fieldLink RX0 127 "BrakeCurve$Train" "reportSecond" "I", Cond.static yX3_firstMetreOf, Cond.code yX3_firstMetreOf cX3_firstMetreOf 1 (some .int), Cond.methodLink RX0 150 yX1_boundByWorks, Cond.instanceMethod yX1_boundByWorks, Cond.selects RX1 yX1_boundByWorks yX1_boundByWorks, Cond.code yX1_boundByWorks cX1_boundByWorks 5 (some .int), Cond.constant RX1 58 (1000000), Cond.methodLink RX1 48 Lib.Math.min.name, Cond.methodLink RX0 165 yX0_go, Cond.instanceMethod yX0_go, Cond.selects RX0 yX0_go yX0_go, Cond.code yX0_go cX0_go 3 none, Cond.fieldLink RX0 178 "BrakeCurve$Train" "dwellLeft" "I", Cond.fieldLink RX0 80 "BrakeCurve$Train" "speed" "I", Cond.fieldLink RX0 45 "BrakeCurve$Train" "pull" "I", Cond.fieldLink RX0 83 "BrakeCurve$Train" "brakedSeconds" "I"]
def wsX3_reaches_r7 : List Cond := [Cond.methodLink RX0 181 yX0_allowedSpeed, Cond.instanceMethod yX0_allowedSpeed, Cond.selects RX0 yX0_allowedSpeed yX0_allowedSpeed, Cond.code yX0_allowedSpeed cX0_allowedSpeed 6 (some .int), Cond.fieldLink RX0 58 "BrakeCurve$Train" "stationsToCome" "I", Cond.fieldLink RX0 111 "BrakeCurve$Track" "stationMetres" "[I", Cond.methodLink RX0 108 yX1_nextStation, Cond.instanceMethod yX1_nextStation, Cond.selects RX1 yX1_nextStation yX1_nextStation, Cond.code yX1_nextStation cX1_nextStation 5 (some .int), Cond.methodLink RX0 117 yX0_holdOf, Cond.instanceMethod yX0_holdOf, Cond.selects RX0 yX0_holdOf yX0_holdOf, Cond.code yX0_holdOf cX0_holdOf 2 (some .int), Cond.fieldLink RX0 42 "BrakeCurve$Train" "brake" "I", Cond.fieldLink RX0 95 "BrakeCurve$Track" "grades" "[I", Cond.methodLink RX0 69 yX2_rear, Cond.methodLink RX0 121 yX1_leastLimit, Cond.instanceMethod yX1_leastLimit, Cond.selects RX1 yX1_leastLimit yX1_leastLimit, Cond.code yX1_leastLimit cX1_leastLimit 6 (some .int), Cond.static yX3_stopMetres, Cond.code yX3_stopMetres cX3_stopMetres 3 (some .int), Cond.methodLink RX0 184 yX0_stopAtStation]
def wsX3_reaches_r8 : List Cond := [Cond.instanceMethod yX0_stopAtStation, Cond.selects RX0 yX0_stopAtStation yX0_stopAtStation, Cond.code yX0_stopAtStation cX0_stopAtStation 3 none, Cond.fieldLink RX0 190 "BrakeCurve$Track" "dwells" "[I", Cond.fieldLink RX0 193 "BrakeCurve$Track" "stopCounts" "[I", Cond.methodLink RX0 187 yX0_missStations, Cond.instanceMethod yX0_missStations, Cond.selects RX0 yX0_missStations yX0_missStations, Cond.code yX0_missStations cX0_missStations 3 none, Cond.fieldLink RX0 89 "BrakeCurve$Train" "missedStations" "I", Cond.methodLink RX0 54 yX1_stationsFrom, Cond.instanceMethod yX1_stationsFrom, Cond.selects RX1 yX1_stationsFrom yX1_stationsFrom, Cond.code yX1_stationsFrom cX1_stationsFrom 4 (some .int), Cond.methodLink RX0 196 yJ6_bitCount_0f7a4, Cond.static yJ6_bitCount_0f7a4, Cond.initialized RJ6, Cond.code yJ6_bitCount_0f7a4 cJ6_bitCount_0f7a4 1 (some .int), Cond.constant RJ6 265 (1431655765), Cond.constant RJ6 266 (858993459), Cond.constant RJ6 267 (252645135), Cond.methodLink RX0 168 yX0_look, Cond.instanceMethod yX0_look, Cond.selects RX0 yX0_look yX0_look]
def wsX3_reaches_r9 : List Cond := [Cond.code yX0_look cX0_look 5 none, Cond.fieldLink RX0 86 "BrakeCurve$Train" "overrunSeconds" "I", Cond.fieldLink RX0 201 "BrakeCurve$Train" "leastGap" "I", Cond.methodLink RX0 204 yX2_crash, Cond.instanceMethod yX2_crash, Cond.selects RX2 yX2_crash yX2_crash, Cond.code yX2_crash cX2_crash 1 none, Cond.methodLink RX0 171 yX0_leaveAll, Cond.instanceMethod yX0_leaveAll, Cond.selects RX0 yX0_leaveAll yX0_leaveAll, Cond.code yX0_leaveAll cX0_leaveAll 4 (some .int)]
def wsX3_reaches : List Cond := .code yX3_reaches cX3_reaches 5 (some .int) :: ((wsX3_reaches_r1 ++ (wsX3_reaches_r2 ++ (wsX3_reaches_r3 ++ (wsX3_reaches_r4 ++ (wsX3_reaches_r5 ++ (wsX3_reaches_r6 ++ (wsX3_reaches_r7 ++ (wsX3_reaches_r8 ++ wsX3_reaches_r9)))))))) ++ wsX30 ++ wsX00 ++ wsX20 ++ wsX10 ++ (vx_atS RX3 224 "java/lang/IndexOutOfBoundsException" ["java/lang/RuntimeException", "java/lang/Exception"]).filter goodWord ++ (vx_atS RX3 231 "java/lang/IllegalArgumentException" ["java/lang/RuntimeException", "java/lang/Exception"]).filter goodWord)
def wsX3_closest_r1 : List Cond := [Cond.fieldLink RX3 10 "BrakeCurve" "line" "LBrakeCurve$Line;", Cond.fieldLink RX3 80 "BrakeCurve$Line" "trains" "[LBrakeCurve$Train;", Cond.fieldLink RX3 138 "BrakeCurve$Train" "left" "Z", Cond.fieldLink RX3 16 "BrakeCurve" "trial" "LBrakeCurve$Line;", Cond.constant RX3 175 (1000000), Cond.fieldLink RX3 176 "BrakeCurve$Train" "leastGap" "I", Cond.methodLink RX3 77 yX3_needTrain, Cond.instanceMethod yX3_needTrain, Cond.selects RX3 yX3_needTrain yX3_needTrain, Cond.initialized RX3, Cond.code yX3_needTrain cX3_needTrain 2 none, Cond.fieldLink RX3 67 "BrakeCurve$Line" "trainCount" "I", Cond.methodLink RX3 99 yX3_needIndex, Cond.static yX3_needIndex, Cond.code yX3_needIndex cX3_needIndex 2 none, Cond.classLink RX3 220 "java/lang/IndexOutOfBoundsException", Cond.initialized "java/lang/IndexOutOfBoundsException", Cond.methodLink RX3 23 yX3_isWithin, Cond.static yX3_isWithin, Cond.code yX3_isWithin cX3_isWithin 3 (some .boolean), Cond.methodLink RX3 27 yX3_need, Cond.static yX3_need, Cond.code yX3_need cX3_need 1 none, Cond.classLink RX3 227 "java/lang/IllegalArgumentException"]
def wsX3_closest_r2 : List Cond := [Cond.initialized "java/lang/IllegalArgumentException", Cond.methodLink RX3 122 yX0_aheadOf, Cond.instanceMethod yX0_aheadOf, Cond.selects RX0 yX0_aheadOf yX0_aheadOf, Cond.initialized RX0, Cond.code yX0_aheadOf cX0_aheadOf 3 (some .int), Cond.fieldLink RX0 20 "BrakeCurve$Line" "trains" "[LBrakeCurve$Train;", Cond.fieldLink RX0 65 "BrakeCurve$Train" "left" "Z", Cond.methodLink RX3 171 yX0_copyFrom, Cond.instanceMethod yX0_copyFrom, Cond.selects RX0 yX0_copyFrom yX0_copyFrom, Cond.code yX0_copyFrom cX0_copyFrom 3 none, Cond.fieldLink RX0 12 "BrakeCurve$Line" "track" "LBrakeCurve$Track;", Cond.fieldLink RX0 24 "BrakeCurve$Line" "trainCount" "I", Cond.fieldLink RX0 28 "BrakeCurve$Line" "now" "I", Cond.methodLink RX0 32 yX1_copyFrom, Cond.instanceMethod yX1_copyFrom, Cond.selects RX1 yX1_copyFrom yX1_copyFrom, Cond.initialized RX1, Cond.code yX1_copyFrom cX1_copyFrom 3 none, Cond.fieldLink RX1 9 "BrakeCurve$Track" "limits" "[I", Cond.fieldLink RX1 15 "BrakeCurve$Track" "grades" "[I", Cond.fieldLink RX1 18 "BrakeCurve$Track" "radios" "[Z", Cond.fieldLink RX1 22 "BrakeCurve$Track" "stationMetres" "[I"]
def wsX3_closest_r3 : List Cond := [Cond.fieldLink RX1 25 "BrakeCurve$Track" "dwells" "[I", Cond.fieldLink RX1 28 "BrakeCurve$Track" "stopCounts" "[I", Cond.fieldLink RX1 31 "BrakeCurve$Track" "stationCount" "I", Cond.fieldLink RX1 35 "BrakeCurve$Track" "worksFirst" "[I", Cond.fieldLink RX1 38 "BrakeCurve$Track" "worksLast" "[I", Cond.fieldLink RX1 41 "BrakeCurve$Track" "worksCount" "I", Cond.methodLink RX0 36 yX2_copyFrom, Cond.instanceMethod yX2_copyFrom, Cond.selects RX2 yX2_copyFrom yX2_copyFrom, Cond.initialized RX2, Cond.code yX2_copyFrom cX2_copyFrom 2 none, Cond.fieldLink RX2 9 "BrakeCurve$Train" "length" "I", Cond.fieldLink RX2 15 "BrakeCurve$Train" "brake" "I", Cond.fieldLink RX2 18 "BrakeCurve$Train" "pull" "I", Cond.fieldLink RX2 21 "BrakeCurve$Train" "whole" "Z", Cond.fieldLink RX2 25 "BrakeCurve$Train" "head" "I", Cond.fieldLink RX2 28 "BrakeCurve$Train" "speed" "I", Cond.fieldLink RX2 31 "BrakeCurve$Train" "authority" "I", Cond.fieldLink RX2 34 "BrakeCurve$Train" "dwellLeft" "I", Cond.fieldLink RX2 37 "BrakeCurve$Train" "stationsToCome" "I", Cond.fieldLink RX2 40 "BrakeCurve$Train" "left" "Z", Cond.fieldLink RX2 43 "BrakeCurve$Train" "crashed" "Z", Cond.fieldLink RX2 46 "BrakeCurve$Train" "knownHead" "I", Cond.fieldLink RX2 49 "BrakeCurve$Train" "knownRear" "I"]
def wsX3_closest_r4 : List Cond := [Cond.fieldLink RX2 52 "BrakeCurve$Train" "reportSecond" "I", Cond.fieldLink RX2 55 "BrakeCurve$Train" "brakedSeconds" "I", Cond.fieldLink RX2 58 "BrakeCurve$Train" "overrunSeconds" "I", Cond.fieldLink RX2 61 "BrakeCurve$Train" "missedStations" "I", Cond.fieldLink RX2 65 "BrakeCurve$Train" "leastGap" "I", Cond.methodLink RX3 107 yX0_goOn, Cond.instanceMethod yX0_goOn, Cond.selects RX0 yX0_goOn yX0_goOn, Cond.code yX0_goOn cX0_goOn 3 (some .int), Cond.fieldLink RX0 48 "BrakeCurve$Train" "head" "I", Cond.methodLink RX0 102 Lib.Math.max.name, Cond.static Lib.Math.max.name, Cond.initialized "java/lang/Math", Cond.code Lib.Math.max.name Lib.Math.max.code 2 (some .int), Cond.fieldLink RX0 51 "BrakeCurve$Train" "authority" "I", Cond.fieldLink RX0 73 "BrakeCurve$Train" "crashed" "Z", Cond.methodLink RX0 159 yX0_reportAll, Cond.instanceMethod yX0_reportAll, Cond.selects RX0 yX0_reportAll yX0_reportAll, Cond.code yX0_reportAll cX0_reportAll 3 none, Cond.methodLink RX0 162 yX0_hasRadio, Cond.instanceMethod yX0_hasRadio, Cond.selects RX0 yX0_hasRadio yX0_hasRadio, Cond.code yX0_hasRadio cX0_hasRadio 2 (some .boolean)]
def wsX3_closest_r5 : List Cond := [Cond.fieldLink RX0 174 "BrakeCurve$Track" "radios" "[Z", Cond.static yX3_sectionAt, Cond.code yX3_sectionAt cX3_sectionAt 1 (some .int), Cond.methodLink RX0 61 yX2_report, Cond.instanceMethod yX2_report, Cond.selects RX2 yX2_report yX2_report, Cond.code yX2_report cX2_report 2 none, Cond.methodLink RX2 72 yX2_rear, Cond.instanceMethod yX2_rear, Cond.selects RX2 yX2_rear yX2_rear, Cond.code yX2_rear cX2_rear 1 (some .int), Cond.methodLink RX0 153 yX0_leastBound, Cond.instanceMethod yX0_leastBound, Cond.selects RX0 yX0_leastBound yX0_leastBound, Cond.code yX0_leastBound cX0_leastBound 3 (some .int), Cond.methodLink RX0 114 Lib.Math.min.name, Cond.static Lib.Math.min.name, Cond.code Lib.Math.min.name Lib.Math.min.code 2 (some .int), Cond.methodLink RX0 144 yX0_boundByEnd, Cond.instanceMethod yX0_boundByEnd, Cond.selects RX0 yX0_boundByEnd yX0_boundByEnd, Cond.code yX0_boundByEnd cX0_boundByEnd 2 (some .int), Cond.fieldLink RX0 39 "BrakeCurve$Train" "length" "I", Cond.methodLink RX0 147 yX0_boundByAhead]
def wsX3_closest_r6 : List Cond := [Cond.instanceMethod yX0_boundByAhead, Cond.selects RX0 yX0_boundByAhead yX0_boundByAhead, Cond.code yX0_boundByAhead cX0_boundByAhead 4 (some .int), Cond.constant RX0 133 (1000000), Cond.fieldLink RX0 134 "BrakeCurve$Train" "knownRear" "I", Cond.methodLink RX0 130 yX0_aheadOf, Cond.methodLink RX0 137 yX0_isFresh, Cond.instanceMethod yX0_isFresh, Cond.selects RX0 yX0_isFresh yX0_isFresh, Cond.code yX0_isFresh cX0_isFresh 2 (some .boolean), Cond.fieldLink RX0 127 "BrakeCurve$Train" "reportSecond" "I", Cond.static yX3_firstMetreOf, Cond.code yX3_firstMetreOf cX3_firstMetreOf 1 (some .int), Cond.methodLink RX0 150 yX1_boundByWorks, Cond.instanceMethod yX1_boundByWorks, Cond.selects RX1 yX1_boundByWorks yX1_boundByWorks, Cond.code yX1_boundByWorks cX1_boundByWorks 5 (some .int), Cond.constant RX1 58 (1000000), Cond.methodLink RX1 48 Lib.Math.min.name, Cond.methodLink RX0 165 yX0_go, Cond.instanceMethod yX0_go, Cond.selects RX0 yX0_go yX0_go, Cond.code yX0_go cX0_go 3 none, Cond.fieldLink RX0 178 "BrakeCurve$Train" "dwellLeft" "I"]
def wsX3_closest_r7 : List Cond := [Cond.fieldLink RX0 80 "BrakeCurve$Train" "speed" "I", Cond.fieldLink RX0 45 "BrakeCurve$Train" "pull" "I", Cond.fieldLink RX0 83 "BrakeCurve$Train" "brakedSeconds" "I", Cond.methodLink RX0 181 yX0_allowedSpeed, Cond.instanceMethod yX0_allowedSpeed, Cond.selects RX0 yX0_allowedSpeed yX0_allowedSpeed, Cond.code yX0_allowedSpeed cX0_allowedSpeed 6 (some .int), Cond.fieldLink RX0 58 "BrakeCurve$Train" "stationsToCome" "I", Cond.fieldLink RX0 111 "BrakeCurve$Track" "stationMetres" "[I", Cond.methodLink RX0 108 yX1_nextStation, Cond.instanceMethod yX1_nextStation, Cond.selects RX1 yX1_nextStation yX1_nextStation, Cond.code yX1_nextStation cX1_nextStation 5 (some .int), Cond.methodLink RX0 117 yX0_holdOf, Cond.instanceMethod yX0_holdOf, Cond.selects RX0 yX0_holdOf yX0_holdOf, Cond.code yX0_holdOf cX0_holdOf 2 (some .int), Cond.fieldLink RX0 42 "BrakeCurve$Train" "brake" "I", Cond.fieldLink RX0 95 "BrakeCurve$Track" "grades" "[I", Cond.methodLink RX0 69 yX2_rear, Cond.methodLink RX0 121 yX1_leastLimit, Cond.instanceMethod yX1_leastLimit, Cond.selects RX1 yX1_leastLimit yX1_leastLimit, Cond.code yX1_leastLimit cX1_leastLimit 6 (some .int)]
def wsX3_closest_r8 : List Cond := [Cond.static yX3_stopMetres, Cond.code yX3_stopMetres cX3_stopMetres 3 (some .int), Cond.methodLink RX0 184 yX0_stopAtStation, Cond.instanceMethod yX0_stopAtStation, Cond.selects RX0 yX0_stopAtStation yX0_stopAtStation, Cond.code yX0_stopAtStation cX0_stopAtStation 3 none, Cond.fieldLink RX0 190 "BrakeCurve$Track" "dwells" "[I", Cond.fieldLink RX0 193 "BrakeCurve$Track" "stopCounts" "[I", Cond.methodLink RX0 187 yX0_missStations, Cond.instanceMethod yX0_missStations, Cond.selects RX0 yX0_missStations yX0_missStations, Cond.code yX0_missStations cX0_missStations 3 none, Cond.fieldLink RX0 89 "BrakeCurve$Train" "missedStations" "I", Cond.methodLink RX0 54 yX1_stationsFrom, Cond.instanceMethod yX1_stationsFrom, Cond.selects RX1 yX1_stationsFrom yX1_stationsFrom, Cond.code yX1_stationsFrom cX1_stationsFrom 4 (some .int), Cond.methodLink RX0 196 yJ6_bitCount_0f7a4, Cond.static yJ6_bitCount_0f7a4, Cond.initialized RJ6, Cond.code yJ6_bitCount_0f7a4 cJ6_bitCount_0f7a4 1 (some .int), Cond.constant RJ6 265 (1431655765), Cond.constant RJ6 266 (858993459), Cond.constant RJ6 267 (252645135)]
def wsX3_closest_r9 : List Cond := [Cond.methodLink RX0 168 yX0_look, Cond.instanceMethod yX0_look, Cond.selects RX0 yX0_look yX0_look, Cond.code yX0_look cX0_look 5 none, Cond.fieldLink RX0 86 "BrakeCurve$Train" "overrunSeconds" "I", Cond.fieldLink RX0 201 "BrakeCurve$Train" "leastGap" "I", Cond.methodLink RX0 204 yX2_crash, Cond.instanceMethod yX2_crash, Cond.selects RX2 yX2_crash yX2_crash, Cond.code yX2_crash cX2_crash 1 none, Cond.methodLink RX0 171 yX0_leaveAll, Cond.instanceMethod yX0_leaveAll, Cond.selects RX0 yX0_leaveAll yX0_leaveAll, Cond.code yX0_leaveAll cX0_leaveAll 4 (some .int), Cond.methodLink RX3 179 yX2_leastGapOrNone, Cond.instanceMethod yX2_leastGapOrNone, Cond.selects RX2 yX2_leastGapOrNone yX2_leastGapOrNone, Cond.code yX2_leastGapOrNone cX2_leastGapOrNone 1 (some .int), Cond.constant RX2 64 (1000000)]
def wsX3_closest : List Cond := .code yX3_closest cX3_closest 5 (some .int) :: ((wsX3_closest_r1 ++ (wsX3_closest_r2 ++ (wsX3_closest_r3 ++ (wsX3_closest_r4 ++ (wsX3_closest_r5 ++ (wsX3_closest_r6 ++ (wsX3_closest_r7 ++ (wsX3_closest_r8 ++ wsX3_closest_r9)))))))) ++ wsX30 ++ wsX00 ++ wsX20 ++ wsX10 ++ (vx_atS RX3 224 "java/lang/IndexOutOfBoundsException" ["java/lang/RuntimeException", "java/lang/Exception"]).filter goodWord ++ (vx_atS RX3 231 "java/lang/IllegalArgumentException" ["java/lang/RuntimeException", "java/lang/Exception"]).filter goodWord)
def wsX3_headAfterTrial_r1 : List Cond := [Cond.fieldLink RX3 16 "BrakeCurve" "trial" "LBrakeCurve$Line;", Cond.fieldLink RX3 80 "BrakeCurve$Line" "trains" "[LBrakeCurve$Train;", Cond.fieldLink RX3 168 "BrakeCurve$Train" "head" "I", Cond.methodLink RX3 107 yX0_goOn, Cond.instanceMethod yX0_goOn, Cond.selects RX0 yX0_goOn yX0_goOn, Cond.initialized RX0, Cond.code yX0_goOn cX0_goOn 3 (some .int), Cond.fieldLink RX0 28 "BrakeCurve$Line" "now" "I", Cond.fieldLink RX0 24 "BrakeCurve$Line" "trainCount" "I", Cond.fieldLink RX0 20 "BrakeCurve$Line" "trains" "[LBrakeCurve$Train;", Cond.fieldLink RX0 65 "BrakeCurve$Train" "left" "Z", Cond.fieldLink RX0 48 "BrakeCurve$Train" "head" "I", Cond.methodLink RX0 102 Lib.Math.max.name, Cond.static Lib.Math.max.name, Cond.initialized "java/lang/Math", Cond.code Lib.Math.max.name Lib.Math.max.code 2 (some .int), Cond.fieldLink RX0 51 "BrakeCurve$Train" "authority" "I", Cond.fieldLink RX0 73 "BrakeCurve$Train" "crashed" "Z", Cond.methodLink RX0 159 yX0_reportAll, Cond.instanceMethod yX0_reportAll, Cond.selects RX0 yX0_reportAll yX0_reportAll, Cond.code yX0_reportAll cX0_reportAll 3 none, Cond.methodLink RX0 162 yX0_hasRadio]
def wsX3_headAfterTrial_r2 : List Cond := [Cond.instanceMethod yX0_hasRadio, Cond.selects RX0 yX0_hasRadio yX0_hasRadio, Cond.code yX0_hasRadio cX0_hasRadio 2 (some .boolean), Cond.fieldLink RX0 12 "BrakeCurve$Line" "track" "LBrakeCurve$Track;", Cond.fieldLink RX0 174 "BrakeCurve$Track" "radios" "[Z", Cond.static yX3_sectionAt, Cond.initialized RX3, Cond.code yX3_sectionAt cX3_sectionAt 1 (some .int), Cond.methodLink RX0 61 yX2_report, Cond.instanceMethod yX2_report, Cond.selects RX2 yX2_report yX2_report, Cond.initialized RX2, Cond.code yX2_report cX2_report 2 none, Cond.fieldLink RX2 25 "BrakeCurve$Train" "head" "I", Cond.fieldLink RX2 46 "BrakeCurve$Train" "knownHead" "I", Cond.fieldLink RX2 21 "BrakeCurve$Train" "whole" "Z", Cond.fieldLink RX2 49 "BrakeCurve$Train" "knownRear" "I", Cond.fieldLink RX2 52 "BrakeCurve$Train" "reportSecond" "I", Cond.methodLink RX2 72 yX2_rear, Cond.instanceMethod yX2_rear, Cond.selects RX2 yX2_rear yX2_rear, Cond.code yX2_rear cX2_rear 1 (some .int), Cond.fieldLink RX2 9 "BrakeCurve$Train" "length" "I", Cond.methodLink RX0 153 yX0_leastBound]
def wsX3_headAfterTrial_r3 : List Cond := [Cond.instanceMethod yX0_leastBound, Cond.selects RX0 yX0_leastBound yX0_leastBound, Cond.code yX0_leastBound cX0_leastBound 3 (some .int), Cond.methodLink RX0 114 Lib.Math.min.name, Cond.static Lib.Math.min.name, Cond.code Lib.Math.min.name Lib.Math.min.code 2 (some .int), Cond.methodLink RX0 144 yX0_boundByEnd, Cond.instanceMethod yX0_boundByEnd, Cond.selects RX0 yX0_boundByEnd yX0_boundByEnd, Cond.code yX0_boundByEnd cX0_boundByEnd 2 (some .int), Cond.fieldLink RX0 39 "BrakeCurve$Train" "length" "I", Cond.methodLink RX0 147 yX0_boundByAhead, Cond.instanceMethod yX0_boundByAhead, Cond.selects RX0 yX0_boundByAhead yX0_boundByAhead, Cond.code yX0_boundByAhead cX0_boundByAhead 4 (some .int), Cond.constant RX0 133 (1000000), Cond.fieldLink RX0 134 "BrakeCurve$Train" "knownRear" "I", Cond.methodLink RX0 130 yX0_aheadOf, Cond.instanceMethod yX0_aheadOf, Cond.selects RX0 yX0_aheadOf yX0_aheadOf, Cond.code yX0_aheadOf cX0_aheadOf 3 (some .int), Cond.methodLink RX0 137 yX0_isFresh, Cond.instanceMethod yX0_isFresh, Cond.selects RX0 yX0_isFresh yX0_isFresh]
def wsX3_headAfterTrial_r4 : List Cond := [Cond.code yX0_isFresh cX0_isFresh 2 (some .boolean), Cond.fieldLink RX0 127 "BrakeCurve$Train" "reportSecond" "I", Cond.static yX3_firstMetreOf, Cond.code yX3_firstMetreOf cX3_firstMetreOf 1 (some .int), Cond.methodLink RX0 150 yX1_boundByWorks, Cond.instanceMethod yX1_boundByWorks, Cond.selects RX1 yX1_boundByWorks yX1_boundByWorks, Cond.initialized RX1, Cond.code yX1_boundByWorks cX1_boundByWorks 5 (some .int), Cond.constant RX1 58 (1000000), Cond.fieldLink RX1 41 "BrakeCurve$Track" "worksCount" "I", Cond.fieldLink RX1 35 "BrakeCurve$Track" "worksFirst" "[I", Cond.methodLink RX1 48 Lib.Math.min.name, Cond.methodLink RX0 165 yX0_go, Cond.instanceMethod yX0_go, Cond.selects RX0 yX0_go yX0_go, Cond.code yX0_go cX0_go 3 none, Cond.fieldLink RX0 178 "BrakeCurve$Train" "dwellLeft" "I", Cond.fieldLink RX0 80 "BrakeCurve$Train" "speed" "I", Cond.fieldLink RX0 45 "BrakeCurve$Train" "pull" "I", Cond.fieldLink RX0 83 "BrakeCurve$Train" "brakedSeconds" "I", Cond.methodLink RX0 181 yX0_allowedSpeed, Cond.instanceMethod yX0_allowedSpeed, Cond.selects RX0 yX0_allowedSpeed yX0_allowedSpeed]
def wsX3_headAfterTrial_r5 : List Cond := [Cond.code yX0_allowedSpeed cX0_allowedSpeed 6 (some .int), Cond.fieldLink RX0 58 "BrakeCurve$Train" "stationsToCome" "I", Cond.fieldLink RX0 111 "BrakeCurve$Track" "stationMetres" "[I", Cond.methodLink RX0 108 yX1_nextStation, Cond.instanceMethod yX1_nextStation, Cond.selects RX1 yX1_nextStation yX1_nextStation, Cond.code yX1_nextStation cX1_nextStation 5 (some .int), Cond.fieldLink RX1 31 "BrakeCurve$Track" "stationCount" "I", Cond.fieldLink RX1 22 "BrakeCurve$Track" "stationMetres" "[I", Cond.methodLink RX0 117 yX0_holdOf, Cond.instanceMethod yX0_holdOf, Cond.selects RX0 yX0_holdOf yX0_holdOf, Cond.code yX0_holdOf cX0_holdOf 2 (some .int), Cond.fieldLink RX0 42 "BrakeCurve$Train" "brake" "I", Cond.fieldLink RX0 95 "BrakeCurve$Track" "grades" "[I", Cond.methodLink RX0 69 yX2_rear, Cond.methodLink RX0 121 yX1_leastLimit, Cond.instanceMethod yX1_leastLimit, Cond.selects RX1 yX1_leastLimit yX1_leastLimit, Cond.code yX1_leastLimit cX1_leastLimit 6 (some .int), Cond.fieldLink RX1 9 "BrakeCurve$Track" "limits" "[I", Cond.static yX3_stopMetres, Cond.code yX3_stopMetres cX3_stopMetres 3 (some .int), Cond.methodLink RX0 184 yX0_stopAtStation]
def wsX3_headAfterTrial_r6 : List Cond := [Cond.instanceMethod yX0_stopAtStation, Cond.selects RX0 yX0_stopAtStation yX0_stopAtStation, Cond.code yX0_stopAtStation cX0_stopAtStation 3 none, Cond.fieldLink RX0 190 "BrakeCurve$Track" "dwells" "[I", Cond.fieldLink RX0 193 "BrakeCurve$Track" "stopCounts" "[I", Cond.methodLink RX0 187 yX0_missStations, Cond.instanceMethod yX0_missStations, Cond.selects RX0 yX0_missStations yX0_missStations, Cond.code yX0_missStations cX0_missStations 3 none, Cond.fieldLink RX0 89 "BrakeCurve$Train" "missedStations" "I", Cond.methodLink RX0 54 yX1_stationsFrom, Cond.instanceMethod yX1_stationsFrom, Cond.selects RX1 yX1_stationsFrom yX1_stationsFrom, Cond.code yX1_stationsFrom cX1_stationsFrom 4 (some .int), Cond.methodLink RX0 196 yJ6_bitCount_0f7a4, Cond.static yJ6_bitCount_0f7a4, Cond.initialized RJ6, Cond.code yJ6_bitCount_0f7a4 cJ6_bitCount_0f7a4 1 (some .int), Cond.constant RJ6 265 (1431655765), Cond.constant RJ6 266 (858993459), Cond.constant RJ6 267 (252645135), Cond.methodLink RX0 168 yX0_look, Cond.instanceMethod yX0_look, Cond.selects RX0 yX0_look yX0_look]
def wsX3_headAfterTrial_r7 : List Cond := [Cond.code yX0_look cX0_look 5 none, Cond.fieldLink RX0 86 "BrakeCurve$Train" "overrunSeconds" "I", Cond.fieldLink RX0 201 "BrakeCurve$Train" "leastGap" "I", Cond.methodLink RX0 204 yX2_crash, Cond.instanceMethod yX2_crash, Cond.selects RX2 yX2_crash yX2_crash, Cond.code yX2_crash cX2_crash 1 none, Cond.fieldLink RX2 43 "BrakeCurve$Train" "crashed" "Z", Cond.fieldLink RX2 28 "BrakeCurve$Train" "speed" "I", Cond.methodLink RX0 171 yX0_leaveAll, Cond.instanceMethod yX0_leaveAll, Cond.selects RX0 yX0_leaveAll yX0_leaveAll, Cond.code yX0_leaveAll cX0_leaveAll 4 (some .int)]
def wsX3_headAfterTrial : List Cond := .code yX3_headAfterTrial cX3_headAfterTrial 4 (some .int) :: ((wsX3_headAfterTrial_r1 ++ (wsX3_headAfterTrial_r2 ++ (wsX3_headAfterTrial_r3 ++ (wsX3_headAfterTrial_r4 ++ (wsX3_headAfterTrial_r5 ++ (wsX3_headAfterTrial_r6 ++ wsX3_headAfterTrial_r7)))))) ++ wsX30 ++ wsX00 ++ wsX20 ++ wsX10)
def wsX3_lost_r1 : List Cond := [Cond.fieldLink RX3 16 "BrakeCurve" "trial" "LBrakeCurve$Line;", Cond.fieldLink RX3 10 "BrakeCurve" "line" "LBrakeCurve$Line;", Cond.fieldLink RX3 31 "BrakeCurve$Line" "track" "LBrakeCurve$Track;", Cond.fieldLink RX3 35 "BrakeCurve$Track" "limits" "[I", Cond.methodLink RX3 77 yX3_needTrain, Cond.instanceMethod yX3_needTrain, Cond.selects RX3 yX3_needTrain yX3_needTrain, Cond.initialized RX3, Cond.code yX3_needTrain cX3_needTrain 2 none, Cond.fieldLink RX3 67 "BrakeCurve$Line" "trainCount" "I", Cond.methodLink RX3 99 yX3_needIndex, Cond.static yX3_needIndex, Cond.code yX3_needIndex cX3_needIndex 2 none, Cond.classLink RX3 220 "java/lang/IndexOutOfBoundsException", Cond.initialized "java/lang/IndexOutOfBoundsException", Cond.methodLink RX3 19 yX3_needSection, Cond.static yX3_needSection, Cond.code yX3_needSection cX3_needSection 1 none, Cond.methodLink RX3 23 yX3_isWithin, Cond.static yX3_isWithin, Cond.code yX3_isWithin cX3_isWithin 3 (some .boolean), Cond.methodLink RX3 27 yX3_need, Cond.static yX3_need, Cond.code yX3_need cX3_need 1 none]
def wsX3_lost_r2 : List Cond := [Cond.classLink RX3 227 "java/lang/IllegalArgumentException", Cond.initialized "java/lang/IllegalArgumentException", Cond.methodLink RX3 171 yX0_copyFrom, Cond.instanceMethod yX0_copyFrom, Cond.selects RX0 yX0_copyFrom yX0_copyFrom, Cond.initialized RX0, Cond.code yX0_copyFrom cX0_copyFrom 3 none, Cond.fieldLink RX0 12 "BrakeCurve$Line" "track" "LBrakeCurve$Track;", Cond.fieldLink RX0 20 "BrakeCurve$Line" "trains" "[LBrakeCurve$Train;", Cond.fieldLink RX0 24 "BrakeCurve$Line" "trainCount" "I", Cond.fieldLink RX0 28 "BrakeCurve$Line" "now" "I", Cond.methodLink RX0 32 yX1_copyFrom, Cond.instanceMethod yX1_copyFrom, Cond.selects RX1 yX1_copyFrom yX1_copyFrom, Cond.initialized RX1, Cond.code yX1_copyFrom cX1_copyFrom 3 none, Cond.fieldLink RX1 9 "BrakeCurve$Track" "limits" "[I", Cond.fieldLink RX1 15 "BrakeCurve$Track" "grades" "[I", Cond.fieldLink RX1 18 "BrakeCurve$Track" "radios" "[Z", Cond.fieldLink RX1 22 "BrakeCurve$Track" "stationMetres" "[I", Cond.fieldLink RX1 25 "BrakeCurve$Track" "dwells" "[I", Cond.fieldLink RX1 28 "BrakeCurve$Track" "stopCounts" "[I", Cond.fieldLink RX1 31 "BrakeCurve$Track" "stationCount" "I", Cond.fieldLink RX1 35 "BrakeCurve$Track" "worksFirst" "[I"]
def wsX3_lost_r3 : List Cond := [Cond.fieldLink RX1 38 "BrakeCurve$Track" "worksLast" "[I", Cond.fieldLink RX1 41 "BrakeCurve$Track" "worksCount" "I", Cond.methodLink RX0 36 yX2_copyFrom, Cond.instanceMethod yX2_copyFrom, Cond.selects RX2 yX2_copyFrom yX2_copyFrom, Cond.initialized RX2, Cond.code yX2_copyFrom cX2_copyFrom 2 none, Cond.fieldLink RX2 9 "BrakeCurve$Train" "length" "I", Cond.fieldLink RX2 15 "BrakeCurve$Train" "brake" "I", Cond.fieldLink RX2 18 "BrakeCurve$Train" "pull" "I", Cond.fieldLink RX2 21 "BrakeCurve$Train" "whole" "Z", Cond.fieldLink RX2 25 "BrakeCurve$Train" "head" "I", Cond.fieldLink RX2 28 "BrakeCurve$Train" "speed" "I", Cond.fieldLink RX2 31 "BrakeCurve$Train" "authority" "I", Cond.fieldLink RX2 34 "BrakeCurve$Train" "dwellLeft" "I", Cond.fieldLink RX2 37 "BrakeCurve$Train" "stationsToCome" "I", Cond.fieldLink RX2 40 "BrakeCurve$Train" "left" "Z", Cond.fieldLink RX2 43 "BrakeCurve$Train" "crashed" "Z", Cond.fieldLink RX2 46 "BrakeCurve$Train" "knownHead" "I", Cond.fieldLink RX2 49 "BrakeCurve$Train" "knownRear" "I", Cond.fieldLink RX2 52 "BrakeCurve$Train" "reportSecond" "I", Cond.fieldLink RX2 55 "BrakeCurve$Train" "brakedSeconds" "I", Cond.fieldLink RX2 58 "BrakeCurve$Train" "overrunSeconds" "I", Cond.fieldLink RX2 61 "BrakeCurve$Train" "missedStations" "I"]
def wsX3_lost_r4 : List Cond := [Cond.fieldLink RX2 65 "BrakeCurve$Train" "leastGap" "I", Cond.methodLink RX3 182 yX3_headAfterTrial, Cond.instanceMethod yX3_headAfterTrial, Cond.selects RX3 yX3_headAfterTrial yX3_headAfterTrial, Cond.code yX3_headAfterTrial cX3_headAfterTrial 4 (some .int), Cond.fieldLink RX3 80 "BrakeCurve$Line" "trains" "[LBrakeCurve$Train;", Cond.fieldLink RX3 168 "BrakeCurve$Train" "head" "I", Cond.methodLink RX3 107 yX0_goOn, Cond.instanceMethod yX0_goOn, Cond.selects RX0 yX0_goOn yX0_goOn, Cond.code yX0_goOn cX0_goOn 3 (some .int), Cond.fieldLink RX0 65 "BrakeCurve$Train" "left" "Z", Cond.fieldLink RX0 48 "BrakeCurve$Train" "head" "I", Cond.methodLink RX0 102 Lib.Math.max.name, Cond.static Lib.Math.max.name, Cond.initialized "java/lang/Math", Cond.code Lib.Math.max.name Lib.Math.max.code 2 (some .int), Cond.fieldLink RX0 51 "BrakeCurve$Train" "authority" "I", Cond.fieldLink RX0 73 "BrakeCurve$Train" "crashed" "Z", Cond.methodLink RX0 159 yX0_reportAll, Cond.instanceMethod yX0_reportAll, Cond.selects RX0 yX0_reportAll yX0_reportAll, Cond.code yX0_reportAll cX0_reportAll 3 none, Cond.methodLink RX0 162 yX0_hasRadio]
def wsX3_lost_r5 : List Cond := [Cond.instanceMethod yX0_hasRadio, Cond.selects RX0 yX0_hasRadio yX0_hasRadio, Cond.code yX0_hasRadio cX0_hasRadio 2 (some .boolean), Cond.fieldLink RX0 174 "BrakeCurve$Track" "radios" "[Z", Cond.static yX3_sectionAt, Cond.code yX3_sectionAt cX3_sectionAt 1 (some .int), Cond.methodLink RX0 61 yX2_report, Cond.instanceMethod yX2_report, Cond.selects RX2 yX2_report yX2_report, Cond.code yX2_report cX2_report 2 none, Cond.methodLink RX2 72 yX2_rear, Cond.instanceMethod yX2_rear, Cond.selects RX2 yX2_rear yX2_rear, Cond.code yX2_rear cX2_rear 1 (some .int), Cond.methodLink RX0 153 yX0_leastBound, Cond.instanceMethod yX0_leastBound, Cond.selects RX0 yX0_leastBound yX0_leastBound, Cond.code yX0_leastBound cX0_leastBound 3 (some .int), Cond.methodLink RX0 114 Lib.Math.min.name, Cond.static Lib.Math.min.name, Cond.code Lib.Math.min.name Lib.Math.min.code 2 (some .int), Cond.methodLink RX0 144 yX0_boundByEnd, Cond.instanceMethod yX0_boundByEnd, Cond.selects RX0 yX0_boundByEnd yX0_boundByEnd]
def wsX3_lost_r6 : List Cond := [Cond.code yX0_boundByEnd cX0_boundByEnd 2 (some .int), Cond.fieldLink RX0 39 "BrakeCurve$Train" "length" "I", Cond.methodLink RX0 147 yX0_boundByAhead, Cond.instanceMethod yX0_boundByAhead, Cond.selects RX0 yX0_boundByAhead yX0_boundByAhead, Cond.code yX0_boundByAhead cX0_boundByAhead 4 (some .int), Cond.constant RX0 133 (1000000), Cond.fieldLink RX0 134 "BrakeCurve$Train" "knownRear" "I", Cond.methodLink RX0 130 yX0_aheadOf, Cond.instanceMethod yX0_aheadOf, Cond.selects RX0 yX0_aheadOf yX0_aheadOf, Cond.code yX0_aheadOf cX0_aheadOf 3 (some .int), Cond.methodLink RX0 137 yX0_isFresh, Cond.instanceMethod yX0_isFresh, Cond.selects RX0 yX0_isFresh yX0_isFresh, Cond.code yX0_isFresh cX0_isFresh 2 (some .boolean), Cond.fieldLink RX0 127 "BrakeCurve$Train" "reportSecond" "I", Cond.static yX3_firstMetreOf, Cond.code yX3_firstMetreOf cX3_firstMetreOf 1 (some .int), Cond.methodLink RX0 150 yX1_boundByWorks, Cond.instanceMethod yX1_boundByWorks, Cond.selects RX1 yX1_boundByWorks yX1_boundByWorks, Cond.code yX1_boundByWorks cX1_boundByWorks 5 (some .int), Cond.constant RX1 58 (1000000)]
def wsX3_lost_r7 : List Cond := [Cond.methodLink RX1 48 Lib.Math.min.name, Cond.methodLink RX0 165 yX0_go, Cond.instanceMethod yX0_go, Cond.selects RX0 yX0_go yX0_go, Cond.code yX0_go cX0_go 3 none, Cond.fieldLink RX0 178 "BrakeCurve$Train" "dwellLeft" "I", Cond.fieldLink RX0 80 "BrakeCurve$Train" "speed" "I", Cond.fieldLink RX0 45 "BrakeCurve$Train" "pull" "I", Cond.fieldLink RX0 83 "BrakeCurve$Train" "brakedSeconds" "I", Cond.methodLink RX0 181 yX0_allowedSpeed, Cond.instanceMethod yX0_allowedSpeed, Cond.selects RX0 yX0_allowedSpeed yX0_allowedSpeed, Cond.code yX0_allowedSpeed cX0_allowedSpeed 6 (some .int), Cond.fieldLink RX0 58 "BrakeCurve$Train" "stationsToCome" "I", Cond.fieldLink RX0 111 "BrakeCurve$Track" "stationMetres" "[I", Cond.methodLink RX0 108 yX1_nextStation, Cond.instanceMethod yX1_nextStation, Cond.selects RX1 yX1_nextStation yX1_nextStation, Cond.code yX1_nextStation cX1_nextStation 5 (some .int), Cond.methodLink RX0 117 yX0_holdOf, Cond.instanceMethod yX0_holdOf, Cond.selects RX0 yX0_holdOf yX0_holdOf, Cond.code yX0_holdOf cX0_holdOf 2 (some .int), Cond.fieldLink RX0 42 "BrakeCurve$Train" "brake" "I"]
def wsX3_lost_r8 : List Cond := [Cond.fieldLink RX0 95 "BrakeCurve$Track" "grades" "[I", Cond.methodLink RX0 69 yX2_rear, Cond.methodLink RX0 121 yX1_leastLimit, Cond.instanceMethod yX1_leastLimit, Cond.selects RX1 yX1_leastLimit yX1_leastLimit, Cond.code yX1_leastLimit cX1_leastLimit 6 (some .int), Cond.static yX3_stopMetres, Cond.code yX3_stopMetres cX3_stopMetres 3 (some .int), Cond.methodLink RX0 184 yX0_stopAtStation, Cond.instanceMethod yX0_stopAtStation, Cond.selects RX0 yX0_stopAtStation yX0_stopAtStation, Cond.code yX0_stopAtStation cX0_stopAtStation 3 none, Cond.fieldLink RX0 190 "BrakeCurve$Track" "dwells" "[I", Cond.fieldLink RX0 193 "BrakeCurve$Track" "stopCounts" "[I", Cond.methodLink RX0 187 yX0_missStations, Cond.instanceMethod yX0_missStations, Cond.selects RX0 yX0_missStations yX0_missStations, Cond.code yX0_missStations cX0_missStations 3 none, Cond.fieldLink RX0 89 "BrakeCurve$Train" "missedStations" "I", Cond.methodLink RX0 54 yX1_stationsFrom, Cond.instanceMethod yX1_stationsFrom, Cond.selects RX1 yX1_stationsFrom yX1_stationsFrom, Cond.code yX1_stationsFrom cX1_stationsFrom 4 (some .int), Cond.methodLink RX0 196 yJ6_bitCount_0f7a4]
def wsX3_lost_r9 : List Cond := [Cond.static yJ6_bitCount_0f7a4, Cond.initialized RJ6, Cond.code yJ6_bitCount_0f7a4 cJ6_bitCount_0f7a4 1 (some .int), Cond.constant RJ6 265 (1431655765), Cond.constant RJ6 266 (858993459), Cond.constant RJ6 267 (252645135), Cond.methodLink RX0 168 yX0_look, Cond.instanceMethod yX0_look, Cond.selects RX0 yX0_look yX0_look, Cond.code yX0_look cX0_look 5 none, Cond.fieldLink RX0 86 "BrakeCurve$Train" "overrunSeconds" "I", Cond.fieldLink RX0 201 "BrakeCurve$Train" "leastGap" "I", Cond.methodLink RX0 204 yX2_crash, Cond.instanceMethod yX2_crash, Cond.selects RX2 yX2_crash yX2_crash, Cond.code yX2_crash cX2_crash 1 none, Cond.methodLink RX0 171 yX0_leaveAll, Cond.instanceMethod yX0_leaveAll, Cond.selects RX0 yX0_leaveAll yX0_leaveAll, Cond.code yX0_leaveAll cX0_leaveAll 4 (some .int)]
def wsX3_lost : List Cond := .code yX3_lost cX3_lost 6 (some .int) :: ((wsX3_lost_r1 ++ (wsX3_lost_r2 ++ (wsX3_lost_r3 ++ (wsX3_lost_r4 ++ (wsX3_lost_r5 ++ (wsX3_lost_r6 ++ (wsX3_lost_r7 ++ (wsX3_lost_r8 ++ wsX3_lost_r9)))))))) ++ wsX30 ++ wsX00 ++ wsX10 ++ wsX20 ++ (vx_atS RX3 224 "java/lang/IndexOutOfBoundsException" ["java/lang/RuntimeException", "java/lang/Exception"]).filter goodWord ++ (vx_atS RX3 231 "java/lang/IllegalArgumentException" ["java/lang/RuntimeException", "java/lang/Exception"]).filter goodWord)
def wsX3_worksIn_r1 : List Cond := [Cond.fieldLink RX3 16 "BrakeCurve" "trial" "LBrakeCurve$Line;", Cond.fieldLink RX3 10 "BrakeCurve" "line" "LBrakeCurve$Line;", Cond.methodLink RX3 19 yX3_needSection, Cond.static yX3_needSection, Cond.initialized RX3, Cond.code yX3_needSection cX3_needSection 1 none, Cond.methodLink RX3 99 yX3_needIndex, Cond.static yX3_needIndex, Cond.code yX3_needIndex cX3_needIndex 2 none, Cond.classLink RX3 220 "java/lang/IndexOutOfBoundsException", Cond.initialized "java/lang/IndexOutOfBoundsException", Cond.methodLink RX3 23 yX3_isWithin, Cond.static yX3_isWithin, Cond.code yX3_isWithin cX3_isWithin 3 (some .boolean), Cond.methodLink RX3 27 yX3_need, Cond.static yX3_need, Cond.code yX3_need cX3_need 1 none, Cond.classLink RX3 227 "java/lang/IllegalArgumentException", Cond.initialized "java/lang/IllegalArgumentException", Cond.methodLink RX3 171 yX0_copyFrom, Cond.instanceMethod yX0_copyFrom, Cond.selects RX0 yX0_copyFrom yX0_copyFrom, Cond.initialized RX0, Cond.code yX0_copyFrom cX0_copyFrom 3 none]
def wsX3_worksIn_r2 : List Cond := [Cond.fieldLink RX0 12 "BrakeCurve$Line" "track" "LBrakeCurve$Track;", Cond.fieldLink RX0 20 "BrakeCurve$Line" "trains" "[LBrakeCurve$Train;", Cond.fieldLink RX0 24 "BrakeCurve$Line" "trainCount" "I", Cond.fieldLink RX0 28 "BrakeCurve$Line" "now" "I", Cond.methodLink RX0 32 yX1_copyFrom, Cond.instanceMethod yX1_copyFrom, Cond.selects RX1 yX1_copyFrom yX1_copyFrom, Cond.initialized RX1, Cond.code yX1_copyFrom cX1_copyFrom 3 none, Cond.fieldLink RX1 9 "BrakeCurve$Track" "limits" "[I", Cond.fieldLink RX1 15 "BrakeCurve$Track" "grades" "[I", Cond.fieldLink RX1 18 "BrakeCurve$Track" "radios" "[Z", Cond.fieldLink RX1 22 "BrakeCurve$Track" "stationMetres" "[I", Cond.fieldLink RX1 25 "BrakeCurve$Track" "dwells" "[I", Cond.fieldLink RX1 28 "BrakeCurve$Track" "stopCounts" "[I", Cond.fieldLink RX1 31 "BrakeCurve$Track" "stationCount" "I", Cond.fieldLink RX1 35 "BrakeCurve$Track" "worksFirst" "[I", Cond.fieldLink RX1 38 "BrakeCurve$Track" "worksLast" "[I", Cond.fieldLink RX1 41 "BrakeCurve$Track" "worksCount" "I", Cond.methodLink RX0 36 yX2_copyFrom, Cond.instanceMethod yX2_copyFrom, Cond.selects RX2 yX2_copyFrom yX2_copyFrom, Cond.initialized RX2, Cond.code yX2_copyFrom cX2_copyFrom 2 none]
def wsX3_worksIn_r3 : List Cond := [Cond.fieldLink RX2 9 "BrakeCurve$Train" "length" "I", Cond.fieldLink RX2 15 "BrakeCurve$Train" "brake" "I", Cond.fieldLink RX2 18 "BrakeCurve$Train" "pull" "I", Cond.fieldLink RX2 21 "BrakeCurve$Train" "whole" "Z", Cond.fieldLink RX2 25 "BrakeCurve$Train" "head" "I", Cond.fieldLink RX2 28 "BrakeCurve$Train" "speed" "I", Cond.fieldLink RX2 31 "BrakeCurve$Train" "authority" "I", Cond.fieldLink RX2 34 "BrakeCurve$Train" "dwellLeft" "I", Cond.fieldLink RX2 37 "BrakeCurve$Train" "stationsToCome" "I", Cond.fieldLink RX2 40 "BrakeCurve$Train" "left" "Z", Cond.fieldLink RX2 43 "BrakeCurve$Train" "crashed" "Z", Cond.fieldLink RX2 46 "BrakeCurve$Train" "knownHead" "I", Cond.fieldLink RX2 49 "BrakeCurve$Train" "knownRear" "I", Cond.fieldLink RX2 52 "BrakeCurve$Train" "reportSecond" "I", Cond.fieldLink RX2 55 "BrakeCurve$Train" "brakedSeconds" "I", Cond.fieldLink RX2 58 "BrakeCurve$Train" "overrunSeconds" "I", Cond.fieldLink RX2 61 "BrakeCurve$Train" "missedStations" "I", Cond.fieldLink RX2 65 "BrakeCurve$Train" "leastGap" "I", Cond.methodLink RX3 93 yX0_hindranceOfWorks, Cond.instanceMethod yX0_hindranceOfWorks, Cond.selects RX0 yX0_hindranceOfWorks yX0_hindranceOfWorks, Cond.code yX0_hindranceOfWorks cX0_hindranceOfWorks 6 (some .int), Cond.fieldLink RX0 65 "BrakeCurve$Train" "left" "Z", Cond.fieldLink RX0 48 "BrakeCurve$Train" "head" "I"]
def wsX3_worksIn_r4 : List Cond := [Cond.fieldLink RX0 51 "BrakeCurve$Train" "authority" "I", Cond.methodLink RX0 156 yX0_countOn, Cond.instanceMethod yX0_countOn, Cond.selects RX0 yX0_countOn yX0_countOn, Cond.code yX0_countOn cX0_countOn 6 (some .int), Cond.methodLink RX0 76 yX2_isOn, Cond.instanceMethod yX2_isOn, Cond.selects RX2 yX2_isOn yX2_isOn, Cond.code yX2_isOn cX2_isOn 3 (some .boolean), Cond.static yX3_sectionAt, Cond.code yX3_sectionAt cX3_sectionAt 1 (some .int), Cond.methodLink RX2 72 yX2_rear, Cond.instanceMethod yX2_rear, Cond.selects RX2 yX2_rear yX2_rear, Cond.code yX2_rear cX2_rear 1 (some .int), Cond.static yX3_firstMetreOf, Cond.code yX3_firstMetreOf cX3_firstMetreOf 1 (some .int), Cond.methodLink RX3 107 yX0_goOn, Cond.instanceMethod yX0_goOn, Cond.selects RX0 yX0_goOn yX0_goOn, Cond.code yX0_goOn cX0_goOn 3 (some .int), Cond.methodLink RX0 102 Lib.Math.max.name, Cond.static Lib.Math.max.name, Cond.initialized "java/lang/Math"]
def wsX3_worksIn_r5 : List Cond := [Cond.code Lib.Math.max.name Lib.Math.max.code 2 (some .int), Cond.fieldLink RX0 73 "BrakeCurve$Train" "crashed" "Z", Cond.methodLink RX0 159 yX0_reportAll, Cond.instanceMethod yX0_reportAll, Cond.selects RX0 yX0_reportAll yX0_reportAll, Cond.code yX0_reportAll cX0_reportAll 3 none, Cond.methodLink RX0 162 yX0_hasRadio, Cond.instanceMethod yX0_hasRadio, Cond.selects RX0 yX0_hasRadio yX0_hasRadio, Cond.code yX0_hasRadio cX0_hasRadio 2 (some .boolean), Cond.fieldLink RX0 174 "BrakeCurve$Track" "radios" "[Z", Cond.methodLink RX0 61 yX2_report, Cond.instanceMethod yX2_report, Cond.selects RX2 yX2_report yX2_report, Cond.code yX2_report cX2_report 2 none, Cond.methodLink RX0 153 yX0_leastBound, Cond.instanceMethod yX0_leastBound, Cond.selects RX0 yX0_leastBound yX0_leastBound, Cond.code yX0_leastBound cX0_leastBound 3 (some .int), Cond.methodLink RX0 114 Lib.Math.min.name, Cond.static Lib.Math.min.name, Cond.code Lib.Math.min.name Lib.Math.min.code 2 (some .int), Cond.methodLink RX0 144 yX0_boundByEnd, Cond.instanceMethod yX0_boundByEnd]
def wsX3_worksIn_r6 : List Cond := [Cond.selects RX0 yX0_boundByEnd yX0_boundByEnd, Cond.code yX0_boundByEnd cX0_boundByEnd 2 (some .int), Cond.fieldLink RX0 39 "BrakeCurve$Train" "length" "I", Cond.methodLink RX0 147 yX0_boundByAhead, Cond.instanceMethod yX0_boundByAhead, Cond.selects RX0 yX0_boundByAhead yX0_boundByAhead, Cond.code yX0_boundByAhead cX0_boundByAhead 4 (some .int), Cond.constant RX0 133 (1000000), Cond.fieldLink RX0 134 "BrakeCurve$Train" "knownRear" "I", Cond.methodLink RX0 130 yX0_aheadOf, Cond.instanceMethod yX0_aheadOf, Cond.selects RX0 yX0_aheadOf yX0_aheadOf, Cond.code yX0_aheadOf cX0_aheadOf 3 (some .int), Cond.methodLink RX0 137 yX0_isFresh, Cond.instanceMethod yX0_isFresh, Cond.selects RX0 yX0_isFresh yX0_isFresh, Cond.code yX0_isFresh cX0_isFresh 2 (some .boolean), Cond.fieldLink RX0 127 "BrakeCurve$Train" "reportSecond" "I", Cond.methodLink RX0 150 yX1_boundByWorks, Cond.instanceMethod yX1_boundByWorks, Cond.selects RX1 yX1_boundByWorks yX1_boundByWorks, Cond.code yX1_boundByWorks cX1_boundByWorks 5 (some .int), Cond.constant RX1 58 (1000000), Cond.methodLink RX1 48 Lib.Math.min.name]
def wsX3_worksIn_r7 : List Cond := [Cond.methodLink RX0 165 yX0_go, Cond.instanceMethod yX0_go, Cond.selects RX0 yX0_go yX0_go, Cond.code yX0_go cX0_go 3 none, Cond.fieldLink RX0 178 "BrakeCurve$Train" "dwellLeft" "I", Cond.fieldLink RX0 80 "BrakeCurve$Train" "speed" "I", Cond.fieldLink RX0 45 "BrakeCurve$Train" "pull" "I", Cond.fieldLink RX0 83 "BrakeCurve$Train" "brakedSeconds" "I", Cond.methodLink RX0 181 yX0_allowedSpeed, Cond.instanceMethod yX0_allowedSpeed, Cond.selects RX0 yX0_allowedSpeed yX0_allowedSpeed, Cond.code yX0_allowedSpeed cX0_allowedSpeed 6 (some .int), Cond.fieldLink RX0 58 "BrakeCurve$Train" "stationsToCome" "I", Cond.fieldLink RX0 111 "BrakeCurve$Track" "stationMetres" "[I", Cond.methodLink RX0 108 yX1_nextStation, Cond.instanceMethod yX1_nextStation, Cond.selects RX1 yX1_nextStation yX1_nextStation, Cond.code yX1_nextStation cX1_nextStation 5 (some .int), Cond.methodLink RX0 117 yX0_holdOf, Cond.instanceMethod yX0_holdOf, Cond.selects RX0 yX0_holdOf yX0_holdOf, Cond.code yX0_holdOf cX0_holdOf 2 (some .int), Cond.fieldLink RX0 42 "BrakeCurve$Train" "brake" "I", Cond.fieldLink RX0 95 "BrakeCurve$Track" "grades" "[I"]
def wsX3_worksIn_r8 : List Cond := [Cond.methodLink RX0 69 yX2_rear, Cond.methodLink RX0 121 yX1_leastLimit, Cond.instanceMethod yX1_leastLimit, Cond.selects RX1 yX1_leastLimit yX1_leastLimit, Cond.code yX1_leastLimit cX1_leastLimit 6 (some .int), Cond.static yX3_stopMetres, Cond.code yX3_stopMetres cX3_stopMetres 3 (some .int), Cond.methodLink RX0 184 yX0_stopAtStation, Cond.instanceMethod yX0_stopAtStation, Cond.selects RX0 yX0_stopAtStation yX0_stopAtStation, Cond.code yX0_stopAtStation cX0_stopAtStation 3 none, Cond.fieldLink RX0 190 "BrakeCurve$Track" "dwells" "[I", Cond.fieldLink RX0 193 "BrakeCurve$Track" "stopCounts" "[I", Cond.methodLink RX0 187 yX0_missStations, Cond.instanceMethod yX0_missStations, Cond.selects RX0 yX0_missStations yX0_missStations, Cond.code yX0_missStations cX0_missStations 3 none, Cond.fieldLink RX0 89 "BrakeCurve$Train" "missedStations" "I", Cond.methodLink RX0 54 yX1_stationsFrom, Cond.instanceMethod yX1_stationsFrom, Cond.selects RX1 yX1_stationsFrom yX1_stationsFrom, Cond.code yX1_stationsFrom cX1_stationsFrom 4 (some .int), Cond.methodLink RX0 196 yJ6_bitCount_0f7a4, Cond.static yJ6_bitCount_0f7a4]
def wsX3_worksIn_r9 : List Cond := [Cond.initialized RJ6, Cond.code yJ6_bitCount_0f7a4 cJ6_bitCount_0f7a4 1 (some .int), Cond.constant RJ6 265 (1431655765), Cond.constant RJ6 266 (858993459), Cond.constant RJ6 267 (252645135), Cond.methodLink RX0 168 yX0_look, Cond.instanceMethod yX0_look, Cond.selects RX0 yX0_look yX0_look, Cond.code yX0_look cX0_look 5 none, Cond.fieldLink RX0 86 "BrakeCurve$Train" "overrunSeconds" "I", Cond.fieldLink RX0 201 "BrakeCurve$Train" "leastGap" "I", Cond.methodLink RX0 204 yX2_crash, Cond.instanceMethod yX2_crash, Cond.selects RX2 yX2_crash yX2_crash, Cond.code yX2_crash cX2_crash 1 none, Cond.methodLink RX0 171 yX0_leaveAll, Cond.instanceMethod yX0_leaveAll, Cond.selects RX0 yX0_leaveAll yX0_leaveAll, Cond.code yX0_leaveAll cX0_leaveAll 4 (some .int)]
def wsX3_worksIn : List Cond := .code yX3_worksIn cX3_worksIn 5 (some .int) :: ((wsX3_worksIn_r1 ++ (wsX3_worksIn_r2 ++ (wsX3_worksIn_r3 ++ (wsX3_worksIn_r4 ++ (wsX3_worksIn_r5 ++ (wsX3_worksIn_r6 ++ (wsX3_worksIn_r7 ++ (wsX3_worksIn_r8 ++ wsX3_worksIn_r9)))))))) ++ wsX30 ++ wsX00 ++ wsX10 ++ wsX20 ++ (vx_atS RX3 224 "java/lang/IndexOutOfBoundsException" ["java/lang/RuntimeException", "java/lang/Exception"]).filter goodWord ++ (vx_atS RX3 231 "java/lang/IllegalArgumentException" ["java/lang/RuntimeException", "java/lang/Exception"]).filter goodWord)
def wsX3_digest_r1 : List Cond := [Cond.constantLong RX3 185 (4810), Cond.constantLong RX3 187 (31), Cond.fieldLink RX3 10 "BrakeCurve" "line" "LBrakeCurve$Line;", Cond.fieldLink RX3 67 "BrakeCurve$Line" "trainCount" "I", Cond.fieldLink RX3 31 "BrakeCurve$Line" "track" "LBrakeCurve$Track;", Cond.fieldLink RX3 52 "BrakeCurve$Track" "stationCount" "I", Cond.methodLink RX3 189 yX3_many, Cond.instanceMethod yX3_many, Cond.selects RX3 yX3_many yX3_many, Cond.initialized RX3, Cond.code yX3_many cX3_many 2 (some .int), Cond.fieldLink RX3 156 "BrakeCurve$Line" "now" "I", Cond.fieldLink RX3 90 "BrakeCurve$Track" "worksCount" "I", Cond.methodLink RX3 23 yX3_isWithin, Cond.static yX3_isWithin, Cond.code yX3_isWithin cX3_isWithin 3 (some .boolean), Cond.methodLink RX3 27 yX3_need, Cond.static yX3_need, Cond.code yX3_need cX3_need 1 none, Cond.classLink RX3 227 "java/lang/IllegalArgumentException", Cond.initialized "java/lang/IllegalArgumentException", Cond.methodLink RX3 56 yX0_countPresent, Cond.instanceMethod yX0_countPresent, Cond.selects RX0 yX0_countPresent yX0_countPresent]
def wsX3_digest_r2 : List Cond := [Cond.initialized RX0, Cond.code yX0_countPresent cX0_countPresent 3 (some .int), Cond.fieldLink RX0 24 "BrakeCurve$Line" "trainCount" "I", Cond.fieldLink RX0 20 "BrakeCurve$Line" "trains" "[LBrakeCurve$Train;", Cond.fieldLink RX0 65 "BrakeCurve$Train" "left" "Z", Cond.methodLink RX3 159 yX0_countCrashed, Cond.instanceMethod yX0_countCrashed, Cond.selects RX0 yX0_countCrashed yX0_countCrashed, Cond.code yX0_countCrashed cX0_countCrashed 3 (some .int), Cond.fieldLink RX0 73 "BrakeCurve$Train" "crashed" "Z", Cond.methodLink RX3 162 yX0_total, Cond.instanceMethod yX0_total, Cond.selects RX0 yX0_total yX0_total, Cond.code yX0_total cX0_total 5 (some .int), Cond.fieldLink RX0 83 "BrakeCurve$Train" "brakedSeconds" "I", Cond.fieldLink RX0 86 "BrakeCurve$Train" "overrunSeconds" "I", Cond.fieldLink RX0 89 "BrakeCurve$Train" "missedStations" "I", Cond.methodLink RX0 92 yX2_metresGone, Cond.instanceMethod yX2_metresGone, Cond.selects RX2 yX2_metresGone yX2_metresGone, Cond.initialized RX2, Cond.code yX2_metresGone cX2_metresGone 1 (some .int), Cond.fieldLink RX2 25 "BrakeCurve$Train" "head" "I", Cond.fieldLink RX2 9 "BrakeCurve$Train" "length" "I"]
def wsX3_digest_r3 : List Cond := [Cond.methodLink RX3 192 yX3_ofSection, Cond.instanceMethod yX3_ofSection, Cond.selects RX3 yX3_ofSection yX3_ofSection, Cond.code yX3_ofSection cX3_ofSection 3 (some .int), Cond.fieldLink RX3 35 "BrakeCurve$Track" "limits" "[I", Cond.fieldLink RX3 41 "BrakeCurve$Track" "grades" "[I", Cond.fieldLink RX3 44 "BrakeCurve$Track" "radios" "[Z", Cond.methodLink RX3 19 yX3_needSection, Cond.static yX3_needSection, Cond.code yX3_needSection cX3_needSection 1 none, Cond.methodLink RX3 99 yX3_needIndex, Cond.static yX3_needIndex, Cond.code yX3_needIndex cX3_needIndex 2 none, Cond.classLink RX3 220 "java/lang/IndexOutOfBoundsException", Cond.initialized "java/lang/IndexOutOfBoundsException", Cond.methodLink RX3 110 yX0_countOn, Cond.instanceMethod yX0_countOn, Cond.selects RX0 yX0_countOn yX0_countOn, Cond.code yX0_countOn cX0_countOn 6 (some .int), Cond.methodLink RX0 76 yX2_isOn, Cond.instanceMethod yX2_isOn, Cond.selects RX2 yX2_isOn yX2_isOn, Cond.code yX2_isOn cX2_isOn 3 (some .boolean), Cond.static yX3_sectionAt]
def wsX3_digest_r4 : List Cond := [Cond.code yX3_sectionAt cX3_sectionAt 1 (some .int), Cond.methodLink RX2 72 yX2_rear, Cond.instanceMethod yX2_rear, Cond.selects RX2 yX2_rear yX2_rear, Cond.code yX2_rear cX2_rear 1 (some .int), Cond.methodLink RX3 113 yX1_hasWorksOn, Cond.instanceMethod yX1_hasWorksOn, Cond.selects RX1 yX1_hasWorksOn yX1_hasWorksOn, Cond.initialized RX1, Cond.code yX1_hasWorksOn cX1_hasWorksOn 3 (some .boolean), Cond.fieldLink RX1 41 "BrakeCurve$Track" "worksCount" "I", Cond.fieldLink RX1 35 "BrakeCurve$Track" "worksFirst" "[I", Cond.fieldLink RX1 38 "BrakeCurve$Track" "worksLast" "[I", Cond.methodLink RX3 195 yX3_ofTrain, Cond.instanceMethod yX3_ofTrain, Cond.selects RX3 yX3_ofTrain yX3_ofTrain, Cond.code yX3_ofTrain cX3_ofTrain 3 (some .int), Cond.fieldLink RX3 80 "BrakeCurve$Line" "trains" "[LBrakeCurve$Train;", Cond.fieldLink RX3 116 "BrakeCurve$Train" "stationsToCome" "I", Cond.methodLink RX3 77 yX3_needTrain, Cond.instanceMethod yX3_needTrain, Cond.selects RX3 yX3_needTrain yX3_needTrain, Cond.code yX3_needTrain cX3_needTrain 2 none, Cond.methodLink RX3 119 yX1_nextStation]
def wsX3_digest_r5 : List Cond := [Cond.instanceMethod yX1_nextStation, Cond.selects RX1 yX1_nextStation yX1_nextStation, Cond.code yX1_nextStation cX1_nextStation 5 (some .int), Cond.fieldLink RX1 31 "BrakeCurve$Track" "stationCount" "I", Cond.fieldLink RX1 22 "BrakeCurve$Track" "stationMetres" "[I", Cond.methodLink RX3 122 yX0_aheadOf, Cond.instanceMethod yX0_aheadOf, Cond.selects RX0 yX0_aheadOf yX0_aheadOf, Cond.code yX0_aheadOf cX0_aheadOf 3 (some .int), Cond.methodLink RX3 125 yX2_numberNow, Cond.instanceMethod yX2_numberNow, Cond.selects RX2 yX2_numberNow yX2_numberNow, Cond.code yX2_numberNow cX2_numberNow 2 (some .int), Cond.fieldLink RX2 28 "BrakeCurve$Train" "speed" "I", Cond.fieldLink RX2 31 "BrakeCurve$Train" "authority" "I", Cond.fieldLink RX2 21 "BrakeCurve$Train" "whole" "Z", Cond.fieldLink RX2 34 "BrakeCurve$Train" "dwellLeft" "I", Cond.fieldLink RX2 40 "BrakeCurve$Train" "left" "Z", Cond.fieldLink RX2 43 "BrakeCurve$Train" "crashed" "Z", Cond.methodLink RX3 128 yX2_numberKept, Cond.instanceMethod yX2_numberKept, Cond.selects RX2 yX2_numberKept yX2_numberKept, Cond.code yX2_numberKept cX2_numberKept 2 (some .int), Cond.fieldLink RX2 46 "BrakeCurve$Train" "knownHead" "I"]
def wsX3_digest_r6 : List Cond := [Cond.fieldLink RX2 49 "BrakeCurve$Train" "knownRear" "I", Cond.fieldLink RX2 52 "BrakeCurve$Train" "reportSecond" "I", Cond.fieldLink RX2 55 "BrakeCurve$Train" "brakedSeconds" "I", Cond.fieldLink RX2 58 "BrakeCurve$Train" "overrunSeconds" "I", Cond.fieldLink RX2 61 "BrakeCurve$Train" "missedStations" "I", Cond.methodLink RX2 76 yX2_leastGapOrNone, Cond.instanceMethod yX2_leastGapOrNone, Cond.selects RX2 yX2_leastGapOrNone yX2_leastGapOrNone, Cond.code yX2_leastGapOrNone cX2_leastGapOrNone 1 (some .int), Cond.fieldLink RX2 65 "BrakeCurve$Train" "leastGap" "I", Cond.constant RX2 64 (1000000), Cond.methodLink RX3 198 yX3_stops, Cond.instanceMethod yX3_stops, Cond.selects RX3 yX3_stops yX3_stops, Cond.code yX3_stops cX3_stops 3 (some .int), Cond.methodLink RX3 131 yX0_holdOf, Cond.instanceMethod yX0_holdOf, Cond.selects RX0 yX0_holdOf yX0_holdOf, Cond.code yX0_holdOf cX0_holdOf 2 (some .int), Cond.fieldLink RX0 42 "BrakeCurve$Train" "brake" "I", Cond.fieldLink RX0 12 "BrakeCurve$Line" "track" "LBrakeCurve$Track;", Cond.fieldLink RX0 95 "BrakeCurve$Track" "grades" "[I", Cond.fieldLink RX0 48 "BrakeCurve$Train" "head" "I", Cond.methodLink RX0 102 Lib.Math.max.name]
def wsX3_digest_r7 : List Cond := [Cond.static Lib.Math.max.name, Cond.initialized "java/lang/Math", Cond.code Lib.Math.max.name Lib.Math.max.code 2 (some .int), Cond.methodLink RX3 135 yX3_stopMetres, Cond.static yX3_stopMetres, Cond.code yX3_stopMetres cX3_stopMetres 3 (some .int), Cond.methodLink RX3 201 yX3_may, Cond.instanceMethod yX3_may, Cond.selects RX3 yX3_may yX3_may, Cond.code yX3_may cX3_may 2 (some .int), Cond.fieldLink RX3 138 "BrakeCurve$Train" "left" "Z", Cond.methodLink RX3 141 yX0_allowedSpeed, Cond.instanceMethod yX0_allowedSpeed, Cond.selects RX0 yX0_allowedSpeed yX0_allowedSpeed, Cond.code yX0_allowedSpeed cX0_allowedSpeed 6 (some .int), Cond.fieldLink RX0 51 "BrakeCurve$Train" "authority" "I", Cond.fieldLink RX0 58 "BrakeCurve$Train" "stationsToCome" "I", Cond.fieldLink RX0 111 "BrakeCurve$Track" "stationMetres" "[I", Cond.methodLink RX0 114 Lib.Math.min.name, Cond.static Lib.Math.min.name, Cond.code Lib.Math.min.name Lib.Math.min.code 2 (some .int), Cond.methodLink RX0 108 yX1_nextStation, Cond.methodLink RX0 117 yX0_holdOf, Cond.methodLink RX0 69 yX2_rear]
def wsX3_digest_r8 : List Cond := [Cond.methodLink RX0 121 yX1_leastLimit, Cond.instanceMethod yX1_leastLimit, Cond.selects RX1 yX1_leastLimit yX1_leastLimit, Cond.code yX1_leastLimit cX1_leastLimit 6 (some .int), Cond.fieldLink RX1 9 "BrakeCurve$Track" "limits" "[I", Cond.methodLink RX1 48 Lib.Math.min.name, Cond.methodLink RX3 204 yX3_why, Cond.instanceMethod yX3_why, Cond.selects RX3 yX3_why yX3_why, Cond.code yX3_why cX3_why 2 (some .int), Cond.methodLink RX3 144 yX0_reasonOf, Cond.instanceMethod yX0_reasonOf, Cond.selects RX0 yX0_reasonOf yX0_reasonOf, Cond.code yX0_reasonOf cX0_reasonOf 4 (some .int), Cond.methodLink RX0 153 yX0_leastBound, Cond.instanceMethod yX0_leastBound, Cond.selects RX0 yX0_leastBound yX0_leastBound, Cond.code yX0_leastBound cX0_leastBound 3 (some .int), Cond.methodLink RX0 144 yX0_boundByEnd, Cond.instanceMethod yX0_boundByEnd, Cond.selects RX0 yX0_boundByEnd yX0_boundByEnd, Cond.code yX0_boundByEnd cX0_boundByEnd 2 (some .int), Cond.fieldLink RX0 39 "BrakeCurve$Train" "length" "I", Cond.methodLink RX0 147 yX0_boundByAhead]
def wsX3_digest_r9 : List Cond := [Cond.instanceMethod yX0_boundByAhead, Cond.selects RX0 yX0_boundByAhead yX0_boundByAhead, Cond.code yX0_boundByAhead cX0_boundByAhead 4 (some .int), Cond.constant RX0 133 (1000000), Cond.fieldLink RX0 134 "BrakeCurve$Train" "knownRear" "I", Cond.methodLink RX0 130 yX0_aheadOf, Cond.methodLink RX0 137 yX0_isFresh, Cond.instanceMethod yX0_isFresh, Cond.selects RX0 yX0_isFresh yX0_isFresh, Cond.code yX0_isFresh cX0_isFresh 2 (some .boolean), Cond.fieldLink RX0 28 "BrakeCurve$Line" "now" "I", Cond.fieldLink RX0 127 "BrakeCurve$Train" "reportSecond" "I", Cond.static yX3_firstMetreOf, Cond.code yX3_firstMetreOf cX3_firstMetreOf 1 (some .int), Cond.methodLink RX0 150 yX1_boundByWorks, Cond.instanceMethod yX1_boundByWorks, Cond.selects RX1 yX1_boundByWorks yX1_boundByWorks, Cond.code yX1_boundByWorks cX1_boundByWorks 5 (some .int), Cond.constant RX1 58 (1000000), Cond.methodLink RX3 207 yX3_reaches, Cond.instanceMethod yX3_reaches, Cond.selects RX3 yX3_reaches yX3_reaches, Cond.code yX3_reaches cX3_reaches 5 (some .int), Cond.fieldLink RX3 168 "BrakeCurve$Train" "head" "I"]
def wsX3_digest_r10 : List Cond := [Cond.fieldLink RX3 16 "BrakeCurve" "trial" "LBrakeCurve$Line;", Cond.methodLink RX3 171 yX0_copyFrom, Cond.instanceMethod yX0_copyFrom, Cond.selects RX0 yX0_copyFrom yX0_copyFrom, Cond.code yX0_copyFrom cX0_copyFrom 3 none, Cond.methodLink RX0 32 yX1_copyFrom, Cond.instanceMethod yX1_copyFrom, Cond.selects RX1 yX1_copyFrom yX1_copyFrom, Cond.code yX1_copyFrom cX1_copyFrom 3 none, Cond.fieldLink RX1 15 "BrakeCurve$Track" "grades" "[I", Cond.fieldLink RX1 18 "BrakeCurve$Track" "radios" "[Z", Cond.fieldLink RX1 25 "BrakeCurve$Track" "dwells" "[I", Cond.fieldLink RX1 28 "BrakeCurve$Track" "stopCounts" "[I", Cond.methodLink RX0 36 yX2_copyFrom, Cond.instanceMethod yX2_copyFrom, Cond.selects RX2 yX2_copyFrom yX2_copyFrom, Cond.code yX2_copyFrom cX2_copyFrom 2 none, Cond.fieldLink RX2 15 "BrakeCurve$Train" "brake" "I", Cond.fieldLink RX2 18 "BrakeCurve$Train" "pull" "I", Cond.fieldLink RX2 37 "BrakeCurve$Train" "stationsToCome" "I", Cond.methodLink RX3 107 yX0_goOn, Cond.instanceMethod yX0_goOn, Cond.selects RX0 yX0_goOn yX0_goOn, Cond.code yX0_goOn cX0_goOn 3 (some .int)]
def wsX3_digest_r11 : List Cond := [Cond.methodLink RX0 159 yX0_reportAll, Cond.instanceMethod yX0_reportAll, Cond.selects RX0 yX0_reportAll yX0_reportAll, Cond.code yX0_reportAll cX0_reportAll 3 none, Cond.methodLink RX0 162 yX0_hasRadio, Cond.instanceMethod yX0_hasRadio, Cond.selects RX0 yX0_hasRadio yX0_hasRadio, Cond.code yX0_hasRadio cX0_hasRadio 2 (some .boolean), Cond.fieldLink RX0 174 "BrakeCurve$Track" "radios" "[Z", Cond.methodLink RX0 61 yX2_report, Cond.instanceMethod yX2_report, Cond.selects RX2 yX2_report yX2_report, Cond.code yX2_report cX2_report 2 none, Cond.methodLink RX0 165 yX0_go, Cond.instanceMethod yX0_go, Cond.selects RX0 yX0_go yX0_go, Cond.code yX0_go cX0_go 3 none, Cond.fieldLink RX0 178 "BrakeCurve$Train" "dwellLeft" "I", Cond.fieldLink RX0 80 "BrakeCurve$Train" "speed" "I", Cond.fieldLink RX0 45 "BrakeCurve$Train" "pull" "I", Cond.methodLink RX0 181 yX0_allowedSpeed, Cond.methodLink RX0 184 yX0_stopAtStation, Cond.instanceMethod yX0_stopAtStation, Cond.selects RX0 yX0_stopAtStation yX0_stopAtStation]
def wsX3_digest_r12 : List Cond := [Cond.code yX0_stopAtStation cX0_stopAtStation 3 none, Cond.fieldLink RX0 190 "BrakeCurve$Track" "dwells" "[I", Cond.fieldLink RX0 193 "BrakeCurve$Track" "stopCounts" "[I", Cond.methodLink RX0 187 yX0_missStations, Cond.instanceMethod yX0_missStations, Cond.selects RX0 yX0_missStations yX0_missStations, Cond.code yX0_missStations cX0_missStations 3 none, Cond.methodLink RX0 54 yX1_stationsFrom, Cond.instanceMethod yX1_stationsFrom, Cond.selects RX1 yX1_stationsFrom yX1_stationsFrom, Cond.code yX1_stationsFrom cX1_stationsFrom 4 (some .int), Cond.methodLink RX0 196 yJ6_bitCount_0f7a4, Cond.static yJ6_bitCount_0f7a4, Cond.initialized RJ6, Cond.code yJ6_bitCount_0f7a4 cJ6_bitCount_0f7a4 1 (some .int), Cond.constant RJ6 265 (1431655765), Cond.constant RJ6 266 (858993459), Cond.constant RJ6 267 (252645135), Cond.methodLink RX0 168 yX0_look, Cond.instanceMethod yX0_look, Cond.selects RX0 yX0_look yX0_look, Cond.code yX0_look cX0_look 5 none, Cond.fieldLink RX0 201 "BrakeCurve$Train" "leastGap" "I", Cond.methodLink RX0 204 yX2_crash]
def wsX3_digest_r13 : List Cond := [Cond.instanceMethod yX2_crash, Cond.selects RX2 yX2_crash yX2_crash, Cond.code yX2_crash cX2_crash 1 none, Cond.methodLink RX0 171 yX0_leaveAll, Cond.instanceMethod yX0_leaveAll, Cond.selects RX0 yX0_leaveAll yX0_leaveAll, Cond.code yX0_leaveAll cX0_leaveAll 4 (some .int), Cond.methodLink RX3 211 yX3_closest, Cond.instanceMethod yX3_closest, Cond.selects RX3 yX3_closest yX3_closest, Cond.code yX3_closest cX3_closest 5 (some .int), Cond.constant RX3 175 (1000000), Cond.fieldLink RX3 176 "BrakeCurve$Train" "leastGap" "I", Cond.methodLink RX3 179 yX2_leastGapOrNone, Cond.methodLink RX3 214 yX3_ofStation, Cond.instanceMethod yX3_ofStation, Cond.selects RX3 yX3_ofStation yX3_ofStation, Cond.code yX3_ofStation cX3_ofStation 3 (some .int), Cond.fieldLink RX3 147 "BrakeCurve$Track" "stationMetres" "[I", Cond.fieldLink RX3 150 "BrakeCurve$Track" "dwells" "[I", Cond.fieldLink RX3 153 "BrakeCurve$Track" "stopCounts" "[I", Cond.methodLink RX3 217 yX3_worksIn, Cond.instanceMethod yX3_worksIn, Cond.selects RX3 yX3_worksIn yX3_worksIn]
def wsX3_digest_r14 : List Cond := [Cond.code yX3_worksIn cX3_worksIn 5 (some .int), Cond.methodLink RX3 93 yX0_hindranceOfWorks, Cond.instanceMethod yX0_hindranceOfWorks, Cond.selects RX0 yX0_hindranceOfWorks yX0_hindranceOfWorks, Cond.code yX0_hindranceOfWorks cX0_hindranceOfWorks 6 (some .int), Cond.methodLink RX0 156 yX0_countOn]
def wsX3_digest : List Cond := .code yX3_digest cX3_digest 5 (some .long) :: ((wsX3_digest_r1 ++ (wsX3_digest_r2 ++ (wsX3_digest_r3 ++ (wsX3_digest_r4 ++ (wsX3_digest_r5 ++ (wsX3_digest_r6 ++ (wsX3_digest_r7 ++ (wsX3_digest_r8 ++ (wsX3_digest_r9 ++ (wsX3_digest_r10 ++ (wsX3_digest_r11 ++ (wsX3_digest_r12 ++ (wsX3_digest_r13 ++ wsX3_digest_r14))))))))))))) ++ wsX30 ++ wsX00 ++ wsX10 ++ wsX20 ++ (vx_atS RX3 231 "java/lang/IllegalArgumentException" ["java/lang/RuntimeException", "java/lang/Exception"]).filter goodWord ++ (vx_atS RX3 224 "java/lang/IndexOutOfBoundsException" ["java/lang/RuntimeException", "java/lang/Exception"]).filter goodWord)
def wsJxa1e45_init_da8c8 : List Cond := .code yJxa1e45_init_da8c8 cJxa1e45_init_da8c8 1 none :: ([.methodLink RJxa1e45 1 objectInit, .instanceMethod objectInit, .code objectInit ⟨#[0xb1]⟩ 1 none])
def wsJxc12de_init_da8c8 : List Cond := .code yJxc12de_init_da8c8 cJxc12de_init_da8c8 1 none :: ([.fieldLink RJxc12de 7 "java/util/AbstractList" "modCount" "I", .methodLink RJxc12de 1 yJxa1e45_init_da8c8, .instanceMethod yJxa1e45_init_da8c8, .initialized RJxa1e45, .code yJxa1e45_init_da8c8 cJxa1e45_init_da8c8 1 none, .methodLink RJxa1e45 1 objectInit, .instanceMethod objectInit, .code objectInit ⟨#[0xb1]⟩ 1 none] ++ wsJx4a65c0)
def wsJx4a65c_init_da8c8 : List Cond := .code yJx4a65c_init_da8c8 cJx4a65c_init_da8c8 1 none :: ([.fieldLink RJx4a65c 39 "java/util/ArrayList" "DEFAULTCAPACITY_EMPTY_ELEMENTDATA" "[Ljava/lang/Object;", .fieldLink RJx4a65c 9 "java/util/ArrayList" "elementData" "[Ljava/lang/Object;", .methodLink RJx4a65c 1 yJxc12de_init_da8c8, .instanceMethod yJxc12de_init_da8c8, .initialized RJxc12de, .code yJxc12de_init_da8c8 cJxc12de_init_da8c8 1 none, .fieldLink RJxc12de 7 "java/util/AbstractList" "modCount" "I", .methodLink RJxc12de 1 yJxa1e45_init_da8c8, .instanceMethod yJxa1e45_init_da8c8, .initialized RJxa1e45, .code yJxa1e45_init_da8c8 cJxa1e45_init_da8c8 1 none, .methodLink RJxa1e45 1 objectInit, .instanceMethod objectInit, .code objectInit ⟨#[0xb1]⟩ 1 none] ++ wsJx4a65c0)
def wsX4_init_r1 : List Cond := [Cond.methodLink RX4 3 objectInit, Cond.instanceMethod objectInit, Cond.code objectInit ⟨#[0xb1]⟩ 1 none, Cond.classLink RX4 9 "[[I", Cond.arrayClass .int, Cond.fieldLink RX4 11 "BrakeCurveModel$Line" "sections" "[[I", Cond.fieldLink RX4 16 "BrakeCurveModel$Line" "stations" "[[I", Cond.fieldLink RX4 19 "BrakeCurveModel$Line" "trains" "[[I", Cond.classLink RX4 22 RJx4a65c, Cond.instantiable RJx4a65c 3, Cond.initialized RJx4a65c, Cond.fieldLink RX4 25 "BrakeCurveModel$Line" "works" "Ljava/util/ArrayList;", Cond.methodLink RX4 24 yJx4a65c_init_da8c8, Cond.instanceMethod yJx4a65c_init_da8c8, Cond.code yJx4a65c_init_da8c8 cJx4a65c_init_da8c8 1 none, Cond.fieldLink RJx4a65c 39 "java/util/ArrayList" "DEFAULTCAPACITY_EMPTY_ELEMENTDATA" "[Ljava/lang/Object;", Cond.fieldLink RJx4a65c 9 "java/util/ArrayList" "elementData" "[Ljava/lang/Object;", Cond.methodLink RJx4a65c 1 yJxc12de_init_da8c8, Cond.instanceMethod yJxc12de_init_da8c8, Cond.initialized RJxc12de, Cond.code yJxc12de_init_da8c8 cJxc12de_init_da8c8 1 none, Cond.fieldLink RJxc12de 7 "java/util/AbstractList" "modCount" "I", Cond.methodLink RJxc12de 1 yJxa1e45_init_da8c8, Cond.instanceMethod yJxa1e45_init_da8c8]
def wsX4_init_r2 : List Cond := [Cond.initialized RJxa1e45, Cond.code yJxa1e45_init_da8c8 cJxa1e45_init_da8c8 1 none, Cond.methodLink RJxa1e45 1 objectInit]
def wsX4_init : List Cond := .code yX4_init cX4_init 5 none :: ((wsX4_init_r1 ++ wsX4_init_r2) ++ wsX40 ++ wsJx4a65c0)
def wsX4_copy_ : List Cond := .code yX4_copy_ cX4_copy_ 3 none :: ([.methodLink RX4 48 arraycopyName, .native arraycopyName, .static arraycopyName, .initialized "java/lang/System"])
def wsJ7_copyOf_6403c : List Cond := .code yJ7_copyOf_6403c cJ7_copyOf_6403c 4 (some (.array (.object "java/lang/Object"))) :: ([.classLink RJ7 110 "[Ljava/lang/Object;", .classLink RJ7 2 "java/lang/Object", .methodLink RJ7 304 Lib.Math.min.name, .static Lib.Math.min.name, .initialized "java/lang/Math", .code Lib.Math.min.name Lib.Math.min.code 2 (some .int), .methodLink RJ7 150 arraycopyName, .native arraycopyName, .static arraycopyName, .initialized "java/lang/System"])
def wsJ7_copyOf_1904c : List Cond := .code yJ7_copyOf_1904c cJ7_copyOf_1904c 2 (some (.array (.object "java/lang/Object"))) :: ([.methodLink RJ7 86 ⟨"java/lang/Object", "getClass", "()Ljava/lang/Class;"⟩, .selects "[Ljava/lang/Object;" ⟨"java/lang/Object", "getClass", "()Ljava/lang/Class;"⟩ ⟨"java/lang/Object", "getClass", "()Ljava/lang/Class;"⟩, .instanceMethod ⟨"java/lang/Object", "getClass", "()Ljava/lang/Class;"⟩, .native ⟨"java/lang/Object", "getClass", "()Ljava/lang/Class;"⟩, .methodLink RJ7 300 yJ7_copyOf_6403c, .static yJ7_copyOf_6403c, .initialized RJ7, .code yJ7_copyOf_6403c cJ7_copyOf_6403c 4 (some (.array (.object "java/lang/Object"))), .classLink RJ7 110 "[Ljava/lang/Object;", .classLink RJ7 2 "java/lang/Object", .methodLink RJ7 304 Lib.Math.min.name, .static Lib.Math.min.name, .initialized "java/lang/Math", .code Lib.Math.min.name Lib.Math.min.code 2 (some .int), .methodLink RJ7 150 arraycopyName, .native arraycopyName, .static arraycopyName, .initialized "java/lang/System"])
def wsJx4a65c_toArray_d5877 : List Cond := .code yJx4a65c_toArray_d5877 cJx4a65c_toArray_d5877 1 (some (.array (.object "java/lang/Object"))) :: ([.fieldLink RJx4a65c 9 "java/util/ArrayList" "elementData" "[Ljava/lang/Object;", .fieldLink RJx4a65c 48 "java/util/ArrayList" "size" "I", .methodLink RJx4a65c 66 yJ7_copyOf_1904c, .static yJ7_copyOf_1904c, .initialized RJ7, .code yJ7_copyOf_1904c cJ7_copyOf_1904c 2 (some (.array (.object "java/lang/Object"))), .methodLink RJ7 86 ⟨"java/lang/Object", "getClass", "()Ljava/lang/Class;"⟩, .selects "[Ljava/lang/Object;" ⟨"java/lang/Object", "getClass", "()Ljava/lang/Class;"⟩ ⟨"java/lang/Object", "getClass", "()Ljava/lang/Class;"⟩, .instanceMethod ⟨"java/lang/Object", "getClass", "()Ljava/lang/Class;"⟩, .native ⟨"java/lang/Object", "getClass", "()Ljava/lang/Class;"⟩, .methodLink RJ7 300 yJ7_copyOf_6403c, .static yJ7_copyOf_6403c, .code yJ7_copyOf_6403c cJ7_copyOf_6403c 4 (some (.array (.object "java/lang/Object"))), .classLink RJ7 110 "[Ljava/lang/Object;", .classLink RJ7 2 "java/lang/Object", .methodLink RJ7 304 Lib.Math.min.name, .static Lib.Math.min.name, .initialized "java/lang/Math", .code Lib.Math.min.name Lib.Math.min.code 2 (some .int), .methodLink RJ7 150 arraycopyName, .native arraycopyName, .static arraycopyName, .initialized "java/lang/System"] ++ wsJx4a65c0)
def wsJ8_hugeLength_7cf53 : List Cond := .code yJ8_hugeLength_7cf53 cJ8_hugeLength_7cf53 3 (some .int) :: ([.constant RJ8 200 (2147483639)])
def wsJ8_newLength_cabcc : List Cond := .code yJ8_newLength_cabcc cJ8_newLength_cabcc 4 (some .int) :: ([.methodLink RJ8 194 Lib.Math.max.name, .static Lib.Math.max.name, .initialized "java/lang/Math", .code Lib.Math.max.name Lib.Math.max.code 2 (some .int), .constant RJ8 200 (2147483639), .methodLink RJ8 201 yJ8_hugeLength_7cf53, .static yJ8_hugeLength_7cf53, .initialized RJ8, .code yJ8_hugeLength_7cf53 cJ8_hugeLength_7cf53 3 (some .int)])
def wsJx4a65c_grow_92f84_r1 : List Cond := [Cond.fieldLink RJx4a65c 9 "java/util/ArrayList" "elementData" "[Ljava/lang/Object;", Cond.fieldLink RJx4a65c 39 "java/util/ArrayList" "DEFAULTCAPACITY_EMPTY_ELEMENTDATA" "[Ljava/lang/Object;", Cond.methodLink RJx4a65c 79 Lib.Math.max.name, Cond.static Lib.Math.max.name, Cond.initialized "java/lang/Math", Cond.code Lib.Math.max.name Lib.Math.max.code 2 (some .int), Cond.classLink RJx4a65c 7 "java/lang/Object", Cond.methodLink RJx4a65c 73 yJ8_newLength_cabcc, Cond.static yJ8_newLength_cabcc, Cond.initialized RJ8, Cond.code yJ8_newLength_cabcc cJ8_newLength_cabcc 4 (some .int), Cond.methodLink RJ8 194 Lib.Math.max.name, Cond.constant RJ8 200 (2147483639), Cond.methodLink RJ8 201 yJ8_hugeLength_7cf53, Cond.static yJ8_hugeLength_7cf53, Cond.code yJ8_hugeLength_7cf53 cJ8_hugeLength_7cf53 3 (some .int), Cond.methodLink RJx4a65c 66 yJ7_copyOf_1904c, Cond.static yJ7_copyOf_1904c, Cond.initialized RJ7, Cond.code yJ7_copyOf_1904c cJ7_copyOf_1904c 2 (some (.array (.object "java/lang/Object"))), Cond.methodLink RJ7 86 ⟨"java/lang/Object", "getClass", "()Ljava/lang/Class;"⟩, Cond.selects "[Ljava/lang/Object;" ⟨"java/lang/Object", "getClass", "()Ljava/lang/Class;"⟩ ⟨"java/lang/Object", "getClass", "()Ljava/lang/Class;"⟩, Cond.instanceMethod ⟨"java/lang/Object", "getClass", "()Ljava/lang/Class;"⟩, Cond.native ⟨"java/lang/Object", "getClass", "()Ljava/lang/Class;"⟩]
def wsJx4a65c_grow_92f84_r2 : List Cond := [Cond.methodLink RJ7 300 yJ7_copyOf_6403c, Cond.static yJ7_copyOf_6403c, Cond.code yJ7_copyOf_6403c cJ7_copyOf_6403c 4 (some (.array (.object "java/lang/Object"))), Cond.classLink RJ7 110 "[Ljava/lang/Object;", Cond.classLink RJ7 2 "java/lang/Object", Cond.methodLink RJ7 304 Lib.Math.min.name, Cond.static Lib.Math.min.name, Cond.code Lib.Math.min.name Lib.Math.min.code 2 (some .int), Cond.methodLink RJ7 150 arraycopyName, Cond.native arraycopyName, Cond.static arraycopyName, Cond.initialized "java/lang/System"]
def wsJx4a65c_grow_92f84 : List Cond := .code yJx4a65c_grow_92f84 cJx4a65c_grow_92f84 4 (some (.array (.object "java/lang/Object"))) :: ((wsJx4a65c_grow_92f84_r1 ++ wsJx4a65c_grow_92f84_r2) ++ wsJx4a65c0)
def wsJx4a65c_addAll_f0b43_r1 : List Cond := [Cond.fieldLink RJx4a65c 63 "java/util/ArrayList" "modCount" "I", Cond.sameField "java/util/ArrayList" "java/util/AbstractList" "modCount" "I", Cond.fieldLink RJx4a65c 9 "java/util/ArrayList" "elementData" "[Ljava/lang/Object;", Cond.fieldLink RJx4a65c 48 "java/util/ArrayList" "size" "I", Cond.methodLink RJx4a65c 112 arraycopyName, Cond.native arraycopyName, Cond.static arraycopyName, Cond.initialized "java/lang/System", Cond.methodLink RJx4a65c 42 ⟨"java/util/Collection", "toArray", "()[Ljava/lang/Object;"⟩, Cond.selects RJx4a65c ⟨"java/util/Collection", "toArray", "()[Ljava/lang/Object;"⟩ yJx4a65c_toArray_d5877, Cond.instanceMethod yJx4a65c_toArray_d5877, Cond.initialized RJx4a65c, Cond.code yJx4a65c_toArray_d5877 cJx4a65c_toArray_d5877 1 (some (.array (.object "java/lang/Object"))), Cond.methodLink RJx4a65c 66 yJ7_copyOf_1904c, Cond.static yJ7_copyOf_1904c, Cond.initialized RJ7, Cond.code yJ7_copyOf_1904c cJ7_copyOf_1904c 2 (some (.array (.object "java/lang/Object"))), Cond.methodLink RJ7 86 ⟨"java/lang/Object", "getClass", "()Ljava/lang/Class;"⟩, Cond.selects "[Ljava/lang/Object;" ⟨"java/lang/Object", "getClass", "()Ljava/lang/Class;"⟩ ⟨"java/lang/Object", "getClass", "()Ljava/lang/Class;"⟩, Cond.instanceMethod ⟨"java/lang/Object", "getClass", "()Ljava/lang/Class;"⟩, Cond.native ⟨"java/lang/Object", "getClass", "()Ljava/lang/Class;"⟩, Cond.methodLink RJ7 300 yJ7_copyOf_6403c, Cond.static yJ7_copyOf_6403c, Cond.code yJ7_copyOf_6403c cJ7_copyOf_6403c 4 (some (.array (.object "java/lang/Object")))]
def wsJx4a65c_addAll_f0b43_r2 : List Cond := [Cond.classLink RJ7 110 "[Ljava/lang/Object;", Cond.classLink RJ7 2 "java/lang/Object", Cond.methodLink RJ7 304 Lib.Math.min.name, Cond.static Lib.Math.min.name, Cond.initialized "java/lang/Math", Cond.code Lib.Math.min.name Lib.Math.min.code 2 (some .int), Cond.methodLink RJ7 150 arraycopyName, Cond.methodLink RJx4a65c 69 yJx4a65c_grow_92f84, Cond.instanceMethod yJx4a65c_grow_92f84, Cond.selects RJx4a65c yJx4a65c_grow_92f84 yJx4a65c_grow_92f84, Cond.code yJx4a65c_grow_92f84 cJx4a65c_grow_92f84 4 (some (.array (.object "java/lang/Object"))), Cond.fieldLink RJx4a65c 39 "java/util/ArrayList" "DEFAULTCAPACITY_EMPTY_ELEMENTDATA" "[Ljava/lang/Object;", Cond.methodLink RJx4a65c 79 Lib.Math.max.name, Cond.static Lib.Math.max.name, Cond.code Lib.Math.max.name Lib.Math.max.code 2 (some .int), Cond.classLink RJx4a65c 7 "java/lang/Object", Cond.methodLink RJx4a65c 73 yJ8_newLength_cabcc, Cond.static yJ8_newLength_cabcc, Cond.initialized RJ8, Cond.code yJ8_newLength_cabcc cJ8_newLength_cabcc 4 (some .int), Cond.methodLink RJ8 194 Lib.Math.max.name, Cond.constant RJ8 200 (2147483639), Cond.methodLink RJ8 201 yJ8_hugeLength_7cf53, Cond.static yJ8_hugeLength_7cf53]
def wsJx4a65c_addAll_f0b43_r3 : List Cond := [Cond.code yJ8_hugeLength_7cf53 cJ8_hugeLength_7cf53 3 (some .int)]
def wsJx4a65c_addAll_f0b43 : List Cond := .code yJx4a65c_addAll_f0b43 cJx4a65c_addAll_f0b43 6 (some .boolean) :: ((wsJx4a65c_addAll_f0b43_r1 ++ (wsJx4a65c_addAll_f0b43_r2 ++ wsJx4a65c_addAll_f0b43_r3)) ++ wsJx4a65c0)
def wsX4_copy_r1 : List Cond := [Cond.classLink RX4 12 RX4, Cond.instantiable RX4 7, Cond.initialized RX4, Cond.fieldLink RX4 11 "BrakeCurveModel$Line" "sections" "[[I", Cond.fieldLink RX4 16 "BrakeCurveModel$Line" "stations" "[[I", Cond.fieldLink RX4 19 "BrakeCurveModel$Line" "trains" "[[I", Cond.fieldLink RX4 34 "BrakeCurveModel$Line" "manyStations" "I", Cond.fieldLink RX4 38 "BrakeCurveModel$Line" "manyTrains" "I", Cond.fieldLink RX4 25 "BrakeCurveModel$Line" "works" "Ljava/util/ArrayList;", Cond.fieldLink RX4 45 "BrakeCurveModel$Line" "now" "I", Cond.methodLink RX4 29 yX4_init, Cond.instanceMethod yX4_init, Cond.code yX4_init cX4_init 5 none, Cond.methodLink RX4 3 objectInit, Cond.instanceMethod objectInit, Cond.code objectInit ⟨#[0xb1]⟩ 1 none, Cond.classLink RX4 9 "[[I", Cond.arrayClass .int, Cond.classLink RX4 22 RJx4a65c, Cond.instantiable RJx4a65c 3, Cond.initialized RJx4a65c, Cond.methodLink RX4 24 yJx4a65c_init_da8c8, Cond.instanceMethod yJx4a65c_init_da8c8, Cond.code yJx4a65c_init_da8c8 cJx4a65c_init_da8c8 1 none]
def wsX4_copy_r2 : List Cond := [Cond.fieldLink RJx4a65c 39 "java/util/ArrayList" "DEFAULTCAPACITY_EMPTY_ELEMENTDATA" "[Ljava/lang/Object;", Cond.fieldLink RJx4a65c 9 "java/util/ArrayList" "elementData" "[Ljava/lang/Object;", Cond.methodLink RJx4a65c 1 yJxc12de_init_da8c8, Cond.instanceMethod yJxc12de_init_da8c8, Cond.initialized RJxc12de, Cond.code yJxc12de_init_da8c8 cJxc12de_init_da8c8 1 none, Cond.fieldLink RJxc12de 7 "java/util/AbstractList" "modCount" "I", Cond.methodLink RJxc12de 1 yJxa1e45_init_da8c8, Cond.instanceMethod yJxa1e45_init_da8c8, Cond.initialized RJxa1e45, Cond.code yJxa1e45_init_da8c8 cJxa1e45_init_da8c8 1 none, Cond.methodLink RJxa1e45 1 objectInit, Cond.methodLink RX4 30 yX4_copy_, Cond.static yX4_copy_, Cond.code yX4_copy_ cX4_copy_ 3 none, Cond.methodLink RX4 48 arraycopyName, Cond.native arraycopyName, Cond.static arraycopyName, Cond.initialized "java/lang/System", Cond.methodLink RX4 41 yJx4a65c_addAll_f0b43, Cond.instanceMethod yJx4a65c_addAll_f0b43, Cond.selects RJx4a65c yJx4a65c_addAll_f0b43 yJx4a65c_addAll_f0b43, Cond.code yJx4a65c_addAll_f0b43 cJx4a65c_addAll_f0b43 6 (some .boolean), Cond.fieldLink RJx4a65c 63 "java/util/ArrayList" "modCount" "I"]
def wsX4_copy_r3 : List Cond := [Cond.sameField "java/util/ArrayList" "java/util/AbstractList" "modCount" "I", Cond.fieldLink RJx4a65c 48 "java/util/ArrayList" "size" "I", Cond.methodLink RJx4a65c 112 arraycopyName, Cond.methodLink RJx4a65c 42 ⟨"java/util/Collection", "toArray", "()[Ljava/lang/Object;"⟩, Cond.selects RJx4a65c ⟨"java/util/Collection", "toArray", "()[Ljava/lang/Object;"⟩ yJx4a65c_toArray_d5877, Cond.instanceMethod yJx4a65c_toArray_d5877, Cond.code yJx4a65c_toArray_d5877 cJx4a65c_toArray_d5877 1 (some (.array (.object "java/lang/Object"))), Cond.methodLink RJx4a65c 66 yJ7_copyOf_1904c, Cond.static yJ7_copyOf_1904c, Cond.initialized RJ7, Cond.code yJ7_copyOf_1904c cJ7_copyOf_1904c 2 (some (.array (.object "java/lang/Object"))), Cond.methodLink RJ7 86 ⟨"java/lang/Object", "getClass", "()Ljava/lang/Class;"⟩, Cond.selects "[Ljava/lang/Object;" ⟨"java/lang/Object", "getClass", "()Ljava/lang/Class;"⟩ ⟨"java/lang/Object", "getClass", "()Ljava/lang/Class;"⟩, Cond.instanceMethod ⟨"java/lang/Object", "getClass", "()Ljava/lang/Class;"⟩, Cond.native ⟨"java/lang/Object", "getClass", "()Ljava/lang/Class;"⟩, Cond.methodLink RJ7 300 yJ7_copyOf_6403c, Cond.static yJ7_copyOf_6403c, Cond.code yJ7_copyOf_6403c cJ7_copyOf_6403c 4 (some (.array (.object "java/lang/Object"))), Cond.classLink RJ7 110 "[Ljava/lang/Object;", Cond.classLink RJ7 2 "java/lang/Object", Cond.methodLink RJ7 304 Lib.Math.min.name, Cond.static Lib.Math.min.name, Cond.initialized "java/lang/Math", Cond.code Lib.Math.min.name Lib.Math.min.code 2 (some .int)]
def wsX4_copy_r4 : List Cond := [Cond.methodLink RJ7 150 arraycopyName, Cond.methodLink RJx4a65c 69 yJx4a65c_grow_92f84, Cond.instanceMethod yJx4a65c_grow_92f84, Cond.selects RJx4a65c yJx4a65c_grow_92f84 yJx4a65c_grow_92f84, Cond.code yJx4a65c_grow_92f84 cJx4a65c_grow_92f84 4 (some (.array (.object "java/lang/Object"))), Cond.methodLink RJx4a65c 79 Lib.Math.max.name, Cond.static Lib.Math.max.name, Cond.code Lib.Math.max.name Lib.Math.max.code 2 (some .int), Cond.classLink RJx4a65c 7 "java/lang/Object", Cond.methodLink RJx4a65c 73 yJ8_newLength_cabcc, Cond.static yJ8_newLength_cabcc, Cond.initialized RJ8, Cond.code yJ8_newLength_cabcc cJ8_newLength_cabcc 4 (some .int), Cond.methodLink RJ8 194 Lib.Math.max.name, Cond.constant RJ8 200 (2147483639), Cond.methodLink RJ8 201 yJ8_hugeLength_7cf53, Cond.static yJ8_hugeLength_7cf53, Cond.code yJ8_hugeLength_7cf53 cJ8_hugeLength_7cf53 3 (some .int)]
def wsX4_copy : List Cond := .code yX4_copy cX4_copy 2 (some (.object "BrakeCurveModel$Line")) :: ((wsX4_copy_r1 ++ (wsX4_copy_r2 ++ (wsX4_copy_r3 ++ wsX4_copy_r4))) ++ wsX40 ++ wsJx4a65c0)
def wsX4_runs : List Cond := .code yX4_runs cX4_runs 2 (some .boolean) :: ([.fieldLink RX4 19 "BrakeCurveModel$Line" "trains" "[[I"] ++ wsX40)
def wsX4_ahead : List Cond := .code yX4_ahead cX4_ahead 2 (some .int) :: ([.methodLink RX4 54 yX4_runs, .instanceMethod yX4_runs, .selects RX4 yX4_runs yX4_runs, .initialized RX4, .code yX4_runs cX4_runs 2 (some .boolean), .fieldLink RX4 19 "BrakeCurveModel$Line" "trains" "[[I"] ++ wsX40)
def wsX4_next : List Cond := .code yX4_next cX4_next 4 (some .int) :: ([.fieldLink RX4 34 "BrakeCurveModel$Line" "manyStations" "I", .fieldLink RX4 16 "BrakeCurveModel$Line" "stations" "[[I"] ++ wsX40)
def wsX5_sectionOf : List Cond := .code yX5_sectionOf cX5_sectionOf 1 (some .int) :: ([.methodLink RX5 20 Lib.Math.min.name, .static Lib.Math.min.name, .initialized "java/lang/Math", .code Lib.Math.min.name Lib.Math.min.code 2 (some .int)])
def wsX4_hold : List Cond := .code yX4_hold cX4_hold 2 (some .int) :: ([.fieldLink RX4 11 "BrakeCurveModel$Line" "sections" "[[I", .methodLink RX4 62 Lib.Math.max.name, .static Lib.Math.max.name, .initialized "java/lang/Math", .code Lib.Math.max.name Lib.Math.max.code 2 (some .int), .static yX5_sectionOf, .initialized RX5, .code yX5_sectionOf cX5_sectionOf 1 (some .int), .methodLink RX5 20 Lib.Math.min.name, .static Lib.Math.min.name, .code Lib.Math.min.name Lib.Math.min.code 2 (some .int)] ++ wsX40)
def wsX4_stops : List Cond := .code yX4_stops cX4_stops 4 (some .int) :: ([.methodLink RX4 62 Lib.Math.max.name, .static Lib.Math.max.name, .initialized "java/lang/Math", .code Lib.Math.max.name Lib.Math.max.code 2 (some .int), .methodLink RX4 68 yX4_hold, .instanceMethod yX4_hold, .selects RX4 yX4_hold yX4_hold, .initialized RX4, .code yX4_hold cX4_hold 2 (some .int), .fieldLink RX4 11 "BrakeCurveModel$Line" "sections" "[[I", .static yX5_sectionOf, .initialized RX5, .code yX5_sectionOf cX5_sectionOf 1 (some .int), .methodLink RX5 20 Lib.Math.min.name, .static Lib.Math.min.name, .code Lib.Math.min.name Lib.Math.min.code 2 (some .int)] ++ wsX40)
def wsX5_rear : List Cond := .code yX5_rear cX5_rear 1 (some .int) :: ([])
def wsX4_may_r1 : List Cond := [Cond.fieldLink RX4 11 "BrakeCurveModel$Line" "sections" "[[I", Cond.methodLink RX4 75 Lib.Math.min.name, Cond.static Lib.Math.min.name, Cond.initialized "java/lang/Math", Cond.code Lib.Math.min.name Lib.Math.min.code 2 (some .int), Cond.fieldLink RX4 16 "BrakeCurveModel$Line" "stations" "[[I", Cond.static yX5_rear, Cond.initialized RX5, Cond.code yX5_rear cX5_rear 1 (some .int), Cond.static yX5_sectionOf, Cond.code yX5_sectionOf cX5_sectionOf 1 (some .int), Cond.methodLink RX5 20 Lib.Math.min.name, Cond.methodLink RX4 78 yX4_next, Cond.instanceMethod yX4_next, Cond.selects RX4 yX4_next yX4_next, Cond.initialized RX4, Cond.code yX4_next cX4_next 4 (some .int), Cond.fieldLink RX4 34 "BrakeCurveModel$Line" "manyStations" "I", Cond.methodLink RX4 81 yX4_stops, Cond.instanceMethod yX4_stops, Cond.selects RX4 yX4_stops yX4_stops, Cond.code yX4_stops cX4_stops 4 (some .int), Cond.methodLink RX4 62 Lib.Math.max.name, Cond.static Lib.Math.max.name]
def wsX4_may_r2 : List Cond := [Cond.code Lib.Math.max.name Lib.Math.max.code 2 (some .int), Cond.methodLink RX4 68 yX4_hold, Cond.instanceMethod yX4_hold, Cond.selects RX4 yX4_hold yX4_hold, Cond.code yX4_hold cX4_hold 2 (some .int)]
def wsX4_may : List Cond := .code yX4_may cX4_may 5 (some .int) :: ((wsX4_may_r1 ++ wsX4_may_r2) ++ wsX40)
def wsJx35411_init_45d68 : List Cond := .code yJx35411_init_45d68 cJx35411_init_45d68 2 none :: ([.fieldLink RJx35411 1 "java/util/ArrayList$Itr" "this$0" "Ljava/util/ArrayList;", .methodLink RJx35411 7 objectInit, .instanceMethod objectInit, .code objectInit ⟨#[0xb1]⟩ 1 none, .fieldLink RJx35411 13 "java/util/ArrayList$Itr" "lastRet" "I", .fieldLink RJx35411 17 "java/util/ArrayList" "modCount" "I", .sameField "java/util/ArrayList" "java/util/AbstractList" "modCount" "I", .fieldLink RJx35411 22 "java/util/ArrayList$Itr" "expectedModCount" "I"] ++ wsJx354110 ++ wsJx4a65c0)
def wsJx4a65c_iterator_32c93 : List Cond := .code yJx4a65c_iterator_32c93 cJx4a65c_iterator_32c93 1 (some (.object "java/util/Iterator")) :: ([.classLink RJx4a65c 267 RJx35411, .instantiable RJx35411 4, .initialized RJx35411, .methodLink RJx4a65c 269 yJx35411_init_45d68, .instanceMethod yJx35411_init_45d68, .code yJx35411_init_45d68 cJx35411_init_45d68 2 none, .fieldLink RJx35411 1 "java/util/ArrayList$Itr" "this$0" "Ljava/util/ArrayList;", .methodLink RJx35411 7 objectInit, .instanceMethod objectInit, .code objectInit ⟨#[0xb1]⟩ 1 none, .fieldLink RJx35411 13 "java/util/ArrayList$Itr" "lastRet" "I", .fieldLink RJx35411 17 "java/util/ArrayList" "modCount" "I", .sameField "java/util/ArrayList" "java/util/AbstractList" "modCount" "I", .fieldLink RJx35411 22 "java/util/ArrayList$Itr" "expectedModCount" "I"] ++ wsJx354110 ++ wsJx4a65c0)
def wsJx35411_hasNext_aae02 : List Cond := .code yJx35411_hasNext_aae02 cJx35411_hasNext_aae02 1 (some .boolean) :: ([.fieldLink RJx35411 25 "java/util/ArrayList$Itr" "cursor" "I", .fieldLink RJx35411 1 "java/util/ArrayList$Itr" "this$0" "Ljava/util/ArrayList;"] ++ wsJx354110 ++ wsJx4a65c0)
def wsJx35411_checkForComodification_da8c8 : List Cond := .code yJx35411_checkForComodification_da8c8 cJx35411_checkForComodification_da8c8 1 none :: ([.fieldLink RJx35411 1 "java/util/ArrayList$Itr" "this$0" "Ljava/util/ArrayList;", .fieldLink RJx35411 17 "java/util/ArrayList" "modCount" "I", .sameField "java/util/ArrayList" "java/util/AbstractList" "modCount" "I", .fieldLink RJx35411 22 "java/util/ArrayList$Itr" "expectedModCount" "I"] ++ wsJx354110 ++ wsJx4a65c0)
def wsJx35411_next_0502b : List Cond := .code yJx35411_next_0502b cJx35411_next_0502b 3 (some (.object "java/lang/Object")) :: ([.fieldLink RJx35411 25 "java/util/ArrayList$Itr" "cursor" "I", .fieldLink RJx35411 1 "java/util/ArrayList$Itr" "this$0" "Ljava/util/ArrayList;", .fieldLink RJx35411 37 "java/util/ArrayList" "elementData" "[Ljava/lang/Object;", .fieldLink RJx35411 13 "java/util/ArrayList$Itr" "lastRet" "I", .methodLink RJx35411 31 yJx35411_checkForComodification_da8c8, .instanceMethod yJx35411_checkForComodification_da8c8, .selects RJx35411 yJx35411_checkForComodification_da8c8 yJx35411_checkForComodification_da8c8, .initialized RJx35411, .code yJx35411_checkForComodification_da8c8 cJx35411_checkForComodification_da8c8 1 none, .fieldLink RJx35411 17 "java/util/ArrayList" "modCount" "I", .sameField "java/util/ArrayList" "java/util/AbstractList" "modCount" "I", .fieldLink RJx35411 22 "java/util/ArrayList$Itr" "expectedModCount" "I"] ++ wsJx354110 ++ wsJx4a65c0)
def wsX4_candidate_r1 : List Cond := [Cond.fieldLink RX4 19 "BrakeCurveModel$Line" "trains" "[[I", Cond.constant RX4 85 (1000000), Cond.fieldLink RX4 25 "BrakeCurveModel$Line" "works" "Ljava/util/ArrayList;", Cond.classLink RX4 99 "[I", Cond.methodLink RX4 75 Lib.Math.min.name, Cond.static Lib.Math.min.name, Cond.initialized "java/lang/Math", Cond.code Lib.Math.min.name Lib.Math.min.code 2 (some .int), Cond.fieldLink RX4 45 "BrakeCurveModel$Line" "now" "I", Cond.methodLink RX4 86 yJx4a65c_iterator_32c93, Cond.instanceMethod yJx4a65c_iterator_32c93, Cond.selects RJx4a65c yJx4a65c_iterator_32c93 yJx4a65c_iterator_32c93, Cond.initialized RJx4a65c, Cond.code yJx4a65c_iterator_32c93 cJx4a65c_iterator_32c93 1 (some (.object "java/util/Iterator")), Cond.classLink RJx4a65c 267 RJx35411, Cond.instantiable RJx35411 4, Cond.initialized RJx35411, Cond.methodLink RJx4a65c 269 yJx35411_init_45d68, Cond.instanceMethod yJx35411_init_45d68, Cond.code yJx35411_init_45d68 cJx35411_init_45d68 2 none, Cond.fieldLink RJx35411 1 "java/util/ArrayList$Itr" "this$0" "Ljava/util/ArrayList;", Cond.methodLink RJx35411 7 objectInit, Cond.instanceMethod objectInit, Cond.code objectInit ⟨#[0xb1]⟩ 1 none]
def wsX4_candidate_r2 : List Cond := [Cond.fieldLink RJx35411 13 "java/util/ArrayList$Itr" "lastRet" "I", Cond.fieldLink RJx35411 17 "java/util/ArrayList" "modCount" "I", Cond.sameField "java/util/ArrayList" "java/util/AbstractList" "modCount" "I", Cond.fieldLink RJx35411 22 "java/util/ArrayList$Itr" "expectedModCount" "I", Cond.methodLink RX4 90 ⟨"java/util/Iterator", "hasNext", "()Z"⟩, Cond.selects RJx35411 ⟨"java/util/Iterator", "hasNext", "()Z"⟩ yJx35411_hasNext_aae02, Cond.instanceMethod yJx35411_hasNext_aae02, Cond.code yJx35411_hasNext_aae02 cJx35411_hasNext_aae02 1 (some .boolean), Cond.fieldLink RJx35411 25 "java/util/ArrayList$Itr" "cursor" "I", Cond.methodLink RX4 96 ⟨"java/util/Iterator", "next", "()Ljava/lang/Object;"⟩, Cond.selects RJx35411 ⟨"java/util/Iterator", "next", "()Ljava/lang/Object;"⟩ yJx35411_next_0502b, Cond.instanceMethod yJx35411_next_0502b, Cond.code yJx35411_next_0502b cJx35411_next_0502b 3 (some (.object "java/lang/Object")), Cond.fieldLink RJx35411 37 "java/util/ArrayList" "elementData" "[Ljava/lang/Object;", Cond.methodLink RJx35411 31 yJx35411_checkForComodification_da8c8, Cond.instanceMethod yJx35411_checkForComodification_da8c8, Cond.selects RJx35411 yJx35411_checkForComodification_da8c8 yJx35411_checkForComodification_da8c8, Cond.code yJx35411_checkForComodification_da8c8 cJx35411_checkForComodification_da8c8 1 none, Cond.methodLink RX4 101 yX4_ahead, Cond.instanceMethod yX4_ahead, Cond.selects RX4 yX4_ahead yX4_ahead, Cond.initialized RX4, Cond.code yX4_ahead cX4_ahead 2 (some .int), Cond.methodLink RX4 54 yX4_runs]
def wsX4_candidate_r3 : List Cond := [Cond.instanceMethod yX4_runs, Cond.selects RX4 yX4_runs yX4_runs, Cond.code yX4_runs cX4_runs 2 (some .boolean), Cond.static yX5_sectionOf, Cond.initialized RX5, Cond.code yX5_sectionOf cX5_sectionOf 1 (some .int), Cond.methodLink RX5 20 Lib.Math.min.name]
def wsX4_candidate : List Cond := .code yX4_candidate cX4_candidate 7 (some .int) :: ((wsX4_candidate_r1 ++ (wsX4_candidate_r2 ++ wsX4_candidate_r3)) ++ wsX40 ++ wsJx354110 ++ wsJx4a65c0)
def wsX4_why_r1 : List Cond := [Cond.fieldLink RX4 19 "BrakeCurveModel$Line" "trains" "[[I", Cond.methodLink RX4 104 yX4_candidate, Cond.instanceMethod yX4_candidate, Cond.selects RX4 yX4_candidate yX4_candidate, Cond.initialized RX4, Cond.code yX4_candidate cX4_candidate 7 (some .int), Cond.constant RX4 85 (1000000), Cond.fieldLink RX4 25 "BrakeCurveModel$Line" "works" "Ljava/util/ArrayList;", Cond.classLink RX4 99 "[I", Cond.methodLink RX4 75 Lib.Math.min.name, Cond.static Lib.Math.min.name, Cond.initialized "java/lang/Math", Cond.code Lib.Math.min.name Lib.Math.min.code 2 (some .int), Cond.fieldLink RX4 45 "BrakeCurveModel$Line" "now" "I", Cond.methodLink RX4 86 yJx4a65c_iterator_32c93, Cond.instanceMethod yJx4a65c_iterator_32c93, Cond.selects RJx4a65c yJx4a65c_iterator_32c93 yJx4a65c_iterator_32c93, Cond.initialized RJx4a65c, Cond.code yJx4a65c_iterator_32c93 cJx4a65c_iterator_32c93 1 (some (.object "java/util/Iterator")), Cond.classLink RJx4a65c 267 RJx35411, Cond.instantiable RJx35411 4, Cond.initialized RJx35411, Cond.methodLink RJx4a65c 269 yJx35411_init_45d68, Cond.instanceMethod yJx35411_init_45d68]
def wsX4_why_r2 : List Cond := [Cond.code yJx35411_init_45d68 cJx35411_init_45d68 2 none, Cond.fieldLink RJx35411 1 "java/util/ArrayList$Itr" "this$0" "Ljava/util/ArrayList;", Cond.methodLink RJx35411 7 objectInit, Cond.instanceMethod objectInit, Cond.code objectInit ⟨#[0xb1]⟩ 1 none, Cond.fieldLink RJx35411 13 "java/util/ArrayList$Itr" "lastRet" "I", Cond.fieldLink RJx35411 17 "java/util/ArrayList" "modCount" "I", Cond.sameField "java/util/ArrayList" "java/util/AbstractList" "modCount" "I", Cond.fieldLink RJx35411 22 "java/util/ArrayList$Itr" "expectedModCount" "I", Cond.methodLink RX4 90 ⟨"java/util/Iterator", "hasNext", "()Z"⟩, Cond.selects RJx35411 ⟨"java/util/Iterator", "hasNext", "()Z"⟩ yJx35411_hasNext_aae02, Cond.instanceMethod yJx35411_hasNext_aae02, Cond.code yJx35411_hasNext_aae02 cJx35411_hasNext_aae02 1 (some .boolean), Cond.fieldLink RJx35411 25 "java/util/ArrayList$Itr" "cursor" "I", Cond.methodLink RX4 96 ⟨"java/util/Iterator", "next", "()Ljava/lang/Object;"⟩, Cond.selects RJx35411 ⟨"java/util/Iterator", "next", "()Ljava/lang/Object;"⟩ yJx35411_next_0502b, Cond.instanceMethod yJx35411_next_0502b, Cond.code yJx35411_next_0502b cJx35411_next_0502b 3 (some (.object "java/lang/Object")), Cond.fieldLink RJx35411 37 "java/util/ArrayList" "elementData" "[Ljava/lang/Object;", Cond.methodLink RJx35411 31 yJx35411_checkForComodification_da8c8, Cond.instanceMethod yJx35411_checkForComodification_da8c8, Cond.selects RJx35411 yJx35411_checkForComodification_da8c8 yJx35411_checkForComodification_da8c8, Cond.code yJx35411_checkForComodification_da8c8 cJx35411_checkForComodification_da8c8 1 none, Cond.methodLink RX4 101 yX4_ahead]
def wsX4_why_r3 : List Cond := [Cond.instanceMethod yX4_ahead, Cond.selects RX4 yX4_ahead yX4_ahead, Cond.code yX4_ahead cX4_ahead 2 (some .int), Cond.methodLink RX4 54 yX4_runs, Cond.instanceMethod yX4_runs, Cond.selects RX4 yX4_runs yX4_runs, Cond.code yX4_runs cX4_runs 2 (some .boolean), Cond.static yX5_sectionOf, Cond.initialized RX5, Cond.code yX5_sectionOf cX5_sectionOf 1 (some .int), Cond.methodLink RX5 20 Lib.Math.min.name]
def wsX4_why : List Cond := .code yX4_why cX4_why 4 (some .int) :: ((wsX4_why_r1 ++ (wsX4_why_r2 ++ wsX4_why_r3)) ++ wsX40 ++ wsJx354110 ++ wsJx4a65c0)
def wsX4_hears : List Cond := .code yX4_hears cX4_hears 2 (some .boolean) :: ([.fieldLink RX4 11 "BrakeCurveModel$Line" "sections" "[[I", .fieldLink RX4 19 "BrakeCurveModel$Line" "trains" "[[I", .static yX5_sectionOf, .initialized RX5, .code yX5_sectionOf cX5_sectionOf 1 (some .int), .methodLink RX5 20 Lib.Math.min.name, .static Lib.Math.min.name, .initialized "java/lang/Math", .code Lib.Math.min.name Lib.Math.min.code 2 (some .int)] ++ wsX40)
def wsX4_report : List Cond := .code yX4_report cX4_report 2 none :: ([.fieldLink RX4 45 "BrakeCurveModel$Line" "now" "I", .static yX5_rear, .initialized RX5, .code yX5_rear cX5_rear 1 (some .int)] ++ wsX40)
def wsX4_go_r1 : List Cond := [Cond.methodLink RX4 75 Lib.Math.min.name, Cond.static Lib.Math.min.name, Cond.initialized "java/lang/Math", Cond.code Lib.Math.min.name Lib.Math.min.code 2 (some .int), Cond.methodLink RX4 62 Lib.Math.max.name, Cond.static Lib.Math.max.name, Cond.code Lib.Math.max.name Lib.Math.max.code 2 (some .int), Cond.fieldLink RX4 16 "BrakeCurveModel$Line" "stations" "[[I", Cond.fieldLink RX4 34 "BrakeCurveModel$Line" "manyStations" "I", Cond.methodLink RX4 124 yX4_may, Cond.instanceMethod yX4_may, Cond.selects RX4 yX4_may yX4_may, Cond.initialized RX4, Cond.code yX4_may cX4_may 5 (some .int), Cond.fieldLink RX4 11 "BrakeCurveModel$Line" "sections" "[[I", Cond.static yX5_rear, Cond.initialized RX5, Cond.code yX5_rear cX5_rear 1 (some .int), Cond.static yX5_sectionOf, Cond.code yX5_sectionOf cX5_sectionOf 1 (some .int), Cond.methodLink RX5 20 Lib.Math.min.name, Cond.methodLink RX4 78 yX4_next, Cond.instanceMethod yX4_next, Cond.selects RX4 yX4_next yX4_next]
def wsX4_go_r2 : List Cond := [Cond.code yX4_next cX4_next 4 (some .int), Cond.methodLink RX4 81 yX4_stops, Cond.instanceMethod yX4_stops, Cond.selects RX4 yX4_stops yX4_stops, Cond.code yX4_stops cX4_stops 4 (some .int), Cond.methodLink RX4 68 yX4_hold, Cond.instanceMethod yX4_hold, Cond.selects RX4 yX4_hold yX4_hold, Cond.code yX4_hold cX4_hold 2 (some .int)]
def wsX4_go : List Cond := .code yX4_go cX4_go 5 none :: ((wsX4_go_r1 ++ wsX4_go_r2) ++ wsX40)
def wsX4_look : List Cond := .code yX4_look cX4_look 5 none :: ([.fieldLink RX4 19 "BrakeCurveModel$Line" "trains" "[[I", .methodLink RX4 75 Lib.Math.min.name, .static Lib.Math.min.name, .initialized "java/lang/Math", .code Lib.Math.min.name Lib.Math.min.code 2 (some .int), .methodLink RX4 101 yX4_ahead, .instanceMethod yX4_ahead, .selects RX4 yX4_ahead yX4_ahead, .initialized RX4, .code yX4_ahead cX4_ahead 2 (some .int), .methodLink RX4 54 yX4_runs, .instanceMethod yX4_runs, .selects RX4 yX4_runs yX4_runs, .code yX4_runs cX4_runs 2 (some .boolean), .static yX5_rear, .initialized RX5, .code yX5_rear cX5_rear 1 (some .int)] ++ wsX40)
def wsX4_pass_r1 : List Cond := [Cond.fieldLink RX4 45 "BrakeCurveModel$Line" "now" "I", Cond.fieldLink RX4 38 "BrakeCurveModel$Line" "manyTrains" "I", Cond.fieldLink RX4 19 "BrakeCurveModel$Line" "trains" "[[I", Cond.methodLink RX4 54 yX4_runs, Cond.instanceMethod yX4_runs, Cond.selects RX4 yX4_runs yX4_runs, Cond.initialized RX4, Cond.code yX4_runs cX4_runs 2 (some .boolean), Cond.methodLink RX4 107 yX4_hears, Cond.instanceMethod yX4_hears, Cond.selects RX4 yX4_hears yX4_hears, Cond.code yX4_hears cX4_hears 2 (some .boolean), Cond.fieldLink RX4 11 "BrakeCurveModel$Line" "sections" "[[I", Cond.static yX5_sectionOf, Cond.initialized RX5, Cond.code yX5_sectionOf cX5_sectionOf 1 (some .int), Cond.methodLink RX5 20 Lib.Math.min.name, Cond.static Lib.Math.min.name, Cond.initialized "java/lang/Math", Cond.code Lib.Math.min.name Lib.Math.min.code 2 (some .int), Cond.methodLink RX4 110 yX4_report, Cond.instanceMethod yX4_report, Cond.selects RX4 yX4_report yX4_report, Cond.code yX4_report cX4_report 2 none]
def wsX4_pass_r2 : List Cond := [Cond.static yX5_rear, Cond.code yX5_rear cX5_rear 1 (some .int), Cond.methodLink RX4 114 yX4_why, Cond.instanceMethod yX4_why, Cond.selects RX4 yX4_why yX4_why, Cond.code yX4_why cX4_why 4 (some .int), Cond.methodLink RX4 104 yX4_candidate, Cond.instanceMethod yX4_candidate, Cond.selects RX4 yX4_candidate yX4_candidate, Cond.code yX4_candidate cX4_candidate 7 (some .int), Cond.constant RX4 85 (1000000), Cond.fieldLink RX4 25 "BrakeCurveModel$Line" "works" "Ljava/util/ArrayList;", Cond.classLink RX4 99 "[I", Cond.methodLink RX4 75 Lib.Math.min.name, Cond.methodLink RX4 86 yJx4a65c_iterator_32c93, Cond.instanceMethod yJx4a65c_iterator_32c93, Cond.selects RJx4a65c yJx4a65c_iterator_32c93 yJx4a65c_iterator_32c93, Cond.initialized RJx4a65c, Cond.code yJx4a65c_iterator_32c93 cJx4a65c_iterator_32c93 1 (some (.object "java/util/Iterator")), Cond.classLink RJx4a65c 267 RJx35411, Cond.instantiable RJx35411 4, Cond.initialized RJx35411, Cond.methodLink RJx4a65c 269 yJx35411_init_45d68, Cond.instanceMethod yJx35411_init_45d68]
def wsX4_pass_r3 : List Cond := [Cond.code yJx35411_init_45d68 cJx35411_init_45d68 2 none, Cond.fieldLink RJx35411 1 "java/util/ArrayList$Itr" "this$0" "Ljava/util/ArrayList;", Cond.methodLink RJx35411 7 objectInit, Cond.instanceMethod objectInit, Cond.code objectInit ⟨#[0xb1]⟩ 1 none, Cond.fieldLink RJx35411 13 "java/util/ArrayList$Itr" "lastRet" "I", Cond.fieldLink RJx35411 17 "java/util/ArrayList" "modCount" "I", Cond.sameField "java/util/ArrayList" "java/util/AbstractList" "modCount" "I", Cond.fieldLink RJx35411 22 "java/util/ArrayList$Itr" "expectedModCount" "I", Cond.methodLink RX4 90 ⟨"java/util/Iterator", "hasNext", "()Z"⟩, Cond.selects RJx35411 ⟨"java/util/Iterator", "hasNext", "()Z"⟩ yJx35411_hasNext_aae02, Cond.instanceMethod yJx35411_hasNext_aae02, Cond.code yJx35411_hasNext_aae02 cJx35411_hasNext_aae02 1 (some .boolean), Cond.fieldLink RJx35411 25 "java/util/ArrayList$Itr" "cursor" "I", Cond.methodLink RX4 96 ⟨"java/util/Iterator", "next", "()Ljava/lang/Object;"⟩, Cond.selects RJx35411 ⟨"java/util/Iterator", "next", "()Ljava/lang/Object;"⟩ yJx35411_next_0502b, Cond.instanceMethod yJx35411_next_0502b, Cond.code yJx35411_next_0502b cJx35411_next_0502b 3 (some (.object "java/lang/Object")), Cond.fieldLink RJx35411 37 "java/util/ArrayList" "elementData" "[Ljava/lang/Object;", Cond.methodLink RJx35411 31 yJx35411_checkForComodification_da8c8, Cond.instanceMethod yJx35411_checkForComodification_da8c8, Cond.selects RJx35411 yJx35411_checkForComodification_da8c8 yJx35411_checkForComodification_da8c8, Cond.code yJx35411_checkForComodification_da8c8 cJx35411_checkForComodification_da8c8 1 none, Cond.methodLink RX4 101 yX4_ahead]
def wsX4_pass_r4 : List Cond := [Cond.instanceMethod yX4_ahead, Cond.selects RX4 yX4_ahead yX4_ahead, Cond.code yX4_ahead cX4_ahead 2 (some .int), Cond.methodLink RX4 117 yX4_go, Cond.instanceMethod yX4_go, Cond.selects RX4 yX4_go yX4_go, Cond.code yX4_go cX4_go 5 none, Cond.methodLink RX4 62 Lib.Math.max.name, Cond.static Lib.Math.max.name, Cond.code Lib.Math.max.name Lib.Math.max.code 2 (some .int), Cond.fieldLink RX4 16 "BrakeCurveModel$Line" "stations" "[[I", Cond.fieldLink RX4 34 "BrakeCurveModel$Line" "manyStations" "I", Cond.methodLink RX4 124 yX4_may, Cond.instanceMethod yX4_may, Cond.selects RX4 yX4_may yX4_may, Cond.code yX4_may cX4_may 5 (some .int), Cond.methodLink RX4 78 yX4_next, Cond.instanceMethod yX4_next, Cond.selects RX4 yX4_next yX4_next, Cond.code yX4_next cX4_next 4 (some .int), Cond.methodLink RX4 81 yX4_stops, Cond.instanceMethod yX4_stops, Cond.selects RX4 yX4_stops yX4_stops, Cond.code yX4_stops cX4_stops 4 (some .int)]
def wsX4_pass_r5 : List Cond := [Cond.methodLink RX4 68 yX4_hold, Cond.instanceMethod yX4_hold, Cond.selects RX4 yX4_hold yX4_hold, Cond.code yX4_hold cX4_hold 2 (some .int), Cond.methodLink RX4 120 yX4_look, Cond.instanceMethod yX4_look, Cond.selects RX4 yX4_look yX4_look, Cond.code yX4_look cX4_look 5 none]
def wsX4_pass : List Cond := .code yX4_pass cX4_pass 3 none :: ((wsX4_pass_r1 ++ (wsX4_pass_r2 ++ (wsX4_pass_r3 ++ (wsX4_pass_r4 ++ wsX4_pass_r5)))) ++ wsX40 ++ wsJx354110 ++ wsJx4a65c0)
def wsX4_pass__r1 : List Cond := [Cond.methodLink RX4 127 yX4_pass, Cond.instanceMethod yX4_pass, Cond.selects RX4 yX4_pass yX4_pass, Cond.initialized RX4, Cond.code yX4_pass cX4_pass 3 none, Cond.fieldLink RX4 45 "BrakeCurveModel$Line" "now" "I", Cond.fieldLink RX4 38 "BrakeCurveModel$Line" "manyTrains" "I", Cond.fieldLink RX4 19 "BrakeCurveModel$Line" "trains" "[[I", Cond.methodLink RX4 54 yX4_runs, Cond.instanceMethod yX4_runs, Cond.selects RX4 yX4_runs yX4_runs, Cond.code yX4_runs cX4_runs 2 (some .boolean), Cond.methodLink RX4 107 yX4_hears, Cond.instanceMethod yX4_hears, Cond.selects RX4 yX4_hears yX4_hears, Cond.code yX4_hears cX4_hears 2 (some .boolean), Cond.fieldLink RX4 11 "BrakeCurveModel$Line" "sections" "[[I", Cond.static yX5_sectionOf, Cond.initialized RX5, Cond.code yX5_sectionOf cX5_sectionOf 1 (some .int), Cond.methodLink RX5 20 Lib.Math.min.name, Cond.static Lib.Math.min.name, Cond.initialized "java/lang/Math", Cond.code Lib.Math.min.name Lib.Math.min.code 2 (some .int)]
def wsX4_pass__r2 : List Cond := [Cond.methodLink RX4 110 yX4_report, Cond.instanceMethod yX4_report, Cond.selects RX4 yX4_report yX4_report, Cond.code yX4_report cX4_report 2 none, Cond.static yX5_rear, Cond.code yX5_rear cX5_rear 1 (some .int), Cond.methodLink RX4 114 yX4_why, Cond.instanceMethod yX4_why, Cond.selects RX4 yX4_why yX4_why, Cond.code yX4_why cX4_why 4 (some .int), Cond.methodLink RX4 104 yX4_candidate, Cond.instanceMethod yX4_candidate, Cond.selects RX4 yX4_candidate yX4_candidate, Cond.code yX4_candidate cX4_candidate 7 (some .int), Cond.constant RX4 85 (1000000), Cond.fieldLink RX4 25 "BrakeCurveModel$Line" "works" "Ljava/util/ArrayList;", Cond.classLink RX4 99 "[I", Cond.methodLink RX4 75 Lib.Math.min.name, Cond.methodLink RX4 86 yJx4a65c_iterator_32c93, Cond.instanceMethod yJx4a65c_iterator_32c93, Cond.selects RJx4a65c yJx4a65c_iterator_32c93 yJx4a65c_iterator_32c93, Cond.initialized RJx4a65c, Cond.code yJx4a65c_iterator_32c93 cJx4a65c_iterator_32c93 1 (some (.object "java/util/Iterator")), Cond.classLink RJx4a65c 267 RJx35411]
def wsX4_pass__r3 : List Cond := [Cond.instantiable RJx35411 4, Cond.initialized RJx35411, Cond.methodLink RJx4a65c 269 yJx35411_init_45d68, Cond.instanceMethod yJx35411_init_45d68, Cond.code yJx35411_init_45d68 cJx35411_init_45d68 2 none, Cond.fieldLink RJx35411 1 "java/util/ArrayList$Itr" "this$0" "Ljava/util/ArrayList;", Cond.methodLink RJx35411 7 objectInit, Cond.instanceMethod objectInit, Cond.code objectInit ⟨#[0xb1]⟩ 1 none, Cond.fieldLink RJx35411 13 "java/util/ArrayList$Itr" "lastRet" "I", Cond.fieldLink RJx35411 17 "java/util/ArrayList" "modCount" "I", Cond.sameField "java/util/ArrayList" "java/util/AbstractList" "modCount" "I", Cond.fieldLink RJx35411 22 "java/util/ArrayList$Itr" "expectedModCount" "I", Cond.methodLink RX4 90 ⟨"java/util/Iterator", "hasNext", "()Z"⟩, Cond.selects RJx35411 ⟨"java/util/Iterator", "hasNext", "()Z"⟩ yJx35411_hasNext_aae02, Cond.instanceMethod yJx35411_hasNext_aae02, Cond.code yJx35411_hasNext_aae02 cJx35411_hasNext_aae02 1 (some .boolean), Cond.fieldLink RJx35411 25 "java/util/ArrayList$Itr" "cursor" "I", Cond.methodLink RX4 96 ⟨"java/util/Iterator", "next", "()Ljava/lang/Object;"⟩, Cond.selects RJx35411 ⟨"java/util/Iterator", "next", "()Ljava/lang/Object;"⟩ yJx35411_next_0502b, Cond.instanceMethod yJx35411_next_0502b, Cond.code yJx35411_next_0502b cJx35411_next_0502b 3 (some (.object "java/lang/Object")), Cond.fieldLink RJx35411 37 "java/util/ArrayList" "elementData" "[Ljava/lang/Object;", Cond.methodLink RJx35411 31 yJx35411_checkForComodification_da8c8]
def wsX4_pass__r4 : List Cond := [Cond.instanceMethod yJx35411_checkForComodification_da8c8, Cond.selects RJx35411 yJx35411_checkForComodification_da8c8 yJx35411_checkForComodification_da8c8, Cond.code yJx35411_checkForComodification_da8c8 cJx35411_checkForComodification_da8c8 1 none, Cond.methodLink RX4 101 yX4_ahead, Cond.instanceMethod yX4_ahead, Cond.selects RX4 yX4_ahead yX4_ahead, Cond.code yX4_ahead cX4_ahead 2 (some .int), Cond.methodLink RX4 117 yX4_go, Cond.instanceMethod yX4_go, Cond.selects RX4 yX4_go yX4_go, Cond.code yX4_go cX4_go 5 none, Cond.methodLink RX4 62 Lib.Math.max.name, Cond.static Lib.Math.max.name, Cond.code Lib.Math.max.name Lib.Math.max.code 2 (some .int), Cond.fieldLink RX4 16 "BrakeCurveModel$Line" "stations" "[[I", Cond.fieldLink RX4 34 "BrakeCurveModel$Line" "manyStations" "I", Cond.methodLink RX4 124 yX4_may, Cond.instanceMethod yX4_may, Cond.selects RX4 yX4_may yX4_may, Cond.code yX4_may cX4_may 5 (some .int), Cond.methodLink RX4 78 yX4_next, Cond.instanceMethod yX4_next, Cond.selects RX4 yX4_next yX4_next, Cond.code yX4_next cX4_next 4 (some .int)]
def wsX4_pass__r5 : List Cond := [Cond.methodLink RX4 81 yX4_stops, Cond.instanceMethod yX4_stops, Cond.selects RX4 yX4_stops yX4_stops, Cond.code yX4_stops cX4_stops 4 (some .int), Cond.methodLink RX4 68 yX4_hold, Cond.instanceMethod yX4_hold, Cond.selects RX4 yX4_hold yX4_hold, Cond.code yX4_hold cX4_hold 2 (some .int), Cond.methodLink RX4 120 yX4_look, Cond.instanceMethod yX4_look, Cond.selects RX4 yX4_look yX4_look, Cond.code yX4_look cX4_look 5 none]
def wsX4_pass_ : List Cond := .code yX4_pass_ cX4_pass_ 3 none :: ((wsX4_pass__r1 ++ (wsX4_pass__r2 ++ (wsX4_pass__r3 ++ (wsX4_pass__r4 ++ wsX4_pass__r5)))) ++ wsX40 ++ wsJx354110 ++ wsJx4a65c0)
def wsX4_isIn : List Cond := .code yX4_isIn cX4_isIn 4 (some .boolean) :: ([.fieldLink RX4 19 "BrakeCurveModel$Line" "trains" "[[I", .methodLink RX4 54 yX4_runs, .instanceMethod yX4_runs, .selects RX4 yX4_runs yX4_runs, .initialized RX4, .code yX4_runs cX4_runs 2 (some .boolean), .static yX5_rear, .initialized RX5, .code yX5_rear cX5_rear 1 (some .int), .static yX5_sectionOf, .code yX5_sectionOf cX5_sectionOf 1 (some .int), .methodLink RX5 20 Lib.Math.min.name, .static Lib.Math.min.name, .initialized "java/lang/Math", .code Lib.Math.min.name Lib.Math.min.code 2 (some .int)] ++ wsX40)
def wsX4_hinders : List Cond := .code yX4_hinders cX4_hinders 5 (some .int) :: ([.fieldLink RX4 38 "BrakeCurveModel$Line" "manyTrains" "I", .fieldLink RX4 19 "BrakeCurveModel$Line" "trains" "[[I", .methodLink RX4 130 yX4_isIn, .instanceMethod yX4_isIn, .selects RX4 yX4_isIn yX4_isIn, .initialized RX4, .code yX4_isIn cX4_isIn 4 (some .boolean), .methodLink RX4 54 yX4_runs, .instanceMethod yX4_runs, .selects RX4 yX4_runs yX4_runs, .code yX4_runs cX4_runs 2 (some .boolean), .static yX5_rear, .initialized RX5, .code yX5_rear cX5_rear 1 (some .int), .static yX5_sectionOf, .code yX5_sectionOf cX5_sectionOf 1 (some .int), .methodLink RX5 20 Lib.Math.min.name, .static Lib.Math.min.name, .initialized "java/lang/Math", .code Lib.Math.min.name Lib.Math.min.code 2 (some .int)] ++ wsX40)
def wsX4_sum : List Cond := .code yX4_sum cX4_sum 4 (some .int) :: ([.fieldLink RX4 38 "BrakeCurveModel$Line" "manyTrains" "I", .fieldLink RX4 19 "BrakeCurveModel$Line" "trains" "[[I"] ++ wsX40)
def wsX5_init_r1 : List Cond := [Cond.methodLink RX5 1 objectInit, Cond.instanceMethod objectInit, Cond.code objectInit ⟨#[0xb1]⟩ 1 none, Cond.classLink RX5 7 RX4, Cond.instantiable RX4 7, Cond.initialized RX4, Cond.fieldLink RX5 10 "BrakeCurveModel" "line" "LBrakeCurveModel$Line;", Cond.methodLink RX5 9 yX4_init, Cond.instanceMethod yX4_init, Cond.code yX4_init cX4_init 5 none, Cond.methodLink RX4 3 objectInit, Cond.classLink RX4 9 "[[I", Cond.arrayClass .int, Cond.fieldLink RX4 11 "BrakeCurveModel$Line" "sections" "[[I", Cond.fieldLink RX4 16 "BrakeCurveModel$Line" "stations" "[[I", Cond.fieldLink RX4 19 "BrakeCurveModel$Line" "trains" "[[I", Cond.classLink RX4 22 RJx4a65c, Cond.instantiable RJx4a65c 3, Cond.initialized RJx4a65c, Cond.fieldLink RX4 25 "BrakeCurveModel$Line" "works" "Ljava/util/ArrayList;", Cond.methodLink RX4 24 yJx4a65c_init_da8c8, Cond.instanceMethod yJx4a65c_init_da8c8, Cond.code yJx4a65c_init_da8c8 cJx4a65c_init_da8c8 1 none, Cond.fieldLink RJx4a65c 39 "java/util/ArrayList" "DEFAULTCAPACITY_EMPTY_ELEMENTDATA" "[Ljava/lang/Object;"]
def wsX5_init_r2 : List Cond := [Cond.fieldLink RJx4a65c 9 "java/util/ArrayList" "elementData" "[Ljava/lang/Object;", Cond.methodLink RJx4a65c 1 yJxc12de_init_da8c8, Cond.instanceMethod yJxc12de_init_da8c8, Cond.initialized RJxc12de, Cond.code yJxc12de_init_da8c8 cJxc12de_init_da8c8 1 none, Cond.fieldLink RJxc12de 7 "java/util/AbstractList" "modCount" "I", Cond.methodLink RJxc12de 1 yJxa1e45_init_da8c8, Cond.instanceMethod yJxa1e45_init_da8c8, Cond.initialized RJxa1e45, Cond.code yJxa1e45_init_da8c8 cJxa1e45_init_da8c8 1 none, Cond.methodLink RJxa1e45 1 objectInit]
def wsX5_init : List Cond := .code yX5_init cX5_init 1 none :: ((wsX5_init_r1 ++ wsX5_init_r2) ++ wsX40 ++ wsX50 ++ wsJx4a65c0)
def wsX5_thrown : List Cond := .code yX5_thrown cX5_thrown 1 (some .int) :: ([.fieldLink RX5 16 "BrakeCurveModel" "thrown" "I"] ++ wsX50)
def wsX5_refuse : List Cond := .code yX5_refuse cX5_refuse 2 (some .int) :: ([.fieldLink RX5 16 "BrakeCurveModel" "thrown" "I"] ++ wsX50)
def wsX5_is : List Cond := .code yX5_is cX5_is 3 (some .boolean) :: ([])
def wsX5_isSection : List Cond := .code yX5_isSection cX5_isSection 1 (some .boolean) :: ([.methodLink RX5 26 yX5_is, .static yX5_is, .initialized RX5, .code yX5_is cX5_is 3 (some .boolean)])
def wsX5_isTrain : List Cond := .code yX5_isTrain cX5_isTrain 2 (some .boolean) :: ([.fieldLink RX5 10 "BrakeCurveModel" "line" "LBrakeCurveModel$Line;", .methodLink RX5 26 yX5_is, .static yX5_is, .initialized RX5, .code yX5_is cX5_is 3 (some .boolean)] ++ wsX50 ++ wsX40)
def wsX5_isStation : List Cond := .code yX5_isStation cX5_isStation 2 (some .boolean) :: ([.fieldLink RX5 10 "BrakeCurveModel" "line" "LBrakeCurveModel$Line;", .methodLink RX5 26 yX5_is, .static yX5_is, .initialized RX5, .code yX5_is cX5_is 3 (some .boolean)] ++ wsX50 ++ wsX40)
def wsX5_isLimit : List Cond := .code yX5_isLimit cX5_isLimit 1 (some .boolean) :: ([.methodLink RX5 26 yX5_is, .static yX5_is, .initialized RX5, .code yX5_is cX5_is 3 (some .boolean)])
def wsX5_section : List Cond := .code yX5_section cX5_section 6 (some .int) :: ([.fieldLink RX5 16 "BrakeCurveModel" "thrown" "I", .fieldLink RX5 10 "BrakeCurveModel" "line" "LBrakeCurveModel$Line;", .methodLink RX5 36 yX5_isSection, .static yX5_isSection, .initialized RX5, .code yX5_isSection cX5_isSection 1 (some .boolean), .methodLink RX5 26 yX5_is, .static yX5_is, .code yX5_is cX5_is 3 (some .boolean), .methodLink RX5 40 yX5_refuse, .instanceMethod yX5_refuse, .selects RX5 yX5_refuse yX5_refuse, .code yX5_refuse cX5_refuse 2 (some .int), .methodLink RX5 44 yX5_isLimit, .static yX5_isLimit, .code yX5_isLimit cX5_isLimit 1 (some .boolean)] ++ wsX50 ++ wsX40)
def wsX5_isRunning : List Cond := .code yX5_isRunning cX5_isRunning 3 (some .boolean) :: ([.fieldLink RX5 10 "BrakeCurveModel" "line" "LBrakeCurveModel$Line;", .methodLink RX5 51 yX4_runs, .instanceMethod yX4_runs, .selects RX4 yX4_runs yX4_runs, .initialized RX4, .code yX4_runs cX4_runs 2 (some .boolean), .fieldLink RX4 19 "BrakeCurveModel$Line" "trains" "[[I"] ++ wsX50 ++ wsX40)
def wsX5_station : List Cond := .code yX5_station cX5_station 5 (some .int) :: ([.fieldLink RX5 16 "BrakeCurveModel" "thrown" "I", .fieldLink RX5 10 "BrakeCurveModel" "line" "LBrakeCurveModel$Line;", .methodLink RX5 26 yX5_is, .static yX5_is, .initialized RX5, .code yX5_is cX5_is 3 (some .boolean), .methodLink RX5 40 yX5_refuse, .instanceMethod yX5_refuse, .selects RX5 yX5_refuse yX5_refuse, .code yX5_refuse cX5_refuse 2 (some .int), .methodLink RX5 57 yX5_isRunning, .instanceMethod yX5_isRunning, .selects RX5 yX5_isRunning yX5_isRunning, .code yX5_isRunning cX5_isRunning 3 (some .boolean), .methodLink RX5 51 yX4_runs, .instanceMethod yX4_runs, .selects RX4 yX4_runs yX4_runs, .initialized RX4, .code yX4_runs cX4_runs 2 (some .boolean), .fieldLink RX4 19 "BrakeCurveModel$Line" "trains" "[[I"] ++ wsX50 ++ wsX40)
def wsX5_train : List Cond := .code yX5_train cX5_train 8 (some .int) :: ([.fieldLink RX5 16 "BrakeCurveModel" "thrown" "I", .fieldLink RX5 10 "BrakeCurveModel" "line" "LBrakeCurveModel$Line;", .methodLink RX5 26 yX5_is, .static yX5_is, .initialized RX5, .code yX5_is cX5_is 3 (some .boolean), .methodLink RX5 40 yX5_refuse, .instanceMethod yX5_refuse, .selects RX5 yX5_refuse yX5_refuse, .code yX5_refuse cX5_refuse 2 (some .int), .methodLink RX5 51 yX4_runs, .instanceMethod yX4_runs, .selects RX4 yX4_runs yX4_runs, .initialized RX4, .code yX4_runs cX4_runs 2 (some .boolean), .fieldLink RX4 19 "BrakeCurveModel$Line" "trains" "[[I", .methodLink RX5 64 yX5_rear, .static yX5_rear, .code yX5_rear cX5_rear 1 (some .int), .methodLink RX5 71 yX4_report, .instanceMethod yX4_report, .selects RX4 yX4_report yX4_report, .code yX4_report cX4_report 2 none, .fieldLink RX4 45 "BrakeCurveModel$Line" "now" "I"] ++ wsX50 ++ wsX40)
def wsX5_whole : List Cond := .code yX5_whole cX5_whole 4 (some .boolean) :: ([.fieldLink RX5 16 "BrakeCurveModel" "thrown" "I", .fieldLink RX5 10 "BrakeCurveModel" "line" "LBrakeCurveModel$Line;", .methodLink RX5 75 yX5_isTrain, .instanceMethod yX5_isTrain, .selects RX5 yX5_isTrain yX5_isTrain, .initialized RX5, .code yX5_isTrain cX5_isTrain 2 (some .boolean), .methodLink RX5 26 yX5_is, .static yX5_is, .code yX5_is cX5_is 3 (some .boolean)] ++ wsX50 ++ wsX40)
def wsJx4a65c_size_8abf5 : List Cond := .code yJx4a65c_size_8abf5 cJx4a65c_size_8abf5 1 (some .int) :: ([.fieldLink RJx4a65c 48 "java/util/ArrayList" "size" "I"] ++ wsJx4a65c0)
def wsJx4a65c_grow_d5877_r1 : List Cond := [Cond.fieldLink RJx4a65c 48 "java/util/ArrayList" "size" "I", Cond.methodLink RJx4a65c 69 yJx4a65c_grow_92f84, Cond.instanceMethod yJx4a65c_grow_92f84, Cond.selects RJx4a65c yJx4a65c_grow_92f84 yJx4a65c_grow_92f84, Cond.initialized RJx4a65c, Cond.code yJx4a65c_grow_92f84 cJx4a65c_grow_92f84 4 (some (.array (.object "java/lang/Object"))), Cond.fieldLink RJx4a65c 9 "java/util/ArrayList" "elementData" "[Ljava/lang/Object;", Cond.fieldLink RJx4a65c 39 "java/util/ArrayList" "DEFAULTCAPACITY_EMPTY_ELEMENTDATA" "[Ljava/lang/Object;", Cond.methodLink RJx4a65c 79 Lib.Math.max.name, Cond.static Lib.Math.max.name, Cond.initialized "java/lang/Math", Cond.code Lib.Math.max.name Lib.Math.max.code 2 (some .int), Cond.classLink RJx4a65c 7 "java/lang/Object", Cond.methodLink RJx4a65c 73 yJ8_newLength_cabcc, Cond.static yJ8_newLength_cabcc, Cond.initialized RJ8, Cond.code yJ8_newLength_cabcc cJ8_newLength_cabcc 4 (some .int), Cond.methodLink RJ8 194 Lib.Math.max.name, Cond.constant RJ8 200 (2147483639), Cond.methodLink RJ8 201 yJ8_hugeLength_7cf53, Cond.static yJ8_hugeLength_7cf53, Cond.code yJ8_hugeLength_7cf53 cJ8_hugeLength_7cf53 3 (some .int), Cond.methodLink RJx4a65c 66 yJ7_copyOf_1904c, Cond.static yJ7_copyOf_1904c]
def wsJx4a65c_grow_d5877_r2 : List Cond := [Cond.initialized RJ7, Cond.code yJ7_copyOf_1904c cJ7_copyOf_1904c 2 (some (.array (.object "java/lang/Object"))), Cond.methodLink RJ7 86 ⟨"java/lang/Object", "getClass", "()Ljava/lang/Class;"⟩, Cond.selects "[Ljava/lang/Object;" ⟨"java/lang/Object", "getClass", "()Ljava/lang/Class;"⟩ ⟨"java/lang/Object", "getClass", "()Ljava/lang/Class;"⟩, Cond.instanceMethod ⟨"java/lang/Object", "getClass", "()Ljava/lang/Class;"⟩, Cond.native ⟨"java/lang/Object", "getClass", "()Ljava/lang/Class;"⟩, Cond.methodLink RJ7 300 yJ7_copyOf_6403c, Cond.static yJ7_copyOf_6403c, Cond.code yJ7_copyOf_6403c cJ7_copyOf_6403c 4 (some (.array (.object "java/lang/Object"))), Cond.classLink RJ7 110 "[Ljava/lang/Object;", Cond.classLink RJ7 2 "java/lang/Object", Cond.methodLink RJ7 304 Lib.Math.min.name, Cond.static Lib.Math.min.name, Cond.code Lib.Math.min.name Lib.Math.min.code 2 (some .int), Cond.methodLink RJ7 150 arraycopyName, Cond.native arraycopyName, Cond.static arraycopyName, Cond.initialized "java/lang/System"]
def wsJx4a65c_grow_d5877 : List Cond := .code yJx4a65c_grow_d5877 cJx4a65c_grow_d5877 1 (some (.array (.object "java/lang/Object"))) :: ((wsJx4a65c_grow_d5877_r1 ++ wsJx4a65c_grow_d5877_r2) ++ wsJx4a65c0)
def wsJx4a65c_add_72be8_r1 : List Cond := [Cond.fieldLink RJx4a65c 48 "java/util/ArrayList" "size" "I", Cond.methodLink RJx4a65c 129 yJx4a65c_grow_d5877, Cond.instanceMethod yJx4a65c_grow_d5877, Cond.selects RJx4a65c yJx4a65c_grow_d5877 yJx4a65c_grow_d5877, Cond.initialized RJx4a65c, Cond.code yJx4a65c_grow_d5877 cJx4a65c_grow_d5877 1 (some (.array (.object "java/lang/Object"))), Cond.methodLink RJx4a65c 69 yJx4a65c_grow_92f84, Cond.instanceMethod yJx4a65c_grow_92f84, Cond.selects RJx4a65c yJx4a65c_grow_92f84 yJx4a65c_grow_92f84, Cond.code yJx4a65c_grow_92f84 cJx4a65c_grow_92f84 4 (some (.array (.object "java/lang/Object"))), Cond.fieldLink RJx4a65c 9 "java/util/ArrayList" "elementData" "[Ljava/lang/Object;", Cond.fieldLink RJx4a65c 39 "java/util/ArrayList" "DEFAULTCAPACITY_EMPTY_ELEMENTDATA" "[Ljava/lang/Object;", Cond.methodLink RJx4a65c 79 Lib.Math.max.name, Cond.static Lib.Math.max.name, Cond.initialized "java/lang/Math", Cond.code Lib.Math.max.name Lib.Math.max.code 2 (some .int), Cond.classLink RJx4a65c 7 "java/lang/Object", Cond.methodLink RJx4a65c 73 yJ8_newLength_cabcc, Cond.static yJ8_newLength_cabcc, Cond.initialized RJ8, Cond.code yJ8_newLength_cabcc cJ8_newLength_cabcc 4 (some .int), Cond.methodLink RJ8 194 Lib.Math.max.name, Cond.constant RJ8 200 (2147483639), Cond.methodLink RJ8 201 yJ8_hugeLength_7cf53]
def wsJx4a65c_add_72be8_r2 : List Cond := [Cond.static yJ8_hugeLength_7cf53, Cond.code yJ8_hugeLength_7cf53 cJ8_hugeLength_7cf53 3 (some .int), Cond.methodLink RJx4a65c 66 yJ7_copyOf_1904c, Cond.static yJ7_copyOf_1904c, Cond.initialized RJ7, Cond.code yJ7_copyOf_1904c cJ7_copyOf_1904c 2 (some (.array (.object "java/lang/Object"))), Cond.methodLink RJ7 86 ⟨"java/lang/Object", "getClass", "()Ljava/lang/Class;"⟩, Cond.selects "[Ljava/lang/Object;" ⟨"java/lang/Object", "getClass", "()Ljava/lang/Class;"⟩ ⟨"java/lang/Object", "getClass", "()Ljava/lang/Class;"⟩, Cond.instanceMethod ⟨"java/lang/Object", "getClass", "()Ljava/lang/Class;"⟩, Cond.native ⟨"java/lang/Object", "getClass", "()Ljava/lang/Class;"⟩, Cond.methodLink RJ7 300 yJ7_copyOf_6403c, Cond.static yJ7_copyOf_6403c, Cond.code yJ7_copyOf_6403c cJ7_copyOf_6403c 4 (some (.array (.object "java/lang/Object"))), Cond.classLink RJ7 110 "[Ljava/lang/Object;", Cond.classLink RJ7 2 "java/lang/Object", Cond.methodLink RJ7 304 Lib.Math.min.name, Cond.static Lib.Math.min.name, Cond.code Lib.Math.min.name Lib.Math.min.code 2 (some .int), Cond.methodLink RJ7 150 arraycopyName, Cond.native arraycopyName, Cond.static arraycopyName, Cond.initialized "java/lang/System"]
def wsJx4a65c_add_72be8 : List Cond := .code yJx4a65c_add_72be8 cJx4a65c_add_72be8 4 none :: ((wsJx4a65c_add_72be8_r1 ++ wsJx4a65c_add_72be8_r2) ++ wsJx4a65c0)
def wsJx4a65c_add_9ea2d_r1 : List Cond := [Cond.fieldLink RJx4a65c 63 "java/util/ArrayList" "modCount" "I", Cond.sameField "java/util/ArrayList" "java/util/AbstractList" "modCount" "I", Cond.fieldLink RJx4a65c 9 "java/util/ArrayList" "elementData" "[Ljava/lang/Object;", Cond.fieldLink RJx4a65c 48 "java/util/ArrayList" "size" "I", Cond.methodLink RJx4a65c 131 yJx4a65c_add_72be8, Cond.instanceMethod yJx4a65c_add_72be8, Cond.selects RJx4a65c yJx4a65c_add_72be8 yJx4a65c_add_72be8, Cond.initialized RJx4a65c, Cond.code yJx4a65c_add_72be8 cJx4a65c_add_72be8 4 none, Cond.methodLink RJx4a65c 129 yJx4a65c_grow_d5877, Cond.instanceMethod yJx4a65c_grow_d5877, Cond.selects RJx4a65c yJx4a65c_grow_d5877 yJx4a65c_grow_d5877, Cond.code yJx4a65c_grow_d5877 cJx4a65c_grow_d5877 1 (some (.array (.object "java/lang/Object"))), Cond.methodLink RJx4a65c 69 yJx4a65c_grow_92f84, Cond.instanceMethod yJx4a65c_grow_92f84, Cond.selects RJx4a65c yJx4a65c_grow_92f84 yJx4a65c_grow_92f84, Cond.code yJx4a65c_grow_92f84 cJx4a65c_grow_92f84 4 (some (.array (.object "java/lang/Object"))), Cond.fieldLink RJx4a65c 39 "java/util/ArrayList" "DEFAULTCAPACITY_EMPTY_ELEMENTDATA" "[Ljava/lang/Object;", Cond.methodLink RJx4a65c 79 Lib.Math.max.name, Cond.static Lib.Math.max.name, Cond.initialized "java/lang/Math", Cond.code Lib.Math.max.name Lib.Math.max.code 2 (some .int), Cond.classLink RJx4a65c 7 "java/lang/Object", Cond.methodLink RJx4a65c 73 yJ8_newLength_cabcc]
def wsJx4a65c_add_9ea2d_r2 : List Cond := [Cond.static yJ8_newLength_cabcc, Cond.initialized RJ8, Cond.code yJ8_newLength_cabcc cJ8_newLength_cabcc 4 (some .int), Cond.methodLink RJ8 194 Lib.Math.max.name, Cond.constant RJ8 200 (2147483639), Cond.methodLink RJ8 201 yJ8_hugeLength_7cf53, Cond.static yJ8_hugeLength_7cf53, Cond.code yJ8_hugeLength_7cf53 cJ8_hugeLength_7cf53 3 (some .int), Cond.methodLink RJx4a65c 66 yJ7_copyOf_1904c, Cond.static yJ7_copyOf_1904c, Cond.initialized RJ7, Cond.code yJ7_copyOf_1904c cJ7_copyOf_1904c 2 (some (.array (.object "java/lang/Object"))), Cond.methodLink RJ7 86 ⟨"java/lang/Object", "getClass", "()Ljava/lang/Class;"⟩, Cond.selects "[Ljava/lang/Object;" ⟨"java/lang/Object", "getClass", "()Ljava/lang/Class;"⟩ ⟨"java/lang/Object", "getClass", "()Ljava/lang/Class;"⟩, Cond.instanceMethod ⟨"java/lang/Object", "getClass", "()Ljava/lang/Class;"⟩, Cond.native ⟨"java/lang/Object", "getClass", "()Ljava/lang/Class;"⟩, Cond.methodLink RJ7 300 yJ7_copyOf_6403c, Cond.static yJ7_copyOf_6403c, Cond.code yJ7_copyOf_6403c cJ7_copyOf_6403c 4 (some (.array (.object "java/lang/Object"))), Cond.classLink RJ7 110 "[Ljava/lang/Object;", Cond.classLink RJ7 2 "java/lang/Object", Cond.methodLink RJ7 304 Lib.Math.min.name, Cond.static Lib.Math.min.name, Cond.code Lib.Math.min.name Lib.Math.min.code 2 (some .int)]
def wsJx4a65c_add_9ea2d_r3 : List Cond := [Cond.methodLink RJ7 150 arraycopyName, Cond.native arraycopyName, Cond.static arraycopyName, Cond.initialized "java/lang/System"]
def wsJx4a65c_add_9ea2d : List Cond := .code yJx4a65c_add_9ea2d cJx4a65c_add_9ea2d 2 (some .boolean) :: ((wsJx4a65c_add_9ea2d_r1 ++ (wsJx4a65c_add_9ea2d_r2 ++ wsJx4a65c_add_9ea2d_r3)) ++ wsJx4a65c0)
def wsX5_works_r1 : List Cond := [Cond.fieldLink RX5 16 "BrakeCurveModel" "thrown" "I", Cond.fieldLink RX5 10 "BrakeCurveModel" "line" "LBrakeCurveModel$Line;", Cond.arrayClass .int, Cond.methodLink RX5 36 yX5_isSection, Cond.static yX5_isSection, Cond.initialized RX5, Cond.code yX5_isSection cX5_isSection 1 (some .boolean), Cond.methodLink RX5 26 yX5_is, Cond.static yX5_is, Cond.code yX5_is cX5_is 3 (some .boolean), Cond.methodLink RX5 40 yX5_refuse, Cond.instanceMethod yX5_refuse, Cond.selects RX5 yX5_refuse yX5_refuse, Cond.code yX5_refuse cX5_refuse 2 (some .int), Cond.methodLink RX5 82 yJx4a65c_size_8abf5, Cond.instanceMethod yJx4a65c_size_8abf5, Cond.selects RJx4a65c yJx4a65c_size_8abf5 yJx4a65c_size_8abf5, Cond.initialized RJx4a65c, Cond.code yJx4a65c_size_8abf5 cJx4a65c_size_8abf5 1 (some .int), Cond.fieldLink RJx4a65c 48 "java/util/ArrayList" "size" "I", Cond.methodLink RX5 88 yX4_hinders, Cond.instanceMethod yX4_hinders, Cond.selects RX4 yX4_hinders yX4_hinders, Cond.initialized RX4]
def wsX5_works_r2 : List Cond := [Cond.code yX4_hinders cX4_hinders 5 (some .int), Cond.fieldLink RX4 38 "BrakeCurveModel$Line" "manyTrains" "I", Cond.fieldLink RX4 19 "BrakeCurveModel$Line" "trains" "[[I", Cond.methodLink RX4 130 yX4_isIn, Cond.instanceMethod yX4_isIn, Cond.selects RX4 yX4_isIn yX4_isIn, Cond.code yX4_isIn cX4_isIn 4 (some .boolean), Cond.methodLink RX4 54 yX4_runs, Cond.instanceMethod yX4_runs, Cond.selects RX4 yX4_runs yX4_runs, Cond.code yX4_runs cX4_runs 2 (some .boolean), Cond.static yX5_rear, Cond.code yX5_rear cX5_rear 1 (some .int), Cond.static yX5_sectionOf, Cond.code yX5_sectionOf cX5_sectionOf 1 (some .int), Cond.methodLink RX5 20 Lib.Math.min.name, Cond.static Lib.Math.min.name, Cond.initialized "java/lang/Math", Cond.code Lib.Math.min.name Lib.Math.min.code 2 (some .int), Cond.methodLink RX5 91 yJx4a65c_add_9ea2d, Cond.instanceMethod yJx4a65c_add_9ea2d, Cond.selects RJx4a65c yJx4a65c_add_9ea2d yJx4a65c_add_9ea2d, Cond.code yJx4a65c_add_9ea2d cJx4a65c_add_9ea2d 2 (some .boolean), Cond.fieldLink RJx4a65c 63 "java/util/ArrayList" "modCount" "I"]
def wsX5_works_r3 : List Cond := [Cond.sameField "java/util/ArrayList" "java/util/AbstractList" "modCount" "I", Cond.fieldLink RJx4a65c 9 "java/util/ArrayList" "elementData" "[Ljava/lang/Object;", Cond.methodLink RJx4a65c 131 yJx4a65c_add_72be8, Cond.instanceMethod yJx4a65c_add_72be8, Cond.selects RJx4a65c yJx4a65c_add_72be8 yJx4a65c_add_72be8, Cond.code yJx4a65c_add_72be8 cJx4a65c_add_72be8 4 none, Cond.methodLink RJx4a65c 129 yJx4a65c_grow_d5877, Cond.instanceMethod yJx4a65c_grow_d5877, Cond.selects RJx4a65c yJx4a65c_grow_d5877 yJx4a65c_grow_d5877, Cond.code yJx4a65c_grow_d5877 cJx4a65c_grow_d5877 1 (some (.array (.object "java/lang/Object"))), Cond.methodLink RJx4a65c 69 yJx4a65c_grow_92f84, Cond.instanceMethod yJx4a65c_grow_92f84, Cond.selects RJx4a65c yJx4a65c_grow_92f84 yJx4a65c_grow_92f84, Cond.code yJx4a65c_grow_92f84 cJx4a65c_grow_92f84 4 (some (.array (.object "java/lang/Object"))), Cond.fieldLink RJx4a65c 39 "java/util/ArrayList" "DEFAULTCAPACITY_EMPTY_ELEMENTDATA" "[Ljava/lang/Object;", Cond.methodLink RJx4a65c 79 Lib.Math.max.name, Cond.static Lib.Math.max.name, Cond.code Lib.Math.max.name Lib.Math.max.code 2 (some .int), Cond.classLink RJx4a65c 7 "java/lang/Object", Cond.methodLink RJx4a65c 73 yJ8_newLength_cabcc, Cond.static yJ8_newLength_cabcc, Cond.initialized RJ8, Cond.code yJ8_newLength_cabcc cJ8_newLength_cabcc 4 (some .int), Cond.methodLink RJ8 194 Lib.Math.max.name]
def wsX5_works_r4 : List Cond := [Cond.constant RJ8 200 (2147483639), Cond.methodLink RJ8 201 yJ8_hugeLength_7cf53, Cond.static yJ8_hugeLength_7cf53, Cond.code yJ8_hugeLength_7cf53 cJ8_hugeLength_7cf53 3 (some .int), Cond.methodLink RJx4a65c 66 yJ7_copyOf_1904c, Cond.static yJ7_copyOf_1904c, Cond.initialized RJ7, Cond.code yJ7_copyOf_1904c cJ7_copyOf_1904c 2 (some (.array (.object "java/lang/Object"))), Cond.methodLink RJ7 86 ⟨"java/lang/Object", "getClass", "()Ljava/lang/Class;"⟩, Cond.selects "[Ljava/lang/Object;" ⟨"java/lang/Object", "getClass", "()Ljava/lang/Class;"⟩ ⟨"java/lang/Object", "getClass", "()Ljava/lang/Class;"⟩, Cond.instanceMethod ⟨"java/lang/Object", "getClass", "()Ljava/lang/Class;"⟩, Cond.native ⟨"java/lang/Object", "getClass", "()Ljava/lang/Class;"⟩, Cond.methodLink RJ7 300 yJ7_copyOf_6403c, Cond.static yJ7_copyOf_6403c, Cond.code yJ7_copyOf_6403c cJ7_copyOf_6403c 4 (some (.array (.object "java/lang/Object"))), Cond.classLink RJ7 110 "[Ljava/lang/Object;", Cond.classLink RJ7 2 "java/lang/Object", Cond.methodLink RJ7 304 Lib.Math.min.name, Cond.methodLink RJ7 150 arraycopyName, Cond.native arraycopyName, Cond.static arraycopyName, Cond.initialized "java/lang/System"]
def wsX5_works : List Cond := .code yX5_works cX5_works 5 (some .int) :: ((wsX5_works_r1 ++ (wsX5_works_r2 ++ (wsX5_works_r3 ++ wsX5_works_r4))) ++ wsX50 ++ wsX40 ++ wsJx4a65c0)
def wsJ3_checkIndex_8e157 : List Cond := .code yJ3_checkIndex_8e157 cJ3_checkIndex_8e157 3 (some .int) :: ([])
def wsJ15_checkIndex_7cf53 : List Cond := .code yJ15_checkIndex_7cf53 cJ15_checkIndex_7cf53 2 (some .int) :: ([.methodLink RJ15 105 yJ3_checkIndex_8e157, .static yJ3_checkIndex_8e157, .initialized RJ3, .code yJ3_checkIndex_8e157 cJ3_checkIndex_8e157 3 (some .int)])
def wsJx4a65c_fastRemove_b59b0 : List Cond := .code yJx4a65c_fastRemove_b59b0 cJx4a65c_fastRemove_b59b0 4 none :: ([.fieldLink RJx4a65c 63 "java/util/ArrayList" "modCount" "I", .sameField "java/util/ArrayList" "java/util/AbstractList" "modCount" "I", .fieldLink RJx4a65c 48 "java/util/ArrayList" "size" "I", .methodLink RJx4a65c 112 arraycopyName, .native arraycopyName, .static arraycopyName, .initialized "java/lang/System"] ++ wsJx4a65c0)
def wsJx4a65c_remove_915e3 : List Cond := .code yJx4a65c_remove_915e3 cJx4a65c_remove_915e3 4 (some (.object "java/lang/Object")) :: ([.fieldLink RJx4a65c 48 "java/util/ArrayList" "size" "I", .fieldLink RJx4a65c 9 "java/util/ArrayList" "elementData" "[Ljava/lang/Object;", .methodLink RJx4a65c 118 yJ15_checkIndex_7cf53, .static yJ15_checkIndex_7cf53, .initialized RJ15, .code yJ15_checkIndex_7cf53 cJ15_checkIndex_7cf53 2 (some .int), .methodLink RJ15 105 yJ3_checkIndex_8e157, .static yJ3_checkIndex_8e157, .initialized RJ3, .code yJ3_checkIndex_8e157 cJ3_checkIndex_8e157 3 (some .int), .methodLink RJx4a65c 144 yJx4a65c_fastRemove_b59b0, .instanceMethod yJx4a65c_fastRemove_b59b0, .selects RJx4a65c yJx4a65c_fastRemove_b59b0 yJx4a65c_fastRemove_b59b0, .initialized RJx4a65c, .code yJx4a65c_fastRemove_b59b0 cJx4a65c_fastRemove_b59b0 4 none, .fieldLink RJx4a65c 63 "java/util/ArrayList" "modCount" "I", .sameField "java/util/ArrayList" "java/util/AbstractList" "modCount" "I", .methodLink RJx4a65c 112 arraycopyName, .native arraycopyName, .static arraycopyName, .initialized "java/lang/System"] ++ wsJx4a65c0)
def wsX5_end_r1 : List Cond := [Cond.fieldLink RX5 16 "BrakeCurveModel" "thrown" "I", Cond.fieldLink RX5 10 "BrakeCurveModel" "line" "LBrakeCurveModel$Line;", Cond.methodLink RX5 82 yJx4a65c_size_8abf5, Cond.instanceMethod yJx4a65c_size_8abf5, Cond.selects RJx4a65c yJx4a65c_size_8abf5 yJx4a65c_size_8abf5, Cond.initialized RJx4a65c, Cond.code yJx4a65c_size_8abf5 cJx4a65c_size_8abf5 1 (some .int), Cond.fieldLink RJx4a65c 48 "java/util/ArrayList" "size" "I", Cond.methodLink RX5 26 yX5_is, Cond.static yX5_is, Cond.initialized RX5, Cond.code yX5_is cX5_is 3 (some .boolean), Cond.methodLink RX5 40 yX5_refuse, Cond.instanceMethod yX5_refuse, Cond.selects RX5 yX5_refuse yX5_refuse, Cond.code yX5_refuse cX5_refuse 2 (some .int), Cond.methodLink RX5 95 yJx4a65c_remove_915e3, Cond.instanceMethod yJx4a65c_remove_915e3, Cond.selects RJx4a65c yJx4a65c_remove_915e3 yJx4a65c_remove_915e3, Cond.code yJx4a65c_remove_915e3 cJx4a65c_remove_915e3 4 (some (.object "java/lang/Object")), Cond.fieldLink RJx4a65c 9 "java/util/ArrayList" "elementData" "[Ljava/lang/Object;", Cond.methodLink RJx4a65c 118 yJ15_checkIndex_7cf53, Cond.static yJ15_checkIndex_7cf53, Cond.initialized RJ15]
def wsX5_end_r2 : List Cond := [Cond.code yJ15_checkIndex_7cf53 cJ15_checkIndex_7cf53 2 (some .int), Cond.methodLink RJ15 105 yJ3_checkIndex_8e157, Cond.static yJ3_checkIndex_8e157, Cond.initialized RJ3, Cond.code yJ3_checkIndex_8e157 cJ3_checkIndex_8e157 3 (some .int), Cond.methodLink RJx4a65c 144 yJx4a65c_fastRemove_b59b0, Cond.instanceMethod yJx4a65c_fastRemove_b59b0, Cond.selects RJx4a65c yJx4a65c_fastRemove_b59b0 yJx4a65c_fastRemove_b59b0, Cond.code yJx4a65c_fastRemove_b59b0 cJx4a65c_fastRemove_b59b0 4 none, Cond.fieldLink RJx4a65c 63 "java/util/ArrayList" "modCount" "I", Cond.sameField "java/util/ArrayList" "java/util/AbstractList" "modCount" "I", Cond.methodLink RJx4a65c 112 arraycopyName, Cond.native arraycopyName, Cond.static arraycopyName, Cond.initialized "java/lang/System"]
def wsX5_end : List Cond := .code yX5_end cX5_end 2 (some .int) :: ((wsX5_end_r1 ++ wsX5_end_r2) ++ wsX50 ++ wsX40 ++ wsJx4a65c0)
def wsX5_pass_r1 : List Cond := [Cond.fieldLink RX5 16 "BrakeCurveModel" "thrown" "I", Cond.fieldLink RX5 10 "BrakeCurveModel" "line" "LBrakeCurveModel$Line;", Cond.methodLink RX5 26 yX5_is, Cond.static yX5_is, Cond.initialized RX5, Cond.code yX5_is cX5_is 3 (some .boolean), Cond.methodLink RX5 40 yX5_refuse, Cond.instanceMethod yX5_refuse, Cond.selects RX5 yX5_refuse yX5_refuse, Cond.code yX5_refuse cX5_refuse 2 (some .int), Cond.methodLink RX5 99 yX4_sum, Cond.instanceMethod yX4_sum, Cond.selects RX4 yX4_sum yX4_sum, Cond.initialized RX4, Cond.code yX4_sum cX4_sum 4 (some .int), Cond.fieldLink RX4 38 "BrakeCurveModel$Line" "manyTrains" "I", Cond.fieldLink RX4 19 "BrakeCurveModel$Line" "trains" "[[I", Cond.methodLink RX5 102 yX4_pass_, Cond.instanceMethod yX4_pass_, Cond.selects RX4 yX4_pass_ yX4_pass_, Cond.code yX4_pass_ cX4_pass_ 3 none, Cond.methodLink RX4 127 yX4_pass, Cond.instanceMethod yX4_pass, Cond.selects RX4 yX4_pass yX4_pass]
def wsX5_pass_r2 : List Cond := [Cond.code yX4_pass cX4_pass 3 none, Cond.fieldLink RX4 45 "BrakeCurveModel$Line" "now" "I", Cond.methodLink RX4 54 yX4_runs, Cond.instanceMethod yX4_runs, Cond.selects RX4 yX4_runs yX4_runs, Cond.code yX4_runs cX4_runs 2 (some .boolean), Cond.methodLink RX4 107 yX4_hears, Cond.instanceMethod yX4_hears, Cond.selects RX4 yX4_hears yX4_hears, Cond.code yX4_hears cX4_hears 2 (some .boolean), Cond.fieldLink RX4 11 "BrakeCurveModel$Line" "sections" "[[I", Cond.static yX5_sectionOf, Cond.code yX5_sectionOf cX5_sectionOf 1 (some .int), Cond.methodLink RX5 20 Lib.Math.min.name, Cond.static Lib.Math.min.name, Cond.initialized "java/lang/Math", Cond.code Lib.Math.min.name Lib.Math.min.code 2 (some .int), Cond.methodLink RX4 110 yX4_report, Cond.instanceMethod yX4_report, Cond.selects RX4 yX4_report yX4_report, Cond.code yX4_report cX4_report 2 none, Cond.static yX5_rear, Cond.code yX5_rear cX5_rear 1 (some .int), Cond.methodLink RX4 114 yX4_why]
def wsX5_pass_r3 : List Cond := [Cond.instanceMethod yX4_why, Cond.selects RX4 yX4_why yX4_why, Cond.code yX4_why cX4_why 4 (some .int), Cond.methodLink RX4 104 yX4_candidate, Cond.instanceMethod yX4_candidate, Cond.selects RX4 yX4_candidate yX4_candidate, Cond.code yX4_candidate cX4_candidate 7 (some .int), Cond.constant RX4 85 (1000000), Cond.fieldLink RX4 25 "BrakeCurveModel$Line" "works" "Ljava/util/ArrayList;", Cond.classLink RX4 99 "[I", Cond.methodLink RX4 75 Lib.Math.min.name, Cond.methodLink RX4 86 yJx4a65c_iterator_32c93, Cond.instanceMethod yJx4a65c_iterator_32c93, Cond.selects RJx4a65c yJx4a65c_iterator_32c93 yJx4a65c_iterator_32c93, Cond.initialized RJx4a65c, Cond.code yJx4a65c_iterator_32c93 cJx4a65c_iterator_32c93 1 (some (.object "java/util/Iterator")), Cond.classLink RJx4a65c 267 RJx35411, Cond.instantiable RJx35411 4, Cond.initialized RJx35411, Cond.methodLink RJx4a65c 269 yJx35411_init_45d68, Cond.instanceMethod yJx35411_init_45d68, Cond.code yJx35411_init_45d68 cJx35411_init_45d68 2 none, Cond.fieldLink RJx35411 1 "java/util/ArrayList$Itr" "this$0" "Ljava/util/ArrayList;", Cond.methodLink RJx35411 7 objectInit]
def wsX5_pass_r4 : List Cond := [Cond.instanceMethod objectInit, Cond.code objectInit ⟨#[0xb1]⟩ 1 none, Cond.fieldLink RJx35411 13 "java/util/ArrayList$Itr" "lastRet" "I", Cond.fieldLink RJx35411 17 "java/util/ArrayList" "modCount" "I", Cond.sameField "java/util/ArrayList" "java/util/AbstractList" "modCount" "I", Cond.fieldLink RJx35411 22 "java/util/ArrayList$Itr" "expectedModCount" "I", Cond.methodLink RX4 90 ⟨"java/util/Iterator", "hasNext", "()Z"⟩, Cond.selects RJx35411 ⟨"java/util/Iterator", "hasNext", "()Z"⟩ yJx35411_hasNext_aae02, Cond.instanceMethod yJx35411_hasNext_aae02, Cond.code yJx35411_hasNext_aae02 cJx35411_hasNext_aae02 1 (some .boolean), Cond.fieldLink RJx35411 25 "java/util/ArrayList$Itr" "cursor" "I", Cond.methodLink RX4 96 ⟨"java/util/Iterator", "next", "()Ljava/lang/Object;"⟩, Cond.selects RJx35411 ⟨"java/util/Iterator", "next", "()Ljava/lang/Object;"⟩ yJx35411_next_0502b, Cond.instanceMethod yJx35411_next_0502b, Cond.code yJx35411_next_0502b cJx35411_next_0502b 3 (some (.object "java/lang/Object")), Cond.fieldLink RJx35411 37 "java/util/ArrayList" "elementData" "[Ljava/lang/Object;", Cond.methodLink RJx35411 31 yJx35411_checkForComodification_da8c8, Cond.instanceMethod yJx35411_checkForComodification_da8c8, Cond.selects RJx35411 yJx35411_checkForComodification_da8c8 yJx35411_checkForComodification_da8c8, Cond.code yJx35411_checkForComodification_da8c8 cJx35411_checkForComodification_da8c8 1 none, Cond.methodLink RX4 101 yX4_ahead, Cond.instanceMethod yX4_ahead, Cond.selects RX4 yX4_ahead yX4_ahead, Cond.code yX4_ahead cX4_ahead 2 (some .int)]
def wsX5_pass_r5 : List Cond := [Cond.methodLink RX4 117 yX4_go, Cond.instanceMethod yX4_go, Cond.selects RX4 yX4_go yX4_go, Cond.code yX4_go cX4_go 5 none, Cond.methodLink RX4 62 Lib.Math.max.name, Cond.static Lib.Math.max.name, Cond.code Lib.Math.max.name Lib.Math.max.code 2 (some .int), Cond.fieldLink RX4 16 "BrakeCurveModel$Line" "stations" "[[I", Cond.fieldLink RX4 34 "BrakeCurveModel$Line" "manyStations" "I", Cond.methodLink RX4 124 yX4_may, Cond.instanceMethod yX4_may, Cond.selects RX4 yX4_may yX4_may, Cond.code yX4_may cX4_may 5 (some .int), Cond.methodLink RX4 78 yX4_next, Cond.instanceMethod yX4_next, Cond.selects RX4 yX4_next yX4_next, Cond.code yX4_next cX4_next 4 (some .int), Cond.methodLink RX4 81 yX4_stops, Cond.instanceMethod yX4_stops, Cond.selects RX4 yX4_stops yX4_stops, Cond.code yX4_stops cX4_stops 4 (some .int), Cond.methodLink RX4 68 yX4_hold, Cond.instanceMethod yX4_hold, Cond.selects RX4 yX4_hold yX4_hold]
def wsX5_pass_r6 : List Cond := [Cond.code yX4_hold cX4_hold 2 (some .int), Cond.methodLink RX4 120 yX4_look, Cond.instanceMethod yX4_look, Cond.selects RX4 yX4_look yX4_look, Cond.code yX4_look cX4_look 5 none]
def wsX5_pass : List Cond := .code yX5_pass cX5_pass 3 (some .int) :: ((wsX5_pass_r1 ++ (wsX5_pass_r2 ++ (wsX5_pass_r3 ++ (wsX5_pass_r4 ++ (wsX5_pass_r5 ++ wsX5_pass_r6))))) ++ wsX50 ++ wsX40 ++ wsJx354110 ++ wsJx4a65c0)
def wsX5_ofSectionNow_r1 : List Cond := [Cond.fieldLink RX5 10 "BrakeCurveModel" "line" "LBrakeCurveModel$Line;", Cond.classLink RX5 122 "[I", Cond.methodLink RX5 106 yX4_isIn, Cond.instanceMethod yX4_isIn, Cond.selects RX4 yX4_isIn yX4_isIn, Cond.initialized RX4, Cond.code yX4_isIn cX4_isIn 4 (some .boolean), Cond.fieldLink RX4 19 "BrakeCurveModel$Line" "trains" "[[I", Cond.methodLink RX4 54 yX4_runs, Cond.instanceMethod yX4_runs, Cond.selects RX4 yX4_runs yX4_runs, Cond.code yX4_runs cX4_runs 2 (some .boolean), Cond.static yX5_rear, Cond.initialized RX5, Cond.code yX5_rear cX5_rear 1 (some .int), Cond.static yX5_sectionOf, Cond.code yX5_sectionOf cX5_sectionOf 1 (some .int), Cond.methodLink RX5 20 Lib.Math.min.name, Cond.static Lib.Math.min.name, Cond.initialized "java/lang/Math", Cond.code Lib.Math.min.name Lib.Math.min.code 2 (some .int), Cond.methodLink RX5 109 yJx4a65c_iterator_32c93, Cond.instanceMethod yJx4a65c_iterator_32c93, Cond.selects RJx4a65c yJx4a65c_iterator_32c93 yJx4a65c_iterator_32c93]
def wsX5_ofSectionNow_r2 : List Cond := [Cond.initialized RJx4a65c, Cond.code yJx4a65c_iterator_32c93 cJx4a65c_iterator_32c93 1 (some (.object "java/util/Iterator")), Cond.classLink RJx4a65c 267 RJx35411, Cond.instantiable RJx35411 4, Cond.initialized RJx35411, Cond.methodLink RJx4a65c 269 yJx35411_init_45d68, Cond.instanceMethod yJx35411_init_45d68, Cond.code yJx35411_init_45d68 cJx35411_init_45d68 2 none, Cond.fieldLink RJx35411 1 "java/util/ArrayList$Itr" "this$0" "Ljava/util/ArrayList;", Cond.methodLink RJx35411 7 objectInit, Cond.instanceMethod objectInit, Cond.code objectInit ⟨#[0xb1]⟩ 1 none, Cond.fieldLink RJx35411 13 "java/util/ArrayList$Itr" "lastRet" "I", Cond.fieldLink RJx35411 17 "java/util/ArrayList" "modCount" "I", Cond.sameField "java/util/ArrayList" "java/util/AbstractList" "modCount" "I", Cond.fieldLink RJx35411 22 "java/util/ArrayList$Itr" "expectedModCount" "I", Cond.methodLink RX5 113 ⟨"java/util/Iterator", "hasNext", "()Z"⟩, Cond.selects RJx35411 ⟨"java/util/Iterator", "hasNext", "()Z"⟩ yJx35411_hasNext_aae02, Cond.instanceMethod yJx35411_hasNext_aae02, Cond.code yJx35411_hasNext_aae02 cJx35411_hasNext_aae02 1 (some .boolean), Cond.fieldLink RJx35411 25 "java/util/ArrayList$Itr" "cursor" "I", Cond.methodLink RX5 118 ⟨"java/util/Iterator", "next", "()Ljava/lang/Object;"⟩, Cond.selects RJx35411 ⟨"java/util/Iterator", "next", "()Ljava/lang/Object;"⟩ yJx35411_next_0502b, Cond.instanceMethod yJx35411_next_0502b]
def wsX5_ofSectionNow_r3 : List Cond := [Cond.code yJx35411_next_0502b cJx35411_next_0502b 3 (some (.object "java/lang/Object")), Cond.fieldLink RJx35411 37 "java/util/ArrayList" "elementData" "[Ljava/lang/Object;", Cond.methodLink RJx35411 31 yJx35411_checkForComodification_da8c8, Cond.instanceMethod yJx35411_checkForComodification_da8c8, Cond.selects RJx35411 yJx35411_checkForComodification_da8c8 yJx35411_checkForComodification_da8c8, Cond.code yJx35411_checkForComodification_da8c8 cJx35411_checkForComodification_da8c8 1 none, Cond.methodLink RX5 26 yX5_is, Cond.static yX5_is, Cond.code yX5_is cX5_is 3 (some .boolean)]
def wsX5_ofSectionNow : List Cond := .code yX5_ofSectionNow cX5_ofSectionNow 7 (some .int) :: ((wsX5_ofSectionNow_r1 ++ (wsX5_ofSectionNow_r2 ++ wsX5_ofSectionNow_r3)) ++ wsX50 ++ wsX40 ++ wsJx354110 ++ wsJx4a65c0)
def wsX5_ofSection_r1 : List Cond := [Cond.fieldLink RX5 16 "BrakeCurveModel" "thrown" "I", Cond.methodLink RX5 36 yX5_isSection, Cond.static yX5_isSection, Cond.initialized RX5, Cond.code yX5_isSection cX5_isSection 1 (some .boolean), Cond.methodLink RX5 26 yX5_is, Cond.static yX5_is, Cond.code yX5_is cX5_is 3 (some .boolean), Cond.methodLink RX5 40 yX5_refuse, Cond.instanceMethod yX5_refuse, Cond.selects RX5 yX5_refuse yX5_refuse, Cond.code yX5_refuse cX5_refuse 2 (some .int), Cond.methodLink RX5 124 yX5_ofSectionNow, Cond.instanceMethod yX5_ofSectionNow, Cond.selects RX5 yX5_ofSectionNow yX5_ofSectionNow, Cond.code yX5_ofSectionNow cX5_ofSectionNow 7 (some .int), Cond.fieldLink RX5 10 "BrakeCurveModel" "line" "LBrakeCurveModel$Line;", Cond.classLink RX5 122 "[I", Cond.methodLink RX5 106 yX4_isIn, Cond.instanceMethod yX4_isIn, Cond.selects RX4 yX4_isIn yX4_isIn, Cond.initialized RX4, Cond.code yX4_isIn cX4_isIn 4 (some .boolean), Cond.fieldLink RX4 19 "BrakeCurveModel$Line" "trains" "[[I"]
def wsX5_ofSection_r2 : List Cond := [Cond.methodLink RX4 54 yX4_runs, Cond.instanceMethod yX4_runs, Cond.selects RX4 yX4_runs yX4_runs, Cond.code yX4_runs cX4_runs 2 (some .boolean), Cond.static yX5_rear, Cond.code yX5_rear cX5_rear 1 (some .int), Cond.static yX5_sectionOf, Cond.code yX5_sectionOf cX5_sectionOf 1 (some .int), Cond.methodLink RX5 20 Lib.Math.min.name, Cond.static Lib.Math.min.name, Cond.initialized "java/lang/Math", Cond.code Lib.Math.min.name Lib.Math.min.code 2 (some .int), Cond.methodLink RX5 109 yJx4a65c_iterator_32c93, Cond.instanceMethod yJx4a65c_iterator_32c93, Cond.selects RJx4a65c yJx4a65c_iterator_32c93 yJx4a65c_iterator_32c93, Cond.initialized RJx4a65c, Cond.code yJx4a65c_iterator_32c93 cJx4a65c_iterator_32c93 1 (some (.object "java/util/Iterator")), Cond.classLink RJx4a65c 267 RJx35411, Cond.instantiable RJx35411 4, Cond.initialized RJx35411, Cond.methodLink RJx4a65c 269 yJx35411_init_45d68, Cond.instanceMethod yJx35411_init_45d68, Cond.code yJx35411_init_45d68 cJx35411_init_45d68 2 none, Cond.fieldLink RJx35411 1 "java/util/ArrayList$Itr" "this$0" "Ljava/util/ArrayList;"]
def wsX5_ofSection_r3 : List Cond := [Cond.methodLink RJx35411 7 objectInit, Cond.instanceMethod objectInit, Cond.code objectInit ⟨#[0xb1]⟩ 1 none, Cond.fieldLink RJx35411 13 "java/util/ArrayList$Itr" "lastRet" "I", Cond.fieldLink RJx35411 17 "java/util/ArrayList" "modCount" "I", Cond.sameField "java/util/ArrayList" "java/util/AbstractList" "modCount" "I", Cond.fieldLink RJx35411 22 "java/util/ArrayList$Itr" "expectedModCount" "I", Cond.methodLink RX5 113 ⟨"java/util/Iterator", "hasNext", "()Z"⟩, Cond.selects RJx35411 ⟨"java/util/Iterator", "hasNext", "()Z"⟩ yJx35411_hasNext_aae02, Cond.instanceMethod yJx35411_hasNext_aae02, Cond.code yJx35411_hasNext_aae02 cJx35411_hasNext_aae02 1 (some .boolean), Cond.fieldLink RJx35411 25 "java/util/ArrayList$Itr" "cursor" "I", Cond.methodLink RX5 118 ⟨"java/util/Iterator", "next", "()Ljava/lang/Object;"⟩, Cond.selects RJx35411 ⟨"java/util/Iterator", "next", "()Ljava/lang/Object;"⟩ yJx35411_next_0502b, Cond.instanceMethod yJx35411_next_0502b, Cond.code yJx35411_next_0502b cJx35411_next_0502b 3 (some (.object "java/lang/Object")), Cond.fieldLink RJx35411 37 "java/util/ArrayList" "elementData" "[Ljava/lang/Object;", Cond.methodLink RJx35411 31 yJx35411_checkForComodification_da8c8, Cond.instanceMethod yJx35411_checkForComodification_da8c8, Cond.selects RJx35411 yJx35411_checkForComodification_da8c8 yJx35411_checkForComodification_da8c8, Cond.code yJx35411_checkForComodification_da8c8 cJx35411_checkForComodification_da8c8 1 none]
def wsX5_ofSection : List Cond := .code yX5_ofSection cX5_ofSection 3 (some .int) :: ((wsX5_ofSection_r1 ++ (wsX5_ofSection_r2 ++ wsX5_ofSection_r3)) ++ wsX50 ++ wsX40 ++ wsJx354110 ++ wsJx4a65c0)
def wsX5_ofTrainNow : List Cond := .code yX5_ofTrainNow cX5_ofTrainNow 6 (some .int) :: ([.fieldLink RX5 10 "BrakeCurveModel" "line" "LBrakeCurveModel$Line;", .arrayClass .int, .methodLink RX5 64 yX5_rear, .static yX5_rear, .initialized RX5, .code yX5_rear cX5_rear 1 (some .int), .methodLink RX5 127 yX4_next, .instanceMethod yX4_next, .selects RX4 yX4_next yX4_next, .initialized RX4, .code yX4_next cX4_next 4 (some .int), .fieldLink RX4 34 "BrakeCurveModel$Line" "manyStations" "I", .fieldLink RX4 16 "BrakeCurveModel$Line" "stations" "[[I", .methodLink RX5 129 yX4_ahead, .instanceMethod yX4_ahead, .selects RX4 yX4_ahead yX4_ahead, .code yX4_ahead cX4_ahead 2 (some .int), .methodLink RX4 54 yX4_runs, .instanceMethod yX4_runs, .selects RX4 yX4_runs yX4_runs, .code yX4_runs cX4_runs 2 (some .boolean), .fieldLink RX4 19 "BrakeCurveModel$Line" "trains" "[[I"] ++ wsX50 ++ wsX40)
def wsX5_ofTrain_r1 : List Cond := [Cond.fieldLink RX5 16 "BrakeCurveModel" "thrown" "I", Cond.methodLink RX5 75 yX5_isTrain, Cond.instanceMethod yX5_isTrain, Cond.selects RX5 yX5_isTrain yX5_isTrain, Cond.initialized RX5, Cond.code yX5_isTrain cX5_isTrain 2 (some .boolean), Cond.fieldLink RX5 10 "BrakeCurveModel" "line" "LBrakeCurveModel$Line;", Cond.methodLink RX5 26 yX5_is, Cond.static yX5_is, Cond.code yX5_is cX5_is 3 (some .boolean), Cond.methodLink RX5 40 yX5_refuse, Cond.instanceMethod yX5_refuse, Cond.selects RX5 yX5_refuse yX5_refuse, Cond.code yX5_refuse cX5_refuse 2 (some .int), Cond.methodLink RX5 132 yX5_ofTrainNow, Cond.instanceMethod yX5_ofTrainNow, Cond.selects RX5 yX5_ofTrainNow yX5_ofTrainNow, Cond.code yX5_ofTrainNow cX5_ofTrainNow 6 (some .int), Cond.arrayClass .int, Cond.methodLink RX5 64 yX5_rear, Cond.static yX5_rear, Cond.code yX5_rear cX5_rear 1 (some .int), Cond.methodLink RX5 127 yX4_next, Cond.instanceMethod yX4_next]
def wsX5_ofTrain_r2 : List Cond := [Cond.selects RX4 yX4_next yX4_next, Cond.initialized RX4, Cond.code yX4_next cX4_next 4 (some .int), Cond.fieldLink RX4 34 "BrakeCurveModel$Line" "manyStations" "I", Cond.fieldLink RX4 16 "BrakeCurveModel$Line" "stations" "[[I", Cond.methodLink RX5 129 yX4_ahead, Cond.instanceMethod yX4_ahead, Cond.selects RX4 yX4_ahead yX4_ahead, Cond.code yX4_ahead cX4_ahead 2 (some .int), Cond.methodLink RX4 54 yX4_runs, Cond.instanceMethod yX4_runs, Cond.selects RX4 yX4_runs yX4_runs, Cond.code yX4_runs cX4_runs 2 (some .boolean), Cond.fieldLink RX4 19 "BrakeCurveModel$Line" "trains" "[[I"]
def wsX5_ofTrain : List Cond := .code yX5_ofTrain cX5_ofTrain 3 (some .int) :: ((wsX5_ofTrain_r1 ++ wsX5_ofTrain_r2) ++ wsX50 ++ wsX40)
def wsX5_stops_r1 : List Cond := [Cond.fieldLink RX5 16 "BrakeCurveModel" "thrown" "I", Cond.fieldLink RX5 10 "BrakeCurveModel" "line" "LBrakeCurveModel$Line;", Cond.methodLink RX5 75 yX5_isTrain, Cond.instanceMethod yX5_isTrain, Cond.selects RX5 yX5_isTrain yX5_isTrain, Cond.initialized RX5, Cond.code yX5_isTrain cX5_isTrain 2 (some .boolean), Cond.methodLink RX5 26 yX5_is, Cond.static yX5_is, Cond.code yX5_is cX5_is 3 (some .boolean), Cond.methodLink RX5 40 yX5_refuse, Cond.instanceMethod yX5_refuse, Cond.selects RX5 yX5_refuse yX5_refuse, Cond.code yX5_refuse cX5_refuse 2 (some .int), Cond.methodLink RX5 135 yX4_stops, Cond.instanceMethod yX4_stops, Cond.selects RX4 yX4_stops yX4_stops, Cond.initialized RX4, Cond.code yX4_stops cX4_stops 4 (some .int), Cond.methodLink RX4 62 Lib.Math.max.name, Cond.static Lib.Math.max.name, Cond.initialized "java/lang/Math", Cond.code Lib.Math.max.name Lib.Math.max.code 2 (some .int), Cond.methodLink RX4 68 yX4_hold]
def wsX5_stops_r2 : List Cond := [Cond.instanceMethod yX4_hold, Cond.selects RX4 yX4_hold yX4_hold, Cond.code yX4_hold cX4_hold 2 (some .int), Cond.fieldLink RX4 11 "BrakeCurveModel$Line" "sections" "[[I", Cond.static yX5_sectionOf, Cond.code yX5_sectionOf cX5_sectionOf 1 (some .int), Cond.methodLink RX5 20 Lib.Math.min.name, Cond.static Lib.Math.min.name, Cond.code Lib.Math.min.name Lib.Math.min.code 2 (some .int)]
def wsX5_stops : List Cond := .code yX5_stops cX5_stops 3 (some .int) :: ((wsX5_stops_r1 ++ wsX5_stops_r2) ++ wsX50 ++ wsX40)
def wsX5_mayNow_r1 : List Cond := [Cond.fieldLink RX5 10 "BrakeCurveModel" "line" "LBrakeCurveModel$Line;", Cond.methodLink RX5 51 yX4_runs, Cond.instanceMethod yX4_runs, Cond.selects RX4 yX4_runs yX4_runs, Cond.initialized RX4, Cond.code yX4_runs cX4_runs 2 (some .boolean), Cond.fieldLink RX4 19 "BrakeCurveModel$Line" "trains" "[[I", Cond.methodLink RX5 139 yX4_may, Cond.instanceMethod yX4_may, Cond.selects RX4 yX4_may yX4_may, Cond.code yX4_may cX4_may 5 (some .int), Cond.fieldLink RX4 11 "BrakeCurveModel$Line" "sections" "[[I", Cond.methodLink RX4 75 Lib.Math.min.name, Cond.static Lib.Math.min.name, Cond.initialized "java/lang/Math", Cond.code Lib.Math.min.name Lib.Math.min.code 2 (some .int), Cond.fieldLink RX4 16 "BrakeCurveModel$Line" "stations" "[[I", Cond.static yX5_rear, Cond.initialized RX5, Cond.code yX5_rear cX5_rear 1 (some .int), Cond.static yX5_sectionOf, Cond.code yX5_sectionOf cX5_sectionOf 1 (some .int), Cond.methodLink RX5 20 Lib.Math.min.name, Cond.methodLink RX4 78 yX4_next]
def wsX5_mayNow_r2 : List Cond := [Cond.instanceMethod yX4_next, Cond.selects RX4 yX4_next yX4_next, Cond.code yX4_next cX4_next 4 (some .int), Cond.fieldLink RX4 34 "BrakeCurveModel$Line" "manyStations" "I", Cond.methodLink RX4 81 yX4_stops, Cond.instanceMethod yX4_stops, Cond.selects RX4 yX4_stops yX4_stops, Cond.code yX4_stops cX4_stops 4 (some .int), Cond.methodLink RX4 62 Lib.Math.max.name, Cond.static Lib.Math.max.name, Cond.code Lib.Math.max.name Lib.Math.max.code 2 (some .int), Cond.methodLink RX4 68 yX4_hold, Cond.instanceMethod yX4_hold, Cond.selects RX4 yX4_hold yX4_hold, Cond.code yX4_hold cX4_hold 2 (some .int)]
def wsX5_mayNow : List Cond := .code yX5_mayNow cX5_mayNow 2 (some .int) :: ((wsX5_mayNow_r1 ++ wsX5_mayNow_r2) ++ wsX50 ++ wsX40)
def wsX5_may_r1 : List Cond := [Cond.fieldLink RX5 16 "BrakeCurveModel" "thrown" "I", Cond.methodLink RX5 75 yX5_isTrain, Cond.instanceMethod yX5_isTrain, Cond.selects RX5 yX5_isTrain yX5_isTrain, Cond.initialized RX5, Cond.code yX5_isTrain cX5_isTrain 2 (some .boolean), Cond.fieldLink RX5 10 "BrakeCurveModel" "line" "LBrakeCurveModel$Line;", Cond.methodLink RX5 26 yX5_is, Cond.static yX5_is, Cond.code yX5_is cX5_is 3 (some .boolean), Cond.methodLink RX5 142 yX5_mayNow, Cond.instanceMethod yX5_mayNow, Cond.selects RX5 yX5_mayNow yX5_mayNow, Cond.code yX5_mayNow cX5_mayNow 2 (some .int), Cond.methodLink RX5 51 yX4_runs, Cond.instanceMethod yX4_runs, Cond.selects RX4 yX4_runs yX4_runs, Cond.initialized RX4, Cond.code yX4_runs cX4_runs 2 (some .boolean), Cond.fieldLink RX4 19 "BrakeCurveModel$Line" "trains" "[[I", Cond.methodLink RX5 139 yX4_may, Cond.instanceMethod yX4_may, Cond.selects RX4 yX4_may yX4_may, Cond.code yX4_may cX4_may 5 (some .int)]
def wsX5_may_r2 : List Cond := [Cond.fieldLink RX4 11 "BrakeCurveModel$Line" "sections" "[[I", Cond.methodLink RX4 75 Lib.Math.min.name, Cond.static Lib.Math.min.name, Cond.initialized "java/lang/Math", Cond.code Lib.Math.min.name Lib.Math.min.code 2 (some .int), Cond.fieldLink RX4 16 "BrakeCurveModel$Line" "stations" "[[I", Cond.static yX5_rear, Cond.code yX5_rear cX5_rear 1 (some .int), Cond.static yX5_sectionOf, Cond.code yX5_sectionOf cX5_sectionOf 1 (some .int), Cond.methodLink RX5 20 Lib.Math.min.name, Cond.methodLink RX4 78 yX4_next, Cond.instanceMethod yX4_next, Cond.selects RX4 yX4_next yX4_next, Cond.code yX4_next cX4_next 4 (some .int), Cond.fieldLink RX4 34 "BrakeCurveModel$Line" "manyStations" "I", Cond.methodLink RX4 81 yX4_stops, Cond.instanceMethod yX4_stops, Cond.selects RX4 yX4_stops yX4_stops, Cond.code yX4_stops cX4_stops 4 (some .int), Cond.methodLink RX4 62 Lib.Math.max.name, Cond.static Lib.Math.max.name, Cond.code Lib.Math.max.name Lib.Math.max.code 2 (some .int), Cond.methodLink RX4 68 yX4_hold]
def wsX5_may_r3 : List Cond := [Cond.instanceMethod yX4_hold, Cond.selects RX4 yX4_hold yX4_hold, Cond.code yX4_hold cX4_hold 2 (some .int), Cond.methodLink RX5 40 yX5_refuse, Cond.instanceMethod yX5_refuse, Cond.selects RX5 yX5_refuse yX5_refuse, Cond.code yX5_refuse cX5_refuse 2 (some .int)]
def wsX5_may : List Cond := .code yX5_may cX5_may 2 (some .int) :: ((wsX5_may_r1 ++ (wsX5_may_r2 ++ wsX5_may_r3)) ++ wsX50 ++ wsX40)
def wsX5_whyNow_r1 : List Cond := [Cond.fieldLink RX5 10 "BrakeCurveModel" "line" "LBrakeCurveModel$Line;", Cond.methodLink RX5 51 yX4_runs, Cond.instanceMethod yX4_runs, Cond.selects RX4 yX4_runs yX4_runs, Cond.initialized RX4, Cond.code yX4_runs cX4_runs 2 (some .boolean), Cond.fieldLink RX4 19 "BrakeCurveModel$Line" "trains" "[[I", Cond.methodLink RX5 145 yX4_why, Cond.instanceMethod yX4_why, Cond.selects RX4 yX4_why yX4_why, Cond.code yX4_why cX4_why 4 (some .int), Cond.methodLink RX4 104 yX4_candidate, Cond.instanceMethod yX4_candidate, Cond.selects RX4 yX4_candidate yX4_candidate, Cond.code yX4_candidate cX4_candidate 7 (some .int), Cond.constant RX4 85 (1000000), Cond.fieldLink RX4 25 "BrakeCurveModel$Line" "works" "Ljava/util/ArrayList;", Cond.classLink RX4 99 "[I", Cond.methodLink RX4 75 Lib.Math.min.name, Cond.static Lib.Math.min.name, Cond.initialized "java/lang/Math", Cond.code Lib.Math.min.name Lib.Math.min.code 2 (some .int), Cond.fieldLink RX4 45 "BrakeCurveModel$Line" "now" "I", Cond.methodLink RX4 86 yJx4a65c_iterator_32c93]
def wsX5_whyNow_r2 : List Cond := [Cond.instanceMethod yJx4a65c_iterator_32c93, Cond.selects RJx4a65c yJx4a65c_iterator_32c93 yJx4a65c_iterator_32c93, Cond.initialized RJx4a65c, Cond.code yJx4a65c_iterator_32c93 cJx4a65c_iterator_32c93 1 (some (.object "java/util/Iterator")), Cond.classLink RJx4a65c 267 RJx35411, Cond.instantiable RJx35411 4, Cond.initialized RJx35411, Cond.methodLink RJx4a65c 269 yJx35411_init_45d68, Cond.instanceMethod yJx35411_init_45d68, Cond.code yJx35411_init_45d68 cJx35411_init_45d68 2 none, Cond.fieldLink RJx35411 1 "java/util/ArrayList$Itr" "this$0" "Ljava/util/ArrayList;", Cond.methodLink RJx35411 7 objectInit, Cond.instanceMethod objectInit, Cond.code objectInit ⟨#[0xb1]⟩ 1 none, Cond.fieldLink RJx35411 13 "java/util/ArrayList$Itr" "lastRet" "I", Cond.fieldLink RJx35411 17 "java/util/ArrayList" "modCount" "I", Cond.sameField "java/util/ArrayList" "java/util/AbstractList" "modCount" "I", Cond.fieldLink RJx35411 22 "java/util/ArrayList$Itr" "expectedModCount" "I", Cond.methodLink RX4 90 ⟨"java/util/Iterator", "hasNext", "()Z"⟩, Cond.selects RJx35411 ⟨"java/util/Iterator", "hasNext", "()Z"⟩ yJx35411_hasNext_aae02, Cond.instanceMethod yJx35411_hasNext_aae02, Cond.code yJx35411_hasNext_aae02 cJx35411_hasNext_aae02 1 (some .boolean), Cond.fieldLink RJx35411 25 "java/util/ArrayList$Itr" "cursor" "I", Cond.methodLink RX4 96 ⟨"java/util/Iterator", "next", "()Ljava/lang/Object;"⟩]
def wsX5_whyNow_r3 : List Cond := [Cond.selects RJx35411 ⟨"java/util/Iterator", "next", "()Ljava/lang/Object;"⟩ yJx35411_next_0502b, Cond.instanceMethod yJx35411_next_0502b, Cond.code yJx35411_next_0502b cJx35411_next_0502b 3 (some (.object "java/lang/Object")), Cond.fieldLink RJx35411 37 "java/util/ArrayList" "elementData" "[Ljava/lang/Object;", Cond.methodLink RJx35411 31 yJx35411_checkForComodification_da8c8, Cond.instanceMethod yJx35411_checkForComodification_da8c8, Cond.selects RJx35411 yJx35411_checkForComodification_da8c8 yJx35411_checkForComodification_da8c8, Cond.code yJx35411_checkForComodification_da8c8 cJx35411_checkForComodification_da8c8 1 none, Cond.methodLink RX4 101 yX4_ahead, Cond.instanceMethod yX4_ahead, Cond.selects RX4 yX4_ahead yX4_ahead, Cond.code yX4_ahead cX4_ahead 2 (some .int), Cond.methodLink RX4 54 yX4_runs, Cond.static yX5_sectionOf, Cond.initialized RX5, Cond.code yX5_sectionOf cX5_sectionOf 1 (some .int), Cond.methodLink RX5 20 Lib.Math.min.name]
def wsX5_whyNow : List Cond := .code yX5_whyNow cX5_whyNow 2 (some .int) :: ((wsX5_whyNow_r1 ++ (wsX5_whyNow_r2 ++ wsX5_whyNow_r3)) ++ wsX50 ++ wsX40 ++ wsJx354110 ++ wsJx4a65c0)
def wsX5_why_r1 : List Cond := [Cond.fieldLink RX5 16 "BrakeCurveModel" "thrown" "I", Cond.methodLink RX5 75 yX5_isTrain, Cond.instanceMethod yX5_isTrain, Cond.selects RX5 yX5_isTrain yX5_isTrain, Cond.initialized RX5, Cond.code yX5_isTrain cX5_isTrain 2 (some .boolean), Cond.fieldLink RX5 10 "BrakeCurveModel" "line" "LBrakeCurveModel$Line;", Cond.methodLink RX5 26 yX5_is, Cond.static yX5_is, Cond.code yX5_is cX5_is 3 (some .boolean), Cond.methodLink RX5 148 yX5_whyNow, Cond.instanceMethod yX5_whyNow, Cond.selects RX5 yX5_whyNow yX5_whyNow, Cond.code yX5_whyNow cX5_whyNow 2 (some .int), Cond.methodLink RX5 51 yX4_runs, Cond.instanceMethod yX4_runs, Cond.selects RX4 yX4_runs yX4_runs, Cond.initialized RX4, Cond.code yX4_runs cX4_runs 2 (some .boolean), Cond.fieldLink RX4 19 "BrakeCurveModel$Line" "trains" "[[I", Cond.methodLink RX5 145 yX4_why, Cond.instanceMethod yX4_why, Cond.selects RX4 yX4_why yX4_why, Cond.code yX4_why cX4_why 4 (some .int)]
def wsX5_why_r2 : List Cond := [Cond.methodLink RX4 104 yX4_candidate, Cond.instanceMethod yX4_candidate, Cond.selects RX4 yX4_candidate yX4_candidate, Cond.code yX4_candidate cX4_candidate 7 (some .int), Cond.constant RX4 85 (1000000), Cond.fieldLink RX4 25 "BrakeCurveModel$Line" "works" "Ljava/util/ArrayList;", Cond.classLink RX4 99 "[I", Cond.methodLink RX4 75 Lib.Math.min.name, Cond.static Lib.Math.min.name, Cond.initialized "java/lang/Math", Cond.code Lib.Math.min.name Lib.Math.min.code 2 (some .int), Cond.fieldLink RX4 45 "BrakeCurveModel$Line" "now" "I", Cond.methodLink RX4 86 yJx4a65c_iterator_32c93, Cond.instanceMethod yJx4a65c_iterator_32c93, Cond.selects RJx4a65c yJx4a65c_iterator_32c93 yJx4a65c_iterator_32c93, Cond.initialized RJx4a65c, Cond.code yJx4a65c_iterator_32c93 cJx4a65c_iterator_32c93 1 (some (.object "java/util/Iterator")), Cond.classLink RJx4a65c 267 RJx35411, Cond.instantiable RJx35411 4, Cond.initialized RJx35411, Cond.methodLink RJx4a65c 269 yJx35411_init_45d68, Cond.instanceMethod yJx35411_init_45d68, Cond.code yJx35411_init_45d68 cJx35411_init_45d68 2 none, Cond.fieldLink RJx35411 1 "java/util/ArrayList$Itr" "this$0" "Ljava/util/ArrayList;"]
def wsX5_why_r3 : List Cond := [Cond.methodLink RJx35411 7 objectInit, Cond.instanceMethod objectInit, Cond.code objectInit ⟨#[0xb1]⟩ 1 none, Cond.fieldLink RJx35411 13 "java/util/ArrayList$Itr" "lastRet" "I", Cond.fieldLink RJx35411 17 "java/util/ArrayList" "modCount" "I", Cond.sameField "java/util/ArrayList" "java/util/AbstractList" "modCount" "I", Cond.fieldLink RJx35411 22 "java/util/ArrayList$Itr" "expectedModCount" "I", Cond.methodLink RX4 90 ⟨"java/util/Iterator", "hasNext", "()Z"⟩, Cond.selects RJx35411 ⟨"java/util/Iterator", "hasNext", "()Z"⟩ yJx35411_hasNext_aae02, Cond.instanceMethod yJx35411_hasNext_aae02, Cond.code yJx35411_hasNext_aae02 cJx35411_hasNext_aae02 1 (some .boolean), Cond.fieldLink RJx35411 25 "java/util/ArrayList$Itr" "cursor" "I", Cond.methodLink RX4 96 ⟨"java/util/Iterator", "next", "()Ljava/lang/Object;"⟩, Cond.selects RJx35411 ⟨"java/util/Iterator", "next", "()Ljava/lang/Object;"⟩ yJx35411_next_0502b, Cond.instanceMethod yJx35411_next_0502b, Cond.code yJx35411_next_0502b cJx35411_next_0502b 3 (some (.object "java/lang/Object")), Cond.fieldLink RJx35411 37 "java/util/ArrayList" "elementData" "[Ljava/lang/Object;", Cond.methodLink RJx35411 31 yJx35411_checkForComodification_da8c8, Cond.instanceMethod yJx35411_checkForComodification_da8c8, Cond.selects RJx35411 yJx35411_checkForComodification_da8c8 yJx35411_checkForComodification_da8c8, Cond.code yJx35411_checkForComodification_da8c8 cJx35411_checkForComodification_da8c8 1 none, Cond.methodLink RX4 101 yX4_ahead, Cond.instanceMethod yX4_ahead, Cond.selects RX4 yX4_ahead yX4_ahead]
def wsX5_why_r4 : List Cond := [Cond.code yX4_ahead cX4_ahead 2 (some .int), Cond.methodLink RX4 54 yX4_runs, Cond.static yX5_sectionOf, Cond.code yX5_sectionOf cX5_sectionOf 1 (some .int), Cond.methodLink RX5 20 Lib.Math.min.name, Cond.methodLink RX5 40 yX5_refuse, Cond.instanceMethod yX5_refuse, Cond.selects RX5 yX5_refuse yX5_refuse, Cond.code yX5_refuse cX5_refuse 2 (some .int)]
def wsX5_why : List Cond := .code yX5_why cX5_why 2 (some .int) :: ((wsX5_why_r1 ++ (wsX5_why_r2 ++ (wsX5_why_r3 ++ wsX5_why_r4))) ++ wsX50 ++ wsX40 ++ wsJx354110 ++ wsJx4a65c0)
def wsX5_ofStation : List Cond := .code yX5_ofStation cX5_ofStation 3 (some .int) :: ([.fieldLink RX5 16 "BrakeCurveModel" "thrown" "I", .fieldLink RX5 10 "BrakeCurveModel" "line" "LBrakeCurveModel$Line;", .methodLink RX5 151 yX5_isStation, .instanceMethod yX5_isStation, .selects RX5 yX5_isStation yX5_isStation, .initialized RX5, .code yX5_isStation cX5_isStation 2 (some .boolean), .methodLink RX5 26 yX5_is, .static yX5_is, .code yX5_is cX5_is 3 (some .boolean), .methodLink RX5 40 yX5_refuse, .instanceMethod yX5_refuse, .selects RX5 yX5_refuse yX5_refuse, .code yX5_refuse cX5_refuse 2 (some .int)] ++ wsX50 ++ wsX40)
def wsX5_manyNow : List Cond := .code yX5_manyNow cX5_manyNow 3 (some .int) :: ([.arrayClass .int, .fieldLink RX5 10 "BrakeCurveModel" "line" "LBrakeCurveModel$Line;", .methodLink RX5 99 yX4_sum, .instanceMethod yX4_sum, .selects RX4 yX4_sum yX4_sum, .initialized RX4, .code yX4_sum cX4_sum 4 (some .int), .fieldLink RX4 38 "BrakeCurveModel$Line" "manyTrains" "I", .fieldLink RX4 19 "BrakeCurveModel$Line" "trains" "[[I", .methodLink RX5 82 yJx4a65c_size_8abf5, .instanceMethod yJx4a65c_size_8abf5, .selects RJx4a65c yJx4a65c_size_8abf5 yJx4a65c_size_8abf5, .initialized RJx4a65c, .code yJx4a65c_size_8abf5 cJx4a65c_size_8abf5 1 (some .int), .fieldLink RJx4a65c 48 "java/util/ArrayList" "size" "I"] ++ wsX50 ++ wsX40 ++ wsJx4a65c0)
def wsX5_many_r1 : List Cond := [Cond.fieldLink RX5 16 "BrakeCurveModel" "thrown" "I", Cond.methodLink RX5 26 yX5_is, Cond.static yX5_is, Cond.initialized RX5, Cond.code yX5_is cX5_is 3 (some .boolean), Cond.methodLink RX5 154 yX5_manyNow, Cond.instanceMethod yX5_manyNow, Cond.selects RX5 yX5_manyNow yX5_manyNow, Cond.code yX5_manyNow cX5_manyNow 3 (some .int), Cond.arrayClass .int, Cond.fieldLink RX5 10 "BrakeCurveModel" "line" "LBrakeCurveModel$Line;", Cond.methodLink RX5 99 yX4_sum, Cond.instanceMethod yX4_sum, Cond.selects RX4 yX4_sum yX4_sum, Cond.initialized RX4, Cond.code yX4_sum cX4_sum 4 (some .int), Cond.fieldLink RX4 38 "BrakeCurveModel$Line" "manyTrains" "I", Cond.fieldLink RX4 19 "BrakeCurveModel$Line" "trains" "[[I", Cond.methodLink RX5 82 yJx4a65c_size_8abf5, Cond.instanceMethod yJx4a65c_size_8abf5, Cond.selects RJx4a65c yJx4a65c_size_8abf5 yJx4a65c_size_8abf5, Cond.initialized RJx4a65c, Cond.code yJx4a65c_size_8abf5 cJx4a65c_size_8abf5 1 (some .int), Cond.fieldLink RJx4a65c 48 "java/util/ArrayList" "size" "I"]
def wsX5_many_r2 : List Cond := [Cond.methodLink RX5 40 yX5_refuse, Cond.instanceMethod yX5_refuse, Cond.selects RX5 yX5_refuse yX5_refuse, Cond.code yX5_refuse cX5_refuse 2 (some .int)]
def wsX5_many : List Cond := .code yX5_many cX5_many 2 (some .int) :: ((wsX5_many_r1 ++ wsX5_many_r2) ++ wsX50 ++ wsX40 ++ wsJx4a65c0)
def wsX5_meanSpeed : List Cond := .code yX5_meanSpeed cX5_meanSpeed 2 (some .double) :: ([.fieldLink RX5 16 "BrakeCurveModel" "thrown" "I", .fieldLink RX5 10 "BrakeCurveModel" "line" "LBrakeCurveModel$Line;", .methodLink RX5 99 yX4_sum, .instanceMethod yX4_sum, .selects RX4 yX4_sum yX4_sum, .initialized RX4, .code yX4_sum cX4_sum 4 (some .int), .fieldLink RX4 38 "BrakeCurveModel$Line" "manyTrains" "I", .fieldLink RX4 19 "BrakeCurveModel$Line" "trains" "[[I"] ++ wsX50 ++ wsX40)
def wsX5_reachesNow_r1 : List Cond := [Cond.fieldLink RX5 10 "BrakeCurveModel" "line" "LBrakeCurveModel$Line;", Cond.methodLink RX5 157 yX4_copy, Cond.instanceMethod yX4_copy, Cond.selects RX4 yX4_copy yX4_copy, Cond.initialized RX4, Cond.code yX4_copy cX4_copy 2 (some (.object "BrakeCurveModel$Line")), Cond.classLink RX4 12 RX4, Cond.instantiable RX4 7, Cond.fieldLink RX4 11 "BrakeCurveModel$Line" "sections" "[[I", Cond.fieldLink RX4 16 "BrakeCurveModel$Line" "stations" "[[I", Cond.fieldLink RX4 19 "BrakeCurveModel$Line" "trains" "[[I", Cond.fieldLink RX4 34 "BrakeCurveModel$Line" "manyStations" "I", Cond.fieldLink RX4 38 "BrakeCurveModel$Line" "manyTrains" "I", Cond.fieldLink RX4 25 "BrakeCurveModel$Line" "works" "Ljava/util/ArrayList;", Cond.fieldLink RX4 45 "BrakeCurveModel$Line" "now" "I", Cond.methodLink RX4 29 yX4_init, Cond.instanceMethod yX4_init, Cond.code yX4_init cX4_init 5 none, Cond.methodLink RX4 3 objectInit, Cond.instanceMethod objectInit, Cond.code objectInit ⟨#[0xb1]⟩ 1 none, Cond.classLink RX4 9 "[[I", Cond.arrayClass .int, Cond.classLink RX4 22 RJx4a65c]
def wsX5_reachesNow_r2 : List Cond := [Cond.instantiable RJx4a65c 3, Cond.initialized RJx4a65c, Cond.methodLink RX4 24 yJx4a65c_init_da8c8, Cond.instanceMethod yJx4a65c_init_da8c8, Cond.code yJx4a65c_init_da8c8 cJx4a65c_init_da8c8 1 none, Cond.fieldLink RJx4a65c 39 "java/util/ArrayList" "DEFAULTCAPACITY_EMPTY_ELEMENTDATA" "[Ljava/lang/Object;", Cond.fieldLink RJx4a65c 9 "java/util/ArrayList" "elementData" "[Ljava/lang/Object;", Cond.methodLink RJx4a65c 1 yJxc12de_init_da8c8, Cond.instanceMethod yJxc12de_init_da8c8, Cond.initialized RJxc12de, Cond.code yJxc12de_init_da8c8 cJxc12de_init_da8c8 1 none, Cond.fieldLink RJxc12de 7 "java/util/AbstractList" "modCount" "I", Cond.methodLink RJxc12de 1 yJxa1e45_init_da8c8, Cond.instanceMethod yJxa1e45_init_da8c8, Cond.initialized RJxa1e45, Cond.code yJxa1e45_init_da8c8 cJxa1e45_init_da8c8 1 none, Cond.methodLink RJxa1e45 1 objectInit, Cond.methodLink RX4 30 yX4_copy_, Cond.static yX4_copy_, Cond.code yX4_copy_ cX4_copy_ 3 none, Cond.methodLink RX4 48 arraycopyName, Cond.native arraycopyName, Cond.static arraycopyName, Cond.initialized "java/lang/System"]
def wsX5_reachesNow_r3 : List Cond := [Cond.methodLink RX4 41 yJx4a65c_addAll_f0b43, Cond.instanceMethod yJx4a65c_addAll_f0b43, Cond.selects RJx4a65c yJx4a65c_addAll_f0b43 yJx4a65c_addAll_f0b43, Cond.code yJx4a65c_addAll_f0b43 cJx4a65c_addAll_f0b43 6 (some .boolean), Cond.fieldLink RJx4a65c 63 "java/util/ArrayList" "modCount" "I", Cond.sameField "java/util/ArrayList" "java/util/AbstractList" "modCount" "I", Cond.fieldLink RJx4a65c 48 "java/util/ArrayList" "size" "I", Cond.methodLink RJx4a65c 112 arraycopyName, Cond.methodLink RJx4a65c 42 ⟨"java/util/Collection", "toArray", "()[Ljava/lang/Object;"⟩, Cond.selects RJx4a65c ⟨"java/util/Collection", "toArray", "()[Ljava/lang/Object;"⟩ yJx4a65c_toArray_d5877, Cond.instanceMethod yJx4a65c_toArray_d5877, Cond.code yJx4a65c_toArray_d5877 cJx4a65c_toArray_d5877 1 (some (.array (.object "java/lang/Object"))), Cond.methodLink RJx4a65c 66 yJ7_copyOf_1904c, Cond.static yJ7_copyOf_1904c, Cond.initialized RJ7, Cond.code yJ7_copyOf_1904c cJ7_copyOf_1904c 2 (some (.array (.object "java/lang/Object"))), Cond.methodLink RJ7 86 ⟨"java/lang/Object", "getClass", "()Ljava/lang/Class;"⟩, Cond.selects "[Ljava/lang/Object;" ⟨"java/lang/Object", "getClass", "()Ljava/lang/Class;"⟩ ⟨"java/lang/Object", "getClass", "()Ljava/lang/Class;"⟩, Cond.instanceMethod ⟨"java/lang/Object", "getClass", "()Ljava/lang/Class;"⟩, Cond.native ⟨"java/lang/Object", "getClass", "()Ljava/lang/Class;"⟩, Cond.methodLink RJ7 300 yJ7_copyOf_6403c, Cond.static yJ7_copyOf_6403c, Cond.code yJ7_copyOf_6403c cJ7_copyOf_6403c 4 (some (.array (.object "java/lang/Object"))), Cond.classLink RJ7 110 "[Ljava/lang/Object;"]
def wsX5_reachesNow_r4 : List Cond := [Cond.classLink RJ7 2 "java/lang/Object", Cond.methodLink RJ7 304 Lib.Math.min.name, Cond.static Lib.Math.min.name, Cond.initialized "java/lang/Math", Cond.code Lib.Math.min.name Lib.Math.min.code 2 (some .int), Cond.methodLink RJ7 150 arraycopyName, Cond.methodLink RJx4a65c 69 yJx4a65c_grow_92f84, Cond.instanceMethod yJx4a65c_grow_92f84, Cond.selects RJx4a65c yJx4a65c_grow_92f84 yJx4a65c_grow_92f84, Cond.code yJx4a65c_grow_92f84 cJx4a65c_grow_92f84 4 (some (.array (.object "java/lang/Object"))), Cond.methodLink RJx4a65c 79 Lib.Math.max.name, Cond.static Lib.Math.max.name, Cond.code Lib.Math.max.name Lib.Math.max.code 2 (some .int), Cond.classLink RJx4a65c 7 "java/lang/Object", Cond.methodLink RJx4a65c 73 yJ8_newLength_cabcc, Cond.static yJ8_newLength_cabcc, Cond.initialized RJ8, Cond.code yJ8_newLength_cabcc cJ8_newLength_cabcc 4 (some .int), Cond.methodLink RJ8 194 Lib.Math.max.name, Cond.constant RJ8 200 (2147483639), Cond.methodLink RJ8 201 yJ8_hugeLength_7cf53, Cond.static yJ8_hugeLength_7cf53, Cond.code yJ8_hugeLength_7cf53 cJ8_hugeLength_7cf53 3 (some .int), Cond.methodLink RX5 161 yX4_pass]
def wsX5_reachesNow_r5 : List Cond := [Cond.instanceMethod yX4_pass, Cond.selects RX4 yX4_pass yX4_pass, Cond.code yX4_pass cX4_pass 3 none, Cond.methodLink RX4 54 yX4_runs, Cond.instanceMethod yX4_runs, Cond.selects RX4 yX4_runs yX4_runs, Cond.code yX4_runs cX4_runs 2 (some .boolean), Cond.methodLink RX4 107 yX4_hears, Cond.instanceMethod yX4_hears, Cond.selects RX4 yX4_hears yX4_hears, Cond.code yX4_hears cX4_hears 2 (some .boolean), Cond.static yX5_sectionOf, Cond.initialized RX5, Cond.code yX5_sectionOf cX5_sectionOf 1 (some .int), Cond.methodLink RX5 20 Lib.Math.min.name, Cond.methodLink RX4 110 yX4_report, Cond.instanceMethod yX4_report, Cond.selects RX4 yX4_report yX4_report, Cond.code yX4_report cX4_report 2 none, Cond.static yX5_rear, Cond.code yX5_rear cX5_rear 1 (some .int), Cond.methodLink RX4 114 yX4_why, Cond.instanceMethod yX4_why, Cond.selects RX4 yX4_why yX4_why]
def wsX5_reachesNow_r6 : List Cond := [Cond.code yX4_why cX4_why 4 (some .int), Cond.methodLink RX4 104 yX4_candidate, Cond.instanceMethod yX4_candidate, Cond.selects RX4 yX4_candidate yX4_candidate, Cond.code yX4_candidate cX4_candidate 7 (some .int), Cond.constant RX4 85 (1000000), Cond.classLink RX4 99 "[I", Cond.methodLink RX4 75 Lib.Math.min.name, Cond.methodLink RX4 86 yJx4a65c_iterator_32c93, Cond.instanceMethod yJx4a65c_iterator_32c93, Cond.selects RJx4a65c yJx4a65c_iterator_32c93 yJx4a65c_iterator_32c93, Cond.code yJx4a65c_iterator_32c93 cJx4a65c_iterator_32c93 1 (some (.object "java/util/Iterator")), Cond.classLink RJx4a65c 267 RJx35411, Cond.instantiable RJx35411 4, Cond.initialized RJx35411, Cond.methodLink RJx4a65c 269 yJx35411_init_45d68, Cond.instanceMethod yJx35411_init_45d68, Cond.code yJx35411_init_45d68 cJx35411_init_45d68 2 none, Cond.fieldLink RJx35411 1 "java/util/ArrayList$Itr" "this$0" "Ljava/util/ArrayList;", Cond.methodLink RJx35411 7 objectInit, Cond.fieldLink RJx35411 13 "java/util/ArrayList$Itr" "lastRet" "I", Cond.fieldLink RJx35411 17 "java/util/ArrayList" "modCount" "I", Cond.fieldLink RJx35411 22 "java/util/ArrayList$Itr" "expectedModCount" "I", Cond.methodLink RX4 90 ⟨"java/util/Iterator", "hasNext", "()Z"⟩]
def wsX5_reachesNow_r7 : List Cond := [Cond.selects RJx35411 ⟨"java/util/Iterator", "hasNext", "()Z"⟩ yJx35411_hasNext_aae02, Cond.instanceMethod yJx35411_hasNext_aae02, Cond.code yJx35411_hasNext_aae02 cJx35411_hasNext_aae02 1 (some .boolean), Cond.fieldLink RJx35411 25 "java/util/ArrayList$Itr" "cursor" "I", Cond.methodLink RX4 96 ⟨"java/util/Iterator", "next", "()Ljava/lang/Object;"⟩, Cond.selects RJx35411 ⟨"java/util/Iterator", "next", "()Ljava/lang/Object;"⟩ yJx35411_next_0502b, Cond.instanceMethod yJx35411_next_0502b, Cond.code yJx35411_next_0502b cJx35411_next_0502b 3 (some (.object "java/lang/Object")), Cond.fieldLink RJx35411 37 "java/util/ArrayList" "elementData" "[Ljava/lang/Object;", Cond.methodLink RJx35411 31 yJx35411_checkForComodification_da8c8, Cond.instanceMethod yJx35411_checkForComodification_da8c8, Cond.selects RJx35411 yJx35411_checkForComodification_da8c8 yJx35411_checkForComodification_da8c8, Cond.code yJx35411_checkForComodification_da8c8 cJx35411_checkForComodification_da8c8 1 none, Cond.methodLink RX4 101 yX4_ahead, Cond.instanceMethod yX4_ahead, Cond.selects RX4 yX4_ahead yX4_ahead, Cond.code yX4_ahead cX4_ahead 2 (some .int), Cond.methodLink RX4 117 yX4_go, Cond.instanceMethod yX4_go, Cond.selects RX4 yX4_go yX4_go, Cond.code yX4_go cX4_go 5 none, Cond.methodLink RX4 62 Lib.Math.max.name, Cond.methodLink RX4 124 yX4_may, Cond.instanceMethod yX4_may]
def wsX5_reachesNow_r8 : List Cond := [Cond.selects RX4 yX4_may yX4_may, Cond.code yX4_may cX4_may 5 (some .int), Cond.methodLink RX4 78 yX4_next, Cond.instanceMethod yX4_next, Cond.selects RX4 yX4_next yX4_next, Cond.code yX4_next cX4_next 4 (some .int), Cond.methodLink RX4 81 yX4_stops, Cond.instanceMethod yX4_stops, Cond.selects RX4 yX4_stops yX4_stops, Cond.code yX4_stops cX4_stops 4 (some .int), Cond.methodLink RX4 68 yX4_hold, Cond.instanceMethod yX4_hold, Cond.selects RX4 yX4_hold yX4_hold, Cond.code yX4_hold cX4_hold 2 (some .int), Cond.methodLink RX4 120 yX4_look, Cond.instanceMethod yX4_look, Cond.selects RX4 yX4_look yX4_look, Cond.code yX4_look cX4_look 5 none]
def wsX5_reachesNow : List Cond := .code yX5_reachesNow cX5_reachesNow 6 (some .int) :: ((wsX5_reachesNow_r1 ++ (wsX5_reachesNow_r2 ++ (wsX5_reachesNow_r3 ++ (wsX5_reachesNow_r4 ++ (wsX5_reachesNow_r5 ++ (wsX5_reachesNow_r6 ++ (wsX5_reachesNow_r7 ++ wsX5_reachesNow_r8))))))) ++ wsX50 ++ wsX40 ++ wsJx4a65c0 ++ wsJx354110)
def wsX5_reaches_r1 : List Cond := [Cond.fieldLink RX5 16 "BrakeCurveModel" "thrown" "I", Cond.methodLink RX5 75 yX5_isTrain, Cond.instanceMethod yX5_isTrain, Cond.selects RX5 yX5_isTrain yX5_isTrain, Cond.initialized RX5, Cond.code yX5_isTrain cX5_isTrain 2 (some .boolean), Cond.fieldLink RX5 10 "BrakeCurveModel" "line" "LBrakeCurveModel$Line;", Cond.methodLink RX5 26 yX5_is, Cond.static yX5_is, Cond.code yX5_is cX5_is 3 (some .boolean), Cond.methodLink RX5 40 yX5_refuse, Cond.instanceMethod yX5_refuse, Cond.selects RX5 yX5_refuse yX5_refuse, Cond.code yX5_refuse cX5_refuse 2 (some .int), Cond.methodLink RX5 163 yX5_reachesNow, Cond.instanceMethod yX5_reachesNow, Cond.selects RX5 yX5_reachesNow yX5_reachesNow, Cond.code yX5_reachesNow cX5_reachesNow 6 (some .int), Cond.methodLink RX5 157 yX4_copy, Cond.instanceMethod yX4_copy, Cond.selects RX4 yX4_copy yX4_copy, Cond.initialized RX4, Cond.code yX4_copy cX4_copy 2 (some (.object "BrakeCurveModel$Line")), Cond.classLink RX4 12 RX4]
def wsX5_reaches_r2 : List Cond := [Cond.instantiable RX4 7, Cond.fieldLink RX4 11 "BrakeCurveModel$Line" "sections" "[[I", Cond.fieldLink RX4 16 "BrakeCurveModel$Line" "stations" "[[I", Cond.fieldLink RX4 19 "BrakeCurveModel$Line" "trains" "[[I", Cond.fieldLink RX4 34 "BrakeCurveModel$Line" "manyStations" "I", Cond.fieldLink RX4 38 "BrakeCurveModel$Line" "manyTrains" "I", Cond.fieldLink RX4 25 "BrakeCurveModel$Line" "works" "Ljava/util/ArrayList;", Cond.fieldLink RX4 45 "BrakeCurveModel$Line" "now" "I", Cond.methodLink RX4 29 yX4_init, Cond.instanceMethod yX4_init, Cond.code yX4_init cX4_init 5 none, Cond.methodLink RX4 3 objectInit, Cond.instanceMethod objectInit, Cond.code objectInit ⟨#[0xb1]⟩ 1 none, Cond.classLink RX4 9 "[[I", Cond.arrayClass .int, Cond.classLink RX4 22 RJx4a65c, Cond.instantiable RJx4a65c 3, Cond.initialized RJx4a65c, Cond.methodLink RX4 24 yJx4a65c_init_da8c8, Cond.instanceMethod yJx4a65c_init_da8c8, Cond.code yJx4a65c_init_da8c8 cJx4a65c_init_da8c8 1 none, Cond.fieldLink RJx4a65c 39 "java/util/ArrayList" "DEFAULTCAPACITY_EMPTY_ELEMENTDATA" "[Ljava/lang/Object;", Cond.fieldLink RJx4a65c 9 "java/util/ArrayList" "elementData" "[Ljava/lang/Object;"]
def wsX5_reaches_r3 : List Cond := [Cond.methodLink RJx4a65c 1 yJxc12de_init_da8c8, Cond.instanceMethod yJxc12de_init_da8c8, Cond.initialized RJxc12de, Cond.code yJxc12de_init_da8c8 cJxc12de_init_da8c8 1 none, Cond.fieldLink RJxc12de 7 "java/util/AbstractList" "modCount" "I", Cond.methodLink RJxc12de 1 yJxa1e45_init_da8c8, Cond.instanceMethod yJxa1e45_init_da8c8, Cond.initialized RJxa1e45, Cond.code yJxa1e45_init_da8c8 cJxa1e45_init_da8c8 1 none, Cond.methodLink RJxa1e45 1 objectInit, Cond.methodLink RX4 30 yX4_copy_, Cond.static yX4_copy_, Cond.code yX4_copy_ cX4_copy_ 3 none, Cond.methodLink RX4 48 arraycopyName, Cond.native arraycopyName, Cond.static arraycopyName, Cond.initialized "java/lang/System", Cond.methodLink RX4 41 yJx4a65c_addAll_f0b43, Cond.instanceMethod yJx4a65c_addAll_f0b43, Cond.selects RJx4a65c yJx4a65c_addAll_f0b43 yJx4a65c_addAll_f0b43, Cond.code yJx4a65c_addAll_f0b43 cJx4a65c_addAll_f0b43 6 (some .boolean), Cond.fieldLink RJx4a65c 63 "java/util/ArrayList" "modCount" "I", Cond.sameField "java/util/ArrayList" "java/util/AbstractList" "modCount" "I", Cond.fieldLink RJx4a65c 48 "java/util/ArrayList" "size" "I"]
def wsX5_reaches_r4 : List Cond := [Cond.methodLink RJx4a65c 112 arraycopyName, Cond.methodLink RJx4a65c 42 ⟨"java/util/Collection", "toArray", "()[Ljava/lang/Object;"⟩, Cond.selects RJx4a65c ⟨"java/util/Collection", "toArray", "()[Ljava/lang/Object;"⟩ yJx4a65c_toArray_d5877, Cond.instanceMethod yJx4a65c_toArray_d5877, Cond.code yJx4a65c_toArray_d5877 cJx4a65c_toArray_d5877 1 (some (.array (.object "java/lang/Object"))), Cond.methodLink RJx4a65c 66 yJ7_copyOf_1904c, Cond.static yJ7_copyOf_1904c, Cond.initialized RJ7, Cond.code yJ7_copyOf_1904c cJ7_copyOf_1904c 2 (some (.array (.object "java/lang/Object"))), Cond.methodLink RJ7 86 ⟨"java/lang/Object", "getClass", "()Ljava/lang/Class;"⟩, Cond.selects "[Ljava/lang/Object;" ⟨"java/lang/Object", "getClass", "()Ljava/lang/Class;"⟩ ⟨"java/lang/Object", "getClass", "()Ljava/lang/Class;"⟩, Cond.instanceMethod ⟨"java/lang/Object", "getClass", "()Ljava/lang/Class;"⟩, Cond.native ⟨"java/lang/Object", "getClass", "()Ljava/lang/Class;"⟩, Cond.methodLink RJ7 300 yJ7_copyOf_6403c, Cond.static yJ7_copyOf_6403c, Cond.code yJ7_copyOf_6403c cJ7_copyOf_6403c 4 (some (.array (.object "java/lang/Object"))), Cond.classLink RJ7 110 "[Ljava/lang/Object;", Cond.classLink RJ7 2 "java/lang/Object", Cond.methodLink RJ7 304 Lib.Math.min.name, Cond.static Lib.Math.min.name, Cond.initialized "java/lang/Math", Cond.code Lib.Math.min.name Lib.Math.min.code 2 (some .int), Cond.methodLink RJ7 150 arraycopyName, Cond.methodLink RJx4a65c 69 yJx4a65c_grow_92f84]
def wsX5_reaches_r5 : List Cond := [Cond.instanceMethod yJx4a65c_grow_92f84, Cond.selects RJx4a65c yJx4a65c_grow_92f84 yJx4a65c_grow_92f84, Cond.code yJx4a65c_grow_92f84 cJx4a65c_grow_92f84 4 (some (.array (.object "java/lang/Object"))), Cond.methodLink RJx4a65c 79 Lib.Math.max.name, Cond.static Lib.Math.max.name, Cond.code Lib.Math.max.name Lib.Math.max.code 2 (some .int), Cond.classLink RJx4a65c 7 "java/lang/Object", Cond.methodLink RJx4a65c 73 yJ8_newLength_cabcc, Cond.static yJ8_newLength_cabcc, Cond.initialized RJ8, Cond.code yJ8_newLength_cabcc cJ8_newLength_cabcc 4 (some .int), Cond.methodLink RJ8 194 Lib.Math.max.name, Cond.constant RJ8 200 (2147483639), Cond.methodLink RJ8 201 yJ8_hugeLength_7cf53, Cond.static yJ8_hugeLength_7cf53, Cond.code yJ8_hugeLength_7cf53 cJ8_hugeLength_7cf53 3 (some .int), Cond.methodLink RX5 161 yX4_pass, Cond.instanceMethod yX4_pass, Cond.selects RX4 yX4_pass yX4_pass, Cond.code yX4_pass cX4_pass 3 none, Cond.methodLink RX4 54 yX4_runs, Cond.instanceMethod yX4_runs, Cond.selects RX4 yX4_runs yX4_runs, Cond.code yX4_runs cX4_runs 2 (some .boolean)]
def wsX5_reaches_r6 : List Cond := [Cond.methodLink RX4 107 yX4_hears, Cond.instanceMethod yX4_hears, Cond.selects RX4 yX4_hears yX4_hears, Cond.code yX4_hears cX4_hears 2 (some .boolean), Cond.static yX5_sectionOf, Cond.code yX5_sectionOf cX5_sectionOf 1 (some .int), Cond.methodLink RX5 20 Lib.Math.min.name, Cond.methodLink RX4 110 yX4_report, Cond.instanceMethod yX4_report, Cond.selects RX4 yX4_report yX4_report, Cond.code yX4_report cX4_report 2 none, Cond.static yX5_rear, Cond.code yX5_rear cX5_rear 1 (some .int), Cond.methodLink RX4 114 yX4_why, Cond.instanceMethod yX4_why, Cond.selects RX4 yX4_why yX4_why, Cond.code yX4_why cX4_why 4 (some .int), Cond.methodLink RX4 104 yX4_candidate, Cond.instanceMethod yX4_candidate, Cond.selects RX4 yX4_candidate yX4_candidate, Cond.code yX4_candidate cX4_candidate 7 (some .int), Cond.constant RX4 85 (1000000), Cond.classLink RX4 99 "[I", Cond.methodLink RX4 75 Lib.Math.min.name]
def wsX5_reaches_r7 : List Cond := [Cond.methodLink RX4 86 yJx4a65c_iterator_32c93, Cond.instanceMethod yJx4a65c_iterator_32c93, Cond.selects RJx4a65c yJx4a65c_iterator_32c93 yJx4a65c_iterator_32c93, Cond.code yJx4a65c_iterator_32c93 cJx4a65c_iterator_32c93 1 (some (.object "java/util/Iterator")), Cond.classLink RJx4a65c 267 RJx35411, Cond.instantiable RJx35411 4, Cond.initialized RJx35411, Cond.methodLink RJx4a65c 269 yJx35411_init_45d68, Cond.instanceMethod yJx35411_init_45d68, Cond.code yJx35411_init_45d68 cJx35411_init_45d68 2 none, Cond.fieldLink RJx35411 1 "java/util/ArrayList$Itr" "this$0" "Ljava/util/ArrayList;", Cond.methodLink RJx35411 7 objectInit, Cond.fieldLink RJx35411 13 "java/util/ArrayList$Itr" "lastRet" "I", Cond.fieldLink RJx35411 17 "java/util/ArrayList" "modCount" "I", Cond.fieldLink RJx35411 22 "java/util/ArrayList$Itr" "expectedModCount" "I", Cond.methodLink RX4 90 ⟨"java/util/Iterator", "hasNext", "()Z"⟩, Cond.selects RJx35411 ⟨"java/util/Iterator", "hasNext", "()Z"⟩ yJx35411_hasNext_aae02, Cond.instanceMethod yJx35411_hasNext_aae02, Cond.code yJx35411_hasNext_aae02 cJx35411_hasNext_aae02 1 (some .boolean), Cond.fieldLink RJx35411 25 "java/util/ArrayList$Itr" "cursor" "I", Cond.methodLink RX4 96 ⟨"java/util/Iterator", "next", "()Ljava/lang/Object;"⟩, Cond.selects RJx35411 ⟨"java/util/Iterator", "next", "()Ljava/lang/Object;"⟩ yJx35411_next_0502b, Cond.instanceMethod yJx35411_next_0502b, Cond.code yJx35411_next_0502b cJx35411_next_0502b 3 (some (.object "java/lang/Object"))]
def wsX5_reaches_r8 : List Cond := [Cond.fieldLink RJx35411 37 "java/util/ArrayList" "elementData" "[Ljava/lang/Object;", Cond.methodLink RJx35411 31 yJx35411_checkForComodification_da8c8, Cond.instanceMethod yJx35411_checkForComodification_da8c8, Cond.selects RJx35411 yJx35411_checkForComodification_da8c8 yJx35411_checkForComodification_da8c8, Cond.code yJx35411_checkForComodification_da8c8 cJx35411_checkForComodification_da8c8 1 none, Cond.methodLink RX4 101 yX4_ahead, Cond.instanceMethod yX4_ahead, Cond.selects RX4 yX4_ahead yX4_ahead, Cond.code yX4_ahead cX4_ahead 2 (some .int), Cond.methodLink RX4 117 yX4_go, Cond.instanceMethod yX4_go, Cond.selects RX4 yX4_go yX4_go, Cond.code yX4_go cX4_go 5 none, Cond.methodLink RX4 62 Lib.Math.max.name, Cond.methodLink RX4 124 yX4_may, Cond.instanceMethod yX4_may, Cond.selects RX4 yX4_may yX4_may, Cond.code yX4_may cX4_may 5 (some .int), Cond.methodLink RX4 78 yX4_next, Cond.instanceMethod yX4_next, Cond.selects RX4 yX4_next yX4_next, Cond.code yX4_next cX4_next 4 (some .int), Cond.methodLink RX4 81 yX4_stops, Cond.instanceMethod yX4_stops]
def wsX5_reaches_r9 : List Cond := [Cond.selects RX4 yX4_stops yX4_stops, Cond.code yX4_stops cX4_stops 4 (some .int), Cond.methodLink RX4 68 yX4_hold, Cond.instanceMethod yX4_hold, Cond.selects RX4 yX4_hold yX4_hold, Cond.code yX4_hold cX4_hold 2 (some .int), Cond.methodLink RX4 120 yX4_look, Cond.instanceMethod yX4_look, Cond.selects RX4 yX4_look yX4_look, Cond.code yX4_look cX4_look 5 none]
def wsX5_reaches : List Cond := .code yX5_reaches cX5_reaches 4 (some .int) :: ((wsX5_reaches_r1 ++ (wsX5_reaches_r2 ++ (wsX5_reaches_r3 ++ (wsX5_reaches_r4 ++ (wsX5_reaches_r5 ++ (wsX5_reaches_r6 ++ (wsX5_reaches_r7 ++ (wsX5_reaches_r8 ++ wsX5_reaches_r9)))))))) ++ wsX50 ++ wsX40 ++ wsJx4a65c0 ++ wsJx354110)
def wsX5_closestNow_r1 : List Cond := [Cond.fieldLink RX5 10 "BrakeCurveModel" "line" "LBrakeCurveModel$Line;", Cond.methodLink RX5 129 yX4_ahead, Cond.instanceMethod yX4_ahead, Cond.selects RX4 yX4_ahead yX4_ahead, Cond.initialized RX4, Cond.code yX4_ahead cX4_ahead 2 (some .int), Cond.methodLink RX4 54 yX4_runs, Cond.instanceMethod yX4_runs, Cond.selects RX4 yX4_runs yX4_runs, Cond.code yX4_runs cX4_runs 2 (some .boolean), Cond.fieldLink RX4 19 "BrakeCurveModel$Line" "trains" "[[I", Cond.methodLink RX5 51 yX4_runs, Cond.methodLink RX5 157 yX4_copy, Cond.instanceMethod yX4_copy, Cond.selects RX4 yX4_copy yX4_copy, Cond.code yX4_copy cX4_copy 2 (some (.object "BrakeCurveModel$Line")), Cond.classLink RX4 12 RX4, Cond.instantiable RX4 7, Cond.fieldLink RX4 11 "BrakeCurveModel$Line" "sections" "[[I", Cond.fieldLink RX4 16 "BrakeCurveModel$Line" "stations" "[[I", Cond.fieldLink RX4 34 "BrakeCurveModel$Line" "manyStations" "I", Cond.fieldLink RX4 38 "BrakeCurveModel$Line" "manyTrains" "I", Cond.fieldLink RX4 25 "BrakeCurveModel$Line" "works" "Ljava/util/ArrayList;", Cond.fieldLink RX4 45 "BrakeCurveModel$Line" "now" "I"]
def wsX5_closestNow_r2 : List Cond := [Cond.methodLink RX4 29 yX4_init, Cond.instanceMethod yX4_init, Cond.code yX4_init cX4_init 5 none, Cond.methodLink RX4 3 objectInit, Cond.instanceMethod objectInit, Cond.code objectInit ⟨#[0xb1]⟩ 1 none, Cond.classLink RX4 9 "[[I", Cond.arrayClass .int, Cond.classLink RX4 22 RJx4a65c, Cond.instantiable RJx4a65c 3, Cond.initialized RJx4a65c, Cond.methodLink RX4 24 yJx4a65c_init_da8c8, Cond.instanceMethod yJx4a65c_init_da8c8, Cond.code yJx4a65c_init_da8c8 cJx4a65c_init_da8c8 1 none, Cond.fieldLink RJx4a65c 39 "java/util/ArrayList" "DEFAULTCAPACITY_EMPTY_ELEMENTDATA" "[Ljava/lang/Object;", Cond.fieldLink RJx4a65c 9 "java/util/ArrayList" "elementData" "[Ljava/lang/Object;", Cond.methodLink RJx4a65c 1 yJxc12de_init_da8c8, Cond.instanceMethod yJxc12de_init_da8c8, Cond.initialized RJxc12de, Cond.code yJxc12de_init_da8c8 cJxc12de_init_da8c8 1 none, Cond.fieldLink RJxc12de 7 "java/util/AbstractList" "modCount" "I", Cond.methodLink RJxc12de 1 yJxa1e45_init_da8c8, Cond.instanceMethod yJxa1e45_init_da8c8, Cond.initialized RJxa1e45]
def wsX5_closestNow_r3 : List Cond := [Cond.code yJxa1e45_init_da8c8 cJxa1e45_init_da8c8 1 none, Cond.methodLink RJxa1e45 1 objectInit, Cond.methodLink RX4 30 yX4_copy_, Cond.static yX4_copy_, Cond.code yX4_copy_ cX4_copy_ 3 none, Cond.methodLink RX4 48 arraycopyName, Cond.native arraycopyName, Cond.static arraycopyName, Cond.initialized "java/lang/System", Cond.methodLink RX4 41 yJx4a65c_addAll_f0b43, Cond.instanceMethod yJx4a65c_addAll_f0b43, Cond.selects RJx4a65c yJx4a65c_addAll_f0b43 yJx4a65c_addAll_f0b43, Cond.code yJx4a65c_addAll_f0b43 cJx4a65c_addAll_f0b43 6 (some .boolean), Cond.fieldLink RJx4a65c 63 "java/util/ArrayList" "modCount" "I", Cond.sameField "java/util/ArrayList" "java/util/AbstractList" "modCount" "I", Cond.fieldLink RJx4a65c 48 "java/util/ArrayList" "size" "I", Cond.methodLink RJx4a65c 112 arraycopyName, Cond.methodLink RJx4a65c 42 ⟨"java/util/Collection", "toArray", "()[Ljava/lang/Object;"⟩, Cond.selects RJx4a65c ⟨"java/util/Collection", "toArray", "()[Ljava/lang/Object;"⟩ yJx4a65c_toArray_d5877, Cond.instanceMethod yJx4a65c_toArray_d5877, Cond.code yJx4a65c_toArray_d5877 cJx4a65c_toArray_d5877 1 (some (.array (.object "java/lang/Object"))), Cond.methodLink RJx4a65c 66 yJ7_copyOf_1904c, Cond.static yJ7_copyOf_1904c, Cond.initialized RJ7]
def wsX5_closestNow_r4 : List Cond := [Cond.code yJ7_copyOf_1904c cJ7_copyOf_1904c 2 (some (.array (.object "java/lang/Object"))), Cond.methodLink RJ7 86 ⟨"java/lang/Object", "getClass", "()Ljava/lang/Class;"⟩, Cond.selects "[Ljava/lang/Object;" ⟨"java/lang/Object", "getClass", "()Ljava/lang/Class;"⟩ ⟨"java/lang/Object", "getClass", "()Ljava/lang/Class;"⟩, Cond.instanceMethod ⟨"java/lang/Object", "getClass", "()Ljava/lang/Class;"⟩, Cond.native ⟨"java/lang/Object", "getClass", "()Ljava/lang/Class;"⟩, Cond.methodLink RJ7 300 yJ7_copyOf_6403c, Cond.static yJ7_copyOf_6403c, Cond.code yJ7_copyOf_6403c cJ7_copyOf_6403c 4 (some (.array (.object "java/lang/Object"))), Cond.classLink RJ7 110 "[Ljava/lang/Object;", Cond.classLink RJ7 2 "java/lang/Object", Cond.methodLink RJ7 304 Lib.Math.min.name, Cond.static Lib.Math.min.name, Cond.initialized "java/lang/Math", Cond.code Lib.Math.min.name Lib.Math.min.code 2 (some .int), Cond.methodLink RJ7 150 arraycopyName, Cond.methodLink RJx4a65c 69 yJx4a65c_grow_92f84, Cond.instanceMethod yJx4a65c_grow_92f84, Cond.selects RJx4a65c yJx4a65c_grow_92f84 yJx4a65c_grow_92f84, Cond.code yJx4a65c_grow_92f84 cJx4a65c_grow_92f84 4 (some (.array (.object "java/lang/Object"))), Cond.methodLink RJx4a65c 79 Lib.Math.max.name, Cond.static Lib.Math.max.name, Cond.code Lib.Math.max.name Lib.Math.max.code 2 (some .int), Cond.classLink RJx4a65c 7 "java/lang/Object", Cond.methodLink RJx4a65c 73 yJ8_newLength_cabcc]
def wsX5_closestNow_r5 : List Cond := [Cond.static yJ8_newLength_cabcc, Cond.initialized RJ8, Cond.code yJ8_newLength_cabcc cJ8_newLength_cabcc 4 (some .int), Cond.methodLink RJ8 194 Lib.Math.max.name, Cond.constant RJ8 200 (2147483639), Cond.methodLink RJ8 201 yJ8_hugeLength_7cf53, Cond.static yJ8_hugeLength_7cf53, Cond.code yJ8_hugeLength_7cf53 cJ8_hugeLength_7cf53 3 (some .int), Cond.methodLink RX5 102 yX4_pass_, Cond.instanceMethod yX4_pass_, Cond.selects RX4 yX4_pass_ yX4_pass_, Cond.code yX4_pass_ cX4_pass_ 3 none, Cond.methodLink RX4 127 yX4_pass, Cond.instanceMethod yX4_pass, Cond.selects RX4 yX4_pass yX4_pass, Cond.code yX4_pass cX4_pass 3 none, Cond.methodLink RX4 107 yX4_hears, Cond.instanceMethod yX4_hears, Cond.selects RX4 yX4_hears yX4_hears, Cond.code yX4_hears cX4_hears 2 (some .boolean), Cond.static yX5_sectionOf, Cond.initialized RX5, Cond.code yX5_sectionOf cX5_sectionOf 1 (some .int), Cond.methodLink RX5 20 Lib.Math.min.name]
def wsX5_closestNow_r6 : List Cond := [Cond.methodLink RX4 110 yX4_report, Cond.instanceMethod yX4_report, Cond.selects RX4 yX4_report yX4_report, Cond.code yX4_report cX4_report 2 none, Cond.static yX5_rear, Cond.code yX5_rear cX5_rear 1 (some .int), Cond.methodLink RX4 114 yX4_why, Cond.instanceMethod yX4_why, Cond.selects RX4 yX4_why yX4_why, Cond.code yX4_why cX4_why 4 (some .int), Cond.methodLink RX4 104 yX4_candidate, Cond.instanceMethod yX4_candidate, Cond.selects RX4 yX4_candidate yX4_candidate, Cond.code yX4_candidate cX4_candidate 7 (some .int), Cond.constant RX4 85 (1000000), Cond.classLink RX4 99 "[I", Cond.methodLink RX4 75 Lib.Math.min.name, Cond.methodLink RX4 86 yJx4a65c_iterator_32c93, Cond.instanceMethod yJx4a65c_iterator_32c93, Cond.selects RJx4a65c yJx4a65c_iterator_32c93 yJx4a65c_iterator_32c93, Cond.code yJx4a65c_iterator_32c93 cJx4a65c_iterator_32c93 1 (some (.object "java/util/Iterator")), Cond.classLink RJx4a65c 267 RJx35411, Cond.instantiable RJx35411 4, Cond.initialized RJx35411]
def wsX5_closestNow_r7 : List Cond := [Cond.methodLink RJx4a65c 269 yJx35411_init_45d68, Cond.instanceMethod yJx35411_init_45d68, Cond.code yJx35411_init_45d68 cJx35411_init_45d68 2 none, Cond.fieldLink RJx35411 1 "java/util/ArrayList$Itr" "this$0" "Ljava/util/ArrayList;", Cond.methodLink RJx35411 7 objectInit, Cond.fieldLink RJx35411 13 "java/util/ArrayList$Itr" "lastRet" "I", Cond.fieldLink RJx35411 17 "java/util/ArrayList" "modCount" "I", Cond.fieldLink RJx35411 22 "java/util/ArrayList$Itr" "expectedModCount" "I", Cond.methodLink RX4 90 ⟨"java/util/Iterator", "hasNext", "()Z"⟩, Cond.selects RJx35411 ⟨"java/util/Iterator", "hasNext", "()Z"⟩ yJx35411_hasNext_aae02, Cond.instanceMethod yJx35411_hasNext_aae02, Cond.code yJx35411_hasNext_aae02 cJx35411_hasNext_aae02 1 (some .boolean), Cond.fieldLink RJx35411 25 "java/util/ArrayList$Itr" "cursor" "I", Cond.methodLink RX4 96 ⟨"java/util/Iterator", "next", "()Ljava/lang/Object;"⟩, Cond.selects RJx35411 ⟨"java/util/Iterator", "next", "()Ljava/lang/Object;"⟩ yJx35411_next_0502b, Cond.instanceMethod yJx35411_next_0502b, Cond.code yJx35411_next_0502b cJx35411_next_0502b 3 (some (.object "java/lang/Object")), Cond.fieldLink RJx35411 37 "java/util/ArrayList" "elementData" "[Ljava/lang/Object;", Cond.methodLink RJx35411 31 yJx35411_checkForComodification_da8c8, Cond.instanceMethod yJx35411_checkForComodification_da8c8, Cond.selects RJx35411 yJx35411_checkForComodification_da8c8 yJx35411_checkForComodification_da8c8, Cond.code yJx35411_checkForComodification_da8c8 cJx35411_checkForComodification_da8c8 1 none, Cond.methodLink RX4 101 yX4_ahead, Cond.methodLink RX4 117 yX4_go]
def wsX5_closestNow_r8 : List Cond := [Cond.instanceMethod yX4_go, Cond.selects RX4 yX4_go yX4_go, Cond.code yX4_go cX4_go 5 none, Cond.methodLink RX4 62 Lib.Math.max.name, Cond.methodLink RX4 124 yX4_may, Cond.instanceMethod yX4_may, Cond.selects RX4 yX4_may yX4_may, Cond.code yX4_may cX4_may 5 (some .int), Cond.methodLink RX4 78 yX4_next, Cond.instanceMethod yX4_next, Cond.selects RX4 yX4_next yX4_next, Cond.code yX4_next cX4_next 4 (some .int), Cond.methodLink RX4 81 yX4_stops, Cond.instanceMethod yX4_stops, Cond.selects RX4 yX4_stops yX4_stops, Cond.code yX4_stops cX4_stops 4 (some .int), Cond.methodLink RX4 68 yX4_hold, Cond.instanceMethod yX4_hold, Cond.selects RX4 yX4_hold yX4_hold, Cond.code yX4_hold cX4_hold 2 (some .int), Cond.methodLink RX4 120 yX4_look, Cond.instanceMethod yX4_look, Cond.selects RX4 yX4_look yX4_look, Cond.code yX4_look cX4_look 5 none]
def wsX5_closestNow : List Cond := .code yX5_closestNow cX5_closestNow 5 (some .int) :: ((wsX5_closestNow_r1 ++ (wsX5_closestNow_r2 ++ (wsX5_closestNow_r3 ++ (wsX5_closestNow_r4 ++ (wsX5_closestNow_r5 ++ (wsX5_closestNow_r6 ++ (wsX5_closestNow_r7 ++ wsX5_closestNow_r8))))))) ++ wsX50 ++ wsX40 ++ wsJx4a65c0 ++ wsJx354110)
def wsX5_closest_r1 : List Cond := [Cond.fieldLink RX5 16 "BrakeCurveModel" "thrown" "I", Cond.methodLink RX5 75 yX5_isTrain, Cond.instanceMethod yX5_isTrain, Cond.selects RX5 yX5_isTrain yX5_isTrain, Cond.initialized RX5, Cond.code yX5_isTrain cX5_isTrain 2 (some .boolean), Cond.fieldLink RX5 10 "BrakeCurveModel" "line" "LBrakeCurveModel$Line;", Cond.methodLink RX5 26 yX5_is, Cond.static yX5_is, Cond.code yX5_is cX5_is 3 (some .boolean), Cond.methodLink RX5 40 yX5_refuse, Cond.instanceMethod yX5_refuse, Cond.selects RX5 yX5_refuse yX5_refuse, Cond.code yX5_refuse cX5_refuse 2 (some .int), Cond.methodLink RX5 167 yX5_closestNow, Cond.instanceMethod yX5_closestNow, Cond.selects RX5 yX5_closestNow yX5_closestNow, Cond.code yX5_closestNow cX5_closestNow 5 (some .int), Cond.methodLink RX5 129 yX4_ahead, Cond.instanceMethod yX4_ahead, Cond.selects RX4 yX4_ahead yX4_ahead, Cond.initialized RX4, Cond.code yX4_ahead cX4_ahead 2 (some .int), Cond.methodLink RX4 54 yX4_runs]
def wsX5_closest_r2 : List Cond := [Cond.instanceMethod yX4_runs, Cond.selects RX4 yX4_runs yX4_runs, Cond.code yX4_runs cX4_runs 2 (some .boolean), Cond.fieldLink RX4 19 "BrakeCurveModel$Line" "trains" "[[I", Cond.methodLink RX5 51 yX4_runs, Cond.methodLink RX5 157 yX4_copy, Cond.instanceMethod yX4_copy, Cond.selects RX4 yX4_copy yX4_copy, Cond.code yX4_copy cX4_copy 2 (some (.object "BrakeCurveModel$Line")), Cond.classLink RX4 12 RX4, Cond.instantiable RX4 7, Cond.fieldLink RX4 11 "BrakeCurveModel$Line" "sections" "[[I", Cond.fieldLink RX4 16 "BrakeCurveModel$Line" "stations" "[[I", Cond.fieldLink RX4 34 "BrakeCurveModel$Line" "manyStations" "I", Cond.fieldLink RX4 38 "BrakeCurveModel$Line" "manyTrains" "I", Cond.fieldLink RX4 25 "BrakeCurveModel$Line" "works" "Ljava/util/ArrayList;", Cond.fieldLink RX4 45 "BrakeCurveModel$Line" "now" "I", Cond.methodLink RX4 29 yX4_init, Cond.instanceMethod yX4_init, Cond.code yX4_init cX4_init 5 none, Cond.methodLink RX4 3 objectInit, Cond.instanceMethod objectInit, Cond.code objectInit ⟨#[0xb1]⟩ 1 none, Cond.classLink RX4 9 "[[I"]
def wsX5_closest_r3 : List Cond := [Cond.arrayClass .int, Cond.classLink RX4 22 RJx4a65c, Cond.instantiable RJx4a65c 3, Cond.initialized RJx4a65c, Cond.methodLink RX4 24 yJx4a65c_init_da8c8, Cond.instanceMethod yJx4a65c_init_da8c8, Cond.code yJx4a65c_init_da8c8 cJx4a65c_init_da8c8 1 none, Cond.fieldLink RJx4a65c 39 "java/util/ArrayList" "DEFAULTCAPACITY_EMPTY_ELEMENTDATA" "[Ljava/lang/Object;", Cond.fieldLink RJx4a65c 9 "java/util/ArrayList" "elementData" "[Ljava/lang/Object;", Cond.methodLink RJx4a65c 1 yJxc12de_init_da8c8, Cond.instanceMethod yJxc12de_init_da8c8, Cond.initialized RJxc12de, Cond.code yJxc12de_init_da8c8 cJxc12de_init_da8c8 1 none, Cond.fieldLink RJxc12de 7 "java/util/AbstractList" "modCount" "I", Cond.methodLink RJxc12de 1 yJxa1e45_init_da8c8, Cond.instanceMethod yJxa1e45_init_da8c8, Cond.initialized RJxa1e45, Cond.code yJxa1e45_init_da8c8 cJxa1e45_init_da8c8 1 none, Cond.methodLink RJxa1e45 1 objectInit, Cond.methodLink RX4 30 yX4_copy_, Cond.static yX4_copy_, Cond.code yX4_copy_ cX4_copy_ 3 none, Cond.methodLink RX4 48 arraycopyName, Cond.native arraycopyName]
def wsX5_closest_r4 : List Cond := [Cond.static arraycopyName, Cond.initialized "java/lang/System", Cond.methodLink RX4 41 yJx4a65c_addAll_f0b43, Cond.instanceMethod yJx4a65c_addAll_f0b43, Cond.selects RJx4a65c yJx4a65c_addAll_f0b43 yJx4a65c_addAll_f0b43, Cond.code yJx4a65c_addAll_f0b43 cJx4a65c_addAll_f0b43 6 (some .boolean), Cond.fieldLink RJx4a65c 63 "java/util/ArrayList" "modCount" "I", Cond.sameField "java/util/ArrayList" "java/util/AbstractList" "modCount" "I", Cond.fieldLink RJx4a65c 48 "java/util/ArrayList" "size" "I", Cond.methodLink RJx4a65c 112 arraycopyName, Cond.methodLink RJx4a65c 42 ⟨"java/util/Collection", "toArray", "()[Ljava/lang/Object;"⟩, Cond.selects RJx4a65c ⟨"java/util/Collection", "toArray", "()[Ljava/lang/Object;"⟩ yJx4a65c_toArray_d5877, Cond.instanceMethod yJx4a65c_toArray_d5877, Cond.code yJx4a65c_toArray_d5877 cJx4a65c_toArray_d5877 1 (some (.array (.object "java/lang/Object"))), Cond.methodLink RJx4a65c 66 yJ7_copyOf_1904c, Cond.static yJ7_copyOf_1904c, Cond.initialized RJ7, Cond.code yJ7_copyOf_1904c cJ7_copyOf_1904c 2 (some (.array (.object "java/lang/Object"))), Cond.methodLink RJ7 86 ⟨"java/lang/Object", "getClass", "()Ljava/lang/Class;"⟩, Cond.selects "[Ljava/lang/Object;" ⟨"java/lang/Object", "getClass", "()Ljava/lang/Class;"⟩ ⟨"java/lang/Object", "getClass", "()Ljava/lang/Class;"⟩, Cond.instanceMethod ⟨"java/lang/Object", "getClass", "()Ljava/lang/Class;"⟩, Cond.native ⟨"java/lang/Object", "getClass", "()Ljava/lang/Class;"⟩, Cond.methodLink RJ7 300 yJ7_copyOf_6403c, Cond.static yJ7_copyOf_6403c]
def wsX5_closest_r5 : List Cond := [Cond.code yJ7_copyOf_6403c cJ7_copyOf_6403c 4 (some (.array (.object "java/lang/Object"))), Cond.classLink RJ7 110 "[Ljava/lang/Object;", Cond.classLink RJ7 2 "java/lang/Object", Cond.methodLink RJ7 304 Lib.Math.min.name, Cond.static Lib.Math.min.name, Cond.initialized "java/lang/Math", Cond.code Lib.Math.min.name Lib.Math.min.code 2 (some .int), Cond.methodLink RJ7 150 arraycopyName, Cond.methodLink RJx4a65c 69 yJx4a65c_grow_92f84, Cond.instanceMethod yJx4a65c_grow_92f84, Cond.selects RJx4a65c yJx4a65c_grow_92f84 yJx4a65c_grow_92f84, Cond.code yJx4a65c_grow_92f84 cJx4a65c_grow_92f84 4 (some (.array (.object "java/lang/Object"))), Cond.methodLink RJx4a65c 79 Lib.Math.max.name, Cond.static Lib.Math.max.name, Cond.code Lib.Math.max.name Lib.Math.max.code 2 (some .int), Cond.classLink RJx4a65c 7 "java/lang/Object", Cond.methodLink RJx4a65c 73 yJ8_newLength_cabcc, Cond.static yJ8_newLength_cabcc, Cond.initialized RJ8, Cond.code yJ8_newLength_cabcc cJ8_newLength_cabcc 4 (some .int), Cond.methodLink RJ8 194 Lib.Math.max.name, Cond.constant RJ8 200 (2147483639), Cond.methodLink RJ8 201 yJ8_hugeLength_7cf53, Cond.static yJ8_hugeLength_7cf53]
def wsX5_closest_r6 : List Cond := [Cond.code yJ8_hugeLength_7cf53 cJ8_hugeLength_7cf53 3 (some .int), Cond.methodLink RX5 102 yX4_pass_, Cond.instanceMethod yX4_pass_, Cond.selects RX4 yX4_pass_ yX4_pass_, Cond.code yX4_pass_ cX4_pass_ 3 none, Cond.methodLink RX4 127 yX4_pass, Cond.instanceMethod yX4_pass, Cond.selects RX4 yX4_pass yX4_pass, Cond.code yX4_pass cX4_pass 3 none, Cond.methodLink RX4 107 yX4_hears, Cond.instanceMethod yX4_hears, Cond.selects RX4 yX4_hears yX4_hears, Cond.code yX4_hears cX4_hears 2 (some .boolean), Cond.static yX5_sectionOf, Cond.code yX5_sectionOf cX5_sectionOf 1 (some .int), Cond.methodLink RX5 20 Lib.Math.min.name, Cond.methodLink RX4 110 yX4_report, Cond.instanceMethod yX4_report, Cond.selects RX4 yX4_report yX4_report, Cond.code yX4_report cX4_report 2 none, Cond.static yX5_rear, Cond.code yX5_rear cX5_rear 1 (some .int), Cond.methodLink RX4 114 yX4_why, Cond.instanceMethod yX4_why]
def wsX5_closest_r7 : List Cond := [Cond.selects RX4 yX4_why yX4_why, Cond.code yX4_why cX4_why 4 (some .int), Cond.methodLink RX4 104 yX4_candidate, Cond.instanceMethod yX4_candidate, Cond.selects RX4 yX4_candidate yX4_candidate, Cond.code yX4_candidate cX4_candidate 7 (some .int), Cond.constant RX4 85 (1000000), Cond.classLink RX4 99 "[I", Cond.methodLink RX4 75 Lib.Math.min.name, Cond.methodLink RX4 86 yJx4a65c_iterator_32c93, Cond.instanceMethod yJx4a65c_iterator_32c93, Cond.selects RJx4a65c yJx4a65c_iterator_32c93 yJx4a65c_iterator_32c93, Cond.code yJx4a65c_iterator_32c93 cJx4a65c_iterator_32c93 1 (some (.object "java/util/Iterator")), Cond.classLink RJx4a65c 267 RJx35411, Cond.instantiable RJx35411 4, Cond.initialized RJx35411, Cond.methodLink RJx4a65c 269 yJx35411_init_45d68, Cond.instanceMethod yJx35411_init_45d68, Cond.code yJx35411_init_45d68 cJx35411_init_45d68 2 none, Cond.fieldLink RJx35411 1 "java/util/ArrayList$Itr" "this$0" "Ljava/util/ArrayList;", Cond.methodLink RJx35411 7 objectInit, Cond.fieldLink RJx35411 13 "java/util/ArrayList$Itr" "lastRet" "I", Cond.fieldLink RJx35411 17 "java/util/ArrayList" "modCount" "I", Cond.fieldLink RJx35411 22 "java/util/ArrayList$Itr" "expectedModCount" "I"]
def wsX5_closest_r8 : List Cond := [Cond.methodLink RX4 90 ⟨"java/util/Iterator", "hasNext", "()Z"⟩, Cond.selects RJx35411 ⟨"java/util/Iterator", "hasNext", "()Z"⟩ yJx35411_hasNext_aae02, Cond.instanceMethod yJx35411_hasNext_aae02, Cond.code yJx35411_hasNext_aae02 cJx35411_hasNext_aae02 1 (some .boolean), Cond.fieldLink RJx35411 25 "java/util/ArrayList$Itr" "cursor" "I", Cond.methodLink RX4 96 ⟨"java/util/Iterator", "next", "()Ljava/lang/Object;"⟩, Cond.selects RJx35411 ⟨"java/util/Iterator", "next", "()Ljava/lang/Object;"⟩ yJx35411_next_0502b, Cond.instanceMethod yJx35411_next_0502b, Cond.code yJx35411_next_0502b cJx35411_next_0502b 3 (some (.object "java/lang/Object")), Cond.fieldLink RJx35411 37 "java/util/ArrayList" "elementData" "[Ljava/lang/Object;", Cond.methodLink RJx35411 31 yJx35411_checkForComodification_da8c8, Cond.instanceMethod yJx35411_checkForComodification_da8c8, Cond.selects RJx35411 yJx35411_checkForComodification_da8c8 yJx35411_checkForComodification_da8c8, Cond.code yJx35411_checkForComodification_da8c8 cJx35411_checkForComodification_da8c8 1 none, Cond.methodLink RX4 101 yX4_ahead, Cond.methodLink RX4 117 yX4_go, Cond.instanceMethod yX4_go, Cond.selects RX4 yX4_go yX4_go, Cond.code yX4_go cX4_go 5 none, Cond.methodLink RX4 62 Lib.Math.max.name, Cond.methodLink RX4 124 yX4_may, Cond.instanceMethod yX4_may, Cond.selects RX4 yX4_may yX4_may, Cond.code yX4_may cX4_may 5 (some .int)]
def wsX5_closest_r9 : List Cond := [Cond.methodLink RX4 78 yX4_next, Cond.instanceMethod yX4_next, Cond.selects RX4 yX4_next yX4_next, Cond.code yX4_next cX4_next 4 (some .int), Cond.methodLink RX4 81 yX4_stops, Cond.instanceMethod yX4_stops, Cond.selects RX4 yX4_stops yX4_stops, Cond.code yX4_stops cX4_stops 4 (some .int), Cond.methodLink RX4 68 yX4_hold, Cond.instanceMethod yX4_hold, Cond.selects RX4 yX4_hold yX4_hold, Cond.code yX4_hold cX4_hold 2 (some .int), Cond.methodLink RX4 120 yX4_look, Cond.instanceMethod yX4_look, Cond.selects RX4 yX4_look yX4_look, Cond.code yX4_look cX4_look 5 none]
def wsX5_closest : List Cond := .code yX5_closest cX5_closest 3 (some .int) :: ((wsX5_closest_r1 ++ (wsX5_closest_r2 ++ (wsX5_closest_r3 ++ (wsX5_closest_r4 ++ (wsX5_closest_r5 ++ (wsX5_closest_r6 ++ (wsX5_closest_r7 ++ (wsX5_closest_r8 ++ wsX5_closest_r9)))))))) ++ wsX50 ++ wsX40 ++ wsJx4a65c0 ++ wsJx354110)
def wsX5_lost_r1 : List Cond := [Cond.fieldLink RX5 16 "BrakeCurveModel" "thrown" "I", Cond.fieldLink RX5 10 "BrakeCurveModel" "line" "LBrakeCurveModel$Line;", Cond.methodLink RX5 75 yX5_isTrain, Cond.instanceMethod yX5_isTrain, Cond.selects RX5 yX5_isTrain yX5_isTrain, Cond.initialized RX5, Cond.code yX5_isTrain cX5_isTrain 2 (some .boolean), Cond.methodLink RX5 26 yX5_is, Cond.static yX5_is, Cond.code yX5_is cX5_is 3 (some .boolean), Cond.methodLink RX5 36 yX5_isSection, Cond.static yX5_isSection, Cond.code yX5_isSection cX5_isSection 1 (some .boolean), Cond.methodLink RX5 40 yX5_refuse, Cond.instanceMethod yX5_refuse, Cond.selects RX5 yX5_refuse yX5_refuse, Cond.code yX5_refuse cX5_refuse 2 (some .int), Cond.methodLink RX5 44 yX5_isLimit, Cond.static yX5_isLimit, Cond.code yX5_isLimit cX5_isLimit 1 (some .boolean), Cond.methodLink RX5 157 yX4_copy, Cond.instanceMethod yX4_copy, Cond.selects RX4 yX4_copy yX4_copy, Cond.initialized RX4]
def wsX5_lost_r2 : List Cond := [Cond.code yX4_copy cX4_copy 2 (some (.object "BrakeCurveModel$Line")), Cond.classLink RX4 12 RX4, Cond.instantiable RX4 7, Cond.fieldLink RX4 11 "BrakeCurveModel$Line" "sections" "[[I", Cond.fieldLink RX4 16 "BrakeCurveModel$Line" "stations" "[[I", Cond.fieldLink RX4 19 "BrakeCurveModel$Line" "trains" "[[I", Cond.fieldLink RX4 34 "BrakeCurveModel$Line" "manyStations" "I", Cond.fieldLink RX4 38 "BrakeCurveModel$Line" "manyTrains" "I", Cond.fieldLink RX4 25 "BrakeCurveModel$Line" "works" "Ljava/util/ArrayList;", Cond.fieldLink RX4 45 "BrakeCurveModel$Line" "now" "I", Cond.methodLink RX4 29 yX4_init, Cond.instanceMethod yX4_init, Cond.code yX4_init cX4_init 5 none, Cond.methodLink RX4 3 objectInit, Cond.instanceMethod objectInit, Cond.code objectInit ⟨#[0xb1]⟩ 1 none, Cond.classLink RX4 9 "[[I", Cond.arrayClass .int, Cond.classLink RX4 22 RJx4a65c, Cond.instantiable RJx4a65c 3, Cond.initialized RJx4a65c, Cond.methodLink RX4 24 yJx4a65c_init_da8c8, Cond.instanceMethod yJx4a65c_init_da8c8, Cond.code yJx4a65c_init_da8c8 cJx4a65c_init_da8c8 1 none]
def wsX5_lost_r3 : List Cond := [Cond.fieldLink RJx4a65c 39 "java/util/ArrayList" "DEFAULTCAPACITY_EMPTY_ELEMENTDATA" "[Ljava/lang/Object;", Cond.fieldLink RJx4a65c 9 "java/util/ArrayList" "elementData" "[Ljava/lang/Object;", Cond.methodLink RJx4a65c 1 yJxc12de_init_da8c8, Cond.instanceMethod yJxc12de_init_da8c8, Cond.initialized RJxc12de, Cond.code yJxc12de_init_da8c8 cJxc12de_init_da8c8 1 none, Cond.fieldLink RJxc12de 7 "java/util/AbstractList" "modCount" "I", Cond.methodLink RJxc12de 1 yJxa1e45_init_da8c8, Cond.instanceMethod yJxa1e45_init_da8c8, Cond.initialized RJxa1e45, Cond.code yJxa1e45_init_da8c8 cJxa1e45_init_da8c8 1 none, Cond.methodLink RJxa1e45 1 objectInit, Cond.methodLink RX4 30 yX4_copy_, Cond.static yX4_copy_, Cond.code yX4_copy_ cX4_copy_ 3 none, Cond.methodLink RX4 48 arraycopyName, Cond.native arraycopyName, Cond.static arraycopyName, Cond.initialized "java/lang/System", Cond.methodLink RX4 41 yJx4a65c_addAll_f0b43, Cond.instanceMethod yJx4a65c_addAll_f0b43, Cond.selects RJx4a65c yJx4a65c_addAll_f0b43 yJx4a65c_addAll_f0b43, Cond.code yJx4a65c_addAll_f0b43 cJx4a65c_addAll_f0b43 6 (some .boolean), Cond.fieldLink RJx4a65c 63 "java/util/ArrayList" "modCount" "I"]
def wsX5_lost_r4 : List Cond := [Cond.sameField "java/util/ArrayList" "java/util/AbstractList" "modCount" "I", Cond.fieldLink RJx4a65c 48 "java/util/ArrayList" "size" "I", Cond.methodLink RJx4a65c 112 arraycopyName, Cond.methodLink RJx4a65c 42 ⟨"java/util/Collection", "toArray", "()[Ljava/lang/Object;"⟩, Cond.selects RJx4a65c ⟨"java/util/Collection", "toArray", "()[Ljava/lang/Object;"⟩ yJx4a65c_toArray_d5877, Cond.instanceMethod yJx4a65c_toArray_d5877, Cond.code yJx4a65c_toArray_d5877 cJx4a65c_toArray_d5877 1 (some (.array (.object "java/lang/Object"))), Cond.methodLink RJx4a65c 66 yJ7_copyOf_1904c, Cond.static yJ7_copyOf_1904c, Cond.initialized RJ7, Cond.code yJ7_copyOf_1904c cJ7_copyOf_1904c 2 (some (.array (.object "java/lang/Object"))), Cond.methodLink RJ7 86 ⟨"java/lang/Object", "getClass", "()Ljava/lang/Class;"⟩, Cond.selects "[Ljava/lang/Object;" ⟨"java/lang/Object", "getClass", "()Ljava/lang/Class;"⟩ ⟨"java/lang/Object", "getClass", "()Ljava/lang/Class;"⟩, Cond.instanceMethod ⟨"java/lang/Object", "getClass", "()Ljava/lang/Class;"⟩, Cond.native ⟨"java/lang/Object", "getClass", "()Ljava/lang/Class;"⟩, Cond.methodLink RJ7 300 yJ7_copyOf_6403c, Cond.static yJ7_copyOf_6403c, Cond.code yJ7_copyOf_6403c cJ7_copyOf_6403c 4 (some (.array (.object "java/lang/Object"))), Cond.classLink RJ7 110 "[Ljava/lang/Object;", Cond.classLink RJ7 2 "java/lang/Object", Cond.methodLink RJ7 304 Lib.Math.min.name, Cond.static Lib.Math.min.name, Cond.initialized "java/lang/Math", Cond.code Lib.Math.min.name Lib.Math.min.code 2 (some .int)]
def wsX5_lost_r5 : List Cond := [Cond.methodLink RJ7 150 arraycopyName, Cond.methodLink RJx4a65c 69 yJx4a65c_grow_92f84, Cond.instanceMethod yJx4a65c_grow_92f84, Cond.selects RJx4a65c yJx4a65c_grow_92f84 yJx4a65c_grow_92f84, Cond.code yJx4a65c_grow_92f84 cJx4a65c_grow_92f84 4 (some (.array (.object "java/lang/Object"))), Cond.methodLink RJx4a65c 79 Lib.Math.max.name, Cond.static Lib.Math.max.name, Cond.code Lib.Math.max.name Lib.Math.max.code 2 (some .int), Cond.classLink RJx4a65c 7 "java/lang/Object", Cond.methodLink RJx4a65c 73 yJ8_newLength_cabcc, Cond.static yJ8_newLength_cabcc, Cond.initialized RJ8, Cond.code yJ8_newLength_cabcc cJ8_newLength_cabcc 4 (some .int), Cond.methodLink RJ8 194 Lib.Math.max.name, Cond.constant RJ8 200 (2147483639), Cond.methodLink RJ8 201 yJ8_hugeLength_7cf53, Cond.static yJ8_hugeLength_7cf53, Cond.code yJ8_hugeLength_7cf53 cJ8_hugeLength_7cf53 3 (some .int), Cond.methodLink RX5 102 yX4_pass_, Cond.instanceMethod yX4_pass_, Cond.selects RX4 yX4_pass_ yX4_pass_, Cond.code yX4_pass_ cX4_pass_ 3 none, Cond.methodLink RX4 127 yX4_pass, Cond.instanceMethod yX4_pass]
def wsX5_lost_r6 : List Cond := [Cond.selects RX4 yX4_pass yX4_pass, Cond.code yX4_pass cX4_pass 3 none, Cond.methodLink RX4 54 yX4_runs, Cond.instanceMethod yX4_runs, Cond.selects RX4 yX4_runs yX4_runs, Cond.code yX4_runs cX4_runs 2 (some .boolean), Cond.methodLink RX4 107 yX4_hears, Cond.instanceMethod yX4_hears, Cond.selects RX4 yX4_hears yX4_hears, Cond.code yX4_hears cX4_hears 2 (some .boolean), Cond.static yX5_sectionOf, Cond.code yX5_sectionOf cX5_sectionOf 1 (some .int), Cond.methodLink RX5 20 Lib.Math.min.name, Cond.methodLink RX4 110 yX4_report, Cond.instanceMethod yX4_report, Cond.selects RX4 yX4_report yX4_report, Cond.code yX4_report cX4_report 2 none, Cond.static yX5_rear, Cond.code yX5_rear cX5_rear 1 (some .int), Cond.methodLink RX4 114 yX4_why, Cond.instanceMethod yX4_why, Cond.selects RX4 yX4_why yX4_why, Cond.code yX4_why cX4_why 4 (some .int), Cond.methodLink RX4 104 yX4_candidate]
def wsX5_lost_r7 : List Cond := [Cond.instanceMethod yX4_candidate, Cond.selects RX4 yX4_candidate yX4_candidate, Cond.code yX4_candidate cX4_candidate 7 (some .int), Cond.constant RX4 85 (1000000), Cond.classLink RX4 99 "[I", Cond.methodLink RX4 75 Lib.Math.min.name, Cond.methodLink RX4 86 yJx4a65c_iterator_32c93, Cond.instanceMethod yJx4a65c_iterator_32c93, Cond.selects RJx4a65c yJx4a65c_iterator_32c93 yJx4a65c_iterator_32c93, Cond.code yJx4a65c_iterator_32c93 cJx4a65c_iterator_32c93 1 (some (.object "java/util/Iterator")), Cond.classLink RJx4a65c 267 RJx35411, Cond.instantiable RJx35411 4, Cond.initialized RJx35411, Cond.methodLink RJx4a65c 269 yJx35411_init_45d68, Cond.instanceMethod yJx35411_init_45d68, Cond.code yJx35411_init_45d68 cJx35411_init_45d68 2 none, Cond.fieldLink RJx35411 1 "java/util/ArrayList$Itr" "this$0" "Ljava/util/ArrayList;", Cond.methodLink RJx35411 7 objectInit, Cond.fieldLink RJx35411 13 "java/util/ArrayList$Itr" "lastRet" "I", Cond.fieldLink RJx35411 17 "java/util/ArrayList" "modCount" "I", Cond.fieldLink RJx35411 22 "java/util/ArrayList$Itr" "expectedModCount" "I", Cond.methodLink RX4 90 ⟨"java/util/Iterator", "hasNext", "()Z"⟩, Cond.selects RJx35411 ⟨"java/util/Iterator", "hasNext", "()Z"⟩ yJx35411_hasNext_aae02, Cond.instanceMethod yJx35411_hasNext_aae02]
def wsX5_lost_r8 : List Cond := [Cond.code yJx35411_hasNext_aae02 cJx35411_hasNext_aae02 1 (some .boolean), Cond.fieldLink RJx35411 25 "java/util/ArrayList$Itr" "cursor" "I", Cond.methodLink RX4 96 ⟨"java/util/Iterator", "next", "()Ljava/lang/Object;"⟩, Cond.selects RJx35411 ⟨"java/util/Iterator", "next", "()Ljava/lang/Object;"⟩ yJx35411_next_0502b, Cond.instanceMethod yJx35411_next_0502b, Cond.code yJx35411_next_0502b cJx35411_next_0502b 3 (some (.object "java/lang/Object")), Cond.fieldLink RJx35411 37 "java/util/ArrayList" "elementData" "[Ljava/lang/Object;", Cond.methodLink RJx35411 31 yJx35411_checkForComodification_da8c8, Cond.instanceMethod yJx35411_checkForComodification_da8c8, Cond.selects RJx35411 yJx35411_checkForComodification_da8c8 yJx35411_checkForComodification_da8c8, Cond.code yJx35411_checkForComodification_da8c8 cJx35411_checkForComodification_da8c8 1 none, Cond.methodLink RX4 101 yX4_ahead, Cond.instanceMethod yX4_ahead, Cond.selects RX4 yX4_ahead yX4_ahead, Cond.code yX4_ahead cX4_ahead 2 (some .int), Cond.methodLink RX4 117 yX4_go, Cond.instanceMethod yX4_go, Cond.selects RX4 yX4_go yX4_go, Cond.code yX4_go cX4_go 5 none, Cond.methodLink RX4 62 Lib.Math.max.name, Cond.methodLink RX4 124 yX4_may, Cond.instanceMethod yX4_may, Cond.selects RX4 yX4_may yX4_may, Cond.code yX4_may cX4_may 5 (some .int)]
def wsX5_lost_r9 : List Cond := [Cond.methodLink RX4 78 yX4_next, Cond.instanceMethod yX4_next, Cond.selects RX4 yX4_next yX4_next, Cond.code yX4_next cX4_next 4 (some .int), Cond.methodLink RX4 81 yX4_stops, Cond.instanceMethod yX4_stops, Cond.selects RX4 yX4_stops yX4_stops, Cond.code yX4_stops cX4_stops 4 (some .int), Cond.methodLink RX4 68 yX4_hold, Cond.instanceMethod yX4_hold, Cond.selects RX4 yX4_hold yX4_hold, Cond.code yX4_hold cX4_hold 2 (some .int), Cond.methodLink RX4 120 yX4_look, Cond.instanceMethod yX4_look, Cond.selects RX4 yX4_look yX4_look, Cond.code yX4_look cX4_look 5 none]
def wsX5_lost : List Cond := .code yX5_lost cX5_lost 7 (some .int) :: ((wsX5_lost_r1 ++ (wsX5_lost_r2 ++ (wsX5_lost_r3 ++ (wsX5_lost_r4 ++ (wsX5_lost_r5 ++ (wsX5_lost_r6 ++ (wsX5_lost_r7 ++ (wsX5_lost_r8 ++ wsX5_lost_r9)))))))) ++ wsX50 ++ wsX40 ++ wsJx4a65c0 ++ wsJx354110)
def wsX5_worksNow_r1 : List Cond := [Cond.fieldLink RX5 10 "BrakeCurveModel" "line" "LBrakeCurveModel$Line;", Cond.methodLink RX5 157 yX4_copy, Cond.instanceMethod yX4_copy, Cond.selects RX4 yX4_copy yX4_copy, Cond.initialized RX4, Cond.code yX4_copy cX4_copy 2 (some (.object "BrakeCurveModel$Line")), Cond.classLink RX4 12 RX4, Cond.instantiable RX4 7, Cond.fieldLink RX4 11 "BrakeCurveModel$Line" "sections" "[[I", Cond.fieldLink RX4 16 "BrakeCurveModel$Line" "stations" "[[I", Cond.fieldLink RX4 19 "BrakeCurveModel$Line" "trains" "[[I", Cond.fieldLink RX4 34 "BrakeCurveModel$Line" "manyStations" "I", Cond.fieldLink RX4 38 "BrakeCurveModel$Line" "manyTrains" "I", Cond.fieldLink RX4 25 "BrakeCurveModel$Line" "works" "Ljava/util/ArrayList;", Cond.fieldLink RX4 45 "BrakeCurveModel$Line" "now" "I", Cond.methodLink RX4 29 yX4_init, Cond.instanceMethod yX4_init, Cond.code yX4_init cX4_init 5 none, Cond.methodLink RX4 3 objectInit, Cond.instanceMethod objectInit, Cond.code objectInit ⟨#[0xb1]⟩ 1 none, Cond.classLink RX4 9 "[[I", Cond.arrayClass .int, Cond.classLink RX4 22 RJx4a65c]
def wsX5_worksNow_r2 : List Cond := [Cond.instantiable RJx4a65c 3, Cond.initialized RJx4a65c, Cond.methodLink RX4 24 yJx4a65c_init_da8c8, Cond.instanceMethod yJx4a65c_init_da8c8, Cond.code yJx4a65c_init_da8c8 cJx4a65c_init_da8c8 1 none, Cond.fieldLink RJx4a65c 39 "java/util/ArrayList" "DEFAULTCAPACITY_EMPTY_ELEMENTDATA" "[Ljava/lang/Object;", Cond.fieldLink RJx4a65c 9 "java/util/ArrayList" "elementData" "[Ljava/lang/Object;", Cond.methodLink RJx4a65c 1 yJxc12de_init_da8c8, Cond.instanceMethod yJxc12de_init_da8c8, Cond.initialized RJxc12de, Cond.code yJxc12de_init_da8c8 cJxc12de_init_da8c8 1 none, Cond.fieldLink RJxc12de 7 "java/util/AbstractList" "modCount" "I", Cond.methodLink RJxc12de 1 yJxa1e45_init_da8c8, Cond.instanceMethod yJxa1e45_init_da8c8, Cond.initialized RJxa1e45, Cond.code yJxa1e45_init_da8c8 cJxa1e45_init_da8c8 1 none, Cond.methodLink RJxa1e45 1 objectInit, Cond.methodLink RX4 30 yX4_copy_, Cond.static yX4_copy_, Cond.code yX4_copy_ cX4_copy_ 3 none, Cond.methodLink RX4 48 arraycopyName, Cond.native arraycopyName, Cond.static arraycopyName, Cond.initialized "java/lang/System"]
def wsX5_worksNow_r3 : List Cond := [Cond.methodLink RX4 41 yJx4a65c_addAll_f0b43, Cond.instanceMethod yJx4a65c_addAll_f0b43, Cond.selects RJx4a65c yJx4a65c_addAll_f0b43 yJx4a65c_addAll_f0b43, Cond.code yJx4a65c_addAll_f0b43 cJx4a65c_addAll_f0b43 6 (some .boolean), Cond.fieldLink RJx4a65c 63 "java/util/ArrayList" "modCount" "I", Cond.sameField "java/util/ArrayList" "java/util/AbstractList" "modCount" "I", Cond.fieldLink RJx4a65c 48 "java/util/ArrayList" "size" "I", Cond.methodLink RJx4a65c 112 arraycopyName, Cond.methodLink RJx4a65c 42 ⟨"java/util/Collection", "toArray", "()[Ljava/lang/Object;"⟩, Cond.selects RJx4a65c ⟨"java/util/Collection", "toArray", "()[Ljava/lang/Object;"⟩ yJx4a65c_toArray_d5877, Cond.instanceMethod yJx4a65c_toArray_d5877, Cond.code yJx4a65c_toArray_d5877 cJx4a65c_toArray_d5877 1 (some (.array (.object "java/lang/Object"))), Cond.methodLink RJx4a65c 66 yJ7_copyOf_1904c, Cond.static yJ7_copyOf_1904c, Cond.initialized RJ7, Cond.code yJ7_copyOf_1904c cJ7_copyOf_1904c 2 (some (.array (.object "java/lang/Object"))), Cond.methodLink RJ7 86 ⟨"java/lang/Object", "getClass", "()Ljava/lang/Class;"⟩, Cond.selects "[Ljava/lang/Object;" ⟨"java/lang/Object", "getClass", "()Ljava/lang/Class;"⟩ ⟨"java/lang/Object", "getClass", "()Ljava/lang/Class;"⟩, Cond.instanceMethod ⟨"java/lang/Object", "getClass", "()Ljava/lang/Class;"⟩, Cond.native ⟨"java/lang/Object", "getClass", "()Ljava/lang/Class;"⟩, Cond.methodLink RJ7 300 yJ7_copyOf_6403c, Cond.static yJ7_copyOf_6403c, Cond.code yJ7_copyOf_6403c cJ7_copyOf_6403c 4 (some (.array (.object "java/lang/Object"))), Cond.classLink RJ7 110 "[Ljava/lang/Object;"]
def wsX5_worksNow_r4 : List Cond := [Cond.classLink RJ7 2 "java/lang/Object", Cond.methodLink RJ7 304 Lib.Math.min.name, Cond.static Lib.Math.min.name, Cond.initialized "java/lang/Math", Cond.code Lib.Math.min.name Lib.Math.min.code 2 (some .int), Cond.methodLink RJ7 150 arraycopyName, Cond.methodLink RJx4a65c 69 yJx4a65c_grow_92f84, Cond.instanceMethod yJx4a65c_grow_92f84, Cond.selects RJx4a65c yJx4a65c_grow_92f84 yJx4a65c_grow_92f84, Cond.code yJx4a65c_grow_92f84 cJx4a65c_grow_92f84 4 (some (.array (.object "java/lang/Object"))), Cond.methodLink RJx4a65c 79 Lib.Math.max.name, Cond.static Lib.Math.max.name, Cond.code Lib.Math.max.name Lib.Math.max.code 2 (some .int), Cond.classLink RJx4a65c 7 "java/lang/Object", Cond.methodLink RJx4a65c 73 yJ8_newLength_cabcc, Cond.static yJ8_newLength_cabcc, Cond.initialized RJ8, Cond.code yJ8_newLength_cabcc cJ8_newLength_cabcc 4 (some .int), Cond.methodLink RJ8 194 Lib.Math.max.name, Cond.constant RJ8 200 (2147483639), Cond.methodLink RJ8 201 yJ8_hugeLength_7cf53, Cond.static yJ8_hugeLength_7cf53, Cond.code yJ8_hugeLength_7cf53 cJ8_hugeLength_7cf53 3 (some .int), Cond.methodLink RX5 88 yX4_hinders]
def wsX5_worksNow_r5 : List Cond := [Cond.instanceMethod yX4_hinders, Cond.selects RX4 yX4_hinders yX4_hinders, Cond.code yX4_hinders cX4_hinders 5 (some .int), Cond.methodLink RX4 130 yX4_isIn, Cond.instanceMethod yX4_isIn, Cond.selects RX4 yX4_isIn yX4_isIn, Cond.code yX4_isIn cX4_isIn 4 (some .boolean), Cond.methodLink RX4 54 yX4_runs, Cond.instanceMethod yX4_runs, Cond.selects RX4 yX4_runs yX4_runs, Cond.code yX4_runs cX4_runs 2 (some .boolean), Cond.static yX5_rear, Cond.initialized RX5, Cond.code yX5_rear cX5_rear 1 (some .int), Cond.static yX5_sectionOf, Cond.code yX5_sectionOf cX5_sectionOf 1 (some .int), Cond.methodLink RX5 20 Lib.Math.min.name, Cond.methodLink RX5 161 yX4_pass, Cond.instanceMethod yX4_pass, Cond.selects RX4 yX4_pass yX4_pass, Cond.code yX4_pass cX4_pass 3 none, Cond.methodLink RX4 107 yX4_hears, Cond.instanceMethod yX4_hears, Cond.selects RX4 yX4_hears yX4_hears]
def wsX5_worksNow_r6 : List Cond := [Cond.code yX4_hears cX4_hears 2 (some .boolean), Cond.methodLink RX4 110 yX4_report, Cond.instanceMethod yX4_report, Cond.selects RX4 yX4_report yX4_report, Cond.code yX4_report cX4_report 2 none, Cond.methodLink RX4 114 yX4_why, Cond.instanceMethod yX4_why, Cond.selects RX4 yX4_why yX4_why, Cond.code yX4_why cX4_why 4 (some .int), Cond.methodLink RX4 104 yX4_candidate, Cond.instanceMethod yX4_candidate, Cond.selects RX4 yX4_candidate yX4_candidate, Cond.code yX4_candidate cX4_candidate 7 (some .int), Cond.constant RX4 85 (1000000), Cond.classLink RX4 99 "[I", Cond.methodLink RX4 75 Lib.Math.min.name, Cond.methodLink RX4 86 yJx4a65c_iterator_32c93, Cond.instanceMethod yJx4a65c_iterator_32c93, Cond.selects RJx4a65c yJx4a65c_iterator_32c93 yJx4a65c_iterator_32c93, Cond.code yJx4a65c_iterator_32c93 cJx4a65c_iterator_32c93 1 (some (.object "java/util/Iterator")), Cond.classLink RJx4a65c 267 RJx35411, Cond.instantiable RJx35411 4, Cond.initialized RJx35411, Cond.methodLink RJx4a65c 269 yJx35411_init_45d68]
def wsX5_worksNow_r7 : List Cond := [Cond.instanceMethod yJx35411_init_45d68, Cond.code yJx35411_init_45d68 cJx35411_init_45d68 2 none, Cond.fieldLink RJx35411 1 "java/util/ArrayList$Itr" "this$0" "Ljava/util/ArrayList;", Cond.methodLink RJx35411 7 objectInit, Cond.fieldLink RJx35411 13 "java/util/ArrayList$Itr" "lastRet" "I", Cond.fieldLink RJx35411 17 "java/util/ArrayList" "modCount" "I", Cond.fieldLink RJx35411 22 "java/util/ArrayList$Itr" "expectedModCount" "I", Cond.methodLink RX4 90 ⟨"java/util/Iterator", "hasNext", "()Z"⟩, Cond.selects RJx35411 ⟨"java/util/Iterator", "hasNext", "()Z"⟩ yJx35411_hasNext_aae02, Cond.instanceMethod yJx35411_hasNext_aae02, Cond.code yJx35411_hasNext_aae02 cJx35411_hasNext_aae02 1 (some .boolean), Cond.fieldLink RJx35411 25 "java/util/ArrayList$Itr" "cursor" "I", Cond.methodLink RX4 96 ⟨"java/util/Iterator", "next", "()Ljava/lang/Object;"⟩, Cond.selects RJx35411 ⟨"java/util/Iterator", "next", "()Ljava/lang/Object;"⟩ yJx35411_next_0502b, Cond.instanceMethod yJx35411_next_0502b, Cond.code yJx35411_next_0502b cJx35411_next_0502b 3 (some (.object "java/lang/Object")), Cond.fieldLink RJx35411 37 "java/util/ArrayList" "elementData" "[Ljava/lang/Object;", Cond.methodLink RJx35411 31 yJx35411_checkForComodification_da8c8, Cond.instanceMethod yJx35411_checkForComodification_da8c8, Cond.selects RJx35411 yJx35411_checkForComodification_da8c8 yJx35411_checkForComodification_da8c8, Cond.code yJx35411_checkForComodification_da8c8 cJx35411_checkForComodification_da8c8 1 none, Cond.methodLink RX4 101 yX4_ahead, Cond.instanceMethod yX4_ahead, Cond.selects RX4 yX4_ahead yX4_ahead]
def wsX5_worksNow_r8 : List Cond := [Cond.code yX4_ahead cX4_ahead 2 (some .int), Cond.methodLink RX4 117 yX4_go, Cond.instanceMethod yX4_go, Cond.selects RX4 yX4_go yX4_go, Cond.code yX4_go cX4_go 5 none, Cond.methodLink RX4 62 Lib.Math.max.name, Cond.methodLink RX4 124 yX4_may, Cond.instanceMethod yX4_may, Cond.selects RX4 yX4_may yX4_may, Cond.code yX4_may cX4_may 5 (some .int), Cond.methodLink RX4 78 yX4_next, Cond.instanceMethod yX4_next, Cond.selects RX4 yX4_next yX4_next, Cond.code yX4_next cX4_next 4 (some .int), Cond.methodLink RX4 81 yX4_stops, Cond.instanceMethod yX4_stops, Cond.selects RX4 yX4_stops yX4_stops, Cond.code yX4_stops cX4_stops 4 (some .int), Cond.methodLink RX4 68 yX4_hold, Cond.instanceMethod yX4_hold, Cond.selects RX4 yX4_hold yX4_hold, Cond.code yX4_hold cX4_hold 2 (some .int), Cond.methodLink RX4 120 yX4_look, Cond.instanceMethod yX4_look]
def wsX5_worksNow_r9 : List Cond := [Cond.selects RX4 yX4_look yX4_look, Cond.code yX4_look cX4_look 5 none]
def wsX5_worksNow : List Cond := .code yX5_worksNow cX5_worksNow 6 (some .int) :: ((wsX5_worksNow_r1 ++ (wsX5_worksNow_r2 ++ (wsX5_worksNow_r3 ++ (wsX5_worksNow_r4 ++ (wsX5_worksNow_r5 ++ (wsX5_worksNow_r6 ++ (wsX5_worksNow_r7 ++ (wsX5_worksNow_r8 ++ wsX5_worksNow_r9)))))))) ++ wsX50 ++ wsX40 ++ wsJx4a65c0 ++ wsJx354110)
def wsX5_worksIn_r1 : List Cond := [Cond.fieldLink RX5 16 "BrakeCurveModel" "thrown" "I", Cond.methodLink RX5 36 yX5_isSection, Cond.static yX5_isSection, Cond.initialized RX5, Cond.code yX5_isSection cX5_isSection 1 (some .boolean), Cond.methodLink RX5 26 yX5_is, Cond.static yX5_is, Cond.code yX5_is cX5_is 3 (some .boolean), Cond.methodLink RX5 40 yX5_refuse, Cond.instanceMethod yX5_refuse, Cond.selects RX5 yX5_refuse yX5_refuse, Cond.code yX5_refuse cX5_refuse 2 (some .int), Cond.methodLink RX5 170 yX5_worksNow, Cond.instanceMethod yX5_worksNow, Cond.selects RX5 yX5_worksNow yX5_worksNow, Cond.code yX5_worksNow cX5_worksNow 6 (some .int), Cond.fieldLink RX5 10 "BrakeCurveModel" "line" "LBrakeCurveModel$Line;", Cond.methodLink RX5 157 yX4_copy, Cond.instanceMethod yX4_copy, Cond.selects RX4 yX4_copy yX4_copy, Cond.initialized RX4, Cond.code yX4_copy cX4_copy 2 (some (.object "BrakeCurveModel$Line")), Cond.classLink RX4 12 RX4, Cond.instantiable RX4 7]
def wsX5_worksIn_r2 : List Cond := [Cond.fieldLink RX4 11 "BrakeCurveModel$Line" "sections" "[[I", Cond.fieldLink RX4 16 "BrakeCurveModel$Line" "stations" "[[I", Cond.fieldLink RX4 19 "BrakeCurveModel$Line" "trains" "[[I", Cond.fieldLink RX4 34 "BrakeCurveModel$Line" "manyStations" "I", Cond.fieldLink RX4 38 "BrakeCurveModel$Line" "manyTrains" "I", Cond.fieldLink RX4 25 "BrakeCurveModel$Line" "works" "Ljava/util/ArrayList;", Cond.fieldLink RX4 45 "BrakeCurveModel$Line" "now" "I", Cond.methodLink RX4 29 yX4_init, Cond.instanceMethod yX4_init, Cond.code yX4_init cX4_init 5 none, Cond.methodLink RX4 3 objectInit, Cond.instanceMethod objectInit, Cond.code objectInit ⟨#[0xb1]⟩ 1 none, Cond.classLink RX4 9 "[[I", Cond.arrayClass .int, Cond.classLink RX4 22 RJx4a65c, Cond.instantiable RJx4a65c 3, Cond.initialized RJx4a65c, Cond.methodLink RX4 24 yJx4a65c_init_da8c8, Cond.instanceMethod yJx4a65c_init_da8c8, Cond.code yJx4a65c_init_da8c8 cJx4a65c_init_da8c8 1 none, Cond.fieldLink RJx4a65c 39 "java/util/ArrayList" "DEFAULTCAPACITY_EMPTY_ELEMENTDATA" "[Ljava/lang/Object;", Cond.fieldLink RJx4a65c 9 "java/util/ArrayList" "elementData" "[Ljava/lang/Object;", Cond.methodLink RJx4a65c 1 yJxc12de_init_da8c8]
def wsX5_worksIn_r3 : List Cond := [Cond.instanceMethod yJxc12de_init_da8c8, Cond.initialized RJxc12de, Cond.code yJxc12de_init_da8c8 cJxc12de_init_da8c8 1 none, Cond.fieldLink RJxc12de 7 "java/util/AbstractList" "modCount" "I", Cond.methodLink RJxc12de 1 yJxa1e45_init_da8c8, Cond.instanceMethod yJxa1e45_init_da8c8, Cond.initialized RJxa1e45, Cond.code yJxa1e45_init_da8c8 cJxa1e45_init_da8c8 1 none, Cond.methodLink RJxa1e45 1 objectInit, Cond.methodLink RX4 30 yX4_copy_, Cond.static yX4_copy_, Cond.code yX4_copy_ cX4_copy_ 3 none, Cond.methodLink RX4 48 arraycopyName, Cond.native arraycopyName, Cond.static arraycopyName, Cond.initialized "java/lang/System", Cond.methodLink RX4 41 yJx4a65c_addAll_f0b43, Cond.instanceMethod yJx4a65c_addAll_f0b43, Cond.selects RJx4a65c yJx4a65c_addAll_f0b43 yJx4a65c_addAll_f0b43, Cond.code yJx4a65c_addAll_f0b43 cJx4a65c_addAll_f0b43 6 (some .boolean), Cond.fieldLink RJx4a65c 63 "java/util/ArrayList" "modCount" "I", Cond.sameField "java/util/ArrayList" "java/util/AbstractList" "modCount" "I", Cond.fieldLink RJx4a65c 48 "java/util/ArrayList" "size" "I", Cond.methodLink RJx4a65c 112 arraycopyName]
def wsX5_worksIn_r4 : List Cond := [Cond.methodLink RJx4a65c 42 ⟨"java/util/Collection", "toArray", "()[Ljava/lang/Object;"⟩, Cond.selects RJx4a65c ⟨"java/util/Collection", "toArray", "()[Ljava/lang/Object;"⟩ yJx4a65c_toArray_d5877, Cond.instanceMethod yJx4a65c_toArray_d5877, Cond.code yJx4a65c_toArray_d5877 cJx4a65c_toArray_d5877 1 (some (.array (.object "java/lang/Object"))), Cond.methodLink RJx4a65c 66 yJ7_copyOf_1904c, Cond.static yJ7_copyOf_1904c, Cond.initialized RJ7, Cond.code yJ7_copyOf_1904c cJ7_copyOf_1904c 2 (some (.array (.object "java/lang/Object"))), Cond.methodLink RJ7 86 ⟨"java/lang/Object", "getClass", "()Ljava/lang/Class;"⟩, Cond.selects "[Ljava/lang/Object;" ⟨"java/lang/Object", "getClass", "()Ljava/lang/Class;"⟩ ⟨"java/lang/Object", "getClass", "()Ljava/lang/Class;"⟩, Cond.instanceMethod ⟨"java/lang/Object", "getClass", "()Ljava/lang/Class;"⟩, Cond.native ⟨"java/lang/Object", "getClass", "()Ljava/lang/Class;"⟩, Cond.methodLink RJ7 300 yJ7_copyOf_6403c, Cond.static yJ7_copyOf_6403c, Cond.code yJ7_copyOf_6403c cJ7_copyOf_6403c 4 (some (.array (.object "java/lang/Object"))), Cond.classLink RJ7 110 "[Ljava/lang/Object;", Cond.classLink RJ7 2 "java/lang/Object", Cond.methodLink RJ7 304 Lib.Math.min.name, Cond.static Lib.Math.min.name, Cond.initialized "java/lang/Math", Cond.code Lib.Math.min.name Lib.Math.min.code 2 (some .int), Cond.methodLink RJ7 150 arraycopyName, Cond.methodLink RJx4a65c 69 yJx4a65c_grow_92f84, Cond.instanceMethod yJx4a65c_grow_92f84]
def wsX5_worksIn_r5 : List Cond := [Cond.selects RJx4a65c yJx4a65c_grow_92f84 yJx4a65c_grow_92f84, Cond.code yJx4a65c_grow_92f84 cJx4a65c_grow_92f84 4 (some (.array (.object "java/lang/Object"))), Cond.methodLink RJx4a65c 79 Lib.Math.max.name, Cond.static Lib.Math.max.name, Cond.code Lib.Math.max.name Lib.Math.max.code 2 (some .int), Cond.classLink RJx4a65c 7 "java/lang/Object", Cond.methodLink RJx4a65c 73 yJ8_newLength_cabcc, Cond.static yJ8_newLength_cabcc, Cond.initialized RJ8, Cond.code yJ8_newLength_cabcc cJ8_newLength_cabcc 4 (some .int), Cond.methodLink RJ8 194 Lib.Math.max.name, Cond.constant RJ8 200 (2147483639), Cond.methodLink RJ8 201 yJ8_hugeLength_7cf53, Cond.static yJ8_hugeLength_7cf53, Cond.code yJ8_hugeLength_7cf53 cJ8_hugeLength_7cf53 3 (some .int), Cond.methodLink RX5 88 yX4_hinders, Cond.instanceMethod yX4_hinders, Cond.selects RX4 yX4_hinders yX4_hinders, Cond.code yX4_hinders cX4_hinders 5 (some .int), Cond.methodLink RX4 130 yX4_isIn, Cond.instanceMethod yX4_isIn, Cond.selects RX4 yX4_isIn yX4_isIn, Cond.code yX4_isIn cX4_isIn 4 (some .boolean), Cond.methodLink RX4 54 yX4_runs]
def wsX5_worksIn_r6 : List Cond := [Cond.instanceMethod yX4_runs, Cond.selects RX4 yX4_runs yX4_runs, Cond.code yX4_runs cX4_runs 2 (some .boolean), Cond.static yX5_rear, Cond.code yX5_rear cX5_rear 1 (some .int), Cond.static yX5_sectionOf, Cond.code yX5_sectionOf cX5_sectionOf 1 (some .int), Cond.methodLink RX5 20 Lib.Math.min.name, Cond.methodLink RX5 161 yX4_pass, Cond.instanceMethod yX4_pass, Cond.selects RX4 yX4_pass yX4_pass, Cond.code yX4_pass cX4_pass 3 none, Cond.methodLink RX4 107 yX4_hears, Cond.instanceMethod yX4_hears, Cond.selects RX4 yX4_hears yX4_hears, Cond.code yX4_hears cX4_hears 2 (some .boolean), Cond.methodLink RX4 110 yX4_report, Cond.instanceMethod yX4_report, Cond.selects RX4 yX4_report yX4_report, Cond.code yX4_report cX4_report 2 none, Cond.methodLink RX4 114 yX4_why, Cond.instanceMethod yX4_why, Cond.selects RX4 yX4_why yX4_why, Cond.code yX4_why cX4_why 4 (some .int)]
def wsX5_worksIn_r7 : List Cond := [Cond.methodLink RX4 104 yX4_candidate, Cond.instanceMethod yX4_candidate, Cond.selects RX4 yX4_candidate yX4_candidate, Cond.code yX4_candidate cX4_candidate 7 (some .int), Cond.constant RX4 85 (1000000), Cond.classLink RX4 99 "[I", Cond.methodLink RX4 75 Lib.Math.min.name, Cond.methodLink RX4 86 yJx4a65c_iterator_32c93, Cond.instanceMethod yJx4a65c_iterator_32c93, Cond.selects RJx4a65c yJx4a65c_iterator_32c93 yJx4a65c_iterator_32c93, Cond.code yJx4a65c_iterator_32c93 cJx4a65c_iterator_32c93 1 (some (.object "java/util/Iterator")), Cond.classLink RJx4a65c 267 RJx35411, Cond.instantiable RJx35411 4, Cond.initialized RJx35411, Cond.methodLink RJx4a65c 269 yJx35411_init_45d68, Cond.instanceMethod yJx35411_init_45d68, Cond.code yJx35411_init_45d68 cJx35411_init_45d68 2 none, Cond.fieldLink RJx35411 1 "java/util/ArrayList$Itr" "this$0" "Ljava/util/ArrayList;", Cond.methodLink RJx35411 7 objectInit, Cond.fieldLink RJx35411 13 "java/util/ArrayList$Itr" "lastRet" "I", Cond.fieldLink RJx35411 17 "java/util/ArrayList" "modCount" "I", Cond.fieldLink RJx35411 22 "java/util/ArrayList$Itr" "expectedModCount" "I", Cond.methodLink RX4 90 ⟨"java/util/Iterator", "hasNext", "()Z"⟩, Cond.selects RJx35411 ⟨"java/util/Iterator", "hasNext", "()Z"⟩ yJx35411_hasNext_aae02]
def wsX5_worksIn_r8 : List Cond := [Cond.instanceMethod yJx35411_hasNext_aae02, Cond.code yJx35411_hasNext_aae02 cJx35411_hasNext_aae02 1 (some .boolean), Cond.fieldLink RJx35411 25 "java/util/ArrayList$Itr" "cursor" "I", Cond.methodLink RX4 96 ⟨"java/util/Iterator", "next", "()Ljava/lang/Object;"⟩, Cond.selects RJx35411 ⟨"java/util/Iterator", "next", "()Ljava/lang/Object;"⟩ yJx35411_next_0502b, Cond.instanceMethod yJx35411_next_0502b, Cond.code yJx35411_next_0502b cJx35411_next_0502b 3 (some (.object "java/lang/Object")), Cond.fieldLink RJx35411 37 "java/util/ArrayList" "elementData" "[Ljava/lang/Object;", Cond.methodLink RJx35411 31 yJx35411_checkForComodification_da8c8, Cond.instanceMethod yJx35411_checkForComodification_da8c8, Cond.selects RJx35411 yJx35411_checkForComodification_da8c8 yJx35411_checkForComodification_da8c8, Cond.code yJx35411_checkForComodification_da8c8 cJx35411_checkForComodification_da8c8 1 none, Cond.methodLink RX4 101 yX4_ahead, Cond.instanceMethod yX4_ahead, Cond.selects RX4 yX4_ahead yX4_ahead, Cond.code yX4_ahead cX4_ahead 2 (some .int), Cond.methodLink RX4 117 yX4_go, Cond.instanceMethod yX4_go, Cond.selects RX4 yX4_go yX4_go, Cond.code yX4_go cX4_go 5 none, Cond.methodLink RX4 62 Lib.Math.max.name, Cond.methodLink RX4 124 yX4_may, Cond.instanceMethod yX4_may, Cond.selects RX4 yX4_may yX4_may]
def wsX5_worksIn_r9 : List Cond := [Cond.code yX4_may cX4_may 5 (some .int), Cond.methodLink RX4 78 yX4_next, Cond.instanceMethod yX4_next, Cond.selects RX4 yX4_next yX4_next, Cond.code yX4_next cX4_next 4 (some .int), Cond.methodLink RX4 81 yX4_stops, Cond.instanceMethod yX4_stops, Cond.selects RX4 yX4_stops yX4_stops, Cond.code yX4_stops cX4_stops 4 (some .int), Cond.methodLink RX4 68 yX4_hold, Cond.instanceMethod yX4_hold, Cond.selects RX4 yX4_hold yX4_hold, Cond.code yX4_hold cX4_hold 2 (some .int), Cond.methodLink RX4 120 yX4_look, Cond.instanceMethod yX4_look, Cond.selects RX4 yX4_look yX4_look, Cond.code yX4_look cX4_look 5 none]
def wsX5_worksIn : List Cond := .code yX5_worksIn cX5_worksIn 4 (some .int) :: ((wsX5_worksIn_r1 ++ (wsX5_worksIn_r2 ++ (wsX5_worksIn_r3 ++ (wsX5_worksIn_r4 ++ (wsX5_worksIn_r5 ++ (wsX5_worksIn_r6 ++ (wsX5_worksIn_r7 ++ (wsX5_worksIn_r8 ++ wsX5_worksIn_r9)))))))) ++ wsX50 ++ wsX40 ++ wsJx4a65c0 ++ wsJx354110)
def wsX5_add : List Cond := .code yX5_add cX5_add 2 none :: ([.fieldLink RX5 173 "BrakeCurveModel" "sum" "J", .constantLong RX5 176 (31)] ++ wsX50)
def wsX5_digest_r1 : List Cond := [Cond.fieldLink RX5 16 "BrakeCurveModel" "thrown" "I", Cond.constantLong RX5 178 (4810), Cond.fieldLink RX5 173 "BrakeCurveModel" "sum" "J", Cond.fieldLink RX5 10 "BrakeCurveModel" "line" "LBrakeCurveModel$Line;", Cond.methodLink RX5 154 yX5_manyNow, Cond.instanceMethod yX5_manyNow, Cond.selects RX5 yX5_manyNow yX5_manyNow, Cond.initialized RX5, Cond.code yX5_manyNow cX5_manyNow 3 (some .int), Cond.arrayClass .int, Cond.methodLink RX5 99 yX4_sum, Cond.instanceMethod yX4_sum, Cond.selects RX4 yX4_sum yX4_sum, Cond.initialized RX4, Cond.code yX4_sum cX4_sum 4 (some .int), Cond.fieldLink RX4 38 "BrakeCurveModel$Line" "manyTrains" "I", Cond.fieldLink RX4 19 "BrakeCurveModel$Line" "trains" "[[I", Cond.methodLink RX5 82 yJx4a65c_size_8abf5, Cond.instanceMethod yJx4a65c_size_8abf5, Cond.selects RJx4a65c yJx4a65c_size_8abf5 yJx4a65c_size_8abf5, Cond.initialized RJx4a65c, Cond.code yJx4a65c_size_8abf5 cJx4a65c_size_8abf5 1 (some .int), Cond.fieldLink RJx4a65c 48 "java/util/ArrayList" "size" "I", Cond.methodLink RX5 180 yX5_add]
def wsX5_digest_r2 : List Cond := [Cond.instanceMethod yX5_add, Cond.selects RX5 yX5_add yX5_add, Cond.code yX5_add cX5_add 2 none, Cond.constantLong RX5 176 (31), Cond.methodLink RX5 124 yX5_ofSectionNow, Cond.instanceMethod yX5_ofSectionNow, Cond.selects RX5 yX5_ofSectionNow yX5_ofSectionNow, Cond.code yX5_ofSectionNow cX5_ofSectionNow 7 (some .int), Cond.classLink RX5 122 "[I", Cond.methodLink RX5 106 yX4_isIn, Cond.instanceMethod yX4_isIn, Cond.selects RX4 yX4_isIn yX4_isIn, Cond.code yX4_isIn cX4_isIn 4 (some .boolean), Cond.methodLink RX4 54 yX4_runs, Cond.instanceMethod yX4_runs, Cond.selects RX4 yX4_runs yX4_runs, Cond.code yX4_runs cX4_runs 2 (some .boolean), Cond.static yX5_rear, Cond.code yX5_rear cX5_rear 1 (some .int), Cond.static yX5_sectionOf, Cond.code yX5_sectionOf cX5_sectionOf 1 (some .int), Cond.methodLink RX5 20 Lib.Math.min.name, Cond.static Lib.Math.min.name, Cond.initialized "java/lang/Math"]
def wsX5_digest_r3 : List Cond := [Cond.code Lib.Math.min.name Lib.Math.min.code 2 (some .int), Cond.methodLink RX5 109 yJx4a65c_iterator_32c93, Cond.instanceMethod yJx4a65c_iterator_32c93, Cond.selects RJx4a65c yJx4a65c_iterator_32c93 yJx4a65c_iterator_32c93, Cond.code yJx4a65c_iterator_32c93 cJx4a65c_iterator_32c93 1 (some (.object "java/util/Iterator")), Cond.classLink RJx4a65c 267 RJx35411, Cond.instantiable RJx35411 4, Cond.initialized RJx35411, Cond.methodLink RJx4a65c 269 yJx35411_init_45d68, Cond.instanceMethod yJx35411_init_45d68, Cond.code yJx35411_init_45d68 cJx35411_init_45d68 2 none, Cond.fieldLink RJx35411 1 "java/util/ArrayList$Itr" "this$0" "Ljava/util/ArrayList;", Cond.methodLink RJx35411 7 objectInit, Cond.instanceMethod objectInit, Cond.code objectInit ⟨#[0xb1]⟩ 1 none, Cond.fieldLink RJx35411 13 "java/util/ArrayList$Itr" "lastRet" "I", Cond.fieldLink RJx35411 17 "java/util/ArrayList" "modCount" "I", Cond.sameField "java/util/ArrayList" "java/util/AbstractList" "modCount" "I", Cond.fieldLink RJx35411 22 "java/util/ArrayList$Itr" "expectedModCount" "I", Cond.methodLink RX5 113 ⟨"java/util/Iterator", "hasNext", "()Z"⟩, Cond.selects RJx35411 ⟨"java/util/Iterator", "hasNext", "()Z"⟩ yJx35411_hasNext_aae02, Cond.instanceMethod yJx35411_hasNext_aae02, Cond.code yJx35411_hasNext_aae02 cJx35411_hasNext_aae02 1 (some .boolean), Cond.fieldLink RJx35411 25 "java/util/ArrayList$Itr" "cursor" "I"]
def wsX5_digest_r4 : List Cond := [Cond.methodLink RX5 118 ⟨"java/util/Iterator", "next", "()Ljava/lang/Object;"⟩, Cond.selects RJx35411 ⟨"java/util/Iterator", "next", "()Ljava/lang/Object;"⟩ yJx35411_next_0502b, Cond.instanceMethod yJx35411_next_0502b, Cond.code yJx35411_next_0502b cJx35411_next_0502b 3 (some (.object "java/lang/Object")), Cond.fieldLink RJx35411 37 "java/util/ArrayList" "elementData" "[Ljava/lang/Object;", Cond.methodLink RJx35411 31 yJx35411_checkForComodification_da8c8, Cond.instanceMethod yJx35411_checkForComodification_da8c8, Cond.selects RJx35411 yJx35411_checkForComodification_da8c8 yJx35411_checkForComodification_da8c8, Cond.code yJx35411_checkForComodification_da8c8 cJx35411_checkForComodification_da8c8 1 none, Cond.methodLink RX5 26 yX5_is, Cond.static yX5_is, Cond.code yX5_is cX5_is 3 (some .boolean), Cond.methodLink RX5 132 yX5_ofTrainNow, Cond.instanceMethod yX5_ofTrainNow, Cond.selects RX5 yX5_ofTrainNow yX5_ofTrainNow, Cond.code yX5_ofTrainNow cX5_ofTrainNow 6 (some .int), Cond.methodLink RX5 64 yX5_rear, Cond.methodLink RX5 127 yX4_next, Cond.instanceMethod yX4_next, Cond.selects RX4 yX4_next yX4_next, Cond.code yX4_next cX4_next 4 (some .int), Cond.fieldLink RX4 34 "BrakeCurveModel$Line" "manyStations" "I", Cond.fieldLink RX4 16 "BrakeCurveModel$Line" "stations" "[[I", Cond.methodLink RX5 129 yX4_ahead]
def wsX5_digest_r5 : List Cond := [Cond.instanceMethod yX4_ahead, Cond.selects RX4 yX4_ahead yX4_ahead, Cond.code yX4_ahead cX4_ahead 2 (some .int), Cond.methodLink RX5 135 yX4_stops, Cond.instanceMethod yX4_stops, Cond.selects RX4 yX4_stops yX4_stops, Cond.code yX4_stops cX4_stops 4 (some .int), Cond.methodLink RX4 62 Lib.Math.max.name, Cond.static Lib.Math.max.name, Cond.code Lib.Math.max.name Lib.Math.max.code 2 (some .int), Cond.methodLink RX4 68 yX4_hold, Cond.instanceMethod yX4_hold, Cond.selects RX4 yX4_hold yX4_hold, Cond.code yX4_hold cX4_hold 2 (some .int), Cond.fieldLink RX4 11 "BrakeCurveModel$Line" "sections" "[[I", Cond.methodLink RX5 142 yX5_mayNow, Cond.instanceMethod yX5_mayNow, Cond.selects RX5 yX5_mayNow yX5_mayNow, Cond.code yX5_mayNow cX5_mayNow 2 (some .int), Cond.methodLink RX5 51 yX4_runs, Cond.methodLink RX5 139 yX4_may, Cond.instanceMethod yX4_may, Cond.selects RX4 yX4_may yX4_may, Cond.code yX4_may cX4_may 5 (some .int)]
def wsX5_digest_r6 : List Cond := [Cond.methodLink RX4 75 Lib.Math.min.name, Cond.methodLink RX4 78 yX4_next, Cond.methodLink RX4 81 yX4_stops, Cond.methodLink RX5 148 yX5_whyNow, Cond.instanceMethod yX5_whyNow, Cond.selects RX5 yX5_whyNow yX5_whyNow, Cond.code yX5_whyNow cX5_whyNow 2 (some .int), Cond.methodLink RX5 145 yX4_why, Cond.instanceMethod yX4_why, Cond.selects RX4 yX4_why yX4_why, Cond.code yX4_why cX4_why 4 (some .int), Cond.methodLink RX4 104 yX4_candidate, Cond.instanceMethod yX4_candidate, Cond.selects RX4 yX4_candidate yX4_candidate, Cond.code yX4_candidate cX4_candidate 7 (some .int), Cond.constant RX4 85 (1000000), Cond.fieldLink RX4 25 "BrakeCurveModel$Line" "works" "Ljava/util/ArrayList;", Cond.classLink RX4 99 "[I", Cond.fieldLink RX4 45 "BrakeCurveModel$Line" "now" "I", Cond.methodLink RX4 86 yJx4a65c_iterator_32c93, Cond.methodLink RX4 90 ⟨"java/util/Iterator", "hasNext", "()Z"⟩, Cond.methodLink RX4 96 ⟨"java/util/Iterator", "next", "()Ljava/lang/Object;"⟩, Cond.methodLink RX4 101 yX4_ahead, Cond.methodLink RX5 163 yX5_reachesNow]
def wsX5_digest_r7 : List Cond := [Cond.instanceMethod yX5_reachesNow, Cond.selects RX5 yX5_reachesNow yX5_reachesNow, Cond.code yX5_reachesNow cX5_reachesNow 6 (some .int), Cond.methodLink RX5 157 yX4_copy, Cond.instanceMethod yX4_copy, Cond.selects RX4 yX4_copy yX4_copy, Cond.code yX4_copy cX4_copy 2 (some (.object "BrakeCurveModel$Line")), Cond.classLink RX4 12 RX4, Cond.instantiable RX4 7, Cond.methodLink RX4 29 yX4_init, Cond.instanceMethod yX4_init, Cond.code yX4_init cX4_init 5 none, Cond.methodLink RX4 3 objectInit, Cond.classLink RX4 9 "[[I", Cond.classLink RX4 22 RJx4a65c, Cond.instantiable RJx4a65c 3, Cond.methodLink RX4 24 yJx4a65c_init_da8c8, Cond.instanceMethod yJx4a65c_init_da8c8, Cond.code yJx4a65c_init_da8c8 cJx4a65c_init_da8c8 1 none, Cond.fieldLink RJx4a65c 39 "java/util/ArrayList" "DEFAULTCAPACITY_EMPTY_ELEMENTDATA" "[Ljava/lang/Object;", Cond.fieldLink RJx4a65c 9 "java/util/ArrayList" "elementData" "[Ljava/lang/Object;", Cond.methodLink RJx4a65c 1 yJxc12de_init_da8c8, Cond.instanceMethod yJxc12de_init_da8c8, Cond.initialized RJxc12de]
def wsX5_digest_r8 : List Cond := [Cond.code yJxc12de_init_da8c8 cJxc12de_init_da8c8 1 none, Cond.fieldLink RJxc12de 7 "java/util/AbstractList" "modCount" "I", Cond.methodLink RJxc12de 1 yJxa1e45_init_da8c8, Cond.instanceMethod yJxa1e45_init_da8c8, Cond.initialized RJxa1e45, Cond.code yJxa1e45_init_da8c8 cJxa1e45_init_da8c8 1 none, Cond.methodLink RJxa1e45 1 objectInit, Cond.methodLink RX4 30 yX4_copy_, Cond.static yX4_copy_, Cond.code yX4_copy_ cX4_copy_ 3 none, Cond.methodLink RX4 48 arraycopyName, Cond.native arraycopyName, Cond.static arraycopyName, Cond.initialized "java/lang/System", Cond.methodLink RX4 41 yJx4a65c_addAll_f0b43, Cond.instanceMethod yJx4a65c_addAll_f0b43, Cond.selects RJx4a65c yJx4a65c_addAll_f0b43 yJx4a65c_addAll_f0b43, Cond.code yJx4a65c_addAll_f0b43 cJx4a65c_addAll_f0b43 6 (some .boolean), Cond.fieldLink RJx4a65c 63 "java/util/ArrayList" "modCount" "I", Cond.methodLink RJx4a65c 112 arraycopyName, Cond.methodLink RJx4a65c 42 ⟨"java/util/Collection", "toArray", "()[Ljava/lang/Object;"⟩, Cond.selects RJx4a65c ⟨"java/util/Collection", "toArray", "()[Ljava/lang/Object;"⟩ yJx4a65c_toArray_d5877, Cond.instanceMethod yJx4a65c_toArray_d5877, Cond.code yJx4a65c_toArray_d5877 cJx4a65c_toArray_d5877 1 (some (.array (.object "java/lang/Object")))]
def wsX5_digest_r9 : List Cond := [Cond.methodLink RJx4a65c 66 yJ7_copyOf_1904c, Cond.static yJ7_copyOf_1904c, Cond.initialized RJ7, Cond.code yJ7_copyOf_1904c cJ7_copyOf_1904c 2 (some (.array (.object "java/lang/Object"))), Cond.methodLink RJ7 86 ⟨"java/lang/Object", "getClass", "()Ljava/lang/Class;"⟩, Cond.selects "[Ljava/lang/Object;" ⟨"java/lang/Object", "getClass", "()Ljava/lang/Class;"⟩ ⟨"java/lang/Object", "getClass", "()Ljava/lang/Class;"⟩, Cond.instanceMethod ⟨"java/lang/Object", "getClass", "()Ljava/lang/Class;"⟩, Cond.native ⟨"java/lang/Object", "getClass", "()Ljava/lang/Class;"⟩, Cond.methodLink RJ7 300 yJ7_copyOf_6403c, Cond.static yJ7_copyOf_6403c, Cond.code yJ7_copyOf_6403c cJ7_copyOf_6403c 4 (some (.array (.object "java/lang/Object"))), Cond.classLink RJ7 110 "[Ljava/lang/Object;", Cond.classLink RJ7 2 "java/lang/Object", Cond.methodLink RJ7 304 Lib.Math.min.name, Cond.methodLink RJ7 150 arraycopyName, Cond.methodLink RJx4a65c 69 yJx4a65c_grow_92f84, Cond.instanceMethod yJx4a65c_grow_92f84, Cond.selects RJx4a65c yJx4a65c_grow_92f84 yJx4a65c_grow_92f84, Cond.code yJx4a65c_grow_92f84 cJx4a65c_grow_92f84 4 (some (.array (.object "java/lang/Object"))), Cond.methodLink RJx4a65c 79 Lib.Math.max.name, Cond.classLink RJx4a65c 7 "java/lang/Object", Cond.methodLink RJx4a65c 73 yJ8_newLength_cabcc, Cond.static yJ8_newLength_cabcc, Cond.initialized RJ8]
def wsX5_digest_r10 : List Cond := [Cond.code yJ8_newLength_cabcc cJ8_newLength_cabcc 4 (some .int), Cond.methodLink RJ8 194 Lib.Math.max.name, Cond.constant RJ8 200 (2147483639), Cond.methodLink RJ8 201 yJ8_hugeLength_7cf53, Cond.static yJ8_hugeLength_7cf53, Cond.code yJ8_hugeLength_7cf53 cJ8_hugeLength_7cf53 3 (some .int), Cond.methodLink RX5 161 yX4_pass, Cond.instanceMethod yX4_pass, Cond.selects RX4 yX4_pass yX4_pass, Cond.code yX4_pass cX4_pass 3 none, Cond.methodLink RX4 107 yX4_hears, Cond.instanceMethod yX4_hears, Cond.selects RX4 yX4_hears yX4_hears, Cond.code yX4_hears cX4_hears 2 (some .boolean), Cond.methodLink RX4 110 yX4_report, Cond.instanceMethod yX4_report, Cond.selects RX4 yX4_report yX4_report, Cond.code yX4_report cX4_report 2 none, Cond.methodLink RX4 114 yX4_why, Cond.methodLink RX4 117 yX4_go, Cond.instanceMethod yX4_go, Cond.selects RX4 yX4_go yX4_go, Cond.code yX4_go cX4_go 5 none, Cond.methodLink RX4 124 yX4_may]
def wsX5_digest_r11 : List Cond := [Cond.methodLink RX4 120 yX4_look, Cond.instanceMethod yX4_look, Cond.selects RX4 yX4_look yX4_look, Cond.code yX4_look cX4_look 5 none, Cond.methodLink RX5 167 yX5_closestNow, Cond.instanceMethod yX5_closestNow, Cond.selects RX5 yX5_closestNow yX5_closestNow, Cond.code yX5_closestNow cX5_closestNow 5 (some .int), Cond.methodLink RX5 102 yX4_pass_, Cond.instanceMethod yX4_pass_, Cond.selects RX4 yX4_pass_ yX4_pass_, Cond.code yX4_pass_ cX4_pass_ 3 none, Cond.methodLink RX4 127 yX4_pass, Cond.methodLink RX5 170 yX5_worksNow, Cond.instanceMethod yX5_worksNow, Cond.selects RX5 yX5_worksNow yX5_worksNow, Cond.code yX5_worksNow cX5_worksNow 6 (some .int), Cond.methodLink RX5 88 yX4_hinders, Cond.instanceMethod yX4_hinders, Cond.selects RX4 yX4_hinders yX4_hinders, Cond.code yX4_hinders cX4_hinders 5 (some .int), Cond.methodLink RX4 130 yX4_isIn]
def wsX5_digest : List Cond := .code yX5_digest cX5_digest 3 (some .long) :: ((wsX5_digest_r1 ++ (wsX5_digest_r2 ++ (wsX5_digest_r3 ++ (wsX5_digest_r4 ++ (wsX5_digest_r5 ++ (wsX5_digest_r6 ++ (wsX5_digest_r7 ++ (wsX5_digest_r8 ++ (wsX5_digest_r9 ++ (wsX5_digest_r10 ++ wsX5_digest_r11)))))))))) ++ wsX50 ++ wsX40 ++ wsJx4a65c0 ++ wsJx354110)
def wsJ9_max_7cf53 : List Cond := .code yJ9_max_7cf53 cJ9_max_7cf53 2 (some .int) :: ([])
def wsJ9_min_7cf53 : List Cond := .code yJ9_min_7cf53 cJ9_min_7cf53 2 (some .int) :: ([])
def wsL_section_r1 : List Cond := [Cond.classLink RL 13 "java/lang/IndexOutOfBoundsException", Cond.classLink RL 15 "java/lang/IllegalArgumentException", Cond.methodLink RL 7 yX3_section, Cond.instanceMethod yX3_section, Cond.selects RX3 yX3_section yX3_section, Cond.initialized RX3, Cond.code yX3_section cX3_section 6 (some .int), Cond.fieldLink RX3 10 "BrakeCurve" "line" "LBrakeCurve$Line;", Cond.fieldLink RX3 31 "BrakeCurve$Line" "track" "LBrakeCurve$Track;", Cond.fieldLink RX3 35 "BrakeCurve$Track" "limits" "[I", Cond.fieldLink RX3 41 "BrakeCurve$Track" "grades" "[I", Cond.fieldLink RX3 44 "BrakeCurve$Track" "radios" "[Z", Cond.methodLink RX3 19 yX3_needSection, Cond.static yX3_needSection, Cond.code yX3_needSection cX3_needSection 1 none, Cond.methodLink RX3 99 yX3_needIndex, Cond.static yX3_needIndex, Cond.code yX3_needIndex cX3_needIndex 2 none, Cond.classLink RX3 220 "java/lang/IndexOutOfBoundsException", Cond.initialized "java/lang/IndexOutOfBoundsException", Cond.methodLink RX3 23 yX3_isWithin, Cond.static yX3_isWithin, Cond.code yX3_isWithin cX3_isWithin 3 (some .boolean), Cond.methodLink RX3 27 yX3_need]
def wsL_section_r2 : List Cond := [Cond.static yX3_need, Cond.code yX3_need cX3_need 1 none, Cond.classLink RX3 227 "java/lang/IllegalArgumentException", Cond.initialized "java/lang/IllegalArgumentException"]
def wsL_section : List Cond := .codeWith yL_section cL_section 7 (some .int) [(0, 14, 17, 13), (0, 14, 21, 15)] :: ((wsL_section_r1 ++ wsL_section_r2) ++ wsX30 ++ wsX00 ++ wsX10 ++ (vx_atS RX3 224 "java/lang/IndexOutOfBoundsException" ["java/lang/RuntimeException", "java/lang/Exception"]).filter goodWord ++ (vx_atS RX3 231 "java/lang/IllegalArgumentException" ["java/lang/RuntimeException", "java/lang/Exception"]).filter goodWord)
def wsL_station_r1 : List Cond := [Cond.classLink RL 15 "java/lang/IllegalArgumentException", Cond.classLink RL 21 "java/lang/IllegalStateException", Cond.methodLink RL 17 yX3_station, Cond.instanceMethod yX3_station, Cond.selects RX3 yX3_station yX3_station, Cond.initialized RX3, Cond.code yX3_station cX3_station 3 (some .int), Cond.fieldLink RX3 10 "BrakeCurve" "line" "LBrakeCurve$Line;", Cond.fieldLink RX3 31 "BrakeCurve$Line" "track" "LBrakeCurve$Track;", Cond.fieldLink RX3 52 "BrakeCurve$Track" "stationCount" "I", Cond.methodLink RX3 23 yX3_isWithin, Cond.static yX3_isWithin, Cond.code yX3_isWithin cX3_isWithin 3 (some .boolean), Cond.methodLink RX3 48 yX1_hasStationAt, Cond.instanceMethod yX1_hasStationAt, Cond.selects RX1 yX1_hasStationAt yX1_hasStationAt, Cond.initialized RX1, Cond.code yX1_hasStationAt cX1_hasStationAt 3 (some .boolean), Cond.fieldLink RX1 31 "BrakeCurve$Track" "stationCount" "I", Cond.fieldLink RX1 22 "BrakeCurve$Track" "stationMetres" "[I", Cond.methodLink RX3 27 yX3_need, Cond.static yX3_need, Cond.code yX3_need cX3_need 1 none, Cond.classLink RX3 227 "java/lang/IllegalArgumentException"]
def wsL_station_r2 : List Cond := [Cond.initialized "java/lang/IllegalArgumentException", Cond.methodLink RX3 56 yX0_countPresent, Cond.instanceMethod yX0_countPresent, Cond.selects RX0 yX0_countPresent yX0_countPresent, Cond.initialized RX0, Cond.code yX0_countPresent cX0_countPresent 3 (some .int), Cond.fieldLink RX0 24 "BrakeCurve$Line" "trainCount" "I", Cond.fieldLink RX0 20 "BrakeCurve$Line" "trains" "[LBrakeCurve$Train;", Cond.fieldLink RX0 65 "BrakeCurve$Train" "left" "Z", Cond.methodLink RX3 60 yX3_needState, Cond.static yX3_needState, Cond.code yX3_needState cX3_needState 1 none, Cond.classLink RX3 232 "java/lang/IllegalStateException", Cond.initialized "java/lang/IllegalStateException", Cond.methodLink RX3 63 yX1_addStation, Cond.instanceMethod yX1_addStation, Cond.selects RX1 yX1_addStation yX1_addStation, Cond.code yX1_addStation cX1_addStation 4 (some .int), Cond.fieldLink RX1 25 "BrakeCurve$Track" "dwells" "[I", Cond.fieldLink RX1 28 "BrakeCurve$Track" "stopCounts" "[I"]
def wsL_station : List Cond := .codeWith yL_station cL_station 5 (some .int) [(0, 10, 13, 15), (0, 10, 17, 21)] :: ((wsL_station_r1 ++ wsL_station_r2) ++ wsX30 ++ wsX00 ++ wsX10 ++ wsX20 ++ (vx_atS RX3 231 "java/lang/IllegalArgumentException" ["java/lang/RuntimeException", "java/lang/Exception"]).filter goodWord ++ (vx_atS RX3 236 "java/lang/IllegalStateException" ["java/lang/RuntimeException", "java/lang/Exception"]).filter goodWord)
def wsL_train_r1 : List Cond := [Cond.classLink RL 15 "java/lang/IllegalArgumentException", Cond.classLink RL 21 "java/lang/IllegalStateException", Cond.methodLink RL 23 yX3_train, Cond.instanceMethod yX3_train, Cond.selects RX3 yX3_train yX3_train, Cond.initialized RX3, Cond.code yX3_train cX3_train 5 (some .int), Cond.fieldLink RX3 10 "BrakeCurve" "line" "LBrakeCurve$Line;", Cond.fieldLink RX3 67 "BrakeCurve$Line" "trainCount" "I", Cond.methodLink RX3 23 yX3_isWithin, Cond.static yX3_isWithin, Cond.code yX3_isWithin cX3_isWithin 3 (some .boolean), Cond.methodLink RX3 27 yX3_need, Cond.static yX3_need, Cond.code yX3_need cX3_need 1 none, Cond.classLink RX3 227 "java/lang/IllegalArgumentException", Cond.initialized "java/lang/IllegalArgumentException", Cond.methodLink RX3 70 yX0_isFreeUpTo, Cond.instanceMethod yX0_isFreeUpTo, Cond.selects RX0 yX0_isFreeUpTo yX0_isFreeUpTo, Cond.initialized RX0, Cond.code yX0_isFreeUpTo cX0_isFreeUpTo 3 (some .boolean), Cond.fieldLink RX0 24 "BrakeCurve$Line" "trainCount" "I", Cond.fieldLink RX0 20 "BrakeCurve$Line" "trains" "[LBrakeCurve$Train;"]
def wsL_train_r2 : List Cond := [Cond.fieldLink RX0 65 "BrakeCurve$Train" "left" "Z", Cond.methodLink RX0 69 yX2_rear, Cond.instanceMethod yX2_rear, Cond.selects RX2 yX2_rear yX2_rear, Cond.initialized RX2, Cond.code yX2_rear cX2_rear 1 (some .int), Cond.fieldLink RX2 25 "BrakeCurve$Train" "head" "I", Cond.fieldLink RX2 9 "BrakeCurve$Train" "length" "I", Cond.methodLink RX3 60 yX3_needState, Cond.static yX3_needState, Cond.code yX3_needState cX3_needState 1 none, Cond.classLink RX3 232 "java/lang/IllegalStateException", Cond.initialized "java/lang/IllegalStateException", Cond.methodLink RX3 73 yX0_addTrain, Cond.instanceMethod yX0_addTrain, Cond.selects RX0 yX0_addTrain yX0_addTrain, Cond.code yX0_addTrain cX0_addTrain 7 (some .int), Cond.fieldLink RX0 39 "BrakeCurve$Train" "length" "I", Cond.fieldLink RX0 42 "BrakeCurve$Train" "brake" "I", Cond.fieldLink RX0 45 "BrakeCurve$Train" "pull" "I", Cond.fieldLink RX0 48 "BrakeCurve$Train" "head" "I", Cond.fieldLink RX0 51 "BrakeCurve$Train" "authority" "I", Cond.fieldLink RX0 12 "BrakeCurve$Line" "track" "LBrakeCurve$Track;", Cond.fieldLink RX0 58 "BrakeCurve$Train" "stationsToCome" "I"]
def wsL_train_r3 : List Cond := [Cond.fieldLink RX0 28 "BrakeCurve$Line" "now" "I", Cond.methodLink RX0 54 yX1_stationsFrom, Cond.instanceMethod yX1_stationsFrom, Cond.selects RX1 yX1_stationsFrom yX1_stationsFrom, Cond.initialized RX1, Cond.code yX1_stationsFrom cX1_stationsFrom 4 (some .int), Cond.fieldLink RX1 31 "BrakeCurve$Track" "stationCount" "I", Cond.fieldLink RX1 22 "BrakeCurve$Track" "stationMetres" "[I", Cond.methodLink RX0 61 yX2_report, Cond.instanceMethod yX2_report, Cond.selects RX2 yX2_report yX2_report, Cond.code yX2_report cX2_report 2 none, Cond.fieldLink RX2 46 "BrakeCurve$Train" "knownHead" "I", Cond.fieldLink RX2 21 "BrakeCurve$Train" "whole" "Z", Cond.fieldLink RX2 49 "BrakeCurve$Train" "knownRear" "I", Cond.fieldLink RX2 52 "BrakeCurve$Train" "reportSecond" "I", Cond.methodLink RX2 72 yX2_rear]
def wsL_train : List Cond := .codeWith yL_train cL_train 7 (some .int) [(0, 14, 17, 15), (0, 14, 21, 21)] :: ((wsL_train_r1 ++ (wsL_train_r2 ++ wsL_train_r3)) ++ wsX30 ++ wsX00 ++ wsX20 ++ wsX10 ++ (vx_atS RX3 231 "java/lang/IllegalArgumentException" ["java/lang/RuntimeException", "java/lang/Exception"]).filter goodWord ++ (vx_atS RX3 236 "java/lang/IllegalStateException" ["java/lang/RuntimeException", "java/lang/Exception"]).filter goodWord)
def wsL_whole : List Cond := .codeWith yL_whole cL_whole 5 (some .int) [(0, 17, 20, 13)] :: ([.classLink RL 13 "java/lang/IndexOutOfBoundsException", .methodLink RL 26 yX3_whole, .instanceMethod yX3_whole, .selects RX3 yX3_whole yX3_whole, .initialized RX3, .code yX3_whole cX3_whole 4 (some .boolean), .fieldLink RX3 10 "BrakeCurve" "line" "LBrakeCurve$Line;", .fieldLink RX3 80 "BrakeCurve$Line" "trains" "[LBrakeCurve$Train;", .fieldLink RX3 84 "BrakeCurve$Train" "whole" "Z", .methodLink RX3 77 yX3_needTrain, .instanceMethod yX3_needTrain, .selects RX3 yX3_needTrain yX3_needTrain, .code yX3_needTrain cX3_needTrain 2 none, .fieldLink RX3 67 "BrakeCurve$Line" "trainCount" "I", .methodLink RX3 99 yX3_needIndex, .static yX3_needIndex, .code yX3_needIndex cX3_needIndex 2 none, .classLink RX3 220 "java/lang/IndexOutOfBoundsException", .initialized "java/lang/IndexOutOfBoundsException"] ++ wsX30 ++ wsX00 ++ wsX20 ++ (vx_atS RX3 224 "java/lang/IndexOutOfBoundsException" ["java/lang/RuntimeException", "java/lang/Exception"]).filter goodWord)
def wsL_works_r1 : List Cond := [Cond.classLink RL 13 "java/lang/IndexOutOfBoundsException", Cond.classLink RL 15 "java/lang/IllegalArgumentException", Cond.classLink RL 21 "java/lang/IllegalStateException", Cond.methodLink RL 30 yX3_works, Cond.instanceMethod yX3_works, Cond.selects RX3 yX3_works yX3_works, Cond.initialized RX3, Cond.code yX3_works cX3_works 4 (some .int), Cond.fieldLink RX3 10 "BrakeCurve" "line" "LBrakeCurve$Line;", Cond.fieldLink RX3 31 "BrakeCurve$Line" "track" "LBrakeCurve$Track;", Cond.fieldLink RX3 90 "BrakeCurve$Track" "worksCount" "I", Cond.methodLink RX3 19 yX3_needSection, Cond.static yX3_needSection, Cond.code yX3_needSection cX3_needSection 1 none, Cond.methodLink RX3 99 yX3_needIndex, Cond.static yX3_needIndex, Cond.code yX3_needIndex cX3_needIndex 2 none, Cond.classLink RX3 220 "java/lang/IndexOutOfBoundsException", Cond.initialized "java/lang/IndexOutOfBoundsException", Cond.methodLink RX3 27 yX3_need, Cond.static yX3_need, Cond.code yX3_need cX3_need 1 none, Cond.classLink RX3 227 "java/lang/IllegalArgumentException", Cond.initialized "java/lang/IllegalArgumentException"]
def wsL_works_r2 : List Cond := [Cond.methodLink RX3 60 yX3_needState, Cond.static yX3_needState, Cond.code yX3_needState cX3_needState 1 none, Cond.classLink RX3 232 "java/lang/IllegalStateException", Cond.initialized "java/lang/IllegalStateException", Cond.methodLink RX3 93 yX0_hindranceOfWorks, Cond.instanceMethod yX0_hindranceOfWorks, Cond.selects RX0 yX0_hindranceOfWorks yX0_hindranceOfWorks, Cond.initialized RX0, Cond.code yX0_hindranceOfWorks cX0_hindranceOfWorks 6 (some .int), Cond.fieldLink RX0 24 "BrakeCurve$Line" "trainCount" "I", Cond.fieldLink RX0 20 "BrakeCurve$Line" "trains" "[LBrakeCurve$Train;", Cond.fieldLink RX0 65 "BrakeCurve$Train" "left" "Z", Cond.fieldLink RX0 48 "BrakeCurve$Train" "head" "I", Cond.fieldLink RX0 51 "BrakeCurve$Train" "authority" "I", Cond.methodLink RX0 156 yX0_countOn, Cond.instanceMethod yX0_countOn, Cond.selects RX0 yX0_countOn yX0_countOn, Cond.code yX0_countOn cX0_countOn 6 (some .int), Cond.methodLink RX0 76 yX2_isOn, Cond.instanceMethod yX2_isOn, Cond.selects RX2 yX2_isOn yX2_isOn, Cond.initialized RX2, Cond.code yX2_isOn cX2_isOn 3 (some .boolean)]
def wsL_works_r3 : List Cond := [Cond.fieldLink RX2 25 "BrakeCurve$Train" "head" "I", Cond.static yX3_sectionAt, Cond.code yX3_sectionAt cX3_sectionAt 1 (some .int), Cond.methodLink RX2 72 yX2_rear, Cond.instanceMethod yX2_rear, Cond.selects RX2 yX2_rear yX2_rear, Cond.code yX2_rear cX2_rear 1 (some .int), Cond.fieldLink RX2 9 "BrakeCurve$Train" "length" "I", Cond.static yX3_firstMetreOf, Cond.code yX3_firstMetreOf cX3_firstMetreOf 1 (some .int), Cond.methodLink RX3 96 yX1_addWorks, Cond.instanceMethod yX1_addWorks, Cond.selects RX1 yX1_addWorks yX1_addWorks, Cond.initialized RX1, Cond.code yX1_addWorks cX1_addWorks 3 (some .int), Cond.fieldLink RX1 35 "BrakeCurve$Track" "worksFirst" "[I", Cond.fieldLink RX1 41 "BrakeCurve$Track" "worksCount" "I", Cond.fieldLink RX1 38 "BrakeCurve$Track" "worksLast" "[I"]
def wsL_works : List Cond := .codeWith yL_works cL_works 5 (some .int) [(0, 10, 13, 13), (0, 10, 17, 15), (0, 10, 21, 21)] :: ((wsL_works_r1 ++ (wsL_works_r2 ++ wsL_works_r3)) ++ wsX30 ++ wsX00 ++ wsX10 ++ wsX20 ++ (vx_atS RX3 224 "java/lang/IndexOutOfBoundsException" ["java/lang/RuntimeException", "java/lang/Exception"]).filter goodWord ++ (vx_atS RX3 231 "java/lang/IllegalArgumentException" ["java/lang/RuntimeException", "java/lang/Exception"]).filter goodWord ++ (vx_atS RX3 236 "java/lang/IllegalStateException" ["java/lang/RuntimeException", "java/lang/Exception"]).filter goodWord)
def wsL_end : List Cond := .codeWith yL_end cL_end 4 (some .int) [(0, 9, 12, 13)] :: ([.classLink RL 13 "java/lang/IndexOutOfBoundsException", .methodLink RL 33 yX3_end, .instanceMethod yX3_end, .selects RX3 yX3_end yX3_end, .initialized RX3, .code yX3_end cX3_end 2 (some .int), .fieldLink RX3 10 "BrakeCurve" "line" "LBrakeCurve$Line;", .fieldLink RX3 31 "BrakeCurve$Line" "track" "LBrakeCurve$Track;", .fieldLink RX3 90 "BrakeCurve$Track" "worksCount" "I", .methodLink RX3 99 yX3_needIndex, .static yX3_needIndex, .code yX3_needIndex cX3_needIndex 2 none, .classLink RX3 220 "java/lang/IndexOutOfBoundsException", .initialized "java/lang/IndexOutOfBoundsException", .methodLink RX3 103 yX1_removeWorks, .instanceMethod yX1_removeWorks, .selects RX1 yX1_removeWorks yX1_removeWorks, .initialized RX1, .code yX1_removeWorks cX1_removeWorks 3 (some .int), .fieldLink RX1 41 "BrakeCurve$Track" "worksCount" "I", .fieldLink RX1 35 "BrakeCurve$Track" "worksFirst" "[I", .fieldLink RX1 38 "BrakeCurve$Track" "worksLast" "[I"] ++ wsX30 ++ wsX00 ++ wsX10 ++ (vx_atS RX3 224 "java/lang/IndexOutOfBoundsException" ["java/lang/RuntimeException", "java/lang/Exception"]).filter goodWord)
def wsL_pass_r1 : List Cond := [Cond.classLink RL 15 "java/lang/IllegalArgumentException", Cond.methodLink RL 37 yX3_pass, Cond.instanceMethod yX3_pass, Cond.selects RX3 yX3_pass yX3_pass, Cond.initialized RX3, Cond.code yX3_pass cX3_pass 4 (some .int), Cond.fieldLink RX3 10 "BrakeCurve" "line" "LBrakeCurve$Line;", Cond.methodLink RX3 23 yX3_isWithin, Cond.static yX3_isWithin, Cond.code yX3_isWithin cX3_isWithin 3 (some .boolean), Cond.methodLink RX3 27 yX3_need, Cond.static yX3_need, Cond.code yX3_need cX3_need 1 none, Cond.classLink RX3 227 "java/lang/IllegalArgumentException", Cond.initialized "java/lang/IllegalArgumentException", Cond.methodLink RX3 107 yX0_goOn, Cond.instanceMethod yX0_goOn, Cond.selects RX0 yX0_goOn yX0_goOn, Cond.initialized RX0, Cond.code yX0_goOn cX0_goOn 3 (some .int), Cond.fieldLink RX0 28 "BrakeCurve$Line" "now" "I", Cond.fieldLink RX0 24 "BrakeCurve$Line" "trainCount" "I", Cond.fieldLink RX0 20 "BrakeCurve$Line" "trains" "[LBrakeCurve$Train;", Cond.fieldLink RX0 65 "BrakeCurve$Train" "left" "Z"]
def wsL_pass_r2 : List Cond := [Cond.fieldLink RX0 48 "BrakeCurve$Train" "head" "I", Cond.methodLink RX0 102 Lib.Math.max.name, Cond.static Lib.Math.max.name, Cond.initialized "java/lang/Math", Cond.code Lib.Math.max.name Lib.Math.max.code 2 (some .int), Cond.fieldLink RX0 51 "BrakeCurve$Train" "authority" "I", Cond.fieldLink RX0 73 "BrakeCurve$Train" "crashed" "Z", Cond.methodLink RX0 159 yX0_reportAll, Cond.instanceMethod yX0_reportAll, Cond.selects RX0 yX0_reportAll yX0_reportAll, Cond.code yX0_reportAll cX0_reportAll 3 none, Cond.methodLink RX0 162 yX0_hasRadio, Cond.instanceMethod yX0_hasRadio, Cond.selects RX0 yX0_hasRadio yX0_hasRadio, Cond.code yX0_hasRadio cX0_hasRadio 2 (some .boolean), Cond.fieldLink RX0 12 "BrakeCurve$Line" "track" "LBrakeCurve$Track;", Cond.fieldLink RX0 174 "BrakeCurve$Track" "radios" "[Z", Cond.static yX3_sectionAt, Cond.code yX3_sectionAt cX3_sectionAt 1 (some .int), Cond.methodLink RX0 61 yX2_report, Cond.instanceMethod yX2_report, Cond.selects RX2 yX2_report yX2_report, Cond.initialized RX2, Cond.code yX2_report cX2_report 2 none]
def wsL_pass_r3 : List Cond := [Cond.fieldLink RX2 25 "BrakeCurve$Train" "head" "I", Cond.fieldLink RX2 46 "BrakeCurve$Train" "knownHead" "I", Cond.fieldLink RX2 21 "BrakeCurve$Train" "whole" "Z", Cond.fieldLink RX2 49 "BrakeCurve$Train" "knownRear" "I", Cond.fieldLink RX2 52 "BrakeCurve$Train" "reportSecond" "I", Cond.methodLink RX2 72 yX2_rear, Cond.instanceMethod yX2_rear, Cond.selects RX2 yX2_rear yX2_rear, Cond.code yX2_rear cX2_rear 1 (some .int), Cond.fieldLink RX2 9 "BrakeCurve$Train" "length" "I", Cond.methodLink RX0 153 yX0_leastBound, Cond.instanceMethod yX0_leastBound, Cond.selects RX0 yX0_leastBound yX0_leastBound, Cond.code yX0_leastBound cX0_leastBound 3 (some .int), Cond.methodLink RX0 114 Lib.Math.min.name, Cond.static Lib.Math.min.name, Cond.code Lib.Math.min.name Lib.Math.min.code 2 (some .int), Cond.methodLink RX0 144 yX0_boundByEnd, Cond.instanceMethod yX0_boundByEnd, Cond.selects RX0 yX0_boundByEnd yX0_boundByEnd, Cond.code yX0_boundByEnd cX0_boundByEnd 2 (some .int), Cond.fieldLink RX0 39 "BrakeCurve$Train" "length" "I", Cond.methodLink RX0 147 yX0_boundByAhead, Cond.instanceMethod yX0_boundByAhead]
def wsL_pass_r4 : List Cond := [Cond.selects RX0 yX0_boundByAhead yX0_boundByAhead, Cond.code yX0_boundByAhead cX0_boundByAhead 4 (some .int), Cond.constant RX0 133 (1000000), Cond.fieldLink RX0 134 "BrakeCurve$Train" "knownRear" "I", Cond.methodLink RX0 130 yX0_aheadOf, Cond.instanceMethod yX0_aheadOf, Cond.selects RX0 yX0_aheadOf yX0_aheadOf, Cond.code yX0_aheadOf cX0_aheadOf 3 (some .int), Cond.methodLink RX0 137 yX0_isFresh, Cond.instanceMethod yX0_isFresh, Cond.selects RX0 yX0_isFresh yX0_isFresh, Cond.code yX0_isFresh cX0_isFresh 2 (some .boolean), Cond.fieldLink RX0 127 "BrakeCurve$Train" "reportSecond" "I", Cond.static yX3_firstMetreOf, Cond.code yX3_firstMetreOf cX3_firstMetreOf 1 (some .int), Cond.methodLink RX0 150 yX1_boundByWorks, Cond.instanceMethod yX1_boundByWorks, Cond.selects RX1 yX1_boundByWorks yX1_boundByWorks, Cond.initialized RX1, Cond.code yX1_boundByWorks cX1_boundByWorks 5 (some .int), Cond.constant RX1 58 (1000000), Cond.fieldLink RX1 41 "BrakeCurve$Track" "worksCount" "I", Cond.fieldLink RX1 35 "BrakeCurve$Track" "worksFirst" "[I", Cond.methodLink RX1 48 Lib.Math.min.name]
def wsL_pass_r5 : List Cond := [Cond.methodLink RX0 165 yX0_go, Cond.instanceMethod yX0_go, Cond.selects RX0 yX0_go yX0_go, Cond.code yX0_go cX0_go 3 none, Cond.fieldLink RX0 178 "BrakeCurve$Train" "dwellLeft" "I", Cond.fieldLink RX0 80 "BrakeCurve$Train" "speed" "I", Cond.fieldLink RX0 45 "BrakeCurve$Train" "pull" "I", Cond.fieldLink RX0 83 "BrakeCurve$Train" "brakedSeconds" "I", Cond.methodLink RX0 181 yX0_allowedSpeed, Cond.instanceMethod yX0_allowedSpeed, Cond.selects RX0 yX0_allowedSpeed yX0_allowedSpeed, Cond.code yX0_allowedSpeed cX0_allowedSpeed 6 (some .int), Cond.fieldLink RX0 58 "BrakeCurve$Train" "stationsToCome" "I", Cond.fieldLink RX0 111 "BrakeCurve$Track" "stationMetres" "[I", Cond.methodLink RX0 108 yX1_nextStation, Cond.instanceMethod yX1_nextStation, Cond.selects RX1 yX1_nextStation yX1_nextStation, Cond.code yX1_nextStation cX1_nextStation 5 (some .int), Cond.fieldLink RX1 31 "BrakeCurve$Track" "stationCount" "I", Cond.fieldLink RX1 22 "BrakeCurve$Track" "stationMetres" "[I", Cond.methodLink RX0 117 yX0_holdOf, Cond.instanceMethod yX0_holdOf, Cond.selects RX0 yX0_holdOf yX0_holdOf, Cond.code yX0_holdOf cX0_holdOf 2 (some .int)]
def wsL_pass_r6 : List Cond := [Cond.fieldLink RX0 42 "BrakeCurve$Train" "brake" "I", Cond.fieldLink RX0 95 "BrakeCurve$Track" "grades" "[I", Cond.methodLink RX0 69 yX2_rear, Cond.methodLink RX0 121 yX1_leastLimit, Cond.instanceMethod yX1_leastLimit, Cond.selects RX1 yX1_leastLimit yX1_leastLimit, Cond.code yX1_leastLimit cX1_leastLimit 6 (some .int), Cond.fieldLink RX1 9 "BrakeCurve$Track" "limits" "[I", Cond.static yX3_stopMetres, Cond.code yX3_stopMetres cX3_stopMetres 3 (some .int), Cond.methodLink RX0 184 yX0_stopAtStation, Cond.instanceMethod yX0_stopAtStation, Cond.selects RX0 yX0_stopAtStation yX0_stopAtStation, Cond.code yX0_stopAtStation cX0_stopAtStation 3 none, Cond.fieldLink RX0 190 "BrakeCurve$Track" "dwells" "[I", Cond.fieldLink RX0 193 "BrakeCurve$Track" "stopCounts" "[I", Cond.methodLink RX0 187 yX0_missStations, Cond.instanceMethod yX0_missStations, Cond.selects RX0 yX0_missStations yX0_missStations, Cond.code yX0_missStations cX0_missStations 3 none, Cond.fieldLink RX0 89 "BrakeCurve$Train" "missedStations" "I", Cond.methodLink RX0 54 yX1_stationsFrom, Cond.instanceMethod yX1_stationsFrom, Cond.selects RX1 yX1_stationsFrom yX1_stationsFrom]
def wsL_pass_r7 : List Cond := [Cond.code yX1_stationsFrom cX1_stationsFrom 4 (some .int), Cond.methodLink RX0 196 yJ6_bitCount_0f7a4, Cond.static yJ6_bitCount_0f7a4, Cond.initialized RJ6, Cond.code yJ6_bitCount_0f7a4 cJ6_bitCount_0f7a4 1 (some .int), Cond.constant RJ6 265 (1431655765), Cond.constant RJ6 266 (858993459), Cond.constant RJ6 267 (252645135), Cond.methodLink RX0 168 yX0_look, Cond.instanceMethod yX0_look, Cond.selects RX0 yX0_look yX0_look, Cond.code yX0_look cX0_look 5 none, Cond.fieldLink RX0 86 "BrakeCurve$Train" "overrunSeconds" "I", Cond.fieldLink RX0 201 "BrakeCurve$Train" "leastGap" "I", Cond.methodLink RX0 204 yX2_crash, Cond.instanceMethod yX2_crash, Cond.selects RX2 yX2_crash yX2_crash, Cond.code yX2_crash cX2_crash 1 none, Cond.fieldLink RX2 43 "BrakeCurve$Train" "crashed" "Z", Cond.fieldLink RX2 28 "BrakeCurve$Train" "speed" "I", Cond.methodLink RX0 171 yX0_leaveAll, Cond.instanceMethod yX0_leaveAll, Cond.selects RX0 yX0_leaveAll yX0_leaveAll, Cond.code yX0_leaveAll cX0_leaveAll 4 (some .int)]
def wsL_pass : List Cond := .codeWith yL_pass cL_pass 4 (some .int) [(0, 9, 12, 15)] :: ((wsL_pass_r1 ++ (wsL_pass_r2 ++ (wsL_pass_r3 ++ (wsL_pass_r4 ++ (wsL_pass_r5 ++ (wsL_pass_r6 ++ wsL_pass_r7)))))) ++ wsX30 ++ wsX00 ++ wsX20 ++ wsX10 ++ (vx_atS RX3 231 "java/lang/IllegalArgumentException" ["java/lang/RuntimeException", "java/lang/Exception"]).filter goodWord)
def wsL_ofSection_r1 : List Cond := [Cond.classLink RL 13 "java/lang/IndexOutOfBoundsException", Cond.classLink RL 15 "java/lang/IllegalArgumentException", Cond.methodLink RL 40 yX3_ofSection, Cond.instanceMethod yX3_ofSection, Cond.selects RX3 yX3_ofSection yX3_ofSection, Cond.initialized RX3, Cond.code yX3_ofSection cX3_ofSection 3 (some .int), Cond.fieldLink RX3 10 "BrakeCurve" "line" "LBrakeCurve$Line;", Cond.fieldLink RX3 31 "BrakeCurve$Line" "track" "LBrakeCurve$Track;", Cond.fieldLink RX3 35 "BrakeCurve$Track" "limits" "[I", Cond.fieldLink RX3 41 "BrakeCurve$Track" "grades" "[I", Cond.fieldLink RX3 44 "BrakeCurve$Track" "radios" "[Z", Cond.methodLink RX3 19 yX3_needSection, Cond.static yX3_needSection, Cond.code yX3_needSection cX3_needSection 1 none, Cond.methodLink RX3 99 yX3_needIndex, Cond.static yX3_needIndex, Cond.code yX3_needIndex cX3_needIndex 2 none, Cond.classLink RX3 220 "java/lang/IndexOutOfBoundsException", Cond.initialized "java/lang/IndexOutOfBoundsException", Cond.methodLink RX3 23 yX3_isWithin, Cond.static yX3_isWithin, Cond.code yX3_isWithin cX3_isWithin 3 (some .boolean), Cond.methodLink RX3 27 yX3_need]
def wsL_ofSection_r2 : List Cond := [Cond.static yX3_need, Cond.code yX3_need cX3_need 1 none, Cond.classLink RX3 227 "java/lang/IllegalArgumentException", Cond.initialized "java/lang/IllegalArgumentException", Cond.methodLink RX3 110 yX0_countOn, Cond.instanceMethod yX0_countOn, Cond.selects RX0 yX0_countOn yX0_countOn, Cond.initialized RX0, Cond.code yX0_countOn cX0_countOn 6 (some .int), Cond.fieldLink RX0 24 "BrakeCurve$Line" "trainCount" "I", Cond.fieldLink RX0 20 "BrakeCurve$Line" "trains" "[LBrakeCurve$Train;", Cond.fieldLink RX0 65 "BrakeCurve$Train" "left" "Z", Cond.methodLink RX0 76 yX2_isOn, Cond.instanceMethod yX2_isOn, Cond.selects RX2 yX2_isOn yX2_isOn, Cond.initialized RX2, Cond.code yX2_isOn cX2_isOn 3 (some .boolean), Cond.fieldLink RX2 25 "BrakeCurve$Train" "head" "I", Cond.static yX3_sectionAt, Cond.code yX3_sectionAt cX3_sectionAt 1 (some .int), Cond.methodLink RX2 72 yX2_rear, Cond.instanceMethod yX2_rear, Cond.selects RX2 yX2_rear yX2_rear, Cond.code yX2_rear cX2_rear 1 (some .int)]
def wsL_ofSection_r3 : List Cond := [Cond.fieldLink RX2 9 "BrakeCurve$Train" "length" "I", Cond.methodLink RX3 113 yX1_hasWorksOn, Cond.instanceMethod yX1_hasWorksOn, Cond.selects RX1 yX1_hasWorksOn yX1_hasWorksOn, Cond.initialized RX1, Cond.code yX1_hasWorksOn cX1_hasWorksOn 3 (some .boolean), Cond.fieldLink RX1 41 "BrakeCurve$Track" "worksCount" "I", Cond.fieldLink RX1 35 "BrakeCurve$Track" "worksFirst" "[I", Cond.fieldLink RX1 38 "BrakeCurve$Track" "worksLast" "[I"]
def wsL_ofSection : List Cond := .codeWith yL_ofSection cL_ofSection 5 (some .int) [(0, 10, 13, 13), (0, 10, 17, 15)] :: ((wsL_ofSection_r1 ++ (wsL_ofSection_r2 ++ wsL_ofSection_r3)) ++ wsX30 ++ wsX00 ++ wsX10 ++ wsX20 ++ (vx_atS RX3 224 "java/lang/IndexOutOfBoundsException" ["java/lang/RuntimeException", "java/lang/Exception"]).filter goodWord ++ (vx_atS RX3 231 "java/lang/IllegalArgumentException" ["java/lang/RuntimeException", "java/lang/Exception"]).filter goodWord)
def wsL_ofTrain_r1 : List Cond := [Cond.classLink RL 13 "java/lang/IndexOutOfBoundsException", Cond.classLink RL 15 "java/lang/IllegalArgumentException", Cond.methodLink RL 43 yX3_ofTrain, Cond.instanceMethod yX3_ofTrain, Cond.selects RX3 yX3_ofTrain yX3_ofTrain, Cond.initialized RX3, Cond.code yX3_ofTrain cX3_ofTrain 3 (some .int), Cond.fieldLink RX3 10 "BrakeCurve" "line" "LBrakeCurve$Line;", Cond.fieldLink RX3 31 "BrakeCurve$Line" "track" "LBrakeCurve$Track;", Cond.fieldLink RX3 80 "BrakeCurve$Line" "trains" "[LBrakeCurve$Train;", Cond.fieldLink RX3 116 "BrakeCurve$Train" "stationsToCome" "I", Cond.methodLink RX3 77 yX3_needTrain, Cond.instanceMethod yX3_needTrain, Cond.selects RX3 yX3_needTrain yX3_needTrain, Cond.code yX3_needTrain cX3_needTrain 2 none, Cond.fieldLink RX3 67 "BrakeCurve$Line" "trainCount" "I", Cond.methodLink RX3 99 yX3_needIndex, Cond.static yX3_needIndex, Cond.code yX3_needIndex cX3_needIndex 2 none, Cond.classLink RX3 220 "java/lang/IndexOutOfBoundsException", Cond.initialized "java/lang/IndexOutOfBoundsException", Cond.methodLink RX3 23 yX3_isWithin, Cond.static yX3_isWithin, Cond.code yX3_isWithin cX3_isWithin 3 (some .boolean)]
def wsL_ofTrain_r2 : List Cond := [Cond.methodLink RX3 27 yX3_need, Cond.static yX3_need, Cond.code yX3_need cX3_need 1 none, Cond.classLink RX3 227 "java/lang/IllegalArgumentException", Cond.initialized "java/lang/IllegalArgumentException", Cond.methodLink RX3 119 yX1_nextStation, Cond.instanceMethod yX1_nextStation, Cond.selects RX1 yX1_nextStation yX1_nextStation, Cond.initialized RX1, Cond.code yX1_nextStation cX1_nextStation 5 (some .int), Cond.fieldLink RX1 31 "BrakeCurve$Track" "stationCount" "I", Cond.fieldLink RX1 22 "BrakeCurve$Track" "stationMetres" "[I", Cond.methodLink RX3 122 yX0_aheadOf, Cond.instanceMethod yX0_aheadOf, Cond.selects RX0 yX0_aheadOf yX0_aheadOf, Cond.initialized RX0, Cond.code yX0_aheadOf cX0_aheadOf 3 (some .int), Cond.fieldLink RX0 20 "BrakeCurve$Line" "trains" "[LBrakeCurve$Train;", Cond.fieldLink RX0 65 "BrakeCurve$Train" "left" "Z", Cond.methodLink RX3 125 yX2_numberNow, Cond.instanceMethod yX2_numberNow, Cond.selects RX2 yX2_numberNow yX2_numberNow, Cond.initialized RX2, Cond.code yX2_numberNow cX2_numberNow 2 (some .int)]
def wsL_ofTrain_r3 : List Cond := [Cond.fieldLink RX2 25 "BrakeCurve$Train" "head" "I", Cond.fieldLink RX2 28 "BrakeCurve$Train" "speed" "I", Cond.fieldLink RX2 31 "BrakeCurve$Train" "authority" "I", Cond.fieldLink RX2 21 "BrakeCurve$Train" "whole" "Z", Cond.fieldLink RX2 34 "BrakeCurve$Train" "dwellLeft" "I", Cond.fieldLink RX2 40 "BrakeCurve$Train" "left" "Z", Cond.fieldLink RX2 43 "BrakeCurve$Train" "crashed" "Z", Cond.methodLink RX2 72 yX2_rear, Cond.instanceMethod yX2_rear, Cond.selects RX2 yX2_rear yX2_rear, Cond.code yX2_rear cX2_rear 1 (some .int), Cond.fieldLink RX2 9 "BrakeCurve$Train" "length" "I", Cond.methodLink RX3 128 yX2_numberKept, Cond.instanceMethod yX2_numberKept, Cond.selects RX2 yX2_numberKept yX2_numberKept, Cond.code yX2_numberKept cX2_numberKept 2 (some .int), Cond.fieldLink RX2 46 "BrakeCurve$Train" "knownHead" "I", Cond.fieldLink RX2 49 "BrakeCurve$Train" "knownRear" "I", Cond.fieldLink RX2 52 "BrakeCurve$Train" "reportSecond" "I", Cond.fieldLink RX2 55 "BrakeCurve$Train" "brakedSeconds" "I", Cond.fieldLink RX2 58 "BrakeCurve$Train" "overrunSeconds" "I", Cond.fieldLink RX2 61 "BrakeCurve$Train" "missedStations" "I", Cond.methodLink RX2 76 yX2_leastGapOrNone, Cond.instanceMethod yX2_leastGapOrNone]
def wsL_ofTrain_r4 : List Cond := [Cond.selects RX2 yX2_leastGapOrNone yX2_leastGapOrNone, Cond.code yX2_leastGapOrNone cX2_leastGapOrNone 1 (some .int), Cond.fieldLink RX2 65 "BrakeCurve$Train" "leastGap" "I", Cond.constant RX2 64 (1000000)]
def wsL_ofTrain : List Cond := .codeWith yL_ofTrain cL_ofTrain 5 (some .int) [(0, 10, 13, 13), (0, 10, 17, 15)] :: ((wsL_ofTrain_r1 ++ (wsL_ofTrain_r2 ++ (wsL_ofTrain_r3 ++ wsL_ofTrain_r4))) ++ wsX30 ++ wsX00 ++ wsX20 ++ wsX10 ++ (vx_atS RX3 224 "java/lang/IndexOutOfBoundsException" ["java/lang/RuntimeException", "java/lang/Exception"]).filter goodWord ++ (vx_atS RX3 231 "java/lang/IllegalArgumentException" ["java/lang/RuntimeException", "java/lang/Exception"]).filter goodWord)
def wsL_stops_r1 : List Cond := [Cond.classLink RL 13 "java/lang/IndexOutOfBoundsException", Cond.classLink RL 15 "java/lang/IllegalArgumentException", Cond.methodLink RL 46 yX3_stops, Cond.instanceMethod yX3_stops, Cond.selects RX3 yX3_stops yX3_stops, Cond.initialized RX3, Cond.code yX3_stops cX3_stops 3 (some .int), Cond.fieldLink RX3 10 "BrakeCurve" "line" "LBrakeCurve$Line;", Cond.fieldLink RX3 80 "BrakeCurve$Line" "trains" "[LBrakeCurve$Train;", Cond.methodLink RX3 77 yX3_needTrain, Cond.instanceMethod yX3_needTrain, Cond.selects RX3 yX3_needTrain yX3_needTrain, Cond.code yX3_needTrain cX3_needTrain 2 none, Cond.fieldLink RX3 67 "BrakeCurve$Line" "trainCount" "I", Cond.methodLink RX3 99 yX3_needIndex, Cond.static yX3_needIndex, Cond.code yX3_needIndex cX3_needIndex 2 none, Cond.classLink RX3 220 "java/lang/IndexOutOfBoundsException", Cond.initialized "java/lang/IndexOutOfBoundsException", Cond.methodLink RX3 23 yX3_isWithin, Cond.static yX3_isWithin, Cond.code yX3_isWithin cX3_isWithin 3 (some .boolean), Cond.methodLink RX3 27 yX3_need, Cond.static yX3_need]
def wsL_stops_r2 : List Cond := [Cond.code yX3_need cX3_need 1 none, Cond.classLink RX3 227 "java/lang/IllegalArgumentException", Cond.initialized "java/lang/IllegalArgumentException", Cond.methodLink RX3 131 yX0_holdOf, Cond.instanceMethod yX0_holdOf, Cond.selects RX0 yX0_holdOf yX0_holdOf, Cond.initialized RX0, Cond.code yX0_holdOf cX0_holdOf 2 (some .int), Cond.fieldLink RX0 42 "BrakeCurve$Train" "brake" "I", Cond.fieldLink RX0 12 "BrakeCurve$Line" "track" "LBrakeCurve$Track;", Cond.fieldLink RX0 95 "BrakeCurve$Track" "grades" "[I", Cond.fieldLink RX0 48 "BrakeCurve$Train" "head" "I", Cond.methodLink RX0 102 Lib.Math.max.name, Cond.static Lib.Math.max.name, Cond.initialized "java/lang/Math", Cond.code Lib.Math.max.name Lib.Math.max.code 2 (some .int), Cond.static yX3_sectionAt, Cond.code yX3_sectionAt cX3_sectionAt 1 (some .int), Cond.methodLink RX3 135 yX3_stopMetres, Cond.static yX3_stopMetres, Cond.code yX3_stopMetres cX3_stopMetres 3 (some .int)]
def wsL_stops : List Cond := .codeWith yL_stops cL_stops 5 (some .int) [(0, 10, 13, 13), (0, 10, 17, 15)] :: ((wsL_stops_r1 ++ wsL_stops_r2) ++ wsX30 ++ wsX00 ++ wsX20 ++ wsX10 ++ (vx_atS RX3 224 "java/lang/IndexOutOfBoundsException" ["java/lang/RuntimeException", "java/lang/Exception"]).filter goodWord ++ (vx_atS RX3 231 "java/lang/IllegalArgumentException" ["java/lang/RuntimeException", "java/lang/Exception"]).filter goodWord)
def wsL_may_r1 : List Cond := [Cond.classLink RL 13 "java/lang/IndexOutOfBoundsException", Cond.methodLink RL 49 yX3_may, Cond.instanceMethod yX3_may, Cond.selects RX3 yX3_may yX3_may, Cond.initialized RX3, Cond.code yX3_may cX3_may 2 (some .int), Cond.fieldLink RX3 10 "BrakeCurve" "line" "LBrakeCurve$Line;", Cond.fieldLink RX3 80 "BrakeCurve$Line" "trains" "[LBrakeCurve$Train;", Cond.fieldLink RX3 138 "BrakeCurve$Train" "left" "Z", Cond.methodLink RX3 77 yX3_needTrain, Cond.instanceMethod yX3_needTrain, Cond.selects RX3 yX3_needTrain yX3_needTrain, Cond.code yX3_needTrain cX3_needTrain 2 none, Cond.fieldLink RX3 67 "BrakeCurve$Line" "trainCount" "I", Cond.methodLink RX3 99 yX3_needIndex, Cond.static yX3_needIndex, Cond.code yX3_needIndex cX3_needIndex 2 none, Cond.classLink RX3 220 "java/lang/IndexOutOfBoundsException", Cond.initialized "java/lang/IndexOutOfBoundsException", Cond.methodLink RX3 141 yX0_allowedSpeed, Cond.instanceMethod yX0_allowedSpeed, Cond.selects RX0 yX0_allowedSpeed yX0_allowedSpeed, Cond.initialized RX0, Cond.code yX0_allowedSpeed cX0_allowedSpeed 6 (some .int)]
def wsL_may_r2 : List Cond := [Cond.fieldLink RX0 51 "BrakeCurve$Train" "authority" "I", Cond.fieldLink RX0 48 "BrakeCurve$Train" "head" "I", Cond.fieldLink RX0 12 "BrakeCurve$Line" "track" "LBrakeCurve$Track;", Cond.fieldLink RX0 58 "BrakeCurve$Train" "stationsToCome" "I", Cond.fieldLink RX0 111 "BrakeCurve$Track" "stationMetres" "[I", Cond.methodLink RX0 114 Lib.Math.min.name, Cond.static Lib.Math.min.name, Cond.initialized "java/lang/Math", Cond.code Lib.Math.min.name Lib.Math.min.code 2 (some .int), Cond.methodLink RX0 108 yX1_nextStation, Cond.instanceMethod yX1_nextStation, Cond.selects RX1 yX1_nextStation yX1_nextStation, Cond.initialized RX1, Cond.code yX1_nextStation cX1_nextStation 5 (some .int), Cond.fieldLink RX1 31 "BrakeCurve$Track" "stationCount" "I", Cond.fieldLink RX1 22 "BrakeCurve$Track" "stationMetres" "[I", Cond.methodLink RX0 117 yX0_holdOf, Cond.instanceMethod yX0_holdOf, Cond.selects RX0 yX0_holdOf yX0_holdOf, Cond.code yX0_holdOf cX0_holdOf 2 (some .int), Cond.fieldLink RX0 42 "BrakeCurve$Train" "brake" "I", Cond.fieldLink RX0 95 "BrakeCurve$Track" "grades" "[I", Cond.methodLink RX0 102 Lib.Math.max.name, Cond.static Lib.Math.max.name]
def wsL_may_r3 : List Cond := [Cond.code Lib.Math.max.name Lib.Math.max.code 2 (some .int), Cond.static yX3_sectionAt, Cond.code yX3_sectionAt cX3_sectionAt 1 (some .int), Cond.methodLink RX0 69 yX2_rear, Cond.instanceMethod yX2_rear, Cond.selects RX2 yX2_rear yX2_rear, Cond.initialized RX2, Cond.code yX2_rear cX2_rear 1 (some .int), Cond.fieldLink RX2 25 "BrakeCurve$Train" "head" "I", Cond.fieldLink RX2 9 "BrakeCurve$Train" "length" "I", Cond.methodLink RX0 121 yX1_leastLimit, Cond.instanceMethod yX1_leastLimit, Cond.selects RX1 yX1_leastLimit yX1_leastLimit, Cond.code yX1_leastLimit cX1_leastLimit 6 (some .int), Cond.fieldLink RX1 9 "BrakeCurve$Track" "limits" "[I", Cond.methodLink RX1 48 Lib.Math.min.name, Cond.static yX3_stopMetres, Cond.code yX3_stopMetres cX3_stopMetres 3 (some .int)]
def wsL_may : List Cond := .codeWith yL_may cL_may 4 (some .int) [(0, 9, 12, 13)] :: ((wsL_may_r1 ++ (wsL_may_r2 ++ wsL_may_r3)) ++ wsX30 ++ wsX00 ++ wsX20 ++ wsX10 ++ (vx_atS RX3 224 "java/lang/IndexOutOfBoundsException" ["java/lang/RuntimeException", "java/lang/Exception"]).filter goodWord)
def wsL_why_r1 : List Cond := [Cond.classLink RL 13 "java/lang/IndexOutOfBoundsException", Cond.methodLink RL 52 yX3_why, Cond.instanceMethod yX3_why, Cond.selects RX3 yX3_why yX3_why, Cond.initialized RX3, Cond.code yX3_why cX3_why 2 (some .int), Cond.fieldLink RX3 10 "BrakeCurve" "line" "LBrakeCurve$Line;", Cond.fieldLink RX3 80 "BrakeCurve$Line" "trains" "[LBrakeCurve$Train;", Cond.fieldLink RX3 138 "BrakeCurve$Train" "left" "Z", Cond.methodLink RX3 77 yX3_needTrain, Cond.instanceMethod yX3_needTrain, Cond.selects RX3 yX3_needTrain yX3_needTrain, Cond.code yX3_needTrain cX3_needTrain 2 none, Cond.fieldLink RX3 67 "BrakeCurve$Line" "trainCount" "I", Cond.methodLink RX3 99 yX3_needIndex, Cond.static yX3_needIndex, Cond.code yX3_needIndex cX3_needIndex 2 none, Cond.classLink RX3 220 "java/lang/IndexOutOfBoundsException", Cond.initialized "java/lang/IndexOutOfBoundsException", Cond.methodLink RX3 144 yX0_reasonOf, Cond.instanceMethod yX0_reasonOf, Cond.selects RX0 yX0_reasonOf yX0_reasonOf, Cond.initialized RX0, Cond.code yX0_reasonOf cX0_reasonOf 4 (some .int)]
def wsL_why_r2 : List Cond := [Cond.fieldLink RX0 20 "BrakeCurve$Line" "trains" "[LBrakeCurve$Train;", Cond.fieldLink RX0 48 "BrakeCurve$Train" "head" "I", Cond.methodLink RX0 153 yX0_leastBound, Cond.instanceMethod yX0_leastBound, Cond.selects RX0 yX0_leastBound yX0_leastBound, Cond.code yX0_leastBound cX0_leastBound 3 (some .int), Cond.methodLink RX0 114 Lib.Math.min.name, Cond.static Lib.Math.min.name, Cond.initialized "java/lang/Math", Cond.code Lib.Math.min.name Lib.Math.min.code 2 (some .int), Cond.fieldLink RX0 12 "BrakeCurve$Line" "track" "LBrakeCurve$Track;", Cond.methodLink RX0 144 yX0_boundByEnd, Cond.instanceMethod yX0_boundByEnd, Cond.selects RX0 yX0_boundByEnd yX0_boundByEnd, Cond.code yX0_boundByEnd cX0_boundByEnd 2 (some .int), Cond.fieldLink RX0 39 "BrakeCurve$Train" "length" "I", Cond.methodLink RX0 147 yX0_boundByAhead, Cond.instanceMethod yX0_boundByAhead, Cond.selects RX0 yX0_boundByAhead yX0_boundByAhead, Cond.code yX0_boundByAhead cX0_boundByAhead 4 (some .int), Cond.constant RX0 133 (1000000), Cond.fieldLink RX0 134 "BrakeCurve$Train" "knownRear" "I", Cond.methodLink RX0 130 yX0_aheadOf, Cond.instanceMethod yX0_aheadOf]
def wsL_why_r3 : List Cond := [Cond.selects RX0 yX0_aheadOf yX0_aheadOf, Cond.code yX0_aheadOf cX0_aheadOf 3 (some .int), Cond.fieldLink RX0 65 "BrakeCurve$Train" "left" "Z", Cond.methodLink RX0 137 yX0_isFresh, Cond.instanceMethod yX0_isFresh, Cond.selects RX0 yX0_isFresh yX0_isFresh, Cond.code yX0_isFresh cX0_isFresh 2 (some .boolean), Cond.fieldLink RX0 28 "BrakeCurve$Line" "now" "I", Cond.fieldLink RX0 127 "BrakeCurve$Train" "reportSecond" "I", Cond.static yX3_sectionAt, Cond.code yX3_sectionAt cX3_sectionAt 1 (some .int), Cond.static yX3_firstMetreOf, Cond.code yX3_firstMetreOf cX3_firstMetreOf 1 (some .int), Cond.methodLink RX0 150 yX1_boundByWorks, Cond.instanceMethod yX1_boundByWorks, Cond.selects RX1 yX1_boundByWorks yX1_boundByWorks, Cond.initialized RX1, Cond.code yX1_boundByWorks cX1_boundByWorks 5 (some .int), Cond.constant RX1 58 (1000000), Cond.fieldLink RX1 41 "BrakeCurve$Track" "worksCount" "I", Cond.fieldLink RX1 35 "BrakeCurve$Track" "worksFirst" "[I", Cond.methodLink RX1 48 Lib.Math.min.name]
def wsL_why : List Cond := .codeWith yL_why cL_why 4 (some .int) [(0, 9, 12, 13)] :: ((wsL_why_r1 ++ (wsL_why_r2 ++ wsL_why_r3)) ++ wsX30 ++ wsX00 ++ wsX20 ++ wsX10 ++ (vx_atS RX3 224 "java/lang/IndexOutOfBoundsException" ["java/lang/RuntimeException", "java/lang/Exception"]).filter goodWord)
def wsL_ofStation_r1 : List Cond := [Cond.classLink RL 13 "java/lang/IndexOutOfBoundsException", Cond.classLink RL 15 "java/lang/IllegalArgumentException", Cond.methodLink RL 55 yX3_ofStation, Cond.instanceMethod yX3_ofStation, Cond.selects RX3 yX3_ofStation yX3_ofStation, Cond.initialized RX3, Cond.code yX3_ofStation cX3_ofStation 3 (some .int), Cond.fieldLink RX3 10 "BrakeCurve" "line" "LBrakeCurve$Line;", Cond.fieldLink RX3 31 "BrakeCurve$Line" "track" "LBrakeCurve$Track;", Cond.fieldLink RX3 52 "BrakeCurve$Track" "stationCount" "I", Cond.fieldLink RX3 147 "BrakeCurve$Track" "stationMetres" "[I", Cond.fieldLink RX3 150 "BrakeCurve$Track" "dwells" "[I", Cond.fieldLink RX3 153 "BrakeCurve$Track" "stopCounts" "[I", Cond.methodLink RX3 99 yX3_needIndex, Cond.static yX3_needIndex, Cond.code yX3_needIndex cX3_needIndex 2 none, Cond.classLink RX3 220 "java/lang/IndexOutOfBoundsException", Cond.initialized "java/lang/IndexOutOfBoundsException", Cond.methodLink RX3 23 yX3_isWithin, Cond.static yX3_isWithin, Cond.code yX3_isWithin cX3_isWithin 3 (some .boolean), Cond.methodLink RX3 27 yX3_need, Cond.static yX3_need, Cond.code yX3_need cX3_need 1 none]
def wsL_ofStation_r2 : List Cond := [Cond.classLink RX3 227 "java/lang/IllegalArgumentException", Cond.initialized "java/lang/IllegalArgumentException"]
def wsL_ofStation : List Cond := .codeWith yL_ofStation cL_ofStation 5 (some .int) [(0, 10, 13, 13), (0, 10, 17, 15)] :: ((wsL_ofStation_r1 ++ wsL_ofStation_r2) ++ wsX30 ++ wsX00 ++ wsX10 ++ (vx_atS RX3 224 "java/lang/IndexOutOfBoundsException" ["java/lang/RuntimeException", "java/lang/Exception"]).filter goodWord ++ (vx_atS RX3 231 "java/lang/IllegalArgumentException" ["java/lang/RuntimeException", "java/lang/Exception"]).filter goodWord)
def wsL_many_r1 : List Cond := [Cond.classLink RL 15 "java/lang/IllegalArgumentException", Cond.methodLink RL 58 yX3_many, Cond.instanceMethod yX3_many, Cond.selects RX3 yX3_many yX3_many, Cond.initialized RX3, Cond.code yX3_many cX3_many 2 (some .int), Cond.fieldLink RX3 10 "BrakeCurve" "line" "LBrakeCurve$Line;", Cond.fieldLink RX3 156 "BrakeCurve$Line" "now" "I", Cond.fieldLink RX3 67 "BrakeCurve$Line" "trainCount" "I", Cond.fieldLink RX3 31 "BrakeCurve$Line" "track" "LBrakeCurve$Track;", Cond.fieldLink RX3 52 "BrakeCurve$Track" "stationCount" "I", Cond.fieldLink RX3 90 "BrakeCurve$Track" "worksCount" "I", Cond.methodLink RX3 23 yX3_isWithin, Cond.static yX3_isWithin, Cond.code yX3_isWithin cX3_isWithin 3 (some .boolean), Cond.methodLink RX3 27 yX3_need, Cond.static yX3_need, Cond.code yX3_need cX3_need 1 none, Cond.classLink RX3 227 "java/lang/IllegalArgumentException", Cond.initialized "java/lang/IllegalArgumentException", Cond.methodLink RX3 56 yX0_countPresent, Cond.instanceMethod yX0_countPresent, Cond.selects RX0 yX0_countPresent yX0_countPresent, Cond.initialized RX0]
def wsL_many_r2 : List Cond := [Cond.code yX0_countPresent cX0_countPresent 3 (some .int), Cond.fieldLink RX0 24 "BrakeCurve$Line" "trainCount" "I", Cond.fieldLink RX0 20 "BrakeCurve$Line" "trains" "[LBrakeCurve$Train;", Cond.fieldLink RX0 65 "BrakeCurve$Train" "left" "Z", Cond.methodLink RX3 159 yX0_countCrashed, Cond.instanceMethod yX0_countCrashed, Cond.selects RX0 yX0_countCrashed yX0_countCrashed, Cond.code yX0_countCrashed cX0_countCrashed 3 (some .int), Cond.fieldLink RX0 73 "BrakeCurve$Train" "crashed" "Z", Cond.methodLink RX3 162 yX0_total, Cond.instanceMethod yX0_total, Cond.selects RX0 yX0_total yX0_total, Cond.code yX0_total cX0_total 5 (some .int), Cond.fieldLink RX0 83 "BrakeCurve$Train" "brakedSeconds" "I", Cond.fieldLink RX0 86 "BrakeCurve$Train" "overrunSeconds" "I", Cond.fieldLink RX0 89 "BrakeCurve$Train" "missedStations" "I", Cond.methodLink RX0 92 yX2_metresGone, Cond.instanceMethod yX2_metresGone, Cond.selects RX2 yX2_metresGone yX2_metresGone, Cond.initialized RX2, Cond.code yX2_metresGone cX2_metresGone 1 (some .int), Cond.fieldLink RX2 25 "BrakeCurve$Train" "head" "I", Cond.fieldLink RX2 9 "BrakeCurve$Train" "length" "I"]
def wsL_many : List Cond := .codeWith yL_many cL_many 4 (some .int) [(0, 9, 12, 15)] :: ((wsL_many_r1 ++ wsL_many_r2) ++ wsX30 ++ wsX00 ++ wsX10 ++ wsX20 ++ (vx_atS RX3 231 "java/lang/IllegalArgumentException" ["java/lang/RuntimeException", "java/lang/Exception"]).filter goodWord)
def wsL_reaches_r1 : List Cond := [Cond.classLink RL 13 "java/lang/IndexOutOfBoundsException", Cond.classLink RL 15 "java/lang/IllegalArgumentException", Cond.methodLink RL 61 yX3_reaches, Cond.instanceMethod yX3_reaches, Cond.selects RX3 yX3_reaches yX3_reaches, Cond.initialized RX3, Cond.code yX3_reaches cX3_reaches 5 (some .int), Cond.fieldLink RX3 10 "BrakeCurve" "line" "LBrakeCurve$Line;", Cond.fieldLink RX3 80 "BrakeCurve$Line" "trains" "[LBrakeCurve$Train;", Cond.fieldLink RX3 168 "BrakeCurve$Train" "head" "I", Cond.fieldLink RX3 16 "BrakeCurve" "trial" "LBrakeCurve$Line;", Cond.methodLink RX3 77 yX3_needTrain, Cond.instanceMethod yX3_needTrain, Cond.selects RX3 yX3_needTrain yX3_needTrain, Cond.code yX3_needTrain cX3_needTrain 2 none, Cond.fieldLink RX3 67 "BrakeCurve$Line" "trainCount" "I", Cond.methodLink RX3 99 yX3_needIndex, Cond.static yX3_needIndex, Cond.code yX3_needIndex cX3_needIndex 2 none, Cond.classLink RX3 220 "java/lang/IndexOutOfBoundsException", Cond.initialized "java/lang/IndexOutOfBoundsException", Cond.methodLink RX3 23 yX3_isWithin, Cond.static yX3_isWithin, Cond.code yX3_isWithin cX3_isWithin 3 (some .boolean)]
def wsL_reaches_r2 : List Cond := [Cond.methodLink RX3 27 yX3_need, Cond.static yX3_need, Cond.code yX3_need cX3_need 1 none, Cond.classLink RX3 227 "java/lang/IllegalArgumentException", Cond.initialized "java/lang/IllegalArgumentException", Cond.methodLink RX3 171 yX0_copyFrom, Cond.instanceMethod yX0_copyFrom, Cond.selects RX0 yX0_copyFrom yX0_copyFrom, Cond.initialized RX0, Cond.code yX0_copyFrom cX0_copyFrom 3 none, Cond.fieldLink RX0 12 "BrakeCurve$Line" "track" "LBrakeCurve$Track;", Cond.fieldLink RX0 20 "BrakeCurve$Line" "trains" "[LBrakeCurve$Train;", Cond.fieldLink RX0 24 "BrakeCurve$Line" "trainCount" "I", Cond.fieldLink RX0 28 "BrakeCurve$Line" "now" "I", Cond.methodLink RX0 32 yX1_copyFrom, Cond.instanceMethod yX1_copyFrom, Cond.selects RX1 yX1_copyFrom yX1_copyFrom, Cond.initialized RX1, Cond.code yX1_copyFrom cX1_copyFrom 3 none, Cond.fieldLink RX1 9 "BrakeCurve$Track" "limits" "[I", Cond.fieldLink RX1 15 "BrakeCurve$Track" "grades" "[I", Cond.fieldLink RX1 18 "BrakeCurve$Track" "radios" "[Z", Cond.fieldLink RX1 22 "BrakeCurve$Track" "stationMetres" "[I", Cond.fieldLink RX1 25 "BrakeCurve$Track" "dwells" "[I"]
def wsL_reaches_r3 : List Cond := [Cond.fieldLink RX1 28 "BrakeCurve$Track" "stopCounts" "[I", Cond.fieldLink RX1 31 "BrakeCurve$Track" "stationCount" "I", Cond.fieldLink RX1 35 "BrakeCurve$Track" "worksFirst" "[I", Cond.fieldLink RX1 38 "BrakeCurve$Track" "worksLast" "[I", Cond.fieldLink RX1 41 "BrakeCurve$Track" "worksCount" "I", Cond.methodLink RX0 36 yX2_copyFrom, Cond.instanceMethod yX2_copyFrom, Cond.selects RX2 yX2_copyFrom yX2_copyFrom, Cond.initialized RX2, Cond.code yX2_copyFrom cX2_copyFrom 2 none, Cond.fieldLink RX2 9 "BrakeCurve$Train" "length" "I", Cond.fieldLink RX2 15 "BrakeCurve$Train" "brake" "I", Cond.fieldLink RX2 18 "BrakeCurve$Train" "pull" "I", Cond.fieldLink RX2 21 "BrakeCurve$Train" "whole" "Z", Cond.fieldLink RX2 25 "BrakeCurve$Train" "head" "I", Cond.fieldLink RX2 28 "BrakeCurve$Train" "speed" "I", Cond.fieldLink RX2 31 "BrakeCurve$Train" "authority" "I", Cond.fieldLink RX2 34 "BrakeCurve$Train" "dwellLeft" "I", Cond.fieldLink RX2 37 "BrakeCurve$Train" "stationsToCome" "I", Cond.fieldLink RX2 40 "BrakeCurve$Train" "left" "Z", Cond.fieldLink RX2 43 "BrakeCurve$Train" "crashed" "Z", Cond.fieldLink RX2 46 "BrakeCurve$Train" "knownHead" "I", Cond.fieldLink RX2 49 "BrakeCurve$Train" "knownRear" "I", Cond.fieldLink RX2 52 "BrakeCurve$Train" "reportSecond" "I"]
def wsL_reaches_r4 : List Cond := [Cond.fieldLink RX2 55 "BrakeCurve$Train" "brakedSeconds" "I", Cond.fieldLink RX2 58 "BrakeCurve$Train" "overrunSeconds" "I", Cond.fieldLink RX2 61 "BrakeCurve$Train" "missedStations" "I", Cond.fieldLink RX2 65 "BrakeCurve$Train" "leastGap" "I", Cond.methodLink RX3 107 yX0_goOn, Cond.instanceMethod yX0_goOn, Cond.selects RX0 yX0_goOn yX0_goOn, Cond.code yX0_goOn cX0_goOn 3 (some .int), Cond.fieldLink RX0 65 "BrakeCurve$Train" "left" "Z", Cond.fieldLink RX0 48 "BrakeCurve$Train" "head" "I", Cond.methodLink RX0 102 Lib.Math.max.name, Cond.static Lib.Math.max.name, Cond.initialized "java/lang/Math", Cond.code Lib.Math.max.name Lib.Math.max.code 2 (some .int), Cond.fieldLink RX0 51 "BrakeCurve$Train" "authority" "I", Cond.fieldLink RX0 73 "BrakeCurve$Train" "crashed" "Z", Cond.methodLink RX0 159 yX0_reportAll, Cond.instanceMethod yX0_reportAll, Cond.selects RX0 yX0_reportAll yX0_reportAll, Cond.code yX0_reportAll cX0_reportAll 3 none, Cond.methodLink RX0 162 yX0_hasRadio, Cond.instanceMethod yX0_hasRadio, Cond.selects RX0 yX0_hasRadio yX0_hasRadio, Cond.code yX0_hasRadio cX0_hasRadio 2 (some .boolean)]
def wsL_reaches_r5 : List Cond := [Cond.fieldLink RX0 174 "BrakeCurve$Track" "radios" "[Z", Cond.static yX3_sectionAt, Cond.code yX3_sectionAt cX3_sectionAt 1 (some .int), Cond.methodLink RX0 61 yX2_report, Cond.instanceMethod yX2_report, Cond.selects RX2 yX2_report yX2_report, Cond.code yX2_report cX2_report 2 none, Cond.methodLink RX2 72 yX2_rear, Cond.instanceMethod yX2_rear, Cond.selects RX2 yX2_rear yX2_rear, Cond.code yX2_rear cX2_rear 1 (some .int), Cond.methodLink RX0 153 yX0_leastBound, Cond.instanceMethod yX0_leastBound, Cond.selects RX0 yX0_leastBound yX0_leastBound, Cond.code yX0_leastBound cX0_leastBound 3 (some .int), Cond.methodLink RX0 114 Lib.Math.min.name, Cond.static Lib.Math.min.name, Cond.code Lib.Math.min.name Lib.Math.min.code 2 (some .int), Cond.methodLink RX0 144 yX0_boundByEnd, Cond.instanceMethod yX0_boundByEnd, Cond.selects RX0 yX0_boundByEnd yX0_boundByEnd, Cond.code yX0_boundByEnd cX0_boundByEnd 2 (some .int), Cond.fieldLink RX0 39 "BrakeCurve$Train" "length" "I", Cond.methodLink RX0 147 yX0_boundByAhead]
def wsL_reaches_r6 : List Cond := [Cond.instanceMethod yX0_boundByAhead, Cond.selects RX0 yX0_boundByAhead yX0_boundByAhead, Cond.code yX0_boundByAhead cX0_boundByAhead 4 (some .int), Cond.constant RX0 133 (1000000), Cond.fieldLink RX0 134 "BrakeCurve$Train" "knownRear" "I", Cond.methodLink RX0 130 yX0_aheadOf, Cond.instanceMethod yX0_aheadOf, Cond.selects RX0 yX0_aheadOf yX0_aheadOf, Cond.code yX0_aheadOf cX0_aheadOf 3 (some .int), Cond.methodLink RX0 137 yX0_isFresh, Cond.instanceMethod yX0_isFresh, Cond.selects RX0 yX0_isFresh yX0_isFresh, Cond.code yX0_isFresh cX0_isFresh 2 (some .boolean), Cond.fieldLink RX0 127 "BrakeCurve$Train" "reportSecond" "I", Cond.static yX3_firstMetreOf, Cond.code yX3_firstMetreOf cX3_firstMetreOf 1 (some .int), Cond.methodLink RX0 150 yX1_boundByWorks, Cond.instanceMethod yX1_boundByWorks, Cond.selects RX1 yX1_boundByWorks yX1_boundByWorks, Cond.code yX1_boundByWorks cX1_boundByWorks 5 (some .int), Cond.constant RX1 58 (1000000), Cond.methodLink RX1 48 Lib.Math.min.name, Cond.methodLink RX0 165 yX0_go, Cond.instanceMethod yX0_go]
def wsL_reaches_r7 : List Cond := [Cond.selects RX0 yX0_go yX0_go, Cond.code yX0_go cX0_go 3 none, Cond.fieldLink RX0 178 "BrakeCurve$Train" "dwellLeft" "I", Cond.fieldLink RX0 80 "BrakeCurve$Train" "speed" "I", Cond.fieldLink RX0 45 "BrakeCurve$Train" "pull" "I", Cond.fieldLink RX0 83 "BrakeCurve$Train" "brakedSeconds" "I", Cond.methodLink RX0 181 yX0_allowedSpeed, Cond.instanceMethod yX0_allowedSpeed, Cond.selects RX0 yX0_allowedSpeed yX0_allowedSpeed, Cond.code yX0_allowedSpeed cX0_allowedSpeed 6 (some .int), Cond.fieldLink RX0 58 "BrakeCurve$Train" "stationsToCome" "I", Cond.fieldLink RX0 111 "BrakeCurve$Track" "stationMetres" "[I", Cond.methodLink RX0 108 yX1_nextStation, Cond.instanceMethod yX1_nextStation, Cond.selects RX1 yX1_nextStation yX1_nextStation, Cond.code yX1_nextStation cX1_nextStation 5 (some .int), Cond.methodLink RX0 117 yX0_holdOf, Cond.instanceMethod yX0_holdOf, Cond.selects RX0 yX0_holdOf yX0_holdOf, Cond.code yX0_holdOf cX0_holdOf 2 (some .int), Cond.fieldLink RX0 42 "BrakeCurve$Train" "brake" "I", Cond.fieldLink RX0 95 "BrakeCurve$Track" "grades" "[I", Cond.methodLink RX0 69 yX2_rear, Cond.methodLink RX0 121 yX1_leastLimit]
def wsL_reaches_r8 : List Cond := [Cond.instanceMethod yX1_leastLimit, Cond.selects RX1 yX1_leastLimit yX1_leastLimit, Cond.code yX1_leastLimit cX1_leastLimit 6 (some .int), Cond.static yX3_stopMetres, Cond.code yX3_stopMetres cX3_stopMetres 3 (some .int), Cond.methodLink RX0 184 yX0_stopAtStation, Cond.instanceMethod yX0_stopAtStation, Cond.selects RX0 yX0_stopAtStation yX0_stopAtStation, Cond.code yX0_stopAtStation cX0_stopAtStation 3 none, Cond.fieldLink RX0 190 "BrakeCurve$Track" "dwells" "[I", Cond.fieldLink RX0 193 "BrakeCurve$Track" "stopCounts" "[I", Cond.methodLink RX0 187 yX0_missStations, Cond.instanceMethod yX0_missStations, Cond.selects RX0 yX0_missStations yX0_missStations, Cond.code yX0_missStations cX0_missStations 3 none, Cond.fieldLink RX0 89 "BrakeCurve$Train" "missedStations" "I", Cond.methodLink RX0 54 yX1_stationsFrom, Cond.instanceMethod yX1_stationsFrom, Cond.selects RX1 yX1_stationsFrom yX1_stationsFrom, Cond.code yX1_stationsFrom cX1_stationsFrom 4 (some .int), Cond.methodLink RX0 196 yJ6_bitCount_0f7a4, Cond.static yJ6_bitCount_0f7a4, Cond.initialized RJ6, Cond.code yJ6_bitCount_0f7a4 cJ6_bitCount_0f7a4 1 (some .int)]
def wsL_reaches_r9 : List Cond := [Cond.constant RJ6 265 (1431655765), Cond.constant RJ6 266 (858993459), Cond.constant RJ6 267 (252645135), Cond.methodLink RX0 168 yX0_look, Cond.instanceMethod yX0_look, Cond.selects RX0 yX0_look yX0_look, Cond.code yX0_look cX0_look 5 none, Cond.fieldLink RX0 86 "BrakeCurve$Train" "overrunSeconds" "I", Cond.fieldLink RX0 201 "BrakeCurve$Train" "leastGap" "I", Cond.methodLink RX0 204 yX2_crash, Cond.instanceMethod yX2_crash, Cond.selects RX2 yX2_crash yX2_crash, Cond.code yX2_crash cX2_crash 1 none, Cond.methodLink RX0 171 yX0_leaveAll, Cond.instanceMethod yX0_leaveAll, Cond.selects RX0 yX0_leaveAll yX0_leaveAll, Cond.code yX0_leaveAll cX0_leaveAll 4 (some .int)]
def wsL_reaches : List Cond := .codeWith yL_reaches cL_reaches 6 (some .int) [(0, 12, 15, 13), (0, 12, 19, 15)] :: ((wsL_reaches_r1 ++ (wsL_reaches_r2 ++ (wsL_reaches_r3 ++ (wsL_reaches_r4 ++ (wsL_reaches_r5 ++ (wsL_reaches_r6 ++ (wsL_reaches_r7 ++ (wsL_reaches_r8 ++ wsL_reaches_r9)))))))) ++ wsX30 ++ wsX00 ++ wsX20 ++ wsX10 ++ (vx_atS RX3 224 "java/lang/IndexOutOfBoundsException" ["java/lang/RuntimeException", "java/lang/Exception"]).filter goodWord ++ (vx_atS RX3 231 "java/lang/IllegalArgumentException" ["java/lang/RuntimeException", "java/lang/Exception"]).filter goodWord)
def wsL_closest_r1 : List Cond := [Cond.classLink RL 13 "java/lang/IndexOutOfBoundsException", Cond.classLink RL 15 "java/lang/IllegalArgumentException", Cond.methodLink RL 65 yX3_closest, Cond.instanceMethod yX3_closest, Cond.selects RX3 yX3_closest yX3_closest, Cond.initialized RX3, Cond.code yX3_closest cX3_closest 5 (some .int), Cond.fieldLink RX3 10 "BrakeCurve" "line" "LBrakeCurve$Line;", Cond.fieldLink RX3 80 "BrakeCurve$Line" "trains" "[LBrakeCurve$Train;", Cond.fieldLink RX3 138 "BrakeCurve$Train" "left" "Z", Cond.fieldLink RX3 16 "BrakeCurve" "trial" "LBrakeCurve$Line;", Cond.constant RX3 175 (1000000), Cond.fieldLink RX3 176 "BrakeCurve$Train" "leastGap" "I", Cond.methodLink RX3 77 yX3_needTrain, Cond.instanceMethod yX3_needTrain, Cond.selects RX3 yX3_needTrain yX3_needTrain, Cond.code yX3_needTrain cX3_needTrain 2 none, Cond.fieldLink RX3 67 "BrakeCurve$Line" "trainCount" "I", Cond.methodLink RX3 99 yX3_needIndex, Cond.static yX3_needIndex, Cond.code yX3_needIndex cX3_needIndex 2 none, Cond.classLink RX3 220 "java/lang/IndexOutOfBoundsException", Cond.initialized "java/lang/IndexOutOfBoundsException", Cond.methodLink RX3 23 yX3_isWithin]
def wsL_closest_r2 : List Cond := [Cond.static yX3_isWithin, Cond.code yX3_isWithin cX3_isWithin 3 (some .boolean), Cond.methodLink RX3 27 yX3_need, Cond.static yX3_need, Cond.code yX3_need cX3_need 1 none, Cond.classLink RX3 227 "java/lang/IllegalArgumentException", Cond.initialized "java/lang/IllegalArgumentException", Cond.methodLink RX3 122 yX0_aheadOf, Cond.instanceMethod yX0_aheadOf, Cond.selects RX0 yX0_aheadOf yX0_aheadOf, Cond.initialized RX0, Cond.code yX0_aheadOf cX0_aheadOf 3 (some .int), Cond.fieldLink RX0 20 "BrakeCurve$Line" "trains" "[LBrakeCurve$Train;", Cond.fieldLink RX0 65 "BrakeCurve$Train" "left" "Z", Cond.methodLink RX3 171 yX0_copyFrom, Cond.instanceMethod yX0_copyFrom, Cond.selects RX0 yX0_copyFrom yX0_copyFrom, Cond.code yX0_copyFrom cX0_copyFrom 3 none, Cond.fieldLink RX0 12 "BrakeCurve$Line" "track" "LBrakeCurve$Track;", Cond.fieldLink RX0 24 "BrakeCurve$Line" "trainCount" "I", Cond.fieldLink RX0 28 "BrakeCurve$Line" "now" "I", Cond.methodLink RX0 32 yX1_copyFrom, Cond.instanceMethod yX1_copyFrom, Cond.selects RX1 yX1_copyFrom yX1_copyFrom]
def wsL_closest_r3 : List Cond := [Cond.initialized RX1, Cond.code yX1_copyFrom cX1_copyFrom 3 none, Cond.fieldLink RX1 9 "BrakeCurve$Track" "limits" "[I", Cond.fieldLink RX1 15 "BrakeCurve$Track" "grades" "[I", Cond.fieldLink RX1 18 "BrakeCurve$Track" "radios" "[Z", Cond.fieldLink RX1 22 "BrakeCurve$Track" "stationMetres" "[I", Cond.fieldLink RX1 25 "BrakeCurve$Track" "dwells" "[I", Cond.fieldLink RX1 28 "BrakeCurve$Track" "stopCounts" "[I", Cond.fieldLink RX1 31 "BrakeCurve$Track" "stationCount" "I", Cond.fieldLink RX1 35 "BrakeCurve$Track" "worksFirst" "[I", Cond.fieldLink RX1 38 "BrakeCurve$Track" "worksLast" "[I", Cond.fieldLink RX1 41 "BrakeCurve$Track" "worksCount" "I", Cond.methodLink RX0 36 yX2_copyFrom, Cond.instanceMethod yX2_copyFrom, Cond.selects RX2 yX2_copyFrom yX2_copyFrom, Cond.initialized RX2, Cond.code yX2_copyFrom cX2_copyFrom 2 none, Cond.fieldLink RX2 9 "BrakeCurve$Train" "length" "I", Cond.fieldLink RX2 15 "BrakeCurve$Train" "brake" "I", Cond.fieldLink RX2 18 "BrakeCurve$Train" "pull" "I", Cond.fieldLink RX2 21 "BrakeCurve$Train" "whole" "Z", Cond.fieldLink RX2 25 "BrakeCurve$Train" "head" "I", Cond.fieldLink RX2 28 "BrakeCurve$Train" "speed" "I", Cond.fieldLink RX2 31 "BrakeCurve$Train" "authority" "I"]
def wsL_closest_r4 : List Cond := [Cond.fieldLink RX2 34 "BrakeCurve$Train" "dwellLeft" "I", Cond.fieldLink RX2 37 "BrakeCurve$Train" "stationsToCome" "I", Cond.fieldLink RX2 40 "BrakeCurve$Train" "left" "Z", Cond.fieldLink RX2 43 "BrakeCurve$Train" "crashed" "Z", Cond.fieldLink RX2 46 "BrakeCurve$Train" "knownHead" "I", Cond.fieldLink RX2 49 "BrakeCurve$Train" "knownRear" "I", Cond.fieldLink RX2 52 "BrakeCurve$Train" "reportSecond" "I", Cond.fieldLink RX2 55 "BrakeCurve$Train" "brakedSeconds" "I", Cond.fieldLink RX2 58 "BrakeCurve$Train" "overrunSeconds" "I", Cond.fieldLink RX2 61 "BrakeCurve$Train" "missedStations" "I", Cond.fieldLink RX2 65 "BrakeCurve$Train" "leastGap" "I", Cond.methodLink RX3 107 yX0_goOn, Cond.instanceMethod yX0_goOn, Cond.selects RX0 yX0_goOn yX0_goOn, Cond.code yX0_goOn cX0_goOn 3 (some .int), Cond.fieldLink RX0 48 "BrakeCurve$Train" "head" "I", Cond.methodLink RX0 102 Lib.Math.max.name, Cond.static Lib.Math.max.name, Cond.initialized "java/lang/Math", Cond.code Lib.Math.max.name Lib.Math.max.code 2 (some .int), Cond.fieldLink RX0 51 "BrakeCurve$Train" "authority" "I", Cond.fieldLink RX0 73 "BrakeCurve$Train" "crashed" "Z", Cond.methodLink RX0 159 yX0_reportAll, Cond.instanceMethod yX0_reportAll]
def wsL_closest_r5 : List Cond := [Cond.selects RX0 yX0_reportAll yX0_reportAll, Cond.code yX0_reportAll cX0_reportAll 3 none, Cond.methodLink RX0 162 yX0_hasRadio, Cond.instanceMethod yX0_hasRadio, Cond.selects RX0 yX0_hasRadio yX0_hasRadio, Cond.code yX0_hasRadio cX0_hasRadio 2 (some .boolean), Cond.fieldLink RX0 174 "BrakeCurve$Track" "radios" "[Z", Cond.static yX3_sectionAt, Cond.code yX3_sectionAt cX3_sectionAt 1 (some .int), Cond.methodLink RX0 61 yX2_report, Cond.instanceMethod yX2_report, Cond.selects RX2 yX2_report yX2_report, Cond.code yX2_report cX2_report 2 none, Cond.methodLink RX2 72 yX2_rear, Cond.instanceMethod yX2_rear, Cond.selects RX2 yX2_rear yX2_rear, Cond.code yX2_rear cX2_rear 1 (some .int), Cond.methodLink RX0 153 yX0_leastBound, Cond.instanceMethod yX0_leastBound, Cond.selects RX0 yX0_leastBound yX0_leastBound, Cond.code yX0_leastBound cX0_leastBound 3 (some .int), Cond.methodLink RX0 114 Lib.Math.min.name, Cond.static Lib.Math.min.name, Cond.code Lib.Math.min.name Lib.Math.min.code 2 (some .int)]
def wsL_closest_r6 : List Cond := [Cond.methodLink RX0 144 yX0_boundByEnd, Cond.instanceMethod yX0_boundByEnd, Cond.selects RX0 yX0_boundByEnd yX0_boundByEnd, Cond.code yX0_boundByEnd cX0_boundByEnd 2 (some .int), Cond.fieldLink RX0 39 "BrakeCurve$Train" "length" "I", Cond.methodLink RX0 147 yX0_boundByAhead, Cond.instanceMethod yX0_boundByAhead, Cond.selects RX0 yX0_boundByAhead yX0_boundByAhead, Cond.code yX0_boundByAhead cX0_boundByAhead 4 (some .int), Cond.constant RX0 133 (1000000), Cond.fieldLink RX0 134 "BrakeCurve$Train" "knownRear" "I", Cond.methodLink RX0 130 yX0_aheadOf, Cond.methodLink RX0 137 yX0_isFresh, Cond.instanceMethod yX0_isFresh, Cond.selects RX0 yX0_isFresh yX0_isFresh, Cond.code yX0_isFresh cX0_isFresh 2 (some .boolean), Cond.fieldLink RX0 127 "BrakeCurve$Train" "reportSecond" "I", Cond.static yX3_firstMetreOf, Cond.code yX3_firstMetreOf cX3_firstMetreOf 1 (some .int), Cond.methodLink RX0 150 yX1_boundByWorks, Cond.instanceMethod yX1_boundByWorks, Cond.selects RX1 yX1_boundByWorks yX1_boundByWorks, Cond.code yX1_boundByWorks cX1_boundByWorks 5 (some .int), Cond.constant RX1 58 (1000000)]
def wsL_closest_r7 : List Cond := [Cond.methodLink RX1 48 Lib.Math.min.name, Cond.methodLink RX0 165 yX0_go, Cond.instanceMethod yX0_go, Cond.selects RX0 yX0_go yX0_go, Cond.code yX0_go cX0_go 3 none, Cond.fieldLink RX0 178 "BrakeCurve$Train" "dwellLeft" "I", Cond.fieldLink RX0 80 "BrakeCurve$Train" "speed" "I", Cond.fieldLink RX0 45 "BrakeCurve$Train" "pull" "I", Cond.fieldLink RX0 83 "BrakeCurve$Train" "brakedSeconds" "I", Cond.methodLink RX0 181 yX0_allowedSpeed, Cond.instanceMethod yX0_allowedSpeed, Cond.selects RX0 yX0_allowedSpeed yX0_allowedSpeed, Cond.code yX0_allowedSpeed cX0_allowedSpeed 6 (some .int), Cond.fieldLink RX0 58 "BrakeCurve$Train" "stationsToCome" "I", Cond.fieldLink RX0 111 "BrakeCurve$Track" "stationMetres" "[I", Cond.methodLink RX0 108 yX1_nextStation, Cond.instanceMethod yX1_nextStation, Cond.selects RX1 yX1_nextStation yX1_nextStation, Cond.code yX1_nextStation cX1_nextStation 5 (some .int), Cond.methodLink RX0 117 yX0_holdOf, Cond.instanceMethod yX0_holdOf, Cond.selects RX0 yX0_holdOf yX0_holdOf, Cond.code yX0_holdOf cX0_holdOf 2 (some .int), Cond.fieldLink RX0 42 "BrakeCurve$Train" "brake" "I"]
def wsL_closest_r8 : List Cond := [Cond.fieldLink RX0 95 "BrakeCurve$Track" "grades" "[I", Cond.methodLink RX0 69 yX2_rear, Cond.methodLink RX0 121 yX1_leastLimit, Cond.instanceMethod yX1_leastLimit, Cond.selects RX1 yX1_leastLimit yX1_leastLimit, Cond.code yX1_leastLimit cX1_leastLimit 6 (some .int), Cond.static yX3_stopMetres, Cond.code yX3_stopMetres cX3_stopMetres 3 (some .int), Cond.methodLink RX0 184 yX0_stopAtStation, Cond.instanceMethod yX0_stopAtStation, Cond.selects RX0 yX0_stopAtStation yX0_stopAtStation, Cond.code yX0_stopAtStation cX0_stopAtStation 3 none, Cond.fieldLink RX0 190 "BrakeCurve$Track" "dwells" "[I", Cond.fieldLink RX0 193 "BrakeCurve$Track" "stopCounts" "[I", Cond.methodLink RX0 187 yX0_missStations, Cond.instanceMethod yX0_missStations, Cond.selects RX0 yX0_missStations yX0_missStations, Cond.code yX0_missStations cX0_missStations 3 none, Cond.fieldLink RX0 89 "BrakeCurve$Train" "missedStations" "I", Cond.methodLink RX0 54 yX1_stationsFrom, Cond.instanceMethod yX1_stationsFrom, Cond.selects RX1 yX1_stationsFrom yX1_stationsFrom, Cond.code yX1_stationsFrom cX1_stationsFrom 4 (some .int), Cond.methodLink RX0 196 yJ6_bitCount_0f7a4]
def wsL_closest_r9 : List Cond := [Cond.static yJ6_bitCount_0f7a4, Cond.initialized RJ6, Cond.code yJ6_bitCount_0f7a4 cJ6_bitCount_0f7a4 1 (some .int), Cond.constant RJ6 265 (1431655765), Cond.constant RJ6 266 (858993459), Cond.constant RJ6 267 (252645135), Cond.methodLink RX0 168 yX0_look, Cond.instanceMethod yX0_look, Cond.selects RX0 yX0_look yX0_look, Cond.code yX0_look cX0_look 5 none, Cond.fieldLink RX0 86 "BrakeCurve$Train" "overrunSeconds" "I", Cond.fieldLink RX0 201 "BrakeCurve$Train" "leastGap" "I", Cond.methodLink RX0 204 yX2_crash, Cond.instanceMethod yX2_crash, Cond.selects RX2 yX2_crash yX2_crash, Cond.code yX2_crash cX2_crash 1 none, Cond.methodLink RX0 171 yX0_leaveAll, Cond.instanceMethod yX0_leaveAll, Cond.selects RX0 yX0_leaveAll yX0_leaveAll, Cond.code yX0_leaveAll cX0_leaveAll 4 (some .int), Cond.methodLink RX3 179 yX2_leastGapOrNone, Cond.instanceMethod yX2_leastGapOrNone, Cond.selects RX2 yX2_leastGapOrNone yX2_leastGapOrNone, Cond.code yX2_leastGapOrNone cX2_leastGapOrNone 1 (some .int)]
def wsL_closest_r10 : List Cond := [Cond.constant RX2 64 (1000000)]
def wsL_closest : List Cond := .codeWith yL_closest cL_closest 5 (some .int) [(0, 10, 13, 13), (0, 10, 17, 15)] :: ((wsL_closest_r1 ++ (wsL_closest_r2 ++ (wsL_closest_r3 ++ (wsL_closest_r4 ++ (wsL_closest_r5 ++ (wsL_closest_r6 ++ (wsL_closest_r7 ++ (wsL_closest_r8 ++ (wsL_closest_r9 ++ wsL_closest_r10))))))))) ++ wsX30 ++ wsX00 ++ wsX20 ++ wsX10 ++ (vx_atS RX3 224 "java/lang/IndexOutOfBoundsException" ["java/lang/RuntimeException", "java/lang/Exception"]).filter goodWord ++ (vx_atS RX3 231 "java/lang/IllegalArgumentException" ["java/lang/RuntimeException", "java/lang/Exception"]).filter goodWord)
def wsL_lost_r1 : List Cond := [Cond.classLink RL 13 "java/lang/IndexOutOfBoundsException", Cond.classLink RL 15 "java/lang/IllegalArgumentException", Cond.methodLink RL 68 yX3_lost, Cond.instanceMethod yX3_lost, Cond.selects RX3 yX3_lost yX3_lost, Cond.initialized RX3, Cond.code yX3_lost cX3_lost 6 (some .int), Cond.fieldLink RX3 16 "BrakeCurve" "trial" "LBrakeCurve$Line;", Cond.fieldLink RX3 10 "BrakeCurve" "line" "LBrakeCurve$Line;", Cond.fieldLink RX3 31 "BrakeCurve$Line" "track" "LBrakeCurve$Track;", Cond.fieldLink RX3 35 "BrakeCurve$Track" "limits" "[I", Cond.methodLink RX3 77 yX3_needTrain, Cond.instanceMethod yX3_needTrain, Cond.selects RX3 yX3_needTrain yX3_needTrain, Cond.code yX3_needTrain cX3_needTrain 2 none, Cond.fieldLink RX3 67 "BrakeCurve$Line" "trainCount" "I", Cond.methodLink RX3 99 yX3_needIndex, Cond.static yX3_needIndex, Cond.code yX3_needIndex cX3_needIndex 2 none, Cond.classLink RX3 220 "java/lang/IndexOutOfBoundsException", Cond.initialized "java/lang/IndexOutOfBoundsException", Cond.methodLink RX3 19 yX3_needSection, Cond.static yX3_needSection, Cond.code yX3_needSection cX3_needSection 1 none]
def wsL_lost_r2 : List Cond := [Cond.methodLink RX3 23 yX3_isWithin, Cond.static yX3_isWithin, Cond.code yX3_isWithin cX3_isWithin 3 (some .boolean), Cond.methodLink RX3 27 yX3_need, Cond.static yX3_need, Cond.code yX3_need cX3_need 1 none, Cond.classLink RX3 227 "java/lang/IllegalArgumentException", Cond.initialized "java/lang/IllegalArgumentException", Cond.methodLink RX3 171 yX0_copyFrom, Cond.instanceMethod yX0_copyFrom, Cond.selects RX0 yX0_copyFrom yX0_copyFrom, Cond.initialized RX0, Cond.code yX0_copyFrom cX0_copyFrom 3 none, Cond.fieldLink RX0 12 "BrakeCurve$Line" "track" "LBrakeCurve$Track;", Cond.fieldLink RX0 20 "BrakeCurve$Line" "trains" "[LBrakeCurve$Train;", Cond.fieldLink RX0 24 "BrakeCurve$Line" "trainCount" "I", Cond.fieldLink RX0 28 "BrakeCurve$Line" "now" "I", Cond.methodLink RX0 32 yX1_copyFrom, Cond.instanceMethod yX1_copyFrom, Cond.selects RX1 yX1_copyFrom yX1_copyFrom, Cond.initialized RX1, Cond.code yX1_copyFrom cX1_copyFrom 3 none, Cond.fieldLink RX1 9 "BrakeCurve$Track" "limits" "[I", Cond.fieldLink RX1 15 "BrakeCurve$Track" "grades" "[I"]
def wsL_lost_r3 : List Cond := [Cond.fieldLink RX1 18 "BrakeCurve$Track" "radios" "[Z", Cond.fieldLink RX1 22 "BrakeCurve$Track" "stationMetres" "[I", Cond.fieldLink RX1 25 "BrakeCurve$Track" "dwells" "[I", Cond.fieldLink RX1 28 "BrakeCurve$Track" "stopCounts" "[I", Cond.fieldLink RX1 31 "BrakeCurve$Track" "stationCount" "I", Cond.fieldLink RX1 35 "BrakeCurve$Track" "worksFirst" "[I", Cond.fieldLink RX1 38 "BrakeCurve$Track" "worksLast" "[I", Cond.fieldLink RX1 41 "BrakeCurve$Track" "worksCount" "I", Cond.methodLink RX0 36 yX2_copyFrom, Cond.instanceMethod yX2_copyFrom, Cond.selects RX2 yX2_copyFrom yX2_copyFrom, Cond.initialized RX2, Cond.code yX2_copyFrom cX2_copyFrom 2 none, Cond.fieldLink RX2 9 "BrakeCurve$Train" "length" "I", Cond.fieldLink RX2 15 "BrakeCurve$Train" "brake" "I", Cond.fieldLink RX2 18 "BrakeCurve$Train" "pull" "I", Cond.fieldLink RX2 21 "BrakeCurve$Train" "whole" "Z", Cond.fieldLink RX2 25 "BrakeCurve$Train" "head" "I", Cond.fieldLink RX2 28 "BrakeCurve$Train" "speed" "I", Cond.fieldLink RX2 31 "BrakeCurve$Train" "authority" "I", Cond.fieldLink RX2 34 "BrakeCurve$Train" "dwellLeft" "I", Cond.fieldLink RX2 37 "BrakeCurve$Train" "stationsToCome" "I", Cond.fieldLink RX2 40 "BrakeCurve$Train" "left" "Z", Cond.fieldLink RX2 43 "BrakeCurve$Train" "crashed" "Z"]
def wsL_lost_r4 : List Cond := [Cond.fieldLink RX2 46 "BrakeCurve$Train" "knownHead" "I", Cond.fieldLink RX2 49 "BrakeCurve$Train" "knownRear" "I", Cond.fieldLink RX2 52 "BrakeCurve$Train" "reportSecond" "I", Cond.fieldLink RX2 55 "BrakeCurve$Train" "brakedSeconds" "I", Cond.fieldLink RX2 58 "BrakeCurve$Train" "overrunSeconds" "I", Cond.fieldLink RX2 61 "BrakeCurve$Train" "missedStations" "I", Cond.fieldLink RX2 65 "BrakeCurve$Train" "leastGap" "I", Cond.methodLink RX3 182 yX3_headAfterTrial, Cond.instanceMethod yX3_headAfterTrial, Cond.selects RX3 yX3_headAfterTrial yX3_headAfterTrial, Cond.code yX3_headAfterTrial cX3_headAfterTrial 4 (some .int), Cond.fieldLink RX3 80 "BrakeCurve$Line" "trains" "[LBrakeCurve$Train;", Cond.fieldLink RX3 168 "BrakeCurve$Train" "head" "I", Cond.methodLink RX3 107 yX0_goOn, Cond.instanceMethod yX0_goOn, Cond.selects RX0 yX0_goOn yX0_goOn, Cond.code yX0_goOn cX0_goOn 3 (some .int), Cond.fieldLink RX0 65 "BrakeCurve$Train" "left" "Z", Cond.fieldLink RX0 48 "BrakeCurve$Train" "head" "I", Cond.methodLink RX0 102 Lib.Math.max.name, Cond.static Lib.Math.max.name, Cond.initialized "java/lang/Math", Cond.code Lib.Math.max.name Lib.Math.max.code 2 (some .int), Cond.fieldLink RX0 51 "BrakeCurve$Train" "authority" "I"]
def wsL_lost_r5 : List Cond := [Cond.fieldLink RX0 73 "BrakeCurve$Train" "crashed" "Z", Cond.methodLink RX0 159 yX0_reportAll, Cond.instanceMethod yX0_reportAll, Cond.selects RX0 yX0_reportAll yX0_reportAll, Cond.code yX0_reportAll cX0_reportAll 3 none, Cond.methodLink RX0 162 yX0_hasRadio, Cond.instanceMethod yX0_hasRadio, Cond.selects RX0 yX0_hasRadio yX0_hasRadio, Cond.code yX0_hasRadio cX0_hasRadio 2 (some .boolean), Cond.fieldLink RX0 174 "BrakeCurve$Track" "radios" "[Z", Cond.static yX3_sectionAt, Cond.code yX3_sectionAt cX3_sectionAt 1 (some .int), Cond.methodLink RX0 61 yX2_report, Cond.instanceMethod yX2_report, Cond.selects RX2 yX2_report yX2_report, Cond.code yX2_report cX2_report 2 none, Cond.methodLink RX2 72 yX2_rear, Cond.instanceMethod yX2_rear, Cond.selects RX2 yX2_rear yX2_rear, Cond.code yX2_rear cX2_rear 1 (some .int), Cond.methodLink RX0 153 yX0_leastBound, Cond.instanceMethod yX0_leastBound, Cond.selects RX0 yX0_leastBound yX0_leastBound, Cond.code yX0_leastBound cX0_leastBound 3 (some .int)]
def wsL_lost_r6 : List Cond := [Cond.methodLink RX0 114 Lib.Math.min.name, Cond.static Lib.Math.min.name, Cond.code Lib.Math.min.name Lib.Math.min.code 2 (some .int), Cond.methodLink RX0 144 yX0_boundByEnd, Cond.instanceMethod yX0_boundByEnd, Cond.selects RX0 yX0_boundByEnd yX0_boundByEnd, Cond.code yX0_boundByEnd cX0_boundByEnd 2 (some .int), Cond.fieldLink RX0 39 "BrakeCurve$Train" "length" "I", Cond.methodLink RX0 147 yX0_boundByAhead, Cond.instanceMethod yX0_boundByAhead, Cond.selects RX0 yX0_boundByAhead yX0_boundByAhead, Cond.code yX0_boundByAhead cX0_boundByAhead 4 (some .int), Cond.constant RX0 133 (1000000), Cond.fieldLink RX0 134 "BrakeCurve$Train" "knownRear" "I", Cond.methodLink RX0 130 yX0_aheadOf, Cond.instanceMethod yX0_aheadOf, Cond.selects RX0 yX0_aheadOf yX0_aheadOf, Cond.code yX0_aheadOf cX0_aheadOf 3 (some .int), Cond.methodLink RX0 137 yX0_isFresh, Cond.instanceMethod yX0_isFresh, Cond.selects RX0 yX0_isFresh yX0_isFresh, Cond.code yX0_isFresh cX0_isFresh 2 (some .boolean), Cond.fieldLink RX0 127 "BrakeCurve$Train" "reportSecond" "I", Cond.static yX3_firstMetreOf]
def wsL_lost_r7 : List Cond := [Cond.code yX3_firstMetreOf cX3_firstMetreOf 1 (some .int), Cond.methodLink RX0 150 yX1_boundByWorks, Cond.instanceMethod yX1_boundByWorks, Cond.selects RX1 yX1_boundByWorks yX1_boundByWorks, Cond.code yX1_boundByWorks cX1_boundByWorks 5 (some .int), Cond.constant RX1 58 (1000000), Cond.methodLink RX1 48 Lib.Math.min.name, Cond.methodLink RX0 165 yX0_go, Cond.instanceMethod yX0_go, Cond.selects RX0 yX0_go yX0_go, Cond.code yX0_go cX0_go 3 none, Cond.fieldLink RX0 178 "BrakeCurve$Train" "dwellLeft" "I", Cond.fieldLink RX0 80 "BrakeCurve$Train" "speed" "I", Cond.fieldLink RX0 45 "BrakeCurve$Train" "pull" "I", Cond.fieldLink RX0 83 "BrakeCurve$Train" "brakedSeconds" "I", Cond.methodLink RX0 181 yX0_allowedSpeed, Cond.instanceMethod yX0_allowedSpeed, Cond.selects RX0 yX0_allowedSpeed yX0_allowedSpeed, Cond.code yX0_allowedSpeed cX0_allowedSpeed 6 (some .int), Cond.fieldLink RX0 58 "BrakeCurve$Train" "stationsToCome" "I", Cond.fieldLink RX0 111 "BrakeCurve$Track" "stationMetres" "[I", Cond.methodLink RX0 108 yX1_nextStation, Cond.instanceMethod yX1_nextStation, Cond.selects RX1 yX1_nextStation yX1_nextStation]
def wsL_lost_r8 : List Cond := [Cond.code yX1_nextStation cX1_nextStation 5 (some .int), Cond.methodLink RX0 117 yX0_holdOf, Cond.instanceMethod yX0_holdOf, Cond.selects RX0 yX0_holdOf yX0_holdOf, Cond.code yX0_holdOf cX0_holdOf 2 (some .int), Cond.fieldLink RX0 42 "BrakeCurve$Train" "brake" "I", Cond.fieldLink RX0 95 "BrakeCurve$Track" "grades" "[I", Cond.methodLink RX0 69 yX2_rear, Cond.methodLink RX0 121 yX1_leastLimit, Cond.instanceMethod yX1_leastLimit, Cond.selects RX1 yX1_leastLimit yX1_leastLimit, Cond.code yX1_leastLimit cX1_leastLimit 6 (some .int), Cond.static yX3_stopMetres, Cond.code yX3_stopMetres cX3_stopMetres 3 (some .int), Cond.methodLink RX0 184 yX0_stopAtStation, Cond.instanceMethod yX0_stopAtStation, Cond.selects RX0 yX0_stopAtStation yX0_stopAtStation, Cond.code yX0_stopAtStation cX0_stopAtStation 3 none, Cond.fieldLink RX0 190 "BrakeCurve$Track" "dwells" "[I", Cond.fieldLink RX0 193 "BrakeCurve$Track" "stopCounts" "[I", Cond.methodLink RX0 187 yX0_missStations, Cond.instanceMethod yX0_missStations, Cond.selects RX0 yX0_missStations yX0_missStations, Cond.code yX0_missStations cX0_missStations 3 none]
def wsL_lost_r9 : List Cond := [Cond.fieldLink RX0 89 "BrakeCurve$Train" "missedStations" "I", Cond.methodLink RX0 54 yX1_stationsFrom, Cond.instanceMethod yX1_stationsFrom, Cond.selects RX1 yX1_stationsFrom yX1_stationsFrom, Cond.code yX1_stationsFrom cX1_stationsFrom 4 (some .int), Cond.methodLink RX0 196 yJ6_bitCount_0f7a4, Cond.static yJ6_bitCount_0f7a4, Cond.initialized RJ6, Cond.code yJ6_bitCount_0f7a4 cJ6_bitCount_0f7a4 1 (some .int), Cond.constant RJ6 265 (1431655765), Cond.constant RJ6 266 (858993459), Cond.constant RJ6 267 (252645135), Cond.methodLink RX0 168 yX0_look, Cond.instanceMethod yX0_look, Cond.selects RX0 yX0_look yX0_look, Cond.code yX0_look cX0_look 5 none, Cond.fieldLink RX0 86 "BrakeCurve$Train" "overrunSeconds" "I", Cond.fieldLink RX0 201 "BrakeCurve$Train" "leastGap" "I", Cond.methodLink RX0 204 yX2_crash, Cond.instanceMethod yX2_crash, Cond.selects RX2 yX2_crash yX2_crash, Cond.code yX2_crash cX2_crash 1 none, Cond.methodLink RX0 171 yX0_leaveAll, Cond.instanceMethod yX0_leaveAll]
def wsL_lost_r10 : List Cond := [Cond.selects RX0 yX0_leaveAll yX0_leaveAll, Cond.code yX0_leaveAll cX0_leaveAll 4 (some .int)]
def wsL_lost : List Cond := .codeWith yL_lost cL_lost 7 (some .int) [(0, 14, 17, 13), (0, 14, 21, 15)] :: ((wsL_lost_r1 ++ (wsL_lost_r2 ++ (wsL_lost_r3 ++ (wsL_lost_r4 ++ (wsL_lost_r5 ++ (wsL_lost_r6 ++ (wsL_lost_r7 ++ (wsL_lost_r8 ++ (wsL_lost_r9 ++ wsL_lost_r10))))))))) ++ wsX30 ++ wsX00 ++ wsX10 ++ wsX20 ++ (vx_atS RX3 224 "java/lang/IndexOutOfBoundsException" ["java/lang/RuntimeException", "java/lang/Exception"]).filter goodWord ++ (vx_atS RX3 231 "java/lang/IllegalArgumentException" ["java/lang/RuntimeException", "java/lang/Exception"]).filter goodWord)
def wsL_worksIn_r1 : List Cond := [Cond.classLink RL 13 "java/lang/IndexOutOfBoundsException", Cond.classLink RL 15 "java/lang/IllegalArgumentException", Cond.methodLink RL 72 yX3_worksIn, Cond.instanceMethod yX3_worksIn, Cond.selects RX3 yX3_worksIn yX3_worksIn, Cond.initialized RX3, Cond.code yX3_worksIn cX3_worksIn 5 (some .int), Cond.fieldLink RX3 16 "BrakeCurve" "trial" "LBrakeCurve$Line;", Cond.fieldLink RX3 10 "BrakeCurve" "line" "LBrakeCurve$Line;", Cond.methodLink RX3 19 yX3_needSection, Cond.static yX3_needSection, Cond.code yX3_needSection cX3_needSection 1 none, Cond.methodLink RX3 99 yX3_needIndex, Cond.static yX3_needIndex, Cond.code yX3_needIndex cX3_needIndex 2 none, Cond.classLink RX3 220 "java/lang/IndexOutOfBoundsException", Cond.initialized "java/lang/IndexOutOfBoundsException", Cond.methodLink RX3 23 yX3_isWithin, Cond.static yX3_isWithin, Cond.code yX3_isWithin cX3_isWithin 3 (some .boolean), Cond.methodLink RX3 27 yX3_need, Cond.static yX3_need, Cond.code yX3_need cX3_need 1 none, Cond.classLink RX3 227 "java/lang/IllegalArgumentException"]
def wsL_worksIn_r2 : List Cond := [Cond.initialized "java/lang/IllegalArgumentException", Cond.methodLink RX3 171 yX0_copyFrom, Cond.instanceMethod yX0_copyFrom, Cond.selects RX0 yX0_copyFrom yX0_copyFrom, Cond.initialized RX0, Cond.code yX0_copyFrom cX0_copyFrom 3 none, Cond.fieldLink RX0 12 "BrakeCurve$Line" "track" "LBrakeCurve$Track;", Cond.fieldLink RX0 20 "BrakeCurve$Line" "trains" "[LBrakeCurve$Train;", Cond.fieldLink RX0 24 "BrakeCurve$Line" "trainCount" "I", Cond.fieldLink RX0 28 "BrakeCurve$Line" "now" "I", Cond.methodLink RX0 32 yX1_copyFrom, Cond.instanceMethod yX1_copyFrom, Cond.selects RX1 yX1_copyFrom yX1_copyFrom, Cond.initialized RX1, Cond.code yX1_copyFrom cX1_copyFrom 3 none, Cond.fieldLink RX1 9 "BrakeCurve$Track" "limits" "[I", Cond.fieldLink RX1 15 "BrakeCurve$Track" "grades" "[I", Cond.fieldLink RX1 18 "BrakeCurve$Track" "radios" "[Z", Cond.fieldLink RX1 22 "BrakeCurve$Track" "stationMetres" "[I", Cond.fieldLink RX1 25 "BrakeCurve$Track" "dwells" "[I", Cond.fieldLink RX1 28 "BrakeCurve$Track" "stopCounts" "[I", Cond.fieldLink RX1 31 "BrakeCurve$Track" "stationCount" "I", Cond.fieldLink RX1 35 "BrakeCurve$Track" "worksFirst" "[I", Cond.fieldLink RX1 38 "BrakeCurve$Track" "worksLast" "[I"]
def wsL_worksIn_r3 : List Cond := [Cond.fieldLink RX1 41 "BrakeCurve$Track" "worksCount" "I", Cond.methodLink RX0 36 yX2_copyFrom, Cond.instanceMethod yX2_copyFrom, Cond.selects RX2 yX2_copyFrom yX2_copyFrom, Cond.initialized RX2, Cond.code yX2_copyFrom cX2_copyFrom 2 none, Cond.fieldLink RX2 9 "BrakeCurve$Train" "length" "I", Cond.fieldLink RX2 15 "BrakeCurve$Train" "brake" "I", Cond.fieldLink RX2 18 "BrakeCurve$Train" "pull" "I", Cond.fieldLink RX2 21 "BrakeCurve$Train" "whole" "Z", Cond.fieldLink RX2 25 "BrakeCurve$Train" "head" "I", Cond.fieldLink RX2 28 "BrakeCurve$Train" "speed" "I", Cond.fieldLink RX2 31 "BrakeCurve$Train" "authority" "I", Cond.fieldLink RX2 34 "BrakeCurve$Train" "dwellLeft" "I", Cond.fieldLink RX2 37 "BrakeCurve$Train" "stationsToCome" "I", Cond.fieldLink RX2 40 "BrakeCurve$Train" "left" "Z", Cond.fieldLink RX2 43 "BrakeCurve$Train" "crashed" "Z", Cond.fieldLink RX2 46 "BrakeCurve$Train" "knownHead" "I", Cond.fieldLink RX2 49 "BrakeCurve$Train" "knownRear" "I", Cond.fieldLink RX2 52 "BrakeCurve$Train" "reportSecond" "I", Cond.fieldLink RX2 55 "BrakeCurve$Train" "brakedSeconds" "I", Cond.fieldLink RX2 58 "BrakeCurve$Train" "overrunSeconds" "I", Cond.fieldLink RX2 61 "BrakeCurve$Train" "missedStations" "I", Cond.fieldLink RX2 65 "BrakeCurve$Train" "leastGap" "I"]
def wsL_worksIn_r4 : List Cond := [Cond.methodLink RX3 93 yX0_hindranceOfWorks, Cond.instanceMethod yX0_hindranceOfWorks, Cond.selects RX0 yX0_hindranceOfWorks yX0_hindranceOfWorks, Cond.code yX0_hindranceOfWorks cX0_hindranceOfWorks 6 (some .int), Cond.fieldLink RX0 65 "BrakeCurve$Train" "left" "Z", Cond.fieldLink RX0 48 "BrakeCurve$Train" "head" "I", Cond.fieldLink RX0 51 "BrakeCurve$Train" "authority" "I", Cond.methodLink RX0 156 yX0_countOn, Cond.instanceMethod yX0_countOn, Cond.selects RX0 yX0_countOn yX0_countOn, Cond.code yX0_countOn cX0_countOn 6 (some .int), Cond.methodLink RX0 76 yX2_isOn, Cond.instanceMethod yX2_isOn, Cond.selects RX2 yX2_isOn yX2_isOn, Cond.code yX2_isOn cX2_isOn 3 (some .boolean), Cond.static yX3_sectionAt, Cond.code yX3_sectionAt cX3_sectionAt 1 (some .int), Cond.methodLink RX2 72 yX2_rear, Cond.instanceMethod yX2_rear, Cond.selects RX2 yX2_rear yX2_rear, Cond.code yX2_rear cX2_rear 1 (some .int), Cond.static yX3_firstMetreOf, Cond.code yX3_firstMetreOf cX3_firstMetreOf 1 (some .int), Cond.methodLink RX3 107 yX0_goOn]
def wsL_worksIn_r5 : List Cond := [Cond.instanceMethod yX0_goOn, Cond.selects RX0 yX0_goOn yX0_goOn, Cond.code yX0_goOn cX0_goOn 3 (some .int), Cond.methodLink RX0 102 Lib.Math.max.name, Cond.static Lib.Math.max.name, Cond.initialized "java/lang/Math", Cond.code Lib.Math.max.name Lib.Math.max.code 2 (some .int), Cond.fieldLink RX0 73 "BrakeCurve$Train" "crashed" "Z", Cond.methodLink RX0 159 yX0_reportAll, Cond.instanceMethod yX0_reportAll, Cond.selects RX0 yX0_reportAll yX0_reportAll, Cond.code yX0_reportAll cX0_reportAll 3 none, Cond.methodLink RX0 162 yX0_hasRadio, Cond.instanceMethod yX0_hasRadio, Cond.selects RX0 yX0_hasRadio yX0_hasRadio, Cond.code yX0_hasRadio cX0_hasRadio 2 (some .boolean), Cond.fieldLink RX0 174 "BrakeCurve$Track" "radios" "[Z", Cond.methodLink RX0 61 yX2_report, Cond.instanceMethod yX2_report, Cond.selects RX2 yX2_report yX2_report, Cond.code yX2_report cX2_report 2 none, Cond.methodLink RX0 153 yX0_leastBound, Cond.instanceMethod yX0_leastBound, Cond.selects RX0 yX0_leastBound yX0_leastBound]
def wsL_worksIn_r6 : List Cond := [Cond.code yX0_leastBound cX0_leastBound 3 (some .int), Cond.methodLink RX0 114 Lib.Math.min.name, Cond.static Lib.Math.min.name, Cond.code Lib.Math.min.name Lib.Math.min.code 2 (some .int), Cond.methodLink RX0 144 yX0_boundByEnd, Cond.instanceMethod yX0_boundByEnd, Cond.selects RX0 yX0_boundByEnd yX0_boundByEnd, Cond.code yX0_boundByEnd cX0_boundByEnd 2 (some .int), Cond.fieldLink RX0 39 "BrakeCurve$Train" "length" "I", Cond.methodLink RX0 147 yX0_boundByAhead, Cond.instanceMethod yX0_boundByAhead, Cond.selects RX0 yX0_boundByAhead yX0_boundByAhead, Cond.code yX0_boundByAhead cX0_boundByAhead 4 (some .int), Cond.constant RX0 133 (1000000), Cond.fieldLink RX0 134 "BrakeCurve$Train" "knownRear" "I", Cond.methodLink RX0 130 yX0_aheadOf, Cond.instanceMethod yX0_aheadOf, Cond.selects RX0 yX0_aheadOf yX0_aheadOf, Cond.code yX0_aheadOf cX0_aheadOf 3 (some .int), Cond.methodLink RX0 137 yX0_isFresh, Cond.instanceMethod yX0_isFresh, Cond.selects RX0 yX0_isFresh yX0_isFresh, Cond.code yX0_isFresh cX0_isFresh 2 (some .boolean), Cond.fieldLink RX0 127 "BrakeCurve$Train" "reportSecond" "I"]
def wsL_worksIn_r7 : List Cond := [Cond.methodLink RX0 150 yX1_boundByWorks, Cond.instanceMethod yX1_boundByWorks, Cond.selects RX1 yX1_boundByWorks yX1_boundByWorks, Cond.code yX1_boundByWorks cX1_boundByWorks 5 (some .int), Cond.constant RX1 58 (1000000), Cond.methodLink RX1 48 Lib.Math.min.name, Cond.methodLink RX0 165 yX0_go, Cond.instanceMethod yX0_go, Cond.selects RX0 yX0_go yX0_go, Cond.code yX0_go cX0_go 3 none, Cond.fieldLink RX0 178 "BrakeCurve$Train" "dwellLeft" "I", Cond.fieldLink RX0 80 "BrakeCurve$Train" "speed" "I", Cond.fieldLink RX0 45 "BrakeCurve$Train" "pull" "I", Cond.fieldLink RX0 83 "BrakeCurve$Train" "brakedSeconds" "I", Cond.methodLink RX0 181 yX0_allowedSpeed, Cond.instanceMethod yX0_allowedSpeed, Cond.selects RX0 yX0_allowedSpeed yX0_allowedSpeed, Cond.code yX0_allowedSpeed cX0_allowedSpeed 6 (some .int), Cond.fieldLink RX0 58 "BrakeCurve$Train" "stationsToCome" "I", Cond.fieldLink RX0 111 "BrakeCurve$Track" "stationMetres" "[I", Cond.methodLink RX0 108 yX1_nextStation, Cond.instanceMethod yX1_nextStation, Cond.selects RX1 yX1_nextStation yX1_nextStation, Cond.code yX1_nextStation cX1_nextStation 5 (some .int)]
def wsL_worksIn_r8 : List Cond := [Cond.methodLink RX0 117 yX0_holdOf, Cond.instanceMethod yX0_holdOf, Cond.selects RX0 yX0_holdOf yX0_holdOf, Cond.code yX0_holdOf cX0_holdOf 2 (some .int), Cond.fieldLink RX0 42 "BrakeCurve$Train" "brake" "I", Cond.fieldLink RX0 95 "BrakeCurve$Track" "grades" "[I", Cond.methodLink RX0 69 yX2_rear, Cond.methodLink RX0 121 yX1_leastLimit, Cond.instanceMethod yX1_leastLimit, Cond.selects RX1 yX1_leastLimit yX1_leastLimit, Cond.code yX1_leastLimit cX1_leastLimit 6 (some .int), Cond.static yX3_stopMetres, Cond.code yX3_stopMetres cX3_stopMetres 3 (some .int), Cond.methodLink RX0 184 yX0_stopAtStation, Cond.instanceMethod yX0_stopAtStation, Cond.selects RX0 yX0_stopAtStation yX0_stopAtStation, Cond.code yX0_stopAtStation cX0_stopAtStation 3 none, Cond.fieldLink RX0 190 "BrakeCurve$Track" "dwells" "[I", Cond.fieldLink RX0 193 "BrakeCurve$Track" "stopCounts" "[I", Cond.methodLink RX0 187 yX0_missStations, Cond.instanceMethod yX0_missStations, Cond.selects RX0 yX0_missStations yX0_missStations, Cond.code yX0_missStations cX0_missStations 3 none, Cond.fieldLink RX0 89 "BrakeCurve$Train" "missedStations" "I"]
def wsL_worksIn_r9 : List Cond := [Cond.methodLink RX0 54 yX1_stationsFrom, Cond.instanceMethod yX1_stationsFrom, Cond.selects RX1 yX1_stationsFrom yX1_stationsFrom, Cond.code yX1_stationsFrom cX1_stationsFrom 4 (some .int), Cond.methodLink RX0 196 yJ6_bitCount_0f7a4, Cond.static yJ6_bitCount_0f7a4, Cond.initialized RJ6, Cond.code yJ6_bitCount_0f7a4 cJ6_bitCount_0f7a4 1 (some .int), Cond.constant RJ6 265 (1431655765), Cond.constant RJ6 266 (858993459), Cond.constant RJ6 267 (252645135), Cond.methodLink RX0 168 yX0_look, Cond.instanceMethod yX0_look, Cond.selects RX0 yX0_look yX0_look, Cond.code yX0_look cX0_look 5 none, Cond.fieldLink RX0 86 "BrakeCurve$Train" "overrunSeconds" "I", Cond.fieldLink RX0 201 "BrakeCurve$Train" "leastGap" "I", Cond.methodLink RX0 204 yX2_crash, Cond.instanceMethod yX2_crash, Cond.selects RX2 yX2_crash yX2_crash, Cond.code yX2_crash cX2_crash 1 none, Cond.methodLink RX0 171 yX0_leaveAll, Cond.instanceMethod yX0_leaveAll, Cond.selects RX0 yX0_leaveAll yX0_leaveAll]
def wsL_worksIn_r10 : List Cond := [Cond.code yX0_leaveAll cX0_leaveAll 4 (some .int)]
def wsL_worksIn : List Cond := .codeWith yL_worksIn cL_worksIn 6 (some .int) [(0, 12, 15, 13), (0, 12, 19, 15)] :: ((wsL_worksIn_r1 ++ (wsL_worksIn_r2 ++ (wsL_worksIn_r3 ++ (wsL_worksIn_r4 ++ (wsL_worksIn_r5 ++ (wsL_worksIn_r6 ++ (wsL_worksIn_r7 ++ (wsL_worksIn_r8 ++ (wsL_worksIn_r9 ++ wsL_worksIn_r10))))))))) ++ wsX30 ++ wsX00 ++ wsX10 ++ wsX20 ++ (vx_atS RX3 224 "java/lang/IndexOutOfBoundsException" ["java/lang/RuntimeException", "java/lang/Exception"]).filter goodWord ++ (vx_atS RX3 231 "java/lang/IllegalArgumentException" ["java/lang/RuntimeException", "java/lang/Exception"]).filter goodWord)
def wsL_law0_r1 : List Cond := [Cond.classLink RL 8 RX3, Cond.instantiable RX3 2, Cond.initialized RX3, Cond.classLink RL 76 RX5, Cond.instantiable RX5 3, Cond.initialized RX5, Cond.arrayClass .long, Cond.methodLink RL 75 yX3_init, Cond.instanceMethod yX3_init, Cond.code yX3_init cX3_init 1 none, Cond.methodLink RX3 1 objectInit, Cond.instanceMethod objectInit, Cond.code objectInit ⟨#[0xb1]⟩ 1 none, Cond.classLink RX3 7 RX0, Cond.instantiable RX0 4, Cond.initialized RX0, Cond.fieldLink RX3 10 "BrakeCurve" "line" "LBrakeCurve$Line;", Cond.fieldLink RX3 16 "BrakeCurve" "trial" "LBrakeCurve$Line;", Cond.methodLink RX3 9 yX0_init, Cond.instanceMethod yX0_init, Cond.code yX0_init cX0_init 2 none, Cond.methodLink RX0 3 objectInit, Cond.classLink RX0 9 RX1, Cond.instantiable RX1 10]
def wsL_law0_r2 : List Cond := [Cond.initialized RX1, Cond.fieldLink RX0 12 "BrakeCurve$Line" "track" "LBrakeCurve$Track;", Cond.classLink RX0 18 RX2, Cond.fieldLink RX0 20 "BrakeCurve$Line" "trains" "[LBrakeCurve$Train;", Cond.fieldLink RX0 24 "BrakeCurve$Line" "trainCount" "I", Cond.fieldLink RX0 28 "BrakeCurve$Line" "now" "I", Cond.instantiable RX2 18, Cond.initialized RX2, Cond.methodLink RX0 11 yX1_init, Cond.instanceMethod yX1_init, Cond.code yX1_init cX1_init 2 none, Cond.methodLink RX1 3 objectInit, Cond.arrayClass .int, Cond.fieldLink RX1 9 "BrakeCurve$Track" "limits" "[I", Cond.fieldLink RX1 15 "BrakeCurve$Track" "grades" "[I", Cond.arrayClass .boolean, Cond.fieldLink RX1 18 "BrakeCurve$Track" "radios" "[Z", Cond.fieldLink RX1 22 "BrakeCurve$Track" "stationMetres" "[I", Cond.fieldLink RX1 25 "BrakeCurve$Track" "dwells" "[I", Cond.fieldLink RX1 28 "BrakeCurve$Track" "stopCounts" "[I", Cond.fieldLink RX1 31 "BrakeCurve$Track" "stationCount" "I", Cond.fieldLink RX1 35 "BrakeCurve$Track" "worksFirst" "[I", Cond.fieldLink RX1 38 "BrakeCurve$Track" "worksLast" "[I", Cond.fieldLink RX1 41 "BrakeCurve$Track" "worksCount" "I"]
def wsL_law0_r3 : List Cond := [Cond.instanceMethod yX2_init, Cond.code yX2_init cX2_init 1 none, Cond.methodLink RX2 3 objectInit, Cond.fieldLink RX2 9 "BrakeCurve$Train" "length" "I", Cond.fieldLink RX2 15 "BrakeCurve$Train" "brake" "I", Cond.fieldLink RX2 18 "BrakeCurve$Train" "pull" "I", Cond.fieldLink RX2 21 "BrakeCurve$Train" "whole" "Z", Cond.fieldLink RX2 25 "BrakeCurve$Train" "head" "I", Cond.fieldLink RX2 28 "BrakeCurve$Train" "speed" "I", Cond.fieldLink RX2 31 "BrakeCurve$Train" "authority" "I", Cond.fieldLink RX2 34 "BrakeCurve$Train" "dwellLeft" "I", Cond.fieldLink RX2 37 "BrakeCurve$Train" "stationsToCome" "I", Cond.fieldLink RX2 40 "BrakeCurve$Train" "left" "Z", Cond.fieldLink RX2 43 "BrakeCurve$Train" "crashed" "Z", Cond.fieldLink RX2 46 "BrakeCurve$Train" "knownHead" "I", Cond.fieldLink RX2 49 "BrakeCurve$Train" "knownRear" "I", Cond.fieldLink RX2 52 "BrakeCurve$Train" "reportSecond" "I", Cond.fieldLink RX2 55 "BrakeCurve$Train" "brakedSeconds" "I", Cond.fieldLink RX2 58 "BrakeCurve$Train" "overrunSeconds" "I", Cond.fieldLink RX2 61 "BrakeCurve$Train" "missedStations" "I", Cond.constant RX2 64 (1000000), Cond.fieldLink RX2 65 "BrakeCurve$Train" "leastGap" "I", Cond.methodLink RL 78 yX5_init, Cond.instanceMethod yX5_init]
def wsL_law0_r4 : List Cond := [Cond.code yX5_init cX5_init 1 none, Cond.methodLink RX5 1 objectInit, Cond.classLink RX5 7 RX4, Cond.instantiable RX4 7, Cond.initialized RX4, Cond.fieldLink RX5 10 "BrakeCurveModel" "line" "LBrakeCurveModel$Line;", Cond.methodLink RX5 9 yX4_init, Cond.instanceMethod yX4_init, Cond.code yX4_init cX4_init 5 none, Cond.methodLink RX4 3 objectInit, Cond.classLink RX4 9 "[[I", Cond.fieldLink RX4 11 "BrakeCurveModel$Line" "sections" "[[I", Cond.fieldLink RX4 16 "BrakeCurveModel$Line" "stations" "[[I", Cond.fieldLink RX4 19 "BrakeCurveModel$Line" "trains" "[[I", Cond.classLink RX4 22 RJx4a65c, Cond.instantiable RJx4a65c 3, Cond.initialized RJx4a65c, Cond.fieldLink RX4 25 "BrakeCurveModel$Line" "works" "Ljava/util/ArrayList;", Cond.methodLink RX4 24 yJx4a65c_init_da8c8, Cond.instanceMethod yJx4a65c_init_da8c8, Cond.code yJx4a65c_init_da8c8 cJx4a65c_init_da8c8 1 none, Cond.fieldLink RJx4a65c 39 "java/util/ArrayList" "DEFAULTCAPACITY_EMPTY_ELEMENTDATA" "[Ljava/lang/Object;", Cond.fieldLink RJx4a65c 9 "java/util/ArrayList" "elementData" "[Ljava/lang/Object;", Cond.methodLink RJx4a65c 1 yJxc12de_init_da8c8]
def wsL_law0_r5 : List Cond := [Cond.instanceMethod yJxc12de_init_da8c8, Cond.initialized RJxc12de, Cond.code yJxc12de_init_da8c8 cJxc12de_init_da8c8 1 none, Cond.fieldLink RJxc12de 7 "java/util/AbstractList" "modCount" "I", Cond.methodLink RJxc12de 1 yJxa1e45_init_da8c8, Cond.instanceMethod yJxa1e45_init_da8c8, Cond.initialized RJxa1e45, Cond.code yJxa1e45_init_da8c8 cJxa1e45_init_da8c8 1 none, Cond.methodLink RJxa1e45 1 objectInit, Cond.methodLink RL 79 yL_section, Cond.static yL_section, Cond.initialized RL, Cond.codeWith yL_section cL_section 7 (some .int) [(0, 14, 17, 13), (0, 14, 21, 15)], Cond.classLink RL 13 "java/lang/IndexOutOfBoundsException", Cond.classLink RL 15 "java/lang/IllegalArgumentException", Cond.methodLink RL 7 yX3_section, Cond.instanceMethod yX3_section, Cond.selects RX3 yX3_section yX3_section, Cond.code yX3_section cX3_section 6 (some .int), Cond.fieldLink RX3 31 "BrakeCurve$Line" "track" "LBrakeCurve$Track;", Cond.fieldLink RX3 35 "BrakeCurve$Track" "limits" "[I", Cond.fieldLink RX3 41 "BrakeCurve$Track" "grades" "[I", Cond.fieldLink RX3 44 "BrakeCurve$Track" "radios" "[Z", Cond.methodLink RX3 19 yX3_needSection]
def wsL_law0_r6 : List Cond := [Cond.static yX3_needSection, Cond.code yX3_needSection cX3_needSection 1 none, Cond.methodLink RX3 99 yX3_needIndex, Cond.static yX3_needIndex, Cond.code yX3_needIndex cX3_needIndex 2 none, Cond.classLink RX3 220 "java/lang/IndexOutOfBoundsException", Cond.initialized "java/lang/IndexOutOfBoundsException", Cond.methodLink RX3 23 yX3_isWithin, Cond.static yX3_isWithin, Cond.code yX3_isWithin cX3_isWithin 3 (some .boolean), Cond.methodLink RX3 27 yX3_need, Cond.static yX3_need, Cond.code yX3_need cX3_need 1 none, Cond.classLink RX3 227 "java/lang/IllegalArgumentException", Cond.initialized "java/lang/IllegalArgumentException", Cond.methodLink RL 84 yX5_section, Cond.instanceMethod yX5_section, Cond.selects RX5 yX5_section yX5_section, Cond.code yX5_section cX5_section 6 (some .int), Cond.fieldLink RX5 16 "BrakeCurveModel" "thrown" "I", Cond.methodLink RX5 36 yX5_isSection, Cond.static yX5_isSection, Cond.code yX5_isSection cX5_isSection 1 (some .boolean), Cond.methodLink RX5 26 yX5_is]
def wsL_law0_r7 : List Cond := [Cond.static yX5_is, Cond.code yX5_is cX5_is 3 (some .boolean), Cond.methodLink RX5 40 yX5_refuse, Cond.instanceMethod yX5_refuse, Cond.selects RX5 yX5_refuse yX5_refuse, Cond.code yX5_refuse cX5_refuse 2 (some .int), Cond.methodLink RX5 44 yX5_isLimit, Cond.static yX5_isLimit, Cond.code yX5_isLimit cX5_isLimit 1 (some .boolean), Cond.methodLink RL 85 yX5_thrown, Cond.instanceMethod yX5_thrown, Cond.selects RX5 yX5_thrown yX5_thrown, Cond.code yX5_thrown cX5_thrown 1 (some .int), Cond.methodLink RL 89 yL_station, Cond.static yL_station, Cond.codeWith yL_station cL_station 5 (some .int) [(0, 10, 13, 15), (0, 10, 17, 21)], Cond.classLink RL 21 "java/lang/IllegalStateException", Cond.methodLink RL 17 yX3_station, Cond.instanceMethod yX3_station, Cond.selects RX3 yX3_station yX3_station, Cond.code yX3_station cX3_station 3 (some .int), Cond.fieldLink RX3 52 "BrakeCurve$Track" "stationCount" "I", Cond.methodLink RX3 48 yX1_hasStationAt, Cond.instanceMethod yX1_hasStationAt]
def wsL_law0_r8 : List Cond := [Cond.selects RX1 yX1_hasStationAt yX1_hasStationAt, Cond.code yX1_hasStationAt cX1_hasStationAt 3 (some .boolean), Cond.methodLink RX3 56 yX0_countPresent, Cond.instanceMethod yX0_countPresent, Cond.selects RX0 yX0_countPresent yX0_countPresent, Cond.code yX0_countPresent cX0_countPresent 3 (some .int), Cond.fieldLink RX0 65 "BrakeCurve$Train" "left" "Z", Cond.methodLink RX3 60 yX3_needState, Cond.static yX3_needState, Cond.code yX3_needState cX3_needState 1 none, Cond.classLink RX3 232 "java/lang/IllegalStateException", Cond.initialized "java/lang/IllegalStateException", Cond.methodLink RX3 63 yX1_addStation, Cond.instanceMethod yX1_addStation, Cond.selects RX1 yX1_addStation yX1_addStation, Cond.code yX1_addStation cX1_addStation 4 (some .int), Cond.methodLink RL 92 yX5_station, Cond.instanceMethod yX5_station, Cond.selects RX5 yX5_station yX5_station, Cond.code yX5_station cX5_station 5 (some .int), Cond.methodLink RX5 57 yX5_isRunning, Cond.instanceMethod yX5_isRunning, Cond.selects RX5 yX5_isRunning yX5_isRunning, Cond.code yX5_isRunning cX5_isRunning 3 (some .boolean)]
def wsL_law0_r9 : List Cond := [Cond.methodLink RX5 51 yX4_runs, Cond.instanceMethod yX4_runs, Cond.selects RX4 yX4_runs yX4_runs, Cond.code yX4_runs cX4_runs 2 (some .boolean), Cond.methodLink RL 93 yL_train, Cond.static yL_train, Cond.codeWith yL_train cL_train 7 (some .int) [(0, 14, 17, 15), (0, 14, 21, 21)], Cond.methodLink RL 23 yX3_train, Cond.instanceMethod yX3_train, Cond.selects RX3 yX3_train yX3_train, Cond.code yX3_train cX3_train 5 (some .int), Cond.fieldLink RX3 67 "BrakeCurve$Line" "trainCount" "I", Cond.methodLink RX3 70 yX0_isFreeUpTo, Cond.instanceMethod yX0_isFreeUpTo, Cond.selects RX0 yX0_isFreeUpTo yX0_isFreeUpTo, Cond.code yX0_isFreeUpTo cX0_isFreeUpTo 3 (some .boolean), Cond.methodLink RX0 69 yX2_rear, Cond.instanceMethod yX2_rear, Cond.selects RX2 yX2_rear yX2_rear, Cond.code yX2_rear cX2_rear 1 (some .int), Cond.methodLink RX3 73 yX0_addTrain, Cond.instanceMethod yX0_addTrain, Cond.selects RX0 yX0_addTrain yX0_addTrain, Cond.code yX0_addTrain cX0_addTrain 7 (some .int)]
def wsL_law0_r10 : List Cond := [Cond.fieldLink RX0 39 "BrakeCurve$Train" "length" "I", Cond.fieldLink RX0 42 "BrakeCurve$Train" "brake" "I", Cond.fieldLink RX0 45 "BrakeCurve$Train" "pull" "I", Cond.fieldLink RX0 48 "BrakeCurve$Train" "head" "I", Cond.fieldLink RX0 51 "BrakeCurve$Train" "authority" "I", Cond.fieldLink RX0 58 "BrakeCurve$Train" "stationsToCome" "I", Cond.methodLink RX0 54 yX1_stationsFrom, Cond.instanceMethod yX1_stationsFrom, Cond.selects RX1 yX1_stationsFrom yX1_stationsFrom, Cond.code yX1_stationsFrom cX1_stationsFrom 4 (some .int), Cond.methodLink RX0 61 yX2_report, Cond.instanceMethod yX2_report, Cond.selects RX2 yX2_report yX2_report, Cond.code yX2_report cX2_report 2 none, Cond.methodLink RX2 72 yX2_rear, Cond.methodLink RL 95 yX5_train, Cond.instanceMethod yX5_train, Cond.selects RX5 yX5_train yX5_train, Cond.code yX5_train cX5_train 8 (some .int), Cond.methodLink RX5 64 yX5_rear, Cond.static yX5_rear, Cond.code yX5_rear cX5_rear 1 (some .int), Cond.methodLink RX5 71 yX4_report, Cond.instanceMethod yX4_report]
def wsL_law0_r11 : List Cond := [Cond.selects RX4 yX4_report yX4_report, Cond.code yX4_report cX4_report 2 none, Cond.fieldLink RX4 45 "BrakeCurveModel$Line" "now" "I", Cond.methodLink RL 96 yL_whole, Cond.static yL_whole, Cond.codeWith yL_whole cL_whole 5 (some .int) [(0, 17, 20, 13)], Cond.methodLink RL 26 yX3_whole, Cond.instanceMethod yX3_whole, Cond.selects RX3 yX3_whole yX3_whole, Cond.code yX3_whole cX3_whole 4 (some .boolean), Cond.fieldLink RX3 80 "BrakeCurve$Line" "trains" "[LBrakeCurve$Train;", Cond.fieldLink RX3 84 "BrakeCurve$Train" "whole" "Z", Cond.methodLink RX3 77 yX3_needTrain, Cond.instanceMethod yX3_needTrain, Cond.selects RX3 yX3_needTrain yX3_needTrain, Cond.code yX3_needTrain cX3_needTrain 2 none, Cond.methodLink RL 99 yX5_whole, Cond.instanceMethod yX5_whole, Cond.selects RX5 yX5_whole yX5_whole, Cond.code yX5_whole cX5_whole 4 (some .boolean), Cond.methodLink RX5 75 yX5_isTrain, Cond.instanceMethod yX5_isTrain, Cond.selects RX5 yX5_isTrain yX5_isTrain, Cond.code yX5_isTrain cX5_isTrain 2 (some .boolean)]
def wsL_law0_r12 : List Cond := [Cond.methodLink RL 100 yL_works, Cond.static yL_works, Cond.codeWith yL_works cL_works 5 (some .int) [(0, 10, 13, 13), (0, 10, 17, 15), (0, 10, 21, 21)], Cond.methodLink RL 30 yX3_works, Cond.instanceMethod yX3_works, Cond.selects RX3 yX3_works yX3_works, Cond.code yX3_works cX3_works 4 (some .int), Cond.fieldLink RX3 90 "BrakeCurve$Track" "worksCount" "I", Cond.methodLink RX3 93 yX0_hindranceOfWorks, Cond.instanceMethod yX0_hindranceOfWorks, Cond.selects RX0 yX0_hindranceOfWorks yX0_hindranceOfWorks, Cond.code yX0_hindranceOfWorks cX0_hindranceOfWorks 6 (some .int), Cond.methodLink RX0 156 yX0_countOn, Cond.instanceMethod yX0_countOn, Cond.selects RX0 yX0_countOn yX0_countOn, Cond.code yX0_countOn cX0_countOn 6 (some .int), Cond.methodLink RX0 76 yX2_isOn, Cond.instanceMethod yX2_isOn, Cond.selects RX2 yX2_isOn yX2_isOn, Cond.code yX2_isOn cX2_isOn 3 (some .boolean), Cond.static yX3_sectionAt, Cond.code yX3_sectionAt cX3_sectionAt 1 (some .int), Cond.static yX3_firstMetreOf, Cond.code yX3_firstMetreOf cX3_firstMetreOf 1 (some .int)]
def wsL_law0_r13 : List Cond := [Cond.methodLink RX3 96 yX1_addWorks, Cond.instanceMethod yX1_addWorks, Cond.selects RX1 yX1_addWorks yX1_addWorks, Cond.code yX1_addWorks cX1_addWorks 3 (some .int), Cond.methodLink RL 102 yX5_works, Cond.instanceMethod yX5_works, Cond.selects RX5 yX5_works yX5_works, Cond.code yX5_works cX5_works 5 (some .int), Cond.methodLink RX5 82 yJx4a65c_size_8abf5, Cond.instanceMethod yJx4a65c_size_8abf5, Cond.selects RJx4a65c yJx4a65c_size_8abf5 yJx4a65c_size_8abf5, Cond.code yJx4a65c_size_8abf5 cJx4a65c_size_8abf5 1 (some .int), Cond.fieldLink RJx4a65c 48 "java/util/ArrayList" "size" "I", Cond.methodLink RX5 88 yX4_hinders, Cond.instanceMethod yX4_hinders, Cond.selects RX4 yX4_hinders yX4_hinders, Cond.code yX4_hinders cX4_hinders 5 (some .int), Cond.fieldLink RX4 38 "BrakeCurveModel$Line" "manyTrains" "I", Cond.methodLink RX4 130 yX4_isIn, Cond.instanceMethod yX4_isIn, Cond.selects RX4 yX4_isIn yX4_isIn, Cond.code yX4_isIn cX4_isIn 4 (some .boolean), Cond.methodLink RX4 54 yX4_runs, Cond.static yX5_sectionOf]
def wsL_law0_r14 : List Cond := [Cond.code yX5_sectionOf cX5_sectionOf 1 (some .int), Cond.methodLink RX5 20 Lib.Math.min.name, Cond.static Lib.Math.min.name, Cond.initialized "java/lang/Math", Cond.code Lib.Math.min.name Lib.Math.min.code 2 (some .int), Cond.methodLink RX5 91 yJx4a65c_add_9ea2d, Cond.instanceMethod yJx4a65c_add_9ea2d, Cond.selects RJx4a65c yJx4a65c_add_9ea2d yJx4a65c_add_9ea2d, Cond.code yJx4a65c_add_9ea2d cJx4a65c_add_9ea2d 2 (some .boolean), Cond.fieldLink RJx4a65c 63 "java/util/ArrayList" "modCount" "I", Cond.sameField "java/util/ArrayList" "java/util/AbstractList" "modCount" "I", Cond.methodLink RJx4a65c 131 yJx4a65c_add_72be8, Cond.instanceMethod yJx4a65c_add_72be8, Cond.selects RJx4a65c yJx4a65c_add_72be8 yJx4a65c_add_72be8, Cond.code yJx4a65c_add_72be8 cJx4a65c_add_72be8 4 none, Cond.methodLink RJx4a65c 129 yJx4a65c_grow_d5877, Cond.instanceMethod yJx4a65c_grow_d5877, Cond.selects RJx4a65c yJx4a65c_grow_d5877 yJx4a65c_grow_d5877, Cond.code yJx4a65c_grow_d5877 cJx4a65c_grow_d5877 1 (some (.array (.object "java/lang/Object"))), Cond.methodLink RJx4a65c 69 yJx4a65c_grow_92f84, Cond.instanceMethod yJx4a65c_grow_92f84, Cond.selects RJx4a65c yJx4a65c_grow_92f84 yJx4a65c_grow_92f84, Cond.code yJx4a65c_grow_92f84 cJx4a65c_grow_92f84 4 (some (.array (.object "java/lang/Object"))), Cond.methodLink RJx4a65c 79 Lib.Math.max.name]
def wsL_law0_r15 : List Cond := [Cond.static Lib.Math.max.name, Cond.code Lib.Math.max.name Lib.Math.max.code 2 (some .int), Cond.classLink RJx4a65c 7 "java/lang/Object", Cond.methodLink RJx4a65c 73 yJ8_newLength_cabcc, Cond.static yJ8_newLength_cabcc, Cond.initialized RJ8, Cond.code yJ8_newLength_cabcc cJ8_newLength_cabcc 4 (some .int), Cond.methodLink RJ8 194 Lib.Math.max.name, Cond.constant RJ8 200 (2147483639), Cond.methodLink RJ8 201 yJ8_hugeLength_7cf53, Cond.static yJ8_hugeLength_7cf53, Cond.code yJ8_hugeLength_7cf53 cJ8_hugeLength_7cf53 3 (some .int), Cond.methodLink RJx4a65c 66 yJ7_copyOf_1904c, Cond.static yJ7_copyOf_1904c, Cond.initialized RJ7, Cond.code yJ7_copyOf_1904c cJ7_copyOf_1904c 2 (some (.array (.object "java/lang/Object"))), Cond.methodLink RJ7 86 ⟨"java/lang/Object", "getClass", "()Ljava/lang/Class;"⟩, Cond.selects "[Ljava/lang/Object;" ⟨"java/lang/Object", "getClass", "()Ljava/lang/Class;"⟩ ⟨"java/lang/Object", "getClass", "()Ljava/lang/Class;"⟩, Cond.instanceMethod ⟨"java/lang/Object", "getClass", "()Ljava/lang/Class;"⟩, Cond.native ⟨"java/lang/Object", "getClass", "()Ljava/lang/Class;"⟩, Cond.methodLink RJ7 300 yJ7_copyOf_6403c, Cond.static yJ7_copyOf_6403c, Cond.code yJ7_copyOf_6403c cJ7_copyOf_6403c 4 (some (.array (.object "java/lang/Object"))), Cond.classLink RJ7 110 "[Ljava/lang/Object;"]
def wsL_law0_r16 : List Cond := [Cond.classLink RJ7 2 "java/lang/Object", Cond.methodLink RJ7 304 Lib.Math.min.name, Cond.methodLink RJ7 150 arraycopyName, Cond.native arraycopyName, Cond.static arraycopyName, Cond.initialized "java/lang/System", Cond.methodLink RL 103 yL_end, Cond.static yL_end, Cond.codeWith yL_end cL_end 4 (some .int) [(0, 9, 12, 13)], Cond.methodLink RL 33 yX3_end, Cond.instanceMethod yX3_end, Cond.selects RX3 yX3_end yX3_end, Cond.code yX3_end cX3_end 2 (some .int), Cond.methodLink RX3 103 yX1_removeWorks, Cond.instanceMethod yX1_removeWorks, Cond.selects RX1 yX1_removeWorks yX1_removeWorks, Cond.code yX1_removeWorks cX1_removeWorks 3 (some .int), Cond.methodLink RL 106 yX5_end, Cond.instanceMethod yX5_end, Cond.selects RX5 yX5_end yX5_end, Cond.code yX5_end cX5_end 2 (some .int), Cond.methodLink RX5 95 yJx4a65c_remove_915e3, Cond.instanceMethod yJx4a65c_remove_915e3, Cond.selects RJx4a65c yJx4a65c_remove_915e3 yJx4a65c_remove_915e3]
def wsL_law0_r17 : List Cond := [Cond.code yJx4a65c_remove_915e3 cJx4a65c_remove_915e3 4 (some (.object "java/lang/Object")), Cond.methodLink RJx4a65c 118 yJ15_checkIndex_7cf53, Cond.static yJ15_checkIndex_7cf53, Cond.initialized RJ15, Cond.code yJ15_checkIndex_7cf53 cJ15_checkIndex_7cf53 2 (some .int), Cond.methodLink RJ15 105 yJ3_checkIndex_8e157, Cond.static yJ3_checkIndex_8e157, Cond.initialized RJ3, Cond.code yJ3_checkIndex_8e157 cJ3_checkIndex_8e157 3 (some .int), Cond.methodLink RJx4a65c 144 yJx4a65c_fastRemove_b59b0, Cond.instanceMethod yJx4a65c_fastRemove_b59b0, Cond.selects RJx4a65c yJx4a65c_fastRemove_b59b0 yJx4a65c_fastRemove_b59b0, Cond.code yJx4a65c_fastRemove_b59b0 cJx4a65c_fastRemove_b59b0 4 none, Cond.methodLink RJx4a65c 112 arraycopyName, Cond.methodLink RL 107 yL_pass, Cond.static yL_pass, Cond.codeWith yL_pass cL_pass 4 (some .int) [(0, 9, 12, 15)], Cond.methodLink RL 37 yX3_pass, Cond.instanceMethod yX3_pass, Cond.selects RX3 yX3_pass yX3_pass, Cond.code yX3_pass cX3_pass 4 (some .int), Cond.methodLink RX3 107 yX0_goOn, Cond.instanceMethod yX0_goOn, Cond.selects RX0 yX0_goOn yX0_goOn]
def wsL_law0_r18 : List Cond := [Cond.code yX0_goOn cX0_goOn 3 (some .int), Cond.methodLink RX0 102 Lib.Math.max.name, Cond.fieldLink RX0 73 "BrakeCurve$Train" "crashed" "Z", Cond.methodLink RX0 159 yX0_reportAll, Cond.instanceMethod yX0_reportAll, Cond.selects RX0 yX0_reportAll yX0_reportAll, Cond.code yX0_reportAll cX0_reportAll 3 none, Cond.methodLink RX0 162 yX0_hasRadio, Cond.instanceMethod yX0_hasRadio, Cond.selects RX0 yX0_hasRadio yX0_hasRadio, Cond.code yX0_hasRadio cX0_hasRadio 2 (some .boolean), Cond.fieldLink RX0 174 "BrakeCurve$Track" "radios" "[Z", Cond.methodLink RX0 153 yX0_leastBound, Cond.instanceMethod yX0_leastBound, Cond.selects RX0 yX0_leastBound yX0_leastBound, Cond.code yX0_leastBound cX0_leastBound 3 (some .int), Cond.methodLink RX0 114 Lib.Math.min.name, Cond.methodLink RX0 144 yX0_boundByEnd, Cond.instanceMethod yX0_boundByEnd, Cond.selects RX0 yX0_boundByEnd yX0_boundByEnd, Cond.code yX0_boundByEnd cX0_boundByEnd 2 (some .int), Cond.methodLink RX0 147 yX0_boundByAhead, Cond.instanceMethod yX0_boundByAhead, Cond.selects RX0 yX0_boundByAhead yX0_boundByAhead]
def wsL_law0_r19 : List Cond := [Cond.code yX0_boundByAhead cX0_boundByAhead 4 (some .int), Cond.constant RX0 133 (1000000), Cond.fieldLink RX0 134 "BrakeCurve$Train" "knownRear" "I", Cond.methodLink RX0 130 yX0_aheadOf, Cond.instanceMethod yX0_aheadOf, Cond.selects RX0 yX0_aheadOf yX0_aheadOf, Cond.code yX0_aheadOf cX0_aheadOf 3 (some .int), Cond.methodLink RX0 137 yX0_isFresh, Cond.instanceMethod yX0_isFresh, Cond.selects RX0 yX0_isFresh yX0_isFresh, Cond.code yX0_isFresh cX0_isFresh 2 (some .boolean), Cond.fieldLink RX0 127 "BrakeCurve$Train" "reportSecond" "I", Cond.methodLink RX0 150 yX1_boundByWorks, Cond.instanceMethod yX1_boundByWorks, Cond.selects RX1 yX1_boundByWorks yX1_boundByWorks, Cond.code yX1_boundByWorks cX1_boundByWorks 5 (some .int), Cond.constant RX1 58 (1000000), Cond.methodLink RX1 48 Lib.Math.min.name, Cond.methodLink RX0 165 yX0_go, Cond.instanceMethod yX0_go, Cond.selects RX0 yX0_go yX0_go, Cond.code yX0_go cX0_go 3 none, Cond.fieldLink RX0 178 "BrakeCurve$Train" "dwellLeft" "I", Cond.fieldLink RX0 80 "BrakeCurve$Train" "speed" "I"]
def wsL_law0_r20 : List Cond := [Cond.fieldLink RX0 83 "BrakeCurve$Train" "brakedSeconds" "I", Cond.methodLink RX0 181 yX0_allowedSpeed, Cond.instanceMethod yX0_allowedSpeed, Cond.selects RX0 yX0_allowedSpeed yX0_allowedSpeed, Cond.code yX0_allowedSpeed cX0_allowedSpeed 6 (some .int), Cond.fieldLink RX0 111 "BrakeCurve$Track" "stationMetres" "[I", Cond.methodLink RX0 108 yX1_nextStation, Cond.instanceMethod yX1_nextStation, Cond.selects RX1 yX1_nextStation yX1_nextStation, Cond.code yX1_nextStation cX1_nextStation 5 (some .int), Cond.methodLink RX0 117 yX0_holdOf, Cond.instanceMethod yX0_holdOf, Cond.selects RX0 yX0_holdOf yX0_holdOf, Cond.code yX0_holdOf cX0_holdOf 2 (some .int), Cond.fieldLink RX0 95 "BrakeCurve$Track" "grades" "[I", Cond.methodLink RX0 121 yX1_leastLimit, Cond.instanceMethod yX1_leastLimit, Cond.selects RX1 yX1_leastLimit yX1_leastLimit, Cond.code yX1_leastLimit cX1_leastLimit 6 (some .int), Cond.static yX3_stopMetres, Cond.code yX3_stopMetres cX3_stopMetres 3 (some .int), Cond.methodLink RX0 184 yX0_stopAtStation, Cond.instanceMethod yX0_stopAtStation, Cond.selects RX0 yX0_stopAtStation yX0_stopAtStation]
def wsL_law0_r21 : List Cond := [Cond.code yX0_stopAtStation cX0_stopAtStation 3 none, Cond.fieldLink RX0 190 "BrakeCurve$Track" "dwells" "[I", Cond.fieldLink RX0 193 "BrakeCurve$Track" "stopCounts" "[I", Cond.methodLink RX0 187 yX0_missStations, Cond.instanceMethod yX0_missStations, Cond.selects RX0 yX0_missStations yX0_missStations, Cond.code yX0_missStations cX0_missStations 3 none, Cond.fieldLink RX0 89 "BrakeCurve$Train" "missedStations" "I", Cond.methodLink RX0 196 yJ6_bitCount_0f7a4, Cond.static yJ6_bitCount_0f7a4, Cond.initialized RJ6, Cond.code yJ6_bitCount_0f7a4 cJ6_bitCount_0f7a4 1 (some .int), Cond.constant RJ6 265 (1431655765), Cond.constant RJ6 266 (858993459), Cond.constant RJ6 267 (252645135), Cond.methodLink RX0 168 yX0_look, Cond.instanceMethod yX0_look, Cond.selects RX0 yX0_look yX0_look, Cond.code yX0_look cX0_look 5 none, Cond.fieldLink RX0 86 "BrakeCurve$Train" "overrunSeconds" "I", Cond.fieldLink RX0 201 "BrakeCurve$Train" "leastGap" "I", Cond.methodLink RX0 204 yX2_crash, Cond.instanceMethod yX2_crash, Cond.selects RX2 yX2_crash yX2_crash]
def wsL_law0_r22 : List Cond := [Cond.code yX2_crash cX2_crash 1 none, Cond.methodLink RX0 171 yX0_leaveAll, Cond.instanceMethod yX0_leaveAll, Cond.selects RX0 yX0_leaveAll yX0_leaveAll, Cond.code yX0_leaveAll cX0_leaveAll 4 (some .int), Cond.methodLink RL 109 yX5_pass, Cond.instanceMethod yX5_pass, Cond.selects RX5 yX5_pass yX5_pass, Cond.code yX5_pass cX5_pass 3 (some .int), Cond.methodLink RX5 99 yX4_sum, Cond.instanceMethod yX4_sum, Cond.selects RX4 yX4_sum yX4_sum, Cond.code yX4_sum cX4_sum 4 (some .int), Cond.methodLink RX5 102 yX4_pass_, Cond.instanceMethod yX4_pass_, Cond.selects RX4 yX4_pass_ yX4_pass_, Cond.code yX4_pass_ cX4_pass_ 3 none, Cond.methodLink RX4 127 yX4_pass, Cond.instanceMethod yX4_pass, Cond.selects RX4 yX4_pass yX4_pass, Cond.code yX4_pass cX4_pass 3 none, Cond.methodLink RX4 107 yX4_hears, Cond.instanceMethod yX4_hears, Cond.selects RX4 yX4_hears yX4_hears]
def wsL_law0_r23 : List Cond := [Cond.code yX4_hears cX4_hears 2 (some .boolean), Cond.methodLink RX4 110 yX4_report, Cond.methodLink RX4 114 yX4_why, Cond.instanceMethod yX4_why, Cond.selects RX4 yX4_why yX4_why, Cond.code yX4_why cX4_why 4 (some .int), Cond.methodLink RX4 104 yX4_candidate, Cond.instanceMethod yX4_candidate, Cond.selects RX4 yX4_candidate yX4_candidate, Cond.code yX4_candidate cX4_candidate 7 (some .int), Cond.constant RX4 85 (1000000), Cond.classLink RX4 99 "[I", Cond.methodLink RX4 75 Lib.Math.min.name, Cond.methodLink RX4 86 yJx4a65c_iterator_32c93, Cond.instanceMethod yJx4a65c_iterator_32c93, Cond.selects RJx4a65c yJx4a65c_iterator_32c93 yJx4a65c_iterator_32c93, Cond.code yJx4a65c_iterator_32c93 cJx4a65c_iterator_32c93 1 (some (.object "java/util/Iterator")), Cond.classLink RJx4a65c 267 RJx35411, Cond.instantiable RJx35411 4, Cond.initialized RJx35411, Cond.methodLink RJx4a65c 269 yJx35411_init_45d68, Cond.instanceMethod yJx35411_init_45d68, Cond.code yJx35411_init_45d68 cJx35411_init_45d68 2 none, Cond.fieldLink RJx35411 1 "java/util/ArrayList$Itr" "this$0" "Ljava/util/ArrayList;"]
def wsL_law0_r24 : List Cond := [Cond.methodLink RJx35411 7 objectInit, Cond.fieldLink RJx35411 13 "java/util/ArrayList$Itr" "lastRet" "I", Cond.fieldLink RJx35411 17 "java/util/ArrayList" "modCount" "I", Cond.fieldLink RJx35411 22 "java/util/ArrayList$Itr" "expectedModCount" "I", Cond.methodLink RX4 90 ⟨"java/util/Iterator", "hasNext", "()Z"⟩, Cond.selects RJx35411 ⟨"java/util/Iterator", "hasNext", "()Z"⟩ yJx35411_hasNext_aae02, Cond.instanceMethod yJx35411_hasNext_aae02, Cond.code yJx35411_hasNext_aae02 cJx35411_hasNext_aae02 1 (some .boolean), Cond.fieldLink RJx35411 25 "java/util/ArrayList$Itr" "cursor" "I", Cond.methodLink RX4 96 ⟨"java/util/Iterator", "next", "()Ljava/lang/Object;"⟩, Cond.selects RJx35411 ⟨"java/util/Iterator", "next", "()Ljava/lang/Object;"⟩ yJx35411_next_0502b, Cond.instanceMethod yJx35411_next_0502b, Cond.code yJx35411_next_0502b cJx35411_next_0502b 3 (some (.object "java/lang/Object")), Cond.fieldLink RJx35411 37 "java/util/ArrayList" "elementData" "[Ljava/lang/Object;", Cond.methodLink RJx35411 31 yJx35411_checkForComodification_da8c8, Cond.instanceMethod yJx35411_checkForComodification_da8c8, Cond.selects RJx35411 yJx35411_checkForComodification_da8c8 yJx35411_checkForComodification_da8c8, Cond.code yJx35411_checkForComodification_da8c8 cJx35411_checkForComodification_da8c8 1 none, Cond.methodLink RX4 101 yX4_ahead, Cond.instanceMethod yX4_ahead, Cond.selects RX4 yX4_ahead yX4_ahead, Cond.code yX4_ahead cX4_ahead 2 (some .int), Cond.methodLink RX4 117 yX4_go, Cond.instanceMethod yX4_go]
def wsL_law0_r25 : List Cond := [Cond.selects RX4 yX4_go yX4_go, Cond.code yX4_go cX4_go 5 none, Cond.methodLink RX4 62 Lib.Math.max.name, Cond.fieldLink RX4 34 "BrakeCurveModel$Line" "manyStations" "I", Cond.methodLink RX4 124 yX4_may, Cond.instanceMethod yX4_may, Cond.selects RX4 yX4_may yX4_may, Cond.code yX4_may cX4_may 5 (some .int), Cond.methodLink RX4 78 yX4_next, Cond.instanceMethod yX4_next, Cond.selects RX4 yX4_next yX4_next, Cond.code yX4_next cX4_next 4 (some .int), Cond.methodLink RX4 81 yX4_stops, Cond.instanceMethod yX4_stops, Cond.selects RX4 yX4_stops yX4_stops, Cond.code yX4_stops cX4_stops 4 (some .int), Cond.methodLink RX4 68 yX4_hold, Cond.instanceMethod yX4_hold, Cond.selects RX4 yX4_hold yX4_hold, Cond.code yX4_hold cX4_hold 2 (some .int), Cond.methodLink RX4 120 yX4_look, Cond.instanceMethod yX4_look, Cond.selects RX4 yX4_look yX4_look, Cond.code yX4_look cX4_look 5 none]
def wsL_law0_r26 : List Cond := [Cond.methodLink RL 110 yL_ofSection, Cond.static yL_ofSection, Cond.codeWith yL_ofSection cL_ofSection 5 (some .int) [(0, 10, 13, 13), (0, 10, 17, 15)], Cond.methodLink RL 40 yX3_ofSection, Cond.instanceMethod yX3_ofSection, Cond.selects RX3 yX3_ofSection yX3_ofSection, Cond.code yX3_ofSection cX3_ofSection 3 (some .int), Cond.methodLink RX3 110 yX0_countOn, Cond.methodLink RX3 113 yX1_hasWorksOn, Cond.instanceMethod yX1_hasWorksOn, Cond.selects RX1 yX1_hasWorksOn yX1_hasWorksOn, Cond.code yX1_hasWorksOn cX1_hasWorksOn 3 (some .boolean), Cond.methodLink RL 112 yX5_ofSection, Cond.instanceMethod yX5_ofSection, Cond.selects RX5 yX5_ofSection yX5_ofSection, Cond.code yX5_ofSection cX5_ofSection 3 (some .int), Cond.methodLink RX5 124 yX5_ofSectionNow, Cond.instanceMethod yX5_ofSectionNow, Cond.selects RX5 yX5_ofSectionNow yX5_ofSectionNow, Cond.code yX5_ofSectionNow cX5_ofSectionNow 7 (some .int), Cond.classLink RX5 122 "[I", Cond.methodLink RX5 106 yX4_isIn, Cond.methodLink RX5 109 yJx4a65c_iterator_32c93, Cond.methodLink RX5 113 ⟨"java/util/Iterator", "hasNext", "()Z"⟩]
def wsL_law0_r27 : List Cond := [Cond.methodLink RX5 118 ⟨"java/util/Iterator", "next", "()Ljava/lang/Object;"⟩, Cond.methodLink RL 113 yL_ofTrain, Cond.static yL_ofTrain, Cond.codeWith yL_ofTrain cL_ofTrain 5 (some .int) [(0, 10, 13, 13), (0, 10, 17, 15)], Cond.methodLink RL 43 yX3_ofTrain, Cond.instanceMethod yX3_ofTrain, Cond.selects RX3 yX3_ofTrain yX3_ofTrain, Cond.code yX3_ofTrain cX3_ofTrain 3 (some .int), Cond.fieldLink RX3 116 "BrakeCurve$Train" "stationsToCome" "I", Cond.methodLink RX3 119 yX1_nextStation, Cond.methodLink RX3 122 yX0_aheadOf, Cond.methodLink RX3 125 yX2_numberNow, Cond.instanceMethod yX2_numberNow, Cond.selects RX2 yX2_numberNow yX2_numberNow, Cond.code yX2_numberNow cX2_numberNow 2 (some .int), Cond.methodLink RX3 128 yX2_numberKept, Cond.instanceMethod yX2_numberKept, Cond.selects RX2 yX2_numberKept yX2_numberKept, Cond.code yX2_numberKept cX2_numberKept 2 (some .int), Cond.methodLink RX2 76 yX2_leastGapOrNone, Cond.instanceMethod yX2_leastGapOrNone, Cond.selects RX2 yX2_leastGapOrNone yX2_leastGapOrNone, Cond.code yX2_leastGapOrNone cX2_leastGapOrNone 1 (some .int), Cond.methodLink RL 115 yX5_ofTrain]
def wsL_law0_r28 : List Cond := [Cond.instanceMethod yX5_ofTrain, Cond.selects RX5 yX5_ofTrain yX5_ofTrain, Cond.code yX5_ofTrain cX5_ofTrain 3 (some .int), Cond.methodLink RX5 132 yX5_ofTrainNow, Cond.instanceMethod yX5_ofTrainNow, Cond.selects RX5 yX5_ofTrainNow yX5_ofTrainNow, Cond.code yX5_ofTrainNow cX5_ofTrainNow 6 (some .int), Cond.methodLink RX5 127 yX4_next, Cond.methodLink RX5 129 yX4_ahead, Cond.methodLink RL 116 yL_stops, Cond.static yL_stops, Cond.codeWith yL_stops cL_stops 5 (some .int) [(0, 10, 13, 13), (0, 10, 17, 15)], Cond.methodLink RL 46 yX3_stops, Cond.instanceMethod yX3_stops, Cond.selects RX3 yX3_stops yX3_stops, Cond.code yX3_stops cX3_stops 3 (some .int), Cond.methodLink RX3 131 yX0_holdOf, Cond.methodLink RX3 135 yX3_stopMetres, Cond.methodLink RL 118 yX5_stops, Cond.instanceMethod yX5_stops, Cond.selects RX5 yX5_stops yX5_stops, Cond.code yX5_stops cX5_stops 3 (some .int), Cond.methodLink RX5 135 yX4_stops, Cond.methodLink RL 119 yL_may]
def wsL_law0_r29 : List Cond := [Cond.static yL_may, Cond.codeWith yL_may cL_may 4 (some .int) [(0, 9, 12, 13)], Cond.methodLink RL 49 yX3_may, Cond.instanceMethod yX3_may, Cond.selects RX3 yX3_may yX3_may, Cond.code yX3_may cX3_may 2 (some .int), Cond.fieldLink RX3 138 "BrakeCurve$Train" "left" "Z", Cond.methodLink RX3 141 yX0_allowedSpeed, Cond.methodLink RL 121 yX5_may, Cond.instanceMethod yX5_may, Cond.selects RX5 yX5_may yX5_may, Cond.code yX5_may cX5_may 2 (some .int), Cond.methodLink RX5 142 yX5_mayNow, Cond.instanceMethod yX5_mayNow, Cond.selects RX5 yX5_mayNow yX5_mayNow, Cond.code yX5_mayNow cX5_mayNow 2 (some .int), Cond.methodLink RX5 139 yX4_may, Cond.methodLink RL 122 yL_why, Cond.static yL_why, Cond.codeWith yL_why cL_why 4 (some .int) [(0, 9, 12, 13)], Cond.methodLink RL 52 yX3_why, Cond.instanceMethod yX3_why, Cond.selects RX3 yX3_why yX3_why, Cond.code yX3_why cX3_why 2 (some .int)]
def wsL_law0_r30 : List Cond := [Cond.methodLink RX3 144 yX0_reasonOf, Cond.instanceMethod yX0_reasonOf, Cond.selects RX0 yX0_reasonOf yX0_reasonOf, Cond.code yX0_reasonOf cX0_reasonOf 4 (some .int), Cond.methodLink RL 124 yX5_why, Cond.instanceMethod yX5_why, Cond.selects RX5 yX5_why yX5_why, Cond.code yX5_why cX5_why 2 (some .int), Cond.methodLink RX5 148 yX5_whyNow, Cond.instanceMethod yX5_whyNow, Cond.selects RX5 yX5_whyNow yX5_whyNow, Cond.code yX5_whyNow cX5_whyNow 2 (some .int), Cond.methodLink RX5 145 yX4_why, Cond.methodLink RL 125 yL_ofStation, Cond.static yL_ofStation, Cond.codeWith yL_ofStation cL_ofStation 5 (some .int) [(0, 10, 13, 13), (0, 10, 17, 15)], Cond.methodLink RL 55 yX3_ofStation, Cond.instanceMethod yX3_ofStation, Cond.selects RX3 yX3_ofStation yX3_ofStation, Cond.code yX3_ofStation cX3_ofStation 3 (some .int), Cond.fieldLink RX3 147 "BrakeCurve$Track" "stationMetres" "[I", Cond.fieldLink RX3 150 "BrakeCurve$Track" "dwells" "[I", Cond.fieldLink RX3 153 "BrakeCurve$Track" "stopCounts" "[I", Cond.methodLink RL 127 yX5_ofStation]
def wsL_law0_r31 : List Cond := [Cond.instanceMethod yX5_ofStation, Cond.selects RX5 yX5_ofStation yX5_ofStation, Cond.code yX5_ofStation cX5_ofStation 3 (some .int), Cond.methodLink RX5 151 yX5_isStation, Cond.instanceMethod yX5_isStation, Cond.selects RX5 yX5_isStation yX5_isStation, Cond.code yX5_isStation cX5_isStation 2 (some .boolean), Cond.methodLink RL 128 yL_many, Cond.static yL_many, Cond.codeWith yL_many cL_many 4 (some .int) [(0, 9, 12, 15)], Cond.methodLink RL 58 yX3_many, Cond.instanceMethod yX3_many, Cond.selects RX3 yX3_many yX3_many, Cond.code yX3_many cX3_many 2 (some .int), Cond.fieldLink RX3 156 "BrakeCurve$Line" "now" "I", Cond.methodLink RX3 159 yX0_countCrashed, Cond.instanceMethod yX0_countCrashed, Cond.selects RX0 yX0_countCrashed yX0_countCrashed, Cond.code yX0_countCrashed cX0_countCrashed 3 (some .int), Cond.methodLink RX3 162 yX0_total, Cond.instanceMethod yX0_total, Cond.selects RX0 yX0_total yX0_total, Cond.code yX0_total cX0_total 5 (some .int), Cond.methodLink RX0 92 yX2_metresGone]
def wsL_law0_r32 : List Cond := [Cond.instanceMethod yX2_metresGone, Cond.selects RX2 yX2_metresGone yX2_metresGone, Cond.code yX2_metresGone cX2_metresGone 1 (some .int), Cond.methodLink RL 130 yX5_many, Cond.instanceMethod yX5_many, Cond.selects RX5 yX5_many yX5_many, Cond.code yX5_many cX5_many 2 (some .int), Cond.methodLink RX5 154 yX5_manyNow, Cond.instanceMethod yX5_manyNow, Cond.selects RX5 yX5_manyNow yX5_manyNow, Cond.code yX5_manyNow cX5_manyNow 3 (some .int), Cond.methodLink RL 131 yX3_meanSpeed, Cond.instanceMethod yX3_meanSpeed, Cond.selects RX3 yX3_meanSpeed yX3_meanSpeed, Cond.code yX3_meanSpeed cX3_meanSpeed 2 (some .double), Cond.methodLink RX3 165 yX0_sumOfSpeeds, Cond.instanceMethod yX0_sumOfSpeeds, Cond.selects RX0 yX0_sumOfSpeeds yX0_sumOfSpeeds, Cond.code yX0_sumOfSpeeds cX0_sumOfSpeeds 3 (some .int), Cond.methodLink RL 135 yX5_meanSpeed, Cond.instanceMethod yX5_meanSpeed, Cond.selects RX5 yX5_meanSpeed yX5_meanSpeed, Cond.code yX5_meanSpeed cX5_meanSpeed 2 (some .double), Cond.methodLink RL 136 yL_reaches]
def wsL_law0_r33 : List Cond := [Cond.static yL_reaches, Cond.codeWith yL_reaches cL_reaches 6 (some .int) [(0, 12, 15, 13), (0, 12, 19, 15)], Cond.methodLink RL 61 yX3_reaches, Cond.instanceMethod yX3_reaches, Cond.selects RX3 yX3_reaches yX3_reaches, Cond.code yX3_reaches cX3_reaches 5 (some .int), Cond.fieldLink RX3 168 "BrakeCurve$Train" "head" "I", Cond.methodLink RX3 171 yX0_copyFrom, Cond.instanceMethod yX0_copyFrom, Cond.selects RX0 yX0_copyFrom yX0_copyFrom, Cond.code yX0_copyFrom cX0_copyFrom 3 none, Cond.methodLink RX0 32 yX1_copyFrom, Cond.instanceMethod yX1_copyFrom, Cond.selects RX1 yX1_copyFrom yX1_copyFrom, Cond.code yX1_copyFrom cX1_copyFrom 3 none, Cond.methodLink RX0 36 yX2_copyFrom, Cond.instanceMethod yX2_copyFrom, Cond.selects RX2 yX2_copyFrom yX2_copyFrom, Cond.code yX2_copyFrom cX2_copyFrom 2 none, Cond.methodLink RL 139 yX5_reaches, Cond.instanceMethod yX5_reaches, Cond.selects RX5 yX5_reaches yX5_reaches, Cond.code yX5_reaches cX5_reaches 4 (some .int), Cond.methodLink RX5 163 yX5_reachesNow]
def wsL_law0_r34 : List Cond := [Cond.instanceMethod yX5_reachesNow, Cond.selects RX5 yX5_reachesNow yX5_reachesNow, Cond.code yX5_reachesNow cX5_reachesNow 6 (some .int), Cond.methodLink RX5 157 yX4_copy, Cond.instanceMethod yX4_copy, Cond.selects RX4 yX4_copy yX4_copy, Cond.code yX4_copy cX4_copy 2 (some (.object "BrakeCurveModel$Line")), Cond.classLink RX4 12 RX4, Cond.methodLink RX4 29 yX4_init, Cond.methodLink RX4 30 yX4_copy_, Cond.static yX4_copy_, Cond.code yX4_copy_ cX4_copy_ 3 none, Cond.methodLink RX4 48 arraycopyName, Cond.methodLink RX4 41 yJx4a65c_addAll_f0b43, Cond.instanceMethod yJx4a65c_addAll_f0b43, Cond.selects RJx4a65c yJx4a65c_addAll_f0b43 yJx4a65c_addAll_f0b43, Cond.code yJx4a65c_addAll_f0b43 cJx4a65c_addAll_f0b43 6 (some .boolean), Cond.methodLink RJx4a65c 42 ⟨"java/util/Collection", "toArray", "()[Ljava/lang/Object;"⟩, Cond.selects RJx4a65c ⟨"java/util/Collection", "toArray", "()[Ljava/lang/Object;"⟩ yJx4a65c_toArray_d5877, Cond.instanceMethod yJx4a65c_toArray_d5877, Cond.code yJx4a65c_toArray_d5877 cJx4a65c_toArray_d5877 1 (some (.array (.object "java/lang/Object"))), Cond.methodLink RX5 161 yX4_pass, Cond.methodLink RL 140 yL_closest, Cond.static yL_closest]
def wsL_law0_r35 : List Cond := [Cond.codeWith yL_closest cL_closest 5 (some .int) [(0, 10, 13, 13), (0, 10, 17, 15)], Cond.methodLink RL 65 yX3_closest, Cond.instanceMethod yX3_closest, Cond.selects RX3 yX3_closest yX3_closest, Cond.code yX3_closest cX3_closest 5 (some .int), Cond.constant RX3 175 (1000000), Cond.fieldLink RX3 176 "BrakeCurve$Train" "leastGap" "I", Cond.methodLink RX3 179 yX2_leastGapOrNone, Cond.methodLink RL 142 yX5_closest, Cond.instanceMethod yX5_closest, Cond.selects RX5 yX5_closest yX5_closest, Cond.code yX5_closest cX5_closest 3 (some .int), Cond.methodLink RX5 167 yX5_closestNow, Cond.instanceMethod yX5_closestNow, Cond.selects RX5 yX5_closestNow yX5_closestNow, Cond.code yX5_closestNow cX5_closestNow 5 (some .int), Cond.methodLink RL 143 yL_lost, Cond.static yL_lost, Cond.codeWith yL_lost cL_lost 7 (some .int) [(0, 14, 17, 13), (0, 14, 21, 15)], Cond.methodLink RL 68 yX3_lost, Cond.instanceMethod yX3_lost, Cond.selects RX3 yX3_lost yX3_lost, Cond.code yX3_lost cX3_lost 6 (some .int), Cond.methodLink RX3 182 yX3_headAfterTrial]
def wsL_law0_r36 : List Cond := [Cond.instanceMethod yX3_headAfterTrial, Cond.selects RX3 yX3_headAfterTrial yX3_headAfterTrial, Cond.code yX3_headAfterTrial cX3_headAfterTrial 4 (some .int), Cond.methodLink RL 146 yX5_lost, Cond.instanceMethod yX5_lost, Cond.selects RX5 yX5_lost yX5_lost, Cond.code yX5_lost cX5_lost 7 (some .int), Cond.methodLink RL 147 yL_worksIn, Cond.static yL_worksIn, Cond.codeWith yL_worksIn cL_worksIn 6 (some .int) [(0, 12, 15, 13), (0, 12, 19, 15)], Cond.methodLink RL 72 yX3_worksIn, Cond.instanceMethod yX3_worksIn, Cond.selects RX3 yX3_worksIn yX3_worksIn, Cond.code yX3_worksIn cX3_worksIn 5 (some .int), Cond.methodLink RL 149 yX5_worksIn, Cond.instanceMethod yX5_worksIn, Cond.selects RX5 yX5_worksIn yX5_worksIn, Cond.code yX5_worksIn cX5_worksIn 4 (some .int), Cond.methodLink RX5 170 yX5_worksNow, Cond.instanceMethod yX5_worksNow, Cond.selects RX5 yX5_worksNow yX5_worksNow, Cond.code yX5_worksNow cX5_worksNow 6 (some .int), Cond.methodLink RL 150 yX3_digest, Cond.instanceMethod yX3_digest]
def wsL_law0_r37 : List Cond := [Cond.selects RX3 yX3_digest yX3_digest, Cond.code yX3_digest cX3_digest 5 (some .long), Cond.constantLong RX3 185 (4810), Cond.constantLong RX3 187 (31), Cond.methodLink RX3 189 yX3_many, Cond.methodLink RX3 192 yX3_ofSection, Cond.methodLink RX3 195 yX3_ofTrain, Cond.methodLink RX3 198 yX3_stops, Cond.methodLink RX3 201 yX3_may, Cond.methodLink RX3 204 yX3_why, Cond.methodLink RX3 207 yX3_reaches, Cond.methodLink RX3 211 yX3_closest, Cond.methodLink RX3 214 yX3_ofStation, Cond.methodLink RX3 217 yX3_worksIn, Cond.methodLink RL 154 yX5_digest, Cond.instanceMethod yX5_digest, Cond.selects RX5 yX5_digest yX5_digest, Cond.code yX5_digest cX5_digest 3 (some .long), Cond.constantLong RX5 178 (4810), Cond.fieldLink RX5 173 "BrakeCurveModel" "sum" "J", Cond.methodLink RX5 180 yX5_add, Cond.instanceMethod yX5_add, Cond.selects RX5 yX5_add yX5_add, Cond.code yX5_add cX5_add 2 none]
def wsL_law0_r38 : List Cond := [Cond.constantLong RX5 176 (31)]
def wsL_law0 : List Cond := (wsL_law0_r1 ++ (wsL_law0_r2 ++ (wsL_law0_r3 ++ (wsL_law0_r4 ++ (wsL_law0_r5 ++ (wsL_law0_r6 ++ (wsL_law0_r7 ++ (wsL_law0_r8 ++ (wsL_law0_r9 ++ (wsL_law0_r10 ++ (wsL_law0_r11 ++ (wsL_law0_r12 ++ (wsL_law0_r13 ++ (wsL_law0_r14 ++ (wsL_law0_r15 ++ (wsL_law0_r16 ++ (wsL_law0_r17 ++ (wsL_law0_r18 ++ (wsL_law0_r19 ++ (wsL_law0_r20 ++ (wsL_law0_r21 ++ (wsL_law0_r22 ++ (wsL_law0_r23 ++ (wsL_law0_r24 ++ (wsL_law0_r25 ++ (wsL_law0_r26 ++ (wsL_law0_r27 ++ (wsL_law0_r28 ++ (wsL_law0_r29 ++ (wsL_law0_r30 ++ (wsL_law0_r31 ++ (wsL_law0_r32 ++ (wsL_law0_r33 ++ (wsL_law0_r34 ++ (wsL_law0_r35 ++ (wsL_law0_r36 ++ (wsL_law0_r37 ++ wsL_law0_r38))))))))))))))))))))))))))))))))))))) ++ wsX30 ++ wsX50 ++ wsX00 ++ wsX10 ++ wsX20 ++ wsX40 ++ wsJx4a65c0 ++ wsJx354110 ++ ([] : List Cond)
def wsL_law : List Cond := wsL_law0 ++ (vx_atS RX3 224 "java/lang/IndexOutOfBoundsException" ["java/lang/RuntimeException", "java/lang/Exception"]).filter goodWord ++ (vx_atS RX3 231 "java/lang/IllegalArgumentException" ["java/lang/RuntimeException", "java/lang/Exception"]).filter goodWord ++ (vx_atS RX3 236 "java/lang/IllegalStateException" ["java/lang/RuntimeException", "java/lang/Exception"]).filter goodWord
abbrev vwCl : List vw_C := [(RJx35411, TJx35411, 4), (RJx4a65c, TJx4a65c, 3), (RX0, TX0, 4), (RX1, TX1, 10), (RX2, TX2, 18), (RX3, TX3, 2), (RX4, TX4, 7), (RX5, TX5, 3)]
end
section
set_option maxRecDepth 20000 in
theorem ggX0_init_X1_init : GoodIn wsX0_init wsX1_init := goodIn_r _ [16, 17, 2, 3, 18, 19, 20, 21, 22, 23, 24, 25, 26, 27, 28, 29, 52, 53, 54, 55, 56, 57, 58, 59, 60, 61] (by decide +kernel) (by decide +kernel)
set_option maxRecDepth 20000 in
theorem gX0_init_X1_init : GoodIn wsX0_init (wsX1_init) := ggX0_init_X1_init
set_option maxRecDepth 20000 in
theorem ggX0_init_X2_init : GoodIn wsX0_init wsX2_init := goodIn_r _ [31, 32, 2, 3, 33, 34, 35, 36, 37, 38, 39, 40, 41, 42, 43, 44, 45, 46, 47, 48, 49, 50, 51, 66, 67, 68, 69, 70, 71, 72, 73, 74, 75, 76, 77, 78, 79, 80, 81, 82, 83] (by decide +kernel) (by decide +kernel)
set_option maxRecDepth 20000 in
theorem gX0_init_X2_init_n31 : GoodIn wsX0_init (wsX2_init) := ggX0_init_X2_init
theorem dX0_init_0 : decode cX0_init 0 = .ok (.aload_n 0, 1) := by decide +kernel
theorem dX0_init_1 : decode cX0_init 1 = .ok (.invokespecial 3, 3) := by decide +kernel
theorem dX0_init_4 : decode cX0_init 4 = .ok (.aload_n 0, 1) := by decide +kernel
theorem dX0_init_5 : decode cX0_init 5 = .ok (.new 9, 3) := by decide +kernel
theorem dX0_init_8 : decode cX0_init 8 = .ok (.dup, 1) := by decide +kernel
theorem dX0_init_9 : decode cX0_init 9 = .ok (.invokespecial 11, 3) := by decide +kernel
theorem dX0_init_12 : decode cX0_init 12 = .ok (.putfield 12, 3) := by decide +kernel
theorem dX0_init_15 : decode cX0_init 15 = .ok (.aload_n 0, 1) := by decide +kernel
theorem dX0_init_16 : decode cX0_init 16 = .ok (.iconst 4, 1) := by decide +kernel
theorem dX0_init_17 : decode cX0_init 17 = .ok (.anewarray 18, 3) := by decide +kernel
theorem dX0_init_20 : decode cX0_init 20 = .ok (.putfield 20, 3) := by decide +kernel
theorem dX0_init_23 : decode cX0_init 23 = .ok (.aload_n 0, 1) := by decide +kernel
theorem dX0_init_24 : decode cX0_init 24 = .ok (.iconst 0, 1) := by decide +kernel
theorem dX0_init_25 : decode cX0_init 25 = .ok (.putfield 24, 3) := by decide +kernel
theorem dX0_init_28 : decode cX0_init 28 = .ok (.aload_n 0, 1) := by decide +kernel
theorem dX0_init_29 : decode cX0_init 29 = .ok (.iconst 0, 1) := by decide +kernel
theorem dX0_init_30 : decode cX0_init 30 = .ok (.putfield 28, 3) := by decide +kernel
theorem dX0_init_33 : decode cX0_init 33 = .ok (.iconst 0, 1) := by decide +kernel
theorem dX0_init_34 : decode cX0_init 34 = .ok (.istore_n 1, 1) := by decide +kernel
theorem dX0_init_35 : decode cX0_init 35 = .ok (.iload_n 1, 1) := by decide +kernel
theorem dX0_init_36 : decode cX0_init 36 = .ok (.iconst 4, 1) := by decide +kernel
theorem dX0_init_37 : decode cX0_init 37 = .ok (.if_icmp .ge 22, 3) := by decide +kernel
theorem dX0_init_40 : decode cX0_init 40 = .ok (.aload_n 0, 1) := by decide +kernel
theorem dX0_init_41 : decode cX0_init 41 = .ok (.getfield 20, 3) := by decide +kernel
theorem dX0_init_44 : decode cX0_init 44 = .ok (.iload_n 1, 1) := by decide +kernel
theorem dX0_init_45 : decode cX0_init 45 = .ok (.new 18, 3) := by decide +kernel
theorem dX0_init_48 : decode cX0_init 48 = .ok (.dup, 1) := by decide +kernel
theorem dX0_init_49 : decode cX0_init 49 = .ok (.invokespecial 31, 3) := by decide +kernel
theorem dX0_init_52 : decode cX0_init 52 = .ok (.aastore, 1) := by decide +kernel
theorem dX0_init_53 : decode cX0_init 53 = .ok (.iinc 1 1, 3) := by decide +kernel
theorem dX0_init_56 : decode cX0_init 56 = .ok (.goto (-21), 3) := by decide +kernel
theorem dX0_init_59 : decode cX0_init 59 = .ok (.return_, 1) := by decide +kernel
set_option maxRecDepth 20000 in
theorem ggX0_copyFrom_X1_copyFrom : GoodIn wsX0_copyFrom wsX1_copyFrom := goodIn_r _ [9, 10, 11, 12, 13, 14, 15, 16, 17, 18, 19, 47, 48, 49, 50, 51, 52, 53, 54, 55, 56] (by decide +kernel) (by decide +kernel)
set_option maxRecDepth 20000 in
theorem gX0_copyFrom_X1_copyFrom : GoodIn wsX0_copyFrom (wsV RX0 32 RX1 yX1_copyFrom wsX1_copyFrom) := goodIn_app (goodIn_of _ (by decide +kernel)) ggX0_copyFrom_X1_copyFrom
set_option maxRecDepth 20000 in
theorem ggX0_copyFrom_X2_copyFrom : GoodIn wsX0_copyFrom wsX2_copyFrom := goodIn_r _ [24, 25, 26, 27, 28, 29, 30, 31, 32, 33, 34, 35, 36, 37, 38, 39, 40, 41, 42, 57, 58, 59, 60, 61, 62, 63, 64, 65, 66, 67, 68, 69, 70, 71, 72, 73, 74] (by decide +kernel) (by decide +kernel)
set_option maxRecDepth 20000 in
theorem gX0_copyFrom_X2_copyFrom : GoodIn wsX0_copyFrom (wsV RX0 36 RX2 yX2_copyFrom wsX2_copyFrom) := goodIn_app (goodIn_of _ (by decide +kernel)) ggX0_copyFrom_X2_copyFrom
theorem dX0_copyFrom_0 : decode cX0_copyFrom 0 = .ok (.aload_n 0, 1) := by decide +kernel
theorem dX0_copyFrom_1 : decode cX0_copyFrom 1 = .ok (.getfield 12, 3) := by decide +kernel
theorem dX0_copyFrom_4 : decode cX0_copyFrom 4 = .ok (.aload_n 1, 1) := by decide +kernel
theorem dX0_copyFrom_5 : decode cX0_copyFrom 5 = .ok (.getfield 12, 3) := by decide +kernel
theorem dX0_copyFrom_8 : decode cX0_copyFrom 8 = .ok (.invokevirtual 32, 3) := by decide +kernel
theorem dX0_copyFrom_11 : decode cX0_copyFrom 11 = .ok (.iconst 0, 1) := by decide +kernel
theorem dX0_copyFrom_12 : decode cX0_copyFrom 12 = .ok (.istore_n 2, 1) := by decide +kernel
theorem dX0_copyFrom_13 : decode cX0_copyFrom 13 = .ok (.iload_n 2, 1) := by decide +kernel
theorem dX0_copyFrom_14 : decode cX0_copyFrom 14 = .ok (.iconst 4, 1) := by decide +kernel
theorem dX0_copyFrom_15 : decode cX0_copyFrom 15 = .ok (.if_icmp .ge 24, 3) := by decide +kernel
theorem dX0_copyFrom_18 : decode cX0_copyFrom 18 = .ok (.aload_n 0, 1) := by decide +kernel
theorem dX0_copyFrom_19 : decode cX0_copyFrom 19 = .ok (.getfield 20, 3) := by decide +kernel
theorem dX0_copyFrom_22 : decode cX0_copyFrom 22 = .ok (.iload_n 2, 1) := by decide +kernel
theorem dX0_copyFrom_23 : decode cX0_copyFrom 23 = .ok (.aaload, 1) := by decide +kernel
theorem dX0_copyFrom_24 : decode cX0_copyFrom 24 = .ok (.aload_n 1, 1) := by decide +kernel
theorem dX0_copyFrom_25 : decode cX0_copyFrom 25 = .ok (.getfield 20, 3) := by decide +kernel
theorem dX0_copyFrom_28 : decode cX0_copyFrom 28 = .ok (.iload_n 2, 1) := by decide +kernel
theorem dX0_copyFrom_29 : decode cX0_copyFrom 29 = .ok (.aaload, 1) := by decide +kernel
theorem dX0_copyFrom_30 : decode cX0_copyFrom 30 = .ok (.invokevirtual 36, 3) := by decide +kernel
theorem dX0_copyFrom_33 : decode cX0_copyFrom 33 = .ok (.iinc 2 1, 3) := by decide +kernel
theorem dX0_copyFrom_36 : decode cX0_copyFrom 36 = .ok (.goto (-23), 3) := by decide +kernel
theorem dX0_copyFrom_39 : decode cX0_copyFrom 39 = .ok (.aload_n 0, 1) := by decide +kernel
theorem dX0_copyFrom_40 : decode cX0_copyFrom 40 = .ok (.aload_n 1, 1) := by decide +kernel
theorem dX0_copyFrom_41 : decode cX0_copyFrom 41 = .ok (.getfield 24, 3) := by decide +kernel
theorem dX0_copyFrom_44 : decode cX0_copyFrom 44 = .ok (.putfield 24, 3) := by decide +kernel
theorem dX0_copyFrom_47 : decode cX0_copyFrom 47 = .ok (.aload_n 0, 1) := by decide +kernel
theorem dX0_copyFrom_48 : decode cX0_copyFrom 48 = .ok (.aload_n 1, 1) := by decide +kernel
theorem dX0_copyFrom_49 : decode cX0_copyFrom 49 = .ok (.getfield 28, 3) := by decide +kernel
theorem dX0_copyFrom_52 : decode cX0_copyFrom 52 = .ok (.putfield 28, 3) := by decide +kernel
theorem dX0_copyFrom_55 : decode cX0_copyFrom 55 = .ok (.return_, 1) := by decide +kernel
set_option maxRecDepth 20000 in
theorem ggX0_addTrain_X1_stationsFrom : GoodIn wsX0_addTrain wsX1_stationsFrom := goodIn_r _ [15, 16, 17, 55, 56, 57, 58, 59, 60, 61, 62, 63, 64] (by decide +kernel) (by decide +kernel)
set_option maxRecDepth 20000 in
theorem gX0_addTrain_X1_stationsFrom : GoodIn wsX0_addTrain (wsV RX0 54 RX1 yX1_stationsFrom wsX1_stationsFrom) := goodIn_app (goodIn_of _ (by decide +kernel)) ggX0_addTrain_X1_stationsFrom
set_option maxRecDepth 20000 in
theorem ggX0_addTrain_X2_report : GoodIn wsX0_addTrain wsX2_report := goodIn_r _ [22, 23, 24, 25, 26, 27, 28, 29, 30, 21, 31, 32, 37, 38, 39, 40, 41, 42, 43, 44, 45, 46, 47, 48, 49, 50, 51, 52, 53, 54] (by decide +kernel) (by decide +kernel)
set_option maxRecDepth 20000 in
theorem gX0_addTrain_X2_report : GoodIn wsX0_addTrain (wsV RX0 61 RX2 yX2_report wsX2_report) := goodIn_app (goodIn_of _ (by decide +kernel)) ggX0_addTrain_X2_report
theorem dX0_addTrain_0 : decode cX0_addTrain 0 = .ok (.aload_n 0, 1) := by decide +kernel
theorem dX0_addTrain_1 : decode cX0_addTrain 1 = .ok (.getfield 24, 3) := by decide +kernel
theorem dX0_addTrain_4 : decode cX0_addTrain 4 = .ok (.istore 5, 2) := by decide +kernel
theorem dX0_addTrain_6 : decode cX0_addTrain 6 = .ok (.aload_n 0, 1) := by decide +kernel
theorem dX0_addTrain_7 : decode cX0_addTrain 7 = .ok (.getfield 20, 3) := by decide +kernel
theorem dX0_addTrain_10 : decode cX0_addTrain 10 = .ok (.iload 5, 2) := by decide +kernel
theorem dX0_addTrain_12 : decode cX0_addTrain 12 = .ok (.aaload, 1) := by decide +kernel
theorem dX0_addTrain_13 : decode cX0_addTrain 13 = .ok (.astore 6, 2) := by decide +kernel
theorem dX0_addTrain_15 : decode cX0_addTrain 15 = .ok (.aload 6, 2) := by decide +kernel
theorem dX0_addTrain_17 : decode cX0_addTrain 17 = .ok (.iload_n 1, 1) := by decide +kernel
theorem dX0_addTrain_18 : decode cX0_addTrain 18 = .ok (.putfield 39, 3) := by decide +kernel
theorem dX0_addTrain_21 : decode cX0_addTrain 21 = .ok (.aload 6, 2) := by decide +kernel
theorem dX0_addTrain_23 : decode cX0_addTrain 23 = .ok (.iload_n 2, 1) := by decide +kernel
theorem dX0_addTrain_24 : decode cX0_addTrain 24 = .ok (.putfield 42, 3) := by decide +kernel
theorem dX0_addTrain_27 : decode cX0_addTrain 27 = .ok (.aload 6, 2) := by decide +kernel
theorem dX0_addTrain_29 : decode cX0_addTrain 29 = .ok (.iload_n 3, 1) := by decide +kernel
theorem dX0_addTrain_30 : decode cX0_addTrain 30 = .ok (.putfield 45, 3) := by decide +kernel
theorem dX0_addTrain_33 : decode cX0_addTrain 33 = .ok (.aload 6, 2) := by decide +kernel
theorem dX0_addTrain_35 : decode cX0_addTrain 35 = .ok (.iload_n 1, 1) := by decide +kernel
theorem dX0_addTrain_36 : decode cX0_addTrain 36 = .ok (.iconst 1, 1) := by decide +kernel
theorem dX0_addTrain_37 : decode cX0_addTrain 37 = .ok (.isub, 1) := by decide +kernel
theorem dX0_addTrain_38 : decode cX0_addTrain 38 = .ok (.putfield 48, 3) := by decide +kernel
theorem dX0_addTrain_41 : decode cX0_addTrain 41 = .ok (.aload 6, 2) := by decide +kernel
theorem dX0_addTrain_43 : decode cX0_addTrain 43 = .ok (.aload 6, 2) := by decide +kernel
theorem dX0_addTrain_45 : decode cX0_addTrain 45 = .ok (.getfield 48, 3) := by decide +kernel
theorem dX0_addTrain_48 : decode cX0_addTrain 48 = .ok (.putfield 51, 3) := by decide +kernel
theorem dX0_addTrain_51 : decode cX0_addTrain 51 = .ok (.aload 6, 2) := by decide +kernel
theorem dX0_addTrain_53 : decode cX0_addTrain 53 = .ok (.iload 4, 2) := by decide +kernel
theorem dX0_addTrain_55 : decode cX0_addTrain 55 = .ok (.ifCond .eq 18, 3) := by decide +kernel
theorem dX0_addTrain_58 : decode cX0_addTrain 58 = .ok (.aload_n 0, 1) := by decide +kernel
theorem dX0_addTrain_59 : decode cX0_addTrain 59 = .ok (.getfield 12, 3) := by decide +kernel
theorem dX0_addTrain_62 : decode cX0_addTrain 62 = .ok (.aload 6, 2) := by decide +kernel
theorem dX0_addTrain_64 : decode cX0_addTrain 64 = .ok (.getfield 48, 3) := by decide +kernel
theorem dX0_addTrain_67 : decode cX0_addTrain 67 = .ok (.invokevirtual 54, 3) := by decide +kernel
theorem dX0_addTrain_70 : decode cX0_addTrain 70 = .ok (.goto 4, 3) := by decide +kernel
theorem dX0_addTrain_73 : decode cX0_addTrain 73 = .ok (.iconst 0, 1) := by decide +kernel
theorem dX0_addTrain_74 : decode cX0_addTrain 74 = .ok (.putfield 58, 3) := by decide +kernel
theorem dX0_addTrain_77 : decode cX0_addTrain 77 = .ok (.aload 6, 2) := by decide +kernel
theorem dX0_addTrain_79 : decode cX0_addTrain 79 = .ok (.aload_n 0, 1) := by decide +kernel
theorem dX0_addTrain_80 : decode cX0_addTrain 80 = .ok (.getfield 28, 3) := by decide +kernel
theorem dX0_addTrain_83 : decode cX0_addTrain 83 = .ok (.invokevirtual 61, 3) := by decide +kernel
theorem dX0_addTrain_86 : decode cX0_addTrain 86 = .ok (.aload_n 0, 1) := by decide +kernel
theorem dX0_addTrain_87 : decode cX0_addTrain 87 = .ok (.iload 5, 2) := by decide +kernel
theorem dX0_addTrain_89 : decode cX0_addTrain 89 = .ok (.iconst 1, 1) := by decide +kernel
theorem dX0_addTrain_90 : decode cX0_addTrain 90 = .ok (.iadd, 1) := by decide +kernel
theorem dX0_addTrain_91 : decode cX0_addTrain 91 = .ok (.putfield 24, 3) := by decide +kernel
theorem dX0_addTrain_94 : decode cX0_addTrain 94 = .ok (.iload 5, 2) := by decide +kernel
theorem dX0_addTrain_96 : decode cX0_addTrain 96 = .ok (.ireturn, 1) := by decide +kernel
set_option maxRecDepth 20000 in
theorem ggX0_isFreeUpTo_X2_rear : GoodIn wsX0_isFreeUpTo wsX2_rear := goodIn_r _ [8, 9, 10, 15, 16, 17, 18, 19, 20, 21, 22, 23, 24, 25, 26, 27, 28, 29, 30, 31, 32] (by decide +kernel) (by decide +kernel)
set_option maxRecDepth 20000 in
theorem gX0_isFreeUpTo_X2_rear : GoodIn wsX0_isFreeUpTo (wsV RX0 69 RX2 yX2_rear wsX2_rear) := goodIn_app (goodIn_of _ (by decide +kernel)) ggX0_isFreeUpTo_X2_rear
theorem dX0_isFreeUpTo_0 : decode cX0_isFreeUpTo 0 = .ok (.iconst 0, 1) := by decide +kernel
theorem dX0_isFreeUpTo_1 : decode cX0_isFreeUpTo 1 = .ok (.istore_n 2, 1) := by decide +kernel
theorem dX0_isFreeUpTo_2 : decode cX0_isFreeUpTo 2 = .ok (.iload_n 2, 1) := by decide +kernel
theorem dX0_isFreeUpTo_3 : decode cX0_isFreeUpTo 3 = .ok (.aload_n 0, 1) := by decide +kernel
theorem dX0_isFreeUpTo_4 : decode cX0_isFreeUpTo 4 = .ok (.getfield 24, 3) := by decide +kernel
theorem dX0_isFreeUpTo_7 : decode cX0_isFreeUpTo 7 = .ok (.if_icmp .ge 36, 3) := by decide +kernel
theorem dX0_isFreeUpTo_10 : decode cX0_isFreeUpTo 10 = .ok (.aload_n 0, 1) := by decide +kernel
theorem dX0_isFreeUpTo_11 : decode cX0_isFreeUpTo 11 = .ok (.getfield 20, 3) := by decide +kernel
theorem dX0_isFreeUpTo_14 : decode cX0_isFreeUpTo 14 = .ok (.iload_n 2, 1) := by decide +kernel
theorem dX0_isFreeUpTo_15 : decode cX0_isFreeUpTo 15 = .ok (.aaload, 1) := by decide +kernel
theorem dX0_isFreeUpTo_16 : decode cX0_isFreeUpTo 16 = .ok (.getfield 65, 3) := by decide +kernel
theorem dX0_isFreeUpTo_19 : decode cX0_isFreeUpTo 19 = .ok (.ifCond .ne 18, 3) := by decide +kernel
theorem dX0_isFreeUpTo_22 : decode cX0_isFreeUpTo 22 = .ok (.aload_n 0, 1) := by decide +kernel
theorem dX0_isFreeUpTo_23 : decode cX0_isFreeUpTo 23 = .ok (.getfield 20, 3) := by decide +kernel
theorem dX0_isFreeUpTo_26 : decode cX0_isFreeUpTo 26 = .ok (.iload_n 2, 1) := by decide +kernel
theorem dX0_isFreeUpTo_27 : decode cX0_isFreeUpTo 27 = .ok (.aaload, 1) := by decide +kernel
theorem dX0_isFreeUpTo_28 : decode cX0_isFreeUpTo 28 = .ok (.invokevirtual 69, 3) := by decide +kernel
theorem dX0_isFreeUpTo_31 : decode cX0_isFreeUpTo 31 = .ok (.iload_n 1, 1) := by decide +kernel
theorem dX0_isFreeUpTo_32 : decode cX0_isFreeUpTo 32 = .ok (.if_icmp .gt 5, 3) := by decide +kernel
theorem dX0_isFreeUpTo_35 : decode cX0_isFreeUpTo 35 = .ok (.iconst 0, 1) := by decide +kernel
theorem dX0_isFreeUpTo_36 : decode cX0_isFreeUpTo 36 = .ok (.ireturn, 1) := by decide +kernel
theorem dX0_isFreeUpTo_37 : decode cX0_isFreeUpTo 37 = .ok (.iinc 2 1, 3) := by decide +kernel
theorem dX0_isFreeUpTo_40 : decode cX0_isFreeUpTo 40 = .ok (.goto (-38), 3) := by decide +kernel
theorem dX0_isFreeUpTo_43 : decode cX0_isFreeUpTo 43 = .ok (.iconst 1, 1) := by decide +kernel
theorem dX0_isFreeUpTo_44 : decode cX0_isFreeUpTo 44 = .ok (.ireturn, 1) := by decide +kernel
theorem dX0_countPresent_0 : decode cX0_countPresent 0 = .ok (.iconst 0, 1) := by decide +kernel
theorem dX0_countPresent_1 : decode cX0_countPresent 1 = .ok (.istore_n 1, 1) := by decide +kernel
theorem dX0_countPresent_2 : decode cX0_countPresent 2 = .ok (.iconst 0, 1) := by decide +kernel
theorem dX0_countPresent_3 : decode cX0_countPresent 3 = .ok (.istore_n 2, 1) := by decide +kernel
theorem dX0_countPresent_4 : decode cX0_countPresent 4 = .ok (.iload_n 2, 1) := by decide +kernel
theorem dX0_countPresent_5 : decode cX0_countPresent 5 = .ok (.aload_n 0, 1) := by decide +kernel
theorem dX0_countPresent_6 : decode cX0_countPresent 6 = .ok (.getfield 24, 3) := by decide +kernel
theorem dX0_countPresent_9 : decode cX0_countPresent 9 = .ok (.if_icmp .ge 29, 3) := by decide +kernel
theorem dX0_countPresent_12 : decode cX0_countPresent 12 = .ok (.iload_n 1, 1) := by decide +kernel
theorem dX0_countPresent_13 : decode cX0_countPresent 13 = .ok (.aload_n 0, 1) := by decide +kernel
theorem dX0_countPresent_14 : decode cX0_countPresent 14 = .ok (.getfield 20, 3) := by decide +kernel
theorem dX0_countPresent_17 : decode cX0_countPresent 17 = .ok (.iload_n 2, 1) := by decide +kernel
theorem dX0_countPresent_18 : decode cX0_countPresent 18 = .ok (.aaload, 1) := by decide +kernel
theorem dX0_countPresent_19 : decode cX0_countPresent 19 = .ok (.getfield 65, 3) := by decide +kernel
theorem dX0_countPresent_22 : decode cX0_countPresent 22 = .ok (.ifCond .eq 7, 3) := by decide +kernel
theorem dX0_countPresent_25 : decode cX0_countPresent 25 = .ok (.iconst 0, 1) := by decide +kernel
theorem dX0_countPresent_26 : decode cX0_countPresent 26 = .ok (.goto 4, 3) := by decide +kernel
theorem dX0_countPresent_29 : decode cX0_countPresent 29 = .ok (.iconst 1, 1) := by decide +kernel
theorem dX0_countPresent_30 : decode cX0_countPresent 30 = .ok (.iadd, 1) := by decide +kernel
theorem dX0_countPresent_31 : decode cX0_countPresent 31 = .ok (.istore_n 1, 1) := by decide +kernel
theorem dX0_countPresent_32 : decode cX0_countPresent 32 = .ok (.iinc 2 1, 3) := by decide +kernel
theorem dX0_countPresent_35 : decode cX0_countPresent 35 = .ok (.goto (-31), 3) := by decide +kernel
theorem dX0_countPresent_38 : decode cX0_countPresent 38 = .ok (.iload_n 1, 1) := by decide +kernel
theorem dX0_countPresent_39 : decode cX0_countPresent 39 = .ok (.ireturn, 1) := by decide +kernel
theorem dX0_countCrashed_0 : decode cX0_countCrashed 0 = .ok (.iconst 0, 1) := by decide +kernel
theorem dX0_countCrashed_1 : decode cX0_countCrashed 1 = .ok (.istore_n 1, 1) := by decide +kernel
theorem dX0_countCrashed_2 : decode cX0_countCrashed 2 = .ok (.iconst 0, 1) := by decide +kernel
theorem dX0_countCrashed_3 : decode cX0_countCrashed 3 = .ok (.istore_n 2, 1) := by decide +kernel
theorem dX0_countCrashed_4 : decode cX0_countCrashed 4 = .ok (.iload_n 2, 1) := by decide +kernel
theorem dX0_countCrashed_5 : decode cX0_countCrashed 5 = .ok (.aload_n 0, 1) := by decide +kernel
theorem dX0_countCrashed_6 : decode cX0_countCrashed 6 = .ok (.getfield 24, 3) := by decide +kernel
theorem dX0_countCrashed_9 : decode cX0_countCrashed 9 = .ok (.if_icmp .ge 29, 3) := by decide +kernel
theorem dX0_countCrashed_12 : decode cX0_countCrashed 12 = .ok (.iload_n 1, 1) := by decide +kernel
theorem dX0_countCrashed_13 : decode cX0_countCrashed 13 = .ok (.aload_n 0, 1) := by decide +kernel
theorem dX0_countCrashed_14 : decode cX0_countCrashed 14 = .ok (.getfield 20, 3) := by decide +kernel
theorem dX0_countCrashed_17 : decode cX0_countCrashed 17 = .ok (.iload_n 2, 1) := by decide +kernel
theorem dX0_countCrashed_18 : decode cX0_countCrashed 18 = .ok (.aaload, 1) := by decide +kernel
theorem dX0_countCrashed_19 : decode cX0_countCrashed 19 = .ok (.getfield 73, 3) := by decide +kernel
theorem dX0_countCrashed_22 : decode cX0_countCrashed 22 = .ok (.ifCond .eq 7, 3) := by decide +kernel
theorem dX0_countCrashed_25 : decode cX0_countCrashed 25 = .ok (.iconst 1, 1) := by decide +kernel
theorem dX0_countCrashed_26 : decode cX0_countCrashed 26 = .ok (.goto 4, 3) := by decide +kernel
theorem dX0_countCrashed_29 : decode cX0_countCrashed 29 = .ok (.iconst 0, 1) := by decide +kernel
theorem dX0_countCrashed_30 : decode cX0_countCrashed 30 = .ok (.iadd, 1) := by decide +kernel
theorem dX0_countCrashed_31 : decode cX0_countCrashed 31 = .ok (.istore_n 1, 1) := by decide +kernel
theorem dX0_countCrashed_32 : decode cX0_countCrashed 32 = .ok (.iinc 2 1, 3) := by decide +kernel
theorem dX0_countCrashed_35 : decode cX0_countCrashed 35 = .ok (.goto (-31), 3) := by decide +kernel
theorem dX0_countCrashed_38 : decode cX0_countCrashed 38 = .ok (.iload_n 1, 1) := by decide +kernel
theorem dX0_countCrashed_39 : decode cX0_countCrashed 39 = .ok (.ireturn, 1) := by decide +kernel
set_option maxRecDepth 20000 in
theorem ggX0_countOn_X2_isOn : GoodIn wsX0_countOn wsX2_isOn := goodIn_r _ [8, 9, 10, 11, 12, 13, 14, 15, 7, 16, 17, 22, 23, 24, 25, 26, 27, 28, 29, 30, 31, 32, 33, 34, 35, 36, 37, 38, 39] (by decide +kernel) (by decide +kernel)
set_option maxRecDepth 20000 in
theorem gX0_countOn_X2_isOn : GoodIn wsX0_countOn (wsV RX0 76 RX2 yX2_isOn wsX2_isOn) := goodIn_app (goodIn_of _ (by decide +kernel)) ggX0_countOn_X2_isOn
theorem dX0_countOn_0 : decode cX0_countOn 0 = .ok (.iconst 0, 1) := by decide +kernel
theorem dX0_countOn_1 : decode cX0_countOn 1 = .ok (.istore_n 3, 1) := by decide +kernel
theorem dX0_countOn_2 : decode cX0_countOn 2 = .ok (.iconst 0, 1) := by decide +kernel
theorem dX0_countOn_3 : decode cX0_countOn 3 = .ok (.istore 4, 2) := by decide +kernel
theorem dX0_countOn_5 : decode cX0_countOn 5 = .ok (.iload 4, 2) := by decide +kernel
theorem dX0_countOn_7 : decode cX0_countOn 7 = .ok (.aload_n 0, 1) := by decide +kernel
theorem dX0_countOn_8 : decode cX0_countOn 8 = .ok (.getfield 24, 3) := by decide +kernel
theorem dX0_countOn_11 : decode cX0_countOn 11 = .ok (.if_icmp .ge 57, 3) := by decide +kernel
theorem dX0_countOn_14 : decode cX0_countOn 14 = .ok (.aload_n 0, 1) := by decide +kernel
theorem dX0_countOn_15 : decode cX0_countOn 15 = .ok (.getfield 20, 3) := by decide +kernel
theorem dX0_countOn_18 : decode cX0_countOn 18 = .ok (.iload 4, 2) := by decide +kernel
theorem dX0_countOn_20 : decode cX0_countOn 20 = .ok (.aaload, 1) := by decide +kernel
theorem dX0_countOn_21 : decode cX0_countOn 21 = .ok (.getfield 65, 3) := by decide +kernel
theorem dX0_countOn_24 : decode cX0_countOn 24 = .ok (.ifCond .ne 22, 3) := by decide +kernel
theorem dX0_countOn_27 : decode cX0_countOn 27 = .ok (.aload_n 0, 1) := by decide +kernel
theorem dX0_countOn_28 : decode cX0_countOn 28 = .ok (.getfield 20, 3) := by decide +kernel
theorem dX0_countOn_31 : decode cX0_countOn 31 = .ok (.iload 4, 2) := by decide +kernel
theorem dX0_countOn_33 : decode cX0_countOn 33 = .ok (.aaload, 1) := by decide +kernel
theorem dX0_countOn_34 : decode cX0_countOn 34 = .ok (.iload_n 1, 1) := by decide +kernel
theorem dX0_countOn_35 : decode cX0_countOn 35 = .ok (.iload_n 2, 1) := by decide +kernel
theorem dX0_countOn_36 : decode cX0_countOn 36 = .ok (.invokevirtual 76, 3) := by decide +kernel
theorem dX0_countOn_39 : decode cX0_countOn 39 = .ok (.ifCond .eq 7, 3) := by decide +kernel
theorem dX0_countOn_42 : decode cX0_countOn 42 = .ok (.iconst 1, 1) := by decide +kernel
theorem dX0_countOn_43 : decode cX0_countOn 43 = .ok (.goto 4, 3) := by decide +kernel
theorem dX0_countOn_46 : decode cX0_countOn 46 = .ok (.iconst 0, 1) := by decide +kernel
theorem dX0_countOn_47 : decode cX0_countOn 47 = .ok (.istore 5, 2) := by decide +kernel
theorem dX0_countOn_49 : decode cX0_countOn 49 = .ok (.iload_n 3, 1) := by decide +kernel
theorem dX0_countOn_50 : decode cX0_countOn 50 = .ok (.iload 5, 2) := by decide +kernel
theorem dX0_countOn_52 : decode cX0_countOn 52 = .ok (.ifCond .eq 7, 3) := by decide +kernel
theorem dX0_countOn_55 : decode cX0_countOn 55 = .ok (.iconst 1, 1) := by decide +kernel
theorem dX0_countOn_56 : decode cX0_countOn 56 = .ok (.goto 4, 3) := by decide +kernel
theorem dX0_countOn_59 : decode cX0_countOn 59 = .ok (.iconst 0, 1) := by decide +kernel
theorem dX0_countOn_60 : decode cX0_countOn 60 = .ok (.iadd, 1) := by decide +kernel
theorem dX0_countOn_61 : decode cX0_countOn 61 = .ok (.istore_n 3, 1) := by decide +kernel
theorem dX0_countOn_62 : decode cX0_countOn 62 = .ok (.iinc 4 1, 3) := by decide +kernel
theorem dX0_countOn_65 : decode cX0_countOn 65 = .ok (.goto (-60), 3) := by decide +kernel
theorem dX0_countOn_68 : decode cX0_countOn 68 = .ok (.iload_n 3, 1) := by decide +kernel
theorem dX0_countOn_69 : decode cX0_countOn 69 = .ok (.ireturn, 1) := by decide +kernel
theorem dX0_sumOfSpeeds_0 : decode cX0_sumOfSpeeds 0 = .ok (.iconst 0, 1) := by decide +kernel
theorem dX0_sumOfSpeeds_1 : decode cX0_sumOfSpeeds 1 = .ok (.istore_n 1, 1) := by decide +kernel
theorem dX0_sumOfSpeeds_2 : decode cX0_sumOfSpeeds 2 = .ok (.iconst 0, 1) := by decide +kernel
theorem dX0_sumOfSpeeds_3 : decode cX0_sumOfSpeeds 3 = .ok (.istore_n 2, 1) := by decide +kernel
theorem dX0_sumOfSpeeds_4 : decode cX0_sumOfSpeeds 4 = .ok (.iload_n 2, 1) := by decide +kernel
theorem dX0_sumOfSpeeds_5 : decode cX0_sumOfSpeeds 5 = .ok (.aload_n 0, 1) := by decide +kernel
theorem dX0_sumOfSpeeds_6 : decode cX0_sumOfSpeeds 6 = .ok (.getfield 24, 3) := by decide +kernel
theorem dX0_sumOfSpeeds_9 : decode cX0_sumOfSpeeds 9 = .ok (.if_icmp .ge 21, 3) := by decide +kernel
theorem dX0_sumOfSpeeds_12 : decode cX0_sumOfSpeeds 12 = .ok (.iload_n 1, 1) := by decide +kernel
theorem dX0_sumOfSpeeds_13 : decode cX0_sumOfSpeeds 13 = .ok (.aload_n 0, 1) := by decide +kernel
theorem dX0_sumOfSpeeds_14 : decode cX0_sumOfSpeeds 14 = .ok (.getfield 20, 3) := by decide +kernel
theorem dX0_sumOfSpeeds_17 : decode cX0_sumOfSpeeds 17 = .ok (.iload_n 2, 1) := by decide +kernel
theorem dX0_sumOfSpeeds_18 : decode cX0_sumOfSpeeds 18 = .ok (.aaload, 1) := by decide +kernel
theorem dX0_sumOfSpeeds_19 : decode cX0_sumOfSpeeds 19 = .ok (.getfield 80, 3) := by decide +kernel
theorem dX0_sumOfSpeeds_22 : decode cX0_sumOfSpeeds 22 = .ok (.iadd, 1) := by decide +kernel
theorem dX0_sumOfSpeeds_23 : decode cX0_sumOfSpeeds 23 = .ok (.istore_n 1, 1) := by decide +kernel
theorem dX0_sumOfSpeeds_24 : decode cX0_sumOfSpeeds 24 = .ok (.iinc 2 1, 3) := by decide +kernel
theorem dX0_sumOfSpeeds_27 : decode cX0_sumOfSpeeds 27 = .ok (.goto (-23), 3) := by decide +kernel
theorem dX0_sumOfSpeeds_30 : decode cX0_sumOfSpeeds 30 = .ok (.iload_n 1, 1) := by decide +kernel
theorem dX0_sumOfSpeeds_31 : decode cX0_sumOfSpeeds 31 = .ok (.ireturn, 1) := by decide +kernel
set_option maxRecDepth 20000 in
theorem ggX0_total_X2_metresGone : GoodIn wsX0_total wsX2_metresGone := goodIn_r _ [10, 11, 12, 17, 18, 19, 20, 21, 22, 23, 24, 25, 26, 27, 28, 29, 30, 31, 32, 33, 34] (by decide +kernel) (by decide +kernel)
set_option maxRecDepth 20000 in
theorem gX0_total_X2_metresGone : GoodIn wsX0_total (wsV RX0 92 RX2 yX2_metresGone wsX2_metresGone) := goodIn_app (goodIn_of _ (by decide +kernel)) ggX0_total_X2_metresGone
theorem dX0_total_0 : decode cX0_total 0 = .ok (.iconst 0, 1) := by decide +kernel
theorem dX0_total_1 : decode cX0_total 1 = .ok (.istore_n 2, 1) := by decide +kernel
theorem dX0_total_2 : decode cX0_total 2 = .ok (.iconst 0, 1) := by decide +kernel
theorem dX0_total_3 : decode cX0_total 3 = .ok (.istore_n 3, 1) := by decide +kernel
theorem dX0_total_4 : decode cX0_total 4 = .ok (.iload_n 3, 1) := by decide +kernel
theorem dX0_total_5 : decode cX0_total 5 = .ok (.aload_n 0, 1) := by decide +kernel
theorem dX0_total_6 : decode cX0_total 6 = .ok (.getfield 24, 3) := by decide +kernel
theorem dX0_total_9 : decode cX0_total 9 = .ok (.if_icmp .ge 86, 3) := by decide +kernel
theorem dX0_total_12 : decode cX0_total 12 = .ok (.aload_n 0, 1) := by decide +kernel
theorem dX0_total_13 : decode cX0_total 13 = .ok (.getfield 20, 3) := by decide +kernel
theorem dX0_total_16 : decode cX0_total 16 = .ok (.iload_n 3, 1) := by decide +kernel
theorem dX0_total_17 : decode cX0_total 17 = .ok (.aaload, 1) := by decide +kernel
theorem dX0_total_18 : decode cX0_total 18 = .ok (.astore 4, 2) := by decide +kernel
theorem dX0_total_20 : decode cX0_total 20 = .ok (.iload_n 1, 1) := by decide +kernel
theorem dX0_total_21 : decode cX0_total 21 = .ok (.tableswitch 60 6 8 #[27, 38, 49], 27) := by decide +kernel
theorem dX0_total_48 : decode cX0_total 48 = .ok (.iload_n 2, 1) := by decide +kernel
theorem dX0_total_49 : decode cX0_total 49 = .ok (.aload 4, 2) := by decide +kernel
theorem dX0_total_51 : decode cX0_total 51 = .ok (.getfield 83, 3) := by decide +kernel
theorem dX0_total_54 : decode cX0_total 54 = .ok (.iadd, 1) := by decide +kernel
theorem dX0_total_55 : decode cX0_total 55 = .ok (.istore_n 2, 1) := by decide +kernel
theorem dX0_total_56 : decode cX0_total 56 = .ok (.goto 33, 3) := by decide +kernel
theorem dX0_total_59 : decode cX0_total 59 = .ok (.iload_n 2, 1) := by decide +kernel
theorem dX0_total_60 : decode cX0_total 60 = .ok (.aload 4, 2) := by decide +kernel
theorem dX0_total_62 : decode cX0_total 62 = .ok (.getfield 86, 3) := by decide +kernel
theorem dX0_total_65 : decode cX0_total 65 = .ok (.iadd, 1) := by decide +kernel
theorem dX0_total_66 : decode cX0_total 66 = .ok (.istore_n 2, 1) := by decide +kernel
theorem dX0_total_67 : decode cX0_total 67 = .ok (.goto 22, 3) := by decide +kernel
theorem dX0_total_70 : decode cX0_total 70 = .ok (.iload_n 2, 1) := by decide +kernel
theorem dX0_total_71 : decode cX0_total 71 = .ok (.aload 4, 2) := by decide +kernel
theorem dX0_total_73 : decode cX0_total 73 = .ok (.getfield 89, 3) := by decide +kernel
theorem dX0_total_76 : decode cX0_total 76 = .ok (.iadd, 1) := by decide +kernel
theorem dX0_total_77 : decode cX0_total 77 = .ok (.istore_n 2, 1) := by decide +kernel
theorem dX0_total_78 : decode cX0_total 78 = .ok (.goto 11, 3) := by decide +kernel
theorem dX0_total_81 : decode cX0_total 81 = .ok (.iload_n 2, 1) := by decide +kernel
theorem dX0_total_82 : decode cX0_total 82 = .ok (.aload 4, 2) := by decide +kernel
theorem dX0_total_84 : decode cX0_total 84 = .ok (.invokevirtual 92, 3) := by decide +kernel
theorem dX0_total_87 : decode cX0_total 87 = .ok (.iadd, 1) := by decide +kernel
theorem dX0_total_88 : decode cX0_total 88 = .ok (.istore_n 2, 1) := by decide +kernel
theorem dX0_total_89 : decode cX0_total 89 = .ok (.iinc 3 1, 3) := by decide +kernel
theorem dX0_total_92 : decode cX0_total 92 = .ok (.goto (-88), 3) := by decide +kernel
theorem dX0_total_95 : decode cX0_total 95 = .ok (.iload_n 2, 1) := by decide +kernel
theorem dX0_total_96 : decode cX0_total 96 = .ok (.ireturn, 1) := by decide +kernel
theorem dX0_aheadOf_0 : decode cX0_aheadOf 0 = .ok (.iload_n 1, 1) := by decide +kernel
theorem dX0_aheadOf_1 : decode cX0_aheadOf 1 = .ok (.iconst 1, 1) := by decide +kernel
theorem dX0_aheadOf_2 : decode cX0_aheadOf 2 = .ok (.isub, 1) := by decide +kernel
theorem dX0_aheadOf_3 : decode cX0_aheadOf 3 = .ok (.istore_n 2, 1) := by decide +kernel
theorem dX0_aheadOf_4 : decode cX0_aheadOf 4 = .ok (.iload_n 2, 1) := by decide +kernel
theorem dX0_aheadOf_5 : decode cX0_aheadOf 5 = .ok (.ifCond .lt 15, 3) := by decide +kernel
theorem dX0_aheadOf_8 : decode cX0_aheadOf 8 = .ok (.aload_n 0, 1) := by decide +kernel
theorem dX0_aheadOf_9 : decode cX0_aheadOf 9 = .ok (.getfield 20, 3) := by decide +kernel
theorem dX0_aheadOf_12 : decode cX0_aheadOf 12 = .ok (.iload_n 2, 1) := by decide +kernel
theorem dX0_aheadOf_13 : decode cX0_aheadOf 13 = .ok (.aaload, 1) := by decide +kernel
theorem dX0_aheadOf_14 : decode cX0_aheadOf 14 = .ok (.getfield 65, 3) := by decide +kernel
theorem dX0_aheadOf_17 : decode cX0_aheadOf 17 = .ok (.ifCond .eq 7, 3) := by decide +kernel
theorem dX0_aheadOf_20 : decode cX0_aheadOf 20 = .ok (.iconst (-1), 1) := by decide +kernel
theorem dX0_aheadOf_21 : decode cX0_aheadOf 21 = .ok (.goto 4, 3) := by decide +kernel
theorem dX0_aheadOf_24 : decode cX0_aheadOf 24 = .ok (.iload_n 2, 1) := by decide +kernel
theorem dX0_aheadOf_25 : decode cX0_aheadOf 25 = .ok (.ireturn, 1) := by decide +kernel
set_option maxRecDepth 20000 in
theorem ggX0_holdOf_X3_sectionAt : GoodIn wsX0_holdOf wsX3_sectionAt := goodIn_r _ [11] (by decide +kernel) (by decide +kernel)
set_option maxRecDepth 20000 in
theorem gX0_holdOf_X3_sectionAt_n99 : GoodIn wsX0_holdOf (wsX3_sectionAt) := ggX0_holdOf_X3_sectionAt
theorem dX0_holdOf_0 : decode cX0_holdOf 0 = .ok (.iconst 1, 1) := by decide +kernel
theorem dX0_holdOf_1 : decode cX0_holdOf 1 = .ok (.aload_n 1, 1) := by decide +kernel
theorem dX0_holdOf_2 : decode cX0_holdOf 2 = .ok (.getfield 42, 3) := by decide +kernel
theorem dX0_holdOf_5 : decode cX0_holdOf 5 = .ok (.aload_n 0, 1) := by decide +kernel
theorem dX0_holdOf_6 : decode cX0_holdOf 6 = .ok (.getfield 12, 3) := by decide +kernel
theorem dX0_holdOf_9 : decode cX0_holdOf 9 = .ok (.getfield 95, 3) := by decide +kernel
theorem dX0_holdOf_12 : decode cX0_holdOf 12 = .ok (.aload_n 1, 1) := by decide +kernel
theorem dX0_holdOf_13 : decode cX0_holdOf 13 = .ok (.getfield 48, 3) := by decide +kernel
theorem dX0_holdOf_16 : decode cX0_holdOf 16 = .ok (.invokestatic 99, 3) := by decide +kernel
theorem dX0_holdOf_19 : decode cX0_holdOf 19 = .ok (.iaload, 1) := by decide +kernel
theorem dX0_holdOf_20 : decode cX0_holdOf 20 = .ok (.iadd, 1) := by decide +kernel
theorem dX0_holdOf_21 : decode cX0_holdOf 21 = .ok (.invokestatic 102, 3) := by decide +kernel
theorem dX0_holdOf_24 : decode cX0_holdOf 24 = .ok (.ireturn, 1) := by decide +kernel
set_option maxRecDepth 20000 in
theorem ggX0_allowedSpeed_X1_nextStation : GoodIn wsX0_allowedSpeed wsX1_nextStation := goodIn_r _ [14, 15, 16, 67, 68, 69, 70, 71, 72, 73, 74, 75, 76] (by decide +kernel) (by decide +kernel)
set_option maxRecDepth 20000 in
theorem gX0_allowedSpeed_X1_nextStation : GoodIn wsX0_allowedSpeed (wsV RX0 108 RX1 yX1_nextStation wsX1_nextStation) := goodIn_app (goodIn_of _ (by decide +kernel)) ggX0_allowedSpeed_X1_nextStation
set_option maxRecDepth 20000 in
theorem ggX0_allowedSpeed_X0_holdOf : GoodIn wsX0_allowedSpeed wsX0_holdOf := goodIn_r _ [21, 22, 3, 23, 2, 24, 25, 8, 26, 27, 28, 29, 45, 46, 47, 48, 49, 50, 51, 52, 53, 54, 55, 56, 57, 58, 59, 60, 61, 62, 63, 64, 65, 66, 67, 68, 69, 70, 71, 72, 73, 74, 75, 76] (by decide +kernel) (by decide +kernel)
set_option maxRecDepth 20000 in
theorem gX0_allowedSpeed_X0_holdOf : GoodIn wsX0_allowedSpeed (wsV RX0 117 RX0 yX0_holdOf wsX0_holdOf) := goodIn_app (goodIn_of _ (by decide +kernel)) ggX0_allowedSpeed_X0_holdOf
set_option maxRecDepth 20000 in
theorem ggX0_allowedSpeed_X2_rear : GoodIn wsX0_allowedSpeed wsX2_rear := goodIn_r _ [34, 35, 36, 45, 46, 47, 48, 49, 50, 51, 52, 53, 54, 55, 56, 57, 58, 59, 60, 61, 62] (by decide +kernel) (by decide +kernel)
set_option maxRecDepth 20000 in
theorem gX0_allowedSpeed_X2_rear : GoodIn wsX0_allowedSpeed (wsV RX0 69 RX2 yX2_rear wsX2_rear) := goodIn_app (goodIn_of _ (by decide +kernel)) ggX0_allowedSpeed_X2_rear
set_option maxRecDepth 20000 in
theorem ggX0_allowedSpeed_X1_leastLimit : GoodIn wsX0_allowedSpeed wsX1_leastLimit := goodIn_r _ [40, 41, 42, 7, 8, 9, 27, 28, 29, 67, 68, 69, 70, 71, 72, 73, 74, 75, 76] (by decide +kernel) (by decide +kernel)
set_option maxRecDepth 20000 in
theorem gX0_allowedSpeed_X1_leastLimit : GoodIn wsX0_allowedSpeed (wsV RX0 121 RX1 yX1_leastLimit wsX1_leastLimit) := goodIn_app (goodIn_of _ (by decide +kernel)) ggX0_allowedSpeed_X1_leastLimit
set_option maxRecDepth 20000 in
theorem ggX0_allowedSpeed_X3_stopMetres : GoodIn wsX0_allowedSpeed wsX3_stopMetres := goodIn_r _ [44] (by decide +kernel) (by decide +kernel)
set_option maxRecDepth 20000 in
theorem gX0_allowedSpeed_X3_stopMetres_n124 : GoodIn wsX0_allowedSpeed (wsX3_stopMetres) := ggX0_allowedSpeed_X3_stopMetres
theorem dX0_allowedSpeed_0 : decode cX0_allowedSpeed 0 = .ok (.aload_n 1, 1) := by decide +kernel
theorem dX0_allowedSpeed_1 : decode cX0_allowedSpeed 1 = .ok (.getfield 51, 3) := by decide +kernel
theorem dX0_allowedSpeed_4 : decode cX0_allowedSpeed 4 = .ok (.aload_n 1, 1) := by decide +kernel
theorem dX0_allowedSpeed_5 : decode cX0_allowedSpeed 5 = .ok (.getfield 48, 3) := by decide +kernel
theorem dX0_allowedSpeed_8 : decode cX0_allowedSpeed 8 = .ok (.isub, 1) := by decide +kernel
theorem dX0_allowedSpeed_9 : decode cX0_allowedSpeed 9 = .ok (.istore_n 2, 1) := by decide +kernel
theorem dX0_allowedSpeed_10 : decode cX0_allowedSpeed 10 = .ok (.aload_n 0, 1) := by decide +kernel
theorem dX0_allowedSpeed_11 : decode cX0_allowedSpeed 11 = .ok (.getfield 12, 3) := by decide +kernel
theorem dX0_allowedSpeed_14 : decode cX0_allowedSpeed 14 = .ok (.aload_n 1, 1) := by decide +kernel
theorem dX0_allowedSpeed_15 : decode cX0_allowedSpeed 15 = .ok (.getfield 58, 3) := by decide +kernel
theorem dX0_allowedSpeed_18 : decode cX0_allowedSpeed 18 = .ok (.invokevirtual 108, 3) := by decide +kernel
theorem dX0_allowedSpeed_21 : decode cX0_allowedSpeed 21 = .ok (.istore_n 3, 1) := by decide +kernel
theorem dX0_allowedSpeed_22 : decode cX0_allowedSpeed 22 = .ok (.iload_n 3, 1) := by decide +kernel
theorem dX0_allowedSpeed_23 : decode cX0_allowedSpeed 23 = .ok (.iconst (-1), 1) := by decide +kernel
theorem dX0_allowedSpeed_24 : decode cX0_allowedSpeed 24 = .ok (.if_icmp .eq 22, 3) := by decide +kernel
theorem dX0_allowedSpeed_27 : decode cX0_allowedSpeed 27 = .ok (.iload_n 2, 1) := by decide +kernel
theorem dX0_allowedSpeed_28 : decode cX0_allowedSpeed 28 = .ok (.aload_n 0, 1) := by decide +kernel
theorem dX0_allowedSpeed_29 : decode cX0_allowedSpeed 29 = .ok (.getfield 12, 3) := by decide +kernel
theorem dX0_allowedSpeed_32 : decode cX0_allowedSpeed 32 = .ok (.getfield 111, 3) := by decide +kernel
theorem dX0_allowedSpeed_35 : decode cX0_allowedSpeed 35 = .ok (.iload_n 3, 1) := by decide +kernel
theorem dX0_allowedSpeed_36 : decode cX0_allowedSpeed 36 = .ok (.iaload, 1) := by decide +kernel
theorem dX0_allowedSpeed_37 : decode cX0_allowedSpeed 37 = .ok (.aload_n 1, 1) := by decide +kernel
theorem dX0_allowedSpeed_38 : decode cX0_allowedSpeed 38 = .ok (.getfield 48, 3) := by decide +kernel
theorem dX0_allowedSpeed_41 : decode cX0_allowedSpeed 41 = .ok (.isub, 1) := by decide +kernel
theorem dX0_allowedSpeed_42 : decode cX0_allowedSpeed 42 = .ok (.invokestatic 114, 3) := by decide +kernel
theorem dX0_allowedSpeed_45 : decode cX0_allowedSpeed 45 = .ok (.istore_n 2, 1) := by decide +kernel
theorem dX0_allowedSpeed_46 : decode cX0_allowedSpeed 46 = .ok (.aload_n 0, 1) := by decide +kernel
theorem dX0_allowedSpeed_47 : decode cX0_allowedSpeed 47 = .ok (.aload_n 1, 1) := by decide +kernel
theorem dX0_allowedSpeed_48 : decode cX0_allowedSpeed 48 = .ok (.invokevirtual 117, 3) := by decide +kernel
theorem dX0_allowedSpeed_51 : decode cX0_allowedSpeed 51 = .ok (.istore 4, 2) := by decide +kernel
theorem dX0_allowedSpeed_53 : decode cX0_allowedSpeed 53 = .ok (.aload_n 0, 1) := by decide +kernel
theorem dX0_allowedSpeed_54 : decode cX0_allowedSpeed 54 = .ok (.getfield 12, 3) := by decide +kernel
theorem dX0_allowedSpeed_57 : decode cX0_allowedSpeed 57 = .ok (.aload_n 1, 1) := by decide +kernel
theorem dX0_allowedSpeed_58 : decode cX0_allowedSpeed 58 = .ok (.invokevirtual 69, 3) := by decide +kernel
theorem dX0_allowedSpeed_61 : decode cX0_allowedSpeed 61 = .ok (.aload_n 1, 1) := by decide +kernel
theorem dX0_allowedSpeed_62 : decode cX0_allowedSpeed 62 = .ok (.getfield 48, 3) := by decide +kernel
theorem dX0_allowedSpeed_65 : decode cX0_allowedSpeed 65 = .ok (.invokevirtual 121, 3) := by decide +kernel
theorem dX0_allowedSpeed_68 : decode cX0_allowedSpeed 68 = .ok (.istore 5, 2) := by decide +kernel
theorem dX0_allowedSpeed_70 : decode cX0_allowedSpeed 70 = .ok (.iload 5, 2) := by decide +kernel
theorem dX0_allowedSpeed_72 : decode cX0_allowedSpeed 72 = .ok (.ifCond .le 23, 3) := by decide +kernel
theorem dX0_allowedSpeed_75 : decode cX0_allowedSpeed 75 = .ok (.iload 5, 2) := by decide +kernel
theorem dX0_allowedSpeed_77 : decode cX0_allowedSpeed 77 = .ok (.iload 4, 2) := by decide +kernel
theorem dX0_allowedSpeed_79 : decode cX0_allowedSpeed 79 = .ok (.invokestatic 124, 3) := by decide +kernel
theorem dX0_allowedSpeed_82 : decode cX0_allowedSpeed 82 = .ok (.iload_n 2, 1) := by decide +kernel
theorem dX0_allowedSpeed_83 : decode cX0_allowedSpeed 83 = .ok (.if_icmp .gt 6, 3) := by decide +kernel
theorem dX0_allowedSpeed_86 : decode cX0_allowedSpeed 86 = .ok (.iload 5, 2) := by decide +kernel
theorem dX0_allowedSpeed_88 : decode cX0_allowedSpeed 88 = .ok (.ireturn, 1) := by decide +kernel
theorem dX0_allowedSpeed_89 : decode cX0_allowedSpeed 89 = .ok (.iinc 5 (-1), 3) := by decide +kernel
theorem dX0_allowedSpeed_92 : decode cX0_allowedSpeed 92 = .ok (.goto (-22), 3) := by decide +kernel
theorem dX0_allowedSpeed_95 : decode cX0_allowedSpeed 95 = .ok (.iconst 0, 1) := by decide +kernel
theorem dX0_allowedSpeed_96 : decode cX0_allowedSpeed 96 = .ok (.ireturn, 1) := by decide +kernel
theorem dX0_isFresh_0 : decode cX0_isFresh 0 = .ok (.aload_n 0, 1) := by decide +kernel
theorem dX0_isFresh_1 : decode cX0_isFresh 1 = .ok (.getfield 28, 3) := by decide +kernel
theorem dX0_isFresh_4 : decode cX0_isFresh 4 = .ok (.aload_n 1, 1) := by decide +kernel
theorem dX0_isFresh_5 : decode cX0_isFresh 5 = .ok (.getfield 127, 3) := by decide +kernel
theorem dX0_isFresh_8 : decode cX0_isFresh 8 = .ok (.isub, 1) := by decide +kernel
theorem dX0_isFresh_9 : decode cX0_isFresh 9 = .ok (.iconst 3, 1) := by decide +kernel
theorem dX0_isFresh_10 : decode cX0_isFresh 10 = .ok (.if_icmp .gt 7, 3) := by decide +kernel
theorem dX0_isFresh_13 : decode cX0_isFresh 13 = .ok (.iconst 1, 1) := by decide +kernel
theorem dX0_isFresh_14 : decode cX0_isFresh 14 = .ok (.goto 4, 3) := by decide +kernel
theorem dX0_isFresh_17 : decode cX0_isFresh 17 = .ok (.iconst 0, 1) := by decide +kernel
theorem dX0_isFresh_18 : decode cX0_isFresh 18 = .ok (.ireturn, 1) := by decide +kernel
theorem dX0_boundByEnd_0 : decode cX0_boundByEnd 0 = .ok (.sipush 2999, 3) := by decide +kernel
theorem dX0_boundByEnd_3 : decode cX0_boundByEnd 3 = .ok (.aload_n 1, 1) := by decide +kernel
theorem dX0_boundByEnd_4 : decode cX0_boundByEnd 4 = .ok (.getfield 39, 3) := by decide +kernel
theorem dX0_boundByEnd_7 : decode cX0_boundByEnd 7 = .ok (.iadd, 1) := by decide +kernel
theorem dX0_boundByEnd_8 : decode cX0_boundByEnd 8 = .ok (.ireturn, 1) := by decide +kernel
set_option maxRecDepth 20000 in
theorem ggX0_boundByAhead_X0_aheadOf : GoodIn wsX0_boundByAhead wsX0_aheadOf := goodIn_r _ [8, 2, 9, 21, 22, 23, 24, 25, 26, 27, 28, 29, 30, 31, 32, 33, 34, 35, 36, 37, 38, 39, 40, 41, 42] (by decide +kernel) (by decide +kernel)
set_option maxRecDepth 20000 in
theorem gX0_boundByAhead_X0_aheadOf : GoodIn wsX0_boundByAhead (wsV RX0 130 RX0 yX0_aheadOf wsX0_aheadOf) := goodIn_app (goodIn_of _ (by decide +kernel)) ggX0_boundByAhead_X0_aheadOf
set_option maxRecDepth 20000 in
theorem ggX0_boundByAhead_X0_isFresh : GoodIn wsX0_boundByAhead wsX0_isFresh := goodIn_r _ [13, 14, 15, 21, 22, 23, 24, 25, 26, 27, 28, 29, 30, 31, 32, 33, 34, 35, 36, 37, 38, 39, 40, 41, 42] (by decide +kernel) (by decide +kernel)
set_option maxRecDepth 20000 in
theorem gX0_boundByAhead_X0_isFresh : GoodIn wsX0_boundByAhead (wsV RX0 137 RX0 yX0_isFresh wsX0_isFresh) := goodIn_app (goodIn_of _ (by decide +kernel)) ggX0_boundByAhead_X0_isFresh
set_option maxRecDepth 20000 in
theorem ggX0_boundByAhead_X3_sectionAt : GoodIn wsX0_boundByAhead wsX3_sectionAt := goodIn_r _ [18] (by decide +kernel) (by decide +kernel)
set_option maxRecDepth 20000 in
theorem gX0_boundByAhead_X3_sectionAt_n99 : GoodIn wsX0_boundByAhead (wsX3_sectionAt) := ggX0_boundByAhead_X3_sectionAt
set_option maxRecDepth 20000 in
theorem ggX0_boundByAhead_X3_firstMetreOf : GoodIn wsX0_boundByAhead wsX3_firstMetreOf := goodIn_r _ [20] (by decide +kernel) (by decide +kernel)
set_option maxRecDepth 20000 in
theorem gX0_boundByAhead_X3_firstMetreOf_n141 : GoodIn wsX0_boundByAhead (wsX3_firstMetreOf) := ggX0_boundByAhead_X3_firstMetreOf
theorem dX0_boundByAhead_0 : decode cX0_boundByAhead 0 = .ok (.aload_n 0, 1) := by decide +kernel
theorem dX0_boundByAhead_1 : decode cX0_boundByAhead 1 = .ok (.iload_n 1, 1) := by decide +kernel
theorem dX0_boundByAhead_2 : decode cX0_boundByAhead 2 = .ok (.invokevirtual 130, 3) := by decide +kernel
theorem dX0_boundByAhead_5 : decode cX0_boundByAhead 5 = .ok (.istore_n 2, 1) := by decide +kernel
theorem dX0_boundByAhead_6 : decode cX0_boundByAhead 6 = .ok (.iload_n 2, 1) := by decide +kernel
theorem dX0_boundByAhead_7 : decode cX0_boundByAhead 7 = .ok (.iconst (-1), 1) := by decide +kernel
theorem dX0_boundByAhead_8 : decode cX0_boundByAhead 8 = .ok (.if_icmp .ne 6, 3) := by decide +kernel
theorem dX0_boundByAhead_11 : decode cX0_boundByAhead 11 = .ok (.ldc 133, 2) := by decide +kernel
theorem dX0_boundByAhead_13 : decode cX0_boundByAhead 13 = .ok (.ireturn, 1) := by decide +kernel
theorem dX0_boundByAhead_14 : decode cX0_boundByAhead 14 = .ok (.aload_n 0, 1) := by decide +kernel
theorem dX0_boundByAhead_15 : decode cX0_boundByAhead 15 = .ok (.getfield 20, 3) := by decide +kernel
theorem dX0_boundByAhead_18 : decode cX0_boundByAhead 18 = .ok (.iload_n 2, 1) := by decide +kernel
theorem dX0_boundByAhead_19 : decode cX0_boundByAhead 19 = .ok (.aaload, 1) := by decide +kernel
theorem dX0_boundByAhead_20 : decode cX0_boundByAhead 20 = .ok (.getfield 134, 3) := by decide +kernel
theorem dX0_boundByAhead_23 : decode cX0_boundByAhead 23 = .ok (.istore_n 3, 1) := by decide +kernel
theorem dX0_boundByAhead_24 : decode cX0_boundByAhead 24 = .ok (.aload_n 0, 1) := by decide +kernel
theorem dX0_boundByAhead_25 : decode cX0_boundByAhead 25 = .ok (.aload_n 0, 1) := by decide +kernel
theorem dX0_boundByAhead_26 : decode cX0_boundByAhead 26 = .ok (.getfield 20, 3) := by decide +kernel
theorem dX0_boundByAhead_29 : decode cX0_boundByAhead 29 = .ok (.iload_n 2, 1) := by decide +kernel
theorem dX0_boundByAhead_30 : decode cX0_boundByAhead 30 = .ok (.aaload, 1) := by decide +kernel
theorem dX0_boundByAhead_31 : decode cX0_boundByAhead 31 = .ok (.invokevirtual 137, 3) := by decide +kernel
theorem dX0_boundByAhead_34 : decode cX0_boundByAhead 34 = .ok (.ifCond .eq 10, 3) := by decide +kernel
theorem dX0_boundByAhead_37 : decode cX0_boundByAhead 37 = .ok (.iload_n 3, 1) := by decide +kernel
theorem dX0_boundByAhead_38 : decode cX0_boundByAhead 38 = .ok (.bipush 10, 2) := by decide +kernel
theorem dX0_boundByAhead_40 : decode cX0_boundByAhead 40 = .ok (.isub, 1) := by decide +kernel
theorem dX0_boundByAhead_41 : decode cX0_boundByAhead 41 = .ok (.goto 12, 3) := by decide +kernel
theorem dX0_boundByAhead_44 : decode cX0_boundByAhead 44 = .ok (.iload_n 3, 1) := by decide +kernel
theorem dX0_boundByAhead_45 : decode cX0_boundByAhead 45 = .ok (.invokestatic 99, 3) := by decide +kernel
theorem dX0_boundByAhead_48 : decode cX0_boundByAhead 48 = .ok (.invokestatic 141, 3) := by decide +kernel
theorem dX0_boundByAhead_51 : decode cX0_boundByAhead 51 = .ok (.iconst 1, 1) := by decide +kernel
theorem dX0_boundByAhead_52 : decode cX0_boundByAhead 52 = .ok (.isub, 1) := by decide +kernel
theorem dX0_boundByAhead_53 : decode cX0_boundByAhead 53 = .ok (.ireturn, 1) := by decide +kernel
set_option maxRecDepth 20000 in
theorem ggX0_leastBound_X0_boundByEnd : GoodIn wsX0_leastBound wsX0_boundByEnd := goodIn_r _ [12, 13, 49, 50, 51, 52, 53, 54, 55, 56, 57, 58, 59, 60, 61, 62, 63, 64, 65, 66] (by decide +kernel) (by decide +kernel)
set_option maxRecDepth 20000 in
theorem gX0_leastBound_X0_boundByEnd : GoodIn wsX0_leastBound (wsV RX0 144 RX0 yX0_boundByEnd wsX0_boundByEnd) := goodIn_app (goodIn_of _ (by decide +kernel)) ggX0_leastBound_X0_boundByEnd
set_option maxRecDepth 20000 in
theorem ggX0_leastBound_X0_boundByAhead : GoodIn wsX0_leastBound wsX0_boundByAhead := goodIn_r _ [17, 18, 1, 19, 20, 21, 22, 11, 23, 24, 25, 26, 27, 28, 29, 30, 31, 32, 33, 34, 35, 45, 46, 47, 48, 49, 50, 51, 52, 53, 54, 55, 56, 57, 58, 59, 60, 61, 62, 63, 64, 65, 66] (by decide +kernel) (by decide +kernel)
set_option maxRecDepth 20000 in
theorem gX0_leastBound_X0_boundByAhead : GoodIn wsX0_leastBound (wsV RX0 147 RX0 yX0_boundByAhead wsX0_boundByAhead) := goodIn_app (goodIn_of _ (by decide +kernel)) ggX0_leastBound_X0_boundByAhead
set_option maxRecDepth 20000 in
theorem ggX0_leastBound_X1_boundByWorks : GoodIn wsX0_leastBound wsX1_boundByWorks := goodIn_r _ [40, 41, 42, 43, 44, 3, 4, 5, 34, 32, 35, 67, 68, 69, 70, 71, 72, 73, 74, 75, 76] (by decide +kernel) (by decide +kernel)
set_option maxRecDepth 20000 in
theorem gX0_leastBound_X1_boundByWorks : GoodIn wsX0_leastBound (wsV RX0 150 RX1 yX1_boundByWorks wsX1_boundByWorks) := goodIn_app (goodIn_of _ (by decide +kernel)) ggX0_leastBound_X1_boundByWorks
theorem dX0_leastBound_0 : decode cX0_leastBound 0 = .ok (.aload_n 0, 1) := by decide +kernel
theorem dX0_leastBound_1 : decode cX0_leastBound 1 = .ok (.aload_n 0, 1) := by decide +kernel
theorem dX0_leastBound_2 : decode cX0_leastBound 2 = .ok (.getfield 20, 3) := by decide +kernel
theorem dX0_leastBound_5 : decode cX0_leastBound 5 = .ok (.iload_n 1, 1) := by decide +kernel
theorem dX0_leastBound_6 : decode cX0_leastBound 6 = .ok (.aaload, 1) := by decide +kernel
theorem dX0_leastBound_7 : decode cX0_leastBound 7 = .ok (.invokevirtual 144, 3) := by decide +kernel
theorem dX0_leastBound_10 : decode cX0_leastBound 10 = .ok (.aload_n 0, 1) := by decide +kernel
theorem dX0_leastBound_11 : decode cX0_leastBound 11 = .ok (.iload_n 1, 1) := by decide +kernel
theorem dX0_leastBound_12 : decode cX0_leastBound 12 = .ok (.invokevirtual 147, 3) := by decide +kernel
theorem dX0_leastBound_15 : decode cX0_leastBound 15 = .ok (.invokestatic 114, 3) := by decide +kernel
theorem dX0_leastBound_18 : decode cX0_leastBound 18 = .ok (.istore_n 2, 1) := by decide +kernel
theorem dX0_leastBound_19 : decode cX0_leastBound 19 = .ok (.iload_n 2, 1) := by decide +kernel
theorem dX0_leastBound_20 : decode cX0_leastBound 20 = .ok (.aload_n 0, 1) := by decide +kernel
theorem dX0_leastBound_21 : decode cX0_leastBound 21 = .ok (.getfield 12, 3) := by decide +kernel
theorem dX0_leastBound_24 : decode cX0_leastBound 24 = .ok (.aload_n 0, 1) := by decide +kernel
theorem dX0_leastBound_25 : decode cX0_leastBound 25 = .ok (.getfield 20, 3) := by decide +kernel
theorem dX0_leastBound_28 : decode cX0_leastBound 28 = .ok (.iload_n 1, 1) := by decide +kernel
theorem dX0_leastBound_29 : decode cX0_leastBound 29 = .ok (.aaload, 1) := by decide +kernel
theorem dX0_leastBound_30 : decode cX0_leastBound 30 = .ok (.getfield 48, 3) := by decide +kernel
theorem dX0_leastBound_33 : decode cX0_leastBound 33 = .ok (.invokevirtual 150, 3) := by decide +kernel
theorem dX0_leastBound_36 : decode cX0_leastBound 36 = .ok (.invokestatic 114, 3) := by decide +kernel
theorem dX0_leastBound_39 : decode cX0_leastBound 39 = .ok (.ireturn, 1) := by decide +kernel
set_option maxRecDepth 20000 in
theorem ggX0_reasonOf_X0_leastBound : GoodIn wsX0_reasonOf wsX0_leastBound := goodIn_r _ [7, 1, 8, 9, 10, 11, 12, 2, 13, 14, 15, 6, 16, 17, 18, 19, 20, 21, 22, 23, 24, 25, 26, 27, 28, 29, 30, 31, 32, 33, 34, 35, 36, 37, 38, 39, 40, 41, 42, 43, 44, 45, 46, 47, 48, 49, 50, 51, 52, 53, 54, 55, 56, 57, 58, 59, 60, 61, 62, 63, 64, 65, 66, 67, 68, 69, 70, 71, 72, 73, 74, 75, 76, 77, 78, 79, 80] (by decide +kernel) (by decide +kernel)
set_option maxRecDepth 20000 in
theorem gX0_reasonOf_X0_leastBound : GoodIn wsX0_reasonOf (wsV RX0 153 RX0 yX0_leastBound wsX0_leastBound) := goodIn_app (goodIn_of _ (by decide +kernel)) ggX0_reasonOf_X0_leastBound
set_option maxRecDepth 20000 in
theorem ggX0_reasonOf_X0_boundByEnd : GoodIn wsX0_reasonOf wsX0_boundByEnd := goodIn_r _ [16, 17, 53, 54, 55, 56, 57, 58, 59, 60, 61, 62, 63, 64, 65, 66, 67, 68, 69, 70] (by decide +kernel) (by decide +kernel)
set_option maxRecDepth 20000 in
theorem gX0_reasonOf_X0_boundByEnd : GoodIn wsX0_reasonOf (wsV RX0 144 RX0 yX0_boundByEnd wsX0_boundByEnd) := goodIn_app (goodIn_of _ (by decide +kernel)) ggX0_reasonOf_X0_boundByEnd
set_option maxRecDepth 20000 in
theorem ggX0_reasonOf_X0_aheadOf : GoodIn wsX0_reasonOf wsX0_aheadOf := goodIn_r _ [27, 1, 28, 49, 50, 51, 52, 53, 54, 55, 56, 57, 58, 59, 60, 61, 62, 63, 64, 65, 66, 67, 68, 69, 70] (by decide +kernel) (by decide +kernel)
set_option maxRecDepth 20000 in
theorem gX0_reasonOf_X0_aheadOf : GoodIn wsX0_reasonOf (wsV RX0 130 RX0 yX0_aheadOf wsX0_aheadOf) := goodIn_app (goodIn_of _ (by decide +kernel)) ggX0_reasonOf_X0_aheadOf
set_option maxRecDepth 20000 in
theorem ggX0_reasonOf_X0_boundByAhead : GoodIn wsX0_reasonOf wsX0_boundByAhead := goodIn_r _ [21, 22, 1, 23, 24, 25, 26, 6, 27, 28, 29, 30, 31, 32, 33, 34, 35, 36, 37, 38, 39, 49, 50, 51, 52, 53, 54, 55, 56, 57, 58, 59, 60, 61, 62, 63, 64, 65, 66, 67, 68, 69, 70] (by decide +kernel) (by decide +kernel)
set_option maxRecDepth 20000 in
theorem gX0_reasonOf_X0_boundByAhead : GoodIn wsX0_reasonOf (wsV RX0 147 RX0 yX0_boundByAhead wsX0_boundByAhead) := goodIn_app (goodIn_of _ (by decide +kernel)) ggX0_reasonOf_X0_boundByAhead
set_option maxRecDepth 20000 in
theorem ggX0_reasonOf_X0_isFresh : GoodIn wsX0_reasonOf wsX0_isFresh := goodIn_r _ [32, 33, 34, 49, 50, 51, 52, 53, 54, 55, 56, 57, 58, 59, 60, 61, 62, 63, 64, 65, 66, 67, 68, 69, 70] (by decide +kernel) (by decide +kernel)
set_option maxRecDepth 20000 in
theorem gX0_reasonOf_X0_isFresh : GoodIn wsX0_reasonOf (wsV RX0 137 RX0 yX0_isFresh wsX0_isFresh) := goodIn_app (goodIn_of _ (by decide +kernel)) ggX0_reasonOf_X0_isFresh
theorem dX0_reasonOf_0 : decode cX0_reasonOf 0 = .ok (.aload_n 0, 1) := by decide +kernel
theorem dX0_reasonOf_1 : decode cX0_reasonOf 1 = .ok (.iload_n 1, 1) := by decide +kernel
theorem dX0_reasonOf_2 : decode cX0_reasonOf 2 = .ok (.invokevirtual 153, 3) := by decide +kernel
theorem dX0_reasonOf_5 : decode cX0_reasonOf 5 = .ok (.istore_n 2, 1) := by decide +kernel
theorem dX0_reasonOf_6 : decode cX0_reasonOf 6 = .ok (.iload_n 2, 1) := by decide +kernel
theorem dX0_reasonOf_7 : decode cX0_reasonOf 7 = .ok (.aload_n 0, 1) := by decide +kernel
theorem dX0_reasonOf_8 : decode cX0_reasonOf 8 = .ok (.getfield 20, 3) := by decide +kernel
theorem dX0_reasonOf_11 : decode cX0_reasonOf 11 = .ok (.iload_n 1, 1) := by decide +kernel
theorem dX0_reasonOf_12 : decode cX0_reasonOf 12 = .ok (.aaload, 1) := by decide +kernel
theorem dX0_reasonOf_13 : decode cX0_reasonOf 13 = .ok (.getfield 48, 3) := by decide +kernel
theorem dX0_reasonOf_16 : decode cX0_reasonOf 16 = .ok (.if_icmp .ge 5, 3) := by decide +kernel
theorem dX0_reasonOf_19 : decode cX0_reasonOf 19 = .ok (.iconst 4, 1) := by decide +kernel
theorem dX0_reasonOf_20 : decode cX0_reasonOf 20 = .ok (.ireturn, 1) := by decide +kernel
theorem dX0_reasonOf_21 : decode cX0_reasonOf 21 = .ok (.iload_n 2, 1) := by decide +kernel
theorem dX0_reasonOf_22 : decode cX0_reasonOf 22 = .ok (.aload_n 0, 1) := by decide +kernel
theorem dX0_reasonOf_23 : decode cX0_reasonOf 23 = .ok (.aload_n 0, 1) := by decide +kernel
theorem dX0_reasonOf_24 : decode cX0_reasonOf 24 = .ok (.getfield 20, 3) := by decide +kernel
theorem dX0_reasonOf_27 : decode cX0_reasonOf 27 = .ok (.iload_n 1, 1) := by decide +kernel
theorem dX0_reasonOf_28 : decode cX0_reasonOf 28 = .ok (.aaload, 1) := by decide +kernel
theorem dX0_reasonOf_29 : decode cX0_reasonOf 29 = .ok (.invokevirtual 144, 3) := by decide +kernel
theorem dX0_reasonOf_32 : decode cX0_reasonOf 32 = .ok (.if_icmp .ne 5, 3) := by decide +kernel
theorem dX0_reasonOf_35 : decode cX0_reasonOf 35 = .ok (.iconst 0, 1) := by decide +kernel
theorem dX0_reasonOf_36 : decode cX0_reasonOf 36 = .ok (.ireturn, 1) := by decide +kernel
theorem dX0_reasonOf_37 : decode cX0_reasonOf 37 = .ok (.aload_n 0, 1) := by decide +kernel
theorem dX0_reasonOf_38 : decode cX0_reasonOf 38 = .ok (.iload_n 1, 1) := by decide +kernel
theorem dX0_reasonOf_39 : decode cX0_reasonOf 39 = .ok (.invokevirtual 130, 3) := by decide +kernel
theorem dX0_reasonOf_42 : decode cX0_reasonOf 42 = .ok (.istore_n 3, 1) := by decide +kernel
theorem dX0_reasonOf_43 : decode cX0_reasonOf 43 = .ok (.iload_n 3, 1) := by decide +kernel
theorem dX0_reasonOf_44 : decode cX0_reasonOf 44 = .ok (.iconst (-1), 1) := by decide +kernel
theorem dX0_reasonOf_45 : decode cX0_reasonOf 45 = .ok (.if_icmp .eq 31, 3) := by decide +kernel
theorem dX0_reasonOf_48 : decode cX0_reasonOf 48 = .ok (.iload_n 2, 1) := by decide +kernel
theorem dX0_reasonOf_49 : decode cX0_reasonOf 49 = .ok (.aload_n 0, 1) := by decide +kernel
theorem dX0_reasonOf_50 : decode cX0_reasonOf 50 = .ok (.iload_n 1, 1) := by decide +kernel
theorem dX0_reasonOf_51 : decode cX0_reasonOf 51 = .ok (.invokevirtual 147, 3) := by decide +kernel
theorem dX0_reasonOf_54 : decode cX0_reasonOf 54 = .ok (.if_icmp .ne 22, 3) := by decide +kernel
theorem dX0_reasonOf_57 : decode cX0_reasonOf 57 = .ok (.aload_n 0, 1) := by decide +kernel
theorem dX0_reasonOf_58 : decode cX0_reasonOf 58 = .ok (.aload_n 0, 1) := by decide +kernel
theorem dX0_reasonOf_59 : decode cX0_reasonOf 59 = .ok (.getfield 20, 3) := by decide +kernel
theorem dX0_reasonOf_62 : decode cX0_reasonOf 62 = .ok (.iload_n 3, 1) := by decide +kernel
theorem dX0_reasonOf_63 : decode cX0_reasonOf 63 = .ok (.aaload, 1) := by decide +kernel
theorem dX0_reasonOf_64 : decode cX0_reasonOf 64 = .ok (.invokevirtual 137, 3) := by decide +kernel
theorem dX0_reasonOf_67 : decode cX0_reasonOf 67 = .ok (.ifCond .eq 7, 3) := by decide +kernel
theorem dX0_reasonOf_70 : decode cX0_reasonOf 70 = .ok (.iconst 1, 1) := by decide +kernel
theorem dX0_reasonOf_71 : decode cX0_reasonOf 71 = .ok (.goto 4, 3) := by decide +kernel
theorem dX0_reasonOf_74 : decode cX0_reasonOf 74 = .ok (.iconst 2, 1) := by decide +kernel
theorem dX0_reasonOf_75 : decode cX0_reasonOf 75 = .ok (.ireturn, 1) := by decide +kernel
theorem dX0_reasonOf_76 : decode cX0_reasonOf 76 = .ok (.iconst 3, 1) := by decide +kernel
theorem dX0_reasonOf_77 : decode cX0_reasonOf 77 = .ok (.ireturn, 1) := by decide +kernel
set_option maxRecDepth 20000 in
theorem ggX0_hindranceOfWorks_X0_countOn : GoodIn wsX0_hindranceOfWorks wsX0_countOn := goodIn_r _ [10, 1, 2, 3, 11, 12, 13, 14, 15, 16, 17, 18, 19, 20, 21, 22, 23, 24, 27, 28, 29, 30, 31, 32, 33, 34, 35, 36, 37, 38, 39, 40, 41, 42, 43, 44, 45, 46, 47, 48] (by decide +kernel) (by decide +kernel)
set_option maxRecDepth 20000 in
theorem gX0_hindranceOfWorks_X0_countOn : GoodIn wsX0_hindranceOfWorks (wsV RX0 156 RX0 yX0_countOn wsX0_countOn) := goodIn_app (goodIn_of _ (by decide +kernel)) ggX0_hindranceOfWorks_X0_countOn
set_option maxRecDepth 20000 in
theorem ggX0_hindranceOfWorks_X3_firstMetreOf : GoodIn wsX0_hindranceOfWorks wsX3_firstMetreOf := goodIn_r _ [26] (by decide +kernel) (by decide +kernel)
set_option maxRecDepth 20000 in
theorem gX0_hindranceOfWorks_X3_firstMetreOf_n141 : GoodIn wsX0_hindranceOfWorks (wsX3_firstMetreOf) := ggX0_hindranceOfWorks_X3_firstMetreOf
theorem dX0_hindranceOfWorks_0 : decode cX0_hindranceOfWorks 0 = .ok (.aload_n 0, 1) := by decide +kernel
theorem dX0_hindranceOfWorks_1 : decode cX0_hindranceOfWorks 1 = .ok (.iload_n 1, 1) := by decide +kernel
theorem dX0_hindranceOfWorks_2 : decode cX0_hindranceOfWorks 2 = .ok (.iload_n 2, 1) := by decide +kernel
theorem dX0_hindranceOfWorks_3 : decode cX0_hindranceOfWorks 3 = .ok (.invokevirtual 156, 3) := by decide +kernel
theorem dX0_hindranceOfWorks_6 : decode cX0_hindranceOfWorks 6 = .ok (.ifCond .le 6, 3) := by decide +kernel
theorem dX0_hindranceOfWorks_9 : decode cX0_hindranceOfWorks 9 = .ok (.bipush (-2), 2) := by decide +kernel
theorem dX0_hindranceOfWorks_11 : decode cX0_hindranceOfWorks 11 = .ok (.ireturn, 1) := by decide +kernel
theorem dX0_hindranceOfWorks_12 : decode cX0_hindranceOfWorks 12 = .ok (.iload_n 1, 1) := by decide +kernel
theorem dX0_hindranceOfWorks_13 : decode cX0_hindranceOfWorks 13 = .ok (.invokestatic 141, 3) := by decide +kernel
theorem dX0_hindranceOfWorks_16 : decode cX0_hindranceOfWorks 16 = .ok (.istore_n 3, 1) := by decide +kernel
theorem dX0_hindranceOfWorks_17 : decode cX0_hindranceOfWorks 17 = .ok (.iconst 0, 1) := by decide +kernel
theorem dX0_hindranceOfWorks_18 : decode cX0_hindranceOfWorks 18 = .ok (.istore 4, 2) := by decide +kernel
theorem dX0_hindranceOfWorks_20 : decode cX0_hindranceOfWorks 20 = .ok (.iload 4, 2) := by decide +kernel
theorem dX0_hindranceOfWorks_22 : decode cX0_hindranceOfWorks 22 = .ok (.aload_n 0, 1) := by decide +kernel
theorem dX0_hindranceOfWorks_23 : decode cX0_hindranceOfWorks 23 = .ok (.getfield 24, 3) := by decide +kernel
theorem dX0_hindranceOfWorks_26 : decode cX0_hindranceOfWorks 26 = .ok (.if_icmp .ge 47, 3) := by decide +kernel
theorem dX0_hindranceOfWorks_29 : decode cX0_hindranceOfWorks 29 = .ok (.aload_n 0, 1) := by decide +kernel
theorem dX0_hindranceOfWorks_30 : decode cX0_hindranceOfWorks 30 = .ok (.getfield 20, 3) := by decide +kernel
theorem dX0_hindranceOfWorks_33 : decode cX0_hindranceOfWorks 33 = .ok (.iload 4, 2) := by decide +kernel
theorem dX0_hindranceOfWorks_35 : decode cX0_hindranceOfWorks 35 = .ok (.aaload, 1) := by decide +kernel
theorem dX0_hindranceOfWorks_36 : decode cX0_hindranceOfWorks 36 = .ok (.astore 5, 2) := by decide +kernel
theorem dX0_hindranceOfWorks_38 : decode cX0_hindranceOfWorks 38 = .ok (.aload 5, 2) := by decide +kernel
theorem dX0_hindranceOfWorks_40 : decode cX0_hindranceOfWorks 40 = .ok (.getfield 65, 3) := by decide +kernel
theorem dX0_hindranceOfWorks_43 : decode cX0_hindranceOfWorks 43 = .ok (.ifCond .ne 24, 3) := by decide +kernel
theorem dX0_hindranceOfWorks_46 : decode cX0_hindranceOfWorks 46 = .ok (.aload 5, 2) := by decide +kernel
theorem dX0_hindranceOfWorks_48 : decode cX0_hindranceOfWorks 48 = .ok (.getfield 48, 3) := by decide +kernel
theorem dX0_hindranceOfWorks_51 : decode cX0_hindranceOfWorks 51 = .ok (.iload_n 3, 1) := by decide +kernel
theorem dX0_hindranceOfWorks_52 : decode cX0_hindranceOfWorks 52 = .ok (.if_icmp .ge 15, 3) := by decide +kernel
theorem dX0_hindranceOfWorks_55 : decode cX0_hindranceOfWorks 55 = .ok (.aload 5, 2) := by decide +kernel
theorem dX0_hindranceOfWorks_57 : decode cX0_hindranceOfWorks 57 = .ok (.getfield 51, 3) := by decide +kernel
theorem dX0_hindranceOfWorks_60 : decode cX0_hindranceOfWorks 60 = .ok (.iload_n 3, 1) := by decide +kernel
theorem dX0_hindranceOfWorks_61 : decode cX0_hindranceOfWorks 61 = .ok (.if_icmp .lt 6, 3) := by decide +kernel
theorem dX0_hindranceOfWorks_64 : decode cX0_hindranceOfWorks 64 = .ok (.bipush (-3), 2) := by decide +kernel
theorem dX0_hindranceOfWorks_66 : decode cX0_hindranceOfWorks 66 = .ok (.ireturn, 1) := by decide +kernel
theorem dX0_hindranceOfWorks_67 : decode cX0_hindranceOfWorks 67 = .ok (.iinc 4 1, 3) := by decide +kernel
theorem dX0_hindranceOfWorks_70 : decode cX0_hindranceOfWorks 70 = .ok (.goto (-50), 3) := by decide +kernel
theorem dX0_hindranceOfWorks_73 : decode cX0_hindranceOfWorks 73 = .ok (.iconst 0, 1) := by decide +kernel
theorem dX0_hindranceOfWorks_74 : decode cX0_hindranceOfWorks 74 = .ok (.ireturn, 1) := by decide +kernel
set_option maxRecDepth 20000 in
theorem ggX0_goOn_X0_reportAll : GoodIn wsX0_goOn wsX0_reportAll := goodIn_r _ [16, 2, 3, 4, 1, 17, 18, 19, 15, 20, 21, 22, 5, 23, 24, 25, 26, 27, 28, 29, 30, 31, 32, 33, 34, 35, 36, 37, 38, 39, 40, 151, 152, 153, 154, 155, 156, 157, 158, 159, 160, 161, 162, 163, 164, 165, 166, 167, 168, 169, 170, 171, 172, 173, 174, 175, 176, 177, 178, 179, 180, 181, 182] (by decide +kernel) (by decide +kernel)
set_option maxRecDepth 20000 in
theorem gX0_goOn_X0_reportAll : GoodIn wsX0_goOn (wsV RX0 159 RX0 yX0_reportAll wsX0_reportAll) := goodIn_app (goodIn_of _ (by decide +kernel)) ggX0_goOn_X0_reportAll
set_option maxRecDepth 20000 in
theorem ggX0_goOn_X0_hasRadio : GoodIn wsX0_goOn wsX0_hasRadio := goodIn_r _ [20, 21, 22, 5, 23, 24, 25, 151, 152, 153, 154, 173, 174, 175, 176, 177, 178, 179, 180, 181, 182, 155, 156, 157, 158, 159, 160, 161, 162, 163, 164, 165, 166, 167, 168, 169, 170, 171, 172] (by decide +kernel) (by decide +kernel)
set_option maxRecDepth 20000 in
theorem gX0_goOn_X0_hasRadio : GoodIn wsX0_goOn (wsV RX0 162 RX0 yX0_hasRadio wsX0_hasRadio) := goodIn_app (goodIn_of _ (by decide +kernel)) ggX0_goOn_X0_hasRadio
set_option maxRecDepth 20000 in
theorem ggX0_goOn_X0_leastBound : GoodIn wsX0_goOn wsX0_leastBound := goodIn_r _ [44, 3, 45, 46, 8, 47, 21, 5, 48, 49, 50, 15, 51, 52, 53, 54, 55, 56, 57, 58, 59, 60, 61, 62, 4, 63, 64, 65, 66, 1, 67, 23, 24, 25, 68, 69, 70, 71, 72, 73, 74, 75, 76, 77, 78, 151, 152, 153, 154, 155, 156, 157, 158, 159, 160, 161, 162, 163, 164, 165, 166, 167, 168, 169, 170, 171, 172, 173, 174, 175, 176, 177, 178, 179, 180, 181, 182] (by decide +kernel) (by decide +kernel)
set_option maxRecDepth 20000 in
theorem gX0_goOn_X0_leastBound : GoodIn wsX0_goOn (wsV RX0 153 RX0 yX0_leastBound wsX0_leastBound) := goodIn_app (goodIn_of _ (by decide +kernel)) ggX0_goOn_X0_leastBound
set_option maxRecDepth 20000 in
theorem ggX0_goOn_X0_go : GoodIn wsX0_goOn wsX0_go := goodIn_r _ [82, 83, 84, 85, 45, 46, 8, 47, 6, 7, 9, 86, 5, 87, 88, 89, 15, 90, 10, 21, 91, 92, 93, 94, 95, 73, 96, 97, 98, 99, 100, 101, 102, 103, 104, 23, 24, 25, 105, 37, 38, 29, 39, 31, 40, 106, 107, 108, 109, 110, 78, 111, 112, 113, 114, 115, 116, 117, 118, 119, 120, 121, 122, 123, 124, 125, 126, 127, 128, 129, 130, 131, 132, 133, 134, 155, 156, 157, 158, 159, 160, 161, 162, 163, 164, 165, 166, 167, 168, 169, 170, 171, 172, 151, 152, 153, 154, 173, 174, 175, 176, 177, 178, 179, 180, 181, 182] (by decide +kernel) (by decide +kernel)
set_option maxRecDepth 20000 in
theorem gX0_goOn_X0_go : GoodIn wsX0_goOn (wsV RX0 165 RX0 yX0_go wsX0_go) := goodIn_app (goodIn_of _ (by decide +kernel)) ggX0_goOn_X0_go
set_option maxRecDepth 20000 in
theorem ggX0_goOn_X0_look : GoodIn wsX0_goOn wsX0_look := goodIn_r _ [138, 3, 5, 10, 139, 140, 45, 46, 8, 47, 59, 60, 61, 15, 62, 4, 105, 37, 38, 29, 39, 31, 40, 141, 142, 143, 144, 145, 146, 151, 152, 153, 154, 155, 156, 157, 158, 159, 160, 161, 162, 163, 164, 165, 166, 167, 168, 169, 170, 171, 172] (by decide +kernel) (by decide +kernel)
set_option maxRecDepth 20000 in
theorem gX0_goOn_X0_look : GoodIn wsX0_goOn (wsV RX0 168 RX0 yX0_look wsX0_look) := goodIn_app (goodIn_of _ (by decide +kernel)) ggX0_goOn_X0_look
set_option maxRecDepth 20000 in
theorem ggX0_goOn_X0_leaveAll : GoodIn wsX0_goOn wsX0_leaveAll := goodIn_r _ [150, 2, 3, 4, 84, 105, 37, 38, 29, 39, 31, 40, 151, 152, 153, 154, 155, 156, 157, 158, 159, 160, 161, 162, 163, 164, 165, 166, 167, 168, 169, 170, 171, 172] (by decide +kernel) (by decide +kernel)
set_option maxRecDepth 20000 in
theorem gX0_goOn_X0_leaveAll : GoodIn wsX0_goOn (wsV RX0 171 RX0 yX0_leaveAll wsX0_leaveAll) := goodIn_app (goodIn_of _ (by decide +kernel)) ggX0_goOn_X0_leaveAll
theorem dX0_goOn_0 : decode cX0_goOn 0 = .ok (.aload_n 0, 1) := by decide +kernel
theorem dX0_goOn_1 : decode cX0_goOn 1 = .ok (.dup, 1) := by decide +kernel
theorem dX0_goOn_2 : decode cX0_goOn 2 = .ok (.getfield 28, 3) := by decide +kernel
theorem dX0_goOn_5 : decode cX0_goOn 5 = .ok (.iconst 1, 1) := by decide +kernel
theorem dX0_goOn_6 : decode cX0_goOn 6 = .ok (.iadd, 1) := by decide +kernel
theorem dX0_goOn_7 : decode cX0_goOn 7 = .ok (.putfield 28, 3) := by decide +kernel
theorem dX0_goOn_10 : decode cX0_goOn 10 = .ok (.aload_n 0, 1) := by decide +kernel
theorem dX0_goOn_11 : decode cX0_goOn 11 = .ok (.iload_n 1, 1) := by decide +kernel
theorem dX0_goOn_12 : decode cX0_goOn 12 = .ok (.invokevirtual 159, 3) := by decide +kernel
theorem dX0_goOn_15 : decode cX0_goOn 15 = .ok (.iconst 0, 1) := by decide +kernel
theorem dX0_goOn_16 : decode cX0_goOn 16 = .ok (.istore_n 2, 1) := by decide +kernel
theorem dX0_goOn_17 : decode cX0_goOn 17 = .ok (.iload_n 2, 1) := by decide +kernel
theorem dX0_goOn_18 : decode cX0_goOn 18 = .ok (.aload_n 0, 1) := by decide +kernel
theorem dX0_goOn_19 : decode cX0_goOn 19 = .ok (.getfield 24, 3) := by decide +kernel
theorem dX0_goOn_22 : decode cX0_goOn 22 = .ok (.if_icmp .ge 60, 3) := by decide +kernel
theorem dX0_goOn_25 : decode cX0_goOn 25 = .ok (.aload_n 0, 1) := by decide +kernel
theorem dX0_goOn_26 : decode cX0_goOn 26 = .ok (.getfield 20, 3) := by decide +kernel
theorem dX0_goOn_29 : decode cX0_goOn 29 = .ok (.iload_n 2, 1) := by decide +kernel
theorem dX0_goOn_30 : decode cX0_goOn 30 = .ok (.aaload, 1) := by decide +kernel
theorem dX0_goOn_31 : decode cX0_goOn 31 = .ok (.getfield 65, 3) := by decide +kernel
theorem dX0_goOn_34 : decode cX0_goOn 34 = .ok (.ifCond .ne 42, 3) := by decide +kernel
theorem dX0_goOn_37 : decode cX0_goOn 37 = .ok (.aload_n 0, 1) := by decide +kernel
theorem dX0_goOn_38 : decode cX0_goOn 38 = .ok (.aload_n 0, 1) := by decide +kernel
theorem dX0_goOn_39 : decode cX0_goOn 39 = .ok (.getfield 20, 3) := by decide +kernel
theorem dX0_goOn_42 : decode cX0_goOn 42 = .ok (.iload_n 2, 1) := by decide +kernel
theorem dX0_goOn_43 : decode cX0_goOn 43 = .ok (.aaload, 1) := by decide +kernel
theorem dX0_goOn_44 : decode cX0_goOn 44 = .ok (.invokevirtual 162, 3) := by decide +kernel
theorem dX0_goOn_47 : decode cX0_goOn 47 = .ok (.ifCond .eq 29, 3) := by decide +kernel
theorem dX0_goOn_50 : decode cX0_goOn 50 = .ok (.aload_n 0, 1) := by decide +kernel
theorem dX0_goOn_51 : decode cX0_goOn 51 = .ok (.getfield 20, 3) := by decide +kernel
theorem dX0_goOn_54 : decode cX0_goOn 54 = .ok (.iload_n 2, 1) := by decide +kernel
theorem dX0_goOn_55 : decode cX0_goOn 55 = .ok (.aaload, 1) := by decide +kernel
theorem dX0_goOn_56 : decode cX0_goOn 56 = .ok (.aload_n 0, 1) := by decide +kernel
theorem dX0_goOn_57 : decode cX0_goOn 57 = .ok (.iload_n 2, 1) := by decide +kernel
theorem dX0_goOn_58 : decode cX0_goOn 58 = .ok (.invokevirtual 153, 3) := by decide +kernel
theorem dX0_goOn_61 : decode cX0_goOn 61 = .ok (.aload_n 0, 1) := by decide +kernel
theorem dX0_goOn_62 : decode cX0_goOn 62 = .ok (.getfield 20, 3) := by decide +kernel
theorem dX0_goOn_65 : decode cX0_goOn 65 = .ok (.iload_n 2, 1) := by decide +kernel
theorem dX0_goOn_66 : decode cX0_goOn 66 = .ok (.aaload, 1) := by decide +kernel
theorem dX0_goOn_67 : decode cX0_goOn 67 = .ok (.getfield 48, 3) := by decide +kernel
theorem dX0_goOn_70 : decode cX0_goOn 70 = .ok (.invokestatic 102, 3) := by decide +kernel
theorem dX0_goOn_73 : decode cX0_goOn 73 = .ok (.putfield 51, 3) := by decide +kernel
theorem dX0_goOn_76 : decode cX0_goOn 76 = .ok (.iinc 2 1, 3) := by decide +kernel
theorem dX0_goOn_79 : decode cX0_goOn 79 = .ok (.goto (-62), 3) := by decide +kernel
theorem dX0_goOn_82 : decode cX0_goOn 82 = .ok (.iconst 0, 1) := by decide +kernel
theorem dX0_goOn_83 : decode cX0_goOn 83 = .ok (.istore_n 2, 1) := by decide +kernel
theorem dX0_goOn_84 : decode cX0_goOn 84 = .ok (.iload_n 2, 1) := by decide +kernel
theorem dX0_goOn_85 : decode cX0_goOn 85 = .ok (.aload_n 0, 1) := by decide +kernel
theorem dX0_goOn_86 : decode cX0_goOn 86 = .ok (.getfield 24, 3) := by decide +kernel
theorem dX0_goOn_89 : decode cX0_goOn 89 = .ok (.if_icmp .ge 48, 3) := by decide +kernel
theorem dX0_goOn_92 : decode cX0_goOn 92 = .ok (.aload_n 0, 1) := by decide +kernel
theorem dX0_goOn_93 : decode cX0_goOn 93 = .ok (.getfield 20, 3) := by decide +kernel
theorem dX0_goOn_96 : decode cX0_goOn 96 = .ok (.iload_n 2, 1) := by decide +kernel
theorem dX0_goOn_97 : decode cX0_goOn 97 = .ok (.aaload, 1) := by decide +kernel
theorem dX0_goOn_98 : decode cX0_goOn 98 = .ok (.getfield 65, 3) := by decide +kernel
theorem dX0_goOn_101 : decode cX0_goOn 101 = .ok (.ifCond .ne 30, 3) := by decide +kernel
theorem dX0_goOn_104 : decode cX0_goOn 104 = .ok (.aload_n 0, 1) := by decide +kernel
theorem dX0_goOn_105 : decode cX0_goOn 105 = .ok (.getfield 20, 3) := by decide +kernel
theorem dX0_goOn_108 : decode cX0_goOn 108 = .ok (.iload_n 2, 1) := by decide +kernel
theorem dX0_goOn_109 : decode cX0_goOn 109 = .ok (.aaload, 1) := by decide +kernel
theorem dX0_goOn_110 : decode cX0_goOn 110 = .ok (.getfield 73, 3) := by decide +kernel
theorem dX0_goOn_113 : decode cX0_goOn 113 = .ok (.ifCond .ne 18, 3) := by decide +kernel
theorem dX0_goOn_116 : decode cX0_goOn 116 = .ok (.iload_n 2, 1) := by decide +kernel
theorem dX0_goOn_117 : decode cX0_goOn 117 = .ok (.iload_n 1, 1) := by decide +kernel
theorem dX0_goOn_118 : decode cX0_goOn 118 = .ok (.if_icmp .eq 13, 3) := by decide +kernel
theorem dX0_goOn_121 : decode cX0_goOn 121 = .ok (.aload_n 0, 1) := by decide +kernel
theorem dX0_goOn_122 : decode cX0_goOn 122 = .ok (.aload_n 0, 1) := by decide +kernel
theorem dX0_goOn_123 : decode cX0_goOn 123 = .ok (.getfield 20, 3) := by decide +kernel
theorem dX0_goOn_126 : decode cX0_goOn 126 = .ok (.iload_n 2, 1) := by decide +kernel
theorem dX0_goOn_127 : decode cX0_goOn 127 = .ok (.aaload, 1) := by decide +kernel
theorem dX0_goOn_128 : decode cX0_goOn 128 = .ok (.invokevirtual 165, 3) := by decide +kernel
theorem dX0_goOn_131 : decode cX0_goOn 131 = .ok (.iinc 2 1, 3) := by decide +kernel
theorem dX0_goOn_134 : decode cX0_goOn 134 = .ok (.goto (-50), 3) := by decide +kernel
theorem dX0_goOn_137 : decode cX0_goOn 137 = .ok (.iconst 0, 1) := by decide +kernel
theorem dX0_goOn_138 : decode cX0_goOn 138 = .ok (.istore_n 2, 1) := by decide +kernel
theorem dX0_goOn_139 : decode cX0_goOn 139 = .ok (.iload_n 2, 1) := by decide +kernel
theorem dX0_goOn_140 : decode cX0_goOn 140 = .ok (.aload_n 0, 1) := by decide +kernel
theorem dX0_goOn_141 : decode cX0_goOn 141 = .ok (.getfield 24, 3) := by decide +kernel
theorem dX0_goOn_144 : decode cX0_goOn 144 = .ok (.if_icmp .ge 26, 3) := by decide +kernel
theorem dX0_goOn_147 : decode cX0_goOn 147 = .ok (.aload_n 0, 1) := by decide +kernel
theorem dX0_goOn_148 : decode cX0_goOn 148 = .ok (.getfield 20, 3) := by decide +kernel
theorem dX0_goOn_151 : decode cX0_goOn 151 = .ok (.iload_n 2, 1) := by decide +kernel
theorem dX0_goOn_152 : decode cX0_goOn 152 = .ok (.aaload, 1) := by decide +kernel
theorem dX0_goOn_153 : decode cX0_goOn 153 = .ok (.getfield 65, 3) := by decide +kernel
theorem dX0_goOn_156 : decode cX0_goOn 156 = .ok (.ifCond .ne 8, 3) := by decide +kernel
theorem dX0_goOn_159 : decode cX0_goOn 159 = .ok (.aload_n 0, 1) := by decide +kernel
theorem dX0_goOn_160 : decode cX0_goOn 160 = .ok (.iload_n 2, 1) := by decide +kernel
theorem dX0_goOn_161 : decode cX0_goOn 161 = .ok (.invokevirtual 168, 3) := by decide +kernel
theorem dX0_goOn_164 : decode cX0_goOn 164 = .ok (.iinc 2 1, 3) := by decide +kernel
theorem dX0_goOn_167 : decode cX0_goOn 167 = .ok (.goto (-28), 3) := by decide +kernel
theorem dX0_goOn_170 : decode cX0_goOn 170 = .ok (.aload_n 0, 1) := by decide +kernel
theorem dX0_goOn_171 : decode cX0_goOn 171 = .ok (.invokevirtual 171, 3) := by decide +kernel
theorem dX0_goOn_174 : decode cX0_goOn 174 = .ok (.ireturn, 1) := by decide +kernel
set_option maxRecDepth 20000 in
theorem ggX0_hasRadio_X3_sectionAt : GoodIn wsX0_hasRadio wsX3_sectionAt := goodIn_r _ [6] (by decide +kernel) (by decide +kernel)
set_option maxRecDepth 20000 in
theorem gX0_hasRadio_X3_sectionAt_n99 : GoodIn wsX0_hasRadio (wsX3_sectionAt) := ggX0_hasRadio_X3_sectionAt
theorem dX0_hasRadio_0 : decode cX0_hasRadio 0 = .ok (.aload_n 0, 1) := by decide +kernel
theorem dX0_hasRadio_1 : decode cX0_hasRadio 1 = .ok (.getfield 12, 3) := by decide +kernel
theorem dX0_hasRadio_4 : decode cX0_hasRadio 4 = .ok (.getfield 174, 3) := by decide +kernel
theorem dX0_hasRadio_7 : decode cX0_hasRadio 7 = .ok (.aload_n 1, 1) := by decide +kernel
theorem dX0_hasRadio_8 : decode cX0_hasRadio 8 = .ok (.getfield 48, 3) := by decide +kernel
theorem dX0_hasRadio_11 : decode cX0_hasRadio 11 = .ok (.invokestatic 99, 3) := by decide +kernel
theorem dX0_hasRadio_14 : decode cX0_hasRadio 14 = .ok (.baload, 1) := by decide +kernel
theorem dX0_hasRadio_15 : decode cX0_hasRadio 15 = .ok (.ireturn, 1) := by decide +kernel
set_option maxRecDepth 20000 in
theorem ggX0_reportAll_X0_hasRadio : GoodIn wsX0_reportAll wsX0_hasRadio := goodIn_r _ [9, 10, 11, 12, 13, 14, 15, 31, 32, 33, 34, 53, 54, 55, 56, 57, 58, 59, 60, 61, 62, 35, 36, 37, 38, 39, 40, 41, 42, 43, 44, 45, 46, 47, 48, 49, 50, 51, 52] (by decide +kernel) (by decide +kernel)
set_option maxRecDepth 20000 in
theorem gX0_reportAll_X0_hasRadio : GoodIn wsX0_reportAll (wsV RX0 162 RX0 yX0_hasRadio wsX0_hasRadio) := goodIn_app (goodIn_of _ (by decide +kernel)) ggX0_reportAll_X0_hasRadio
set_option maxRecDepth 20000 in
theorem ggX0_reportAll_X2_report : GoodIn wsX0_reportAll wsX2_report := goodIn_r _ [20, 21, 22, 23, 24, 25, 26, 27, 28, 19, 29, 30, 35, 36, 37, 38, 39, 40, 41, 42, 43, 44, 45, 46, 47, 48, 49, 50, 51, 52] (by decide +kernel) (by decide +kernel)
set_option maxRecDepth 20000 in
theorem gX0_reportAll_X2_report : GoodIn wsX0_reportAll (wsV RX0 61 RX2 yX2_report wsX2_report) := goodIn_app (goodIn_of _ (by decide +kernel)) ggX0_reportAll_X2_report
theorem dX0_reportAll_0 : decode cX0_reportAll 0 = .ok (.iconst 0, 1) := by decide +kernel
theorem dX0_reportAll_1 : decode cX0_reportAll 1 = .ok (.istore_n 2, 1) := by decide +kernel
theorem dX0_reportAll_2 : decode cX0_reportAll 2 = .ok (.iload_n 2, 1) := by decide +kernel
theorem dX0_reportAll_3 : decode cX0_reportAll 3 = .ok (.aload_n 0, 1) := by decide +kernel
theorem dX0_reportAll_4 : decode cX0_reportAll 4 = .ok (.getfield 24, 3) := by decide +kernel
theorem dX0_reportAll_7 : decode cX0_reportAll 7 = .ok (.if_icmp .ge 52, 3) := by decide +kernel
theorem dX0_reportAll_10 : decode cX0_reportAll 10 = .ok (.aload_n 0, 1) := by decide +kernel
theorem dX0_reportAll_11 : decode cX0_reportAll 11 = .ok (.getfield 20, 3) := by decide +kernel
theorem dX0_reportAll_14 : decode cX0_reportAll 14 = .ok (.iload_n 2, 1) := by decide +kernel
theorem dX0_reportAll_15 : decode cX0_reportAll 15 = .ok (.aaload, 1) := by decide +kernel
theorem dX0_reportAll_16 : decode cX0_reportAll 16 = .ok (.getfield 65, 3) := by decide +kernel
theorem dX0_reportAll_19 : decode cX0_reportAll 19 = .ok (.ifCond .ne 34, 3) := by decide +kernel
theorem dX0_reportAll_22 : decode cX0_reportAll 22 = .ok (.iload_n 2, 1) := by decide +kernel
theorem dX0_reportAll_23 : decode cX0_reportAll 23 = .ok (.iload_n 1, 1) := by decide +kernel
theorem dX0_reportAll_24 : decode cX0_reportAll 24 = .ok (.if_icmp .eq 29, 3) := by decide +kernel
theorem dX0_reportAll_27 : decode cX0_reportAll 27 = .ok (.aload_n 0, 1) := by decide +kernel
theorem dX0_reportAll_28 : decode cX0_reportAll 28 = .ok (.aload_n 0, 1) := by decide +kernel
theorem dX0_reportAll_29 : decode cX0_reportAll 29 = .ok (.getfield 20, 3) := by decide +kernel
theorem dX0_reportAll_32 : decode cX0_reportAll 32 = .ok (.iload_n 2, 1) := by decide +kernel
theorem dX0_reportAll_33 : decode cX0_reportAll 33 = .ok (.aaload, 1) := by decide +kernel
theorem dX0_reportAll_34 : decode cX0_reportAll 34 = .ok (.invokevirtual 162, 3) := by decide +kernel
theorem dX0_reportAll_37 : decode cX0_reportAll 37 = .ok (.ifCond .eq 16, 3) := by decide +kernel
theorem dX0_reportAll_40 : decode cX0_reportAll 40 = .ok (.aload_n 0, 1) := by decide +kernel
theorem dX0_reportAll_41 : decode cX0_reportAll 41 = .ok (.getfield 20, 3) := by decide +kernel
theorem dX0_reportAll_44 : decode cX0_reportAll 44 = .ok (.iload_n 2, 1) := by decide +kernel
theorem dX0_reportAll_45 : decode cX0_reportAll 45 = .ok (.aaload, 1) := by decide +kernel
theorem dX0_reportAll_46 : decode cX0_reportAll 46 = .ok (.aload_n 0, 1) := by decide +kernel
theorem dX0_reportAll_47 : decode cX0_reportAll 47 = .ok (.getfield 28, 3) := by decide +kernel
theorem dX0_reportAll_50 : decode cX0_reportAll 50 = .ok (.invokevirtual 61, 3) := by decide +kernel
theorem dX0_reportAll_53 : decode cX0_reportAll 53 = .ok (.iinc 2 1, 3) := by decide +kernel
theorem dX0_reportAll_56 : decode cX0_reportAll 56 = .ok (.goto (-54), 3) := by decide +kernel
theorem dX0_reportAll_59 : decode cX0_reportAll 59 = .ok (.return_, 1) := by decide +kernel
set_option maxRecDepth 20000 in
theorem ggX0_go_X0_allowedSpeed : GoodIn wsX0_go wsX0_allowedSpeed := goodIn_r _ [17, 18, 12, 19, 20, 21, 4, 5, 6, 7, 22, 23, 24, 25, 26, 27, 28, 29, 30, 31, 16, 32, 33, 34, 8, 9, 10, 35, 36, 37, 38, 39, 40, 41, 42, 43, 44, 45, 46, 47, 48, 49, 50, 51, 52, 75, 76, 77, 78, 79, 80, 81, 82, 83, 84, 85, 86, 87, 88, 89, 90, 91, 92, 93, 94, 95, 96, 97, 98, 99, 100, 101, 102, 103, 104, 105, 106] (by decide +kernel) (by decide +kernel)
set_option maxRecDepth 20000 in
theorem gX0_go_X0_allowedSpeed : GoodIn wsX0_go (wsV RX0 181 RX0 yX0_allowedSpeed wsX0_allowedSpeed) := goodIn_app (goodIn_of _ (by decide +kernel)) ggX0_go_X0_allowedSpeed
set_option maxRecDepth 20000 in
theorem ggX0_go_X0_holdOf : GoodIn wsX0_go wsX0_holdOf := goodIn_r _ [32, 33, 19, 34, 12, 8, 9, 6, 10, 35, 36, 37, 75, 76, 77, 78, 79, 80, 81, 82, 83, 84, 85, 86, 87, 88, 89, 90, 91, 92, 93, 94, 95, 96, 97, 98, 99, 100, 101, 102, 103, 104, 105, 106] (by decide +kernel) (by decide +kernel)
set_option maxRecDepth 20000 in
theorem gX0_go_X0_holdOf : GoodIn wsX0_go (wsV RX0 117 RX0 yX0_holdOf wsX0_holdOf) := goodIn_app (goodIn_of _ (by decide +kernel)) ggX0_go_X0_holdOf
set_option maxRecDepth 20000 in
theorem ggX0_go_X0_stopAtStation : GoodIn wsX0_go wsX0_stopAtStation := goodIn_r _ [56, 19, 20, 2, 21, 12, 57, 1, 58, 22, 23, 24, 25, 26, 27, 28, 93, 94, 95, 96, 75, 76, 77, 78, 79, 80, 81, 82, 83, 84, 85, 86, 87, 88, 89, 90, 91, 92, 97, 98, 99, 100, 101, 102, 103, 104, 105, 106] (by decide +kernel) (by decide +kernel)
set_option maxRecDepth 20000 in
theorem gX0_go_X0_stopAtStation : GoodIn wsX0_go (wsV RX0 184 RX0 yX0_stopAtStation wsX0_stopAtStation) := goodIn_app (goodIn_of _ (by decide +kernel)) ggX0_go_X0_stopAtStation
set_option maxRecDepth 20000 in
theorem ggX0_go_X0_missStations : GoodIn wsX0_go wsX0_missStations := goodIn_r _ [62, 20, 19, 12, 63, 64, 65, 66, 25, 67, 27, 28, 68, 69, 70, 71, 72, 73, 74, 75, 76, 77, 78, 79, 80, 81, 82, 83, 84, 85, 86, 87, 88, 89, 90, 91, 92, 93, 94, 95, 96, 97, 98, 99, 100, 101, 102, 103, 104, 105, 106] (by decide +kernel) (by decide +kernel)
set_option maxRecDepth 20000 in
theorem gX0_go_X0_missStations : GoodIn wsX0_go (wsV RX0 187 RX0 yX0_missStations wsX0_missStations) := goodIn_app (goodIn_of _ (by decide +kernel)) ggX0_go_X0_missStations
theorem dX0_go_0 : decode cX0_go 0 = .ok (.aload_n 1, 1) := by decide +kernel
theorem dX0_go_1 : decode cX0_go 1 = .ok (.getfield 178, 3) := by decide +kernel
theorem dX0_go_4 : decode cX0_go 4 = .ok (.ifCond .le 14, 3) := by decide +kernel
theorem dX0_go_7 : decode cX0_go 7 = .ok (.aload_n 1, 1) := by decide +kernel
theorem dX0_go_8 : decode cX0_go 8 = .ok (.dup, 1) := by decide +kernel
theorem dX0_go_9 : decode cX0_go 9 = .ok (.getfield 178, 3) := by decide +kernel
theorem dX0_go_12 : decode cX0_go 12 = .ok (.iconst 1, 1) := by decide +kernel
theorem dX0_go_13 : decode cX0_go 13 = .ok (.isub, 1) := by decide +kernel
theorem dX0_go_14 : decode cX0_go 14 = .ok (.putfield 178, 3) := by decide +kernel
theorem dX0_go_17 : decode cX0_go 17 = .ok (.return_, 1) := by decide +kernel
theorem dX0_go_18 : decode cX0_go 18 = .ok (.aload_n 0, 1) := by decide +kernel
theorem dX0_go_19 : decode cX0_go 19 = .ok (.aload_n 1, 1) := by decide +kernel
theorem dX0_go_20 : decode cX0_go 20 = .ok (.invokevirtual 181, 3) := by decide +kernel
theorem dX0_go_23 : decode cX0_go 23 = .ok (.istore_n 2, 1) := by decide +kernel
theorem dX0_go_24 : decode cX0_go 24 = .ok (.aload_n 1, 1) := by decide +kernel
theorem dX0_go_25 : decode cX0_go 25 = .ok (.getfield 80, 3) := by decide +kernel
theorem dX0_go_28 : decode cX0_go 28 = .ok (.iload_n 2, 1) := by decide +kernel
theorem dX0_go_29 : decode cX0_go 29 = .ok (.if_icmp .ge 23, 3) := by decide +kernel
theorem dX0_go_32 : decode cX0_go 32 = .ok (.aload_n 1, 1) := by decide +kernel
theorem dX0_go_33 : decode cX0_go 33 = .ok (.aload_n 1, 1) := by decide +kernel
theorem dX0_go_34 : decode cX0_go 34 = .ok (.getfield 80, 3) := by decide +kernel
theorem dX0_go_37 : decode cX0_go 37 = .ok (.aload_n 1, 1) := by decide +kernel
theorem dX0_go_38 : decode cX0_go 38 = .ok (.getfield 45, 3) := by decide +kernel
theorem dX0_go_41 : decode cX0_go 41 = .ok (.iadd, 1) := by decide +kernel
theorem dX0_go_42 : decode cX0_go 42 = .ok (.iload_n 2, 1) := by decide +kernel
theorem dX0_go_43 : decode cX0_go 43 = .ok (.invokestatic 114, 3) := by decide +kernel
theorem dX0_go_46 : decode cX0_go 46 = .ok (.putfield 80, 3) := by decide +kernel
theorem dX0_go_49 : decode cX0_go 49 = .ok (.goto 39, 3) := by decide +kernel
theorem dX0_go_52 : decode cX0_go 52 = .ok (.aload_n 1, 1) := by decide +kernel
theorem dX0_go_53 : decode cX0_go 53 = .ok (.getfield 80, 3) := by decide +kernel
theorem dX0_go_56 : decode cX0_go 56 = .ok (.iload_n 2, 1) := by decide +kernel
theorem dX0_go_57 : decode cX0_go 57 = .ok (.if_icmp .le 31, 3) := by decide +kernel
theorem dX0_go_60 : decode cX0_go 60 = .ok (.aload_n 1, 1) := by decide +kernel
theorem dX0_go_61 : decode cX0_go 61 = .ok (.aload_n 1, 1) := by decide +kernel
theorem dX0_go_62 : decode cX0_go 62 = .ok (.getfield 80, 3) := by decide +kernel
theorem dX0_go_65 : decode cX0_go 65 = .ok (.aload_n 0, 1) := by decide +kernel
theorem dX0_go_66 : decode cX0_go 66 = .ok (.aload_n 1, 1) := by decide +kernel
theorem dX0_go_67 : decode cX0_go 67 = .ok (.invokevirtual 117, 3) := by decide +kernel
theorem dX0_go_70 : decode cX0_go 70 = .ok (.isub, 1) := by decide +kernel
theorem dX0_go_71 : decode cX0_go 71 = .ok (.iload_n 2, 1) := by decide +kernel
theorem dX0_go_72 : decode cX0_go 72 = .ok (.invokestatic 102, 3) := by decide +kernel
theorem dX0_go_75 : decode cX0_go 75 = .ok (.putfield 80, 3) := by decide +kernel
theorem dX0_go_78 : decode cX0_go 78 = .ok (.aload_n 1, 1) := by decide +kernel
theorem dX0_go_79 : decode cX0_go 79 = .ok (.dup, 1) := by decide +kernel
theorem dX0_go_80 : decode cX0_go 80 = .ok (.getfield 83, 3) := by decide +kernel
theorem dX0_go_83 : decode cX0_go 83 = .ok (.iconst 1, 1) := by decide +kernel
theorem dX0_go_84 : decode cX0_go 84 = .ok (.iadd, 1) := by decide +kernel
theorem dX0_go_85 : decode cX0_go 85 = .ok (.putfield 83, 3) := by decide +kernel
theorem dX0_go_88 : decode cX0_go 88 = .ok (.aload_n 1, 1) := by decide +kernel
theorem dX0_go_89 : decode cX0_go 89 = .ok (.dup, 1) := by decide +kernel
theorem dX0_go_90 : decode cX0_go 90 = .ok (.getfield 48, 3) := by decide +kernel
theorem dX0_go_93 : decode cX0_go 93 = .ok (.aload_n 1, 1) := by decide +kernel
theorem dX0_go_94 : decode cX0_go 94 = .ok (.getfield 80, 3) := by decide +kernel
theorem dX0_go_97 : decode cX0_go 97 = .ok (.iadd, 1) := by decide +kernel
theorem dX0_go_98 : decode cX0_go 98 = .ok (.putfield 48, 3) := by decide +kernel
theorem dX0_go_101 : decode cX0_go 101 = .ok (.aload_n 0, 1) := by decide +kernel
theorem dX0_go_102 : decode cX0_go 102 = .ok (.aload_n 1, 1) := by decide +kernel
theorem dX0_go_103 : decode cX0_go 103 = .ok (.invokevirtual 184, 3) := by decide +kernel
theorem dX0_go_106 : decode cX0_go 106 = .ok (.aload_n 0, 1) := by decide +kernel
theorem dX0_go_107 : decode cX0_go 107 = .ok (.aload_n 1, 1) := by decide +kernel
theorem dX0_go_108 : decode cX0_go 108 = .ok (.invokevirtual 187, 3) := by decide +kernel
theorem dX0_go_111 : decode cX0_go 111 = .ok (.return_, 1) := by decide +kernel
set_option maxRecDepth 20000 in
theorem ggX0_stopAtStation_X1_nextStation : GoodIn wsX0_stopAtStation wsX1_nextStation := goodIn_r _ [13, 14, 15, 38, 39, 40, 41, 42, 43, 44, 45, 46, 47] (by decide +kernel) (by decide +kernel)
set_option maxRecDepth 20000 in
theorem gX0_stopAtStation_X1_nextStation : GoodIn wsX0_stopAtStation (wsV RX0 108 RX1 yX1_nextStation wsX1_nextStation) := goodIn_app (goodIn_of _ (by decide +kernel)) ggX0_stopAtStation_X1_nextStation
theorem dX0_stopAtStation_0 : decode cX0_stopAtStation 0 = .ok (.aload_n 0, 1) := by decide +kernel
theorem dX0_stopAtStation_1 : decode cX0_stopAtStation 1 = .ok (.getfield 12, 3) := by decide +kernel
theorem dX0_stopAtStation_4 : decode cX0_stopAtStation 4 = .ok (.aload_n 1, 1) := by decide +kernel
theorem dX0_stopAtStation_5 : decode cX0_stopAtStation 5 = .ok (.getfield 58, 3) := by decide +kernel
theorem dX0_stopAtStation_8 : decode cX0_stopAtStation 8 = .ok (.invokevirtual 108, 3) := by decide +kernel
theorem dX0_stopAtStation_11 : decode cX0_stopAtStation 11 = .ok (.istore_n 2, 1) := by decide +kernel
theorem dX0_stopAtStation_12 : decode cX0_stopAtStation 12 = .ok (.iload_n 2, 1) := by decide +kernel
theorem dX0_stopAtStation_13 : decode cX0_stopAtStation 13 = .ok (.iconst (-1), 1) := by decide +kernel
theorem dX0_stopAtStation_14 : decode cX0_stopAtStation 14 = .ok (.if_icmp .eq 66, 3) := by decide +kernel
theorem dX0_stopAtStation_17 : decode cX0_stopAtStation 17 = .ok (.aload_n 1, 1) := by decide +kernel
theorem dX0_stopAtStation_18 : decode cX0_stopAtStation 18 = .ok (.getfield 80, 3) := by decide +kernel
theorem dX0_stopAtStation_21 : decode cX0_stopAtStation 21 = .ok (.ifCond .ne 59, 3) := by decide +kernel
theorem dX0_stopAtStation_24 : decode cX0_stopAtStation 24 = .ok (.aload_n 0, 1) := by decide +kernel
theorem dX0_stopAtStation_25 : decode cX0_stopAtStation 25 = .ok (.getfield 12, 3) := by decide +kernel
theorem dX0_stopAtStation_28 : decode cX0_stopAtStation 28 = .ok (.getfield 111, 3) := by decide +kernel
theorem dX0_stopAtStation_31 : decode cX0_stopAtStation 31 = .ok (.iload_n 2, 1) := by decide +kernel
theorem dX0_stopAtStation_32 : decode cX0_stopAtStation 32 = .ok (.iaload, 1) := by decide +kernel
theorem dX0_stopAtStation_33 : decode cX0_stopAtStation 33 = .ok (.aload_n 1, 1) := by decide +kernel
theorem dX0_stopAtStation_34 : decode cX0_stopAtStation 34 = .ok (.getfield 48, 3) := by decide +kernel
theorem dX0_stopAtStation_37 : decode cX0_stopAtStation 37 = .ok (.if_icmp .ne 43, 3) := by decide +kernel
theorem dX0_stopAtStation_40 : decode cX0_stopAtStation 40 = .ok (.aload_n 1, 1) := by decide +kernel
theorem dX0_stopAtStation_41 : decode cX0_stopAtStation 41 = .ok (.aload_n 0, 1) := by decide +kernel
theorem dX0_stopAtStation_42 : decode cX0_stopAtStation 42 = .ok (.getfield 12, 3) := by decide +kernel
theorem dX0_stopAtStation_45 : decode cX0_stopAtStation 45 = .ok (.getfield 190, 3) := by decide +kernel
theorem dX0_stopAtStation_48 : decode cX0_stopAtStation 48 = .ok (.iload_n 2, 1) := by decide +kernel
theorem dX0_stopAtStation_49 : decode cX0_stopAtStation 49 = .ok (.iaload, 1) := by decide +kernel
theorem dX0_stopAtStation_50 : decode cX0_stopAtStation 50 = .ok (.putfield 178, 3) := by decide +kernel
theorem dX0_stopAtStation_53 : decode cX0_stopAtStation 53 = .ok (.aload_n 1, 1) := by decide +kernel
theorem dX0_stopAtStation_54 : decode cX0_stopAtStation 54 = .ok (.dup, 1) := by decide +kernel
theorem dX0_stopAtStation_55 : decode cX0_stopAtStation 55 = .ok (.getfield 58, 3) := by decide +kernel
theorem dX0_stopAtStation_58 : decode cX0_stopAtStation 58 = .ok (.iconst 1, 1) := by decide +kernel
theorem dX0_stopAtStation_59 : decode cX0_stopAtStation 59 = .ok (.iload_n 2, 1) := by decide +kernel
theorem dX0_stopAtStation_60 : decode cX0_stopAtStation 60 = .ok (.ishl, 1) := by decide +kernel
theorem dX0_stopAtStation_61 : decode cX0_stopAtStation 61 = .ok (.iconst (-1), 1) := by decide +kernel
theorem dX0_stopAtStation_62 : decode cX0_stopAtStation 62 = .ok (.ixor, 1) := by decide +kernel
theorem dX0_stopAtStation_63 : decode cX0_stopAtStation 63 = .ok (.iand, 1) := by decide +kernel
theorem dX0_stopAtStation_64 : decode cX0_stopAtStation 64 = .ok (.putfield 58, 3) := by decide +kernel
theorem dX0_stopAtStation_67 : decode cX0_stopAtStation 67 = .ok (.aload_n 0, 1) := by decide +kernel
theorem dX0_stopAtStation_68 : decode cX0_stopAtStation 68 = .ok (.getfield 12, 3) := by decide +kernel
theorem dX0_stopAtStation_71 : decode cX0_stopAtStation 71 = .ok (.getfield 193, 3) := by decide +kernel
theorem dX0_stopAtStation_74 : decode cX0_stopAtStation 74 = .ok (.iload_n 2, 1) := by decide +kernel
theorem dX0_stopAtStation_75 : decode cX0_stopAtStation 75 = .ok (.dup2, 1) := by decide +kernel
theorem dX0_stopAtStation_76 : decode cX0_stopAtStation 76 = .ok (.iaload, 1) := by decide +kernel
theorem dX0_stopAtStation_77 : decode cX0_stopAtStation 77 = .ok (.iconst 1, 1) := by decide +kernel
theorem dX0_stopAtStation_78 : decode cX0_stopAtStation 78 = .ok (.iadd, 1) := by decide +kernel
theorem dX0_stopAtStation_79 : decode cX0_stopAtStation 79 = .ok (.iastore, 1) := by decide +kernel
theorem dX0_stopAtStation_80 : decode cX0_stopAtStation 80 = .ok (.return_, 1) := by decide +kernel
set_option maxRecDepth 20000 in
theorem ggX0_missStations_X1_stationsFrom : GoodIn wsX0_missStations wsX1_stationsFrom := goodIn_r _ [9, 10, 11, 41, 42, 43, 44, 45, 46, 47, 48, 49, 50] (by decide +kernel) (by decide +kernel)
set_option maxRecDepth 20000 in
theorem gX0_missStations_X1_stationsFrom : GoodIn wsX0_missStations (wsV RX0 54 RX1 yX1_stationsFrom wsX1_stationsFrom) := goodIn_app (goodIn_of _ (by decide +kernel)) ggX0_missStations_X1_stationsFrom
set_option maxRecDepth 20000 in
theorem ggX0_missStations_J6_bitCount_0f7a4 : GoodIn wsX0_missStations wsJ6_bitCount_0f7a4 := goodIn_r _ [15, 16, 17, 18] (by decide +kernel) (by decide +kernel)
set_option maxRecDepth 20000 in
theorem gX0_missStations_J6_bitCount_0f7a4 : GoodIn wsX0_missStations (va_wsS RX0 196 yJ6_bitCount_0f7a4 wsJ6_bitCount_0f7a4) := goodIn_app (goodIn_of _ (by decide +kernel)) ggX0_missStations_J6_bitCount_0f7a4
theorem dX0_missStations_0 : decode cX0_missStations 0 = .ok (.aload_n 1, 1) := by decide +kernel
theorem dX0_missStations_1 : decode cX0_missStations 1 = .ok (.getfield 58, 3) := by decide +kernel
theorem dX0_missStations_4 : decode cX0_missStations 4 = .ok (.aload_n 0, 1) := by decide +kernel
theorem dX0_missStations_5 : decode cX0_missStations 5 = .ok (.getfield 12, 3) := by decide +kernel
theorem dX0_missStations_8 : decode cX0_missStations 8 = .ok (.aload_n 1, 1) := by decide +kernel
theorem dX0_missStations_9 : decode cX0_missStations 9 = .ok (.getfield 48, 3) := by decide +kernel
theorem dX0_missStations_12 : decode cX0_missStations 12 = .ok (.invokevirtual 54, 3) := by decide +kernel
theorem dX0_missStations_15 : decode cX0_missStations 15 = .ok (.iand, 1) := by decide +kernel
theorem dX0_missStations_16 : decode cX0_missStations 16 = .ok (.istore_n 2, 1) := by decide +kernel
theorem dX0_missStations_17 : decode cX0_missStations 17 = .ok (.aload_n 1, 1) := by decide +kernel
theorem dX0_missStations_18 : decode cX0_missStations 18 = .ok (.dup, 1) := by decide +kernel
theorem dX0_missStations_19 : decode cX0_missStations 19 = .ok (.getfield 89, 3) := by decide +kernel
theorem dX0_missStations_22 : decode cX0_missStations 22 = .ok (.aload_n 1, 1) := by decide +kernel
theorem dX0_missStations_23 : decode cX0_missStations 23 = .ok (.getfield 58, 3) := by decide +kernel
theorem dX0_missStations_26 : decode cX0_missStations 26 = .ok (.invokestatic 196, 3) := by decide +kernel
theorem dX0_missStations_29 : decode cX0_missStations 29 = .ok (.iload_n 2, 1) := by decide +kernel
theorem dX0_missStations_30 : decode cX0_missStations 30 = .ok (.invokestatic 196, 3) := by decide +kernel
theorem dX0_missStations_33 : decode cX0_missStations 33 = .ok (.isub, 1) := by decide +kernel
theorem dX0_missStations_34 : decode cX0_missStations 34 = .ok (.iadd, 1) := by decide +kernel
theorem dX0_missStations_35 : decode cX0_missStations 35 = .ok (.putfield 89, 3) := by decide +kernel
theorem dX0_missStations_38 : decode cX0_missStations 38 = .ok (.aload_n 1, 1) := by decide +kernel
theorem dX0_missStations_39 : decode cX0_missStations 39 = .ok (.iload_n 2, 1) := by decide +kernel
theorem dX0_missStations_40 : decode cX0_missStations 40 = .ok (.putfield 58, 3) := by decide +kernel
theorem dX0_missStations_43 : decode cX0_missStations 43 = .ok (.return_, 1) := by decide +kernel
set_option maxRecDepth 20000 in
theorem ggX0_look_X0_aheadOf : GoodIn wsX0_look wsX0_aheadOf := goodIn_r _ [14, 1, 15, 29, 30, 31, 32, 33, 34, 35, 36, 37, 38, 39, 40, 41, 42, 43, 44, 45, 46, 47, 48, 49, 50] (by decide +kernel) (by decide +kernel)
set_option maxRecDepth 20000 in
theorem gX0_look_X0_aheadOf : GoodIn wsX0_look (wsV RX0 130 RX0 yX0_aheadOf wsX0_aheadOf) := goodIn_app (goodIn_of _ (by decide +kernel)) ggX0_look_X0_aheadOf
set_option maxRecDepth 20000 in
theorem ggX0_look_X2_rear : GoodIn wsX0_look wsX2_rear := goodIn_r _ [20, 21, 22, 33, 34, 35, 36, 37, 38, 39, 40, 41, 42, 43, 44, 45, 46, 47, 48, 49, 50] (by decide +kernel) (by decide +kernel)
set_option maxRecDepth 20000 in
theorem gX0_look_X2_rear : GoodIn wsX0_look (wsV RX0 69 RX2 yX2_rear wsX2_rear) := goodIn_app (goodIn_of _ (by decide +kernel)) ggX0_look_X2_rear
set_option maxRecDepth 20000 in
theorem ggX0_look_X2_crash : GoodIn wsX0_look wsX2_crash := goodIn_r _ [26, 27, 28, 33, 34, 35, 36, 37, 38, 39, 40, 41, 42, 43, 44, 45, 46, 47, 48, 49, 50] (by decide +kernel) (by decide +kernel)
set_option maxRecDepth 20000 in
theorem gX0_look_X2_crash : GoodIn wsX0_look (wsV RX0 204 RX2 yX2_crash wsX2_crash) := goodIn_app (goodIn_of _ (by decide +kernel)) ggX0_look_X2_crash
theorem dX0_look_0 : decode cX0_look 0 = .ok (.aload_n 0, 1) := by decide +kernel
theorem dX0_look_1 : decode cX0_look 1 = .ok (.getfield 20, 3) := by decide +kernel
theorem dX0_look_4 : decode cX0_look 4 = .ok (.iload_n 1, 1) := by decide +kernel
theorem dX0_look_5 : decode cX0_look 5 = .ok (.aaload, 1) := by decide +kernel
theorem dX0_look_6 : decode cX0_look 6 = .ok (.astore_n 2, 1) := by decide +kernel
theorem dX0_look_7 : decode cX0_look 7 = .ok (.aload_n 2, 1) := by decide +kernel
theorem dX0_look_8 : decode cX0_look 8 = .ok (.getfield 48, 3) := by decide +kernel
theorem dX0_look_11 : decode cX0_look 11 = .ok (.aload_n 2, 1) := by decide +kernel
theorem dX0_look_12 : decode cX0_look 12 = .ok (.getfield 51, 3) := by decide +kernel
theorem dX0_look_15 : decode cX0_look 15 = .ok (.if_icmp .le 13, 3) := by decide +kernel
theorem dX0_look_18 : decode cX0_look 18 = .ok (.aload_n 2, 1) := by decide +kernel
theorem dX0_look_19 : decode cX0_look 19 = .ok (.dup, 1) := by decide +kernel
theorem dX0_look_20 : decode cX0_look 20 = .ok (.getfield 86, 3) := by decide +kernel
theorem dX0_look_23 : decode cX0_look 23 = .ok (.iconst 1, 1) := by decide +kernel
theorem dX0_look_24 : decode cX0_look 24 = .ok (.iadd, 1) := by decide +kernel
theorem dX0_look_25 : decode cX0_look 25 = .ok (.putfield 86, 3) := by decide +kernel
theorem dX0_look_28 : decode cX0_look 28 = .ok (.aload_n 0, 1) := by decide +kernel
theorem dX0_look_29 : decode cX0_look 29 = .ok (.iload_n 1, 1) := by decide +kernel
theorem dX0_look_30 : decode cX0_look 30 = .ok (.invokevirtual 130, 3) := by decide +kernel
theorem dX0_look_33 : decode cX0_look 33 = .ok (.istore_n 3, 1) := by decide +kernel
theorem dX0_look_34 : decode cX0_look 34 = .ok (.iload_n 3, 1) := by decide +kernel
theorem dX0_look_35 : decode cX0_look 35 = .ok (.iconst (-1), 1) := by decide +kernel
theorem dX0_look_36 : decode cX0_look 36 = .ok (.if_icmp .ne 4, 3) := by decide +kernel
theorem dX0_look_39 : decode cX0_look 39 = .ok (.return_, 1) := by decide +kernel
theorem dX0_look_40 : decode cX0_look 40 = .ok (.aload_n 0, 1) := by decide +kernel
theorem dX0_look_41 : decode cX0_look 41 = .ok (.getfield 20, 3) := by decide +kernel
theorem dX0_look_44 : decode cX0_look 44 = .ok (.iload_n 3, 1) := by decide +kernel
theorem dX0_look_45 : decode cX0_look 45 = .ok (.aaload, 1) := by decide +kernel
theorem dX0_look_46 : decode cX0_look 46 = .ok (.invokevirtual 69, 3) := by decide +kernel
theorem dX0_look_49 : decode cX0_look 49 = .ok (.aload_n 2, 1) := by decide +kernel
theorem dX0_look_50 : decode cX0_look 50 = .ok (.getfield 48, 3) := by decide +kernel
theorem dX0_look_53 : decode cX0_look 53 = .ok (.isub, 1) := by decide +kernel
theorem dX0_look_54 : decode cX0_look 54 = .ok (.iconst 1, 1) := by decide +kernel
theorem dX0_look_55 : decode cX0_look 55 = .ok (.isub, 1) := by decide +kernel
theorem dX0_look_56 : decode cX0_look 56 = .ok (.istore 4, 2) := by decide +kernel
theorem dX0_look_58 : decode cX0_look 58 = .ok (.aload_n 2, 1) := by decide +kernel
theorem dX0_look_59 : decode cX0_look 59 = .ok (.aload_n 2, 1) := by decide +kernel
theorem dX0_look_60 : decode cX0_look 60 = .ok (.getfield 201, 3) := by decide +kernel
theorem dX0_look_63 : decode cX0_look 63 = .ok (.iload 4, 2) := by decide +kernel
theorem dX0_look_65 : decode cX0_look 65 = .ok (.invokestatic 114, 3) := by decide +kernel
theorem dX0_look_68 : decode cX0_look 68 = .ok (.putfield 201, 3) := by decide +kernel
theorem dX0_look_71 : decode cX0_look 71 = .ok (.iload 4, 2) := by decide +kernel
theorem dX0_look_73 : decode cX0_look 73 = .ok (.ifCond .ge 16, 3) := by decide +kernel
theorem dX0_look_76 : decode cX0_look 76 = .ok (.aload_n 2, 1) := by decide +kernel
theorem dX0_look_77 : decode cX0_look 77 = .ok (.invokevirtual 204, 3) := by decide +kernel
theorem dX0_look_80 : decode cX0_look 80 = .ok (.aload_n 0, 1) := by decide +kernel
theorem dX0_look_81 : decode cX0_look 81 = .ok (.getfield 20, 3) := by decide +kernel
theorem dX0_look_84 : decode cX0_look 84 = .ok (.iload_n 3, 1) := by decide +kernel
theorem dX0_look_85 : decode cX0_look 85 = .ok (.aaload, 1) := by decide +kernel
theorem dX0_look_86 : decode cX0_look 86 = .ok (.invokevirtual 204, 3) := by decide +kernel
theorem dX0_look_89 : decode cX0_look 89 = .ok (.return_, 1) := by decide +kernel
set_option maxRecDepth 20000 in
theorem ggX0_leaveAll_X2_rear : GoodIn wsX0_leaveAll wsX2_rear := goodIn_r _ [9, 10, 11, 16, 17, 18, 19, 20, 21, 22, 23, 24, 25, 26, 27, 28, 29, 30, 31, 32, 33] (by decide +kernel) (by decide +kernel)
set_option maxRecDepth 20000 in
theorem gX0_leaveAll_X2_rear : GoodIn wsX0_leaveAll (wsV RX0 69 RX2 yX2_rear wsX2_rear) := goodIn_app (goodIn_of _ (by decide +kernel)) ggX0_leaveAll_X2_rear
theorem dX0_leaveAll_0 : decode cX0_leaveAll 0 = .ok (.iconst 0, 1) := by decide +kernel
theorem dX0_leaveAll_1 : decode cX0_leaveAll 1 = .ok (.istore_n 1, 1) := by decide +kernel
theorem dX0_leaveAll_2 : decode cX0_leaveAll 2 = .ok (.iconst 0, 1) := by decide +kernel
theorem dX0_leaveAll_3 : decode cX0_leaveAll 3 = .ok (.istore_n 2, 1) := by decide +kernel
theorem dX0_leaveAll_4 : decode cX0_leaveAll 4 = .ok (.iload_n 2, 1) := by decide +kernel
theorem dX0_leaveAll_5 : decode cX0_leaveAll 5 = .ok (.aload_n 0, 1) := by decide +kernel
theorem dX0_leaveAll_6 : decode cX0_leaveAll 6 = .ok (.getfield 24, 3) := by decide +kernel
theorem dX0_leaveAll_9 : decode cX0_leaveAll 9 = .ok (.if_icmp .ge 46, 3) := by decide +kernel
theorem dX0_leaveAll_12 : decode cX0_leaveAll 12 = .ok (.aload_n 0, 1) := by decide +kernel
theorem dX0_leaveAll_13 : decode cX0_leaveAll 13 = .ok (.getfield 20, 3) := by decide +kernel
theorem dX0_leaveAll_16 : decode cX0_leaveAll 16 = .ok (.iload_n 2, 1) := by decide +kernel
theorem dX0_leaveAll_17 : decode cX0_leaveAll 17 = .ok (.aaload, 1) := by decide +kernel
theorem dX0_leaveAll_18 : decode cX0_leaveAll 18 = .ok (.astore_n 3, 1) := by decide +kernel
theorem dX0_leaveAll_19 : decode cX0_leaveAll 19 = .ok (.aload_n 3, 1) := by decide +kernel
theorem dX0_leaveAll_20 : decode cX0_leaveAll 20 = .ok (.getfield 65, 3) := by decide +kernel
theorem dX0_leaveAll_23 : decode cX0_leaveAll 23 = .ok (.ifCond .ne 26, 3) := by decide +kernel
theorem dX0_leaveAll_26 : decode cX0_leaveAll 26 = .ok (.aload_n 3, 1) := by decide +kernel
theorem dX0_leaveAll_27 : decode cX0_leaveAll 27 = .ok (.invokevirtual 69, 3) := by decide +kernel
theorem dX0_leaveAll_30 : decode cX0_leaveAll 30 = .ok (.sipush 2999, 3) := by decide +kernel
theorem dX0_leaveAll_33 : decode cX0_leaveAll 33 = .ok (.if_icmp .le 16, 3) := by decide +kernel
theorem dX0_leaveAll_36 : decode cX0_leaveAll 36 = .ok (.aload_n 3, 1) := by decide +kernel
theorem dX0_leaveAll_37 : decode cX0_leaveAll 37 = .ok (.iconst 1, 1) := by decide +kernel
theorem dX0_leaveAll_38 : decode cX0_leaveAll 38 = .ok (.putfield 65, 3) := by decide +kernel
theorem dX0_leaveAll_41 : decode cX0_leaveAll 41 = .ok (.aload_n 3, 1) := by decide +kernel
theorem dX0_leaveAll_42 : decode cX0_leaveAll 42 = .ok (.iconst 0, 1) := by decide +kernel
theorem dX0_leaveAll_43 : decode cX0_leaveAll 43 = .ok (.putfield 80, 3) := by decide +kernel
theorem dX0_leaveAll_46 : decode cX0_leaveAll 46 = .ok (.iinc 1 1, 3) := by decide +kernel
theorem dX0_leaveAll_49 : decode cX0_leaveAll 49 = .ok (.iinc 2 1, 3) := by decide +kernel
theorem dX0_leaveAll_52 : decode cX0_leaveAll 52 = .ok (.goto (-48), 3) := by decide +kernel
theorem dX0_leaveAll_55 : decode cX0_leaveAll 55 = .ok (.iload_n 1, 1) := by decide +kernel
theorem dX0_leaveAll_56 : decode cX0_leaveAll 56 = .ok (.ireturn, 1) := by decide +kernel
end
section
theorem dX1_init_0 : decode cX1_init 0 = .ok (.aload_n 0, 1) := by decide +kernel
theorem dX1_init_1 : decode cX1_init 1 = .ok (.invokespecial 3, 3) := by decide +kernel
theorem dX1_init_4 : decode cX1_init 4 = .ok (.aload_n 0, 1) := by decide +kernel
theorem dX1_init_5 : decode cX1_init 5 = .ok (.bipush 20, 2) := by decide +kernel
theorem dX1_init_7 : decode cX1_init 7 = .ok (.newarray .int, 2) := by decide +kernel
theorem dX1_init_9 : decode cX1_init 9 = .ok (.putfield 9, 3) := by decide +kernel
theorem dX1_init_12 : decode cX1_init 12 = .ok (.aload_n 0, 1) := by decide +kernel
theorem dX1_init_13 : decode cX1_init 13 = .ok (.bipush 20, 2) := by decide +kernel
theorem dX1_init_15 : decode cX1_init 15 = .ok (.newarray .int, 2) := by decide +kernel
theorem dX1_init_17 : decode cX1_init 17 = .ok (.putfield 15, 3) := by decide +kernel
theorem dX1_init_20 : decode cX1_init 20 = .ok (.aload_n 0, 1) := by decide +kernel
theorem dX1_init_21 : decode cX1_init 21 = .ok (.bipush 20, 2) := by decide +kernel
theorem dX1_init_23 : decode cX1_init 23 = .ok (.newarray .boolean, 2) := by decide +kernel
theorem dX1_init_25 : decode cX1_init 25 = .ok (.putfield 18, 3) := by decide +kernel
theorem dX1_init_28 : decode cX1_init 28 = .ok (.aload_n 0, 1) := by decide +kernel
theorem dX1_init_29 : decode cX1_init 29 = .ok (.iconst 4, 1) := by decide +kernel
theorem dX1_init_30 : decode cX1_init 30 = .ok (.newarray .int, 2) := by decide +kernel
theorem dX1_init_32 : decode cX1_init 32 = .ok (.putfield 22, 3) := by decide +kernel
theorem dX1_init_35 : decode cX1_init 35 = .ok (.aload_n 0, 1) := by decide +kernel
theorem dX1_init_36 : decode cX1_init 36 = .ok (.iconst 4, 1) := by decide +kernel
theorem dX1_init_37 : decode cX1_init 37 = .ok (.newarray .int, 2) := by decide +kernel
theorem dX1_init_39 : decode cX1_init 39 = .ok (.putfield 25, 3) := by decide +kernel
theorem dX1_init_42 : decode cX1_init 42 = .ok (.aload_n 0, 1) := by decide +kernel
theorem dX1_init_43 : decode cX1_init 43 = .ok (.iconst 4, 1) := by decide +kernel
theorem dX1_init_44 : decode cX1_init 44 = .ok (.newarray .int, 2) := by decide +kernel
theorem dX1_init_46 : decode cX1_init 46 = .ok (.putfield 28, 3) := by decide +kernel
theorem dX1_init_49 : decode cX1_init 49 = .ok (.aload_n 0, 1) := by decide +kernel
theorem dX1_init_50 : decode cX1_init 50 = .ok (.iconst 0, 1) := by decide +kernel
theorem dX1_init_51 : decode cX1_init 51 = .ok (.putfield 31, 3) := by decide +kernel
theorem dX1_init_54 : decode cX1_init 54 = .ok (.aload_n 0, 1) := by decide +kernel
theorem dX1_init_55 : decode cX1_init 55 = .ok (.iconst 3, 1) := by decide +kernel
theorem dX1_init_56 : decode cX1_init 56 = .ok (.newarray .int, 2) := by decide +kernel
theorem dX1_init_58 : decode cX1_init 58 = .ok (.putfield 35, 3) := by decide +kernel
theorem dX1_init_61 : decode cX1_init 61 = .ok (.aload_n 0, 1) := by decide +kernel
theorem dX1_init_62 : decode cX1_init 62 = .ok (.iconst 3, 1) := by decide +kernel
theorem dX1_init_63 : decode cX1_init 63 = .ok (.newarray .int, 2) := by decide +kernel
theorem dX1_init_65 : decode cX1_init 65 = .ok (.putfield 38, 3) := by decide +kernel
theorem dX1_init_68 : decode cX1_init 68 = .ok (.aload_n 0, 1) := by decide +kernel
theorem dX1_init_69 : decode cX1_init 69 = .ok (.iconst 0, 1) := by decide +kernel
theorem dX1_init_70 : decode cX1_init 70 = .ok (.putfield 41, 3) := by decide +kernel
theorem dX1_init_73 : decode cX1_init 73 = .ok (.iconst 0, 1) := by decide +kernel
theorem dX1_init_74 : decode cX1_init 74 = .ok (.istore_n 1, 1) := by decide +kernel
theorem dX1_init_75 : decode cX1_init 75 = .ok (.iload_n 1, 1) := by decide +kernel
theorem dX1_init_76 : decode cX1_init 76 = .ok (.bipush 20, 2) := by decide +kernel
theorem dX1_init_78 : decode cX1_init 78 = .ok (.if_icmp .ge 24, 3) := by decide +kernel
theorem dX1_init_81 : decode cX1_init 81 = .ok (.aload_n 0, 1) := by decide +kernel
theorem dX1_init_82 : decode cX1_init 82 = .ok (.getfield 9, 3) := by decide +kernel
theorem dX1_init_85 : decode cX1_init 85 = .ok (.iload_n 1, 1) := by decide +kernel
theorem dX1_init_86 : decode cX1_init 86 = .ok (.bipush 40, 2) := by decide +kernel
theorem dX1_init_88 : decode cX1_init 88 = .ok (.iastore, 1) := by decide +kernel
theorem dX1_init_89 : decode cX1_init 89 = .ok (.aload_n 0, 1) := by decide +kernel
theorem dX1_init_90 : decode cX1_init 90 = .ok (.getfield 18, 3) := by decide +kernel
theorem dX1_init_93 : decode cX1_init 93 = .ok (.iload_n 1, 1) := by decide +kernel
theorem dX1_init_94 : decode cX1_init 94 = .ok (.iconst 1, 1) := by decide +kernel
theorem dX1_init_95 : decode cX1_init 95 = .ok (.bastore, 1) := by decide +kernel
theorem dX1_init_96 : decode cX1_init 96 = .ok (.iinc 1 1, 3) := by decide +kernel
theorem dX1_init_99 : decode cX1_init 99 = .ok (.goto (-24), 3) := by decide +kernel
theorem dX1_init_102 : decode cX1_init 102 = .ok (.return_, 1) := by decide +kernel
theorem dX1_copyFrom_0 : decode cX1_copyFrom 0 = .ok (.iconst 0, 1) := by decide +kernel
theorem dX1_copyFrom_1 : decode cX1_copyFrom 1 = .ok (.istore_n 2, 1) := by decide +kernel
theorem dX1_copyFrom_2 : decode cX1_copyFrom 2 = .ok (.iload_n 2, 1) := by decide +kernel
theorem dX1_copyFrom_3 : decode cX1_copyFrom 3 = .ok (.bipush 20, 2) := by decide +kernel
theorem dX1_copyFrom_5 : decode cX1_copyFrom 5 = .ok (.if_icmp .ge 45, 3) := by decide +kernel
theorem dX1_copyFrom_8 : decode cX1_copyFrom 8 = .ok (.aload_n 0, 1) := by decide +kernel
theorem dX1_copyFrom_9 : decode cX1_copyFrom 9 = .ok (.getfield 9, 3) := by decide +kernel
theorem dX1_copyFrom_12 : decode cX1_copyFrom 12 = .ok (.iload_n 2, 1) := by decide +kernel
theorem dX1_copyFrom_13 : decode cX1_copyFrom 13 = .ok (.aload_n 1, 1) := by decide +kernel
theorem dX1_copyFrom_14 : decode cX1_copyFrom 14 = .ok (.getfield 9, 3) := by decide +kernel
theorem dX1_copyFrom_17 : decode cX1_copyFrom 17 = .ok (.iload_n 2, 1) := by decide +kernel
theorem dX1_copyFrom_18 : decode cX1_copyFrom 18 = .ok (.iaload, 1) := by decide +kernel
theorem dX1_copyFrom_19 : decode cX1_copyFrom 19 = .ok (.iastore, 1) := by decide +kernel
theorem dX1_copyFrom_20 : decode cX1_copyFrom 20 = .ok (.aload_n 0, 1) := by decide +kernel
theorem dX1_copyFrom_21 : decode cX1_copyFrom 21 = .ok (.getfield 15, 3) := by decide +kernel
theorem dX1_copyFrom_24 : decode cX1_copyFrom 24 = .ok (.iload_n 2, 1) := by decide +kernel
theorem dX1_copyFrom_25 : decode cX1_copyFrom 25 = .ok (.aload_n 1, 1) := by decide +kernel
theorem dX1_copyFrom_26 : decode cX1_copyFrom 26 = .ok (.getfield 15, 3) := by decide +kernel
theorem dX1_copyFrom_29 : decode cX1_copyFrom 29 = .ok (.iload_n 2, 1) := by decide +kernel
theorem dX1_copyFrom_30 : decode cX1_copyFrom 30 = .ok (.iaload, 1) := by decide +kernel
theorem dX1_copyFrom_31 : decode cX1_copyFrom 31 = .ok (.iastore, 1) := by decide +kernel
theorem dX1_copyFrom_32 : decode cX1_copyFrom 32 = .ok (.aload_n 0, 1) := by decide +kernel
theorem dX1_copyFrom_33 : decode cX1_copyFrom 33 = .ok (.getfield 18, 3) := by decide +kernel
theorem dX1_copyFrom_36 : decode cX1_copyFrom 36 = .ok (.iload_n 2, 1) := by decide +kernel
theorem dX1_copyFrom_37 : decode cX1_copyFrom 37 = .ok (.aload_n 1, 1) := by decide +kernel
theorem dX1_copyFrom_38 : decode cX1_copyFrom 38 = .ok (.getfield 18, 3) := by decide +kernel
theorem dX1_copyFrom_41 : decode cX1_copyFrom 41 = .ok (.iload_n 2, 1) := by decide +kernel
theorem dX1_copyFrom_42 : decode cX1_copyFrom 42 = .ok (.baload, 1) := by decide +kernel
theorem dX1_copyFrom_43 : decode cX1_copyFrom 43 = .ok (.bastore, 1) := by decide +kernel
theorem dX1_copyFrom_44 : decode cX1_copyFrom 44 = .ok (.iinc 2 1, 3) := by decide +kernel
theorem dX1_copyFrom_47 : decode cX1_copyFrom 47 = .ok (.goto (-45), 3) := by decide +kernel
theorem dX1_copyFrom_50 : decode cX1_copyFrom 50 = .ok (.iconst 0, 1) := by decide +kernel
theorem dX1_copyFrom_51 : decode cX1_copyFrom 51 = .ok (.istore_n 2, 1) := by decide +kernel
theorem dX1_copyFrom_52 : decode cX1_copyFrom 52 = .ok (.iload_n 2, 1) := by decide +kernel
theorem dX1_copyFrom_53 : decode cX1_copyFrom 53 = .ok (.iconst 4, 1) := by decide +kernel
theorem dX1_copyFrom_54 : decode cX1_copyFrom 54 = .ok (.if_icmp .ge 45, 3) := by decide +kernel
theorem dX1_copyFrom_57 : decode cX1_copyFrom 57 = .ok (.aload_n 0, 1) := by decide +kernel
theorem dX1_copyFrom_58 : decode cX1_copyFrom 58 = .ok (.getfield 22, 3) := by decide +kernel
theorem dX1_copyFrom_61 : decode cX1_copyFrom 61 = .ok (.iload_n 2, 1) := by decide +kernel
theorem dX1_copyFrom_62 : decode cX1_copyFrom 62 = .ok (.aload_n 1, 1) := by decide +kernel
theorem dX1_copyFrom_63 : decode cX1_copyFrom 63 = .ok (.getfield 22, 3) := by decide +kernel
theorem dX1_copyFrom_66 : decode cX1_copyFrom 66 = .ok (.iload_n 2, 1) := by decide +kernel
theorem dX1_copyFrom_67 : decode cX1_copyFrom 67 = .ok (.iaload, 1) := by decide +kernel
theorem dX1_copyFrom_68 : decode cX1_copyFrom 68 = .ok (.iastore, 1) := by decide +kernel
theorem dX1_copyFrom_69 : decode cX1_copyFrom 69 = .ok (.aload_n 0, 1) := by decide +kernel
theorem dX1_copyFrom_70 : decode cX1_copyFrom 70 = .ok (.getfield 25, 3) := by decide +kernel
theorem dX1_copyFrom_73 : decode cX1_copyFrom 73 = .ok (.iload_n 2, 1) := by decide +kernel
theorem dX1_copyFrom_74 : decode cX1_copyFrom 74 = .ok (.aload_n 1, 1) := by decide +kernel
theorem dX1_copyFrom_75 : decode cX1_copyFrom 75 = .ok (.getfield 25, 3) := by decide +kernel
theorem dX1_copyFrom_78 : decode cX1_copyFrom 78 = .ok (.iload_n 2, 1) := by decide +kernel
theorem dX1_copyFrom_79 : decode cX1_copyFrom 79 = .ok (.iaload, 1) := by decide +kernel
theorem dX1_copyFrom_80 : decode cX1_copyFrom 80 = .ok (.iastore, 1) := by decide +kernel
theorem dX1_copyFrom_81 : decode cX1_copyFrom 81 = .ok (.aload_n 0, 1) := by decide +kernel
theorem dX1_copyFrom_82 : decode cX1_copyFrom 82 = .ok (.getfield 28, 3) := by decide +kernel
theorem dX1_copyFrom_85 : decode cX1_copyFrom 85 = .ok (.iload_n 2, 1) := by decide +kernel
theorem dX1_copyFrom_86 : decode cX1_copyFrom 86 = .ok (.aload_n 1, 1) := by decide +kernel
theorem dX1_copyFrom_87 : decode cX1_copyFrom 87 = .ok (.getfield 28, 3) := by decide +kernel
theorem dX1_copyFrom_90 : decode cX1_copyFrom 90 = .ok (.iload_n 2, 1) := by decide +kernel
theorem dX1_copyFrom_91 : decode cX1_copyFrom 91 = .ok (.iaload, 1) := by decide +kernel
theorem dX1_copyFrom_92 : decode cX1_copyFrom 92 = .ok (.iastore, 1) := by decide +kernel
theorem dX1_copyFrom_93 : decode cX1_copyFrom 93 = .ok (.iinc 2 1, 3) := by decide +kernel
theorem dX1_copyFrom_96 : decode cX1_copyFrom 96 = .ok (.goto (-44), 3) := by decide +kernel
theorem dX1_copyFrom_99 : decode cX1_copyFrom 99 = .ok (.aload_n 0, 1) := by decide +kernel
theorem dX1_copyFrom_100 : decode cX1_copyFrom 100 = .ok (.aload_n 1, 1) := by decide +kernel
theorem dX1_copyFrom_101 : decode cX1_copyFrom 101 = .ok (.getfield 31, 3) := by decide +kernel
theorem dX1_copyFrom_104 : decode cX1_copyFrom 104 = .ok (.putfield 31, 3) := by decide +kernel
theorem dX1_copyFrom_107 : decode cX1_copyFrom 107 = .ok (.iconst 0, 1) := by decide +kernel
theorem dX1_copyFrom_108 : decode cX1_copyFrom 108 = .ok (.istore_n 2, 1) := by decide +kernel
theorem dX1_copyFrom_109 : decode cX1_copyFrom 109 = .ok (.iload_n 2, 1) := by decide +kernel
theorem dX1_copyFrom_110 : decode cX1_copyFrom 110 = .ok (.iconst 3, 1) := by decide +kernel
theorem dX1_copyFrom_111 : decode cX1_copyFrom 111 = .ok (.if_icmp .ge 33, 3) := by decide +kernel
theorem dX1_copyFrom_114 : decode cX1_copyFrom 114 = .ok (.aload_n 0, 1) := by decide +kernel
theorem dX1_copyFrom_115 : decode cX1_copyFrom 115 = .ok (.getfield 35, 3) := by decide +kernel
theorem dX1_copyFrom_118 : decode cX1_copyFrom 118 = .ok (.iload_n 2, 1) := by decide +kernel
theorem dX1_copyFrom_119 : decode cX1_copyFrom 119 = .ok (.aload_n 1, 1) := by decide +kernel
theorem dX1_copyFrom_120 : decode cX1_copyFrom 120 = .ok (.getfield 35, 3) := by decide +kernel
theorem dX1_copyFrom_123 : decode cX1_copyFrom 123 = .ok (.iload_n 2, 1) := by decide +kernel
theorem dX1_copyFrom_124 : decode cX1_copyFrom 124 = .ok (.iaload, 1) := by decide +kernel
theorem dX1_copyFrom_125 : decode cX1_copyFrom 125 = .ok (.iastore, 1) := by decide +kernel
theorem dX1_copyFrom_126 : decode cX1_copyFrom 126 = .ok (.aload_n 0, 1) := by decide +kernel
theorem dX1_copyFrom_127 : decode cX1_copyFrom 127 = .ok (.getfield 38, 3) := by decide +kernel
theorem dX1_copyFrom_130 : decode cX1_copyFrom 130 = .ok (.iload_n 2, 1) := by decide +kernel
theorem dX1_copyFrom_131 : decode cX1_copyFrom 131 = .ok (.aload_n 1, 1) := by decide +kernel
theorem dX1_copyFrom_132 : decode cX1_copyFrom 132 = .ok (.getfield 38, 3) := by decide +kernel
theorem dX1_copyFrom_135 : decode cX1_copyFrom 135 = .ok (.iload_n 2, 1) := by decide +kernel
theorem dX1_copyFrom_136 : decode cX1_copyFrom 136 = .ok (.iaload, 1) := by decide +kernel
theorem dX1_copyFrom_137 : decode cX1_copyFrom 137 = .ok (.iastore, 1) := by decide +kernel
theorem dX1_copyFrom_138 : decode cX1_copyFrom 138 = .ok (.iinc 2 1, 3) := by decide +kernel
theorem dX1_copyFrom_141 : decode cX1_copyFrom 141 = .ok (.goto (-32), 3) := by decide +kernel
theorem dX1_copyFrom_144 : decode cX1_copyFrom 144 = .ok (.aload_n 0, 1) := by decide +kernel
theorem dX1_copyFrom_145 : decode cX1_copyFrom 145 = .ok (.aload_n 1, 1) := by decide +kernel
theorem dX1_copyFrom_146 : decode cX1_copyFrom 146 = .ok (.getfield 41, 3) := by decide +kernel
theorem dX1_copyFrom_149 : decode cX1_copyFrom 149 = .ok (.putfield 41, 3) := by decide +kernel
theorem dX1_copyFrom_152 : decode cX1_copyFrom 152 = .ok (.return_, 1) := by decide +kernel
set_option maxRecDepth 20000 in
theorem ggX1_leastLimit_X3_sectionAt : GoodIn wsX1_leastLimit wsX3_sectionAt := goodIn_r _ [8] (by decide +kernel) (by decide +kernel)
set_option maxRecDepth 20000 in
theorem gX1_leastLimit_X3_sectionAt_n44 : GoodIn wsX1_leastLimit (wsX3_sectionAt) := ggX1_leastLimit_X3_sectionAt
theorem dX1_leastLimit_0 : decode cX1_leastLimit 0 = .ok (.bipush 40, 2) := by decide +kernel
theorem dX1_leastLimit_2 : decode cX1_leastLimit 2 = .ok (.istore_n 3, 1) := by decide +kernel
theorem dX1_leastLimit_3 : decode cX1_leastLimit 3 = .ok (.iload_n 2, 1) := by decide +kernel
theorem dX1_leastLimit_4 : decode cX1_leastLimit 4 = .ok (.invokestatic 44, 3) := by decide +kernel
theorem dX1_leastLimit_7 : decode cX1_leastLimit 7 = .ok (.istore 4, 2) := by decide +kernel
theorem dX1_leastLimit_9 : decode cX1_leastLimit 9 = .ok (.iload_n 1, 1) := by decide +kernel
theorem dX1_leastLimit_10 : decode cX1_leastLimit 10 = .ok (.invokestatic 44, 3) := by decide +kernel
theorem dX1_leastLimit_13 : decode cX1_leastLimit 13 = .ok (.istore 5, 2) := by decide +kernel
theorem dX1_leastLimit_15 : decode cX1_leastLimit 15 = .ok (.iload 5, 2) := by decide +kernel
theorem dX1_leastLimit_17 : decode cX1_leastLimit 17 = .ok (.iload 4, 2) := by decide +kernel
theorem dX1_leastLimit_19 : decode cX1_leastLimit 19 = .ok (.if_icmp .gt 21, 3) := by decide +kernel
theorem dX1_leastLimit_22 : decode cX1_leastLimit 22 = .ok (.iload_n 3, 1) := by decide +kernel
theorem dX1_leastLimit_23 : decode cX1_leastLimit 23 = .ok (.aload_n 0, 1) := by decide +kernel
theorem dX1_leastLimit_24 : decode cX1_leastLimit 24 = .ok (.getfield 9, 3) := by decide +kernel
theorem dX1_leastLimit_27 : decode cX1_leastLimit 27 = .ok (.iload 5, 2) := by decide +kernel
theorem dX1_leastLimit_29 : decode cX1_leastLimit 29 = .ok (.iaload, 1) := by decide +kernel
theorem dX1_leastLimit_30 : decode cX1_leastLimit 30 = .ok (.invokestatic 48, 3) := by decide +kernel
theorem dX1_leastLimit_33 : decode cX1_leastLimit 33 = .ok (.istore_n 3, 1) := by decide +kernel
theorem dX1_leastLimit_34 : decode cX1_leastLimit 34 = .ok (.iinc 5 1, 3) := by decide +kernel
theorem dX1_leastLimit_37 : decode cX1_leastLimit 37 = .ok (.goto (-22), 3) := by decide +kernel
theorem dX1_leastLimit_40 : decode cX1_leastLimit 40 = .ok (.iload_n 3, 1) := by decide +kernel
theorem dX1_leastLimit_41 : decode cX1_leastLimit 41 = .ok (.ireturn, 1) := by decide +kernel
theorem dX1_hasStationAt_0 : decode cX1_hasStationAt 0 = .ok (.iconst 0, 1) := by decide +kernel
theorem dX1_hasStationAt_1 : decode cX1_hasStationAt 1 = .ok (.istore_n 2, 1) := by decide +kernel
theorem dX1_hasStationAt_2 : decode cX1_hasStationAt 2 = .ok (.iload_n 2, 1) := by decide +kernel
theorem dX1_hasStationAt_3 : decode cX1_hasStationAt 3 = .ok (.aload_n 0, 1) := by decide +kernel
theorem dX1_hasStationAt_4 : decode cX1_hasStationAt 4 = .ok (.getfield 31, 3) := by decide +kernel
theorem dX1_hasStationAt_7 : decode cX1_hasStationAt 7 = .ok (.if_icmp .ge 21, 3) := by decide +kernel
theorem dX1_hasStationAt_10 : decode cX1_hasStationAt 10 = .ok (.aload_n 0, 1) := by decide +kernel
theorem dX1_hasStationAt_11 : decode cX1_hasStationAt 11 = .ok (.getfield 22, 3) := by decide +kernel
theorem dX1_hasStationAt_14 : decode cX1_hasStationAt 14 = .ok (.iload_n 2, 1) := by decide +kernel
theorem dX1_hasStationAt_15 : decode cX1_hasStationAt 15 = .ok (.iaload, 1) := by decide +kernel
theorem dX1_hasStationAt_16 : decode cX1_hasStationAt 16 = .ok (.iload_n 1, 1) := by decide +kernel
theorem dX1_hasStationAt_17 : decode cX1_hasStationAt 17 = .ok (.if_icmp .ne 5, 3) := by decide +kernel
theorem dX1_hasStationAt_20 : decode cX1_hasStationAt 20 = .ok (.iconst 1, 1) := by decide +kernel
theorem dX1_hasStationAt_21 : decode cX1_hasStationAt 21 = .ok (.ireturn, 1) := by decide +kernel
theorem dX1_hasStationAt_22 : decode cX1_hasStationAt 22 = .ok (.iinc 2 1, 3) := by decide +kernel
theorem dX1_hasStationAt_25 : decode cX1_hasStationAt 25 = .ok (.goto (-23), 3) := by decide +kernel
theorem dX1_hasStationAt_28 : decode cX1_hasStationAt 28 = .ok (.iconst 0, 1) := by decide +kernel
theorem dX1_hasStationAt_29 : decode cX1_hasStationAt 29 = .ok (.ireturn, 1) := by decide +kernel
theorem dX1_addStation_0 : decode cX1_addStation 0 = .ok (.aload_n 0, 1) := by decide +kernel
theorem dX1_addStation_1 : decode cX1_addStation 1 = .ok (.getfield 31, 3) := by decide +kernel
theorem dX1_addStation_4 : decode cX1_addStation 4 = .ok (.istore_n 3, 1) := by decide +kernel
theorem dX1_addStation_5 : decode cX1_addStation 5 = .ok (.aload_n 0, 1) := by decide +kernel
theorem dX1_addStation_6 : decode cX1_addStation 6 = .ok (.getfield 22, 3) := by decide +kernel
theorem dX1_addStation_9 : decode cX1_addStation 9 = .ok (.iload_n 3, 1) := by decide +kernel
theorem dX1_addStation_10 : decode cX1_addStation 10 = .ok (.iload_n 1, 1) := by decide +kernel
theorem dX1_addStation_11 : decode cX1_addStation 11 = .ok (.iastore, 1) := by decide +kernel
theorem dX1_addStation_12 : decode cX1_addStation 12 = .ok (.aload_n 0, 1) := by decide +kernel
theorem dX1_addStation_13 : decode cX1_addStation 13 = .ok (.getfield 25, 3) := by decide +kernel
theorem dX1_addStation_16 : decode cX1_addStation 16 = .ok (.iload_n 3, 1) := by decide +kernel
theorem dX1_addStation_17 : decode cX1_addStation 17 = .ok (.iload_n 2, 1) := by decide +kernel
theorem dX1_addStation_18 : decode cX1_addStation 18 = .ok (.iastore, 1) := by decide +kernel
theorem dX1_addStation_19 : decode cX1_addStation 19 = .ok (.aload_n 0, 1) := by decide +kernel
theorem dX1_addStation_20 : decode cX1_addStation 20 = .ok (.getfield 28, 3) := by decide +kernel
theorem dX1_addStation_23 : decode cX1_addStation 23 = .ok (.iload_n 3, 1) := by decide +kernel
theorem dX1_addStation_24 : decode cX1_addStation 24 = .ok (.iconst 0, 1) := by decide +kernel
theorem dX1_addStation_25 : decode cX1_addStation 25 = .ok (.iastore, 1) := by decide +kernel
theorem dX1_addStation_26 : decode cX1_addStation 26 = .ok (.aload_n 0, 1) := by decide +kernel
theorem dX1_addStation_27 : decode cX1_addStation 27 = .ok (.iload_n 3, 1) := by decide +kernel
theorem dX1_addStation_28 : decode cX1_addStation 28 = .ok (.iconst 1, 1) := by decide +kernel
theorem dX1_addStation_29 : decode cX1_addStation 29 = .ok (.iadd, 1) := by decide +kernel
theorem dX1_addStation_30 : decode cX1_addStation 30 = .ok (.putfield 31, 3) := by decide +kernel
theorem dX1_addStation_33 : decode cX1_addStation 33 = .ok (.iload_n 3, 1) := by decide +kernel
theorem dX1_addStation_34 : decode cX1_addStation 34 = .ok (.ireturn, 1) := by decide +kernel
theorem dX1_stationsFrom_0 : decode cX1_stationsFrom 0 = .ok (.iconst 0, 1) := by decide +kernel
theorem dX1_stationsFrom_1 : decode cX1_stationsFrom 1 = .ok (.istore_n 2, 1) := by decide +kernel
theorem dX1_stationsFrom_2 : decode cX1_stationsFrom 2 = .ok (.iconst 0, 1) := by decide +kernel
theorem dX1_stationsFrom_3 : decode cX1_stationsFrom 3 = .ok (.istore_n 3, 1) := by decide +kernel
theorem dX1_stationsFrom_4 : decode cX1_stationsFrom 4 = .ok (.iload_n 3, 1) := by decide +kernel
theorem dX1_stationsFrom_5 : decode cX1_stationsFrom 5 = .ok (.aload_n 0, 1) := by decide +kernel
theorem dX1_stationsFrom_6 : decode cX1_stationsFrom 6 = .ok (.getfield 31, 3) := by decide +kernel
theorem dX1_stationsFrom_9 : decode cX1_stationsFrom 9 = .ok (.if_icmp .ge 25, 3) := by decide +kernel
theorem dX1_stationsFrom_12 : decode cX1_stationsFrom 12 = .ok (.aload_n 0, 1) := by decide +kernel
theorem dX1_stationsFrom_13 : decode cX1_stationsFrom 13 = .ok (.getfield 22, 3) := by decide +kernel
theorem dX1_stationsFrom_16 : decode cX1_stationsFrom 16 = .ok (.iload_n 3, 1) := by decide +kernel
theorem dX1_stationsFrom_17 : decode cX1_stationsFrom 17 = .ok (.iaload, 1) := by decide +kernel
theorem dX1_stationsFrom_18 : decode cX1_stationsFrom 18 = .ok (.iload_n 1, 1) := by decide +kernel
theorem dX1_stationsFrom_19 : decode cX1_stationsFrom 19 = .ok (.if_icmp .lt 9, 3) := by decide +kernel
theorem dX1_stationsFrom_22 : decode cX1_stationsFrom 22 = .ok (.iload_n 2, 1) := by decide +kernel
theorem dX1_stationsFrom_23 : decode cX1_stationsFrom 23 = .ok (.iconst 1, 1) := by decide +kernel
theorem dX1_stationsFrom_24 : decode cX1_stationsFrom 24 = .ok (.iload_n 3, 1) := by decide +kernel
theorem dX1_stationsFrom_25 : decode cX1_stationsFrom 25 = .ok (.ishl, 1) := by decide +kernel
theorem dX1_stationsFrom_26 : decode cX1_stationsFrom 26 = .ok (.ior, 1) := by decide +kernel
theorem dX1_stationsFrom_27 : decode cX1_stationsFrom 27 = .ok (.istore_n 2, 1) := by decide +kernel
theorem dX1_stationsFrom_28 : decode cX1_stationsFrom 28 = .ok (.iinc 3 1, 3) := by decide +kernel
theorem dX1_stationsFrom_31 : decode cX1_stationsFrom 31 = .ok (.goto (-27), 3) := by decide +kernel
theorem dX1_stationsFrom_34 : decode cX1_stationsFrom 34 = .ok (.iload_n 2, 1) := by decide +kernel
theorem dX1_stationsFrom_35 : decode cX1_stationsFrom 35 = .ok (.ireturn, 1) := by decide +kernel
theorem dX1_nextStation_0 : decode cX1_nextStation 0 = .ok (.iconst (-1), 1) := by decide +kernel
theorem dX1_nextStation_1 : decode cX1_nextStation 1 = .ok (.istore_n 2, 1) := by decide +kernel
theorem dX1_nextStation_2 : decode cX1_nextStation 2 = .ok (.iconst 0, 1) := by decide +kernel
theorem dX1_nextStation_3 : decode cX1_nextStation 3 = .ok (.istore_n 3, 1) := by decide +kernel
theorem dX1_nextStation_4 : decode cX1_nextStation 4 = .ok (.iload_n 3, 1) := by decide +kernel
theorem dX1_nextStation_5 : decode cX1_nextStation 5 = .ok (.aload_n 0, 1) := by decide +kernel
theorem dX1_nextStation_6 : decode cX1_nextStation 6 = .ok (.getfield 31, 3) := by decide +kernel
theorem dX1_nextStation_9 : decode cX1_nextStation 9 = .ok (.if_icmp .ge 51, 3) := by decide +kernel
theorem dX1_nextStation_12 : decode cX1_nextStation 12 = .ok (.iload_n 1, 1) := by decide +kernel
theorem dX1_nextStation_13 : decode cX1_nextStation 13 = .ok (.iconst 1, 1) := by decide +kernel
theorem dX1_nextStation_14 : decode cX1_nextStation 14 = .ok (.iload_n 3, 1) := by decide +kernel
theorem dX1_nextStation_15 : decode cX1_nextStation 15 = .ok (.ishl, 1) := by decide +kernel
theorem dX1_nextStation_16 : decode cX1_nextStation 16 = .ok (.iand, 1) := by decide +kernel
theorem dX1_nextStation_17 : decode cX1_nextStation 17 = .ok (.ifCond .eq 7, 3) := by decide +kernel
theorem dX1_nextStation_20 : decode cX1_nextStation 20 = .ok (.iconst 1, 1) := by decide +kernel
theorem dX1_nextStation_21 : decode cX1_nextStation 21 = .ok (.goto 4, 3) := by decide +kernel
theorem dX1_nextStation_24 : decode cX1_nextStation 24 = .ok (.iconst 0, 1) := by decide +kernel
theorem dX1_nextStation_25 : decode cX1_nextStation 25 = .ok (.istore 4, 2) := by decide +kernel
theorem dX1_nextStation_27 : decode cX1_nextStation 27 = .ok (.iload 4, 2) := by decide +kernel
theorem dX1_nextStation_29 : decode cX1_nextStation 29 = .ok (.ifCond .eq 25, 3) := by decide +kernel
theorem dX1_nextStation_32 : decode cX1_nextStation 32 = .ok (.iload_n 2, 1) := by decide +kernel
theorem dX1_nextStation_33 : decode cX1_nextStation 33 = .ok (.iconst (-1), 1) := by decide +kernel
theorem dX1_nextStation_34 : decode cX1_nextStation 34 = .ok (.if_icmp .eq 18, 3) := by decide +kernel
theorem dX1_nextStation_37 : decode cX1_nextStation 37 = .ok (.aload_n 0, 1) := by decide +kernel
theorem dX1_nextStation_38 : decode cX1_nextStation 38 = .ok (.getfield 22, 3) := by decide +kernel
theorem dX1_nextStation_41 : decode cX1_nextStation 41 = .ok (.iload_n 3, 1) := by decide +kernel
theorem dX1_nextStation_42 : decode cX1_nextStation 42 = .ok (.iaload, 1) := by decide +kernel
theorem dX1_nextStation_43 : decode cX1_nextStation 43 = .ok (.aload_n 0, 1) := by decide +kernel
theorem dX1_nextStation_44 : decode cX1_nextStation 44 = .ok (.getfield 22, 3) := by decide +kernel
theorem dX1_nextStation_47 : decode cX1_nextStation 47 = .ok (.iload_n 2, 1) := by decide +kernel
theorem dX1_nextStation_48 : decode cX1_nextStation 48 = .ok (.iaload, 1) := by decide +kernel
theorem dX1_nextStation_49 : decode cX1_nextStation 49 = .ok (.if_icmp .ge 5, 3) := by decide +kernel
theorem dX1_nextStation_52 : decode cX1_nextStation 52 = .ok (.iload_n 3, 1) := by decide +kernel
theorem dX1_nextStation_53 : decode cX1_nextStation 53 = .ok (.istore_n 2, 1) := by decide +kernel
theorem dX1_nextStation_54 : decode cX1_nextStation 54 = .ok (.iinc 3 1, 3) := by decide +kernel
theorem dX1_nextStation_57 : decode cX1_nextStation 57 = .ok (.goto (-53), 3) := by decide +kernel
theorem dX1_nextStation_60 : decode cX1_nextStation 60 = .ok (.iload_n 2, 1) := by decide +kernel
theorem dX1_nextStation_61 : decode cX1_nextStation 61 = .ok (.ireturn, 1) := by decide +kernel
theorem dX1_addWorks_0 : decode cX1_addWorks 0 = .ok (.aload_n 0, 1) := by decide +kernel
theorem dX1_addWorks_1 : decode cX1_addWorks 1 = .ok (.getfield 35, 3) := by decide +kernel
theorem dX1_addWorks_4 : decode cX1_addWorks 4 = .ok (.aload_n 0, 1) := by decide +kernel
theorem dX1_addWorks_5 : decode cX1_addWorks 5 = .ok (.getfield 41, 3) := by decide +kernel
theorem dX1_addWorks_8 : decode cX1_addWorks 8 = .ok (.iload_n 1, 1) := by decide +kernel
theorem dX1_addWorks_9 : decode cX1_addWorks 9 = .ok (.iastore, 1) := by decide +kernel
theorem dX1_addWorks_10 : decode cX1_addWorks 10 = .ok (.aload_n 0, 1) := by decide +kernel
theorem dX1_addWorks_11 : decode cX1_addWorks 11 = .ok (.getfield 38, 3) := by decide +kernel
theorem dX1_addWorks_14 : decode cX1_addWorks 14 = .ok (.aload_n 0, 1) := by decide +kernel
theorem dX1_addWorks_15 : decode cX1_addWorks 15 = .ok (.getfield 41, 3) := by decide +kernel
theorem dX1_addWorks_18 : decode cX1_addWorks 18 = .ok (.iload_n 2, 1) := by decide +kernel
theorem dX1_addWorks_19 : decode cX1_addWorks 19 = .ok (.iastore, 1) := by decide +kernel
theorem dX1_addWorks_20 : decode cX1_addWorks 20 = .ok (.aload_n 0, 1) := by decide +kernel
theorem dX1_addWorks_21 : decode cX1_addWorks 21 = .ok (.dup, 1) := by decide +kernel
theorem dX1_addWorks_22 : decode cX1_addWorks 22 = .ok (.getfield 41, 3) := by decide +kernel
theorem dX1_addWorks_25 : decode cX1_addWorks 25 = .ok (.iconst 1, 1) := by decide +kernel
theorem dX1_addWorks_26 : decode cX1_addWorks 26 = .ok (.iadd, 1) := by decide +kernel
theorem dX1_addWorks_27 : decode cX1_addWorks 27 = .ok (.putfield 41, 3) := by decide +kernel
theorem dX1_addWorks_30 : decode cX1_addWorks 30 = .ok (.aload_n 0, 1) := by decide +kernel
theorem dX1_addWorks_31 : decode cX1_addWorks 31 = .ok (.getfield 41, 3) := by decide +kernel
theorem dX1_addWorks_34 : decode cX1_addWorks 34 = .ok (.ireturn, 1) := by decide +kernel
theorem dX1_removeWorks_0 : decode cX1_removeWorks 0 = .ok (.iload_n 1, 1) := by decide +kernel
theorem dX1_removeWorks_1 : decode cX1_removeWorks 1 = .ok (.iconst 1, 1) := by decide +kernel
theorem dX1_removeWorks_2 : decode cX1_removeWorks 2 = .ok (.iadd, 1) := by decide +kernel
theorem dX1_removeWorks_3 : decode cX1_removeWorks 3 = .ok (.istore_n 2, 1) := by decide +kernel
theorem dX1_removeWorks_4 : decode cX1_removeWorks 4 = .ok (.iload_n 2, 1) := by decide +kernel
theorem dX1_removeWorks_5 : decode cX1_removeWorks 5 = .ok (.aload_n 0, 1) := by decide +kernel
theorem dX1_removeWorks_6 : decode cX1_removeWorks 6 = .ok (.getfield 41, 3) := by decide +kernel
theorem dX1_removeWorks_9 : decode cX1_removeWorks 9 = .ok (.if_icmp .ge 37, 3) := by decide +kernel
theorem dX1_removeWorks_12 : decode cX1_removeWorks 12 = .ok (.aload_n 0, 1) := by decide +kernel
theorem dX1_removeWorks_13 : decode cX1_removeWorks 13 = .ok (.getfield 35, 3) := by decide +kernel
theorem dX1_removeWorks_16 : decode cX1_removeWorks 16 = .ok (.iload_n 2, 1) := by decide +kernel
theorem dX1_removeWorks_17 : decode cX1_removeWorks 17 = .ok (.iconst 1, 1) := by decide +kernel
theorem dX1_removeWorks_18 : decode cX1_removeWorks 18 = .ok (.isub, 1) := by decide +kernel
theorem dX1_removeWorks_19 : decode cX1_removeWorks 19 = .ok (.aload_n 0, 1) := by decide +kernel
theorem dX1_removeWorks_20 : decode cX1_removeWorks 20 = .ok (.getfield 35, 3) := by decide +kernel
theorem dX1_removeWorks_23 : decode cX1_removeWorks 23 = .ok (.iload_n 2, 1) := by decide +kernel
theorem dX1_removeWorks_24 : decode cX1_removeWorks 24 = .ok (.iaload, 1) := by decide +kernel
theorem dX1_removeWorks_25 : decode cX1_removeWorks 25 = .ok (.iastore, 1) := by decide +kernel
theorem dX1_removeWorks_26 : decode cX1_removeWorks 26 = .ok (.aload_n 0, 1) := by decide +kernel
theorem dX1_removeWorks_27 : decode cX1_removeWorks 27 = .ok (.getfield 38, 3) := by decide +kernel
theorem dX1_removeWorks_30 : decode cX1_removeWorks 30 = .ok (.iload_n 2, 1) := by decide +kernel
theorem dX1_removeWorks_31 : decode cX1_removeWorks 31 = .ok (.iconst 1, 1) := by decide +kernel
theorem dX1_removeWorks_32 : decode cX1_removeWorks 32 = .ok (.isub, 1) := by decide +kernel
theorem dX1_removeWorks_33 : decode cX1_removeWorks 33 = .ok (.aload_n 0, 1) := by decide +kernel
theorem dX1_removeWorks_34 : decode cX1_removeWorks 34 = .ok (.getfield 38, 3) := by decide +kernel
theorem dX1_removeWorks_37 : decode cX1_removeWorks 37 = .ok (.iload_n 2, 1) := by decide +kernel
theorem dX1_removeWorks_38 : decode cX1_removeWorks 38 = .ok (.iaload, 1) := by decide +kernel
theorem dX1_removeWorks_39 : decode cX1_removeWorks 39 = .ok (.iastore, 1) := by decide +kernel
theorem dX1_removeWorks_40 : decode cX1_removeWorks 40 = .ok (.iinc 2 1, 3) := by decide +kernel
theorem dX1_removeWorks_43 : decode cX1_removeWorks 43 = .ok (.goto (-39), 3) := by decide +kernel
theorem dX1_removeWorks_46 : decode cX1_removeWorks 46 = .ok (.aload_n 0, 1) := by decide +kernel
theorem dX1_removeWorks_47 : decode cX1_removeWorks 47 = .ok (.dup, 1) := by decide +kernel
theorem dX1_removeWorks_48 : decode cX1_removeWorks 48 = .ok (.getfield 41, 3) := by decide +kernel
theorem dX1_removeWorks_51 : decode cX1_removeWorks 51 = .ok (.iconst 1, 1) := by decide +kernel
theorem dX1_removeWorks_52 : decode cX1_removeWorks 52 = .ok (.isub, 1) := by decide +kernel
theorem dX1_removeWorks_53 : decode cX1_removeWorks 53 = .ok (.putfield 41, 3) := by decide +kernel
theorem dX1_removeWorks_56 : decode cX1_removeWorks 56 = .ok (.aload_n 0, 1) := by decide +kernel
theorem dX1_removeWorks_57 : decode cX1_removeWorks 57 = .ok (.getfield 41, 3) := by decide +kernel
theorem dX1_removeWorks_60 : decode cX1_removeWorks 60 = .ok (.ireturn, 1) := by decide +kernel
set_option maxRecDepth 20000 in
theorem ggX1_hasWorksOn_X3_isWithin : GoodIn wsX1_hasWorksOn wsX3_isWithin := goodIn_r _ [6] (by decide +kernel) (by decide +kernel)
set_option maxRecDepth 20000 in
theorem gX1_hasWorksOn_X3_isWithin_n54 : GoodIn wsX1_hasWorksOn (wsX3_isWithin) := ggX1_hasWorksOn_X3_isWithin
theorem dX1_hasWorksOn_0 : decode cX1_hasWorksOn 0 = .ok (.iconst 0, 1) := by decide +kernel
theorem dX1_hasWorksOn_1 : decode cX1_hasWorksOn 1 = .ok (.istore_n 2, 1) := by decide +kernel
theorem dX1_hasWorksOn_2 : decode cX1_hasWorksOn 2 = .ok (.iload_n 2, 1) := by decide +kernel
theorem dX1_hasWorksOn_3 : decode cX1_hasWorksOn 3 = .ok (.aload_n 0, 1) := by decide +kernel
theorem dX1_hasWorksOn_4 : decode cX1_hasWorksOn 4 = .ok (.getfield 41, 3) := by decide +kernel
theorem dX1_hasWorksOn_7 : decode cX1_hasWorksOn 7 = .ok (.if_icmp .ge 30, 3) := by decide +kernel
theorem dX1_hasWorksOn_10 : decode cX1_hasWorksOn 10 = .ok (.iload_n 1, 1) := by decide +kernel
theorem dX1_hasWorksOn_11 : decode cX1_hasWorksOn 11 = .ok (.aload_n 0, 1) := by decide +kernel
theorem dX1_hasWorksOn_12 : decode cX1_hasWorksOn 12 = .ok (.getfield 35, 3) := by decide +kernel
theorem dX1_hasWorksOn_15 : decode cX1_hasWorksOn 15 = .ok (.iload_n 2, 1) := by decide +kernel
theorem dX1_hasWorksOn_16 : decode cX1_hasWorksOn 16 = .ok (.iaload, 1) := by decide +kernel
theorem dX1_hasWorksOn_17 : decode cX1_hasWorksOn 17 = .ok (.aload_n 0, 1) := by decide +kernel
theorem dX1_hasWorksOn_18 : decode cX1_hasWorksOn 18 = .ok (.getfield 38, 3) := by decide +kernel
theorem dX1_hasWorksOn_21 : decode cX1_hasWorksOn 21 = .ok (.iload_n 2, 1) := by decide +kernel
theorem dX1_hasWorksOn_22 : decode cX1_hasWorksOn 22 = .ok (.iaload, 1) := by decide +kernel
theorem dX1_hasWorksOn_23 : decode cX1_hasWorksOn 23 = .ok (.invokestatic 54, 3) := by decide +kernel
theorem dX1_hasWorksOn_26 : decode cX1_hasWorksOn 26 = .ok (.ifCond .eq 5, 3) := by decide +kernel
theorem dX1_hasWorksOn_29 : decode cX1_hasWorksOn 29 = .ok (.iconst 1, 1) := by decide +kernel
theorem dX1_hasWorksOn_30 : decode cX1_hasWorksOn 30 = .ok (.ireturn, 1) := by decide +kernel
theorem dX1_hasWorksOn_31 : decode cX1_hasWorksOn 31 = .ok (.iinc 2 1, 3) := by decide +kernel
theorem dX1_hasWorksOn_34 : decode cX1_hasWorksOn 34 = .ok (.goto (-32), 3) := by decide +kernel
theorem dX1_hasWorksOn_37 : decode cX1_hasWorksOn 37 = .ok (.iconst 0, 1) := by decide +kernel
theorem dX1_hasWorksOn_38 : decode cX1_hasWorksOn 38 = .ok (.ireturn, 1) := by decide +kernel
set_option maxRecDepth 20000 in
theorem ggX1_boundByWorks_X3_firstMetreOf : GoodIn wsX1_boundByWorks wsX3_firstMetreOf := goodIn_r _ [10] (by decide +kernel) (by decide +kernel)
set_option maxRecDepth 20000 in
theorem gX1_boundByWorks_X3_firstMetreOf_n59 : GoodIn wsX1_boundByWorks (wsX3_firstMetreOf) := ggX1_boundByWorks_X3_firstMetreOf
theorem dX1_boundByWorks_0 : decode cX1_boundByWorks 0 = .ok (.ldc 58, 2) := by decide +kernel
theorem dX1_boundByWorks_2 : decode cX1_boundByWorks 2 = .ok (.istore_n 2, 1) := by decide +kernel
theorem dX1_boundByWorks_3 : decode cX1_boundByWorks 3 = .ok (.iconst 0, 1) := by decide +kernel
theorem dX1_boundByWorks_4 : decode cX1_boundByWorks 4 = .ok (.istore_n 3, 1) := by decide +kernel
theorem dX1_boundByWorks_5 : decode cX1_boundByWorks 5 = .ok (.iload_n 3, 1) := by decide +kernel
theorem dX1_boundByWorks_6 : decode cX1_boundByWorks 6 = .ok (.aload_n 0, 1) := by decide +kernel
theorem dX1_boundByWorks_7 : decode cX1_boundByWorks 7 = .ok (.getfield 41, 3) := by decide +kernel
theorem dX1_boundByWorks_10 : decode cX1_boundByWorks 10 = .ok (.if_icmp .ge 35, 3) := by decide +kernel
theorem dX1_boundByWorks_13 : decode cX1_boundByWorks 13 = .ok (.aload_n 0, 1) := by decide +kernel
theorem dX1_boundByWorks_14 : decode cX1_boundByWorks 14 = .ok (.getfield 35, 3) := by decide +kernel
theorem dX1_boundByWorks_17 : decode cX1_boundByWorks 17 = .ok (.iload_n 3, 1) := by decide +kernel
theorem dX1_boundByWorks_18 : decode cX1_boundByWorks 18 = .ok (.iaload, 1) := by decide +kernel
theorem dX1_boundByWorks_19 : decode cX1_boundByWorks 19 = .ok (.invokestatic 59, 3) := by decide +kernel
theorem dX1_boundByWorks_22 : decode cX1_boundByWorks 22 = .ok (.istore 4, 2) := by decide +kernel
theorem dX1_boundByWorks_24 : decode cX1_boundByWorks 24 = .ok (.iload 4, 2) := by decide +kernel
theorem dX1_boundByWorks_26 : decode cX1_boundByWorks 26 = .ok (.iload_n 1, 1) := by decide +kernel
theorem dX1_boundByWorks_27 : decode cX1_boundByWorks 27 = .ok (.if_icmp .le 12, 3) := by decide +kernel
theorem dX1_boundByWorks_30 : decode cX1_boundByWorks 30 = .ok (.iload_n 2, 1) := by decide +kernel
theorem dX1_boundByWorks_31 : decode cX1_boundByWorks 31 = .ok (.iload 4, 2) := by decide +kernel
theorem dX1_boundByWorks_33 : decode cX1_boundByWorks 33 = .ok (.iconst 1, 1) := by decide +kernel
theorem dX1_boundByWorks_34 : decode cX1_boundByWorks 34 = .ok (.isub, 1) := by decide +kernel
theorem dX1_boundByWorks_35 : decode cX1_boundByWorks 35 = .ok (.invokestatic 48, 3) := by decide +kernel
theorem dX1_boundByWorks_38 : decode cX1_boundByWorks 38 = .ok (.istore_n 2, 1) := by decide +kernel
theorem dX1_boundByWorks_39 : decode cX1_boundByWorks 39 = .ok (.iinc 3 1, 3) := by decide +kernel
theorem dX1_boundByWorks_42 : decode cX1_boundByWorks 42 = .ok (.goto (-37), 3) := by decide +kernel
theorem dX1_boundByWorks_45 : decode cX1_boundByWorks 45 = .ok (.iload_n 2, 1) := by decide +kernel
theorem dX1_boundByWorks_46 : decode cX1_boundByWorks 46 = .ok (.ireturn, 1) := by decide +kernel
end
section
theorem dX2_init_0 : decode cX2_init 0 = .ok (.aload_n 0, 1) := by decide +kernel
theorem dX2_init_1 : decode cX2_init 1 = .ok (.invokespecial 3, 3) := by decide +kernel
theorem dX2_init_4 : decode cX2_init 4 = .ok (.aload_n 0, 1) := by decide +kernel
theorem dX2_init_5 : decode cX2_init 5 = .ok (.iconst 0, 1) := by decide +kernel
theorem dX2_init_6 : decode cX2_init 6 = .ok (.putfield 9, 3) := by decide +kernel
theorem dX2_init_9 : decode cX2_init 9 = .ok (.aload_n 0, 1) := by decide +kernel
theorem dX2_init_10 : decode cX2_init 10 = .ok (.iconst 0, 1) := by decide +kernel
theorem dX2_init_11 : decode cX2_init 11 = .ok (.putfield 15, 3) := by decide +kernel
theorem dX2_init_14 : decode cX2_init 14 = .ok (.aload_n 0, 1) := by decide +kernel
theorem dX2_init_15 : decode cX2_init 15 = .ok (.iconst 0, 1) := by decide +kernel
theorem dX2_init_16 : decode cX2_init 16 = .ok (.putfield 18, 3) := by decide +kernel
theorem dX2_init_19 : decode cX2_init 19 = .ok (.aload_n 0, 1) := by decide +kernel
theorem dX2_init_20 : decode cX2_init 20 = .ok (.iconst 1, 1) := by decide +kernel
theorem dX2_init_21 : decode cX2_init 21 = .ok (.putfield 21, 3) := by decide +kernel
theorem dX2_init_24 : decode cX2_init 24 = .ok (.aload_n 0, 1) := by decide +kernel
theorem dX2_init_25 : decode cX2_init 25 = .ok (.iconst 0, 1) := by decide +kernel
theorem dX2_init_26 : decode cX2_init 26 = .ok (.putfield 25, 3) := by decide +kernel
theorem dX2_init_29 : decode cX2_init 29 = .ok (.aload_n 0, 1) := by decide +kernel
theorem dX2_init_30 : decode cX2_init 30 = .ok (.iconst 0, 1) := by decide +kernel
theorem dX2_init_31 : decode cX2_init 31 = .ok (.putfield 28, 3) := by decide +kernel
theorem dX2_init_34 : decode cX2_init 34 = .ok (.aload_n 0, 1) := by decide +kernel
theorem dX2_init_35 : decode cX2_init 35 = .ok (.iconst 0, 1) := by decide +kernel
theorem dX2_init_36 : decode cX2_init 36 = .ok (.putfield 31, 3) := by decide +kernel
theorem dX2_init_39 : decode cX2_init 39 = .ok (.aload_n 0, 1) := by decide +kernel
theorem dX2_init_40 : decode cX2_init 40 = .ok (.iconst 0, 1) := by decide +kernel
theorem dX2_init_41 : decode cX2_init 41 = .ok (.putfield 34, 3) := by decide +kernel
theorem dX2_init_44 : decode cX2_init 44 = .ok (.aload_n 0, 1) := by decide +kernel
theorem dX2_init_45 : decode cX2_init 45 = .ok (.iconst 0, 1) := by decide +kernel
theorem dX2_init_46 : decode cX2_init 46 = .ok (.putfield 37, 3) := by decide +kernel
theorem dX2_init_49 : decode cX2_init 49 = .ok (.aload_n 0, 1) := by decide +kernel
theorem dX2_init_50 : decode cX2_init 50 = .ok (.iconst 0, 1) := by decide +kernel
theorem dX2_init_51 : decode cX2_init 51 = .ok (.putfield 40, 3) := by decide +kernel
theorem dX2_init_54 : decode cX2_init 54 = .ok (.aload_n 0, 1) := by decide +kernel
theorem dX2_init_55 : decode cX2_init 55 = .ok (.iconst 0, 1) := by decide +kernel
theorem dX2_init_56 : decode cX2_init 56 = .ok (.putfield 43, 3) := by decide +kernel
theorem dX2_init_59 : decode cX2_init 59 = .ok (.aload_n 0, 1) := by decide +kernel
theorem dX2_init_60 : decode cX2_init 60 = .ok (.iconst 0, 1) := by decide +kernel
theorem dX2_init_61 : decode cX2_init 61 = .ok (.putfield 46, 3) := by decide +kernel
theorem dX2_init_64 : decode cX2_init 64 = .ok (.aload_n 0, 1) := by decide +kernel
theorem dX2_init_65 : decode cX2_init 65 = .ok (.iconst 0, 1) := by decide +kernel
theorem dX2_init_66 : decode cX2_init 66 = .ok (.putfield 49, 3) := by decide +kernel
theorem dX2_init_69 : decode cX2_init 69 = .ok (.aload_n 0, 1) := by decide +kernel
theorem dX2_init_70 : decode cX2_init 70 = .ok (.iconst 0, 1) := by decide +kernel
theorem dX2_init_71 : decode cX2_init 71 = .ok (.putfield 52, 3) := by decide +kernel
theorem dX2_init_74 : decode cX2_init 74 = .ok (.aload_n 0, 1) := by decide +kernel
theorem dX2_init_75 : decode cX2_init 75 = .ok (.iconst 0, 1) := by decide +kernel
theorem dX2_init_76 : decode cX2_init 76 = .ok (.putfield 55, 3) := by decide +kernel
theorem dX2_init_79 : decode cX2_init 79 = .ok (.aload_n 0, 1) := by decide +kernel
theorem dX2_init_80 : decode cX2_init 80 = .ok (.iconst 0, 1) := by decide +kernel
theorem dX2_init_81 : decode cX2_init 81 = .ok (.putfield 58, 3) := by decide +kernel
theorem dX2_init_84 : decode cX2_init 84 = .ok (.aload_n 0, 1) := by decide +kernel
theorem dX2_init_85 : decode cX2_init 85 = .ok (.iconst 0, 1) := by decide +kernel
theorem dX2_init_86 : decode cX2_init 86 = .ok (.putfield 61, 3) := by decide +kernel
theorem dX2_init_89 : decode cX2_init 89 = .ok (.aload_n 0, 1) := by decide +kernel
theorem dX2_init_90 : decode cX2_init 90 = .ok (.ldc 64, 2) := by decide +kernel
theorem dX2_init_92 : decode cX2_init 92 = .ok (.putfield 65, 3) := by decide +kernel
theorem dX2_init_95 : decode cX2_init 95 = .ok (.return_, 1) := by decide +kernel
theorem dX2_copyFrom_0 : decode cX2_copyFrom 0 = .ok (.aload_n 0, 1) := by decide +kernel
theorem dX2_copyFrom_1 : decode cX2_copyFrom 1 = .ok (.aload_n 1, 1) := by decide +kernel
theorem dX2_copyFrom_2 : decode cX2_copyFrom 2 = .ok (.getfield 9, 3) := by decide +kernel
theorem dX2_copyFrom_5 : decode cX2_copyFrom 5 = .ok (.putfield 9, 3) := by decide +kernel
theorem dX2_copyFrom_8 : decode cX2_copyFrom 8 = .ok (.aload_n 0, 1) := by decide +kernel
theorem dX2_copyFrom_9 : decode cX2_copyFrom 9 = .ok (.aload_n 1, 1) := by decide +kernel
theorem dX2_copyFrom_10 : decode cX2_copyFrom 10 = .ok (.getfield 15, 3) := by decide +kernel
theorem dX2_copyFrom_13 : decode cX2_copyFrom 13 = .ok (.putfield 15, 3) := by decide +kernel
theorem dX2_copyFrom_16 : decode cX2_copyFrom 16 = .ok (.aload_n 0, 1) := by decide +kernel
theorem dX2_copyFrom_17 : decode cX2_copyFrom 17 = .ok (.aload_n 1, 1) := by decide +kernel
theorem dX2_copyFrom_18 : decode cX2_copyFrom 18 = .ok (.getfield 18, 3) := by decide +kernel
theorem dX2_copyFrom_21 : decode cX2_copyFrom 21 = .ok (.putfield 18, 3) := by decide +kernel
theorem dX2_copyFrom_24 : decode cX2_copyFrom 24 = .ok (.aload_n 0, 1) := by decide +kernel
theorem dX2_copyFrom_25 : decode cX2_copyFrom 25 = .ok (.aload_n 1, 1) := by decide +kernel
theorem dX2_copyFrom_26 : decode cX2_copyFrom 26 = .ok (.getfield 21, 3) := by decide +kernel
theorem dX2_copyFrom_29 : decode cX2_copyFrom 29 = .ok (.putfield 21, 3) := by decide +kernel
theorem dX2_copyFrom_32 : decode cX2_copyFrom 32 = .ok (.aload_n 0, 1) := by decide +kernel
theorem dX2_copyFrom_33 : decode cX2_copyFrom 33 = .ok (.aload_n 1, 1) := by decide +kernel
theorem dX2_copyFrom_34 : decode cX2_copyFrom 34 = .ok (.getfield 25, 3) := by decide +kernel
theorem dX2_copyFrom_37 : decode cX2_copyFrom 37 = .ok (.putfield 25, 3) := by decide +kernel
theorem dX2_copyFrom_40 : decode cX2_copyFrom 40 = .ok (.aload_n 0, 1) := by decide +kernel
theorem dX2_copyFrom_41 : decode cX2_copyFrom 41 = .ok (.aload_n 1, 1) := by decide +kernel
theorem dX2_copyFrom_42 : decode cX2_copyFrom 42 = .ok (.getfield 28, 3) := by decide +kernel
theorem dX2_copyFrom_45 : decode cX2_copyFrom 45 = .ok (.putfield 28, 3) := by decide +kernel
theorem dX2_copyFrom_48 : decode cX2_copyFrom 48 = .ok (.aload_n 0, 1) := by decide +kernel
theorem dX2_copyFrom_49 : decode cX2_copyFrom 49 = .ok (.aload_n 1, 1) := by decide +kernel
theorem dX2_copyFrom_50 : decode cX2_copyFrom 50 = .ok (.getfield 31, 3) := by decide +kernel
theorem dX2_copyFrom_53 : decode cX2_copyFrom 53 = .ok (.putfield 31, 3) := by decide +kernel
theorem dX2_copyFrom_56 : decode cX2_copyFrom 56 = .ok (.aload_n 0, 1) := by decide +kernel
theorem dX2_copyFrom_57 : decode cX2_copyFrom 57 = .ok (.aload_n 1, 1) := by decide +kernel
theorem dX2_copyFrom_58 : decode cX2_copyFrom 58 = .ok (.getfield 34, 3) := by decide +kernel
theorem dX2_copyFrom_61 : decode cX2_copyFrom 61 = .ok (.putfield 34, 3) := by decide +kernel
theorem dX2_copyFrom_64 : decode cX2_copyFrom 64 = .ok (.aload_n 0, 1) := by decide +kernel
theorem dX2_copyFrom_65 : decode cX2_copyFrom 65 = .ok (.aload_n 1, 1) := by decide +kernel
theorem dX2_copyFrom_66 : decode cX2_copyFrom 66 = .ok (.getfield 37, 3) := by decide +kernel
theorem dX2_copyFrom_69 : decode cX2_copyFrom 69 = .ok (.putfield 37, 3) := by decide +kernel
theorem dX2_copyFrom_72 : decode cX2_copyFrom 72 = .ok (.aload_n 0, 1) := by decide +kernel
theorem dX2_copyFrom_73 : decode cX2_copyFrom 73 = .ok (.aload_n 1, 1) := by decide +kernel
theorem dX2_copyFrom_74 : decode cX2_copyFrom 74 = .ok (.getfield 40, 3) := by decide +kernel
theorem dX2_copyFrom_77 : decode cX2_copyFrom 77 = .ok (.putfield 40, 3) := by decide +kernel
theorem dX2_copyFrom_80 : decode cX2_copyFrom 80 = .ok (.aload_n 0, 1) := by decide +kernel
theorem dX2_copyFrom_81 : decode cX2_copyFrom 81 = .ok (.aload_n 1, 1) := by decide +kernel
theorem dX2_copyFrom_82 : decode cX2_copyFrom 82 = .ok (.getfield 43, 3) := by decide +kernel
theorem dX2_copyFrom_85 : decode cX2_copyFrom 85 = .ok (.putfield 43, 3) := by decide +kernel
theorem dX2_copyFrom_88 : decode cX2_copyFrom 88 = .ok (.aload_n 0, 1) := by decide +kernel
theorem dX2_copyFrom_89 : decode cX2_copyFrom 89 = .ok (.aload_n 1, 1) := by decide +kernel
theorem dX2_copyFrom_90 : decode cX2_copyFrom 90 = .ok (.getfield 46, 3) := by decide +kernel
theorem dX2_copyFrom_93 : decode cX2_copyFrom 93 = .ok (.putfield 46, 3) := by decide +kernel
theorem dX2_copyFrom_96 : decode cX2_copyFrom 96 = .ok (.aload_n 0, 1) := by decide +kernel
theorem dX2_copyFrom_97 : decode cX2_copyFrom 97 = .ok (.aload_n 1, 1) := by decide +kernel
theorem dX2_copyFrom_98 : decode cX2_copyFrom 98 = .ok (.getfield 49, 3) := by decide +kernel
theorem dX2_copyFrom_101 : decode cX2_copyFrom 101 = .ok (.putfield 49, 3) := by decide +kernel
theorem dX2_copyFrom_104 : decode cX2_copyFrom 104 = .ok (.aload_n 0, 1) := by decide +kernel
theorem dX2_copyFrom_105 : decode cX2_copyFrom 105 = .ok (.aload_n 1, 1) := by decide +kernel
theorem dX2_copyFrom_106 : decode cX2_copyFrom 106 = .ok (.getfield 52, 3) := by decide +kernel
theorem dX2_copyFrom_109 : decode cX2_copyFrom 109 = .ok (.putfield 52, 3) := by decide +kernel
theorem dX2_copyFrom_112 : decode cX2_copyFrom 112 = .ok (.aload_n 0, 1) := by decide +kernel
theorem dX2_copyFrom_113 : decode cX2_copyFrom 113 = .ok (.aload_n 1, 1) := by decide +kernel
theorem dX2_copyFrom_114 : decode cX2_copyFrom 114 = .ok (.getfield 55, 3) := by decide +kernel
theorem dX2_copyFrom_117 : decode cX2_copyFrom 117 = .ok (.putfield 55, 3) := by decide +kernel
theorem dX2_copyFrom_120 : decode cX2_copyFrom 120 = .ok (.aload_n 0, 1) := by decide +kernel
theorem dX2_copyFrom_121 : decode cX2_copyFrom 121 = .ok (.aload_n 1, 1) := by decide +kernel
theorem dX2_copyFrom_122 : decode cX2_copyFrom 122 = .ok (.getfield 58, 3) := by decide +kernel
theorem dX2_copyFrom_125 : decode cX2_copyFrom 125 = .ok (.putfield 58, 3) := by decide +kernel
theorem dX2_copyFrom_128 : decode cX2_copyFrom 128 = .ok (.aload_n 0, 1) := by decide +kernel
theorem dX2_copyFrom_129 : decode cX2_copyFrom 129 = .ok (.aload_n 1, 1) := by decide +kernel
theorem dX2_copyFrom_130 : decode cX2_copyFrom 130 = .ok (.getfield 61, 3) := by decide +kernel
theorem dX2_copyFrom_133 : decode cX2_copyFrom 133 = .ok (.putfield 61, 3) := by decide +kernel
theorem dX2_copyFrom_136 : decode cX2_copyFrom 136 = .ok (.aload_n 0, 1) := by decide +kernel
theorem dX2_copyFrom_137 : decode cX2_copyFrom 137 = .ok (.aload_n 1, 1) := by decide +kernel
theorem dX2_copyFrom_138 : decode cX2_copyFrom 138 = .ok (.getfield 65, 3) := by decide +kernel
theorem dX2_copyFrom_141 : decode cX2_copyFrom 141 = .ok (.putfield 65, 3) := by decide +kernel
theorem dX2_copyFrom_144 : decode cX2_copyFrom 144 = .ok (.return_, 1) := by decide +kernel
theorem dX2_rear_0 : decode cX2_rear 0 = .ok (.aload_n 0, 1) := by decide +kernel
theorem dX2_rear_1 : decode cX2_rear 1 = .ok (.getfield 25, 3) := by decide +kernel
theorem dX2_rear_4 : decode cX2_rear 4 = .ok (.aload_n 0, 1) := by decide +kernel
theorem dX2_rear_5 : decode cX2_rear 5 = .ok (.getfield 9, 3) := by decide +kernel
theorem dX2_rear_8 : decode cX2_rear 8 = .ok (.isub, 1) := by decide +kernel
theorem dX2_rear_9 : decode cX2_rear 9 = .ok (.iconst 1, 1) := by decide +kernel
theorem dX2_rear_10 : decode cX2_rear 10 = .ok (.iadd, 1) := by decide +kernel
theorem dX2_rear_11 : decode cX2_rear 11 = .ok (.ireturn, 1) := by decide +kernel
theorem dX2_metresGone_0 : decode cX2_metresGone 0 = .ok (.aload_n 0, 1) := by decide +kernel
theorem dX2_metresGone_1 : decode cX2_metresGone 1 = .ok (.getfield 25, 3) := by decide +kernel
theorem dX2_metresGone_4 : decode cX2_metresGone 4 = .ok (.aload_n 0, 1) := by decide +kernel
theorem dX2_metresGone_5 : decode cX2_metresGone 5 = .ok (.getfield 9, 3) := by decide +kernel
theorem dX2_metresGone_8 : decode cX2_metresGone 8 = .ok (.iconst 1, 1) := by decide +kernel
theorem dX2_metresGone_9 : decode cX2_metresGone 9 = .ok (.isub, 1) := by decide +kernel
theorem dX2_metresGone_10 : decode cX2_metresGone 10 = .ok (.isub, 1) := by decide +kernel
theorem dX2_metresGone_11 : decode cX2_metresGone 11 = .ok (.ireturn, 1) := by decide +kernel
set_option maxRecDepth 20000 in
theorem ggX2_isOn_X3_sectionAt : GoodIn wsX2_isOn wsX3_sectionAt := goodIn_r _ [4] (by decide +kernel) (by decide +kernel)
set_option maxRecDepth 20000 in
theorem gX2_isOn_X3_sectionAt_n68 : GoodIn wsX2_isOn (wsX3_sectionAt) := ggX2_isOn_X3_sectionAt
set_option maxRecDepth 20000 in
theorem ggX2_isOn_X2_rear : GoodIn wsX2_isOn wsX2_rear := goodIn_r _ [9, 1, 10, 11, 12, 13, 14, 15, 16, 17, 18, 19, 20, 21, 22, 23, 24, 25, 26, 27, 28] (by decide +kernel) (by decide +kernel)
set_option maxRecDepth 20000 in
theorem gX2_isOn_X2_rear : GoodIn wsX2_isOn (wsV RX2 72 RX2 yX2_rear wsX2_rear) := goodIn_app (goodIn_of _ (by decide +kernel)) ggX2_isOn_X2_rear
theorem dX2_isOn_0 : decode cX2_isOn 0 = .ok (.aload_n 0, 1) := by decide +kernel
theorem dX2_isOn_1 : decode cX2_isOn 1 = .ok (.getfield 25, 3) := by decide +kernel
theorem dX2_isOn_4 : decode cX2_isOn 4 = .ok (.invokestatic 68, 3) := by decide +kernel
theorem dX2_isOn_7 : decode cX2_isOn 7 = .ok (.iload_n 1, 1) := by decide +kernel
theorem dX2_isOn_8 : decode cX2_isOn 8 = .ok (.if_icmp .lt 18, 3) := by decide +kernel
theorem dX2_isOn_11 : decode cX2_isOn 11 = .ok (.aload_n 0, 1) := by decide +kernel
theorem dX2_isOn_12 : decode cX2_isOn 12 = .ok (.invokevirtual 72, 3) := by decide +kernel
theorem dX2_isOn_15 : decode cX2_isOn 15 = .ok (.invokestatic 68, 3) := by decide +kernel
theorem dX2_isOn_18 : decode cX2_isOn 18 = .ok (.iload_n 2, 1) := by decide +kernel
theorem dX2_isOn_19 : decode cX2_isOn 19 = .ok (.if_icmp .gt 7, 3) := by decide +kernel
theorem dX2_isOn_22 : decode cX2_isOn 22 = .ok (.iconst 1, 1) := by decide +kernel
theorem dX2_isOn_23 : decode cX2_isOn 23 = .ok (.goto 4, 3) := by decide +kernel
theorem dX2_isOn_26 : decode cX2_isOn 26 = .ok (.iconst 0, 1) := by decide +kernel
theorem dX2_isOn_27 : decode cX2_isOn 27 = .ok (.ireturn, 1) := by decide +kernel
set_option maxRecDepth 20000 in
theorem ggX2_report_X2_rear : GoodIn wsX2_report wsX2_rear := goodIn_r _ [10, 1, 11, 12, 13, 14, 15, 16, 17, 18, 19, 20, 21, 22, 23, 24, 25, 26, 27, 28, 29] (by decide +kernel) (by decide +kernel)
set_option maxRecDepth 20000 in
theorem gX2_report_X2_rear : GoodIn wsX2_report (wsV RX2 72 RX2 yX2_rear wsX2_rear) := goodIn_app (goodIn_of _ (by decide +kernel)) ggX2_report_X2_rear
theorem dX2_report_0 : decode cX2_report 0 = .ok (.aload_n 0, 1) := by decide +kernel
theorem dX2_report_1 : decode cX2_report 1 = .ok (.aload_n 0, 1) := by decide +kernel
theorem dX2_report_2 : decode cX2_report 2 = .ok (.getfield 25, 3) := by decide +kernel
theorem dX2_report_5 : decode cX2_report 5 = .ok (.putfield 46, 3) := by decide +kernel
theorem dX2_report_8 : decode cX2_report 8 = .ok (.aload_n 0, 1) := by decide +kernel
theorem dX2_report_9 : decode cX2_report 9 = .ok (.getfield 21, 3) := by decide +kernel
theorem dX2_report_12 : decode cX2_report 12 = .ok (.ifCond .eq 11, 3) := by decide +kernel
theorem dX2_report_15 : decode cX2_report 15 = .ok (.aload_n 0, 1) := by decide +kernel
theorem dX2_report_16 : decode cX2_report 16 = .ok (.aload_n 0, 1) := by decide +kernel
theorem dX2_report_17 : decode cX2_report 17 = .ok (.invokevirtual 72, 3) := by decide +kernel
theorem dX2_report_20 : decode cX2_report 20 = .ok (.putfield 49, 3) := by decide +kernel
theorem dX2_report_23 : decode cX2_report 23 = .ok (.aload_n 0, 1) := by decide +kernel
theorem dX2_report_24 : decode cX2_report 24 = .ok (.iload_n 1, 1) := by decide +kernel
theorem dX2_report_25 : decode cX2_report 25 = .ok (.putfield 52, 3) := by decide +kernel
theorem dX2_report_28 : decode cX2_report 28 = .ok (.return_, 1) := by decide +kernel
theorem dX2_crash_0 : decode cX2_crash 0 = .ok (.aload_n 0, 1) := by decide +kernel
theorem dX2_crash_1 : decode cX2_crash 1 = .ok (.iconst 1, 1) := by decide +kernel
theorem dX2_crash_2 : decode cX2_crash 2 = .ok (.putfield 43, 3) := by decide +kernel
theorem dX2_crash_5 : decode cX2_crash 5 = .ok (.aload_n 0, 1) := by decide +kernel
theorem dX2_crash_6 : decode cX2_crash 6 = .ok (.iconst 0, 1) := by decide +kernel
theorem dX2_crash_7 : decode cX2_crash 7 = .ok (.putfield 28, 3) := by decide +kernel
theorem dX2_crash_10 : decode cX2_crash 10 = .ok (.return_, 1) := by decide +kernel
theorem dX2_leastGapOrNone_0 : decode cX2_leastGapOrNone 0 = .ok (.aload_n 0, 1) := by decide +kernel
theorem dX2_leastGapOrNone_1 : decode cX2_leastGapOrNone 1 = .ok (.getfield 65, 3) := by decide +kernel
theorem dX2_leastGapOrNone_4 : decode cX2_leastGapOrNone 4 = .ok (.ldc 64, 2) := by decide +kernel
theorem dX2_leastGapOrNone_6 : decode cX2_leastGapOrNone 6 = .ok (.if_icmp .ne 7, 3) := by decide +kernel
theorem dX2_leastGapOrNone_9 : decode cX2_leastGapOrNone 9 = .ok (.iconst (-1), 1) := by decide +kernel
theorem dX2_leastGapOrNone_10 : decode cX2_leastGapOrNone 10 = .ok (.goto 7, 3) := by decide +kernel
theorem dX2_leastGapOrNone_13 : decode cX2_leastGapOrNone 13 = .ok (.aload_n 0, 1) := by decide +kernel
theorem dX2_leastGapOrNone_14 : decode cX2_leastGapOrNone 14 = .ok (.getfield 65, 3) := by decide +kernel
theorem dX2_leastGapOrNone_17 : decode cX2_leastGapOrNone 17 = .ok (.ireturn, 1) := by decide +kernel
set_option maxRecDepth 20000 in
theorem ggX2_numberNow_X2_rear : GoodIn wsX2_numberNow wsX2_rear := goodIn_r _ [12, 1, 13, 14, 15, 16, 17, 18, 19, 20, 21, 22, 23, 24, 25, 26, 27, 28, 29, 30, 31] (by decide +kernel) (by decide +kernel)
set_option maxRecDepth 20000 in
theorem gX2_numberNow_X2_rear : GoodIn wsX2_numberNow (wsV RX2 72 RX2 yX2_rear wsX2_rear) := goodIn_app (goodIn_of _ (by decide +kernel)) ggX2_numberNow_X2_rear
theorem dX2_numberNow_0 : decode cX2_numberNow 0 = .ok (.iload_n 1, 1) := by decide +kernel
theorem dX2_numberNow_1 : decode cX2_numberNow 1 = .ok (.tableswitch 77 0 5 #[39, 44, 49, 54, 59, 72], 39) := by decide +kernel
theorem dX2_numberNow_40 : decode cX2_numberNow 40 = .ok (.aload_n 0, 1) := by decide +kernel
theorem dX2_numberNow_41 : decode cX2_numberNow 41 = .ok (.getfield 25, 3) := by decide +kernel
theorem dX2_numberNow_44 : decode cX2_numberNow 44 = .ok (.ireturn, 1) := by decide +kernel
theorem dX2_numberNow_45 : decode cX2_numberNow 45 = .ok (.aload_n 0, 1) := by decide +kernel
theorem dX2_numberNow_46 : decode cX2_numberNow 46 = .ok (.invokevirtual 72, 3) := by decide +kernel
theorem dX2_numberNow_49 : decode cX2_numberNow 49 = .ok (.ireturn, 1) := by decide +kernel
theorem dX2_numberNow_50 : decode cX2_numberNow 50 = .ok (.aload_n 0, 1) := by decide +kernel
theorem dX2_numberNow_51 : decode cX2_numberNow 51 = .ok (.getfield 28, 3) := by decide +kernel
theorem dX2_numberNow_54 : decode cX2_numberNow 54 = .ok (.ireturn, 1) := by decide +kernel
theorem dX2_numberNow_55 : decode cX2_numberNow 55 = .ok (.aload_n 0, 1) := by decide +kernel
theorem dX2_numberNow_56 : decode cX2_numberNow 56 = .ok (.getfield 31, 3) := by decide +kernel
theorem dX2_numberNow_59 : decode cX2_numberNow 59 = .ok (.ireturn, 1) := by decide +kernel
theorem dX2_numberNow_60 : decode cX2_numberNow 60 = .ok (.aload_n 0, 1) := by decide +kernel
theorem dX2_numberNow_61 : decode cX2_numberNow 61 = .ok (.getfield 21, 3) := by decide +kernel
theorem dX2_numberNow_64 : decode cX2_numberNow 64 = .ok (.ifCond .eq 7, 3) := by decide +kernel
theorem dX2_numberNow_67 : decode cX2_numberNow 67 = .ok (.iconst 1, 1) := by decide +kernel
theorem dX2_numberNow_68 : decode cX2_numberNow 68 = .ok (.goto 4, 3) := by decide +kernel
theorem dX2_numberNow_71 : decode cX2_numberNow 71 = .ok (.iconst 0, 1) := by decide +kernel
theorem dX2_numberNow_72 : decode cX2_numberNow 72 = .ok (.ireturn, 1) := by decide +kernel
theorem dX2_numberNow_73 : decode cX2_numberNow 73 = .ok (.aload_n 0, 1) := by decide +kernel
theorem dX2_numberNow_74 : decode cX2_numberNow 74 = .ok (.getfield 34, 3) := by decide +kernel
theorem dX2_numberNow_77 : decode cX2_numberNow 77 = .ok (.ireturn, 1) := by decide +kernel
theorem dX2_numberNow_78 : decode cX2_numberNow 78 = .ok (.aload_n 0, 1) := by decide +kernel
theorem dX2_numberNow_79 : decode cX2_numberNow 79 = .ok (.getfield 40, 3) := by decide +kernel
theorem dX2_numberNow_82 : decode cX2_numberNow 82 = .ok (.ifCond .eq 7, 3) := by decide +kernel
theorem dX2_numberNow_85 : decode cX2_numberNow 85 = .ok (.iconst 1, 1) := by decide +kernel
theorem dX2_numberNow_86 : decode cX2_numberNow 86 = .ok (.goto 15, 3) := by decide +kernel
theorem dX2_numberNow_89 : decode cX2_numberNow 89 = .ok (.aload_n 0, 1) := by decide +kernel
theorem dX2_numberNow_90 : decode cX2_numberNow 90 = .ok (.getfield 43, 3) := by decide +kernel
theorem dX2_numberNow_93 : decode cX2_numberNow 93 = .ok (.ifCond .eq 7, 3) := by decide +kernel
theorem dX2_numberNow_96 : decode cX2_numberNow 96 = .ok (.iconst 2, 1) := by decide +kernel
theorem dX2_numberNow_97 : decode cX2_numberNow 97 = .ok (.goto 4, 3) := by decide +kernel
theorem dX2_numberNow_100 : decode cX2_numberNow 100 = .ok (.iconst 0, 1) := by decide +kernel
theorem dX2_numberNow_101 : decode cX2_numberNow 101 = .ok (.ireturn, 1) := by decide +kernel
set_option maxRecDepth 20000 in
theorem ggX2_numberKept_X2_leastGapOrNone : GoodIn wsX2_numberKept wsX2_leastGapOrNone := goodIn_r _ [11, 12, 13, 14, 15, 16, 17, 18, 19, 20, 21, 22, 23, 24, 25, 26, 27, 28, 29, 30, 31] (by decide +kernel) (by decide +kernel)
set_option maxRecDepth 20000 in
theorem gX2_numberKept_X2_leastGapOrNone : GoodIn wsX2_numberKept (wsV RX2 76 RX2 yX2_leastGapOrNone wsX2_leastGapOrNone) := goodIn_app (goodIn_of _ (by decide +kernel)) ggX2_numberKept_X2_leastGapOrNone
theorem dX2_numberKept_0 : decode cX2_numberKept 0 = .ok (.iload_n 1, 1) := by decide +kernel
theorem dX2_numberKept_1 : decode cX2_numberKept 1 = .ok (.tableswitch 69 8 13 #[39, 44, 49, 54, 59, 64], 39) := by decide +kernel
theorem dX2_numberKept_40 : decode cX2_numberKept 40 = .ok (.aload_n 0, 1) := by decide +kernel
theorem dX2_numberKept_41 : decode cX2_numberKept 41 = .ok (.getfield 46, 3) := by decide +kernel
theorem dX2_numberKept_44 : decode cX2_numberKept 44 = .ok (.ireturn, 1) := by decide +kernel
theorem dX2_numberKept_45 : decode cX2_numberKept 45 = .ok (.aload_n 0, 1) := by decide +kernel
theorem dX2_numberKept_46 : decode cX2_numberKept 46 = .ok (.getfield 49, 3) := by decide +kernel
theorem dX2_numberKept_49 : decode cX2_numberKept 49 = .ok (.ireturn, 1) := by decide +kernel
theorem dX2_numberKept_50 : decode cX2_numberKept 50 = .ok (.aload_n 0, 1) := by decide +kernel
theorem dX2_numberKept_51 : decode cX2_numberKept 51 = .ok (.getfield 52, 3) := by decide +kernel
theorem dX2_numberKept_54 : decode cX2_numberKept 54 = .ok (.ireturn, 1) := by decide +kernel
theorem dX2_numberKept_55 : decode cX2_numberKept 55 = .ok (.aload_n 0, 1) := by decide +kernel
theorem dX2_numberKept_56 : decode cX2_numberKept 56 = .ok (.getfield 55, 3) := by decide +kernel
theorem dX2_numberKept_59 : decode cX2_numberKept 59 = .ok (.ireturn, 1) := by decide +kernel
theorem dX2_numberKept_60 : decode cX2_numberKept 60 = .ok (.aload_n 0, 1) := by decide +kernel
theorem dX2_numberKept_61 : decode cX2_numberKept 61 = .ok (.getfield 58, 3) := by decide +kernel
theorem dX2_numberKept_64 : decode cX2_numberKept 64 = .ok (.ireturn, 1) := by decide +kernel
theorem dX2_numberKept_65 : decode cX2_numberKept 65 = .ok (.aload_n 0, 1) := by decide +kernel
theorem dX2_numberKept_66 : decode cX2_numberKept 66 = .ok (.getfield 61, 3) := by decide +kernel
theorem dX2_numberKept_69 : decode cX2_numberKept 69 = .ok (.ireturn, 1) := by decide +kernel
theorem dX2_numberKept_70 : decode cX2_numberKept 70 = .ok (.aload_n 0, 1) := by decide +kernel
theorem dX2_numberKept_71 : decode cX2_numberKept 71 = .ok (.invokevirtual 76, 3) := by decide +kernel
theorem dX2_numberKept_74 : decode cX2_numberKept 74 = .ok (.ireturn, 1) := by decide +kernel
end
section
set_option maxRecDepth 20000 in
theorem ggX3_init_X0_init : GoodIn wsX3_init wsX0_init := goodIn_r _ [11, 12, 2, 3, 13, 14, 15, 16, 17, 18, 19, 20, 21, 22, 23, 24, 25, 26, 27, 28, 29, 30, 31, 32, 33, 34, 35, 36, 37, 38, 39, 40, 41, 42, 43, 44, 45, 46, 47, 48, 49, 50, 51, 52, 53, 54, 55, 56, 57, 58, 59, 60, 67, 68, 69, 70, 71, 72, 73, 74, 75, 76, 61, 62, 63, 64, 77, 78, 79, 80, 81, 82, 83, 84, 85, 86, 87, 88, 89, 90, 91, 92, 93, 94] (by decide +kernel) (by decide +kernel)
set_option maxRecDepth 20000 in
theorem gX3_init_X0_init : GoodIn wsX3_init (wsX0_init) := ggX3_init_X0_init
theorem dX3_init_0 : decode cX3_init 0 = .ok (.aload_n 0, 1) := by decide +kernel
theorem dX3_init_1 : decode cX3_init 1 = .ok (.invokespecial 1, 3) := by decide +kernel
theorem dX3_init_4 : decode cX3_init 4 = .ok (.aload_n 0, 1) := by decide +kernel
theorem dX3_init_5 : decode cX3_init 5 = .ok (.new 7, 3) := by decide +kernel
theorem dX3_init_8 : decode cX3_init 8 = .ok (.dup, 1) := by decide +kernel
theorem dX3_init_9 : decode cX3_init 9 = .ok (.invokespecial 9, 3) := by decide +kernel
theorem dX3_init_12 : decode cX3_init 12 = .ok (.putfield 10, 3) := by decide +kernel
theorem dX3_init_15 : decode cX3_init 15 = .ok (.aload_n 0, 1) := by decide +kernel
theorem dX3_init_16 : decode cX3_init 16 = .ok (.new 7, 3) := by decide +kernel
theorem dX3_init_19 : decode cX3_init 19 = .ok (.dup, 1) := by decide +kernel
theorem dX3_init_20 : decode cX3_init 20 = .ok (.invokespecial 9, 3) := by decide +kernel
theorem dX3_init_23 : decode cX3_init 23 = .ok (.putfield 16, 3) := by decide +kernel
theorem dX3_init_26 : decode cX3_init 26 = .ok (.return_, 1) := by decide +kernel
set_option maxRecDepth 20000 in
theorem ggX3_section_X3_needSection : GoodIn wsX3_section wsX3_needSection := goodIn_ca (goodIn_r _ [9, 10, 11, 8, 12, 13, 14] (by decide +kernel) (by decide +kernel)) (goodIn_sub (fun _ h => List.mem_cons_of_mem _ (List.mem_append_left _ (List.mem_append_right _ h))) (by decide +kernel))
set_option maxRecDepth 20000 in
theorem gX3_section_X3_needSection : GoodIn wsX3_section (va_wsS RX3 19 yX3_needSection wsX3_needSection) := goodIn_app (goodIn_of _ (by decide +kernel)) ggX3_section_X3_needSection
set_option maxRecDepth 20000 in
theorem ggX3_section_X3_isWithin : GoodIn wsX3_section wsX3_isWithin := goodIn_r _ [17] (by decide +kernel) (by decide +kernel)
set_option maxRecDepth 20000 in
theorem gX3_section_X3_isWithin : GoodIn wsX3_section (va_wsS RX3 23 yX3_isWithin wsX3_isWithin) := goodIn_app (goodIn_of _ (by decide +kernel)) ggX3_section_X3_isWithin
set_option maxRecDepth 20000 in
theorem ggX3_section_X3_need : GoodIn wsX3_section wsX3_need := goodIn_ca (goodIn_r _ [20, 21, 22] (by decide +kernel) (by decide +kernel)) (goodIn_sub (fun _ h => List.mem_cons_of_mem _ (List.mem_append_right _ h)) (by decide +kernel))
set_option maxRecDepth 20000 in
theorem gX3_section_X3_need : GoodIn wsX3_section (va_wsS RX3 27 yX3_need wsX3_need) := goodIn_app (goodIn_of _ (by decide +kernel)) ggX3_section_X3_need
theorem dX3_section_0 : decode cX3_section 0 = .ok (.iload_n 1, 1) := by decide +kernel
theorem dX3_section_1 : decode cX3_section 1 = .ok (.invokestatic 19, 3) := by decide +kernel
theorem dX3_section_4 : decode cX3_section 4 = .ok (.iload_n 2, 1) := by decide +kernel
theorem dX3_section_5 : decode cX3_section 5 = .ok (.iconst 1, 1) := by decide +kernel
theorem dX3_section_6 : decode cX3_section 6 = .ok (.bipush 40, 2) := by decide +kernel
theorem dX3_section_8 : decode cX3_section 8 = .ok (.invokestatic 23, 3) := by decide +kernel
theorem dX3_section_11 : decode cX3_section 11 = .ok (.ifCond .eq 17, 3) := by decide +kernel
theorem dX3_section_14 : decode cX3_section 14 = .ok (.iload_n 3, 1) := by decide +kernel
theorem dX3_section_15 : decode cX3_section 15 = .ok (.bipush (-2), 2) := by decide +kernel
theorem dX3_section_17 : decode cX3_section 17 = .ok (.iconst 2, 1) := by decide +kernel
theorem dX3_section_18 : decode cX3_section 18 = .ok (.invokestatic 23, 3) := by decide +kernel
theorem dX3_section_21 : decode cX3_section 21 = .ok (.ifCond .eq 7, 3) := by decide +kernel
theorem dX3_section_24 : decode cX3_section 24 = .ok (.iconst 1, 1) := by decide +kernel
theorem dX3_section_25 : decode cX3_section 25 = .ok (.goto 4, 3) := by decide +kernel
theorem dX3_section_28 : decode cX3_section 28 = .ok (.iconst 0, 1) := by decide +kernel
theorem dX3_section_29 : decode cX3_section 29 = .ok (.invokestatic 27, 3) := by decide +kernel
theorem dX3_section_32 : decode cX3_section 32 = .ok (.aload_n 0, 1) := by decide +kernel
theorem dX3_section_33 : decode cX3_section 33 = .ok (.getfield 10, 3) := by decide +kernel
theorem dX3_section_36 : decode cX3_section 36 = .ok (.getfield 31, 3) := by decide +kernel
theorem dX3_section_39 : decode cX3_section 39 = .ok (.getfield 35, 3) := by decide +kernel
theorem dX3_section_42 : decode cX3_section 42 = .ok (.iload_n 1, 1) := by decide +kernel
theorem dX3_section_43 : decode cX3_section 43 = .ok (.iaload, 1) := by decide +kernel
theorem dX3_section_44 : decode cX3_section 44 = .ok (.istore 5, 2) := by decide +kernel
theorem dX3_section_46 : decode cX3_section 46 = .ok (.aload_n 0, 1) := by decide +kernel
theorem dX3_section_47 : decode cX3_section 47 = .ok (.getfield 10, 3) := by decide +kernel
theorem dX3_section_50 : decode cX3_section 50 = .ok (.getfield 31, 3) := by decide +kernel
theorem dX3_section_53 : decode cX3_section 53 = .ok (.getfield 35, 3) := by decide +kernel
theorem dX3_section_56 : decode cX3_section 56 = .ok (.iload_n 1, 1) := by decide +kernel
theorem dX3_section_57 : decode cX3_section 57 = .ok (.iload_n 2, 1) := by decide +kernel
theorem dX3_section_58 : decode cX3_section 58 = .ok (.iastore, 1) := by decide +kernel
theorem dX3_section_59 : decode cX3_section 59 = .ok (.aload_n 0, 1) := by decide +kernel
theorem dX3_section_60 : decode cX3_section 60 = .ok (.getfield 10, 3) := by decide +kernel
theorem dX3_section_63 : decode cX3_section 63 = .ok (.getfield 31, 3) := by decide +kernel
theorem dX3_section_66 : decode cX3_section 66 = .ok (.getfield 41, 3) := by decide +kernel
theorem dX3_section_69 : decode cX3_section 69 = .ok (.iload_n 1, 1) := by decide +kernel
theorem dX3_section_70 : decode cX3_section 70 = .ok (.iload_n 3, 1) := by decide +kernel
theorem dX3_section_71 : decode cX3_section 71 = .ok (.iastore, 1) := by decide +kernel
theorem dX3_section_72 : decode cX3_section 72 = .ok (.aload_n 0, 1) := by decide +kernel
theorem dX3_section_73 : decode cX3_section 73 = .ok (.getfield 10, 3) := by decide +kernel
theorem dX3_section_76 : decode cX3_section 76 = .ok (.getfield 31, 3) := by decide +kernel
theorem dX3_section_79 : decode cX3_section 79 = .ok (.getfield 44, 3) := by decide +kernel
theorem dX3_section_82 : decode cX3_section 82 = .ok (.iload_n 1, 1) := by decide +kernel
theorem dX3_section_83 : decode cX3_section 83 = .ok (.iload 4, 2) := by decide +kernel
theorem dX3_section_85 : decode cX3_section 85 = .ok (.bastore, 1) := by decide +kernel
theorem dX3_section_86 : decode cX3_section 86 = .ok (.iload 5, 2) := by decide +kernel
theorem dX3_section_88 : decode cX3_section 88 = .ok (.ireturn, 1) := by decide +kernel
set_option maxRecDepth 20000 in
theorem ggX3_station_X3_isWithin : GoodIn wsX3_station wsX3_isWithin := goodIn_r _ [7] (by decide +kernel) (by decide +kernel)
set_option maxRecDepth 20000 in
theorem gX3_station_X3_isWithin : GoodIn wsX3_station (va_wsS RX3 23 yX3_isWithin wsX3_isWithin) := goodIn_app (goodIn_of _ (by decide +kernel)) ggX3_station_X3_isWithin
set_option maxRecDepth 20000 in
theorem ggX3_station_X1_hasStationAt : GoodIn wsX3_station wsX1_hasStationAt := goodIn_r _ [12, 13, 14, 45, 46, 47, 48, 49, 50, 51, 52, 53, 54] (by decide +kernel) (by decide +kernel)
set_option maxRecDepth 20000 in
theorem gX3_station_X1_hasStationAt : GoodIn wsX3_station (wsV RX3 48 RX1 yX1_hasStationAt wsX1_hasStationAt) := goodIn_app (goodIn_of _ (by decide +kernel)) ggX3_station_X1_hasStationAt
set_option maxRecDepth 20000 in
theorem ggX3_station_X3_need : GoodIn wsX3_station wsX3_need := goodIn_ca (goodIn_r _ [17, 18, 19] (by decide +kernel) (by decide +kernel)) (goodIn_sub (fun _ h => List.mem_cons_of_mem _ (List.mem_append_left _ (List.mem_append_right _ h))) (by decide +kernel))
set_option maxRecDepth 20000 in
theorem gX3_station_X3_need : GoodIn wsX3_station (va_wsS RX3 27 yX3_need wsX3_need) := goodIn_app (goodIn_of _ (by decide +kernel)) ggX3_station_X3_need
set_option maxRecDepth 20000 in
theorem ggX3_station_X0_countPresent : GoodIn wsX3_station wsX0_countPresent := goodIn_r _ [24, 25, 26, 27, 41, 42, 43, 44, 55, 56, 57, 58, 59, 60, 61, 62, 63, 64, 65, 66, 67, 68, 69, 70, 71, 72] (by decide +kernel) (by decide +kernel)
set_option maxRecDepth 20000 in
theorem gX3_station_X0_countPresent : GoodIn wsX3_station (wsV RX3 56 RX0 yX0_countPresent wsX0_countPresent) := goodIn_app (goodIn_of _ (by decide +kernel)) ggX3_station_X0_countPresent
set_option maxRecDepth 20000 in
theorem ggX3_station_X3_needState : GoodIn wsX3_station wsX3_needState := goodIn_ca (goodIn_r _ [30, 31, 32] (by decide +kernel) (by decide +kernel)) (goodIn_sub (fun _ h => List.mem_cons_of_mem _ (List.mem_append_right _ h)) (by decide +kernel))
set_option maxRecDepth 20000 in
theorem gX3_station_X3_needState : GoodIn wsX3_station (va_wsS RX3 60 yX3_needState wsX3_needState) := goodIn_app (goodIn_of _ (by decide +kernel)) ggX3_station_X3_needState
set_option maxRecDepth 20000 in
theorem ggX3_station_X1_addStation : GoodIn wsX3_station wsX1_addStation := goodIn_r _ [36, 13, 14, 37, 38, 45, 46, 47, 48, 49, 50, 51, 52, 53, 54] (by decide +kernel) (by decide +kernel)
set_option maxRecDepth 20000 in
theorem gX3_station_X1_addStation : GoodIn wsX3_station (wsV RX3 63 RX1 yX1_addStation wsX1_addStation) := goodIn_app (goodIn_of _ (by decide +kernel)) ggX3_station_X1_addStation
theorem dX3_station_0 : decode cX3_station 0 = .ok (.iload_n 1, 1) := by decide +kernel
theorem dX3_station_1 : decode cX3_station 1 = .ok (.iconst 0, 1) := by decide +kernel
theorem dX3_station_2 : decode cX3_station 2 = .ok (.sipush 2999, 3) := by decide +kernel
theorem dX3_station_5 : decode cX3_station 5 = .ok (.invokestatic 23, 3) := by decide +kernel
theorem dX3_station_8 : decode cX3_station 8 = .ok (.ifCond .eq 31, 3) := by decide +kernel
theorem dX3_station_11 : decode cX3_station 11 = .ok (.aload_n 0, 1) := by decide +kernel
theorem dX3_station_12 : decode cX3_station 12 = .ok (.getfield 10, 3) := by decide +kernel
theorem dX3_station_15 : decode cX3_station 15 = .ok (.getfield 31, 3) := by decide +kernel
theorem dX3_station_18 : decode cX3_station 18 = .ok (.iload_n 1, 1) := by decide +kernel
theorem dX3_station_19 : decode cX3_station 19 = .ok (.invokevirtual 48, 3) := by decide +kernel
theorem dX3_station_22 : decode cX3_station 22 = .ok (.ifCond .ne 17, 3) := by decide +kernel
theorem dX3_station_25 : decode cX3_station 25 = .ok (.iload_n 2, 1) := by decide +kernel
theorem dX3_station_26 : decode cX3_station 26 = .ok (.iconst 0, 1) := by decide +kernel
theorem dX3_station_27 : decode cX3_station 27 = .ok (.bipush 60, 2) := by decide +kernel
theorem dX3_station_29 : decode cX3_station 29 = .ok (.invokestatic 23, 3) := by decide +kernel
theorem dX3_station_32 : decode cX3_station 32 = .ok (.ifCond .eq 7, 3) := by decide +kernel
theorem dX3_station_35 : decode cX3_station 35 = .ok (.iconst 1, 1) := by decide +kernel
theorem dX3_station_36 : decode cX3_station 36 = .ok (.goto 4, 3) := by decide +kernel
theorem dX3_station_39 : decode cX3_station 39 = .ok (.iconst 0, 1) := by decide +kernel
theorem dX3_station_40 : decode cX3_station 40 = .ok (.invokestatic 27, 3) := by decide +kernel
theorem dX3_station_43 : decode cX3_station 43 = .ok (.aload_n 0, 1) := by decide +kernel
theorem dX3_station_44 : decode cX3_station 44 = .ok (.getfield 10, 3) := by decide +kernel
theorem dX3_station_47 : decode cX3_station 47 = .ok (.getfield 31, 3) := by decide +kernel
theorem dX3_station_50 : decode cX3_station 50 = .ok (.getfield 52, 3) := by decide +kernel
theorem dX3_station_53 : decode cX3_station 53 = .ok (.iconst 4, 1) := by decide +kernel
theorem dX3_station_54 : decode cX3_station 54 = .ok (.if_icmp .ge 17, 3) := by decide +kernel
theorem dX3_station_57 : decode cX3_station 57 = .ok (.aload_n 0, 1) := by decide +kernel
theorem dX3_station_58 : decode cX3_station 58 = .ok (.getfield 10, 3) := by decide +kernel
theorem dX3_station_61 : decode cX3_station 61 = .ok (.invokevirtual 56, 3) := by decide +kernel
theorem dX3_station_64 : decode cX3_station 64 = .ok (.ifCond .ne 7, 3) := by decide +kernel
theorem dX3_station_67 : decode cX3_station 67 = .ok (.iconst 1, 1) := by decide +kernel
theorem dX3_station_68 : decode cX3_station 68 = .ok (.goto 4, 3) := by decide +kernel
theorem dX3_station_71 : decode cX3_station 71 = .ok (.iconst 0, 1) := by decide +kernel
theorem dX3_station_72 : decode cX3_station 72 = .ok (.invokestatic 60, 3) := by decide +kernel
theorem dX3_station_75 : decode cX3_station 75 = .ok (.aload_n 0, 1) := by decide +kernel
theorem dX3_station_76 : decode cX3_station 76 = .ok (.getfield 10, 3) := by decide +kernel
theorem dX3_station_79 : decode cX3_station 79 = .ok (.getfield 31, 3) := by decide +kernel
theorem dX3_station_82 : decode cX3_station 82 = .ok (.iload_n 1, 1) := by decide +kernel
theorem dX3_station_83 : decode cX3_station 83 = .ok (.iload_n 2, 1) := by decide +kernel
theorem dX3_station_84 : decode cX3_station 84 = .ok (.invokevirtual 63, 3) := by decide +kernel
theorem dX3_station_87 : decode cX3_station 87 = .ok (.ireturn, 1) := by decide +kernel
set_option maxRecDepth 20000 in
theorem ggX3_train_X3_isWithin : GoodIn wsX3_train wsX3_isWithin := goodIn_r _ [6] (by decide +kernel) (by decide +kernel)
set_option maxRecDepth 20000 in
theorem gX3_train_X3_isWithin : GoodIn wsX3_train (va_wsS RX3 23 yX3_isWithin wsX3_isWithin) := goodIn_app (goodIn_of _ (by decide +kernel)) ggX3_train_X3_isWithin
set_option maxRecDepth 20000 in
theorem ggX3_train_X3_need : GoodIn wsX3_train wsX3_need := goodIn_ca (goodIn_r _ [9, 10, 11] (by decide +kernel) (by decide +kernel)) (goodIn_sub (fun _ h => List.mem_cons_of_mem _ (List.mem_append_left _ (List.mem_append_right _ h))) (by decide +kernel))
set_option maxRecDepth 20000 in
theorem gX3_train_X3_need : GoodIn wsX3_train (va_wsS RX3 27 yX3_need wsX3_need) := goodIn_app (goodIn_of _ (by decide +kernel)) ggX3_train_X3_need
set_option maxRecDepth 20000 in
theorem ggX3_train_X0_isFreeUpTo : GoodIn wsX3_train wsX0_isFreeUpTo := goodIn_r _ [16, 17, 18, 19, 20, 21, 22, 23, 24, 25, 26, 62, 63, 64, 65, 66, 67, 68, 69, 70, 71, 72, 73, 74, 75, 76, 77, 78, 79, 80, 81, 82, 83] (by decide +kernel) (by decide +kernel)
set_option maxRecDepth 20000 in
theorem gX3_train_X0_isFreeUpTo : GoodIn wsX3_train (wsV RX3 70 RX0 yX0_isFreeUpTo wsX0_isFreeUpTo) := goodIn_app (goodIn_of _ (by decide +kernel)) ggX3_train_X0_isFreeUpTo
set_option maxRecDepth 20000 in
theorem ggX3_train_X3_needState : GoodIn wsX3_train wsX3_needState := goodIn_ca (goodIn_r _ [29, 30, 31] (by decide +kernel) (by decide +kernel)) (goodIn_sub (fun _ h => List.mem_cons_of_mem _ (List.mem_append_right _ h)) (by decide +kernel))
set_option maxRecDepth 20000 in
theorem gX3_train_X3_needState : GoodIn wsX3_train (va_wsS RX3 60 yX3_needState wsX3_needState) := goodIn_app (goodIn_of _ (by decide +kernel)) ggX3_train_X3_needState
set_option maxRecDepth 20000 in
theorem ggX3_train_X0_addTrain : GoodIn wsX3_train wsX0_addTrain := goodIn_r _ [35, 17, 18, 36, 37, 38, 39, 40, 41, 42, 43, 44, 45, 46, 47, 48, 49, 50, 51, 52, 53, 23, 54, 25, 55, 56, 57, 58, 59, 21, 22, 24, 26, 62, 63, 64, 65, 66, 67, 68, 69, 70, 71, 72, 73, 74, 75, 76, 77, 78, 79, 80, 81, 82, 83, 84, 85, 86, 87, 88, 89, 90, 91, 92, 93] (by decide +kernel) (by decide +kernel)
set_option maxRecDepth 20000 in
theorem gX3_train_X0_addTrain : GoodIn wsX3_train (wsV RX3 73 RX0 yX0_addTrain wsX0_addTrain) := goodIn_app (goodIn_of _ (by decide +kernel)) ggX3_train_X0_addTrain
theorem dX3_train_0 : decode cX3_train 0 = .ok (.iload_n 1, 1) := by decide +kernel
theorem dX3_train_1 : decode cX3_train 1 = .ok (.bipush 20, 2) := by decide +kernel
theorem dX3_train_3 : decode cX3_train 3 = .ok (.sipush 200, 3) := by decide +kernel
theorem dX3_train_6 : decode cX3_train 6 = .ok (.invokestatic 23, 3) := by decide +kernel
theorem dX3_train_9 : decode cX3_train 9 = .ok (.ifCond .eq 25, 3) := by decide +kernel
theorem dX3_train_12 : decode cX3_train 12 = .ok (.iload_n 2, 1) := by decide +kernel
theorem dX3_train_13 : decode cX3_train 13 = .ok (.iconst 1, 1) := by decide +kernel
theorem dX3_train_14 : decode cX3_train 14 = .ok (.iconst 4, 1) := by decide +kernel
theorem dX3_train_15 : decode cX3_train 15 = .ok (.invokestatic 23, 3) := by decide +kernel
theorem dX3_train_18 : decode cX3_train 18 = .ok (.ifCond .eq 16, 3) := by decide +kernel
theorem dX3_train_21 : decode cX3_train 21 = .ok (.iload_n 3, 1) := by decide +kernel
theorem dX3_train_22 : decode cX3_train 22 = .ok (.iconst 1, 1) := by decide +kernel
theorem dX3_train_23 : decode cX3_train 23 = .ok (.iconst 3, 1) := by decide +kernel
theorem dX3_train_24 : decode cX3_train 24 = .ok (.invokestatic 23, 3) := by decide +kernel
theorem dX3_train_27 : decode cX3_train 27 = .ok (.ifCond .eq 7, 3) := by decide +kernel
theorem dX3_train_30 : decode cX3_train 30 = .ok (.iconst 1, 1) := by decide +kernel
theorem dX3_train_31 : decode cX3_train 31 = .ok (.goto 4, 3) := by decide +kernel
theorem dX3_train_34 : decode cX3_train 34 = .ok (.iconst 0, 1) := by decide +kernel
theorem dX3_train_35 : decode cX3_train 35 = .ok (.invokestatic 27, 3) := by decide +kernel
theorem dX3_train_38 : decode cX3_train 38 = .ok (.aload_n 0, 1) := by decide +kernel
theorem dX3_train_39 : decode cX3_train 39 = .ok (.getfield 10, 3) := by decide +kernel
theorem dX3_train_42 : decode cX3_train 42 = .ok (.getfield 67, 3) := by decide +kernel
theorem dX3_train_45 : decode cX3_train 45 = .ok (.iconst 4, 1) := by decide +kernel
theorem dX3_train_46 : decode cX3_train 46 = .ok (.if_icmp .ge 18, 3) := by decide +kernel
theorem dX3_train_49 : decode cX3_train 49 = .ok (.aload_n 0, 1) := by decide +kernel
theorem dX3_train_50 : decode cX3_train 50 = .ok (.getfield 10, 3) := by decide +kernel
theorem dX3_train_53 : decode cX3_train 53 = .ok (.iload_n 1, 1) := by decide +kernel
theorem dX3_train_54 : decode cX3_train 54 = .ok (.invokevirtual 70, 3) := by decide +kernel
theorem dX3_train_57 : decode cX3_train 57 = .ok (.ifCond .eq 7, 3) := by decide +kernel
theorem dX3_train_60 : decode cX3_train 60 = .ok (.iconst 1, 1) := by decide +kernel
theorem dX3_train_61 : decode cX3_train 61 = .ok (.goto 4, 3) := by decide +kernel
theorem dX3_train_64 : decode cX3_train 64 = .ok (.iconst 0, 1) := by decide +kernel
theorem dX3_train_65 : decode cX3_train 65 = .ok (.invokestatic 60, 3) := by decide +kernel
theorem dX3_train_68 : decode cX3_train 68 = .ok (.aload_n 0, 1) := by decide +kernel
theorem dX3_train_69 : decode cX3_train 69 = .ok (.getfield 10, 3) := by decide +kernel
theorem dX3_train_72 : decode cX3_train 72 = .ok (.iload_n 1, 1) := by decide +kernel
theorem dX3_train_73 : decode cX3_train 73 = .ok (.iload_n 2, 1) := by decide +kernel
theorem dX3_train_74 : decode cX3_train 74 = .ok (.iload_n 3, 1) := by decide +kernel
theorem dX3_train_75 : decode cX3_train 75 = .ok (.iload 4, 2) := by decide +kernel
theorem dX3_train_77 : decode cX3_train 77 = .ok (.invokevirtual 73, 3) := by decide +kernel
theorem dX3_train_80 : decode cX3_train 80 = .ok (.ireturn, 1) := by decide +kernel
set_option maxRecDepth 20000 in
theorem ggX3_whole_X3_needTrain : GoodIn wsX3_whole wsX3_needTrain := goodIn_ca (goodIn_r _ [8, 1, 9, 10, 11, 7, 12, 13, 14, 15, 16, 17, 18, 19, 20] (by decide +kernel) (by decide +kernel)) (goodIn_sub (fun _ h => List.mem_cons_of_mem _ (List.mem_append_right _ h)) (by decide +kernel))
set_option maxRecDepth 20000 in
theorem gX3_whole_X3_needTrain : GoodIn wsX3_whole (wsV RX3 77 RX3 yX3_needTrain wsX3_needTrain) := goodIn_app (goodIn_of _ (by decide +kernel)) ggX3_whole_X3_needTrain
theorem dX3_whole_0 : decode cX3_whole 0 = .ok (.aload_n 0, 1) := by decide +kernel
theorem dX3_whole_1 : decode cX3_whole 1 = .ok (.iload_n 1, 1) := by decide +kernel
theorem dX3_whole_2 : decode cX3_whole 2 = .ok (.invokevirtual 77, 3) := by decide +kernel
theorem dX3_whole_5 : decode cX3_whole 5 = .ok (.aload_n 0, 1) := by decide +kernel
theorem dX3_whole_6 : decode cX3_whole 6 = .ok (.getfield 10, 3) := by decide +kernel
theorem dX3_whole_9 : decode cX3_whole 9 = .ok (.getfield 80, 3) := by decide +kernel
theorem dX3_whole_12 : decode cX3_whole 12 = .ok (.iload_n 1, 1) := by decide +kernel
theorem dX3_whole_13 : decode cX3_whole 13 = .ok (.aaload, 1) := by decide +kernel
theorem dX3_whole_14 : decode cX3_whole 14 = .ok (.getfield 84, 3) := by decide +kernel
theorem dX3_whole_17 : decode cX3_whole 17 = .ok (.istore_n 3, 1) := by decide +kernel
theorem dX3_whole_18 : decode cX3_whole 18 = .ok (.aload_n 0, 1) := by decide +kernel
theorem dX3_whole_19 : decode cX3_whole 19 = .ok (.getfield 10, 3) := by decide +kernel
theorem dX3_whole_22 : decode cX3_whole 22 = .ok (.getfield 80, 3) := by decide +kernel
theorem dX3_whole_25 : decode cX3_whole 25 = .ok (.iload_n 1, 1) := by decide +kernel
theorem dX3_whole_26 : decode cX3_whole 26 = .ok (.aaload, 1) := by decide +kernel
theorem dX3_whole_27 : decode cX3_whole 27 = .ok (.iload_n 2, 1) := by decide +kernel
theorem dX3_whole_28 : decode cX3_whole 28 = .ok (.putfield 84, 3) := by decide +kernel
theorem dX3_whole_31 : decode cX3_whole 31 = .ok (.iload_n 3, 1) := by decide +kernel
theorem dX3_whole_32 : decode cX3_whole 32 = .ok (.ireturn, 1) := by decide +kernel
set_option maxRecDepth 20000 in
theorem ggX3_works_X3_needSection : GoodIn wsX3_works wsX3_needSection := goodIn_ca (goodIn_r _ [7, 8, 9, 6, 10, 11, 12] (by decide +kernel) (by decide +kernel)) (goodIn_sub (fun _ h => List.mem_cons_of_mem _ (List.mem_append_left _ (List.mem_append_left _ (List.mem_append_right _ h)))) (by decide +kernel))
set_option maxRecDepth 20000 in
theorem gX3_works_X3_needSection : GoodIn wsX3_works (va_wsS RX3 19 yX3_needSection wsX3_needSection) := goodIn_app (goodIn_of _ (by decide +kernel)) ggX3_works_X3_needSection
set_option maxRecDepth 20000 in
theorem ggX3_works_X3_need : GoodIn wsX3_works wsX3_need := goodIn_ca (goodIn_r _ [15, 16, 17] (by decide +kernel) (by decide +kernel)) (goodIn_sub (fun _ h => List.mem_cons_of_mem _ (List.mem_append_left _ (List.mem_append_right _ h))) (by decide +kernel))
set_option maxRecDepth 20000 in
theorem gX3_works_X3_need : GoodIn wsX3_works (va_wsS RX3 27 yX3_need wsX3_need) := goodIn_app (goodIn_of _ (by decide +kernel)) ggX3_works_X3_need
set_option maxRecDepth 20000 in
theorem ggX3_works_X3_needState : GoodIn wsX3_works wsX3_needState := goodIn_ca (goodIn_r _ [20, 21, 22] (by decide +kernel) (by decide +kernel)) (goodIn_sub (fun _ h => List.mem_cons_of_mem _ (List.mem_append_right _ h)) (by decide +kernel))
set_option maxRecDepth 20000 in
theorem gX3_works_X3_needState : GoodIn wsX3_works (va_wsS RX3 60 yX3_needState wsX3_needState) := goodIn_app (goodIn_of _ (by decide +kernel)) ggX3_works_X3_needState
set_option maxRecDepth 20000 in
theorem ggX3_works_X0_hindranceOfWorks : GoodIn wsX3_works wsX0_hindranceOfWorks := goodIn_r _ [27, 28, 29, 30, 31, 32, 33, 34, 35, 26, 36, 37, 38, 39, 40, 41, 42, 43, 6, 44, 45, 46, 47, 48, 49, 50, 51, 62, 63, 64, 65, 76, 77, 78, 79, 80, 81, 82, 83, 84, 85, 86, 87, 88, 89, 90, 91, 92, 93] (by decide +kernel) (by decide +kernel)
set_option maxRecDepth 20000 in
theorem gX3_works_X0_hindranceOfWorks : GoodIn wsX3_works (wsV RX3 93 RX0 yX0_hindranceOfWorks wsX0_hindranceOfWorks) := goodIn_app (goodIn_of _ (by decide +kernel)) ggX3_works_X0_hindranceOfWorks
set_option maxRecDepth 20000 in
theorem ggX3_works_X1_addWorks : GoodIn wsX3_works wsX1_addWorks := goodIn_r _ [56, 57, 58, 59, 66, 67, 68, 69, 70, 71, 72, 73, 74, 75] (by decide +kernel) (by decide +kernel)
set_option maxRecDepth 20000 in
theorem gX3_works_X1_addWorks : GoodIn wsX3_works (wsV RX3 96 RX1 yX1_addWorks wsX1_addWorks) := goodIn_app (goodIn_of _ (by decide +kernel)) ggX3_works_X1_addWorks
theorem dX3_works_0 : decode cX3_works 0 = .ok (.iload_n 1, 1) := by decide +kernel
theorem dX3_works_1 : decode cX3_works 1 = .ok (.invokestatic 19, 3) := by decide +kernel
theorem dX3_works_4 : decode cX3_works 4 = .ok (.iload_n 2, 1) := by decide +kernel
theorem dX3_works_5 : decode cX3_works 5 = .ok (.invokestatic 19, 3) := by decide +kernel
theorem dX3_works_8 : decode cX3_works 8 = .ok (.iload_n 1, 1) := by decide +kernel
theorem dX3_works_9 : decode cX3_works 9 = .ok (.iload_n 2, 1) := by decide +kernel
theorem dX3_works_10 : decode cX3_works 10 = .ok (.if_icmp .gt 7, 3) := by decide +kernel
theorem dX3_works_13 : decode cX3_works 13 = .ok (.iconst 1, 1) := by decide +kernel
theorem dX3_works_14 : decode cX3_works 14 = .ok (.goto 4, 3) := by decide +kernel
theorem dX3_works_17 : decode cX3_works 17 = .ok (.iconst 0, 1) := by decide +kernel
theorem dX3_works_18 : decode cX3_works 18 = .ok (.invokestatic 27, 3) := by decide +kernel
theorem dX3_works_21 : decode cX3_works 21 = .ok (.aload_n 0, 1) := by decide +kernel
theorem dX3_works_22 : decode cX3_works 22 = .ok (.getfield 10, 3) := by decide +kernel
theorem dX3_works_25 : decode cX3_works 25 = .ok (.getfield 31, 3) := by decide +kernel
theorem dX3_works_28 : decode cX3_works 28 = .ok (.getfield 90, 3) := by decide +kernel
theorem dX3_works_31 : decode cX3_works 31 = .ok (.iconst 3, 1) := by decide +kernel
theorem dX3_works_32 : decode cX3_works 32 = .ok (.if_icmp .ge 7, 3) := by decide +kernel
theorem dX3_works_35 : decode cX3_works 35 = .ok (.iconst 1, 1) := by decide +kernel
theorem dX3_works_36 : decode cX3_works 36 = .ok (.goto 4, 3) := by decide +kernel
theorem dX3_works_39 : decode cX3_works 39 = .ok (.iconst 0, 1) := by decide +kernel
theorem dX3_works_40 : decode cX3_works 40 = .ok (.invokestatic 60, 3) := by decide +kernel
theorem dX3_works_43 : decode cX3_works 43 = .ok (.aload_n 0, 1) := by decide +kernel
theorem dX3_works_44 : decode cX3_works 44 = .ok (.getfield 10, 3) := by decide +kernel
theorem dX3_works_47 : decode cX3_works 47 = .ok (.iload_n 1, 1) := by decide +kernel
theorem dX3_works_48 : decode cX3_works 48 = .ok (.iload_n 2, 1) := by decide +kernel
theorem dX3_works_49 : decode cX3_works 49 = .ok (.invokevirtual 93, 3) := by decide +kernel
theorem dX3_works_52 : decode cX3_works 52 = .ok (.istore_n 3, 1) := by decide +kernel
theorem dX3_works_53 : decode cX3_works 53 = .ok (.iload_n 3, 1) := by decide +kernel
theorem dX3_works_54 : decode cX3_works 54 = .ok (.ifCond .eq 7, 3) := by decide +kernel
theorem dX3_works_57 : decode cX3_works 57 = .ok (.iload_n 3, 1) := by decide +kernel
theorem dX3_works_58 : decode cX3_works 58 = .ok (.goto 15, 3) := by decide +kernel
theorem dX3_works_61 : decode cX3_works 61 = .ok (.aload_n 0, 1) := by decide +kernel
theorem dX3_works_62 : decode cX3_works 62 = .ok (.getfield 10, 3) := by decide +kernel
theorem dX3_works_65 : decode cX3_works 65 = .ok (.getfield 31, 3) := by decide +kernel
theorem dX3_works_68 : decode cX3_works 68 = .ok (.iload_n 1, 1) := by decide +kernel
theorem dX3_works_69 : decode cX3_works 69 = .ok (.iload_n 2, 1) := by decide +kernel
theorem dX3_works_70 : decode cX3_works 70 = .ok (.invokevirtual 96, 3) := by decide +kernel
theorem dX3_works_73 : decode cX3_works 73 = .ok (.ireturn, 1) := by decide +kernel
set_option maxRecDepth 20000 in
theorem ggX3_end_X3_needIndex : GoodIn wsX3_end wsX3_needIndex := goodIn_ca (goodIn_r _ [7, 8, 9] (by decide +kernel) (by decide +kernel)) (goodIn_sub (fun _ h => List.mem_cons_of_mem _ (List.mem_append_right _ h)) (by decide +kernel))
set_option maxRecDepth 20000 in
theorem gX3_end_X3_needIndex : GoodIn wsX3_end (va_wsS RX3 99 yX3_needIndex wsX3_needIndex) := goodIn_app (goodIn_of _ (by decide +kernel)) ggX3_end_X3_needIndex
set_option maxRecDepth 20000 in
theorem ggX3_end_X1_removeWorks : GoodIn wsX3_end wsX1_removeWorks := goodIn_r _ [14, 15, 16, 17, 24, 25, 26, 27, 28, 29, 30, 31, 32, 33] (by decide +kernel) (by decide +kernel)
set_option maxRecDepth 20000 in
theorem gX3_end_X1_removeWorks : GoodIn wsX3_end (wsV RX3 103 RX1 yX1_removeWorks wsX1_removeWorks) := goodIn_app (goodIn_of _ (by decide +kernel)) ggX3_end_X1_removeWorks
theorem dX3_end_0 : decode cX3_end 0 = .ok (.iload_n 1, 1) := by decide +kernel
theorem dX3_end_1 : decode cX3_end 1 = .ok (.aload_n 0, 1) := by decide +kernel
theorem dX3_end_2 : decode cX3_end 2 = .ok (.getfield 10, 3) := by decide +kernel
theorem dX3_end_5 : decode cX3_end 5 = .ok (.getfield 31, 3) := by decide +kernel
theorem dX3_end_8 : decode cX3_end 8 = .ok (.getfield 90, 3) := by decide +kernel
theorem dX3_end_11 : decode cX3_end 11 = .ok (.invokestatic 99, 3) := by decide +kernel
theorem dX3_end_14 : decode cX3_end 14 = .ok (.aload_n 0, 1) := by decide +kernel
theorem dX3_end_15 : decode cX3_end 15 = .ok (.getfield 10, 3) := by decide +kernel
theorem dX3_end_18 : decode cX3_end 18 = .ok (.getfield 31, 3) := by decide +kernel
theorem dX3_end_21 : decode cX3_end 21 = .ok (.iload_n 1, 1) := by decide +kernel
theorem dX3_end_22 : decode cX3_end 22 = .ok (.invokevirtual 103, 3) := by decide +kernel
theorem dX3_end_25 : decode cX3_end 25 = .ok (.ireturn, 1) := by decide +kernel
set_option maxRecDepth 20000 in
theorem ggX3_pass_X3_isWithin : GoodIn wsX3_pass wsX3_isWithin := goodIn_r _ [5] (by decide +kernel) (by decide +kernel)
set_option maxRecDepth 20000 in
theorem gX3_pass_X3_isWithin : GoodIn wsX3_pass (va_wsS RX3 23 yX3_isWithin wsX3_isWithin) := goodIn_app (goodIn_of _ (by decide +kernel)) ggX3_pass_X3_isWithin
set_option maxRecDepth 20000 in
theorem ggX3_pass_X3_need : GoodIn wsX3_pass wsX3_need := goodIn_ca (goodIn_r _ [8, 9, 10] (by decide +kernel) (by decide +kernel)) (goodIn_sub (fun _ h => List.mem_cons_of_mem _ (List.mem_append_right _ h)) (by decide +kernel))
set_option maxRecDepth 20000 in
theorem gX3_pass_X3_need : GoodIn wsX3_pass (va_wsS RX3 27 yX3_need wsX3_need) := goodIn_app (goodIn_of _ (by decide +kernel)) ggX3_pass_X3_need
set_option maxRecDepth 20000 in
theorem ggX3_pass_X0_goOn : GoodIn wsX3_pass wsX0_goOn := goodIn_r _ [15, 16, 17, 18, 19, 20, 21, 22, 23, 24, 25, 26, 27, 28, 29, 14, 30, 31, 32, 33, 34, 35, 36, 37, 4, 38, 39, 40, 41, 42, 43, 44, 45, 46, 47, 48, 49, 50, 51, 52, 53, 54, 55, 56, 57, 58, 59, 60, 61, 62, 63, 64, 65, 66, 67, 68, 69, 70, 71, 72, 73, 74, 75, 76, 77, 78, 79, 80, 81, 82, 83, 84, 85, 86, 87, 88, 89, 90, 91, 92, 93, 94, 95, 96, 97, 98, 99, 100, 101, 102, 103, 104, 105, 106, 107, 108, 109, 110, 111, 112, 113, 114, 115, 116, 117, 118, 119, 120, 121, 122, 123, 124, 125, 126, 127, 128, 129, 130, 131, 132, 133, 134, 135, 136, 137, 138, 139, 140, 141, 142, 143, 144, 145, 146, 147, 148, 149, 150, 151, 152, 153, 154, 155, 156, 157, 158, 159, 160, 161, 162, 163, 166, 167, 168, 169, 170, 171, 172, 173, 174, 175, 176, 177, 178, 179, 180, 181, 182, 183, 184, 185, 186, 187, 188, 189, 190, 191, 192, 193, 194, 195, 196, 197] (by decide +kernel) (by decide +kernel)
set_option maxRecDepth 20000 in
theorem gX3_pass_X0_goOn : GoodIn wsX3_pass (wsV RX3 107 RX0 yX0_goOn wsX0_goOn) := goodIn_app (goodIn_of _ (by decide +kernel)) ggX3_pass_X0_goOn
theorem dX3_pass_0 : decode cX3_pass 0 = .ok (.iload_n 1, 1) := by decide +kernel
theorem dX3_pass_1 : decode cX3_pass 1 = .ok (.iconst 1, 1) := by decide +kernel
theorem dX3_pass_2 : decode cX3_pass 2 = .ok (.sipush 300, 3) := by decide +kernel
theorem dX3_pass_5 : decode cX3_pass 5 = .ok (.invokestatic 23, 3) := by decide +kernel
theorem dX3_pass_8 : decode cX3_pass 8 = .ok (.invokestatic 27, 3) := by decide +kernel
theorem dX3_pass_11 : decode cX3_pass 11 = .ok (.iconst 0, 1) := by decide +kernel
theorem dX3_pass_12 : decode cX3_pass 12 = .ok (.istore_n 2, 1) := by decide +kernel
theorem dX3_pass_13 : decode cX3_pass 13 = .ok (.iconst 1, 1) := by decide +kernel
theorem dX3_pass_14 : decode cX3_pass 14 = .ok (.istore_n 3, 1) := by decide +kernel
theorem dX3_pass_15 : decode cX3_pass 15 = .ok (.iload_n 3, 1) := by decide +kernel
theorem dX3_pass_16 : decode cX3_pass 16 = .ok (.iload_n 1, 1) := by decide +kernel
theorem dX3_pass_17 : decode cX3_pass 17 = .ok (.if_icmp .gt 20, 3) := by decide +kernel
theorem dX3_pass_20 : decode cX3_pass 20 = .ok (.iload_n 2, 1) := by decide +kernel
theorem dX3_pass_21 : decode cX3_pass 21 = .ok (.aload_n 0, 1) := by decide +kernel
theorem dX3_pass_22 : decode cX3_pass 22 = .ok (.getfield 10, 3) := by decide +kernel
theorem dX3_pass_25 : decode cX3_pass 25 = .ok (.iconst (-1), 1) := by decide +kernel
theorem dX3_pass_26 : decode cX3_pass 26 = .ok (.invokevirtual 107, 3) := by decide +kernel
theorem dX3_pass_29 : decode cX3_pass 29 = .ok (.iadd, 1) := by decide +kernel
theorem dX3_pass_30 : decode cX3_pass 30 = .ok (.istore_n 2, 1) := by decide +kernel
theorem dX3_pass_31 : decode cX3_pass 31 = .ok (.iinc 3 1, 3) := by decide +kernel
theorem dX3_pass_34 : decode cX3_pass 34 = .ok (.goto (-19), 3) := by decide +kernel
theorem dX3_pass_37 : decode cX3_pass 37 = .ok (.iload_n 2, 1) := by decide +kernel
theorem dX3_pass_38 : decode cX3_pass 38 = .ok (.ireturn, 1) := by decide +kernel
set_option maxRecDepth 20000 in
theorem ggX3_ofSection_X3_needSection : GoodIn wsX3_ofSection wsX3_needSection := goodIn_ca (goodIn_r _ [9, 10, 11, 8, 12, 13, 14] (by decide +kernel) (by decide +kernel)) (goodIn_sub (fun _ h => List.mem_cons_of_mem _ (List.mem_append_left _ (List.mem_append_right _ h))) (by decide +kernel))
set_option maxRecDepth 20000 in
theorem gX3_ofSection_X3_needSection : GoodIn wsX3_ofSection (va_wsS RX3 19 yX3_needSection wsX3_needSection) := goodIn_app (goodIn_of _ (by decide +kernel)) ggX3_ofSection_X3_needSection
set_option maxRecDepth 20000 in
theorem ggX3_ofSection_X3_isWithin : GoodIn wsX3_ofSection wsX3_isWithin := goodIn_r _ [17] (by decide +kernel) (by decide +kernel)
set_option maxRecDepth 20000 in
theorem gX3_ofSection_X3_isWithin : GoodIn wsX3_ofSection (va_wsS RX3 23 yX3_isWithin wsX3_isWithin) := goodIn_app (goodIn_of _ (by decide +kernel)) ggX3_ofSection_X3_isWithin
set_option maxRecDepth 20000 in
theorem ggX3_ofSection_X3_need : GoodIn wsX3_ofSection wsX3_need := goodIn_ca (goodIn_r _ [20, 21, 22] (by decide +kernel) (by decide +kernel)) (goodIn_sub (fun _ h => List.mem_cons_of_mem _ (List.mem_append_right _ h)) (by decide +kernel))
set_option maxRecDepth 20000 in
theorem gX3_ofSection_X3_need : GoodIn wsX3_ofSection (va_wsS RX3 27 yX3_need wsX3_need) := goodIn_app (goodIn_of _ (by decide +kernel)) ggX3_ofSection_X3_need
set_option maxRecDepth 20000 in
theorem ggX3_ofSection_X0_countOn : GoodIn wsX3_ofSection wsX0_countOn := goodIn_r _ [27, 28, 29, 30, 31, 32, 33, 34, 35, 36, 37, 8, 38, 39, 40, 41, 42, 43, 54, 55, 56, 57, 68, 69, 70, 71, 72, 73, 74, 75, 76, 77, 78, 79, 80, 81, 82, 83, 84, 85] (by decide +kernel) (by decide +kernel)
set_option maxRecDepth 20000 in
theorem gX3_ofSection_X0_countOn : GoodIn wsX3_ofSection (wsV RX3 110 RX0 yX0_countOn wsX0_countOn) := goodIn_app (goodIn_of _ (by decide +kernel)) ggX3_ofSection_X0_countOn
set_option maxRecDepth 20000 in
theorem ggX3_ofSection_X1_hasWorksOn : GoodIn wsX3_ofSection wsX1_hasWorksOn := goodIn_r _ [48, 49, 50, 51, 16, 8, 17, 58, 59, 60, 61, 62, 63, 64, 65, 66, 67] (by decide +kernel) (by decide +kernel)
set_option maxRecDepth 20000 in
theorem gX3_ofSection_X1_hasWorksOn : GoodIn wsX3_ofSection (wsV RX3 113 RX1 yX1_hasWorksOn wsX1_hasWorksOn) := goodIn_app (goodIn_of _ (by decide +kernel)) ggX3_ofSection_X1_hasWorksOn
theorem dX3_ofSection_0 : decode cX3_ofSection 0 = .ok (.iload_n 1, 1) := by decide +kernel
theorem dX3_ofSection_1 : decode cX3_ofSection 1 = .ok (.invokestatic 19, 3) := by decide +kernel
theorem dX3_ofSection_4 : decode cX3_ofSection 4 = .ok (.iload_n 2, 1) := by decide +kernel
theorem dX3_ofSection_5 : decode cX3_ofSection 5 = .ok (.iconst 0, 1) := by decide +kernel
theorem dX3_ofSection_6 : decode cX3_ofSection 6 = .ok (.iconst 4, 1) := by decide +kernel
theorem dX3_ofSection_7 : decode cX3_ofSection 7 = .ok (.invokestatic 23, 3) := by decide +kernel
theorem dX3_ofSection_10 : decode cX3_ofSection 10 = .ok (.invokestatic 27, 3) := by decide +kernel
theorem dX3_ofSection_13 : decode cX3_ofSection 13 = .ok (.iload_n 2, 1) := by decide +kernel
theorem dX3_ofSection_14 : decode cX3_ofSection 14 = .ok (.tableswitch 87 0 3 #[30, 43, 56, 77], 30) := by decide +kernel
theorem dX3_ofSection_44 : decode cX3_ofSection 44 = .ok (.aload_n 0, 1) := by decide +kernel
theorem dX3_ofSection_45 : decode cX3_ofSection 45 = .ok (.getfield 10, 3) := by decide +kernel
theorem dX3_ofSection_48 : decode cX3_ofSection 48 = .ok (.getfield 31, 3) := by decide +kernel
theorem dX3_ofSection_51 : decode cX3_ofSection 51 = .ok (.getfield 35, 3) := by decide +kernel
theorem dX3_ofSection_54 : decode cX3_ofSection 54 = .ok (.iload_n 1, 1) := by decide +kernel
theorem dX3_ofSection_55 : decode cX3_ofSection 55 = .ok (.iaload, 1) := by decide +kernel
theorem dX3_ofSection_56 : decode cX3_ofSection 56 = .ok (.ireturn, 1) := by decide +kernel
theorem dX3_ofSection_57 : decode cX3_ofSection 57 = .ok (.aload_n 0, 1) := by decide +kernel
theorem dX3_ofSection_58 : decode cX3_ofSection 58 = .ok (.getfield 10, 3) := by decide +kernel
theorem dX3_ofSection_61 : decode cX3_ofSection 61 = .ok (.getfield 31, 3) := by decide +kernel
theorem dX3_ofSection_64 : decode cX3_ofSection 64 = .ok (.getfield 41, 3) := by decide +kernel
theorem dX3_ofSection_67 : decode cX3_ofSection 67 = .ok (.iload_n 1, 1) := by decide +kernel
theorem dX3_ofSection_68 : decode cX3_ofSection 68 = .ok (.iaload, 1) := by decide +kernel
theorem dX3_ofSection_69 : decode cX3_ofSection 69 = .ok (.ireturn, 1) := by decide +kernel
theorem dX3_ofSection_70 : decode cX3_ofSection 70 = .ok (.aload_n 0, 1) := by decide +kernel
theorem dX3_ofSection_71 : decode cX3_ofSection 71 = .ok (.getfield 10, 3) := by decide +kernel
theorem dX3_ofSection_74 : decode cX3_ofSection 74 = .ok (.getfield 31, 3) := by decide +kernel
theorem dX3_ofSection_77 : decode cX3_ofSection 77 = .ok (.getfield 44, 3) := by decide +kernel
theorem dX3_ofSection_80 : decode cX3_ofSection 80 = .ok (.iload_n 1, 1) := by decide +kernel
theorem dX3_ofSection_81 : decode cX3_ofSection 81 = .ok (.baload, 1) := by decide +kernel
theorem dX3_ofSection_82 : decode cX3_ofSection 82 = .ok (.ifCond .eq 7, 3) := by decide +kernel
theorem dX3_ofSection_85 : decode cX3_ofSection 85 = .ok (.iconst 1, 1) := by decide +kernel
theorem dX3_ofSection_86 : decode cX3_ofSection 86 = .ok (.goto 4, 3) := by decide +kernel
theorem dX3_ofSection_89 : decode cX3_ofSection 89 = .ok (.iconst 0, 1) := by decide +kernel
theorem dX3_ofSection_90 : decode cX3_ofSection 90 = .ok (.ireturn, 1) := by decide +kernel
theorem dX3_ofSection_91 : decode cX3_ofSection 91 = .ok (.aload_n 0, 1) := by decide +kernel
theorem dX3_ofSection_92 : decode cX3_ofSection 92 = .ok (.getfield 10, 3) := by decide +kernel
theorem dX3_ofSection_95 : decode cX3_ofSection 95 = .ok (.iload_n 1, 1) := by decide +kernel
theorem dX3_ofSection_96 : decode cX3_ofSection 96 = .ok (.iload_n 1, 1) := by decide +kernel
theorem dX3_ofSection_97 : decode cX3_ofSection 97 = .ok (.invokevirtual 110, 3) := by decide +kernel
theorem dX3_ofSection_100 : decode cX3_ofSection 100 = .ok (.ireturn, 1) := by decide +kernel
theorem dX3_ofSection_101 : decode cX3_ofSection 101 = .ok (.aload_n 0, 1) := by decide +kernel
theorem dX3_ofSection_102 : decode cX3_ofSection 102 = .ok (.getfield 10, 3) := by decide +kernel
theorem dX3_ofSection_105 : decode cX3_ofSection 105 = .ok (.getfield 31, 3) := by decide +kernel
theorem dX3_ofSection_108 : decode cX3_ofSection 108 = .ok (.iload_n 1, 1) := by decide +kernel
theorem dX3_ofSection_109 : decode cX3_ofSection 109 = .ok (.invokevirtual 113, 3) := by decide +kernel
theorem dX3_ofSection_112 : decode cX3_ofSection 112 = .ok (.ifCond .eq 7, 3) := by decide +kernel
theorem dX3_ofSection_115 : decode cX3_ofSection 115 = .ok (.iconst 1, 1) := by decide +kernel
theorem dX3_ofSection_116 : decode cX3_ofSection 116 = .ok (.goto 4, 3) := by decide +kernel
theorem dX3_ofSection_119 : decode cX3_ofSection 119 = .ok (.iconst 0, 1) := by decide +kernel
theorem dX3_ofSection_120 : decode cX3_ofSection 120 = .ok (.ireturn, 1) := by decide +kernel
set_option maxRecDepth 20000 in
theorem ggX3_ofTrain_X3_needTrain : GoodIn wsX3_ofTrain wsX3_needTrain := goodIn_ca (goodIn_r _ [9, 1, 10, 11, 12, 8, 13, 14, 15, 71, 72, 73, 74, 75, 76] (by decide +kernel) (by decide +kernel)) (goodIn_sub (fun _ h => List.mem_cons_of_mem _ (List.mem_append_left _ (List.mem_append_right _ h))) (by decide +kernel))
set_option maxRecDepth 20000 in
theorem gX3_ofTrain_X3_needTrain : GoodIn wsX3_ofTrain (wsV RX3 77 RX3 yX3_needTrain wsX3_needTrain) := goodIn_app (goodIn_of _ (by decide +kernel)) ggX3_ofTrain_X3_needTrain
set_option maxRecDepth 20000 in
theorem ggX3_ofTrain_X3_isWithin : GoodIn wsX3_ofTrain wsX3_isWithin := goodIn_r _ [18] (by decide +kernel) (by decide +kernel)
set_option maxRecDepth 20000 in
theorem gX3_ofTrain_X3_isWithin : GoodIn wsX3_ofTrain (va_wsS RX3 23 yX3_isWithin wsX3_isWithin) := goodIn_app (goodIn_of _ (by decide +kernel)) ggX3_ofTrain_X3_isWithin
set_option maxRecDepth 20000 in
theorem ggX3_ofTrain_X3_need : GoodIn wsX3_ofTrain wsX3_need := goodIn_ca (goodIn_r _ [21, 22, 23] (by decide +kernel) (by decide +kernel)) (goodIn_sub (fun _ h => List.mem_cons_of_mem _ (List.mem_append_right _ h)) (by decide +kernel))
set_option maxRecDepth 20000 in
theorem gX3_ofTrain_X3_need : GoodIn wsX3_ofTrain (va_wsS RX3 27 yX3_need wsX3_need) := goodIn_app (goodIn_of _ (by decide +kernel)) ggX3_ofTrain_X3_need
set_option maxRecDepth 20000 in
theorem ggX3_ofTrain_X1_nextStation : GoodIn wsX3_ofTrain wsX1_nextStation := goodIn_r _ [28, 29, 30, 95, 96, 97, 98, 99, 100, 101, 102, 103, 104] (by decide +kernel) (by decide +kernel)
set_option maxRecDepth 20000 in
theorem gX3_ofTrain_X1_nextStation : GoodIn wsX3_ofTrain (wsV RX3 119 RX1 yX1_nextStation wsX1_nextStation) := goodIn_app (goodIn_of _ (by decide +kernel)) ggX3_ofTrain_X1_nextStation
set_option maxRecDepth 20000 in
theorem ggX3_ofTrain_X0_aheadOf : GoodIn wsX3_ofTrain wsX0_aheadOf := goodIn_r _ [35, 36, 37, 73, 74, 75, 76, 77, 78, 79, 80, 81, 82, 83, 84, 85, 86, 87, 88, 89, 90, 91, 92, 93, 94] (by decide +kernel) (by decide +kernel)
set_option maxRecDepth 20000 in
theorem gX3_ofTrain_X0_aheadOf : GoodIn wsX3_ofTrain (wsV RX3 122 RX0 yX0_aheadOf wsX0_aheadOf) := goodIn_app (goodIn_of _ (by decide +kernel)) ggX3_ofTrain_X0_aheadOf
set_option maxRecDepth 20000 in
theorem ggX3_ofTrain_X2_numberNow : GoodIn wsX3_ofTrain wsX2_numberNow := goodIn_r _ [42, 43, 44, 45, 46, 47, 48, 49, 50, 51, 52, 41, 53, 54, 77, 78, 79, 80, 81, 82, 83, 84, 85, 86, 87, 88, 89, 90, 91, 92, 93, 94] (by decide +kernel) (by decide +kernel)
set_option maxRecDepth 20000 in
theorem gX3_ofTrain_X2_numberNow : GoodIn wsX3_ofTrain (wsV RX3 125 RX2 yX2_numberNow wsX2_numberNow) := goodIn_app (goodIn_of _ (by decide +kernel)) ggX3_ofTrain_X2_numberNow
set_option maxRecDepth 20000 in
theorem ggX3_ofTrain_X2_numberKept : GoodIn wsX3_ofTrain wsX2_numberKept := goodIn_r _ [58, 59, 60, 61, 62, 63, 64, 65, 66, 67, 41, 68, 69, 70, 77, 78, 79, 80, 81, 82, 83, 84, 85, 86, 87, 88, 89, 90, 91, 92, 93, 94] (by decide +kernel) (by decide +kernel)
set_option maxRecDepth 20000 in
theorem gX3_ofTrain_X2_numberKept : GoodIn wsX3_ofTrain (wsV RX3 128 RX2 yX2_numberKept wsX2_numberKept) := goodIn_app (goodIn_of _ (by decide +kernel)) ggX3_ofTrain_X2_numberKept
theorem dX3_ofTrain_0 : decode cX3_ofTrain 0 = .ok (.aload_n 0, 1) := by decide +kernel
theorem dX3_ofTrain_1 : decode cX3_ofTrain 1 = .ok (.iload_n 1, 1) := by decide +kernel
theorem dX3_ofTrain_2 : decode cX3_ofTrain 2 = .ok (.invokevirtual 77, 3) := by decide +kernel
theorem dX3_ofTrain_5 : decode cX3_ofTrain 5 = .ok (.iload_n 2, 1) := by decide +kernel
theorem dX3_ofTrain_6 : decode cX3_ofTrain 6 = .ok (.iconst 0, 1) := by decide +kernel
theorem dX3_ofTrain_7 : decode cX3_ofTrain 7 = .ok (.bipush 15, 2) := by decide +kernel
theorem dX3_ofTrain_9 : decode cX3_ofTrain 9 = .ok (.invokestatic 23, 3) := by decide +kernel
theorem dX3_ofTrain_12 : decode cX3_ofTrain 12 = .ok (.invokestatic 27, 3) := by decide +kernel
theorem dX3_ofTrain_15 : decode cX3_ofTrain 15 = .ok (.iload_n 2, 1) := by decide +kernel
theorem dX3_ofTrain_16 : decode cX3_ofTrain 16 = .ok (.bipush 6, 2) := by decide +kernel
theorem dX3_ofTrain_18 : decode cX3_ofTrain 18 = .ok (.if_icmp .ne 26, 3) := by decide +kernel
theorem dX3_ofTrain_21 : decode cX3_ofTrain 21 = .ok (.aload_n 0, 1) := by decide +kernel
theorem dX3_ofTrain_22 : decode cX3_ofTrain 22 = .ok (.getfield 10, 3) := by decide +kernel
theorem dX3_ofTrain_25 : decode cX3_ofTrain 25 = .ok (.getfield 31, 3) := by decide +kernel
theorem dX3_ofTrain_28 : decode cX3_ofTrain 28 = .ok (.aload_n 0, 1) := by decide +kernel
theorem dX3_ofTrain_29 : decode cX3_ofTrain 29 = .ok (.getfield 10, 3) := by decide +kernel
theorem dX3_ofTrain_32 : decode cX3_ofTrain 32 = .ok (.getfield 80, 3) := by decide +kernel
theorem dX3_ofTrain_35 : decode cX3_ofTrain 35 = .ok (.iload_n 1, 1) := by decide +kernel
theorem dX3_ofTrain_36 : decode cX3_ofTrain 36 = .ok (.aaload, 1) := by decide +kernel
theorem dX3_ofTrain_37 : decode cX3_ofTrain 37 = .ok (.getfield 116, 3) := by decide +kernel
theorem dX3_ofTrain_40 : decode cX3_ofTrain 40 = .ok (.invokevirtual 119, 3) := by decide +kernel
theorem dX3_ofTrain_43 : decode cX3_ofTrain 43 = .ok (.ireturn, 1) := by decide +kernel
theorem dX3_ofTrain_44 : decode cX3_ofTrain 44 = .ok (.iload_n 2, 1) := by decide +kernel
theorem dX3_ofTrain_45 : decode cX3_ofTrain 45 = .ok (.bipush 15, 2) := by decide +kernel
theorem dX3_ofTrain_47 : decode cX3_ofTrain 47 = .ok (.if_icmp .ne 12, 3) := by decide +kernel
theorem dX3_ofTrain_50 : decode cX3_ofTrain 50 = .ok (.aload_n 0, 1) := by decide +kernel
theorem dX3_ofTrain_51 : decode cX3_ofTrain 51 = .ok (.getfield 10, 3) := by decide +kernel
theorem dX3_ofTrain_54 : decode cX3_ofTrain 54 = .ok (.iload_n 1, 1) := by decide +kernel
theorem dX3_ofTrain_55 : decode cX3_ofTrain 55 = .ok (.invokevirtual 122, 3) := by decide +kernel
theorem dX3_ofTrain_58 : decode cX3_ofTrain 58 = .ok (.ireturn, 1) := by decide +kernel
theorem dX3_ofTrain_59 : decode cX3_ofTrain 59 = .ok (.iload_n 2, 1) := by decide +kernel
theorem dX3_ofTrain_60 : decode cX3_ofTrain 60 = .ok (.bipush 8, 2) := by decide +kernel
theorem dX3_ofTrain_62 : decode cX3_ofTrain 62 = .ok (.if_icmp .ge 19, 3) := by decide +kernel
theorem dX3_ofTrain_65 : decode cX3_ofTrain 65 = .ok (.aload_n 0, 1) := by decide +kernel
theorem dX3_ofTrain_66 : decode cX3_ofTrain 66 = .ok (.getfield 10, 3) := by decide +kernel
theorem dX3_ofTrain_69 : decode cX3_ofTrain 69 = .ok (.getfield 80, 3) := by decide +kernel
theorem dX3_ofTrain_72 : decode cX3_ofTrain 72 = .ok (.iload_n 1, 1) := by decide +kernel
theorem dX3_ofTrain_73 : decode cX3_ofTrain 73 = .ok (.aaload, 1) := by decide +kernel
theorem dX3_ofTrain_74 : decode cX3_ofTrain 74 = .ok (.iload_n 2, 1) := by decide +kernel
theorem dX3_ofTrain_75 : decode cX3_ofTrain 75 = .ok (.invokevirtual 125, 3) := by decide +kernel
theorem dX3_ofTrain_78 : decode cX3_ofTrain 78 = .ok (.goto 16, 3) := by decide +kernel
theorem dX3_ofTrain_81 : decode cX3_ofTrain 81 = .ok (.aload_n 0, 1) := by decide +kernel
theorem dX3_ofTrain_82 : decode cX3_ofTrain 82 = .ok (.getfield 10, 3) := by decide +kernel
theorem dX3_ofTrain_85 : decode cX3_ofTrain 85 = .ok (.getfield 80, 3) := by decide +kernel
theorem dX3_ofTrain_88 : decode cX3_ofTrain 88 = .ok (.iload_n 1, 1) := by decide +kernel
theorem dX3_ofTrain_89 : decode cX3_ofTrain 89 = .ok (.aaload, 1) := by decide +kernel
theorem dX3_ofTrain_90 : decode cX3_ofTrain 90 = .ok (.iload_n 2, 1) := by decide +kernel
theorem dX3_ofTrain_91 : decode cX3_ofTrain 91 = .ok (.invokevirtual 128, 3) := by decide +kernel
theorem dX3_ofTrain_94 : decode cX3_ofTrain 94 = .ok (.ireturn, 1) := by decide +kernel
set_option maxRecDepth 20000 in
theorem ggX3_stops_X3_needTrain : GoodIn wsX3_stops wsX3_needTrain := goodIn_ca (goodIn_r _ [7, 1, 8, 9, 10, 6, 11, 12, 13, 40, 41, 42, 43, 44, 45] (by decide +kernel) (by decide +kernel)) (goodIn_sub (fun _ h => List.mem_cons_of_mem _ (List.mem_append_left _ (List.mem_append_right _ h))) (by decide +kernel))
set_option maxRecDepth 20000 in
theorem gX3_stops_X3_needTrain : GoodIn wsX3_stops (wsV RX3 77 RX3 yX3_needTrain wsX3_needTrain) := goodIn_app (goodIn_of _ (by decide +kernel)) ggX3_stops_X3_needTrain
set_option maxRecDepth 20000 in
theorem ggX3_stops_X3_isWithin : GoodIn wsX3_stops wsX3_isWithin := goodIn_r _ [16] (by decide +kernel) (by decide +kernel)
set_option maxRecDepth 20000 in
theorem gX3_stops_X3_isWithin : GoodIn wsX3_stops (va_wsS RX3 23 yX3_isWithin wsX3_isWithin) := goodIn_app (goodIn_of _ (by decide +kernel)) ggX3_stops_X3_isWithin
set_option maxRecDepth 20000 in
theorem ggX3_stops_X3_need : GoodIn wsX3_stops wsX3_need := goodIn_ca (goodIn_r _ [19, 20, 21] (by decide +kernel) (by decide +kernel)) (goodIn_sub (fun _ h => List.mem_cons_of_mem _ (List.mem_append_right _ h)) (by decide +kernel))
set_option maxRecDepth 20000 in
theorem gX3_stops_X3_need : GoodIn wsX3_stops (va_wsS RX3 27 yX3_need wsX3_need) := goodIn_app (goodIn_of _ (by decide +kernel)) ggX3_stops_X3_need
set_option maxRecDepth 20000 in
theorem ggX3_stops_X0_holdOf : GoodIn wsX3_stops wsX0_holdOf := goodIn_r _ [26, 27, 28, 29, 30, 31, 32, 33, 34, 35, 6, 36, 46, 47, 48, 49, 50, 51, 52, 53, 54, 55, 56, 57, 58, 59, 60, 61, 62, 63, 42, 43, 44, 45, 64, 65, 66, 67, 68, 69, 70, 71, 72, 73] (by decide +kernel) (by decide +kernel)
set_option maxRecDepth 20000 in
theorem gX3_stops_X0_holdOf : GoodIn wsX3_stops (wsV RX3 131 RX0 yX0_holdOf wsX0_holdOf) := goodIn_app (goodIn_of _ (by decide +kernel)) ggX3_stops_X0_holdOf
set_option maxRecDepth 20000 in
theorem ggX3_stops_X3_stopMetres : GoodIn wsX3_stops wsX3_stopMetres := goodIn_r _ [39] (by decide +kernel) (by decide +kernel)
set_option maxRecDepth 20000 in
theorem gX3_stops_X3_stopMetres : GoodIn wsX3_stops (va_wsS RX3 135 yX3_stopMetres wsX3_stopMetres) := goodIn_app (goodIn_of _ (by decide +kernel)) ggX3_stops_X3_stopMetres
theorem dX3_stops_0 : decode cX3_stops 0 = .ok (.aload_n 0, 1) := by decide +kernel
theorem dX3_stops_1 : decode cX3_stops 1 = .ok (.iload_n 1, 1) := by decide +kernel
theorem dX3_stops_2 : decode cX3_stops 2 = .ok (.invokevirtual 77, 3) := by decide +kernel
theorem dX3_stops_5 : decode cX3_stops 5 = .ok (.iload_n 2, 1) := by decide +kernel
theorem dX3_stops_6 : decode cX3_stops 6 = .ok (.iconst 0, 1) := by decide +kernel
theorem dX3_stops_7 : decode cX3_stops 7 = .ok (.bipush 40, 2) := by decide +kernel
theorem dX3_stops_9 : decode cX3_stops 9 = .ok (.invokestatic 23, 3) := by decide +kernel
theorem dX3_stops_12 : decode cX3_stops 12 = .ok (.invokestatic 27, 3) := by decide +kernel
theorem dX3_stops_15 : decode cX3_stops 15 = .ok (.iload_n 2, 1) := by decide +kernel
theorem dX3_stops_16 : decode cX3_stops 16 = .ok (.aload_n 0, 1) := by decide +kernel
theorem dX3_stops_17 : decode cX3_stops 17 = .ok (.getfield 10, 3) := by decide +kernel
theorem dX3_stops_20 : decode cX3_stops 20 = .ok (.aload_n 0, 1) := by decide +kernel
theorem dX3_stops_21 : decode cX3_stops 21 = .ok (.getfield 10, 3) := by decide +kernel
theorem dX3_stops_24 : decode cX3_stops 24 = .ok (.getfield 80, 3) := by decide +kernel
theorem dX3_stops_27 : decode cX3_stops 27 = .ok (.iload_n 1, 1) := by decide +kernel
theorem dX3_stops_28 : decode cX3_stops 28 = .ok (.aaload, 1) := by decide +kernel
theorem dX3_stops_29 : decode cX3_stops 29 = .ok (.invokevirtual 131, 3) := by decide +kernel
theorem dX3_stops_32 : decode cX3_stops 32 = .ok (.invokestatic 135, 3) := by decide +kernel
theorem dX3_stops_35 : decode cX3_stops 35 = .ok (.ireturn, 1) := by decide +kernel
set_option maxRecDepth 20000 in
theorem ggX3_may_X3_needTrain : GoodIn wsX3_may wsX3_needTrain := goodIn_ca (goodIn_r _ [8, 1, 9, 10, 11, 7, 12, 13, 14, 62, 63, 64, 65, 66, 67] (by decide +kernel) (by decide +kernel)) (goodIn_sub (fun _ h => List.mem_cons_of_mem _ (List.mem_append_right _ h)) (by decide +kernel))
set_option maxRecDepth 20000 in
theorem gX3_may_X3_needTrain : GoodIn wsX3_may (wsV RX3 77 RX3 yX3_needTrain wsX3_needTrain) := goodIn_app (goodIn_of _ (by decide +kernel)) ggX3_may_X3_needTrain
set_option maxRecDepth 20000 in
theorem ggX3_may_X0_allowedSpeed : GoodIn wsX3_may wsX0_allowedSpeed := goodIn_r _ [19, 20, 21, 22, 23, 24, 25, 26, 27, 28, 29, 30, 31, 32, 33, 34, 35, 36, 37, 38, 18, 39, 40, 41, 42, 43, 44, 45, 7, 46, 47, 48, 49, 50, 51, 52, 53, 54, 55, 56, 57, 58, 59, 60, 61, 68, 69, 70, 71, 72, 73, 74, 75, 76, 77, 78, 79, 80, 81, 82, 83, 84, 85, 64, 65, 66, 67, 86, 87, 88, 89, 90, 91, 92, 93, 94, 95] (by decide +kernel) (by decide +kernel)
set_option maxRecDepth 20000 in
theorem gX3_may_X0_allowedSpeed : GoodIn wsX3_may (wsV RX3 141 RX0 yX0_allowedSpeed wsX0_allowedSpeed) := goodIn_app (goodIn_of _ (by decide +kernel)) ggX3_may_X0_allowedSpeed
theorem dX3_may_0 : decode cX3_may 0 = .ok (.aload_n 0, 1) := by decide +kernel
theorem dX3_may_1 : decode cX3_may 1 = .ok (.iload_n 1, 1) := by decide +kernel
theorem dX3_may_2 : decode cX3_may 2 = .ok (.invokevirtual 77, 3) := by decide +kernel
theorem dX3_may_5 : decode cX3_may 5 = .ok (.aload_n 0, 1) := by decide +kernel
theorem dX3_may_6 : decode cX3_may 6 = .ok (.getfield 10, 3) := by decide +kernel
theorem dX3_may_9 : decode cX3_may 9 = .ok (.getfield 80, 3) := by decide +kernel
theorem dX3_may_12 : decode cX3_may 12 = .ok (.iload_n 1, 1) := by decide +kernel
theorem dX3_may_13 : decode cX3_may 13 = .ok (.aaload, 1) := by decide +kernel
theorem dX3_may_14 : decode cX3_may 14 = .ok (.getfield 138, 3) := by decide +kernel
theorem dX3_may_17 : decode cX3_may 17 = .ok (.ifCond .eq 7, 3) := by decide +kernel
theorem dX3_may_20 : decode cX3_may 20 = .ok (.iconst 0, 1) := by decide +kernel
theorem dX3_may_21 : decode cX3_may 21 = .ok (.goto 19, 3) := by decide +kernel
theorem dX3_may_24 : decode cX3_may 24 = .ok (.aload_n 0, 1) := by decide +kernel
theorem dX3_may_25 : decode cX3_may 25 = .ok (.getfield 10, 3) := by decide +kernel
theorem dX3_may_28 : decode cX3_may 28 = .ok (.aload_n 0, 1) := by decide +kernel
theorem dX3_may_29 : decode cX3_may 29 = .ok (.getfield 10, 3) := by decide +kernel
theorem dX3_may_32 : decode cX3_may 32 = .ok (.getfield 80, 3) := by decide +kernel
theorem dX3_may_35 : decode cX3_may 35 = .ok (.iload_n 1, 1) := by decide +kernel
theorem dX3_may_36 : decode cX3_may 36 = .ok (.aaload, 1) := by decide +kernel
theorem dX3_may_37 : decode cX3_may 37 = .ok (.invokevirtual 141, 3) := by decide +kernel
theorem dX3_may_40 : decode cX3_may 40 = .ok (.ireturn, 1) := by decide +kernel
set_option maxRecDepth 20000 in
theorem ggX3_why_X3_needTrain : GoodIn wsX3_why wsX3_needTrain := goodIn_ca (goodIn_r _ [8, 1, 9, 10, 11, 7, 12, 13, 14, 66, 67, 68, 69, 70, 71] (by decide +kernel) (by decide +kernel)) (goodIn_sub (fun _ h => List.mem_cons_of_mem _ (List.mem_append_right _ h)) (by decide +kernel))
set_option maxRecDepth 20000 in
theorem gX3_why_X3_needTrain : GoodIn wsX3_why (wsV RX3 77 RX3 yX3_needTrain wsX3_needTrain) := goodIn_app (goodIn_of _ (by decide +kernel)) ggX3_why_X3_needTrain
set_option maxRecDepth 20000 in
theorem ggX3_why_X0_reasonOf : GoodIn wsX3_why wsX0_reasonOf := goodIn_r _ [19, 20, 21, 22, 23, 24, 18, 25, 26, 27, 28, 29, 30, 31, 32, 33, 34, 35, 36, 37, 38, 39, 40, 41, 42, 43, 44, 45, 46, 47, 48, 49, 50, 51, 52, 53, 7, 54, 55, 56, 57, 58, 59, 60, 61, 62, 63, 64, 65, 68, 69, 70, 71, 72, 73, 74, 75, 76, 77, 78, 79, 80, 81, 82, 83, 84, 85, 86, 87, 88, 89, 90, 91, 92, 93, 94, 95, 96, 97, 98, 99] (by decide +kernel) (by decide +kernel)
set_option maxRecDepth 20000 in
theorem gX3_why_X0_reasonOf : GoodIn wsX3_why (wsV RX3 144 RX0 yX0_reasonOf wsX0_reasonOf) := goodIn_app (goodIn_of _ (by decide +kernel)) ggX3_why_X0_reasonOf
theorem dX3_why_0 : decode cX3_why 0 = .ok (.aload_n 0, 1) := by decide +kernel
theorem dX3_why_1 : decode cX3_why 1 = .ok (.iload_n 1, 1) := by decide +kernel
theorem dX3_why_2 : decode cX3_why 2 = .ok (.invokevirtual 77, 3) := by decide +kernel
theorem dX3_why_5 : decode cX3_why 5 = .ok (.aload_n 0, 1) := by decide +kernel
theorem dX3_why_6 : decode cX3_why 6 = .ok (.getfield 10, 3) := by decide +kernel
theorem dX3_why_9 : decode cX3_why 9 = .ok (.getfield 80, 3) := by decide +kernel
theorem dX3_why_12 : decode cX3_why 12 = .ok (.iload_n 1, 1) := by decide +kernel
theorem dX3_why_13 : decode cX3_why 13 = .ok (.aaload, 1) := by decide +kernel
theorem dX3_why_14 : decode cX3_why 14 = .ok (.getfield 138, 3) := by decide +kernel
theorem dX3_why_17 : decode cX3_why 17 = .ok (.ifCond .eq 7, 3) := by decide +kernel
theorem dX3_why_20 : decode cX3_why 20 = .ok (.iconst (-1), 1) := by decide +kernel
theorem dX3_why_21 : decode cX3_why 21 = .ok (.goto 11, 3) := by decide +kernel
theorem dX3_why_24 : decode cX3_why 24 = .ok (.aload_n 0, 1) := by decide +kernel
theorem dX3_why_25 : decode cX3_why 25 = .ok (.getfield 10, 3) := by decide +kernel
theorem dX3_why_28 : decode cX3_why 28 = .ok (.iload_n 1, 1) := by decide +kernel
theorem dX3_why_29 : decode cX3_why 29 = .ok (.invokevirtual 144, 3) := by decide +kernel
theorem dX3_why_32 : decode cX3_why 32 = .ok (.ireturn, 1) := by decide +kernel
set_option maxRecDepth 20000 in
theorem ggX3_ofStation_X3_needIndex : GoodIn wsX3_ofStation wsX3_needIndex := goodIn_ca (goodIn_r _ [10, 11, 12] (by decide +kernel) (by decide +kernel)) (goodIn_sub (fun _ h => List.mem_cons_of_mem _ (List.mem_append_left _ (List.mem_append_right _ h))) (by decide +kernel))
set_option maxRecDepth 20000 in
theorem gX3_ofStation_X3_needIndex : GoodIn wsX3_ofStation (va_wsS RX3 99 yX3_needIndex wsX3_needIndex) := goodIn_app (goodIn_of _ (by decide +kernel)) ggX3_ofStation_X3_needIndex
set_option maxRecDepth 20000 in
theorem ggX3_ofStation_X3_isWithin : GoodIn wsX3_ofStation wsX3_isWithin := goodIn_r _ [15] (by decide +kernel) (by decide +kernel)
set_option maxRecDepth 20000 in
theorem gX3_ofStation_X3_isWithin : GoodIn wsX3_ofStation (va_wsS RX3 23 yX3_isWithin wsX3_isWithin) := goodIn_app (goodIn_of _ (by decide +kernel)) ggX3_ofStation_X3_isWithin
set_option maxRecDepth 20000 in
theorem ggX3_ofStation_X3_need : GoodIn wsX3_ofStation wsX3_need := goodIn_ca (goodIn_r _ [18, 19, 20] (by decide +kernel) (by decide +kernel)) (goodIn_sub (fun _ h => List.mem_cons_of_mem _ (List.mem_append_right _ h)) (by decide +kernel))
set_option maxRecDepth 20000 in
theorem gX3_ofStation_X3_need : GoodIn wsX3_ofStation (va_wsS RX3 27 yX3_need wsX3_need) := goodIn_app (goodIn_of _ (by decide +kernel)) ggX3_ofStation_X3_need
theorem dX3_ofStation_0 : decode cX3_ofStation 0 = .ok (.iload_n 1, 1) := by decide +kernel
theorem dX3_ofStation_1 : decode cX3_ofStation 1 = .ok (.aload_n 0, 1) := by decide +kernel
theorem dX3_ofStation_2 : decode cX3_ofStation 2 = .ok (.getfield 10, 3) := by decide +kernel
theorem dX3_ofStation_5 : decode cX3_ofStation 5 = .ok (.getfield 31, 3) := by decide +kernel
theorem dX3_ofStation_8 : decode cX3_ofStation 8 = .ok (.getfield 52, 3) := by decide +kernel
theorem dX3_ofStation_11 : decode cX3_ofStation 11 = .ok (.invokestatic 99, 3) := by decide +kernel
theorem dX3_ofStation_14 : decode cX3_ofStation 14 = .ok (.iload_n 2, 1) := by decide +kernel
theorem dX3_ofStation_15 : decode cX3_ofStation 15 = .ok (.iconst 0, 1) := by decide +kernel
theorem dX3_ofStation_16 : decode cX3_ofStation 16 = .ok (.iconst 2, 1) := by decide +kernel
theorem dX3_ofStation_17 : decode cX3_ofStation 17 = .ok (.invokestatic 23, 3) := by decide +kernel
theorem dX3_ofStation_20 : decode cX3_ofStation 20 = .ok (.invokestatic 27, 3) := by decide +kernel
theorem dX3_ofStation_23 : decode cX3_ofStation 23 = .ok (.iload_n 2, 1) := by decide +kernel
theorem dX3_ofStation_24 : decode cX3_ofStation 24 = .ok (.lookupswitch 54 #[(0, 28), (1, 41)], 28) := by decide +kernel
theorem dX3_ofStation_52 : decode cX3_ofStation 52 = .ok (.aload_n 0, 1) := by decide +kernel
theorem dX3_ofStation_53 : decode cX3_ofStation 53 = .ok (.getfield 10, 3) := by decide +kernel
theorem dX3_ofStation_56 : decode cX3_ofStation 56 = .ok (.getfield 31, 3) := by decide +kernel
theorem dX3_ofStation_59 : decode cX3_ofStation 59 = .ok (.getfield 147, 3) := by decide +kernel
theorem dX3_ofStation_62 : decode cX3_ofStation 62 = .ok (.iload_n 1, 1) := by decide +kernel
theorem dX3_ofStation_63 : decode cX3_ofStation 63 = .ok (.iaload, 1) := by decide +kernel
theorem dX3_ofStation_64 : decode cX3_ofStation 64 = .ok (.ireturn, 1) := by decide +kernel
theorem dX3_ofStation_65 : decode cX3_ofStation 65 = .ok (.aload_n 0, 1) := by decide +kernel
theorem dX3_ofStation_66 : decode cX3_ofStation 66 = .ok (.getfield 10, 3) := by decide +kernel
theorem dX3_ofStation_69 : decode cX3_ofStation 69 = .ok (.getfield 31, 3) := by decide +kernel
theorem dX3_ofStation_72 : decode cX3_ofStation 72 = .ok (.getfield 150, 3) := by decide +kernel
theorem dX3_ofStation_75 : decode cX3_ofStation 75 = .ok (.iload_n 1, 1) := by decide +kernel
theorem dX3_ofStation_76 : decode cX3_ofStation 76 = .ok (.iaload, 1) := by decide +kernel
theorem dX3_ofStation_77 : decode cX3_ofStation 77 = .ok (.ireturn, 1) := by decide +kernel
theorem dX3_ofStation_78 : decode cX3_ofStation 78 = .ok (.aload_n 0, 1) := by decide +kernel
theorem dX3_ofStation_79 : decode cX3_ofStation 79 = .ok (.getfield 10, 3) := by decide +kernel
theorem dX3_ofStation_82 : decode cX3_ofStation 82 = .ok (.getfield 31, 3) := by decide +kernel
theorem dX3_ofStation_85 : decode cX3_ofStation 85 = .ok (.getfield 153, 3) := by decide +kernel
theorem dX3_ofStation_88 : decode cX3_ofStation 88 = .ok (.iload_n 1, 1) := by decide +kernel
theorem dX3_ofStation_89 : decode cX3_ofStation 89 = .ok (.iaload, 1) := by decide +kernel
theorem dX3_ofStation_90 : decode cX3_ofStation 90 = .ok (.ireturn, 1) := by decide +kernel
set_option maxRecDepth 20000 in
theorem ggX3_many_X3_isWithin : GoodIn wsX3_many wsX3_isWithin := goodIn_r _ [10] (by decide +kernel) (by decide +kernel)
set_option maxRecDepth 20000 in
theorem gX3_many_X3_isWithin : GoodIn wsX3_many (va_wsS RX3 23 yX3_isWithin wsX3_isWithin) := goodIn_app (goodIn_of _ (by decide +kernel)) ggX3_many_X3_isWithin
set_option maxRecDepth 20000 in
theorem ggX3_many_X3_need : GoodIn wsX3_many wsX3_need := goodIn_ca (goodIn_r _ [13, 14, 15] (by decide +kernel) (by decide +kernel)) (goodIn_sub (fun _ h => List.mem_cons_of_mem _ (List.mem_append_right _ h)) (by decide +kernel))
set_option maxRecDepth 20000 in
theorem gX3_many_X3_need : GoodIn wsX3_many (va_wsS RX3 27 yX3_need wsX3_need) := goodIn_app (goodIn_of _ (by decide +kernel)) ggX3_many_X3_need
set_option maxRecDepth 20000 in
theorem ggX3_many_X0_countPresent : GoodIn wsX3_many wsX0_countPresent := goodIn_r _ [20, 21, 22, 23, 45, 46, 47, 48, 59, 60, 61, 62, 63, 64, 65, 66, 67, 68, 69, 70, 71, 72, 73, 74, 75, 76] (by decide +kernel) (by decide +kernel)
set_option maxRecDepth 20000 in
theorem gX3_many_X0_countPresent : GoodIn wsX3_many (wsV RX3 56 RX0 yX0_countPresent wsX0_countPresent) := goodIn_app (goodIn_of _ (by decide +kernel)) ggX3_many_X0_countPresent
set_option maxRecDepth 20000 in
theorem ggX3_many_X0_countCrashed : GoodIn wsX3_many wsX0_countCrashed := goodIn_r _ [27, 21, 22, 28, 45, 46, 47, 48, 59, 60, 61, 62, 63, 64, 65, 66, 67, 68, 69, 70, 71, 72, 73, 74, 75, 76] (by decide +kernel) (by decide +kernel)
set_option maxRecDepth 20000 in
theorem gX3_many_X0_countCrashed : GoodIn wsX3_many (wsV RX3 159 RX0 yX0_countCrashed wsX0_countCrashed) := goodIn_app (goodIn_of _ (by decide +kernel)) ggX3_many_X0_countCrashed
set_option maxRecDepth 20000 in
theorem ggX3_many_X0_total : GoodIn wsX3_many wsX0_total := goodIn_r _ [32, 21, 22, 33, 34, 35, 36, 37, 38, 39, 40, 41, 42, 45, 46, 47, 48, 59, 60, 61, 62, 63, 64, 65, 66, 67, 68, 69, 70, 71, 72, 73, 74, 75, 76] (by decide +kernel) (by decide +kernel)
set_option maxRecDepth 20000 in
theorem gX3_many_X0_total : GoodIn wsX3_many (wsV RX3 162 RX0 yX0_total wsX0_total) := goodIn_app (goodIn_of _ (by decide +kernel)) ggX3_many_X0_total
theorem dX3_many_0 : decode cX3_many 0 = .ok (.iload_n 1, 1) := by decide +kernel
theorem dX3_many_1 : decode cX3_many 1 = .ok (.iconst 0, 1) := by decide +kernel
theorem dX3_many_2 : decode cX3_many 2 = .ok (.bipush 9, 2) := by decide +kernel
theorem dX3_many_4 : decode cX3_many 4 = .ok (.invokestatic 23, 3) := by decide +kernel
theorem dX3_many_7 : decode cX3_many 7 = .ok (.invokestatic 27, 3) := by decide +kernel
theorem dX3_many_10 : decode cX3_many 10 = .ok (.iload_n 1, 1) := by decide +kernel
theorem dX3_many_11 : decode cX3_many 11 = .ok (.tableswitch 99 0 5 #[37, 45, 53, 69, 77, 88], 37) := by decide +kernel
theorem dX3_many_48 : decode cX3_many 48 = .ok (.aload_n 0, 1) := by decide +kernel
theorem dX3_many_49 : decode cX3_many 49 = .ok (.getfield 10, 3) := by decide +kernel
theorem dX3_many_52 : decode cX3_many 52 = .ok (.getfield 156, 3) := by decide +kernel
theorem dX3_many_55 : decode cX3_many 55 = .ok (.ireturn, 1) := by decide +kernel
theorem dX3_many_56 : decode cX3_many 56 = .ok (.aload_n 0, 1) := by decide +kernel
theorem dX3_many_57 : decode cX3_many 57 = .ok (.getfield 10, 3) := by decide +kernel
theorem dX3_many_60 : decode cX3_many 60 = .ok (.getfield 67, 3) := by decide +kernel
theorem dX3_many_63 : decode cX3_many 63 = .ok (.ireturn, 1) := by decide +kernel
theorem dX3_many_64 : decode cX3_many 64 = .ok (.aload_n 0, 1) := by decide +kernel
theorem dX3_many_65 : decode cX3_many 65 = .ok (.getfield 10, 3) := by decide +kernel
theorem dX3_many_68 : decode cX3_many 68 = .ok (.getfield 67, 3) := by decide +kernel
theorem dX3_many_71 : decode cX3_many 71 = .ok (.aload_n 0, 1) := by decide +kernel
theorem dX3_many_72 : decode cX3_many 72 = .ok (.getfield 10, 3) := by decide +kernel
theorem dX3_many_75 : decode cX3_many 75 = .ok (.invokevirtual 56, 3) := by decide +kernel
theorem dX3_many_78 : decode cX3_many 78 = .ok (.isub, 1) := by decide +kernel
theorem dX3_many_79 : decode cX3_many 79 = .ok (.ireturn, 1) := by decide +kernel
theorem dX3_many_80 : decode cX3_many 80 = .ok (.aload_n 0, 1) := by decide +kernel
theorem dX3_many_81 : decode cX3_many 81 = .ok (.getfield 10, 3) := by decide +kernel
theorem dX3_many_84 : decode cX3_many 84 = .ok (.invokevirtual 159, 3) := by decide +kernel
theorem dX3_many_87 : decode cX3_many 87 = .ok (.ireturn, 1) := by decide +kernel
theorem dX3_many_88 : decode cX3_many 88 = .ok (.aload_n 0, 1) := by decide +kernel
theorem dX3_many_89 : decode cX3_many 89 = .ok (.getfield 10, 3) := by decide +kernel
theorem dX3_many_92 : decode cX3_many 92 = .ok (.getfield 31, 3) := by decide +kernel
theorem dX3_many_95 : decode cX3_many 95 = .ok (.getfield 52, 3) := by decide +kernel
theorem dX3_many_98 : decode cX3_many 98 = .ok (.ireturn, 1) := by decide +kernel
theorem dX3_many_99 : decode cX3_many 99 = .ok (.aload_n 0, 1) := by decide +kernel
theorem dX3_many_100 : decode cX3_many 100 = .ok (.getfield 10, 3) := by decide +kernel
theorem dX3_many_103 : decode cX3_many 103 = .ok (.getfield 31, 3) := by decide +kernel
theorem dX3_many_106 : decode cX3_many 106 = .ok (.getfield 90, 3) := by decide +kernel
theorem dX3_many_109 : decode cX3_many 109 = .ok (.ireturn, 1) := by decide +kernel
theorem dX3_many_110 : decode cX3_many 110 = .ok (.aload_n 0, 1) := by decide +kernel
theorem dX3_many_111 : decode cX3_many 111 = .ok (.getfield 10, 3) := by decide +kernel
theorem dX3_many_114 : decode cX3_many 114 = .ok (.iload_n 1, 1) := by decide +kernel
theorem dX3_many_115 : decode cX3_many 115 = .ok (.invokevirtual 162, 3) := by decide +kernel
theorem dX3_many_118 : decode cX3_many 118 = .ok (.ireturn, 1) := by decide +kernel
set_option maxRecDepth 20000 in
theorem ggX3_meanSpeed_X0_countPresent : GoodIn wsX3_meanSpeed wsX0_countPresent := goodIn_r _ [6, 7, 8, 9, 17, 18, 19, 20, 21, 22, 23, 24, 25, 26, 27, 28, 29, 30, 31, 32, 33, 34, 35, 36, 37, 38] (by decide +kernel) (by decide +kernel)
set_option maxRecDepth 20000 in
theorem gX3_meanSpeed_X0_countPresent : GoodIn wsX3_meanSpeed (wsV RX3 56 RX0 yX0_countPresent wsX0_countPresent) := goodIn_app (goodIn_of _ (by decide +kernel)) ggX3_meanSpeed_X0_countPresent
set_option maxRecDepth 20000 in
theorem ggX3_meanSpeed_X0_sumOfSpeeds : GoodIn wsX3_meanSpeed wsX0_sumOfSpeeds := goodIn_r _ [13, 7, 8, 14, 17, 18, 19, 20, 21, 22, 23, 24, 25, 26, 27, 28, 29, 30, 31, 32, 33, 34, 35, 36, 37, 38] (by decide +kernel) (by decide +kernel)
set_option maxRecDepth 20000 in
theorem gX3_meanSpeed_X0_sumOfSpeeds : GoodIn wsX3_meanSpeed (wsV RX3 165 RX0 yX0_sumOfSpeeds wsX0_sumOfSpeeds) := goodIn_app (goodIn_of _ (by decide +kernel)) ggX3_meanSpeed_X0_sumOfSpeeds
theorem dX3_meanSpeed_0 : decode cX3_meanSpeed 0 = .ok (.aload_n 0, 1) := by decide +kernel
theorem dX3_meanSpeed_1 : decode cX3_meanSpeed 1 = .ok (.getfield 10, 3) := by decide +kernel
theorem dX3_meanSpeed_4 : decode cX3_meanSpeed 4 = .ok (.invokevirtual 56, 3) := by decide +kernel
theorem dX3_meanSpeed_7 : decode cX3_meanSpeed 7 = .ok (.istore_n 1, 1) := by decide +kernel
theorem dX3_meanSpeed_8 : decode cX3_meanSpeed 8 = .ok (.iload_n 1, 1) := by decide +kernel
theorem dX3_meanSpeed_9 : decode cX3_meanSpeed 9 = .ok (.ifCond .ne 7, 3) := by decide +kernel
theorem dX3_meanSpeed_12 : decode cX3_meanSpeed 12 = .ok (.dconst 0, 1) := by decide +kernel
theorem dX3_meanSpeed_13 : decode cX3_meanSpeed 13 = .ok (.goto 14, 3) := by decide +kernel
theorem dX3_meanSpeed_16 : decode cX3_meanSpeed 16 = .ok (.aload_n 0, 1) := by decide +kernel
theorem dX3_meanSpeed_17 : decode cX3_meanSpeed 17 = .ok (.getfield 10, 3) := by decide +kernel
theorem dX3_meanSpeed_20 : decode cX3_meanSpeed 20 = .ok (.invokevirtual 165, 3) := by decide +kernel
theorem dX3_meanSpeed_23 : decode cX3_meanSpeed 23 = .ok (.i2d, 1) := by decide +kernel
theorem dX3_meanSpeed_24 : decode cX3_meanSpeed 24 = .ok (.iload_n 1, 1) := by decide +kernel
theorem dX3_meanSpeed_25 : decode cX3_meanSpeed 25 = .ok (.i2d, 1) := by decide +kernel
theorem dX3_meanSpeed_26 : decode cX3_meanSpeed 26 = .ok (.ddiv, 1) := by decide +kernel
theorem dX3_meanSpeed_27 : decode cX3_meanSpeed 27 = .ok (.dreturn, 1) := by decide +kernel
set_option maxRecDepth 20000 in
theorem ggX3_reaches_X3_needTrain : GoodIn wsX3_reaches wsX3_needTrain := goodIn_ca (goodIn_r _ [9, 1, 10, 11, 12, 8, 13, 14, 15, 204, 205, 206, 207, 208, 209] (by decide +kernel) (by decide +kernel)) (goodIn_sub (fun _ h => List.mem_cons_of_mem _ (List.mem_append_left _ (List.mem_append_right _ h))) (by decide +kernel))
set_option maxRecDepth 20000 in
theorem gX3_reaches_X3_needTrain : GoodIn wsX3_reaches (wsV RX3 77 RX3 yX3_needTrain wsX3_needTrain) := goodIn_app (goodIn_of _ (by decide +kernel)) ggX3_reaches_X3_needTrain
set_option maxRecDepth 20000 in
theorem ggX3_reaches_X3_isWithin : GoodIn wsX3_reaches wsX3_isWithin := goodIn_r _ [18] (by decide +kernel) (by decide +kernel)
set_option maxRecDepth 20000 in
theorem gX3_reaches_X3_isWithin : GoodIn wsX3_reaches (va_wsS RX3 23 yX3_isWithin wsX3_isWithin) := goodIn_app (goodIn_of _ (by decide +kernel)) ggX3_reaches_X3_isWithin
set_option maxRecDepth 20000 in
theorem ggX3_reaches_X3_need : GoodIn wsX3_reaches wsX3_need := goodIn_ca (goodIn_r _ [21, 22, 23] (by decide +kernel) (by decide +kernel)) (goodIn_sub (fun _ h => List.mem_cons_of_mem _ (List.mem_append_right _ h)) (by decide +kernel))
set_option maxRecDepth 20000 in
theorem gX3_reaches_X3_need : GoodIn wsX3_reaches (va_wsS RX3 27 yX3_need wsX3_need) := goodIn_app (goodIn_of _ (by decide +kernel)) ggX3_reaches_X3_need
set_option maxRecDepth 20000 in
theorem ggX3_reaches_X0_copyFrom : GoodIn wsX3_reaches wsX0_copyFrom := goodIn_r _ [28, 29, 30, 31, 32, 33, 34, 35, 36, 37, 38, 39, 40, 41, 42, 43, 44, 45, 46, 47, 48, 49, 50, 51, 52, 53, 54, 55, 56, 57, 58, 59, 60, 61, 62, 63, 64, 65, 66, 67, 68, 69, 70, 206, 207, 208, 209, 228, 229, 230, 231, 232, 233, 234, 235, 236, 237, 210, 211, 212, 213, 214, 215, 216, 217, 218, 219, 220, 221, 222, 223, 224, 225, 226, 227] (by decide +kernel) (by decide +kernel)
set_option maxRecDepth 20000 in
theorem gX3_reaches_X0_copyFrom : GoodIn wsX3_reaches (wsV RX3 171 RX0 yX0_copyFrom wsX0_copyFrom) := goodIn_app (goodIn_of _ (by decide +kernel)) ggX3_reaches_X0_copyFrom
set_option maxRecDepth 20000 in
theorem ggX3_reaches_X0_goOn : GoodIn wsX3_reaches wsX0_goOn := goodIn_r _ [74, 32, 31, 30, 75, 76, 77, 78, 79, 80, 81, 82, 83, 84, 85, 27, 86, 87, 88, 89, 90, 29, 91, 92, 8, 93, 94, 95, 96, 51, 97, 57, 64, 56, 65, 66, 98, 99, 100, 101, 53, 102, 103, 104, 105, 106, 107, 108, 109, 110, 111, 112, 113, 114, 115, 116, 117, 118, 119, 120, 121, 122, 123, 124, 125, 126, 127, 128, 129, 130, 131, 132, 133, 36, 134, 135, 47, 45, 136, 137, 138, 139, 140, 141, 142, 143, 144, 145, 146, 147, 148, 149, 150, 151, 152, 153, 154, 44, 41, 155, 156, 157, 158, 159, 160, 161, 162, 163, 164, 165, 38, 166, 167, 168, 169, 170, 171, 172, 173, 174, 175, 176, 177, 178, 179, 180, 181, 182, 183, 184, 185, 186, 187, 188, 189, 190, 191, 192, 193, 194, 195, 196, 197, 198, 199, 63, 58, 200, 201, 202, 203, 206, 207, 208, 209, 210, 211, 212, 213, 214, 215, 216, 217, 218, 219, 220, 221, 222, 223, 224, 225, 226, 227, 228, 229, 230, 231, 232, 233, 234, 235, 236, 237] (by decide +kernel) (by decide +kernel)
set_option maxRecDepth 20000 in
theorem gX3_reaches_X0_goOn : GoodIn wsX3_reaches (wsV RX3 107 RX0 yX0_goOn wsX0_goOn) := goodIn_app (goodIn_of _ (by decide +kernel)) ggX3_reaches_X0_goOn
theorem dX3_reaches_0 : decode cX3_reaches 0 = .ok (.aload_n 0, 1) := by decide +kernel
theorem dX3_reaches_1 : decode cX3_reaches 1 = .ok (.iload_n 1, 1) := by decide +kernel
theorem dX3_reaches_2 : decode cX3_reaches 2 = .ok (.invokevirtual 77, 3) := by decide +kernel
theorem dX3_reaches_5 : decode cX3_reaches 5 = .ok (.iload_n 2, 1) := by decide +kernel
theorem dX3_reaches_6 : decode cX3_reaches 6 = .ok (.iconst 0, 1) := by decide +kernel
theorem dX3_reaches_7 : decode cX3_reaches 7 = .ok (.sipush 2999, 3) := by decide +kernel
theorem dX3_reaches_10 : decode cX3_reaches 10 = .ok (.invokestatic 23, 3) := by decide +kernel
theorem dX3_reaches_13 : decode cX3_reaches 13 = .ok (.ifCond .eq 18, 3) := by decide +kernel
theorem dX3_reaches_16 : decode cX3_reaches 16 = .ok (.iload_n 3, 1) := by decide +kernel
theorem dX3_reaches_17 : decode cX3_reaches 17 = .ok (.iconst 1, 1) := by decide +kernel
theorem dX3_reaches_18 : decode cX3_reaches 18 = .ok (.sipush 600, 3) := by decide +kernel
theorem dX3_reaches_21 : decode cX3_reaches 21 = .ok (.invokestatic 23, 3) := by decide +kernel
theorem dX3_reaches_24 : decode cX3_reaches 24 = .ok (.ifCond .eq 7, 3) := by decide +kernel
theorem dX3_reaches_27 : decode cX3_reaches 27 = .ok (.iconst 1, 1) := by decide +kernel
theorem dX3_reaches_28 : decode cX3_reaches 28 = .ok (.goto 4, 3) := by decide +kernel
theorem dX3_reaches_31 : decode cX3_reaches 31 = .ok (.iconst 0, 1) := by decide +kernel
theorem dX3_reaches_32 : decode cX3_reaches 32 = .ok (.invokestatic 27, 3) := by decide +kernel
theorem dX3_reaches_35 : decode cX3_reaches 35 = .ok (.aload_n 0, 1) := by decide +kernel
theorem dX3_reaches_36 : decode cX3_reaches 36 = .ok (.getfield 10, 3) := by decide +kernel
theorem dX3_reaches_39 : decode cX3_reaches 39 = .ok (.getfield 80, 3) := by decide +kernel
theorem dX3_reaches_42 : decode cX3_reaches 42 = .ok (.iload_n 1, 1) := by decide +kernel
theorem dX3_reaches_43 : decode cX3_reaches 43 = .ok (.aaload, 1) := by decide +kernel
theorem dX3_reaches_44 : decode cX3_reaches 44 = .ok (.getfield 168, 3) := by decide +kernel
theorem dX3_reaches_47 : decode cX3_reaches 47 = .ok (.iload_n 2, 1) := by decide +kernel
theorem dX3_reaches_48 : decode cX3_reaches 48 = .ok (.if_icmp .lt 5, 3) := by decide +kernel
theorem dX3_reaches_51 : decode cX3_reaches 51 = .ok (.iconst 0, 1) := by decide +kernel
theorem dX3_reaches_52 : decode cX3_reaches 52 = .ok (.ireturn, 1) := by decide +kernel
theorem dX3_reaches_53 : decode cX3_reaches 53 = .ok (.aload_n 0, 1) := by decide +kernel
theorem dX3_reaches_54 : decode cX3_reaches 54 = .ok (.getfield 16, 3) := by decide +kernel
theorem dX3_reaches_57 : decode cX3_reaches 57 = .ok (.aload_n 0, 1) := by decide +kernel
theorem dX3_reaches_58 : decode cX3_reaches 58 = .ok (.getfield 10, 3) := by decide +kernel
theorem dX3_reaches_61 : decode cX3_reaches 61 = .ok (.invokevirtual 171, 3) := by decide +kernel
theorem dX3_reaches_64 : decode cX3_reaches 64 = .ok (.iconst 1, 1) := by decide +kernel
theorem dX3_reaches_65 : decode cX3_reaches 65 = .ok (.istore 4, 2) := by decide +kernel
theorem dX3_reaches_67 : decode cX3_reaches 67 = .ok (.iload 4, 2) := by decide +kernel
theorem dX3_reaches_69 : decode cX3_reaches 69 = .ok (.iload_n 3, 1) := by decide +kernel
theorem dX3_reaches_70 : decode cX3_reaches 70 = .ok (.if_icmp .gt 37, 3) := by decide +kernel
theorem dX3_reaches_73 : decode cX3_reaches 73 = .ok (.aload_n 0, 1) := by decide +kernel
theorem dX3_reaches_74 : decode cX3_reaches 74 = .ok (.getfield 16, 3) := by decide +kernel
theorem dX3_reaches_77 : decode cX3_reaches 77 = .ok (.iconst (-1), 1) := by decide +kernel
theorem dX3_reaches_78 : decode cX3_reaches 78 = .ok (.invokevirtual 107, 3) := by decide +kernel
theorem dX3_reaches_81 : decode cX3_reaches 81 = .ok (.pop, 1) := by decide +kernel
theorem dX3_reaches_82 : decode cX3_reaches 82 = .ok (.aload_n 0, 1) := by decide +kernel
theorem dX3_reaches_83 : decode cX3_reaches 83 = .ok (.getfield 16, 3) := by decide +kernel
theorem dX3_reaches_86 : decode cX3_reaches 86 = .ok (.getfield 80, 3) := by decide +kernel
theorem dX3_reaches_89 : decode cX3_reaches 89 = .ok (.iload_n 1, 1) := by decide +kernel
theorem dX3_reaches_90 : decode cX3_reaches 90 = .ok (.aaload, 1) := by decide +kernel
theorem dX3_reaches_91 : decode cX3_reaches 91 = .ok (.getfield 168, 3) := by decide +kernel
theorem dX3_reaches_94 : decode cX3_reaches 94 = .ok (.iload_n 2, 1) := by decide +kernel
theorem dX3_reaches_95 : decode cX3_reaches 95 = .ok (.if_icmp .lt 6, 3) := by decide +kernel
theorem dX3_reaches_98 : decode cX3_reaches 98 = .ok (.iload 4, 2) := by decide +kernel
theorem dX3_reaches_100 : decode cX3_reaches 100 = .ok (.ireturn, 1) := by decide +kernel
theorem dX3_reaches_101 : decode cX3_reaches 101 = .ok (.iinc 4 1, 3) := by decide +kernel
theorem dX3_reaches_104 : decode cX3_reaches 104 = .ok (.goto (-37), 3) := by decide +kernel
theorem dX3_reaches_107 : decode cX3_reaches 107 = .ok (.iconst (-1), 1) := by decide +kernel
theorem dX3_reaches_108 : decode cX3_reaches 108 = .ok (.ireturn, 1) := by decide +kernel
set_option maxRecDepth 20000 in
theorem ggX3_closest_X3_needTrain : GoodIn wsX3_closest wsX3_needTrain := goodIn_ca (goodIn_r _ [11, 1, 12, 13, 14, 10, 15, 16, 17, 212, 213, 214, 215, 216, 217] (by decide +kernel) (by decide +kernel)) (goodIn_sub (fun _ h => List.mem_cons_of_mem _ (List.mem_append_left _ (List.mem_append_right _ h))) (by decide +kernel))
set_option maxRecDepth 20000 in
theorem gX3_closest_X3_needTrain : GoodIn wsX3_closest (wsV RX3 77 RX3 yX3_needTrain wsX3_needTrain) := goodIn_app (goodIn_of _ (by decide +kernel)) ggX3_closest_X3_needTrain
set_option maxRecDepth 20000 in
theorem ggX3_closest_X3_isWithin : GoodIn wsX3_closest wsX3_isWithin := goodIn_r _ [20] (by decide +kernel) (by decide +kernel)
set_option maxRecDepth 20000 in
theorem gX3_closest_X3_isWithin : GoodIn wsX3_closest (va_wsS RX3 23 yX3_isWithin wsX3_isWithin) := goodIn_app (goodIn_of _ (by decide +kernel)) ggX3_closest_X3_isWithin
set_option maxRecDepth 20000 in
theorem ggX3_closest_X3_need : GoodIn wsX3_closest wsX3_need := goodIn_ca (goodIn_r _ [23, 24, 25] (by decide +kernel) (by decide +kernel)) (goodIn_sub (fun _ h => List.mem_cons_of_mem _ (List.mem_append_right _ h)) (by decide +kernel))
set_option maxRecDepth 20000 in
theorem gX3_closest_X3_need : GoodIn wsX3_closest (va_wsS RX3 27 yX3_need wsX3_need) := goodIn_app (goodIn_of _ (by decide +kernel)) ggX3_closest_X3_need
set_option maxRecDepth 20000 in
theorem ggX3_closest_X0_aheadOf : GoodIn wsX3_closest wsX0_aheadOf := goodIn_r _ [30, 31, 32, 214, 215, 216, 217, 218, 219, 220, 221, 222, 223, 224, 225, 226, 227, 228, 229, 230, 231, 232, 233, 234, 235] (by decide +kernel) (by decide +kernel)
set_option maxRecDepth 20000 in
theorem gX3_closest_X0_aheadOf : GoodIn wsX3_closest (wsV RX3 122 RX0 yX0_aheadOf wsX0_aheadOf) := goodIn_app (goodIn_of _ (by decide +kernel)) ggX3_closest_X0_aheadOf
set_option maxRecDepth 20000 in
theorem ggX3_closest_X0_copyFrom : GoodIn wsX3_closest wsX0_copyFrom := goodIn_r _ [36, 37, 31, 38, 39, 40, 41, 42, 43, 44, 45, 46, 47, 48, 49, 50, 51, 52, 53, 54, 55, 56, 57, 58, 59, 60, 61, 62, 63, 64, 65, 66, 67, 68, 69, 70, 71, 72, 73, 74, 75, 76, 77, 214, 215, 216, 217, 236, 237, 238, 239, 240, 241, 242, 243, 244, 245, 218, 219, 220, 221, 222, 223, 224, 225, 226, 227, 228, 229, 230, 231, 232, 233, 234, 235] (by decide +kernel) (by decide +kernel)
set_option maxRecDepth 20000 in
theorem gX3_closest_X0_copyFrom : GoodIn wsX3_closest (wsV RX3 171 RX0 yX0_copyFrom wsX0_copyFrom) := goodIn_app (goodIn_of _ (by decide +kernel)) ggX3_closest_X0_copyFrom
set_option maxRecDepth 20000 in
theorem ggX3_closest_X0_goOn : GoodIn wsX3_closest wsX0_goOn := goodIn_r _ [81, 39, 38, 31, 32, 82, 83, 84, 85, 86, 87, 88, 89, 90, 91, 29, 92, 93, 94, 95, 96, 37, 97, 98, 10, 99, 100, 101, 102, 58, 103, 64, 71, 63, 72, 73, 104, 105, 106, 107, 60, 108, 109, 110, 111, 112, 113, 114, 115, 116, 117, 118, 119, 120, 121, 122, 123, 124, 125, 126, 27, 28, 30, 127, 128, 129, 130, 131, 132, 133, 134, 135, 136, 43, 137, 138, 54, 52, 139, 140, 141, 142, 143, 144, 145, 146, 147, 148, 149, 150, 151, 152, 153, 154, 155, 156, 157, 51, 48, 158, 159, 160, 161, 162, 163, 164, 165, 166, 167, 168, 45, 169, 170, 171, 172, 173, 174, 175, 176, 177, 178, 179, 180, 181, 182, 183, 184, 185, 186, 187, 188, 189, 190, 191, 192, 193, 194, 195, 196, 197, 198, 199, 200, 201, 202, 70, 65, 203, 204, 205, 206, 214, 215, 216, 217, 218, 219, 220, 221, 222, 223, 224, 225, 226, 227, 228, 229, 230, 231, 232, 233, 234, 235, 236, 237, 238, 239, 240, 241, 242, 243, 244, 245] (by decide +kernel) (by decide +kernel)
set_option maxRecDepth 20000 in
theorem gX3_closest_X0_goOn : GoodIn wsX3_closest (wsV RX3 107 RX0 yX0_goOn wsX0_goOn) := goodIn_app (goodIn_of _ (by decide +kernel)) ggX3_closest_X0_goOn
set_option maxRecDepth 20000 in
theorem ggX3_closest_X2_leastGapOrNone : GoodIn wsX3_closest wsX2_leastGapOrNone := goodIn_r _ [210, 77, 211, 218, 219, 220, 221, 222, 223, 224, 225, 226, 227, 228, 229, 230, 231, 232, 233, 234, 235] (by decide +kernel) (by decide +kernel)
set_option maxRecDepth 20000 in
theorem gX3_closest_X2_leastGapOrNone : GoodIn wsX3_closest (wsV RX3 179 RX2 yX2_leastGapOrNone wsX2_leastGapOrNone) := goodIn_app (goodIn_of _ (by decide +kernel)) ggX3_closest_X2_leastGapOrNone
theorem dX3_closest_0 : decode cX3_closest 0 = .ok (.aload_n 0, 1) := by decide +kernel
theorem dX3_closest_1 : decode cX3_closest 1 = .ok (.iload_n 1, 1) := by decide +kernel
theorem dX3_closest_2 : decode cX3_closest 2 = .ok (.invokevirtual 77, 3) := by decide +kernel
theorem dX3_closest_5 : decode cX3_closest 5 = .ok (.iload_n 2, 1) := by decide +kernel
theorem dX3_closest_6 : decode cX3_closest 6 = .ok (.iconst 1, 1) := by decide +kernel
theorem dX3_closest_7 : decode cX3_closest 7 = .ok (.bipush 120, 2) := by decide +kernel
theorem dX3_closest_9 : decode cX3_closest 9 = .ok (.invokestatic 23, 3) := by decide +kernel
theorem dX3_closest_12 : decode cX3_closest 12 = .ok (.invokestatic 27, 3) := by decide +kernel
theorem dX3_closest_15 : decode cX3_closest 15 = .ok (.aload_n 0, 1) := by decide +kernel
theorem dX3_closest_16 : decode cX3_closest 16 = .ok (.getfield 10, 3) := by decide +kernel
theorem dX3_closest_19 : decode cX3_closest 19 = .ok (.iload_n 1, 1) := by decide +kernel
theorem dX3_closest_20 : decode cX3_closest 20 = .ok (.invokevirtual 122, 3) := by decide +kernel
theorem dX3_closest_23 : decode cX3_closest 23 = .ok (.istore_n 3, 1) := by decide +kernel
theorem dX3_closest_24 : decode cX3_closest 24 = .ok (.iload_n 3, 1) := by decide +kernel
theorem dX3_closest_25 : decode cX3_closest 25 = .ok (.iconst (-1), 1) := by decide +kernel
theorem dX3_closest_26 : decode cX3_closest 26 = .ok (.if_icmp .eq 18, 3) := by decide +kernel
theorem dX3_closest_29 : decode cX3_closest 29 = .ok (.aload_n 0, 1) := by decide +kernel
theorem dX3_closest_30 : decode cX3_closest 30 = .ok (.getfield 10, 3) := by decide +kernel
theorem dX3_closest_33 : decode cX3_closest 33 = .ok (.getfield 80, 3) := by decide +kernel
theorem dX3_closest_36 : decode cX3_closest 36 = .ok (.iload_n 1, 1) := by decide +kernel
theorem dX3_closest_37 : decode cX3_closest 37 = .ok (.aaload, 1) := by decide +kernel
theorem dX3_closest_38 : decode cX3_closest 38 = .ok (.getfield 138, 3) := by decide +kernel
theorem dX3_closest_41 : decode cX3_closest 41 = .ok (.ifCond .eq 5, 3) := by decide +kernel
theorem dX3_closest_44 : decode cX3_closest 44 = .ok (.iconst (-1), 1) := by decide +kernel
theorem dX3_closest_45 : decode cX3_closest 45 = .ok (.ireturn, 1) := by decide +kernel
theorem dX3_closest_46 : decode cX3_closest 46 = .ok (.aload_n 0, 1) := by decide +kernel
theorem dX3_closest_47 : decode cX3_closest 47 = .ok (.getfield 16, 3) := by decide +kernel
theorem dX3_closest_50 : decode cX3_closest 50 = .ok (.aload_n 0, 1) := by decide +kernel
theorem dX3_closest_51 : decode cX3_closest 51 = .ok (.getfield 10, 3) := by decide +kernel
theorem dX3_closest_54 : decode cX3_closest 54 = .ok (.invokevirtual 171, 3) := by decide +kernel
theorem dX3_closest_57 : decode cX3_closest 57 = .ok (.aload_n 0, 1) := by decide +kernel
theorem dX3_closest_58 : decode cX3_closest 58 = .ok (.getfield 16, 3) := by decide +kernel
theorem dX3_closest_61 : decode cX3_closest 61 = .ok (.getfield 80, 3) := by decide +kernel
theorem dX3_closest_64 : decode cX3_closest 64 = .ok (.iload_n 1, 1) := by decide +kernel
theorem dX3_closest_65 : decode cX3_closest 65 = .ok (.aaload, 1) := by decide +kernel
theorem dX3_closest_66 : decode cX3_closest 66 = .ok (.ldc 175, 2) := by decide +kernel
theorem dX3_closest_68 : decode cX3_closest 68 = .ok (.putfield 176, 3) := by decide +kernel
theorem dX3_closest_71 : decode cX3_closest 71 = .ok (.iconst 1, 1) := by decide +kernel
theorem dX3_closest_72 : decode cX3_closest 72 = .ok (.istore 4, 2) := by decide +kernel
theorem dX3_closest_74 : decode cX3_closest 74 = .ok (.iload 4, 2) := by decide +kernel
theorem dX3_closest_76 : decode cX3_closest 76 = .ok (.iload_n 2, 1) := by decide +kernel
theorem dX3_closest_77 : decode cX3_closest 77 = .ok (.if_icmp .gt 18, 3) := by decide +kernel
theorem dX3_closest_80 : decode cX3_closest 80 = .ok (.aload_n 0, 1) := by decide +kernel
theorem dX3_closest_81 : decode cX3_closest 81 = .ok (.getfield 16, 3) := by decide +kernel
theorem dX3_closest_84 : decode cX3_closest 84 = .ok (.iload_n 3, 1) := by decide +kernel
theorem dX3_closest_85 : decode cX3_closest 85 = .ok (.invokevirtual 107, 3) := by decide +kernel
theorem dX3_closest_88 : decode cX3_closest 88 = .ok (.pop, 1) := by decide +kernel
theorem dX3_closest_89 : decode cX3_closest 89 = .ok (.iinc 4 1, 3) := by decide +kernel
theorem dX3_closest_92 : decode cX3_closest 92 = .ok (.goto (-18), 3) := by decide +kernel
theorem dX3_closest_95 : decode cX3_closest 95 = .ok (.aload_n 0, 1) := by decide +kernel
theorem dX3_closest_96 : decode cX3_closest 96 = .ok (.getfield 16, 3) := by decide +kernel
theorem dX3_closest_99 : decode cX3_closest 99 = .ok (.getfield 80, 3) := by decide +kernel
theorem dX3_closest_102 : decode cX3_closest 102 = .ok (.iload_n 1, 1) := by decide +kernel
theorem dX3_closest_103 : decode cX3_closest 103 = .ok (.aaload, 1) := by decide +kernel
theorem dX3_closest_104 : decode cX3_closest 104 = .ok (.invokevirtual 179, 3) := by decide +kernel
theorem dX3_closest_107 : decode cX3_closest 107 = .ok (.ireturn, 1) := by decide +kernel
set_option maxRecDepth 20000 in
theorem ggX3_lost_X3_needTrain : GoodIn wsX3_lost wsX3_needTrain := goodIn_ca (goodIn_r _ [9, 2, 10, 11, 12, 8, 13, 14, 15, 213, 214, 215, 216, 217, 218] (by decide +kernel) (by decide +kernel)) (goodIn_sub (fun _ h => List.mem_cons_of_mem _ (List.mem_append_left _ (List.mem_append_right _ h))) (by decide +kernel))
set_option maxRecDepth 20000 in
theorem gX3_lost_X3_needTrain : GoodIn wsX3_lost (wsV RX3 77 RX3 yX3_needTrain wsX3_needTrain) := goodIn_app (goodIn_of _ (by decide +kernel)) ggX3_lost_X3_needTrain
set_option maxRecDepth 20000 in
theorem ggX3_lost_X3_needSection : GoodIn wsX3_lost wsX3_needSection := goodIn_ca (goodIn_r _ [18, 11, 12, 8, 13, 14, 15] (by decide +kernel) (by decide +kernel)) (goodIn_sub (fun _ h => List.mem_cons_of_mem _ (List.mem_append_left _ (List.mem_append_right _ h))) (by decide +kernel))
set_option maxRecDepth 20000 in
theorem gX3_lost_X3_needSection : GoodIn wsX3_lost (va_wsS RX3 19 yX3_needSection wsX3_needSection) := goodIn_app (goodIn_of _ (by decide +kernel)) ggX3_lost_X3_needSection
set_option maxRecDepth 20000 in
theorem ggX3_lost_X3_isWithin : GoodIn wsX3_lost wsX3_isWithin := goodIn_r _ [21] (by decide +kernel) (by decide +kernel)
set_option maxRecDepth 20000 in
theorem gX3_lost_X3_isWithin : GoodIn wsX3_lost (va_wsS RX3 23 yX3_isWithin wsX3_isWithin) := goodIn_app (goodIn_of _ (by decide +kernel)) ggX3_lost_X3_isWithin
set_option maxRecDepth 20000 in
theorem ggX3_lost_X3_need : GoodIn wsX3_lost wsX3_need := goodIn_ca (goodIn_r _ [24, 25, 26] (by decide +kernel) (by decide +kernel)) (goodIn_sub (fun _ h => List.mem_cons_of_mem _ (List.mem_append_right _ h)) (by decide +kernel))
set_option maxRecDepth 20000 in
theorem gX3_lost_X3_need : GoodIn wsX3_lost (va_wsS RX3 27 yX3_need wsX3_need) := goodIn_app (goodIn_of _ (by decide +kernel)) ggX3_lost_X3_need
set_option maxRecDepth 20000 in
theorem ggX3_lost_X0_copyFrom : GoodIn wsX3_lost wsX0_copyFrom := goodIn_r _ [31, 32, 33, 34, 35, 36, 37, 38, 39, 40, 41, 42, 43, 44, 45, 46, 47, 48, 49, 50, 51, 52, 53, 54, 55, 56, 57, 58, 59, 60, 61, 62, 63, 64, 65, 66, 67, 68, 69, 70, 71, 72, 73, 215, 216, 217, 218, 219, 220, 221, 222, 223, 224, 225, 226, 227, 228, 229, 230, 231, 232, 233, 234, 235, 236, 237, 238, 239, 240, 241, 242, 243, 244, 245, 246] (by decide +kernel) (by decide +kernel)
set_option maxRecDepth 20000 in
theorem gX3_lost_X0_copyFrom : GoodIn wsX3_lost (wsV RX3 171 RX0 yX0_copyFrom wsX0_copyFrom) := goodIn_app (goodIn_of _ (by decide +kernel)) ggX3_lost_X0_copyFrom
set_option maxRecDepth 20000 in
theorem ggX3_lost_X3_headAfterTrial : GoodIn wsX3_lost wsX3_headAfterTrial := goodIn_r _ [77, 1, 78, 79, 80, 81, 82, 30, 83, 35, 34, 33, 84, 85, 86, 87, 88, 89, 90, 91, 92, 93, 94, 95, 96, 97, 98, 99, 32, 100, 101, 8, 102, 103, 104, 105, 54, 106, 60, 67, 59, 68, 69, 107, 108, 109, 110, 56, 111, 112, 113, 114, 115, 116, 117, 118, 119, 120, 121, 122, 123, 124, 125, 126, 127, 128, 129, 130, 131, 132, 133, 134, 135, 136, 137, 138, 139, 140, 141, 142, 39, 143, 144, 50, 48, 145, 146, 147, 148, 149, 150, 151, 152, 153, 154, 155, 156, 157, 158, 159, 160, 161, 162, 163, 47, 44, 164, 165, 166, 167, 168, 169, 170, 171, 172, 173, 174, 41, 175, 176, 177, 178, 179, 180, 181, 182, 183, 184, 185, 186, 187, 188, 189, 190, 191, 192, 193, 194, 195, 196, 197, 198, 199, 200, 201, 202, 203, 204, 205, 206, 207, 208, 66, 61, 209, 210, 211, 212, 213, 214, 215, 216, 217, 218, 229, 230, 231, 232, 233, 234, 235, 236, 237, 238, 239, 240, 241, 242, 243, 244, 245, 246, 219, 220, 221, 222, 223, 224, 225, 226, 227, 228] (by decide +kernel) (by decide +kernel)
set_option maxRecDepth 20000 in
theorem gX3_lost_X3_headAfterTrial : GoodIn wsX3_lost (wsV RX3 182 RX3 yX3_headAfterTrial wsX3_headAfterTrial) := goodIn_app (goodIn_of _ (by decide +kernel)) ggX3_lost_X3_headAfterTrial
theorem dX3_lost_0 : decode cX3_lost 0 = .ok (.aload_n 0, 1) := by decide +kernel
theorem dX3_lost_1 : decode cX3_lost 1 = .ok (.iload_n 1, 1) := by decide +kernel
theorem dX3_lost_2 : decode cX3_lost 2 = .ok (.invokevirtual 77, 3) := by decide +kernel
theorem dX3_lost_5 : decode cX3_lost 5 = .ok (.iload_n 2, 1) := by decide +kernel
theorem dX3_lost_6 : decode cX3_lost 6 = .ok (.invokestatic 19, 3) := by decide +kernel
theorem dX3_lost_9 : decode cX3_lost 9 = .ok (.iload_n 3, 1) := by decide +kernel
theorem dX3_lost_10 : decode cX3_lost 10 = .ok (.iconst 1, 1) := by decide +kernel
theorem dX3_lost_11 : decode cX3_lost 11 = .ok (.bipush 40, 2) := by decide +kernel
theorem dX3_lost_13 : decode cX3_lost 13 = .ok (.invokestatic 23, 3) := by decide +kernel
theorem dX3_lost_16 : decode cX3_lost 16 = .ok (.ifCond .eq 19, 3) := by decide +kernel
theorem dX3_lost_19 : decode cX3_lost 19 = .ok (.iload 4, 2) := by decide +kernel
theorem dX3_lost_21 : decode cX3_lost 21 = .ok (.iconst 1, 1) := by decide +kernel
theorem dX3_lost_22 : decode cX3_lost 22 = .ok (.sipush 300, 3) := by decide +kernel
theorem dX3_lost_25 : decode cX3_lost 25 = .ok (.invokestatic 23, 3) := by decide +kernel
theorem dX3_lost_28 : decode cX3_lost 28 = .ok (.ifCond .eq 7, 3) := by decide +kernel
theorem dX3_lost_31 : decode cX3_lost 31 = .ok (.iconst 1, 1) := by decide +kernel
theorem dX3_lost_32 : decode cX3_lost 32 = .ok (.goto 4, 3) := by decide +kernel
theorem dX3_lost_35 : decode cX3_lost 35 = .ok (.iconst 0, 1) := by decide +kernel
theorem dX3_lost_36 : decode cX3_lost 36 = .ok (.invokestatic 27, 3) := by decide +kernel
theorem dX3_lost_39 : decode cX3_lost 39 = .ok (.aload_n 0, 1) := by decide +kernel
theorem dX3_lost_40 : decode cX3_lost 40 = .ok (.getfield 16, 3) := by decide +kernel
theorem dX3_lost_43 : decode cX3_lost 43 = .ok (.aload_n 0, 1) := by decide +kernel
theorem dX3_lost_44 : decode cX3_lost 44 = .ok (.getfield 10, 3) := by decide +kernel
theorem dX3_lost_47 : decode cX3_lost 47 = .ok (.invokevirtual 171, 3) := by decide +kernel
theorem dX3_lost_50 : decode cX3_lost 50 = .ok (.aload_n 0, 1) := by decide +kernel
theorem dX3_lost_51 : decode cX3_lost 51 = .ok (.iload_n 1, 1) := by decide +kernel
theorem dX3_lost_52 : decode cX3_lost 52 = .ok (.iload 4, 2) := by decide +kernel
theorem dX3_lost_54 : decode cX3_lost 54 = .ok (.invokevirtual 182, 3) := by decide +kernel
theorem dX3_lost_57 : decode cX3_lost 57 = .ok (.istore 5, 2) := by decide +kernel
theorem dX3_lost_59 : decode cX3_lost 59 = .ok (.aload_n 0, 1) := by decide +kernel
theorem dX3_lost_60 : decode cX3_lost 60 = .ok (.getfield 16, 3) := by decide +kernel
theorem dX3_lost_63 : decode cX3_lost 63 = .ok (.aload_n 0, 1) := by decide +kernel
theorem dX3_lost_64 : decode cX3_lost 64 = .ok (.getfield 10, 3) := by decide +kernel
theorem dX3_lost_67 : decode cX3_lost 67 = .ok (.invokevirtual 171, 3) := by decide +kernel
theorem dX3_lost_70 : decode cX3_lost 70 = .ok (.aload_n 0, 1) := by decide +kernel
theorem dX3_lost_71 : decode cX3_lost 71 = .ok (.getfield 16, 3) := by decide +kernel
theorem dX3_lost_74 : decode cX3_lost 74 = .ok (.getfield 31, 3) := by decide +kernel
theorem dX3_lost_77 : decode cX3_lost 77 = .ok (.getfield 35, 3) := by decide +kernel
theorem dX3_lost_80 : decode cX3_lost 80 = .ok (.iload_n 2, 1) := by decide +kernel
theorem dX3_lost_81 : decode cX3_lost 81 = .ok (.iload_n 3, 1) := by decide +kernel
theorem dX3_lost_82 : decode cX3_lost 82 = .ok (.iastore, 1) := by decide +kernel
theorem dX3_lost_83 : decode cX3_lost 83 = .ok (.iload 5, 2) := by decide +kernel
theorem dX3_lost_85 : decode cX3_lost 85 = .ok (.aload_n 0, 1) := by decide +kernel
theorem dX3_lost_86 : decode cX3_lost 86 = .ok (.iload_n 1, 1) := by decide +kernel
theorem dX3_lost_87 : decode cX3_lost 87 = .ok (.iload 4, 2) := by decide +kernel
theorem dX3_lost_89 : decode cX3_lost 89 = .ok (.invokevirtual 182, 3) := by decide +kernel
theorem dX3_lost_92 : decode cX3_lost 92 = .ok (.isub, 1) := by decide +kernel
theorem dX3_lost_93 : decode cX3_lost 93 = .ok (.ireturn, 1) := by decide +kernel
set_option maxRecDepth 20000 in
theorem ggX3_worksIn_X3_needSection : GoodIn wsX3_worksIn wsX3_needSection := goodIn_ca (goodIn_r _ [6, 7, 8, 5, 9, 10, 11] (by decide +kernel) (by decide +kernel)) (goodIn_sub (fun _ h => List.mem_cons_of_mem _ (List.mem_append_left _ (List.mem_append_right _ h))) (by decide +kernel))
set_option maxRecDepth 20000 in
theorem gX3_worksIn_X3_needSection : GoodIn wsX3_worksIn (va_wsS RX3 19 yX3_needSection wsX3_needSection) := goodIn_app (goodIn_of _ (by decide +kernel)) ggX3_worksIn_X3_needSection
set_option maxRecDepth 20000 in
theorem ggX3_worksIn_X3_isWithin : GoodIn wsX3_worksIn wsX3_isWithin := goodIn_r _ [14] (by decide +kernel) (by decide +kernel)
set_option maxRecDepth 20000 in
theorem gX3_worksIn_X3_isWithin : GoodIn wsX3_worksIn (va_wsS RX3 23 yX3_isWithin wsX3_isWithin) := goodIn_app (goodIn_of _ (by decide +kernel)) ggX3_worksIn_X3_isWithin
set_option maxRecDepth 20000 in
theorem ggX3_worksIn_X3_need : GoodIn wsX3_worksIn wsX3_need := goodIn_ca (goodIn_r _ [17, 18, 19] (by decide +kernel) (by decide +kernel)) (goodIn_sub (fun _ h => List.mem_cons_of_mem _ (List.mem_append_right _ h)) (by decide +kernel))
set_option maxRecDepth 20000 in
theorem gX3_worksIn_X3_need : GoodIn wsX3_worksIn (va_wsS RX3 27 yX3_need wsX3_need) := goodIn_app (goodIn_of _ (by decide +kernel)) ggX3_worksIn_X3_need
set_option maxRecDepth 20000 in
theorem ggX3_worksIn_X0_copyFrom : GoodIn wsX3_worksIn wsX0_copyFrom := goodIn_r _ [24, 25, 26, 27, 28, 29, 30, 31, 32, 33, 34, 35, 36, 37, 38, 39, 40, 41, 42, 43, 44, 45, 46, 47, 48, 49, 50, 51, 52, 53, 54, 55, 56, 57, 58, 59, 60, 61, 62, 63, 64, 65, 66, 214, 215, 216, 217, 218, 219, 220, 221, 222, 223, 224, 225, 226, 227, 228, 229, 230, 231, 232, 233, 234, 235, 236, 237, 238, 239, 240, 241, 242, 243, 244, 245] (by decide +kernel) (by decide +kernel)
set_option maxRecDepth 20000 in
theorem gX3_worksIn_X0_copyFrom : GoodIn wsX3_worksIn (wsV RX3 171 RX0 yX0_copyFrom wsX0_copyFrom) := goodIn_app (goodIn_of _ (by decide +kernel)) ggX3_worksIn_X0_copyFrom
set_option maxRecDepth 20000 in
theorem ggX3_worksIn_X0_hindranceOfWorks : GoodIn wsX3_worksIn wsX0_hindranceOfWorks := goodIn_r _ [70, 27, 26, 71, 72, 73, 74, 75, 76, 23, 77, 78, 79, 80, 47, 81, 53, 82, 5, 83, 84, 85, 86, 87, 49, 88, 89, 214, 215, 216, 217, 228, 229, 230, 231, 232, 233, 234, 235, 236, 237, 238, 239, 240, 241, 242, 243, 244, 245] (by decide +kernel) (by decide +kernel)
set_option maxRecDepth 20000 in
theorem gX3_worksIn_X0_hindranceOfWorks : GoodIn wsX3_worksIn (wsV RX3 93 RX0 yX0_hindranceOfWorks wsX0_hindranceOfWorks) := goodIn_app (goodIn_of _ (by decide +kernel)) ggX3_worksIn_X0_hindranceOfWorks
set_option maxRecDepth 20000 in
theorem ggX3_worksIn_X0_goOn : GoodIn wsX3_worksIn wsX0_goOn := goodIn_r _ [93, 28, 27, 26, 71, 72, 94, 95, 96, 97, 73, 98, 99, 100, 101, 23, 102, 103, 104, 105, 106, 25, 107, 82, 5, 83, 108, 109, 110, 47, 111, 53, 60, 52, 61, 62, 84, 85, 86, 87, 49, 112, 113, 114, 115, 116, 117, 118, 119, 120, 121, 122, 123, 124, 125, 126, 127, 128, 129, 130, 131, 132, 133, 134, 135, 136, 137, 138, 88, 89, 139, 140, 141, 32, 142, 143, 43, 41, 144, 145, 146, 147, 148, 149, 150, 151, 152, 153, 154, 155, 156, 157, 158, 159, 160, 161, 162, 40, 37, 163, 164, 165, 166, 167, 168, 169, 170, 171, 172, 173, 34, 174, 175, 176, 177, 178, 179, 180, 181, 182, 183, 184, 185, 186, 187, 188, 189, 190, 191, 192, 193, 194, 195, 196, 197, 198, 199, 200, 201, 202, 203, 204, 205, 206, 207, 59, 54, 208, 209, 210, 211, 214, 215, 216, 217, 228, 229, 230, 231, 232, 233, 234, 235, 236, 237, 238, 239, 240, 241, 242, 243, 244, 245, 218, 219, 220, 221, 222, 223, 224, 225, 226, 227] (by decide +kernel) (by decide +kernel)
set_option maxRecDepth 20000 in
theorem gX3_worksIn_X0_goOn : GoodIn wsX3_worksIn (wsV RX3 107 RX0 yX0_goOn wsX0_goOn) := goodIn_app (goodIn_of _ (by decide +kernel)) ggX3_worksIn_X0_goOn
theorem dX3_worksIn_0 : decode cX3_worksIn 0 = .ok (.iload_n 1, 1) := by decide +kernel
theorem dX3_worksIn_1 : decode cX3_worksIn 1 = .ok (.invokestatic 19, 3) := by decide +kernel
theorem dX3_worksIn_4 : decode cX3_worksIn 4 = .ok (.iload_n 2, 1) := by decide +kernel
theorem dX3_worksIn_5 : decode cX3_worksIn 5 = .ok (.invokestatic 19, 3) := by decide +kernel
theorem dX3_worksIn_8 : decode cX3_worksIn 8 = .ok (.iload_n 1, 1) := by decide +kernel
theorem dX3_worksIn_9 : decode cX3_worksIn 9 = .ok (.iload_n 2, 1) := by decide +kernel
theorem dX3_worksIn_10 : decode cX3_worksIn 10 = .ok (.if_icmp .gt 18, 3) := by decide +kernel
theorem dX3_worksIn_13 : decode cX3_worksIn 13 = .ok (.iload_n 3, 1) := by decide +kernel
theorem dX3_worksIn_14 : decode cX3_worksIn 14 = .ok (.iconst 1, 1) := by decide +kernel
theorem dX3_worksIn_15 : decode cX3_worksIn 15 = .ok (.sipush 300, 3) := by decide +kernel
theorem dX3_worksIn_18 : decode cX3_worksIn 18 = .ok (.invokestatic 23, 3) := by decide +kernel
theorem dX3_worksIn_21 : decode cX3_worksIn 21 = .ok (.ifCond .eq 7, 3) := by decide +kernel
theorem dX3_worksIn_24 : decode cX3_worksIn 24 = .ok (.iconst 1, 1) := by decide +kernel
theorem dX3_worksIn_25 : decode cX3_worksIn 25 = .ok (.goto 4, 3) := by decide +kernel
theorem dX3_worksIn_28 : decode cX3_worksIn 28 = .ok (.iconst 0, 1) := by decide +kernel
theorem dX3_worksIn_29 : decode cX3_worksIn 29 = .ok (.invokestatic 27, 3) := by decide +kernel
theorem dX3_worksIn_32 : decode cX3_worksIn 32 = .ok (.aload_n 0, 1) := by decide +kernel
theorem dX3_worksIn_33 : decode cX3_worksIn 33 = .ok (.getfield 16, 3) := by decide +kernel
theorem dX3_worksIn_36 : decode cX3_worksIn 36 = .ok (.aload_n 0, 1) := by decide +kernel
theorem dX3_worksIn_37 : decode cX3_worksIn 37 = .ok (.getfield 10, 3) := by decide +kernel
theorem dX3_worksIn_40 : decode cX3_worksIn 40 = .ok (.invokevirtual 171, 3) := by decide +kernel
theorem dX3_worksIn_43 : decode cX3_worksIn 43 = .ok (.iconst 0, 1) := by decide +kernel
theorem dX3_worksIn_44 : decode cX3_worksIn 44 = .ok (.istore 4, 2) := by decide +kernel
theorem dX3_worksIn_46 : decode cX3_worksIn 46 = .ok (.iload 4, 2) := by decide +kernel
theorem dX3_worksIn_48 : decode cX3_worksIn 48 = .ok (.iload_n 3, 1) := by decide +kernel
theorem dX3_worksIn_49 : decode cX3_worksIn 49 = .ok (.if_icmp .ge 33, 3) := by decide +kernel
theorem dX3_worksIn_52 : decode cX3_worksIn 52 = .ok (.aload_n 0, 1) := by decide +kernel
theorem dX3_worksIn_53 : decode cX3_worksIn 53 = .ok (.getfield 16, 3) := by decide +kernel
theorem dX3_worksIn_56 : decode cX3_worksIn 56 = .ok (.iload_n 1, 1) := by decide +kernel
theorem dX3_worksIn_57 : decode cX3_worksIn 57 = .ok (.iload_n 2, 1) := by decide +kernel
theorem dX3_worksIn_58 : decode cX3_worksIn 58 = .ok (.invokevirtual 93, 3) := by decide +kernel
theorem dX3_worksIn_61 : decode cX3_worksIn 61 = .ok (.ifCond .ne 6, 3) := by decide +kernel
theorem dX3_worksIn_64 : decode cX3_worksIn 64 = .ok (.iload 4, 2) := by decide +kernel
theorem dX3_worksIn_66 : decode cX3_worksIn 66 = .ok (.ireturn, 1) := by decide +kernel
theorem dX3_worksIn_67 : decode cX3_worksIn 67 = .ok (.aload_n 0, 1) := by decide +kernel
theorem dX3_worksIn_68 : decode cX3_worksIn 68 = .ok (.getfield 16, 3) := by decide +kernel
theorem dX3_worksIn_71 : decode cX3_worksIn 71 = .ok (.iconst (-1), 1) := by decide +kernel
theorem dX3_worksIn_72 : decode cX3_worksIn 72 = .ok (.invokevirtual 107, 3) := by decide +kernel
theorem dX3_worksIn_75 : decode cX3_worksIn 75 = .ok (.pop, 1) := by decide +kernel
theorem dX3_worksIn_76 : decode cX3_worksIn 76 = .ok (.iinc 4 1, 3) := by decide +kernel
theorem dX3_worksIn_79 : decode cX3_worksIn 79 = .ok (.goto (-33), 3) := by decide +kernel
theorem dX3_worksIn_82 : decode cX3_worksIn 82 = .ok (.aload_n 0, 1) := by decide +kernel
theorem dX3_worksIn_83 : decode cX3_worksIn 83 = .ok (.getfield 16, 3) := by decide +kernel
theorem dX3_worksIn_86 : decode cX3_worksIn 86 = .ok (.iload_n 1, 1) := by decide +kernel
theorem dX3_worksIn_87 : decode cX3_worksIn 87 = .ok (.iload_n 2, 1) := by decide +kernel
theorem dX3_worksIn_88 : decode cX3_worksIn 88 = .ok (.invokevirtual 93, 3) := by decide +kernel
theorem dX3_worksIn_91 : decode cX3_worksIn 91 = .ok (.ifCond .ne 7, 3) := by decide +kernel
theorem dX3_worksIn_94 : decode cX3_worksIn 94 = .ok (.iload_n 3, 1) := by decide +kernel
theorem dX3_worksIn_95 : decode cX3_worksIn 95 = .ok (.goto 4, 3) := by decide +kernel
theorem dX3_worksIn_98 : decode cX3_worksIn 98 = .ok (.iconst (-1), 1) := by decide +kernel
theorem dX3_worksIn_99 : decode cX3_worksIn 99 = .ok (.ireturn, 1) := by decide +kernel
set_option maxRecDepth 20000 in
theorem ggX3_digest_X3_many : GoodIn wsX3_digest wsX3_many := goodIn_ca (goodIn_r _ [11, 3, 12, 4, 5, 6, 13, 14, 15, 10, 16, 17, 18, 19, 20, 21, 22, 23, 24, 25, 26, 27, 28, 29, 30, 31, 32, 33, 34, 35, 36, 37, 38, 39, 40, 41, 42, 43, 44, 45, 46, 47, 48, 319, 320, 321, 322, 323, 324, 325, 326, 327, 328, 329, 330, 331, 332, 333, 334, 335, 336, 337, 338, 339, 340, 341, 342, 343, 344, 345, 346, 347, 348, 349, 350, 351, 352] (by decide +kernel) (by decide +kernel)) (goodIn_sub (fun _ h => List.mem_cons_of_mem _ (List.mem_append_left _ (List.mem_append_right _ h))) (by decide +kernel))
set_option maxRecDepth 20000 in
theorem gX3_digest_X3_many : GoodIn wsX3_digest (wsV RX3 189 RX3 yX3_many wsX3_many) := goodIn_app (goodIn_of _ (by decide +kernel)) ggX3_digest_X3_many
set_option maxRecDepth 20000 in
theorem ggX3_digest_X3_ofSection : GoodIn wsX3_digest wsX3_ofSection := goodIn_ca (goodIn_ca (goodIn_r _ [52, 3, 5, 53, 54, 55, 56, 57, 10, 58, 59, 60, 61, 62, 63, 14, 15, 16, 17, 18, 19, 20, 21, 64, 65, 66, 25, 67, 27, 28, 29, 68, 69, 70, 45, 71, 47, 72, 73, 74, 75, 76, 77, 48, 78, 79, 80, 81, 82, 83, 84, 85, 319, 320, 321, 322, 323, 324, 325, 326, 327, 328, 329, 330, 331, 332, 333, 334, 335, 336, 337, 338, 339, 340, 341, 342, 343, 344, 345, 346, 347, 348, 349, 350, 351, 352] (by decide +kernel) (by decide +kernel)) (goodIn_sub (fun _ h => List.mem_cons_of_mem _ (List.mem_append_right _ h)) (by decide +kernel))) (goodIn_sub (fun _ h => List.mem_cons_of_mem _ (List.mem_append_left _ (List.mem_append_right _ h))) (by decide +kernel))
set_option maxRecDepth 20000 in
theorem gX3_digest_X3_ofSection : GoodIn wsX3_digest (wsV RX3 192 RX3 yX3_ofSection wsX3_ofSection) := goodIn_app (goodIn_of _ (by decide +kernel)) ggX3_digest_X3_ofSection
set_option maxRecDepth 20000 in
theorem ggX3_digest_X3_ofTrain : GoodIn wsX3_digest wsX3_ofTrain := goodIn_ca (goodIn_ca (goodIn_r _ [89, 3, 5, 90, 91, 92, 93, 94, 10, 95, 4, 59, 60, 61, 62, 63, 14, 15, 16, 17, 18, 19, 20, 21, 96, 97, 98, 81, 99, 100, 101, 102, 103, 104, 25, 105, 28, 29, 106, 107, 108, 45, 109, 47, 110, 111, 112, 113, 114, 115, 74, 75, 76, 77, 48, 116, 117, 118, 119, 120, 121, 122, 123, 124, 125, 126, 127, 128, 129, 130, 131, 319, 320, 321, 322, 323, 324, 335, 336, 337, 338, 339, 340, 341, 342, 343, 344, 345, 346, 347, 348, 349, 350, 351, 352, 325, 326, 327, 328, 329, 330, 331, 332, 333, 334] (by decide +kernel) (by decide +kernel)) (goodIn_sub (fun _ h => List.mem_cons_of_mem _ (List.mem_append_right _ h)) (by decide +kernel))) (goodIn_sub (fun _ h => List.mem_cons_of_mem _ (List.mem_append_left _ (List.mem_append_right _ h))) (by decide +kernel))
set_option maxRecDepth 20000 in
theorem gX3_digest_X3_ofTrain : GoodIn wsX3_digest (wsV RX3 195 RX3 yX3_ofTrain wsX3_ofTrain) := goodIn_app (goodIn_of _ (by decide +kernel)) ggX3_digest_X3_ofTrain
set_option maxRecDepth 20000 in
theorem ggX3_digest_X3_stops : GoodIn wsX3_digest wsX3_stops := goodIn_ca (goodIn_ca (goodIn_r _ [135, 3, 90, 92, 93, 94, 10, 95, 4, 59, 60, 61, 62, 63, 14, 15, 16, 17, 18, 19, 20, 21, 136, 137, 138, 25, 139, 140, 141, 142, 143, 144, 145, 146, 147, 72, 73, 148, 149, 150, 319, 320, 321, 322, 323, 324, 335, 336, 337, 338, 339, 340, 341, 342, 343, 344, 345, 346, 347, 348, 349, 350, 351, 352, 325, 326, 327, 328, 329, 330, 331, 332, 333, 334] (by decide +kernel) (by decide +kernel)) (goodIn_sub (fun _ h => List.mem_cons_of_mem _ (List.mem_append_right _ h)) (by decide +kernel))) (goodIn_sub (fun _ h => List.mem_cons_of_mem _ (List.mem_append_left _ (List.mem_append_right _ h))) (by decide +kernel))
set_option maxRecDepth 20000 in
theorem gX3_digest_X3_stops : GoodIn wsX3_digest (wsV RX3 198 RX3 yX3_stops wsX3_stops) := goodIn_app (goodIn_of _ (by decide +kernel)) ggX3_digest_X3_stops
set_option maxRecDepth 20000 in
theorem ggX3_digest_X3_may : GoodIn wsX3_digest wsX3_may := goodIn_ca (goodIn_r _ [154, 3, 90, 155, 92, 93, 94, 10, 95, 4, 59, 60, 61, 62, 63, 156, 157, 158, 25, 159, 160, 143, 141, 161, 162, 163, 164, 146, 165, 166, 97, 98, 81, 99, 100, 101, 167, 137, 138, 139, 140, 142, 144, 145, 147, 72, 73, 168, 75, 76, 45, 77, 47, 48, 169, 170, 171, 172, 173, 174, 149, 150, 319, 320, 321, 322, 323, 324, 335, 336, 337, 338, 339, 340, 341, 342, 343, 344, 345, 346, 347, 348, 349, 350, 351, 352, 325, 326, 327, 328, 329, 330, 331, 332, 333, 334] (by decide +kernel) (by decide +kernel)) (goodIn_sub (fun _ h => List.mem_cons_of_mem _ (List.mem_append_right _ h)) (by decide +kernel))
set_option maxRecDepth 20000 in
theorem gX3_digest_X3_may : GoodIn wsX3_digest (wsV RX3 201 RX3 yX3_may wsX3_may) := goodIn_app (goodIn_of _ (by decide +kernel)) ggX3_digest_X3_may
set_option maxRecDepth 20000 in
theorem ggX3_digest_X3_why : GoodIn wsX3_digest wsX3_why := goodIn_ca (goodIn_r _ [178, 3, 90, 155, 92, 93, 94, 10, 95, 4, 59, 60, 61, 62, 63, 179, 180, 181, 25, 182, 28, 143, 183, 184, 185, 186, 163, 164, 146, 165, 141, 187, 188, 189, 190, 191, 192, 193, 194, 195, 196, 197, 198, 103, 104, 105, 29, 199, 200, 201, 202, 203, 204, 72, 73, 205, 206, 207, 208, 209, 81, 210, 211, 83, 84, 174, 319, 320, 321, 322, 323, 324, 335, 336, 337, 338, 339, 340, 341, 342, 343, 344, 345, 346, 347, 348, 349, 350, 351, 352, 325, 326, 327, 328, 329, 330, 331, 332, 333, 334] (by decide +kernel) (by decide +kernel)) (goodIn_sub (fun _ h => List.mem_cons_of_mem _ (List.mem_append_right _ h)) (by decide +kernel))
set_option maxRecDepth 20000 in
theorem gX3_digest_X3_why : GoodIn wsX3_digest (wsV RX3 204 RX3 yX3_why wsX3_why) := goodIn_app (goodIn_of _ (by decide +kernel)) ggX3_digest_X3_why
set_option maxRecDepth 20000 in
theorem ggX3_digest_X3_reaches : GoodIn wsX3_digest wsX3_reaches := goodIn_ca (goodIn_ca (goodIn_r _ [215, 3, 90, 216, 217, 92, 93, 94, 10, 95, 4, 59, 60, 61, 62, 63, 14, 15, 16, 17, 18, 19, 20, 21, 218, 219, 220, 25, 221, 141, 28, 27, 203, 222, 223, 224, 81, 225, 173, 226, 227, 101, 228, 229, 100, 84, 85, 83, 230, 231, 232, 45, 233, 48, 234, 235, 112, 47, 110, 111, 113, 236, 114, 115, 120, 121, 122, 123, 124, 125, 130, 237, 238, 239, 240, 29, 143, 144, 145, 146, 147, 160, 34, 241, 242, 243, 244, 245, 246, 247, 248, 249, 72, 73, 250, 251, 252, 253, 74, 75, 76, 77, 183, 184, 185, 186, 163, 164, 165, 187, 188, 189, 190, 191, 192, 193, 194, 195, 196, 197, 198, 103, 104, 105, 199, 200, 201, 202, 204, 205, 206, 207, 208, 209, 210, 211, 174, 254, 255, 256, 257, 258, 259, 260, 39, 261, 157, 158, 159, 161, 162, 166, 97, 98, 99, 167, 137, 138, 139, 140, 142, 168, 169, 170, 171, 172, 149, 150, 262, 263, 264, 265, 266, 267, 268, 269, 270, 271, 41, 272, 273, 274, 275, 276, 277, 278, 279, 280, 281, 282, 283, 284, 285, 286, 40, 287, 288, 289, 290, 291, 292, 293, 294, 295, 319, 320, 321, 322, 323, 324, 335, 336, 337, 338, 339, 340, 341, 342, 343, 344, 345, 346, 347, 348, 349, 350, 351, 352, 325, 326, 327, 328, 329, 330, 331, 332, 333, 334] (by decide +kernel) (by decide +kernel)) (goodIn_sub (fun _ h => List.mem_cons_of_mem _ (List.mem_append_right _ h)) (by decide +kernel))) (goodIn_sub (fun _ h => List.mem_cons_of_mem _ (List.mem_append_left _ (List.mem_append_right _ h))) (by decide +kernel))
set_option maxRecDepth 20000 in
theorem gX3_digest_X3_reaches : GoodIn wsX3_digest (wsV RX3 207 RX3 yX3_reaches wsX3_reaches) := goodIn_app (goodIn_of _ (by decide +kernel)) ggX3_digest_X3_reaches
set_option maxRecDepth 20000 in
theorem ggX3_digest_X3_closest : GoodIn wsX3_digest wsX3_closest := goodIn_ca (goodIn_ca (goodIn_r _ [299, 3, 90, 155, 217, 300, 301, 92, 93, 94, 10, 95, 4, 59, 60, 61, 62, 63, 14, 15, 16, 17, 18, 19, 20, 21, 102, 103, 104, 25, 105, 28, 29, 218, 219, 220, 221, 141, 27, 203, 222, 223, 224, 81, 225, 173, 226, 227, 101, 228, 229, 100, 84, 85, 83, 230, 231, 232, 45, 233, 48, 234, 235, 112, 47, 110, 111, 113, 236, 114, 115, 120, 121, 122, 123, 124, 125, 130, 237, 238, 239, 240, 143, 144, 145, 146, 147, 160, 34, 241, 242, 243, 244, 245, 246, 247, 248, 249, 72, 73, 250, 251, 252, 253, 74, 75, 76, 77, 183, 184, 185, 186, 163, 164, 165, 187, 188, 189, 190, 191, 192, 193, 194, 195, 196, 197, 198, 199, 200, 201, 202, 204, 205, 206, 207, 208, 209, 210, 211, 174, 254, 255, 256, 257, 258, 259, 260, 39, 261, 157, 158, 159, 161, 162, 166, 97, 98, 99, 167, 137, 138, 139, 140, 142, 168, 169, 170, 171, 172, 149, 150, 262, 263, 264, 265, 266, 267, 268, 269, 270, 271, 41, 272, 273, 274, 275, 276, 277, 278, 279, 280, 281, 282, 283, 284, 285, 286, 40, 287, 288, 289, 290, 291, 292, 293, 294, 295, 302, 127, 128, 129, 131, 319, 320, 321, 322, 323, 324, 335, 336, 337, 338, 339, 340, 341, 342, 343, 344, 345, 346, 347, 348, 349, 350, 351, 352, 325, 326, 327, 328, 329, 330, 331, 332, 333, 334] (by decide +kernel) (by decide +kernel)) (goodIn_sub (fun _ h => List.mem_cons_of_mem _ (List.mem_append_right _ h)) (by decide +kernel))) (goodIn_sub (fun _ h => List.mem_cons_of_mem _ (List.mem_append_left _ (List.mem_append_right _ h))) (by decide +kernel))
set_option maxRecDepth 20000 in
theorem gX3_digest_X3_closest : GoodIn wsX3_digest (wsV RX3 211 RX3 yX3_closest wsX3_closest) := goodIn_app (goodIn_of _ (by decide +kernel)) ggX3_digest_X3_closest
set_option maxRecDepth 20000 in
theorem ggX3_digest_X3_ofStation : GoodIn wsX3_digest wsX3_ofStation := goodIn_ca (goodIn_ca (goodIn_r _ [306, 3, 5, 6, 307, 308, 309, 59, 60, 10, 61, 62, 63, 14, 15, 16, 17, 18, 19, 20, 21, 319, 320, 321, 322, 323, 324, 325, 326, 327, 328, 329, 330, 331, 332, 333, 334] (by decide +kernel) (by decide +kernel)) (goodIn_sub (fun _ h => List.mem_cons_of_mem _ (List.mem_append_right _ h)) (by decide +kernel))) (goodIn_sub (fun _ h => List.mem_cons_of_mem _ (List.mem_append_left _ (List.mem_append_right _ h))) (by decide +kernel))
set_option maxRecDepth 20000 in
theorem gX3_digest_X3_ofStation : GoodIn wsX3_digest (wsV RX3 214 RX3 yX3_ofStation wsX3_ofStation) := goodIn_app (goodIn_of _ (by decide +kernel)) ggX3_digest_X3_ofStation
set_option maxRecDepth 20000 in
theorem ggX3_digest_X3_worksIn : GoodIn wsX3_digest wsX3_worksIn := goodIn_ca (goodIn_ca (goodIn_r _ [313, 217, 3, 56, 57, 10, 58, 59, 60, 61, 62, 63, 14, 15, 16, 17, 18, 19, 20, 21, 218, 219, 220, 25, 221, 141, 28, 27, 203, 222, 223, 224, 81, 225, 173, 226, 227, 101, 228, 229, 100, 84, 85, 83, 230, 231, 232, 45, 233, 48, 234, 235, 112, 47, 110, 111, 113, 236, 114, 115, 120, 121, 122, 123, 124, 125, 130, 314, 315, 316, 317, 29, 143, 160, 318, 65, 66, 67, 68, 69, 70, 71, 72, 73, 74, 75, 76, 77, 205, 206, 237, 238, 239, 240, 144, 145, 146, 147, 34, 241, 242, 243, 244, 245, 246, 247, 248, 249, 250, 251, 252, 253, 183, 184, 185, 186, 163, 164, 165, 187, 188, 189, 190, 191, 192, 193, 194, 195, 196, 197, 198, 103, 104, 105, 199, 200, 201, 202, 204, 207, 208, 209, 210, 211, 174, 254, 255, 256, 257, 258, 259, 260, 39, 261, 157, 158, 159, 161, 162, 166, 97, 98, 99, 167, 137, 138, 139, 140, 142, 168, 169, 170, 171, 172, 149, 150, 262, 263, 264, 265, 266, 267, 268, 269, 270, 271, 41, 272, 273, 274, 275, 276, 277, 278, 279, 280, 281, 282, 283, 284, 285, 286, 40, 287, 288, 289, 290, 291, 292, 293, 294, 295, 319, 320, 321, 322, 323, 324, 325, 326, 327, 328, 329, 330, 331, 332, 333, 334, 335, 336, 337, 338, 339, 340, 341, 342, 343, 344, 345, 346, 347, 348, 349, 350, 351, 352] (by decide +kernel) (by decide +kernel)) (goodIn_sub (fun _ h => List.mem_cons_of_mem _ (List.mem_append_right _ h)) (by decide +kernel))) (goodIn_sub (fun _ h => List.mem_cons_of_mem _ (List.mem_append_left _ (List.mem_append_right _ h))) (by decide +kernel))
set_option maxRecDepth 20000 in
theorem gX3_digest_X3_worksIn : GoodIn wsX3_digest (wsV RX3 217 RX3 yX3_worksIn wsX3_worksIn) := goodIn_app (goodIn_of _ (by decide +kernel)) ggX3_digest_X3_worksIn
theorem dX3_digest_0 : decode cX3_digest 0 = .ok (.ldc2_w 185, 3) := by decide +kernel
theorem dX3_digest_3 : decode cX3_digest 3 = .ok (.lstore_n 1, 1) := by decide +kernel
theorem dX3_digest_4 : decode cX3_digest 4 = .ok (.iconst 0, 1) := by decide +kernel
theorem dX3_digest_5 : decode cX3_digest 5 = .ok (.istore_n 3, 1) := by decide +kernel
theorem dX3_digest_6 : decode cX3_digest 6 = .ok (.iload_n 3, 1) := by decide +kernel
theorem dX3_digest_7 : decode cX3_digest 7 = .ok (.bipush 9, 2) := by decide +kernel
theorem dX3_digest_9 : decode cX3_digest 9 = .ok (.if_icmp .gt 22, 3) := by decide +kernel
theorem dX3_digest_12 : decode cX3_digest 12 = .ok (.lload_n 1, 1) := by decide +kernel
theorem dX3_digest_13 : decode cX3_digest 13 = .ok (.ldc2_w 187, 3) := by decide +kernel
theorem dX3_digest_16 : decode cX3_digest 16 = .ok (.lmul, 1) := by decide +kernel
theorem dX3_digest_17 : decode cX3_digest 17 = .ok (.aload_n 0, 1) := by decide +kernel
theorem dX3_digest_18 : decode cX3_digest 18 = .ok (.iload_n 3, 1) := by decide +kernel
theorem dX3_digest_19 : decode cX3_digest 19 = .ok (.invokevirtual 189, 3) := by decide +kernel
theorem dX3_digest_22 : decode cX3_digest 22 = .ok (.i2l, 1) := by decide +kernel
theorem dX3_digest_23 : decode cX3_digest 23 = .ok (.ladd, 1) := by decide +kernel
theorem dX3_digest_24 : decode cX3_digest 24 = .ok (.lstore_n 1, 1) := by decide +kernel
theorem dX3_digest_25 : decode cX3_digest 25 = .ok (.iinc 3 1, 3) := by decide +kernel
theorem dX3_digest_28 : decode cX3_digest 28 = .ok (.goto (-22), 3) := by decide +kernel
theorem dX3_digest_31 : decode cX3_digest 31 = .ok (.iconst 0, 1) := by decide +kernel
theorem dX3_digest_32 : decode cX3_digest 32 = .ok (.istore_n 3, 1) := by decide +kernel
theorem dX3_digest_33 : decode cX3_digest 33 = .ok (.iload_n 3, 1) := by decide +kernel
theorem dX3_digest_34 : decode cX3_digest 34 = .ok (.bipush 20, 2) := by decide +kernel
theorem dX3_digest_36 : decode cX3_digest 36 = .ok (.if_icmp .ge 39, 3) := by decide +kernel
theorem dX3_digest_39 : decode cX3_digest 39 = .ok (.iconst 0, 1) := by decide +kernel
theorem dX3_digest_40 : decode cX3_digest 40 = .ok (.istore 4, 2) := by decide +kernel
theorem dX3_digest_42 : decode cX3_digest 42 = .ok (.iload 4, 2) := by decide +kernel
theorem dX3_digest_44 : decode cX3_digest 44 = .ok (.iconst 4, 1) := by decide +kernel
theorem dX3_digest_45 : decode cX3_digest 45 = .ok (.if_icmp .gt 24, 3) := by decide +kernel
theorem dX3_digest_48 : decode cX3_digest 48 = .ok (.lload_n 1, 1) := by decide +kernel
theorem dX3_digest_49 : decode cX3_digest 49 = .ok (.ldc2_w 187, 3) := by decide +kernel
theorem dX3_digest_52 : decode cX3_digest 52 = .ok (.lmul, 1) := by decide +kernel
theorem dX3_digest_53 : decode cX3_digest 53 = .ok (.aload_n 0, 1) := by decide +kernel
theorem dX3_digest_54 : decode cX3_digest 54 = .ok (.iload_n 3, 1) := by decide +kernel
theorem dX3_digest_55 : decode cX3_digest 55 = .ok (.iload 4, 2) := by decide +kernel
theorem dX3_digest_57 : decode cX3_digest 57 = .ok (.invokevirtual 192, 3) := by decide +kernel
theorem dX3_digest_60 : decode cX3_digest 60 = .ok (.i2l, 1) := by decide +kernel
theorem dX3_digest_61 : decode cX3_digest 61 = .ok (.ladd, 1) := by decide +kernel
theorem dX3_digest_62 : decode cX3_digest 62 = .ok (.lstore_n 1, 1) := by decide +kernel
theorem dX3_digest_63 : decode cX3_digest 63 = .ok (.iinc 4 1, 3) := by decide +kernel
theorem dX3_digest_66 : decode cX3_digest 66 = .ok (.goto (-24), 3) := by decide +kernel
theorem dX3_digest_69 : decode cX3_digest 69 = .ok (.iinc 3 1, 3) := by decide +kernel
theorem dX3_digest_72 : decode cX3_digest 72 = .ok (.goto (-39), 3) := by decide +kernel
theorem dX3_digest_75 : decode cX3_digest 75 = .ok (.iconst 0, 1) := by decide +kernel
theorem dX3_digest_76 : decode cX3_digest 76 = .ok (.istore_n 3, 1) := by decide +kernel
theorem dX3_digest_77 : decode cX3_digest 77 = .ok (.iload_n 3, 1) := by decide +kernel
theorem dX3_digest_78 : decode cX3_digest 78 = .ok (.aload_n 0, 1) := by decide +kernel
theorem dX3_digest_79 : decode cX3_digest 79 = .ok (.getfield 10, 3) := by decide +kernel
theorem dX3_digest_82 : decode cX3_digest 82 = .ok (.getfield 67, 3) := by decide +kernel
theorem dX3_digest_85 : decode cX3_digest 85 = .ok (.if_icmp .ge 114, 3) := by decide +kernel
theorem dX3_digest_88 : decode cX3_digest 88 = .ok (.iconst 0, 1) := by decide +kernel
theorem dX3_digest_89 : decode cX3_digest 89 = .ok (.istore 4, 2) := by decide +kernel
theorem dX3_digest_91 : decode cX3_digest 91 = .ok (.iload 4, 2) := by decide +kernel
theorem dX3_digest_93 : decode cX3_digest 93 = .ok (.bipush 15, 2) := by decide +kernel
theorem dX3_digest_95 : decode cX3_digest 95 = .ok (.if_icmp .gt 24, 3) := by decide +kernel
theorem dX3_digest_98 : decode cX3_digest 98 = .ok (.lload_n 1, 1) := by decide +kernel
theorem dX3_digest_99 : decode cX3_digest 99 = .ok (.ldc2_w 187, 3) := by decide +kernel
theorem dX3_digest_102 : decode cX3_digest 102 = .ok (.lmul, 1) := by decide +kernel
theorem dX3_digest_103 : decode cX3_digest 103 = .ok (.aload_n 0, 1) := by decide +kernel
theorem dX3_digest_104 : decode cX3_digest 104 = .ok (.iload_n 3, 1) := by decide +kernel
theorem dX3_digest_105 : decode cX3_digest 105 = .ok (.iload 4, 2) := by decide +kernel
theorem dX3_digest_107 : decode cX3_digest 107 = .ok (.invokevirtual 195, 3) := by decide +kernel
theorem dX3_digest_110 : decode cX3_digest 110 = .ok (.i2l, 1) := by decide +kernel
theorem dX3_digest_111 : decode cX3_digest 111 = .ok (.ladd, 1) := by decide +kernel
theorem dX3_digest_112 : decode cX3_digest 112 = .ok (.lstore_n 1, 1) := by decide +kernel
theorem dX3_digest_113 : decode cX3_digest 113 = .ok (.iinc 4 1, 3) := by decide +kernel
theorem dX3_digest_116 : decode cX3_digest 116 = .ok (.goto (-25), 3) := by decide +kernel
theorem dX3_digest_119 : decode cX3_digest 119 = .ok (.lload_n 1, 1) := by decide +kernel
theorem dX3_digest_120 : decode cX3_digest 120 = .ok (.ldc2_w 187, 3) := by decide +kernel
theorem dX3_digest_123 : decode cX3_digest 123 = .ok (.lmul, 1) := by decide +kernel
theorem dX3_digest_124 : decode cX3_digest 124 = .ok (.aload_n 0, 1) := by decide +kernel
theorem dX3_digest_125 : decode cX3_digest 125 = .ok (.iload_n 3, 1) := by decide +kernel
theorem dX3_digest_126 : decode cX3_digest 126 = .ok (.bipush 20, 2) := by decide +kernel
theorem dX3_digest_128 : decode cX3_digest 128 = .ok (.invokevirtual 198, 3) := by decide +kernel
theorem dX3_digest_131 : decode cX3_digest 131 = .ok (.i2l, 1) := by decide +kernel
theorem dX3_digest_132 : decode cX3_digest 132 = .ok (.ladd, 1) := by decide +kernel
theorem dX3_digest_133 : decode cX3_digest 133 = .ok (.lstore_n 1, 1) := by decide +kernel
theorem dX3_digest_134 : decode cX3_digest 134 = .ok (.lload_n 1, 1) := by decide +kernel
theorem dX3_digest_135 : decode cX3_digest 135 = .ok (.ldc2_w 187, 3) := by decide +kernel
theorem dX3_digest_138 : decode cX3_digest 138 = .ok (.lmul, 1) := by decide +kernel
theorem dX3_digest_139 : decode cX3_digest 139 = .ok (.aload_n 0, 1) := by decide +kernel
theorem dX3_digest_140 : decode cX3_digest 140 = .ok (.iload_n 3, 1) := by decide +kernel
theorem dX3_digest_141 : decode cX3_digest 141 = .ok (.invokevirtual 201, 3) := by decide +kernel
theorem dX3_digest_144 : decode cX3_digest 144 = .ok (.i2l, 1) := by decide +kernel
theorem dX3_digest_145 : decode cX3_digest 145 = .ok (.ladd, 1) := by decide +kernel
theorem dX3_digest_146 : decode cX3_digest 146 = .ok (.lstore_n 1, 1) := by decide +kernel
theorem dX3_digest_147 : decode cX3_digest 147 = .ok (.lload_n 1, 1) := by decide +kernel
theorem dX3_digest_148 : decode cX3_digest 148 = .ok (.ldc2_w 187, 3) := by decide +kernel
theorem dX3_digest_151 : decode cX3_digest 151 = .ok (.lmul, 1) := by decide +kernel
theorem dX3_digest_152 : decode cX3_digest 152 = .ok (.aload_n 0, 1) := by decide +kernel
theorem dX3_digest_153 : decode cX3_digest 153 = .ok (.iload_n 3, 1) := by decide +kernel
theorem dX3_digest_154 : decode cX3_digest 154 = .ok (.invokevirtual 204, 3) := by decide +kernel
theorem dX3_digest_157 : decode cX3_digest 157 = .ok (.i2l, 1) := by decide +kernel
theorem dX3_digest_158 : decode cX3_digest 158 = .ok (.ladd, 1) := by decide +kernel
theorem dX3_digest_159 : decode cX3_digest 159 = .ok (.lstore_n 1, 1) := by decide +kernel
theorem dX3_digest_160 : decode cX3_digest 160 = .ok (.lload_n 1, 1) := by decide +kernel
theorem dX3_digest_161 : decode cX3_digest 161 = .ok (.ldc2_w 187, 3) := by decide +kernel
theorem dX3_digest_164 : decode cX3_digest 164 = .ok (.lmul, 1) := by decide +kernel
theorem dX3_digest_165 : decode cX3_digest 165 = .ok (.aload_n 0, 1) := by decide +kernel
theorem dX3_digest_166 : decode cX3_digest 166 = .ok (.iload_n 3, 1) := by decide +kernel
theorem dX3_digest_167 : decode cX3_digest 167 = .ok (.sipush 2000, 3) := by decide +kernel
theorem dX3_digest_170 : decode cX3_digest 170 = .ok (.bipush 90, 2) := by decide +kernel
theorem dX3_digest_172 : decode cX3_digest 172 = .ok (.invokevirtual 207, 3) := by decide +kernel
theorem dX3_digest_175 : decode cX3_digest 175 = .ok (.i2l, 1) := by decide +kernel
theorem dX3_digest_176 : decode cX3_digest 176 = .ok (.ladd, 1) := by decide +kernel
theorem dX3_digest_177 : decode cX3_digest 177 = .ok (.lstore_n 1, 1) := by decide +kernel
theorem dX3_digest_178 : decode cX3_digest 178 = .ok (.lload_n 1, 1) := by decide +kernel
theorem dX3_digest_179 : decode cX3_digest 179 = .ok (.ldc2_w 187, 3) := by decide +kernel
theorem dX3_digest_182 : decode cX3_digest 182 = .ok (.lmul, 1) := by decide +kernel
theorem dX3_digest_183 : decode cX3_digest 183 = .ok (.aload_n 0, 1) := by decide +kernel
theorem dX3_digest_184 : decode cX3_digest 184 = .ok (.iload_n 3, 1) := by decide +kernel
theorem dX3_digest_185 : decode cX3_digest 185 = .ok (.bipush 30, 2) := by decide +kernel
theorem dX3_digest_187 : decode cX3_digest 187 = .ok (.invokevirtual 211, 3) := by decide +kernel
theorem dX3_digest_190 : decode cX3_digest 190 = .ok (.i2l, 1) := by decide +kernel
theorem dX3_digest_191 : decode cX3_digest 191 = .ok (.ladd, 1) := by decide +kernel
theorem dX3_digest_192 : decode cX3_digest 192 = .ok (.lstore_n 1, 1) := by decide +kernel
theorem dX3_digest_193 : decode cX3_digest 193 = .ok (.iinc 3 1, 3) := by decide +kernel
theorem dX3_digest_196 : decode cX3_digest 196 = .ok (.goto (-119), 3) := by decide +kernel
theorem dX3_digest_199 : decode cX3_digest 199 = .ok (.iconst 0, 1) := by decide +kernel
theorem dX3_digest_200 : decode cX3_digest 200 = .ok (.istore_n 3, 1) := by decide +kernel
theorem dX3_digest_201 : decode cX3_digest 201 = .ok (.iload_n 3, 1) := by decide +kernel
theorem dX3_digest_202 : decode cX3_digest 202 = .ok (.aload_n 0, 1) := by decide +kernel
theorem dX3_digest_203 : decode cX3_digest 203 = .ok (.getfield 10, 3) := by decide +kernel
theorem dX3_digest_206 : decode cX3_digest 206 = .ok (.getfield 31, 3) := by decide +kernel
theorem dX3_digest_209 : decode cX3_digest 209 = .ok (.getfield 52, 3) := by decide +kernel
theorem dX3_digest_212 : decode cX3_digest 212 = .ok (.if_icmp .ge 39, 3) := by decide +kernel
theorem dX3_digest_215 : decode cX3_digest 215 = .ok (.iconst 0, 1) := by decide +kernel
theorem dX3_digest_216 : decode cX3_digest 216 = .ok (.istore 4, 2) := by decide +kernel
theorem dX3_digest_218 : decode cX3_digest 218 = .ok (.iload 4, 2) := by decide +kernel
theorem dX3_digest_220 : decode cX3_digest 220 = .ok (.iconst 2, 1) := by decide +kernel
theorem dX3_digest_221 : decode cX3_digest 221 = .ok (.if_icmp .gt 24, 3) := by decide +kernel
theorem dX3_digest_224 : decode cX3_digest 224 = .ok (.lload_n 1, 1) := by decide +kernel
theorem dX3_digest_225 : decode cX3_digest 225 = .ok (.ldc2_w 187, 3) := by decide +kernel
theorem dX3_digest_228 : decode cX3_digest 228 = .ok (.lmul, 1) := by decide +kernel
theorem dX3_digest_229 : decode cX3_digest 229 = .ok (.aload_n 0, 1) := by decide +kernel
theorem dX3_digest_230 : decode cX3_digest 230 = .ok (.iload_n 3, 1) := by decide +kernel
theorem dX3_digest_231 : decode cX3_digest 231 = .ok (.iload 4, 2) := by decide +kernel
theorem dX3_digest_233 : decode cX3_digest 233 = .ok (.invokevirtual 214, 3) := by decide +kernel
theorem dX3_digest_236 : decode cX3_digest 236 = .ok (.i2l, 1) := by decide +kernel
theorem dX3_digest_237 : decode cX3_digest 237 = .ok (.ladd, 1) := by decide +kernel
theorem dX3_digest_238 : decode cX3_digest 238 = .ok (.lstore_n 1, 1) := by decide +kernel
theorem dX3_digest_239 : decode cX3_digest 239 = .ok (.iinc 4 1, 3) := by decide +kernel
theorem dX3_digest_242 : decode cX3_digest 242 = .ok (.goto (-24), 3) := by decide +kernel
theorem dX3_digest_245 : decode cX3_digest 245 = .ok (.iinc 3 1, 3) := by decide +kernel
theorem dX3_digest_248 : decode cX3_digest 248 = .ok (.goto (-47), 3) := by decide +kernel
theorem dX3_digest_251 : decode cX3_digest 251 = .ok (.lload_n 1, 1) := by decide +kernel
theorem dX3_digest_252 : decode cX3_digest 252 = .ok (.ldc2_w 187, 3) := by decide +kernel
theorem dX3_digest_255 : decode cX3_digest 255 = .ok (.lmul, 1) := by decide +kernel
theorem dX3_digest_256 : decode cX3_digest 256 = .ok (.aload_n 0, 1) := by decide +kernel
theorem dX3_digest_257 : decode cX3_digest 257 = .ok (.iconst 5, 1) := by decide +kernel
theorem dX3_digest_258 : decode cX3_digest 258 = .ok (.bipush 6, 2) := by decide +kernel
theorem dX3_digest_260 : decode cX3_digest 260 = .ok (.bipush 60, 2) := by decide +kernel
theorem dX3_digest_262 : decode cX3_digest 262 = .ok (.invokevirtual 217, 3) := by decide +kernel
theorem dX3_digest_265 : decode cX3_digest 265 = .ok (.i2l, 1) := by decide +kernel
theorem dX3_digest_266 : decode cX3_digest 266 = .ok (.ladd, 1) := by decide +kernel
theorem dX3_digest_267 : decode cX3_digest 267 = .ok (.lreturn, 1) := by decide +kernel
set_option maxRecDepth 20000 in
theorem ggX3_headAfterTrial_X0_goOn : GoodIn wsX3_headAfterTrial wsX0_goOn := goodIn_r _ [8, 9, 10, 11, 12, 13, 14, 15, 16, 17, 18, 19, 20, 21, 22, 7, 23, 24, 25, 26, 27, 28, 29, 30, 31, 32, 33, 34, 35, 36, 37, 38, 39, 40, 41, 42, 43, 44, 45, 46, 47, 48, 49, 50, 51, 52, 53, 54, 55, 56, 57, 58, 59, 60, 61, 62, 63, 64, 65, 66, 67, 68, 69, 70, 71, 72, 73, 74, 75, 76, 77, 78, 79, 80, 81, 82, 83, 84, 85, 86, 87, 88, 89, 90, 91, 92, 93, 94, 95, 96, 97, 98, 99, 100, 101, 102, 103, 104, 105, 106, 107, 108, 109, 110, 111, 112, 113, 114, 115, 116, 117, 118, 119, 120, 121, 122, 123, 124, 125, 126, 127, 128, 129, 130, 131, 132, 133, 134, 135, 136, 137, 138, 139, 140, 141, 142, 143, 144, 145, 146, 147, 148, 149, 150, 151, 152, 153, 154, 155, 156, 157, 160, 161, 162, 163, 164, 165, 166, 167, 168, 169, 170, 171, 172, 173, 174, 175, 176, 177, 178, 179, 180, 181, 182, 183, 184, 185, 186, 187, 188, 189, 190, 191] (by decide +kernel) (by decide +kernel)
set_option maxRecDepth 20000 in
theorem gX3_headAfterTrial_X0_goOn : GoodIn wsX3_headAfterTrial (wsV RX3 107 RX0 yX0_goOn wsX0_goOn) := goodIn_app (goodIn_of _ (by decide +kernel)) ggX3_headAfterTrial_X0_goOn
theorem dX3_headAfterTrial_0 : decode cX3_headAfterTrial 0 = .ok (.iconst 1, 1) := by decide +kernel
theorem dX3_headAfterTrial_1 : decode cX3_headAfterTrial 1 = .ok (.istore_n 3, 1) := by decide +kernel
theorem dX3_headAfterTrial_2 : decode cX3_headAfterTrial 2 = .ok (.iload_n 3, 1) := by decide +kernel
theorem dX3_headAfterTrial_3 : decode cX3_headAfterTrial 3 = .ok (.iload_n 2, 1) := by decide +kernel
theorem dX3_headAfterTrial_4 : decode cX3_headAfterTrial 4 = .ok (.if_icmp .gt 18, 3) := by decide +kernel
theorem dX3_headAfterTrial_7 : decode cX3_headAfterTrial 7 = .ok (.aload_n 0, 1) := by decide +kernel
theorem dX3_headAfterTrial_8 : decode cX3_headAfterTrial 8 = .ok (.getfield 16, 3) := by decide +kernel
theorem dX3_headAfterTrial_11 : decode cX3_headAfterTrial 11 = .ok (.iconst (-1), 1) := by decide +kernel
theorem dX3_headAfterTrial_12 : decode cX3_headAfterTrial 12 = .ok (.invokevirtual 107, 3) := by decide +kernel
theorem dX3_headAfterTrial_15 : decode cX3_headAfterTrial 15 = .ok (.pop, 1) := by decide +kernel
theorem dX3_headAfterTrial_16 : decode cX3_headAfterTrial 16 = .ok (.iinc 3 1, 3) := by decide +kernel
theorem dX3_headAfterTrial_19 : decode cX3_headAfterTrial 19 = .ok (.goto (-17), 3) := by decide +kernel
theorem dX3_headAfterTrial_22 : decode cX3_headAfterTrial 22 = .ok (.aload_n 0, 1) := by decide +kernel
theorem dX3_headAfterTrial_23 : decode cX3_headAfterTrial 23 = .ok (.getfield 16, 3) := by decide +kernel
theorem dX3_headAfterTrial_26 : decode cX3_headAfterTrial 26 = .ok (.getfield 80, 3) := by decide +kernel
theorem dX3_headAfterTrial_29 : decode cX3_headAfterTrial 29 = .ok (.iload_n 1, 1) := by decide +kernel
theorem dX3_headAfterTrial_30 : decode cX3_headAfterTrial 30 = .ok (.aaload, 1) := by decide +kernel
theorem dX3_headAfterTrial_31 : decode cX3_headAfterTrial 31 = .ok (.getfield 168, 3) := by decide +kernel
theorem dX3_headAfterTrial_34 : decode cX3_headAfterTrial 34 = .ok (.ireturn, 1) := by decide +kernel
set_option maxRecDepth 20000 in
theorem ggX3_needTrain_X3_needIndex : GoodIn wsX3_needTrain wsX3_needIndex := goodIn_ca (goodIn_r _ [6, 7, 8] (by decide +kernel) (by decide +kernel)) (goodIn_sub (fun _ h => List.mem_cons_of_mem _ (List.mem_append_right _ h)) (by decide +kernel))
set_option maxRecDepth 20000 in
theorem gX3_needTrain_X3_needIndex : GoodIn wsX3_needTrain (va_wsS RX3 99 yX3_needIndex wsX3_needIndex) := goodIn_app (goodIn_of _ (by decide +kernel)) ggX3_needTrain_X3_needIndex
theorem dX3_needTrain_0 : decode cX3_needTrain 0 = .ok (.iload_n 1, 1) := by decide +kernel
theorem dX3_needTrain_1 : decode cX3_needTrain 1 = .ok (.aload_n 0, 1) := by decide +kernel
theorem dX3_needTrain_2 : decode cX3_needTrain 2 = .ok (.getfield 10, 3) := by decide +kernel
theorem dX3_needTrain_5 : decode cX3_needTrain 5 = .ok (.getfield 67, 3) := by decide +kernel
theorem dX3_needTrain_8 : decode cX3_needTrain 8 = .ok (.invokestatic 99, 3) := by decide +kernel
theorem dX3_needTrain_11 : decode cX3_needTrain 11 = .ok (.return_, 1) := by decide +kernel
set_option maxRecDepth 20000 in
theorem ggX3_needSection_X3_needIndex : GoodIn wsX3_needSection wsX3_needIndex := goodIn_ca (goodIn_r _ [4, 5, 6] (by decide +kernel) (by decide +kernel)) (goodIn_sub (fun _ h => List.mem_cons_of_mem _ (List.mem_append_right _ h)) (by decide +kernel))
set_option maxRecDepth 20000 in
theorem gX3_needSection_X3_needIndex : GoodIn wsX3_needSection (va_wsS RX3 99 yX3_needIndex wsX3_needIndex) := goodIn_app (goodIn_of _ (by decide +kernel)) ggX3_needSection_X3_needIndex
theorem dX3_needSection_0 : decode cX3_needSection 0 = .ok (.iload_n 0, 1) := by decide +kernel
theorem dX3_needSection_1 : decode cX3_needSection 1 = .ok (.bipush 20, 2) := by decide +kernel
theorem dX3_needSection_3 : decode cX3_needSection 3 = .ok (.invokestatic 99, 3) := by decide +kernel
theorem dX3_needSection_6 : decode cX3_needSection 6 = .ok (.return_, 1) := by decide +kernel
theorem dX3_needIndex_0 : decode cX3_needIndex 0 = .ok (.iload_n 0, 1) := by decide +kernel
theorem dX3_needIndex_1 : decode cX3_needIndex 1 = .ok (.ifCond .lt 8, 3) := by decide +kernel
theorem dX3_needIndex_4 : decode cX3_needIndex 4 = .ok (.iload_n 0, 1) := by decide +kernel
theorem dX3_needIndex_5 : decode cX3_needIndex 5 = .ok (.iload_n 1, 1) := by decide +kernel
theorem dX3_needIndex_6 : decode cX3_needIndex 6 = .ok (.if_icmp .lt 13, 3) := by decide +kernel
theorem dX3_needIndex_9 : decode cX3_needIndex 9 = .ok (.new 220, 3) := by decide +kernel
theorem dX3_needIndex_12 : decode cX3_needIndex 12 = .ok (.dup, 1) := by decide +kernel
theorem dX3_needIndex_13 : decode cX3_needIndex 13 = .ok (.ldc 222, 2) := by decide +kernel
theorem dX3_needIndex_15 : decode cX3_needIndex 15 = .ok (.invokespecial 224, 3) := by decide +kernel
theorem dX3_needIndex_18 : decode cX3_needIndex 18 = .ok (.athrow, 1) := by decide +kernel
theorem dX3_needIndex_19 : decode cX3_needIndex 19 = .ok (.return_, 1) := by decide +kernel
theorem dX3_need_0 : decode cX3_need 0 = .ok (.iload_n 0, 1) := by decide +kernel
theorem dX3_need_1 : decode cX3_need 1 = .ok (.ifCond .ne 13, 3) := by decide +kernel
theorem dX3_need_4 : decode cX3_need 4 = .ok (.new 227, 3) := by decide +kernel
theorem dX3_need_7 : decode cX3_need 7 = .ok (.dup, 1) := by decide +kernel
theorem dX3_need_8 : decode cX3_need 8 = .ok (.ldc 229, 2) := by decide +kernel
theorem dX3_need_10 : decode cX3_need 10 = .ok (.invokespecial 231, 3) := by decide +kernel
theorem dX3_need_13 : decode cX3_need 13 = .ok (.athrow, 1) := by decide +kernel
theorem dX3_need_14 : decode cX3_need 14 = .ok (.return_, 1) := by decide +kernel
theorem dX3_needState_0 : decode cX3_needState 0 = .ok (.iload_n 0, 1) := by decide +kernel
theorem dX3_needState_1 : decode cX3_needState 1 = .ok (.ifCond .ne 13, 3) := by decide +kernel
theorem dX3_needState_4 : decode cX3_needState 4 = .ok (.new 232, 3) := by decide +kernel
theorem dX3_needState_7 : decode cX3_needState 7 = .ok (.dup, 1) := by decide +kernel
theorem dX3_needState_8 : decode cX3_needState 8 = .ok (.ldc 234, 2) := by decide +kernel
theorem dX3_needState_10 : decode cX3_needState 10 = .ok (.invokespecial 236, 3) := by decide +kernel
theorem dX3_needState_13 : decode cX3_needState 13 = .ok (.athrow, 1) := by decide +kernel
theorem dX3_needState_14 : decode cX3_needState 14 = .ok (.return_, 1) := by decide +kernel
theorem dX3_isWithin_0 : decode cX3_isWithin 0 = .ok (.iload_n 0, 1) := by decide +kernel
theorem dX3_isWithin_1 : decode cX3_isWithin 1 = .ok (.iload_n 1, 1) := by decide +kernel
theorem dX3_isWithin_2 : decode cX3_isWithin 2 = .ok (.if_icmp .lt 12, 3) := by decide +kernel
theorem dX3_isWithin_5 : decode cX3_isWithin 5 = .ok (.iload_n 0, 1) := by decide +kernel
theorem dX3_isWithin_6 : decode cX3_isWithin 6 = .ok (.iload_n 2, 1) := by decide +kernel
theorem dX3_isWithin_7 : decode cX3_isWithin 7 = .ok (.if_icmp .gt 7, 3) := by decide +kernel
theorem dX3_isWithin_10 : decode cX3_isWithin 10 = .ok (.iconst 1, 1) := by decide +kernel
theorem dX3_isWithin_11 : decode cX3_isWithin 11 = .ok (.goto 4, 3) := by decide +kernel
theorem dX3_isWithin_14 : decode cX3_isWithin 14 = .ok (.iconst 0, 1) := by decide +kernel
theorem dX3_isWithin_15 : decode cX3_isWithin 15 = .ok (.ireturn, 1) := by decide +kernel
theorem dX3_sectionAt_0 : decode cX3_sectionAt 0 = .ok (.iload_n 0, 1) := by decide +kernel
theorem dX3_sectionAt_1 : decode cX3_sectionAt 1 = .ok (.ifCond .ge 5, 3) := by decide +kernel
theorem dX3_sectionAt_4 : decode cX3_sectionAt 4 = .ok (.iconst 0, 1) := by decide +kernel
theorem dX3_sectionAt_5 : decode cX3_sectionAt 5 = .ok (.ireturn, 1) := by decide +kernel
theorem dX3_sectionAt_6 : decode cX3_sectionAt 6 = .ok (.iload_n 0, 1) := by decide +kernel
theorem dX3_sectionAt_7 : decode cX3_sectionAt 7 = .ok (.sipush 2999, 3) := by decide +kernel
theorem dX3_sectionAt_10 : decode cX3_sectionAt 10 = .ok (.if_icmp .le 8, 3) := by decide +kernel
theorem dX3_sectionAt_13 : decode cX3_sectionAt 13 = .ok (.bipush 19, 2) := by decide +kernel
theorem dX3_sectionAt_15 : decode cX3_sectionAt 15 = .ok (.goto 8, 3) := by decide +kernel
theorem dX3_sectionAt_18 : decode cX3_sectionAt 18 = .ok (.iload_n 0, 1) := by decide +kernel
theorem dX3_sectionAt_19 : decode cX3_sectionAt 19 = .ok (.sipush 150, 3) := by decide +kernel
theorem dX3_sectionAt_22 : decode cX3_sectionAt 22 = .ok (.idiv, 1) := by decide +kernel
theorem dX3_sectionAt_23 : decode cX3_sectionAt 23 = .ok (.ireturn, 1) := by decide +kernel
theorem dX3_firstMetreOf_0 : decode cX3_firstMetreOf 0 = .ok (.iload_n 0, 1) := by decide +kernel
theorem dX3_firstMetreOf_1 : decode cX3_firstMetreOf 1 = .ok (.sipush 150, 3) := by decide +kernel
theorem dX3_firstMetreOf_4 : decode cX3_firstMetreOf 4 = .ok (.imul, 1) := by decide +kernel
theorem dX3_firstMetreOf_5 : decode cX3_firstMetreOf 5 = .ok (.ireturn, 1) := by decide +kernel
theorem dX3_stopMetres_0 : decode cX3_stopMetres 0 = .ok (.iload_n 1, 1) := by decide +kernel
theorem dX3_stopMetres_1 : decode cX3_stopMetres 1 = .ok (.iconst 1, 1) := by decide +kernel
theorem dX3_stopMetres_2 : decode cX3_stopMetres 2 = .ok (.if_icmp .ge 7, 3) := by decide +kernel
theorem dX3_stopMetres_5 : decode cX3_stopMetres 5 = .ok (.iconst 2, 1) := by decide +kernel
theorem dX3_stopMetres_6 : decode cX3_stopMetres 6 = .ok (.goto 6, 3) := by decide +kernel
theorem dX3_stopMetres_9 : decode cX3_stopMetres 9 = .ok (.iconst 2, 1) := by decide +kernel
theorem dX3_stopMetres_10 : decode cX3_stopMetres 10 = .ok (.iload_n 1, 1) := by decide +kernel
theorem dX3_stopMetres_11 : decode cX3_stopMetres 11 = .ok (.imul, 1) := by decide +kernel
theorem dX3_stopMetres_12 : decode cX3_stopMetres 12 = .ok (.istore_n 2, 1) := by decide +kernel
theorem dX3_stopMetres_13 : decode cX3_stopMetres 13 = .ok (.iload_n 0, 1) := by decide +kernel
theorem dX3_stopMetres_14 : decode cX3_stopMetres 14 = .ok (.iload_n 0, 1) := by decide +kernel
theorem dX3_stopMetres_15 : decode cX3_stopMetres 15 = .ok (.iload_n 0, 1) := by decide +kernel
theorem dX3_stopMetres_16 : decode cX3_stopMetres 16 = .ok (.iconst 1, 1) := by decide +kernel
theorem dX3_stopMetres_17 : decode cX3_stopMetres 17 = .ok (.isub, 1) := by decide +kernel
theorem dX3_stopMetres_18 : decode cX3_stopMetres 18 = .ok (.imul, 1) := by decide +kernel
theorem dX3_stopMetres_19 : decode cX3_stopMetres 19 = .ok (.iload_n 2, 1) := by decide +kernel
theorem dX3_stopMetres_20 : decode cX3_stopMetres 20 = .ok (.iadd, 1) := by decide +kernel
theorem dX3_stopMetres_21 : decode cX3_stopMetres 21 = .ok (.iconst 1, 1) := by decide +kernel
theorem dX3_stopMetres_22 : decode cX3_stopMetres 22 = .ok (.isub, 1) := by decide +kernel
theorem dX3_stopMetres_23 : decode cX3_stopMetres 23 = .ok (.iload_n 2, 1) := by decide +kernel
theorem dX3_stopMetres_24 : decode cX3_stopMetres 24 = .ok (.idiv, 1) := by decide +kernel
theorem dX3_stopMetres_25 : decode cX3_stopMetres 25 = .ok (.iadd, 1) := by decide +kernel
theorem dX3_stopMetres_26 : decode cX3_stopMetres 26 = .ok (.ireturn, 1) := by decide +kernel
end
section
/-! V: a run of one method, told by its world (cells), its listed locals, its place and its stack; the heap, the written places and the slots are any that hold these. X bundles what stays the same. -/
def VC : Type := Program × Launch × Env × Room × State × MethodId × Array Value × List Frame × Method × Code × va_G × List vw_C × (Nat → Prop) × (State → Prop) × Nat
def V (X : VC) (kc ks : Nat) (ws : va_W) (lv : List (Nat × Value)) (pc : Nat) (st : List Value) : Prop := match X with
  | (p, l, e, R, s, m, args, below, meth, c, D, cl, A, Q, nL) => ∀ (H : Heap) (locs : List Loc) (ls : Array Slot), va_P D cl ws H → va_D A ws → va_S A s.heap H locs → lv_has ls nL lv → W p l e R s m args below meth c H locs kc ks Q (F0 m pc ls st)
/-- what is known of X -/
def Cx (X : VC) (l : Launch) (R : Room) (D : va_G) (cl : List vw_C) (tys : List (ClassId × FieldType)) (A : Nat → Prop) (cc : ByteArray) (nL : Nat) (own : String) (Ts : List Cond) (ret : Option FieldType) : Prop := match X with
  | (p, l', _, R', s, m, args, _, meth, c, D', cl', A', _, nL') => l' = l ∧ R' = R ∧ D' = D ∧ cl' = cl ∧ A' = A ∧ nL' = nL ∧ CallFix p m c cc nL s args Ts own ∧ va_K D cl tys s ∧ (∀ q : Nat, s.heap.size ≤ q → A q) ∧ meth.sig.returnType = ret ∧ meth.locks = false
/-- a word that the method has holds at its start -/
def Wd (X : VC) (w : Cond) : Prop := match X with
  | (_, _, _, _, s, _, args, _, _, _, _, _, _, _, _) => w.before args s = true
theorem Cx.wd {X : VC} {l : Launch} {R : Room} {D : va_G} {cl : List vw_C} {tys : List (ClassId × FieldType)} {A : Nat → Prop} {cc : ByteArray} {nL : Nat} {own : String} {Ts : List Cond} {ret : Option FieldType} {kc ks pc q : Nat} {ws : va_W} {lv : List (Nat × Value)} {rest : List Value} (hC : Cx X l R D cl tys A cc nL own Ts ret) {w : Cond} (h : w ∈ Ts) : Wd X w := by
  obtain ⟨p, l, e, R, s, m, args, below, meth, c, D, cl, A, Q, nL⟩ := X
  obtain ⟨rfl, rfl, rfl, rfl, rfl, rfl, hF, hK, hA, hr, hlk⟩ := hC
  exact hF.2.2.2.2 w h
def lk (lv : List (Nat × Value)) (i : Nat) : Option Value := match lv with
  | [] => none
  | q :: r => if q.1 = i then some q.2 else lk r i
theorem lk_mem : ∀ {lv : List (Nat × Value)} {i : Nat} {v : Value}, lk lv i = some v → (i, v) ∈ lv
  | [], _, _, h => by cases h
  | q :: r, i, v, h => by
    by_cases e : q.1 = i
    · rw [lk, if_pos e] at h
      cases h
      subst e
      exact List.mem_cons_self
    · rw [lk, if_neg e] at h
      exact List.mem_cons_of_mem _ (lk_mem h)
theorem lk_at {ls : Array Slot} {nL : Nat} {l : List (Nat × Value)} (h : lv_has ls nL l) {i : Nat} {v : Value} (hk : lk l i = some v) : ls[i]? = some (.val v) := h.2.2 (i, v) (lk_mem hk)
def l1 (lv : List (Nat × Value)) (i : Nat) (v : Value) : List (Nat × Value) := (i, v) :: lv.filter (fun q => !(q.1 == i) && !(q.1 + 1 == i && q.2.category == 2))
def l2 (lv : List (Nat × Value)) (i : Nat) (v : Value) : List (Nat × Value) := (i, v) :: lv.filter (fun q => !(q.1 == i) && (!(q.1 == i + 1) && !(q.1 + 1 == i && q.2.category == 2)))
/-- fewer listed locals, by their numbers -/
theorem V_lv {X : VC} {kc ks pc : Nat} {ws : va_W} {lv lv' : List (Nat × Value)} {st : List Value} (h : ∀ q ∈ lv', lk lv q.1 = some q.2) (k : V X kc ks ws lv' pc st) : V X kc ks ws lv pc st := by
  obtain ⟨p, l, e, R, s, m, args, below, meth, c, D, cl, A, Q, nL⟩ := X
  exact fun H locs ls hP hD hS hl => k H locs ls hP hD hS ⟨hl.1, hl.2.1, fun q hq => lk_at hl (h q hq)⟩
theorem V_ws {X : VC} {kc ks pc : Nat} {ws ws' : va_W} {lv : List (Nat × Value)} {st : List Value} (h : ws = ws') (k : V X kc ks ws' lv pc st) : V X kc ks ws lv pc st := h ▸ k
theorem V_st {X : VC} {kc ks pc : Nat} {ws : va_W} {lv : List (Nat × Value)} {st st' : List Value} (h : st = st') (k : V X kc ks ws lv pc st') : V X kc ks ws lv pc st := h ▸ k
theorem V_widen {X : VC} {kc ks pc k n : Nat} {ws : va_W} {lv : List (Nat × Value)} {st : List Value} (h1 : kc ≤ k) (h2 : ks ≤ n) (kk : V X k n ws lv pc st) : V X kc ks ws lv pc st := by
  obtain ⟨p, l, e, R, s, m, args, below, meth, c, D, cl, A, Q, nL⟩ := X
  exact fun H locs ls hP hD hS hl => W.widen h1 h2 (kk H locs ls hP hD hS hl)
theorem V_iconst {X : VC} {l : Launch} {R : Room} {D : va_G} {cl : List vw_C} {tys : List (ClassId × FieldType)} {A : Nat → Prop} {cc : ByteArray} {nL : Nat} {own : String} {Ts : List Cond} {ret : Option FieldType} {kc ks pc q : Nat} {ws : va_W} {lv : List (Nat × Value)} {rest : List Value} (hC : Cx X l R D cl tys A cc nL own Ts ret) {n : Int} {v : Int32} (hd : decode cc pc = .ok (.iconst n, 1)) (hv : Int32.ofInt n = v) (hq : pc + 1 = q) (k : V X kc ks ws lv q (.int v :: rest)) : V X kc ks ws lv pc (rest) := by
  obtain ⟨p, l, e, R, s, m, args, below, meth, c, D, cl, A, Q, nL⟩ := X
  obtain ⟨rfl, rfl, rfl, rfl, rfl, rfl, hF, hK, hA, hr, hlk⟩ := hC
  obtain ⟨hx, hb, hml, hown, hts⟩ := hF
  subst hq
  exact fun H locs ls hP hD hS hl => lv_iconst hx hb hd hv (k H locs ls hP hD hS hl)
theorem V_bipush {X : VC} {l : Launch} {R : Room} {D : va_G} {cl : List vw_C} {tys : List (ClassId × FieldType)} {A : Nat → Prop} {cc : ByteArray} {nL : Nat} {own : String} {Ts : List Cond} {ret : Option FieldType} {kc ks pc q : Nat} {ws : va_W} {lv : List (Nat × Value)} {rest : List Value} (hC : Cx X l R D cl tys A cc nL own Ts ret) {n : Int} {v : Int32} (hd : decode cc pc = .ok (.bipush n, 2)) (hv : (Int8.ofInt n).toInt32 = v) (hq : pc + 2 = q) (k : V X kc ks ws lv q (.int v :: rest)) : V X kc ks ws lv pc (rest) := by
  obtain ⟨p, l, e, R, s, m, args, below, meth, c, D, cl, A, Q, nL⟩ := X
  obtain ⟨rfl, rfl, rfl, rfl, rfl, rfl, hF, hK, hA, hr, hlk⟩ := hC
  obtain ⟨hx, hb, hml, hown, hts⟩ := hF
  subst hq
  exact fun H locs ls hP hD hS hl => lv_bipush hx hb hd hv (k H locs ls hP hD hS hl)
theorem V_sipush {X : VC} {l : Launch} {R : Room} {D : va_G} {cl : List vw_C} {tys : List (ClassId × FieldType)} {A : Nat → Prop} {cc : ByteArray} {nL : Nat} {own : String} {Ts : List Cond} {ret : Option FieldType} {kc ks pc q : Nat} {ws : va_W} {lv : List (Nat × Value)} {rest : List Value} (hC : Cx X l R D cl tys A cc nL own Ts ret) {n : Int} {v : Int32} (hd : decode cc pc = .ok (.sipush n, 3)) (hv : (Int16.ofInt n).toInt32 = v) (hq : pc + 3 = q) (k : V X kc ks ws lv q (.int v :: rest)) : V X kc ks ws lv pc (rest) := by
  obtain ⟨p, l, e, R, s, m, args, below, meth, c, D, cl, A, Q, nL⟩ := X
  obtain ⟨rfl, rfl, rfl, rfl, rfl, rfl, hF, hK, hA, hr, hlk⟩ := hC
  obtain ⟨hx, hb, hml, hown, hts⟩ := hF
  subst hq
  exact fun H locs ls hP hD hS hl => lv_sipush hx hb hd hv (k H locs ls hP hD hS hl)
theorem V_ldc {X : VC} {l : Launch} {R : Room} {D : va_G} {cl : List vw_C} {tys : List (ClassId × FieldType)} {A : Nat → Prop} {cc : ByteArray} {nL : Nat} {own : String} {Ts : List Cond} {ret : Option FieldType} {kc ks pc q : Nat} {ws : va_W} {lv : List (Nat × Value)} {rest : List Value} (hC : Cx X l R D cl tys A cc nL own Ts ret) {index : Nat} {v : Int32} (hd : decode cc pc = .ok (.ldc index, 2)) (hw : Cond.constant own index v ∈ Ts) (hq : pc + 2 = q) (k : V X kc ks ws lv q (.int v :: rest)) : V X kc ks ws lv pc (rest) := by
  obtain ⟨p, l, e, R, s, m, args, below, meth, c, D, cl, A, Q, nL⟩ := X
  obtain ⟨rfl, rfl, rfl, rfl, rfl, rfl, hF, hK, hA, hr, hlk⟩ := hC
  obtain ⟨hx, hb, hml, hown, hts⟩ := hF
  subst hq
  exact fun H locs ls hP hD hS hl => lv_ldc hx hb hown (hts _ hw) hd (k H locs ls hP hD hS hl)
theorem V_ldc2 {X : VC} {l : Launch} {R : Room} {D : va_G} {cl : List vw_C} {tys : List (ClassId × FieldType)} {A : Nat → Prop} {cc : ByteArray} {nL : Nat} {own : String} {Ts : List Cond} {ret : Option FieldType} {kc ks pc q : Nat} {ws : va_W} {lv : List (Nat × Value)} {rest : List Value} (hC : Cx X l R D cl tys A cc nL own Ts ret) {index : Nat} {v : Int64} (hd : decode cc pc = .ok (.ldc2_w index, 3)) (hw : Cond.constantLong own index v ∈ Ts) (hq : pc + 3 = q) (k : V X kc ks ws lv q (.long v :: rest)) : V X kc ks ws lv pc (rest) := by
  obtain ⟨p, l, e, R, s, m, args, below, meth, c, D, cl, A, Q, nL⟩ := X
  obtain ⟨rfl, rfl, rfl, rfl, rfl, rfl, hF, hK, hA, hr, hlk⟩ := hC
  obtain ⟨hx, hb, hml, hown, hts⟩ := hF
  subst hq
  exact fun H locs ls hP hD hS hl => lv_ldc2 hx hb hown (hts _ hw) hd (k H locs ls hP hD hS hl)
theorem V_iload_n {X : VC} {l : Launch} {R : Room} {D : va_G} {cl : List vw_C} {tys : List (ClassId × FieldType)} {A : Nat → Prop} {cc : ByteArray} {nL : Nat} {own : String} {Ts : List Cond} {ret : Option FieldType} {kc ks pc q : Nat} {ws : va_W} {lv : List (Nat × Value)} {rest : List Value} (hC : Cx X l R D cl tys A cc nL own Ts ret) {j : Fin 4} {i : Nat} {x : Int32} (hd : decode cc pc = .ok (.iload_n j, 1)) (hi : (j : Nat) = i) (h : lk lv i = some (.int x)) (hq : pc + 1 = q) (k : V X kc ks ws lv q (.int x :: rest)) : V X kc ks ws lv pc (rest) := by
  obtain ⟨p, l, e, R, s, m, args, below, meth, c, D, cl, A, Q, nL⟩ := X
  obtain ⟨rfl, rfl, rfl, rfl, rfl, rfl, hF, hK, hA, hr, hlk⟩ := hC
  obtain ⟨hx, hb, hml, hown, hts⟩ := hF
  subst hq
  exact fun H locs ls hP hD hS hl => lv_iload_n hx hb hd hi (lk_at hl h) (k H locs ls hP hD hS hl)
theorem V_iload {X : VC} {l : Launch} {R : Room} {D : va_G} {cl : List vw_C} {tys : List (ClassId × FieldType)} {A : Nat → Prop} {cc : ByteArray} {nL : Nat} {own : String} {Ts : List Cond} {ret : Option FieldType} {kc ks pc q : Nat} {ws : va_W} {lv : List (Nat × Value)} {rest : List Value} (hC : Cx X l R D cl tys A cc nL own Ts ret) {i : Nat} {x : Int32} (hd : decode cc pc = .ok (.iload i, 2)) (h : lk lv i = some (.int x)) (hq : pc + 2 = q) (k : V X kc ks ws lv q (.int x :: rest)) : V X kc ks ws lv pc (rest) := by
  obtain ⟨p, l, e, R, s, m, args, below, meth, c, D, cl, A, Q, nL⟩ := X
  obtain ⟨rfl, rfl, rfl, rfl, rfl, rfl, hF, hK, hA, hr, hlk⟩ := hC
  obtain ⟨hx, hb, hml, hown, hts⟩ := hF
  subst hq
  exact fun H locs ls hP hD hS hl => lv_iload hx hb hd (lk_at hl h) (k H locs ls hP hD hS hl)
theorem V_istore_n {X : VC} {l : Launch} {R : Room} {D : va_G} {cl : List vw_C} {tys : List (ClassId × FieldType)} {A : Nat → Prop} {cc : ByteArray} {nL : Nat} {own : String} {Ts : List Cond} {ret : Option FieldType} {kc ks pc q : Nat} {ws : va_W} {lv : List (Nat × Value)} {rest : List Value} (hC : Cx X l R D cl tys A cc nL own Ts ret) {j : Fin 4} {i : Nat} {x : Int32} (hd : decode cc pc = .ok (.istore_n j, 1)) (hi : (j : Nat) = i) (hn : i < nL) (hq : pc + 1 = q) (k : V X kc ks ws (l1 lv i (.int x)) q rest) : V X kc ks ws lv pc (.int x :: rest) := by
  obtain ⟨p, l, e, R, s, m, args, below, meth, c, D, cl, A, Q, nL⟩ := X
  obtain ⟨rfl, rfl, rfl, rfl, rfl, rfl, hF, hK, hA, hr, hlk⟩ := hC
  obtain ⟨hx, hb, hml, hown, hts⟩ := hF
  subst hq
  exact fun H locs ls hP hD hS hl => lv_istore_n hx hb hd hi hl hn rfl (fun ls hl => k H locs ls hP hD hS hl)
theorem V_istore {X : VC} {l : Launch} {R : Room} {D : va_G} {cl : List vw_C} {tys : List (ClassId × FieldType)} {A : Nat → Prop} {cc : ByteArray} {nL : Nat} {own : String} {Ts : List Cond} {ret : Option FieldType} {kc ks pc q : Nat} {ws : va_W} {lv : List (Nat × Value)} {rest : List Value} (hC : Cx X l R D cl tys A cc nL own Ts ret) {i : Nat} {x : Int32} (hd : decode cc pc = .ok (.istore i, 2))  (hn : i < nL) (hq : pc + 2 = q) (k : V X kc ks ws (l1 lv i (.int x)) q rest) : V X kc ks ws lv pc (.int x :: rest) := by
  obtain ⟨p, l, e, R, s, m, args, below, meth, c, D, cl, A, Q, nL⟩ := X
  obtain ⟨rfl, rfl, rfl, rfl, rfl, rfl, hF, hK, hA, hr, hlk⟩ := hC
  obtain ⟨hx, hb, hml, hown, hts⟩ := hF
  subst hq
  exact fun H locs ls hP hD hS hl => lv_istore hx hb hd hl hn rfl (fun ls hl => k H locs ls hP hD hS hl)
theorem V_lload_n {X : VC} {l : Launch} {R : Room} {D : va_G} {cl : List vw_C} {tys : List (ClassId × FieldType)} {A : Nat → Prop} {cc : ByteArray} {nL : Nat} {own : String} {Ts : List Cond} {ret : Option FieldType} {kc ks pc q : Nat} {ws : va_W} {lv : List (Nat × Value)} {rest : List Value} (hC : Cx X l R D cl tys A cc nL own Ts ret) {j : Fin 4} {i : Nat} {x : Int64} (hd : decode cc pc = .ok (.lload_n j, 1)) (hi : (j : Nat) = i) (h : lk lv i = some (.long x)) (hq : pc + 1 = q) (k : V X kc ks ws lv q (.long x :: rest)) : V X kc ks ws lv pc (rest) := by
  obtain ⟨p, l, e, R, s, m, args, below, meth, c, D, cl, A, Q, nL⟩ := X
  obtain ⟨rfl, rfl, rfl, rfl, rfl, rfl, hF, hK, hA, hr, hlk⟩ := hC
  obtain ⟨hx, hb, hml, hown, hts⟩ := hF
  subst hq
  exact fun H locs ls hP hD hS hl => lv_lload_n hx hb hd hi (lk_at hl h) (k H locs ls hP hD hS hl)
theorem V_lload {X : VC} {l : Launch} {R : Room} {D : va_G} {cl : List vw_C} {tys : List (ClassId × FieldType)} {A : Nat → Prop} {cc : ByteArray} {nL : Nat} {own : String} {Ts : List Cond} {ret : Option FieldType} {kc ks pc q : Nat} {ws : va_W} {lv : List (Nat × Value)} {rest : List Value} (hC : Cx X l R D cl tys A cc nL own Ts ret) {i : Nat} {x : Int64} (hd : decode cc pc = .ok (.lload i, 2)) (h : lk lv i = some (.long x)) (hq : pc + 2 = q) (k : V X kc ks ws lv q (.long x :: rest)) : V X kc ks ws lv pc (rest) := by
  obtain ⟨p, l, e, R, s, m, args, below, meth, c, D, cl, A, Q, nL⟩ := X
  obtain ⟨rfl, rfl, rfl, rfl, rfl, rfl, hF, hK, hA, hr, hlk⟩ := hC
  obtain ⟨hx, hb, hml, hown, hts⟩ := hF
  subst hq
  exact fun H locs ls hP hD hS hl => lv_lload hx hb hd (lk_at hl h) (k H locs ls hP hD hS hl)
theorem V_lstore_n {X : VC} {l : Launch} {R : Room} {D : va_G} {cl : List vw_C} {tys : List (ClassId × FieldType)} {A : Nat → Prop} {cc : ByteArray} {nL : Nat} {own : String} {Ts : List Cond} {ret : Option FieldType} {kc ks pc q : Nat} {ws : va_W} {lv : List (Nat × Value)} {rest : List Value} (hC : Cx X l R D cl tys A cc nL own Ts ret) {j : Fin 4} {i : Nat} {x : Int64} (hd : decode cc pc = .ok (.lstore_n j, 1)) (hi : (j : Nat) = i) (hn : i + 1 < nL) (hq : pc + 1 = q) (k : V X kc ks ws (l2 lv i (.long x)) q rest) : V X kc ks ws lv pc (.long x :: rest) := by
  obtain ⟨p, l, e, R, s, m, args, below, meth, c, D, cl, A, Q, nL⟩ := X
  obtain ⟨rfl, rfl, rfl, rfl, rfl, rfl, hF, hK, hA, hr, hlk⟩ := hC
  obtain ⟨hx, hb, hml, hown, hts⟩ := hF
  subst hq
  exact fun H locs ls hP hD hS hl => lv_lstore_n hx hb hd hi hl hn rfl (fun ls hl => k H locs ls hP hD hS hl)
theorem V_lstore {X : VC} {l : Launch} {R : Room} {D : va_G} {cl : List vw_C} {tys : List (ClassId × FieldType)} {A : Nat → Prop} {cc : ByteArray} {nL : Nat} {own : String} {Ts : List Cond} {ret : Option FieldType} {kc ks pc q : Nat} {ws : va_W} {lv : List (Nat × Value)} {rest : List Value} (hC : Cx X l R D cl tys A cc nL own Ts ret) {i : Nat} {x : Int64} (hd : decode cc pc = .ok (.lstore i, 2))  (hn : i + 1 < nL) (hq : pc + 2 = q) (k : V X kc ks ws (l2 lv i (.long x)) q rest) : V X kc ks ws lv pc (.long x :: rest) := by
  obtain ⟨p, l, e, R, s, m, args, below, meth, c, D, cl, A, Q, nL⟩ := X
  obtain ⟨rfl, rfl, rfl, rfl, rfl, rfl, hF, hK, hA, hr, hlk⟩ := hC
  obtain ⟨hx, hb, hml, hown, hts⟩ := hF
  subst hq
  exact fun H locs ls hP hD hS hl => lv_lstore hx hb hd hl hn rfl (fun ls hl => k H locs ls hP hD hS hl)
theorem V_aload_n {X : VC} {l : Launch} {R : Room} {D : va_G} {cl : List vw_C} {tys : List (ClassId × FieldType)} {A : Nat → Prop} {cc : ByteArray} {nL : Nat} {own : String} {Ts : List Cond} {ret : Option FieldType} {kc ks pc q : Nat} {ws : va_W} {lv : List (Nat × Value)} {rest : List Value} (hC : Cx X l R D cl tys A cc nL own Ts ret) {j : Fin 4} {i : Nat} {x : Nat} (hd : decode cc pc = .ok (.aload_n j, 1)) (hi : (j : Nat) = i) (h : lk lv i = some (.ref x)) (hq : pc + 1 = q) (k : V X kc ks ws lv q (.ref x :: rest)) : V X kc ks ws lv pc (rest) := by
  obtain ⟨p, l, e, R, s, m, args, below, meth, c, D, cl, A, Q, nL⟩ := X
  obtain ⟨rfl, rfl, rfl, rfl, rfl, rfl, hF, hK, hA, hr, hlk⟩ := hC
  obtain ⟨hx, hb, hml, hown, hts⟩ := hF
  subst hq
  exact fun H locs ls hP hD hS hl => lv_aload_n hx hb hd hi (lk_at hl h) (k H locs ls hP hD hS hl)
theorem V_aload {X : VC} {l : Launch} {R : Room} {D : va_G} {cl : List vw_C} {tys : List (ClassId × FieldType)} {A : Nat → Prop} {cc : ByteArray} {nL : Nat} {own : String} {Ts : List Cond} {ret : Option FieldType} {kc ks pc q : Nat} {ws : va_W} {lv : List (Nat × Value)} {rest : List Value} (hC : Cx X l R D cl tys A cc nL own Ts ret) {i : Nat} {x : Nat} (hd : decode cc pc = .ok (.aload i, 2)) (h : lk lv i = some (.ref x)) (hq : pc + 2 = q) (k : V X kc ks ws lv q (.ref x :: rest)) : V X kc ks ws lv pc (rest) := by
  obtain ⟨p, l, e, R, s, m, args, below, meth, c, D, cl, A, Q, nL⟩ := X
  obtain ⟨rfl, rfl, rfl, rfl, rfl, rfl, hF, hK, hA, hr, hlk⟩ := hC
  obtain ⟨hx, hb, hml, hown, hts⟩ := hF
  subst hq
  exact fun H locs ls hP hD hS hl => lv_aload hx hb hd (lk_at hl h) (k H locs ls hP hD hS hl)
theorem V_astore_n {X : VC} {l : Launch} {R : Room} {D : va_G} {cl : List vw_C} {tys : List (ClassId × FieldType)} {A : Nat → Prop} {cc : ByteArray} {nL : Nat} {own : String} {Ts : List Cond} {ret : Option FieldType} {kc ks pc q : Nat} {ws : va_W} {lv : List (Nat × Value)} {rest : List Value} (hC : Cx X l R D cl tys A cc nL own Ts ret) {j : Fin 4} {i : Nat} {x : Nat} (hd : decode cc pc = .ok (.astore_n j, 1)) (hi : (j : Nat) = i) (hn : i < nL) (hq : pc + 1 = q) (k : V X kc ks ws (l1 lv i (.ref x)) q rest) : V X kc ks ws lv pc (.ref x :: rest) := by
  obtain ⟨p, l, e, R, s, m, args, below, meth, c, D, cl, A, Q, nL⟩ := X
  obtain ⟨rfl, rfl, rfl, rfl, rfl, rfl, hF, hK, hA, hr, hlk⟩ := hC
  obtain ⟨hx, hb, hml, hown, hts⟩ := hF
  subst hq
  exact fun H locs ls hP hD hS hl => lv_astore_n hx hb hd hi hl hn rfl (fun ls hl => k H locs ls hP hD hS hl)
theorem V_astore {X : VC} {l : Launch} {R : Room} {D : va_G} {cl : List vw_C} {tys : List (ClassId × FieldType)} {A : Nat → Prop} {cc : ByteArray} {nL : Nat} {own : String} {Ts : List Cond} {ret : Option FieldType} {kc ks pc q : Nat} {ws : va_W} {lv : List (Nat × Value)} {rest : List Value} (hC : Cx X l R D cl tys A cc nL own Ts ret) {i : Nat} {x : Nat} (hd : decode cc pc = .ok (.astore i, 2))  (hn : i < nL) (hq : pc + 2 = q) (k : V X kc ks ws (l1 lv i (.ref x)) q rest) : V X kc ks ws lv pc (.ref x :: rest) := by
  obtain ⟨p, l, e, R, s, m, args, below, meth, c, D, cl, A, Q, nL⟩ := X
  obtain ⟨rfl, rfl, rfl, rfl, rfl, rfl, hF, hK, hA, hr, hlk⟩ := hC
  obtain ⟨hx, hb, hml, hown, hts⟩ := hF
  subst hq
  exact fun H locs ls hP hD hS hl => lv_astore hx hb hd hl hn rfl (fun ls hl => k H locs ls hP hD hS hl)
theorem V_dload_n {X : VC} {l : Launch} {R : Room} {D : va_G} {cl : List vw_C} {tys : List (ClassId × FieldType)} {A : Nat → Prop} {cc : ByteArray} {nL : Nat} {own : String} {Ts : List Cond} {ret : Option FieldType} {kc ks pc q : Nat} {ws : va_W} {lv : List (Nat × Value)} {rest : List Value} (hC : Cx X l R D cl tys A cc nL own Ts ret) {j : Fin 4} {i : Nat} {x : UInt64} (hd : decode cc pc = .ok (.dload_n j, 1)) (hi : (j : Nat) = i) (h : lk lv i = some (.double x)) (hq : pc + 1 = q) (k : V X kc ks ws lv q (.double x :: rest)) : V X kc ks ws lv pc (rest) := by
  obtain ⟨p, l, e, R, s, m, args, below, meth, c, D, cl, A, Q, nL⟩ := X
  obtain ⟨rfl, rfl, rfl, rfl, rfl, rfl, hF, hK, hA, hr, hlk⟩ := hC
  obtain ⟨hx, hb, hml, hown, hts⟩ := hF
  subst hq
  exact fun H locs ls hP hD hS hl => lv_dload_n hx hb hd hi (lk_at hl h) (k H locs ls hP hD hS hl)
theorem V_dload {X : VC} {l : Launch} {R : Room} {D : va_G} {cl : List vw_C} {tys : List (ClassId × FieldType)} {A : Nat → Prop} {cc : ByteArray} {nL : Nat} {own : String} {Ts : List Cond} {ret : Option FieldType} {kc ks pc q : Nat} {ws : va_W} {lv : List (Nat × Value)} {rest : List Value} (hC : Cx X l R D cl tys A cc nL own Ts ret) {i : Nat} {x : UInt64} (hd : decode cc pc = .ok (.dload i, 2)) (h : lk lv i = some (.double x)) (hq : pc + 2 = q) (k : V X kc ks ws lv q (.double x :: rest)) : V X kc ks ws lv pc (rest) := by
  obtain ⟨p, l, e, R, s, m, args, below, meth, c, D, cl, A, Q, nL⟩ := X
  obtain ⟨rfl, rfl, rfl, rfl, rfl, rfl, hF, hK, hA, hr, hlk⟩ := hC
  obtain ⟨hx, hb, hml, hown, hts⟩ := hF
  subst hq
  exact fun H locs ls hP hD hS hl => lv_dload hx hb hd (lk_at hl h) (k H locs ls hP hD hS hl)
theorem V_dstore_n {X : VC} {l : Launch} {R : Room} {D : va_G} {cl : List vw_C} {tys : List (ClassId × FieldType)} {A : Nat → Prop} {cc : ByteArray} {nL : Nat} {own : String} {Ts : List Cond} {ret : Option FieldType} {kc ks pc q : Nat} {ws : va_W} {lv : List (Nat × Value)} {rest : List Value} (hC : Cx X l R D cl tys A cc nL own Ts ret) {j : Fin 4} {i : Nat} {x : UInt64} (hd : decode cc pc = .ok (.dstore_n j, 1)) (hi : (j : Nat) = i) (hn : i + 1 < nL) (hq : pc + 1 = q) (k : V X kc ks ws (l2 lv i (.double x)) q rest) : V X kc ks ws lv pc (.double x :: rest) := by
  obtain ⟨p, l, e, R, s, m, args, below, meth, c, D, cl, A, Q, nL⟩ := X
  obtain ⟨rfl, rfl, rfl, rfl, rfl, rfl, hF, hK, hA, hr, hlk⟩ := hC
  obtain ⟨hx, hb, hml, hown, hts⟩ := hF
  subst hq
  exact fun H locs ls hP hD hS hl => lv_dstore_n hx hb hd hi hl hn rfl (fun ls hl => k H locs ls hP hD hS hl)
theorem V_dstore {X : VC} {l : Launch} {R : Room} {D : va_G} {cl : List vw_C} {tys : List (ClassId × FieldType)} {A : Nat → Prop} {cc : ByteArray} {nL : Nat} {own : String} {Ts : List Cond} {ret : Option FieldType} {kc ks pc q : Nat} {ws : va_W} {lv : List (Nat × Value)} {rest : List Value} (hC : Cx X l R D cl tys A cc nL own Ts ret) {i : Nat} {x : UInt64} (hd : decode cc pc = .ok (.dstore i, 2))  (hn : i + 1 < nL) (hq : pc + 2 = q) (k : V X kc ks ws (l2 lv i (.double x)) q rest) : V X kc ks ws lv pc (.double x :: rest) := by
  obtain ⟨p, l, e, R, s, m, args, below, meth, c, D, cl, A, Q, nL⟩ := X
  obtain ⟨rfl, rfl, rfl, rfl, rfl, rfl, hF, hK, hA, hr, hlk⟩ := hC
  obtain ⟨hx, hb, hml, hown, hts⟩ := hF
  subst hq
  exact fun H locs ls hP hD hS hl => lv_dstore hx hb hd hl hn rfl (fun ls hl => k H locs ls hP hD hS hl)
theorem V_iinc {X : VC} {l : Launch} {R : Room} {D : va_G} {cl : List vw_C} {tys : List (ClassId × FieldType)} {A : Nat → Prop} {cc : ByteArray} {nL : Nat} {own : String} {Ts : List Cond} {ret : Option FieldType} {kc ks pc q : Nat} {ws : va_W} {lv : List (Nat × Value)} {rest : List Value} (hC : Cx X l R D cl tys A cc nL own Ts ret) {i : Nat} {n : Int} {x v : Int32} (hd : decode cc pc = .ok (.iinc i n, 3)) (h : lk lv i = some (.int x)) (hv : x + Int32.ofInt n = v) (hn : i < nL) (hq : pc + 3 = q) (k : V X kc ks ws (l1 lv i (.int v)) q rest) : V X kc ks ws lv pc rest := by
  obtain ⟨p, l, e, R, s, m, args, below, meth, c, D, cl, A, Q, nL⟩ := X
  obtain ⟨rfl, rfl, rfl, rfl, rfl, rfl, hF, hK, hA, hr, hlk⟩ := hC
  obtain ⟨hx, hb, hml, hown, hts⟩ := hF
  subst hq
  intro H locs ls hP hD hS hl
  obtain ⟨j, hj⟩ := List.mem_iff_getElem?.mp (lk_mem h)
  exact lv_iinc hx hb hd hl hj hv hn rfl (fun ls hl => k H locs ls hP hD hS hl)
theorem V_iadd {X : VC} {l : Launch} {R : Room} {D : va_G} {cl : List vw_C} {tys : List (ClassId × FieldType)} {A : Nat → Prop} {cc : ByteArray} {nL : Nat} {own : String} {Ts : List Cond} {ret : Option FieldType} {kc ks pc q : Nat} {ws : va_W} {lv : List (Nat × Value)} {rest : List Value} (hC : Cx X l R D cl tys A cc nL own Ts ret) {x y : Int32} (hd : decode cc pc = .ok (.iadd, 1))  (hq : pc + 1 = q) (k : V X kc ks ws lv q (.int (x + y) :: rest)) : V X kc ks ws lv pc (.int y :: .int x :: rest) := by
  obtain ⟨p, l, e, R, s, m, args, below, meth, c, D, cl, A, Q, nL⟩ := X
  obtain ⟨rfl, rfl, rfl, rfl, rfl, rfl, hF, hK, hA, hr, hlk⟩ := hC
  obtain ⟨hx, hb, hml, hown, hts⟩ := hF
  subst hq
  exact fun H locs ls hP hD hS hl => lv_iadd hx hb hd (k H locs ls hP hD hS hl)
theorem V_isub {X : VC} {l : Launch} {R : Room} {D : va_G} {cl : List vw_C} {tys : List (ClassId × FieldType)} {A : Nat → Prop} {cc : ByteArray} {nL : Nat} {own : String} {Ts : List Cond} {ret : Option FieldType} {kc ks pc q : Nat} {ws : va_W} {lv : List (Nat × Value)} {rest : List Value} (hC : Cx X l R D cl tys A cc nL own Ts ret) {x y : Int32} (hd : decode cc pc = .ok (.isub, 1))  (hq : pc + 1 = q) (k : V X kc ks ws lv q (.int (x - y) :: rest)) : V X kc ks ws lv pc (.int y :: .int x :: rest) := by
  obtain ⟨p, l, e, R, s, m, args, below, meth, c, D, cl, A, Q, nL⟩ := X
  obtain ⟨rfl, rfl, rfl, rfl, rfl, rfl, hF, hK, hA, hr, hlk⟩ := hC
  obtain ⟨hx, hb, hml, hown, hts⟩ := hF
  subst hq
  exact fun H locs ls hP hD hS hl => lv_isub hx hb hd (k H locs ls hP hD hS hl)
theorem V_imul {X : VC} {l : Launch} {R : Room} {D : va_G} {cl : List vw_C} {tys : List (ClassId × FieldType)} {A : Nat → Prop} {cc : ByteArray} {nL : Nat} {own : String} {Ts : List Cond} {ret : Option FieldType} {kc ks pc q : Nat} {ws : va_W} {lv : List (Nat × Value)} {rest : List Value} (hC : Cx X l R D cl tys A cc nL own Ts ret) {x y : Int32} (hd : decode cc pc = .ok (.imul, 1))  (hq : pc + 1 = q) (k : V X kc ks ws lv q (.int (x * y) :: rest)) : V X kc ks ws lv pc (.int y :: .int x :: rest) := by
  obtain ⟨p, l, e, R, s, m, args, below, meth, c, D, cl, A, Q, nL⟩ := X
  obtain ⟨rfl, rfl, rfl, rfl, rfl, rfl, hF, hK, hA, hr, hlk⟩ := hC
  obtain ⟨hx, hb, hml, hown, hts⟩ := hF
  subst hq
  exact fun H locs ls hP hD hS hl => lv_imul hx hb hd (k H locs ls hP hD hS hl)
theorem V_iand {X : VC} {l : Launch} {R : Room} {D : va_G} {cl : List vw_C} {tys : List (ClassId × FieldType)} {A : Nat → Prop} {cc : ByteArray} {nL : Nat} {own : String} {Ts : List Cond} {ret : Option FieldType} {kc ks pc q : Nat} {ws : va_W} {lv : List (Nat × Value)} {rest : List Value} (hC : Cx X l R D cl tys A cc nL own Ts ret) {x y : Int32} (hd : decode cc pc = .ok (.iand, 1))  (hq : pc + 1 = q) (k : V X kc ks ws lv q (.int (x &&& y) :: rest)) : V X kc ks ws lv pc (.int y :: .int x :: rest) := by
  obtain ⟨p, l, e, R, s, m, args, below, meth, c, D, cl, A, Q, nL⟩ := X
  obtain ⟨rfl, rfl, rfl, rfl, rfl, rfl, hF, hK, hA, hr, hlk⟩ := hC
  obtain ⟨hx, hb, hml, hown, hts⟩ := hF
  subst hq
  exact fun H locs ls hP hD hS hl => lv_iand hx hb hd (k H locs ls hP hD hS hl)
theorem V_ior {X : VC} {l : Launch} {R : Room} {D : va_G} {cl : List vw_C} {tys : List (ClassId × FieldType)} {A : Nat → Prop} {cc : ByteArray} {nL : Nat} {own : String} {Ts : List Cond} {ret : Option FieldType} {kc ks pc q : Nat} {ws : va_W} {lv : List (Nat × Value)} {rest : List Value} (hC : Cx X l R D cl tys A cc nL own Ts ret) {x y : Int32} (hd : decode cc pc = .ok (.ior, 1))  (hq : pc + 1 = q) (k : V X kc ks ws lv q (.int (x ||| y) :: rest)) : V X kc ks ws lv pc (.int y :: .int x :: rest) := by
  obtain ⟨p, l, e, R, s, m, args, below, meth, c, D, cl, A, Q, nL⟩ := X
  obtain ⟨rfl, rfl, rfl, rfl, rfl, rfl, hF, hK, hA, hr, hlk⟩ := hC
  obtain ⟨hx, hb, hml, hown, hts⟩ := hF
  subst hq
  exact fun H locs ls hP hD hS hl => lv_ior hx hb hd (k H locs ls hP hD hS hl)
theorem V_ixor {X : VC} {l : Launch} {R : Room} {D : va_G} {cl : List vw_C} {tys : List (ClassId × FieldType)} {A : Nat → Prop} {cc : ByteArray} {nL : Nat} {own : String} {Ts : List Cond} {ret : Option FieldType} {kc ks pc q : Nat} {ws : va_W} {lv : List (Nat × Value)} {rest : List Value} (hC : Cx X l R D cl tys A cc nL own Ts ret) {x y : Int32} (hd : decode cc pc = .ok (.ixor, 1))  (hq : pc + 1 = q) (k : V X kc ks ws lv q (.int (x ^^^ y) :: rest)) : V X kc ks ws lv pc (.int y :: .int x :: rest) := by
  obtain ⟨p, l, e, R, s, m, args, below, meth, c, D, cl, A, Q, nL⟩ := X
  obtain ⟨rfl, rfl, rfl, rfl, rfl, rfl, hF, hK, hA, hr, hlk⟩ := hC
  obtain ⟨hx, hb, hml, hown, hts⟩ := hF
  subst hq
  exact fun H locs ls hP hD hS hl => lv_ixor hx hb hd (k H locs ls hP hD hS hl)
theorem V_ishl {X : VC} {l : Launch} {R : Room} {D : va_G} {cl : List vw_C} {tys : List (ClassId × FieldType)} {A : Nat → Prop} {cc : ByteArray} {nL : Nat} {own : String} {Ts : List Cond} {ret : Option FieldType} {kc ks pc q : Nat} {ws : va_W} {lv : List (Nat × Value)} {rest : List Value} (hC : Cx X l R D cl tys A cc nL own Ts ret) {x y : Int32} (hd : decode cc pc = .ok (.ishl, 1))  (hq : pc + 1 = q) (k : V X kc ks ws lv q (.int (x <<< (y &&& 31)) :: rest)) : V X kc ks ws lv pc (.int y :: .int x :: rest) := by
  obtain ⟨p, l, e, R, s, m, args, below, meth, c, D, cl, A, Q, nL⟩ := X
  obtain ⟨rfl, rfl, rfl, rfl, rfl, rfl, hF, hK, hA, hr, hlk⟩ := hC
  obtain ⟨hx, hb, hml, hown, hts⟩ := hF
  subst hq
  exact fun H locs ls hP hD hS hl => lv_ishl hx hb hd (k H locs ls hP hD hS hl)
theorem V_ishr {X : VC} {l : Launch} {R : Room} {D : va_G} {cl : List vw_C} {tys : List (ClassId × FieldType)} {A : Nat → Prop} {cc : ByteArray} {nL : Nat} {own : String} {Ts : List Cond} {ret : Option FieldType} {kc ks pc q : Nat} {ws : va_W} {lv : List (Nat × Value)} {rest : List Value} (hC : Cx X l R D cl tys A cc nL own Ts ret) {x y : Int32} (hd : decode cc pc = .ok (.ishr, 1))  (hq : pc + 1 = q) (k : V X kc ks ws lv q (.int (x >>> (y &&& 31)) :: rest)) : V X kc ks ws lv pc (.int y :: .int x :: rest) := by
  obtain ⟨p, l, e, R, s, m, args, below, meth, c, D, cl, A, Q, nL⟩ := X
  obtain ⟨rfl, rfl, rfl, rfl, rfl, rfl, hF, hK, hA, hr, hlk⟩ := hC
  obtain ⟨hx, hb, hml, hown, hts⟩ := hF
  subst hq
  exact fun H locs ls hP hD hS hl => lv_ishr hx hb hd (k H locs ls hP hD hS hl)
theorem V_idiv {X : VC} {l : Launch} {R : Room} {D : va_G} {cl : List vw_C} {tys : List (ClassId × FieldType)} {A : Nat → Prop} {cc : ByteArray} {nL : Nat} {own : String} {Ts : List Cond} {ret : Option FieldType} {kc ks pc q : Nat} {ws : va_W} {lv : List (Nat × Value)} {rest : List Value} (hC : Cx X l R D cl tys A cc nL own Ts ret) {x y : Int32} (hd : decode cc pc = .ok (.idiv, 1)) (hne : ¬ y = 0) (hq : pc + 1 = q) (k : V X kc ks ws lv q (.int (x / y) :: rest)) : V X kc ks ws lv pc (.int y :: .int x :: rest) := by
  obtain ⟨p, l, e, R, s, m, args, below, meth, c, D, cl, A, Q, nL⟩ := X
  obtain ⟨rfl, rfl, rfl, rfl, rfl, rfl, hF, hK, hA, hr, hlk⟩ := hC
  obtain ⟨hx, hb, hml, hown, hts⟩ := hF
  subst hq
  exact fun H locs ls hP hD hS hl => lv_idiv hx hb hd hne (k H locs ls hP hD hS hl)
theorem V_irem {X : VC} {l : Launch} {R : Room} {D : va_G} {cl : List vw_C} {tys : List (ClassId × FieldType)} {A : Nat → Prop} {cc : ByteArray} {nL : Nat} {own : String} {Ts : List Cond} {ret : Option FieldType} {kc ks pc q : Nat} {ws : va_W} {lv : List (Nat × Value)} {rest : List Value} (hC : Cx X l R D cl tys A cc nL own Ts ret) {x y : Int32} (hd : decode cc pc = .ok (.irem, 1)) (hne : ¬ y = 0) (hq : pc + 1 = q) (k : V X kc ks ws lv q (.int (x - x / y * y) :: rest)) : V X kc ks ws lv pc (.int y :: .int x :: rest) := by
  obtain ⟨p, l, e, R, s, m, args, below, meth, c, D, cl, A, Q, nL⟩ := X
  obtain ⟨rfl, rfl, rfl, rfl, rfl, rfl, hF, hK, hA, hr, hlk⟩ := hC
  obtain ⟨hx, hb, hml, hown, hts⟩ := hF
  subst hq
  exact fun H locs ls hP hD hS hl => lv_irem hx hb hd hne (k H locs ls hP hD hS hl)
theorem V_ineg {X : VC} {l : Launch} {R : Room} {D : va_G} {cl : List vw_C} {tys : List (ClassId × FieldType)} {A : Nat → Prop} {cc : ByteArray} {nL : Nat} {own : String} {Ts : List Cond} {ret : Option FieldType} {kc ks pc q : Nat} {ws : va_W} {lv : List (Nat × Value)} {rest : List Value} (hC : Cx X l R D cl tys A cc nL own Ts ret) {x : Int32} (hd : decode cc pc = .ok (.ineg, 1))  (hq : pc + 1 = q) (k : V X kc ks ws lv q (.int (-x) :: rest)) : V X kc ks ws lv pc (.int x :: rest) := by
  obtain ⟨p, l, e, R, s, m, args, below, meth, c, D, cl, A, Q, nL⟩ := X
  obtain ⟨rfl, rfl, rfl, rfl, rfl, rfl, hF, hK, hA, hr, hlk⟩ := hC
  obtain ⟨hx, hb, hml, hown, hts⟩ := hF
  subst hq
  exact fun H locs ls hP hD hS hl => lv_ineg hx hb hd (k H locs ls hP hD hS hl)
theorem V_i2l {X : VC} {l : Launch} {R : Room} {D : va_G} {cl : List vw_C} {tys : List (ClassId × FieldType)} {A : Nat → Prop} {cc : ByteArray} {nL : Nat} {own : String} {Ts : List Cond} {ret : Option FieldType} {kc ks pc q : Nat} {ws : va_W} {lv : List (Nat × Value)} {rest : List Value} (hC : Cx X l R D cl tys A cc nL own Ts ret) {x : Int32} (hd : decode cc pc = .ok (.i2l, 1))  (hq : pc + 1 = q) (k : V X kc ks ws lv q (.long x.toInt64 :: rest)) : V X kc ks ws lv pc (.int x :: rest) := by
  obtain ⟨p, l, e, R, s, m, args, below, meth, c, D, cl, A, Q, nL⟩ := X
  obtain ⟨rfl, rfl, rfl, rfl, rfl, rfl, hF, hK, hA, hr, hlk⟩ := hC
  obtain ⟨hx, hb, hml, hown, hts⟩ := hF
  subst hq
  exact fun H locs ls hP hD hS hl => lv_i2l hx hb hd rfl (k H locs ls hP hD hS hl)
theorem V_ladd {X : VC} {l : Launch} {R : Room} {D : va_G} {cl : List vw_C} {tys : List (ClassId × FieldType)} {A : Nat → Prop} {cc : ByteArray} {nL : Nat} {own : String} {Ts : List Cond} {ret : Option FieldType} {kc ks pc q : Nat} {ws : va_W} {lv : List (Nat × Value)} {rest : List Value} (hC : Cx X l R D cl tys A cc nL own Ts ret) {x y : Int64} (hd : decode cc pc = .ok (.ladd, 1))  (hq : pc + 1 = q) (k : V X kc ks ws lv q (.long (x + y) :: rest)) : V X kc ks ws lv pc (.long y :: .long x :: rest) := by
  obtain ⟨p, l, e, R, s, m, args, below, meth, c, D, cl, A, Q, nL⟩ := X
  obtain ⟨rfl, rfl, rfl, rfl, rfl, rfl, hF, hK, hA, hr, hlk⟩ := hC
  obtain ⟨hx, hb, hml, hown, hts⟩ := hF
  subst hq
  exact fun H locs ls hP hD hS hl => lv_ladd hx hb hd (k H locs ls hP hD hS hl)
theorem V_lmul {X : VC} {l : Launch} {R : Room} {D : va_G} {cl : List vw_C} {tys : List (ClassId × FieldType)} {A : Nat → Prop} {cc : ByteArray} {nL : Nat} {own : String} {Ts : List Cond} {ret : Option FieldType} {kc ks pc q : Nat} {ws : va_W} {lv : List (Nat × Value)} {rest : List Value} (hC : Cx X l R D cl tys A cc nL own Ts ret) {x y : Int64} (hd : decode cc pc = .ok (.lmul, 1))  (hq : pc + 1 = q) (k : V X kc ks ws lv q (.long (x * y) :: rest)) : V X kc ks ws lv pc (.long y :: .long x :: rest) := by
  obtain ⟨p, l, e, R, s, m, args, below, meth, c, D, cl, A, Q, nL⟩ := X
  obtain ⟨rfl, rfl, rfl, rfl, rfl, rfl, hF, hK, hA, hr, hlk⟩ := hC
  obtain ⟨hx, hb, hml, hown, hts⟩ := hF
  subst hq
  exact fun H locs ls hP hD hS hl => lv_lmul hx hb hd (k H locs ls hP hD hS hl)
theorem V_lcmp {X : VC} {l : Launch} {R : Room} {D : va_G} {cl : List vw_C} {tys : List (ClassId × FieldType)} {A : Nat → Prop} {cc : ByteArray} {nL : Nat} {own : String} {Ts : List Cond} {ret : Option FieldType} {kc ks pc q : Nat} {ws : va_W} {lv : List (Nat × Value)} {rest : List Value} (hC : Cx X l R D cl tys A cc nL own Ts ret) {x y : Int64} (hd : decode cc pc = .ok (.lcmp, 1))  (hq : pc + 1 = q) (k : V X kc ks ws lv q (.int (lg_cmp x y) :: rest)) : V X kc ks ws lv pc (.long y :: .long x :: rest) := by
  obtain ⟨p, l, e, R, s, m, args, below, meth, c, D, cl, A, Q, nL⟩ := X
  obtain ⟨rfl, rfl, rfl, rfl, rfl, rfl, hF, hK, hA, hr, hlk⟩ := hC
  obtain ⟨hx, hb, hml, hown, hts⟩ := hF
  subst hq
  exact fun H locs ls hP hD hS hl => W.lcmp hx hb hd (k H locs ls hP hD hS hl)
theorem V_i2d {X : VC} {l : Launch} {R : Room} {D : va_G} {cl : List vw_C} {tys : List (ClassId × FieldType)} {A : Nat → Prop} {cc : ByteArray} {nL : Nat} {own : String} {Ts : List Cond} {ret : Option FieldType} {kc ks pc q : Nat} {ws : va_W} {lv : List (Nat × Value)} {rest : List Value} (hC : Cx X l R D cl tys A cc nL own Ts ret) {x : Int32} (hd : decode cc pc = .ok (.i2d, 1))  (hq : pc + 1 = q) (k : V X kc ks ws lv q (.double (FP.i2d x) :: rest)) : V X kc ks ws lv pc (.int x :: rest) := by
  obtain ⟨p, l, e, R, s, m, args, below, meth, c, D, cl, A, Q, nL⟩ := X
  obtain ⟨rfl, rfl, rfl, rfl, rfl, rfl, hF, hK, hA, hr, hlk⟩ := hC
  obtain ⟨hx, hb, hml, hown, hts⟩ := hF
  subst hq
  exact fun H locs ls hP hD hS hl => lv_i2d hx hb hd (k H locs ls hP hD hS hl)
theorem V_dconst0 {X : VC} {l : Launch} {R : Room} {D : va_G} {cl : List vw_C} {tys : List (ClassId × FieldType)} {A : Nat → Prop} {cc : ByteArray} {nL : Nat} {own : String} {Ts : List Cond} {ret : Option FieldType} {kc ks pc q : Nat} {ws : va_W} {lv : List (Nat × Value)} {rest : List Value} (hC : Cx X l R D cl tys A cc nL own Ts ret)  (hd : decode cc pc = .ok (.dconst 0, 1))  (hq : pc + 1 = q) (k : V X kc ks ws lv q (.double FP.dconst0 :: rest)) : V X kc ks ws lv pc (rest) := by
  obtain ⟨p, l, e, R, s, m, args, below, meth, c, D, cl, A, Q, nL⟩ := X
  obtain ⟨rfl, rfl, rfl, rfl, rfl, rfl, hF, hK, hA, hr, hlk⟩ := hC
  obtain ⟨hx, hb, hml, hown, hts⟩ := hF
  subst hq
  exact fun H locs ls hP hD hS hl => lv_dconst0 hx hb hd (k H locs ls hP hD hS hl)
theorem V_ddiv {X : VC} {l : Launch} {R : Room} {D : va_G} {cl : List vw_C} {tys : List (ClassId × FieldType)} {A : Nat → Prop} {cc : ByteArray} {nL : Nat} {own : String} {Ts : List Cond} {ret : Option FieldType} {kc ks pc q : Nat} {ws : va_W} {lv : List (Nat × Value)} {rest : List Value} (hC : Cx X l R D cl tys A cc nL own Ts ret) {x y : UInt64} (hd : decode cc pc = .ok (.ddiv, 1)) (hne : vf_n64 (FP.ddiv x y)) (hq : pc + 1 = q) (k : V X kc ks ws lv q (.double (FP.ddiv x y) :: rest)) : V X kc ks ws lv pc (.double y :: .double x :: rest) := by
  obtain ⟨p, l, e, R, s, m, args, below, meth, c, D, cl, A, Q, nL⟩ := X
  obtain ⟨rfl, rfl, rfl, rfl, rfl, rfl, hF, hK, hA, hr, hlk⟩ := hC
  obtain ⟨hx, hb, hml, hown, hts⟩ := hF
  subst hq
  exact fun H locs ls hP hD hS hl => lv_ddiv hx hb hd hne (k H locs ls hP hD hS hl)
theorem V_dmul {X : VC} {l : Launch} {R : Room} {D : va_G} {cl : List vw_C} {tys : List (ClassId × FieldType)} {A : Nat → Prop} {cc : ByteArray} {nL : Nat} {own : String} {Ts : List Cond} {ret : Option FieldType} {kc ks pc q : Nat} {ws : va_W} {lv : List (Nat × Value)} {rest : List Value} (hC : Cx X l R D cl tys A cc nL own Ts ret) {x y : UInt64} (hd : decode cc pc = .ok (.dmul, 1)) (hne : vf_n64 (FP.dmul x y)) (hq : pc + 1 = q) (k : V X kc ks ws lv q (.double (FP.dmul x y) :: rest)) : V X kc ks ws lv pc (.double y :: .double x :: rest) := by
  obtain ⟨p, l, e, R, s, m, args, below, meth, c, D, cl, A, Q, nL⟩ := X
  obtain ⟨rfl, rfl, rfl, rfl, rfl, rfl, hF, hK, hA, hr, hlk⟩ := hC
  obtain ⟨hx, hb, hml, hown, hts⟩ := hF
  subst hq
  exact fun H locs ls hP hD hS hl => lv_dmul hx hb hd hne (k H locs ls hP hD hS hl)
theorem V_dsub {X : VC} {l : Launch} {R : Room} {D : va_G} {cl : List vw_C} {tys : List (ClassId × FieldType)} {A : Nat → Prop} {cc : ByteArray} {nL : Nat} {own : String} {Ts : List Cond} {ret : Option FieldType} {kc ks pc q : Nat} {ws : va_W} {lv : List (Nat × Value)} {rest : List Value} (hC : Cx X l R D cl tys A cc nL own Ts ret) {x y : UInt64} (hd : decode cc pc = .ok (.dsub, 1)) (hne : vf_n64 (FP.dsub x y)) (hq : pc + 1 = q) (k : V X kc ks ws lv q (.double (FP.dsub x y) :: rest)) : V X kc ks ws lv pc (.double y :: .double x :: rest) := by
  obtain ⟨p, l, e, R, s, m, args, below, meth, c, D, cl, A, Q, nL⟩ := X
  obtain ⟨rfl, rfl, rfl, rfl, rfl, rfl, hF, hK, hA, hr, hlk⟩ := hC
  obtain ⟨hx, hb, hml, hown, hts⟩ := hF
  subst hq
  exact fun H locs ls hP hD hS hl => lv_dsub hx hb hd hne (k H locs ls hP hD hS hl)
theorem V_dcmp {X : VC} {l : Launch} {R : Room} {D : va_G} {cl : List vw_C} {tys : List (ClassId × FieldType)} {A : Nat → Prop} {cc : ByteArray} {nL : Nat} {own : String} {Ts : List Cond} {ret : Option FieldType} {kc ks pc q : Nat} {ws : va_W} {lv : List (Nat × Value)} {rest : List Value} (hC : Cx X l R D cl tys A cc nL own Ts ret) {x y : UInt64} {op : CmpOp} (hd : decode cc pc = .ok (.dcmp op, 1))  (hq : pc + 1 = q) (k : V X kc ks ws lv q (.int (Op.cmpValue (FP.dcmp x y) op) :: rest)) : V X kc ks ws lv pc (.double y :: .double x :: rest) := by
  obtain ⟨p, l, e, R, s, m, args, below, meth, c, D, cl, A, Q, nL⟩ := X
  obtain ⟨rfl, rfl, rfl, rfl, rfl, rfl, hF, hK, hA, hr, hlk⟩ := hC
  obtain ⟨hx, hb, hml, hown, hts⟩ := hF
  subst hq
  exact fun H locs ls hP hD hS hl => lv_dcmp hx hb hd (k H locs ls hP hD hS hl)
theorem V_dup {X : VC} {l : Launch} {R : Room} {D : va_G} {cl : List vw_C} {tys : List (ClassId × FieldType)} {A : Nat → Prop} {cc : ByteArray} {nL : Nat} {own : String} {Ts : List Cond} {ret : Option FieldType} {kc ks pc q : Nat} {ws : va_W} {lv : List (Nat × Value)} {rest : List Value} (hC : Cx X l R D cl tys A cc nL own Ts ret) {va : Value} (hd : decode cc pc = .ok (.dup, 1)) (hva : va.category = 1) (hq : pc + 1 = q) (k : V X kc ks ws lv q (va :: va :: rest)) : V X kc ks ws lv pc (va :: rest) := by
  obtain ⟨p, l, e, R, s, m, args, below, meth, c, D, cl, A, Q, nL⟩ := X
  obtain ⟨rfl, rfl, rfl, rfl, rfl, rfl, hF, hK, hA, hr, hlk⟩ := hC
  obtain ⟨hx, hb, hml, hown, hts⟩ := hF
  subst hq
  exact fun H locs ls hP hD hS hl => lv_dup hx hb hd hva (k H locs ls hP hD hS hl)
theorem V_pop {X : VC} {l : Launch} {R : Room} {D : va_G} {cl : List vw_C} {tys : List (ClassId × FieldType)} {A : Nat → Prop} {cc : ByteArray} {nL : Nat} {own : String} {Ts : List Cond} {ret : Option FieldType} {kc ks pc q : Nat} {ws : va_W} {lv : List (Nat × Value)} {rest : List Value} (hC : Cx X l R D cl tys A cc nL own Ts ret) {va : Value} (hd : decode cc pc = .ok (.pop, 1)) (hva : va.category = 1) (hq : pc + 1 = q) (k : V X kc ks ws lv q (rest)) : V X kc ks ws lv pc (va :: rest) := by
  obtain ⟨p, l, e, R, s, m, args, below, meth, c, D, cl, A, Q, nL⟩ := X
  obtain ⟨rfl, rfl, rfl, rfl, rfl, rfl, hF, hK, hA, hr, hlk⟩ := hC
  obtain ⟨hx, hb, hml, hown, hts⟩ := hF
  subst hq
  exact fun H locs ls hP hD hS hl => lv_pop hx hb hd hva (k H locs ls hP hD hS hl)
theorem V_dup_x1 {X : VC} {l : Launch} {R : Room} {D : va_G} {cl : List vw_C} {tys : List (ClassId × FieldType)} {A : Nat → Prop} {cc : ByteArray} {nL : Nat} {own : String} {Ts : List Cond} {ret : Option FieldType} {kc ks pc q : Nat} {ws : va_W} {lv : List (Nat × Value)} {rest : List Value} (hC : Cx X l R D cl tys A cc nL own Ts ret) {va vb : Value} (hd : decode cc pc = .ok (.dup_x1, 1)) (hva : va.category = 1) (hvb : vb.category = 1) (hq : pc + 1 = q) (k : V X kc ks ws lv q (va :: vb :: va :: rest)) : V X kc ks ws lv pc (va :: vb :: rest) := by
  obtain ⟨p, l, e, R, s, m, args, below, meth, c, D, cl, A, Q, nL⟩ := X
  obtain ⟨rfl, rfl, rfl, rfl, rfl, rfl, hF, hK, hA, hr, hlk⟩ := hC
  obtain ⟨hx, hb, hml, hown, hts⟩ := hF
  subst hq
  exact fun H locs ls hP hD hS hl => lv_dup_x1 hx hb hd hva hvb (k H locs ls hP hD hS hl)
theorem V_dup2 {X : VC} {l : Launch} {R : Room} {D : va_G} {cl : List vw_C} {tys : List (ClassId × FieldType)} {A : Nat → Prop} {cc : ByteArray} {nL : Nat} {own : String} {Ts : List Cond} {ret : Option FieldType} {kc ks pc q : Nat} {ws : va_W} {lv : List (Nat × Value)} {rest : List Value} (hC : Cx X l R D cl tys A cc nL own Ts ret) {va vb : Value} (hd : decode cc pc = .ok (.dup2, 1)) (hva : va.category = 1) (hvb : vb.category = 1) (hq : pc + 1 = q) (k : V X kc ks ws lv q (va :: vb :: va :: vb :: rest)) : V X kc ks ws lv pc (va :: vb :: rest) := by
  obtain ⟨p, l, e, R, s, m, args, below, meth, c, D, cl, A, Q, nL⟩ := X
  obtain ⟨rfl, rfl, rfl, rfl, rfl, rfl, hF, hK, hA, hr, hlk⟩ := hC
  obtain ⟨hx, hb, hml, hown, hts⟩ := hF
  subst hq
  exact fun H locs ls hP hD hS hl => lv_dup2_11 hx hb hd hva hvb (k H locs ls hP hD hS hl)
theorem V_if_eq {X : VC} {l : Launch} {R : Room} {D : va_G} {cl : List vw_C} {tys : List (ClassId × FieldType)} {A : Nat → Prop} {cc : ByteArray} {nL : Nat} {own : String} {Ts : List Cond} {ret : Option FieldType} {kc ks pc q : Nat} {ws : va_W} {lv : List (Nat × Value)} {rest : List Value} (hC : Cx X l R D cl tys A cc nL own Ts ret) {x : Int32} {off : Int} {tgt : Nat} (hd : decode cc pc = .ok (.ifCond .eq off, 3)) (ht : (pc : Int) + off = (tgt : Int)) (hq : pc + 3 = q) (kt : x = 0 → V X kc ks ws lv tgt rest) (kf : ¬ x = 0 → V X kc ks ws lv q rest) : V X kc ks ws lv pc (.int x :: rest) := by
  obtain ⟨p, l, e, R, s, m, args, below, meth, c, D, cl, A, Q, nL⟩ := X
  obtain ⟨rfl, rfl, rfl, rfl, rfl, rfl, hF, hK, hA, hr, hlk⟩ := hC
  obtain ⟨hx, hb, hml, hown, hts⟩ := hF
  subst hq
  exact fun H locs ls hP hD hS hl => lv_if_eq hx hb hd ht (fun h => kt h H locs ls hP hD hS hl) (fun h => kf h H locs ls hP hD hS hl)
theorem V_icmp_eq {X : VC} {l : Launch} {R : Room} {D : va_G} {cl : List vw_C} {tys : List (ClassId × FieldType)} {A : Nat → Prop} {cc : ByteArray} {nL : Nat} {own : String} {Ts : List Cond} {ret : Option FieldType} {kc ks pc q : Nat} {ws : va_W} {lv : List (Nat × Value)} {rest : List Value} (hC : Cx X l R D cl tys A cc nL own Ts ret) {x y : Int32} {off : Int} {tgt : Nat} (hd : decode cc pc = .ok (.if_icmp .eq off, 3)) (ht : (pc : Int) + off = (tgt : Int)) (hq : pc + 3 = q) (kt : x = y → V X kc ks ws lv tgt rest) (kf : ¬ x = y → V X kc ks ws lv q rest) : V X kc ks ws lv pc (.int y :: .int x :: rest) := by
  obtain ⟨p, l, e, R, s, m, args, below, meth, c, D, cl, A, Q, nL⟩ := X
  obtain ⟨rfl, rfl, rfl, rfl, rfl, rfl, hF, hK, hA, hr, hlk⟩ := hC
  obtain ⟨hx, hb, hml, hown, hts⟩ := hF
  subst hq
  exact fun H locs ls hP hD hS hl => lv_icmp_eq hx hb hd ht (fun h => kt h H locs ls hP hD hS hl) (fun h => kf h H locs ls hP hD hS hl)
theorem V_if_ne {X : VC} {l : Launch} {R : Room} {D : va_G} {cl : List vw_C} {tys : List (ClassId × FieldType)} {A : Nat → Prop} {cc : ByteArray} {nL : Nat} {own : String} {Ts : List Cond} {ret : Option FieldType} {kc ks pc q : Nat} {ws : va_W} {lv : List (Nat × Value)} {rest : List Value} (hC : Cx X l R D cl tys A cc nL own Ts ret) {x : Int32} {off : Int} {tgt : Nat} (hd : decode cc pc = .ok (.ifCond .ne off, 3)) (ht : (pc : Int) + off = (tgt : Int)) (hq : pc + 3 = q) (kt : ¬ x = 0 → V X kc ks ws lv tgt rest) (kf : x = 0 → V X kc ks ws lv q rest) : V X kc ks ws lv pc (.int x :: rest) := by
  obtain ⟨p, l, e, R, s, m, args, below, meth, c, D, cl, A, Q, nL⟩ := X
  obtain ⟨rfl, rfl, rfl, rfl, rfl, rfl, hF, hK, hA, hr, hlk⟩ := hC
  obtain ⟨hx, hb, hml, hown, hts⟩ := hF
  subst hq
  exact fun H locs ls hP hD hS hl => lv_if_ne hx hb hd ht (fun h => kt h H locs ls hP hD hS hl) (fun h => kf h H locs ls hP hD hS hl)
theorem V_icmp_ne {X : VC} {l : Launch} {R : Room} {D : va_G} {cl : List vw_C} {tys : List (ClassId × FieldType)} {A : Nat → Prop} {cc : ByteArray} {nL : Nat} {own : String} {Ts : List Cond} {ret : Option FieldType} {kc ks pc q : Nat} {ws : va_W} {lv : List (Nat × Value)} {rest : List Value} (hC : Cx X l R D cl tys A cc nL own Ts ret) {x y : Int32} {off : Int} {tgt : Nat} (hd : decode cc pc = .ok (.if_icmp .ne off, 3)) (ht : (pc : Int) + off = (tgt : Int)) (hq : pc + 3 = q) (kt : ¬ x = y → V X kc ks ws lv tgt rest) (kf : x = y → V X kc ks ws lv q rest) : V X kc ks ws lv pc (.int y :: .int x :: rest) := by
  obtain ⟨p, l, e, R, s, m, args, below, meth, c, D, cl, A, Q, nL⟩ := X
  obtain ⟨rfl, rfl, rfl, rfl, rfl, rfl, hF, hK, hA, hr, hlk⟩ := hC
  obtain ⟨hx, hb, hml, hown, hts⟩ := hF
  subst hq
  exact fun H locs ls hP hD hS hl => lv_icmp_ne hx hb hd ht (fun h => kt h H locs ls hP hD hS hl) (fun h => kf h H locs ls hP hD hS hl)
theorem V_if_lt {X : VC} {l : Launch} {R : Room} {D : va_G} {cl : List vw_C} {tys : List (ClassId × FieldType)} {A : Nat → Prop} {cc : ByteArray} {nL : Nat} {own : String} {Ts : List Cond} {ret : Option FieldType} {kc ks pc q : Nat} {ws : va_W} {lv : List (Nat × Value)} {rest : List Value} (hC : Cx X l R D cl tys A cc nL own Ts ret) {x : Int32} {off : Int} {tgt : Nat} (hd : decode cc pc = .ok (.ifCond .lt off, 3)) (ht : (pc : Int) + off = (tgt : Int)) (hq : pc + 3 = q) (kt : x < 0 → V X kc ks ws lv tgt rest) (kf : ¬ x < 0 → V X kc ks ws lv q rest) : V X kc ks ws lv pc (.int x :: rest) := by
  obtain ⟨p, l, e, R, s, m, args, below, meth, c, D, cl, A, Q, nL⟩ := X
  obtain ⟨rfl, rfl, rfl, rfl, rfl, rfl, hF, hK, hA, hr, hlk⟩ := hC
  obtain ⟨hx, hb, hml, hown, hts⟩ := hF
  subst hq
  exact fun H locs ls hP hD hS hl => lv_if_lt hx hb hd ht (fun h => kt h H locs ls hP hD hS hl) (fun h => kf h H locs ls hP hD hS hl)
theorem V_icmp_lt {X : VC} {l : Launch} {R : Room} {D : va_G} {cl : List vw_C} {tys : List (ClassId × FieldType)} {A : Nat → Prop} {cc : ByteArray} {nL : Nat} {own : String} {Ts : List Cond} {ret : Option FieldType} {kc ks pc q : Nat} {ws : va_W} {lv : List (Nat × Value)} {rest : List Value} (hC : Cx X l R D cl tys A cc nL own Ts ret) {x y : Int32} {off : Int} {tgt : Nat} (hd : decode cc pc = .ok (.if_icmp .lt off, 3)) (ht : (pc : Int) + off = (tgt : Int)) (hq : pc + 3 = q) (kt : x < y → V X kc ks ws lv tgt rest) (kf : ¬ x < y → V X kc ks ws lv q rest) : V X kc ks ws lv pc (.int y :: .int x :: rest) := by
  obtain ⟨p, l, e, R, s, m, args, below, meth, c, D, cl, A, Q, nL⟩ := X
  obtain ⟨rfl, rfl, rfl, rfl, rfl, rfl, hF, hK, hA, hr, hlk⟩ := hC
  obtain ⟨hx, hb, hml, hown, hts⟩ := hF
  subst hq
  exact fun H locs ls hP hD hS hl => lv_icmp_lt hx hb hd ht (fun h => kt h H locs ls hP hD hS hl) (fun h => kf h H locs ls hP hD hS hl)
theorem V_if_ge {X : VC} {l : Launch} {R : Room} {D : va_G} {cl : List vw_C} {tys : List (ClassId × FieldType)} {A : Nat → Prop} {cc : ByteArray} {nL : Nat} {own : String} {Ts : List Cond} {ret : Option FieldType} {kc ks pc q : Nat} {ws : va_W} {lv : List (Nat × Value)} {rest : List Value} (hC : Cx X l R D cl tys A cc nL own Ts ret) {x : Int32} {off : Int} {tgt : Nat} (hd : decode cc pc = .ok (.ifCond .ge off, 3)) (ht : (pc : Int) + off = (tgt : Int)) (hq : pc + 3 = q) (kt : 0 ≤ x → V X kc ks ws lv tgt rest) (kf : ¬ 0 ≤ x → V X kc ks ws lv q rest) : V X kc ks ws lv pc (.int x :: rest) := by
  obtain ⟨p, l, e, R, s, m, args, below, meth, c, D, cl, A, Q, nL⟩ := X
  obtain ⟨rfl, rfl, rfl, rfl, rfl, rfl, hF, hK, hA, hr, hlk⟩ := hC
  obtain ⟨hx, hb, hml, hown, hts⟩ := hF
  subst hq
  exact fun H locs ls hP hD hS hl => lv_if_ge hx hb hd ht (fun h => kt h H locs ls hP hD hS hl) (fun h => kf h H locs ls hP hD hS hl)
theorem V_icmp_ge {X : VC} {l : Launch} {R : Room} {D : va_G} {cl : List vw_C} {tys : List (ClassId × FieldType)} {A : Nat → Prop} {cc : ByteArray} {nL : Nat} {own : String} {Ts : List Cond} {ret : Option FieldType} {kc ks pc q : Nat} {ws : va_W} {lv : List (Nat × Value)} {rest : List Value} (hC : Cx X l R D cl tys A cc nL own Ts ret) {x y : Int32} {off : Int} {tgt : Nat} (hd : decode cc pc = .ok (.if_icmp .ge off, 3)) (ht : (pc : Int) + off = (tgt : Int)) (hq : pc + 3 = q) (kt : y ≤ x → V X kc ks ws lv tgt rest) (kf : ¬ y ≤ x → V X kc ks ws lv q rest) : V X kc ks ws lv pc (.int y :: .int x :: rest) := by
  obtain ⟨p, l, e, R, s, m, args, below, meth, c, D, cl, A, Q, nL⟩ := X
  obtain ⟨rfl, rfl, rfl, rfl, rfl, rfl, hF, hK, hA, hr, hlk⟩ := hC
  obtain ⟨hx, hb, hml, hown, hts⟩ := hF
  subst hq
  exact fun H locs ls hP hD hS hl => lv_icmp_ge hx hb hd ht (fun h => kt h H locs ls hP hD hS hl) (fun h => kf h H locs ls hP hD hS hl)
theorem V_if_gt {X : VC} {l : Launch} {R : Room} {D : va_G} {cl : List vw_C} {tys : List (ClassId × FieldType)} {A : Nat → Prop} {cc : ByteArray} {nL : Nat} {own : String} {Ts : List Cond} {ret : Option FieldType} {kc ks pc q : Nat} {ws : va_W} {lv : List (Nat × Value)} {rest : List Value} (hC : Cx X l R D cl tys A cc nL own Ts ret) {x : Int32} {off : Int} {tgt : Nat} (hd : decode cc pc = .ok (.ifCond .gt off, 3)) (ht : (pc : Int) + off = (tgt : Int)) (hq : pc + 3 = q) (kt : 0 < x → V X kc ks ws lv tgt rest) (kf : ¬ 0 < x → V X kc ks ws lv q rest) : V X kc ks ws lv pc (.int x :: rest) := by
  obtain ⟨p, l, e, R, s, m, args, below, meth, c, D, cl, A, Q, nL⟩ := X
  obtain ⟨rfl, rfl, rfl, rfl, rfl, rfl, hF, hK, hA, hr, hlk⟩ := hC
  obtain ⟨hx, hb, hml, hown, hts⟩ := hF
  subst hq
  exact fun H locs ls hP hD hS hl => lv_if_gt hx hb hd ht (fun h => kt h H locs ls hP hD hS hl) (fun h => kf h H locs ls hP hD hS hl)
theorem V_icmp_gt {X : VC} {l : Launch} {R : Room} {D : va_G} {cl : List vw_C} {tys : List (ClassId × FieldType)} {A : Nat → Prop} {cc : ByteArray} {nL : Nat} {own : String} {Ts : List Cond} {ret : Option FieldType} {kc ks pc q : Nat} {ws : va_W} {lv : List (Nat × Value)} {rest : List Value} (hC : Cx X l R D cl tys A cc nL own Ts ret) {x y : Int32} {off : Int} {tgt : Nat} (hd : decode cc pc = .ok (.if_icmp .gt off, 3)) (ht : (pc : Int) + off = (tgt : Int)) (hq : pc + 3 = q) (kt : y < x → V X kc ks ws lv tgt rest) (kf : ¬ y < x → V X kc ks ws lv q rest) : V X kc ks ws lv pc (.int y :: .int x :: rest) := by
  obtain ⟨p, l, e, R, s, m, args, below, meth, c, D, cl, A, Q, nL⟩ := X
  obtain ⟨rfl, rfl, rfl, rfl, rfl, rfl, hF, hK, hA, hr, hlk⟩ := hC
  obtain ⟨hx, hb, hml, hown, hts⟩ := hF
  subst hq
  exact fun H locs ls hP hD hS hl => lv_icmp_gt hx hb hd ht (fun h => kt h H locs ls hP hD hS hl) (fun h => kf h H locs ls hP hD hS hl)
theorem V_if_le {X : VC} {l : Launch} {R : Room} {D : va_G} {cl : List vw_C} {tys : List (ClassId × FieldType)} {A : Nat → Prop} {cc : ByteArray} {nL : Nat} {own : String} {Ts : List Cond} {ret : Option FieldType} {kc ks pc q : Nat} {ws : va_W} {lv : List (Nat × Value)} {rest : List Value} (hC : Cx X l R D cl tys A cc nL own Ts ret) {x : Int32} {off : Int} {tgt : Nat} (hd : decode cc pc = .ok (.ifCond .le off, 3)) (ht : (pc : Int) + off = (tgt : Int)) (hq : pc + 3 = q) (kt : x ≤ 0 → V X kc ks ws lv tgt rest) (kf : ¬ x ≤ 0 → V X kc ks ws lv q rest) : V X kc ks ws lv pc (.int x :: rest) := by
  obtain ⟨p, l, e, R, s, m, args, below, meth, c, D, cl, A, Q, nL⟩ := X
  obtain ⟨rfl, rfl, rfl, rfl, rfl, rfl, hF, hK, hA, hr, hlk⟩ := hC
  obtain ⟨hx, hb, hml, hown, hts⟩ := hF
  subst hq
  exact fun H locs ls hP hD hS hl => lv_if_le hx hb hd ht (fun h => kt h H locs ls hP hD hS hl) (fun h => kf h H locs ls hP hD hS hl)
theorem V_icmp_le {X : VC} {l : Launch} {R : Room} {D : va_G} {cl : List vw_C} {tys : List (ClassId × FieldType)} {A : Nat → Prop} {cc : ByteArray} {nL : Nat} {own : String} {Ts : List Cond} {ret : Option FieldType} {kc ks pc q : Nat} {ws : va_W} {lv : List (Nat × Value)} {rest : List Value} (hC : Cx X l R D cl tys A cc nL own Ts ret) {x y : Int32} {off : Int} {tgt : Nat} (hd : decode cc pc = .ok (.if_icmp .le off, 3)) (ht : (pc : Int) + off = (tgt : Int)) (hq : pc + 3 = q) (kt : x ≤ y → V X kc ks ws lv tgt rest) (kf : ¬ x ≤ y → V X kc ks ws lv q rest) : V X kc ks ws lv pc (.int y :: .int x :: rest) := by
  obtain ⟨p, l, e, R, s, m, args, below, meth, c, D, cl, A, Q, nL⟩ := X
  obtain ⟨rfl, rfl, rfl, rfl, rfl, rfl, hF, hK, hA, hr, hlk⟩ := hC
  obtain ⟨hx, hb, hml, hown, hts⟩ := hF
  subst hq
  exact fun H locs ls hP hD hS hl => lv_icmp_le hx hb hd ht (fun h => kt h H locs ls hP hD hS hl) (fun h => kf h H locs ls hP hD hS hl)
theorem V_goto {X : VC} {l : Launch} {R : Room} {D : va_G} {cl : List vw_C} {tys : List (ClassId × FieldType)} {A : Nat → Prop} {cc : ByteArray} {nL : Nat} {own : String} {Ts : List Cond} {ret : Option FieldType} {kc ks pc q : Nat} {ws : va_W} {lv : List (Nat × Value)} {rest : List Value} (hC : Cx X l R D cl tys A cc nL own Ts ret) {off : Int} {tgt : Nat} (hd : decode cc pc = .ok (.goto off, 3)) (ht : (pc : Int) + off = (tgt : Int)) (k : V X kc ks ws lv tgt rest) : V X kc ks ws lv pc rest := by
  obtain ⟨p, l, e, R, s, m, args, below, meth, c, D, cl, A, Q, nL⟩ := X
  obtain ⟨rfl, rfl, rfl, rfl, rfl, rfl, hF, hK, hA, hr, hlk⟩ := hC
  obtain ⟨hx, hb, hml, hown, hts⟩ := hF
  exact fun H locs ls hP hD hS hl => lv_goto hx hb hd ht (k H locs ls hP hD hS hl)
theorem V_tableIn {X : VC} {l : Launch} {R : Room} {D : va_G} {cl : List vw_C} {tys : List (ClassId × FieldType)} {A : Nat → Prop} {cc : ByteArray} {nL : Nat} {own : String} {Ts : List Cond} {ret : Option FieldType} {kc ks pc q : Nat} {ws : va_W} {lv : List (Nat × Value)} {rest : List Value} (hC : Cx X l R D cl tys A cc nL own Ts ret) {dflt lo hi : Int} {offs : Array Int} {len : Nat} {x : Int32} {off : Int} {tgt : Nat} (hd : decode cc pc = .ok (.tableswitch dflt lo hi offs, len)) (h1 : ¬ x.toInt < lo) (h2 : ¬ hi < x.toInt) (ho : offs[(x.toInt - lo).toNat]? = some off) (ht : (pc : Int) + off = (tgt : Int)) (k : V X kc ks ws lv tgt rest) : V X kc ks ws lv pc (.int x :: rest) := by
  obtain ⟨p, l, e, R, s, m, args, below, meth, c, D, cl, A, Q, nL⟩ := X
  obtain ⟨rfl, rfl, rfl, rfl, rfl, rfl, hF, hK, hA, hr, hlk⟩ := hC
  obtain ⟨hx, hb, hml, hown, hts⟩ := hF
  exact fun H locs ls hP hD hS hl => lv_tableIn hx hb hd h1 h2 ho ht (k H locs ls hP hD hS hl)
theorem V_tableOut {X : VC} {l : Launch} {R : Room} {D : va_G} {cl : List vw_C} {tys : List (ClassId × FieldType)} {A : Nat → Prop} {cc : ByteArray} {nL : Nat} {own : String} {Ts : List Cond} {ret : Option FieldType} {kc ks pc q : Nat} {ws : va_W} {lv : List (Nat × Value)} {rest : List Value} (hC : Cx X l R D cl tys A cc nL own Ts ret) {dflt lo hi : Int} {offs : Array Int} {len : Nat} {x : Int32} {tgt : Nat} (hd : decode cc pc = .ok (.tableswitch dflt lo hi offs, len)) (h : x.toInt < lo ∨ hi < x.toInt) (ht : (pc : Int) + dflt = (tgt : Int)) (k : V X kc ks ws lv tgt rest) : V X kc ks ws lv pc (.int x :: rest) := by
  obtain ⟨p, l, e, R, s, m, args, below, meth, c, D, cl, A, Q, nL⟩ := X
  obtain ⟨rfl, rfl, rfl, rfl, rfl, rfl, hF, hK, hA, hr, hlk⟩ := hC
  obtain ⟨hx, hb, hml, hown, hts⟩ := hF
  exact fun H locs ls hP hD hS hl => lv_tableOut hx hb hd h ht (k H locs ls hP hD hS hl)
theorem V_get {X : VC} {l : Launch} {R : Room} {D : va_G} {cl : List vw_C} {tys : List (ClassId × FieldType)} {A : Nat → Prop} {cc : ByteArray} {nL : Nat} {own : String} {Ts : List Cond} {ret : Option FieldType} {kc ks pc q : Nat} {ws : va_W} {lv : List (Nat × Value)} {rest : List Value} (hC : Cx X l R D cl tys A cc nL own Ts ret) {C : String} {T : u_T} {N ci index q0 a : Nat} {fs : List Value} {v : Value} (hd : decode cc pc = .ok (.getfield index, 3)) (hin : ∀ w ∈ u_ws C T N, w ∈ Ts) (he : ws[q0]? = some (a, .inr (ci, fs))) (hc : cl[ci]? = some (C, T, N)) (k0 : Nat) (hk : k0 < N) (hl0 : Cond.fieldLink own index (T k0).1 (T k0).2.1 (T k0).2.2.1 ∈ Ts) (hv : fs[k0]? = some v) (hq : pc + 3 = q) (k : V X kc ks ws lv q (v :: rest)) : V X kc ks ws lv pc (.ref a :: rest) := by
  obtain ⟨p, l, e, R, s, m, args, below, meth, c, D, cl, A, Q, nL⟩ := X
  obtain ⟨rfl, rfl, rfl, rfl, rfl, rfl, hF, hK, hA, hr, hlk⟩ := hC
  obtain ⟨hx, hb, hml, hown, hts⟩ := hF
  subst hq
  exact fun H locs ls hP hD hS hl => va_get hx hb hts hin hown hK hP q0 he hc k0 hk (hts _ hl0) (fun _ h9 => h9) hv hd (k H locs ls hP hD hS hl)
theorem V_put {X : VC} {l : Launch} {R : Room} {D : va_G} {cl : List vw_C} {tys : List (ClassId × FieldType)} {A : Nat → Prop} {cc : ByteArray} {nL : Nat} {own : String} {Ts : List Cond} {ret : Option FieldType} {kc ks pc q : Nat} {ws : va_W} {lv : List (Nat × Value)} {rest : List Value} (hC : Cx X l R D cl tys A cc nL own Ts ret) {C : String} {T : u_T} {N ci index q0 a : Nat} {fs : List Value} {v : Value} {ws' : va_W} {ty : FieldType} (hd : decode cc pc = .ok (.putfield index, 3)) (hin : ∀ w ∈ u_ws C T N, w ∈ Ts) (ty0 : Nat → FieldType) (hty : ∀ k, k < N → parseFieldDescriptor (T k).2.2.1 = some (ty0 k)) (hnm : ∀ a, a < N → ∀ b, b < N → a ≠ b → (T a).2.1 ≠ (T b).2.1) (he : ws[q0]? = some (a, .inr (ci, fs))) (hc : cl[ci]? = some (C, T, N)) (k0 : Nat) (hk : k0 < N) (hl0 : Cond.fieldLink own index (T k0).1 (T k0).2.1 (T k0).2.2.1 ∈ Ts) (hfin : (T k0).2.2.2 = false) (hty0 : ty0 k0 = ty) (hn : narrow ty v = v) (hfit : fits ty v = true) (hlen : k0 < fs.length) (hw : ws.set q0 (a, .inr (ci, fs.set k0 v)) = ws') (hq : pc + 3 = q) (k : V X kc ks ws' lv q rest) : V X kc ks ws lv pc (v :: .ref a :: rest) := by
  obtain ⟨p, l, e, R, s, m, args, below, meth, c, D, cl, A, Q, nL⟩ := X
  obtain ⟨rfl, rfl, rfl, rfl, rfl, rfl, hF, hK, hA, hr, hlk⟩ := hC
  obtain ⟨hx, hb, hml, hown, hts⟩ := hF
  subst hq hty0 hw
  exact fun H locs ls hP hD hS hl => va_put hx hb hts hin ty0 hty hnm hown hK hP hD hS q0 he hc k0 hk (hts _ hl0) (fun _ h9 => h9) hfin (hty k0 hk) hn hfit hlen hd (fun H locs hP hD hS => k H locs ls hP hD hS hl)
theorem V_iald {X : VC} {l : Launch} {R : Room} {D : va_G} {cl : List vw_C} {tys : List (ClassId × FieldType)} {A : Nat → Prop} {cc : ByteArray} {nL : Nat} {own : String} {Ts : List Cond} {ret : Option FieldType} {kc ks pc q : Nat} {ws : va_W} {lv : List (Nat × Value)} {rest : List Value} (hC : Cx X l R D cl tys A cc nL own Ts ret) {q0 a n i : Nat} {cA : ClassId} {f : Nat → Int32} {x : Int32} (hd : decode cc pc = .ok (.iaload, 1)) (ha : ws[q0]? = some (a, .inl (cA, n, .inl f))) (t0 : Nat) (ht : tys[t0]? = some (cA, .int)) (hi : x = nI i) (hin : i < n) (hn : n < 2 ^ 31) (hq : pc + 1 = q) (k : V X kc ks ws lv q (.int (f i) :: rest)) : V X kc ks ws lv pc (.int x :: .ref a :: rest) := by
  obtain ⟨p, l, e, R, s, m, args, below, meth, c, D, cl, A, Q, nL⟩ := X
  obtain ⟨rfl, rfl, rfl, rfl, rfl, rfl, hF, hK, hA, hr, hlk⟩ := hC
  obtain ⟨hx, hb, hml, hown, hts⟩ := hF
  subst hq hi
  intro H locs ls hP hD hS hl
  have k2 := k H locs ls hP hD hS hl
  rw [← nI_clamp (n := i) (by omega)] at k2
  exact va_iald hx hb hK hP q0 t0 ha ht (vp_in_nI hin hn) hd k2
theorem V_iast {X : VC} {l : Launch} {R : Room} {D : va_G} {cl : List vw_C} {tys : List (ClassId × FieldType)} {A : Nat → Prop} {cc : ByteArray} {nL : Nat} {own : String} {Ts : List Cond} {ret : Option FieldType} {kc ks pc q : Nat} {ws : va_W} {lv : List (Nat × Value)} {rest : List Value} (hC : Cx X l R D cl tys A cc nL own Ts ret) {q0 a n i : Nat} {cA : ClassId} {f : Nat → Int32} {x y : Int32} {ws' : va_W} (hd : decode cc pc = .ok (.iastore, 1)) (ha : ws[q0]? = some (a, .inl (cA, n, .inl f))) (t0 : Nat) (ht : tys[t0]? = some (cA, .int)) (hi : y = nI i) (hin : i < n) (hn : n < 2 ^ 31) (hw : ws.set q0 (a, .inl (cA, n, .inl (upd f i (x)))) = ws') (hq : pc + 1 = q) (k : V X kc ks ws' lv q rest) : V X kc ks ws lv pc (.int x :: .int y :: .ref a :: rest) := by
  obtain ⟨p, l, e, R, s, m, args, below, meth, c, D, cl, A, Q, nL⟩ := X
  obtain ⟨rfl, rfl, rfl, rfl, rfl, rfl, hF, hK, hA, hr, hlk⟩ := hC
  obtain ⟨hx, hb, hml, hown, hts⟩ := hF
  subst hq hi hw
  intro H locs ls hP hD hS hl
  refine va_iast hx hb hK hP hD hS q0 t0 ha ht (vp_in_nI hin hn) hd (fun H locs hP hD hS => ?_)
  rw [nI_clamp (n := i) (by omega)] at hP hD
  exact k H locs ls hP hD hS hl
theorem V_zald {X : VC} {l : Launch} {R : Room} {D : va_G} {cl : List vw_C} {tys : List (ClassId × FieldType)} {A : Nat → Prop} {cc : ByteArray} {nL : Nat} {own : String} {Ts : List Cond} {ret : Option FieldType} {kc ks pc q : Nat} {ws : va_W} {lv : List (Nat × Value)} {rest : List Value} (hC : Cx X l R D cl tys A cc nL own Ts ret) {q0 a n i : Nat} {cA : ClassId} {f : Nat → Int32} {x : Int32} (hd : decode cc pc = .ok (.baload, 1)) (ha : ws[q0]? = some (a, .inl (cA, n, .inl f))) (t0 : Nat) (ht : tys[t0]? = some (cA, .boolean)) (hi : x = nI i) (hin : i < n) (hn : n < 2 ^ 31) (hq : pc + 1 = q) (k : V X kc ks ws lv q (.int (f i) :: rest)) : V X kc ks ws lv pc (.int x :: .ref a :: rest) := by
  obtain ⟨p, l, e, R, s, m, args, below, meth, c, D, cl, A, Q, nL⟩ := X
  obtain ⟨rfl, rfl, rfl, rfl, rfl, rfl, hF, hK, hA, hr, hlk⟩ := hC
  obtain ⟨hx, hb, hml, hown, hts⟩ := hF
  subst hq hi
  intro H locs ls hP hD hS hl
  have k2 := k H locs ls hP hD hS hl
  rw [← nI_clamp (n := i) (by omega)] at k2
  exact va_zald hx hb hK hP q0 t0 ha ht (vp_in_nI hin hn) hd k2
theorem V_zast {X : VC} {l : Launch} {R : Room} {D : va_G} {cl : List vw_C} {tys : List (ClassId × FieldType)} {A : Nat → Prop} {cc : ByteArray} {nL : Nat} {own : String} {Ts : List Cond} {ret : Option FieldType} {kc ks pc q : Nat} {ws : va_W} {lv : List (Nat × Value)} {rest : List Value} (hC : Cx X l R D cl tys A cc nL own Ts ret) {q0 a n i : Nat} {cA : ClassId} {f : Nat → Int32} {x y : Int32} {ws' : va_W} (hd : decode cc pc = .ok (.bastore, 1)) (ha : ws[q0]? = some (a, .inl (cA, n, .inl f))) (t0 : Nat) (ht : tys[t0]? = some (cA, .boolean)) (hi : y = nI i) (hin : i < n) (hn : n < 2 ^ 31) (hw : ws.set q0 (a, .inl (cA, n, .inl (upd f i (vp_nar .boolean x)))) = ws') (hq : pc + 1 = q) (k : V X kc ks ws' lv q rest) : V X kc ks ws lv pc (.int x :: .int y :: .ref a :: rest) := by
  obtain ⟨p, l, e, R, s, m, args, below, meth, c, D, cl, A, Q, nL⟩ := X
  obtain ⟨rfl, rfl, rfl, rfl, rfl, rfl, hF, hK, hA, hr, hlk⟩ := hC
  obtain ⟨hx, hb, hml, hown, hts⟩ := hF
  subst hq hi hw
  intro H locs ls hP hD hS hl
  refine va_zast hx hb hK hP hD hS q0 t0 ha ht (vp_in_nI hin hn) hd (fun H locs hP hD hS => ?_)
  rw [nI_clamp (n := i) (by omega)] at hP hD
  exact k H locs ls hP hD hS hl
theorem V_aald {X : VC} {l : Launch} {R : Room} {D : va_G} {cl : List vw_C} {tys : List (ClassId × FieldType)} {A : Nat → Prop} {cc : ByteArray} {nL : Nat} {own : String} {Ts : List Cond} {ret : Option FieldType} {kc ks pc q : Nat} {ws : va_W} {lv : List (Nat × Value)} {rest : List Value} (hC : Cx X l R D cl tys A cc nL own Ts ret) {q0 a n i b : Nat} {cA : ClassId} {C : String} {f : Nat → Option Nat} {x : Int32} (hd : decode cc pc = .ok (.aaload, 1)) (ha : ws[q0]? = some (a, .inl (cA, n, .inr (.inr (.inr (.inr f)))))) (t0 : Nat) (ht : tys[t0]? = some (cA, .object C)) (hi : x = nI i) (hin : i < n) (hn : n < 2 ^ 31) (hf : f i = some b) (hq : pc + 1 = q) (k : V X kc ks ws lv q (.ref b :: rest)) : V X kc ks ws lv pc (.int x :: .ref a :: rest) := by
  obtain ⟨p, l, e, R, s, m, args, below, meth, c, D, cl, A, Q, nL⟩ := X
  obtain ⟨rfl, rfl, rfl, rfl, rfl, rfl, hF, hK, hA, hr, hlk⟩ := hC
  obtain ⟨hx, hb, hml, hown, hts⟩ := hF
  subst hq hi
  intro H locs ls hP hD hS hl
  refine va_aldq hx hb hK hP q0 t0 ha ht (vp_in_nI hin hn) hd ?_
  rw [nI_clamp (n := i) (by omega), hf]
  exact k H locs ls hP hD hS hl
theorem V_alen {X : VC} {l : Launch} {R : Room} {D : va_G} {cl : List vw_C} {tys : List (ClassId × FieldType)} {A : Nat → Prop} {cc : ByteArray} {nL : Nat} {own : String} {Ts : List Cond} {ret : Option FieldType} {kc ks pc q : Nat} {ws : va_W} {lv : List (Nat × Value)} {rest : List Value} (hC : Cx X l R D cl tys A cc nL own Ts ret) {q0 a : Nat} {cA : ClassId} {x : vp_A} {ty : FieldType} {v : Int32} (hd : decode cc pc = .ok (.arraylength, 1)) (ha : ws[q0]? = some (a, .inl (cA, x))) (t0 : Nat) (ht : tys[t0]? = some (cA, ty)) (hv : Int32.ofNat x.1 = v) (hq : pc + 1 = q) (k : V X kc ks ws lv q (.int v :: rest)) : V X kc ks ws lv pc (.ref a :: rest) := by
  obtain ⟨p, l, e, R, s, m, args, below, meth, c, D, cl, A, Q, nL⟩ := X
  obtain ⟨rfl, rfl, rfl, rfl, rfl, rfl, hF, hK, hA, hr, hlk⟩ := hC
  obtain ⟨hx, hb, hml, hown, hts⟩ := hF
  subst hq
  exact fun H locs ls hP hD hS hl => va_alen hx hb hK hP q0 t0 ha ht hv hd (k H locs ls hP hD hS hl)
theorem V_mmax {X : VC} {l : Launch} {R : Room} {D : va_G} {cl : List vw_C} {tys : List (ClassId × FieldType)} {A : Nat → Prop} {cc : ByteArray} {nL : Nat} {own : String} {Ts : List Cond} {ret : Option FieldType} {kc ks pc q : Nat} {ws : va_W} {lv : List (Nat × Value)} {rest : List Value} (hC : Cx X l R D cl tys A cc nL own Ts ret) {index : Nat} {x y : Int32} (hd : decode cc pc = .ok (.invokestatic index, 3)) (h1 : Cond.methodLink own index Lib.Math.max.name ∈ Ts) (h2 : Cond.static Lib.Math.max.name ∈ Ts) (h3 : Cond.initialized "java/lang/Math" ∈ Ts) (h4 : Cond.code Lib.Math.max.name Lib.Math.max.code 2 (some .int) ∈ Ts) (hfr : 1 ≤ R.frames) (hlo : (rest.map fun v => v.category).sum + 13 ≤ R.locals) (h5 : kc ≤ R.cells) (h6 : ks ≤ R.slots) (hq : pc + 3 = q) (k : V X kc ks ws lv q (.int (if x < y then y else x) :: rest)) : V X kc ks ws lv pc (.int y :: .int x :: rest) := by
  obtain ⟨p, l, e, R, s, m, args, below, meth, c, D, cl, A, Q, nL⟩ := X
  obtain ⟨rfl, rfl, rfl, rfl, rfl, rfl, hF, hK, hA, hr, hlk⟩ := hC
  obtain ⟨hx, hb, hml, hown, hts⟩ := hF
  subst hq
  exact fun H locs ls hP hD hS hl => va_mmax hx hb (hml.trans hl.1.symm) hown (hts _ h1) (hts _ h2) (hts _ h3) (hts _ h4) hfr hlo h5 h6 hd (k H locs ls hP hD hS hl)
theorem V_mmin {X : VC} {l : Launch} {R : Room} {D : va_G} {cl : List vw_C} {tys : List (ClassId × FieldType)} {A : Nat → Prop} {cc : ByteArray} {nL : Nat} {own : String} {Ts : List Cond} {ret : Option FieldType} {kc ks pc q : Nat} {ws : va_W} {lv : List (Nat × Value)} {rest : List Value} (hC : Cx X l R D cl tys A cc nL own Ts ret) {index : Nat} {x y : Int32} (hd : decode cc pc = .ok (.invokestatic index, 3)) (h1 : Cond.methodLink own index Lib.Math.min.name ∈ Ts) (h2 : Cond.static Lib.Math.min.name ∈ Ts) (h3 : Cond.initialized "java/lang/Math" ∈ Ts) (h4 : Cond.code Lib.Math.min.name Lib.Math.min.code 2 (some .int) ∈ Ts) (hfr : 1 ≤ R.frames) (hlo : (rest.map fun v => v.category).sum + 13 ≤ R.locals) (h5 : kc ≤ R.cells) (h6 : ks ≤ R.slots) (hq : pc + 3 = q) (k : V X kc ks ws lv q (.int (if y < x then y else x) :: rest)) : V X kc ks ws lv pc (.int y :: .int x :: rest) := by
  obtain ⟨p, l, e, R, s, m, args, below, meth, c, D, cl, A, Q, nL⟩ := X
  obtain ⟨rfl, rfl, rfl, rfl, rfl, rfl, hF, hK, hA, hr, hlk⟩ := hC
  obtain ⟨hx, hb, hml, hown, hts⟩ := hF
  subst hq
  exact fun H locs ls hP hD hS hl => va_mmin hx hb (hml.trans hl.1.symm) hown (hts _ h1) (hts _ h2) (hts _ h3) (hts _ h4) hfr hlo h5 h6 hd (k H locs ls hP hD hS hl)
end
