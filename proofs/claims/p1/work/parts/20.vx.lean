/-! Contracts over more classes: cl1 begins cl. -/
def Sb (cl1 cl : List vw_C) (ty1 tys : List (ClassId × FieldType)) : Prop := (∀ (i : Nat) (r : vw_C), cl1[i]? = some r → cl[i]? = some r) ∧ ∀ (i : Nat) (q : ClassId × FieldType), ty1[i]? = some q → tys[i]? = some q
def Lo (n : Nat) (ws : va_W) : Prop := ∀ (k : Nat) (q : Nat × va_E), ws[k]? = some q → match q.2 with
  | .inl _ => True
  | .inr o => o.1 < n
theorem at_up {D : va_G} {cl1 cl : List vw_C} (h : ∀ (i : Nat) (r : vw_C), cl1[i]? = some r → cl[i]? = some r) {q : Nat × va_E} {H : Heap} (hq : va_at D cl1 q H) : va_at D cl q H := by
  obtain ⟨a, e⟩ := q
  cases e with
  | inl x => exact hq
  | inr o => obtain ⟨r, h1, h2⟩ := hq; exact ⟨r, h _ _ h1, h2⟩
theorem at_dn {D : va_G} {cl1 cl : List vw_C} (h : ∀ (i : Nat) (r : vw_C), cl1[i]? = some r → cl[i]? = some r) {a : Nat} {e : va_E} {H : Heap} (hl : match e with | .inl _ => True | .inr o => o.1 < cl1.length) (hq : va_at D cl (a, e) H) : va_at D cl1 (a, e) H := by
  cases e with
  | inl x => exact hq
  | inr o =>
    obtain ⟨r, h1, h2⟩ := hq
    have h3 := List.getElem?_eq_getElem (l := cl1) hl
    have h4 := (h _ _ h3).symm.trans h1
    cases h4
    exact ⟨_, h3, h2⟩
theorem P_up {D : va_G} {cl1 cl : List vw_C} (h : ∀ (i : Nat) (r : vw_C), cl1[i]? = some r → cl[i]? = some r) {ws : va_W} {H : Heap} (hP : va_P D cl1 ws H) : va_P D cl ws H := fun k q hq => at_up h (hP k q hq)
theorem P_dn {D : va_G} {cl1 cl : List vw_C} (h : ∀ (i : Nat) (r : vw_C), cl1[i]? = some r → cl[i]? = some r) {ws : va_W} {H : Heap} (hl : Lo cl1.length ws) (hP : va_P D cl ws H) : va_P D cl1 ws H := fun k q hq => at_dn h (hl k q hq) (hP k q hq)
theorem Pw_dn {D : va_G} {cl1 cl : List vw_C} {ty1 tys : List (ClassId × FieldType)} (h : Sb cl1 cl ty1 tys) {ws : va_W} {sz : Nat} {U : State} (hl : Lo cl1.length ws) (hP : Pw D cl tys sz ws U) : Pw D cl1 ty1 sz ws U := by
  obtain ⟨h1, h2, h3, h4, h5, h6⟩ := hP
  exact ⟨h1, P_dn h.1 hl h2, ⟨fun c q hq => h3.1 c q (h.1 c q hq), fun k q hq => h3.2 k q (h.2 k q hq)⟩, h4, h5, h6⟩
theorem CI_up {l : Launch} {D : va_G} {cl : List vw_C} {tys : List (ClassId × FieldType)} {y : MethodName} {wsC ws0 : List Cond} {rm : Room} {mc ms : Nat} {av : List Value} {ws : va_W} {S : Type} {post : Int32 → S → Prop} {wf : S → va_W} {cl1 : List vw_C} {ty1 : List (ClassId × FieldType)} (h : Sb cl1 cl ty1 tys) (hl : Lo cl1.length ws) (hM : CI l D cl1 ty1 y wsC rm mc ms av ws post wf) : CI l D cl tys y wsC rm mc ms av ws post wf := by
  intro sz
  refine MetFree.mono (hM sz) ?_ (fun _ _ _ _ _ h => h) ?_
  · rintro a U ⟨e, hP⟩
    exact ⟨e, Pw_dn h hl hP⟩
  · rintro a st o t - ⟨⟨⟨r, u, e, hp, hb⟩, hF⟩, hL⟩
    exact ⟨⟨⟨r, u, e, hp, P_up h.1 hb.1, hb.2⟩, hF⟩, hL⟩
theorem CL_up {l : Launch} {D : va_G} {cl : List vw_C} {tys : List (ClassId × FieldType)} {y : MethodName} {wsC ws0 : List Cond} {rm : Room} {mc ms : Nat} {av : List Value} {ws : va_W} {S : Type} {post : Int64 → S → Prop} {wf : S → va_W} {cl1 : List vw_C} {ty1 : List (ClassId × FieldType)} (h : Sb cl1 cl ty1 tys) (hl : Lo cl1.length ws) (hM : CL l D cl1 ty1 y wsC rm mc ms av ws post wf) : CL l D cl tys y wsC rm mc ms av ws post wf := by
  intro sz
  refine MetFree.mono (hM sz) ?_ (fun _ _ _ _ _ h => h) ?_
  · rintro a U ⟨e, hP⟩
    exact ⟨e, Pw_dn h hl hP⟩
  · rintro a st o t - ⟨⟨⟨r, u, e, hp, hb⟩, hF⟩, hL⟩
    exact ⟨⟨⟨r, u, e, hp, P_up h.1 hb.1, hb.2⟩, hF⟩, hL⟩
theorem CD_up {l : Launch} {D : va_G} {cl : List vw_C} {tys : List (ClassId × FieldType)} {y : MethodName} {wsC ws0 : List Cond} {rm : Room} {mc ms : Nat} {av : List Value} {ws : va_W} {S : Type} {post : UInt64 → S → Prop} {wf : S → va_W} {cl1 : List vw_C} {ty1 : List (ClassId × FieldType)} (h : Sb cl1 cl ty1 tys) (hl : Lo cl1.length ws) (hM : CD l D cl1 ty1 y wsC rm mc ms av ws post wf) : CD l D cl tys y wsC rm mc ms av ws post wf := by
  intro sz
  refine MetFree.mono (hM sz) ?_ (fun _ _ _ _ _ h => h) ?_
  · rintro a U ⟨e, hP⟩
    exact ⟨e, Pw_dn h hl hP⟩
  · rintro a st o t - ⟨⟨⟨r, u, e, hp, hb⟩, hF⟩, hL⟩
    exact ⟨⟨⟨r, u, e, hp, P_up h.1 hb.1, hb.2⟩, hF⟩, hL⟩
theorem CV_up {l : Launch} {D : va_G} {cl : List vw_C} {tys : List (ClassId × FieldType)} {y : MethodName} {wsC ws0 : List Cond} {rm : Room} {mc ms : Nat} {av : List Value} {ws : va_W} {S : Type} {post : S → Prop} {wf : S → va_W} {cl1 : List vw_C} {ty1 : List (ClassId × FieldType)} (h : Sb cl1 cl ty1 tys) (hl : Lo cl1.length ws) (hM : CV l D cl1 ty1 y wsC rm mc ms av ws post wf) : CV l D cl tys y wsC rm mc ms av ws post wf := by
  intro sz
  refine MetFree.mono (hM sz) ?_ (fun _ _ _ _ _ h => h) ?_
  · rintro a U ⟨e, hP⟩
    exact ⟨e, Pw_dn h hl hP⟩
  · rintro a st o t - ⟨⟨⟨u, e, hp, hb⟩, hF⟩, hL⟩
    exact ⟨⟨⟨u, e, hp, P_up h.1 hb.1, hb.2⟩, hF⟩, hL⟩
/-! Throwers: the call throws an E, and what there was stays. -/
def CX (l : Launch) (D : va_G) (cl : List vw_C) (tys : List (ClassId × FieldType)) (y : MethodName) (wsC : List Cond) (rm : Room) (mc ms : Nat) (av : List Value) (ws : va_W) (E : String) : Prop := ∀ sz : Nat, vx_Met l y wsC rm (va_Pc av (Pw D cl tys sz ws)) (fun _ _ _ _ => False) (vx_X (fun _ : Unit => True) (fun E' _ t => E' = E ∧ Bw D cl tys (va_A ws sz) ws t) (va_A ws sz)) mc ms (va_A ws sz)
theorem CX_up {l : Launch} {D : va_G} {cl : List vw_C} {tys : List (ClassId × FieldType)} {y : MethodName} {wsC ws0 : List Cond} {rm : Room} {mc ms : Nat} {av : List Value} {ws : va_W} {E : String} {cl1 : List vw_C} {ty1 : List (ClassId × FieldType)} (h : Sb cl1 cl ty1 tys) (hl : Lo cl1.length ws) (hM : CX l D cl1 ty1 y wsC rm mc ms av ws E) : CX l D cl tys y wsC rm mc ms av ws E := by
  intro sz
  refine MetFree.mono (hM sz) ?_ (fun _ _ _ _ _ h => h) ?_
  · rintro a U ⟨e, hP⟩
    exact ⟨e, Pw_dn h hl hP⟩
  · rintro a st o t - (⟨hf, -⟩ | ⟨q, e, E', ce, L, ⟨u, hu, ⟨e2, hb⟩, hF⟩, h2⟩)
    · exact hf.elim
    · exact Or.inr ⟨q, e, E', ce, L, ⟨u, hu, ⟨e2, P_up h.1 hb.1, hb.2⟩, hF⟩, h2⟩
/-- the frame at pc, with an exception of the class E thrown over it -/
def VT (X : VC) (kc ks : Nat) (ws : va_W) (lv : List (Nat × Value)) (pc : Nat) (rest : List Value) (E : String) : Prop := match X with
  | (p, l, e, R, s, m, args, below, meth, c, D, cl, A, Q, nL) => ∀ (H : Heap) (locs : List Loc) (ls : Array Slot) (ce : Cell) (q : Nat), va_P D cl ws H → va_D A ws → va_S A s.heap H locs → lv_has ls nL lv → H[q]? = some ce → ce.vm = .none → s.vm.findClass E = some ce.cls → vx_W p l e R s m args below meth c H locs kc ks Q (F0 m pc ls rest) q
section
variable {p : Program} {l : Launch} {e : Env} {R : Room} {s : State} {m : MethodId} {args : Array Value} {below : List Frame} {meth : Method} {c : Code} {H : Heap} {locs : List Loc} {cells slots : Nat} {Q : State → Prop}
variable {mc ms : Nat} {free : Addr → Prop} {A0 : Nat → Prop} {H0 : Heap} {pc : Nat} {ls : Array Slot} {st0 rest : List Value}
theorem vx_only {SX : Type} {px : SX → Prop} {BX : String → SX → State → Prop} {AX : Nat → Prop} (hr : vx_Run p l e R s m args below meth c H locs cells slots mc ms (F0 m pc ls st0) rest (fun _ _ _ => False) (vx_X px BX AX) free) (hS : va_S A0 H0 H locs) (hf : ∀ q, free q → A0 q) (hAX : ∀ q, q < H.size → AX q → A0 q)
    (kx : ∀ (E : String) (ce : Cell) (q9 : Addr) (u : SX) (t : State) (H1 : Heap) (locs1 : List Loc), t.heap = H1 → s.vm.Alike t.vm → px u → BX E u t → H.size ≤ H1.size → (∀ q : Nat, q < H.size → ¬ AX q → H1[q]? = H[q]?) → va_S A0 H0 H1 locs1 → H1[q9]? = some ce → ce.vm = .none → s.vm.findClass E = some ce.cls → vx_W p l e R s m args below meth c H1 locs1 (cells + mc) (slots + ms) Q (F0 m pc ls rest) q9) : W p l e R s m args below meth c H locs cells slots Q (F0 m pc ls st0) := by
  intro T hT X
  rcases hr T hT X with ⟨v, st₀, t, T', L, h0, X', hL, e1, e2, hF, st⟩ | ⟨q, st₀, t, T', L, E, ce, h0, X', hL, e1, e2, ⟨u, hp, hb, hF⟩, hce, hcv, hcl, st⟩
  · exact hF.elim
  · obtain ⟨k1, k2, k3⟩ := vx_keep h0 e1 hS hAX hf hL hF
    obtain ⟨t2, a1, b1⟩ := kx E ce q u t T'.heap (locs ++ L) e1.symm (by rw [← e2]; exact X'.warmed.alike) hp hb k1 k2 k3 (by rw [e1]; exact hce) hcv hcl T' rfl X'
    exact ⟨t2, st.trans a1, b1⟩
end
/-- the way out of a thrower's body -/
def Tx (X : VC) (tys : List (ClassId × FieldType)) (mc ms : Nat) (ws : va_W) (E : String) : Prop := match X with
  | (p, l, e, R, s, m, args, below, meth, c, D, cl, A, Q, nL) => (∀ x ∈ c.exceptionTable.toList, False) ∧ Q = vx_MQ below (fun _ _ _ _ => False) (vx_X (fun _ : Unit => True) (fun E' _ t => E' = E ∧ Bw D cl tys A ws t) A) args s mc ms A
theorem CX_of {l : Launch} {D : va_G} {cl : List vw_C} {tys : List (ClassId × FieldType)} {y : MethodName} {wsC ws0 : List Cond} {rm : Room} {mc ms : Nat} {av : List Value} {ws : va_W} {E : String} {cc : ByteArray} {maxL : Nat} {ret : Option FieldType} {own : String} {lv : List (Nat × Value)} (hy : plainName y.cls = true) (ho : y.cls = own) (hw : wsC = Cond.code y cc maxL ret :: ws0) (hn : (lg_sl av).length ≤ maxL) (hlv : lv_args 0 av = lv)
    (body : ∀ (X : VC) (A : Nat → Prop), Cx X l rm D cl tys A cc maxL own wsC ret → Tx X tys mc ms ws E → V X 0 0 ws lv 0 []) : CX l D cl tys y wsC rm mc ms av ws E := by
  intro sz
  refine vx_ofW (cc := cc) (maxL := maxL) (ret := ret) hy hw ?_
  intro p e s m args below meth c s₁ B hml hno hv
  obtain ⟨rfl, hsz, hP, hK, hD0, hNs, hSx⟩ := hv
  have hts := atoms_spec (ws := wsC) B.pre
  have hown : s.vm.findClass own = some m.cls := ho ▸ findClass_of_methodNamed B.named
  subst hsz
  have hD := hD0.self (sz := s.heap.size)
  rw [lg_entry_eq]
  exact body (p, l, e, rm, s, m, av.toArray, below, meth, c, D, cl, va_A ws s.heap.size, vx_MQ below (fun _ _ _ _ => False) (vx_X (fun _ : Unit => True) (fun E' _ t => E' = E ∧ Bw D cl tys (va_A ws s.heap.size) ws t) (va_A ws s.heap.size)) av.toArray s mc ms (va_A ws s.heap.size), maxL) (va_A ws s.heap.size) ⟨rfl, rfl, rfl, rfl, rfl, rfl, ⟨B.exec, B.bytes, hml, hown, hts⟩, hK, fun q h => Or.inr h, B.returns, B.notSynchronized, hNs, hSx⟩ ⟨hno, rfl⟩ s.heap [] _ hP hD va_S.rf (hlv ▸ lv_entry av hn)
theorem VT_out {X : VC} {l : Launch} {R : Room} {D : va_G} {cl : List vw_C} {tys : List (ClassId × FieldType)} {A : Nat → Prop} {cc : ByteArray} {nL : Nat} {own : String} {Ts : List Cond} {ret0 : Option FieldType} {kc ks pc : Nat} {ws : va_W} {lv : List (Nat × Value)} {rest : List Value} {E : String} {mc ms : Nat} {ws1 : va_W} (hC : Cx X l R D cl tys A cc nL own Ts ret0) (hT : Tx X tys mc ms ws E) (hc : kc ≤ mc) (hs : ks ≤ ms) (hw : ws1 = ws) : VT X kc ks ws1 lv pc rest E := by
  obtain ⟨p, l, e, R, s, m, args, below, meth, c, D, cl, A, Q, nL⟩ := X
  obtain ⟨rfl, rfl, rfl, rfl, rfl, rfl, hF, hK, hA, hr, hlk, hNs, hSx⟩ := hC
  obtain ⟨hx, hb, hml, hown, hts⟩ := hF
  obtain ⟨hno, hQ⟩ := hT
  subst hw hQ
  intro H locs ls ce q hP hD hS hl hce hcv hcl
  exact vx_out (fun x hx => (hno x hx).elim) hlk hce hcv hcl (fun t ht hal => ⟨(), trivial, ⟨rfl, by rw [ht]; exact hP, hD⟩, hS.F ht⟩) hS.2.2 hc hs
def xwL : List Cond := xdL.map Cond.declares ++ xcL.map (fun q => Cond.castable q.1 q.2)
theorem Nst.xw {s : State} {args : Array Value} (h : Nst s) : ∀ w ∈ xwL, w.before args s = true := by
  intro w hw
  rcases List.mem_append.mp hw with hw | hw
  · obtain ⟨q, hq, rfl⟩ := List.mem_map.mp hw
    exact va_Nw.use rfl (h.2.2.2.2.2.1 q hq)
  · obtain ⟨q, hq, rfl⟩ := List.mem_map.mp hw
    exact va_Nw.use rfl (h.2.2.2.2.2.2.1 q hq)
/-- throw new E("text") -/
theorem V_throwS {X : VC} {l : Launch} {R : Room} {D : va_G} {cl : List vw_C} {tys : List (ClassId × FieldType)} {A : Nat → Prop} {cc : ByteArray} {nL : Nat} {own : String} {Ts : List Cond} {ret0 : Option FieldType} {kc ks pc : Nat} {ws : va_W} {lv : List (Nat × Value)} {rest : List Value} {E text : String} {names : List String} {ik is ic mc ms : Nat} {ws1 : va_W} (hC : Cx X l R D cl tys A cc nL own Ts ret0) (hT : Tx X tys mc ms ws E) (hl : l.stackTraces = false) (ho : own = RX3) (hcls : Bundle.fit E = true) (hnames : ∀ n ∈ names, Bundle.fit n = true)
    (hk : Cond.classLink own ik E ∈ Ts) (hini : Cond.initialized E ∈ Ts) (hstr : (is, text) ∈ xsL) (hin : ∀ w ∈ (vx_atS own ic E names).filter goodWord, w ∈ Ts) (hnot : ∀ w ∈ (vx_atS own ic E names).filter (fun w => !goodWord w), w ∈ xwL) (hgood : ∀ w ∈ Cond.classLink own ik E :: Cond.initialized E :: vx_atS own ic E names, vx_ot w = true)
    (d0 : decode cc pc = .ok (.new ik, 3)) (d3 : decode cc (pc + 3) = .ok (.dup, 1)) (d4 : decode cc (pc + 4) = .ok (.ldc is, 2)) (d6 : decode cc (pc + 6) = .ok (.invokespecial ic, 3)) (d9 : decode cc (pc + 9) = .ok (.athrow, 1))
    (hRf : names.length + 3 < R.frames) (hRl : (rest.map fun v => v.category).sum + (13 * (names.length + 1) + 43) ≤ R.locals) (hRc : kc + 1 ≤ R.cells) (hRs : ks + 6 ≤ R.slots) (hc : kc + 1 ≤ mc) (hs : ks + 6 ≤ ms) (hw : ws1 = ws) : V X kc ks ws1 lv pc rest := by
  obtain ⟨p, l, e, R, s, m, args, below, meth, c, D, cl, A, Q, nL⟩ := X
  obtain ⟨rfl, rfl, rfl, rfl, rfl, rfl, hF, hK, hA, hr, hlk, hNs, hSx⟩ := hC
  obtain ⟨hx, hb, hml, hown, hts⟩ := hF
  obtain ⟨hno, hQ⟩ := hT
  subst hw hQ ho
  intro H locs ls hP hD hS hl2
  obtain ⟨sa, hsa⟩ := hNs.2.2.2.2.2.2.2.1 _ hstr
  refine vx_throwS hx hb hl hown hcls hnames (hts _ hk) (hts _ hini) hsa (vx_hat (fun w hw => hts w (hin w hw)) hnot (fun w hw => hNs.xw w hw)) hgood hSx.1 hSx.2.1 hS (hl2.1.trans hml.symm) d0 d3 d4 d6 d9 (fun x hx => (hno x hx).elim) hRf hRl hRc hRs hlk (fun t hal hz hk2 => ⟨(), trivial, ⟨rfl, P_iff.mpr fun q hq => (P_iff.mp hP q hq).kept (hk2 q.1 (P_iff.mp hP q hq).lt), hD⟩, Nat.le_trans hS.1 hz, fun q h1 h2 => (hk2 q (Nat.lt_of_lt_of_le h1 hS.1)).trans (hS.2.1 q h1 h2)⟩) hS.2.2 hc hs
theorem V_callXV {X : VC} {l : Launch} {R : Room} {D : va_G} {cl : List vw_C} {tys : List (ClassId × FieldType)} {A : Nat → Prop} {cc : ByteArray} {nL : Nat} {own : String} {Ts : List Cond} {ret0 : Option FieldType} {kc ks pc : Nat} {ws : va_W} {lv : List (Nat × Value)} {rest st : List Value} {y : MethodName} {bytes : ByteArray} {maxL mc ms n index : Nat} {wsC ws0 : List Cond} {rm : Room} {As : List Value} {E : String} {ret : Option FieldType} {wc pre suf : va_W} {C : String} {b q0 ci N : Nat} {fs : List Value} {T : u_T} (hC : Cx X l R D cl tys A cc nL own Ts ret0) (hd : decode cc pc = .ok (.invokevirtual index, 3)) (hM : CX l D cl tys y wsC rm mc ms (.ref b :: As) wc E) (hG : GoodIn Ts (wsV own index C y wsC)) (hw : wsC = Cond.code y bytes maxL ret :: ws0) (hrm : rm.cells = mc ∧ rm.slots = ms) (hy : y.cls = C ∧ y.cls ≠ "java/lang/invoke/MethodHandle" ∧ y.cls ≠ "java/lang/invoke/VarHandle" ∧ (parseMethodDescriptor y.desc).map (fun d => d.parameters.length) = some n) (hR : rm.frames + 1 ≤ R.frames ∧ 8 + (maxL + 11) + rm.locals ≤ R.locals) (hroom : kc + mc ≤ R.cells ∧ ks + ms ≤ R.slots) (hws : ws = pre ++ (wc ++ suf)) (he : wc[q0]? = some (b, .inr (ci, fs))) (hc : cl[ci]? = some (C, T, N)) (hn : As.length = n) (hst : st = As.reverse ++ .ref b :: rest) (hcat : (rest.map fun v => v.category).sum ≤ 8) (k : VT X (kc + mc) (ks + ms) ws lv pc rest E) : V X kc ks ws lv pc st := by
  obtain ⟨p, l, e, R, s, m, args, below, meth, c, D, cl, A, Q, nL⟩ := X
  obtain ⟨rfl, rfl, rfl, rfl, rfl, rfl, hF, hK, hA, hr, hlk, hNs, hSx⟩ := hC
  obtain ⟨hx, hb, hml, hown, hts⟩ := hF
  subst hst hws
  intro H locs ls hP hD hS hl
  have hPc : va_P D cl wc H := P_iff.mpr fun q hq => P_iff.mp hP q (by simp [hq])
  have hD2 := D_iff.mp hD
  have hDc : va_D A wc := D_iff.mpr ⟨by have h := hD2.1; simp only [List.map_append, List.nodup_append] at h; exact h.2.1.1, fun q hq => hD2.2 q (by simp [hq])⟩
  have hFc : ∀ q, va_A wc H.size q → A q := by
    rintro q (⟨k, e, h⟩ | h)
    · exact hDc.2 k _ h
    · exact hA q (Nat.le_trans hS.1 h)
  refine vx_only (vx_runV (As := As) (rest := rest) ⟨hx, hb, hml, hown, hts⟩ (hM H.size) (cwV n hts hG hw hrm.1 hrm.2 hy hR) ⟨fun a U g mk z => by obtain ⟨z0, z1, z2, z3, z4, z5, z6⟩ := z; exact ⟨z0, z1, z2, va_K.moved (u := U) (U := U.calling g mk a) (Vm.Alike.refl U.vm) z3, z4, Nst.same (U := U.calling g mk a) rfl z5, Sx.moved (u := U) (U := U.calling g mk a) (Vm.Alike.refl U.vm) z6⟩, va_recv hK hPc hc he, fun U hU hW => ⟨rfl, by rw [hU], by rw [hU]; exact hPc, va_K.moved hW.alike hK, hDc.weaken (fun _ _ _ _ => trivial), hNs.warm hW, by rw [hU]; exact ((hSx.kept hS.2.1).narrow hFc).moved hW.alike⟩⟩ rfl hn hl.1 rfl (lv_room hcat) hd hroom) hS (fun q h => hFc q h) (fun q _ h => hFc q h) (fun E' ce q9 u t H1 locs1 ht hvm _ hB hz1 hk1 hS hce hcv hcl => ?_)
  obtain ⟨rfl, hP1, hD1⟩ := hB
  rw [ht] at hP1
  obtain ⟨hP2, hD2⟩ := fr_call hP hD hFc hk1 hP1 hD1
  exact k H1 locs1 ls ce q9 hP2 hD2 hS hl hce hcv hcl
theorem V_callXS {X : VC} {l : Launch} {R : Room} {D : va_G} {cl : List vw_C} {tys : List (ClassId × FieldType)} {A : Nat → Prop} {cc : ByteArray} {nL : Nat} {own : String} {Ts : List Cond} {ret0 : Option FieldType} {kc ks pc : Nat} {ws : va_W} {lv : List (Nat × Value)} {rest st : List Value} {y : MethodName} {bytes : ByteArray} {maxL mc ms n index : Nat} {wsC ws0 : List Cond} {rm : Room} {As : List Value} {E : String} {ret : Option FieldType} {wc pre suf : va_W} (hC : Cx X l R D cl tys A cc nL own Ts ret0) (hd : decode cc pc = .ok (.invokestatic index, 3)) (hM : CX l D cl tys y wsC rm mc ms As wc E) (hG : GoodIn Ts (va_wsS own index y wsC)) (hw : wsC = Cond.code y bytes maxL ret :: ws0) (hrm : rm.cells = mc ∧ rm.slots = ms) (hy : y.cls ≠ "java/lang/invoke/MethodHandle" ∧ y.cls ≠ "java/lang/invoke/VarHandle" ∧ (parseMethodDescriptor y.desc).map (fun d => d.parameters.length) = some n) (hR : rm.frames + 1 ≤ R.frames ∧ 8 + (maxL + 11) + rm.locals ≤ R.locals) (hroom : kc + mc ≤ R.cells ∧ ks + ms ≤ R.slots) (hws : ws = pre ++ (wc ++ suf)) (hn : As.length = n) (hst : st = As.reverse ++ rest) (hcat : (rest.map fun v => v.category).sum ≤ 8) (k : VT X (kc + mc) (ks + ms) ws lv pc rest E) : V X kc ks ws lv pc st := by
  obtain ⟨p, l, e, R, s, m, args, below, meth, c, D, cl, A, Q, nL⟩ := X
  obtain ⟨rfl, rfl, rfl, rfl, rfl, rfl, hF, hK, hA, hr, hlk, hNs, hSx⟩ := hC
  obtain ⟨hx, hb, hml, hown, hts⟩ := hF
  subst hst hws
  intro H locs ls hP hD hS hl
  have hPc : va_P D cl wc H := P_iff.mpr fun q hq => P_iff.mp hP q (by simp [hq])
  have hD2 := D_iff.mp hD
  have hDc : va_D A wc := D_iff.mpr ⟨by have h := hD2.1; simp only [List.map_append, List.nodup_append] at h; exact h.2.1.1, fun q hq => hD2.2 q (by simp [hq])⟩
  have hFc : ∀ q, va_A wc H.size q → A q := by
    rintro q (⟨k, e, h⟩ | h)
    · exact hDc.2 k _ h
    · exact hA q (Nat.le_trans hS.1 h)
  refine vx_only (vx_runS (As := As) (rest := rest) ⟨hx, hb, hml, hown, hts⟩ (hM H.size) (va_cwS n hts hG hw hrm.1 hrm.2 hy hR) ⟨fun a U g mk z => by obtain ⟨z0, z1, z2, z3, z4, z5, z6⟩ := z; exact ⟨z0, z1, z2, va_K.moved (u := U) (U := U.calling g mk a) (Vm.Alike.refl U.vm) z3, z4, Nst.same (U := U.calling g mk a) rfl z5, Sx.moved (u := U) (U := U.calling g mk a) (Vm.Alike.refl U.vm) z6⟩, fun U hU hW => ⟨rfl, by rw [hU], by rw [hU]; exact hPc, va_K.moved hW.alike hK, hDc.weaken (fun _ _ _ _ => trivial), hNs.warm hW, by rw [hU]; exact ((hSx.kept hS.2.1).narrow hFc).moved hW.alike⟩⟩ rfl hn hl.1 rfl (lv_room hcat) hd hroom) hS (fun q h => hFc q h) (fun q _ h => hFc q h) (fun E' ce q9 u t H1 locs1 ht hvm _ hB hz1 hk1 hS hce hcv hcl => ?_)
  obtain ⟨rfl, hP1, hD1⟩ := hB
  rw [ht] at hP1
  obtain ⟨hP2, hD2⟩ := fr_call hP hD hFc hk1 hP1 hD1
  exact k H1 locs1 ls ce q9 hP2 hD2 hS hl hce hcv hcl
/-! Methods with a table of their own, that return an int. -/
def CW (l : Launch) (D : va_G) (cl : List vw_C) (tys : List (ClassId × FieldType)) (y : MethodName) (wsC : List Cond) (rm : Room) (mc ms : Nat) (av : List Value) (ws : va_W) {S : Type} (post : Int32 → S → Prop) (wf : S → va_W) : Prop := ∀ sz : Nat, vx_Met l y wsC rm (va_Pc av (Pw D cl tys sz ws)) (va_Qi post (fun u => Bw D cl tys (va_A ws sz) (wf u)) (va_A ws sz)) (vx_X (fun _ : Unit => False) (fun _ _ _ => True) (va_A ws sz)) mc ms (va_A ws sz)
/-- the body's table -/
def Hx (X : VC) (hh : List (Nat × Nat × Nat × Nat)) : Prop := match X with
  | (_, _, _, _, _, _, _, _, _, c, _, _, _, _, _) => c.exceptionTable.toList = tableOf hh
theorem CW_of {l : Launch} {D : va_G} {cl : List vw_C} {tys : List (ClassId × FieldType)} {y : MethodName} {wsC ws0 : List Cond} {rm : Room} {mc ms : Nat} {av : List Value} {ws : va_W} {S : Type} {post : Int32 → S → Prop} {wf : S → va_W} {cc : ByteArray} {maxL : Nat} {rt : FieldType} {hh : List (Nat × Nat × Nat × Nat)} {own : String} {lv : List (Nat × Value)} (hy : plainName y.cls = true) (ho : y.cls = own) (hw : wsC = Cond.codeWith y cc maxL (some rt) hh :: ws0) (hn : (lg_sl av).length ≤ maxL) (hlv : lv_args 0 av = lv)
    (body : ∀ (X : VC) (A : Nat → Prop), Cx X l rm D cl tys A cc maxL own wsC (some rt) → Hx X hh → (∀ (r : Int32) (u : S) (ws1 : va_W) (lv : List (Nat × Value)) (pc : Nat), decode cc pc = .ok (.ireturn, 1) → narrow rt (.int r) = .int r → ws1 = wf u → post r u → V X mc ms ws1 lv pc [.int r]) → V X 0 0 ws lv 0 []) : CW l D cl tys y wsC rm mc ms av ws post wf := by
  intro sz
  refine vx_ofWH (cc := cc) (maxL := maxL) (ret := some rt) (hh := hh) hy hw ?_
  intro p e s m args below meth c s₁ B hml hv
  obtain ⟨rfl, hsz, hP, hK, hD0, hNs, hSx⟩ := hv
  have hts := atoms_spec (ws := wsC) B.pre
  have hown : s.vm.findClass own = some m.cls := ho ▸ findClass_of_methodNamed B.named
  have htb := vx_table (x := y) B (hts _ (by rw [hw]; exact List.mem_cons_self))
  subst hsz
  have hD := hD0.self (sz := s.heap.size)
  rw [lg_entry_eq]
  refine body (p, l, e, rm, s, m, av.toArray, below, meth, c, D, cl, va_A ws s.heap.size, vx_MQ below (va_Qi post (fun u => Bw D cl tys (va_A ws s.heap.size) (wf u)) (va_A ws s.heap.size)) (vx_X (fun _ : Unit => False) (fun _ _ _ => True) (va_A ws s.heap.size)) av.toArray s mc ms (va_A ws s.heap.size), maxL) (va_A ws s.heap.size) ⟨rfl, rfl, rfl, rfl, rfl, rfl, ⟨B.exec, B.bytes, hml, hown, hts⟩, hK, fun q h => Or.inr h, B.returns, B.notSynchronized, hNs, hSx⟩ htb ?_ s.heap [] _ hP hD va_S.rf (hlv ▸ lv_entry av hn)
  intro r u ws1 lv pc hd hn hw hp H locs ls hP hD hS hl
  subst hw
  exact vx_ret (W.zret (ty := rt) B.exec B.bytes B.returns hn (fun t ht hW => ⟨⟨r, u, rfl, hp, by rw [ht]; exact hP, hD⟩, hS.F ht⟩) hS.2.2 hd B.notSynchronized)
/-- caught by the row i of the table -/
theorem VT_catch {X : VC} {l : Launch} {R : Room} {D : va_G} {cl : List vw_C} {tys : List (ClassId × FieldType)} {A : Nat → Prop} {cc : ByteArray} {nL : Nat} {own : String} {Ts : List Cond} {ret0 : Option FieldType} {kc ks pc : Nat} {ws : va_W} {lv : List (Nat × Value)} {rest : List Value} {E name : String} {hh : List (Nat × Nat × Nat × Nat)} (hC : Cx X l R D cl tys A cc nL own Ts ret0) (hH : Hx X hh) (pre : List ExceptionTableEntry) (x : ExceptionTableEntry) (suf : List ExceptionTableEntry) (hsplit : tableOf hh = pre ++ x :: suf) (hpass : ∀ z ∈ pre, z.catchType ≠ 0 ∧ ∃ nm : String, Cond.classLink own z.catchType nm ∈ Ts ∧ E = "java/lang/IllegalArgumentException" ∧ nm = "java/lang/IndexOutOfBoundsException") (hcov : covers x pc = true) (h0 : x.catchType ≠ 0) (hlink : Cond.classLink own x.catchType name ∈ Ts) (hcast : (E, name) ∈ xcL) (k : ∀ b : Nat, V X kc ks ws lv x.handlerPc [.ref b]) : VT X kc ks ws lv pc rest E := by
  obtain ⟨p, l, e, R, s, m, args, below, meth, c, D, cl, A, Q, nL⟩ := X
  obtain ⟨rfl, rfl, rfl, rfl, rfl, rfl, hF, hK, hA, hr, hlk, hNs, hSx⟩ := hC
  obtain ⟨hx, hb, hml, hown, hts⟩ := hF
  intro H locs ls ce q hP hD hS hl hce hcv hcl
  refine vx_catch hown pre x suf (hH.trans hsplit) (fun z hz => ?_) hcov h0 (hts _ hlink) (va_Nw.use rfl (hNs.2.2.2.2.2.2.1 _ hcast)) hce hcv hcl (k q H locs ls hP hD hS hl)
  obtain ⟨h1, nm, h2, h3, h4⟩ := hpass z hz
  subst h3 h4
  exact Or.inr ⟨h1, _, hts _ h2, hNs.2.2.2.2.2.2.2.2.2.1⟩
theorem V_callWS {X : VC} {l : Launch} {R : Room} {D : va_G} {cl : List vw_C} {tys : List (ClassId × FieldType)} {A : Nat → Prop} {cc : ByteArray} {nL : Nat} {own : String} {Ts : List Cond} {ret0 : Option FieldType} {kc ks pc q : Nat} {ws : va_W} {lv : List (Nat × Value)} {rest st : List Value} {y : MethodName} {bytes : ByteArray} {maxL mc ms n index : Nat} {hh : List (Nat × Nat × Nat × Nat)} {wsC ws0 : List Cond} {rm : Room} {As : List Value} {S : Type} {post : Int32 → S → Prop} {wf : S → va_W} {rt : FieldType} {wc pre suf : va_W} (hC : Cx X l R D cl tys A cc nL own Ts ret0) (hd : decode cc pc = .ok (.invokestatic index, 3)) (hM : CW l D cl tys y wsC rm mc ms As wc post wf) (hG : GoodIn Ts (va_wsS own index y wsC)) (hw : wsC = Cond.codeWith y bytes maxL (some rt) hh :: ws0) (hrm : rm.cells = mc ∧ rm.slots = ms) (hy : y.cls ≠ "java/lang/invoke/MethodHandle" ∧ y.cls ≠ "java/lang/invoke/VarHandle" ∧ (parseMethodDescriptor y.desc).map (fun d => d.parameters.length) = some n) (hR : rm.frames + 1 ≤ R.frames ∧ 8 + (maxL + 11) + rm.locals ≤ R.locals) (hroom : kc + mc ≤ R.cells ∧ ks + ms ≤ R.slots) (hws : ws = pre ++ (wc ++ suf)) (hn : As.length = n) (hst : st = As.reverse ++ rest) (hcat : (rest.map fun v => v.category).sum ≤ 8) (hq : pc + 3 = q) (k : ∀ (r : Int32) (u : S), post r u → V X (kc + mc) (ks + ms) (pre ++ (wf u ++ suf)) lv q (.int r :: rest)) : V X kc ks ws lv pc st := by
  obtain ⟨p, l, e, R, s, m, args, below, meth, c, D, cl, A, Q, nL⟩ := X
  obtain ⟨rfl, rfl, rfl, rfl, rfl, rfl, hF, hK, hA, hr, hlk, hNs, hSx⟩ := hC
  obtain ⟨hx, hb, hml, hown, hts⟩ := hF
  subst hq hst hws
  intro H locs ls hP hD hS hl
  have hPc : va_P D cl wc H := P_iff.mpr fun q hq => P_iff.mp hP q (by simp [hq])
  have hD2 := D_iff.mp hD
  have hDc : va_D A wc := D_iff.mpr ⟨by have h := hD2.1; simp only [List.map_append, List.nodup_append] at h; exact h.2.1.1, fun q hq => hD2.2 q (by simp [hq])⟩
  have hFc : ∀ q, va_A wc H.size q → A q := by
    rintro q (⟨k, e, h⟩ | h)
    · exact hDc.2 k _ h
    · exact hA q (Nat.le_trans hS.1 h)
  refine vx_calli (vx_runSX (As := As) (rest := rest) ⟨hx, hb, hml, hown, hts⟩ (hM H.size) (vx_cwSW n hts hG hw hrm.1 hrm.2 hy hR) ⟨fun a U g mk z => by obtain ⟨z0, z1, z2, z3, z4, z5, z6⟩ := z; exact ⟨z0, z1, z2, va_K.moved (u := U) (U := U.calling g mk a) (Vm.Alike.refl U.vm) z3, z4, Nst.same (U := U.calling g mk a) rfl z5, Sx.moved (u := U) (U := U.calling g mk a) (Vm.Alike.refl U.vm) z6⟩, fun U hU hW => ⟨rfl, by rw [hU], by rw [hU]; exact hPc, va_K.moved hW.alike hK, hDc.weaken (fun _ _ _ _ => trivial), hNs.warm hW, by rw [hU]; exact ((hSx.kept hS.2.1).narrow hFc).moved hW.alike⟩⟩ rfl hn hl.1 rfl (lv_room hcat) hd hroom) hS (fun q _ h => hFc q h) hFc (fun q _ h => hFc q h) (fun E' ce q9 u t H1 locs1 ht hvm hf => hf.elim) (fun r u t H1 locs ht hvm hw hB hz1 hk1 hS => ?_)
  obtain ⟨hP1, hD1⟩ := hB
  rw [ht] at hP1
  obtain ⟨hP2, hD2⟩ := fr_call hP hD hFc hk1 hP1 hD1
  exact k r u hw H1 locs ls hP2 hD2 hS hl
