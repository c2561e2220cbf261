/-! The reference's classes behind the class's own: 4 its line, 5 itself, 6 lists, 7 their iterators. -/
def kC2 : List vw_C := kCl ++ [(RX4, TX4, 7), (RX5, TX5, 3), (RJx4a65c, TJx4a65c, 3), (RJx35411, TJx35411, 4)]
/-- 3 rows of int rows, 4 rows of references, 5 rows of longs -/
def kT2 (D : va_G) (cI cZ cT : ClassId) : List (ClassId × FieldType) := kTy cI cZ cT ++ [(D.1 101, .array .int), (D.1 100, .object "java/lang/Object"), (D.1 102, .long)]
theorem app_pre {α : Type} {a b : List α} {i : Nat} {r : α} (h : a[i]? = some r) : (a ++ b)[i]? = some r := by
  rw [List.getElem?_append_left (List.getElem?_eq_some_iff.mp h).1]
  exact h
theorem Sb2 {D : va_G} {cI cZ cT : ClassId} : Sb kCl kC2 (kTy cI cZ cT) (kT2 D cI cZ cT) := ⟨fun _ _ h => app_pre h, fun _ _ h => app_pre h⟩
def CR (l : Launch) (D : va_G) (cl : List vw_C) (tys : List (ClassId × FieldType)) (y : MethodName) (wsC : List Cond) (rm : Room) (mc ms : Nat) (av : List Value) (ws : va_W) {S : Type} (post : Nat → S → Prop) (wf : S → va_W) : Prop := ∀ sz : Nat, Met l y wsC rm (va_Pc av (Pw D cl tys sz ws)) (va_Qr (fun _ : S => True) (fun u a => fun t => post a u ∧ Bw D cl tys (va_A ws sz) (wf u) t) (va_A ws sz)) mc ms (va_A ws sz)
theorem CR_of {l : Launch} {D : va_G} {cl : List vw_C} {tys : List (ClassId × FieldType)} {y : MethodName} {wsC ws0 : List Cond} {rm : Room} {mc ms : Nat} {av : List Value} {ws : va_W} {S : Type} {post : Nat → S → Prop} {wf : S → va_W} {cc : ByteArray} {maxL : Nat} {rt : FieldType} {own : String} {lv : List (Nat × Value)} (hy : plainName y.cls = true) (ho : y.cls = own) (hw : wsC = Cond.code y cc maxL (some rt) :: ws0) (hn : (lg_sl av).length ≤ maxL) (hlv : lv_args 0 av = lv) (hrt : (∃ n, rt = .object n) ∨ ∃ t, rt = .array t)
    (body : ∀ (X : VC) (A : Nat → Prop), Cx X l rm D cl tys A cc maxL own wsC (some rt) → (∀ (r : Nat) (u : S) (ws1 : va_W) (lv : List (Nat × Value)) (pc : Nat), decode cc pc = .ok (.areturn, 1) → True → ws1 = wf u → post r u → V X mc ms ws1 lv pc [.ref r]) → V X 0 0 ws lv 0 []) : CR l D cl tys y wsC rm mc ms av ws post wf := by
  intro sz
  refine Met.ofW (cc := cc) (maxL := maxL) (ret := some rt) hy hw ?_
  intro p e s m args below meth c s₁ B hml hv
  obtain ⟨rfl, hsz, hP, hK, hD0, hNs, hSx⟩ := hv
  have hts := atoms_spec (ws := wsC) B.pre
  have hown : s.vm.findClass own = some m.cls := ho ▸ findClass_of_methodNamed B.named
  subst hsz
  have hD := hD0.self (sz := s.heap.size)
  rw [lg_entry_eq]
  refine body (p, l, e, rm, s, m, av.toArray, below, meth, c, D, cl, va_A ws s.heap.size, MQ below (va_Qr (fun _ : S => True) (fun u a => fun t => post a u ∧ Bw D cl tys (va_A ws s.heap.size) (wf u) t) (va_A ws s.heap.size)) av.toArray s mc ms (va_A ws s.heap.size), maxL) (va_A ws s.heap.size) ⟨rfl, rfl, rfl, rfl, rfl, rfl, ⟨B.exec, B.bytes, hml, hown, hts⟩, hK, fun q h => Or.inr h, B.returns, B.notSynchronized, hNs, hSx⟩ ?_ s.heap [] _ hP hD va_S.rf (hlv ▸ lv_entry av hn)
  intro r u ws1 lv pc hd _ hw hp H locs ls hP hD hS hl
  subst hw
  exact W.aret (v := .ref r) (rt := rt) B.exec B.bytes B.returns hrt (Or.inr ⟨r, rfl⟩) (fun t ht hW => ⟨⟨u, r, rfl, trivial, hp, by rw [ht]; exact hP, hD⟩, hS.F ht⟩) hS.2.2 hd B.notSynchronized
theorem V_callRV {X : VC} {l : Launch} {R : Room} {D : va_G} {cl : List vw_C} {tys : List (ClassId × FieldType)} {A : Nat → Prop} {cc : ByteArray} {nL : Nat} {own : String} {Ts : List Cond} {ret0 : Option FieldType} {kc ks pc q : Nat} {ws : va_W} {lv : List (Nat × Value)} {rest : List Value} {st : List Value} {y : MethodName} {bytes : ByteArray} {maxL mc ms n index : Nat} {wsC ws0 : List Cond} {rm : Room} {As : List Value} {S : Type} {post : Nat → S → Prop} {wf : S → va_W} {rt : FieldType} {wc pre suf : va_W} {C : String} {b q0 ci N : Nat} {fs : List Value} {T : u_T} (hC : Cx X l R D cl tys A cc nL own Ts ret0) (hd : decode cc pc = .ok (.invokevirtual index, 3)) (hM : CR l D cl tys y wsC rm mc ms (.ref b :: As) wc post wf) (hG : GoodIn Ts (wsV own index C y wsC)) (hw : wsC = Cond.code y bytes maxL (some rt) :: ws0) (hrm : rm.cells = mc ∧ rm.slots = ms) (hy : y.cls = C ∧ y.cls ≠ "java/lang/invoke/MethodHandle" ∧ y.cls ≠ "java/lang/invoke/VarHandle" ∧ (parseMethodDescriptor y.desc).map (fun d => d.parameters.length) = some n) (hR : rm.frames + 1 ≤ R.frames ∧ 8 + (maxL + 11) + rm.locals ≤ R.locals) (hroom : kc + mc ≤ R.cells ∧ ks + ms ≤ R.slots) (hws : ws = pre ++ (wc ++ suf)) (he : wc[q0]? = some (b, .inr (ci, fs))) (hc : cl[ci]? = some (C, T, N)) (hn : As.length = n) (hst : st = As.reverse ++ .ref b :: rest) (hcat : (rest.map fun v => v.category).sum ≤ 8) (hq : pc + 3 = q) (k : ∀ (r : Nat) (u : S), post r u → V X (kc + mc) (ks + ms) (pre ++ (wf u ++ suf)) lv q (.ref r :: rest)) : V X kc ks ws lv pc st := by
  obtain ⟨p, l, e, R, s, m, args, below, meth, c, D, cl, A, Q, nL⟩ := X
  obtain ⟨rfl, rfl, rfl, rfl, rfl, rfl, hF, hK, hA, hr, hlk, hNs, hSx⟩ := hC
  obtain ⟨hx, hb, hml, hown, hts⟩ := hF
  subst hq hst hws
  intro H locs ls hP hD hS hl
  have hPc : va_P D cl wc H := P_iff.mpr fun q hq => P_iff.mp hP q (by simp [hq])
  have hD2 := D_iff.mp hD
  have hDc : va_D A wc := D_iff.mpr ⟨by have h := hD2.1; simp only [List.map_append, List.nodup_append] at h; exact h.2.1.1, fun q hq => hD2.2 q (by simp [hq])⟩
  have hFc : ∀ q, va_A wc H.size q → A q := by
    rintro q (⟨k, e, h⟩ | h)
    · exact hDc.2 k _ h
    · exact hA q (Nat.le_trans hS.1 h)
  refine va_callr (va_runV (As := As) (rest := rest) ⟨hx, hb, hml, hown, hts⟩ (hM H.size) (cwV n hts hG hw hrm.1 hrm.2 hy hR) ⟨fun a U g mk z => by obtain ⟨z0, z1, z2, z3, z4, z5, z6⟩ := z; exact ⟨z0, z1, z2, va_K.moved (u := U) (U := U.calling g mk a) (Vm.Alike.refl U.vm) z3, z4, Nst.same (U := U.calling g mk a) rfl z5, Sx.moved (u := U) (U := U.calling g mk a) (Vm.Alike.refl U.vm) z6⟩, va_recv hK hPc hc he, fun U hU hW => ⟨rfl, by rw [hU], by rw [hU]; exact hPc, va_K.moved hW.alike hK, hDc.weaken (fun _ _ _ _ => trivial), hNs.warm hW, by rw [hU]; exact ((hSx.kept hS.2.1).narrow hFc).moved hW.alike⟩⟩ rfl hn hl.1 rfl (lv_room hcat) hd hroom) hS (fun q _ h => hFc q h) hFc (fun u r t H1 locs ht hvm _ hB hz1 hk1 hS => ?_)
  obtain ⟨hw, hP1, hD1⟩ := hB
  rw [ht] at hP1
  obtain ⟨hP2, hD2⟩ := fr_call hP hD hFc hk1 hP1 hD1
  exact k r u hw H1 locs ls hP2 hD2 hS hl
theorem V_callRS {X : VC} {l : Launch} {R : Room} {D : va_G} {cl : List vw_C} {tys : List (ClassId × FieldType)} {A : Nat → Prop} {cc : ByteArray} {nL : Nat} {own : String} {Ts : List Cond} {ret0 : Option FieldType} {kc ks pc q : Nat} {ws : va_W} {lv : List (Nat × Value)} {rest : List Value} {st : List Value} {y : MethodName} {bytes : ByteArray} {maxL mc ms n index : Nat} {wsC ws0 : List Cond} {rm : Room} {As : List Value} {S : Type} {post : Nat → S → Prop} {wf : S → va_W} {rt : FieldType} {wc pre suf : va_W} (hC : Cx X l R D cl tys A cc nL own Ts ret0) (hd : decode cc pc = .ok (.invokestatic index, 3)) (hM : CR l D cl tys y wsC rm mc ms As wc post wf) (hG : GoodIn Ts (va_wsS own index y wsC)) (hw : wsC = Cond.code y bytes maxL (some rt) :: ws0) (hrm : rm.cells = mc ∧ rm.slots = ms) (hy : y.cls ≠ "java/lang/invoke/MethodHandle" ∧ y.cls ≠ "java/lang/invoke/VarHandle" ∧ (parseMethodDescriptor y.desc).map (fun d => d.parameters.length) = some n) (hR : rm.frames + 1 ≤ R.frames ∧ 8 + (maxL + 11) + rm.locals ≤ R.locals) (hroom : kc + mc ≤ R.cells ∧ ks + ms ≤ R.slots) (hws : ws = pre ++ (wc ++ suf)) (hn : As.length = n) (hst : st = As.reverse ++ rest) (hcat : (rest.map fun v => v.category).sum ≤ 8) (hq : pc + 3 = q) (k : ∀ (r : Nat) (u : S), post r u → V X (kc + mc) (ks + ms) (pre ++ (wf u ++ suf)) lv q (.ref r :: rest)) : V X kc ks ws lv pc st := by
  obtain ⟨p, l, e, R, s, m, args, below, meth, c, D, cl, A, Q, nL⟩ := X
  obtain ⟨rfl, rfl, rfl, rfl, rfl, rfl, hF, hK, hA, hr, hlk, hNs, hSx⟩ := hC
  obtain ⟨hx, hb, hml, hown, hts⟩ := hF
  subst hq hst hws
  intro H locs ls hP hD hS hl
  have hPc : va_P D cl wc H := P_iff.mpr fun q hq => P_iff.mp hP q (by simp [hq])
  have hD2 := D_iff.mp hD
  have hDc : va_D A wc := D_iff.mpr ⟨by have h := hD2.1; simp only [List.map_append, List.nodup_append] at h; exact h.2.1.1, fun q hq => hD2.2 q (by simp [hq])⟩
  have hFc : ∀ q, va_A wc H.size q → A q := by
    rintro q (⟨k, e, h⟩ | h)
    · exact hDc.2 k _ h
    · exact hA q (Nat.le_trans hS.1 h)
  refine va_callr (va_runS (As := As) (rest := rest) ⟨hx, hb, hml, hown, hts⟩ (hM H.size) (va_cwS n hts hG hw hrm.1 hrm.2 hy hR) ⟨fun a U g mk z => by obtain ⟨z0, z1, z2, z3, z4, z5, z6⟩ := z; exact ⟨z0, z1, z2, va_K.moved (u := U) (U := U.calling g mk a) (Vm.Alike.refl U.vm) z3, z4, Nst.same (U := U.calling g mk a) rfl z5, Sx.moved (u := U) (U := U.calling g mk a) (Vm.Alike.refl U.vm) z6⟩, fun U hU hW => ⟨rfl, by rw [hU], by rw [hU]; exact hPc, va_K.moved hW.alike hK, hDc.weaken (fun _ _ _ _ => trivial), hNs.warm hW, by rw [hU]; exact ((hSx.kept hS.2.1).narrow hFc).moved hW.alike⟩⟩ rfl hn hl.1 rfl (lv_room hcat) hd hroom) hS (fun q _ h => hFc q h) hFc (fun u r t H1 locs ht hvm _ hB hz1 hk1 hS => ?_)
  obtain ⟨hw, hP1, hD1⟩ := hB
  rw [ht] at hP1
  obtain ⟨hP2, hD2⟩ := fr_call hP hD hFc hk1 hP1 hD1
  exact k r u hw H1 locs ls hP2 hD2 hS hl
theorem V_callRF {X : VC} {l : Launch} {R : Room} {D : va_G} {cl : List vw_C} {tys : List (ClassId × FieldType)} {A : Nat → Prop} {cc : ByteArray} {nL : Nat} {own : String} {Ts : List Cond} {ret0 : Option FieldType} {kc ks pc q : Nat} {ws : va_W} {lv : List (Nat × Value)} {rest : List Value} {st : List Value} {y x : MethodName} {bytes : ByteArray} {maxL mc ms n index count : Nat} {wsC ws0 : List Cond} {rm : Room} {As : List Value} {S : Type} {post : Nat → S → Prop} {wf : S → va_W} {rt : FieldType} {wc pre suf : va_W} {C : String} {b q0 ci N : Nat} {fs : List Value} {T : u_T} (hC : Cx X l R D cl tys A cc nL own Ts ret0) (hd : decode cc pc = .ok (.invokeinterface index count, 5)) (hM : CR l D cl tys y wsC rm mc ms (.ref b :: As) wc post wf) (hG : GoodIn Ts (va_wsF own index C x y wsC)) (hFw : ∀ {s : State}, Nst s → va_Fw C x y s) (hw : wsC = Cond.code y bytes maxL (some rt) :: ws0) (hrm : rm.cells = mc ∧ rm.slots = ms) (hy : x.cls ≠ "java/lang/invoke/MethodHandle" ∧ x.cls ≠ "java/lang/invoke/VarHandle" ∧ (parseMethodDescriptor x.desc).map (fun d => d.parameters.length) = some n) (hR : rm.frames + 1 ≤ R.frames ∧ 8 + (maxL + 11) + rm.locals ≤ R.locals) (hroom : kc + mc ≤ R.cells ∧ ks + ms ≤ R.slots) (hws : ws = pre ++ (wc ++ suf)) (he : wc[q0]? = some (b, .inr (ci, fs))) (hc : cl[ci]? = some (C, T, N)) (hn : As.length = n) (hst : st = As.reverse ++ .ref b :: rest) (hcat : (rest.map fun v => v.category).sum ≤ 8) (hq : pc + 5 = q) (k : ∀ (r : Nat) (u : S), post r u → V X (kc + mc) (ks + ms) (pre ++ (wf u ++ suf)) lv q (.ref r :: rest)) : V X kc ks ws lv pc st := by
  obtain ⟨p, l, e, R, s, m, args, below, meth, c, D, cl, A, Q, nL⟩ := X
  obtain ⟨rfl, rfl, rfl, rfl, rfl, rfl, hF, hK, hA, hr, hlk, hNs, hSx⟩ := hC
  obtain ⟨hx, hb, hml, hown, hts⟩ := hF
  subst hq hst hws
  intro H locs ls hP hD hS hl
  have hPc : va_P D cl wc H := P_iff.mpr fun q hq => P_iff.mp hP q (by simp [hq])
  have hD2 := D_iff.mp hD
  have hDc : va_D A wc := D_iff.mpr ⟨by have h := hD2.1; simp only [List.map_append, List.nodup_append] at h; exact h.2.1.1, fun q hq => hD2.2 q (by simp [hq])⟩
  have hFc : ∀ q, va_A wc H.size q → A q := by
    rintro q (⟨k, e, h⟩ | h)
    · exact hDc.2 k _ h
    · exact hA q (Nat.le_trans hS.1 h)
  refine va_callFr (va_runF (As := As) (rest := rest) (hK.1 ci _ hc).2 ⟨hx, hb, hml, hown, hts⟩ (hM H.size) (va_cwF n hts hG hw hrm.1 hrm.2 (hFw hNs) hy hR) ⟨fun a U g mk z => by obtain ⟨z0, z1, z2, z3, z4, z5, z6⟩ := z; exact ⟨z0, z1, z2, va_K.moved (u := U) (U := U.calling g mk a) (Vm.Alike.refl U.vm) z3, z4, Nst.same (U := U.calling g mk a) rfl z5, Sx.moved (u := U) (U := U.calling g mk a) (Vm.Alike.refl U.vm) z6⟩, va_recv hK hPc hc he, fun U hU hW => ⟨rfl, by rw [hU], by rw [hU]; exact hPc, va_K.moved hW.alike hK, hDc.weaken (fun _ _ _ _ => trivial), hNs.warm hW, by rw [hU]; exact ((hSx.kept hS.2.1).narrow hFc).moved hW.alike⟩⟩ rfl hn hl.1 rfl (lv_room hcat) hd hroom) hS (fun q _ h => hFc q h) hFc (fun u r t H1 locs ht hvm _ hB hz1 hk1 hS => ?_)
  obtain ⟨hw, hP1, hD1⟩ := hB
  rw [ht] at hP1
  obtain ⟨hP2, hD2⟩ := fr_call hP hD hFc hk1 hP1 hD1
  exact k r u hw H1 locs ls hP2 hD2 hS hl
theorem V_callIF {X : VC} {l : Launch} {R : Room} {D : va_G} {cl : List vw_C} {tys : List (ClassId × FieldType)} {A : Nat → Prop} {cc : ByteArray} {nL : Nat} {own : String} {Ts : List Cond} {ret0 : Option FieldType} {kc ks pc q : Nat} {ws : va_W} {lv : List (Nat × Value)} {rest : List Value} {st : List Value} {y x : MethodName} {bytes : ByteArray} {maxL mc ms n index count : Nat} {wsC ws0 : List Cond} {rm : Room} {As : List Value} {S : Type} {post : Int32 → S → Prop} {wf : S → va_W} {rt : FieldType} {wc pre suf : va_W} {C : String} {b q0 ci N : Nat} {fs : List Value} {T : u_T} (hC : Cx X l R D cl tys A cc nL own Ts ret0) (hd : decode cc pc = .ok (.invokeinterface index count, 5)) (hM : CI l D cl tys y wsC rm mc ms (.ref b :: As) wc post wf) (hG : GoodIn Ts (va_wsF own index C x y wsC)) (hFw : ∀ {s : State}, Nst s → va_Fw C x y s) (hw : wsC = Cond.code y bytes maxL (some rt) :: ws0) (hrm : rm.cells = mc ∧ rm.slots = ms) (hy : x.cls ≠ "java/lang/invoke/MethodHandle" ∧ x.cls ≠ "java/lang/invoke/VarHandle" ∧ (parseMethodDescriptor x.desc).map (fun d => d.parameters.length) = some n) (hR : rm.frames + 1 ≤ R.frames ∧ 8 + (maxL + 11) + rm.locals ≤ R.locals) (hroom : kc + mc ≤ R.cells ∧ ks + ms ≤ R.slots) (hws : ws = pre ++ (wc ++ suf)) (he : wc[q0]? = some (b, .inr (ci, fs))) (hc : cl[ci]? = some (C, T, N)) (hn : As.length = n) (hst : st = As.reverse ++ .ref b :: rest) (hcat : (rest.map fun v => v.category).sum ≤ 8) (hq : pc + 5 = q) (k : ∀ (r : Int32) (u : S), post r u → V X (kc + mc) (ks + ms) (pre ++ (wf u ++ suf)) lv q (.int r :: rest)) : V X kc ks ws lv pc st := by
  obtain ⟨p, l, e, R, s, m, args, below, meth, c, D, cl, A, Q, nL⟩ := X
  obtain ⟨rfl, rfl, rfl, rfl, rfl, rfl, hF, hK, hA, hr, hlk, hNs, hSx⟩ := hC
  obtain ⟨hx, hb, hml, hown, hts⟩ := hF
  subst hq hst hws
  intro H locs ls hP hD hS hl
  have hPc : va_P D cl wc H := P_iff.mpr fun q hq => P_iff.mp hP q (by simp [hq])
  have hD2 := D_iff.mp hD
  have hDc : va_D A wc := D_iff.mpr ⟨by have h := hD2.1; simp only [List.map_append, List.nodup_append] at h; exact h.2.1.1, fun q hq => hD2.2 q (by simp [hq])⟩
  have hFc : ∀ q, va_A wc H.size q → A q := by
    rintro q (⟨k, e, h⟩ | h)
    · exact hDc.2 k _ h
    · exact hA q (Nat.le_trans hS.1 h)
  refine va_callFi (va_runF (As := As) (rest := rest) (hK.1 ci _ hc).2 ⟨hx, hb, hml, hown, hts⟩ (hM H.size) (va_cwF n hts hG hw hrm.1 hrm.2 (hFw hNs) hy hR) ⟨fun a U g mk z => by obtain ⟨z0, z1, z2, z3, z4, z5, z6⟩ := z; exact ⟨z0, z1, z2, va_K.moved (u := U) (U := U.calling g mk a) (Vm.Alike.refl U.vm) z3, z4, Nst.same (U := U.calling g mk a) rfl z5, Sx.moved (u := U) (U := U.calling g mk a) (Vm.Alike.refl U.vm) z6⟩, va_recv hK hPc hc he, fun U hU hW => ⟨rfl, by rw [hU], by rw [hU]; exact hPc, va_K.moved hW.alike hK, hDc.weaken (fun _ _ _ _ => trivial), hNs.warm hW, by rw [hU]; exact ((hSx.kept hS.2.1).narrow hFc).moved hW.alike⟩⟩ rfl hn hl.1 rfl (lv_room hcat) hd hroom) hS (fun q _ h => hFc q h) hFc (fun r u t H1 locs ht hvm hw hB hz1 hk1 hS => ?_)
  obtain ⟨hP1, hD1⟩ := hB
  rw [ht] at hP1
  obtain ⟨hP2, hD2⟩ := fr_call hP hD hFc hk1 hP1 hD1
  exact k r u hw H1 locs ls hP2 hD2 hS hl
theorem V_getN {X : VC} {l : Launch} {R : Room} {D : va_G} {cl : List vw_C} {tys : List (ClassId × FieldType)} {A : Nat → Prop} {cc : ByteArray} {nL : Nat} {own : String} {Ts : List Cond} {ret0 : Option FieldType} {kc ks pc q : Nat} {ws : va_W} {lv : List (Nat × Value)} {rest : List Value} {C ref host : String} {T : u_T} {N ci index q0 a : Nat} {fs : List Value} {v : Value} (hC : Cx X l R D cl tys A cc nL own Ts ret0) (hd : decode cc pc = .ok (.getfield index, 3)) (hin : ∀ w ∈ u_ws C T N, w ∈ Ts) (he : ws[q0]? = some (a, .inr (ci, fs))) (hc : cl[ci]? = some (C, T, N)) (k0 : Nat) (hk : k0 < N) (hl0 : (own, index, ref, (T k0).2.1, (T k0).2.2.1, host) ∈ fnL) (hrf : (T k0).1 = ref) (hv : fs[k0]? = some v) (hq : pc + 3 = q) (k : V X kc ks ws lv q (v :: rest)) : V X kc ks ws lv pc (.ref a :: rest) := by
  obtain ⟨p, l, e, R, s, m, args, below, meth, c, D, cl, A, Q, nL⟩ := X
  obtain ⟨rfl, rfl, rfl, rfl, rfl, rfl, hF, hK, hA, hr, hlk, hNs, hSx⟩ := hC
  obtain ⟨hx, hb, hml, hown, hts⟩ := hF
  subst hq hrf
  exact fun H locs ls hP hD hS hl => va_getN hx hb hts hin hown hK hP q0 he hc k0 hk (va_Nw.use rfl (hNs.2.2.2.2.2.2.2.2.1 _ hl0)) (fun _ h9 => h9) hv hd (k H locs ls hP hD hS hl)
theorem V_putN {X : VC} {l : Launch} {R : Room} {D : va_G} {cl : List vw_C} {tys : List (ClassId × FieldType)} {A : Nat → Prop} {cc : ByteArray} {nL : Nat} {own : String} {Ts : List Cond} {ret0 : Option FieldType} {kc ks pc q : Nat} {ws : va_W} {lv : List (Nat × Value)} {rest : List Value} {C ref host : String} {T : u_T} {N ci index q0 a : Nat} {fs : List Value} {v : Value} {ws' : va_W} {ty : FieldType} (hC : Cx X l R D cl tys A cc nL own Ts ret0) (hd : decode cc pc = .ok (.putfield index, 3)) (hin : ∀ w ∈ u_ws C T N, w ∈ Ts) (ty0 : Nat → FieldType) (hty : ∀ k, k < N → parseFieldDescriptor (T k).2.2.1 = some (ty0 k)) (hnm : ∀ a, a < N → ∀ b, b < N → a ≠ b → (T a).2.1 ≠ (T b).2.1) (he : ws[q0]? = some (a, .inr (ci, fs))) (hc : cl[ci]? = some (C, T, N)) (k0 : Nat) (hk : k0 < N) (hl0 : (own, index, ref, (T k0).2.1, (T k0).2.2.1, host) ∈ fnL) (hrf : (T k0).1 = ref) (hfin : (T k0).2.2.2 = false) (hty0 : ty0 k0 = ty) (hn : narrow ty v = v) (hfit : fits ty v = true) (hlen : k0 < fs.length) (hw : ws.set q0 (a, .inr (ci, fs.set k0 v)) = ws') (hq : pc + 3 = q) (k : V X kc ks ws' lv q rest) : V X kc ks ws lv pc (v :: .ref a :: rest) := by
  obtain ⟨p, l, e, R, s, m, args, below, meth, c, D, cl, A, Q, nL⟩ := X
  obtain ⟨rfl, rfl, rfl, rfl, rfl, rfl, hF, hK, hA, hr, hlk, hNs, hSx⟩ := hC
  obtain ⟨hx, hb, hml, hown, hts⟩ := hF
  subst hq hty0 hw hrf
  exact fun H locs ls hP hD hS hl => va_putN hx hb hts hin ty0 hty hnm hown hK hP hD hS q0 he hc k0 hk (va_Nw.use rfl (hNs.2.2.2.2.2.2.2.2.1 _ hl0)) (fun _ h9 => h9) hfin (hty k0 hk) hn hfit hlen hd (fun H locs hP hD hS => k H locs ls hP hD hS hl)
theorem V_getU {X : VC} {l : Launch} {R : Room} {D : va_G} {cl : List vw_C} {tys : List (ClassId × FieldType)} {A : Nat → Prop} {cc : ByteArray} {nL : Nat} {own : String} {Ts : List Cond} {ret0 : Option FieldType} {kc ks pc q : Nat} {ws : va_W} {lv : List (Nat × Value)} {rest : List Value} {C ref : String} {T : u_T} {N ci index q0 a : Nat} {fs : List Value} {v : Value} (hC : Cx X l R D cl tys A cc nL own Ts ret0) (hd : decode cc pc = .ok (.getfield index, 3)) (hin : ∀ w ∈ u_ws C T N, w ∈ Ts) (he : ws[q0]? = some (a, .inr (ci, fs))) (hc : cl[ci]? = some (C, T, N)) (k0 : Nat) (hk : k0 < N) (hl0 : Cond.fieldLink own index ref (T k0).2.1 (T k0).2.2.1 ∈ Ts) (hsm : Cond.sameField ref (T k0).1 (T k0).2.1 (T k0).2.2.1 ∈ Ts) (hv : fs[k0]? = some v) (hq : pc + 3 = q) (k : V X kc ks ws lv q (v :: rest)) : V X kc ks ws lv pc (.ref a :: rest) := by
  obtain ⟨p, l, e, R, s, m, args, below, meth, c, D, cl, A, Q, nL⟩ := X
  obtain ⟨rfl, rfl, rfl, rfl, rfl, rfl, hF, hK, hA, hr, hlk, hNs, hSx⟩ := hC
  obtain ⟨hx, hb, hml, hown, hts⟩ := hF
  subst hq
  exact fun H locs ls hP hD hS hl => va_get hx hb hts hin hown hK hP q0 he hc k0 hk (hts _ hl0) (u_same (hts _ hsm)) hv hd (k H locs ls hP hD hS hl)
theorem V_putU {X : VC} {l : Launch} {R : Room} {D : va_G} {cl : List vw_C} {tys : List (ClassId × FieldType)} {A : Nat → Prop} {cc : ByteArray} {nL : Nat} {own : String} {Ts : List Cond} {ret0 : Option FieldType} {kc ks pc q : Nat} {ws : va_W} {lv : List (Nat × Value)} {rest : List Value} {C ref : String} {T : u_T} {N ci index q0 a : Nat} {fs : List Value} {v : Value} {ws' : va_W} {ty : FieldType} (hC : Cx X l R D cl tys A cc nL own Ts ret0) (hd : decode cc pc = .ok (.putfield index, 3)) (hin : ∀ w ∈ u_ws C T N, w ∈ Ts) (ty0 : Nat → FieldType) (hty : ∀ k, k < N → parseFieldDescriptor (T k).2.2.1 = some (ty0 k)) (hnm : ∀ a, a < N → ∀ b, b < N → a ≠ b → (T a).2.1 ≠ (T b).2.1) (he : ws[q0]? = some (a, .inr (ci, fs))) (hc : cl[ci]? = some (C, T, N)) (k0 : Nat) (hk : k0 < N) (hl0 : Cond.fieldLink own index ref (T k0).2.1 (T k0).2.2.1 ∈ Ts) (hsm : Cond.sameField ref (T k0).1 (T k0).2.1 (T k0).2.2.1 ∈ Ts) (hfin : (T k0).2.2.2 = false) (hty0 : ty0 k0 = ty) (hn : narrow ty v = v) (hfit : fits ty v = true) (hlen : k0 < fs.length) (hw : ws.set q0 (a, .inr (ci, fs.set k0 v)) = ws') (hq : pc + 3 = q) (k : V X kc ks ws' lv q rest) : V X kc ks ws lv pc (v :: .ref a :: rest) := by
  obtain ⟨p, l, e, R, s, m, args, below, meth, c, D, cl, A, Q, nL⟩ := X
  obtain ⟨rfl, rfl, rfl, rfl, rfl, rfl, hF, hK, hA, hr, hlk, hNs, hSx⟩ := hC
  obtain ⟨hx, hb, hml, hown, hts⟩ := hF
  subst hq hty0 hw
  exact fun H locs ls hP hD hS hl => va_put hx hb hts hin ty0 hty hnm hown hK hP hD hS q0 he hc k0 hk (hts _ hl0) (u_same (hts _ hsm)) hfin (hty k0 hk) hn hfit hlen hd (fun H locs hP hD hS => k H locs ls hP hD hS hl)
theorem rows_eq {N : Nat} {r : Nat → Nat} {f : Nat → va_E} {e : va_E} : va_pl ([] ++ (List.range N).map r) (vr_up f ((List.range N).map r) e) = (List.range N).map (fun i => (r i, e)) := by
  unfold va_pl
  rw [List.nil_append, List.map_map]
  apply List.map_congr_left
  intro i hi
  show (r i, vr_up f ((List.range N).map r) e (r i)) = (r i, e)
  rw [vr_up_in (List.mem_map_of_mem hi)]
/-- new int[n][k] -/
theorem V_mna {X : VC} {l : Launch} {R : Room} {D : va_G} {cl : List vw_C} {tys : List (ClassId × FieldType)} {A : Nat → Prop} {cc : ByteArray} {nL : Nat} {own : String} {Ts : List Cond} {ret0 : Option FieldType} {kc ks pc q : Nat} {ws : va_W} {lv : List (Nat × Value)} {rest : List Value} {index : Nat} {n k : Int32} {N K : Nat} {cA cI : ClassId} (hC : Cx X l R D cl tys A cc nL own Ts ret0) (hd : decode cc pc = .ok (.multianewarray index 2, 4)) (h1 : Cond.classLink own index "[[I" ∈ Ts) (harr : Cond.arrayClass .int ∈ Ts) (t0 : Nat) (ht : tys[t0]? = some (cA, .array .int)) (t1 : Nat) (ht1 : tys[t1]? = some (cI, .int)) (hn : ¬ n < 0) (hk : ¬ k < 0) (hN : n.toNatClampNeg = N) (hKK : k.toNatClampNeg = K) (hb1 : N * 4 ≤ 536870912) (hb2 : K * componentBytes .int ≤ 536870912) (hb3 : K ≤ 536870912) (hcells : kc + (1 + N) ≤ R.cells) (hslots : ks + (N + N * K) ≤ R.slots) (hq : pc + 4 = q)
    (kk : ∀ (z : Nat) (r : Nat → Nat), V X (kc + 1 + N) (ks + N + N * K) ((ws ++ [(z, .inl (cA, N, .inr (.inr (.inr (.inr (fun i => if i < N then some (r i) else none))))))]) ++ (List.range N).map (fun i => (r i, .inl (cI, K, .inl (fun _ => 0))))) lv q (.ref z :: rest)) : V X kc ks ws lv pc (.int k :: .int n :: rest) := by
  obtain ⟨p, l, e, R, s, m, args, below, meth, c, D, cl, A, Q, nL⟩ := X
  obtain ⟨rfl, rfl, rfl, rfl, rfl, rfl, hF, hK, hA, hr, hlk, hNs, hSx⟩ := hC
  obtain ⟨hx, hb, hml, hown, hts⟩ := hF
  subst hq
  intro H locs ls hP hD hS hl
  have hcy : s.vm.findClass (FieldType.array .int).toString = some cI := (hK.2 t1 _ ht1).2
  refine va_mna (X := ws) (L := []) (f := fun _ => .inr (0, [])) hx hb (ty := .int) hown (hts _ h1) hNs.2.2.2.1 (hts _ harr) hcy hK (by simpa [va_pl] using hP) (by simpa [va_pl] using hD) hS hA hn hk hN hKK hb1 hb2 hb3 rfl rfl hcells hslots (z := (K, .inl (fun _ => 0))) (fun c => (by show ({ cls := c, slots := Array.replicate K (.int 0), vm := .none } : Cell) = arrV c K (fun _ => .int 0); rw [arrV_new])) hd (fun z r cB H1 _ _ hK2 hP hD hS => ?_)
  have e1 : s.vm.findClass ("[" ++ (FieldType.array .int).toString) = some cB := (hK2.2 tys.length (cB, .array .int) (by simp)).2
  have e2 : s.vm.findClass ("[" ++ (FieldType.array .int).toString) = some cA := (hK.2 t0 _ ht).2
  obtain rfl : cB = cA := Option.some.inj (e1.symm.trans e2)
  rw [rows_eq] at hP hD
  exact kk z r H1 locs ls hP hD hS hl
theorem V_aaldA {X : VC} {l : Launch} {R : Room} {D : va_G} {cl : List vw_C} {tys : List (ClassId × FieldType)} {A : Nat → Prop} {cc : ByteArray} {nL : Nat} {own : String} {Ts : List Cond} {ret0 : Option FieldType} {kc ks pc q : Nat} {ws : va_W} {lv : List (Nat × Value)} {rest : List Value} {q0 a n i b : Nat} {cA : ClassId} {f : Nat → Option Nat} {x : Int32} (hC : Cx X l R D cl tys A cc nL own Ts ret0) (hd : decode cc pc = .ok (.aaload, 1)) (ha : ws[q0]? = some (a, .inl (cA, n, .inr (.inr (.inr (.inr f)))))) (t0 : Nat) (ht : tys[t0]? = some (cA, .array .int)) (hi : x = nI i) (hin : i < n) (hn : n < 2 ^ 31) (hf : f i = some b) (hq : pc + 1 = q) (k : V X kc ks ws lv q (.ref b :: rest)) : V X kc ks ws lv pc (.int x :: .ref a :: rest) := by
  obtain ⟨p, l, e, R, s, m, args, below, meth, c, D, cl, A, Q, nL⟩ := X
  obtain ⟨rfl, rfl, rfl, rfl, rfl, rfl, hF, hK, hA, hr, hlk, hNs, hSx⟩ := hC
  obtain ⟨hx, hb, hml, hown, hts⟩ := hF
  subst hq hi
  intro H locs ls hP hD hS hl
  have hin2 : vp_in (nI i) n := vp_in_nI hin hn
  have hlt : (nI i).toNatClampNeg < n := by rw [nI_clamp (by omega)]; exact hin
  refine W.aald (v := va_rf (f (nI i).toNatClampNeg)) (ty := .array .int) hx hb (hP q0 _ ha) ((hK.2 t0 _ ht).1 n (fun j => va_rf (f j))) rfl (fun q => by cases q) (by show ¬ (nI i < 0 ∨ (arrV _ _ _).slots.size ≤ _); rw [arrV_size]; exact hin2) (by show (arrV _ _ _).slots[_]? = _; rw [arrV_read _ _ hlt]) rfl rfl hd ?_
  rw [nI_clamp (by omega), hf]
  exact k H locs ls hP hD hS hl
/-- the length of the empty row -/
theorem V_alenE {X : VC} {l : Launch} {R : Room} {D : va_G} {cl : List vw_C} {tys : List (ClassId × FieldType)} {A : Nat → Prop} {cc : ByteArray} {nL : Nat} {own : String} {Ts : List Cond} {ret0 : Option FieldType} {kc ks pc q : Nat} {ws : va_W} {lv : List (Nat × Value)} {rest : List Value} (hC : Cx X l R D cl tys A cc nL own Ts ret0) (hd : decode cc pc = .ok (.arraylength, 1)) (hq : pc + 1 = q) (k : V X kc ks ws lv q (.int 0 :: rest)) : V X kc ks ws lv pc (.ref (D.2 100 0) :: rest) := by
  obtain ⟨p, l, e, R, s, m, args, below, meth, c, D, cl, A, Q, nL⟩ := X
  obtain ⟨rfl, rfl, rfl, rfl, rfl, rfl, hF, hK, hA, hr, hlk, hNs, hSx⟩ := hC
  obtain ⟨hx, hb, hml, hown, hts⟩ := hF
  subst hq
  exact fun H locs ls hP hD hS hl => va_tlen hx hb hSx.2.2.2.1 hS rfl hd (k H locs ls hP hD hS hl)
theorem V_getsE {X : VC} {l : Launch} {R : Room} {D : va_G} {cl : List vw_C} {tys : List (ClassId × FieldType)} {A : Nat → Prop} {cc : ByteArray} {nL : Nat} {own : String} {Ts : List Cond} {ret0 : Option FieldType} {kc ks pc q : Nat} {ws : va_W} {lv : List (Nat × Value)} {rest : List Value} {index : Nat} (hC : Cx X l R D cl tys A cc nL own Ts ret0) (hd : decode cc pc = .ok (.getstatic index, 3)) (h1 : Cond.fieldLink own index "java/util/ArrayList" "DEFAULTCAPACITY_EMPTY_ELEMENTDATA" "[Ljava/lang/Object;" ∈ Ts) (hq : pc + 3 = q) (k : V X kc ks ws lv q (.ref (D.2 100 0) :: rest)) : V X kc ks ws lv pc rest := by
  obtain ⟨p, l, e, R, s, m, args, below, meth, c, D, cl, A, Q, nL⟩ := X
  obtain ⟨rfl, rfl, rfl, rfl, rfl, rfl, hF, hK, hA, hr, hlk, hNs, hSx⟩ := hC
  obtain ⟨hx, hb, hml, hown, hts⟩ := hF
  subst hq
  exact fun H locs ls hP hD hS hl => va_gets hx hb hSx.2.2.1 hS hown (hts _ h1) (fun _ h => h) hd (k H locs ls hP hD hS hl)
theorem V_newO {X : VC} {l : Launch} {R : Room} {D : va_G} {cl : List vw_C} {tys : List (ClassId × FieldType)} {A : Nat → Prop} {cc : ByteArray} {nL : Nat} {own : String} {Ts : List Cond} {ret0 : Option FieldType} {kc ks pc q : Nat} {ws : va_W} {lv : List (Nat × Value)} {rest : List Value} {index : Nat} {n : Int32} {N : Nat} {cA : ClassId} (hC : Cx X l R D cl tys A cc nL own Ts ret0) (hd : decode cc pc = .ok (.anewarray index, 3)) (h1 : Cond.classLink own index "java/lang/Object" ∈ Ts) (t0 : Nat) (ht : tys[t0]? = some (cA, .object "java/lang/Object")) (hn : ¬ n < 0) (hN : n.toNatClampNeg = N) (hbytes : N * 4 ≤ 536870912) (hcells : kc + 1 ≤ R.cells) (hslots : ks + N ≤ R.slots) (hq : pc + 3 = q) (k : ∀ z : Nat, V X (kc + 1) (ks + N) (ws ++ [(z, .inl (cA, N, .inr (.inr (.inr (.inr (fun _ => none))))))]) lv q (.ref z :: rest)) : V X kc ks ws lv pc (.int n :: rest) := by
  obtain ⟨p, l, e, R, s, m, args, below, meth, c, D, cl, A, Q, nL⟩ := X
  obtain ⟨rfl, rfl, rfl, rfl, rfl, rfl, hF, hK, hA, hr, hlk, hNs, hSx⟩ := hC
  obtain ⟨hx, hb, hml, hown, hts⟩ := hF
  subst hq
  intro H locs ls hP hD hS hl
  refine va_newq hx hb hown (hts _ h1) hNs.2.2.1 hK hP hD hS hA hn hN hbytes hcells hslots hd (fun z cB H hK2 hP hD hS => ?_)
  obtain ⟨_, _, _, _, _, e1⟩ := (hK2.2 tys.length (cB, .object "java/lang/Object") (by simp)).2
  obtain ⟨_, _, _, _, _, e2⟩ := (hK.2 t0 _ ht).2
  obtain rfl : cB = cA := Option.some.inj (e1.symm.trans e2)
  exact k z H locs ls hP hD hS hl
/-- an int row into a row of objects -/
theorem V_astO {X : VC} {l : Launch} {R : Room} {D : va_G} {cl : List vw_C} {tys : List (ClassId × FieldType)} {A : Nat → Prop} {cc : ByteArray} {nL : Nat} {own : String} {Ts : List Cond} {ret0 : Option FieldType} {kc ks pc q : Nat} {ws : va_W} {lv : List (Nat × Value)} {rest : List Value} {q0 a n i qk v nv : Nat} {cA cI : ClassId} {fv : Nat → Int32} {f : Nat → Option Nat} {y : Int32} {ws' : va_W} (hC : Cx X l R D cl tys A cc nL own Ts ret0) (hd : decode cc pc = .ok (.aastore, 1)) (ha : ws[q0]? = some (a, .inl (cA, n, .inr (.inr (.inr (.inr f)))))) (t0 : Nat) (ht : tys[t0]? = some (cA, .object "java/lang/Object")) (hv : ws[qk]? = some (v, .inl (cI, nv, .inl fv))) (t1 : Nat) (ht1 : tys[t1]? = some (cI, .int)) (hi : y = nI i) (hin : i < n) (hn : n < 2 ^ 31) (hw : ws.set q0 (a, .inl (cA, n, .inr (.inr (.inr (.inr (va_up f i (some v))))))) = ws') (hq : pc + 1 = q) (k : V X kc ks ws' lv q rest) : V X kc ks ws lv pc (.ref v :: .int y :: .ref a :: rest) := by
  obtain ⟨p, l, e, R, s, m, args, below, meth, c, D, cl, A, Q, nL⟩ := X
  obtain ⟨rfl, rfl, rfl, rfl, rfl, rfl, hF, hK, hA, hr, hlk, hNs, hSx⟩ := hC
  obtain ⟨hx, hb, hml, hown, hts⟩ := hF
  subst hq hi hw
  intro H locs ls hP hD hS hl
  have hci : s.vm.findClass "[I" = some cI := (hK.2 t1 _ ht1).2
  obtain ⟨c3, c4, hc3, hc4, hasg⟩ := Cond.castable_spec (va_Nw.use (A := #[]) (w := .castable "[I" "java/lang/Object") rfl (hNs.2.2.2.2.2.2.1 ("[I", "java/lang/Object") (by decide)))
  cases Option.some.inj (hc3.symm.trans hci)
  obtain ⟨kC, hkC, -⟩ := Vm.findClass_spec hci
  have hcell : H[v]? = some (vp_cell cI (nv, .inl fv)) := hP qk _ hv
  refine va_astqM hx hb hK hP hD hS q0 t0 ha ht ⟨_, hcell, rfl, ⟨kC, hkC⟩, fun comp hcomp => ?_⟩ (vp_in_nI hin hn) hd (fun H locs hP hD hS => ?_)
  · cases Option.some.inj (hc4.symm.trans hcomp)
    exact hasg
  · rw [nI_clamp (n := i) (by omega)] at hP hD
    exact k H locs ls hP hD hS hl
theorem V_ldcM {X : VC} {l : Launch} {R : Room} {D : va_G} {cl : List vw_C} {tys : List (ClassId × FieldType)} {A : Nat → Prop} {cc : ByteArray} {nL : Nat} {own : String} {Ts : List Cond} {ret0 : Option FieldType} {kc ks pc q : Nat} {ws : va_W} {lv : List (Nat × Value)} {rest : List Value} {index : Nat} (hC : Cx X l R D cl tys A cc nL own Ts ret0) (hd : decode cc pc = .ok (.ldc index, 2)) (h1 : Cond.classLink own index "[Ljava/lang/Object;" ∈ Ts) (hq : pc + 2 = q) (k : V X kc ks ws lv q (.ref (D.2 100 1) :: rest)) : V X kc ks ws lv pc rest := by
  obtain ⟨p, l, e, R, s, m, args, below, meth, c, D, cl, A, Q, nL⟩ := X
  obtain ⟨rfl, rfl, rfl, rfl, rfl, rfl, hF, hK, hA, hr, hlk, hNs, hSx⟩ := hC
  obtain ⟨hx, hb, hml, hown, hts⟩ := hF
  subst hq
  exact fun H locs ls hP hD hS hl => va_ldcM hx hb hown (hts _ h1) hSx.2.2.2.2.1 hd (k H locs ls hP hD hS hl)
/-- getClass() of the empty row -/
theorem V_getC {X : VC} {l : Launch} {R : Room} {D : va_G} {cl : List vw_C} {tys : List (ClassId × FieldType)} {A : Nat → Prop} {cc : ByteArray} {nL : Nat} {own : String} {Ts : List Cond} {ret0 : Option FieldType} {kc ks pc q : Nat} {ws : va_W} {lv : List (Nat × Value)} {rest : List Value} {index : Nat} (hC : Cx X l R D cl tys A cc nL own Ts ret0) (hd : decode cc pc = .ok (.invokevirtual index, 3)) (h1 : Cond.methodLink own index ⟨"java/lang/Object", "getClass", "()Ljava/lang/Class;"⟩ ∈ Ts) (h2 : Cond.selects "[Ljava/lang/Object;" ⟨"java/lang/Object", "getClass", "()Ljava/lang/Class;"⟩ ⟨"java/lang/Object", "getClass", "()Ljava/lang/Class;"⟩ ∈ Ts) (h3 : Cond.instanceMethod ⟨"java/lang/Object", "getClass", "()Ljava/lang/Class;"⟩ ∈ Ts) (h4 : Cond.native ⟨"java/lang/Object", "getClass", "()Ljava/lang/Class;"⟩ ∈ Ts) (hfr : 1 ≤ R.frames) (hlo : (rest.map fun v => v.category).sum + 14 ≤ R.locals) (hq : pc + 3 = q) (k : V X kc ks ws lv q (.ref (D.2 100 1) :: rest)) : V X kc ks ws lv pc (.ref (D.2 100 0) :: rest) := by
  obtain ⟨p, l, e, R, s, m, args, below, meth, c, D, cl, A, Q, nL⟩ := X
  obtain ⟨rfl, rfl, rfl, rfl, rfl, rfl, hF, hK, hA, hr, hlk, hNs, hSx⟩ := hC
  obtain ⟨hx, hb, hml, hown, hts⟩ := hF
  subst hq
  intro H locs ls hP hD hS hl
  obtain ⟨cell, g1, g2, g3⟩ := ((hSx.kept hS.2.1).2.2.2.2.2)
  exact va_getC hx hb (hml.trans hl.1.symm) (C := "[Ljava/lang/Object;") hown (hts _ h1) hNs.2.2.2.2.1.use (hts _ h2) (hts _ h3) (hts _ h4) hSx.2.2.2.2.1 ⟨cell, g1, g2, g3⟩ hfr hlo hd (k H locs ls hP hD hS hl)
theorem V_acmp_eq {X : VC} {l : Launch} {R : Room} {D : va_G} {cl : List vw_C} {tys : List (ClassId × FieldType)} {A : Nat → Prop} {cc : ByteArray} {nL : Nat} {own : String} {Ts : List Cond} {ret0 : Option FieldType} {kc ks pc : Nat} {ws : va_W} {lv : List (Nat × Value)} {rest : List Value} {x y : Nat} {off : Int} {tgt : Nat} (hC : Cx X l R D cl tys A cc nL own Ts ret0) (hd : decode cc pc = .ok (.if_acmp .eq off, 3)) (ht : (pc : Int) + off = (tgt : Int)) (he : x = y) (k : V X kc ks ws lv tgt rest) : V X kc ks ws lv pc (.ref y :: .ref x :: rest) := by
  obtain ⟨p, l, e, R, s, m, args, below, meth, c, D, cl, A, Q, nL⟩ := X
  obtain ⟨rfl, rfl, rfl, rfl, rfl, rfl, hF, hK, hA, hr, hlk, hNs, hSx⟩ := hC
  obtain ⟨hx, hb, hml, hown, hts⟩ := hF
  exact fun H locs ls hP hD hS hl => lv_acmp_eq (rx := some x) (ry := some y) hx hb hd ht (fun _ => k H locs ls hP hD hS hl) (fun h => absurd (congrArg some he) h)
theorem V_acmp_ne {X : VC} {l : Launch} {R : Room} {D : va_G} {cl : List vw_C} {tys : List (ClassId × FieldType)} {A : Nat → Prop} {cc : ByteArray} {nL : Nat} {own : String} {Ts : List Cond} {ret0 : Option FieldType} {kc ks pc q : Nat} {ws : va_W} {lv : List (Nat × Value)} {rest : List Value} {x y : Nat} {off : Int} {tgt : Nat} (hC : Cx X l R D cl tys A cc nL own Ts ret0) (hd : decode cc pc = .ok (.if_acmp .ne off, 3)) (ht : (pc : Int) + off = (tgt : Int)) (he : x = y) (hq : pc + 3 = q) (k : V X kc ks ws lv q rest) : V X kc ks ws lv pc (.ref y :: .ref x :: rest) := by
  obtain ⟨p, l, e, R, s, m, args, below, meth, c, D, cl, A, Q, nL⟩ := X
  obtain ⟨rfl, rfl, rfl, rfl, rfl, rfl, hF, hK, hA, hr, hlk, hNs, hSx⟩ := hC
  obtain ⟨hx, hb, hml, hown, hts⟩ := hF
  subst hq
  exact fun H locs ls hP hD hS hl => lv_acmp_ne (rx := some x) (ry := some y) hx hb hd ht (fun h => absurd (congrArg some he) h) (fun _ => k H locs ls hP hD hS hl)
/-- System.arraycopy of whole int rows -/
theorem V_copyi {X : VC} {l : Launch} {R : Room} {D : va_G} {cl : List vw_C} {tys : List (ClassId × FieldType)} {A : Nat → Prop} {cc : ByteArray} {nL : Nat} {own : String} {Ts : List Cond} {ret0 : Option FieldType} {kc ks pc q : Nat} {ws : va_W} {lv : List (Nat × Value)} {rest : List Value} {index q0 q1 a0 a n : Nat} {cI : ClassId} {f g : Nat → Int32} {n1 : Int32} {ws' : va_W} (hC : Cx X l R D cl tys A cc nL own Ts ret0) (hd : decode cc pc = .ok (.invokestatic index, 3)) (h1 : Cond.methodLink own index arraycopyName ∈ Ts) (h2 : Cond.native arraycopyName ∈ Ts) (h3 : Cond.static arraycopyName ∈ Ts) (h4 : Cond.initialized "java/lang/System" ∈ Ts) (ha0 : ws[q0]? = some (a0, .inl (cI, n, .inl f))) (ha1 : ws[q1]? = some (a, .inl (cI, n, .inl g))) (t0 : Nat) (ht0 : tys[t0]? = some (cI, .int)) (hn : n1 = nI n) (hn2 : n < 2 ^ 31) (hfr : 1 ≤ R.frames) (hlo : (rest.map fun v => v.category).sum + (nativeFrameWords "java/lang/System" "arraycopy" 5 + 11) ≤ R.locals) (hw : ws.set q1 (a, .inl (cI, n, .inl (va_cpy f g 0 0 n))) = ws') (hq : pc + 3 = q) (k : V X kc ks ws' lv q rest) : V X kc ks ws lv pc (.int n1 :: .int 0 :: .ref a :: .int 0 :: .ref a0 :: rest) := by
  obtain ⟨p, l, e, R, s, m, args, below, meth, c, D, cl, A, Q, nL⟩ := X
  obtain ⟨rfl, rfl, rfl, rfl, rfl, rfl, hF, hK, hA, hr, hlk, hNs, hSx⟩ := hC
  obtain ⟨hx, hb, hml, hown, hts⟩ := hF
  subst hq hw hn
  intro H locs ls hP hD hS hl
  have e0 : (0 : Int32).toNatClampNeg = 0 := by decide
  refine va_copyi hx hb (hml.trans hl.1.symm) hown (hts _ h1) (hts _ h2) (hts _ h3) (hts _ h4) hK hP hD hS q0 q1 t0 t0 ha0 ha1 ht0 ht0 rfl (by decide) (by decide) (nI_pos hn2) (by rw [e0, nI_clamp hn2]; omega) (by rw [e0, nI_clamp hn2]; omega) (fun _ _ => rfl) hfr hlo hd (fun H locs hP hD hS => ?_)
  rw [e0, nI_clamp hn2] at hP hD
  exact k H locs ls hP hD hS hl
/-- .. of nothing out of the empty row -/
theorem V_copyE {X : VC} {l : Launch} {R : Room} {D : va_G} {cl : List vw_C} {tys : List (ClassId × FieldType)} {A : Nat → Prop} {cc : ByteArray} {nL : Nat} {own : String} {Ts : List Cond} {ret0 : Option FieldType} {kc ks pc q : Nat} {ws : va_W} {lv : List (Nat × Value)} {rest : List Value} {index q1 a : Nat} {cA : ClassId} {g : Nat → Option Nat} {n1 : Int32} (hC : Cx X l R D cl tys A cc nL own Ts ret0) (hd : decode cc pc = .ok (.invokestatic index, 3)) (h1 : Cond.methodLink own index arraycopyName ∈ Ts) (h2 : Cond.native arraycopyName ∈ Ts) (h3 : Cond.static arraycopyName ∈ Ts) (h4 : Cond.initialized "java/lang/System" ∈ Ts) (ha1 : ws[q1]? = some (a, .inl (cA, 0, .inr (.inr (.inr (.inr g)))))) (t0 : Nat) (ht0 : tys[t0]? = some (cA, .object "java/lang/Object")) (hn1 : n1 = 0) (hfr : 1 ≤ R.frames) (hlo : (rest.map fun v => v.category).sum + (nativeFrameWords "java/lang/System" "arraycopy" 5 + 11) ≤ R.locals) (hq : pc + 3 = q) (k : ∀ g' : Nat → Option Nat, V X kc ks (ws.set q1 (a, .inl (cA, 0, .inr (.inr (.inr (.inr g')))))) lv q rest) : V X kc ks ws lv pc (.int n1 :: .int 0 :: .ref a :: .int 0 :: .ref (D.2 100 0) :: rest) := by
  obtain ⟨p, l, e, R, s, m, args, below, meth, c, D, cl, A, Q, nL⟩ := X
  obtain ⟨rfl, rfl, rfl, rfl, rfl, rfl, hF, hK, hA, hr, hlk, hNs, hSx⟩ := hC
  obtain ⟨hx, hb, hml, hown, hts⟩ := hF
  subst hq hn1
  intro H locs ls hP hD hS hl
  exact va_copyg hx hb (hml.trans hl.1.symm) hown (hts _ h1) (hts _ h2) (hts _ h3) (hts _ h4) hK hP hD hS q1 t0 hSx.2.2.2.1 ha1 ht0 (by decide) (by decide) (by decide) (by decide) (by decide) hfr hlo hd (fun H locs hP hD hS => k _ H locs ls hP hD hS hl)
theorem V_lald {X : VC} {l : Launch} {R : Room} {D : va_G} {cl : List vw_C} {tys : List (ClassId × FieldType)} {A : Nat → Prop} {cc : ByteArray} {nL : Nat} {own : String} {Ts : List Cond} {ret0 : Option FieldType} {kc ks pc q : Nat} {ws : va_W} {lv : List (Nat × Value)} {rest : List Value} {q0 a n i : Nat} {cA : ClassId} {f : Nat → Int64} {x : Int32} (hC : Cx X l R D cl tys A cc nL own Ts ret0) (hd : decode cc pc = .ok (.laload, 1)) (ha : ws[q0]? = some (a, .inl (cA, n, .inr (.inl f)))) (t0 : Nat) (ht : tys[t0]? = some (cA, .long)) (hi : x = nI i) (hin : i < n) (hn : n < 2 ^ 31) (hq : pc + 1 = q) (k : V X kc ks ws lv q (.long (f i) :: rest)) : V X kc ks ws lv pc (.int x :: .ref a :: rest) := by
  obtain ⟨p, l, e, R, s, m, args, below, meth, c, D, cl, A, Q, nL⟩ := X
  obtain ⟨rfl, rfl, rfl, rfl, rfl, rfl, hF, hK, hA, hr, hlk, hNs, hSx⟩ := hC
  obtain ⟨hx, hb, hml, hown, hts⟩ := hF
  subst hq hi
  intro H locs ls hP hD hS hl
  have k2 := k H locs ls hP hD hS hl
  rw [← nI_clamp (n := i) (by omega)] at k2
  exact va_lald hx hb hK hP q0 t0 ha ht (vp_in_nI hin hn) hd k2
theorem V_last {X : VC} {l : Launch} {R : Room} {D : va_G} {cl : List vw_C} {tys : List (ClassId × FieldType)} {A : Nat → Prop} {cc : ByteArray} {nL : Nat} {own : String} {Ts : List Cond} {ret0 : Option FieldType} {kc ks pc q : Nat} {ws : va_W} {lv : List (Nat × Value)} {rest : List Value} {q0 a n i : Nat} {cA : ClassId} {f : Nat → Int64} {y : Int32} {x : Int64} {ws' : va_W} (hC : Cx X l R D cl tys A cc nL own Ts ret0) (hd : decode cc pc = .ok (.lastore, 1)) (ha : ws[q0]? = some (a, .inl (cA, n, .inr (.inl f)))) (t0 : Nat) (ht : tys[t0]? = some (cA, .long)) (hi : y = nI i) (hin : i < n) (hn : n < 2 ^ 31) (hw : ws.set q0 (a, .inl (cA, n, .inr (.inl (vp_updL f i x)))) = ws') (hq : pc + 1 = q) (k : V X kc ks ws' lv q rest) : V X kc ks ws lv pc (.long x :: .int y :: .ref a :: rest) := by
  obtain ⟨p, l, e, R, s, m, args, below, meth, c, D, cl, A, Q, nL⟩ := X
  obtain ⟨rfl, rfl, rfl, rfl, rfl, rfl, hF, hK, hA, hr, hlk, hNs, hSx⟩ := hC
  obtain ⟨hx, hb, hml, hown, hts⟩ := hF
  subst hq hi hw
  intro H locs ls hP hD hS hl
  refine va_last hx hb hK hP hD hS q0 t0 ha ht (vp_in_nI hin hn) hd (fun H locs hP hD hS => ?_)
  rw [nI_clamp (n := i) (by omega)] at hP hD
  exact k H locs ls hP hD hS hl
/-- the script, outside of the world -/
def Sc (X : VC) (b L : Nat) (xs : Nat → Int32) : Prop := match X with
  | (_, _, _, _, s, _, _, _, _, _, _, _, A, _, _) => va_X b L xs s s.heap ∧ b < s.heap.size ∧ ¬ A b
theorem V_sld {X : VC} {l : Launch} {R : Room} {D : va_G} {cl : List vw_C} {tys : List (ClassId × FieldType)} {A : Nat → Prop} {cc : ByteArray} {nL : Nat} {own : String} {Ts : List Cond} {ret0 : Option FieldType} {kc ks pc q : Nat} {ws : va_W} {lv : List (Nat × Value)} {rest : List Value} {b L i : Nat} {xs : Nat → Int32} {x : Int32} (hC : Cx X l R D cl tys A cc nL own Ts ret0) (hsc : Sc X b L xs) (hd : decode cc pc = .ok (.iaload, 1)) (hi : x = nI i) (hin : i < L) (hn : L < 2 ^ 31) (hq : pc + 1 = q) (k : V X kc ks ws lv q (.int (xs i) :: rest)) : V X kc ks ws lv pc (.int x :: .ref b :: rest) := by
  obtain ⟨p, l, e, R, s, m, args, below, meth, c, D, cl, A, Q, nL⟩ := X
  obtain ⟨rfl, rfl, rfl, rfl, rfl, rfl, hF, hK, hA, hr, hlk, hNs, hSx⟩ := hC
  obtain ⟨hx, hb, hml, hown, hts⟩ := hF
  subst hq hi
  intro H locs ls hP hD hS hl
  have k2 := k H locs ls hP hD hS hl
  rw [← nI_clamp (n := i) (by omega)] at k2
  exact va_sld hx hb hsc.1 hsc.2.1 hsc.2.2 hS (vp_in_nI hin hn) hd k2
theorem V_slen {X : VC} {l : Launch} {R : Room} {D : va_G} {cl : List vw_C} {tys : List (ClassId × FieldType)} {A : Nat → Prop} {cc : ByteArray} {nL : Nat} {own : String} {Ts : List Cond} {ret0 : Option FieldType} {kc ks pc q : Nat} {ws : va_W} {lv : List (Nat × Value)} {rest : List Value} {b L : Nat} {xs : Nat → Int32} (hC : Cx X l R D cl tys A cc nL own Ts ret0) (hsc : Sc X b L xs) (hd : decode cc pc = .ok (.arraylength, 1)) (hq : pc + 1 = q) (k : V X kc ks ws lv q (.int (nI L) :: rest)) : V X kc ks ws lv pc (.ref b :: rest) := by
  obtain ⟨p, l, e, R, s, m, args, below, meth, c, D, cl, A, Q, nL⟩ := X
  obtain ⟨rfl, rfl, rfl, rfl, rfl, rfl, hF, hK, hA, hr, hlk, hNs, hSx⟩ := hC
  obtain ⟨hx, hb, hml, hown, hts⟩ := hF
  subst hq
  exact fun H locs ls hP hD hS hl => va_slen hx hb hsc.1 hsc.2.1 hsc.2.2 hS hd (k H locs ls hP hD hS hl)
