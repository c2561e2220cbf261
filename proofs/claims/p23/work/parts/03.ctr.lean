/-! Contracts over worlds. Pw: what a method finds; Bw: what it leaves. -/
def Pw (D : va_G) (cl : List vw_C) (tys : List (ClassId × FieldType)) (sz : Nat) (ws : va_W) (U : State) : Prop := U.heap.size = sz ∧ va_P D cl ws U.heap ∧ va_K D cl tys U ∧ va_D (fun _ => True) ws ∧ Nst U
def Bw (D : va_G) (cl : List vw_C) (tys : List (ClassId × FieldType)) (A : Nat → Prop) (ws : va_W) (t : State) : Prop := va_P D cl ws t.heap ∧ va_K D cl tys t ∧ va_D A ws
theorem P_iff {D : va_G} {cl : List vw_C} {ws : va_W} {H : Heap} : va_P D cl ws H ↔ ∀ q ∈ ws, va_at D cl q H := ⟨fun h q hq => by obtain ⟨k, hk⟩ := List.mem_iff_getElem?.mp hq; exact h k q hk, fun h k q hk => h q (List.mem_of_getElem? hk)⟩
theorem D_iff {A : Nat → Prop} {ws : va_W} : va_D A ws ↔ (ws.map Prod.fst).Nodup ∧ ∀ q ∈ ws, A q.1 := by
  constructor
  · intro h
    refine ⟨?_, fun q hq => by obtain ⟨k, hk⟩ := List.mem_iff_getElem?.mp hq; exact h.2 k q hk⟩
    rw [List.Nodup, List.pairwise_iff_getElem]
    intro i j hi hj hij e
    rw [List.length_map] at hi hj
    rw [List.getElem_map, List.getElem_map] at e
    have := h.1 i j ws[i] ws[j] (List.getElem?_eq_getElem hi) (List.getElem?_eq_getElem hj) e
    omega
  · intro h
    refine ⟨fun i j p q hi hj e => ?_, fun k q hk => h.2 q (List.mem_of_getElem? hk)⟩
    obtain ⟨hi1, hi2⟩ := List.getElem?_eq_some_iff.mp hi
    obtain ⟨hj1, hj2⟩ := List.getElem?_eq_some_iff.mp hj
    have hp := h.1
    rw [List.Nodup, List.pairwise_iff_getElem] at hp
    rcases Nat.lt_trichotomy i j with q1 | q1 | q1
    · exact absurd (by rw [List.getElem_map, List.getElem_map, hi2, hj2]; exact e) (hp i j (by rw [List.length_map]; exact hi1) (by rw [List.length_map]; exact hj1) q1)
    · exact q1
    · exact absurd (by rw [List.getElem_map, List.getElem_map, hi2, hj2]; exact e.symm) (hp j i (by rw [List.length_map]; exact hj1) (by rw [List.length_map]; exact hi1) q1)
/-- the frame rule: a part of the world is taken out, and comes back changed -/
theorem fr_call {D : va_G} {cl : List vw_C} {A : Nat → Prop} {pre wc suf w1 : va_W} {H H1 : Heap} (hP : va_P D cl (pre ++ (wc ++ suf)) H) (hD : va_D A (pre ++ (wc ++ suf))) (hF : ∀ q, va_A wc H.size q → A q) (hk : ∀ q : Nat, q < H.size → ¬ va_A wc H.size q → H1[q]? = H[q]?) (hP1 : va_P D cl w1 H1) (hD1 : va_D (va_A wc H.size) w1) : va_P D cl (pre ++ (w1 ++ suf)) H1 ∧ va_D A (pre ++ (w1 ++ suf)) := by
  rw [P_iff] at hP hP1 ⊢
  rw [D_iff] at hD hD1 ⊢
  have hn := hD.1
  simp only [List.map_append, List.nodup_append, List.mem_append, List.mem_map] at hn
  have out : ∀ q, (q ∈ pre ∨ q ∈ suf) → q.1 < H.size ∧ ¬ va_A wc H.size q.1 := by
    intro q hq
    have hl := (hP q (by simp only [List.mem_append]; rcases hq with h | h <;> simp [h])).lt
    refine ⟨hl, fun h => ?_⟩
    rcases h with ⟨k, e, h⟩ | h
    · have hm := List.mem_of_getElem? h
      rcases hq with hq | hq
      · exact hn.2.2 q.1 ⟨q, hq, rfl⟩ q.1 (Or.inl ⟨_, hm, rfl⟩) rfl
      · exact hn.2.1.2.2 q.1 ⟨_, hm, rfl⟩ q.1 ⟨q, hq, rfl⟩ rfl
    · omega
  refine ⟨fun q hq => ?_, ?_, fun q hq => ?_⟩
  · simp only [List.mem_append] at hq
    rcases hq with h | h | h
    · obtain ⟨h1, h2⟩ := out q (Or.inl h)
      exact (hP q (by simp [h])).kept (hk q.1 h1 h2)
    · exact hP1 q h
    · obtain ⟨h1, h2⟩ := out q (Or.inr h)
      exact (hP q (by simp [h])).kept (hk q.1 h1 h2)
  · simp only [List.map_append, List.nodup_append, List.mem_append, List.mem_map]
    refine ⟨hn.1, ⟨hD1.1, hn.2.1.2.1, ?_⟩, ?_⟩
    · rintro a ⟨x, hx, rfl⟩ b ⟨y, hy, rfl⟩ e
      exact (out y (Or.inr hy)).2 (e ▸ hD1.2 x hx)
    · rintro a ⟨x, hx, rfl⟩ b (⟨y, hy, rfl⟩ | ⟨y, hy, rfl⟩) e
      · exact (out x (Or.inl hx)).2 (e.symm ▸ hD1.2 y hy)
      · exact hn.2.2 x.1 ⟨x, hx, rfl⟩ y.1 (Or.inr ⟨y, hy, rfl⟩) e
  · simp only [List.mem_append] at hq
    rcases hq with h | h | h
    · exact hD.2 q (by simp [h])
    · exact hF q.1 (hD1.2 q h)
    · exact hD.2 q (by simp [h])
def CI (l : Launch) (D : va_G) (cl : List vw_C) (tys : List (ClassId × FieldType)) (y : MethodName) (wsC : List Cond) (rm : Room) (mc ms : Nat) (av : List Value) (ws : va_W) {S : Type} (post : Int32 → S → Prop) (wf : S → va_W) : Prop := ∀ sz : Nat, Met l y wsC rm (va_Pc av (Pw D cl tys sz ws)) (va_Qi post (fun u => Bw D cl tys (va_A ws sz) (wf u)) (va_A ws sz)) mc ms (va_A ws sz)
def CL (l : Launch) (D : va_G) (cl : List vw_C) (tys : List (ClassId × FieldType)) (y : MethodName) (wsC : List Cond) (rm : Room) (mc ms : Nat) (av : List Value) (ws : va_W) {S : Type} (post : Int64 → S → Prop) (wf : S → va_W) : Prop := ∀ sz : Nat, Met l y wsC rm (va_Pc av (Pw D cl tys sz ws)) (va_Ql post (fun u => Bw D cl tys (va_A ws sz) (wf u)) (va_A ws sz)) mc ms (va_A ws sz)
def CD (l : Launch) (D : va_G) (cl : List vw_C) (tys : List (ClassId × FieldType)) (y : MethodName) (wsC : List Cond) (rm : Room) (mc ms : Nat) (av : List Value) (ws : va_W) {S : Type} (post : UInt64 → S → Prop) (wf : S → va_W) : Prop := ∀ sz : Nat, Met l y wsC rm (va_Pc av (Pw D cl tys sz ws)) (va_Qd post (fun u => Bw D cl tys (va_A ws sz) (wf u)) (va_A ws sz)) mc ms (va_A ws sz)
def CV (l : Launch) (D : va_G) (cl : List vw_C) (tys : List (ClassId × FieldType)) (y : MethodName) (wsC : List Cond) (rm : Room) (mc ms : Nat) (av : List Value) (ws : va_W) {S : Type} (post : S → Prop) (wf : S → va_W) : Prop := ∀ sz : Nat, Met l y wsC rm (va_Pc av (Pw D cl tys sz ws)) (va_Qv post (fun u => Bw D cl tys (va_A ws sz) (wf u)) (va_A ws sz)) mc ms (va_A ws sz)
/-- a contract is proved by a walk in V; hE of the walk is the way out -/
theorem CI_of {l : Launch} {D : va_G} {cl : List vw_C} {tys : List (ClassId × FieldType)} {y : MethodName} {wsC ws0 : List Cond} {rm : Room} {mc ms : Nat} {av : List Value} {ws : va_W} {S : Type} {post : Int32 → S → Prop} {wf : S → va_W} {cc : ByteArray} {maxL : Nat} {rt : FieldType} {own : String} {lv : List (Nat × Value)} (hy : plainName y.cls = true) (ho : y.cls = own) (hw : wsC = Cond.code y cc maxL (some rt) :: ws0) (hn : (lg_sl av).length ≤ maxL) (hlv : lv_args 0 av = lv)
    (body : ∀ (X : VC) (A : Nat → Prop), Cx X l rm D cl tys A cc maxL own wsC (some rt) → (∀ (r : Int32) (u : S) (ws1 : va_W) (lv : List (Nat × Value)) (pc : Nat), decode cc pc = .ok (.ireturn, 1) → narrow rt (.int r) = .int r → ws1 = wf u → post r u → V X mc ms ws1 lv pc [.int r]) → V X 0 0 ws lv 0 []) : CI l D cl tys y wsC rm mc ms av ws post wf := by
  intro sz
  refine Met.ofW (cc := cc) (maxL := maxL) (ret := (some rt)) hy hw ?_
  intro p e s m args below meth c s₁ B hml hv
  obtain ⟨rfl, hsz, hP, hK, hD0, hNs⟩ := hv
  have hts := atoms_spec (ws := wsC) B.pre
  have hown : s.vm.findClass own = some m.cls := ho ▸ findClass_of_methodNamed B.named
  subst hsz
  have hD := hD0.self (sz := s.heap.size)
  rw [lg_entry_eq]
  refine body (p, l, e, rm, s, m, av.toArray, below, meth, c, D, cl, va_A ws s.heap.size, MQ below (va_Qi post (fun u => Bw D cl tys (va_A ws s.heap.size) (wf u)) (va_A ws s.heap.size)) av.toArray s mc ms (va_A ws s.heap.size), maxL) (va_A ws s.heap.size) ⟨rfl, rfl, rfl, rfl, rfl, rfl, ⟨B.exec, B.bytes, hml, hown, hts⟩, hK, fun q h => Or.inr h, B.returns, B.notSynchronized, hNs⟩ ?_ s.heap [] _ hP hD va_S.rf (hlv ▸ lv_entry av hn)
  intro r u ws1 lv pc hd hn hw hp H locs ls hP hD hS hl
  subst hw
  exact W.zret (ty := rt) B.exec B.bytes B.returns hn (fun t ht hW => ⟨⟨r, u, rfl, hp, by rw [ht]; exact hP, va_K.moved hW.alike hK, hD⟩, hS.F ht⟩) hS.2.2 hd B.notSynchronized
/-- a contract is proved by a walk in V; hE of the walk is the way out -/
theorem CL_of {l : Launch} {D : va_G} {cl : List vw_C} {tys : List (ClassId × FieldType)} {y : MethodName} {wsC ws0 : List Cond} {rm : Room} {mc ms : Nat} {av : List Value} {ws : va_W} {S : Type} {post : Int64 → S → Prop} {wf : S → va_W} {cc : ByteArray} {maxL : Nat} {own : String} {lv : List (Nat × Value)} (hy : plainName y.cls = true) (ho : y.cls = own) (hw : wsC = Cond.code y cc maxL (some .long) :: ws0) (hn : (lg_sl av).length ≤ maxL) (hlv : lv_args 0 av = lv)
    (body : ∀ (X : VC) (A : Nat → Prop), Cx X l rm D cl tys A cc maxL own wsC (some .long) → (∀ (r : Int64) (u : S) (ws1 : va_W) (lv : List (Nat × Value)) (pc : Nat), decode cc pc = .ok (.lreturn, 1) → True → ws1 = wf u → post r u → V X mc ms ws1 lv pc [.long r]) → V X 0 0 ws lv 0 []) : CL l D cl tys y wsC rm mc ms av ws post wf := by
  intro sz
  refine Met.ofW (cc := cc) (maxL := maxL) (ret := (some .long)) hy hw ?_
  intro p e s m args below meth c s₁ B hml hv
  obtain ⟨rfl, hsz, hP, hK, hD0, hNs⟩ := hv
  have hts := atoms_spec (ws := wsC) B.pre
  have hown : s.vm.findClass own = some m.cls := ho ▸ findClass_of_methodNamed B.named
  subst hsz
  have hD := hD0.self (sz := s.heap.size)
  rw [lg_entry_eq]
  refine body (p, l, e, rm, s, m, av.toArray, below, meth, c, D, cl, va_A ws s.heap.size, MQ below (va_Ql post (fun u => Bw D cl tys (va_A ws s.heap.size) (wf u)) (va_A ws s.heap.size)) av.toArray s mc ms (va_A ws s.heap.size), maxL) (va_A ws s.heap.size) ⟨rfl, rfl, rfl, rfl, rfl, rfl, ⟨B.exec, B.bytes, hml, hown, hts⟩, hK, fun q h => Or.inr h, B.returns, B.notSynchronized, hNs⟩ ?_ s.heap [] _ hP hD va_S.rf (hlv ▸ lv_entry av hn)
  intro r u ws1 lv pc hd hn hw hp H locs ls hP hD hS hl
  subst hw
  exact W.lret B.exec B.bytes B.returns (fun t ht hW => ⟨⟨r, u, rfl, hp, by rw [ht]; exact hP, va_K.moved hW.alike hK, hD⟩, hS.F ht⟩) hS.2.2 hd B.notSynchronized
/-- a contract is proved by a walk in V; hE of the walk is the way out -/
theorem CD_of {l : Launch} {D : va_G} {cl : List vw_C} {tys : List (ClassId × FieldType)} {y : MethodName} {wsC ws0 : List Cond} {rm : Room} {mc ms : Nat} {av : List Value} {ws : va_W} {S : Type} {post : UInt64 → S → Prop} {wf : S → va_W} {cc : ByteArray} {maxL : Nat} {own : String} {lv : List (Nat × Value)} (hy : plainName y.cls = true) (ho : y.cls = own) (hw : wsC = Cond.code y cc maxL (some .double) :: ws0) (hn : (lg_sl av).length ≤ maxL) (hlv : lv_args 0 av = lv)
    (body : ∀ (X : VC) (A : Nat → Prop), Cx X l rm D cl tys A cc maxL own wsC (some .double) → (∀ (r : UInt64) (u : S) (ws1 : va_W) (lv : List (Nat × Value)) (pc : Nat), decode cc pc = .ok (.dreturn, 1) → True → ws1 = wf u → post r u → V X mc ms ws1 lv pc [.double r]) → V X 0 0 ws lv 0 []) : CD l D cl tys y wsC rm mc ms av ws post wf := by
  intro sz
  refine Met.ofW (cc := cc) (maxL := maxL) (ret := (some .double)) hy hw ?_
  intro p e s m args below meth c s₁ B hml hv
  obtain ⟨rfl, hsz, hP, hK, hD0, hNs⟩ := hv
  have hts := atoms_spec (ws := wsC) B.pre
  have hown : s.vm.findClass own = some m.cls := ho ▸ findClass_of_methodNamed B.named
  subst hsz
  have hD := hD0.self (sz := s.heap.size)
  rw [lg_entry_eq]
  refine body (p, l, e, rm, s, m, av.toArray, below, meth, c, D, cl, va_A ws s.heap.size, MQ below (va_Qd post (fun u => Bw D cl tys (va_A ws s.heap.size) (wf u)) (va_A ws s.heap.size)) av.toArray s mc ms (va_A ws s.heap.size), maxL) (va_A ws s.heap.size) ⟨rfl, rfl, rfl, rfl, rfl, rfl, ⟨B.exec, B.bytes, hml, hown, hts⟩, hK, fun q h => Or.inr h, B.returns, B.notSynchronized, hNs⟩ ?_ s.heap [] _ hP hD va_S.rf (hlv ▸ lv_entry av hn)
  intro r u ws1 lv pc hd hn hw hp H locs ls hP hD hS hl
  subst hw
  exact W.dret B.exec B.bytes B.returns (fun t ht hW => ⟨⟨r, u, rfl, hp, by rw [ht]; exact hP, va_K.moved hW.alike hK, hD⟩, hS.F ht⟩) hS.2.2 hd B.notSynchronized
/-- a contract is proved by a walk in V; hE of the walk is the way out -/
theorem CV_of {l : Launch} {D : va_G} {cl : List vw_C} {tys : List (ClassId × FieldType)} {y : MethodName} {wsC ws0 : List Cond} {rm : Room} {mc ms : Nat} {av : List Value} {ws : va_W} {S : Type} {post : S → Prop} {wf : S → va_W} {cc : ByteArray} {maxL : Nat} {own : String} {lv : List (Nat × Value)} (hy : plainName y.cls = true) (ho : y.cls = own) (hw : wsC = Cond.code y cc maxL none :: ws0) (hn : (lg_sl av).length ≤ maxL) (hlv : lv_args 0 av = lv)
    (body : ∀ (X : VC) (A : Nat → Prop), Cx X l rm D cl tys A cc maxL own wsC none → (∀ (u : S) (ws1 : va_W) (lv : List (Nat × Value)) (pc : Nat), decode cc pc = .ok (.return_, 1) → True → ws1 = wf u → post u → V X mc ms ws1 lv pc []) → V X 0 0 ws lv 0 []) : CV l D cl tys y wsC rm mc ms av ws post wf := by
  intro sz
  refine Met.ofW (cc := cc) (maxL := maxL) (ret := none) hy hw ?_
  intro p e s m args below meth c s₁ B hml hv
  obtain ⟨rfl, hsz, hP, hK, hD0, hNs⟩ := hv
  have hts := atoms_spec (ws := wsC) B.pre
  have hown : s.vm.findClass own = some m.cls := ho ▸ findClass_of_methodNamed B.named
  subst hsz
  have hD := hD0.self (sz := s.heap.size)
  rw [lg_entry_eq]
  refine body (p, l, e, rm, s, m, av.toArray, below, meth, c, D, cl, va_A ws s.heap.size, MQ below (va_Qv post (fun u => Bw D cl tys (va_A ws s.heap.size) (wf u)) (va_A ws s.heap.size)) av.toArray s mc ms (va_A ws s.heap.size), maxL) (va_A ws s.heap.size) ⟨rfl, rfl, rfl, rfl, rfl, rfl, ⟨B.exec, B.bytes, hml, hown, hts⟩, hK, fun q h => Or.inr h, B.returns, B.notSynchronized, hNs⟩ ?_ s.heap [] _ hP hD va_S.rf (hlv ▸ lv_entry av hn)
  intro u ws1 lv pc hd hn hw hp H locs ls hP hD hS hl
  subst hw
  exact W.vret B.exec B.bytes B.returns (fun t ht hW => ⟨⟨u, rfl, hp, by rw [ht]; exact hP, va_K.moved hW.alike hK, hD⟩, hS.F ht⟩) hS.2.2 hd B.notSynchronized
/-- a constructor's contract: the walk knows its method's name -/
theorem CVI_of {l : Launch} {D : va_G} {cl : List vw_C} {tys : List (ClassId × FieldType)} {y : MethodName} {wsC ws0 : List Cond} {rm : Room} {mc ms : Nat} {av : List Value} {ws : va_W} {S : Type} {post : S → Prop} {wf : S → va_W} {cc : ByteArray} {maxL : Nat} {own : String} {lv : List (Nat × Value)} (hy : plainName y.cls = true) (ho : y.cls = own) (hw : wsC = Cond.code y cc maxL none :: ws0) (hn : (lg_sl av).length ≤ maxL) (hlv : lv_args 0 av = lv)
    (body : ∀ (X : VC) (A : Nat → Prop), Cx X l rm D cl tys A cc maxL own wsC none → Mn X y.name → (∀ (u : S) (ws1 : va_W) (lv : List (Nat × Value)) (pc : Nat), decode cc pc = .ok (.return_, 1) → True → ws1 = wf u → post u → V X mc ms ws1 lv pc []) → V X 0 0 ws lv 0 []) : CV l D cl tys y wsC rm mc ms av ws post wf := by
  intro sz
  refine Met.ofW (cc := cc) (maxL := maxL) (ret := none) hy hw ?_
  intro p e s m args below meth c s₁ B hml hv
  obtain ⟨rfl, hsz, hP, hK, hD0, hNs⟩ := hv
  have hts := atoms_spec (ws := wsC) B.pre
  have hown : s.vm.findClass own = some m.cls := ho ▸ findClass_of_methodNamed B.named
  subst hsz
  have hD := hD0.self (sz := s.heap.size)
  rw [lg_entry_eq]
  refine body (p, l, e, rm, s, m, av.toArray, below, meth, c, D, cl, va_A ws s.heap.size, MQ below (va_Qv post (fun u => Bw D cl tys (va_A ws s.heap.size) (wf u)) (va_A ws s.heap.size)) av.toArray s mc ms (va_A ws s.heap.size), maxL) (va_A ws s.heap.size) ⟨rfl, rfl, rfl, rfl, rfl, rfl, ⟨B.exec, B.bytes, hml, hown, hts⟩, hK, fun q h => Or.inr h, B.returns, B.notSynchronized, hNs⟩ (name_of_methodNamed B.named B.method).1 ?_ s.heap [] _ hP hD va_S.rf (hlv ▸ lv_entry av hn)
  intro u ws1 lv pc hd hn hw hp H locs ls hP hD hS hl
  subst hw
  exact W.vret B.exec B.bytes B.returns (fun t ht hW => ⟨⟨u, rfl, hp, by rw [ht]; exact hP, va_K.moved hW.alike hK, hD⟩, hS.F ht⟩) hS.2.2 hd B.notSynchronized
theorem V_perm {X : VC} {kc ks pc : Nat} {ws ws' : va_W} {lv : List (Nat × Value)} {st : List Value} (h : ws.Perm ws') (k : V X kc ks ws' lv pc st) : V X kc ks ws lv pc st := by
  obtain ⟨p, l, e, R, s, m, args, below, meth, c, D, cl, A, Q, nL⟩ := X
  intro H locs ls hP hD hS hl
  rw [P_iff] at hP
  rw [D_iff] at hD
  exact k H locs ls (P_iff.mpr fun q hq => hP q (h.mem_iff.mpr hq)) (D_iff.mpr ⟨(h.map Prod.fst).nodup_iff.mp hD.1, fun q hq => hD.2 q (h.mem_iff.mpr hq)⟩) hS hl
theorem V_callIVf {X : VC} {l : Launch} {R : Room} {D : va_G} {cl : List vw_C} {tys : List (ClassId × FieldType)} {A : Nat → Prop} {cc : ByteArray} {nL : Nat} {own : String} {Ts : List Cond} {ret0 : Option FieldType} {kc ks pc q : Nat} {ws : va_W} {lv : List (Nat × Value)} {rest st : List Value} {y : MethodName} {bytes : ByteArray} {maxL mc ms n index : Nat} {wsC ws0 : List Cond} {rm : Room} {As : List Value} {S : Type} {post : Int32 → S → Prop} {wf : S → va_W} {rt : FieldType} {wc pre suf : va_W} {C : String} {b q0 ci N : Nat} {fs : List Value} {T : u_T} (hC : Cx X l R D cl tys A cc nL own Ts ret0) (hd : decode cc pc = .ok (.invokevirtual index, 3)) (hM : CI l D cl tys y wsC rm mc ms (.ref b :: As) wc post wf) (hG : GoodIn Ts (wsV own index C y wsC)) (hw : wsC = Cond.code y bytes maxL (some rt) :: ws0) (hrm : rm.cells = mc ∧ rm.slots = ms) (hy : y.cls = C ∧ y.cls ≠ "java/lang/invoke/MethodHandle" ∧ y.cls ≠ "java/lang/invoke/VarHandle" ∧ (parseMethodDescriptor y.desc).map (fun d => d.parameters.length) = some n) (hR : rm.frames + 1 ≤ R.frames ∧ 8 + (maxL + 11) + rm.locals ≤ R.locals) (hroom : kc + mc ≤ R.cells ∧ ks + ms ≤ R.slots) (hws : ws = pre ++ (wc ++ suf)) (he : wc[q0]? = some (b, .inr (ci, fs))) (hc : cl[ci]? = some (C, T, N)) (hn : As.length = n) (hst : st = As.reverse ++ .ref b :: rest) (hcat : (rest.map fun v => v.category).sum ≤ 8) (hq : pc + 3 = q) (k : ∀ (r : Int32) (u : S), post r u → V X (kc + mc) (ks + ms) (pre ++ (wf u ++ suf)) lv q (.int r :: rest)) : V X kc ks ws lv pc st := by
  obtain ⟨p, l, e, R, s, m, args, below, meth, c, D, cl, A, Q, nL⟩ := X
  obtain ⟨rfl, rfl, rfl, rfl, rfl, rfl, hF, hK, hA, hr, hlk, hNs⟩ := hC
  obtain ⟨hx, hb, hml, hown, hts⟩ := hF
  subst hq hst hws
  intro H locs ls hP hD hS hl
  have hPc : va_P D cl wc H := P_iff.mpr fun q hq => P_iff.mp hP q (by simp [hq])
  have hD2 := D_iff.mp hD
  have hDc : va_D A wc := D_iff.mpr ⟨by have h := hD2.1; simp only [List.map_append, List.nodup_append] at h; exact h.2.1.1, fun q hq => hD2.2 q (by simp [hq])⟩
  have hFc : ∀ q, va_A wc H.size q → A q := by
    rintro q (⟨k, e, h⟩ | h)
    · exact hDc.2 k _ h
    · exact hA q (Nat.le_trans hS.1 h)
  refine va_calli (va_runV (As := As) (rest := rest) ⟨hx, hb, hml, hown, hts⟩ (hM H.size) (cwV n hts hG hw hrm.1 hrm.2 hy hR) ⟨fun a U g mk z => by obtain ⟨z0, z1, z2, z3, z4, z5⟩ := z; exact ⟨z0, z1, z2, va_K.moved (u := U) (U := U.calling g mk a) (Vm.Alike.refl U.vm) z3, z4, ⟨fun w hw => va_Nw.same (by rfl) (rfl : U.vm = (U.calling g mk a).vm) (z5.1 w hw), va_AO.moved (u := U) (U := U.calling g mk a) (Vm.Alike.refl U.vm) z5.2⟩⟩, va_recv hK hPc hc he, fun U hU hW => ⟨rfl, by rw [hU], by rw [hU]; exact hPc, va_K.moved hW.alike hK, hDc.weaken (fun _ _ _ _ => trivial), hNs.warm hW⟩⟩ rfl hn hl.1 rfl (lv_room hcat) hd hroom) hS (fun q _ h => hFc q h) hFc (fun r u t H1 locs ht hvm hw hB hz1 hk1 hS => ?_)
  obtain ⟨hP1, hK1, hD1⟩ := hB
  rw [ht] at hP1
  obtain ⟨hP2, hD2⟩ := fr_call hP hD hFc hk1 hP1 hD1
  exact k r u hw H1 locs ls hP2 hD2 hS hl
theorem V_callIV {X : VC} {l : Launch} {R : Room} {D : va_G} {cl : List vw_C} {tys : List (ClassId × FieldType)} {A : Nat → Prop} {cc : ByteArray} {nL : Nat} {own : String} {Ts : List Cond} {ret0 : Option FieldType} {kc ks pc q : Nat} {ws : va_W} {lv : List (Nat × Value)} {rest st : List Value} {y : MethodName} {bytes : ByteArray} {maxL mc ms n index : Nat} {wsC ws0 : List Cond} {rm : Room} {As : List Value} {S : Type} {post : Int32 → S → Prop} {wf : S → va_W} {rt : FieldType} {C : String} {b q0 ci N : Nat} {fs : List Value} {T : u_T} (hC : Cx X l R D cl tys A cc nL own Ts ret0) (hd : decode cc pc = .ok (.invokevirtual index, 3)) (hM : CI l D cl tys y wsC rm mc ms (.ref b :: As) ws post wf) (hG : GoodIn Ts (wsV own index C y wsC)) (hw : wsC = Cond.code y bytes maxL (some rt) :: ws0) (hrm : rm.cells = mc ∧ rm.slots = ms) (hy : y.cls = C ∧ y.cls ≠ "java/lang/invoke/MethodHandle" ∧ y.cls ≠ "java/lang/invoke/VarHandle" ∧ (parseMethodDescriptor y.desc).map (fun d => d.parameters.length) = some n) (hR : rm.frames + 1 ≤ R.frames ∧ 8 + (maxL + 11) + rm.locals ≤ R.locals) (hroom : kc + mc ≤ R.cells ∧ ks + ms ≤ R.slots) (he : ws[q0]? = some (b, .inr (ci, fs))) (hc : cl[ci]? = some (C, T, N)) (hn : As.length = n) (hst : st = As.reverse ++ .ref b :: rest) (hcat : (rest.map fun v => v.category).sum ≤ 8) (hq : pc + 3 = q) (k : ∀ (r : Int32) (u : S), post r u → V X (kc + mc) (ks + ms) (wf u) lv q (.int r :: rest)) : V X kc ks ws lv pc st :=
  V_callIVf hC hd hM hG hw hrm hy hR hroom (pre := []) (suf := []) (by simp) he hc hn hst hcat hq (fun r u h => by simpa using k r u h)
theorem V_callLVf {X : VC} {l : Launch} {R : Room} {D : va_G} {cl : List vw_C} {tys : List (ClassId × FieldType)} {A : Nat → Prop} {cc : ByteArray} {nL : Nat} {own : String} {Ts : List Cond} {ret0 : Option FieldType} {kc ks pc q : Nat} {ws : va_W} {lv : List (Nat × Value)} {rest st : List Value} {y : MethodName} {bytes : ByteArray} {maxL mc ms n index : Nat} {wsC ws0 : List Cond} {rm : Room} {As : List Value} {S : Type} {post : Int64 → S → Prop} {wf : S → va_W} {wc pre suf : va_W} {C : String} {b q0 ci N : Nat} {fs : List Value} {T : u_T} (hC : Cx X l R D cl tys A cc nL own Ts ret0) (hd : decode cc pc = .ok (.invokevirtual index, 3)) (hM : CL l D cl tys y wsC rm mc ms (.ref b :: As) wc post wf) (hG : GoodIn Ts (wsV own index C y wsC)) (hw : wsC = Cond.code y bytes maxL (some .long) :: ws0) (hrm : rm.cells = mc ∧ rm.slots = ms) (hy : y.cls = C ∧ y.cls ≠ "java/lang/invoke/MethodHandle" ∧ y.cls ≠ "java/lang/invoke/VarHandle" ∧ (parseMethodDescriptor y.desc).map (fun d => d.parameters.length) = some n) (hR : rm.frames + 1 ≤ R.frames ∧ 8 + (maxL + 11) + rm.locals ≤ R.locals) (hroom : kc + mc ≤ R.cells ∧ ks + ms ≤ R.slots) (hws : ws = pre ++ (wc ++ suf)) (he : wc[q0]? = some (b, .inr (ci, fs))) (hc : cl[ci]? = some (C, T, N)) (hn : As.length = n) (hst : st = As.reverse ++ .ref b :: rest) (hcat : (rest.map fun v => v.category).sum ≤ 8) (hq : pc + 3 = q) (k : ∀ (r : Int64) (u : S), post r u → V X (kc + mc) (ks + ms) (pre ++ (wf u ++ suf)) lv q (.long r :: rest)) : V X kc ks ws lv pc st := by
  obtain ⟨p, l, e, R, s, m, args, below, meth, c, D, cl, A, Q, nL⟩ := X
  obtain ⟨rfl, rfl, rfl, rfl, rfl, rfl, hF, hK, hA, hr, hlk, hNs⟩ := hC
  obtain ⟨hx, hb, hml, hown, hts⟩ := hF
  subst hq hst hws
  intro H locs ls hP hD hS hl
  have hPc : va_P D cl wc H := P_iff.mpr fun q hq => P_iff.mp hP q (by simp [hq])
  have hD2 := D_iff.mp hD
  have hDc : va_D A wc := D_iff.mpr ⟨by have h := hD2.1; simp only [List.map_append, List.nodup_append] at h; exact h.2.1.1, fun q hq => hD2.2 q (by simp [hq])⟩
  have hFc : ∀ q, va_A wc H.size q → A q := by
    rintro q (⟨k, e, h⟩ | h)
    · exact hDc.2 k _ h
    · exact hA q (Nat.le_trans hS.1 h)
  refine va_calll (va_runV (As := As) (rest := rest) ⟨hx, hb, hml, hown, hts⟩ (hM H.size) (cwV n hts hG hw hrm.1 hrm.2 hy hR) ⟨fun a U g mk z => by obtain ⟨z0, z1, z2, z3, z4, z5⟩ := z; exact ⟨z0, z1, z2, va_K.moved (u := U) (U := U.calling g mk a) (Vm.Alike.refl U.vm) z3, z4, ⟨fun w hw => va_Nw.same (by rfl) (rfl : U.vm = (U.calling g mk a).vm) (z5.1 w hw), va_AO.moved (u := U) (U := U.calling g mk a) (Vm.Alike.refl U.vm) z5.2⟩⟩, va_recv hK hPc hc he, fun U hU hW => ⟨rfl, by rw [hU], by rw [hU]; exact hPc, va_K.moved hW.alike hK, hDc.weaken (fun _ _ _ _ => trivial), hNs.warm hW⟩⟩ rfl hn hl.1 rfl (lv_room hcat) hd hroom) hS (fun q _ h => hFc q h) hFc (fun r u t H1 locs ht hvm hw hB hz1 hk1 hS => ?_)
  obtain ⟨hP1, hK1, hD1⟩ := hB
  rw [ht] at hP1
  obtain ⟨hP2, hD2⟩ := fr_call hP hD hFc hk1 hP1 hD1
  exact k r u hw H1 locs ls hP2 hD2 hS hl
theorem V_callLV {X : VC} {l : Launch} {R : Room} {D : va_G} {cl : List vw_C} {tys : List (ClassId × FieldType)} {A : Nat → Prop} {cc : ByteArray} {nL : Nat} {own : String} {Ts : List Cond} {ret0 : Option FieldType} {kc ks pc q : Nat} {ws : va_W} {lv : List (Nat × Value)} {rest st : List Value} {y : MethodName} {bytes : ByteArray} {maxL mc ms n index : Nat} {wsC ws0 : List Cond} {rm : Room} {As : List Value} {S : Type} {post : Int64 → S → Prop} {wf : S → va_W} {C : String} {b q0 ci N : Nat} {fs : List Value} {T : u_T} (hC : Cx X l R D cl tys A cc nL own Ts ret0) (hd : decode cc pc = .ok (.invokevirtual index, 3)) (hM : CL l D cl tys y wsC rm mc ms (.ref b :: As) ws post wf) (hG : GoodIn Ts (wsV own index C y wsC)) (hw : wsC = Cond.code y bytes maxL (some .long) :: ws0) (hrm : rm.cells = mc ∧ rm.slots = ms) (hy : y.cls = C ∧ y.cls ≠ "java/lang/invoke/MethodHandle" ∧ y.cls ≠ "java/lang/invoke/VarHandle" ∧ (parseMethodDescriptor y.desc).map (fun d => d.parameters.length) = some n) (hR : rm.frames + 1 ≤ R.frames ∧ 8 + (maxL + 11) + rm.locals ≤ R.locals) (hroom : kc + mc ≤ R.cells ∧ ks + ms ≤ R.slots) (he : ws[q0]? = some (b, .inr (ci, fs))) (hc : cl[ci]? = some (C, T, N)) (hn : As.length = n) (hst : st = As.reverse ++ .ref b :: rest) (hcat : (rest.map fun v => v.category).sum ≤ 8) (hq : pc + 3 = q) (k : ∀ (r : Int64) (u : S), post r u → V X (kc + mc) (ks + ms) (wf u) lv q (.long r :: rest)) : V X kc ks ws lv pc st :=
  V_callLVf hC hd hM hG hw hrm hy hR hroom (pre := []) (suf := []) (by simp) he hc hn hst hcat hq (fun r u h => by simpa using k r u h)
theorem V_callDVf {X : VC} {l : Launch} {R : Room} {D : va_G} {cl : List vw_C} {tys : List (ClassId × FieldType)} {A : Nat → Prop} {cc : ByteArray} {nL : Nat} {own : String} {Ts : List Cond} {ret0 : Option FieldType} {kc ks pc q : Nat} {ws : va_W} {lv : List (Nat × Value)} {rest st : List Value} {y : MethodName} {bytes : ByteArray} {maxL mc ms n index : Nat} {wsC ws0 : List Cond} {rm : Room} {As : List Value} {S : Type} {post : UInt64 → S → Prop} {wf : S → va_W} {wc pre suf : va_W} {C : String} {b q0 ci N : Nat} {fs : List Value} {T : u_T} (hC : Cx X l R D cl tys A cc nL own Ts ret0) (hd : decode cc pc = .ok (.invokevirtual index, 3)) (hM : CD l D cl tys y wsC rm mc ms (.ref b :: As) wc post wf) (hG : GoodIn Ts (wsV own index C y wsC)) (hw : wsC = Cond.code y bytes maxL (some .double) :: ws0) (hrm : rm.cells = mc ∧ rm.slots = ms) (hy : y.cls = C ∧ y.cls ≠ "java/lang/invoke/MethodHandle" ∧ y.cls ≠ "java/lang/invoke/VarHandle" ∧ (parseMethodDescriptor y.desc).map (fun d => d.parameters.length) = some n) (hR : rm.frames + 1 ≤ R.frames ∧ 8 + (maxL + 11) + rm.locals ≤ R.locals) (hroom : kc + mc ≤ R.cells ∧ ks + ms ≤ R.slots) (hws : ws = pre ++ (wc ++ suf)) (he : wc[q0]? = some (b, .inr (ci, fs))) (hc : cl[ci]? = some (C, T, N)) (hn : As.length = n) (hst : st = As.reverse ++ .ref b :: rest) (hcat : (rest.map fun v => v.category).sum ≤ 8) (hq : pc + 3 = q) (k : ∀ (r : UInt64) (u : S), post r u → V X (kc + mc) (ks + ms) (pre ++ (wf u ++ suf)) lv q (.double r :: rest)) : V X kc ks ws lv pc st := by
  obtain ⟨p, l, e, R, s, m, args, below, meth, c, D, cl, A, Q, nL⟩ := X
  obtain ⟨rfl, rfl, rfl, rfl, rfl, rfl, hF, hK, hA, hr, hlk, hNs⟩ := hC
  obtain ⟨hx, hb, hml, hown, hts⟩ := hF
  subst hq hst hws
  intro H locs ls hP hD hS hl
  have hPc : va_P D cl wc H := P_iff.mpr fun q hq => P_iff.mp hP q (by simp [hq])
  have hD2 := D_iff.mp hD
  have hDc : va_D A wc := D_iff.mpr ⟨by have h := hD2.1; simp only [List.map_append, List.nodup_append] at h; exact h.2.1.1, fun q hq => hD2.2 q (by simp [hq])⟩
  have hFc : ∀ q, va_A wc H.size q → A q := by
    rintro q (⟨k, e, h⟩ | h)
    · exact hDc.2 k _ h
    · exact hA q (Nat.le_trans hS.1 h)
  refine va_calld (va_runV (As := As) (rest := rest) ⟨hx, hb, hml, hown, hts⟩ (hM H.size) (cwV n hts hG hw hrm.1 hrm.2 hy hR) ⟨fun a U g mk z => by obtain ⟨z0, z1, z2, z3, z4, z5⟩ := z; exact ⟨z0, z1, z2, va_K.moved (u := U) (U := U.calling g mk a) (Vm.Alike.refl U.vm) z3, z4, ⟨fun w hw => va_Nw.same (by rfl) (rfl : U.vm = (U.calling g mk a).vm) (z5.1 w hw), va_AO.moved (u := U) (U := U.calling g mk a) (Vm.Alike.refl U.vm) z5.2⟩⟩, va_recv hK hPc hc he, fun U hU hW => ⟨rfl, by rw [hU], by rw [hU]; exact hPc, va_K.moved hW.alike hK, hDc.weaken (fun _ _ _ _ => trivial), hNs.warm hW⟩⟩ rfl hn hl.1 rfl (lv_room hcat) hd hroom) hS (fun q _ h => hFc q h) hFc (fun r u t H1 locs ht hvm hw hB hz1 hk1 hS => ?_)
  obtain ⟨hP1, hK1, hD1⟩ := hB
  rw [ht] at hP1
  obtain ⟨hP2, hD2⟩ := fr_call hP hD hFc hk1 hP1 hD1
  exact k r u hw H1 locs ls hP2 hD2 hS hl
theorem V_callDV {X : VC} {l : Launch} {R : Room} {D : va_G} {cl : List vw_C} {tys : List (ClassId × FieldType)} {A : Nat → Prop} {cc : ByteArray} {nL : Nat} {own : String} {Ts : List Cond} {ret0 : Option FieldType} {kc ks pc q : Nat} {ws : va_W} {lv : List (Nat × Value)} {rest st : List Value} {y : MethodName} {bytes : ByteArray} {maxL mc ms n index : Nat} {wsC ws0 : List Cond} {rm : Room} {As : List Value} {S : Type} {post : UInt64 → S → Prop} {wf : S → va_W} {C : String} {b q0 ci N : Nat} {fs : List Value} {T : u_T} (hC : Cx X l R D cl tys A cc nL own Ts ret0) (hd : decode cc pc = .ok (.invokevirtual index, 3)) (hM : CD l D cl tys y wsC rm mc ms (.ref b :: As) ws post wf) (hG : GoodIn Ts (wsV own index C y wsC)) (hw : wsC = Cond.code y bytes maxL (some .double) :: ws0) (hrm : rm.cells = mc ∧ rm.slots = ms) (hy : y.cls = C ∧ y.cls ≠ "java/lang/invoke/MethodHandle" ∧ y.cls ≠ "java/lang/invoke/VarHandle" ∧ (parseMethodDescriptor y.desc).map (fun d => d.parameters.length) = some n) (hR : rm.frames + 1 ≤ R.frames ∧ 8 + (maxL + 11) + rm.locals ≤ R.locals) (hroom : kc + mc ≤ R.cells ∧ ks + ms ≤ R.slots) (he : ws[q0]? = some (b, .inr (ci, fs))) (hc : cl[ci]? = some (C, T, N)) (hn : As.length = n) (hst : st = As.reverse ++ .ref b :: rest) (hcat : (rest.map fun v => v.category).sum ≤ 8) (hq : pc + 3 = q) (k : ∀ (r : UInt64) (u : S), post r u → V X (kc + mc) (ks + ms) (wf u) lv q (.double r :: rest)) : V X kc ks ws lv pc st :=
  V_callDVf hC hd hM hG hw hrm hy hR hroom (pre := []) (suf := []) (by simp) he hc hn hst hcat hq (fun r u h => by simpa using k r u h)
theorem V_callVVf {X : VC} {l : Launch} {R : Room} {D : va_G} {cl : List vw_C} {tys : List (ClassId × FieldType)} {A : Nat → Prop} {cc : ByteArray} {nL : Nat} {own : String} {Ts : List Cond} {ret0 : Option FieldType} {kc ks pc q : Nat} {ws : va_W} {lv : List (Nat × Value)} {rest st : List Value} {y : MethodName} {bytes : ByteArray} {maxL mc ms n index : Nat} {wsC ws0 : List Cond} {rm : Room} {As : List Value} {S : Type} {post : S → Prop} {wf : S → va_W} {wc pre suf : va_W} {C : String} {b q0 ci N : Nat} {fs : List Value} {T : u_T} (hC : Cx X l R D cl tys A cc nL own Ts ret0) (hd : decode cc pc = .ok (.invokevirtual index, 3)) (hM : CV l D cl tys y wsC rm mc ms (.ref b :: As) wc post wf) (hG : GoodIn Ts (wsV own index C y wsC)) (hw : wsC = Cond.code y bytes maxL none :: ws0) (hrm : rm.cells = mc ∧ rm.slots = ms) (hy : y.cls = C ∧ y.cls ≠ "java/lang/invoke/MethodHandle" ∧ y.cls ≠ "java/lang/invoke/VarHandle" ∧ (parseMethodDescriptor y.desc).map (fun d => d.parameters.length) = some n) (hR : rm.frames + 1 ≤ R.frames ∧ 8 + (maxL + 11) + rm.locals ≤ R.locals) (hroom : kc + mc ≤ R.cells ∧ ks + ms ≤ R.slots) (hws : ws = pre ++ (wc ++ suf)) (he : wc[q0]? = some (b, .inr (ci, fs))) (hc : cl[ci]? = some (C, T, N)) (hn : As.length = n) (hst : st = As.reverse ++ .ref b :: rest) (hcat : (rest.map fun v => v.category).sum ≤ 8) (hq : pc + 3 = q) (k : ∀ (u : S), post u → V X (kc + mc) (ks + ms) (pre ++ (wf u ++ suf)) lv q (rest)) : V X kc ks ws lv pc st := by
  obtain ⟨p, l, e, R, s, m, args, below, meth, c, D, cl, A, Q, nL⟩ := X
  obtain ⟨rfl, rfl, rfl, rfl, rfl, rfl, hF, hK, hA, hr, hlk, hNs⟩ := hC
  obtain ⟨hx, hb, hml, hown, hts⟩ := hF
  subst hq hst hws
  intro H locs ls hP hD hS hl
  have hPc : va_P D cl wc H := P_iff.mpr fun q hq => P_iff.mp hP q (by simp [hq])
  have hD2 := D_iff.mp hD
  have hDc : va_D A wc := D_iff.mpr ⟨by have h := hD2.1; simp only [List.map_append, List.nodup_append] at h; exact h.2.1.1, fun q hq => hD2.2 q (by simp [hq])⟩
  have hFc : ∀ q, va_A wc H.size q → A q := by
    rintro q (⟨k, e, h⟩ | h)
    · exact hDc.2 k _ h
    · exact hA q (Nat.le_trans hS.1 h)
  refine va_callv (va_runV (As := As) (rest := rest) ⟨hx, hb, hml, hown, hts⟩ (hM H.size) (cwV n hts hG hw hrm.1 hrm.2 hy hR) ⟨fun a U g mk z => by obtain ⟨z0, z1, z2, z3, z4, z5⟩ := z; exact ⟨z0, z1, z2, va_K.moved (u := U) (U := U.calling g mk a) (Vm.Alike.refl U.vm) z3, z4, ⟨fun w hw => va_Nw.same (by rfl) (rfl : U.vm = (U.calling g mk a).vm) (z5.1 w hw), va_AO.moved (u := U) (U := U.calling g mk a) (Vm.Alike.refl U.vm) z5.2⟩⟩, va_recv hK hPc hc he, fun U hU hW => ⟨rfl, by rw [hU], by rw [hU]; exact hPc, va_K.moved hW.alike hK, hDc.weaken (fun _ _ _ _ => trivial), hNs.warm hW⟩⟩ rfl hn hl.1 rfl (lv_room hcat) hd hroom) hS (fun q _ h => hFc q h) hFc (fun u t H1 locs ht hvm hw hB hz1 hk1 hS => ?_)
  obtain ⟨hP1, hK1, hD1⟩ := hB
  rw [ht] at hP1
  obtain ⟨hP2, hD2⟩ := fr_call hP hD hFc hk1 hP1 hD1
  exact k u hw H1 locs ls hP2 hD2 hS hl
theorem V_callVV {X : VC} {l : Launch} {R : Room} {D : va_G} {cl : List vw_C} {tys : List (ClassId × FieldType)} {A : Nat → Prop} {cc : ByteArray} {nL : Nat} {own : String} {Ts : List Cond} {ret0 : Option FieldType} {kc ks pc q : Nat} {ws : va_W} {lv : List (Nat × Value)} {rest st : List Value} {y : MethodName} {bytes : ByteArray} {maxL mc ms n index : Nat} {wsC ws0 : List Cond} {rm : Room} {As : List Value} {S : Type} {post : S → Prop} {wf : S → va_W} {C : String} {b q0 ci N : Nat} {fs : List Value} {T : u_T} (hC : Cx X l R D cl tys A cc nL own Ts ret0) (hd : decode cc pc = .ok (.invokevirtual index, 3)) (hM : CV l D cl tys y wsC rm mc ms (.ref b :: As) ws post wf) (hG : GoodIn Ts (wsV own index C y wsC)) (hw : wsC = Cond.code y bytes maxL none :: ws0) (hrm : rm.cells = mc ∧ rm.slots = ms) (hy : y.cls = C ∧ y.cls ≠ "java/lang/invoke/MethodHandle" ∧ y.cls ≠ "java/lang/invoke/VarHandle" ∧ (parseMethodDescriptor y.desc).map (fun d => d.parameters.length) = some n) (hR : rm.frames + 1 ≤ R.frames ∧ 8 + (maxL + 11) + rm.locals ≤ R.locals) (hroom : kc + mc ≤ R.cells ∧ ks + ms ≤ R.slots) (he : ws[q0]? = some (b, .inr (ci, fs))) (hc : cl[ci]? = some (C, T, N)) (hn : As.length = n) (hst : st = As.reverse ++ .ref b :: rest) (hcat : (rest.map fun v => v.category).sum ≤ 8) (hq : pc + 3 = q) (k : ∀ (u : S), post u → V X (kc + mc) (ks + ms) (wf u) lv q (rest)) : V X kc ks ws lv pc st :=
  V_callVVf hC hd hM hG hw hrm hy hR hroom (pre := []) (suf := []) (by simp) he hc hn hst hcat hq (fun u h => by simpa using k u h)
theorem V_callISf {X : VC} {l : Launch} {R : Room} {D : va_G} {cl : List vw_C} {tys : List (ClassId × FieldType)} {A : Nat → Prop} {cc : ByteArray} {nL : Nat} {own : String} {Ts : List Cond} {ret0 : Option FieldType} {kc ks pc q : Nat} {ws : va_W} {lv : List (Nat × Value)} {rest st : List Value} {y : MethodName} {bytes : ByteArray} {maxL mc ms n index : Nat} {wsC ws0 : List Cond} {rm : Room} {As : List Value} {S : Type} {post : Int32 → S → Prop} {wf : S → va_W} {rt : FieldType} {wc pre suf : va_W} (hC : Cx X l R D cl tys A cc nL own Ts ret0) (hd : decode cc pc = .ok (.invokestatic index, 3)) (hM : CI l D cl tys y wsC rm mc ms As wc post wf) (hG : GoodIn Ts (va_wsS own index y wsC)) (hw : wsC = Cond.code y bytes maxL (some rt) :: ws0) (hrm : rm.cells = mc ∧ rm.slots = ms) (hy : y.cls ≠ "java/lang/invoke/MethodHandle" ∧ y.cls ≠ "java/lang/invoke/VarHandle" ∧ (parseMethodDescriptor y.desc).map (fun d => d.parameters.length) = some n) (hR : rm.frames + 1 ≤ R.frames ∧ 8 + (maxL + 11) + rm.locals ≤ R.locals) (hroom : kc + mc ≤ R.cells ∧ ks + ms ≤ R.slots) (hws : ws = pre ++ (wc ++ suf)) (hn : As.length = n) (hst : st = As.reverse ++ rest) (hcat : (rest.map fun v => v.category).sum ≤ 8) (hq : pc + 3 = q) (k : ∀ (r : Int32) (u : S), post r u → V X (kc + mc) (ks + ms) (pre ++ (wf u ++ suf)) lv q (.int r :: rest)) : V X kc ks ws lv pc st := by
  obtain ⟨p, l, e, R, s, m, args, below, meth, c, D, cl, A, Q, nL⟩ := X
  obtain ⟨rfl, rfl, rfl, rfl, rfl, rfl, hF, hK, hA, hr, hlk, hNs⟩ := hC
  obtain ⟨hx, hb, hml, hown, hts⟩ := hF
  subst hq hst hws
  intro H locs ls hP hD hS hl
  have hPc : va_P D cl wc H := P_iff.mpr fun q hq => P_iff.mp hP q (by simp [hq])
  have hD2 := D_iff.mp hD
  have hDc : va_D A wc := D_iff.mpr ⟨by have h := hD2.1; simp only [List.map_append, List.nodup_append] at h; exact h.2.1.1, fun q hq => hD2.2 q (by simp [hq])⟩
  have hFc : ∀ q, va_A wc H.size q → A q := by
    rintro q (⟨k, e, h⟩ | h)
    · exact hDc.2 k _ h
    · exact hA q (Nat.le_trans hS.1 h)
  refine va_calli (va_runS (As := As) (rest := rest) ⟨hx, hb, hml, hown, hts⟩ (hM H.size) (va_cwS n hts hG hw hrm.1 hrm.2 hy hR) ⟨fun a U g mk z => by obtain ⟨z0, z1, z2, z3, z4, z5⟩ := z; exact ⟨z0, z1, z2, va_K.moved (u := U) (U := U.calling g mk a) (Vm.Alike.refl U.vm) z3, z4, ⟨fun w hw => va_Nw.same (by rfl) (rfl : U.vm = (U.calling g mk a).vm) (z5.1 w hw), va_AO.moved (u := U) (U := U.calling g mk a) (Vm.Alike.refl U.vm) z5.2⟩⟩, fun U hU hW => ⟨rfl, by rw [hU], by rw [hU]; exact hPc, va_K.moved hW.alike hK, hDc.weaken (fun _ _ _ _ => trivial), hNs.warm hW⟩⟩ rfl hn hl.1 rfl (lv_room hcat) hd hroom) hS (fun q _ h => hFc q h) hFc (fun r u t H1 locs ht hvm hw hB hz1 hk1 hS => ?_)
  obtain ⟨hP1, hK1, hD1⟩ := hB
  rw [ht] at hP1
  obtain ⟨hP2, hD2⟩ := fr_call hP hD hFc hk1 hP1 hD1
  exact k r u hw H1 locs ls hP2 hD2 hS hl
theorem V_callIS {X : VC} {l : Launch} {R : Room} {D : va_G} {cl : List vw_C} {tys : List (ClassId × FieldType)} {A : Nat → Prop} {cc : ByteArray} {nL : Nat} {own : String} {Ts : List Cond} {ret0 : Option FieldType} {kc ks pc q : Nat} {ws : va_W} {lv : List (Nat × Value)} {rest st : List Value} {y : MethodName} {bytes : ByteArray} {maxL mc ms n index : Nat} {wsC ws0 : List Cond} {rm : Room} {As : List Value} {S : Type} {post : Int32 → S → Prop} {wf : S → va_W} {rt : FieldType} (hC : Cx X l R D cl tys A cc nL own Ts ret0) (hd : decode cc pc = .ok (.invokestatic index, 3)) (hM : CI l D cl tys y wsC rm mc ms As ws post wf) (hG : GoodIn Ts (va_wsS own index y wsC)) (hw : wsC = Cond.code y bytes maxL (some rt) :: ws0) (hrm : rm.cells = mc ∧ rm.slots = ms) (hy : y.cls ≠ "java/lang/invoke/MethodHandle" ∧ y.cls ≠ "java/lang/invoke/VarHandle" ∧ (parseMethodDescriptor y.desc).map (fun d => d.parameters.length) = some n) (hR : rm.frames + 1 ≤ R.frames ∧ 8 + (maxL + 11) + rm.locals ≤ R.locals) (hroom : kc + mc ≤ R.cells ∧ ks + ms ≤ R.slots) (hn : As.length = n) (hst : st = As.reverse ++ rest) (hcat : (rest.map fun v => v.category).sum ≤ 8) (hq : pc + 3 = q) (k : ∀ (r : Int32) (u : S), post r u → V X (kc + mc) (ks + ms) (wf u) lv q (.int r :: rest)) : V X kc ks ws lv pc st :=
  V_callISf hC hd hM hG hw hrm hy hR hroom (pre := []) (suf := []) (by simp) hn hst hcat hq (fun r u h => by simpa using k r u h)
theorem V_callIS0 {X : VC} {l : Launch} {R : Room} {D : va_G} {cl : List vw_C} {tys : List (ClassId × FieldType)} {A : Nat → Prop} {cc : ByteArray} {nL : Nat} {own : String} {Ts : List Cond} {ret0 : Option FieldType} {kc ks pc q : Nat} {ws : va_W} {lv : List (Nat × Value)} {rest st : List Value} {y : MethodName} {bytes : ByteArray} {maxL mc ms n index : Nat} {wsC ws0 : List Cond} {rm : Room} {As : List Value} {S : Type} {post : Int32 → S → Prop} {rt : FieldType} (hC : Cx X l R D cl tys A cc nL own Ts ret0) (hd : decode cc pc = .ok (.invokestatic index, 3)) (hM : CI l D cl tys y wsC rm mc ms As [] post (fun _ => [])) (hG : GoodIn Ts (va_wsS own index y wsC)) (hw : wsC = Cond.code y bytes maxL (some rt) :: ws0) (hrm : rm.cells = mc ∧ rm.slots = ms) (hy : y.cls ≠ "java/lang/invoke/MethodHandle" ∧ y.cls ≠ "java/lang/invoke/VarHandle" ∧ (parseMethodDescriptor y.desc).map (fun d => d.parameters.length) = some n) (hR : rm.frames + 1 ≤ R.frames ∧ 8 + (maxL + 11) + rm.locals ≤ R.locals) (hroom : kc + mc ≤ R.cells ∧ ks + ms ≤ R.slots) (hn : As.length = n) (hst : st = As.reverse ++ rest) (hcat : (rest.map fun v => v.category).sum ≤ 8) (hq : pc + 3 = q) (k : ∀ (r : Int32) (u : S), post r u → V X (kc + mc) (ks + ms) ws lv q (.int r :: rest)) : V X kc ks ws lv pc st :=
  V_callISf hC hd hM hG hw hrm hy hR hroom (pre := ws) (suf := []) (by simp) hn hst hcat hq (fun r u h => by simpa using k r u h)
theorem V_callLSf {X : VC} {l : Launch} {R : Room} {D : va_G} {cl : List vw_C} {tys : List (ClassId × FieldType)} {A : Nat → Prop} {cc : ByteArray} {nL : Nat} {own : String} {Ts : List Cond} {ret0 : Option FieldType} {kc ks pc q : Nat} {ws : va_W} {lv : List (Nat × Value)} {rest st : List Value} {y : MethodName} {bytes : ByteArray} {maxL mc ms n index : Nat} {wsC ws0 : List Cond} {rm : Room} {As : List Value} {S : Type} {post : Int64 → S → Prop} {wf : S → va_W} {wc pre suf : va_W} (hC : Cx X l R D cl tys A cc nL own Ts ret0) (hd : decode cc pc = .ok (.invokestatic index, 3)) (hM : CL l D cl tys y wsC rm mc ms As wc post wf) (hG : GoodIn Ts (va_wsS own index y wsC)) (hw : wsC = Cond.code y bytes maxL (some .long) :: ws0) (hrm : rm.cells = mc ∧ rm.slots = ms) (hy : y.cls ≠ "java/lang/invoke/MethodHandle" ∧ y.cls ≠ "java/lang/invoke/VarHandle" ∧ (parseMethodDescriptor y.desc).map (fun d => d.parameters.length) = some n) (hR : rm.frames + 1 ≤ R.frames ∧ 8 + (maxL + 11) + rm.locals ≤ R.locals) (hroom : kc + mc ≤ R.cells ∧ ks + ms ≤ R.slots) (hws : ws = pre ++ (wc ++ suf)) (hn : As.length = n) (hst : st = As.reverse ++ rest) (hcat : (rest.map fun v => v.category).sum ≤ 8) (hq : pc + 3 = q) (k : ∀ (r : Int64) (u : S), post r u → V X (kc + mc) (ks + ms) (pre ++ (wf u ++ suf)) lv q (.long r :: rest)) : V X kc ks ws lv pc st := by
  obtain ⟨p, l, e, R, s, m, args, below, meth, c, D, cl, A, Q, nL⟩ := X
  obtain ⟨rfl, rfl, rfl, rfl, rfl, rfl, hF, hK, hA, hr, hlk, hNs⟩ := hC
  obtain ⟨hx, hb, hml, hown, hts⟩ := hF
  subst hq hst hws
  intro H locs ls hP hD hS hl
  have hPc : va_P D cl wc H := P_iff.mpr fun q hq => P_iff.mp hP q (by simp [hq])
  have hD2 := D_iff.mp hD
  have hDc : va_D A wc := D_iff.mpr ⟨by have h := hD2.1; simp only [List.map_append, List.nodup_append] at h; exact h.2.1.1, fun q hq => hD2.2 q (by simp [hq])⟩
  have hFc : ∀ q, va_A wc H.size q → A q := by
    rintro q (⟨k, e, h⟩ | h)
    · exact hDc.2 k _ h
    · exact hA q (Nat.le_trans hS.1 h)
  refine va_calll (va_runS (As := As) (rest := rest) ⟨hx, hb, hml, hown, hts⟩ (hM H.size) (va_cwS n hts hG hw hrm.1 hrm.2 hy hR) ⟨fun a U g mk z => by obtain ⟨z0, z1, z2, z3, z4, z5⟩ := z; exact ⟨z0, z1, z2, va_K.moved (u := U) (U := U.calling g mk a) (Vm.Alike.refl U.vm) z3, z4, ⟨fun w hw => va_Nw.same (by rfl) (rfl : U.vm = (U.calling g mk a).vm) (z5.1 w hw), va_AO.moved (u := U) (U := U.calling g mk a) (Vm.Alike.refl U.vm) z5.2⟩⟩, fun U hU hW => ⟨rfl, by rw [hU], by rw [hU]; exact hPc, va_K.moved hW.alike hK, hDc.weaken (fun _ _ _ _ => trivial), hNs.warm hW⟩⟩ rfl hn hl.1 rfl (lv_room hcat) hd hroom) hS (fun q _ h => hFc q h) hFc (fun r u t H1 locs ht hvm hw hB hz1 hk1 hS => ?_)
  obtain ⟨hP1, hK1, hD1⟩ := hB
  rw [ht] at hP1
  obtain ⟨hP2, hD2⟩ := fr_call hP hD hFc hk1 hP1 hD1
  exact k r u hw H1 locs ls hP2 hD2 hS hl
theorem V_callLS {X : VC} {l : Launch} {R : Room} {D : va_G} {cl : List vw_C} {tys : List (ClassId × FieldType)} {A : Nat → Prop} {cc : ByteArray} {nL : Nat} {own : String} {Ts : List Cond} {ret0 : Option FieldType} {kc ks pc q : Nat} {ws : va_W} {lv : List (Nat × Value)} {rest st : List Value} {y : MethodName} {bytes : ByteArray} {maxL mc ms n index : Nat} {wsC ws0 : List Cond} {rm : Room} {As : List Value} {S : Type} {post : Int64 → S → Prop} {wf : S → va_W} (hC : Cx X l R D cl tys A cc nL own Ts ret0) (hd : decode cc pc = .ok (.invokestatic index, 3)) (hM : CL l D cl tys y wsC rm mc ms As ws post wf) (hG : GoodIn Ts (va_wsS own index y wsC)) (hw : wsC = Cond.code y bytes maxL (some .long) :: ws0) (hrm : rm.cells = mc ∧ rm.slots = ms) (hy : y.cls ≠ "java/lang/invoke/MethodHandle" ∧ y.cls ≠ "java/lang/invoke/VarHandle" ∧ (parseMethodDescriptor y.desc).map (fun d => d.parameters.length) = some n) (hR : rm.frames + 1 ≤ R.frames ∧ 8 + (maxL + 11) + rm.locals ≤ R.locals) (hroom : kc + mc ≤ R.cells ∧ ks + ms ≤ R.slots) (hn : As.length = n) (hst : st = As.reverse ++ rest) (hcat : (rest.map fun v => v.category).sum ≤ 8) (hq : pc + 3 = q) (k : ∀ (r : Int64) (u : S), post r u → V X (kc + mc) (ks + ms) (wf u) lv q (.long r :: rest)) : V X kc ks ws lv pc st :=
  V_callLSf hC hd hM hG hw hrm hy hR hroom (pre := []) (suf := []) (by simp) hn hst hcat hq (fun r u h => by simpa using k r u h)
theorem V_callLS0 {X : VC} {l : Launch} {R : Room} {D : va_G} {cl : List vw_C} {tys : List (ClassId × FieldType)} {A : Nat → Prop} {cc : ByteArray} {nL : Nat} {own : String} {Ts : List Cond} {ret0 : Option FieldType} {kc ks pc q : Nat} {ws : va_W} {lv : List (Nat × Value)} {rest st : List Value} {y : MethodName} {bytes : ByteArray} {maxL mc ms n index : Nat} {wsC ws0 : List Cond} {rm : Room} {As : List Value} {S : Type} {post : Int64 → S → Prop} (hC : Cx X l R D cl tys A cc nL own Ts ret0) (hd : decode cc pc = .ok (.invokestatic index, 3)) (hM : CL l D cl tys y wsC rm mc ms As [] post (fun _ => [])) (hG : GoodIn Ts (va_wsS own index y wsC)) (hw : wsC = Cond.code y bytes maxL (some .long) :: ws0) (hrm : rm.cells = mc ∧ rm.slots = ms) (hy : y.cls ≠ "java/lang/invoke/MethodHandle" ∧ y.cls ≠ "java/lang/invoke/VarHandle" ∧ (parseMethodDescriptor y.desc).map (fun d => d.parameters.length) = some n) (hR : rm.frames + 1 ≤ R.frames ∧ 8 + (maxL + 11) + rm.locals ≤ R.locals) (hroom : kc + mc ≤ R.cells ∧ ks + ms ≤ R.slots) (hn : As.length = n) (hst : st = As.reverse ++ rest) (hcat : (rest.map fun v => v.category).sum ≤ 8) (hq : pc + 3 = q) (k : ∀ (r : Int64) (u : S), post r u → V X (kc + mc) (ks + ms) ws lv q (.long r :: rest)) : V X kc ks ws lv pc st :=
  V_callLSf hC hd hM hG hw hrm hy hR hroom (pre := ws) (suf := []) (by simp) hn hst hcat hq (fun r u h => by simpa using k r u h)
theorem V_callDSf {X : VC} {l : Launch} {R : Room} {D : va_G} {cl : List vw_C} {tys : List (ClassId × FieldType)} {A : Nat → Prop} {cc : ByteArray} {nL : Nat} {own : String} {Ts : List Cond} {ret0 : Option FieldType} {kc ks pc q : Nat} {ws : va_W} {lv : List (Nat × Value)} {rest st : List Value} {y : MethodName} {bytes : ByteArray} {maxL mc ms n index : Nat} {wsC ws0 : List Cond} {rm : Room} {As : List Value} {S : Type} {post : UInt64 → S → Prop} {wf : S → va_W} {wc pre suf : va_W} (hC : Cx X l R D cl tys A cc nL own Ts ret0) (hd : decode cc pc = .ok (.invokestatic index, 3)) (hM : CD l D cl tys y wsC rm mc ms As wc post wf) (hG : GoodIn Ts (va_wsS own index y wsC)) (hw : wsC = Cond.code y bytes maxL (some .double) :: ws0) (hrm : rm.cells = mc ∧ rm.slots = ms) (hy : y.cls ≠ "java/lang/invoke/MethodHandle" ∧ y.cls ≠ "java/lang/invoke/VarHandle" ∧ (parseMethodDescriptor y.desc).map (fun d => d.parameters.length) = some n) (hR : rm.frames + 1 ≤ R.frames ∧ 8 + (maxL + 11) + rm.locals ≤ R.locals) (hroom : kc + mc ≤ R.cells ∧ ks + ms ≤ R.slots) (hws : ws = pre ++ (wc ++ suf)) (hn : As.length = n) (hst : st = As.reverse ++ rest) (hcat : (rest.map fun v => v.category).sum ≤ 8) (hq : pc + 3 = q) (k : ∀ (r : UInt64) (u : S), post r u → V X (kc + mc) (ks + ms) (pre ++ (wf u ++ suf)) lv q (.double r :: rest)) : V X kc ks ws lv pc st := by
  obtain ⟨p, l, e, R, s, m, args, below, meth, c, D, cl, A, Q, nL⟩ := X
  obtain ⟨rfl, rfl, rfl, rfl, rfl, rfl, hF, hK, hA, hr, hlk, hNs⟩ := hC
  obtain ⟨hx, hb, hml, hown, hts⟩ := hF
  subst hq hst hws
  intro H locs ls hP hD hS hl
  have hPc : va_P D cl wc H := P_iff.mpr fun q hq => P_iff.mp hP q (by simp [hq])
  have hD2 := D_iff.mp hD
  have hDc : va_D A wc := D_iff.mpr ⟨by have h := hD2.1; simp only [List.map_append, List.nodup_append] at h; exact h.2.1.1, fun q hq => hD2.2 q (by simp [hq])⟩
  have hFc : ∀ q, va_A wc H.size q → A q := by
    rintro q (⟨k, e, h⟩ | h)
    · exact hDc.2 k _ h
    · exact hA q (Nat.le_trans hS.1 h)
  refine va_calld (va_runS (As := As) (rest := rest) ⟨hx, hb, hml, hown, hts⟩ (hM H.size) (va_cwS n hts hG hw hrm.1 hrm.2 hy hR) ⟨fun a U g mk z => by obtain ⟨z0, z1, z2, z3, z4, z5⟩ := z; exact ⟨z0, z1, z2, va_K.moved (u := U) (U := U.calling g mk a) (Vm.Alike.refl U.vm) z3, z4, ⟨fun w hw => va_Nw.same (by rfl) (rfl : U.vm = (U.calling g mk a).vm) (z5.1 w hw), va_AO.moved (u := U) (U := U.calling g mk a) (Vm.Alike.refl U.vm) z5.2⟩⟩, fun U hU hW => ⟨rfl, by rw [hU], by rw [hU]; exact hPc, va_K.moved hW.alike hK, hDc.weaken (fun _ _ _ _ => trivial), hNs.warm hW⟩⟩ rfl hn hl.1 rfl (lv_room hcat) hd hroom) hS (fun q _ h => hFc q h) hFc (fun r u t H1 locs ht hvm hw hB hz1 hk1 hS => ?_)
  obtain ⟨hP1, hK1, hD1⟩ := hB
  rw [ht] at hP1
  obtain ⟨hP2, hD2⟩ := fr_call hP hD hFc hk1 hP1 hD1
  exact k r u hw H1 locs ls hP2 hD2 hS hl
theorem V_callDS {X : VC} {l : Launch} {R : Room} {D : va_G} {cl : List vw_C} {tys : List (ClassId × FieldType)} {A : Nat → Prop} {cc : ByteArray} {nL : Nat} {own : String} {Ts : List Cond} {ret0 : Option FieldType} {kc ks pc q : Nat} {ws : va_W} {lv : List (Nat × Value)} {rest st : List Value} {y : MethodName} {bytes : ByteArray} {maxL mc ms n index : Nat} {wsC ws0 : List Cond} {rm : Room} {As : List Value} {S : Type} {post : UInt64 → S → Prop} {wf : S → va_W} (hC : Cx X l R D cl tys A cc nL own Ts ret0) (hd : decode cc pc = .ok (.invokestatic index, 3)) (hM : CD l D cl tys y wsC rm mc ms As ws post wf) (hG : GoodIn Ts (va_wsS own index y wsC)) (hw : wsC = Cond.code y bytes maxL (some .double) :: ws0) (hrm : rm.cells = mc ∧ rm.slots = ms) (hy : y.cls ≠ "java/lang/invoke/MethodHandle" ∧ y.cls ≠ "java/lang/invoke/VarHandle" ∧ (parseMethodDescriptor y.desc).map (fun d => d.parameters.length) = some n) (hR : rm.frames + 1 ≤ R.frames ∧ 8 + (maxL + 11) + rm.locals ≤ R.locals) (hroom : kc + mc ≤ R.cells ∧ ks + ms ≤ R.slots) (hn : As.length = n) (hst : st = As.reverse ++ rest) (hcat : (rest.map fun v => v.category).sum ≤ 8) (hq : pc + 3 = q) (k : ∀ (r : UInt64) (u : S), post r u → V X (kc + mc) (ks + ms) (wf u) lv q (.double r :: rest)) : V X kc ks ws lv pc st :=
  V_callDSf hC hd hM hG hw hrm hy hR hroom (pre := []) (suf := []) (by simp) hn hst hcat hq (fun r u h => by simpa using k r u h)
theorem V_callDS0 {X : VC} {l : Launch} {R : Room} {D : va_G} {cl : List vw_C} {tys : List (ClassId × FieldType)} {A : Nat → Prop} {cc : ByteArray} {nL : Nat} {own : String} {Ts : List Cond} {ret0 : Option FieldType} {kc ks pc q : Nat} {ws : va_W} {lv : List (Nat × Value)} {rest st : List Value} {y : MethodName} {bytes : ByteArray} {maxL mc ms n index : Nat} {wsC ws0 : List Cond} {rm : Room} {As : List Value} {S : Type} {post : UInt64 → S → Prop} (hC : Cx X l R D cl tys A cc nL own Ts ret0) (hd : decode cc pc = .ok (.invokestatic index, 3)) (hM : CD l D cl tys y wsC rm mc ms As [] post (fun _ => [])) (hG : GoodIn Ts (va_wsS own index y wsC)) (hw : wsC = Cond.code y bytes maxL (some .double) :: ws0) (hrm : rm.cells = mc ∧ rm.slots = ms) (hy : y.cls ≠ "java/lang/invoke/MethodHandle" ∧ y.cls ≠ "java/lang/invoke/VarHandle" ∧ (parseMethodDescriptor y.desc).map (fun d => d.parameters.length) = some n) (hR : rm.frames + 1 ≤ R.frames ∧ 8 + (maxL + 11) + rm.locals ≤ R.locals) (hroom : kc + mc ≤ R.cells ∧ ks + ms ≤ R.slots) (hn : As.length = n) (hst : st = As.reverse ++ rest) (hcat : (rest.map fun v => v.category).sum ≤ 8) (hq : pc + 3 = q) (k : ∀ (r : UInt64) (u : S), post r u → V X (kc + mc) (ks + ms) ws lv q (.double r :: rest)) : V X kc ks ws lv pc st :=
  V_callDSf hC hd hM hG hw hrm hy hR hroom (pre := ws) (suf := []) (by simp) hn hst hcat hq (fun r u h => by simpa using k r u h)
theorem V_callVSf {X : VC} {l : Launch} {R : Room} {D : va_G} {cl : List vw_C} {tys : List (ClassId × FieldType)} {A : Nat → Prop} {cc : ByteArray} {nL : Nat} {own : String} {Ts : List Cond} {ret0 : Option FieldType} {kc ks pc q : Nat} {ws : va_W} {lv : List (Nat × Value)} {rest st : List Value} {y : MethodName} {bytes : ByteArray} {maxL mc ms n index : Nat} {wsC ws0 : List Cond} {rm : Room} {As : List Value} {S : Type} {post : S → Prop} {wf : S → va_W} {wc pre suf : va_W} (hC : Cx X l R D cl tys A cc nL own Ts ret0) (hd : decode cc pc = .ok (.invokestatic index, 3)) (hM : CV l D cl tys y wsC rm mc ms As wc post wf) (hG : GoodIn Ts (va_wsS own index y wsC)) (hw : wsC = Cond.code y bytes maxL none :: ws0) (hrm : rm.cells = mc ∧ rm.slots = ms) (hy : y.cls ≠ "java/lang/invoke/MethodHandle" ∧ y.cls ≠ "java/lang/invoke/VarHandle" ∧ (parseMethodDescriptor y.desc).map (fun d => d.parameters.length) = some n) (hR : rm.frames + 1 ≤ R.frames ∧ 8 + (maxL + 11) + rm.locals ≤ R.locals) (hroom : kc + mc ≤ R.cells ∧ ks + ms ≤ R.slots) (hws : ws = pre ++ (wc ++ suf)) (hn : As.length = n) (hst : st = As.reverse ++ rest) (hcat : (rest.map fun v => v.category).sum ≤ 8) (hq : pc + 3 = q) (k : ∀ (u : S), post u → V X (kc + mc) (ks + ms) (pre ++ (wf u ++ suf)) lv q (rest)) : V X kc ks ws lv pc st := by
  obtain ⟨p, l, e, R, s, m, args, below, meth, c, D, cl, A, Q, nL⟩ := X
  obtain ⟨rfl, rfl, rfl, rfl, rfl, rfl, hF, hK, hA, hr, hlk, hNs⟩ := hC
  obtain ⟨hx, hb, hml, hown, hts⟩ := hF
  subst hq hst hws
  intro H locs ls hP hD hS hl
  have hPc : va_P D cl wc H := P_iff.mpr fun q hq => P_iff.mp hP q (by simp [hq])
  have hD2 := D_iff.mp hD
  have hDc : va_D A wc := D_iff.mpr ⟨by have h := hD2.1; simp only [List.map_append, List.nodup_append] at h; exact h.2.1.1, fun q hq => hD2.2 q (by simp [hq])⟩
  have hFc : ∀ q, va_A wc H.size q → A q := by
    rintro q (⟨k, e, h⟩ | h)
    · exact hDc.2 k _ h
    · exact hA q (Nat.le_trans hS.1 h)
  refine va_callv (va_runS (As := As) (rest := rest) ⟨hx, hb, hml, hown, hts⟩ (hM H.size) (va_cwS n hts hG hw hrm.1 hrm.2 hy hR) ⟨fun a U g mk z => by obtain ⟨z0, z1, z2, z3, z4, z5⟩ := z; exact ⟨z0, z1, z2, va_K.moved (u := U) (U := U.calling g mk a) (Vm.Alike.refl U.vm) z3, z4, ⟨fun w hw => va_Nw.same (by rfl) (rfl : U.vm = (U.calling g mk a).vm) (z5.1 w hw), va_AO.moved (u := U) (U := U.calling g mk a) (Vm.Alike.refl U.vm) z5.2⟩⟩, fun U hU hW => ⟨rfl, by rw [hU], by rw [hU]; exact hPc, va_K.moved hW.alike hK, hDc.weaken (fun _ _ _ _ => trivial), hNs.warm hW⟩⟩ rfl hn hl.1 rfl (lv_room hcat) hd hroom) hS (fun q _ h => hFc q h) hFc (fun u t H1 locs ht hvm hw hB hz1 hk1 hS => ?_)
  obtain ⟨hP1, hK1, hD1⟩ := hB
  rw [ht] at hP1
  obtain ⟨hP2, hD2⟩ := fr_call hP hD hFc hk1 hP1 hD1
  exact k u hw H1 locs ls hP2 hD2 hS hl
theorem V_callVS {X : VC} {l : Launch} {R : Room} {D : va_G} {cl : List vw_C} {tys : List (ClassId × FieldType)} {A : Nat → Prop} {cc : ByteArray} {nL : Nat} {own : String} {Ts : List Cond} {ret0 : Option FieldType} {kc ks pc q : Nat} {ws : va_W} {lv : List (Nat × Value)} {rest st : List Value} {y : MethodName} {bytes : ByteArray} {maxL mc ms n index : Nat} {wsC ws0 : List Cond} {rm : Room} {As : List Value} {S : Type} {post : S → Prop} {wf : S → va_W} (hC : Cx X l R D cl tys A cc nL own Ts ret0) (hd : decode cc pc = .ok (.invokestatic index, 3)) (hM : CV l D cl tys y wsC rm mc ms As ws post wf) (hG : GoodIn Ts (va_wsS own index y wsC)) (hw : wsC = Cond.code y bytes maxL none :: ws0) (hrm : rm.cells = mc ∧ rm.slots = ms) (hy : y.cls ≠ "java/lang/invoke/MethodHandle" ∧ y.cls ≠ "java/lang/invoke/VarHandle" ∧ (parseMethodDescriptor y.desc).map (fun d => d.parameters.length) = some n) (hR : rm.frames + 1 ≤ R.frames ∧ 8 + (maxL + 11) + rm.locals ≤ R.locals) (hroom : kc + mc ≤ R.cells ∧ ks + ms ≤ R.slots) (hn : As.length = n) (hst : st = As.reverse ++ rest) (hcat : (rest.map fun v => v.category).sum ≤ 8) (hq : pc + 3 = q) (k : ∀ (u : S), post u → V X (kc + mc) (ks + ms) (wf u) lv q (rest)) : V X kc ks ws lv pc st :=
  V_callVSf hC hd hM hG hw hrm hy hR hroom (pre := []) (suf := []) (by simp) hn hst hcat hq (fun u h => by simpa using k u h)
theorem V_callVS0 {X : VC} {l : Launch} {R : Room} {D : va_G} {cl : List vw_C} {tys : List (ClassId × FieldType)} {A : Nat → Prop} {cc : ByteArray} {nL : Nat} {own : String} {Ts : List Cond} {ret0 : Option FieldType} {kc ks pc q : Nat} {ws : va_W} {lv : List (Nat × Value)} {rest st : List Value} {y : MethodName} {bytes : ByteArray} {maxL mc ms n index : Nat} {wsC ws0 : List Cond} {rm : Room} {As : List Value} {S : Type} {post : S → Prop} (hC : Cx X l R D cl tys A cc nL own Ts ret0) (hd : decode cc pc = .ok (.invokestatic index, 3)) (hM : CV l D cl tys y wsC rm mc ms As [] post (fun _ => [])) (hG : GoodIn Ts (va_wsS own index y wsC)) (hw : wsC = Cond.code y bytes maxL none :: ws0) (hrm : rm.cells = mc ∧ rm.slots = ms) (hy : y.cls ≠ "java/lang/invoke/MethodHandle" ∧ y.cls ≠ "java/lang/invoke/VarHandle" ∧ (parseMethodDescriptor y.desc).map (fun d => d.parameters.length) = some n) (hR : rm.frames + 1 ≤ R.frames ∧ 8 + (maxL + 11) + rm.locals ≤ R.locals) (hroom : kc + mc ≤ R.cells ∧ ks + ms ≤ R.slots) (hn : As.length = n) (hst : st = As.reverse ++ rest) (hcat : (rest.map fun v => v.category).sum ≤ 8) (hq : pc + 3 = q) (k : ∀ (u : S), post u → V X (kc + mc) (ks + ms) ws lv q (rest)) : V X kc ks ws lv pc st :=
  V_callVSf hC hd hM hG hw hrm hy hR hroom (pre := ws) (suf := []) (by simp) hn hst hcat hq (fun u h => by simpa using k u h)
theorem V_callINf {X : VC} {l : Launch} {R : Room} {D : va_G} {cl : List vw_C} {tys : List (ClassId × FieldType)} {A : Nat → Prop} {cc : ByteArray} {nL : Nat} {own : String} {Ts : List Cond} {ret0 : Option FieldType} {kc ks pc q : Nat} {ws : va_W} {lv : List (Nat × Value)} {rest st : List Value} {y : MethodName} {bytes : ByteArray} {maxL mc ms n index : Nat} {wsC ws0 : List Cond} {rm : Room} {As : List Value} {S : Type} {post : Int32 → S → Prop} {wf : S → va_W} {rt : FieldType} {wc pre suf : va_W} (hC : Cx X l R D cl tys A cc nL own Ts ret0) (hd : decode cc pc = .ok (.invokestatic index, 3)) (hM : CI l D cl tys y wsC rm mc ms As wc post wf) {host : String} (hG : GoodIn Ts wsC) (hne : (own, index, y, host) ∈ nstL) (hini : Cond.initialized y.cls ∈ Ts) (hsta : Cond.static y ∈ Ts) (hw : wsC = Cond.code y bytes maxL (some rt) :: ws0) (hrm : rm.cells = mc ∧ rm.slots = ms) (hy : y.cls ≠ "java/lang/invoke/MethodHandle" ∧ y.cls ≠ "java/lang/invoke/VarHandle" ∧ (parseMethodDescriptor y.desc).map (fun d => d.parameters.length) = some n) (hR : rm.frames + 1 ≤ R.frames ∧ 8 + (maxL + 11) + rm.locals ≤ R.locals) (hroom : kc + mc ≤ R.cells ∧ ks + ms ≤ R.slots) (hws : ws = pre ++ (wc ++ suf)) (hn : As.length = n) (hst : st = As.reverse ++ rest) (hcat : (rest.map fun v => v.category).sum ≤ 8) (hq : pc + 3 = q) (k : ∀ (r : Int32) (u : S), post r u → V X (kc + mc) (ks + ms) (pre ++ (wf u ++ suf)) lv q (.int r :: rest)) : V X kc ks ws lv pc st := by
  obtain ⟨p, l, e, R, s, m, args, below, meth, c, D, cl, A, Q, nL⟩ := X
  obtain ⟨rfl, rfl, rfl, rfl, rfl, rfl, hF, hK, hA, hr, hlk, hNs⟩ := hC
  obtain ⟨hx, hb, hml, hown, hts⟩ := hF
  subst hq hst hws
  intro H locs ls hP hD hS hl
  have hPc : va_P D cl wc H := P_iff.mpr fun q hq => P_iff.mp hP q (by simp [hq])
  have hD2 := D_iff.mp hD
  have hDc : va_D A wc := D_iff.mpr ⟨by have h := hD2.1; simp only [List.map_append, List.nodup_append] at h; exact h.2.1.1, fun q hq => hD2.2 q (by simp [hq])⟩
  have hFc : ∀ q, va_A wc H.size q → A q := by
    rintro q (⟨k, e, h⟩ | h)
    · exact hDc.2 k _ h
    · exact hA q (Nat.le_trans hS.1 h)
  refine va_calli (va_runSN (As := As) (rest := rest) ⟨hx, hb, hml, hown, hts⟩ (hM H.size) (⟨va_cnB n hts hG hw hrm.1 hrm.2 (hNs.1 _ hne) (hts _ hini) hy hR, hts _ hsta, trivial⟩) ⟨fun a U g mk z => by obtain ⟨z0, z1, z2, z3, z4, z5⟩ := z; exact ⟨z0, z1, z2, va_K.moved (u := U) (U := U.calling g mk a) (Vm.Alike.refl U.vm) z3, z4, ⟨fun w hw => va_Nw.same (by rfl) (rfl : U.vm = (U.calling g mk a).vm) (z5.1 w hw), va_AO.moved (u := U) (U := U.calling g mk a) (Vm.Alike.refl U.vm) z5.2⟩⟩, fun U hU hW => ⟨rfl, by rw [hU], by rw [hU]; exact hPc, va_K.moved hW.alike hK, hDc.weaken (fun _ _ _ _ => trivial), hNs.warm hW⟩⟩ rfl hn hl.1 rfl (lv_room hcat) hd hroom) hS (fun q _ h => hFc q h) hFc (fun r u t H1 locs ht hvm hw hB hz1 hk1 hS => ?_)
  obtain ⟨hP1, hK1, hD1⟩ := hB
  rw [ht] at hP1
  obtain ⟨hP2, hD2⟩ := fr_call hP hD hFc hk1 hP1 hD1
  exact k r u hw H1 locs ls hP2 hD2 hS hl
theorem V_callIN {X : VC} {l : Launch} {R : Room} {D : va_G} {cl : List vw_C} {tys : List (ClassId × FieldType)} {A : Nat → Prop} {cc : ByteArray} {nL : Nat} {own : String} {Ts : List Cond} {ret0 : Option FieldType} {kc ks pc q : Nat} {ws : va_W} {lv : List (Nat × Value)} {rest st : List Value} {y : MethodName} {bytes : ByteArray} {maxL mc ms n index : Nat} {wsC ws0 : List Cond} {rm : Room} {As : List Value} {S : Type} {post : Int32 → S → Prop} {wf : S → va_W} {rt : FieldType} (hC : Cx X l R D cl tys A cc nL own Ts ret0) (hd : decode cc pc = .ok (.invokestatic index, 3)) (hM : CI l D cl tys y wsC rm mc ms As ws post wf) {host : String} (hG : GoodIn Ts wsC) (hne : (own, index, y, host) ∈ nstL) (hini : Cond.initialized y.cls ∈ Ts) (hsta : Cond.static y ∈ Ts) (hw : wsC = Cond.code y bytes maxL (some rt) :: ws0) (hrm : rm.cells = mc ∧ rm.slots = ms) (hy : y.cls ≠ "java/lang/invoke/MethodHandle" ∧ y.cls ≠ "java/lang/invoke/VarHandle" ∧ (parseMethodDescriptor y.desc).map (fun d => d.parameters.length) = some n) (hR : rm.frames + 1 ≤ R.frames ∧ 8 + (maxL + 11) + rm.locals ≤ R.locals) (hroom : kc + mc ≤ R.cells ∧ ks + ms ≤ R.slots) (hn : As.length = n) (hst : st = As.reverse ++ rest) (hcat : (rest.map fun v => v.category).sum ≤ 8) (hq : pc + 3 = q) (k : ∀ (r : Int32) (u : S), post r u → V X (kc + mc) (ks + ms) (wf u) lv q (.int r :: rest)) : V X kc ks ws lv pc st :=
  V_callINf hC hd hM hG hne hini hsta hw hrm hy hR hroom (pre := []) (suf := []) (by simp) hn hst hcat hq (fun r u h => by simpa using k r u h)
theorem V_callIN0 {X : VC} {l : Launch} {R : Room} {D : va_G} {cl : List vw_C} {tys : List (ClassId × FieldType)} {A : Nat → Prop} {cc : ByteArray} {nL : Nat} {own : String} {Ts : List Cond} {ret0 : Option FieldType} {kc ks pc q : Nat} {ws : va_W} {lv : List (Nat × Value)} {rest st : List Value} {y : MethodName} {bytes : ByteArray} {maxL mc ms n index : Nat} {wsC ws0 : List Cond} {rm : Room} {As : List Value} {S : Type} {post : Int32 → S → Prop} {rt : FieldType} (hC : Cx X l R D cl tys A cc nL own Ts ret0) (hd : decode cc pc = .ok (.invokestatic index, 3)) (hM : CI l D cl tys y wsC rm mc ms As [] post (fun _ => [])) {host : String} (hG : GoodIn Ts wsC) (hne : (own, index, y, host) ∈ nstL) (hini : Cond.initialized y.cls ∈ Ts) (hsta : Cond.static y ∈ Ts) (hw : wsC = Cond.code y bytes maxL (some rt) :: ws0) (hrm : rm.cells = mc ∧ rm.slots = ms) (hy : y.cls ≠ "java/lang/invoke/MethodHandle" ∧ y.cls ≠ "java/lang/invoke/VarHandle" ∧ (parseMethodDescriptor y.desc).map (fun d => d.parameters.length) = some n) (hR : rm.frames + 1 ≤ R.frames ∧ 8 + (maxL + 11) + rm.locals ≤ R.locals) (hroom : kc + mc ≤ R.cells ∧ ks + ms ≤ R.slots) (hn : As.length = n) (hst : st = As.reverse ++ rest) (hcat : (rest.map fun v => v.category).sum ≤ 8) (hq : pc + 3 = q) (k : ∀ (r : Int32) (u : S), post r u → V X (kc + mc) (ks + ms) ws lv q (.int r :: rest)) : V X kc ks ws lv pc st :=
  V_callINf hC hd hM hG hne hini hsta hw hrm hy hR hroom (pre := ws) (suf := []) (by simp) hn hst hcat hq (fun r u h => by simpa using k r u h)
theorem V_callLNf {X : VC} {l : Launch} {R : Room} {D : va_G} {cl : List vw_C} {tys : List (ClassId × FieldType)} {A : Nat → Prop} {cc : ByteArray} {nL : Nat} {own : String} {Ts : List Cond} {ret0 : Option FieldType} {kc ks pc q : Nat} {ws : va_W} {lv : List (Nat × Value)} {rest st : List Value} {y : MethodName} {bytes : ByteArray} {maxL mc ms n index : Nat} {wsC ws0 : List Cond} {rm : Room} {As : List Value} {S : Type} {post : Int64 → S → Prop} {wf : S → va_W} {wc pre suf : va_W} (hC : Cx X l R D cl tys A cc nL own Ts ret0) (hd : decode cc pc = .ok (.invokestatic index, 3)) (hM : CL l D cl tys y wsC rm mc ms As wc post wf) {host : String} (hG : GoodIn Ts wsC) (hne : (own, index, y, host) ∈ nstL) (hini : Cond.initialized y.cls ∈ Ts) (hsta : Cond.static y ∈ Ts) (hw : wsC = Cond.code y bytes maxL (some .long) :: ws0) (hrm : rm.cells = mc ∧ rm.slots = ms) (hy : y.cls ≠ "java/lang/invoke/MethodHandle" ∧ y.cls ≠ "java/lang/invoke/VarHandle" ∧ (parseMethodDescriptor y.desc).map (fun d => d.parameters.length) = some n) (hR : rm.frames + 1 ≤ R.frames ∧ 8 + (maxL + 11) + rm.locals ≤ R.locals) (hroom : kc + mc ≤ R.cells ∧ ks + ms ≤ R.slots) (hws : ws = pre ++ (wc ++ suf)) (hn : As.length = n) (hst : st = As.reverse ++ rest) (hcat : (rest.map fun v => v.category).sum ≤ 8) (hq : pc + 3 = q) (k : ∀ (r : Int64) (u : S), post r u → V X (kc + mc) (ks + ms) (pre ++ (wf u ++ suf)) lv q (.long r :: rest)) : V X kc ks ws lv pc st := by
  obtain ⟨p, l, e, R, s, m, args, below, meth, c, D, cl, A, Q, nL⟩ := X
  obtain ⟨rfl, rfl, rfl, rfl, rfl, rfl, hF, hK, hA, hr, hlk, hNs⟩ := hC
  obtain ⟨hx, hb, hml, hown, hts⟩ := hF
  subst hq hst hws
  intro H locs ls hP hD hS hl
  have hPc : va_P D cl wc H := P_iff.mpr fun q hq => P_iff.mp hP q (by simp [hq])
  have hD2 := D_iff.mp hD
  have hDc : va_D A wc := D_iff.mpr ⟨by have h := hD2.1; simp only [List.map_append, List.nodup_append] at h; exact h.2.1.1, fun q hq => hD2.2 q (by simp [hq])⟩
  have hFc : ∀ q, va_A wc H.size q → A q := by
    rintro q (⟨k, e, h⟩ | h)
    · exact hDc.2 k _ h
    · exact hA q (Nat.le_trans hS.1 h)
  refine va_calll (va_runSN (As := As) (rest := rest) ⟨hx, hb, hml, hown, hts⟩ (hM H.size) (⟨va_cnB n hts hG hw hrm.1 hrm.2 (hNs.1 _ hne) (hts _ hini) hy hR, hts _ hsta, trivial⟩) ⟨fun a U g mk z => by obtain ⟨z0, z1, z2, z3, z4, z5⟩ := z; exact ⟨z0, z1, z2, va_K.moved (u := U) (U := U.calling g mk a) (Vm.Alike.refl U.vm) z3, z4, ⟨fun w hw => va_Nw.same (by rfl) (rfl : U.vm = (U.calling g mk a).vm) (z5.1 w hw), va_AO.moved (u := U) (U := U.calling g mk a) (Vm.Alike.refl U.vm) z5.2⟩⟩, fun U hU hW => ⟨rfl, by rw [hU], by rw [hU]; exact hPc, va_K.moved hW.alike hK, hDc.weaken (fun _ _ _ _ => trivial), hNs.warm hW⟩⟩ rfl hn hl.1 rfl (lv_room hcat) hd hroom) hS (fun q _ h => hFc q h) hFc (fun r u t H1 locs ht hvm hw hB hz1 hk1 hS => ?_)
  obtain ⟨hP1, hK1, hD1⟩ := hB
  rw [ht] at hP1
  obtain ⟨hP2, hD2⟩ := fr_call hP hD hFc hk1 hP1 hD1
  exact k r u hw H1 locs ls hP2 hD2 hS hl
theorem V_callLN {X : VC} {l : Launch} {R : Room} {D : va_G} {cl : List vw_C} {tys : List (ClassId × FieldType)} {A : Nat → Prop} {cc : ByteArray} {nL : Nat} {own : String} {Ts : List Cond} {ret0 : Option FieldType} {kc ks pc q : Nat} {ws : va_W} {lv : List (Nat × Value)} {rest st : List Value} {y : MethodName} {bytes : ByteArray} {maxL mc ms n index : Nat} {wsC ws0 : List Cond} {rm : Room} {As : List Value} {S : Type} {post : Int64 → S → Prop} {wf : S → va_W} (hC : Cx X l R D cl tys A cc nL own Ts ret0) (hd : decode cc pc = .ok (.invokestatic index, 3)) (hM : CL l D cl tys y wsC rm mc ms As ws post wf) {host : String} (hG : GoodIn Ts wsC) (hne : (own, index, y, host) ∈ nstL) (hini : Cond.initialized y.cls ∈ Ts) (hsta : Cond.static y ∈ Ts) (hw : wsC = Cond.code y bytes maxL (some .long) :: ws0) (hrm : rm.cells = mc ∧ rm.slots = ms) (hy : y.cls ≠ "java/lang/invoke/MethodHandle" ∧ y.cls ≠ "java/lang/invoke/VarHandle" ∧ (parseMethodDescriptor y.desc).map (fun d => d.parameters.length) = some n) (hR : rm.frames + 1 ≤ R.frames ∧ 8 + (maxL + 11) + rm.locals ≤ R.locals) (hroom : kc + mc ≤ R.cells ∧ ks + ms ≤ R.slots) (hn : As.length = n) (hst : st = As.reverse ++ rest) (hcat : (rest.map fun v => v.category).sum ≤ 8) (hq : pc + 3 = q) (k : ∀ (r : Int64) (u : S), post r u → V X (kc + mc) (ks + ms) (wf u) lv q (.long r :: rest)) : V X kc ks ws lv pc st :=
  V_callLNf hC hd hM hG hne hini hsta hw hrm hy hR hroom (pre := []) (suf := []) (by simp) hn hst hcat hq (fun r u h => by simpa using k r u h)
theorem V_callLN0 {X : VC} {l : Launch} {R : Room} {D : va_G} {cl : List vw_C} {tys : List (ClassId × FieldType)} {A : Nat → Prop} {cc : ByteArray} {nL : Nat} {own : String} {Ts : List Cond} {ret0 : Option FieldType} {kc ks pc q : Nat} {ws : va_W} {lv : List (Nat × Value)} {rest st : List Value} {y : MethodName} {bytes : ByteArray} {maxL mc ms n index : Nat} {wsC ws0 : List Cond} {rm : Room} {As : List Value} {S : Type} {post : Int64 → S → Prop} (hC : Cx X l R D cl tys A cc nL own Ts ret0) (hd : decode cc pc = .ok (.invokestatic index, 3)) (hM : CL l D cl tys y wsC rm mc ms As [] post (fun _ => [])) {host : String} (hG : GoodIn Ts wsC) (hne : (own, index, y, host) ∈ nstL) (hini : Cond.initialized y.cls ∈ Ts) (hsta : Cond.static y ∈ Ts) (hw : wsC = Cond.code y bytes maxL (some .long) :: ws0) (hrm : rm.cells = mc ∧ rm.slots = ms) (hy : y.cls ≠ "java/lang/invoke/MethodHandle" ∧ y.cls ≠ "java/lang/invoke/VarHandle" ∧ (parseMethodDescriptor y.desc).map (fun d => d.parameters.length) = some n) (hR : rm.frames + 1 ≤ R.frames ∧ 8 + (maxL + 11) + rm.locals ≤ R.locals) (hroom : kc + mc ≤ R.cells ∧ ks + ms ≤ R.slots) (hn : As.length = n) (hst : st = As.reverse ++ rest) (hcat : (rest.map fun v => v.category).sum ≤ 8) (hq : pc + 3 = q) (k : ∀ (r : Int64) (u : S), post r u → V X (kc + mc) (ks + ms) ws lv q (.long r :: rest)) : V X kc ks ws lv pc st :=
  V_callLNf hC hd hM hG hne hini hsta hw hrm hy hR hroom (pre := ws) (suf := []) (by simp) hn hst hcat hq (fun r u h => by simpa using k r u h)
theorem V_callDNf {X : VC} {l : Launch} {R : Room} {D : va_G} {cl : List vw_C} {tys : List (ClassId × FieldType)} {A : Nat → Prop} {cc : ByteArray} {nL : Nat} {own : String} {Ts : List Cond} {ret0 : Option FieldType} {kc ks pc q : Nat} {ws : va_W} {lv : List (Nat × Value)} {rest st : List Value} {y : MethodName} {bytes : ByteArray} {maxL mc ms n index : Nat} {wsC ws0 : List Cond} {rm : Room} {As : List Value} {S : Type} {post : UInt64 → S → Prop} {wf : S → va_W} {wc pre suf : va_W} (hC : Cx X l R D cl tys A cc nL own Ts ret0) (hd : decode cc pc = .ok (.invokestatic index, 3)) (hM : CD l D cl tys y wsC rm mc ms As wc post wf) {host : String} (hG : GoodIn Ts wsC) (hne : (own, index, y, host) ∈ nstL) (hini : Cond.initialized y.cls ∈ Ts) (hsta : Cond.static y ∈ Ts) (hw : wsC = Cond.code y bytes maxL (some .double) :: ws0) (hrm : rm.cells = mc ∧ rm.slots = ms) (hy : y.cls ≠ "java/lang/invoke/MethodHandle" ∧ y.cls ≠ "java/lang/invoke/VarHandle" ∧ (parseMethodDescriptor y.desc).map (fun d => d.parameters.length) = some n) (hR : rm.frames + 1 ≤ R.frames ∧ 8 + (maxL + 11) + rm.locals ≤ R.locals) (hroom : kc + mc ≤ R.cells ∧ ks + ms ≤ R.slots) (hws : ws = pre ++ (wc ++ suf)) (hn : As.length = n) (hst : st = As.reverse ++ rest) (hcat : (rest.map fun v => v.category).sum ≤ 8) (hq : pc + 3 = q) (k : ∀ (r : UInt64) (u : S), post r u → V X (kc + mc) (ks + ms) (pre ++ (wf u ++ suf)) lv q (.double r :: rest)) : V X kc ks ws lv pc st := by
  obtain ⟨p, l, e, R, s, m, args, below, meth, c, D, cl, A, Q, nL⟩ := X
  obtain ⟨rfl, rfl, rfl, rfl, rfl, rfl, hF, hK, hA, hr, hlk, hNs⟩ := hC
  obtain ⟨hx, hb, hml, hown, hts⟩ := hF
  subst hq hst hws
  intro H locs ls hP hD hS hl
  have hPc : va_P D cl wc H := P_iff.mpr fun q hq => P_iff.mp hP q (by simp [hq])
  have hD2 := D_iff.mp hD
  have hDc : va_D A wc := D_iff.mpr ⟨by have h := hD2.1; simp only [List.map_append, List.nodup_append] at h; exact h.2.1.1, fun q hq => hD2.2 q (by simp [hq])⟩
  have hFc : ∀ q, va_A wc H.size q → A q := by
    rintro q (⟨k, e, h⟩ | h)
    · exact hDc.2 k _ h
    · exact hA q (Nat.le_trans hS.1 h)
  refine va_calld (va_runSN (As := As) (rest := rest) ⟨hx, hb, hml, hown, hts⟩ (hM H.size) (⟨va_cnB n hts hG hw hrm.1 hrm.2 (hNs.1 _ hne) (hts _ hini) hy hR, hts _ hsta, trivial⟩) ⟨fun a U g mk z => by obtain ⟨z0, z1, z2, z3, z4, z5⟩ := z; exact ⟨z0, z1, z2, va_K.moved (u := U) (U := U.calling g mk a) (Vm.Alike.refl U.vm) z3, z4, ⟨fun w hw => va_Nw.same (by rfl) (rfl : U.vm = (U.calling g mk a).vm) (z5.1 w hw), va_AO.moved (u := U) (U := U.calling g mk a) (Vm.Alike.refl U.vm) z5.2⟩⟩, fun U hU hW => ⟨rfl, by rw [hU], by rw [hU]; exact hPc, va_K.moved hW.alike hK, hDc.weaken (fun _ _ _ _ => trivial), hNs.warm hW⟩⟩ rfl hn hl.1 rfl (lv_room hcat) hd hroom) hS (fun q _ h => hFc q h) hFc (fun r u t H1 locs ht hvm hw hB hz1 hk1 hS => ?_)
  obtain ⟨hP1, hK1, hD1⟩ := hB
  rw [ht] at hP1
  obtain ⟨hP2, hD2⟩ := fr_call hP hD hFc hk1 hP1 hD1
  exact k r u hw H1 locs ls hP2 hD2 hS hl
theorem V_callDN {X : VC} {l : Launch} {R : Room} {D : va_G} {cl : List vw_C} {tys : List (ClassId × FieldType)} {A : Nat → Prop} {cc : ByteArray} {nL : Nat} {own : String} {Ts : List Cond} {ret0 : Option FieldType} {kc ks pc q : Nat} {ws : va_W} {lv : List (Nat × Value)} {rest st : List Value} {y : MethodName} {bytes : ByteArray} {maxL mc ms n index : Nat} {wsC ws0 : List Cond} {rm : Room} {As : List Value} {S : Type} {post : UInt64 → S → Prop} {wf : S → va_W} (hC : Cx X l R D cl tys A cc nL own Ts ret0) (hd : decode cc pc = .ok (.invokestatic index, 3)) (hM : CD l D cl tys y wsC rm mc ms As ws post wf) {host : String} (hG : GoodIn Ts wsC) (hne : (own, index, y, host) ∈ nstL) (hini : Cond.initialized y.cls ∈ Ts) (hsta : Cond.static y ∈ Ts) (hw : wsC = Cond.code y bytes maxL (some .double) :: ws0) (hrm : rm.cells = mc ∧ rm.slots = ms) (hy : y.cls ≠ "java/lang/invoke/MethodHandle" ∧ y.cls ≠ "java/lang/invoke/VarHandle" ∧ (parseMethodDescriptor y.desc).map (fun d => d.parameters.length) = some n) (hR : rm.frames + 1 ≤ R.frames ∧ 8 + (maxL + 11) + rm.locals ≤ R.locals) (hroom : kc + mc ≤ R.cells ∧ ks + ms ≤ R.slots) (hn : As.length = n) (hst : st = As.reverse ++ rest) (hcat : (rest.map fun v => v.category).sum ≤ 8) (hq : pc + 3 = q) (k : ∀ (r : UInt64) (u : S), post r u → V X (kc + mc) (ks + ms) (wf u) lv q (.double r :: rest)) : V X kc ks ws lv pc st :=
  V_callDNf hC hd hM hG hne hini hsta hw hrm hy hR hroom (pre := []) (suf := []) (by simp) hn hst hcat hq (fun r u h => by simpa using k r u h)
theorem V_callDN0 {X : VC} {l : Launch} {R : Room} {D : va_G} {cl : List vw_C} {tys : List (ClassId × FieldType)} {A : Nat → Prop} {cc : ByteArray} {nL : Nat} {own : String} {Ts : List Cond} {ret0 : Option FieldType} {kc ks pc q : Nat} {ws : va_W} {lv : List (Nat × Value)} {rest st : List Value} {y : MethodName} {bytes : ByteArray} {maxL mc ms n index : Nat} {wsC ws0 : List Cond} {rm : Room} {As : List Value} {S : Type} {post : UInt64 → S → Prop} (hC : Cx X l R D cl tys A cc nL own Ts ret0) (hd : decode cc pc = .ok (.invokestatic index, 3)) (hM : CD l D cl tys y wsC rm mc ms As [] post (fun _ => [])) {host : String} (hG : GoodIn Ts wsC) (hne : (own, index, y, host) ∈ nstL) (hini : Cond.initialized y.cls ∈ Ts) (hsta : Cond.static y ∈ Ts) (hw : wsC = Cond.code y bytes maxL (some .double) :: ws0) (hrm : rm.cells = mc ∧ rm.slots = ms) (hy : y.cls ≠ "java/lang/invoke/MethodHandle" ∧ y.cls ≠ "java/lang/invoke/VarHandle" ∧ (parseMethodDescriptor y.desc).map (fun d => d.parameters.length) = some n) (hR : rm.frames + 1 ≤ R.frames ∧ 8 + (maxL + 11) + rm.locals ≤ R.locals) (hroom : kc + mc ≤ R.cells ∧ ks + ms ≤ R.slots) (hn : As.length = n) (hst : st = As.reverse ++ rest) (hcat : (rest.map fun v => v.category).sum ≤ 8) (hq : pc + 3 = q) (k : ∀ (r : UInt64) (u : S), post r u → V X (kc + mc) (ks + ms) ws lv q (.double r :: rest)) : V X kc ks ws lv pc st :=
  V_callDNf hC hd hM hG hne hini hsta hw hrm hy hR hroom (pre := ws) (suf := []) (by simp) hn hst hcat hq (fun r u h => by simpa using k r u h)
theorem V_callVNf {X : VC} {l : Launch} {R : Room} {D : va_G} {cl : List vw_C} {tys : List (ClassId × FieldType)} {A : Nat → Prop} {cc : ByteArray} {nL : Nat} {own : String} {Ts : List Cond} {ret0 : Option FieldType} {kc ks pc q : Nat} {ws : va_W} {lv : List (Nat × Value)} {rest st : List Value} {y : MethodName} {bytes : ByteArray} {maxL mc ms n index : Nat} {wsC ws0 : List Cond} {rm : Room} {As : List Value} {S : Type} {post : S → Prop} {wf : S → va_W} {wc pre suf : va_W} (hC : Cx X l R D cl tys A cc nL own Ts ret0) (hd : decode cc pc = .ok (.invokestatic index, 3)) (hM : CV l D cl tys y wsC rm mc ms As wc post wf) {host : String} (hG : GoodIn Ts wsC) (hne : (own, index, y, host) ∈ nstL) (hini : Cond.initialized y.cls ∈ Ts) (hsta : Cond.static y ∈ Ts) (hw : wsC = Cond.code y bytes maxL none :: ws0) (hrm : rm.cells = mc ∧ rm.slots = ms) (hy : y.cls ≠ "java/lang/invoke/MethodHandle" ∧ y.cls ≠ "java/lang/invoke/VarHandle" ∧ (parseMethodDescriptor y.desc).map (fun d => d.parameters.length) = some n) (hR : rm.frames + 1 ≤ R.frames ∧ 8 + (maxL + 11) + rm.locals ≤ R.locals) (hroom : kc + mc ≤ R.cells ∧ ks + ms ≤ R.slots) (hws : ws = pre ++ (wc ++ suf)) (hn : As.length = n) (hst : st = As.reverse ++ rest) (hcat : (rest.map fun v => v.category).sum ≤ 8) (hq : pc + 3 = q) (k : ∀ (u : S), post u → V X (kc + mc) (ks + ms) (pre ++ (wf u ++ suf)) lv q (rest)) : V X kc ks ws lv pc st := by
  obtain ⟨p, l, e, R, s, m, args, below, meth, c, D, cl, A, Q, nL⟩ := X
  obtain ⟨rfl, rfl, rfl, rfl, rfl, rfl, hF, hK, hA, hr, hlk, hNs⟩ := hC
  obtain ⟨hx, hb, hml, hown, hts⟩ := hF
  subst hq hst hws
  intro H locs ls hP hD hS hl
  have hPc : va_P D cl wc H := P_iff.mpr fun q hq => P_iff.mp hP q (by simp [hq])
  have hD2 := D_iff.mp hD
  have hDc : va_D A wc := D_iff.mpr ⟨by have h := hD2.1; simp only [List.map_append, List.nodup_append] at h; exact h.2.1.1, fun q hq => hD2.2 q (by simp [hq])⟩
  have hFc : ∀ q, va_A wc H.size q → A q := by
    rintro q (⟨k, e, h⟩ | h)
    · exact hDc.2 k _ h
    · exact hA q (Nat.le_trans hS.1 h)
  refine va_callv (va_runSN (As := As) (rest := rest) ⟨hx, hb, hml, hown, hts⟩ (hM H.size) (⟨va_cnB n hts hG hw hrm.1 hrm.2 (hNs.1 _ hne) (hts _ hini) hy hR, hts _ hsta, trivial⟩) ⟨fun a U g mk z => by obtain ⟨z0, z1, z2, z3, z4, z5⟩ := z; exact ⟨z0, z1, z2, va_K.moved (u := U) (U := U.calling g mk a) (Vm.Alike.refl U.vm) z3, z4, ⟨fun w hw => va_Nw.same (by rfl) (rfl : U.vm = (U.calling g mk a).vm) (z5.1 w hw), va_AO.moved (u := U) (U := U.calling g mk a) (Vm.Alike.refl U.vm) z5.2⟩⟩, fun U hU hW => ⟨rfl, by rw [hU], by rw [hU]; exact hPc, va_K.moved hW.alike hK, hDc.weaken (fun _ _ _ _ => trivial), hNs.warm hW⟩⟩ rfl hn hl.1 rfl (lv_room hcat) hd hroom) hS (fun q _ h => hFc q h) hFc (fun u t H1 locs ht hvm hw hB hz1 hk1 hS => ?_)
  obtain ⟨hP1, hK1, hD1⟩ := hB
  rw [ht] at hP1
  obtain ⟨hP2, hD2⟩ := fr_call hP hD hFc hk1 hP1 hD1
  exact k u hw H1 locs ls hP2 hD2 hS hl
theorem V_callVN {X : VC} {l : Launch} {R : Room} {D : va_G} {cl : List vw_C} {tys : List (ClassId × FieldType)} {A : Nat → Prop} {cc : ByteArray} {nL : Nat} {own : String} {Ts : List Cond} {ret0 : Option FieldType} {kc ks pc q : Nat} {ws : va_W} {lv : List (Nat × Value)} {rest st : List Value} {y : MethodName} {bytes : ByteArray} {maxL mc ms n index : Nat} {wsC ws0 : List Cond} {rm : Room} {As : List Value} {S : Type} {post : S → Prop} {wf : S → va_W} (hC : Cx X l R D cl tys A cc nL own Ts ret0) (hd : decode cc pc = .ok (.invokestatic index, 3)) (hM : CV l D cl tys y wsC rm mc ms As ws post wf) {host : String} (hG : GoodIn Ts wsC) (hne : (own, index, y, host) ∈ nstL) (hini : Cond.initialized y.cls ∈ Ts) (hsta : Cond.static y ∈ Ts) (hw : wsC = Cond.code y bytes maxL none :: ws0) (hrm : rm.cells = mc ∧ rm.slots = ms) (hy : y.cls ≠ "java/lang/invoke/MethodHandle" ∧ y.cls ≠ "java/lang/invoke/VarHandle" ∧ (parseMethodDescriptor y.desc).map (fun d => d.parameters.length) = some n) (hR : rm.frames + 1 ≤ R.frames ∧ 8 + (maxL + 11) + rm.locals ≤ R.locals) (hroom : kc + mc ≤ R.cells ∧ ks + ms ≤ R.slots) (hn : As.length = n) (hst : st = As.reverse ++ rest) (hcat : (rest.map fun v => v.category).sum ≤ 8) (hq : pc + 3 = q) (k : ∀ (u : S), post u → V X (kc + mc) (ks + ms) (wf u) lv q (rest)) : V X kc ks ws lv pc st :=
  V_callVNf hC hd hM hG hne hini hsta hw hrm hy hR hroom (pre := []) (suf := []) (by simp) hn hst hcat hq (fun u h => by simpa using k u h)
theorem V_callVN0 {X : VC} {l : Launch} {R : Room} {D : va_G} {cl : List vw_C} {tys : List (ClassId × FieldType)} {A : Nat → Prop} {cc : ByteArray} {nL : Nat} {own : String} {Ts : List Cond} {ret0 : Option FieldType} {kc ks pc q : Nat} {ws : va_W} {lv : List (Nat × Value)} {rest st : List Value} {y : MethodName} {bytes : ByteArray} {maxL mc ms n index : Nat} {wsC ws0 : List Cond} {rm : Room} {As : List Value} {S : Type} {post : S → Prop} (hC : Cx X l R D cl tys A cc nL own Ts ret0) (hd : decode cc pc = .ok (.invokestatic index, 3)) (hM : CV l D cl tys y wsC rm mc ms As [] post (fun _ => [])) {host : String} (hG : GoodIn Ts wsC) (hne : (own, index, y, host) ∈ nstL) (hini : Cond.initialized y.cls ∈ Ts) (hsta : Cond.static y ∈ Ts) (hw : wsC = Cond.code y bytes maxL none :: ws0) (hrm : rm.cells = mc ∧ rm.slots = ms) (hy : y.cls ≠ "java/lang/invoke/MethodHandle" ∧ y.cls ≠ "java/lang/invoke/VarHandle" ∧ (parseMethodDescriptor y.desc).map (fun d => d.parameters.length) = some n) (hR : rm.frames + 1 ≤ R.frames ∧ 8 + (maxL + 11) + rm.locals ≤ R.locals) (hroom : kc + mc ≤ R.cells ∧ ks + ms ≤ R.slots) (hn : As.length = n) (hst : st = As.reverse ++ rest) (hcat : (rest.map fun v => v.category).sum ≤ 8) (hq : pc + 3 = q) (k : ∀ (u : S), post u → V X (kc + mc) (ks + ms) ws lv q (rest)) : V X kc ks ws lv pc st :=
  V_callVNf hC hd hM hG hne hini hsta hw hrm hy hR hroom (pre := ws) (suf := []) (by simp) hn hst hcat hq (fun u h => by simpa using k u h)
theorem V_callVIf {X : VC} {l : Launch} {R : Room} {D : va_G} {cl : List vw_C} {tys : List (ClassId × FieldType)} {A : Nat → Prop} {cc : ByteArray} {nL : Nat} {own : String} {Ts : List Cond} {ret0 : Option FieldType} {kc ks pc q : Nat} {ws : va_W} {lv : List (Nat × Value)} {rest st : List Value} {y : MethodName} {bytes : ByteArray} {maxL mc ms n index : Nat} {wsC ws0 : List Cond} {rm : Room} {As : List Value} {S : Type} {post : S → Prop} {wf : S → va_W} {wc pre suf : va_W} {b : Nat} (hC : Cx X l R D cl tys A cc nL own Ts ret0) (hd : decode cc pc = .ok (.invokespecial index, 3)) (hM : CV l D cl tys y wsC rm mc ms (.ref b :: As) wc post wf) (hG : GoodIn Ts wsC) (hini : Cond.initialized y.cls ∈ Ts) (hmlk : Cond.methodLink own index y ∈ Ts) (hinm : Cond.instanceMethod y ∈ Ts) (hyn : y.name = "<init>") (hw : wsC = Cond.code y bytes maxL none :: ws0) (hrm : rm.cells = mc ∧ rm.slots = ms) (hy : y.cls ≠ "java/lang/invoke/MethodHandle" ∧ y.cls ≠ "java/lang/invoke/VarHandle" ∧ (parseMethodDescriptor y.desc).map (fun d => d.parameters.length) = some n) (hR : rm.frames + 1 ≤ R.frames ∧ 8 + (maxL + 11) + rm.locals ≤ R.locals) (hroom : kc + mc ≤ R.cells ∧ ks + ms ≤ R.slots) (hws : ws = pre ++ (wc ++ suf)) (hn : As.length = n) (hst : st = As.reverse ++ .ref b :: rest) (hcat : (rest.map fun v => v.category).sum ≤ 8) (hq : pc + 3 = q) (k : ∀ (u : S), post u → V X (kc + mc) (ks + ms) (pre ++ (wf u ++ suf)) lv q (rest)) : V X kc ks ws lv pc st := by
  obtain ⟨p, l, e, R, s, m, args, below, meth, c, D, cl, A, Q, nL⟩ := X
  obtain ⟨rfl, rfl, rfl, rfl, rfl, rfl, hF, hK, hA, hr, hlk, hNs⟩ := hC
  obtain ⟨hx, hb, hml, hown, hts⟩ := hF
  subst hq hst hws
  intro H locs ls hP hD hS hl
  have hPc : va_P D cl wc H := P_iff.mpr fun q hq => P_iff.mp hP q (by simp [hq])
  have hD2 := D_iff.mp hD
  have hDc : va_D A wc := D_iff.mpr ⟨by have h := hD2.1; simp only [List.map_append, List.nodup_append] at h; exact h.2.1.1, fun q hq => hD2.2 q (by simp [hq])⟩
  have hFc : ∀ q, va_A wc H.size q → A q := by
    rintro q (⟨k, e, h⟩ | h)
    · exact hDc.2 k _ h
    · exact hA q (Nat.le_trans hS.1 h)
  refine va_callv (va_runI (As := As) (rest := rest) ⟨hx, hb, hml, hown, hts⟩ (hM H.size) (cwI n hts hG hw hrm.1 hrm.2 (hts _ hini) (hts _ hmlk) (hts _ hinm) hyn hy hR) ⟨fun a U g mk z => by obtain ⟨z0, z1, z2, z3, z4, z5⟩ := z; exact ⟨z0, z1, z2, va_K.moved (u := U) (U := U.calling g mk a) (Vm.Alike.refl U.vm) z3, z4, ⟨fun w hw => va_Nw.same (by rfl) (rfl : U.vm = (U.calling g mk a).vm) (z5.1 w hw), va_AO.moved (u := U) (U := U.calling g mk a) (Vm.Alike.refl U.vm) z5.2⟩⟩, fun U hU hW => ⟨rfl, by rw [hU], by rw [hU]; exact hPc, va_K.moved hW.alike hK, hDc.weaken (fun _ _ _ _ => trivial), hNs.warm hW⟩⟩ rfl hn hl.1 rfl (lv_room hcat) hd hroom) hS (fun q _ h => hFc q h) hFc (fun u t H1 locs ht hvm hw hB hz1 hk1 hS => ?_)
  obtain ⟨hP1, hK1, hD1⟩ := hB
  rw [ht] at hP1
  obtain ⟨hP2, hD2⟩ := fr_call hP hD hFc hk1 hP1 hD1
  exact k u hw H1 locs ls hP2 hD2 hS hl
theorem V_callVJf {X : VC} {l : Launch} {R : Room} {D : va_G} {cl : List vw_C} {tys : List (ClassId × FieldType)} {A : Nat → Prop} {cc : ByteArray} {nL : Nat} {own : String} {Ts : List Cond} {ret0 : Option FieldType} {kc ks pc q : Nat} {ws : va_W} {lv : List (Nat × Value)} {rest st : List Value} {y : MethodName} {bytes : ByteArray} {maxL mc ms n index : Nat} {wsC ws0 : List Cond} {rm : Room} {As : List Value} {S : Type} {post : S → Prop} {wf : S → va_W} {wc pre suf : va_W} {b : Nat} (hC : Cx X l R D cl tys A cc nL own Ts ret0) (hd : decode cc pc = .ok (.invokespecial index, 3)) (hM : CV l D cl tys y wsC rm mc ms (.ref b :: As) wc post wf) {host : String} (hG : GoodIn Ts wsC) (hne : (own, index, y, host) ∈ nstL) (hini : Cond.initialized y.cls ∈ Ts) (hinm : Cond.instanceMethod y ∈ Ts) (hyn : y.name = "<init>") (hw : wsC = Cond.code y bytes maxL none :: ws0) (hrm : rm.cells = mc ∧ rm.slots = ms) (hy : y.cls ≠ "java/lang/invoke/MethodHandle" ∧ y.cls ≠ "java/lang/invoke/VarHandle" ∧ (parseMethodDescriptor y.desc).map (fun d => d.parameters.length) = some n) (hR : rm.frames + 1 ≤ R.frames ∧ 8 + (maxL + 11) + rm.locals ≤ R.locals) (hroom : kc + mc ≤ R.cells ∧ ks + ms ≤ R.slots) (hws : ws = pre ++ (wc ++ suf)) (hn : As.length = n) (hst : st = As.reverse ++ .ref b :: rest) (hcat : (rest.map fun v => v.category).sum ≤ 8) (hq : pc + 3 = q) (k : ∀ (u : S), post u → V X (kc + mc) (ks + ms) (pre ++ (wf u ++ suf)) lv q (rest)) : V X kc ks ws lv pc st := by
  obtain ⟨p, l, e, R, s, m, args, below, meth, c, D, cl, A, Q, nL⟩ := X
  obtain ⟨rfl, rfl, rfl, rfl, rfl, rfl, hF, hK, hA, hr, hlk, hNs⟩ := hC
  obtain ⟨hx, hb, hml, hown, hts⟩ := hF
  subst hq hst hws
  intro H locs ls hP hD hS hl
  have hPc : va_P D cl wc H := P_iff.mpr fun q hq => P_iff.mp hP q (by simp [hq])
  have hD2 := D_iff.mp hD
  have hDc : va_D A wc := D_iff.mpr ⟨by have h := hD2.1; simp only [List.map_append, List.nodup_append] at h; exact h.2.1.1, fun q hq => hD2.2 q (by simp [hq])⟩
  have hFc : ∀ q, va_A wc H.size q → A q := by
    rintro q (⟨k, e, h⟩ | h)
    · exact hDc.2 k _ h
    · exact hA q (Nat.le_trans hS.1 h)
  refine va_callv (va_runIN (As := As) (rest := rest) ⟨hx, hb, hml, hown, hts⟩ (hM H.size) (⟨va_cnB n hts hG hw hrm.1 hrm.2 (hNs.1 _ hne) (hts _ hini) hy hR, hyn, hts _ hinm⟩) ⟨fun a U g mk z => by obtain ⟨z0, z1, z2, z3, z4, z5⟩ := z; exact ⟨z0, z1, z2, va_K.moved (u := U) (U := U.calling g mk a) (Vm.Alike.refl U.vm) z3, z4, ⟨fun w hw => va_Nw.same (by rfl) (rfl : U.vm = (U.calling g mk a).vm) (z5.1 w hw), va_AO.moved (u := U) (U := U.calling g mk a) (Vm.Alike.refl U.vm) z5.2⟩⟩, fun U hU hW => ⟨rfl, by rw [hU], by rw [hU]; exact hPc, va_K.moved hW.alike hK, hDc.weaken (fun _ _ _ _ => trivial), hNs.warm hW⟩⟩ rfl hn hl.1 rfl (lv_room hcat) hd hroom) hS (fun q _ h => hFc q h) hFc (fun u t H1 locs ht hvm hw hB hz1 hk1 hS => ?_)
  obtain ⟨hP1, hK1, hD1⟩ := hB
  rw [ht] at hP1
  obtain ⟨hP2, hD2⟩ := fr_call hP hD hFc hk1 hP1 hD1
  exact k u hw H1 locs ls hP2 hD2 hS hl
