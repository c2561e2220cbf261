theorem V_land {X : VC} {l : Launch} {R : Room} {D : va_G} {cl : List vw_C} {tys : List (ClassId × FieldType)} {A : Nat → Prop} {cc : ByteArray} {nL : Nat} {own : String} {Ts : List Cond} {ret : Option FieldType} {kc ks pc q : Nat} {ws : va_W} {lv : List (Nat × Value)} {rest : List Value} (hC : Cx X l R D cl tys A cc nL own Ts ret) {x y : Int64} (hd : decode cc pc = .ok (.land, 1)) (hq : pc + 1 = q) (k : V X kc ks ws lv q (.long (x &&& y) :: rest)) : V X kc ks ws lv pc (.long y :: .long x :: rest) := by
  obtain ⟨p, l, e, R, s, m, args, below, meth, c, D, cl, A, Q, nL⟩ := X
  obtain ⟨rfl, rfl, rfl, rfl, rfl, rfl, hF, hK, hA, hr, hlk, hNs⟩ := hC
  obtain ⟨hx, hb, hml, hown, hts⟩ := hF
  subst hq
  exact fun H locs ls hP hD hS hl => lv_land hx hb hd (k H locs ls hP hD hS hl)
theorem V_ldc2d {X : VC} {l : Launch} {R : Room} {D : va_G} {cl : List vw_C} {tys : List (ClassId × FieldType)} {A : Nat → Prop} {cc : ByteArray} {nL : Nat} {own : String} {Ts : List Cond} {ret : Option FieldType} {kc ks pc q : Nat} {ws : va_W} {lv : List (Nat × Value)} {rest : List Value} (hC : Cx X l R D cl tys A cc nL own Ts ret) {index : Nat} {v : UInt64} (hd : decode cc pc = .ok (.ldc2_w index, 3)) (hw : Cond.constantDouble own index v ∈ Ts) (hq : pc + 3 = q) (k : V X kc ks ws lv q (.double v :: rest)) : V X kc ks ws lv pc rest := by
  obtain ⟨p, l, e, R, s, m, args, below, meth, c, D, cl, A, Q, nL⟩ := X
  obtain ⟨rfl, rfl, rfl, rfl, rfl, rfl, hF, hK, hA, hr, hlk, hNs⟩ := hC
  obtain ⟨hx, hb, hml, hown, hts⟩ := hF
  subst hq
  exact fun H locs ls hP hD hS hl => lv_ldc2d hx hb hown (hts _ hw) hd (k H locs ls hP hD hS hl)
theorem V_drop {X : VC} {kc ks pc : Nat} {ws ws' x : va_W} {lv : List (Nat × Value)} {st : List Value} (h : ws = ws' ++ x) (k : V X kc ks ws' lv pc st) : V X kc ks ws lv pc st := by
  obtain ⟨p, l, e, R, s, m, args, below, meth, c, D, cl, A, Q, nL⟩ := X
  subst h
  intro H locs ls hP hD hS hl
  rw [P_iff] at hP
  rw [D_iff] at hD
  refine k H locs ls (P_iff.mpr fun q hq => hP q (List.mem_append_left _ hq)) (D_iff.mpr ⟨?_, fun q hq => hD.2 q (List.mem_append_left _ hq)⟩) hS hl
  have h := hD.1
  rw [List.map_append, List.nodup_append] at h
  exact h.1
/-- the law's script: an array outside of what may be written -/
def Sc (X : VC) (b L : Nat) (xs : Nat → Int32) : Prop := match X with
  | (_, _, _, _, s, _, _, _, _, _, _, _, A, _, _) => va_X b L xs s s.heap ∧ b < s.heap.size ∧ ¬ A b
theorem V_sld {X : VC} {l : Launch} {R : Room} {D : va_G} {cl : List vw_C} {tys : List (ClassId × FieldType)} {A : Nat → Prop} {cc : ByteArray} {nL : Nat} {own : String} {Ts : List Cond} {ret : Option FieldType} {kc ks pc q : Nat} {ws : va_W} {lv : List (Nat × Value)} {rest : List Value} {b L i : Nat} {xs : Nat → Int32} {x : Int32} (hC : Cx X l R D cl tys A cc nL own Ts ret) (hsc : Sc X b L xs) (hd : decode cc pc = .ok (.iaload, 1)) (hi : x = nI i) (hin : i < L) (hn : L < 2 ^ 31) (hq : pc + 1 = q) (k : V X kc ks ws lv q (.int (xs i) :: rest)) : V X kc ks ws lv pc (.int x :: .ref b :: rest) := by
  obtain ⟨p, l, e, R, s, m, args, below, meth, c, D, cl, A, Q, nL⟩ := X
  obtain ⟨rfl, rfl, rfl, rfl, rfl, rfl, hF, hK, hA, hr, hlk, hNs⟩ := hC
  obtain ⟨hx, hb, hml, hown, hts⟩ := hF
  subst hq hi
  intro H locs ls hP hD hS hl
  have k2 := k H locs ls hP hD hS hl
  rw [← nI_clamp (n := i) (by omega)] at k2
  exact va_sld hx hb hsc.1 hsc.2.1 hsc.2.2 hS (vp_in_nI hin hn) hd k2
theorem V_slen {X : VC} {l : Launch} {R : Room} {D : va_G} {cl : List vw_C} {tys : List (ClassId × FieldType)} {A : Nat → Prop} {cc : ByteArray} {nL : Nat} {own : String} {Ts : List Cond} {ret : Option FieldType} {kc ks pc q : Nat} {ws : va_W} {lv : List (Nat × Value)} {rest : List Value} {b L : Nat} {xs : Nat → Int32} (hC : Cx X l R D cl tys A cc nL own Ts ret) (hsc : Sc X b L xs) (hd : decode cc pc = .ok (.arraylength, 1)) (hq : pc + 1 = q) (k : V X kc ks ws lv q (.int (nI L) :: rest)) : V X kc ks ws lv pc (.ref b :: rest) := by
  obtain ⟨p, l, e, R, s, m, args, below, meth, c, D, cl, A, Q, nL⟩ := X
  obtain ⟨rfl, rfl, rfl, rfl, rfl, rfl, hF, hK, hA, hr, hlk, hNs⟩ := hC
  obtain ⟨hx, hb, hml, hown, hts⟩ := hF
  subst hq
  exact fun H locs ls hP hD hS hl => va_slen hx hb hsc.1 hsc.2.1 hsc.2.2 hS hd (k H locs ls hP hD hS hl)
/-- a method that reads the script alone, and answers some int -/
def CS (l : Launch) (D : va_G) (cl : List vw_C) (tys : List (ClassId × FieldType)) (y : MethodName) (wsC : List Cond) (rm : Room) (av : List Value) (b L : Nat) (xs : Nat → Int32) : Prop := ∀ sz : Nat, Met l y wsC rm (va_Pc av (fun U => Pw D cl tys sz [] U ∧ b < sz ∧ va_X b L xs U U.heap)) (va_Qi (S := Unit) (fun _ _ => True) (fun _ => Bw D cl tys (va_A [] sz) []) (va_A [] sz)) 0 0 (va_A [] sz)
theorem CS_of {l : Launch} {D : va_G} {cl : List vw_C} {tys : List (ClassId × FieldType)} {y : MethodName} {wsC ws0 : List Cond} {rm : Room} {av : List Value} {b L : Nat} {xs : Nat → Int32} {cc : ByteArray} {maxL : Nat} {own : String} {lv : List (Nat × Value)} (hy : plainName y.cls = true) (ho : y.cls = own) (hw : wsC = Cond.code y cc maxL (some .int) :: ws0) (hn : (lg_sl av).length ≤ maxL) (hlv : lv_args 0 av = lv)
    (body : ∀ (X : VC) (A : Nat → Prop), Cx X l rm D cl tys A cc maxL own wsC (some .int) → Sc X b L xs → (∀ (r : Int32) (lv : List (Nat × Value)) (pc : Nat), decode cc pc = .ok (.ireturn, 1) → V X 0 0 [] lv pc [.int r]) → V X 0 0 [] lv 0 []) : CS l D cl tys y wsC rm av b L xs := by
  intro sz
  refine Met.ofW (cc := cc) (maxL := maxL) (ret := some .int) hy hw ?_
  intro p e s m args below meth c s₁ B hml hv
  obtain ⟨rfl, ⟨hsz, hP, hK, hD0, hNs⟩, hbl, hX⟩ := hv
  have hts := atoms_spec (ws := wsC) B.pre
  have hown : s.vm.findClass own = some m.cls := ho ▸ findClass_of_methodNamed B.named
  subst hsz
  have hD := hD0.self (sz := s.heap.size)
  rw [lg_entry_eq]
  refine body (p, l, e, rm, s, m, av.toArray, below, meth, c, D, cl, va_A [] s.heap.size, MQ below (va_Qi (S := Unit) (fun _ _ => True) (fun _ => Bw D cl tys (va_A [] s.heap.size) []) (va_A [] s.heap.size)) av.toArray s 0 0 (va_A [] s.heap.size), maxL) (va_A [] s.heap.size) ⟨rfl, rfl, rfl, rfl, rfl, rfl, ⟨B.exec, B.bytes, hml, hown, hts⟩, hK, fun q h => Or.inr h, B.returns, B.notSynchronized, hNs⟩ ⟨hX, hbl, ?_⟩ ?_ s.heap [] _ hP hD va_S.rf (hlv ▸ lv_entry av hn)
  · rintro (⟨k, e, h⟩ | h)
    · cases h
    · exact absurd h (Nat.not_le.mpr hbl)
  intro r lv pc hd H locs ls hP hD hS hl
  exact W.zret (ty := .int) B.exec B.bytes B.returns rfl (fun t ht hW => ⟨⟨r, (), rfl, trivial, by rw [ht]; exact hP, va_K.moved hW.alike hK, hD⟩, hS.F ht⟩) hS.2.2 hd B.notSynchronized
theorem V_callCS {X : VC} {l : Launch} {R : Room} {D : va_G} {cl : List vw_C} {tys : List (ClassId × FieldType)} {A : Nat → Prop} {cc : ByteArray} {nL : Nat} {own : String} {Ts : List Cond} {ret0 : Option FieldType} {kc ks pc q : Nat} {ws : va_W} {lv : List (Nat × Value)} {rest : List Value} {st : List Value} {y : MethodName} {bytes : ByteArray} {maxL n index b L : Nat} {xs : Nat → Int32} {wsC ws0 : List Cond} {rm : Room} {As : List Value} (hC : Cx X l R D cl tys A cc nL own Ts ret0) (hsc : Sc X b L xs) (hd : decode cc pc = .ok (.invokestatic index, 3)) (hM : CS l D cl tys y wsC rm As b L xs) (hG : GoodIn Ts (va_wsS own index y wsC)) (hw : wsC = Cond.code y bytes maxL (some .int) :: ws0) (hrm : rm.cells = 0 ∧ rm.slots = 0) (hy : y.cls ≠ "java/lang/invoke/MethodHandle" ∧ y.cls ≠ "java/lang/invoke/VarHandle" ∧ (parseMethodDescriptor y.desc).map (fun d => d.parameters.length) = some n) (hR : rm.frames + 1 ≤ R.frames ∧ 8 + (maxL + 11) + rm.locals ≤ R.locals) (hroom : kc + 0 ≤ R.cells ∧ ks + 0 ≤ R.slots) (hn : As.length = n) (hst : st = As.reverse ++ rest) (hcat : (rest.map fun v => v.category).sum ≤ 8) (hq : pc + 3 = q) (k : ∀ r : Int32, V X kc ks ws lv q (.int r :: rest)) : V X kc ks ws lv pc st := by
  obtain ⟨p, l, e, R, s, m, args, below, meth, c, D, cl, A, Q, nL⟩ := X
  obtain ⟨rfl, rfl, rfl, rfl, rfl, rfl, hF, hK, hA, hr, hlk, hNs⟩ := hC
  obtain ⟨hx, hb, hml, hown, hts⟩ := hF
  obtain ⟨hX, hbl, hbA⟩ := hsc
  subst hq hst
  intro H locs ls hP hD hS hl
  have hFc : ∀ q, va_A [] H.size q → A q := by
    rintro q (⟨k, e, h⟩ | h)
    · cases h
    · exact hA q (Nat.le_trans hS.1 h)
  have hbH : b < H.size := Nat.lt_of_lt_of_le hbl hS.1
  refine va_calli (va_runS (As := As) (rest := rest) ⟨hx, hb, hml, hown, hts⟩ (hM H.size) (va_cwS n hts hG hw hrm.1 hrm.2 hy hR) ⟨fun a U g mk z => by obtain ⟨z0, ⟨z1, z2, z3, z4, z5⟩, z6, z7⟩ := z; exact ⟨z0, ⟨z1, z2, va_K.moved (u := U) (U := U.calling g mk a) (Vm.Alike.refl U.vm) z3, z4, ⟨fun w hw => va_Nw.same (by rfl) (rfl : U.vm = (U.calling g mk a).vm) (z5.1 w hw), va_AO.moved (u := U) (U := U.calling g mk a) (Vm.Alike.refl U.vm) z5.2⟩⟩, z6, va_X.moved (u := U) (U := U.calling g mk a) (Vm.Alike.refl U.vm) z7⟩, fun U hU hW => ⟨rfl, ⟨by rw [hU], fun k q h => (by cases h), va_K.moved hW.alike hK, ⟨fun i j p q h => (by cases h), fun k q h => (by cases h)⟩, hNs.warm hW⟩, hbH, by rw [hU]; exact (hX.kept (hS.2.1 b hbl hbA)).moved hW.alike⟩⟩ rfl hn hl.1 rfl (lv_room hcat) hd hroom) hS (fun q _ h => hFc q h) hFc (fun r u t H1 locs ht hvm hw hB hz1 hk1 hS => ?_)
  obtain ⟨hP1, hK1, hD1⟩ := hB
  rw [ht] at hP1
  obtain ⟨hP2, hD2⟩ := fr_call (pre := ws) (wc := []) (suf := []) (by simpa using hP) (by simpa using hD) hFc hk1 hP1 hD1
  exact k r H1 locs ls (by simpa using hP2) (by simpa using hD2) hS hl
set_option maxRecDepth 100000 in
/-- a draw below d -/
theorem k_L_below (l : Launch) (D : va_G) (cI cZ cT : ClassId) (x : Int32) (d : Nat) (h0 : 0 < d) (hd : d < 2 ^ 31) : CI l D kCl (kTy cI cZ cT) yL_below wsL_below ({ frames := 0, cells := 0, slots := 0, locals := 0 }) 0 0 [.int x, .int (nI d)] [] (S := Nat) (fun r u => r = nI u ∧ u < d) (fun _ => []) := by
  refine CI_of (own := RL) (by decide) rfl rfl (Nat.le_of_ble_eq_true rfl) rfl (fun X A hC hE => ?_)
  refine V_iload_n hC dL_below_0 rfl rfl rfl ?_
  refine V_ldc (v := 2147483647) hC dL_below_1 (by decide +kernel) rfl ?_
  refine V_iand hC dL_below_3 rfl ?_
  refine V_iload_n hC dL_below_4 rfl rfl rfl ?_
  have hm := Nat.mod_lt x.toBitVec.toNat (Nat.two_pow_pos 31)
  refine V_irem hC dL_below_5 (fun e => ?_) rfl ?_
  · have e2 := congrArg Int32.toInt e
    rw [nI_toInt hd, show (0 : Int32).toInt = 0 from by decide] at e2
    omega
  refine hE _ (x.toBitVec.toNat % 2 ^ 31 % d) _ _ _ dL_below_6 rfl rfl ⟨?_, Nat.mod_lt _ h0⟩
  rw [pk_and x 31 (by decide)]
  exact pk_rem hm h0 hd
/-- a cell of the script, or what stands for one -/
theorem k_L_cell (l : Launch) (D : va_G) (cI cZ cT : ClassId) (b L : Nat) (xs : Nat → Int32) (hL : L < 2 ^ 31) (x : Int32) (k : Nat) (hx : x = nI k) (hk : k < 2 ^ 31) : CS l D kCl (kTy cI cZ cT) yL_cell wsL_cell ({ frames := 0, cells := 0, slots := 0, locals := 0 }) [.ref b, .int x] b L xs := by
  refine CS_of (own := RL) (by decide) rfl rfl (Nat.le_of_ble_eq_true rfl) rfl (fun X A hC hsc hE => ?_)
  refine V_iload_n hC dL_cell_0 rfl rfl rfl ?_
  refine V_aload_n hC dL_cell_1 rfl rfl rfl ?_
  refine V_slen hC hsc dL_cell_2 rfl ?_
  refine V_icmp_ge (tgt := 12) hC dL_cell_3 (by decide) rfl (fun c => ?_) (fun c => ?_)
  · refine V_ldc (v := 790386105) hC dL_cell_12 (by decide +kernel) rfl ?_
    refine V_iload_n hC dL_cell_14 rfl rfl rfl ?_
    refine V_iconst (v := 3) hC dL_cell_15 (by decide) rfl ?_
    refine V_iadd hC dL_cell_16 rfl ?_
    refine V_imul hC dL_cell_17 rfl ?_
    exact hE _ _ _ dL_cell_18
  · refine V_aload_n hC dL_cell_6 rfl rfl rfl ?_
    refine V_iload_n hC dL_cell_7 rfl rfl rfl ?_
    refine V_sld (i := k) hC hsc dL_cell_8 hx (by rw [hx] at c; exact nI_nle' c hL hk) hL rfl ?_
    refine V_goto (tgt := 18) hC dL_cell_9 (by decide) ?_
    exact hE _ _ _ dL_cell_18
