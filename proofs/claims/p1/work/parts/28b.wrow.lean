theorem lg_self (x : Int64) : lg_cmp x x = 0 := by
  unfold lg_cmp
  rw [if_neg (by simp), if_pos rfl]
theorem V_newaJ {X : VC} {l : Launch} {R : Room} {D : va_G} {cl : List vw_C} {tys : List (ClassId × FieldType)} {A : Nat → Prop} {cc : ByteArray} {nL : Nat} {own : String} {Ts : List Cond} {ret0 : Option FieldType} {kc ks pc q : Nat} {ws : va_W} {lv : List (Nat × Value)} {rest : List Value} {atype : ArrayType} {n : Int32} {N : Nat} {cA : ClassId} (hC : Cx X l R D cl tys A cc nL own Ts ret0) (hd : decode cc pc = .ok (.newarray atype, 2)) (hat : newarray.typeOf atype = .long) (harr : Cond.arrayClass .long ∈ Ts) (t0 : Nat) (ht : tys[t0]? = some (cA, .long)) (hn : ¬ n < 0) (hN : n.toNatClampNeg = N) (hbytes : N * componentBytes .long ≤ 536870912) (hcells : kc + 1 ≤ R.cells) (hslots : ks + N ≤ R.slots) (hq : pc + 2 = q) (k : ∀ z : Nat, V X (kc + 1) (ks + N) (ws ++ [(z, .inl (cA, N, .inr (.inl (fun _ => 0))))]) lv q (.ref z :: rest)) : V X kc ks ws lv pc (.int n :: rest) := by
  obtain ⟨p, l, e, R, s, m, args, below, meth, c, D, cl, A, Q, nL⟩ := X
  obtain ⟨rfl, rfl, rfl, rfl, rfl, rfl, hF, hK, hA, hr, hlk, hNs, hSx⟩ := hC
  obtain ⟨hx, hb, hml, hown, hts⟩ := hF
  subst hq
  intro H locs ls hP hD hS hl
  refine va_newa hx hb (atype := atype) (by rw [hat]; exact hts _ harr) hat hK hP hD hS hA (a0 := (N, .inr (.inl (fun _ => 0)))) (fun _ => rfl) hn hN hbytes hcells hslots hd (fun z cB H hK2 hP hD hS => ?_)
  have e1 : s.vm.findClass ("[" ++ (.long : FieldType).toString) = some cB := (hK2.2 tys.length (cB, .long) (by simp)).2
  have e2 : s.vm.findClass ("[" ++ (.long : FieldType).toString) = some cA := (hK.2 t0 _ ht).2
  obtain rfl : cB = cA := Option.some.inj (e1.symm.trans e2)
  exact k z H locs ls hP hD hS hl
