theorem oil_Jxa1e45_init_da8c8 : Cond.methodLink RJxa1e45 1 objectInit ∈ wsJxa1e45_init_da8c8 := by decide +kernel
theorem oii_Jxa1e45_init_da8c8 : Cond.instanceMethod objectInit ∈ wsJxa1e45_init_da8c8 := by decide +kernel
theorem oic_Jxa1e45_init_da8c8 : Cond.code objectInit ⟨#[0xb1]⟩ 1 none ∈ wsJxa1e45_init_da8c8 := by decide +kernel
set_option maxRecDepth 100000 in
set_option maxHeartbeats 4000000 in
theorem k_Jxa1e45_init_da8c8 (l : Launch) (D : va_G) (cI cZ cT : ClassId) (x : Nat) (fs : List Value) : CV l D kC2 (kT2 D cI cZ cT) yJxa1e45_init_da8c8 wsJxa1e45_init_da8c8 ({ frames := 1, cells := 0, slots := 0, locals := 12 }) 0 0 [.ref x] [(x, .inr (6, fs))] (S := Unit) (fun _ => True) (fun _ => [(x, .inr (6, fs))]) := by
  refine CVI_of (own := RJxa1e45) (by decide) rfl rfl (Nat.le_of_ble_eq_true rfl) rfl (fun X A hC hmn hE => ?_)
  refine V_aload_n hC dJxa1e45_init_da8c8_0 rfl rfl rfl ?_
  refine V_objInit hC dJxa1e45_init_da8c8_1 oil_Jxa1e45_init_da8c8 oii_Jxa1e45_init_da8c8 oic_Jxa1e45_init_da8c8 (Nat.le_of_ble_eq_true rfl) (Nat.le_of_ble_eq_true rfl) rfl ?_
  exact hE () _ _ _ dJxa1e45_init_da8c8_4 trivial rfl trivial
theorem iniJxa1e45_Jxc12de_init_da8c8 : Cond.initialized RJxa1e45 ∈ wsJxc12de_init_da8c8 := by decide +kernel
theorem inmJxa1e45_init_da8c8_Jxc12de_init_da8c8 : Cond.instanceMethod yJxa1e45_init_da8c8 ∈ wsJxc12de_init_da8c8 := by decide +kernel
theorem mlk1_Jxc12de_init_da8c8 : Cond.methodLink RJxc12de 1 yJxa1e45_init_da8c8 ∈ wsJxc12de_init_da8c8 := by decide +kernel
theorem in_Jx4a65c_Jxc12de_init_da8c8 : ∀ w ∈ u_ws RJx4a65c TJx4a65c 3, w ∈ wsJxc12de_init_da8c8 := by decide +kernel
theorem fk_Jxc12de_init_da8c8_7 : Cond.fieldLink RJxc12de 7 (TJx4a65c 0).1 (TJx4a65c 0).2.1 (TJx4a65c 0).2.2.1 ∈ wsJxc12de_init_da8c8 := by decide +kernel
set_option maxRecDepth 100000 in
set_option maxHeartbeats 4000000 in
theorem k_Jxc12de_init_da8c8 (l : Launch) (D : va_G) (cI cZ cT : ClassId) (x : Nat) (a : Int32) (b : Value) (c : Int32) : CV l D kC2 (kT2 D cI cZ cT) yJxc12de_init_da8c8 wsJxc12de_init_da8c8 ({ frames := 2, cells := 0, slots := 0, locals := 32 }) 0 0 [.ref x] [(x, .inr (6, [.int a, b, .int c]))] (S := Unit) (fun _ => True) (fun _ => [(x, .inr (6, [.int 0, b, .int c]))]) := by
  refine CVI_of (own := RJxc12de) (by decide) rfl rfl (Nat.le_of_ble_eq_true rfl) rfl (fun X A hC hmn hE => ?_)
  refine V_aload_n hC dJxc12de_init_da8c8_0 rfl rfl rfl ?_
  refine V_callVIf (n := 0) (suf := []) hC dJxc12de_init_da8c8_1 (k_Jxa1e45_init_da8c8 l D cI cZ cT x _) gJxc12de_init_da8c8_Jxa1e45_init_da8c8 iniJxa1e45_Jxc12de_init_da8c8 mlk1_Jxc12de_init_da8c8 inmJxa1e45_init_da8c8_Jxc12de_init_da8c8 rfl rfl ⟨rfl, rfl⟩ (by decide +kernel) ⟨Nat.le_of_ble_eq_true rfl, Nat.le_of_ble_eq_true rfl⟩ ⟨Nat.le_of_ble_eq_true rfl, Nat.le_of_ble_eq_true rfl⟩ (pre := []) rfl rfl rfl (by exact Nat.le_of_ble_eq_true rfl) rfl (fun u_x h_x => ?_)
  refine V_aload_n hC dJxc12de_init_da8c8_4 rfl rfl rfl ?_
  refine V_iconst (v := 0) hC dJxc12de_init_da8c8_5 (by decide) rfl ?_
  refine V_put (q0 := 0) (C := RJx4a65c) (T := TJx4a65c) (N := 3) hC dJxc12de_init_da8c8_6 in_Jx4a65c_Jxc12de_init_da8c8 tyJx4a65c tyJx4a65c_ok nmJx4a65c rfl rfl 0 (Nat.le_of_ble_eq_true rfl) fk_Jxc12de_init_da8c8_7 rfl rfl rfl rfl (Nat.le_of_ble_eq_true rfl) rfl rfl ?_
  exact hE () _ _ _ dJxc12de_init_da8c8_9 trivial rfl trivial
theorem iniJxc12de_Jx4a65c_init_da8c8 : Cond.initialized RJxc12de ∈ wsJx4a65c_init_da8c8 := by decide +kernel
theorem inmJxc12de_init_da8c8_Jx4a65c_init_da8c8 : Cond.instanceMethod yJxc12de_init_da8c8 ∈ wsJx4a65c_init_da8c8 := by decide +kernel
theorem mlk1_Jx4a65c_init_da8c8 : Cond.methodLink RJx4a65c 1 yJxc12de_init_da8c8 ∈ wsJx4a65c_init_da8c8 := by decide +kernel
theorem gs39_Jx4a65c_init_da8c8 : Cond.fieldLink RJx4a65c 39 "java/util/ArrayList" "DEFAULTCAPACITY_EMPTY_ELEMENTDATA" "[Ljava/lang/Object;" ∈ wsJx4a65c_init_da8c8 := by decide +kernel
theorem in_Jx4a65c_Jx4a65c_init_da8c8 : ∀ w ∈ u_ws RJx4a65c TJx4a65c 3, w ∈ wsJx4a65c_init_da8c8 := by decide +kernel
theorem fk_Jx4a65c_init_da8c8_9 : Cond.fieldLink RJx4a65c 9 (TJx4a65c 1).1 (TJx4a65c 1).2.1 (TJx4a65c 1).2.2.1 ∈ wsJx4a65c_init_da8c8 := by decide +kernel
set_option maxRecDepth 100000 in
set_option maxHeartbeats 4000000 in
theorem k_Jx4a65c_init_da8c8 (l : Launch) (D : va_G) (cI cZ cT : ClassId) (x : Nat) (a c : Int32) (b : Value) : CV l D kC2 (kT2 D cI cZ cT) yJx4a65c_init_da8c8 wsJx4a65c_init_da8c8 ({ frames := 3, cells := 0, slots := 0, locals := 52 }) 0 0 [.ref x] [(x, .inr (6, [.int a, b, .int c]))] (S := Unit) (fun _ => True) (fun _ => [(x, .inr (6, [.int 0, .ref (D.2 100 0), .int c]))]) := by
  refine CVI_of (own := RJx4a65c) (by decide) rfl rfl (Nat.le_of_ble_eq_true rfl) rfl (fun X A hC hmn hE => ?_)
  refine V_aload_n hC dJx4a65c_init_da8c8_0 rfl rfl rfl ?_
  refine V_callVIf (n := 0) (suf := []) hC dJx4a65c_init_da8c8_1 (k_Jxc12de_init_da8c8 l D cI cZ cT x _ _ _) gJx4a65c_init_da8c8_Jxc12de_init_da8c8 iniJxc12de_Jx4a65c_init_da8c8 mlk1_Jx4a65c_init_da8c8 inmJxc12de_init_da8c8_Jx4a65c_init_da8c8 rfl rfl ⟨rfl, rfl⟩ (by decide +kernel) ⟨Nat.le_of_ble_eq_true rfl, Nat.le_of_ble_eq_true rfl⟩ ⟨Nat.le_of_ble_eq_true rfl, Nat.le_of_ble_eq_true rfl⟩ (pre := []) rfl rfl rfl (by exact Nat.le_of_ble_eq_true rfl) rfl (fun u_x h_x => ?_)
  refine V_aload_n hC dJx4a65c_init_da8c8_4 rfl rfl rfl ?_
  refine V_getsE hC dJx4a65c_init_da8c8_5 gs39_Jx4a65c_init_da8c8 rfl ?_
  refine V_put (q0 := 0) (C := RJx4a65c) (T := TJx4a65c) (N := 3) hC dJx4a65c_init_da8c8_8 in_Jx4a65c_Jx4a65c_init_da8c8 tyJx4a65c tyJx4a65c_ok nmJx4a65c rfl rfl 1 (Nat.le_of_ble_eq_true rfl) fk_Jx4a65c_init_da8c8_9 rfl rfl rfl rfl (Nat.le_of_ble_eq_true rfl) rfl rfl ?_
  exact hE () _ _ _ dJx4a65c_init_da8c8_11 trivial rfl trivial
theorem in_Jx4a65c_Jx4a65c_size_8abf5 : ∀ w ∈ u_ws RJx4a65c TJx4a65c 3, w ∈ wsJx4a65c_size_8abf5 := by decide +kernel
theorem fk_Jx4a65c_size_8abf5_48 : Cond.fieldLink RJx4a65c 48 (TJx4a65c 2).1 (TJx4a65c 2).2.1 (TJx4a65c 2).2.2.1 ∈ wsJx4a65c_size_8abf5 := by decide +kernel
set_option maxRecDepth 100000 in
set_option maxHeartbeats 4000000 in
theorem k_Jx4a65c_size_8abf5 (l : Launch) (D : va_G) (cI cZ cT : ClassId) (x : Nat) (md : Int32) (e : Nat) (sz : Int32) : CI l D kC2 (kT2 D cI cZ cT) yJx4a65c_size_8abf5 wsJx4a65c_size_8abf5 ({ frames := 0, cells := 0, slots := 0, locals := 0 }) 0 0 [.ref x] [(x, .inr (6, [.int md, .ref e, .int sz]))] (S := Unit) (fun r _ => r = sz) (fun _ => [(x, .inr (6, [.int md, .ref e, .int sz]))]) := by
  refine CI_of (own := RJx4a65c) (by decide) rfl rfl (Nat.le_of_ble_eq_true rfl) rfl (fun X A hC hE => ?_)
  refine V_aload_n hC dJx4a65c_size_8abf5_0 rfl rfl rfl ?_
  refine V_get (q0 := 0) (C := RJx4a65c) (T := TJx4a65c) (N := 3) hC dJx4a65c_size_8abf5_1 in_Jx4a65c_Jx4a65c_size_8abf5 rfl rfl 2 (Nat.le_of_ble_eq_true rfl) fk_Jx4a65c_size_8abf5_48 rfl rfl ?_
  exact hE _ () _ _ _ dJx4a65c_size_8abf5_4 rfl rfl (by first | rfl | (simp [*]; done))
theorem in_Jx35411_Jx35411_init_45d68 : ∀ w ∈ u_ws RJx35411 TJx35411 4, w ∈ wsJx35411_init_45d68 := by decide +kernel
theorem fk_Jx35411_init_45d68_1 : Cond.fieldLink RJx35411 1 (TJx35411 3).1 (TJx35411 3).2.1 (TJx35411 3).2.2.1 ∈ wsJx35411_init_45d68 := by decide +kernel
theorem oil_Jx35411_init_45d68 : Cond.methodLink RJx35411 7 objectInit ∈ wsJx35411_init_45d68 := by decide +kernel
theorem oii_Jx35411_init_45d68 : Cond.instanceMethod objectInit ∈ wsJx35411_init_45d68 := by decide +kernel
theorem oic_Jx35411_init_45d68 : Cond.code objectInit ⟨#[0xb1]⟩ 1 none ∈ wsJx35411_init_45d68 := by decide +kernel
theorem fk_Jx35411_init_45d68_13 : Cond.fieldLink RJx35411 13 (TJx35411 1).1 (TJx35411 1).2.1 (TJx35411 1).2.2.1 ∈ wsJx35411_init_45d68 := by decide +kernel
theorem in_Jx4a65c_Jx35411_init_45d68 : ∀ w ∈ u_ws RJx4a65c TJx4a65c 3, w ∈ wsJx35411_init_45d68 := by decide +kernel
theorem fu17_Jx35411_init_45d68 : Cond.fieldLink RJx35411 17 RJx4a65c (TJx4a65c 0).2.1 (TJx4a65c 0).2.2.1 ∈ wsJx35411_init_45d68 := by decide +kernel
theorem sm17_Jx35411_init_45d68 : Cond.sameField RJx4a65c (TJx4a65c 0).1 (TJx4a65c 0).2.1 (TJx4a65c 0).2.2.1 ∈ wsJx35411_init_45d68 := by decide +kernel
theorem fk_Jx35411_init_45d68_22 : Cond.fieldLink RJx35411 22 (TJx35411 2).1 (TJx35411 2).2.1 (TJx35411 2).2.2.1 ∈ wsJx35411_init_45d68 := by decide +kernel
set_option maxRecDepth 100000 in
set_option maxHeartbeats 4000000 in
theorem k_Jx35411_init_45d68 (l : Launch) (D : va_G) (cI cZ cT : ClassId) (i x : Nat) (md : Int32) (e : Nat) (sz : Int32) : CV l D kC2 (kT2 D cI cZ cT) yJx35411_init_45d68 wsJx35411_init_45d68 ({ frames := 1, cells := 0, slots := 0, locals := 12 }) 0 0 [.ref i, .ref x] [(x, .inr (6, [.int md, .ref e, .int sz])), (i, .inr (7, [.int 0, .int 0, .int 0, .null]))] (S := Unit) (fun _ => True) (fun _ => [(x, .inr (6, [.int md, .ref e, .int sz])), (i, .inr (7, [.int 0, .int (-1), .int md, .ref x]))]) := by
  refine CVI_of (own := RJx35411) (by decide) rfl rfl (Nat.le_of_ble_eq_true rfl) rfl (fun X A hC hmn hE => ?_)
  refine V_aload_n hC dJx35411_init_45d68_0 rfl rfl rfl ?_
  refine V_aload_n hC dJx35411_init_45d68_1 rfl rfl rfl ?_
  refine V_putF (q0 := 1) (C := RJx35411) (T := TJx35411) (N := 4) hC hmn dJx35411_init_45d68_2 in_Jx35411_Jx35411_init_45d68 tyJx35411 tyJx35411_ok nmJx35411 rfl rfl 3 (Nat.le_of_ble_eq_true rfl) fk_Jx35411_init_45d68_1 rfl rfl rfl rfl rfl (Nat.le_of_ble_eq_true rfl) rfl rfl ?_
  refine V_aload_n hC dJx35411_init_45d68_5 rfl rfl rfl ?_
  refine V_objInit hC dJx35411_init_45d68_6 oil_Jx35411_init_45d68 oii_Jx35411_init_45d68 oic_Jx35411_init_45d68 (Nat.le_of_ble_eq_true rfl) (Nat.le_of_ble_eq_true rfl) rfl ?_
  refine V_aload_n hC dJx35411_init_45d68_9 rfl rfl rfl ?_
  refine V_iconst (v := (-1)) hC dJx35411_init_45d68_10 (by decide) rfl ?_
  refine V_put (q0 := 1) (C := RJx35411) (T := TJx35411) (N := 4) hC dJx35411_init_45d68_11 in_Jx35411_Jx35411_init_45d68 tyJx35411 tyJx35411_ok nmJx35411 rfl rfl 1 (Nat.le_of_ble_eq_true rfl) fk_Jx35411_init_45d68_13 rfl rfl rfl rfl (Nat.le_of_ble_eq_true rfl) rfl rfl ?_
  refine V_aload_n hC dJx35411_init_45d68_14 rfl rfl rfl ?_
  refine V_aload_n hC dJx35411_init_45d68_15 rfl rfl rfl ?_
  refine V_get (q0 := 1) (C := RJx35411) (T := TJx35411) (N := 4) hC dJx35411_init_45d68_16 in_Jx35411_Jx35411_init_45d68 rfl rfl 3 (Nat.le_of_ble_eq_true rfl) fk_Jx35411_init_45d68_1 rfl rfl ?_
  refine V_getU (q0 := 0) (C := RJx4a65c) (T := TJx4a65c) (N := 3) (ref := RJx4a65c) hC dJx35411_init_45d68_19 in_Jx4a65c_Jx35411_init_45d68 rfl rfl 0 (Nat.le_of_ble_eq_true rfl) fu17_Jx35411_init_45d68 sm17_Jx35411_init_45d68 rfl rfl ?_
  refine V_put (q0 := 1) (C := RJx35411) (T := TJx35411) (N := 4) hC dJx35411_init_45d68_22 in_Jx35411_Jx35411_init_45d68 tyJx35411 tyJx35411_ok nmJx35411 rfl rfl 2 (Nat.le_of_ble_eq_true rfl) fk_Jx35411_init_45d68_22 rfl rfl rfl rfl (Nat.le_of_ble_eq_true rfl) rfl rfl ?_
  exact hE () _ _ _ dJx35411_init_45d68_25 trivial rfl trivial
theorem in_Jx35411_Jx4a65c_iterator_32c93 : ∀ w ∈ u_ws RJx35411 TJx35411 4, w ∈ wsJx4a65c_iterator_32c93 := by decide +kernel
theorem cl267_Jx4a65c_iterator_32c93 : Cond.classLink RJx4a65c 267 RJx35411 ∈ wsJx4a65c_iterator_32c93 := by decide +kernel
theorem insJx35411_Jx4a65c_iterator_32c93 : Cond.instantiable RJx35411 4 ∈ wsJx4a65c_iterator_32c93 := by decide +kernel
theorem iniJx35411_Jx4a65c_iterator_32c93 : Cond.initialized RJx35411 ∈ wsJx4a65c_iterator_32c93 := by decide +kernel
theorem inmJx35411_init_45d68_Jx4a65c_iterator_32c93 : Cond.instanceMethod yJx35411_init_45d68 ∈ wsJx4a65c_iterator_32c93 := by decide +kernel
theorem mlk269_Jx4a65c_iterator_32c93 : Cond.methodLink RJx4a65c 269 yJx35411_init_45d68 ∈ wsJx4a65c_iterator_32c93 := by decide +kernel
set_option maxRecDepth 100000 in
set_option maxHeartbeats 4000000 in
theorem k_Jx4a65c_iterator_32c93 (l : Launch) (D : va_G) (cI cZ cT : ClassId) (x : Nat) (md : Int32) (e : Nat) (sz : Int32) : CR l D kC2 (kT2 D cI cZ cT) yJx4a65c_iterator_32c93 wsJx4a65c_iterator_32c93 ({ frames := 2, cells := 1, slots := 4, locals := 33 }) 1 4 [.ref x] [(x, .inr (6, [.int md, .ref e, .int sz]))] (S := Nat) (fun r u => r = u) (fun u => [(x, .inr (6, [.int md, .ref e, .int sz])), (u, .inr (7, [.int 0, .int (-1), .int md, .ref x]))]) := by
  refine CR_of (own := RJx4a65c) (by decide) rfl rfl (Nat.le_of_ble_eq_true rfl) rfl (Or.inl ⟨_, rfl⟩) (fun X A hC hE => ?_)
  refine V_new (ci := 7) (C := RJx35411) (T := TJx35411) (N := 4) (fs := [.int 0, .int 0, .int 0, .null]) hC dJx4a65c_iterator_32c93_0 in_Jx35411_Jx4a65c_iterator_32c93 tyJx35411 tyJx35411_ok cl267_Jx4a65c_iterator_32c93 insJx35411_Jx4a65c_iterator_32c93 iniJx35411_Jx4a65c_iterator_32c93 rfl nw_Jx35411 (Nat.le_of_ble_eq_true rfl) (Nat.le_of_ble_eq_true rfl) rfl (fun z1 => ?_)
  refine V_dup hC dJx4a65c_iterator_32c93_3 rfl rfl ?_
  refine V_aload_n hC dJx4a65c_iterator_32c93_4 rfl rfl rfl ?_
  refine V_callVIf (n := 1) (suf := []) hC dJx4a65c_iterator_32c93_5 (k_Jx35411_init_45d68 l D cI cZ cT z1 x _ _ _) gJx4a65c_iterator_32c93_Jx35411_init_45d68 iniJx35411_Jx4a65c_iterator_32c93 mlk269_Jx4a65c_iterator_32c93 inmJx35411_init_45d68_Jx4a65c_iterator_32c93 rfl rfl ⟨rfl, rfl⟩ (by decide +kernel) ⟨Nat.le_of_ble_eq_true rfl, Nat.le_of_ble_eq_true rfl⟩ ⟨Nat.le_of_ble_eq_true rfl, Nat.le_of_ble_eq_true rfl⟩ (pre := []) rfl rfl rfl (by exact Nat.le_of_ble_eq_true rfl) rfl (fun u_z1 h_z1 => ?_)
  exact hE _ z1 _ _ _ dJx4a65c_iterator_32c93_8 trivial rfl rfl
theorem in_Jx35411_Jx35411_hasNext_aae02 : ∀ w ∈ u_ws RJx35411 TJx35411 4, w ∈ wsJx35411_hasNext_aae02 := by decide +kernel
theorem fk_Jx35411_hasNext_aae02_25 : Cond.fieldLink RJx35411 25 (TJx35411 0).1 (TJx35411 0).2.1 (TJx35411 0).2.2.1 ∈ wsJx35411_hasNext_aae02 := by decide +kernel
theorem fk_Jx35411_hasNext_aae02_1 : Cond.fieldLink RJx35411 1 (TJx35411 3).1 (TJx35411 3).2.1 (TJx35411 3).2.2.1 ∈ wsJx35411_hasNext_aae02 := by decide +kernel
theorem in_Jx4a65c_Jx35411_hasNext_aae02 : ∀ w ∈ u_ws RJx4a65c TJx4a65c 3, w ∈ wsJx35411_hasNext_aae02 := by decide +kernel
set_option maxRecDepth 100000 in
set_option maxHeartbeats 4000000 in
theorem k_Jx35411_hasNext_aae02 (l : Launch) (D : va_G) (cI cZ cT : ClassId) (x i : Nat) (md : Int32) (e : Nat) (sz : Int32) (hz : sz = 0) : CI l D kC2 (kT2 D cI cZ cT) yJx35411_hasNext_aae02 wsJx35411_hasNext_aae02 ({ frames := 0, cells := 0, slots := 0, locals := 0 }) 0 0 [.ref i] [(x, .inr (6, [.int md, .ref e, .int sz])), (i, .inr (7, [.int 0, .int (-1), .int md, .ref x]))] (S := Unit) (fun r _ => r = 0) (fun _ => [(x, .inr (6, [.int md, .ref e, .int sz])), (i, .inr (7, [.int 0, .int (-1), .int md, .ref x]))]) := by
  refine CI_of (own := RJx35411) (by decide) rfl rfl (Nat.le_of_ble_eq_true rfl) rfl (fun X A hC hE => ?_)
  refine V_aload_n hC dJx35411_hasNext_aae02_0 rfl rfl rfl ?_
  refine V_get (q0 := 1) (C := RJx35411) (T := TJx35411) (N := 4) hC dJx35411_hasNext_aae02_1 in_Jx35411_Jx35411_hasNext_aae02 rfl rfl 0 (Nat.le_of_ble_eq_true rfl) fk_Jx35411_hasNext_aae02_25 rfl rfl ?_
  refine V_aload_n hC dJx35411_hasNext_aae02_4 rfl rfl rfl ?_
  refine V_get (q0 := 1) (C := RJx35411) (T := TJx35411) (N := 4) hC dJx35411_hasNext_aae02_5 in_Jx35411_Jx35411_hasNext_aae02 rfl rfl 3 (Nat.le_of_ble_eq_true rfl) fk_Jx35411_hasNext_aae02_1 rfl rfl ?_
  refine V_getN (q0 := 0) (C := RJx4a65c) (T := TJx4a65c) (N := 3) (ref := RJx4a65c) (host := RJx4a65c) hC dJx35411_hasNext_aae02_8 in_Jx4a65c_Jx35411_hasNext_aae02 rfl rfl 2 (Nat.le_of_ble_eq_true rfl) (by decide +kernel) rfl rfl rfl ?_
  refine V_icmp_eq (tgt := 18) hC dJx35411_hasNext_aae02_11 (by decide) rfl (fun c_11 => ?_) (fun c_11 => ?_)
  · refine V_iconst (v := 0) hC dJx35411_hasNext_aae02_18 (by decide) rfl ?_
    exact hE _ () _ _ _ dJx35411_hasNext_aae02_19 rfl rfl (by first | rfl | (simp [*]; done))
  · exact absurd hz.symm c_11
theorem ml304_J7_copyOf_6403c : Cond.methodLink RJ7 304 Lib.Math.min.name ∈ wsJ7_copyOf_6403c := by decide +kernel
theorem msmin_J7_copyOf_6403c : Cond.static Lib.Math.min.name ∈ wsJ7_copyOf_6403c := by decide +kernel
theorem mi_J7_copyOf_6403c : Cond.initialized "java/lang/Math" ∈ wsJ7_copyOf_6403c := by decide +kernel
theorem mcmin_J7_copyOf_6403c : Cond.code Lib.Math.min.name Lib.Math.min.code 2 (some .int) ∈ wsJ7_copyOf_6403c := by decide +kernel
set_option maxRecDepth 100000 in
set_option maxHeartbeats 4000000 in
theorem k_J7_copyOf_6403c (l : Launch) (D : va_G) (cI cZ cT : ClassId)  : CR l D kC2 (kT2 D cI cZ cT) yJ7_copyOf_6403c wsJ7_copyOf_6403c ({ frames := 1, cells := 1, slots := 0, locals := 40 }) 1 0 [.ref (D.2 100 0), .int 0, .ref (D.2 100 1)] [] (S := (Nat × (Nat → Option Nat))) (fun r u => r = u.1) (fun u => [(u.1, .inl (D.1 100, 0, .inr (.inr (.inr (.inr u.2)))))]) := by
  refine CR_of (own := RJ7) (by decide) rfl rfl (Nat.le_of_ble_eq_true rfl) rfl (Or.inr ⟨_, rfl⟩) (fun X A hC hE => ?_)
  refine V_aload_n hC dJ7_copyOf_6403c_0 rfl rfl rfl ?_
  refine V_ldcM hC dJ7_copyOf_6403c_1 (by decide +kernel : Cond.classLink RJ7 110 "[Ljava/lang/Object;" ∈ wsJ7_copyOf_6403c) rfl ?_
  refine V_acmp_ne (tgt := 13) hC dJ7_copyOf_6403c_3 (by decide) rfl rfl ?_
  refine V_iload_n hC dJ7_copyOf_6403c_6 rfl rfl rfl ?_
  refine V_newO (N := 0) hC dJ7_copyOf_6403c_7 (by decide +kernel : Cond.classLink RJ7 2 "java/lang/Object" ∈ wsJ7_copyOf_6403c) 4 rfl (by decide) rfl (Nat.le_of_ble_eq_true rfl) (Nat.le_of_ble_eq_true rfl) (Nat.le_of_ble_eq_true rfl) rfl (fun z1 => ?_)
  refine V_goto (tgt := 24) hC dJ7_copyOf_6403c_10 (by decide) ?_
  refine V_astore_n hC dJ7_copyOf_6403c_24 rfl (Nat.le_of_ble_eq_true rfl) rfl ?_
  refine V_aload_n hC dJ7_copyOf_6403c_25 rfl rfl rfl ?_
  refine V_iconst (v := 0) hC dJ7_copyOf_6403c_26 (by decide) rfl ?_
  refine V_aload_n hC dJ7_copyOf_6403c_27 rfl rfl rfl ?_
  refine V_iconst (v := 0) hC dJ7_copyOf_6403c_28 (by decide) rfl ?_
  refine V_aload_n hC dJ7_copyOf_6403c_29 rfl rfl rfl ?_
  refine V_alenE hC dJ7_copyOf_6403c_30 rfl ?_
  refine V_iload_n hC dJ7_copyOf_6403c_31 rfl rfl rfl ?_
  refine V_mmin hC dJ7_copyOf_6403c_32 ml304_J7_copyOf_6403c msmin_J7_copyOf_6403c mi_J7_copyOf_6403c mcmin_J7_copyOf_6403c (Nat.le_of_ble_eq_true rfl) (Nat.le_of_ble_eq_true rfl) (Nat.le_of_ble_eq_true rfl) (Nat.le_of_ble_eq_true rfl) rfl ?_
  refine V_copyE (q1 := 0) hC dJ7_copyOf_6403c_35 (by decide +kernel : Cond.methodLink RJ7 150 arraycopyName ∈ wsJ7_copyOf_6403c) (by decide +kernel : Cond.native arraycopyName ∈ wsJ7_copyOf_6403c) (by decide +kernel : Cond.static arraycopyName ∈ wsJ7_copyOf_6403c) (by decide +kernel : Cond.initialized "java/lang/System" ∈ wsJ7_copyOf_6403c) rfl 4 rfl (by decide) (Nat.le_of_ble_eq_true rfl) (Nat.le_of_ble_eq_true rfl) rfl (fun g => ?_)
  refine V_aload_n hC dJ7_copyOf_6403c_38 rfl rfl rfl ?_
  exact hE _ (_, _) _ _ _ dJ7_copyOf_6403c_39 trivial rfl rfl
set_option maxRecDepth 100000 in
set_option maxHeartbeats 4000000 in
theorem k_J7_copyOf_1904c (l : Launch) (D : va_G) (cI cZ cT : ClassId)  : CR l D kC2 (kT2 D cI cZ cT) yJ7_copyOf_1904c wsJ7_copyOf_1904c ({ frames := 2, cells := 1, slots := 0, locals := 63 }) 1 0 [.ref (D.2 100 0), .int 0] [] (S := (Nat × (Nat → Option Nat))) (fun r u => r = u.1) (fun u => [(u.1, .inl (D.1 100, 0, .inr (.inr (.inr (.inr u.2)))))]) := by
  refine CR_of (own := RJ7) (by decide) rfl rfl (Nat.le_of_ble_eq_true rfl) rfl (Or.inr ⟨_, rfl⟩) (fun X A hC hE => ?_)
  refine V_aload_n hC dJ7_copyOf_1904c_0 rfl rfl rfl ?_
  refine V_iload_n hC dJ7_copyOf_1904c_1 rfl rfl rfl ?_
  refine V_aload_n hC dJ7_copyOf_1904c_2 rfl rfl rfl ?_
  refine V_getC hC dJ7_copyOf_1904c_3 (by decide +kernel : Cond.methodLink RJ7 86 ⟨"java/lang/Object", "getClass", "()Ljava/lang/Class;"⟩ ∈ wsJ7_copyOf_1904c) (by decide +kernel : Cond.selects "[Ljava/lang/Object;" ⟨"java/lang/Object", "getClass", "()Ljava/lang/Class;"⟩ ⟨"java/lang/Object", "getClass", "()Ljava/lang/Class;"⟩ ∈ wsJ7_copyOf_1904c) (by decide +kernel : Cond.instanceMethod ⟨"java/lang/Object", "getClass", "()Ljava/lang/Class;"⟩ ∈ wsJ7_copyOf_1904c) (by decide +kernel : Cond.native ⟨"java/lang/Object", "getClass", "()Ljava/lang/Class;"⟩ ∈ wsJ7_copyOf_1904c) (Nat.le_of_ble_eq_true rfl) (Nat.le_of_ble_eq_true rfl) rfl ?_
  refine V_callRS (n := 3) (pre := []) (wc := []) (suf := []) hC dJ7_copyOf_1904c_6 (k_J7_copyOf_6403c l D cI cZ cT ) gJ7_copyOf_1904c_J7_copyOf_6403c rfl ⟨rfl, rfl⟩ (by decide +kernel) ⟨Nat.le_of_ble_eq_true rfl, Nat.le_of_ble_eq_true rfl⟩ ⟨Nat.le_of_ble_eq_true rfl, Nat.le_of_ble_eq_true rfl⟩ rfl rfl rfl (by exact Nat.le_of_ble_eq_true rfl) rfl (fun r_6 u_6 h_6 => ?_)
  subst h_6
  refine V_ws (ws' := [(u_6.1, .inl (D.1 100, 0, .inr (.inr (.inr (.inr u_6.2)))))]) rfl ?_
  exact hE _ u_6 _ _ _ dJ7_copyOf_1904c_9 trivial rfl rfl
theorem in_Jx4a65c_Jx4a65c_toArray_d5877 : ∀ w ∈ u_ws RJx4a65c TJx4a65c 3, w ∈ wsJx4a65c_toArray_d5877 := by decide +kernel
theorem fk_Jx4a65c_toArray_d5877_9 : Cond.fieldLink RJx4a65c 9 (TJx4a65c 1).1 (TJx4a65c 1).2.1 (TJx4a65c 1).2.2.1 ∈ wsJx4a65c_toArray_d5877 := by decide +kernel
theorem fk_Jx4a65c_toArray_d5877_48 : Cond.fieldLink RJx4a65c 48 (TJx4a65c 2).1 (TJx4a65c 2).2.1 (TJx4a65c 2).2.2.1 ∈ wsJx4a65c_toArray_d5877 := by decide +kernel
set_option maxRecDepth 100000 in
set_option maxHeartbeats 4000000 in
theorem k_Jx4a65c_toArray_d5877 (l : Launch) (D : va_G) (cI cZ cT : ClassId) (x : Nat) (md sz : Int32) (hz : sz = 0) : CR l D kC2 (kT2 D cI cZ cT) yJx4a65c_toArray_d5877 wsJx4a65c_toArray_d5877 ({ frames := 3, cells := 1, slots := 0, locals := 84 }) 1 0 [.ref x] [(x, .inr (6, [.int md, .ref (D.2 100 0), .int sz]))] (S := (Nat × (Nat → Option Nat))) (fun r u => r = u.1) (fun u => [(x, .inr (6, [.int md, .ref (D.2 100 0), .int sz])), (u.1, .inl (D.1 100, 0, .inr (.inr (.inr (.inr u.2)))))]) := by
  refine CR_of (own := RJx4a65c) (by decide) rfl rfl (Nat.le_of_ble_eq_true rfl) rfl (Or.inr ⟨_, rfl⟩) (fun X A hC hE => ?_)
  refine V_aload_n hC dJx4a65c_toArray_d5877_0 rfl rfl rfl ?_
  refine V_get (q0 := 0) (C := RJx4a65c) (T := TJx4a65c) (N := 3) hC dJx4a65c_toArray_d5877_1 in_Jx4a65c_Jx4a65c_toArray_d5877 rfl rfl 1 (Nat.le_of_ble_eq_true rfl) fk_Jx4a65c_toArray_d5877_9 rfl rfl ?_
  refine V_aload_n hC dJx4a65c_toArray_d5877_4 rfl rfl rfl ?_
  refine V_get (q0 := 0) (C := RJx4a65c) (T := TJx4a65c) (N := 3) hC dJx4a65c_toArray_d5877_5 in_Jx4a65c_Jx4a65c_toArray_d5877 rfl rfl 2 (Nat.le_of_ble_eq_true rfl) fk_Jx4a65c_toArray_d5877_48 rfl rfl ?_
  subst hz
  refine V_callRS (n := 2) (pre := [(x, .inr (6, [.int md, .ref (D.2 100 0), .int 0]))]) (wc := []) (suf := []) hC dJx4a65c_toArray_d5877_8 (k_J7_copyOf_1904c l D cI cZ cT ) gJx4a65c_toArray_d5877_J7_copyOf_1904c rfl ⟨rfl, rfl⟩ (by decide +kernel) ⟨Nat.le_of_ble_eq_true rfl, Nat.le_of_ble_eq_true rfl⟩ ⟨Nat.le_of_ble_eq_true rfl, Nat.le_of_ble_eq_true rfl⟩ rfl rfl rfl (by exact Nat.le_of_ble_eq_true rfl) rfl (fun r_8 u_8 h_8 => ?_)
  subst h_8
  refine V_ws (ws' := [(x, .inr (6, [.int md, .ref (D.2 100 0), .int 0])), (u_8.1, .inl (D.1 100, 0, .inr (.inr (.inr (.inr u_8.2)))))]) rfl ?_
  exact hE _ u_8 _ _ _ dJx4a65c_toArray_d5877_11 trivial rfl rfl
theorem in_Jx4a65c_Jx4a65c_grow_92f84 : ∀ w ∈ u_ws RJx4a65c TJx4a65c 3, w ∈ wsJx4a65c_grow_92f84 := by decide +kernel
theorem fk_Jx4a65c_grow_92f84_9 : Cond.fieldLink RJx4a65c 9 (TJx4a65c 1).1 (TJx4a65c 1).2.1 (TJx4a65c 1).2.2.1 ∈ wsJx4a65c_grow_92f84 := by decide +kernel
theorem gs39_Jx4a65c_grow_92f84 : Cond.fieldLink RJx4a65c 39 "java/util/ArrayList" "DEFAULTCAPACITY_EMPTY_ELEMENTDATA" "[Ljava/lang/Object;" ∈ wsJx4a65c_grow_92f84 := by decide +kernel
theorem ml79_Jx4a65c_grow_92f84 : Cond.methodLink RJx4a65c 79 Lib.Math.max.name ∈ wsJx4a65c_grow_92f84 := by decide +kernel
theorem msmax_Jx4a65c_grow_92f84 : Cond.static Lib.Math.max.name ∈ wsJx4a65c_grow_92f84 := by decide +kernel
theorem mi_Jx4a65c_grow_92f84 : Cond.initialized "java/lang/Math" ∈ wsJx4a65c_grow_92f84 := by decide +kernel
theorem mcmax_Jx4a65c_grow_92f84 : Cond.code Lib.Math.max.name Lib.Math.max.code 2 (some .int) ∈ wsJx4a65c_grow_92f84 := by decide +kernel
set_option maxRecDepth 100000 in
set_option maxHeartbeats 4000000 in
theorem k_Jx4a65c_grow_92f84 (l : Launch) (D : va_G) (cI cZ cT : ClassId) (x : Nat) (md sz n : Int32) (hn : n = 1) : CR l D kC2 (kT2 D cI cZ cT) yJx4a65c_grow_92f84 wsJx4a65c_grow_92f84 ({ frames := 1, cells := 1, slots := 10, locals := 14 }) 1 10 [.ref x, .int n] [(x, .inr (6, [.int md, .ref (D.2 100 0), .int sz]))] (S := Nat) (fun r u => r = u) (fun u => [(x, .inr (6, [.int md, .ref u, .int sz])), (u, .inl (D.1 100, 10, .inr (.inr (.inr (.inr (fun _ => none))))))]) := by
  refine CR_of (own := RJx4a65c) (by decide) rfl rfl (Nat.le_of_ble_eq_true rfl) rfl (Or.inr ⟨_, rfl⟩) (fun X A hC hE => ?_)
  subst hn
  refine V_aload_n hC dJx4a65c_grow_92f84_0 rfl rfl rfl ?_
  refine V_get (q0 := 0) (C := RJx4a65c) (T := TJx4a65c) (N := 3) hC dJx4a65c_grow_92f84_1 in_Jx4a65c_Jx4a65c_grow_92f84 rfl rfl 1 (Nat.le_of_ble_eq_true rfl) fk_Jx4a65c_grow_92f84_9 rfl rfl ?_
  refine V_alenE hC dJx4a65c_grow_92f84_4 rfl ?_
  refine V_istore_n hC dJx4a65c_grow_92f84_5 rfl (Nat.le_of_ble_eq_true rfl) rfl ?_
  refine V_iload_n hC dJx4a65c_grow_92f84_6 rfl rfl rfl ?_
  refine V_if_gt (tgt := 20) hC dJx4a65c_grow_92f84_7 (by decide) rfl (fun c => absurd c (by decide)) (fun _ => ?_)
  refine V_aload_n hC dJx4a65c_grow_92f84_10 rfl rfl rfl ?_
  refine V_get (q0 := 0) (C := RJx4a65c) (T := TJx4a65c) (N := 3) hC dJx4a65c_grow_92f84_11 in_Jx4a65c_Jx4a65c_grow_92f84 rfl rfl 1 (Nat.le_of_ble_eq_true rfl) fk_Jx4a65c_grow_92f84_9 rfl rfl ?_
  refine V_getsE hC dJx4a65c_grow_92f84_14 gs39_Jx4a65c_grow_92f84 rfl ?_
  refine V_acmp_eq (tgt := 45) hC dJx4a65c_grow_92f84_17 (by decide) rfl ?_
  refine V_aload_n hC dJx4a65c_grow_92f84_45 rfl rfl rfl ?_
  refine V_bipush (v := 10) hC dJx4a65c_grow_92f84_46 (by decide) rfl ?_
  refine V_iload_n hC dJx4a65c_grow_92f84_48 rfl rfl rfl ?_
  refine V_mmax hC dJx4a65c_grow_92f84_49 ml79_Jx4a65c_grow_92f84 msmax_Jx4a65c_grow_92f84 mi_Jx4a65c_grow_92f84 mcmax_Jx4a65c_grow_92f84 (Nat.le_of_ble_eq_true rfl) (Nat.le_of_ble_eq_true rfl) (Nat.le_of_ble_eq_true rfl) (Nat.le_of_ble_eq_true rfl) rfl ?_
  refine V_newO (N := 10) hC dJx4a65c_grow_92f84_52 (by decide +kernel : Cond.classLink RJx4a65c 7 "java/lang/Object" ∈ wsJx4a65c_grow_92f84) 4 rfl (by decide) (by decide) (Nat.le_of_ble_eq_true rfl) (Nat.le_of_ble_eq_true rfl) (Nat.le_of_ble_eq_true rfl) rfl (fun z1 => ?_)
  refine V_dup_x1 hC dJx4a65c_grow_92f84_55 rfl rfl rfl ?_
  refine V_put (q0 := 0) (C := RJx4a65c) (T := TJx4a65c) (N := 3) hC dJx4a65c_grow_92f84_56 in_Jx4a65c_Jx4a65c_grow_92f84 tyJx4a65c tyJx4a65c_ok nmJx4a65c rfl rfl 1 (Nat.le_of_ble_eq_true rfl) fk_Jx4a65c_grow_92f84_9 rfl rfl rfl rfl (Nat.le_of_ble_eq_true rfl) rfl rfl ?_
  exact hE _ z1 _ _ _ dJx4a65c_grow_92f84_59 trivial rfl rfl
theorem in_Jx4a65c_Jx4a65c_grow_d5877 : ∀ w ∈ u_ws RJx4a65c TJx4a65c 3, w ∈ wsJx4a65c_grow_d5877 := by decide +kernel
theorem fk_Jx4a65c_grow_d5877_48 : Cond.fieldLink RJx4a65c 48 (TJx4a65c 2).1 (TJx4a65c 2).2.1 (TJx4a65c 2).2.2.1 ∈ wsJx4a65c_grow_d5877 := by decide +kernel
set_option maxRecDepth 100000 in
set_option maxHeartbeats 4000000 in
theorem k_Jx4a65c_grow_d5877 (l : Launch) (D : va_G) (cI cZ cT : ClassId) (x : Nat) (md sz : Int32) (hz : sz = 0) : CR l D kC2 (kT2 D cI cZ cT) yJx4a65c_grow_d5877 wsJx4a65c_grow_d5877 ({ frames := 2, cells := 1, slots := 10, locals := 37 }) 1 10 [.ref x] [(x, .inr (6, [.int md, .ref (D.2 100 0), .int sz]))] (S := Nat) (fun r u => r = u) (fun u => [(x, .inr (6, [.int md, .ref u, .int sz])), (u, .inl (D.1 100, 10, .inr (.inr (.inr (.inr (fun _ => none))))))]) := by
  refine CR_of (own := RJx4a65c) (by decide) rfl rfl (Nat.le_of_ble_eq_true rfl) rfl (Or.inr ⟨_, rfl⟩) (fun X A hC hE => ?_)
  refine V_aload_n hC dJx4a65c_grow_d5877_0 rfl rfl rfl ?_
  refine V_aload_n hC dJx4a65c_grow_d5877_1 rfl rfl rfl ?_
  refine V_get (q0 := 0) (C := RJx4a65c) (T := TJx4a65c) (N := 3) hC dJx4a65c_grow_d5877_2 in_Jx4a65c_Jx4a65c_grow_d5877 rfl rfl 2 (Nat.le_of_ble_eq_true rfl) fk_Jx4a65c_grow_d5877_48 rfl rfl ?_
  refine V_iconst (v := 1) hC dJx4a65c_grow_d5877_5 (by decide) rfl ?_
  refine V_iadd hC dJx4a65c_grow_d5877_6 rfl ?_
  refine V_callRV (q0 := 0) (n := 1) (pre := []) (suf := []) hC dJx4a65c_grow_d5877_7 (k_Jx4a65c_grow_92f84 l D cI cZ cT x _ _ _ (by rw [hz]; decide)) gJx4a65c_grow_d5877_Jx4a65c_grow_92f84 rfl ⟨rfl, rfl⟩ (by decide +kernel) ⟨Nat.le_of_ble_eq_true rfl, Nat.le_of_ble_eq_true rfl⟩ ⟨Nat.le_of_ble_eq_true rfl, Nat.le_of_ble_eq_true rfl⟩ rfl rfl rfl rfl rfl (by exact Nat.le_of_ble_eq_true rfl) rfl (fun r_7 u_7 h_7 => ?_)
  subst h_7
  refine V_ws (ws' := [(x, .inr (6, [.int md, .ref r_7, .int sz])), (r_7, .inl (D.1 100, 10, .inr (.inr (.inr (.inr (fun _ => none))))))]) rfl ?_
  exact hE _ r_7 _ _ _ dJx4a65c_grow_d5877_10 trivial rfl rfl
theorem in_Jx4a65c_Jx4a65c_add_72be8 : ∀ w ∈ u_ws RJx4a65c TJx4a65c 3, w ∈ wsJx4a65c_add_72be8 := by decide +kernel
theorem fk_Jx4a65c_add_72be8_48 : Cond.fieldLink RJx4a65c 48 (TJx4a65c 2).1 (TJx4a65c 2).2.1 (TJx4a65c 2).2.2.1 ∈ wsJx4a65c_add_72be8 := by decide +kernel
set_option maxRecDepth 100000 in
set_option maxHeartbeats 4000000 in
theorem k_Jx4a65c_add_72be8 (l : Launch) (D : va_G) (cI cZ cT : ClassId) (x q : Nat) (f : Nat → Int32) (md sz : Int32) (hz : sz = 0) : CV l D kC2 (kT2 D cI cZ cT) yJx4a65c_add_72be8 wsJx4a65c_add_72be8 ({ frames := 3, cells := 1, slots := 10, locals := 57 }) 1 10 [.ref x, .ref q, .ref (D.2 100 0), .int sz] [(x, .inr (6, [.int md, .ref (D.2 100 0), .int sz])), (q, .inl (cI, 2, .inl f))] (S := Nat) (fun _ => True) (fun u => [(x, .inr (6, [.int md, .ref u, .int (sz + 1)])), (u, .inl (D.1 100, 10, .inr (.inr (.inr (.inr (va_up (fun _ => none) 0 (some q))))))), (q, .inl (cI, 2, .inl f))]) := by
  refine CV_of (own := RJx4a65c) (by decide) rfl rfl (Nat.le_of_ble_eq_true rfl) rfl (fun X A hC hE => ?_)
  refine V_iload_n hC dJx4a65c_add_72be8_0 rfl rfl rfl ?_
  refine V_aload_n hC dJx4a65c_add_72be8_1 rfl rfl rfl ?_
  refine V_alenE hC dJx4a65c_add_72be8_2 rfl ?_
  refine V_icmp_ne (tgt := 11) hC dJx4a65c_add_72be8_3 (by decide) rfl (fun c_3 => ?_) (fun c_3 => ?_)
  · exact absurd hz c_3
  · refine V_aload_n hC dJx4a65c_add_72be8_6 rfl rfl rfl ?_
    refine V_callRV (q0 := 0) (n := 0) (pre := []) (suf := [(q, .inl (cI, 2, .inl f))]) hC dJx4a65c_add_72be8_7 (k_Jx4a65c_grow_d5877 l D cI cZ cT x _ _ hz) gJx4a65c_add_72be8_Jx4a65c_grow_d5877 rfl ⟨rfl, rfl⟩ (by decide +kernel) ⟨Nat.le_of_ble_eq_true rfl, Nat.le_of_ble_eq_true rfl⟩ ⟨Nat.le_of_ble_eq_true rfl, Nat.le_of_ble_eq_true rfl⟩ rfl rfl rfl rfl rfl (by exact Nat.le_of_ble_eq_true rfl) rfl (fun r_7 u_7 h_7 => ?_)
    subst h_7
    refine V_ws (ws' := [(x, .inr (6, [.int md, .ref r_7, .int sz])), (r_7, .inl (D.1 100, 10, .inr (.inr (.inr (.inr (fun _ => none)))))), (q, .inl (cI, 2, .inl f))]) rfl ?_
    refine V_astore_n hC dJx4a65c_add_72be8_10 rfl (Nat.le_of_ble_eq_true rfl) rfl ?_
    refine V_aload_n hC dJx4a65c_add_72be8_11 rfl rfl rfl ?_
    refine V_iload_n hC dJx4a65c_add_72be8_12 rfl rfl rfl ?_
    refine V_aload_n hC dJx4a65c_add_72be8_13 rfl rfl rfl ?_
    refine V_astO (q0 := 1) (qk := 2) (i := 0) hC dJx4a65c_add_72be8_14 rfl 4 rfl rfl 0 rfl (by rw [hz]; rfl) (by decide) (by decide) rfl rfl ?_
    refine V_aload_n hC dJx4a65c_add_72be8_15 rfl rfl rfl ?_
    refine V_iload_n hC dJx4a65c_add_72be8_16 rfl rfl rfl ?_
    refine V_iconst (v := 1) hC dJx4a65c_add_72be8_17 (by decide) rfl ?_
    refine V_iadd hC dJx4a65c_add_72be8_18 rfl ?_
    refine V_put (q0 := 0) (C := RJx4a65c) (T := TJx4a65c) (N := 3) hC dJx4a65c_add_72be8_19 in_Jx4a65c_Jx4a65c_add_72be8 tyJx4a65c tyJx4a65c_ok nmJx4a65c rfl rfl 2 (Nat.le_of_ble_eq_true rfl) fk_Jx4a65c_add_72be8_48 rfl rfl rfl rfl (Nat.le_of_ble_eq_true rfl) rfl rfl ?_
    refine V_widen (k := 1) (n := 10) (Nat.le_of_ble_eq_true rfl) (Nat.le_of_ble_eq_true rfl) ?_
    exact hE r_7 _ _ _ dJx4a65c_add_72be8_22 trivial rfl trivial
theorem in_Jx4a65c_Jx4a65c_add_9ea2d : ∀ w ∈ u_ws RJx4a65c TJx4a65c 3, w ∈ wsJx4a65c_add_9ea2d := by decide +kernel
theorem fu63_Jx4a65c_add_9ea2d : Cond.fieldLink RJx4a65c 63 RJx4a65c (TJx4a65c 0).2.1 (TJx4a65c 0).2.2.1 ∈ wsJx4a65c_add_9ea2d := by decide +kernel
theorem sm63_Jx4a65c_add_9ea2d : Cond.sameField RJx4a65c (TJx4a65c 0).1 (TJx4a65c 0).2.1 (TJx4a65c 0).2.2.1 ∈ wsJx4a65c_add_9ea2d := by decide +kernel
theorem fk_Jx4a65c_add_9ea2d_9 : Cond.fieldLink RJx4a65c 9 (TJx4a65c 1).1 (TJx4a65c 1).2.1 (TJx4a65c 1).2.2.1 ∈ wsJx4a65c_add_9ea2d := by decide +kernel
theorem fk_Jx4a65c_add_9ea2d_48 : Cond.fieldLink RJx4a65c 48 (TJx4a65c 2).1 (TJx4a65c 2).2.1 (TJx4a65c 2).2.2.1 ∈ wsJx4a65c_add_9ea2d := by decide +kernel
set_option maxRecDepth 100000 in
set_option maxHeartbeats 4000000 in
theorem k_Jx4a65c_add_9ea2d (l : Launch) (D : va_G) (cI cZ cT : ClassId) (x q : Nat) (f : Nat → Int32) (md sz : Int32) (hz : sz = 0) : CI l D kC2 (kT2 D cI cZ cT) yJx4a65c_add_9ea2d wsJx4a65c_add_9ea2d ({ frames := 4, cells := 1, slots := 10, locals := 80 }) 1 10 [.ref x, .ref q] [(x, .inr (6, [.int md, .ref (D.2 100 0), .int sz])), (q, .inl (cI, 2, .inl f))] (S := Nat) (fun r _ => r = 1) (fun u => [(x, .inr (6, [.int (md + 1), .ref u, .int (sz + 1)])), (u, .inl (D.1 100, 10, .inr (.inr (.inr (.inr (va_up (fun _ => none) 0 (some q))))))), (q, .inl (cI, 2, .inl f))]) := by
  refine CI_of (own := RJx4a65c) (by decide) rfl rfl (Nat.le_of_ble_eq_true rfl) rfl (fun X A hC hE => ?_)
  refine V_aload_n hC dJx4a65c_add_9ea2d_0 rfl rfl rfl ?_
  refine V_dup hC dJx4a65c_add_9ea2d_1 rfl rfl ?_
  refine V_getU (q0 := 0) (C := RJx4a65c) (T := TJx4a65c) (N := 3) (ref := RJx4a65c) hC dJx4a65c_add_9ea2d_2 in_Jx4a65c_Jx4a65c_add_9ea2d rfl rfl 0 (Nat.le_of_ble_eq_true rfl) fu63_Jx4a65c_add_9ea2d sm63_Jx4a65c_add_9ea2d rfl rfl ?_
  refine V_iconst (v := 1) hC dJx4a65c_add_9ea2d_5 (by decide) rfl ?_
  refine V_iadd hC dJx4a65c_add_9ea2d_6 rfl ?_
  refine V_putU (q0 := 0) (ref := RJx4a65c) (C := RJx4a65c) (T := TJx4a65c) (N := 3) hC dJx4a65c_add_9ea2d_7 in_Jx4a65c_Jx4a65c_add_9ea2d tyJx4a65c tyJx4a65c_ok nmJx4a65c rfl rfl 0 (Nat.le_of_ble_eq_true rfl) fu63_Jx4a65c_add_9ea2d sm63_Jx4a65c_add_9ea2d rfl rfl rfl rfl (Nat.le_of_ble_eq_true rfl) rfl rfl ?_
  refine V_aload_n hC dJx4a65c_add_9ea2d_10 rfl rfl rfl ?_
  refine V_aload_n hC dJx4a65c_add_9ea2d_11 rfl rfl rfl ?_
  refine V_aload_n hC dJx4a65c_add_9ea2d_12 rfl rfl rfl ?_
  refine V_get (q0 := 0) (C := RJx4a65c) (T := TJx4a65c) (N := 3) hC dJx4a65c_add_9ea2d_13 in_Jx4a65c_Jx4a65c_add_9ea2d rfl rfl 1 (Nat.le_of_ble_eq_true rfl) fk_Jx4a65c_add_9ea2d_9 rfl rfl ?_
  refine V_aload_n hC dJx4a65c_add_9ea2d_16 rfl rfl rfl ?_
  refine V_get (q0 := 0) (C := RJx4a65c) (T := TJx4a65c) (N := 3) hC dJx4a65c_add_9ea2d_17 in_Jx4a65c_Jx4a65c_add_9ea2d rfl rfl 2 (Nat.le_of_ble_eq_true rfl) fk_Jx4a65c_add_9ea2d_48 rfl rfl ?_
  refine V_callVVf (q0 := 0) (n := 3) (pre := []) (suf := []) hC dJx4a65c_add_9ea2d_20 (k_Jx4a65c_add_72be8 l D cI cZ cT x q _ _ _ hz) gJx4a65c_add_9ea2d_Jx4a65c_add_72be8 rfl ⟨rfl, rfl⟩ (by decide +kernel) ⟨Nat.le_of_ble_eq_true rfl, Nat.le_of_ble_eq_true rfl⟩ ⟨Nat.le_of_ble_eq_true rfl, Nat.le_of_ble_eq_true rfl⟩ rfl rfl rfl rfl rfl (by exact Nat.le_of_ble_eq_true rfl) rfl (fun u_20 h_20 => ?_)
  refine V_ws (ws' := [(x, .inr (6, [.int (md + 1), .ref u_20, .int (sz + 1)])), (u_20, .inl (D.1 100, 10, .inr (.inr (.inr (.inr (va_up (fun _ => none) 0 (some q))))))), (q, .inl (cI, 2, .inl f))]) rfl ?_
  refine V_iconst (v := 1) hC dJx4a65c_add_9ea2d_23 (by decide) rfl ?_
  refine V_widen (k := 1) (n := 10) (Nat.le_of_ble_eq_true rfl) (Nat.le_of_ble_eq_true rfl) ?_
  exact hE _ u_20 _ _ _ dJx4a65c_add_9ea2d_24 rfl rfl (by first | rfl | (simp [*]; done))
