theorem oil_X2_init : Cond.methodLink RX2 3 objectInit ∈ wsX2_init := by decide +kernel
theorem oii_X2_init : Cond.instanceMethod objectInit ∈ wsX2_init := by decide +kernel
theorem oic_X2_init : Cond.code objectInit ⟨#[0xb1]⟩ 1 none ∈ wsX2_init := by decide +kernel
theorem in_X2_X2_init : ∀ w ∈ u_ws RX2 TX2 18, w ∈ wsX2_init := by decide +kernel
theorem fk_X2_init_9 : Cond.fieldLink RX2 9 (TX2 0).1 (TX2 0).2.1 (TX2 0).2.2.1 ∈ wsX2_init := by decide +kernel
theorem fk_X2_init_15 : Cond.fieldLink RX2 15 (TX2 1).1 (TX2 1).2.1 (TX2 1).2.2.1 ∈ wsX2_init := by decide +kernel
theorem fk_X2_init_18 : Cond.fieldLink RX2 18 (TX2 2).1 (TX2 2).2.1 (TX2 2).2.2.1 ∈ wsX2_init := by decide +kernel
theorem fk_X2_init_21 : Cond.fieldLink RX2 21 (TX2 3).1 (TX2 3).2.1 (TX2 3).2.2.1 ∈ wsX2_init := by decide +kernel
theorem fk_X2_init_25 : Cond.fieldLink RX2 25 (TX2 4).1 (TX2 4).2.1 (TX2 4).2.2.1 ∈ wsX2_init := by decide +kernel
theorem fk_X2_init_28 : Cond.fieldLink RX2 28 (TX2 5).1 (TX2 5).2.1 (TX2 5).2.2.1 ∈ wsX2_init := by decide +kernel
theorem fk_X2_init_31 : Cond.fieldLink RX2 31 (TX2 6).1 (TX2 6).2.1 (TX2 6).2.2.1 ∈ wsX2_init := by decide +kernel
theorem fk_X2_init_34 : Cond.fieldLink RX2 34 (TX2 7).1 (TX2 7).2.1 (TX2 7).2.2.1 ∈ wsX2_init := by decide +kernel
theorem fk_X2_init_37 : Cond.fieldLink RX2 37 (TX2 8).1 (TX2 8).2.1 (TX2 8).2.2.1 ∈ wsX2_init := by decide +kernel
theorem fk_X2_init_40 : Cond.fieldLink RX2 40 (TX2 9).1 (TX2 9).2.1 (TX2 9).2.2.1 ∈ wsX2_init := by decide +kernel
theorem fk_X2_init_43 : Cond.fieldLink RX2 43 (TX2 10).1 (TX2 10).2.1 (TX2 10).2.2.1 ∈ wsX2_init := by decide +kernel
theorem fk_X2_init_46 : Cond.fieldLink RX2 46 (TX2 11).1 (TX2 11).2.1 (TX2 11).2.2.1 ∈ wsX2_init := by decide +kernel
theorem fk_X2_init_49 : Cond.fieldLink RX2 49 (TX2 12).1 (TX2 12).2.1 (TX2 12).2.2.1 ∈ wsX2_init := by decide +kernel
theorem fk_X2_init_52 : Cond.fieldLink RX2 52 (TX2 13).1 (TX2 13).2.1 (TX2 13).2.2.1 ∈ wsX2_init := by decide +kernel
theorem fk_X2_init_55 : Cond.fieldLink RX2 55 (TX2 14).1 (TX2 14).2.1 (TX2 14).2.2.1 ∈ wsX2_init := by decide +kernel
theorem fk_X2_init_58 : Cond.fieldLink RX2 58 (TX2 15).1 (TX2 15).2.1 (TX2 15).2.2.1 ∈ wsX2_init := by decide +kernel
theorem fk_X2_init_61 : Cond.fieldLink RX2 61 (TX2 16).1 (TX2 16).2.1 (TX2 16).2.2.1 ∈ wsX2_init := by decide +kernel
theorem k64_X2_init : Cond.constant RX2 64 1000000 ∈ wsX2_init := by decide +kernel
theorem fk_X2_init_65 : Cond.fieldLink RX2 65 (TX2 17).1 (TX2 17).2.1 (TX2 17).2.2.1 ∈ wsX2_init := by decide +kernel
set_option maxRecDepth 100000 in
set_option maxHeartbeats 4000000 in
theorem k_X2_init (l : Launch) (D : va_G) (cI cZ cT : ClassId) (x : Nat) : CV l D kCl (kTy cI cZ cT) yX2_init wsX2_init ({ frames := 1, cells := 0, slots := 0, locals := 12 }) 0 0 [.ref x] [(x, .inr (2, [.int 0, .int 0, .int 0, .int 0, .int 0, .int 0, .int 0, .int 0, .int 0, .int 0, .int 0, .int 0, .int 0, .int 0, .int 0, .int 0, .int 0, .int 0]))] (S := Unit) (fun _ => True) (fun _ => [(x, .inr (2, trF tauI))]) := by
  refine CVI_of (own := RX2) (by decide) rfl rfl (Nat.le_of_ble_eq_true rfl) rfl (fun X A hC hmn hE => ?_)
  refine V_aload_n hC dX2_init_0 rfl rfl rfl ?_
  refine V_objInit hC dX2_init_1 oil_X2_init oii_X2_init oic_X2_init (Nat.le_of_ble_eq_true rfl) (Nat.le_of_ble_eq_true rfl) rfl ?_
  refine V_aload_n hC dX2_init_4 rfl rfl rfl ?_
  refine V_iconst (v := 0) hC dX2_init_5 (by decide) rfl ?_
  refine V_put (q0 := 0) (C := RX2) (T := TX2) (N := 18) hC dX2_init_6 in_X2_X2_init tyX2 tyX2_ok nmX2 rfl rfl 0 (Nat.le_of_ble_eq_true rfl) fk_X2_init_9 rfl rfl rfl rfl (Nat.le_of_ble_eq_true rfl) rfl rfl ?_
  refine V_aload_n hC dX2_init_9 rfl rfl rfl ?_
  refine V_iconst (v := 0) hC dX2_init_10 (by decide) rfl ?_
  refine V_put (q0 := 0) (C := RX2) (T := TX2) (N := 18) hC dX2_init_11 in_X2_X2_init tyX2 tyX2_ok nmX2 rfl rfl 1 (Nat.le_of_ble_eq_true rfl) fk_X2_init_15 rfl rfl rfl rfl (Nat.le_of_ble_eq_true rfl) rfl rfl ?_
  refine V_aload_n hC dX2_init_14 rfl rfl rfl ?_
  refine V_iconst (v := 0) hC dX2_init_15 (by decide) rfl ?_
  refine V_put (q0 := 0) (C := RX2) (T := TX2) (N := 18) hC dX2_init_16 in_X2_X2_init tyX2 tyX2_ok nmX2 rfl rfl 2 (Nat.le_of_ble_eq_true rfl) fk_X2_init_18 rfl rfl rfl rfl (Nat.le_of_ble_eq_true rfl) rfl rfl ?_
  refine V_aload_n hC dX2_init_19 rfl rfl rfl ?_
  refine V_iconst (v := 1) hC dX2_init_20 (by decide) rfl ?_
  refine V_put (q0 := 0) (C := RX2) (T := TX2) (N := 18) hC dX2_init_21 in_X2_X2_init tyX2 tyX2_ok nmX2 rfl rfl 3 (Nat.le_of_ble_eq_true rfl) fk_X2_init_21 rfl rfl rfl rfl (Nat.le_of_ble_eq_true rfl) rfl rfl ?_
  refine V_aload_n hC dX2_init_24 rfl rfl rfl ?_
  refine V_iconst (v := 0) hC dX2_init_25 (by decide) rfl ?_
  refine V_put (q0 := 0) (C := RX2) (T := TX2) (N := 18) hC dX2_init_26 in_X2_X2_init tyX2 tyX2_ok nmX2 rfl rfl 4 (Nat.le_of_ble_eq_true rfl) fk_X2_init_25 rfl rfl rfl rfl (Nat.le_of_ble_eq_true rfl) rfl rfl ?_
  refine V_aload_n hC dX2_init_29 rfl rfl rfl ?_
  refine V_iconst (v := 0) hC dX2_init_30 (by decide) rfl ?_
  refine V_put (q0 := 0) (C := RX2) (T := TX2) (N := 18) hC dX2_init_31 in_X2_X2_init tyX2 tyX2_ok nmX2 rfl rfl 5 (Nat.le_of_ble_eq_true rfl) fk_X2_init_28 rfl rfl rfl rfl (Nat.le_of_ble_eq_true rfl) rfl rfl ?_
  refine V_aload_n hC dX2_init_34 rfl rfl rfl ?_
  refine V_iconst (v := 0) hC dX2_init_35 (by decide) rfl ?_
  refine V_put (q0 := 0) (C := RX2) (T := TX2) (N := 18) hC dX2_init_36 in_X2_X2_init tyX2 tyX2_ok nmX2 rfl rfl 6 (Nat.le_of_ble_eq_true rfl) fk_X2_init_31 rfl rfl rfl rfl (Nat.le_of_ble_eq_true rfl) rfl rfl ?_
  refine V_aload_n hC dX2_init_39 rfl rfl rfl ?_
  refine V_iconst (v := 0) hC dX2_init_40 (by decide) rfl ?_
  refine V_put (q0 := 0) (C := RX2) (T := TX2) (N := 18) hC dX2_init_41 in_X2_X2_init tyX2 tyX2_ok nmX2 rfl rfl 7 (Nat.le_of_ble_eq_true rfl) fk_X2_init_34 rfl rfl rfl rfl (Nat.le_of_ble_eq_true rfl) rfl rfl ?_
  refine V_aload_n hC dX2_init_44 rfl rfl rfl ?_
  refine V_iconst (v := 0) hC dX2_init_45 (by decide) rfl ?_
  refine V_put (q0 := 0) (C := RX2) (T := TX2) (N := 18) hC dX2_init_46 in_X2_X2_init tyX2 tyX2_ok nmX2 rfl rfl 8 (Nat.le_of_ble_eq_true rfl) fk_X2_init_37 rfl rfl rfl rfl (Nat.le_of_ble_eq_true rfl) rfl rfl ?_
  refine V_aload_n hC dX2_init_49 rfl rfl rfl ?_
  refine V_iconst (v := 0) hC dX2_init_50 (by decide) rfl ?_
  refine V_put (q0 := 0) (C := RX2) (T := TX2) (N := 18) hC dX2_init_51 in_X2_X2_init tyX2 tyX2_ok nmX2 rfl rfl 9 (Nat.le_of_ble_eq_true rfl) fk_X2_init_40 rfl rfl rfl rfl (Nat.le_of_ble_eq_true rfl) rfl rfl ?_
  refine V_aload_n hC dX2_init_54 rfl rfl rfl ?_
  refine V_iconst (v := 0) hC dX2_init_55 (by decide) rfl ?_
  refine V_put (q0 := 0) (C := RX2) (T := TX2) (N := 18) hC dX2_init_56 in_X2_X2_init tyX2 tyX2_ok nmX2 rfl rfl 10 (Nat.le_of_ble_eq_true rfl) fk_X2_init_43 rfl rfl rfl rfl (Nat.le_of_ble_eq_true rfl) rfl rfl ?_
  refine V_aload_n hC dX2_init_59 rfl rfl rfl ?_
  refine V_iconst (v := 0) hC dX2_init_60 (by decide) rfl ?_
  refine V_put (q0 := 0) (C := RX2) (T := TX2) (N := 18) hC dX2_init_61 in_X2_X2_init tyX2 tyX2_ok nmX2 rfl rfl 11 (Nat.le_of_ble_eq_true rfl) fk_X2_init_46 rfl rfl rfl rfl (Nat.le_of_ble_eq_true rfl) rfl rfl ?_
  refine V_aload_n hC dX2_init_64 rfl rfl rfl ?_
  refine V_iconst (v := 0) hC dX2_init_65 (by decide) rfl ?_
  refine V_put (q0 := 0) (C := RX2) (T := TX2) (N := 18) hC dX2_init_66 in_X2_X2_init tyX2 tyX2_ok nmX2 rfl rfl 12 (Nat.le_of_ble_eq_true rfl) fk_X2_init_49 rfl rfl rfl rfl (Nat.le_of_ble_eq_true rfl) rfl rfl ?_
  refine V_aload_n hC dX2_init_69 rfl rfl rfl ?_
  refine V_iconst (v := 0) hC dX2_init_70 (by decide) rfl ?_
  refine V_put (q0 := 0) (C := RX2) (T := TX2) (N := 18) hC dX2_init_71 in_X2_X2_init tyX2 tyX2_ok nmX2 rfl rfl 13 (Nat.le_of_ble_eq_true rfl) fk_X2_init_52 rfl rfl rfl rfl (Nat.le_of_ble_eq_true rfl) rfl rfl ?_
  refine V_aload_n hC dX2_init_74 rfl rfl rfl ?_
  refine V_iconst (v := 0) hC dX2_init_75 (by decide) rfl ?_
  refine V_put (q0 := 0) (C := RX2) (T := TX2) (N := 18) hC dX2_init_76 in_X2_X2_init tyX2 tyX2_ok nmX2 rfl rfl 14 (Nat.le_of_ble_eq_true rfl) fk_X2_init_55 rfl rfl rfl rfl (Nat.le_of_ble_eq_true rfl) rfl rfl ?_
  refine V_aload_n hC dX2_init_79 rfl rfl rfl ?_
  refine V_iconst (v := 0) hC dX2_init_80 (by decide) rfl ?_
  refine V_put (q0 := 0) (C := RX2) (T := TX2) (N := 18) hC dX2_init_81 in_X2_X2_init tyX2 tyX2_ok nmX2 rfl rfl 15 (Nat.le_of_ble_eq_true rfl) fk_X2_init_58 rfl rfl rfl rfl (Nat.le_of_ble_eq_true rfl) rfl rfl ?_
  refine V_aload_n hC dX2_init_84 rfl rfl rfl ?_
  refine V_iconst (v := 0) hC dX2_init_85 (by decide) rfl ?_
  refine V_put (q0 := 0) (C := RX2) (T := TX2) (N := 18) hC dX2_init_86 in_X2_X2_init tyX2 tyX2_ok nmX2 rfl rfl 16 (Nat.le_of_ble_eq_true rfl) fk_X2_init_61 rfl rfl rfl rfl (Nat.le_of_ble_eq_true rfl) rfl rfl ?_
  refine V_aload_n hC dX2_init_89 rfl rfl rfl ?_
  refine V_ldc (v := 1000000) hC dX2_init_90 k64_X2_init rfl ?_
  refine V_put (q0 := 0) (C := RX2) (T := TX2) (N := 18) hC dX2_init_92 in_X2_X2_init tyX2 tyX2_ok nmX2 rfl rfl 17 (Nat.le_of_ble_eq_true rfl) fk_X2_init_65 rfl rfl rfl rfl (Nat.le_of_ble_eq_true rfl) rfl rfl ?_
  exact hE () _ _ _ dX2_init_95 trivial rfl trivial
theorem oil_X1_init : Cond.methodLink RX1 3 objectInit ∈ wsX1_init := by decide +kernel
theorem oii_X1_init : Cond.instanceMethod objectInit ∈ wsX1_init := by decide +kernel
theorem oic_X1_init : Cond.code objectInit ⟨#[0xb1]⟩ 1 none ∈ wsX1_init := by decide +kernel
theorem aci_X1_init : Cond.arrayClass .int ∈ wsX1_init := by decide +kernel
theorem in_X1_X1_init : ∀ w ∈ u_ws RX1 TX1 10, w ∈ wsX1_init := by decide +kernel
theorem fk_X1_init_9 : Cond.fieldLink RX1 9 (TX1 0).1 (TX1 0).2.1 (TX1 0).2.2.1 ∈ wsX1_init := by decide +kernel
theorem fk_X1_init_15 : Cond.fieldLink RX1 15 (TX1 1).1 (TX1 1).2.1 (TX1 1).2.2.1 ∈ wsX1_init := by decide +kernel
theorem acz_X1_init : Cond.arrayClass .boolean ∈ wsX1_init := by decide +kernel
theorem fk_X1_init_18 : Cond.fieldLink RX1 18 (TX1 2).1 (TX1 2).2.1 (TX1 2).2.2.1 ∈ wsX1_init := by decide +kernel
theorem fk_X1_init_22 : Cond.fieldLink RX1 22 (TX1 3).1 (TX1 3).2.1 (TX1 3).2.2.1 ∈ wsX1_init := by decide +kernel
theorem fk_X1_init_25 : Cond.fieldLink RX1 25 (TX1 4).1 (TX1 4).2.1 (TX1 4).2.2.1 ∈ wsX1_init := by decide +kernel
theorem fk_X1_init_28 : Cond.fieldLink RX1 28 (TX1 5).1 (TX1 5).2.1 (TX1 5).2.2.1 ∈ wsX1_init := by decide +kernel
theorem fk_X1_init_31 : Cond.fieldLink RX1 31 (TX1 6).1 (TX1 6).2.1 (TX1 6).2.2.1 ∈ wsX1_init := by decide +kernel
theorem fk_X1_init_35 : Cond.fieldLink RX1 35 (TX1 7).1 (TX1 7).2.1 (TX1 7).2.2.1 ∈ wsX1_init := by decide +kernel
theorem fk_X1_init_38 : Cond.fieldLink RX1 38 (TX1 8).1 (TX1 8).2.1 (TX1 8).2.2.1 ∈ wsX1_init := by decide +kernel
theorem fk_X1_init_41 : Cond.fieldLink RX1 41 (TX1 9).1 (TX1 9).2.1 (TX1 9).2.2.1 ∈ wsX1_init := by decide +kernel
set_option maxRecDepth 100000 in
set_option maxHeartbeats 4000000 in
theorem k_X1_init (l : Launch) (D : va_G) (cI cZ cT : ClassId) (x : Nat) : CV l D kCl (kTy cI cZ cT) yX1_init wsX1_init ({ frames := 1, cells := 8, slots := 78, locals := 12 }) 8 78 [.ref x] [(x, .inr (1, [.null, .null, .null, .null, .null, .null, .int 0, .null, .null, .int 0]))] (S := (Nat → Nat)) (fun _ => True) (fun u => Wt cI cZ x (u 0) (u 1) (u 2) (u 3) (u 4) (u 5) (u 6) (u 7) (fl 20) (fr 20)) := by
  refine CVI_of (own := RX1) (by decide) rfl rfl (Nat.le_of_ble_eq_true rfl) rfl (fun X A hC hmn hE => ?_)
  refine V_aload_n hC dX1_init_0 rfl rfl rfl ?_
  refine V_objInit hC dX1_init_1 oil_X1_init oii_X1_init oic_X1_init (Nat.le_of_ble_eq_true rfl) (Nat.le_of_ble_eq_true rfl) rfl ?_
  refine V_aload_n hC dX1_init_4 rfl rfl rfl ?_
  refine V_bipush (v := 20) hC dX1_init_5 (by decide) rfl ?_
  refine V_newai hC dX1_init_7 rfl aci_X1_init 0 rfl (by decide) rfl (Nat.le_of_ble_eq_true rfl) (Nat.le_of_ble_eq_true rfl) (Nat.le_of_ble_eq_true rfl) rfl (fun z1 => ?_)
  refine V_putF (q0 := 0) (C := RX1) (T := TX1) (N := 10) hC hmn dX1_init_9 in_X1_X1_init tyX1 tyX1_ok nmX1 rfl rfl 0 (Nat.le_of_ble_eq_true rfl) fk_X1_init_9 rfl rfl rfl rfl rfl (Nat.le_of_ble_eq_true rfl) rfl rfl ?_
  refine V_aload_n hC dX1_init_12 rfl rfl rfl ?_
  refine V_bipush (v := 20) hC dX1_init_13 (by decide) rfl ?_
  refine V_newai hC dX1_init_15 rfl aci_X1_init 0 rfl (by decide) rfl (Nat.le_of_ble_eq_true rfl) (Nat.le_of_ble_eq_true rfl) (Nat.le_of_ble_eq_true rfl) rfl (fun z2 => ?_)
  refine V_putF (q0 := 0) (C := RX1) (T := TX1) (N := 10) hC hmn dX1_init_17 in_X1_X1_init tyX1 tyX1_ok nmX1 rfl rfl 1 (Nat.le_of_ble_eq_true rfl) fk_X1_init_15 rfl rfl rfl rfl rfl (Nat.le_of_ble_eq_true rfl) rfl rfl ?_
  refine V_aload_n hC dX1_init_20 rfl rfl rfl ?_
  refine V_bipush (v := 20) hC dX1_init_21 (by decide) rfl ?_
  refine V_newaz hC dX1_init_23 rfl acz_X1_init 1 rfl (by decide) rfl (Nat.le_of_ble_eq_true rfl) (Nat.le_of_ble_eq_true rfl) (Nat.le_of_ble_eq_true rfl) rfl (fun z3 => ?_)
  refine V_putF (q0 := 0) (C := RX1) (T := TX1) (N := 10) hC hmn dX1_init_25 in_X1_X1_init tyX1 tyX1_ok nmX1 rfl rfl 2 (Nat.le_of_ble_eq_true rfl) fk_X1_init_18 rfl rfl rfl rfl rfl (Nat.le_of_ble_eq_true rfl) rfl rfl ?_
  refine V_aload_n hC dX1_init_28 rfl rfl rfl ?_
  refine V_iconst (v := 4) hC dX1_init_29 (by decide) rfl ?_
  refine V_newai hC dX1_init_30 rfl aci_X1_init 0 rfl (by decide) rfl (Nat.le_of_ble_eq_true rfl) (Nat.le_of_ble_eq_true rfl) (Nat.le_of_ble_eq_true rfl) rfl (fun z4 => ?_)
  refine V_putF (q0 := 0) (C := RX1) (T := TX1) (N := 10) hC hmn dX1_init_32 in_X1_X1_init tyX1 tyX1_ok nmX1 rfl rfl 3 (Nat.le_of_ble_eq_true rfl) fk_X1_init_22 rfl rfl rfl rfl rfl (Nat.le_of_ble_eq_true rfl) rfl rfl ?_
  refine V_aload_n hC dX1_init_35 rfl rfl rfl ?_
  refine V_iconst (v := 4) hC dX1_init_36 (by decide) rfl ?_
  refine V_newai hC dX1_init_37 rfl aci_X1_init 0 rfl (by decide) rfl (Nat.le_of_ble_eq_true rfl) (Nat.le_of_ble_eq_true rfl) (Nat.le_of_ble_eq_true rfl) rfl (fun z5 => ?_)
  refine V_putF (q0 := 0) (C := RX1) (T := TX1) (N := 10) hC hmn dX1_init_39 in_X1_X1_init tyX1 tyX1_ok nmX1 rfl rfl 4 (Nat.le_of_ble_eq_true rfl) fk_X1_init_25 rfl rfl rfl rfl rfl (Nat.le_of_ble_eq_true rfl) rfl rfl ?_
  refine V_aload_n hC dX1_init_42 rfl rfl rfl ?_
  refine V_iconst (v := 4) hC dX1_init_43 (by decide) rfl ?_
  refine V_newai hC dX1_init_44 rfl aci_X1_init 0 rfl (by decide) rfl (Nat.le_of_ble_eq_true rfl) (Nat.le_of_ble_eq_true rfl) (Nat.le_of_ble_eq_true rfl) rfl (fun z6 => ?_)
  refine V_putF (q0 := 0) (C := RX1) (T := TX1) (N := 10) hC hmn dX1_init_46 in_X1_X1_init tyX1 tyX1_ok nmX1 rfl rfl 5 (Nat.le_of_ble_eq_true rfl) fk_X1_init_28 rfl rfl rfl rfl rfl (Nat.le_of_ble_eq_true rfl) rfl rfl ?_
  refine V_aload_n hC dX1_init_49 rfl rfl rfl ?_
  refine V_iconst (v := 0) hC dX1_init_50 (by decide) rfl ?_
  refine V_put (q0 := 0) (C := RX1) (T := TX1) (N := 10) hC dX1_init_51 in_X1_X1_init tyX1 tyX1_ok nmX1 rfl rfl 6 (Nat.le_of_ble_eq_true rfl) fk_X1_init_31 rfl rfl rfl rfl (Nat.le_of_ble_eq_true rfl) rfl rfl ?_
  refine V_aload_n hC dX1_init_54 rfl rfl rfl ?_
  refine V_iconst (v := 3) hC dX1_init_55 (by decide) rfl ?_
  refine V_newai hC dX1_init_56 rfl aci_X1_init 0 rfl (by decide) rfl (Nat.le_of_ble_eq_true rfl) (Nat.le_of_ble_eq_true rfl) (Nat.le_of_ble_eq_true rfl) rfl (fun z7 => ?_)
  refine V_putF (q0 := 0) (C := RX1) (T := TX1) (N := 10) hC hmn dX1_init_58 in_X1_X1_init tyX1 tyX1_ok nmX1 rfl rfl 7 (Nat.le_of_ble_eq_true rfl) fk_X1_init_35 rfl rfl rfl rfl rfl (Nat.le_of_ble_eq_true rfl) rfl rfl ?_
  refine V_aload_n hC dX1_init_61 rfl rfl rfl ?_
  refine V_iconst (v := 3) hC dX1_init_62 (by decide) rfl ?_
  refine V_newai hC dX1_init_63 rfl aci_X1_init 0 rfl (by decide) rfl (Nat.le_of_ble_eq_true rfl) (Nat.le_of_ble_eq_true rfl) (Nat.le_of_ble_eq_true rfl) rfl (fun z8 => ?_)
  refine V_putF (q0 := 0) (C := RX1) (T := TX1) (N := 10) hC hmn dX1_init_65 in_X1_X1_init tyX1 tyX1_ok nmX1 rfl rfl 8 (Nat.le_of_ble_eq_true rfl) fk_X1_init_38 rfl rfl rfl rfl rfl (Nat.le_of_ble_eq_true rfl) rfl rfl ?_
  refine V_aload_n hC dX1_init_68 rfl rfl rfl ?_
  refine V_iconst (v := 0) hC dX1_init_69 (by decide) rfl ?_
  refine V_put (q0 := 0) (C := RX1) (T := TX1) (N := 10) hC dX1_init_70 in_X1_X1_init tyX1 tyX1_ok nmX1 rfl rfl 9 (Nat.le_of_ble_eq_true rfl) fk_X1_init_41 rfl rfl rfl rfl (Nat.le_of_ble_eq_true rfl) rfl rfl ?_
  refine V_iconst (v := 0) hC dX1_init_73 (by decide) rfl ?_
  refine V_istore_n hC dX1_init_74 rfl (Nat.le_of_ble_eq_true rfl) rfl ?_
  have loop_75 : ∀ (d k : Nat), 20 - k < d → k ≤ 20 → V X 8 78 (Wt cI cZ x z1 z2 z3 z4 z5 z6 z7 z8 (fl k) (fr k)) [(0, .ref x), (1, .int (nI k))] 75 [] := by
    intro d
    induction d with
    | zero => intro k; intros; omega
    | succ d ih =>
      intro k h hk
      refine V_iload_n hC dX1_init_75 rfl rfl rfl ?_
      refine V_bipush (v := 20) hC dX1_init_76 (by decide) rfl ?_
      refine V_icmp_ge (tgt := 102) hC dX1_init_78 (by decide) rfl (fun c_78 => ?_) (fun c_78 => ?_)
      · have c1 := nI_le' (a := 20) c_78 (by omega) (by omega)
        obtain rfl : k = 20 := by omega
        exact hE (fun i => if i = 0 then z1 else if i = 1 then z2 else if i = 2 then z3 else if i = 3 then z4 else if i = 4 then z5 else if i = 5 then z6 else if i = 6 then z7 else z8) _ _ _ dX1_init_102 trivial rfl trivial
      · have c1 := nI_nle' (a := 20) c_78 (by omega) (by omega)
        refine V_aload_n hC dX1_init_81 rfl rfl rfl ?_
        refine V_get (q0 := 0) (C := RX1) (T := TX1) (N := 10) hC dX1_init_82 in_X1_X1_init rfl rfl 0 (Nat.le_of_ble_eq_true rfl) fk_X1_init_9 rfl rfl ?_
        refine V_iload_n hC dX1_init_85 rfl rfl rfl ?_
        refine V_bipush (v := 40) hC dX1_init_86 (by decide) rfl ?_
        refine V_iast (q0 := 1) hC dX1_init_88 rfl 0 rfl rfl (by omega) (by decide) rfl rfl ?_
        refine V_aload_n hC dX1_init_89 rfl rfl rfl ?_
        refine V_get (q0 := 0) (C := RX1) (T := TX1) (N := 10) hC dX1_init_90 in_X1_X1_init rfl rfl 2 (Nat.le_of_ble_eq_true rfl) fk_X1_init_18 rfl rfl ?_
        refine V_iload_n hC dX1_init_93 rfl rfl rfl ?_
        refine V_iconst (v := 1) hC dX1_init_94 (by decide) rfl ?_
        refine V_zast (q0 := 3) hC dX1_init_95 rfl 1 rfl rfl (by omega) (by decide) rfl rfl ?_
        refine V_iinc hC dX1_init_96 rfl (nI_1 k) (Nat.le_of_ble_eq_true rfl) rfl ?_
        refine V_goto (tgt := 75) hC dX1_init_99 (by decide) ?_
        exact V_ws (ws' := Wt cI cZ x z1 z2 z3 z4 z5 z6 z7 z8 (fl (k + 1)) (fr (k + 1))) rfl (V_to (ih (k + 1) (by omega) (by omega)) (lc rfl (lc rfl ln)))
  exact V_ws (ws' := Wt cI cZ x z1 z2 z3 z4 z5 z6 z7 z8 (fl 0) (fr 0)) rfl (V_to (loop_75 _ 0 (Nat.lt_succ_self _) (by omega)) (lc rfl (lc (kv nI_0.symm) ln)))
theorem oil_X0_init : Cond.methodLink RX0 3 objectInit ∈ wsX0_init := by decide +kernel
theorem oii_X0_init : Cond.instanceMethod objectInit ∈ wsX0_init := by decide +kernel
theorem oic_X0_init : Cond.code objectInit ⟨#[0xb1]⟩ 1 none ∈ wsX0_init := by decide +kernel
theorem in_X1_X0_init : ∀ w ∈ u_ws RX1 TX1 10, w ∈ wsX0_init := by decide +kernel
theorem cl9_X0_init : Cond.classLink RX0 9 RX1 ∈ wsX0_init := by decide +kernel
theorem insX1_X0_init : Cond.instantiable RX1 10 ∈ wsX0_init := by decide +kernel
theorem iniX1_X0_init : Cond.initialized RX1 ∈ wsX0_init := by decide +kernel
theorem inmX1_init_X0_init : Cond.instanceMethod yX1_init ∈ wsX0_init := by decide +kernel
theorem mlk11_X0_init : Cond.methodLink RX0 11 yX1_init ∈ wsX0_init := by decide +kernel
theorem in_X0_X0_init : ∀ w ∈ u_ws RX0 TX0 4, w ∈ wsX0_init := by decide +kernel
theorem fk_X0_init_12 : Cond.fieldLink RX0 12 (TX0 0).1 (TX0 0).2.1 (TX0 0).2.2.1 ∈ wsX0_init := by decide +kernel
theorem cl18_X0_init : Cond.classLink RX0 18 RX2 ∈ wsX0_init := by decide +kernel
theorem fk_X0_init_20 : Cond.fieldLink RX0 20 (TX0 1).1 (TX0 1).2.1 (TX0 1).2.2.1 ∈ wsX0_init := by decide +kernel
theorem fk_X0_init_24 : Cond.fieldLink RX0 24 (TX0 2).1 (TX0 2).2.1 (TX0 2).2.2.1 ∈ wsX0_init := by decide +kernel
theorem fk_X0_init_28 : Cond.fieldLink RX0 28 (TX0 3).1 (TX0 3).2.1 (TX0 3).2.2.1 ∈ wsX0_init := by decide +kernel
theorem in_X2_X0_init : ∀ w ∈ u_ws RX2 TX2 18, w ∈ wsX0_init := by decide +kernel
theorem insX2_X0_init : Cond.instantiable RX2 18 ∈ wsX0_init := by decide +kernel
theorem iniX2_X0_init : Cond.initialized RX2 ∈ wsX0_init := by decide +kernel
theorem inmX2_init_X0_init : Cond.instanceMethod yX2_init ∈ wsX0_init := by decide +kernel
set_option maxRecDepth 100000 in
set_option maxHeartbeats 4000000 in
theorem k_X0_init (l : Launch) (D : va_G) (cI cZ cT : ClassId) (x : Nat) : CV l D kCl (kTy cI cZ cT) yX0_init wsX0_init ({ frames := 2, cells := 14, slots := 164, locals := 33 }) 14 164 [.ref x] [(x, .inr (0, [.null, .null, .int 0, .int 0]))] (S := (Nat → Nat)) (fun a => a 4 = x) (fun a => Wl cI cZ cT a tI gI) := by
  refine CVI_of (own := RX0) (by decide) rfl rfl (Nat.le_of_ble_eq_true rfl) rfl (fun X A hC hmn hE => ?_)
  refine V_aload_n hC dX0_init_0 rfl rfl rfl ?_
  refine V_objInit hC dX0_init_1 oil_X0_init oii_X0_init oic_X0_init (Nat.le_of_ble_eq_true rfl) (Nat.le_of_ble_eq_true rfl) rfl ?_
  refine V_aload_n hC dX0_init_4 rfl rfl rfl ?_
  refine V_new (ci := 1) (C := RX1) (T := TX1) (N := 10) (fs := [.null, .null, .null, .null, .null, .null, .int 0, .null, .null, .int 0]) hC dX0_init_5 in_X1_X0_init tyX1 tyX1_ok cl9_X0_init insX1_X0_init iniX1_X0_init rfl nw_X1 (Nat.le_of_ble_eq_true rfl) (Nat.le_of_ble_eq_true rfl) rfl (fun z1 => ?_)
  refine V_dup hC dX0_init_8 rfl rfl ?_
  refine V_callVIf (n := 0) (suf := []) hC dX0_init_9 (k_X1_init l D cI cZ cT z1) gX0_init_X1_init iniX1_X0_init mlk11_X0_init inmX1_init_X0_init rfl rfl ⟨rfl, rfl⟩ (by decide +kernel) ⟨Nat.le_of_ble_eq_true rfl, Nat.le_of_ble_eq_true rfl⟩ ⟨Nat.le_of_ble_eq_true rfl, Nat.le_of_ble_eq_true rfl⟩ rfl rfl rfl (by exact Nat.le_of_ble_eq_true rfl) rfl (fun u_z1 h_z1 => ?_)
  refine V_putF (q0 := 0) (C := RX0) (T := TX0) (N := 4) hC hmn dX0_init_12 in_X0_X0_init tyX0 tyX0_ok nmX0 rfl rfl 0 (Nat.le_of_ble_eq_true rfl) fk_X0_init_12 rfl rfl rfl rfl rfl (Nat.le_of_ble_eq_true rfl) rfl rfl ?_
  refine V_aload_n hC dX0_init_15 rfl rfl rfl ?_
  refine V_iconst (v := 4) hC dX0_init_16 (by decide) rfl ?_
  refine V_newq hC dX0_init_17 rfl cl18_X0_init 2 rfl (by decide) rfl (Nat.le_of_ble_eq_true rfl) (Nat.le_of_ble_eq_true rfl) (Nat.le_of_ble_eq_true rfl) rfl (fun z2 => ?_)
  refine V_putF (q0 := 0) (C := RX0) (T := TX0) (N := 4) hC hmn dX0_init_20 in_X0_X0_init tyX0 tyX0_ok nmX0 rfl rfl 1 (Nat.le_of_ble_eq_true rfl) fk_X0_init_20 rfl rfl rfl rfl rfl (Nat.le_of_ble_eq_true rfl) rfl rfl ?_
  refine V_aload_n hC dX0_init_23 rfl rfl rfl ?_
  refine V_iconst (v := 0) hC dX0_init_24 (by decide) rfl ?_
  refine V_put (q0 := 0) (C := RX0) (T := TX0) (N := 4) hC dX0_init_25 in_X0_X0_init tyX0 tyX0_ok nmX0 rfl rfl 2 (Nat.le_of_ble_eq_true rfl) fk_X0_init_24 rfl rfl rfl rfl (Nat.le_of_ble_eq_true rfl) rfl rfl ?_
  refine V_aload_n hC dX0_init_28 rfl rfl rfl ?_
  refine V_iconst (v := 0) hC dX0_init_29 (by decide) rfl ?_
  refine V_put (q0 := 0) (C := RX0) (T := TX0) (N := 4) hC dX0_init_30 in_X0_X0_init tyX0 tyX0_ok nmX0 rfl rfl 3 (Nat.le_of_ble_eq_true rfl) fk_X0_init_28 rfl rfl rfl rfl (Nat.le_of_ble_eq_true rfl) rfl rfl ?_
  refine V_iconst (v := 0) hC dX0_init_33 (by decide) rfl ?_
  refine V_istore_n hC dX0_init_34 rfl (Nat.le_of_ble_eq_true rfl) rfl ?_
  refine V_iload_n hC dX0_init_35 rfl rfl rfl ?_
  refine V_iconst (v := 4) hC dX0_init_36 (by decide) rfl ?_
  refine V_icmp_ge (tgt := 59) hC dX0_init_37 (by decide) rfl (fun c => absurd c (by decide)) (fun _ => ?_)
  refine V_aload_n hC dX0_init_40 rfl rfl rfl ?_
  refine V_get (q0 := 0) (C := RX0) (T := TX0) (N := 4) hC dX0_init_41 in_X0_X0_init rfl rfl 1 (Nat.le_of_ble_eq_true rfl) fk_X0_init_20 rfl rfl ?_
  refine V_iload_n hC dX0_init_44 rfl rfl rfl ?_
  refine V_new (ci := 2) (C := RX2) (T := TX2) (N := 18) (fs := [.int 0, .int 0, .int 0, .int 0, .int 0, .int 0, .int 0, .int 0, .int 0, .int 0, .int 0, .int 0, .int 0, .int 0, .int 0, .int 0, .int 0, .int 0]) hC dX0_init_45 in_X2_X0_init tyX2 tyX2_ok cl18_X0_init insX2_X0_init iniX2_X0_init rfl nw_X2 (Nat.le_of_ble_eq_true rfl) (Nat.le_of_ble_eq_true rfl) rfl (fun z3 => ?_)
  refine V_dup hC dX0_init_48 rfl rfl ?_
  refine V_callVJf (n := 0) (suf := []) (host := RX3) hC dX0_init_49 (k_X2_init l D cI cZ cT z3) gX0_init_X2_init_n31 (by decide +kernel) iniX2_X0_init inmX2_init_X0_init rfl rfl ⟨rfl, rfl⟩ (by decide +kernel) ⟨Nat.le_of_ble_eq_true rfl, Nat.le_of_ble_eq_true rfl⟩ ⟨Nat.le_of_ble_eq_true rfl, Nat.le_of_ble_eq_true rfl⟩ rfl rfl rfl (by exact Nat.le_of_ble_eq_true rfl) rfl (fun u_z3 h_z3 => ?_)
  refine V_aast (q0 := 10) (qk := 11) (i := 0) hC dX0_init_52 rfl 2 rfl rfl rfl rfl (by decide) (by decide) rfl rfl ?_
  refine V_iinc (v := 1) hC dX0_init_53 rfl (by decide) (Nat.le_of_ble_eq_true rfl) rfl ?_
  refine V_goto (tgt := 35) hC dX0_init_56 (by decide) ?_
  refine V_iload_n hC dX0_init_35 rfl rfl rfl ?_
  refine V_iconst (v := 4) hC dX0_init_36 (by decide) rfl ?_
  refine V_icmp_ge (tgt := 59) hC dX0_init_37 (by decide) rfl (fun c => absurd c (by decide)) (fun _ => ?_)
  refine V_aload_n hC dX0_init_40 rfl rfl rfl ?_
  refine V_get (q0 := 0) (C := RX0) (T := TX0) (N := 4) hC dX0_init_41 in_X0_X0_init rfl rfl 1 (Nat.le_of_ble_eq_true rfl) fk_X0_init_20 rfl rfl ?_
  refine V_iload_n hC dX0_init_44 rfl rfl rfl ?_
  refine V_new (ci := 2) (C := RX2) (T := TX2) (N := 18) (fs := [.int 0, .int 0, .int 0, .int 0, .int 0, .int 0, .int 0, .int 0, .int 0, .int 0, .int 0, .int 0, .int 0, .int 0, .int 0, .int 0, .int 0, .int 0]) hC dX0_init_45 in_X2_X0_init tyX2 tyX2_ok cl18_X0_init insX2_X0_init iniX2_X0_init rfl nw_X2 (Nat.le_of_ble_eq_true rfl) (Nat.le_of_ble_eq_true rfl) rfl (fun z4 => ?_)
  refine V_dup hC dX0_init_48 rfl rfl ?_
  refine V_callVJf (n := 0) (suf := []) (host := RX3) hC dX0_init_49 (k_X2_init l D cI cZ cT z4) gX0_init_X2_init_n31 (by decide +kernel) iniX2_X0_init inmX2_init_X0_init rfl rfl ⟨rfl, rfl⟩ (by decide +kernel) ⟨Nat.le_of_ble_eq_true rfl, Nat.le_of_ble_eq_true rfl⟩ ⟨Nat.le_of_ble_eq_true rfl, Nat.le_of_ble_eq_true rfl⟩ rfl rfl rfl (by exact Nat.le_of_ble_eq_true rfl) rfl (fun u_z4 h_z4 => ?_)
  refine V_aast (q0 := 10) (qk := 12) (i := 1) hC dX0_init_52 rfl 2 rfl rfl rfl rfl (by decide) (by decide) rfl rfl ?_
  refine V_iinc (v := 2) hC dX0_init_53 rfl (by decide) (Nat.le_of_ble_eq_true rfl) rfl ?_
  refine V_goto (tgt := 35) hC dX0_init_56 (by decide) ?_
  refine V_iload_n hC dX0_init_35 rfl rfl rfl ?_
  refine V_iconst (v := 4) hC dX0_init_36 (by decide) rfl ?_
  refine V_icmp_ge (tgt := 59) hC dX0_init_37 (by decide) rfl (fun c => absurd c (by decide)) (fun _ => ?_)
  refine V_aload_n hC dX0_init_40 rfl rfl rfl ?_
  refine V_get (q0 := 0) (C := RX0) (T := TX0) (N := 4) hC dX0_init_41 in_X0_X0_init rfl rfl 1 (Nat.le_of_ble_eq_true rfl) fk_X0_init_20 rfl rfl ?_
  refine V_iload_n hC dX0_init_44 rfl rfl rfl ?_
  refine V_new (ci := 2) (C := RX2) (T := TX2) (N := 18) (fs := [.int 0, .int 0, .int 0, .int 0, .int 0, .int 0, .int 0, .int 0, .int 0, .int 0, .int 0, .int 0, .int 0, .int 0, .int 0, .int 0, .int 0, .int 0]) hC dX0_init_45 in_X2_X0_init tyX2 tyX2_ok cl18_X0_init insX2_X0_init iniX2_X0_init rfl nw_X2 (Nat.le_of_ble_eq_true rfl) (Nat.le_of_ble_eq_true rfl) rfl (fun z5 => ?_)
  refine V_dup hC dX0_init_48 rfl rfl ?_
  refine V_callVJf (n := 0) (suf := []) (host := RX3) hC dX0_init_49 (k_X2_init l D cI cZ cT z5) gX0_init_X2_init_n31 (by decide +kernel) iniX2_X0_init inmX2_init_X0_init rfl rfl ⟨rfl, rfl⟩ (by decide +kernel) ⟨Nat.le_of_ble_eq_true rfl, Nat.le_of_ble_eq_true rfl⟩ ⟨Nat.le_of_ble_eq_true rfl, Nat.le_of_ble_eq_true rfl⟩ rfl rfl rfl (by exact Nat.le_of_ble_eq_true rfl) rfl (fun u_z5 h_z5 => ?_)
  refine V_aast (q0 := 10) (qk := 13) (i := 2) hC dX0_init_52 rfl 2 rfl rfl rfl rfl (by decide) (by decide) rfl rfl ?_
  refine V_iinc (v := 3) hC dX0_init_53 rfl (by decide) (Nat.le_of_ble_eq_true rfl) rfl ?_
  refine V_goto (tgt := 35) hC dX0_init_56 (by decide) ?_
  refine V_iload_n hC dX0_init_35 rfl rfl rfl ?_
  refine V_iconst (v := 4) hC dX0_init_36 (by decide) rfl ?_
  refine V_icmp_ge (tgt := 59) hC dX0_init_37 (by decide) rfl (fun c => absurd c (by decide)) (fun _ => ?_)
  refine V_aload_n hC dX0_init_40 rfl rfl rfl ?_
  refine V_get (q0 := 0) (C := RX0) (T := TX0) (N := 4) hC dX0_init_41 in_X0_X0_init rfl rfl 1 (Nat.le_of_ble_eq_true rfl) fk_X0_init_20 rfl rfl ?_
  refine V_iload_n hC dX0_init_44 rfl rfl rfl ?_
  refine V_new (ci := 2) (C := RX2) (T := TX2) (N := 18) (fs := [.int 0, .int 0, .int 0, .int 0, .int 0, .int 0, .int 0, .int 0, .int 0, .int 0, .int 0, .int 0, .int 0, .int 0, .int 0, .int 0, .int 0, .int 0]) hC dX0_init_45 in_X2_X0_init tyX2 tyX2_ok cl18_X0_init insX2_X0_init iniX2_X0_init rfl nw_X2 (Nat.le_of_ble_eq_true rfl) (Nat.le_of_ble_eq_true rfl) rfl (fun z6 => ?_)
  refine V_dup hC dX0_init_48 rfl rfl ?_
  refine V_callVJf (n := 0) (suf := []) (host := RX3) hC dX0_init_49 (k_X2_init l D cI cZ cT z6) gX0_init_X2_init_n31 (by decide +kernel) iniX2_X0_init inmX2_init_X0_init rfl rfl ⟨rfl, rfl⟩ (by decide +kernel) ⟨Nat.le_of_ble_eq_true rfl, Nat.le_of_ble_eq_true rfl⟩ ⟨Nat.le_of_ble_eq_true rfl, Nat.le_of_ble_eq_true rfl⟩ rfl rfl rfl (by exact Nat.le_of_ble_eq_true rfl) rfl (fun u_z6 h_z6 => ?_)
  refine V_aast (q0 := 10) (qk := 14) (i := 3) hC dX0_init_52 rfl 2 rfl rfl rfl rfl (by decide) (by decide) rfl rfl ?_
  refine V_iinc (v := 4) hC dX0_init_53 rfl (by decide) (Nat.le_of_ble_eq_true rfl) rfl ?_
  refine V_goto (tgt := 35) hC dX0_init_56 (by decide) ?_
  refine V_iload_n hC dX0_init_35 rfl rfl rfl ?_
  refine V_iconst (v := 4) hC dX0_init_36 (by decide) rfl ?_
  refine V_icmp_ge (tgt := 59) hC dX0_init_37 (by decide) rfl (fun _ => ?_) (fun c => absurd c (by decide))
  refine V_ws (ws' := ((x, .inr (0, [.ref z1, .ref z2, .int 0, .int 0])) :: (Wt cI cZ z1 (u_z1 0) (u_z1 1) (u_z1 2) (u_z1 3) (u_z1 4) (u_z1 5) (u_z1 6) (u_z1 7) (fl 20) (fr 20) ++ [(z2, .inl (cT, 4, .inr (.inr (.inr (.inr (va_up (va_up (va_up (va_up (fun _ => none) 0 (some z3)) 1 (some z4)) 2 (some z5)) 3 (some z6)))))))])) ++ [(z3, .inr (2, trF tauI)), (z4, .inr (2, trF tauI)), (z5, .inr (2, trF tauI)), (z6, .inr (2, trF tauI))]) rfl ?_
  refine V_perm List.perm_append_comm ?_
  exact hE (fun i => if i = 0 then z3 else if i = 1 then z4 else if i = 2 then z5 else if i = 3 then z6 else if i = 4 then x else if i = 5 then z1 else if i = 14 then z2 else u_z1 (i - 6)) _ _ _ dX0_init_59 trivial rfl rfl
theorem oil_X3_init : Cond.methodLink RX3 1 objectInit ∈ wsX3_init := by decide +kernel
theorem oii_X3_init : Cond.instanceMethod objectInit ∈ wsX3_init := by decide +kernel
theorem oic_X3_init : Cond.code objectInit ⟨#[0xb1]⟩ 1 none ∈ wsX3_init := by decide +kernel
theorem in_X0_X3_init : ∀ w ∈ u_ws RX0 TX0 4, w ∈ wsX3_init := by decide +kernel
theorem cl7_X3_init : Cond.classLink RX3 7 RX0 ∈ wsX3_init := by decide +kernel
theorem insX0_X3_init : Cond.instantiable RX0 4 ∈ wsX3_init := by decide +kernel
theorem iniX0_X3_init : Cond.initialized RX0 ∈ wsX3_init := by decide +kernel
theorem inmX0_init_X3_init : Cond.instanceMethod yX0_init ∈ wsX3_init := by decide +kernel
theorem mlk9_X3_init : Cond.methodLink RX3 9 yX0_init ∈ wsX3_init := by decide +kernel
theorem in_X3_X3_init : ∀ w ∈ u_ws RX3 TX3 2, w ∈ wsX3_init := by decide +kernel
theorem fk_X3_init_10 : Cond.fieldLink RX3 10 (TX3 0).1 (TX3 0).2.1 (TX3 0).2.2.1 ∈ wsX3_init := by decide +kernel
theorem fk_X3_init_16 : Cond.fieldLink RX3 16 (TX3 1).1 (TX3 1).2.1 (TX3 1).2.2.1 ∈ wsX3_init := by decide +kernel
set_option maxRecDepth 100000 in
set_option maxHeartbeats 4000000 in
theorem k_X3_init (l : Launch) (D : va_G) (cI cZ cT : ClassId) (x : Nat) : CV l D kCl (kTy cI cZ cT) yX3_init wsX3_init ({ frames := 3, cells := 30, slots := 336, locals := 54 }) 30 336 [.ref x] [(x, .inr (3, [.null, .null]))] (S := ((Nat → Nat) × (Nat → Nat))) (fun _ => True) (fun u => WB cI cZ cT x u.1 u.2 tI gI tI gI) := by
  refine CVI_of (own := RX3) (by decide) rfl rfl (Nat.le_of_ble_eq_true rfl) rfl (fun X A hC hmn hE => ?_)
  refine V_aload_n hC dX3_init_0 rfl rfl rfl ?_
  refine V_objInit hC dX3_init_1 oil_X3_init oii_X3_init oic_X3_init (Nat.le_of_ble_eq_true rfl) (Nat.le_of_ble_eq_true rfl) rfl ?_
  refine V_aload_n hC dX3_init_4 rfl rfl rfl ?_
  refine V_new (ci := 0) (C := RX0) (T := TX0) (N := 4) (fs := [.null, .null, .int 0, .int 0]) hC dX3_init_5 in_X0_X3_init tyX0 tyX0_ok cl7_X3_init insX0_X3_init iniX0_X3_init rfl nw_X0 (Nat.le_of_ble_eq_true rfl) (Nat.le_of_ble_eq_true rfl) rfl (fun z1 => ?_)
  refine V_dup hC dX3_init_8 rfl rfl ?_
  refine V_callVIf (n := 0) (suf := []) hC dX3_init_9 (k_X0_init l D cI cZ cT z1) gX3_init_X0_init iniX0_X3_init mlk9_X3_init inmX0_init_X3_init rfl rfl ⟨rfl, rfl⟩ (by decide +kernel) ⟨Nat.le_of_ble_eq_true rfl, Nat.le_of_ble_eq_true rfl⟩ ⟨Nat.le_of_ble_eq_true rfl, Nat.le_of_ble_eq_true rfl⟩ rfl rfl rfl (by exact Nat.le_of_ble_eq_true rfl) rfl (fun u_z1 h_z1 => ?_)
  refine V_putF (q0 := 0) (C := RX3) (T := TX3) (N := 2) hC hmn dX3_init_12 in_X3_X3_init tyX3 tyX3_ok nmX3 rfl rfl 0 (Nat.le_of_ble_eq_true rfl) fk_X3_init_10 rfl rfl rfl rfl rfl (Nat.le_of_ble_eq_true rfl) rfl rfl ?_
  refine V_aload_n hC dX3_init_15 rfl rfl rfl ?_
  refine V_new (ci := 0) (C := RX0) (T := TX0) (N := 4) (fs := [.null, .null, .int 0, .int 0]) hC dX3_init_16 in_X0_X3_init tyX0 tyX0_ok cl7_X3_init insX0_X3_init iniX0_X3_init rfl nw_X0 (Nat.le_of_ble_eq_true rfl) (Nat.le_of_ble_eq_true rfl) rfl (fun z2 => ?_)
  refine V_dup hC dX3_init_19 rfl rfl ?_
  refine V_callVIf (n := 0) (suf := []) hC dX3_init_20 (k_X0_init l D cI cZ cT z2) gX3_init_X0_init iniX0_X3_init mlk9_X3_init inmX0_init_X3_init rfl rfl ⟨rfl, rfl⟩ (by decide +kernel) ⟨Nat.le_of_ble_eq_true rfl, Nat.le_of_ble_eq_true rfl⟩ ⟨Nat.le_of_ble_eq_true rfl, Nat.le_of_ble_eq_true rfl⟩ rfl rfl rfl (by exact Nat.le_of_ble_eq_true rfl) rfl (fun u_z2 h_z2 => ?_)
  refine V_putF (q0 := 0) (C := RX3) (T := TX3) (N := 2) hC hmn dX3_init_23 in_X3_X3_init tyX3 tyX3_ok nmX3 rfl rfl 1 (Nat.le_of_ble_eq_true rfl) fk_X3_init_16 rfl rfl rfl rfl rfl (Nat.le_of_ble_eq_true rfl) rfl rfl ?_
  refine V_ws (ws' := WB cI cZ cT x u_z1 u_z2 tI gI tI gI) (by rw [← h_z1, ← h_z2]; rfl) ?_
  exact hE (u_z1, u_z2) _ _ _ dX3_init_26 trivial rfl trivial
