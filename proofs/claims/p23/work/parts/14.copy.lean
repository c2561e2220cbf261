theorem in_X2_X2_copyFrom : ∀ w ∈ u_ws RX2 TX2 18, w ∈ wsX2_copyFrom := by decide +kernel
theorem fk_X2_copyFrom_9 : Cond.fieldLink RX2 9 (TX2 0).1 (TX2 0).2.1 (TX2 0).2.2.1 ∈ wsX2_copyFrom := by decide +kernel
theorem fk_X2_copyFrom_15 : Cond.fieldLink RX2 15 (TX2 1).1 (TX2 1).2.1 (TX2 1).2.2.1 ∈ wsX2_copyFrom := by decide +kernel
theorem fk_X2_copyFrom_18 : Cond.fieldLink RX2 18 (TX2 2).1 (TX2 2).2.1 (TX2 2).2.2.1 ∈ wsX2_copyFrom := by decide +kernel
theorem fk_X2_copyFrom_21 : Cond.fieldLink RX2 21 (TX2 3).1 (TX2 3).2.1 (TX2 3).2.2.1 ∈ wsX2_copyFrom := by decide +kernel
theorem fk_X2_copyFrom_25 : Cond.fieldLink RX2 25 (TX2 4).1 (TX2 4).2.1 (TX2 4).2.2.1 ∈ wsX2_copyFrom := by decide +kernel
theorem fk_X2_copyFrom_28 : Cond.fieldLink RX2 28 (TX2 5).1 (TX2 5).2.1 (TX2 5).2.2.1 ∈ wsX2_copyFrom := by decide +kernel
theorem fk_X2_copyFrom_31 : Cond.fieldLink RX2 31 (TX2 6).1 (TX2 6).2.1 (TX2 6).2.2.1 ∈ wsX2_copyFrom := by decide +kernel
theorem fk_X2_copyFrom_34 : Cond.fieldLink RX2 34 (TX2 7).1 (TX2 7).2.1 (TX2 7).2.2.1 ∈ wsX2_copyFrom := by decide +kernel
theorem fk_X2_copyFrom_37 : Cond.fieldLink RX2 37 (TX2 8).1 (TX2 8).2.1 (TX2 8).2.2.1 ∈ wsX2_copyFrom := by decide +kernel
theorem fk_X2_copyFrom_40 : Cond.fieldLink RX2 40 (TX2 9).1 (TX2 9).2.1 (TX2 9).2.2.1 ∈ wsX2_copyFrom := by decide +kernel
theorem fk_X2_copyFrom_43 : Cond.fieldLink RX2 43 (TX2 10).1 (TX2 10).2.1 (TX2 10).2.2.1 ∈ wsX2_copyFrom := by decide +kernel
theorem fk_X2_copyFrom_46 : Cond.fieldLink RX2 46 (TX2 11).1 (TX2 11).2.1 (TX2 11).2.2.1 ∈ wsX2_copyFrom := by decide +kernel
theorem fk_X2_copyFrom_49 : Cond.fieldLink RX2 49 (TX2 12).1 (TX2 12).2.1 (TX2 12).2.2.1 ∈ wsX2_copyFrom := by decide +kernel
theorem fk_X2_copyFrom_52 : Cond.fieldLink RX2 52 (TX2 13).1 (TX2 13).2.1 (TX2 13).2.2.1 ∈ wsX2_copyFrom := by decide +kernel
theorem fk_X2_copyFrom_55 : Cond.fieldLink RX2 55 (TX2 14).1 (TX2 14).2.1 (TX2 14).2.2.1 ∈ wsX2_copyFrom := by decide +kernel
theorem fk_X2_copyFrom_58 : Cond.fieldLink RX2 58 (TX2 15).1 (TX2 15).2.1 (TX2 15).2.2.1 ∈ wsX2_copyFrom := by decide +kernel
theorem fk_X2_copyFrom_61 : Cond.fieldLink RX2 61 (TX2 16).1 (TX2 16).2.1 (TX2 16).2.2.1 ∈ wsX2_copyFrom := by decide +kernel
theorem fk_X2_copyFrom_65 : Cond.fieldLink RX2 65 (TX2 17).1 (TX2 17).2.1 (TX2 17).2.2.1 ∈ wsX2_copyFrom := by decide +kernel
set_option maxRecDepth 100000 in
set_option maxHeartbeats 4000000 in
theorem k_X2_copyFrom (l : Launch) (D : va_G) (cI cZ cT : ClassId) (a b : Nat → Nat) (t g t2 g2 : Nat → Nat → Int32) (i : Nat) (hi : i < 4) (hb : b01 (t i 3) ∧ b01 (t i 9) ∧ b01 (t i 10)) : CV l D kCl (kTy cI cZ cT) yX2_copyFrom wsX2_copyFrom ({ frames := 0, cells := 0, slots := 0, locals := 0 }) 0 0 [.ref (b i), .ref (a i)] (Wl cI cZ cT a t g ++ Wl cI cZ cT b t2 g2) (S := Unit) (fun _ => True) (fun _ => Wl cI cZ cT a t g ++ Wl cI cZ cT b (fun x => if x = i then t i else t2 x) g2) := by
  refine CV_of (own := RX2) (by decide) rfl rfl (Nat.le_of_ble_eq_true rfl) rfl (fun X A hC hE => ?_)
  refine V_aload_n hC dX2_copyFrom_0 rfl rfl rfl ?_
  refine V_aload_n hC dX2_copyFrom_1 rfl rfl rfl ?_
  refine V_get (C := RX2) (T := TX2) (N := 18) hC dX2_copyFrom_2 in_X2_X2_copyFrom (W2_ta hi) rfl 0 (Nat.le_of_ble_eq_true rfl) fk_X2_copyFrom_9 rfl rfl ?_
  refine V_put (C := RX2) (T := TX2) (N := 18) hC dX2_copyFrom_5 in_X2_X2_copyFrom tyX2 tyX2_ok nmX2 (W2_tb hi) rfl 0 (Nat.le_of_ble_eq_true rfl) fk_X2_copyFrom_9 rfl rfl rfl rfl (Nat.le_of_ble_eq_true rfl) (W2_set hi (by decide)) rfl ?_
  refine V_aload_n hC dX2_copyFrom_8 rfl rfl rfl ?_
  refine V_aload_n hC dX2_copyFrom_9 rfl rfl rfl ?_
  refine V_get (C := RX2) (T := TX2) (N := 18) hC dX2_copyFrom_10 in_X2_X2_copyFrom (W2_ta hi) rfl 1 (Nat.le_of_ble_eq_true rfl) fk_X2_copyFrom_15 rfl rfl ?_
  refine V_put (C := RX2) (T := TX2) (N := 18) hC dX2_copyFrom_13 in_X2_X2_copyFrom tyX2 tyX2_ok nmX2 (W2_tb hi) rfl 1 (Nat.le_of_ble_eq_true rfl) fk_X2_copyFrom_15 rfl rfl rfl rfl (Nat.le_of_ble_eq_true rfl) (W2_set hi (by decide)) rfl ?_
  refine V_aload_n hC dX2_copyFrom_16 rfl rfl rfl ?_
  refine V_aload_n hC dX2_copyFrom_17 rfl rfl rfl ?_
  refine V_get (C := RX2) (T := TX2) (N := 18) hC dX2_copyFrom_18 in_X2_X2_copyFrom (W2_ta hi) rfl 2 (Nat.le_of_ble_eq_true rfl) fk_X2_copyFrom_18 rfl rfl ?_
  refine V_put (C := RX2) (T := TX2) (N := 18) hC dX2_copyFrom_21 in_X2_X2_copyFrom tyX2 tyX2_ok nmX2 (W2_tb hi) rfl 2 (Nat.le_of_ble_eq_true rfl) fk_X2_copyFrom_18 rfl rfl rfl rfl (Nat.le_of_ble_eq_true rfl) (W2_set hi (by decide)) rfl ?_
  refine V_aload_n hC dX2_copyFrom_24 rfl rfl rfl ?_
  refine V_aload_n hC dX2_copyFrom_25 rfl rfl rfl ?_
  refine V_get (C := RX2) (T := TX2) (N := 18) hC dX2_copyFrom_26 in_X2_X2_copyFrom (W2_ta hi) rfl 3 (Nat.le_of_ble_eq_true rfl) fk_X2_copyFrom_21 rfl rfl ?_
  refine V_put (C := RX2) (T := TX2) (N := 18) hC dX2_copyFrom_29 in_X2_X2_copyFrom tyX2 tyX2_ok nmX2 (W2_tb hi) rfl 3 (Nat.le_of_ble_eq_true rfl) fk_X2_copyFrom_21 rfl rfl (nb hb.1) (fb hb.1) (Nat.le_of_ble_eq_true rfl) (W2_set hi (by decide)) rfl ?_
  refine V_aload_n hC dX2_copyFrom_32 rfl rfl rfl ?_
  refine V_aload_n hC dX2_copyFrom_33 rfl rfl rfl ?_
  refine V_get (C := RX2) (T := TX2) (N := 18) hC dX2_copyFrom_34 in_X2_X2_copyFrom (W2_ta hi) rfl 4 (Nat.le_of_ble_eq_true rfl) fk_X2_copyFrom_25 rfl rfl ?_
  refine V_put (C := RX2) (T := TX2) (N := 18) hC dX2_copyFrom_37 in_X2_X2_copyFrom tyX2 tyX2_ok nmX2 (W2_tb hi) rfl 4 (Nat.le_of_ble_eq_true rfl) fk_X2_copyFrom_25 rfl rfl rfl rfl (Nat.le_of_ble_eq_true rfl) (W2_set hi (by decide)) rfl ?_
  refine V_aload_n hC dX2_copyFrom_40 rfl rfl rfl ?_
  refine V_aload_n hC dX2_copyFrom_41 rfl rfl rfl ?_
  refine V_get (C := RX2) (T := TX2) (N := 18) hC dX2_copyFrom_42 in_X2_X2_copyFrom (W2_ta hi) rfl 5 (Nat.le_of_ble_eq_true rfl) fk_X2_copyFrom_28 rfl rfl ?_
  refine V_put (C := RX2) (T := TX2) (N := 18) hC dX2_copyFrom_45 in_X2_X2_copyFrom tyX2 tyX2_ok nmX2 (W2_tb hi) rfl 5 (Nat.le_of_ble_eq_true rfl) fk_X2_copyFrom_28 rfl rfl rfl rfl (Nat.le_of_ble_eq_true rfl) (W2_set hi (by decide)) rfl ?_
  refine V_aload_n hC dX2_copyFrom_48 rfl rfl rfl ?_
  refine V_aload_n hC dX2_copyFrom_49 rfl rfl rfl ?_
  refine V_get (C := RX2) (T := TX2) (N := 18) hC dX2_copyFrom_50 in_X2_X2_copyFrom (W2_ta hi) rfl 6 (Nat.le_of_ble_eq_true rfl) fk_X2_copyFrom_31 rfl rfl ?_
  refine V_put (C := RX2) (T := TX2) (N := 18) hC dX2_copyFrom_53 in_X2_X2_copyFrom tyX2 tyX2_ok nmX2 (W2_tb hi) rfl 6 (Nat.le_of_ble_eq_true rfl) fk_X2_copyFrom_31 rfl rfl rfl rfl (Nat.le_of_ble_eq_true rfl) (W2_set hi (by decide)) rfl ?_
  refine V_aload_n hC dX2_copyFrom_56 rfl rfl rfl ?_
  refine V_aload_n hC dX2_copyFrom_57 rfl rfl rfl ?_
  refine V_get (C := RX2) (T := TX2) (N := 18) hC dX2_copyFrom_58 in_X2_X2_copyFrom (W2_ta hi) rfl 7 (Nat.le_of_ble_eq_true rfl) fk_X2_copyFrom_34 rfl rfl ?_
  refine V_put (C := RX2) (T := TX2) (N := 18) hC dX2_copyFrom_61 in_X2_X2_copyFrom tyX2 tyX2_ok nmX2 (W2_tb hi) rfl 7 (Nat.le_of_ble_eq_true rfl) fk_X2_copyFrom_34 rfl rfl rfl rfl (Nat.le_of_ble_eq_true rfl) (W2_set hi (by decide)) rfl ?_
  refine V_aload_n hC dX2_copyFrom_64 rfl rfl rfl ?_
  refine V_aload_n hC dX2_copyFrom_65 rfl rfl rfl ?_
  refine V_get (C := RX2) (T := TX2) (N := 18) hC dX2_copyFrom_66 in_X2_X2_copyFrom (W2_ta hi) rfl 8 (Nat.le_of_ble_eq_true rfl) fk_X2_copyFrom_37 rfl rfl ?_
  refine V_put (C := RX2) (T := TX2) (N := 18) hC dX2_copyFrom_69 in_X2_X2_copyFrom tyX2 tyX2_ok nmX2 (W2_tb hi) rfl 8 (Nat.le_of_ble_eq_true rfl) fk_X2_copyFrom_37 rfl rfl rfl rfl (Nat.le_of_ble_eq_true rfl) (W2_set hi (by decide)) rfl ?_
  refine V_aload_n hC dX2_copyFrom_72 rfl rfl rfl ?_
  refine V_aload_n hC dX2_copyFrom_73 rfl rfl rfl ?_
  refine V_get (C := RX2) (T := TX2) (N := 18) hC dX2_copyFrom_74 in_X2_X2_copyFrom (W2_ta hi) rfl 9 (Nat.le_of_ble_eq_true rfl) fk_X2_copyFrom_40 rfl rfl ?_
  refine V_put (C := RX2) (T := TX2) (N := 18) hC dX2_copyFrom_77 in_X2_X2_copyFrom tyX2 tyX2_ok nmX2 (W2_tb hi) rfl 9 (Nat.le_of_ble_eq_true rfl) fk_X2_copyFrom_40 rfl rfl (nb hb.2.1) (fb hb.2.1) (Nat.le_of_ble_eq_true rfl) (W2_set hi (by decide)) rfl ?_
  refine V_aload_n hC dX2_copyFrom_80 rfl rfl rfl ?_
  refine V_aload_n hC dX2_copyFrom_81 rfl rfl rfl ?_
  refine V_get (C := RX2) (T := TX2) (N := 18) hC dX2_copyFrom_82 in_X2_X2_copyFrom (W2_ta hi) rfl 10 (Nat.le_of_ble_eq_true rfl) fk_X2_copyFrom_43 rfl rfl ?_
  refine V_put (C := RX2) (T := TX2) (N := 18) hC dX2_copyFrom_85 in_X2_X2_copyFrom tyX2 tyX2_ok nmX2 (W2_tb hi) rfl 10 (Nat.le_of_ble_eq_true rfl) fk_X2_copyFrom_43 rfl rfl (nb hb.2.2) (fb hb.2.2) (Nat.le_of_ble_eq_true rfl) (W2_set hi (by decide)) rfl ?_
  refine V_aload_n hC dX2_copyFrom_88 rfl rfl rfl ?_
  refine V_aload_n hC dX2_copyFrom_89 rfl rfl rfl ?_
  refine V_get (C := RX2) (T := TX2) (N := 18) hC dX2_copyFrom_90 in_X2_X2_copyFrom (W2_ta hi) rfl 11 (Nat.le_of_ble_eq_true rfl) fk_X2_copyFrom_46 rfl rfl ?_
  refine V_put (C := RX2) (T := TX2) (N := 18) hC dX2_copyFrom_93 in_X2_X2_copyFrom tyX2 tyX2_ok nmX2 (W2_tb hi) rfl 11 (Nat.le_of_ble_eq_true rfl) fk_X2_copyFrom_46 rfl rfl rfl rfl (Nat.le_of_ble_eq_true rfl) (W2_set hi (by decide)) rfl ?_
  refine V_aload_n hC dX2_copyFrom_96 rfl rfl rfl ?_
  refine V_aload_n hC dX2_copyFrom_97 rfl rfl rfl ?_
  refine V_get (C := RX2) (T := TX2) (N := 18) hC dX2_copyFrom_98 in_X2_X2_copyFrom (W2_ta hi) rfl 12 (Nat.le_of_ble_eq_true rfl) fk_X2_copyFrom_49 rfl rfl ?_
  refine V_put (C := RX2) (T := TX2) (N := 18) hC dX2_copyFrom_101 in_X2_X2_copyFrom tyX2 tyX2_ok nmX2 (W2_tb hi) rfl 12 (Nat.le_of_ble_eq_true rfl) fk_X2_copyFrom_49 rfl rfl rfl rfl (Nat.le_of_ble_eq_true rfl) (W2_set hi (by decide)) rfl ?_
  refine V_aload_n hC dX2_copyFrom_104 rfl rfl rfl ?_
  refine V_aload_n hC dX2_copyFrom_105 rfl rfl rfl ?_
  refine V_get (C := RX2) (T := TX2) (N := 18) hC dX2_copyFrom_106 in_X2_X2_copyFrom (W2_ta hi) rfl 13 (Nat.le_of_ble_eq_true rfl) fk_X2_copyFrom_52 rfl rfl ?_
  refine V_put (C := RX2) (T := TX2) (N := 18) hC dX2_copyFrom_109 in_X2_X2_copyFrom tyX2 tyX2_ok nmX2 (W2_tb hi) rfl 13 (Nat.le_of_ble_eq_true rfl) fk_X2_copyFrom_52 rfl rfl rfl rfl (Nat.le_of_ble_eq_true rfl) (W2_set hi (by decide)) rfl ?_
  refine V_aload_n hC dX2_copyFrom_112 rfl rfl rfl ?_
  refine V_aload_n hC dX2_copyFrom_113 rfl rfl rfl ?_
  refine V_get (C := RX2) (T := TX2) (N := 18) hC dX2_copyFrom_114 in_X2_X2_copyFrom (W2_ta hi) rfl 14 (Nat.le_of_ble_eq_true rfl) fk_X2_copyFrom_55 rfl rfl ?_
  refine V_put (C := RX2) (T := TX2) (N := 18) hC dX2_copyFrom_117 in_X2_X2_copyFrom tyX2 tyX2_ok nmX2 (W2_tb hi) rfl 14 (Nat.le_of_ble_eq_true rfl) fk_X2_copyFrom_55 rfl rfl rfl rfl (Nat.le_of_ble_eq_true rfl) (W2_set hi (by decide)) rfl ?_
  refine V_aload_n hC dX2_copyFrom_120 rfl rfl rfl ?_
  refine V_aload_n hC dX2_copyFrom_121 rfl rfl rfl ?_
  refine V_get (C := RX2) (T := TX2) (N := 18) hC dX2_copyFrom_122 in_X2_X2_copyFrom (W2_ta hi) rfl 15 (Nat.le_of_ble_eq_true rfl) fk_X2_copyFrom_58 rfl rfl ?_
  refine V_put (C := RX2) (T := TX2) (N := 18) hC dX2_copyFrom_125 in_X2_X2_copyFrom tyX2 tyX2_ok nmX2 (W2_tb hi) rfl 15 (Nat.le_of_ble_eq_true rfl) fk_X2_copyFrom_58 rfl rfl rfl rfl (Nat.le_of_ble_eq_true rfl) (W2_set hi (by decide)) rfl ?_
  refine V_aload_n hC dX2_copyFrom_128 rfl rfl rfl ?_
  refine V_aload_n hC dX2_copyFrom_129 rfl rfl rfl ?_
  refine V_get (C := RX2) (T := TX2) (N := 18) hC dX2_copyFrom_130 in_X2_X2_copyFrom (W2_ta hi) rfl 16 (Nat.le_of_ble_eq_true rfl) fk_X2_copyFrom_61 rfl rfl ?_
  refine V_put (C := RX2) (T := TX2) (N := 18) hC dX2_copyFrom_133 in_X2_X2_copyFrom tyX2 tyX2_ok nmX2 (W2_tb hi) rfl 16 (Nat.le_of_ble_eq_true rfl) fk_X2_copyFrom_61 rfl rfl rfl rfl (Nat.le_of_ble_eq_true rfl) (W2_set hi (by decide)) rfl ?_
  refine V_aload_n hC dX2_copyFrom_136 rfl rfl rfl ?_
  refine V_aload_n hC dX2_copyFrom_137 rfl rfl rfl ?_
  refine V_get (C := RX2) (T := TX2) (N := 18) hC dX2_copyFrom_138 in_X2_X2_copyFrom (W2_ta hi) rfl 17 (Nat.le_of_ble_eq_true rfl) fk_X2_copyFrom_65 rfl rfl ?_
  refine V_put (C := RX2) (T := TX2) (N := 18) hC dX2_copyFrom_141 in_X2_X2_copyFrom tyX2 tyX2_ok nmX2 (W2_tb hi) rfl 17 (Nat.le_of_ble_eq_true rfl) fk_X2_copyFrom_65 rfl rfl rfl rfl (Nat.le_of_ble_eq_true rfl) (W2_set hi (by decide)) rfl ?_
  refine V_eqv hC (EqW.app EqW.rf (EqW_l (t' := fun x => if x = i then t i else t2 x) (g' := g2) (fun x hx j hj => ?_) (fun _ _ _ _ => rfl))) ?_
  · by_cases e : x = i
    · subst e
      match j, hj with
      | 0, _ => simp [up2, upd]
      | 1, _ => simp [up2, upd]
      | 2, _ => simp [up2, upd]
      | 3, _ => simp [up2, upd]
      | 4, _ => simp [up2, upd]
      | 5, _ => simp [up2, upd]
      | 6, _ => simp [up2, upd]
      | 7, _ => simp [up2, upd]
      | 8, _ => simp [up2, upd]
      | 9, _ => simp [up2, upd]
      | 10, _ => simp [up2, upd]
      | 11, _ => simp [up2, upd]
      | 12, _ => simp [up2, upd]
      | 13, _ => simp [up2, upd]
      | 14, _ => simp [up2, upd]
      | 15, _ => simp [up2, upd]
      | 16, _ => simp [up2, upd]
      | 17, _ => simp [up2, upd]
      | q + 18, h => exact absurd h (by omega)
    · simp [up2, e]
  exact hE () _ _ _ dX2_copyFrom_144 trivial rfl trivial
theorem in_X1_X1_copyFrom : ∀ w ∈ u_ws RX1 TX1 10, w ∈ wsX1_copyFrom := by decide +kernel
theorem fk_X1_copyFrom_31 : Cond.fieldLink RX1 31 (TX1 6).1 (TX1 6).2.1 (TX1 6).2.2.1 ∈ wsX1_copyFrom := by decide +kernel
theorem fk_X1_copyFrom_41 : Cond.fieldLink RX1 41 (TX1 9).1 (TX1 9).2.1 (TX1 9).2.2.1 ∈ wsX1_copyFrom := by decide +kernel
theorem fk_X1_copyFrom_35 : Cond.fieldLink RX1 35 (TX1 7).1 (TX1 7).2.1 (TX1 7).2.2.1 ∈ wsX1_copyFrom := by decide +kernel
theorem fk_X1_copyFrom_38 : Cond.fieldLink RX1 38 (TX1 8).1 (TX1 8).2.1 (TX1 8).2.2.1 ∈ wsX1_copyFrom := by decide +kernel
theorem fk_X1_copyFrom_22 : Cond.fieldLink RX1 22 (TX1 3).1 (TX1 3).2.1 (TX1 3).2.2.1 ∈ wsX1_copyFrom := by decide +kernel
theorem fk_X1_copyFrom_25 : Cond.fieldLink RX1 25 (TX1 4).1 (TX1 4).2.1 (TX1 4).2.2.1 ∈ wsX1_copyFrom := by decide +kernel
theorem fk_X1_copyFrom_28 : Cond.fieldLink RX1 28 (TX1 5).1 (TX1 5).2.1 (TX1 5).2.2.1 ∈ wsX1_copyFrom := by decide +kernel
theorem fk_X1_copyFrom_9 : Cond.fieldLink RX1 9 (TX1 0).1 (TX1 0).2.1 (TX1 0).2.2.1 ∈ wsX1_copyFrom := by decide +kernel
theorem fk_X1_copyFrom_15 : Cond.fieldLink RX1 15 (TX1 1).1 (TX1 1).2.1 (TX1 1).2.2.1 ∈ wsX1_copyFrom := by decide +kernel
theorem fk_X1_copyFrom_18 : Cond.fieldLink RX1 18 (TX1 2).1 (TX1 2).2.1 (TX1 2).2.2.1 ∈ wsX1_copyFrom := by decide +kernel
set_option maxRecDepth 100000 in
set_option maxHeartbeats 4000000 in
theorem k_X1_copyFrom (l : Launch) (D : va_G) (cI cZ cT : ClassId) (a b : Nat → Nat) (t g t2 g2 : Nat → Nat → Int32) (hz : ∀ c, c < 20 → b01 (g 2 c)) : CV l D kCl (kTy cI cZ cT) yX1_copyFrom wsX1_copyFrom ({ frames := 0, cells := 0, slots := 0, locals := 0 }) 0 0 [.ref (b 5), .ref (a 5)] (Wl cI cZ cT a t g ++ Wl cI cZ cT b t2 g2) (S := Unit) (fun _ => True) (fun _ => Wl cI cZ cT a t g ++ Wl cI cZ cT b t2 (cpT g g2)) := by
  refine CV_of (own := RX1) (by decide) rfl rfl (Nat.le_of_ble_eq_true rfl) rfl (fun X A hC hE => ?_)
  refine V_iconst (v := 0) hC dX1_copyFrom_0 (by decide) rfl ?_
  refine V_istore_n hC dX1_copyFrom_1 rfl (Nat.le_of_ble_eq_true rfl) rfl ?_
  have loop_2 : ∀ (d k : Nat), 20 - k < d → k ≤ 20 → V X 0 0 (Wl cI cZ cT a t g ++ Wl cI cZ cT b t2 (cpA g g2 k)) [(0, .ref (b 5)), (1, .ref (a 5)), (2, .int (nI k))] 2 [] := by
    intro d
    induction d with
    | zero => intro k; intros; omega
    | succ d ih =>
      intro k h hk
      refine V_iload_n hC dX1_copyFrom_2 rfl rfl rfl ?_
      refine V_bipush (v := 20) hC dX1_copyFrom_3 (by decide) rfl ?_
      refine V_icmp_ge (tgt := 50) hC dX1_copyFrom_5 (by decide) rfl (fun c_5 => ?_) (fun c_5 => ?_)
      · have c1 := nI_le' (a := 20) c_5 (by omega) (by omega)
        obtain rfl : k = 20 := by omega
        refine V_iconst (v := 0) hC dX1_copyFrom_50 (by decide) rfl ?_
        refine V_istore_n hC dX1_copyFrom_51 rfl (Nat.le_of_ble_eq_true rfl) rfl ?_
        have loop_52 : ∀ (d k : Nat), 4 - k < d → k ≤ 4 → V X 0 0 (Wl cI cZ cT a t g ++ Wl cI cZ cT b t2 (cpB g (cpA g g2 20) k)) [(0, .ref (b 5)), (1, .ref (a 5)), (2, .int (nI k))] 52 [] := by
          intro d
          induction d with
          | zero => intro k; intros; omega
          | succ d ih =>
            intro k h hk
            refine V_iload_n hC dX1_copyFrom_52 rfl rfl rfl ?_
            refine V_iconst (v := 4) hC dX1_copyFrom_53 (by decide) rfl ?_
            refine V_icmp_ge (tgt := 99) hC dX1_copyFrom_54 (by decide) rfl (fun c_54 => ?_) (fun c_54 => ?_)
            · have c1 := nI_le' (a := 4) c_54 (by omega) (by omega)
              obtain rfl : k = 4 := by omega
              refine V_aload_n hC dX1_copyFrom_99 rfl rfl rfl ?_
              refine V_aload_n hC dX1_copyFrom_100 rfl rfl rfl ?_
              refine V_get (q0 := 5) (C := RX1) (T := TX1) (N := 10) hC dX1_copyFrom_101 in_X1_X1_copyFrom rfl rfl 6 (Nat.le_of_ble_eq_true rfl) fk_X1_copyFrom_31 rfl rfl ?_
              refine V_put (q0 := 20) (C := RX1) (T := TX1) (N := 10) hC dX1_copyFrom_104 in_X1_X1_copyFrom tyX1 tyX1_ok nmX1 rfl rfl 6 (Nat.le_of_ble_eq_true rfl) fk_X1_copyFrom_31 rfl rfl rfl rfl (Nat.le_of_ble_eq_true rfl) W2_s2 rfl ?_
              refine V_iconst (v := 0) hC dX1_copyFrom_107 (by decide) rfl ?_
              refine V_istore_n hC dX1_copyFrom_108 rfl (Nat.le_of_ble_eq_true rfl) rfl ?_
              have loop_109 : ∀ (d k : Nat), 3 - k < d → k ≤ 3 → V X 0 0 (Wl cI cZ cT a t g ++ Wl cI cZ cT b t2 (cpC g (up2 (cpB g (cpA g g2 20) 4) 8 2 (g 8 2)) k)) [(0, .ref (b 5)), (1, .ref (a 5)), (2, .int (nI k))] 109 [] := by
                intro d
                induction d with
                | zero => intro k; intros; omega
                | succ d ih =>
                  intro k h hk
                  refine V_iload_n hC dX1_copyFrom_109 rfl rfl rfl ?_
                  refine V_iconst (v := 3) hC dX1_copyFrom_110 (by decide) rfl ?_
                  refine V_icmp_ge (tgt := 144) hC dX1_copyFrom_111 (by decide) rfl (fun c_111 => ?_) (fun c_111 => ?_)
                  · have c1 := nI_le' (a := 3) c_111 (by omega) (by omega)
                    obtain rfl : k = 3 := by omega
                    refine V_aload_n hC dX1_copyFrom_144 rfl rfl rfl ?_
                    refine V_aload_n hC dX1_copyFrom_145 rfl rfl rfl ?_
                    refine V_get (q0 := 5) (C := RX1) (T := TX1) (N := 10) hC dX1_copyFrom_146 in_X1_X1_copyFrom rfl rfl 9 (Nat.le_of_ble_eq_true rfl) fk_X1_copyFrom_41 rfl rfl ?_
                    refine V_put (q0 := 20) (C := RX1) (T := TX1) (N := 10) hC dX1_copyFrom_149 in_X1_X1_copyFrom tyX1 tyX1_ok nmX1 rfl rfl 9 (Nat.le_of_ble_eq_true rfl) fk_X1_copyFrom_41 rfl rfl rfl rfl (Nat.le_of_ble_eq_true rfl) W2_s3 rfl ?_
                    refine V_eqv hC (EqW.app EqW.rf (EqW_l (g' := cpT g g2) (fun _ _ _ _ => rfl) (cp_all g g2))) ?_
                    exact hE () _ _ _ dX1_copyFrom_152 trivial rfl trivial
                  · have c1 := nI_nle' (a := 3) c_111 (by omega) (by omega)
                    refine V_aload_n hC dX1_copyFrom_114 rfl rfl rfl ?_
                    refine V_get (q0 := 20) (C := RX1) (T := TX1) (N := 10) hC dX1_copyFrom_115 in_X1_X1_copyFrom rfl rfl 7 (Nat.le_of_ble_eq_true rfl) fk_X1_copyFrom_35 rfl rfl ?_
                    refine V_iload_n hC dX1_copyFrom_118 rfl rfl rfl ?_
                    refine V_aload_n hC dX1_copyFrom_119 rfl rfl rfl ?_
                    refine V_get (q0 := 5) (C := RX1) (T := TX1) (N := 10) hC dX1_copyFrom_120 in_X1_X1_copyFrom rfl rfl 7 (Nat.le_of_ble_eq_true rfl) fk_X1_copyFrom_35 rfl rfl ?_
                    refine V_iload_n hC dX1_copyFrom_123 rfl rfl rfl ?_
                    refine V_iald (q0 := 12) hC dX1_copyFrom_124 rfl 0 rfl rfl (by omega) (by decide) rfl ?_
                    refine V_iast (q0 := 27) hC dX1_copyFrom_125 rfl 0 rfl rfl (by omega) (by decide) W2_r6 rfl ?_
                    refine V_aload_n hC dX1_copyFrom_126 rfl rfl rfl ?_
                    refine V_get (q0 := 20) (C := RX1) (T := TX1) (N := 10) hC dX1_copyFrom_127 in_X1_X1_copyFrom rfl rfl 8 (Nat.le_of_ble_eq_true rfl) fk_X1_copyFrom_38 rfl rfl ?_
                    refine V_iload_n hC dX1_copyFrom_130 rfl rfl rfl ?_
                    refine V_aload_n hC dX1_copyFrom_131 rfl rfl rfl ?_
                    refine V_get (q0 := 5) (C := RX1) (T := TX1) (N := 10) hC dX1_copyFrom_132 in_X1_X1_copyFrom rfl rfl 8 (Nat.le_of_ble_eq_true rfl) fk_X1_copyFrom_38 rfl rfl ?_
                    refine V_iload_n hC dX1_copyFrom_135 rfl rfl rfl ?_
                    refine V_iald (q0 := 13) hC dX1_copyFrom_136 rfl 0 rfl rfl (by omega) (by decide) rfl ?_
                    refine V_iast (q0 := 28) hC dX1_copyFrom_137 rfl 0 rfl rfl (by omega) (by decide) W2_r7 rfl ?_
                    refine V_iinc hC dX1_copyFrom_138 rfl (nI_1 k) (Nat.le_of_ble_eq_true rfl) rfl ?_
                    refine V_goto (tgt := 109) hC dX1_copyFrom_141 (by decide) ?_
                    exact V_to (ih (k + 1) (by omega) (by omega)) (lc rfl (lc rfl (lc rfl ln)))
              exact V_to (loop_109 _ 0 (Nat.lt_succ_self _) (by omega)) (lc rfl (lc rfl (lc (kv nI_0.symm) ln)))
            · have c1 := nI_nle' (a := 4) c_54 (by omega) (by omega)
              refine V_aload_n hC dX1_copyFrom_57 rfl rfl rfl ?_
              refine V_get (q0 := 20) (C := RX1) (T := TX1) (N := 10) hC dX1_copyFrom_58 in_X1_X1_copyFrom rfl rfl 3 (Nat.le_of_ble_eq_true rfl) fk_X1_copyFrom_22 rfl rfl ?_
              refine V_iload_n hC dX1_copyFrom_61 rfl rfl rfl ?_
              refine V_aload_n hC dX1_copyFrom_62 rfl rfl rfl ?_
              refine V_get (q0 := 5) (C := RX1) (T := TX1) (N := 10) hC dX1_copyFrom_63 in_X1_X1_copyFrom rfl rfl 3 (Nat.le_of_ble_eq_true rfl) fk_X1_copyFrom_22 rfl rfl ?_
              refine V_iload_n hC dX1_copyFrom_66 rfl rfl rfl ?_
              refine V_iald (q0 := 9) hC dX1_copyFrom_67 rfl 0 rfl rfl (by omega) (by decide) rfl ?_
              refine V_iast (q0 := 24) hC dX1_copyFrom_68 rfl 0 rfl rfl (by omega) (by decide) W2_r3 rfl ?_
              refine V_aload_n hC dX1_copyFrom_69 rfl rfl rfl ?_
              refine V_get (q0 := 20) (C := RX1) (T := TX1) (N := 10) hC dX1_copyFrom_70 in_X1_X1_copyFrom rfl rfl 4 (Nat.le_of_ble_eq_true rfl) fk_X1_copyFrom_25 rfl rfl ?_
              refine V_iload_n hC dX1_copyFrom_73 rfl rfl rfl ?_
              refine V_aload_n hC dX1_copyFrom_74 rfl rfl rfl ?_
              refine V_get (q0 := 5) (C := RX1) (T := TX1) (N := 10) hC dX1_copyFrom_75 in_X1_X1_copyFrom rfl rfl 4 (Nat.le_of_ble_eq_true rfl) fk_X1_copyFrom_25 rfl rfl ?_
              refine V_iload_n hC dX1_copyFrom_78 rfl rfl rfl ?_
              refine V_iald (q0 := 10) hC dX1_copyFrom_79 rfl 0 rfl rfl (by omega) (by decide) rfl ?_
              refine V_iast (q0 := 25) hC dX1_copyFrom_80 rfl 0 rfl rfl (by omega) (by decide) W2_r4 rfl ?_
              refine V_aload_n hC dX1_copyFrom_81 rfl rfl rfl ?_
              refine V_get (q0 := 20) (C := RX1) (T := TX1) (N := 10) hC dX1_copyFrom_82 in_X1_X1_copyFrom rfl rfl 5 (Nat.le_of_ble_eq_true rfl) fk_X1_copyFrom_28 rfl rfl ?_
              refine V_iload_n hC dX1_copyFrom_85 rfl rfl rfl ?_
              refine V_aload_n hC dX1_copyFrom_86 rfl rfl rfl ?_
              refine V_get (q0 := 5) (C := RX1) (T := TX1) (N := 10) hC dX1_copyFrom_87 in_X1_X1_copyFrom rfl rfl 5 (Nat.le_of_ble_eq_true rfl) fk_X1_copyFrom_28 rfl rfl ?_
              refine V_iload_n hC dX1_copyFrom_90 rfl rfl rfl ?_
              refine V_iald (q0 := 11) hC dX1_copyFrom_91 rfl 0 rfl rfl (by omega) (by decide) rfl ?_
              refine V_iast (q0 := 26) hC dX1_copyFrom_92 rfl 0 rfl rfl (by omega) (by decide) W2_r5 rfl ?_
              refine V_iinc hC dX1_copyFrom_93 rfl (nI_1 k) (Nat.le_of_ble_eq_true rfl) rfl ?_
              refine V_goto (tgt := 52) hC dX1_copyFrom_96 (by decide) ?_
              exact V_to (ih (k + 1) (by omega) (by omega)) (lc rfl (lc rfl (lc rfl ln)))
        exact V_to (loop_52 _ 0 (Nat.lt_succ_self _) (by omega)) (lc rfl (lc rfl (lc (kv nI_0.symm) ln)))
      · have c1 := nI_nle' (a := 20) c_5 (by omega) (by omega)
        refine V_aload_n hC dX1_copyFrom_8 rfl rfl rfl ?_
        refine V_get (q0 := 20) (C := RX1) (T := TX1) (N := 10) hC dX1_copyFrom_9 in_X1_X1_copyFrom rfl rfl 0 (Nat.le_of_ble_eq_true rfl) fk_X1_copyFrom_9 rfl rfl ?_
        refine V_iload_n hC dX1_copyFrom_12 rfl rfl rfl ?_
        refine V_aload_n hC dX1_copyFrom_13 rfl rfl rfl ?_
        refine V_get (q0 := 5) (C := RX1) (T := TX1) (N := 10) hC dX1_copyFrom_14 in_X1_X1_copyFrom rfl rfl 0 (Nat.le_of_ble_eq_true rfl) fk_X1_copyFrom_9 rfl rfl ?_
        refine V_iload_n hC dX1_copyFrom_17 rfl rfl rfl ?_
        refine V_iald (q0 := 6) hC dX1_copyFrom_18 rfl 0 rfl rfl (by omega) (by decide) rfl ?_
        refine V_iast (q0 := 21) hC dX1_copyFrom_19 rfl 0 rfl rfl (by omega) (by decide) W2_r0 rfl ?_
        refine V_aload_n hC dX1_copyFrom_20 rfl rfl rfl ?_
        refine V_get (q0 := 20) (C := RX1) (T := TX1) (N := 10) hC dX1_copyFrom_21 in_X1_X1_copyFrom rfl rfl 1 (Nat.le_of_ble_eq_true rfl) fk_X1_copyFrom_15 rfl rfl ?_
        refine V_iload_n hC dX1_copyFrom_24 rfl rfl rfl ?_
        refine V_aload_n hC dX1_copyFrom_25 rfl rfl rfl ?_
        refine V_get (q0 := 5) (C := RX1) (T := TX1) (N := 10) hC dX1_copyFrom_26 in_X1_X1_copyFrom rfl rfl 1 (Nat.le_of_ble_eq_true rfl) fk_X1_copyFrom_15 rfl rfl ?_
        refine V_iload_n hC dX1_copyFrom_29 rfl rfl rfl ?_
        refine V_iald (q0 := 7) hC dX1_copyFrom_30 rfl 0 rfl rfl (by omega) (by decide) rfl ?_
        refine V_iast (q0 := 22) hC dX1_copyFrom_31 rfl 0 rfl rfl (by omega) (by decide) W2_r1 rfl ?_
        refine V_aload_n hC dX1_copyFrom_32 rfl rfl rfl ?_
        refine V_get (q0 := 20) (C := RX1) (T := TX1) (N := 10) hC dX1_copyFrom_33 in_X1_X1_copyFrom rfl rfl 2 (Nat.le_of_ble_eq_true rfl) fk_X1_copyFrom_18 rfl rfl ?_
        refine V_iload_n hC dX1_copyFrom_36 rfl rfl rfl ?_
        refine V_aload_n hC dX1_copyFrom_37 rfl rfl rfl ?_
        refine V_get (q0 := 5) (C := RX1) (T := TX1) (N := 10) hC dX1_copyFrom_38 in_X1_X1_copyFrom rfl rfl 2 (Nat.le_of_ble_eq_true rfl) fk_X1_copyFrom_18 rfl rfl ?_
        refine V_iload_n hC dX1_copyFrom_41 rfl rfl rfl ?_
        refine V_zald (q0 := 8) hC dX1_copyFrom_42 rfl 1 rfl rfl (by omega) (by decide) rfl ?_
        refine V_zast (q0 := 23) hC dX1_copyFrom_43 rfl 1 rfl rfl (by omega) (by decide) W2_r2 rfl ?_
        rw [nbv (hz k c1)]
        refine V_iinc hC dX1_copyFrom_44 rfl (nI_1 k) (Nat.le_of_ble_eq_true rfl) rfl ?_
        refine V_goto (tgt := 2) hC dX1_copyFrom_47 (by decide) ?_
        exact V_to (ih (k + 1) (by omega) (by omega)) (lc rfl (lc rfl (lc rfl ln)))
  exact V_to (loop_2 _ 0 (Nat.lt_succ_self _) (by omega)) (lc rfl (lc rfl (lc (kv nI_0.symm) ln)))
theorem in_X0_X0_copyFrom : ∀ w ∈ u_ws RX0 TX0 4, w ∈ wsX0_copyFrom := by decide +kernel
theorem fk_X0_copyFrom_12 : Cond.fieldLink RX0 12 (TX0 0).1 (TX0 0).2.1 (TX0 0).2.2.1 ∈ wsX0_copyFrom := by decide +kernel
theorem fk_X0_copyFrom_24 : Cond.fieldLink RX0 24 (TX0 2).1 (TX0 2).2.1 (TX0 2).2.2.1 ∈ wsX0_copyFrom := by decide +kernel
theorem fk_X0_copyFrom_28 : Cond.fieldLink RX0 28 (TX0 3).1 (TX0 3).2.1 (TX0 3).2.2.1 ∈ wsX0_copyFrom := by decide +kernel
theorem fk_X0_copyFrom_20 : Cond.fieldLink RX0 20 (TX0 1).1 (TX0 1).2.1 (TX0 1).2.2.1 ∈ wsX0_copyFrom := by decide +kernel
set_option maxRecDepth 100000 in
set_option maxHeartbeats 4000000 in
theorem k_X0_copyFrom (l : Launch) (D : va_G) (cI cZ cT : ClassId) (a b : Nat → Nat) (t g t2 g2 : Nat → Nat → Int32) (hz : ∀ c, c < 20 → b01 (g 2 c)) (hb : BT t) : CV l D kCl (kTy cI cZ cT) yX0_copyFrom wsX0_copyFrom ({ frames := 1, cells := 0, slots := 0, locals := 22 }) 0 0 [.ref (b 4), .ref (a 4)] (Wl cI cZ cT a t g ++ Wl cI cZ cT b t2 g2) (S := Unit) (fun _ => True) (fun _ => Wl cI cZ cT a t g ++ Wl cI cZ cT b t g) := by
  refine CV_of (own := RX0) (by decide) rfl rfl (Nat.le_of_ble_eq_true rfl) rfl (fun X A hC hE => ?_)
  refine V_aload_n hC dX0_copyFrom_0 rfl rfl rfl ?_
  refine V_get (q0 := 19) (C := RX0) (T := TX0) (N := 4) hC dX0_copyFrom_1 in_X0_X0_copyFrom rfl rfl 0 (Nat.le_of_ble_eq_true rfl) fk_X0_copyFrom_12 rfl rfl ?_
  refine V_aload_n hC dX0_copyFrom_4 rfl rfl rfl ?_
  refine V_get (q0 := 4) (C := RX0) (T := TX0) (N := 4) hC dX0_copyFrom_5 in_X0_X0_copyFrom rfl rfl 0 (Nat.le_of_ble_eq_true rfl) fk_X0_copyFrom_12 rfl rfl ?_
  refine V_callVV (q0 := 20) (n := 1) hC dX0_copyFrom_8 (k_X1_copyFrom l D cI cZ cT a b _ _ _ _ hz) gX0_copyFrom_X1_copyFrom rfl ⟨rfl, rfl⟩ (by decide +kernel) ⟨Nat.le_of_ble_eq_true rfl, Nat.le_of_ble_eq_true rfl⟩ ⟨Nat.le_of_ble_eq_true rfl, Nat.le_of_ble_eq_true rfl⟩ rfl rfl rfl rfl (by exact Nat.le_of_ble_eq_true rfl) rfl (fun u_8 h_8 => ?_)
  refine V_iconst (v := 0) hC dX0_copyFrom_11 (by decide) rfl ?_
  refine V_istore_n hC dX0_copyFrom_12 rfl (Nat.le_of_ble_eq_true rfl) rfl ?_
  have loop_13 : ∀ (d k : Nat), 4 - k < d → k ≤ 4 → V X 0 0 (Wl cI cZ cT a t g ++ Wl cI cZ cT b (cpR t t2 k) (cpT g g2)) [(0, .ref (b 4)), (1, .ref (a 4)), (2, .int (nI k))] 13 [] := by
    intro d
    induction d with
    | zero => intro k; intros; omega
    | succ d ih =>
      intro k h hk
      refine V_iload_n hC dX0_copyFrom_13 rfl rfl rfl ?_
      refine V_iconst (v := 4) hC dX0_copyFrom_14 (by decide) rfl ?_
      refine V_icmp_ge (tgt := 39) hC dX0_copyFrom_15 (by decide) rfl (fun c_15 => ?_) (fun c_15 => ?_)
      · have c1 := nI_le' (a := 4) c_15 (by omega) (by omega)
        obtain rfl : k = 4 := by omega
        refine V_aload_n hC dX0_copyFrom_39 rfl rfl rfl ?_
        refine V_aload_n hC dX0_copyFrom_40 rfl rfl rfl ?_
        refine V_get (q0 := 4) (C := RX0) (T := TX0) (N := 4) hC dX0_copyFrom_41 in_X0_X0_copyFrom rfl rfl 2 (Nat.le_of_ble_eq_true rfl) fk_X0_copyFrom_24 rfl rfl ?_
        refine V_put (q0 := 19) (C := RX0) (T := TX0) (N := 4) hC dX0_copyFrom_44 in_X0_X0_copyFrom tyX0 tyX0_ok nmX0 rfl rfl 2 (Nat.le_of_ble_eq_true rfl) fk_X0_copyFrom_24 rfl rfl rfl rfl (Nat.le_of_ble_eq_true rfl) W2_s0 rfl ?_
        refine V_aload_n hC dX0_copyFrom_47 rfl rfl rfl ?_
        refine V_aload_n hC dX0_copyFrom_48 rfl rfl rfl ?_
        refine V_get (q0 := 4) (C := RX0) (T := TX0) (N := 4) hC dX0_copyFrom_49 in_X0_X0_copyFrom rfl rfl 3 (Nat.le_of_ble_eq_true rfl) fk_X0_copyFrom_28 rfl rfl ?_
        refine V_put (q0 := 19) (C := RX0) (T := TX0) (N := 4) hC dX0_copyFrom_52 in_X0_X0_copyFrom tyX0 tyX0_ok nmX0 rfl rfl 3 (Nat.le_of_ble_eq_true rfl) fk_X0_copyFrom_28 rfl rfl rfl rfl (Nat.le_of_ble_eq_true rfl) W2_s1 rfl ?_
        refine V_eqv hC (EqW.app EqW.rf (EqW_l (t' := t) (g' := g) (fun i hi j _ => by rw [cpR_in t t2 4 i hi]) (fun r hr c hc => ?_))) ?_
        · by_cases e : r = 8
          · subst e
            match c, hc with
            | 0, _ => rfl
            | 1, _ => rfl
            | 2, _ => rfl
            | 3, _ => rfl
          · simp [cpT, up2, e]
        exact hE () _ _ _ dX0_copyFrom_55 trivial rfl trivial
      · have c1 := nI_nle' (a := 4) c_15 (by omega) (by omega)
        have k4 : k < 4 := c1
        refine V_aload_n hC dX0_copyFrom_18 rfl rfl rfl ?_
        refine V_get (q0 := 19) (C := RX0) (T := TX0) (N := 4) hC dX0_copyFrom_19 in_X0_X0_copyFrom rfl rfl 1 (Nat.le_of_ble_eq_true rfl) fk_X0_copyFrom_20 rfl rfl ?_
        refine V_iload_n hC dX0_copyFrom_22 rfl rfl rfl ?_
        refine V_aald (q0 := 29) hC dX0_copyFrom_23 rfl 2 rfl rfl k4 (by decide) (trA_at k4) rfl ?_
        refine V_aload_n hC dX0_copyFrom_24 rfl rfl rfl ?_
        refine V_get (q0 := 4) (C := RX0) (T := TX0) (N := 4) hC dX0_copyFrom_25 in_X0_X0_copyFrom rfl rfl 1 (Nat.le_of_ble_eq_true rfl) fk_X0_copyFrom_20 rfl rfl ?_
        refine V_iload_n hC dX0_copyFrom_28 rfl rfl rfl ?_
        refine V_aald (q0 := 14) hC dX0_copyFrom_29 rfl 2 rfl rfl k4 (by decide) (trA_at k4) rfl ?_
        refine V_callVV (n := 1) hC dX0_copyFrom_30 (k_X2_copyFrom l D cI cZ cT a b _ _ _ _ k k4 (hb k k4)) gX0_copyFrom_X2_copyFrom rfl ⟨rfl, rfl⟩ (by decide +kernel) ⟨Nat.le_of_ble_eq_true rfl, Nat.le_of_ble_eq_true rfl⟩ ⟨Nat.le_of_ble_eq_true rfl, Nat.le_of_ble_eq_true rfl⟩ (W2_tb k4) rfl rfl rfl (by exact Nat.le_of_ble_eq_true rfl) rfl (fun u_30 h_30 => ?_)
        refine V_iinc hC dX0_copyFrom_33 rfl (nI_1 k) (Nat.le_of_ble_eq_true rfl) rfl ?_
        refine V_goto (tgt := 13) hC dX0_copyFrom_36 (by decide) ?_
        exact V_to (ih (k + 1) (by omega) (by omega)) (lc rfl (lc rfl (lc rfl ln)))
  exact V_to (loop_13 _ 0 (Nat.lt_succ_self _) (by omega)) (lc rfl (lc rfl (lc (kv nI_0.symm) ln)))
