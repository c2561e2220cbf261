theorem in_X0_X0_stopAtStation : ∀ w ∈ u_ws RX0 TX0 4, w ∈ wsX0_stopAtStation := by decide +kernel
theorem fk_X0_stopAtStation_12 : Cond.fieldLink RX0 12 (TX0 0).1 (TX0 0).2.1 (TX0 0).2.2.1 ∈ wsX0_stopAtStation := by decide +kernel
theorem in_X2_X0_stopAtStation : ∀ w ∈ u_ws RX2 TX2 18, w ∈ wsX0_stopAtStation := by decide +kernel
theorem fk_X0_stopAtStation_58 : Cond.fieldLink RX0 58 (TX2 8).1 (TX2 8).2.1 (TX2 8).2.2.1 ∈ wsX0_stopAtStation := by decide +kernel
theorem fk_X0_stopAtStation_80 : Cond.fieldLink RX0 80 (TX2 5).1 (TX2 5).2.1 (TX2 5).2.2.1 ∈ wsX0_stopAtStation := by decide +kernel
theorem in_X1_X0_stopAtStation : ∀ w ∈ u_ws RX1 TX1 10, w ∈ wsX0_stopAtStation := by decide +kernel
theorem fk_X0_stopAtStation_111 : Cond.fieldLink RX0 111 (TX1 3).1 (TX1 3).2.1 (TX1 3).2.2.1 ∈ wsX0_stopAtStation := by decide +kernel
theorem fk_X0_stopAtStation_48 : Cond.fieldLink RX0 48 (TX2 4).1 (TX2 4).2.1 (TX2 4).2.2.1 ∈ wsX0_stopAtStation := by decide +kernel
theorem fk_X0_stopAtStation_190 : Cond.fieldLink RX0 190 (TX1 4).1 (TX1 4).2.1 (TX1 4).2.2.1 ∈ wsX0_stopAtStation := by decide +kernel
theorem fk_X0_stopAtStation_178 : Cond.fieldLink RX0 178 (TX2 7).1 (TX2 7).2.1 (TX2 7).2.2.1 ∈ wsX0_stopAtStation := by decide +kernel
theorem fk_X0_stopAtStation_193 : Cond.fieldLink RX0 193 (TX1 5).1 (TX1 5).2.1 (TX1 5).2.2.1 ∈ wsX0_stopAtStation := by decide +kernel
set_option maxRecDepth 100000 in
set_option maxHeartbeats 4000000 in
theorem k_X0_stopAtStation (l : Launch) (D : va_G) (cI cZ cT : ClassId) (a : Nat → Nat) (t g : Nat → Nat → Int32) (i : Nat) (hi : i < 4) (nS : Nat) (hS : g 8 2 = nI nS) (hS4 : nS ≤ 4) : CV l D kCl (kTy cI cZ cT) yX0_stopAtStation wsX0_stopAtStation ({ frames := 1, cells := 0, slots := 0, locals := 24 }) 0 0 [.ref (a 4), .ref (a i)] (Wl cI cZ cT a t g) (S := Unit) (fun _ => True) (fun _ => Wl cI cZ cT a (m_stopAt t g i nS).1 (m_stopAt t g i nS).2) := by
  refine CV_of (own := RX0) (by decide) rfl rfl (Nat.le_of_ble_eq_true rfl) rfl (fun X A hC hE => ?_)
  refine V_aload_n hC dX0_stopAtStation_0 rfl rfl rfl ?_
  refine V_get (q0 := 4) (C := RX0) (T := TX0) (N := 4) hC dX0_stopAtStation_1 in_X0_X0_stopAtStation rfl rfl 0 (Nat.le_of_ble_eq_true rfl) fk_X0_stopAtStation_12 rfl rfl ?_
  refine V_aload_n hC dX0_stopAtStation_4 rfl rfl rfl ?_
  refine V_get (C := RX2) (T := TX2) (N := 18) hC dX0_stopAtStation_5 in_X2_X0_stopAtStation (Wl_t hi) rfl 8 (Nat.le_of_ble_eq_true rfl) fk_X0_stopAtStation_58 rfl rfl ?_
  refine V_callIV (q0 := 5) (n := 1) hC dX0_stopAtStation_8 (k_X1_nextStation l D cI cZ cT a _ _ _ _ hS hS4) gX0_stopAtStation_X1_nextStation rfl ⟨rfl, rfl⟩ (by decide +kernel) ⟨Nat.le_of_ble_eq_true rfl, Nat.le_of_ble_eq_true rfl⟩ ⟨Nat.le_of_ble_eq_true rfl, Nat.le_of_ble_eq_true rfl⟩ rfl rfl rfl rfl (by exact Nat.le_of_ble_eq_true rfl) rfl (fun r_8 u_8 h_8 => ?_)
  subst h_8
  refine V_istore_n hC dX0_stopAtStation_11 rfl (Nat.le_of_ble_eq_true rfl) rfl ?_
  refine V_iload_n hC dX0_stopAtStation_12 rfl rfl rfl ?_
  refine V_iconst (v := (-1)) hC dX0_stopAtStation_13 (by decide) rfl ?_
  refine V_icmp_eq (tgt := 80) hC dX0_stopAtStation_14 (by decide) rfl (fun c_14 => ?_) (fun c_14 => ?_)
  · have hj := nxI_nn (fun j q => by have := nxO_lt q; omega) c_14
    exact hE () _ _ _ dX0_stopAtStation_80 trivial (by simp [m_stopAt, up2_s, upd, *]) trivial
  · obtain ⟨j, hj, hj2⟩ := nxI_some c_14
    have hj3 := nxO_lt hj
    rw [hj2]
    refine V_aload_n hC dX0_stopAtStation_17 rfl rfl rfl ?_
    refine V_get (C := RX2) (T := TX2) (N := 18) hC dX0_stopAtStation_18 in_X2_X0_stopAtStation (Wl_t hi) rfl 5 (Nat.le_of_ble_eq_true rfl) fk_X0_stopAtStation_80 rfl rfl ?_
    refine V_if_ne (tgt := 80) hC dX0_stopAtStation_21 (by decide) rfl (fun c_21 => ?_) (fun c_21 => ?_)
    · exact hE () _ _ _ dX0_stopAtStation_80 trivial (by simp [m_stopAt, up2_s, upd, *]) trivial
    · refine V_aload_n hC dX0_stopAtStation_24 rfl rfl rfl ?_
      refine V_get (q0 := 4) (C := RX0) (T := TX0) (N := 4) hC dX0_stopAtStation_25 in_X0_X0_stopAtStation rfl rfl 0 (Nat.le_of_ble_eq_true rfl) fk_X0_stopAtStation_12 rfl rfl ?_
      refine V_get (q0 := 5) (C := RX1) (T := TX1) (N := 10) hC dX0_stopAtStation_28 in_X1_X0_stopAtStation rfl rfl 3 (Nat.le_of_ble_eq_true rfl) fk_X0_stopAtStation_111 rfl rfl ?_
      refine V_iload_n hC dX0_stopAtStation_31 rfl rfl rfl ?_
      refine V_iald (q0 := 9) hC dX0_stopAtStation_32 rfl 0 rfl rfl (by omega) (by decide) rfl ?_
      refine V_aload_n hC dX0_stopAtStation_33 rfl rfl rfl ?_
      refine V_get (C := RX2) (T := TX2) (N := 18) hC dX0_stopAtStation_34 in_X2_X0_stopAtStation (Wl_t hi) rfl 4 (Nat.le_of_ble_eq_true rfl) fk_X0_stopAtStation_48 rfl rfl ?_
      refine V_icmp_ne (tgt := 80) hC dX0_stopAtStation_37 (by decide) rfl (fun c_37 => ?_) (fun c_37 => ?_)
      · exact hE () _ _ _ dX0_stopAtStation_80 trivial (by simp [m_stopAt, up2_s, upd, *]) trivial
      · refine V_aload_n hC dX0_stopAtStation_40 rfl rfl rfl ?_
        refine V_aload_n hC dX0_stopAtStation_41 rfl rfl rfl ?_
        refine V_get (q0 := 4) (C := RX0) (T := TX0) (N := 4) hC dX0_stopAtStation_42 in_X0_X0_stopAtStation rfl rfl 0 (Nat.le_of_ble_eq_true rfl) fk_X0_stopAtStation_12 rfl rfl ?_
        refine V_get (q0 := 5) (C := RX1) (T := TX1) (N := 10) hC dX0_stopAtStation_45 in_X1_X0_stopAtStation rfl rfl 4 (Nat.le_of_ble_eq_true rfl) fk_X0_stopAtStation_190 rfl rfl ?_
        refine V_iload_n hC dX0_stopAtStation_48 rfl rfl rfl ?_
        refine V_iald (q0 := 10) hC dX0_stopAtStation_49 rfl 0 rfl rfl (by omega) (by decide) rfl ?_
        refine V_put (C := RX2) (T := TX2) (N := 18) hC dX0_stopAtStation_50 in_X2_X0_stopAtStation tyX2 tyX2_ok nmX2 (Wl_t hi) rfl 7 (Nat.le_of_ble_eq_true rfl) fk_X0_stopAtStation_178 rfl rfl rfl rfl (Nat.le_of_ble_eq_true rfl) (Wl_set hi (by decide)) rfl ?_
        refine V_aload_n hC dX0_stopAtStation_53 rfl rfl rfl ?_
        refine V_dup hC dX0_stopAtStation_54 rfl rfl ?_
        refine V_get (C := RX2) (T := TX2) (N := 18) hC dX0_stopAtStation_55 in_X2_X0_stopAtStation (Wl_t hi) rfl 8 (Nat.le_of_ble_eq_true rfl) fk_X0_stopAtStation_58 rfl rfl ?_
        refine V_iconst (v := 1) hC dX0_stopAtStation_58 (by decide) rfl ?_
        refine V_iload_n hC dX0_stopAtStation_59 rfl rfl rfl ?_
        refine V_ishl hC dX0_stopAtStation_60 rfl ?_
        refine V_iconst (v := (-1)) hC dX0_stopAtStation_61 (by decide) rfl ?_
        refine V_ixor hC dX0_stopAtStation_62 rfl ?_
        refine V_iand hC dX0_stopAtStation_63 rfl ?_
        refine V_put (C := RX2) (T := TX2) (N := 18) hC dX0_stopAtStation_64 in_X2_X0_stopAtStation tyX2 tyX2_ok nmX2 (Wl_t hi) rfl 8 (Nat.le_of_ble_eq_true rfl) fk_X0_stopAtStation_58 rfl rfl rfl rfl (Nat.le_of_ble_eq_true rfl) (Wl_set hi (by decide)) rfl ?_
        refine V_aload_n hC dX0_stopAtStation_67 rfl rfl rfl ?_
        refine V_get (q0 := 4) (C := RX0) (T := TX0) (N := 4) hC dX0_stopAtStation_68 in_X0_X0_stopAtStation rfl rfl 0 (Nat.le_of_ble_eq_true rfl) fk_X0_stopAtStation_12 rfl rfl ?_
        refine V_get (q0 := 5) (C := RX1) (T := TX1) (N := 10) hC dX0_stopAtStation_71 in_X1_X0_stopAtStation rfl rfl 5 (Nat.le_of_ble_eq_true rfl) fk_X0_stopAtStation_193 rfl rfl ?_
        refine V_iload_n hC dX0_stopAtStation_74 rfl rfl rfl ?_
        refine V_dup2 hC dX0_stopAtStation_75 rfl rfl rfl ?_
        refine V_iald (q0 := 11) hC dX0_stopAtStation_76 rfl 0 rfl rfl (by omega) (by decide) rfl ?_
        refine V_iconst (v := 1) hC dX0_stopAtStation_77 (by decide) rfl ?_
        refine V_iadd hC dX0_stopAtStation_78 rfl ?_
        refine V_iast (q0 := 11) hC dX0_stopAtStation_79 rfl 0 rfl rfl (by omega) (by decide) Wl_r5 rfl ?_
        exact hE () _ _ _ dX0_stopAtStation_80 trivial (by simp [m_stopAt, up2_s, upd, *]) trivial
theorem in_X2_X0_missStations : ∀ w ∈ u_ws RX2 TX2 18, w ∈ wsX0_missStations := by decide +kernel
theorem fk_X0_missStations_58 : Cond.fieldLink RX0 58 (TX2 8).1 (TX2 8).2.1 (TX2 8).2.2.1 ∈ wsX0_missStations := by decide +kernel
theorem in_X0_X0_missStations : ∀ w ∈ u_ws RX0 TX0 4, w ∈ wsX0_missStations := by decide +kernel
theorem fk_X0_missStations_12 : Cond.fieldLink RX0 12 (TX0 0).1 (TX0 0).2.1 (TX0 0).2.2.1 ∈ wsX0_missStations := by decide +kernel
theorem fk_X0_missStations_48 : Cond.fieldLink RX0 48 (TX2 4).1 (TX2 4).2.1 (TX2 4).2.2.1 ∈ wsX0_missStations := by decide +kernel
theorem fk_X0_missStations_89 : Cond.fieldLink RX0 89 (TX2 16).1 (TX2 16).2.1 (TX2 16).2.2.1 ∈ wsX0_missStations := by decide +kernel
set_option maxRecDepth 100000 in
set_option maxHeartbeats 4000000 in
theorem k_X0_missStations (l : Launch) (D : va_G) (cI cZ cT : ClassId) (a : Nat → Nat) (t g : Nat → Nat → Int32) (i : Nat) (hi : i < 4) (nS : Nat) (hS : g 8 2 = nI nS) (hS4 : nS ≤ 4) : CV l D kCl (kTy cI cZ cT) yX0_missStations wsX0_missStations ({ frames := 1, cells := 0, slots := 0, locals := 23 }) 0 0 [.ref (a 4), .ref (a i)] (Wl cI cZ cT a t g) (S := Unit) (fun _ => True) (fun _ => Wl cI cZ cT a (m_miss t g i nS) g) := by
  refine CV_of (own := RX0) (by decide) rfl rfl (Nat.le_of_ble_eq_true rfl) rfl (fun X A hC hE => ?_)
  refine V_aload_n hC dX0_missStations_0 rfl rfl rfl ?_
  refine V_get (C := RX2) (T := TX2) (N := 18) hC dX0_missStations_1 in_X2_X0_missStations (Wl_t hi) rfl 8 (Nat.le_of_ble_eq_true rfl) fk_X0_missStations_58 rfl rfl ?_
  refine V_aload_n hC dX0_missStations_4 rfl rfl rfl ?_
  refine V_get (q0 := 4) (C := RX0) (T := TX0) (N := 4) hC dX0_missStations_5 in_X0_X0_missStations rfl rfl 0 (Nat.le_of_ble_eq_true rfl) fk_X0_missStations_12 rfl rfl ?_
  refine V_aload_n hC dX0_missStations_8 rfl rfl rfl ?_
  refine V_get (C := RX2) (T := TX2) (N := 18) hC dX0_missStations_9 in_X2_X0_missStations (Wl_t hi) rfl 4 (Nat.le_of_ble_eq_true rfl) fk_X0_missStations_48 rfl rfl ?_
  refine V_callIV (q0 := 5) (n := 1) hC dX0_missStations_12 (k_X1_stationsFrom l D cI cZ cT a _ _ _ _ hS hS4) gX0_missStations_X1_stationsFrom rfl ⟨rfl, rfl⟩ (by decide +kernel) ⟨Nat.le_of_ble_eq_true rfl, Nat.le_of_ble_eq_true rfl⟩ ⟨Nat.le_of_ble_eq_true rfl, Nat.le_of_ble_eq_true rfl⟩ rfl rfl rfl rfl (by exact Nat.le_of_ble_eq_true rfl) rfl (fun r_12 u_12 h_12 => ?_)
  subst h_12
  refine V_iand hC dX0_missStations_15 rfl ?_
  refine V_istore_n hC dX0_missStations_16 rfl (Nat.le_of_ble_eq_true rfl) rfl ?_
  refine V_aload_n hC dX0_missStations_17 rfl rfl rfl ?_
  refine V_dup hC dX0_missStations_18 rfl rfl ?_
  refine V_get (C := RX2) (T := TX2) (N := 18) hC dX0_missStations_19 in_X2_X0_missStations (Wl_t hi) rfl 16 (Nat.le_of_ble_eq_true rfl) fk_X0_missStations_89 rfl rfl ?_
  refine V_aload_n hC dX0_missStations_22 rfl rfl rfl ?_
  refine V_get (C := RX2) (T := TX2) (N := 18) hC dX0_missStations_23 in_X2_X0_missStations (Wl_t hi) rfl 8 (Nat.le_of_ble_eq_true rfl) fk_X0_missStations_58 rfl rfl ?_
  refine V_callIS0 (n := 1) hC dX0_missStations_26 (k_J6_bitCount_0f7a4 l D cI cZ cT _) gX0_missStations_J6_bitCount_0f7a4 rfl ⟨rfl, rfl⟩ (by decide +kernel) ⟨Nat.le_of_ble_eq_true rfl, Nat.le_of_ble_eq_true rfl⟩ ⟨Nat.le_of_ble_eq_true rfl, Nat.le_of_ble_eq_true rfl⟩ rfl rfl (by exact Nat.le_of_ble_eq_true rfl) rfl (fun r_26 u_26 h_26 => ?_)
  subst h_26
  refine V_iload_n hC dX0_missStations_29 rfl rfl rfl ?_
  refine V_callIS0 (n := 1) hC dX0_missStations_30 (k_J6_bitCount_0f7a4 l D cI cZ cT _) gX0_missStations_J6_bitCount_0f7a4 rfl ⟨rfl, rfl⟩ (by decide +kernel) ⟨Nat.le_of_ble_eq_true rfl, Nat.le_of_ble_eq_true rfl⟩ ⟨Nat.le_of_ble_eq_true rfl, Nat.le_of_ble_eq_true rfl⟩ rfl rfl (by exact Nat.le_of_ble_eq_true rfl) rfl (fun r_30 u_30 h_30 => ?_)
  subst h_30
  refine V_isub hC dX0_missStations_33 rfl ?_
  refine V_iadd hC dX0_missStations_34 rfl ?_
  refine V_put (C := RX2) (T := TX2) (N := 18) hC dX0_missStations_35 in_X2_X0_missStations tyX2 tyX2_ok nmX2 (Wl_t hi) rfl 16 (Nat.le_of_ble_eq_true rfl) fk_X0_missStations_89 rfl rfl rfl rfl (Nat.le_of_ble_eq_true rfl) (Wl_set hi (by decide)) rfl ?_
  refine V_aload_n hC dX0_missStations_38 rfl rfl rfl ?_
  refine V_iload_n hC dX0_missStations_39 rfl rfl rfl ?_
  refine V_put (C := RX2) (T := TX2) (N := 18) hC dX0_missStations_40 in_X2_X0_missStations tyX2 tyX2_ok nmX2 (Wl_t hi) rfl 8 (Nat.le_of_ble_eq_true rfl) fk_X0_missStations_58 rfl rfl rfl rfl (Nat.le_of_ble_eq_true rfl) (Wl_set hi (by decide)) rfl ?_
  exact hE () _ _ _ dX0_missStations_43 trivial rfl trivial
theorem in_X2_X0_go : ∀ w ∈ u_ws RX2 TX2 18, w ∈ wsX0_go := by decide +kernel
theorem fk_X0_go_178 : Cond.fieldLink RX0 178 (TX2 7).1 (TX2 7).2.1 (TX2 7).2.2.1 ∈ wsX0_go := by decide +kernel
theorem fk_X0_go_80 : Cond.fieldLink RX0 80 (TX2 5).1 (TX2 5).2.1 (TX2 5).2.2.1 ∈ wsX0_go := by decide +kernel
theorem fk_X0_go_48 : Cond.fieldLink RX0 48 (TX2 4).1 (TX2 4).2.1 (TX2 4).2.2.1 ∈ wsX0_go := by decide +kernel
theorem ml102_X0_go : Cond.methodLink RX0 102 Lib.Math.max.name ∈ wsX0_go := by decide +kernel
theorem msmax_X0_go : Cond.static Lib.Math.max.name ∈ wsX0_go := by decide +kernel
theorem mi_X0_go : Cond.initialized "java/lang/Math" ∈ wsX0_go := by decide +kernel
theorem mcmax_X0_go : Cond.code Lib.Math.max.name Lib.Math.max.code 2 (some .int) ∈ wsX0_go := by decide +kernel
theorem fk_X0_go_83 : Cond.fieldLink RX0 83 (TX2 14).1 (TX2 14).2.1 (TX2 14).2.2.1 ∈ wsX0_go := by decide +kernel
theorem fk_X0_go_45 : Cond.fieldLink RX0 45 (TX2 2).1 (TX2 2).2.1 (TX2 2).2.2.1 ∈ wsX0_go := by decide +kernel
theorem ml114_X0_go : Cond.methodLink RX0 114 Lib.Math.min.name ∈ wsX0_go := by decide +kernel
theorem msmin_X0_go : Cond.static Lib.Math.min.name ∈ wsX0_go := by decide +kernel
theorem mcmin_X0_go : Cond.code Lib.Math.min.name Lib.Math.min.code 2 (some .int) ∈ wsX0_go := by decide +kernel
set_option maxRecDepth 100000 in
set_option maxHeartbeats 4000000 in
theorem k_X0_go (l : Launch) (D : va_G) (cI cZ cT : ClassId) (a : Nat → Nat) (t g : Nat → Nat → Int32) (i : Nat) (hi : i < 4) (nS : Nat) (hS : g 8 2 = nI nS) (hS4 : nS ≤ 4) : CV l D kCl (kTy cI cZ cT) yX0_go wsX0_go ({ frames := 3, cells := 0, slots := 0, locals := 70 }) 0 0 [.ref (a 4), .ref (a i)] (Wl cI cZ cT a t g) (S := Unit) (fun _ => True) (fun _ => Wl cI cZ cT a (m_go t g i nS).1 (m_go t g i nS).2) := by
  refine CV_of (own := RX0) (by decide) rfl rfl (Nat.le_of_ble_eq_true rfl) rfl (fun X A hC hE => ?_)
  refine V_aload_n hC dX0_go_0 rfl rfl rfl ?_
  refine V_get (C := RX2) (T := TX2) (N := 18) hC dX0_go_1 in_X2_X0_go (Wl_t hi) rfl 7 (Nat.le_of_ble_eq_true rfl) fk_X0_go_178 rfl rfl ?_
  refine V_if_le (tgt := 18) hC dX0_go_4 (by decide) rfl (fun c_4 => ?_) (fun c_4 => ?_)
  · refine V_aload_n hC dX0_go_18 rfl rfl rfl ?_
    refine V_aload_n hC dX0_go_19 rfl rfl rfl ?_
    refine V_callIV (q0 := 4) (n := 1) hC dX0_go_20 (k_X0_allowedSpeed l D cI cZ cT a _ _ _ hi _ hS hS4) gX0_go_X0_allowedSpeed rfl ⟨rfl, rfl⟩ (by decide +kernel) ⟨Nat.le_of_ble_eq_true rfl, Nat.le_of_ble_eq_true rfl⟩ ⟨Nat.le_of_ble_eq_true rfl, Nat.le_of_ble_eq_true rfl⟩ rfl rfl rfl rfl (by exact Nat.le_of_ble_eq_true rfl) rfl (fun r_20 u_20 h_20 => ?_)
    subst h_20
    refine V_istore_n hC dX0_go_23 rfl (Nat.le_of_ble_eq_true rfl) rfl ?_
    refine V_aload_n hC dX0_go_24 rfl rfl rfl ?_
    refine V_get (C := RX2) (T := TX2) (N := 18) hC dX0_go_25 in_X2_X0_go (Wl_t hi) rfl 5 (Nat.le_of_ble_eq_true rfl) fk_X0_go_80 rfl rfl ?_
    refine V_iload_n hC dX0_go_28 rfl rfl rfl ?_
    have join_88 : ∀ t1 : Nat → Nat → Int32, t1 = m_go1 t g i nS → V X 0 0 (Wl cI cZ cT a t1 g) [(0, .ref (a 4)), (1, .ref (a i))] 88 [] := by
      intro t1 ht1
      refine V_aload_n hC dX0_go_88 rfl rfl rfl ?_
      refine V_dup hC dX0_go_89 rfl rfl ?_
      refine V_get (C := RX2) (T := TX2) (N := 18) hC dX0_go_90 in_X2_X0_go (Wl_t hi) rfl 4 (Nat.le_of_ble_eq_true rfl) fk_X0_go_48 rfl rfl ?_
      refine V_aload_n hC dX0_go_93 rfl rfl rfl ?_
      refine V_get (C := RX2) (T := TX2) (N := 18) hC dX0_go_94 in_X2_X0_go (Wl_t hi) rfl 5 (Nat.le_of_ble_eq_true rfl) fk_X0_go_80 rfl rfl ?_
      refine V_iadd hC dX0_go_97 rfl ?_
      refine V_put (C := RX2) (T := TX2) (N := 18) hC dX0_go_98 in_X2_X0_go tyX2 tyX2_ok nmX2 (Wl_t hi) rfl 4 (Nat.le_of_ble_eq_true rfl) fk_X0_go_48 rfl rfl rfl rfl (Nat.le_of_ble_eq_true rfl) (Wl_set hi (by decide)) rfl ?_
      refine V_aload_n hC dX0_go_101 rfl rfl rfl ?_
      refine V_aload_n hC dX0_go_102 rfl rfl rfl ?_
      refine V_callVV (q0 := 4) (n := 1) hC dX0_go_103 (k_X0_stopAtStation l D cI cZ cT a _ _ _ hi _ hS hS4) gX0_go_X0_stopAtStation rfl ⟨rfl, rfl⟩ (by decide +kernel) ⟨Nat.le_of_ble_eq_true rfl, Nat.le_of_ble_eq_true rfl⟩ ⟨Nat.le_of_ble_eq_true rfl, Nat.le_of_ble_eq_true rfl⟩ rfl rfl rfl rfl (by exact Nat.le_of_ble_eq_true rfl) rfl (fun u_103 h_103 => ?_)
      refine V_aload_n hC dX0_go_106 rfl rfl rfl ?_
      refine V_aload_n hC dX0_go_107 rfl rfl rfl ?_
      refine V_callVV (q0 := 4) (n := 1) hC dX0_go_108 (k_X0_missStations l D cI cZ cT a _ _ _ hi _ (by rw [m_stopAt_g _ _ _ _ (by decide)]; exact hS) hS4) gX0_go_X0_missStations rfl ⟨rfl, rfl⟩ (by decide +kernel) ⟨Nat.le_of_ble_eq_true rfl, Nat.le_of_ble_eq_true rfl⟩ ⟨Nat.le_of_ble_eq_true rfl, Nat.le_of_ble_eq_true rfl⟩ rfl rfl rfl rfl (by exact Nat.le_of_ble_eq_true rfl) rfl (fun u_108 h_108 => ?_)
      exact hE () _ _ _ dX0_go_111 trivial (by subst ht1; exact (congrArg (fun z : LnS => Wl cI cZ cT a z.1 z.2) (if_neg (Int32.not_lt.mpr c_4) : m_go t g i nS = _)).symm) trivial
    refine V_icmp_ge (tgt := 52) hC dX0_go_29 (by decide) rfl (fun c_29 => ?_) (fun c_29 => ?_)
    · refine V_aload_n hC dX0_go_52 rfl rfl rfl ?_
      refine V_get (C := RX2) (T := TX2) (N := 18) hC dX0_go_53 in_X2_X0_go (Wl_t hi) rfl 5 (Nat.le_of_ble_eq_true rfl) fk_X0_go_80 rfl rfl ?_
      refine V_iload_n hC dX0_go_56 rfl rfl rfl ?_
      refine V_icmp_le (tgt := 88) hC dX0_go_57 (by decide) rfl (fun c_57 => ?_) (fun c_57 => ?_)
      · refine V_to (join_88 _ ?_) (lc rfl (lc rfl ln))
        first
        | (rw [m_go1, if_neg c_29]; rfl)
        | (rw [m_go1, if_pos c_29, if_pos c_57]; done)
        | (rw [m_go1, if_pos c_29, if_neg c_57]; simp [up2_s, upd, m_max]; done)
      · refine V_aload_n hC dX0_go_60 rfl rfl rfl ?_
        refine V_aload_n hC dX0_go_61 rfl rfl rfl ?_
        refine V_get (C := RX2) (T := TX2) (N := 18) hC dX0_go_62 in_X2_X0_go (Wl_t hi) rfl 5 (Nat.le_of_ble_eq_true rfl) fk_X0_go_80 rfl rfl ?_
        refine V_aload_n hC dX0_go_65 rfl rfl rfl ?_
        refine V_aload_n hC dX0_go_66 rfl rfl rfl ?_
        refine V_callIV (q0 := 4) (n := 1) hC dX0_go_67 (k_X0_holdOf l D cI cZ cT a _ _ _ hi) gX0_go_X0_holdOf rfl ⟨rfl, rfl⟩ (by decide +kernel) ⟨Nat.le_of_ble_eq_true rfl, Nat.le_of_ble_eq_true rfl⟩ ⟨Nat.le_of_ble_eq_true rfl, Nat.le_of_ble_eq_true rfl⟩ rfl rfl rfl rfl (by exact Nat.le_of_ble_eq_true rfl) rfl (fun r_67 u_67 h_67 => ?_)
        subst h_67
        refine V_isub hC dX0_go_70 rfl ?_
        refine V_iload_n hC dX0_go_71 rfl rfl rfl ?_
        refine V_mmax hC dX0_go_72 ml102_X0_go msmax_X0_go mi_X0_go mcmax_X0_go (Nat.le_of_ble_eq_true rfl) (Nat.le_of_ble_eq_true rfl) (Nat.le_of_ble_eq_true rfl) (Nat.le_of_ble_eq_true rfl) rfl ?_
        refine V_put (C := RX2) (T := TX2) (N := 18) hC dX0_go_75 in_X2_X0_go tyX2 tyX2_ok nmX2 (Wl_t hi) rfl 5 (Nat.le_of_ble_eq_true rfl) fk_X0_go_80 rfl rfl rfl rfl (Nat.le_of_ble_eq_true rfl) (Wl_set hi (by decide)) rfl ?_
        refine V_aload_n hC dX0_go_78 rfl rfl rfl ?_
        refine V_dup hC dX0_go_79 rfl rfl ?_
        refine V_get (C := RX2) (T := TX2) (N := 18) hC dX0_go_80 in_X2_X0_go (Wl_t hi) rfl 14 (Nat.le_of_ble_eq_true rfl) fk_X0_go_83 rfl rfl ?_
        refine V_iconst (v := 1) hC dX0_go_83 (by decide) rfl ?_
        refine V_iadd hC dX0_go_84 rfl ?_
        refine V_put (C := RX2) (T := TX2) (N := 18) hC dX0_go_85 in_X2_X0_go tyX2 tyX2_ok nmX2 (Wl_t hi) rfl 14 (Nat.le_of_ble_eq_true rfl) fk_X0_go_83 rfl rfl rfl rfl (Nat.le_of_ble_eq_true rfl) (Wl_set hi (by decide)) rfl ?_
        refine V_to (join_88 _ ?_) (lc rfl (lc rfl ln))
        first
        | (rw [m_go1, if_neg c_29]; rfl)
        | (rw [m_go1, if_pos c_29, if_pos c_57]; done)
        | (rw [m_go1, if_pos c_29, if_neg c_57]; simp [up2_s, upd, m_max]; done)
    · refine V_aload_n hC dX0_go_32 rfl rfl rfl ?_
      refine V_aload_n hC dX0_go_33 rfl rfl rfl ?_
      refine V_get (C := RX2) (T := TX2) (N := 18) hC dX0_go_34 in_X2_X0_go (Wl_t hi) rfl 5 (Nat.le_of_ble_eq_true rfl) fk_X0_go_80 rfl rfl ?_
      refine V_aload_n hC dX0_go_37 rfl rfl rfl ?_
      refine V_get (C := RX2) (T := TX2) (N := 18) hC dX0_go_38 in_X2_X0_go (Wl_t hi) rfl 2 (Nat.le_of_ble_eq_true rfl) fk_X0_go_45 rfl rfl ?_
      refine V_iadd hC dX0_go_41 rfl ?_
      refine V_iload_n hC dX0_go_42 rfl rfl rfl ?_
      refine V_mmin hC dX0_go_43 ml114_X0_go msmin_X0_go mi_X0_go mcmin_X0_go (Nat.le_of_ble_eq_true rfl) (Nat.le_of_ble_eq_true rfl) (Nat.le_of_ble_eq_true rfl) (Nat.le_of_ble_eq_true rfl) rfl ?_
      refine V_put (C := RX2) (T := TX2) (N := 18) hC dX0_go_46 in_X2_X0_go tyX2 tyX2_ok nmX2 (Wl_t hi) rfl 5 (Nat.le_of_ble_eq_true rfl) fk_X0_go_80 rfl rfl rfl rfl (Nat.le_of_ble_eq_true rfl) (Wl_set hi (by decide)) rfl ?_
      refine V_goto (tgt := 88) hC dX0_go_49 (by decide) ?_
      refine V_to (join_88 _ ?_) (lc rfl (lc rfl ln))
      first
      | (rw [m_go1, if_neg c_29]; rfl)
      | (rw [m_go1, if_pos c_29, if_pos c_57]; done)
      | (rw [m_go1, if_pos c_29, if_neg c_57]; simp [up2_s, upd, m_max]; done)
  · refine V_aload_n hC dX0_go_7 rfl rfl rfl ?_
    refine V_dup hC dX0_go_8 rfl rfl ?_
    refine V_get (C := RX2) (T := TX2) (N := 18) hC dX0_go_9 in_X2_X0_go (Wl_t hi) rfl 7 (Nat.le_of_ble_eq_true rfl) fk_X0_go_178 rfl rfl ?_
    refine V_iconst (v := 1) hC dX0_go_12 (by decide) rfl ?_
    refine V_isub hC dX0_go_13 rfl ?_
    refine V_put (C := RX2) (T := TX2) (N := 18) hC dX0_go_14 in_X2_X0_go tyX2 tyX2_ok nmX2 (Wl_t hi) rfl 7 (Nat.le_of_ble_eq_true rfl) fk_X0_go_178 rfl rfl rfl rfl (Nat.le_of_ble_eq_true rfl) (Wl_set hi (by decide)) rfl ?_
    exact hE () _ _ _ dX0_go_17 trivial (by exact (congrArg (fun z : LnS => Wl cI cZ cT a z.1 z.2) (if_pos (Int32.not_le.mp c_4) : m_go t g i nS = _)).symm) trivial
theorem in_X0_X0_look : ∀ w ∈ u_ws RX0 TX0 4, w ∈ wsX0_look := by decide +kernel
theorem fk_X0_look_20 : Cond.fieldLink RX0 20 (TX0 1).1 (TX0 1).2.1 (TX0 1).2.2.1 ∈ wsX0_look := by decide +kernel
theorem in_X2_X0_look : ∀ w ∈ u_ws RX2 TX2 18, w ∈ wsX0_look := by decide +kernel
theorem fk_X0_look_48 : Cond.fieldLink RX0 48 (TX2 4).1 (TX2 4).2.1 (TX2 4).2.2.1 ∈ wsX0_look := by decide +kernel
theorem fk_X0_look_51 : Cond.fieldLink RX0 51 (TX2 6).1 (TX2 6).2.1 (TX2 6).2.2.1 ∈ wsX0_look := by decide +kernel
theorem fk_X0_look_201 : Cond.fieldLink RX0 201 (TX2 17).1 (TX2 17).2.1 (TX2 17).2.2.1 ∈ wsX0_look := by decide +kernel
theorem ml114_X0_look : Cond.methodLink RX0 114 Lib.Math.min.name ∈ wsX0_look := by decide +kernel
theorem msmin_X0_look : Cond.static Lib.Math.min.name ∈ wsX0_look := by decide +kernel
theorem mi_X0_look : Cond.initialized "java/lang/Math" ∈ wsX0_look := by decide +kernel
theorem mcmin_X0_look : Cond.code Lib.Math.min.name Lib.Math.min.code 2 (some .int) ∈ wsX0_look := by decide +kernel
theorem fk_X0_look_86 : Cond.fieldLink RX0 86 (TX2 15).1 (TX2 15).2.1 (TX2 15).2.2.1 ∈ wsX0_look := by decide +kernel
set_option maxRecDepth 100000 in
set_option maxHeartbeats 4000000 in
theorem k_X0_look (l : Launch) (D : va_G) (cI cZ cT : ClassId) (a : Nat → Nat) (t g : Nat → Nat → Int32) (i : Nat) (hi : i < 4) : CV l D kCl (kTy cI cZ cT) yX0_look wsX0_look ({ frames := 1, cells := 0, slots := 0, locals := 22 }) 0 0 [.ref (a 4), .int (nI i)] (Wl cI cZ cT a t g) (S := Unit) (fun _ => True) (fun _ => Wl cI cZ cT a (m_look t i) g) := by
  refine CV_of (own := RX0) (by decide) rfl rfl (Nat.le_of_ble_eq_true rfl) rfl (fun X A hC hE => ?_)
  refine V_aload_n hC dX0_look_0 rfl rfl rfl ?_
  refine V_get (q0 := 4) (C := RX0) (T := TX0) (N := 4) hC dX0_look_1 in_X0_X0_look rfl rfl 1 (Nat.le_of_ble_eq_true rfl) fk_X0_look_20 rfl rfl ?_
  refine V_iload_n hC dX0_look_4 rfl rfl rfl ?_
  refine V_aald (q0 := 14) hC dX0_look_5 rfl 2 rfl rfl hi (by decide) (trA_at hi) rfl ?_
  refine V_astore_n hC dX0_look_6 rfl (Nat.le_of_ble_eq_true rfl) rfl ?_
  refine V_aload_n hC dX0_look_7 rfl rfl rfl ?_
  refine V_get (C := RX2) (T := TX2) (N := 18) hC dX0_look_8 in_X2_X0_look (Wl_t hi) rfl 4 (Nat.le_of_ble_eq_true rfl) fk_X0_look_48 rfl rfl ?_
  refine V_aload_n hC dX0_look_11 rfl rfl rfl ?_
  refine V_get (C := RX2) (T := TX2) (N := 18) hC dX0_look_12 in_X2_X0_look (Wl_t hi) rfl 6 (Nat.le_of_ble_eq_true rfl) fk_X0_look_51 rfl rfl ?_
  have join_28 : ∀ t1 : Nat → Nat → Int32, t1 = m_look1 t i → V X 0 0 (Wl cI cZ cT a t1 g) [(0, .ref (a 4)), (1, .int (nI i)), (2, .ref (a i))] 28 [] := by
    intro t1 ht1
    refine V_aload_n hC dX0_look_28 rfl rfl rfl ?_
    refine V_iload_n hC dX0_look_29 rfl rfl rfl ?_
    refine V_callIV (q0 := 4) (n := 1) hC dX0_look_30 (k_X0_aheadOf l D cI cZ cT a _ _ _ hi) gX0_look_X0_aheadOf rfl ⟨rfl, rfl⟩ (by decide +kernel) ⟨Nat.le_of_ble_eq_true rfl, Nat.le_of_ble_eq_true rfl⟩ ⟨Nat.le_of_ble_eq_true rfl, Nat.le_of_ble_eq_true rfl⟩ rfl rfl rfl rfl (by exact Nat.le_of_ble_eq_true rfl) rfl (fun r_30 u_30 h_30 => ?_)
    subst h_30
    refine V_istore_n hC dX0_look_33 rfl (Nat.le_of_ble_eq_true rfl) rfl ?_
    refine V_iload_n hC dX0_look_34 rfl rfl rfl ?_
    refine V_iconst (v := (-1)) hC dX0_look_35 (by decide) rfl ?_
    refine V_icmp_ne (tgt := 40) hC dX0_look_36 (by decide) rfl (fun c_36 => ?_) (fun c_36 => ?_)
    · have h1 := nxI_some c_36
      obtain ⟨j, hj, hj2⟩ := h1
      have hj3 := m_ahead_lt hj
      have j4 : j < 4 := by omega
      rw [hj2]
      refine V_aload_n hC dX0_look_40 rfl rfl rfl ?_
      refine V_get (q0 := 4) (C := RX0) (T := TX0) (N := 4) hC dX0_look_41 in_X0_X0_look rfl rfl 1 (Nat.le_of_ble_eq_true rfl) fk_X0_look_20 rfl rfl ?_
      refine V_iload_n hC dX0_look_44 rfl rfl rfl ?_
      refine V_aald (q0 := 14) hC dX0_look_45 rfl 2 rfl rfl j4 (by decide) (trA_at j4) rfl ?_
      refine V_callIV (n := 0) hC dX0_look_46 (k_X2_rear l D cI cZ cT a _ _ _ j4) gX0_look_X2_rear rfl ⟨rfl, rfl⟩ (by decide +kernel) ⟨Nat.le_of_ble_eq_true rfl, Nat.le_of_ble_eq_true rfl⟩ ⟨Nat.le_of_ble_eq_true rfl, Nat.le_of_ble_eq_true rfl⟩ (Wl_t j4) rfl rfl rfl (by exact Nat.le_of_ble_eq_true rfl) rfl (fun r_46 u_46 h_46 => ?_)
      subst h_46
      refine V_aload_n hC dX0_look_49 rfl rfl rfl ?_
      refine V_get (C := RX2) (T := TX2) (N := 18) hC dX0_look_50 in_X2_X0_look (Wl_t hi) rfl 4 (Nat.le_of_ble_eq_true rfl) fk_X0_look_48 rfl rfl ?_
      refine V_isub hC dX0_look_53 rfl ?_
      refine V_iconst (v := 1) hC dX0_look_54 (by decide) rfl ?_
      refine V_isub hC dX0_look_55 rfl ?_
      refine V_istore hC dX0_look_56 (Nat.le_of_ble_eq_true rfl) rfl ?_
      refine V_aload_n hC dX0_look_58 rfl rfl rfl ?_
      refine V_aload_n hC dX0_look_59 rfl rfl rfl ?_
      refine V_get (C := RX2) (T := TX2) (N := 18) hC dX0_look_60 in_X2_X0_look (Wl_t hi) rfl 17 (Nat.le_of_ble_eq_true rfl) fk_X0_look_201 rfl rfl ?_
      refine V_iload hC dX0_look_63 rfl rfl ?_
      refine V_mmin hC dX0_look_65 ml114_X0_look msmin_X0_look mi_X0_look mcmin_X0_look (Nat.le_of_ble_eq_true rfl) (Nat.le_of_ble_eq_true rfl) (Nat.le_of_ble_eq_true rfl) (Nat.le_of_ble_eq_true rfl) rfl ?_
      refine V_put (C := RX2) (T := TX2) (N := 18) hC dX0_look_68 in_X2_X0_look tyX2 tyX2_ok nmX2 (Wl_t hi) rfl 17 (Nat.le_of_ble_eq_true rfl) fk_X0_look_201 rfl rfl rfl rfl (Nat.le_of_ble_eq_true rfl) (Wl_set hi (by decide)) rfl ?_
      refine V_iload hC dX0_look_71 rfl rfl ?_
      refine V_if_ge (tgt := 89) hC dX0_look_73 (by decide) rfl (fun c_73 => ?_) (fun c_73 => ?_)
      · exact hE () _ _ _ dX0_look_89 trivial (congrArg (fun z => Wl cI cZ cT a z g) (by rw [m_look, ← ht1, hj]; first | exact (if_pos c_73).symm | exact (if_neg c_73).symm)) trivial
      · refine V_aload_n hC dX0_look_76 rfl rfl rfl ?_
        refine V_callVV (n := 0) hC dX0_look_77 (k_X2_crash l D cI cZ cT a _ _ _ hi) gX0_look_X2_crash rfl ⟨rfl, rfl⟩ (by decide +kernel) ⟨Nat.le_of_ble_eq_true rfl, Nat.le_of_ble_eq_true rfl⟩ ⟨Nat.le_of_ble_eq_true rfl, Nat.le_of_ble_eq_true rfl⟩ (Wl_t hi) rfl rfl rfl (by exact Nat.le_of_ble_eq_true rfl) rfl (fun u_77 h_77 => ?_)
        refine V_aload_n hC dX0_look_80 rfl rfl rfl ?_
        refine V_get (q0 := 4) (C := RX0) (T := TX0) (N := 4) hC dX0_look_81 in_X0_X0_look rfl rfl 1 (Nat.le_of_ble_eq_true rfl) fk_X0_look_20 rfl rfl ?_
        refine V_iload_n hC dX0_look_84 rfl rfl rfl ?_
        refine V_aald (q0 := 14) hC dX0_look_85 rfl 2 rfl rfl j4 (by decide) (trA_at j4) rfl ?_
        refine V_callVV (n := 0) hC dX0_look_86 (k_X2_crash l D cI cZ cT a _ _ _ j4) gX0_look_X2_crash rfl ⟨rfl, rfl⟩ (by decide +kernel) ⟨Nat.le_of_ble_eq_true rfl, Nat.le_of_ble_eq_true rfl⟩ ⟨Nat.le_of_ble_eq_true rfl, Nat.le_of_ble_eq_true rfl⟩ (Wl_t j4) rfl rfl rfl (by exact Nat.le_of_ble_eq_true rfl) rfl (fun u_86 h_86 => ?_)
        exact hE () _ _ _ dX0_look_89 trivial (congrArg (fun z => Wl cI cZ cT a z g) (by rw [m_look, ← ht1, hj]; first | exact (if_pos c_73).symm | exact (if_neg c_73).symm)) trivial
    · have hj := nxI_nn (fun j q => by have := m_ahead_lt q; omega) c_36
      exact hE () _ _ _ dX0_look_39 trivial (congrArg (fun z => Wl cI cZ cT a z g) (by rw [m_look, ← ht1, hj])) trivial
  refine V_icmp_le (tgt := 28) hC dX0_look_15 (by decide) rfl (fun c_15 => ?_) (fun c_15 => ?_)
  · refine V_to (join_28 _ ?_) (lc rfl (lc rfl (lc rfl ln)))
    first
    | (rw [m_look1, if_pos c_15]; done)
    | (rw [m_look1, if_neg c_15]; done)
  · refine V_aload_n hC dX0_look_18 rfl rfl rfl ?_
    refine V_dup hC dX0_look_19 rfl rfl ?_
    refine V_get (C := RX2) (T := TX2) (N := 18) hC dX0_look_20 in_X2_X0_look (Wl_t hi) rfl 15 (Nat.le_of_ble_eq_true rfl) fk_X0_look_86 rfl rfl ?_
    refine V_iconst (v := 1) hC dX0_look_23 (by decide) rfl ?_
    refine V_iadd hC dX0_look_24 rfl ?_
    refine V_put (C := RX2) (T := TX2) (N := 18) hC dX0_look_25 in_X2_X0_look tyX2 tyX2_ok nmX2 (Wl_t hi) rfl 15 (Nat.le_of_ble_eq_true rfl) fk_X0_look_86 rfl rfl rfl rfl (Nat.le_of_ble_eq_true rfl) (Wl_set hi (by decide)) rfl ?_
    refine V_to (join_28 _ ?_) (lc rfl (lc rfl (lc rfl ln)))
    first
    | (rw [m_look1, if_pos c_15]; done)
    | (rw [m_look1, if_neg c_15]; done)
theorem in_X0_X0_reportAll : ∀ w ∈ u_ws RX0 TX0 4, w ∈ wsX0_reportAll := by decide +kernel
theorem fk_X0_reportAll_24 : Cond.fieldLink RX0 24 (TX0 2).1 (TX0 2).2.1 (TX0 2).2.2.1 ∈ wsX0_reportAll := by decide +kernel
theorem fk_X0_reportAll_20 : Cond.fieldLink RX0 20 (TX0 1).1 (TX0 1).2.1 (TX0 1).2.2.1 ∈ wsX0_reportAll := by decide +kernel
theorem in_X2_X0_reportAll : ∀ w ∈ u_ws RX2 TX2 18, w ∈ wsX0_reportAll := by decide +kernel
theorem fk_X0_reportAll_65 : Cond.fieldLink RX0 65 (TX2 9).1 (TX2 9).2.1 (TX2 9).2.2.1 ∈ wsX0_reportAll := by decide +kernel
theorem fk_X0_reportAll_28 : Cond.fieldLink RX0 28 (TX0 3).1 (TX0 3).2.1 (TX0 3).2.2.1 ∈ wsX0_reportAll := by decide +kernel
set_option maxRecDepth 100000 in
set_option maxHeartbeats 4000000 in
theorem k_X0_reportAll (l : Launch) (D : va_G) (cI cZ cT : ClassId) (a : Nat → Nat) (t g : Nat → Nat → Int32) (s : Int32) (nT : Nat) (hT : g 8 0 = nI nT) (hT4 : nT ≤ 4) (hz : ∀ c, c < 20 → g 2 c = 0 ∨ g 2 c = 1) : CV l D kCl (kTy cI cZ cT) yX0_reportAll wsX0_reportAll ({ frames := 2, cells := 0, slots := 0, locals := 41 }) 0 0 [.ref (a 4), .int s] (Wl cI cZ cT a t g) (S := Unit) (fun _ => True) (fun _ => Wl cI cZ cT a (m_repAll g s t nT) g) := by
  refine CV_of (own := RX0) (by decide) rfl rfl (Nat.le_of_ble_eq_true rfl) rfl (fun X A hC hE => ?_)
  refine V_iconst (v := 0) hC dX0_reportAll_0 (by decide) rfl ?_
  refine V_istore_n hC dX0_reportAll_1 rfl (Nat.le_of_ble_eq_true rfl) rfl ?_
  have loop_2 : ∀ (d k : Nat), nT - k < d → k ≤ nT → V X 0 0 (Wl cI cZ cT a (m_repAll g s t k) g) [(0, .ref (a 4)), (1, .int s), (2, .int (nI k))] 2 [] := by
    intro d
    induction d with
    | zero => intro k; intros; omega
    | succ d ih =>
      intro k h hk
      refine V_iload_n hC dX0_reportAll_2 rfl rfl rfl ?_
      refine V_aload_n hC dX0_reportAll_3 rfl rfl rfl ?_
      refine V_get (q0 := 4) (C := RX0) (T := TX0) (N := 4) hC dX0_reportAll_4 in_X0_X0_reportAll rfl rfl 2 (Nat.le_of_ble_eq_true rfl) fk_X0_reportAll_24 rfl rfl ?_
      refine V_icmp_ge (tgt := 59) hC dX0_reportAll_7 (by decide) rfl (fun c_7 => ?_) (fun c_7 => ?_)
      · rw [hT] at c_7
        have c1 := nI_le' c_7 (by omega) (by omega)
        obtain rfl : k = nT := by omega
        exact hE () _ _ _ dX0_reportAll_59 trivial rfl trivial
      · rw [hT] at c_7
        have c1 := nI_nle' c_7 (by omega) (by omega)
        have k4 : k < 4 := by omega
        refine V_aload_n hC dX0_reportAll_10 rfl rfl rfl ?_
        refine V_get (q0 := 4) (C := RX0) (T := TX0) (N := 4) hC dX0_reportAll_11 in_X0_X0_reportAll rfl rfl 1 (Nat.le_of_ble_eq_true rfl) fk_X0_reportAll_20 rfl rfl ?_
        refine V_iload_n hC dX0_reportAll_14 rfl rfl rfl ?_
        refine V_aald (q0 := 14) hC dX0_reportAll_15 rfl 2 rfl rfl k4 (by decide) (trA_at k4) rfl ?_
        refine V_get (C := RX2) (T := TX2) (N := 18) hC dX0_reportAll_16 in_X2_X0_reportAll (Wl_t k4) rfl 9 (Nat.le_of_ble_eq_true rfl) fk_X0_reportAll_65 rfl rfl ?_
        refine V_if_ne (tgt := 53) hC dX0_reportAll_19 (by decide) rfl (fun c_19 => ?_) (fun c_19 => ?_)
        · refine V_iinc hC dX0_reportAll_53 rfl (nI_1 k) (Nat.le_of_ble_eq_true rfl) rfl ?_
          refine V_goto (tgt := 2) hC dX0_reportAll_56 (by decide) ?_
          refine V_ws ?_ (V_to (ih (k + 1) (by omega) (by omega)) (lc rfl (lc rfl (lc rfl ln))))
          first
          | (rw [m_repAll, if_neg c_19]; done)
          | (rw [m_repAll, if_pos c_19, if_pos c_24]; done)
          | (rw [m_repAll, if_pos c_19, if_neg c_24, if_pos c_37]; done)
          | (rw [m_repAll, if_pos c_19, if_neg c_24, if_neg c_37]; done)
        · refine V_iload_n hC dX0_reportAll_22 rfl rfl rfl ?_
          refine V_iload_n hC dX0_reportAll_23 rfl rfl rfl ?_
          refine V_icmp_eq (tgt := 53) hC dX0_reportAll_24 (by decide) rfl (fun c_24 => ?_) (fun c_24 => ?_)
          · refine V_iinc hC dX0_reportAll_53 rfl (nI_1 k) (Nat.le_of_ble_eq_true rfl) rfl ?_
            refine V_goto (tgt := 2) hC dX0_reportAll_56 (by decide) ?_
            refine V_ws ?_ (V_to (ih (k + 1) (by omega) (by omega)) (lc rfl (lc rfl (lc rfl ln))))
            first
            | (rw [m_repAll, if_neg c_19]; done)
            | (rw [m_repAll, if_pos c_19, if_pos c_24]; done)
            | (rw [m_repAll, if_pos c_19, if_neg c_24, if_pos c_37]; done)
            | (rw [m_repAll, if_pos c_19, if_neg c_24, if_neg c_37]; done)
          · refine V_aload_n hC dX0_reportAll_27 rfl rfl rfl ?_
            refine V_aload_n hC dX0_reportAll_28 rfl rfl rfl ?_
            refine V_get (q0 := 4) (C := RX0) (T := TX0) (N := 4) hC dX0_reportAll_29 in_X0_X0_reportAll rfl rfl 1 (Nat.le_of_ble_eq_true rfl) fk_X0_reportAll_20 rfl rfl ?_
            refine V_iload_n hC dX0_reportAll_32 rfl rfl rfl ?_
            refine V_aald (q0 := 14) hC dX0_reportAll_33 rfl 2 rfl rfl k4 (by decide) (trA_at k4) rfl ?_
            refine V_callIV (q0 := 4) (n := 1) hC dX0_reportAll_34 (k_X0_hasRadio l D cI cZ cT a _ _ _ k4 hz) gX0_reportAll_X0_hasRadio rfl ⟨rfl, rfl⟩ (by decide +kernel) ⟨Nat.le_of_ble_eq_true rfl, Nat.le_of_ble_eq_true rfl⟩ ⟨Nat.le_of_ble_eq_true rfl, Nat.le_of_ble_eq_true rfl⟩ rfl rfl rfl rfl (by exact Nat.le_of_ble_eq_true rfl) rfl (fun r_34 u_34 h_34 => ?_)
            subst h_34
            refine V_if_eq (tgt := 53) hC dX0_reportAll_37 (by decide) rfl (fun c_37 => ?_) (fun c_37 => ?_)
            · refine V_iinc hC dX0_reportAll_53 rfl (nI_1 k) (Nat.le_of_ble_eq_true rfl) rfl ?_
              refine V_goto (tgt := 2) hC dX0_reportAll_56 (by decide) ?_
              refine V_ws ?_ (V_to (ih (k + 1) (by omega) (by omega)) (lc rfl (lc rfl (lc rfl ln))))
              first
              | (rw [m_repAll, if_neg c_19]; done)
              | (rw [m_repAll, if_pos c_19, if_pos c_24]; done)
              | (rw [m_repAll, if_pos c_19, if_neg c_24, if_pos c_37]; done)
              | (rw [m_repAll, if_pos c_19, if_neg c_24, if_neg c_37]; done)
            · refine V_aload_n hC dX0_reportAll_40 rfl rfl rfl ?_
              refine V_get (q0 := 4) (C := RX0) (T := TX0) (N := 4) hC dX0_reportAll_41 in_X0_X0_reportAll rfl rfl 1 (Nat.le_of_ble_eq_true rfl) fk_X0_reportAll_20 rfl rfl ?_
              refine V_iload_n hC dX0_reportAll_44 rfl rfl rfl ?_
              refine V_aald (q0 := 14) hC dX0_reportAll_45 rfl 2 rfl rfl k4 (by decide) (trA_at k4) rfl ?_
              refine V_aload_n hC dX0_reportAll_46 rfl rfl rfl ?_
              refine V_get (q0 := 4) (C := RX0) (T := TX0) (N := 4) hC dX0_reportAll_47 in_X0_X0_reportAll rfl rfl 3 (Nat.le_of_ble_eq_true rfl) fk_X0_reportAll_28 rfl rfl ?_
              refine V_callVV (n := 1) hC dX0_reportAll_50 (k_X2_report l D cI cZ cT a _ _ _ k4 _) gX0_reportAll_X2_report rfl ⟨rfl, rfl⟩ (by decide +kernel) ⟨Nat.le_of_ble_eq_true rfl, Nat.le_of_ble_eq_true rfl⟩ ⟨Nat.le_of_ble_eq_true rfl, Nat.le_of_ble_eq_true rfl⟩ (Wl_t k4) rfl rfl rfl (by exact Nat.le_of_ble_eq_true rfl) rfl (fun u_50 h_50 => ?_)
              refine V_iinc hC dX0_reportAll_53 rfl (nI_1 k) (Nat.le_of_ble_eq_true rfl) rfl ?_
              refine V_goto (tgt := 2) hC dX0_reportAll_56 (by decide) ?_
              refine V_ws ?_ (V_to (ih (k + 1) (by omega) (by omega)) (lc rfl (lc rfl (lc rfl ln))))
              first
              | (rw [m_repAll, if_neg c_19]; done)
              | (rw [m_repAll, if_pos c_19, if_pos c_24]; done)
              | (rw [m_repAll, if_pos c_19, if_neg c_24, if_pos c_37]; done)
              | (rw [m_repAll, if_pos c_19, if_neg c_24, if_neg c_37]; done)
  exact V_to (loop_2 _ 0 (Nat.lt_succ_self _) (by omega)) (lc rfl (lc rfl (lc (kv nI_0.symm) ln)))
theorem in_X0_X0_leaveAll : ∀ w ∈ u_ws RX0 TX0 4, w ∈ wsX0_leaveAll := by decide +kernel
theorem fk_X0_leaveAll_24 : Cond.fieldLink RX0 24 (TX0 2).1 (TX0 2).2.1 (TX0 2).2.2.1 ∈ wsX0_leaveAll := by decide +kernel
theorem fk_X0_leaveAll_20 : Cond.fieldLink RX0 20 (TX0 1).1 (TX0 1).2.1 (TX0 1).2.2.1 ∈ wsX0_leaveAll := by decide +kernel
theorem in_X2_X0_leaveAll : ∀ w ∈ u_ws RX2 TX2 18, w ∈ wsX0_leaveAll := by decide +kernel
theorem fk_X0_leaveAll_65 : Cond.fieldLink RX0 65 (TX2 9).1 (TX2 9).2.1 (TX2 9).2.2.1 ∈ wsX0_leaveAll := by decide +kernel
theorem fk_X0_leaveAll_80 : Cond.fieldLink RX0 80 (TX2 5).1 (TX2 5).2.1 (TX2 5).2.2.1 ∈ wsX0_leaveAll := by decide +kernel
set_option maxRecDepth 100000 in
set_option maxHeartbeats 4000000 in
theorem k_X0_leaveAll (l : Launch) (D : va_G) (cI cZ cT : ClassId) (a : Nat → Nat) (t g : Nat → Nat → Int32) (nT : Nat) (hT : g 8 0 = nI nT) (hT4 : nT ≤ 4) : CI l D kCl (kTy cI cZ cT) yX0_leaveAll wsX0_leaveAll ({ frames := 1, cells := 0, slots := 0, locals := 20 }) 0 0 [.ref (a 4)] (Wl cI cZ cT a t g) (S := Unit) (fun r _ => r = (m_leave t nT).2) (fun _ => Wl cI cZ cT a (m_leave t nT).1 g) := by
  refine CI_of (own := RX0) (by decide) rfl rfl (Nat.le_of_ble_eq_true rfl) rfl (fun X A hC hE => ?_)
  refine V_iconst (v := 0) hC dX0_leaveAll_0 (by decide) rfl ?_
  refine V_istore_n hC dX0_leaveAll_1 rfl (Nat.le_of_ble_eq_true rfl) rfl ?_
  refine V_iconst (v := 0) hC dX0_leaveAll_2 (by decide) rfl ?_
  refine V_istore_n hC dX0_leaveAll_3 rfl (Nat.le_of_ble_eq_true rfl) rfl ?_
  have loop_4 : ∀ (d k : Nat), nT - k < d → k ≤ nT → V X 0 0 (Wl cI cZ cT a (m_leave t k).1 g) [(0, .ref (a 4)), (1, .int (m_leave t k).2), (2, .int (nI k))] 4 [] := by
    intro d
    induction d with
    | zero => intro k; intros; omega
    | succ d ih =>
      intro k h hk
      refine V_iload_n hC dX0_leaveAll_4 rfl rfl rfl ?_
      refine V_aload_n hC dX0_leaveAll_5 rfl rfl rfl ?_
      refine V_get (q0 := 4) (C := RX0) (T := TX0) (N := 4) hC dX0_leaveAll_6 in_X0_X0_leaveAll rfl rfl 2 (Nat.le_of_ble_eq_true rfl) fk_X0_leaveAll_24 rfl rfl ?_
      refine V_icmp_ge (tgt := 55) hC dX0_leaveAll_9 (by decide) rfl (fun c_9 => ?_) (fun c_9 => ?_)
      · rw [hT] at c_9
        have c1 := nI_le' c_9 (by omega) (by omega)
        obtain rfl : k = nT := by omega
        refine V_iload_n hC dX0_leaveAll_55 rfl rfl rfl ?_
        exact hE _ () _ _ _ dX0_leaveAll_56 rfl rfl (by first | rfl | (simp [*]; done))
      · rw [hT] at c_9
        have c1 := nI_nle' c_9 (by omega) (by omega)
        have k4 : k < 4 := by omega
        refine V_aload_n hC dX0_leaveAll_12 rfl rfl rfl ?_
        refine V_get (q0 := 4) (C := RX0) (T := TX0) (N := 4) hC dX0_leaveAll_13 in_X0_X0_leaveAll rfl rfl 1 (Nat.le_of_ble_eq_true rfl) fk_X0_leaveAll_20 rfl rfl ?_
        refine V_iload_n hC dX0_leaveAll_16 rfl rfl rfl ?_
        refine V_aald (q0 := 14) hC dX0_leaveAll_17 rfl 2 rfl rfl k4 (by decide) (trA_at k4) rfl ?_
        refine V_astore_n hC dX0_leaveAll_18 rfl (Nat.le_of_ble_eq_true rfl) rfl ?_
        refine V_aload_n hC dX0_leaveAll_19 rfl rfl rfl ?_
        refine V_get (C := RX2) (T := TX2) (N := 18) hC dX0_leaveAll_20 in_X2_X0_leaveAll (Wl_t k4) rfl 9 (Nat.le_of_ble_eq_true rfl) fk_X0_leaveAll_65 rfl rfl ?_
        refine V_if_ne (tgt := 49) hC dX0_leaveAll_23 (by decide) rfl (fun c_23 => ?_) (fun c_23 => ?_)
        · refine V_iinc hC dX0_leaveAll_49 rfl (nI_1 k) (Nat.le_of_ble_eq_true rfl) rfl ?_
          refine V_goto (tgt := 4) hC dX0_leaveAll_52 (by decide) ?_
          refine V_ws ?_ (V_to (ih (k + 1) (by omega) (by omega)) (lc rfl (lc (kv ?_) (lc rfl ln))))
          all_goals first
          | (rw [m_leave, if_neg c_23]; done)
          | (rw [m_leave, if_pos c_23, if_pos c_33]; done)
          | (rw [m_leave, if_pos c_23, if_neg c_33]; done)
          | (rw [m_leave, if_pos c_23, if_neg c_33]; rfl)
        · refine V_aload_n hC dX0_leaveAll_26 rfl rfl rfl ?_
          refine V_callIV (n := 0) hC dX0_leaveAll_27 (k_X2_rear l D cI cZ cT a _ _ _ k4) gX0_leaveAll_X2_rear rfl ⟨rfl, rfl⟩ (by decide +kernel) ⟨Nat.le_of_ble_eq_true rfl, Nat.le_of_ble_eq_true rfl⟩ ⟨Nat.le_of_ble_eq_true rfl, Nat.le_of_ble_eq_true rfl⟩ (Wl_t k4) rfl rfl rfl (by exact Nat.le_of_ble_eq_true rfl) rfl (fun r_27 u_27 h_27 => ?_)
          subst h_27
          refine V_sipush (v := 2999) hC dX0_leaveAll_30 (by decide) rfl ?_
          refine V_icmp_le (tgt := 49) hC dX0_leaveAll_33 (by decide) rfl (fun c_33 => ?_) (fun c_33 => ?_)
          · refine V_iinc hC dX0_leaveAll_49 rfl (nI_1 k) (Nat.le_of_ble_eq_true rfl) rfl ?_
            refine V_goto (tgt := 4) hC dX0_leaveAll_52 (by decide) ?_
            refine V_ws ?_ (V_to (ih (k + 1) (by omega) (by omega)) (lc rfl (lc (kv ?_) (lc rfl ln))))
            all_goals first
            | (rw [m_leave, if_neg c_23]; done)
            | (rw [m_leave, if_pos c_23, if_pos c_33]; done)
            | (rw [m_leave, if_pos c_23, if_neg c_33]; done)
            | (rw [m_leave, if_pos c_23, if_neg c_33]; rfl)
          · refine V_aload_n hC dX0_leaveAll_36 rfl rfl rfl ?_
            refine V_iconst (v := 1) hC dX0_leaveAll_37 (by decide) rfl ?_
            refine V_put (C := RX2) (T := TX2) (N := 18) hC dX0_leaveAll_38 in_X2_X0_leaveAll tyX2 tyX2_ok nmX2 (Wl_t k4) rfl 9 (Nat.le_of_ble_eq_true rfl) fk_X0_leaveAll_65 rfl rfl rfl rfl (Nat.le_of_ble_eq_true rfl) (Wl_set k4 (by decide)) rfl ?_
            refine V_aload_n hC dX0_leaveAll_41 rfl rfl rfl ?_
            refine V_iconst (v := 0) hC dX0_leaveAll_42 (by decide) rfl ?_
            refine V_put (C := RX2) (T := TX2) (N := 18) hC dX0_leaveAll_43 in_X2_X0_leaveAll tyX2 tyX2_ok nmX2 (Wl_t k4) rfl 5 (Nat.le_of_ble_eq_true rfl) fk_X0_leaveAll_80 rfl rfl rfl rfl (Nat.le_of_ble_eq_true rfl) (Wl_set k4 (by decide)) rfl ?_
            refine V_iinc hC dX0_leaveAll_46 rfl (rfl : _ + Int32.ofInt 1 = _ + 1) (Nat.le_of_ble_eq_true rfl) rfl ?_
            refine V_iinc hC dX0_leaveAll_49 rfl (nI_1 k) (Nat.le_of_ble_eq_true rfl) rfl ?_
            refine V_goto (tgt := 4) hC dX0_leaveAll_52 (by decide) ?_
            refine V_ws ?_ (V_to (ih (k + 1) (by omega) (by omega)) (lc rfl (lc (kv ?_) (lc rfl ln))))
            all_goals first
            | (rw [m_leave, if_neg c_23]; done)
            | (rw [m_leave, if_pos c_23, if_pos c_33]; done)
            | (rw [m_leave, if_pos c_23, if_neg c_33]; done)
            | (rw [m_leave, if_pos c_23, if_neg c_33]; rfl)
  exact V_to (loop_4 _ 0 (Nat.lt_succ_self _) (by omega)) (lc rfl (lc rfl (lc (kv nI_0.symm) ln)))
theorem in_X0_X0_addTrain : ∀ w ∈ u_ws RX0 TX0 4, w ∈ wsX0_addTrain := by decide +kernel
theorem fk_X0_addTrain_24 : Cond.fieldLink RX0 24 (TX0 2).1 (TX0 2).2.1 (TX0 2).2.2.1 ∈ wsX0_addTrain := by decide +kernel
theorem fk_X0_addTrain_20 : Cond.fieldLink RX0 20 (TX0 1).1 (TX0 1).2.1 (TX0 1).2.2.1 ∈ wsX0_addTrain := by decide +kernel
theorem in_X2_X0_addTrain : ∀ w ∈ u_ws RX2 TX2 18, w ∈ wsX0_addTrain := by decide +kernel
theorem fk_X0_addTrain_39 : Cond.fieldLink RX0 39 (TX2 0).1 (TX2 0).2.1 (TX2 0).2.2.1 ∈ wsX0_addTrain := by decide +kernel
theorem fk_X0_addTrain_42 : Cond.fieldLink RX0 42 (TX2 1).1 (TX2 1).2.1 (TX2 1).2.2.1 ∈ wsX0_addTrain := by decide +kernel
theorem fk_X0_addTrain_45 : Cond.fieldLink RX0 45 (TX2 2).1 (TX2 2).2.1 (TX2 2).2.2.1 ∈ wsX0_addTrain := by decide +kernel
theorem fk_X0_addTrain_48 : Cond.fieldLink RX0 48 (TX2 4).1 (TX2 4).2.1 (TX2 4).2.2.1 ∈ wsX0_addTrain := by decide +kernel
theorem fk_X0_addTrain_51 : Cond.fieldLink RX0 51 (TX2 6).1 (TX2 6).2.1 (TX2 6).2.2.1 ∈ wsX0_addTrain := by decide +kernel
theorem fk_X0_addTrain_58 : Cond.fieldLink RX0 58 (TX2 8).1 (TX2 8).2.1 (TX2 8).2.2.1 ∈ wsX0_addTrain := by decide +kernel
theorem fk_X0_addTrain_28 : Cond.fieldLink RX0 28 (TX0 3).1 (TX0 3).2.1 (TX0 3).2.2.1 ∈ wsX0_addTrain := by decide +kernel
theorem fk_X0_addTrain_12 : Cond.fieldLink RX0 12 (TX0 0).1 (TX0 0).2.1 (TX0 0).2.2.1 ∈ wsX0_addTrain := by decide +kernel
set_option maxRecDepth 100000 in
set_option maxHeartbeats 4000000 in
theorem k_X0_addTrain (l : Launch) (D : va_G) (cI cZ cT : ClassId) (a : Nat → Nat) (t g : Nat → Nat → Int32) (x y z w : Int32) (nT : Nat) (hT : g 8 0 = nI nT) (h4 : nT < 4) (nS : Nat) (hS : g 8 2 = nI nS) (hS4 : nS ≤ 4) : CI l D kCl (kTy cI cZ cT) yX0_addTrain wsX0_addTrain ({ frames := 2, cells := 0, slots := 0, locals := 41 }) 0 0 [.ref (a 4), .int x, .int y, .int z, .int w] (Wl cI cZ cT a t g) (S := Unit) (fun r _ => r = nI nT) (fun _ => Wl cI cZ cT a (m_add t g nT nS x y z w) (up2 g 8 0 (nI (nT + 1)))) := by
  refine CI_of (own := RX0) (by decide) rfl rfl (Nat.le_of_ble_eq_true rfl) rfl (fun X A hC hE => ?_)
  have hq : ∀ f : Nat → Nat → Int32, up2 f nT 4 (x - 1) nT 4 = x - 1 := fun f => by rw [up2_s]; simp [upd]
  have hq2 : ∀ (f : Nat → Nat → Int32) (v : Int32), up2 (up2 f nT 4 (x - 1)) nT 6 v nT 4 = x - 1 := fun f v => by rw [up2_s]; simp [upd, hq]
  refine V_aload_n hC dX0_addTrain_0 rfl rfl rfl ?_
  refine V_get (q0 := 4) (C := RX0) (T := TX0) (N := 4) hC dX0_addTrain_1 in_X0_X0_addTrain rfl rfl 2 (Nat.le_of_ble_eq_true rfl) fk_X0_addTrain_24 rfl rfl ?_
  refine V_istore hC dX0_addTrain_4 (Nat.le_of_ble_eq_true rfl) rfl ?_
  refine V_aload_n hC dX0_addTrain_6 rfl rfl rfl ?_
  refine V_get (q0 := 4) (C := RX0) (T := TX0) (N := 4) hC dX0_addTrain_7 in_X0_X0_addTrain rfl rfl 1 (Nat.le_of_ble_eq_true rfl) fk_X0_addTrain_20 rfl rfl ?_
  refine V_iload hC dX0_addTrain_10 rfl rfl ?_
  refine V_aald (q0 := 14) hC dX0_addTrain_12 rfl 2 rfl hT h4 (by decide) (trA_at h4) rfl ?_
  refine V_astore hC dX0_addTrain_13 (Nat.le_of_ble_eq_true rfl) rfl ?_
  refine V_aload hC dX0_addTrain_15 rfl rfl ?_
  refine V_iload_n hC dX0_addTrain_17 rfl rfl rfl ?_
  refine V_put (C := RX2) (T := TX2) (N := 18) hC dX0_addTrain_18 in_X2_X0_addTrain tyX2 tyX2_ok nmX2 (Wl_t h4) rfl 0 (Nat.le_of_ble_eq_true rfl) fk_X0_addTrain_39 rfl rfl rfl rfl (Nat.le_of_ble_eq_true rfl) (Wl_set h4 (by decide)) rfl ?_
  refine V_aload hC dX0_addTrain_21 rfl rfl ?_
  refine V_iload_n hC dX0_addTrain_23 rfl rfl rfl ?_
  refine V_put (C := RX2) (T := TX2) (N := 18) hC dX0_addTrain_24 in_X2_X0_addTrain tyX2 tyX2_ok nmX2 (Wl_t h4) rfl 1 (Nat.le_of_ble_eq_true rfl) fk_X0_addTrain_42 rfl rfl rfl rfl (Nat.le_of_ble_eq_true rfl) (Wl_set h4 (by decide)) rfl ?_
  refine V_aload hC dX0_addTrain_27 rfl rfl ?_
  refine V_iload_n hC dX0_addTrain_29 rfl rfl rfl ?_
  refine V_put (C := RX2) (T := TX2) (N := 18) hC dX0_addTrain_30 in_X2_X0_addTrain tyX2 tyX2_ok nmX2 (Wl_t h4) rfl 2 (Nat.le_of_ble_eq_true rfl) fk_X0_addTrain_45 rfl rfl rfl rfl (Nat.le_of_ble_eq_true rfl) (Wl_set h4 (by decide)) rfl ?_
  refine V_aload hC dX0_addTrain_33 rfl rfl ?_
  refine V_iload_n hC dX0_addTrain_35 rfl rfl rfl ?_
  refine V_iconst (v := 1) hC dX0_addTrain_36 (by decide) rfl ?_
  refine V_isub hC dX0_addTrain_37 rfl ?_
  refine V_put (C := RX2) (T := TX2) (N := 18) hC dX0_addTrain_38 in_X2_X0_addTrain tyX2 tyX2_ok nmX2 (Wl_t h4) rfl 4 (Nat.le_of_ble_eq_true rfl) fk_X0_addTrain_48 rfl rfl rfl rfl (Nat.le_of_ble_eq_true rfl) (Wl_set h4 (by decide)) rfl ?_
  refine V_aload hC dX0_addTrain_41 rfl rfl ?_
  refine V_aload hC dX0_addTrain_43 rfl rfl ?_
  refine V_get (C := RX2) (T := TX2) (N := 18) hC dX0_addTrain_45 in_X2_X0_addTrain (Wl_t h4) rfl 4 (Nat.le_of_ble_eq_true rfl) fk_X0_addTrain_48 rfl rfl ?_
  rw [hq]
  refine V_put (C := RX2) (T := TX2) (N := 18) hC dX0_addTrain_48 in_X2_X0_addTrain tyX2 tyX2_ok nmX2 (Wl_t h4) rfl 6 (Nat.le_of_ble_eq_true rfl) fk_X0_addTrain_51 rfl rfl rfl rfl (Nat.le_of_ble_eq_true rfl) (Wl_set h4 (by decide)) rfl ?_
  refine V_aload hC dX0_addTrain_51 rfl rfl ?_
  refine V_iload hC dX0_addTrain_53 rfl rfl ?_
  refine V_if_eq (tgt := 73) hC dX0_addTrain_55 (by decide) rfl (fun c_55 => ?_) (fun c_55 => ?_)
  · refine V_iconst (v := 0) hC dX0_addTrain_73 (by decide) rfl ?_
    refine V_put (C := RX2) (T := TX2) (N := 18) hC dX0_addTrain_74 in_X2_X0_addTrain tyX2 tyX2_ok nmX2 (Wl_t h4) rfl 8 (Nat.le_of_ble_eq_true rfl) fk_X0_addTrain_58 rfl rfl rfl rfl (Nat.le_of_ble_eq_true rfl) (Wl_set h4 (by decide)) rfl ?_
    refine V_aload hC dX0_addTrain_77 rfl rfl ?_
    refine V_aload_n hC dX0_addTrain_79 rfl rfl rfl ?_
    refine V_get (q0 := 4) (C := RX0) (T := TX0) (N := 4) hC dX0_addTrain_80 in_X0_X0_addTrain rfl rfl 3 (Nat.le_of_ble_eq_true rfl) fk_X0_addTrain_28 rfl rfl ?_
    refine V_callVV (n := 1) hC dX0_addTrain_83 (k_X2_report l D cI cZ cT a _ _ _ h4 _) gX0_addTrain_X2_report rfl ⟨rfl, rfl⟩ (by decide +kernel) ⟨Nat.le_of_ble_eq_true rfl, Nat.le_of_ble_eq_true rfl⟩ ⟨Nat.le_of_ble_eq_true rfl, Nat.le_of_ble_eq_true rfl⟩ (Wl_t h4) rfl rfl rfl (by exact Nat.le_of_ble_eq_true rfl) rfl (fun u_83 h_83 => ?_)
    refine V_aload_n hC dX0_addTrain_86 rfl rfl rfl ?_
    refine V_iload hC dX0_addTrain_87 rfl rfl ?_
    refine V_iconst (v := 1) hC dX0_addTrain_89 (by decide) rfl ?_
    refine V_iadd hC dX0_addTrain_90 rfl ?_
    refine V_put (q0 := 4) (C := RX0) (T := TX0) (N := 4) hC dX0_addTrain_91 in_X0_X0_addTrain tyX0 tyX0_ok nmX0 rfl rfl 2 (Nat.le_of_ble_eq_true rfl) fk_X0_addTrain_24 rfl rfl rfl rfl (Nat.le_of_ble_eq_true rfl) Wl_s0 rfl ?_
    refine V_iload hC dX0_addTrain_94 rfl rfl ?_
    exact hE _ () _ _ _ dX0_addTrain_96 rfl (by simp [m_add, hT, nI_1, *]) hT
  · refine V_aload_n hC dX0_addTrain_58 rfl rfl rfl ?_
    refine V_get (q0 := 4) (C := RX0) (T := TX0) (N := 4) hC dX0_addTrain_59 in_X0_X0_addTrain rfl rfl 0 (Nat.le_of_ble_eq_true rfl) fk_X0_addTrain_12 rfl rfl ?_
    refine V_aload hC dX0_addTrain_62 rfl rfl ?_
    refine V_get (C := RX2) (T := TX2) (N := 18) hC dX0_addTrain_64 in_X2_X0_addTrain (Wl_t h4) rfl 4 (Nat.le_of_ble_eq_true rfl) fk_X0_addTrain_48 rfl rfl ?_
    rw [hq2]
    refine V_callIV (q0 := 5) (n := 1) hC dX0_addTrain_67 (k_X1_stationsFrom l D cI cZ cT a _ _ _ _ hS hS4) gX0_addTrain_X1_stationsFrom rfl ⟨rfl, rfl⟩ (by decide +kernel) ⟨Nat.le_of_ble_eq_true rfl, Nat.le_of_ble_eq_true rfl⟩ ⟨Nat.le_of_ble_eq_true rfl, Nat.le_of_ble_eq_true rfl⟩ rfl rfl rfl rfl (by exact Nat.le_of_ble_eq_true rfl) rfl (fun r_67 u_67 h_67 => ?_)
    subst h_67
    refine V_goto (tgt := 74) hC dX0_addTrain_70 (by decide) ?_
    refine V_put (C := RX2) (T := TX2) (N := 18) hC dX0_addTrain_74 in_X2_X0_addTrain tyX2 tyX2_ok nmX2 (Wl_t h4) rfl 8 (Nat.le_of_ble_eq_true rfl) fk_X0_addTrain_58 rfl rfl rfl rfl (Nat.le_of_ble_eq_true rfl) (Wl_set h4 (by decide)) rfl ?_
    refine V_aload hC dX0_addTrain_77 rfl rfl ?_
    refine V_aload_n hC dX0_addTrain_79 rfl rfl rfl ?_
    refine V_get (q0 := 4) (C := RX0) (T := TX0) (N := 4) hC dX0_addTrain_80 in_X0_X0_addTrain rfl rfl 3 (Nat.le_of_ble_eq_true rfl) fk_X0_addTrain_28 rfl rfl ?_
    refine V_callVV (n := 1) hC dX0_addTrain_83 (k_X2_report l D cI cZ cT a _ _ _ h4 _) gX0_addTrain_X2_report rfl ⟨rfl, rfl⟩ (by decide +kernel) ⟨Nat.le_of_ble_eq_true rfl, Nat.le_of_ble_eq_true rfl⟩ ⟨Nat.le_of_ble_eq_true rfl, Nat.le_of_ble_eq_true rfl⟩ (Wl_t h4) rfl rfl rfl (by exact Nat.le_of_ble_eq_true rfl) rfl (fun u_83 h_83 => ?_)
    refine V_aload_n hC dX0_addTrain_86 rfl rfl rfl ?_
    refine V_iload hC dX0_addTrain_87 rfl rfl ?_
    refine V_iconst (v := 1) hC dX0_addTrain_89 (by decide) rfl ?_
    refine V_iadd hC dX0_addTrain_90 rfl ?_
    refine V_put (q0 := 4) (C := RX0) (T := TX0) (N := 4) hC dX0_addTrain_91 in_X0_X0_addTrain tyX0 tyX0_ok nmX0 rfl rfl 2 (Nat.le_of_ble_eq_true rfl) fk_X0_addTrain_24 rfl rfl rfl rfl (Nat.le_of_ble_eq_true rfl) Wl_s0 rfl ?_
    refine V_iload hC dX0_addTrain_94 rfl rfl ?_
    exact hE _ () _ _ _ dX0_addTrain_96 rfl (by simp [m_add, hT, nI_1, *]) hT
theorem iniX3_X0_hindranceOfWorks : Cond.initialized RX3 ∈ wsX0_hindranceOfWorks := by decide +kernel
theorem staX3_firstMetreOf_X0_hindranceOfWorks : Cond.static yX3_firstMetreOf ∈ wsX0_hindranceOfWorks := by decide +kernel
theorem in_X0_X0_hindranceOfWorks : ∀ w ∈ u_ws RX0 TX0 4, w ∈ wsX0_hindranceOfWorks := by decide +kernel
theorem fk_X0_hindranceOfWorks_24 : Cond.fieldLink RX0 24 (TX0 2).1 (TX0 2).2.1 (TX0 2).2.2.1 ∈ wsX0_hindranceOfWorks := by decide +kernel
theorem fk_X0_hindranceOfWorks_20 : Cond.fieldLink RX0 20 (TX0 1).1 (TX0 1).2.1 (TX0 1).2.2.1 ∈ wsX0_hindranceOfWorks := by decide +kernel
theorem in_X2_X0_hindranceOfWorks : ∀ w ∈ u_ws RX2 TX2 18, w ∈ wsX0_hindranceOfWorks := by decide +kernel
theorem fk_X0_hindranceOfWorks_65 : Cond.fieldLink RX0 65 (TX2 9).1 (TX2 9).2.1 (TX2 9).2.2.1 ∈ wsX0_hindranceOfWorks := by decide +kernel
theorem fk_X0_hindranceOfWorks_48 : Cond.fieldLink RX0 48 (TX2 4).1 (TX2 4).2.1 (TX2 4).2.2.1 ∈ wsX0_hindranceOfWorks := by decide +kernel
theorem fk_X0_hindranceOfWorks_51 : Cond.fieldLink RX0 51 (TX2 6).1 (TX2 6).2.1 (TX2 6).2.2.1 ∈ wsX0_hindranceOfWorks := by decide +kernel
set_option maxRecDepth 100000 in
set_option maxHeartbeats 4000000 in
theorem k_X0_hindranceOfWorks (l : Launch) (D : va_G) (cI cZ cT : ClassId) (a : Nat → Nat) (t g : Nat → Nat → Int32) (f l1 : Int32) (nT : Nat) (hT : g 8 0 = nI nT) (hT4 : nT ≤ 4) : CI l D kCl (kTy cI cZ cT) yX0_hindranceOfWorks wsX0_hindranceOfWorks ({ frames := 3, cells := 0, slots := 0, locals := 67 }) 0 0 [.ref (a 4), .int f, .int l1] (Wl cI cZ cT a t g) (S := Unit) (fun r _ => r = m_hind t f l1 nT) (fun _ => (Wl cI cZ cT a t g)) := by
  refine CI_of (own := RX0) (by decide) rfl rfl (Nat.le_of_ble_eq_true rfl) rfl (fun X A hC hE => ?_)
  refine V_aload_n hC dX0_hindranceOfWorks_0 rfl rfl rfl ?_
  refine V_iload_n hC dX0_hindranceOfWorks_1 rfl rfl rfl ?_
  refine V_iload_n hC dX0_hindranceOfWorks_2 rfl rfl rfl ?_
  refine V_callIV (q0 := 4) (n := 2) hC dX0_hindranceOfWorks_3 (k_X0_countOn l D cI cZ cT a _ _ _ _ _ hT hT4) gX0_hindranceOfWorks_X0_countOn rfl ⟨rfl, rfl⟩ (by decide +kernel) ⟨Nat.le_of_ble_eq_true rfl, Nat.le_of_ble_eq_true rfl⟩ ⟨Nat.le_of_ble_eq_true rfl, Nat.le_of_ble_eq_true rfl⟩ rfl rfl rfl rfl (by exact Nat.le_of_ble_eq_true rfl) rfl (fun r_3 u_3 h_3 => ?_)
  subst h_3
  refine V_if_le (tgt := 12) hC dX0_hindranceOfWorks_6 (by decide) rfl (fun c_6 => ?_) (fun c_6 => ?_)
  · refine V_iload_n hC dX0_hindranceOfWorks_12 rfl rfl rfl ?_
    refine V_callIN0 (n := 1) (host := RX3) hC dX0_hindranceOfWorks_13 (k_X3_firstMetreOf l D cI cZ cT _) gX0_hindranceOfWorks_X3_firstMetreOf_n141 (by decide +kernel) iniX3_X0_hindranceOfWorks staX3_firstMetreOf_X0_hindranceOfWorks rfl ⟨rfl, rfl⟩ (by decide +kernel) ⟨Nat.le_of_ble_eq_true rfl, Nat.le_of_ble_eq_true rfl⟩ ⟨Nat.le_of_ble_eq_true rfl, Nat.le_of_ble_eq_true rfl⟩ rfl rfl (by exact Nat.le_of_ble_eq_true rfl) rfl (fun r_13 u_13 h_13 => ?_)
    subst h_13
    refine V_istore_n hC dX0_hindranceOfWorks_16 rfl (Nat.le_of_ble_eq_true rfl) rfl ?_
    refine V_iconst (v := 0) hC dX0_hindranceOfWorks_17 (by decide) rfl ?_
    refine V_istore hC dX0_hindranceOfWorks_18 (Nat.le_of_ble_eq_true rfl) rfl ?_
    have loop_20 : ∀ (d k : Nat), nT - k < d → k ≤ nT → m_h3 t (m_first f) k = 0 → V X 0 0 (Wl cI cZ cT a t g) [(0, .ref (a 4)), (3, .int (m_first f)), (4, .int (nI k))] 20 [] := by
      intro d
      induction d with
      | zero => intro k; intros; omega
      | succ d ih =>
        intro k h hk h3
        refine V_iload hC dX0_hindranceOfWorks_20 rfl rfl ?_
        refine V_aload_n hC dX0_hindranceOfWorks_22 rfl rfl rfl ?_
        refine V_get (q0 := 4) (C := RX0) (T := TX0) (N := 4) hC dX0_hindranceOfWorks_23 in_X0_X0_hindranceOfWorks rfl rfl 2 (Nat.le_of_ble_eq_true rfl) fk_X0_hindranceOfWorks_24 rfl rfl ?_
        refine V_icmp_ge (tgt := 73) hC dX0_hindranceOfWorks_26 (by decide) rfl (fun c_26 => ?_) (fun c_26 => ?_)
        · rw [hT] at c_26
          have c1 := nI_le' c_26 (by omega) (by omega)
          obtain rfl : k = nT := by omega
          refine V_iconst (v := 0) hC dX0_hindranceOfWorks_73 (by decide) rfl ?_
          exact hE _ () _ _ _ dX0_hindranceOfWorks_74 rfl rfl (by rw [m_hind, if_neg (Int32.not_lt.mpr c_6), h3])
        · rw [hT] at c_26
          have c1 := nI_nle' c_26 (by omega) (by omega)
          have k4 : k < 4 := by omega
          refine V_aload_n hC dX0_hindranceOfWorks_29 rfl rfl rfl ?_
          refine V_get (q0 := 4) (C := RX0) (T := TX0) (N := 4) hC dX0_hindranceOfWorks_30 in_X0_X0_hindranceOfWorks rfl rfl 1 (Nat.le_of_ble_eq_true rfl) fk_X0_hindranceOfWorks_20 rfl rfl ?_
          refine V_iload hC dX0_hindranceOfWorks_33 rfl rfl ?_
          refine V_aald (q0 := 14) hC dX0_hindranceOfWorks_35 rfl 2 rfl rfl k4 (by decide) (trA_at k4) rfl ?_
          refine V_astore hC dX0_hindranceOfWorks_36 (Nat.le_of_ble_eq_true rfl) rfl ?_
          refine V_aload hC dX0_hindranceOfWorks_38 rfl rfl ?_
          refine V_get (C := RX2) (T := TX2) (N := 18) hC dX0_hindranceOfWorks_40 in_X2_X0_hindranceOfWorks (Wl_t k4) rfl 9 (Nat.le_of_ble_eq_true rfl) fk_X0_hindranceOfWorks_65 rfl rfl ?_
          refine V_if_ne (tgt := 67) hC dX0_hindranceOfWorks_43 (by decide) rfl (fun c_43 => ?_) (fun c_43 => ?_)
          · refine V_iinc hC dX0_hindranceOfWorks_67 rfl (nI_1 k) (Nat.le_of_ble_eq_true rfl) rfl ?_
            refine V_goto (tgt := 20) hC dX0_hindranceOfWorks_70 (by decide) ?_
            refine V_to (ih (k + 1) (by omega) (by omega) ?_) (lc rfl (lc rfl (lc rfl ln)))
            first
            | exact h3_no h3 (fun z => c_43 z.1)
            | exact h3_no h3 (fun z => absurd c_52 (Int32.not_le.mpr z.2.1))
            | exact h3_no h3 (fun z => absurd c_61 (Int32.not_lt.mpr z.2.2))
          · refine V_aload hC dX0_hindranceOfWorks_46 rfl rfl ?_
            refine V_get (C := RX2) (T := TX2) (N := 18) hC dX0_hindranceOfWorks_48 in_X2_X0_hindranceOfWorks (Wl_t k4) rfl 4 (Nat.le_of_ble_eq_true rfl) fk_X0_hindranceOfWorks_48 rfl rfl ?_
            refine V_iload_n hC dX0_hindranceOfWorks_51 rfl rfl rfl ?_
            refine V_icmp_ge (tgt := 67) hC dX0_hindranceOfWorks_52 (by decide) rfl (fun c_52 => ?_) (fun c_52 => ?_)
            · refine V_iinc hC dX0_hindranceOfWorks_67 rfl (nI_1 k) (Nat.le_of_ble_eq_true rfl) rfl ?_
              refine V_goto (tgt := 20) hC dX0_hindranceOfWorks_70 (by decide) ?_
              refine V_to (ih (k + 1) (by omega) (by omega) ?_) (lc rfl (lc rfl (lc rfl ln)))
              first
              | exact h3_no h3 (fun z => c_43 z.1)
              | exact h3_no h3 (fun z => absurd c_52 (Int32.not_le.mpr z.2.1))
              | exact h3_no h3 (fun z => absurd c_61 (Int32.not_lt.mpr z.2.2))
            · refine V_aload hC dX0_hindranceOfWorks_55 rfl rfl ?_
              refine V_get (C := RX2) (T := TX2) (N := 18) hC dX0_hindranceOfWorks_57 in_X2_X0_hindranceOfWorks (Wl_t k4) rfl 6 (Nat.le_of_ble_eq_true rfl) fk_X0_hindranceOfWorks_51 rfl rfl ?_
              refine V_iload_n hC dX0_hindranceOfWorks_60 rfl rfl rfl ?_
              refine V_icmp_lt (tgt := 67) hC dX0_hindranceOfWorks_61 (by decide) rfl (fun c_61 => ?_) (fun c_61 => ?_)
              · refine V_iinc hC dX0_hindranceOfWorks_67 rfl (nI_1 k) (Nat.le_of_ble_eq_true rfl) rfl ?_
                refine V_goto (tgt := 20) hC dX0_hindranceOfWorks_70 (by decide) ?_
                refine V_to (ih (k + 1) (by omega) (by omega) ?_) (lc rfl (lc rfl (lc rfl ln)))
                first
                | exact h3_no h3 (fun z => c_43 z.1)
                | exact h3_no h3 (fun z => absurd c_52 (Int32.not_le.mpr z.2.1))
                | exact h3_no h3 (fun z => absurd c_61 (Int32.not_lt.mpr z.2.2))
              · refine V_bipush (v := (-3)) hC dX0_hindranceOfWorks_64 (by decide) rfl ?_
                exact hE _ () _ _ _ dX0_hindranceOfWorks_66 rfl rfl (by rw [m_hind, if_neg (Int32.not_lt.mpr c_6)]; exact (h3_yes c1 ⟨c_43, Int32.not_le.mp c_52, Int32.not_lt.mp c_61⟩).symm)
    exact V_to (loop_20 _ 0 (Nat.lt_succ_self _) (by omega) rfl) (lc rfl (lc rfl (lc (kv nI_0.symm) ln)))
  · refine V_bipush (v := (-2)) hC dX0_hindranceOfWorks_9 (by decide) rfl ?_
    exact hE _ () _ _ _ dX0_hindranceOfWorks_11 rfl rfl (by rw [m_hind, if_pos (Int32.not_le.mp c_6)])
theorem in_X0_X0_goOn : ∀ w ∈ u_ws RX0 TX0 4, w ∈ wsX0_goOn := by decide +kernel
theorem fk_X0_goOn_28 : Cond.fieldLink RX0 28 (TX0 3).1 (TX0 3).2.1 (TX0 3).2.2.1 ∈ wsX0_goOn := by decide +kernel
theorem fk_X0_goOn_24 : Cond.fieldLink RX0 24 (TX0 2).1 (TX0 2).2.1 (TX0 2).2.2.1 ∈ wsX0_goOn := by decide +kernel
theorem fk_X0_goOn_20 : Cond.fieldLink RX0 20 (TX0 1).1 (TX0 1).2.1 (TX0 1).2.2.1 ∈ wsX0_goOn := by decide +kernel
theorem in_X2_X0_goOn : ∀ w ∈ u_ws RX2 TX2 18, w ∈ wsX0_goOn := by decide +kernel
theorem fk_X0_goOn_65 : Cond.fieldLink RX0 65 (TX2 9).1 (TX2 9).2.1 (TX2 9).2.2.1 ∈ wsX0_goOn := by decide +kernel
theorem fk_X0_goOn_73 : Cond.fieldLink RX0 73 (TX2 10).1 (TX2 10).2.1 (TX2 10).2.2.1 ∈ wsX0_goOn := by decide +kernel
theorem fk_X0_goOn_48 : Cond.fieldLink RX0 48 (TX2 4).1 (TX2 4).2.1 (TX2 4).2.2.1 ∈ wsX0_goOn := by decide +kernel
theorem ml102_X0_goOn : Cond.methodLink RX0 102 Lib.Math.max.name ∈ wsX0_goOn := by decide +kernel
theorem msmax_X0_goOn : Cond.static Lib.Math.max.name ∈ wsX0_goOn := by decide +kernel
theorem mi_X0_goOn : Cond.initialized "java/lang/Math" ∈ wsX0_goOn := by decide +kernel
theorem mcmax_X0_goOn : Cond.code Lib.Math.max.name Lib.Math.max.code 2 (some .int) ∈ wsX0_goOn := by decide +kernel
theorem fk_X0_goOn_51 : Cond.fieldLink RX0 51 (TX2 6).1 (TX2 6).2.1 (TX2 6).2.2.1 ∈ wsX0_goOn := by decide +kernel
set_option maxRecDepth 100000 in
set_option maxHeartbeats 4000000 in
theorem k_X0_goOn (l : Launch) (D : va_G) (cI cZ cT : ClassId) (a : Nat → Nat) (t g : Nat → Nat → Int32) (s : Int32) (nT : Nat) (hT : g 8 0 = nI nT) (hT4 : nT ≤ 4) (nS : Nat) (hS : g 8 2 = nI nS) (hS4 : nS ≤ 4) (nW : Nat) (hW : g 8 3 = nI nW) (hW3 : nW ≤ 3) (hz : ∀ c, c < 20 → g 2 c = 0 ∨ g 2 c = 1) : CI l D kCl (kTy cI cZ cT) yX0_goOn wsX0_goOn ({ frames := 4, cells := 0, slots := 0, locals := 92 }) 0 0 [.ref (a 4), .int s] (Wl cI cZ cT a t g) (S := Unit) (fun r _ => r = m_goOnR s nT nS nW t g) (fun _ => Wl cI cZ cT a (m_goOn s nT nS nW t g).1 (m_goOn s nT nS nW t g).2) := by
  refine CI_of (own := RX0) (by decide) rfl rfl (Nat.le_of_ble_eq_true rfl) rfl (fun X A hC hE => ?_)
  refine V_aload_n hC dX0_goOn_0 rfl rfl rfl ?_
  refine V_dup hC dX0_goOn_1 rfl rfl ?_
  refine V_get (q0 := 4) (C := RX0) (T := TX0) (N := 4) hC dX0_goOn_2 in_X0_X0_goOn rfl rfl 3 (Nat.le_of_ble_eq_true rfl) fk_X0_goOn_28 rfl rfl ?_
  refine V_iconst (v := 1) hC dX0_goOn_5 (by decide) rfl ?_
  refine V_iadd hC dX0_goOn_6 rfl ?_
  refine V_put (q0 := 4) (C := RX0) (T := TX0) (N := 4) hC dX0_goOn_7 in_X0_X0_goOn tyX0 tyX0_ok nmX0 rfl rfl 3 (Nat.le_of_ble_eq_true rfl) fk_X0_goOn_28 rfl rfl rfl rfl (Nat.le_of_ble_eq_true rfl) Wl_s1 rfl ?_
  refine V_ws (ws' := Wl cI cZ cT a t (m_tick g)) rfl ?_
  obtain ⟨g1, hg1⟩ : ∃ z, z = m_tick g := ⟨_, rfl⟩
  have hT1 : g1 8 0 = nI nT := by rw [hg1]; exact hT
  have hS1 : g1 8 2 = nI nS := by rw [hg1]; exact hS
  have hW1 : g1 8 3 = nI nW := by rw [hg1]; exact hW
  have hz1 : ∀ c, c < 20 → g1 2 c = 0 ∨ g1 2 c = 1 := by rw [hg1]; exact hz
  rw [← hg1]
  refine V_aload_n hC dX0_goOn_10 rfl rfl rfl ?_
  refine V_iload_n hC dX0_goOn_11 rfl rfl rfl ?_
  refine V_callVV (q0 := 4) (n := 1) hC dX0_goOn_12 (k_X0_reportAll l D cI cZ cT a _ _ _ _ hT1 hT4 hz1) gX0_goOn_X0_reportAll rfl ⟨rfl, rfl⟩ (by decide +kernel) ⟨Nat.le_of_ble_eq_true rfl, Nat.le_of_ble_eq_true rfl⟩ ⟨Nat.le_of_ble_eq_true rfl, Nat.le_of_ble_eq_true rfl⟩ rfl rfl rfl rfl (by exact Nat.le_of_ble_eq_true rfl) rfl (fun u_12 h_12 => ?_)
  refine V_iconst (v := 0) hC dX0_goOn_15 (by decide) rfl ?_
  refine V_istore_n hC dX0_goOn_16 rfl (Nat.le_of_ble_eq_true rfl) rfl ?_
  have loop_17 : ∀ (d k : Nat), nT - k < d → k ≤ nT → V X 0 0 (Wl cI cZ cT a (m_authAll g1 nW (m_repAll g1 s t nT) k) g1) [(0, .ref (a 4)), (1, .int s), (2, .int (nI k))] 17 [] := by
    intro d
    induction d with
    | zero => intro k; intros; omega
    | succ d ih =>
      intro k h hk
      refine V_iload_n hC dX0_goOn_17 rfl rfl rfl ?_
      refine V_aload_n hC dX0_goOn_18 rfl rfl rfl ?_
      refine V_get (q0 := 4) (C := RX0) (T := TX0) (N := 4) hC dX0_goOn_19 in_X0_X0_goOn rfl rfl 2 (Nat.le_of_ble_eq_true rfl) fk_X0_goOn_24 rfl rfl ?_
      refine V_icmp_ge (tgt := 82) hC dX0_goOn_22 (by decide) rfl (fun c_22 => ?_) (fun c_22 => ?_)
      · rw [hT1] at c_22
        have c1 := nI_le' c_22 (by omega) (by omega)
        obtain rfl : nT = k := by omega
        refine V_iconst (v := 0) hC dX0_goOn_82 (by decide) rfl ?_
        refine V_istore_n hC dX0_goOn_83 rfl (Nat.le_of_ble_eq_true rfl) rfl ?_
        have loop_84 : ∀ (d k : Nat), nT - k < d → k ≤ nT → V X 0 0 (Wl cI cZ cT a (m_goAll s nS (m_authAll g1 nW (m_repAll g1 s t nT) nT) g1 k).1 (m_goAll s nS (m_authAll g1 nW (m_repAll g1 s t nT) nT) g1 k).2) [(0, .ref (a 4)), (1, .int s), (2, .int (nI k))] 84 [] := by
          intro d
          induction d with
          | zero => intro k; intros; omega
          | succ d ih =>
            intro k h hk
            refine V_iload_n hC dX0_goOn_84 rfl rfl rfl ?_
            refine V_aload_n hC dX0_goOn_85 rfl rfl rfl ?_
            refine V_get (q0 := 4) (C := RX0) (T := TX0) (N := 4) hC dX0_goOn_86 in_X0_X0_goOn rfl rfl 2 (Nat.le_of_ble_eq_true rfl) fk_X0_goOn_24 rfl rfl ?_
            refine V_icmp_ge (tgt := 137) hC dX0_goOn_89 (by decide) rfl (fun c_89 => ?_) (fun c_89 => ?_)
            · rw [m_goAll_g _ _ _ _ (by decide : 8 ≠ 5), hT1] at c_89
              have c1 := nI_le' c_89 (by omega) (by omega)
              obtain rfl : nT = k := by omega
              refine V_iconst (v := 0) hC dX0_goOn_137 (by decide) rfl ?_
              refine V_istore_n hC dX0_goOn_138 rfl (Nat.le_of_ble_eq_true rfl) rfl ?_
              have loop_139 : ∀ (d k : Nat), nT - k < d → k ≤ nT → V X 0 0 (Wl cI cZ cT a (m_lookAll (m_goAll s nS (m_authAll g1 nW (m_repAll g1 s t nT) nT) g1 nT).1 k) (m_goAll s nS (m_authAll g1 nW (m_repAll g1 s t nT) nT) g1 nT).2) [(0, .ref (a 4)), (2, .int (nI k))] 139 [] := by
                intro d
                induction d with
                | zero => intro k; intros; omega
                | succ d ih =>
                  intro k h hk
                  refine V_iload_n hC dX0_goOn_139 rfl rfl rfl ?_
                  refine V_aload_n hC dX0_goOn_140 rfl rfl rfl ?_
                  refine V_get (q0 := 4) (C := RX0) (T := TX0) (N := 4) hC dX0_goOn_141 in_X0_X0_goOn rfl rfl 2 (Nat.le_of_ble_eq_true rfl) fk_X0_goOn_24 rfl rfl ?_
                  refine V_icmp_ge (tgt := 170) hC dX0_goOn_144 (by decide) rfl (fun c_144 => ?_) (fun c_144 => ?_)
                  · rw [m_goAll_g _ _ _ _ (by decide : 8 ≠ 5), hT1] at c_144
                    have c1 := nI_le' c_144 (by omega) (by omega)
                    obtain rfl : nT = k := by omega
                    refine V_aload_n hC dX0_goOn_170 rfl rfl rfl ?_
                    refine V_callIV (q0 := 4) (n := 0) hC dX0_goOn_171 (k_X0_leaveAll l D cI cZ cT a _ _ _ (by rw [m_goAll_g _ _ _ _ (by decide)]; exact hT1) hT4) gX0_goOn_X0_leaveAll rfl ⟨rfl, rfl⟩ (by decide +kernel) ⟨Nat.le_of_ble_eq_true rfl, Nat.le_of_ble_eq_true rfl⟩ ⟨Nat.le_of_ble_eq_true rfl, Nat.le_of_ble_eq_true rfl⟩ rfl rfl rfl rfl (by exact Nat.le_of_ble_eq_true rfl) rfl (fun r_171 u_171 h_171 => ?_)
                    subst h_171
                    exact hE _ () _ _ _ dX0_goOn_174 rfl (by rw [hg1]; rfl) (by rw [hg1]; rfl)
                  · rw [m_goAll_g _ _ _ _ (by decide : 8 ≠ 5), hT1] at c_144
                    have c1 := nI_nle' c_144 (by omega) (by omega)
                    have k4 : k < 4 := by omega
                    refine V_aload_n hC dX0_goOn_147 rfl rfl rfl ?_
                    refine V_get (q0 := 4) (C := RX0) (T := TX0) (N := 4) hC dX0_goOn_148 in_X0_X0_goOn rfl rfl 1 (Nat.le_of_ble_eq_true rfl) fk_X0_goOn_20 rfl rfl ?_
                    refine V_iload_n hC dX0_goOn_151 rfl rfl rfl ?_
                    refine V_aald (q0 := 14) hC dX0_goOn_152 rfl 2 rfl rfl k4 (by decide) (trA_at k4) rfl ?_
                    refine V_get (C := RX2) (T := TX2) (N := 18) hC dX0_goOn_153 in_X2_X0_goOn (Wl_t k4) rfl 9 (Nat.le_of_ble_eq_true rfl) fk_X0_goOn_65 rfl rfl ?_
                    refine V_if_ne (tgt := 164) hC dX0_goOn_156 (by decide) rfl (fun c_156 => ?_) (fun c_156 => ?_)
                    · refine V_iinc hC dX0_goOn_164 rfl (nI_1 k) (Nat.le_of_ble_eq_true rfl) rfl ?_
                      refine V_goto (tgt := 139) hC dX0_goOn_167 (by decide) ?_
                      refine V_ws ?_ (V_to (ih (k + 1) (by omega) (by omega)) (lc rfl (lc rfl ln)))
                      first
                      | (rw [m_lookAll, if_neg c_156]; done)
                      | (rw [m_lookAll, if_pos c_156]; done)
                    · refine V_aload_n hC dX0_goOn_159 rfl rfl rfl ?_
                      refine V_iload_n hC dX0_goOn_160 rfl rfl rfl ?_
                      refine V_callVV (q0 := 4) (n := 1) hC dX0_goOn_161 (k_X0_look l D cI cZ cT a _ _ _ k4) gX0_goOn_X0_look rfl ⟨rfl, rfl⟩ (by decide +kernel) ⟨Nat.le_of_ble_eq_true rfl, Nat.le_of_ble_eq_true rfl⟩ ⟨Nat.le_of_ble_eq_true rfl, Nat.le_of_ble_eq_true rfl⟩ rfl rfl rfl rfl (by exact Nat.le_of_ble_eq_true rfl) rfl (fun u_161 h_161 => ?_)
                      refine V_iinc hC dX0_goOn_164 rfl (nI_1 k) (Nat.le_of_ble_eq_true rfl) rfl ?_
                      refine V_goto (tgt := 139) hC dX0_goOn_167 (by decide) ?_
                      refine V_ws ?_ (V_to (ih (k + 1) (by omega) (by omega)) (lc rfl (lc rfl ln)))
                      first
                      | (rw [m_lookAll, if_neg c_156]; done)
                      | (rw [m_lookAll, if_pos c_156]; done)
              exact V_to (loop_139 _ 0 (Nat.lt_succ_self _) (by omega)) (lc rfl (lc (kv nI_0.symm) ln))
            · rw [m_goAll_g _ _ _ _ (by decide : 8 ≠ 5), hT1] at c_89
              have c1 := nI_nle' c_89 (by omega) (by omega)
              have k4 : k < 4 := by omega
              refine V_aload_n hC dX0_goOn_92 rfl rfl rfl ?_
              refine V_get (q0 := 4) (C := RX0) (T := TX0) (N := 4) hC dX0_goOn_93 in_X0_X0_goOn rfl rfl 1 (Nat.le_of_ble_eq_true rfl) fk_X0_goOn_20 rfl rfl ?_
              refine V_iload_n hC dX0_goOn_96 rfl rfl rfl ?_
              refine V_aald (q0 := 14) hC dX0_goOn_97 rfl 2 rfl rfl k4 (by decide) (trA_at k4) rfl ?_
              refine V_get (C := RX2) (T := TX2) (N := 18) hC dX0_goOn_98 in_X2_X0_goOn (Wl_t k4) rfl 9 (Nat.le_of_ble_eq_true rfl) fk_X0_goOn_65 rfl rfl ?_
              refine V_if_ne (tgt := 131) hC dX0_goOn_101 (by decide) rfl (fun c_101 => ?_) (fun c_101 => ?_)
              · refine V_iinc hC dX0_goOn_131 rfl (nI_1 k) (Nat.le_of_ble_eq_true rfl) rfl ?_
                refine V_goto (tgt := 84) hC dX0_goOn_134 (by decide) ?_
                refine V_ws ?_ (V_to (ih (k + 1) (by omega) (by omega)) (lc rfl (lc rfl (lc rfl ln))))
                first
                | (rw [m_goAll, if_neg c_101]; done)
                | (rw [m_goAll, if_pos c_101, if_neg c_113]; done)
                | (rw [m_goAll, if_pos c_101, if_pos c_113, if_pos c_118]; done)
                | (rw [m_goAll, if_pos c_101, if_pos c_113, if_neg c_118]; done)
              · refine V_aload_n hC dX0_goOn_104 rfl rfl rfl ?_
                refine V_get (q0 := 4) (C := RX0) (T := TX0) (N := 4) hC dX0_goOn_105 in_X0_X0_goOn rfl rfl 1 (Nat.le_of_ble_eq_true rfl) fk_X0_goOn_20 rfl rfl ?_
                refine V_iload_n hC dX0_goOn_108 rfl rfl rfl ?_
                refine V_aald (q0 := 14) hC dX0_goOn_109 rfl 2 rfl rfl k4 (by decide) (trA_at k4) rfl ?_
                refine V_get (C := RX2) (T := TX2) (N := 18) hC dX0_goOn_110 in_X2_X0_goOn (Wl_t k4) rfl 10 (Nat.le_of_ble_eq_true rfl) fk_X0_goOn_73 rfl rfl ?_
                refine V_if_ne (tgt := 131) hC dX0_goOn_113 (by decide) rfl (fun c_113 => ?_) (fun c_113 => ?_)
                · refine V_iinc hC dX0_goOn_131 rfl (nI_1 k) (Nat.le_of_ble_eq_true rfl) rfl ?_
                  refine V_goto (tgt := 84) hC dX0_goOn_134 (by decide) ?_
                  refine V_ws ?_ (V_to (ih (k + 1) (by omega) (by omega)) (lc rfl (lc rfl (lc rfl ln))))
                  first
                  | (rw [m_goAll, if_neg c_101]; done)
                  | (rw [m_goAll, if_pos c_101, if_neg c_113]; done)
                  | (rw [m_goAll, if_pos c_101, if_pos c_113, if_pos c_118]; done)
                  | (rw [m_goAll, if_pos c_101, if_pos c_113, if_neg c_118]; done)
                · refine V_iload_n hC dX0_goOn_116 rfl rfl rfl ?_
                  refine V_iload_n hC dX0_goOn_117 rfl rfl rfl ?_
                  refine V_icmp_eq (tgt := 131) hC dX0_goOn_118 (by decide) rfl (fun c_118 => ?_) (fun c_118 => ?_)
                  · refine V_iinc hC dX0_goOn_131 rfl (nI_1 k) (Nat.le_of_ble_eq_true rfl) rfl ?_
                    refine V_goto (tgt := 84) hC dX0_goOn_134 (by decide) ?_
                    refine V_ws ?_ (V_to (ih (k + 1) (by omega) (by omega)) (lc rfl (lc rfl (lc rfl ln))))
                    first
                    | (rw [m_goAll, if_neg c_101]; done)
                    | (rw [m_goAll, if_pos c_101, if_neg c_113]; done)
                    | (rw [m_goAll, if_pos c_101, if_pos c_113, if_pos c_118]; done)
                    | (rw [m_goAll, if_pos c_101, if_pos c_113, if_neg c_118]; done)
                  · refine V_aload_n hC dX0_goOn_121 rfl rfl rfl ?_
                    refine V_aload_n hC dX0_goOn_122 rfl rfl rfl ?_
                    refine V_get (q0 := 4) (C := RX0) (T := TX0) (N := 4) hC dX0_goOn_123 in_X0_X0_goOn rfl rfl 1 (Nat.le_of_ble_eq_true rfl) fk_X0_goOn_20 rfl rfl ?_
                    refine V_iload_n hC dX0_goOn_126 rfl rfl rfl ?_
                    refine V_aald (q0 := 14) hC dX0_goOn_127 rfl 2 rfl rfl k4 (by decide) (trA_at k4) rfl ?_
                    refine V_callVV (q0 := 4) (n := 1) hC dX0_goOn_128 (k_X0_go l D cI cZ cT a _ _ _ k4 _ (by rw [m_goAll_g _ _ _ _ (by decide)]; exact hS1) hS4) gX0_goOn_X0_go rfl ⟨rfl, rfl⟩ (by decide +kernel) ⟨Nat.le_of_ble_eq_true rfl, Nat.le_of_ble_eq_true rfl⟩ ⟨Nat.le_of_ble_eq_true rfl, Nat.le_of_ble_eq_true rfl⟩ rfl rfl rfl rfl (by exact Nat.le_of_ble_eq_true rfl) rfl (fun u_128 h_128 => ?_)
                    refine V_iinc hC dX0_goOn_131 rfl (nI_1 k) (Nat.le_of_ble_eq_true rfl) rfl ?_
                    refine V_goto (tgt := 84) hC dX0_goOn_134 (by decide) ?_
                    refine V_ws ?_ (V_to (ih (k + 1) (by omega) (by omega)) (lc rfl (lc rfl (lc rfl ln))))
                    first
                    | (rw [m_goAll, if_neg c_101]; done)
                    | (rw [m_goAll, if_pos c_101, if_neg c_113]; done)
                    | (rw [m_goAll, if_pos c_101, if_pos c_113, if_pos c_118]; done)
                    | (rw [m_goAll, if_pos c_101, if_pos c_113, if_neg c_118]; done)
        exact V_to (loop_84 _ 0 (Nat.lt_succ_self _) (by omega)) (lc rfl (lc rfl (lc (kv nI_0.symm) ln)))
      · rw [hT1] at c_22
        have c1 := nI_nle' c_22 (by omega) (by omega)
        have k4 : k < 4 := by omega
        refine V_aload_n hC dX0_goOn_25 rfl rfl rfl ?_
        refine V_get (q0 := 4) (C := RX0) (T := TX0) (N := 4) hC dX0_goOn_26 in_X0_X0_goOn rfl rfl 1 (Nat.le_of_ble_eq_true rfl) fk_X0_goOn_20 rfl rfl ?_
        refine V_iload_n hC dX0_goOn_29 rfl rfl rfl ?_
        refine V_aald (q0 := 14) hC dX0_goOn_30 rfl 2 rfl rfl k4 (by decide) (trA_at k4) rfl ?_
        refine V_get (C := RX2) (T := TX2) (N := 18) hC dX0_goOn_31 in_X2_X0_goOn (Wl_t k4) rfl 9 (Nat.le_of_ble_eq_true rfl) fk_X0_goOn_65 rfl rfl ?_
        refine V_if_ne (tgt := 76) hC dX0_goOn_34 (by decide) rfl (fun c_34 => ?_) (fun c_34 => ?_)
        · refine V_iinc hC dX0_goOn_76 rfl (nI_1 k) (Nat.le_of_ble_eq_true rfl) rfl ?_
          refine V_goto (tgt := 17) hC dX0_goOn_79 (by decide) ?_
          refine V_ws ?_ (V_to (ih (k + 1) (by omega) (by omega)) (lc rfl (lc rfl (lc rfl ln))))
          first
          | (rw [m_authAll, if_neg c_34]; done)
          | (rw [m_authAll, if_pos c_34, if_pos c_47]; done)
          | (rw [m_authAll, if_pos c_34, if_neg c_47]; rfl)
        · refine V_aload_n hC dX0_goOn_37 rfl rfl rfl ?_
          refine V_aload_n hC dX0_goOn_38 rfl rfl rfl ?_
          refine V_get (q0 := 4) (C := RX0) (T := TX0) (N := 4) hC dX0_goOn_39 in_X0_X0_goOn rfl rfl 1 (Nat.le_of_ble_eq_true rfl) fk_X0_goOn_20 rfl rfl ?_
          refine V_iload_n hC dX0_goOn_42 rfl rfl rfl ?_
          refine V_aald (q0 := 14) hC dX0_goOn_43 rfl 2 rfl rfl k4 (by decide) (trA_at k4) rfl ?_
          refine V_callIV (q0 := 4) (n := 1) hC dX0_goOn_44 (k_X0_hasRadio l D cI cZ cT a _ _ _ k4 hz1) gX0_goOn_X0_hasRadio rfl ⟨rfl, rfl⟩ (by decide +kernel) ⟨Nat.le_of_ble_eq_true rfl, Nat.le_of_ble_eq_true rfl⟩ ⟨Nat.le_of_ble_eq_true rfl, Nat.le_of_ble_eq_true rfl⟩ rfl rfl rfl rfl (by exact Nat.le_of_ble_eq_true rfl) rfl (fun r_44 u_44 h_44 => ?_)
          subst h_44
          refine V_if_eq (tgt := 76) hC dX0_goOn_47 (by decide) rfl (fun c_47 => ?_) (fun c_47 => ?_)
          · refine V_iinc hC dX0_goOn_76 rfl (nI_1 k) (Nat.le_of_ble_eq_true rfl) rfl ?_
            refine V_goto (tgt := 17) hC dX0_goOn_79 (by decide) ?_
            refine V_ws ?_ (V_to (ih (k + 1) (by omega) (by omega)) (lc rfl (lc rfl (lc rfl ln))))
            first
            | (rw [m_authAll, if_neg c_34]; done)
            | (rw [m_authAll, if_pos c_34, if_pos c_47]; done)
            | (rw [m_authAll, if_pos c_34, if_neg c_47]; rfl)
          · refine V_aload_n hC dX0_goOn_50 rfl rfl rfl ?_
            refine V_get (q0 := 4) (C := RX0) (T := TX0) (N := 4) hC dX0_goOn_51 in_X0_X0_goOn rfl rfl 1 (Nat.le_of_ble_eq_true rfl) fk_X0_goOn_20 rfl rfl ?_
            refine V_iload_n hC dX0_goOn_54 rfl rfl rfl ?_
            refine V_aald (q0 := 14) hC dX0_goOn_55 rfl 2 rfl rfl k4 (by decide) (trA_at k4) rfl ?_
            refine V_aload_n hC dX0_goOn_56 rfl rfl rfl ?_
            refine V_iload_n hC dX0_goOn_57 rfl rfl rfl ?_
            refine V_callIV (q0 := 4) (n := 1) hC dX0_goOn_58 (k_X0_leastBound l D cI cZ cT a _ _ _ k4 _ hW1 hW3) gX0_goOn_X0_leastBound rfl ⟨rfl, rfl⟩ (by decide +kernel) ⟨Nat.le_of_ble_eq_true rfl, Nat.le_of_ble_eq_true rfl⟩ ⟨Nat.le_of_ble_eq_true rfl, Nat.le_of_ble_eq_true rfl⟩ rfl rfl rfl rfl (by exact Nat.le_of_ble_eq_true rfl) rfl (fun r_58 u_58 h_58 => ?_)
            subst h_58
            refine V_aload_n hC dX0_goOn_61 rfl rfl rfl ?_
            refine V_get (q0 := 4) (C := RX0) (T := TX0) (N := 4) hC dX0_goOn_62 in_X0_X0_goOn rfl rfl 1 (Nat.le_of_ble_eq_true rfl) fk_X0_goOn_20 rfl rfl ?_
            refine V_iload_n hC dX0_goOn_65 rfl rfl rfl ?_
            refine V_aald (q0 := 14) hC dX0_goOn_66 rfl 2 rfl rfl k4 (by decide) (trA_at k4) rfl ?_
            refine V_get (C := RX2) (T := TX2) (N := 18) hC dX0_goOn_67 in_X2_X0_goOn (Wl_t k4) rfl 4 (Nat.le_of_ble_eq_true rfl) fk_X0_goOn_48 rfl rfl ?_
            refine V_mmax hC dX0_goOn_70 ml102_X0_goOn msmax_X0_goOn mi_X0_goOn mcmax_X0_goOn (Nat.le_of_ble_eq_true rfl) (Nat.le_of_ble_eq_true rfl) (Nat.le_of_ble_eq_true rfl) (Nat.le_of_ble_eq_true rfl) rfl ?_
            refine V_put (C := RX2) (T := TX2) (N := 18) hC dX0_goOn_73 in_X2_X0_goOn tyX2 tyX2_ok nmX2 (Wl_t k4) rfl 6 (Nat.le_of_ble_eq_true rfl) fk_X0_goOn_51 rfl rfl rfl rfl (Nat.le_of_ble_eq_true rfl) (Wl_set k4 (by decide)) rfl ?_
            refine V_iinc hC dX0_goOn_76 rfl (nI_1 k) (Nat.le_of_ble_eq_true rfl) rfl ?_
            refine V_goto (tgt := 17) hC dX0_goOn_79 (by decide) ?_
            refine V_ws ?_ (V_to (ih (k + 1) (by omega) (by omega)) (lc rfl (lc rfl (lc rfl ln))))
            first
            | (rw [m_authAll, if_neg c_34]; done)
            | (rw [m_authAll, if_pos c_34, if_pos c_47]; done)
            | (rw [m_authAll, if_pos c_34, if_neg c_47]; rfl)
  exact V_to (loop_17 _ 0 (Nat.lt_succ_self _) (by omega)) (lc rfl (lc rfl (lc (kv nI_0.symm) ln)))
