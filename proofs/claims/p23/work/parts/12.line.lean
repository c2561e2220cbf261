theorem k265_J6_bitCount_0f7a4 : Cond.constant RJ6 265 1431655765 ∈ wsJ6_bitCount_0f7a4 := by decide +kernel
theorem k266_J6_bitCount_0f7a4 : Cond.constant RJ6 266 858993459 ∈ wsJ6_bitCount_0f7a4 := by decide +kernel
theorem k267_J6_bitCount_0f7a4 : Cond.constant RJ6 267 252645135 ∈ wsJ6_bitCount_0f7a4 := by decide +kernel
set_option maxRecDepth 100000 in
set_option maxHeartbeats 4000000 in
theorem k_J6_bitCount_0f7a4 (l : Launch) (D : va_G) (cI cZ cT : ClassId) (x : Int32) : CI l D kCl (kTy cI cZ cT) yJ6_bitCount_0f7a4 wsJ6_bitCount_0f7a4 ({ frames := 0, cells := 0, slots := 0, locals := 0 }) 0 0 [.int x] [] (S := Unit) (fun r _ => r = m_bc x) (fun _ => []) := by
  refine CI_of (own := RJ6) (by decide) rfl rfl (Nat.le_of_ble_eq_true rfl) rfl (fun X A hC hE => ?_)
  refine V_iload_n hC dJ6_bitCount_0f7a4_0 rfl rfl rfl ?_
  refine V_iload_n hC dJ6_bitCount_0f7a4_1 rfl rfl rfl ?_
  refine V_iconst (v := 1) hC dJ6_bitCount_0f7a4_2 (by decide) rfl ?_
  refine V_iushr hC dJ6_bitCount_0f7a4_3 rfl ?_
  refine V_ldc_w (v := 1431655765) hC dJ6_bitCount_0f7a4_4 k265_J6_bitCount_0f7a4 rfl ?_
  refine V_iand hC dJ6_bitCount_0f7a4_7 rfl ?_
  refine V_isub hC dJ6_bitCount_0f7a4_8 rfl ?_
  refine V_istore_n hC dJ6_bitCount_0f7a4_9 rfl (Nat.le_of_ble_eq_true rfl) rfl ?_
  refine V_iload_n hC dJ6_bitCount_0f7a4_10 rfl rfl rfl ?_
  refine V_ldc_w (v := 858993459) hC dJ6_bitCount_0f7a4_11 k266_J6_bitCount_0f7a4 rfl ?_
  refine V_iand hC dJ6_bitCount_0f7a4_14 rfl ?_
  refine V_iload_n hC dJ6_bitCount_0f7a4_15 rfl rfl rfl ?_
  refine V_iconst (v := 2) hC dJ6_bitCount_0f7a4_16 (by decide) rfl ?_
  refine V_iushr hC dJ6_bitCount_0f7a4_17 rfl ?_
  refine V_ldc_w (v := 858993459) hC dJ6_bitCount_0f7a4_18 k266_J6_bitCount_0f7a4 rfl ?_
  refine V_iand hC dJ6_bitCount_0f7a4_21 rfl ?_
  refine V_iadd hC dJ6_bitCount_0f7a4_22 rfl ?_
  refine V_istore_n hC dJ6_bitCount_0f7a4_23 rfl (Nat.le_of_ble_eq_true rfl) rfl ?_
  refine V_iload_n hC dJ6_bitCount_0f7a4_24 rfl rfl rfl ?_
  refine V_iload_n hC dJ6_bitCount_0f7a4_25 rfl rfl rfl ?_
  refine V_iconst (v := 4) hC dJ6_bitCount_0f7a4_26 (by decide) rfl ?_
  refine V_iushr hC dJ6_bitCount_0f7a4_27 rfl ?_
  refine V_iadd hC dJ6_bitCount_0f7a4_28 rfl ?_
  refine V_ldc_w (v := 252645135) hC dJ6_bitCount_0f7a4_29 k267_J6_bitCount_0f7a4 rfl ?_
  refine V_iand hC dJ6_bitCount_0f7a4_32 rfl ?_
  refine V_istore_n hC dJ6_bitCount_0f7a4_33 rfl (Nat.le_of_ble_eq_true rfl) rfl ?_
  refine V_iload_n hC dJ6_bitCount_0f7a4_34 rfl rfl rfl ?_
  refine V_iload_n hC dJ6_bitCount_0f7a4_35 rfl rfl rfl ?_
  refine V_bipush (v := 8) hC dJ6_bitCount_0f7a4_36 (by decide) rfl ?_
  refine V_iushr hC dJ6_bitCount_0f7a4_38 rfl ?_
  refine V_iadd hC dJ6_bitCount_0f7a4_39 rfl ?_
  refine V_istore_n hC dJ6_bitCount_0f7a4_40 rfl (Nat.le_of_ble_eq_true rfl) rfl ?_
  refine V_iload_n hC dJ6_bitCount_0f7a4_41 rfl rfl rfl ?_
  refine V_iload_n hC dJ6_bitCount_0f7a4_42 rfl rfl rfl ?_
  refine V_bipush (v := 16) hC dJ6_bitCount_0f7a4_43 (by decide) rfl ?_
  refine V_iushr hC dJ6_bitCount_0f7a4_45 rfl ?_
  refine V_iadd hC dJ6_bitCount_0f7a4_46 rfl ?_
  refine V_istore_n hC dJ6_bitCount_0f7a4_47 rfl (Nat.le_of_ble_eq_true rfl) rfl ?_
  refine V_iload_n hC dJ6_bitCount_0f7a4_48 rfl rfl rfl ?_
  refine V_bipush (v := 63) hC dJ6_bitCount_0f7a4_49 (by decide) rfl ?_
  refine V_iand hC dJ6_bitCount_0f7a4_51 rfl ?_
  exact hE _ () _ _ _ dJ6_bitCount_0f7a4_52 rfl rfl (by first | rfl | (simp [*]; done))
theorem in_X0_X0_countPresent : ∀ w ∈ u_ws RX0 TX0 4, w ∈ wsX0_countPresent := by decide +kernel
theorem fk_X0_countPresent_24 : Cond.fieldLink RX0 24 (TX0 2).1 (TX0 2).2.1 (TX0 2).2.2.1 ∈ wsX0_countPresent := by decide +kernel
theorem fk_X0_countPresent_20 : Cond.fieldLink RX0 20 (TX0 1).1 (TX0 1).2.1 (TX0 1).2.2.1 ∈ wsX0_countPresent := by decide +kernel
theorem in_X2_X0_countPresent : ∀ w ∈ u_ws RX2 TX2 18, w ∈ wsX0_countPresent := by decide +kernel
theorem fk_X0_countPresent_65 : Cond.fieldLink RX0 65 (TX2 9).1 (TX2 9).2.1 (TX2 9).2.2.1 ∈ wsX0_countPresent := by decide +kernel
set_option maxRecDepth 100000 in
set_option maxHeartbeats 4000000 in
theorem k_X0_countPresent (l : Launch) (D : va_G) (cI cZ cT : ClassId) (a : Nat → Nat) (t g : Nat → Nat → Int32) (nT : Nat) (hT : g 8 0 = nI nT) (hT4 : nT ≤ 4) : CI l D kCl (kTy cI cZ cT) yX0_countPresent wsX0_countPresent ({ frames := 0, cells := 0, slots := 0, locals := 0 }) 0 0 [.ref (a 4)] (Wl cI cZ cT a t g) (S := Unit) (fun r _ => r = m_present t nT) (fun _ => (Wl cI cZ cT a t g)) := by
  refine CI_of (own := RX0) (by decide) rfl rfl (Nat.le_of_ble_eq_true rfl) rfl (fun X A hC hE => ?_)
  refine V_iconst (v := 0) hC dX0_countPresent_0 (by decide) rfl ?_
  refine V_istore_n hC dX0_countPresent_1 rfl (Nat.le_of_ble_eq_true rfl) rfl ?_
  refine V_iconst (v := 0) hC dX0_countPresent_2 (by decide) rfl ?_
  refine V_istore_n hC dX0_countPresent_3 rfl (Nat.le_of_ble_eq_true rfl) rfl ?_
  have loop_4 : ∀ (d k : Nat), nT - k < d → k ≤ nT → V X 0 0 (Wl cI cZ cT a t g) [(0, .ref (a 4)), (1, .int (m_present t k)), (2, .int (nI k))] 4 [] := by
    intro d
    induction d with
    | zero => intro k; intros; omega
    | succ d ih =>
      intro k h hk
      refine V_iload_n hC dX0_countPresent_4 rfl rfl rfl ?_
      refine V_aload_n hC dX0_countPresent_5 rfl rfl rfl ?_
      refine V_get (q0 := 4) (C := RX0) (T := TX0) (N := 4) hC dX0_countPresent_6 in_X0_X0_countPresent rfl rfl 2 (Nat.le_of_ble_eq_true rfl) fk_X0_countPresent_24 rfl rfl ?_
      refine V_icmp_ge (tgt := 38) hC dX0_countPresent_9 (by decide) rfl (fun c_9 => ?_) (fun c_9 => ?_)
      · rw [hT] at c_9
        have c1 := nI_le' c_9 (by omega) (by omega)
        obtain rfl : k = nT := by omega
        refine V_iload_n hC dX0_countPresent_38 rfl rfl rfl ?_
        exact hE _ () _ _ _ dX0_countPresent_39 rfl rfl (by first | rfl | (simp [*]; done))
      · rw [hT] at c_9
        have c1 := nI_nle' c_9 (by omega) (by omega)
        have k4 : k < 4 := by omega
        refine V_iload_n hC dX0_countPresent_12 rfl rfl rfl ?_
        refine V_aload_n hC dX0_countPresent_13 rfl rfl rfl ?_
        refine V_get (q0 := 4) (C := RX0) (T := TX0) (N := 4) hC dX0_countPresent_14 in_X0_X0_countPresent rfl rfl 1 (Nat.le_of_ble_eq_true rfl) fk_X0_countPresent_20 rfl rfl ?_
        refine V_iload_n hC dX0_countPresent_17 rfl rfl rfl ?_
        refine V_aald (q0 := 14) hC dX0_countPresent_18 rfl 2 rfl rfl k4 (by decide) (trA_at k4) rfl ?_
        refine V_get (C := RX2) (T := TX2) (N := 18) hC dX0_countPresent_19 in_X2_X0_countPresent (Wl_t k4) rfl 9 (Nat.le_of_ble_eq_true rfl) fk_X0_countPresent_65 rfl rfl ?_
        refine V_if_eq (tgt := 29) hC dX0_countPresent_22 (by decide) rfl (fun c_22 => ?_) (fun c_22 => ?_)
        · refine V_iconst (v := 1) hC dX0_countPresent_29 (by decide) rfl ?_
          refine V_iadd hC dX0_countPresent_30 rfl ?_
          refine V_istore_n hC dX0_countPresent_31 rfl (Nat.le_of_ble_eq_true rfl) rfl ?_
          refine V_iinc hC dX0_countPresent_32 rfl (nI_1 k) (Nat.le_of_ble_eq_true rfl) rfl ?_
          refine V_goto (tgt := 4) hC dX0_countPresent_35 (by decide) ?_
          exact V_to (ih (k + 1) (by omega) (by omega)) (lc rfl (lc (kv (by simp [m_present, c_22])) (lc rfl ln)))
        · refine V_iconst (v := 0) hC dX0_countPresent_25 (by decide) rfl ?_
          refine V_goto (tgt := 30) hC dX0_countPresent_26 (by decide) ?_
          refine V_iadd hC dX0_countPresent_30 rfl ?_
          refine V_istore_n hC dX0_countPresent_31 rfl (Nat.le_of_ble_eq_true rfl) rfl ?_
          refine V_iinc hC dX0_countPresent_32 rfl (nI_1 k) (Nat.le_of_ble_eq_true rfl) rfl ?_
          refine V_goto (tgt := 4) hC dX0_countPresent_35 (by decide) ?_
          exact V_to (ih (k + 1) (by omega) (by omega)) (lc rfl (lc (kv (by simp [m_present, c_22])) (lc rfl ln)))
  exact V_to (loop_4 _ 0 (Nat.lt_succ_self _) (by omega)) (lc rfl (lc rfl (lc (kv nI_0.symm) ln)))
theorem in_X0_X0_countCrashed : ∀ w ∈ u_ws RX0 TX0 4, w ∈ wsX0_countCrashed := by decide +kernel
theorem fk_X0_countCrashed_24 : Cond.fieldLink RX0 24 (TX0 2).1 (TX0 2).2.1 (TX0 2).2.2.1 ∈ wsX0_countCrashed := by decide +kernel
theorem fk_X0_countCrashed_20 : Cond.fieldLink RX0 20 (TX0 1).1 (TX0 1).2.1 (TX0 1).2.2.1 ∈ wsX0_countCrashed := by decide +kernel
theorem in_X2_X0_countCrashed : ∀ w ∈ u_ws RX2 TX2 18, w ∈ wsX0_countCrashed := by decide +kernel
theorem fk_X0_countCrashed_73 : Cond.fieldLink RX0 73 (TX2 10).1 (TX2 10).2.1 (TX2 10).2.2.1 ∈ wsX0_countCrashed := by decide +kernel
set_option maxRecDepth 100000 in
set_option maxHeartbeats 4000000 in
theorem k_X0_countCrashed (l : Launch) (D : va_G) (cI cZ cT : ClassId) (a : Nat → Nat) (t g : Nat → Nat → Int32) (nT : Nat) (hT : g 8 0 = nI nT) (hT4 : nT ≤ 4) : CI l D kCl (kTy cI cZ cT) yX0_countCrashed wsX0_countCrashed ({ frames := 0, cells := 0, slots := 0, locals := 0 }) 0 0 [.ref (a 4)] (Wl cI cZ cT a t g) (S := Unit) (fun r _ => r = m_crashed t nT) (fun _ => (Wl cI cZ cT a t g)) := by
  refine CI_of (own := RX0) (by decide) rfl rfl (Nat.le_of_ble_eq_true rfl) rfl (fun X A hC hE => ?_)
  refine V_iconst (v := 0) hC dX0_countCrashed_0 (by decide) rfl ?_
  refine V_istore_n hC dX0_countCrashed_1 rfl (Nat.le_of_ble_eq_true rfl) rfl ?_
  refine V_iconst (v := 0) hC dX0_countCrashed_2 (by decide) rfl ?_
  refine V_istore_n hC dX0_countCrashed_3 rfl (Nat.le_of_ble_eq_true rfl) rfl ?_
  have loop_4 : ∀ (d k : Nat), nT - k < d → k ≤ nT → V X 0 0 (Wl cI cZ cT a t g) [(0, .ref (a 4)), (1, .int (m_crashed t k)), (2, .int (nI k))] 4 [] := by
    intro d
    induction d with
    | zero => intro k; intros; omega
    | succ d ih =>
      intro k h hk
      refine V_iload_n hC dX0_countCrashed_4 rfl rfl rfl ?_
      refine V_aload_n hC dX0_countCrashed_5 rfl rfl rfl ?_
      refine V_get (q0 := 4) (C := RX0) (T := TX0) (N := 4) hC dX0_countCrashed_6 in_X0_X0_countCrashed rfl rfl 2 (Nat.le_of_ble_eq_true rfl) fk_X0_countCrashed_24 rfl rfl ?_
      refine V_icmp_ge (tgt := 38) hC dX0_countCrashed_9 (by decide) rfl (fun c_9 => ?_) (fun c_9 => ?_)
      · rw [hT] at c_9
        have c1 := nI_le' c_9 (by omega) (by omega)
        obtain rfl : k = nT := by omega
        refine V_iload_n hC dX0_countCrashed_38 rfl rfl rfl ?_
        exact hE _ () _ _ _ dX0_countCrashed_39 rfl rfl (by first | rfl | (simp [*]; done))
      · rw [hT] at c_9
        have c1 := nI_nle' c_9 (by omega) (by omega)
        have k4 : k < 4 := by omega
        refine V_iload_n hC dX0_countCrashed_12 rfl rfl rfl ?_
        refine V_aload_n hC dX0_countCrashed_13 rfl rfl rfl ?_
        refine V_get (q0 := 4) (C := RX0) (T := TX0) (N := 4) hC dX0_countCrashed_14 in_X0_X0_countCrashed rfl rfl 1 (Nat.le_of_ble_eq_true rfl) fk_X0_countCrashed_20 rfl rfl ?_
        refine V_iload_n hC dX0_countCrashed_17 rfl rfl rfl ?_
        refine V_aald (q0 := 14) hC dX0_countCrashed_18 rfl 2 rfl rfl k4 (by decide) (trA_at k4) rfl ?_
        refine V_get (C := RX2) (T := TX2) (N := 18) hC dX0_countCrashed_19 in_X2_X0_countCrashed (Wl_t k4) rfl 10 (Nat.le_of_ble_eq_true rfl) fk_X0_countCrashed_73 rfl rfl ?_
        refine V_if_eq (tgt := 29) hC dX0_countCrashed_22 (by decide) rfl (fun c_22 => ?_) (fun c_22 => ?_)
        · refine V_iconst (v := 0) hC dX0_countCrashed_29 (by decide) rfl ?_
          refine V_iadd hC dX0_countCrashed_30 rfl ?_
          refine V_istore_n hC dX0_countCrashed_31 rfl (Nat.le_of_ble_eq_true rfl) rfl ?_
          refine V_iinc hC dX0_countCrashed_32 rfl (nI_1 k) (Nat.le_of_ble_eq_true rfl) rfl ?_
          refine V_goto (tgt := 4) hC dX0_countCrashed_35 (by decide) ?_
          exact V_to (ih (k + 1) (by omega) (by omega)) (lc rfl (lc (kv (by simp [m_crashed, c_22])) (lc rfl ln)))
        · refine V_iconst (v := 1) hC dX0_countCrashed_25 (by decide) rfl ?_
          refine V_goto (tgt := 30) hC dX0_countCrashed_26 (by decide) ?_
          refine V_iadd hC dX0_countCrashed_30 rfl ?_
          refine V_istore_n hC dX0_countCrashed_31 rfl (Nat.le_of_ble_eq_true rfl) rfl ?_
          refine V_iinc hC dX0_countCrashed_32 rfl (nI_1 k) (Nat.le_of_ble_eq_true rfl) rfl ?_
          refine V_goto (tgt := 4) hC dX0_countCrashed_35 (by decide) ?_
          exact V_to (ih (k + 1) (by omega) (by omega)) (lc rfl (lc (kv (by simp [m_crashed, c_22])) (lc rfl ln)))
  exact V_to (loop_4 _ 0 (Nat.lt_succ_self _) (by omega)) (lc rfl (lc rfl (lc (kv nI_0.symm) ln)))
theorem in_X0_X0_sumOfSpeeds : ∀ w ∈ u_ws RX0 TX0 4, w ∈ wsX0_sumOfSpeeds := by decide +kernel
theorem fk_X0_sumOfSpeeds_24 : Cond.fieldLink RX0 24 (TX0 2).1 (TX0 2).2.1 (TX0 2).2.2.1 ∈ wsX0_sumOfSpeeds := by decide +kernel
theorem fk_X0_sumOfSpeeds_20 : Cond.fieldLink RX0 20 (TX0 1).1 (TX0 1).2.1 (TX0 1).2.2.1 ∈ wsX0_sumOfSpeeds := by decide +kernel
theorem in_X2_X0_sumOfSpeeds : ∀ w ∈ u_ws RX2 TX2 18, w ∈ wsX0_sumOfSpeeds := by decide +kernel
theorem fk_X0_sumOfSpeeds_80 : Cond.fieldLink RX0 80 (TX2 5).1 (TX2 5).2.1 (TX2 5).2.2.1 ∈ wsX0_sumOfSpeeds := by decide +kernel
set_option maxRecDepth 100000 in
set_option maxHeartbeats 4000000 in
theorem k_X0_sumOfSpeeds (l : Launch) (D : va_G) (cI cZ cT : ClassId) (a : Nat → Nat) (t g : Nat → Nat → Int32) (nT : Nat) (hT : g 8 0 = nI nT) (hT4 : nT ≤ 4) : CI l D kCl (kTy cI cZ cT) yX0_sumOfSpeeds wsX0_sumOfSpeeds ({ frames := 0, cells := 0, slots := 0, locals := 0 }) 0 0 [.ref (a 4)] (Wl cI cZ cT a t g) (S := Unit) (fun r _ => r = m_speeds t nT) (fun _ => (Wl cI cZ cT a t g)) := by
  refine CI_of (own := RX0) (by decide) rfl rfl (Nat.le_of_ble_eq_true rfl) rfl (fun X A hC hE => ?_)
  refine V_iconst (v := 0) hC dX0_sumOfSpeeds_0 (by decide) rfl ?_
  refine V_istore_n hC dX0_sumOfSpeeds_1 rfl (Nat.le_of_ble_eq_true rfl) rfl ?_
  refine V_iconst (v := 0) hC dX0_sumOfSpeeds_2 (by decide) rfl ?_
  refine V_istore_n hC dX0_sumOfSpeeds_3 rfl (Nat.le_of_ble_eq_true rfl) rfl ?_
  have loop_4 : ∀ (d k : Nat), nT - k < d → k ≤ nT → V X 0 0 (Wl cI cZ cT a t g) [(0, .ref (a 4)), (1, .int (m_speeds t k)), (2, .int (nI k))] 4 [] := by
    intro d
    induction d with
    | zero => intro k; intros; omega
    | succ d ih =>
      intro k h hk
      refine V_iload_n hC dX0_sumOfSpeeds_4 rfl rfl rfl ?_
      refine V_aload_n hC dX0_sumOfSpeeds_5 rfl rfl rfl ?_
      refine V_get (q0 := 4) (C := RX0) (T := TX0) (N := 4) hC dX0_sumOfSpeeds_6 in_X0_X0_sumOfSpeeds rfl rfl 2 (Nat.le_of_ble_eq_true rfl) fk_X0_sumOfSpeeds_24 rfl rfl ?_
      refine V_icmp_ge (tgt := 30) hC dX0_sumOfSpeeds_9 (by decide) rfl (fun c_9 => ?_) (fun c_9 => ?_)
      · rw [hT] at c_9
        have c1 := nI_le' c_9 (by omega) (by omega)
        obtain rfl : k = nT := by omega
        refine V_iload_n hC dX0_sumOfSpeeds_30 rfl rfl rfl ?_
        exact hE _ () _ _ _ dX0_sumOfSpeeds_31 rfl rfl (by first | rfl | (simp [*]; done))
      · rw [hT] at c_9
        have c1 := nI_nle' c_9 (by omega) (by omega)
        have k4 : k < 4 := by omega
        refine V_iload_n hC dX0_sumOfSpeeds_12 rfl rfl rfl ?_
        refine V_aload_n hC dX0_sumOfSpeeds_13 rfl rfl rfl ?_
        refine V_get (q0 := 4) (C := RX0) (T := TX0) (N := 4) hC dX0_sumOfSpeeds_14 in_X0_X0_sumOfSpeeds rfl rfl 1 (Nat.le_of_ble_eq_true rfl) fk_X0_sumOfSpeeds_20 rfl rfl ?_
        refine V_iload_n hC dX0_sumOfSpeeds_17 rfl rfl rfl ?_
        refine V_aald (q0 := 14) hC dX0_sumOfSpeeds_18 rfl 2 rfl rfl k4 (by decide) (trA_at k4) rfl ?_
        refine V_get (C := RX2) (T := TX2) (N := 18) hC dX0_sumOfSpeeds_19 in_X2_X0_sumOfSpeeds (Wl_t k4) rfl 5 (Nat.le_of_ble_eq_true rfl) fk_X0_sumOfSpeeds_80 rfl rfl ?_
        refine V_iadd hC dX0_sumOfSpeeds_22 rfl ?_
        refine V_istore_n hC dX0_sumOfSpeeds_23 rfl (Nat.le_of_ble_eq_true rfl) rfl ?_
        refine V_iinc hC dX0_sumOfSpeeds_24 rfl (nI_1 k) (Nat.le_of_ble_eq_true rfl) rfl ?_
        refine V_goto (tgt := 4) hC dX0_sumOfSpeeds_27 (by decide) ?_
        exact V_to (ih (k + 1) (by omega) (by omega)) (lc rfl (lc (kv (by simp [m_speeds])) (lc rfl ln)))
  exact V_to (loop_4 _ 0 (Nat.lt_succ_self _) (by omega)) (lc rfl (lc rfl (lc (kv nI_0.symm) ln)))
theorem in_X0_X0_countOn : ∀ w ∈ u_ws RX0 TX0 4, w ∈ wsX0_countOn := by decide +kernel
theorem fk_X0_countOn_24 : Cond.fieldLink RX0 24 (TX0 2).1 (TX0 2).2.1 (TX0 2).2.2.1 ∈ wsX0_countOn := by decide +kernel
theorem fk_X0_countOn_20 : Cond.fieldLink RX0 20 (TX0 1).1 (TX0 1).2.1 (TX0 1).2.2.1 ∈ wsX0_countOn := by decide +kernel
theorem in_X2_X0_countOn : ∀ w ∈ u_ws RX2 TX2 18, w ∈ wsX0_countOn := by decide +kernel
theorem fk_X0_countOn_65 : Cond.fieldLink RX0 65 (TX2 9).1 (TX2 9).2.1 (TX2 9).2.2.1 ∈ wsX0_countOn := by decide +kernel
set_option maxRecDepth 100000 in
set_option maxHeartbeats 4000000 in
theorem k_X0_countOn (l : Launch) (D : va_G) (cI cZ cT : ClassId) (a : Nat → Nat) (t g : Nat → Nat → Int32) (f l1 : Int32) (nT : Nat) (hT : g 8 0 = nI nT) (hT4 : nT ≤ 4) : CI l D kCl (kTy cI cZ cT) yX0_countOn wsX0_countOn ({ frames := 2, cells := 0, slots := 0, locals := 42 }) 0 0 [.ref (a 4), .int f, .int l1] (Wl cI cZ cT a t g) (S := Unit) (fun r _ => r = m_on t f l1 nT) (fun _ => (Wl cI cZ cT a t g)) := by
  refine CI_of (own := RX0) (by decide) rfl rfl (Nat.le_of_ble_eq_true rfl) rfl (fun X A hC hE => ?_)
  refine V_iconst (v := 0) hC dX0_countOn_0 (by decide) rfl ?_
  refine V_istore_n hC dX0_countOn_1 rfl (Nat.le_of_ble_eq_true rfl) rfl ?_
  refine V_iconst (v := 0) hC dX0_countOn_2 (by decide) rfl ?_
  refine V_istore hC dX0_countOn_3 (Nat.le_of_ble_eq_true rfl) rfl ?_
  have loop_5 : ∀ (d k : Nat), nT - k < d → k ≤ nT → V X 0 0 (Wl cI cZ cT a t g) [(0, .ref (a 4)), (1, .int f), (2, .int l1), (3, .int (m_on t f l1 k)), (4, .int (nI k))] 5 [] := by
    intro d
    induction d with
    | zero => intro k; intros; omega
    | succ d ih =>
      intro k h hk
      refine V_iload hC dX0_countOn_5 rfl rfl ?_
      refine V_aload_n hC dX0_countOn_7 rfl rfl rfl ?_
      refine V_get (q0 := 4) (C := RX0) (T := TX0) (N := 4) hC dX0_countOn_8 in_X0_X0_countOn rfl rfl 2 (Nat.le_of_ble_eq_true rfl) fk_X0_countOn_24 rfl rfl ?_
      refine V_icmp_ge (tgt := 68) hC dX0_countOn_11 (by decide) rfl (fun c_11 => ?_) (fun c_11 => ?_)
      · rw [hT] at c_11
        have c1 := nI_le' c_11 (by omega) (by omega)
        obtain rfl : k = nT := by omega
        refine V_iload_n hC dX0_countOn_68 rfl rfl rfl ?_
        exact hE _ () _ _ _ dX0_countOn_69 rfl rfl (by first | rfl | (simp [*]; done))
      · rw [hT] at c_11
        have c1 := nI_nle' c_11 (by omega) (by omega)
        have k4 : k < 4 := by omega
        refine V_aload_n hC dX0_countOn_14 rfl rfl rfl ?_
        refine V_get (q0 := 4) (C := RX0) (T := TX0) (N := 4) hC dX0_countOn_15 in_X0_X0_countOn rfl rfl 1 (Nat.le_of_ble_eq_true rfl) fk_X0_countOn_20 rfl rfl ?_
        refine V_iload hC dX0_countOn_18 rfl rfl ?_
        refine V_aald (q0 := 14) hC dX0_countOn_20 rfl 2 rfl rfl k4 (by decide) (trA_at k4) rfl ?_
        refine V_get (C := RX2) (T := TX2) (N := 18) hC dX0_countOn_21 in_X2_X0_countOn (Wl_t k4) rfl 9 (Nat.le_of_ble_eq_true rfl) fk_X0_countOn_65 rfl rfl ?_
        refine V_if_ne (tgt := 46) hC dX0_countOn_24 (by decide) rfl (fun c_24 => ?_) (fun c_24 => ?_)
        · refine V_iconst (v := 0) hC dX0_countOn_46 (by decide) rfl ?_
          refine V_istore hC dX0_countOn_47 (Nat.le_of_ble_eq_true rfl) rfl ?_
          refine V_iload_n hC dX0_countOn_49 rfl rfl rfl ?_
          refine V_iload hC dX0_countOn_50 rfl rfl ?_
          refine V_if_eq (tgt := 59) hC dX0_countOn_52 (by decide) rfl (fun _ => ?_) (fun c => absurd c (by decide))
          refine V_iconst (v := 0) hC dX0_countOn_59 (by decide) rfl ?_
          refine V_iadd hC dX0_countOn_60 rfl ?_
          refine V_istore_n hC dX0_countOn_61 rfl (Nat.le_of_ble_eq_true rfl) rfl ?_
          refine V_iinc hC dX0_countOn_62 rfl (nI_1 k) (Nat.le_of_ble_eq_true rfl) rfl ?_
          refine V_goto (tgt := 5) hC dX0_countOn_65 (by decide) ?_
          exact V_to (ih (k + 1) (by omega) (by omega)) (lc rfl (lc rfl (lc rfl (lc (kv (by simp [m_on, *])) (lc rfl ln)))))
        · refine V_aload_n hC dX0_countOn_27 rfl rfl rfl ?_
          refine V_get (q0 := 4) (C := RX0) (T := TX0) (N := 4) hC dX0_countOn_28 in_X0_X0_countOn rfl rfl 1 (Nat.le_of_ble_eq_true rfl) fk_X0_countOn_20 rfl rfl ?_
          refine V_iload hC dX0_countOn_31 rfl rfl ?_
          refine V_aald (q0 := 14) hC dX0_countOn_33 rfl 2 rfl rfl k4 (by decide) (trA_at k4) rfl ?_
          refine V_iload_n hC dX0_countOn_34 rfl rfl rfl ?_
          refine V_iload_n hC dX0_countOn_35 rfl rfl rfl ?_
          refine V_callIV (n := 2) hC dX0_countOn_36 (k_X2_isOn l D cI cZ cT a _ _ _ k4 _ _) gX0_countOn_X2_isOn rfl ⟨rfl, rfl⟩ (by decide +kernel) ⟨Nat.le_of_ble_eq_true rfl, Nat.le_of_ble_eq_true rfl⟩ ⟨Nat.le_of_ble_eq_true rfl, Nat.le_of_ble_eq_true rfl⟩ (Wl_t k4) rfl rfl rfl (by exact Nat.le_of_ble_eq_true rfl) rfl (fun r_36 u_36 h_36 => ?_)
          subst h_36
          refine V_if_eq (tgt := 46) hC dX0_countOn_39 (by decide) rfl (fun c_39 => ?_) (fun c_39 => ?_)
          · refine V_iconst (v := 0) hC dX0_countOn_46 (by decide) rfl ?_
            refine V_istore hC dX0_countOn_47 (Nat.le_of_ble_eq_true rfl) rfl ?_
            refine V_iload_n hC dX0_countOn_49 rfl rfl rfl ?_
            refine V_iload hC dX0_countOn_50 rfl rfl ?_
            refine V_if_eq (tgt := 59) hC dX0_countOn_52 (by decide) rfl (fun _ => ?_) (fun c => absurd c (by decide))
            refine V_iconst (v := 0) hC dX0_countOn_59 (by decide) rfl ?_
            refine V_iadd hC dX0_countOn_60 rfl ?_
            refine V_istore_n hC dX0_countOn_61 rfl (Nat.le_of_ble_eq_true rfl) rfl ?_
            refine V_iinc hC dX0_countOn_62 rfl (nI_1 k) (Nat.le_of_ble_eq_true rfl) rfl ?_
            refine V_goto (tgt := 5) hC dX0_countOn_65 (by decide) ?_
            exact V_to (ih (k + 1) (by omega) (by omega)) (lc rfl (lc rfl (lc rfl (lc (kv (by simp [m_on, *])) (lc rfl ln)))))
          · refine V_iconst (v := 1) hC dX0_countOn_42 (by decide) rfl ?_
            refine V_goto (tgt := 47) hC dX0_countOn_43 (by decide) ?_
            refine V_istore hC dX0_countOn_47 (Nat.le_of_ble_eq_true rfl) rfl ?_
            refine V_iload_n hC dX0_countOn_49 rfl rfl rfl ?_
            refine V_iload hC dX0_countOn_50 rfl rfl ?_
            refine V_if_eq (tgt := 59) hC dX0_countOn_52 (by decide) rfl (fun c => absurd c (by decide)) (fun _ => ?_)
            refine V_iconst (v := 1) hC dX0_countOn_55 (by decide) rfl ?_
            refine V_goto (tgt := 60) hC dX0_countOn_56 (by decide) ?_
            refine V_iadd hC dX0_countOn_60 rfl ?_
            refine V_istore_n hC dX0_countOn_61 rfl (Nat.le_of_ble_eq_true rfl) rfl ?_
            refine V_iinc hC dX0_countOn_62 rfl (nI_1 k) (Nat.le_of_ble_eq_true rfl) rfl ?_
            refine V_goto (tgt := 5) hC dX0_countOn_65 (by decide) ?_
            exact V_to (ih (k + 1) (by omega) (by omega)) (lc rfl (lc rfl (lc rfl (lc (kv (by simp [m_on, *])) (lc rfl ln)))))
  exact V_to (loop_5 _ 0 (Nat.lt_succ_self _) (by omega)) (lc rfl (lc rfl (lc rfl (lc rfl (lc (kv nI_0.symm) ln)))))
theorem in_X0_X0_total : ∀ w ∈ u_ws RX0 TX0 4, w ∈ wsX0_total := by decide +kernel
theorem fk_X0_total_24 : Cond.fieldLink RX0 24 (TX0 2).1 (TX0 2).2.1 (TX0 2).2.2.1 ∈ wsX0_total := by decide +kernel
theorem fk_X0_total_20 : Cond.fieldLink RX0 20 (TX0 1).1 (TX0 1).2.1 (TX0 1).2.2.1 ∈ wsX0_total := by decide +kernel
theorem in_X2_X0_total : ∀ w ∈ u_ws RX2 TX2 18, w ∈ wsX0_total := by decide +kernel
theorem fk_X0_total_83 : Cond.fieldLink RX0 83 (TX2 14).1 (TX2 14).2.1 (TX2 14).2.2.1 ∈ wsX0_total := by decide +kernel
theorem fk_X0_total_86 : Cond.fieldLink RX0 86 (TX2 15).1 (TX2 15).2.1 (TX2 15).2.2.1 ∈ wsX0_total := by decide +kernel
theorem fk_X0_total_89 : Cond.fieldLink RX0 89 (TX2 16).1 (TX2 16).2.1 (TX2 16).2.2.1 ∈ wsX0_total := by decide +kernel
set_option maxRecDepth 100000 in
set_option maxHeartbeats 4000000 in
theorem k_X0_total (l : Launch) (D : va_G) (cI cZ cT : ClassId) (a : Nat → Nat) (t g : Nat → Nat → Int32) (w : Int32) (nT : Nat) (hT : g 8 0 = nI nT) (hT4 : nT ≤ 4) : CI l D kCl (kTy cI cZ cT) yX0_total wsX0_total ({ frames := 1, cells := 0, slots := 0, locals := 20 }) 0 0 [.ref (a 4), .int w] (Wl cI cZ cT a t g) (S := Unit) (fun r _ => r = m_tot t w nT) (fun _ => (Wl cI cZ cT a t g)) := by
  refine CI_of (own := RX0) (by decide) rfl rfl (Nat.le_of_ble_eq_true rfl) rfl (fun X A hC hE => ?_)
  refine V_iconst (v := 0) hC dX0_total_0 (by decide) rfl ?_
  refine V_istore_n hC dX0_total_1 rfl (Nat.le_of_ble_eq_true rfl) rfl ?_
  refine V_iconst (v := 0) hC dX0_total_2 (by decide) rfl ?_
  refine V_istore_n hC dX0_total_3 rfl (Nat.le_of_ble_eq_true rfl) rfl ?_
  have loop_4 : ∀ (d k : Nat), nT - k < d → k ≤ nT → V X 0 0 (Wl cI cZ cT a t g) [(0, .ref (a 4)), (1, .int w), (2, .int (m_tot t w k)), (3, .int (nI k))] 4 [] := by
    intro d
    induction d with
    | zero => intro k; intros; omega
    | succ d ih =>
      intro k h hk
      refine V_iload_n hC dX0_total_4 rfl rfl rfl ?_
      refine V_aload_n hC dX0_total_5 rfl rfl rfl ?_
      refine V_get (q0 := 4) (C := RX0) (T := TX0) (N := 4) hC dX0_total_6 in_X0_X0_total rfl rfl 2 (Nat.le_of_ble_eq_true rfl) fk_X0_total_24 rfl rfl ?_
      refine V_icmp_ge (tgt := 95) hC dX0_total_9 (by decide) rfl (fun c_9 => ?_) (fun c_9 => ?_)
      · rw [hT] at c_9
        have c1 := nI_le' c_9 (by omega) (by omega)
        obtain rfl : k = nT := by omega
        refine V_iload_n hC dX0_total_95 rfl rfl rfl ?_
        exact hE _ () _ _ _ dX0_total_96 rfl rfl (by first | rfl | (simp [*]; done))
      · rw [hT] at c_9
        have c1 := nI_nle' c_9 (by omega) (by omega)
        have k4 : k < 4 := by omega
        refine V_aload_n hC dX0_total_12 rfl rfl rfl ?_
        refine V_get (q0 := 4) (C := RX0) (T := TX0) (N := 4) hC dX0_total_13 in_X0_X0_total rfl rfl 1 (Nat.le_of_ble_eq_true rfl) fk_X0_total_20 rfl rfl ?_
        refine V_iload_n hC dX0_total_16 rfl rfl rfl ?_
        refine V_aald (q0 := 14) hC dX0_total_17 rfl 2 rfl rfl k4 (by decide) (trA_at k4) rfl ?_
        refine V_astore hC dX0_total_18 (Nat.le_of_ble_eq_true rfl) rfl ?_
        refine V_iload_n hC dX0_total_20 rfl rfl rfl ?_
        by_cases w_6 : w = 6
        · subst w_6
          refine V_tableIn (tgt := 48) (off := 27) hC dX0_total_21 (by decide) (by decide) (by decide) (by decide) ?_
          refine V_iload_n hC dX0_total_48 rfl rfl rfl ?_
          refine V_aload hC dX0_total_49 rfl rfl ?_
          refine V_get (C := RX2) (T := TX2) (N := 18) hC dX0_total_51 in_X2_X0_total (Wl_t k4) rfl 14 (Nat.le_of_ble_eq_true rfl) fk_X0_total_83 rfl rfl ?_
          refine V_iadd hC dX0_total_54 rfl ?_
          refine V_istore_n hC dX0_total_55 rfl (Nat.le_of_ble_eq_true rfl) rfl ?_
          refine V_goto (tgt := 89) hC dX0_total_56 (by decide) ?_
          refine V_iinc hC dX0_total_89 rfl (nI_1 k) (Nat.le_of_ble_eq_true rfl) rfl ?_
          refine V_goto (tgt := 4) hC dX0_total_92 (by decide) ?_
          exact V_to (ih (k + 1) (by omega) (by omega)) (lc rfl (lc rfl (lc (kv (by simp [m_tot, *])) (lc rfl ln))))
        by_cases w_7 : w = 7
        · subst w_7
          refine V_tableIn (tgt := 59) (off := 38) hC dX0_total_21 (by decide) (by decide) (by decide) (by decide) ?_
          refine V_iload_n hC dX0_total_59 rfl rfl rfl ?_
          refine V_aload hC dX0_total_60 rfl rfl ?_
          refine V_get (C := RX2) (T := TX2) (N := 18) hC dX0_total_62 in_X2_X0_total (Wl_t k4) rfl 15 (Nat.le_of_ble_eq_true rfl) fk_X0_total_86 rfl rfl ?_
          refine V_iadd hC dX0_total_65 rfl ?_
          refine V_istore_n hC dX0_total_66 rfl (Nat.le_of_ble_eq_true rfl) rfl ?_
          refine V_goto (tgt := 89) hC dX0_total_67 (by decide) ?_
          refine V_iinc hC dX0_total_89 rfl (nI_1 k) (Nat.le_of_ble_eq_true rfl) rfl ?_
          refine V_goto (tgt := 4) hC dX0_total_92 (by decide) ?_
          exact V_to (ih (k + 1) (by omega) (by omega)) (lc rfl (lc rfl (lc (kv (by simp [m_tot, *])) (lc rfl ln))))
        by_cases w_8 : w = 8
        · subst w_8
          refine V_tableIn (tgt := 70) (off := 49) hC dX0_total_21 (by decide) (by decide) (by decide) (by decide) ?_
          refine V_iload_n hC dX0_total_70 rfl rfl rfl ?_
          refine V_aload hC dX0_total_71 rfl rfl ?_
          refine V_get (C := RX2) (T := TX2) (N := 18) hC dX0_total_73 in_X2_X0_total (Wl_t k4) rfl 16 (Nat.le_of_ble_eq_true rfl) fk_X0_total_89 rfl rfl ?_
          refine V_iadd hC dX0_total_76 rfl ?_
          refine V_istore_n hC dX0_total_77 rfl (Nat.le_of_ble_eq_true rfl) rfl ?_
          refine V_goto (tgt := 89) hC dX0_total_78 (by decide) ?_
          refine V_iinc hC dX0_total_89 rfl (nI_1 k) (Nat.le_of_ble_eq_true rfl) rfl ?_
          refine V_goto (tgt := 4) hC dX0_total_92 (by decide) ?_
          exact V_to (ih (k + 1) (by omega) (by omega)) (lc rfl (lc rfl (lc (kv (by simp [m_tot, *])) (lc rfl ln))))
        have s_6 := sw_no w_6 (z := 6) (by decide)
        have s_7 := sw_no w_7 (z := 7) (by decide)
        have s_8 := sw_no w_8 (z := 8) (by decide)
        refine V_tableOut (tgt := 81) hC dX0_total_21 (by omega) (by decide) ?_
        refine V_iload_n hC dX0_total_81 rfl rfl rfl ?_
        refine V_aload hC dX0_total_82 rfl rfl ?_
        refine V_callIV (n := 0) hC dX0_total_84 (k_X2_metresGone l D cI cZ cT a _ _ _ k4) gX0_total_X2_metresGone rfl ⟨rfl, rfl⟩ (by decide +kernel) ⟨Nat.le_of_ble_eq_true rfl, Nat.le_of_ble_eq_true rfl⟩ ⟨Nat.le_of_ble_eq_true rfl, Nat.le_of_ble_eq_true rfl⟩ (Wl_t k4) rfl rfl rfl (by exact Nat.le_of_ble_eq_true rfl) rfl (fun r_84 u_84 h_84 => ?_)
        subst h_84
        refine V_iadd hC dX0_total_87 rfl ?_
        refine V_istore_n hC dX0_total_88 rfl (Nat.le_of_ble_eq_true rfl) rfl ?_
        refine V_iinc hC dX0_total_89 rfl (nI_1 k) (Nat.le_of_ble_eq_true rfl) rfl ?_
        refine V_goto (tgt := 4) hC dX0_total_92 (by decide) ?_
        exact V_to (ih (k + 1) (by omega) (by omega)) (lc rfl (lc rfl (lc (kv (by simp [m_tot, *])) (lc rfl ln))))
  exact V_to (loop_4 _ 0 (Nat.lt_succ_self _) (by omega)) (lc rfl (lc rfl (lc rfl (lc (kv nI_0.symm) ln))))
theorem in_X0_X0_isFreeUpTo : ∀ w ∈ u_ws RX0 TX0 4, w ∈ wsX0_isFreeUpTo := by decide +kernel
theorem fk_X0_isFreeUpTo_24 : Cond.fieldLink RX0 24 (TX0 2).1 (TX0 2).2.1 (TX0 2).2.2.1 ∈ wsX0_isFreeUpTo := by decide +kernel
theorem fk_X0_isFreeUpTo_20 : Cond.fieldLink RX0 20 (TX0 1).1 (TX0 1).2.1 (TX0 1).2.2.1 ∈ wsX0_isFreeUpTo := by decide +kernel
theorem in_X2_X0_isFreeUpTo : ∀ w ∈ u_ws RX2 TX2 18, w ∈ wsX0_isFreeUpTo := by decide +kernel
theorem fk_X0_isFreeUpTo_65 : Cond.fieldLink RX0 65 (TX2 9).1 (TX2 9).2.1 (TX2 9).2.2.1 ∈ wsX0_isFreeUpTo := by decide +kernel
set_option maxRecDepth 100000 in
set_option maxHeartbeats 4000000 in
theorem k_X0_isFreeUpTo (l : Launch) (D : va_G) (cI cZ cT : ClassId) (a : Nat → Nat) (t g : Nat → Nat → Int32) (x : Int32) (nT : Nat) (hT : g 8 0 = nI nT) (hT4 : nT ≤ 4) : CI l D kCl (kTy cI cZ cT) yX0_isFreeUpTo wsX0_isFreeUpTo ({ frames := 1, cells := 0, slots := 0, locals := 20 }) 0 0 [.ref (a 4), .int x] (Wl cI cZ cT a t g) (S := Unit) (fun r _ => (r = 1 ∧ ∀ k, k < nT → t k 9 = 0 → ¬ m_rear (t k) ≤ x) ∨ (r = 0 ∧ ∃ k, k < nT ∧ t k 9 = 0 ∧ m_rear (t k) ≤ x)) (fun _ => (Wl cI cZ cT a t g)) := by
  refine CI_of (own := RX0) (by decide) rfl rfl (Nat.le_of_ble_eq_true rfl) rfl (fun X A hC hE => ?_)
  refine V_iconst (v := 0) hC dX0_isFreeUpTo_0 (by decide) rfl ?_
  refine V_istore_n hC dX0_isFreeUpTo_1 rfl (Nat.le_of_ble_eq_true rfl) rfl ?_
  have loop_2 : ∀ (d k : Nat), nT - k < d → k ≤ nT → (∀ j, j < k → t j 9 = 0 → ¬ m_rear (t j) ≤ x) → V X 0 0 (Wl cI cZ cT a t g) [(0, .ref (a 4)), (1, .int x), (2, .int (nI k))] 2 [] := by
    intro d
    induction d with
    | zero => intro k; intros; omega
    | succ d ih =>
      intro k h hk hno
      refine V_iload_n hC dX0_isFreeUpTo_2 rfl rfl rfl ?_
      refine V_aload_n hC dX0_isFreeUpTo_3 rfl rfl rfl ?_
      refine V_get (q0 := 4) (C := RX0) (T := TX0) (N := 4) hC dX0_isFreeUpTo_4 in_X0_X0_isFreeUpTo rfl rfl 2 (Nat.le_of_ble_eq_true rfl) fk_X0_isFreeUpTo_24 rfl rfl ?_
      refine V_icmp_ge (tgt := 43) hC dX0_isFreeUpTo_7 (by decide) rfl (fun c_7 => ?_) (fun c_7 => ?_)
      · rw [hT] at c_7
        have c1 := nI_le' c_7 (by omega) (by omega)
        obtain rfl : k = nT := by omega
        refine V_iconst (v := 1) hC dX0_isFreeUpTo_43 (by decide) rfl ?_
        exact hE _ () _ _ _ dX0_isFreeUpTo_44 rfl rfl (Or.inl ⟨rfl, hno⟩)
      · rw [hT] at c_7
        have c1 := nI_nle' c_7 (by omega) (by omega)
        have k4 : k < 4 := by omega
        refine V_aload_n hC dX0_isFreeUpTo_10 rfl rfl rfl ?_
        refine V_get (q0 := 4) (C := RX0) (T := TX0) (N := 4) hC dX0_isFreeUpTo_11 in_X0_X0_isFreeUpTo rfl rfl 1 (Nat.le_of_ble_eq_true rfl) fk_X0_isFreeUpTo_20 rfl rfl ?_
        refine V_iload_n hC dX0_isFreeUpTo_14 rfl rfl rfl ?_
        refine V_aald (q0 := 14) hC dX0_isFreeUpTo_15 rfl 2 rfl rfl k4 (by decide) (trA_at k4) rfl ?_
        refine V_get (C := RX2) (T := TX2) (N := 18) hC dX0_isFreeUpTo_16 in_X2_X0_isFreeUpTo (Wl_t k4) rfl 9 (Nat.le_of_ble_eq_true rfl) fk_X0_isFreeUpTo_65 rfl rfl ?_
        refine V_if_ne (tgt := 37) hC dX0_isFreeUpTo_19 (by decide) rfl (fun c_19 => ?_) (fun c_19 => ?_)
        · refine V_iinc hC dX0_isFreeUpTo_37 rfl (nI_1 k) (Nat.le_of_ble_eq_true rfl) rfl ?_
          refine V_goto (tgt := 2) hC dX0_isFreeUpTo_40 (by decide) ?_
          refine V_to (ih (k + 1) (by omega) (by omega) (fun j hj h9 => ?_)) (lc rfl (lc rfl (lc rfl ln)))
          rcases Nat.lt_succ_iff_lt_or_eq.mp hj with e | e
          · exact hno j e h9
          · subst e
            first
            | exact absurd h9 c_19
            | exact Int32.not_le.mpr c_32
        · refine V_aload_n hC dX0_isFreeUpTo_22 rfl rfl rfl ?_
          refine V_get (q0 := 4) (C := RX0) (T := TX0) (N := 4) hC dX0_isFreeUpTo_23 in_X0_X0_isFreeUpTo rfl rfl 1 (Nat.le_of_ble_eq_true rfl) fk_X0_isFreeUpTo_20 rfl rfl ?_
          refine V_iload_n hC dX0_isFreeUpTo_26 rfl rfl rfl ?_
          refine V_aald (q0 := 14) hC dX0_isFreeUpTo_27 rfl 2 rfl rfl k4 (by decide) (trA_at k4) rfl ?_
          refine V_callIV (n := 0) hC dX0_isFreeUpTo_28 (k_X2_rear l D cI cZ cT a _ _ _ k4) gX0_isFreeUpTo_X2_rear rfl ⟨rfl, rfl⟩ (by decide +kernel) ⟨Nat.le_of_ble_eq_true rfl, Nat.le_of_ble_eq_true rfl⟩ ⟨Nat.le_of_ble_eq_true rfl, Nat.le_of_ble_eq_true rfl⟩ (Wl_t k4) rfl rfl rfl (by exact Nat.le_of_ble_eq_true rfl) rfl (fun r_28 u_28 h_28 => ?_)
          subst h_28
          refine V_iload_n hC dX0_isFreeUpTo_31 rfl rfl rfl ?_
          refine V_icmp_gt (tgt := 37) hC dX0_isFreeUpTo_32 (by decide) rfl (fun c_32 => ?_) (fun c_32 => ?_)
          · refine V_iinc hC dX0_isFreeUpTo_37 rfl (nI_1 k) (Nat.le_of_ble_eq_true rfl) rfl ?_
            refine V_goto (tgt := 2) hC dX0_isFreeUpTo_40 (by decide) ?_
            refine V_to (ih (k + 1) (by omega) (by omega) (fun j hj h9 => ?_)) (lc rfl (lc rfl (lc rfl ln)))
            rcases Nat.lt_succ_iff_lt_or_eq.mp hj with e | e
            · exact hno j e h9
            · subst e
              first
              | exact absurd h9 c_19
              | exact Int32.not_le.mpr c_32
          · refine V_iconst (v := 0) hC dX0_isFreeUpTo_35 (by decide) rfl ?_
            exact hE _ () _ _ _ dX0_isFreeUpTo_36 rfl rfl (Or.inr ⟨rfl, k, c1, c_19, Int32.not_lt.mp c_32⟩)
  exact V_to (loop_2 _ 0 (Nat.lt_succ_self _) (by omega) (fun j hj => absurd hj (by omega))) (lc rfl (lc rfl (lc (kv nI_0.symm) ln)))
theorem in_X0_X0_aheadOf : ∀ w ∈ u_ws RX0 TX0 4, w ∈ wsX0_aheadOf := by decide +kernel
theorem fk_X0_aheadOf_20 : Cond.fieldLink RX0 20 (TX0 1).1 (TX0 1).2.1 (TX0 1).2.2.1 ∈ wsX0_aheadOf := by decide +kernel
theorem in_X2_X0_aheadOf : ∀ w ∈ u_ws RX2 TX2 18, w ∈ wsX0_aheadOf := by decide +kernel
theorem fk_X0_aheadOf_65 : Cond.fieldLink RX0 65 (TX2 9).1 (TX2 9).2.1 (TX2 9).2.2.1 ∈ wsX0_aheadOf := by decide +kernel
set_option maxRecDepth 100000 in
set_option maxHeartbeats 4000000 in
theorem k_X0_aheadOf (l : Launch) (D : va_G) (cI cZ cT : ClassId) (a : Nat → Nat) (t g : Nat → Nat → Int32) (i : Nat) (hi : i < 4) : CI l D kCl (kTy cI cZ cT) yX0_aheadOf wsX0_aheadOf ({ frames := 0, cells := 0, slots := 0, locals := 0 }) 0 0 [.ref (a 4), .int (nI i)] (Wl cI cZ cT a t g) (S := Unit) (fun r _ => r = nxI (m_ahead t i)) (fun _ => (Wl cI cZ cT a t g)) := by
  refine CI_of (own := RX0) (by decide) rfl rfl (Nat.le_of_ble_eq_true rfl) rfl (fun X A hC hE => ?_)
  refine V_iload_n hC dX0_aheadOf_0 rfl rfl rfl ?_
  refine V_iconst (v := 1) hC dX0_aheadOf_1 (by decide) rfl ?_
  refine V_isub hC dX0_aheadOf_2 rfl ?_
  refine V_istore_n hC dX0_aheadOf_3 rfl (Nat.le_of_ble_eq_true rfl) rfl ?_
  refine V_iload_n hC dX0_aheadOf_4 rfl rfl rfl ?_
  refine V_if_lt (tgt := 20) hC dX0_aheadOf_5 (by decide) rfl (fun c_5 => ?_) (fun c_5 => ?_)
  · obtain rfl := nI_i0 hi c_5
    refine V_iconst (v := (-1)) hC dX0_aheadOf_20 (by decide) rfl ?_
    refine V_goto (tgt := 25) hC dX0_aheadOf_21 (by decide) ?_
    exact hE _ () _ _ _ dX0_aheadOf_25 rfl rfl (by simp [m_ahead, nxI, nI_pred, *])
  · obtain ⟨j, rfl⟩ := nI_i1 c_5
    have j4 : j < 4 := by omega
    refine V_aload_n hC dX0_aheadOf_8 rfl rfl rfl ?_
    refine V_get (q0 := 4) (C := RX0) (T := TX0) (N := 4) hC dX0_aheadOf_9 in_X0_X0_aheadOf rfl rfl 1 (Nat.le_of_ble_eq_true rfl) fk_X0_aheadOf_20 rfl rfl ?_
    refine V_iload_n hC dX0_aheadOf_12 rfl rfl rfl ?_
    refine V_aald (q0 := 14) hC dX0_aheadOf_13 rfl 2 rfl (nI_pred j) j4 (by decide) (trA_at j4) rfl ?_
    refine V_get (C := RX2) (T := TX2) (N := 18) hC dX0_aheadOf_14 in_X2_X0_aheadOf (Wl_t j4) rfl 9 (Nat.le_of_ble_eq_true rfl) fk_X0_aheadOf_65 rfl rfl ?_
    refine V_if_eq (tgt := 24) hC dX0_aheadOf_17 (by decide) rfl (fun c_17 => ?_) (fun c_17 => ?_)
    · refine V_iload_n hC dX0_aheadOf_24 rfl rfl rfl ?_
      exact hE _ () _ _ _ dX0_aheadOf_25 rfl rfl (by simp [m_ahead, nxI, nI_pred, *])
    · refine V_iconst (v := (-1)) hC dX0_aheadOf_20 (by decide) rfl ?_
      refine V_goto (tgt := 25) hC dX0_aheadOf_21 (by decide) ?_
      exact hE _ () _ _ _ dX0_aheadOf_25 rfl rfl (by simp [m_ahead, nxI, nI_pred, *])
theorem in_X2_X0_holdOf : ∀ w ∈ u_ws RX2 TX2 18, w ∈ wsX0_holdOf := by decide +kernel
theorem fk_X0_holdOf_42 : Cond.fieldLink RX0 42 (TX2 1).1 (TX2 1).2.1 (TX2 1).2.2.1 ∈ wsX0_holdOf := by decide +kernel
theorem in_X0_X0_holdOf : ∀ w ∈ u_ws RX0 TX0 4, w ∈ wsX0_holdOf := by decide +kernel
theorem fk_X0_holdOf_12 : Cond.fieldLink RX0 12 (TX0 0).1 (TX0 0).2.1 (TX0 0).2.2.1 ∈ wsX0_holdOf := by decide +kernel
theorem in_X1_X0_holdOf : ∀ w ∈ u_ws RX1 TX1 10, w ∈ wsX0_holdOf := by decide +kernel
theorem fk_X0_holdOf_95 : Cond.fieldLink RX0 95 (TX1 1).1 (TX1 1).2.1 (TX1 1).2.2.1 ∈ wsX0_holdOf := by decide +kernel
theorem fk_X0_holdOf_48 : Cond.fieldLink RX0 48 (TX2 4).1 (TX2 4).2.1 (TX2 4).2.2.1 ∈ wsX0_holdOf := by decide +kernel
theorem iniX3_X0_holdOf : Cond.initialized RX3 ∈ wsX0_holdOf := by decide +kernel
theorem staX3_sectionAt_X0_holdOf : Cond.static yX3_sectionAt ∈ wsX0_holdOf := by decide +kernel
theorem ml102_X0_holdOf : Cond.methodLink RX0 102 Lib.Math.max.name ∈ wsX0_holdOf := by decide +kernel
theorem msmax_X0_holdOf : Cond.static Lib.Math.max.name ∈ wsX0_holdOf := by decide +kernel
theorem mi_X0_holdOf : Cond.initialized "java/lang/Math" ∈ wsX0_holdOf := by decide +kernel
theorem mcmax_X0_holdOf : Cond.code Lib.Math.max.name Lib.Math.max.code 2 (some .int) ∈ wsX0_holdOf := by decide +kernel
set_option maxRecDepth 100000 in
set_option maxHeartbeats 4000000 in
theorem k_X0_holdOf (l : Launch) (D : va_G) (cI cZ cT : ClassId) (a : Nat → Nat) (t g : Nat → Nat → Int32) (i : Nat) (hi : i < 4) : CI l D kCl (kTy cI cZ cT) yX0_holdOf wsX0_holdOf ({ frames := 1, cells := 0, slots := 0, locals := 20 }) 0 0 [.ref (a 4), .ref (a i)] (Wl cI cZ cT a t g) (S := Unit) (fun r _ => r = m_hold (g 1) (t i)) (fun _ => (Wl cI cZ cT a t g)) := by
  refine CI_of (own := RX0) (by decide) rfl rfl (Nat.le_of_ble_eq_true rfl) rfl (fun X A hC hE => ?_)
  refine V_iconst (v := 1) hC dX0_holdOf_0 (by decide) rfl ?_
  refine V_aload_n hC dX0_holdOf_1 rfl rfl rfl ?_
  refine V_get (C := RX2) (T := TX2) (N := 18) hC dX0_holdOf_2 in_X2_X0_holdOf (Wl_t hi) rfl 1 (Nat.le_of_ble_eq_true rfl) fk_X0_holdOf_42 rfl rfl ?_
  refine V_aload_n hC dX0_holdOf_5 rfl rfl rfl ?_
  refine V_get (q0 := 4) (C := RX0) (T := TX0) (N := 4) hC dX0_holdOf_6 in_X0_X0_holdOf rfl rfl 0 (Nat.le_of_ble_eq_true rfl) fk_X0_holdOf_12 rfl rfl ?_
  refine V_get (q0 := 5) (C := RX1) (T := TX1) (N := 10) hC dX0_holdOf_9 in_X1_X0_holdOf rfl rfl 1 (Nat.le_of_ble_eq_true rfl) fk_X0_holdOf_95 rfl rfl ?_
  refine V_aload_n hC dX0_holdOf_12 rfl rfl rfl ?_
  refine V_get (C := RX2) (T := TX2) (N := 18) hC dX0_holdOf_13 in_X2_X0_holdOf (Wl_t hi) rfl 4 (Nat.le_of_ble_eq_true rfl) fk_X0_holdOf_48 rfl rfl ?_
  refine V_callIN0 (n := 1) (host := RX3) hC dX0_holdOf_16 (k_X3_sectionAt l D cI cZ cT _) gX0_holdOf_X3_sectionAt_n99 (by decide +kernel) iniX3_X0_holdOf staX3_sectionAt_X0_holdOf rfl ⟨rfl, rfl⟩ (by decide +kernel) ⟨Nat.le_of_ble_eq_true rfl, Nat.le_of_ble_eq_true rfl⟩ ⟨Nat.le_of_ble_eq_true rfl, Nat.le_of_ble_eq_true rfl⟩ rfl rfl (by exact Nat.le_of_ble_eq_true rfl) rfl (fun r_16 u_16 h_16 => ?_)
  subst h_16
  refine V_iald (q0 := 7) hC dX0_holdOf_19 rfl 0 rfl (sec_N _).1 (sec_N _).2 (by decide) rfl ?_
  refine V_iadd hC dX0_holdOf_20 rfl ?_
  refine V_mmax hC dX0_holdOf_21 ml102_X0_holdOf msmax_X0_holdOf mi_X0_holdOf mcmax_X0_holdOf (Nat.le_of_ble_eq_true rfl) (Nat.le_of_ble_eq_true rfl) (Nat.le_of_ble_eq_true rfl) (Nat.le_of_ble_eq_true rfl) rfl ?_
  exact hE _ () _ _ _ dX0_holdOf_24 rfl rfl (by first | rfl | (simp [*]; done))
theorem in_X0_X0_isFresh : ∀ w ∈ u_ws RX0 TX0 4, w ∈ wsX0_isFresh := by decide +kernel
theorem fk_X0_isFresh_28 : Cond.fieldLink RX0 28 (TX0 3).1 (TX0 3).2.1 (TX0 3).2.2.1 ∈ wsX0_isFresh := by decide +kernel
theorem in_X2_X0_isFresh : ∀ w ∈ u_ws RX2 TX2 18, w ∈ wsX0_isFresh := by decide +kernel
theorem fk_X0_isFresh_127 : Cond.fieldLink RX0 127 (TX2 13).1 (TX2 13).2.1 (TX2 13).2.2.1 ∈ wsX0_isFresh := by decide +kernel
set_option maxRecDepth 100000 in
set_option maxHeartbeats 4000000 in
theorem k_X0_isFresh (l : Launch) (D : va_G) (cI cZ cT : ClassId) (a : Nat → Nat) (t g : Nat → Nat → Int32) (i : Nat) (hi : i < 4) : CI l D kCl (kTy cI cZ cT) yX0_isFresh wsX0_isFresh ({ frames := 0, cells := 0, slots := 0, locals := 0 }) 0 0 [.ref (a 4), .ref (a i)] (Wl cI cZ cT a t g) (S := Unit) (fun r _ => r = m_fresh (g 8 1) (t i)) (fun _ => (Wl cI cZ cT a t g)) := by
  refine CI_of (own := RX0) (by decide) rfl rfl (Nat.le_of_ble_eq_true rfl) rfl (fun X A hC hE => ?_)
  refine V_aload_n hC dX0_isFresh_0 rfl rfl rfl ?_
  refine V_get (q0 := 4) (C := RX0) (T := TX0) (N := 4) hC dX0_isFresh_1 in_X0_X0_isFresh rfl rfl 3 (Nat.le_of_ble_eq_true rfl) fk_X0_isFresh_28 rfl rfl ?_
  refine V_aload_n hC dX0_isFresh_4 rfl rfl rfl ?_
  refine V_get (C := RX2) (T := TX2) (N := 18) hC dX0_isFresh_5 in_X2_X0_isFresh (Wl_t hi) rfl 13 (Nat.le_of_ble_eq_true rfl) fk_X0_isFresh_127 rfl rfl ?_
  refine V_isub hC dX0_isFresh_8 rfl ?_
  refine V_iconst (v := 3) hC dX0_isFresh_9 (by decide) rfl ?_
  refine V_icmp_gt (tgt := 17) hC dX0_isFresh_10 (by decide) rfl (fun c_10 => ?_) (fun c_10 => ?_)
  · refine V_iconst (v := 0) hC dX0_isFresh_17 (by decide) rfl ?_
    exact hE _ () _ _ _ dX0_isFresh_18 rfl rfl (by simp [m_fresh, *])
  · refine V_iconst (v := 1) hC dX0_isFresh_13 (by decide) rfl ?_
    refine V_goto (tgt := 18) hC dX0_isFresh_14 (by decide) ?_
    exact hE _ () _ _ _ dX0_isFresh_18 rfl rfl (by simp [m_fresh, *])
theorem in_X2_X0_boundByEnd : ∀ w ∈ u_ws RX2 TX2 18, w ∈ wsX0_boundByEnd := by decide +kernel
theorem fk_X0_boundByEnd_39 : Cond.fieldLink RX0 39 (TX2 0).1 (TX2 0).2.1 (TX2 0).2.2.1 ∈ wsX0_boundByEnd := by decide +kernel
set_option maxRecDepth 100000 in
set_option maxHeartbeats 4000000 in
theorem k_X0_boundByEnd (l : Launch) (D : va_G) (cI cZ cT : ClassId) (a : Nat → Nat) (t g : Nat → Nat → Int32) (i : Nat) (hi : i < 4) : CI l D kCl (kTy cI cZ cT) yX0_boundByEnd wsX0_boundByEnd ({ frames := 0, cells := 0, slots := 0, locals := 0 }) 0 0 [.ref (a 4), .ref (a i)] (Wl cI cZ cT a t g) (S := Unit) (fun r _ => r = 2999 + t i 0) (fun _ => (Wl cI cZ cT a t g)) := by
  refine CI_of (own := RX0) (by decide) rfl rfl (Nat.le_of_ble_eq_true rfl) rfl (fun X A hC hE => ?_)
  refine V_sipush (v := 2999) hC dX0_boundByEnd_0 (by decide) rfl ?_
  refine V_aload_n hC dX0_boundByEnd_3 rfl rfl rfl ?_
  refine V_get (C := RX2) (T := TX2) (N := 18) hC dX0_boundByEnd_4 in_X2_X0_boundByEnd (Wl_t hi) rfl 0 (Nat.le_of_ble_eq_true rfl) fk_X0_boundByEnd_39 rfl rfl ?_
  refine V_iadd hC dX0_boundByEnd_7 rfl ?_
  exact hE _ () _ _ _ dX0_boundByEnd_8 rfl rfl (by first | rfl | (simp [*]; done))
theorem in_X0_X0_hasRadio : ∀ w ∈ u_ws RX0 TX0 4, w ∈ wsX0_hasRadio := by decide +kernel
theorem fk_X0_hasRadio_12 : Cond.fieldLink RX0 12 (TX0 0).1 (TX0 0).2.1 (TX0 0).2.2.1 ∈ wsX0_hasRadio := by decide +kernel
theorem in_X1_X0_hasRadio : ∀ w ∈ u_ws RX1 TX1 10, w ∈ wsX0_hasRadio := by decide +kernel
theorem fk_X0_hasRadio_174 : Cond.fieldLink RX0 174 (TX1 2).1 (TX1 2).2.1 (TX1 2).2.2.1 ∈ wsX0_hasRadio := by decide +kernel
theorem in_X2_X0_hasRadio : ∀ w ∈ u_ws RX2 TX2 18, w ∈ wsX0_hasRadio := by decide +kernel
theorem fk_X0_hasRadio_48 : Cond.fieldLink RX0 48 (TX2 4).1 (TX2 4).2.1 (TX2 4).2.2.1 ∈ wsX0_hasRadio := by decide +kernel
theorem iniX3_X0_hasRadio : Cond.initialized RX3 ∈ wsX0_hasRadio := by decide +kernel
theorem staX3_sectionAt_X0_hasRadio : Cond.static yX3_sectionAt ∈ wsX0_hasRadio := by decide +kernel
set_option maxRecDepth 100000 in
set_option maxHeartbeats 4000000 in
theorem k_X0_hasRadio (l : Launch) (D : va_G) (cI cZ cT : ClassId) (a : Nat → Nat) (t g : Nat → Nat → Int32) (i : Nat) (hi : i < 4) (hz : ∀ c, c < 20 → g 2 c = 0 ∨ g 2 c = 1) : CI l D kCl (kTy cI cZ cT) yX0_hasRadio wsX0_hasRadio ({ frames := 1, cells := 0, slots := 0, locals := 20 }) 0 0 [.ref (a 4), .ref (a i)] (Wl cI cZ cT a t g) (S := Unit) (fun r _ => r = m_radio g (t i)) (fun _ => (Wl cI cZ cT a t g)) := by
  refine CI_of (own := RX0) (by decide) rfl rfl (Nat.le_of_ble_eq_true rfl) rfl (fun X A hC hE => ?_)
  refine V_aload_n hC dX0_hasRadio_0 rfl rfl rfl ?_
  refine V_get (q0 := 4) (C := RX0) (T := TX0) (N := 4) hC dX0_hasRadio_1 in_X0_X0_hasRadio rfl rfl 0 (Nat.le_of_ble_eq_true rfl) fk_X0_hasRadio_12 rfl rfl ?_
  refine V_get (q0 := 5) (C := RX1) (T := TX1) (N := 10) hC dX0_hasRadio_4 in_X1_X0_hasRadio rfl rfl 2 (Nat.le_of_ble_eq_true rfl) fk_X0_hasRadio_174 rfl rfl ?_
  refine V_aload_n hC dX0_hasRadio_7 rfl rfl rfl ?_
  refine V_get (C := RX2) (T := TX2) (N := 18) hC dX0_hasRadio_8 in_X2_X0_hasRadio (Wl_t hi) rfl 4 (Nat.le_of_ble_eq_true rfl) fk_X0_hasRadio_48 rfl rfl ?_
  refine V_callIN0 (n := 1) (host := RX3) hC dX0_hasRadio_11 (k_X3_sectionAt l D cI cZ cT _) gX0_hasRadio_X3_sectionAt_n99 (by decide +kernel) iniX3_X0_hasRadio staX3_sectionAt_X0_hasRadio rfl ⟨rfl, rfl⟩ (by decide +kernel) ⟨Nat.le_of_ble_eq_true rfl, Nat.le_of_ble_eq_true rfl⟩ ⟨Nat.le_of_ble_eq_true rfl, Nat.le_of_ble_eq_true rfl⟩ rfl rfl (by exact Nat.le_of_ble_eq_true rfl) rfl (fun r_11 u_11 h_11 => ?_)
  subst h_11
  refine V_zald (q0 := 8) hC dX0_hasRadio_14 rfl 1 rfl (sec_N _).1 (sec_N _).2 (by decide) rfl ?_
  exact hE _ () _ _ _ dX0_hasRadio_15 (by rcases hz _ (sec_N (t i 4)).2 with e | e <;> rw [e] <;> rfl) rfl (by first | rfl | (simp [*]; done))
theorem in_X0_X0_boundByAhead : ∀ w ∈ u_ws RX0 TX0 4, w ∈ wsX0_boundByAhead := by decide +kernel
theorem fk_X0_boundByAhead_20 : Cond.fieldLink RX0 20 (TX0 1).1 (TX0 1).2.1 (TX0 1).2.2.1 ∈ wsX0_boundByAhead := by decide +kernel
theorem in_X2_X0_boundByAhead : ∀ w ∈ u_ws RX2 TX2 18, w ∈ wsX0_boundByAhead := by decide +kernel
theorem fk_X0_boundByAhead_134 : Cond.fieldLink RX0 134 (TX2 12).1 (TX2 12).2.1 (TX2 12).2.2.1 ∈ wsX0_boundByAhead := by decide +kernel
theorem iniX3_X0_boundByAhead : Cond.initialized RX3 ∈ wsX0_boundByAhead := by decide +kernel
theorem staX3_sectionAt_X0_boundByAhead : Cond.static yX3_sectionAt ∈ wsX0_boundByAhead := by decide +kernel
theorem staX3_firstMetreOf_X0_boundByAhead : Cond.static yX3_firstMetreOf ∈ wsX0_boundByAhead := by decide +kernel
theorem k133_X0_boundByAhead : Cond.constant RX0 133 1000000 ∈ wsX0_boundByAhead := by decide +kernel
set_option maxRecDepth 100000 in
set_option maxHeartbeats 4000000 in
theorem k_X0_boundByAhead (l : Launch) (D : va_G) (cI cZ cT : ClassId) (a : Nat → Nat) (t g : Nat → Nat → Int32) (i : Nat) (hi : i < 4) : CI l D kCl (kTy cI cZ cT) yX0_boundByAhead wsX0_boundByAhead ({ frames := 1, cells := 0, slots := 0, locals := 22 }) 0 0 [.ref (a 4), .int (nI i)] (Wl cI cZ cT a t g) (S := Unit) (fun r _ => r = m_ba g t i) (fun _ => (Wl cI cZ cT a t g)) := by
  refine CI_of (own := RX0) (by decide) rfl rfl (Nat.le_of_ble_eq_true rfl) rfl (fun X A hC hE => ?_)
  refine V_aload_n hC dX0_boundByAhead_0 rfl rfl rfl ?_
  refine V_iload_n hC dX0_boundByAhead_1 rfl rfl rfl ?_
  refine V_callIV (q0 := 4) (n := 1) hC dX0_boundByAhead_2 (k_X0_aheadOf l D cI cZ cT a _ _ _ hi) gX0_boundByAhead_X0_aheadOf rfl ⟨rfl, rfl⟩ (by decide +kernel) ⟨Nat.le_of_ble_eq_true rfl, Nat.le_of_ble_eq_true rfl⟩ ⟨Nat.le_of_ble_eq_true rfl, Nat.le_of_ble_eq_true rfl⟩ rfl rfl rfl rfl (by exact Nat.le_of_ble_eq_true rfl) rfl (fun r_2 u_2 h_2 => ?_)
  subst h_2
  refine V_istore_n hC dX0_boundByAhead_5 rfl (Nat.le_of_ble_eq_true rfl) rfl ?_
  refine V_iload_n hC dX0_boundByAhead_6 rfl rfl rfl ?_
  refine V_iconst (v := (-1)) hC dX0_boundByAhead_7 (by decide) rfl ?_
  refine V_icmp_ne (tgt := 14) hC dX0_boundByAhead_8 (by decide) rfl (fun c_8 => ?_) (fun c_8 => ?_)
  · have h1 := nxI_some c_8
    obtain ⟨j, hj, hj2⟩ := h1
    have hj3 := m_ahead_lt hj
    have j4 : j < 4 := by omega
    refine V_aload_n hC dX0_boundByAhead_14 rfl rfl rfl ?_
    refine V_get (q0 := 4) (C := RX0) (T := TX0) (N := 4) hC dX0_boundByAhead_15 in_X0_X0_boundByAhead rfl rfl 1 (Nat.le_of_ble_eq_true rfl) fk_X0_boundByAhead_20 rfl rfl ?_
    refine V_iload_n hC dX0_boundByAhead_18 rfl rfl rfl ?_
    refine V_aald (q0 := 14) hC dX0_boundByAhead_19 rfl 2 rfl hj2 j4 (by decide) (trA_at j4) rfl ?_
    refine V_get (C := RX2) (T := TX2) (N := 18) hC dX0_boundByAhead_20 in_X2_X0_boundByAhead (Wl_t j4) rfl 12 (Nat.le_of_ble_eq_true rfl) fk_X0_boundByAhead_134 rfl rfl ?_
    refine V_istore_n hC dX0_boundByAhead_23 rfl (Nat.le_of_ble_eq_true rfl) rfl ?_
    refine V_aload_n hC dX0_boundByAhead_24 rfl rfl rfl ?_
    refine V_aload_n hC dX0_boundByAhead_25 rfl rfl rfl ?_
    refine V_get (q0 := 4) (C := RX0) (T := TX0) (N := 4) hC dX0_boundByAhead_26 in_X0_X0_boundByAhead rfl rfl 1 (Nat.le_of_ble_eq_true rfl) fk_X0_boundByAhead_20 rfl rfl ?_
    refine V_iload_n hC dX0_boundByAhead_29 rfl rfl rfl ?_
    refine V_aald (q0 := 14) hC dX0_boundByAhead_30 rfl 2 rfl hj2 j4 (by decide) (trA_at j4) rfl ?_
    refine V_callIV (q0 := 4) (n := 1) hC dX0_boundByAhead_31 (k_X0_isFresh l D cI cZ cT a _ _ _ j4) gX0_boundByAhead_X0_isFresh rfl ⟨rfl, rfl⟩ (by decide +kernel) ⟨Nat.le_of_ble_eq_true rfl, Nat.le_of_ble_eq_true rfl⟩ ⟨Nat.le_of_ble_eq_true rfl, Nat.le_of_ble_eq_true rfl⟩ rfl rfl rfl rfl (by exact Nat.le_of_ble_eq_true rfl) rfl (fun r_31 u_31 h_31 => ?_)
    subst h_31
    refine V_if_eq (tgt := 44) hC dX0_boundByAhead_34 (by decide) rfl (fun c_34 => ?_) (fun c_34 => ?_)
    · refine V_iload_n hC dX0_boundByAhead_44 rfl rfl rfl ?_
      refine V_callIN0 (n := 1) (host := RX3) hC dX0_boundByAhead_45 (k_X3_sectionAt l D cI cZ cT _) gX0_boundByAhead_X3_sectionAt_n99 (by decide +kernel) iniX3_X0_boundByAhead staX3_sectionAt_X0_boundByAhead rfl ⟨rfl, rfl⟩ (by decide +kernel) ⟨Nat.le_of_ble_eq_true rfl, Nat.le_of_ble_eq_true rfl⟩ ⟨Nat.le_of_ble_eq_true rfl, Nat.le_of_ble_eq_true rfl⟩ rfl rfl (by exact Nat.le_of_ble_eq_true rfl) rfl (fun r_45 u_45 h_45 => ?_)
      subst h_45
      refine V_callIN0 (n := 1) (host := RX3) hC dX0_boundByAhead_48 (k_X3_firstMetreOf l D cI cZ cT _) gX0_boundByAhead_X3_firstMetreOf_n141 (by decide +kernel) iniX3_X0_boundByAhead staX3_firstMetreOf_X0_boundByAhead rfl ⟨rfl, rfl⟩ (by decide +kernel) ⟨Nat.le_of_ble_eq_true rfl, Nat.le_of_ble_eq_true rfl⟩ ⟨Nat.le_of_ble_eq_true rfl, Nat.le_of_ble_eq_true rfl⟩ rfl rfl (by exact Nat.le_of_ble_eq_true rfl) rfl (fun r_48 u_48 h_48 => ?_)
      subst h_48
      refine V_iconst (v := 1) hC dX0_boundByAhead_51 (by decide) rfl ?_
      refine V_isub hC dX0_boundByAhead_52 rfl ?_
      exact hE _ () _ _ _ dX0_boundByAhead_53 rfl rfl (by simp [m_ba, hj, c_34])
    · refine V_iload_n hC dX0_boundByAhead_37 rfl rfl rfl ?_
      refine V_bipush (v := 10) hC dX0_boundByAhead_38 (by decide) rfl ?_
      refine V_isub hC dX0_boundByAhead_40 rfl ?_
      refine V_goto (tgt := 53) hC dX0_boundByAhead_41 (by decide) ?_
      exact hE _ () _ _ _ dX0_boundByAhead_53 rfl rfl (by simp [m_ba, hj, c_34])
  · have hj := nxI_nn (fun j q => by have := m_ahead_lt q; omega) c_8
    refine V_ldc (v := 1000000) hC dX0_boundByAhead_11 k133_X0_boundByAhead rfl ?_
    exact hE _ () _ _ _ dX0_boundByAhead_13 rfl rfl (by simp [m_ba, hj])
theorem in_X0_X0_leastBound : ∀ w ∈ u_ws RX0 TX0 4, w ∈ wsX0_leastBound := by decide +kernel
theorem fk_X0_leastBound_20 : Cond.fieldLink RX0 20 (TX0 1).1 (TX0 1).2.1 (TX0 1).2.2.1 ∈ wsX0_leastBound := by decide +kernel
theorem ml114_X0_leastBound : Cond.methodLink RX0 114 Lib.Math.min.name ∈ wsX0_leastBound := by decide +kernel
theorem msmin_X0_leastBound : Cond.static Lib.Math.min.name ∈ wsX0_leastBound := by decide +kernel
theorem mi_X0_leastBound : Cond.initialized "java/lang/Math" ∈ wsX0_leastBound := by decide +kernel
theorem mcmin_X0_leastBound : Cond.code Lib.Math.min.name Lib.Math.min.code 2 (some .int) ∈ wsX0_leastBound := by decide +kernel
theorem fk_X0_leastBound_12 : Cond.fieldLink RX0 12 (TX0 0).1 (TX0 0).2.1 (TX0 0).2.2.1 ∈ wsX0_leastBound := by decide +kernel
theorem in_X2_X0_leastBound : ∀ w ∈ u_ws RX2 TX2 18, w ∈ wsX0_leastBound := by decide +kernel
theorem fk_X0_leastBound_48 : Cond.fieldLink RX0 48 (TX2 4).1 (TX2 4).2.1 (TX2 4).2.2.1 ∈ wsX0_leastBound := by decide +kernel
set_option maxRecDepth 100000 in
set_option maxHeartbeats 4000000 in
theorem k_X0_leastBound (l : Launch) (D : va_G) (cI cZ cT : ClassId) (a : Nat → Nat) (t g : Nat → Nat → Int32) (i : Nat) (hi : i < 4) (nW : Nat) (hW : g 8 3 = nI nW) (hW3 : nW ≤ 3) : CI l D kCl (kTy cI cZ cT) yX0_leastBound wsX0_leastBound ({ frames := 2, cells := 0, slots := 0, locals := 45 }) 0 0 [.ref (a 4), .int (nI i)] (Wl cI cZ cT a t g) (S := Unit) (fun r _ => r = m_bound g t i nW) (fun _ => (Wl cI cZ cT a t g)) := by
  refine CI_of (own := RX0) (by decide) rfl rfl (Nat.le_of_ble_eq_true rfl) rfl (fun X A hC hE => ?_)
  refine V_aload_n hC dX0_leastBound_0 rfl rfl rfl ?_
  refine V_aload_n hC dX0_leastBound_1 rfl rfl rfl ?_
  refine V_get (q0 := 4) (C := RX0) (T := TX0) (N := 4) hC dX0_leastBound_2 in_X0_X0_leastBound rfl rfl 1 (Nat.le_of_ble_eq_true rfl) fk_X0_leastBound_20 rfl rfl ?_
  refine V_iload_n hC dX0_leastBound_5 rfl rfl rfl ?_
  refine V_aald (q0 := 14) hC dX0_leastBound_6 rfl 2 rfl rfl hi (by decide) (trA_at hi) rfl ?_
  refine V_callIV (q0 := 4) (n := 1) hC dX0_leastBound_7 (k_X0_boundByEnd l D cI cZ cT a _ _ _ hi) gX0_leastBound_X0_boundByEnd rfl ⟨rfl, rfl⟩ (by decide +kernel) ⟨Nat.le_of_ble_eq_true rfl, Nat.le_of_ble_eq_true rfl⟩ ⟨Nat.le_of_ble_eq_true rfl, Nat.le_of_ble_eq_true rfl⟩ rfl rfl rfl rfl (by exact Nat.le_of_ble_eq_true rfl) rfl (fun r_7 u_7 h_7 => ?_)
  subst h_7
  refine V_aload_n hC dX0_leastBound_10 rfl rfl rfl ?_
  refine V_iload_n hC dX0_leastBound_11 rfl rfl rfl ?_
  refine V_callIV (q0 := 4) (n := 1) hC dX0_leastBound_12 (k_X0_boundByAhead l D cI cZ cT a _ _ _ hi) gX0_leastBound_X0_boundByAhead rfl ⟨rfl, rfl⟩ (by decide +kernel) ⟨Nat.le_of_ble_eq_true rfl, Nat.le_of_ble_eq_true rfl⟩ ⟨Nat.le_of_ble_eq_true rfl, Nat.le_of_ble_eq_true rfl⟩ rfl rfl rfl rfl (by exact Nat.le_of_ble_eq_true rfl) rfl (fun r_12 u_12 h_12 => ?_)
  subst h_12
  refine V_mmin hC dX0_leastBound_15 ml114_X0_leastBound msmin_X0_leastBound mi_X0_leastBound mcmin_X0_leastBound (Nat.le_of_ble_eq_true rfl) (Nat.le_of_ble_eq_true rfl) (Nat.le_of_ble_eq_true rfl) (Nat.le_of_ble_eq_true rfl) rfl ?_
  refine V_istore_n hC dX0_leastBound_18 rfl (Nat.le_of_ble_eq_true rfl) rfl ?_
  refine V_iload_n hC dX0_leastBound_19 rfl rfl rfl ?_
  refine V_aload_n hC dX0_leastBound_20 rfl rfl rfl ?_
  refine V_get (q0 := 4) (C := RX0) (T := TX0) (N := 4) hC dX0_leastBound_21 in_X0_X0_leastBound rfl rfl 0 (Nat.le_of_ble_eq_true rfl) fk_X0_leastBound_12 rfl rfl ?_
  refine V_aload_n hC dX0_leastBound_24 rfl rfl rfl ?_
  refine V_get (q0 := 4) (C := RX0) (T := TX0) (N := 4) hC dX0_leastBound_25 in_X0_X0_leastBound rfl rfl 1 (Nat.le_of_ble_eq_true rfl) fk_X0_leastBound_20 rfl rfl ?_
  refine V_iload_n hC dX0_leastBound_28 rfl rfl rfl ?_
  refine V_aald (q0 := 14) hC dX0_leastBound_29 rfl 2 rfl rfl hi (by decide) (trA_at hi) rfl ?_
  refine V_get (C := RX2) (T := TX2) (N := 18) hC dX0_leastBound_30 in_X2_X0_leastBound (Wl_t hi) rfl 4 (Nat.le_of_ble_eq_true rfl) fk_X0_leastBound_48 rfl rfl ?_
  refine V_callIV (q0 := 5) (n := 1) hC dX0_leastBound_33 (k_X1_boundByWorks l D cI cZ cT a _ _ _ _ hW hW3) gX0_leastBound_X1_boundByWorks rfl ⟨rfl, rfl⟩ (by decide +kernel) ⟨Nat.le_of_ble_eq_true rfl, Nat.le_of_ble_eq_true rfl⟩ ⟨Nat.le_of_ble_eq_true rfl, Nat.le_of_ble_eq_true rfl⟩ rfl rfl rfl rfl (by exact Nat.le_of_ble_eq_true rfl) rfl (fun r_33 u_33 h_33 => ?_)
  subst h_33
  refine V_mmin hC dX0_leastBound_36 ml114_X0_leastBound msmin_X0_leastBound mi_X0_leastBound mcmin_X0_leastBound (Nat.le_of_ble_eq_true rfl) (Nat.le_of_ble_eq_true rfl) (Nat.le_of_ble_eq_true rfl) (Nat.le_of_ble_eq_true rfl) rfl ?_
  exact hE _ () _ _ _ dX0_leastBound_39 rfl rfl (by first | rfl | (simp [*]; done))
theorem in_X0_X0_reasonOf : ∀ w ∈ u_ws RX0 TX0 4, w ∈ wsX0_reasonOf := by decide +kernel
theorem fk_X0_reasonOf_20 : Cond.fieldLink RX0 20 (TX0 1).1 (TX0 1).2.1 (TX0 1).2.2.1 ∈ wsX0_reasonOf := by decide +kernel
theorem in_X2_X0_reasonOf : ∀ w ∈ u_ws RX2 TX2 18, w ∈ wsX0_reasonOf := by decide +kernel
theorem fk_X0_reasonOf_48 : Cond.fieldLink RX0 48 (TX2 4).1 (TX2 4).2.1 (TX2 4).2.2.1 ∈ wsX0_reasonOf := by decide +kernel
set_option maxRecDepth 100000 in
set_option maxHeartbeats 4000000 in
theorem k_X0_reasonOf (l : Launch) (D : va_G) (cI cZ cT : ClassId) (a : Nat → Nat) (t g : Nat → Nat → Int32) (i : Nat) (hi : i < 4) (nW : Nat) (hW : g 8 3 = nI nW) (hW3 : nW ≤ 3) : CI l D kCl (kTy cI cZ cT) yX0_reasonOf wsX0_reasonOf ({ frames := 3, cells := 0, slots := 0, locals := 67 }) 0 0 [.ref (a 4), .int (nI i)] (Wl cI cZ cT a t g) (S := Unit) (fun r _ => r = m_why g t i nW) (fun _ => (Wl cI cZ cT a t g)) := by
  refine CI_of (own := RX0) (by decide) rfl rfl (Nat.le_of_ble_eq_true rfl) rfl (fun X A hC hE => ?_)
  refine V_aload_n hC dX0_reasonOf_0 rfl rfl rfl ?_
  refine V_iload_n hC dX0_reasonOf_1 rfl rfl rfl ?_
  refine V_callIV (q0 := 4) (n := 1) hC dX0_reasonOf_2 (k_X0_leastBound l D cI cZ cT a _ _ _ hi _ hW hW3) gX0_reasonOf_X0_leastBound rfl ⟨rfl, rfl⟩ (by decide +kernel) ⟨Nat.le_of_ble_eq_true rfl, Nat.le_of_ble_eq_true rfl⟩ ⟨Nat.le_of_ble_eq_true rfl, Nat.le_of_ble_eq_true rfl⟩ rfl rfl rfl rfl (by exact Nat.le_of_ble_eq_true rfl) rfl (fun r_2 u_2 h_2 => ?_)
  subst h_2
  refine V_istore_n hC dX0_reasonOf_5 rfl (Nat.le_of_ble_eq_true rfl) rfl ?_
  refine V_iload_n hC dX0_reasonOf_6 rfl rfl rfl ?_
  refine V_aload_n hC dX0_reasonOf_7 rfl rfl rfl ?_
  refine V_get (q0 := 4) (C := RX0) (T := TX0) (N := 4) hC dX0_reasonOf_8 in_X0_X0_reasonOf rfl rfl 1 (Nat.le_of_ble_eq_true rfl) fk_X0_reasonOf_20 rfl rfl ?_
  refine V_iload_n hC dX0_reasonOf_11 rfl rfl rfl ?_
  refine V_aald (q0 := 14) hC dX0_reasonOf_12 rfl 2 rfl rfl hi (by decide) (trA_at hi) rfl ?_
  refine V_get (C := RX2) (T := TX2) (N := 18) hC dX0_reasonOf_13 in_X2_X0_reasonOf (Wl_t hi) rfl 4 (Nat.le_of_ble_eq_true rfl) fk_X0_reasonOf_48 rfl rfl ?_
  refine V_icmp_ge (tgt := 21) hC dX0_reasonOf_16 (by decide) rfl (fun c_16 => ?_) (fun c_16 => ?_)
  · refine V_iload_n hC dX0_reasonOf_21 rfl rfl rfl ?_
    refine V_aload_n hC dX0_reasonOf_22 rfl rfl rfl ?_
    refine V_aload_n hC dX0_reasonOf_23 rfl rfl rfl ?_
    refine V_get (q0 := 4) (C := RX0) (T := TX0) (N := 4) hC dX0_reasonOf_24 in_X0_X0_reasonOf rfl rfl 1 (Nat.le_of_ble_eq_true rfl) fk_X0_reasonOf_20 rfl rfl ?_
    refine V_iload_n hC dX0_reasonOf_27 rfl rfl rfl ?_
    refine V_aald (q0 := 14) hC dX0_reasonOf_28 rfl 2 rfl rfl hi (by decide) (trA_at hi) rfl ?_
    refine V_callIV (q0 := 4) (n := 1) hC dX0_reasonOf_29 (k_X0_boundByEnd l D cI cZ cT a _ _ _ hi) gX0_reasonOf_X0_boundByEnd rfl ⟨rfl, rfl⟩ (by decide +kernel) ⟨Nat.le_of_ble_eq_true rfl, Nat.le_of_ble_eq_true rfl⟩ ⟨Nat.le_of_ble_eq_true rfl, Nat.le_of_ble_eq_true rfl⟩ rfl rfl rfl rfl (by exact Nat.le_of_ble_eq_true rfl) rfl (fun r_29 u_29 h_29 => ?_)
    subst h_29
    refine V_icmp_ne (tgt := 37) hC dX0_reasonOf_32 (by decide) rfl (fun c_32 => ?_) (fun c_32 => ?_)
    · refine V_aload_n hC dX0_reasonOf_37 rfl rfl rfl ?_
      refine V_iload_n hC dX0_reasonOf_38 rfl rfl rfl ?_
      refine V_callIV (q0 := 4) (n := 1) hC dX0_reasonOf_39 (k_X0_aheadOf l D cI cZ cT a _ _ _ hi) gX0_reasonOf_X0_aheadOf rfl ⟨rfl, rfl⟩ (by decide +kernel) ⟨Nat.le_of_ble_eq_true rfl, Nat.le_of_ble_eq_true rfl⟩ ⟨Nat.le_of_ble_eq_true rfl, Nat.le_of_ble_eq_true rfl⟩ rfl rfl rfl rfl (by exact Nat.le_of_ble_eq_true rfl) rfl (fun r_39 u_39 h_39 => ?_)
      subst h_39
      refine V_istore_n hC dX0_reasonOf_42 rfl (Nat.le_of_ble_eq_true rfl) rfl ?_
      refine V_iload_n hC dX0_reasonOf_43 rfl rfl rfl ?_
      refine V_iconst (v := (-1)) hC dX0_reasonOf_44 (by decide) rfl ?_
      refine V_icmp_eq (tgt := 76) hC dX0_reasonOf_45 (by decide) rfl (fun c_45 => ?_) (fun c_45 => ?_)
      · have hj := nxI_nn (fun j q => by have := m_ahead_lt q; omega) c_45
        refine V_iconst (v := 3) hC dX0_reasonOf_76 (by decide) rfl ?_
        exact hE _ () _ _ _ dX0_reasonOf_77 rfl rfl (by rw [m_why, if_neg (fun z => z c_16), if_neg c_32, hj]; first | done | rfl | exact (if_neg c_54).symm)
      · have h1 := nxI_some c_45
        obtain ⟨j, hj, hj2⟩ := h1
        have hj3 := m_ahead_lt hj
        have j4 : j < 4 := by omega
        refine V_iload_n hC dX0_reasonOf_48 rfl rfl rfl ?_
        refine V_aload_n hC dX0_reasonOf_49 rfl rfl rfl ?_
        refine V_iload_n hC dX0_reasonOf_50 rfl rfl rfl ?_
        refine V_callIV (q0 := 4) (n := 1) hC dX0_reasonOf_51 (k_X0_boundByAhead l D cI cZ cT a _ _ _ hi) gX0_reasonOf_X0_boundByAhead rfl ⟨rfl, rfl⟩ (by decide +kernel) ⟨Nat.le_of_ble_eq_true rfl, Nat.le_of_ble_eq_true rfl⟩ ⟨Nat.le_of_ble_eq_true rfl, Nat.le_of_ble_eq_true rfl⟩ rfl rfl rfl rfl (by exact Nat.le_of_ble_eq_true rfl) rfl (fun r_51 u_51 h_51 => ?_)
        subst h_51
        refine V_icmp_ne (tgt := 76) hC dX0_reasonOf_54 (by decide) rfl (fun c_54 => ?_) (fun c_54 => ?_)
        · refine V_iconst (v := 3) hC dX0_reasonOf_76 (by decide) rfl ?_
          exact hE _ () _ _ _ dX0_reasonOf_77 rfl rfl (by rw [m_why, if_neg (fun z => z c_16), if_neg c_32, hj]; first | done | rfl | exact (if_neg c_54).symm)
        · refine V_aload_n hC dX0_reasonOf_57 rfl rfl rfl ?_
          refine V_aload_n hC dX0_reasonOf_58 rfl rfl rfl ?_
          refine V_get (q0 := 4) (C := RX0) (T := TX0) (N := 4) hC dX0_reasonOf_59 in_X0_X0_reasonOf rfl rfl 1 (Nat.le_of_ble_eq_true rfl) fk_X0_reasonOf_20 rfl rfl ?_
          refine V_iload_n hC dX0_reasonOf_62 rfl rfl rfl ?_
          refine V_aald (q0 := 14) hC dX0_reasonOf_63 rfl 2 rfl hj2 j4 (by decide) (trA_at j4) rfl ?_
          refine V_callIV (q0 := 4) (n := 1) hC dX0_reasonOf_64 (k_X0_isFresh l D cI cZ cT a _ _ _ j4) gX0_reasonOf_X0_isFresh rfl ⟨rfl, rfl⟩ (by decide +kernel) ⟨Nat.le_of_ble_eq_true rfl, Nat.le_of_ble_eq_true rfl⟩ ⟨Nat.le_of_ble_eq_true rfl, Nat.le_of_ble_eq_true rfl⟩ rfl rfl rfl rfl (by exact Nat.le_of_ble_eq_true rfl) rfl (fun r_64 u_64 h_64 => ?_)
          subst h_64
          refine V_if_eq (tgt := 74) hC dX0_reasonOf_67 (by decide) rfl (fun c_67 => ?_) (fun c_67 => ?_)
          · refine V_iconst (v := 2) hC dX0_reasonOf_74 (by decide) rfl ?_
            exact hE _ () _ _ _ dX0_reasonOf_75 rfl rfl (by rw [m_why, if_neg (fun z => z c_16), if_neg c_32, hj]; first | exact ((if_pos c_54).trans (if_pos c_67)).symm | exact ((if_pos c_54).trans (if_neg c_67)).symm)
          · refine V_iconst (v := 1) hC dX0_reasonOf_70 (by decide) rfl ?_
            refine V_goto (tgt := 75) hC dX0_reasonOf_71 (by decide) ?_
            exact hE _ () _ _ _ dX0_reasonOf_75 rfl rfl (by rw [m_why, if_neg (fun z => z c_16), if_neg c_32, hj]; first | exact ((if_pos c_54).trans (if_pos c_67)).symm | exact ((if_pos c_54).trans (if_neg c_67)).symm)
    · refine V_iconst (v := 0) hC dX0_reasonOf_35 (by decide) rfl ?_
      exact hE _ () _ _ _ dX0_reasonOf_36 rfl rfl (by rw [m_why, if_neg (fun z => z c_16), if_pos c_32])
  · refine V_iconst (v := 4) hC dX0_reasonOf_19 (by decide) rfl ?_
    exact hE _ () _ _ _ dX0_reasonOf_20 rfl rfl (by rw [m_why, if_pos c_16])
theorem in_X2_X0_allowedSpeed : ∀ w ∈ u_ws RX2 TX2 18, w ∈ wsX0_allowedSpeed := by decide +kernel
theorem fk_X0_allowedSpeed_51 : Cond.fieldLink RX0 51 (TX2 6).1 (TX2 6).2.1 (TX2 6).2.2.1 ∈ wsX0_allowedSpeed := by decide +kernel
theorem fk_X0_allowedSpeed_48 : Cond.fieldLink RX0 48 (TX2 4).1 (TX2 4).2.1 (TX2 4).2.2.1 ∈ wsX0_allowedSpeed := by decide +kernel
theorem in_X0_X0_allowedSpeed : ∀ w ∈ u_ws RX0 TX0 4, w ∈ wsX0_allowedSpeed := by decide +kernel
theorem fk_X0_allowedSpeed_12 : Cond.fieldLink RX0 12 (TX0 0).1 (TX0 0).2.1 (TX0 0).2.2.1 ∈ wsX0_allowedSpeed := by decide +kernel
theorem fk_X0_allowedSpeed_58 : Cond.fieldLink RX0 58 (TX2 8).1 (TX2 8).2.1 (TX2 8).2.2.1 ∈ wsX0_allowedSpeed := by decide +kernel
theorem iniX3_X0_allowedSpeed : Cond.initialized RX3 ∈ wsX0_allowedSpeed := by decide +kernel
theorem staX3_stopMetres_X0_allowedSpeed : Cond.static yX3_stopMetres ∈ wsX0_allowedSpeed := by decide +kernel
theorem in_X1_X0_allowedSpeed : ∀ w ∈ u_ws RX1 TX1 10, w ∈ wsX0_allowedSpeed := by decide +kernel
theorem fk_X0_allowedSpeed_111 : Cond.fieldLink RX0 111 (TX1 3).1 (TX1 3).2.1 (TX1 3).2.2.1 ∈ wsX0_allowedSpeed := by decide +kernel
theorem ml114_X0_allowedSpeed : Cond.methodLink RX0 114 Lib.Math.min.name ∈ wsX0_allowedSpeed := by decide +kernel
theorem msmin_X0_allowedSpeed : Cond.static Lib.Math.min.name ∈ wsX0_allowedSpeed := by decide +kernel
theorem mi_X0_allowedSpeed : Cond.initialized "java/lang/Math" ∈ wsX0_allowedSpeed := by decide +kernel
theorem mcmin_X0_allowedSpeed : Cond.code Lib.Math.min.name Lib.Math.min.code 2 (some .int) ∈ wsX0_allowedSpeed := by decide +kernel
set_option maxRecDepth 100000 in
set_option maxHeartbeats 4000000 in
theorem k_X0_allowedSpeed (l : Launch) (D : va_G) (cI cZ cT : ClassId) (a : Nat → Nat) (t g : Nat → Nat → Int32) (i : Nat) (hi : i < 4) (nS : Nat) (hS : g 8 2 = nI nS) (hS4 : nS ≤ 4) : CI l D kCl (kTy cI cZ cT) yX0_allowedSpeed wsX0_allowedSpeed ({ frames := 2, cells := 0, slots := 0, locals := 45 }) 0 0 [.ref (a 4), .ref (a i)] (Wl cI cZ cT a t g) (S := Unit) (fun r _ => r = m_allow g (t i) nS) (fun _ => (Wl cI cZ cT a t g)) := by
  refine CI_of (own := RX0) (by decide) rfl rfl (Nat.le_of_ble_eq_true rfl) rfl (fun X A hC hE => ?_)
  refine V_aload_n hC dX0_allowedSpeed_0 rfl rfl rfl ?_
  refine V_get (C := RX2) (T := TX2) (N := 18) hC dX0_allowedSpeed_1 in_X2_X0_allowedSpeed (Wl_t hi) rfl 6 (Nat.le_of_ble_eq_true rfl) fk_X0_allowedSpeed_51 rfl rfl ?_
  refine V_aload_n hC dX0_allowedSpeed_4 rfl rfl rfl ?_
  refine V_get (C := RX2) (T := TX2) (N := 18) hC dX0_allowedSpeed_5 in_X2_X0_allowedSpeed (Wl_t hi) rfl 4 (Nat.le_of_ble_eq_true rfl) fk_X0_allowedSpeed_48 rfl rfl ?_
  refine V_isub hC dX0_allowedSpeed_8 rfl ?_
  refine V_istore_n hC dX0_allowedSpeed_9 rfl (Nat.le_of_ble_eq_true rfl) rfl ?_
  refine V_aload_n hC dX0_allowedSpeed_10 rfl rfl rfl ?_
  refine V_get (q0 := 4) (C := RX0) (T := TX0) (N := 4) hC dX0_allowedSpeed_11 in_X0_X0_allowedSpeed rfl rfl 0 (Nat.le_of_ble_eq_true rfl) fk_X0_allowedSpeed_12 rfl rfl ?_
  refine V_aload_n hC dX0_allowedSpeed_14 rfl rfl rfl ?_
  refine V_get (C := RX2) (T := TX2) (N := 18) hC dX0_allowedSpeed_15 in_X2_X0_allowedSpeed (Wl_t hi) rfl 8 (Nat.le_of_ble_eq_true rfl) fk_X0_allowedSpeed_58 rfl rfl ?_
  refine V_callIV (q0 := 5) (n := 1) hC dX0_allowedSpeed_18 (k_X1_nextStation l D cI cZ cT a _ _ _ _ hS hS4) gX0_allowedSpeed_X1_nextStation rfl ⟨rfl, rfl⟩ (by decide +kernel) ⟨Nat.le_of_ble_eq_true rfl, Nat.le_of_ble_eq_true rfl⟩ ⟨Nat.le_of_ble_eq_true rfl, Nat.le_of_ble_eq_true rfl⟩ rfl rfl rfl rfl (by exact Nat.le_of_ble_eq_true rfl) rfl (fun r_18 u_18 h_18 => ?_)
  subst h_18
  refine V_istore_n hC dX0_allowedSpeed_21 rfl (Nat.le_of_ble_eq_true rfl) rfl ?_
  refine V_iload_n hC dX0_allowedSpeed_22 rfl rfl rfl ?_
  refine V_iconst (v := (-1)) hC dX0_allowedSpeed_23 (by decide) rfl ?_
  have join_46 : ∀ w : Int32, w = m_way (g 3) (t i) nS → V X 0 0 (Wl cI cZ cT a t g) [(0, .ref (a 4)), (1, .ref (a i)), (2, .int w)] 46 [] := by
    intro w hw
    refine V_aload_n hC dX0_allowedSpeed_46 rfl rfl rfl ?_
    refine V_aload_n hC dX0_allowedSpeed_47 rfl rfl rfl ?_
    refine V_callIV (q0 := 4) (n := 1) hC dX0_allowedSpeed_48 (k_X0_holdOf l D cI cZ cT a _ _ _ hi) gX0_allowedSpeed_X0_holdOf rfl ⟨rfl, rfl⟩ (by decide +kernel) ⟨Nat.le_of_ble_eq_true rfl, Nat.le_of_ble_eq_true rfl⟩ ⟨Nat.le_of_ble_eq_true rfl, Nat.le_of_ble_eq_true rfl⟩ rfl rfl rfl rfl (by exact Nat.le_of_ble_eq_true rfl) rfl (fun r_48 u_48 h_48 => ?_)
    subst h_48
    refine V_istore hC dX0_allowedSpeed_51 (Nat.le_of_ble_eq_true rfl) rfl ?_
    refine V_aload_n hC dX0_allowedSpeed_53 rfl rfl rfl ?_
    refine V_get (q0 := 4) (C := RX0) (T := TX0) (N := 4) hC dX0_allowedSpeed_54 in_X0_X0_allowedSpeed rfl rfl 0 (Nat.le_of_ble_eq_true rfl) fk_X0_allowedSpeed_12 rfl rfl ?_
    refine V_aload_n hC dX0_allowedSpeed_57 rfl rfl rfl ?_
    refine V_callIV (n := 0) hC dX0_allowedSpeed_58 (k_X2_rear l D cI cZ cT a _ _ _ hi) gX0_allowedSpeed_X2_rear rfl ⟨rfl, rfl⟩ (by decide +kernel) ⟨Nat.le_of_ble_eq_true rfl, Nat.le_of_ble_eq_true rfl⟩ ⟨Nat.le_of_ble_eq_true rfl, Nat.le_of_ble_eq_true rfl⟩ (Wl_t hi) rfl rfl rfl (by exact Nat.le_of_ble_eq_true rfl) rfl (fun r_58 u_58 h_58 => ?_)
    subst h_58
    refine V_aload_n hC dX0_allowedSpeed_61 rfl rfl rfl ?_
    refine V_get (C := RX2) (T := TX2) (N := 18) hC dX0_allowedSpeed_62 in_X2_X0_allowedSpeed (Wl_t hi) rfl 4 (Nat.le_of_ble_eq_true rfl) fk_X0_allowedSpeed_48 rfl rfl ?_
    refine V_callIV (q0 := 5) (n := 2) hC dX0_allowedSpeed_65 (k_X1_leastLimit l D cI cZ cT a _ _ _ _) gX0_allowedSpeed_X1_leastLimit rfl ⟨rfl, rfl⟩ (by decide +kernel) ⟨Nat.le_of_ble_eq_true rfl, Nat.le_of_ble_eq_true rfl⟩ ⟨Nat.le_of_ble_eq_true rfl, Nat.le_of_ble_eq_true rfl⟩ rfl rfl rfl rfl (by exact Nat.le_of_ble_eq_true rfl) rfl (fun r_65 u_65 h_65 => ?_)
    subst h_65
    refine V_istore hC dX0_allowedSpeed_68 (Nat.le_of_ble_eq_true rfl) rfl ?_
    have loop_70 : ∀ (d n : Nat) (z : Int32), n < d → n < 2 ^ 31 → (z = nI n ∨ (n = 0 ∧ z ≤ 0)) → m_srch (m_hold (g 1) (t i)) w n = m_allow g (t i) nS → V X 0 0 (Wl cI cZ cT a t g) [(0, .ref (a 4)), (1, .ref (a i)), (2, .int w), (4, .int (m_hold (g 1) (t i))), (5, .int z)] 70 [] := by
      intro d
      induction d with
      | zero => intro n; intros; omega
      | succ d ih =>
        intro n z h hn hs hr
        refine V_iload hC dX0_allowedSpeed_70 rfl rfl ?_
        refine V_if_le (tgt := 95) hC dX0_allowedSpeed_72 (by decide) rfl (fun c_72 => ?_) (fun c_72 => ?_)
        · obtain rfl : n = 0 := by
            rcases hs with e | e
            · subst e; rcases n with _ | n
              · rfl
              · exact absurd c_72 (nI_nle (by omega) (by omega))
            · exact e.1
          refine V_iconst (v := 0) hC dX0_allowedSpeed_95 (by decide) rfl ?_
          exact hE _ () _ _ _ dX0_allowedSpeed_96 rfl rfl hr
        · obtain ⟨n, rfl⟩ : ∃ z, n = z + 1 := by
            rcases n with _ | n
            · rcases hs with e | e
              · exact absurd (by rw [e]; decide) c_72
              · exact absurd e.2 c_72
            · exact ⟨n, rfl⟩
          obtain rfl : z = nI (n + 1) := by
            rcases hs with e | e
            · exact e
            · exact absurd e.1 (by omega)
          refine V_iload hC dX0_allowedSpeed_75 rfl rfl ?_
          refine V_iload hC dX0_allowedSpeed_77 rfl rfl ?_
          refine V_callIN0 (n := 2) (host := RX3) hC dX0_allowedSpeed_79 (k_X3_stopMetres l D cI cZ cT _ _) gX0_allowedSpeed_X3_stopMetres_n124 (by decide +kernel) iniX3_X0_allowedSpeed staX3_stopMetres_X0_allowedSpeed rfl ⟨rfl, rfl⟩ (by decide +kernel) ⟨Nat.le_of_ble_eq_true rfl, Nat.le_of_ble_eq_true rfl⟩ ⟨Nat.le_of_ble_eq_true rfl, Nat.le_of_ble_eq_true rfl⟩ rfl rfl (by exact Nat.le_of_ble_eq_true rfl) rfl (fun r_79 u_79 h_79 => ?_)
          subst h_79
          refine V_iload_n hC dX0_allowedSpeed_82 rfl rfl rfl ?_
          refine V_icmp_gt (tgt := 89) hC dX0_allowedSpeed_83 (by decide) rfl (fun c_83 => ?_) (fun c_83 => ?_)
          · refine V_iinc hC dX0_allowedSpeed_89 rfl (pk_m1 n) (Nat.le_of_ble_eq_true rfl) rfl ?_
            refine V_goto (tgt := 70) hC dX0_allowedSpeed_92 (by decide) ?_
            exact V_to (ih n (nI n) (by omega) (by omega) (Or.inl rfl) (by simpa [m_srch, Int32.not_le.mpr c_83] using hr)) (lc rfl (lc rfl (lc rfl (lc rfl (lc rfl ln)))))
          · refine V_iload hC dX0_allowedSpeed_86 rfl rfl ?_
            exact hE _ () _ _ _ dX0_allowedSpeed_88 rfl rfl (by simpa [m_srch, Int32.not_lt.mp c_83] using hr)
    refine V_to (loop_70 _ (m_lim (g 0) (m_rear (t i)) (t i 4)).toNatClampNeg _ (Nat.lt_succ_self _) (toNC_lt _) (toNC_or _) (by rw [hw]; rfl)) (lc rfl (lc rfl (lc rfl (lc rfl (lc rfl ln)))))
  refine V_icmp_eq (tgt := 46) hC dX0_allowedSpeed_24 (by decide) rfl (fun c_24 => ?_) (fun c_24 => ?_)
  · refine V_to (join_46 _ ?_) (lc rfl (lc rfl (lc rfl ln)))
    first
    | (simp [m_way, nxI_nn (fun j q => by have := nxO_lt q; omega) c_24]; done)
    | (simp [m_way, m_min, hj]; done)
  · obtain ⟨j, hj, hj2⟩ := nxI_some c_24
    have hj3 := nxO_lt hj
    refine V_iload_n hC dX0_allowedSpeed_27 rfl rfl rfl ?_
    refine V_aload_n hC dX0_allowedSpeed_28 rfl rfl rfl ?_
    refine V_get (q0 := 4) (C := RX0) (T := TX0) (N := 4) hC dX0_allowedSpeed_29 in_X0_X0_allowedSpeed rfl rfl 0 (Nat.le_of_ble_eq_true rfl) fk_X0_allowedSpeed_12 rfl rfl ?_
    refine V_get (q0 := 5) (C := RX1) (T := TX1) (N := 10) hC dX0_allowedSpeed_32 in_X1_X0_allowedSpeed rfl rfl 3 (Nat.le_of_ble_eq_true rfl) fk_X0_allowedSpeed_111 rfl rfl ?_
    refine V_iload_n hC dX0_allowedSpeed_35 rfl rfl rfl ?_
    refine V_iald (q0 := 9) hC dX0_allowedSpeed_36 rfl 0 rfl hj2 (by omega) (by decide) rfl ?_
    refine V_aload_n hC dX0_allowedSpeed_37 rfl rfl rfl ?_
    refine V_get (C := RX2) (T := TX2) (N := 18) hC dX0_allowedSpeed_38 in_X2_X0_allowedSpeed (Wl_t hi) rfl 4 (Nat.le_of_ble_eq_true rfl) fk_X0_allowedSpeed_48 rfl rfl ?_
    refine V_isub hC dX0_allowedSpeed_41 rfl ?_
    refine V_mmin hC dX0_allowedSpeed_42 ml114_X0_allowedSpeed msmin_X0_allowedSpeed mi_X0_allowedSpeed mcmin_X0_allowedSpeed (Nat.le_of_ble_eq_true rfl) (Nat.le_of_ble_eq_true rfl) (Nat.le_of_ble_eq_true rfl) (Nat.le_of_ble_eq_true rfl) rfl ?_
    refine V_istore_n hC dX0_allowedSpeed_45 rfl (Nat.le_of_ble_eq_true rfl) rfl ?_
    refine V_to (join_46 _ ?_) (lc rfl (lc rfl (lc rfl ln)))
    first
    | (simp [m_way, nxI_nn (fun j q => by have := nxO_lt q; omega) c_24]; done)
    | (simp [m_way, m_min, hj]; done)
