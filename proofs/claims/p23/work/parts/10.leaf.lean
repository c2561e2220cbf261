set_option maxRecDepth 100000 in
set_option maxHeartbeats 4000000 in
theorem k_X3_sectionAt (l : Launch) (D : va_G) (cI cZ cT : ClassId) (x : Int32) : CI l D kCl (kTy cI cZ cT) yX3_sectionAt wsX3_sectionAt ({ frames := 0, cells := 0, slots := 0, locals := 0 }) 0 0 [.int x] [] (S := Unit) (fun r _ => r = m_sec x) (fun _ => []) := by
  refine CI_of (own := RX3) (by decide) rfl rfl (Nat.le_of_ble_eq_true rfl) rfl (fun X A hC hE => ?_)
  refine V_iload_n hC dX3_sectionAt_0 rfl rfl rfl ?_
  refine V_if_ge (tgt := 6) hC dX3_sectionAt_1 (by decide) rfl (fun c_1 => ?_) (fun c_1 => ?_)
  · refine V_iload_n hC dX3_sectionAt_6 rfl rfl rfl ?_
    refine V_sipush (v := 2999) hC dX3_sectionAt_7 (by decide) rfl ?_
    refine V_icmp_le (tgt := 18) hC dX3_sectionAt_10 (by decide) rfl (fun c_10 => ?_) (fun c_10 => ?_)
    · refine V_iload_n hC dX3_sectionAt_18 rfl rfl rfl ?_
      refine V_sipush (v := 150) hC dX3_sectionAt_19 (by decide) rfl ?_
      refine V_idiv hC dX3_sectionAt_22 (by decide) rfl ?_
      exact hE _ () _ _ _ dX3_sectionAt_23 rfl rfl (by simp [m_sec, *])
    · refine V_bipush (v := 19) hC dX3_sectionAt_13 (by decide) rfl ?_
      refine V_goto (tgt := 23) hC dX3_sectionAt_15 (by decide) ?_
      exact hE _ () _ _ _ dX3_sectionAt_23 rfl rfl (by simp [m_sec, *])
  · refine V_iconst (v := 0) hC dX3_sectionAt_4 (by decide) rfl ?_
    exact hE _ () _ _ _ dX3_sectionAt_5 rfl rfl (by simp [m_sec, *])
set_option maxRecDepth 100000 in
set_option maxHeartbeats 4000000 in
theorem k_X3_firstMetreOf (l : Launch) (D : va_G) (cI cZ cT : ClassId) (x : Int32) : CI l D kCl (kTy cI cZ cT) yX3_firstMetreOf wsX3_firstMetreOf ({ frames := 0, cells := 0, slots := 0, locals := 0 }) 0 0 [.int x] [] (S := Unit) (fun r _ => r = m_first x) (fun _ => []) := by
  refine CI_of (own := RX3) (by decide) rfl rfl (Nat.le_of_ble_eq_true rfl) rfl (fun X A hC hE => ?_)
  refine V_iload_n hC dX3_firstMetreOf_0 rfl rfl rfl ?_
  refine V_sipush (v := 150) hC dX3_firstMetreOf_1 (by decide) rfl ?_
  refine V_imul hC dX3_firstMetreOf_4 rfl ?_
  exact hE _ () _ _ _ dX3_firstMetreOf_5 rfl rfl (by first | rfl | (simp [*]; done))
set_option maxRecDepth 100000 in
set_option maxHeartbeats 4000000 in
theorem k_X3_stopMetres (l : Launch) (D : va_G) (cI cZ cT : ClassId) (v h : Int32) : CI l D kCl (kTy cI cZ cT) yX3_stopMetres wsX3_stopMetres ({ frames := 0, cells := 0, slots := 0, locals := 0 }) 0 0 [.int v, .int h] [] (S := Unit) (fun r _ => r = m_stop v h) (fun _ => []) := by
  refine CI_of (own := RX3) (by decide) rfl rfl (Nat.le_of_ble_eq_true rfl) rfl (fun X A hC hE => ?_)
  refine V_iload_n hC dX3_stopMetres_0 rfl rfl rfl ?_
  refine V_iconst (v := 1) hC dX3_stopMetres_1 (by decide) rfl ?_
  refine V_icmp_ge (tgt := 9) hC dX3_stopMetres_2 (by decide) rfl (fun c_2 => ?_) (fun c_2 => ?_)
  · refine V_iconst (v := 2) hC dX3_stopMetres_9 (by decide) rfl ?_
    refine V_iload_n hC dX3_stopMetres_10 rfl rfl rfl ?_
    refine V_imul hC dX3_stopMetres_11 rfl ?_
    refine V_istore_n hC dX3_stopMetres_12 rfl (Nat.le_of_ble_eq_true rfl) rfl ?_
    refine V_iload_n hC dX3_stopMetres_13 rfl rfl rfl ?_
    refine V_iload_n hC dX3_stopMetres_14 rfl rfl rfl ?_
    refine V_iload_n hC dX3_stopMetres_15 rfl rfl rfl ?_
    refine V_iconst (v := 1) hC dX3_stopMetres_16 (by decide) rfl ?_
    refine V_isub hC dX3_stopMetres_17 rfl ?_
    refine V_imul hC dX3_stopMetres_18 rfl ?_
    refine V_iload_n hC dX3_stopMetres_19 rfl rfl rfl ?_
    refine V_iadd hC dX3_stopMetres_20 rfl ?_
    refine V_iconst (v := 1) hC dX3_stopMetres_21 (by decide) rfl ?_
    refine V_isub hC dX3_stopMetres_22 rfl ?_
    refine V_iload_n hC dX3_stopMetres_23 rfl rfl rfl ?_
    refine V_idiv hC dX3_stopMetres_24 (by have z := m_div0 h; simpa [m_div, *] using z) rfl ?_
    refine V_iadd hC dX3_stopMetres_25 rfl ?_
    exact hE _ () _ _ _ dX3_stopMetres_26 rfl rfl (by simp [m_stop, m_div, *])
  · refine V_iconst (v := 2) hC dX3_stopMetres_5 (by decide) rfl ?_
    refine V_goto (tgt := 12) hC dX3_stopMetres_6 (by decide) ?_
    refine V_istore_n hC dX3_stopMetres_12 rfl (Nat.le_of_ble_eq_true rfl) rfl ?_
    refine V_iload_n hC dX3_stopMetres_13 rfl rfl rfl ?_
    refine V_iload_n hC dX3_stopMetres_14 rfl rfl rfl ?_
    refine V_iload_n hC dX3_stopMetres_15 rfl rfl rfl ?_
    refine V_iconst (v := 1) hC dX3_stopMetres_16 (by decide) rfl ?_
    refine V_isub hC dX3_stopMetres_17 rfl ?_
    refine V_imul hC dX3_stopMetres_18 rfl ?_
    refine V_iload_n hC dX3_stopMetres_19 rfl rfl rfl ?_
    refine V_iadd hC dX3_stopMetres_20 rfl ?_
    refine V_iconst (v := 1) hC dX3_stopMetres_21 (by decide) rfl ?_
    refine V_isub hC dX3_stopMetres_22 rfl ?_
    refine V_iload_n hC dX3_stopMetres_23 rfl rfl rfl ?_
    refine V_idiv hC dX3_stopMetres_24 (by have z := m_div0 h; simpa [m_div, *] using z) rfl ?_
    refine V_iadd hC dX3_stopMetres_25 rfl ?_
    exact hE _ () _ _ _ dX3_stopMetres_26 rfl rfl (by simp [m_stop, m_div, *])
set_option maxRecDepth 100000 in
set_option maxHeartbeats 4000000 in
theorem k_X3_isWithin (l : Launch) (D : va_G) (cI cZ cT : ClassId) (x y z : Int32) : CI l D kCl (kTy cI cZ cT) yX3_isWithin wsX3_isWithin ({ frames := 0, cells := 0, slots := 0, locals := 0 }) 0 0 [.int x, .int y, .int z] [] (S := Unit) (fun r _ => r = m_in x y z) (fun _ => []) := by
  refine CI_of (own := RX3) (by decide) rfl rfl (Nat.le_of_ble_eq_true rfl) rfl (fun X A hC hE => ?_)
  refine V_iload_n hC dX3_isWithin_0 rfl rfl rfl ?_
  refine V_iload_n hC dX3_isWithin_1 rfl rfl rfl ?_
  refine V_icmp_lt (tgt := 14) hC dX3_isWithin_2 (by decide) rfl (fun c_2 => ?_) (fun c_2 => ?_)
  · refine V_iconst (v := 0) hC dX3_isWithin_14 (by decide) rfl ?_
    exact hE _ () _ _ _ dX3_isWithin_15 rfl rfl (by simp [m_in, *])
  · refine V_iload_n hC dX3_isWithin_5 rfl rfl rfl ?_
    refine V_iload_n hC dX3_isWithin_6 rfl rfl rfl ?_
    refine V_icmp_gt (tgt := 14) hC dX3_isWithin_7 (by decide) rfl (fun c_7 => ?_) (fun c_7 => ?_)
    · refine V_iconst (v := 0) hC dX3_isWithin_14 (by decide) rfl ?_
      exact hE _ () _ _ _ dX3_isWithin_15 rfl rfl (by simp [m_in, *])
    · refine V_iconst (v := 1) hC dX3_isWithin_10 (by decide) rfl ?_
      refine V_goto (tgt := 15) hC dX3_isWithin_11 (by decide) ?_
      exact hE _ () _ _ _ dX3_isWithin_15 rfl rfl (by simp [m_in, *])
theorem in_X2_X2_rear : ∀ w ∈ u_ws RX2 TX2 18, w ∈ wsX2_rear := by decide +kernel
theorem fk_X2_rear_25 : Cond.fieldLink RX2 25 (TX2 4).1 (TX2 4).2.1 (TX2 4).2.2.1 ∈ wsX2_rear := by decide +kernel
theorem fk_X2_rear_9 : Cond.fieldLink RX2 9 (TX2 0).1 (TX2 0).2.1 (TX2 0).2.2.1 ∈ wsX2_rear := by decide +kernel
set_option maxRecDepth 100000 in
set_option maxHeartbeats 4000000 in
theorem k_X2_rear (l : Launch) (D : va_G) (cI cZ cT : ClassId) (a : Nat → Nat) (t g : Nat → Nat → Int32) (i : Nat) (hi : i < 4)  : CI l D kCl (kTy cI cZ cT) yX2_rear wsX2_rear ({ frames := 0, cells := 0, slots := 0, locals := 0 }) 0 0 [.ref (a i)] (Wl cI cZ cT a t g) (S := Unit) (fun r _ => r = m_rear (t i)) (fun _ => (Wl cI cZ cT a t g)) := by
  refine CI_of (own := RX2) (by decide) rfl rfl (Nat.le_of_ble_eq_true rfl) rfl (fun X A hC hE => ?_)
  refine V_aload_n hC dX2_rear_0 rfl rfl rfl ?_
  refine V_get (C := RX2) (T := TX2) (N := 18) hC dX2_rear_1 in_X2_X2_rear (Wl_t hi) rfl 4 (Nat.le_of_ble_eq_true rfl) fk_X2_rear_25 rfl rfl ?_
  refine V_aload_n hC dX2_rear_4 rfl rfl rfl ?_
  refine V_get (C := RX2) (T := TX2) (N := 18) hC dX2_rear_5 in_X2_X2_rear (Wl_t hi) rfl 0 (Nat.le_of_ble_eq_true rfl) fk_X2_rear_9 rfl rfl ?_
  refine V_isub hC dX2_rear_8 rfl ?_
  refine V_iconst (v := 1) hC dX2_rear_9 (by decide) rfl ?_
  refine V_iadd hC dX2_rear_10 rfl ?_
  exact hE _ () _ _ _ dX2_rear_11 rfl rfl (by first | rfl | (simp [*]; done))
theorem in_X2_X2_metresGone : ∀ w ∈ u_ws RX2 TX2 18, w ∈ wsX2_metresGone := by decide +kernel
theorem fk_X2_metresGone_25 : Cond.fieldLink RX2 25 (TX2 4).1 (TX2 4).2.1 (TX2 4).2.2.1 ∈ wsX2_metresGone := by decide +kernel
theorem fk_X2_metresGone_9 : Cond.fieldLink RX2 9 (TX2 0).1 (TX2 0).2.1 (TX2 0).2.2.1 ∈ wsX2_metresGone := by decide +kernel
set_option maxRecDepth 100000 in
set_option maxHeartbeats 4000000 in
theorem k_X2_metresGone (l : Launch) (D : va_G) (cI cZ cT : ClassId) (a : Nat → Nat) (t g : Nat → Nat → Int32) (i : Nat) (hi : i < 4)  : CI l D kCl (kTy cI cZ cT) yX2_metresGone wsX2_metresGone ({ frames := 0, cells := 0, slots := 0, locals := 0 }) 0 0 [.ref (a i)] (Wl cI cZ cT a t g) (S := Unit) (fun r _ => r = m_gone (t i)) (fun _ => (Wl cI cZ cT a t g)) := by
  refine CI_of (own := RX2) (by decide) rfl rfl (Nat.le_of_ble_eq_true rfl) rfl (fun X A hC hE => ?_)
  refine V_aload_n hC dX2_metresGone_0 rfl rfl rfl ?_
  refine V_get (C := RX2) (T := TX2) (N := 18) hC dX2_metresGone_1 in_X2_X2_metresGone (Wl_t hi) rfl 4 (Nat.le_of_ble_eq_true rfl) fk_X2_metresGone_25 rfl rfl ?_
  refine V_aload_n hC dX2_metresGone_4 rfl rfl rfl ?_
  refine V_get (C := RX2) (T := TX2) (N := 18) hC dX2_metresGone_5 in_X2_X2_metresGone (Wl_t hi) rfl 0 (Nat.le_of_ble_eq_true rfl) fk_X2_metresGone_9 rfl rfl ?_
  refine V_iconst (v := 1) hC dX2_metresGone_8 (by decide) rfl ?_
  refine V_isub hC dX2_metresGone_9 rfl ?_
  refine V_isub hC dX2_metresGone_10 rfl ?_
  exact hE _ () _ _ _ dX2_metresGone_11 rfl rfl (by first | rfl | (simp [*]; done))
theorem in_X2_X2_isOn : ∀ w ∈ u_ws RX2 TX2 18, w ∈ wsX2_isOn := by decide +kernel
theorem fk_X2_isOn_25 : Cond.fieldLink RX2 25 (TX2 4).1 (TX2 4).2.1 (TX2 4).2.2.1 ∈ wsX2_isOn := by decide +kernel
theorem iniX3_X2_isOn : Cond.initialized RX3 ∈ wsX2_isOn := by decide +kernel
theorem staX3_sectionAt_X2_isOn : Cond.static yX3_sectionAt ∈ wsX2_isOn := by decide +kernel
set_option maxRecDepth 100000 in
set_option maxHeartbeats 4000000 in
theorem k_X2_isOn (l : Launch) (D : va_G) (cI cZ cT : ClassId) (a : Nat → Nat) (t g : Nat → Nat → Int32) (i : Nat) (hi : i < 4) (f l1 : Int32) : CI l D kCl (kTy cI cZ cT) yX2_isOn wsX2_isOn ({ frames := 1, cells := 0, slots := 0, locals := 20 }) 0 0 [.ref (a i), .int f, .int l1] (Wl cI cZ cT a t g) (S := Unit) (fun r _ => r = m_isOn (t i) f l1) (fun _ => (Wl cI cZ cT a t g)) := by
  refine CI_of (own := RX2) (by decide) rfl rfl (Nat.le_of_ble_eq_true rfl) rfl (fun X A hC hE => ?_)
  refine V_aload_n hC dX2_isOn_0 rfl rfl rfl ?_
  refine V_get (C := RX2) (T := TX2) (N := 18) hC dX2_isOn_1 in_X2_X2_isOn (Wl_t hi) rfl 4 (Nat.le_of_ble_eq_true rfl) fk_X2_isOn_25 rfl rfl ?_
  refine V_callIN0 (n := 1) (host := RX3) hC dX2_isOn_4 (k_X3_sectionAt l D cI cZ cT _) gX2_isOn_X3_sectionAt_n68 (by decide +kernel) iniX3_X2_isOn staX3_sectionAt_X2_isOn rfl ⟨rfl, rfl⟩ (by decide +kernel) ⟨Nat.le_of_ble_eq_true rfl, Nat.le_of_ble_eq_true rfl⟩ ⟨Nat.le_of_ble_eq_true rfl, Nat.le_of_ble_eq_true rfl⟩ rfl rfl (by exact Nat.le_of_ble_eq_true rfl) rfl (fun r_4 u_4 h_4 => ?_)
  subst h_4
  refine V_iload_n hC dX2_isOn_7 rfl rfl rfl ?_
  refine V_icmp_lt (tgt := 26) hC dX2_isOn_8 (by decide) rfl (fun c_8 => ?_) (fun c_8 => ?_)
  · refine V_iconst (v := 0) hC dX2_isOn_26 (by decide) rfl ?_
    exact hE _ () _ _ _ dX2_isOn_27 rfl rfl (by simp [m_isOn, *])
  · refine V_aload_n hC dX2_isOn_11 rfl rfl rfl ?_
    refine V_callIV (n := 0) hC dX2_isOn_12 (k_X2_rear l D cI cZ cT a _ _ _ hi) gX2_isOn_X2_rear rfl ⟨rfl, rfl⟩ (by decide +kernel) ⟨Nat.le_of_ble_eq_true rfl, Nat.le_of_ble_eq_true rfl⟩ ⟨Nat.le_of_ble_eq_true rfl, Nat.le_of_ble_eq_true rfl⟩ (Wl_t hi) rfl rfl rfl (by exact Nat.le_of_ble_eq_true rfl) rfl (fun r_12 u_12 h_12 => ?_)
    subst h_12
    refine V_callIN0 (n := 1) (host := RX3) hC dX2_isOn_15 (k_X3_sectionAt l D cI cZ cT _) gX2_isOn_X3_sectionAt_n68 (by decide +kernel) iniX3_X2_isOn staX3_sectionAt_X2_isOn rfl ⟨rfl, rfl⟩ (by decide +kernel) ⟨Nat.le_of_ble_eq_true rfl, Nat.le_of_ble_eq_true rfl⟩ ⟨Nat.le_of_ble_eq_true rfl, Nat.le_of_ble_eq_true rfl⟩ rfl rfl (by exact Nat.le_of_ble_eq_true rfl) rfl (fun r_15 u_15 h_15 => ?_)
    subst h_15
    refine V_iload_n hC dX2_isOn_18 rfl rfl rfl ?_
    refine V_icmp_gt (tgt := 26) hC dX2_isOn_19 (by decide) rfl (fun c_19 => ?_) (fun c_19 => ?_)
    · refine V_iconst (v := 0) hC dX2_isOn_26 (by decide) rfl ?_
      exact hE _ () _ _ _ dX2_isOn_27 rfl rfl (by simp [m_isOn, *])
    · refine V_iconst (v := 1) hC dX2_isOn_22 (by decide) rfl ?_
      refine V_goto (tgt := 27) hC dX2_isOn_23 (by decide) ?_
      exact hE _ () _ _ _ dX2_isOn_27 rfl rfl (by simp [m_isOn, *])
theorem in_X2_X2_report : ∀ w ∈ u_ws RX2 TX2 18, w ∈ wsX2_report := by decide +kernel
theorem fk_X2_report_25 : Cond.fieldLink RX2 25 (TX2 4).1 (TX2 4).2.1 (TX2 4).2.2.1 ∈ wsX2_report := by decide +kernel
theorem fk_X2_report_46 : Cond.fieldLink RX2 46 (TX2 11).1 (TX2 11).2.1 (TX2 11).2.2.1 ∈ wsX2_report := by decide +kernel
theorem fk_X2_report_21 : Cond.fieldLink RX2 21 (TX2 3).1 (TX2 3).2.1 (TX2 3).2.2.1 ∈ wsX2_report := by decide +kernel
theorem fk_X2_report_52 : Cond.fieldLink RX2 52 (TX2 13).1 (TX2 13).2.1 (TX2 13).2.2.1 ∈ wsX2_report := by decide +kernel
theorem fk_X2_report_49 : Cond.fieldLink RX2 49 (TX2 12).1 (TX2 12).2.1 (TX2 12).2.2.1 ∈ wsX2_report := by decide +kernel
set_option maxRecDepth 100000 in
set_option maxHeartbeats 4000000 in
theorem k_X2_report (l : Launch) (D : va_G) (cI cZ cT : ClassId) (a : Nat → Nat) (t g : Nat → Nat → Int32) (i : Nat) (hi : i < 4) (now : Int32) : CV l D kCl (kTy cI cZ cT) yX2_report wsX2_report ({ frames := 1, cells := 0, slots := 0, locals := 20 }) 0 0 [.ref (a i), .int now] (Wl cI cZ cT a t g) (S := Unit) (fun _ => True) (fun _ => Wl cI cZ cT a (m_report t i now) g) := by
  refine CV_of (own := RX2) (by decide) rfl rfl (Nat.le_of_ble_eq_true rfl) rfl (fun X A hC hE => ?_)
  refine V_aload_n hC dX2_report_0 rfl rfl rfl ?_
  refine V_aload_n hC dX2_report_1 rfl rfl rfl ?_
  refine V_get (C := RX2) (T := TX2) (N := 18) hC dX2_report_2 in_X2_X2_report (Wl_t hi) rfl 4 (Nat.le_of_ble_eq_true rfl) fk_X2_report_25 rfl rfl ?_
  refine V_put (C := RX2) (T := TX2) (N := 18) hC dX2_report_5 in_X2_X2_report tyX2 tyX2_ok nmX2 (Wl_t hi) rfl 11 (Nat.le_of_ble_eq_true rfl) fk_X2_report_46 rfl rfl rfl rfl (Nat.le_of_ble_eq_true rfl) (Wl_set hi (by decide)) rfl ?_
  refine V_aload_n hC dX2_report_8 rfl rfl rfl ?_
  refine V_get (C := RX2) (T := TX2) (N := 18) hC dX2_report_9 in_X2_X2_report (Wl_t hi) rfl 3 (Nat.le_of_ble_eq_true rfl) fk_X2_report_21 rfl rfl ?_
  refine V_if_eq (tgt := 23) hC dX2_report_12 (by decide) rfl (fun c_12 => ?_) (fun c_12 => ?_)
  · refine V_aload_n hC dX2_report_23 rfl rfl rfl ?_
    refine V_iload_n hC dX2_report_24 rfl rfl rfl ?_
    refine V_put (C := RX2) (T := TX2) (N := 18) hC dX2_report_25 in_X2_X2_report tyX2 tyX2_ok nmX2 (Wl_t hi) rfl 13 (Nat.le_of_ble_eq_true rfl) fk_X2_report_52 rfl rfl rfl rfl (Nat.le_of_ble_eq_true rfl) (Wl_set hi (by decide)) rfl ?_
    exact hE () _ _ _ dX2_report_28 trivial (by simp_all [m_report, up2_s, upd, m_rear]) trivial
  · refine V_aload_n hC dX2_report_15 rfl rfl rfl ?_
    refine V_aload_n hC dX2_report_16 rfl rfl rfl ?_
    refine V_callIV (n := 0) hC dX2_report_17 (k_X2_rear l D cI cZ cT a _ _ _ hi) gX2_report_X2_rear rfl ⟨rfl, rfl⟩ (by decide +kernel) ⟨Nat.le_of_ble_eq_true rfl, Nat.le_of_ble_eq_true rfl⟩ ⟨Nat.le_of_ble_eq_true rfl, Nat.le_of_ble_eq_true rfl⟩ (Wl_t hi) rfl rfl rfl (by exact Nat.le_of_ble_eq_true rfl) rfl (fun r_17 u_17 h_17 => ?_)
    subst h_17
    refine V_put (C := RX2) (T := TX2) (N := 18) hC dX2_report_20 in_X2_X2_report tyX2 tyX2_ok nmX2 (Wl_t hi) rfl 12 (Nat.le_of_ble_eq_true rfl) fk_X2_report_49 rfl rfl rfl rfl (Nat.le_of_ble_eq_true rfl) (Wl_set hi (by decide)) rfl ?_
    refine V_aload_n hC dX2_report_23 rfl rfl rfl ?_
    refine V_iload_n hC dX2_report_24 rfl rfl rfl ?_
    refine V_put (C := RX2) (T := TX2) (N := 18) hC dX2_report_25 in_X2_X2_report tyX2 tyX2_ok nmX2 (Wl_t hi) rfl 13 (Nat.le_of_ble_eq_true rfl) fk_X2_report_52 rfl rfl rfl rfl (Nat.le_of_ble_eq_true rfl) (Wl_set hi (by decide)) rfl ?_
    exact hE () _ _ _ dX2_report_28 trivial (by simp_all [m_report, up2_s, upd, m_rear]) trivial
theorem in_X2_X2_crash : ∀ w ∈ u_ws RX2 TX2 18, w ∈ wsX2_crash := by decide +kernel
theorem fk_X2_crash_43 : Cond.fieldLink RX2 43 (TX2 10).1 (TX2 10).2.1 (TX2 10).2.2.1 ∈ wsX2_crash := by decide +kernel
theorem fk_X2_crash_28 : Cond.fieldLink RX2 28 (TX2 5).1 (TX2 5).2.1 (TX2 5).2.2.1 ∈ wsX2_crash := by decide +kernel
set_option maxRecDepth 100000 in
set_option maxHeartbeats 4000000 in
theorem k_X2_crash (l : Launch) (D : va_G) (cI cZ cT : ClassId) (a : Nat → Nat) (t g : Nat → Nat → Int32) (i : Nat) (hi : i < 4)  : CV l D kCl (kTy cI cZ cT) yX2_crash wsX2_crash ({ frames := 0, cells := 0, slots := 0, locals := 0 }) 0 0 [.ref (a i)] (Wl cI cZ cT a t g) (S := Unit) (fun _ => True) (fun _ => Wl cI cZ cT a (m_crash t i) g) := by
  refine CV_of (own := RX2) (by decide) rfl rfl (Nat.le_of_ble_eq_true rfl) rfl (fun X A hC hE => ?_)
  refine V_aload_n hC dX2_crash_0 rfl rfl rfl ?_
  refine V_iconst (v := 1) hC dX2_crash_1 (by decide) rfl ?_
  refine V_put (C := RX2) (T := TX2) (N := 18) hC dX2_crash_2 in_X2_X2_crash tyX2 tyX2_ok nmX2 (Wl_t hi) rfl 10 (Nat.le_of_ble_eq_true rfl) fk_X2_crash_43 rfl rfl rfl rfl (Nat.le_of_ble_eq_true rfl) (Wl_set hi (by decide)) rfl ?_
  refine V_aload_n hC dX2_crash_5 rfl rfl rfl ?_
  refine V_iconst (v := 0) hC dX2_crash_6 (by decide) rfl ?_
  refine V_put (C := RX2) (T := TX2) (N := 18) hC dX2_crash_7 in_X2_X2_crash tyX2 tyX2_ok nmX2 (Wl_t hi) rfl 5 (Nat.le_of_ble_eq_true rfl) fk_X2_crash_28 rfl rfl rfl rfl (Nat.le_of_ble_eq_true rfl) (Wl_set hi (by decide)) rfl ?_
  exact hE () _ _ _ dX2_crash_10 trivial rfl trivial
theorem in_X2_X2_leastGapOrNone : ∀ w ∈ u_ws RX2 TX2 18, w ∈ wsX2_leastGapOrNone := by decide +kernel
theorem fk_X2_leastGapOrNone_65 : Cond.fieldLink RX2 65 (TX2 17).1 (TX2 17).2.1 (TX2 17).2.2.1 ∈ wsX2_leastGapOrNone := by decide +kernel
theorem k64_X2_leastGapOrNone : Cond.constant RX2 64 1000000 ∈ wsX2_leastGapOrNone := by decide +kernel
set_option maxRecDepth 100000 in
set_option maxHeartbeats 4000000 in
theorem k_X2_leastGapOrNone (l : Launch) (D : va_G) (cI cZ cT : ClassId) (a : Nat → Nat) (t g : Nat → Nat → Int32) (i : Nat) (hi : i < 4)  : CI l D kCl (kTy cI cZ cT) yX2_leastGapOrNone wsX2_leastGapOrNone ({ frames := 0, cells := 0, slots := 0, locals := 0 }) 0 0 [.ref (a i)] (Wl cI cZ cT a t g) (S := Unit) (fun r _ => r = m_gap (t i)) (fun _ => (Wl cI cZ cT a t g)) := by
  refine CI_of (own := RX2) (by decide) rfl rfl (Nat.le_of_ble_eq_true rfl) rfl (fun X A hC hE => ?_)
  refine V_aload_n hC dX2_leastGapOrNone_0 rfl rfl rfl ?_
  refine V_get (C := RX2) (T := TX2) (N := 18) hC dX2_leastGapOrNone_1 in_X2_X2_leastGapOrNone (Wl_t hi) rfl 17 (Nat.le_of_ble_eq_true rfl) fk_X2_leastGapOrNone_65 rfl rfl ?_
  refine V_ldc (v := 1000000) hC dX2_leastGapOrNone_4 k64_X2_leastGapOrNone rfl ?_
  refine V_icmp_ne (tgt := 13) hC dX2_leastGapOrNone_6 (by decide) rfl (fun c_6 => ?_) (fun c_6 => ?_)
  · refine V_aload_n hC dX2_leastGapOrNone_13 rfl rfl rfl ?_
    refine V_get (C := RX2) (T := TX2) (N := 18) hC dX2_leastGapOrNone_14 in_X2_X2_leastGapOrNone (Wl_t hi) rfl 17 (Nat.le_of_ble_eq_true rfl) fk_X2_leastGapOrNone_65 rfl rfl ?_
    exact hE _ () _ _ _ dX2_leastGapOrNone_17 rfl rfl (by simp [m_gap, *])
  · refine V_iconst (v := (-1)) hC dX2_leastGapOrNone_9 (by decide) rfl ?_
    refine V_goto (tgt := 17) hC dX2_leastGapOrNone_10 (by decide) ?_
    exact hE _ () _ _ _ dX2_leastGapOrNone_17 rfl rfl (by simp [m_gap, *])
theorem in_X2_X2_numberNow : ∀ w ∈ u_ws RX2 TX2 18, w ∈ wsX2_numberNow := by decide +kernel
theorem fk_X2_numberNow_25 : Cond.fieldLink RX2 25 (TX2 4).1 (TX2 4).2.1 (TX2 4).2.2.1 ∈ wsX2_numberNow := by decide +kernel
theorem fk_X2_numberNow_28 : Cond.fieldLink RX2 28 (TX2 5).1 (TX2 5).2.1 (TX2 5).2.2.1 ∈ wsX2_numberNow := by decide +kernel
theorem fk_X2_numberNow_31 : Cond.fieldLink RX2 31 (TX2 6).1 (TX2 6).2.1 (TX2 6).2.2.1 ∈ wsX2_numberNow := by decide +kernel
theorem fk_X2_numberNow_21 : Cond.fieldLink RX2 21 (TX2 3).1 (TX2 3).2.1 (TX2 3).2.2.1 ∈ wsX2_numberNow := by decide +kernel
theorem fk_X2_numberNow_34 : Cond.fieldLink RX2 34 (TX2 7).1 (TX2 7).2.1 (TX2 7).2.2.1 ∈ wsX2_numberNow := by decide +kernel
theorem fk_X2_numberNow_40 : Cond.fieldLink RX2 40 (TX2 9).1 (TX2 9).2.1 (TX2 9).2.2.1 ∈ wsX2_numberNow := by decide +kernel
theorem fk_X2_numberNow_43 : Cond.fieldLink RX2 43 (TX2 10).1 (TX2 10).2.1 (TX2 10).2.2.1 ∈ wsX2_numberNow := by decide +kernel
set_option maxRecDepth 100000 in
set_option maxHeartbeats 4000000 in
theorem k_X2_numberNow (l : Launch) (D : va_G) (cI cZ cT : ClassId) (a : Nat → Nat) (t g : Nat → Nat → Int32) (i : Nat) (hi : i < 4) (w : Int32) : CI l D kCl (kTy cI cZ cT) yX2_numberNow wsX2_numberNow ({ frames := 1, cells := 0, slots := 0, locals := 20 }) 0 0 [.ref (a i), .int w] (Wl cI cZ cT a t g) (S := Unit) (fun r _ => r = m_now (t i) w) (fun _ => (Wl cI cZ cT a t g)) := by
  refine CI_of (own := RX2) (by decide) rfl rfl (Nat.le_of_ble_eq_true rfl) rfl (fun X A hC hE => ?_)
  refine V_iload_n hC dX2_numberNow_0 rfl rfl rfl ?_
  by_cases w_0 : w = 0
  · subst w_0
    refine V_tableIn (tgt := 40) (off := 39) hC dX2_numberNow_1 (by decide) (by decide) (by decide) (by decide) ?_
    refine V_aload_n hC dX2_numberNow_40 rfl rfl rfl ?_
    refine V_get (C := RX2) (T := TX2) (N := 18) hC dX2_numberNow_41 in_X2_X2_numberNow (Wl_t hi) rfl 4 (Nat.le_of_ble_eq_true rfl) fk_X2_numberNow_25 rfl rfl ?_
    exact hE _ () _ _ _ dX2_numberNow_44 rfl rfl (by first | rfl | (simp [m_now, *]; done))
  by_cases w_1 : w = 1
  · subst w_1
    refine V_tableIn (tgt := 45) (off := 44) hC dX2_numberNow_1 (by decide) (by decide) (by decide) (by decide) ?_
    refine V_aload_n hC dX2_numberNow_45 rfl rfl rfl ?_
    refine V_callIV (n := 0) hC dX2_numberNow_46 (k_X2_rear l D cI cZ cT a _ _ _ hi) gX2_numberNow_X2_rear rfl ⟨rfl, rfl⟩ (by decide +kernel) ⟨Nat.le_of_ble_eq_true rfl, Nat.le_of_ble_eq_true rfl⟩ ⟨Nat.le_of_ble_eq_true rfl, Nat.le_of_ble_eq_true rfl⟩ (Wl_t hi) rfl rfl rfl (by exact Nat.le_of_ble_eq_true rfl) rfl (fun r_46 u_46 h_46 => ?_)
    subst h_46
    exact hE _ () _ _ _ dX2_numberNow_49 rfl rfl (by first | rfl | (simp [m_now, *]; done))
  by_cases w_2 : w = 2
  · subst w_2
    refine V_tableIn (tgt := 50) (off := 49) hC dX2_numberNow_1 (by decide) (by decide) (by decide) (by decide) ?_
    refine V_aload_n hC dX2_numberNow_50 rfl rfl rfl ?_
    refine V_get (C := RX2) (T := TX2) (N := 18) hC dX2_numberNow_51 in_X2_X2_numberNow (Wl_t hi) rfl 5 (Nat.le_of_ble_eq_true rfl) fk_X2_numberNow_28 rfl rfl ?_
    exact hE _ () _ _ _ dX2_numberNow_54 rfl rfl (by first | rfl | (simp [m_now, *]; done))
  by_cases w_3 : w = 3
  · subst w_3
    refine V_tableIn (tgt := 55) (off := 54) hC dX2_numberNow_1 (by decide) (by decide) (by decide) (by decide) ?_
    refine V_aload_n hC dX2_numberNow_55 rfl rfl rfl ?_
    refine V_get (C := RX2) (T := TX2) (N := 18) hC dX2_numberNow_56 in_X2_X2_numberNow (Wl_t hi) rfl 6 (Nat.le_of_ble_eq_true rfl) fk_X2_numberNow_31 rfl rfl ?_
    exact hE _ () _ _ _ dX2_numberNow_59 rfl rfl (by first | rfl | (simp [m_now, *]; done))
  by_cases w_4 : w = 4
  · subst w_4
    refine V_tableIn (tgt := 60) (off := 59) hC dX2_numberNow_1 (by decide) (by decide) (by decide) (by decide) ?_
    refine V_aload_n hC dX2_numberNow_60 rfl rfl rfl ?_
    refine V_get (C := RX2) (T := TX2) (N := 18) hC dX2_numberNow_61 in_X2_X2_numberNow (Wl_t hi) rfl 3 (Nat.le_of_ble_eq_true rfl) fk_X2_numberNow_21 rfl rfl ?_
    refine V_if_eq (tgt := 71) hC dX2_numberNow_64 (by decide) rfl (fun c_64 => ?_) (fun c_64 => ?_)
    · refine V_iconst (v := 0) hC dX2_numberNow_71 (by decide) rfl ?_
      exact hE _ () _ _ _ dX2_numberNow_72 rfl rfl (by first | rfl | (simp [m_now, *]; done))
    · refine V_iconst (v := 1) hC dX2_numberNow_67 (by decide) rfl ?_
      refine V_goto (tgt := 72) hC dX2_numberNow_68 (by decide) ?_
      exact hE _ () _ _ _ dX2_numberNow_72 rfl rfl (by first | rfl | (simp [m_now, *]; done))
  by_cases w_5 : w = 5
  · subst w_5
    refine V_tableIn (tgt := 73) (off := 72) hC dX2_numberNow_1 (by decide) (by decide) (by decide) (by decide) ?_
    refine V_aload_n hC dX2_numberNow_73 rfl rfl rfl ?_
    refine V_get (C := RX2) (T := TX2) (N := 18) hC dX2_numberNow_74 in_X2_X2_numberNow (Wl_t hi) rfl 7 (Nat.le_of_ble_eq_true rfl) fk_X2_numberNow_34 rfl rfl ?_
    exact hE _ () _ _ _ dX2_numberNow_77 rfl rfl (by first | rfl | (simp [m_now, *]; done))
  have s_0 := sw_no w_0 (z := 0) (by decide)
  have s_1 := sw_no w_1 (z := 1) (by decide)
  have s_2 := sw_no w_2 (z := 2) (by decide)
  have s_3 := sw_no w_3 (z := 3) (by decide)
  have s_4 := sw_no w_4 (z := 4) (by decide)
  have s_5 := sw_no w_5 (z := 5) (by decide)
  refine V_tableOut (tgt := 78) hC dX2_numberNow_1 (by omega) (by decide) ?_
  refine V_aload_n hC dX2_numberNow_78 rfl rfl rfl ?_
  refine V_get (C := RX2) (T := TX2) (N := 18) hC dX2_numberNow_79 in_X2_X2_numberNow (Wl_t hi) rfl 9 (Nat.le_of_ble_eq_true rfl) fk_X2_numberNow_40 rfl rfl ?_
  refine V_if_eq (tgt := 89) hC dX2_numberNow_82 (by decide) rfl (fun c_82 => ?_) (fun c_82 => ?_)
  · refine V_aload_n hC dX2_numberNow_89 rfl rfl rfl ?_
    refine V_get (C := RX2) (T := TX2) (N := 18) hC dX2_numberNow_90 in_X2_X2_numberNow (Wl_t hi) rfl 10 (Nat.le_of_ble_eq_true rfl) fk_X2_numberNow_43 rfl rfl ?_
    refine V_if_eq (tgt := 100) hC dX2_numberNow_93 (by decide) rfl (fun c_93 => ?_) (fun c_93 => ?_)
    · refine V_iconst (v := 0) hC dX2_numberNow_100 (by decide) rfl ?_
      exact hE _ () _ _ _ dX2_numberNow_101 rfl rfl (by first | rfl | (simp [m_now, *]; done))
    · refine V_iconst (v := 2) hC dX2_numberNow_96 (by decide) rfl ?_
      refine V_goto (tgt := 101) hC dX2_numberNow_97 (by decide) ?_
      exact hE _ () _ _ _ dX2_numberNow_101 rfl rfl (by first | rfl | (simp [m_now, *]; done))
  · refine V_iconst (v := 1) hC dX2_numberNow_85 (by decide) rfl ?_
    refine V_goto (tgt := 101) hC dX2_numberNow_86 (by decide) ?_
    exact hE _ () _ _ _ dX2_numberNow_101 rfl rfl (by first | rfl | (simp [m_now, *]; done))
theorem in_X2_X2_numberKept : ∀ w ∈ u_ws RX2 TX2 18, w ∈ wsX2_numberKept := by decide +kernel
theorem fk_X2_numberKept_46 : Cond.fieldLink RX2 46 (TX2 11).1 (TX2 11).2.1 (TX2 11).2.2.1 ∈ wsX2_numberKept := by decide +kernel
theorem fk_X2_numberKept_49 : Cond.fieldLink RX2 49 (TX2 12).1 (TX2 12).2.1 (TX2 12).2.2.1 ∈ wsX2_numberKept := by decide +kernel
theorem fk_X2_numberKept_52 : Cond.fieldLink RX2 52 (TX2 13).1 (TX2 13).2.1 (TX2 13).2.2.1 ∈ wsX2_numberKept := by decide +kernel
theorem fk_X2_numberKept_55 : Cond.fieldLink RX2 55 (TX2 14).1 (TX2 14).2.1 (TX2 14).2.2.1 ∈ wsX2_numberKept := by decide +kernel
theorem fk_X2_numberKept_58 : Cond.fieldLink RX2 58 (TX2 15).1 (TX2 15).2.1 (TX2 15).2.2.1 ∈ wsX2_numberKept := by decide +kernel
theorem fk_X2_numberKept_61 : Cond.fieldLink RX2 61 (TX2 16).1 (TX2 16).2.1 (TX2 16).2.2.1 ∈ wsX2_numberKept := by decide +kernel
set_option maxRecDepth 100000 in
set_option maxHeartbeats 4000000 in
theorem k_X2_numberKept (l : Launch) (D : va_G) (cI cZ cT : ClassId) (a : Nat → Nat) (t g : Nat → Nat → Int32) (i : Nat) (hi : i < 4) (w : Int32) : CI l D kCl (kTy cI cZ cT) yX2_numberKept wsX2_numberKept ({ frames := 1, cells := 0, slots := 0, locals := 20 }) 0 0 [.ref (a i), .int w] (Wl cI cZ cT a t g) (S := Unit) (fun r _ => r = m_kept (t i) w) (fun _ => (Wl cI cZ cT a t g)) := by
  refine CI_of (own := RX2) (by decide) rfl rfl (Nat.le_of_ble_eq_true rfl) rfl (fun X A hC hE => ?_)
  refine V_iload_n hC dX2_numberKept_0 rfl rfl rfl ?_
  by_cases w_8 : w = 8
  · subst w_8
    refine V_tableIn (tgt := 40) (off := 39) hC dX2_numberKept_1 (by decide) (by decide) (by decide) (by decide) ?_
    refine V_aload_n hC dX2_numberKept_40 rfl rfl rfl ?_
    refine V_get (C := RX2) (T := TX2) (N := 18) hC dX2_numberKept_41 in_X2_X2_numberKept (Wl_t hi) rfl 11 (Nat.le_of_ble_eq_true rfl) fk_X2_numberKept_46 rfl rfl ?_
    exact hE _ () _ _ _ dX2_numberKept_44 rfl rfl (by first | rfl | (simp [m_kept, *]; done))
  by_cases w_9 : w = 9
  · subst w_9
    refine V_tableIn (tgt := 45) (off := 44) hC dX2_numberKept_1 (by decide) (by decide) (by decide) (by decide) ?_
    refine V_aload_n hC dX2_numberKept_45 rfl rfl rfl ?_
    refine V_get (C := RX2) (T := TX2) (N := 18) hC dX2_numberKept_46 in_X2_X2_numberKept (Wl_t hi) rfl 12 (Nat.le_of_ble_eq_true rfl) fk_X2_numberKept_49 rfl rfl ?_
    exact hE _ () _ _ _ dX2_numberKept_49 rfl rfl (by first | rfl | (simp [m_kept, *]; done))
  by_cases w_10 : w = 10
  · subst w_10
    refine V_tableIn (tgt := 50) (off := 49) hC dX2_numberKept_1 (by decide) (by decide) (by decide) (by decide) ?_
    refine V_aload_n hC dX2_numberKept_50 rfl rfl rfl ?_
    refine V_get (C := RX2) (T := TX2) (N := 18) hC dX2_numberKept_51 in_X2_X2_numberKept (Wl_t hi) rfl 13 (Nat.le_of_ble_eq_true rfl) fk_X2_numberKept_52 rfl rfl ?_
    exact hE _ () _ _ _ dX2_numberKept_54 rfl rfl (by first | rfl | (simp [m_kept, *]; done))
  by_cases w_11 : w = 11
  · subst w_11
    refine V_tableIn (tgt := 55) (off := 54) hC dX2_numberKept_1 (by decide) (by decide) (by decide) (by decide) ?_
    refine V_aload_n hC dX2_numberKept_55 rfl rfl rfl ?_
    refine V_get (C := RX2) (T := TX2) (N := 18) hC dX2_numberKept_56 in_X2_X2_numberKept (Wl_t hi) rfl 14 (Nat.le_of_ble_eq_true rfl) fk_X2_numberKept_55 rfl rfl ?_
    exact hE _ () _ _ _ dX2_numberKept_59 rfl rfl (by first | rfl | (simp [m_kept, *]; done))
  by_cases w_12 : w = 12
  · subst w_12
    refine V_tableIn (tgt := 60) (off := 59) hC dX2_numberKept_1 (by decide) (by decide) (by decide) (by decide) ?_
    refine V_aload_n hC dX2_numberKept_60 rfl rfl rfl ?_
    refine V_get (C := RX2) (T := TX2) (N := 18) hC dX2_numberKept_61 in_X2_X2_numberKept (Wl_t hi) rfl 15 (Nat.le_of_ble_eq_true rfl) fk_X2_numberKept_58 rfl rfl ?_
    exact hE _ () _ _ _ dX2_numberKept_64 rfl rfl (by first | rfl | (simp [m_kept, *]; done))
  by_cases w_13 : w = 13
  · subst w_13
    refine V_tableIn (tgt := 65) (off := 64) hC dX2_numberKept_1 (by decide) (by decide) (by decide) (by decide) ?_
    refine V_aload_n hC dX2_numberKept_65 rfl rfl rfl ?_
    refine V_get (C := RX2) (T := TX2) (N := 18) hC dX2_numberKept_66 in_X2_X2_numberKept (Wl_t hi) rfl 16 (Nat.le_of_ble_eq_true rfl) fk_X2_numberKept_61 rfl rfl ?_
    exact hE _ () _ _ _ dX2_numberKept_69 rfl rfl (by first | rfl | (simp [m_kept, *]; done))
  have s_8 := sw_no w_8 (z := 8) (by decide)
  have s_9 := sw_no w_9 (z := 9) (by decide)
  have s_10 := sw_no w_10 (z := 10) (by decide)
  have s_11 := sw_no w_11 (z := 11) (by decide)
  have s_12 := sw_no w_12 (z := 12) (by decide)
  have s_13 := sw_no w_13 (z := 13) (by decide)
  refine V_tableOut (tgt := 70) hC dX2_numberKept_1 (by omega) (by decide) ?_
  refine V_aload_n hC dX2_numberKept_70 rfl rfl rfl ?_
  refine V_callIV (n := 0) hC dX2_numberKept_71 (k_X2_leastGapOrNone l D cI cZ cT a _ _ _ hi) gX2_numberKept_X2_leastGapOrNone rfl ⟨rfl, rfl⟩ (by decide +kernel) ⟨Nat.le_of_ble_eq_true rfl, Nat.le_of_ble_eq_true rfl⟩ ⟨Nat.le_of_ble_eq_true rfl, Nat.le_of_ble_eq_true rfl⟩ (Wl_t hi) rfl rfl rfl (by exact Nat.le_of_ble_eq_true rfl) rfl (fun r_71 u_71 h_71 => ?_)
  subst h_71
  exact hE _ () _ _ _ dX2_numberKept_74 rfl rfl (by first | rfl | (simp [m_kept, *]; done))
