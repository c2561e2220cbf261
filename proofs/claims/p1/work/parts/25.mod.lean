set_option maxRecDepth 100000 in
set_option maxHeartbeats 4000000 in
theorem k_X5_is (l : Launch) (D : va_G) (cI cZ cT : ClassId) (x y z : Int32) : CI l D kC2 (kT2 D cI cZ cT) yX5_is wsX5_is ({ frames := 0, cells := 0, slots := 0, locals := 0 }) 0 0 [.int x, .int y, .int z] [] (S := Unit) (fun r _ => r = m_in x y z) (fun _ => []) := by
  refine CI_of (own := RX5) (by decide) rfl rfl (Nat.le_of_ble_eq_true rfl) rfl (fun X A hC hE => ?_)
  refine V_iload_n hC dX5_is_0 rfl rfl rfl ?_
  refine V_iload_n hC dX5_is_1 rfl rfl rfl ?_
  refine V_icmp_lt (tgt := 14) hC dX5_is_2 (by decide) rfl (fun c_2 => ?_) (fun c_2 => ?_)
  · refine V_iconst (v := 0) hC dX5_is_14 (by decide) rfl ?_
    exact hE _ () _ _ _ dX5_is_15 rfl rfl (by simp [m_in, *])
  · refine V_iload_n hC dX5_is_5 rfl rfl rfl ?_
    refine V_iload_n hC dX5_is_6 rfl rfl rfl ?_
    refine V_icmp_gt (tgt := 14) hC dX5_is_7 (by decide) rfl (fun c_7 => ?_) (fun c_7 => ?_)
    · refine V_iconst (v := 0) hC dX5_is_14 (by decide) rfl ?_
      exact hE _ () _ _ _ dX5_is_15 rfl rfl (by simp [m_in, *])
    · refine V_iconst (v := 1) hC dX5_is_10 (by decide) rfl ?_
      refine V_goto (tgt := 15) hC dX5_is_11 (by decide) ?_
      exact hE _ () _ _ _ dX5_is_15 rfl rfl (by simp [m_in, *])
set_option maxRecDepth 100000 in
set_option maxHeartbeats 4000000 in
theorem k_X5_isSection (l : Launch) (D : va_G) (cI cZ cT : ClassId) (x : Int32) : CI l D kC2 (kT2 D cI cZ cT) yX5_isSection wsX5_isSection ({ frames := 1, cells := 0, slots := 0, locals := 22 }) 0 0 [.int x] [] (S := Unit) (fun r _ => r = m_in x 0 19) (fun _ => []) := by
  refine CI_of (own := RX5) (by decide) rfl rfl (Nat.le_of_ble_eq_true rfl) rfl (fun X A hC hE => ?_)
  refine V_iload_n hC dX5_isSection_0 rfl rfl rfl ?_
  refine V_iconst (v := 0) hC dX5_isSection_1 (by decide) rfl ?_
  refine V_bipush (v := 19) hC dX5_isSection_2 (by decide) rfl ?_
  refine V_callIS0 (n := 3) hC dX5_isSection_4 (k_X5_is l D cI cZ cT _ _ _) gX5_isSection_X5_is rfl ⟨rfl, rfl⟩ (by decide +kernel) ⟨Nat.le_of_ble_eq_true rfl, Nat.le_of_ble_eq_true rfl⟩ ⟨Nat.le_of_ble_eq_true rfl, Nat.le_of_ble_eq_true rfl⟩ rfl rfl (by exact Nat.le_of_ble_eq_true rfl) rfl (fun r_4 u_4 h_4 => ?_)
  subst h_4
  exact hE _ () _ _ _ dX5_isSection_7 (nb (m_in01 _ _ _)) rfl (by first | rfl | (simp [*]; done))
set_option maxRecDepth 100000 in
set_option maxHeartbeats 4000000 in
theorem k_X5_isLimit (l : Launch) (D : va_G) (cI cZ cT : ClassId) (x : Int32) : CI l D kC2 (kT2 D cI cZ cT) yX5_isLimit wsX5_isLimit ({ frames := 1, cells := 0, slots := 0, locals := 22 }) 0 0 [.int x] [] (S := Unit) (fun r _ => r = m_in x 1 40) (fun _ => []) := by
  refine CI_of (own := RX5) (by decide) rfl rfl (Nat.le_of_ble_eq_true rfl) rfl (fun X A hC hE => ?_)
  refine V_iload_n hC dX5_isLimit_0 rfl rfl rfl ?_
  refine V_iconst (v := 1) hC dX5_isLimit_1 (by decide) rfl ?_
  refine V_bipush (v := 40) hC dX5_isLimit_2 (by decide) rfl ?_
  refine V_callIS0 (n := 3) hC dX5_isLimit_4 (k_X5_is l D cI cZ cT _ _ _) gX5_isLimit_X5_is rfl ⟨rfl, rfl⟩ (by decide +kernel) ⟨Nat.le_of_ble_eq_true rfl, Nat.le_of_ble_eq_true rfl⟩ ⟨Nat.le_of_ble_eq_true rfl, Nat.le_of_ble_eq_true rfl⟩ rfl rfl (by exact Nat.le_of_ble_eq_true rfl) rfl (fun r_4 u_4 h_4 => ?_)
  subst h_4
  exact hE _ () _ _ _ dX5_isLimit_7 (nb (m_in01 _ _ _)) rfl (by first | rfl | (simp [*]; done))
theorem in_X5_X5_isTrain : ∀ w ∈ u_ws RX5 TX5 3, w ∈ wsX5_isTrain := by decide +kernel
theorem fk_X5_isTrain_10 : Cond.fieldLink RX5 10 (TX5 1).1 (TX5 1).2.1 (TX5 1).2.2.1 ∈ wsX5_isTrain := by decide +kernel
theorem in_X4_X5_isTrain : ∀ w ∈ u_ws RX4 TX4 7, w ∈ wsX5_isTrain := by decide +kernel
set_option maxRecDepth 100000 in
set_option maxHeartbeats 4000000 in
theorem k_X5_isTrain (l : Launch) (D : va_G) (cI cZ cT : ClassId) (m : Nat) (th : Int32) (sm : Int64) (r : Nat → Nat) (F : Nat → Nat → Int32) (v : Nat → Int32) (e : Nat)  (x : Int32) : CI l D kC2 (kT2 D cI cZ cT) yX5_isTrain wsX5_isTrain ({ frames := 1, cells := 0, slots := 0, locals := 22 }) 0 0 [.ref m, .int x] (Wm D cI m th sm r F v e) (S := Unit) (fun r _ => r = m_in x 0 (v 1 - 1)) (fun _ => Wm D cI m th sm r F v e) := by
  refine CI_of (own := RX5) (by decide) rfl rfl (Nat.le_of_ble_eq_true rfl) rfl (fun X A hC hE => ?_)
  refine V_iload_n hC dX5_isTrain_0 rfl rfl rfl ?_
  refine V_iconst (v := 0) hC dX5_isTrain_1 (by decide) rfl ?_
  refine V_aload_n hC dX5_isTrain_2 rfl rfl rfl ?_
  refine V_get (q0 := 0) (C := RX5) (T := TX5) (N := 3) hC dX5_isTrain_3 in_X5_X5_isTrain rfl rfl 1 (Nat.le_of_ble_eq_true rfl) fk_X5_isTrain_10 rfl rfl ?_
  refine V_getN (q0 := 1) (C := RX4) (T := TX4) (N := 7) (ref := RX4) (host := RX5) hC dX5_isTrain_6 in_X4_X5_isTrain rfl rfl 4 (Nat.le_of_ble_eq_true rfl) (by decide +kernel) rfl rfl rfl ?_
  refine V_iconst (v := 1) hC dX5_isTrain_9 (by decide) rfl ?_
  refine V_isub hC dX5_isTrain_10 rfl ?_
  refine V_callIS0 (n := 3) hC dX5_isTrain_11 (k_X5_is l D cI cZ cT _ _ _) gX5_isTrain_X5_is rfl ⟨rfl, rfl⟩ (by decide +kernel) ⟨Nat.le_of_ble_eq_true rfl, Nat.le_of_ble_eq_true rfl⟩ ⟨Nat.le_of_ble_eq_true rfl, Nat.le_of_ble_eq_true rfl⟩ rfl rfl (by exact Nat.le_of_ble_eq_true rfl) rfl (fun r_11 u_11 h_11 => ?_)
  subst h_11
  exact hE _ () _ _ _ dX5_isTrain_14 (nb (m_in01 _ _ _)) rfl (by first | rfl | (simp [*]; done))
theorem in_X5_X5_isStation : ∀ w ∈ u_ws RX5 TX5 3, w ∈ wsX5_isStation := by decide +kernel
theorem fk_X5_isStation_10 : Cond.fieldLink RX5 10 (TX5 1).1 (TX5 1).2.1 (TX5 1).2.2.1 ∈ wsX5_isStation := by decide +kernel
theorem in_X4_X5_isStation : ∀ w ∈ u_ws RX4 TX4 7, w ∈ wsX5_isStation := by decide +kernel
set_option maxRecDepth 100000 in
set_option maxHeartbeats 4000000 in
theorem k_X5_isStation (l : Launch) (D : va_G) (cI cZ cT : ClassId) (m : Nat) (th : Int32) (sm : Int64) (r : Nat → Nat) (F : Nat → Nat → Int32) (v : Nat → Int32) (e : Nat)  (x : Int32) : CI l D kC2 (kT2 D cI cZ cT) yX5_isStation wsX5_isStation ({ frames := 1, cells := 0, slots := 0, locals := 22 }) 0 0 [.ref m, .int x] (Wm D cI m th sm r F v e) (S := Unit) (fun r _ => r = m_in x 0 (v 0 - 1)) (fun _ => Wm D cI m th sm r F v e) := by
  refine CI_of (own := RX5) (by decide) rfl rfl (Nat.le_of_ble_eq_true rfl) rfl (fun X A hC hE => ?_)
  refine V_iload_n hC dX5_isStation_0 rfl rfl rfl ?_
  refine V_iconst (v := 0) hC dX5_isStation_1 (by decide) rfl ?_
  refine V_aload_n hC dX5_isStation_2 rfl rfl rfl ?_
  refine V_get (q0 := 0) (C := RX5) (T := TX5) (N := 3) hC dX5_isStation_3 in_X5_X5_isStation rfl rfl 1 (Nat.le_of_ble_eq_true rfl) fk_X5_isStation_10 rfl rfl ?_
  refine V_getN (q0 := 1) (C := RX4) (T := TX4) (N := 7) (ref := RX4) (host := RX5) hC dX5_isStation_6 in_X4_X5_isStation rfl rfl 2 (Nat.le_of_ble_eq_true rfl) (by decide +kernel) rfl rfl rfl ?_
  refine V_iconst (v := 1) hC dX5_isStation_9 (by decide) rfl ?_
  refine V_isub hC dX5_isStation_10 rfl ?_
  refine V_callIS0 (n := 3) hC dX5_isStation_11 (k_X5_is l D cI cZ cT _ _ _) gX5_isStation_X5_is rfl ⟨rfl, rfl⟩ (by decide +kernel) ⟨Nat.le_of_ble_eq_true rfl, Nat.le_of_ble_eq_true rfl⟩ ⟨Nat.le_of_ble_eq_true rfl, Nat.le_of_ble_eq_true rfl⟩ rfl rfl (by exact Nat.le_of_ble_eq_true rfl) rfl (fun r_11 u_11 h_11 => ?_)
  subst h_11
  exact hE _ () _ _ _ dX5_isStation_14 (nb (m_in01 _ _ _)) rfl (by first | rfl | (simp [*]; done))
theorem in_X5_X5_refuse : ∀ w ∈ u_ws RX5 TX5 3, w ∈ wsX5_refuse := by decide +kernel
theorem fk_X5_refuse_16 : Cond.fieldLink RX5 16 (TX5 0).1 (TX5 0).2.1 (TX5 0).2.2.1 ∈ wsX5_refuse := by decide +kernel
set_option maxRecDepth 100000 in
set_option maxHeartbeats 4000000 in
theorem k_X5_refuse (l : Launch) (D : va_G) (cI cZ cT : ClassId) (m : Nat) (th : Int32) (sm : Int64) (r : Nat → Nat) (F : Nat → Nat → Int32) (v : Nat → Int32) (e : Nat)  (k : Int32) : CI l D kC2 (kT2 D cI cZ cT) yX5_refuse wsX5_refuse ({ frames := 0, cells := 0, slots := 0, locals := 0 }) 0 0 [.ref m, .int k] (Wm D cI m th sm r F v e) (S := Unit) (fun r _ => r = 0) (fun _ => Wm D cI m k sm r F v e) := by
  refine CI_of (own := RX5) (by decide) rfl rfl (Nat.le_of_ble_eq_true rfl) rfl (fun X A hC hE => ?_)
  refine V_aload_n hC dX5_refuse_0 rfl rfl rfl ?_
  refine V_iload_n hC dX5_refuse_1 rfl rfl rfl ?_
  refine V_put (q0 := 0) (C := RX5) (T := TX5) (N := 3) hC dX5_refuse_2 in_X5_X5_refuse tyX5 tyX5_ok nmX5 rfl rfl 0 (Nat.le_of_ble_eq_true rfl) fk_X5_refuse_16 rfl rfl rfl rfl (Nat.le_of_ble_eq_true rfl) Wm_th rfl ?_
  refine V_iconst (v := 0) hC dX5_refuse_5 (by decide) rfl ?_
  exact hE _ () _ _ _ dX5_refuse_6 rfl rfl (by first | rfl | (simp [*]; done))
theorem in_X5_X5_thrown : ∀ w ∈ u_ws RX5 TX5 3, w ∈ wsX5_thrown := by decide +kernel
theorem fk_X5_thrown_16 : Cond.fieldLink RX5 16 (TX5 0).1 (TX5 0).2.1 (TX5 0).2.2.1 ∈ wsX5_thrown := by decide +kernel
set_option maxRecDepth 100000 in
set_option maxHeartbeats 4000000 in
theorem k_X5_thrown (l : Launch) (D : va_G) (cI cZ cT : ClassId) (m : Nat) (th : Int32) (sm : Int64) (r : Nat → Nat) (F : Nat → Nat → Int32) (v : Nat → Int32) (e : Nat)   : CI l D kC2 (kT2 D cI cZ cT) yX5_thrown wsX5_thrown ({ frames := 0, cells := 0, slots := 0, locals := 0 }) 0 0 [.ref m] (Wm D cI m th sm r F v e) (S := Unit) (fun r _ => r = th) (fun _ => Wm D cI m th sm r F v e) := by
  refine CI_of (own := RX5) (by decide) rfl rfl (Nat.le_of_ble_eq_true rfl) rfl (fun X A hC hE => ?_)
  refine V_aload_n hC dX5_thrown_0 rfl rfl rfl ?_
  refine V_get (q0 := 0) (C := RX5) (T := TX5) (N := 3) hC dX5_thrown_1 in_X5_X5_thrown rfl rfl 0 (Nat.le_of_ble_eq_true rfl) fk_X5_thrown_16 rfl rfl ?_
  exact hE _ () _ _ _ dX5_thrown_4 rfl rfl (by first | rfl | (simp [*]; done))
theorem in_X5_X5_isRunning : ∀ w ∈ u_ws RX5 TX5 3, w ∈ wsX5_isRunning := by decide +kernel
theorem fk_X5_isRunning_10 : Cond.fieldLink RX5 10 (TX5 1).1 (TX5 1).2.1 (TX5 1).2.2.1 ∈ wsX5_isRunning := by decide +kernel
theorem in_X4_X5_isRunning : ∀ w ∈ u_ws RX4 TX4 7, w ∈ wsX5_isRunning := by decide +kernel
set_option maxRecDepth 100000 in
set_option maxHeartbeats 4000000 in
theorem k_X5_isRunning (l : Launch) (D : va_G) (cI cZ cT : ClassId) (m : Nat) (th : Int32) (sm : Int64) (r : Nat → Nat) (F : Nat → Nat → Int32) (v : Nat → Int32) (e : Nat) (h1 : v 1 = 0)  : CI l D kC2 (kT2 D cI cZ cT) yX5_isRunning wsX5_isRunning ({ frames := 0, cells := 0, slots := 0, locals := 0 }) 0 0 [.ref m] (Wm D cI m th sm r F v e) (S := Unit) (fun r _ => r = 0) (fun _ => Wm D cI m th sm r F v e) := by
  refine CI_of (own := RX5) (by decide) rfl rfl (Nat.le_of_ble_eq_true rfl) rfl (fun X A hC hE => ?_)
  refine V_iconst (v := 0) hC dX5_isRunning_0 (by decide) rfl ?_
  refine V_istore_n hC dX5_isRunning_1 rfl (Nat.le_of_ble_eq_true rfl) rfl ?_
  refine V_iconst (v := 0) hC dX5_isRunning_2 (by decide) rfl ?_
  refine V_istore_n hC dX5_isRunning_3 rfl (Nat.le_of_ble_eq_true rfl) rfl ?_
  refine V_iload_n hC dX5_isRunning_4 rfl rfl rfl ?_
  refine V_aload_n hC dX5_isRunning_5 rfl rfl rfl ?_
  refine V_get (q0 := 0) (C := RX5) (T := TX5) (N := 3) hC dX5_isRunning_6 in_X5_X5_isRunning rfl rfl 1 (Nat.le_of_ble_eq_true rfl) fk_X5_isRunning_10 rfl rfl ?_
  refine V_getN (q0 := 1) (C := RX4) (T := TX4) (N := 7) (ref := RX4) (host := RX5) hC dX5_isRunning_9 in_X4_X5_isRunning rfl rfl 4 (Nat.le_of_ble_eq_true rfl) (by decide +kernel) rfl rfl rfl ?_
  refine V_icmp_ge (tgt := 32) hC dX5_isRunning_12 (by decide) rfl (fun c_12 => ?_) (fun c_12 => ?_)
  · refine V_iload_n hC dX5_isRunning_32 rfl rfl rfl ?_
    exact hE _ () _ _ _ dX5_isRunning_33 rfl rfl (by first | rfl | (simp [*]; done))
  · rw [h1] at c_12
    exact absurd (by decide) c_12
theorem in_X4_X4_sum : ∀ w ∈ u_ws RX4 TX4 7, w ∈ wsX4_sum := by decide +kernel
theorem fk_X4_sum_38 : Cond.fieldLink RX4 38 (TX4 4).1 (TX4 4).2.1 (TX4 4).2.2.1 ∈ wsX4_sum := by decide +kernel
set_option maxRecDepth 100000 in
set_option maxHeartbeats 4000000 in
theorem k_X4_sum (l : Launch) (D : va_G) (cI cZ cT : ClassId) (r : Nat → Nat) (F : Nat → Nat → Int32) (v : Nat → Int32) (e : Nat) (h1 : v 1 = 0) (w : Int32) : CI l D kC2 (kT2 D cI cZ cT) yX4_sum wsX4_sum ({ frames := 0, cells := 0, slots := 0, locals := 0 }) 0 0 [.ref (r 0), .int w] (WM D cI r F v e) (S := Unit) (fun r _ => r = 0) (fun _ => WM D cI r F v e) := by
  refine CI_of (own := RX4) (by decide) rfl rfl (Nat.le_of_ble_eq_true rfl) rfl (fun X A hC hE => ?_)
  refine V_iconst (v := 0) hC dX4_sum_0 (by decide) rfl ?_
  refine V_istore_n hC dX4_sum_1 rfl (Nat.le_of_ble_eq_true rfl) rfl ?_
  refine V_iconst (v := 0) hC dX4_sum_2 (by decide) rfl ?_
  refine V_istore_n hC dX4_sum_3 rfl (Nat.le_of_ble_eq_true rfl) rfl ?_
  refine V_iload_n hC dX4_sum_4 rfl rfl rfl ?_
  refine V_aload_n hC dX4_sum_5 rfl rfl rfl ?_
  refine V_get (q0 := 0) (C := RX4) (T := TX4) (N := 7) hC dX4_sum_6 in_X4_X4_sum rfl rfl 4 (Nat.le_of_ble_eq_true rfl) fk_X4_sum_38 rfl rfl ?_
  refine V_icmp_ge (tgt := 29) hC dX4_sum_9 (by decide) rfl (fun c_9 => ?_) (fun c_9 => ?_)
  · refine V_iload_n hC dX4_sum_29 rfl rfl rfl ?_
    exact hE _ () _ _ _ dX4_sum_30 rfl rfl (by first | rfl | (simp [*]; done))
  · exact absurd (by show v 1 ≤ 0; rw [h1]; decide) c_9
theorem in_X4_X4_hinders : ∀ w ∈ u_ws RX4 TX4 7, w ∈ wsX4_hinders := by decide +kernel
theorem fk_X4_hinders_38 : Cond.fieldLink RX4 38 (TX4 4).1 (TX4 4).2.1 (TX4 4).2.2.1 ∈ wsX4_hinders := by decide +kernel
set_option maxRecDepth 100000 in
set_option maxHeartbeats 4000000 in
theorem k_X4_hinders (l : Launch) (D : va_G) (cI cZ cT : ClassId) (r : Nat → Nat) (F : Nat → Nat → Int32) (v : Nat → Int32) (e : Nat) (h1 : v 1 = 0) (f l1 : Int32) : CI l D kC2 (kT2 D cI cZ cT) yX4_hinders wsX4_hinders ({ frames := 0, cells := 0, slots := 0, locals := 0 }) 0 0 [.ref (r 0), .int f, .int l1] (WM D cI r F v e) (S := Unit) (fun r _ => r = 0) (fun _ => WM D cI r F v e) := by
  refine CI_of (own := RX4) (by decide) rfl rfl (Nat.le_of_ble_eq_true rfl) rfl (fun X A hC hE => ?_)
  refine V_iconst (v := 0) hC dX4_hinders_0 (by decide) rfl ?_
  refine V_istore_n hC dX4_hinders_1 rfl (Nat.le_of_ble_eq_true rfl) rfl ?_
  refine V_iconst (v := 0) hC dX4_hinders_2 (by decide) rfl ?_
  refine V_istore hC dX4_hinders_3 (Nat.le_of_ble_eq_true rfl) rfl ?_
  refine V_iload hC dX4_hinders_5 rfl rfl ?_
  refine V_aload_n hC dX4_hinders_7 rfl rfl rfl ?_
  refine V_get (q0 := 0) (C := RX4) (T := TX4) (N := 7) hC dX4_hinders_8 in_X4_X4_hinders rfl rfl 4 (Nat.le_of_ble_eq_true rfl) fk_X4_hinders_38 rfl rfl ?_
  refine V_icmp_ge (tgt := 85) hC dX4_hinders_11 (by decide) rfl (fun c_11 => ?_) (fun c_11 => ?_)
  · refine V_iload_n hC dX4_hinders_85 rfl rfl rfl ?_
    refine V_if_eq (tgt := 94) hC dX4_hinders_86 (by decide) rfl (fun _ => ?_) (fun c => absurd c (by decide))
    refine V_iconst (v := 0) hC dX4_hinders_94 (by decide) rfl ?_
    exact hE _ () _ _ _ dX4_hinders_95 rfl rfl (by first | rfl | (simp [*]; done))
  · exact absurd (by show v 1 ≤ 0; rw [h1]; decide) c_11
theorem in_X4_X4_pass : ∀ w ∈ u_ws RX4 TX4 7, w ∈ wsX4_pass := by decide +kernel
theorem fk_X4_pass_45 : Cond.fieldLink RX4 45 (TX4 6).1 (TX4 6).2.1 (TX4 6).2.2.1 ∈ wsX4_pass := by decide +kernel
theorem fk_X4_pass_38 : Cond.fieldLink RX4 38 (TX4 4).1 (TX4 4).2.1 (TX4 4).2.2.1 ∈ wsX4_pass := by decide +kernel
set_option maxRecDepth 100000 in
set_option maxHeartbeats 4000000 in
theorem k_X4_pass (l : Launch) (D : va_G) (cI cZ cT : ClassId) (r : Nat → Nat) (F : Nat → Nat → Int32) (v : Nat → Int32) (e : Nat) (h1 : v 1 = 0)  : CV l D kC2 (kT2 D cI cZ cT) yX4_pass wsX4_pass ({ frames := 0, cells := 0, slots := 0, locals := 0 }) 0 0 [.ref (r 0)] (WM D cI r F v e) (S := Unit) (fun _ => True) (fun _ => WM D cI r F (upd v 2 (v 2 + 1)) e) := by
  refine CV_of (own := RX4) (by decide) rfl rfl (Nat.le_of_ble_eq_true rfl) rfl (fun X A hC hE => ?_)
  refine V_aload_n hC dX4_pass_0 rfl rfl rfl ?_
  refine V_dup hC dX4_pass_1 rfl rfl ?_
  refine V_get (q0 := 0) (C := RX4) (T := TX4) (N := 7) hC dX4_pass_2 in_X4_X4_pass rfl rfl 6 (Nat.le_of_ble_eq_true rfl) fk_X4_pass_45 rfl rfl ?_
  refine V_iconst (v := 1) hC dX4_pass_5 (by decide) rfl ?_
  refine V_iadd hC dX4_pass_6 rfl ?_
  refine V_put (q0 := 0) (C := RX4) (T := TX4) (N := 7) hC dX4_pass_7 in_X4_X4_pass tyX4 tyX4_ok nmX4 rfl rfl 6 (Nat.le_of_ble_eq_true rfl) fk_X4_pass_45 rfl rfl rfl rfl (Nat.le_of_ble_eq_true rfl) WM_v2 rfl ?_
  refine V_iconst (v := 0) hC dX4_pass_10 (by decide) rfl ?_
  refine V_istore_n hC dX4_pass_11 rfl (Nat.le_of_ble_eq_true rfl) rfl ?_
  refine V_iload_n hC dX4_pass_12 rfl rfl rfl ?_
  refine V_aload_n hC dX4_pass_13 rfl rfl rfl ?_
  refine V_get (q0 := 0) (C := RX4) (T := TX4) (N := 7) hC dX4_pass_14 in_X4_X4_pass rfl rfl 4 (Nat.le_of_ble_eq_true rfl) fk_X4_pass_38 rfl rfl ?_
  refine V_icmp_ge (tgt := 64) hC dX4_pass_17 (by decide) rfl (fun c_17 => ?_) (fun c_17 => ?_)
  · refine V_iconst (v := 0) hC dX4_pass_64 (by decide) rfl ?_
    refine V_istore_n hC dX4_pass_65 rfl (Nat.le_of_ble_eq_true rfl) rfl ?_
    refine V_iload_n hC dX4_pass_66 rfl rfl rfl ?_
    refine V_aload_n hC dX4_pass_67 rfl rfl rfl ?_
    refine V_get (q0 := 0) (C := RX4) (T := TX4) (N := 7) hC dX4_pass_68 in_X4_X4_pass rfl rfl 4 (Nat.le_of_ble_eq_true rfl) fk_X4_pass_38 rfl rfl ?_
    refine V_icmp_ge (tgt := 135) hC dX4_pass_71 (by decide) rfl (fun c_71 => ?_) (fun c_71 => ?_)
    · refine V_iconst (v := 0) hC dX4_pass_135 (by decide) rfl ?_
      refine V_istore_n hC dX4_pass_136 rfl (Nat.le_of_ble_eq_true rfl) rfl ?_
      refine V_iload_n hC dX4_pass_137 rfl rfl rfl ?_
      refine V_aload_n hC dX4_pass_138 rfl rfl rfl ?_
      refine V_get (q0 := 0) (C := RX4) (T := TX4) (N := 7) hC dX4_pass_139 in_X4_X4_pass rfl rfl 4 (Nat.le_of_ble_eq_true rfl) fk_X4_pass_38 rfl rfl ?_
      refine V_icmp_ge (tgt := 193) hC dX4_pass_142 (by decide) rfl (fun c_142 => ?_) (fun c_142 => ?_)
      · refine V_iconst (v := 0) hC dX4_pass_193 (by decide) rfl ?_
        refine V_istore_n hC dX4_pass_194 rfl (Nat.le_of_ble_eq_true rfl) rfl ?_
        refine V_iload_n hC dX4_pass_195 rfl rfl rfl ?_
        refine V_aload_n hC dX4_pass_196 rfl rfl rfl ?_
        refine V_get (q0 := 0) (C := RX4) (T := TX4) (N := 7) hC dX4_pass_197 in_X4_X4_pass rfl rfl 4 (Nat.le_of_ble_eq_true rfl) fk_X4_pass_38 rfl rfl ?_
        refine V_icmp_ge (tgt := 222) hC dX4_pass_200 (by decide) rfl (fun c_200 => ?_) (fun c_200 => ?_)
        · refine V_iconst (v := 0) hC dX4_pass_222 (by decide) rfl ?_
          refine V_istore_n hC dX4_pass_223 rfl (Nat.le_of_ble_eq_true rfl) rfl ?_
          refine V_iload_n hC dX4_pass_224 rfl rfl rfl ?_
          refine V_aload_n hC dX4_pass_225 rfl rfl rfl ?_
          refine V_get (q0 := 0) (C := RX4) (T := TX4) (N := 7) hC dX4_pass_226 in_X4_X4_pass rfl rfl 4 (Nat.le_of_ble_eq_true rfl) fk_X4_pass_38 rfl rfl ?_
          refine V_icmp_ge (tgt := 283) hC dX4_pass_229 (by decide) rfl (fun c_229 => ?_) (fun c_229 => ?_)
          · exact hE () _ _ _ dX4_pass_283 trivial rfl trivial
          · exact absurd (by show v 1 ≤ 0; rw [h1]; decide) c_229
        · exact absurd (by show v 1 ≤ 0; rw [h1]; decide) c_200
      · exact absurd (by show v 1 ≤ 0; rw [h1]; decide) c_142
    · exact absurd (by show v 1 ≤ 0; rw [h1]; decide) c_71
  · exact absurd (by show v 1 ≤ 0; rw [h1]; decide) c_17
set_option maxRecDepth 100000 in
set_option maxHeartbeats 4000000 in
theorem k_X4_pass_ (l : Launch) (D : va_G) (cI cZ cT : ClassId) (r : Nat → Nat) (F : Nat → Nat → Int32) (v : Nat → Int32) (e : Nat) (h1 : v 1 = 0) (n : Nat) (hn : n ≤ 300) : CV l D kC2 (kT2 D cI cZ cT) yX4_pass_ wsX4_pass_ ({ frames := 1, cells := 0, slots := 0, locals := 22 }) 0 0 [.ref (r 0), .int (nI n)] (WM D cI r F v e) (S := (Nat → Int32)) (fun u => u 1 = 0) (fun u => WM D cI r F u e) := by
  refine CV_of (own := RX4) (by decide) rfl rfl (Nat.le_of_ble_eq_true rfl) rfl (fun X A hC hE => ?_)
  refine V_iconst (v := 0) hC dX4_pass__0 (by decide) rfl ?_
  refine V_istore_n hC dX4_pass__1 rfl (Nat.le_of_ble_eq_true rfl) rfl ?_
  have loop_2 : ∀ (d k : Nat) (v2 : Nat → Int32), n - k < d → k ≤ n → v2 1 = 0 → V X 0 0 (WM D cI r F v2 e) [(0, .ref (r 0)), (1, .int (nI n)), (2, .int (nI k))] 2 [] := by
    intro d
    induction d with
    | zero => intro k v2 h; exact absurd h (Nat.not_lt_zero _)
    | succ d ih =>
      intro k v2 h hk h2
      refine V_iload_n hC dX4_pass__2 rfl rfl rfl ?_
      refine V_iload_n hC dX4_pass__3 rfl rfl rfl ?_
      refine V_icmp_ge (tgt := 17) hC dX4_pass__4 (by decide) rfl (fun c_4 => ?_) (fun c_4 => ?_)
      · have c1 := nI_le' c_4 (by omega) (by omega)
        obtain rfl : n = k := by omega
        exact hE _ _ _ _ dX4_pass__17 trivial rfl h2
      · have c1 := nI_nle' c_4 (by omega) (by omega)
        refine V_aload_n hC dX4_pass__7 rfl rfl rfl ?_
        refine V_callVV (q0 := 0) (n := 0) hC dX4_pass__8 (k_X4_pass l D cI cZ cT _ _ _ _ h2) gX4_pass__X4_pass rfl ⟨rfl, rfl⟩ (by decide +kernel) ⟨Nat.le_of_ble_eq_true rfl, Nat.le_of_ble_eq_true rfl⟩ ⟨Nat.le_of_ble_eq_true rfl, Nat.le_of_ble_eq_true rfl⟩ rfl rfl rfl rfl (by exact Nat.le_of_ble_eq_true rfl) rfl (fun u_8 h_8 => ?_)
        refine V_iinc hC dX4_pass__11 rfl (nI_1 k) (Nat.le_of_ble_eq_true rfl) rfl ?_
        refine V_goto (tgt := 2) hC dX4_pass__14 (by decide) ?_
        exact V_to (ih (k + 1) (upd v2 2 (v2 2 + 1)) (by omega) (by omega) h2) (lc rfl (lc rfl (lc rfl ln)))
  exact V_to (loop_2 _ 0 v (Nat.lt_succ_self _) (by omega) h1) (lc rfl (lc rfl (lc (kv nI_0.symm) ln)))
set_option maxRecDepth 100000 in
set_option maxHeartbeats 4000000 in
theorem k_X5_rear (l : Launch) (D : va_G) (cI cZ cT : ClassId) (r : Nat → Nat) (F : Nat → Nat → Int32) (v : Nat → Int32) (e : Nat) (i : Nat) (hi : i < 4) : CI l D kC2 (kT2 D cI cZ cT) yX5_rear wsX5_rear ({ frames := 0, cells := 0, slots := 0, locals := 0 }) 0 0 [.ref (r (28 + i))] (WM D cI r F v e) (S := Unit) (fun _ _ => True) (fun _ => WM D cI r F v e) := by
  refine CI_of (own := RX5) (by decide) rfl rfl (Nat.le_of_ble_eq_true rfl) rfl (fun X A hC hE => ?_)
  refine V_aload_n hC dX5_rear_0 rfl rfl rfl ?_
  refine V_iconst (v := 0) hC dX5_rear_1 (by decide) rfl ?_
  refine V_iald hC dX5_rear_2 (WM_n hi) 0 rfl (show (0 : Int32) = nI 0 from rfl) (by decide) (by decide) rfl ?_
  refine V_aload_n hC dX5_rear_3 rfl rfl rfl ?_
  refine V_iconst (v := 1) hC dX5_rear_4 (by decide) rfl ?_
  refine V_iald hC dX5_rear_5 (WM_n hi) 0 rfl (show (1 : Int32) = nI 1 from rfl) (by decide) (by decide) rfl ?_
  refine V_isub hC dX5_rear_6 rfl ?_
  refine V_iconst (v := 1) hC dX5_rear_7 (by decide) rfl ?_
  refine V_iadd hC dX5_rear_8 rfl ?_
  exact hE _ () _ _ _ dX5_rear_9 rfl rfl (by first | rfl | (simp [*]; done))
theorem in_X4_X4_report : ∀ w ∈ u_ws RX4 TX4 7, w ∈ wsX4_report := by decide +kernel
theorem fk_X4_report_45 : Cond.fieldLink RX4 45 (TX4 6).1 (TX4 6).2.1 (TX4 6).2.2.1 ∈ wsX4_report := by decide +kernel
theorem iniX5_X4_report : Cond.initialized RX5 ∈ wsX4_report := by decide +kernel
theorem staX5_rear_X4_report : Cond.static yX5_rear ∈ wsX4_report := by decide +kernel
set_option maxRecDepth 100000 in
set_option maxHeartbeats 4000000 in
theorem k_X4_report (l : Launch) (D : va_G) (cI cZ cT : ClassId) (r : Nat → Nat) (F : Nat → Nat → Int32) (v : Nat → Int32) (e : Nat)  (i : Nat) (hi : i < 4) : CV l D kC2 (kT2 D cI cZ cT) yX4_report wsX4_report ({ frames := 1, cells := 0, slots := 0, locals := 20 }) 0 0 [.ref (r 0), .ref (r (28 + i))] (WM D cI r F v e) (S := (Nat → Nat → Int32)) (fun _ => True) (fun u => WM D cI r u v e) := by
  refine CV_of (own := RX4) (by decide) rfl rfl (Nat.le_of_ble_eq_true rfl) rfl (fun X A hC hE => ?_)
  refine V_aload_n hC dX4_report_0 rfl rfl rfl ?_
  refine V_bipush (v := 8) hC dX4_report_1 (by decide) rfl ?_
  refine V_aload_n hC dX4_report_3 rfl rfl rfl ?_
  refine V_iconst (v := 0) hC dX4_report_4 (by decide) rfl ?_
  refine V_iald hC dX4_report_5 (WM_n hi) 0 rfl (show (0 : Int32) = nI 0 from rfl) (by decide) (by decide) rfl ?_
  refine V_iast hC dX4_report_6 (WM_n hi) 0 rfl (show (8 : Int32) = nI 8 from rfl) (by decide) (by decide) (WM_nu hi) rfl ?_
  refine V_aload_n hC dX4_report_7 rfl rfl rfl ?_
  refine V_bipush (v := 6) hC dX4_report_8 (by decide) rfl ?_
  refine V_iald hC dX4_report_10 (WM_n hi) 0 rfl (show (6 : Int32) = nI 6 from rfl) (by decide) (by decide) rfl ?_
  refine V_iconst (v := 1) hC dX4_report_11 (by decide) rfl ?_
  refine V_icmp_ne (tgt := 23) hC dX4_report_12 (by decide) rfl (fun c_12 => ?_) (fun c_12 => ?_)
  · refine V_aload_n hC dX4_report_23 rfl rfl rfl ?_
    refine V_bipush (v := 10) hC dX4_report_24 (by decide) rfl ?_
    refine V_aload_n hC dX4_report_26 rfl rfl rfl ?_
    refine V_get (q0 := 0) (C := RX4) (T := TX4) (N := 7) hC dX4_report_27 in_X4_X4_report rfl rfl 6 (Nat.le_of_ble_eq_true rfl) fk_X4_report_45 rfl rfl ?_
    refine V_iast hC dX4_report_30 (WM_n hi) 0 rfl (show (10 : Int32) = nI 10 from rfl) (by decide) (by decide) (WM_nu hi) rfl ?_
    exact hE _ _ _ _ dX4_report_31 trivial rfl trivial
  · refine V_aload_n hC dX4_report_15 rfl rfl rfl ?_
    refine V_bipush (v := 9) hC dX4_report_16 (by decide) rfl ?_
    refine V_aload_n hC dX4_report_18 rfl rfl rfl ?_
    refine V_callIN (n := 1) (host := RX5) hC dX4_report_19 (k_X5_rear l D cI cZ cT _ _ _ _ i hi) gX4_report_X5_rear_n72 (by decide +kernel) iniX5_X4_report staX5_rear_X4_report rfl ⟨rfl, rfl⟩ (by decide +kernel) ⟨Nat.le_of_ble_eq_true rfl, Nat.le_of_ble_eq_true rfl⟩ ⟨Nat.le_of_ble_eq_true rfl, Nat.le_of_ble_eq_true rfl⟩ rfl rfl (by exact Nat.le_of_ble_eq_true rfl) rfl (fun r_19 u_19 h_19 => ?_)
    refine V_iast hC dX4_report_22 (WM_n hi) 0 rfl (show (9 : Int32) = nI 9 from rfl) (by decide) (by decide) (WM_nu hi) rfl ?_
    refine V_aload_n hC dX4_report_23 rfl rfl rfl ?_
    refine V_bipush (v := 10) hC dX4_report_24 (by decide) rfl ?_
    refine V_aload_n hC dX4_report_26 rfl rfl rfl ?_
    refine V_get (q0 := 0) (C := RX4) (T := TX4) (N := 7) hC dX4_report_27 in_X4_X4_report rfl rfl 6 (Nat.le_of_ble_eq_true rfl) fk_X4_report_45 rfl rfl ?_
    refine V_iast hC dX4_report_30 (WM_n hi) 0 rfl (show (10 : Int32) = nI 10 from rfl) (by decide) (by decide) (WM_nu hi) rfl ?_
    exact hE _ _ _ _ dX4_report_31 trivial rfl trivial
theorem oil_X4_init : Cond.methodLink RX4 3 objectInit ∈ wsX4_init := by decide +kernel
theorem oii_X4_init : Cond.instanceMethod objectInit ∈ wsX4_init := by decide +kernel
theorem oic_X4_init : Cond.code objectInit ⟨#[0xb1]⟩ 1 none ∈ wsX4_init := by decide +kernel
theorem cl9_X4_init : Cond.classLink RX4 9 "[[I" ∈ wsX4_init := by decide +kernel
theorem aci_X4_init : Cond.arrayClass .int ∈ wsX4_init := by decide +kernel
theorem in_X4_X4_init : ∀ w ∈ u_ws RX4 TX4 7, w ∈ wsX4_init := by decide +kernel
theorem fk_X4_init_11 : Cond.fieldLink RX4 11 (TX4 0).1 (TX4 0).2.1 (TX4 0).2.2.1 ∈ wsX4_init := by decide +kernel
theorem fk_X4_init_16 : Cond.fieldLink RX4 16 (TX4 1).1 (TX4 1).2.1 (TX4 1).2.2.1 ∈ wsX4_init := by decide +kernel
theorem fk_X4_init_19 : Cond.fieldLink RX4 19 (TX4 3).1 (TX4 3).2.1 (TX4 3).2.2.1 ∈ wsX4_init := by decide +kernel
theorem in_Jx4a65c_X4_init : ∀ w ∈ u_ws RJx4a65c TJx4a65c 3, w ∈ wsX4_init := by decide +kernel
theorem cl22_X4_init : Cond.classLink RX4 22 RJx4a65c ∈ wsX4_init := by decide +kernel
theorem insJx4a65c_X4_init : Cond.instantiable RJx4a65c 3 ∈ wsX4_init := by decide +kernel
theorem iniJx4a65c_X4_init : Cond.initialized RJx4a65c ∈ wsX4_init := by decide +kernel
theorem inmJx4a65c_init_da8c8_X4_init : Cond.instanceMethod yJx4a65c_init_da8c8 ∈ wsX4_init := by decide +kernel
theorem mlk24_X4_init : Cond.methodLink RX4 24 yJx4a65c_init_da8c8 ∈ wsX4_init := by decide +kernel
theorem fk_X4_init_25 : Cond.fieldLink RX4 25 (TX4 5).1 (TX4 5).2.1 (TX4 5).2.2.1 ∈ wsX4_init := by decide +kernel
set_option maxRecDepth 100000 in
set_option maxHeartbeats 4000000 in
theorem k_X4_init (l : Launch) (D : va_G) (cI cZ cT : ClassId) (x : Nat) : CV l D kC2 (kT2 D cI cZ cT) yX4_init wsX4_init ({ frames := 4, cells := 32, slots := 187, locals := 72 }) 32 187 [.ref x] [(x, .inr (4, [.null, .null, .int 0, .null, .int 0, .null, .int 0]))] (S := (Nat → Nat)) (fun r => r 0 = x) (fun r => WM D cI r (FI 20) (fun _ => 0) (D.2 100 0)) := by
  refine CVI_of (own := RX4) (by decide) rfl rfl (Nat.le_of_ble_eq_true rfl) rfl (fun X A hC hmn hE => ?_)
  refine V_aload_n hC dX4_init_0 rfl rfl rfl ?_
  refine V_objInit hC dX4_init_1 oil_X4_init oii_X4_init oic_X4_init (Nat.le_of_ble_eq_true rfl) (Nat.le_of_ble_eq_true rfl) rfl ?_
  refine V_aload_n hC dX4_init_4 rfl rfl rfl ?_
  refine V_bipush (v := 20) hC dX4_init_5 (by decide) rfl ?_
  refine V_iconst (v := 3) hC dX4_init_7 (by decide) rfl ?_
  refine V_mna (N := 20) (K := 3) hC dX4_init_8 cl9_X4_init aci_X4_init 3 rfl 0 rfl (by decide) (by decide) rfl rfl (Nat.le_of_ble_eq_true rfl) (Nat.le_of_ble_eq_true rfl) (Nat.le_of_ble_eq_true rfl) (Nat.le_of_ble_eq_true rfl) (Nat.le_of_ble_eq_true rfl) rfl (fun z1 rz1 => ?_)
  refine V_putF (q0 := 0) (C := RX4) (T := TX4) (N := 7) hC hmn dX4_init_12 in_X4_X4_init tyX4 tyX4_ok nmX4 rfl rfl 0 (Nat.le_of_ble_eq_true rfl) fk_X4_init_11 rfl rfl rfl rfl rfl (Nat.le_of_ble_eq_true rfl) rfl rfl ?_
  refine V_aload_n hC dX4_init_15 rfl rfl rfl ?_
  refine V_iconst (v := 4) hC dX4_init_16 (by decide) rfl ?_
  refine V_iconst (v := 3) hC dX4_init_17 (by decide) rfl ?_
  refine V_mna (N := 4) (K := 3) hC dX4_init_18 cl9_X4_init aci_X4_init 3 rfl 0 rfl (by decide) (by decide) rfl rfl (Nat.le_of_ble_eq_true rfl) (Nat.le_of_ble_eq_true rfl) (Nat.le_of_ble_eq_true rfl) (Nat.le_of_ble_eq_true rfl) (Nat.le_of_ble_eq_true rfl) rfl (fun z2 rz2 => ?_)
  refine V_putF (q0 := 0) (C := RX4) (T := TX4) (N := 7) hC hmn dX4_init_22 in_X4_X4_init tyX4 tyX4_ok nmX4 rfl rfl 1 (Nat.le_of_ble_eq_true rfl) fk_X4_init_16 rfl rfl rfl rfl rfl (Nat.le_of_ble_eq_true rfl) rfl rfl ?_
  refine V_aload_n hC dX4_init_25 rfl rfl rfl ?_
  refine V_iconst (v := 4) hC dX4_init_26 (by decide) rfl ?_
  refine V_bipush (v := 21) hC dX4_init_27 (by decide) rfl ?_
  refine V_mna (N := 4) (K := 21) hC dX4_init_29 cl9_X4_init aci_X4_init 3 rfl 0 rfl (by decide) (by decide) rfl rfl (Nat.le_of_ble_eq_true rfl) (Nat.le_of_ble_eq_true rfl) (Nat.le_of_ble_eq_true rfl) (Nat.le_of_ble_eq_true rfl) (Nat.le_of_ble_eq_true rfl) rfl (fun z3 rz3 => ?_)
  refine V_putF (q0 := 0) (C := RX4) (T := TX4) (N := 7) hC hmn dX4_init_33 in_X4_X4_init tyX4 tyX4_ok nmX4 rfl rfl 3 (Nat.le_of_ble_eq_true rfl) fk_X4_init_19 rfl rfl rfl rfl rfl (Nat.le_of_ble_eq_true rfl) rfl rfl ?_
  refine V_aload_n hC dX4_init_36 rfl rfl rfl ?_
  refine V_new (ci := 6) (C := RJx4a65c) (T := TJx4a65c) (N := 3) (fs := [.int 0, .null, .int 0]) hC dX4_init_37 in_Jx4a65c_X4_init tyJx4a65c tyJx4a65c_ok cl22_X4_init insJx4a65c_X4_init iniJx4a65c_X4_init rfl nw_Jx4a65c (Nat.le_of_ble_eq_true rfl) (Nat.le_of_ble_eq_true rfl) rfl (fun z4 => ?_)
  refine V_dup hC dX4_init_40 rfl rfl ?_
  refine V_callVIf (n := 0) (suf := []) hC dX4_init_41 (k_Jx4a65c_init_da8c8 l D cI cZ cT z4 _ _ _) gX4_init_Jx4a65c_init_da8c8 iniJx4a65c_X4_init mlk24_X4_init inmJx4a65c_init_da8c8_X4_init rfl rfl ⟨rfl, rfl⟩ (by decide +kernel) ⟨Nat.le_of_ble_eq_true rfl, Nat.le_of_ble_eq_true rfl⟩ ⟨Nat.le_of_ble_eq_true rfl, Nat.le_of_ble_eq_true rfl⟩ rfl rfl rfl (by exact Nat.le_of_ble_eq_true rfl) rfl (fun u_z4 h_z4 => ?_)
  refine V_putF (q0 := 0) (C := RX4) (T := TX4) (N := 7) hC hmn dX4_init_44 in_X4_X4_init tyX4 tyX4_ok nmX4 rfl rfl 5 (Nat.le_of_ble_eq_true rfl) fk_X4_init_25 rfl rfl rfl rfl rfl (Nat.le_of_ble_eq_true rfl) rfl rfl ?_
  refine V_aload_n hC dX4_init_47 rfl rfl rfl ?_
  refine V_ws (ws' := WM D cI (rN x z1 z2 z3 z4 rz1 rz2 rz3) (FI 0) (fun _ => 0) (D.2 100 0)) (by rw [rN_a (x := x) (z1 := z1) (z2 := z2) (z3 := z3) (z4 := z4) (a := rz1) (b := rz2) (c := rz3), rN_b (x := x) (z1 := z1) (z2 := z2) (z3 := z3) (z4 := z4) (a := rz1) (b := rz2) (c := rz3), rN_c (x := x) (z1 := z1) (z2 := z2) (z3 := z3) (z4 := z4) (a := rz1) (b := rz2) (c := rz3)]; rfl) ?_
  refine V_get (q0 := 0) (v := .ref ((rN x z1 z2 z3 z4 rz1 rz2 rz3) 1)) (C := RX4) (T := TX4) (N := 7) hC dX4_init_48 in_X4_X4_init rfl rfl 0 (Nat.le_of_ble_eq_true rfl) fk_X4_init_11 rfl rfl ?_
  refine V_astore_n hC dX4_init_51 rfl (Nat.le_of_ble_eq_true rfl) rfl ?_
  refine V_aload_n hC dX4_init_52 rfl rfl rfl ?_
  refine V_alen (q0 := 1) hC dX4_init_53 rfl 3 rfl (rfl : _ = (20 : Int32)) rfl ?_
  refine V_istore_n hC dX4_init_54 rfl (Nat.le_of_ble_eq_true rfl) rfl ?_
  refine V_iconst (v := 0) hC dX4_init_55 (by decide) rfl ?_
  refine V_istore_n hC dX4_init_56 rfl (Nat.le_of_ble_eq_true rfl) rfl ?_
  have loop_57 : ∀ (d k : Nat), 20 - k < d → k ≤ 20 → V X 32 187 (WM D cI (rN x z1 z2 z3 z4 rz1 rz2 rz3) (FI k) (fun _ => 0) (D.2 100 0)) [(0, .ref x), (1, .ref ((rN x z1 z2 z3 z4 rz1 rz2 rz3) 1)), (2, .int 20), (3, .int (nI k))] 57 [] := by
    intro d
    induction d with
    | zero => intro k h; exact absurd h (Nat.not_lt_zero _)
    | succ d ih =>
      intro k h hk
      refine V_iload_n hC dX4_init_57 rfl rfl rfl ?_
      refine V_iload_n hC dX4_init_58 rfl rfl rfl ?_
      refine V_icmp_ge (tgt := 84) hC dX4_init_59 (by decide) rfl (fun c_59 => ?_) (fun c_59 => ?_)
      · have c1 := nI_le' (a := 20) (b := k) c_59 (by decide) (by omega)
        obtain rfl : k = 20 := by omega
        refine V_widen (k := 32) (n := 187) (Nat.le_of_ble_eq_true rfl) (Nat.le_of_ble_eq_true rfl) ?_
        exact hE (rN x z1 z2 z3 z4 rz1 rz2 rz3) _ _ _ dX4_init_84 trivial rfl rfl
      · have c1 := nI_nle' (a := 20) (b := k) c_59 (by decide) (by omega)
        refine V_aload_n hC dX4_init_62 rfl rfl rfl ?_
        refine V_iload_n hC dX4_init_63 rfl rfl rfl ?_
        refine V_aaldA (q0 := 1) hC dX4_init_64 rfl 3 rfl rfl c1 (by decide) (show rf 20 (fun i => (rN x z1 z2 z3 z4 rz1 rz2 rz3) (2 + i)) k = some ((rN x z1 z2 z3 z4 rz1 rz2 rz3) (2 + k)) from rf_at c1) rfl ?_
        refine V_astore hC dX4_init_65 (Nat.le_of_ble_eq_true rfl) rfl ?_
        refine V_aload hC dX4_init_67 rfl rfl ?_
        refine V_iconst (v := 0) hC dX4_init_69 (by decide) rfl ?_
        refine V_bipush (v := 40) hC dX4_init_70 (by decide) rfl ?_
        refine V_iast hC dX4_init_72 (WM_s c1) 0 rfl (show (0 : Int32) = nI 0 from rfl) (by decide) (by decide) (WM_su c1) rfl ?_
        refine V_aload hC dX4_init_73 rfl rfl ?_
        refine V_iconst (v := 2) hC dX4_init_75 (by decide) rfl ?_
        refine V_iconst (v := 1) hC dX4_init_76 (by decide) rfl ?_
        refine V_iast hC dX4_init_77 (WM_s c1) 0 rfl (show (2 : Int32) = nI 2 from rfl) (by decide) (by decide) (WM_su c1) rfl ?_
        refine V_iinc hC dX4_init_78 rfl (nI_1 k) (Nat.le_of_ble_eq_true rfl) rfl ?_
        refine V_goto (tgt := 57) hC dX4_init_81 (by decide) ?_
        exact V_ws (ws' := WM D cI (rN x z1 z2 z3 z4 rz1 rz2 rz3) (FI (k + 1)) (fun _ => 0) (D.2 100 0)) (by rw [FI_s2]) (V_to (ih (k + 1) (by omega) (by omega)) (lc rfl (lc rfl (lc rfl (lc rfl ln)))))
  exact V_to (loop_57 _ 0 (Nat.lt_succ_self _) (by omega)) (lc rfl (lc rfl (lc rfl (lc (kv nI_0.symm) ln))))
