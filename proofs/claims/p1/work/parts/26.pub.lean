theorem in_X5_X5_ofTrain : ∀ w ∈ u_ws RX5 TX5 3, w ∈ wsX5_ofTrain := by decide +kernel
theorem fk_X5_ofTrain_16 : Cond.fieldLink RX5 16 (TX5 0).1 (TX5 0).2.1 (TX5 0).2.2.1 ∈ wsX5_ofTrain := by decide +kernel
set_option maxRecDepth 100000 in
set_option maxHeartbeats 4000000 in
theorem k_X5_ofTrain (l : Launch) (D : va_G) (cI cZ cT : ClassId) (m : Nat) (th : Int32) (sm : Int64) (r : Nat → Nat) (F : Nat → Nat → Int32) (v : Nat → Int32) (e : Nat) (h1 : v 1 = 0) (a : Int32) (b : Int32) : CI l D kC2 (kT2 D cI cZ cT) yX5_ofTrain wsX5_ofTrain ({ frames := 2, cells := 0, slots := 0, locals := 43 }) 0 0 [.ref m, .int a, .int b] (Wm D cI m th sm r F v e) (S := Unit) (fun _ _ => True) (fun _ => Wm D cI m 1 sm r F v e) := by
  refine CI_of (own := RX5) (by decide) rfl rfl (Nat.le_of_ble_eq_true rfl) rfl (fun X A hC hE => ?_)
  refine V_aload_n hC dX5_ofTrain_0 rfl rfl rfl ?_
  refine V_iconst (v := 0) hC dX5_ofTrain_1 (by decide) rfl ?_
  refine V_put (q0 := 0) (C := RX5) (T := TX5) (N := 3) hC dX5_ofTrain_2 in_X5_X5_ofTrain tyX5 tyX5_ok nmX5 rfl rfl 0 (Nat.le_of_ble_eq_true rfl) fk_X5_ofTrain_16 rfl rfl rfl rfl (Nat.le_of_ble_eq_true rfl) Wm_th rfl ?_
  refine V_aload_n hC dX5_ofTrain_5 rfl rfl rfl ?_
  refine V_iload_n hC dX5_ofTrain_6 rfl rfl rfl ?_
  refine V_callIV (q0 := 0) (n := 1) hC dX5_ofTrain_7 (k_X5_isTrain l D cI cZ cT _ _ _ _ _ _ _ _) gX5_ofTrain_X5_isTrain rfl ⟨rfl, rfl⟩ (by decide +kernel) ⟨Nat.le_of_ble_eq_true rfl, Nat.le_of_ble_eq_true rfl⟩ ⟨Nat.le_of_ble_eq_true rfl, Nat.le_of_ble_eq_true rfl⟩ rfl rfl rfl rfl (by exact Nat.le_of_ble_eq_true rfl) rfl (fun r_7 u_7 h_7 => ?_)
  subst h_7
  refine V_if_ne (tgt := 19) hC dX5_ofTrain_10 (by decide) rfl (fun c_10 => ?_) (fun c_10 => ?_)
  · exact absurd (m_in0 h1) c_10
  · refine V_aload_n hC dX5_ofTrain_13 rfl rfl rfl ?_
    refine V_iconst (v := 1) hC dX5_ofTrain_14 (by decide) rfl ?_
    refine V_callIV (q0 := 0) (n := 1) hC dX5_ofTrain_15 (k_X5_refuse l D cI cZ cT _ _ _ _ _ _ _ _) gX5_ofTrain_X5_refuse rfl ⟨rfl, rfl⟩ (by decide +kernel) ⟨Nat.le_of_ble_eq_true rfl, Nat.le_of_ble_eq_true rfl⟩ ⟨Nat.le_of_ble_eq_true rfl, Nat.le_of_ble_eq_true rfl⟩ rfl rfl rfl rfl (by exact Nat.le_of_ble_eq_true rfl) rfl (fun r_15 u_15 h_15 => ?_)
    subst h_15
    exact hE _ () _ _ _ dX5_ofTrain_18 rfl rfl (by first | rfl | (simp [*]; done))
theorem in_X5_X5_stops : ∀ w ∈ u_ws RX5 TX5 3, w ∈ wsX5_stops := by decide +kernel
theorem fk_X5_stops_16 : Cond.fieldLink RX5 16 (TX5 0).1 (TX5 0).2.1 (TX5 0).2.2.1 ∈ wsX5_stops := by decide +kernel
set_option maxRecDepth 100000 in
set_option maxHeartbeats 4000000 in
theorem k_X5_stops (l : Launch) (D : va_G) (cI cZ cT : ClassId) (m : Nat) (th : Int32) (sm : Int64) (r : Nat → Nat) (F : Nat → Nat → Int32) (v : Nat → Int32) (e : Nat) (h1 : v 1 = 0) (a : Int32) (b : Int32) : CI l D kC2 (kT2 D cI cZ cT) yX5_stops wsX5_stops ({ frames := 2, cells := 0, slots := 0, locals := 43 }) 0 0 [.ref m, .int a, .int b] (Wm D cI m th sm r F v e) (S := Unit) (fun _ _ => True) (fun _ => Wm D cI m 1 sm r F v e) := by
  refine CI_of (own := RX5) (by decide) rfl rfl (Nat.le_of_ble_eq_true rfl) rfl (fun X A hC hE => ?_)
  refine V_aload_n hC dX5_stops_0 rfl rfl rfl ?_
  refine V_iconst (v := 0) hC dX5_stops_1 (by decide) rfl ?_
  refine V_put (q0 := 0) (C := RX5) (T := TX5) (N := 3) hC dX5_stops_2 in_X5_X5_stops tyX5 tyX5_ok nmX5 rfl rfl 0 (Nat.le_of_ble_eq_true rfl) fk_X5_stops_16 rfl rfl rfl rfl (Nat.le_of_ble_eq_true rfl) Wm_th rfl ?_
  refine V_aload_n hC dX5_stops_5 rfl rfl rfl ?_
  refine V_iload_n hC dX5_stops_6 rfl rfl rfl ?_
  refine V_callIV (q0 := 0) (n := 1) hC dX5_stops_7 (k_X5_isTrain l D cI cZ cT _ _ _ _ _ _ _ _) gX5_stops_X5_isTrain rfl ⟨rfl, rfl⟩ (by decide +kernel) ⟨Nat.le_of_ble_eq_true rfl, Nat.le_of_ble_eq_true rfl⟩ ⟨Nat.le_of_ble_eq_true rfl, Nat.le_of_ble_eq_true rfl⟩ rfl rfl rfl rfl (by exact Nat.le_of_ble_eq_true rfl) rfl (fun r_7 u_7 h_7 => ?_)
  subst h_7
  refine V_if_ne (tgt := 19) hC dX5_stops_10 (by decide) rfl (fun c_10 => ?_) (fun c_10 => ?_)
  · exact absurd (m_in0 h1) c_10
  · refine V_aload_n hC dX5_stops_13 rfl rfl rfl ?_
    refine V_iconst (v := 1) hC dX5_stops_14 (by decide) rfl ?_
    refine V_callIV (q0 := 0) (n := 1) hC dX5_stops_15 (k_X5_refuse l D cI cZ cT _ _ _ _ _ _ _ _) gX5_stops_X5_refuse rfl ⟨rfl, rfl⟩ (by decide +kernel) ⟨Nat.le_of_ble_eq_true rfl, Nat.le_of_ble_eq_true rfl⟩ ⟨Nat.le_of_ble_eq_true rfl, Nat.le_of_ble_eq_true rfl⟩ rfl rfl rfl rfl (by exact Nat.le_of_ble_eq_true rfl) rfl (fun r_15 u_15 h_15 => ?_)
    subst h_15
    exact hE _ () _ _ _ dX5_stops_18 rfl rfl (by first | rfl | (simp [*]; done))
theorem in_X5_X5_may : ∀ w ∈ u_ws RX5 TX5 3, w ∈ wsX5_may := by decide +kernel
theorem fk_X5_may_16 : Cond.fieldLink RX5 16 (TX5 0).1 (TX5 0).2.1 (TX5 0).2.2.1 ∈ wsX5_may := by decide +kernel
set_option maxRecDepth 100000 in
set_option maxHeartbeats 4000000 in
theorem k_X5_may (l : Launch) (D : va_G) (cI cZ cT : ClassId) (m : Nat) (th : Int32) (sm : Int64) (r : Nat → Nat) (F : Nat → Nat → Int32) (v : Nat → Int32) (e : Nat) (h1 : v 1 = 0) (a : Int32) : CI l D kC2 (kT2 D cI cZ cT) yX5_may wsX5_may ({ frames := 2, cells := 0, slots := 0, locals := 43 }) 0 0 [.ref m, .int a] (Wm D cI m th sm r F v e) (S := Unit) (fun _ _ => True) (fun _ => Wm D cI m 1 sm r F v e) := by
  refine CI_of (own := RX5) (by decide) rfl rfl (Nat.le_of_ble_eq_true rfl) rfl (fun X A hC hE => ?_)
  refine V_aload_n hC dX5_may_0 rfl rfl rfl ?_
  refine V_iconst (v := 0) hC dX5_may_1 (by decide) rfl ?_
  refine V_put (q0 := 0) (C := RX5) (T := TX5) (N := 3) hC dX5_may_2 in_X5_X5_may tyX5 tyX5_ok nmX5 rfl rfl 0 (Nat.le_of_ble_eq_true rfl) fk_X5_may_16 rfl rfl rfl rfl (Nat.le_of_ble_eq_true rfl) Wm_th rfl ?_
  refine V_aload_n hC dX5_may_5 rfl rfl rfl ?_
  refine V_iload_n hC dX5_may_6 rfl rfl rfl ?_
  refine V_callIV (q0 := 0) (n := 1) hC dX5_may_7 (k_X5_isTrain l D cI cZ cT _ _ _ _ _ _ _ _) gX5_may_X5_isTrain rfl ⟨rfl, rfl⟩ (by decide +kernel) ⟨Nat.le_of_ble_eq_true rfl, Nat.le_of_ble_eq_true rfl⟩ ⟨Nat.le_of_ble_eq_true rfl, Nat.le_of_ble_eq_true rfl⟩ rfl rfl rfl rfl (by exact Nat.le_of_ble_eq_true rfl) rfl (fun r_7 u_7 h_7 => ?_)
  subst h_7
  refine V_if_eq (tgt := 21) hC dX5_may_10 (by decide) rfl (fun c_10 => ?_) (fun c_10 => ?_)
  · refine V_aload_n hC dX5_may_21 rfl rfl rfl ?_
    refine V_iconst (v := 1) hC dX5_may_22 (by decide) rfl ?_
    refine V_callIV (q0 := 0) (n := 1) hC dX5_may_23 (k_X5_refuse l D cI cZ cT _ _ _ _ _ _ _ _) gX5_may_X5_refuse rfl ⟨rfl, rfl⟩ (by decide +kernel) ⟨Nat.le_of_ble_eq_true rfl, Nat.le_of_ble_eq_true rfl⟩ ⟨Nat.le_of_ble_eq_true rfl, Nat.le_of_ble_eq_true rfl⟩ rfl rfl rfl rfl (by exact Nat.le_of_ble_eq_true rfl) rfl (fun r_23 u_23 h_23 => ?_)
    subst h_23
    exact hE _ () _ _ _ dX5_may_26 rfl rfl (by first | rfl | (simp [*]; done))
  · exact absurd (m_in0 h1) c_10
theorem in_X5_X5_why : ∀ w ∈ u_ws RX5 TX5 3, w ∈ wsX5_why := by decide +kernel
theorem fk_X5_why_16 : Cond.fieldLink RX5 16 (TX5 0).1 (TX5 0).2.1 (TX5 0).2.2.1 ∈ wsX5_why := by decide +kernel
set_option maxRecDepth 100000 in
set_option maxHeartbeats 4000000 in
theorem k_X5_why (l : Launch) (D : va_G) (cI cZ cT : ClassId) (m : Nat) (th : Int32) (sm : Int64) (r : Nat → Nat) (F : Nat → Nat → Int32) (v : Nat → Int32) (e : Nat) (h1 : v 1 = 0) (a : Int32) : CI l D kC2 (kT2 D cI cZ cT) yX5_why wsX5_why ({ frames := 2, cells := 0, slots := 0, locals := 43 }) 0 0 [.ref m, .int a] (Wm D cI m th sm r F v e) (S := Unit) (fun _ _ => True) (fun _ => Wm D cI m 1 sm r F v e) := by
  refine CI_of (own := RX5) (by decide) rfl rfl (Nat.le_of_ble_eq_true rfl) rfl (fun X A hC hE => ?_)
  refine V_aload_n hC dX5_why_0 rfl rfl rfl ?_
  refine V_iconst (v := 0) hC dX5_why_1 (by decide) rfl ?_
  refine V_put (q0 := 0) (C := RX5) (T := TX5) (N := 3) hC dX5_why_2 in_X5_X5_why tyX5 tyX5_ok nmX5 rfl rfl 0 (Nat.le_of_ble_eq_true rfl) fk_X5_why_16 rfl rfl rfl rfl (Nat.le_of_ble_eq_true rfl) Wm_th rfl ?_
  refine V_aload_n hC dX5_why_5 rfl rfl rfl ?_
  refine V_iload_n hC dX5_why_6 rfl rfl rfl ?_
  refine V_callIV (q0 := 0) (n := 1) hC dX5_why_7 (k_X5_isTrain l D cI cZ cT _ _ _ _ _ _ _ _) gX5_why_X5_isTrain rfl ⟨rfl, rfl⟩ (by decide +kernel) ⟨Nat.le_of_ble_eq_true rfl, Nat.le_of_ble_eq_true rfl⟩ ⟨Nat.le_of_ble_eq_true rfl, Nat.le_of_ble_eq_true rfl⟩ rfl rfl rfl rfl (by exact Nat.le_of_ble_eq_true rfl) rfl (fun r_7 u_7 h_7 => ?_)
  subst h_7
  refine V_if_eq (tgt := 21) hC dX5_why_10 (by decide) rfl (fun c_10 => ?_) (fun c_10 => ?_)
  · refine V_aload_n hC dX5_why_21 rfl rfl rfl ?_
    refine V_iconst (v := 1) hC dX5_why_22 (by decide) rfl ?_
    refine V_callIV (q0 := 0) (n := 1) hC dX5_why_23 (k_X5_refuse l D cI cZ cT _ _ _ _ _ _ _ _) gX5_why_X5_refuse rfl ⟨rfl, rfl⟩ (by decide +kernel) ⟨Nat.le_of_ble_eq_true rfl, Nat.le_of_ble_eq_true rfl⟩ ⟨Nat.le_of_ble_eq_true rfl, Nat.le_of_ble_eq_true rfl⟩ rfl rfl rfl rfl (by exact Nat.le_of_ble_eq_true rfl) rfl (fun r_23 u_23 h_23 => ?_)
    subst h_23
    exact hE _ () _ _ _ dX5_why_26 rfl rfl (by first | rfl | (simp [*]; done))
  · exact absurd (m_in0 h1) c_10
theorem in_X5_X5_ofStation : ∀ w ∈ u_ws RX5 TX5 3, w ∈ wsX5_ofStation := by decide +kernel
theorem fk_X5_ofStation_16 : Cond.fieldLink RX5 16 (TX5 0).1 (TX5 0).2.1 (TX5 0).2.2.1 ∈ wsX5_ofStation := by decide +kernel
set_option maxRecDepth 100000 in
set_option maxHeartbeats 4000000 in
theorem k_X5_ofStation (l : Launch) (D : va_G) (cI cZ cT : ClassId) (m : Nat) (th : Int32) (sm : Int64) (r : Nat → Nat) (F : Nat → Nat → Int32) (v : Nat → Int32) (e : Nat) (h0 : v 0 = 0) (a : Int32) (b : Int32) : CI l D kC2 (kT2 D cI cZ cT) yX5_ofStation wsX5_ofStation ({ frames := 2, cells := 0, slots := 0, locals := 43 }) 0 0 [.ref m, .int a, .int b] (Wm D cI m th sm r F v e) (S := Unit) (fun _ _ => True) (fun _ => Wm D cI m 1 sm r F v e) := by
  refine CI_of (own := RX5) (by decide) rfl rfl (Nat.le_of_ble_eq_true rfl) rfl (fun X A hC hE => ?_)
  refine V_aload_n hC dX5_ofStation_0 rfl rfl rfl ?_
  refine V_iconst (v := 0) hC dX5_ofStation_1 (by decide) rfl ?_
  refine V_put (q0 := 0) (C := RX5) (T := TX5) (N := 3) hC dX5_ofStation_2 in_X5_X5_ofStation tyX5 tyX5_ok nmX5 rfl rfl 0 (Nat.le_of_ble_eq_true rfl) fk_X5_ofStation_16 rfl rfl rfl rfl (Nat.le_of_ble_eq_true rfl) Wm_th rfl ?_
  refine V_aload_n hC dX5_ofStation_5 rfl rfl rfl ?_
  refine V_iload_n hC dX5_ofStation_6 rfl rfl rfl ?_
  refine V_callIV (q0 := 0) (n := 1) hC dX5_ofStation_7 (k_X5_isStation l D cI cZ cT _ _ _ _ _ _ _ _) gX5_ofStation_X5_isStation rfl ⟨rfl, rfl⟩ (by decide +kernel) ⟨Nat.le_of_ble_eq_true rfl, Nat.le_of_ble_eq_true rfl⟩ ⟨Nat.le_of_ble_eq_true rfl, Nat.le_of_ble_eq_true rfl⟩ rfl rfl rfl rfl (by exact Nat.le_of_ble_eq_true rfl) rfl (fun r_7 u_7 h_7 => ?_)
  subst h_7
  refine V_if_ne (tgt := 19) hC dX5_ofStation_10 (by decide) rfl (fun c_10 => ?_) (fun c_10 => ?_)
  · exact absurd (m_in0 h0) c_10
  · refine V_aload_n hC dX5_ofStation_13 rfl rfl rfl ?_
    refine V_iconst (v := 1) hC dX5_ofStation_14 (by decide) rfl ?_
    refine V_callIV (q0 := 0) (n := 1) hC dX5_ofStation_15 (k_X5_refuse l D cI cZ cT _ _ _ _ _ _ _ _) gX5_ofStation_X5_refuse rfl ⟨rfl, rfl⟩ (by decide +kernel) ⟨Nat.le_of_ble_eq_true rfl, Nat.le_of_ble_eq_true rfl⟩ ⟨Nat.le_of_ble_eq_true rfl, Nat.le_of_ble_eq_true rfl⟩ rfl rfl rfl rfl (by exact Nat.le_of_ble_eq_true rfl) rfl (fun r_15 u_15 h_15 => ?_)
    subst h_15
    exact hE _ () _ _ _ dX5_ofStation_18 rfl rfl (by first | rfl | (simp [*]; done))
theorem in_X5_X5_reaches : ∀ w ∈ u_ws RX5 TX5 3, w ∈ wsX5_reaches := by decide +kernel
theorem fk_X5_reaches_16 : Cond.fieldLink RX5 16 (TX5 0).1 (TX5 0).2.1 (TX5 0).2.2.1 ∈ wsX5_reaches := by decide +kernel
set_option maxRecDepth 100000 in
set_option maxHeartbeats 4000000 in
theorem k_X5_reaches (l : Launch) (D : va_G) (cI cZ cT : ClassId) (m : Nat) (th : Int32) (sm : Int64) (r : Nat → Nat) (F : Nat → Nat → Int32) (v : Nat → Int32) (e : Nat) (h1 : v 1 = 0) (a : Int32) (b : Int32) (c : Int32) : CI l D kC2 (kT2 D cI cZ cT) yX5_reaches wsX5_reaches ({ frames := 2, cells := 0, slots := 0, locals := 43 }) 0 0 [.ref m, .int a, .int b, .int c] (Wm D cI m th sm r F v e) (S := Unit) (fun _ _ => True) (fun _ => Wm D cI m 1 sm r F v e) := by
  refine CI_of (own := RX5) (by decide) rfl rfl (Nat.le_of_ble_eq_true rfl) rfl (fun X A hC hE => ?_)
  refine V_aload_n hC dX5_reaches_0 rfl rfl rfl ?_
  refine V_iconst (v := 0) hC dX5_reaches_1 (by decide) rfl ?_
  refine V_put (q0 := 0) (C := RX5) (T := TX5) (N := 3) hC dX5_reaches_2 in_X5_X5_reaches tyX5 tyX5_ok nmX5 rfl rfl 0 (Nat.le_of_ble_eq_true rfl) fk_X5_reaches_16 rfl rfl rfl rfl (Nat.le_of_ble_eq_true rfl) Wm_th rfl ?_
  refine V_aload_n hC dX5_reaches_5 rfl rfl rfl ?_
  refine V_iload_n hC dX5_reaches_6 rfl rfl rfl ?_
  refine V_callIV (q0 := 0) (n := 1) hC dX5_reaches_7 (k_X5_isTrain l D cI cZ cT _ _ _ _ _ _ _ _) gX5_reaches_X5_isTrain rfl ⟨rfl, rfl⟩ (by decide +kernel) ⟨Nat.le_of_ble_eq_true rfl, Nat.le_of_ble_eq_true rfl⟩ ⟨Nat.le_of_ble_eq_true rfl, Nat.le_of_ble_eq_true rfl⟩ rfl rfl rfl rfl (by exact Nat.le_of_ble_eq_true rfl) rfl (fun r_7 u_7 h_7 => ?_)
  subst h_7
  refine V_if_ne (tgt := 19) hC dX5_reaches_10 (by decide) rfl (fun c_10 => ?_) (fun c_10 => ?_)
  · exact absurd (m_in0 h1) c_10
  · refine V_aload_n hC dX5_reaches_13 rfl rfl rfl ?_
    refine V_iconst (v := 1) hC dX5_reaches_14 (by decide) rfl ?_
    refine V_callIV (q0 := 0) (n := 1) hC dX5_reaches_15 (k_X5_refuse l D cI cZ cT _ _ _ _ _ _ _ _) gX5_reaches_X5_refuse rfl ⟨rfl, rfl⟩ (by decide +kernel) ⟨Nat.le_of_ble_eq_true rfl, Nat.le_of_ble_eq_true rfl⟩ ⟨Nat.le_of_ble_eq_true rfl, Nat.le_of_ble_eq_true rfl⟩ rfl rfl rfl rfl (by exact Nat.le_of_ble_eq_true rfl) rfl (fun r_15 u_15 h_15 => ?_)
    subst h_15
    exact hE _ () _ _ _ dX5_reaches_18 rfl rfl (by first | rfl | (simp [*]; done))
theorem in_X5_X5_closest : ∀ w ∈ u_ws RX5 TX5 3, w ∈ wsX5_closest := by decide +kernel
theorem fk_X5_closest_16 : Cond.fieldLink RX5 16 (TX5 0).1 (TX5 0).2.1 (TX5 0).2.2.1 ∈ wsX5_closest := by decide +kernel
set_option maxRecDepth 100000 in
set_option maxHeartbeats 4000000 in
theorem k_X5_closest (l : Launch) (D : va_G) (cI cZ cT : ClassId) (m : Nat) (th : Int32) (sm : Int64) (r : Nat → Nat) (F : Nat → Nat → Int32) (v : Nat → Int32) (e : Nat) (h1 : v 1 = 0) (a : Int32) (b : Int32) : CI l D kC2 (kT2 D cI cZ cT) yX5_closest wsX5_closest ({ frames := 2, cells := 0, slots := 0, locals := 43 }) 0 0 [.ref m, .int a, .int b] (Wm D cI m th sm r F v e) (S := Unit) (fun _ _ => True) (fun _ => Wm D cI m 1 sm r F v e) := by
  refine CI_of (own := RX5) (by decide) rfl rfl (Nat.le_of_ble_eq_true rfl) rfl (fun X A hC hE => ?_)
  refine V_aload_n hC dX5_closest_0 rfl rfl rfl ?_
  refine V_iconst (v := 0) hC dX5_closest_1 (by decide) rfl ?_
  refine V_put (q0 := 0) (C := RX5) (T := TX5) (N := 3) hC dX5_closest_2 in_X5_X5_closest tyX5 tyX5_ok nmX5 rfl rfl 0 (Nat.le_of_ble_eq_true rfl) fk_X5_closest_16 rfl rfl rfl rfl (Nat.le_of_ble_eq_true rfl) Wm_th rfl ?_
  refine V_aload_n hC dX5_closest_5 rfl rfl rfl ?_
  refine V_iload_n hC dX5_closest_6 rfl rfl rfl ?_
  refine V_callIV (q0 := 0) (n := 1) hC dX5_closest_7 (k_X5_isTrain l D cI cZ cT _ _ _ _ _ _ _ _) gX5_closest_X5_isTrain rfl ⟨rfl, rfl⟩ (by decide +kernel) ⟨Nat.le_of_ble_eq_true rfl, Nat.le_of_ble_eq_true rfl⟩ ⟨Nat.le_of_ble_eq_true rfl, Nat.le_of_ble_eq_true rfl⟩ rfl rfl rfl rfl (by exact Nat.le_of_ble_eq_true rfl) rfl (fun r_7 u_7 h_7 => ?_)
  subst h_7
  refine V_if_ne (tgt := 19) hC dX5_closest_10 (by decide) rfl (fun c_10 => ?_) (fun c_10 => ?_)
  · exact absurd (m_in0 h1) c_10
  · refine V_aload_n hC dX5_closest_13 rfl rfl rfl ?_
    refine V_iconst (v := 1) hC dX5_closest_14 (by decide) rfl ?_
    refine V_callIV (q0 := 0) (n := 1) hC dX5_closest_15 (k_X5_refuse l D cI cZ cT _ _ _ _ _ _ _ _) gX5_closest_X5_refuse rfl ⟨rfl, rfl⟩ (by decide +kernel) ⟨Nat.le_of_ble_eq_true rfl, Nat.le_of_ble_eq_true rfl⟩ ⟨Nat.le_of_ble_eq_true rfl, Nat.le_of_ble_eq_true rfl⟩ rfl rfl rfl rfl (by exact Nat.le_of_ble_eq_true rfl) rfl (fun r_15 u_15 h_15 => ?_)
    subst h_15
    exact hE _ () _ _ _ dX5_closest_18 rfl rfl (by first | rfl | (simp [*]; done))
theorem in_X5_X5_lost : ∀ w ∈ u_ws RX5 TX5 3, w ∈ wsX5_lost := by decide +kernel
theorem fk_X5_lost_16 : Cond.fieldLink RX5 16 (TX5 0).1 (TX5 0).2.1 (TX5 0).2.2.1 ∈ wsX5_lost := by decide +kernel
set_option maxRecDepth 100000 in
set_option maxHeartbeats 4000000 in
theorem k_X5_lost (l : Launch) (D : va_G) (cI cZ cT : ClassId) (m : Nat) (th : Int32) (sm : Int64) (r : Nat → Nat) (F : Nat → Nat → Int32) (v : Nat → Int32) (e : Nat) (h1 : v 1 = 0) (a : Int32) (b : Int32) (c : Int32) (d : Int32) : CI l D kC2 (kT2 D cI cZ cT) yX5_lost wsX5_lost ({ frames := 2, cells := 0, slots := 0, locals := 43 }) 0 0 [.ref m, .int a, .int b, .int c, .int d] (Wm D cI m th sm r F v e) (S := Unit) (fun _ _ => True) (fun _ => Wm D cI m 1 sm r F v e) := by
  refine CI_of (own := RX5) (by decide) rfl rfl (Nat.le_of_ble_eq_true rfl) rfl (fun X A hC hE => ?_)
  refine V_aload_n hC dX5_lost_0 rfl rfl rfl ?_
  refine V_iconst (v := 0) hC dX5_lost_1 (by decide) rfl ?_
  refine V_put (q0 := 0) (C := RX5) (T := TX5) (N := 3) hC dX5_lost_2 in_X5_X5_lost tyX5 tyX5_ok nmX5 rfl rfl 0 (Nat.le_of_ble_eq_true rfl) fk_X5_lost_16 rfl rfl rfl rfl (Nat.le_of_ble_eq_true rfl) Wm_th rfl ?_
  refine V_aload_n hC dX5_lost_5 rfl rfl rfl ?_
  refine V_iload_n hC dX5_lost_6 rfl rfl rfl ?_
  refine V_callIV (q0 := 0) (n := 1) hC dX5_lost_7 (k_X5_isTrain l D cI cZ cT _ _ _ _ _ _ _ _) gX5_lost_X5_isTrain rfl ⟨rfl, rfl⟩ (by decide +kernel) ⟨Nat.le_of_ble_eq_true rfl, Nat.le_of_ble_eq_true rfl⟩ ⟨Nat.le_of_ble_eq_true rfl, Nat.le_of_ble_eq_true rfl⟩ rfl rfl rfl rfl (by exact Nat.le_of_ble_eq_true rfl) rfl (fun r_7 u_7 h_7 => ?_)
  subst h_7
  refine V_if_eq (tgt := 20) hC dX5_lost_10 (by decide) rfl (fun c_10 => ?_) (fun c_10 => ?_)
  · refine V_aload_n hC dX5_lost_20 rfl rfl rfl ?_
    refine V_iconst (v := 1) hC dX5_lost_21 (by decide) rfl ?_
    refine V_callIV (q0 := 0) (n := 1) hC dX5_lost_22 (k_X5_refuse l D cI cZ cT _ _ _ _ _ _ _ _) gX5_lost_X5_refuse rfl ⟨rfl, rfl⟩ (by decide +kernel) ⟨Nat.le_of_ble_eq_true rfl, Nat.le_of_ble_eq_true rfl⟩ ⟨Nat.le_of_ble_eq_true rfl, Nat.le_of_ble_eq_true rfl⟩ rfl rfl rfl rfl (by exact Nat.le_of_ble_eq_true rfl) rfl (fun r_22 u_22 h_22 => ?_)
    subst h_22
    exact hE _ () _ _ _ dX5_lost_25 rfl rfl (by first | rfl | (simp [*]; done))
  · exact absurd (m_in0 h1) c_10
theorem in_X5_X5_whole : ∀ w ∈ u_ws RX5 TX5 3, w ∈ wsX5_whole := by decide +kernel
theorem fk_X5_whole_16 : Cond.fieldLink RX5 16 (TX5 0).1 (TX5 0).2.1 (TX5 0).2.2.1 ∈ wsX5_whole := by decide +kernel
set_option maxRecDepth 100000 in
set_option maxHeartbeats 4000000 in
theorem k_X5_whole (l : Launch) (D : va_G) (cI cZ cT : ClassId) (m : Nat) (th : Int32) (sm : Int64) (r : Nat → Nat) (F : Nat → Nat → Int32) (v : Nat → Int32) (e : Nat) (h1 : v 1 = 0) (a b : Int32) : CI l D kC2 (kT2 D cI cZ cT) yX5_whole wsX5_whole ({ frames := 2, cells := 0, slots := 0, locals := 43 }) 0 0 [.ref m, .int a, .int b] (Wm D cI m th sm r F v e) (S := Unit) (fun _ _ => True) (fun _ => Wm D cI m 1 sm r F v e) := by
  refine CI_of (own := RX5) (by decide) rfl rfl (Nat.le_of_ble_eq_true rfl) rfl (fun X A hC hE => ?_)
  refine V_aload_n hC dX5_whole_0 rfl rfl rfl ?_
  refine V_aload_n hC dX5_whole_1 rfl rfl rfl ?_
  refine V_iload_n hC dX5_whole_2 rfl rfl rfl ?_
  refine V_callIV (q0 := 0) (n := 1) hC dX5_whole_3 (k_X5_isTrain l D cI cZ cT _ _ _ _ _ _ _ _) gX5_whole_X5_isTrain rfl ⟨rfl, rfl⟩ (by decide +kernel) ⟨Nat.le_of_ble_eq_true rfl, Nat.le_of_ble_eq_true rfl⟩ ⟨Nat.le_of_ble_eq_true rfl, Nat.le_of_ble_eq_true rfl⟩ rfl rfl rfl rfl (by exact Nat.le_of_ble_eq_true rfl) rfl (fun r_3 u_3 h_3 => ?_)
  subst h_3
  refine V_if_eq (tgt := 13) hC dX5_whole_6 (by decide) rfl (fun c_6 => ?_) (fun c_6 => ?_)
  · refine V_iconst (v := 1) hC dX5_whole_13 (by decide) rfl ?_
    refine V_put (q0 := 0) (C := RX5) (T := TX5) (N := 3) hC dX5_whole_14 in_X5_X5_whole tyX5 tyX5_ok nmX5 rfl rfl 0 (Nat.le_of_ble_eq_true rfl) fk_X5_whole_16 rfl rfl rfl rfl (Nat.le_of_ble_eq_true rfl) Wm_th rfl ?_
    refine V_aload_n hC dX5_whole_17 rfl rfl rfl ?_
    refine V_get (q0 := 0) (C := RX5) (T := TX5) (N := 3) hC dX5_whole_18 in_X5_X5_whole rfl rfl 0 (Nat.le_of_ble_eq_true rfl) fk_X5_whole_16 rfl rfl ?_
    refine V_if_le (tgt := 26) hC dX5_whole_21 (by decide) rfl (fun c_21 => ?_) (fun c_21 => ?_)
    · exact absurd c_21 (by decide)
    · refine V_iconst (v := 0) hC dX5_whole_24 (by decide) rfl ?_
      exact hE _ () _ _ _ dX5_whole_25 rfl rfl (by first | rfl | (simp [*]; done))
  · exact absurd (m_in0 h1) c_6
theorem in_X5_X5_end : ∀ w ∈ u_ws RX5 TX5 3, w ∈ wsX5_end := by decide +kernel
theorem fk_X5_end_16 : Cond.fieldLink RX5 16 (TX5 0).1 (TX5 0).2.1 (TX5 0).2.2.1 ∈ wsX5_end := by decide +kernel
theorem fk_X5_end_10 : Cond.fieldLink RX5 10 (TX5 1).1 (TX5 1).2.1 (TX5 1).2.2.1 ∈ wsX5_end := by decide +kernel
theorem in_X4_X5_end : ∀ w ∈ u_ws RX4 TX4 7, w ∈ wsX5_end := by decide +kernel
set_option maxRecDepth 100000 in
set_option maxHeartbeats 4000000 in
theorem k_X5_end (l : Launch) (D : va_G) (cI cZ cT : ClassId) (m : Nat) (th : Int32) (sm : Int64) (r : Nat → Nat) (F : Nat → Nat → Int32) (v : Nat → Int32) (e : Nat) (h4 : v 4 = 0) (a : Int32) : CI l D kC2 (kT2 D cI cZ cT) yX5_end wsX5_end ({ frames := 1, cells := 0, slots := 0, locals := 22 }) 0 0 [.ref m, .int a] (Wm D cI m th sm r F v e) (S := Unit) (fun _ _ => True) (fun _ => Wm D cI m 1 sm r F v e) := by
  refine CI_of (own := RX5) (by decide) rfl rfl (Nat.le_of_ble_eq_true rfl) rfl (fun X A hC hE => ?_)
  refine V_aload_n hC dX5_end_0 rfl rfl rfl ?_
  refine V_iconst (v := 0) hC dX5_end_1 (by decide) rfl ?_
  refine V_put (q0 := 0) (C := RX5) (T := TX5) (N := 3) hC dX5_end_2 in_X5_X5_end tyX5 tyX5_ok nmX5 rfl rfl 0 (Nat.le_of_ble_eq_true rfl) fk_X5_end_16 rfl rfl rfl rfl (Nat.le_of_ble_eq_true rfl) Wm_th rfl ?_
  refine V_iload_n hC dX5_end_5 rfl rfl rfl ?_
  refine V_iconst (v := 0) hC dX5_end_6 (by decide) rfl ?_
  refine V_aload_n hC dX5_end_7 rfl rfl rfl ?_
  refine V_get (q0 := 0) (C := RX5) (T := TX5) (N := 3) hC dX5_end_8 in_X5_X5_end rfl rfl 1 (Nat.le_of_ble_eq_true rfl) fk_X5_end_10 rfl rfl ?_
  refine V_getN (q0 := 1) (C := RX4) (T := TX4) (N := 7) (ref := RX4) (host := RX5) hC dX5_end_11 in_X4_X5_end rfl rfl 5 (Nat.le_of_ble_eq_true rfl) (by decide +kernel) rfl rfl rfl ?_
  refine V_callIVf (q0 := 0) (n := 0) hC dX5_end_14 (k_Jx4a65c_size_8abf5 l D cI cZ cT _ _ _ _) gX5_end_Jx4a65c_size_8abf5 rfl ⟨rfl, rfl⟩ (by decide +kernel) ⟨Nat.le_of_ble_eq_true rfl, Nat.le_of_ble_eq_true rfl⟩ ⟨Nat.le_of_ble_eq_true rfl, Nat.le_of_ble_eq_true rfl⟩ Wm_w.symm rfl rfl rfl rfl (by exact Nat.le_of_ble_eq_true rfl) rfl (fun r_14 u_14 h_14 => ?_)
  subst h_14
  refine V_ws Wm_w ?_
  refine V_iconst (v := 1) hC dX5_end_17 (by decide) rfl ?_
  refine V_isub hC dX5_end_18 rfl ?_
  refine V_callIS0 (n := 3) hC dX5_end_19 (k_X5_is l D cI cZ cT _ _ _) gX5_end_X5_is rfl ⟨rfl, rfl⟩ (by decide +kernel) ⟨Nat.le_of_ble_eq_true rfl, Nat.le_of_ble_eq_true rfl⟩ ⟨Nat.le_of_ble_eq_true rfl, Nat.le_of_ble_eq_true rfl⟩ rfl rfl (by exact Nat.le_of_ble_eq_true rfl) rfl (fun r_19 u_19 h_19 => ?_)
  subst h_19
  refine V_if_ne (tgt := 31) hC dX5_end_22 (by decide) rfl (fun c_22 => ?_) (fun c_22 => ?_)
  · exact absurd (m_in0 h4) c_22
  · refine V_aload_n hC dX5_end_25 rfl rfl rfl ?_
    refine V_iconst (v := 1) hC dX5_end_26 (by decide) rfl ?_
    refine V_callIV (q0 := 0) (n := 1) hC dX5_end_27 (k_X5_refuse l D cI cZ cT _ _ _ _ _ _ _ _) gX5_end_X5_refuse rfl ⟨rfl, rfl⟩ (by decide +kernel) ⟨Nat.le_of_ble_eq_true rfl, Nat.le_of_ble_eq_true rfl⟩ ⟨Nat.le_of_ble_eq_true rfl, Nat.le_of_ble_eq_true rfl⟩ rfl rfl rfl rfl (by exact Nat.le_of_ble_eq_true rfl) rfl (fun r_27 u_27 h_27 => ?_)
    subst h_27
    exact hE _ () _ _ _ dX5_end_30 rfl rfl (by first | rfl | (simp [*]; done))
theorem in_X5_X5_section : ∀ w ∈ u_ws RX5 TX5 3, w ∈ wsX5_section := by decide +kernel
theorem fk_X5_section_16 : Cond.fieldLink RX5 16 (TX5 0).1 (TX5 0).2.1 (TX5 0).2.2.1 ∈ wsX5_section := by decide +kernel
theorem fk_X5_section_10 : Cond.fieldLink RX5 10 (TX5 1).1 (TX5 1).2.1 (TX5 1).2.2.1 ∈ wsX5_section := by decide +kernel
theorem in_X4_X5_section : ∀ w ∈ u_ws RX4 TX4 7, w ∈ wsX5_section := by decide +kernel
set_option maxRecDepth 100000 in
set_option maxHeartbeats 4000000 in
theorem k_X5_section (l : Launch) (D : va_G) (cI cZ cT : ClassId) (m : Nat) (th : Int32) (sm : Int64) (r : Nat → Nat) (F : Nat → Nat → Int32) (v : Nat → Int32) (e : Nat) (hF : F = FI 20) (k l1 g b : Int32) : CI l D kC2 (kT2 D cI cZ cT) yX5_section wsX5_section ({ frames := 2, cells := 0, slots := 0, locals := 42 }) 0 0 [.ref m, .int k, .int l1, .int g, .int b] (Wm D cI m th sm r F v e) (S := (Int32 × (Nat → Nat → Int32))) (fun r u => u.1 = x_sec k l1 g ∧ (x_sec k l1 g = 0 → r = 40)) (fun u => Wm D cI m u.1 sm r u.2 v e) := by
  refine CI_of (own := RX5) (by decide) rfl rfl (Nat.le_of_ble_eq_true rfl) rfl (fun X A hC hE => ?_)
  refine V_aload_n hC dX5_section_0 rfl rfl rfl ?_
  refine V_iconst (v := 0) hC dX5_section_1 (by decide) rfl ?_
  refine V_put (q0 := 0) (C := RX5) (T := TX5) (N := 3) hC dX5_section_2 in_X5_X5_section tyX5 tyX5_ok nmX5 rfl rfl 0 (Nat.le_of_ble_eq_true rfl) fk_X5_section_16 rfl rfl rfl rfl (Nat.le_of_ble_eq_true rfl) Wm_th rfl ?_
  refine V_iload_n hC dX5_section_5 rfl rfl rfl ?_
  refine V_callIS0 (n := 1) hC dX5_section_6 (k_X5_isSection l D cI cZ cT _) gX5_section_X5_isSection rfl ⟨rfl, rfl⟩ (by decide +kernel) ⟨Nat.le_of_ble_eq_true rfl, Nat.le_of_ble_eq_true rfl⟩ ⟨Nat.le_of_ble_eq_true rfl, Nat.le_of_ble_eq_true rfl⟩ rfl rfl (by exact Nat.le_of_ble_eq_true rfl) rfl (fun r_6 u_6 h_6 => ?_)
  subst h_6
  refine V_if_ne (tgt := 18) hC dX5_section_9 (by decide) rfl (fun c_9 => ?_) (fun c_9 => ?_)
  · obtain ⟨i, hi, rfl⟩ := m_inI (B := 19) (by decide) c_9
    have hi2 : i < 20 := by omega
    refine V_iload_n hC dX5_section_18 rfl rfl rfl ?_
    refine V_callIS0 (n := 1) hC dX5_section_19 (k_X5_isLimit l D cI cZ cT _) gX5_section_X5_isLimit rfl ⟨rfl, rfl⟩ (by decide +kernel) ⟨Nat.le_of_ble_eq_true rfl, Nat.le_of_ble_eq_true rfl⟩ ⟨Nat.le_of_ble_eq_true rfl, Nat.le_of_ble_eq_true rfl⟩ rfl rfl (by exact Nat.le_of_ble_eq_true rfl) rfl (fun r_19 u_19 h_19 => ?_)
    subst h_19
    refine V_if_eq (tgt := 35) hC dX5_section_22 (by decide) rfl (fun c_22 => ?_) (fun c_22 => ?_)
    · refine V_aload_n hC dX5_section_35 rfl rfl rfl ?_
      refine V_iconst (v := 2) hC dX5_section_36 (by decide) rfl ?_
      refine V_callIV (q0 := 0) (n := 1) hC dX5_section_37 (k_X5_refuse l D cI cZ cT _ _ _ _ _ _ _ _) gX5_section_X5_refuse rfl ⟨rfl, rfl⟩ (by decide +kernel) ⟨Nat.le_of_ble_eq_true rfl, Nat.le_of_ble_eq_true rfl⟩ ⟨Nat.le_of_ble_eq_true rfl, Nat.le_of_ble_eq_true rfl⟩ rfl rfl rfl rfl (by exact Nat.le_of_ble_eq_true rfl) rfl (fun r_37 u_37 h_37 => ?_)
      subst h_37
      exact hE _ (_, _) _ _ _ dX5_section_40 rfl rfl ⟨by simp [x_sec, *], by simp [x_sec, *]⟩
    · refine V_iload_n hC dX5_section_25 rfl rfl rfl ?_
      refine V_bipush (v := (-2)) hC dX5_section_26 (by decide) rfl ?_
      refine V_iconst (v := 2) hC dX5_section_28 (by decide) rfl ?_
      refine V_callIS0 (n := 3) hC dX5_section_29 (k_X5_is l D cI cZ cT _ _ _) gX5_section_X5_is rfl ⟨rfl, rfl⟩ (by decide +kernel) ⟨Nat.le_of_ble_eq_true rfl, Nat.le_of_ble_eq_true rfl⟩ ⟨Nat.le_of_ble_eq_true rfl, Nat.le_of_ble_eq_true rfl⟩ rfl rfl (by exact Nat.le_of_ble_eq_true rfl) rfl (fun r_29 u_29 h_29 => ?_)
      subst h_29
      refine V_if_ne (tgt := 41) hC dX5_section_32 (by decide) rfl (fun c_32 => ?_) (fun c_32 => ?_)
      · refine V_aload_n hC dX5_section_41 rfl rfl rfl ?_
        refine V_get (q0 := 0) (C := RX5) (T := TX5) (N := 3) hC dX5_section_42 in_X5_X5_section rfl rfl 1 (Nat.le_of_ble_eq_true rfl) fk_X5_section_10 rfl rfl ?_
        refine V_getN (q0 := 1) (C := RX4) (T := TX4) (N := 7) (ref := RX4) (host := RX5) hC dX5_section_45 in_X4_X5_section rfl rfl 0 (Nat.le_of_ble_eq_true rfl) (by decide +kernel) rfl rfl rfl ?_
        refine V_iload_n hC dX5_section_48 rfl rfl rfl ?_
        refine V_aaldA (q0 := 2) hC dX5_section_49 rfl 3 rfl rfl hi2 (by decide) (show rf 20 (fun i => r (2 + i)) i = some (r (2 + i)) from rf_at hi2) rfl ?_
        refine V_iconst (v := 0) hC dX5_section_50 (by decide) rfl ?_
        refine V_iald hC dX5_section_51 (Wm_s hi2) 0 rfl (show (0 : Int32) = nI 0 from rfl) (by decide) (by decide) rfl ?_
        refine V_istore hC dX5_section_52 (Nat.le_of_ble_eq_true rfl) rfl ?_
        refine V_aload_n hC dX5_section_54 rfl rfl rfl ?_
        refine V_get (q0 := 0) (C := RX5) (T := TX5) (N := 3) hC dX5_section_55 in_X5_X5_section rfl rfl 1 (Nat.le_of_ble_eq_true rfl) fk_X5_section_10 rfl rfl ?_
        refine V_getN (q0 := 1) (C := RX4) (T := TX4) (N := 7) (ref := RX4) (host := RX5) hC dX5_section_58 in_X4_X5_section rfl rfl 0 (Nat.le_of_ble_eq_true rfl) (by decide +kernel) rfl rfl rfl ?_
        refine V_iload_n hC dX5_section_61 rfl rfl rfl ?_
        refine V_aaldA (q0 := 2) hC dX5_section_62 rfl 3 rfl rfl hi2 (by decide) (show rf 20 (fun i => r (2 + i)) i = some (r (2 + i)) from rf_at hi2) rfl ?_
        refine V_iconst (v := 0) hC dX5_section_63 (by decide) rfl ?_
        refine V_iload_n hC dX5_section_64 rfl rfl rfl ?_
        refine V_iast hC dX5_section_65 (Wm_s hi2) 0 rfl (show (0 : Int32) = nI 0 from rfl) (by decide) (by decide) (Wm_su hi2) rfl ?_
        refine V_aload_n hC dX5_section_66 rfl rfl rfl ?_
        refine V_get (q0 := 0) (C := RX5) (T := TX5) (N := 3) hC dX5_section_67 in_X5_X5_section rfl rfl 1 (Nat.le_of_ble_eq_true rfl) fk_X5_section_10 rfl rfl ?_
        refine V_getN (q0 := 1) (C := RX4) (T := TX4) (N := 7) (ref := RX4) (host := RX5) hC dX5_section_70 in_X4_X5_section rfl rfl 0 (Nat.le_of_ble_eq_true rfl) (by decide +kernel) rfl rfl rfl ?_
        refine V_iload_n hC dX5_section_73 rfl rfl rfl ?_
        refine V_aaldA (q0 := 2) hC dX5_section_74 rfl 3 rfl rfl hi2 (by decide) (show rf 20 (fun i => r (2 + i)) i = some (r (2 + i)) from rf_at hi2) rfl ?_
        refine V_iconst (v := 1) hC dX5_section_75 (by decide) rfl ?_
        refine V_iload_n hC dX5_section_76 rfl rfl rfl ?_
        refine V_iast hC dX5_section_77 (Wm_s hi2) 0 rfl (show (1 : Int32) = nI 1 from rfl) (by decide) (by decide) (Wm_su hi2) rfl ?_
        refine V_aload_n hC dX5_section_78 rfl rfl rfl ?_
        refine V_get (q0 := 0) (C := RX5) (T := TX5) (N := 3) hC dX5_section_79 in_X5_X5_section rfl rfl 1 (Nat.le_of_ble_eq_true rfl) fk_X5_section_10 rfl rfl ?_
        refine V_getN (q0 := 1) (C := RX4) (T := TX4) (N := 7) (ref := RX4) (host := RX5) hC dX5_section_82 in_X4_X5_section rfl rfl 0 (Nat.le_of_ble_eq_true rfl) (by decide +kernel) rfl rfl rfl ?_
        refine V_iload_n hC dX5_section_85 rfl rfl rfl ?_
        refine V_aaldA (q0 := 2) hC dX5_section_86 rfl 3 rfl rfl hi2 (by decide) (show rf 20 (fun i => r (2 + i)) i = some (r (2 + i)) from rf_at hi2) rfl ?_
        refine V_iconst (v := 2) hC dX5_section_87 (by decide) rfl ?_
        refine V_iload hC dX5_section_88 rfl rfl ?_
        refine V_if_eq (tgt := 97) hC dX5_section_90 (by decide) rfl (fun c_90 => ?_) (fun c_90 => ?_)
        · refine V_iconst (v := 0) hC dX5_section_97 (by decide) rfl ?_
          refine V_iast hC dX5_section_98 (Wm_s hi2) 0 rfl (show (2 : Int32) = nI 2 from rfl) (by decide) (by decide) (Wm_su hi2) rfl ?_
          refine V_iload hC dX5_section_99 rfl rfl ?_
          exact hE _ (_, _) _ _ _ dX5_section_101 rfl rfl ⟨by simp [x_sec, *], fun _ => by subst hF; exact FI_a hi2 (j := 0) (by decide)⟩
        · refine V_iconst (v := 1) hC dX5_section_93 (by decide) rfl ?_
          refine V_goto (tgt := 98) hC dX5_section_94 (by decide) ?_
          refine V_iast hC dX5_section_98 (Wm_s hi2) 0 rfl (show (2 : Int32) = nI 2 from rfl) (by decide) (by decide) (Wm_su hi2) rfl ?_
          refine V_iload hC dX5_section_99 rfl rfl ?_
          exact hE _ (_, _) _ _ _ dX5_section_101 rfl rfl ⟨by simp [x_sec, *], fun _ => by subst hF; exact FI_a hi2 (j := 0) (by decide)⟩
      · refine V_aload_n hC dX5_section_35 rfl rfl rfl ?_
        refine V_iconst (v := 2) hC dX5_section_36 (by decide) rfl ?_
        refine V_callIV (q0 := 0) (n := 1) hC dX5_section_37 (k_X5_refuse l D cI cZ cT _ _ _ _ _ _ _ _) gX5_section_X5_refuse rfl ⟨rfl, rfl⟩ (by decide +kernel) ⟨Nat.le_of_ble_eq_true rfl, Nat.le_of_ble_eq_true rfl⟩ ⟨Nat.le_of_ble_eq_true rfl, Nat.le_of_ble_eq_true rfl⟩ rfl rfl rfl rfl (by exact Nat.le_of_ble_eq_true rfl) rfl (fun r_37 u_37 h_37 => ?_)
        subst h_37
        exact hE _ (_, _) _ _ _ dX5_section_40 rfl rfl ⟨by simp [x_sec, *], by simp [x_sec, *]⟩
  · refine V_aload_n hC dX5_section_12 rfl rfl rfl ?_
    refine V_iconst (v := 1) hC dX5_section_13 (by decide) rfl ?_
    refine V_callIV (q0 := 0) (n := 1) hC dX5_section_14 (k_X5_refuse l D cI cZ cT _ _ _ _ _ _ _ _) gX5_section_X5_refuse rfl ⟨rfl, rfl⟩ (by decide +kernel) ⟨Nat.le_of_ble_eq_true rfl, Nat.le_of_ble_eq_true rfl⟩ ⟨Nat.le_of_ble_eq_true rfl, Nat.le_of_ble_eq_true rfl⟩ rfl rfl rfl rfl (by exact Nat.le_of_ble_eq_true rfl) rfl (fun r_14 u_14 h_14 => ?_)
    subst h_14
    exact hE _ (_, _) _ _ _ dX5_section_17 rfl rfl ⟨by simp [x_sec, *], by simp [x_sec, *]⟩
theorem in_X5_X5_station : ∀ w ∈ u_ws RX5 TX5 3, w ∈ wsX5_station := by decide +kernel
theorem fk_X5_station_16 : Cond.fieldLink RX5 16 (TX5 0).1 (TX5 0).2.1 (TX5 0).2.2.1 ∈ wsX5_station := by decide +kernel
theorem fk_X5_station_10 : Cond.fieldLink RX5 10 (TX5 1).1 (TX5 1).2.1 (TX5 1).2.2.1 ∈ wsX5_station := by decide +kernel
theorem in_X4_X5_station : ∀ w ∈ u_ws RX4 TX4 7, w ∈ wsX5_station := by decide +kernel
set_option maxRecDepth 100000 in
set_option maxHeartbeats 4000000 in
theorem k_X5_station (l : Launch) (D : va_G) (cI cZ cT : ClassId) (m : Nat) (th : Int32) (sm : Int64) (r : Nat → Nat) (F : Nat → Nat → Int32) (v : Nat → Int32) (e : Nat) (h0 : v 0 = 0) (h1 : v 1 = 0) (k d : Int32) : CI l D kC2 (kT2 D cI cZ cT) yX5_station wsX5_station ({ frames := 1, cells := 0, slots := 0, locals := 22 }) 0 0 [.ref m, .int k, .int d] (Wm D cI m th sm r F v e) (S := (Int32 × (Nat → Nat → Int32) × (Nat → Int32))) (fun r u => u.1 = x_sta k d ∧ (x_sta k d = 0 → r = 0)) (fun u => Wm D cI m u.1 sm r u.2.1 u.2.2 e) := by
  refine CI_of (own := RX5) (by decide) rfl rfl (Nat.le_of_ble_eq_true rfl) rfl (fun X A hC hE => ?_)
  refine V_aload_n hC dX5_station_0 rfl rfl rfl ?_
  refine V_iconst (v := 0) hC dX5_station_1 (by decide) rfl ?_
  refine V_put (q0 := 0) (C := RX5) (T := TX5) (N := 3) hC dX5_station_2 in_X5_X5_station tyX5 tyX5_ok nmX5 rfl rfl 0 (Nat.le_of_ble_eq_true rfl) fk_X5_station_16 rfl rfl rfl rfl (Nat.le_of_ble_eq_true rfl) Wm_th rfl ?_
  refine V_iconst (v := 0) hC dX5_station_5 (by decide) rfl ?_
  refine V_istore_n hC dX5_station_6 rfl (Nat.le_of_ble_eq_true rfl) rfl ?_
  refine V_iconst (v := 0) hC dX5_station_7 (by decide) rfl ?_
  refine V_istore hC dX5_station_8 (Nat.le_of_ble_eq_true rfl) rfl ?_
  refine V_iload hC dX5_station_10 rfl rfl ?_
  refine V_aload_n hC dX5_station_12 rfl rfl rfl ?_
  refine V_get (q0 := 0) (C := RX5) (T := TX5) (N := 3) hC dX5_station_13 in_X5_X5_station rfl rfl 1 (Nat.le_of_ble_eq_true rfl) fk_X5_station_10 rfl rfl ?_
  refine V_getN (q0 := 1) (C := RX4) (T := TX4) (N := 7) (ref := RX4) (host := RX5) hC dX5_station_16 in_X4_X5_station rfl rfl 2 (Nat.le_of_ble_eq_true rfl) (by decide +kernel) rfl rfl rfl ?_
  refine V_icmp_ge (tgt := 52) hC dX5_station_19 (by decide) rfl (fun c_19 => ?_) (fun c_19 => ?_)
  · refine V_iload_n hC dX5_station_52 rfl rfl rfl ?_
    refine V_iconst (v := 0) hC dX5_station_53 (by decide) rfl ?_
    refine V_sipush (v := 2999) hC dX5_station_54 (by decide) rfl ?_
    refine V_callIS0 (n := 3) hC dX5_station_57 (k_X5_is l D cI cZ cT _ _ _) gX5_station_X5_is rfl ⟨rfl, rfl⟩ (by decide +kernel) ⟨Nat.le_of_ble_eq_true rfl, Nat.le_of_ble_eq_true rfl⟩ ⟨Nat.le_of_ble_eq_true rfl, Nat.le_of_ble_eq_true rfl⟩ rfl rfl (by exact Nat.le_of_ble_eq_true rfl) rfl (fun r_57 u_57 h_57 => ?_)
    subst h_57
    refine V_if_eq (tgt := 77) hC dX5_station_60 (by decide) rfl (fun c_60 => ?_) (fun c_60 => ?_)
    · refine V_aload_n hC dX5_station_77 rfl rfl rfl ?_
      refine V_iconst (v := 1) hC dX5_station_78 (by decide) rfl ?_
      refine V_callIV (q0 := 0) (n := 1) hC dX5_station_79 (k_X5_refuse l D cI cZ cT _ _ _ _ _ _ _ _) gX5_station_X5_refuse rfl ⟨rfl, rfl⟩ (by decide +kernel) ⟨Nat.le_of_ble_eq_true rfl, Nat.le_of_ble_eq_true rfl⟩ ⟨Nat.le_of_ble_eq_true rfl, Nat.le_of_ble_eq_true rfl⟩ rfl rfl rfl rfl (by exact Nat.le_of_ble_eq_true rfl) rfl (fun r_79 u_79 h_79 => ?_)
      subst h_79
      exact hE _ (_, _, _) _ _ _ dX5_station_82 rfl rfl ⟨by simp [x_sta, *], by simp [x_sta, *]⟩
    · refine V_iload_n hC dX5_station_63 rfl rfl rfl ?_
      refine V_if_ne (tgt := 77) hC dX5_station_64 (by decide) rfl (fun c => absurd c (by decide)) (fun _ => ?_)
      refine V_iload_n hC dX5_station_67 rfl rfl rfl ?_
      refine V_iconst (v := 0) hC dX5_station_68 (by decide) rfl ?_
      refine V_bipush (v := 60) hC dX5_station_69 (by decide) rfl ?_
      refine V_callIS0 (n := 3) hC dX5_station_71 (k_X5_is l D cI cZ cT _ _ _) gX5_station_X5_is rfl ⟨rfl, rfl⟩ (by decide +kernel) ⟨Nat.le_of_ble_eq_true rfl, Nat.le_of_ble_eq_true rfl⟩ ⟨Nat.le_of_ble_eq_true rfl, Nat.le_of_ble_eq_true rfl⟩ rfl rfl (by exact Nat.le_of_ble_eq_true rfl) rfl (fun r_71 u_71 h_71 => ?_)
      subst h_71
      refine V_if_ne (tgt := 83) hC dX5_station_74 (by decide) rfl (fun c_74 => ?_) (fun c_74 => ?_)
      · refine V_aload_n hC dX5_station_83 rfl rfl rfl ?_
        refine V_get (q0 := 0) (C := RX5) (T := TX5) (N := 3) hC dX5_station_84 in_X5_X5_station rfl rfl 1 (Nat.le_of_ble_eq_true rfl) fk_X5_station_10 rfl rfl ?_
        refine V_getN (q0 := 1) (C := RX4) (T := TX4) (N := 7) (ref := RX4) (host := RX5) hC dX5_station_87 in_X4_X5_station rfl rfl 2 (Nat.le_of_ble_eq_true rfl) (by decide +kernel) rfl rfl rfl ?_
        refine V_iconst (v := 4) hC dX5_station_90 (by decide) rfl ?_
        refine V_icmp_eq (tgt := 101) hC dX5_station_91 (by decide) rfl (fun c_91 => ?_) (fun c_91 => ?_)
        · rw [h0] at c_91
          first | exact absurd (by decide) c_91 | exact absurd c_91 (by decide)
        · refine V_aload_n hC dX5_station_94 rfl rfl rfl ?_
          refine V_callIV (q0 := 0) (n := 0) hC dX5_station_95 (k_X5_isRunning l D cI cZ cT _ _ _ _ _ _ _ h1) gX5_station_X5_isRunning rfl ⟨rfl, rfl⟩ (by decide +kernel) ⟨Nat.le_of_ble_eq_true rfl, Nat.le_of_ble_eq_true rfl⟩ ⟨Nat.le_of_ble_eq_true rfl, Nat.le_of_ble_eq_true rfl⟩ rfl rfl rfl rfl (by exact Nat.le_of_ble_eq_true rfl) rfl (fun r_95 u_95 h_95 => ?_)
          subst h_95
          refine V_if_eq (tgt := 107) hC dX5_station_98 (by decide) rfl (fun c_98 => ?_) (fun c_98 => ?_)
          · refine V_aload_n hC dX5_station_107 rfl rfl rfl ?_
            refine V_get (q0 := 0) (C := RX5) (T := TX5) (N := 3) hC dX5_station_108 in_X5_X5_station rfl rfl 1 (Nat.le_of_ble_eq_true rfl) fk_X5_station_10 rfl rfl ?_
            refine V_getN (q0 := 1) (C := RX4) (T := TX4) (N := 7) (ref := RX4) (host := RX5) hC dX5_station_111 in_X4_X5_station rfl rfl 1 (Nat.le_of_ble_eq_true rfl) (by decide +kernel) rfl rfl rfl ?_
            refine V_aload_n hC dX5_station_114 rfl rfl rfl ?_
            refine V_get (q0 := 0) (C := RX5) (T := TX5) (N := 3) hC dX5_station_115 in_X5_X5_station rfl rfl 1 (Nat.le_of_ble_eq_true rfl) fk_X5_station_10 rfl rfl ?_
            refine V_getN (q0 := 1) (C := RX4) (T := TX4) (N := 7) (ref := RX4) (host := RX5) hC dX5_station_118 in_X4_X5_station rfl rfl 2 (Nat.le_of_ble_eq_true rfl) (by decide +kernel) rfl rfl rfl ?_
            refine V_aaldA (q0 := 23) hC dX5_station_121 rfl 3 rfl (show v 0 = nI 0 from h0) (by decide) (by decide) (show rf 4 (fun i => r (23 + i)) 0 = some (r (23 + 0)) from rf_at (by decide)) rfl ?_
            refine V_iconst (v := 0) hC dX5_station_122 (by decide) rfl ?_
            refine V_iload_n hC dX5_station_123 rfl rfl rfl ?_
            refine V_iast hC dX5_station_124 (Wm_t (by decide)) 0 rfl (show (0 : Int32) = nI 0 from rfl) (by decide) (by decide) (Wm_tu (by decide)) rfl ?_
            refine V_aload_n hC dX5_station_125 rfl rfl rfl ?_
            refine V_get (q0 := 0) (C := RX5) (T := TX5) (N := 3) hC dX5_station_126 in_X5_X5_station rfl rfl 1 (Nat.le_of_ble_eq_true rfl) fk_X5_station_10 rfl rfl ?_
            refine V_getN (q0 := 1) (C := RX4) (T := TX4) (N := 7) (ref := RX4) (host := RX5) hC dX5_station_129 in_X4_X5_station rfl rfl 1 (Nat.le_of_ble_eq_true rfl) (by decide +kernel) rfl rfl rfl ?_
            refine V_aload_n hC dX5_station_132 rfl rfl rfl ?_
            refine V_get (q0 := 0) (C := RX5) (T := TX5) (N := 3) hC dX5_station_133 in_X5_X5_station rfl rfl 1 (Nat.le_of_ble_eq_true rfl) fk_X5_station_10 rfl rfl ?_
            refine V_getN (q0 := 1) (C := RX4) (T := TX4) (N := 7) (ref := RX4) (host := RX5) hC dX5_station_136 in_X4_X5_station rfl rfl 2 (Nat.le_of_ble_eq_true rfl) (by decide +kernel) rfl rfl rfl ?_
            refine V_aaldA (q0 := 23) hC dX5_station_139 rfl 3 rfl (show v 0 = nI 0 from h0) (by decide) (by decide) (show rf 4 (fun i => r (23 + i)) 0 = some (r (23 + 0)) from rf_at (by decide)) rfl ?_
            refine V_iconst (v := 1) hC dX5_station_140 (by decide) rfl ?_
            refine V_iload_n hC dX5_station_141 rfl rfl rfl ?_
            refine V_iast hC dX5_station_142 (Wm_t (by decide)) 0 rfl (show (1 : Int32) = nI 1 from rfl) (by decide) (by decide) (Wm_tu (by decide)) rfl ?_
            refine V_aload_n hC dX5_station_143 rfl rfl rfl ?_
            refine V_get (q0 := 0) (C := RX5) (T := TX5) (N := 3) hC dX5_station_144 in_X5_X5_station rfl rfl 1 (Nat.le_of_ble_eq_true rfl) fk_X5_station_10 rfl rfl ?_
            refine V_dup hC dX5_station_147 rfl rfl ?_
            refine V_getN (q0 := 1) (C := RX4) (T := TX4) (N := 7) (ref := RX4) (host := RX5) hC dX5_station_148 in_X4_X5_station rfl rfl 2 (Nat.le_of_ble_eq_true rfl) (by decide +kernel) rfl rfl rfl ?_
            refine V_iconst (v := 1) hC dX5_station_151 (by decide) rfl ?_
            refine V_iadd hC dX5_station_152 rfl ?_
            refine V_putN (q0 := 1) (ref := RX4) (host := RX5) (C := RX4) (T := TX4) (N := 7) hC dX5_station_153 in_X4_X5_station tyX4 tyX4_ok nmX4 rfl rfl 2 (Nat.le_of_ble_eq_true rfl) (by decide +kernel) rfl rfl rfl rfl rfl (Nat.le_of_ble_eq_true rfl) Wm_v0 rfl ?_
            refine V_aload_n hC dX5_station_156 rfl rfl rfl ?_
            refine V_get (q0 := 0) (C := RX5) (T := TX5) (N := 3) hC dX5_station_157 in_X5_X5_station rfl rfl 1 (Nat.le_of_ble_eq_true rfl) fk_X5_station_10 rfl rfl ?_
            refine V_getN (q0 := 1) (C := RX4) (T := TX4) (N := 7) (ref := RX4) (host := RX5) hC dX5_station_160 in_X4_X5_station rfl rfl 2 (Nat.le_of_ble_eq_true rfl) (by decide +kernel) rfl rfl rfl ?_
            refine V_iconst (v := 1) hC dX5_station_163 (by decide) rfl ?_
            refine V_isub hC dX5_station_164 rfl ?_
            exact hE _ (_, _, _) _ _ _ dX5_station_165 rfl rfl ⟨by simp [x_sta, *], fun _ => by simp [upd, h0]⟩
          · exact absurd rfl c_98
      · refine V_aload_n hC dX5_station_77 rfl rfl rfl ?_
        refine V_iconst (v := 1) hC dX5_station_78 (by decide) rfl ?_
        refine V_callIV (q0 := 0) (n := 1) hC dX5_station_79 (k_X5_refuse l D cI cZ cT _ _ _ _ _ _ _ _) gX5_station_X5_refuse rfl ⟨rfl, rfl⟩ (by decide +kernel) ⟨Nat.le_of_ble_eq_true rfl, Nat.le_of_ble_eq_true rfl⟩ ⟨Nat.le_of_ble_eq_true rfl, Nat.le_of_ble_eq_true rfl⟩ rfl rfl rfl rfl (by exact Nat.le_of_ble_eq_true rfl) rfl (fun r_79 u_79 h_79 => ?_)
        subst h_79
        exact hE _ (_, _, _) _ _ _ dX5_station_82 rfl rfl ⟨by simp [x_sta, *], by simp [x_sta, *]⟩
  · rw [h0] at c_19
    first | exact absurd (by decide) c_19 | exact absurd c_19 (by decide)
theorem in_X5_X5_train : ∀ w ∈ u_ws RX5 TX5 3, w ∈ wsX5_train := by decide +kernel
theorem fk_X5_train_16 : Cond.fieldLink RX5 16 (TX5 0).1 (TX5 0).2.1 (TX5 0).2.2.1 ∈ wsX5_train := by decide +kernel
theorem fk_X5_train_10 : Cond.fieldLink RX5 10 (TX5 1).1 (TX5 1).2.1 (TX5 1).2.2.1 ∈ wsX5_train := by decide +kernel
theorem in_X4_X5_train : ∀ w ∈ u_ws RX4 TX4 7, w ∈ wsX5_train := by decide +kernel
set_option maxRecDepth 100000 in
set_option maxHeartbeats 4000000 in
theorem k_X5_train (l : Launch) (D : va_G) (cI cZ cT : ClassId) (m : Nat) (th : Int32) (sm : Int64) (r : Nat → Nat) (F : Nat → Nat → Int32) (v : Nat → Int32) (e : Nat) (h0 : v 0 = 0) (h1 : v 1 = 0) (k b p s : Int32) : CI l D kC2 (kT2 D cI cZ cT) yX5_train wsX5_train ({ frames := 2, cells := 0, slots := 0, locals := 41 }) 0 0 [.ref m, .int k, .int b, .int p, .int s] (Wm D cI m th sm r F v e) (S := (Int32 × (Nat → Nat → Int32) × (Nat → Int32))) (fun r u => u.1 = x_trn k b p ∧ (x_trn k b p = 0 → r = 0)) (fun u => Wm D cI m u.1 sm r u.2.1 u.2.2 e) := by
  refine CI_of (own := RX5) (by decide) rfl rfl (Nat.le_of_ble_eq_true rfl) rfl (fun X A hC hE => ?_)
  refine V_aload_n hC dX5_train_0 rfl rfl rfl ?_
  refine V_iconst (v := 0) hC dX5_train_1 (by decide) rfl ?_
  refine V_put (q0 := 0) (C := RX5) (T := TX5) (N := 3) hC dX5_train_2 in_X5_X5_train tyX5 tyX5_ok nmX5 rfl rfl 0 (Nat.le_of_ble_eq_true rfl) fk_X5_train_16 rfl rfl rfl rfl (Nat.le_of_ble_eq_true rfl) Wm_th rfl ?_
  refine V_iload_n hC dX5_train_5 rfl rfl rfl ?_
  refine V_bipush (v := 20) hC dX5_train_6 (by decide) rfl ?_
  refine V_sipush (v := 200) hC dX5_train_8 (by decide) rfl ?_
  refine V_callIS0 (n := 3) hC dX5_train_11 (k_X5_is l D cI cZ cT _ _ _) gX5_train_X5_is rfl ⟨rfl, rfl⟩ (by decide +kernel) ⟨Nat.le_of_ble_eq_true rfl, Nat.le_of_ble_eq_true rfl⟩ ⟨Nat.le_of_ble_eq_true rfl, Nat.le_of_ble_eq_true rfl⟩ rfl rfl (by exact Nat.le_of_ble_eq_true rfl) rfl (fun r_11 u_11 h_11 => ?_)
  subst h_11
  refine V_if_eq (tgt := 35) hC dX5_train_14 (by decide) rfl (fun c_14 => ?_) (fun c_14 => ?_)
  · refine V_aload_n hC dX5_train_35 rfl rfl rfl ?_
    refine V_iconst (v := 1) hC dX5_train_36 (by decide) rfl ?_
    refine V_callIV (q0 := 0) (n := 1) hC dX5_train_37 (k_X5_refuse l D cI cZ cT _ _ _ _ _ _ _ _) gX5_train_X5_refuse rfl ⟨rfl, rfl⟩ (by decide +kernel) ⟨Nat.le_of_ble_eq_true rfl, Nat.le_of_ble_eq_true rfl⟩ ⟨Nat.le_of_ble_eq_true rfl, Nat.le_of_ble_eq_true rfl⟩ rfl rfl rfl rfl (by exact Nat.le_of_ble_eq_true rfl) rfl (fun r_37 u_37 h_37 => ?_)
    subst h_37
    exact hE _ (_, _, _) _ _ _ dX5_train_40 rfl rfl ⟨by simp [x_trn, *], by simp [x_trn, *]⟩
  · refine V_iload_n hC dX5_train_17 rfl rfl rfl ?_
    refine V_iconst (v := 1) hC dX5_train_18 (by decide) rfl ?_
    refine V_iconst (v := 4) hC dX5_train_19 (by decide) rfl ?_
    refine V_callIS0 (n := 3) hC dX5_train_20 (k_X5_is l D cI cZ cT _ _ _) gX5_train_X5_is rfl ⟨rfl, rfl⟩ (by decide +kernel) ⟨Nat.le_of_ble_eq_true rfl, Nat.le_of_ble_eq_true rfl⟩ ⟨Nat.le_of_ble_eq_true rfl, Nat.le_of_ble_eq_true rfl⟩ rfl rfl (by exact Nat.le_of_ble_eq_true rfl) rfl (fun r_20 u_20 h_20 => ?_)
    subst h_20
    refine V_if_eq (tgt := 35) hC dX5_train_23 (by decide) rfl (fun c_23 => ?_) (fun c_23 => ?_)
    · refine V_aload_n hC dX5_train_35 rfl rfl rfl ?_
      refine V_iconst (v := 1) hC dX5_train_36 (by decide) rfl ?_
      refine V_callIV (q0 := 0) (n := 1) hC dX5_train_37 (k_X5_refuse l D cI cZ cT _ _ _ _ _ _ _ _) gX5_train_X5_refuse rfl ⟨rfl, rfl⟩ (by decide +kernel) ⟨Nat.le_of_ble_eq_true rfl, Nat.le_of_ble_eq_true rfl⟩ ⟨Nat.le_of_ble_eq_true rfl, Nat.le_of_ble_eq_true rfl⟩ rfl rfl rfl rfl (by exact Nat.le_of_ble_eq_true rfl) rfl (fun r_37 u_37 h_37 => ?_)
      subst h_37
      exact hE _ (_, _, _) _ _ _ dX5_train_40 rfl rfl ⟨by simp [x_trn, *], by simp [x_trn, *]⟩
    · refine V_iload_n hC dX5_train_26 rfl rfl rfl ?_
      refine V_iconst (v := 1) hC dX5_train_27 (by decide) rfl ?_
      refine V_iconst (v := 3) hC dX5_train_28 (by decide) rfl ?_
      refine V_callIS0 (n := 3) hC dX5_train_29 (k_X5_is l D cI cZ cT _ _ _) gX5_train_X5_is rfl ⟨rfl, rfl⟩ (by decide +kernel) ⟨Nat.le_of_ble_eq_true rfl, Nat.le_of_ble_eq_true rfl⟩ ⟨Nat.le_of_ble_eq_true rfl, Nat.le_of_ble_eq_true rfl⟩ rfl rfl (by exact Nat.le_of_ble_eq_true rfl) rfl (fun r_29 u_29 h_29 => ?_)
      subst h_29
      refine V_if_ne (tgt := 41) hC dX5_train_32 (by decide) rfl (fun c_32 => ?_) (fun c_32 => ?_)
      · refine V_aload_n hC dX5_train_41 rfl rfl rfl ?_
        refine V_get (q0 := 0) (C := RX5) (T := TX5) (N := 3) hC dX5_train_42 in_X5_X5_train rfl rfl 1 (Nat.le_of_ble_eq_true rfl) fk_X5_train_10 rfl rfl ?_
        refine V_getN (q0 := 1) (C := RX4) (T := TX4) (N := 7) (ref := RX4) (host := RX5) hC dX5_train_45 in_X4_X5_train rfl rfl 4 (Nat.le_of_ble_eq_true rfl) (by decide +kernel) rfl rfl rfl ?_
        refine V_iconst (v := 4) hC dX5_train_48 (by decide) rfl ?_
        refine V_icmp_ge (tgt := 56) hC dX5_train_49 (by decide) rfl (fun c_49 => ?_) (fun c_49 => ?_)
        · rw [h1] at c_49
          first | exact absurd (by decide) c_49 | exact absurd c_49 (by decide)
        · refine V_iconst (v := 1) hC dX5_train_52 (by decide) rfl ?_
          refine V_goto (tgt := 57) hC dX5_train_53 (by decide) ?_
          refine V_istore hC dX5_train_57 (Nat.le_of_ble_eq_true rfl) rfl ?_
          refine V_iconst (v := 0) hC dX5_train_59 (by decide) rfl ?_
          refine V_istore hC dX5_train_60 (Nat.le_of_ble_eq_true rfl) rfl ?_
          refine V_iload hC dX5_train_62 rfl rfl ?_
          refine V_aload_n hC dX5_train_64 rfl rfl rfl ?_
          refine V_get (q0 := 0) (C := RX5) (T := TX5) (N := 3) hC dX5_train_65 in_X5_X5_train rfl rfl 1 (Nat.le_of_ble_eq_true rfl) fk_X5_train_10 rfl rfl ?_
          refine V_getN (q0 := 1) (C := RX4) (T := TX4) (N := 7) (ref := RX4) (host := RX5) hC dX5_train_68 in_X4_X5_train rfl rfl 4 (Nat.le_of_ble_eq_true rfl) (by decide +kernel) rfl rfl rfl ?_
          refine V_icmp_ge (tgt := 119) hC dX5_train_71 (by decide) rfl (fun c_71 => ?_) (fun c_71 => ?_)
          · refine V_iload hC dX5_train_119 rfl rfl ?_
            refine V_if_ne (tgt := 130) hC dX5_train_121 (by decide) rfl (fun _ => ?_) (fun c => absurd c (by decide))
            refine V_aload_n hC dX5_train_130 rfl rfl rfl ?_
            refine V_get (q0 := 0) (C := RX5) (T := TX5) (N := 3) hC dX5_train_131 in_X5_X5_train rfl rfl 1 (Nat.le_of_ble_eq_true rfl) fk_X5_train_10 rfl rfl ?_
            refine V_getN (q0 := 1) (C := RX4) (T := TX4) (N := 7) (ref := RX4) (host := RX5) hC dX5_train_134 in_X4_X5_train rfl rfl 3 (Nat.le_of_ble_eq_true rfl) (by decide +kernel) rfl rfl rfl ?_
            refine V_aload_n hC dX5_train_137 rfl rfl rfl ?_
            refine V_get (q0 := 0) (C := RX5) (T := TX5) (N := 3) hC dX5_train_138 in_X5_X5_train rfl rfl 1 (Nat.le_of_ble_eq_true rfl) fk_X5_train_10 rfl rfl ?_
            refine V_getN (q0 := 1) (C := RX4) (T := TX4) (N := 7) (ref := RX4) (host := RX5) hC dX5_train_141 in_X4_X5_train rfl rfl 4 (Nat.le_of_ble_eq_true rfl) (by decide +kernel) rfl rfl rfl ?_
            refine V_aaldA (q0 := 28) hC dX5_train_144 rfl 3 rfl (show v 1 = nI 0 from h1) (by decide) (by decide) (show rf 4 (fun i => r (28 + i)) 0 = some (r (28 + 0)) from rf_at (by decide)) rfl ?_
            refine V_astore hC dX5_train_145 (Nat.le_of_ble_eq_true rfl) rfl ?_
            refine V_aload hC dX5_train_147 rfl rfl ?_
            refine V_iconst (v := 0) hC dX5_train_149 (by decide) rfl ?_
            refine V_iload_n hC dX5_train_150 rfl rfl rfl ?_
            refine V_iconst (v := 1) hC dX5_train_151 (by decide) rfl ?_
            refine V_isub hC dX5_train_152 rfl ?_
            refine V_iast hC dX5_train_153 (Wm_n (by decide)) 0 rfl (show (0 : Int32) = nI 0 from rfl) (by decide) (by decide) (Wm_nu (by decide)) rfl ?_
            refine V_aload hC dX5_train_154 rfl rfl ?_
            refine V_iconst (v := 1) hC dX5_train_156 (by decide) rfl ?_
            refine V_iload_n hC dX5_train_157 rfl rfl rfl ?_
            refine V_iast hC dX5_train_158 (Wm_n (by decide)) 0 rfl (show (1 : Int32) = nI 1 from rfl) (by decide) (by decide) (Wm_nu (by decide)) rfl ?_
            refine V_aload hC dX5_train_159 rfl rfl ?_
            refine V_iconst (v := 2) hC dX5_train_161 (by decide) rfl ?_
            refine V_iload_n hC dX5_train_162 rfl rfl rfl ?_
            refine V_iast hC dX5_train_163 (Wm_n (by decide)) 0 rfl (show (2 : Int32) = nI 2 from rfl) (by decide) (by decide) (Wm_nu (by decide)) rfl ?_
            refine V_aload hC dX5_train_164 rfl rfl ?_
            refine V_iconst (v := 3) hC dX5_train_166 (by decide) rfl ?_
            refine V_iload_n hC dX5_train_167 rfl rfl rfl ?_
            refine V_iast hC dX5_train_168 (Wm_n (by decide)) 0 rfl (show (3 : Int32) = nI 3 from rfl) (by decide) (by decide) (Wm_nu (by decide)) rfl ?_
            refine V_aload hC dX5_train_169 rfl rfl ?_
            refine V_iconst (v := 5) hC dX5_train_171 (by decide) rfl ?_
            refine V_aload hC dX5_train_172 rfl rfl ?_
            refine V_iconst (v := 0) hC dX5_train_174 (by decide) rfl ?_
            refine V_iald hC dX5_train_175 (Wm_n (by decide)) 0 rfl (show (0 : Int32) = nI 0 from rfl) (by decide) (by decide) rfl ?_
            refine V_iast hC dX5_train_176 (Wm_n (by decide)) 0 rfl (show (5 : Int32) = nI 5 from rfl) (by decide) (by decide) (Wm_nu (by decide)) rfl ?_
            refine V_aload hC dX5_train_177 rfl rfl ?_
            refine V_bipush (v := 6) hC dX5_train_179 (by decide) rfl ?_
            refine V_iconst (v := 1) hC dX5_train_181 (by decide) rfl ?_
            refine V_iast hC dX5_train_182 (Wm_n (by decide)) 0 rfl (show (6 : Int32) = nI 6 from rfl) (by decide) (by decide) (Wm_nu (by decide)) rfl ?_
            refine V_aload hC dX5_train_183 rfl rfl ?_
            refine V_bipush (v := 10) hC dX5_train_185 (by decide) rfl ?_
            refine V_aload_n hC dX5_train_187 rfl rfl rfl ?_
            refine V_get (q0 := 0) (C := RX5) (T := TX5) (N := 3) hC dX5_train_188 in_X5_X5_train rfl rfl 1 (Nat.le_of_ble_eq_true rfl) fk_X5_train_10 rfl rfl ?_
            refine V_getN (q0 := 1) (C := RX4) (T := TX4) (N := 7) (ref := RX4) (host := RX5) hC dX5_train_191 in_X4_X5_train rfl rfl 6 (Nat.le_of_ble_eq_true rfl) (by decide +kernel) rfl rfl rfl ?_
            refine V_iast hC dX5_train_194 (Wm_n (by decide)) 0 rfl (show (10 : Int32) = nI 10 from rfl) (by decide) (by decide) (Wm_nu (by decide)) rfl ?_
            refine V_iconst (v := 0) hC dX5_train_195 (by decide) rfl ?_
            refine V_istore hC dX5_train_196 (Nat.le_of_ble_eq_true rfl) rfl ?_
            refine V_iload hC dX5_train_198 rfl rfl ?_
            refine V_aload_n hC dX5_train_200 rfl rfl rfl ?_
            refine V_get (q0 := 0) (C := RX5) (T := TX5) (N := 3) hC dX5_train_201 in_X5_X5_train rfl rfl 1 (Nat.le_of_ble_eq_true rfl) fk_X5_train_10 rfl rfl ?_
            refine V_getN (q0 := 1) (C := RX4) (T := TX4) (N := 7) (ref := RX4) (host := RX5) hC dX5_train_204 in_X4_X5_train rfl rfl 2 (Nat.le_of_ble_eq_true rfl) (by decide +kernel) rfl rfl rfl ?_
            refine V_icmp_ge (tgt := 252) hC dX5_train_207 (by decide) rfl (fun c_207 => ?_) (fun c_207 => ?_)
            · refine V_aload_n hC dX5_train_252 rfl rfl rfl ?_
              refine V_get (q0 := 0) (C := RX5) (T := TX5) (N := 3) hC dX5_train_253 in_X5_X5_train rfl rfl 1 (Nat.le_of_ble_eq_true rfl) fk_X5_train_10 rfl rfl ?_
              refine V_aload hC dX5_train_256 rfl rfl ?_
              refine V_callVVf (q0 := 0) (n := 1) hC dX5_train_258 (k_X4_report l D cI cZ cT _ _ _ _ 0 (by decide)) gX5_train_X4_report rfl ⟨rfl, rfl⟩ (by decide +kernel) ⟨Nat.le_of_ble_eq_true rfl, Nat.le_of_ble_eq_true rfl⟩ ⟨Nat.le_of_ble_eq_true rfl, Nat.le_of_ble_eq_true rfl⟩ Wm_l.symm rfl rfl rfl rfl (by exact Nat.le_of_ble_eq_true rfl) rfl (fun u_258 h_258 => ?_)
              refine V_ws Wm_l ?_
              refine V_aload_n hC dX5_train_261 rfl rfl rfl ?_
              refine V_get (q0 := 0) (C := RX5) (T := TX5) (N := 3) hC dX5_train_262 in_X5_X5_train rfl rfl 1 (Nat.le_of_ble_eq_true rfl) fk_X5_train_10 rfl rfl ?_
              refine V_dup hC dX5_train_265 rfl rfl ?_
              refine V_getN (q0 := 1) (C := RX4) (T := TX4) (N := 7) (ref := RX4) (host := RX5) hC dX5_train_266 in_X4_X5_train rfl rfl 4 (Nat.le_of_ble_eq_true rfl) (by decide +kernel) rfl rfl rfl ?_
              refine V_iconst (v := 1) hC dX5_train_269 (by decide) rfl ?_
              refine V_iadd hC dX5_train_270 rfl ?_
              refine V_putN (q0 := 1) (ref := RX4) (host := RX5) (C := RX4) (T := TX4) (N := 7) hC dX5_train_271 in_X4_X5_train tyX4 tyX4_ok nmX4 rfl rfl 4 (Nat.le_of_ble_eq_true rfl) (by decide +kernel) rfl rfl rfl rfl rfl (Nat.le_of_ble_eq_true rfl) Wm_v1 rfl ?_
              refine V_aload_n hC dX5_train_274 rfl rfl rfl ?_
              refine V_get (q0 := 0) (C := RX5) (T := TX5) (N := 3) hC dX5_train_275 in_X5_X5_train rfl rfl 1 (Nat.le_of_ble_eq_true rfl) fk_X5_train_10 rfl rfl ?_
              refine V_getN (q0 := 1) (C := RX4) (T := TX4) (N := 7) (ref := RX4) (host := RX5) hC dX5_train_278 in_X4_X5_train rfl rfl 4 (Nat.le_of_ble_eq_true rfl) (by decide +kernel) rfl rfl rfl ?_
              refine V_iconst (v := 1) hC dX5_train_281 (by decide) rfl ?_
              refine V_isub hC dX5_train_282 rfl ?_
              exact hE _ (_, _, _) _ _ _ dX5_train_283 rfl rfl ⟨by simp [x_trn, *], fun _ => by simp [upd, h1]⟩
            · rw [h0] at c_207
              first | exact absurd (by decide) c_207 | exact absurd c_207 (by decide)
          · rw [h1] at c_71
            first | exact absurd (by decide) c_71 | exact absurd c_71 (by decide)
      · refine V_aload_n hC dX5_train_35 rfl rfl rfl ?_
        refine V_iconst (v := 1) hC dX5_train_36 (by decide) rfl ?_
        refine V_callIV (q0 := 0) (n := 1) hC dX5_train_37 (k_X5_refuse l D cI cZ cT _ _ _ _ _ _ _ _) gX5_train_X5_refuse rfl ⟨rfl, rfl⟩ (by decide +kernel) ⟨Nat.le_of_ble_eq_true rfl, Nat.le_of_ble_eq_true rfl⟩ ⟨Nat.le_of_ble_eq_true rfl, Nat.le_of_ble_eq_true rfl⟩ rfl rfl rfl rfl (by exact Nat.le_of_ble_eq_true rfl) rfl (fun r_37 u_37 h_37 => ?_)
        subst h_37
        exact hE _ (_, _, _) _ _ _ dX5_train_40 rfl rfl ⟨by simp [x_trn, *], by simp [x_trn, *]⟩
theorem in_X5_X5_works : ∀ w ∈ u_ws RX5 TX5 3, w ∈ wsX5_works := by decide +kernel
theorem fk_X5_works_16 : Cond.fieldLink RX5 16 (TX5 0).1 (TX5 0).2.1 (TX5 0).2.2.1 ∈ wsX5_works := by decide +kernel
theorem fk_X5_works_10 : Cond.fieldLink RX5 10 (TX5 1).1 (TX5 1).2.1 (TX5 1).2.2.1 ∈ wsX5_works := by decide +kernel
theorem in_X4_X5_works : ∀ w ∈ u_ws RX4 TX4 7, w ∈ wsX5_works := by decide +kernel
theorem aci_X5_works : Cond.arrayClass .int ∈ wsX5_works := by decide +kernel
set_option maxRecDepth 100000 in
set_option maxHeartbeats 4000000 in
theorem k_X5_works (l : Launch) (D : va_G) (cI cZ cT : ClassId) (m : Nat) (th : Int32) (sm : Int64) (r : Nat → Nat) (F : Nat → Nat → Int32) (v : Nat → Int32) (h1 : v 1 = 0) (h4 : v 4 = 0) (f l1 : Int32) : CI l D kC2 (kT2 D cI cZ cT) yX5_works wsX5_works ({ frames := 5, cells := 2, slots := 12, locals := 101 }) 2 12 [.ref m, .int f, .int l1] (Wm D cI m th sm r F v (D.2 100 0)) (S := (Int32 × (Nat → Int32) × Nat)) (fun r u => u.1 = x_wrk f l1 ∧ (x_wrk f l1 = 0 → r = 1)) (fun u => Wm D cI m u.1 sm r F u.2.1 u.2.2) := by
  refine CI_of (own := RX5) (by decide) rfl rfl (Nat.le_of_ble_eq_true rfl) rfl (fun X A hC hE => ?_)
  refine V_aload_n hC dX5_works_0 rfl rfl rfl ?_
  refine V_iconst (v := 0) hC dX5_works_1 (by decide) rfl ?_
  refine V_put (q0 := 0) (C := RX5) (T := TX5) (N := 3) hC dX5_works_2 in_X5_X5_works tyX5 tyX5_ok nmX5 rfl rfl 0 (Nat.le_of_ble_eq_true rfl) fk_X5_works_16 rfl rfl rfl rfl (Nat.le_of_ble_eq_true rfl) Wm_th rfl ?_
  refine V_iload_n hC dX5_works_5 rfl rfl rfl ?_
  refine V_callIS0 (n := 1) hC dX5_works_6 (k_X5_isSection l D cI cZ cT _) gX5_works_X5_isSection rfl ⟨rfl, rfl⟩ (by decide +kernel) ⟨Nat.le_of_ble_eq_true rfl, Nat.le_of_ble_eq_true rfl⟩ ⟨Nat.le_of_ble_eq_true rfl, Nat.le_of_ble_eq_true rfl⟩ rfl rfl (by exact Nat.le_of_ble_eq_true rfl) rfl (fun r_6 u_6 h_6 => ?_)
  subst h_6
  refine V_if_eq (tgt := 19) hC dX5_works_9 (by decide) rfl (fun c_9 => ?_) (fun c_9 => ?_)
  · refine V_aload_n hC dX5_works_19 rfl rfl rfl ?_
    refine V_iconst (v := 1) hC dX5_works_20 (by decide) rfl ?_
    refine V_callIV (q0 := 0) (n := 1) hC dX5_works_21 (k_X5_refuse l D cI cZ cT _ _ _ _ _ _ _ _) gX5_works_X5_refuse rfl ⟨rfl, rfl⟩ (by decide +kernel) ⟨Nat.le_of_ble_eq_true rfl, Nat.le_of_ble_eq_true rfl⟩ ⟨Nat.le_of_ble_eq_true rfl, Nat.le_of_ble_eq_true rfl⟩ rfl rfl rfl rfl (by exact Nat.le_of_ble_eq_true rfl) rfl (fun r_21 u_21 h_21 => ?_)
    subst h_21
    refine V_widen (k := 2) (n := 12) (Nat.le_of_ble_eq_true rfl) (Nat.le_of_ble_eq_true rfl) ?_
    exact hE _ (_, _, _) _ _ _ dX5_works_24 rfl rfl ⟨by simp [x_wrk, *], by simp [x_wrk, *]⟩
  · refine V_iload_n hC dX5_works_12 rfl rfl rfl ?_
    refine V_callIS0 (n := 1) hC dX5_works_13 (k_X5_isSection l D cI cZ cT _) gX5_works_X5_isSection rfl ⟨rfl, rfl⟩ (by decide +kernel) ⟨Nat.le_of_ble_eq_true rfl, Nat.le_of_ble_eq_true rfl⟩ ⟨Nat.le_of_ble_eq_true rfl, Nat.le_of_ble_eq_true rfl⟩ rfl rfl (by exact Nat.le_of_ble_eq_true rfl) rfl (fun r_13 u_13 h_13 => ?_)
    subst h_13
    refine V_if_ne (tgt := 25) hC dX5_works_16 (by decide) rfl (fun c_16 => ?_) (fun c_16 => ?_)
    · refine V_iload_n hC dX5_works_25 rfl rfl rfl ?_
      refine V_iload_n hC dX5_works_26 rfl rfl rfl ?_
      refine V_icmp_ge (tgt := 36) hC dX5_works_27 (by decide) rfl (fun c_27 => ?_) (fun c_27 => ?_)
      · have c2 := Int32.not_lt.mpr c_27
        refine V_aload_n hC dX5_works_36 rfl rfl rfl ?_
        refine V_get (q0 := 0) (C := RX5) (T := TX5) (N := 3) hC dX5_works_37 in_X5_X5_works rfl rfl 1 (Nat.le_of_ble_eq_true rfl) fk_X5_works_10 rfl rfl ?_
        refine V_getN (q0 := 1) (C := RX4) (T := TX4) (N := 7) (ref := RX4) (host := RX5) hC dX5_works_40 in_X4_X5_works rfl rfl 5 (Nat.le_of_ble_eq_true rfl) (by decide +kernel) rfl rfl rfl ?_
        refine V_callIVf (q0 := 0) (n := 0) hC dX5_works_43 (k_Jx4a65c_size_8abf5 l D cI cZ cT _ _ _ _) gX5_works_Jx4a65c_size_8abf5 rfl ⟨rfl, rfl⟩ (by decide +kernel) ⟨Nat.le_of_ble_eq_true rfl, Nat.le_of_ble_eq_true rfl⟩ ⟨Nat.le_of_ble_eq_true rfl, Nat.le_of_ble_eq_true rfl⟩ Wm_w.symm rfl rfl rfl rfl (by exact Nat.le_of_ble_eq_true rfl) rfl (fun r_43 u_43 h_43 => ?_)
        subst h_43
        refine V_ws Wm_w ?_
        refine V_iconst (v := 3) hC dX5_works_46 (by decide) rfl ?_
        refine V_icmp_ne (tgt := 56) hC dX5_works_47 (by decide) rfl (fun c_47 => ?_) (fun c_47 => ?_)
        · refine V_aload_n hC dX5_works_56 rfl rfl rfl ?_
          refine V_get (q0 := 0) (C := RX5) (T := TX5) (N := 3) hC dX5_works_57 in_X5_X5_works rfl rfl 1 (Nat.le_of_ble_eq_true rfl) fk_X5_works_10 rfl rfl ?_
          refine V_iload_n hC dX5_works_60 rfl rfl rfl ?_
          refine V_iload_n hC dX5_works_61 rfl rfl rfl ?_
          refine V_callIVf (q0 := 0) (n := 2) hC dX5_works_62 (k_X4_hinders l D cI cZ cT _ _ _ _ h1 _ _) gX5_works_X4_hinders rfl ⟨rfl, rfl⟩ (by decide +kernel) ⟨Nat.le_of_ble_eq_true rfl, Nat.le_of_ble_eq_true rfl⟩ ⟨Nat.le_of_ble_eq_true rfl, Nat.le_of_ble_eq_true rfl⟩ Wm_l.symm rfl rfl rfl rfl (by exact Nat.le_of_ble_eq_true rfl) rfl (fun r_62 u_62 h_62 => ?_)
          subst h_62
          refine V_ws Wm_l ?_
          refine V_istore_n hC dX5_works_65 rfl (Nat.le_of_ble_eq_true rfl) rfl ?_
          refine V_iload_n hC dX5_works_66 rfl rfl rfl ?_
          refine V_if_ge (tgt := 72) hC dX5_works_67 (by decide) rfl (fun c_67 => ?_) (fun c_67 => ?_)
          · refine V_iconst (v := 2) hC dX5_works_72 (by decide) rfl ?_
            refine V_newai hC dX5_works_73 rfl aci_X5_works 0 rfl (by decide) rfl (Nat.le_of_ble_eq_true rfl) (Nat.le_of_ble_eq_true rfl) (Nat.le_of_ble_eq_true rfl) rfl (fun z1 => ?_)
            refine V_dup hC dX5_works_75 rfl rfl ?_
            refine V_iconst (v := 0) hC dX5_works_76 (by decide) rfl ?_
            refine V_iload_n hC dX5_works_77 rfl rfl rfl ?_
            refine V_iast (q0 := 34) hC dX5_works_78 rfl 0 rfl (show (0 : Int32) = nI 0 from rfl) (by decide) (by decide) rfl rfl ?_
            refine V_dup hC dX5_works_79 rfl rfl ?_
            refine V_iconst (v := 1) hC dX5_works_80 (by decide) rfl ?_
            refine V_iload_n hC dX5_works_81 rfl rfl rfl ?_
            refine V_iast (q0 := 34) hC dX5_works_82 rfl 0 rfl (show (1 : Int32) = nI 1 from rfl) (by decide) (by decide) rfl rfl ?_
            refine V_astore hC dX5_works_83 (Nat.le_of_ble_eq_true rfl) rfl ?_
            refine V_aload_n hC dX5_works_85 rfl rfl rfl ?_
            refine V_get (q0 := 0) (C := RX5) (T := TX5) (N := 3) hC dX5_works_86 in_X5_X5_works rfl rfl 1 (Nat.le_of_ble_eq_true rfl) fk_X5_works_10 rfl rfl ?_
            refine V_getN (q0 := 1) (C := RX4) (T := TX4) (N := 7) (ref := RX4) (host := RX5) hC dX5_works_89 in_X4_X5_works rfl rfl 5 (Nat.le_of_ble_eq_true rfl) (by decide +kernel) rfl rfl rfl ?_
            refine V_aload hC dX5_works_92 rfl rfl ?_
            refine V_callIVf (q0 := 0) (n := 1) (pre := (m, .inr (5, [.int 0, .ref (r 0), .long sm])) :: W0 D cI r F v) (suf := []) hC dX5_works_94 (k_Jx4a65c_add_9ea2d l D cI cZ cT (r 32) z1 _ _ _ h4) gX5_works_Jx4a65c_add_9ea2d rfl ⟨rfl, rfl⟩ (by decide +kernel) ⟨Nat.le_of_ble_eq_true rfl, Nat.le_of_ble_eq_true rfl⟩ ⟨Nat.le_of_ble_eq_true rfl, Nat.le_of_ble_eq_true rfl⟩ rfl rfl rfl rfl rfl (by exact Nat.le_of_ble_eq_true rfl) rfl (fun r_94 u_94 h_94 => ?_)
            subst h_94
            refine V_ws (ws' := Wm D cI m 0 sm r F (upd (upd v 3 (v 3 + 1)) 4 (v 4 + 1)) u_94 ++ [(u_94, .inl (D.1 100, 10, .inr (.inr (.inr (.inr (va_up (fun _ => none) 0 (some z1))))))), (z1, .inl (cI, 2, .inl (upd (upd (fun _ => 0) 0 f) 1 l1)))]) rfl ?_
            refine V_pop hC dX5_works_97 rfl rfl ?_
            refine V_aload_n hC dX5_works_98 rfl rfl rfl ?_
            refine V_get (q0 := 0) (C := RX5) (T := TX5) (N := 3) hC dX5_works_99 in_X5_X5_works rfl rfl 1 (Nat.le_of_ble_eq_true rfl) fk_X5_works_10 rfl rfl ?_
            refine V_getN (q0 := 1) (C := RX4) (T := TX4) (N := 7) (ref := RX4) (host := RX5) hC dX5_works_102 in_X4_X5_works rfl rfl 5 (Nat.le_of_ble_eq_true rfl) (by decide +kernel) rfl rfl rfl ?_
            refine V_callIVf (q0 := 0) (n := 0) (suf := _) hC dX5_works_105 (k_Jx4a65c_size_8abf5 l D cI cZ cT _ _ _ _) gX5_works_Jx4a65c_size_8abf5 rfl ⟨rfl, rfl⟩ (by decide +kernel) ⟨Nat.le_of_ble_eq_true rfl, Nat.le_of_ble_eq_true rfl⟩ ⟨Nat.le_of_ble_eq_true rfl, Nat.le_of_ble_eq_true rfl⟩ Wm_wg.symm rfl rfl rfl rfl (by exact Nat.le_of_ble_eq_true rfl) rfl (fun r_105 u_105 h_105 => ?_)
            subst h_105
            refine V_ws Wm_wg ?_
            refine V_drop ?_
            refine V_widen (k := 2) (n := 12) (Nat.le_of_ble_eq_true rfl) (Nat.le_of_ble_eq_true rfl) ?_
            exact hE _ (_, _, _) _ _ _ dX5_works_108 rfl rfl ⟨by simp [x_wrk, *], fun _ => by simp [upd, h4]⟩
          · exact absurd c_67 (by decide)
        · rw [h4] at c_47
          first | exact absurd (by decide) c_47 | exact absurd c_47 (by decide)
      · have c2 := Int32.not_le.mp c_27
        refine V_aload_n hC dX5_works_30 rfl rfl rfl ?_
        refine V_iconst (v := 2) hC dX5_works_31 (by decide) rfl ?_
        refine V_callIV (q0 := 0) (n := 1) hC dX5_works_32 (k_X5_refuse l D cI cZ cT _ _ _ _ _ _ _ _) gX5_works_X5_refuse rfl ⟨rfl, rfl⟩ (by decide +kernel) ⟨Nat.le_of_ble_eq_true rfl, Nat.le_of_ble_eq_true rfl⟩ ⟨Nat.le_of_ble_eq_true rfl, Nat.le_of_ble_eq_true rfl⟩ rfl rfl rfl rfl (by exact Nat.le_of_ble_eq_true rfl) rfl (fun r_32 u_32 h_32 => ?_)
        subst h_32
        refine V_widen (k := 2) (n := 12) (Nat.le_of_ble_eq_true rfl) (Nat.le_of_ble_eq_true rfl) ?_
        exact hE _ (_, _, _) _ _ _ dX5_works_35 rfl rfl ⟨by simp [x_wrk, *], by simp [x_wrk, *]⟩
    · refine V_aload_n hC dX5_works_19 rfl rfl rfl ?_
      refine V_iconst (v := 1) hC dX5_works_20 (by decide) rfl ?_
      refine V_callIV (q0 := 0) (n := 1) hC dX5_works_21 (k_X5_refuse l D cI cZ cT _ _ _ _ _ _ _ _) gX5_works_X5_refuse rfl ⟨rfl, rfl⟩ (by decide +kernel) ⟨Nat.le_of_ble_eq_true rfl, Nat.le_of_ble_eq_true rfl⟩ ⟨Nat.le_of_ble_eq_true rfl, Nat.le_of_ble_eq_true rfl⟩ rfl rfl rfl rfl (by exact Nat.le_of_ble_eq_true rfl) rfl (fun r_21 u_21 h_21 => ?_)
      subst h_21
      refine V_widen (k := 2) (n := 12) (Nat.le_of_ble_eq_true rfl) (Nat.le_of_ble_eq_true rfl) ?_
      exact hE _ (_, _, _) _ _ _ dX5_works_24 rfl rfl ⟨by simp [x_wrk, *], by simp [x_wrk, *]⟩
theorem in_X5_X5_pass : ∀ w ∈ u_ws RX5 TX5 3, w ∈ wsX5_pass := by decide +kernel
theorem fk_X5_pass_16 : Cond.fieldLink RX5 16 (TX5 0).1 (TX5 0).2.1 (TX5 0).2.2.1 ∈ wsX5_pass := by decide +kernel
theorem fk_X5_pass_10 : Cond.fieldLink RX5 10 (TX5 1).1 (TX5 1).2.1 (TX5 1).2.2.1 ∈ wsX5_pass := by decide +kernel
set_option maxRecDepth 100000 in
set_option maxHeartbeats 4000000 in
theorem k_X5_pass (l : Launch) (D : va_G) (cI cZ cT : ClassId) (m : Nat) (th : Int32) (sm : Int64) (r : Nat → Nat) (F : Nat → Nat → Int32) (v : Nat → Int32) (e : Nat) (h1 : v 1 = 0) (n : Int32) : CI l D kC2 (kT2 D cI cZ cT) yX5_pass wsX5_pass ({ frames := 2, cells := 0, slots := 0, locals := 44 }) 0 0 [.ref m, .int n] (Wm D cI m th sm r F v e) (S := (Int32 × (Nat → Int32))) (fun r u => u.1 = x_pas n ∧ (x_pas n = 0 → r = 0)) (fun u => Wm D cI m u.1 sm r F u.2 e) := by
  refine CI_of (own := RX5) (by decide) rfl rfl (Nat.le_of_ble_eq_true rfl) rfl (fun X A hC hE => ?_)
  refine V_aload_n hC dX5_pass_0 rfl rfl rfl ?_
  refine V_iconst (v := 0) hC dX5_pass_1 (by decide) rfl ?_
  refine V_put (q0 := 0) (C := RX5) (T := TX5) (N := 3) hC dX5_pass_2 in_X5_X5_pass tyX5 tyX5_ok nmX5 rfl rfl 0 (Nat.le_of_ble_eq_true rfl) fk_X5_pass_16 rfl rfl rfl rfl (Nat.le_of_ble_eq_true rfl) Wm_th rfl ?_
  refine V_iload_n hC dX5_pass_5 rfl rfl rfl ?_
  refine V_iconst (v := 1) hC dX5_pass_6 (by decide) rfl ?_
  refine V_sipush (v := 300) hC dX5_pass_7 (by decide) rfl ?_
  refine V_callIS0 (n := 3) hC dX5_pass_10 (k_X5_is l D cI cZ cT _ _ _) gX5_pass_X5_is rfl ⟨rfl, rfl⟩ (by decide +kernel) ⟨Nat.le_of_ble_eq_true rfl, Nat.le_of_ble_eq_true rfl⟩ ⟨Nat.le_of_ble_eq_true rfl, Nat.le_of_ble_eq_true rfl⟩ rfl rfl (by exact Nat.le_of_ble_eq_true rfl) rfl (fun r_10 u_10 h_10 => ?_)
  subst h_10
  refine V_if_ne (tgt := 22) hC dX5_pass_13 (by decide) rfl (fun c_13 => ?_) (fun c_13 => ?_)
  · obtain ⟨i, hi1, hi, rfl⟩ := m_inI1 (B := 300) (by decide) c_13
    refine V_aload_n hC dX5_pass_22 rfl rfl rfl ?_
    refine V_get (q0 := 0) (C := RX5) (T := TX5) (N := 3) hC dX5_pass_23 in_X5_X5_pass rfl rfl 1 (Nat.le_of_ble_eq_true rfl) fk_X5_pass_10 rfl rfl ?_
    refine V_bipush (v := 16) hC dX5_pass_26 (by decide) rfl ?_
    refine V_callIVf (q0 := 0) (n := 1) hC dX5_pass_28 (k_X4_sum l D cI cZ cT _ _ _ _ h1 _) gX5_pass_X4_sum rfl ⟨rfl, rfl⟩ (by decide +kernel) ⟨Nat.le_of_ble_eq_true rfl, Nat.le_of_ble_eq_true rfl⟩ ⟨Nat.le_of_ble_eq_true rfl, Nat.le_of_ble_eq_true rfl⟩ Wm_l.symm rfl rfl rfl rfl (by exact Nat.le_of_ble_eq_true rfl) rfl (fun r_28 u_28 h_28 => ?_)
    subst h_28
    refine V_ws Wm_l ?_
    refine V_istore_n hC dX5_pass_31 rfl (Nat.le_of_ble_eq_true rfl) rfl ?_
    refine V_aload_n hC dX5_pass_32 rfl rfl rfl ?_
    refine V_get (q0 := 0) (C := RX5) (T := TX5) (N := 3) hC dX5_pass_33 in_X5_X5_pass rfl rfl 1 (Nat.le_of_ble_eq_true rfl) fk_X5_pass_10 rfl rfl ?_
    refine V_iload_n hC dX5_pass_36 rfl rfl rfl ?_
    refine V_callVVf (q0 := 0) (n := 1) hC dX5_pass_37 (k_X4_pass_ l D cI cZ cT _ _ _ _ h1 i hi) gX5_pass_X4_pass_ rfl ⟨rfl, rfl⟩ (by decide +kernel) ⟨Nat.le_of_ble_eq_true rfl, Nat.le_of_ble_eq_true rfl⟩ ⟨Nat.le_of_ble_eq_true rfl, Nat.le_of_ble_eq_true rfl⟩ Wm_l.symm rfl rfl rfl rfl (by exact Nat.le_of_ble_eq_true rfl) rfl (fun u_37 h_37 => ?_)
    refine V_ws Wm_l ?_
    refine V_aload_n hC dX5_pass_40 rfl rfl rfl ?_
    refine V_get (q0 := 0) (C := RX5) (T := TX5) (N := 3) hC dX5_pass_41 in_X5_X5_pass rfl rfl 1 (Nat.le_of_ble_eq_true rfl) fk_X5_pass_10 rfl rfl ?_
    refine V_bipush (v := 16) hC dX5_pass_44 (by decide) rfl ?_
    refine V_callIVf (q0 := 0) (n := 1) hC dX5_pass_46 (k_X4_sum l D cI cZ cT _ _ _ _ h_37 _) gX5_pass_X4_sum rfl ⟨rfl, rfl⟩ (by decide +kernel) ⟨Nat.le_of_ble_eq_true rfl, Nat.le_of_ble_eq_true rfl⟩ ⟨Nat.le_of_ble_eq_true rfl, Nat.le_of_ble_eq_true rfl⟩ Wm_l.symm rfl rfl rfl rfl (by exact Nat.le_of_ble_eq_true rfl) rfl (fun r_46 u_46 h_46 => ?_)
    subst h_46
    refine V_ws Wm_l ?_
    refine V_iload_n hC dX5_pass_49 rfl rfl rfl ?_
    refine V_isub hC dX5_pass_50 rfl ?_
    exact hE _ (_, _) _ _ _ dX5_pass_51 rfl rfl ⟨by simp [x_pas, *], fun _ => by decide⟩
  · refine V_aload_n hC dX5_pass_16 rfl rfl rfl ?_
    refine V_iconst (v := 1) hC dX5_pass_17 (by decide) rfl ?_
    refine V_callIV (q0 := 0) (n := 1) hC dX5_pass_18 (k_X5_refuse l D cI cZ cT _ _ _ _ _ _ _ _) gX5_pass_X5_refuse rfl ⟨rfl, rfl⟩ (by decide +kernel) ⟨Nat.le_of_ble_eq_true rfl, Nat.le_of_ble_eq_true rfl⟩ ⟨Nat.le_of_ble_eq_true rfl, Nat.le_of_ble_eq_true rfl⟩ rfl rfl rfl rfl (by exact Nat.le_of_ble_eq_true rfl) rfl (fun r_18 u_18 h_18 => ?_)
    subst h_18
    exact hE _ (_, _) _ _ _ dX5_pass_21 rfl rfl ⟨by simp [x_pas, *], by simp [x_pas, *]⟩
theorem in_X5_X5_ofSectionNow : ∀ w ∈ u_ws RX5 TX5 3, w ∈ wsX5_ofSectionNow := by decide +kernel
theorem fk_X5_ofSectionNow_10 : Cond.fieldLink RX5 10 (TX5 1).1 (TX5 1).2.1 (TX5 1).2.2.1 ∈ wsX5_ofSectionNow := by decide +kernel
theorem in_X4_X5_ofSectionNow : ∀ w ∈ u_ws RX4 TX4 7, w ∈ wsX5_ofSectionNow := by decide +kernel
set_option maxRecDepth 100000 in
set_option maxHeartbeats 4000000 in
theorem k_X5_ofSectionNow (l : Launch) (D : va_G) (cI cZ cT : ClassId) (m : Nat) (th : Int32) (sm : Int64) (r : Nat → Nat) (F : Nat → Nat → Int32) (v : Nat → Int32) (e : Nat) (hF : F = FI 20) (h1 : v 1 = 0) (h4 : v 4 = 0) (i : Nat) (w : Int32) (hi : i < 20) (hw : ¬ m_in w 0 4 = 0) : CI l D kC2 (kT2 D cI cZ cT) yX5_ofSectionNow wsX5_ofSectionNow ({ frames := 3, cells := 1, slots := 4, locals := 53 }) 1 4 [.ref m, .int (nI i), .int w] (Wm D cI m th sm r F v e) (S := Unit) (fun r _ => r = a_ofs w) (fun _ => Wm D cI m th sm r F v e) := by
  refine CI_of (own := RX5) (by decide) rfl rfl (Nat.le_of_ble_eq_true rfl) rfl (fun X A hC hE => ?_)
  obtain ⟨j, hj, rfl⟩ := m_inI (B := 4) (by decide) hw
  refine V_iload_n hC dX5_ofSectionNow_0 rfl rfl rfl ?_
  refine V_iconst (v := 3) hC dX5_ofSectionNow_1 (by decide) rfl ?_
  refine V_icmp_ge (tgt := 17) hC dX5_ofSectionNow_2 (by decide) rfl (fun c_2 => ?_) (fun c_2 => ?_)
  · have c1 := nI_le' (a := 3) c_2 (by decide) (by omega)
    refine V_iconst (v := 0) hC dX5_ofSectionNow_17 (by decide) rfl ?_
    refine V_istore_n hC dX5_ofSectionNow_18 rfl (Nat.le_of_ble_eq_true rfl) rfl ?_
    refine V_iconst (v := 0) hC dX5_ofSectionNow_19 (by decide) rfl ?_
    refine V_istore hC dX5_ofSectionNow_20 (Nat.le_of_ble_eq_true rfl) rfl ?_
    refine V_iload hC dX5_ofSectionNow_22 rfl rfl ?_
    refine V_aload_n hC dX5_ofSectionNow_24 rfl rfl rfl ?_
    refine V_get (q0 := 0) (C := RX5) (T := TX5) (N := 3) hC dX5_ofSectionNow_25 in_X5_X5_ofSectionNow rfl rfl 1 (Nat.le_of_ble_eq_true rfl) fk_X5_ofSectionNow_10 rfl rfl ?_
    refine V_getN (q0 := 1) (C := RX4) (T := TX4) (N := 7) (ref := RX4) (host := RX5) hC dX5_ofSectionNow_28 in_X4_X5_ofSectionNow rfl rfl 4 (Nat.le_of_ble_eq_true rfl) (by decide +kernel) rfl rfl rfl ?_
    refine V_icmp_ge (tgt := 62) hC dX5_ofSectionNow_31 (by decide) rfl (fun c_31 => ?_) (fun c_31 => ?_)
    · refine V_iconst (v := 0) hC dX5_ofSectionNow_62 (by decide) rfl ?_
      refine V_istore hC dX5_ofSectionNow_63 (Nat.le_of_ble_eq_true rfl) rfl ?_
      refine V_aload_n hC dX5_ofSectionNow_65 rfl rfl rfl ?_
      refine V_get (q0 := 0) (C := RX5) (T := TX5) (N := 3) hC dX5_ofSectionNow_66 in_X5_X5_ofSectionNow rfl rfl 1 (Nat.le_of_ble_eq_true rfl) fk_X5_ofSectionNow_10 rfl rfl ?_
      refine V_getN (q0 := 1) (C := RX4) (T := TX4) (N := 7) (ref := RX4) (host := RX5) hC dX5_ofSectionNow_69 in_X4_X5_ofSectionNow rfl rfl 5 (Nat.le_of_ble_eq_true rfl) (by decide +kernel) rfl rfl rfl ?_
      refine V_callRV (q0 := 0) (n := 0) hC dX5_ofSectionNow_72 (k_Jx4a65c_iterator_32c93 l D cI cZ cT _ _ _ _) gX5_ofSectionNow_Jx4a65c_iterator_32c93 rfl ⟨rfl, rfl⟩ (by decide +kernel) ⟨Nat.le_of_ble_eq_true rfl, Nat.le_of_ble_eq_true rfl⟩ ⟨Nat.le_of_ble_eq_true rfl, Nat.le_of_ble_eq_true rfl⟩ Wm_w.symm rfl rfl rfl rfl (by exact Nat.le_of_ble_eq_true rfl) rfl (fun r_72 u_72 h_72 => ?_)
      subst h_72
      refine V_ws (ws' := Wm D cI m th sm r F v e ++ [(r_72, .inr (7, [.int 0, .int (-1), .int (v 3), .ref (r 32)]))]) rfl ?_
      refine V_astore hC dX5_ofSectionNow_75 (Nat.le_of_ble_eq_true rfl) rfl ?_
      refine V_aload hC dX5_ofSectionNow_77 rfl rfl ?_
      refine V_callIF (q0 := 1) (n := 0) (x := yItN) hC dX5_ofSectionNow_79 (k_Jx35411_hasNext_aae02 l D cI cZ cT _ r_72 _ _ _ h4) gX5_ofSectionNow_Jx35411_hasNext_aae02_f113Jx35411 (fun h => h.2.2.2.2.2.2.2.2.2.2.1) rfl ⟨rfl, rfl⟩ (by decide +kernel) ⟨Nat.le_of_ble_eq_true rfl, Nat.le_of_ble_eq_true rfl⟩ ⟨Nat.le_of_ble_eq_true rfl, Nat.le_of_ble_eq_true rfl⟩ (show _ = ((m, .inr (5, [.int th, .ref (r 0), .long sm])) :: W0 D cI r F v) ++ ([(r 32, .inr (6, [.int (v 3), .ref e, .int (v 4)])), (r_72, .inr (7, [.int 0, .int (-1), .int (v 3), .ref (r 32)]))] ++ []) from rfl) rfl rfl rfl rfl (by exact Nat.le_of_ble_eq_true rfl) rfl (fun r_79 u_79 h_79 => ?_)
      subst h_79
      refine V_ws (ws' := Wm D cI m th sm r F v e ++ [(r_72, .inr (7, [.int 0, .int (-1), .int (v 3), .ref (r 32)]))]) rfl ?_
      refine V_if_eq (tgt := 119) hC dX5_ofSectionNow_84 (by decide) rfl (fun _ => ?_) (fun c => absurd c (by decide))
      refine V_drop ?_
      refine V_iload_n hC dX5_ofSectionNow_119 rfl rfl rfl ?_
      refine V_iconst (v := 3) hC dX5_ofSectionNow_120 (by decide) rfl ?_
      refine V_icmp_ne (tgt := 128) hC dX5_ofSectionNow_121 (by decide) rfl (fun c_121 => ?_) (fun c_121 => ?_)
      · refine V_iload hC dX5_ofSectionNow_128 rfl rfl ?_
        refine V_if_eq (tgt := 137) hC dX5_ofSectionNow_130 (by decide) rfl (fun _ => ?_) (fun c => absurd c (by decide))
        refine V_iconst (v := 0) hC dX5_ofSectionNow_137 (by decide) rfl ?_
        refine V_widen (k := 1) (n := 4) (Nat.le_of_ble_eq_true rfl) (Nat.le_of_ble_eq_true rfl) ?_
        exact hE _ () _ _ _ dX5_ofSectionNow_138 rfl rfl (a_ofs3 c1 hj).symm
      · refine V_iload_n hC dX5_ofSectionNow_124 rfl rfl rfl ?_
        refine V_goto (tgt := 138) hC dX5_ofSectionNow_125 (by decide) ?_
        refine V_widen (k := 1) (n := 4) (Nat.le_of_ble_eq_true rfl) (Nat.le_of_ble_eq_true rfl) ?_
        exact hE _ () _ _ _ dX5_ofSectionNow_138 rfl rfl (a_ofs3 c1 hj).symm
    · rw [h1] at c_31
      first | exact absurd (by decide) c_31 | exact absurd c_31 (by decide)
  · have c1 := nI_nle' (a := 3) c_2 (by decide) (by omega)
    refine V_aload_n hC dX5_ofSectionNow_5 rfl rfl rfl ?_
    refine V_get (q0 := 0) (C := RX5) (T := TX5) (N := 3) hC dX5_ofSectionNow_6 in_X5_X5_ofSectionNow rfl rfl 1 (Nat.le_of_ble_eq_true rfl) fk_X5_ofSectionNow_10 rfl rfl ?_
    refine V_getN (q0 := 1) (C := RX4) (T := TX4) (N := 7) (ref := RX4) (host := RX5) hC dX5_ofSectionNow_9 in_X4_X5_ofSectionNow rfl rfl 0 (Nat.le_of_ble_eq_true rfl) (by decide +kernel) rfl rfl rfl ?_
    refine V_iload_n hC dX5_ofSectionNow_12 rfl rfl rfl ?_
    refine V_aaldA (q0 := 2) hC dX5_ofSectionNow_13 rfl 3 rfl rfl hi (by decide) (show rf 20 (fun i => r (2 + i)) i = some (r (2 + i)) from rf_at hi) rfl ?_
    refine V_iload_n hC dX5_ofSectionNow_14 rfl rfl rfl ?_
    refine V_iald hC dX5_ofSectionNow_15 (Wm_s hi) 0 rfl rfl c1 (by decide) rfl ?_
    refine V_widen (k := 1) (n := 4) (Nat.le_of_ble_eq_true rfl) (Nat.le_of_ble_eq_true rfl) ?_
    exact hE _ () _ _ _ dX5_ofSectionNow_16 rfl rfl (by subst hF; exact FI_a hi c1)
theorem in_X5_X5_ofSection : ∀ w ∈ u_ws RX5 TX5 3, w ∈ wsX5_ofSection := by decide +kernel
theorem fk_X5_ofSection_16 : Cond.fieldLink RX5 16 (TX5 0).1 (TX5 0).2.1 (TX5 0).2.2.1 ∈ wsX5_ofSection := by decide +kernel
set_option maxRecDepth 100000 in
set_option maxHeartbeats 4000000 in
theorem k_X5_ofSection (l : Launch) (D : va_G) (cI cZ cT : ClassId) (m : Nat) (th : Int32) (sm : Int64) (r : Nat → Nat) (F : Nat → Nat → Int32) (v : Nat → Int32) (e : Nat) (hF : F = FI 20) (h1 : v 1 = 0) (h4 : v 4 = 0) (k w : Int32) : CI l D kC2 (kT2 D cI cZ cT) yX5_ofSection wsX5_ofSection ({ frames := 4, cells := 1, slots := 4, locals := 79 }) 1 4 [.ref m, .int k, .int w] (Wm D cI m th sm r F v e) (S := Int32) (fun r u => u = x_ofs k w ∧ (x_ofs k w = 0 → r = a_ofs w)) (fun u => Wm D cI m u sm r F v e) := by
  refine CI_of (own := RX5) (by decide) rfl rfl (Nat.le_of_ble_eq_true rfl) rfl (fun X A hC hE => ?_)
  refine V_aload_n hC dX5_ofSection_0 rfl rfl rfl ?_
  refine V_iconst (v := 0) hC dX5_ofSection_1 (by decide) rfl ?_
  refine V_put (q0 := 0) (C := RX5) (T := TX5) (N := 3) hC dX5_ofSection_2 in_X5_X5_ofSection tyX5 tyX5_ok nmX5 rfl rfl 0 (Nat.le_of_ble_eq_true rfl) fk_X5_ofSection_16 rfl rfl rfl rfl (Nat.le_of_ble_eq_true rfl) Wm_th rfl ?_
  refine V_iload_n hC dX5_ofSection_5 rfl rfl rfl ?_
  refine V_callIS0 (n := 1) hC dX5_ofSection_6 (k_X5_isSection l D cI cZ cT _) gX5_ofSection_X5_isSection rfl ⟨rfl, rfl⟩ (by decide +kernel) ⟨Nat.le_of_ble_eq_true rfl, Nat.le_of_ble_eq_true rfl⟩ ⟨Nat.le_of_ble_eq_true rfl, Nat.le_of_ble_eq_true rfl⟩ rfl rfl (by exact Nat.le_of_ble_eq_true rfl) rfl (fun r_6 u_6 h_6 => ?_)
  subst h_6
  refine V_if_ne (tgt := 18) hC dX5_ofSection_9 (by decide) rfl (fun c_9 => ?_) (fun c_9 => ?_)
  · obtain ⟨i, hi, rfl⟩ := m_inI (B := 19) (by decide) c_9
    have hi2 : i < 20 := by omega
    refine V_iload_n hC dX5_ofSection_18 rfl rfl rfl ?_
    refine V_iconst (v := 0) hC dX5_ofSection_19 (by decide) rfl ?_
    refine V_iconst (v := 4) hC dX5_ofSection_20 (by decide) rfl ?_
    refine V_callIS0 (n := 3) hC dX5_ofSection_21 (k_X5_is l D cI cZ cT _ _ _) gX5_ofSection_X5_is rfl ⟨rfl, rfl⟩ (by decide +kernel) ⟨Nat.le_of_ble_eq_true rfl, Nat.le_of_ble_eq_true rfl⟩ ⟨Nat.le_of_ble_eq_true rfl, Nat.le_of_ble_eq_true rfl⟩ rfl rfl (by exact Nat.le_of_ble_eq_true rfl) rfl (fun r_21 u_21 h_21 => ?_)
    subst h_21
    refine V_if_eq (tgt := 36) hC dX5_ofSection_24 (by decide) rfl (fun c_24 => ?_) (fun c_24 => ?_)
    · refine V_aload_n hC dX5_ofSection_36 rfl rfl rfl ?_
      refine V_iconst (v := 2) hC dX5_ofSection_37 (by decide) rfl ?_
      refine V_callIV (q0 := 0) (n := 1) hC dX5_ofSection_38 (k_X5_refuse l D cI cZ cT _ _ _ _ _ _ _ _) gX5_ofSection_X5_refuse rfl ⟨rfl, rfl⟩ (by decide +kernel) ⟨Nat.le_of_ble_eq_true rfl, Nat.le_of_ble_eq_true rfl⟩ ⟨Nat.le_of_ble_eq_true rfl, Nat.le_of_ble_eq_true rfl⟩ rfl rfl rfl rfl (by exact Nat.le_of_ble_eq_true rfl) rfl (fun r_38 u_38 h_38 => ?_)
      subst h_38
      refine V_widen (k := 1) (n := 4) (Nat.le_of_ble_eq_true rfl) (Nat.le_of_ble_eq_true rfl) ?_
      exact hE _ _ _ _ _ dX5_ofSection_41 rfl rfl (by first | exact ⟨by simp [x_ofs, *], fun _ => rfl⟩ | exact ⟨by simp [x_ofs, *], by simp [x_ofs, *]⟩)
    · refine V_aload_n hC dX5_ofSection_27 rfl rfl rfl ?_
      refine V_iload_n hC dX5_ofSection_28 rfl rfl rfl ?_
      refine V_iload_n hC dX5_ofSection_29 rfl rfl rfl ?_
      refine V_callIV (q0 := 0) (n := 2) hC dX5_ofSection_30 (k_X5_ofSectionNow l D cI cZ cT _ _ _ _ _ _ _ hF h1 h4 i _ hi2 c_24) gX5_ofSection_X5_ofSectionNow rfl ⟨rfl, rfl⟩ (by decide +kernel) ⟨Nat.le_of_ble_eq_true rfl, Nat.le_of_ble_eq_true rfl⟩ ⟨Nat.le_of_ble_eq_true rfl, Nat.le_of_ble_eq_true rfl⟩ rfl rfl rfl rfl (by exact Nat.le_of_ble_eq_true rfl) rfl (fun r_30 u_30 h_30 => ?_)
      subst h_30
      refine V_goto (tgt := 41) hC dX5_ofSection_33 (by decide) ?_
      refine V_widen (k := 1) (n := 4) (Nat.le_of_ble_eq_true rfl) (Nat.le_of_ble_eq_true rfl) ?_
      exact hE _ _ _ _ _ dX5_ofSection_41 rfl rfl (by first | exact ⟨by simp [x_ofs, *], fun _ => rfl⟩ | exact ⟨by simp [x_ofs, *], by simp [x_ofs, *]⟩)
  · refine V_aload_n hC dX5_ofSection_12 rfl rfl rfl ?_
    refine V_iconst (v := 1) hC dX5_ofSection_13 (by decide) rfl ?_
    refine V_callIV (q0 := 0) (n := 1) hC dX5_ofSection_14 (k_X5_refuse l D cI cZ cT _ _ _ _ _ _ _ _) gX5_ofSection_X5_refuse rfl ⟨rfl, rfl⟩ (by decide +kernel) ⟨Nat.le_of_ble_eq_true rfl, Nat.le_of_ble_eq_true rfl⟩ ⟨Nat.le_of_ble_eq_true rfl, Nat.le_of_ble_eq_true rfl⟩ rfl rfl rfl rfl (by exact Nat.le_of_ble_eq_true rfl) rfl (fun r_14 u_14 h_14 => ?_)
    subst h_14
    refine V_widen (k := 1) (n := 4) (Nat.le_of_ble_eq_true rfl) (Nat.le_of_ble_eq_true rfl) ?_
    exact hE _ _ _ _ _ dX5_ofSection_17 rfl rfl ⟨by simp [x_ofs, *], by simp [x_ofs, *]⟩
theorem aci_X5_manyNow : Cond.arrayClass .int ∈ wsX5_manyNow := by decide +kernel
theorem in_X5_X5_manyNow : ∀ w ∈ u_ws RX5 TX5 3, w ∈ wsX5_manyNow := by decide +kernel
theorem fk_X5_manyNow_10 : Cond.fieldLink RX5 10 (TX5 1).1 (TX5 1).2.1 (TX5 1).2.2.1 ∈ wsX5_manyNow := by decide +kernel
theorem in_X4_X5_manyNow : ∀ w ∈ u_ws RX4 TX4 7, w ∈ wsX5_manyNow := by decide +kernel
set_option maxRecDepth 100000 in
set_option maxHeartbeats 4000000 in
theorem k_X5_manyNow (l : Launch) (D : va_G) (cI cZ cT : ClassId) (m : Nat) (th : Int32) (sm : Int64) (r : Nat → Nat) (F : Nat → Nat → Int32) (v : Nat → Int32) (e : Nat) (hv : ∀ k, v k = 0) (w : Int32) (hw : ¬ m_in w 0 9 = 0) : CI l D kC2 (kT2 D cI cZ cT) yX5_manyNow wsX5_manyNow ({ frames := 1, cells := 1, slots := 10, locals := 23 }) 1 10 [.ref m, .int w] (Wm D cI m th sm r F v e) (S := Unit) (fun r _ => r = 0) (fun _ => Wm D cI m th sm r F v e) := by
  refine CI_of (own := RX5) (by decide) rfl rfl (Nat.le_of_ble_eq_true rfl) rfl (fun X A hC hE => ?_)
  obtain ⟨j, hj, rfl⟩ := m_inI (B := 9) (by decide) hw
  have hj2 : j < 10 := by omega
  refine V_bipush (v := 10) hC dX5_manyNow_0 (by decide) rfl ?_
  refine V_newai hC dX5_manyNow_2 rfl aci_X5_manyNow 0 rfl (by decide) rfl (Nat.le_of_ble_eq_true rfl) (Nat.le_of_ble_eq_true rfl) (Nat.le_of_ble_eq_true rfl) rfl (fun z1 => ?_)
  refine V_dup hC dX5_manyNow_4 rfl rfl ?_
  refine V_iconst (v := 0) hC dX5_manyNow_5 (by decide) rfl ?_
  refine V_aload_n hC dX5_manyNow_6 rfl rfl rfl ?_
  refine V_get (q0 := 0) (C := RX5) (T := TX5) (N := 3) hC dX5_manyNow_7 in_X5_X5_manyNow rfl rfl 1 (Nat.le_of_ble_eq_true rfl) fk_X5_manyNow_10 rfl rfl ?_
  refine V_getN (q0 := 1) (C := RX4) (T := TX4) (N := 7) (ref := RX4) (host := RX5) hC dX5_manyNow_10 in_X4_X5_manyNow rfl rfl 6 (Nat.le_of_ble_eq_true rfl) (by decide +kernel) rfl rfl rfl ?_
  refine V_iast (q0 := 34) hC dX5_manyNow_13 rfl 0 rfl (show (0 : Int32) = nI 0 from rfl) (by decide) (by decide) rfl rfl ?_
  refine V_dup hC dX5_manyNow_14 rfl rfl ?_
  refine V_iconst (v := 1) hC dX5_manyNow_15 (by decide) rfl ?_
  refine V_aload_n hC dX5_manyNow_16 rfl rfl rfl ?_
  refine V_get (q0 := 0) (C := RX5) (T := TX5) (N := 3) hC dX5_manyNow_17 in_X5_X5_manyNow rfl rfl 1 (Nat.le_of_ble_eq_true rfl) fk_X5_manyNow_10 rfl rfl ?_
  refine V_getN (q0 := 1) (C := RX4) (T := TX4) (N := 7) (ref := RX4) (host := RX5) hC dX5_manyNow_20 in_X4_X5_manyNow rfl rfl 4 (Nat.le_of_ble_eq_true rfl) (by decide +kernel) rfl rfl rfl ?_
  refine V_iast (q0 := 34) hC dX5_manyNow_23 rfl 0 rfl (show (1 : Int32) = nI 1 from rfl) (by decide) (by decide) rfl rfl ?_
  refine V_dup hC dX5_manyNow_24 rfl rfl ?_
  refine V_iconst (v := 2) hC dX5_manyNow_25 (by decide) rfl ?_
  refine V_aload_n hC dX5_manyNow_26 rfl rfl rfl ?_
  refine V_get (q0 := 0) (C := RX5) (T := TX5) (N := 3) hC dX5_manyNow_27 in_X5_X5_manyNow rfl rfl 1 (Nat.le_of_ble_eq_true rfl) fk_X5_manyNow_10 rfl rfl ?_
  refine V_bipush (v := 16) hC dX5_manyNow_30 (by decide) rfl ?_
  refine V_ws (ws' := Wm D cI m th sm r F v e ++ [(z1, .inl (cI, 10, .inl _))]) rfl ?_
  refine V_callIVf (q0 := 0) (n := 1) hC dX5_manyNow_32 (k_X4_sum l D cI cZ cT _ _ _ _ (hv 1) _) gX5_manyNow_X4_sum rfl ⟨rfl, rfl⟩ (by decide +kernel) ⟨Nat.le_of_ble_eq_true rfl, Nat.le_of_ble_eq_true rfl⟩ ⟨Nat.le_of_ble_eq_true rfl, Nat.le_of_ble_eq_true rfl⟩ Wm_lg.symm rfl rfl rfl rfl (by exact Nat.le_of_ble_eq_true rfl) rfl (fun r_32 u_32 h_32 => ?_)
  subst h_32
  refine V_ws Wm_lg ?_
  refine V_iast (q0 := 34) hC dX5_manyNow_35 rfl 0 rfl (show (2 : Int32) = nI 2 from rfl) (by decide) (by decide) rfl rfl ?_
  refine V_dup hC dX5_manyNow_36 rfl rfl ?_
  refine V_iconst (v := 3) hC dX5_manyNow_37 (by decide) rfl ?_
  refine V_aload_n hC dX5_manyNow_38 rfl rfl rfl ?_
  refine V_get (q0 := 0) (C := RX5) (T := TX5) (N := 3) hC dX5_manyNow_39 in_X5_X5_manyNow rfl rfl 1 (Nat.le_of_ble_eq_true rfl) fk_X5_manyNow_10 rfl rfl ?_
  refine V_bipush (v := 17) hC dX5_manyNow_42 (by decide) rfl ?_
  refine V_ws (ws' := Wm D cI m th sm r F v e ++ [(z1, .inl (cI, 10, .inl _))]) rfl ?_
  refine V_callIVf (q0 := 0) (n := 1) hC dX5_manyNow_44 (k_X4_sum l D cI cZ cT _ _ _ _ (hv 1) _) gX5_manyNow_X4_sum rfl ⟨rfl, rfl⟩ (by decide +kernel) ⟨Nat.le_of_ble_eq_true rfl, Nat.le_of_ble_eq_true rfl⟩ ⟨Nat.le_of_ble_eq_true rfl, Nat.le_of_ble_eq_true rfl⟩ Wm_lg.symm rfl rfl rfl rfl (by exact Nat.le_of_ble_eq_true rfl) rfl (fun r_44 u_44 h_44 => ?_)
  subst h_44
  refine V_ws Wm_lg ?_
  refine V_iast (q0 := 34) hC dX5_manyNow_47 rfl 0 rfl (show (3 : Int32) = nI 3 from rfl) (by decide) (by decide) rfl rfl ?_
  refine V_dup hC dX5_manyNow_48 rfl rfl ?_
  refine V_iconst (v := 4) hC dX5_manyNow_49 (by decide) rfl ?_
  refine V_aload_n hC dX5_manyNow_50 rfl rfl rfl ?_
  refine V_get (q0 := 0) (C := RX5) (T := TX5) (N := 3) hC dX5_manyNow_51 in_X5_X5_manyNow rfl rfl 1 (Nat.le_of_ble_eq_true rfl) fk_X5_manyNow_10 rfl rfl ?_
  refine V_getN (q0 := 1) (C := RX4) (T := TX4) (N := 7) (ref := RX4) (host := RX5) hC dX5_manyNow_54 in_X4_X5_manyNow rfl rfl 2 (Nat.le_of_ble_eq_true rfl) (by decide +kernel) rfl rfl rfl ?_
  refine V_iast (q0 := 34) hC dX5_manyNow_57 rfl 0 rfl (show (4 : Int32) = nI 4 from rfl) (by decide) (by decide) rfl rfl ?_
  refine V_dup hC dX5_manyNow_58 rfl rfl ?_
  refine V_iconst (v := 5) hC dX5_manyNow_59 (by decide) rfl ?_
  refine V_aload_n hC dX5_manyNow_60 rfl rfl rfl ?_
  refine V_get (q0 := 0) (C := RX5) (T := TX5) (N := 3) hC dX5_manyNow_61 in_X5_X5_manyNow rfl rfl 1 (Nat.le_of_ble_eq_true rfl) fk_X5_manyNow_10 rfl rfl ?_
  refine V_getN (q0 := 1) (C := RX4) (T := TX4) (N := 7) (ref := RX4) (host := RX5) hC dX5_manyNow_64 in_X4_X5_manyNow rfl rfl 5 (Nat.le_of_ble_eq_true rfl) (by decide +kernel) rfl rfl rfl ?_
  refine V_ws (ws' := Wm D cI m th sm r F v e ++ [(z1, .inl (cI, 10, .inl _))]) rfl ?_
  refine V_callIVf (q0 := 0) (n := 0) hC dX5_manyNow_67 (k_Jx4a65c_size_8abf5 l D cI cZ cT _ _ _ _) gX5_manyNow_Jx4a65c_size_8abf5 rfl ⟨rfl, rfl⟩ (by decide +kernel) ⟨Nat.le_of_ble_eq_true rfl, Nat.le_of_ble_eq_true rfl⟩ ⟨Nat.le_of_ble_eq_true rfl, Nat.le_of_ble_eq_true rfl⟩ Wm_wg.symm rfl rfl rfl rfl (by exact Nat.le_of_ble_eq_true rfl) rfl (fun r_67 u_67 h_67 => ?_)
  subst h_67
  refine V_ws Wm_wg ?_
  refine V_iast (q0 := 34) hC dX5_manyNow_70 rfl 0 rfl (show (5 : Int32) = nI 5 from rfl) (by decide) (by decide) rfl rfl ?_
  refine V_dup hC dX5_manyNow_71 rfl rfl ?_
  refine V_bipush (v := 6) hC dX5_manyNow_72 (by decide) rfl ?_
  refine V_aload_n hC dX5_manyNow_74 rfl rfl rfl ?_
  refine V_get (q0 := 0) (C := RX5) (T := TX5) (N := 3) hC dX5_manyNow_75 in_X5_X5_manyNow rfl rfl 1 (Nat.le_of_ble_eq_true rfl) fk_X5_manyNow_10 rfl rfl ?_
  refine V_bipush (v := 11) hC dX5_manyNow_78 (by decide) rfl ?_
  refine V_ws (ws' := Wm D cI m th sm r F v e ++ [(z1, .inl (cI, 10, .inl _))]) rfl ?_
  refine V_callIVf (q0 := 0) (n := 1) hC dX5_manyNow_80 (k_X4_sum l D cI cZ cT _ _ _ _ (hv 1) _) gX5_manyNow_X4_sum rfl ⟨rfl, rfl⟩ (by decide +kernel) ⟨Nat.le_of_ble_eq_true rfl, Nat.le_of_ble_eq_true rfl⟩ ⟨Nat.le_of_ble_eq_true rfl, Nat.le_of_ble_eq_true rfl⟩ Wm_lg.symm rfl rfl rfl rfl (by exact Nat.le_of_ble_eq_true rfl) rfl (fun r_80 u_80 h_80 => ?_)
  subst h_80
  refine V_ws Wm_lg ?_
  refine V_iast (q0 := 34) hC dX5_manyNow_83 rfl 0 rfl (show (6 : Int32) = nI 6 from rfl) (by decide) (by decide) rfl rfl ?_
  refine V_dup hC dX5_manyNow_84 rfl rfl ?_
  refine V_bipush (v := 7) hC dX5_manyNow_85 (by decide) rfl ?_
  refine V_aload_n hC dX5_manyNow_87 rfl rfl rfl ?_
  refine V_get (q0 := 0) (C := RX5) (T := TX5) (N := 3) hC dX5_manyNow_88 in_X5_X5_manyNow rfl rfl 1 (Nat.le_of_ble_eq_true rfl) fk_X5_manyNow_10 rfl rfl ?_
  refine V_bipush (v := 12) hC dX5_manyNow_91 (by decide) rfl ?_
  refine V_ws (ws' := Wm D cI m th sm r F v e ++ [(z1, .inl (cI, 10, .inl _))]) rfl ?_
  refine V_callIVf (q0 := 0) (n := 1) hC dX5_manyNow_93 (k_X4_sum l D cI cZ cT _ _ _ _ (hv 1) _) gX5_manyNow_X4_sum rfl ⟨rfl, rfl⟩ (by decide +kernel) ⟨Nat.le_of_ble_eq_true rfl, Nat.le_of_ble_eq_true rfl⟩ ⟨Nat.le_of_ble_eq_true rfl, Nat.le_of_ble_eq_true rfl⟩ Wm_lg.symm rfl rfl rfl rfl (by exact Nat.le_of_ble_eq_true rfl) rfl (fun r_93 u_93 h_93 => ?_)
  subst h_93
  refine V_ws Wm_lg ?_
  refine V_iast (q0 := 34) hC dX5_manyNow_96 rfl 0 rfl (show (7 : Int32) = nI 7 from rfl) (by decide) (by decide) rfl rfl ?_
  refine V_dup hC dX5_manyNow_97 rfl rfl ?_
  refine V_bipush (v := 8) hC dX5_manyNow_98 (by decide) rfl ?_
  refine V_aload_n hC dX5_manyNow_100 rfl rfl rfl ?_
  refine V_get (q0 := 0) (C := RX5) (T := TX5) (N := 3) hC dX5_manyNow_101 in_X5_X5_manyNow rfl rfl 1 (Nat.le_of_ble_eq_true rfl) fk_X5_manyNow_10 rfl rfl ?_
  refine V_bipush (v := 13) hC dX5_manyNow_104 (by decide) rfl ?_
  refine V_ws (ws' := Wm D cI m th sm r F v e ++ [(z1, .inl (cI, 10, .inl _))]) rfl ?_
  refine V_callIVf (q0 := 0) (n := 1) hC dX5_manyNow_106 (k_X4_sum l D cI cZ cT _ _ _ _ (hv 1) _) gX5_manyNow_X4_sum rfl ⟨rfl, rfl⟩ (by decide +kernel) ⟨Nat.le_of_ble_eq_true rfl, Nat.le_of_ble_eq_true rfl⟩ ⟨Nat.le_of_ble_eq_true rfl, Nat.le_of_ble_eq_true rfl⟩ Wm_lg.symm rfl rfl rfl rfl (by exact Nat.le_of_ble_eq_true rfl) rfl (fun r_106 u_106 h_106 => ?_)
  subst h_106
  refine V_ws Wm_lg ?_
  refine V_iast (q0 := 34) hC dX5_manyNow_109 rfl 0 rfl (show (8 : Int32) = nI 8 from rfl) (by decide) (by decide) rfl rfl ?_
  refine V_dup hC dX5_manyNow_110 rfl rfl ?_
  refine V_bipush (v := 9) hC dX5_manyNow_111 (by decide) rfl ?_
  refine V_aload_n hC dX5_manyNow_113 rfl rfl rfl ?_
  refine V_get (q0 := 0) (C := RX5) (T := TX5) (N := 3) hC dX5_manyNow_114 in_X5_X5_manyNow rfl rfl 1 (Nat.le_of_ble_eq_true rfl) fk_X5_manyNow_10 rfl rfl ?_
  refine V_bipush (v := 19) hC dX5_manyNow_117 (by decide) rfl ?_
  refine V_ws (ws' := Wm D cI m th sm r F v e ++ [(z1, .inl (cI, 10, .inl _))]) rfl ?_
  refine V_callIVf (q0 := 0) (n := 1) hC dX5_manyNow_119 (k_X4_sum l D cI cZ cT _ _ _ _ (hv 1) _) gX5_manyNow_X4_sum rfl ⟨rfl, rfl⟩ (by decide +kernel) ⟨Nat.le_of_ble_eq_true rfl, Nat.le_of_ble_eq_true rfl⟩ ⟨Nat.le_of_ble_eq_true rfl, Nat.le_of_ble_eq_true rfl⟩ Wm_lg.symm rfl rfl rfl rfl (by exact Nat.le_of_ble_eq_true rfl) rfl (fun r_119 u_119 h_119 => ?_)
  subst h_119
  refine V_ws Wm_lg ?_
  refine V_iast (q0 := 34) hC dX5_manyNow_122 rfl 0 rfl (show (9 : Int32) = nI 9 from rfl) (by decide) (by decide) rfl rfl ?_
  refine V_astore_n hC dX5_manyNow_123 rfl (Nat.le_of_ble_eq_true rfl) rfl ?_
  refine V_aload_n hC dX5_manyNow_124 rfl rfl rfl ?_
  refine V_iload_n hC dX5_manyNow_125 rfl rfl rfl ?_
  refine V_iald (q0 := 34) hC dX5_manyNow_126 rfl 0 rfl rfl hj2 (by decide) rfl ?_
  refine V_ws (ws' := Wm D cI m th sm r F v e ++ [(z1, .inl (cI, 10, .inl _))]) rfl ?_
  refine V_drop ?_
  refine V_widen (k := 1) (n := 10) (Nat.le_of_ble_eq_true rfl) (Nat.le_of_ble_eq_true rfl) ?_
  exact hE _ () _ _ _ dX5_manyNow_127 rfl rfl (by simp [upd, hv])
theorem in_X5_X5_many : ∀ w ∈ u_ws RX5 TX5 3, w ∈ wsX5_many := by decide +kernel
theorem fk_X5_many_16 : Cond.fieldLink RX5 16 (TX5 0).1 (TX5 0).2.1 (TX5 0).2.2.1 ∈ wsX5_many := by decide +kernel
set_option maxRecDepth 100000 in
set_option maxHeartbeats 4000000 in
theorem k_X5_many (l : Launch) (D : va_G) (cI cZ cT : ClassId) (m : Nat) (th : Int32) (sm : Int64) (r : Nat → Nat) (F : Nat → Nat → Int32) (v : Nat → Int32) (e : Nat) (hv : ∀ k, v k = 0) (w : Int32) : CI l D kC2 (kT2 D cI cZ cT) yX5_many wsX5_many ({ frames := 2, cells := 1, slots := 10, locals := 45 }) 1 10 [.ref m, .int w] (Wm D cI m th sm r F v e) (S := Int32) (fun r u => u = x_man w ∧ (x_man w = 0 → r = 0)) (fun u => Wm D cI m u sm r F v e) := by
  refine CI_of (own := RX5) (by decide) rfl rfl (Nat.le_of_ble_eq_true rfl) rfl (fun X A hC hE => ?_)
  refine V_aload_n hC dX5_many_0 rfl rfl rfl ?_
  refine V_iconst (v := 0) hC dX5_many_1 (by decide) rfl ?_
  refine V_put (q0 := 0) (C := RX5) (T := TX5) (N := 3) hC dX5_many_2 in_X5_X5_many tyX5 tyX5_ok nmX5 rfl rfl 0 (Nat.le_of_ble_eq_true rfl) fk_X5_many_16 rfl rfl rfl rfl (Nat.le_of_ble_eq_true rfl) Wm_th rfl ?_
  refine V_iload_n hC dX5_many_5 rfl rfl rfl ?_
  refine V_iconst (v := 0) hC dX5_many_6 (by decide) rfl ?_
  refine V_bipush (v := 9) hC dX5_many_7 (by decide) rfl ?_
  refine V_callIS0 (n := 3) hC dX5_many_9 (k_X5_is l D cI cZ cT _ _ _) gX5_many_X5_is rfl ⟨rfl, rfl⟩ (by decide +kernel) ⟨Nat.le_of_ble_eq_true rfl, Nat.le_of_ble_eq_true rfl⟩ ⟨Nat.le_of_ble_eq_true rfl, Nat.le_of_ble_eq_true rfl⟩ rfl rfl (by exact Nat.le_of_ble_eq_true rfl) rfl (fun r_9 u_9 h_9 => ?_)
  subst h_9
  refine V_if_eq (tgt := 23) hC dX5_many_12 (by decide) rfl (fun c_12 => ?_) (fun c_12 => ?_)
  · refine V_aload_n hC dX5_many_23 rfl rfl rfl ?_
    refine V_iconst (v := 1) hC dX5_many_24 (by decide) rfl ?_
    refine V_callIV (q0 := 0) (n := 1) hC dX5_many_25 (k_X5_refuse l D cI cZ cT _ _ _ _ _ _ _ _) gX5_many_X5_refuse rfl ⟨rfl, rfl⟩ (by decide +kernel) ⟨Nat.le_of_ble_eq_true rfl, Nat.le_of_ble_eq_true rfl⟩ ⟨Nat.le_of_ble_eq_true rfl, Nat.le_of_ble_eq_true rfl⟩ rfl rfl rfl rfl (by exact Nat.le_of_ble_eq_true rfl) rfl (fun r_25 u_25 h_25 => ?_)
    subst h_25
    refine V_widen (k := 1) (n := 10) (Nat.le_of_ble_eq_true rfl) (Nat.le_of_ble_eq_true rfl) ?_
    exact hE _ _ _ _ _ dX5_many_28 rfl rfl (by first | exact ⟨by simp [x_man, *], fun _ => rfl⟩ | exact ⟨by simp [x_man, *], by simp [x_man, *]⟩)
  · refine V_aload_n hC dX5_many_15 rfl rfl rfl ?_
    refine V_iload_n hC dX5_many_16 rfl rfl rfl ?_
    refine V_callIV (q0 := 0) (n := 1) hC dX5_many_17 (k_X5_manyNow l D cI cZ cT _ _ _ _ _ _ _ hv _ c_12) gX5_many_X5_manyNow rfl ⟨rfl, rfl⟩ (by decide +kernel) ⟨Nat.le_of_ble_eq_true rfl, Nat.le_of_ble_eq_true rfl⟩ ⟨Nat.le_of_ble_eq_true rfl, Nat.le_of_ble_eq_true rfl⟩ rfl rfl rfl rfl (by exact Nat.le_of_ble_eq_true rfl) rfl (fun r_17 u_17 h_17 => ?_)
    subst h_17
    refine V_goto (tgt := 28) hC dX5_many_20 (by decide) ?_
    refine V_widen (k := 1) (n := 10) (Nat.le_of_ble_eq_true rfl) (Nat.le_of_ble_eq_true rfl) ?_
    exact hE _ _ _ _ _ dX5_many_28 rfl rfl (by first | exact ⟨by simp [x_man, *], fun _ => rfl⟩ | exact ⟨by simp [x_man, *], by simp [x_man, *]⟩)
theorem in_X5_X5_meanSpeed : ∀ w ∈ u_ws RX5 TX5 3, w ∈ wsX5_meanSpeed := by decide +kernel
theorem fk_X5_meanSpeed_16 : Cond.fieldLink RX5 16 (TX5 0).1 (TX5 0).2.1 (TX5 0).2.2.1 ∈ wsX5_meanSpeed := by decide +kernel
theorem fk_X5_meanSpeed_10 : Cond.fieldLink RX5 10 (TX5 1).1 (TX5 1).2.1 (TX5 1).2.2.1 ∈ wsX5_meanSpeed := by decide +kernel
theorem in_X4_X5_meanSpeed : ∀ w ∈ u_ws RX4 TX4 7, w ∈ wsX5_meanSpeed := by decide +kernel
set_option maxRecDepth 100000 in
set_option maxHeartbeats 4000000 in
theorem k_X5_meanSpeed (l : Launch) (D : va_G) (cI cZ cT : ClassId) (m : Nat) (th : Int32) (sm : Int64) (r : Nat → Nat) (F : Nat → Nat → Int32) (v : Nat → Int32) (e : Nat) (h1 : v 1 = 0)  : CD l D kC2 (kT2 D cI cZ cT) yX5_meanSpeed wsX5_meanSpeed ({ frames := 1, cells := 0, slots := 0, locals := 23 }) 0 0 [.ref m] (Wm D cI m th sm r F v e) (S := Unit) (fun r _ => r = FP.dconst0) (fun _ => Wm D cI m 0 sm r F v e) := by
  refine CD_of (own := RX5) (by decide) rfl rfl (Nat.le_of_ble_eq_true rfl) rfl (fun X A hC hE => ?_)
  refine V_aload_n hC dX5_meanSpeed_0 rfl rfl rfl ?_
  refine V_iconst (v := 0) hC dX5_meanSpeed_1 (by decide) rfl ?_
  refine V_put (q0 := 0) (C := RX5) (T := TX5) (N := 3) hC dX5_meanSpeed_2 in_X5_X5_meanSpeed tyX5 tyX5_ok nmX5 rfl rfl 0 (Nat.le_of_ble_eq_true rfl) fk_X5_meanSpeed_16 rfl rfl rfl rfl (Nat.le_of_ble_eq_true rfl) Wm_th rfl ?_
  refine V_aload_n hC dX5_meanSpeed_5 rfl rfl rfl ?_
  refine V_get (q0 := 0) (C := RX5) (T := TX5) (N := 3) hC dX5_meanSpeed_6 in_X5_X5_meanSpeed rfl rfl 1 (Nat.le_of_ble_eq_true rfl) fk_X5_meanSpeed_10 rfl rfl ?_
  refine V_getN (q0 := 1) (C := RX4) (T := TX4) (N := 7) (ref := RX4) (host := RX5) hC dX5_meanSpeed_9 in_X4_X5_meanSpeed rfl rfl 4 (Nat.le_of_ble_eq_true rfl) (by decide +kernel) rfl rfl rfl ?_
  refine V_aload_n hC dX5_meanSpeed_12 rfl rfl rfl ?_
  refine V_get (q0 := 0) (C := RX5) (T := TX5) (N := 3) hC dX5_meanSpeed_13 in_X5_X5_meanSpeed rfl rfl 1 (Nat.le_of_ble_eq_true rfl) fk_X5_meanSpeed_10 rfl rfl ?_
  refine V_bipush (v := 16) hC dX5_meanSpeed_16 (by decide) rfl ?_
  refine V_callIVf (q0 := 0) (n := 1) hC dX5_meanSpeed_18 (k_X4_sum l D cI cZ cT _ _ _ _ h1 _) gX5_meanSpeed_X4_sum rfl ⟨rfl, rfl⟩ (by decide +kernel) ⟨Nat.le_of_ble_eq_true rfl, Nat.le_of_ble_eq_true rfl⟩ ⟨Nat.le_of_ble_eq_true rfl, Nat.le_of_ble_eq_true rfl⟩ Wm_l.symm rfl rfl rfl rfl (by exact Nat.le_of_ble_eq_true rfl) rfl (fun r_18 u_18 h_18 => ?_)
  subst h_18
  refine V_ws Wm_l ?_
  refine V_isub hC dX5_meanSpeed_21 rfl ?_
  refine V_istore_n hC dX5_meanSpeed_22 rfl (Nat.le_of_ble_eq_true rfl) rfl ?_
  refine V_iload_n hC dX5_meanSpeed_23 rfl rfl rfl ?_
  refine V_if_ne (tgt := 31) hC dX5_meanSpeed_24 (by decide) rfl (fun c_24 => ?_) (fun c_24 => ?_)
  · exact absurd (by rw [h1]; decide) c_24
  · refine V_dconst0 hC dX5_meanSpeed_27 rfl ?_
    refine V_goto (tgt := 43) hC dX5_meanSpeed_28 (by decide) ?_
    exact hE _ () _ _ _ dX5_meanSpeed_43 trivial rfl rfl
