set_option maxRecDepth 100000 in
set_option maxHeartbeats 4000000 in
theorem k_X3_needIndex (l : Launch) (D : va_G) (cI cZ cT : ClassId) (x n : Int32) (h0 : ¬ x < 0) (h1 : x < n) : CV l D kCl (kTy cI cZ cT) yX3_needIndex wsX3_needIndex ({ frames := 0, cells := 0, slots := 0, locals := 0 }) 0 0 [.int x, .int n] [] (S := Unit) (fun _ => True) (fun _ => []) := by
  refine CV_of (own := RX3) (by decide) rfl rfl (Nat.le_of_ble_eq_true rfl) rfl (fun X A hC hE => ?_)
  refine V_iload_n hC dX3_needIndex_0 rfl rfl rfl ?_
  refine V_if_lt (tgt := 9) hC dX3_needIndex_1 (by decide) rfl (fun c_1 => ?_) (fun c_1 => ?_)
  · exact absurd c_1 h0
  · refine V_iload_n hC dX3_needIndex_4 rfl rfl rfl ?_
    refine V_iload_n hC dX3_needIndex_5 rfl rfl rfl ?_
    refine V_icmp_lt (tgt := 19) hC dX3_needIndex_6 (by decide) rfl (fun c_6 => ?_) (fun c_6 => ?_)
    · exact hE () _ _ _ dX3_needIndex_19 trivial rfl trivial
    · exact absurd h1 c_6
set_option maxRecDepth 100000 in
set_option maxHeartbeats 4000000 in
theorem k_X3_need (l : Launch) (D : va_G) (cI cZ cT : ClassId) (x : Int32) (h : ¬ x = 0) : CV l D kCl (kTy cI cZ cT) yX3_need wsX3_need ({ frames := 0, cells := 0, slots := 0, locals := 0 }) 0 0 [.int x] [] (S := Unit) (fun _ => True) (fun _ => []) := by
  refine CV_of (own := RX3) (by decide) rfl rfl (Nat.le_of_ble_eq_true rfl) rfl (fun X A hC hE => ?_)
  refine V_iload_n hC dX3_need_0 rfl rfl rfl ?_
  refine V_if_ne (tgt := 14) hC dX3_need_1 (by decide) rfl (fun c_1 => ?_) (fun c_1 => ?_)
  · exact hE () _ _ _ dX3_need_14 trivial rfl trivial
  · exact absurd c_1 h
set_option maxRecDepth 100000 in
set_option maxHeartbeats 4000000 in
theorem k_X3_needState (l : Launch) (D : va_G) (cI cZ cT : ClassId) (x : Int32) (h : ¬ x = 0) : CV l D kCl (kTy cI cZ cT) yX3_needState wsX3_needState ({ frames := 0, cells := 0, slots := 0, locals := 0 }) 0 0 [.int x] [] (S := Unit) (fun _ => True) (fun _ => []) := by
  refine CV_of (own := RX3) (by decide) rfl rfl (Nat.le_of_ble_eq_true rfl) rfl (fun X A hC hE => ?_)
  refine V_iload_n hC dX3_needState_0 rfl rfl rfl ?_
  refine V_if_ne (tgt := 14) hC dX3_needState_1 (by decide) rfl (fun c_1 => ?_) (fun c_1 => ?_)
  · exact hE () _ _ _ dX3_needState_14 trivial rfl trivial
  · exact absurd c_1 h
set_option maxRecDepth 100000 in
set_option maxHeartbeats 4000000 in
theorem k_X3_needSection (l : Launch) (D : va_G) (cI cZ cT : ClassId) (k : Nat) (hk : k < 20) : CV l D kCl (kTy cI cZ cT) yX3_needSection wsX3_needSection ({ frames := 1, cells := 0, slots := 0, locals := 21 }) 0 0 [.int (nI k)] [] (S := Unit) (fun _ => True) (fun _ => []) := by
  refine CV_of (own := RX3) (by decide) rfl rfl (Nat.le_of_ble_eq_true rfl) rfl (fun X A hC hE => ?_)
  refine V_iload_n hC dX3_needSection_0 rfl rfl rfl ?_
  refine V_bipush (v := 20) hC dX3_needSection_1 (by decide) rfl ?_
  refine V_callVS0 (n := 2) hC dX3_needSection_3 (k_X3_needIndex l D cI cZ cT _ _ (nI_pos (by omega)) (nI_lt (b := 20) hk (by decide))) gX3_needSection_X3_needIndex rfl ⟨rfl, rfl⟩ (by decide +kernel) ⟨Nat.le_of_ble_eq_true rfl, Nat.le_of_ble_eq_true rfl⟩ ⟨Nat.le_of_ble_eq_true rfl, Nat.le_of_ble_eq_true rfl⟩ rfl rfl (by exact Nat.le_of_ble_eq_true rfl) rfl (fun u_3 h_3 => ?_)
  exact hE () _ _ _ dX3_needSection_6 trivial rfl trivial
theorem in_X3_X3_needTrain : ∀ w ∈ u_ws RX3 TX3 2, w ∈ wsX3_needTrain := by decide +kernel
theorem fk_X3_needTrain_10 : Cond.fieldLink RX3 10 (TX3 0).1 (TX3 0).2.1 (TX3 0).2.2.1 ∈ wsX3_needTrain := by decide +kernel
theorem in_X0_X3_needTrain : ∀ w ∈ u_ws RX0 TX0 4, w ∈ wsX3_needTrain := by decide +kernel
theorem fk_X3_needTrain_67 : Cond.fieldLink RX3 67 (TX0 2).1 (TX0 2).2.1 (TX0 2).2.2.1 ∈ wsX3_needTrain := by decide +kernel
set_option maxRecDepth 100000 in
set_option maxHeartbeats 4000000 in
theorem k_X3_needTrain (l : Launch) (D : va_G) (cI cZ cT : ClassId) (c : Nat) (a b : Nat → Nat) (t g t2 g2 : Nat → Nat → Int32) (nT nS nW : Nat) (ok : Ok t g nT nS nW) (i : Nat) (hi : i < nT) : CV l D kCl (kTy cI cZ cT) yX3_needTrain wsX3_needTrain ({ frames := 1, cells := 0, slots := 0, locals := 21 }) 0 0 [.ref c, .int (nI i)] (WB cI cZ cT c a b t g t2 g2) (S := Unit) (fun _ => True) (fun _ => WB cI cZ cT c a b t g t2 g2) := by
  refine CV_of (own := RX3) (by decide) rfl rfl (Nat.le_of_ble_eq_true rfl) rfl (fun X A hC hE => ?_)
  obtain ⟨hT, hT4, hS, hS4, hW, hW3, hz, hb⟩ := id ok
  refine V_iload_n hC dX3_needTrain_0 rfl rfl rfl ?_
  refine V_aload_n hC dX3_needTrain_1 rfl rfl rfl ?_
  refine V_get (q0 := 0) (C := RX3) (T := TX3) (N := 2) hC dX3_needTrain_2 in_X3_X3_needTrain rfl rfl 0 (Nat.le_of_ble_eq_true rfl) fk_X3_needTrain_10 rfl rfl ?_
  refine V_get (q0 := 5) (C := RX0) (T := TX0) (N := 4) hC dX3_needTrain_5 in_X0_X3_needTrain rfl rfl 2 (Nat.le_of_ble_eq_true rfl) fk_X3_needTrain_67 rfl rfl ?_
  refine V_callVS0 (n := 2) hC dX3_needTrain_8 (k_X3_needIndex l D cI cZ cT _ _ (nI_pos (by omega)) (by rw [hT]; exact nI_lt hi (by omega))) gX3_needTrain_X3_needIndex rfl ⟨rfl, rfl⟩ (by decide +kernel) ⟨Nat.le_of_ble_eq_true rfl, Nat.le_of_ble_eq_true rfl⟩ ⟨Nat.le_of_ble_eq_true rfl, Nat.le_of_ble_eq_true rfl⟩ rfl rfl (by exact Nat.le_of_ble_eq_true rfl) rfl (fun u_8 h_8 => ?_)
  exact hE () _ _ _ dX3_needTrain_11 trivial rfl trivial
theorem in_X3_X3_section : ∀ w ∈ u_ws RX3 TX3 2, w ∈ wsX3_section := by decide +kernel
theorem fk_X3_section_10 : Cond.fieldLink RX3 10 (TX3 0).1 (TX3 0).2.1 (TX3 0).2.2.1 ∈ wsX3_section := by decide +kernel
theorem in_X0_X3_section : ∀ w ∈ u_ws RX0 TX0 4, w ∈ wsX3_section := by decide +kernel
theorem fk_X3_section_31 : Cond.fieldLink RX3 31 (TX0 0).1 (TX0 0).2.1 (TX0 0).2.2.1 ∈ wsX3_section := by decide +kernel
theorem in_X1_X3_section : ∀ w ∈ u_ws RX1 TX1 10, w ∈ wsX3_section := by decide +kernel
theorem fk_X3_section_35 : Cond.fieldLink RX3 35 (TX1 0).1 (TX1 0).2.1 (TX1 0).2.2.1 ∈ wsX3_section := by decide +kernel
theorem fk_X3_section_41 : Cond.fieldLink RX3 41 (TX1 1).1 (TX1 1).2.1 (TX1 1).2.2.1 ∈ wsX3_section := by decide +kernel
theorem fk_X3_section_44 : Cond.fieldLink RX3 44 (TX1 2).1 (TX1 2).2.1 (TX1 2).2.2.1 ∈ wsX3_section := by decide +kernel
set_option maxRecDepth 100000 in
set_option maxHeartbeats 4000000 in
theorem k_X3_section (l : Launch) (D : va_G) (cI cZ cT : ClassId) (c : Nat) (a b : Nat → Nat) (t g t2 g2 : Nat → Nat → Int32)  (k : Nat) (hk : k < 20) (l1 gr ra : Int32) (h1 : m_in l1 1 40 = 1) (h2 : m_in gr (-2) 2 = 1) (h3 : b01 ra) : CI l D kCl (kTy cI cZ cT) yX3_section wsX3_section ({ frames := 2, cells := 0, slots := 0, locals := 41 }) 0 0 [.ref c, .int (nI k), .int l1, .int gr, .int ra] (WB cI cZ cT c a b t g t2 g2) (S := Unit) (fun r _ => r = g 0 k) (fun _ => WB cI cZ cT c a b t (up2 (up2 (up2 g 0 k l1) 1 k gr) 2 k ra) t2 g2) := by
  refine CI_of (own := RX3) (by decide) rfl rfl (Nat.le_of_ble_eq_true rfl) rfl (fun X A hC hE => ?_)
  refine V_iload_n hC dX3_section_0 rfl rfl rfl ?_
  refine V_callVS0 (n := 1) hC dX3_section_1 (k_X3_needSection l D cI cZ cT _ hk) gX3_section_X3_needSection rfl ⟨rfl, rfl⟩ (by decide +kernel) ⟨Nat.le_of_ble_eq_true rfl, Nat.le_of_ble_eq_true rfl⟩ ⟨Nat.le_of_ble_eq_true rfl, Nat.le_of_ble_eq_true rfl⟩ rfl rfl (by exact Nat.le_of_ble_eq_true rfl) rfl (fun u_1 h_1 => ?_)
  refine V_iload_n hC dX3_section_4 rfl rfl rfl ?_
  refine V_iconst (v := 1) hC dX3_section_5 (by decide) rfl ?_
  refine V_bipush (v := 40) hC dX3_section_6 (by decide) rfl ?_
  refine V_callIS0 (n := 3) hC dX3_section_8 (k_X3_isWithin l D cI cZ cT _ _ _) gX3_section_X3_isWithin rfl ⟨rfl, rfl⟩ (by decide +kernel) ⟨Nat.le_of_ble_eq_true rfl, Nat.le_of_ble_eq_true rfl⟩ ⟨Nat.le_of_ble_eq_true rfl, Nat.le_of_ble_eq_true rfl⟩ rfl rfl (by exact Nat.le_of_ble_eq_true rfl) rfl (fun r_8 u_8 h_8 => ?_)
  subst h_8
  refine V_if_eq (tgt := 28) hC dX3_section_11 (by decide) rfl (fun c_11 => ?_) (fun c_11 => ?_)
  · exact absurd (c_11.symm.trans h1) (by decide)
  · refine V_iload_n hC dX3_section_14 rfl rfl rfl ?_
    refine V_bipush (v := (-2)) hC dX3_section_15 (by decide) rfl ?_
    refine V_iconst (v := 2) hC dX3_section_17 (by decide) rfl ?_
    refine V_callIS0 (n := 3) hC dX3_section_18 (k_X3_isWithin l D cI cZ cT _ _ _) gX3_section_X3_isWithin rfl ⟨rfl, rfl⟩ (by decide +kernel) ⟨Nat.le_of_ble_eq_true rfl, Nat.le_of_ble_eq_true rfl⟩ ⟨Nat.le_of_ble_eq_true rfl, Nat.le_of_ble_eq_true rfl⟩ rfl rfl (by exact Nat.le_of_ble_eq_true rfl) rfl (fun r_18 u_18 h_18 => ?_)
    subst h_18
    refine V_if_eq (tgt := 28) hC dX3_section_21 (by decide) rfl (fun c_21 => ?_) (fun c_21 => ?_)
    · exact absurd (c_21.symm.trans h2) (by decide)
    · refine V_iconst (v := 1) hC dX3_section_24 (by decide) rfl ?_
      refine V_goto (tgt := 29) hC dX3_section_25 (by decide) ?_
      refine V_callVS0 (n := 1) hC dX3_section_29 (k_X3_need l D cI cZ cT _ (by decide)) gX3_section_X3_need rfl ⟨rfl, rfl⟩ (by decide +kernel) ⟨Nat.le_of_ble_eq_true rfl, Nat.le_of_ble_eq_true rfl⟩ ⟨Nat.le_of_ble_eq_true rfl, Nat.le_of_ble_eq_true rfl⟩ rfl rfl (by exact Nat.le_of_ble_eq_true rfl) rfl (fun u_29 h_29 => ?_)
      refine V_aload_n hC dX3_section_32 rfl rfl rfl ?_
      refine V_get (q0 := 0) (C := RX3) (T := TX3) (N := 2) hC dX3_section_33 in_X3_X3_section rfl rfl 0 (Nat.le_of_ble_eq_true rfl) fk_X3_section_10 rfl rfl ?_
      refine V_get (q0 := 5) (C := RX0) (T := TX0) (N := 4) hC dX3_section_36 in_X0_X3_section rfl rfl 0 (Nat.le_of_ble_eq_true rfl) fk_X3_section_31 rfl rfl ?_
      refine V_get (q0 := 6) (C := RX1) (T := TX1) (N := 10) hC dX3_section_39 in_X1_X3_section rfl rfl 0 (Nat.le_of_ble_eq_true rfl) fk_X3_section_35 rfl rfl ?_
      refine V_iload_n hC dX3_section_42 rfl rfl rfl ?_
      refine V_iald (q0 := 7) hC dX3_section_43 rfl 0 rfl rfl hk (by decide) rfl ?_
      refine V_istore hC dX3_section_44 (Nat.le_of_ble_eq_true rfl) rfl ?_
      refine V_aload_n hC dX3_section_46 rfl rfl rfl ?_
      refine V_get (q0 := 0) (C := RX3) (T := TX3) (N := 2) hC dX3_section_47 in_X3_X3_section rfl rfl 0 (Nat.le_of_ble_eq_true rfl) fk_X3_section_10 rfl rfl ?_
      refine V_get (q0 := 5) (C := RX0) (T := TX0) (N := 4) hC dX3_section_50 in_X0_X3_section rfl rfl 0 (Nat.le_of_ble_eq_true rfl) fk_X3_section_31 rfl rfl ?_
      refine V_get (q0 := 6) (C := RX1) (T := TX1) (N := 10) hC dX3_section_53 in_X1_X3_section rfl rfl 0 (Nat.le_of_ble_eq_true rfl) fk_X3_section_35 rfl rfl ?_
      refine V_iload_n hC dX3_section_56 rfl rfl rfl ?_
      refine V_iload_n hC dX3_section_57 rfl rfl rfl ?_
      refine V_iast (q0 := 7) hC dX3_section_58 rfl 0 rfl rfl hk (by decide) WB_r0 rfl ?_
      refine V_aload_n hC dX3_section_59 rfl rfl rfl ?_
      refine V_get (q0 := 0) (C := RX3) (T := TX3) (N := 2) hC dX3_section_60 in_X3_X3_section rfl rfl 0 (Nat.le_of_ble_eq_true rfl) fk_X3_section_10 rfl rfl ?_
      refine V_get (q0 := 5) (C := RX0) (T := TX0) (N := 4) hC dX3_section_63 in_X0_X3_section rfl rfl 0 (Nat.le_of_ble_eq_true rfl) fk_X3_section_31 rfl rfl ?_
      refine V_get (q0 := 6) (C := RX1) (T := TX1) (N := 10) hC dX3_section_66 in_X1_X3_section rfl rfl 1 (Nat.le_of_ble_eq_true rfl) fk_X3_section_41 rfl rfl ?_
      refine V_iload_n hC dX3_section_69 rfl rfl rfl ?_
      refine V_iload_n hC dX3_section_70 rfl rfl rfl ?_
      refine V_iast (q0 := 8) hC dX3_section_71 rfl 0 rfl rfl hk (by decide) WB_r1 rfl ?_
      refine V_aload_n hC dX3_section_72 rfl rfl rfl ?_
      refine V_get (q0 := 0) (C := RX3) (T := TX3) (N := 2) hC dX3_section_73 in_X3_X3_section rfl rfl 0 (Nat.le_of_ble_eq_true rfl) fk_X3_section_10 rfl rfl ?_
      refine V_get (q0 := 5) (C := RX0) (T := TX0) (N := 4) hC dX3_section_76 in_X0_X3_section rfl rfl 0 (Nat.le_of_ble_eq_true rfl) fk_X3_section_31 rfl rfl ?_
      refine V_get (q0 := 6) (C := RX1) (T := TX1) (N := 10) hC dX3_section_79 in_X1_X3_section rfl rfl 2 (Nat.le_of_ble_eq_true rfl) fk_X3_section_44 rfl rfl ?_
      refine V_iload_n hC dX3_section_82 rfl rfl rfl ?_
      refine V_iload hC dX3_section_83 rfl rfl ?_
      have hra := nbv h3
      refine V_zast (q0 := 9) hC dX3_section_85 rfl 1 rfl rfl hk (by decide) WB_r2 rfl ?_
      rw [hra]
      refine V_iload hC dX3_section_86 rfl rfl ?_
      exact hE _ () _ _ _ dX3_section_88 rfl rfl (by first | rfl | (simp [*]; done))
theorem in_X3_X3_station : ∀ w ∈ u_ws RX3 TX3 2, w ∈ wsX3_station := by decide +kernel
theorem fk_X3_station_10 : Cond.fieldLink RX3 10 (TX3 0).1 (TX3 0).2.1 (TX3 0).2.2.1 ∈ wsX3_station := by decide +kernel
theorem in_X0_X3_station : ∀ w ∈ u_ws RX0 TX0 4, w ∈ wsX3_station := by decide +kernel
theorem fk_X3_station_31 : Cond.fieldLink RX3 31 (TX0 0).1 (TX0 0).2.1 (TX0 0).2.2.1 ∈ wsX3_station := by decide +kernel
theorem in_X1_X3_station : ∀ w ∈ u_ws RX1 TX1 10, w ∈ wsX3_station := by decide +kernel
theorem fk_X3_station_52 : Cond.fieldLink RX3 52 (TX1 6).1 (TX1 6).2.1 (TX1 6).2.2.1 ∈ wsX3_station := by decide +kernel
set_option maxRecDepth 100000 in
set_option maxHeartbeats 4000000 in
theorem k_X3_station (l : Launch) (D : va_G) (cI cZ cT : ClassId) (c : Nat) (a b : Nat → Nat) (t g t2 g2 : Nat → Nat → Int32) (nT nS nW : Nat) (ok : Ok t g nT nS nW) (m d : Int32) (h1 : m_in m 0 2999 = 1) (h2 : ∀ k, k < nS → ¬ g 3 k = m) (h3 : m_in d 0 60 = 1) (h4 : nS < 4) (h5 : m_present t nT = 0) : CI l D kCl (kTy cI cZ cT) yX3_station wsX3_station ({ frames := 1, cells := 0, slots := 0, locals := 23 }) 0 0 [.ref c, .int m, .int d] (WB cI cZ cT c a b t g t2 g2) (S := Unit) (fun r _ => r = nI nS) (fun _ => WB cI cZ cT c a b t (up2 (up2 (up2 (up2 g 3 nS m) 4 nS d) 5 nS 0) 8 2 (nI (nS + 1))) t2 g2) := by
  refine CI_of (own := RX3) (by decide) rfl rfl (Nat.le_of_ble_eq_true rfl) rfl (fun X A hC hE => ?_)
  obtain ⟨hT, hT4, hS, hS4, hW, hW3, hz, hb⟩ := id ok
  refine V_iload_n hC dX3_station_0 rfl rfl rfl ?_
  refine V_iconst (v := 0) hC dX3_station_1 (by decide) rfl ?_
  refine V_sipush (v := 2999) hC dX3_station_2 (by decide) rfl ?_
  refine V_callIS0 (n := 3) hC dX3_station_5 (k_X3_isWithin l D cI cZ cT _ _ _) gX3_station_X3_isWithin rfl ⟨rfl, rfl⟩ (by decide +kernel) ⟨Nat.le_of_ble_eq_true rfl, Nat.le_of_ble_eq_true rfl⟩ ⟨Nat.le_of_ble_eq_true rfl, Nat.le_of_ble_eq_true rfl⟩ rfl rfl (by exact Nat.le_of_ble_eq_true rfl) rfl (fun r_5 u_5 h_5 => ?_)
  subst h_5
  refine V_if_eq (tgt := 39) hC dX3_station_8 (by decide) rfl (fun c_8 => ?_) (fun c_8 => ?_)
  · exact absurd (c_8.symm.trans h1) (by decide)
  · refine V_aload_n hC dX3_station_11 rfl rfl rfl ?_
    refine V_get (q0 := 0) (C := RX3) (T := TX3) (N := 2) hC dX3_station_12 in_X3_X3_station rfl rfl 0 (Nat.le_of_ble_eq_true rfl) fk_X3_station_10 rfl rfl ?_
    refine V_get (q0 := 5) (C := RX0) (T := TX0) (N := 4) hC dX3_station_15 in_X0_X3_station rfl rfl 0 (Nat.le_of_ble_eq_true rfl) fk_X3_station_31 rfl rfl ?_
    refine V_iload_n hC dX3_station_18 rfl rfl rfl ?_
    refine V_callIVf (q0 := 5) (n := 1) hC dX3_station_19 (k_X1_hasStationAt l D cI cZ cT a _ _ _ _ hS hS4) gX3_station_X1_hasStationAt rfl ⟨rfl, rfl⟩ (by decide +kernel) ⟨Nat.le_of_ble_eq_true rfl, Nat.le_of_ble_eq_true rfl⟩ ⟨Nat.le_of_ble_eq_true rfl, Nat.le_of_ble_eq_true rfl⟩ WB_a.symm rfl rfl rfl rfl (by exact Nat.le_of_ble_eq_true rfl) rfl (fun r_19 u_19 h_19 => ?_)
    refine V_ws WB_a ?_
    refine V_if_ne (tgt := 39) hC dX3_station_22 (by decide) rfl (fun c_22 => ?_) (fun c_22 => ?_)
    · rcases h_19 with ⟨_, k, hk, e⟩ | ⟨e, _⟩
      · exact absurd e (h2 k hk)
      · exact absurd e c_22
    · refine V_iload_n hC dX3_station_25 rfl rfl rfl ?_
      refine V_iconst (v := 0) hC dX3_station_26 (by decide) rfl ?_
      refine V_bipush (v := 60) hC dX3_station_27 (by decide) rfl ?_
      refine V_callIS0 (n := 3) hC dX3_station_29 (k_X3_isWithin l D cI cZ cT _ _ _) gX3_station_X3_isWithin rfl ⟨rfl, rfl⟩ (by decide +kernel) ⟨Nat.le_of_ble_eq_true rfl, Nat.le_of_ble_eq_true rfl⟩ ⟨Nat.le_of_ble_eq_true rfl, Nat.le_of_ble_eq_true rfl⟩ rfl rfl (by exact Nat.le_of_ble_eq_true rfl) rfl (fun r_29 u_29 h_29 => ?_)
      subst h_29
      refine V_if_eq (tgt := 39) hC dX3_station_32 (by decide) rfl (fun c_32 => ?_) (fun c_32 => ?_)
      · exact absurd (c_32.symm.trans h3) (by decide)
      · refine V_iconst (v := 1) hC dX3_station_35 (by decide) rfl ?_
        refine V_goto (tgt := 40) hC dX3_station_36 (by decide) ?_
        refine V_callVS0 (n := 1) hC dX3_station_40 (k_X3_need l D cI cZ cT _ (by decide)) gX3_station_X3_need rfl ⟨rfl, rfl⟩ (by decide +kernel) ⟨Nat.le_of_ble_eq_true rfl, Nat.le_of_ble_eq_true rfl⟩ ⟨Nat.le_of_ble_eq_true rfl, Nat.le_of_ble_eq_true rfl⟩ rfl rfl (by exact Nat.le_of_ble_eq_true rfl) rfl (fun u_40 h_40 => ?_)
        refine V_aload_n hC dX3_station_43 rfl rfl rfl ?_
        refine V_get (q0 := 0) (C := RX3) (T := TX3) (N := 2) hC dX3_station_44 in_X3_X3_station rfl rfl 0 (Nat.le_of_ble_eq_true rfl) fk_X3_station_10 rfl rfl ?_
        refine V_get (q0 := 5) (C := RX0) (T := TX0) (N := 4) hC dX3_station_47 in_X0_X3_station rfl rfl 0 (Nat.le_of_ble_eq_true rfl) fk_X3_station_31 rfl rfl ?_
        refine V_get (q0 := 6) (C := RX1) (T := TX1) (N := 10) hC dX3_station_50 in_X1_X3_station rfl rfl 6 (Nat.le_of_ble_eq_true rfl) fk_X3_station_52 rfl rfl ?_
        refine V_iconst (v := 4) hC dX3_station_53 (by decide) rfl ?_
        refine V_icmp_ge (tgt := 71) hC dX3_station_54 (by decide) rfl (fun c_54 => ?_) (fun c_54 => ?_)
        · exact absurd c_54 (by rw [hS]; exact nI_ge (b := 4) h4 (by decide))
        · refine V_aload_n hC dX3_station_57 rfl rfl rfl ?_
          refine V_get (q0 := 0) (C := RX3) (T := TX3) (N := 2) hC dX3_station_58 in_X3_X3_station rfl rfl 0 (Nat.le_of_ble_eq_true rfl) fk_X3_station_10 rfl rfl ?_
          refine V_callIVf (q0 := 4) (n := 0) hC dX3_station_61 (k_X0_countPresent l D cI cZ cT a _ _ _ hT hT4) gX3_station_X0_countPresent rfl ⟨rfl, rfl⟩ (by decide +kernel) ⟨Nat.le_of_ble_eq_true rfl, Nat.le_of_ble_eq_true rfl⟩ ⟨Nat.le_of_ble_eq_true rfl, Nat.le_of_ble_eq_true rfl⟩ WB_a.symm rfl rfl rfl rfl (by exact Nat.le_of_ble_eq_true rfl) rfl (fun r_61 u_61 h_61 => ?_)
          subst h_61
          refine V_ws WB_a ?_
          refine V_if_ne (tgt := 71) hC dX3_station_64 (by decide) rfl (fun c_64 => ?_) (fun c_64 => ?_)
          · exact absurd h5 c_64
          · refine V_iconst (v := 1) hC dX3_station_67 (by decide) rfl ?_
            refine V_goto (tgt := 72) hC dX3_station_68 (by decide) ?_
            refine V_callVS0 (n := 1) hC dX3_station_72 (k_X3_needState l D cI cZ cT _ (by decide)) gX3_station_X3_needState rfl ⟨rfl, rfl⟩ (by decide +kernel) ⟨Nat.le_of_ble_eq_true rfl, Nat.le_of_ble_eq_true rfl⟩ ⟨Nat.le_of_ble_eq_true rfl, Nat.le_of_ble_eq_true rfl⟩ rfl rfl (by exact Nat.le_of_ble_eq_true rfl) rfl (fun u_72 h_72 => ?_)
            refine V_aload_n hC dX3_station_75 rfl rfl rfl ?_
            refine V_get (q0 := 0) (C := RX3) (T := TX3) (N := 2) hC dX3_station_76 in_X3_X3_station rfl rfl 0 (Nat.le_of_ble_eq_true rfl) fk_X3_station_10 rfl rfl ?_
            refine V_get (q0 := 5) (C := RX0) (T := TX0) (N := 4) hC dX3_station_79 in_X0_X3_station rfl rfl 0 (Nat.le_of_ble_eq_true rfl) fk_X3_station_31 rfl rfl ?_
            refine V_iload_n hC dX3_station_82 rfl rfl rfl ?_
            refine V_iload_n hC dX3_station_83 rfl rfl rfl ?_
            refine V_callIVf (q0 := 5) (n := 2) hC dX3_station_84 (k_X1_addStation l D cI cZ cT a _ _ _ _ _ hS h4) gX3_station_X1_addStation rfl ⟨rfl, rfl⟩ (by decide +kernel) ⟨Nat.le_of_ble_eq_true rfl, Nat.le_of_ble_eq_true rfl⟩ ⟨Nat.le_of_ble_eq_true rfl, Nat.le_of_ble_eq_true rfl⟩ WB_a.symm rfl rfl rfl rfl (by exact Nat.le_of_ble_eq_true rfl) rfl (fun r_84 u_84 h_84 => ?_)
            subst h_84
            refine V_ws WB_a ?_
            exact hE _ () _ _ _ dX3_station_87 rfl rfl (by first | rfl | (simp [*]; done))
theorem in_X3_X3_train : ∀ w ∈ u_ws RX3 TX3 2, w ∈ wsX3_train := by decide +kernel
theorem fk_X3_train_10 : Cond.fieldLink RX3 10 (TX3 0).1 (TX3 0).2.1 (TX3 0).2.2.1 ∈ wsX3_train := by decide +kernel
theorem in_X0_X3_train : ∀ w ∈ u_ws RX0 TX0 4, w ∈ wsX3_train := by decide +kernel
theorem fk_X3_train_67 : Cond.fieldLink RX3 67 (TX0 2).1 (TX0 2).2.1 (TX0 2).2.2.1 ∈ wsX3_train := by decide +kernel
set_option maxRecDepth 100000 in
set_option maxHeartbeats 4000000 in
theorem k_X3_train (l : Launch) (D : va_G) (cI cZ cT : ClassId) (c : Nat) (a b : Nat → Nat) (t g t2 g2 : Nat → Nat → Int32) (nT nS nW : Nat) (ok : Ok t g nT nS nW) (x y z w : Int32) (h1 : m_in x 20 200 = 1) (h2 : m_in y 1 4 = 1) (h3 : m_in z 1 3 = 1) (h4 : nT < 4) (h5 : ∀ k, k < nT → t k 9 = 0 → ¬ m_rear (t k) ≤ x) : CI l D kCl (kTy cI cZ cT) yX3_train wsX3_train ({ frames := 3, cells := 0, slots := 0, locals := 67 }) 0 0 [.ref c, .int x, .int y, .int z, .int w] (WB cI cZ cT c a b t g t2 g2) (S := Unit) (fun r _ => r = nI nT) (fun _ => WB cI cZ cT c a b (m_add t g nT nS x y z w) (up2 g 8 0 (nI (nT + 1))) t2 g2) := by
  refine CI_of (own := RX3) (by decide) rfl rfl (Nat.le_of_ble_eq_true rfl) rfl (fun X A hC hE => ?_)
  obtain ⟨hT, hT4, hS, hS4, hW, hW3, hz, hb⟩ := id ok
  refine V_iload_n hC dX3_train_0 rfl rfl rfl ?_
  refine V_bipush (v := 20) hC dX3_train_1 (by decide) rfl ?_
  refine V_sipush (v := 200) hC dX3_train_3 (by decide) rfl ?_
  refine V_callIS0 (n := 3) hC dX3_train_6 (k_X3_isWithin l D cI cZ cT _ _ _) gX3_train_X3_isWithin rfl ⟨rfl, rfl⟩ (by decide +kernel) ⟨Nat.le_of_ble_eq_true rfl, Nat.le_of_ble_eq_true rfl⟩ ⟨Nat.le_of_ble_eq_true rfl, Nat.le_of_ble_eq_true rfl⟩ rfl rfl (by exact Nat.le_of_ble_eq_true rfl) rfl (fun r_6 u_6 h_6 => ?_)
  subst h_6
  refine V_if_eq (tgt := 34) hC dX3_train_9 (by decide) rfl (fun c_9 => ?_) (fun c_9 => ?_)
  · exact absurd (c_9.symm.trans h1) (by decide)
  · refine V_iload_n hC dX3_train_12 rfl rfl rfl ?_
    refine V_iconst (v := 1) hC dX3_train_13 (by decide) rfl ?_
    refine V_iconst (v := 4) hC dX3_train_14 (by decide) rfl ?_
    refine V_callIS0 (n := 3) hC dX3_train_15 (k_X3_isWithin l D cI cZ cT _ _ _) gX3_train_X3_isWithin rfl ⟨rfl, rfl⟩ (by decide +kernel) ⟨Nat.le_of_ble_eq_true rfl, Nat.le_of_ble_eq_true rfl⟩ ⟨Nat.le_of_ble_eq_true rfl, Nat.le_of_ble_eq_true rfl⟩ rfl rfl (by exact Nat.le_of_ble_eq_true rfl) rfl (fun r_15 u_15 h_15 => ?_)
    subst h_15
    refine V_if_eq (tgt := 34) hC dX3_train_18 (by decide) rfl (fun c_18 => ?_) (fun c_18 => ?_)
    · exact absurd (c_18.symm.trans h2) (by decide)
    · refine V_iload_n hC dX3_train_21 rfl rfl rfl ?_
      refine V_iconst (v := 1) hC dX3_train_22 (by decide) rfl ?_
      refine V_iconst (v := 3) hC dX3_train_23 (by decide) rfl ?_
      refine V_callIS0 (n := 3) hC dX3_train_24 (k_X3_isWithin l D cI cZ cT _ _ _) gX3_train_X3_isWithin rfl ⟨rfl, rfl⟩ (by decide +kernel) ⟨Nat.le_of_ble_eq_true rfl, Nat.le_of_ble_eq_true rfl⟩ ⟨Nat.le_of_ble_eq_true rfl, Nat.le_of_ble_eq_true rfl⟩ rfl rfl (by exact Nat.le_of_ble_eq_true rfl) rfl (fun r_24 u_24 h_24 => ?_)
      subst h_24
      refine V_if_eq (tgt := 34) hC dX3_train_27 (by decide) rfl (fun c_27 => ?_) (fun c_27 => ?_)
      · exact absurd (c_27.symm.trans h3) (by decide)
      · refine V_iconst (v := 1) hC dX3_train_30 (by decide) rfl ?_
        refine V_goto (tgt := 35) hC dX3_train_31 (by decide) ?_
        refine V_callVS0 (n := 1) hC dX3_train_35 (k_X3_need l D cI cZ cT _ (by decide)) gX3_train_X3_need rfl ⟨rfl, rfl⟩ (by decide +kernel) ⟨Nat.le_of_ble_eq_true rfl, Nat.le_of_ble_eq_true rfl⟩ ⟨Nat.le_of_ble_eq_true rfl, Nat.le_of_ble_eq_true rfl⟩ rfl rfl (by exact Nat.le_of_ble_eq_true rfl) rfl (fun u_35 h_35 => ?_)
        refine V_aload_n hC dX3_train_38 rfl rfl rfl ?_
        refine V_get (q0 := 0) (C := RX3) (T := TX3) (N := 2) hC dX3_train_39 in_X3_X3_train rfl rfl 0 (Nat.le_of_ble_eq_true rfl) fk_X3_train_10 rfl rfl ?_
        refine V_get (q0 := 5) (C := RX0) (T := TX0) (N := 4) hC dX3_train_42 in_X0_X3_train rfl rfl 2 (Nat.le_of_ble_eq_true rfl) fk_X3_train_67 rfl rfl ?_
        refine V_iconst (v := 4) hC dX3_train_45 (by decide) rfl ?_
        refine V_icmp_ge (tgt := 64) hC dX3_train_46 (by decide) rfl (fun c_46 => ?_) (fun c_46 => ?_)
        · exact absurd c_46 (by rw [hT]; exact nI_ge (b := 4) h4 (by decide))
        · refine V_aload_n hC dX3_train_49 rfl rfl rfl ?_
          refine V_get (q0 := 0) (C := RX3) (T := TX3) (N := 2) hC dX3_train_50 in_X3_X3_train rfl rfl 0 (Nat.le_of_ble_eq_true rfl) fk_X3_train_10 rfl rfl ?_
          refine V_iload_n hC dX3_train_53 rfl rfl rfl ?_
          refine V_callIVf (q0 := 4) (n := 1) hC dX3_train_54 (k_X0_isFreeUpTo l D cI cZ cT a _ _ _ _ hT hT4) gX3_train_X0_isFreeUpTo rfl ⟨rfl, rfl⟩ (by decide +kernel) ⟨Nat.le_of_ble_eq_true rfl, Nat.le_of_ble_eq_true rfl⟩ ⟨Nat.le_of_ble_eq_true rfl, Nat.le_of_ble_eq_true rfl⟩ WB_a.symm rfl rfl rfl rfl (by exact Nat.le_of_ble_eq_true rfl) rfl (fun r_54 u_54 h_54 => ?_)
          refine V_ws WB_a ?_
          refine V_if_eq (tgt := 64) hC dX3_train_57 (by decide) rfl (fun c_57 => ?_) (fun c_57 => ?_)
          · rcases h_54 with ⟨e, _⟩ | ⟨_, k, hk, e1, e2⟩
            · exact absurd (e.symm.trans c_57) (by decide)
            · exact absurd e2 (h5 k hk e1)
          · refine V_iconst (v := 1) hC dX3_train_60 (by decide) rfl ?_
            refine V_goto (tgt := 65) hC dX3_train_61 (by decide) ?_
            refine V_callVS0 (n := 1) hC dX3_train_65 (k_X3_needState l D cI cZ cT _ (by decide)) gX3_train_X3_needState rfl ⟨rfl, rfl⟩ (by decide +kernel) ⟨Nat.le_of_ble_eq_true rfl, Nat.le_of_ble_eq_true rfl⟩ ⟨Nat.le_of_ble_eq_true rfl, Nat.le_of_ble_eq_true rfl⟩ rfl rfl (by exact Nat.le_of_ble_eq_true rfl) rfl (fun u_65 h_65 => ?_)
            refine V_aload_n hC dX3_train_68 rfl rfl rfl ?_
            refine V_get (q0 := 0) (C := RX3) (T := TX3) (N := 2) hC dX3_train_69 in_X3_X3_train rfl rfl 0 (Nat.le_of_ble_eq_true rfl) fk_X3_train_10 rfl rfl ?_
            refine V_iload_n hC dX3_train_72 rfl rfl rfl ?_
            refine V_iload_n hC dX3_train_73 rfl rfl rfl ?_
            refine V_iload_n hC dX3_train_74 rfl rfl rfl ?_
            refine V_iload hC dX3_train_75 rfl rfl ?_
            refine V_callIVf (q0 := 4) (n := 4) hC dX3_train_77 (k_X0_addTrain l D cI cZ cT a _ _ _ _ _ _ _ hT h4 _ hS hS4) gX3_train_X0_addTrain rfl ⟨rfl, rfl⟩ (by decide +kernel) ⟨Nat.le_of_ble_eq_true rfl, Nat.le_of_ble_eq_true rfl⟩ ⟨Nat.le_of_ble_eq_true rfl, Nat.le_of_ble_eq_true rfl⟩ WB_a.symm rfl rfl rfl rfl (by exact Nat.le_of_ble_eq_true rfl) rfl (fun r_77 u_77 h_77 => ?_)
            subst h_77
            refine V_ws WB_a ?_
            exact hE _ () _ _ _ dX3_train_80 rfl rfl (by first | rfl | (simp [*]; done))
theorem in_X3_X3_whole : ∀ w ∈ u_ws RX3 TX3 2, w ∈ wsX3_whole := by decide +kernel
theorem fk_X3_whole_10 : Cond.fieldLink RX3 10 (TX3 0).1 (TX3 0).2.1 (TX3 0).2.2.1 ∈ wsX3_whole := by decide +kernel
theorem in_X0_X3_whole : ∀ w ∈ u_ws RX0 TX0 4, w ∈ wsX3_whole := by decide +kernel
theorem fk_X3_whole_80 : Cond.fieldLink RX3 80 (TX0 1).1 (TX0 1).2.1 (TX0 1).2.2.1 ∈ wsX3_whole := by decide +kernel
theorem in_X2_X3_whole : ∀ w ∈ u_ws RX2 TX2 18, w ∈ wsX3_whole := by decide +kernel
theorem fk_X3_whole_84 : Cond.fieldLink RX3 84 (TX2 3).1 (TX2 3).2.1 (TX2 3).2.2.1 ∈ wsX3_whole := by decide +kernel
set_option maxRecDepth 100000 in
set_option maxHeartbeats 4000000 in
theorem k_X3_whole (l : Launch) (D : va_G) (cI cZ cT : ClassId) (c : Nat) (a b : Nat → Nat) (t g t2 g2 : Nat → Nat → Int32) (nT nS nW : Nat) (ok : Ok t g nT nS nW) (i : Nat) (hi : i < nT) (v : Int32) (hv : b01 v) : CI l D kCl (kTy cI cZ cT) yX3_whole wsX3_whole ({ frames := 2, cells := 0, slots := 0, locals := 42 }) 0 0 [.ref c, .int (nI i), .int v] (WB cI cZ cT c a b t g t2 g2) (S := Unit) (fun r _ => r = t i 3) (fun _ => WB cI cZ cT c a b (up2 t i 3 v) g t2 g2) := by
  refine CI_of (own := RX3) (by decide) rfl rfl (Nat.le_of_ble_eq_true rfl) rfl (fun X A hC hE => ?_)
  obtain ⟨hT, hT4, hS, hS4, hW, hW3, hz, hb⟩ := id ok
  have hi4 : i < 4 := Nat.lt_of_lt_of_le hi hT4
  refine V_aload_n hC dX3_whole_0 rfl rfl rfl ?_
  refine V_iload_n hC dX3_whole_1 rfl rfl rfl ?_
  refine V_callVV (q0 := 0) (n := 1) hC dX3_whole_2 (k_X3_needTrain l D cI cZ cT c a b _ _ _ _ _ _ _ ok _ hi) gX3_whole_X3_needTrain rfl ⟨rfl, rfl⟩ (by decide +kernel) ⟨Nat.le_of_ble_eq_true rfl, Nat.le_of_ble_eq_true rfl⟩ ⟨Nat.le_of_ble_eq_true rfl, Nat.le_of_ble_eq_true rfl⟩ rfl rfl rfl rfl (by exact Nat.le_of_ble_eq_true rfl) rfl (fun u_2 h_2 => ?_)
  refine V_aload_n hC dX3_whole_5 rfl rfl rfl ?_
  refine V_get (q0 := 0) (C := RX3) (T := TX3) (N := 2) hC dX3_whole_6 in_X3_X3_whole rfl rfl 0 (Nat.le_of_ble_eq_true rfl) fk_X3_whole_10 rfl rfl ?_
  refine V_get (q0 := 5) (C := RX0) (T := TX0) (N := 4) hC dX3_whole_9 in_X0_X3_whole rfl rfl 1 (Nat.le_of_ble_eq_true rfl) fk_X3_whole_80 rfl rfl ?_
  refine V_iload_n hC dX3_whole_12 rfl rfl rfl ?_
  refine V_aald (q0 := 15) hC dX3_whole_13 rfl 2 rfl rfl hi4 (by decide) (trA_at hi4) rfl ?_
  refine V_get (C := RX2) (T := TX2) (N := 18) hC dX3_whole_14 in_X2_X3_whole (WB_ta hi4) rfl 3 (Nat.le_of_ble_eq_true rfl) fk_X3_whole_84 rfl rfl ?_
  refine V_istore_n hC dX3_whole_17 rfl (Nat.le_of_ble_eq_true rfl) rfl ?_
  refine V_aload_n hC dX3_whole_18 rfl rfl rfl ?_
  refine V_get (q0 := 0) (C := RX3) (T := TX3) (N := 2) hC dX3_whole_19 in_X3_X3_whole rfl rfl 0 (Nat.le_of_ble_eq_true rfl) fk_X3_whole_10 rfl rfl ?_
  refine V_get (q0 := 5) (C := RX0) (T := TX0) (N := 4) hC dX3_whole_22 in_X0_X3_whole rfl rfl 1 (Nat.le_of_ble_eq_true rfl) fk_X3_whole_80 rfl rfl ?_
  refine V_iload_n hC dX3_whole_25 rfl rfl rfl ?_
  refine V_aald (q0 := 15) hC dX3_whole_26 rfl 2 rfl rfl hi4 (by decide) (trA_at hi4) rfl ?_
  refine V_iload_n hC dX3_whole_27 rfl rfl rfl ?_
  refine V_put (C := RX2) (T := TX2) (N := 18) hC dX3_whole_28 in_X2_X3_whole tyX2 tyX2_ok nmX2 (WB_ta hi4) rfl 3 (Nat.le_of_ble_eq_true rfl) fk_X3_whole_84 rfl rfl (nb hv) (fb hv) (Nat.le_of_ble_eq_true rfl) (WB_seta hi4 (by decide)) rfl ?_
  refine V_iload_n hC dX3_whole_31 rfl rfl rfl ?_
  exact hE _ () _ _ _ dX3_whole_32 (nb (hb i hi4).1) rfl (by first | rfl | (simp [*]; done))
theorem in_X3_X3_works : ∀ w ∈ u_ws RX3 TX3 2, w ∈ wsX3_works := by decide +kernel
theorem fk_X3_works_10 : Cond.fieldLink RX3 10 (TX3 0).1 (TX3 0).2.1 (TX3 0).2.2.1 ∈ wsX3_works := by decide +kernel
theorem in_X0_X3_works : ∀ w ∈ u_ws RX0 TX0 4, w ∈ wsX3_works := by decide +kernel
theorem fk_X3_works_31 : Cond.fieldLink RX3 31 (TX0 0).1 (TX0 0).2.1 (TX0 0).2.2.1 ∈ wsX3_works := by decide +kernel
theorem in_X1_X3_works : ∀ w ∈ u_ws RX1 TX1 10, w ∈ wsX3_works := by decide +kernel
theorem fk_X3_works_90 : Cond.fieldLink RX3 90 (TX1 9).1 (TX1 9).2.1 (TX1 9).2.2.1 ∈ wsX3_works := by decide +kernel
set_option maxRecDepth 100000 in
set_option maxHeartbeats 4000000 in
theorem k_X3_works (l : Launch) (D : va_G) (cI cZ cT : ClassId) (c : Nat) (a b : Nat → Nat) (t g t2 g2 : Nat → Nat → Int32) (nT nS nW : Nat) (ok : Ok t g nT nS nW) (f e : Nat) (hf : f < 20) (he : e < 20) (hfe : f ≤ e) (h3 : nW < 3) : CI l D kCl (kTy cI cZ cT) yX3_works wsX3_works ({ frames := 4, cells := 0, slots := 0, locals := 92 }) 0 0 [.ref c, .int (nI f), .int (nI e)] (WB cI cZ cT c a b t g t2 g2) (S := Unit) (fun r _ => r = if m_hind t (nI f) (nI e) nT = 0 then nI (nW + 1) else m_hind t (nI f) (nI e) nT) (fun _ => WB cI cZ cT c a b t (if m_hind t (nI f) (nI e) nT = 0 then up2 (up2 (up2 g 6 nW (nI f)) 7 nW (nI e)) 8 3 (nI (nW + 1)) else g) t2 g2) := by
  refine CI_of (own := RX3) (by decide) rfl rfl (Nat.le_of_ble_eq_true rfl) rfl (fun X A hC hE => ?_)
  obtain ⟨hT, hT4, hS, hS4, hW, hW3, hz, hb⟩ := id ok
  refine V_iload_n hC dX3_works_0 rfl rfl rfl ?_
  refine V_callVS0 (n := 1) hC dX3_works_1 (k_X3_needSection l D cI cZ cT _ hf) gX3_works_X3_needSection rfl ⟨rfl, rfl⟩ (by decide +kernel) ⟨Nat.le_of_ble_eq_true rfl, Nat.le_of_ble_eq_true rfl⟩ ⟨Nat.le_of_ble_eq_true rfl, Nat.le_of_ble_eq_true rfl⟩ rfl rfl (by exact Nat.le_of_ble_eq_true rfl) rfl (fun u_1 h_1 => ?_)
  refine V_iload_n hC dX3_works_4 rfl rfl rfl ?_
  refine V_callVS0 (n := 1) hC dX3_works_5 (k_X3_needSection l D cI cZ cT _ he) gX3_works_X3_needSection rfl ⟨rfl, rfl⟩ (by decide +kernel) ⟨Nat.le_of_ble_eq_true rfl, Nat.le_of_ble_eq_true rfl⟩ ⟨Nat.le_of_ble_eq_true rfl, Nat.le_of_ble_eq_true rfl⟩ rfl rfl (by exact Nat.le_of_ble_eq_true rfl) rfl (fun u_5 h_5 => ?_)
  refine V_iload_n hC dX3_works_8 rfl rfl rfl ?_
  refine V_iload_n hC dX3_works_9 rfl rfl rfl ?_
  refine V_icmp_gt (tgt := 17) hC dX3_works_10 (by decide) rfl (fun c_10 => ?_) (fun c_10 => ?_)
  · exact absurd c_10 (nI_nlt hfe (by omega))
  · refine V_iconst (v := 1) hC dX3_works_13 (by decide) rfl ?_
    refine V_goto (tgt := 18) hC dX3_works_14 (by decide) ?_
    refine V_callVS0 (n := 1) hC dX3_works_18 (k_X3_need l D cI cZ cT _ (by decide)) gX3_works_X3_need rfl ⟨rfl, rfl⟩ (by decide +kernel) ⟨Nat.le_of_ble_eq_true rfl, Nat.le_of_ble_eq_true rfl⟩ ⟨Nat.le_of_ble_eq_true rfl, Nat.le_of_ble_eq_true rfl⟩ rfl rfl (by exact Nat.le_of_ble_eq_true rfl) rfl (fun u_18 h_18 => ?_)
    refine V_aload_n hC dX3_works_21 rfl rfl rfl ?_
    refine V_get (q0 := 0) (C := RX3) (T := TX3) (N := 2) hC dX3_works_22 in_X3_X3_works rfl rfl 0 (Nat.le_of_ble_eq_true rfl) fk_X3_works_10 rfl rfl ?_
    refine V_get (q0 := 5) (C := RX0) (T := TX0) (N := 4) hC dX3_works_25 in_X0_X3_works rfl rfl 0 (Nat.le_of_ble_eq_true rfl) fk_X3_works_31 rfl rfl ?_
    refine V_get (q0 := 6) (C := RX1) (T := TX1) (N := 10) hC dX3_works_28 in_X1_X3_works rfl rfl 9 (Nat.le_of_ble_eq_true rfl) fk_X3_works_90 rfl rfl ?_
    refine V_iconst (v := 3) hC dX3_works_31 (by decide) rfl ?_
    refine V_icmp_ge (tgt := 39) hC dX3_works_32 (by decide) rfl (fun c_32 => ?_) (fun c_32 => ?_)
    · exact absurd c_32 (by rw [hW]; exact nI_ge (b := 3) h3 (by decide))
    · refine V_iconst (v := 1) hC dX3_works_35 (by decide) rfl ?_
      refine V_goto (tgt := 40) hC dX3_works_36 (by decide) ?_
      refine V_callVS0 (n := 1) hC dX3_works_40 (k_X3_needState l D cI cZ cT _ (by decide)) gX3_works_X3_needState rfl ⟨rfl, rfl⟩ (by decide +kernel) ⟨Nat.le_of_ble_eq_true rfl, Nat.le_of_ble_eq_true rfl⟩ ⟨Nat.le_of_ble_eq_true rfl, Nat.le_of_ble_eq_true rfl⟩ rfl rfl (by exact Nat.le_of_ble_eq_true rfl) rfl (fun u_40 h_40 => ?_)
      refine V_aload_n hC dX3_works_43 rfl rfl rfl ?_
      refine V_get (q0 := 0) (C := RX3) (T := TX3) (N := 2) hC dX3_works_44 in_X3_X3_works rfl rfl 0 (Nat.le_of_ble_eq_true rfl) fk_X3_works_10 rfl rfl ?_
      refine V_iload_n hC dX3_works_47 rfl rfl rfl ?_
      refine V_iload_n hC dX3_works_48 rfl rfl rfl ?_
      refine V_callIVf (q0 := 4) (n := 2) hC dX3_works_49 (k_X0_hindranceOfWorks l D cI cZ cT a _ _ _ _ _ hT hT4) gX3_works_X0_hindranceOfWorks rfl ⟨rfl, rfl⟩ (by decide +kernel) ⟨Nat.le_of_ble_eq_true rfl, Nat.le_of_ble_eq_true rfl⟩ ⟨Nat.le_of_ble_eq_true rfl, Nat.le_of_ble_eq_true rfl⟩ WB_a.symm rfl rfl rfl rfl (by exact Nat.le_of_ble_eq_true rfl) rfl (fun r_49 u_49 h_49 => ?_)
      subst h_49
      refine V_ws WB_a ?_
      refine V_istore_n hC dX3_works_52 rfl (Nat.le_of_ble_eq_true rfl) rfl ?_
      refine V_iload_n hC dX3_works_53 rfl rfl rfl ?_
      refine V_if_eq (tgt := 61) hC dX3_works_54 (by decide) rfl (fun c_54 => ?_) (fun c_54 => ?_)
      · refine V_aload_n hC dX3_works_61 rfl rfl rfl ?_
        refine V_get (q0 := 0) (C := RX3) (T := TX3) (N := 2) hC dX3_works_62 in_X3_X3_works rfl rfl 0 (Nat.le_of_ble_eq_true rfl) fk_X3_works_10 rfl rfl ?_
        refine V_get (q0 := 5) (C := RX0) (T := TX0) (N := 4) hC dX3_works_65 in_X0_X3_works rfl rfl 0 (Nat.le_of_ble_eq_true rfl) fk_X3_works_31 rfl rfl ?_
        refine V_iload_n hC dX3_works_68 rfl rfl rfl ?_
        refine V_iload_n hC dX3_works_69 rfl rfl rfl ?_
        refine V_callIVf (q0 := 5) (n := 2) hC dX3_works_70 (k_X1_addWorks l D cI cZ cT a _ _ _ _ _ hW h3) gX3_works_X1_addWorks rfl ⟨rfl, rfl⟩ (by decide +kernel) ⟨Nat.le_of_ble_eq_true rfl, Nat.le_of_ble_eq_true rfl⟩ ⟨Nat.le_of_ble_eq_true rfl, Nat.le_of_ble_eq_true rfl⟩ WB_a.symm rfl rfl rfl rfl (by exact Nat.le_of_ble_eq_true rfl) rfl (fun r_70 u_70 h_70 => ?_)
        subst h_70
        refine V_ws WB_a ?_
        exact hE _ () _ _ _ dX3_works_73 rfl (by first | (rw [if_pos c_54]; done) | (rw [if_neg c_54]; done)) (by first | (rw [if_pos c_54]; done) | (rw [if_neg c_54]; done))
      · refine V_iload_n hC dX3_works_57 rfl rfl rfl ?_
        refine V_goto (tgt := 73) hC dX3_works_58 (by decide) ?_
        exact hE _ () _ _ _ dX3_works_73 rfl (by first | (rw [if_pos c_54]; done) | (rw [if_neg c_54]; done)) (by first | (rw [if_pos c_54]; done) | (rw [if_neg c_54]; done))
theorem in_X3_X3_end : ∀ w ∈ u_ws RX3 TX3 2, w ∈ wsX3_end := by decide +kernel
theorem fk_X3_end_10 : Cond.fieldLink RX3 10 (TX3 0).1 (TX3 0).2.1 (TX3 0).2.2.1 ∈ wsX3_end := by decide +kernel
theorem in_X0_X3_end : ∀ w ∈ u_ws RX0 TX0 4, w ∈ wsX3_end := by decide +kernel
theorem fk_X3_end_31 : Cond.fieldLink RX3 31 (TX0 0).1 (TX0 0).2.1 (TX0 0).2.2.1 ∈ wsX3_end := by decide +kernel
theorem in_X1_X3_end : ∀ w ∈ u_ws RX1 TX1 10, w ∈ wsX3_end := by decide +kernel
theorem fk_X3_end_90 : Cond.fieldLink RX3 90 (TX1 9).1 (TX1 9).2.1 (TX1 9).2.2.1 ∈ wsX3_end := by decide +kernel
set_option maxRecDepth 100000 in
set_option maxHeartbeats 4000000 in
theorem k_X3_end (l : Launch) (D : va_G) (cI cZ cT : ClassId) (c : Nat) (a b : Nat → Nat) (t g t2 g2 : Nat → Nat → Int32) (nT nS nW : Nat) (ok : Ok t g nT nS nW) (j : Nat) (hj : j < nW) : CI l D kCl (kTy cI cZ cT) yX3_end wsX3_end ({ frames := 1, cells := 0, slots := 0, locals := 22 }) 0 0 [.ref c, .int (nI j)] (WB cI cZ cT c a b t g t2 g2) (S := Unit) (fun r _ => r = nI (nW - 1)) (fun _ => WB cI cZ cT c a b t (up2 (m_sh g j (nW - 1 - j)) 8 3 (nI (nW - 1))) t2 g2) := by
  refine CI_of (own := RX3) (by decide) rfl rfl (Nat.le_of_ble_eq_true rfl) rfl (fun X A hC hE => ?_)
  obtain ⟨hT, hT4, hS, hS4, hW, hW3, hz, hb⟩ := id ok
  refine V_iload_n hC dX3_end_0 rfl rfl rfl ?_
  refine V_aload_n hC dX3_end_1 rfl rfl rfl ?_
  refine V_get (q0 := 0) (C := RX3) (T := TX3) (N := 2) hC dX3_end_2 in_X3_X3_end rfl rfl 0 (Nat.le_of_ble_eq_true rfl) fk_X3_end_10 rfl rfl ?_
  refine V_get (q0 := 5) (C := RX0) (T := TX0) (N := 4) hC dX3_end_5 in_X0_X3_end rfl rfl 0 (Nat.le_of_ble_eq_true rfl) fk_X3_end_31 rfl rfl ?_
  refine V_get (q0 := 6) (C := RX1) (T := TX1) (N := 10) hC dX3_end_8 in_X1_X3_end rfl rfl 9 (Nat.le_of_ble_eq_true rfl) fk_X3_end_90 rfl rfl ?_
  refine V_callVS0 (n := 2) hC dX3_end_11 (k_X3_needIndex l D cI cZ cT _ _ (nI_pos (by omega)) (by rw [hW]; exact nI_lt hj (by omega))) gX3_end_X3_needIndex rfl ⟨rfl, rfl⟩ (by decide +kernel) ⟨Nat.le_of_ble_eq_true rfl, Nat.le_of_ble_eq_true rfl⟩ ⟨Nat.le_of_ble_eq_true rfl, Nat.le_of_ble_eq_true rfl⟩ rfl rfl (by exact Nat.le_of_ble_eq_true rfl) rfl (fun u_11 h_11 => ?_)
  refine V_aload_n hC dX3_end_14 rfl rfl rfl ?_
  refine V_get (q0 := 0) (C := RX3) (T := TX3) (N := 2) hC dX3_end_15 in_X3_X3_end rfl rfl 0 (Nat.le_of_ble_eq_true rfl) fk_X3_end_10 rfl rfl ?_
  refine V_get (q0 := 5) (C := RX0) (T := TX0) (N := 4) hC dX3_end_18 in_X0_X3_end rfl rfl 0 (Nat.le_of_ble_eq_true rfl) fk_X3_end_31 rfl rfl ?_
  refine V_iload_n hC dX3_end_21 rfl rfl rfl ?_
  refine V_callIVf (q0 := 5) (n := 1) hC dX3_end_22 (k_X1_removeWorks l D cI cZ cT a _ _ _ _ hW hW3 hj) gX3_end_X1_removeWorks rfl ⟨rfl, rfl⟩ (by decide +kernel) ⟨Nat.le_of_ble_eq_true rfl, Nat.le_of_ble_eq_true rfl⟩ ⟨Nat.le_of_ble_eq_true rfl, Nat.le_of_ble_eq_true rfl⟩ WB_a.symm rfl rfl rfl rfl (by exact Nat.le_of_ble_eq_true rfl) rfl (fun r_22 u_22 h_22 => ?_)
  subst h_22
  refine V_ws WB_a ?_
  exact hE _ () _ _ _ dX3_end_25 rfl rfl (by first | rfl | (simp [*]; done))
theorem in_X3_X3_pass : ∀ w ∈ u_ws RX3 TX3 2, w ∈ wsX3_pass := by decide +kernel
theorem fk_X3_pass_10 : Cond.fieldLink RX3 10 (TX3 0).1 (TX3 0).2.1 (TX3 0).2.2.1 ∈ wsX3_pass := by decide +kernel
set_option maxRecDepth 100000 in
set_option maxHeartbeats 4000000 in
theorem k_X3_pass (l : Launch) (D : va_G) (cI cZ cT : ClassId) (c : Nat) (a b : Nat → Nat) (t g t2 g2 : Nat → Nat → Int32) (nT nS nW : Nat) (ok : Ok t g nT nS nW) (n : Nat) (hn : n ≤ 300) (hn1 : m_in (nI n) 1 300 = 1) : CI l D kCl (kTy cI cZ cT) yX3_pass wsX3_pass ({ frames := 5, cells := 0, slots := 0, locals := 114 }) 0 0 [.ref c, .int (nI n)] (WB cI cZ cT c a b t g t2 g2) (S := Unit) (fun r _ => r = m_outs t g nT nS nW n) (fun _ => WB cI cZ cT c a b (m_it (-1) nT nS nW t g n).1 (m_it (-1) nT nS nW t g n).2 t2 g2) := by
  refine CI_of (own := RX3) (by decide) rfl rfl (Nat.le_of_ble_eq_true rfl) rfl (fun X A hC hE => ?_)
  obtain ⟨hT, hT4, hS, hS4, hW, hW3, hz, hb⟩ := id ok
  refine V_iload_n hC dX3_pass_0 rfl rfl rfl ?_
  refine V_iconst (v := 1) hC dX3_pass_1 (by decide) rfl ?_
  refine V_sipush (v := 300) hC dX3_pass_2 (by decide) rfl ?_
  refine V_callIS0 (n := 3) hC dX3_pass_5 (k_X3_isWithin l D cI cZ cT _ _ _) gX3_pass_X3_isWithin rfl ⟨rfl, rfl⟩ (by decide +kernel) ⟨Nat.le_of_ble_eq_true rfl, Nat.le_of_ble_eq_true rfl⟩ ⟨Nat.le_of_ble_eq_true rfl, Nat.le_of_ble_eq_true rfl⟩ rfl rfl (by exact Nat.le_of_ble_eq_true rfl) rfl (fun r_5 u_5 h_5 => ?_)
  subst h_5
  refine V_callVS0 (n := 1) hC dX3_pass_8 (k_X3_need l D cI cZ cT _ (by rw [hn1]; decide)) gX3_pass_X3_need rfl ⟨rfl, rfl⟩ (by decide +kernel) ⟨Nat.le_of_ble_eq_true rfl, Nat.le_of_ble_eq_true rfl⟩ ⟨Nat.le_of_ble_eq_true rfl, Nat.le_of_ble_eq_true rfl⟩ rfl rfl (by exact Nat.le_of_ble_eq_true rfl) rfl (fun u_8 h_8 => ?_)
  refine V_iconst (v := 0) hC dX3_pass_11 (by decide) rfl ?_
  refine V_istore_n hC dX3_pass_12 rfl (Nat.le_of_ble_eq_true rfl) rfl ?_
  refine V_iconst (v := 1) hC dX3_pass_13 (by decide) rfl ?_
  refine V_istore_n hC dX3_pass_14 rfl (Nat.le_of_ble_eq_true rfl) rfl ?_
  have loop_15 : ∀ (d k : Nat), n - k < d → k ≤ n → V X 0 0 (WB cI cZ cT c a b (m_it (-1) nT nS nW t g k).1 (m_it (-1) nT nS nW t g k).2 t2 g2) [(0, .ref c), (1, .int (nI n)), (2, .int (m_outs t g nT nS nW k)), (3, .int (nI (k + 1)))] 15 [] := by
    intro d
    induction d with
    | zero => intro k; intros; omega
    | succ d ih =>
      intro k h hk
      refine V_iload_n hC dX3_pass_15 rfl rfl rfl ?_
      refine V_iload_n hC dX3_pass_16 rfl rfl rfl ?_
      refine V_icmp_gt (tgt := 37) hC dX3_pass_17 (by decide) rfl (fun c_17 => ?_) (fun c_17 => ?_)
      · have c1 := nI_lt' c_17 (by omega) (by omega)
        obtain rfl : n = k := by omega
        refine V_iload_n hC dX3_pass_37 rfl rfl rfl ?_
        exact hE _ () _ _ _ dX3_pass_38 rfl rfl (by first | rfl | (simp [*]; done))
      · have c1 := nI_nlt' c_17 (by omega) (by omega)
        obtain ⟨hT1, hT14, hS1, hS14, hW1, hW13, hz1, hb1⟩ := ok.it (-1) k
        refine V_iload_n hC dX3_pass_20 rfl rfl rfl ?_
        refine V_aload_n hC dX3_pass_21 rfl rfl rfl ?_
        refine V_get (q0 := 0) (C := RX3) (T := TX3) (N := 2) hC dX3_pass_22 in_X3_X3_pass rfl rfl 0 (Nat.le_of_ble_eq_true rfl) fk_X3_pass_10 rfl rfl ?_
        refine V_iconst (v := (-1)) hC dX3_pass_25 (by decide) rfl ?_
        refine V_callIVf (q0 := 4) (n := 1) hC dX3_pass_26 (k_X0_goOn l D cI cZ cT a _ _ _ _ hT1 hT14 _ hS1 hS14 _ hW1 hW13 hz1) gX3_pass_X0_goOn rfl ⟨rfl, rfl⟩ (by decide +kernel) ⟨Nat.le_of_ble_eq_true rfl, Nat.le_of_ble_eq_true rfl⟩ ⟨Nat.le_of_ble_eq_true rfl, Nat.le_of_ble_eq_true rfl⟩ WB_a.symm rfl rfl rfl rfl (by exact Nat.le_of_ble_eq_true rfl) rfl (fun r_26 u_26 h_26 => ?_)
        subst h_26
        refine V_ws WB_a ?_
        refine V_iadd hC dX3_pass_29 rfl ?_
        refine V_istore_n hC dX3_pass_30 rfl (Nat.le_of_ble_eq_true rfl) rfl ?_
        refine V_iinc hC dX3_pass_31 rfl (nI_1 (k + 1)) (Nat.le_of_ble_eq_true rfl) rfl ?_
        refine V_goto (tgt := 15) hC dX3_pass_34 (by decide) ?_
        exact V_to (ih (k + 1) (by omega) (by omega)) (lc rfl (lc rfl (lc rfl (lc rfl ln))))
  exact V_to (loop_15 _ 0 (Nat.lt_succ_self _) (by omega)) (lc rfl (lc rfl (lc rfl (lc rfl ln))))
theorem in_X3_X3_ofSection : ∀ w ∈ u_ws RX3 TX3 2, w ∈ wsX3_ofSection := by decide +kernel
theorem fk_X3_ofSection_10 : Cond.fieldLink RX3 10 (TX3 0).1 (TX3 0).2.1 (TX3 0).2.2.1 ∈ wsX3_ofSection := by decide +kernel
theorem in_X0_X3_ofSection : ∀ w ∈ u_ws RX0 TX0 4, w ∈ wsX3_ofSection := by decide +kernel
theorem fk_X3_ofSection_31 : Cond.fieldLink RX3 31 (TX0 0).1 (TX0 0).2.1 (TX0 0).2.2.1 ∈ wsX3_ofSection := by decide +kernel
theorem in_X1_X3_ofSection : ∀ w ∈ u_ws RX1 TX1 10, w ∈ wsX3_ofSection := by decide +kernel
theorem fk_X3_ofSection_35 : Cond.fieldLink RX3 35 (TX1 0).1 (TX1 0).2.1 (TX1 0).2.2.1 ∈ wsX3_ofSection := by decide +kernel
theorem fk_X3_ofSection_41 : Cond.fieldLink RX3 41 (TX1 1).1 (TX1 1).2.1 (TX1 1).2.2.1 ∈ wsX3_ofSection := by decide +kernel
theorem fk_X3_ofSection_44 : Cond.fieldLink RX3 44 (TX1 2).1 (TX1 2).2.1 (TX1 2).2.2.1 ∈ wsX3_ofSection := by decide +kernel
set_option maxRecDepth 100000 in
set_option maxHeartbeats 4000000 in
theorem k_X3_ofSection (l : Launch) (D : va_G) (cI cZ cT : ClassId) (c : Nat) (a b : Nat → Nat) (t g t2 g2 : Nat → Nat → Int32) (nT nS nW : Nat) (ok : Ok t g nT nS nW) (k : Nat) (hk : k < 20) (w : Int32) (hw : m_in w 0 4 = 1) : CI l D kCl (kTy cI cZ cT) yX3_ofSection wsX3_ofSection ({ frames := 3, cells := 0, slots := 0, locals := 67 }) 0 0 [.ref c, .int (nI k), .int w] (WB cI cZ cT c a b t g t2 g2) (S := Unit) (fun r _ => r = q_sec t g nT nW k w) (fun _ => WB cI cZ cT c a b t g t2 g2) := by
  refine CI_of (own := RX3) (by decide) rfl rfl (Nat.le_of_ble_eq_true rfl) rfl (fun X A hC hE => ?_)
  obtain ⟨hT, hT4, hS, hS4, hW, hW3, hz, hb⟩ := id ok
  refine V_iload_n hC dX3_ofSection_0 rfl rfl rfl ?_
  refine V_callVS0 (n := 1) hC dX3_ofSection_1 (k_X3_needSection l D cI cZ cT _ hk) gX3_ofSection_X3_needSection rfl ⟨rfl, rfl⟩ (by decide +kernel) ⟨Nat.le_of_ble_eq_true rfl, Nat.le_of_ble_eq_true rfl⟩ ⟨Nat.le_of_ble_eq_true rfl, Nat.le_of_ble_eq_true rfl⟩ rfl rfl (by exact Nat.le_of_ble_eq_true rfl) rfl (fun u_1 h_1 => ?_)
  refine V_iload_n hC dX3_ofSection_4 rfl rfl rfl ?_
  refine V_iconst (v := 0) hC dX3_ofSection_5 (by decide) rfl ?_
  refine V_iconst (v := 4) hC dX3_ofSection_6 (by decide) rfl ?_
  refine V_callIS0 (n := 3) hC dX3_ofSection_7 (k_X3_isWithin l D cI cZ cT _ _ _) gX3_ofSection_X3_isWithin rfl ⟨rfl, rfl⟩ (by decide +kernel) ⟨Nat.le_of_ble_eq_true rfl, Nat.le_of_ble_eq_true rfl⟩ ⟨Nat.le_of_ble_eq_true rfl, Nat.le_of_ble_eq_true rfl⟩ rfl rfl (by exact Nat.le_of_ble_eq_true rfl) rfl (fun r_7 u_7 h_7 => ?_)
  subst h_7
  refine V_callVS0 (n := 1) hC dX3_ofSection_10 (k_X3_need l D cI cZ cT _ (by rw [hw]; decide)) gX3_ofSection_X3_need rfl ⟨rfl, rfl⟩ (by decide +kernel) ⟨Nat.le_of_ble_eq_true rfl, Nat.le_of_ble_eq_true rfl⟩ ⟨Nat.le_of_ble_eq_true rfl, Nat.le_of_ble_eq_true rfl⟩ rfl rfl (by exact Nat.le_of_ble_eq_true rfl) rfl (fun u_10 h_10 => ?_)
  refine V_iload_n hC dX3_ofSection_13 rfl rfl rfl ?_
  by_cases w_0 : w = 0
  · subst w_0
    refine V_tableIn (tgt := 44) (off := 30) hC dX3_ofSection_14 (by decide) (by decide) (by decide) (by decide) ?_
    refine V_aload_n hC dX3_ofSection_44 rfl rfl rfl ?_
    refine V_get (q0 := 0) (C := RX3) (T := TX3) (N := 2) hC dX3_ofSection_45 in_X3_X3_ofSection rfl rfl 0 (Nat.le_of_ble_eq_true rfl) fk_X3_ofSection_10 rfl rfl ?_
    refine V_get (q0 := 5) (C := RX0) (T := TX0) (N := 4) hC dX3_ofSection_48 in_X0_X3_ofSection rfl rfl 0 (Nat.le_of_ble_eq_true rfl) fk_X3_ofSection_31 rfl rfl ?_
    refine V_get (q0 := 6) (C := RX1) (T := TX1) (N := 10) hC dX3_ofSection_51 in_X1_X3_ofSection rfl rfl 0 (Nat.le_of_ble_eq_true rfl) fk_X3_ofSection_35 rfl rfl ?_
    refine V_iload_n hC dX3_ofSection_54 rfl rfl rfl ?_
    refine V_iald (q0 := 7) hC dX3_ofSection_55 rfl 0 rfl rfl hk (by decide) rfl ?_
    exact hE _ () _ _ _ dX3_ofSection_56 rfl rfl (by first | rfl | (simp [q_sec, *]; done))
  by_cases w_1 : w = 1
  · subst w_1
    refine V_tableIn (tgt := 57) (off := 43) hC dX3_ofSection_14 (by decide) (by decide) (by decide) (by decide) ?_
    refine V_aload_n hC dX3_ofSection_57 rfl rfl rfl ?_
    refine V_get (q0 := 0) (C := RX3) (T := TX3) (N := 2) hC dX3_ofSection_58 in_X3_X3_ofSection rfl rfl 0 (Nat.le_of_ble_eq_true rfl) fk_X3_ofSection_10 rfl rfl ?_
    refine V_get (q0 := 5) (C := RX0) (T := TX0) (N := 4) hC dX3_ofSection_61 in_X0_X3_ofSection rfl rfl 0 (Nat.le_of_ble_eq_true rfl) fk_X3_ofSection_31 rfl rfl ?_
    refine V_get (q0 := 6) (C := RX1) (T := TX1) (N := 10) hC dX3_ofSection_64 in_X1_X3_ofSection rfl rfl 1 (Nat.le_of_ble_eq_true rfl) fk_X3_ofSection_41 rfl rfl ?_
    refine V_iload_n hC dX3_ofSection_67 rfl rfl rfl ?_
    refine V_iald (q0 := 8) hC dX3_ofSection_68 rfl 0 rfl rfl hk (by decide) rfl ?_
    exact hE _ () _ _ _ dX3_ofSection_69 rfl rfl (by first | rfl | (simp [q_sec, *]; done))
  by_cases w_2 : w = 2
  · subst w_2
    refine V_tableIn (tgt := 70) (off := 56) hC dX3_ofSection_14 (by decide) (by decide) (by decide) (by decide) ?_
    refine V_aload_n hC dX3_ofSection_70 rfl rfl rfl ?_
    refine V_get (q0 := 0) (C := RX3) (T := TX3) (N := 2) hC dX3_ofSection_71 in_X3_X3_ofSection rfl rfl 0 (Nat.le_of_ble_eq_true rfl) fk_X3_ofSection_10 rfl rfl ?_
    refine V_get (q0 := 5) (C := RX0) (T := TX0) (N := 4) hC dX3_ofSection_74 in_X0_X3_ofSection rfl rfl 0 (Nat.le_of_ble_eq_true rfl) fk_X3_ofSection_31 rfl rfl ?_
    refine V_get (q0 := 6) (C := RX1) (T := TX1) (N := 10) hC dX3_ofSection_77 in_X1_X3_ofSection rfl rfl 2 (Nat.le_of_ble_eq_true rfl) fk_X3_ofSection_44 rfl rfl ?_
    refine V_iload_n hC dX3_ofSection_80 rfl rfl rfl ?_
    refine V_zald (q0 := 9) hC dX3_ofSection_81 rfl 1 rfl rfl hk (by decide) rfl ?_
    refine V_if_eq (tgt := 89) hC dX3_ofSection_82 (by decide) rfl (fun c_82 => ?_) (fun c_82 => ?_)
    · refine V_iconst (v := 0) hC dX3_ofSection_89 (by decide) rfl ?_
      exact hE _ () _ _ _ dX3_ofSection_90 rfl rfl (by first | rfl | (simp [q_sec, *]; done))
    · refine V_iconst (v := 1) hC dX3_ofSection_85 (by decide) rfl ?_
      refine V_goto (tgt := 90) hC dX3_ofSection_86 (by decide) ?_
      exact hE _ () _ _ _ dX3_ofSection_90 rfl rfl (by first | rfl | (simp [q_sec, *]; done))
  by_cases w_3 : w = 3
  · subst w_3
    refine V_tableIn (tgt := 91) (off := 77) hC dX3_ofSection_14 (by decide) (by decide) (by decide) (by decide) ?_
    refine V_aload_n hC dX3_ofSection_91 rfl rfl rfl ?_
    refine V_get (q0 := 0) (C := RX3) (T := TX3) (N := 2) hC dX3_ofSection_92 in_X3_X3_ofSection rfl rfl 0 (Nat.le_of_ble_eq_true rfl) fk_X3_ofSection_10 rfl rfl ?_
    refine V_iload_n hC dX3_ofSection_95 rfl rfl rfl ?_
    refine V_iload_n hC dX3_ofSection_96 rfl rfl rfl ?_
    refine V_callIVf (q0 := 4) (n := 2) hC dX3_ofSection_97 (k_X0_countOn l D cI cZ cT a _ _ _ _ _ hT hT4) gX3_ofSection_X0_countOn rfl ⟨rfl, rfl⟩ (by decide +kernel) ⟨Nat.le_of_ble_eq_true rfl, Nat.le_of_ble_eq_true rfl⟩ ⟨Nat.le_of_ble_eq_true rfl, Nat.le_of_ble_eq_true rfl⟩ WB_a.symm rfl rfl rfl rfl (by exact Nat.le_of_ble_eq_true rfl) rfl (fun r_97 u_97 h_97 => ?_)
    subst h_97
    refine V_ws WB_a ?_
    exact hE _ () _ _ _ dX3_ofSection_100 rfl rfl (by first | rfl | (simp [q_sec, *]; done))
  have s_0 := sw_no w_0 (z := 0) (by decide)
  have s_1 := sw_no w_1 (z := 1) (by decide)
  have s_2 := sw_no w_2 (z := 2) (by decide)
  have s_3 := sw_no w_3 (z := 3) (by decide)
  refine V_tableOut (tgt := 101) hC dX3_ofSection_14 (by omega) (by decide) ?_
  refine V_aload_n hC dX3_ofSection_101 rfl rfl rfl ?_
  refine V_get (q0 := 0) (C := RX3) (T := TX3) (N := 2) hC dX3_ofSection_102 in_X3_X3_ofSection rfl rfl 0 (Nat.le_of_ble_eq_true rfl) fk_X3_ofSection_10 rfl rfl ?_
  refine V_get (q0 := 5) (C := RX0) (T := TX0) (N := 4) hC dX3_ofSection_105 in_X0_X3_ofSection rfl rfl 0 (Nat.le_of_ble_eq_true rfl) fk_X3_ofSection_31 rfl rfl ?_
  refine V_iload_n hC dX3_ofSection_108 rfl rfl rfl ?_
  refine V_callIVf (q0 := 5) (n := 1) hC dX3_ofSection_109 (k_X1_hasWorksOn l D cI cZ cT a _ _ _ _ hW hW3) gX3_ofSection_X1_hasWorksOn rfl ⟨rfl, rfl⟩ (by decide +kernel) ⟨Nat.le_of_ble_eq_true rfl, Nat.le_of_ble_eq_true rfl⟩ ⟨Nat.le_of_ble_eq_true rfl, Nat.le_of_ble_eq_true rfl⟩ WB_a.symm rfl rfl rfl rfl (by exact Nat.le_of_ble_eq_true rfl) rfl (fun r_109 u_109 h_109 => ?_)
  refine V_ws WB_a ?_
  have e_109 := m_hw_eq h_109
  subst e_109
  refine V_if_eq (tgt := 119) hC dX3_ofSection_112 (by decide) rfl (fun c_112 => ?_) (fun c_112 => ?_)
  · refine V_iconst (v := 0) hC dX3_ofSection_119 (by decide) rfl ?_
    exact hE _ () _ _ _ dX3_ofSection_120 rfl rfl (by first | rfl | (simp [q_sec, *]; done))
  · refine V_iconst (v := 1) hC dX3_ofSection_115 (by decide) rfl ?_
    refine V_goto (tgt := 120) hC dX3_ofSection_116 (by decide) ?_
    exact hE _ () _ _ _ dX3_ofSection_120 rfl rfl (by first | rfl | (simp [q_sec, *]; done))
theorem in_X3_X3_ofTrain : ∀ w ∈ u_ws RX3 TX3 2, w ∈ wsX3_ofTrain := by decide +kernel
theorem fk_X3_ofTrain_10 : Cond.fieldLink RX3 10 (TX3 0).1 (TX3 0).2.1 (TX3 0).2.2.1 ∈ wsX3_ofTrain := by decide +kernel
theorem in_X0_X3_ofTrain : ∀ w ∈ u_ws RX0 TX0 4, w ∈ wsX3_ofTrain := by decide +kernel
theorem fk_X3_ofTrain_80 : Cond.fieldLink RX3 80 (TX0 1).1 (TX0 1).2.1 (TX0 1).2.2.1 ∈ wsX3_ofTrain := by decide +kernel
theorem fk_X3_ofTrain_31 : Cond.fieldLink RX3 31 (TX0 0).1 (TX0 0).2.1 (TX0 0).2.2.1 ∈ wsX3_ofTrain := by decide +kernel
theorem in_X2_X3_ofTrain : ∀ w ∈ u_ws RX2 TX2 18, w ∈ wsX3_ofTrain := by decide +kernel
theorem fk_X3_ofTrain_116 : Cond.fieldLink RX3 116 (TX2 8).1 (TX2 8).2.1 (TX2 8).2.2.1 ∈ wsX3_ofTrain := by decide +kernel
set_option maxRecDepth 100000 in
set_option maxHeartbeats 4000000 in
theorem k_X3_ofTrain (l : Launch) (D : va_G) (cI cZ cT : ClassId) (c : Nat) (a b : Nat → Nat) (t g t2 g2 : Nat → Nat → Int32) (nT nS nW : Nat) (ok : Ok t g nT nS nW) (i : Nat) (hi : i < nT) (w : Int32) (hw : m_in w 0 15 = 1) : CI l D kCl (kTy cI cZ cT) yX3_ofTrain wsX3_ofTrain ({ frames := 2, cells := 0, slots := 0, locals := 42 }) 0 0 [.ref c, .int (nI i), .int w] (WB cI cZ cT c a b t g t2 g2) (S := Unit) (fun r _ => r = q_trn t g nS i w) (fun _ => WB cI cZ cT c a b t g t2 g2) := by
  refine CI_of (own := RX3) (by decide) rfl rfl (Nat.le_of_ble_eq_true rfl) rfl (fun X A hC hE => ?_)
  obtain ⟨hT, hT4, hS, hS4, hW, hW3, hz, hb⟩ := id ok
  have hi4 : i < 4 := Nat.lt_of_lt_of_le hi hT4
  refine V_aload_n hC dX3_ofTrain_0 rfl rfl rfl ?_
  refine V_iload_n hC dX3_ofTrain_1 rfl rfl rfl ?_
  refine V_callVV (q0 := 0) (n := 1) hC dX3_ofTrain_2 (k_X3_needTrain l D cI cZ cT c a b _ _ _ _ _ _ _ ok _ hi) gX3_ofTrain_X3_needTrain rfl ⟨rfl, rfl⟩ (by decide +kernel) ⟨Nat.le_of_ble_eq_true rfl, Nat.le_of_ble_eq_true rfl⟩ ⟨Nat.le_of_ble_eq_true rfl, Nat.le_of_ble_eq_true rfl⟩ rfl rfl rfl rfl (by exact Nat.le_of_ble_eq_true rfl) rfl (fun u_2 h_2 => ?_)
  refine V_iload_n hC dX3_ofTrain_5 rfl rfl rfl ?_
  refine V_iconst (v := 0) hC dX3_ofTrain_6 (by decide) rfl ?_
  refine V_bipush (v := 15) hC dX3_ofTrain_7 (by decide) rfl ?_
  refine V_callIS0 (n := 3) hC dX3_ofTrain_9 (k_X3_isWithin l D cI cZ cT _ _ _) gX3_ofTrain_X3_isWithin rfl ⟨rfl, rfl⟩ (by decide +kernel) ⟨Nat.le_of_ble_eq_true rfl, Nat.le_of_ble_eq_true rfl⟩ ⟨Nat.le_of_ble_eq_true rfl, Nat.le_of_ble_eq_true rfl⟩ rfl rfl (by exact Nat.le_of_ble_eq_true rfl) rfl (fun r_9 u_9 h_9 => ?_)
  subst h_9
  refine V_callVS0 (n := 1) hC dX3_ofTrain_12 (k_X3_need l D cI cZ cT _ (by rw [hw]; decide)) gX3_ofTrain_X3_need rfl ⟨rfl, rfl⟩ (by decide +kernel) ⟨Nat.le_of_ble_eq_true rfl, Nat.le_of_ble_eq_true rfl⟩ ⟨Nat.le_of_ble_eq_true rfl, Nat.le_of_ble_eq_true rfl⟩ rfl rfl (by exact Nat.le_of_ble_eq_true rfl) rfl (fun u_12 h_12 => ?_)
  refine V_iload_n hC dX3_ofTrain_15 rfl rfl rfl ?_
  refine V_bipush (v := 6) hC dX3_ofTrain_16 (by decide) rfl ?_
  refine V_icmp_ne (tgt := 44) hC dX3_ofTrain_18 (by decide) rfl (fun c_18 => ?_) (fun c_18 => ?_)
  · refine V_iload_n hC dX3_ofTrain_44 rfl rfl rfl ?_
    refine V_bipush (v := 15) hC dX3_ofTrain_45 (by decide) rfl ?_
    refine V_icmp_ne (tgt := 59) hC dX3_ofTrain_47 (by decide) rfl (fun c_47 => ?_) (fun c_47 => ?_)
    · refine V_iload_n hC dX3_ofTrain_59 rfl rfl rfl ?_
      refine V_bipush (v := 8) hC dX3_ofTrain_60 (by decide) rfl ?_
      refine V_icmp_ge (tgt := 81) hC dX3_ofTrain_62 (by decide) rfl (fun c_62 => ?_) (fun c_62 => ?_)
      · refine V_aload_n hC dX3_ofTrain_81 rfl rfl rfl ?_
        refine V_get (q0 := 0) (C := RX3) (T := TX3) (N := 2) hC dX3_ofTrain_82 in_X3_X3_ofTrain rfl rfl 0 (Nat.le_of_ble_eq_true rfl) fk_X3_ofTrain_10 rfl rfl ?_
        refine V_get (q0 := 5) (C := RX0) (T := TX0) (N := 4) hC dX3_ofTrain_85 in_X0_X3_ofTrain rfl rfl 1 (Nat.le_of_ble_eq_true rfl) fk_X3_ofTrain_80 rfl rfl ?_
        refine V_iload_n hC dX3_ofTrain_88 rfl rfl rfl ?_
        refine V_aald (q0 := 15) hC dX3_ofTrain_89 rfl 2 rfl rfl hi4 (by decide) (trA_at hi4) rfl ?_
        refine V_iload_n hC dX3_ofTrain_90 rfl rfl rfl ?_
        refine V_callIVf (n := 1) hC dX3_ofTrain_91 (k_X2_numberKept l D cI cZ cT a _ _ _ hi4 _) gX3_ofTrain_X2_numberKept rfl ⟨rfl, rfl⟩ (by decide +kernel) ⟨Nat.le_of_ble_eq_true rfl, Nat.le_of_ble_eq_true rfl⟩ ⟨Nat.le_of_ble_eq_true rfl, Nat.le_of_ble_eq_true rfl⟩ WB_a.symm (Wl_t hi4) rfl rfl rfl (by exact Nat.le_of_ble_eq_true rfl) rfl (fun r_91 u_91 h_91 => ?_)
        subst h_91
        refine V_ws WB_a ?_
        exact hE _ () _ _ _ dX3_ofTrain_94 rfl rfl (by rw [q_trn, if_neg c_18, if_neg c_47]; first | (rw [if_pos c_62]; done) | (rw [if_neg c_62]; done))
      · refine V_aload_n hC dX3_ofTrain_65 rfl rfl rfl ?_
        refine V_get (q0 := 0) (C := RX3) (T := TX3) (N := 2) hC dX3_ofTrain_66 in_X3_X3_ofTrain rfl rfl 0 (Nat.le_of_ble_eq_true rfl) fk_X3_ofTrain_10 rfl rfl ?_
        refine V_get (q0 := 5) (C := RX0) (T := TX0) (N := 4) hC dX3_ofTrain_69 in_X0_X3_ofTrain rfl rfl 1 (Nat.le_of_ble_eq_true rfl) fk_X3_ofTrain_80 rfl rfl ?_
        refine V_iload_n hC dX3_ofTrain_72 rfl rfl rfl ?_
        refine V_aald (q0 := 15) hC dX3_ofTrain_73 rfl 2 rfl rfl hi4 (by decide) (trA_at hi4) rfl ?_
        refine V_iload_n hC dX3_ofTrain_74 rfl rfl rfl ?_
        refine V_callIVf (n := 1) hC dX3_ofTrain_75 (k_X2_numberNow l D cI cZ cT a _ _ _ hi4 _) gX3_ofTrain_X2_numberNow rfl ⟨rfl, rfl⟩ (by decide +kernel) ⟨Nat.le_of_ble_eq_true rfl, Nat.le_of_ble_eq_true rfl⟩ ⟨Nat.le_of_ble_eq_true rfl, Nat.le_of_ble_eq_true rfl⟩ WB_a.symm (Wl_t hi4) rfl rfl rfl (by exact Nat.le_of_ble_eq_true rfl) rfl (fun r_75 u_75 h_75 => ?_)
        subst h_75
        refine V_ws WB_a ?_
        refine V_goto (tgt := 94) hC dX3_ofTrain_78 (by decide) ?_
        exact hE _ () _ _ _ dX3_ofTrain_94 rfl rfl (by rw [q_trn, if_neg c_18, if_neg c_47]; first | (rw [if_pos c_62]; done) | (rw [if_neg c_62]; done))
    · refine V_aload_n hC dX3_ofTrain_50 rfl rfl rfl ?_
      refine V_get (q0 := 0) (C := RX3) (T := TX3) (N := 2) hC dX3_ofTrain_51 in_X3_X3_ofTrain rfl rfl 0 (Nat.le_of_ble_eq_true rfl) fk_X3_ofTrain_10 rfl rfl ?_
      refine V_iload_n hC dX3_ofTrain_54 rfl rfl rfl ?_
      refine V_callIVf (q0 := 4) (n := 1) hC dX3_ofTrain_55 (k_X0_aheadOf l D cI cZ cT a _ _ _ hi4) gX3_ofTrain_X0_aheadOf rfl ⟨rfl, rfl⟩ (by decide +kernel) ⟨Nat.le_of_ble_eq_true rfl, Nat.le_of_ble_eq_true rfl⟩ ⟨Nat.le_of_ble_eq_true rfl, Nat.le_of_ble_eq_true rfl⟩ WB_a.symm rfl rfl rfl rfl (by exact Nat.le_of_ble_eq_true rfl) rfl (fun r_55 u_55 h_55 => ?_)
      subst h_55
      refine V_ws WB_a ?_
      exact hE _ () _ _ _ dX3_ofTrain_58 rfl rfl (by rw [q_trn, if_neg c_18, if_pos c_47])
  · refine V_aload_n hC dX3_ofTrain_21 rfl rfl rfl ?_
    refine V_get (q0 := 0) (C := RX3) (T := TX3) (N := 2) hC dX3_ofTrain_22 in_X3_X3_ofTrain rfl rfl 0 (Nat.le_of_ble_eq_true rfl) fk_X3_ofTrain_10 rfl rfl ?_
    refine V_get (q0 := 5) (C := RX0) (T := TX0) (N := 4) hC dX3_ofTrain_25 in_X0_X3_ofTrain rfl rfl 0 (Nat.le_of_ble_eq_true rfl) fk_X3_ofTrain_31 rfl rfl ?_
    refine V_aload_n hC dX3_ofTrain_28 rfl rfl rfl ?_
    refine V_get (q0 := 0) (C := RX3) (T := TX3) (N := 2) hC dX3_ofTrain_29 in_X3_X3_ofTrain rfl rfl 0 (Nat.le_of_ble_eq_true rfl) fk_X3_ofTrain_10 rfl rfl ?_
    refine V_get (q0 := 5) (C := RX0) (T := TX0) (N := 4) hC dX3_ofTrain_32 in_X0_X3_ofTrain rfl rfl 1 (Nat.le_of_ble_eq_true rfl) fk_X3_ofTrain_80 rfl rfl ?_
    refine V_iload_n hC dX3_ofTrain_35 rfl rfl rfl ?_
    refine V_aald (q0 := 15) hC dX3_ofTrain_36 rfl 2 rfl rfl hi4 (by decide) (trA_at hi4) rfl ?_
    refine V_get (C := RX2) (T := TX2) (N := 18) hC dX3_ofTrain_37 in_X2_X3_ofTrain (WB_ta hi4) rfl 8 (Nat.le_of_ble_eq_true rfl) fk_X3_ofTrain_116 rfl rfl ?_
    refine V_callIVf (q0 := 5) (n := 1) hC dX3_ofTrain_40 (k_X1_nextStation l D cI cZ cT a _ _ _ _ hS hS4) gX3_ofTrain_X1_nextStation rfl ⟨rfl, rfl⟩ (by decide +kernel) ⟨Nat.le_of_ble_eq_true rfl, Nat.le_of_ble_eq_true rfl⟩ ⟨Nat.le_of_ble_eq_true rfl, Nat.le_of_ble_eq_true rfl⟩ WB_a.symm rfl rfl rfl rfl (by exact Nat.le_of_ble_eq_true rfl) rfl (fun r_40 u_40 h_40 => ?_)
    subst h_40
    refine V_ws WB_a ?_
    exact hE _ () _ _ _ dX3_ofTrain_43 rfl rfl (by rw [q_trn, if_pos c_18])
theorem in_X3_X3_stops : ∀ w ∈ u_ws RX3 TX3 2, w ∈ wsX3_stops := by decide +kernel
theorem fk_X3_stops_10 : Cond.fieldLink RX3 10 (TX3 0).1 (TX3 0).2.1 (TX3 0).2.2.1 ∈ wsX3_stops := by decide +kernel
theorem in_X0_X3_stops : ∀ w ∈ u_ws RX0 TX0 4, w ∈ wsX3_stops := by decide +kernel
theorem fk_X3_stops_80 : Cond.fieldLink RX3 80 (TX0 1).1 (TX0 1).2.1 (TX0 1).2.2.1 ∈ wsX3_stops := by decide +kernel
set_option maxRecDepth 100000 in
set_option maxHeartbeats 4000000 in
theorem k_X3_stops (l : Launch) (D : va_G) (cI cZ cT : ClassId) (c : Nat) (a b : Nat → Nat) (t g t2 g2 : Nat → Nat → Int32) (nT nS nW : Nat) (ok : Ok t g nT nS nW) (i : Nat) (hi : i < nT) (v : Int32) (hv : m_in v 0 40 = 1) : CI l D kCl (kTy cI cZ cT) yX3_stops wsX3_stops ({ frames := 2, cells := 0, slots := 0, locals := 42 }) 0 0 [.ref c, .int (nI i), .int v] (WB cI cZ cT c a b t g t2 g2) (S := Unit) (fun r _ => r = q_stp t g i v) (fun _ => WB cI cZ cT c a b t g t2 g2) := by
  refine CI_of (own := RX3) (by decide) rfl rfl (Nat.le_of_ble_eq_true rfl) rfl (fun X A hC hE => ?_)
  obtain ⟨hT, hT4, hS, hS4, hW, hW3, hz, hb⟩ := id ok
  have hi4 : i < 4 := Nat.lt_of_lt_of_le hi hT4
  refine V_aload_n hC dX3_stops_0 rfl rfl rfl ?_
  refine V_iload_n hC dX3_stops_1 rfl rfl rfl ?_
  refine V_callVV (q0 := 0) (n := 1) hC dX3_stops_2 (k_X3_needTrain l D cI cZ cT c a b _ _ _ _ _ _ _ ok _ hi) gX3_stops_X3_needTrain rfl ⟨rfl, rfl⟩ (by decide +kernel) ⟨Nat.le_of_ble_eq_true rfl, Nat.le_of_ble_eq_true rfl⟩ ⟨Nat.le_of_ble_eq_true rfl, Nat.le_of_ble_eq_true rfl⟩ rfl rfl rfl rfl (by exact Nat.le_of_ble_eq_true rfl) rfl (fun u_2 h_2 => ?_)
  refine V_iload_n hC dX3_stops_5 rfl rfl rfl ?_
  refine V_iconst (v := 0) hC dX3_stops_6 (by decide) rfl ?_
  refine V_bipush (v := 40) hC dX3_stops_7 (by decide) rfl ?_
  refine V_callIS0 (n := 3) hC dX3_stops_9 (k_X3_isWithin l D cI cZ cT _ _ _) gX3_stops_X3_isWithin rfl ⟨rfl, rfl⟩ (by decide +kernel) ⟨Nat.le_of_ble_eq_true rfl, Nat.le_of_ble_eq_true rfl⟩ ⟨Nat.le_of_ble_eq_true rfl, Nat.le_of_ble_eq_true rfl⟩ rfl rfl (by exact Nat.le_of_ble_eq_true rfl) rfl (fun r_9 u_9 h_9 => ?_)
  subst h_9
  refine V_callVS0 (n := 1) hC dX3_stops_12 (k_X3_need l D cI cZ cT _ (by rw [hv]; decide)) gX3_stops_X3_need rfl ⟨rfl, rfl⟩ (by decide +kernel) ⟨Nat.le_of_ble_eq_true rfl, Nat.le_of_ble_eq_true rfl⟩ ⟨Nat.le_of_ble_eq_true rfl, Nat.le_of_ble_eq_true rfl⟩ rfl rfl (by exact Nat.le_of_ble_eq_true rfl) rfl (fun u_12 h_12 => ?_)
  refine V_iload_n hC dX3_stops_15 rfl rfl rfl ?_
  refine V_aload_n hC dX3_stops_16 rfl rfl rfl ?_
  refine V_get (q0 := 0) (C := RX3) (T := TX3) (N := 2) hC dX3_stops_17 in_X3_X3_stops rfl rfl 0 (Nat.le_of_ble_eq_true rfl) fk_X3_stops_10 rfl rfl ?_
  refine V_aload_n hC dX3_stops_20 rfl rfl rfl ?_
  refine V_get (q0 := 0) (C := RX3) (T := TX3) (N := 2) hC dX3_stops_21 in_X3_X3_stops rfl rfl 0 (Nat.le_of_ble_eq_true rfl) fk_X3_stops_10 rfl rfl ?_
  refine V_get (q0 := 5) (C := RX0) (T := TX0) (N := 4) hC dX3_stops_24 in_X0_X3_stops rfl rfl 1 (Nat.le_of_ble_eq_true rfl) fk_X3_stops_80 rfl rfl ?_
  refine V_iload_n hC dX3_stops_27 rfl rfl rfl ?_
  refine V_aald (q0 := 15) hC dX3_stops_28 rfl 2 rfl rfl hi4 (by decide) (trA_at hi4) rfl ?_
  refine V_callIVf (q0 := 4) (n := 1) hC dX3_stops_29 (k_X0_holdOf l D cI cZ cT a _ _ _ hi4) gX3_stops_X0_holdOf rfl ⟨rfl, rfl⟩ (by decide +kernel) ⟨Nat.le_of_ble_eq_true rfl, Nat.le_of_ble_eq_true rfl⟩ ⟨Nat.le_of_ble_eq_true rfl, Nat.le_of_ble_eq_true rfl⟩ WB_a.symm rfl rfl rfl rfl (by exact Nat.le_of_ble_eq_true rfl) rfl (fun r_29 u_29 h_29 => ?_)
  subst h_29
  refine V_ws WB_a ?_
  refine V_callIS0 (n := 2) hC dX3_stops_32 (k_X3_stopMetres l D cI cZ cT _ _) gX3_stops_X3_stopMetres rfl ⟨rfl, rfl⟩ (by decide +kernel) ⟨Nat.le_of_ble_eq_true rfl, Nat.le_of_ble_eq_true rfl⟩ ⟨Nat.le_of_ble_eq_true rfl, Nat.le_of_ble_eq_true rfl⟩ rfl rfl (by exact Nat.le_of_ble_eq_true rfl) rfl (fun r_32 u_32 h_32 => ?_)
  subst h_32
  exact hE _ () _ _ _ dX3_stops_35 rfl rfl (by first | rfl | (simp [*]; done))
theorem in_X3_X3_may : ∀ w ∈ u_ws RX3 TX3 2, w ∈ wsX3_may := by decide +kernel
theorem fk_X3_may_10 : Cond.fieldLink RX3 10 (TX3 0).1 (TX3 0).2.1 (TX3 0).2.2.1 ∈ wsX3_may := by decide +kernel
theorem in_X0_X3_may : ∀ w ∈ u_ws RX0 TX0 4, w ∈ wsX3_may := by decide +kernel
theorem fk_X3_may_80 : Cond.fieldLink RX3 80 (TX0 1).1 (TX0 1).2.1 (TX0 1).2.2.1 ∈ wsX3_may := by decide +kernel
theorem in_X2_X3_may : ∀ w ∈ u_ws RX2 TX2 18, w ∈ wsX3_may := by decide +kernel
theorem fk_X3_may_138 : Cond.fieldLink RX3 138 (TX2 9).1 (TX2 9).2.1 (TX2 9).2.2.1 ∈ wsX3_may := by decide +kernel
set_option maxRecDepth 100000 in
set_option maxHeartbeats 4000000 in
theorem k_X3_may (l : Launch) (D : va_G) (cI cZ cT : ClassId) (c : Nat) (a b : Nat → Nat) (t g t2 g2 : Nat → Nat → Int32) (nT nS nW : Nat) (ok : Ok t g nT nS nW) (i : Nat) (hi : i < nT) : CI l D kCl (kTy cI cZ cT) yX3_may wsX3_may ({ frames := 3, cells := 0, slots := 0, locals := 70 }) 0 0 [.ref c, .int (nI i)] (WB cI cZ cT c a b t g t2 g2) (S := Unit) (fun r _ => r = q_may t g nS i) (fun _ => WB cI cZ cT c a b t g t2 g2) := by
  refine CI_of (own := RX3) (by decide) rfl rfl (Nat.le_of_ble_eq_true rfl) rfl (fun X A hC hE => ?_)
  obtain ⟨hT, hT4, hS, hS4, hW, hW3, hz, hb⟩ := id ok
  have hi4 : i < 4 := Nat.lt_of_lt_of_le hi hT4
  refine V_aload_n hC dX3_may_0 rfl rfl rfl ?_
  refine V_iload_n hC dX3_may_1 rfl rfl rfl ?_
  refine V_callVV (q0 := 0) (n := 1) hC dX3_may_2 (k_X3_needTrain l D cI cZ cT c a b _ _ _ _ _ _ _ ok _ hi) gX3_may_X3_needTrain rfl ⟨rfl, rfl⟩ (by decide +kernel) ⟨Nat.le_of_ble_eq_true rfl, Nat.le_of_ble_eq_true rfl⟩ ⟨Nat.le_of_ble_eq_true rfl, Nat.le_of_ble_eq_true rfl⟩ rfl rfl rfl rfl (by exact Nat.le_of_ble_eq_true rfl) rfl (fun u_2 h_2 => ?_)
  refine V_aload_n hC dX3_may_5 rfl rfl rfl ?_
  refine V_get (q0 := 0) (C := RX3) (T := TX3) (N := 2) hC dX3_may_6 in_X3_X3_may rfl rfl 0 (Nat.le_of_ble_eq_true rfl) fk_X3_may_10 rfl rfl ?_
  refine V_get (q0 := 5) (C := RX0) (T := TX0) (N := 4) hC dX3_may_9 in_X0_X3_may rfl rfl 1 (Nat.le_of_ble_eq_true rfl) fk_X3_may_80 rfl rfl ?_
  refine V_iload_n hC dX3_may_12 rfl rfl rfl ?_
  refine V_aald (q0 := 15) hC dX3_may_13 rfl 2 rfl rfl hi4 (by decide) (trA_at hi4) rfl ?_
  refine V_get (C := RX2) (T := TX2) (N := 18) hC dX3_may_14 in_X2_X3_may (WB_ta hi4) rfl 9 (Nat.le_of_ble_eq_true rfl) fk_X3_may_138 rfl rfl ?_
  refine V_if_eq (tgt := 24) hC dX3_may_17 (by decide) rfl (fun c_17 => ?_) (fun c_17 => ?_)
  · refine V_aload_n hC dX3_may_24 rfl rfl rfl ?_
    refine V_get (q0 := 0) (C := RX3) (T := TX3) (N := 2) hC dX3_may_25 in_X3_X3_may rfl rfl 0 (Nat.le_of_ble_eq_true rfl) fk_X3_may_10 rfl rfl ?_
    refine V_aload_n hC dX3_may_28 rfl rfl rfl ?_
    refine V_get (q0 := 0) (C := RX3) (T := TX3) (N := 2) hC dX3_may_29 in_X3_X3_may rfl rfl 0 (Nat.le_of_ble_eq_true rfl) fk_X3_may_10 rfl rfl ?_
    refine V_get (q0 := 5) (C := RX0) (T := TX0) (N := 4) hC dX3_may_32 in_X0_X3_may rfl rfl 1 (Nat.le_of_ble_eq_true rfl) fk_X3_may_80 rfl rfl ?_
    refine V_iload_n hC dX3_may_35 rfl rfl rfl ?_
    refine V_aald (q0 := 15) hC dX3_may_36 rfl 2 rfl rfl hi4 (by decide) (trA_at hi4) rfl ?_
    refine V_callIVf (q0 := 4) (n := 1) hC dX3_may_37 (k_X0_allowedSpeed l D cI cZ cT a _ _ _ hi4 _ hS hS4) gX3_may_X0_allowedSpeed rfl ⟨rfl, rfl⟩ (by decide +kernel) ⟨Nat.le_of_ble_eq_true rfl, Nat.le_of_ble_eq_true rfl⟩ ⟨Nat.le_of_ble_eq_true rfl, Nat.le_of_ble_eq_true rfl⟩ WB_a.symm rfl rfl rfl rfl (by exact Nat.le_of_ble_eq_true rfl) rfl (fun r_37 u_37 h_37 => ?_)
    subst h_37
    refine V_ws WB_a ?_
    exact hE _ () _ _ _ dX3_may_40 rfl rfl (by simp [q_may, *])
  · refine V_iconst (v := 0) hC dX3_may_20 (by decide) rfl ?_
    refine V_goto (tgt := 40) hC dX3_may_21 (by decide) ?_
    exact hE _ () _ _ _ dX3_may_40 rfl rfl (by simp [q_may, *])
theorem in_X3_X3_why : ∀ w ∈ u_ws RX3 TX3 2, w ∈ wsX3_why := by decide +kernel
theorem fk_X3_why_10 : Cond.fieldLink RX3 10 (TX3 0).1 (TX3 0).2.1 (TX3 0).2.2.1 ∈ wsX3_why := by decide +kernel
theorem in_X0_X3_why : ∀ w ∈ u_ws RX0 TX0 4, w ∈ wsX3_why := by decide +kernel
theorem fk_X3_why_80 : Cond.fieldLink RX3 80 (TX0 1).1 (TX0 1).2.1 (TX0 1).2.2.1 ∈ wsX3_why := by decide +kernel
theorem in_X2_X3_why : ∀ w ∈ u_ws RX2 TX2 18, w ∈ wsX3_why := by decide +kernel
theorem fk_X3_why_138 : Cond.fieldLink RX3 138 (TX2 9).1 (TX2 9).2.1 (TX2 9).2.2.1 ∈ wsX3_why := by decide +kernel
set_option maxRecDepth 100000 in
set_option maxHeartbeats 4000000 in
theorem k_X3_why (l : Launch) (D : va_G) (cI cZ cT : ClassId) (c : Nat) (a b : Nat → Nat) (t g t2 g2 : Nat → Nat → Int32) (nT nS nW : Nat) (ok : Ok t g nT nS nW) (i : Nat) (hi : i < nT) : CI l D kCl (kTy cI cZ cT) yX3_why wsX3_why ({ frames := 4, cells := 0, slots := 0, locals := 90 }) 0 0 [.ref c, .int (nI i)] (WB cI cZ cT c a b t g t2 g2) (S := Unit) (fun r _ => r = q_why t g nW i) (fun _ => WB cI cZ cT c a b t g t2 g2) := by
  refine CI_of (own := RX3) (by decide) rfl rfl (Nat.le_of_ble_eq_true rfl) rfl (fun X A hC hE => ?_)
  obtain ⟨hT, hT4, hS, hS4, hW, hW3, hz, hb⟩ := id ok
  have hi4 : i < 4 := Nat.lt_of_lt_of_le hi hT4
  refine V_aload_n hC dX3_why_0 rfl rfl rfl ?_
  refine V_iload_n hC dX3_why_1 rfl rfl rfl ?_
  refine V_callVV (q0 := 0) (n := 1) hC dX3_why_2 (k_X3_needTrain l D cI cZ cT c a b _ _ _ _ _ _ _ ok _ hi) gX3_why_X3_needTrain rfl ⟨rfl, rfl⟩ (by decide +kernel) ⟨Nat.le_of_ble_eq_true rfl, Nat.le_of_ble_eq_true rfl⟩ ⟨Nat.le_of_ble_eq_true rfl, Nat.le_of_ble_eq_true rfl⟩ rfl rfl rfl rfl (by exact Nat.le_of_ble_eq_true rfl) rfl (fun u_2 h_2 => ?_)
  refine V_aload_n hC dX3_why_5 rfl rfl rfl ?_
  refine V_get (q0 := 0) (C := RX3) (T := TX3) (N := 2) hC dX3_why_6 in_X3_X3_why rfl rfl 0 (Nat.le_of_ble_eq_true rfl) fk_X3_why_10 rfl rfl ?_
  refine V_get (q0 := 5) (C := RX0) (T := TX0) (N := 4) hC dX3_why_9 in_X0_X3_why rfl rfl 1 (Nat.le_of_ble_eq_true rfl) fk_X3_why_80 rfl rfl ?_
  refine V_iload_n hC dX3_why_12 rfl rfl rfl ?_
  refine V_aald (q0 := 15) hC dX3_why_13 rfl 2 rfl rfl hi4 (by decide) (trA_at hi4) rfl ?_
  refine V_get (C := RX2) (T := TX2) (N := 18) hC dX3_why_14 in_X2_X3_why (WB_ta hi4) rfl 9 (Nat.le_of_ble_eq_true rfl) fk_X3_why_138 rfl rfl ?_
  refine V_if_eq (tgt := 24) hC dX3_why_17 (by decide) rfl (fun c_17 => ?_) (fun c_17 => ?_)
  · refine V_aload_n hC dX3_why_24 rfl rfl rfl ?_
    refine V_get (q0 := 0) (C := RX3) (T := TX3) (N := 2) hC dX3_why_25 in_X3_X3_why rfl rfl 0 (Nat.le_of_ble_eq_true rfl) fk_X3_why_10 rfl rfl ?_
    refine V_iload_n hC dX3_why_28 rfl rfl rfl ?_
    refine V_callIVf (q0 := 4) (n := 1) hC dX3_why_29 (k_X0_reasonOf l D cI cZ cT a _ _ _ hi4 _ hW hW3) gX3_why_X0_reasonOf rfl ⟨rfl, rfl⟩ (by decide +kernel) ⟨Nat.le_of_ble_eq_true rfl, Nat.le_of_ble_eq_true rfl⟩ ⟨Nat.le_of_ble_eq_true rfl, Nat.le_of_ble_eq_true rfl⟩ WB_a.symm rfl rfl rfl rfl (by exact Nat.le_of_ble_eq_true rfl) rfl (fun r_29 u_29 h_29 => ?_)
    subst h_29
    refine V_ws WB_a ?_
    exact hE _ () _ _ _ dX3_why_32 rfl rfl (by simp [q_why, *])
  · refine V_iconst (v := (-1)) hC dX3_why_20 (by decide) rfl ?_
    refine V_goto (tgt := 32) hC dX3_why_21 (by decide) ?_
    exact hE _ () _ _ _ dX3_why_32 rfl rfl (by simp [q_why, *])
theorem in_X3_X3_ofStation : ∀ w ∈ u_ws RX3 TX3 2, w ∈ wsX3_ofStation := by decide +kernel
theorem fk_X3_ofStation_10 : Cond.fieldLink RX3 10 (TX3 0).1 (TX3 0).2.1 (TX3 0).2.2.1 ∈ wsX3_ofStation := by decide +kernel
theorem in_X0_X3_ofStation : ∀ w ∈ u_ws RX0 TX0 4, w ∈ wsX3_ofStation := by decide +kernel
theorem fk_X3_ofStation_31 : Cond.fieldLink RX3 31 (TX0 0).1 (TX0 0).2.1 (TX0 0).2.2.1 ∈ wsX3_ofStation := by decide +kernel
theorem in_X1_X3_ofStation : ∀ w ∈ u_ws RX1 TX1 10, w ∈ wsX3_ofStation := by decide +kernel
theorem fk_X3_ofStation_52 : Cond.fieldLink RX3 52 (TX1 6).1 (TX1 6).2.1 (TX1 6).2.2.1 ∈ wsX3_ofStation := by decide +kernel
theorem fk_X3_ofStation_147 : Cond.fieldLink RX3 147 (TX1 3).1 (TX1 3).2.1 (TX1 3).2.2.1 ∈ wsX3_ofStation := by decide +kernel
theorem fk_X3_ofStation_150 : Cond.fieldLink RX3 150 (TX1 4).1 (TX1 4).2.1 (TX1 4).2.2.1 ∈ wsX3_ofStation := by decide +kernel
theorem fk_X3_ofStation_153 : Cond.fieldLink RX3 153 (TX1 5).1 (TX1 5).2.1 (TX1 5).2.2.1 ∈ wsX3_ofStation := by decide +kernel
set_option maxRecDepth 100000 in
set_option maxHeartbeats 4000000 in
theorem k_X3_ofStation (l : Launch) (D : va_G) (cI cZ cT : ClassId) (c : Nat) (a b : Nat → Nat) (t g t2 g2 : Nat → Nat → Int32) (nT nS nW : Nat) (ok : Ok t g nT nS nW) (k : Nat) (hk : k < nS) (w : Int32) (hw : w = 0 ∨ w = 1 ∨ w = 2) : CI l D kCl (kTy cI cZ cT) yX3_ofStation wsX3_ofStation ({ frames := 1, cells := 0, slots := 0, locals := 22 }) 0 0 [.ref c, .int (nI k), .int w] (WB cI cZ cT c a b t g t2 g2) (S := Unit) (fun r _ => r = q_stn g k w) (fun _ => WB cI cZ cT c a b t g t2 g2) := by
  refine CI_of (own := RX3) (by decide) rfl rfl (Nat.le_of_ble_eq_true rfl) rfl (fun X A hC hE => ?_)
  obtain ⟨hT, hT4, hS, hS4, hW, hW3, hz, hb⟩ := id ok
  have hk4 : k < 4 := Nat.lt_of_lt_of_le hk hS4
  refine V_iload_n hC dX3_ofStation_0 rfl rfl rfl ?_
  refine V_aload_n hC dX3_ofStation_1 rfl rfl rfl ?_
  refine V_get (q0 := 0) (C := RX3) (T := TX3) (N := 2) hC dX3_ofStation_2 in_X3_X3_ofStation rfl rfl 0 (Nat.le_of_ble_eq_true rfl) fk_X3_ofStation_10 rfl rfl ?_
  refine V_get (q0 := 5) (C := RX0) (T := TX0) (N := 4) hC dX3_ofStation_5 in_X0_X3_ofStation rfl rfl 0 (Nat.le_of_ble_eq_true rfl) fk_X3_ofStation_31 rfl rfl ?_
  refine V_get (q0 := 6) (C := RX1) (T := TX1) (N := 10) hC dX3_ofStation_8 in_X1_X3_ofStation rfl rfl 6 (Nat.le_of_ble_eq_true rfl) fk_X3_ofStation_52 rfl rfl ?_
  refine V_callVS0 (n := 2) hC dX3_ofStation_11 (k_X3_needIndex l D cI cZ cT _ _ (nI_pos (by omega)) (by rw [hS]; exact nI_lt hk (by omega))) gX3_ofStation_X3_needIndex rfl ⟨rfl, rfl⟩ (by decide +kernel) ⟨Nat.le_of_ble_eq_true rfl, Nat.le_of_ble_eq_true rfl⟩ ⟨Nat.le_of_ble_eq_true rfl, Nat.le_of_ble_eq_true rfl⟩ rfl rfl (by exact Nat.le_of_ble_eq_true rfl) rfl (fun u_11 h_11 => ?_)
  refine V_iload_n hC dX3_ofStation_14 rfl rfl rfl ?_
  refine V_iconst (v := 0) hC dX3_ofStation_15 (by decide) rfl ?_
  refine V_iconst (v := 2) hC dX3_ofStation_16 (by decide) rfl ?_
  refine V_callIS0 (n := 3) hC dX3_ofStation_17 (k_X3_isWithin l D cI cZ cT _ _ _) gX3_ofStation_X3_isWithin rfl ⟨rfl, rfl⟩ (by decide +kernel) ⟨Nat.le_of_ble_eq_true rfl, Nat.le_of_ble_eq_true rfl⟩ ⟨Nat.le_of_ble_eq_true rfl, Nat.le_of_ble_eq_true rfl⟩ rfl rfl (by exact Nat.le_of_ble_eq_true rfl) rfl (fun r_17 u_17 h_17 => ?_)
  subst h_17
  refine V_callVS0 (n := 1) hC dX3_ofStation_20 (k_X3_need l D cI cZ cT _ (by rcases hw with rfl | rfl | rfl <;> decide)) gX3_ofStation_X3_need rfl ⟨rfl, rfl⟩ (by decide +kernel) ⟨Nat.le_of_ble_eq_true rfl, Nat.le_of_ble_eq_true rfl⟩ ⟨Nat.le_of_ble_eq_true rfl, Nat.le_of_ble_eq_true rfl⟩ rfl rfl (by exact Nat.le_of_ble_eq_true rfl) rfl (fun u_20 h_20 => ?_)
  refine V_iload_n hC dX3_ofStation_23 rfl rfl rfl ?_
  rcases hw with rfl | rfl | rfl
  · refine V_lookup (tgt := 52) (off := 28) hC dX3_ofStation_24 (by decide) (by decide) (by decide) ?_
    refine V_aload_n hC dX3_ofStation_52 rfl rfl rfl ?_
    refine V_get (q0 := 0) (C := RX3) (T := TX3) (N := 2) hC dX3_ofStation_53 in_X3_X3_ofStation rfl rfl 0 (Nat.le_of_ble_eq_true rfl) fk_X3_ofStation_10 rfl rfl ?_
    refine V_get (q0 := 5) (C := RX0) (T := TX0) (N := 4) hC dX3_ofStation_56 in_X0_X3_ofStation rfl rfl 0 (Nat.le_of_ble_eq_true rfl) fk_X3_ofStation_31 rfl rfl ?_
    refine V_get (q0 := 6) (C := RX1) (T := TX1) (N := 10) hC dX3_ofStation_59 in_X1_X3_ofStation rfl rfl 3 (Nat.le_of_ble_eq_true rfl) fk_X3_ofStation_147 rfl rfl ?_
    refine V_iload_n hC dX3_ofStation_62 rfl rfl rfl ?_
    refine V_iald (q0 := 10) hC dX3_ofStation_63 rfl 0 rfl rfl hk4 (by decide) rfl ?_
    exact hE _ () _ _ _ dX3_ofStation_64 rfl rfl (by first | rfl | (simp [*]; done))
  · refine V_lookup (tgt := 65) (off := 41) hC dX3_ofStation_24 (by decide) (by decide) (by decide) ?_
    refine V_aload_n hC dX3_ofStation_65 rfl rfl rfl ?_
    refine V_get (q0 := 0) (C := RX3) (T := TX3) (N := 2) hC dX3_ofStation_66 in_X3_X3_ofStation rfl rfl 0 (Nat.le_of_ble_eq_true rfl) fk_X3_ofStation_10 rfl rfl ?_
    refine V_get (q0 := 5) (C := RX0) (T := TX0) (N := 4) hC dX3_ofStation_69 in_X0_X3_ofStation rfl rfl 0 (Nat.le_of_ble_eq_true rfl) fk_X3_ofStation_31 rfl rfl ?_
    refine V_get (q0 := 6) (C := RX1) (T := TX1) (N := 10) hC dX3_ofStation_72 in_X1_X3_ofStation rfl rfl 4 (Nat.le_of_ble_eq_true rfl) fk_X3_ofStation_150 rfl rfl ?_
    refine V_iload_n hC dX3_ofStation_75 rfl rfl rfl ?_
    refine V_iald (q0 := 11) hC dX3_ofStation_76 rfl 0 rfl rfl hk4 (by decide) rfl ?_
    exact hE _ () _ _ _ dX3_ofStation_77 rfl rfl (by first | rfl | (simp [*]; done))
  · refine V_lookup (tgt := 78) (off := 54) hC dX3_ofStation_24 (by decide) (by decide) (by decide) ?_
    refine V_aload_n hC dX3_ofStation_78 rfl rfl rfl ?_
    refine V_get (q0 := 0) (C := RX3) (T := TX3) (N := 2) hC dX3_ofStation_79 in_X3_X3_ofStation rfl rfl 0 (Nat.le_of_ble_eq_true rfl) fk_X3_ofStation_10 rfl rfl ?_
    refine V_get (q0 := 5) (C := RX0) (T := TX0) (N := 4) hC dX3_ofStation_82 in_X0_X3_ofStation rfl rfl 0 (Nat.le_of_ble_eq_true rfl) fk_X3_ofStation_31 rfl rfl ?_
    refine V_get (q0 := 6) (C := RX1) (T := TX1) (N := 10) hC dX3_ofStation_85 in_X1_X3_ofStation rfl rfl 5 (Nat.le_of_ble_eq_true rfl) fk_X3_ofStation_153 rfl rfl ?_
    refine V_iload_n hC dX3_ofStation_88 rfl rfl rfl ?_
    refine V_iald (q0 := 12) hC dX3_ofStation_89 rfl 0 rfl rfl hk4 (by decide) rfl ?_
    exact hE _ () _ _ _ dX3_ofStation_90 rfl rfl (by first | rfl | (simp [*]; done))
theorem in_X3_X3_many : ∀ w ∈ u_ws RX3 TX3 2, w ∈ wsX3_many := by decide +kernel
theorem fk_X3_many_10 : Cond.fieldLink RX3 10 (TX3 0).1 (TX3 0).2.1 (TX3 0).2.2.1 ∈ wsX3_many := by decide +kernel
theorem in_X0_X3_many : ∀ w ∈ u_ws RX0 TX0 4, w ∈ wsX3_many := by decide +kernel
theorem fk_X3_many_156 : Cond.fieldLink RX3 156 (TX0 3).1 (TX0 3).2.1 (TX0 3).2.2.1 ∈ wsX3_many := by decide +kernel
theorem fk_X3_many_67 : Cond.fieldLink RX3 67 (TX0 2).1 (TX0 2).2.1 (TX0 2).2.2.1 ∈ wsX3_many := by decide +kernel
theorem fk_X3_many_31 : Cond.fieldLink RX3 31 (TX0 0).1 (TX0 0).2.1 (TX0 0).2.2.1 ∈ wsX3_many := by decide +kernel
theorem in_X1_X3_many : ∀ w ∈ u_ws RX1 TX1 10, w ∈ wsX3_many := by decide +kernel
theorem fk_X3_many_52 : Cond.fieldLink RX3 52 (TX1 6).1 (TX1 6).2.1 (TX1 6).2.2.1 ∈ wsX3_many := by decide +kernel
theorem fk_X3_many_90 : Cond.fieldLink RX3 90 (TX1 9).1 (TX1 9).2.1 (TX1 9).2.2.1 ∈ wsX3_many := by decide +kernel
set_option maxRecDepth 100000 in
set_option maxHeartbeats 4000000 in
theorem k_X3_many (l : Launch) (D : va_G) (cI cZ cT : ClassId) (c : Nat) (a b : Nat → Nat) (t g t2 g2 : Nat → Nat → Int32) (nT nS nW : Nat) (ok : Ok t g nT nS nW) (w : Int32) (hw : m_in w 0 9 = 1) : CI l D kCl (kTy cI cZ cT) yX3_many wsX3_many ({ frames := 2, cells := 0, slots := 0, locals := 44 }) 0 0 [.ref c, .int w] (WB cI cZ cT c a b t g t2 g2) (S := Unit) (fun r _ => r = q_many t g nT w) (fun _ => WB cI cZ cT c a b t g t2 g2) := by
  refine CI_of (own := RX3) (by decide) rfl rfl (Nat.le_of_ble_eq_true rfl) rfl (fun X A hC hE => ?_)
  obtain ⟨hT, hT4, hS, hS4, hW, hW3, hz, hb⟩ := id ok
  refine V_iload_n hC dX3_many_0 rfl rfl rfl ?_
  refine V_iconst (v := 0) hC dX3_many_1 (by decide) rfl ?_
  refine V_bipush (v := 9) hC dX3_many_2 (by decide) rfl ?_
  refine V_callIS0 (n := 3) hC dX3_many_4 (k_X3_isWithin l D cI cZ cT _ _ _) gX3_many_X3_isWithin rfl ⟨rfl, rfl⟩ (by decide +kernel) ⟨Nat.le_of_ble_eq_true rfl, Nat.le_of_ble_eq_true rfl⟩ ⟨Nat.le_of_ble_eq_true rfl, Nat.le_of_ble_eq_true rfl⟩ rfl rfl (by exact Nat.le_of_ble_eq_true rfl) rfl (fun r_4 u_4 h_4 => ?_)
  subst h_4
  refine V_callVS0 (n := 1) hC dX3_many_7 (k_X3_need l D cI cZ cT _ (by rw [hw]; decide)) gX3_many_X3_need rfl ⟨rfl, rfl⟩ (by decide +kernel) ⟨Nat.le_of_ble_eq_true rfl, Nat.le_of_ble_eq_true rfl⟩ ⟨Nat.le_of_ble_eq_true rfl, Nat.le_of_ble_eq_true rfl⟩ rfl rfl (by exact Nat.le_of_ble_eq_true rfl) rfl (fun u_7 h_7 => ?_)
  refine V_iload_n hC dX3_many_10 rfl rfl rfl ?_
  by_cases w_0 : w = 0
  · subst w_0
    refine V_tableIn (tgt := 48) (off := 37) hC dX3_many_11 (by decide) (by decide) (by decide) (by decide) ?_
    refine V_aload_n hC dX3_many_48 rfl rfl rfl ?_
    refine V_get (q0 := 0) (C := RX3) (T := TX3) (N := 2) hC dX3_many_49 in_X3_X3_many rfl rfl 0 (Nat.le_of_ble_eq_true rfl) fk_X3_many_10 rfl rfl ?_
    refine V_get (q0 := 5) (C := RX0) (T := TX0) (N := 4) hC dX3_many_52 in_X0_X3_many rfl rfl 3 (Nat.le_of_ble_eq_true rfl) fk_X3_many_156 rfl rfl ?_
    exact hE _ () _ _ _ dX3_many_55 rfl rfl (by first | rfl | (simp [q_many, *]; done))
  by_cases w_1 : w = 1
  · subst w_1
    refine V_tableIn (tgt := 56) (off := 45) hC dX3_many_11 (by decide) (by decide) (by decide) (by decide) ?_
    refine V_aload_n hC dX3_many_56 rfl rfl rfl ?_
    refine V_get (q0 := 0) (C := RX3) (T := TX3) (N := 2) hC dX3_many_57 in_X3_X3_many rfl rfl 0 (Nat.le_of_ble_eq_true rfl) fk_X3_many_10 rfl rfl ?_
    refine V_get (q0 := 5) (C := RX0) (T := TX0) (N := 4) hC dX3_many_60 in_X0_X3_many rfl rfl 2 (Nat.le_of_ble_eq_true rfl) fk_X3_many_67 rfl rfl ?_
    exact hE _ () _ _ _ dX3_many_63 rfl rfl (by first | rfl | (simp [q_many, *]; done))
  by_cases w_2 : w = 2
  · subst w_2
    refine V_tableIn (tgt := 64) (off := 53) hC dX3_many_11 (by decide) (by decide) (by decide) (by decide) ?_
    refine V_aload_n hC dX3_many_64 rfl rfl rfl ?_
    refine V_get (q0 := 0) (C := RX3) (T := TX3) (N := 2) hC dX3_many_65 in_X3_X3_many rfl rfl 0 (Nat.le_of_ble_eq_true rfl) fk_X3_many_10 rfl rfl ?_
    refine V_get (q0 := 5) (C := RX0) (T := TX0) (N := 4) hC dX3_many_68 in_X0_X3_many rfl rfl 2 (Nat.le_of_ble_eq_true rfl) fk_X3_many_67 rfl rfl ?_
    refine V_aload_n hC dX3_many_71 rfl rfl rfl ?_
    refine V_get (q0 := 0) (C := RX3) (T := TX3) (N := 2) hC dX3_many_72 in_X3_X3_many rfl rfl 0 (Nat.le_of_ble_eq_true rfl) fk_X3_many_10 rfl rfl ?_
    refine V_callIVf (q0 := 4) (n := 0) hC dX3_many_75 (k_X0_countPresent l D cI cZ cT a _ _ _ hT hT4) gX3_many_X0_countPresent rfl ⟨rfl, rfl⟩ (by decide +kernel) ⟨Nat.le_of_ble_eq_true rfl, Nat.le_of_ble_eq_true rfl⟩ ⟨Nat.le_of_ble_eq_true rfl, Nat.le_of_ble_eq_true rfl⟩ WB_a.symm rfl rfl rfl rfl (by exact Nat.le_of_ble_eq_true rfl) rfl (fun r_75 u_75 h_75 => ?_)
    subst h_75
    refine V_ws WB_a ?_
    refine V_isub hC dX3_many_78 rfl ?_
    exact hE _ () _ _ _ dX3_many_79 rfl rfl (by first | rfl | (simp [q_many, *]; done))
  by_cases w_3 : w = 3
  · subst w_3
    refine V_tableIn (tgt := 80) (off := 69) hC dX3_many_11 (by decide) (by decide) (by decide) (by decide) ?_
    refine V_aload_n hC dX3_many_80 rfl rfl rfl ?_
    refine V_get (q0 := 0) (C := RX3) (T := TX3) (N := 2) hC dX3_many_81 in_X3_X3_many rfl rfl 0 (Nat.le_of_ble_eq_true rfl) fk_X3_many_10 rfl rfl ?_
    refine V_callIVf (q0 := 4) (n := 0) hC dX3_many_84 (k_X0_countCrashed l D cI cZ cT a _ _ _ hT hT4) gX3_many_X0_countCrashed rfl ⟨rfl, rfl⟩ (by decide +kernel) ⟨Nat.le_of_ble_eq_true rfl, Nat.le_of_ble_eq_true rfl⟩ ⟨Nat.le_of_ble_eq_true rfl, Nat.le_of_ble_eq_true rfl⟩ WB_a.symm rfl rfl rfl rfl (by exact Nat.le_of_ble_eq_true rfl) rfl (fun r_84 u_84 h_84 => ?_)
    subst h_84
    refine V_ws WB_a ?_
    exact hE _ () _ _ _ dX3_many_87 rfl rfl (by first | rfl | (simp [q_many, *]; done))
  by_cases w_4 : w = 4
  · subst w_4
    refine V_tableIn (tgt := 88) (off := 77) hC dX3_many_11 (by decide) (by decide) (by decide) (by decide) ?_
    refine V_aload_n hC dX3_many_88 rfl rfl rfl ?_
    refine V_get (q0 := 0) (C := RX3) (T := TX3) (N := 2) hC dX3_many_89 in_X3_X3_many rfl rfl 0 (Nat.le_of_ble_eq_true rfl) fk_X3_many_10 rfl rfl ?_
    refine V_get (q0 := 5) (C := RX0) (T := TX0) (N := 4) hC dX3_many_92 in_X0_X3_many rfl rfl 0 (Nat.le_of_ble_eq_true rfl) fk_X3_many_31 rfl rfl ?_
    refine V_get (q0 := 6) (C := RX1) (T := TX1) (N := 10) hC dX3_many_95 in_X1_X3_many rfl rfl 6 (Nat.le_of_ble_eq_true rfl) fk_X3_many_52 rfl rfl ?_
    exact hE _ () _ _ _ dX3_many_98 rfl rfl (by first | rfl | (simp [q_many, *]; done))
  by_cases w_5 : w = 5
  · subst w_5
    refine V_tableIn (tgt := 99) (off := 88) hC dX3_many_11 (by decide) (by decide) (by decide) (by decide) ?_
    refine V_aload_n hC dX3_many_99 rfl rfl rfl ?_
    refine V_get (q0 := 0) (C := RX3) (T := TX3) (N := 2) hC dX3_many_100 in_X3_X3_many rfl rfl 0 (Nat.le_of_ble_eq_true rfl) fk_X3_many_10 rfl rfl ?_
    refine V_get (q0 := 5) (C := RX0) (T := TX0) (N := 4) hC dX3_many_103 in_X0_X3_many rfl rfl 0 (Nat.le_of_ble_eq_true rfl) fk_X3_many_31 rfl rfl ?_
    refine V_get (q0 := 6) (C := RX1) (T := TX1) (N := 10) hC dX3_many_106 in_X1_X3_many rfl rfl 9 (Nat.le_of_ble_eq_true rfl) fk_X3_many_90 rfl rfl ?_
    exact hE _ () _ _ _ dX3_many_109 rfl rfl (by first | rfl | (simp [q_many, *]; done))
  have s_0 := sw_no w_0 (z := 0) (by decide)
  have s_1 := sw_no w_1 (z := 1) (by decide)
  have s_2 := sw_no w_2 (z := 2) (by decide)
  have s_3 := sw_no w_3 (z := 3) (by decide)
  have s_4 := sw_no w_4 (z := 4) (by decide)
  have s_5 := sw_no w_5 (z := 5) (by decide)
  refine V_tableOut (tgt := 110) hC dX3_many_11 (by omega) (by decide) ?_
  refine V_aload_n hC dX3_many_110 rfl rfl rfl ?_
  refine V_get (q0 := 0) (C := RX3) (T := TX3) (N := 2) hC dX3_many_111 in_X3_X3_many rfl rfl 0 (Nat.le_of_ble_eq_true rfl) fk_X3_many_10 rfl rfl ?_
  refine V_iload_n hC dX3_many_114 rfl rfl rfl ?_
  refine V_callIVf (q0 := 4) (n := 1) hC dX3_many_115 (k_X0_total l D cI cZ cT a _ _ _ _ hT hT4) gX3_many_X0_total rfl ⟨rfl, rfl⟩ (by decide +kernel) ⟨Nat.le_of_ble_eq_true rfl, Nat.le_of_ble_eq_true rfl⟩ ⟨Nat.le_of_ble_eq_true rfl, Nat.le_of_ble_eq_true rfl⟩ WB_a.symm rfl rfl rfl rfl (by exact Nat.le_of_ble_eq_true rfl) rfl (fun r_115 u_115 h_115 => ?_)
  subst h_115
  refine V_ws WB_a ?_
  exact hE _ () _ _ _ dX3_many_118 rfl rfl (by first | rfl | (simp [q_many, *]; done))
