theorem xk_X3_needIndex_X : Cond.classLink RX3 220 "java/lang/IndexOutOfBoundsException" ∈ wsX3_needIndex := by decide +kernel
theorem xi_X3_needIndex_X : Cond.initialized "java/lang/IndexOutOfBoundsException" ∈ wsX3_needIndex := by decide +kernel
set_option maxRecDepth 100000 in
set_option maxHeartbeats 4000000 in
theorem k_X3_needIndexX (l : Launch) (D : va_G) (cI cZ cT : ClassId) (hfl : l.stackTraces = false) (x n : Int32) (h : x < 0 ∨ ¬ x < n) : CX l D kCl (kTy cI cZ cT) yX3_needIndex wsX3_needIndex ({ frames := 6, cells := 1, slots := 6, locals := 82 }) 1 6 [.int x, .int n] [] "java/lang/IndexOutOfBoundsException" := by
  refine CX_of (own := RX3) (by decide) rfl rfl (Nat.le_of_ble_eq_true rfl) rfl (fun X A hC hT => ?_)
  refine V_iload_n hC dX3_needIndex_0 rfl rfl rfl ?_
  refine V_if_lt (tgt := 9) hC dX3_needIndex_1 (by decide) rfl (fun c_1 => ?_) (fun c_1 => ?_)
  · exact V_throwS (text := "there is none of this number") (names := ["java/lang/RuntimeException", "java/lang/Exception"]) (ik := 220) (is := 222) (ic := 224) hC hT hfl rfl (by decide) (by decide) xk_X3_needIndex_X xi_X3_needIndex_X (by decide) (fun w h => List.mem_cons_of_mem _ (List.mem_append_right _ h)) (by decide +kernel) (by decide +kernel) dX3_needIndex_9 dX3_needIndex_12 dX3_needIndex_13 dX3_needIndex_15 dX3_needIndex_18 (Nat.le_of_ble_eq_true rfl) (Nat.le_of_ble_eq_true rfl) (Nat.le_of_ble_eq_true rfl) (Nat.le_of_ble_eq_true rfl) (Nat.le_of_ble_eq_true rfl) (Nat.le_of_ble_eq_true rfl) rfl
  · refine V_iload_n hC dX3_needIndex_4 rfl rfl rfl ?_
    refine V_iload_n hC dX3_needIndex_5 rfl rfl rfl ?_
    refine V_icmp_lt (tgt := 19) hC dX3_needIndex_6 (by decide) rfl (fun c_6 => ?_) (fun c_6 => ?_)
    · exact absurd c_6 (h.resolve_left c_1)
    · exact V_throwS (text := "there is none of this number") (names := ["java/lang/RuntimeException", "java/lang/Exception"]) (ik := 220) (is := 222) (ic := 224) hC hT hfl rfl (by decide) (by decide) xk_X3_needIndex_X xi_X3_needIndex_X (by decide) (fun w h => List.mem_cons_of_mem _ (List.mem_append_right _ h)) (by decide +kernel) (by decide +kernel) dX3_needIndex_9 dX3_needIndex_12 dX3_needIndex_13 dX3_needIndex_15 dX3_needIndex_18 (Nat.le_of_ble_eq_true rfl) (Nat.le_of_ble_eq_true rfl) (Nat.le_of_ble_eq_true rfl) (Nat.le_of_ble_eq_true rfl) (Nat.le_of_ble_eq_true rfl) (Nat.le_of_ble_eq_true rfl) rfl
theorem xk_X3_need_X : Cond.classLink RX3 227 "java/lang/IllegalArgumentException" ∈ wsX3_need := by decide +kernel
theorem xi_X3_need_X : Cond.initialized "java/lang/IllegalArgumentException" ∈ wsX3_need := by decide +kernel
set_option maxRecDepth 100000 in
set_option maxHeartbeats 4000000 in
theorem k_X3_needX (l : Launch) (D : va_G) (cI cZ cT : ClassId) (hfl : l.stackTraces = false) (x : Int32) (h : x = 0) : CX l D kCl (kTy cI cZ cT) yX3_need wsX3_need ({ frames := 6, cells := 1, slots := 6, locals := 82 }) 1 6 [.int x] [] "java/lang/IllegalArgumentException" := by
  refine CX_of (own := RX3) (by decide) rfl rfl (Nat.le_of_ble_eq_true rfl) rfl (fun X A hC hT => ?_)
  refine V_iload_n hC dX3_need_0 rfl rfl rfl ?_
  refine V_if_ne (tgt := 14) hC dX3_need_1 (by decide) rfl (fun c_1 => ?_) (fun c_1 => ?_)
  · exact absurd h c_1
  · exact V_throwS (text := "an argument is not one of those allowed") (names := ["java/lang/RuntimeException", "java/lang/Exception"]) (ik := 227) (is := 229) (ic := 231) hC hT hfl rfl (by decide) (by decide) xk_X3_need_X xi_X3_need_X (by decide) (fun w h => List.mem_cons_of_mem _ (List.mem_append_right _ h)) (by decide +kernel) (by decide +kernel) dX3_need_4 dX3_need_7 dX3_need_8 dX3_need_10 dX3_need_13 (Nat.le_of_ble_eq_true rfl) (Nat.le_of_ble_eq_true rfl) (Nat.le_of_ble_eq_true rfl) (Nat.le_of_ble_eq_true rfl) (Nat.le_of_ble_eq_true rfl) (Nat.le_of_ble_eq_true rfl) rfl
set_option maxRecDepth 100000 in
set_option maxHeartbeats 4000000 in
theorem k_X3_needSectionX (l : Launch) (D : va_G) (cI cZ cT : ClassId) (hfl : l.stackTraces = false) (k : Int32) (h : m_in k 0 19 = 0) : CX l D kCl (kTy cI cZ cT) yX3_needSection wsX3_needSection ({ frames := 7, cells := 1, slots := 6, locals := 103 }) 1 6 [.int k] [] "java/lang/IndexOutOfBoundsException" := by
  refine CX_of (own := RX3) (by decide) rfl rfl (Nat.le_of_ble_eq_true rfl) rfl (fun X A hC hT => ?_)
  refine V_iload_n hC dX3_needSection_0 rfl rfl rfl ?_
  refine V_bipush (v := 20) hC dX3_needSection_1 (by decide) rfl ?_
  refine V_callXS (n := 2) (pre := _) (suf := []) hC dX3_needSection_3 (k_X3_needIndexX l D cI cZ cT hfl _ _ (sec_bad h)) gX3_needSection_X3_needIndex rfl ⟨rfl, rfl⟩ (by decide +kernel) ⟨Nat.le_of_ble_eq_true rfl, Nat.le_of_ble_eq_true rfl⟩ ⟨Nat.le_of_ble_eq_true rfl, Nat.le_of_ble_eq_true rfl⟩ (List.append_nil _).symm rfl rfl (by exact Nat.le_of_ble_eq_true rfl) ?_
  exact VT_out hC hT (Nat.le_of_ble_eq_true rfl) (Nat.le_of_ble_eq_true rfl) rfl
theorem in_X3_X3_needTrain_X : ∀ w ∈ u_ws RX3 TX3 2, w ∈ wsX3_needTrain := by decide +kernel
theorem fk_X3_needTrain_10_X : Cond.fieldLink RX3 10 (TX3 0).1 (TX3 0).2.1 (TX3 0).2.2.1 ∈ wsX3_needTrain := by decide +kernel
theorem in_X0_X3_needTrain_X : ∀ w ∈ u_ws RX0 TX0 4, w ∈ wsX3_needTrain := by decide +kernel
theorem fk_X3_needTrain_67_X : Cond.fieldLink RX3 67 (TX0 2).1 (TX0 2).2.1 (TX0 2).2.2.1 ∈ wsX3_needTrain := by decide +kernel
set_option maxRecDepth 100000 in
set_option maxHeartbeats 4000000 in
theorem k_X3_needTrainX (l : Launch) (D : va_G) (cI cZ cT : ClassId) (hfl : l.stackTraces = false) (c : Nat) (a b : Nat → Nat) (t g t2 g2 : Nat → Nat → Int32) (h0 : g 8 0 = 0) (x : Int32) : CX l D kCl (kTy cI cZ cT) yX3_needTrain wsX3_needTrain ({ frames := 7, cells := 1, slots := 6, locals := 103 }) 1 6 [.ref c, .int x] (WB cI cZ cT c a b t g t2 g2) "java/lang/IndexOutOfBoundsException" := by
  refine CX_of (own := RX3) (by decide) rfl rfl (Nat.le_of_ble_eq_true rfl) rfl (fun X A hC hT => ?_)
  refine V_iload_n hC dX3_needTrain_0 rfl rfl rfl ?_
  refine V_aload_n hC dX3_needTrain_1 rfl rfl rfl ?_
  refine V_get (q0 := 0) (C := RX3) (T := TX3) (N := 2) hC dX3_needTrain_2 in_X3_X3_needTrain_X rfl rfl 0 (Nat.le_of_ble_eq_true rfl) fk_X3_needTrain_10_X rfl rfl ?_
  refine V_get (q0 := 5) (C := RX0) (T := TX0) (N := 4) hC dX3_needTrain_5 in_X0_X3_needTrain_X rfl rfl 2 (Nat.le_of_ble_eq_true rfl) fk_X3_needTrain_67_X rfl rfl ?_
  refine V_callXS (n := 2) (pre := _) (suf := []) hC dX3_needTrain_8 (k_X3_needIndexX l D cI cZ cT hfl _ _ (by rw [h0]; exact neg_or _)) gX3_needTrain_X3_needIndex rfl ⟨rfl, rfl⟩ (by decide +kernel) ⟨Nat.le_of_ble_eq_true rfl, Nat.le_of_ble_eq_true rfl⟩ ⟨Nat.le_of_ble_eq_true rfl, Nat.le_of_ble_eq_true rfl⟩ (List.append_nil _).symm rfl rfl (by exact Nat.le_of_ble_eq_true rfl) ?_
  exact VT_out hC hT (Nat.le_of_ble_eq_true rfl) (Nat.le_of_ble_eq_true rfl) rfl
set_option maxRecDepth 100000 in
set_option maxHeartbeats 4000000 in
theorem k_X3_wholeX (l : Launch) (D : va_G) (cI cZ cT : ClassId) (hfl : l.stackTraces = false) (c : Nat) (a b : Nat → Nat) (t g t2 g2 : Nat → Nat → Int32) (h0 : g 8 0 = 0) (x : Int32) (y : Int32) : CX l D kCl (kTy cI cZ cT) yX3_whole wsX3_whole ({ frames := 8, cells := 1, slots := 6, locals := 124 }) 1 6 [.ref c, .int x, .int y] (WB cI cZ cT c a b t g t2 g2) "java/lang/IndexOutOfBoundsException" := by
  refine CX_of (own := RX3) (by decide) rfl rfl (Nat.le_of_ble_eq_true rfl) rfl (fun X A hC hT => ?_)
  refine V_aload_n hC dX3_whole_0 rfl rfl rfl ?_
  refine V_iload_n hC dX3_whole_1 rfl rfl rfl ?_
  refine V_callXV (q0 := 0) (n := 1) (pre := []) (suf := []) hC dX3_whole_2 (k_X3_needTrainX l D cI cZ cT hfl c a b _ _ _ _ h0 _) gX3_whole_X3_needTrain rfl ⟨rfl, rfl⟩ (by decide +kernel) ⟨Nat.le_of_ble_eq_true rfl, Nat.le_of_ble_eq_true rfl⟩ ⟨Nat.le_of_ble_eq_true rfl, Nat.le_of_ble_eq_true rfl⟩ (List.append_nil _).symm rfl rfl rfl rfl (by exact Nat.le_of_ble_eq_true rfl) ?_
  exact VT_out hC hT (Nat.le_of_ble_eq_true rfl) (Nat.le_of_ble_eq_true rfl) rfl
set_option maxRecDepth 100000 in
set_option maxHeartbeats 4000000 in
theorem k_X3_ofTrainX (l : Launch) (D : va_G) (cI cZ cT : ClassId) (hfl : l.stackTraces = false) (c : Nat) (a b : Nat → Nat) (t g t2 g2 : Nat → Nat → Int32) (h0 : g 8 0 = 0) (x : Int32) (y : Int32) : CX l D kCl (kTy cI cZ cT) yX3_ofTrain wsX3_ofTrain ({ frames := 8, cells := 1, slots := 6, locals := 124 }) 1 6 [.ref c, .int x, .int y] (WB cI cZ cT c a b t g t2 g2) "java/lang/IndexOutOfBoundsException" := by
  refine CX_of (own := RX3) (by decide) rfl rfl (Nat.le_of_ble_eq_true rfl) rfl (fun X A hC hT => ?_)
  refine V_aload_n hC dX3_ofTrain_0 rfl rfl rfl ?_
  refine V_iload_n hC dX3_ofTrain_1 rfl rfl rfl ?_
  refine V_callXV (q0 := 0) (n := 1) (pre := []) (suf := []) hC dX3_ofTrain_2 (k_X3_needTrainX l D cI cZ cT hfl c a b _ _ _ _ h0 _) gX3_ofTrain_X3_needTrain rfl ⟨rfl, rfl⟩ (by decide +kernel) ⟨Nat.le_of_ble_eq_true rfl, Nat.le_of_ble_eq_true rfl⟩ ⟨Nat.le_of_ble_eq_true rfl, Nat.le_of_ble_eq_true rfl⟩ (List.append_nil _).symm rfl rfl rfl rfl (by exact Nat.le_of_ble_eq_true rfl) ?_
  exact VT_out hC hT (Nat.le_of_ble_eq_true rfl) (Nat.le_of_ble_eq_true rfl) rfl
set_option maxRecDepth 100000 in
set_option maxHeartbeats 4000000 in
theorem k_X3_stopsX (l : Launch) (D : va_G) (cI cZ cT : ClassId) (hfl : l.stackTraces = false) (c : Nat) (a b : Nat → Nat) (t g t2 g2 : Nat → Nat → Int32) (h0 : g 8 0 = 0) (x : Int32) (y : Int32) : CX l D kCl (kTy cI cZ cT) yX3_stops wsX3_stops ({ frames := 8, cells := 1, slots := 6, locals := 124 }) 1 6 [.ref c, .int x, .int y] (WB cI cZ cT c a b t g t2 g2) "java/lang/IndexOutOfBoundsException" := by
  refine CX_of (own := RX3) (by decide) rfl rfl (Nat.le_of_ble_eq_true rfl) rfl (fun X A hC hT => ?_)
  refine V_aload_n hC dX3_stops_0 rfl rfl rfl ?_
  refine V_iload_n hC dX3_stops_1 rfl rfl rfl ?_
  refine V_callXV (q0 := 0) (n := 1) (pre := []) (suf := []) hC dX3_stops_2 (k_X3_needTrainX l D cI cZ cT hfl c a b _ _ _ _ h0 _) gX3_stops_X3_needTrain rfl ⟨rfl, rfl⟩ (by decide +kernel) ⟨Nat.le_of_ble_eq_true rfl, Nat.le_of_ble_eq_true rfl⟩ ⟨Nat.le_of_ble_eq_true rfl, Nat.le_of_ble_eq_true rfl⟩ (List.append_nil _).symm rfl rfl rfl rfl (by exact Nat.le_of_ble_eq_true rfl) ?_
  exact VT_out hC hT (Nat.le_of_ble_eq_true rfl) (Nat.le_of_ble_eq_true rfl) rfl
set_option maxRecDepth 100000 in
set_option maxHeartbeats 4000000 in
theorem k_X3_mayX (l : Launch) (D : va_G) (cI cZ cT : ClassId) (hfl : l.stackTraces = false) (c : Nat) (a b : Nat → Nat) (t g t2 g2 : Nat → Nat → Int32) (h0 : g 8 0 = 0) (x : Int32) : CX l D kCl (kTy cI cZ cT) yX3_may wsX3_may ({ frames := 8, cells := 1, slots := 6, locals := 124 }) 1 6 [.ref c, .int x] (WB cI cZ cT c a b t g t2 g2) "java/lang/IndexOutOfBoundsException" := by
  refine CX_of (own := RX3) (by decide) rfl rfl (Nat.le_of_ble_eq_true rfl) rfl (fun X A hC hT => ?_)
  refine V_aload_n hC dX3_may_0 rfl rfl rfl ?_
  refine V_iload_n hC dX3_may_1 rfl rfl rfl ?_
  refine V_callXV (q0 := 0) (n := 1) (pre := []) (suf := []) hC dX3_may_2 (k_X3_needTrainX l D cI cZ cT hfl c a b _ _ _ _ h0 _) gX3_may_X3_needTrain rfl ⟨rfl, rfl⟩ (by decide +kernel) ⟨Nat.le_of_ble_eq_true rfl, Nat.le_of_ble_eq_true rfl⟩ ⟨Nat.le_of_ble_eq_true rfl, Nat.le_of_ble_eq_true rfl⟩ (List.append_nil _).symm rfl rfl rfl rfl (by exact Nat.le_of_ble_eq_true rfl) ?_
  exact VT_out hC hT (Nat.le_of_ble_eq_true rfl) (Nat.le_of_ble_eq_true rfl) rfl
set_option maxRecDepth 100000 in
set_option maxHeartbeats 4000000 in
theorem k_X3_whyX (l : Launch) (D : va_G) (cI cZ cT : ClassId) (hfl : l.stackTraces = false) (c : Nat) (a b : Nat → Nat) (t g t2 g2 : Nat → Nat → Int32) (h0 : g 8 0 = 0) (x : Int32) : CX l D kCl (kTy cI cZ cT) yX3_why wsX3_why ({ frames := 8, cells := 1, slots := 6, locals := 124 }) 1 6 [.ref c, .int x] (WB cI cZ cT c a b t g t2 g2) "java/lang/IndexOutOfBoundsException" := by
  refine CX_of (own := RX3) (by decide) rfl rfl (Nat.le_of_ble_eq_true rfl) rfl (fun X A hC hT => ?_)
  refine V_aload_n hC dX3_why_0 rfl rfl rfl ?_
  refine V_iload_n hC dX3_why_1 rfl rfl rfl ?_
  refine V_callXV (q0 := 0) (n := 1) (pre := []) (suf := []) hC dX3_why_2 (k_X3_needTrainX l D cI cZ cT hfl c a b _ _ _ _ h0 _) gX3_why_X3_needTrain rfl ⟨rfl, rfl⟩ (by decide +kernel) ⟨Nat.le_of_ble_eq_true rfl, Nat.le_of_ble_eq_true rfl⟩ ⟨Nat.le_of_ble_eq_true rfl, Nat.le_of_ble_eq_true rfl⟩ (List.append_nil _).symm rfl rfl rfl rfl (by exact Nat.le_of_ble_eq_true rfl) ?_
  exact VT_out hC hT (Nat.le_of_ble_eq_true rfl) (Nat.le_of_ble_eq_true rfl) rfl
set_option maxRecDepth 100000 in
set_option maxHeartbeats 4000000 in
theorem k_X3_reachesX (l : Launch) (D : va_G) (cI cZ cT : ClassId) (hfl : l.stackTraces = false) (c : Nat) (a b : Nat → Nat) (t g t2 g2 : Nat → Nat → Int32) (h0 : g 8 0 = 0) (x : Int32) (y : Int32) (z : Int32) : CX l D kCl (kTy cI cZ cT) yX3_reaches wsX3_reaches ({ frames := 8, cells := 1, slots := 6, locals := 124 }) 1 6 [.ref c, .int x, .int y, .int z] (WB cI cZ cT c a b t g t2 g2) "java/lang/IndexOutOfBoundsException" := by
  refine CX_of (own := RX3) (by decide) rfl rfl (Nat.le_of_ble_eq_true rfl) rfl (fun X A hC hT => ?_)
  refine V_aload_n hC dX3_reaches_0 rfl rfl rfl ?_
  refine V_iload_n hC dX3_reaches_1 rfl rfl rfl ?_
  refine V_callXV (q0 := 0) (n := 1) (pre := []) (suf := []) hC dX3_reaches_2 (k_X3_needTrainX l D cI cZ cT hfl c a b _ _ _ _ h0 _) gX3_reaches_X3_needTrain rfl ⟨rfl, rfl⟩ (by decide +kernel) ⟨Nat.le_of_ble_eq_true rfl, Nat.le_of_ble_eq_true rfl⟩ ⟨Nat.le_of_ble_eq_true rfl, Nat.le_of_ble_eq_true rfl⟩ (List.append_nil _).symm rfl rfl rfl rfl (by exact Nat.le_of_ble_eq_true rfl) ?_
  exact VT_out hC hT (Nat.le_of_ble_eq_true rfl) (Nat.le_of_ble_eq_true rfl) rfl
set_option maxRecDepth 100000 in
set_option maxHeartbeats 4000000 in
theorem k_X3_closestX (l : Launch) (D : va_G) (cI cZ cT : ClassId) (hfl : l.stackTraces = false) (c : Nat) (a b : Nat → Nat) (t g t2 g2 : Nat → Nat → Int32) (h0 : g 8 0 = 0) (x : Int32) (y : Int32) : CX l D kCl (kTy cI cZ cT) yX3_closest wsX3_closest ({ frames := 8, cells := 1, slots := 6, locals := 124 }) 1 6 [.ref c, .int x, .int y] (WB cI cZ cT c a b t g t2 g2) "java/lang/IndexOutOfBoundsException" := by
  refine CX_of (own := RX3) (by decide) rfl rfl (Nat.le_of_ble_eq_true rfl) rfl (fun X A hC hT => ?_)
  refine V_aload_n hC dX3_closest_0 rfl rfl rfl ?_
  refine V_iload_n hC dX3_closest_1 rfl rfl rfl ?_
  refine V_callXV (q0 := 0) (n := 1) (pre := []) (suf := []) hC dX3_closest_2 (k_X3_needTrainX l D cI cZ cT hfl c a b _ _ _ _ h0 _) gX3_closest_X3_needTrain rfl ⟨rfl, rfl⟩ (by decide +kernel) ⟨Nat.le_of_ble_eq_true rfl, Nat.le_of_ble_eq_true rfl⟩ ⟨Nat.le_of_ble_eq_true rfl, Nat.le_of_ble_eq_true rfl⟩ (List.append_nil _).symm rfl rfl rfl rfl (by exact Nat.le_of_ble_eq_true rfl) ?_
  exact VT_out hC hT (Nat.le_of_ble_eq_true rfl) (Nat.le_of_ble_eq_true rfl) rfl
set_option maxRecDepth 100000 in
set_option maxHeartbeats 4000000 in
theorem k_X3_lostX (l : Launch) (D : va_G) (cI cZ cT : ClassId) (hfl : l.stackTraces = false) (c : Nat) (a b : Nat → Nat) (t g t2 g2 : Nat → Nat → Int32) (h0 : g 8 0 = 0) (x : Int32) (y : Int32) (z : Int32) (u : Int32) : CX l D kCl (kTy cI cZ cT) yX3_lost wsX3_lost ({ frames := 8, cells := 1, slots := 6, locals := 124 }) 1 6 [.ref c, .int x, .int y, .int z, .int u] (WB cI cZ cT c a b t g t2 g2) "java/lang/IndexOutOfBoundsException" := by
  refine CX_of (own := RX3) (by decide) rfl rfl (Nat.le_of_ble_eq_true rfl) rfl (fun X A hC hT => ?_)
  refine V_aload_n hC dX3_lost_0 rfl rfl rfl ?_
  refine V_iload_n hC dX3_lost_1 rfl rfl rfl ?_
  refine V_callXV (q0 := 0) (n := 1) (pre := []) (suf := []) hC dX3_lost_2 (k_X3_needTrainX l D cI cZ cT hfl c a b _ _ _ _ h0 _) gX3_lost_X3_needTrain rfl ⟨rfl, rfl⟩ (by decide +kernel) ⟨Nat.le_of_ble_eq_true rfl, Nat.le_of_ble_eq_true rfl⟩ ⟨Nat.le_of_ble_eq_true rfl, Nat.le_of_ble_eq_true rfl⟩ (List.append_nil _).symm rfl rfl rfl rfl (by exact Nat.le_of_ble_eq_true rfl) ?_
  exact VT_out hC hT (Nat.le_of_ble_eq_true rfl) (Nat.le_of_ble_eq_true rfl) rfl
theorem in_X3_X3_end_X : ∀ w ∈ u_ws RX3 TX3 2, w ∈ wsX3_end := by decide +kernel
theorem fk_X3_end_10_X : Cond.fieldLink RX3 10 (TX3 0).1 (TX3 0).2.1 (TX3 0).2.2.1 ∈ wsX3_end := by decide +kernel
theorem in_X0_X3_end_X : ∀ w ∈ u_ws RX0 TX0 4, w ∈ wsX3_end := by decide +kernel
theorem fk_X3_end_31_X : Cond.fieldLink RX3 31 (TX0 0).1 (TX0 0).2.1 (TX0 0).2.2.1 ∈ wsX3_end := by decide +kernel
theorem in_X1_X3_end_X : ∀ w ∈ u_ws RX1 TX1 10, w ∈ wsX3_end := by decide +kernel
theorem fk_X3_end_90_X : Cond.fieldLink RX3 90 (TX1 9).1 (TX1 9).2.1 (TX1 9).2.2.1 ∈ wsX3_end := by decide +kernel
set_option maxRecDepth 100000 in
set_option maxHeartbeats 4000000 in
theorem k_X3_endX (l : Launch) (D : va_G) (cI cZ cT : ClassId) (hfl : l.stackTraces = false) (c : Nat) (a b : Nat → Nat) (t g t2 g2 : Nat → Nat → Int32) (h0 : g 8 3 = 0) (x : Int32) : CX l D kCl (kTy cI cZ cT) yX3_end wsX3_end ({ frames := 7, cells := 1, slots := 6, locals := 103 }) 1 6 [.ref c, .int x] (WB cI cZ cT c a b t g t2 g2) "java/lang/IndexOutOfBoundsException" := by
  refine CX_of (own := RX3) (by decide) rfl rfl (Nat.le_of_ble_eq_true rfl) rfl (fun X A hC hT => ?_)
  refine V_iload_n hC dX3_end_0 rfl rfl rfl ?_
  refine V_aload_n hC dX3_end_1 rfl rfl rfl ?_
  refine V_get (q0 := 0) (C := RX3) (T := TX3) (N := 2) hC dX3_end_2 in_X3_X3_end_X rfl rfl 0 (Nat.le_of_ble_eq_true rfl) fk_X3_end_10_X rfl rfl ?_
  refine V_get (q0 := 5) (C := RX0) (T := TX0) (N := 4) hC dX3_end_5 in_X0_X3_end_X rfl rfl 0 (Nat.le_of_ble_eq_true rfl) fk_X3_end_31_X rfl rfl ?_
  refine V_get (q0 := 6) (C := RX1) (T := TX1) (N := 10) hC dX3_end_8 in_X1_X3_end_X rfl rfl 9 (Nat.le_of_ble_eq_true rfl) fk_X3_end_90_X rfl rfl ?_
  refine V_callXS (n := 2) (pre := _) (suf := []) hC dX3_end_11 (k_X3_needIndexX l D cI cZ cT hfl _ _ (by rw [h0]; exact neg_or _)) gX3_end_X3_needIndex rfl ⟨rfl, rfl⟩ (by decide +kernel) ⟨Nat.le_of_ble_eq_true rfl, Nat.le_of_ble_eq_true rfl⟩ ⟨Nat.le_of_ble_eq_true rfl, Nat.le_of_ble_eq_true rfl⟩ (List.append_nil _).symm rfl rfl (by exact Nat.le_of_ble_eq_true rfl) ?_
  exact VT_out hC hT (Nat.le_of_ble_eq_true rfl) (Nat.le_of_ble_eq_true rfl) rfl
theorem in_X3_X3_ofStation_X : ∀ w ∈ u_ws RX3 TX3 2, w ∈ wsX3_ofStation := by decide +kernel
theorem fk_X3_ofStation_10_X : Cond.fieldLink RX3 10 (TX3 0).1 (TX3 0).2.1 (TX3 0).2.2.1 ∈ wsX3_ofStation := by decide +kernel
theorem in_X0_X3_ofStation_X : ∀ w ∈ u_ws RX0 TX0 4, w ∈ wsX3_ofStation := by decide +kernel
theorem fk_X3_ofStation_31_X : Cond.fieldLink RX3 31 (TX0 0).1 (TX0 0).2.1 (TX0 0).2.2.1 ∈ wsX3_ofStation := by decide +kernel
theorem in_X1_X3_ofStation_X : ∀ w ∈ u_ws RX1 TX1 10, w ∈ wsX3_ofStation := by decide +kernel
theorem fk_X3_ofStation_52_X : Cond.fieldLink RX3 52 (TX1 6).1 (TX1 6).2.1 (TX1 6).2.2.1 ∈ wsX3_ofStation := by decide +kernel
set_option maxRecDepth 100000 in
set_option maxHeartbeats 4000000 in
theorem k_X3_ofStationX (l : Launch) (D : va_G) (cI cZ cT : ClassId) (hfl : l.stackTraces = false) (c : Nat) (a b : Nat → Nat) (t g t2 g2 : Nat → Nat → Int32) (h0 : g 8 2 = 0) (x y : Int32) : CX l D kCl (kTy cI cZ cT) yX3_ofStation wsX3_ofStation ({ frames := 7, cells := 1, slots := 6, locals := 103 }) 1 6 [.ref c, .int x, .int y] (WB cI cZ cT c a b t g t2 g2) "java/lang/IndexOutOfBoundsException" := by
  refine CX_of (own := RX3) (by decide) rfl rfl (Nat.le_of_ble_eq_true rfl) rfl (fun X A hC hT => ?_)
  refine V_iload_n hC dX3_ofStation_0 rfl rfl rfl ?_
  refine V_aload_n hC dX3_ofStation_1 rfl rfl rfl ?_
  refine V_get (q0 := 0) (C := RX3) (T := TX3) (N := 2) hC dX3_ofStation_2 in_X3_X3_ofStation_X rfl rfl 0 (Nat.le_of_ble_eq_true rfl) fk_X3_ofStation_10_X rfl rfl ?_
  refine V_get (q0 := 5) (C := RX0) (T := TX0) (N := 4) hC dX3_ofStation_5 in_X0_X3_ofStation_X rfl rfl 0 (Nat.le_of_ble_eq_true rfl) fk_X3_ofStation_31_X rfl rfl ?_
  refine V_get (q0 := 6) (C := RX1) (T := TX1) (N := 10) hC dX3_ofStation_8 in_X1_X3_ofStation_X rfl rfl 6 (Nat.le_of_ble_eq_true rfl) fk_X3_ofStation_52_X rfl rfl ?_
  refine V_callXS (n := 2) (pre := _) (suf := []) hC dX3_ofStation_11 (k_X3_needIndexX l D cI cZ cT hfl _ _ (by rw [h0]; exact neg_or _)) gX3_ofStation_X3_needIndex rfl ⟨rfl, rfl⟩ (by decide +kernel) ⟨Nat.le_of_ble_eq_true rfl, Nat.le_of_ble_eq_true rfl⟩ ⟨Nat.le_of_ble_eq_true rfl, Nat.le_of_ble_eq_true rfl⟩ (List.append_nil _).symm rfl rfl (by exact Nat.le_of_ble_eq_true rfl) ?_
  exact VT_out hC hT (Nat.le_of_ble_eq_true rfl) (Nat.le_of_ble_eq_true rfl) rfl
set_option maxRecDepth 100000 in
set_option maxHeartbeats 4000000 in
theorem k_X3_sectionX1 (l : Launch) (D : va_G) (cI cZ cT : ClassId) (hfl : l.stackTraces = false) (c : Nat) (a b : Nat → Nat) (t g t2 g2 : Nat → Nat → Int32) (k l1 gr ra : Int32) (h : m_in k 0 19 = 0) : CX l D kCl (kTy cI cZ cT) yX3_section wsX3_section ({ frames := 8, cells := 1, slots := 6, locals := 123 }) 1 6 [.ref c, .int k, .int l1, .int gr, .int ra] (WB cI cZ cT c a b t g t2 g2) "java/lang/IndexOutOfBoundsException" := by
  refine CX_of (own := RX3) (by decide) rfl rfl (Nat.le_of_ble_eq_true rfl) rfl (fun X A hC hT => ?_)
  refine V_iload_n hC dX3_section_0 rfl rfl rfl ?_
  refine V_callXS (n := 1) (pre := _) (suf := []) hC dX3_section_1 (k_X3_needSectionX l D cI cZ cT hfl _ h) gX3_section_X3_needSection rfl ⟨rfl, rfl⟩ (by decide +kernel) ⟨Nat.le_of_ble_eq_true rfl, Nat.le_of_ble_eq_true rfl⟩ ⟨Nat.le_of_ble_eq_true rfl, Nat.le_of_ble_eq_true rfl⟩ (List.append_nil _).symm rfl rfl (by exact Nat.le_of_ble_eq_true rfl) ?_
  exact VT_out hC hT (Nat.le_of_ble_eq_true rfl) (Nat.le_of_ble_eq_true rfl) rfl
set_option maxRecDepth 100000 in
set_option maxHeartbeats 4000000 in
theorem k_X3_sectionX2 (l : Launch) (D : va_G) (cI cZ cT : ClassId) (hfl : l.stackTraces = false) (c : Nat) (a b : Nat → Nat) (t g t2 g2 : Nat → Nat → Int32) (k : Nat) (hk : k < 20) (l1 gr ra : Int32) (h : m_in l1 1 40 = 0 ∨ m_in gr (-2) 2 = 0) : CX l D kCl (kTy cI cZ cT) yX3_section wsX3_section ({ frames := 7, cells := 1, slots := 6, locals := 102 }) 1 6 [.ref c, .int (nI k), .int l1, .int gr, .int ra] (WB cI cZ cT c a b t g t2 g2) "java/lang/IllegalArgumentException" := by
  refine CX_of (own := RX3) (by decide) rfl rfl (Nat.le_of_ble_eq_true rfl) rfl (fun X A hC hT => ?_)
  refine V_iload_n hC dX3_section_0 rfl rfl rfl ?_
  refine V_callVS0 (n := 1) hC dX3_section_1 (k_X3_needSection l D cI cZ cT _ hk) gX3_section_X3_needSection rfl ⟨rfl, rfl⟩ (by decide +kernel) ⟨Nat.le_of_ble_eq_true rfl, Nat.le_of_ble_eq_true rfl⟩ ⟨Nat.le_of_ble_eq_true rfl, Nat.le_of_ble_eq_true rfl⟩ rfl rfl (by exact Nat.le_of_ble_eq_true rfl) rfl (fun u_1 h_1 => ?_)
  refine V_iload_n hC dX3_section_4 rfl rfl rfl ?_
  refine V_iconst (v := 1) hC dX3_section_5 (by decide) rfl ?_
  refine V_bipush (v := 40) hC dX3_section_6 (by decide) rfl ?_
  refine V_callIS0 (n := 3) hC dX3_section_8 (k_X3_isWithin l D cI cZ cT _ _ _) gX3_section_X3_isWithin rfl ⟨rfl, rfl⟩ (by decide +kernel) ⟨Nat.le_of_ble_eq_true rfl, Nat.le_of_ble_eq_true rfl⟩ ⟨Nat.le_of_ble_eq_true rfl, Nat.le_of_ble_eq_true rfl⟩ rfl rfl (by exact Nat.le_of_ble_eq_true rfl) rfl (fun r_8 u_8 h_8 => ?_)
  subst h_8
  refine V_if_eq (tgt := 28) hC dX3_section_11 (by decide) rfl (fun c_11 => ?_) (fun c_11 => ?_)
  · refine V_iconst (v := 0) hC dX3_section_28 (by decide) rfl ?_
    refine V_callXS (n := 1) (pre := _) (suf := []) hC dX3_section_29 (k_X3_needX l D cI cZ cT hfl _ rfl) gX3_section_X3_need rfl ⟨rfl, rfl⟩ (by decide +kernel) ⟨Nat.le_of_ble_eq_true rfl, Nat.le_of_ble_eq_true rfl⟩ ⟨Nat.le_of_ble_eq_true rfl, Nat.le_of_ble_eq_true rfl⟩ (List.append_nil _).symm rfl rfl (by exact Nat.le_of_ble_eq_true rfl) ?_
    exact VT_out hC hT (Nat.le_of_ble_eq_true rfl) (Nat.le_of_ble_eq_true rfl) rfl
  · refine V_iload_n hC dX3_section_14 rfl rfl rfl ?_
    refine V_bipush (v := (-2)) hC dX3_section_15 (by decide) rfl ?_
    refine V_iconst (v := 2) hC dX3_section_17 (by decide) rfl ?_
    refine V_callIS0 (n := 3) hC dX3_section_18 (k_X3_isWithin l D cI cZ cT _ _ _) gX3_section_X3_isWithin rfl ⟨rfl, rfl⟩ (by decide +kernel) ⟨Nat.le_of_ble_eq_true rfl, Nat.le_of_ble_eq_true rfl⟩ ⟨Nat.le_of_ble_eq_true rfl, Nat.le_of_ble_eq_true rfl⟩ rfl rfl (by exact Nat.le_of_ble_eq_true rfl) rfl (fun r_18 u_18 h_18 => ?_)
    subst h_18
    refine V_if_eq (tgt := 28) hC dX3_section_21 (by decide) rfl (fun c_21 => ?_) (fun c_21 => ?_)
    · refine V_iconst (v := 0) hC dX3_section_28 (by decide) rfl ?_
      refine V_callXS (n := 1) (pre := _) (suf := []) hC dX3_section_29 (k_X3_needX l D cI cZ cT hfl _ rfl) gX3_section_X3_need rfl ⟨rfl, rfl⟩ (by decide +kernel) ⟨Nat.le_of_ble_eq_true rfl, Nat.le_of_ble_eq_true rfl⟩ ⟨Nat.le_of_ble_eq_true rfl, Nat.le_of_ble_eq_true rfl⟩ (List.append_nil _).symm rfl rfl (by exact Nat.le_of_ble_eq_true rfl) ?_
      exact VT_out hC hT (Nat.le_of_ble_eq_true rfl) (Nat.le_of_ble_eq_true rfl) rfl
    · exact (h.elim c_11 c_21).elim
theorem in_X3_X3_station_X : ∀ w ∈ u_ws RX3 TX3 2, w ∈ wsX3_station := by decide +kernel
theorem fk_X3_station_10_X : Cond.fieldLink RX3 10 (TX3 0).1 (TX3 0).2.1 (TX3 0).2.2.1 ∈ wsX3_station := by decide +kernel
theorem in_X0_X3_station_X : ∀ w ∈ u_ws RX0 TX0 4, w ∈ wsX3_station := by decide +kernel
theorem fk_X3_station_31_X : Cond.fieldLink RX3 31 (TX0 0).1 (TX0 0).2.1 (TX0 0).2.2.1 ∈ wsX3_station := by decide +kernel
set_option maxRecDepth 100000 in
set_option maxHeartbeats 4000000 in
theorem k_X3_stationX (l : Launch) (D : va_G) (cI cZ cT : ClassId) (hfl : l.stackTraces = false) (c : Nat) (a b : Nat → Nat) (t g t2 g2 : Nat → Nat → Int32) (hS : g 8 2 = nI 0) (m d : Int32) (h : m_in m 0 2999 = 0 ∨ m_in d 0 60 = 0) : CX l D kCl (kTy cI cZ cT) yX3_station wsX3_station ({ frames := 7, cells := 1, slots := 6, locals := 102 }) 1 6 [.ref c, .int m, .int d] (WB cI cZ cT c a b t g t2 g2) "java/lang/IllegalArgumentException" := by
  refine CX_of (own := RX3) (by decide) rfl rfl (Nat.le_of_ble_eq_true rfl) rfl (fun X A hC hT => ?_)
  refine V_iload_n hC dX3_station_0 rfl rfl rfl ?_
  refine V_iconst (v := 0) hC dX3_station_1 (by decide) rfl ?_
  refine V_sipush (v := 2999) hC dX3_station_2 (by decide) rfl ?_
  refine V_callIS0 (n := 3) hC dX3_station_5 (k_X3_isWithin l D cI cZ cT _ _ _) gX3_station_X3_isWithin rfl ⟨rfl, rfl⟩ (by decide +kernel) ⟨Nat.le_of_ble_eq_true rfl, Nat.le_of_ble_eq_true rfl⟩ ⟨Nat.le_of_ble_eq_true rfl, Nat.le_of_ble_eq_true rfl⟩ rfl rfl (by exact Nat.le_of_ble_eq_true rfl) rfl (fun r_5 u_5 h_5 => ?_)
  subst h_5
  refine V_if_eq (tgt := 39) hC dX3_station_8 (by decide) rfl (fun c_8 => ?_) (fun c_8 => ?_)
  · refine V_iconst (v := 0) hC dX3_station_39 (by decide) rfl ?_
    refine V_callXS (n := 1) (pre := _) (suf := []) hC dX3_station_40 (k_X3_needX l D cI cZ cT hfl _ rfl) gX3_station_X3_need rfl ⟨rfl, rfl⟩ (by decide +kernel) ⟨Nat.le_of_ble_eq_true rfl, Nat.le_of_ble_eq_true rfl⟩ ⟨Nat.le_of_ble_eq_true rfl, Nat.le_of_ble_eq_true rfl⟩ (List.append_nil _).symm rfl rfl (by exact Nat.le_of_ble_eq_true rfl) ?_
    exact VT_out hC hT (Nat.le_of_ble_eq_true rfl) (Nat.le_of_ble_eq_true rfl) rfl
  · refine V_aload_n hC dX3_station_11 rfl rfl rfl ?_
    refine V_get (q0 := 0) (C := RX3) (T := TX3) (N := 2) hC dX3_station_12 in_X3_X3_station_X rfl rfl 0 (Nat.le_of_ble_eq_true rfl) fk_X3_station_10_X rfl rfl ?_
    refine V_get (q0 := 5) (C := RX0) (T := TX0) (N := 4) hC dX3_station_15 in_X0_X3_station_X rfl rfl 0 (Nat.le_of_ble_eq_true rfl) fk_X3_station_31_X rfl rfl ?_
    refine V_iload_n hC dX3_station_18 rfl rfl rfl ?_
    refine V_callIVf (q0 := 5) (n := 1) hC dX3_station_19 (k_X1_hasStationAt l D cI cZ cT a _ _ _ _ hS (by decide)) gX3_station_X1_hasStationAt rfl ⟨rfl, rfl⟩ (by decide +kernel) ⟨Nat.le_of_ble_eq_true rfl, Nat.le_of_ble_eq_true rfl⟩ ⟨Nat.le_of_ble_eq_true rfl, Nat.le_of_ble_eq_true rfl⟩ WB_a.symm rfl rfl rfl rfl (by exact Nat.le_of_ble_eq_true rfl) rfl (fun r_19 u_19 h_19 => ?_)
    refine V_ws WB_a ?_
    refine V_if_ne (tgt := 39) hC dX3_station_22 (by decide) rfl (fun c_22 => ?_) (fun c_22 => ?_)
    · rcases h_19 with ⟨_, k, hk, e⟩ | ⟨e, _⟩
      · exact absurd hk (Nat.not_lt_zero _)
      · exact absurd e c_22
    · refine V_iload_n hC dX3_station_25 rfl rfl rfl ?_
      refine V_iconst (v := 0) hC dX3_station_26 (by decide) rfl ?_
      refine V_bipush (v := 60) hC dX3_station_27 (by decide) rfl ?_
      refine V_callIS0 (n := 3) hC dX3_station_29 (k_X3_isWithin l D cI cZ cT _ _ _) gX3_station_X3_isWithin rfl ⟨rfl, rfl⟩ (by decide +kernel) ⟨Nat.le_of_ble_eq_true rfl, Nat.le_of_ble_eq_true rfl⟩ ⟨Nat.le_of_ble_eq_true rfl, Nat.le_of_ble_eq_true rfl⟩ rfl rfl (by exact Nat.le_of_ble_eq_true rfl) rfl (fun r_29 u_29 h_29 => ?_)
      subst h_29
      refine V_if_eq (tgt := 39) hC dX3_station_32 (by decide) rfl (fun c_32 => ?_) (fun c_32 => ?_)
      · refine V_iconst (v := 0) hC dX3_station_39 (by decide) rfl ?_
        refine V_callXS (n := 1) (pre := _) (suf := []) hC dX3_station_40 (k_X3_needX l D cI cZ cT hfl _ rfl) gX3_station_X3_need rfl ⟨rfl, rfl⟩ (by decide +kernel) ⟨Nat.le_of_ble_eq_true rfl, Nat.le_of_ble_eq_true rfl⟩ ⟨Nat.le_of_ble_eq_true rfl, Nat.le_of_ble_eq_true rfl⟩ (List.append_nil _).symm rfl rfl (by exact Nat.le_of_ble_eq_true rfl) ?_
        exact VT_out hC hT (Nat.le_of_ble_eq_true rfl) (Nat.le_of_ble_eq_true rfl) rfl
      · exact (h.elim c_8 c_32).elim
set_option maxRecDepth 100000 in
set_option maxHeartbeats 4000000 in
theorem k_X3_trainX (l : Launch) (D : va_G) (cI cZ cT : ClassId) (hfl : l.stackTraces = false) (c : Nat) (a b : Nat → Nat) (t g t2 g2 : Nat → Nat → Int32) (x y z w : Int32) (h : m_in x 20 200 = 0 ∨ m_in y 1 4 = 0 ∨ m_in z 1 3 = 0) : CX l D kCl (kTy cI cZ cT) yX3_train wsX3_train ({ frames := 7, cells := 1, slots := 6, locals := 102 }) 1 6 [.ref c, .int x, .int y, .int z, .int w] (WB cI cZ cT c a b t g t2 g2) "java/lang/IllegalArgumentException" := by
  refine CX_of (own := RX3) (by decide) rfl rfl (Nat.le_of_ble_eq_true rfl) rfl (fun X A hC hT => ?_)
  refine V_iload_n hC dX3_train_0 rfl rfl rfl ?_
  refine V_bipush (v := 20) hC dX3_train_1 (by decide) rfl ?_
  refine V_sipush (v := 200) hC dX3_train_3 (by decide) rfl ?_
  refine V_callIS0 (n := 3) hC dX3_train_6 (k_X3_isWithin l D cI cZ cT _ _ _) gX3_train_X3_isWithin rfl ⟨rfl, rfl⟩ (by decide +kernel) ⟨Nat.le_of_ble_eq_true rfl, Nat.le_of_ble_eq_true rfl⟩ ⟨Nat.le_of_ble_eq_true rfl, Nat.le_of_ble_eq_true rfl⟩ rfl rfl (by exact Nat.le_of_ble_eq_true rfl) rfl (fun r_6 u_6 h_6 => ?_)
  subst h_6
  refine V_if_eq (tgt := 34) hC dX3_train_9 (by decide) rfl (fun c_9 => ?_) (fun c_9 => ?_)
  · refine V_iconst (v := 0) hC dX3_train_34 (by decide) rfl ?_
    refine V_callXS (n := 1) (pre := _) (suf := []) hC dX3_train_35 (k_X3_needX l D cI cZ cT hfl _ rfl) gX3_train_X3_need rfl ⟨rfl, rfl⟩ (by decide +kernel) ⟨Nat.le_of_ble_eq_true rfl, Nat.le_of_ble_eq_true rfl⟩ ⟨Nat.le_of_ble_eq_true rfl, Nat.le_of_ble_eq_true rfl⟩ (List.append_nil _).symm rfl rfl (by exact Nat.le_of_ble_eq_true rfl) ?_
    exact VT_out hC hT (Nat.le_of_ble_eq_true rfl) (Nat.le_of_ble_eq_true rfl) rfl
  · refine V_iload_n hC dX3_train_12 rfl rfl rfl ?_
    refine V_iconst (v := 1) hC dX3_train_13 (by decide) rfl ?_
    refine V_iconst (v := 4) hC dX3_train_14 (by decide) rfl ?_
    refine V_callIS0 (n := 3) hC dX3_train_15 (k_X3_isWithin l D cI cZ cT _ _ _) gX3_train_X3_isWithin rfl ⟨rfl, rfl⟩ (by decide +kernel) ⟨Nat.le_of_ble_eq_true rfl, Nat.le_of_ble_eq_true rfl⟩ ⟨Nat.le_of_ble_eq_true rfl, Nat.le_of_ble_eq_true rfl⟩ rfl rfl (by exact Nat.le_of_ble_eq_true rfl) rfl (fun r_15 u_15 h_15 => ?_)
    subst h_15
    refine V_if_eq (tgt := 34) hC dX3_train_18 (by decide) rfl (fun c_18 => ?_) (fun c_18 => ?_)
    · refine V_iconst (v := 0) hC dX3_train_34 (by decide) rfl ?_
      refine V_callXS (n := 1) (pre := _) (suf := []) hC dX3_train_35 (k_X3_needX l D cI cZ cT hfl _ rfl) gX3_train_X3_need rfl ⟨rfl, rfl⟩ (by decide +kernel) ⟨Nat.le_of_ble_eq_true rfl, Nat.le_of_ble_eq_true rfl⟩ ⟨Nat.le_of_ble_eq_true rfl, Nat.le_of_ble_eq_true rfl⟩ (List.append_nil _).symm rfl rfl (by exact Nat.le_of_ble_eq_true rfl) ?_
      exact VT_out hC hT (Nat.le_of_ble_eq_true rfl) (Nat.le_of_ble_eq_true rfl) rfl
    · refine V_iload_n hC dX3_train_21 rfl rfl rfl ?_
      refine V_iconst (v := 1) hC dX3_train_22 (by decide) rfl ?_
      refine V_iconst (v := 3) hC dX3_train_23 (by decide) rfl ?_
      refine V_callIS0 (n := 3) hC dX3_train_24 (k_X3_isWithin l D cI cZ cT _ _ _) gX3_train_X3_isWithin rfl ⟨rfl, rfl⟩ (by decide +kernel) ⟨Nat.le_of_ble_eq_true rfl, Nat.le_of_ble_eq_true rfl⟩ ⟨Nat.le_of_ble_eq_true rfl, Nat.le_of_ble_eq_true rfl⟩ rfl rfl (by exact Nat.le_of_ble_eq_true rfl) rfl (fun r_24 u_24 h_24 => ?_)
      subst h_24
      refine V_if_eq (tgt := 34) hC dX3_train_27 (by decide) rfl (fun c_27 => ?_) (fun c_27 => ?_)
      · refine V_iconst (v := 0) hC dX3_train_34 (by decide) rfl ?_
        refine V_callXS (n := 1) (pre := _) (suf := []) hC dX3_train_35 (k_X3_needX l D cI cZ cT hfl _ rfl) gX3_train_X3_need rfl ⟨rfl, rfl⟩ (by decide +kernel) ⟨Nat.le_of_ble_eq_true rfl, Nat.le_of_ble_eq_true rfl⟩ ⟨Nat.le_of_ble_eq_true rfl, Nat.le_of_ble_eq_true rfl⟩ (List.append_nil _).symm rfl rfl (by exact Nat.le_of_ble_eq_true rfl) ?_
        exact VT_out hC hT (Nat.le_of_ble_eq_true rfl) (Nat.le_of_ble_eq_true rfl) rfl
      · exact (h.elim c_9 (fun h => h.elim c_18 c_27)).elim
set_option maxRecDepth 100000 in
set_option maxHeartbeats 4000000 in
theorem k_X3_worksX1 (l : Launch) (D : va_G) (cI cZ cT : ClassId) (hfl : l.stackTraces = false) (c : Nat) (a b : Nat → Nat) (t g t2 g2 : Nat → Nat → Int32) (k l1 : Int32) (h : m_in k 0 19 = 0) : CX l D kCl (kTy cI cZ cT) yX3_works wsX3_works ({ frames := 8, cells := 1, slots := 6, locals := 123 }) 1 6 [.ref c, .int k, .int l1] (WB cI cZ cT c a b t g t2 g2) "java/lang/IndexOutOfBoundsException" := by
  refine CX_of (own := RX3) (by decide) rfl rfl (Nat.le_of_ble_eq_true rfl) rfl (fun X A hC hT => ?_)
  refine V_iload_n hC dX3_works_0 rfl rfl rfl ?_
  refine V_callXS (n := 1) (pre := _) (suf := []) hC dX3_works_1 (k_X3_needSectionX l D cI cZ cT hfl _ h) gX3_works_X3_needSection rfl ⟨rfl, rfl⟩ (by decide +kernel) ⟨Nat.le_of_ble_eq_true rfl, Nat.le_of_ble_eq_true rfl⟩ ⟨Nat.le_of_ble_eq_true rfl, Nat.le_of_ble_eq_true rfl⟩ (List.append_nil _).symm rfl rfl (by exact Nat.le_of_ble_eq_true rfl) ?_
  exact VT_out hC hT (Nat.le_of_ble_eq_true rfl) (Nat.le_of_ble_eq_true rfl) rfl
set_option maxRecDepth 100000 in
set_option maxHeartbeats 4000000 in
theorem k_X3_worksX3 (l : Launch) (D : va_G) (cI cZ cT : ClassId) (hfl : l.stackTraces = false) (c : Nat) (a b : Nat → Nat) (t g t2 g2 : Nat → Nat → Int32) (k : Nat) (hk : k < 20) (l1 : Int32) (h : m_in l1 0 19 = 0) : CX l D kCl (kTy cI cZ cT) yX3_works wsX3_works ({ frames := 8, cells := 1, slots := 6, locals := 123 }) 1 6 [.ref c, .int (nI k), .int l1] (WB cI cZ cT c a b t g t2 g2) "java/lang/IndexOutOfBoundsException" := by
  refine CX_of (own := RX3) (by decide) rfl rfl (Nat.le_of_ble_eq_true rfl) rfl (fun X A hC hT => ?_)
  refine V_iload_n hC dX3_works_0 rfl rfl rfl ?_
  refine V_callVS0 (n := 1) hC dX3_works_1 (k_X3_needSection l D cI cZ cT _ hk) gX3_works_X3_needSection rfl ⟨rfl, rfl⟩ (by decide +kernel) ⟨Nat.le_of_ble_eq_true rfl, Nat.le_of_ble_eq_true rfl⟩ ⟨Nat.le_of_ble_eq_true rfl, Nat.le_of_ble_eq_true rfl⟩ rfl rfl (by exact Nat.le_of_ble_eq_true rfl) rfl (fun u_1 h_1 => ?_)
  refine V_iload_n hC dX3_works_4 rfl rfl rfl ?_
  refine V_callXS (n := 1) (pre := _) (suf := []) hC dX3_works_5 (k_X3_needSectionX l D cI cZ cT hfl _ h) gX3_works_X3_needSection rfl ⟨rfl, rfl⟩ (by decide +kernel) ⟨Nat.le_of_ble_eq_true rfl, Nat.le_of_ble_eq_true rfl⟩ ⟨Nat.le_of_ble_eq_true rfl, Nat.le_of_ble_eq_true rfl⟩ (List.append_nil _).symm rfl rfl (by exact Nat.le_of_ble_eq_true rfl) ?_
  exact VT_out hC hT (Nat.le_of_ble_eq_true rfl) (Nat.le_of_ble_eq_true rfl) rfl
set_option maxRecDepth 100000 in
set_option maxHeartbeats 4000000 in
theorem k_X3_worksX2 (l : Launch) (D : va_G) (cI cZ cT : ClassId) (hfl : l.stackTraces = false) (c : Nat) (a b : Nat → Nat) (t g t2 g2 : Nat → Nat → Int32) (k e : Nat) (hk : k < 20) (he : e < 20) (h : nI e < nI k) : CX l D kCl (kTy cI cZ cT) yX3_works wsX3_works ({ frames := 7, cells := 1, slots := 6, locals := 102 }) 1 6 [.ref c, .int (nI k), .int (nI e)] (WB cI cZ cT c a b t g t2 g2) "java/lang/IllegalArgumentException" := by
  refine CX_of (own := RX3) (by decide) rfl rfl (Nat.le_of_ble_eq_true rfl) rfl (fun X A hC hT => ?_)
  refine V_iload_n hC dX3_works_0 rfl rfl rfl ?_
  refine V_callVS0 (n := 1) hC dX3_works_1 (k_X3_needSection l D cI cZ cT _ hk) gX3_works_X3_needSection rfl ⟨rfl, rfl⟩ (by decide +kernel) ⟨Nat.le_of_ble_eq_true rfl, Nat.le_of_ble_eq_true rfl⟩ ⟨Nat.le_of_ble_eq_true rfl, Nat.le_of_ble_eq_true rfl⟩ rfl rfl (by exact Nat.le_of_ble_eq_true rfl) rfl (fun u_1 h_1 => ?_)
  refine V_iload_n hC dX3_works_4 rfl rfl rfl ?_
  refine V_callVS0 (n := 1) hC dX3_works_5 (k_X3_needSection l D cI cZ cT _ he) gX3_works_X3_needSection rfl ⟨rfl, rfl⟩ (by decide +kernel) ⟨Nat.le_of_ble_eq_true rfl, Nat.le_of_ble_eq_true rfl⟩ ⟨Nat.le_of_ble_eq_true rfl, Nat.le_of_ble_eq_true rfl⟩ rfl rfl (by exact Nat.le_of_ble_eq_true rfl) rfl (fun u_5 h_5 => ?_)
  refine V_iload_n hC dX3_works_8 rfl rfl rfl ?_
  refine V_iload_n hC dX3_works_9 rfl rfl rfl ?_
  refine V_icmp_gt (tgt := 17) hC dX3_works_10 (by decide) rfl (fun c_10 => ?_) (fun c_10 => ?_)
  · refine V_iconst (v := 0) hC dX3_works_17 (by decide) rfl ?_
    refine V_callXS (n := 1) (pre := _) (suf := []) hC dX3_works_18 (k_X3_needX l D cI cZ cT hfl _ rfl) gX3_works_X3_need rfl ⟨rfl, rfl⟩ (by decide +kernel) ⟨Nat.le_of_ble_eq_true rfl, Nat.le_of_ble_eq_true rfl⟩ ⟨Nat.le_of_ble_eq_true rfl, Nat.le_of_ble_eq_true rfl⟩ (List.append_nil _).symm rfl rfl (by exact Nat.le_of_ble_eq_true rfl) ?_
    exact VT_out hC hT (Nat.le_of_ble_eq_true rfl) (Nat.le_of_ble_eq_true rfl) rfl
  · exact absurd h c_10
set_option maxRecDepth 100000 in
set_option maxHeartbeats 4000000 in
theorem k_X3_passX (l : Launch) (D : va_G) (cI cZ cT : ClassId) (hfl : l.stackTraces = false) (c : Nat) (a b : Nat → Nat) (t g t2 g2 : Nat → Nat → Int32) (n : Int32) (h : m_in n 1 300 = 0) : CX l D kCl (kTy cI cZ cT) yX3_pass wsX3_pass ({ frames := 7, cells := 1, slots := 6, locals := 102 }) 1 6 [.ref c, .int n] (WB cI cZ cT c a b t g t2 g2) "java/lang/IllegalArgumentException" := by
  refine CX_of (own := RX3) (by decide) rfl rfl (Nat.le_of_ble_eq_true rfl) rfl (fun X A hC hT => ?_)
  refine V_iload_n hC dX3_pass_0 rfl rfl rfl ?_
  refine V_iconst (v := 1) hC dX3_pass_1 (by decide) rfl ?_
  refine V_sipush (v := 300) hC dX3_pass_2 (by decide) rfl ?_
  refine V_callIS0 (n := 3) hC dX3_pass_5 (k_X3_isWithin l D cI cZ cT _ _ _) gX3_pass_X3_isWithin rfl ⟨rfl, rfl⟩ (by decide +kernel) ⟨Nat.le_of_ble_eq_true rfl, Nat.le_of_ble_eq_true rfl⟩ ⟨Nat.le_of_ble_eq_true rfl, Nat.le_of_ble_eq_true rfl⟩ rfl rfl (by exact Nat.le_of_ble_eq_true rfl) rfl (fun r_5 u_5 h_5 => ?_)
  subst h_5
  refine V_callXS (n := 1) (pre := _) (suf := []) hC dX3_pass_8 (k_X3_needX l D cI cZ cT hfl _ h) gX3_pass_X3_need rfl ⟨rfl, rfl⟩ (by decide +kernel) ⟨Nat.le_of_ble_eq_true rfl, Nat.le_of_ble_eq_true rfl⟩ ⟨Nat.le_of_ble_eq_true rfl, Nat.le_of_ble_eq_true rfl⟩ (List.append_nil _).symm rfl rfl (by exact Nat.le_of_ble_eq_true rfl) ?_
  exact VT_out hC hT (Nat.le_of_ble_eq_true rfl) (Nat.le_of_ble_eq_true rfl) rfl
set_option maxRecDepth 100000 in
set_option maxHeartbeats 4000000 in
theorem k_X3_ofSectionX1 (l : Launch) (D : va_G) (cI cZ cT : ClassId) (hfl : l.stackTraces = false) (c : Nat) (a b : Nat → Nat) (t g t2 g2 : Nat → Nat → Int32) (k w : Int32) (h : m_in k 0 19 = 0) : CX l D kCl (kTy cI cZ cT) yX3_ofSection wsX3_ofSection ({ frames := 8, cells := 1, slots := 6, locals := 123 }) 1 6 [.ref c, .int k, .int w] (WB cI cZ cT c a b t g t2 g2) "java/lang/IndexOutOfBoundsException" := by
  refine CX_of (own := RX3) (by decide) rfl rfl (Nat.le_of_ble_eq_true rfl) rfl (fun X A hC hT => ?_)
  refine V_iload_n hC dX3_ofSection_0 rfl rfl rfl ?_
  refine V_callXS (n := 1) (pre := _) (suf := []) hC dX3_ofSection_1 (k_X3_needSectionX l D cI cZ cT hfl _ h) gX3_ofSection_X3_needSection rfl ⟨rfl, rfl⟩ (by decide +kernel) ⟨Nat.le_of_ble_eq_true rfl, Nat.le_of_ble_eq_true rfl⟩ ⟨Nat.le_of_ble_eq_true rfl, Nat.le_of_ble_eq_true rfl⟩ (List.append_nil _).symm rfl rfl (by exact Nat.le_of_ble_eq_true rfl) ?_
  exact VT_out hC hT (Nat.le_of_ble_eq_true rfl) (Nat.le_of_ble_eq_true rfl) rfl
set_option maxRecDepth 100000 in
set_option maxHeartbeats 4000000 in
theorem k_X3_ofSectionX2 (l : Launch) (D : va_G) (cI cZ cT : ClassId) (hfl : l.stackTraces = false) (c : Nat) (a b : Nat → Nat) (t g t2 g2 : Nat → Nat → Int32) (k : Nat) (hk : k < 20) (w : Int32) (h : m_in w 0 4 = 0) : CX l D kCl (kTy cI cZ cT) yX3_ofSection wsX3_ofSection ({ frames := 7, cells := 1, slots := 6, locals := 102 }) 1 6 [.ref c, .int (nI k), .int w] (WB cI cZ cT c a b t g t2 g2) "java/lang/IllegalArgumentException" := by
  refine CX_of (own := RX3) (by decide) rfl rfl (Nat.le_of_ble_eq_true rfl) rfl (fun X A hC hT => ?_)
  refine V_iload_n hC dX3_ofSection_0 rfl rfl rfl ?_
  refine V_callVS0 (n := 1) hC dX3_ofSection_1 (k_X3_needSection l D cI cZ cT _ hk) gX3_ofSection_X3_needSection rfl ⟨rfl, rfl⟩ (by decide +kernel) ⟨Nat.le_of_ble_eq_true rfl, Nat.le_of_ble_eq_true rfl⟩ ⟨Nat.le_of_ble_eq_true rfl, Nat.le_of_ble_eq_true rfl⟩ rfl rfl (by exact Nat.le_of_ble_eq_true rfl) rfl (fun u_1 h_1 => ?_)
  refine V_iload_n hC dX3_ofSection_4 rfl rfl rfl ?_
  refine V_iconst (v := 0) hC dX3_ofSection_5 (by decide) rfl ?_
  refine V_iconst (v := 4) hC dX3_ofSection_6 (by decide) rfl ?_
  refine V_callIS0 (n := 3) hC dX3_ofSection_7 (k_X3_isWithin l D cI cZ cT _ _ _) gX3_ofSection_X3_isWithin rfl ⟨rfl, rfl⟩ (by decide +kernel) ⟨Nat.le_of_ble_eq_true rfl, Nat.le_of_ble_eq_true rfl⟩ ⟨Nat.le_of_ble_eq_true rfl, Nat.le_of_ble_eq_true rfl⟩ rfl rfl (by exact Nat.le_of_ble_eq_true rfl) rfl (fun r_7 u_7 h_7 => ?_)
  subst h_7
  refine V_callXS (n := 1) (pre := _) (suf := []) hC dX3_ofSection_10 (k_X3_needX l D cI cZ cT hfl _ h) gX3_ofSection_X3_need rfl ⟨rfl, rfl⟩ (by decide +kernel) ⟨Nat.le_of_ble_eq_true rfl, Nat.le_of_ble_eq_true rfl⟩ ⟨Nat.le_of_ble_eq_true rfl, Nat.le_of_ble_eq_true rfl⟩ (List.append_nil _).symm rfl rfl (by exact Nat.le_of_ble_eq_true rfl) ?_
  exact VT_out hC hT (Nat.le_of_ble_eq_true rfl) (Nat.le_of_ble_eq_true rfl) rfl
set_option maxRecDepth 100000 in
set_option maxHeartbeats 4000000 in
theorem k_X3_manyX (l : Launch) (D : va_G) (cI cZ cT : ClassId) (hfl : l.stackTraces = false) (c : Nat) (a b : Nat → Nat) (t g t2 g2 : Nat → Nat → Int32) (w : Int32) (h : m_in w 0 9 = 0) : CX l D kCl (kTy cI cZ cT) yX3_many wsX3_many ({ frames := 7, cells := 1, slots := 6, locals := 102 }) 1 6 [.ref c, .int w] (WB cI cZ cT c a b t g t2 g2) "java/lang/IllegalArgumentException" := by
  refine CX_of (own := RX3) (by decide) rfl rfl (Nat.le_of_ble_eq_true rfl) rfl (fun X A hC hT => ?_)
  refine V_iload_n hC dX3_many_0 rfl rfl rfl ?_
  refine V_iconst (v := 0) hC dX3_many_1 (by decide) rfl ?_
  refine V_bipush (v := 9) hC dX3_many_2 (by decide) rfl ?_
  refine V_callIS0 (n := 3) hC dX3_many_4 (k_X3_isWithin l D cI cZ cT _ _ _) gX3_many_X3_isWithin rfl ⟨rfl, rfl⟩ (by decide +kernel) ⟨Nat.le_of_ble_eq_true rfl, Nat.le_of_ble_eq_true rfl⟩ ⟨Nat.le_of_ble_eq_true rfl, Nat.le_of_ble_eq_true rfl⟩ rfl rfl (by exact Nat.le_of_ble_eq_true rfl) rfl (fun r_4 u_4 h_4 => ?_)
  subst h_4
  refine V_callXS (n := 1) (pre := _) (suf := []) hC dX3_many_7 (k_X3_needX l D cI cZ cT hfl _ h) gX3_many_X3_need rfl ⟨rfl, rfl⟩ (by decide +kernel) ⟨Nat.le_of_ble_eq_true rfl, Nat.le_of_ble_eq_true rfl⟩ ⟨Nat.le_of_ble_eq_true rfl, Nat.le_of_ble_eq_true rfl⟩ (List.append_nil _).symm rfl rfl (by exact Nat.le_of_ble_eq_true rfl) ?_
  exact VT_out hC hT (Nat.le_of_ble_eq_true rfl) (Nat.le_of_ble_eq_true rfl) rfl
set_option maxRecDepth 100000 in
set_option maxHeartbeats 4000000 in
theorem k_X3_worksInX1 (l : Launch) (D : va_G) (cI cZ cT : ClassId) (hfl : l.stackTraces = false) (c : Nat) (a b : Nat → Nat) (t g t2 g2 : Nat → Nat → Int32) (k l1 n : Int32) (h : m_in k 0 19 = 0) : CX l D kCl (kTy cI cZ cT) yX3_worksIn wsX3_worksIn ({ frames := 8, cells := 1, slots := 6, locals := 123 }) 1 6 [.ref c, .int k, .int l1, .int n] (WB cI cZ cT c a b t g t2 g2) "java/lang/IndexOutOfBoundsException" := by
  refine CX_of (own := RX3) (by decide) rfl rfl (Nat.le_of_ble_eq_true rfl) rfl (fun X A hC hT => ?_)
  refine V_iload_n hC dX3_worksIn_0 rfl rfl rfl ?_
  refine V_callXS (n := 1) (pre := _) (suf := []) hC dX3_worksIn_1 (k_X3_needSectionX l D cI cZ cT hfl _ h) gX3_worksIn_X3_needSection rfl ⟨rfl, rfl⟩ (by decide +kernel) ⟨Nat.le_of_ble_eq_true rfl, Nat.le_of_ble_eq_true rfl⟩ ⟨Nat.le_of_ble_eq_true rfl, Nat.le_of_ble_eq_true rfl⟩ (List.append_nil _).symm rfl rfl (by exact Nat.le_of_ble_eq_true rfl) ?_
  exact VT_out hC hT (Nat.le_of_ble_eq_true rfl) (Nat.le_of_ble_eq_true rfl) rfl
set_option maxRecDepth 100000 in
set_option maxHeartbeats 4000000 in
theorem k_X3_worksInX3 (l : Launch) (D : va_G) (cI cZ cT : ClassId) (hfl : l.stackTraces = false) (c : Nat) (a b : Nat → Nat) (t g t2 g2 : Nat → Nat → Int32) (k : Nat) (hk : k < 20) (l1 n : Int32) (h : m_in l1 0 19 = 0) : CX l D kCl (kTy cI cZ cT) yX3_worksIn wsX3_worksIn ({ frames := 8, cells := 1, slots := 6, locals := 123 }) 1 6 [.ref c, .int (nI k), .int l1, .int n] (WB cI cZ cT c a b t g t2 g2) "java/lang/IndexOutOfBoundsException" := by
  refine CX_of (own := RX3) (by decide) rfl rfl (Nat.le_of_ble_eq_true rfl) rfl (fun X A hC hT => ?_)
  refine V_iload_n hC dX3_worksIn_0 rfl rfl rfl ?_
  refine V_callVS0 (n := 1) hC dX3_worksIn_1 (k_X3_needSection l D cI cZ cT _ hk) gX3_worksIn_X3_needSection rfl ⟨rfl, rfl⟩ (by decide +kernel) ⟨Nat.le_of_ble_eq_true rfl, Nat.le_of_ble_eq_true rfl⟩ ⟨Nat.le_of_ble_eq_true rfl, Nat.le_of_ble_eq_true rfl⟩ rfl rfl (by exact Nat.le_of_ble_eq_true rfl) rfl (fun u_1 h_1 => ?_)
  refine V_iload_n hC dX3_worksIn_4 rfl rfl rfl ?_
  refine V_callXS (n := 1) (pre := _) (suf := []) hC dX3_worksIn_5 (k_X3_needSectionX l D cI cZ cT hfl _ h) gX3_worksIn_X3_needSection rfl ⟨rfl, rfl⟩ (by decide +kernel) ⟨Nat.le_of_ble_eq_true rfl, Nat.le_of_ble_eq_true rfl⟩ ⟨Nat.le_of_ble_eq_true rfl, Nat.le_of_ble_eq_true rfl⟩ (List.append_nil _).symm rfl rfl (by exact Nat.le_of_ble_eq_true rfl) ?_
  exact VT_out hC hT (Nat.le_of_ble_eq_true rfl) (Nat.le_of_ble_eq_true rfl) rfl
set_option maxRecDepth 100000 in
set_option maxHeartbeats 4000000 in
theorem k_X3_worksInX2 (l : Launch) (D : va_G) (cI cZ cT : ClassId) (hfl : l.stackTraces = false) (c : Nat) (a b : Nat → Nat) (t g t2 g2 : Nat → Nat → Int32) (k e : Nat) (hk : k < 20) (he : e < 20) (n : Int32) (h : nI e < nI k ∨ m_in n 1 300 = 0) : CX l D kCl (kTy cI cZ cT) yX3_worksIn wsX3_worksIn ({ frames := 7, cells := 1, slots := 6, locals := 102 }) 1 6 [.ref c, .int (nI k), .int (nI e), .int n] (WB cI cZ cT c a b t g t2 g2) "java/lang/IllegalArgumentException" := by
  refine CX_of (own := RX3) (by decide) rfl rfl (Nat.le_of_ble_eq_true rfl) rfl (fun X A hC hT => ?_)
  refine V_iload_n hC dX3_worksIn_0 rfl rfl rfl ?_
  refine V_callVS0 (n := 1) hC dX3_worksIn_1 (k_X3_needSection l D cI cZ cT _ hk) gX3_worksIn_X3_needSection rfl ⟨rfl, rfl⟩ (by decide +kernel) ⟨Nat.le_of_ble_eq_true rfl, Nat.le_of_ble_eq_true rfl⟩ ⟨Nat.le_of_ble_eq_true rfl, Nat.le_of_ble_eq_true rfl⟩ rfl rfl (by exact Nat.le_of_ble_eq_true rfl) rfl (fun u_1 h_1 => ?_)
  refine V_iload_n hC dX3_worksIn_4 rfl rfl rfl ?_
  refine V_callVS0 (n := 1) hC dX3_worksIn_5 (k_X3_needSection l D cI cZ cT _ he) gX3_worksIn_X3_needSection rfl ⟨rfl, rfl⟩ (by decide +kernel) ⟨Nat.le_of_ble_eq_true rfl, Nat.le_of_ble_eq_true rfl⟩ ⟨Nat.le_of_ble_eq_true rfl, Nat.le_of_ble_eq_true rfl⟩ rfl rfl (by exact Nat.le_of_ble_eq_true rfl) rfl (fun u_5 h_5 => ?_)
  refine V_iload_n hC dX3_worksIn_8 rfl rfl rfl ?_
  refine V_iload_n hC dX3_worksIn_9 rfl rfl rfl ?_
  refine V_icmp_gt (tgt := 28) hC dX3_worksIn_10 (by decide) rfl (fun c_10 => ?_) (fun c_10 => ?_)
  · refine V_iconst (v := 0) hC dX3_worksIn_28 (by decide) rfl ?_
    refine V_callXS (n := 1) (pre := _) (suf := []) hC dX3_worksIn_29 (k_X3_needX l D cI cZ cT hfl _ rfl) gX3_worksIn_X3_need rfl ⟨rfl, rfl⟩ (by decide +kernel) ⟨Nat.le_of_ble_eq_true rfl, Nat.le_of_ble_eq_true rfl⟩ ⟨Nat.le_of_ble_eq_true rfl, Nat.le_of_ble_eq_true rfl⟩ (List.append_nil _).symm rfl rfl (by exact Nat.le_of_ble_eq_true rfl) ?_
    exact VT_out hC hT (Nat.le_of_ble_eq_true rfl) (Nat.le_of_ble_eq_true rfl) rfl
  · refine V_iload_n hC dX3_worksIn_13 rfl rfl rfl ?_
    refine V_iconst (v := 1) hC dX3_worksIn_14 (by decide) rfl ?_
    refine V_sipush (v := 300) hC dX3_worksIn_15 (by decide) rfl ?_
    refine V_callIS0 (n := 3) hC dX3_worksIn_18 (k_X3_isWithin l D cI cZ cT _ _ _) gX3_worksIn_X3_isWithin rfl ⟨rfl, rfl⟩ (by decide +kernel) ⟨Nat.le_of_ble_eq_true rfl, Nat.le_of_ble_eq_true rfl⟩ ⟨Nat.le_of_ble_eq_true rfl, Nat.le_of_ble_eq_true rfl⟩ rfl rfl (by exact Nat.le_of_ble_eq_true rfl) rfl (fun r_18 u_18 h_18 => ?_)
    subst h_18
    refine V_if_eq (tgt := 28) hC dX3_worksIn_21 (by decide) rfl (fun c_21 => ?_) (fun c_21 => ?_)
    · refine V_iconst (v := 0) hC dX3_worksIn_28 (by decide) rfl ?_
      refine V_callXS (n := 1) (pre := _) (suf := []) hC dX3_worksIn_29 (k_X3_needX l D cI cZ cT hfl _ rfl) gX3_worksIn_X3_need rfl ⟨rfl, rfl⟩ (by decide +kernel) ⟨Nat.le_of_ble_eq_true rfl, Nat.le_of_ble_eq_true rfl⟩ ⟨Nat.le_of_ble_eq_true rfl, Nat.le_of_ble_eq_true rfl⟩ (List.append_nil _).symm rfl rfl (by exact Nat.le_of_ble_eq_true rfl) ?_
      exact VT_out hC hT (Nat.le_of_ble_eq_true rfl) (Nat.le_of_ble_eq_true rfl) rfl
    · exact (h.elim c_10 c_21).elim
