theorem lk13_L_section : Cond.classLink RL 13 "java/lang/IndexOutOfBoundsException" ∈ wsL_section := by decide +kernel
theorem lk15_L_section : Cond.classLink RL 15 "java/lang/IllegalArgumentException" ∈ wsL_section := by decide +kernel
set_option maxRecDepth 100000 in
set_option maxHeartbeats 4000000 in
theorem k_L_section (l : Launch) (D : va_G) (cI cZ cT : ClassId) (hfl : l.stackTraces = false) (c : Nat) (a b : Nat → Nat) (o : Nat) (f : Nat → Int64) (k : Int32) (e : Int32) (g : Int32) (p : Int32) (hb : b01 p) : CW l D kC2 (kT2 D cI cZ cT) yL_section wsL_section ({ frames := 9, cells := 1, slots := 6, locals := 148 }) 1 6 [.ref c, .int k, .int e, .int g, .int p, .ref o] (WB cI cZ cT c a b tI gI tI gI ++ [(o, .inl (D.1 102, 1, .inr (.inl f)))]) (S := (Nat → Int64)) (fun r u => r = x_sec k e g ∧ (x_sec k e g = 0 → u 0 = (40 : Int32).toInt64)) (fun u => [(o, .inl (D.1 102, 1, .inr (.inl u)))]) := by
  refine CW_of (own := RL) (by decide) rfl rfl (Nat.le_of_ble_eq_true rfl) rfl (fun X A hC hH hE => ?_)
  refine V_aload hC dL_section_0 rfl rfl ?_
  refine V_iconst (v := 0) hC dL_section_2 (by decide) rfl ?_
  refine V_aload_n hC dL_section_3 rfl rfl rfl ?_
  refine V_iload_n hC dL_section_4 rfl rfl rfl ?_
  refine V_iload_n hC dL_section_5 rfl rfl rfl ?_
  refine V_iload_n hC dL_section_6 rfl rfl rfl ?_
  refine V_iload hC dL_section_7 rfl rfl ?_
  rcases x_sec_c k e g with ⟨h, hx⟩ | ⟨i, hi, rfl, h, hx⟩ | ⟨i, hi, rfl, h1, h2, hx⟩
  · refine V_callXV (q0 := 0) (n := 4) (pre := []) hC dL_section_9 (CX_up (ws0 := []) Sb2 (Lo_of rfl) (k_X3_sectionX1 l D cI cZ cT hfl c a b _ _ _ _ _ _ _ _ h)) gL_section_X3_section rfl ⟨rfl, rfl⟩ (by decide +kernel) ⟨Nat.le_of_ble_eq_true rfl, Nat.le_of_ble_eq_true rfl⟩ ⟨Nat.le_of_ble_eq_true rfl, Nat.le_of_ble_eq_true rfl⟩ rfl rfl rfl rfl rfl (by exact Nat.le_of_ble_eq_true rfl) ?_
    refine VT_catch (name := "java/lang/IndexOutOfBoundsException") hC hH ((tableOf [(0, 14, 17, 13), (0, 14, 21, 15)]).take 0) ⟨0, 14, 17, 13⟩ ((tableOf [(0, 14, 17, 13), (0, 14, 21, 15)]).drop 1) rfl (fun z hz => absurd hz List.not_mem_nil) (by decide) (by decide) lk13_L_section (by decide) (fun z => ?_)
    show V X _ _ _ _ 17 _
    refine V_dropL ?_
    refine V_astore hC dL_section_17 (Nat.le_of_ble_eq_true rfl) rfl ?_
    refine V_iconst (v := 1) hC dL_section_19 (by decide) rfl ?_
    refine V_widen (k := 1) (n := 6) (Nat.le_of_ble_eq_true rfl) (Nat.le_of_ble_eq_true rfl) ?_
    exact hE _ _ _ _ _ dL_section_20 rfl rfl (by first | exact ⟨hx.symm, fun h => absurd (hx.symm.trans h) (by decide)⟩ | exact ⟨hx.symm, fun _ => congrArg Int32.toInt64 (fl_in i hi)⟩)
  · refine V_callXV (q0 := 0) (n := 4) (pre := []) hC dL_section_9 (CX_up (ws0 := []) Sb2 (Lo_of rfl) (k_X3_sectionX2 l D cI cZ cT hfl c a b _ _ _ _ i hi _ _ _ h)) gL_section_X3_section rfl ⟨rfl, rfl⟩ (by decide +kernel) ⟨Nat.le_of_ble_eq_true rfl, Nat.le_of_ble_eq_true rfl⟩ ⟨Nat.le_of_ble_eq_true rfl, Nat.le_of_ble_eq_true rfl⟩ rfl rfl rfl rfl rfl (by exact Nat.le_of_ble_eq_true rfl) ?_
    refine VT_catch (name := "java/lang/IllegalArgumentException") hC hH ((tableOf [(0, 14, 17, 13), (0, 14, 21, 15)]).take 1) ⟨0, 14, 21, 15⟩ ((tableOf [(0, 14, 17, 13), (0, 14, 21, 15)]).drop 2) rfl (fun z hz => by obtain rfl := List.mem_singleton.mp hz; exact ⟨by decide, _, lk13_L_section, rfl, rfl⟩) (by decide) (by decide) lk15_L_section (by decide) (fun z => ?_)
    show V X _ _ _ _ 21 _
    refine V_dropL ?_
    refine V_astore hC dL_section_21 (Nat.le_of_ble_eq_true rfl) rfl ?_
    refine V_iconst (v := 2) hC dL_section_23 (by decide) rfl ?_
    refine V_widen (k := 1) (n := 6) (Nat.le_of_ble_eq_true rfl) (Nat.le_of_ble_eq_true rfl) ?_
    exact hE _ _ _ _ _ dL_section_24 rfl rfl (by first | exact ⟨hx.symm, fun h => absurd (hx.symm.trans h) (by decide)⟩ | exact ⟨hx.symm, fun _ => congrArg Int32.toInt64 (fl_in i hi)⟩)
  · refine V_callIVf (q0 := 0) (n := 4) (pre := []) hC dL_section_9 (CI_up (ws0 := []) Sb2 (Lo_of rfl) (k_X3_section l D cI cZ cT c a b _ _ _ _ i hi _ _ _ h1 h2 hb)) gL_section_X3_section rfl ⟨rfl, rfl⟩ (by decide +kernel) ⟨Nat.le_of_ble_eq_true rfl, Nat.le_of_ble_eq_true rfl⟩ ⟨Nat.le_of_ble_eq_true rfl, Nat.le_of_ble_eq_true rfl⟩ rfl rfl rfl rfl rfl (by exact Nat.le_of_ble_eq_true rfl) rfl (fun r_9 u_9 h_9 => ?_)
    subst h_9
    refine V_dropM ?_
    refine V_i2l hC dL_section_12 rfl ?_
    refine V_last (q0 := 0) hC dL_section_13 rfl 5 rfl (show (0 : Int32) = nI 0 from rfl) (by decide) (by decide) rfl rfl ?_
    refine V_goto (tgt := 25) hC dL_section_14 (by decide) ?_
    refine V_iconst (v := 0) hC dL_section_25 (by decide) rfl ?_
    refine V_widen (k := 1) (n := 6) (Nat.le_of_ble_eq_true rfl) (Nat.le_of_ble_eq_true rfl) ?_
    exact hE _ _ _ _ _ dL_section_26 rfl rfl (by first | exact ⟨hx.symm, fun h => absurd (hx.symm.trans h) (by decide)⟩ | exact ⟨hx.symm, fun _ => congrArg Int32.toInt64 (fl_in i hi)⟩)
theorem lk15_L_station : Cond.classLink RL 15 "java/lang/IllegalArgumentException" ∈ wsL_station := by decide +kernel
set_option maxRecDepth 100000 in
set_option maxHeartbeats 4000000 in
theorem k_L_station (l : Launch) (D : va_G) (cI cZ cT : ClassId) (hfl : l.stackTraces = false) (c : Nat) (a b : Nat → Nat) (o : Nat) (f : Nat → Int64) (k : Int32) (d : Int32)  : CW l D kC2 (kT2 D cI cZ cT) yL_station wsL_station ({ frames := 8, cells := 1, slots := 6, locals := 124 }) 1 6 [.ref c, .int k, .int d, .ref o] (WB cI cZ cT c a b tI gI tI gI ++ [(o, .inl (D.1 102, 1, .inr (.inl f)))]) (S := (Nat → Int64)) (fun r u => r = x_sta k d ∧ (x_sta k d = 0 → u 0 = (0 : Int32).toInt64)) (fun u => [(o, .inl (D.1 102, 1, .inr (.inl u)))]) := by
  refine CW_of (own := RL) (by decide) rfl rfl (Nat.le_of_ble_eq_true rfl) rfl (fun X A hC hH hE => ?_)
  refine V_aload_n hC dL_station_0 rfl rfl rfl ?_
  refine V_iconst (v := 0) hC dL_station_1 (by decide) rfl ?_
  refine V_aload_n hC dL_station_2 rfl rfl rfl ?_
  refine V_iload_n hC dL_station_3 rfl rfl rfl ?_
  refine V_iload_n hC dL_station_4 rfl rfl rfl ?_
  rcases x_sta_c k d with ⟨h, hx⟩ | ⟨h1, h2, hx⟩
  · refine V_callXV (q0 := 0) (n := 2) (pre := []) hC dL_station_5 (CX_up (ws0 := []) Sb2 (Lo_of rfl) (k_X3_stationX l D cI cZ cT hfl c a b _ _ _ _ rfl _ _ h)) gL_station_X3_station rfl ⟨rfl, rfl⟩ (by decide +kernel) ⟨Nat.le_of_ble_eq_true rfl, Nat.le_of_ble_eq_true rfl⟩ ⟨Nat.le_of_ble_eq_true rfl, Nat.le_of_ble_eq_true rfl⟩ rfl rfl rfl rfl rfl (by exact Nat.le_of_ble_eq_true rfl) ?_
    refine VT_catch (name := "java/lang/IllegalArgumentException") hC hH ((tableOf [(0, 10, 13, 15), (0, 10, 17, 21)]).take 0) ⟨0, 10, 13, 15⟩ ((tableOf [(0, 10, 13, 15), (0, 10, 17, 21)]).drop 1) rfl (fun z hz => absurd hz List.not_mem_nil) (by decide) (by decide) lk15_L_station (by decide) (fun z => ?_)
    show V X _ _ _ _ 13 _
    refine V_dropL ?_
    refine V_astore hC dL_station_13 (Nat.le_of_ble_eq_true rfl) rfl ?_
    refine V_iconst (v := 1) hC dL_station_15 (by decide) rfl ?_
    refine V_widen (k := 1) (n := 6) (Nat.le_of_ble_eq_true rfl) (Nat.le_of_ble_eq_true rfl) ?_
    exact hE _ _ _ _ _ dL_station_16 rfl rfl (by first | exact ⟨hx.symm, fun h => absurd (hx.symm.trans h) (by decide)⟩ | exact ⟨hx.symm, fun _ => rfl⟩)
  · refine V_callIVf (q0 := 0) (n := 2) (pre := []) hC dL_station_5 (CI_up (ws0 := []) Sb2 (Lo_of rfl) (k_X3_station l D cI cZ cT c a b _ _ _ _ 0 0 0 okI _ _ h1 (fun k h => absurd h (Nat.not_lt_zero _)) h2 (by decide) rfl)) gL_station_X3_station rfl ⟨rfl, rfl⟩ (by decide +kernel) ⟨Nat.le_of_ble_eq_true rfl, Nat.le_of_ble_eq_true rfl⟩ ⟨Nat.le_of_ble_eq_true rfl, Nat.le_of_ble_eq_true rfl⟩ rfl rfl rfl rfl rfl (by exact Nat.le_of_ble_eq_true rfl) rfl (fun r_5 u_5 h_5 => ?_)
    subst h_5
    refine V_dropM ?_
    refine V_i2l hC dL_station_8 rfl ?_
    refine V_last (q0 := 0) hC dL_station_9 rfl 5 rfl (show (0 : Int32) = nI 0 from rfl) (by decide) (by decide) rfl rfl ?_
    refine V_goto (tgt := 21) hC dL_station_10 (by decide) ?_
    refine V_iconst (v := 0) hC dL_station_21 (by decide) rfl ?_
    refine V_widen (k := 1) (n := 6) (Nat.le_of_ble_eq_true rfl) (Nat.le_of_ble_eq_true rfl) ?_
    exact hE _ _ _ _ _ dL_station_22 rfl rfl (by first | exact ⟨hx.symm, fun h => absurd (hx.symm.trans h) (by decide)⟩ | exact ⟨hx.symm, fun _ => rfl⟩)
theorem lk15_L_train : Cond.classLink RL 15 "java/lang/IllegalArgumentException" ∈ wsL_train := by decide +kernel
set_option maxRecDepth 100000 in
set_option maxHeartbeats 4000000 in
theorem k_L_train (l : Launch) (D : va_G) (cI cZ cT : ClassId) (hfl : l.stackTraces = false) (c : Nat) (a b : Nat → Nat) (o : Nat) (f : Nat → Int64) (k : Int32) (d : Int32) (p : Int32) (s : Int32) (hb : b01 s) : CW l D kC2 (kT2 D cI cZ cT) yL_train wsL_train ({ frames := 8, cells := 1, slots := 6, locals := 126 }) 1 6 [.ref c, .int k, .int d, .int p, .int s, .ref o] (WB cI cZ cT c a b tI gI tI gI ++ [(o, .inl (D.1 102, 1, .inr (.inl f)))]) (S := (Nat → Int64)) (fun r u => r = x_trn k d p ∧ (x_trn k d p = 0 → u 0 = (0 : Int32).toInt64)) (fun u => [(o, .inl (D.1 102, 1, .inr (.inl u)))]) := by
  refine CW_of (own := RL) (by decide) rfl rfl (Nat.le_of_ble_eq_true rfl) rfl (fun X A hC hH hE => ?_)
  refine V_aload hC dL_train_0 rfl rfl ?_
  refine V_iconst (v := 0) hC dL_train_2 (by decide) rfl ?_
  refine V_aload_n hC dL_train_3 rfl rfl rfl ?_
  refine V_iload_n hC dL_train_4 rfl rfl rfl ?_
  refine V_iload_n hC dL_train_5 rfl rfl rfl ?_
  refine V_iload_n hC dL_train_6 rfl rfl rfl ?_
  refine V_iload hC dL_train_7 rfl rfl ?_
  rcases x_trn_c k d p with ⟨h, hx⟩ | ⟨h1, h2, h3, hx⟩
  · refine V_callXV (q0 := 0) (n := 4) (pre := []) hC dL_train_9 (CX_up (ws0 := []) Sb2 (Lo_of rfl) (k_X3_trainX l D cI cZ cT hfl c a b _ _ _ _ _ _ _ _ h)) gL_train_X3_train rfl ⟨rfl, rfl⟩ (by decide +kernel) ⟨Nat.le_of_ble_eq_true rfl, Nat.le_of_ble_eq_true rfl⟩ ⟨Nat.le_of_ble_eq_true rfl, Nat.le_of_ble_eq_true rfl⟩ rfl rfl rfl rfl rfl (by exact Nat.le_of_ble_eq_true rfl) ?_
    refine VT_catch (name := "java/lang/IllegalArgumentException") hC hH ((tableOf [(0, 14, 17, 15), (0, 14, 21, 21)]).take 0) ⟨0, 14, 17, 15⟩ ((tableOf [(0, 14, 17, 15), (0, 14, 21, 21)]).drop 1) rfl (fun z hz => absurd hz List.not_mem_nil) (by decide) (by decide) lk15_L_train (by decide) (fun z => ?_)
    show V X _ _ _ _ 17 _
    refine V_dropL ?_
    refine V_astore hC dL_train_17 (Nat.le_of_ble_eq_true rfl) rfl ?_
    refine V_iconst (v := 1) hC dL_train_19 (by decide) rfl ?_
    refine V_widen (k := 1) (n := 6) (Nat.le_of_ble_eq_true rfl) (Nat.le_of_ble_eq_true rfl) ?_
    exact hE _ _ _ _ _ dL_train_20 rfl rfl (by first | exact ⟨hx.symm, fun h => absurd (hx.symm.trans h) (by decide)⟩ | exact ⟨hx.symm, fun _ => rfl⟩)
  · refine V_callIVf (q0 := 0) (n := 4) (pre := []) hC dL_train_9 (CI_up (ws0 := []) Sb2 (Lo_of rfl) (k_X3_train l D cI cZ cT c a b _ _ _ _ 0 0 0 okI _ _ _ _ h1 h2 h3 (by decide) (fun k h => absurd h (Nat.not_lt_zero _)))) gL_train_X3_train rfl ⟨rfl, rfl⟩ (by decide +kernel) ⟨Nat.le_of_ble_eq_true rfl, Nat.le_of_ble_eq_true rfl⟩ ⟨Nat.le_of_ble_eq_true rfl, Nat.le_of_ble_eq_true rfl⟩ rfl rfl rfl rfl rfl (by exact Nat.le_of_ble_eq_true rfl) rfl (fun r_9 u_9 h_9 => ?_)
    subst h_9
    refine V_dropM ?_
    refine V_i2l hC dL_train_12 rfl ?_
    refine V_last (q0 := 0) hC dL_train_13 rfl 5 rfl (show (0 : Int32) = nI 0 from rfl) (by decide) (by decide) rfl rfl ?_
    refine V_goto (tgt := 25) hC dL_train_14 (by decide) ?_
    refine V_iconst (v := 0) hC dL_train_25 (by decide) rfl ?_
    refine V_widen (k := 1) (n := 6) (Nat.le_of_ble_eq_true rfl) (Nat.le_of_ble_eq_true rfl) ?_
    exact hE _ _ _ _ _ dL_train_26 rfl rfl (by first | exact ⟨hx.symm, fun h => absurd (hx.symm.trans h) (by decide)⟩ | exact ⟨hx.symm, fun _ => rfl⟩)
theorem lk13_L_whole : Cond.classLink RL 13 "java/lang/IndexOutOfBoundsException" ∈ wsL_whole := by decide +kernel
set_option maxRecDepth 100000 in
set_option maxHeartbeats 4000000 in
theorem k_L_whole (l : Launch) (D : va_G) (cI cZ cT : ClassId) (hfl : l.stackTraces = false) (c : Nat) (a b : Nat → Nat) (o : Nat) (f : Nat → Int64) (k : Int32) (p : Int32) (hb : b01 p) : CW l D kC2 (kT2 D cI cZ cT) yL_whole wsL_whole ({ frames := 9, cells := 1, slots := 6, locals := 147 }) 1 6 [.ref c, .int k, .int p, .ref o] (WB cI cZ cT c a b tI gI tI gI ++ [(o, .inl (D.1 102, 1, .inr (.inl f)))]) (S := (Nat → Int64)) (fun r _ => r = 1) (fun u => [(o, .inl (D.1 102, 1, .inr (.inl u)))]) := by
  refine CW_of (own := RL) (by decide) rfl rfl (Nat.le_of_ble_eq_true rfl) rfl (fun X A hC hH hE => ?_)
  refine V_aload_n hC dL_whole_0 rfl rfl rfl ?_
  refine V_iconst (v := 0) hC dL_whole_1 (by decide) rfl ?_
  refine V_aload_n hC dL_whole_2 rfl rfl rfl ?_
  refine V_iload_n hC dL_whole_3 rfl rfl rfl ?_
  refine V_iload_n hC dL_whole_4 rfl rfl rfl ?_
  refine V_callXV (q0 := 0) (n := 2) (pre := []) hC dL_whole_5 (CX_up (ws0 := []) Sb2 (Lo_of rfl) (k_X3_wholeX l D cI cZ cT hfl c a b _ _ _ _ rfl _ _)) gL_whole_X3_whole rfl ⟨rfl, rfl⟩ (by decide +kernel) ⟨Nat.le_of_ble_eq_true rfl, Nat.le_of_ble_eq_true rfl⟩ ⟨Nat.le_of_ble_eq_true rfl, Nat.le_of_ble_eq_true rfl⟩ rfl rfl rfl rfl rfl (by exact Nat.le_of_ble_eq_true rfl) ?_
  refine VT_catch (name := "java/lang/IndexOutOfBoundsException") hC hH ((tableOf [(0, 17, 20, 13)]).take 0) ⟨0, 17, 20, 13⟩ ((tableOf [(0, 17, 20, 13)]).drop 1) rfl (fun z hz => absurd hz List.not_mem_nil) (by decide) (by decide) lk13_L_whole (by decide) (fun z => ?_)
  show V X _ _ _ _ 20 _
  refine V_dropL ?_
  refine V_astore hC dL_whole_20 (Nat.le_of_ble_eq_true rfl) rfl ?_
  refine V_iconst (v := 1) hC dL_whole_22 (by decide) rfl ?_
  refine V_widen (k := 1) (n := 6) (Nat.le_of_ble_eq_true rfl) (Nat.le_of_ble_eq_true rfl) ?_
  exact hE _ _ _ _ _ dL_whole_23 rfl rfl rfl
theorem lk13_L_end : Cond.classLink RL 13 "java/lang/IndexOutOfBoundsException" ∈ wsL_end := by decide +kernel
set_option maxRecDepth 100000 in
set_option maxHeartbeats 4000000 in
theorem k_L_end (l : Launch) (D : va_G) (cI cZ cT : ClassId) (hfl : l.stackTraces = false) (c : Nat) (a b : Nat → Nat) (o : Nat) (f : Nat → Int64) (k : Int32)  : CW l D kC2 (kT2 D cI cZ cT) yL_end wsL_end ({ frames := 8, cells := 1, slots := 6, locals := 124 }) 1 6 [.ref c, .int k, .ref o] (WB cI cZ cT c a b tI gI tI gI ++ [(o, .inl (D.1 102, 1, .inr (.inl f)))]) (S := (Nat → Int64)) (fun r _ => r = 1) (fun u => [(o, .inl (D.1 102, 1, .inr (.inl u)))]) := by
  refine CW_of (own := RL) (by decide) rfl rfl (Nat.le_of_ble_eq_true rfl) rfl (fun X A hC hH hE => ?_)
  refine V_aload_n hC dL_end_0 rfl rfl rfl ?_
  refine V_iconst (v := 0) hC dL_end_1 (by decide) rfl ?_
  refine V_aload_n hC dL_end_2 rfl rfl rfl ?_
  refine V_iload_n hC dL_end_3 rfl rfl rfl ?_
  refine V_callXV (q0 := 0) (n := 1) (pre := []) hC dL_end_4 (CX_up (ws0 := []) Sb2 (Lo_of rfl) (k_X3_endX l D cI cZ cT hfl c a b _ _ _ _ rfl _)) gL_end_X3_end rfl ⟨rfl, rfl⟩ (by decide +kernel) ⟨Nat.le_of_ble_eq_true rfl, Nat.le_of_ble_eq_true rfl⟩ ⟨Nat.le_of_ble_eq_true rfl, Nat.le_of_ble_eq_true rfl⟩ rfl rfl rfl rfl rfl (by exact Nat.le_of_ble_eq_true rfl) ?_
  refine VT_catch (name := "java/lang/IndexOutOfBoundsException") hC hH ((tableOf [(0, 9, 12, 13)]).take 0) ⟨0, 9, 12, 13⟩ ((tableOf [(0, 9, 12, 13)]).drop 1) rfl (fun z hz => absurd hz List.not_mem_nil) (by decide) (by decide) lk13_L_end (by decide) (fun z => ?_)
  show V X _ _ _ _ 12 _
  refine V_dropL ?_
  refine V_astore_n hC dL_end_12 rfl (Nat.le_of_ble_eq_true rfl) rfl ?_
  refine V_iconst (v := 1) hC dL_end_13 (by decide) rfl ?_
  refine V_widen (k := 1) (n := 6) (Nat.le_of_ble_eq_true rfl) (Nat.le_of_ble_eq_true rfl) ?_
  exact hE _ _ _ _ _ dL_end_14 rfl rfl rfl
theorem lk13_L_ofTrain : Cond.classLink RL 13 "java/lang/IndexOutOfBoundsException" ∈ wsL_ofTrain := by decide +kernel
theorem lk15_L_ofTrain : Cond.classLink RL 15 "java/lang/IllegalArgumentException" ∈ wsL_ofTrain := by decide +kernel
set_option maxRecDepth 100000 in
set_option maxHeartbeats 4000000 in
theorem k_L_ofTrain (l : Launch) (D : va_G) (cI cZ cT : ClassId) (hfl : l.stackTraces = false) (c : Nat) (a b : Nat → Nat) (o : Nat) (f : Nat → Int64) (k : Int32) (w : Int32)  : CW l D kC2 (kT2 D cI cZ cT) yL_ofTrain wsL_ofTrain ({ frames := 9, cells := 1, slots := 6, locals := 146 }) 1 6 [.ref c, .int k, .int w, .ref o] (WB cI cZ cT c a b tI gI tI gI ++ [(o, .inl (D.1 102, 1, .inr (.inl f)))]) (S := (Nat → Int64)) (fun r _ => r = 1) (fun u => [(o, .inl (D.1 102, 1, .inr (.inl u)))]) := by
  refine CW_of (own := RL) (by decide) rfl rfl (Nat.le_of_ble_eq_true rfl) rfl (fun X A hC hH hE => ?_)
  refine V_aload_n hC dL_ofTrain_0 rfl rfl rfl ?_
  refine V_iconst (v := 0) hC dL_ofTrain_1 (by decide) rfl ?_
  refine V_aload_n hC dL_ofTrain_2 rfl rfl rfl ?_
  refine V_iload_n hC dL_ofTrain_3 rfl rfl rfl ?_
  refine V_iload_n hC dL_ofTrain_4 rfl rfl rfl ?_
  refine V_callXV (q0 := 0) (n := 2) (pre := []) hC dL_ofTrain_5 (CX_up (ws0 := []) Sb2 (Lo_of rfl) (k_X3_ofTrainX l D cI cZ cT hfl c a b _ _ _ _ rfl _ _)) gL_ofTrain_X3_ofTrain rfl ⟨rfl, rfl⟩ (by decide +kernel) ⟨Nat.le_of_ble_eq_true rfl, Nat.le_of_ble_eq_true rfl⟩ ⟨Nat.le_of_ble_eq_true rfl, Nat.le_of_ble_eq_true rfl⟩ rfl rfl rfl rfl rfl (by exact Nat.le_of_ble_eq_true rfl) ?_
  refine VT_catch (name := "java/lang/IndexOutOfBoundsException") hC hH ((tableOf [(0, 10, 13, 13), (0, 10, 17, 15)]).take 0) ⟨0, 10, 13, 13⟩ ((tableOf [(0, 10, 13, 13), (0, 10, 17, 15)]).drop 1) rfl (fun z hz => absurd hz List.not_mem_nil) (by decide) (by decide) lk13_L_ofTrain (by decide) (fun z => ?_)
  show V X _ _ _ _ 13 _
  refine V_dropL ?_
  refine V_astore hC dL_ofTrain_13 (Nat.le_of_ble_eq_true rfl) rfl ?_
  refine V_iconst (v := 1) hC dL_ofTrain_15 (by decide) rfl ?_
  refine V_widen (k := 1) (n := 6) (Nat.le_of_ble_eq_true rfl) (Nat.le_of_ble_eq_true rfl) ?_
  exact hE _ _ _ _ _ dL_ofTrain_16 rfl rfl rfl
theorem lk13_L_stops : Cond.classLink RL 13 "java/lang/IndexOutOfBoundsException" ∈ wsL_stops := by decide +kernel
theorem lk15_L_stops : Cond.classLink RL 15 "java/lang/IllegalArgumentException" ∈ wsL_stops := by decide +kernel
set_option maxRecDepth 100000 in
set_option maxHeartbeats 4000000 in
theorem k_L_stops (l : Launch) (D : va_G) (cI cZ cT : ClassId) (hfl : l.stackTraces = false) (c : Nat) (a b : Nat → Nat) (o : Nat) (f : Nat → Int64) (k : Int32) (w : Int32)  : CW l D kC2 (kT2 D cI cZ cT) yL_stops wsL_stops ({ frames := 9, cells := 1, slots := 6, locals := 146 }) 1 6 [.ref c, .int k, .int w, .ref o] (WB cI cZ cT c a b tI gI tI gI ++ [(o, .inl (D.1 102, 1, .inr (.inl f)))]) (S := (Nat → Int64)) (fun r _ => r = 1) (fun u => [(o, .inl (D.1 102, 1, .inr (.inl u)))]) := by
  refine CW_of (own := RL) (by decide) rfl rfl (Nat.le_of_ble_eq_true rfl) rfl (fun X A hC hH hE => ?_)
  refine V_aload_n hC dL_stops_0 rfl rfl rfl ?_
  refine V_iconst (v := 0) hC dL_stops_1 (by decide) rfl ?_
  refine V_aload_n hC dL_stops_2 rfl rfl rfl ?_
  refine V_iload_n hC dL_stops_3 rfl rfl rfl ?_
  refine V_iload_n hC dL_stops_4 rfl rfl rfl ?_
  refine V_callXV (q0 := 0) (n := 2) (pre := []) hC dL_stops_5 (CX_up (ws0 := []) Sb2 (Lo_of rfl) (k_X3_stopsX l D cI cZ cT hfl c a b _ _ _ _ rfl _ _)) gL_stops_X3_stops rfl ⟨rfl, rfl⟩ (by decide +kernel) ⟨Nat.le_of_ble_eq_true rfl, Nat.le_of_ble_eq_true rfl⟩ ⟨Nat.le_of_ble_eq_true rfl, Nat.le_of_ble_eq_true rfl⟩ rfl rfl rfl rfl rfl (by exact Nat.le_of_ble_eq_true rfl) ?_
  refine VT_catch (name := "java/lang/IndexOutOfBoundsException") hC hH ((tableOf [(0, 10, 13, 13), (0, 10, 17, 15)]).take 0) ⟨0, 10, 13, 13⟩ ((tableOf [(0, 10, 13, 13), (0, 10, 17, 15)]).drop 1) rfl (fun z hz => absurd hz List.not_mem_nil) (by decide) (by decide) lk13_L_stops (by decide) (fun z => ?_)
  show V X _ _ _ _ 13 _
  refine V_dropL ?_
  refine V_astore hC dL_stops_13 (Nat.le_of_ble_eq_true rfl) rfl ?_
  refine V_iconst (v := 1) hC dL_stops_15 (by decide) rfl ?_
  refine V_widen (k := 1) (n := 6) (Nat.le_of_ble_eq_true rfl) (Nat.le_of_ble_eq_true rfl) ?_
  exact hE _ _ _ _ _ dL_stops_16 rfl rfl rfl
theorem lk13_L_may : Cond.classLink RL 13 "java/lang/IndexOutOfBoundsException" ∈ wsL_may := by decide +kernel
set_option maxRecDepth 100000 in
set_option maxHeartbeats 4000000 in
theorem k_L_may (l : Launch) (D : va_G) (cI cZ cT : ClassId) (hfl : l.stackTraces = false) (c : Nat) (a b : Nat → Nat) (o : Nat) (f : Nat → Int64) (k : Int32)  : CW l D kC2 (kT2 D cI cZ cT) yL_may wsL_may ({ frames := 9, cells := 1, slots := 6, locals := 145 }) 1 6 [.ref c, .int k, .ref o] (WB cI cZ cT c a b tI gI tI gI ++ [(o, .inl (D.1 102, 1, .inr (.inl f)))]) (S := (Nat → Int64)) (fun r _ => r = 1) (fun u => [(o, .inl (D.1 102, 1, .inr (.inl u)))]) := by
  refine CW_of (own := RL) (by decide) rfl rfl (Nat.le_of_ble_eq_true rfl) rfl (fun X A hC hH hE => ?_)
  refine V_aload_n hC dL_may_0 rfl rfl rfl ?_
  refine V_iconst (v := 0) hC dL_may_1 (by decide) rfl ?_
  refine V_aload_n hC dL_may_2 rfl rfl rfl ?_
  refine V_iload_n hC dL_may_3 rfl rfl rfl ?_
  refine V_callXV (q0 := 0) (n := 1) (pre := []) hC dL_may_4 (CX_up (ws0 := []) Sb2 (Lo_of rfl) (k_X3_mayX l D cI cZ cT hfl c a b _ _ _ _ rfl _)) gL_may_X3_may rfl ⟨rfl, rfl⟩ (by decide +kernel) ⟨Nat.le_of_ble_eq_true rfl, Nat.le_of_ble_eq_true rfl⟩ ⟨Nat.le_of_ble_eq_true rfl, Nat.le_of_ble_eq_true rfl⟩ rfl rfl rfl rfl rfl (by exact Nat.le_of_ble_eq_true rfl) ?_
  refine VT_catch (name := "java/lang/IndexOutOfBoundsException") hC hH ((tableOf [(0, 9, 12, 13)]).take 0) ⟨0, 9, 12, 13⟩ ((tableOf [(0, 9, 12, 13)]).drop 1) rfl (fun z hz => absurd hz List.not_mem_nil) (by decide) (by decide) lk13_L_may (by decide) (fun z => ?_)
  show V X _ _ _ _ 12 _
  refine V_dropL ?_
  refine V_astore_n hC dL_may_12 rfl (Nat.le_of_ble_eq_true rfl) rfl ?_
  refine V_iconst (v := 1) hC dL_may_13 (by decide) rfl ?_
  refine V_widen (k := 1) (n := 6) (Nat.le_of_ble_eq_true rfl) (Nat.le_of_ble_eq_true rfl) ?_
  exact hE _ _ _ _ _ dL_may_14 rfl rfl rfl
theorem lk13_L_why : Cond.classLink RL 13 "java/lang/IndexOutOfBoundsException" ∈ wsL_why := by decide +kernel
set_option maxRecDepth 100000 in
set_option maxHeartbeats 4000000 in
theorem k_L_why (l : Launch) (D : va_G) (cI cZ cT : ClassId) (hfl : l.stackTraces = false) (c : Nat) (a b : Nat → Nat) (o : Nat) (f : Nat → Int64) (k : Int32)  : CW l D kC2 (kT2 D cI cZ cT) yL_why wsL_why ({ frames := 9, cells := 1, slots := 6, locals := 145 }) 1 6 [.ref c, .int k, .ref o] (WB cI cZ cT c a b tI gI tI gI ++ [(o, .inl (D.1 102, 1, .inr (.inl f)))]) (S := (Nat → Int64)) (fun r _ => r = 1) (fun u => [(o, .inl (D.1 102, 1, .inr (.inl u)))]) := by
  refine CW_of (own := RL) (by decide) rfl rfl (Nat.le_of_ble_eq_true rfl) rfl (fun X A hC hH hE => ?_)
  refine V_aload_n hC dL_why_0 rfl rfl rfl ?_
  refine V_iconst (v := 0) hC dL_why_1 (by decide) rfl ?_
  refine V_aload_n hC dL_why_2 rfl rfl rfl ?_
  refine V_iload_n hC dL_why_3 rfl rfl rfl ?_
  refine V_callXV (q0 := 0) (n := 1) (pre := []) hC dL_why_4 (CX_up (ws0 := []) Sb2 (Lo_of rfl) (k_X3_whyX l D cI cZ cT hfl c a b _ _ _ _ rfl _)) gL_why_X3_why rfl ⟨rfl, rfl⟩ (by decide +kernel) ⟨Nat.le_of_ble_eq_true rfl, Nat.le_of_ble_eq_true rfl⟩ ⟨Nat.le_of_ble_eq_true rfl, Nat.le_of_ble_eq_true rfl⟩ rfl rfl rfl rfl rfl (by exact Nat.le_of_ble_eq_true rfl) ?_
  refine VT_catch (name := "java/lang/IndexOutOfBoundsException") hC hH ((tableOf [(0, 9, 12, 13)]).take 0) ⟨0, 9, 12, 13⟩ ((tableOf [(0, 9, 12, 13)]).drop 1) rfl (fun z hz => absurd hz List.not_mem_nil) (by decide) (by decide) lk13_L_why (by decide) (fun z => ?_)
  show V X _ _ _ _ 12 _
  refine V_dropL ?_
  refine V_astore_n hC dL_why_12 rfl (Nat.le_of_ble_eq_true rfl) rfl ?_
  refine V_iconst (v := 1) hC dL_why_13 (by decide) rfl ?_
  refine V_widen (k := 1) (n := 6) (Nat.le_of_ble_eq_true rfl) (Nat.le_of_ble_eq_true rfl) ?_
  exact hE _ _ _ _ _ dL_why_14 rfl rfl rfl
theorem lk13_L_ofStation : Cond.classLink RL 13 "java/lang/IndexOutOfBoundsException" ∈ wsL_ofStation := by decide +kernel
theorem lk15_L_ofStation : Cond.classLink RL 15 "java/lang/IllegalArgumentException" ∈ wsL_ofStation := by decide +kernel
set_option maxRecDepth 100000 in
set_option maxHeartbeats 4000000 in
theorem k_L_ofStation (l : Launch) (D : va_G) (cI cZ cT : ClassId) (hfl : l.stackTraces = false) (c : Nat) (a b : Nat → Nat) (o : Nat) (f : Nat → Int64) (k : Int32) (w : Int32)  : CW l D kC2 (kT2 D cI cZ cT) yL_ofStation wsL_ofStation ({ frames := 8, cells := 1, slots := 6, locals := 125 }) 1 6 [.ref c, .int k, .int w, .ref o] (WB cI cZ cT c a b tI gI tI gI ++ [(o, .inl (D.1 102, 1, .inr (.inl f)))]) (S := (Nat → Int64)) (fun r _ => r = 1) (fun u => [(o, .inl (D.1 102, 1, .inr (.inl u)))]) := by
  refine CW_of (own := RL) (by decide) rfl rfl (Nat.le_of_ble_eq_true rfl) rfl (fun X A hC hH hE => ?_)
  refine V_aload_n hC dL_ofStation_0 rfl rfl rfl ?_
  refine V_iconst (v := 0) hC dL_ofStation_1 (by decide) rfl ?_
  refine V_aload_n hC dL_ofStation_2 rfl rfl rfl ?_
  refine V_iload_n hC dL_ofStation_3 rfl rfl rfl ?_
  refine V_iload_n hC dL_ofStation_4 rfl rfl rfl ?_
  refine V_callXV (q0 := 0) (n := 2) (pre := []) hC dL_ofStation_5 (CX_up (ws0 := []) Sb2 (Lo_of rfl) (k_X3_ofStationX l D cI cZ cT hfl c a b _ _ _ _ rfl _ _)) gL_ofStation_X3_ofStation rfl ⟨rfl, rfl⟩ (by decide +kernel) ⟨Nat.le_of_ble_eq_true rfl, Nat.le_of_ble_eq_true rfl⟩ ⟨Nat.le_of_ble_eq_true rfl, Nat.le_of_ble_eq_true rfl⟩ rfl rfl rfl rfl rfl (by exact Nat.le_of_ble_eq_true rfl) ?_
  refine VT_catch (name := "java/lang/IndexOutOfBoundsException") hC hH ((tableOf [(0, 10, 13, 13), (0, 10, 17, 15)]).take 0) ⟨0, 10, 13, 13⟩ ((tableOf [(0, 10, 13, 13), (0, 10, 17, 15)]).drop 1) rfl (fun z hz => absurd hz List.not_mem_nil) (by decide) (by decide) lk13_L_ofStation (by decide) (fun z => ?_)
  show V X _ _ _ _ 13 _
  refine V_dropL ?_
  refine V_astore hC dL_ofStation_13 (Nat.le_of_ble_eq_true rfl) rfl ?_
  refine V_iconst (v := 1) hC dL_ofStation_15 (by decide) rfl ?_
  refine V_widen (k := 1) (n := 6) (Nat.le_of_ble_eq_true rfl) (Nat.le_of_ble_eq_true rfl) ?_
  exact hE _ _ _ _ _ dL_ofStation_16 rfl rfl rfl
theorem lk13_L_reaches : Cond.classLink RL 13 "java/lang/IndexOutOfBoundsException" ∈ wsL_reaches := by decide +kernel
theorem lk15_L_reaches : Cond.classLink RL 15 "java/lang/IllegalArgumentException" ∈ wsL_reaches := by decide +kernel
set_option maxRecDepth 100000 in
set_option maxHeartbeats 4000000 in
theorem k_L_reaches (l : Launch) (D : va_G) (cI cZ cT : ClassId) (hfl : l.stackTraces = false) (c : Nat) (a b : Nat → Nat) (o : Nat) (f : Nat → Int64) (k : Int32) (m : Int32) (n : Int32)  : CW l D kC2 (kT2 D cI cZ cT) yL_reaches wsL_reaches ({ frames := 9, cells := 1, slots := 6, locals := 148 }) 1 6 [.ref c, .int k, .int m, .int n, .ref o] (WB cI cZ cT c a b tI gI tI gI ++ [(o, .inl (D.1 102, 1, .inr (.inl f)))]) (S := (Nat → Int64)) (fun r _ => r = 1) (fun u => [(o, .inl (D.1 102, 1, .inr (.inl u)))]) := by
  refine CW_of (own := RL) (by decide) rfl rfl (Nat.le_of_ble_eq_true rfl) rfl (fun X A hC hH hE => ?_)
  refine V_aload hC dL_reaches_0 rfl rfl ?_
  refine V_iconst (v := 0) hC dL_reaches_2 (by decide) rfl ?_
  refine V_aload_n hC dL_reaches_3 rfl rfl rfl ?_
  refine V_iload_n hC dL_reaches_4 rfl rfl rfl ?_
  refine V_iload_n hC dL_reaches_5 rfl rfl rfl ?_
  refine V_iload_n hC dL_reaches_6 rfl rfl rfl ?_
  refine V_callXV (q0 := 0) (n := 3) (pre := []) hC dL_reaches_7 (CX_up (ws0 := []) Sb2 (Lo_of rfl) (k_X3_reachesX l D cI cZ cT hfl c a b _ _ _ _ rfl _ _ _)) gL_reaches_X3_reaches rfl ⟨rfl, rfl⟩ (by decide +kernel) ⟨Nat.le_of_ble_eq_true rfl, Nat.le_of_ble_eq_true rfl⟩ ⟨Nat.le_of_ble_eq_true rfl, Nat.le_of_ble_eq_true rfl⟩ rfl rfl rfl rfl rfl (by exact Nat.le_of_ble_eq_true rfl) ?_
  refine VT_catch (name := "java/lang/IndexOutOfBoundsException") hC hH ((tableOf [(0, 12, 15, 13), (0, 12, 19, 15)]).take 0) ⟨0, 12, 15, 13⟩ ((tableOf [(0, 12, 15, 13), (0, 12, 19, 15)]).drop 1) rfl (fun z hz => absurd hz List.not_mem_nil) (by decide) (by decide) lk13_L_reaches (by decide) (fun z => ?_)
  show V X _ _ _ _ 15 _
  refine V_dropL ?_
  refine V_astore hC dL_reaches_15 (Nat.le_of_ble_eq_true rfl) rfl ?_
  refine V_iconst (v := 1) hC dL_reaches_17 (by decide) rfl ?_
  refine V_widen (k := 1) (n := 6) (Nat.le_of_ble_eq_true rfl) (Nat.le_of_ble_eq_true rfl) ?_
  exact hE _ _ _ _ _ dL_reaches_18 rfl rfl rfl
theorem lk13_L_closest : Cond.classLink RL 13 "java/lang/IndexOutOfBoundsException" ∈ wsL_closest := by decide +kernel
theorem lk15_L_closest : Cond.classLink RL 15 "java/lang/IllegalArgumentException" ∈ wsL_closest := by decide +kernel
set_option maxRecDepth 100000 in
set_option maxHeartbeats 4000000 in
theorem k_L_closest (l : Launch) (D : va_G) (cI cZ cT : ClassId) (hfl : l.stackTraces = false) (c : Nat) (a b : Nat → Nat) (o : Nat) (f : Nat → Int64) (k : Int32) (n : Int32)  : CW l D kC2 (kT2 D cI cZ cT) yL_closest wsL_closest ({ frames := 9, cells := 1, slots := 6, locals := 148 }) 1 6 [.ref c, .int k, .int n, .ref o] (WB cI cZ cT c a b tI gI tI gI ++ [(o, .inl (D.1 102, 1, .inr (.inl f)))]) (S := (Nat → Int64)) (fun r _ => r = 1) (fun u => [(o, .inl (D.1 102, 1, .inr (.inl u)))]) := by
  refine CW_of (own := RL) (by decide) rfl rfl (Nat.le_of_ble_eq_true rfl) rfl (fun X A hC hH hE => ?_)
  refine V_aload_n hC dL_closest_0 rfl rfl rfl ?_
  refine V_iconst (v := 0) hC dL_closest_1 (by decide) rfl ?_
  refine V_aload_n hC dL_closest_2 rfl rfl rfl ?_
  refine V_iload_n hC dL_closest_3 rfl rfl rfl ?_
  refine V_iload_n hC dL_closest_4 rfl rfl rfl ?_
  refine V_callXV (q0 := 0) (n := 2) (pre := []) hC dL_closest_5 (CX_up (ws0 := []) Sb2 (Lo_of rfl) (k_X3_closestX l D cI cZ cT hfl c a b _ _ _ _ rfl _ _)) gL_closest_X3_closest rfl ⟨rfl, rfl⟩ (by decide +kernel) ⟨Nat.le_of_ble_eq_true rfl, Nat.le_of_ble_eq_true rfl⟩ ⟨Nat.le_of_ble_eq_true rfl, Nat.le_of_ble_eq_true rfl⟩ rfl rfl rfl rfl rfl (by exact Nat.le_of_ble_eq_true rfl) ?_
  refine VT_catch (name := "java/lang/IndexOutOfBoundsException") hC hH ((tableOf [(0, 10, 13, 13), (0, 10, 17, 15)]).take 0) ⟨0, 10, 13, 13⟩ ((tableOf [(0, 10, 13, 13), (0, 10, 17, 15)]).drop 1) rfl (fun z hz => absurd hz List.not_mem_nil) (by decide) (by decide) lk13_L_closest (by decide) (fun z => ?_)
  show V X _ _ _ _ 13 _
  refine V_dropL ?_
  refine V_astore hC dL_closest_13 (Nat.le_of_ble_eq_true rfl) rfl ?_
  refine V_iconst (v := 1) hC dL_closest_15 (by decide) rfl ?_
  refine V_widen (k := 1) (n := 6) (Nat.le_of_ble_eq_true rfl) (Nat.le_of_ble_eq_true rfl) ?_
  exact hE _ _ _ _ _ dL_closest_16 rfl rfl rfl
theorem lk13_L_lost : Cond.classLink RL 13 "java/lang/IndexOutOfBoundsException" ∈ wsL_lost := by decide +kernel
theorem lk15_L_lost : Cond.classLink RL 15 "java/lang/IllegalArgumentException" ∈ wsL_lost := by decide +kernel
set_option maxRecDepth 100000 in
set_option maxHeartbeats 4000000 in
theorem k_L_lost (l : Launch) (D : va_G) (cI cZ cT : ClassId) (hfl : l.stackTraces = false) (c : Nat) (a b : Nat → Nat) (o : Nat) (f : Nat → Int64) (k : Int32) (m : Int32) (e : Int32) (n : Int32)  : CW l D kC2 (kT2 D cI cZ cT) yL_lost wsL_lost ({ frames := 9, cells := 1, slots := 6, locals := 149 }) 1 6 [.ref c, .int k, .int m, .int e, .int n, .ref o] (WB cI cZ cT c a b tI gI tI gI ++ [(o, .inl (D.1 102, 1, .inr (.inl f)))]) (S := (Nat → Int64)) (fun r _ => r = 1) (fun u => [(o, .inl (D.1 102, 1, .inr (.inl u)))]) := by
  refine CW_of (own := RL) (by decide) rfl rfl (Nat.le_of_ble_eq_true rfl) rfl (fun X A hC hH hE => ?_)
  refine V_aload hC dL_lost_0 rfl rfl ?_
  refine V_iconst (v := 0) hC dL_lost_2 (by decide) rfl ?_
  refine V_aload_n hC dL_lost_3 rfl rfl rfl ?_
  refine V_iload_n hC dL_lost_4 rfl rfl rfl ?_
  refine V_iload_n hC dL_lost_5 rfl rfl rfl ?_
  refine V_iload_n hC dL_lost_6 rfl rfl rfl ?_
  refine V_iload hC dL_lost_7 rfl rfl ?_
  refine V_callXV (q0 := 0) (n := 4) (pre := []) hC dL_lost_9 (CX_up (ws0 := []) Sb2 (Lo_of rfl) (k_X3_lostX l D cI cZ cT hfl c a b _ _ _ _ rfl _ _ _ _)) gL_lost_X3_lost rfl ⟨rfl, rfl⟩ (by decide +kernel) ⟨Nat.le_of_ble_eq_true rfl, Nat.le_of_ble_eq_true rfl⟩ ⟨Nat.le_of_ble_eq_true rfl, Nat.le_of_ble_eq_true rfl⟩ rfl rfl rfl rfl rfl (by exact Nat.le_of_ble_eq_true rfl) ?_
  refine VT_catch (name := "java/lang/IndexOutOfBoundsException") hC hH ((tableOf [(0, 14, 17, 13), (0, 14, 21, 15)]).take 0) ⟨0, 14, 17, 13⟩ ((tableOf [(0, 14, 17, 13), (0, 14, 21, 15)]).drop 1) rfl (fun z hz => absurd hz List.not_mem_nil) (by decide) (by decide) lk13_L_lost (by decide) (fun z => ?_)
  show V X _ _ _ _ 17 _
  refine V_dropL ?_
  refine V_astore hC dL_lost_17 (Nat.le_of_ble_eq_true rfl) rfl ?_
  refine V_iconst (v := 1) hC dL_lost_19 (by decide) rfl ?_
  refine V_widen (k := 1) (n := 6) (Nat.le_of_ble_eq_true rfl) (Nat.le_of_ble_eq_true rfl) ?_
  exact hE _ _ _ _ _ dL_lost_20 rfl rfl rfl
theorem lk13_L_works : Cond.classLink RL 13 "java/lang/IndexOutOfBoundsException" ∈ wsL_works := by decide +kernel
theorem lk15_L_works : Cond.classLink RL 15 "java/lang/IllegalArgumentException" ∈ wsL_works := by decide +kernel
set_option maxRecDepth 100000 in
set_option maxHeartbeats 4000000 in
theorem k_L_works (l : Launch) (D : va_G) (cI cZ cT : ClassId) (hfl : l.stackTraces = false) (c : Nat) (a b : Nat → Nat) (o : Nat) (f : Nat → Int64) (k : Int32) (e : Int32)  : CW l D kC2 (kT2 D cI cZ cT) yL_works wsL_works ({ frames := 9, cells := 1, slots := 6, locals := 146 }) 1 6 [.ref c, .int k, .int e, .ref o] (WB cI cZ cT c a b tI gI tI gI ++ [(o, .inl (D.1 102, 1, .inr (.inl f)))]) (S := (Nat → Int64)) (fun r u => r = x_wrk k e ∧ (x_wrk k e = 0 → u 0 = (1 : Int32).toInt64)) (fun u => [(o, .inl (D.1 102, 1, .inr (.inl u)))]) := by
  refine CW_of (own := RL) (by decide) rfl rfl (Nat.le_of_ble_eq_true rfl) rfl (fun X A hC hH hE => ?_)
  refine V_aload_n hC dL_works_0 rfl rfl rfl ?_
  refine V_iconst (v := 0) hC dL_works_1 (by decide) rfl ?_
  refine V_aload_n hC dL_works_2 rfl rfl rfl ?_
  refine V_iload_n hC dL_works_3 rfl rfl rfl ?_
  refine V_iload_n hC dL_works_4 rfl rfl rfl ?_
  rcases x_wrk_c k e with ⟨h, hx⟩ | ⟨i, hi, rfl, h, hx⟩ | ⟨i, j, hi, hj, rfl, rfl, h, hx⟩ | ⟨i, j, hi, hj, rfl, rfl, h, hx⟩
  · refine V_callXV (q0 := 0) (n := 2) (pre := []) hC dL_works_5 (CX_up (ws0 := []) Sb2 (Lo_of rfl) (k_X3_worksX1 l D cI cZ cT hfl c a b _ _ _ _ _ _ h)) gL_works_X3_works rfl ⟨rfl, rfl⟩ (by decide +kernel) ⟨Nat.le_of_ble_eq_true rfl, Nat.le_of_ble_eq_true rfl⟩ ⟨Nat.le_of_ble_eq_true rfl, Nat.le_of_ble_eq_true rfl⟩ rfl rfl rfl rfl rfl (by exact Nat.le_of_ble_eq_true rfl) ?_
    refine VT_catch (name := "java/lang/IndexOutOfBoundsException") hC hH ((tableOf [(0, 10, 13, 13), (0, 10, 17, 15), (0, 10, 21, 21)]).take 0) ⟨0, 10, 13, 13⟩ ((tableOf [(0, 10, 13, 13), (0, 10, 17, 15), (0, 10, 21, 21)]).drop 1) rfl (fun z hz => absurd hz List.not_mem_nil) (by decide) (by decide) lk13_L_works (by decide) (fun z => ?_)
    show V X _ _ _ _ 13 _
    refine V_dropL ?_
    refine V_astore hC dL_works_13 (Nat.le_of_ble_eq_true rfl) rfl ?_
    refine V_iconst (v := 1) hC dL_works_15 (by decide) rfl ?_
    refine V_widen (k := 1) (n := 6) (Nat.le_of_ble_eq_true rfl) (Nat.le_of_ble_eq_true rfl) ?_
    exact hE _ _ _ _ _ dL_works_16 rfl rfl (by first | exact ⟨hx.symm, fun h => absurd (hx.symm.trans h) (by decide)⟩ | exact ⟨hx.symm, fun _ => congrArg Int32.toInt64 (if_pos rfl)⟩)
  · refine V_callXV (q0 := 0) (n := 2) (pre := []) hC dL_works_5 (CX_up (ws0 := []) Sb2 (Lo_of rfl) (k_X3_worksX3 l D cI cZ cT hfl c a b _ _ _ _ i hi _ h)) gL_works_X3_works rfl ⟨rfl, rfl⟩ (by decide +kernel) ⟨Nat.le_of_ble_eq_true rfl, Nat.le_of_ble_eq_true rfl⟩ ⟨Nat.le_of_ble_eq_true rfl, Nat.le_of_ble_eq_true rfl⟩ rfl rfl rfl rfl rfl (by exact Nat.le_of_ble_eq_true rfl) ?_
    refine VT_catch (name := "java/lang/IndexOutOfBoundsException") hC hH ((tableOf [(0, 10, 13, 13), (0, 10, 17, 15), (0, 10, 21, 21)]).take 0) ⟨0, 10, 13, 13⟩ ((tableOf [(0, 10, 13, 13), (0, 10, 17, 15), (0, 10, 21, 21)]).drop 1) rfl (fun z hz => absurd hz List.not_mem_nil) (by decide) (by decide) lk13_L_works (by decide) (fun z => ?_)
    show V X _ _ _ _ 13 _
    refine V_dropL ?_
    refine V_astore hC dL_works_13 (Nat.le_of_ble_eq_true rfl) rfl ?_
    refine V_iconst (v := 1) hC dL_works_15 (by decide) rfl ?_
    refine V_widen (k := 1) (n := 6) (Nat.le_of_ble_eq_true rfl) (Nat.le_of_ble_eq_true rfl) ?_
    exact hE _ _ _ _ _ dL_works_16 rfl rfl (by first | exact ⟨hx.symm, fun h => absurd (hx.symm.trans h) (by decide)⟩ | exact ⟨hx.symm, fun _ => congrArg Int32.toInt64 (if_pos rfl)⟩)
  · refine V_callXV (q0 := 0) (n := 2) (pre := []) hC dL_works_5 (CX_up (ws0 := []) Sb2 (Lo_of rfl) (k_X3_worksX2 l D cI cZ cT hfl c a b _ _ _ _ i j hi hj h)) gL_works_X3_works rfl ⟨rfl, rfl⟩ (by decide +kernel) ⟨Nat.le_of_ble_eq_true rfl, Nat.le_of_ble_eq_true rfl⟩ ⟨Nat.le_of_ble_eq_true rfl, Nat.le_of_ble_eq_true rfl⟩ rfl rfl rfl rfl rfl (by exact Nat.le_of_ble_eq_true rfl) ?_
    refine VT_catch (name := "java/lang/IllegalArgumentException") hC hH ((tableOf [(0, 10, 13, 13), (0, 10, 17, 15), (0, 10, 21, 21)]).take 1) ⟨0, 10, 17, 15⟩ ((tableOf [(0, 10, 13, 13), (0, 10, 17, 15), (0, 10, 21, 21)]).drop 2) rfl (fun z hz => by obtain rfl := List.mem_singleton.mp hz; exact ⟨by decide, _, lk13_L_works, rfl, rfl⟩) (by decide) (by decide) lk15_L_works (by decide) (fun z => ?_)
    show V X _ _ _ _ 17 _
    refine V_dropL ?_
    refine V_astore hC dL_works_17 (Nat.le_of_ble_eq_true rfl) rfl ?_
    refine V_iconst (v := 2) hC dL_works_19 (by decide) rfl ?_
    refine V_widen (k := 1) (n := 6) (Nat.le_of_ble_eq_true rfl) (Nat.le_of_ble_eq_true rfl) ?_
    exact hE _ _ _ _ _ dL_works_20 rfl rfl (by first | exact ⟨hx.symm, fun h => absurd (hx.symm.trans h) (by decide)⟩ | exact ⟨hx.symm, fun _ => congrArg Int32.toInt64 (if_pos rfl)⟩)
  · refine V_callIVf (q0 := 0) (n := 2) (pre := []) hC dL_works_5 (CI_up (ws0 := []) Sb2 (Lo_of rfl) (k_X3_works l D cI cZ cT c a b _ _ _ _ 0 0 0 okI i j hi hj h (by decide))) gL_works_X3_works rfl ⟨rfl, rfl⟩ (by decide +kernel) ⟨Nat.le_of_ble_eq_true rfl, Nat.le_of_ble_eq_true rfl⟩ ⟨Nat.le_of_ble_eq_true rfl, Nat.le_of_ble_eq_true rfl⟩ rfl rfl rfl rfl rfl (by exact Nat.le_of_ble_eq_true rfl) rfl (fun r_5 u_5 h_5 => ?_)
    subst h_5
    refine V_dropM ?_
    refine V_i2l hC dL_works_8 rfl ?_
    refine V_last (q0 := 0) hC dL_works_9 rfl 5 rfl (show (0 : Int32) = nI 0 from rfl) (by decide) (by decide) rfl rfl ?_
    refine V_goto (tgt := 25) hC dL_works_10 (by decide) ?_
    refine V_iconst (v := 0) hC dL_works_25 (by decide) rfl ?_
    refine V_widen (k := 1) (n := 6) (Nat.le_of_ble_eq_true rfl) (Nat.le_of_ble_eq_true rfl) ?_
    exact hE _ _ _ _ _ dL_works_26 rfl rfl (by first | exact ⟨hx.symm, fun h => absurd (hx.symm.trans h) (by decide)⟩ | exact ⟨hx.symm, fun _ => congrArg Int32.toInt64 (if_pos rfl)⟩)
theorem lk15_L_pass : Cond.classLink RL 15 "java/lang/IllegalArgumentException" ∈ wsL_pass := by decide +kernel
set_option maxRecDepth 100000 in
set_option maxHeartbeats 4000000 in
theorem k_L_pass (l : Launch) (D : va_G) (cI cZ cT : ClassId) (hfl : l.stackTraces = false) (c : Nat) (a b : Nat → Nat) (o : Nat) (f : Nat → Int64) (k : Int32)  : CW l D kC2 (kT2 D cI cZ cT) yL_pass wsL_pass ({ frames := 8, cells := 1, slots := 6, locals := 137 }) 1 6 [.ref c, .int k, .ref o] (WB cI cZ cT c a b tI gI tI gI ++ [(o, .inl (D.1 102, 1, .inr (.inl f)))]) (S := (Nat → Int64)) (fun r u => r = x_pas k ∧ (x_pas k = 0 → u 0 = (0 : Int32).toInt64)) (fun u => [(o, .inl (D.1 102, 1, .inr (.inl u)))]) := by
  refine CW_of (own := RL) (by decide) rfl rfl (Nat.le_of_ble_eq_true rfl) rfl (fun X A hC hH hE => ?_)
  refine V_aload_n hC dL_pass_0 rfl rfl rfl ?_
  refine V_iconst (v := 0) hC dL_pass_1 (by decide) rfl ?_
  refine V_aload_n hC dL_pass_2 rfl rfl rfl ?_
  refine V_iload_n hC dL_pass_3 rfl rfl rfl ?_
  rcases x_pas_c k with ⟨h, hx⟩ | ⟨i, hi, rfl, h, hx⟩
  · refine V_callXV (q0 := 0) (n := 1) (pre := []) hC dL_pass_4 (CX_up (ws0 := []) Sb2 (Lo_of rfl) (k_X3_passX l D cI cZ cT hfl c a b _ _ _ _ _ h)) gL_pass_X3_pass rfl ⟨rfl, rfl⟩ (by decide +kernel) ⟨Nat.le_of_ble_eq_true rfl, Nat.le_of_ble_eq_true rfl⟩ ⟨Nat.le_of_ble_eq_true rfl, Nat.le_of_ble_eq_true rfl⟩ rfl rfl rfl rfl rfl (by exact Nat.le_of_ble_eq_true rfl) ?_
    refine VT_catch (name := "java/lang/IllegalArgumentException") hC hH ((tableOf [(0, 9, 12, 15)]).take 0) ⟨0, 9, 12, 15⟩ ((tableOf [(0, 9, 12, 15)]).drop 1) rfl (fun z hz => absurd hz List.not_mem_nil) (by decide) (by decide) lk15_L_pass (by decide) (fun z => ?_)
    show V X _ _ _ _ 12 _
    refine V_dropL ?_
    refine V_astore_n hC dL_pass_12 rfl (Nat.le_of_ble_eq_true rfl) rfl ?_
    refine V_iconst (v := 1) hC dL_pass_13 (by decide) rfl ?_
    refine V_widen (k := 1) (n := 6) (Nat.le_of_ble_eq_true rfl) (Nat.le_of_ble_eq_true rfl) ?_
    exact hE _ _ _ _ _ dL_pass_14 rfl rfl (by first | exact ⟨hx.symm, fun h => absurd (hx.symm.trans h) (by decide)⟩ | exact ⟨hx.symm, fun _ => congrArg Int32.toInt64 (outs0 i)⟩)
  · refine V_callIVf (q0 := 0) (n := 1) (pre := []) hC dL_pass_4 (CI_up (ws0 := []) Sb2 (Lo_of rfl) (k_X3_pass l D cI cZ cT c a b _ _ _ _ 0 0 0 okI i hi h)) gL_pass_X3_pass rfl ⟨rfl, rfl⟩ (by decide +kernel) ⟨Nat.le_of_ble_eq_true rfl, Nat.le_of_ble_eq_true rfl⟩ ⟨Nat.le_of_ble_eq_true rfl, Nat.le_of_ble_eq_true rfl⟩ rfl rfl rfl rfl rfl (by exact Nat.le_of_ble_eq_true rfl) rfl (fun r_4 u_4 h_4 => ?_)
    subst h_4
    refine V_dropM ?_
    refine V_i2l hC dL_pass_7 rfl ?_
    refine V_last (q0 := 0) hC dL_pass_8 rfl 5 rfl (show (0 : Int32) = nI 0 from rfl) (by decide) (by decide) rfl rfl ?_
    refine V_goto (tgt := 15) hC dL_pass_9 (by decide) ?_
    refine V_iconst (v := 0) hC dL_pass_15 (by decide) rfl ?_
    refine V_widen (k := 1) (n := 6) (Nat.le_of_ble_eq_true rfl) (Nat.le_of_ble_eq_true rfl) ?_
    exact hE _ _ _ _ _ dL_pass_16 rfl rfl (by first | exact ⟨hx.symm, fun h => absurd (hx.symm.trans h) (by decide)⟩ | exact ⟨hx.symm, fun _ => congrArg Int32.toInt64 (outs0 i)⟩)
theorem lk13_L_ofSection : Cond.classLink RL 13 "java/lang/IndexOutOfBoundsException" ∈ wsL_ofSection := by decide +kernel
theorem lk15_L_ofSection : Cond.classLink RL 15 "java/lang/IllegalArgumentException" ∈ wsL_ofSection := by decide +kernel
set_option maxRecDepth 100000 in
set_option maxHeartbeats 4000000 in
theorem k_L_ofSection (l : Launch) (D : va_G) (cI cZ cT : ClassId) (hfl : l.stackTraces = false) (c : Nat) (a b : Nat → Nat) (o : Nat) (f : Nat → Int64) (k : Int32) (w : Int32)  : CW l D kC2 (kT2 D cI cZ cT) yL_ofSection wsL_ofSection ({ frames := 9, cells := 1, slots := 6, locals := 145 }) 1 6 [.ref c, .int k, .int w, .ref o] (WB cI cZ cT c a b tI gI tI gI ++ [(o, .inl (D.1 102, 1, .inr (.inl f)))]) (S := (Nat → Int64)) (fun r u => r = x_ofs k w ∧ (x_ofs k w = 0 → u 0 = (a_ofs w : Int32).toInt64)) (fun u => [(o, .inl (D.1 102, 1, .inr (.inl u)))]) := by
  refine CW_of (own := RL) (by decide) rfl rfl (Nat.le_of_ble_eq_true rfl) rfl (fun X A hC hH hE => ?_)
  refine V_aload_n hC dL_ofSection_0 rfl rfl rfl ?_
  refine V_iconst (v := 0) hC dL_ofSection_1 (by decide) rfl ?_
  refine V_aload_n hC dL_ofSection_2 rfl rfl rfl ?_
  refine V_iload_n hC dL_ofSection_3 rfl rfl rfl ?_
  refine V_iload_n hC dL_ofSection_4 rfl rfl rfl ?_
  rcases x_ofs_c k w with ⟨h, hx⟩ | ⟨i, hi, rfl, h, hx⟩ | ⟨i, hi, rfl, h, hx⟩
  · refine V_callXV (q0 := 0) (n := 2) (pre := []) hC dL_ofSection_5 (CX_up (ws0 := []) Sb2 (Lo_of rfl) (k_X3_ofSectionX1 l D cI cZ cT hfl c a b _ _ _ _ _ _ h)) gL_ofSection_X3_ofSection rfl ⟨rfl, rfl⟩ (by decide +kernel) ⟨Nat.le_of_ble_eq_true rfl, Nat.le_of_ble_eq_true rfl⟩ ⟨Nat.le_of_ble_eq_true rfl, Nat.le_of_ble_eq_true rfl⟩ rfl rfl rfl rfl rfl (by exact Nat.le_of_ble_eq_true rfl) ?_
    refine VT_catch (name := "java/lang/IndexOutOfBoundsException") hC hH ((tableOf [(0, 10, 13, 13), (0, 10, 17, 15)]).take 0) ⟨0, 10, 13, 13⟩ ((tableOf [(0, 10, 13, 13), (0, 10, 17, 15)]).drop 1) rfl (fun z hz => absurd hz List.not_mem_nil) (by decide) (by decide) lk13_L_ofSection (by decide) (fun z => ?_)
    show V X _ _ _ _ 13 _
    refine V_dropL ?_
    refine V_astore hC dL_ofSection_13 (Nat.le_of_ble_eq_true rfl) rfl ?_
    refine V_iconst (v := 1) hC dL_ofSection_15 (by decide) rfl ?_
    refine V_widen (k := 1) (n := 6) (Nat.le_of_ble_eq_true rfl) (Nat.le_of_ble_eq_true rfl) ?_
    exact hE _ _ _ _ _ dL_ofSection_16 rfl rfl (by first | exact ⟨hx.symm, fun h => absurd (hx.symm.trans h) (by decide)⟩ | exact ⟨hx.symm, fun _ => congrArg Int32.toInt64 (sec0 hi w)⟩)
  · refine V_callXV (q0 := 0) (n := 2) (pre := []) hC dL_ofSection_5 (CX_up (ws0 := []) Sb2 (Lo_of rfl) (k_X3_ofSectionX2 l D cI cZ cT hfl c a b _ _ _ _ i hi _ h)) gL_ofSection_X3_ofSection rfl ⟨rfl, rfl⟩ (by decide +kernel) ⟨Nat.le_of_ble_eq_true rfl, Nat.le_of_ble_eq_true rfl⟩ ⟨Nat.le_of_ble_eq_true rfl, Nat.le_of_ble_eq_true rfl⟩ rfl rfl rfl rfl rfl (by exact Nat.le_of_ble_eq_true rfl) ?_
    refine VT_catch (name := "java/lang/IllegalArgumentException") hC hH ((tableOf [(0, 10, 13, 13), (0, 10, 17, 15)]).take 1) ⟨0, 10, 17, 15⟩ ((tableOf [(0, 10, 13, 13), (0, 10, 17, 15)]).drop 2) rfl (fun z hz => by obtain rfl := List.mem_singleton.mp hz; exact ⟨by decide, _, lk13_L_ofSection, rfl, rfl⟩) (by decide) (by decide) lk15_L_ofSection (by decide) (fun z => ?_)
    show V X _ _ _ _ 17 _
    refine V_dropL ?_
    refine V_astore hC dL_ofSection_17 (Nat.le_of_ble_eq_true rfl) rfl ?_
    refine V_iconst (v := 2) hC dL_ofSection_19 (by decide) rfl ?_
    refine V_widen (k := 1) (n := 6) (Nat.le_of_ble_eq_true rfl) (Nat.le_of_ble_eq_true rfl) ?_
    exact hE _ _ _ _ _ dL_ofSection_20 rfl rfl (by first | exact ⟨hx.symm, fun h => absurd (hx.symm.trans h) (by decide)⟩ | exact ⟨hx.symm, fun _ => congrArg Int32.toInt64 (sec0 hi w)⟩)
  · refine V_callIVf (q0 := 0) (n := 2) (pre := []) hC dL_ofSection_5 (CI_up (ws0 := []) Sb2 (Lo_of rfl) (k_X3_ofSection l D cI cZ cT c a b _ _ _ _ 0 0 0 okI i hi _ h)) gL_ofSection_X3_ofSection rfl ⟨rfl, rfl⟩ (by decide +kernel) ⟨Nat.le_of_ble_eq_true rfl, Nat.le_of_ble_eq_true rfl⟩ ⟨Nat.le_of_ble_eq_true rfl, Nat.le_of_ble_eq_true rfl⟩ rfl rfl rfl rfl rfl (by exact Nat.le_of_ble_eq_true rfl) rfl (fun r_5 u_5 h_5 => ?_)
    subst h_5
    refine V_dropM ?_
    refine V_i2l hC dL_ofSection_8 rfl ?_
    refine V_last (q0 := 0) hC dL_ofSection_9 rfl 5 rfl (show (0 : Int32) = nI 0 from rfl) (by decide) (by decide) rfl rfl ?_
    refine V_goto (tgt := 21) hC dL_ofSection_10 (by decide) ?_
    refine V_iconst (v := 0) hC dL_ofSection_21 (by decide) rfl ?_
    refine V_widen (k := 1) (n := 6) (Nat.le_of_ble_eq_true rfl) (Nat.le_of_ble_eq_true rfl) ?_
    exact hE _ _ _ _ _ dL_ofSection_22 rfl rfl (by first | exact ⟨hx.symm, fun h => absurd (hx.symm.trans h) (by decide)⟩ | exact ⟨hx.symm, fun _ => congrArg Int32.toInt64 (sec0 hi w)⟩)
theorem lk15_L_many : Cond.classLink RL 15 "java/lang/IllegalArgumentException" ∈ wsL_many := by decide +kernel
set_option maxRecDepth 100000 in
set_option maxHeartbeats 4000000 in
theorem k_L_many (l : Launch) (D : va_G) (cI cZ cT : ClassId) (hfl : l.stackTraces = false) (c : Nat) (a b : Nat → Nat) (o : Nat) (f : Nat → Int64) (k : Int32)  : CW l D kC2 (kT2 D cI cZ cT) yL_many wsL_many ({ frames := 8, cells := 1, slots := 6, locals := 123 }) 1 6 [.ref c, .int k, .ref o] (WB cI cZ cT c a b tI gI tI gI ++ [(o, .inl (D.1 102, 1, .inr (.inl f)))]) (S := (Nat → Int64)) (fun r u => r = x_man k ∧ (x_man k = 0 → u 0 = (0 : Int32).toInt64)) (fun u => [(o, .inl (D.1 102, 1, .inr (.inl u)))]) := by
  refine CW_of (own := RL) (by decide) rfl rfl (Nat.le_of_ble_eq_true rfl) rfl (fun X A hC hH hE => ?_)
  refine V_aload_n hC dL_many_0 rfl rfl rfl ?_
  refine V_iconst (v := 0) hC dL_many_1 (by decide) rfl ?_
  refine V_aload_n hC dL_many_2 rfl rfl rfl ?_
  refine V_iload_n hC dL_many_3 rfl rfl rfl ?_
  rcases x_man_c k with ⟨h, hx⟩ | ⟨h, hx⟩
  · refine V_callXV (q0 := 0) (n := 1) (pre := []) hC dL_many_4 (CX_up (ws0 := []) Sb2 (Lo_of rfl) (k_X3_manyX l D cI cZ cT hfl c a b _ _ _ _ _ h)) gL_many_X3_many rfl ⟨rfl, rfl⟩ (by decide +kernel) ⟨Nat.le_of_ble_eq_true rfl, Nat.le_of_ble_eq_true rfl⟩ ⟨Nat.le_of_ble_eq_true rfl, Nat.le_of_ble_eq_true rfl⟩ rfl rfl rfl rfl rfl (by exact Nat.le_of_ble_eq_true rfl) ?_
    refine VT_catch (name := "java/lang/IllegalArgumentException") hC hH ((tableOf [(0, 9, 12, 15)]).take 0) ⟨0, 9, 12, 15⟩ ((tableOf [(0, 9, 12, 15)]).drop 1) rfl (fun z hz => absurd hz List.not_mem_nil) (by decide) (by decide) lk15_L_many (by decide) (fun z => ?_)
    show V X _ _ _ _ 12 _
    refine V_dropL ?_
    refine V_astore_n hC dL_many_12 rfl (Nat.le_of_ble_eq_true rfl) rfl ?_
    refine V_iconst (v := 1) hC dL_many_13 (by decide) rfl ?_
    refine V_widen (k := 1) (n := 6) (Nat.le_of_ble_eq_true rfl) (Nat.le_of_ble_eq_true rfl) ?_
    exact hE _ _ _ _ _ dL_many_14 rfl rfl (by first | exact ⟨hx.symm, fun h => absurd (hx.symm.trans h) (by decide)⟩ | exact ⟨hx.symm, fun _ => congrArg Int32.toInt64 (many0 k)⟩)
  · refine V_callIVf (q0 := 0) (n := 1) (pre := []) hC dL_many_4 (CI_up (ws0 := []) Sb2 (Lo_of rfl) (k_X3_many l D cI cZ cT c a b _ _ _ _ 0 0 0 okI _ h)) gL_many_X3_many rfl ⟨rfl, rfl⟩ (by decide +kernel) ⟨Nat.le_of_ble_eq_true rfl, Nat.le_of_ble_eq_true rfl⟩ ⟨Nat.le_of_ble_eq_true rfl, Nat.le_of_ble_eq_true rfl⟩ rfl rfl rfl rfl rfl (by exact Nat.le_of_ble_eq_true rfl) rfl (fun r_4 u_4 h_4 => ?_)
    subst h_4
    refine V_dropM ?_
    refine V_i2l hC dL_many_7 rfl ?_
    refine V_last (q0 := 0) hC dL_many_8 rfl 5 rfl (show (0 : Int32) = nI 0 from rfl) (by decide) (by decide) rfl rfl ?_
    refine V_goto (tgt := 15) hC dL_many_9 (by decide) ?_
    refine V_iconst (v := 0) hC dL_many_15 (by decide) rfl ?_
    refine V_widen (k := 1) (n := 6) (Nat.le_of_ble_eq_true rfl) (Nat.le_of_ble_eq_true rfl) ?_
    exact hE _ _ _ _ _ dL_many_16 rfl rfl (by first | exact ⟨hx.symm, fun h => absurd (hx.symm.trans h) (by decide)⟩ | exact ⟨hx.symm, fun _ => congrArg Int32.toInt64 (many0 k)⟩)
theorem lk13_L_worksIn : Cond.classLink RL 13 "java/lang/IndexOutOfBoundsException" ∈ wsL_worksIn := by decide +kernel
theorem lk15_L_worksIn : Cond.classLink RL 15 "java/lang/IllegalArgumentException" ∈ wsL_worksIn := by decide +kernel
set_option maxRecDepth 100000 in
set_option maxHeartbeats 4000000 in
theorem k_L_worksIn (l : Launch) (D : va_G) (cI cZ cT : ClassId) (hfl : l.stackTraces = false) (c : Nat) (a b : Nat → Nat) (o : Nat) (f : Nat → Int64) (k : Int32) (e : Int32) (n : Int32)  : CW l D kC2 (kT2 D cI cZ cT) yL_worksIn wsL_worksIn ({ frames := 9, cells := 1, slots := 6, locals := 147 }) 1 6 [.ref c, .int k, .int e, .int n, .ref o] (WB cI cZ cT c a b tI gI tI gI ++ [(o, .inl (D.1 102, 1, .inr (.inl f)))]) (S := (Nat → Int64)) (fun r u => r = x_wi k e n ∧ (x_wi k e n = 0 → u 0 = (0 : Int32).toInt64)) (fun u => [(o, .inl (D.1 102, 1, .inr (.inl u)))]) := by
  refine CW_of (own := RL) (by decide) rfl rfl (Nat.le_of_ble_eq_true rfl) rfl (fun X A hC hH hE => ?_)
  refine V_aload hC dL_worksIn_0 rfl rfl ?_
  refine V_iconst (v := 0) hC dL_worksIn_2 (by decide) rfl ?_
  refine V_aload_n hC dL_worksIn_3 rfl rfl rfl ?_
  refine V_iload_n hC dL_worksIn_4 rfl rfl rfl ?_
  refine V_iload_n hC dL_worksIn_5 rfl rfl rfl ?_
  refine V_iload_n hC dL_worksIn_6 rfl rfl rfl ?_
  rcases x_wi_c k e n with ⟨h, hx⟩ | ⟨i, hi, rfl, h, hx⟩ | ⟨i, j, hi, hj, rfl, rfl, h, hx⟩ | ⟨i, j, q, hi, hj, rfl, rfl, h, hq, rfl, h2, hx⟩
  · refine V_callXV (q0 := 0) (n := 3) (pre := []) hC dL_worksIn_7 (CX_up (ws0 := []) Sb2 (Lo_of rfl) (k_X3_worksInX1 l D cI cZ cT hfl c a b _ _ _ _ _ _ _ h)) gL_worksIn_X3_worksIn rfl ⟨rfl, rfl⟩ (by decide +kernel) ⟨Nat.le_of_ble_eq_true rfl, Nat.le_of_ble_eq_true rfl⟩ ⟨Nat.le_of_ble_eq_true rfl, Nat.le_of_ble_eq_true rfl⟩ rfl rfl rfl rfl rfl (by exact Nat.le_of_ble_eq_true rfl) ?_
    refine VT_catch (name := "java/lang/IndexOutOfBoundsException") hC hH ((tableOf [(0, 12, 15, 13), (0, 12, 19, 15)]).take 0) ⟨0, 12, 15, 13⟩ ((tableOf [(0, 12, 15, 13), (0, 12, 19, 15)]).drop 1) rfl (fun z hz => absurd hz List.not_mem_nil) (by decide) (by decide) lk13_L_worksIn (by decide) (fun z => ?_)
    show V X _ _ _ _ 15 _
    refine V_dropL ?_
    refine V_astore hC dL_worksIn_15 (Nat.le_of_ble_eq_true rfl) rfl ?_
    refine V_iconst (v := 1) hC dL_worksIn_17 (by decide) rfl ?_
    refine V_widen (k := 1) (n := 6) (Nat.le_of_ble_eq_true rfl) (Nat.le_of_ble_eq_true rfl) ?_
    exact hE _ _ _ _ _ dL_worksIn_18 rfl rfl (by first | exact ⟨hx.symm, fun h => absurd (hx.symm.trans h) (by decide)⟩ | exact ⟨hx.symm, fun _ => congrArg Int32.toInt64 (ws0 _ _ q)⟩)
  · refine V_callXV (q0 := 0) (n := 3) (pre := []) hC dL_worksIn_7 (CX_up (ws0 := []) Sb2 (Lo_of rfl) (k_X3_worksInX3 l D cI cZ cT hfl c a b _ _ _ _ i hi _ _ h)) gL_worksIn_X3_worksIn rfl ⟨rfl, rfl⟩ (by decide +kernel) ⟨Nat.le_of_ble_eq_true rfl, Nat.le_of_ble_eq_true rfl⟩ ⟨Nat.le_of_ble_eq_true rfl, Nat.le_of_ble_eq_true rfl⟩ rfl rfl rfl rfl rfl (by exact Nat.le_of_ble_eq_true rfl) ?_
    refine VT_catch (name := "java/lang/IndexOutOfBoundsException") hC hH ((tableOf [(0, 12, 15, 13), (0, 12, 19, 15)]).take 0) ⟨0, 12, 15, 13⟩ ((tableOf [(0, 12, 15, 13), (0, 12, 19, 15)]).drop 1) rfl (fun z hz => absurd hz List.not_mem_nil) (by decide) (by decide) lk13_L_worksIn (by decide) (fun z => ?_)
    show V X _ _ _ _ 15 _
    refine V_dropL ?_
    refine V_astore hC dL_worksIn_15 (Nat.le_of_ble_eq_true rfl) rfl ?_
    refine V_iconst (v := 1) hC dL_worksIn_17 (by decide) rfl ?_
    refine V_widen (k := 1) (n := 6) (Nat.le_of_ble_eq_true rfl) (Nat.le_of_ble_eq_true rfl) ?_
    exact hE _ _ _ _ _ dL_worksIn_18 rfl rfl (by first | exact ⟨hx.symm, fun h => absurd (hx.symm.trans h) (by decide)⟩ | exact ⟨hx.symm, fun _ => congrArg Int32.toInt64 (ws0 _ _ q)⟩)
  · refine V_callXV (q0 := 0) (n := 3) (pre := []) hC dL_worksIn_7 (CX_up (ws0 := []) Sb2 (Lo_of rfl) (k_X3_worksInX2 l D cI cZ cT hfl c a b _ _ _ _ i j hi hj _ h)) gL_worksIn_X3_worksIn rfl ⟨rfl, rfl⟩ (by decide +kernel) ⟨Nat.le_of_ble_eq_true rfl, Nat.le_of_ble_eq_true rfl⟩ ⟨Nat.le_of_ble_eq_true rfl, Nat.le_of_ble_eq_true rfl⟩ rfl rfl rfl rfl rfl (by exact Nat.le_of_ble_eq_true rfl) ?_
    refine VT_catch (name := "java/lang/IllegalArgumentException") hC hH ((tableOf [(0, 12, 15, 13), (0, 12, 19, 15)]).take 1) ⟨0, 12, 19, 15⟩ ((tableOf [(0, 12, 15, 13), (0, 12, 19, 15)]).drop 2) rfl (fun z hz => by obtain rfl := List.mem_singleton.mp hz; exact ⟨by decide, _, lk13_L_worksIn, rfl, rfl⟩) (by decide) (by decide) lk15_L_worksIn (by decide) (fun z => ?_)
    show V X _ _ _ _ 19 _
    refine V_dropL ?_
    refine V_astore hC dL_worksIn_19 (Nat.le_of_ble_eq_true rfl) rfl ?_
    refine V_iconst (v := 2) hC dL_worksIn_21 (by decide) rfl ?_
    refine V_widen (k := 1) (n := 6) (Nat.le_of_ble_eq_true rfl) (Nat.le_of_ble_eq_true rfl) ?_
    exact hE _ _ _ _ _ dL_worksIn_22 rfl rfl (by first | exact ⟨hx.symm, fun h => absurd (hx.symm.trans h) (by decide)⟩ | exact ⟨hx.symm, fun _ => congrArg Int32.toInt64 (ws0 _ _ q)⟩)
  · refine V_callIVf (q0 := 0) (n := 3) (pre := []) hC dL_worksIn_7 (CI_up (ws0 := []) Sb2 (Lo_of rfl) (k_X3_worksIn l D cI cZ cT c a b _ _ _ _ 0 0 0 okI i j q hi hj h hq h2)) gL_worksIn_X3_worksIn rfl ⟨rfl, rfl⟩ (by decide +kernel) ⟨Nat.le_of_ble_eq_true rfl, Nat.le_of_ble_eq_true rfl⟩ ⟨Nat.le_of_ble_eq_true rfl, Nat.le_of_ble_eq_true rfl⟩ rfl rfl rfl rfl rfl (by exact Nat.le_of_ble_eq_true rfl) rfl (fun r_7 u_7 h_7 => ?_)
    subst h_7
    refine V_dropM ?_
    refine V_i2l hC dL_worksIn_10 rfl ?_
    refine V_last (q0 := 0) hC dL_worksIn_11 rfl 5 rfl (show (0 : Int32) = nI 0 from rfl) (by decide) (by decide) rfl rfl ?_
    refine V_goto (tgt := 23) hC dL_worksIn_12 (by decide) ?_
    refine V_iconst (v := 0) hC dL_worksIn_23 (by decide) rfl ?_
    refine V_widen (k := 1) (n := 6) (Nat.le_of_ble_eq_true rfl) (Nat.le_of_ble_eq_true rfl) ?_
    exact hE _ _ _ _ _ dL_worksIn_24 rfl rfl (by first | exact ⟨hx.symm, fun h => absurd (hx.symm.trans h) (by decide)⟩ | exact ⟨hx.symm, fun _ => congrArg Int32.toInt64 (ws0 _ _ q)⟩)
