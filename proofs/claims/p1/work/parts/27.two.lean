set_option maxRecDepth 100000 in
set_option maxHeartbeats 4000000 in
theorem k_X4_copy_ (l : Launch) (D : va_G) (cI cZ cT : ClassId) (r : Nat → Nat) (F : Nat → Nat → Int32) (v : Nat → Int32) (e : Nat) (r2 : Nat → Nat) (F2 : Nat → Nat → Int32) (v2 : Nat → Int32) (e2 : Nat) (p n K : Nat) (hs : Se p n K) : CV l D kC2 (kT2 D cI cZ cT) yX4_copy_ wsX4_copy_ ({ frames := 1, cells := 0, slots := 0, locals := 40 }) 0 0 [.ref (r p), .ref (r2 p)] (WM D cI r F v e ++ WM D cI r2 F2 v2 e2) (S := (Nat → Nat → Int32)) (fun _ => True) (fun u => WM D cI r F v e ++ WM D cI r2 u v2 e2) := by
  refine CV_of (own := RX4) (by decide) rfl rfl (Nat.le_of_ble_eq_true rfl) rfl (fun X A hC hE => ?_)
  obtain ⟨hn20, hK21⟩ := hs.le
  refine V_iconst (v := 0) hC dX4_copy__0 (by decide) rfl ?_
  refine V_istore_n hC dX4_copy__1 rfl (Nat.le_of_ble_eq_true rfl) rfl ?_
  have loop_2 : ∀ (d k : Nat) (F2 : Nat → Nat → Int32), n - k < d → k ≤ n → V X 0 0 (WM D cI r F v e ++ WM D cI r2 F2 v2 e2) [(0, .ref (r p)), (1, .ref (r2 p)), (2, .int (nI k))] 2 [] := by
    intro d
    induction d with
    | zero => intro k F2 h; exact absurd h (Nat.not_lt_zero _)
    | succ d ih =>
      intro k F2 h hk
      refine V_iload_n hC dX4_copy__2 rfl rfl rfl ?_
      refine V_aload_n hC dX4_copy__3 rfl rfl rfl ?_
      refine V_alen hC dX4_copy__4 (W2_oa hs) 3 rfl (rfl : _ = nI n) rfl ?_
      refine V_icmp_ge (tgt := 29) hC dX4_copy__5 (by decide) rfl (fun c_5 => ?_) (fun c_5 => ?_)
      · have c1 := nI_le' c_5 (by omega) (by omega)
        obtain rfl : n = k := by omega
        exact hE _ _ _ _ dX4_copy__29 trivial rfl trivial
      · have hk2 := nI_nle' c_5 (by omega) (by omega)
        refine V_aload_n hC dX4_copy__8 rfl rfl rfl ?_
        refine V_iload_n hC dX4_copy__9 rfl rfl rfl ?_
        refine V_aaldA hC dX4_copy__10 (W2_oa hs) 3 rfl rfl hk2 (by omega) (show rf n (fun i => r (p + 1 + i)) k = some (r (p + 1 + k)) from rf_at hk2) rfl ?_
        refine V_iconst (v := 0) hC dX4_copy__11 (by decide) rfl ?_
        refine V_aload_n hC dX4_copy__12 rfl rfl rfl ?_
        refine V_iload_n hC dX4_copy__13 rfl rfl rfl ?_
        refine V_aaldA hC dX4_copy__14 (W2_oo hs) 3 rfl rfl hk2 (by omega) (show rf n (fun i => r2 (p + 1 + i)) k = some (r2 (p + 1 + k)) from rf_at hk2) rfl ?_
        refine V_iconst (v := 0) hC dX4_copy__15 (by decide) rfl ?_
        refine V_aload_n hC dX4_copy__16 rfl rfl rfl ?_
        refine V_iload_n hC dX4_copy__17 rfl rfl rfl ?_
        refine V_aaldA hC dX4_copy__18 (W2_oa hs) 3 rfl rfl hk2 (by omega) (show rf n (fun i => r (p + 1 + i)) k = some (r (p + 1 + k)) from rf_at hk2) rfl ?_
        refine V_alen hC dX4_copy__19 (W2_ro hs hk2) 0 rfl (rfl : _ = nI K) rfl ?_
        refine V_copyi hC dX4_copy__20 (by decide +kernel : Cond.methodLink RX4 48 arraycopyName ∈ wsX4_copy_) (by decide +kernel : Cond.native arraycopyName ∈ wsX4_copy_) (by decide +kernel : Cond.static arraycopyName ∈ wsX4_copy_) (by decide +kernel : Cond.initialized "java/lang/System" ∈ wsX4_copy_) (W2_ro hs hk2) (W2_rr hs hk2) 0 rfl rfl (by omega) (Nat.le_of_ble_eq_true rfl) (Nat.le_of_ble_eq_true rfl) (W2_uu hs hk2) rfl ?_
        refine V_iinc hC dX4_copy__23 rfl (nI_1 k) (Nat.le_of_ble_eq_true rfl) rfl ?_
        refine V_goto (tgt := 2) hC dX4_copy__26 (by decide) ?_
        exact V_to (ih (k + 1) _ (by omega) (by omega)) (lc rfl (lc rfl (lc rfl ln)))
  exact V_to (loop_2 _ 0 F2 (Nat.lt_succ_self _) (by omega)) (lc rfl (lc rfl (lc (kv nI_0.symm) ln)))
theorem in_Jx4a65c_Jx4a65c_addAll_f0b43 : ∀ w ∈ u_ws RJx4a65c TJx4a65c 3, w ∈ wsJx4a65c_addAll_f0b43 := by decide +kernel
theorem fu63_Jx4a65c_addAll_f0b43 : Cond.fieldLink RJx4a65c 63 RJx4a65c (TJx4a65c 0).2.1 (TJx4a65c 0).2.2.1 ∈ wsJx4a65c_addAll_f0b43 := by decide +kernel
theorem sm63_Jx4a65c_addAll_f0b43 : Cond.sameField RJx4a65c (TJx4a65c 0).1 (TJx4a65c 0).2.1 (TJx4a65c 0).2.2.1 ∈ wsJx4a65c_addAll_f0b43 := by decide +kernel
set_option maxRecDepth 100000 in
set_option maxHeartbeats 4000000 in
theorem k_Jx4a65c_addAll_f0b43 (l : Launch) (D : va_G) (cI cZ cT : ClassId) (r : Nat → Nat) (F : Nat → Nat → Int32) (v : Nat → Int32) (r2 : Nat → Nat) (F2 : Nat → Nat → Int32) (v2 : Nat → Int32) (h4 : v 4 = 0) : CI l D kC2 (kT2 D cI cZ cT) yJx4a65c_addAll_f0b43 wsJx4a65c_addAll_f0b43 ({ frames := 4, cells := 1, slots := 0, locals := 104 }) 1 0 [.ref (r2 32), .ref (r 32)] (WM D cI r F v (D.2 100 0) ++ WM D cI r2 F2 v2 (D.2 100 0)) (S := Unit) (fun r _ => r = 0) (fun _ => WM D cI r F v (D.2 100 0) ++ WM D cI r2 F2 (upd v2 3 (v2 3 + 1)) (D.2 100 0)) := by
  refine CI_of (own := RJx4a65c) (by decide) rfl rfl (Nat.le_of_ble_eq_true rfl) rfl (fun X A hC hE => ?_)
  refine V_aload_n hC dJx4a65c_addAll_f0b43_0 rfl rfl rfl ?_
  refine V_callRF (q0 := 0) (n := 0) (x := yCoT) hC dJx4a65c_addAll_f0b43_1 (k_Jx4a65c_toArray_d5877 l D cI cZ cT _ _ _ h4) gJx4a65c_addAll_f0b43_Jx4a65c_toArray_d5877_f42Jx4a65c (fun h => h.2.2.2.2.2.2.2.2.2.2.2) rfl ⟨rfl, rfl⟩ (by decide +kernel) ⟨Nat.le_of_ble_eq_true rfl, Nat.le_of_ble_eq_true rfl⟩ ⟨Nat.le_of_ble_eq_true rfl, Nat.le_of_ble_eq_true rfl⟩ (show _ = W0 D cI r F v ++ ([(r 32, .inr (6, [.int (v 3), .ref (D.2 100 0), .int (v 4)]))] ++ WM D cI r2 F2 v2 (D.2 100 0)) from rfl) rfl rfl rfl rfl (by exact Nat.le_of_ble_eq_true rfl) rfl (fun r_1 u_1 h_1 => ?_)
  subst h_1
  refine V_perm (ws' := (WM D cI r F v (D.2 100 0) ++ WM D cI r2 F2 v2 (D.2 100 0)) ++ [(u_1.1, .inl (D.1 100, 0, .inr (.inr (.inr (.inr u_1.2)))))]) pm ?_
  refine V_astore_n hC dJx4a65c_addAll_f0b43_6 rfl (Nat.le_of_ble_eq_true rfl) rfl ?_
  refine V_aload_n hC dJx4a65c_addAll_f0b43_7 rfl rfl rfl ?_
  refine V_dup hC dJx4a65c_addAll_f0b43_8 rfl rfl ?_
  refine V_getU (q0 := 65) (C := RJx4a65c) (T := TJx4a65c) (N := 3) (ref := RJx4a65c) hC dJx4a65c_addAll_f0b43_9 in_Jx4a65c_Jx4a65c_addAll_f0b43 rfl rfl 0 (Nat.le_of_ble_eq_true rfl) fu63_Jx4a65c_addAll_f0b43 sm63_Jx4a65c_addAll_f0b43 rfl rfl ?_
  refine V_iconst (v := 1) hC dJx4a65c_addAll_f0b43_12 (by decide) rfl ?_
  refine V_iadd hC dJx4a65c_addAll_f0b43_13 rfl ?_
  refine V_putU (q0 := 65) (ref := RJx4a65c) (C := RJx4a65c) (T := TJx4a65c) (N := 3) hC dJx4a65c_addAll_f0b43_14 in_Jx4a65c_Jx4a65c_addAll_f0b43 tyJx4a65c tyJx4a65c_ok nmJx4a65c rfl rfl 0 (Nat.le_of_ble_eq_true rfl) fu63_Jx4a65c_addAll_f0b43 sm63_Jx4a65c_addAll_f0b43 rfl rfl rfl rfl (Nat.le_of_ble_eq_true rfl) rfl rfl ?_
  refine V_aload_n hC dJx4a65c_addAll_f0b43_17 rfl rfl rfl ?_
  refine V_alen (q0 := 66) hC dJx4a65c_addAll_f0b43_18 rfl 4 rfl (rfl : _ = (0 : Int32)) rfl ?_
  refine V_istore_n hC dJx4a65c_addAll_f0b43_19 rfl (Nat.le_of_ble_eq_true rfl) rfl ?_
  refine V_iload_n hC dJx4a65c_addAll_f0b43_20 rfl rfl rfl ?_
  refine V_if_ne (tgt := 26) hC dJx4a65c_addAll_f0b43_21 (by decide) rfl (fun c => absurd c (by decide)) (fun _ => ?_)
  refine V_ws (ws' := (WM D cI r F v (D.2 100 0) ++ WM D cI r2 F2 (upd v2 3 (v2 3 + 1)) (D.2 100 0)) ++ [(u_1.1, .inl (D.1 100, 0, .inr (.inr (.inr (.inr u_1.2)))))]) rfl ?_
  refine V_drop ?_
  refine V_iconst (v := 0) hC dJx4a65c_addAll_f0b43_24 (by decide) rfl ?_
  refine V_widen (k := 1) (n := 0) (Nat.le_of_ble_eq_true rfl) (Nat.le_of_ble_eq_true rfl) ?_
  exact hE _ () _ _ _ dJx4a65c_addAll_f0b43_25 rfl rfl (by first | rfl | (simp [*]; done))
theorem in_X4_X4_copy : ∀ w ∈ u_ws RX4 TX4 7, w ∈ wsX4_copy := by decide +kernel
theorem cl12_X4_copy : Cond.classLink RX4 12 RX4 ∈ wsX4_copy := by decide +kernel
theorem insX4_X4_copy : Cond.instantiable RX4 7 ∈ wsX4_copy := by decide +kernel
theorem iniX4_X4_copy : Cond.initialized RX4 ∈ wsX4_copy := by decide +kernel
theorem inmX4_init_X4_copy : Cond.instanceMethod yX4_init ∈ wsX4_copy := by decide +kernel
theorem mlk29_X4_copy : Cond.methodLink RX4 29 yX4_init ∈ wsX4_copy := by decide +kernel
theorem fk_X4_copy_11 : Cond.fieldLink RX4 11 (TX4 0).1 (TX4 0).2.1 (TX4 0).2.2.1 ∈ wsX4_copy := by decide +kernel
theorem fk_X4_copy_16 : Cond.fieldLink RX4 16 (TX4 1).1 (TX4 1).2.1 (TX4 1).2.2.1 ∈ wsX4_copy := by decide +kernel
theorem fk_X4_copy_19 : Cond.fieldLink RX4 19 (TX4 3).1 (TX4 3).2.1 (TX4 3).2.2.1 ∈ wsX4_copy := by decide +kernel
theorem fk_X4_copy_34 : Cond.fieldLink RX4 34 (TX4 2).1 (TX4 2).2.1 (TX4 2).2.2.1 ∈ wsX4_copy := by decide +kernel
theorem fk_X4_copy_38 : Cond.fieldLink RX4 38 (TX4 4).1 (TX4 4).2.1 (TX4 4).2.2.1 ∈ wsX4_copy := by decide +kernel
theorem fk_X4_copy_25 : Cond.fieldLink RX4 25 (TX4 5).1 (TX4 5).2.1 (TX4 5).2.2.1 ∈ wsX4_copy := by decide +kernel
theorem fk_X4_copy_45 : Cond.fieldLink RX4 45 (TX4 6).1 (TX4 6).2.1 (TX4 6).2.2.1 ∈ wsX4_copy := by decide +kernel
set_option maxRecDepth 100000 in
set_option maxHeartbeats 4000000 in
theorem k_X4_copy (l : Launch) (D : va_G) (cI cZ cT : ClassId) (r : Nat → Nat) (F : Nat → Nat → Int32) (v : Nat → Int32) (h4 : v 4 = 0) : CR l D kC2 (kT2 D cI cZ cT) yX4_copy wsX4_copy ({ frames := 5, cells := 34, slots := 194, locals := 129 }) 34 194 [.ref (r 0)] (WM D cI r F v (D.2 100 0)) (S := ((Nat → Nat) × (Nat → Nat → Int32) × (Nat → Int32))) (fun a u => a = u.1 0 ∧ u.2.2 1 = v 1) (fun u => WM D cI r F v (D.2 100 0) ++ WM D cI u.1 u.2.1 u.2.2 (D.2 100 0)) := by
  refine CR_of (own := RX4) (by decide) rfl rfl (Nat.le_of_ble_eq_true rfl) rfl (Or.inl ⟨_, rfl⟩) (fun X A hC hE => ?_)
  refine V_new (ci := 4) (C := RX4) (T := TX4) (N := 7) (fs := [.null, .null, .int 0, .null, .int 0, .null, .int 0]) hC dX4_copy_0 in_X4_X4_copy tyX4 tyX4_ok cl12_X4_copy insX4_X4_copy iniX4_X4_copy rfl nw_X4 (Nat.le_of_ble_eq_true rfl) (Nat.le_of_ble_eq_true rfl) rfl (fun z1 => ?_)
  refine V_dup hC dX4_copy_3 rfl rfl ?_
  refine V_callVIf (n := 0) (suf := []) hC dX4_copy_4 (k_X4_init l D cI cZ cT z1) gX4_copy_X4_init iniX4_X4_copy mlk29_X4_copy inmX4_init_X4_copy rfl rfl ⟨rfl, rfl⟩ (by decide +kernel) ⟨Nat.le_of_ble_eq_true rfl, Nat.le_of_ble_eq_true rfl⟩ ⟨Nat.le_of_ble_eq_true rfl, Nat.le_of_ble_eq_true rfl⟩ rfl rfl rfl (by exact Nat.le_of_ble_eq_true rfl) rfl (fun u_z1 h_z1 => ?_)
  subst h_z1
  refine V_ws (ws' := (WM D cI r F v (D.2 100 0) ++ WM D cI u_z1 (FI 20) (fun _ => 0) (D.2 100 0))) (by simp) ?_
  refine V_astore_n hC dX4_copy_7 rfl (Nat.le_of_ble_eq_true rfl) rfl ?_
  refine V_aload_n hC dX4_copy_8 rfl rfl rfl ?_
  refine V_get (q0 := 0) (C := RX4) (T := TX4) (N := 7) hC dX4_copy_9 in_X4_X4_copy rfl rfl 0 (Nat.le_of_ble_eq_true rfl) fk_X4_copy_11 rfl rfl ?_
  refine V_aload_n hC dX4_copy_12 rfl rfl rfl ?_
  refine V_get (q0 := 33) (C := RX4) (T := TX4) (N := 7) hC dX4_copy_13 in_X4_X4_copy rfl rfl 0 (Nat.le_of_ble_eq_true rfl) fk_X4_copy_11 rfl rfl ?_
  refine V_callVS (n := 2) hC dX4_copy_16 (k_X4_copy_ l D cI cZ cT _ _ _ _ _ _ _ _ 1 20 3 (Or.inl ⟨rfl, rfl, rfl⟩)) gX4_copy_X4_copy_ rfl ⟨rfl, rfl⟩ (by decide +kernel) ⟨Nat.le_of_ble_eq_true rfl, Nat.le_of_ble_eq_true rfl⟩ ⟨Nat.le_of_ble_eq_true rfl, Nat.le_of_ble_eq_true rfl⟩ rfl rfl (by exact Nat.le_of_ble_eq_true rfl) rfl (fun u_16 h_16 => ?_)
  refine V_aload_n hC dX4_copy_19 rfl rfl rfl ?_
  refine V_get (q0 := 0) (C := RX4) (T := TX4) (N := 7) hC dX4_copy_20 in_X4_X4_copy rfl rfl 1 (Nat.le_of_ble_eq_true rfl) fk_X4_copy_16 rfl rfl ?_
  refine V_aload_n hC dX4_copy_23 rfl rfl rfl ?_
  refine V_get (q0 := 33) (C := RX4) (T := TX4) (N := 7) hC dX4_copy_24 in_X4_X4_copy rfl rfl 1 (Nat.le_of_ble_eq_true rfl) fk_X4_copy_16 rfl rfl ?_
  refine V_callVS (n := 2) hC dX4_copy_27 (k_X4_copy_ l D cI cZ cT _ _ _ _ _ _ _ _ 22 4 3 (Or.inr (Or.inl ⟨rfl, rfl, rfl⟩))) gX4_copy_X4_copy_ rfl ⟨rfl, rfl⟩ (by decide +kernel) ⟨Nat.le_of_ble_eq_true rfl, Nat.le_of_ble_eq_true rfl⟩ ⟨Nat.le_of_ble_eq_true rfl, Nat.le_of_ble_eq_true rfl⟩ rfl rfl (by exact Nat.le_of_ble_eq_true rfl) rfl (fun u_27 h_27 => ?_)
  refine V_aload_n hC dX4_copy_30 rfl rfl rfl ?_
  refine V_get (q0 := 0) (C := RX4) (T := TX4) (N := 7) hC dX4_copy_31 in_X4_X4_copy rfl rfl 3 (Nat.le_of_ble_eq_true rfl) fk_X4_copy_19 rfl rfl ?_
  refine V_aload_n hC dX4_copy_34 rfl rfl rfl ?_
  refine V_get (q0 := 33) (C := RX4) (T := TX4) (N := 7) hC dX4_copy_35 in_X4_X4_copy rfl rfl 3 (Nat.le_of_ble_eq_true rfl) fk_X4_copy_19 rfl rfl ?_
  refine V_callVS (n := 2) hC dX4_copy_38 (k_X4_copy_ l D cI cZ cT _ _ _ _ _ _ _ _ 27 4 21 (Or.inr (Or.inr ⟨rfl, rfl, rfl⟩))) gX4_copy_X4_copy_ rfl ⟨rfl, rfl⟩ (by decide +kernel) ⟨Nat.le_of_ble_eq_true rfl, Nat.le_of_ble_eq_true rfl⟩ ⟨Nat.le_of_ble_eq_true rfl, Nat.le_of_ble_eq_true rfl⟩ rfl rfl (by exact Nat.le_of_ble_eq_true rfl) rfl (fun u_38 h_38 => ?_)
  refine V_aload_n hC dX4_copy_41 rfl rfl rfl ?_
  refine V_aload_n hC dX4_copy_42 rfl rfl rfl ?_
  refine V_get (q0 := 0) (C := RX4) (T := TX4) (N := 7) hC dX4_copy_43 in_X4_X4_copy rfl rfl 2 (Nat.le_of_ble_eq_true rfl) fk_X4_copy_34 rfl rfl ?_
  refine V_put (q0 := 33) (C := RX4) (T := TX4) (N := 7) hC dX4_copy_46 in_X4_X4_copy tyX4 tyX4_ok nmX4 rfl rfl 2 (Nat.le_of_ble_eq_true rfl) fk_X4_copy_34 rfl rfl rfl rfl (Nat.le_of_ble_eq_true rfl) rfl rfl ?_
  refine V_aload_n hC dX4_copy_49 rfl rfl rfl ?_
  refine V_aload_n hC dX4_copy_50 rfl rfl rfl ?_
  refine V_get (q0 := 0) (C := RX4) (T := TX4) (N := 7) hC dX4_copy_51 in_X4_X4_copy rfl rfl 4 (Nat.le_of_ble_eq_true rfl) fk_X4_copy_38 rfl rfl ?_
  refine V_put (q0 := 33) (C := RX4) (T := TX4) (N := 7) hC dX4_copy_54 in_X4_X4_copy tyX4 tyX4_ok nmX4 rfl rfl 4 (Nat.le_of_ble_eq_true rfl) fk_X4_copy_38 rfl rfl rfl rfl (Nat.le_of_ble_eq_true rfl) rfl rfl ?_
  refine V_ws (ws' := (WM D cI r F v (D.2 100 0) ++ WM D cI u_z1 u_38 (upd (upd (fun _ => 0) 0 (v 0)) 1 (v 1)) (D.2 100 0))) rfl ?_
  refine V_aload_n hC dX4_copy_57 rfl rfl rfl ?_
  refine V_get (q0 := 33) (C := RX4) (T := TX4) (N := 7) hC dX4_copy_58 in_X4_X4_copy rfl rfl 5 (Nat.le_of_ble_eq_true rfl) fk_X4_copy_25 rfl rfl ?_
  refine V_aload_n hC dX4_copy_61 rfl rfl rfl ?_
  refine V_get (q0 := 0) (C := RX4) (T := TX4) (N := 7) hC dX4_copy_62 in_X4_X4_copy rfl rfl 5 (Nat.le_of_ble_eq_true rfl) fk_X4_copy_25 rfl rfl ?_
  refine V_callIV (q0 := 65) (n := 1) hC dX4_copy_65 (k_Jx4a65c_addAll_f0b43 l D cI cZ cT _ _ _ _ _ _ h4) gX4_copy_Jx4a65c_addAll_f0b43 rfl ⟨rfl, rfl⟩ (by decide +kernel) ⟨Nat.le_of_ble_eq_true rfl, Nat.le_of_ble_eq_true rfl⟩ ⟨Nat.le_of_ble_eq_true rfl, Nat.le_of_ble_eq_true rfl⟩ rfl rfl rfl rfl (by exact Nat.le_of_ble_eq_true rfl) rfl (fun r_65 u_65 h_65 => ?_)
  subst h_65
  refine V_pop hC dX4_copy_68 rfl rfl ?_
  refine V_aload_n hC dX4_copy_69 rfl rfl rfl ?_
  refine V_aload_n hC dX4_copy_70 rfl rfl rfl ?_
  refine V_get (q0 := 0) (C := RX4) (T := TX4) (N := 7) hC dX4_copy_71 in_X4_X4_copy rfl rfl 6 (Nat.le_of_ble_eq_true rfl) fk_X4_copy_45 rfl rfl ?_
  refine V_put (q0 := 33) (C := RX4) (T := TX4) (N := 7) hC dX4_copy_74 in_X4_X4_copy tyX4 tyX4_ok nmX4 rfl rfl 6 (Nat.le_of_ble_eq_true rfl) fk_X4_copy_45 rfl rfl rfl rfl (Nat.le_of_ble_eq_true rfl) rfl rfl ?_
  refine V_ws (ws' := (WM D cI r F v (D.2 100 0) ++ WM D cI u_z1 u_38 (upd (upd (upd (upd (fun _ => 0) 0 (v 0)) 1 (v 1)) 3 ((upd (upd (fun _ => 0) 0 (v 0)) 1 (v 1)) 3 + 1)) 2 (v 2)) (D.2 100 0))) rfl ?_
  refine V_aload_n hC dX4_copy_77 rfl rfl rfl ?_
  exact hE _ (u_z1, u_38, _) _ _ _ dX4_copy_78 trivial rfl ⟨rfl, rfl⟩
theorem in_X5_X5_worksNow : ∀ w ∈ u_ws RX5 TX5 3, w ∈ wsX5_worksNow := by decide +kernel
theorem fk_X5_worksNow_10 : Cond.fieldLink RX5 10 (TX5 1).1 (TX5 1).2.1 (TX5 1).2.2.1 ∈ wsX5_worksNow := by decide +kernel
set_option maxRecDepth 100000 in
set_option maxHeartbeats 4000000 in
theorem k_X5_worksNow (l : Launch) (D : va_G) (cI cZ cT : ClassId) (m : Nat) (th : Int32) (sm : Int64) (r : Nat → Nat) (F : Nat → Nat → Int32) (v : Nat → Int32) (h1 : v 1 = 0) (h4 : v 4 = 0) (f l1 n : Int32) (hn : ¬ n < 0) : CI l D kC2 (kT2 D cI cZ cT) yX5_worksNow wsX5_worksNow ({ frames := 6, cells := 34, slots := 194, locals := 150 }) 34 194 [.ref m, .int f, .int l1, .int n] (Wm D cI m th sm r F v (D.2 100 0)) (S := Unit) (fun r _ => r = 0) (fun _ => Wm D cI m th sm r F v (D.2 100 0)) := by
  refine CI_of (own := RX5) (by decide) rfl rfl (Nat.le_of_ble_eq_true rfl) rfl (fun X A hC hE => ?_)
  refine V_aload_n hC dX5_worksNow_0 rfl rfl rfl ?_
  refine V_get (q0 := 0) (C := RX5) (T := TX5) (N := 3) hC dX5_worksNow_1 in_X5_X5_worksNow rfl rfl 1 (Nat.le_of_ble_eq_true rfl) fk_X5_worksNow_10 rfl rfl ?_
  refine V_callRV (q0 := 0) (n := 0) hC dX5_worksNow_4 (k_X4_copy l D cI cZ cT _ _ _ h4) gX5_worksNow_X4_copy rfl ⟨rfl, rfl⟩ (by decide +kernel) ⟨Nat.le_of_ble_eq_true rfl, Nat.le_of_ble_eq_true rfl⟩ ⟨Nat.le_of_ble_eq_true rfl, Nat.le_of_ble_eq_true rfl⟩ Wm_l.symm rfl rfl rfl rfl (by exact Nat.le_of_ble_eq_true rfl) rfl (fun r_4 u_4 h_4 => ?_)
  obtain ⟨e4, hv4⟩ := h_4
  subst e4
  refine V_ws (ws' := Wm D cI m th sm r F v (D.2 100 0) ++ WM D cI u_4.1 u_4.2.1 u_4.2.2 (D.2 100 0)) (by simp [Wm]) ?_
  refine V_astore hC dX5_worksNow_7 (Nat.le_of_ble_eq_true rfl) rfl ?_
  refine V_iconst (v := 0) hC dX5_worksNow_9 (by decide) rfl ?_
  refine V_istore hC dX5_worksNow_10 (Nat.le_of_ble_eq_true rfl) rfl ?_
  refine V_iload hC dX5_worksNow_12 rfl rfl ?_
  refine V_iload_n hC dX5_worksNow_14 rfl rfl rfl ?_
  refine V_icmp_gt (tgt := 42) hC dX5_worksNow_15 (by decide) rfl (fun c_15 => ?_) (fun c_15 => ?_)
  · exact absurd c_15 hn
  · refine V_aload hC dX5_worksNow_18 rfl rfl ?_
    refine V_iload_n hC dX5_worksNow_20 rfl rfl rfl ?_
    refine V_iload_n hC dX5_worksNow_21 rfl rfl rfl ?_
    refine V_callIVf (q0 := 0) (n := 2) hC dX5_worksNow_22 (k_X4_hinders l D cI cZ cT _ _ _ _ (hv4.trans h1) _ _) gX5_worksNow_X4_hinders rfl ⟨rfl, rfl⟩ (by decide +kernel) ⟨Nat.le_of_ble_eq_true rfl, Nat.le_of_ble_eq_true rfl⟩ ⟨Nat.le_of_ble_eq_true rfl, Nat.le_of_ble_eq_true rfl⟩ (show _ = Wm D cI m th sm r F v (D.2 100 0) ++ (WM D cI u_4.1 u_4.2.1 u_4.2.2 (D.2 100 0) ++ []) from by simp) rfl rfl rfl rfl (by exact Nat.le_of_ble_eq_true rfl) rfl (fun r_22 u_22 h_22 => ?_)
    subst h_22
    refine V_drop ?_
    refine V_if_ne (tgt := 31) hC dX5_worksNow_25 (by decide) rfl (fun c => absurd c (by decide)) (fun _ => ?_)
    refine V_iload hC dX5_worksNow_28 rfl rfl ?_
    refine V_widen (k := 34) (n := 194) (Nat.le_of_ble_eq_true rfl) (Nat.le_of_ble_eq_true rfl) ?_
    exact hE _ () _ _ _ dX5_worksNow_30 rfl rfl (by first | rfl | (simp [*]; done))
theorem in_X5_X5_worksIn : ∀ w ∈ u_ws RX5 TX5 3, w ∈ wsX5_worksIn := by decide +kernel
theorem fk_X5_worksIn_16 : Cond.fieldLink RX5 16 (TX5 0).1 (TX5 0).2.1 (TX5 0).2.2.1 ∈ wsX5_worksIn := by decide +kernel
set_option maxRecDepth 100000 in
set_option maxHeartbeats 4000000 in
theorem k_X5_worksIn (l : Launch) (D : va_G) (cI cZ cT : ClassId) (m : Nat) (th : Int32) (sm : Int64) (r : Nat → Nat) (F : Nat → Nat → Int32) (v : Nat → Int32) (h1 : v 1 = 0) (h4 : v 4 = 0) (f l1 n : Int32) : CI l D kC2 (kT2 D cI cZ cT) yX5_worksIn wsX5_worksIn ({ frames := 7, cells := 34, slots := 194, locals := 175 }) 34 194 [.ref m, .int f, .int l1, .int n] (Wm D cI m th sm r F v (D.2 100 0)) (S := Int32) (fun r u => u = x_wi f l1 n ∧ (x_wi f l1 n = 0 → r = 0)) (fun u => Wm D cI m u sm r F v (D.2 100 0)) := by
  refine CI_of (own := RX5) (by decide) rfl rfl (Nat.le_of_ble_eq_true rfl) rfl (fun X A hC hE => ?_)
  refine V_aload_n hC dX5_worksIn_0 rfl rfl rfl ?_
  refine V_iconst (v := 0) hC dX5_worksIn_1 (by decide) rfl ?_
  refine V_put (q0 := 0) (C := RX5) (T := TX5) (N := 3) hC dX5_worksIn_2 in_X5_X5_worksIn tyX5 tyX5_ok nmX5 rfl rfl 0 (Nat.le_of_ble_eq_true rfl) fk_X5_worksIn_16 rfl rfl rfl rfl (Nat.le_of_ble_eq_true rfl) Wm_th rfl ?_
  refine V_iload_n hC dX5_worksIn_5 rfl rfl rfl ?_
  refine V_callIS0 (n := 1) hC dX5_worksIn_6 (k_X5_isSection l D cI cZ cT _) gX5_worksIn_X5_isSection rfl ⟨rfl, rfl⟩ (by decide +kernel) ⟨Nat.le_of_ble_eq_true rfl, Nat.le_of_ble_eq_true rfl⟩ ⟨Nat.le_of_ble_eq_true rfl, Nat.le_of_ble_eq_true rfl⟩ rfl rfl (by exact Nat.le_of_ble_eq_true rfl) rfl (fun r_6 u_6 h_6 => ?_)
  subst h_6
  refine V_if_eq (tgt := 19) hC dX5_worksIn_9 (by decide) rfl (fun c_9 => ?_) (fun c_9 => ?_)
  · refine V_aload_n hC dX5_worksIn_19 rfl rfl rfl ?_
    refine V_iconst (v := 1) hC dX5_worksIn_20 (by decide) rfl ?_
    refine V_callIV (q0 := 0) (n := 1) hC dX5_worksIn_21 (k_X5_refuse l D cI cZ cT _ _ _ _ _ _ _ _) gX5_worksIn_X5_refuse rfl ⟨rfl, rfl⟩ (by decide +kernel) ⟨Nat.le_of_ble_eq_true rfl, Nat.le_of_ble_eq_true rfl⟩ ⟨Nat.le_of_ble_eq_true rfl, Nat.le_of_ble_eq_true rfl⟩ rfl rfl rfl rfl (by exact Nat.le_of_ble_eq_true rfl) rfl (fun r_21 u_21 h_21 => ?_)
    subst h_21
    refine V_widen (k := 34) (n := 194) (Nat.le_of_ble_eq_true rfl) (Nat.le_of_ble_eq_true rfl) ?_
    exact hE _ _ _ _ _ dX5_worksIn_24 rfl rfl ⟨by simp [x_wi, *], by simp [x_wi, *]⟩
  · refine V_iload_n hC dX5_worksIn_12 rfl rfl rfl ?_
    refine V_callIS0 (n := 1) hC dX5_worksIn_13 (k_X5_isSection l D cI cZ cT _) gX5_worksIn_X5_isSection rfl ⟨rfl, rfl⟩ (by decide +kernel) ⟨Nat.le_of_ble_eq_true rfl, Nat.le_of_ble_eq_true rfl⟩ ⟨Nat.le_of_ble_eq_true rfl, Nat.le_of_ble_eq_true rfl⟩ rfl rfl (by exact Nat.le_of_ble_eq_true rfl) rfl (fun r_13 u_13 h_13 => ?_)
    subst h_13
    refine V_if_ne (tgt := 25) hC dX5_worksIn_16 (by decide) rfl (fun c_16 => ?_) (fun c_16 => ?_)
    · refine V_iload_n hC dX5_worksIn_25 rfl rfl rfl ?_
      refine V_iload_n hC dX5_worksIn_26 rfl rfl rfl ?_
      refine V_icmp_lt (tgt := 51) hC dX5_worksIn_27 (by decide) rfl (fun c_27 => ?_) (fun c_27 => ?_)
      · refine V_aload_n hC dX5_worksIn_51 rfl rfl rfl ?_
        refine V_iconst (v := 2) hC dX5_worksIn_52 (by decide) rfl ?_
        refine V_callIV (q0 := 0) (n := 1) hC dX5_worksIn_53 (k_X5_refuse l D cI cZ cT _ _ _ _ _ _ _ _) gX5_worksIn_X5_refuse rfl ⟨rfl, rfl⟩ (by decide +kernel) ⟨Nat.le_of_ble_eq_true rfl, Nat.le_of_ble_eq_true rfl⟩ ⟨Nat.le_of_ble_eq_true rfl, Nat.le_of_ble_eq_true rfl⟩ rfl rfl rfl rfl (by exact Nat.le_of_ble_eq_true rfl) rfl (fun r_53 u_53 h_53 => ?_)
        subst h_53
        refine V_widen (k := 34) (n := 194) (Nat.le_of_ble_eq_true rfl) (Nat.le_of_ble_eq_true rfl) ?_
        exact hE _ _ _ _ _ dX5_worksIn_56 rfl rfl (by first | exact ⟨by simp [x_wi, *], fun _ => rfl⟩ | exact ⟨by simp [x_wi, *], by simp [x_wi, *]⟩)
      · refine V_iload_n hC dX5_worksIn_30 rfl rfl rfl ?_
        refine V_iconst (v := 1) hC dX5_worksIn_31 (by decide) rfl ?_
        refine V_sipush (v := 300) hC dX5_worksIn_32 (by decide) rfl ?_
        refine V_callIS0 (n := 3) hC dX5_worksIn_35 (k_X5_is l D cI cZ cT _ _ _) gX5_worksIn_X5_is rfl ⟨rfl, rfl⟩ (by decide +kernel) ⟨Nat.le_of_ble_eq_true rfl, Nat.le_of_ble_eq_true rfl⟩ ⟨Nat.le_of_ble_eq_true rfl, Nat.le_of_ble_eq_true rfl⟩ rfl rfl (by exact Nat.le_of_ble_eq_true rfl) rfl (fun r_35 u_35 h_35 => ?_)
        subst h_35
        refine V_if_eq (tgt := 51) hC dX5_worksIn_38 (by decide) rfl (fun c_38 => ?_) (fun c_38 => ?_)
        · refine V_aload_n hC dX5_worksIn_51 rfl rfl rfl ?_
          refine V_iconst (v := 2) hC dX5_worksIn_52 (by decide) rfl ?_
          refine V_callIV (q0 := 0) (n := 1) hC dX5_worksIn_53 (k_X5_refuse l D cI cZ cT _ _ _ _ _ _ _ _) gX5_worksIn_X5_refuse rfl ⟨rfl, rfl⟩ (by decide +kernel) ⟨Nat.le_of_ble_eq_true rfl, Nat.le_of_ble_eq_true rfl⟩ ⟨Nat.le_of_ble_eq_true rfl, Nat.le_of_ble_eq_true rfl⟩ rfl rfl rfl rfl (by exact Nat.le_of_ble_eq_true rfl) rfl (fun r_53 u_53 h_53 => ?_)
          subst h_53
          refine V_widen (k := 34) (n := 194) (Nat.le_of_ble_eq_true rfl) (Nat.le_of_ble_eq_true rfl) ?_
          exact hE _ _ _ _ _ dX5_worksIn_56 rfl rfl (by first | exact ⟨by simp [x_wi, *], fun _ => rfl⟩ | exact ⟨by simp [x_wi, *], by simp [x_wi, *]⟩)
        · refine V_aload_n hC dX5_worksIn_41 rfl rfl rfl ?_
          refine V_iload_n hC dX5_worksIn_42 rfl rfl rfl ?_
          refine V_iload_n hC dX5_worksIn_43 rfl rfl rfl ?_
          refine V_iload_n hC dX5_worksIn_44 rfl rfl rfl ?_
          refine V_callIV (q0 := 0) (n := 3) hC dX5_worksIn_45 (k_X5_worksNow l D cI cZ cT _ _ _ _ _ _ h1 h4 _ _ _ (m_in_pos c_38)) gX5_worksIn_X5_worksNow rfl ⟨rfl, rfl⟩ (by decide +kernel) ⟨Nat.le_of_ble_eq_true rfl, Nat.le_of_ble_eq_true rfl⟩ ⟨Nat.le_of_ble_eq_true rfl, Nat.le_of_ble_eq_true rfl⟩ rfl rfl rfl rfl (by exact Nat.le_of_ble_eq_true rfl) rfl (fun r_45 u_45 h_45 => ?_)
          subst h_45
          refine V_goto (tgt := 56) hC dX5_worksIn_48 (by decide) ?_
          refine V_widen (k := 34) (n := 194) (Nat.le_of_ble_eq_true rfl) (Nat.le_of_ble_eq_true rfl) ?_
          exact hE _ _ _ _ _ dX5_worksIn_56 rfl rfl (by first | exact ⟨by simp [x_wi, *], fun _ => rfl⟩ | exact ⟨by simp [x_wi, *], by simp [x_wi, *]⟩)
    · refine V_aload_n hC dX5_worksIn_19 rfl rfl rfl ?_
      refine V_iconst (v := 1) hC dX5_worksIn_20 (by decide) rfl ?_
      refine V_callIV (q0 := 0) (n := 1) hC dX5_worksIn_21 (k_X5_refuse l D cI cZ cT _ _ _ _ _ _ _ _) gX5_worksIn_X5_refuse rfl ⟨rfl, rfl⟩ (by decide +kernel) ⟨Nat.le_of_ble_eq_true rfl, Nat.le_of_ble_eq_true rfl⟩ ⟨Nat.le_of_ble_eq_true rfl, Nat.le_of_ble_eq_true rfl⟩ rfl rfl rfl rfl (by exact Nat.le_of_ble_eq_true rfl) rfl (fun r_21 u_21 h_21 => ?_)
      subst h_21
      refine V_widen (k := 34) (n := 194) (Nat.le_of_ble_eq_true rfl) (Nat.le_of_ble_eq_true rfl) ?_
      exact hE _ _ _ _ _ dX5_worksIn_24 rfl rfl ⟨by simp [x_wi, *], by simp [x_wi, *]⟩
theorem in_X5_X5_add : ∀ w ∈ u_ws RX5 TX5 3, w ∈ wsX5_add := by decide +kernel
theorem fk_X5_add_173 : Cond.fieldLink RX5 173 (TX5 2).1 (TX5 2).2.1 (TX5 2).2.2.1 ∈ wsX5_add := by decide +kernel
theorem k176_X5_add : Cond.constantLong RX5 176 31 ∈ wsX5_add := by decide +kernel
set_option maxRecDepth 100000 in
set_option maxHeartbeats 4000000 in
theorem k_X5_add (l : Launch) (D : va_G) (cI cZ cT : ClassId) (m : Nat) (th : Int32) (sm : Int64) (r : Nat → Nat) (F : Nat → Nat → Int32) (v : Nat → Int32) (e : Nat)  (k : Int32) : CV l D kC2 (kT2 D cI cZ cT) yX5_add wsX5_add ({ frames := 0, cells := 0, slots := 0, locals := 0 }) 0 0 [.ref m, .int k] (Wm D cI m th sm r F v e) (S := Unit) (fun _ => True) (fun _ => Wm D cI m th (dg k sm) r F v e) := by
  refine CV_of (own := RX5) (by decide) rfl rfl (Nat.le_of_ble_eq_true rfl) rfl (fun X A hC hE => ?_)
  refine V_aload_n hC dX5_add_0 rfl rfl rfl ?_
  refine V_aload_n hC dX5_add_1 rfl rfl rfl ?_
  refine V_get (q0 := 0) (C := RX5) (T := TX5) (N := 3) hC dX5_add_2 in_X5_X5_add rfl rfl 2 (Nat.le_of_ble_eq_true rfl) fk_X5_add_173 rfl rfl ?_
  refine V_ldc2 (v := 31) hC dX5_add_5 k176_X5_add rfl ?_
  refine V_lmul hC dX5_add_8 rfl ?_
  refine V_iload_n hC dX5_add_9 rfl rfl rfl ?_
  refine V_i2l hC dX5_add_10 rfl ?_
  refine V_ladd hC dX5_add_11 rfl ?_
  refine V_put (q0 := 0) (C := RX5) (T := TX5) (N := 3) hC dX5_add_12 in_X5_X5_add tyX5 tyX5_ok nmX5 rfl rfl 2 (Nat.le_of_ble_eq_true rfl) fk_X5_add_173 rfl rfl rfl rfl (Nat.le_of_ble_eq_true rfl) Wm_sm rfl ?_
  exact hE () _ _ _ dX5_add_15 trivial rfl trivial
theorem in_X5_X5_digest : ∀ w ∈ u_ws RX5 TX5 3, w ∈ wsX5_digest := by decide +kernel
theorem fk_X5_digest_16 : Cond.fieldLink RX5 16 (TX5 0).1 (TX5 0).2.1 (TX5 0).2.2.1 ∈ wsX5_digest := by decide +kernel
theorem k178_X5_digest : Cond.constantLong RX5 178 4810 ∈ wsX5_digest := by decide +kernel
theorem fk_X5_digest_173 : Cond.fieldLink RX5 173 (TX5 2).1 (TX5 2).2.1 (TX5 2).2.2.1 ∈ wsX5_digest := by decide +kernel
theorem fk_X5_digest_10 : Cond.fieldLink RX5 10 (TX5 1).1 (TX5 1).2.1 (TX5 1).2.2.1 ∈ wsX5_digest := by decide +kernel
theorem in_X4_X5_digest : ∀ w ∈ u_ws RX4 TX4 7, w ∈ wsX5_digest := by decide +kernel
set_option maxRecDepth 100000 in
set_option maxHeartbeats 4000000 in
theorem k_X5_digest (l : Launch) (D : va_G) (cI cZ cT : ClassId) (m : Nat) (th : Int32) (sm : Int64) (r : Nat → Nat) : CL l D kC2 (kT2 D cI cZ cT) yX5_digest wsX5_digest ({ frames := 7, cells := 144, slots := 694, locals := 175 }) 144 694 [.ref m] (Wm D cI m th sm r (FI 20) (fun _ => 0) (D.2 100 0)) (S := Int64) (fun a _ => a = dg 0 (mg2 20)) (fun u => Wm D cI m 0 u r (FI 20) (fun _ => 0) (D.2 100 0)) := by
  refine CL_of (own := RX5) (by decide) rfl rfl (Nat.le_of_ble_eq_true rfl) rfl (fun X A hC hE => ?_)
  refine V_aload_n hC dX5_digest_0 rfl rfl rfl ?_
  refine V_iconst (v := 0) hC dX5_digest_1 (by decide) rfl ?_
  refine V_put (q0 := 0) (C := RX5) (T := TX5) (N := 3) hC dX5_digest_2 in_X5_X5_digest tyX5 tyX5_ok nmX5 rfl rfl 0 (Nat.le_of_ble_eq_true rfl) fk_X5_digest_16 rfl rfl rfl rfl (Nat.le_of_ble_eq_true rfl) Wm_th rfl ?_
  refine V_aload_n hC dX5_digest_5 rfl rfl rfl ?_
  refine V_ldc2 (v := 4810) hC dX5_digest_6 k178_X5_digest rfl ?_
  refine V_put (q0 := 0) (C := RX5) (T := TX5) (N := 3) hC dX5_digest_9 in_X5_X5_digest tyX5 tyX5_ok nmX5 rfl rfl 2 (Nat.le_of_ble_eq_true rfl) fk_X5_digest_173 rfl rfl rfl rfl (Nat.le_of_ble_eq_true rfl) Wm_sm rfl ?_
  refine V_iconst (v := 0) hC dX5_digest_12 (by decide) rfl ?_
  refine V_istore_n hC dX5_digest_13 rfl (Nat.le_of_ble_eq_true rfl) rfl ?_
  have loop_14 : ∀ (d k : Nat), 10 - k < d → k ≤ 10 → V X (k) (10 * k) (Wm D cI m 0 (mg1 k) r (FI 20) (fun _ => 0) (D.2 100 0)) [(0, .ref m), (1, .int (nI k))] 14 [] := by
    intro d_14
    induction d_14 with
    | zero => intro k h; exact absurd h (Nat.not_lt_zero _)
    | succ d_14 ih_14 =>
      intro k h14 hk14
      refine V_iload_n hC dX5_digest_14 rfl rfl rfl ?_
      refine V_bipush (v := 10) hC dX5_digest_15 (by decide) rfl ?_
      refine V_icmp_ge (tgt := 35) hC dX5_digest_17 (by decide) rfl (fun c_17 => ?_) (fun c_17 => ?_)
      · have c1 := nI_le' (a := 10) (b := k) c_17 (by decide) (by omega)
        obtain rfl : k = 10 := by omega
        refine V_iconst (v := 0) hC dX5_digest_35 (by decide) rfl ?_
        refine V_istore_n hC dX5_digest_36 rfl (Nat.le_of_ble_eq_true rfl) rfl ?_
        have loop_37 : ∀ (d k : Nat), 20 - k < d → k ≤ 20 → V X (10 + 5 * k) (100 + 20 * k) (Wm D cI m 0 (mg2 k) r (FI 20) (fun _ => 0) (D.2 100 0)) [(0, .ref m), (1, .int (nI k))] 37 [] := by
          intro d_37
          induction d_37 with
          | zero => intro k h; exact absurd h (Nat.not_lt_zero _)
          | succ d_37 ih_37 =>
            intro k h37 hk37
            refine V_iload_n hC dX5_digest_37 rfl rfl rfl ?_
            refine V_bipush (v := 20) hC dX5_digest_38 (by decide) rfl ?_
            refine V_icmp_ge (tgt := 72) hC dX5_digest_40 (by decide) rfl (fun c_40 => ?_) (fun c_40 => ?_)
            · have c1 := nI_le' (a := 20) (b := k) c_40 (by decide) (by omega)
              obtain rfl : k = 20 := by omega
              refine V_iconst (v := 0) hC dX5_digest_72 (by decide) rfl ?_
              refine V_istore_n hC dX5_digest_73 rfl (Nat.le_of_ble_eq_true rfl) rfl ?_
              refine V_iload_n hC dX5_digest_74 rfl rfl rfl ?_
              refine V_aload_n hC dX5_digest_75 rfl rfl rfl ?_
              refine V_get (q0 := 0) (C := RX5) (T := TX5) (N := 3) hC dX5_digest_76 in_X5_X5_digest rfl rfl 1 (Nat.le_of_ble_eq_true rfl) fk_X5_digest_10 rfl rfl ?_
              refine V_getN (q0 := 1) (C := RX4) (T := TX4) (N := 7) (ref := RX4) (host := RX5) hC dX5_digest_79 in_X4_X5_digest rfl rfl 4 (Nat.le_of_ble_eq_true rfl) (by decide +kernel) rfl rfl rfl ?_
              refine V_icmp_ge (tgt := 180) hC dX5_digest_82 (by decide) rfl (fun c_82 => ?_) (fun c_82 => ?_)
              · refine V_iconst (v := 0) hC dX5_digest_180 (by decide) rfl ?_
                refine V_istore_n hC dX5_digest_181 rfl (Nat.le_of_ble_eq_true rfl) rfl ?_
                refine V_iload_n hC dX5_digest_182 rfl rfl rfl ?_
                refine V_aload_n hC dX5_digest_183 rfl rfl rfl ?_
                refine V_get (q0 := 0) (C := RX5) (T := TX5) (N := 3) hC dX5_digest_184 in_X5_X5_digest rfl rfl 1 (Nat.le_of_ble_eq_true rfl) fk_X5_digest_10 rfl rfl ?_
                refine V_getN (q0 := 1) (C := RX4) (T := TX4) (N := 7) (ref := RX4) (host := RX5) hC dX5_digest_187 in_X4_X5_digest rfl rfl 2 (Nat.le_of_ble_eq_true rfl) (by decide +kernel) rfl rfl rfl ?_
                refine V_icmp_ge (tgt := 227) hC dX5_digest_190 (by decide) rfl (fun c_190 => ?_) (fun c_190 => ?_)
                · refine V_aload_n hC dX5_digest_227 rfl rfl rfl ?_
                  refine V_aload_n hC dX5_digest_228 rfl rfl rfl ?_
                  refine V_iconst (v := 5) hC dX5_digest_229 (by decide) rfl ?_
                  refine V_bipush (v := 6) hC dX5_digest_230 (by decide) rfl ?_
                  refine V_bipush (v := 60) hC dX5_digest_232 (by decide) rfl ?_
                  refine V_callIV (q0 := 0) (n := 3) hC dX5_digest_234 (k_X5_worksNow l D cI cZ cT _ _ _ _ _ _ (show (fun _ : Nat => (0 : Int32)) 1 = 0 from rfl) (show (fun _ : Nat => (0 : Int32)) 4 = 0 from rfl) _ _ _ (by decide)) gX5_digest_X5_worksNow rfl ⟨rfl, rfl⟩ (by decide +kernel) ⟨Nat.le_of_ble_eq_true rfl, Nat.le_of_ble_eq_true rfl⟩ ⟨Nat.le_of_ble_eq_true rfl, Nat.le_of_ble_eq_true rfl⟩ rfl rfl rfl rfl (by exact Nat.le_of_ble_eq_true rfl) rfl (fun r_234 u_234 h_234 => ?_)
                  subst h_234
                  refine V_callVV (q0 := 0) (n := 1) hC dX5_digest_237 (k_X5_add l D cI cZ cT _ _ _ _ _ _ _ _) gX5_digest_X5_add rfl ⟨rfl, rfl⟩ (by decide +kernel) ⟨Nat.le_of_ble_eq_true rfl, Nat.le_of_ble_eq_true rfl⟩ ⟨Nat.le_of_ble_eq_true rfl, Nat.le_of_ble_eq_true rfl⟩ rfl rfl rfl rfl (by exact Nat.le_of_ble_eq_true rfl) rfl (fun u_237 h_237 => ?_)
                  refine V_aload_n hC dX5_digest_240 rfl rfl rfl ?_
                  refine V_get (q0 := 0) (C := RX5) (T := TX5) (N := 3) hC dX5_digest_241 in_X5_X5_digest rfl rfl 2 (Nat.le_of_ble_eq_true rfl) fk_X5_digest_173 rfl rfl ?_
                  refine V_widen (k := 144) (n := 694) (Nat.le_of_ble_eq_true rfl) (Nat.le_of_ble_eq_true rfl) ?_
                  exact hE _ _ _ _ _ dX5_digest_244 trivial rfl rfl
                · exact absurd (by decide) c_190
              · exact absurd (by decide) c_82
            · have c1 := nI_nle' (a := 20) (b := k) c_40 (by decide) (by omega)
              refine V_iconst (v := 0) hC dX5_digest_43 (by decide) rfl ?_
              refine V_istore_n hC dX5_digest_44 rfl (Nat.le_of_ble_eq_true rfl) rfl ?_
              have loop_45 : ∀ (d w : Nat), 5 - w < d → w ≤ 5 → V X (10 + 5 * k + w) (100 + 20 * k + 4 * w) (Wm D cI m 0 (foldN (fun w d => dg (a_ofs (nI w)) d) w (mg2 k)) r (FI 20) (fun _ => 0) (D.2 100 0)) [(0, .ref m), (1, .int (nI k)), (2, .int (nI w))] 45 [] := by
                intro d_45
                induction d_45 with
                | zero => intro w h; exact absurd h (Nat.not_lt_zero _)
                | succ d_45 ih_45 =>
                  intro w h45 hk45
                  refine V_iload_n hC dX5_digest_45 rfl rfl rfl ?_
                  refine V_iconst (v := 5) hC dX5_digest_46 (by decide) rfl ?_
                  refine V_icmp_ge (tgt := 66) hC dX5_digest_47 (by decide) rfl (fun c_47 => ?_) (fun c_47 => ?_)
                  · have c2 := nI_le' (a := 5) (b := w) c_47 (by decide) (by omega)
                    obtain rfl : w = 5 := by omega
                    refine V_iinc hC dX5_digest_66 rfl (nI_1 k) (Nat.le_of_ble_eq_true rfl) rfl ?_
                    refine V_goto (tgt := 37) hC dX5_digest_69 (by decide) ?_
                    refine V_widen (k := 10 + 5 * (k + 1)) (n := 100 + 20 * (k + 1)) (by omega) (by omega) ?_
                    refine V_ws (ws' := (Wm D cI m 0 (mg2 (k + 1)) r (FI 20) (fun _ => 0) (D.2 100 0))) (by rw [mg2_s]) ?_
                    exact V_to (ih_37 (k + 1) (by omega) (by omega)) (lc rfl (lc rfl ln))
                  · have c2 := nI_nle' (a := 5) (b := w) c_47 (by decide) (by omega)
                    refine V_aload_n hC dX5_digest_50 rfl rfl rfl ?_
                    refine V_aload_n hC dX5_digest_51 rfl rfl rfl ?_
                    refine V_iload_n hC dX5_digest_52 rfl rfl rfl ?_
                    refine V_iload_n hC dX5_digest_53 rfl rfl rfl ?_
                    refine V_callIV (q0 := 0) (n := 2) hC dX5_digest_54 (k_X5_ofSectionNow l D cI cZ cT _ _ _ _ _ _ _ rfl (show (fun _ : Nat => (0 : Int32)) 1 = 0 from rfl) (show (fun _ : Nat => (0 : Int32)) 4 = 0 from rfl) k _ c1 (by rw [show m_in (nI w) 0 4 = 1 from m_inN (a := 0) (b := 4) (by omega) (by omega) (by decide)]; decide)) gX5_digest_X5_ofSectionNow rfl ⟨rfl, rfl⟩ (by decide +kernel) ⟨Nat.le_of_ble_eq_true rfl, Nat.le_of_ble_eq_true rfl⟩ ⟨by dsimp only; omega, by dsimp only; omega⟩ rfl rfl rfl rfl (by exact Nat.le_of_ble_eq_true rfl) rfl (fun r_54 u_54 h_54 => ?_)
                    subst h_54
                    refine V_callVV (q0 := 0) (n := 1) hC dX5_digest_57 (k_X5_add l D cI cZ cT _ _ _ _ _ _ _ _) gX5_digest_X5_add rfl ⟨rfl, rfl⟩ (by decide +kernel) ⟨Nat.le_of_ble_eq_true rfl, Nat.le_of_ble_eq_true rfl⟩ ⟨by dsimp only; omega, by dsimp only; omega⟩ rfl rfl rfl rfl (by exact Nat.le_of_ble_eq_true rfl) rfl (fun u_57 h_57 => ?_)
                    refine V_iinc hC dX5_digest_60 rfl (nI_1 w) (Nat.le_of_ble_eq_true rfl) rfl ?_
                    refine V_goto (tgt := 45) hC dX5_digest_63 (by decide) ?_
                    refine V_widen (k := 10 + 5 * k + (w + 1)) (n := 100 + 20 * k + 4 * (w + 1)) (by omega) (by omega) ?_
                    refine V_ws (ws' := (Wm D cI m 0 (foldN (fun w d => dg (a_ofs (nI w)) d) (w + 1) (mg2 k)) r (FI 20) (fun _ => 0) (D.2 100 0))) (by rw [foldN_s]) ?_
                    exact V_to (ih_45 (w + 1) (by omega) (by omega)) (lc rfl (lc rfl (lc rfl ln)))
              refine V_ws (ws' := (Wm D cI m 0 (foldN (fun w d => dg (a_ofs (nI w)) d) 0 (mg2 k)) r (FI 20) (fun _ => 0) (D.2 100 0))) (by rw [foldN_0]) ?_
              exact V_to (loop_45 _ 0 (Nat.lt_succ_self _) (by omega)) (lc rfl (lc rfl (lc (kv nI_0.symm) ln)))
        refine V_ws (ws' := (Wm D cI m 0 (mg2 0) r (FI 20) (fun _ => 0) (D.2 100 0))) (by rw [mg2_0]) ?_
        exact V_to (loop_37 _ 0 (Nat.lt_succ_self _) (by omega)) (lc rfl (lc (kv nI_0.symm) ln))
      · have c1 := nI_nle' (a := 10) (b := k) c_17 (by decide) (by omega)
        refine V_aload_n hC dX5_digest_20 rfl rfl rfl ?_
        refine V_aload_n hC dX5_digest_21 rfl rfl rfl ?_
        refine V_iload_n hC dX5_digest_22 rfl rfl rfl ?_
        refine V_callIV (q0 := 0) (n := 1) hC dX5_digest_23 (k_X5_manyNow l D cI cZ cT _ _ _ _ _ _ _ (fun _ => rfl) _ (by rw [show m_in (nI k) 0 9 = 1 from m_inN (a := 0) (b := 9) (by omega) (by omega) (by decide)]; decide)) gX5_digest_X5_manyNow rfl ⟨rfl, rfl⟩ (by decide +kernel) ⟨Nat.le_of_ble_eq_true rfl, Nat.le_of_ble_eq_true rfl⟩ ⟨by dsimp only; omega, by dsimp only; omega⟩ rfl rfl rfl rfl (by exact Nat.le_of_ble_eq_true rfl) rfl (fun r_23 u_23 h_23 => ?_)
        subst h_23
        refine V_callVV (q0 := 0) (n := 1) hC dX5_digest_26 (k_X5_add l D cI cZ cT _ _ _ _ _ _ _ _) gX5_digest_X5_add rfl ⟨rfl, rfl⟩ (by decide +kernel) ⟨Nat.le_of_ble_eq_true rfl, Nat.le_of_ble_eq_true rfl⟩ ⟨by dsimp only; omega, by dsimp only; omega⟩ rfl rfl rfl rfl (by exact Nat.le_of_ble_eq_true rfl) rfl (fun u_26 h_26 => ?_)
        refine V_iinc hC dX5_digest_29 rfl (nI_1 k) (Nat.le_of_ble_eq_true rfl) rfl ?_
        refine V_goto (tgt := 14) hC dX5_digest_32 (by decide) ?_
        refine V_widen (k := k + 1) (n := 10 * (k + 1)) (by omega) (by omega) ?_
        refine V_ws (ws' := (Wm D cI m 0 (mg1 (k + 1)) r (FI 20) (fun _ => 0) (D.2 100 0))) (by rw [mg1_s]) ?_
        exact V_to (ih_14 (k + 1) (by omega) (by omega)) (lc rfl (lc rfl ln))
  refine V_ws (ws' := (Wm D cI m 0 (mg1 0) r (FI 20) (fun _ => 0) (D.2 100 0))) (by rw [mg1_0]) ?_
  exact V_to (loop_14 _ 0 (Nat.lt_succ_self _) (by omega)) (lc rfl (lc (kv nI_0.symm) ln))
