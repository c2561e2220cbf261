theorem oil_X5_init : Cond.methodLink RX5 1 objectInit ∈ wsX5_init := by decide +kernel
theorem oii_X5_init : Cond.instanceMethod objectInit ∈ wsX5_init := by decide +kernel
theorem oic_X5_init : Cond.code objectInit ⟨#[0xb1]⟩ 1 none ∈ wsX5_init := by decide +kernel
theorem in_X4_X5_init : ∀ w ∈ u_ws RX4 TX4 7, w ∈ wsX5_init := by decide +kernel
theorem cl7_X5_init : Cond.classLink RX5 7 RX4 ∈ wsX5_init := by decide +kernel
theorem insX4_X5_init : Cond.instantiable RX4 7 ∈ wsX5_init := by decide +kernel
theorem iniX4_X5_init : Cond.initialized RX4 ∈ wsX5_init := by decide +kernel
theorem inmX4_init_X5_init : Cond.instanceMethod yX4_init ∈ wsX5_init := by decide +kernel
theorem mlk9_X5_init : Cond.methodLink RX5 9 yX4_init ∈ wsX5_init := by decide +kernel
theorem in_X5_X5_init : ∀ w ∈ u_ws RX5 TX5 3, w ∈ wsX5_init := by decide +kernel
theorem fk_X5_init_10 : Cond.fieldLink RX5 10 (TX5 1).1 (TX5 1).2.1 (TX5 1).2.2.1 ∈ wsX5_init := by decide +kernel
set_option maxRecDepth 100000 in
set_option maxHeartbeats 4000000 in
theorem k_X5_init (l : Launch) (D : va_G) (cI cZ cT : ClassId) (x : Nat) : CV l D kC2 (kT2 D cI cZ cT) yX5_init wsX5_init ({ frames := 5, cells := 33, slots := 194, locals := 96 }) 33 194 [.ref x] [(x, .inr (5, [.int 0, .null, .long 0]))] (S := (Nat → Nat)) (fun _ => True) (fun r => Wm D cI x 0 0 r (FI 20) (fun _ => 0) (D.2 100 0)) := by
  refine CVI_of (own := RX5) (by decide) rfl rfl (Nat.le_of_ble_eq_true rfl) rfl (fun X A hC hmn hE => ?_)
  refine V_aload_n hC dX5_init_0 rfl rfl rfl ?_
  refine V_objInit hC dX5_init_1 oil_X5_init oii_X5_init oic_X5_init (Nat.le_of_ble_eq_true rfl) (Nat.le_of_ble_eq_true rfl) rfl ?_
  refine V_aload_n hC dX5_init_4 rfl rfl rfl ?_
  refine V_new (ci := 4) (C := RX4) (T := TX4) (N := 7) (fs := [.null, .null, .int 0, .null, .int 0, .null, .int 0]) hC dX5_init_5 in_X4_X5_init tyX4 tyX4_ok cl7_X5_init insX4_X5_init iniX4_X5_init rfl nw_X4 (Nat.le_of_ble_eq_true rfl) (Nat.le_of_ble_eq_true rfl) rfl (fun z1 => ?_)
  refine V_dup hC dX5_init_8 rfl rfl ?_
  refine V_callVIf (n := 0) (suf := []) hC dX5_init_9 (k_X4_init l D cI cZ cT z1) gX5_init_X4_init iniX4_X5_init mlk9_X5_init inmX4_init_X5_init rfl rfl ⟨rfl, rfl⟩ (by decide +kernel) ⟨Nat.le_of_ble_eq_true rfl, Nat.le_of_ble_eq_true rfl⟩ ⟨Nat.le_of_ble_eq_true rfl, Nat.le_of_ble_eq_true rfl⟩ rfl rfl rfl (by exact Nat.le_of_ble_eq_true rfl) rfl (fun u_z1 h_z1 => ?_)
  subst h_z1
  refine V_putF (q0 := 0) (C := RX5) (T := TX5) (N := 3) hC hmn dX5_init_12 in_X5_X5_init tyX5 tyX5_ok nmX5 rfl rfl 1 (Nat.le_of_ble_eq_true rfl) fk_X5_init_10 rfl rfl rfl rfl rfl (Nat.le_of_ble_eq_true rfl) rfl rfl ?_
  refine V_ws (ws' := Wm D cI x 0 0 u_z1 (FI 20) (fun _ => 0) (D.2 100 0)) rfl ?_
  refine V_widen (k := 33) (n := 194) (Nat.le_of_ble_eq_true rfl) (Nat.le_of_ble_eq_true rfl) ?_
  exact hE u_z1 _ _ _ dX5_init_15 trivial rfl trivial
