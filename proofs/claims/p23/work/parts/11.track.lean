theorem iniX3_X1_leastLimit : Cond.initialized RX3 ∈ wsX1_leastLimit := by decide +kernel
theorem staX3_sectionAt_X1_leastLimit : Cond.static yX3_sectionAt ∈ wsX1_leastLimit := by decide +kernel
theorem in_X1_X1_leastLimit : ∀ w ∈ u_ws RX1 TX1 10, w ∈ wsX1_leastLimit := by decide +kernel
theorem fk_X1_leastLimit_9 : Cond.fieldLink RX1 9 (TX1 0).1 (TX1 0).2.1 (TX1 0).2.2.1 ∈ wsX1_leastLimit := by decide +kernel
theorem ml48_X1_leastLimit : Cond.methodLink RX1 48 Lib.Math.min.name ∈ wsX1_leastLimit := by decide +kernel
theorem msmin_X1_leastLimit : Cond.static Lib.Math.min.name ∈ wsX1_leastLimit := by decide +kernel
theorem mi_X1_leastLimit : Cond.initialized "java/lang/Math" ∈ wsX1_leastLimit := by decide +kernel
theorem mcmin_X1_leastLimit : Cond.code Lib.Math.min.name Lib.Math.min.code 2 (some .int) ∈ wsX1_leastLimit := by decide +kernel
set_option maxRecDepth 100000 in
set_option maxHeartbeats 4000000 in
theorem k_X1_leastLimit (l : Launch) (D : va_G) (cI cZ cT : ClassId) (a : Nat → Nat) (t g : Nat → Nat → Int32) (x y : Int32) : CI l D kCl (kTy cI cZ cT) yX1_leastLimit wsX1_leastLimit ({ frames := 1, cells := 0, slots := 0, locals := 20 }) 0 0 [.ref (a 5), .int x, .int y] (Wl cI cZ cT a t g) (S := Unit) (fun r _ => r = m_lim (g 0) x y) (fun _ => (Wl cI cZ cT a t g)) := by
  refine CI_of (own := RX1) (by decide) rfl rfl (Nat.le_of_ble_eq_true rfl) rfl (fun X A hC hE => ?_)
  have hx := sec_N x
  have hy := sec_N y
  refine V_bipush (v := 40) hC dX1_leastLimit_0 (by decide) rfl ?_
  refine V_istore_n hC dX1_leastLimit_2 rfl (Nat.le_of_ble_eq_true rfl) rfl ?_
  refine V_iload_n hC dX1_leastLimit_3 rfl rfl rfl ?_
  refine V_callIN0 (n := 1) (host := RX3) hC dX1_leastLimit_4 (k_X3_sectionAt l D cI cZ cT _) gX1_leastLimit_X3_sectionAt_n44 (by decide +kernel) iniX3_X1_leastLimit staX3_sectionAt_X1_leastLimit rfl ⟨rfl, rfl⟩ (by decide +kernel) ⟨Nat.le_of_ble_eq_true rfl, Nat.le_of_ble_eq_true rfl⟩ ⟨Nat.le_of_ble_eq_true rfl, Nat.le_of_ble_eq_true rfl⟩ rfl rfl (by exact Nat.le_of_ble_eq_true rfl) rfl (fun r_4 u_4 h_4 => ?_)
  subst h_4
  refine V_istore hC dX1_leastLimit_7 (Nat.le_of_ble_eq_true rfl) rfl ?_
  refine V_iload_n hC dX1_leastLimit_9 rfl rfl rfl ?_
  refine V_callIN0 (n := 1) (host := RX3) hC dX1_leastLimit_10 (k_X3_sectionAt l D cI cZ cT _) gX1_leastLimit_X3_sectionAt_n44 (by decide +kernel) iniX3_X1_leastLimit staX3_sectionAt_X1_leastLimit rfl ⟨rfl, rfl⟩ (by decide +kernel) ⟨Nat.le_of_ble_eq_true rfl, Nat.le_of_ble_eq_true rfl⟩ ⟨Nat.le_of_ble_eq_true rfl, Nat.le_of_ble_eq_true rfl⟩ rfl rfl (by exact Nat.le_of_ble_eq_true rfl) rfl (fun r_10 u_10 h_10 => ?_)
  subst h_10
  refine V_istore hC dX1_leastLimit_13 (Nat.le_of_ble_eq_true rfl) rfl ?_
  have loop_15 : ∀ (d n k : Nat) (acc : Int32), n < d → n = secN y + 1 - k → k ≤ 20 → m_ml (g 0) n k acc = m_lim (g 0) x y → V X 0 0 (Wl cI cZ cT a t g) [(0, .ref (a 5)), (3, .int acc), (4, .int (nI (secN y))), (5, .int (nI k))] 15 [] := by
    intro d
    induction d with
    | zero => intro n; intros; omega
    | succ d ih =>
      intro n k acc h hn hk hr
      refine V_iload hC dX1_leastLimit_15 rfl rfl ?_
      refine V_iload hC dX1_leastLimit_17 rfl rfl ?_
      refine V_icmp_gt (tgt := 40) hC dX1_leastLimit_19 (by decide) rfl (fun c_19 => ?_) (fun c_19 => ?_)
      · have c1 := nI_lt' c_19 (by omega) (by omega)
        obtain rfl : n = 0 := by omega
        refine V_iload_n hC dX1_leastLimit_40 rfl rfl rfl ?_
        exact hE _ () _ _ _ dX1_leastLimit_41 rfl rfl hr
      · have c1 := nI_nlt' c_19 (by omega) (by omega)
        obtain ⟨n, rfl⟩ : ∃ z, n = z + 1 := ⟨n - 1, by omega⟩
        refine V_iload_n hC dX1_leastLimit_22 rfl rfl rfl ?_
        refine V_aload_n hC dX1_leastLimit_23 rfl rfl rfl ?_
        refine V_get (q0 := 5) (C := RX1) (T := TX1) (N := 10) hC dX1_leastLimit_24 in_X1_X1_leastLimit rfl rfl 0 (Nat.le_of_ble_eq_true rfl) fk_X1_leastLimit_9 rfl rfl ?_
        refine V_iload hC dX1_leastLimit_27 rfl rfl ?_
        refine V_iald (q0 := 6) hC dX1_leastLimit_29 rfl 0 rfl rfl (by omega) (by decide) rfl ?_
        refine V_mmin hC dX1_leastLimit_30 ml48_X1_leastLimit msmin_X1_leastLimit mi_X1_leastLimit mcmin_X1_leastLimit (Nat.le_of_ble_eq_true rfl) (Nat.le_of_ble_eq_true rfl) (Nat.le_of_ble_eq_true rfl) (Nat.le_of_ble_eq_true rfl) rfl ?_
        refine V_istore_n hC dX1_leastLimit_33 rfl (Nat.le_of_ble_eq_true rfl) rfl ?_
        refine V_iinc hC dX1_leastLimit_34 rfl (nI_1 k) (Nat.le_of_ble_eq_true rfl) rfl ?_
        refine V_goto (tgt := 15) hC dX1_leastLimit_37 (by decide) ?_
        exact V_to (ih n (k + 1) _ (by omega) (by omega) (by omega) hr) (lc rfl (lc rfl (lc rfl (lc rfl ln))))
  exact V_to (loop_15 _ _ _ _ (Nat.lt_succ_self _) rfl (by omega) rfl) (lc rfl (lc rfl (lc (kv hy.1) (lc (kv hx.1) ln))))
theorem in_X1_X1_hasStationAt : ∀ w ∈ u_ws RX1 TX1 10, w ∈ wsX1_hasStationAt := by decide +kernel
theorem fk_X1_hasStationAt_31 : Cond.fieldLink RX1 31 (TX1 6).1 (TX1 6).2.1 (TX1 6).2.2.1 ∈ wsX1_hasStationAt := by decide +kernel
theorem fk_X1_hasStationAt_22 : Cond.fieldLink RX1 22 (TX1 3).1 (TX1 3).2.1 (TX1 3).2.2.1 ∈ wsX1_hasStationAt := by decide +kernel
set_option maxRecDepth 100000 in
set_option maxHeartbeats 4000000 in
theorem k_X1_hasStationAt (l : Launch) (D : va_G) (cI cZ cT : ClassId) (a : Nat → Nat) (t g : Nat → Nat → Int32) (x : Int32) (nS : Nat) (hS : g 8 2 = nI nS) (hS4 : nS ≤ 4) : CI l D kCl (kTy cI cZ cT) yX1_hasStationAt wsX1_hasStationAt ({ frames := 0, cells := 0, slots := 0, locals := 0 }) 0 0 [.ref (a 5), .int x] (Wl cI cZ cT a t g) (S := Unit) (fun r _ => (r = 1 ∧ ∃ k, k < nS ∧ g 3 k = x) ∨ (r = 0 ∧ ∀ k, k < nS → ¬ g 3 k = x)) (fun _ => (Wl cI cZ cT a t g)) := by
  refine CI_of (own := RX1) (by decide) rfl rfl (Nat.le_of_ble_eq_true rfl) rfl (fun X A hC hE => ?_)
  refine V_iconst (v := 0) hC dX1_hasStationAt_0 (by decide) rfl ?_
  refine V_istore_n hC dX1_hasStationAt_1 rfl (Nat.le_of_ble_eq_true rfl) rfl ?_
  have loop_2 : ∀ (d k : Nat), nS - k < d → k ≤ nS → (∀ j, j < k → ¬ g 3 j = x) → V X 0 0 (Wl cI cZ cT a t g) [(0, .ref (a 5)), (1, .int x), (2, .int (nI k))] 2 [] := by
    intro d
    induction d with
    | zero => intro k; intros; omega
    | succ d ih =>
      intro k h hk hno
      refine V_iload_n hC dX1_hasStationAt_2 rfl rfl rfl ?_
      refine V_aload_n hC dX1_hasStationAt_3 rfl rfl rfl ?_
      refine V_get (q0 := 5) (C := RX1) (T := TX1) (N := 10) hC dX1_hasStationAt_4 in_X1_X1_hasStationAt rfl rfl 6 (Nat.le_of_ble_eq_true rfl) fk_X1_hasStationAt_31 rfl rfl ?_
      refine V_icmp_ge (tgt := 28) hC dX1_hasStationAt_7 (by decide) rfl (fun c_7 => ?_) (fun c_7 => ?_)
      · rw [hS] at c_7
        have c1 := nI_le' c_7 (by omega) (by omega)
        obtain rfl : k = nS := by omega
        refine V_iconst (v := 0) hC dX1_hasStationAt_28 (by decide) rfl ?_
        exact hE _ () _ _ _ dX1_hasStationAt_29 rfl rfl (Or.inr ⟨rfl, hno⟩)
      · rw [hS] at c_7
        have c1 := nI_nle' c_7 (by omega) (by omega)
        refine V_aload_n hC dX1_hasStationAt_10 rfl rfl rfl ?_
        refine V_get (q0 := 5) (C := RX1) (T := TX1) (N := 10) hC dX1_hasStationAt_11 in_X1_X1_hasStationAt rfl rfl 3 (Nat.le_of_ble_eq_true rfl) fk_X1_hasStationAt_22 rfl rfl ?_
        refine V_iload_n hC dX1_hasStationAt_14 rfl rfl rfl ?_
        refine V_iald (q0 := 9) hC dX1_hasStationAt_15 rfl 0 rfl rfl (by omega) (by decide) rfl ?_
        refine V_iload_n hC dX1_hasStationAt_16 rfl rfl rfl ?_
        refine V_icmp_ne (tgt := 22) hC dX1_hasStationAt_17 (by decide) rfl (fun c_17 => ?_) (fun c_17 => ?_)
        · refine V_iinc hC dX1_hasStationAt_22 rfl (nI_1 k) (Nat.le_of_ble_eq_true rfl) rfl ?_
          refine V_goto (tgt := 2) hC dX1_hasStationAt_25 (by decide) ?_
          exact V_to (ih (k + 1) (by omega) (by omega) (fun j hj => (Nat.lt_succ_iff_lt_or_eq.mp hj).elim (hno j) (fun e => e ▸ c_17))) (lc rfl (lc rfl (lc rfl ln)))
        · refine V_iconst (v := 1) hC dX1_hasStationAt_20 (by decide) rfl ?_
          exact hE _ () _ _ _ dX1_hasStationAt_21 rfl rfl (Or.inl ⟨rfl, k, c1, c_17⟩)
  exact V_to (loop_2 _ 0 (Nat.lt_succ_self _) (by omega) (fun j hj => absurd hj (by omega))) (lc rfl (lc rfl (lc (kv nI_0.symm) ln)))
theorem in_X1_X1_stationsFrom : ∀ w ∈ u_ws RX1 TX1 10, w ∈ wsX1_stationsFrom := by decide +kernel
theorem fk_X1_stationsFrom_31 : Cond.fieldLink RX1 31 (TX1 6).1 (TX1 6).2.1 (TX1 6).2.2.1 ∈ wsX1_stationsFrom := by decide +kernel
theorem fk_X1_stationsFrom_22 : Cond.fieldLink RX1 22 (TX1 3).1 (TX1 3).2.1 (TX1 3).2.2.1 ∈ wsX1_stationsFrom := by decide +kernel
set_option maxRecDepth 100000 in
set_option maxHeartbeats 4000000 in
theorem k_X1_stationsFrom (l : Launch) (D : va_G) (cI cZ cT : ClassId) (a : Nat → Nat) (t g : Nat → Nat → Int32) (x : Int32) (nS : Nat) (hS : g 8 2 = nI nS) (hS4 : nS ≤ 4) : CI l D kCl (kTy cI cZ cT) yX1_stationsFrom wsX1_stationsFrom ({ frames := 0, cells := 0, slots := 0, locals := 0 }) 0 0 [.ref (a 5), .int x] (Wl cI cZ cT a t g) (S := Unit) (fun r _ => r = m_sf (g 3) x nS) (fun _ => (Wl cI cZ cT a t g)) := by
  refine CI_of (own := RX1) (by decide) rfl rfl (Nat.le_of_ble_eq_true rfl) rfl (fun X A hC hE => ?_)
  refine V_iconst (v := 0) hC dX1_stationsFrom_0 (by decide) rfl ?_
  refine V_istore_n hC dX1_stationsFrom_1 rfl (Nat.le_of_ble_eq_true rfl) rfl ?_
  refine V_iconst (v := 0) hC dX1_stationsFrom_2 (by decide) rfl ?_
  refine V_istore_n hC dX1_stationsFrom_3 rfl (Nat.le_of_ble_eq_true rfl) rfl ?_
  have loop_4 : ∀ (d k : Nat), nS - k < d → k ≤ nS → V X 0 0 (Wl cI cZ cT a t g) [(0, .ref (a 5)), (1, .int x), (2, .int (m_sf (g 3) x k)), (3, .int (nI k))] 4 [] := by
    intro d
    induction d with
    | zero => intro k; intros; omega
    | succ d ih =>
      intro k h hk
      refine V_iload_n hC dX1_stationsFrom_4 rfl rfl rfl ?_
      refine V_aload_n hC dX1_stationsFrom_5 rfl rfl rfl ?_
      refine V_get (q0 := 5) (C := RX1) (T := TX1) (N := 10) hC dX1_stationsFrom_6 in_X1_X1_stationsFrom rfl rfl 6 (Nat.le_of_ble_eq_true rfl) fk_X1_stationsFrom_31 rfl rfl ?_
      refine V_icmp_ge (tgt := 34) hC dX1_stationsFrom_9 (by decide) rfl (fun c_9 => ?_) (fun c_9 => ?_)
      · rw [hS] at c_9
        have c1 := nI_le' c_9 (by omega) (by omega)
        obtain rfl : k = nS := by omega
        refine V_iload_n hC dX1_stationsFrom_34 rfl rfl rfl ?_
        exact hE _ () _ _ _ dX1_stationsFrom_35 rfl rfl (by first | rfl | (simp [*]; done))
      · rw [hS] at c_9
        have c1 := nI_nle' c_9 (by omega) (by omega)
        refine V_aload_n hC dX1_stationsFrom_12 rfl rfl rfl ?_
        refine V_get (q0 := 5) (C := RX1) (T := TX1) (N := 10) hC dX1_stationsFrom_13 in_X1_X1_stationsFrom rfl rfl 3 (Nat.le_of_ble_eq_true rfl) fk_X1_stationsFrom_22 rfl rfl ?_
        refine V_iload_n hC dX1_stationsFrom_16 rfl rfl rfl ?_
        refine V_iald (q0 := 9) hC dX1_stationsFrom_17 rfl 0 rfl rfl (by omega) (by decide) rfl ?_
        refine V_iload_n hC dX1_stationsFrom_18 rfl rfl rfl ?_
        refine V_icmp_lt (tgt := 28) hC dX1_stationsFrom_19 (by decide) rfl (fun c_19 => ?_) (fun c_19 => ?_)
        · refine V_iinc hC dX1_stationsFrom_28 rfl (nI_1 k) (Nat.le_of_ble_eq_true rfl) rfl ?_
          refine V_goto (tgt := 4) hC dX1_stationsFrom_31 (by decide) ?_
          exact V_to (ih (k + 1) (by omega) (by omega)) (lc rfl (lc rfl (lc (kv (by simp [m_sf, c_19])) (lc rfl ln))))
        · refine V_iload_n hC dX1_stationsFrom_22 rfl rfl rfl ?_
          refine V_iconst (v := 1) hC dX1_stationsFrom_23 (by decide) rfl ?_
          refine V_iload_n hC dX1_stationsFrom_24 rfl rfl rfl ?_
          refine V_ishl hC dX1_stationsFrom_25 rfl ?_
          refine V_ior hC dX1_stationsFrom_26 rfl ?_
          refine V_istore_n hC dX1_stationsFrom_27 rfl (Nat.le_of_ble_eq_true rfl) rfl ?_
          refine V_iinc hC dX1_stationsFrom_28 rfl (nI_1 k) (Nat.le_of_ble_eq_true rfl) rfl ?_
          refine V_goto (tgt := 4) hC dX1_stationsFrom_31 (by decide) ?_
          exact V_to (ih (k + 1) (by omega) (by omega)) (lc rfl (lc rfl (lc (kv (by simp [m_sf, c_19])) (lc rfl ln))))
  exact V_to (loop_4 _ 0 (Nat.lt_succ_self _) (by omega)) (lc rfl (lc rfl (lc rfl (lc (kv nI_0.symm) ln))))
theorem in_X1_X1_nextStation : ∀ w ∈ u_ws RX1 TX1 10, w ∈ wsX1_nextStation := by decide +kernel
theorem fk_X1_nextStation_31 : Cond.fieldLink RX1 31 (TX1 6).1 (TX1 6).2.1 (TX1 6).2.2.1 ∈ wsX1_nextStation := by decide +kernel
theorem fk_X1_nextStation_22 : Cond.fieldLink RX1 22 (TX1 3).1 (TX1 3).2.1 (TX1 3).2.2.1 ∈ wsX1_nextStation := by decide +kernel
set_option maxRecDepth 100000 in
set_option maxHeartbeats 4000000 in
theorem k_X1_nextStation (l : Launch) (D : va_G) (cI cZ cT : ClassId) (a : Nat → Nat) (t g : Nat → Nat → Int32) (st : Int32) (nS : Nat) (hS : g 8 2 = nI nS) (hS4 : nS ≤ 4) : CI l D kCl (kTy cI cZ cT) yX1_nextStation wsX1_nextStation ({ frames := 0, cells := 0, slots := 0, locals := 0 }) 0 0 [.ref (a 5), .int st] (Wl cI cZ cT a t g) (S := Unit) (fun r _ => r = nxI (nxO (g 3) st nS)) (fun _ => (Wl cI cZ cT a t g)) := by
  refine CI_of (own := RX1) (by decide) rfl rfl (Nat.le_of_ble_eq_true rfl) rfl (fun X A hC hE => ?_)
  refine V_iconst (v := (-1)) hC dX1_nextStation_0 (by decide) rfl ?_
  refine V_istore_n hC dX1_nextStation_1 rfl (Nat.le_of_ble_eq_true rfl) rfl ?_
  refine V_iconst (v := 0) hC dX1_nextStation_2 (by decide) rfl ?_
  refine V_istore_n hC dX1_nextStation_3 rfl (Nat.le_of_ble_eq_true rfl) rfl ?_
  have loop_4 : ∀ (d k : Nat), nS - k < d → k ≤ nS → V X 0 0 (Wl cI cZ cT a t g) [(0, .ref (a 5)), (1, .int st), (2, .int (nxI (nxO (g 3) st k))), (3, .int (nI k))] 4 [] := by
    intro d
    induction d with
    | zero => intro k; intros; omega
    | succ d ih =>
      intro k h hk
      refine V_iload_n hC dX1_nextStation_4 rfl rfl rfl ?_
      refine V_aload_n hC dX1_nextStation_5 rfl rfl rfl ?_
      refine V_get (q0 := 5) (C := RX1) (T := TX1) (N := 10) hC dX1_nextStation_6 in_X1_X1_nextStation rfl rfl 6 (Nat.le_of_ble_eq_true rfl) fk_X1_nextStation_31 rfl rfl ?_
      refine V_icmp_ge (tgt := 60) hC dX1_nextStation_9 (by decide) rfl (fun c_9 => ?_) (fun c_9 => ?_)
      · rw [hS] at c_9
        have c1 := nI_le' c_9 (by omega) (by omega)
        obtain rfl : k = nS := by omega
        refine V_iload_n hC dX1_nextStation_60 rfl rfl rfl ?_
        exact hE _ () _ _ _ dX1_nextStation_61 rfl rfl (by first | rfl | (simp [*]; done))
      · rw [hS] at c_9
        have c1 := nI_nle' c_9 (by omega) (by omega)
        refine V_iload_n hC dX1_nextStation_12 rfl rfl rfl ?_
        refine V_iconst (v := 1) hC dX1_nextStation_13 (by decide) rfl ?_
        refine V_iload_n hC dX1_nextStation_14 rfl rfl rfl ?_
        refine V_ishl hC dX1_nextStation_15 rfl ?_
        refine V_iand hC dX1_nextStation_16 rfl ?_
        refine V_if_eq (tgt := 24) hC dX1_nextStation_17 (by decide) rfl (fun c_17 => ?_) (fun c_17 => ?_)
        · refine V_iconst (v := 0) hC dX1_nextStation_24 (by decide) rfl ?_
          refine V_istore hC dX1_nextStation_25 (Nat.le_of_ble_eq_true rfl) rfl ?_
          refine V_iload hC dX1_nextStation_27 rfl rfl ?_
          refine V_if_eq (tgt := 54) hC dX1_nextStation_29 (by decide) rfl (fun _ => ?_) (fun c => absurd c (by decide))
          refine V_iinc hC dX1_nextStation_54 rfl (nI_1 k) (Nat.le_of_ble_eq_true rfl) rfl ?_
          refine V_goto (tgt := 4) hC dX1_nextStation_57 (by decide) ?_
          refine V_to (ih (k + 1) (by omega) (by omega)) (lc rfl (lc rfl (lc (kv ?_) (lc rfl ln))))
          first
          | (simp [nxO, m_bit, c_17]; done)
          | (simp [nxO, m_bit, c_17, nxI_none (by omega) c_34, nxI]; done)
          | (simp [nxO, m_bit, c_17, hj, c_49, nxI]; done)
        · refine V_iconst (v := 1) hC dX1_nextStation_20 (by decide) rfl ?_
          refine V_goto (tgt := 25) hC dX1_nextStation_21 (by decide) ?_
          refine V_istore hC dX1_nextStation_25 (Nat.le_of_ble_eq_true rfl) rfl ?_
          refine V_iload hC dX1_nextStation_27 rfl rfl ?_
          refine V_if_eq (tgt := 54) hC dX1_nextStation_29 (by decide) rfl (fun c => absurd c (by decide)) (fun _ => ?_)
          refine V_iload_n hC dX1_nextStation_32 rfl rfl rfl ?_
          refine V_iconst (v := (-1)) hC dX1_nextStation_33 (by decide) rfl ?_
          refine V_icmp_eq (tgt := 52) hC dX1_nextStation_34 (by decide) rfl (fun c_34 => ?_) (fun c_34 => ?_)
          · refine V_iload_n hC dX1_nextStation_52 rfl rfl rfl ?_
            refine V_istore_n hC dX1_nextStation_53 rfl (Nat.le_of_ble_eq_true rfl) rfl ?_
            refine V_iinc hC dX1_nextStation_54 rfl (nI_1 k) (Nat.le_of_ble_eq_true rfl) rfl ?_
            refine V_goto (tgt := 4) hC dX1_nextStation_57 (by decide) ?_
            refine V_to (ih (k + 1) (by omega) (by omega)) (lc rfl (lc rfl (lc (kv ?_) (lc rfl ln))))
            first
            | (simp [nxO, m_bit, c_17]; done)
            | (simp [nxO, m_bit, c_17, nxI_none (by omega) c_34, nxI]; done)
            | (simp [nxO, m_bit, c_17, hj, c_49, nxI]; done)
          · obtain ⟨j, hj, hj2⟩ := nxI_some c_34
            have hj3 := nxO_lt hj
            refine V_aload_n hC dX1_nextStation_37 rfl rfl rfl ?_
            refine V_get (q0 := 5) (C := RX1) (T := TX1) (N := 10) hC dX1_nextStation_38 in_X1_X1_nextStation rfl rfl 3 (Nat.le_of_ble_eq_true rfl) fk_X1_nextStation_22 rfl rfl ?_
            refine V_iload_n hC dX1_nextStation_41 rfl rfl rfl ?_
            refine V_iald (q0 := 9) hC dX1_nextStation_42 rfl 0 rfl rfl (by omega) (by decide) rfl ?_
            refine V_aload_n hC dX1_nextStation_43 rfl rfl rfl ?_
            refine V_get (q0 := 5) (C := RX1) (T := TX1) (N := 10) hC dX1_nextStation_44 in_X1_X1_nextStation rfl rfl 3 (Nat.le_of_ble_eq_true rfl) fk_X1_nextStation_22 rfl rfl ?_
            refine V_iload_n hC dX1_nextStation_47 rfl rfl rfl ?_
            refine V_iald (q0 := 9) hC dX1_nextStation_48 rfl 0 rfl hj2 (by omega) (by decide) rfl ?_
            refine V_icmp_ge (tgt := 54) hC dX1_nextStation_49 (by decide) rfl (fun c_49 => ?_) (fun c_49 => ?_)
            · refine V_iinc hC dX1_nextStation_54 rfl (nI_1 k) (Nat.le_of_ble_eq_true rfl) rfl ?_
              refine V_goto (tgt := 4) hC dX1_nextStation_57 (by decide) ?_
              refine V_to (ih (k + 1) (by omega) (by omega)) (lc rfl (lc rfl (lc (kv ?_) (lc rfl ln))))
              first
              | (simp [nxO, m_bit, c_17]; done)
              | (simp [nxO, m_bit, c_17, nxI_none (by omega) c_34, nxI]; done)
              | (simp [nxO, m_bit, c_17, hj, c_49, nxI]; done)
            · refine V_iload_n hC dX1_nextStation_52 rfl rfl rfl ?_
              refine V_istore_n hC dX1_nextStation_53 rfl (Nat.le_of_ble_eq_true rfl) rfl ?_
              refine V_iinc hC dX1_nextStation_54 rfl (nI_1 k) (Nat.le_of_ble_eq_true rfl) rfl ?_
              refine V_goto (tgt := 4) hC dX1_nextStation_57 (by decide) ?_
              refine V_to (ih (k + 1) (by omega) (by omega)) (lc rfl (lc rfl (lc (kv ?_) (lc rfl ln))))
              first
              | (simp [nxO, m_bit, c_17]; done)
              | (simp [nxO, m_bit, c_17, nxI_none (by omega) c_34, nxI]; done)
              | (simp [nxO, m_bit, c_17, hj, c_49, nxI]; done)
  exact V_to (loop_4 _ 0 (Nat.lt_succ_self _) (by omega)) (lc rfl (lc rfl (lc rfl (lc (kv nI_0.symm) ln))))
theorem k58_X1_boundByWorks : Cond.constant RX1 58 1000000 ∈ wsX1_boundByWorks := by decide +kernel
theorem in_X1_X1_boundByWorks : ∀ w ∈ u_ws RX1 TX1 10, w ∈ wsX1_boundByWorks := by decide +kernel
theorem fk_X1_boundByWorks_41 : Cond.fieldLink RX1 41 (TX1 9).1 (TX1 9).2.1 (TX1 9).2.2.1 ∈ wsX1_boundByWorks := by decide +kernel
theorem fk_X1_boundByWorks_35 : Cond.fieldLink RX1 35 (TX1 7).1 (TX1 7).2.1 (TX1 7).2.2.1 ∈ wsX1_boundByWorks := by decide +kernel
theorem iniX3_X1_boundByWorks : Cond.initialized RX3 ∈ wsX1_boundByWorks := by decide +kernel
theorem staX3_firstMetreOf_X1_boundByWorks : Cond.static yX3_firstMetreOf ∈ wsX1_boundByWorks := by decide +kernel
theorem ml48_X1_boundByWorks : Cond.methodLink RX1 48 Lib.Math.min.name ∈ wsX1_boundByWorks := by decide +kernel
theorem msmin_X1_boundByWorks : Cond.static Lib.Math.min.name ∈ wsX1_boundByWorks := by decide +kernel
theorem mi_X1_boundByWorks : Cond.initialized "java/lang/Math" ∈ wsX1_boundByWorks := by decide +kernel
theorem mcmin_X1_boundByWorks : Cond.code Lib.Math.min.name Lib.Math.min.code 2 (some .int) ∈ wsX1_boundByWorks := by decide +kernel
set_option maxRecDepth 100000 in
set_option maxHeartbeats 4000000 in
theorem k_X1_boundByWorks (l : Launch) (D : va_G) (cI cZ cT : ClassId) (a : Nat → Nat) (t g : Nat → Nat → Int32) (x : Int32) (nW : Nat) (hW : g 8 3 = nI nW) (hW3 : nW ≤ 3) : CI l D kCl (kTy cI cZ cT) yX1_boundByWorks wsX1_boundByWorks ({ frames := 1, cells := 0, slots := 0, locals := 20 }) 0 0 [.ref (a 5), .int x] (Wl cI cZ cT a t g) (S := Unit) (fun r _ => r = m_bw (g 6) x nW) (fun _ => (Wl cI cZ cT a t g)) := by
  refine CI_of (own := RX1) (by decide) rfl rfl (Nat.le_of_ble_eq_true rfl) rfl (fun X A hC hE => ?_)
  refine V_ldc (v := 1000000) hC dX1_boundByWorks_0 k58_X1_boundByWorks rfl ?_
  refine V_istore_n hC dX1_boundByWorks_2 rfl (Nat.le_of_ble_eq_true rfl) rfl ?_
  refine V_iconst (v := 0) hC dX1_boundByWorks_3 (by decide) rfl ?_
  refine V_istore_n hC dX1_boundByWorks_4 rfl (Nat.le_of_ble_eq_true rfl) rfl ?_
  have loop_5 : ∀ (d k : Nat), nW - k < d → k ≤ nW → V X 0 0 (Wl cI cZ cT a t g) [(0, .ref (a 5)), (1, .int x), (2, .int (m_bw (g 6) x k)), (3, .int (nI k))] 5 [] := by
    intro d
    induction d with
    | zero => intro k; intros; omega
    | succ d ih =>
      intro k h hk
      refine V_iload_n hC dX1_boundByWorks_5 rfl rfl rfl ?_
      refine V_aload_n hC dX1_boundByWorks_6 rfl rfl rfl ?_
      refine V_get (q0 := 5) (C := RX1) (T := TX1) (N := 10) hC dX1_boundByWorks_7 in_X1_X1_boundByWorks rfl rfl 9 (Nat.le_of_ble_eq_true rfl) fk_X1_boundByWorks_41 rfl rfl ?_
      refine V_icmp_ge (tgt := 45) hC dX1_boundByWorks_10 (by decide) rfl (fun c_10 => ?_) (fun c_10 => ?_)
      · rw [hW] at c_10
        have c1 := nI_le' c_10 (by omega) (by omega)
        obtain rfl : k = nW := by omega
        refine V_iload_n hC dX1_boundByWorks_45 rfl rfl rfl ?_
        exact hE _ () _ _ _ dX1_boundByWorks_46 rfl rfl (by first | rfl | (simp [*]; done))
      · rw [hW] at c_10
        have c1 := nI_nle' c_10 (by omega) (by omega)
        refine V_aload_n hC dX1_boundByWorks_13 rfl rfl rfl ?_
        refine V_get (q0 := 5) (C := RX1) (T := TX1) (N := 10) hC dX1_boundByWorks_14 in_X1_X1_boundByWorks rfl rfl 7 (Nat.le_of_ble_eq_true rfl) fk_X1_boundByWorks_35 rfl rfl ?_
        refine V_iload_n hC dX1_boundByWorks_17 rfl rfl rfl ?_
        refine V_iald (q0 := 12) hC dX1_boundByWorks_18 rfl 0 rfl rfl (by omega) (by decide) rfl ?_
        refine V_callIN0 (n := 1) (host := RX3) hC dX1_boundByWorks_19 (k_X3_firstMetreOf l D cI cZ cT _) gX1_boundByWorks_X3_firstMetreOf_n59 (by decide +kernel) iniX3_X1_boundByWorks staX3_firstMetreOf_X1_boundByWorks rfl ⟨rfl, rfl⟩ (by decide +kernel) ⟨Nat.le_of_ble_eq_true rfl, Nat.le_of_ble_eq_true rfl⟩ ⟨Nat.le_of_ble_eq_true rfl, Nat.le_of_ble_eq_true rfl⟩ rfl rfl (by exact Nat.le_of_ble_eq_true rfl) rfl (fun r_19 u_19 h_19 => ?_)
        subst h_19
        refine V_istore hC dX1_boundByWorks_22 (Nat.le_of_ble_eq_true rfl) rfl ?_
        refine V_iload hC dX1_boundByWorks_24 rfl rfl ?_
        refine V_iload_n hC dX1_boundByWorks_26 rfl rfl rfl ?_
        refine V_icmp_le (tgt := 39) hC dX1_boundByWorks_27 (by decide) rfl (fun c_27 => ?_) (fun c_27 => ?_)
        · refine V_iinc hC dX1_boundByWorks_39 rfl (nI_1 k) (Nat.le_of_ble_eq_true rfl) rfl ?_
          refine V_goto (tgt := 5) hC dX1_boundByWorks_42 (by decide) ?_
          exact V_to (ih (k + 1) (by omega) (by omega)) (lc rfl (lc rfl (lc (kv (by simp [m_bw, c_27])) (lc rfl ln))))
        · refine V_iload_n hC dX1_boundByWorks_30 rfl rfl rfl ?_
          refine V_iload hC dX1_boundByWorks_31 rfl rfl ?_
          refine V_iconst (v := 1) hC dX1_boundByWorks_33 (by decide) rfl ?_
          refine V_isub hC dX1_boundByWorks_34 rfl ?_
          refine V_mmin hC dX1_boundByWorks_35 ml48_X1_boundByWorks msmin_X1_boundByWorks mi_X1_boundByWorks mcmin_X1_boundByWorks (Nat.le_of_ble_eq_true rfl) (Nat.le_of_ble_eq_true rfl) (Nat.le_of_ble_eq_true rfl) (Nat.le_of_ble_eq_true rfl) rfl ?_
          refine V_istore_n hC dX1_boundByWorks_38 rfl (Nat.le_of_ble_eq_true rfl) rfl ?_
          refine V_iinc hC dX1_boundByWorks_39 rfl (nI_1 k) (Nat.le_of_ble_eq_true rfl) rfl ?_
          refine V_goto (tgt := 5) hC dX1_boundByWorks_42 (by decide) ?_
          exact V_to (ih (k + 1) (by omega) (by omega)) (lc rfl (lc rfl (lc (kv (by simp [m_bw, c_27])) (lc rfl ln))))
  exact V_to (loop_5 _ 0 (Nat.lt_succ_self _) (by omega)) (lc rfl (lc rfl (lc rfl (lc (kv nI_0.symm) ln))))
theorem in_X1_X1_hasWorksOn : ∀ w ∈ u_ws RX1 TX1 10, w ∈ wsX1_hasWorksOn := by decide +kernel
theorem fk_X1_hasWorksOn_41 : Cond.fieldLink RX1 41 (TX1 9).1 (TX1 9).2.1 (TX1 9).2.2.1 ∈ wsX1_hasWorksOn := by decide +kernel
theorem fk_X1_hasWorksOn_35 : Cond.fieldLink RX1 35 (TX1 7).1 (TX1 7).2.1 (TX1 7).2.2.1 ∈ wsX1_hasWorksOn := by decide +kernel
theorem fk_X1_hasWorksOn_38 : Cond.fieldLink RX1 38 (TX1 8).1 (TX1 8).2.1 (TX1 8).2.2.1 ∈ wsX1_hasWorksOn := by decide +kernel
theorem iniX3_X1_hasWorksOn : Cond.initialized RX3 ∈ wsX1_hasWorksOn := by decide +kernel
theorem staX3_isWithin_X1_hasWorksOn : Cond.static yX3_isWithin ∈ wsX1_hasWorksOn := by decide +kernel
set_option maxRecDepth 100000 in
set_option maxHeartbeats 4000000 in
theorem k_X1_hasWorksOn (l : Launch) (D : va_G) (cI cZ cT : ClassId) (a : Nat → Nat) (t g : Nat → Nat → Int32) (x : Int32) (nW : Nat) (hW : g 8 3 = nI nW) (hW3 : nW ≤ 3) : CI l D kCl (kTy cI cZ cT) yX1_hasWorksOn wsX1_hasWorksOn ({ frames := 1, cells := 0, slots := 0, locals := 22 }) 0 0 [.ref (a 5), .int x] (Wl cI cZ cT a t g) (S := Unit) (fun r _ => (r = 1 ∧ ∃ k, k < nW ∧ ¬ m_in x (g 6 k) (g 7 k) = 0) ∨ (r = 0 ∧ ∀ k, k < nW → m_in x (g 6 k) (g 7 k) = 0)) (fun _ => (Wl cI cZ cT a t g)) := by
  refine CI_of (own := RX1) (by decide) rfl rfl (Nat.le_of_ble_eq_true rfl) rfl (fun X A hC hE => ?_)
  refine V_iconst (v := 0) hC dX1_hasWorksOn_0 (by decide) rfl ?_
  refine V_istore_n hC dX1_hasWorksOn_1 rfl (Nat.le_of_ble_eq_true rfl) rfl ?_
  have loop_2 : ∀ (d k : Nat), nW - k < d → k ≤ nW → (∀ j, j < k → m_in x (g 6 j) (g 7 j) = 0) → V X 0 0 (Wl cI cZ cT a t g) [(0, .ref (a 5)), (1, .int x), (2, .int (nI k))] 2 [] := by
    intro d
    induction d with
    | zero => intro k; intros; omega
    | succ d ih =>
      intro k h hk hno
      refine V_iload_n hC dX1_hasWorksOn_2 rfl rfl rfl ?_
      refine V_aload_n hC dX1_hasWorksOn_3 rfl rfl rfl ?_
      refine V_get (q0 := 5) (C := RX1) (T := TX1) (N := 10) hC dX1_hasWorksOn_4 in_X1_X1_hasWorksOn rfl rfl 9 (Nat.le_of_ble_eq_true rfl) fk_X1_hasWorksOn_41 rfl rfl ?_
      refine V_icmp_ge (tgt := 37) hC dX1_hasWorksOn_7 (by decide) rfl (fun c_7 => ?_) (fun c_7 => ?_)
      · rw [hW] at c_7
        have c1 := nI_le' c_7 (by omega) (by omega)
        obtain rfl : k = nW := by omega
        refine V_iconst (v := 0) hC dX1_hasWorksOn_37 (by decide) rfl ?_
        exact hE _ () _ _ _ dX1_hasWorksOn_38 rfl rfl (Or.inr ⟨rfl, hno⟩)
      · rw [hW] at c_7
        have c1 := nI_nle' c_7 (by omega) (by omega)
        refine V_iload_n hC dX1_hasWorksOn_10 rfl rfl rfl ?_
        refine V_aload_n hC dX1_hasWorksOn_11 rfl rfl rfl ?_
        refine V_get (q0 := 5) (C := RX1) (T := TX1) (N := 10) hC dX1_hasWorksOn_12 in_X1_X1_hasWorksOn rfl rfl 7 (Nat.le_of_ble_eq_true rfl) fk_X1_hasWorksOn_35 rfl rfl ?_
        refine V_iload_n hC dX1_hasWorksOn_15 rfl rfl rfl ?_
        refine V_iald (q0 := 12) hC dX1_hasWorksOn_16 rfl 0 rfl rfl (by omega) (by decide) rfl ?_
        refine V_aload_n hC dX1_hasWorksOn_17 rfl rfl rfl ?_
        refine V_get (q0 := 5) (C := RX1) (T := TX1) (N := 10) hC dX1_hasWorksOn_18 in_X1_X1_hasWorksOn rfl rfl 8 (Nat.le_of_ble_eq_true rfl) fk_X1_hasWorksOn_38 rfl rfl ?_
        refine V_iload_n hC dX1_hasWorksOn_21 rfl rfl rfl ?_
        refine V_iald (q0 := 13) hC dX1_hasWorksOn_22 rfl 0 rfl rfl (by omega) (by decide) rfl ?_
        refine V_callIN0 (n := 3) (host := RX3) hC dX1_hasWorksOn_23 (k_X3_isWithin l D cI cZ cT _ _ _) gX1_hasWorksOn_X3_isWithin_n54 (by decide +kernel) iniX3_X1_hasWorksOn staX3_isWithin_X1_hasWorksOn rfl ⟨rfl, rfl⟩ (by decide +kernel) ⟨Nat.le_of_ble_eq_true rfl, Nat.le_of_ble_eq_true rfl⟩ ⟨Nat.le_of_ble_eq_true rfl, Nat.le_of_ble_eq_true rfl⟩ rfl rfl (by exact Nat.le_of_ble_eq_true rfl) rfl (fun r_23 u_23 h_23 => ?_)
        subst h_23
        refine V_if_eq (tgt := 31) hC dX1_hasWorksOn_26 (by decide) rfl (fun c_26 => ?_) (fun c_26 => ?_)
        · refine V_iinc hC dX1_hasWorksOn_31 rfl (nI_1 k) (Nat.le_of_ble_eq_true rfl) rfl ?_
          refine V_goto (tgt := 2) hC dX1_hasWorksOn_34 (by decide) ?_
          exact V_to (ih (k + 1) (by omega) (by omega) (fun j hj => (Nat.lt_succ_iff_lt_or_eq.mp hj).elim (hno j) (fun e => e ▸ c_26))) (lc rfl (lc rfl (lc rfl ln)))
        · refine V_iconst (v := 1) hC dX1_hasWorksOn_29 (by decide) rfl ?_
          exact hE _ () _ _ _ dX1_hasWorksOn_30 rfl rfl (Or.inl ⟨rfl, k, c1, c_26⟩)
  exact V_to (loop_2 _ 0 (Nat.lt_succ_self _) (by omega) (fun j hj => absurd hj (by omega))) (lc rfl (lc rfl (lc (kv nI_0.symm) ln)))
theorem in_X1_X1_addStation : ∀ w ∈ u_ws RX1 TX1 10, w ∈ wsX1_addStation := by decide +kernel
theorem fk_X1_addStation_31 : Cond.fieldLink RX1 31 (TX1 6).1 (TX1 6).2.1 (TX1 6).2.2.1 ∈ wsX1_addStation := by decide +kernel
theorem fk_X1_addStation_22 : Cond.fieldLink RX1 22 (TX1 3).1 (TX1 3).2.1 (TX1 3).2.2.1 ∈ wsX1_addStation := by decide +kernel
theorem fk_X1_addStation_25 : Cond.fieldLink RX1 25 (TX1 4).1 (TX1 4).2.1 (TX1 4).2.2.1 ∈ wsX1_addStation := by decide +kernel
theorem fk_X1_addStation_28 : Cond.fieldLink RX1 28 (TX1 5).1 (TX1 5).2.1 (TX1 5).2.2.1 ∈ wsX1_addStation := by decide +kernel
set_option maxRecDepth 100000 in
set_option maxHeartbeats 4000000 in
theorem k_X1_addStation (l : Launch) (D : va_G) (cI cZ cT : ClassId) (a : Nat → Nat) (t g : Nat → Nat → Int32) (x y : Int32) (nS : Nat) (hS : g 8 2 = nI nS) (hS4 : nS < 4) : CI l D kCl (kTy cI cZ cT) yX1_addStation wsX1_addStation ({ frames := 0, cells := 0, slots := 0, locals := 0 }) 0 0 [.ref (a 5), .int x, .int y] (Wl cI cZ cT a t g) (S := Unit) (fun r _ => r = nI nS) (fun _ => Wl cI cZ cT a t (up2 (up2 (up2 (up2 g 3 nS x) 4 nS y) 5 nS 0) 8 2 (nI (nS + 1)))) := by
  refine CI_of (own := RX1) (by decide) rfl rfl (Nat.le_of_ble_eq_true rfl) rfl (fun X A hC hE => ?_)
  refine V_aload_n hC dX1_addStation_0 rfl rfl rfl ?_
  refine V_get (q0 := 5) (C := RX1) (T := TX1) (N := 10) hC dX1_addStation_1 in_X1_X1_addStation rfl rfl 6 (Nat.le_of_ble_eq_true rfl) fk_X1_addStation_31 rfl rfl ?_
  refine V_istore_n hC dX1_addStation_4 rfl (Nat.le_of_ble_eq_true rfl) rfl ?_
  refine V_aload_n hC dX1_addStation_5 rfl rfl rfl ?_
  refine V_get (q0 := 5) (C := RX1) (T := TX1) (N := 10) hC dX1_addStation_6 in_X1_X1_addStation rfl rfl 3 (Nat.le_of_ble_eq_true rfl) fk_X1_addStation_22 rfl rfl ?_
  refine V_iload_n hC dX1_addStation_9 rfl rfl rfl ?_
  refine V_iload_n hC dX1_addStation_10 rfl rfl rfl ?_
  refine V_iast (q0 := 9) hC dX1_addStation_11 rfl 0 rfl hS (by omega) (by decide) Wl_r3 rfl ?_
  refine V_aload_n hC dX1_addStation_12 rfl rfl rfl ?_
  refine V_get (q0 := 5) (C := RX1) (T := TX1) (N := 10) hC dX1_addStation_13 in_X1_X1_addStation rfl rfl 4 (Nat.le_of_ble_eq_true rfl) fk_X1_addStation_25 rfl rfl ?_
  refine V_iload_n hC dX1_addStation_16 rfl rfl rfl ?_
  refine V_iload_n hC dX1_addStation_17 rfl rfl rfl ?_
  refine V_iast (q0 := 10) hC dX1_addStation_18 rfl 0 rfl hS (by omega) (by decide) Wl_r4 rfl ?_
  refine V_aload_n hC dX1_addStation_19 rfl rfl rfl ?_
  refine V_get (q0 := 5) (C := RX1) (T := TX1) (N := 10) hC dX1_addStation_20 in_X1_X1_addStation rfl rfl 5 (Nat.le_of_ble_eq_true rfl) fk_X1_addStation_28 rfl rfl ?_
  refine V_iload_n hC dX1_addStation_23 rfl rfl rfl ?_
  refine V_iconst (v := 0) hC dX1_addStation_24 (by decide) rfl ?_
  refine V_iast (q0 := 11) hC dX1_addStation_25 rfl 0 rfl hS (by omega) (by decide) Wl_r5 rfl ?_
  refine V_aload_n hC dX1_addStation_26 rfl rfl rfl ?_
  refine V_iload_n hC dX1_addStation_27 rfl rfl rfl ?_
  refine V_iconst (v := 1) hC dX1_addStation_28 (by decide) rfl ?_
  refine V_iadd hC dX1_addStation_29 rfl ?_
  refine V_put (q0 := 5) (C := RX1) (T := TX1) (N := 10) hC dX1_addStation_30 in_X1_X1_addStation tyX1 tyX1_ok nmX1 rfl rfl 6 (Nat.le_of_ble_eq_true rfl) fk_X1_addStation_31 rfl rfl rfl rfl (Nat.le_of_ble_eq_true rfl) Wl_s2 rfl ?_
  refine V_iload_n hC dX1_addStation_33 rfl rfl rfl ?_
  exact hE _ () _ _ _ dX1_addStation_34 rfl (by rw [hS, nI_1]) hS
theorem in_X1_X1_addWorks : ∀ w ∈ u_ws RX1 TX1 10, w ∈ wsX1_addWorks := by decide +kernel
theorem fk_X1_addWorks_35 : Cond.fieldLink RX1 35 (TX1 7).1 (TX1 7).2.1 (TX1 7).2.2.1 ∈ wsX1_addWorks := by decide +kernel
theorem fk_X1_addWorks_41 : Cond.fieldLink RX1 41 (TX1 9).1 (TX1 9).2.1 (TX1 9).2.2.1 ∈ wsX1_addWorks := by decide +kernel
theorem fk_X1_addWorks_38 : Cond.fieldLink RX1 38 (TX1 8).1 (TX1 8).2.1 (TX1 8).2.2.1 ∈ wsX1_addWorks := by decide +kernel
set_option maxRecDepth 100000 in
set_option maxHeartbeats 4000000 in
theorem k_X1_addWorks (l : Launch) (D : va_G) (cI cZ cT : ClassId) (a : Nat → Nat) (t g : Nat → Nat → Int32) (x y : Int32) (nW : Nat) (hW : g 8 3 = nI nW) (hW3 : nW < 3) : CI l D kCl (kTy cI cZ cT) yX1_addWorks wsX1_addWorks ({ frames := 0, cells := 0, slots := 0, locals := 0 }) 0 0 [.ref (a 5), .int x, .int y] (Wl cI cZ cT a t g) (S := Unit) (fun r _ => r = nI (nW + 1)) (fun _ => Wl cI cZ cT a t (up2 (up2 (up2 g 6 nW x) 7 nW y) 8 3 (nI (nW + 1)))) := by
  refine CI_of (own := RX1) (by decide) rfl rfl (Nat.le_of_ble_eq_true rfl) rfl (fun X A hC hE => ?_)
  refine V_aload_n hC dX1_addWorks_0 rfl rfl rfl ?_
  refine V_get (q0 := 5) (C := RX1) (T := TX1) (N := 10) hC dX1_addWorks_1 in_X1_X1_addWorks rfl rfl 7 (Nat.le_of_ble_eq_true rfl) fk_X1_addWorks_35 rfl rfl ?_
  refine V_aload_n hC dX1_addWorks_4 rfl rfl rfl ?_
  refine V_get (q0 := 5) (C := RX1) (T := TX1) (N := 10) hC dX1_addWorks_5 in_X1_X1_addWorks rfl rfl 9 (Nat.le_of_ble_eq_true rfl) fk_X1_addWorks_41 rfl rfl ?_
  refine V_iload_n hC dX1_addWorks_8 rfl rfl rfl ?_
  refine V_iast (q0 := 12) hC dX1_addWorks_9 rfl 0 rfl hW (by omega) (by decide) Wl_r6 rfl ?_
  refine V_aload_n hC dX1_addWorks_10 rfl rfl rfl ?_
  refine V_get (q0 := 5) (C := RX1) (T := TX1) (N := 10) hC dX1_addWorks_11 in_X1_X1_addWorks rfl rfl 8 (Nat.le_of_ble_eq_true rfl) fk_X1_addWorks_38 rfl rfl ?_
  refine V_aload_n hC dX1_addWorks_14 rfl rfl rfl ?_
  refine V_get (q0 := 5) (C := RX1) (T := TX1) (N := 10) hC dX1_addWorks_15 in_X1_X1_addWorks rfl rfl 9 (Nat.le_of_ble_eq_true rfl) fk_X1_addWorks_41 rfl rfl ?_
  refine V_iload_n hC dX1_addWorks_18 rfl rfl rfl ?_
  refine V_iast (q0 := 13) hC dX1_addWorks_19 rfl 0 rfl hW (by omega) (by decide) Wl_r7 rfl ?_
  refine V_aload_n hC dX1_addWorks_20 rfl rfl rfl ?_
  refine V_dup hC dX1_addWorks_21 rfl rfl ?_
  refine V_get (q0 := 5) (C := RX1) (T := TX1) (N := 10) hC dX1_addWorks_22 in_X1_X1_addWorks rfl rfl 9 (Nat.le_of_ble_eq_true rfl) fk_X1_addWorks_41 rfl rfl ?_
  refine V_iconst (v := 1) hC dX1_addWorks_25 (by decide) rfl ?_
  refine V_iadd hC dX1_addWorks_26 rfl ?_
  refine V_put (q0 := 5) (C := RX1) (T := TX1) (N := 10) hC dX1_addWorks_27 in_X1_X1_addWorks tyX1 tyX1_ok nmX1 rfl rfl 9 (Nat.le_of_ble_eq_true rfl) fk_X1_addWorks_41 rfl rfl rfl rfl (Nat.le_of_ble_eq_true rfl) Wl_s3 rfl ?_
  refine V_aload_n hC dX1_addWorks_30 rfl rfl rfl ?_
  refine V_get (q0 := 5) (C := RX1) (T := TX1) (N := 10) hC dX1_addWorks_31 in_X1_X1_addWorks rfl rfl 9 (Nat.le_of_ble_eq_true rfl) fk_X1_addWorks_41 rfl rfl ?_
  exact hE _ () _ _ _ dX1_addWorks_34 rfl (by show Wl cI cZ cT a t (up2 _ 8 3 (g 8 3 + 1)) = _; rw [hW, nI_1]) (by show g 8 3 + 1 = _; rw [hW, nI_1])
theorem in_X1_X1_removeWorks : ∀ w ∈ u_ws RX1 TX1 10, w ∈ wsX1_removeWorks := by decide +kernel
theorem fk_X1_removeWorks_41 : Cond.fieldLink RX1 41 (TX1 9).1 (TX1 9).2.1 (TX1 9).2.2.1 ∈ wsX1_removeWorks := by decide +kernel
theorem fk_X1_removeWorks_35 : Cond.fieldLink RX1 35 (TX1 7).1 (TX1 7).2.1 (TX1 7).2.2.1 ∈ wsX1_removeWorks := by decide +kernel
theorem fk_X1_removeWorks_38 : Cond.fieldLink RX1 38 (TX1 8).1 (TX1 8).2.1 (TX1 8).2.2.1 ∈ wsX1_removeWorks := by decide +kernel
set_option maxRecDepth 100000 in
set_option maxHeartbeats 4000000 in
theorem k_X1_removeWorks (l : Launch) (D : va_G) (cI cZ cT : ClassId) (a : Nat → Nat) (t g : Nat → Nat → Int32) (j : Nat) (nW : Nat) (hW : g 8 3 = nI nW) (hW3 : nW ≤ 3) (hj : j < nW) : CI l D kCl (kTy cI cZ cT) yX1_removeWorks wsX1_removeWorks ({ frames := 0, cells := 0, slots := 0, locals := 0 }) 0 0 [.ref (a 5), .int (nI j)] (Wl cI cZ cT a t g) (S := Unit) (fun r _ => r = nI (nW - 1)) (fun _ => Wl cI cZ cT a t (up2 (m_sh g j (nW - 1 - j)) 8 3 (nI (nW - 1)))) := by
  refine CI_of (own := RX1) (by decide) rfl rfl (Nat.le_of_ble_eq_true rfl) rfl (fun X A hC hE => ?_)
  refine V_iload_n hC dX1_removeWorks_0 rfl rfl rfl ?_
  refine V_iconst (v := 1) hC dX1_removeWorks_1 (by decide) rfl ?_
  refine V_iadd hC dX1_removeWorks_2 rfl ?_
  refine V_istore_n hC dX1_removeWorks_3 rfl (Nat.le_of_ble_eq_true rfl) rfl ?_
  have loop_4 : ∀ (d k : Nat), nW - k < d → j + 1 + k ≤ nW → V X 0 0 (Wl cI cZ cT a t (m_sh g j k)) [(0, .ref (a 5)), (2, .int (nI (j + 1 + k)))] 4 [] := by
    intro d
    induction d with
    | zero => intro k; intros; omega
    | succ d ih =>
      intro k h hk
      refine V_iload_n hC dX1_removeWorks_4 rfl rfl rfl ?_
      refine V_aload_n hC dX1_removeWorks_5 rfl rfl rfl ?_
      refine V_get (q0 := 5) (C := RX1) (T := TX1) (N := 10) hC dX1_removeWorks_6 in_X1_X1_removeWorks rfl rfl 9 (Nat.le_of_ble_eq_true rfl) fk_X1_removeWorks_41 rfl rfl ?_
      refine V_icmp_ge (tgt := 46) hC dX1_removeWorks_9 (by decide) rfl (fun c_9 => ?_) (fun c_9 => ?_)
      · rw [m_sh8, hW] at c_9
        have c1 := nI_le' c_9 (by omega) (by omega)
        obtain rfl : k = nW - 1 - j := by omega
        refine V_aload_n hC dX1_removeWorks_46 rfl rfl rfl ?_
        refine V_dup hC dX1_removeWorks_47 rfl rfl ?_
        refine V_get (q0 := 5) (C := RX1) (T := TX1) (N := 10) hC dX1_removeWorks_48 in_X1_X1_removeWorks rfl rfl 9 (Nat.le_of_ble_eq_true rfl) fk_X1_removeWorks_41 rfl rfl ?_
        refine V_iconst (v := 1) hC dX1_removeWorks_51 (by decide) rfl ?_
        refine V_isub hC dX1_removeWorks_52 rfl ?_
        refine V_put (q0 := 5) (C := RX1) (T := TX1) (N := 10) hC dX1_removeWorks_53 in_X1_X1_removeWorks tyX1 tyX1_ok nmX1 rfl rfl 9 (Nat.le_of_ble_eq_true rfl) fk_X1_removeWorks_41 rfl rfl rfl rfl (Nat.le_of_ble_eq_true rfl) Wl_s3 rfl ?_
        refine V_aload_n hC dX1_removeWorks_56 rfl rfl rfl ?_
        refine V_get (q0 := 5) (C := RX1) (T := TX1) (N := 10) hC dX1_removeWorks_57 in_X1_X1_removeWorks rfl rfl 9 (Nat.le_of_ble_eq_true rfl) fk_X1_removeWorks_41 rfl rfl ?_
        exact hE _ () _ _ _ dX1_removeWorks_60 rfl (by show Wl cI cZ cT a t (up2 _ 8 3 (m_sh g j (nW - 1 - j) 8 3 - 1)) = _; rw [m_sh8, hW]; obtain ⟨z, rfl⟩ : ∃ z, nW = z + 1 := ⟨nW - 1, by omega⟩; rw [nI_pred]; rfl) (by show m_sh g j (nW - 1 - j) 8 3 - 1 = _; rw [m_sh8, hW]; obtain ⟨z, rfl⟩ : ∃ z, nW = z + 1 := ⟨nW - 1, by omega⟩; exact nI_pred z)
      · rw [m_sh8, hW] at c_9
        have c1 := nI_nle' c_9 (by omega) (by omega)
        have e1 : nI (j + 1 + k) - 1 = nI (j + 1 + k - 1) := by rw [show j + 1 + k = (j + k) + 1 by omega, nI_pred]; rfl
        refine V_aload_n hC dX1_removeWorks_12 rfl rfl rfl ?_
        refine V_get (q0 := 5) (C := RX1) (T := TX1) (N := 10) hC dX1_removeWorks_13 in_X1_X1_removeWorks rfl rfl 7 (Nat.le_of_ble_eq_true rfl) fk_X1_removeWorks_35 rfl rfl ?_
        refine V_iload_n hC dX1_removeWorks_16 rfl rfl rfl ?_
        refine V_iconst (v := 1) hC dX1_removeWorks_17 (by decide) rfl ?_
        refine V_isub hC dX1_removeWorks_18 rfl ?_
        refine V_aload_n hC dX1_removeWorks_19 rfl rfl rfl ?_
        refine V_get (q0 := 5) (C := RX1) (T := TX1) (N := 10) hC dX1_removeWorks_20 in_X1_X1_removeWorks rfl rfl 7 (Nat.le_of_ble_eq_true rfl) fk_X1_removeWorks_35 rfl rfl ?_
        refine V_iload_n hC dX1_removeWorks_23 rfl rfl rfl ?_
        refine V_iald (q0 := 12) hC dX1_removeWorks_24 rfl 0 rfl rfl (by omega) (by decide) rfl ?_
        refine V_iast (q0 := 12) hC dX1_removeWorks_25 rfl 0 rfl e1 (by omega) (by decide) Wl_r6 rfl ?_
        refine V_aload_n hC dX1_removeWorks_26 rfl rfl rfl ?_
        refine V_get (q0 := 5) (C := RX1) (T := TX1) (N := 10) hC dX1_removeWorks_27 in_X1_X1_removeWorks rfl rfl 8 (Nat.le_of_ble_eq_true rfl) fk_X1_removeWorks_38 rfl rfl ?_
        refine V_iload_n hC dX1_removeWorks_30 rfl rfl rfl ?_
        refine V_iconst (v := 1) hC dX1_removeWorks_31 (by decide) rfl ?_
        refine V_isub hC dX1_removeWorks_32 rfl ?_
        refine V_aload_n hC dX1_removeWorks_33 rfl rfl rfl ?_
        refine V_get (q0 := 5) (C := RX1) (T := TX1) (N := 10) hC dX1_removeWorks_34 in_X1_X1_removeWorks rfl rfl 8 (Nat.le_of_ble_eq_true rfl) fk_X1_removeWorks_38 rfl rfl ?_
        refine V_iload_n hC dX1_removeWorks_37 rfl rfl rfl ?_
        refine V_iald (q0 := 13) hC dX1_removeWorks_38 rfl 0 rfl rfl (by omega) (by decide) rfl ?_
        refine V_iast (q0 := 13) hC dX1_removeWorks_39 rfl 0 rfl e1 (by omega) (by decide) Wl_r7 rfl ?_
        refine V_iinc hC dX1_removeWorks_40 rfl (nI_1 _) (Nat.le_of_ble_eq_true rfl) rfl ?_
        refine V_goto (tgt := 4) hC dX1_removeWorks_43 (by decide) ?_
        exact V_ws (by rw [show j + 1 + k - 1 = j + k by omega, show j + 1 + k = j + k + 1 by omega]; rfl) (V_to (ih (k + 1) (by omega) (by omega)) (lc rfl (lc rfl ln)))
  exact V_to (loop_4 _ 0 (Nat.lt_succ_self _) (by omega)) (lc rfl (lc (kv (nI_1 j)) ln))
